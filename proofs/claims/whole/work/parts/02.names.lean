def R_V : String := "VotedCore"
def R_Me : String := "VotedCore$Memory"
def R_Ca : String := "VotedCore$Cache"
def R_Re : String := "VotedCore$Registers"
def R_Fa : String := "VotedCore$Faults"
def R_Co : String := "VotedCore$Code"
def R_Mo : String := "VotedCoreModel"
def R_Lw : String := "VotedCoreLaw"
def R_Lg : String := "java/lang/Long"
def R_In : String := "java/lang/Integer"
def R_Ar : String := "java/util/Arrays"
def F_V : u_T := fun k => match k with
  | 0 => (R_V, "every", "I", true)
  | 1 => (R_V, "memory", "LVotedCore$Memory;", true)
  | 2 => (R_V, "codeCache", "LVotedCore$Cache;", true)
  | 3 => (R_V, "dataCache", "LVotedCore$Cache;", true)
  | 4 => (R_V, "registers", "LVotedCore$Registers;", true)
  | 5 => (R_V, "faults", "LVotedCore$Faults;", true)
  | 6 => (R_V, "cyclesDone", "I", false)
  | 7 => (R_V, "scrubPlace", "I", false)
  | 8 => (R_V, "detected", "I", false)
  | 9 => (R_V, "stopCause", "I", false)
  | _ => (R_V, "stopValue", "I", false)
def t_V : Nat → FieldType := fun k => match k with
  | 0 => .int
  | 1 => .object "VotedCore$Memory"
  | 2 => .object "VotedCore$Cache"
  | 3 => .object "VotedCore$Cache"
  | 4 => .object "VotedCore$Registers"
  | 5 => .object "VotedCore$Faults"
  | 6 => .int
  | 7 => .int
  | 8 => .int
  | 9 => .int
  | _ => .int
theorem n_V : ∀ a, a < 11 → ∀ b, b < 11 → a ≠ b → (F_V a).2.1 ≠ (F_V b).2.1 := by decide +kernel
theorem t_V_ok : ∀ k, k < 11 → parseFieldDescriptor (F_V k).2.2.1 = some (t_V k) := by decide +kernel
def F_Me : u_T := fun k => match k with
  | 0 => (R_Me, "kept", "[J", true)
  | _ => (R_Me, "corrected", "I", false)
def t_Me : Nat → FieldType := fun k => match k with
  | 0 => .array .long
  | _ => .int
theorem n_Me : ∀ a, a < 2 → ∀ b, b < 2 → a ≠ b → (F_Me a).2.1 ≠ (F_Me b).2.1 := by decide +kernel
theorem t_Me_ok : ∀ k, k < 2 → parseFieldDescriptor (F_Me k).2.2.1 = some (t_Me k) := by decide +kernel
def F_Ca : u_T := fun k => match k with
  | 0 => (R_Ca, "lines", "[J", true)
  | _ => (R_Ca, "refetched", "I", false)
def t_Ca : Nat → FieldType := fun k => match k with
  | 0 => .array .long
  | _ => .int
theorem n_Ca : ∀ a, a < 2 → ∀ b, b < 2 → a ≠ b → (F_Ca a).2.1 ≠ (F_Ca b).2.1 := by decide +kernel
theorem t_Ca_ok : ∀ k, k < 2 → parseFieldDescriptor (F_Ca k).2.2.1 = some (t_Ca k) := by decide +kernel
def F_Re : u_T := fun k => match k with
  | 0 => (R_Re, "copies", "[I", true)
  | _ => (R_Re, "voted", "I", false)
def t_Re : Nat → FieldType := fun k => match k with
  | 0 => .array .int
  | _ => .int
theorem n_Re : ∀ a, a < 2 → ∀ b, b < 2 → a ≠ b → (F_Re a).2.1 ≠ (F_Re b).2.1 := by decide +kernel
theorem t_Re_ok : ∀ k, k < 2 → parseFieldDescriptor (F_Re k).2.2.1 = some (t_Re k) := by decide +kernel
def F_Fa : u_T := fun k => match k with
  | 0 => (R_Fa, "cycle", "[I", true)
  | 1 => (R_Fa, "part", "[I", true)
  | 2 => (R_Fa, "bit", "[I", true)
  | _ => (R_Fa, "size", "I", false)
def t_Fa : Nat → FieldType := fun k => match k with
  | 0 => .array .int
  | 1 => .array .int
  | 2 => .array .int
  | _ => .int
theorem n_Fa : ∀ a, a < 4 → ∀ b, b < 4 → a ≠ b → (F_Fa a).2.1 ≠ (F_Fa b).2.1 := by decide +kernel
theorem t_Fa_ok : ∀ k, k < 4 → parseFieldDescriptor (F_Fa k).2.2.1 = some (t_Fa k) := by decide +kernel
def F_Mo : u_T := fun k => match k with
  | 0 => (R_Mo, "every", "I", true)
  | 1 => (R_Mo, "written", "[I", true)
  | 2 => (R_Mo, "wrong", "[J", true)
  | 3 => (R_Mo, "kept", "[I", true)
  | 4 => (R_Mo, "mask", "[I", true)
  | 5 => (R_Mo, "lines", "[J", true)
  | 6 => (R_Mo, "plans", "I", false)
  | 7 => (R_Mo, "plan", "[I", true)
  | 8 => (R_Mo, "cycles", "I", false)
  | 9 => (R_Mo, "cause", "I", false)
  | 10 => (R_Mo, "value", "I", false)
  | 11 => (R_Mo, "counts", "[I", true)
  | 12 => (R_Mo, "p", "I", false)
  | 13 => (R_Mo, "x", "I", false)
  | 14 => (R_Mo, "got", "I", false)
  | 15 => (R_Mo, "next", "I", false)
  | 16 => (R_Mo, "gives", "Z", false)
  | _ => (R_Mo, "given", "I", false)
def t_Mo : Nat → FieldType := fun k => match k with
  | 0 => .int
  | 1 => .array .int
  | 2 => .array .long
  | 3 => .array .int
  | 4 => .array .int
  | 5 => .array .long
  | 6 => .int
  | 7 => .array .int
  | 8 => .int
  | 9 => .int
  | 10 => .int
  | 11 => .array .int
  | 12 => .int
  | 13 => .int
  | 14 => .int
  | 15 => .int
  | 16 => .boolean
  | _ => .int
theorem n_Mo : ∀ a, a < 18 → ∀ b, b < 18 → a ≠ b → (F_Mo a).2.1 ≠ (F_Mo b).2.1 := by decide +kernel
theorem t_Mo_ok : ∀ k, k < 18 → parseFieldDescriptor (F_Mo k).2.2.1 = some (t_Mo k) := by decide +kernel
abbrev classes : List vw_C := [(R_V, F_V, 11), (R_Me, F_Me, 2), (R_Ca, F_Ca, 2), (R_Re, F_Re, 2), (R_Fa, F_Fa, 4), (R_Mo, F_Mo, 18)]
abbrev b_Lg_bitCount : ByteArray := prog_10_method_50_code
def y_Lg_bitCount : MethodName := ⟨R_Lg, "bitCount", "(J)I"⟩
theorem hd_Lg_bitCount : y_Lg_bitCount.cls ≠ "java/lang/invoke/MethodHandle" ∧ y_Lg_bitCount.cls ≠ "java/lang/invoke/VarHandle" ∧ (parseMethodDescriptor y_Lg_bitCount.desc).map (fun d => d.parameters.length) = some 1 := by decide +kernel
abbrev b_In_compare : ByteArray := prog_9_method_40_code
def y_In_compare : MethodName := ⟨R_In, "compare", "(II)I"⟩
theorem hd_In_compare : y_In_compare.cls ≠ "java/lang/invoke/MethodHandle" ∧ y_In_compare.cls ≠ "java/lang/invoke/VarHandle" ∧ (parseMethodDescriptor y_In_compare.desc).map (fun d => d.parameters.length) = some 2 := by decide +kernel
abbrev b_In_compareUnsigned : ByteArray := prog_9_method_41_code
def y_In_compareUnsigned : MethodName := ⟨R_In, "compareUnsigned", "(II)I"⟩
theorem hd_In_compareUnsigned : y_In_compareUnsigned.cls ≠ "java/lang/invoke/MethodHandle" ∧ y_In_compareUnsigned.cls ≠ "java/lang/invoke/VarHandle" ∧ (parseMethodDescriptor y_In_compareUnsigned.desc).map (fun d => d.parameters.length) = some 2 := by decide +kernel
abbrev b_Ar_fill : ByteArray := prog_12_method_101_code
def y_Ar_fill : MethodName := ⟨R_Ar, "fill", "([JJ)V"⟩
theorem hd_Ar_fill : y_Ar_fill.cls ≠ "java/lang/invoke/MethodHandle" ∧ y_Ar_fill.cls ≠ "java/lang/invoke/VarHandle" ∧ (parseMethodDescriptor y_Ar_fill.desc).map (fun d => d.parameters.length) = some 2 := by decide +kernel
abbrev b_Co_op : ByteArray := prog_3_method_2_code
def y_Co_op : MethodName := ⟨R_Co, "op", "(I)I"⟩
theorem hd_Co_op : y_Co_op.cls ≠ "java/lang/invoke/MethodHandle" ∧ y_Co_op.cls ≠ "java/lang/invoke/VarHandle" ∧ (parseMethodDescriptor y_Co_op.desc).map (fun d => d.parameters.length) = some 1 := by decide +kernel
abbrev b_Co_d : ByteArray := prog_3_method_3_code
def y_Co_d : MethodName := ⟨R_Co, "d", "(I)I"⟩
theorem hd_Co_d : y_Co_d.cls ≠ "java/lang/invoke/MethodHandle" ∧ y_Co_d.cls ≠ "java/lang/invoke/VarHandle" ∧ (parseMethodDescriptor y_Co_d.desc).map (fun d => d.parameters.length) = some 1 := by decide +kernel
abbrev b_Co_f : ByteArray := prog_3_method_4_code
def y_Co_f : MethodName := ⟨R_Co, "f", "(I)I"⟩
theorem hd_Co_f : y_Co_f.cls ≠ "java/lang/invoke/MethodHandle" ∧ y_Co_f.cls ≠ "java/lang/invoke/VarHandle" ∧ (parseMethodDescriptor y_Co_f.desc).map (fun d => d.parameters.length) = some 1 := by decide +kernel
abbrev b_Co_s : ByteArray := prog_3_method_5_code
def y_Co_s : MethodName := ⟨R_Co, "s", "(I)I"⟩
theorem hd_Co_s : y_Co_s.cls ≠ "java/lang/invoke/MethodHandle" ∧ y_Co_s.cls ≠ "java/lang/invoke/VarHandle" ∧ (parseMethodDescriptor y_Co_s.desc).map (fun d => d.parameters.length) = some 1 := by decide +kernel
abbrev b_Co_t : ByteArray := prog_3_method_6_code
def y_Co_t : MethodName := ⟨R_Co, "t", "(I)I"⟩
theorem hd_Co_t : y_Co_t.cls ≠ "java/lang/invoke/MethodHandle" ∧ y_Co_t.cls ≠ "java/lang/invoke/VarHandle" ∧ (parseMethodDescriptor y_Co_t.desc).map (fun d => d.parameters.length) = some 1 := by decide +kernel
abbrev b_Co_g : ByteArray := prog_3_method_7_code
def y_Co_g : MethodName := ⟨R_Co, "g", "(I)I"⟩
theorem hd_Co_g : y_Co_g.cls ≠ "java/lang/invoke/MethodHandle" ∧ y_Co_g.cls ≠ "java/lang/invoke/VarHandle" ∧ (parseMethodDescriptor y_Co_g.desc).map (fun d => d.parameters.length) = some 1 := by decide +kernel
abbrev b_Co_i : ByteArray := prog_3_method_8_code
def y_Co_i : MethodName := ⟨R_Co, "i", "(I)I"⟩
theorem hd_Co_i : y_Co_i.cls ≠ "java/lang/invoke/MethodHandle" ∧ y_Co_i.cls ≠ "java/lang/invoke/VarHandle" ∧ (parseMethodDescriptor y_Co_i.desc).map (fun d => d.parameters.length) = some 1 := by decide +kernel
abbrev b_Co_j : ByteArray := prog_3_method_9_code
def y_Co_j : MethodName := ⟨R_Co, "j", "(I)I"⟩
theorem hd_Co_j : y_Co_j.cls ≠ "java/lang/invoke/MethodHandle" ∧ y_Co_j.cls ≠ "java/lang/invoke/VarHandle" ∧ (parseMethodDescriptor y_Co_j.desc).map (fun d => d.parameters.length) = some 1 := by decide +kernel
abbrev b_Co_k : ByteArray := prog_3_method_10_code
def y_Co_k : MethodName := ⟨R_Co, "k", "(I)I"⟩
theorem hd_Co_k : y_Co_k.cls ≠ "java/lang/invoke/MethodHandle" ∧ y_Co_k.cls ≠ "java/lang/invoke/VarHandle" ∧ (parseMethodDescriptor y_Co_k.desc).map (fun d => d.parameters.length) = some 1 := by decide +kernel
abbrev b_Co_u : ByteArray := prog_3_method_11_code
def y_Co_u : MethodName := ⟨R_Co, "u", "(I)I"⟩
theorem hd_Co_u : y_Co_u.cls ≠ "java/lang/invoke/MethodHandle" ∧ y_Co_u.cls ≠ "java/lang/invoke/VarHandle" ∧ (parseMethodDescriptor y_Co_u.desc).map (fun d => d.parameters.length) = some 1 := by decide +kernel
abbrev b_Co_l : ByteArray := prog_3_method_12_code
def y_Co_l : MethodName := ⟨R_Co, "l", "(I)I"⟩
theorem hd_Co_l : y_Co_l.cls ≠ "java/lang/invoke/MethodHandle" ∧ y_Co_l.cls ≠ "java/lang/invoke/VarHandle" ∧ (parseMethodDescriptor y_Co_l.desc).map (fun d => d.parameters.length) = some 1 := by decide +kernel
abbrev b_Co_size : ByteArray := prog_3_method_13_code
def y_Co_size : MethodName := ⟨R_Co, "size", "(I)I"⟩
theorem hd_Co_size : y_Co_size.cls ≠ "java/lang/invoke/MethodHandle" ∧ y_Co_size.cls ≠ "java/lang/invoke/VarHandle" ∧ (parseMethodDescriptor y_Co_size.desc).map (fun d => d.parameters.length) = some 1 := by decide +kernel
abbrev b_Co_shiftOf : ByteArray := prog_3_method_14_code
def y_Co_shiftOf : MethodName := ⟨R_Co, "shiftOf", "(I)I"⟩
theorem hd_Co_shiftOf : y_Co_shiftOf.cls ≠ "java/lang/invoke/MethodHandle" ∧ y_Co_shiftOf.cls ≠ "java/lang/invoke/VarHandle" ∧ (parseMethodDescriptor y_Co_shiftOf.desc).map (fun d => d.parameters.length) = some 1 := by decide +kernel
abbrev b_Co_loaded : ByteArray := prog_3_method_15_code
def y_Co_loaded : MethodName := ⟨R_Co, "loaded", "(II)I"⟩
theorem hd_Co_loaded : y_Co_loaded.cls ≠ "java/lang/invoke/MethodHandle" ∧ y_Co_loaded.cls ≠ "java/lang/invoke/VarHandle" ∧ (parseMethodDescriptor y_Co_loaded.desc).map (fun d => d.parameters.length) = some 2 := by decide +kernel
abbrev b_Co_isTaken : ByteArray := prog_3_method_16_code
def y_Co_isTaken : MethodName := ⟨R_Co, "isTaken", "(III)Z"⟩
theorem hd_Co_isTaken : y_Co_isTaken.cls ≠ "java/lang/invoke/MethodHandle" ∧ y_Co_isTaken.cls ≠ "java/lang/invoke/VarHandle" ∧ (parseMethodDescriptor y_Co_isTaken.desc).map (fun d => d.parameters.length) = some 3 := by decide +kernel
abbrev b_Co_computed : ByteArray := prog_3_method_17_code
def y_Co_computed : MethodName := ⟨R_Co, "computed", "(IZII)I"⟩
theorem hd_Co_computed : y_Co_computed.cls ≠ "java/lang/invoke/MethodHandle" ∧ y_Co_computed.cls ≠ "java/lang/invoke/VarHandle" ∧ (parseMethodDescriptor y_Co_computed.desc).map (fun d => d.parameters.length) = some 4 := by decide +kernel
abbrev b_Me_xorOfNumbers : ByteArray := prog_5_method_6_code
def y_Me_xorOfNumbers : MethodName := ⟨R_Me, "xorOfNumbers", "(J)I"⟩
theorem hd_Me_xorOfNumbers : y_Me_xorOfNumbers.cls ≠ "java/lang/invoke/MethodHandle" ∧ y_Me_xorOfNumbers.cls ≠ "java/lang/invoke/VarHandle" ∧ (parseMethodDescriptor y_Me_xorOfNumbers.desc).map (fun d => d.parameters.length) = some 1 := by decide +kernel
abbrev b_Me_spread : ByteArray := prog_5_method_7_code
def y_Me_spread : MethodName := ⟨R_Me, "spread", "(I)J"⟩
theorem hd_Me_spread : y_Me_spread.cls ≠ "java/lang/invoke/MethodHandle" ∧ y_Me_spread.cls ≠ "java/lang/invoke/VarHandle" ∧ (parseMethodDescriptor y_Me_spread.desc).map (fun d => d.parameters.length) = some 1 := by decide +kernel
abbrev b_Me_gathered : ByteArray := prog_5_method_8_code
def y_Me_gathered : MethodName := ⟨R_Me, "gathered", "(J)J"⟩
theorem hd_Me_gathered : y_Me_gathered.cls ≠ "java/lang/invoke/MethodHandle" ∧ y_Me_gathered.cls ≠ "java/lang/invoke/VarHandle" ∧ (parseMethodDescriptor y_Me_gathered.desc).map (fun d => d.parameters.length) = some 1 := by decide +kernel
abbrev b_Me_putRight : ByteArray := prog_5_method_5_code
def y_Me_putRight : MethodName := ⟨R_Me, "putRight", "(J)J"⟩
theorem hd_Me_putRight : y_Me_putRight.cls ≠ "java/lang/invoke/MethodHandle" ∧ y_Me_putRight.cls ≠ "java/lang/invoke/VarHandle" ∧ (parseMethodDescriptor y_Me_putRight.desc).map (fun d => d.parameters.length) = some 1 := by decide +kernel
abbrev b_Me_keep : ByteArray := prog_5_method_2_code
def y_Me_keep : MethodName := ⟨R_Me, "keep", "(II)V"⟩
theorem hd_Me_keep : y_Me_keep.cls ≠ "java/lang/invoke/MethodHandle" ∧ y_Me_keep.cls ≠ "java/lang/invoke/VarHandle" ∧ (parseMethodDescriptor y_Me_keep.desc).map (fun d => d.parameters.length) = some 2 := by decide +kernel
abbrev b_Me_inspect : ByteArray := prog_5_method_3_code
def y_Me_inspect : MethodName := ⟨R_Me, "inspect", "(I)J"⟩
theorem hd_Me_inspect : y_Me_inspect.cls ≠ "java/lang/invoke/MethodHandle" ∧ y_Me_inspect.cls ≠ "java/lang/invoke/VarHandle" ∧ (parseMethodDescriptor y_Me_inspect.desc).map (fun d => d.parameters.length) = some 1 := by decide +kernel
abbrev b_Me_mend : ByteArray := prog_5_method_4_code
def y_Me_mend : MethodName := ⟨R_Me, "mend", "(I)J"⟩
theorem hd_Me_mend : y_Me_mend.cls ≠ "java/lang/invoke/MethodHandle" ∧ y_Me_mend.cls ≠ "java/lang/invoke/VarHandle" ∧ (parseMethodDescriptor y_Me_mend.desc).map (fun d => d.parameters.length) = some 1 := by decide +kernel
abbrev b_Ca_dropAll : ByteArray := prog_2_method_2_code
def y_Ca_dropAll : MethodName := ⟨R_Ca, "dropAll", "()V"⟩
theorem hd_Ca_dropAll : y_Ca_dropAll.cls ≠ "java/lang/invoke/MethodHandle" ∧ y_Ca_dropAll.cls ≠ "java/lang/invoke/VarHandle" ∧ (parseMethodDescriptor y_Ca_dropAll.desc).map (fun d => d.parameters.length) = some 0 := by decide +kernel
abbrev b_Ca_drop : ByteArray := prog_2_method_3_code
def y_Ca_drop : MethodName := ⟨R_Ca, "drop", "(I)V"⟩
theorem hd_Ca_drop : y_Ca_drop.cls ≠ "java/lang/invoke/MethodHandle" ∧ y_Ca_drop.cls ≠ "java/lang/invoke/VarHandle" ∧ (parseMethodDescriptor y_Ca_drop.desc).map (fun d => d.parameters.length) = some 1 := by decide +kernel
abbrev b_Ca_dropIfWrong : ByteArray := prog_2_method_4_code
def y_Ca_dropIfWrong : MethodName := ⟨R_Ca, "dropIfWrong", "(I)V"⟩
theorem hd_Ca_dropIfWrong : y_Ca_dropIfWrong.cls ≠ "java/lang/invoke/MethodHandle" ∧ y_Ca_dropIfWrong.cls ≠ "java/lang/invoke/VarHandle" ∧ (parseMethodDescriptor y_Ca_dropIfWrong.desc).map (fun d => d.parameters.length) = some 1 := by decide +kernel
abbrev b_Ca_holds : ByteArray := prog_2_method_5_code
def y_Ca_holds : MethodName := ⟨R_Ca, "holds", "(I)Z"⟩
theorem hd_Ca_holds : y_Ca_holds.cls ≠ "java/lang/invoke/MethodHandle" ∧ y_Ca_holds.cls ≠ "java/lang/invoke/VarHandle" ∧ (parseMethodDescriptor y_Ca_holds.desc).map (fun d => d.parameters.length) = some 1 := by decide +kernel
abbrev b_Ca_held : ByteArray := prog_2_method_6_code
def y_Ca_held : MethodName := ⟨R_Ca, "held", "(I)J"⟩
theorem hd_Ca_held : y_Ca_held.cls ≠ "java/lang/invoke/MethodHandle" ∧ y_Ca_held.cls ≠ "java/lang/invoke/VarHandle" ∧ (parseMethodDescriptor y_Ca_held.desc).map (fun d => d.parameters.length) = some 1 := by decide +kernel
abbrev b_Ca_fill : ByteArray := prog_2_method_7_code
def y_Ca_fill : MethodName := ⟨R_Ca, "fill", "(II)V"⟩
theorem hd_Ca_fill : y_Ca_fill.cls ≠ "java/lang/invoke/MethodHandle" ∧ y_Ca_fill.cls ≠ "java/lang/invoke/VarHandle" ∧ (parseMethodDescriptor y_Ca_fill.desc).map (fun d => d.parameters.length) = some 2 := by decide +kernel
abbrev b_Re_agreed : ByteArray := prog_6_method_2_code
def y_Re_agreed : MethodName := ⟨R_Re, "agreed", "(I)I"⟩
theorem hd_Re_agreed : y_Re_agreed.cls ≠ "java/lang/invoke/MethodHandle" ∧ y_Re_agreed.cls ≠ "java/lang/invoke/VarHandle" ∧ (parseMethodDescriptor y_Re_agreed.desc).map (fun d => d.parameters.length) = some 1 := by decide +kernel
abbrev b_Re_put : ByteArray := prog_6_method_3_code
def y_Re_put : MethodName := ⟨R_Re, "put", "(II)V"⟩
theorem hd_Re_put : y_Re_put.cls ≠ "java/lang/invoke/MethodHandle" ∧ y_Re_put.cls ≠ "java/lang/invoke/VarHandle" ∧ (parseMethodDescriptor y_Re_put.desc).map (fun d => d.parameters.length) = some 2 := by decide +kernel
abbrev b_Re_operand : ByteArray := prog_6_method_4_code
def y_Re_operand : MethodName := ⟨R_Re, "operand", "(I)I"⟩
theorem hd_Re_operand : y_Re_operand.cls ≠ "java/lang/invoke/MethodHandle" ∧ y_Re_operand.cls ≠ "java/lang/invoke/VarHandle" ∧ (parseMethodDescriptor y_Re_operand.desc).map (fun d => d.parameters.length) = some 1 := by decide +kernel
abbrev b_Re_putResult : ByteArray := prog_6_method_5_code
def y_Re_putResult : MethodName := ⟨R_Re, "putResult", "(II)V"⟩
theorem hd_Re_putResult : y_Re_putResult.cls ≠ "java/lang/invoke/MethodHandle" ∧ y_Re_putResult.cls ≠ "java/lang/invoke/VarHandle" ∧ (parseMethodDescriptor y_Re_putResult.desc).map (fun d => d.parameters.length) = some 2 := by decide +kernel
abbrev b_Re_vote : ByteArray := prog_6_method_6_code
def y_Re_vote : MethodName := ⟨R_Re, "vote", "()V"⟩
theorem hd_Re_vote : y_Re_vote.cls ≠ "java/lang/invoke/MethodHandle" ∧ y_Re_vote.cls ≠ "java/lang/invoke/VarHandle" ∧ (parseMethodDescriptor y_Re_vote.desc).map (fun d => d.parameters.length) = some 0 := by decide +kernel
abbrev b_Fa_append : ByteArray := prog_4_method_2_code
def y_Fa_append : MethodName := ⟨R_Fa, "append", "(III)V"⟩
theorem hd_Fa_append : y_Fa_append.cls ≠ "java/lang/invoke/MethodHandle" ∧ y_Fa_append.cls ≠ "java/lang/invoke/VarHandle" ∧ (parseMethodDescriptor y_Fa_append.desc).map (fun d => d.parameters.length) = some 3 := by decide +kernel
abbrev b_Fa_move : ByteArray := prog_4_method_3_code
def y_Fa_move : MethodName := ⟨R_Fa, "move", "(II)V"⟩
theorem hd_Fa_move : y_Fa_move.cls ≠ "java/lang/invoke/MethodHandle" ∧ y_Fa_move.cls ≠ "java/lang/invoke/VarHandle" ∧ (parseMethodDescriptor y_Fa_move.desc).map (fun d => d.parameters.length) = some 2 := by decide +kernel
abbrev b_V_isWord : ByteArray := prog_1_method_16_code
def y_V_isWord : MethodName := ⟨R_V, "isWord", "(I)Z"⟩
theorem hd_V_isWord : y_V_isWord.cls ≠ "java/lang/invoke/MethodHandle" ∧ y_V_isWord.cls ≠ "java/lang/invoke/VarHandle" ∧ (parseMethodDescriptor y_V_isWord.desc).map (fun d => d.parameters.length) = some 1 := by decide +kernel
abbrev b_V_isRegister : ByteArray := prog_1_method_17_code
def y_V_isRegister : MethodName := ⟨R_V, "isRegister", "(I)Z"⟩
theorem hd_V_isRegister : y_V_isRegister.cls ≠ "java/lang/invoke/MethodHandle" ∧ y_V_isRegister.cls ≠ "java/lang/invoke/VarHandle" ∧ (parseMethodDescriptor y_V_isRegister.desc).map (fun d => d.parameters.length) = some 1 := by decide +kernel
abbrev b_V_isBit : ByteArray := prog_1_method_18_code
def y_V_isBit : MethodName := ⟨R_V, "isBit", "(II)Z"⟩
theorem hd_V_isBit : y_V_isBit.cls ≠ "java/lang/invoke/MethodHandle" ∧ y_V_isBit.cls ≠ "java/lang/invoke/VarHandle" ∧ (parseMethodDescriptor y_V_isBit.desc).map (fun d => d.parameters.length) = some 2 := by decide +kernel
abbrev b_V_isAddress : ByteArray := prog_1_method_19_code
def y_V_isAddress : MethodName := ⟨R_V, "isAddress", "(II)Z"⟩
theorem hd_V_isAddress : y_V_isAddress.cls ≠ "java/lang/invoke/MethodHandle" ∧ y_V_isAddress.cls ≠ "java/lang/invoke/VarHandle" ∧ (parseMethodDescriptor y_V_isAddress.desc).map (fun d => d.parameters.length) = some 2 := by decide +kernel
abbrev b_V_invert : ByteArray := prog_1_method_20_code
def y_V_invert : MethodName := ⟨R_V, "invert", "(II)V"⟩
theorem hd_V_invert : y_V_invert.cls ≠ "java/lang/invoke/MethodHandle" ∧ y_V_invert.cls ≠ "java/lang/invoke/VarHandle" ∧ (parseMethodDescriptor y_V_invert.desc).map (fun d => d.parameters.length) = some 2 := by decide +kernel
abbrev b_V_write : ByteArray := prog_1_method_2_code
def y_V_write : MethodName := ⟨R_V, "write", "(II)Z"⟩
theorem hd_V_write : y_V_write.cls ≠ "java/lang/invoke/MethodHandle" ∧ y_V_write.cls ≠ "java/lang/invoke/VarHandle" ∧ (parseMethodDescriptor y_V_write.desc).map (fun d => d.parameters.length) = some 2 := by decide +kernel
abbrev b_V_set : ByteArray := prog_1_method_3_code
def y_V_set : MethodName := ⟨R_V, "set", "(II)Z"⟩
theorem hd_V_set : y_V_set.cls ≠ "java/lang/invoke/MethodHandle" ∧ y_V_set.cls ≠ "java/lang/invoke/VarHandle" ∧ (parseMethodDescriptor y_V_set.desc).map (fun d => d.parameters.length) = some 2 := by decide +kernel
abbrev b_V_register : ByteArray := prog_1_method_4_code
def y_V_register : MethodName := ⟨R_V, "register", "(I)I"⟩
theorem hd_V_register : y_V_register.cls ≠ "java/lang/invoke/MethodHandle" ∧ y_V_register.cls ≠ "java/lang/invoke/VarHandle" ∧ (parseMethodDescriptor y_V_register.desc).map (fun d => d.parameters.length) = some 1 := by decide +kernel
abbrev b_V_look : ByteArray := prog_1_method_5_code
def y_V_look : MethodName := ⟨R_V, "look", "(I)J"⟩
theorem hd_V_look : y_V_look.cls ≠ "java/lang/invoke/MethodHandle" ∧ y_V_look.cls ≠ "java/lang/invoke/VarHandle" ∧ (parseMethodDescriptor y_V_look.desc).map (fun d => d.parameters.length) = some 1 := by decide +kernel
abbrev b_V_bits : ByteArray := prog_1_method_6_code
def y_V_bits : MethodName := ⟨R_V, "bits", "(I)J"⟩
theorem hd_V_bits : y_V_bits.cls ≠ "java/lang/invoke/MethodHandle" ∧ y_V_bits.cls ≠ "java/lang/invoke/VarHandle" ∧ (parseMethodDescriptor y_V_bits.desc).map (fun d => d.parameters.length) = some 1 := by decide +kernel
abbrev b_V_flip : ByteArray := prog_1_method_7_code
def y_V_flip : MethodName := ⟨R_V, "flip", "(II)Z"⟩
theorem hd_V_flip : y_V_flip.cls ≠ "java/lang/invoke/MethodHandle" ∧ y_V_flip.cls ≠ "java/lang/invoke/VarHandle" ∧ (parseMethodDescriptor y_V_flip.desc).map (fun d => d.parameters.length) = some 2 := by decide +kernel
abbrev b_V_plan : ByteArray := prog_1_method_8_code
def y_V_plan : MethodName := ⟨R_V, "plan", "(III)Z"⟩
theorem hd_V_plan : y_V_plan.cls ≠ "java/lang/invoke/MethodHandle" ∧ y_V_plan.cls ≠ "java/lang/invoke/VarHandle" ∧ (parseMethodDescriptor y_V_plan.desc).map (fun d => d.parameters.length) = some 3 := by decide +kernel
abbrev b_V_planned : ByteArray := prog_1_method_9_code
def y_V_planned : MethodName := ⟨R_V, "planned", "()I"⟩
theorem hd_V_planned : y_V_planned.cls ≠ "java/lang/invoke/MethodHandle" ∧ y_V_planned.cls ≠ "java/lang/invoke/VarHandle" ∧ (parseMethodDescriptor y_V_planned.desc).map (fun d => d.parameters.length) = some 0 := by decide +kernel
abbrev b_V_cause : ByteArray := prog_1_method_11_code
def y_V_cause : MethodName := ⟨R_V, "cause", "()I"⟩
theorem hd_V_cause : y_V_cause.cls ≠ "java/lang/invoke/MethodHandle" ∧ y_V_cause.cls ≠ "java/lang/invoke/VarHandle" ∧ (parseMethodDescriptor y_V_cause.desc).map (fun d => d.parameters.length) = some 0 := by decide +kernel
abbrev b_V_value : ByteArray := prog_1_method_12_code
def y_V_value : MethodName := ⟨R_V, "value", "()I"⟩
theorem hd_V_value : y_V_value.cls ≠ "java/lang/invoke/MethodHandle" ∧ y_V_value.cls ≠ "java/lang/invoke/VarHandle" ∧ (parseMethodDescriptor y_V_value.desc).map (fun d => d.parameters.length) = some 0 := by decide +kernel
abbrev b_V_cycles : ByteArray := prog_1_method_14_code
def y_V_cycles : MethodName := ⟨R_V, "cycles", "()I"⟩
theorem hd_V_cycles : y_V_cycles.cls ≠ "java/lang/invoke/MethodHandle" ∧ y_V_cycles.cls ≠ "java/lang/invoke/VarHandle" ∧ (parseMethodDescriptor y_V_cycles.desc).map (fun d => d.parameters.length) = some 0 := by decide +kernel
abbrev b_V_count : ByteArray := prog_1_method_15_code
def y_V_count : MethodName := ⟨R_V, "count", "(I)I"⟩
theorem hd_V_count : y_V_count.cls ≠ "java/lang/invoke/MethodHandle" ∧ y_V_count.cls ≠ "java/lang/invoke/VarHandle" ∧ (parseMethodDescriptor y_V_count.desc).map (fun d => d.parameters.length) = some 1 := by decide +kernel
abbrev b_V_stop : ByteArray := prog_1_method_23_code
def y_V_stop : MethodName := ⟨R_V, "stop", "(II)V"⟩
theorem hd_V_stop : y_V_stop.cls ≠ "java/lang/invoke/MethodHandle" ∧ y_V_stop.cls ≠ "java/lang/invoke/VarHandle" ∧ (parseMethodDescriptor y_V_stop.desc).map (fun d => d.parameters.length) = some 2 := by decide +kernel
abbrev b_V_resume : ByteArray := prog_1_method_13_code
def y_V_resume : MethodName := ⟨R_V, "resume", "(I)Z"⟩
theorem hd_V_resume : y_V_resume.cls ≠ "java/lang/invoke/MethodHandle" ∧ y_V_resume.cls ≠ "java/lang/invoke/VarHandle" ∧ (parseMethodDescriptor y_V_resume.desc).map (fun d => d.parameters.length) = some 1 := by decide +kernel
abbrev b_V_makePlannedFaults : ByteArray := prog_1_method_21_code
def y_V_makePlannedFaults : MethodName := ⟨R_V, "makePlannedFaults", "()V"⟩
theorem hd_V_makePlannedFaults : y_V_makePlannedFaults.cls ≠ "java/lang/invoke/MethodHandle" ∧ y_V_makePlannedFaults.cls ≠ "java/lang/invoke/VarHandle" ∧ (parseMethodDescriptor y_V_makePlannedFaults.desc).map (fun d => d.parameters.length) = some 0 := by decide +kernel
abbrev b_V_scrub : ByteArray := prog_1_method_22_code
def y_V_scrub : MethodName := ⟨R_V, "scrub", "()V"⟩
theorem hd_V_scrub : y_V_scrub.cls ≠ "java/lang/invoke/MethodHandle" ∧ y_V_scrub.cls ≠ "java/lang/invoke/VarHandle" ∧ (parseMethodDescriptor y_V_scrub.desc).map (fun d => d.parameters.length) = some 0 := by decide +kernel
abbrev b_V_fetch : ByteArray := prog_1_method_24_code
def y_V_fetch : MethodName := ⟨R_V, "fetch", "(LVotedCore$Cache;I)J"⟩
theorem hd_V_fetch : y_V_fetch.cls ≠ "java/lang/invoke/MethodHandle" ∧ y_V_fetch.cls ≠ "java/lang/invoke/VarHandle" ∧ (parseMethodDescriptor y_V_fetch.desc).map (fun d => d.parameters.length) = some 2 := by decide +kernel
abbrev b_V_save : ByteArray := prog_1_method_25_code
def y_V_save : MethodName := ⟨R_V, "save", "(II)V"⟩
theorem hd_V_save : y_V_save.cls ≠ "java/lang/invoke/MethodHandle" ∧ y_V_save.cls ≠ "java/lang/invoke/VarHandle" ∧ (parseMethodDescriptor y_V_save.desc).map (fun d => d.parameters.length) = some 2 := by decide +kernel
abbrev b_V_goOn : ByteArray := prog_1_method_28_code
def y_V_goOn : MethodName := ⟨R_V, "goOn", "(I)V"⟩
theorem hd_V_goOn : y_V_goOn.cls ≠ "java/lang/invoke/MethodHandle" ∧ y_V_goOn.cls ≠ "java/lang/invoke/VarHandle" ∧ (parseMethodDescriptor y_V_goOn.desc).map (fun d => d.parameters.length) = some 1 := by decide +kernel
abbrev b_V_finish : ByteArray := prog_1_method_27_code
def y_V_finish : MethodName := ⟨R_V, "finish", "(III)V"⟩
theorem hd_V_finish : y_V_finish.cls ≠ "java/lang/invoke/MethodHandle" ∧ y_V_finish.cls ≠ "java/lang/invoke/VarHandle" ∧ (parseMethodDescriptor y_V_finish.desc).map (fun d => d.parameters.length) = some 3 := by decide +kernel
abbrev b_V_jump : ByteArray := prog_1_method_29_code
def y_V_jump : MethodName := ⟨R_V, "jump", "(III)V"⟩
theorem hd_V_jump : y_V_jump.cls ≠ "java/lang/invoke/MethodHandle" ∧ y_V_jump.cls ≠ "java/lang/invoke/VarHandle" ∧ (parseMethodDescriptor y_V_jump.desc).map (fun d => d.parameters.length) = some 3 := by decide +kernel
abbrev b_V_jumpByRegister : ByteArray := prog_1_method_30_code
def y_V_jumpByRegister : MethodName := ⟨R_V, "jumpByRegister", "(II)V"⟩
theorem hd_V_jumpByRegister : y_V_jumpByRegister.cls ≠ "java/lang/invoke/MethodHandle" ∧ y_V_jumpByRegister.cls ≠ "java/lang/invoke/VarHandle" ∧ (parseMethodDescriptor y_V_jumpByRegister.desc).map (fun d => d.parameters.length) = some 2 := by decide +kernel
abbrev b_V_branch : ByteArray := prog_1_method_31_code
def y_V_branch : MethodName := ⟨R_V, "branch", "(II)V"⟩
theorem hd_V_branch : y_V_branch.cls ≠ "java/lang/invoke/MethodHandle" ∧ y_V_branch.cls ≠ "java/lang/invoke/VarHandle" ∧ (parseMethodDescriptor y_V_branch.desc).map (fun d => d.parameters.length) = some 2 := by decide +kernel
abbrev b_V_load : ByteArray := prog_1_method_32_code
def y_V_load : MethodName := ⟨R_V, "load", "(II)V"⟩
theorem hd_V_load : y_V_load.cls ≠ "java/lang/invoke/MethodHandle" ∧ y_V_load.cls ≠ "java/lang/invoke/VarHandle" ∧ (parseMethodDescriptor y_V_load.desc).map (fun d => d.parameters.length) = some 2 := by decide +kernel
abbrev b_V_store : ByteArray := prog_1_method_33_code
def y_V_store : MethodName := ⟨R_V, "store", "(II)V"⟩
theorem hd_V_store : y_V_store.cls ≠ "java/lang/invoke/MethodHandle" ∧ y_V_store.cls ≠ "java/lang/invoke/VarHandle" ∧ (parseMethodDescriptor y_V_store.desc).map (fun d => d.parameters.length) = some 2 := by decide +kernel
abbrev b_V_computeWithNumber : ByteArray := prog_1_method_34_code
def y_V_computeWithNumber : MethodName := ⟨R_V, "computeWithNumber", "(II)V"⟩
theorem hd_V_computeWithNumber : y_V_computeWithNumber.cls ≠ "java/lang/invoke/MethodHandle" ∧ y_V_computeWithNumber.cls ≠ "java/lang/invoke/VarHandle" ∧ (parseMethodDescriptor y_V_computeWithNumber.desc).map (fun d => d.parameters.length) = some 2 := by decide +kernel
abbrev b_V_computeWithRegister : ByteArray := prog_1_method_35_code
def y_V_computeWithRegister : MethodName := ⟨R_V, "computeWithRegister", "(II)V"⟩
theorem hd_V_computeWithRegister : y_V_computeWithRegister.cls ≠ "java/lang/invoke/MethodHandle" ∧ y_V_computeWithRegister.cls ≠ "java/lang/invoke/VarHandle" ∧ (parseMethodDescriptor y_V_computeWithRegister.desc).map (fun d => d.parameters.length) = some 2 := by decide +kernel
abbrev b_V_doNothing : ByteArray := prog_1_method_36_code
def y_V_doNothing : MethodName := ⟨R_V, "doNothing", "(II)V"⟩
theorem hd_V_doNothing : y_V_doNothing.cls ≠ "java/lang/invoke/MethodHandle" ∧ y_V_doNothing.cls ≠ "java/lang/invoke/VarHandle" ∧ (parseMethodDescriptor y_V_doNothing.desc).map (fun d => d.parameters.length) = some 2 := by decide +kernel
abbrev b_V_callOrBreak : ByteArray := prog_1_method_37_code
def y_V_callOrBreak : MethodName := ⟨R_V, "callOrBreak", "(I)V"⟩
theorem hd_V_callOrBreak : y_V_callOrBreak.cls ≠ "java/lang/invoke/MethodHandle" ∧ y_V_callOrBreak.cls ≠ "java/lang/invoke/VarHandle" ∧ (parseMethodDescriptor y_V_callOrBreak.desc).map (fun d => d.parameters.length) = some 1 := by decide +kernel
abbrev b_V_doInstruction : ByteArray := prog_1_method_26_code
def y_V_doInstruction : MethodName := ⟨R_V, "doInstruction", "()V"⟩
theorem hd_V_doInstruction : y_V_doInstruction.cls ≠ "java/lang/invoke/MethodHandle" ∧ y_V_doInstruction.cls ≠ "java/lang/invoke/VarHandle" ∧ (parseMethodDescriptor y_V_doInstruction.desc).map (fun d => d.parameters.length) = some 0 := by decide +kernel
abbrev b_Mo_outside : ByteArray := prog_8_method_2_code
def y_Mo_outside : MethodName := ⟨R_Mo, "outside", "(II)Z"⟩
theorem hd_Mo_outside : y_Mo_outside.cls ≠ "java/lang/invoke/MethodHandle" ∧ y_Mo_outside.cls ≠ "java/lang/invoke/VarHandle" ∧ (parseMethodDescriptor y_Mo_outside.desc).map (fun d => d.parameters.length) = some 2 := by decide +kernel
abbrev b_Mo_isData : ByteArray := prog_8_method_3_code
def y_Mo_isData : MethodName := ⟨R_Mo, "isData", "(I)Z"⟩
theorem hd_Mo_isData : y_Mo_isData.cls ≠ "java/lang/invoke/MethodHandle" ∧ y_Mo_isData.cls ≠ "java/lang/invoke/VarHandle" ∧ (parseMethodDescriptor y_Mo_isData.desc).map (fun d => d.parameters.length) = some 1 := by decide +kernel
abbrev b_Mo_syndrome : ByteArray := prog_8_method_4_code
def y_Mo_syndrome : MethodName := ⟨R_Mo, "syndrome", "(J)I"⟩
theorem hd_Mo_syndrome : y_Mo_syndrome.cls ≠ "java/lang/invoke/MethodHandle" ∧ y_Mo_syndrome.cls ≠ "java/lang/invoke/VarHandle" ∧ (parseMethodDescriptor y_Mo_syndrome.desc).map (fun d => d.parameters.length) = some 1 := by decide +kernel
abbrev b_Mo_isOdd : ByteArray := prog_8_method_5_code
def y_Mo_isOdd : MethodName := ⟨R_Mo, "isOdd", "(J)Z"⟩
theorem hd_Mo_isOdd : y_Mo_isOdd.cls ≠ "java/lang/invoke/MethodHandle" ∧ y_Mo_isOdd.cls ≠ "java/lang/invoke/VarHandle" ∧ (parseMethodDescriptor y_Mo_isOdd.desc).map (fun d => d.parameters.length) = some 1 := by decide +kernel
abbrev b_Mo_dataOf : ByteArray := prog_8_method_6_code
def y_Mo_dataOf : MethodName := ⟨R_Mo, "dataOf", "(J)I"⟩
theorem hd_Mo_dataOf : y_Mo_dataOf.cls ≠ "java/lang/invoke/MethodHandle" ∧ y_Mo_dataOf.cls ≠ "java/lang/invoke/VarHandle" ∧ (parseMethodDescriptor y_Mo_dataOf.desc).map (fun d => d.parameters.length) = some 1 := by decide +kernel
abbrev b_Mo_encoded : ByteArray := prog_8_method_7_code
def y_Mo_encoded : MethodName := ⟨R_Mo, "encoded", "(I)J"⟩
theorem hd_Mo_encoded : y_Mo_encoded.cls ≠ "java/lang/invoke/MethodHandle" ∧ y_Mo_encoded.cls ≠ "java/lang/invoke/VarHandle" ∧ (parseMethodDescriptor y_Mo_encoded.desc).map (fun d => d.parameters.length) = some 1 := by decide +kernel
abbrev b_Mo_wrongBit : ByteArray := prog_8_method_8_code
def y_Mo_wrongBit : MethodName := ⟨R_Mo, "wrongBit", "(J)I"⟩
theorem hd_Mo_wrongBit : y_Mo_wrongBit.cls ≠ "java/lang/invoke/MethodHandle" ∧ y_Mo_wrongBit.cls ≠ "java/lang/invoke/VarHandle" ∧ (parseMethodDescriptor y_Mo_wrongBit.desc).map (fun d => d.parameters.length) = some 1 := by decide +kernel
abbrev b_Mo_mend : ByteArray := prog_8_method_9_code
def y_Mo_mend : MethodName := ⟨R_Mo, "mend", "(I)Z"⟩
theorem hd_Mo_mend : y_Mo_mend.cls ≠ "java/lang/invoke/MethodHandle" ∧ y_Mo_mend.cls ≠ "java/lang/invoke/VarHandle" ∧ (parseMethodDescriptor y_Mo_mend.desc).map (fun d => d.parameters.length) = some 1 := by decide +kernel
abbrev b_Mo_keep : ByteArray := prog_8_method_10_code
def y_Mo_keep : MethodName := ⟨R_Mo, "keep", "(II)V"⟩
theorem hd_Mo_keep : y_Mo_keep.cls ≠ "java/lang/invoke/MethodHandle" ∧ y_Mo_keep.cls ≠ "java/lang/invoke/VarHandle" ∧ (parseMethodDescriptor y_Mo_keep.desc).map (fun d => d.parameters.length) = some 2 := by decide +kernel
abbrev b_Mo_line : ByteArray := prog_8_method_11_code
def y_Mo_line : MethodName := ⟨R_Mo, "line", "(II)J"⟩
theorem hd_Mo_line : y_Mo_line.cls ≠ "java/lang/invoke/MethodHandle" ∧ y_Mo_line.cls ≠ "java/lang/invoke/VarHandle" ∧ (parseMethodDescriptor y_Mo_line.desc).map (fun d => d.parameters.length) = some 2 := by decide +kernel
abbrev b_Mo_stop : ByteArray := prog_8_method_20_code
def y_Mo_stop : MethodName := ⟨R_Mo, "stop", "(II)V"⟩
theorem hd_Mo_stop : y_Mo_stop.cls ≠ "java/lang/invoke/MethodHandle" ∧ y_Mo_stop.cls ≠ "java/lang/invoke/VarHandle" ∧ (parseMethodDescriptor y_Mo_stop.desc).map (fun d => d.parameters.length) = some 2 := by decide +kernel
abbrev b_Mo_holds : ByteArray := prog_8_method_12_code
def y_Mo_holds : MethodName := ⟨R_Mo, "holds", "(II)Z"⟩
theorem hd_Mo_holds : y_Mo_holds.cls ≠ "java/lang/invoke/MethodHandle" ∧ y_Mo_holds.cls ≠ "java/lang/invoke/VarHandle" ∧ (parseMethodDescriptor y_Mo_holds.desc).map (fun d => d.parameters.length) = some 2 := by decide +kernel
abbrev b_Mo_fetch : ByteArray := prog_8_method_13_code
def y_Mo_fetch : MethodName := ⟨R_Mo, "fetch", "(II)Z"⟩
theorem hd_Mo_fetch : y_Mo_fetch.cls ≠ "java/lang/invoke/MethodHandle" ∧ y_Mo_fetch.cls ≠ "java/lang/invoke/VarHandle" ∧ (parseMethodDescriptor y_Mo_fetch.desc).map (fun d => d.parameters.length) = some 2 := by decide +kernel
abbrev b_Mo_save : ByteArray := prog_8_method_14_code
def y_Mo_save : MethodName := ⟨R_Mo, "save", "(II)V"⟩
theorem hd_Mo_save : y_Mo_save.cls ≠ "java/lang/invoke/MethodHandle" ∧ y_Mo_save.cls ≠ "java/lang/invoke/VarHandle" ∧ (parseMethodDescriptor y_Mo_save.desc).map (fun d => d.parameters.length) = some 2 := by decide +kernel
abbrev b_Mo_two : ByteArray := prog_8_method_15_code
def y_Mo_two : MethodName := ⟨R_Mo, "two", "(III)I"⟩
theorem hd_Mo_two : y_Mo_two.cls ≠ "java/lang/invoke/MethodHandle" ∧ y_Mo_two.cls ≠ "java/lang/invoke/VarHandle" ∧ (parseMethodDescriptor y_Mo_two.desc).map (fun d => d.parameters.length) = some 3 := by decide +kernel
abbrev b_Mo_valueOf : ByteArray := prog_8_method_16_code
def y_Mo_valueOf : MethodName := ⟨R_Mo, "valueOf", "(I)I"⟩
theorem hd_Mo_valueOf : y_Mo_valueOf.cls ≠ "java/lang/invoke/MethodHandle" ∧ y_Mo_valueOf.cls ≠ "java/lang/invoke/VarHandle" ∧ (parseMethodDescriptor y_Mo_valueOf.desc).map (fun d => d.parameters.length) = some 1 := by decide +kernel
abbrev b_Mo_operand : ByteArray := prog_8_method_17_code
def y_Mo_operand : MethodName := ⟨R_Mo, "operand", "(I)I"⟩
theorem hd_Mo_operand : y_Mo_operand.cls ≠ "java/lang/invoke/MethodHandle" ∧ y_Mo_operand.cls ≠ "java/lang/invoke/VarHandle" ∧ (parseMethodDescriptor y_Mo_operand.desc).map (fun d => d.parameters.length) = some 1 := by decide +kernel
abbrev b_Mo_put : ByteArray := prog_8_method_18_code
def y_Mo_put : MethodName := ⟨R_Mo, "put", "(II)V"⟩
theorem hd_Mo_put : y_Mo_put.cls ≠ "java/lang/invoke/MethodHandle" ∧ y_Mo_put.cls ≠ "java/lang/invoke/VarHandle" ∧ (parseMethodDescriptor y_Mo_put.desc).map (fun d => d.parameters.length) = some 2 := by decide +kernel
abbrev b_Mo_vote : ByteArray := prog_8_method_19_code
def y_Mo_vote : MethodName := ⟨R_Mo, "vote", "()V"⟩
theorem hd_Mo_vote : y_Mo_vote.cls ≠ "java/lang/invoke/MethodHandle" ∧ y_Mo_vote.cls ≠ "java/lang/invoke/VarHandle" ∧ (parseMethodDescriptor y_Mo_vote.desc).map (fun d => d.parameters.length) = some 0 := by decide +kernel
abbrev b_Mo_field : ByteArray := prog_8_method_21_code
def y_Mo_field : MethodName := ⟨R_Mo, "field", "(II)I"⟩
theorem hd_Mo_field : y_Mo_field.cls ≠ "java/lang/invoke/MethodHandle" ∧ y_Mo_field.cls ≠ "java/lang/invoke/VarHandle" ∧ (parseMethodDescriptor y_Mo_field.desc).map (fun d => d.parameters.length) = some 2 := by decide +kernel
abbrev b_Mo_numberJ : ByteArray := prog_8_method_22_code
def y_Mo_numberJ : MethodName := ⟨R_Mo, "numberJ", "()I"⟩
theorem hd_Mo_numberJ : y_Mo_numberJ.cls ≠ "java/lang/invoke/MethodHandle" ∧ y_Mo_numberJ.cls ≠ "java/lang/invoke/VarHandle" ∧ (parseMethodDescriptor y_Mo_numberJ.desc).map (fun d => d.parameters.length) = some 0 := by decide +kernel
abbrev b_Mo_numberK : ByteArray := prog_8_method_23_code
def y_Mo_numberK : MethodName := ⟨R_Mo, "numberK", "()I"⟩
theorem hd_Mo_numberK : y_Mo_numberK.cls ≠ "java/lang/invoke/MethodHandle" ∧ y_Mo_numberK.cls ≠ "java/lang/invoke/VarHandle" ∧ (parseMethodDescriptor y_Mo_numberK.desc).map (fun d => d.parameters.length) = some 0 := by decide +kernel
abbrev b_Mo_numberL : ByteArray := prog_8_method_24_code
def y_Mo_numberL : MethodName := ⟨R_Mo, "numberL", "()I"⟩
theorem hd_Mo_numberL : y_Mo_numberL.cls ≠ "java/lang/invoke/MethodHandle" ∧ y_Mo_numberL.cls ≠ "java/lang/invoke/VarHandle" ∧ (parseMethodDescriptor y_Mo_numberL.desc).map (fun d => d.parameters.length) = some 0 := by decide +kernel
abbrev b_Mo_give : ByteArray := prog_8_method_25_code
def y_Mo_give : MethodName := ⟨R_Mo, "give", "(I)V"⟩
theorem hd_Mo_give : y_Mo_give.cls ≠ "java/lang/invoke/MethodHandle" ∧ y_Mo_give.cls ≠ "java/lang/invoke/VarHandle" ∧ (parseMethodDescriptor y_Mo_give.desc).map (fun d => d.parameters.length) = some 1 := by decide +kernel
abbrev b_Mo_go : ByteArray := prog_8_method_26_code
def y_Mo_go : MethodName := ⟨R_Mo, "go", "(I)V"⟩
theorem hd_Mo_go : y_Mo_go.cls ≠ "java/lang/invoke/MethodHandle" ∧ y_Mo_go.cls ≠ "java/lang/invoke/VarHandle" ∧ (parseMethodDescriptor y_Mo_go.desc).map (fun d => d.parameters.length) = some 1 := by decide +kernel
abbrev b_Mo_illegal : ByteArray := prog_8_method_27_code
def y_Mo_illegal : MethodName := ⟨R_Mo, "illegal", "()V"⟩
theorem hd_Mo_illegal : y_Mo_illegal.cls ≠ "java/lang/invoke/MethodHandle" ∧ y_Mo_illegal.cls ≠ "java/lang/invoke/VarHandle" ∧ (parseMethodDescriptor y_Mo_illegal.desc).map (fun d => d.parameters.length) = some 0 := by decide +kernel
abbrev b_Mo_isLess : ByteArray := prog_8_method_28_code
def y_Mo_isLess : MethodName := ⟨R_Mo, "isLess", "(IIZ)Z"⟩
theorem hd_Mo_isLess : y_Mo_isLess.cls ≠ "java/lang/invoke/MethodHandle" ∧ y_Mo_isLess.cls ≠ "java/lang/invoke/VarHandle" ∧ (parseMethodDescriptor y_Mo_isLess.desc).map (fun d => d.parameters.length) = some 3 := by decide +kernel
abbrev b_Mo_branch : ByteArray := prog_8_method_29_code
def y_Mo_branch : MethodName := ⟨R_Mo, "branch", "(III)V"⟩
theorem hd_Mo_branch : y_Mo_branch.cls ≠ "java/lang/invoke/MethodHandle" ∧ y_Mo_branch.cls ≠ "java/lang/invoke/VarHandle" ∧ (parseMethodDescriptor y_Mo_branch.desc).map (fun d => d.parameters.length) = some 3 := by decide +kernel
abbrev b_Mo_reaches : ByteArray := prog_8_method_30_code
def y_Mo_reaches : MethodName := ⟨R_Mo, "reaches", "(II)Z"⟩
theorem hd_Mo_reaches : y_Mo_reaches.cls ≠ "java/lang/invoke/MethodHandle" ∧ y_Mo_reaches.cls ≠ "java/lang/invoke/VarHandle" ∧ (parseMethodDescriptor y_Mo_reaches.desc).map (fun d => d.parameters.length) = some 2 := by decide +kernel
abbrev b_Mo_load : ByteArray := prog_8_method_31_code
def y_Mo_load : MethodName := ⟨R_Mo, "load", "(II)V"⟩
theorem hd_Mo_load : y_Mo_load.cls ≠ "java/lang/invoke/MethodHandle" ∧ y_Mo_load.cls ≠ "java/lang/invoke/VarHandle" ∧ (parseMethodDescriptor y_Mo_load.desc).map (fun d => d.parameters.length) = some 2 := by decide +kernel
abbrev b_Mo_store : ByteArray := prog_8_method_32_code
def y_Mo_store : MethodName := ⟨R_Mo, "store", "(III)V"⟩
theorem hd_Mo_store : y_Mo_store.cls ≠ "java/lang/invoke/MethodHandle" ∧ y_Mo_store.cls ≠ "java/lang/invoke/VarHandle" ∧ (parseMethodDescriptor y_Mo_store.desc).map (fun d => d.parameters.length) = some 3 := by decide +kernel
abbrev b_Mo_reckoned : ByteArray := prog_8_method_33_code
def y_Mo_reckoned : MethodName := ⟨R_Mo, "reckoned", "(III)I"⟩
theorem hd_Mo_reckoned : y_Mo_reckoned.cls ≠ "java/lang/invoke/MethodHandle" ∧ y_Mo_reckoned.cls ≠ "java/lang/invoke/VarHandle" ∧ (parseMethodDescriptor y_Mo_reckoned.desc).map (fun d => d.parameters.length) = some 3 := by decide +kernel
abbrev b_Mo_reckon : ByteArray := prog_8_method_34_code
def y_Mo_reckon : MethodName := ⟨R_Mo, "reckon", "(IIIIZ)V"⟩
theorem hd_Mo_reckon : y_Mo_reckon.cls ≠ "java/lang/invoke/MethodHandle" ∧ y_Mo_reckon.cls ≠ "java/lang/invoke/VarHandle" ∧ (parseMethodDescriptor y_Mo_reckon.desc).map (fun d => d.parameters.length) = some 5 := by decide +kernel
abbrev b_Mo_jump : ByteArray := prog_8_method_36_code
def y_Mo_jump : MethodName := ⟨R_Mo, "jump", "(II)V"⟩
theorem hd_Mo_jump : y_Mo_jump.cls ≠ "java/lang/invoke/MethodHandle" ∧ y_Mo_jump.cls ≠ "java/lang/invoke/VarHandle" ∧ (parseMethodDescriptor y_Mo_jump.desc).map (fun d => d.parameters.length) = some 2 := by decide +kernel
abbrev b_Mo_rest : ByteArray := prog_8_method_37_code
def y_Mo_rest : MethodName := ⟨R_Mo, "rest", "(I)V"⟩
theorem hd_Mo_rest : y_Mo_rest.cls ≠ "java/lang/invoke/MethodHandle" ∧ y_Mo_rest.cls ≠ "java/lang/invoke/VarHandle" ∧ (parseMethodDescriptor y_Mo_rest.desc).map (fun d => d.parameters.length) = some 1 := by decide +kernel
abbrev b_Mo_execute : ByteArray := prog_8_method_35_code
def y_Mo_execute : MethodName := ⟨R_Mo, "execute", "()V"⟩
theorem hd_Mo_execute : y_Mo_execute.cls ≠ "java/lang/invoke/MethodHandle" ∧ y_Mo_execute.cls ≠ "java/lang/invoke/VarHandle" ∧ (parseMethodDescriptor y_Mo_execute.desc).map (fun d => d.parameters.length) = some 0 := by decide +kernel
abbrev b_Mo_change : ByteArray := prog_8_method_39_code
def y_Mo_change : MethodName := ⟨R_Mo, "change", "(II)V"⟩
theorem hd_Mo_change : y_Mo_change.cls ≠ "java/lang/invoke/MethodHandle" ∧ y_Mo_change.cls ≠ "java/lang/invoke/VarHandle" ∧ (parseMethodDescriptor y_Mo_change.desc).map (fun d => d.parameters.length) = some 2 := by decide +kernel
abbrev b_Mo_makeFaults : ByteArray := prog_8_method_40_code
def y_Mo_makeFaults : MethodName := ⟨R_Mo, "makeFaults", "()V"⟩
theorem hd_Mo_makeFaults : y_Mo_makeFaults.cls ≠ "java/lang/invoke/MethodHandle" ∧ y_Mo_makeFaults.cls ≠ "java/lang/invoke/VarHandle" ∧ (parseMethodDescriptor y_Mo_makeFaults.desc).map (fun d => d.parameters.length) = some 0 := by decide +kernel
abbrev b_Mo_scrub : ByteArray := prog_8_method_41_code
def y_Mo_scrub : MethodName := ⟨R_Mo, "scrub", "()V"⟩
theorem hd_Mo_scrub : y_Mo_scrub.cls ≠ "java/lang/invoke/MethodHandle" ∧ y_Mo_scrub.cls ≠ "java/lang/invoke/VarHandle" ∧ (parseMethodDescriptor y_Mo_scrub.desc).map (fun d => d.parameters.length) = some 0 := by decide +kernel
abbrev b_Mo_resume : ByteArray := prog_8_method_43_code
def y_Mo_resume : MethodName := ⟨R_Mo, "resume", "(I)Z"⟩
theorem hd_Mo_resume : y_Mo_resume.cls ≠ "java/lang/invoke/MethodHandle" ∧ y_Mo_resume.cls ≠ "java/lang/invoke/VarHandle" ∧ (parseMethodDescriptor y_Mo_resume.desc).map (fun d => d.parameters.length) = some 1 := by decide +kernel
abbrev b_Mo_write : ByteArray := prog_8_method_44_code
def y_Mo_write : MethodName := ⟨R_Mo, "write", "(II)Z"⟩
theorem hd_Mo_write : y_Mo_write.cls ≠ "java/lang/invoke/MethodHandle" ∧ y_Mo_write.cls ≠ "java/lang/invoke/VarHandle" ∧ (parseMethodDescriptor y_Mo_write.desc).map (fun d => d.parameters.length) = some 2 := by decide +kernel
abbrev b_Mo_set : ByteArray := prog_8_method_45_code
def y_Mo_set : MethodName := ⟨R_Mo, "set", "(II)Z"⟩
theorem hd_Mo_set : y_Mo_set.cls ≠ "java/lang/invoke/MethodHandle" ∧ y_Mo_set.cls ≠ "java/lang/invoke/VarHandle" ∧ (parseMethodDescriptor y_Mo_set.desc).map (fun d => d.parameters.length) = some 2 := by decide +kernel
abbrev b_Mo_noBit : ByteArray := prog_8_method_46_code
def y_Mo_noBit : MethodName := ⟨R_Mo, "noBit", "(II)Z"⟩
theorem hd_Mo_noBit : y_Mo_noBit.cls ≠ "java/lang/invoke/MethodHandle" ∧ y_Mo_noBit.cls ≠ "java/lang/invoke/VarHandle" ∧ (parseMethodDescriptor y_Mo_noBit.desc).map (fun d => d.parameters.length) = some 2 := by decide +kernel
abbrev b_Mo_flip : ByteArray := prog_8_method_47_code
def y_Mo_flip : MethodName := ⟨R_Mo, "flip", "(II)Z"⟩
theorem hd_Mo_flip : y_Mo_flip.cls ≠ "java/lang/invoke/MethodHandle" ∧ y_Mo_flip.cls ≠ "java/lang/invoke/VarHandle" ∧ (parseMethodDescriptor y_Mo_flip.desc).map (fun d => d.parameters.length) = some 2 := by decide +kernel
abbrev b_Mo_plan : ByteArray := prog_8_method_48_code
def y_Mo_plan : MethodName := ⟨R_Mo, "plan", "(III)Z"⟩
theorem hd_Mo_plan : y_Mo_plan.cls ≠ "java/lang/invoke/MethodHandle" ∧ y_Mo_plan.cls ≠ "java/lang/invoke/VarHandle" ∧ (parseMethodDescriptor y_Mo_plan.desc).map (fun d => d.parameters.length) = some 3 := by decide +kernel
abbrev b_Mo_planned : ByteArray := prog_8_method_49_code
def y_Mo_planned : MethodName := ⟨R_Mo, "planned", "()I"⟩
theorem hd_Mo_planned : y_Mo_planned.cls ≠ "java/lang/invoke/MethodHandle" ∧ y_Mo_planned.cls ≠ "java/lang/invoke/VarHandle" ∧ (parseMethodDescriptor y_Mo_planned.desc).map (fun d => d.parameters.length) = some 0 := by decide +kernel
abbrev b_Mo_register : ByteArray := prog_8_method_50_code
def y_Mo_register : MethodName := ⟨R_Mo, "register", "(I)I"⟩
theorem hd_Mo_register : y_Mo_register.cls ≠ "java/lang/invoke/MethodHandle" ∧ y_Mo_register.cls ≠ "java/lang/invoke/VarHandle" ∧ (parseMethodDescriptor y_Mo_register.desc).map (fun d => d.parameters.length) = some 1 := by decide +kernel
abbrev b_Mo_look : ByteArray := prog_8_method_51_code
def y_Mo_look : MethodName := ⟨R_Mo, "look", "(I)J"⟩
theorem hd_Mo_look : y_Mo_look.cls ≠ "java/lang/invoke/MethodHandle" ∧ y_Mo_look.cls ≠ "java/lang/invoke/VarHandle" ∧ (parseMethodDescriptor y_Mo_look.desc).map (fun d => d.parameters.length) = some 1 := by decide +kernel
abbrev b_Mo_bits : ByteArray := prog_8_method_52_code
def y_Mo_bits : MethodName := ⟨R_Mo, "bits", "(I)J"⟩
theorem hd_Mo_bits : y_Mo_bits.cls ≠ "java/lang/invoke/MethodHandle" ∧ y_Mo_bits.cls ≠ "java/lang/invoke/VarHandle" ∧ (parseMethodDescriptor y_Mo_bits.desc).map (fun d => d.parameters.length) = some 1 := by decide +kernel
abbrev b_Mo_cause : ByteArray := prog_8_method_53_code
def y_Mo_cause : MethodName := ⟨R_Mo, "cause", "()I"⟩
theorem hd_Mo_cause : y_Mo_cause.cls ≠ "java/lang/invoke/MethodHandle" ∧ y_Mo_cause.cls ≠ "java/lang/invoke/VarHandle" ∧ (parseMethodDescriptor y_Mo_cause.desc).map (fun d => d.parameters.length) = some 0 := by decide +kernel
abbrev b_Mo_value : ByteArray := prog_8_method_54_code
def y_Mo_value : MethodName := ⟨R_Mo, "value", "()I"⟩
theorem hd_Mo_value : y_Mo_value.cls ≠ "java/lang/invoke/MethodHandle" ∧ y_Mo_value.cls ≠ "java/lang/invoke/VarHandle" ∧ (parseMethodDescriptor y_Mo_value.desc).map (fun d => d.parameters.length) = some 0 := by decide +kernel
abbrev b_Mo_cycles : ByteArray := prog_8_method_55_code
def y_Mo_cycles : MethodName := ⟨R_Mo, "cycles", "()I"⟩
theorem hd_Mo_cycles : y_Mo_cycles.cls ≠ "java/lang/invoke/MethodHandle" ∧ y_Mo_cycles.cls ≠ "java/lang/invoke/VarHandle" ∧ (parseMethodDescriptor y_Mo_cycles.desc).map (fun d => d.parameters.length) = some 0 := by decide +kernel
abbrev b_Mo_count : ByteArray := prog_8_method_56_code
def y_Mo_count : MethodName := ⟨R_Mo, "count", "(I)I"⟩
theorem hd_Mo_count : y_Mo_count.cls ≠ "java/lang/invoke/MethodHandle" ∧ y_Mo_count.cls ≠ "java/lang/invoke/VarHandle" ∧ (parseMethodDescriptor y_Mo_count.desc).map (fun d => d.parameters.length) = some 1 := by decide +kernel
abbrev b_Mo_instruct : ByteArray := prog_8_method_38_code
def y_Mo_instruct : MethodName := ⟨R_Mo, "instruct", "()V"⟩
theorem hd_Mo_instruct : y_Mo_instruct.cls ≠ "java/lang/invoke/MethodHandle" ∧ y_Mo_instruct.cls ≠ "java/lang/invoke/VarHandle" ∧ (parseMethodDescriptor y_Mo_instruct.desc).map (fun d => d.parameters.length) = some 0 := by decide +kernel
abbrev b_V_run : ByteArray := prog_1_method_10_code
def y_V_run : MethodName := ⟨R_V, "run", "(I)I"⟩
theorem hd_V_run : y_V_run.cls ≠ "java/lang/invoke/MethodHandle" ∧ y_V_run.cls ≠ "java/lang/invoke/VarHandle" ∧ (parseMethodDescriptor y_V_run.desc).map (fun d => d.parameters.length) = some 1 := by decide +kernel
abbrev b_Mo_run : ByteArray := prog_8_method_42_code
def y_Mo_run : MethodName := ⟨R_Mo, "run", "(I)I"⟩
theorem hd_Mo_run : y_Mo_run.cls ≠ "java/lang/invoke/MethodHandle" ∧ y_Mo_run.cls ≠ "java/lang/invoke/VarHandle" ∧ (parseMethodDescriptor y_Mo_run.desc).map (fun d => d.parameters.length) = some 1 := by decide +kernel
abbrev b_V_init : ByteArray := prog_1_method_1_code
def y_V_init : MethodName := ⟨R_V, "<init>", "(I)V"⟩
theorem hd_V_init : y_V_init.cls ≠ "java/lang/invoke/MethodHandle" ∧ y_V_init.cls ≠ "java/lang/invoke/VarHandle" ∧ (parseMethodDescriptor y_V_init.desc).map (fun d => d.parameters.length) = some 1 := by decide +kernel
abbrev b_Me_init : ByteArray := prog_5_method_1_code
def y_Me_init : MethodName := ⟨R_Me, "<init>", "()V"⟩
theorem hd_Me_init : y_Me_init.cls ≠ "java/lang/invoke/MethodHandle" ∧ y_Me_init.cls ≠ "java/lang/invoke/VarHandle" ∧ (parseMethodDescriptor y_Me_init.desc).map (fun d => d.parameters.length) = some 0 := by decide +kernel
abbrev b_Ca_init : ByteArray := prog_2_method_1_code
def y_Ca_init : MethodName := ⟨R_Ca, "<init>", "()V"⟩
theorem hd_Ca_init : y_Ca_init.cls ≠ "java/lang/invoke/MethodHandle" ∧ y_Ca_init.cls ≠ "java/lang/invoke/VarHandle" ∧ (parseMethodDescriptor y_Ca_init.desc).map (fun d => d.parameters.length) = some 0 := by decide +kernel
abbrev b_Re_init : ByteArray := prog_6_method_1_code
def y_Re_init : MethodName := ⟨R_Re, "<init>", "()V"⟩
theorem hd_Re_init : y_Re_init.cls ≠ "java/lang/invoke/MethodHandle" ∧ y_Re_init.cls ≠ "java/lang/invoke/VarHandle" ∧ (parseMethodDescriptor y_Re_init.desc).map (fun d => d.parameters.length) = some 0 := by decide +kernel
abbrev b_Fa_init : ByteArray := prog_4_method_1_code
def y_Fa_init : MethodName := ⟨R_Fa, "<init>", "()V"⟩
theorem hd_Fa_init : y_Fa_init.cls ≠ "java/lang/invoke/MethodHandle" ∧ y_Fa_init.cls ≠ "java/lang/invoke/VarHandle" ∧ (parseMethodDescriptor y_Fa_init.desc).map (fun d => d.parameters.length) = some 0 := by decide +kernel
abbrev b_Lw_cell : ByteArray := method_2_code
def y_Lw_cell : MethodName := ⟨R_Lw, "cell", "([II)I"⟩
theorem hd_Lw_cell : y_Lw_cell.cls ≠ "java/lang/invoke/MethodHandle" ∧ y_Lw_cell.cls ≠ "java/lang/invoke/VarHandle" ∧ (parseMethodDescriptor y_Lw_cell.desc).map (fun d => d.parameters.length) = some 2 := by decide +kernel
abbrev b_Mo_init : ByteArray := prog_8_method_1_code
def y_Mo_init : MethodName := ⟨R_Mo, "<init>", "(I)V"⟩
theorem hd_Mo_init : y_Mo_init.cls ≠ "java/lang/invoke/MethodHandle" ∧ y_Mo_init.cls ≠ "java/lang/invoke/VarHandle" ∧ (parseMethodDescriptor y_Mo_init.desc).map (fun d => d.parameters.length) = some 1 := by decide +kernel
def GW : List Cond := lw_tbl.filter goodWord
theorem gw_in {w : Cond} (h : w ∈ lw_tbl) (hg : goodWord w = true) : w ∈ GW := List.mem_filter.mpr ⟨h, hg⟩
def nw_is : Cond → Bool
  | .fieldLinkNest .. => true
  | .methodLinkNest .. => true
  | _ => false
def nestW : List Cond := lw_tbl.filter nw_is
theorem nest_in {w : Cond} (h : w ∈ lw_tbl) (hg : nw_is w = true) : w ∈ nestW := List.mem_filter.mpr ⟨h, hg⟩
def w_V_init : List Cond := Cond.code y_V_init b_V_init 2 none :: GW
def w_V_bits : List Cond := Cond.code y_V_bits b_V_bits 2 (some .long) :: GW
def w_V_branch : List Cond := Cond.code y_V_branch b_V_branch 6 none :: GW
def w_V_callOrBreak : List Cond := Cond.code y_V_callOrBreak b_V_callOrBreak 2 none :: GW
def w_V_cause : List Cond := Cond.code y_V_cause b_V_cause 1 (some .int) :: GW
def w_V_computeWithNumber : List Cond := Cond.code y_V_computeWithNumber b_V_computeWithNumber 8 none :: GW
def w_V_computeWithRegister : List Cond := Cond.code y_V_computeWithRegister b_V_computeWithRegister 8 none :: GW
def w_V_count : List Cond := Cond.code y_V_count b_V_count 2 (some .int) :: GW
def w_V_cycles : List Cond := Cond.code y_V_cycles b_V_cycles 1 (some .int) :: GW
def w_V_doInstruction : List Cond := Cond.code y_V_doInstruction b_V_doInstruction 5 none :: GW
def w_V_doNothing : List Cond := Cond.code y_V_doNothing b_V_doNothing 3 none :: GW
def w_V_fetch : List Cond := Cond.code y_V_fetch b_V_fetch 5 (some .long) :: GW
def w_V_finish : List Cond := Cond.code y_V_finish b_V_finish 4 none :: GW
def w_V_flip : List Cond := Cond.code y_V_flip b_V_flip 3 (some .boolean) :: GW
def w_V_goOn : List Cond := Cond.code y_V_goOn b_V_goOn 2 none :: GW
def w_V_invert : List Cond := Cond.code y_V_invert b_V_invert 3 none :: GW
def w_V_isAddress : List Cond := Cond.code y_V_isAddress b_V_isAddress 2 (some .boolean) :: GW
def w_V_isBit : List Cond := Cond.code y_V_isBit b_V_isBit 2 (some .boolean) :: GW
def w_V_isRegister : List Cond := Cond.code y_V_isRegister b_V_isRegister 1 (some .boolean) :: GW
def w_V_isWord : List Cond := Cond.code y_V_isWord b_V_isWord 1 (some .boolean) :: GW
def w_V_jump : List Cond := Cond.code y_V_jump b_V_jump 4 none :: GW
def w_V_jumpByRegister : List Cond := Cond.code y_V_jumpByRegister b_V_jumpByRegister 4 none :: GW
def w_V_load : List Cond := Cond.code y_V_load b_V_load 7 none :: GW
def w_V_look : List Cond := Cond.code y_V_look b_V_look 2 (some .long) :: GW
def w_V_makePlannedFaults : List Cond := Cond.code y_V_makePlannedFaults b_V_makePlannedFaults 3 none :: GW
def w_V_plan : List Cond := Cond.code y_V_plan b_V_plan 4 (some .boolean) :: GW
def w_V_planned : List Cond := Cond.code y_V_planned b_V_planned 1 (some .int) :: GW
def w_V_register : List Cond := Cond.code y_V_register b_V_register 2 (some .int) :: GW
def w_V_resume : List Cond := Cond.code y_V_resume b_V_resume 2 (some .boolean) :: GW
def w_V_run : List Cond := Cond.code y_V_run b_V_run 3 (some .int) :: GW
def w_V_save : List Cond := Cond.code y_V_save b_V_save 3 none :: GW
def w_V_scrub : List Cond := Cond.code y_V_scrub b_V_scrub 1 none :: GW
def w_V_set : List Cond := Cond.code y_V_set b_V_set 3 (some .boolean) :: GW
def w_V_stop : List Cond := Cond.code y_V_stop b_V_stop 3 none :: GW
def w_V_store : List Cond := Cond.code y_V_store b_V_store 10 none :: GW
def w_V_value : List Cond := Cond.code y_V_value b_V_value 1 (some .int) :: GW
def w_V_write : List Cond := Cond.code y_V_write b_V_write 3 (some .boolean) :: GW
def w_Ca_init : List Cond := Cond.code y_Ca_init b_Ca_init 1 none :: GW
def w_Ca_drop : List Cond := Cond.code y_Ca_drop b_Ca_drop 2 none :: GW
def w_Ca_dropAll : List Cond := Cond.code y_Ca_dropAll b_Ca_dropAll 1 none :: GW
def w_Ca_dropIfWrong : List Cond := Cond.code y_Ca_dropIfWrong b_Ca_dropIfWrong 2 none :: GW
def w_Ca_fill : List Cond := Cond.code y_Ca_fill b_Ca_fill 5 none :: GW
def w_Ca_held : List Cond := Cond.code y_Ca_held b_Ca_held 2 (some .long) :: GW
def w_Ca_holds : List Cond := Cond.code y_Ca_holds b_Ca_holds 2 (some .boolean) :: GW
def w_Co_computed : List Cond := Cond.code y_Co_computed b_Co_computed 4 (some .int) :: GW
def w_Co_d : List Cond := Cond.code y_Co_d b_Co_d 1 (some .int) :: GW
def w_Co_f : List Cond := Cond.code y_Co_f b_Co_f 1 (some .int) :: GW
def w_Co_g : List Cond := Cond.code y_Co_g b_Co_g 1 (some .int) :: GW
def w_Co_i : List Cond := Cond.code y_Co_i b_Co_i 1 (some .int) :: GW
def w_Co_isTaken : List Cond := Cond.code y_Co_isTaken b_Co_isTaken 3 (some .boolean) :: GW
def w_Co_j : List Cond := Cond.code y_Co_j b_Co_j 1 (some .int) :: GW
def w_Co_k : List Cond := Cond.code y_Co_k b_Co_k 1 (some .int) :: GW
def w_Co_l : List Cond := Cond.code y_Co_l b_Co_l 1 (some .int) :: GW
def w_Co_loaded : List Cond := Cond.code y_Co_loaded b_Co_loaded 2 (some .int) :: GW
def w_Co_op : List Cond := Cond.code y_Co_op b_Co_op 1 (some .int) :: GW
def w_Co_s : List Cond := Cond.code y_Co_s b_Co_s 1 (some .int) :: GW
def w_Co_shiftOf : List Cond := Cond.code y_Co_shiftOf b_Co_shiftOf 1 (some .int) :: GW
def w_Co_size : List Cond := Cond.code y_Co_size b_Co_size 1 (some .int) :: GW
def w_Co_t : List Cond := Cond.code y_Co_t b_Co_t 1 (some .int) :: GW
def w_Co_u : List Cond := Cond.code y_Co_u b_Co_u 1 (some .int) :: GW
def w_Fa_init : List Cond := Cond.code y_Fa_init b_Fa_init 1 none :: GW
def w_Fa_append : List Cond := Cond.code y_Fa_append b_Fa_append 4 none :: GW
def w_Fa_move : List Cond := Cond.code y_Fa_move b_Fa_move 3 none :: GW
def w_Me_init : List Cond := Cond.code y_Me_init b_Me_init 1 none :: GW
def w_Me_gathered : List Cond := Cond.code y_Me_gathered b_Me_gathered 2 (some .long) :: GW
def w_Me_inspect : List Cond := Cond.code y_Me_inspect b_Me_inspect 4 (some .long) :: GW
def w_Me_keep : List Cond := Cond.code y_Me_keep b_Me_keep 7 none :: GW
def w_Me_mend : List Cond := Cond.code y_Me_mend b_Me_mend 4 (some .long) :: GW
def w_Me_putRight : List Cond := Cond.code y_Me_putRight b_Me_putRight 4 (some .long) :: GW
def w_Me_spread : List Cond := Cond.code y_Me_spread b_Me_spread 1 (some .long) :: GW
def w_Me_xorOfNumbers : List Cond := Cond.code y_Me_xorOfNumbers b_Me_xorOfNumbers 4 (some .int) :: GW
def w_Re_init : List Cond := Cond.code y_Re_init b_Re_init 1 none :: GW
def w_Re_agreed : List Cond := Cond.code y_Re_agreed b_Re_agreed 5 (some .int) :: GW
def w_Re_operand : List Cond := Cond.code y_Re_operand b_Re_operand 2 (some .int) :: GW
def w_Re_put : List Cond := Cond.code y_Re_put b_Re_put 3 none :: GW
def w_Re_putResult : List Cond := Cond.code y_Re_putResult b_Re_putResult 3 none :: GW
def w_Re_vote : List Cond := Cond.code y_Re_vote b_Re_vote 3 none :: GW
def w_Lw_cell : List Cond := Cond.code y_Lw_cell b_Lw_cell 2 (some .int) :: GW
def w_Mo_init : List Cond := Cond.code y_Mo_init b_Mo_init 2 none :: GW
def w_Mo_bits : List Cond := Cond.code y_Mo_bits b_Mo_bits 2 (some .long) :: GW
def w_Mo_branch : List Cond := Cond.code y_Mo_branch b_Mo_branch 5 none :: GW
def w_Mo_cause : List Cond := Cond.code y_Mo_cause b_Mo_cause 1 (some .int) :: GW
def w_Mo_change : List Cond := Cond.code y_Mo_change b_Mo_change 3 none :: GW
def w_Mo_count : List Cond := Cond.code y_Mo_count b_Mo_count 2 (some .int) :: GW
def w_Mo_cycles : List Cond := Cond.code y_Mo_cycles b_Mo_cycles 1 (some .int) :: GW
def w_Mo_dataOf : List Cond := Cond.code y_Mo_dataOf b_Mo_dataOf 5 (some .int) :: GW
def w_Mo_encoded : List Cond := Cond.code y_Mo_encoded b_Mo_encoded 6 (some .long) :: GW
def w_Mo_execute : List Cond := Cond.code y_Mo_execute b_Mo_execute 5 none :: GW
def w_Mo_fetch : List Cond := Cond.code y_Mo_fetch b_Mo_fetch 4 (some .boolean) :: GW
def w_Mo_field : List Cond := Cond.code y_Mo_field b_Mo_field 3 (some .int) :: GW
def w_Mo_flip : List Cond := Cond.code y_Mo_flip b_Mo_flip 3 (some .boolean) :: GW
def w_Mo_give : List Cond := Cond.code y_Mo_give b_Mo_give 2 none :: GW
def w_Mo_go : List Cond := Cond.code y_Mo_go b_Mo_go 2 none :: GW
def w_Mo_holds : List Cond := Cond.code y_Mo_holds b_Mo_holds 4 (some .boolean) :: GW
def w_Mo_illegal : List Cond := Cond.code y_Mo_illegal b_Mo_illegal 1 none :: GW
def w_Mo_instruct : List Cond := Cond.code y_Mo_instruct b_Mo_instruct 2 none :: GW
def w_Mo_isData : List Cond := Cond.code y_Mo_isData b_Mo_isData 1 (some .boolean) :: GW
def w_Mo_isLess : List Cond := Cond.code y_Mo_isLess b_Mo_isLess 3 (some .boolean) :: GW
def w_Mo_isOdd : List Cond := Cond.code y_Mo_isOdd b_Mo_isOdd 4 (some .boolean) :: GW
def w_Mo_jump : List Cond := Cond.code y_Mo_jump b_Mo_jump 3 none :: GW
def w_Mo_keep : List Cond := Cond.code y_Mo_keep b_Mo_keep 3 none :: GW
def w_Mo_line : List Cond := Cond.code y_Mo_line b_Mo_line 4 (some .long) :: GW
def w_Mo_load : List Cond := Cond.code y_Mo_load b_Mo_load 6 none :: GW
def w_Mo_look : List Cond := Cond.code y_Mo_look b_Mo_look 5 (some .long) :: GW
def w_Mo_makeFaults : List Cond := Cond.code y_Mo_makeFaults b_Mo_makeFaults 4 none :: GW
def w_Mo_mend : List Cond := Cond.code y_Mo_mend b_Mo_mend 3 (some .boolean) :: GW
def w_Mo_noBit : List Cond := Cond.code y_Mo_noBit b_Mo_noBit 2 (some .boolean) :: GW
def w_Mo_numberJ : List Cond := Cond.code y_Mo_numberJ b_Mo_numberJ 1 (some .int) :: GW
def w_Mo_numberK : List Cond := Cond.code y_Mo_numberK b_Mo_numberK 1 (some .int) :: GW
def w_Mo_numberL : List Cond := Cond.code y_Mo_numberL b_Mo_numberL 1 (some .int) :: GW
def w_Mo_operand : List Cond := Cond.code y_Mo_operand b_Mo_operand 2 (some .int) :: GW
def w_Mo_outside : List Cond := Cond.code y_Mo_outside b_Mo_outside 2 (some .boolean) :: GW
def w_Mo_plan : List Cond := Cond.code y_Mo_plan b_Mo_plan 4 (some .boolean) :: GW
def w_Mo_planned : List Cond := Cond.code y_Mo_planned b_Mo_planned 1 (some .int) :: GW
def w_Mo_put : List Cond := Cond.code y_Mo_put b_Mo_put 4 none :: GW
def w_Mo_reaches : List Cond := Cond.code y_Mo_reaches b_Mo_reaches 3 (some .boolean) :: GW
def w_Mo_reckon : List Cond := Cond.code y_Mo_reckon b_Mo_reckon 7 none :: GW
def w_Mo_reckoned : List Cond := Cond.code y_Mo_reckoned b_Mo_reckoned 4 (some .int) :: GW
def w_Mo_register : List Cond := Cond.code y_Mo_register b_Mo_register 2 (some .int) :: GW
def w_Mo_rest : List Cond := Cond.code y_Mo_rest b_Mo_rest 2 none :: GW
def w_Mo_resume : List Cond := Cond.code y_Mo_resume b_Mo_resume 2 (some .boolean) :: GW
def w_Mo_run : List Cond := Cond.code y_Mo_run b_Mo_run 3 (some .int) :: GW
def w_Mo_save : List Cond := Cond.code y_Mo_save b_Mo_save 3 none :: GW
def w_Mo_scrub : List Cond := Cond.code y_Mo_scrub b_Mo_scrub 1 none :: GW
def w_Mo_set : List Cond := Cond.code y_Mo_set b_Mo_set 3 (some .boolean) :: GW
def w_Mo_stop : List Cond := Cond.code y_Mo_stop b_Mo_stop 3 none :: GW
def w_Mo_store : List Cond := Cond.code y_Mo_store b_Mo_store 7 none :: GW
def w_Mo_syndrome : List Cond := Cond.code y_Mo_syndrome b_Mo_syndrome 4 (some .int) :: GW
def w_Mo_two : List Cond := Cond.code y_Mo_two b_Mo_two 3 (some .int) :: GW
def w_Mo_value : List Cond := Cond.code y_Mo_value b_Mo_value 1 (some .int) :: GW
def w_Mo_valueOf : List Cond := Cond.code y_Mo_valueOf b_Mo_valueOf 2 (some .int) :: GW
def w_Mo_vote : List Cond := Cond.code y_Mo_vote b_Mo_vote 3 none :: GW
def w_Mo_write : List Cond := Cond.code y_Mo_write b_Mo_write 4 (some .boolean) :: GW
def w_Mo_wrongBit : List Cond := Cond.code y_Mo_wrongBit b_Mo_wrongBit 3 (some .int) :: GW
def w_In_compare : List Cond := Cond.code y_In_compare b_In_compare 2 (some .int) :: GW
def w_In_compareUnsigned : List Cond := Cond.code y_In_compareUnsigned b_In_compareUnsigned 2 (some .int) :: GW
def w_Lg_bitCount : List Cond := Cond.code y_Lg_bitCount b_Lg_bitCount 2 (some .int) :: GW
def w_Ar_fill : List Cond := Cond.code y_Ar_fill b_Ar_fill 5 none :: GW
