section
-- ===== PART A: goes FIRST, ahead of the names: the tables' words, and 'selects' of the private methods out of them =====
/-- a private method of a class that the tables say can be made, by its rows of tables_1 -/
def lw_okq (q : MethodName × Nat) : Prop := (q.1.cls ≠ "java/lang/invoke/MethodHandle" ∧ q.1.cls ≠ "java/lang/invoke/VarHandle") ∧ Cond.instantiable q.1.cls q.2 ∈ tables_1 ∧ Cond.privateMethod q.1 ∈ tables_1 ∧ Cond.instanceMethod q.1 ∈ tables_1
theorem lw_p0 : lw_okq (⟨"java/lang/Throwable", "fillInStackTrace", "(I)Ljava/lang/Throwable;"⟩, 6) := ⟨⟨by decide +kernel, by decide +kernel⟩, List.mem_of_getElem? (i := 88) (by decide +kernel), List.mem_of_getElem? (i := 86) (by decide +kernel), List.mem_of_getElem? (i := 87) (by decide +kernel)⟩
theorem lw_p1 : lw_okq (⟨"ShadowMath", "valueOf", "(IIII)I"⟩, 3) := ⟨⟨by decide +kernel, by decide +kernel⟩, List.mem_of_getElem? (i := 11) (by decide +kernel), List.mem_of_getElem? (i := 136) (by decide +kernel), List.mem_of_getElem? (i := 137) (by decide +kernel)⟩
theorem lw_p2 : lw_okq (⟨"ShadowMath", "chosen", "(I)Z"⟩, 3) := ⟨⟨by decide +kernel, by decide +kernel⟩, List.mem_of_getElem? (i := 11) (by decide +kernel), List.mem_of_getElem? (i := 150) (by decide +kernel), List.mem_of_getElem? (i := 151) (by decide +kernel)⟩
theorem lw_p3 : lw_okq (⟨"ShadowMath", "shadowOf", "(IIII)I"⟩, 3) := ⟨⟨by decide +kernel, by decide +kernel⟩, List.mem_of_getElem? (i := 11) (by decide +kernel), List.mem_of_getElem? (i := 154) (by decide +kernel), List.mem_of_getElem? (i := 155) (by decide +kernel)⟩
theorem lw_p4 : lw_okq (⟨"ShadowMath", "choiceShadow", "(III)I"⟩, 3) := ⟨⟨by decide +kernel, by decide +kernel⟩, List.mem_of_getElem? (i := 11) (by decide +kernel), List.mem_of_getElem? (i := 184) (by decide +kernel), List.mem_of_getElem? (i := 185) (by decide +kernel)⟩
theorem lw_p5 : lw_okq (⟨"ShadowMathModel", "fails", "(ZI)Z"⟩, 7) := ⟨⟨by decide +kernel, by decide +kernel⟩, List.mem_of_getElem? (i := 243) (by decide +kernel), List.mem_of_getElem? (i := 283) (by decide +kernel), List.mem_of_getElem? (i := 284) (by decide +kernel)⟩
theorem lw_p6 : lw_okq (⟨"ShadowMathModel", "make", "(I)V"⟩, 7) := ⟨⟨by decide +kernel, by decide +kernel⟩, List.mem_of_getElem? (i := 243) (by decide +kernel), List.mem_of_getElem? (i := 287) (by decide +kernel), List.mem_of_getElem? (i := 288) (by decide +kernel)⟩
theorem lw_p7 : lw_okq (⟨"ShadowMathModel", "give", "(I)V"⟩, 7) := ⟨⟨by decide +kernel, by decide +kernel⟩, List.mem_of_getElem? (i := 243) (by decide +kernel), List.mem_of_getElem? (i := 291) (by decide +kernel), List.mem_of_getElem? (i := 292) (by decide +kernel)⟩
theorem lw_p8 : lw_okq (⟨"ShadowMathModel", "number", "(I)I"⟩, 7) := ⟨⟨by decide +kernel, by decide +kernel⟩, List.mem_of_getElem? (i := 243) (by decide +kernel), List.mem_of_getElem? (i := 299) (by decide +kernel), List.mem_of_getElem? (i := 300) (by decide +kernel)⟩
theorem lw_p9 : lw_okq (⟨"ShadowMathModel", "lowest", "(I)I"⟩, 7) := ⟨⟨by decide +kernel, by decide +kernel⟩, List.mem_of_getElem? (i := 243) (by decide +kernel), List.mem_of_getElem? (i := 303) (by decide +kernel), List.mem_of_getElem? (i := 304) (by decide +kernel)⟩
theorem lw_p10 : lw_okq (⟨"ShadowMathModel", "un", "(II)Z"⟩, 7) := ⟨⟨by decide +kernel, by decide +kernel⟩, List.mem_of_getElem? (i := 243) (by decide +kernel), List.mem_of_getElem? (i := 307) (by decide +kernel), List.mem_of_getElem? (i := 308) (by decide +kernel)⟩
theorem lw_p11 : lw_okq (⟨"ShadowMathModel", "from", "(I)V"⟩, 7) := ⟨⟨by decide +kernel, by decide +kernel⟩, List.mem_of_getElem? (i := 243) (by decide +kernel), List.mem_of_getElem? (i := 311) (by decide +kernel), List.mem_of_getElem? (i := 312) (by decide +kernel)⟩
theorem lw_p12 : lw_okq (⟨"ShadowMathModel", "is", "(II)Z"⟩, 7) := ⟨⟨by decide +kernel, by decide +kernel⟩, List.mem_of_getElem? (i := 243) (by decide +kernel), List.mem_of_getElem? (i := 315) (by decide +kernel), List.mem_of_getElem? (i := 316) (by decide +kernel)⟩
theorem lw_p13 : lw_okq (⟨"ShadowMathModel", "shift", "(IIII)V"⟩, 7) := ⟨⟨by decide +kernel, by decide +kernel⟩, List.mem_of_getElem? (i := 243) (by decide +kernel), List.mem_of_getElem? (i := 319) (by decide +kernel), List.mem_of_getElem? (i := 320) (by decide +kernel)⟩
theorem lw_p14 : lw_okq (⟨"ShadowMathModel", "noughts", "(I)I"⟩, 7) := ⟨⟨by decide +kernel, by decide +kernel⟩, List.mem_of_getElem? (i := 243) (by decide +kernel), List.mem_of_getElem? (i := 323) (by decide +kernel), List.mem_of_getElem? (i := 324) (by decide +kernel)⟩
theorem lw_p15 : lw_okq (⟨"ShadowMathModel", "end", "(IZZ)J"⟩, 7) := ⟨⟨by decide +kernel, by decide +kernel⟩, List.mem_of_getElem? (i := 243) (by decide +kernel), List.mem_of_getElem? (i := 327) (by decide +kernel), List.mem_of_getElem? (i := 328) (by decide +kernel)⟩
def lw_privs_1 : List (MethodName × Nat) := [(⟨"java/lang/Throwable", "fillInStackTrace", "(I)Ljava/lang/Throwable;"⟩, 6), (⟨"ShadowMath", "valueOf", "(IIII)I"⟩, 3), (⟨"ShadowMath", "chosen", "(I)Z"⟩, 3), (⟨"ShadowMath", "shadowOf", "(IIII)I"⟩, 3), (⟨"ShadowMath", "choiceShadow", "(III)I"⟩, 3), (⟨"ShadowMathModel", "fails", "(ZI)Z"⟩, 7), (⟨"ShadowMathModel", "make", "(I)V"⟩, 7), (⟨"ShadowMathModel", "give", "(I)V"⟩, 7), (⟨"ShadowMathModel", "number", "(I)I"⟩, 7), (⟨"ShadowMathModel", "lowest", "(I)I"⟩, 7), (⟨"ShadowMathModel", "un", "(II)Z"⟩, 7), (⟨"ShadowMathModel", "from", "(I)V"⟩, 7), (⟨"ShadowMathModel", "is", "(II)Z"⟩, 7), (⟨"ShadowMathModel", "shift", "(IIII)V"⟩, 7), (⟨"ShadowMathModel", "noughts", "(I)I"⟩, 7), (⟨"ShadowMathModel", "end", "(IZZ)J"⟩, 7)]
theorem lw_r1 : ∀ q ∈ lw_privs_1, lw_okq q := List.forall_mem_cons.mpr ⟨lw_p0, List.forall_mem_cons.mpr ⟨lw_p1, List.forall_mem_cons.mpr ⟨lw_p2, List.forall_mem_cons.mpr ⟨lw_p3, List.forall_mem_cons.mpr ⟨lw_p4, List.forall_mem_cons.mpr ⟨lw_p5, List.forall_mem_cons.mpr ⟨lw_p6, List.forall_mem_cons.mpr ⟨lw_p7, List.forall_mem_cons.mpr ⟨lw_p8, List.forall_mem_cons.mpr ⟨lw_p9, List.forall_mem_cons.mpr ⟨lw_p10, List.forall_mem_cons.mpr ⟨lw_p11, List.forall_mem_cons.mpr ⟨lw_p12, List.forall_mem_cons.mpr ⟨lw_p13, List.forall_mem_cons.mpr ⟨lw_p14, List.forall_mem_cons.mpr ⟨lw_p15, fun _ h => absurd h List.not_mem_nil⟩⟩⟩⟩⟩⟩⟩⟩⟩⟩⟩⟩⟩⟩⟩⟩
theorem lw_p16 : lw_okq (⟨"ShadowMathModel", "choose", "(III)V"⟩, 7) := ⟨⟨by decide +kernel, by decide +kernel⟩, List.mem_of_getElem? (i := 243) (by decide +kernel), List.mem_of_getElem? (i := 332) (by decide +kernel), List.mem_of_getElem? (i := 333) (by decide +kernel)⟩
def lw_privs_2 : List (MethodName × Nat) := [(⟨"ShadowMathModel", "choose", "(III)V"⟩, 7)]
theorem lw_r2 : ∀ q ∈ lw_privs_2, lw_okq q := List.forall_mem_cons.mpr ⟨lw_p16, fun _ h => absurd h List.not_mem_nil⟩
def lw_privs : List (MethodName × Nat) := lw_privs_1 ++ (lw_privs_2)
def lw_tbl : List Cond := k2_sels lw_privs ++ tables_1
theorem lw_privs_ok : ∀ q ∈ lw_privs, lw_okq q := by
  show ∀ q ∈ lw_privs_1 ++ (lw_privs_2), lw_okq q
  exact List.forall_mem_append.mpr ⟨lw_r1, lw_r2⟩
end
section
def RX0 : String := "ShadowMath"
def RX1 : String := "ShadowMathModel"
def RL : String := "ShadowMathLaw"
def RJ6 : String := "java/lang/Integer"
def TX0 : u_T := fun k => match k with
  | 0 => ("ShadowMath", "values", "[I", true)
  | 1 => ("ShadowMath", "shadows", "[I", true)
  | _ => ("ShadowMath", "memory", "[I", true)
def tyX0 : Nat → FieldType := fun k => match k with
  | 0 => .array .int
  | 1 => .array .int
  | _ => .array .int
def TX1 : u_T := fun k => match k with
  | 0 => ("ShadowMathModel", "err", "I", false)
  | 1 => ("ShadowMathModel", "bit", "[Z", true)
  | 2 => ("ShadowMathModel", "lost", "[Z", true)
  | 3 => ("ShadowMathModel", "octetBit", "[Z", true)
  | 4 => ("ShadowMathModel", "octetLost", "[Z", true)
  | 5 => ("ShadowMathModel", "out", "[Z", true)
  | _ => ("ShadowMathModel", "gone", "[Z", true)
def tyX1 : Nat → FieldType := fun k => match k with
  | 0 => .int
  | 1 => .array .boolean
  | 2 => .array .boolean
  | 3 => .array .boolean
  | 4 => .array .boolean
  | 5 => .array .boolean
  | _ => .array .boolean
theorem nX0 : ∀ a, a < 3 → ∀ b, b < 3 → a ≠ b → (TX0 a).2.1 ≠ (TX0 b).2.1 := by decide +kernel
theorem tyX0_ok : ∀ k, k < 3 → parseFieldDescriptor (TX0 k).2.2.1 = some (tyX0 k) := by decide +kernel
theorem nX1 : ∀ a, a < 7 → ∀ b, b < 7 → a ≠ b → (TX1 a).2.1 ≠ (TX1 b).2.1 := by decide +kernel
theorem tyX1_ok : ∀ k, k < 7 → parseFieldDescriptor (TX1 k).2.2.1 = some (tyX1 k) := by decide +kernel
abbrev vwCl : List vw_C := [(RX0, TX0, 3), (RX1, TX1, 7)]
abbrev cX0_init : ByteArray := prog_1_method_1_code
def yX0_init : MethodName := ⟨RX0, "<init>", "()V"⟩
abbrev cX0_count : ByteArray := prog_1_method_11_code
def yX0_count : MethodName := ⟨RX0, "count", "()I"⟩
abbrev cJ6_bitCount : ByteArray := prog_7_method_49_code
def yJ6_bitCount : MethodName := ⟨RJ6, "bitCount", "(I)I"⟩
abbrev cL_set : ByteArray := method_3_code
def yL_set : MethodName := ⟨RL, "set", "(LShadowMath;III)I"⟩
abbrev cX0_set : ByteArray := prog_1_method_2_code
def yX0_set : MethodName := ⟨RX0, "set", "(III)V"⟩
abbrev cX0_checkRegister : ByteArray := prog_1_method_12_code
def yX0_checkRegister : MethodName := ⟨RX0, "checkRegister", "(I)V"⟩
abbrev cL_op : ByteArray := method_4_code
def yL_op : MethodName := ⟨RL, "op", "(LShadowMath;IIII)I"⟩
abbrev cX0_op : ByteArray := prog_1_method_3_code
def yX0_op : MethodName := ⟨RX0, "op", "(IIII)V"⟩
abbrev cX0_valueOf : ByteArray := prog_1_method_14_code
def yX0_valueOf : MethodName := ⟨RX0, "valueOf", "(IIII)I"⟩
abbrev cX0_shifted : ByteArray := prog_1_method_18_code
def yX0_shifted : MethodName := ⟨RX0, "shifted", "(III)I"⟩
abbrev cX0_bit : ByteArray := prog_1_method_27_code
def yX0_bit : MethodName := ⟨RX0, "bit", "(Z)I"⟩
abbrev cX0_signTurned : ByteArray := prog_1_method_22_code
def yX0_signTurned : MethodName := ⟨RX0, "signTurned", "(I)I"⟩
abbrev cX0_chosen : ByteArray := prog_1_method_16_code
def yX0_chosen : MethodName := ⟨RX0, "chosen", "(I)Z"⟩
abbrev cX0_shadowOf : ByteArray := prog_1_method_15_code
def yX0_shadowOf : MethodName := ⟨RX0, "shadowOf", "(IIII)I"⟩
abbrev cJ6_numberOfTrailingZeros : ByteArray := prog_7_method_48_code
def yJ6_numberOfTrailingZeros : MethodName := ⟨RJ6, "numberOfTrailingZeros", "(I)I"⟩
abbrev cX0_fromPlaceOn : ByteArray := prog_1_method_20_code
def yX0_fromPlaceOn : MethodName := ⟨RX0, "fromPlaceOn", "(I)I"⟩
abbrev cX0_placeLostBy : ByteArray := prog_1_method_21_code
def yX0_placeLostBy : MethodName := ⟨RX0, "placeLostBy", "(III)I"⟩
abbrev cX0_orderHangs : ByteArray := prog_1_method_23_code
def yX0_orderHangs : MethodName := ⟨RX0, "orderHangs", "(IIII)Z"⟩
abbrev cX0_lowEnd : ByteArray := prog_1_method_25_code
def yX0_lowEnd : MethodName := ⟨RX0, "lowEnd", "(II)I"⟩
abbrev cX0_highEnd : ByteArray := prog_1_method_26_code
def yX0_highEnd : MethodName := ⟨RX0, "highEnd", "(II)I"⟩
abbrev cX0_samenessHangs : ByteArray := prog_1_method_24_code
def yX0_samenessHangs : MethodName := ⟨RX0, "samenessHangs", "(III)Z"⟩
abbrev cX0_choiceShadow : ByteArray := prog_1_method_17_code
def yX0_choiceShadow : MethodName := ⟨RX0, "choiceShadow", "(III)I"⟩
abbrev cL_store : ByteArray := method_5_code
def yL_store : MethodName := ⟨RL, "store", "(LShadowMath;III)I"⟩
abbrev cX0_store : ByteArray := prog_1_method_4_code
def yX0_store : MethodName := ⟨RX0, "store", "(III)V"⟩
abbrev cX0_checkTransfer : ByteArray := prog_1_method_13_code
def yX0_checkTransfer : MethodName := ⟨RX0, "checkTransfer", "(III)V"⟩
abbrev cL_load : ByteArray := method_6_code
def yL_load : MethodName := ⟨RL, "load", "(LShadowMath;IIIZ)I"⟩
abbrev cX0_load : ByteArray := prog_1_method_5_code
def yX0_load : MethodName := ⟨RX0, "load", "(IIIZ)V"⟩
abbrev cX0_widened : ByteArray := prog_1_method_19_code
def yX0_widened : MethodName := ⟨RX0, "widened", "(IIZ)I"⟩
abbrev cL_value : ByteArray := method_7_code
def yL_value : MethodName := ⟨RL, "value", "(LShadowMath;I[J)I"⟩
abbrev cX0_value : ByteArray := prog_1_method_6_code
def yX0_value : MethodName := ⟨RX0, "value", "(I)I"⟩
abbrev cL_not : ByteArray := method_8_code
def yL_not : MethodName := ⟨RL, "not", "(LShadowMath;I[J)I"⟩
abbrev cX0_not : ByteArray := prog_1_method_7_code
def yX0_not : MethodName := ⟨RX0, "not", "(I)I"⟩
abbrev cL_least : ByteArray := method_9_code
def yL_least : MethodName := ⟨RL, "least", "(LShadowMath;I[J)I"⟩
abbrev cX0_least : ByteArray := prog_1_method_8_code
def yX0_least : MethodName := ⟨RX0, "least", "(I)I"⟩
abbrev cL_greatest : ByteArray := method_10_code
def yL_greatest : MethodName := ⟨RL, "greatest", "(LShadowMath;I[J)I"⟩
abbrev cX0_greatest : ByteArray := prog_1_method_9_code
def yX0_greatest : MethodName := ⟨RX0, "greatest", "(I)I"⟩
abbrev cL_octet : ByteArray := method_11_code
def yL_octet : MethodName := ⟨RL, "octet", "(LShadowMath;I[J)I"⟩
abbrev cX0_octet : ByteArray := prog_1_method_10_code
def yX0_octet : MethodName := ⟨RX0, "octet", "(I)I"⟩
abbrev cX1_init : ByteArray := prog_3_method_1_code
def yX1_init : MethodName := ⟨RX1, "<init>", "()V"⟩
abbrev cX1_thrown : ByteArray := prog_3_method_2_code
def yX1_thrown : MethodName := ⟨RX1, "thrown", "()I"⟩
abbrev cX1_set : ByteArray := prog_3_method_8_code
def yX1_set : MethodName := ⟨RX1, "set", "(III)V"⟩
abbrev cX1_none : ByteArray := prog_3_method_4_code
def yX1_none : MethodName := ⟨RX1, "none", "(I)Z"⟩
abbrev cX1_fails : ByteArray := prog_3_method_3_code
def yX1_fails : MethodName := ⟨RX1, "fails", "(ZI)Z"⟩
abbrev cX1_make : ByteArray := prog_3_method_7_code
def yX1_make : MethodName := ⟨RX1, "make", "(I)V"⟩
abbrev cX1_give : ByteArray := prog_3_method_6_code
def yX1_give : MethodName := ⟨RX1, "give", "(I)V"⟩
abbrev cX1_op : ByteArray := prog_3_method_14_code
def yX1_op : MethodName := ⟨RX1, "op", "(IIII)V"⟩
abbrev cX1_number : ByteArray := prog_3_method_5_code
def yX1_number : MethodName := ⟨RX1, "number", "(I)I"⟩
abbrev cX1_lowest : ByteArray := prog_3_method_11_code
def yX1_lowest : MethodName := ⟨RX1, "lowest", "(I)I"⟩
abbrev cX1_un : ByteArray := prog_3_method_10_code
def yX1_un : MethodName := ⟨RX1, "un", "(II)Z"⟩
abbrev cX1_from : ByteArray := prog_3_method_13_code
def yX1_from : MethodName := ⟨RX1, "from", "(I)V"⟩
abbrev cX1_is : ByteArray := prog_3_method_9_code
def yX1_is : MethodName := ⟨RX1, "is", "(II)Z"⟩
abbrev cX1_shift : ByteArray := prog_3_method_15_code
def yX1_shift : MethodName := ⟨RX1, "shift", "(IIII)V"⟩
abbrev cX1_noughts : ByteArray := prog_3_method_12_code
def yX1_noughts : MethodName := ⟨RX1, "noughts", "(I)I"⟩
abbrev cX1_end : ByteArray := prog_3_method_16_code
def yX1_end : MethodName := ⟨RX1, "end", "(IZZ)J"⟩
abbrev cX1_choose : ByteArray := prog_3_method_17_code
def yX1_choose : MethodName := ⟨RX1, "choose", "(III)V"⟩
abbrev cX1_store : ByteArray := prog_3_method_19_code
def yX1_store : MethodName := ⟨RX1, "store", "(III)V"⟩
abbrev cX1_wrong : ByteArray := prog_3_method_18_code
def yX1_wrong : MethodName := ⟨RX1, "wrong", "(I)Z"⟩
abbrev cX1_load : ByteArray := prog_3_method_20_code
def yX1_load : MethodName := ⟨RX1, "load", "(IIIZ)V"⟩
abbrev cX1_value : ByteArray := prog_3_method_21_code
def yX1_value : MethodName := ⟨RX1, "value", "(I)I"⟩
abbrev cX1_not : ByteArray := prog_3_method_22_code
def yX1_not : MethodName := ⟨RX1, "not", "(I)I"⟩
abbrev cX1_least : ByteArray := prog_3_method_23_code
def yX1_least : MethodName := ⟨RX1, "least", "(I)I"⟩
abbrev cX1_greatest : ByteArray := prog_3_method_24_code
def yX1_greatest : MethodName := ⟨RX1, "greatest", "(I)I"⟩
abbrev cX1_octet : ByteArray := prog_3_method_25_code
def yX1_octet : MethodName := ⟨RX1, "octet", "(I)I"⟩
abbrev cX1_count : ByteArray := prog_3_method_26_code
def yX1_count : MethodName := ⟨RX1, "count", "()I"⟩
abbrev cL_law : ByteArray := code
def yL_law : MethodName := ⟨RL, "law", "([I)Z"⟩
/-- all words of the tables that stay true under warmer tables -/
def smW : List Cond := [.initialized "ShadowMathLaw",
  .initialized "ShadowMath",
  .initialized "ShadowMathModel",
  .initialized "java/lang/Throwable",
  .initialized "java/lang/Exception",
  .initialized "java/lang/RuntimeException",
  .initialized "java/lang/IndexOutOfBoundsException",
  .initialized "java/lang/IllegalArgumentException",
  .initialized "java/lang/Integer",
  .initialized "java/lang/Math",
  .classLink "ShadowMathLaw" 8 "ShadowMath",
  .instantiable "ShadowMath" 3,
  .methodLink "ShadowMathLaw" 44 yX0_init,
  .instanceMethod yX0_init,
  .code yX0_init prog_1_method_1_code 1 none,
  .methodLink "ShadowMath" 3 ⟨"java/lang/Object", "<init>", "()V"⟩,
  .instanceMethod ⟨"java/lang/Object", "<init>", "()V"⟩,
  .code ⟨"java/lang/Object", "<init>", "()V"⟩ object_method_1_code 1 none,
  .fieldLink "ShadowMath" 11 "ShadowMath" "values" "[I",
  .fieldLink "ShadowMath" 15 "ShadowMath" "shadows" "[I",
  .fieldLink "ShadowMath" 18 "ShadowMath" "memory" "[I",
  .laysFinal "ShadowMath" "ShadowMath" "values" "[I",
  .soleField "ShadowMath" "values",
  .laysFinal "ShadowMath" "ShadowMath" "shadows" "[I",
  .soleField "ShadowMath" "shadows",
  .laysFinal "ShadowMath" "ShadowMath" "memory" "[I",
  .soleField "ShadowMath" "memory",
  .superclass "ShadowMath" "java/lang/Object",
  .arrayClass .int,
  .methodLink "ShadowMathLaw" 85 yX0_count,
  .instanceMethod yX0_count,
  .selects "ShadowMath" yX0_count yX0_count,
  .code yX0_count prog_1_method_11_code 3 (some .int),
  .methodLink "ShadowMath" 53 yJ6_bitCount,
  .static yJ6_bitCount,
  .code yJ6_bitCount prog_7_method_49_code 1 (some .int),
  .constant "java/lang/Integer" 265 1431655765,
  .constant "java/lang/Integer" 266 858993459,
  .constant "java/lang/Integer" 267 252645135,
  .methodLink "ShadowMathLaw" 48 yL_set,
  .static yL_set,
  .codeWith yL_set method_3_code 5 (some .int) [(0, 7, 10, 13)],
  .classLink "ShadowMathLaw" 13 "java/lang/IndexOutOfBoundsException",
  .methodLink "ShadowMathLaw" 7 yX0_set,
  .instanceMethod yX0_set,
  .selects "ShadowMath" yX0_set yX0_set,
  .code yX0_set prog_1_method_2_code 4 none,
  .methodLink "ShadowMath" 21 yX0_checkRegister,
  .static yX0_checkRegister,
  .code yX0_checkRegister prog_1_method_12_code 1 none,
  .classLink "ShadowMath" 50 "java/lang/IndexOutOfBoundsException",
  .instantiable "java/lang/IndexOutOfBoundsException" 6,
  .selects "java/lang/IndexOutOfBoundsException" ⟨"java/lang/Throwable", "fillInStackTrace", "(I)Ljava/lang/Throwable;"⟩ ⟨"java/lang/Throwable", "fillInStackTrace", "(I)Ljava/lang/Throwable;"⟩,
  .selects "java/lang/IndexOutOfBoundsException" ⟨"java/lang/Throwable", "fillInStackTrace", "()Ljava/lang/Throwable;"⟩ ⟨"java/lang/Throwable", "fillInStackTrace", "()Ljava/lang/Throwable;"⟩,
  .lays "java/lang/IndexOutOfBoundsException" "java/lang/Throwable" "cause" "Ljava/lang/Throwable;",
  .lays "java/lang/Throwable" "java/lang/Throwable" "cause" "Ljava/lang/Throwable;",
  .lays "java/lang/IndexOutOfBoundsException" "java/lang/Throwable" "stackTrace" "[Ljava/lang/StackTraceElement;",
  .lays "java/lang/Throwable" "java/lang/Throwable" "stackTrace" "[Ljava/lang/StackTraceElement;",
  .lays "java/lang/IndexOutOfBoundsException" "java/lang/Throwable" "suppressedExceptions" "Ljava/util/List;",
  .lays "java/lang/Throwable" "java/lang/Throwable" "suppressedExceptions" "Ljava/util/List;",
  .lays "java/lang/IndexOutOfBoundsException" "java/lang/Throwable" "detailMessage" "Ljava/lang/String;",
  .lays "java/lang/Throwable" "java/lang/Throwable" "detailMessage" "Ljava/lang/String;",
  .lays "java/lang/IndexOutOfBoundsException" "java/lang/Throwable" "backtrace" "Ljava/lang/Object;",
  .lays "java/lang/Throwable" "java/lang/Throwable" "backtrace" "Ljava/lang/Object;",
  .fieldLink "java/lang/Throwable" 198 "java/lang/Throwable" "backtrace" "Ljava/lang/Object;",
  .superclass "java/lang/Throwable" "java/lang/Object",
  .instanceMethod ⟨"java/lang/Throwable", "<init>", "()V"⟩,
  .code ⟨"java/lang/Throwable", "<init>", "()V"⟩ prog_10_method_1_code 1 none,
  .methodLink "java/lang/Throwable" 1 ⟨"java/lang/Object", "<init>", "()V"⟩,
  .fieldLink "java/lang/Throwable" 13 "java/lang/Throwable" "UNASSIGNED_STACK" "[Ljava/lang/StackTraceElement;",
  .fieldLink "java/lang/Throwable" 20 "java/lang/Throwable" "SUPPRESSED_SENTINEL" "Ljava/util/List;",
  .methodLink "java/lang/Throwable" 27 ⟨"java/lang/Throwable", "fillInStackTrace", "()Ljava/lang/Throwable;"⟩,
  .instanceMethod ⟨"java/lang/Throwable", "fillInStackTrace", "()Ljava/lang/Throwable;"⟩,
  .sameMethod "java/lang/Throwable" "java/lang/Throwable" "fillInStackTrace" "()Ljava/lang/Throwable;",
  .selects "java/lang/IllegalArgumentException" ⟨"java/lang/Throwable", "fillInStackTrace", "()Ljava/lang/Throwable;"⟩ ⟨"java/lang/Throwable", "fillInStackTrace", "()Ljava/lang/Throwable;"⟩,
  .codeSync ⟨"java/lang/Throwable", "fillInStackTrace", "()Ljava/lang/Throwable;"⟩ prog_10_method_18_code 1 (some (.object "java/lang/Throwable")),
  .methodLink "java/lang/Throwable" 202 ⟨"java/lang/Throwable", "fillInStackTrace", "(I)Ljava/lang/Throwable;"⟩,
  .instanceMethod ⟨"java/lang/Throwable", "fillInStackTrace", "(I)Ljava/lang/Throwable;"⟩,
  .instantiable "java/lang/Throwable" 6,
  .native ⟨"java/lang/Throwable", "fillInStackTrace", "(I)Ljava/lang/Throwable;"⟩,
  .methodLink "ShadowMath" 52 ⟨"java/lang/IndexOutOfBoundsException", "<init>", "()V"⟩,
  .instanceMethod ⟨"java/lang/IndexOutOfBoundsException", "<init>", "()V"⟩,
  .code ⟨"java/lang/IndexOutOfBoundsException", "<init>", "()V"⟩ prog_6_method_1_code 1 none,
  .methodLink "java/lang/IndexOutOfBoundsException" 1 ⟨"java/lang/RuntimeException", "<init>", "()V"⟩,
  .instanceMethod ⟨"java/lang/RuntimeException", "<init>", "()V"⟩,
  .code ⟨"java/lang/RuntimeException", "<init>", "()V"⟩ prog_9_method_1_code 1 none,
  .methodLink "java/lang/RuntimeException" 1 ⟨"java/lang/Exception", "<init>", "()V"⟩,
  .instanceMethod ⟨"java/lang/Exception", "<init>", "()V"⟩,
  .code ⟨"java/lang/Exception", "<init>", "()V"⟩ prog_4_method_1_code 1 none,
  .methodLink "java/lang/Exception" 1 ⟨"java/lang/Throwable", "<init>", "()V"⟩,
  .fieldLink "java/lang/Throwable" 7 "java/lang/Throwable" "cause" "Ljava/lang/Throwable;",
  .fieldLink "java/lang/Throwable" 17 "java/lang/Throwable" "stackTrace" "[Ljava/lang/StackTraceElement;",
  .fieldLink "java/lang/Throwable" 24 "java/lang/Throwable" "suppressedExceptions" "Ljava/util/List;",
  .soleField "java/lang/Throwable" "backtrace",
  .soleField "java/lang/Throwable" "detailMessage",
  .soleField "java/lang/Throwable" "cause",
  .soleField "java/lang/Throwable" "stackTrace",
  .lays "java/lang/IndexOutOfBoundsException" "java/lang/Throwable" "depth" "I",
  .soleField "java/lang/Throwable" "depth",
  .soleField "java/lang/Throwable" "suppressedExceptions",
  .superclass "java/lang/IndexOutOfBoundsException" "java/lang/RuntimeException",
  .methodLink "ShadowMathLaw" 58 yL_op,
  .static yL_op,
  .codeWith yL_op method_4_code 6 (some .int) [(0, 9, 12, 19), (0, 9, 16, 13)],
  .classLink "ShadowMathLaw" 19 "java/lang/IllegalArgumentException",
  .methodLink "ShadowMathLaw" 15 yX0_op,
  .instanceMethod yX0_op,
  .selects "ShadowMath" yX0_op yX0_op,
  .code yX0_op prog_1_method_3_code 7 none,
  .classLink "ShadowMath" 25 "java/lang/IllegalArgumentException",
  .instantiable "java/lang/IllegalArgumentException" 6,
  .selects "java/lang/IllegalArgumentException" ⟨"java/lang/Throwable", "fillInStackTrace", "(I)Ljava/lang/Throwable;"⟩ ⟨"java/lang/Throwable", "fillInStackTrace", "(I)Ljava/lang/Throwable;"⟩,
  .lays "java/lang/IllegalArgumentException" "java/lang/Throwable" "cause" "Ljava/lang/Throwable;",
  .lays "java/lang/IllegalArgumentException" "java/lang/Throwable" "stackTrace" "[Ljava/lang/StackTraceElement;",
  .lays "java/lang/IllegalArgumentException" "java/lang/Throwable" "suppressedExceptions" "Ljava/util/List;",
  .lays "java/lang/IllegalArgumentException" "java/lang/Throwable" "detailMessage" "Ljava/lang/String;",
  .lays "java/lang/IllegalArgumentException" "java/lang/Throwable" "backtrace" "Ljava/lang/Object;",
  .methodLink "ShadowMath" 27 ⟨"java/lang/IllegalArgumentException", "<init>", "()V"⟩,
  .instanceMethod ⟨"java/lang/IllegalArgumentException", "<init>", "()V"⟩,
  .code ⟨"java/lang/IllegalArgumentException", "<init>", "()V"⟩ prog_5_method_1_code 1 none,
  .methodLink "java/lang/IllegalArgumentException" 1 ⟨"java/lang/RuntimeException", "<init>", "()V"⟩,
  .lays "java/lang/IllegalArgumentException" "java/lang/Throwable" "depth" "I",
  .superclass "java/lang/IllegalArgumentException" "java/lang/RuntimeException",
  .methodLink "ShadowMath" 28 yX0_valueOf,
  .instanceMethod yX0_valueOf,
  .code yX0_valueOf prog_1_method_14_code 7 (some .int),
  .methodLink "ShadowMath" 57 yX0_shifted,
  .static yX0_shifted,
  .code yX0_shifted prog_1_method_18_code 3 (some .int),
  .methodLink "ShadowMath" 61 yX0_bit,
  .static yX0_bit,
  .code yX0_bit prog_1_method_27_code 1 (some .int),
  .methodLink "ShadowMath" 65 yX0_signTurned,
  .static yX0_signTurned,
  .code yX0_signTurned prog_1_method_22_code 1 (some .int),
  .constant "ShadowMath" 97 (-2147483648),
  .methodLink "ShadowMath" 68 yX0_chosen,
  .instanceMethod yX0_chosen,
  .code yX0_chosen prog_1_method_16_code 2 (some .boolean),
  .methodLink "ShadowMath" 32 yX0_shadowOf,
  .instanceMethod yX0_shadowOf,
  .code yX0_shadowOf prog_1_method_15_code 9 (some .int),
  .methodLink "ShadowMath" 72 yJ6_numberOfTrailingZeros,
  .static yJ6_numberOfTrailingZeros,
  .code yJ6_numberOfTrailingZeros prog_7_method_48_code 2 (some .int),
  .constant "java/lang/Integer" 264 65536,
  .methodLink "ShadowMath" 75 yX0_fromPlaceOn,
  .static yX0_fromPlaceOn,
  .code yX0_fromPlaceOn prog_1_method_20_code 1 (some .int),
  .methodLink "ShadowMath" 78 yX0_placeLostBy,
  .static yX0_placeLostBy,
  .code yX0_placeLostBy prog_1_method_21_code 3 (some .int),
  .methodLink "ShadowMath" 81 ⟨"java/lang/Math", "min", "(II)I"⟩,
  .static ⟨"java/lang/Math", "min", "(II)I"⟩,
  .code ⟨"java/lang/Math", "min", "(II)I"⟩ prog_8_method_69_code 2 (some .int),
  .methodLink "ShadowMath" 86 yX0_orderHangs,
  .static yX0_orderHangs,
  .code yX0_orderHangs prog_1_method_23_code 6 (some .boolean),
  .methodLink "ShadowMath" 43 yX0_lowEnd,
  .static yX0_lowEnd,
  .code yX0_lowEnd prog_1_method_25_code 2 (some .int),
  .methodLink "ShadowMath" 47 yX0_highEnd,
  .static yX0_highEnd,
  .code yX0_highEnd prog_1_method_26_code 2 (some .int),
  .constant "ShadowMath" 98 2147483647,
  .methodLink "ShadowMath" 90 yX0_samenessHangs,
  .static yX0_samenessHangs,
  .code yX0_samenessHangs prog_1_method_24_code 3 (some .boolean),
  .methodLink "ShadowMath" 94 yX0_choiceShadow,
  .instanceMethod yX0_choiceShadow,
  .code yX0_choiceShadow prog_1_method_17_code 4 (some .int),
  .methodLink "ShadowMathLaw" 62 yL_store,
  .static yL_store,
  .codeWith yL_store method_5_code 5 (some .int) [(0, 7, 10, 19), (0, 7, 14, 13)],
  .methodLink "ShadowMathLaw" 21 yX0_store,
  .instanceMethod yX0_store,
  .selects "ShadowMath" yX0_store yX0_store,
  .code yX0_store prog_1_method_4_code 8 none,
  .methodLink "ShadowMath" 35 yX0_checkTransfer,
  .static yX0_checkTransfer,
  .code yX0_checkTransfer prog_1_method_13_code 3 none,
  .methodLink "ShadowMathLaw" 65 yL_load,
  .static yL_load,
  .codeWith yL_load method_6_code 6 (some .int) [(0, 9, 12, 19), (0, 9, 16, 13)],
  .methodLink "ShadowMathLaw" 24 yX0_load,
  .instanceMethod yX0_load,
  .selects "ShadowMath" yX0_load yX0_load,
  .code yX0_load prog_1_method_5_code 9 none,
  .methodLink "ShadowMath" 39 yX0_widened,
  .static yX0_widened,
  .code yX0_widened prog_1_method_19_code 4 (some .int),
  .methodLink "ShadowMathLaw" 69 yL_value,
  .static yL_value,
  .codeWith yL_value method_7_code 4 (some .int) [(0, 9, 12, 13)],
  .methodLink "ShadowMathLaw" 28 yX0_value,
  .instanceMethod yX0_value,
  .selects "ShadowMath" yX0_value yX0_value,
  .code yX0_value prog_1_method_6_code 2 (some .int),
  .methodLink "ShadowMathLaw" 73 yL_not,
  .static yL_not,
  .codeWith yL_not method_8_code 4 (some .int) [(0, 9, 12, 13)],
  .methodLink "ShadowMathLaw" 32 yX0_not,
  .instanceMethod yX0_not,
  .selects "ShadowMath" yX0_not yX0_not,
  .code yX0_not prog_1_method_7_code 2 (some .int),
  .methodLink "ShadowMathLaw" 76 yL_least,
  .static yL_least,
  .codeWith yL_least method_9_code 4 (some .int) [(0, 9, 12, 13)],
  .methodLink "ShadowMathLaw" 35 yX0_least,
  .instanceMethod yX0_least,
  .selects "ShadowMath" yX0_least yX0_least,
  .code yX0_least prog_1_method_8_code 2 (some .int),
  .methodLink "ShadowMathLaw" 79 yL_greatest,
  .static yL_greatest,
  .codeWith yL_greatest method_10_code 4 (some .int) [(0, 9, 12, 13)],
  .methodLink "ShadowMathLaw" 38 yX0_greatest,
  .instanceMethod yX0_greatest,
  .selects "ShadowMath" yX0_greatest yX0_greatest,
  .code yX0_greatest prog_1_method_9_code 2 (some .int),
  .methodLink "ShadowMathLaw" 82 yL_octet,
  .static yL_octet,
  .codeWith yL_octet method_11_code 4 (some .int) [(0, 9, 12, 13)],
  .methodLink "ShadowMathLaw" 41 yX0_octet,
  .instanceMethod yX0_octet,
  .selects "ShadowMath" yX0_octet yX0_octet,
  .code yX0_octet prog_1_method_10_code 2 (some .int),
  .classLink "ShadowMathLaw" 45 "ShadowMathModel",
  .instantiable "ShadowMathModel" 7,
  .methodLink "ShadowMathLaw" 47 yX1_init,
  .instanceMethod yX1_init,
  .code yX1_init prog_3_method_1_code 1 none,
  .methodLink "ShadowMathModel" 1 ⟨"java/lang/Object", "<init>", "()V"⟩,
  .fieldLink "ShadowMathModel" 28 "ShadowMathModel" "err" "I",
  .fieldLink "ShadowMathModel" 7 "ShadowMathModel" "bit" "[Z",
  .fieldLink "ShadowMathModel" 13 "ShadowMathModel" "lost" "[Z",
  .fieldLink "ShadowMathModel" 16 "ShadowMathModel" "octetBit" "[Z",
  .fieldLink "ShadowMathModel" 19 "ShadowMathModel" "octetLost" "[Z",
  .fieldLink "ShadowMathModel" 22 "ShadowMathModel" "out" "[Z",
  .fieldLink "ShadowMathModel" 25 "ShadowMathModel" "gone" "[Z",
  .lays "ShadowMathModel" "ShadowMathModel" "err" "I",
  .soleField "ShadowMathModel" "err",
  .laysFinal "ShadowMathModel" "ShadowMathModel" "bit" "[Z",
  .soleField "ShadowMathModel" "bit",
  .laysFinal "ShadowMathModel" "ShadowMathModel" "lost" "[Z",
  .soleField "ShadowMathModel" "lost",
  .laysFinal "ShadowMathModel" "ShadowMathModel" "octetBit" "[Z",
  .soleField "ShadowMathModel" "octetBit",
  .laysFinal "ShadowMathModel" "ShadowMathModel" "octetLost" "[Z",
  .soleField "ShadowMathModel" "octetLost",
  .laysFinal "ShadowMathModel" "ShadowMathModel" "out" "[Z",
  .soleField "ShadowMathModel" "out",
  .laysFinal "ShadowMathModel" "ShadowMathModel" "gone" "[Z",
  .soleField "ShadowMathModel" "gone",
  .superclass "ShadowMathModel" "java/lang/Object",
  .arrayClass .boolean,
  .methodLink "ShadowMathLaw" 54 yX1_thrown,
  .instanceMethod yX1_thrown,
  .selects "ShadowMathModel" yX1_thrown yX1_thrown,
  .code yX1_thrown prog_3_method_2_code 1 (some .int),
  .methodLink "ShadowMathLaw" 53 yX1_set,
  .instanceMethod yX1_set,
  .selects "ShadowMathModel" yX1_set yX1_set,
  .code yX1_set prog_3_method_8_code 5 none,
  .methodLink "ShadowMathModel" 32 yX1_none,
  .static yX1_none,
  .code yX1_none prog_3_method_4_code 1 (some .boolean),
  .methodLink "ShadowMathModel" 36 yX1_fails,
  .instanceMethod yX1_fails,
  .code yX1_fails prog_3_method_3_code 3 (some .boolean),
  .methodLink "ShadowMathModel" 40 yX1_make,
  .instanceMethod yX1_make,
  .code yX1_make prog_3_method_7_code 3 none,
  .methodLink "ShadowMathModel" 44 yX1_give,
  .instanceMethod yX1_give,
  .code yX1_give prog_3_method_6_code 3 none,
  .methodLink "ShadowMathLaw" 61 yX1_op,
  .instanceMethod yX1_op,
  .selects "ShadowMathModel" yX1_op yX1_op,
  .code yX1_op prog_3_method_14_code 11 none,
  .methodLink "ShadowMathModel" 54 yX1_number,
  .instanceMethod yX1_number,
  .code yX1_number prog_3_method_5_code 4 (some .int),
  .methodLink "ShadowMathModel" 58 yX1_lowest,
  .instanceMethod yX1_lowest,
  .code yX1_lowest prog_3_method_11_code 3 (some .int),
  .methodLink "ShadowMathModel" 47 yX1_un,
  .instanceMethod yX1_un,
  .code yX1_un prog_3_method_10_code 3 (some .boolean),
  .methodLink "ShadowMathModel" 61 yX1_from,
  .instanceMethod yX1_from,
  .code yX1_from prog_3_method_13_code 3 none,
  .methodLink "ShadowMathModel" 51 yX1_is,
  .instanceMethod yX1_is,
  .code yX1_is prog_3_method_9_code 3 (some .boolean),
  .methodLink "ShadowMathModel" 64 yX1_shift,
  .instanceMethod yX1_shift,
  .code yX1_shift prog_3_method_15_code 8 none,
  .methodLink "ShadowMathModel" 68 yX1_noughts,
  .instanceMethod yX1_noughts,
  .code yX1_noughts prog_3_method_12_code 3 (some .int),
  .methodLink "ShadowMathModel" 71 yX1_end,
  .instanceMethod yX1_end,
  .code yX1_end prog_3_method_16_code 9 (some .long),
  .constantLong "ShadowMathModel" 75 4294967295,
  .methodLink "ShadowMathModel" 77 yX1_choose,
  .instanceMethod yX1_choose,
  .code yX1_choose prog_3_method_17_code 6 none,
  .methodLink "ShadowMathLaw" 64 yX1_store,
  .instanceMethod yX1_store,
  .selects "ShadowMathModel" yX1_store yX1_store,
  .code yX1_store prog_3_method_19_code 5 none,
  .methodLink "ShadowMathModel" 81 yX1_wrong,
  .static yX1_wrong,
  .code yX1_wrong prog_3_method_18_code 1 (some .boolean),
  .methodLink "ShadowMathLaw" 68 yX1_load,
  .instanceMethod yX1_load,
  .selects "ShadowMathModel" yX1_load yX1_load,
  .code yX1_load prog_3_method_20_code 8 none,
  .methodLink "ShadowMathLaw" 72 yX1_value,
  .instanceMethod yX1_value,
  .selects "ShadowMathModel" yX1_value yX1_value,
  .code yX1_value prog_3_method_21_code 2 (some .int),
  .methodLink "ShadowMathLaw" 75 yX1_not,
  .instanceMethod yX1_not,
  .selects "ShadowMathModel" yX1_not yX1_not,
  .code yX1_not prog_3_method_22_code 4 (some .int),
  .methodLink "ShadowMathLaw" 78 yX1_least,
  .instanceMethod yX1_least,
  .selects "ShadowMathModel" yX1_least yX1_least,
  .code yX1_least prog_3_method_23_code 2 (some .int),
  .methodLink "ShadowMathLaw" 81 yX1_greatest,
  .instanceMethod yX1_greatest,
  .selects "ShadowMathModel" yX1_greatest yX1_greatest,
  .code yX1_greatest prog_3_method_24_code 2 (some .int),
  .methodLink "ShadowMathLaw" 84 yX1_octet,
  .instanceMethod yX1_octet,
  .selects "ShadowMathModel" yX1_octet yX1_octet,
  .code yX1_octet prog_3_method_25_code 4 (some .int),
  .methodLink "ShadowMathLaw" 88 yX1_count,
  .instanceMethod yX1_count,
  .selects "ShadowMathModel" yX1_count yX1_count,
  .code yX1_count prog_3_method_26_code 3 (some .int),
  .arrayClass .long,
  .sameMethod "java/lang/Throwable" "java/lang/Throwable" "fillInStackTrace" "(I)Ljava/lang/Throwable;",
  .selects "ShadowMath" yX0_valueOf yX0_valueOf,
  .selects "ShadowMath" yX0_chosen yX0_chosen,
  .selects "ShadowMath" yX0_shadowOf yX0_shadowOf,
  .selects "ShadowMath" yX0_choiceShadow yX0_choiceShadow,
  .selects "ShadowMathModel" yX1_fails yX1_fails,
  .selects "ShadowMathModel" yX1_make yX1_make,
  .selects "ShadowMathModel" yX1_give yX1_give,
  .selects "ShadowMathModel" yX1_number yX1_number,
  .selects "ShadowMathModel" yX1_lowest yX1_lowest,
  .selects "ShadowMathModel" yX1_un yX1_un,
  .selects "ShadowMathModel" yX1_from yX1_from,
  .selects "ShadowMathModel" yX1_is yX1_is,
  .selects "ShadowMathModel" yX1_shift yX1_shift,
  .selects "ShadowMathModel" yX1_noughts yX1_noughts,
  .selects "ShadowMathModel" yX1_end yX1_end,
  .selects "ShadowMathModel" yX1_choose yX1_choose]
set_option maxRecDepth 20000 in
theorem smW_good : smW.all goodWord = true := by decide +kernel
set_option maxRecDepth 100000 in
theorem smW_eq : smW = ([17, 18, 19, 20, 21, 22, 23, 24, 25, 26, 27, 28, 29, 30, 31, 32, 33, 34, 35, 36, 37, 38, 39, 40, 41, 42, 43, 44, 45, 46, 47, 48, 49, 50, 51, 52, 53, 54, 55, 56, 57, 58, 59, 60, 61, 62, 63, 64, 65, 66, 67, 68, 76, 77, 78, 79, 80, 81, 82, 83, 84, 85, 86, 87, 88, 89, 90, 91, 92, 93, 95, 97, 98, 99, 100, 101, 102, 104, 105, 106, 107, 108, 109, 110, 111, 112, 113, 114, 115, 116, 118, 119, 120, 121, 122, 123, 124, 125, 126, 127, 128, 129, 130, 131, 132, 133, 134, 135, 136, 137, 138, 140, 141, 142, 143, 144, 145, 146, 147, 148, 149, 150, 151, 152, 154, 155, 156, 157, 158, 159, 160, 161, 162, 163, 164, 165, 166, 168, 169, 170, 172, 173, 174, 175, 176, 177, 178, 179, 180, 181, 182, 183, 184, 185, 186, 187, 188, 189, 190, 191, 192, 193, 194, 195, 196, 197, 198, 199, 200, 202, 203, 204, 205, 206, 207, 208, 209, 210, 211, 212, 213, 214, 215, 216, 217, 218, 219, 220, 221, 222, 223, 224, 225, 226, 227, 228, 229, 230, 231, 232, 233, 234, 235, 236, 237, 238, 239, 240, 241, 242, 243, 244, 245, 246, 247, 248, 249, 250, 251, 252, 253, 254, 255, 256, 257, 258, 259, 260, 261, 262, 263, 264, 265, 266, 267, 268, 269, 270, 271, 272, 273, 274, 275, 276, 277, 278, 279, 280, 281, 282, 283, 284, 285, 286, 287, 288, 289, 290, 291, 292, 293, 294, 295, 296, 297, 298, 299, 301, 302, 303, 305, 306, 307, 309, 310, 311, 312, 313, 314, 315, 317, 318, 319, 321, 322, 323, 325, 326, 327, 329, 330, 331, 333, 334, 335, 337, 338, 339, 341, 342, 343, 345, 346, 347, 348, 350, 351, 352, 353, 354, 355, 356, 357, 358, 359, 360, 361, 362, 363, 364, 365, 366, 367, 368, 369, 370, 371, 372, 373, 374, 375, 376, 377, 378, 379, 380, 381, 382, 383, 384, 385, 386, 387, 388, 1, 2, 3, 4, 5, 6, 7, 8, 9, 10, 11, 12, 13, 14, 15, 16] : List Nat).filterMap (fun i => lw_tbl[i]?) := by rfl
theorem smW_in : ∀ w ∈ smW, w ∈ lw_tbl := fun w h => by
  rw [smW_eq] at h
  obtain ⟨i, -, hi⟩ := List.mem_filterMap.mp h
  exact List.mem_of_getElem? hi
abbrev wsX0_init : List Cond := .code yX0_init prog_1_method_1_code 1 none :: smW
abbrev wsX0_count : List Cond := .code yX0_count prog_1_method_11_code 3 (some .int) :: smW
abbrev wsJ6_bitCount : List Cond := .code yJ6_bitCount prog_7_method_49_code 1 (some .int) :: smW
abbrev wsL_set : List Cond := .codeWith yL_set method_3_code 5 (some .int) [(0, 7, 10, 13)] :: smW
abbrev wsX0_set : List Cond := .code yX0_set prog_1_method_2_code 4 none :: smW
abbrev wsX0_checkRegister : List Cond := .code yX0_checkRegister prog_1_method_12_code 1 none :: smW
abbrev wsL_op : List Cond := .codeWith yL_op method_4_code 6 (some .int) [(0, 9, 12, 19), (0, 9, 16, 13)] :: smW
abbrev wsX0_op : List Cond := .code yX0_op prog_1_method_3_code 7 none :: smW
abbrev wsX0_valueOf : List Cond := .code yX0_valueOf prog_1_method_14_code 7 (some .int) :: smW
abbrev wsX0_shifted : List Cond := .code yX0_shifted prog_1_method_18_code 3 (some .int) :: smW
abbrev wsX0_bit : List Cond := .code yX0_bit prog_1_method_27_code 1 (some .int) :: smW
abbrev wsX0_signTurned : List Cond := .code yX0_signTurned prog_1_method_22_code 1 (some .int) :: smW
abbrev wsX0_chosen : List Cond := .code yX0_chosen prog_1_method_16_code 2 (some .boolean) :: smW
abbrev wsX0_shadowOf : List Cond := .code yX0_shadowOf prog_1_method_15_code 9 (some .int) :: smW
abbrev wsJ6_numberOfTrailingZeros : List Cond := .code yJ6_numberOfTrailingZeros prog_7_method_48_code 2 (some .int) :: smW
abbrev wsX0_fromPlaceOn : List Cond := .code yX0_fromPlaceOn prog_1_method_20_code 1 (some .int) :: smW
abbrev wsX0_placeLostBy : List Cond := .code yX0_placeLostBy prog_1_method_21_code 3 (some .int) :: smW
abbrev wsX0_orderHangs : List Cond := .code yX0_orderHangs prog_1_method_23_code 6 (some .boolean) :: smW
abbrev wsX0_lowEnd : List Cond := .code yX0_lowEnd prog_1_method_25_code 2 (some .int) :: smW
abbrev wsX0_highEnd : List Cond := .code yX0_highEnd prog_1_method_26_code 2 (some .int) :: smW
abbrev wsX0_samenessHangs : List Cond := .code yX0_samenessHangs prog_1_method_24_code 3 (some .boolean) :: smW
abbrev wsX0_choiceShadow : List Cond := .code yX0_choiceShadow prog_1_method_17_code 4 (some .int) :: smW
abbrev wsL_store : List Cond := .codeWith yL_store method_5_code 5 (some .int) [(0, 7, 10, 19), (0, 7, 14, 13)] :: smW
abbrev wsX0_store : List Cond := .code yX0_store prog_1_method_4_code 8 none :: smW
abbrev wsX0_checkTransfer : List Cond := .code yX0_checkTransfer prog_1_method_13_code 3 none :: smW
abbrev wsL_load : List Cond := .codeWith yL_load method_6_code 6 (some .int) [(0, 9, 12, 19), (0, 9, 16, 13)] :: smW
abbrev wsX0_load : List Cond := .code yX0_load prog_1_method_5_code 9 none :: smW
abbrev wsX0_widened : List Cond := .code yX0_widened prog_1_method_19_code 4 (some .int) :: smW
abbrev wsL_value : List Cond := .codeWith yL_value method_7_code 4 (some .int) [(0, 9, 12, 13)] :: smW
abbrev wsX0_value : List Cond := .code yX0_value prog_1_method_6_code 2 (some .int) :: smW
abbrev wsL_not : List Cond := .codeWith yL_not method_8_code 4 (some .int) [(0, 9, 12, 13)] :: smW
abbrev wsX0_not : List Cond := .code yX0_not prog_1_method_7_code 2 (some .int) :: smW
abbrev wsL_least : List Cond := .codeWith yL_least method_9_code 4 (some .int) [(0, 9, 12, 13)] :: smW
abbrev wsX0_least : List Cond := .code yX0_least prog_1_method_8_code 2 (some .int) :: smW
abbrev wsL_greatest : List Cond := .codeWith yL_greatest method_10_code 4 (some .int) [(0, 9, 12, 13)] :: smW
abbrev wsX0_greatest : List Cond := .code yX0_greatest prog_1_method_9_code 2 (some .int) :: smW
abbrev wsL_octet : List Cond := .codeWith yL_octet method_11_code 4 (some .int) [(0, 9, 12, 13)] :: smW
abbrev wsX0_octet : List Cond := .code yX0_octet prog_1_method_10_code 2 (some .int) :: smW
abbrev wsX1_init : List Cond := .code yX1_init prog_3_method_1_code 1 none :: smW
abbrev wsX1_thrown : List Cond := .code yX1_thrown prog_3_method_2_code 1 (some .int) :: smW
abbrev wsX1_set : List Cond := .code yX1_set prog_3_method_8_code 5 none :: smW
abbrev wsX1_none : List Cond := .code yX1_none prog_3_method_4_code 1 (some .boolean) :: smW
abbrev wsX1_fails : List Cond := .code yX1_fails prog_3_method_3_code 3 (some .boolean) :: smW
abbrev wsX1_make : List Cond := .code yX1_make prog_3_method_7_code 3 none :: smW
abbrev wsX1_give : List Cond := .code yX1_give prog_3_method_6_code 3 none :: smW
abbrev wsX1_op : List Cond := .code yX1_op prog_3_method_14_code 11 none :: smW
abbrev wsX1_number : List Cond := .code yX1_number prog_3_method_5_code 4 (some .int) :: smW
abbrev wsX1_lowest : List Cond := .code yX1_lowest prog_3_method_11_code 3 (some .int) :: smW
abbrev wsX1_un : List Cond := .code yX1_un prog_3_method_10_code 3 (some .boolean) :: smW
abbrev wsX1_from : List Cond := .code yX1_from prog_3_method_13_code 3 none :: smW
abbrev wsX1_is : List Cond := .code yX1_is prog_3_method_9_code 3 (some .boolean) :: smW
abbrev wsX1_shift : List Cond := .code yX1_shift prog_3_method_15_code 8 none :: smW
abbrev wsX1_noughts : List Cond := .code yX1_noughts prog_3_method_12_code 3 (some .int) :: smW
abbrev wsX1_end : List Cond := .code yX1_end prog_3_method_16_code 9 (some .long) :: smW
abbrev wsX1_choose : List Cond := .code yX1_choose prog_3_method_17_code 6 none :: smW
abbrev wsX1_store : List Cond := .code yX1_store prog_3_method_19_code 5 none :: smW
abbrev wsX1_wrong : List Cond := .code yX1_wrong prog_3_method_18_code 1 (some .boolean) :: smW
abbrev wsX1_load : List Cond := .code yX1_load prog_3_method_20_code 8 none :: smW
abbrev wsX1_value : List Cond := .code yX1_value prog_3_method_21_code 2 (some .int) :: smW
abbrev wsX1_not : List Cond := .code yX1_not prog_3_method_22_code 4 (some .int) :: smW
abbrev wsX1_least : List Cond := .code yX1_least prog_3_method_23_code 2 (some .int) :: smW
abbrev wsX1_greatest : List Cond := .code yX1_greatest prog_3_method_24_code 2 (some .int) :: smW
abbrev wsX1_octet : List Cond := .code yX1_octet prog_3_method_25_code 4 (some .int) :: smW
abbrev wsX1_count : List Cond := .code yX1_count prog_3_method_26_code 3 (some .int) :: smW
theorem sm_hw {c0 : Cond} {args : Array Value} {s : State} (h : ∀ w ∈ c0 :: smW, w.before args s = true) (k : Nat) {w : Cond} (hk : smW[k]? = some w) : w.before args s = true := h w (List.mem_cons_of_mem _ (List.mem_of_getElem? hk))
theorem sm_gd {c0 : Cond} {w : Cond} (h : w ∈ smW) : w ∈ c0 :: smW ∧ ((w.onTables && w.keeps) = true ∨ ∃ ty, w = .arrayClass ty) := ⟨List.mem_cons_of_mem _ h, good_of_word (List.all_eq_true.mp smW_good w h)⟩
theorem sm_gV {c0 w' : Cond} {own C : String} {idx i1 i2 i3 i4 i5 : Nat} {y : MethodName} (h1 : smW[i1]? = some (.methodLink own idx y)) (h2 : smW[i2]? = some (.instanceMethod y)) (h3 : smW[i3]? = some (.selects C y y)) (h4 : smW[i4]? = some (.initialized C)) (h5 : smW[i5]? = some w') : GoodIn (c0 :: smW) (wsV own idx C y (w' :: smW)) := by
  intro w hw
  simp only [wsV, List.mem_append, List.mem_cons, List.not_mem_nil, or_false] at hw
  rcases hw with (rfl | rfl | rfl | rfl) | rfl | hw
  · exact sm_gd (List.mem_of_getElem? h1)
  · exact sm_gd (List.mem_of_getElem? h2)
  · exact sm_gd (List.mem_of_getElem? h3)
  · exact sm_gd (List.mem_of_getElem? h4)
  · exact sm_gd (List.mem_of_getElem? h5)
  · exact sm_gd hw
theorem sm_gS {c0 w' : Cond} {own : String} {idx i1 i2 i4 i5 : Nat} {y : MethodName} (h1 : smW[i1]? = some (.methodLink own idx y)) (h2 : smW[i2]? = some (.static y)) (h4 : smW[i4]? = some (.initialized y.cls)) (h5 : smW[i5]? = some w') : GoodIn (c0 :: smW) (va_wsS own idx y (w' :: smW)) := by
  intro w hw
  simp only [va_wsS, List.mem_append, List.mem_cons, List.not_mem_nil, or_false] at hw
  rcases hw with (rfl | rfl | rfl) | rfl | hw
  · exact sm_gd (List.mem_of_getElem? h1)
  · exact sm_gd (List.mem_of_getElem? h2)
  · exact sm_gd (List.mem_of_getElem? h4)
  · exact sm_gd (List.mem_of_getElem? h5)
  · exact sm_gd hw
theorem sm_gI {c0 w' : Cond} {i5 : Nat} (h5 : smW[i5]? = some w') : GoodIn (c0 :: smW) (w' :: smW) := by
  intro w hw
  rcases List.mem_cons.mp hw with rfl | hw
  · exact sm_gd (List.mem_of_getElem? h5)
  · exact sm_gd hw
theorem inX0 {c0 : Cond} : ∀ w ∈ u_ws RX0 TX0 3, w ∈ c0 :: smW := fun w h => List.mem_cons_of_mem _ ((by decide +kernel : ∀ w ∈ u_ws RX0 TX0 3, w ∈ smW) w h)
theorem inX1 {c0 : Cond} : ∀ w ∈ u_ws RX1 TX1 7, w ∈ c0 :: smW := fun w h => List.mem_cons_of_mem _ ((by decide +kernel : ∀ w ∈ u_ws RX1 TX1 7, w ∈ smW) w h)
end
section
/-! deterministic contracts: a method, from the cells w0 and the arguments av, answers rv and leaves the cells w1; nothing else of the old heap changes -/
def sm_P (D : va_G) (cl : List vw_C) (tys : List (ClassId × FieldType)) (w0 : va_W) (sz : Nat) (U : State) : Prop := U.heap.size = sz ∧ va_P D cl w0 U.heap ∧ va_K D cl tys U ∧ va_D (fun _ => True) w0
def sm_Q (D : va_G) (cl : List vw_C) (w0 w1 : va_W) (sz : Nat) (rv : Option Value) : Array Value → State → Outcome → State → Prop := fun _ st oc t => (oc = .returned rv ∧ va_P D cl w1 t.heap ∧ va_D (va_A w0 sz) w1) ∧ va_F (va_A w0 sz) st t
def sm_C (l : Launch) (y : MethodName) (ws : List Cond) (rm : Room) (D : va_G) (cl : List vw_C) (tys : List (ClassId × FieldType)) (av : List Value) (w0 : va_W) (rv : Option Value) (w1 : va_W) : Prop :=
  ∀ sz : Nat, Met l y ws rm (va_Pc av (sm_P D cl tys w0 sz)) (sm_Q D cl w0 w1 sz rv) rm.cells rm.slots (va_A w0 sz)
theorem sm_blind {D : va_G} {cl : List vw_C} {tys : List (ClassId × FieldType)} {w0 : va_W} {sz : Nat} {av : List Value} : FrameBlind (va_Pc av (sm_P D cl tys w0 sz)) :=
  fun a U g mk q => ⟨q.1, q.2.1, q.2.2.1, va_K.moved (u := U) (U := U.calling g mk a) (Vm.Alike.refl U.vm) q.2.2.2.1, q.2.2.2.2⟩
theorem sm_fm {α β : Type} {f : α → Option β} : ∀ {is : List α} {w : List β}, is.map f = w.map some → is.filterMap f = w
  | [], [], _ => rfl
  | [], _ :: _, h => by simp at h
  | _ :: _, [], h => by simp at h
  | a :: is, b :: w, h => by
    simp only [List.map_cons, List.cons.injEq] at h
    rw [List.filterMap_cons, h.1]
    simp only [sm_fm h.2]
section SMC
variable {p : Program} {l : Launch} {e : Env} {R : Room} {s : State} {m : MethodId} {args : Array Value} {below : List Frame} {meth : Method} {c : Code} {H : Heap} {locs : List Loc} {cells slots : Nat} {Q : State → Prop}
variable {pc : Nat} {ls : Array Slot} {rest st0 : List Value} {a : Array Value} {A0 : Nat → Prop} {H0 : Heap} {mc ms : Nat} {D : va_G} {cl : List vw_C} {tys tysc : List (ClassId × FieldType)} {ws wc wr w1 wn : va_W} {rv : Option Value} {st1 : List Value}
/-- behind a call: the rest of the caller's cells, then the callee's -/
theorem sm_after (hr : va_Run p l e R s m args below meth c H locs cells slots mc ms (F0 m pc ls st0) rest (sm_Q D cl wc w1 H.size rv a) (va_A wc H.size))
    (hP : va_P D cl ws H) (hD : va_D A0 ws) (hS : va_S A0 H0 H locs) (hA : ∀ q, H0.size ≤ q → A0 q) (isC isR : List Nat) (hC : isC.map (fun i => ws[i]?) = wc.map some) (hR : isR.map (fun i => ws[i]?) = wr.map some) (hn : va_nd isR = true) (hdis : ∀ i ∈ isR, i ∉ isC)
    (hwn : wr ++ w1 = wn) (hs1 : rv.toList ++ rest = st1) (kk : ∀ (H1 : Heap) (locs1 : List Loc), va_P D cl wn H1 → va_D A0 wn → va_S A0 H0 H1 locs1 → W p l e R s m args below meth c H1 locs1 (cells + mc) (slots + ms) Q (F0 m (pc + 3) ls st1)) : W p l e R s m args below meth c H locs cells slots Q (F0 m pc ls st0) := by
  have hF := va_free (wc := wc) hD hS hA isC hC
  subst hwn; subst hs1
  intro T hT X
  obtain ⟨v, st₀, t, T', L, h0, X', hL, e1, e2, ⟨⟨hv, hp1, hd1⟩, hz, hk⟩, st⟩ := hr T hT X
  cases hv
  rw [h0] at hz hk
  have hk' : ∀ q : Nat, q < H.size → ¬ va_A wc H.size q → T'.heap[q]? = H[q]? := fun q h1 h2 => by rw [e1]; exact hk q h1 h2
  obtain ⟨jP, jD⟩ := va_join (w1 := w1) hP hD isC isR hC hR hn hdis hk' hF (by rw [e1]; exact hp1) hd1
  obtain ⟨t2, a1, b1⟩ := kk T'.heap (locs ++ L) jP jD
    ⟨Nat.le_trans hS.1 (by rw [e1]; exact hz), fun q h1 h2 => by rw [e1, hk q (Nat.lt_of_lt_of_le h1 hS.1) (fun z => h2 (hF q z))]; exact hS.2.1 q h1 h2, fun q hq => by
      rcases List.mem_append.mp hq with h | h
      · exact hS.2.2 q h
      · exact hF _ (hL q h)⟩ T' rfl X'
  exact ⟨t2, st t2 a1, b1⟩
variable {y : MethodName} {bytes cc : ByteArray} {maxL nL n index : Nat} {ret : Option FieldType} {wz : List Cond} {rm : Room} {Ts : List Cond} {own C : String} {b : Nat} {As : List Value}
theorem sm_pre {av : List Value} (hK : va_K D cl tys s) (hP : va_P D cl wc H) (hD : va_D A0 wc) : ∀ U : State, U.heap = H → s.WarmedH U.vm → va_Pc av (sm_P D cl tys wc H.size) av.toArray U :=
  fun U hU hW => ⟨rfl, by rw [hU], by rw [hU]; exact hP, va_K.moved hW.alike hK, hD.weaken (fun _ _ _ _ => trivial)⟩
/-- a static method -/
theorem sm_callS (S : CallFix p m c cc nL s args Ts own) (hC : sm_C l y wz rm D cl tysc As wc rv w1) (cw : CallB R s args own index y bytes maxL ret wz rm rm.cells rm.slots n ∧ (Cond.static y).before args s = true)
    (hK : va_K D cl tys s) (tis : List Nat) (hti : tis.filterMap (fun i => tys[i]?) = tysc) (hP : va_P D cl ws H) (hD : va_D A0 ws) (hS : va_S A0 H0 H locs) (hA : ∀ q, H0.size ≤ q → A0 q)
    (isC isR : List Nat) (hCm : isC.map (fun i => ws[i]?) = wc.map some) (hRm : isR.map (fun i => ws[i]?) = wr.map some) (hnC : va_nd isC = true) (hnR : va_nd isR = true) (hdis : ∀ i ∈ isR, i ∉ isC)
    (hn : As.length = n) (hsize : ls.size = nL) (hst : st0 = As.reverse ++ rest) (hW : (rest.map fun v => v.category).sum ≤ 8) (hdg : decode cc pc = .ok (.invokestatic index, 3)) (hf : cells + rm.cells ≤ R.cells ∧ slots + rm.slots ≤ R.slots)
    (hwn : wr ++ w1 = wn) (hs1 : rv.toList ++ rest = st1) (kk : ∀ (H1 : Heap) (locs1 : List Loc), va_P D cl wn H1 → va_D A0 wn → va_S A0 H0 H1 locs1 → W p l e R s m args below meth c H1 locs1 (cells + rm.cells) (slots + rm.slots) Q (F0 m (pc + 3) ls st1)) : W p l e R s m args below meth c H locs cells slots Q (F0 m pc ls st0) :=
  sm_after (va_runS (g := F0 m pc ls st0) S (hC H.size) cw ⟨sm_blind, sm_pre (hK.sub tis hti) (hP.sub isC (sm_fm hCm)) (hD.sub isC hnC hCm)⟩ rfl hn hsize hst (lv_room hW) hdg hf) hP hD hS hA isC isR hCm hRm hnR hdis hwn hs1 kk
/-- an instance method, of a receiver whose class is known -/
theorem sm_callV (S : CallFix p m c cc nL s args Ts own) (hC : sm_C l y wz rm D cl tysc (.ref b :: As) wc rv w1) (cw : CallW R s args own C index y bytes maxL ret wz rm rm.cells rm.slots n)
    (hK : va_K D cl tys s) (tis : List Nat) (hti : tis.filterMap (fun i => tys[i]?) = tysc) (hP : va_P D cl ws H) (hD : va_D A0 ws) (hS : va_S A0 H0 H locs) (hA : ∀ q, H0.size ≤ q → A0 q)
    (q0 : Nat) {ci : Nat} {fs : List Value} {T : u_T} {N : Nat} (he : ws[q0]? = some (b, .inr (ci, fs))) (hc : cl[ci]? = some (C, T, N))
    (isC isR : List Nat) (hCm : isC.map (fun i => ws[i]?) = wc.map some) (hRm : isR.map (fun i => ws[i]?) = wr.map some) (hnC : va_nd isC = true) (hnR : va_nd isR = true) (hdis : ∀ i ∈ isR, i ∉ isC)
    (hn : As.length = n) (hsize : ls.size = nL) (hst : st0 = As.reverse ++ .ref b :: rest) (hW : (rest.map fun v => v.category).sum ≤ 8) (hdg : decode cc pc = .ok (.invokevirtual index, 3)) (hf : cells + rm.cells ≤ R.cells ∧ slots + rm.slots ≤ R.slots)
    (hwn : wr ++ w1 = wn) (hs1 : rv.toList ++ rest = st1) (kk : ∀ (H1 : Heap) (locs1 : List Loc), va_P D cl wn H1 → va_D A0 wn → va_S A0 H0 H1 locs1 → W p l e R s m args below meth c H1 locs1 (cells + rm.cells) (slots + rm.slots) Q (F0 m (pc + 3) ls st1)) : W p l e R s m args below meth c H locs cells slots Q (F0 m pc ls st0) :=
  sm_after (va_runV (g := F0 m pc ls st0) S (hC H.size) cw ⟨sm_blind, va_recv hK hP hc he, sm_pre (hK.sub tis hti) (hP.sub isC (sm_fm hCm)) (hD.sub isC hnC hCm)⟩ rfl hn hsize hst (lv_room hW) hdg hf) hP hD hS hA isC isR hCm hRm hnR hdis hwn hs1 kk
/-- a constructor -/
theorem sm_callI (S : CallFix p m c cc nL s args Ts own) (hC : sm_C l y wz rm D cl tysc (.ref b :: As) wc rv w1) (cw : CallB R s args own index y bytes maxL none wz rm rm.cells rm.slots n ∧ y.name = "<init>" ∧ (Cond.instanceMethod y).before args s = true)
    (hK : va_K D cl tys s) (tis : List Nat) (hti : tis.filterMap (fun i => tys[i]?) = tysc) (hP : va_P D cl ws H) (hD : va_D A0 ws) (hS : va_S A0 H0 H locs) (hA : ∀ q, H0.size ≤ q → A0 q)
    (isC isR : List Nat) (hCm : isC.map (fun i => ws[i]?) = wc.map some) (hRm : isR.map (fun i => ws[i]?) = wr.map some) (hnC : va_nd isC = true) (hnR : va_nd isR = true) (hdis : ∀ i ∈ isR, i ∉ isC)
    (hn : As.length = n) (hsize : ls.size = nL) (hst : st0 = As.reverse ++ .ref b :: rest) (hW : (rest.map fun v => v.category).sum ≤ 8) (hdg : decode cc pc = .ok (.invokespecial index, 3)) (hf : cells + rm.cells ≤ R.cells ∧ slots + rm.slots ≤ R.slots)
    (hwn : wr ++ w1 = wn) (hs1 : rv.toList ++ rest = st1) (kk : ∀ (H1 : Heap) (locs1 : List Loc), va_P D cl wn H1 → va_D A0 wn → va_S A0 H0 H1 locs1 → W p l e R s m args below meth c H1 locs1 (cells + rm.cells) (slots + rm.slots) Q (F0 m (pc + 3) ls st1)) : W p l e R s m args below meth c H locs cells slots Q (F0 m pc ls st0) :=
  sm_after (va_runI (g := F0 m pc ls st0) S (hC H.size) cw ⟨sm_blind, sm_pre (hK.sub tis hti) (hP.sub isC (sm_fm hCm)) (hD.sub isC hnC hCm)⟩ rfl hn hsize hst (lv_room hW) hdg hf) hP hD hS hA isC isR hCm hRm hnR hdis hwn hs1 kk
/-- answers -/
theorem sm_iret {v : Int32} (hx : p.tables.exec = Jvm.exec) (hb : c.code = cc) (hr : meth.sig.returnType = some .int) (hlocks : meth.locks = false) (hS : va_S (va_A wc s.heap.size) s.heap H locs) (hP : va_P D cl w1 H) (hD : va_D (va_A wc s.heap.size) w1)
    (hdg : decode cc pc = .ok (.ireturn, 1)) : W p l e R s m args below meth c H locs cells slots (MQ below (sm_Q D cl wc w1 s.heap.size (some (.int v))) args s cells slots (va_A wc s.heap.size)) (F0 m pc ls [.int v]) :=
  W.iret (v := v) hx hb hr (fun t ht hW => ⟨⟨rfl, by rw [ht]; exact hP, hD⟩, hS.F ht⟩) hS.2.2 hdg hlocks
end SMC
theorem sm_loop {P : Nat → Prop} (n : Nat) (hx : P n) (hs : ∀ k, k < n → P (k + 1) → P k) : ∀ k, k ≤ n → P k := by
  intro k hk
  obtain ⟨d, hd⟩ : ∃ d, d = n - k := ⟨_, rfl⟩
  induction d generalizing k with
  | zero => rw [show k = n by omega]; exact hx
  | succ d ih => exact hs k (by omega) (ih (k + 1) (by omega) (by omega))

def sm_ushr (x y : Int32) : Int32 := (x.toUInt32 >>> (y.toUInt32 &&& Int32.toUInt32 31)).toInt32
def sm_lshl (x : Int64) (y : Int32) : Int64 := x <<< (y.toInt64 &&& 63)
def sm_lshr (x : Int64) (y : Int32) : Int64 := x >>> (y.toInt64 &&& 63)
def sm_lushr (x : Int64) (y : Int32) : Int64 := (x.toUInt64 >>> (y.toInt64.toUInt64 &&& Int64.toUInt64 63)).toInt64
def sm_bI (b : Bool) : Int32 := if b then 1 else 0
theorem sm_bI0 {b : Bool} (h : sm_bI b = 0) : b = false := by cases b <;> first | rfl | exact absurd h (by decide)
theorem sm_bI1 {b : Bool} (h : ¬ sm_bI b = 0) : b = true := by cases b <;> first | rfl | exact absurd rfl h
theorem sm_bIn (b : Bool) : narrow .boolean (.int (sm_bI b)) = .int (sm_bI b) := by cases b <;> decide +kernel
theorem sm_bIv (b : Bool) : vp_nar .boolean (sm_bI b) = sm_bI b := by cases b <;> decide +kernel
theorem sm_cP {D : va_G} {cl : List vw_C} {w w' : va_W} {H : Heap} (h : w = w') (hP : va_P D cl w H) : va_P D cl w' H := h ▸ hP
theorem sm_cD {A : Nat → Prop} {w w' : va_W} (h : w = w') (hD : va_D A w) : va_D A w' := h ▸ hD
section SMR
variable {p : Program} {l : Launch} {e : Env} {R : Room} {s : State} {m : MethodId} {args : Array Value} {below : List Frame} {meth : Method} {c : Code} {H : Heap} {locs : List Loc} {cells slots : Nat} {Q : State → Prop}
variable {cc : ByteArray} {pc : Nat} {ls : Array Slot} {rest : List Value} {D : va_G} {cl : List vw_C} {A : Nat → Prop} {a : Nat} {tys : List (ClassId × FieldType)} {ws wc w1 : va_W} {H0 : Heap}
theorem sm_eqi {x y : Int32} (h : x = y) (k : W p l e R s m args below meth c H locs cells slots Q (F0 m pc ls (.int y :: rest))) : W p l e R s m args below meth c H locs cells slots Q (F0 m pc ls (.int x :: rest)) := h ▸ k
theorem sm_eql {x y : Int64} (h : x = y) (k : W p l e R s m args below meth c H locs cells slots Q (F0 m pc ls (.long y :: rest))) : W p l e R s m args below meth c H locs cells slots Q (F0 m pc ls (.long x :: rest)) := h ▸ k
/-- roads that meet: what lies there on top of the stack is t, by whatever road -/
theorem sm_join {pcJ nL : Nat} {t : Int32} {lv : List (Nat × Value)} {w : va_W} {st : List Value}
    (k : (∀ (H : Heap) (locs : List Loc) (ls : Array Slot), lv_has ls nL lv → va_P D cl w H → va_D A w → va_S A H0 H locs → W p l e R s m args below meth c H locs cells slots Q (F0 m pcJ ls (.int t :: rest))) → W p l e R s m args below meth c H locs cells slots Q (F0 m pc ls st))
    (hj : ∀ (H : Heap) (locs : List Loc) (ls : Array Slot), lv_has ls nL lv → va_P D cl w H → va_D A w → va_S A H0 H locs → W p l e R s m args below meth c H locs cells slots Q (F0 m pcJ ls (.int t :: rest))) : W p l e R s m args below meth c H locs cells slots Q (F0 m pc ls st) := k hj
/-- a loop of n rounds: locals and cells behind k of them are lv k, w k -/
theorem sm_loopW {nL : Nat} {lv : Nat → List (Nat × Value)} {w : Nat → va_W} (n : Nat)
    (hx : ∀ (H : Heap) (locs : List Loc) (ls : Array Slot), lv_has ls nL (lv n) → va_P D cl (w n) H → va_D A (w n) → va_S A H0 H locs → W p l e R s m args below meth c H locs cells slots Q (F0 m pc ls rest))
    (hs : ∀ k, k < n → (∀ (H : Heap) (locs : List Loc) (ls : Array Slot), lv_has ls nL (lv (k + 1)) → va_P D cl (w (k + 1)) H → va_D A (w (k + 1)) → va_S A H0 H locs → W p l e R s m args below meth c H locs cells slots Q (F0 m pc ls rest)) →
      ∀ (H : Heap) (locs : List Loc) (ls : Array Slot), lv_has ls nL (lv k) → va_P D cl (w k) H → va_D A (w k) → va_S A H0 H locs → W p l e R s m args below meth c H locs cells slots Q (F0 m pc ls rest))
    (hl : lv_has ls nL (lv 0)) (hP : va_P D cl (w 0) H) (hD : va_D A (w 0)) (hS : va_S A H0 H locs) : W p l e R s m args below meth c H locs cells slots Q (F0 m pc ls rest) :=
  sm_loop (P := fun k => ∀ (H : Heap) (locs : List Loc) (ls : Array Slot), lv_has ls nL (lv k) → va_P D cl (w k) H → va_D A (w k) → va_S A H0 H locs → W p l e R s m args below meth c H locs cells slots Q (F0 m pc ls rest)) n hx hs 0 (Nat.zero_le _) H locs ls hl hP hD hS
theorem sm_ifb_eq (hexec : p.tables.exec = Jvm.exec) (hb : c.code = cc) {b : Bool} {off : Int} {tgt : Nat} (hdg : decode cc pc = .ok (.ifCond .eq off, 3)) (ht : (pc : Int) + off = (tgt : Int))
    (kt : b = false → W p l e R s m args below meth c H locs cells slots Q (F0 m tgt ls rest)) (kf : b = true → W p l e R s m args below meth c H locs cells slots Q (F0 m (pc + 3) ls rest)) : W p l e R s m args below meth c H locs cells slots Q (F0 m pc ls (.int (sm_bI b) :: rest)) :=
  lv_if_eq hexec hb hdg ht (fun h => kt (sm_bI0 h)) (fun h => kf (sm_bI1 h))
theorem sm_ifb_ne (hexec : p.tables.exec = Jvm.exec) (hb : c.code = cc) {b : Bool} {off : Int} {tgt : Nat} (hdg : decode cc pc = .ok (.ifCond .ne off, 3)) (ht : (pc : Int) + off = (tgt : Int))
    (kt : b = true → W p l e R s m args below meth c H locs cells slots Q (F0 m tgt ls rest)) (kf : b = false → W p l e R s m args below meth c H locs cells slots Q (F0 m (pc + 3) ls rest)) : W p l e R s m args below meth c H locs cells slots Q (F0 m pc ls (.int (sm_bI b) :: rest)) :=
  lv_if_ne hexec hb hdg ht (fun h => kt (sm_bI1 h)) (fun h => kf (sm_bI0 h))
theorem sm_iast (hexec : p.tables.exec = Jvm.exec) (hb : c.code = cc) (hK : va_K D cl tys s) (hP : va_P D cl ws H) (hD : va_D A ws) (hS : va_S A H0 H locs) (q0 t0 : Nat) {cA : ClassId} {n : Nat} {f f' : Nat → Int32} (ha : ws[q0]? = some (a, .inl (cA, n, .inl f))) (ht : tys[t0]? = some (cA, .int)) {i : Int32} {x : Int32} (hin : vp_in i n) (hdg : decode cc pc = .ok (.iastore, 1))
    (hf : upd f i.toNatClampNeg x = f') {ws' : va_W} (hw : ws.set q0 (a, .inl (cA, n, .inl f')) = ws')
    (kk : ∀ (H1 : Heap) (locs1 : List Loc), va_P D cl ws' H1 → va_D A ws' → va_S A H0 H1 locs1 → W p l e R s m args below meth c H1 locs1 cells slots Q (F0 m (pc + 1) ls rest)) : W p l e R s m args below meth c H locs cells slots Q (F0 m pc ls (.int x :: .int i :: .ref a :: rest)) := by
  subst hf; subst hw
  exact va_iast hexec hb hK hP hD hS q0 t0 ha ht hin hdg kk
theorem sm_zast (hexec : p.tables.exec = Jvm.exec) (hb : c.code = cc) (hK : va_K D cl tys s) (hP : va_P D cl ws H) (hD : va_D A ws) (hS : va_S A H0 H locs) (q0 t0 : Nat) {cA : ClassId} {n : Nat} {f f' : Nat → Int32} (ha : ws[q0]? = some (a, .inl (cA, n, .inl f))) (ht : tys[t0]? = some (cA, .boolean)) {i : Int32} {b : Bool} (hin : vp_in i n) (hdg : decode cc pc = .ok (.bastore, 1))
    (hf : upd f i.toNatClampNeg (sm_bI b) = f') {ws' : va_W} (hw : ws.set q0 (a, .inl (cA, n, .inl f')) = ws')
    (kk : ∀ (H1 : Heap) (locs1 : List Loc), va_P D cl ws' H1 → va_D A ws' → va_S A H0 H1 locs1 → W p l e R s m args below meth c H1 locs1 cells slots Q (F0 m (pc + 1) ls rest)) : W p l e R s m args below meth c H locs cells slots Q (F0 m pc ls (.int (sm_bI b) :: .int i :: .ref a :: rest)) := by
  subst hf; subst hw
  refine va_zast hexec hb hK hP hD hS q0 t0 ha ht hin hdg ?_
  rw [sm_bIv]
  exact kk
theorem sm_last (hexec : p.tables.exec = Jvm.exec) (hb : c.code = cc) (hK : va_K D cl tys s) (hP : va_P D cl ws H) (hD : va_D A ws) (hS : va_S A H0 H locs) (q0 t0 : Nat) {cA : ClassId} {n : Nat} {f f' : Nat → Int64} (ha : ws[q0]? = some (a, .inl (cA, n, .inr (.inl f)))) (ht : tys[t0]? = some (cA, .long)) {i : Int32} {x : Int64} (hin : vp_in i n) (hdg : decode cc pc = .ok (.lastore, 1))
    (hf : vp_updL f i.toNatClampNeg x = f') {ws' : va_W} (hw : ws.set q0 (a, .inl (cA, n, .inr (.inl f'))) = ws')
    (kk : ∀ (H1 : Heap) (locs1 : List Loc), va_P D cl ws' H1 → va_D A ws' → va_S A H0 H1 locs1 → W p l e R s m args below meth c H1 locs1 cells slots Q (F0 m (pc + 1) ls rest)) : W p l e R s m args below meth c H locs cells slots Q (F0 m pc ls (.long x :: .int i :: .ref a :: rest)) := by
  subst hf; subst hw
  exact va_last hexec hb hK hP hD hS q0 t0 ha ht hin hdg kk
theorem sm_put (hexec : p.tables.exec = Jvm.exec) (hb : c.code = cc) {own ref C : String} {T : u_T} {N ci index : Nat} {Ts : List Cond} (hts : ∀ w ∈ Ts, w.before args s = true) (hin : ∀ w ∈ u_ws C T N, w ∈ Ts) (ty0 : Nat → FieldType) (hty : ∀ k, k < N → parseFieldDescriptor (T k).2.2.1 = some (ty0 k)) (hnm : ∀ a, a < N → ∀ b, b < N → a ≠ b → (T a).2.1 ≠ (T b).2.1) (hown : s.vm.findClass own = some m.cls) (hK : va_K D cl tys s) (hP : va_P D cl ws H) (hD : va_D A ws) (hS0 : va_S A H0 H locs) (q0 : Nat) {fs : List Value} (he : ws[q0]? = some (a, .inr (ci, fs))) (hc : cl[ci]? = some (C, T, N)) (k : Nat) (hk : k < N) (hlink : (Cond.fieldLink own index ref (T k).2.1 (T k).2.2.1).before args s = true) (hsame : ∀ x, s.fieldFound? (T k).1 (T k).2.1 (T k).2.2.1 = some x → s.fieldFound? ref (T k).2.1 (T k).2.2.1 = some x) (hfin : (T k).2.2.2 = false) {ty : FieldType} {v : Value} (hd : parseFieldDescriptor (T k).2.2.1 = some ty) (hn : narrow ty v = v) (hfit : fits ty v = true) (hl : k < fs.length)
    (hdg : decode cc pc = .ok (.putfield index, 3)) {ws' : va_W} (hw : ws.set q0 (a, .inr (ci, fs.set k v)) = ws') (kk : ∀ (H1 : Heap) (locs1 : List Loc), va_P D cl ws' H1 → va_D A ws' → va_S A H0 H1 locs1 → W p l e R s m args below meth c H1 locs1 cells slots Q (F0 m (pc + 3) ls rest)) : W p l e R s m args below meth c H locs cells slots Q (F0 m pc ls (v :: .ref a :: rest)) := by
  subst hw
  exact va_put hexec hb hts hin ty0 hty hnm hown hK hP hD hS0 q0 he hc k hk hlink hsame hfin hd hn hfit hl hdg kk
theorem sm_zret {b : Bool} (hx : p.tables.exec = Jvm.exec) (hb : c.code = cc) (hr : meth.sig.returnType = some .boolean) (hlocks : meth.locks = false) (hS : va_S (va_A wc s.heap.size) s.heap H locs) (hP : va_P D cl w1 H) (hD : va_D (va_A wc s.heap.size) w1)
    (hdg : decode cc pc = .ok (.ireturn, 1)) : W p l e R s m args below meth c H locs cells slots (MQ below (sm_Q D cl wc w1 s.heap.size (some (.int (sm_bI b)))) args s cells slots (va_A wc s.heap.size)) (F0 m pc ls [.int (sm_bI b)]) :=
  W.zret (v := sm_bI b) (ty := .boolean) hx hb hr (sm_bIn b) (fun t ht hW => ⟨⟨rfl, by rw [ht]; exact hP, hD⟩, hS.F ht⟩) hS.2.2 hdg hlocks
theorem sm_lret {v : Int64} (hx : p.tables.exec = Jvm.exec) (hb : c.code = cc) (hr : meth.sig.returnType = some .long) (hlocks : meth.locks = false) (hS : va_S (va_A wc s.heap.size) s.heap H locs) (hP : va_P D cl w1 H) (hD : va_D (va_A wc s.heap.size) w1)
    (hdg : decode cc pc = .ok (.lreturn, 1)) : W p l e R s m args below meth c H locs cells slots (MQ below (sm_Q D cl wc w1 s.heap.size (some (.long v))) args s cells slots (va_A wc s.heap.size)) (F0 m pc ls [.long v]) :=
  W.lret (v := v) hx hb hr (fun t ht hW => ⟨⟨rfl, by rw [ht]; exact hP, hD⟩, hS.F ht⟩) hS.2.2 hdg hlocks
theorem sm_vret (hx : p.tables.exec = Jvm.exec) (hb : c.code = cc) (hr : meth.sig.returnType = none) (hlocks : meth.locks = false) (hS : va_S (va_A wc s.heap.size) s.heap H locs) (hP : va_P D cl w1 H) (hD : va_D (va_A wc s.heap.size) w1)
    (hdg : decode cc pc = .ok (.return_, 1)) : W p l e R s m args below meth c H locs cells slots (MQ below (sm_Q D cl wc w1 s.heap.size none) args s cells slots (va_A wc s.heap.size)) (F0 m pc ls []) :=
  W.vret hx hb hr (fun t ht hW => ⟨⟨rfl, by rw [ht]; exact hP, hD⟩, hS.F ht⟩) hS.2.2 hdg hlocks
end SMR
/-- a contract out of the walk of a method's body -/
theorem sm_start {l : Launch} {y : MethodName} {ws ws' : List Cond} {rm : Room} {D : va_G} {cl : List vw_C} {tys : List (ClassId × FieldType)} {av : List Value} {w0 w1 : va_W} {rv : Option Value} {cc : ByteArray} {maxL : Nat} {ret : Option FieldType} {lv : List (Nat × Value)}
    (hy : plainName y.cls = true) (hw : ws = Cond.code y cc maxL ret :: ws') (hsl : (lg_sl av).length ≤ maxL) (hlv : lv_args 0 av = lv)
    (body : ∀ (p : Program) (e : Env) (s : State) (m : MethodId) (below : List Frame) (meth : Method) (c : Code), p.tables.exec = Jvm.exec → c.code = cc → meth.sig.returnType = ret → (∀ w ∈ ws, w.before av.toArray s = true) → s.vm.findClass y.cls = some m.cls → meth.locks = false → c.maxLocals = maxL → meth.name = y.name →
      va_K D cl tys s → va_P D cl w0 s.heap → va_D (va_A w0 s.heap.size) w0 → va_S (va_A w0 s.heap.size) s.heap s.heap [] → (∀ q : Nat, s.heap.size ≤ q → va_A w0 s.heap.size q) → ∀ ls : Array Slot, lv_has ls maxL lv →
      W p l e rm s m av.toArray below meth c s.heap [] 0 0 (MQ below (sm_Q D cl w0 w1 s.heap.size rv) av.toArray s rm.cells rm.slots (va_A w0 s.heap.size)) (F0 m 0 ls [])) : sm_C l y ws rm D cl tys av w0 rv w1 := by
  subst hlv
  intro sz
  refine Met.ofW (cc := cc) (maxL := maxL) (ret := ret) hy hw ?_
  intro p e s m args below meth c s₁ B hml hv
  obtain ⟨rfl, hsz, hP, hK, hD0⟩ := hv
  subst hsz
  rw [lg_entry_eq]
  exact body p e s m below meth c B.exec B.bytes B.returns (atoms_spec (ws := ws) B.pre) (findClass_of_methodNamed B.named) B.notSynchronized hml (name_of_methodNamed B.named B.method).1 hK hP (hD0.self) va_S.rf (fun q h => Or.inr h) _ (lv_entry av hsl)
end
section
/-! Int32 by its bits (the family bt, out of kit/laws) -/
def bt (x : Int32) (i : Nat) : Bool := x.toBitVec.getLsbD i
theorem b_ext {x y : Int32} (h : ∀ i, i < 32 → bt x i = bt y i) : x = y := Int32.toBitVec_inj.mp (BitVec.eq_of_getLsbD_eq (fun i hi => h i hi))
theorem b_or (x y : Int32) (i : Nat) : bt (x ||| y) i = (bt x i || bt y i) := by unfold bt; rw [Int32.toBitVec_or, BitVec.getLsbD_or]
theorem b_and (x y : Int32) (i : Nat) : bt (x &&& y) i = (bt x i && bt y i) := by unfold bt; rw [Int32.toBitVec_and, BitVec.getLsbD_and]
theorem b_xor (x y : Int32) (i : Nat) : bt (x ^^^ y) i = (bt x i ^^ bt y i) := by unfold bt; rw [Int32.toBitVec_xor, BitVec.getLsbD_xor]
theorem b_big {x : Int32} {i : Nat} (h : 32 ≤ i) : bt x i = false := BitVec.getLsbD_of_ge _ _ h
theorem b_255 (i : Nat) : bt 255 i = decide (i < 8) := by
  rcases Nat.lt_or_ge i 32 with h | h
  · exact (by decide +kernel : ∀ i, i < 32 → bt 255 i = decide (i < 8)) i h
  · rw [b_big h, decide_eq_false (by omega)]
theorem b_65535 (i : Nat) : bt 65535 i = decide (i < 16) := by
  rcases Nat.lt_or_ge i 32 with h | h
  · exact (by decide +kernel : ∀ i, i < 32 → bt 65535 i = decide (i < 16)) i h
  · rw [b_big h, decide_eq_false (by omega)]
theorem b_m1 : ∀ i, i < 32 → bt (-1) i = true := by decide +kernel
theorem b_0 (i : Nat) : bt 0 i = false := BitVec.getLsbD_zero
theorem s_l : ∀ n, n < 32 → ((nI n &&& 31).toBitVec.smod 32).toNat = n := by decide +kernel
theorem s_u : ∀ n, n < 32 → (((nI n).toUInt32 &&& Int32.toUInt32 31).toBitVec % 32).toNat = n := by decide +kernel
theorem b_shl (n : Nat) (hn : n < 32) (x : Int32) {i : Nat} (hi : i < 32) : bt (x <<< (nI n &&& 31)) i = (decide (n ≤ i) && bt x (i - n)) := by
  unfold bt
  rw [Int32.toBitVec_shiftLeft]
  show (x.toBitVec <<< ((nI n &&& 31).toBitVec.smod 32).toNat).getLsbD i = _
  rw [s_l n hn, BitVec.getLsbD_shiftLeft]
  rcases Nat.lt_or_ge i n with h | h
  · simp [h, Nat.not_le.mpr h]
  · simp [hi, h, Nat.not_lt.mpr h]
theorem b_ushr (n : Nat) (hn : n < 32) (x : Int32) (i : Nat) : bt ((x.toUInt32 >>> ((nI n).toUInt32 &&& Int32.toUInt32 31)).toInt32) i = bt x (n + i) := by
  show (x.toUInt32 >>> ((nI n).toUInt32 &&& Int32.toUInt32 31)).toBitVec.getLsbD i = x.toUInt32.toBitVec.getLsbD (n + i)
  rw [UInt32.toBitVec_shiftRight]
  show (x.toUInt32.toBitVec >>> (((nI n).toUInt32 &&& Int32.toUInt32 31).toBitVec % 32).toNat).getLsbD i = _
  rw [s_u n hn, BitVec.getLsbD_ushiftRight]
theorem b_sshr (n : Nat) (hn : n < 32) (x : Int32) {i : Nat} (hi : i < 32) : bt (x >>> (nI n &&& 31)) i = if n + i < 32 then bt x (n + i) else bt x 31 := by
  unfold bt
  rw [Int32.toBitVec_shiftRight]
  show (x.toBitVec.sshiftRight ((nI n &&& 31).toBitVec.smod 32).toNat).getLsbD i = _
  rw [s_l n hn, BitVec.getLsbD_sshiftRight, BitVec.msb_eq_getLsbD_last]
  simp [hi]

/-! own rows on bits -/
theorem sm_b1 (i : Nat) : bt 1 i = decide (i = 0) := by
  rcases Nat.lt_or_ge i 32 with h | h
  · exact (by decide +kernel : ∀ i, i < 32 → bt 1 i = decide (i = 0)) i h
  · rw [b_big h, decide_eq_false (by omega)]
theorem sm_bbI (b : Bool) (i : Nat) : bt (sm_bI b) i = (b && decide (i = 0)) := by
  cases b
  · show bt 0 i = _
    rw [b_0]; rfl
  · show bt 1 i = _
    rw [sm_b1]; rfl
theorem sm_tst (v : Int32) {k : Nat} (hk : k < 32) : v >>> (nI k &&& 31) &&& 1 = sm_bI (bt v k) := by
  refine b_ext fun i hi => ?_
  rw [b_and, b_sshr k hk v hi, sm_b1, sm_bbI]
  by_cases h : i = 0
  · subst h
    simp [hk]
  · simp [h]
theorem sm_bnot (x : Int32) {i : Nat} (hi : i < 32) : bt (x ^^^ (-1)) i = !bt x i := by
  rw [b_xor, b_m1 i hi]; simp
theorem sm_sh1 {k : Nat} (hk : k < 32) {i : Nat} (hi : i < 32) : bt ((1 : Int32) <<< (nI k &&& 31)) i = decide (i = k) := by
  rw [b_shl k hk 1 hi, sm_b1]
  by_cases h : i = k
  · subst h; simp
  · by_cases h2 : k ≤ i
    · simp [h2, h]; omega
    · simp [h2, h]
/-- the word whose first n bits are g -/
def sm_mk (g : Nat → Bool) : Nat → Int32
  | 0 => 0
  | n + 1 => if g n then sm_mk g n ||| (1 : Int32) <<< (nI n &&& 31) else sm_mk g n
theorem sm_mkb (g : Nat → Bool) : ∀ (n : Nat), n ≤ 32 → ∀ (i : Nat), i < 32 → bt (sm_mk g n) i = (decide (i < n) && g i)
  | 0, _, i, _ => by show bt 0 i = _; rw [b_0]; simp
  | n + 1, hn, i, hi => by
    have ih := sm_mkb g n (by omega) i hi
    unfold sm_mk
    by_cases hg : g n
    · rw [if_pos hg, b_or, ih, sm_sh1 (by omega) hi]
      by_cases h : i = n
      · subst h; simp [hg]
      · by_cases h2 : i < n
        · simp [h2, h, show i < n + 1 by omega]
        · simp [h2, h, show ¬ i < n + 1 by omega]
    · rw [if_neg hg, ih]
      by_cases h : i = n
      · subst h; simp [hg]
      · by_cases h2 : i < n
        · simp [h2, show i < n + 1 by omega]
        · simp [h2, show ¬ i < n + 1 by omega]
theorem sm_mk32 (g : Nat → Bool) {i : Nat} (hi : i < 32) : bt (sm_mk g 32) i = g i := by rw [sm_mkb g 32 (Nat.le_refl _) i hi]; simp [hi]
theorem sm_mkx {g : Nat → Bool} {x : Int32} (h : ∀ i, i < 32 → g i = bt x i) : sm_mk g 32 = x := b_ext fun i hi => by rw [sm_mk32 g hi, h i hi]
/-- arrays of bits -/
def sm_fb (V : Nat → Int32) : Nat → Int32 := fun j => sm_bI (bt (V (j / 32)) (j % 32))
def sm_fo (M : Nat → Int32) : Nat → Int32 := fun j => sm_bI (bt (M (j / 8)) (j % 8))
def sm_fl (M : Nat → Int32) : Nat → Int32 := fun j => sm_bI (bt (M (j / 8)) (8 + j % 8))
def sm_fw (O : Int32) : Nat → Int32 := fun j => sm_bI (bt O j)
def sm_fill (f : Nat → Int32) (g : Nat → Bool) (a k : Nat) : Nat → Int32 := fun j => if a ≤ j ∧ j < a + k then sm_bI (g (j - a)) else f j
theorem sm_fb_at (V : Nat → Int32) {r k : Nat} (hk : k < 32) : sm_fb V (32 * r + k) = sm_bI (bt (V r) k) := by
  unfold sm_fb
  rw [show (32 * r + k) / 32 = r by omega, show (32 * r + k) % 32 = k by omega]
theorem sm_fo_at (M : Nat → Int32) {a k : Nat} (hk : k < 8) : sm_fo M (8 * a + k) = sm_bI (bt (M a) k) := by
  unfold sm_fo
  rw [show (8 * a + k) / 8 = a by omega, show (8 * a + k) % 8 = k by omega]
theorem sm_fl_at (M : Nat → Int32) {a k : Nat} (hk : k < 8) : sm_fl M (8 * a + k) = sm_bI (bt (M a) (8 + k)) := by
  unfold sm_fl
  rw [show (8 * a + k) / 8 = a by omega, show (8 * a + k) % 8 = k by omega]
theorem sm_fill0 (f : Nat → Int32) (g : Nat → Bool) (a : Nat) : sm_fill f g a 0 = f := by
  funext j
  unfold sm_fill
  rw [if_neg (by omega)]
theorem sm_fillS (f : Nat → Int32) (g : Nat → Bool) (a k : Nat) : upd (sm_fill f g a k) (a + k) (sm_bI (g k)) = sm_fill f g a (k + 1) := by
  funext j
  unfold sm_fill upd
  by_cases h : j = a + k
  · subst h
    rw [if_pos rfl, if_pos (by omega), Nat.add_sub_cancel_left]
  · rw [if_neg h]
    dsimp only
    by_cases h2 : a ≤ j ∧ j < a + k
    · rw [if_pos h2, if_pos (by omega)]
    · rw [if_neg h2, if_neg (by omega)]
theorem sm_fill_b (V : Nat → Int32) (r : Nat) (O : Int32) : sm_fill (sm_fb V) (bt O) (32 * r) 32 = sm_fb (upd V r O) := by
  funext j
  unfold sm_fill sm_fb upd
  by_cases h : 32 * r ≤ j ∧ j < 32 * r + 32
  · rw [if_pos h, if_pos (by omega), show j % 32 = j - 32 * r by omega]
  · rw [if_neg h, if_neg (by omega)]
theorem sm_fill_w (O : Int32) (g : Nat → Bool) : sm_fill (sm_fw O) g 0 32 = sm_fw (sm_mk g 32) := by
  funext j
  unfold sm_fill sm_fw
  by_cases h : j < 32
  · rw [if_pos (by omega), sm_mk32 g h, Nat.sub_zero]
  · rw [if_neg (by omega), b_big (by omega), b_big (by omega)]
/-- the lowest place that has g, from k on, of d -/
def sm_lo (g : Nat → Bool) : Nat → Nat → Nat
  | 0, k => k
  | d + 1, k => if g k then k else sm_lo g d (k + 1)
theorem sm_lo_le (g : Nat → Bool) : ∀ (d k : Nat), sm_lo g d k ≤ k + d
  | 0, k => Nat.le_refl _
  | d + 1, k => by
    have := sm_lo_le g d (k + 1)
    unfold sm_lo
    split <;> omega
theorem sm_lo_ge (g : Nat → Bool) : ∀ (d k : Nat), k ≤ sm_lo g d k
  | 0, k => Nat.le_refl _
  | d + 1, k => by
    have := sm_lo_ge g d (k + 1)
    unfold sm_lo
    split <;> omega
theorem sm_lo_lt (g : Nat → Bool) : ∀ (d k i : Nat), k ≤ i → i < sm_lo g d k → g i = false
  | 0, k, i, h1, h2 => by unfold sm_lo at h2; omega
  | d + 1, k, i, h1, h2 => by
    unfold sm_lo at h2
    by_cases hg : g k
    · rw [if_pos hg] at h2; omega
    · rw [if_neg hg] at h2
      by_cases h : i = k
      · subst h; simpa using hg
      · exact sm_lo_lt g d (k + 1) i (by omega) h2
theorem sm_lo_at (g : Nat → Bool) : ∀ (d k : Nat), sm_lo g d k < k + d → g (sm_lo g d k) = true
  | 0, k, h => by unfold sm_lo at h; omega
  | d + 1, k, h => by
    unfold sm_lo at h ⊢
    by_cases hg : g k
    · rw [if_pos hg]; exact hg
    · rw [if_neg hg] at h ⊢
      exact sm_lo_at g d (k + 1) (by omega)
def sm_tz (x : Int32) : Nat := sm_lo (bt x) 32 0
theorem sm_tz_le (x : Int32) : sm_tz x ≤ 32 := by have := sm_lo_le (bt x) 32 0; unfold sm_tz; omega
theorem sm_tz_lt {x : Int32} {i : Nat} (h : i < sm_tz x) : bt x i = false := sm_lo_lt _ _ _ _ (Nat.zero_le _) h
theorem sm_tz_at {x : Int32} (h : sm_tz x < 32) : bt x (sm_tz x) = true := sm_lo_at _ _ _ (by unfold sm_tz at h; omega)
theorem sm_tz_is {x : Int32} {n : Nat} (hn : n ≤ 32) (h1 : ∀ i, i < n → bt x i = false) (h2 : n < 32 → bt x n = true) : sm_tz x = n := by
  rcases Nat.lt_trichotomy (sm_tz x) n with h | h | h
  · have := sm_tz_at (x := x) (by omega)
    rw [h1 _ h] at this; cases this
  · exact h
  · have hl := sm_tz_le x
    have := sm_tz_lt h
    rw [h2 (by omega)] at this; cases this
theorem sm_tz_or (x y : Int32) : sm_tz (x ||| y) = if sm_tz x < sm_tz y then sm_tz x else sm_tz y := by
  have hx := sm_tz_le x
  have hy := sm_tz_le y
  refine sm_tz_is (by split <;> omega) (fun i hi => ?_) (fun hn => ?_)
  · rw [b_or, sm_tz_lt (by split at hi <;> omega), sm_tz_lt (by split at hi <;> omega)]; rfl
  · rw [b_or]
    split at hn
    · rename_i h
      rw [if_pos h, sm_tz_at (by omega)]; rfl
    · rename_i h
      rw [if_neg h, sm_tz_at (by omega)]; simp
/-- all bits from a place on -/
def sm_fr (n : Nat) : Int32 := sm_mk (fun i => decide (n ≤ i)) 32
theorem sm_fr_b (n : Nat) {i : Nat} (hi : i < 32) : bt (sm_fr n) i = decide (n ≤ i) := sm_mk32 _ hi
theorem sm_fr_eq {a b : Nat} (h : ∀ i, i < 32 → (a ≤ i ↔ b ≤ i)) : sm_fr a = sm_fr b := b_ext fun i hi => by
  rw [sm_fr_b a hi, sm_fr_b b hi]
  exact decide_eq_decide.mpr (h i hi)
theorem sm_fr_sh {n : Nat} (h : n < 32) : (-1 : Int32) <<< (nI n &&& 31) = sm_fr n := b_ext fun i hi => by
  rw [b_shl n h (-1) hi, sm_fr_b n hi]
  by_cases h2 : n ≤ i
  · rw [b_m1 _ (by omega)]; simp
  · simp [h2]
theorem sm_fr_0 {n : Nat} (h : 32 ≤ n) : sm_fr n = 0 := b_ext fun i hi => by
  rw [sm_fr_b n hi, b_0]; simp; omega
/-- how many bits -/
def sm_pc (g : Nat → Bool) : Nat → Nat
  | 0 => 0
  | n + 1 => if g n then sm_pc g n + 1 else sm_pc g n
theorem sm_pc_le (g : Nat → Bool) : ∀ n, sm_pc g n ≤ n
  | 0 => Nat.le_refl _
  | n + 1 => by
    have := sm_pc_le g n
    unfold sm_pc
    split <;> omega
theorem sm_pc_eq {g h : Nat → Bool} : ∀ n, (∀ i, i < n → g i = h i) → sm_pc g n = sm_pc h n
  | 0, _ => rfl
  | n + 1, hh => by
    unfold sm_pc
    rw [hh n (by omega), sm_pc_eq n (fun i hi => hh i (by omega))]
theorem sm_pc_add (g : Nat → Bool) (a : Nat) : ∀ b, sm_pc g (a + b) = sm_pc g a + sm_pc (fun i => g (a + i)) b
  | 0 => rfl
  | b + 1 => by
    show sm_pc g (a + b + 1) = _
    rw [sm_pc, sm_pc, sm_pc_add g a b]
    split <;> omega
end
section
/-! own rows on what is thrown: out of a method, out of a callee, caught by the caller (launches without stack traces) -/
/-- a static of Throwable as its constructor wants it: it lies where nobody writes, and holds a reference or null -/
def sm_Zl (n d : String) (A : Nat → Prop) (U : State) (H : Heap) : Prop := ∃ (c : ClassId) (k : Class) (i : Nat) (f : Field) (a : Nat) (cell : Cell) (v : Value),
  U.vm.findClass Bundle.tN = some c ∧ U.fieldFound? Bundle.tN n d = some (c, k, i, f) ∧ f.isStatic = true ∧ k.statics = some a ∧ H[a]? = some cell ∧ cell.vm.isStatics = true ∧ cell.cls = c ∧ f.slot < cell.slots.size ∧ k.staticTypes[f.slot]? = some f.type ∧ cell.slots[f.slot]? = some v ∧ v.isRef = true ∧ ¬ A a
theorem sm_Zl.kept {n d : String} {A B : Nat → Prop} {u U : State} {H H1 : Heap} (h : sm_Zl n d A u H) (hvm : u.vm.Alike U.vm) (hq : ∀ a : Nat, a < H.size → ¬ A a → H1[a]? = H[a]?) (hB : ∀ q, B q → A q) : sm_Zl n d B U H1 := by
  obtain ⟨c, k, i, f, a, cell, v, h1, h2, h3, h4, h5, h6, h7, h8, h9, h10, h11, h12⟩ := h
  obtain ⟨k', hi', he⟩ := State.fieldFound?_setVm hvm h2
  exact ⟨c, k', i, f, a, cell, v, by rw [hvm.findClass]; exact h1, hi', h3, by rw [he]; exact h4, by rw [hq a (Array.getElem?_eq_some_iff.mp h5).1 h12]; exact h5, h6, h7, h8, by rw [he]; exact h9, h10, h11, fun z => h12 (hB a z)⟩
theorem sm_Zl.lays {n d : String} {A : Nat → Prop} {s : State} {args : Array Value} (h : sm_Zl n d A s s.heap) : (Cond.laysStatic Bundle.tN n d).before args s = true := by
  obtain ⟨c, k, i, f, a, cell, v, h1, h2, h3, h4, h5, h6, h7, h8, h9, -⟩ := h
  simp [Cond.before, Cond.holds, Cond.value, h1, h2, h3, h4, h5, h6, h7, h8, h9]
theorem sm_Zl.isRef {n d : String} {A : Nat → Prop} {s : State} {args : Array Value} (h : sm_Zl n d A s s.heap) : (Cond.isRef (.static Bundle.tN n d)).before args s = true := by
  obtain ⟨c, k, i, f, a, cell, v, h1, h2, h3, h4, h5, h6, h7, h8, h9, h10, h11, -⟩ := h
  have he : (Term.static Bundle.tN n d).eval args s none [] s = some v := by
    simp [Term.eval, State.fieldNamed?, h2, h3, h4, h5, h6, h10]
  simp only [Cond.before, Cond.holds, Cond.value, he]
  cases v <;> simp_all [Value.isRef]
theorem sm_Zl.of {n d : String} {A : Nat → Prop} {s : State} {args : Array Value} (hl : (Cond.laysStatic Bundle.tN n d).before args s = true) (hr : (Cond.isRef (.static Bundle.tN n d)).before args s = true) (hA : ∀ a : Nat, a < s.heap.size → ¬ A a) : sm_Zl n d A s s.heap := by
  obtain ⟨c, k, i, f, a, cell, hc, hi, hst, ha, hcell, hs, hcls, hlt, hty⟩ := Cond.laysStatic_spec hl
  cases hv : (Term.static Bundle.tN n d).eval args s none [] s with
  | none => simp [Cond.before, Cond.holds, Cond.value, hv] at hr
  | some w =>
    obtain ⟨hst', a', cell', ha', hcell', -, hslot⟩ := Term.static_spec hi hv
    cases ha.symm.trans ha'
    cases hcell.symm.trans hcell'
    refine ⟨c, k, i, f, a, cell, w, hc, hi, hst, ha, hcell, hs, hcls, hlt, hty, hslot, ?_, hA a (Array.getElem?_eq_some_iff.mp hcell).1⟩
    simp only [Cond.before, Cond.holds, Cond.value, hv] at hr
    cases w <;> simp_all [Value.isRef]
def sm_Z (A : Nat → Prop) (U : State) (H : Heap) : Prop := sm_Zl "UNASSIGNED_STACK" Bundle.steD A U H ∧ sm_Zl "SUPPRESSED_SENTINEL" Bundle.listD A U H
theorem sm_Z.kept {A B : Nat → Prop} {u U : State} {H H1 : Heap} (h : sm_Z A u H) (hvm : u.vm.Alike U.vm) (hq : ∀ a : Nat, a < H.size → ¬ A a → H1[a]? = H[a]?) (hB : ∀ q, B q → A q) : sm_Z B U H1 := ⟨h.1.kept hvm hq hB, h.2.kept hvm hq hB⟩
/-- what a method that throws leaves: an object of the class E is thrown, the cells are as they were -/
def sm_T (D : va_G) (cl : List vw_C) (w0 : va_W) (sz : Nat) (E : String) (mc ms : Nat) (st : State) (oc : Outcome) (t : State) : Prop :=
  ∃ (q : Nat) (ce : Cell) (L : List Loc), oc = .threw q ∧ t.heap[q]? = some ce ∧ ce.vm = .none ∧ st.vm.findClass E = some ce.cls ∧ va_P D cl w0 t.heap ∧ va_F (va_A w0 sz) st t ∧
    st.WarmedH t.vm ∧ st.sameButNew ({ t with vm := st.vm } : State) L mc ms ∧ ∀ z ∈ L, va_A w0 sz z.base
def sm_PX (D : va_G) (cl : List vw_C) (tys : List (ClassId × FieldType)) (w0 : va_W) (sz : Nat) (U : State) : Prop := sm_P D cl tys w0 sz U ∧ sm_Z (va_A w0 sz) U U.heap
def sm_X (l : Launch) (y : MethodName) (ws : List Cond) (rm : Room) (D : va_G) (cl : List vw_C) (tys : List (ClassId × FieldType)) (av : List Value) (w0 : va_W) (E : String) : Prop :=
  ∀ sz : Nat, MetFree l y (headSpec ws rm) (va_Pc av (sm_PX D cl tys w0 sz)) (fun _ _ _ _ _ => True) (fun _ st o t => sm_T D cl w0 sz E rm.cells rm.slots st o t)
section SMX
variable {p : Program} {l : Launch} {e : Env} {R : Room} {s : State} {m : MethodId} {args : Array Value} {below : List Frame} {meth : Method} {c : Code} {H : Heap} {locs : List Loc} {cells slots : Nat} {Q : State → Prop}
variable {pc : Nat} {ls : Array Slot} {rest st0 : List Value} {A0 : Nat → Prop} {H0 : Heap} {D : va_G} {cl : List vw_C} {tys tysc : List (ClassId × FieldType)} {ws wc wr w1 : va_W} {E : String} {q : Nat}
variable {y : MethodName} {bytes cc : ByteArray} {maxL nL n index : Nat} {ret : Option FieldType} {wz : List Cond} {rm : Room} {Ts : List Cond} {own C : String} {b : Nat} {As : List Value}
/-- an object is thrown over the frame g -/
def sm_V (p : Program) (l : Launch) (e : Env) (R : Room) (s : State) (m : MethodId) (args : Array Value) (below : List Frame) (meth : Method) (c : Code) (H : Heap) (locs : List Loc) (cells slots : Nat) (Q : State → Prop) (g : JFrame) (q : Nat) : Prop :=
  ∀ T : State, T.heap = H → Stand p l e R s m args below meth c T locs cells slots → ∃ t, Steps p.tables e below ((T.setTop g).pushFrame (.throwing q)) t ∧ Q t
def sm_MX (below : List Frame) (D : va_G) (cl : List vw_C) (w0 : va_W) (E : String) (s : State) (mc ms : Nat) : State → Prop := fun t =>
  ∃ o, t.status = .running ∧ Ended t below o ∧ sm_T D cl w0 s.heap.size E mc ms s o t
/-- a callee throws -/
theorem sm_xb {len : Nat} {ig : Instr} {mk : MethodId} {U : State} {g : JFrame} (hX : sm_X l y wz rm D cl tysc As wc E) (hcode : Cond.code y bytes maxL ret ∈ wz) (hfr : rm.frames + 1 ≤ R.frames) (hlo : 8 + (maxL + 11) + rm.locals ≤ R.locals)
    (hws : ∀ w ∈ wz, ∀ (a' : Array Value) (U : State), s.WarmedH U.vm → w.before a' U = true) (hini : (Cond.initialized y.cls).before args s = true)
    (X : Stand p l e R s m args below meth c U locs cells slots) (hg : g.method = m) (hsize : g.locals.size = c.maxLocals) (hdg : decode c.code g.pc = .ok (ig, len)) (hW : 2 * g.monitorRoom + (g.stack.map fun v => v.category).sum ≤ 8) (hn : U.methodNamed? y = some mk)
    (hP : sm_PX D cl tysc wc U.heap.size U) (hf : cells + rm.cells ≤ R.cells ∧ slots + rm.slots ≤ R.slots) :
    ∃ (q : Nat) (ce : Cell) (T' : State) (L : List Loc), Stand p l e R s m args below meth c T' (locs ++ L) (cells + rm.cells) (slots + rm.slots) ∧ (∀ z ∈ L, va_A wc U.heap.size z.base) ∧ T'.heap[q]? = some ce ∧ ce.vm = .none ∧ s.vm.findClass E = some ce.cls ∧
      va_P D cl wc T'.heap ∧ U.heap.size ≤ T'.heap.size ∧ (∀ z : Nat, z < U.heap.size → ¬ va_A wc U.heap.size z → T'.heap[z]? = U.heap[z]?) ∧
      Steps p.tables e below (doInvoke e (U.setTop g) [] mk As.toArray).1 ((T'.setTop g).pushFrame (.throwing q)) := by
  have h2 : (Cond.code y bytes maxL ret).before As.toArray U = true := hws _ hcode _ _ X.warmed
  obtain ⟨methY, cY, hmY, hcY, -, hlY, -, -, -, -⟩ := Cond.code_spec hn h2
  obtain ⟨kY, hkY, -⟩ := className_of_methodNamed hn
  have h3 : (Cond.initialized y.cls).before As.toArray U = true := word_at X.warmed (Or.inl (by first | rfl | simp [Cond.onTables, Cond.keeps, Cond.steady])) hini
  have hinitY : kY.init = .initialized := Cond.initialized_spec (findClass_of_methodNamed hn) hkY h3
  have h : At U g.method c below := by rw [hg]; exact X.here
  have happ : (headSpec wz rm).appliesLoose y e.platform (U.calling g mk As.toArray) = true :=
    Spec.appliesLoose_calling (g := g) h hdg hn hkY hinitY
      (X.room_calling (g := g) (R' := rm) hsize hmY hcY hfr (by rw [hlY]; omega) hf.1 hf.2) (atoms_intro fun w hw => hws w hw _ _ X.warmed)
  obtain ⟨mid, hmid⟩ := h.above
  have hfrm : (U.setTop g).frames = (.java g :: mid) ++ below := by rw [State.frames_setTop' g h.top, hmid]; rfl
  obtain ⟨⟨p1, p2, p3, p4⟩, pz⟩ := hP
  have hPc : va_Pc As (sm_PX D cl tysc wc U.heap.size) As.toArray (U.calling g mk As.toArray) :=
    ⟨rfl, ⟨p1, p2, va_K.moved (u := U) (U := U.calling g mk As.toArray) (Vm.Alike.refl U.vm) p3, p4⟩, pz.kept (U := U.calling g mk As.toArray) (Vm.Alike.refl U.vm) (fun _ _ _ => rfl) (fun _ h => h)⟩
  obtain ⟨o, s₂, hsteps, -, hend, hq⟩ := Steps.callFree (hX U.heap.size) p X.admits X.cas X.clock (acts := []) hfrm happ hPc trivial
  have hq' : sm_T D cl wc U.heap.size E rm.cells rm.slots (U.calling g mk As.toArray) o s₂ := hq
  rw [State.frames_setTop' g h.top] at hend
  obtain ⟨q, ce, L, rfl, hce, hvm, hcl, hPt, hF, hW₂, hsm, hL⟩ := hq'
  obtain ⟨e2, q2, q3, q4, q5, q6⟩ := hsm
  have e3 : s₂ = ({ (U.calling g mk As.toArray).setFrames s₂.frames with heap := s₂.heap, slotsUsed := s₂.slotsUsed } : State).setVm s₂.vm := by
    have : s₂ = ({ s₂ with vm := (U.calling g mk As.toArray).vm } : State).setVm s₂.vm := rfl
    rw [e2] at this
    exact this
  have hend' : s₂.frames = .throwing q :: .java g :: U.frames.tail := hend
  have hW' : U.WarmedH s₂.vm := hW₂
  obtain ⟨g₀, hg0⟩ := Option.isSome_iff_exists.mp h.top
  obtain ⟨r, hr⟩ := State.topJava?_eq_some.mp hg0
  have hr' : (({ U with heap := s₂.heap, slotsUsed := s₂.slotsUsed } : State).setVm s₂.vm).frames = .java g₀ :: r := hr
  have hs₂ : s₂ = ((({ U with heap := s₂.heap, slotsUsed := s₂.slotsUsed } : State).setVm s₂.vm).setTop g).pushFrame (.throwing q) := by
    refine e3.trans ?_
    rw [hend', State.calling_eq h.top, State.setFrames_setFrames, State.pushFrame, State.frames_setTop _ hr', State.setTop_of_frames _ hr', State.setFrames_setFrames, hr]
    rfl
  have hsame : U.sameButNew ({ U with heap := s₂.heap, slotsUsed := s₂.slotsUsed } : State) L rm.cells rm.slots := by
    refine ⟨?_, q2, q3, q4, q5, q6⟩
    obtain ⟨t, ht, -⟩ := State.frames_cons hr
    show ({ U with heap := s₂.heap, slotsUsed := s₂.slotsUsed } : State) = { U.setFrames U.frames with heap := s₂.heap, slotsUsed := s₂.slotsUsed }
    rw [State.setFrames_self ht]
  subst hg
  refine ⟨q, ce, (({ U with heap := s₂.heap, slotsUsed := s₂.slotsUsed } : State).setVm s₂.vm), L,
    ⟨X.admits, X.cas, X.clock, X.frames, X.room, X.hears, X.method, X.code, (X.here.setHeapUsed s₂.heap s₂.slotsUsed).setVm hW'.alike, X.tail, State.WarmedH.trans X.warmed hW', X.limits, X.bytes, X.same.trans (hsame.setVm s.vm)⟩,
    hL, hce, hvm, ?_, hPt, hF.1, hF.2, ?_⟩
  · rw [← X.warmed.alike.findClass]; exact hcl
  · rw [← hs₂]
    exact hsteps

/-- a static method that throws is called -/
theorem sm_xS (S : CallFix p m c cc nL s args Ts own) (hX : sm_X l y wz rm D cl tysc As wc E) (cw : CallB R s args own index y bytes maxL ret wz rm rm.cells rm.slots n ∧ (Cond.static y).before args s = true)
    (hK : va_K D cl tys s) (tis : List Nat) (hti : tis.filterMap (fun i => tys[i]?) = tysc) (hZ : sm_Z A0 s s.heap) (hP : va_P D cl ws H) (hD : va_D A0 ws) (hS : va_S A0 s.heap H locs) (hA : ∀ q, s.heap.size ≤ q → A0 q)
    (isC isR : List Nat) (hCm : isC.map (fun i => ws[i]?) = wc.map some) (hRm : isR.map (fun i => ws[i]?) = wr.map some) (hnC : va_nd isC = true) (hnR : va_nd isR = true) (hdis : ∀ i ∈ isR, i ∉ isC)
    (hn : As.length = n) (hsize : ls.size = nL) (hst : st0 = As.reverse ++ rest) (hW : (rest.map fun v => v.category).sum ≤ 8) (hdg : decode cc pc = .ok (.invokestatic index, 3)) (hf : cells + rm.cells ≤ R.cells ∧ slots + rm.slots ≤ R.slots)
    (kk : ∀ (q : Nat) (ce : Cell) (H1 : Heap) (locs1 : List Loc), H1[q]? = some ce → ce.vm = .none → s.vm.findClass E = some ce.cls → va_P D cl (wr ++ wc) H1 → va_D A0 (wr ++ wc) → va_S A0 s.heap H1 locs1 → sm_V p l e R s m args below meth c H1 locs1 (cells + rm.cells) (slots + rm.slots) Q (F0 m pc ls rest) q) : W p l e R s m args below meth c H locs cells slots Q (F0 m pc ls st0) := by
  obtain ⟨⟨-, -, hfr, hlo, hws, hcm, hcode, hini, hy, hlen, hlink⟩, hstt⟩ := cw
  obtain ⟨hx, hb, hml, ho, -⟩ := S
  have hF := va_free (wc := wc) hD hS hA isC hCm
  intro T hT X
  subst hT
  obtain ⟨mk, hnamed⟩ := Cond.code_named hcode
  obtain ⟨methM, cM, hmethM, -, -, -, -, -, -, hsigM⟩ := Cond.code_spec hnamed hcode
  have hstatic : methM.isStatic = true := Cond.static_spec hnamed hmethM hstt
  obtain ⟨kP, hkP, -⟩ := className_of_methodNamed hnamed
  have hinitP : kP.init = .initialized := Cond.initialized_spec (findClass_of_methodNamed hnamed) hkP hini
  obtain ⟨vm₁, X₁, hstep₁⟩ := X.invokestatic hx ho hlink hnamed hmethM hstatic hkP hinitP hy (g := F0 m pc ls st0) rfl (argsL := As) (rest := rest) (hn.trans (hlen _ hsigM)) hst (by rw [hb]; exact hdg)
  have hpre : sm_PX D cl tysc wc (T.setVm vm₁).heap.size (T.setVm vm₁) :=
    ⟨(sm_pre (av := As) (hK.sub tis hti) (hP.sub isC (sm_fm hCm)) (hD.sub isC hnC hCm) (T.setVm vm₁) rfl X₁.warmed).2, hZ.kept X₁.warmed.alike hS.2.1 hF⟩
  obtain ⟨q, ce, T', L, X', hL, hce, hvm, hcl, hPt, hz, hk, st⟩ := sm_xb (g := F0 m pc ls rest) hX hcm hfr hlo hws hini X₁ rfl (hsize.trans hml.symm) (by rw [hb]; exact hdg) (lv_room hW) (X₁.named hnamed) hpre hf
  have hk' : ∀ z : Nat, z < T.heap.size → ¬ va_A wc T.heap.size z → T'.heap[z]? = T.heap[z]? := hk
  have hz' : T.heap.size ≤ T'.heap.size := hz
  have hD1 : va_D (va_A wc T.heap.size) wc := (hD.sub isC hnC hCm).self
  obtain ⟨jP, jD⟩ := va_join (w1 := wc) hP hD isC isR hCm hRm hnR hdis hk' hF hPt hD1
  obtain ⟨t2, a1, b1⟩ := kk q ce T'.heap (locs ++ L) hce hvm hcl jP jD
    ⟨Nat.le_trans hS.1 hz', fun q h1 h2 => by rw [hk' q (Nat.lt_of_lt_of_le h1 hS.1) (fun z => h2 (hF q z))]; exact hS.2.1 q h1 h2, fun q hq => by
      rcases List.mem_append.mp hq with h | h
      · exact hS.2.2 q h
      · exact hF _ (hL q h)⟩ T' rfl X'
  exact ⟨t2, hstep₁ _ fun acts => by rw [doInvoke_state]; exact st.trans a1, b1⟩
/-- an instance method that throws is called -/
theorem sm_xV (S : CallFix p m c cc nL s args Ts own) (hX : sm_X l y wz rm D cl tysc (.ref b :: As) wc E) (cw : CallW R s args own C index y bytes maxL ret wz rm rm.cells rm.slots n)
    (hK : va_K D cl tys s) (tis : List Nat) (hti : tis.filterMap (fun i => tys[i]?) = tysc) (hZ : sm_Z A0 s s.heap) (hP : va_P D cl ws H) (hD : va_D A0 ws) (hS : va_S A0 s.heap H locs) (hA : ∀ q, s.heap.size ≤ q → A0 q)
    (q0 : Nat) {ci : Nat} {fs : List Value} {T0 : u_T} {N : Nat} (he : ws[q0]? = some (b, .inr (ci, fs))) (hc : cl[ci]? = some (C, T0, N))
    (isC isR : List Nat) (hCm : isC.map (fun i => ws[i]?) = wc.map some) (hRm : isR.map (fun i => ws[i]?) = wr.map some) (hnC : va_nd isC = true) (hnR : va_nd isR = true) (hdis : ∀ i ∈ isR, i ∉ isC)
    (hn : As.length = n) (hsize : ls.size = nL) (hst : st0 = As.reverse ++ .ref b :: rest) (hW : (rest.map fun v => v.category).sum ≤ 8) (hdg : decode cc pc = .ok (.invokevirtual index, 3)) (hf : cells + rm.cells ≤ R.cells ∧ slots + rm.slots ≤ R.slots)
    (kk : ∀ (q : Nat) (ce : Cell) (H1 : Heap) (locs1 : List Loc), H1[q]? = some ce → ce.vm = .none → s.vm.findClass E = some ce.cls → va_P D cl (wr ++ wc) H1 → va_D A0 (wr ++ wc) → va_S A0 s.heap H1 locs1 → sm_V p l e R s m args below meth c H1 locs1 (cells + rm.cells) (slots + rm.slots) Q (F0 m pc ls rest) q) : W p l e R s m args below meth c H locs cells slots Q (F0 m pc ls st0) := by
  obtain ⟨⟨-, -, hfr, hlo, hws, hcm, hcode, hini, hy, hlen, hlink⟩, hinst, hsel⟩ := cw
  obtain ⟨hx, hb, hml, ho, -⟩ := S
  have hF := va_free (wc := wc) hD hS hA isC hCm
  obtain ⟨cellB, hcB, hoB, hclB⟩ := va_recv hK hP hc he
  intro T hT X
  subst hT
  obtain ⟨mk, methM, hnamed, hmethM, hstM, habM⟩ := Cond.instanceMethod_spec hinst
  obtain ⟨methM', cM, hmethM', -, -, -, -, -, -, hsigM⟩ := Cond.code_spec hnamed hcode
  cases hmethM.symm.trans hmethM'
  obtain ⟨c2, r2, m2, q1, q2, q3, q4, kP, hkP, hkPi⟩ := Cond.selects_spec hsel
  cases hclB.symm.trans q1
  cases (State.methodFound?_of_named hnamed hy).symm.trans q2
  cases hnamed.symm.trans q3
  have hselP : selectMethod e.platform s.vm cellB.cls mk = .method mk := by rw [Launch.admits_selectMethod X.admits]; exact q4
  obtain ⟨vm₁, X₁, hstep₁⟩ := X.invokevirtual hx ho hlink hnamed hmethM hstM hkP hkPi hy (a := b) (cell := cellB) hcB
    (fun z h => by rw [h] at hoB; cases hoB) hselP hmethM habM hkP hkPi (g := F0 m pc ls st0) rfl (argsL := As) (rest := rest) (hn.trans (hlen _ hsigM)) hst (by rw [hb]; exact hdg)
  have hpre : sm_PX D cl tysc wc (T.setVm vm₁).heap.size (T.setVm vm₁) :=
    ⟨(sm_pre (av := .ref b :: As) (hK.sub tis hti) (hP.sub isC (sm_fm hCm)) (hD.sub isC hnC hCm) (T.setVm vm₁) rfl X₁.warmed).2, hZ.kept X₁.warmed.alike hS.2.1 hF⟩
  obtain ⟨q, ce, T', L, X', hL, hce, hvm, hcl, hPt, hz, hk, st⟩ := sm_xb (g := F0 m pc ls rest) hX hcm hfr hlo hws hini X₁ rfl (hsize.trans hml.symm) (by rw [hb]; exact hdg) (lv_room hW) (X₁.named hnamed) hpre hf
  have hk' : ∀ z : Nat, z < T.heap.size → ¬ va_A wc T.heap.size z → T'.heap[z]? = T.heap[z]? := hk
  have hz' : T.heap.size ≤ T'.heap.size := hz
  have hD1 : va_D (va_A wc T.heap.size) wc := (hD.sub isC hnC hCm).self
  obtain ⟨jP, jD⟩ := va_join (w1 := wc) hP hD isC isR hCm hRm hnR hdis hk' hF hPt hD1
  obtain ⟨t2, a1, b1⟩ := kk q ce T'.heap (locs ++ L) hce hvm hcl jP jD
    ⟨Nat.le_trans hS.1 hz', fun q h1 h2 => by rw [hk' q (Nat.lt_of_lt_of_le h1 hS.1) (fun z => h2 (hF q z))]; exact hS.2.1 q h1 h2, fun q hq => by
      rcases List.mem_append.mp hq with h | h
      · exact hS.2.2 q h
      · exact hF _ (hL q h)⟩ T' rfl X'
  exact ⟨t2, hstep₁ _ fun acts => by rw [doInvoke_state]; exact st.trans a1, b1⟩
/-- it isn't caught here -/
theorem sm_vout {ce : Cell} {mc ms : Nat} (hout : ∀ x ∈ c.exceptionTable.toList, covers x pc = false) (hlocks : meth.locks = false) (hce : H[q]? = some ce) (hv : ce.vm = .none) (hcl : s.vm.findClass E = some ce.cls) (hP : va_P D cl wc H) (hS : va_S (va_A wc s.heap.size) s.heap H locs) (hc : cells ≤ mc) (hs : slots ≤ ms) :
    sm_V p l e R s m args below meth c H locs cells slots (sm_MX below D cl wc E s mc ms) (F0 m pc ls rest) q := by
  intro T hT X
  subst hT
  obtain ⟨st1, hrun, hend, hW, hsm⟩ := X.leaveThrown q (g := F0 m pc ls rest) rfl rfl rfl hout hlocks
  exact ⟨_, st1, .threw q, hrun, hend, q, ce, locs, rfl, hce, hv, hcl, hP, hS.F rfl, hW, hsm.mono hc hs, hS.2.2⟩
theorem sm_frame {U : State} {k n : Nat} (h : s.sameButNew ({ U with vm := s.vm } : State) [] k n) : s.heap.size ≤ U.heap.size ∧ ∀ z : Nat, z < s.heap.size → U.heap[z]? = s.heap[z]? := by
  obtain ⟨-, h2, -, -, -, h6⟩ := h
  refine ⟨h2, fun z hz => ?_⟩
  obtain ⟨c9, e1, e2, e3, e4⟩ := h6 z _ (Array.getElem?_eq_getElem hz)
  have hs : c9.slots = (s.heap[z]).slots := Array.ext_getElem? fun i => e4 i List.not_mem_nil
  have h9 : c9 = s.heap[z] := by rw [hs] at e2; exact e2
  have e5 : U.heap[z]? = some c9 := e1
  rw [e5, h9, Array.getElem?_eq_getElem hz]
/-- 'throw new E()' before anything has been written -/
theorem sm_throw0 (hx : p.tables.exec = Jvm.exec) (hb : c.code = cc) (hl : l.stackTraces = false) {cls : String} {names : List String} {ik ic mc ms : Nat}
    (hown : s.vm.findClass own = some m.cls) (hcls : Bundle.fit cls = true) (hnames : ∀ n ∈ names, Bundle.fit n = true)
    (hk : (Cond.classLink own ik cls).before args s = true) (hini : (Cond.initialized cls).before args s = true) (hat : ∀ w ∈ Bundle.ownAtoms0 own ic cls names, w.before args s = true)
    (hP : va_P D cl wc s.heap) (hsize : ls.size = c.maxLocals)
    (d0 : decode cc pc = .ok (.new ik, 3)) (d3 : decode cc (pc + 3) = .ok (.dup, 1)) (d4 : decode cc (pc + 4) = .ok (.invokespecial ic, 3)) (d7 : decode cc (pc + 7) = .ok (.athrow, 1))
    (hout : ∀ x ∈ c.exceptionTable.toList, covers x (pc + 7) = false)
    (hRf : names.length + 3 < R.frames) (hRl : (rest.map fun v => v.category).sum + (13 * (names.length + 1) + 42) ≤ R.locals) (hRc : 0 + 1 ≤ R.cells) (hRs : 0 + 6 ≤ R.slots) (hlocks : meth.locks = false) (hc : 1 ≤ mc) (hs : 6 ≤ ms) :
    W p l e R s m args below meth c s.heap [] 0 0 (sm_MX below D cl wc cls s mc ms) (F0 m pc ls rest) := by
  intro T hT X
  have htr : e.platform.stackTraces = false := (show e.platform.stackTraces = l.stackTraces by rw [X.admits.platform]).trans hl
  have hins : (Cond.instantiable cls 6).before args s = true := hat _ (by simp [Bundle.ownAtoms0])
  obtain ⟨vm₁, cX, kX, hfX, hkX, -, -, X₁, st1⟩ := X.newCold hx (own := own) (C := cls) (index := ik) (n := 6) hown hk hins hini (g := F0 m pc ls rest) rfl (by rw [hb]; exact d0) hRc hRs
  generalize hT1 : (T.setVm vm₁).pushCell { cls := cX, slots := kX.instanceTypes.map defaultValue, vm := .none } = T1 at X₁ st1
  have hcat : (Value.ref T.heap.size).category = 1 := rfl
  have hcellA : T1.heap[T.heap.size]? = some (freshCell cX kX) := by rw [← hT1]; exact State.heap_pushCell_size _ _
  have d3' : decode c.code (pc + 3) = .ok (.dup, 1) := by rw [hb]; exact d3
  obtain ⟨U, hsteps, hrun, hend, hW, hsame, ce, hce, hO⟩ := X₁.ctorThrow0 hx htr (own := own) (cls := cls) (names := names) (ic := ic) hown hcls hnames hat (fun x hx => nomatch hx) hfX hkX hcellA (by rw [hT]; exact Nat.le_refl _)
    (g := { method := m, pc := pc + 4, locals := ls, stack := .ref T.heap.size :: .ref T.heap.size :: rest, locked := none }) rfl hsize rfl rfl (rest := rest) rfl
    (by rw [hb]; exact d4) (by rw [hb]; exact d7) hout hRf (by simp only [List.map_cons, List.sum_cons, hcat]; have : 2 * JFrame.monitorRoom { method := m, pc := pc + 4, locals := ls, stack := .ref T.heap.size :: .ref T.heap.size :: rest, locked := none } = 0 := rfl; omega) hlocks
  obtain ⟨f1, f2⟩ := sm_frame hsame
  refine ⟨U, ?_, .threw T.heap.size, hrun, hend, T.heap.size, ce, [], rfl, hce, hO.vm, hO.cls, hP.kept (fun k x hx => f2 x.1 ((hP k x hx).lt)), ⟨f1, fun z hz _ => f2 z hz⟩, hW, hsame.mono (by omega) (by omega), fun z hz => nomatch hz⟩
  refine st1 _ ?_
  show Steps p.tables e below (T1.setTop { method := m, pc := pc + 3, locals := ls, stack := .ref T.heap.size :: rest, locked := none }) _
  jvm_step X₁.here [X₁.here.top, hx, d3', Value.category]
  exact hsteps
end SMX
/-- a throwing contract out of the walk of a method's body -/
theorem sm_startX {l : Launch} {y : MethodName} {ws ws' : List Cond} {rm : Room} {D : va_G} {cl : List vw_C} {tys : List (ClassId × FieldType)} {av : List Value} {w0 : va_W} {E : String} {cc : ByteArray} {maxL : Nat} {ret : Option FieldType} {lv : List (Nat × Value)}
    (hy : plainName y.cls = true) (hw : ws = Cond.code y cc maxL ret :: ws') (hsl : (lg_sl av).length ≤ maxL) (hlv : lv_args 0 av = lv)
    (body : ∀ (p : Program) (e : Env) (s : State) (m : MethodId) (below : List Frame) (meth : Method) (c : Code), p.tables.exec = Jvm.exec → c.code = cc → meth.sig.returnType = ret → (∀ w ∈ ws, w.before av.toArray s = true) → s.vm.findClass y.cls = some m.cls → meth.locks = false → c.maxLocals = maxL → c.exceptionTable.toList = [] → sm_Z (va_A w0 s.heap.size) s s.heap →
      va_K D cl tys s → va_P D cl w0 s.heap → va_D (va_A w0 s.heap.size) w0 → va_S (va_A w0 s.heap.size) s.heap s.heap [] → (∀ q : Nat, s.heap.size ≤ q → va_A w0 s.heap.size q) → ∀ ls : Array Slot, lv_has ls maxL lv →
      W p l e rm s m av.toArray below meth c s.heap [] 0 0 (sm_MX below D cl w0 E s rm.cells rm.slots) (F0 m 0 ls [])) : sm_X l y ws rm D cl tys av w0 E := by
  subst hlv
  intro sz
  refine MetFree.of_bodyS (code := cc) (maxLocals := maxL) (ret := ret) hy ?_ ?_
  · intro args s m h hn
    obtain ⟨meth, c, h1, h2, h3, h4, h5, h6, -, -⟩ := Cond.code_spec hn (atoms_spec (ws := ws) h _ (by rw [hw]; exact List.mem_cons_self))
    exact ⟨meth, c, h1, h2, h3, h4, h5, h6⟩
  · intro p e s m args below meth c s₁ B hml hP _
    obtain ⟨rfl, ⟨hsz, hP, hK, hD0⟩, hZ⟩ := hP
    subst hsz
    have hh0 : s₁.heap = s.heap := by rw [B.state]; rfl
    have hts := atoms_spec (ws := ws) B.pre
    have X₀ := Stand.of_body B
    have hne : c.exceptionTable.toList = [] := by
      obtain ⟨meth', c', hm', hc', -, -, -, -, hempty, -⟩ := Cond.code_spec B.named (hts (Cond.code y cc maxL ret) (by rw [hw]; exact List.mem_cons_self))
      cases B.method.symm.trans hm'
      cases X₀.code.symm.trans hc'
      exact List.eq_nil_of_length_eq_zero (by simpa [Array.isEmpty] using hempty)
    have K := body p e s m below meth c B.exec B.bytes B.returns hts (findClass_of_methodNamed B.named) B.notSynchronized hml hne hZ hK hP (hD0.self) va_S.rf (fun q h => Or.inr h) _ (lv_entry av hsl)
    rw [← lg_entry_eq] at K
    obtain ⟨t, a1, o, b1, b2, b3⟩ := K s₁ hh0 X₀
    exact ⟨t, o, a1, b1, b2, b3⟩
end
section
/-! Integer.numberOfTrailingZeros and Integer.bitCount: the numbers behind their code -/
theorem sm_btn (x : Int32) (i : Nat) : bt x i = x.toBitVec.toNat.testBit i := rfl
theorem sm_odd {a : Nat} (h : a % 2 = 1) : ∀ j, (!a.testBit j && (a - 1).testBit j) = false
  | 0 => by
    rw [Nat.testBit_zero, Nat.testBit_zero]
    simp; omega
  | j + 1 => by
    rw [Nat.testBit_succ, Nat.testBit_succ, show (a - 1) / 2 = a / 2 by omega]
    simp
/-- the ones below a place -/
def sm_low (t : Nat) : Int32 := sm_mk (fun i => decide (i < t)) 32
theorem sm_ntz (x : Int32) : (x ^^^ (-1)) &&& (x - 1) = sm_low (sm_tz x) := by
  have hle := sm_tz_le x
  by_cases h32 : sm_tz x = 32
  · have h0 : x = 0 := b_ext fun i hi => by rw [sm_tz_lt (by omega), b_0]
    rw [h32, h0]
    decide +kernel
  · refine b_ext fun i hi => ?_
    rw [b_and, sm_bnot x hi]
    unfold sm_low
    rw [sm_mk32 _ hi]
    obtain ⟨t, ht⟩ : ∃ t, t = sm_tz x := ⟨_, rfl⟩
    have h1 : ∀ i, i < t → bt x i = false := fun i h => sm_tz_lt (by omega)
    have h2 : bt x t = true := by rw [ht]; exact sm_tz_at (by omega)
    rw [← ht]
    obtain ⟨N, hN⟩ : ∃ N, N = x.toBitVec.toNat := ⟨_, rfl⟩
    have hlt : N < 2 ^ 32 := by rw [hN]; exact x.toBitVec.isLt
    have b1 : ∀ i, i < t → N.testBit i = false := fun i h => by rw [hN]; exact h1 i h
    have b2 : N.testBit t = true := by rw [hN]; exact h2
    have hmod : N % 2 ^ t = 0 := Nat.eq_of_testBit_eq fun i => by
      rw [Nat.testBit_mod_two_pow, Nat.zero_testBit]
      by_cases h : i < t
      · rw [b1 i h]; simp
      · simp [h]
    obtain ⟨a, ha⟩ : ∃ a, N = 2 ^ t * a := ⟨N / 2 ^ t, by have := Nat.div_add_mod N (2 ^ t); omega⟩
    have hodd : a % 2 = 1 := by
      have h3 : N.testBit t = a.testBit 0 := by rw [ha, Nat.testBit_two_pow_mul]; simp
      rw [b2, Nat.testBit_zero] at h3
      simpa using h3.symm
    have hpos : 0 < 2 ^ t := Nat.two_pow_pos t
    have hsub : N - 1 = 2 ^ t * (a - 1) + (2 ^ t - 1) := by
      have h4 : 2 ^ t * a = 2 ^ t * (a - 1) + 2 ^ t := by rw [← Nat.mul_succ]; congr 1; omega
      omega
    have hN1 : 1 ≤ N := by
      have : 2 ^ t * 1 ≤ 2 ^ t * a := Nat.mul_le_mul_left _ (by omega)
      omega
    have hx1 : (x - 1).toBitVec.toNat = N - 1 := by
      rw [Int32.toBitVec_sub, BitVec.toNat_sub, ← hN]
      show (2 ^ 32 - 1 + N) % 2 ^ 32 = N - 1
      omega
    rw [sm_btn, sm_btn, hx1, ← hN, hsub, ha]
    by_cases h : i < t
    · rw [Nat.testBit_two_pow_mul_add _ (by omega), if_pos h, Nat.testBit_two_pow_sub_one, Nat.testBit_two_pow_mul]
      simp [h, Nat.not_le.mpr h]
    · rw [Nat.testBit_two_pow_mul_add _ (by omega), if_neg h, Nat.testBit_two_pow_mul]
      have := sm_odd hodd (i - t)
      simp only [show decide (i ≥ t) = true by simp; omega, Bool.true_and]
      rw [this]; simp [h]
/-! bitCount, a byte at a time -/
theorem sm_and256 {u w : Nat} (v z : Nat) (hu : u < 256) (hw : w < 256) : (u + 256 * v) &&& (w + 256 * z) = (u &&& w) + 256 * (v &&& z) := by
  have h1 : ((u + 256 * v) &&& (w + 256 * z)) % 256 = u &&& w := by
    rw [show (256 : Nat) = 2 ^ 8 from rfl, Nat.and_mod_two_pow, show (u + 2 ^ 8 * v) % 2 ^ 8 = u by omega, show (w + 2 ^ 8 * z) % 2 ^ 8 = w by omega]
  have h2 : ((u + 256 * v) &&& (w + 256 * z)) / 256 = v &&& z := by
    rw [show (256 : Nat) = 2 ^ 8 from rfl, Nat.and_div_two_pow, show (u + 2 ^ 8 * v) / 2 ^ 8 = v by omega, show (w + 2 ^ 8 * z) / 2 ^ 8 = z by omega]
  omega
def sm_g1 (n m : Nat) : Nat := n - ((n / 2) &&& m)
def sm_g2 (n m : Nat) : Nat := (n &&& m) + ((n / 4) &&& m)
def sm_g3 (n m : Nat) : Nat := (n + n / 16) &&& m
theorem sm_d1 : ∀ a, a < 256 → ∀ r, r < 2 → (a / 2 + 128 * r) &&& 85 = (a / 2) &&& 85 := by decide +kernel
theorem sm_d2 : ∀ a, a < 256 → ∀ r, r < 4 → (a / 4 + 64 * r) &&& 51 = (a / 4) &&& 51 := by decide +kernel
theorem sm_d3 : ∀ a, a < 69 → ∀ r, r < 5 → (a + a / 16 + 16 * r) &&& 15 = (a + a / 16) &&& 15 := by decide +kernel
theorem sm_s1 {a : Nat} (m M : Nat) (ha : a < 256) : sm_g1 (a + 256 * m) (85 + 256 * M) = sm_g1 a 85 + 256 * sm_g1 m M := by
  unfold sm_g1
  rw [show (a + 256 * m) / 2 = (a / 2 + 128 * (m % 2)) + 256 * (m / 2) by omega, sm_and256 _ _ (by omega) (by omega), sm_d1 a ha (m % 2) (by omega)]
  have h1 : (a / 2) &&& 85 ≤ a / 2 := Nat.and_le_left
  have h2 : (m / 2) &&& M ≤ m / 2 := Nat.and_le_left
  omega
theorem sm_s2 {a : Nat} (m M : Nat) (ha : a < 256) : sm_g2 (a + 256 * m) (51 + 256 * M) = sm_g2 a 51 + 256 * sm_g2 m M := by
  unfold sm_g2
  rw [show (a + 256 * m) / 4 = (a / 4 + 64 * (m % 4)) + 256 * (m / 4) by omega, sm_and256 _ _ ha (by omega), sm_and256 _ _ (by omega) (by omega), sm_d2 a ha (m % 4) (by omega)]
  omega
theorem sm_s3 {a : Nat} (m M : Nat) (ha : a < 69) (hm : m % 16 < 5) : sm_g3 (a + 256 * m) (15 + 256 * M) = sm_g3 a 15 + 256 * sm_g3 m M := by
  unfold sm_g3
  rw [show a + 256 * m + (a + 256 * m) / 16 = (a + a / 16 + 16 * (m % 16)) + 256 * (m + m / 16) by omega, sm_and256 _ _ (by omega) (by omega), sm_d3 a ha (m % 16) hm]
theorem sm_e1 : ∀ a, a < 256 → sm_g1 a 85 < 256 ∧ sm_g2 (sm_g1 a 85) 51 < 69 ∧ sm_g2 (sm_g1 a 85) 51 % 16 < 5 ∧ sm_g3 (sm_g2 (sm_g1 a 85) 51) 15 = sm_pc (fun i => a.testBit i) 8 := by decide +kernel
theorem sm_nat (x : Int32) : x = nI x.toBitVec.toNat := by
  apply Int32.toBitVec_inj.1
  show x.toBitVec = BitVec.ofNat 32 x.toBitVec.toNat
  simp
theorem sm_ands (a b : Nat) : nI a &&& nI b = nI (a &&& b) := by
  apply Int32.toBitVec_inj.1
  show BitVec.ofNat 32 a &&& BitVec.ofNat 32 b = BitVec.ofNat 32 (a &&& b)
  apply BitVec.eq_of_getLsbD_eq
  intro i hi
  simp [hi]
theorem sm_pc8 (x : Int32) (k : Nat) : sm_pc (fun i => bt x (8 * k + i)) 8 = sm_pc (fun i => (x.toBitVec.toNat / 2 ^ (8 * k) % 256).testBit i) 8 := by
  refine sm_pc_eq 8 fun i hi => ?_
  rw [sm_btn, show (256 : Nat) = 2 ^ 8 from rfl, Nat.testBit_mod_two_pow, Nat.testBit_div_two_pow]
  simp [hi, Nat.add_comm]
theorem sm_pc32 (x : Int32) : sm_pc (bt x) 32 = sm_pc (fun i => bt x (8 * 0 + i)) 8 + sm_pc (fun i => bt x (8 * 1 + i)) 8 + sm_pc (fun i => bt x (8 * 2 + i)) 8 + sm_pc (fun i => bt x (8 * 3 + i)) 8 := by
  have e1 := sm_pc_add (bt x) 24 8
  have e2 := sm_pc_add (bt x) 16 8
  have e3 := sm_pc_add (bt x) 8 8
  have e4 : sm_pc (fun i => bt x (8 * 0 + i)) 8 = sm_pc (bt x) 8 := sm_pc_eq 8 fun i _ => by rw [Nat.mul_zero, Nat.zero_add]
  rw [e4]
  show sm_pc (bt x) (24 + 8) = _
  rw [e1]
  show sm_pc (bt x) (16 + 8) + _ = _
  rw [e2]
  show sm_pc (bt x) (8 + 8) + _ + _ = _
  rw [e3]
/-- what bitCount's code computes -/
def sm_bc (x : Int32) : Int32 :=
  let i1 := x - (sm_ushr x 1 &&& 1431655765)
  let i2 := (i1 &&& 858993459) + (sm_ushr i1 2 &&& 858993459)
  let i3 := (i2 + sm_ushr i2 4) &&& 252645135
  let i4 := i3 + sm_ushr i3 8
  let i5 := i4 + sm_ushr i4 16
  i5 &&& 63
theorem sm_un {n : Nat} (hn : n < 2 ^ 32) (s : Int32) (k : Nat) (hs : ((s.toUInt32 &&& Int32.toUInt32 31).toBitVec % 32).toNat = k) : sm_ushr (nI n) s = nI (n / 2 ^ k) := pk_ushrN hn s k hs
theorem sm_bc_eq (x : Int32) : sm_bc x = nI (sm_pc (bt x) 32) := by
  obtain ⟨N, hN⟩ : ∃ N, N = x.toBitVec.toNat := ⟨_, rfl⟩
  have hlt : N < 2 ^ 32 := by rw [hN]; exact x.toBitVec.isLt
  rw [sm_pc32, sm_pc8, sm_pc8, sm_pc8, sm_pc8, ← hN]
  have hx : x = nI N := by rw [hN]; exact sm_nat x
  rw [hx]
  clear hx hN
  obtain ⟨a, ha⟩ : ∃ a, a = N / 2 ^ (8 * 0) % 256 := ⟨_, rfl⟩
  obtain ⟨b, hb⟩ : ∃ b, b = N / 2 ^ (8 * 1) % 256 := ⟨_, rfl⟩
  obtain ⟨c, hc⟩ : ∃ c, c = N / 2 ^ (8 * 2) % 256 := ⟨_, rfl⟩
  obtain ⟨d, hd⟩ : ∃ d, d = N / 2 ^ (8 * 3) % 256 := ⟨_, rfl⟩
  rw [← ha, ← hb, ← hc, ← hd]
  have hNe : N = a + 256 * (b + 256 * (c + 256 * d)) := by
    simp only [Nat.reduceMul, Nat.reducePow] at ha hb hc hd hlt
    omega
  have la : a < 256 := by rw [ha]; exact Nat.mod_lt _ (by decide)
  have lb : b < 256 := by rw [hb]; exact Nat.mod_lt _ (by decide)
  have lc : c < 256 := by rw [hc]; exact Nat.mod_lt _ (by decide)
  have ld : d < 256 := by rw [hd]; exact Nat.mod_lt _ (by decide)
  clear ha hb hc hd
  obtain ⟨a1, a2, a3, a4⟩ := sm_e1 a la
  obtain ⟨b1, b2, b3, b4⟩ := sm_e1 b lb
  obtain ⟨c1, c2, c3, c4⟩ := sm_e1 c lc
  obtain ⟨d1, d2, d3, d4⟩ := sm_e1 d ld
  have q1 : sm_g1 N 1431655765 = sm_g1 a 85 + 256 * (sm_g1 b 85 + 256 * (sm_g1 c 85 + 256 * sm_g1 d 85)) := by
    rw [hNe, show (1431655765 : Nat) = 85 + 256 * (85 + 256 * (85 + 256 * 85)) from rfl, sm_s1 _ _ la, sm_s1 _ _ lb, sm_s1 _ _ lc]
  have q2 : sm_g2 (sm_g1 N 1431655765) 858993459 = sm_g2 (sm_g1 a 85) 51 + 256 * (sm_g2 (sm_g1 b 85) 51 + 256 * (sm_g2 (sm_g1 c 85) 51 + 256 * sm_g2 (sm_g1 d 85) 51)) := by
    rw [q1, show (858993459 : Nat) = 51 + 256 * (51 + 256 * (51 + 256 * 51)) from rfl, sm_s2 _ _ a1, sm_s2 _ _ b1, sm_s2 _ _ c1]
  have q3 : sm_g3 (sm_g2 (sm_g1 N 1431655765) 858993459) 252645135 = sm_pc (fun i => a.testBit i) 8 + 256 * (sm_pc (fun i => b.testBit i) 8 + 256 * (sm_pc (fun i => c.testBit i) 8 + 256 * sm_pc (fun i => d.testBit i) 8)) := by
    rw [q2, show (252645135 : Nat) = 15 + 256 * (15 + 256 * (15 + 256 * 15)) from rfl, sm_s3 _ _ a2 (by omega), sm_s3 _ _ b2 (by omega), sm_s3 _ _ c2 d3, a4, b4, c4, d4]
  have p1 := sm_pc_le (fun i => a.testBit i) 8
  have p2 := sm_pc_le (fun i => b.testBit i) 8
  have p3 := sm_pc_le (fun i => c.testBit i) 8
  have p4 := sm_pc_le (fun i => d.testBit i) 8
  have l1 : sm_g1 N 1431655765 < 2 ^ 32 := by rw [q1]; have := (sm_e1 d ld).1; omega
  have l2 : sm_g2 (sm_g1 N 1431655765) 858993459 < 2 ^ 32 := by rw [q2]; omega
  have le1 : (N / 2) &&& 1431655765 ≤ N := Nat.le_trans Nat.and_le_left (Nat.div_le_self _ _)
  have i1 : nI N - (sm_ushr (nI N) 1 &&& 1431655765) = nI (sm_g1 N 1431655765) := by
    rw [sm_un hlt 1 1 (by decide +kernel), show (1431655765 : Int32) = nI 1431655765 from rfl, sm_ands, pk_sub le1]
    rfl
  have i2 : (nI (sm_g1 N 1431655765) &&& 858993459) + (sm_ushr (nI (sm_g1 N 1431655765)) 2 &&& 858993459) = nI (sm_g2 (sm_g1 N 1431655765) 858993459) := by
    rw [sm_un l1 2 2 (by decide +kernel), show (858993459 : Int32) = nI 858993459 from rfl, sm_ands, sm_ands, nI_add]
    rfl
  have i3 : (nI (sm_g2 (sm_g1 N 1431655765) 858993459) + sm_ushr (nI (sm_g2 (sm_g1 N 1431655765) 858993459)) 4) &&& 252645135 = nI (sm_g3 (sm_g2 (sm_g1 N 1431655765) 858993459) 252645135) := by
    rw [sm_un l2 4 4 (by decide +kernel), show (252645135 : Int32) = nI 252645135 from rfl, nI_add, sm_ands]
    rfl
  obtain ⟨A, hA⟩ : ∃ A, A = sm_pc (fun i => a.testBit i) 8 := ⟨_, rfl⟩
  obtain ⟨B, hB⟩ : ∃ B, B = sm_pc (fun i => b.testBit i) 8 := ⟨_, rfl⟩
  obtain ⟨C, hC⟩ : ∃ C, C = sm_pc (fun i => c.testBit i) 8 := ⟨_, rfl⟩
  obtain ⟨D, hD⟩ : ∃ D, D = sm_pc (fun i => d.testBit i) 8 := ⟨_, rfl⟩
  rw [← hA] at p1 q3 ⊢
  rw [← hB] at p2 q3 ⊢
  rw [← hC] at p3 q3 ⊢
  rw [← hD] at p4 q3 ⊢
  show ((_ + sm_ushr _ 8) + sm_ushr (_ + sm_ushr _ 8) 16) &&& 63 = _
  unfold sm_bc
  simp only [i1, i2, i3]
  rw [q3]
  generalize hM : A + 256 * (B + 256 * (C + 256 * D)) = M
  have lM : M < 2 ^ 32 := by omega
  rw [sm_un lM 8 8 (by decide +kernel), nI_add, sm_un (by omega) 16 16 (by decide +kernel), nI_add, show (63 : Int32) = nI (2 ^ 6 - 1) from rfl, sm_ands, Nat.and_two_pow_sub_one_eq_mod]
  congr 1
  omega
end
section
/-! ends of what a word can be; the two orders -/
theorem sm_ors (a b : Nat) : nI a ||| nI b = nI (a ||| b) := by
  apply Int32.toBitVec_inj.1
  show BitVec.ofNat 32 a ||| BitVec.ofNat 32 b = BitVec.ofNat 32 (a ||| b)
  apply BitVec.eq_of_getLsbD_eq
  intro i hi
  simp [hi]
def sm_na (g : Nat → Bool) : Nat → Nat
  | 0 => 0
  | k + 1 => if g k then sm_na g k + 2 ^ k else sm_na g k
theorem sm_na_lt (g : Nat → Bool) : ∀ k, sm_na g k < 2 ^ k
  | 0 => by show 0 < 1; omega
  | k + 1 => by
    have := sm_na_lt g k
    unfold sm_na
    rw [Nat.pow_succ]
    split <;> omega
theorem sm_p2 : ∀ k, k < 32 → (1 : Int32) <<< (nI k &&& 31) = nI (2 ^ k) := by decide +kernel
theorem sm_p2l : ∀ k, k < 32 → sm_lshl 1 (nI k) = lN (2 ^ k) := by decide +kernel
theorem sm_mk_na (g : Nat → Bool) : ∀ k, k ≤ 32 → sm_mk g k = nI (sm_na g k)
  | 0, _ => by decide +kernel
  | k + 1, h => by
    have hl := sm_na_lt g k
    have e : sm_na g k ||| 2 ^ k = sm_na g k + 2 ^ k := by
      have := Nat.two_pow_add_eq_or_of_lt hl 1
      rw [Nat.mul_one] at this
      rw [Nat.or_comm, ← this, Nat.add_comm]
    unfold sm_mk sm_na
    split
    · rw [sm_mk_na g k (by omega), sm_p2 k (by omega), sm_ors, e]
    · exact sm_mk_na g k (by omega)
theorem sm_nIn {n : Nat} (h : n < 2 ^ 32) : (nI n).toBitVec.toNat = n := pk_tn h
/-- the sum that 'end' makes -/
def sm_en (g : Nat → Bool) (sg : Bool) : Nat → Int64
  | 0 => 0
  | k + 1 => if g k then sm_en g sg k + (if sg && decide (k = 31) then -(sm_lshl 1 (nI k)) else sm_lshl 1 (nI k)) else sm_en g sg k
theorem sm_en_na (g : Nat → Bool) (sg : Bool) : ∀ k, k ≤ 32 → (sg = true → k ≤ 31) → sm_en g sg k = lN (sm_na g k)
  | 0, _, _ => by show (0 : Int64) = lN 0; decide +kernel
  | k + 1, h, hs => by
    have ih := sm_en_na g sg k (by omega) (fun z => by have := hs z; omega)
    unfold sm_en sm_na
    have hc : (sg && decide (k = 31)) = false := by
      cases sg
      · rfl
      · have := hs rfl
        simp; omega
    rw [hc, ih, sm_p2l k (by omega)]
    simp only [Bool.false_eq_true, if_false]
    split
    · rw [lN_add]
    · rfl
theorem sm_en_u (g : Nat → Bool) : sm_en g false 32 = lN (sm_mk g 32).toBitVec.toNat := by
  rw [sm_en_na g false 32 (Nat.le_refl _) (fun z => by cases z), sm_mk_na g 32 (Nat.le_refl _), sm_nIn (sm_na_lt g 32)]
theorem sm_lNt {n : Nat} (h : n < 2 ^ 63) : (lN n).toInt = (n : Int) := pk_lT h
theorem sm_en_s (g : Nat → Bool) : sm_en g true 32 = (sm_mk g 32).toInt64 := by
  have ih := sm_en_na g true 31 (by omega) (fun _ => Nat.le_refl _)
  have hl := sm_na_lt g 31
  have hm := sm_mk_na g 32 (Nat.le_refl _)
  have e1 : sm_en g true 32 = if g 31 then sm_en g true 31 + (if true && decide (31 = 31) then -(sm_lshl 1 (nI 31)) else sm_lshl 1 (nI 31)) else sm_en g true 31 := rfl
  have e2 : sm_na g 32 = if g 31 then sm_na g 31 + 2 ^ 31 else sm_na g 31 := rfl
  rw [e1, hm, e2, ih]
  simp only [decide_true, Bool.and_self, if_true]
  generalize sm_na g 31 = n at hl
  by_cases hg : g 31
  · rw [if_pos hg, if_pos hg]
    apply Int64.toInt_inj.1
    rw [Int32.toInt_toInt64, sm_p2l 31 (by omega), Int64.toInt_add, Int64.toInt_neg, sm_lNt (by omega), sm_lNt (by omega)]
    have h3 : (nI (n + 2 ^ 31)).toInt = (n : Int) - 2 ^ 31 := by
      show (Int32.ofNat (n + 2 ^ 31)).toInt = _
      rw [Int32.toInt_ofNat]
      simp only [Int.bmod]
      omega
    rw [h3]
    simp only [Int.bmod]
    omega
  · rw [if_neg hg, if_neg hg]
    exact (nI_l (by omega)).symm
/-- what a bit is at an end -/
def sm_one (v n : Int32) (gr sg : Bool) (k : Nat) : Bool := if bt n k then (gr != (sg && decide (k = 31))) else bt v k
theorem sm_bmin (i : Nat) (hi : i < 32) : bt (-2147483648) i = decide (i = 31) := (by decide +kernel : ∀ i, i < 32 → bt (-2147483648) i = decide (i = 31)) i hi
theorem sm_bmax (i : Nat) (hi : i < 32) : bt 2147483647 i = decide (i < 31) := (by decide +kernel : ∀ i, i < 32 → bt 2147483647 i = decide (i < 31)) i hi
def sm_le (v n : Int32) : Int32 := (v &&& (n ^^^ (-1))) ||| (n &&& (-2147483648))
def sm_he (v n : Int32) : Int32 := (v &&& (n ^^^ (-1))) ||| (n &&& 2147483647)
theorem sm_le_b (v n : Int32) {i : Nat} (hi : i < 32) : bt (sm_le v n) i = sm_one v n false true i := by
  unfold sm_le sm_one
  rw [b_or, b_and, sm_bnot n hi, b_and, sm_bmin i hi]
  cases bt v i <;> cases bt n i <;> by_cases h : i = 31 <;> simp [h]
theorem sm_he_b (v n : Int32) {i : Nat} (hi : i < 32) : bt (sm_he v n) i = sm_one v n true true i := by
  unfold sm_he sm_one
  rw [b_or, b_and, sm_bnot n hi, b_and, sm_bmax i hi]
  cases bt v i <;> cases bt n i <;> by_cases h : i = 31 <;> simp [h] <;> omega
theorem sm_mk_le (v n : Int32) : sm_mk (sm_one v n false true) 32 = sm_le v n := sm_mkx fun i hi => (sm_le_b v n hi).symm
theorem sm_mk_he (v n : Int32) : sm_mk (sm_one v n true true) 32 = sm_he v n := sm_mkx fun i hi => (sm_he_b v n hi).symm
/-- without sign: the ends with the sign turned over -/
theorem sm_mk_ul (v n : Int32) : sm_mk (sm_one v n false false) 32 = sm_le (v ^^^ (-2147483648)) n ^^^ (-2147483648) := sm_mkx fun i hi => by
  rw [b_xor, sm_le_b _ n hi, sm_bmin i hi]
  unfold sm_one
  rw [b_xor, sm_bmin i hi]
  cases bt v i <;> cases bt n i <;> by_cases h : i = 31 <;> simp [h]
theorem sm_mk_uh (v n : Int32) : sm_mk (sm_one v n true false) 32 = sm_he (v ^^^ (-2147483648)) n ^^^ (-2147483648) := sm_mkx fun i hi => by
  rw [b_xor, sm_he_b _ n hi, sm_bmin i hi]
  unfold sm_one
  rw [b_xor, sm_bmin i hi]
  cases bt v i <;> cases bt n i <;> by_cases h : i = 31 <;> simp [h]
theorem sm_lt64 (x y : Int32) : x.toInt64 < y.toInt64 ↔ x < y := by
  rw [Int64.lt_iff_toInt_lt, Int32.toInt_toInt64, Int32.toInt_toInt64, Int32.lt_iff_toInt_lt]
theorem sm_sgn (x : Int32) : (x ^^^ (-2147483648)).toInt = (x.toBitVec.toNat : Int) - 2 ^ 31 := by
  have hx : x = nI x.toBitVec.toNat := sm_nat x
  have hlt := x.toBitVec.isLt
  generalize x.toBitVec.toNat = n at hx hlt
  subst hx
  have e : nI n ^^^ (-2147483648) = nI (n + 2 ^ 31) := by
    apply Int32.toBitVec_inj.1
    show BitVec.ofNat 32 n ^^^ (2147483648#32) = BitVec.ofNat 32 (n + 2 ^ 31)
    have : ∀ z : BitVec 32, z ^^^ 2147483648#32 = z + 2147483648#32 := fun z => by
      rw [show (2147483648#32 : BitVec 32) = BitVec.intMin 32 from by decide]
      exact (BitVec.add_intMin_eq_xor_intMin ..).symm
    rw [this, BitVec.ofNat_add]
    rfl
  rw [e]
  show (Int32.ofNat (n + 2 ^ 31)).toInt = _
  rw [Int32.toInt_ofNat]
  simp only [Int.bmod]
  omega
theorem sm_ult (x y : Int32) : lN (x ^^^ (-2147483648)).toBitVec.toNat < lN (y ^^^ (-2147483648)).toBitVec.toNat ↔ x < y := by
  have e : ∀ z : Int32, z ^^^ (-2147483648) ^^^ (-2147483648) = z := fun z => b_ext fun i hi => by rw [b_xor, b_xor]; simp
  have h1 := sm_sgn (x ^^^ (-2147483648))
  have h2 := sm_sgn (y ^^^ (-2147483648))
  have l1 := (x ^^^ (-2147483648)).toBitVec.isLt
  have l2 := (y ^^^ (-2147483648)).toBitVec.isLt
  rw [e] at h1 h2
  rw [pk_lLT (by omega) (by omega), Int32.lt_iff_toInt_lt, h1, h2]
  omega
end
section
/-! small rows that the walks ask for -/
theorem sm_inc (k : Nat) : nI k + Int32.ofInt 1 = nI (k + 1) := by rw [nI_succ]; rfl
theorem sm_cl (f : Nat → Int32) {n : Nat} (h : n < 2 ^ 31) : f (nI n).toNatClampNeg = f n := by rw [nI_clamp h]
theorem sm_fillS0 (f : Nat → Int32) (g : Nat → Bool) (k : Nat) : upd (sm_fill f g 0 k) k (sm_bI (g k)) = sm_fill f g 0 (k + 1) := by
  have h := sm_fillS f g 0 k
  rwa [Nat.zero_add] at h
theorem sm_orf {i c : Int32} (hi : i < 0 ∨ c ≤ i) (h : ¬ i < 0) : ¬ i < c := by
  rcases hi with h1 | h1
  · exact absurd h1 h
  · rw [Int32.lt_iff_toInt_lt]; rw [Int32.le_iff_toInt_le] at h1; omega
theorem sm_b1f {b : Bool} (h : ¬ sm_bI b = 1) : sm_bI b = 0 := by cases b <;> first | rfl | exact absurd rfl h
theorem sm_bn0 {b : Bool} (h : b = false) : sm_bI b = 0 := by subst h; rfl
theorem sm_bn1 {b : Bool} (h : b = true) : ¬ sm_bI b = 0 := by subst h; decide
theorem sm_mk_t {g : Nat → Bool} {k : Nat} (h : g k = true) : sm_mk g k ||| (1 : Int32) <<< (nI k &&& 31) = sm_mk g (k + 1) := by rw [sm_mk, if_pos h]
theorem sm_mk_n {g : Nat → Bool} {k : Nat} (h : g k = false) : sm_mk g (k + 1) = sm_mk g k := by rw [sm_mk, if_neg (by rw [h]; decide)]
theorem sm_mk_f : sm_mk (fun _ => false) 32 = 0 := sm_mkx fun i _ => (b_0 i).symm
theorem sm_pc_n {g : Nat → Bool} {k : Nat} (h : g k = false) : sm_pc g (k + 1) = sm_pc g k := by rw [sm_pc, if_neg (by rw [h]; decide)]
theorem sm_pcI {g : Nat → Bool} {k : Nat} (h : g k = true) : nI (sm_pc g k) + Int32.ofInt 1 = nI (sm_pc g (k + 1)) := by rw [sm_pc, if_pos h]; exact sm_inc _
theorem sm_en_n {g : Nat → Bool} {sg : Bool} {k : Nat} (h : g k = false) : sm_en g sg (k + 1) = sm_en g sg k := by rw [sm_en, if_neg (by rw [h]; decide)]
theorem sm_en_t1 {g : Nat → Bool} {sg : Bool} {k : Nat} (h : g k = true) (h2 : (sg && decide (k = 31)) = true) : sm_en g sg (k + 1) = sm_en g sg k + (-(sm_lshl 1 (nI k))) := by rw [sm_en, if_pos h, if_pos h2]
theorem sm_en_t0 {g : Nat → Bool} {sg : Bool} {k : Nat} (h : g k = true) (h2 : (sg && decide (k = 31)) = false) : sm_en g sg (k + 1) = sm_en g sg k + sm_lshl 1 (nI k) := by rw [sm_en, if_pos h, if_neg (by rw [h2]; decide)]
theorem sm_lt32 {n : Nat} (hn : n < 2 ^ 31) (h : nI n < 32) : n < 32 := (nI_ltI hn (by decide)).mp (show nI n < nI 32 from h)
theorem sm_le32 {n : Nat} (hn : n < 2 ^ 31) (h : ¬ nI n < 32) : 32 ≤ n := Nat.not_lt.mp fun z => h (show nI n < nI 32 from (nI_ltI hn (by decide)).mpr z)
theorem sm_nle32 {t : Nat} (ht : t ≤ 32) (h : ¬ (32 : Int32) ≤ nI t) : t < 32 := by
  rcases Nat.lt_or_ge t 32 with h1 | h1
  · exact h1
  · exact absurd (show nI 32 ≤ nI t from nI_le h1 (by omega)) h
theorem sm_frt {n k : Nat} (hn : n < 2 ^ 31) (hk : k < 32) (h : ¬ nI k < nI n) : (1 : Int32) = sm_bI (decide (n ≤ k)) := by
  rw [decide_eq_true (Nat.not_lt.mp fun z => h ((nI_ltI (by omega) hn).mpr z))]; rfl
theorem sm_frf {n k : Nat} (hn : n < 2 ^ 31) (hk : k < 32) (h : nI k < nI n) : (0 : Int32) = sm_bI (decide (n ≤ k)) := by
  have := (nI_ltI (by omega) hn).mp h
  rw [decide_eq_false (by omega)]; rfl
theorem sm_orb {x y : Int32} {k : Nat} (h : k < sm_tz (x ||| y)) : bt x k = false ∧ bt y k = false := by
  have := sm_tz_lt h
  rw [b_or] at this
  simpa using this
theorem sm_ora {x y : Int32} (h : sm_tz (x ||| y) < 32) (h2 : bt y (sm_tz (x ||| y)) = false) : bt x (sm_tz (x ||| y)) = true := by
  have := sm_tz_at h
  rw [b_or, h2] at this
  simpa using this
theorem sm_and1 (x : Int32) : x &&& 1 = sm_bI (bt x 0) := b_ext fun i hi => by
  rw [b_and, sm_b1, sm_bbI]
  by_cases h : i = 0
  · subst h; simp
  · simp [h]
theorem sm_ej1 {sg : Bool} (k : Nat) (hk : k < 32) (h1 : sg = true) (h2 : nI k = 31) : (1 : Int32) = sm_bI (sg && decide (k = 31)) := by
  have : k = 31 := (nI_eq (by omega) (by decide)).mp (show nI k = nI 31 from h2)
  rw [h1, this]; decide
theorem sm_ej2 {sg : Bool} (k : Nat) (hk : k < 32) (h2 : ¬ nI k = 31) : (0 : Int32) = sm_bI (sg && decide (k = 31)) := by
  have : ¬ k = 31 := fun z => h2 (by rw [z]; rfl)
  rw [decide_eq_false this]; simp [sm_bI]
theorem sm_ej3 {v n : Int32} {gr sg : Bool} {k : Nat} (h1 : bt n k = true) (h2 : ¬ sm_bI gr = sm_bI (sg && decide (k = 31))) : (1 : Int32) = sm_bI (sm_one v n gr sg k) := by
  unfold sm_one
  rw [if_pos h1]
  revert h2
  cases gr <;> cases (sg && decide (k = 31)) <;> intro h2 <;> first | rfl | exact absurd rfl h2
theorem sm_ej4 {v n : Int32} {gr sg : Bool} {k : Nat} (h1 : bt n k = true) (h2 : sm_bI gr = sm_bI (sg && decide (k = 31))) : (0 : Int32) = sm_bI (sm_one v n gr sg k) := by
  unfold sm_one
  rw [if_pos h1]
  revert h2
  cases gr <;> cases (sg && decide (k = 31)) <;> intro h2 <;> first | rfl | exact absurd h2 (by decide)
theorem sm_ej5 {v n : Int32} {gr sg : Bool} {k : Nat} (h1 : bt n k = false) : sm_bI (bt v k) = sm_bI (sm_one v n gr sg k) := by
  unfold sm_one
  rw [if_neg (by rw [h1]; decide)]
theorem sm_l2i (x : Int32) : x.toInt64.toInt32 = x := by
  apply Int32.toBitVec_inj.1
  show (x.toBitVec.signExtend 64).setWidth 32 = x.toBitVec
  apply BitVec.eq_of_getLsbD_eq
  intro i hi
  simp [BitVec.getLsbD_signExtend, hi]
  omega
theorem sm_endl (v n : Int32) : (sm_en (sm_one v n false true) true 32).toInt32 = sm_le v n := by rw [sm_en_s, sm_l2i, sm_mk_le]
theorem sm_endh (v n : Int32) : (sm_en (sm_one v n true true) true 32).toInt32 = sm_he v n := by rw [sm_en_s, sm_l2i, sm_mk_he]
def sm_min (p q : Nat) : Nat := if q < p then q else p
theorem sm_minI (p q : Nat) (hp : p < 2 ^ 31) (hq : q < 2 ^ 31) : (if nI q < nI p then nI q else nI p) = nI (sm_min p q) := by
  unfold sm_min
  by_cases h : q < p
  · rw [if_pos h, if_pos ((nI_ltI hq hp).mpr h)]
  · rw [if_neg h, if_neg (fun z => h ((nI_ltI hq hp).mp z))]
/-- an octet with its shadow, bit by bit -/
def sm_oc (x : Int32) : Nat → Int32
  | 0 => 0
  | k + 1 => sm_oc x k + ((if bt x k then (1 : Int32) <<< (nI k &&& 31) else 0) + (if bt x (8 + k) then (256 : Int32) <<< (nI k &&& 31) else 0))
theorem sm_p256 : ∀ k, k < 8 → (256 : Int32) <<< (nI k &&& 31) = nI (256 * 2 ^ k) := by decide +kernel
theorem sm_oc_na (x : Int32) : ∀ k, k ≤ 8 → sm_oc x k = nI (sm_na (bt x) k + 256 * sm_na (fun i => bt x (8 + i)) k)
  | 0, _ => by decide +kernel
  | k + 1, h => by
    rw [sm_oc, sm_oc_na x k (by omega), sm_p2 k (by omega), sm_p256 k (by omega), sm_na, sm_na]
    split <;> split <;> (try rw [show (0 : Int32) = nI 0 from rfl]) <;> rw [nI_add, nI_add] <;> congr 1 <;> omega
theorem sm_na_mod (n : Nat) : ∀ k, sm_na (fun i => n.testBit i) k = n % 2 ^ k
  | 0 => by rw [Nat.pow_zero, Nat.mod_one]; rfl
  | k + 1 => by
    rw [sm_na, sm_na_mod n k, Nat.mod_two_pow_succ]
    cases h : n.testBit k <;> simp
theorem sm_na_eq {g h : Nat → Bool} : ∀ k, (∀ i, i < k → g i = h i) → sm_na g k = sm_na h k
  | 0, _ => rfl
  | k + 1, hh => by rw [sm_na, sm_na, hh k (by omega), sm_na_eq k (fun i hi => hh i (by omega))]
theorem sm_oc8 {x : Int32} (h : x = x &&& 65535) : sm_oc x 8 = x := by
  have hx : x = nI x.toBitVec.toNat := sm_nat x
  have hlt : x.toBitVec.toNat < 65536 := by
    rw [h, Int32.toBitVec_and, BitVec.toNat_and]
    exact Nat.lt_of_le_of_lt Nat.and_le_right (by decide)
  rw [sm_oc_na x 8 (Nat.le_refl _)]
  have e1 : sm_na (bt x) 8 = x.toBitVec.toNat % 2 ^ 8 := sm_na_mod _ 8
  have e2 : sm_na (fun i => bt x (8 + i)) 8 = x.toBitVec.toNat / 2 ^ 8 % 2 ^ 8 := by
    rw [← sm_na_mod]
    exact sm_na_eq 8 fun i _ => by rw [sm_btn, Nat.testBit_div_two_pow, Nat.add_comm]
  rw [e1, e2]
  conv => rhs; rw [hx]
  congr 1
  omega
end
section
/-! rows that the reference's op asks for -/
theorem sm_shb5 {n : Nat} (hn : n < 32) (x : Int32) (i : Nat) (hi : i < 32) : (decide (n ≤ i) && bt x (i - n)) = bt (x <<< (nI n &&& 31)) i := (b_shl n hn x hi).symm
theorem sm_shb6 {n : Nat} (hn : n < 32) (x : Int32) (i : Nat) (_ : i < 32) : bt x (n + i) = bt (sm_ushr x (nI n)) i := (b_ushr n hn x i).symm
theorem sm_shb7 {n : Nat} (hn : n < 32) (x : Int32) (i : Nat) (hi : i < 32) : (if n + i < 32 then bt x (n + i) else bt x 31) = bt (x >>> (nI n &&& 31)) i := (b_sshr n hn x hi).symm
theorem sm_shz {x : Int32} {n : Nat} (h : 32 ≤ n) : (0 : Int32) = sm_bI (bt x n) := by rw [b_big h]; rfl
theorem sm_fr_all : sm_fr 0 = -1 := b_ext fun i hi => by rw [sm_fr_b 0 hi, b_m1 i hi]; simp
def sm_kn (g : Nat → Bool) : Nat → Bool
  | 0 => true
  | k + 1 => if g k then false else sm_kn g k
theorem sm_kn_t {g : Nat → Bool} {k : Nat} (h : g k = true) : sm_kn g (k + 1) = false := by rw [sm_kn, if_pos h]
theorem sm_kn_n {g : Nat → Bool} {k : Nat} (h : g k = false) : sm_kn g (k + 1) = sm_kn g k := by rw [sm_kn, if_neg (by rw [h]; decide)]
theorem sm_kn_iff (g : Nat → Bool) : ∀ n, sm_kn g n = true ↔ ∀ i, i < n → g i = false
  | 0 => by simp [sm_kn]
  | n + 1 => by
    rw [sm_kn]
    by_cases h : g n
    · rw [if_pos h]
      constructor
      · intro z; cases z
      · intro z; have := z n (by omega); rw [h] at this; cases this
    · rw [if_neg h, sm_kn_iff g n]
      constructor
      · intro z i hi
        by_cases h2 : i = n
        · subst h2; simpa using h
        · exact z i (by omega)
      · intro z i hi; exact z i (by omega)
theorem sm_b31 (i : Nat) : bt 31 i = decide (i < 5) := by
  rcases Nat.lt_or_ge i 32 with h | h
  · exact (by decide +kernel : ∀ i, i < 32 → bt 31 i = decide (i < 5)) i h
  · rw [b_big h, decide_eq_false (by omega)]
theorem sm_and31 {x : Int32} : x &&& 31 = 0 ↔ ∀ i, i < 5 → bt x i = false := by
  constructor
  · intro h i hi
    have h1 : bt (x &&& 31) i = false := by rw [h, b_0]
    rw [b_and, sm_b31, decide_eq_true hi, Bool.and_true] at h1
    exact h1
  · intro h
    refine b_ext fun i _ => ?_
    rw [b_and, sm_b31, b_0]
    by_cases hi : i < 5
    · rw [h i hi]; rfl
    · simp [hi]
theorem sm_kn5 {x : Int32} (h : sm_kn (bt x) 5 = true) : x &&& 31 = 0 := sm_and31.mpr ((sm_kn_iff _ 5).mp h)
theorem sm_kn5n {x : Int32} (h : sm_kn (bt x) 5 = false) : ¬ x &&& 31 = 0 := fun z => by
  rw [(sm_kn_iff _ 5).mpr (sm_and31.mp z)] at h; cases h
theorem sm_chv (x y z : Int32) (i : Nat) (_ : i < 32) : (if bt y 0 then bt x i else bt z i) = bt (if bt y 0 then x else z) i := by split <;> rfl
theorem sm_chs (x y z nx ny nz : Int32) (i : Nat) (_ : i < 32) : (if bt ny 0 then (bt nx i || bt nz i || (bt x i != bt z i)) else if bt y 0 then bt nx i else bt nz i) = bt (if bt ny 0 then nx ||| nz ||| (x ^^^ z) else if bt y 0 then nx else nz) i := by
  split
  · rw [b_or, b_or, b_xor]; cases bt x i <;> cases bt z i <;> rfl
  · split <;> rfl
theorem sm_low1 {x y : Int32} (h : ¬ nI (sm_tz y) ≤ nI (sm_tz x)) : nI (sm_tz x) = nI (sm_tz (x ||| y)) := by
  have hx := sm_tz_le x
  have hy := sm_tz_le y
  rw [nI_leI (by omega) (by omega)] at h
  rw [sm_tz_or, if_pos (by omega)]
theorem sm_low2 {x y : Int32} (h : nI (sm_tz y) ≤ nI (sm_tz x)) : nI (sm_tz y) = nI (sm_tz (x ||| y)) := by
  have hx := sm_tz_le x
  have hy := sm_tz_le y
  rw [nI_leI (by omega) (by omega)] at h
  rw [sm_tz_or, if_neg (by omega)]
theorem sm_gb2 (x y nx ny : Int32) {k : Nat} (_ : k < 32) : bt ((nx ||| ny) &&& (nx ||| x) &&& (ny ||| y)) k = ((bt nx k || bt ny k) && (bt nx k || bt x k) && (bt ny k || bt y k)) := by rw [b_and, b_and, b_or, b_or, b_or]
theorem sm_gb3 (x y nx ny : Int32) {k : Nat} (hk : k < 32) : bt ((nx ||| ny) &&& (nx ||| (x ^^^ (-1))) &&& (ny ||| (y ^^^ (-1)))) k = ((bt nx k || bt ny k) && (bt nx k || !bt x k) && (bt ny k || !bt y k)) := by rw [b_and, b_and, b_or, b_or, b_or, sm_bnot x hk, sm_bnot y hk]
theorem sm_gb4 (_x _y nx ny : Int32) {k : Nat} (_ : k < 32) : bt (nx ||| ny) k = (bt nx k || bt ny k) := b_or nx ny k
theorem sm_by2t {s v : Bool} (h1 : s = false) (h2 : sm_bI v = 0) : (1 : Int32) = sm_bI (!s && !v) := by rw [h1, sm_bI0 h2]; rfl
theorem sm_by2f {s v : Bool} (h1 : s = false) (h2 : ¬ sm_bI v = 0) : (0 : Int32) = sm_bI (!s && !v) := by rw [h1, sm_bI1 h2]; rfl
theorem sm_by3t {s v : Bool} (h1 : s = false) (h2 : sm_bI v = 1) : (1 : Int32) = sm_bI (!s && v) := by
  cases v
  · exact absurd h2 (by decide)
  · rw [h1]; rfl
theorem sm_by3f {s v : Bool} (h1 : s = false) (h2 : ¬ sm_bI v = 1) : (0 : Int32) = sm_bI (!s && v) := by
  cases v
  · rw [h1]; rfl
  · exact absurd rfl h2
def sm_mp (x y : Nat) : Nat := if x = 32 ∨ y = 32 then 32 else x + y
theorem sm_mp_le (x y : Nat) : sm_mp x y ≤ x + y + 32 := by unfold sm_mp; split <;> omega
theorem sm_mp1 {x y : Nat} (hx : x ≤ 32) (h : nI x = 32) : (32 : Int32) = nI (sm_mp x y) := by
  have : x = 32 := (nI_eq (by omega) (by decide)).mp (show nI x = nI 32 from h)
  unfold sm_mp; rw [if_pos (Or.inl this)]; rfl
theorem sm_mp2 {x y : Nat} (hy : y ≤ 32) (_ : ¬ nI x = 32) (h : nI y = 32) : (32 : Int32) = nI (sm_mp x y) := by
  have : y = 32 := (nI_eq (by omega) (by decide)).mp (show nI y = nI 32 from h)
  unfold sm_mp; rw [if_pos (Or.inr this)]; rfl
theorem sm_mp3 {x y : Nat} (h1 : ¬ nI x = 32) (h2 : ¬ nI y = 32) : nI (x + y) = nI (sm_mp x y) := by
  unfold sm_mp
  rw [if_neg]
  rintro (h | h)
  · exact h1 (by rw [h]; rfl)
  · exact h2 (by rw [h]; rfl)
def sm_mn (p q : Nat) : Nat := if p < q then p else q
theorem sm_mn_le (p q : Nat) : sm_mn p q ≤ p := by unfold sm_mn; split <;> omega
theorem sm_mn1 {p q : Nat} (hp : p < 2 ^ 31) (hq : q < 2 ^ 31) (h : ¬ nI q ≤ nI p) : nI p = nI (sm_mn p q) := by
  rw [nI_leI hq hp] at h
  unfold sm_mn; rw [if_pos (by omega)]
theorem sm_mn0 {p q : Nat} (hp : p < 2 ^ 31) (hq : q < 2 ^ 31) (h : nI q ≤ nI p) : nI q = nI (sm_mn p q) := by
  rw [nI_leI hq hp] at h
  unfold sm_mn; rw [if_neg (by omega)]
theorem sm_mul8 {a b c d : Nat} (ha : a ≤ 32) (hb : b ≤ 32) (hc : c ≤ 32) (hd : d ≤ 32) : sm_fr (sm_mn (sm_mp a b) (sm_mp c d)) = sm_fr (sm_min (a + b) (c + d)) := sm_fr_eq fun i hi => by
  unfold sm_mn sm_mp sm_min
  split <;> split <;> (try split) <;> (try split) <;> omega
theorem sm_g0 (q : Bool) : upd (sm_fw 0) (0 : Int32).toNatClampNeg (sm_bI q) = sm_fw (sm_bI q) := by
  funext j
  rw [sb_cl0]
  unfold upd sm_fw
  rw [sm_bbI]
  by_cases h : j = 0
  · subst h; simp
  · rw [if_neg h, b_0]; simp [h]
theorem sm_l9t {x y : Int32} (h : ¬ y ≤ x) : (1 : Int32) = sm_bI (decide (x < y)) := by rw [decide_eq_true (Int32.not_le.mp h)]; rfl
theorem sm_l9f {x y : Int32} (h : y ≤ x) : (0 : Int32) = sm_bI (decide (x < y)) := by rw [decide_eq_false (Int32.not_lt.mpr h)]; rfl
theorem sm_lo32 (x : Int32) : x.toInt64 &&& 4294967295 = lN x.toBitVec.toNat := by
  apply Int64.toBitVec_inj.1
  rw [Int64.toBitVec_and]
  show x.toBitVec.signExtend 64 &&& 4294967295#64 = BitVec.ofNat 64 x.toBitVec.toNat
  have e : (4294967295#64 : BitVec 64) = BitVec.setWidth 64 (BitVec.allOnes 32) := by decide +kernel
  have e2 : BitVec.ofNat 64 x.toBitVec.toNat = x.toBitVec.setWidth 64 := by
    apply BitVec.eq_of_toNat_eq; simp
  rw [e, e2]
  apply BitVec.eq_of_getLsbD_eq
  intro i hi
  rw [BitVec.getLsbD_and, BitVec.getLsbD_signExtend, BitVec.getLsbD_setWidth, BitVec.getLsbD_setWidth, BitVec.getLsbD_allOnes]
  by_cases h : i < 32
  · simp [hi, h]
  · simp [h, BitVec.getLsbD_of_ge x.toBitVec i (by omega)]
theorem sm_xx (x : Int32) : x ^^^ (-2147483648) ^^^ (-2147483648) = x := b_ext fun i hi => by rw [b_xor, b_xor]; simp
theorem sm_ult2 (x y : Int32) : lN x.toBitVec.toNat < lN y.toBitVec.toNat ↔ x ^^^ (-2147483648) < y ^^^ (-2147483648) := by
  have h := sm_ult (x ^^^ (-2147483648)) (y ^^^ (-2147483648))
  rwa [sm_xx, sm_xx] at h
theorem sm_l10t {x y : Int32} (h : ¬ 0 ≤ lg_cmp (x.toInt64 &&& 4294967295) (y.toInt64 &&& 4294967295)) : (1 : Int32) = sm_bI (decide (x ^^^ (-2147483648) < y ^^^ (-2147483648))) := by
  rw [lg_cmp_ge, sm_lo32, sm_lo32, Int64.not_le, sm_ult2] at h
  rw [decide_eq_true h]; rfl
theorem sm_l10f {x y : Int32} (h : 0 ≤ lg_cmp (x.toInt64 &&& 4294967295) (y.toInt64 &&& 4294967295)) : (0 : Int32) = sm_bI (decide (x ^^^ (-2147483648) < y ^^^ (-2147483648))) := by
  rw [lg_cmp_ge, sm_lo32, sm_lo32] at h
  rw [decide_eq_false (fun z => absurd h (Int64.not_le.mpr ((sm_ult2 x y).mpr z)))]; rfl
/-- the order hangs on what isn't given: both ends -/
theorem sm_oc1 {p q : Bool} (h : p = false) : (0 : Int32) = sm_bI (q && p) := by rw [h]; cases q <;> rfl
theorem sm_oc2 {p q : Bool} (h : q = false) : (0 : Int32) = sm_bI (q && p) := by rw [h]; rfl
theorem sm_oc3 {p q : Bool} (h : p = true) (h2 : q = true) : (1 : Int32) = sm_bI (q && p) := by rw [h, h2]; rfl
theorem sm_o9f {x nx y ny : Int32} (h : lg_cmp (sm_en (sm_one x nx true true) true 32) (sm_en (sm_one y ny false true) true 32) < 0) : (0 : Int32) = sm_bI (decide (sm_le x nx < sm_he y ny) && decide (sm_le y ny ≤ sm_he x nx)) := by
  rw [lg_cmp_lt, sm_en_s, sm_en_s, sm_lt64, sm_mk_he, sm_mk_le] at h
  exact sm_oc1 (decide_eq_false (Int32.not_le.mpr h))
theorem sm_o9g {x nx y ny : Int32} (_ : ¬ lg_cmp (sm_en (sm_one x nx true true) true 32) (sm_en (sm_one y ny false true) true 32) < 0) (h : 0 ≤ lg_cmp (sm_en (sm_one x nx false true) true 32) (sm_en (sm_one y ny true true) true 32)) : (0 : Int32) = sm_bI (decide (sm_le x nx < sm_he y ny) && decide (sm_le y ny ≤ sm_he x nx)) := by
  rw [lg_cmp_ge, sm_en_s, sm_en_s, ← Int64.not_lt, sm_lt64, sm_mk_he, sm_mk_le] at h
  exact sm_oc2 (decide_eq_false h)
theorem sm_o9t {x nx y ny : Int32} (h1 : ¬ lg_cmp (sm_en (sm_one x nx true true) true 32) (sm_en (sm_one y ny false true) true 32) < 0) (h : ¬ 0 ≤ lg_cmp (sm_en (sm_one x nx false true) true 32) (sm_en (sm_one y ny true true) true 32)) : (1 : Int32) = sm_bI (decide (sm_le x nx < sm_he y ny) && decide (sm_le y ny ≤ sm_he x nx)) := by
  rw [lg_cmp_lt, sm_en_s, sm_en_s, sm_lt64, sm_mk_he, sm_mk_le] at h1
  rw [lg_cmp_ge, sm_en_s, sm_en_s, Int64.not_le, sm_lt64, sm_mk_he, sm_mk_le] at h
  exact sm_oc3 (decide_eq_true (Int32.not_lt.mp h1)) (decide_eq_true h)
theorem sm_o10f {x nx y ny : Int32} (h : lg_cmp (sm_en (sm_one x nx true false) false 32) (sm_en (sm_one y ny false false) false 32) < 0) : (0 : Int32) = sm_bI (decide (sm_le (x ^^^ (-2147483648)) nx < sm_he (y ^^^ (-2147483648)) ny) && decide (sm_le (y ^^^ (-2147483648)) ny ≤ sm_he (x ^^^ (-2147483648)) nx)) := by
  rw [lg_cmp_lt, sm_en_u, sm_en_u, sm_mk_uh, sm_mk_ul, sm_ult] at h
  exact sm_oc1 (decide_eq_false (Int32.not_le.mpr h))
theorem sm_o10g {x nx y ny : Int32} (_ : ¬ lg_cmp (sm_en (sm_one x nx true false) false 32) (sm_en (sm_one y ny false false) false 32) < 0) (h : 0 ≤ lg_cmp (sm_en (sm_one x nx false false) false 32) (sm_en (sm_one y ny true false) false 32)) : (0 : Int32) = sm_bI (decide (sm_le (x ^^^ (-2147483648)) nx < sm_he (y ^^^ (-2147483648)) ny) && decide (sm_le (y ^^^ (-2147483648)) ny ≤ sm_he (x ^^^ (-2147483648)) nx)) := by
  rw [lg_cmp_ge, sm_en_u, sm_en_u, ← Int64.not_lt, sm_mk_uh, sm_mk_ul, sm_ult] at h
  exact sm_oc2 (decide_eq_false h)
theorem sm_o10t {x nx y ny : Int32} (h1 : ¬ lg_cmp (sm_en (sm_one x nx true false) false 32) (sm_en (sm_one y ny false false) false 32) < 0) (h : ¬ 0 ≤ lg_cmp (sm_en (sm_one x nx false false) false 32) (sm_en (sm_one y ny true false) false 32)) : (1 : Int32) = sm_bI (decide (sm_le (x ^^^ (-2147483648)) nx < sm_he (y ^^^ (-2147483648)) ny) && decide (sm_le (y ^^^ (-2147483648)) ny ≤ sm_he (x ^^^ (-2147483648)) nx)) := by
  rw [lg_cmp_lt, sm_en_u, sm_en_u, sm_mk_uh, sm_mk_ul, sm_ult] at h1
  rw [lg_cmp_ge, sm_en_u, sm_en_u, Int64.not_le, sm_mk_uh, sm_mk_ul, sm_ult] at h
  exact sm_oc3 (decide_eq_true (Int32.not_lt.mp h1)) (decide_eq_true h)
def sm_any (g : Nat → Bool) : Nat → Bool
  | 0 => false
  | k + 1 => if g k then true else sm_any g k
theorem sm_any_iff (g : Nat → Bool) : ∀ n, sm_any g n = false ↔ ∀ i, i < n → g i = false
  | 0 => by simp [sm_any]
  | n + 1 => by
    rw [sm_any]
    by_cases h : g n
    · rw [if_pos h]
      constructor
      · intro z; cases z
      · intro z; have := z n (by omega); rw [h] at this; cases this
    · rw [if_neg h, sm_any_iff g n]
      constructor
      · intro z i hi
        by_cases h2 : i = n
        · subst h2; simpa using h
        · exact z i (by omega)
      · intro z i hi; exact z i (by omega)
theorem sm_any_t {g : Nat → Bool} {k : Nat} (h : g k = true) : sm_any g (k + 1) = true := by rw [sm_any, if_pos h]
theorem sm_any_n {g : Nat → Bool} {k : Nat} (h : g k = false) : sm_any g (k + 1) = sm_any g k := by rw [sm_any, if_neg (by rw [h]; decide)]
theorem sm_an1 {x y nx ny : Int32} {k : Nat} (h : bt nx k = true) : sm_bI (sm_any (fun i => !(bt nx i || bt ny i) && (bt x i != bt y i)) (k + 1)) = sm_bI (sm_any (fun i => !(bt nx i || bt ny i) && (bt x i != bt y i)) k) ∧ sm_bI (!sm_any (fun i => bt nx i || bt ny i) (k + 1)) = 0 := by
  rw [sm_any_n (by simp [h]), sm_any_t (by simp [h])]; exact ⟨rfl, rfl⟩
theorem sm_an2 {x y nx ny : Int32} {k : Nat} (h : bt ny k = true) : sm_bI (sm_any (fun i => !(bt nx i || bt ny i) && (bt x i != bt y i)) (k + 1)) = sm_bI (sm_any (fun i => !(bt nx i || bt ny i) && (bt x i != bt y i)) k) ∧ sm_bI (!sm_any (fun i => bt nx i || bt ny i) (k + 1)) = 0 := by
  rw [sm_any_n (by simp [h]), sm_any_t (by simp [h])]; exact ⟨rfl, rfl⟩
theorem sm_bInj {a b : Bool} (h : sm_bI a = sm_bI b) : a = b := by revert h; cases a <;> cases b <;> decide
theorem sm_an3 {x y nx ny : Int32} {k : Nat} (h1 : bt nx k = false) (h2 : bt ny k = false) (h : ¬ sm_bI (bt x k) = sm_bI (bt y k)) : sm_bI (sm_any (fun i => !(bt nx i || bt ny i) && (bt x i != bt y i)) (k + 1)) = 1 ∧ sm_bI (!sm_any (fun i => bt nx i || bt ny i) (k + 1)) = sm_bI (!sm_any (fun i => bt nx i || bt ny i) k) := by
  have h3 : (bt x k != bt y k) = true := by
    cases hx : bt x k <;> cases hy : bt y k <;> simp_all
  rw [sm_any_t (by simp [h1, h2]; simpa using h3), sm_any_n (by simp [h1, h2])]; exact ⟨rfl, rfl⟩
theorem sm_an4 {x y nx ny : Int32} {k : Nat} (h1 : bt nx k = false) (h2 : bt ny k = false) (h : sm_bI (bt x k) = sm_bI (bt y k)) : sm_bI (sm_any (fun i => !(bt nx i || bt ny i) && (bt x i != bt y i)) (k + 1)) = sm_bI (sm_any (fun i => !(bt nx i || bt ny i) && (bt x i != bt y i)) k) ∧ sm_bI (!sm_any (fun i => bt nx i || bt ny i) (k + 1)) = sm_bI (!sm_any (fun i => bt nx i || bt ny i) k) := by
  rw [sm_any_n (by simp [sm_bInj h]), sm_any_n (by simp [h1, h2])]; exact ⟨rfl, rfl⟩
theorem sm_any0 {x : Int32} {g : Nat → Bool} (h : ∀ i, i < 32 → g i = bt x i) : sm_any g 32 = !decide (x = 0) := by
  by_cases hx : x = 0
  · subst hx
    rw [(sm_any_iff g 32).mpr (fun i hi => by rw [h i hi, b_0])]; rfl
  · rw [decide_eq_false hx]
    cases hs : sm_any g 32
    · exact absurd (b_ext fun i hi => by rw [← h i hi, b_0]; exact (sm_any_iff g 32).mp hs i hi) hx
    · rfl
theorem sm_sameA (nx ny : Int32) : sm_any (fun i => bt nx i || bt ny i) 32 = !decide (nx ||| ny = 0) := sm_any0 fun i _ => (b_or nx ny i).symm
theorem sm_sameB (x y nx ny : Int32) : sm_any (fun i => !(bt nx i || bt ny i) && (bt x i != bt y i)) 32 = !decide ((x ^^^ y) &&& ((nx ||| ny) ^^^ (-1)) = 0) := sm_any0 fun i hi => by
  rw [b_and, b_xor, sm_bnot _ hi, b_or]
  cases bt x i <;> cases bt y i <;> cases bt nx i <;> cases bt ny i <;> rfl
theorem sm_same1 {x y nx ny : Int32} (h1 : sm_any (fun i => !(bt nx i || bt ny i) && (bt x i != bt y i)) 32 = false) (h2 : (!sm_any (fun i => bt nx i || bt ny i) 32) = false) : (1 : Int32) = sm_bI (!decide (nx ||| ny = 0) && decide ((x ^^^ y) &&& ((nx ||| ny) ^^^ (-1)) = 0)) := by
  rw [sm_sameB] at h1
  rw [sm_sameA] at h2
  revert h1 h2
  cases decide (nx ||| ny = 0) <;> cases decide ((x ^^^ y) &&& ((nx ||| ny) ^^^ (-1)) = 0) <;> decide
theorem sm_same2 {x y nx ny : Int32} (h1 : sm_any (fun i => !(bt nx i || bt ny i) && (bt x i != bt y i)) 32 = true) : (0 : Int32) = sm_bI (!decide (nx ||| ny = 0) && decide ((x ^^^ y) &&& ((nx ||| ny) ^^^ (-1)) = 0)) := by
  rw [sm_sameB] at h1
  revert h1
  cases decide (nx ||| ny = 0) <;> cases decide ((x ^^^ y) &&& ((nx ||| ny) ^^^ (-1)) = 0) <;> decide
theorem sm_same3 {x y nx ny : Int32} (_ : sm_any (fun i => !(bt nx i || bt ny i) && (bt x i != bt y i)) 32 = false) (h2 : (!sm_any (fun i => bt nx i || bt ny i) 32) = true) : (0 : Int32) = sm_bI (!decide (nx ||| ny = 0) && decide ((x ^^^ y) &&& ((nx ||| ny) ^^^ (-1)) = 0)) := by
  rw [sm_sameA] at h2
  revert h2
  cases decide (nx ||| ny = 0) <;> cases decide ((x ^^^ y) &&& ((nx ||| ny) ^^^ (-1)) = 0) <;> decide
end
section
/-! octets: what store and load do to words -/
def sm_fil (f g : Nat → Int32) (a k : Nat) : Nat → Int32 := fun j => if a ≤ j ∧ j < a + k then g (j - a) else f j
theorem sm_fil0 (f g : Nat → Int32) (a : Nat) : sm_fil f g a 0 = f := by
  funext j
  unfold sm_fil
  rw [if_neg (by omega)]
theorem sm_filS (f g : Nat → Int32) (a k : Nat) : upd (sm_fil f g a k) (a + k) (g k) = sm_fil f g a (k + 1) := by
  funext j
  unfold sm_fil upd
  by_cases h : j = a + k
  · subst h
    rw [if_pos rfl, if_pos (by omega), Nat.add_sub_cancel_left]
  · rw [if_neg h]
    dsimp only
    by_cases h2 : a ≤ j ∧ j < a + k
    · rw [if_pos h2, if_pos (by omega)]
    · rw [if_neg h2, if_neg (by omega)]
/-- the k-th octet of a word, with its shadow above -/
def sm_by (v n : Int32) (k : Nat) : Int32 := ((sm_ushr n (nI (k * 8)) &&& 255) <<< ((8 : Int32) &&& 31)) ||| (sm_ushr v (nI (k * 8)) &&& 255)
theorem sm_by_lo (v n : Int32) {k i : Nat} (hk : k < 4) (hi : i < 8) : bt (sm_by v n k) i = bt v (8 * k + i) := by
  unfold sm_by
  rw [b_or, b_and, b_255, show ((8 : Int32) &&& 31) = (nI 8 &&& 31) from rfl, b_shl 8 (by omega) _ (by omega)]
  show ((decide (8 ≤ i) && _) || (bt ((v.toUInt32 >>> ((nI (k * 8)).toUInt32 &&& Int32.toUInt32 31)).toInt32) i && _)) = _
  rw [b_ushr (k * 8) (by omega) v i, decide_eq_true hi, decide_eq_false (by omega), Bool.and_true, Bool.false_and, Bool.false_or, Nat.mul_comm]
theorem sm_by_hi (v n : Int32) {k i : Nat} (hk : k < 4) (hi : i < 8) : bt (sm_by v n k) (8 + i) = bt n (8 * k + i) := by
  unfold sm_by
  rw [b_or, b_and, b_255, show ((8 : Int32) &&& 31) = (nI 8 &&& 31) from rfl, b_shl 8 (by omega) _ (by omega), Nat.add_sub_cancel_left, b_and, b_255]
  show ((decide (8 ≤ 8 + i) && (bt ((n.toUInt32 >>> ((nI (k * 8)).toUInt32 &&& Int32.toUInt32 31)).toInt32) i && _)) || _) = _
  rw [b_ushr (k * 8) (by omega) n i, decide_eq_true hi, decide_eq_true (by omega), decide_eq_false (by omega), Bool.and_true, Bool.and_false, Bool.true_and, Bool.or_false, Nat.mul_comm]
theorem sm_by_16 (v n : Int32) (k : Nat) : sm_by v n k = sm_by v n k &&& 65535 := by
  refine b_ext fun i hi => ?_
  rw [b_and, b_65535]
  by_cases h : i < 16
  · simp [h]
  · rw [decide_eq_false h, Bool.and_false]
    unfold sm_by
    rw [b_or, b_and, b_255, show ((8 : Int32) &&& 31) = (nI 8 &&& 31) from rfl, b_shl 8 (by omega) _ hi, b_and, b_255, decide_eq_false (by omega), decide_eq_false (by omega)]
    simp
theorem sm_fill_o (M : Nat → Int32) (v s : Int32) (t : Nat) {n : Nat} (hn : n ≤ 4) : sm_fill (sm_fo M) (bt v) (8 * t) (8 * n) = sm_fo (sm_fil M (sm_by v s) t n) := by
  funext j
  unfold sm_fill sm_fo sm_fil
  by_cases h : 8 * t ≤ j ∧ j < 8 * t + 8 * n
  · rw [if_pos h, if_pos (by omega), sm_by_lo v s (by omega) (by omega)]
    congr 2
    omega
  · rw [if_neg h, if_neg (by omega)]
theorem sm_fill_l (M : Nat → Int32) (v s : Int32) (t : Nat) {n : Nat} (hn : n ≤ 4) : sm_fill (sm_fl M) (bt s) (8 * t) (8 * n) = sm_fl (sm_fil M (sm_by v s) t n) := by
  funext j
  unfold sm_fill sm_fl sm_fil
  by_cases h : 8 * t ≤ j ∧ j < 8 * t + 8 * n
  · rw [if_pos h, if_pos (by omega), sm_by_hi v s (by omega) (by omega)]
    congr 2
    omega
  · rw [if_neg h, if_neg (by omega)]
/-- octets put together -/
def sm_lv (g : Nat → Int32) : Nat → Int32
  | 0 => 0
  | k + 1 => sm_lv g k ||| g k <<< (nI (k * 8) &&& 31)
theorem sm_lv_b (g : Nat → Int32) (hg : ∀ j i, 8 ≤ i → bt (g j) i = false) : ∀ n, n ≤ 4 → ∀ i, i < 32 → bt (sm_lv g n) i = (decide (i < 8 * n) && bt (g (i / 8)) (i % 8))
  | 0, _, i, _ => by show bt 0 i = _; rw [b_0]; simp
  | n + 1, hn, i, hi => by
    rw [sm_lv, b_or, sm_lv_b g hg n (by omega) i hi, b_shl (n * 8) (by omega) _ hi]
    by_cases h1 : i < 8 * n
    · rw [decide_eq_true h1, decide_eq_true (by omega), decide_eq_false (by omega)]; simp
    · rw [decide_eq_false h1]
      by_cases h2 : i < 8 * (n + 1)
      · rw [decide_eq_true h2, decide_eq_true (by omega), show i / 8 = n by omega, show i % 8 = i - n * 8 by omega]; simp
      · rw [decide_eq_false h2, hg n _ (by omega)]; simp
def sm_ob (M : Nat → Int32) (j : Nat) : Bool := bt (M (j / 8)) (j % 8)
def sm_ol (M : Nat → Int32) (j : Nat) : Bool := bt (M (j / 8)) (8 + j % 8)
theorem sm_lvO (M : Nat → Int32) (t : Nat) {n i : Nat} (hn : n ≤ 4) (hi : i < 8 * n) : bt (sm_lv (fun j => M (t + j) &&& 255) n) i = sm_ob M (8 * t + i) := by
  rw [sm_lv_b _ (fun j i h => by rw [b_and, b_255, decide_eq_false (by omega), Bool.and_false]) n hn i (by omega), decide_eq_true hi, Bool.true_and, b_and, b_255, decide_eq_true (by omega), Bool.and_true]
  unfold sm_ob
  rw [show (8 * t + i) / 8 = t + i / 8 by omega, show (8 * t + i) % 8 = i % 8 by omega]
theorem sm_us8 (x : Int32) (i : Nat) : bt (sm_ushr x 8) i = bt x (8 + i) := b_ushr 8 (by omega) x i
theorem sm_lvG (M : Nat → Int32) (hM : ∀ a, M a = M a &&& 65535) (t : Nat) {n i : Nat} (hn : n ≤ 4) (hi : i < 8 * n) : bt (sm_lv (fun j => sm_ushr (M (t + j)) 8) n) i = sm_ol M (8 * t + i) := by
  rw [sm_lv_b _ (fun j i h => by rw [sm_us8, hM, b_and, b_65535, decide_eq_false (by omega), Bool.and_false]) n hn i (by omega), decide_eq_true hi, Bool.true_and, sm_us8]
  unfold sm_ol
  rw [show (8 * t + i) / 8 = t + i / 8 by omega, show (8 * t + i) % 8 = i % 8 by omega]
/-- widened with and without sign: by is 32 - 8 n -/
theorem sm_wds (x : Int32) {d i : Nat} (hd : d < 32) (hi : i < 32) : bt ((x <<< (nI d &&& 31)) >>> (nI d &&& 31)) i = if d + i < 32 then bt x i else bt x (31 - d) := by
  rw [b_sshr d hd _ hi]
  split
  · rw [b_shl d hd x (by omega), decide_eq_true (by omega), Bool.true_and, Nat.add_sub_cancel_left]
  · rw [b_shl d hd x (by omega), decide_eq_true (by omega), Bool.true_and]
theorem sm_wdu (x : Int32) {d i : Nat} (hd : d < 32) (hi : i < 32) : bt (sm_ushr (x <<< (nI d &&& 31)) (nI d)) i = (decide (d + i < 32) && bt x i) := by
  show bt (((x <<< (nI d &&& 31)).toUInt32 >>> ((nI d).toUInt32 &&& Int32.toUInt32 31)).toInt32) i = _
  rw [b_ushr d hd _ i]
  by_cases h : d + i < 32
  · rw [b_shl d hd x h, decide_eq_true (by omega), decide_eq_true h, Bool.true_and, Bool.true_and, Nat.add_sub_cancel_left]
  · rw [b_big (by omega), decide_eq_false h, Bool.false_and]
theorem sm_ldOs (M : Nat → Int32) (t n : Nat) (hn : n ≤ 4) (h0 : 0 < n) (i : Nat) (hi : i < 32) : (if i < 8 * n then sm_ob M (8 * t + i) else sm_ob M (8 * t + (8 * n - 1))) = bt ((sm_lv (fun j => M (t + j) &&& 255) n <<< (nI (32 - 8 * n) &&& 31)) >>> (nI (32 - 8 * n) &&& 31)) i := by
  rw [sm_wds _ (by omega) hi]
  by_cases h : i < 8 * n
  · rw [if_pos h, if_pos (by omega), sm_lvO M t hn h]
  · rw [if_neg h, if_neg (by omega), show 31 - (32 - 8 * n) = 8 * n - 1 by omega, sm_lvO M t hn (by omega)]
theorem sm_ldOu (M : Nat → Int32) (t n : Nat) (hn : n ≤ 4) (h0 : 0 < n) (i : Nat) (hi : i < 32) : (if i < 8 * n then sm_ob M (8 * t + i) else false) = bt (sm_ushr (sm_lv (fun j => M (t + j) &&& 255) n <<< (nI (32 - 8 * n) &&& 31)) (nI (32 - 8 * n))) i := by
  rw [sm_wdu _ (by omega) hi]
  by_cases h : i < 8 * n
  · rw [if_pos h, decide_eq_true (by omega), Bool.true_and, sm_lvO M t hn h]
  · rw [if_neg h, decide_eq_false (by omega), Bool.false_and]
theorem sm_ldGs (M : Nat → Int32) (hM : ∀ a, M a = M a &&& 65535) (t n : Nat) (hn : n ≤ 4) (h0 : 0 < n) (i : Nat) (hi : i < 32) : (if i < 8 * n then sm_ol M (8 * t + i) else sm_ol M (8 * t + (8 * n - 1))) = bt ((sm_lv (fun j => sm_ushr (M (t + j)) 8) n <<< (nI (32 - 8 * n) &&& 31)) >>> (nI (32 - 8 * n) &&& 31)) i := by
  rw [sm_wds _ (by omega) hi]
  by_cases h : i < 8 * n
  · rw [if_pos h, if_pos (by omega), sm_lvG M hM t hn h]
  · rw [if_neg h, if_neg (by omega), show 31 - (32 - 8 * n) = 8 * n - 1 by omega, sm_lvG M hM t hn (by omega)]
theorem sm_ldGu (M : Nat → Int32) (hM : ∀ a, M a = M a &&& 65535) (t n : Nat) (hn : n ≤ 4) (h0 : 0 < n) (i : Nat) (hi : i < 32) : (if i < 8 * n then sm_ol M (8 * t + i) else false) = bt (sm_ushr (sm_lv (fun j => sm_ushr (M (t + j)) 8) n <<< (nI (32 - 8 * n) &&& 31)) (nI (32 - 8 * n))) i := by
  rw [sm_wdu _ (by omega) hi]
  by_cases h : i < 8 * n
  · rw [if_pos h, decide_eq_true (by omega), Bool.true_and, sm_lvG M hM t hn h]
  · rw [if_neg h, decide_eq_false (by omega), Bool.false_and]
/-- all registers' bits -/
def sm_cn (S : Nat → Int32) : Nat → Nat
  | 0 => 0
  | k + 1 => sm_cn S k + sm_pc (bt (S k)) 32
theorem sm_cn_pc (S : Nat → Int32) : ∀ k, sm_pc (fun j => bt (S (j / 32)) (j % 32)) (32 * k) = sm_cn S k
  | 0 => rfl
  | k + 1 => by
    rw [show 32 * (k + 1) = 32 * k + 32 by omega, sm_pc_add, sm_cn_pc S k, sm_cn]
    congr 1
    exact sm_pc_eq 32 fun i hi => by rw [show (32 * k + i) / 32 = k by omega, show (32 * k + i) % 32 = i by omega]
end
