section
-- ===== PART A: goes FIRST, ahead of the names: the tables' words, and 'selects' of the private methods out of them =====
/-- a private method of a class that the tables say can be made, by its rows of tables_1 -/
def lw_okq (q : MethodName × Nat) : Prop := (q.1.cls ≠ "java/lang/invoke/MethodHandle" ∧ q.1.cls ≠ "java/lang/invoke/VarHandle") ∧ Cond.instantiable q.1.cls q.2 ∈ tables_1 ∧ Cond.privateMethod q.1 ∈ tables_1 ∧ Cond.instanceMethod q.1 ∈ tables_1
theorem lw_p0 : lw_okq (⟨"java/lang/Throwable", "fillInStackTrace", "(I)Ljava/lang/Throwable;"⟩, 6) := ⟨⟨by decide +kernel, by decide +kernel⟩, List.mem_of_getElem? (i := 88) (by decide +kernel), List.mem_of_getElem? (i := 86) (by decide +kernel), List.mem_of_getElem? (i := 87) (by decide +kernel)⟩
theorem lw_p1 : lw_okq (⟨"ShadowMath", "valueOf", "(IIII)I"⟩, 3) := ⟨⟨by decide +kernel, by decide +kernel⟩, List.mem_of_getElem? (i := 11) (by decide +kernel), List.mem_of_getElem? (i := 136) (by decide +kernel), List.mem_of_getElem? (i := 137) (by decide +kernel)⟩
theorem lw_p2 : lw_okq (⟨"ShadowMath", "chosen", "(I)Z"⟩, 3) := ⟨⟨by decide +kernel, by decide +kernel⟩, List.mem_of_getElem? (i := 11) (by decide +kernel), List.mem_of_getElem? (i := 150) (by decide +kernel), List.mem_of_getElem? (i := 151) (by decide +kernel)⟩
theorem lw_p3 : lw_okq (⟨"ShadowMath", "shadowOf", "(IIII)I"⟩, 3) := ⟨⟨by decide +kernel, by decide +kernel⟩, List.mem_of_getElem? (i := 11) (by decide +kernel), List.mem_of_getElem? (i := 154) (by decide +kernel), List.mem_of_getElem? (i := 155) (by decide +kernel)⟩
theorem lw_p4 : lw_okq (⟨"ShadowMath", "choiceShadow", "(III)I"⟩, 3) := ⟨⟨by decide +kernel, by decide +kernel⟩, List.mem_of_getElem? (i := 11) (by decide +kernel), List.mem_of_getElem? (i := 184) (by decide +kernel), List.mem_of_getElem? (i := 185) (by decide +kernel)⟩
theorem lw_p5 : lw_okq (⟨"ShadowMathModel", "fails", "(ZI)Z"⟩, 7) := ⟨⟨by decide +kernel, by decide +kernel⟩, List.mem_of_getElem? (i := 243) (by decide +kernel), List.mem_of_getElem? (i := 283) (by decide +kernel), List.mem_of_getElem? (i := 284) (by decide +kernel)⟩
theorem lw_p6 : lw_okq (⟨"ShadowMathModel", "make", "(I)V"⟩, 7) := ⟨⟨by decide +kernel, by decide +kernel⟩, List.mem_of_getElem? (i := 243) (by decide +kernel), List.mem_of_getElem? (i := 287) (by decide +kernel), List.mem_of_getElem? (i := 288) (by decide +kernel)⟩
theorem lw_p7 : lw_okq (⟨"ShadowMathModel", "give", "(I)V"⟩, 7) := ⟨⟨by decide +kernel, by decide +kernel⟩, List.mem_of_getElem? (i := 243) (by decide +kernel), List.mem_of_getElem? (i := 291) (by decide +kernel), List.mem_of_getElem? (i := 292) (by decide +kernel)⟩
theorem lw_p8 : lw_okq (⟨"ShadowMathModel", "number", "(I)I"⟩, 7) := ⟨⟨by decide +kernel, by decide +kernel⟩, List.mem_of_getElem? (i := 243) (by decide +kernel), List.mem_of_getElem? (i := 299) (by decide +kernel), List.mem_of_getElem? (i := 300) (by decide +kernel)⟩
theorem lw_p9 : lw_okq (⟨"ShadowMathModel", "lowest", "(I)I"⟩, 7) := ⟨⟨by decide +kernel, by decide +kernel⟩, List.mem_of_getElem? (i := 243) (by decide +kernel), List.mem_of_getElem? (i := 303) (by decide +kernel), List.mem_of_getElem? (i := 304) (by decide +kernel)⟩
theorem lw_p10 : lw_okq (⟨"ShadowMathModel", "un", "(II)Z"⟩, 7) := ⟨⟨by decide +kernel, by decide +kernel⟩, List.mem_of_getElem? (i := 243) (by decide +kernel), List.mem_of_getElem? (i := 307) (by decide +kernel), List.mem_of_getElem? (i := 308) (by decide +kernel)⟩
theorem lw_p11 : lw_okq (⟨"ShadowMathModel", "from", "(I)V"⟩, 7) := ⟨⟨by decide +kernel, by decide +kernel⟩, List.mem_of_getElem? (i := 243) (by decide +kernel), List.mem_of_getElem? (i := 311) (by decide +kernel), List.mem_of_getElem? (i := 312) (by decide +kernel)⟩
theorem lw_p12 : lw_okq (⟨"ShadowMathModel", "is", "(II)Z"⟩, 7) := ⟨⟨by decide +kernel, by decide +kernel⟩, List.mem_of_getElem? (i := 243) (by decide +kernel), List.mem_of_getElem? (i := 315) (by decide +kernel), List.mem_of_getElem? (i := 316) (by decide +kernel)⟩
theorem lw_p13 : lw_okq (⟨"ShadowMathModel", "shift", "(IIII)V"⟩, 7) := ⟨⟨by decide +kernel, by decide +kernel⟩, List.mem_of_getElem? (i := 243) (by decide +kernel), List.mem_of_getElem? (i := 319) (by decide +kernel), List.mem_of_getElem? (i := 320) (by decide +kernel)⟩
theorem lw_p14 : lw_okq (⟨"ShadowMathModel", "noughts", "(I)I"⟩, 7) := ⟨⟨by decide +kernel, by decide +kernel⟩, List.mem_of_getElem? (i := 243) (by decide +kernel), List.mem_of_getElem? (i := 323) (by decide +kernel), List.mem_of_getElem? (i := 324) (by decide +kernel)⟩
theorem lw_p15 : lw_okq (⟨"ShadowMathModel", "end", "(IZZ)J"⟩, 7) := ⟨⟨by decide +kernel, by decide +kernel⟩, List.mem_of_getElem? (i := 243) (by decide +kernel), List.mem_of_getElem? (i := 327) (by decide +kernel), List.mem_of_getElem? (i := 328) (by decide +kernel)⟩
def lw_privs_1 : List (MethodName × Nat) := [(⟨"java/lang/Throwable", "fillInStackTrace", "(I)Ljava/lang/Throwable;"⟩, 6), (⟨"ShadowMath", "valueOf", "(IIII)I"⟩, 3), (⟨"ShadowMath", "chosen", "(I)Z"⟩, 3), (⟨"ShadowMath", "shadowOf", "(IIII)I"⟩, 3), (⟨"ShadowMath", "choiceShadow", "(III)I"⟩, 3), (⟨"ShadowMathModel", "fails", "(ZI)Z"⟩, 7), (⟨"ShadowMathModel", "make", "(I)V"⟩, 7), (⟨"ShadowMathModel", "give", "(I)V"⟩, 7), (⟨"ShadowMathModel", "number", "(I)I"⟩, 7), (⟨"ShadowMathModel", "lowest", "(I)I"⟩, 7), (⟨"ShadowMathModel", "un", "(II)Z"⟩, 7), (⟨"ShadowMathModel", "from", "(I)V"⟩, 7), (⟨"ShadowMathModel", "is", "(II)Z"⟩, 7), (⟨"ShadowMathModel", "shift", "(IIII)V"⟩, 7), (⟨"ShadowMathModel", "noughts", "(I)I"⟩, 7), (⟨"ShadowMathModel", "end", "(IZZ)J"⟩, 7)]
theorem lw_r1 : ∀ q ∈ lw_privs_1, lw_okq q := List.forall_mem_cons.mpr ⟨lw_p0, List.forall_mem_cons.mpr ⟨lw_p1, List.forall_mem_cons.mpr ⟨lw_p2, List.forall_mem_cons.mpr ⟨lw_p3, List.forall_mem_cons.mpr ⟨lw_p4, List.forall_mem_cons.mpr ⟨lw_p5, List.forall_mem_cons.mpr ⟨lw_p6, List.forall_mem_cons.mpr ⟨lw_p7, List.forall_mem_cons.mpr ⟨lw_p8, List.forall_mem_cons.mpr ⟨lw_p9, List.forall_mem_cons.mpr ⟨lw_p10, List.forall_mem_cons.mpr ⟨lw_p11, List.forall_mem_cons.mpr ⟨lw_p12, List.forall_mem_cons.mpr ⟨lw_p13, List.forall_mem_cons.mpr ⟨lw_p14, List.forall_mem_cons.mpr ⟨lw_p15, fun _ h => absurd h List.not_mem_nil⟩⟩⟩⟩⟩⟩⟩⟩⟩⟩⟩⟩⟩⟩⟩⟩
theorem lw_p16 : lw_okq (⟨"ShadowMathModel", "choose", "(III)V"⟩, 7) := ⟨⟨by decide +kernel, by decide +kernel⟩, List.mem_of_getElem? (i := 243) (by decide +kernel), List.mem_of_getElem? (i := 332) (by decide +kernel), List.mem_of_getElem? (i := 333) (by decide +kernel)⟩
def lw_privs_2 : List (MethodName × Nat) := [(⟨"ShadowMathModel", "choose", "(III)V"⟩, 7)]
theorem lw_r2 : ∀ q ∈ lw_privs_2, lw_okq q := List.forall_mem_cons.mpr ⟨lw_p16, fun _ h => absurd h List.not_mem_nil⟩
def lw_privs : List (MethodName × Nat) := lw_privs_1 ++ (lw_privs_2)
def lw_tbl : List Cond := k2_sels lw_privs ++ tables_1
theorem lw_privs_ok : ∀ q ∈ lw_privs, lw_okq q := by
  show ∀ q ∈ lw_privs_1 ++ (lw_privs_2), lw_okq q
  exact List.forall_mem_append.mpr ⟨lw_r1, lw_r2⟩
end
section
def RX0 : String := "ShadowMath"
def RX1 : String := "ShadowMathModel"
def RL : String := "ShadowMathLaw"
def RJ6 : String := "java/lang/Integer"
def TX0 : u_T := fun k => match k with
  | 0 => ("ShadowMath", "values", "[I", true)
  | 1 => ("ShadowMath", "shadows", "[I", true)
  | _ => ("ShadowMath", "memory", "[I", true)
def tyX0 : Nat → FieldType := fun k => match k with
  | 0 => .array .int
  | 1 => .array .int
  | _ => .array .int
def TX1 : u_T := fun k => match k with
  | 0 => ("ShadowMathModel", "err", "I", false)
  | 1 => ("ShadowMathModel", "bit", "[Z", true)
  | 2 => ("ShadowMathModel", "lost", "[Z", true)
  | 3 => ("ShadowMathModel", "octetBit", "[Z", true)
  | 4 => ("ShadowMathModel", "octetLost", "[Z", true)
  | 5 => ("ShadowMathModel", "out", "[Z", true)
  | _ => ("ShadowMathModel", "gone", "[Z", true)
def tyX1 : Nat → FieldType := fun k => match k with
  | 0 => .int
  | 1 => .array .boolean
  | 2 => .array .boolean
  | 3 => .array .boolean
  | 4 => .array .boolean
  | 5 => .array .boolean
  | _ => .array .boolean
theorem nX0 : ∀ a, a < 3 → ∀ b, b < 3 → a ≠ b → (TX0 a).2.1 ≠ (TX0 b).2.1 := by decide +kernel
theorem tyX0_ok : ∀ k, k < 3 → parseFieldDescriptor (TX0 k).2.2.1 = some (tyX0 k) := by decide +kernel
theorem nX1 : ∀ a, a < 7 → ∀ b, b < 7 → a ≠ b → (TX1 a).2.1 ≠ (TX1 b).2.1 := by decide +kernel
theorem tyX1_ok : ∀ k, k < 7 → parseFieldDescriptor (TX1 k).2.2.1 = some (tyX1 k) := by decide +kernel
abbrev vwCl : List vw_C := [(RX0, TX0, 3), (RX1, TX1, 7)]
abbrev cX0_init : ByteArray := prog_1_method_1_code
def yX0_init : MethodName := ⟨RX0, "<init>", "()V"⟩
abbrev cX0_count : ByteArray := prog_1_method_11_code
def yX0_count : MethodName := ⟨RX0, "count", "()I"⟩
abbrev cJ6_bitCount : ByteArray := prog_7_method_49_code
def yJ6_bitCount : MethodName := ⟨RJ6, "bitCount", "(I)I"⟩
abbrev cL_set : ByteArray := method_3_code
def yL_set : MethodName := ⟨RL, "set", "(LShadowMath;III)I"⟩
abbrev cX0_set : ByteArray := prog_1_method_2_code
def yX0_set : MethodName := ⟨RX0, "set", "(III)V"⟩
abbrev cX0_checkRegister : ByteArray := prog_1_method_12_code
def yX0_checkRegister : MethodName := ⟨RX0, "checkRegister", "(I)V"⟩
abbrev cL_op : ByteArray := method_4_code
def yL_op : MethodName := ⟨RL, "op", "(LShadowMath;IIII)I"⟩
abbrev cX0_op : ByteArray := prog_1_method_3_code
def yX0_op : MethodName := ⟨RX0, "op", "(IIII)V"⟩
abbrev cX0_valueOf : ByteArray := prog_1_method_14_code
def yX0_valueOf : MethodName := ⟨RX0, "valueOf", "(IIII)I"⟩
abbrev cX0_shifted : ByteArray := prog_1_method_18_code
def yX0_shifted : MethodName := ⟨RX0, "shifted", "(III)I"⟩
abbrev cX0_bit : ByteArray := prog_1_method_27_code
def yX0_bit : MethodName := ⟨RX0, "bit", "(Z)I"⟩
abbrev cX0_signTurned : ByteArray := prog_1_method_22_code
def yX0_signTurned : MethodName := ⟨RX0, "signTurned", "(I)I"⟩
abbrev cX0_chosen : ByteArray := prog_1_method_16_code
def yX0_chosen : MethodName := ⟨RX0, "chosen", "(I)Z"⟩
abbrev cX0_shadowOf : ByteArray := prog_1_method_15_code
def yX0_shadowOf : MethodName := ⟨RX0, "shadowOf", "(IIII)I"⟩
abbrev cJ6_numberOfTrailingZeros : ByteArray := prog_7_method_48_code
def yJ6_numberOfTrailingZeros : MethodName := ⟨RJ6, "numberOfTrailingZeros", "(I)I"⟩
abbrev cX0_fromPlaceOn : ByteArray := prog_1_method_20_code
def yX0_fromPlaceOn : MethodName := ⟨RX0, "fromPlaceOn", "(I)I"⟩
abbrev cX0_placeLostBy : ByteArray := prog_1_method_21_code
def yX0_placeLostBy : MethodName := ⟨RX0, "placeLostBy", "(III)I"⟩
abbrev cX0_orderHangs : ByteArray := prog_1_method_23_code
def yX0_orderHangs : MethodName := ⟨RX0, "orderHangs", "(IIII)Z"⟩
abbrev cX0_lowEnd : ByteArray := prog_1_method_25_code
def yX0_lowEnd : MethodName := ⟨RX0, "lowEnd", "(II)I"⟩
abbrev cX0_highEnd : ByteArray := prog_1_method_26_code
def yX0_highEnd : MethodName := ⟨RX0, "highEnd", "(II)I"⟩
abbrev cX0_samenessHangs : ByteArray := prog_1_method_24_code
def yX0_samenessHangs : MethodName := ⟨RX0, "samenessHangs", "(III)Z"⟩
abbrev cX0_choiceShadow : ByteArray := prog_1_method_17_code
def yX0_choiceShadow : MethodName := ⟨RX0, "choiceShadow", "(III)I"⟩
abbrev cL_store : ByteArray := method_5_code
def yL_store : MethodName := ⟨RL, "store", "(LShadowMath;III)I"⟩
abbrev cX0_store : ByteArray := prog_1_method_4_code
def yX0_store : MethodName := ⟨RX0, "store", "(III)V"⟩
abbrev cX0_checkTransfer : ByteArray := prog_1_method_13_code
def yX0_checkTransfer : MethodName := ⟨RX0, "checkTransfer", "(III)V"⟩
abbrev cL_load : ByteArray := method_6_code
def yL_load : MethodName := ⟨RL, "load", "(LShadowMath;IIIZ)I"⟩
abbrev cX0_load : ByteArray := prog_1_method_5_code
def yX0_load : MethodName := ⟨RX0, "load", "(IIIZ)V"⟩
abbrev cX0_widened : ByteArray := prog_1_method_19_code
def yX0_widened : MethodName := ⟨RX0, "widened", "(IIZ)I"⟩
abbrev cL_value : ByteArray := method_7_code
def yL_value : MethodName := ⟨RL, "value", "(LShadowMath;I[J)I"⟩
abbrev cX0_value : ByteArray := prog_1_method_6_code
def yX0_value : MethodName := ⟨RX0, "value", "(I)I"⟩
abbrev cL_not : ByteArray := method_8_code
def yL_not : MethodName := ⟨RL, "not", "(LShadowMath;I[J)I"⟩
abbrev cX0_not : ByteArray := prog_1_method_7_code
def yX0_not : MethodName := ⟨RX0, "not", "(I)I"⟩
abbrev cL_least : ByteArray := method_9_code
def yL_least : MethodName := ⟨RL, "least", "(LShadowMath;I[J)I"⟩
abbrev cX0_least : ByteArray := prog_1_method_8_code
def yX0_least : MethodName := ⟨RX0, "least", "(I)I"⟩
abbrev cL_greatest : ByteArray := method_10_code
def yL_greatest : MethodName := ⟨RL, "greatest", "(LShadowMath;I[J)I"⟩
abbrev cX0_greatest : ByteArray := prog_1_method_9_code
def yX0_greatest : MethodName := ⟨RX0, "greatest", "(I)I"⟩
abbrev cL_octet : ByteArray := method_11_code
def yL_octet : MethodName := ⟨RL, "octet", "(LShadowMath;I[J)I"⟩
abbrev cX0_octet : ByteArray := prog_1_method_10_code
def yX0_octet : MethodName := ⟨RX0, "octet", "(I)I"⟩
abbrev cX1_init : ByteArray := prog_3_method_1_code
def yX1_init : MethodName := ⟨RX1, "<init>", "()V"⟩
abbrev cX1_thrown : ByteArray := prog_3_method_2_code
def yX1_thrown : MethodName := ⟨RX1, "thrown", "()I"⟩
abbrev cX1_set : ByteArray := prog_3_method_8_code
def yX1_set : MethodName := ⟨RX1, "set", "(III)V"⟩
abbrev cX1_none : ByteArray := prog_3_method_4_code
def yX1_none : MethodName := ⟨RX1, "none", "(I)Z"⟩
abbrev cX1_fails : ByteArray := prog_3_method_3_code
def yX1_fails : MethodName := ⟨RX1, "fails", "(ZI)Z"⟩
abbrev cX1_make : ByteArray := prog_3_method_7_code
def yX1_make : MethodName := ⟨RX1, "make", "(I)V"⟩
abbrev cX1_give : ByteArray := prog_3_method_6_code
def yX1_give : MethodName := ⟨RX1, "give", "(I)V"⟩
abbrev cX1_op : ByteArray := prog_3_method_14_code
def yX1_op : MethodName := ⟨RX1, "op", "(IIII)V"⟩
abbrev cX1_number : ByteArray := prog_3_method_5_code
def yX1_number : MethodName := ⟨RX1, "number", "(I)I"⟩
abbrev cX1_lowest : ByteArray := prog_3_method_11_code
def yX1_lowest : MethodName := ⟨RX1, "lowest", "(I)I"⟩
abbrev cX1_un : ByteArray := prog_3_method_10_code
def yX1_un : MethodName := ⟨RX1, "un", "(II)Z"⟩
abbrev cX1_from : ByteArray := prog_3_method_13_code
def yX1_from : MethodName := ⟨RX1, "from", "(I)V"⟩
abbrev cX1_is : ByteArray := prog_3_method_9_code
def yX1_is : MethodName := ⟨RX1, "is", "(II)Z"⟩
abbrev cX1_shift : ByteArray := prog_3_method_15_code
def yX1_shift : MethodName := ⟨RX1, "shift", "(IIII)V"⟩
abbrev cX1_noughts : ByteArray := prog_3_method_12_code
def yX1_noughts : MethodName := ⟨RX1, "noughts", "(I)I"⟩
abbrev cX1_end : ByteArray := prog_3_method_16_code
def yX1_end : MethodName := ⟨RX1, "end", "(IZZ)J"⟩
abbrev cX1_choose : ByteArray := prog_3_method_17_code
def yX1_choose : MethodName := ⟨RX1, "choose", "(III)V"⟩
abbrev cX1_store : ByteArray := prog_3_method_19_code
def yX1_store : MethodName := ⟨RX1, "store", "(III)V"⟩
abbrev cX1_wrong : ByteArray := prog_3_method_18_code
def yX1_wrong : MethodName := ⟨RX1, "wrong", "(I)Z"⟩
abbrev cX1_load : ByteArray := prog_3_method_20_code
def yX1_load : MethodName := ⟨RX1, "load", "(IIIZ)V"⟩
abbrev cX1_value : ByteArray := prog_3_method_21_code
def yX1_value : MethodName := ⟨RX1, "value", "(I)I"⟩
abbrev cX1_not : ByteArray := prog_3_method_22_code
def yX1_not : MethodName := ⟨RX1, "not", "(I)I"⟩
abbrev cX1_least : ByteArray := prog_3_method_23_code
def yX1_least : MethodName := ⟨RX1, "least", "(I)I"⟩
abbrev cX1_greatest : ByteArray := prog_3_method_24_code
def yX1_greatest : MethodName := ⟨RX1, "greatest", "(I)I"⟩
abbrev cX1_octet : ByteArray := prog_3_method_25_code
def yX1_octet : MethodName := ⟨RX1, "octet", "(I)I"⟩
abbrev cX1_count : ByteArray := prog_3_method_26_code
def yX1_count : MethodName := ⟨RX1, "count", "()I"⟩
abbrev cL_law : ByteArray := code
def yL_law : MethodName := ⟨RL, "law", "([I)Z"⟩
/-- all words of the tables that stay true under warmer tables -/
def smW : List Cond := [.initialized "ShadowMathLaw",
  .initialized "ShadowMath",
  .initialized "ShadowMathModel",
  .initialized "java/lang/Throwable",
  .initialized "java/lang/Exception",
  .initialized "java/lang/RuntimeException",
  .initialized "java/lang/IndexOutOfBoundsException",
  .initialized "java/lang/IllegalArgumentException",
  .initialized "java/lang/Integer",
  .initialized "java/lang/Math",
  .classLink "ShadowMathLaw" 8 "ShadowMath",
  .instantiable "ShadowMath" 3,
  .methodLink "ShadowMathLaw" 44 yX0_init,
  .instanceMethod yX0_init,
  .code yX0_init prog_1_method_1_code 1 none,
  .methodLink "ShadowMath" 3 ⟨"java/lang/Object", "<init>", "()V"⟩,
  .instanceMethod ⟨"java/lang/Object", "<init>", "()V"⟩,
  .code ⟨"java/lang/Object", "<init>", "()V"⟩ object_method_1_code 1 none,
  .fieldLink "ShadowMath" 11 "ShadowMath" "values" "[I",
  .fieldLink "ShadowMath" 15 "ShadowMath" "shadows" "[I",
  .fieldLink "ShadowMath" 18 "ShadowMath" "memory" "[I",
  .laysFinal "ShadowMath" "ShadowMath" "values" "[I",
  .soleField "ShadowMath" "values",
  .laysFinal "ShadowMath" "ShadowMath" "shadows" "[I",
  .soleField "ShadowMath" "shadows",
  .laysFinal "ShadowMath" "ShadowMath" "memory" "[I",
  .soleField "ShadowMath" "memory",
  .superclass "ShadowMath" "java/lang/Object",
  .arrayClass .int,
  .methodLink "ShadowMathLaw" 85 yX0_count,
  .instanceMethod yX0_count,
  .selects "ShadowMath" yX0_count yX0_count,
  .code yX0_count prog_1_method_11_code 3 (some .int),
  .methodLink "ShadowMath" 53 yJ6_bitCount,
  .static yJ6_bitCount,
  .code yJ6_bitCount prog_7_method_49_code 1 (some .int),
  .constant "java/lang/Integer" 265 1431655765,
  .constant "java/lang/Integer" 266 858993459,
  .constant "java/lang/Integer" 267 252645135,
  .methodLink "ShadowMathLaw" 48 yL_set,
  .static yL_set,
  .codeWith yL_set method_3_code 5 (some .int) [(0, 7, 10, 13)],
  .classLink "ShadowMathLaw" 13 "java/lang/IndexOutOfBoundsException",
  .methodLink "ShadowMathLaw" 7 yX0_set,
  .instanceMethod yX0_set,
  .selects "ShadowMath" yX0_set yX0_set,
  .code yX0_set prog_1_method_2_code 4 none,
  .methodLink "ShadowMath" 21 yX0_checkRegister,
  .static yX0_checkRegister,
  .code yX0_checkRegister prog_1_method_12_code 1 none,
  .classLink "ShadowMath" 50 "java/lang/IndexOutOfBoundsException",
  .instantiable "java/lang/IndexOutOfBoundsException" 6,
  .selects "java/lang/IndexOutOfBoundsException" ⟨"java/lang/Throwable", "fillInStackTrace", "(I)Ljava/lang/Throwable;"⟩ ⟨"java/lang/Throwable", "fillInStackTrace", "(I)Ljava/lang/Throwable;"⟩,
  .selects "java/lang/IndexOutOfBoundsException" ⟨"java/lang/Throwable", "fillInStackTrace", "()Ljava/lang/Throwable;"⟩ ⟨"java/lang/Throwable", "fillInStackTrace", "()Ljava/lang/Throwable;"⟩,
  .lays "java/lang/IndexOutOfBoundsException" "java/lang/Throwable" "cause" "Ljava/lang/Throwable;",
  .lays "java/lang/Throwable" "java/lang/Throwable" "cause" "Ljava/lang/Throwable;",
  .lays "java/lang/IndexOutOfBoundsException" "java/lang/Throwable" "stackTrace" "[Ljava/lang/StackTraceElement;",
  .lays "java/lang/Throwable" "java/lang/Throwable" "stackTrace" "[Ljava/lang/StackTraceElement;",
  .lays "java/lang/IndexOutOfBoundsException" "java/lang/Throwable" "suppressedExceptions" "Ljava/util/List;",
  .lays "java/lang/Throwable" "java/lang/Throwable" "suppressedExceptions" "Ljava/util/List;",
  .lays "java/lang/IndexOutOfBoundsException" "java/lang/Throwable" "detailMessage" "Ljava/lang/String;",
  .lays "java/lang/Throwable" "java/lang/Throwable" "detailMessage" "Ljava/lang/String;",
  .lays "java/lang/IndexOutOfBoundsException" "java/lang/Throwable" "backtrace" "Ljava/lang/Object;",
  .lays "java/lang/Throwable" "java/lang/Throwable" "backtrace" "Ljava/lang/Object;",
  .fieldLink "java/lang/Throwable" 198 "java/lang/Throwable" "backtrace" "Ljava/lang/Object;",
  .superclass "java/lang/Throwable" "java/lang/Object",
  .instanceMethod ⟨"java/lang/Throwable", "<init>", "()V"⟩,
  .code ⟨"java/lang/Throwable", "<init>", "()V"⟩ prog_10_method_1_code 1 none,
  .methodLink "java/lang/Throwable" 1 ⟨"java/lang/Object", "<init>", "()V"⟩,
  .fieldLink "java/lang/Throwable" 13 "java/lang/Throwable" "UNASSIGNED_STACK" "[Ljava/lang/StackTraceElement;",
  .fieldLink "java/lang/Throwable" 20 "java/lang/Throwable" "SUPPRESSED_SENTINEL" "Ljava/util/List;",
  .methodLink "java/lang/Throwable" 27 ⟨"java/lang/Throwable", "fillInStackTrace", "()Ljava/lang/Throwable;"⟩,
  .instanceMethod ⟨"java/lang/Throwable", "fillInStackTrace", "()Ljava/lang/Throwable;"⟩,
  .sameMethod "java/lang/Throwable" "java/lang/Throwable" "fillInStackTrace" "()Ljava/lang/Throwable;",
  .selects "java/lang/IllegalArgumentException" ⟨"java/lang/Throwable", "fillInStackTrace", "()Ljava/lang/Throwable;"⟩ ⟨"java/lang/Throwable", "fillInStackTrace", "()Ljava/lang/Throwable;"⟩,
  .codeSync ⟨"java/lang/Throwable", "fillInStackTrace", "()Ljava/lang/Throwable;"⟩ prog_10_method_18_code 1 (some (.object "java/lang/Throwable")),
  .methodLink "java/lang/Throwable" 202 ⟨"java/lang/Throwable", "fillInStackTrace", "(I)Ljava/lang/Throwable;"⟩,
  .instanceMethod ⟨"java/lang/Throwable", "fillInStackTrace", "(I)Ljava/lang/Throwable;"⟩,
  .instantiable "java/lang/Throwable" 6,
  .native ⟨"java/lang/Throwable", "fillInStackTrace", "(I)Ljava/lang/Throwable;"⟩,
  .methodLink "ShadowMath" 52 ⟨"java/lang/IndexOutOfBoundsException", "<init>", "()V"⟩,
  .instanceMethod ⟨"java/lang/IndexOutOfBoundsException", "<init>", "()V"⟩,
  .code ⟨"java/lang/IndexOutOfBoundsException", "<init>", "()V"⟩ prog_6_method_1_code 1 none,
  .methodLink "java/lang/IndexOutOfBoundsException" 1 ⟨"java/lang/RuntimeException", "<init>", "()V"⟩,
  .instanceMethod ⟨"java/lang/RuntimeException", "<init>", "()V"⟩,
  .code ⟨"java/lang/RuntimeException", "<init>", "()V"⟩ prog_9_method_1_code 1 none,
  .methodLink "java/lang/RuntimeException" 1 ⟨"java/lang/Exception", "<init>", "()V"⟩,
  .instanceMethod ⟨"java/lang/Exception", "<init>", "()V"⟩,
  .code ⟨"java/lang/Exception", "<init>", "()V"⟩ prog_4_method_1_code 1 none,
  .methodLink "java/lang/Exception" 1 ⟨"java/lang/Throwable", "<init>", "()V"⟩,
  .fieldLink "java/lang/Throwable" 7 "java/lang/Throwable" "cause" "Ljava/lang/Throwable;",
  .fieldLink "java/lang/Throwable" 17 "java/lang/Throwable" "stackTrace" "[Ljava/lang/StackTraceElement;",
  .fieldLink "java/lang/Throwable" 24 "java/lang/Throwable" "suppressedExceptions" "Ljava/util/List;",
  .soleField "java/lang/Throwable" "backtrace",
  .soleField "java/lang/Throwable" "detailMessage",
  .soleField "java/lang/Throwable" "cause",
  .soleField "java/lang/Throwable" "stackTrace",
  .lays "java/lang/IndexOutOfBoundsException" "java/lang/Throwable" "depth" "I",
  .soleField "java/lang/Throwable" "depth",
  .soleField "java/lang/Throwable" "suppressedExceptions",
  .superclass "java/lang/IndexOutOfBoundsException" "java/lang/RuntimeException",
  .methodLink "ShadowMathLaw" 58 yL_op,
  .static yL_op,
  .codeWith yL_op method_4_code 6 (some .int) [(0, 9, 12, 19), (0, 9, 16, 13)],
  .classLink "ShadowMathLaw" 19 "java/lang/IllegalArgumentException",
  .methodLink "ShadowMathLaw" 15 yX0_op,
  .instanceMethod yX0_op,
  .selects "ShadowMath" yX0_op yX0_op,
  .code yX0_op prog_1_method_3_code 7 none,
  .classLink "ShadowMath" 25 "java/lang/IllegalArgumentException",
  .instantiable "java/lang/IllegalArgumentException" 6,
  .selects "java/lang/IllegalArgumentException" ⟨"java/lang/Throwable", "fillInStackTrace", "(I)Ljava/lang/Throwable;"⟩ ⟨"java/lang/Throwable", "fillInStackTrace", "(I)Ljava/lang/Throwable;"⟩,
  .lays "java/lang/IllegalArgumentException" "java/lang/Throwable" "cause" "Ljava/lang/Throwable;",
  .lays "java/lang/IllegalArgumentException" "java/lang/Throwable" "stackTrace" "[Ljava/lang/StackTraceElement;",
  .lays "java/lang/IllegalArgumentException" "java/lang/Throwable" "suppressedExceptions" "Ljava/util/List;",
  .lays "java/lang/IllegalArgumentException" "java/lang/Throwable" "detailMessage" "Ljava/lang/String;",
  .lays "java/lang/IllegalArgumentException" "java/lang/Throwable" "backtrace" "Ljava/lang/Object;",
  .methodLink "ShadowMath" 27 ⟨"java/lang/IllegalArgumentException", "<init>", "()V"⟩,
  .instanceMethod ⟨"java/lang/IllegalArgumentException", "<init>", "()V"⟩,
  .code ⟨"java/lang/IllegalArgumentException", "<init>", "()V"⟩ prog_5_method_1_code 1 none,
  .methodLink "java/lang/IllegalArgumentException" 1 ⟨"java/lang/RuntimeException", "<init>", "()V"⟩,
  .lays "java/lang/IllegalArgumentException" "java/lang/Throwable" "depth" "I",
  .superclass "java/lang/IllegalArgumentException" "java/lang/RuntimeException",
  .methodLink "ShadowMath" 28 yX0_valueOf,
  .instanceMethod yX0_valueOf,
  .code yX0_valueOf prog_1_method_14_code 7 (some .int),
  .methodLink "ShadowMath" 57 yX0_shifted,
  .static yX0_shifted,
  .code yX0_shifted prog_1_method_18_code 3 (some .int),
  .methodLink "ShadowMath" 61 yX0_bit,
  .static yX0_bit,
  .code yX0_bit prog_1_method_27_code 1 (some .int),
  .methodLink "ShadowMath" 65 yX0_signTurned,
  .static yX0_signTurned,
  .code yX0_signTurned prog_1_method_22_code 1 (some .int),
  .constant "ShadowMath" 97 (-2147483648),
  .methodLink "ShadowMath" 68 yX0_chosen,
  .instanceMethod yX0_chosen,
  .code yX0_chosen prog_1_method_16_code 2 (some .boolean),
  .methodLink "ShadowMath" 32 yX0_shadowOf,
  .instanceMethod yX0_shadowOf,
  .code yX0_shadowOf prog_1_method_15_code 9 (some .int),
  .methodLink "ShadowMath" 72 yJ6_numberOfTrailingZeros,
  .static yJ6_numberOfTrailingZeros,
  .code yJ6_numberOfTrailingZeros prog_7_method_48_code 2 (some .int),
  .constant "java/lang/Integer" 264 65536,
  .methodLink "ShadowMath" 75 yX0_fromPlaceOn,
  .static yX0_fromPlaceOn,
  .code yX0_fromPlaceOn prog_1_method_20_code 1 (some .int),
  .methodLink "ShadowMath" 78 yX0_placeLostBy,
  .static yX0_placeLostBy,
  .code yX0_placeLostBy prog_1_method_21_code 3 (some .int),
  .methodLink "ShadowMath" 81 ⟨"java/lang/Math", "min", "(II)I"⟩,
  .static ⟨"java/lang/Math", "min", "(II)I"⟩,
  .code ⟨"java/lang/Math", "min", "(II)I"⟩ prog_8_method_69_code 2 (some .int),
  .methodLink "ShadowMath" 86 yX0_orderHangs,
  .static yX0_orderHangs,
  .code yX0_orderHangs prog_1_method_23_code 6 (some .boolean),
  .methodLink "ShadowMath" 43 yX0_lowEnd,
  .static yX0_lowEnd,
  .code yX0_lowEnd prog_1_method_25_code 2 (some .int),
  .methodLink "ShadowMath" 47 yX0_highEnd,
  .static yX0_highEnd,
  .code yX0_highEnd prog_1_method_26_code 2 (some .int),
  .constant "ShadowMath" 98 2147483647,
  .methodLink "ShadowMath" 90 yX0_samenessHangs,
  .static yX0_samenessHangs,
  .code yX0_samenessHangs prog_1_method_24_code 3 (some .boolean),
  .methodLink "ShadowMath" 94 yX0_choiceShadow,
  .instanceMethod yX0_choiceShadow,
  .code yX0_choiceShadow prog_1_method_17_code 4 (some .int),
  .methodLink "ShadowMathLaw" 62 yL_store,
  .static yL_store,
  .codeWith yL_store method_5_code 5 (some .int) [(0, 7, 10, 19), (0, 7, 14, 13)],
  .methodLink "ShadowMathLaw" 21 yX0_store,
  .instanceMethod yX0_store,
  .selects "ShadowMath" yX0_store yX0_store,
  .code yX0_store prog_1_method_4_code 8 none,
  .methodLink "ShadowMath" 35 yX0_checkTransfer,
  .static yX0_checkTransfer,
  .code yX0_checkTransfer prog_1_method_13_code 3 none,
  .methodLink "ShadowMathLaw" 65 yL_load,
  .static yL_load,
  .codeWith yL_load method_6_code 6 (some .int) [(0, 9, 12, 19), (0, 9, 16, 13)],
  .methodLink "ShadowMathLaw" 24 yX0_load,
  .instanceMethod yX0_load,
  .selects "ShadowMath" yX0_load yX0_load,
  .code yX0_load prog_1_method_5_code 9 none,
  .methodLink "ShadowMath" 39 yX0_widened,
  .static yX0_widened,
  .code yX0_widened prog_1_method_19_code 4 (some .int),
  .methodLink "ShadowMathLaw" 69 yL_value,
  .static yL_value,
  .codeWith yL_value method_7_code 4 (some .int) [(0, 9, 12, 13)],
  .methodLink "ShadowMathLaw" 28 yX0_value,
  .instanceMethod yX0_value,
  .selects "ShadowMath" yX0_value yX0_value,
  .code yX0_value prog_1_method_6_code 2 (some .int),
  .methodLink "ShadowMathLaw" 73 yL_not,
  .static yL_not,
  .codeWith yL_not method_8_code 4 (some .int) [(0, 9, 12, 13)],
  .methodLink "ShadowMathLaw" 32 yX0_not,
  .instanceMethod yX0_not,
  .selects "ShadowMath" yX0_not yX0_not,
  .code yX0_not prog_1_method_7_code 2 (some .int),
  .methodLink "ShadowMathLaw" 76 yL_least,
  .static yL_least,
  .codeWith yL_least method_9_code 4 (some .int) [(0, 9, 12, 13)],
  .methodLink "ShadowMathLaw" 35 yX0_least,
  .instanceMethod yX0_least,
  .selects "ShadowMath" yX0_least yX0_least,
  .code yX0_least prog_1_method_8_code 2 (some .int),
  .methodLink "ShadowMathLaw" 79 yL_greatest,
  .static yL_greatest,
  .codeWith yL_greatest method_10_code 4 (some .int) [(0, 9, 12, 13)],
  .methodLink "ShadowMathLaw" 38 yX0_greatest,
  .instanceMethod yX0_greatest,
  .selects "ShadowMath" yX0_greatest yX0_greatest,
  .code yX0_greatest prog_1_method_9_code 2 (some .int),
  .methodLink "ShadowMathLaw" 82 yL_octet,
  .static yL_octet,
  .codeWith yL_octet method_11_code 4 (some .int) [(0, 9, 12, 13)],
  .methodLink "ShadowMathLaw" 41 yX0_octet,
  .instanceMethod yX0_octet,
  .selects "ShadowMath" yX0_octet yX0_octet,
  .code yX0_octet prog_1_method_10_code 2 (some .int),
  .classLink "ShadowMathLaw" 45 "ShadowMathModel",
  .instantiable "ShadowMathModel" 7,
  .methodLink "ShadowMathLaw" 47 yX1_init,
  .instanceMethod yX1_init,
  .code yX1_init prog_3_method_1_code 1 none,
  .methodLink "ShadowMathModel" 1 ⟨"java/lang/Object", "<init>", "()V"⟩,
  .fieldLink "ShadowMathModel" 28 "ShadowMathModel" "err" "I",
  .fieldLink "ShadowMathModel" 7 "ShadowMathModel" "bit" "[Z",
  .fieldLink "ShadowMathModel" 13 "ShadowMathModel" "lost" "[Z",
  .fieldLink "ShadowMathModel" 16 "ShadowMathModel" "octetBit" "[Z",
  .fieldLink "ShadowMathModel" 19 "ShadowMathModel" "octetLost" "[Z",
  .fieldLink "ShadowMathModel" 22 "ShadowMathModel" "out" "[Z",
  .fieldLink "ShadowMathModel" 25 "ShadowMathModel" "gone" "[Z",
  .lays "ShadowMathModel" "ShadowMathModel" "err" "I",
  .soleField "ShadowMathModel" "err",
  .laysFinal "ShadowMathModel" "ShadowMathModel" "bit" "[Z",
  .soleField "ShadowMathModel" "bit",
  .laysFinal "ShadowMathModel" "ShadowMathModel" "lost" "[Z",
  .soleField "ShadowMathModel" "lost",
  .laysFinal "ShadowMathModel" "ShadowMathModel" "octetBit" "[Z",
  .soleField "ShadowMathModel" "octetBit",
  .laysFinal "ShadowMathModel" "ShadowMathModel" "octetLost" "[Z",
  .soleField "ShadowMathModel" "octetLost",
  .laysFinal "ShadowMathModel" "ShadowMathModel" "out" "[Z",
  .soleField "ShadowMathModel" "out",
  .laysFinal "ShadowMathModel" "ShadowMathModel" "gone" "[Z",
  .soleField "ShadowMathModel" "gone",
  .superclass "ShadowMathModel" "java/lang/Object",
  .arrayClass .boolean,
  .methodLink "ShadowMathLaw" 54 yX1_thrown,
  .instanceMethod yX1_thrown,
  .selects "ShadowMathModel" yX1_thrown yX1_thrown,
  .code yX1_thrown prog_3_method_2_code 1 (some .int),
  .methodLink "ShadowMathLaw" 53 yX1_set,
  .instanceMethod yX1_set,
  .selects "ShadowMathModel" yX1_set yX1_set,
  .code yX1_set prog_3_method_8_code 5 none,
  .methodLink "ShadowMathModel" 32 yX1_none,
  .static yX1_none,
  .code yX1_none prog_3_method_4_code 1 (some .boolean),
  .methodLink "ShadowMathModel" 36 yX1_fails,
  .instanceMethod yX1_fails,
  .code yX1_fails prog_3_method_3_code 3 (some .boolean),
  .methodLink "ShadowMathModel" 40 yX1_make,
  .instanceMethod yX1_make,
  .code yX1_make prog_3_method_7_code 3 none,
  .methodLink "ShadowMathModel" 44 yX1_give,
  .instanceMethod yX1_give,
  .code yX1_give prog_3_method_6_code 3 none,
  .methodLink "ShadowMathLaw" 61 yX1_op,
  .instanceMethod yX1_op,
  .selects "ShadowMathModel" yX1_op yX1_op,
  .code yX1_op prog_3_method_14_code 11 none,
  .methodLink "ShadowMathModel" 54 yX1_number,
  .instanceMethod yX1_number,
  .code yX1_number prog_3_method_5_code 4 (some .int),
  .methodLink "ShadowMathModel" 58 yX1_lowest,
  .instanceMethod yX1_lowest,
  .code yX1_lowest prog_3_method_11_code 3 (some .int),
  .methodLink "ShadowMathModel" 47 yX1_un,
  .instanceMethod yX1_un,
  .code yX1_un prog_3_method_10_code 3 (some .boolean),
  .methodLink "ShadowMathModel" 61 yX1_from,
  .instanceMethod yX1_from,
  .code yX1_from prog_3_method_13_code 3 none,
  .methodLink "ShadowMathModel" 51 yX1_is,
  .instanceMethod yX1_is,
  .code yX1_is prog_3_method_9_code 3 (some .boolean),
  .methodLink "ShadowMathModel" 64 yX1_shift,
  .instanceMethod yX1_shift,
  .code yX1_shift prog_3_method_15_code 8 none,
  .methodLink "ShadowMathModel" 68 yX1_noughts,
  .instanceMethod yX1_noughts,
  .code yX1_noughts prog_3_method_12_code 3 (some .int),
  .methodLink "ShadowMathModel" 71 yX1_end,
  .instanceMethod yX1_end,
  .code yX1_end prog_3_method_16_code 9 (some .long),
  .constantLong "ShadowMathModel" 75 4294967295,
  .methodLink "ShadowMathModel" 77 yX1_choose,
  .instanceMethod yX1_choose,
  .code yX1_choose prog_3_method_17_code 6 none,
  .methodLink "ShadowMathLaw" 64 yX1_store,
  .instanceMethod yX1_store,
  .selects "ShadowMathModel" yX1_store yX1_store,
  .code yX1_store prog_3_method_19_code 5 none,
  .methodLink "ShadowMathModel" 81 yX1_wrong,
  .static yX1_wrong,
  .code yX1_wrong prog_3_method_18_code 1 (some .boolean),
  .methodLink "ShadowMathLaw" 68 yX1_load,
  .instanceMethod yX1_load,
  .selects "ShadowMathModel" yX1_load yX1_load,
  .code yX1_load prog_3_method_20_code 8 none,
  .methodLink "ShadowMathLaw" 72 yX1_value,
  .instanceMethod yX1_value,
  .selects "ShadowMathModel" yX1_value yX1_value,
  .code yX1_value prog_3_method_21_code 2 (some .int),
  .methodLink "ShadowMathLaw" 75 yX1_not,
  .instanceMethod yX1_not,
  .selects "ShadowMathModel" yX1_not yX1_not,
  .code yX1_not prog_3_method_22_code 4 (some .int),
  .methodLink "ShadowMathLaw" 78 yX1_least,
  .instanceMethod yX1_least,
  .selects "ShadowMathModel" yX1_least yX1_least,
  .code yX1_least prog_3_method_23_code 2 (some .int),
  .methodLink "ShadowMathLaw" 81 yX1_greatest,
  .instanceMethod yX1_greatest,
  .selects "ShadowMathModel" yX1_greatest yX1_greatest,
  .code yX1_greatest prog_3_method_24_code 2 (some .int),
  .methodLink "ShadowMathLaw" 84 yX1_octet,
  .instanceMethod yX1_octet,
  .selects "ShadowMathModel" yX1_octet yX1_octet,
  .code yX1_octet prog_3_method_25_code 4 (some .int),
  .methodLink "ShadowMathLaw" 88 yX1_count,
  .instanceMethod yX1_count,
  .selects "ShadowMathModel" yX1_count yX1_count,
  .code yX1_count prog_3_method_26_code 3 (some .int),
  .arrayClass .long,
  .sameMethod "java/lang/Throwable" "java/lang/Throwable" "fillInStackTrace" "(I)Ljava/lang/Throwable;",
  .selects "ShadowMath" yX0_valueOf yX0_valueOf,
  .selects "ShadowMath" yX0_chosen yX0_chosen,
  .selects "ShadowMath" yX0_shadowOf yX0_shadowOf,
  .selects "ShadowMath" yX0_choiceShadow yX0_choiceShadow,
  .selects "ShadowMathModel" yX1_fails yX1_fails,
  .selects "ShadowMathModel" yX1_make yX1_make,
  .selects "ShadowMathModel" yX1_give yX1_give,
  .selects "ShadowMathModel" yX1_number yX1_number,
  .selects "ShadowMathModel" yX1_lowest yX1_lowest,
  .selects "ShadowMathModel" yX1_un yX1_un,
  .selects "ShadowMathModel" yX1_from yX1_from,
  .selects "ShadowMathModel" yX1_is yX1_is,
  .selects "ShadowMathModel" yX1_shift yX1_shift,
  .selects "ShadowMathModel" yX1_noughts yX1_noughts,
  .selects "ShadowMathModel" yX1_end yX1_end,
  .selects "ShadowMathModel" yX1_choose yX1_choose]
set_option maxRecDepth 20000 in
theorem smW_good : smW.all goodWord = true := by decide +kernel
set_option maxRecDepth 100000 in
theorem smW_eq : smW = ([17, 18, 19, 20, 21, 22, 23, 24, 25, 26, 27, 28, 29, 30, 31, 32, 33, 34, 35, 36, 37, 38, 39, 40, 41, 42, 43, 44, 45, 46, 47, 48, 49, 50, 51, 52, 53, 54, 55, 56, 57, 58, 59, 60, 61, 62, 63, 64, 65, 66, 67, 68, 76, 77, 78, 79, 80, 81, 82, 83, 84, 85, 86, 87, 88, 89, 90, 91, 92, 93, 95, 97, 98, 99, 100, 101, 102, 104, 105, 106, 107, 108, 109, 110, 111, 112, 113, 114, 115, 116, 118, 119, 120, 121, 122, 123, 124, 125, 126, 127, 128, 129, 130, 131, 132, 133, 134, 135, 136, 137, 138, 140, 141, 142, 143, 144, 145, 146, 147, 148, 149, 150, 151, 152, 154, 155, 156, 157, 158, 159, 160, 161, 162, 163, 164, 165, 166, 168, 169, 170, 172, 173, 174, 175, 176, 177, 178, 179, 180, 181, 182, 183, 184, 185, 186, 187, 188, 189, 190, 191, 192, 193, 194, 195, 196, 197, 198, 199, 200, 202, 203, 204, 205, 206, 207, 208, 209, 210, 211, 212, 213, 214, 215, 216, 217, 218, 219, 220, 221, 222, 223, 224, 225, 226, 227, 228, 229, 230, 231, 232, 233, 234, 235, 236, 237, 238, 239, 240, 241, 242, 243, 244, 245, 246, 247, 248, 249, 250, 251, 252, 253, 254, 255, 256, 257, 258, 259, 260, 261, 262, 263, 264, 265, 266, 267, 268, 269, 270, 271, 272, 273, 274, 275, 276, 277, 278, 279, 280, 281, 282, 283, 284, 285, 286, 287, 288, 289, 290, 291, 292, 293, 294, 295, 296, 297, 298, 299, 301, 302, 303, 305, 306, 307, 309, 310, 311, 312, 313, 314, 315, 317, 318, 319, 321, 322, 323, 325, 326, 327, 329, 330, 331, 333, 334, 335, 337, 338, 339, 341, 342, 343, 345, 346, 347, 348, 350, 351, 352, 353, 354, 355, 356, 357, 358, 359, 360, 361, 362, 363, 364, 365, 366, 367, 368, 369, 370, 371, 372, 373, 374, 375, 376, 377, 378, 379, 380, 381, 382, 383, 384, 385, 386, 387, 388, 1, 2, 3, 4, 5, 6, 7, 8, 9, 10, 11, 12, 13, 14, 15, 16] : List Nat).filterMap (fun i => lw_tbl[i]?) := by rfl
theorem smW_in : ∀ w ∈ smW, w ∈ lw_tbl := fun w h => by
  rw [smW_eq] at h
  obtain ⟨i, -, hi⟩ := List.mem_filterMap.mp h
  exact List.mem_of_getElem? hi
abbrev wsX0_init : List Cond := .code yX0_init prog_1_method_1_code 1 none :: smW
abbrev wsX0_count : List Cond := .code yX0_count prog_1_method_11_code 3 (some .int) :: smW
abbrev wsJ6_bitCount : List Cond := .code yJ6_bitCount prog_7_method_49_code 1 (some .int) :: smW
abbrev wsL_set : List Cond := .codeWith yL_set method_3_code 5 (some .int) [(0, 7, 10, 13)] :: smW
abbrev wsX0_set : List Cond := .code yX0_set prog_1_method_2_code 4 none :: smW
abbrev wsX0_checkRegister : List Cond := .code yX0_checkRegister prog_1_method_12_code 1 none :: smW
abbrev wsL_op : List Cond := .codeWith yL_op method_4_code 6 (some .int) [(0, 9, 12, 19), (0, 9, 16, 13)] :: smW
abbrev wsX0_op : List Cond := .code yX0_op prog_1_method_3_code 7 none :: smW
abbrev wsX0_valueOf : List Cond := .code yX0_valueOf prog_1_method_14_code 7 (some .int) :: smW
abbrev wsX0_shifted : List Cond := .code yX0_shifted prog_1_method_18_code 3 (some .int) :: smW
abbrev wsX0_bit : List Cond := .code yX0_bit prog_1_method_27_code 1 (some .int) :: smW
abbrev wsX0_signTurned : List Cond := .code yX0_signTurned prog_1_method_22_code 1 (some .int) :: smW
abbrev wsX0_chosen : List Cond := .code yX0_chosen prog_1_method_16_code 2 (some .boolean) :: smW
abbrev wsX0_shadowOf : List Cond := .code yX0_shadowOf prog_1_method_15_code 9 (some .int) :: smW
abbrev wsJ6_numberOfTrailingZeros : List Cond := .code yJ6_numberOfTrailingZeros prog_7_method_48_code 2 (some .int) :: smW
abbrev wsX0_fromPlaceOn : List Cond := .code yX0_fromPlaceOn prog_1_method_20_code 1 (some .int) :: smW
abbrev wsX0_placeLostBy : List Cond := .code yX0_placeLostBy prog_1_method_21_code 3 (some .int) :: smW
abbrev wsX0_orderHangs : List Cond := .code yX0_orderHangs prog_1_method_23_code 6 (some .boolean) :: smW
abbrev wsX0_lowEnd : List Cond := .code yX0_lowEnd prog_1_method_25_code 2 (some .int) :: smW
abbrev wsX0_highEnd : List Cond := .code yX0_highEnd prog_1_method_26_code 2 (some .int) :: smW
abbrev wsX0_samenessHangs : List Cond := .code yX0_samenessHangs prog_1_method_24_code 3 (some .boolean) :: smW
abbrev wsX0_choiceShadow : List Cond := .code yX0_choiceShadow prog_1_method_17_code 4 (some .int) :: smW
abbrev wsL_store : List Cond := .codeWith yL_store method_5_code 5 (some .int) [(0, 7, 10, 19), (0, 7, 14, 13)] :: smW
abbrev wsX0_store : List Cond := .code yX0_store prog_1_method_4_code 8 none :: smW
abbrev wsX0_checkTransfer : List Cond := .code yX0_checkTransfer prog_1_method_13_code 3 none :: smW
abbrev wsL_load : List Cond := .codeWith yL_load method_6_code 6 (some .int) [(0, 9, 12, 19), (0, 9, 16, 13)] :: smW
abbrev wsX0_load : List Cond := .code yX0_load prog_1_method_5_code 9 none :: smW
abbrev wsX0_widened : List Cond := .code yX0_widened prog_1_method_19_code 4 (some .int) :: smW
abbrev wsL_value : List Cond := .codeWith yL_value method_7_code 4 (some .int) [(0, 9, 12, 13)] :: smW
abbrev wsX0_value : List Cond := .code yX0_value prog_1_method_6_code 2 (some .int) :: smW
abbrev wsL_not : List Cond := .codeWith yL_not method_8_code 4 (some .int) [(0, 9, 12, 13)] :: smW
abbrev wsX0_not : List Cond := .code yX0_not prog_1_method_7_code 2 (some .int) :: smW
abbrev wsL_least : List Cond := .codeWith yL_least method_9_code 4 (some .int) [(0, 9, 12, 13)] :: smW
abbrev wsX0_least : List Cond := .code yX0_least prog_1_method_8_code 2 (some .int) :: smW
abbrev wsL_greatest : List Cond := .codeWith yL_greatest method_10_code 4 (some .int) [(0, 9, 12, 13)] :: smW
abbrev wsX0_greatest : List Cond := .code yX0_greatest prog_1_method_9_code 2 (some .int) :: smW
abbrev wsL_octet : List Cond := .codeWith yL_octet method_11_code 4 (some .int) [(0, 9, 12, 13)] :: smW
abbrev wsX0_octet : List Cond := .code yX0_octet prog_1_method_10_code 2 (some .int) :: smW
abbrev wsX1_init : List Cond := .code yX1_init prog_3_method_1_code 1 none :: smW
abbrev wsX1_thrown : List Cond := .code yX1_thrown prog_3_method_2_code 1 (some .int) :: smW
abbrev wsX1_set : List Cond := .code yX1_set prog_3_method_8_code 5 none :: smW
abbrev wsX1_none : List Cond := .code yX1_none prog_3_method_4_code 1 (some .boolean) :: smW
abbrev wsX1_fails : List Cond := .code yX1_fails prog_3_method_3_code 3 (some .boolean) :: smW
abbrev wsX1_make : List Cond := .code yX1_make prog_3_method_7_code 3 none :: smW
abbrev wsX1_give : List Cond := .code yX1_give prog_3_method_6_code 3 none :: smW
abbrev wsX1_op : List Cond := .code yX1_op prog_3_method_14_code 11 none :: smW
abbrev wsX1_number : List Cond := .code yX1_number prog_3_method_5_code 4 (some .int) :: smW
abbrev wsX1_lowest : List Cond := .code yX1_lowest prog_3_method_11_code 3 (some .int) :: smW
abbrev wsX1_un : List Cond := .code yX1_un prog_3_method_10_code 3 (some .boolean) :: smW
abbrev wsX1_from : List Cond := .code yX1_from prog_3_method_13_code 3 none :: smW
abbrev wsX1_is : List Cond := .code yX1_is prog_3_method_9_code 3 (some .boolean) :: smW
abbrev wsX1_shift : List Cond := .code yX1_shift prog_3_method_15_code 8 none :: smW
abbrev wsX1_noughts : List Cond := .code yX1_noughts prog_3_method_12_code 3 (some .int) :: smW
abbrev wsX1_end : List Cond := .code yX1_end prog_3_method_16_code 9 (some .long) :: smW
abbrev wsX1_choose : List Cond := .code yX1_choose prog_3_method_17_code 6 none :: smW
abbrev wsX1_store : List Cond := .code yX1_store prog_3_method_19_code 5 none :: smW
abbrev wsX1_wrong : List Cond := .code yX1_wrong prog_3_method_18_code 1 (some .boolean) :: smW
abbrev wsX1_load : List Cond := .code yX1_load prog_3_method_20_code 8 none :: smW
abbrev wsX1_value : List Cond := .code yX1_value prog_3_method_21_code 2 (some .int) :: smW
abbrev wsX1_not : List Cond := .code yX1_not prog_3_method_22_code 4 (some .int) :: smW
abbrev wsX1_least : List Cond := .code yX1_least prog_3_method_23_code 2 (some .int) :: smW
abbrev wsX1_greatest : List Cond := .code yX1_greatest prog_3_method_24_code 2 (some .int) :: smW
abbrev wsX1_octet : List Cond := .code yX1_octet prog_3_method_25_code 4 (some .int) :: smW
abbrev wsX1_count : List Cond := .code yX1_count prog_3_method_26_code 3 (some .int) :: smW
theorem sm_hw {c0 : Cond} {args : Array Value} {s : State} (h : ∀ w ∈ c0 :: smW, w.before args s = true) (k : Nat) {w : Cond} (hk : smW[k]? = some w) : w.before args s = true := h w (List.mem_cons_of_mem _ (List.mem_of_getElem? hk))
theorem sm_gd {c0 : Cond} {w : Cond} (h : w ∈ smW) : w ∈ c0 :: smW ∧ ((w.onTables && w.keeps) = true ∨ ∃ ty, w = .arrayClass ty) := ⟨List.mem_cons_of_mem _ h, good_of_word (List.all_eq_true.mp smW_good w h)⟩
theorem sm_gV {c0 w' : Cond} {own C : String} {idx i1 i2 i3 i4 i5 : Nat} {y : MethodName} (h1 : smW[i1]? = some (.methodLink own idx y)) (h2 : smW[i2]? = some (.instanceMethod y)) (h3 : smW[i3]? = some (.selects C y y)) (h4 : smW[i4]? = some (.initialized C)) (h5 : smW[i5]? = some w') : GoodIn (c0 :: smW) (wsV own idx C y (w' :: smW)) := by
  intro w hw
  simp only [wsV, List.mem_append, List.mem_cons, List.not_mem_nil, or_false] at hw
  rcases hw with (rfl | rfl | rfl | rfl) | rfl | hw
  · exact sm_gd (List.mem_of_getElem? h1)
  · exact sm_gd (List.mem_of_getElem? h2)
  · exact sm_gd (List.mem_of_getElem? h3)
  · exact sm_gd (List.mem_of_getElem? h4)
  · exact sm_gd (List.mem_of_getElem? h5)
  · exact sm_gd hw
theorem sm_gS {c0 w' : Cond} {own : String} {idx i1 i2 i4 i5 : Nat} {y : MethodName} (h1 : smW[i1]? = some (.methodLink own idx y)) (h2 : smW[i2]? = some (.static y)) (h4 : smW[i4]? = some (.initialized y.cls)) (h5 : smW[i5]? = some w') : GoodIn (c0 :: smW) (va_wsS own idx y (w' :: smW)) := by
  intro w hw
  simp only [va_wsS, List.mem_append, List.mem_cons, List.not_mem_nil, or_false] at hw
  rcases hw with (rfl | rfl | rfl) | rfl | hw
  · exact sm_gd (List.mem_of_getElem? h1)
  · exact sm_gd (List.mem_of_getElem? h2)
  · exact sm_gd (List.mem_of_getElem? h4)
  · exact sm_gd (List.mem_of_getElem? h5)
  · exact sm_gd hw
theorem sm_gI {c0 w' : Cond} {i5 : Nat} (h5 : smW[i5]? = some w') : GoodIn (c0 :: smW) (w' :: smW) := by
  intro w hw
  rcases List.mem_cons.mp hw with rfl | hw
  · exact sm_gd (List.mem_of_getElem? h5)
  · exact sm_gd hw
theorem inX0 {c0 : Cond} : ∀ w ∈ u_ws RX0 TX0 3, w ∈ c0 :: smW := fun w h => List.mem_cons_of_mem _ ((by decide +kernel : ∀ w ∈ u_ws RX0 TX0 3, w ∈ smW) w h)
theorem inX1 {c0 : Cond} : ∀ w ∈ u_ws RX1 TX1 7, w ∈ c0 :: smW := fun w h => List.mem_cons_of_mem _ ((by decide +kernel : ∀ w ∈ u_ws RX1 TX1 7, w ∈ smW) w h)
end
section
/-! deterministic contracts: a method, from the cells w0 and the arguments av, answers rv and leaves the cells w1; nothing else of the old heap changes -/
def sm_P (D : va_G) (cl : List vw_C) (tys : List (ClassId × FieldType)) (w0 : va_W) (sz : Nat) (U : State) : Prop := U.heap.size = sz ∧ va_P D cl w0 U.heap ∧ va_K D cl tys U ∧ va_D (fun _ => True) w0
def sm_Q (D : va_G) (cl : List vw_C) (w0 w1 : va_W) (sz : Nat) (rv : Option Value) : Array Value → State → Outcome → State → Prop := fun _ st oc t => (oc = .returned rv ∧ va_P D cl w1 t.heap ∧ va_D (va_A w0 sz) w1) ∧ va_F (va_A w0 sz) st t
def sm_C (l : Launch) (y : MethodName) (ws : List Cond) (rm : Room) (D : va_G) (cl : List vw_C) (tys : List (ClassId × FieldType)) (av : List Value) (w0 : va_W) (rv : Option Value) (w1 : va_W) : Prop :=
  ∀ sz : Nat, Met l y ws rm (va_Pc av (sm_P D cl tys w0 sz)) (sm_Q D cl w0 w1 sz rv) rm.cells rm.slots (va_A w0 sz)
theorem sm_blind {D : va_G} {cl : List vw_C} {tys : List (ClassId × FieldType)} {w0 : va_W} {sz : Nat} {av : List Value} : FrameBlind (va_Pc av (sm_P D cl tys w0 sz)) :=
  fun a U g mk q => ⟨q.1, q.2.1, q.2.2.1, va_K.moved (u := U) (U := U.calling g mk a) (Vm.Alike.refl U.vm) q.2.2.2.1, q.2.2.2.2⟩
theorem sm_fm {α β : Type} {f : α → Option β} : ∀ {is : List α} {w : List β}, is.map f = w.map some → is.filterMap f = w
  | [], [], _ => rfl
  | [], _ :: _, h => by simp at h
  | _ :: _, [], h => by simp at h
  | a :: is, b :: w, h => by
    simp only [List.map_cons, List.cons.injEq] at h
    rw [List.filterMap_cons, h.1]
    simp only [sm_fm h.2]
section SMC
variable {p : Program} {l : Launch} {e : Env} {R : Room} {s : State} {m : MethodId} {args : Array Value} {below : List Frame} {meth : Method} {c : Code} {H : Heap} {locs : List Loc} {cells slots : Nat} {Q : State → Prop}
variable {pc : Nat} {ls : Array Slot} {rest st0 : List Value} {a : Array Value} {A0 : Nat → Prop} {H0 : Heap} {mc ms : Nat} {D : va_G} {cl : List vw_C} {tys tysc : List (ClassId × FieldType)} {ws wc wr w1 wn : va_W} {rv : Option Value} {st1 : List Value}
/-- behind a call: the rest of the caller's cells, then the callee's -/
theorem sm_after (hr : va_Run p l e R s m args below meth c H locs cells slots mc ms (F0 m pc ls st0) rest (sm_Q D cl wc w1 H.size rv a) (va_A wc H.size))
    (hP : va_P D cl ws H) (hD : va_D A0 ws) (hS : va_S A0 H0 H locs) (hA : ∀ q, H0.size ≤ q → A0 q) (isC isR : List Nat) (hC : isC.map (fun i => ws[i]?) = wc.map some) (hR : isR.map (fun i => ws[i]?) = wr.map some) (hn : va_nd isR = true) (hdis : ∀ i ∈ isR, i ∉ isC)
    (hwn : wr ++ w1 = wn) (hs1 : rv.toList ++ rest = st1) (kk : ∀ (H1 : Heap) (locs1 : List Loc), va_P D cl wn H1 → va_D A0 wn → va_S A0 H0 H1 locs1 → W p l e R s m args below meth c H1 locs1 (cells + mc) (slots + ms) Q (F0 m (pc + 3) ls st1)) : W p l e R s m args below meth c H locs cells slots Q (F0 m pc ls st0) := by
  have hF := va_free (wc := wc) hD hS hA isC hC
  subst hwn; subst hs1
  intro T hT X
  obtain ⟨v, st₀, t, T', L, h0, X', hL, e1, e2, ⟨⟨hv, hp1, hd1⟩, hz, hk⟩, st⟩ := hr T hT X
  cases hv
  rw [h0] at hz hk
  have hk' : ∀ q : Nat, q < H.size → ¬ va_A wc H.size q → T'.heap[q]? = H[q]? := fun q h1 h2 => by rw [e1]; exact hk q h1 h2
  obtain ⟨jP, jD⟩ := va_join (w1 := w1) hP hD isC isR hC hR hn hdis hk' hF (by rw [e1]; exact hp1) hd1
  obtain ⟨t2, a1, b1⟩ := kk T'.heap (locs ++ L) jP jD
    ⟨Nat.le_trans hS.1 (by rw [e1]; exact hz), fun q h1 h2 => by rw [e1, hk q (Nat.lt_of_lt_of_le h1 hS.1) (fun z => h2 (hF q z))]; exact hS.2.1 q h1 h2, fun q hq => by
      rcases List.mem_append.mp hq with h | h
      · exact hS.2.2 q h
      · exact hF _ (hL q h)⟩ T' rfl X'
  exact ⟨t2, st t2 a1, b1⟩
variable {y : MethodName} {bytes cc : ByteArray} {maxL nL n index : Nat} {ret : Option FieldType} {wz : List Cond} {rm : Room} {Ts : List Cond} {own C : String} {b : Nat} {As : List Value}
theorem sm_pre {av : List Value} (hK : va_K D cl tys s) (hP : va_P D cl wc H) (hD : va_D A0 wc) : ∀ U : State, U.heap = H → s.WarmedH U.vm → va_Pc av (sm_P D cl tys wc H.size) av.toArray U :=
  fun U hU hW => ⟨rfl, by rw [hU], by rw [hU]; exact hP, va_K.moved hW.alike hK, hD.weaken (fun _ _ _ _ => trivial)⟩
/-- a static method -/
theorem sm_callS (S : CallFix p m c cc nL s args Ts own) (hC : sm_C l y wz rm D cl tysc As wc rv w1) (cw : CallB R s args own index y bytes maxL ret wz rm rm.cells rm.slots n ∧ (Cond.static y).before args s = true)
    (hK : va_K D cl tys s) (tis : List Nat) (hti : tis.filterMap (fun i => tys[i]?) = tysc) (hP : va_P D cl ws H) (hD : va_D A0 ws) (hS : va_S A0 H0 H locs) (hA : ∀ q, H0.size ≤ q → A0 q)
    (isC isR : List Nat) (hCm : isC.map (fun i => ws[i]?) = wc.map some) (hRm : isR.map (fun i => ws[i]?) = wr.map some) (hnC : va_nd isC = true) (hnR : va_nd isR = true) (hdis : ∀ i ∈ isR, i ∉ isC)
    (hn : As.length = n) (hsize : ls.size = nL) (hst : st0 = As.reverse ++ rest) (hW : (rest.map fun v => v.category).sum ≤ 8) (hdg : decode cc pc = .ok (.invokestatic index, 3)) (hf : cells + rm.cells ≤ R.cells ∧ slots + rm.slots ≤ R.slots)
    (hwn : wr ++ w1 = wn) (hs1 : rv.toList ++ rest = st1) (kk : ∀ (H1 : Heap) (locs1 : List Loc), va_P D cl wn H1 → va_D A0 wn → va_S A0 H0 H1 locs1 → W p l e R s m args below meth c H1 locs1 (cells + rm.cells) (slots + rm.slots) Q (F0 m (pc + 3) ls st1)) : W p l e R s m args below meth c H locs cells slots Q (F0 m pc ls st0) :=
  sm_after (va_runS (g := F0 m pc ls st0) S (hC H.size) cw ⟨sm_blind, sm_pre (hK.sub tis hti) (hP.sub isC (sm_fm hCm)) (hD.sub isC hnC hCm)⟩ rfl hn hsize hst (lv_room hW) hdg hf) hP hD hS hA isC isR hCm hRm hnR hdis hwn hs1 kk
/-- an instance method, of a receiver whose class is known -/
theorem sm_callV (S : CallFix p m c cc nL s args Ts own) (hC : sm_C l y wz rm D cl tysc (.ref b :: As) wc rv w1) (cw : CallW R s args own C index y bytes maxL ret wz rm rm.cells rm.slots n)
    (hK : va_K D cl tys s) (tis : List Nat) (hti : tis.filterMap (fun i => tys[i]?) = tysc) (hP : va_P D cl ws H) (hD : va_D A0 ws) (hS : va_S A0 H0 H locs) (hA : ∀ q, H0.size ≤ q → A0 q)
    (q0 : Nat) {ci : Nat} {fs : List Value} {T : u_T} {N : Nat} (he : ws[q0]? = some (b, .inr (ci, fs))) (hc : cl[ci]? = some (C, T, N))
    (isC isR : List Nat) (hCm : isC.map (fun i => ws[i]?) = wc.map some) (hRm : isR.map (fun i => ws[i]?) = wr.map some) (hnC : va_nd isC = true) (hnR : va_nd isR = true) (hdis : ∀ i ∈ isR, i ∉ isC)
    (hn : As.length = n) (hsize : ls.size = nL) (hst : st0 = As.reverse ++ .ref b :: rest) (hW : (rest.map fun v => v.category).sum ≤ 8) (hdg : decode cc pc = .ok (.invokevirtual index, 3)) (hf : cells + rm.cells ≤ R.cells ∧ slots + rm.slots ≤ R.slots)
    (hwn : wr ++ w1 = wn) (hs1 : rv.toList ++ rest = st1) (kk : ∀ (H1 : Heap) (locs1 : List Loc), va_P D cl wn H1 → va_D A0 wn → va_S A0 H0 H1 locs1 → W p l e R s m args below meth c H1 locs1 (cells + rm.cells) (slots + rm.slots) Q (F0 m (pc + 3) ls st1)) : W p l e R s m args below meth c H locs cells slots Q (F0 m pc ls st0) :=
  sm_after (va_runV (g := F0 m pc ls st0) S (hC H.size) cw ⟨sm_blind, va_recv hK hP hc he, sm_pre (hK.sub tis hti) (hP.sub isC (sm_fm hCm)) (hD.sub isC hnC hCm)⟩ rfl hn hsize hst (lv_room hW) hdg hf) hP hD hS hA isC isR hCm hRm hnR hdis hwn hs1 kk
/-- a constructor -/
theorem sm_callI (S : CallFix p m c cc nL s args Ts own) (hC : sm_C l y wz rm D cl tysc (.ref b :: As) wc rv w1) (cw : CallB R s args own index y bytes maxL none wz rm rm.cells rm.slots n ∧ y.name = "<init>" ∧ (Cond.instanceMethod y).before args s = true)
    (hK : va_K D cl tys s) (tis : List Nat) (hti : tis.filterMap (fun i => tys[i]?) = tysc) (hP : va_P D cl ws H) (hD : va_D A0 ws) (hS : va_S A0 H0 H locs) (hA : ∀ q, H0.size ≤ q → A0 q)
    (isC isR : List Nat) (hCm : isC.map (fun i => ws[i]?) = wc.map some) (hRm : isR.map (fun i => ws[i]?) = wr.map some) (hnC : va_nd isC = true) (hnR : va_nd isR = true) (hdis : ∀ i ∈ isR, i ∉ isC)
    (hn : As.length = n) (hsize : ls.size = nL) (hst : st0 = As.reverse ++ .ref b :: rest) (hW : (rest.map fun v => v.category).sum ≤ 8) (hdg : decode cc pc = .ok (.invokespecial index, 3)) (hf : cells + rm.cells ≤ R.cells ∧ slots + rm.slots ≤ R.slots)
    (hwn : wr ++ w1 = wn) (hs1 : rv.toList ++ rest = st1) (kk : ∀ (H1 : Heap) (locs1 : List Loc), va_P D cl wn H1 → va_D A0 wn → va_S A0 H0 H1 locs1 → W p l e R s m args below meth c H1 locs1 (cells + rm.cells) (slots + rm.slots) Q (F0 m (pc + 3) ls st1)) : W p l e R s m args below meth c H locs cells slots Q (F0 m pc ls st0) :=
  sm_after (va_runI (g := F0 m pc ls st0) S (hC H.size) cw ⟨sm_blind, sm_pre (hK.sub tis hti) (hP.sub isC (sm_fm hCm)) (hD.sub isC hnC hCm)⟩ rfl hn hsize hst (lv_room hW) hdg hf) hP hD hS hA isC isR hCm hRm hnR hdis hwn hs1 kk
/-- answers -/
theorem sm_iret {v : Int32} (hx : p.tables.exec = Jvm.exec) (hb : c.code = cc) (hr : meth.sig.returnType = some .int) (hlocks : meth.locks = false) (hS : va_S (va_A wc s.heap.size) s.heap H locs) (hP : va_P D cl w1 H) (hD : va_D (va_A wc s.heap.size) w1)
    (hdg : decode cc pc = .ok (.ireturn, 1)) : W p l e R s m args below meth c H locs cells slots (MQ below (sm_Q D cl wc w1 s.heap.size (some (.int v))) args s cells slots (va_A wc s.heap.size)) (F0 m pc ls [.int v]) :=
  W.iret (v := v) hx hb hr (fun t ht hW => ⟨⟨rfl, by rw [ht]; exact hP, hD⟩, hS.F ht⟩) hS.2.2 hdg hlocks
end SMC
theorem sm_loop {P : Nat → Prop} (n : Nat) (hx : P n) (hs : ∀ k, k < n → P (k + 1) → P k) : ∀ k, k ≤ n → P k := by
  intro k hk
  obtain ⟨d, hd⟩ : ∃ d, d = n - k := ⟨_, rfl⟩
  induction d generalizing k with
  | zero => rw [show k = n by omega]; exact hx
  | succ d ih => exact hs k (by omega) (ih (k + 1) (by omega) (by omega))

def sm_ushr (x y : Int32) : Int32 := (x.toUInt32 >>> (y.toUInt32 &&& Int32.toUInt32 31)).toInt32
def sm_lshl (x : Int64) (y : Int32) : Int64 := x <<< (y.toInt64 &&& 63)
def sm_lshr (x : Int64) (y : Int32) : Int64 := x >>> (y.toInt64 &&& 63)
def sm_lushr (x : Int64) (y : Int32) : Int64 := (x.toUInt64 >>> (y.toInt64.toUInt64 &&& Int64.toUInt64 63)).toInt64
def sm_bI (b : Bool) : Int32 := if b then 1 else 0
theorem sm_bI0 {b : Bool} (h : sm_bI b = 0) : b = false := by cases b <;> first | rfl | exact absurd h (by decide)
theorem sm_bI1 {b : Bool} (h : ¬ sm_bI b = 0) : b = true := by cases b <;> first | rfl | exact absurd rfl h
theorem sm_bIn (b : Bool) : narrow .boolean (.int (sm_bI b)) = .int (sm_bI b) := by cases b <;> decide +kernel
theorem sm_bIv (b : Bool) : vp_nar .boolean (sm_bI b) = sm_bI b := by cases b <;> decide +kernel
theorem sm_cP {D : va_G} {cl : List vw_C} {w w' : va_W} {H : Heap} (h : w = w') (hP : va_P D cl w H) : va_P D cl w' H := h ▸ hP
theorem sm_cD {A : Nat → Prop} {w w' : va_W} (h : w = w') (hD : va_D A w) : va_D A w' := h ▸ hD
section SMR
variable {p : Program} {l : Launch} {e : Env} {R : Room} {s : State} {m : MethodId} {args : Array Value} {below : List Frame} {meth : Method} {c : Code} {H : Heap} {locs : List Loc} {cells slots : Nat} {Q : State → Prop}
variable {cc : ByteArray} {pc : Nat} {ls : Array Slot} {rest : List Value} {D : va_G} {cl : List vw_C} {A : Nat → Prop} {a : Nat} {tys : List (ClassId × FieldType)} {ws wc w1 : va_W} {H0 : Heap}
theorem sm_eqi {x y : Int32} (h : x = y) (k : W p l e R s m args below meth c H locs cells slots Q (F0 m pc ls (.int y :: rest))) : W p l e R s m args below meth c H locs cells slots Q (F0 m pc ls (.int x :: rest)) := h ▸ k
theorem sm_eql {x y : Int64} (h : x = y) (k : W p l e R s m args below meth c H locs cells slots Q (F0 m pc ls (.long y :: rest))) : W p l e R s m args below meth c H locs cells slots Q (F0 m pc ls (.long x :: rest)) := h ▸ k
/-- roads that meet: what lies there on top of the stack is t, by whatever road -/
theorem sm_join {pcJ nL : Nat} {t : Int32} {lv : List (Nat × Value)} {w : va_W} {st : List Value}
    (k : (∀ (H : Heap) (locs : List Loc) (ls : Array Slot), lv_has ls nL lv → va_P D cl w H → va_D A w → va_S A H0 H locs → W p l e R s m args below meth c H locs cells slots Q (F0 m pcJ ls (.int t :: rest))) → W p l e R s m args below meth c H locs cells slots Q (F0 m pc ls st))
    (hj : ∀ (H : Heap) (locs : List Loc) (ls : Array Slot), lv_has ls nL lv → va_P D cl w H → va_D A w → va_S A H0 H locs → W p l e R s m args below meth c H locs cells slots Q (F0 m pcJ ls (.int t :: rest))) : W p l e R s m args below meth c H locs cells slots Q (F0 m pc ls st) := k hj
/-- a loop of n rounds: locals and cells behind k of them are lv k, w k -/
theorem sm_loopW {nL : Nat} {lv : Nat → List (Nat × Value)} {w : Nat → va_W} (n : Nat)
    (hx : ∀ (H : Heap) (locs : List Loc) (ls : Array Slot), lv_has ls nL (lv n) → va_P D cl (w n) H → va_D A (w n) → va_S A H0 H locs → W p l e R s m args below meth c H locs cells slots Q (F0 m pc ls rest))
    (hs : ∀ k, k < n → (∀ (H : Heap) (locs : List Loc) (ls : Array Slot), lv_has ls nL (lv (k + 1)) → va_P D cl (w (k + 1)) H → va_D A (w (k + 1)) → va_S A H0 H locs → W p l e R s m args below meth c H locs cells slots Q (F0 m pc ls rest)) →
      ∀ (H : Heap) (locs : List Loc) (ls : Array Slot), lv_has ls nL (lv k) → va_P D cl (w k) H → va_D A (w k) → va_S A H0 H locs → W p l e R s m args below meth c H locs cells slots Q (F0 m pc ls rest))
    (hl : lv_has ls nL (lv 0)) (hP : va_P D cl (w 0) H) (hD : va_D A (w 0)) (hS : va_S A H0 H locs) : W p l e R s m args below meth c H locs cells slots Q (F0 m pc ls rest) :=
  sm_loop (P := fun k => ∀ (H : Heap) (locs : List Loc) (ls : Array Slot), lv_has ls nL (lv k) → va_P D cl (w k) H → va_D A (w k) → va_S A H0 H locs → W p l e R s m args below meth c H locs cells slots Q (F0 m pc ls rest)) n hx hs 0 (Nat.zero_le _) H locs ls hl hP hD hS
theorem sm_ifb_eq (hexec : p.tables.exec = Jvm.exec) (hb : c.code = cc) {b : Bool} {off : Int} {tgt : Nat} (hdg : decode cc pc = .ok (.ifCond .eq off, 3)) (ht : (pc : Int) + off = (tgt : Int))
    (kt : b = false → W p l e R s m args below meth c H locs cells slots Q (F0 m tgt ls rest)) (kf : b = true → W p l e R s m args below meth c H locs cells slots Q (F0 m (pc + 3) ls rest)) : W p l e R s m args below meth c H locs cells slots Q (F0 m pc ls (.int (sm_bI b) :: rest)) :=
  lv_if_eq hexec hb hdg ht (fun h => kt (sm_bI0 h)) (fun h => kf (sm_bI1 h))
theorem sm_ifb_ne (hexec : p.tables.exec = Jvm.exec) (hb : c.code = cc) {b : Bool} {off : Int} {tgt : Nat} (hdg : decode cc pc = .ok (.ifCond .ne off, 3)) (ht : (pc : Int) + off = (tgt : Int))
    (kt : b = true → W p l e R s m args below meth c H locs cells slots Q (F0 m tgt ls rest)) (kf : b = false → W p l e R s m args below meth c H locs cells slots Q (F0 m (pc + 3) ls rest)) : W p l e R s m args below meth c H locs cells slots Q (F0 m pc ls (.int (sm_bI b) :: rest)) :=
  lv_if_ne hexec hb hdg ht (fun h => kt (sm_bI1 h)) (fun h => kf (sm_bI0 h))
theorem sm_iast (hexec : p.tables.exec = Jvm.exec) (hb : c.code = cc) (hK : va_K D cl tys s) (hP : va_P D cl ws H) (hD : va_D A ws) (hS : va_S A H0 H locs) (q0 t0 : Nat) {cA : ClassId} {n : Nat} {f f' : Nat → Int32} (ha : ws[q0]? = some (a, .inl (cA, n, .inl f))) (ht : tys[t0]? = some (cA, .int)) {i : Int32} {x : Int32} (hin : vp_in i n) (hdg : decode cc pc = .ok (.iastore, 1))
    (hf : upd f i.toNatClampNeg x = f') {ws' : va_W} (hw : ws.set q0 (a, .inl (cA, n, .inl f')) = ws')
    (kk : ∀ (H1 : Heap) (locs1 : List Loc), va_P D cl ws' H1 → va_D A ws' → va_S A H0 H1 locs1 → W p l e R s m args below meth c H1 locs1 cells slots Q (F0 m (pc + 1) ls rest)) : W p l e R s m args below meth c H locs cells slots Q (F0 m pc ls (.int x :: .int i :: .ref a :: rest)) := by
  subst hf; subst hw
  exact va_iast hexec hb hK hP hD hS q0 t0 ha ht hin hdg kk
theorem sm_zast (hexec : p.tables.exec = Jvm.exec) (hb : c.code = cc) (hK : va_K D cl tys s) (hP : va_P D cl ws H) (hD : va_D A ws) (hS : va_S A H0 H locs) (q0 t0 : Nat) {cA : ClassId} {n : Nat} {f f' : Nat → Int32} (ha : ws[q0]? = some (a, .inl (cA, n, .inl f))) (ht : tys[t0]? = some (cA, .boolean)) {i : Int32} {b : Bool} (hin : vp_in i n) (hdg : decode cc pc = .ok (.bastore, 1))
    (hf : upd f i.toNatClampNeg (sm_bI b) = f') {ws' : va_W} (hw : ws.set q0 (a, .inl (cA, n, .inl f')) = ws')
    (kk : ∀ (H1 : Heap) (locs1 : List Loc), va_P D cl ws' H1 → va_D A ws' → va_S A H0 H1 locs1 → W p l e R s m args below meth c H1 locs1 cells slots Q (F0 m (pc + 1) ls rest)) : W p l e R s m args below meth c H locs cells slots Q (F0 m pc ls (.int (sm_bI b) :: .int i :: .ref a :: rest)) := by
  subst hf; subst hw
  refine va_zast hexec hb hK hP hD hS q0 t0 ha ht hin hdg ?_
  rw [sm_bIv]
  exact kk
theorem sm_last (hexec : p.tables.exec = Jvm.exec) (hb : c.code = cc) (hK : va_K D cl tys s) (hP : va_P D cl ws H) (hD : va_D A ws) (hS : va_S A H0 H locs) (q0 t0 : Nat) {cA : ClassId} {n : Nat} {f f' : Nat → Int64} (ha : ws[q0]? = some (a, .inl (cA, n, .inr (.inl f)))) (ht : tys[t0]? = some (cA, .long)) {i : Int32} {x : Int64} (hin : vp_in i n) (hdg : decode cc pc = .ok (.lastore, 1))
    (hf : vp_updL f i.toNatClampNeg x = f') {ws' : va_W} (hw : ws.set q0 (a, .inl (cA, n, .inr (.inl f'))) = ws')
    (kk : ∀ (H1 : Heap) (locs1 : List Loc), va_P D cl ws' H1 → va_D A ws' → va_S A H0 H1 locs1 → W p l e R s m args below meth c H1 locs1 cells slots Q (F0 m (pc + 1) ls rest)) : W p l e R s m args below meth c H locs cells slots Q (F0 m pc ls (.long x :: .int i :: .ref a :: rest)) := by
  subst hf; subst hw
  exact va_last hexec hb hK hP hD hS q0 t0 ha ht hin hdg kk
theorem sm_put (hexec : p.tables.exec = Jvm.exec) (hb : c.code = cc) {own ref C : String} {T : u_T} {N ci index : Nat} {Ts : List Cond} (hts : ∀ w ∈ Ts, w.before args s = true) (hin : ∀ w ∈ u_ws C T N, w ∈ Ts) (ty0 : Nat → FieldType) (hty : ∀ k, k < N → parseFieldDescriptor (T k).2.2.1 = some (ty0 k)) (hnm : ∀ a, a < N → ∀ b, b < N → a ≠ b → (T a).2.1 ≠ (T b).2.1) (hown : s.vm.findClass own = some m.cls) (hK : va_K D cl tys s) (hP : va_P D cl ws H) (hD : va_D A ws) (hS0 : va_S A H0 H locs) (q0 : Nat) {fs : List Value} (he : ws[q0]? = some (a, .inr (ci, fs))) (hc : cl[ci]? = some (C, T, N)) (k : Nat) (hk : k < N) (hlink : (Cond.fieldLink own index ref (T k).2.1 (T k).2.2.1).before args s = true) (hsame : ∀ x, s.fieldFound? (T k).1 (T k).2.1 (T k).2.2.1 = some x → s.fieldFound? ref (T k).2.1 (T k).2.2.1 = some x) (hfin : (T k).2.2.2 = false) {ty : FieldType} {v : Value} (hd : parseFieldDescriptor (T k).2.2.1 = some ty) (hn : narrow ty v = v) (hfit : fits ty v = true) (hl : k < fs.length)
    (hdg : decode cc pc = .ok (.putfield index, 3)) {ws' : va_W} (hw : ws.set q0 (a, .inr (ci, fs.set k v)) = ws') (kk : ∀ (H1 : Heap) (locs1 : List Loc), va_P D cl ws' H1 → va_D A ws' → va_S A H0 H1 locs1 → W p l e R s m args below meth c H1 locs1 cells slots Q (F0 m (pc + 3) ls rest)) : W p l e R s m args below meth c H locs cells slots Q (F0 m pc ls (v :: .ref a :: rest)) := by
  subst hw
  exact va_put hexec hb hts hin ty0 hty hnm hown hK hP hD hS0 q0 he hc k hk hlink hsame hfin hd hn hfit hl hdg kk
theorem sm_zret {b : Bool} (hx : p.tables.exec = Jvm.exec) (hb : c.code = cc) (hr : meth.sig.returnType = some .boolean) (hlocks : meth.locks = false) (hS : va_S (va_A wc s.heap.size) s.heap H locs) (hP : va_P D cl w1 H) (hD : va_D (va_A wc s.heap.size) w1)
    (hdg : decode cc pc = .ok (.ireturn, 1)) : W p l e R s m args below meth c H locs cells slots (MQ below (sm_Q D cl wc w1 s.heap.size (some (.int (sm_bI b)))) args s cells slots (va_A wc s.heap.size)) (F0 m pc ls [.int (sm_bI b)]) :=
  W.zret (v := sm_bI b) (ty := .boolean) hx hb hr (sm_bIn b) (fun t ht hW => ⟨⟨rfl, by rw [ht]; exact hP, hD⟩, hS.F ht⟩) hS.2.2 hdg hlocks
theorem sm_lret {v : Int64} (hx : p.tables.exec = Jvm.exec) (hb : c.code = cc) (hr : meth.sig.returnType = some .long) (hlocks : meth.locks = false) (hS : va_S (va_A wc s.heap.size) s.heap H locs) (hP : va_P D cl w1 H) (hD : va_D (va_A wc s.heap.size) w1)
    (hdg : decode cc pc = .ok (.lreturn, 1)) : W p l e R s m args below meth c H locs cells slots (MQ below (sm_Q D cl wc w1 s.heap.size (some (.long v))) args s cells slots (va_A wc s.heap.size)) (F0 m pc ls [.long v]) :=
  W.lret (v := v) hx hb hr (fun t ht hW => ⟨⟨rfl, by rw [ht]; exact hP, hD⟩, hS.F ht⟩) hS.2.2 hdg hlocks
theorem sm_vret (hx : p.tables.exec = Jvm.exec) (hb : c.code = cc) (hr : meth.sig.returnType = none) (hlocks : meth.locks = false) (hS : va_S (va_A wc s.heap.size) s.heap H locs) (hP : va_P D cl w1 H) (hD : va_D (va_A wc s.heap.size) w1)
    (hdg : decode cc pc = .ok (.return_, 1)) : W p l e R s m args below meth c H locs cells slots (MQ below (sm_Q D cl wc w1 s.heap.size none) args s cells slots (va_A wc s.heap.size)) (F0 m pc ls []) :=
  W.vret hx hb hr (fun t ht hW => ⟨⟨rfl, by rw [ht]; exact hP, hD⟩, hS.F ht⟩) hS.2.2 hdg hlocks
end SMR
/-- a contract out of the walk of a method's body -/
theorem sm_start {l : Launch} {y : MethodName} {ws ws' : List Cond} {rm : Room} {D : va_G} {cl : List vw_C} {tys : List (ClassId × FieldType)} {av : List Value} {w0 w1 : va_W} {rv : Option Value} {cc : ByteArray} {maxL : Nat} {ret : Option FieldType} {lv : List (Nat × Value)}
    (hy : plainName y.cls = true) (hw : ws = Cond.code y cc maxL ret :: ws') (hsl : (lg_sl av).length ≤ maxL) (hlv : lv_args 0 av = lv)
    (body : ∀ (p : Program) (e : Env) (s : State) (m : MethodId) (below : List Frame) (meth : Method) (c : Code), p.tables.exec = Jvm.exec → c.code = cc → meth.sig.returnType = ret → (∀ w ∈ ws, w.before av.toArray s = true) → s.vm.findClass y.cls = some m.cls → meth.locks = false → c.maxLocals = maxL → meth.name = y.name →
      va_K D cl tys s → va_P D cl w0 s.heap → va_D (va_A w0 s.heap.size) w0 → va_S (va_A w0 s.heap.size) s.heap s.heap [] → (∀ q : Nat, s.heap.size ≤ q → va_A w0 s.heap.size q) → ∀ ls : Array Slot, lv_has ls maxL lv →
      W p l e rm s m av.toArray below meth c s.heap [] 0 0 (MQ below (sm_Q D cl w0 w1 s.heap.size rv) av.toArray s rm.cells rm.slots (va_A w0 s.heap.size)) (F0 m 0 ls [])) : sm_C l y ws rm D cl tys av w0 rv w1 := by
  subst hlv
  intro sz
  refine Met.ofW (cc := cc) (maxL := maxL) (ret := ret) hy hw ?_
  intro p e s m args below meth c s₁ B hml hv
  obtain ⟨rfl, hsz, hP, hK, hD0⟩ := hv
  subst hsz
  rw [lg_entry_eq]
  exact body p e s m below meth c B.exec B.bytes B.returns (atoms_spec (ws := ws) B.pre) (findClass_of_methodNamed B.named) B.notSynchronized hml (name_of_methodNamed B.named B.method).1 hK hP (hD0.self) va_S.rf (fun q h => Or.inr h) _ (lv_entry av hsl)
end
section
/-! Int32 by its bits (the family bt, out of kit/laws) -/
def bt (x : Int32) (i : Nat) : Bool := x.toBitVec.getLsbD i
theorem b_ext {x y : Int32} (h : ∀ i, i < 32 → bt x i = bt y i) : x = y := Int32.toBitVec_inj.mp (BitVec.eq_of_getLsbD_eq (fun i hi => h i hi))
theorem b_or (x y : Int32) (i : Nat) : bt (x ||| y) i = (bt x i || bt y i) := by unfold bt; rw [Int32.toBitVec_or, BitVec.getLsbD_or]
theorem b_and (x y : Int32) (i : Nat) : bt (x &&& y) i = (bt x i && bt y i) := by unfold bt; rw [Int32.toBitVec_and, BitVec.getLsbD_and]
theorem b_xor (x y : Int32) (i : Nat) : bt (x ^^^ y) i = (bt x i ^^ bt y i) := by unfold bt; rw [Int32.toBitVec_xor, BitVec.getLsbD_xor]
theorem b_big {x : Int32} {i : Nat} (h : 32 ≤ i) : bt x i = false := BitVec.getLsbD_of_ge _ _ h
theorem b_255 (i : Nat) : bt 255 i = decide (i < 8) := by
  rcases Nat.lt_or_ge i 32 with h | h
  · exact (by decide +kernel : ∀ i, i < 32 → bt 255 i = decide (i < 8)) i h
  · rw [b_big h, decide_eq_false (by omega)]
theorem b_65535 (i : Nat) : bt 65535 i = decide (i < 16) := by
  rcases Nat.lt_or_ge i 32 with h | h
  · exact (by decide +kernel : ∀ i, i < 32 → bt 65535 i = decide (i < 16)) i h
  · rw [b_big h, decide_eq_false (by omega)]
theorem b_m1 : ∀ i, i < 32 → bt (-1) i = true := by decide +kernel
theorem b_0 (i : Nat) : bt 0 i = false := BitVec.getLsbD_zero
theorem s_l : ∀ n, n < 32 → ((nI n &&& 31).toBitVec.smod 32).toNat = n := by decide +kernel
theorem s_u : ∀ n, n < 32 → (((nI n).toUInt32 &&& Int32.toUInt32 31).toBitVec % 32).toNat = n := by decide +kernel
theorem b_shl (n : Nat) (hn : n < 32) (x : Int32) {i : Nat} (hi : i < 32) : bt (x <<< (nI n &&& 31)) i = (decide (n ≤ i) && bt x (i - n)) := by
  unfold bt
  rw [Int32.toBitVec_shiftLeft]
  show (x.toBitVec <<< ((nI n &&& 31).toBitVec.smod 32).toNat).getLsbD i = _
  rw [s_l n hn, BitVec.getLsbD_shiftLeft]
  rcases Nat.lt_or_ge i n with h | h
  · simp [h, Nat.not_le.mpr h]
  · simp [hi, h, Nat.not_lt.mpr h]
theorem b_ushr (n : Nat) (hn : n < 32) (x : Int32) (i : Nat) : bt ((x.toUInt32 >>> ((nI n).toUInt32 &&& Int32.toUInt32 31)).toInt32) i = bt x (n + i) := by
  show (x.toUInt32 >>> ((nI n).toUInt32 &&& Int32.toUInt32 31)).toBitVec.getLsbD i = x.toUInt32.toBitVec.getLsbD (n + i)
  rw [UInt32.toBitVec_shiftRight]
  show (x.toUInt32.toBitVec >>> (((nI n).toUInt32 &&& Int32.toUInt32 31).toBitVec % 32).toNat).getLsbD i = _
  rw [s_u n hn, BitVec.getLsbD_ushiftRight]
theorem b_sshr (n : Nat) (hn : n < 32) (x : Int32) {i : Nat} (hi : i < 32) : bt (x >>> (nI n &&& 31)) i = if n + i < 32 then bt x (n + i) else bt x 31 := by
  unfold bt
  rw [Int32.toBitVec_shiftRight]
  show (x.toBitVec.sshiftRight ((nI n &&& 31).toBitVec.smod 32).toNat).getLsbD i = _
  rw [s_l n hn, BitVec.getLsbD_sshiftRight, BitVec.msb_eq_getLsbD_last]
  simp [hi]

/-! own rows on bits -/
theorem sm_b1 (i : Nat) : bt 1 i = decide (i = 0) := by
  rcases Nat.lt_or_ge i 32 with h | h
  · exact (by decide +kernel : ∀ i, i < 32 → bt 1 i = decide (i = 0)) i h
  · rw [b_big h, decide_eq_false (by omega)]
theorem sm_bbI (b : Bool) (i : Nat) : bt (sm_bI b) i = (b && decide (i = 0)) := by
  cases b
  · show bt 0 i = _
    rw [b_0]; rfl
  · show bt 1 i = _
    rw [sm_b1]; rfl
theorem sm_tst (v : Int32) {k : Nat} (hk : k < 32) : v >>> (nI k &&& 31) &&& 1 = sm_bI (bt v k) := by
  refine b_ext fun i hi => ?_
  rw [b_and, b_sshr k hk v hi, sm_b1, sm_bbI]
  by_cases h : i = 0
  · subst h
    simp [hk]
  · simp [h]
theorem sm_bnot (x : Int32) {i : Nat} (hi : i < 32) : bt (x ^^^ (-1)) i = !bt x i := by
  rw [b_xor, b_m1 i hi]; simp
theorem sm_sh1 {k : Nat} (hk : k < 32) {i : Nat} (hi : i < 32) : bt ((1 : Int32) <<< (nI k &&& 31)) i = decide (i = k) := by
  rw [b_shl k hk 1 hi, sm_b1]
  by_cases h : i = k
  · subst h; simp
  · by_cases h2 : k ≤ i
    · simp [h2, h]; omega
    · simp [h2, h]
/-- the word whose first n bits are g -/
def sm_mk (g : Nat → Bool) : Nat → Int32
  | 0 => 0
  | n + 1 => if g n then sm_mk g n ||| (1 : Int32) <<< (nI n &&& 31) else sm_mk g n
theorem sm_mkb (g : Nat → Bool) : ∀ (n : Nat), n ≤ 32 → ∀ (i : Nat), i < 32 → bt (sm_mk g n) i = (decide (i < n) && g i)
  | 0, _, i, _ => by show bt 0 i = _; rw [b_0]; simp
  | n + 1, hn, i, hi => by
    have ih := sm_mkb g n (by omega) i hi
    unfold sm_mk
    by_cases hg : g n
    · rw [if_pos hg, b_or, ih, sm_sh1 (by omega) hi]
      by_cases h : i = n
      · subst h; simp [hg]
      · by_cases h2 : i < n
        · simp [h2, h, show i < n + 1 by omega]
        · simp [h2, h, show ¬ i < n + 1 by omega]
    · rw [if_neg hg, ih]
      by_cases h : i = n
      · subst h; simp [hg]
      · by_cases h2 : i < n
        · simp [h2, show i < n + 1 by omega]
        · simp [h2, show ¬ i < n + 1 by omega]
theorem sm_mk32 (g : Nat → Bool) {i : Nat} (hi : i < 32) : bt (sm_mk g 32) i = g i := by rw [sm_mkb g 32 (Nat.le_refl _) i hi]; simp [hi]
theorem sm_mkx {g : Nat → Bool} {x : Int32} (h : ∀ i, i < 32 → g i = bt x i) : sm_mk g 32 = x := b_ext fun i hi => by rw [sm_mk32 g hi, h i hi]
/-- arrays of bits -/
def sm_fb (V : Nat → Int32) : Nat → Int32 := fun j => sm_bI (bt (V (j / 32)) (j % 32))
def sm_fo (M : Nat → Int32) : Nat → Int32 := fun j => sm_bI (bt (M (j / 8)) (j % 8))
def sm_fl (M : Nat → Int32) : Nat → Int32 := fun j => sm_bI (bt (M (j / 8)) (8 + j % 8))
def sm_fw (O : Int32) : Nat → Int32 := fun j => sm_bI (bt O j)
def sm_fill (f : Nat → Int32) (g : Nat → Bool) (a k : Nat) : Nat → Int32 := fun j => if a ≤ j ∧ j < a + k then sm_bI (g (j - a)) else f j
theorem sm_fb_at (V : Nat → Int32) {r k : Nat} (hk : k < 32) : sm_fb V (32 * r + k) = sm_bI (bt (V r) k) := by
  unfold sm_fb
  rw [show (32 * r + k) / 32 = r by omega, show (32 * r + k) % 32 = k by omega]
theorem sm_fo_at (M : Nat → Int32) {a k : Nat} (hk : k < 8) : sm_fo M (8 * a + k) = sm_bI (bt (M a) k) := by
  unfold sm_fo
  rw [show (8 * a + k) / 8 = a by omega, show (8 * a + k) % 8 = k by omega]
theorem sm_fl_at (M : Nat → Int32) {a k : Nat} (hk : k < 8) : sm_fl M (8 * a + k) = sm_bI (bt (M a) (8 + k)) := by
  unfold sm_fl
  rw [show (8 * a + k) / 8 = a by omega, show (8 * a + k) % 8 = k by omega]
theorem sm_fill0 (f : Nat → Int32) (g : Nat → Bool) (a : Nat) : sm_fill f g a 0 = f := by
  funext j
  unfold sm_fill
  rw [if_neg (by omega)]
theorem sm_fillS (f : Nat → Int32) (g : Nat → Bool) (a k : Nat) : upd (sm_fill f g a k) (a + k) (sm_bI (g k)) = sm_fill f g a (k + 1) := by
  funext j
  unfold sm_fill upd
  by_cases h : j = a + k
  · subst h
    rw [if_pos rfl, if_pos (by omega), Nat.add_sub_cancel_left]
  · rw [if_neg h]
    dsimp only
    by_cases h2 : a ≤ j ∧ j < a + k
    · rw [if_pos h2, if_pos (by omega)]
    · rw [if_neg h2, if_neg (by omega)]
theorem sm_fill_b (V : Nat → Int32) (r : Nat) (O : Int32) : sm_fill (sm_fb V) (bt O) (32 * r) 32 = sm_fb (upd V r O) := by
  funext j
  unfold sm_fill sm_fb upd
  by_cases h : 32 * r ≤ j ∧ j < 32 * r + 32
  · rw [if_pos h, if_pos (by omega), show j % 32 = j - 32 * r by omega]
  · rw [if_neg h, if_neg (by omega)]
theorem sm_fill_w (O : Int32) (g : Nat → Bool) : sm_fill (sm_fw O) g 0 32 = sm_fw (sm_mk g 32) := by
  funext j
  unfold sm_fill sm_fw
  by_cases h : j < 32
  · rw [if_pos (by omega), sm_mk32 g h, Nat.sub_zero]
  · rw [if_neg (by omega), b_big (by omega), b_big (by omega)]
/-- the lowest place that has g, from k on, of d -/
def sm_lo (g : Nat → Bool) : Nat → Nat → Nat
  | 0, k => k
  | d + 1, k => if g k then k else sm_lo g d (k + 1)
theorem sm_lo_le (g : Nat → Bool) : ∀ (d k : Nat), sm_lo g d k ≤ k + d
  | 0, k => Nat.le_refl _
  | d + 1, k => by
    have := sm_lo_le g d (k + 1)
    unfold sm_lo
    split <;> omega
theorem sm_lo_ge (g : Nat → Bool) : ∀ (d k : Nat), k ≤ sm_lo g d k
  | 0, k => Nat.le_refl _
  | d + 1, k => by
    have := sm_lo_ge g d (k + 1)
    unfold sm_lo
    split <;> omega
theorem sm_lo_lt (g : Nat → Bool) : ∀ (d k i : Nat), k ≤ i → i < sm_lo g d k → g i = false
  | 0, k, i, h1, h2 => by unfold sm_lo at h2; omega
  | d + 1, k, i, h1, h2 => by
    unfold sm_lo at h2
    by_cases hg : g k
    · rw [if_pos hg] at h2; omega
    · rw [if_neg hg] at h2
      by_cases h : i = k
      · subst h; simpa using hg
      · exact sm_lo_lt g d (k + 1) i (by omega) h2
theorem sm_lo_at (g : Nat → Bool) : ∀ (d k : Nat), sm_lo g d k < k + d → g (sm_lo g d k) = true
  | 0, k, h => by unfold sm_lo at h; omega
  | d + 1, k, h => by
    unfold sm_lo at h ⊢
    by_cases hg : g k
    · rw [if_pos hg]; exact hg
    · rw [if_neg hg] at h ⊢
      exact sm_lo_at g d (k + 1) (by omega)
def sm_tz (x : Int32) : Nat := sm_lo (bt x) 32 0
theorem sm_tz_le (x : Int32) : sm_tz x ≤ 32 := by have := sm_lo_le (bt x) 32 0; unfold sm_tz; omega
theorem sm_tz_lt {x : Int32} {i : Nat} (h : i < sm_tz x) : bt x i = false := sm_lo_lt _ _ _ _ (Nat.zero_le _) h
theorem sm_tz_at {x : Int32} (h : sm_tz x < 32) : bt x (sm_tz x) = true := sm_lo_at _ _ _ (by unfold sm_tz at h; omega)
theorem sm_tz_is {x : Int32} {n : Nat} (hn : n ≤ 32) (h1 : ∀ i, i < n → bt x i = false) (h2 : n < 32 → bt x n = true) : sm_tz x = n := by
  rcases Nat.lt_trichotomy (sm_tz x) n with h | h | h
  · have := sm_tz_at (x := x) (by omega)
    rw [h1 _ h] at this; cases this
  · exact h
  · have hl := sm_tz_le x
    have := sm_tz_lt h
    rw [h2 (by omega)] at this; cases this
theorem sm_tz_or (x y : Int32) : sm_tz (x ||| y) = if sm_tz x < sm_tz y then sm_tz x else sm_tz y := by
  have hx := sm_tz_le x
  have hy := sm_tz_le y
  refine sm_tz_is (by split <;> omega) (fun i hi => ?_) (fun hn => ?_)
  · rw [b_or, sm_tz_lt (by split at hi <;> omega), sm_tz_lt (by split at hi <;> omega)]; rfl
  · rw [b_or]
    split at hn
    · rename_i h
      rw [if_pos h, sm_tz_at (by omega)]; rfl
    · rename_i h
      rw [if_neg h, sm_tz_at (by omega)]; simp
/-- all bits from a place on -/
def sm_fr (n : Nat) : Int32 := sm_mk (fun i => decide (n ≤ i)) 32
theorem sm_fr_b (n : Nat) {i : Nat} (hi : i < 32) : bt (sm_fr n) i = decide (n ≤ i) := sm_mk32 _ hi
theorem sm_fr_eq {a b : Nat} (h : ∀ i, i < 32 → (a ≤ i ↔ b ≤ i)) : sm_fr a = sm_fr b := b_ext fun i hi => by
  rw [sm_fr_b a hi, sm_fr_b b hi]
  exact decide_eq_decide.mpr (h i hi)
theorem sm_fr_sh {n : Nat} (h : n < 32) : (-1 : Int32) <<< (nI n &&& 31) = sm_fr n := b_ext fun i hi => by
  rw [b_shl n h (-1) hi, sm_fr_b n hi]
  by_cases h2 : n ≤ i
  · rw [b_m1 _ (by omega)]; simp
  · simp [h2]
theorem sm_fr_0 {n : Nat} (h : 32 ≤ n) : sm_fr n = 0 := b_ext fun i hi => by
  rw [sm_fr_b n hi, b_0]; simp; omega
/-- how many bits -/
def sm_pc (g : Nat → Bool) : Nat → Nat
  | 0 => 0
  | n + 1 => if g n then sm_pc g n + 1 else sm_pc g n
theorem sm_pc_le (g : Nat → Bool) : ∀ n, sm_pc g n ≤ n
  | 0 => Nat.le_refl _
  | n + 1 => by
    have := sm_pc_le g n
    unfold sm_pc
    split <;> omega
theorem sm_pc_eq {g h : Nat → Bool} : ∀ n, (∀ i, i < n → g i = h i) → sm_pc g n = sm_pc h n
  | 0, _ => rfl
  | n + 1, hh => by
    unfold sm_pc
    rw [hh n (by omega), sm_pc_eq n (fun i hi => hh i (by omega))]
theorem sm_pc_add (g : Nat → Bool) (a : Nat) : ∀ b, sm_pc g (a + b) = sm_pc g a + sm_pc (fun i => g (a + i)) b
  | 0 => rfl
  | b + 1 => by
    show sm_pc g (a + b + 1) = _
    rw [sm_pc, sm_pc, sm_pc_add g a b]
    split <;> omega
end
section
/-! own rows on what is thrown: out of a method, out of a callee, caught by the caller (launches without stack traces) -/
/-- a static of Throwable as its constructor wants it: it lies where nobody writes, and holds a reference or null -/
def sm_Zl (n d : String) (A : Nat → Prop) (U : State) (H : Heap) : Prop := ∃ (c : ClassId) (k : Class) (i : Nat) (f : Field) (a : Nat) (cell : Cell) (v : Value),
  U.vm.findClass Bundle.tN = some c ∧ U.fieldFound? Bundle.tN n d = some (c, k, i, f) ∧ f.isStatic = true ∧ k.statics = some a ∧ H[a]? = some cell ∧ cell.vm.isStatics = true ∧ cell.cls = c ∧ f.slot < cell.slots.size ∧ k.staticTypes[f.slot]? = some f.type ∧ cell.slots[f.slot]? = some v ∧ v.isRef = true ∧ ¬ A a
theorem sm_Zl.kept {n d : String} {A B : Nat → Prop} {u U : State} {H H1 : Heap} (h : sm_Zl n d A u H) (hvm : u.vm.Alike U.vm) (hq : ∀ a : Nat, a < H.size → ¬ A a → H1[a]? = H[a]?) (hB : ∀ q, B q → A q) : sm_Zl n d B U H1 := by
  obtain ⟨c, k, i, f, a, cell, v, h1, h2, h3, h4, h5, h6, h7, h8, h9, h10, h11, h12⟩ := h
  obtain ⟨k', hi', he⟩ := State.fieldFound?_setVm hvm h2
  exact ⟨c, k', i, f, a, cell, v, by rw [hvm.findClass]; exact h1, hi', h3, by rw [he]; exact h4, by rw [hq a (Array.getElem?_eq_some_iff.mp h5).1 h12]; exact h5, h6, h7, h8, by rw [he]; exact h9, h10, h11, fun z => h12 (hB a z)⟩
theorem sm_Zl.lays {n d : String} {A : Nat → Prop} {s : State} {args : Array Value} (h : sm_Zl n d A s s.heap) : (Cond.laysStatic Bundle.tN n d).before args s = true := by
  obtain ⟨c, k, i, f, a, cell, v, h1, h2, h3, h4, h5, h6, h7, h8, h9, -⟩ := h
  simp [Cond.before, Cond.holds, Cond.value, h1, h2, h3, h4, h5, h6, h7, h8, h9]
theorem sm_Zl.isRef {n d : String} {A : Nat → Prop} {s : State} {args : Array Value} (h : sm_Zl n d A s s.heap) : (Cond.isRef (.static Bundle.tN n d)).before args s = true := by
  obtain ⟨c, k, i, f, a, cell, v, h1, h2, h3, h4, h5, h6, h7, h8, h9, h10, h11, -⟩ := h
  have he : (Term.static Bundle.tN n d).eval args s none [] s = some v := by
    simp [Term.eval, State.fieldNamed?, h2, h3, h4, h5, h6, h10]
  simp only [Cond.before, Cond.holds, Cond.value, he]
  cases v <;> simp_all [Value.isRef]
theorem sm_Zl.of {n d : String} {A : Nat → Prop} {s : State} {args : Array Value} (hl : (Cond.laysStatic Bundle.tN n d).before args s = true) (hr : (Cond.isRef (.static Bundle.tN n d)).before args s = true) (hA : ∀ a : Nat, a < s.heap.size → ¬ A a) : sm_Zl n d A s s.heap := by
  obtain ⟨c, k, i, f, a, cell, hc, hi, hst, ha, hcell, hs, hcls, hlt, hty⟩ := Cond.laysStatic_spec hl
  cases hv : (Term.static Bundle.tN n d).eval args s none [] s with
  | none => simp [Cond.before, Cond.holds, Cond.value, hv] at hr
  | some w =>
    obtain ⟨hst', a', cell', ha', hcell', -, hslot⟩ := Term.static_spec hi hv
    cases ha.symm.trans ha'
    cases hcell.symm.trans hcell'
    refine ⟨c, k, i, f, a, cell, w, hc, hi, hst, ha, hcell, hs, hcls, hlt, hty, hslot, ?_, hA a (Array.getElem?_eq_some_iff.mp hcell).1⟩
    simp only [Cond.before, Cond.holds, Cond.value, hv] at hr
    cases w <;> simp_all [Value.isRef]
def sm_Z (A : Nat → Prop) (U : State) (H : Heap) : Prop := sm_Zl "UNASSIGNED_STACK" Bundle.steD A U H ∧ sm_Zl "SUPPRESSED_SENTINEL" Bundle.listD A U H
theorem sm_Z.kept {A B : Nat → Prop} {u U : State} {H H1 : Heap} (h : sm_Z A u H) (hvm : u.vm.Alike U.vm) (hq : ∀ a : Nat, a < H.size → ¬ A a → H1[a]? = H[a]?) (hB : ∀ q, B q → A q) : sm_Z B U H1 := ⟨h.1.kept hvm hq hB, h.2.kept hvm hq hB⟩
/-- what a method that throws leaves: an object of the class E is thrown, the cells are as they were -/
def sm_T (D : va_G) (cl : List vw_C) (w0 : va_W) (sz : Nat) (E : String) (mc ms : Nat) (st : State) (oc : Outcome) (t : State) : Prop :=
  ∃ (q : Nat) (ce : Cell) (L : List Loc), oc = .threw q ∧ t.heap[q]? = some ce ∧ ce.vm = .none ∧ st.vm.findClass E = some ce.cls ∧ va_P D cl w0 t.heap ∧ va_F (va_A w0 sz) st t ∧
    st.WarmedH t.vm ∧ st.sameButNew ({ t with vm := st.vm } : State) L mc ms ∧ ∀ z ∈ L, va_A w0 sz z.base
def sm_PX (D : va_G) (cl : List vw_C) (tys : List (ClassId × FieldType)) (w0 : va_W) (sz : Nat) (U : State) : Prop := sm_P D cl tys w0 sz U ∧ sm_Z (va_A w0 sz) U U.heap
def sm_X (l : Launch) (y : MethodName) (ws : List Cond) (rm : Room) (D : va_G) (cl : List vw_C) (tys : List (ClassId × FieldType)) (av : List Value) (w0 : va_W) (E : String) : Prop :=
  ∀ sz : Nat, MetFree l y (headSpec ws rm) (va_Pc av (sm_PX D cl tys w0 sz)) (fun _ _ _ _ _ => True) (fun _ st o t => sm_T D cl w0 sz E rm.cells rm.slots st o t)
section SMX
variable {p : Program} {l : Launch} {e : Env} {R : Room} {s : State} {m : MethodId} {args : Array Value} {below : List Frame} {meth : Method} {c : Code} {H : Heap} {locs : List Loc} {cells slots : Nat} {Q : State → Prop}
variable {pc : Nat} {ls : Array Slot} {rest st0 : List Value} {A0 : Nat → Prop} {H0 : Heap} {D : va_G} {cl : List vw_C} {tys tysc : List (ClassId × FieldType)} {ws wc wr w1 : va_W} {E : String} {q : Nat}
variable {y : MethodName} {bytes cc : ByteArray} {maxL nL n index : Nat} {ret : Option FieldType} {wz : List Cond} {rm : Room} {Ts : List Cond} {own C : String} {b : Nat} {As : List Value}
/-- an object is thrown over the frame g -/
def sm_V (p : Program) (l : Launch) (e : Env) (R : Room) (s : State) (m : MethodId) (args : Array Value) (below : List Frame) (meth : Method) (c : Code) (H : Heap) (locs : List Loc) (cells slots : Nat) (Q : State → Prop) (g : JFrame) (q : Nat) : Prop :=
  ∀ T : State, T.heap = H → Stand p l e R s m args below meth c T locs cells slots → ∃ t, Steps p.tables e below ((T.setTop g).pushFrame (.throwing q)) t ∧ Q t
def sm_MX (below : List Frame) (D : va_G) (cl : List vw_C) (w0 : va_W) (E : String) (s : State) (mc ms : Nat) : State → Prop := fun t =>
  ∃ o, t.status = .running ∧ Ended t below o ∧ sm_T D cl w0 s.heap.size E mc ms s o t
/-- a callee throws -/
theorem sm_xb {len : Nat} {ig : Instr} {mk : MethodId} {U : State} {g : JFrame} (hX : sm_X l y wz rm D cl tysc As wc E) (hcode : Cond.code y bytes maxL ret ∈ wz) (hfr : rm.frames + 1 ≤ R.frames) (hlo : 8 + (maxL + 11) + rm.locals ≤ R.locals)
    (hws : ∀ w ∈ wz, ∀ (a' : Array Value) (U : State), s.WarmedH U.vm → w.before a' U = true) (hini : (Cond.initialized y.cls).before args s = true)
    (X : Stand p l e R s m args below meth c U locs cells slots) (hg : g.method = m) (hsize : g.locals.size = c.maxLocals) (hdg : decode c.code g.pc = .ok (ig, len)) (hW : 2 * g.monitorRoom + (g.stack.map fun v => v.category).sum ≤ 8) (hn : U.methodNamed? y = some mk)
    (hP : sm_PX D cl tysc wc U.heap.size U) (hf : cells + rm.cells ≤ R.cells ∧ slots + rm.slots ≤ R.slots) :
    ∃ (q : Nat) (ce : Cell) (T' : State) (L : List Loc), Stand p l e R s m args below meth c T' (locs ++ L) (cells + rm.cells) (slots + rm.slots) ∧ (∀ z ∈ L, va_A wc U.heap.size z.base) ∧ T'.heap[q]? = some ce ∧ ce.vm = .none ∧ s.vm.findClass E = some ce.cls ∧
      va_P D cl wc T'.heap ∧ U.heap.size ≤ T'.heap.size ∧ (∀ z : Nat, z < U.heap.size → ¬ va_A wc U.heap.size z → T'.heap[z]? = U.heap[z]?) ∧
      Steps p.tables e below (doInvoke e (U.setTop g) [] mk As.toArray).1 ((T'.setTop g).pushFrame (.throwing q)) := by
  have h2 : (Cond.code y bytes maxL ret).before As.toArray U = true := hws _ hcode _ _ X.warmed
  obtain ⟨methY, cY, hmY, hcY, -, hlY, -, -, -, -⟩ := Cond.code_spec hn h2
  obtain ⟨kY, hkY, -⟩ := className_of_methodNamed hn
  have h3 : (Cond.initialized y.cls).before As.toArray U = true := word_at X.warmed (Or.inl (by first | rfl | simp [Cond.onTables, Cond.keeps, Cond.steady])) hini
  have hinitY : kY.init = .initialized := Cond.initialized_spec (findClass_of_methodNamed hn) hkY h3
  have h : At U g.method c below := by rw [hg]; exact X.here
  have happ : (headSpec wz rm).appliesLoose y e.platform (U.calling g mk As.toArray) = true :=
    Spec.appliesLoose_calling (g := g) h hdg hn hkY hinitY
      (X.room_calling (g := g) (R' := rm) hsize hmY hcY hfr (by rw [hlY]; omega) hf.1 hf.2) (atoms_intro fun w hw => hws w hw _ _ X.warmed)
  obtain ⟨mid, hmid⟩ := h.above
  have hfrm : (U.setTop g).frames = (.java g :: mid) ++ below := by rw [State.frames_setTop' g h.top, hmid]; rfl
  obtain ⟨⟨p1, p2, p3, p4⟩, pz⟩ := hP
  have hPc : va_Pc As (sm_PX D cl tysc wc U.heap.size) As.toArray (U.calling g mk As.toArray) :=
    ⟨rfl, ⟨p1, p2, va_K.moved (u := U) (U := U.calling g mk As.toArray) (Vm.Alike.refl U.vm) p3, p4⟩, pz.kept (U := U.calling g mk As.toArray) (Vm.Alike.refl U.vm) (fun _ _ _ => rfl) (fun _ h => h)⟩
  obtain ⟨o, s₂, hsteps, -, hend, hq⟩ := Steps.callFree (hX U.heap.size) p X.admits X.cas X.clock (acts := []) hfrm happ hPc trivial
  have hq' : sm_T D cl wc U.heap.size E rm.cells rm.slots (U.calling g mk As.toArray) o s₂ := hq
  rw [State.frames_setTop' g h.top] at hend
  obtain ⟨q, ce, L, rfl, hce, hvm, hcl, hPt, hF, hW₂, hsm, hL⟩ := hq'
  obtain ⟨e2, q2, q3, q4, q5, q6⟩ := hsm
  have e3 : s₂ = ({ (U.calling g mk As.toArray).setFrames s₂.frames with heap := s₂.heap, slotsUsed := s₂.slotsUsed } : State).setVm s₂.vm := by
    have : s₂ = ({ s₂ with vm := (U.calling g mk As.toArray).vm } : State).setVm s₂.vm := rfl
    rw [e2] at this
    exact this
  have hend' : s₂.frames = .throwing q :: .java g :: U.frames.tail := hend
  have hW' : U.WarmedH s₂.vm := hW₂
  obtain ⟨g₀, hg0⟩ := Option.isSome_iff_exists.mp h.top
  obtain ⟨r, hr⟩ := State.topJava?_eq_some.mp hg0
  have hr' : (({ U with heap := s₂.heap, slotsUsed := s₂.slotsUsed } : State).setVm s₂.vm).frames = .java g₀ :: r := hr
  have hs₂ : s₂ = ((({ U with heap := s₂.heap, slotsUsed := s₂.slotsUsed } : State).setVm s₂.vm).setTop g).pushFrame (.throwing q) := by
    refine e3.trans ?_
    rw [hend', State.calling_eq h.top, State.setFrames_setFrames, State.pushFrame, State.frames_setTop _ hr', State.setTop_of_frames _ hr', State.setFrames_setFrames, hr]
    rfl
  have hsame : U.sameButNew ({ U with heap := s₂.heap, slotsUsed := s₂.slotsUsed } : State) L rm.cells rm.slots := by
    refine ⟨?_, q2, q3, q4, q5, q6⟩
    obtain ⟨t, ht, -⟩ := State.frames_cons hr
    show ({ U with heap := s₂.heap, slotsUsed := s₂.slotsUsed } : State) = { U.setFrames U.frames with heap := s₂.heap, slotsUsed := s₂.slotsUsed }
    rw [State.setFrames_self ht]
  subst hg
  refine ⟨q, ce, (({ U with heap := s₂.heap, slotsUsed := s₂.slotsUsed } : State).setVm s₂.vm), L,
    ⟨X.admits, X.cas, X.clock, X.frames, X.room, X.hears, X.method, X.code, (X.here.setHeapUsed s₂.heap s₂.slotsUsed).setVm hW'.alike, X.tail, State.WarmedH.trans X.warmed hW', X.limits, X.bytes, X.same.trans (hsame.setVm s.vm)⟩,
    hL, hce, hvm, ?_, hPt, hF.1, hF.2, ?_⟩
  · rw [← X.warmed.alike.findClass]; exact hcl
  · rw [← hs₂]
    exact hsteps

/-- a static method that throws is called -/
theorem sm_xS (S : CallFix p m c cc nL s args Ts own) (hX : sm_X l y wz rm D cl tysc As wc E) (cw : CallB R s args own index y bytes maxL ret wz rm rm.cells rm.slots n ∧ (Cond.static y).before args s = true)
    (hK : va_K D cl tys s) (tis : List Nat) (hti : tis.filterMap (fun i => tys[i]?) = tysc) (hZ : sm_Z A0 s s.heap) (hP : va_P D cl ws H) (hD : va_D A0 ws) (hS : va_S A0 s.heap H locs) (hA : ∀ q, s.heap.size ≤ q → A0 q)
    (isC isR : List Nat) (hCm : isC.map (fun i => ws[i]?) = wc.map some) (hRm : isR.map (fun i => ws[i]?) = wr.map some) (hnC : va_nd isC = true) (hnR : va_nd isR = true) (hdis : ∀ i ∈ isR, i ∉ isC)
    (hn : As.length = n) (hsize : ls.size = nL) (hst : st0 = As.reverse ++ rest) (hW : (rest.map fun v => v.category).sum ≤ 8) (hdg : decode cc pc = .ok (.invokestatic index, 3)) (hf : cells + rm.cells ≤ R.cells ∧ slots + rm.slots ≤ R.slots)
    (kk : ∀ (q : Nat) (ce : Cell) (H1 : Heap) (locs1 : List Loc), H1[q]? = some ce → ce.vm = .none → s.vm.findClass E = some ce.cls → va_P D cl (wr ++ wc) H1 → va_D A0 (wr ++ wc) → va_S A0 s.heap H1 locs1 → sm_V p l e R s m args below meth c H1 locs1 (cells + rm.cells) (slots + rm.slots) Q (F0 m pc ls rest) q) : W p l e R s m args below meth c H locs cells slots Q (F0 m pc ls st0) := by
  obtain ⟨⟨-, -, hfr, hlo, hws, hcm, hcode, hini, hy, hlen, hlink⟩, hstt⟩ := cw
  obtain ⟨hx, hb, hml, ho, -⟩ := S
  have hF := va_free (wc := wc) hD hS hA isC hCm
  intro T hT X
  subst hT
  obtain ⟨mk, hnamed⟩ := Cond.code_named hcode
  obtain ⟨methM, cM, hmethM, -, -, -, -, -, -, hsigM⟩ := Cond.code_spec hnamed hcode
  have hstatic : methM.isStatic = true := Cond.static_spec hnamed hmethM hstt
  obtain ⟨kP, hkP, -⟩ := className_of_methodNamed hnamed
  have hinitP : kP.init = .initialized := Cond.initialized_spec (findClass_of_methodNamed hnamed) hkP hini
  obtain ⟨vm₁, X₁, hstep₁⟩ := X.invokestatic hx ho hlink hnamed hmethM hstatic hkP hinitP hy (g := F0 m pc ls st0) rfl (argsL := As) (rest := rest) (hn.trans (hlen _ hsigM)) hst (by rw [hb]; exact hdg)
  have hpre : sm_PX D cl tysc wc (T.setVm vm₁).heap.size (T.setVm vm₁) :=
    ⟨(sm_pre (av := As) (hK.sub tis hti) (hP.sub isC (sm_fm hCm)) (hD.sub isC hnC hCm) (T.setVm vm₁) rfl X₁.warmed).2, hZ.kept X₁.warmed.alike hS.2.1 hF⟩
  obtain ⟨q, ce, T', L, X', hL, hce, hvm, hcl, hPt, hz, hk, st⟩ := sm_xb (g := F0 m pc ls rest) hX hcm hfr hlo hws hini X₁ rfl (hsize.trans hml.symm) (by rw [hb]; exact hdg) (lv_room hW) (X₁.named hnamed) hpre hf
  have hk' : ∀ z : Nat, z < T.heap.size → ¬ va_A wc T.heap.size z → T'.heap[z]? = T.heap[z]? := hk
  have hz' : T.heap.size ≤ T'.heap.size := hz
  have hD1 : va_D (va_A wc T.heap.size) wc := (hD.sub isC hnC hCm).self
  obtain ⟨jP, jD⟩ := va_join (w1 := wc) hP hD isC isR hCm hRm hnR hdis hk' hF hPt hD1
  obtain ⟨t2, a1, b1⟩ := kk q ce T'.heap (locs ++ L) hce hvm hcl jP jD
    ⟨Nat.le_trans hS.1 hz', fun q h1 h2 => by rw [hk' q (Nat.lt_of_lt_of_le h1 hS.1) (fun z => h2 (hF q z))]; exact hS.2.1 q h1 h2, fun q hq => by
      rcases List.mem_append.mp hq with h | h
      · exact hS.2.2 q h
      · exact hF _ (hL q h)⟩ T' rfl X'
  exact ⟨t2, hstep₁ _ fun acts => by rw [doInvoke_state]; exact st.trans a1, b1⟩
/-- an instance method that throws is called -/
theorem sm_xV (S : CallFix p m c cc nL s args Ts own) (hX : sm_X l y wz rm D cl tysc (.ref b :: As) wc E) (cw : CallW R s args own C index y bytes maxL ret wz rm rm.cells rm.slots n)
    (hK : va_K D cl tys s) (tis : List Nat) (hti : tis.filterMap (fun i => tys[i]?) = tysc) (hZ : sm_Z A0 s s.heap) (hP : va_P D cl ws H) (hD : va_D A0 ws) (hS : va_S A0 s.heap H locs) (hA : ∀ q, s.heap.size ≤ q → A0 q)
    (q0 : Nat) {ci : Nat} {fs : List Value} {T0 : u_T} {N : Nat} (he : ws[q0]? = some (b, .inr (ci, fs))) (hc : cl[ci]? = some (C, T0, N))
    (isC isR : List Nat) (hCm : isC.map (fun i => ws[i]?) = wc.map some) (hRm : isR.map (fun i => ws[i]?) = wr.map some) (hnC : va_nd isC = true) (hnR : va_nd isR = true) (hdis : ∀ i ∈ isR, i ∉ isC)
    (hn : As.length = n) (hsize : ls.size = nL) (hst : st0 = As.reverse ++ .ref b :: rest) (hW : (rest.map fun v => v.category).sum ≤ 8) (hdg : decode cc pc = .ok (.invokevirtual index, 3)) (hf : cells + rm.cells ≤ R.cells ∧ slots + rm.slots ≤ R.slots)
    (kk : ∀ (q : Nat) (ce : Cell) (H1 : Heap) (locs1 : List Loc), H1[q]? = some ce → ce.vm = .none → s.vm.findClass E = some ce.cls → va_P D cl (wr ++ wc) H1 → va_D A0 (wr ++ wc) → va_S A0 s.heap H1 locs1 → sm_V p l e R s m args below meth c H1 locs1 (cells + rm.cells) (slots + rm.slots) Q (F0 m pc ls rest) q) : W p l e R s m args below meth c H locs cells slots Q (F0 m pc ls st0) := by
  obtain ⟨⟨-, -, hfr, hlo, hws, hcm, hcode, hini, hy, hlen, hlink⟩, hinst, hsel⟩ := cw
  obtain ⟨hx, hb, hml, ho, -⟩ := S
  have hF := va_free (wc := wc) hD hS hA isC hCm
  obtain ⟨cellB, hcB, hoB, hclB⟩ := va_recv hK hP hc he
  intro T hT X
  subst hT
  obtain ⟨mk, methM, hnamed, hmethM, hstM, habM⟩ := Cond.instanceMethod_spec hinst
  obtain ⟨methM', cM, hmethM', -, -, -, -, -, -, hsigM⟩ := Cond.code_spec hnamed hcode
  cases hmethM.symm.trans hmethM'
  obtain ⟨c2, r2, m2, q1, q2, q3, q4, kP, hkP, hkPi⟩ := Cond.selects_spec hsel
  cases hclB.symm.trans q1
  cases (State.methodFound?_of_named hnamed hy).symm.trans q2
  cases hnamed.symm.trans q3
  have hselP : selectMethod e.platform s.vm cellB.cls mk = .method mk := by rw [Launch.admits_selectMethod X.admits]; exact q4
  obtain ⟨vm₁, X₁, hstep₁⟩ := X.invokevirtual hx ho hlink hnamed hmethM hstM hkP hkPi hy (a := b) (cell := cellB) hcB
    (fun z h => by rw [h] at hoB; cases hoB) hselP hmethM habM hkP hkPi (g := F0 m pc ls st0) rfl (argsL := As) (rest := rest) (hn.trans (hlen _ hsigM)) hst (by rw [hb]; exact hdg)
  have hpre : sm_PX D cl tysc wc (T.setVm vm₁).heap.size (T.setVm vm₁) :=
    ⟨(sm_pre (av := .ref b :: As) (hK.sub tis hti) (hP.sub isC (sm_fm hCm)) (hD.sub isC hnC hCm) (T.setVm vm₁) rfl X₁.warmed).2, hZ.kept X₁.warmed.alike hS.2.1 hF⟩
  obtain ⟨q, ce, T', L, X', hL, hce, hvm, hcl, hPt, hz, hk, st⟩ := sm_xb (g := F0 m pc ls rest) hX hcm hfr hlo hws hini X₁ rfl (hsize.trans hml.symm) (by rw [hb]; exact hdg) (lv_room hW) (X₁.named hnamed) hpre hf
  have hk' : ∀ z : Nat, z < T.heap.size → ¬ va_A wc T.heap.size z → T'.heap[z]? = T.heap[z]? := hk
  have hz' : T.heap.size ≤ T'.heap.size := hz
  have hD1 : va_D (va_A wc T.heap.size) wc := (hD.sub isC hnC hCm).self
  obtain ⟨jP, jD⟩ := va_join (w1 := wc) hP hD isC isR hCm hRm hnR hdis hk' hF hPt hD1
  obtain ⟨t2, a1, b1⟩ := kk q ce T'.heap (locs ++ L) hce hvm hcl jP jD
    ⟨Nat.le_trans hS.1 hz', fun q h1 h2 => by rw [hk' q (Nat.lt_of_lt_of_le h1 hS.1) (fun z => h2 (hF q z))]; exact hS.2.1 q h1 h2, fun q hq => by
      rcases List.mem_append.mp hq with h | h
      · exact hS.2.2 q h
      · exact hF _ (hL q h)⟩ T' rfl X'
  exact ⟨t2, hstep₁ _ fun acts => by rw [doInvoke_state]; exact st.trans a1, b1⟩
/-- it isn't caught here -/
theorem sm_vout {ce : Cell} {mc ms : Nat} (hout : ∀ x ∈ c.exceptionTable.toList, covers x pc = false) (hlocks : meth.locks = false) (hce : H[q]? = some ce) (hv : ce.vm = .none) (hcl : s.vm.findClass E = some ce.cls) (hP : va_P D cl wc H) (hS : va_S (va_A wc s.heap.size) s.heap H locs) (hc : cells ≤ mc) (hs : slots ≤ ms) :
    sm_V p l e R s m args below meth c H locs cells slots (sm_MX below D cl wc E s mc ms) (F0 m pc ls rest) q := by
  intro T hT X
  subst hT
  obtain ⟨st1, hrun, hend, hW, hsm⟩ := X.leaveThrown q (g := F0 m pc ls rest) rfl rfl rfl hout hlocks
  exact ⟨_, st1, .threw q, hrun, hend, q, ce, locs, rfl, hce, hv, hcl, hP, hS.F rfl, hW, hsm.mono hc hs, hS.2.2⟩
theorem sm_frame {U : State} {k n : Nat} (h : s.sameButNew ({ U with vm := s.vm } : State) [] k n) : s.heap.size ≤ U.heap.size ∧ ∀ z : Nat, z < s.heap.size → U.heap[z]? = s.heap[z]? := by
  obtain ⟨-, h2, -, -, -, h6⟩ := h
  refine ⟨h2, fun z hz => ?_⟩
  obtain ⟨c9, e1, e2, e3, e4⟩ := h6 z _ (Array.getElem?_eq_getElem hz)
  have hs : c9.slots = (s.heap[z]).slots := Array.ext_getElem? fun i => e4 i List.not_mem_nil
  have h9 : c9 = s.heap[z] := by rw [hs] at e2; exact e2
  have e5 : U.heap[z]? = some c9 := e1
  rw [e5, h9, Array.getElem?_eq_getElem hz]
/-- 'throw new E()' before anything has been written -/
theorem sm_throw0 (hx : p.tables.exec = Jvm.exec) (hb : c.code = cc) (hl : l.stackTraces = false) {cls : String} {names : List String} {ik ic mc ms : Nat}
    (hown : s.vm.findClass own = some m.cls) (hcls : Bundle.fit cls = true) (hnames : ∀ n ∈ names, Bundle.fit n = true)
    (hk : (Cond.classLink own ik cls).before args s = true) (hini : (Cond.initialized cls).before args s = true) (hat : ∀ w ∈ Bundle.ownAtoms0 own ic cls names, w.before args s = true)
    (hP : va_P D cl wc s.heap) (hsize : ls.size = c.maxLocals)
    (d0 : decode cc pc = .ok (.new ik, 3)) (d3 : decode cc (pc + 3) = .ok (.dup, 1)) (d4 : decode cc (pc + 4) = .ok (.invokespecial ic, 3)) (d7 : decode cc (pc + 7) = .ok (.athrow, 1))
    (hout : ∀ x ∈ c.exceptionTable.toList, covers x (pc + 7) = false)
    (hRf : names.length + 3 < R.frames) (hRl : (rest.map fun v => v.category).sum + (13 * (names.length + 1) + 42) ≤ R.locals) (hRc : 0 + 1 ≤ R.cells) (hRs : 0 + 6 ≤ R.slots) (hlocks : meth.locks = false) (hc : 1 ≤ mc) (hs : 6 ≤ ms) :
    W p l e R s m args below meth c s.heap [] 0 0 (sm_MX below D cl wc cls s mc ms) (F0 m pc ls rest) := by
  intro T hT X
  have htr : e.platform.stackTraces = false := (show e.platform.stackTraces = l.stackTraces by rw [X.admits.platform]).trans hl
  have hins : (Cond.instantiable cls 6).before args s = true := hat _ (by simp [Bundle.ownAtoms0])
  obtain ⟨vm₁, cX, kX, hfX, hkX, -, -, X₁, st1⟩ := X.newCold hx (own := own) (C := cls) (index := ik) (n := 6) hown hk hins hini (g := F0 m pc ls rest) rfl (by rw [hb]; exact d0) hRc hRs
  generalize hT1 : (T.setVm vm₁).pushCell { cls := cX, slots := kX.instanceTypes.map defaultValue, vm := .none } = T1 at X₁ st1
  have hcat : (Value.ref T.heap.size).category = 1 := rfl
  have hcellA : T1.heap[T.heap.size]? = some (freshCell cX kX) := by rw [← hT1]; exact State.heap_pushCell_size _ _
  have d3' : decode c.code (pc + 3) = .ok (.dup, 1) := by rw [hb]; exact d3
  obtain ⟨U, hsteps, hrun, hend, hW, hsame, ce, hce, hO⟩ := X₁.ctorThrow0 hx htr (own := own) (cls := cls) (names := names) (ic := ic) hown hcls hnames hat (fun x hx => nomatch hx) hfX hkX hcellA (by rw [hT]; exact Nat.le_refl _)
    (g := { method := m, pc := pc + 4, locals := ls, stack := .ref T.heap.size :: .ref T.heap.size :: rest, locked := none }) rfl hsize rfl rfl (rest := rest) rfl
    (by rw [hb]; exact d4) (by rw [hb]; exact d7) hout hRf (by simp only [List.map_cons, List.sum_cons, hcat]; have : 2 * JFrame.monitorRoom { method := m, pc := pc + 4, locals := ls, stack := .ref T.heap.size :: .ref T.heap.size :: rest, locked := none } = 0 := rfl; omega) hlocks
  obtain ⟨f1, f2⟩ := sm_frame hsame
  refine ⟨U, ?_, .threw T.heap.size, hrun, hend, T.heap.size, ce, [], rfl, hce, hO.vm, hO.cls, hP.kept (fun k x hx => f2 x.1 ((hP k x hx).lt)), ⟨f1, fun z hz _ => f2 z hz⟩, hW, hsame.mono (by omega) (by omega), fun z hz => nomatch hz⟩
  refine st1 _ ?_
  show Steps p.tables e below (T1.setTop { method := m, pc := pc + 3, locals := ls, stack := .ref T.heap.size :: rest, locked := none }) _
  jvm_step X₁.here [X₁.here.top, hx, d3', Value.category]
  exact hsteps
end SMX
/-- a throwing contract out of the walk of a method's body -/
theorem sm_startX {l : Launch} {y : MethodName} {ws ws' : List Cond} {rm : Room} {D : va_G} {cl : List vw_C} {tys : List (ClassId × FieldType)} {av : List Value} {w0 : va_W} {E : String} {cc : ByteArray} {maxL : Nat} {ret : Option FieldType} {lv : List (Nat × Value)}
    (hy : plainName y.cls = true) (hw : ws = Cond.code y cc maxL ret :: ws') (hsl : (lg_sl av).length ≤ maxL) (hlv : lv_args 0 av = lv)
    (body : ∀ (p : Program) (e : Env) (s : State) (m : MethodId) (below : List Frame) (meth : Method) (c : Code), p.tables.exec = Jvm.exec → c.code = cc → meth.sig.returnType = ret → (∀ w ∈ ws, w.before av.toArray s = true) → s.vm.findClass y.cls = some m.cls → meth.locks = false → c.maxLocals = maxL → c.exceptionTable.toList = [] → sm_Z (va_A w0 s.heap.size) s s.heap →
      va_K D cl tys s → va_P D cl w0 s.heap → va_D (va_A w0 s.heap.size) w0 → va_S (va_A w0 s.heap.size) s.heap s.heap [] → (∀ q : Nat, s.heap.size ≤ q → va_A w0 s.heap.size q) → ∀ ls : Array Slot, lv_has ls maxL lv →
      W p l e rm s m av.toArray below meth c s.heap [] 0 0 (sm_MX below D cl w0 E s rm.cells rm.slots) (F0 m 0 ls [])) : sm_X l y ws rm D cl tys av w0 E := by
  subst hlv
  intro sz
  refine MetFree.of_bodyS (code := cc) (maxLocals := maxL) (ret := ret) hy ?_ ?_
  · intro args s m h hn
    obtain ⟨meth, c, h1, h2, h3, h4, h5, h6, -, -⟩ := Cond.code_spec hn (atoms_spec (ws := ws) h _ (by rw [hw]; exact List.mem_cons_self))
    exact ⟨meth, c, h1, h2, h3, h4, h5, h6⟩
  · intro p e s m args below meth c s₁ B hml hP _
    obtain ⟨rfl, ⟨hsz, hP, hK, hD0⟩, hZ⟩ := hP
    subst hsz
    have hh0 : s₁.heap = s.heap := by rw [B.state]; rfl
    have hts := atoms_spec (ws := ws) B.pre
    have X₀ := Stand.of_body B
    have hne : c.exceptionTable.toList = [] := by
      obtain ⟨meth', c', hm', hc', -, -, -, -, hempty, -⟩ := Cond.code_spec B.named (hts (Cond.code y cc maxL ret) (by rw [hw]; exact List.mem_cons_self))
      cases B.method.symm.trans hm'
      cases X₀.code.symm.trans hc'
      exact List.eq_nil_of_length_eq_zero (by simpa [Array.isEmpty] using hempty)
    have K := body p e s m below meth c B.exec B.bytes B.returns hts (findClass_of_methodNamed B.named) B.notSynchronized hml hne hZ hK hP (hD0.self) va_S.rf (fun q h => Or.inr h) _ (lv_entry av hsl)
    rw [← lg_entry_eq] at K
    obtain ⟨t, a1, o, b1, b2, b3⟩ := K s₁ hh0 X₀
    exact ⟨t, o, a1, b1, b2, b3⟩
end
section
/-! Integer.numberOfTrailingZeros and Integer.bitCount: the numbers behind their code -/
theorem sm_btn (x : Int32) (i : Nat) : bt x i = x.toBitVec.toNat.testBit i := rfl
theorem sm_odd {a : Nat} (h : a % 2 = 1) : ∀ j, (!a.testBit j && (a - 1).testBit j) = false
  | 0 => by
    rw [Nat.testBit_zero, Nat.testBit_zero]
    simp; omega
  | j + 1 => by
    rw [Nat.testBit_succ, Nat.testBit_succ, show (a - 1) / 2 = a / 2 by omega]
    simp
/-- the ones below a place -/
def sm_low (t : Nat) : Int32 := sm_mk (fun i => decide (i < t)) 32
theorem sm_ntz (x : Int32) : (x ^^^ (-1)) &&& (x - 1) = sm_low (sm_tz x) := by
  have hle := sm_tz_le x
  by_cases h32 : sm_tz x = 32
  · have h0 : x = 0 := b_ext fun i hi => by rw [sm_tz_lt (by omega), b_0]
    rw [h32, h0]
    decide +kernel
  · refine b_ext fun i hi => ?_
    rw [b_and, sm_bnot x hi]
    unfold sm_low
    rw [sm_mk32 _ hi]
    obtain ⟨t, ht⟩ : ∃ t, t = sm_tz x := ⟨_, rfl⟩
    have h1 : ∀ i, i < t → bt x i = false := fun i h => sm_tz_lt (by omega)
    have h2 : bt x t = true := by rw [ht]; exact sm_tz_at (by omega)
    rw [← ht]
    obtain ⟨N, hN⟩ : ∃ N, N = x.toBitVec.toNat := ⟨_, rfl⟩
    have hlt : N < 2 ^ 32 := by rw [hN]; exact x.toBitVec.isLt
    have b1 : ∀ i, i < t → N.testBit i = false := fun i h => by rw [hN]; exact h1 i h
    have b2 : N.testBit t = true := by rw [hN]; exact h2
    have hmod : N % 2 ^ t = 0 := Nat.eq_of_testBit_eq fun i => by
      rw [Nat.testBit_mod_two_pow, Nat.zero_testBit]
      by_cases h : i < t
      · rw [b1 i h]; simp
      · simp [h]
    obtain ⟨a, ha⟩ : ∃ a, N = 2 ^ t * a := ⟨N / 2 ^ t, by have := Nat.div_add_mod N (2 ^ t); omega⟩
    have hodd : a % 2 = 1 := by
      have h3 : N.testBit t = a.testBit 0 := by rw [ha, Nat.testBit_two_pow_mul]; simp
      rw [b2, Nat.testBit_zero] at h3
      simpa using h3.symm
    have hpos : 0 < 2 ^ t := Nat.two_pow_pos t
    have hsub : N - 1 = 2 ^ t * (a - 1) + (2 ^ t - 1) := by
      have h4 : 2 ^ t * a = 2 ^ t * (a - 1) + 2 ^ t := by rw [← Nat.mul_succ]; congr 1; omega
      omega
    have hN1 : 1 ≤ N := by
      have : 2 ^ t * 1 ≤ 2 ^ t * a := Nat.mul_le_mul_left _ (by omega)
      omega
    have hx1 : (x - 1).toBitVec.toNat = N - 1 := by
      rw [Int32.toBitVec_sub, BitVec.toNat_sub, ← hN]
      show (2 ^ 32 - 1 + N) % 2 ^ 32 = N - 1
      omega
    rw [sm_btn, sm_btn, hx1, ← hN, hsub, ha]
    by_cases h : i < t
    · rw [Nat.testBit_two_pow_mul_add _ (by omega), if_pos h, Nat.testBit_two_pow_sub_one, Nat.testBit_two_pow_mul]
      simp [h, Nat.not_le.mpr h]
    · rw [Nat.testBit_two_pow_mul_add _ (by omega), if_neg h, Nat.testBit_two_pow_mul]
      have := sm_odd hodd (i - t)
      simp only [show decide (i ≥ t) = true by simp; omega, Bool.true_and]
      rw [this]; simp [h]
/-! bitCount, a byte at a time -/
theorem sm_and256 {u w : Nat} (v z : Nat) (hu : u < 256) (hw : w < 256) : (u + 256 * v) &&& (w + 256 * z) = (u &&& w) + 256 * (v &&& z) := by
  have h1 : ((u + 256 * v) &&& (w + 256 * z)) % 256 = u &&& w := by
    rw [show (256 : Nat) = 2 ^ 8 from rfl, Nat.and_mod_two_pow, show (u + 2 ^ 8 * v) % 2 ^ 8 = u by omega, show (w + 2 ^ 8 * z) % 2 ^ 8 = w by omega]
  have h2 : ((u + 256 * v) &&& (w + 256 * z)) / 256 = v &&& z := by
    rw [show (256 : Nat) = 2 ^ 8 from rfl, Nat.and_div_two_pow, show (u + 2 ^ 8 * v) / 2 ^ 8 = v by omega, show (w + 2 ^ 8 * z) / 2 ^ 8 = z by omega]
  omega
def sm_g1 (n m : Nat) : Nat := n - ((n / 2) &&& m)
def sm_g2 (n m : Nat) : Nat := (n &&& m) + ((n / 4) &&& m)
def sm_g3 (n m : Nat) : Nat := (n + n / 16) &&& m
theorem sm_d1 : ∀ a, a < 256 → ∀ r, r < 2 → (a / 2 + 128 * r) &&& 85 = (a / 2) &&& 85 := by decide +kernel
theorem sm_d2 : ∀ a, a < 256 → ∀ r, r < 4 → (a / 4 + 64 * r) &&& 51 = (a / 4) &&& 51 := by decide +kernel
theorem sm_d3 : ∀ a, a < 69 → ∀ r, r < 5 → (a + a / 16 + 16 * r) &&& 15 = (a + a / 16) &&& 15 := by decide +kernel
theorem sm_s1 {a : Nat} (m M : Nat) (ha : a < 256) : sm_g1 (a + 256 * m) (85 + 256 * M) = sm_g1 a 85 + 256 * sm_g1 m M := by
  unfold sm_g1
  rw [show (a + 256 * m) / 2 = (a / 2 + 128 * (m % 2)) + 256 * (m / 2) by omega, sm_and256 _ _ (by omega) (by omega), sm_d1 a ha (m % 2) (by omega)]
  have h1 : (a / 2) &&& 85 ≤ a / 2 := Nat.and_le_left
  have h2 : (m / 2) &&& M ≤ m / 2 := Nat.and_le_left
  omega
theorem sm_s2 {a : Nat} (m M : Nat) (ha : a < 256) : sm_g2 (a + 256 * m) (51 + 256 * M) = sm_g2 a 51 + 256 * sm_g2 m M := by
  unfold sm_g2
  rw [show (a + 256 * m) / 4 = (a / 4 + 64 * (m % 4)) + 256 * (m / 4) by omega, sm_and256 _ _ ha (by omega), sm_and256 _ _ (by omega) (by omega), sm_d2 a ha (m % 4) (by omega)]
  omega
theorem sm_s3 {a : Nat} (m M : Nat) (ha : a < 69) (hm : m % 16 < 5) : sm_g3 (a + 256 * m) (15 + 256 * M) = sm_g3 a 15 + 256 * sm_g3 m M := by
  unfold sm_g3
  rw [show a + 256 * m + (a + 256 * m) / 16 = (a + a / 16 + 16 * (m % 16)) + 256 * (m + m / 16) by omega, sm_and256 _ _ (by omega) (by omega), sm_d3 a ha (m % 16) hm]
theorem sm_e1 : ∀ a, a < 256 → sm_g1 a 85 < 256 ∧ sm_g2 (sm_g1 a 85) 51 < 69 ∧ sm_g2 (sm_g1 a 85) 51 % 16 < 5 ∧ sm_g3 (sm_g2 (sm_g1 a 85) 51) 15 = sm_pc (fun i => a.testBit i) 8 := by decide +kernel
theorem sm_nat (x : Int32) : x = nI x.toBitVec.toNat := by
  apply Int32.toBitVec_inj.1
  show x.toBitVec = BitVec.ofNat 32 x.toBitVec.toNat
  simp
theorem sm_ands (a b : Nat) : nI a &&& nI b = nI (a &&& b) := by
  apply Int32.toBitVec_inj.1
  show BitVec.ofNat 32 a &&& BitVec.ofNat 32 b = BitVec.ofNat 32 (a &&& b)
  apply BitVec.eq_of_getLsbD_eq
  intro i hi
  simp [hi]
theorem sm_pc8 (x : Int32) (k : Nat) : sm_pc (fun i => bt x (8 * k + i)) 8 = sm_pc (fun i => (x.toBitVec.toNat / 2 ^ (8 * k) % 256).testBit i) 8 := by
  refine sm_pc_eq 8 fun i hi => ?_
  rw [sm_btn, show (256 : Nat) = 2 ^ 8 from rfl, Nat.testBit_mod_two_pow, Nat.testBit_div_two_pow]
  simp [hi, Nat.add_comm]
theorem sm_pc32 (x : Int32) : sm_pc (bt x) 32 = sm_pc (fun i => bt x (8 * 0 + i)) 8 + sm_pc (fun i => bt x (8 * 1 + i)) 8 + sm_pc (fun i => bt x (8 * 2 + i)) 8 + sm_pc (fun i => bt x (8 * 3 + i)) 8 := by
  have e1 := sm_pc_add (bt x) 24 8
  have e2 := sm_pc_add (bt x) 16 8
  have e3 := sm_pc_add (bt x) 8 8
  have e4 : sm_pc (fun i => bt x (8 * 0 + i)) 8 = sm_pc (bt x) 8 := sm_pc_eq 8 fun i _ => by rw [Nat.mul_zero, Nat.zero_add]
  rw [e4]
  show sm_pc (bt x) (24 + 8) = _
  rw [e1]
  show sm_pc (bt x) (16 + 8) + _ = _
  rw [e2]
  show sm_pc (bt x) (8 + 8) + _ + _ = _
  rw [e3]
/-- what bitCount's code computes -/
def sm_bc (x : Int32) : Int32 :=
  let i1 := x - (sm_ushr x 1 &&& 1431655765)
  let i2 := (i1 &&& 858993459) + (sm_ushr i1 2 &&& 858993459)
  let i3 := (i2 + sm_ushr i2 4) &&& 252645135
  let i4 := i3 + sm_ushr i3 8
  let i5 := i4 + sm_ushr i4 16
  i5 &&& 63
theorem sm_un {n : Nat} (hn : n < 2 ^ 32) (s : Int32) (k : Nat) (hs : ((s.toUInt32 &&& Int32.toUInt32 31).toBitVec % 32).toNat = k) : sm_ushr (nI n) s = nI (n / 2 ^ k) := pk_ushrN hn s k hs
theorem sm_bcS {A B C D M : Nat} (p1 : A ≤ 8) (p2 : B ≤ 8) (p3 : C ≤ 8) (p4 : D ≤ 8) (hM : A + 256 * (B + 256 * (C + 256 * D)) = M) : (M + M / 256 + (M + M / 256) / 65536) % 64 = A + B + C + D := by
  have e1 : M / 256 = B + 256 * C + 65536 * D := by omega
  have e2 : (M + M / 256) / 65536 = C + D + 256 * D := by rw [e1]; omega
  rw [e2, e1]
  omega
theorem sm_bc_eq (x : Int32) : sm_bc x = nI (sm_pc (bt x) 32) := by
  obtain ⟨N, hN⟩ : ∃ N, N = x.toBitVec.toNat := ⟨_, rfl⟩
  have hlt : N < 2 ^ 32 := by rw [hN]; exact x.toBitVec.isLt
  rw [sm_pc32, sm_pc8, sm_pc8, sm_pc8, sm_pc8, ← hN]
  have hx : x = nI N := by rw [hN]; exact sm_nat x
  rw [hx]
  clear hx hN
  obtain ⟨a, ha⟩ : ∃ a, a = N / 2 ^ (8 * 0) % 256 := ⟨_, rfl⟩
  obtain ⟨b, hb⟩ : ∃ b, b = N / 2 ^ (8 * 1) % 256 := ⟨_, rfl⟩
  obtain ⟨c, hc⟩ : ∃ c, c = N / 2 ^ (8 * 2) % 256 := ⟨_, rfl⟩
  obtain ⟨d, hd⟩ : ∃ d, d = N / 2 ^ (8 * 3) % 256 := ⟨_, rfl⟩
  rw [← ha, ← hb, ← hc, ← hd]
  have hNe : N = a + 256 * (b + 256 * (c + 256 * d)) := by
    simp only [Nat.reduceMul, Nat.reducePow] at ha hb hc hd hlt
    omega
  have la : a < 256 := by rw [ha]; exact Nat.mod_lt _ (by decide)
  have lb : b < 256 := by rw [hb]; exact Nat.mod_lt _ (by decide)
  have lc : c < 256 := by rw [hc]; exact Nat.mod_lt _ (by decide)
  have ld : d < 256 := by rw [hd]; exact Nat.mod_lt _ (by decide)
  clear ha hb hc hd
  obtain ⟨a1, a2, a3, a4⟩ := sm_e1 a la
  obtain ⟨b1, b2, b3, b4⟩ := sm_e1 b lb
  obtain ⟨c1, c2, c3, c4⟩ := sm_e1 c lc
  obtain ⟨d1, d2, d3, d4⟩ := sm_e1 d ld
  have q1 : sm_g1 N 1431655765 = sm_g1 a 85 + 256 * (sm_g1 b 85 + 256 * (sm_g1 c 85 + 256 * sm_g1 d 85)) := by
    rw [hNe, show (1431655765 : Nat) = 85 + 256 * (85 + 256 * (85 + 256 * 85)) from rfl, sm_s1 _ _ la, sm_s1 _ _ lb, sm_s1 _ _ lc]
  have q2 : sm_g2 (sm_g1 N 1431655765) 858993459 = sm_g2 (sm_g1 a 85) 51 + 256 * (sm_g2 (sm_g1 b 85) 51 + 256 * (sm_g2 (sm_g1 c 85) 51 + 256 * sm_g2 (sm_g1 d 85) 51)) := by
    rw [q1, show (858993459 : Nat) = 51 + 256 * (51 + 256 * (51 + 256 * 51)) from rfl, sm_s2 _ _ a1, sm_s2 _ _ b1, sm_s2 _ _ c1]
  have q3 : sm_g3 (sm_g2 (sm_g1 N 1431655765) 858993459) 252645135 = sm_pc (fun i => a.testBit i) 8 + 256 * (sm_pc (fun i => b.testBit i) 8 + 256 * (sm_pc (fun i => c.testBit i) 8 + 256 * sm_pc (fun i => d.testBit i) 8)) := by
    rw [q2, show (252645135 : Nat) = 15 + 256 * (15 + 256 * (15 + 256 * 15)) from rfl, sm_s3 _ _ a2 (by omega), sm_s3 _ _ b2 (by omega), sm_s3 _ _ c2 d3, a4, b4, c4, d4]
  have p1 := sm_pc_le (fun i => a.testBit i) 8
  have p2 := sm_pc_le (fun i => b.testBit i) 8
  have p3 := sm_pc_le (fun i => c.testBit i) 8
  have p4 := sm_pc_le (fun i => d.testBit i) 8
  have l1 : sm_g1 N 1431655765 < 2 ^ 32 := by rw [q1]; have := (sm_e1 d ld).1; omega
  have l2 : sm_g2 (sm_g1 N 1431655765) 858993459 < 2 ^ 32 := by rw [q2]; omega
  have le1 : (N / 2) &&& 1431655765 ≤ N := Nat.le_trans Nat.and_le_left (Nat.div_le_self _ _)
  have i1 : nI N - (sm_ushr (nI N) 1 &&& 1431655765) = nI (sm_g1 N 1431655765) := by
    rw [sm_un hlt 1 1 (by decide +kernel), show (1431655765 : Int32) = nI 1431655765 from rfl, sm_ands, pk_sub le1]
    rfl
  have i2 : (nI (sm_g1 N 1431655765) &&& 858993459) + (sm_ushr (nI (sm_g1 N 1431655765)) 2 &&& 858993459) = nI (sm_g2 (sm_g1 N 1431655765) 858993459) := by
    rw [sm_un l1 2 2 (by decide +kernel), show (858993459 : Int32) = nI 858993459 from rfl, sm_ands, sm_ands, nI_add]
    rfl
  have i3 : (nI (sm_g2 (sm_g1 N 1431655765) 858993459) + sm_ushr (nI (sm_g2 (sm_g1 N 1431655765) 858993459)) 4) &&& 252645135 = nI (sm_g3 (sm_g2 (sm_g1 N 1431655765) 858993459) 252645135) := by
    rw [sm_un l2 4 4 (by decide +kernel), show (252645135 : Int32) = nI 252645135 from rfl, nI_add, sm_ands]
    rfl
  obtain ⟨A, hA⟩ : ∃ A, A = sm_pc (fun i => a.testBit i) 8 := ⟨_, rfl⟩
  obtain ⟨B, hB⟩ : ∃ B, B = sm_pc (fun i => b.testBit i) 8 := ⟨_, rfl⟩
  obtain ⟨C, hC⟩ : ∃ C, C = sm_pc (fun i => c.testBit i) 8 := ⟨_, rfl⟩
  obtain ⟨D, hD⟩ : ∃ D, D = sm_pc (fun i => d.testBit i) 8 := ⟨_, rfl⟩
  rw [← hA] at p1 q3 ⊢
  rw [← hB] at p2 q3 ⊢
  rw [← hC] at p3 q3 ⊢
  rw [← hD] at p4 q3 ⊢
  show ((_ + sm_ushr _ 8) + sm_ushr (_ + sm_ushr _ 8) 16) &&& 63 = _
  simp only [i1, i2, i3]
  rw [q3]
  generalize hM : A + 256 * (B + 256 * (C + 256 * D)) = M
  have lM : M < 2 ^ 32 := by omega
  rw [sm_un lM 8 8 (by decide +kernel), nI_add, sm_un (by omega) 16 16 (by decide +kernel), nI_add, show (63 : Int32) = nI (2 ^ 6 - 1) from rfl, sm_ands, Nat.and_two_pow_sub_one_eq_mod]
  congr 1
  simp only [Nat.reducePow]
  exact sm_bcS p1 p2 p3 p4 hM
end
section
/-! ends of what a word can be; the two orders -/
theorem sm_ors (a b : Nat) : nI a ||| nI b = nI (a ||| b) := by
  apply Int32.toBitVec_inj.1
  show BitVec.ofNat 32 a ||| BitVec.ofNat 32 b = BitVec.ofNat 32 (a ||| b)
  apply BitVec.eq_of_getLsbD_eq
  intro i hi
  simp [hi]
def sm_na (g : Nat → Bool) : Nat → Nat
  | 0 => 0
  | k + 1 => if g k then sm_na g k + 2 ^ k else sm_na g k
theorem sm_na_lt (g : Nat → Bool) : ∀ k, sm_na g k < 2 ^ k
  | 0 => by show 0 < 1; omega
  | k + 1 => by
    have := sm_na_lt g k
    unfold sm_na
    rw [Nat.pow_succ]
    split <;> omega
theorem sm_p2 : ∀ k, k < 32 → (1 : Int32) <<< (nI k &&& 31) = nI (2 ^ k) := by decide +kernel
theorem sm_p2l : ∀ k, k < 32 → sm_lshl 1 (nI k) = lN (2 ^ k) := by decide +kernel
theorem sm_mk_na (g : Nat → Bool) : ∀ k, k ≤ 32 → sm_mk g k = nI (sm_na g k)
  | 0, _ => rfl
  | k + 1, h => by
    have hl := sm_na_lt g k
    have e : sm_na g k ||| 2 ^ k = sm_na g k + 2 ^ k := by
      have := Nat.two_pow_add_eq_or_of_lt hl 1
      rw [Nat.mul_one] at this
      rw [Nat.or_comm, ← this, Nat.add_comm]
    unfold sm_mk sm_na
    split
    · rw [sm_mk_na g k (by omega), sm_p2 k (by omega), sm_ors, e]
    · exact sm_mk_na g k (by omega)
theorem sm_nIn {n : Nat} (h : n < 2 ^ 32) : (nI n).toBitVec.toNat = n := pk_tn h
/-- the sum that 'end' makes -/
def sm_en (g : Nat → Bool) (sg : Bool) : Nat → Int64
  | 0 => 0
  | k + 1 => if g k then sm_en g sg k + (if sg && decide (k = 31) then -(sm_lshl 1 (nI k)) else sm_lshl 1 (nI k)) else sm_en g sg k
theorem sm_en_na (g : Nat → Bool) (sg : Bool) : ∀ k, k ≤ 32 → (sg = true → k ≤ 31) → sm_en g sg k = lN (sm_na g k)
  | 0, _, _ => by show (0 : Int64) = lN 0; decide +kernel
  | k + 1, h, hs => by
    have ih := sm_en_na g sg k (by omega) (fun z => by have := hs z; omega)
    unfold sm_en sm_na
    have hc : (sg && decide (k = 31)) = false := by
      cases sg
      · rfl
      · have := hs rfl
        simp; omega
    rw [hc, ih, sm_p2l k (by omega)]
    simp only [Bool.false_eq_true, if_false]
    split
    · rw [lN_add]
    · rfl
theorem sm_en_u (g : Nat → Bool) : sm_en g false 32 = lN (sm_mk g 32).toBitVec.toNat := by
  rw [sm_en_na g false 32 (Nat.le_refl _) (fun z => by cases z), sm_mk_na g 32 (Nat.le_refl _), sm_nIn (sm_na_lt g 32)]
theorem sm_lNt {n : Nat} (h : n < 2 ^ 63) : (lN n).toInt = (n : Int) := pk_lT h
theorem sm_en_s (g : Nat → Bool) : sm_en g true 32 = (sm_mk g 32).toInt64 := by
  have ih := sm_en_na g true 31 (by omega) (fun _ => Nat.le_refl _)
  have hl := sm_na_lt g 31
  have hm := sm_mk_na g 32 (Nat.le_refl _)
  have e1 : sm_en g true 32 = if g 31 then sm_en g true 31 + (if true && decide (31 = 31) then -(sm_lshl 1 (nI 31)) else sm_lshl 1 (nI 31)) else sm_en g true 31 := rfl
  have e2 : sm_na g 32 = if g 31 then sm_na g 31 + 2 ^ 31 else sm_na g 31 := rfl
  rw [e1, hm, e2, ih]
  simp only [decide_true, Bool.and_self, if_true]
  generalize sm_na g 31 = n at hl
  by_cases hg : g 31
  · rw [if_pos hg, if_pos hg]
    apply Int64.toInt_inj.1
    rw [Int32.toInt_toInt64, sm_p2l 31 (by omega), Int64.toInt_add, Int64.toInt_neg, sm_lNt (by omega), sm_lNt (by omega)]
    have h3 : (nI (n + 2 ^ 31)).toInt = (n : Int) - 2 ^ 31 := by
      show (BitVec.ofNat 32 (n + 2 ^ 31)).toInt = _
      rw [BitVec.toInt_eq_toNat_bmod, BitVec.toNat_ofNat]
      simp only [Int.bmod]
      omega
    rw [h3]
    simp only [Int.bmod]
    omega
  · rw [if_neg hg, if_neg hg]
    exact (nI_l (by omega)).symm
/-- what a bit is at an end -/
def sm_one (v n : Int32) (gr sg : Bool) (k : Nat) : Bool := if bt n k then (gr != (sg && decide (k = 31))) else bt v k
theorem sm_bmin (i : Nat) (hi : i < 32) : bt (-2147483648) i = decide (i = 31) := (by decide +kernel : ∀ i, i < 32 → bt (-2147483648) i = decide (i = 31)) i hi
theorem sm_bmax (i : Nat) (hi : i < 32) : bt 2147483647 i = decide (i < 31) := (by decide +kernel : ∀ i, i < 32 → bt 2147483647 i = decide (i < 31)) i hi
def sm_le (v n : Int32) : Int32 := (v &&& (n ^^^ (-1))) ||| (n &&& (-2147483648))
def sm_he (v n : Int32) : Int32 := (v &&& (n ^^^ (-1))) ||| (n &&& 2147483647)
theorem sm_le_b (v n : Int32) {i : Nat} (hi : i < 32) : bt (sm_le v n) i = sm_one v n false true i := by
  unfold sm_le sm_one
  rw [b_or, b_and, sm_bnot n hi, b_and, sm_bmin i hi]
  cases bt v i <;> cases bt n i <;> by_cases h : i = 31 <;> simp [h]
theorem sm_he_b (v n : Int32) {i : Nat} (hi : i < 32) : bt (sm_he v n) i = sm_one v n true true i := by
  unfold sm_he sm_one
  rw [b_or, b_and, sm_bnot n hi, b_and, sm_bmax i hi]
  cases bt v i <;> cases bt n i <;> by_cases h : i = 31 <;> simp [h] <;> omega
theorem sm_mk_le (v n : Int32) : sm_mk (sm_one v n false true) 32 = sm_le v n := sm_mkx fun i hi => (sm_le_b v n hi).symm
theorem sm_mk_he (v n : Int32) : sm_mk (sm_one v n true true) 32 = sm_he v n := sm_mkx fun i hi => (sm_he_b v n hi).symm
/-- without sign: the ends with the sign turned over -/
theorem sm_mk_ul (v n : Int32) : sm_mk (sm_one v n false false) 32 = sm_le (v ^^^ (-2147483648)) n ^^^ (-2147483648) := sm_mkx fun i hi => by
  rw [b_xor, sm_le_b _ n hi, sm_bmin i hi]
  unfold sm_one
  rw [b_xor, sm_bmin i hi]
  cases bt v i <;> cases bt n i <;> by_cases h : i = 31 <;> simp [h]
theorem sm_mk_uh (v n : Int32) : sm_mk (sm_one v n true false) 32 = sm_he (v ^^^ (-2147483648)) n ^^^ (-2147483648) := sm_mkx fun i hi => by
  rw [b_xor, sm_he_b _ n hi, sm_bmin i hi]
  unfold sm_one
  rw [b_xor, sm_bmin i hi]
  cases bt v i <;> cases bt n i <;> by_cases h : i = 31 <;> simp [h]
theorem sm_lt64 (x y : Int32) : x.toInt64 < y.toInt64 ↔ x < y := by
  rw [Int64.lt_iff_toInt_lt, Int32.toInt_toInt64, Int32.toInt_toInt64, Int32.lt_iff_toInt_lt]
theorem sm_x31 {a : Nat} (h : a < 2 ^ 32) : a ^^^ (2147483648 % 2 ^ 32) = (a + 2 ^ 31) % 2 ^ 32 := by
  show a ^^^ 2 ^ 31 = (a + 2 ^ 31) % 2 ^ 32
  have h1 : (a ^^^ 2 ^ 31) % 2 ^ 31 = a % 2 ^ 31 := by rw [Nat.xor_mod_two_pow, Nat.mod_self, Nat.xor_zero]
  have h2 : (a ^^^ 2 ^ 31) / 2 ^ 31 = (a / 2 ^ 31) ^^^ 1 := by rw [Nat.xor_div_two_pow, Nat.div_self (Nat.two_pow_pos 31)]
  have h3 : a / 2 ^ 31 = 0 ∨ a / 2 ^ 31 = 1 := by omega
  generalize a ^^^ 2 ^ 31 = t at h1 h2
  rcases h3 with h3 | h3
  · rw [h3] at h2
    have h2 : t / 2 ^ 31 = 1 := h2
    omega
  · rw [h3] at h2
    have h2 : t / 2 ^ 31 = 0 := h2
    omega
theorem sm_sgn (x : Int32) : (x ^^^ (-2147483648)).toInt = (x.toBitVec.toNat : Int) - 2 ^ 31 := by
  have hx : x = nI x.toBitVec.toNat := sm_nat x
  have hlt := x.toBitVec.isLt
  generalize x.toBitVec.toNat = n at hx hlt
  subst hx
  have e : nI n ^^^ (-2147483648) = nI (n + 2 ^ 31) := by
    apply Int32.toBitVec_inj.1
    apply BitVec.eq_of_toNat_eq
    show (BitVec.ofNat 32 n ^^^ 2147483648#32).toNat = (BitVec.ofNat 32 (n + 2 ^ 31)).toNat
    rw [BitVec.toNat_xor, BitVec.toNat_ofNat, BitVec.toNat_ofNat, BitVec.toNat_ofNat, Nat.mod_eq_of_lt hlt]
    exact sm_x31 hlt
  rw [e]
  show (BitVec.ofNat 32 (n + 2 ^ 31)).toInt = _
  rw [BitVec.toInt_eq_toNat_bmod, BitVec.toNat_ofNat]
  simp only [Int.bmod]
  omega
theorem sm_ult (x y : Int32) : lN (x ^^^ (-2147483648)).toBitVec.toNat < lN (y ^^^ (-2147483648)).toBitVec.toNat ↔ x < y := by
  have e : ∀ z : Int32, z ^^^ (-2147483648) ^^^ (-2147483648) = z := fun z => b_ext fun i hi => by rw [b_xor, b_xor]; simp
  have h1 := sm_sgn (x ^^^ (-2147483648))
  have h2 := sm_sgn (y ^^^ (-2147483648))
  have l1 := (x ^^^ (-2147483648)).toBitVec.isLt
  have l2 := (y ^^^ (-2147483648)).toBitVec.isLt
  rw [e] at h1 h2
  rw [pk_lLT (by omega) (by omega), Int32.lt_iff_toInt_lt, h1, h2]
  omega
end
section
/-! small rows that the walks ask for -/
theorem sm_inc (k : Nat) : nI k + Int32.ofInt 1 = nI (k + 1) := by rw [nI_succ]; rfl
theorem sm_cl (f : Nat → Int32) {n : Nat} (h : n < 2 ^ 31) : f (nI n).toNatClampNeg = f n := by rw [nI_clamp h]
theorem sm_fillS0 (f : Nat → Int32) (g : Nat → Bool) (k : Nat) : upd (sm_fill f g 0 k) k (sm_bI (g k)) = sm_fill f g 0 (k + 1) := by
  have h := sm_fillS f g 0 k
  rwa [Nat.zero_add] at h
theorem sm_orf {i c : Int32} (hi : i < 0 ∨ c ≤ i) (h : ¬ i < 0) : ¬ i < c := by
  rcases hi with h1 | h1
  · exact absurd h1 h
  · rw [Int32.lt_iff_toInt_lt]; rw [Int32.le_iff_toInt_le] at h1; omega
theorem sm_b1f {b : Bool} (h : ¬ sm_bI b = 1) : sm_bI b = 0 := by cases b <;> first | rfl | exact absurd rfl h
theorem sm_bn0 {b : Bool} (h : b = false) : sm_bI b = 0 := by subst h; rfl
theorem sm_bn1 {b : Bool} (h : b = true) : ¬ sm_bI b = 0 := by subst h; decide
theorem sm_mk_t {g : Nat → Bool} {k : Nat} (h : g k = true) : sm_mk g k ||| (1 : Int32) <<< (nI k &&& 31) = sm_mk g (k + 1) := by rw [sm_mk, if_pos h]
theorem sm_mk_n {g : Nat → Bool} {k : Nat} (h : g k = false) : sm_mk g (k + 1) = sm_mk g k := by rw [sm_mk, if_neg (by rw [h]; decide)]
theorem sm_mk_f : sm_mk (fun _ => false) 32 = 0 := sm_mkx fun i _ => (b_0 i).symm
theorem sm_pc_n {g : Nat → Bool} {k : Nat} (h : g k = false) : sm_pc g (k + 1) = sm_pc g k := by rw [sm_pc, if_neg (by rw [h]; decide)]
theorem sm_pcI {g : Nat → Bool} {k : Nat} (h : g k = true) : nI (sm_pc g k) + Int32.ofInt 1 = nI (sm_pc g (k + 1)) := by rw [sm_pc, if_pos h]; exact sm_inc _
theorem sm_en_n {g : Nat → Bool} {sg : Bool} {k : Nat} (h : g k = false) : sm_en g sg (k + 1) = sm_en g sg k := by rw [sm_en, if_neg (by rw [h]; decide)]
theorem sm_en_t1 {g : Nat → Bool} {sg : Bool} {k : Nat} (h : g k = true) (h2 : (sg && decide (k = 31)) = true) : sm_en g sg (k + 1) = sm_en g sg k + (-(sm_lshl 1 (nI k))) := by rw [sm_en, if_pos h, if_pos h2]
theorem sm_en_t0 {g : Nat → Bool} {sg : Bool} {k : Nat} (h : g k = true) (h2 : (sg && decide (k = 31)) = false) : sm_en g sg (k + 1) = sm_en g sg k + sm_lshl 1 (nI k) := by rw [sm_en, if_pos h, if_neg (by rw [h2]; decide)]
theorem sm_lt32 {n : Nat} (hn : n < 2 ^ 31) (h : nI n < 32) : n < 32 := (nI_ltI hn (by decide)).mp (show nI n < nI 32 from h)
theorem sm_le32 {n : Nat} (hn : n < 2 ^ 31) (h : ¬ nI n < 32) : 32 ≤ n := Nat.not_lt.mp fun z => h (show nI n < nI 32 from (nI_ltI hn (by decide)).mpr z)
theorem sm_nle32 {t : Nat} (ht : t ≤ 32) (h : ¬ (32 : Int32) ≤ nI t) : t < 32 := by
  rcases Nat.lt_or_ge t 32 with h1 | h1
  · exact h1
  · exact absurd (show nI 32 ≤ nI t from nI_le h1 (by omega)) h
theorem sm_frt {n k : Nat} (hn : n < 2 ^ 31) (hk : k < 32) (h : ¬ nI k < nI n) : (1 : Int32) = sm_bI (decide (n ≤ k)) := by
  rw [decide_eq_true (Nat.not_lt.mp fun z => h ((nI_ltI (by omega) hn).mpr z))]; rfl
theorem sm_frf {n k : Nat} (hn : n < 2 ^ 31) (hk : k < 32) (h : nI k < nI n) : (0 : Int32) = sm_bI (decide (n ≤ k)) := by
  have := (nI_ltI (by omega) hn).mp h
  rw [decide_eq_false (by omega)]; rfl
theorem sm_orb {x y : Int32} {k : Nat} (h : k < sm_tz (x ||| y)) : bt x k = false ∧ bt y k = false := by
  have := sm_tz_lt h
  rw [b_or] at this
  simpa using this
theorem sm_ora {x y : Int32} (h : sm_tz (x ||| y) < 32) (h2 : bt y (sm_tz (x ||| y)) = false) : bt x (sm_tz (x ||| y)) = true := by
  have := sm_tz_at h
  rw [b_or, h2] at this
  simpa using this
theorem sm_and1 (x : Int32) : x &&& 1 = sm_bI (bt x 0) := b_ext fun i hi => by
  rw [b_and, sm_b1, sm_bbI]
  by_cases h : i = 0
  · subst h; simp
  · simp [h]
theorem sm_ej1 {sg : Bool} (k : Nat) (hk : k < 32) (h1 : sg = true) (h2 : nI k = 31) : (1 : Int32) = sm_bI (sg && decide (k = 31)) := by
  have : k = 31 := (nI_eq (by omega) (by decide)).mp (show nI k = nI 31 from h2)
  rw [h1, this]; decide
theorem sm_ej2 {sg : Bool} (k : Nat) (hk : k < 32) (h2 : ¬ nI k = 31) : (0 : Int32) = sm_bI (sg && decide (k = 31)) := by
  have : ¬ k = 31 := fun z => h2 (by rw [z]; rfl)
  rw [decide_eq_false this]; simp [sm_bI]
theorem sm_ej3 {v n : Int32} {gr sg : Bool} {k : Nat} (h1 : bt n k = true) (h2 : ¬ sm_bI gr = sm_bI (sg && decide (k = 31))) : (1 : Int32) = sm_bI (sm_one v n gr sg k) := by
  unfold sm_one
  rw [if_pos h1]
  revert h2
  cases gr <;> cases (sg && decide (k = 31)) <;> intro h2 <;> first | rfl | exact absurd rfl h2
theorem sm_ej4 {v n : Int32} {gr sg : Bool} {k : Nat} (h1 : bt n k = true) (h2 : sm_bI gr = sm_bI (sg && decide (k = 31))) : (0 : Int32) = sm_bI (sm_one v n gr sg k) := by
  unfold sm_one
  rw [if_pos h1]
  revert h2
  cases gr <;> cases (sg && decide (k = 31)) <;> intro h2 <;> first | rfl | exact absurd h2 (by decide)
theorem sm_ej5 {v n : Int32} {gr sg : Bool} {k : Nat} (h1 : bt n k = false) : sm_bI (bt v k) = sm_bI (sm_one v n gr sg k) := by
  unfold sm_one
  rw [if_neg (by rw [h1]; decide)]
theorem sm_l2i (x : Int32) : x.toInt64.toInt32 = x := by simp
theorem sm_endl (v n : Int32) : (sm_en (sm_one v n false true) true 32).toInt32 = sm_le v n := by rw [sm_en_s, sm_l2i, sm_mk_le]
theorem sm_endh (v n : Int32) : (sm_en (sm_one v n true true) true 32).toInt32 = sm_he v n := by rw [sm_en_s, sm_l2i, sm_mk_he]
def sm_min (p q : Nat) : Nat := if q < p then q else p
theorem sm_minI (p q : Nat) (hp : p < 2 ^ 31) (hq : q < 2 ^ 31) : (if nI q < nI p then nI q else nI p) = nI (sm_min p q) := by
  unfold sm_min
  by_cases h : q < p
  · rw [if_pos h, if_pos ((nI_ltI hq hp).mpr h)]
  · rw [if_neg h, if_neg (fun z => h ((nI_ltI hq hp).mp z))]
/-- an octet with its shadow, bit by bit -/
def sm_oc (x : Int32) : Nat → Int32
  | 0 => 0
  | k + 1 => sm_oc x k + ((if bt x k then (1 : Int32) <<< (nI k &&& 31) else 0) + (if bt x (8 + k) then (256 : Int32) <<< (nI k &&& 31) else 0))
theorem sm_p256 : ∀ k, k < 8 → (256 : Int32) <<< (nI k &&& 31) = nI (256 * 2 ^ k) := by decide +kernel
theorem sm_oc_na (x : Int32) : ∀ k, k ≤ 8 → sm_oc x k = nI (sm_na (bt x) k + 256 * sm_na (fun i => bt x (8 + i)) k)
  | 0, _ => rfl
  | k + 1, h => by
    rw [sm_oc, sm_oc_na x k (by omega), sm_p2 k (by omega), sm_p256 k (by omega), sm_na, sm_na]
    split <;> split <;> (try rw [show (0 : Int32) = nI 0 from rfl]) <;> rw [nI_add, nI_add] <;> congr 1 <;> omega
theorem sm_na_mod (n : Nat) : ∀ k, sm_na (fun i => n.testBit i) k = n % 2 ^ k
  | 0 => by rw [Nat.pow_zero, Nat.mod_one]; rfl
  | k + 1 => by
    rw [sm_na, sm_na_mod n k, Nat.mod_pow_succ, Nat.testBit_eq_decide_div_mod_eq]
    rcases (show n / 2 ^ k % 2 = 0 ∨ n / 2 ^ k % 2 = 1 by omega) with h | h
    · rw [h]; simp
    · rw [h]; simp
theorem sm_na_eq {g h : Nat → Bool} : ∀ k, (∀ i, i < k → g i = h i) → sm_na g k = sm_na h k
  | 0, _ => rfl
  | k + 1, hh => by rw [sm_na, sm_na, hh k (by omega), sm_na_eq k (fun i hi => hh i (by omega))]
theorem sm_oc8 {x : Int32} (h : x = x &&& 65535) : sm_oc x 8 = x := by
  have hx : x = nI x.toBitVec.toNat := sm_nat x
  have hlt : x.toBitVec.toNat < 65536 := by
    rw [h, Int32.toBitVec_and, BitVec.toNat_and]
    exact Nat.lt_of_le_of_lt Nat.and_le_right (by decide)
  rw [sm_oc_na x 8 (Nat.le_refl _)]
  have e1 : sm_na (bt x) 8 = x.toBitVec.toNat % 2 ^ 8 := sm_na_mod _ 8
  have e2 : sm_na (fun i => bt x (8 + i)) 8 = x.toBitVec.toNat / 2 ^ 8 % 2 ^ 8 := by
    rw [← sm_na_mod]
    exact sm_na_eq 8 fun i _ => by rw [sm_btn, Nat.testBit_div_two_pow, Nat.add_comm]
  rw [e1, e2]
  conv => rhs; rw [hx]
  congr 1
  omega
end
section
/-! rows that the reference's op asks for -/
theorem sm_shb5 {n : Nat} (hn : n < 32) (x : Int32) (i : Nat) (hi : i < 32) : (decide (n ≤ i) && bt x (i - n)) = bt (x <<< (nI n &&& 31)) i := (b_shl n hn x hi).symm
theorem sm_shb6 {n : Nat} (hn : n < 32) (x : Int32) (i : Nat) (_ : i < 32) : bt x (n + i) = bt (sm_ushr x (nI n)) i := (b_ushr n hn x i).symm
theorem sm_shb7 {n : Nat} (hn : n < 32) (x : Int32) (i : Nat) (hi : i < 32) : (if n + i < 32 then bt x (n + i) else bt x 31) = bt (x >>> (nI n &&& 31)) i := (b_sshr n hn x hi).symm
theorem sm_shz {x : Int32} {n : Nat} (h : 32 ≤ n) : (0 : Int32) = sm_bI (bt x n) := by rw [b_big h]; rfl
theorem sm_fr_all : sm_fr 0 = -1 := b_ext fun i hi => by rw [sm_fr_b 0 hi, b_m1 i hi]; simp
def sm_kn (g : Nat → Bool) : Nat → Bool
  | 0 => true
  | k + 1 => if g k then false else sm_kn g k
theorem sm_kn_t {g : Nat → Bool} {k : Nat} (h : g k = true) : sm_kn g (k + 1) = false := by rw [sm_kn, if_pos h]
theorem sm_kn_n {g : Nat → Bool} {k : Nat} (h : g k = false) : sm_kn g (k + 1) = sm_kn g k := by rw [sm_kn, if_neg (by rw [h]; decide)]
theorem sm_kn_iff (g : Nat → Bool) : ∀ n, sm_kn g n = true ↔ ∀ i, i < n → g i = false
  | 0 => by simp [sm_kn]
  | n + 1 => by
    rw [sm_kn]
    by_cases h : g n
    · rw [if_pos h]
      constructor
      · intro z; cases z
      · intro z; have := z n (by omega); rw [h] at this; cases this
    · rw [if_neg h, sm_kn_iff g n]
      constructor
      · intro z i hi
        by_cases h2 : i = n
        · subst h2; simpa using h
        · exact z i (by omega)
      · intro z i hi; exact z i (by omega)
theorem sm_b31 (i : Nat) : bt 31 i = decide (i < 5) := by
  rcases Nat.lt_or_ge i 32 with h | h
  · exact (by decide +kernel : ∀ i, i < 32 → bt 31 i = decide (i < 5)) i h
  · rw [b_big h, decide_eq_false (by omega)]
theorem sm_and31 {x : Int32} : x &&& 31 = 0 ↔ ∀ i, i < 5 → bt x i = false := by
  constructor
  · intro h i hi
    have h1 : bt (x &&& 31) i = false := by rw [h, b_0]
    rw [b_and, sm_b31, decide_eq_true hi, Bool.and_true] at h1
    exact h1
  · intro h
    refine b_ext fun i _ => ?_
    rw [b_and, sm_b31, b_0]
    by_cases hi : i < 5
    · rw [h i hi]; rfl
    · simp [hi]
theorem sm_kn5 {x : Int32} (h : sm_kn (bt x) 5 = true) : x &&& 31 = 0 := sm_and31.mpr ((sm_kn_iff _ 5).mp h)
theorem sm_kn5n {x : Int32} (h : sm_kn (bt x) 5 = false) : ¬ x &&& 31 = 0 := fun z => by
  rw [(sm_kn_iff _ 5).mpr (sm_and31.mp z)] at h; cases h
theorem sm_chv (x y z : Int32) (i : Nat) (_ : i < 32) : (if bt y 0 then bt x i else bt z i) = bt (if bt y 0 then x else z) i := by split <;> rfl
theorem sm_chs (x y z nx ny nz : Int32) (i : Nat) (_ : i < 32) : (if bt ny 0 then (bt nx i || bt nz i || (bt x i != bt z i)) else if bt y 0 then bt nx i else bt nz i) = bt (if bt ny 0 then nx ||| nz ||| (x ^^^ z) else if bt y 0 then nx else nz) i := by
  split
  · rw [b_or, b_or, b_xor]
  · split <;> rfl
theorem sm_low1 {x y : Int32} (h : ¬ nI (sm_tz y) ≤ nI (sm_tz x)) : nI (sm_tz x) = nI (sm_tz (x ||| y)) := by
  have hx := sm_tz_le x
  have hy := sm_tz_le y
  rw [nI_leI (by omega) (by omega)] at h
  rw [sm_tz_or, if_pos (by omega)]
theorem sm_low2 {x y : Int32} (h : nI (sm_tz y) ≤ nI (sm_tz x)) : nI (sm_tz y) = nI (sm_tz (x ||| y)) := by
  have hx := sm_tz_le x
  have hy := sm_tz_le y
  rw [nI_leI (by omega) (by omega)] at h
  rw [sm_tz_or, if_neg (by omega)]
theorem sm_gb2 (x y nx ny : Int32) {k : Nat} (_ : k < 32) : bt ((nx ||| ny) &&& (nx ||| x) &&& (ny ||| y)) k = ((bt nx k || bt ny k) && (bt nx k || bt x k) && (bt ny k || bt y k)) := by rw [b_and, b_and, b_or, b_or, b_or]
theorem sm_gb3 (x y nx ny : Int32) {k : Nat} (hk : k < 32) : bt ((nx ||| ny) &&& (nx ||| (x ^^^ (-1))) &&& (ny ||| (y ^^^ (-1)))) k = ((bt nx k || bt ny k) && (bt nx k || !bt x k) && (bt ny k || !bt y k)) := by rw [b_and, b_and, b_or, b_or, b_or, sm_bnot x hk, sm_bnot y hk]
theorem sm_gb4 (_x _y nx ny : Int32) {k : Nat} (_ : k < 32) : bt (nx ||| ny) k = (bt nx k || bt ny k) := b_or nx ny k
theorem sm_by2t {s v : Bool} (h1 : s = false) (h2 : sm_bI v = 0) : (1 : Int32) = sm_bI (!s && !v) := by rw [h1, sm_bI0 h2]; rfl
theorem sm_by2f {s v : Bool} (h1 : s = false) (h2 : ¬ sm_bI v = 0) : (0 : Int32) = sm_bI (!s && !v) := by rw [h1, sm_bI1 h2]; rfl
theorem sm_by3t {s v : Bool} (h1 : s = false) (h2 : sm_bI v = 1) : (1 : Int32) = sm_bI (!s && v) := by
  cases v
  · exact absurd h2 (by decide)
  · rw [h1]; rfl
theorem sm_by3f {s v : Bool} (h1 : s = false) (h2 : ¬ sm_bI v = 1) : (0 : Int32) = sm_bI (!s && v) := by
  cases v
  · rw [h1]; rfl
  · exact absurd rfl h2
def sm_mp (x y : Nat) : Nat := if x = 32 ∨ y = 32 then 32 else x + y
theorem sm_mp_le (x y : Nat) : sm_mp x y ≤ x + y + 32 := by unfold sm_mp; split <;> omega
theorem sm_mp1 {x y : Nat} (hx : x ≤ 32) (h : nI x = 32) : (32 : Int32) = nI (sm_mp x y) := by
  have : x = 32 := (nI_eq (by omega) (by decide)).mp (show nI x = nI 32 from h)
  unfold sm_mp; rw [if_pos (Or.inl this)]; rfl
theorem sm_mp2 {x y : Nat} (hy : y ≤ 32) (_ : ¬ nI x = 32) (h : nI y = 32) : (32 : Int32) = nI (sm_mp x y) := by
  have : y = 32 := (nI_eq (by omega) (by decide)).mp (show nI y = nI 32 from h)
  unfold sm_mp; rw [if_pos (Or.inr this)]; rfl
theorem sm_mp3 {x y : Nat} (h1 : ¬ nI x = 32) (h2 : ¬ nI y = 32) : nI (x + y) = nI (sm_mp x y) := by
  unfold sm_mp
  rw [if_neg]
  rintro (h | h)
  · exact h1 (by rw [h]; rfl)
  · exact h2 (by rw [h]; rfl)
def sm_mn (p q : Nat) : Nat := if p < q then p else q
theorem sm_mn_le (p q : Nat) : sm_mn p q ≤ p := by unfold sm_mn; split <;> omega
theorem sm_mn1 {p q : Nat} (hp : p < 2 ^ 31) (hq : q < 2 ^ 31) (h : ¬ nI q ≤ nI p) : nI p = nI (sm_mn p q) := by
  rw [nI_leI hq hp] at h
  unfold sm_mn; rw [if_pos (by omega)]
theorem sm_mn0 {p q : Nat} (hp : p < 2 ^ 31) (hq : q < 2 ^ 31) (h : nI q ≤ nI p) : nI q = nI (sm_mn p q) := by
  rw [nI_leI hq hp] at h
  unfold sm_mn; rw [if_neg (by omega)]
theorem sm_mul8 {a b c d : Nat} (ha : a ≤ 32) (hb : b ≤ 32) (hc : c ≤ 32) (hd : d ≤ 32) : sm_fr (sm_mn (sm_mp a b) (sm_mp c d)) = sm_fr (sm_min (a + b) (c + d)) := sm_fr_eq fun i hi => by
  unfold sm_mn sm_mp sm_min
  split <;> split <;> (try split) <;> (try split) <;> omega
theorem sm_g0 (q : Bool) : upd (sm_fw 0) (0 : Int32).toNatClampNeg (sm_bI q) = sm_fw (sm_bI q) := by
  funext j
  rw [sb_cl0]
  unfold upd sm_fw
  rw [sm_bbI]
  by_cases h : j = 0
  · subst h; simp
  · rw [if_neg h, b_0]; simp [h]
theorem sm_l9t {x y : Int32} (h : ¬ y ≤ x) : (1 : Int32) = sm_bI (decide (x < y)) := by rw [decide_eq_true (Int32.not_le.mp h)]; rfl
theorem sm_l9f {x y : Int32} (h : y ≤ x) : (0 : Int32) = sm_bI (decide (x < y)) := by rw [decide_eq_false (Int32.not_lt.mpr h)]; rfl
theorem sm_lo32 (x : Int32) : x.toInt64 &&& 4294967295 = lN x.toBitVec.toNat := by
  apply Int64.toBitVec_inj.1
  rw [Int64.toBitVec_and]
  show x.toBitVec.signExtend 64 &&& 4294967295#64 = BitVec.ofNat 64 x.toBitVec.toNat
  have e : (4294967295#64 : BitVec 64) = BitVec.setWidth 64 (BitVec.allOnes 32) := by decide +kernel
  have e2 : BitVec.ofNat 64 x.toBitVec.toNat = x.toBitVec.setWidth 64 := by
    apply BitVec.eq_of_toNat_eq; simp
  rw [e, e2]
  apply BitVec.eq_of_getLsbD_eq
  intro i hi
  rw [BitVec.getLsbD_and, BitVec.getLsbD_signExtend, BitVec.getLsbD_setWidth, BitVec.getLsbD_setWidth, BitVec.getLsbD_allOnes]
  by_cases h : i < 32
  · simp [hi, h]
  · simp [h, BitVec.getLsbD_of_ge x.toBitVec i (by omega)]
theorem sm_xx (x : Int32) : x ^^^ (-2147483648) ^^^ (-2147483648) = x := b_ext fun i hi => by rw [b_xor, b_xor]; simp
theorem sm_ult2 (x y : Int32) : lN x.toBitVec.toNat < lN y.toBitVec.toNat ↔ x ^^^ (-2147483648) < y ^^^ (-2147483648) := by
  have h := sm_ult (x ^^^ (-2147483648)) (y ^^^ (-2147483648))
  rwa [sm_xx, sm_xx] at h
theorem sm_l10t {x y : Int32} (h : ¬ 0 ≤ lg_cmp (x.toInt64 &&& 4294967295) (y.toInt64 &&& 4294967295)) : (1 : Int32) = sm_bI (decide (x ^^^ (-2147483648) < y ^^^ (-2147483648))) := by
  rw [lg_cmp_ge, sm_lo32, sm_lo32, Int64.not_le, sm_ult2] at h
  rw [decide_eq_true h]; rfl
theorem sm_l10f {x y : Int32} (h : 0 ≤ lg_cmp (x.toInt64 &&& 4294967295) (y.toInt64 &&& 4294967295)) : (0 : Int32) = sm_bI (decide (x ^^^ (-2147483648) < y ^^^ (-2147483648))) := by
  rw [lg_cmp_ge, sm_lo32, sm_lo32] at h
  rw [decide_eq_false (fun z => absurd h (Int64.not_le.mpr ((sm_ult2 x y).mpr z)))]; rfl
/-- the order hangs on what isn't given: both ends -/
theorem sm_oc1 {p q : Bool} (h : p = false) : (0 : Int32) = sm_bI (q && p) := by rw [h]; cases q <;> rfl
theorem sm_oc2 {p q : Bool} (h : q = false) : (0 : Int32) = sm_bI (q && p) := by rw [h]; rfl
theorem sm_oc3 {p q : Bool} (h : p = true) (h2 : q = true) : (1 : Int32) = sm_bI (q && p) := by rw [h, h2]; rfl
theorem sm_o9f {x nx y ny : Int32} (h : lg_cmp (sm_en (sm_one x nx true true) true 32) (sm_en (sm_one y ny false true) true 32) < 0) : (0 : Int32) = sm_bI (decide (sm_le x nx < sm_he y ny) && decide (sm_le y ny ≤ sm_he x nx)) := by
  rw [lg_cmp_lt, sm_en_s, sm_en_s, sm_lt64, sm_mk_he, sm_mk_le] at h
  exact sm_oc1 (decide_eq_false (Int32.not_le.mpr h))
theorem sm_o9g {x nx y ny : Int32} (_ : ¬ lg_cmp (sm_en (sm_one x nx true true) true 32) (sm_en (sm_one y ny false true) true 32) < 0) (h : 0 ≤ lg_cmp (sm_en (sm_one x nx false true) true 32) (sm_en (sm_one y ny true true) true 32)) : (0 : Int32) = sm_bI (decide (sm_le x nx < sm_he y ny) && decide (sm_le y ny ≤ sm_he x nx)) := by
  rw [lg_cmp_ge, sm_en_s, sm_en_s, ← Int64.not_lt, sm_lt64, sm_mk_he, sm_mk_le] at h
  exact sm_oc2 (decide_eq_false h)
theorem sm_o9t {x nx y ny : Int32} (h1 : ¬ lg_cmp (sm_en (sm_one x nx true true) true 32) (sm_en (sm_one y ny false true) true 32) < 0) (h : ¬ 0 ≤ lg_cmp (sm_en (sm_one x nx false true) true 32) (sm_en (sm_one y ny true true) true 32)) : (1 : Int32) = sm_bI (decide (sm_le x nx < sm_he y ny) && decide (sm_le y ny ≤ sm_he x nx)) := by
  rw [lg_cmp_lt, sm_en_s, sm_en_s, sm_lt64, sm_mk_he, sm_mk_le] at h1
  rw [lg_cmp_ge, sm_en_s, sm_en_s, Int64.not_le, sm_lt64, sm_mk_he, sm_mk_le] at h
  exact sm_oc3 (decide_eq_true (Int32.not_lt.mp h1)) (decide_eq_true h)
theorem sm_o10f {x nx y ny : Int32} (h : lg_cmp (sm_en (sm_one x nx true false) false 32) (sm_en (sm_one y ny false false) false 32) < 0) : (0 : Int32) = sm_bI (decide (sm_le (x ^^^ (-2147483648)) nx < sm_he (y ^^^ (-2147483648)) ny) && decide (sm_le (y ^^^ (-2147483648)) ny ≤ sm_he (x ^^^ (-2147483648)) nx)) := by
  rw [lg_cmp_lt, sm_en_u, sm_en_u, sm_mk_uh, sm_mk_ul, sm_ult] at h
  exact sm_oc1 (decide_eq_false (Int32.not_le.mpr h))
theorem sm_o10g {x nx y ny : Int32} (_ : ¬ lg_cmp (sm_en (sm_one x nx true false) false 32) (sm_en (sm_one y ny false false) false 32) < 0) (h : 0 ≤ lg_cmp (sm_en (sm_one x nx false false) false 32) (sm_en (sm_one y ny true false) false 32)) : (0 : Int32) = sm_bI (decide (sm_le (x ^^^ (-2147483648)) nx < sm_he (y ^^^ (-2147483648)) ny) && decide (sm_le (y ^^^ (-2147483648)) ny ≤ sm_he (x ^^^ (-2147483648)) nx)) := by
  rw [lg_cmp_ge, sm_en_u, sm_en_u, ← Int64.not_lt, sm_mk_uh, sm_mk_ul, sm_ult] at h
  exact sm_oc2 (decide_eq_false h)
theorem sm_o10t {x nx y ny : Int32} (h1 : ¬ lg_cmp (sm_en (sm_one x nx true false) false 32) (sm_en (sm_one y ny false false) false 32) < 0) (h : ¬ 0 ≤ lg_cmp (sm_en (sm_one x nx false false) false 32) (sm_en (sm_one y ny true false) false 32)) : (1 : Int32) = sm_bI (decide (sm_le (x ^^^ (-2147483648)) nx < sm_he (y ^^^ (-2147483648)) ny) && decide (sm_le (y ^^^ (-2147483648)) ny ≤ sm_he (x ^^^ (-2147483648)) nx)) := by
  rw [lg_cmp_lt, sm_en_u, sm_en_u, sm_mk_uh, sm_mk_ul, sm_ult] at h1
  rw [lg_cmp_ge, sm_en_u, sm_en_u, Int64.not_le, sm_mk_uh, sm_mk_ul, sm_ult] at h
  exact sm_oc3 (decide_eq_true (Int32.not_lt.mp h1)) (decide_eq_true h)
def sm_any (g : Nat → Bool) : Nat → Bool
  | 0 => false
  | k + 1 => if g k then true else sm_any g k
theorem sm_any_iff (g : Nat → Bool) : ∀ n, sm_any g n = false ↔ ∀ i, i < n → g i = false
  | 0 => by simp [sm_any]
  | n + 1 => by
    rw [sm_any]
    by_cases h : g n
    · rw [if_pos h]
      constructor
      · intro z; cases z
      · intro z; have := z n (by omega); rw [h] at this; cases this
    · rw [if_neg h, sm_any_iff g n]
      constructor
      · intro z i hi
        by_cases h2 : i = n
        · subst h2; simpa using h
        · exact z i (by omega)
      · intro z i hi; exact z i (by omega)
theorem sm_any_t {g : Nat → Bool} {k : Nat} (h : g k = true) : sm_any g (k + 1) = true := by rw [sm_any, if_pos h]
theorem sm_any_n {g : Nat → Bool} {k : Nat} (h : g k = false) : sm_any g (k + 1) = sm_any g k := by rw [sm_any, if_neg (by rw [h]; decide)]
theorem sm_an1 {x y nx ny : Int32} {k : Nat} (h : bt nx k = true) : sm_bI (sm_any (fun i => !(bt nx i || bt ny i) && (bt x i != bt y i)) (k + 1)) = sm_bI (sm_any (fun i => !(bt nx i || bt ny i) && (bt x i != bt y i)) k) ∧ sm_bI (!sm_any (fun i => bt nx i || bt ny i) (k + 1)) = 0 := by
  rw [sm_any_n (by simp [h]), sm_any_t (by simp [h])]; exact ⟨rfl, rfl⟩
theorem sm_an2 {x y nx ny : Int32} {k : Nat} (h : bt ny k = true) : sm_bI (sm_any (fun i => !(bt nx i || bt ny i) && (bt x i != bt y i)) (k + 1)) = sm_bI (sm_any (fun i => !(bt nx i || bt ny i) && (bt x i != bt y i)) k) ∧ sm_bI (!sm_any (fun i => bt nx i || bt ny i) (k + 1)) = 0 := by
  rw [sm_any_n (by simp [h]), sm_any_t (by simp [h])]; exact ⟨rfl, rfl⟩
theorem sm_bInj {a b : Bool} (h : sm_bI a = sm_bI b) : a = b := by revert h; cases a <;> cases b <;> decide
theorem sm_an3 {x y nx ny : Int32} {k : Nat} (h1 : bt nx k = false) (h2 : bt ny k = false) (h : ¬ sm_bI (bt x k) = sm_bI (bt y k)) : sm_bI (sm_any (fun i => !(bt nx i || bt ny i) && (bt x i != bt y i)) (k + 1)) = 1 ∧ sm_bI (!sm_any (fun i => bt nx i || bt ny i) (k + 1)) = sm_bI (!sm_any (fun i => bt nx i || bt ny i) k) := by
  have h3 : (bt x k != bt y k) = true := by
    cases hx : bt x k <;> cases hy : bt y k <;> simp_all
  rw [sm_any_t (by simp [h1, h2]; simpa using h3), sm_any_n (by simp [h1, h2])]; exact ⟨rfl, rfl⟩
theorem sm_an4 {x y nx ny : Int32} {k : Nat} (h1 : bt nx k = false) (h2 : bt ny k = false) (h : sm_bI (bt x k) = sm_bI (bt y k)) : sm_bI (sm_any (fun i => !(bt nx i || bt ny i) && (bt x i != bt y i)) (k + 1)) = sm_bI (sm_any (fun i => !(bt nx i || bt ny i) && (bt x i != bt y i)) k) ∧ sm_bI (!sm_any (fun i => bt nx i || bt ny i) (k + 1)) = sm_bI (!sm_any (fun i => bt nx i || bt ny i) k) := by
  rw [sm_any_n (by simp [sm_bInj h]), sm_any_n (by simp [h1, h2])]; exact ⟨rfl, rfl⟩
theorem sm_any0 {x : Int32} {g : Nat → Bool} (h : ∀ i, i < 32 → g i = bt x i) : sm_any g 32 = !decide (x = 0) := by
  by_cases hx : x = 0
  · subst hx
    rw [(sm_any_iff g 32).mpr (fun i hi => by rw [h i hi, b_0])]; rfl
  · rw [decide_eq_false hx]
    cases hs : sm_any g 32
    · exact absurd (b_ext fun i hi => by rw [← h i hi, b_0]; exact (sm_any_iff g 32).mp hs i hi) hx
    · rfl
theorem sm_sameA (nx ny : Int32) : sm_any (fun i => bt nx i || bt ny i) 32 = !decide (nx ||| ny = 0) := sm_any0 fun i _ => (b_or nx ny i).symm
theorem sm_sameB (x y nx ny : Int32) : sm_any (fun i => !(bt nx i || bt ny i) && (bt x i != bt y i)) 32 = !decide ((x ^^^ y) &&& ((nx ||| ny) ^^^ (-1)) = 0) := sm_any0 fun i hi => by
  rw [b_and, b_xor, sm_bnot _ hi, b_or]
  cases bt x i <;> cases bt y i <;> cases bt nx i <;> cases bt ny i <;> rfl
theorem sm_same1 {x y nx ny : Int32} (h1 : sm_any (fun i => !(bt nx i || bt ny i) && (bt x i != bt y i)) 32 = false) (h2 : (!sm_any (fun i => bt nx i || bt ny i) 32) = false) : (1 : Int32) = sm_bI (!decide (nx ||| ny = 0) && decide ((x ^^^ y) &&& ((nx ||| ny) ^^^ (-1)) = 0)) := by
  rw [sm_sameB] at h1
  rw [sm_sameA] at h2
  revert h1 h2
  cases decide (nx ||| ny = 0) <;> cases decide ((x ^^^ y) &&& ((nx ||| ny) ^^^ (-1)) = 0) <;> decide
theorem sm_same2 {x y nx ny : Int32} (h1 : sm_any (fun i => !(bt nx i || bt ny i) && (bt x i != bt y i)) 32 = true) : (0 : Int32) = sm_bI (!decide (nx ||| ny = 0) && decide ((x ^^^ y) &&& ((nx ||| ny) ^^^ (-1)) = 0)) := by
  rw [sm_sameB] at h1
  revert h1
  cases decide (nx ||| ny = 0) <;> cases decide ((x ^^^ y) &&& ((nx ||| ny) ^^^ (-1)) = 0) <;> decide
theorem sm_same3 {x y nx ny : Int32} (_ : sm_any (fun i => !(bt nx i || bt ny i) && (bt x i != bt y i)) 32 = false) (h2 : (!sm_any (fun i => bt nx i || bt ny i) 32) = true) : (0 : Int32) = sm_bI (!decide (nx ||| ny = 0) && decide ((x ^^^ y) &&& ((nx ||| ny) ^^^ (-1)) = 0)) := by
  rw [sm_sameA] at h2
  revert h2
  cases decide (nx ||| ny = 0) <;> cases decide ((x ^^^ y) &&& ((nx ||| ny) ^^^ (-1)) = 0) <;> decide
end
section
/-! octets: what store and load do to words -/
def sm_fil (f g : Nat → Int32) (a k : Nat) : Nat → Int32 := fun j => if a ≤ j ∧ j < a + k then g (j - a) else f j
theorem sm_fil0 (f g : Nat → Int32) (a : Nat) : sm_fil f g a 0 = f := by
  funext j
  unfold sm_fil
  rw [if_neg (by omega)]
theorem sm_filS (f g : Nat → Int32) (a k : Nat) : upd (sm_fil f g a k) (a + k) (g k) = sm_fil f g a (k + 1) := by
  funext j
  unfold sm_fil upd
  by_cases h : j = a + k
  · subst h
    rw [if_pos rfl, if_pos (by omega), Nat.add_sub_cancel_left]
  · rw [if_neg h]
    dsimp only
    by_cases h2 : a ≤ j ∧ j < a + k
    · rw [if_pos h2, if_pos (by omega)]
    · rw [if_neg h2, if_neg (by omega)]
/-- the k-th octet of a word, with its shadow above -/
def sm_by (v n : Int32) (k : Nat) : Int32 := ((sm_ushr n (nI (k * 8)) &&& 255) <<< ((8 : Int32) &&& 31)) ||| (sm_ushr v (nI (k * 8)) &&& 255)
theorem sm_by_lo (v n : Int32) {k i : Nat} (hk : k < 4) (hi : i < 8) : bt (sm_by v n k) i = bt v (8 * k + i) := by
  unfold sm_by
  rw [b_or, b_and, b_255, show ((8 : Int32) &&& 31) = (nI 8 &&& 31) from rfl, b_shl 8 (by omega) _ (by omega)]
  show ((decide (8 ≤ i) && _) || (bt ((v.toUInt32 >>> ((nI (k * 8)).toUInt32 &&& Int32.toUInt32 31)).toInt32) i && _)) = _
  rw [b_ushr (k * 8) (by omega) v i, decide_eq_true hi, decide_eq_false (by omega), Bool.and_true, Bool.false_and, Bool.false_or, Nat.mul_comm]
theorem sm_by_hi (v n : Int32) {k i : Nat} (hk : k < 4) (hi : i < 8) : bt (sm_by v n k) (8 + i) = bt n (8 * k + i) := by
  unfold sm_by
  rw [b_or, b_and, b_255, show ((8 : Int32) &&& 31) = (nI 8 &&& 31) from rfl, b_shl 8 (by omega) _ (by omega), Nat.add_sub_cancel_left, b_and, b_255]
  show ((decide (8 ≤ 8 + i) && (bt ((n.toUInt32 >>> ((nI (k * 8)).toUInt32 &&& Int32.toUInt32 31)).toInt32) i && _)) || _) = _
  rw [b_ushr (k * 8) (by omega) n i, decide_eq_true hi, decide_eq_true (by omega), decide_eq_false (by omega), Bool.and_true, Bool.and_false, Bool.true_and, Bool.or_false, Nat.mul_comm]
theorem sm_by_16 (v n : Int32) (k : Nat) : sm_by v n k = sm_by v n k &&& 65535 := by
  refine b_ext fun i hi => ?_
  rw [b_and, b_65535]
  by_cases h : i < 16
  · simp [h]
  · rw [decide_eq_false h, Bool.and_false]
    unfold sm_by
    simp only [b_or, b_and, b_255, show ((8 : Int32) &&& 31) = (nI 8 &&& 31) from rfl, b_shl 8 (by omega) _ hi]
    rw [decide_eq_false (show ¬ i - 8 < 8 by omega), decide_eq_false (show ¬ i < 8 by omega)]
    simp
theorem sm_fill_o (M : Nat → Int32) (v s : Int32) (t : Nat) {n : Nat} (hn : n ≤ 4) : sm_fill (sm_fo M) (bt v) (8 * t) (8 * n) = sm_fo (sm_fil M (sm_by v s) t n) := by
  funext j
  unfold sm_fill sm_fo sm_fil
  by_cases h : 8 * t ≤ j ∧ j < 8 * t + 8 * n
  · rw [if_pos h, if_pos (by omega), sm_by_lo v s (by omega) (by omega)]
    congr 2
    omega
  · rw [if_neg h, if_neg (by omega)]
theorem sm_fill_l (M : Nat → Int32) (v s : Int32) (t : Nat) {n : Nat} (hn : n ≤ 4) : sm_fill (sm_fl M) (bt s) (8 * t) (8 * n) = sm_fl (sm_fil M (sm_by v s) t n) := by
  funext j
  unfold sm_fill sm_fl sm_fil
  by_cases h : 8 * t ≤ j ∧ j < 8 * t + 8 * n
  · rw [if_pos h, if_pos (by omega), sm_by_hi v s (by omega) (by omega)]
    congr 2
    omega
  · rw [if_neg h, if_neg (by omega)]
/-- octets put together -/
def sm_lv (g : Nat → Int32) : Nat → Int32
  | 0 => 0
  | k + 1 => sm_lv g k ||| g k <<< (nI (k * 8) &&& 31)
theorem sm_lv_b (g : Nat → Int32) (hg : ∀ j i, 8 ≤ i → bt (g j) i = false) : ∀ n, n ≤ 4 → ∀ i, i < 32 → bt (sm_lv g n) i = (decide (i < 8 * n) && bt (g (i / 8)) (i % 8))
  | 0, _, i, _ => by show bt 0 i = _; rw [b_0]; simp
  | n + 1, hn, i, hi => by
    rw [sm_lv, b_or, sm_lv_b g hg n (by omega) i hi, b_shl (n * 8) (by omega) _ hi]
    by_cases h1 : i < 8 * n
    · rw [decide_eq_true h1, decide_eq_true (show i < 8 * (n + 1) by omega), decide_eq_false (show ¬ n * 8 ≤ i by omega)]; simp
    · rw [decide_eq_false h1]
      by_cases h2 : i < 8 * (n + 1)
      · rw [decide_eq_true h2, decide_eq_true (show n * 8 ≤ i by omega), show i / 8 = n by omega, show i % 8 = i - n * 8 by omega]; simp
      · rw [decide_eq_false h2, hg n _ (by omega)]; simp
def sm_ob (M : Nat → Int32) (j : Nat) : Bool := bt (M (j / 8)) (j % 8)
def sm_ol (M : Nat → Int32) (j : Nat) : Bool := bt (M (j / 8)) (8 + j % 8)
theorem sm_lvO (M : Nat → Int32) (t : Nat) {n i : Nat} (hn : n ≤ 4) (hi : i < 8 * n) : bt (sm_lv (fun j => M (t + j) &&& 255) n) i = sm_ob M (8 * t + i) := by
  rw [sm_lv_b _ (fun j i h => by rw [b_and, b_255, decide_eq_false (by omega), Bool.and_false]) n hn i (by omega), decide_eq_true hi, Bool.true_and, b_and, b_255, decide_eq_true (by omega), Bool.and_true]
  unfold sm_ob
  rw [show (8 * t + i) / 8 = t + i / 8 by omega, show (8 * t + i) % 8 = i % 8 by omega]
theorem sm_us8 (x : Int32) (i : Nat) : bt (sm_ushr x 8) i = bt x (8 + i) := b_ushr 8 (by omega) x i
theorem sm_lvG (M : Nat → Int32) (hM : ∀ a, M a = M a &&& 65535) (t : Nat) {n i : Nat} (hn : n ≤ 4) (hi : i < 8 * n) : bt (sm_lv (fun j => sm_ushr (M (t + j)) 8) n) i = sm_ol M (8 * t + i) := by
  rw [sm_lv_b _ (fun j i h => by rw [sm_us8, hM, b_and, b_65535, decide_eq_false (by omega), Bool.and_false]) n hn i (by omega), decide_eq_true hi, Bool.true_and, sm_us8]
  unfold sm_ol
  rw [show (8 * t + i) / 8 = t + i / 8 by omega, show (8 * t + i) % 8 = i % 8 by omega]
/-- widened with and without sign: by is 32 - 8 n -/
theorem sm_wds (x : Int32) {d i : Nat} (hd : d < 32) (hi : i < 32) : bt ((x <<< (nI d &&& 31)) >>> (nI d &&& 31)) i = if d + i < 32 then bt x i else bt x (31 - d) := by
  rw [b_sshr d hd _ hi]
  split
  · rw [b_shl d hd x (by omega), decide_eq_true (by omega), Bool.true_and, Nat.add_sub_cancel_left]
  · rw [b_shl d hd x (by omega), decide_eq_true (by omega), Bool.true_and]
theorem sm_wdu (x : Int32) {d i : Nat} (hd : d < 32) (hi : i < 32) : bt (sm_ushr (x <<< (nI d &&& 31)) (nI d)) i = (decide (d + i < 32) && bt x i) := by
  show bt (((x <<< (nI d &&& 31)).toUInt32 >>> ((nI d).toUInt32 &&& Int32.toUInt32 31)).toInt32) i = _
  rw [b_ushr d hd _ i]
  by_cases h : d + i < 32
  · rw [b_shl d hd x h, decide_eq_true (by omega), decide_eq_true h, Bool.true_and, Bool.true_and, Nat.add_sub_cancel_left]
  · rw [b_big (by omega), decide_eq_false h, Bool.false_and]
theorem sm_ldOs (M : Nat → Int32) (t n : Nat) (hn : n ≤ 4) (h0 : 0 < n) (i : Nat) (hi : i < 32) : (if i < 8 * n then sm_ob M (8 * t + i) else sm_ob M (8 * t + (8 * n - 1))) = bt ((sm_lv (fun j => M (t + j) &&& 255) n <<< (nI (32 - 8 * n) &&& 31)) >>> (nI (32 - 8 * n) &&& 31)) i := by
  rw [sm_wds _ (by omega) hi]
  by_cases h : i < 8 * n
  · rw [if_pos h, if_pos (by omega), sm_lvO M t hn h]
  · rw [if_neg h, if_neg (by omega), show 31 - (32 - 8 * n) = 8 * n - 1 by omega, sm_lvO M t hn (by omega)]
theorem sm_ldOu (M : Nat → Int32) (t n : Nat) (hn : n ≤ 4) (h0 : 0 < n) (i : Nat) (hi : i < 32) : (if i < 8 * n then sm_ob M (8 * t + i) else false) = bt (sm_ushr (sm_lv (fun j => M (t + j) &&& 255) n <<< (nI (32 - 8 * n) &&& 31)) (nI (32 - 8 * n))) i := by
  rw [sm_wdu _ (by omega) hi]
  by_cases h : i < 8 * n
  · rw [if_pos h, decide_eq_true (by omega), Bool.true_and, sm_lvO M t hn h]
  · rw [if_neg h, decide_eq_false (by omega), Bool.false_and]
theorem sm_ldGs (M : Nat → Int32) (hM : ∀ a, M a = M a &&& 65535) (t n : Nat) (hn : n ≤ 4) (h0 : 0 < n) (i : Nat) (hi : i < 32) : (if i < 8 * n then sm_ol M (8 * t + i) else sm_ol M (8 * t + (8 * n - 1))) = bt ((sm_lv (fun j => sm_ushr (M (t + j)) 8) n <<< (nI (32 - 8 * n) &&& 31)) >>> (nI (32 - 8 * n) &&& 31)) i := by
  rw [sm_wds _ (by omega) hi]
  by_cases h : i < 8 * n
  · rw [if_pos h, if_pos (by omega), sm_lvG M hM t hn h]
  · rw [if_neg h, if_neg (by omega), show 31 - (32 - 8 * n) = 8 * n - 1 by omega, sm_lvG M hM t hn (by omega)]
theorem sm_ldGu (M : Nat → Int32) (hM : ∀ a, M a = M a &&& 65535) (t n : Nat) (hn : n ≤ 4) (h0 : 0 < n) (i : Nat) (hi : i < 32) : (if i < 8 * n then sm_ol M (8 * t + i) else false) = bt (sm_ushr (sm_lv (fun j => sm_ushr (M (t + j)) 8) n <<< (nI (32 - 8 * n) &&& 31)) (nI (32 - 8 * n))) i := by
  rw [sm_wdu _ (by omega) hi]
  by_cases h : i < 8 * n
  · rw [if_pos h, decide_eq_true (by omega), Bool.true_and, sm_lvG M hM t hn h]
  · rw [if_neg h, decide_eq_false (by omega), Bool.false_and]
/-- all registers' bits -/
def sm_cn (S : Nat → Int32) : Nat → Nat
  | 0 => 0
  | k + 1 => sm_cn S k + sm_pc (bt (S k)) 32
theorem sm_cn_pc (S : Nat → Int32) : ∀ k, sm_pc (fun j => bt (S (j / 32)) (j % 32)) (32 * k) = sm_cn S k
  | 0 => rfl
  | k + 1 => by
    rw [show 32 * (k + 1) = 32 * k + 32 by omega, sm_pc_add, sm_cn_pc S k, sm_cn]
    congr 1
    exact sm_pc_eq 32 fun i hi => by rw [show (32 * k + i) / 32 = k by omega, show (32 * k + i) % 32 = i by omega]
end
section
theorem dX0_init_0 : decode cX0_init 0 = .ok (.aload_n 0, 1) := by decide +kernel
theorem dX0_init_1 : decode cX0_init 1 = .ok (.invokespecial 3, 3) := by decide +kernel
theorem dX0_init_4 : decode cX0_init 4 = .ok (.aload_n 0, 1) := by decide +kernel
theorem dX0_init_5 : decode cX0_init 5 = .ok (.bipush 16, 2) := by decide +kernel
theorem dX0_init_7 : decode cX0_init 7 = .ok (.newarray .int, 2) := by decide +kernel
theorem dX0_init_9 : decode cX0_init 9 = .ok (.putfield 11, 3) := by decide +kernel
theorem dX0_init_12 : decode cX0_init 12 = .ok (.aload_n 0, 1) := by decide +kernel
theorem dX0_init_13 : decode cX0_init 13 = .ok (.bipush 16, 2) := by decide +kernel
theorem dX0_init_15 : decode cX0_init 15 = .ok (.newarray .int, 2) := by decide +kernel
theorem dX0_init_17 : decode cX0_init 17 = .ok (.putfield 15, 3) := by decide +kernel
theorem dX0_init_20 : decode cX0_init 20 = .ok (.aload_n 0, 1) := by decide +kernel
theorem dX0_init_21 : decode cX0_init 21 = .ok (.sipush 256, 3) := by decide +kernel
theorem dX0_init_24 : decode cX0_init 24 = .ok (.newarray .int, 2) := by decide +kernel
theorem dX0_init_26 : decode cX0_init 26 = .ok (.putfield 18, 3) := by decide +kernel
theorem dX0_init_29 : decode cX0_init 29 = .ok (.return_, 1) := by decide +kernel
theorem dX0_set_0 : decode cX0_set 0 = .ok (.iload_n 1, 1) := by decide +kernel
theorem dX0_set_1 : decode cX0_set 1 = .ok (.invokestatic 21, 3) := by decide +kernel
theorem dX0_set_4 : decode cX0_set 4 = .ok (.aload_n 0, 1) := by decide +kernel
theorem dX0_set_5 : decode cX0_set 5 = .ok (.getfield 11, 3) := by decide +kernel
theorem dX0_set_8 : decode cX0_set 8 = .ok (.iload_n 1, 1) := by decide +kernel
theorem dX0_set_9 : decode cX0_set 9 = .ok (.iload_n 2, 1) := by decide +kernel
theorem dX0_set_10 : decode cX0_set 10 = .ok (.iastore, 1) := by decide +kernel
theorem dX0_set_11 : decode cX0_set 11 = .ok (.aload_n 0, 1) := by decide +kernel
theorem dX0_set_12 : decode cX0_set 12 = .ok (.getfield 15, 3) := by decide +kernel
theorem dX0_set_15 : decode cX0_set 15 = .ok (.iload_n 1, 1) := by decide +kernel
theorem dX0_set_16 : decode cX0_set 16 = .ok (.iload_n 3, 1) := by decide +kernel
theorem dX0_set_17 : decode cX0_set 17 = .ok (.iastore, 1) := by decide +kernel
theorem dX0_set_18 : decode cX0_set 18 = .ok (.return_, 1) := by decide +kernel
theorem dX0_op_0 : decode cX0_op 0 = .ok (.iload_n 1, 1) := by decide +kernel
theorem dX0_op_1 : decode cX0_op 1 = .ok (.ifCond .lt 9, 3) := by decide +kernel
theorem dX0_op_4 : decode cX0_op 4 = .ok (.iload_n 1, 1) := by decide +kernel
theorem dX0_op_5 : decode cX0_op 5 = .ok (.bipush 12, 2) := by decide +kernel
theorem dX0_op_7 : decode cX0_op 7 = .ok (.if_icmp .le 11, 3) := by decide +kernel
theorem dX0_op_10 : decode cX0_op 10 = .ok (.new 25, 3) := by decide +kernel
theorem dX0_op_13 : decode cX0_op 13 = .ok (.dup, 1) := by decide +kernel
theorem dX0_op_14 : decode cX0_op 14 = .ok (.invokespecial 27, 3) := by decide +kernel
theorem dX0_op_17 : decode cX0_op 17 = .ok (.athrow, 1) := by decide +kernel
theorem dX0_op_18 : decode cX0_op 18 = .ok (.iload_n 2, 1) := by decide +kernel
theorem dX0_op_19 : decode cX0_op 19 = .ok (.invokestatic 21, 3) := by decide +kernel
theorem dX0_op_22 : decode cX0_op 22 = .ok (.iload_n 3, 1) := by decide +kernel
theorem dX0_op_23 : decode cX0_op 23 = .ok (.invokestatic 21, 3) := by decide +kernel
theorem dX0_op_26 : decode cX0_op 26 = .ok (.iload 4, 2) := by decide +kernel
theorem dX0_op_28 : decode cX0_op 28 = .ok (.invokestatic 21, 3) := by decide +kernel
theorem dX0_op_31 : decode cX0_op 31 = .ok (.aload_n 0, 1) := by decide +kernel
theorem dX0_op_32 : decode cX0_op 32 = .ok (.iload_n 1, 1) := by decide +kernel
theorem dX0_op_33 : decode cX0_op 33 = .ok (.iload_n 2, 1) := by decide +kernel
theorem dX0_op_34 : decode cX0_op 34 = .ok (.iload_n 3, 1) := by decide +kernel
theorem dX0_op_35 : decode cX0_op 35 = .ok (.iload 4, 2) := by decide +kernel
theorem dX0_op_37 : decode cX0_op 37 = .ok (.invokevirtual 28, 3) := by decide +kernel
theorem dX0_op_40 : decode cX0_op 40 = .ok (.istore 5, 2) := by decide +kernel
theorem dX0_op_42 : decode cX0_op 42 = .ok (.aload_n 0, 1) := by decide +kernel
theorem dX0_op_43 : decode cX0_op 43 = .ok (.iload_n 1, 1) := by decide +kernel
theorem dX0_op_44 : decode cX0_op 44 = .ok (.iload_n 2, 1) := by decide +kernel
theorem dX0_op_45 : decode cX0_op 45 = .ok (.iload_n 3, 1) := by decide +kernel
theorem dX0_op_46 : decode cX0_op 46 = .ok (.iload 4, 2) := by decide +kernel
theorem dX0_op_48 : decode cX0_op 48 = .ok (.invokevirtual 32, 3) := by decide +kernel
theorem dX0_op_51 : decode cX0_op 51 = .ok (.istore 6, 2) := by decide +kernel
theorem dX0_op_53 : decode cX0_op 53 = .ok (.aload_n 0, 1) := by decide +kernel
theorem dX0_op_54 : decode cX0_op 54 = .ok (.getfield 11, 3) := by decide +kernel
theorem dX0_op_57 : decode cX0_op 57 = .ok (.iload_n 2, 1) := by decide +kernel
theorem dX0_op_58 : decode cX0_op 58 = .ok (.iload 5, 2) := by decide +kernel
theorem dX0_op_60 : decode cX0_op 60 = .ok (.iastore, 1) := by decide +kernel
theorem dX0_op_61 : decode cX0_op 61 = .ok (.aload_n 0, 1) := by decide +kernel
theorem dX0_op_62 : decode cX0_op 62 = .ok (.getfield 15, 3) := by decide +kernel
theorem dX0_op_65 : decode cX0_op 65 = .ok (.iload_n 2, 1) := by decide +kernel
theorem dX0_op_66 : decode cX0_op 66 = .ok (.iload 6, 2) := by decide +kernel
theorem dX0_op_68 : decode cX0_op 68 = .ok (.iastore, 1) := by decide +kernel
theorem dX0_op_69 : decode cX0_op 69 = .ok (.return_, 1) := by decide +kernel
theorem dX0_store_0 : decode cX0_store 0 = .ok (.iload_n 1, 1) := by decide +kernel
theorem dX0_store_1 : decode cX0_store 1 = .ok (.iload_n 2, 1) := by decide +kernel
theorem dX0_store_2 : decode cX0_store 2 = .ok (.iload_n 3, 1) := by decide +kernel
theorem dX0_store_3 : decode cX0_store 3 = .ok (.invokestatic 35, 3) := by decide +kernel
theorem dX0_store_6 : decode cX0_store 6 = .ok (.iconst 0, 1) := by decide +kernel
theorem dX0_store_7 : decode cX0_store 7 = .ok (.istore 4, 2) := by decide +kernel
theorem dX0_store_9 : decode cX0_store 9 = .ok (.iload 4, 2) := by decide +kernel
theorem dX0_store_11 : decode cX0_store 11 = .ok (.iload_n 3, 1) := by decide +kernel
theorem dX0_store_12 : decode cX0_store 12 = .ok (.if_icmp .ge 63, 3) := by decide +kernel
theorem dX0_store_15 : decode cX0_store 15 = .ok (.iload 4, 2) := by decide +kernel
theorem dX0_store_17 : decode cX0_store 17 = .ok (.bipush 8, 2) := by decide +kernel
theorem dX0_store_19 : decode cX0_store 19 = .ok (.imul, 1) := by decide +kernel
theorem dX0_store_20 : decode cX0_store 20 = .ok (.istore 5, 2) := by decide +kernel
theorem dX0_store_22 : decode cX0_store 22 = .ok (.aload_n 0, 1) := by decide +kernel
theorem dX0_store_23 : decode cX0_store 23 = .ok (.getfield 11, 3) := by decide +kernel
theorem dX0_store_26 : decode cX0_store 26 = .ok (.iload_n 1, 1) := by decide +kernel
theorem dX0_store_27 : decode cX0_store 27 = .ok (.iaload, 1) := by decide +kernel
theorem dX0_store_28 : decode cX0_store 28 = .ok (.iload 5, 2) := by decide +kernel
theorem dX0_store_30 : decode cX0_store 30 = .ok (.iushr, 1) := by decide +kernel
theorem dX0_store_31 : decode cX0_store 31 = .ok (.sipush 255, 3) := by decide +kernel
theorem dX0_store_34 : decode cX0_store 34 = .ok (.iand, 1) := by decide +kernel
theorem dX0_store_35 : decode cX0_store 35 = .ok (.istore 6, 2) := by decide +kernel
theorem dX0_store_37 : decode cX0_store 37 = .ok (.aload_n 0, 1) := by decide +kernel
theorem dX0_store_38 : decode cX0_store 38 = .ok (.getfield 15, 3) := by decide +kernel
theorem dX0_store_41 : decode cX0_store 41 = .ok (.iload_n 1, 1) := by decide +kernel
theorem dX0_store_42 : decode cX0_store 42 = .ok (.iaload, 1) := by decide +kernel
theorem dX0_store_43 : decode cX0_store 43 = .ok (.iload 5, 2) := by decide +kernel
theorem dX0_store_45 : decode cX0_store 45 = .ok (.iushr, 1) := by decide +kernel
theorem dX0_store_46 : decode cX0_store 46 = .ok (.sipush 255, 3) := by decide +kernel
theorem dX0_store_49 : decode cX0_store 49 = .ok (.iand, 1) := by decide +kernel
theorem dX0_store_50 : decode cX0_store 50 = .ok (.istore 7, 2) := by decide +kernel
theorem dX0_store_52 : decode cX0_store 52 = .ok (.aload_n 0, 1) := by decide +kernel
theorem dX0_store_53 : decode cX0_store 53 = .ok (.getfield 18, 3) := by decide +kernel
theorem dX0_store_56 : decode cX0_store 56 = .ok (.iload_n 2, 1) := by decide +kernel
theorem dX0_store_57 : decode cX0_store 57 = .ok (.iload 4, 2) := by decide +kernel
theorem dX0_store_59 : decode cX0_store 59 = .ok (.iadd, 1) := by decide +kernel
theorem dX0_store_60 : decode cX0_store 60 = .ok (.iload 7, 2) := by decide +kernel
theorem dX0_store_62 : decode cX0_store 62 = .ok (.bipush 8, 2) := by decide +kernel
theorem dX0_store_64 : decode cX0_store 64 = .ok (.ishl, 1) := by decide +kernel
theorem dX0_store_65 : decode cX0_store 65 = .ok (.iload 6, 2) := by decide +kernel
theorem dX0_store_67 : decode cX0_store 67 = .ok (.ior, 1) := by decide +kernel
theorem dX0_store_68 : decode cX0_store 68 = .ok (.iastore, 1) := by decide +kernel
theorem dX0_store_69 : decode cX0_store 69 = .ok (.iinc 4 1, 3) := by decide +kernel
theorem dX0_store_72 : decode cX0_store 72 = .ok (.goto (-63), 3) := by decide +kernel
theorem dX0_store_75 : decode cX0_store 75 = .ok (.return_, 1) := by decide +kernel
theorem dX0_load_0 : decode cX0_load 0 = .ok (.iload_n 1, 1) := by decide +kernel
theorem dX0_load_1 : decode cX0_load 1 = .ok (.iload_n 2, 1) := by decide +kernel
theorem dX0_load_2 : decode cX0_load 2 = .ok (.iload_n 3, 1) := by decide +kernel
theorem dX0_load_3 : decode cX0_load 3 = .ok (.invokestatic 35, 3) := by decide +kernel
theorem dX0_load_6 : decode cX0_load 6 = .ok (.iconst 0, 1) := by decide +kernel
theorem dX0_load_7 : decode cX0_load 7 = .ok (.istore 5, 2) := by decide +kernel
theorem dX0_load_9 : decode cX0_load 9 = .ok (.iconst 0, 1) := by decide +kernel
theorem dX0_load_10 : decode cX0_load 10 = .ok (.istore 6, 2) := by decide +kernel
theorem dX0_load_12 : decode cX0_load 12 = .ok (.iconst 0, 1) := by decide +kernel
theorem dX0_load_13 : decode cX0_load 13 = .ok (.istore 7, 2) := by decide +kernel
theorem dX0_load_15 : decode cX0_load 15 = .ok (.iload 7, 2) := by decide +kernel
theorem dX0_load_17 : decode cX0_load 17 = .ok (.iload_n 3, 1) := by decide +kernel
theorem dX0_load_18 : decode cX0_load 18 = .ok (.if_icmp .ge 57, 3) := by decide +kernel
theorem dX0_load_21 : decode cX0_load 21 = .ok (.iload 7, 2) := by decide +kernel
theorem dX0_load_23 : decode cX0_load 23 = .ok (.bipush 8, 2) := by decide +kernel
theorem dX0_load_25 : decode cX0_load 25 = .ok (.imul, 1) := by decide +kernel
theorem dX0_load_26 : decode cX0_load 26 = .ok (.istore 8, 2) := by decide +kernel
theorem dX0_load_28 : decode cX0_load 28 = .ok (.iload 5, 2) := by decide +kernel
theorem dX0_load_30 : decode cX0_load 30 = .ok (.aload_n 0, 1) := by decide +kernel
theorem dX0_load_31 : decode cX0_load 31 = .ok (.getfield 18, 3) := by decide +kernel
theorem dX0_load_34 : decode cX0_load 34 = .ok (.iload_n 2, 1) := by decide +kernel
theorem dX0_load_35 : decode cX0_load 35 = .ok (.iload 7, 2) := by decide +kernel
theorem dX0_load_37 : decode cX0_load 37 = .ok (.iadd, 1) := by decide +kernel
theorem dX0_load_38 : decode cX0_load 38 = .ok (.iaload, 1) := by decide +kernel
theorem dX0_load_39 : decode cX0_load 39 = .ok (.sipush 255, 3) := by decide +kernel
theorem dX0_load_42 : decode cX0_load 42 = .ok (.iand, 1) := by decide +kernel
theorem dX0_load_43 : decode cX0_load 43 = .ok (.iload 8, 2) := by decide +kernel
theorem dX0_load_45 : decode cX0_load 45 = .ok (.ishl, 1) := by decide +kernel
theorem dX0_load_46 : decode cX0_load 46 = .ok (.ior, 1) := by decide +kernel
theorem dX0_load_47 : decode cX0_load 47 = .ok (.istore 5, 2) := by decide +kernel
theorem dX0_load_49 : decode cX0_load 49 = .ok (.iload 6, 2) := by decide +kernel
theorem dX0_load_51 : decode cX0_load 51 = .ok (.aload_n 0, 1) := by decide +kernel
theorem dX0_load_52 : decode cX0_load 52 = .ok (.getfield 18, 3) := by decide +kernel
theorem dX0_load_55 : decode cX0_load 55 = .ok (.iload_n 2, 1) := by decide +kernel
theorem dX0_load_56 : decode cX0_load 56 = .ok (.iload 7, 2) := by decide +kernel
theorem dX0_load_58 : decode cX0_load 58 = .ok (.iadd, 1) := by decide +kernel
theorem dX0_load_59 : decode cX0_load 59 = .ok (.iaload, 1) := by decide +kernel
theorem dX0_load_60 : decode cX0_load 60 = .ok (.bipush 8, 2) := by decide +kernel
theorem dX0_load_62 : decode cX0_load 62 = .ok (.iushr, 1) := by decide +kernel
theorem dX0_load_63 : decode cX0_load 63 = .ok (.iload 8, 2) := by decide +kernel
theorem dX0_load_65 : decode cX0_load 65 = .ok (.ishl, 1) := by decide +kernel
theorem dX0_load_66 : decode cX0_load 66 = .ok (.ior, 1) := by decide +kernel
theorem dX0_load_67 : decode cX0_load 67 = .ok (.istore 6, 2) := by decide +kernel
theorem dX0_load_69 : decode cX0_load 69 = .ok (.iinc 7 1, 3) := by decide +kernel
theorem dX0_load_72 : decode cX0_load 72 = .ok (.goto (-57), 3) := by decide +kernel
theorem dX0_load_75 : decode cX0_load 75 = .ok (.aload_n 0, 1) := by decide +kernel
theorem dX0_load_76 : decode cX0_load 76 = .ok (.getfield 11, 3) := by decide +kernel
theorem dX0_load_79 : decode cX0_load 79 = .ok (.iload_n 1, 1) := by decide +kernel
theorem dX0_load_80 : decode cX0_load 80 = .ok (.iload 5, 2) := by decide +kernel
theorem dX0_load_82 : decode cX0_load 82 = .ok (.iload_n 3, 1) := by decide +kernel
theorem dX0_load_83 : decode cX0_load 83 = .ok (.iload 4, 2) := by decide +kernel
theorem dX0_load_85 : decode cX0_load 85 = .ok (.invokestatic 39, 3) := by decide +kernel
theorem dX0_load_88 : decode cX0_load 88 = .ok (.iastore, 1) := by decide +kernel
theorem dX0_load_89 : decode cX0_load 89 = .ok (.aload_n 0, 1) := by decide +kernel
theorem dX0_load_90 : decode cX0_load 90 = .ok (.getfield 15, 3) := by decide +kernel
theorem dX0_load_93 : decode cX0_load 93 = .ok (.iload_n 1, 1) := by decide +kernel
theorem dX0_load_94 : decode cX0_load 94 = .ok (.iload 6, 2) := by decide +kernel
theorem dX0_load_96 : decode cX0_load 96 = .ok (.iload_n 3, 1) := by decide +kernel
theorem dX0_load_97 : decode cX0_load 97 = .ok (.iload 4, 2) := by decide +kernel
theorem dX0_load_99 : decode cX0_load 99 = .ok (.invokestatic 39, 3) := by decide +kernel
theorem dX0_load_102 : decode cX0_load 102 = .ok (.iastore, 1) := by decide +kernel
theorem dX0_load_103 : decode cX0_load 103 = .ok (.return_, 1) := by decide +kernel
theorem dX0_value_0 : decode cX0_value 0 = .ok (.iload_n 1, 1) := by decide +kernel
theorem dX0_value_1 : decode cX0_value 1 = .ok (.invokestatic 21, 3) := by decide +kernel
theorem dX0_value_4 : decode cX0_value 4 = .ok (.aload_n 0, 1) := by decide +kernel
theorem dX0_value_5 : decode cX0_value 5 = .ok (.getfield 11, 3) := by decide +kernel
theorem dX0_value_8 : decode cX0_value 8 = .ok (.iload_n 1, 1) := by decide +kernel
theorem dX0_value_9 : decode cX0_value 9 = .ok (.iaload, 1) := by decide +kernel
theorem dX0_value_10 : decode cX0_value 10 = .ok (.ireturn, 1) := by decide +kernel
theorem dX0_not_0 : decode cX0_not 0 = .ok (.iload_n 1, 1) := by decide +kernel
theorem dX0_not_1 : decode cX0_not 1 = .ok (.invokestatic 21, 3) := by decide +kernel
theorem dX0_not_4 : decode cX0_not 4 = .ok (.aload_n 0, 1) := by decide +kernel
theorem dX0_not_5 : decode cX0_not 5 = .ok (.getfield 15, 3) := by decide +kernel
theorem dX0_not_8 : decode cX0_not 8 = .ok (.iload_n 1, 1) := by decide +kernel
theorem dX0_not_9 : decode cX0_not 9 = .ok (.iaload, 1) := by decide +kernel
theorem dX0_not_10 : decode cX0_not 10 = .ok (.ireturn, 1) := by decide +kernel
theorem dX0_least_0 : decode cX0_least 0 = .ok (.iload_n 1, 1) := by decide +kernel
theorem dX0_least_1 : decode cX0_least 1 = .ok (.invokestatic 21, 3) := by decide +kernel
theorem dX0_least_4 : decode cX0_least 4 = .ok (.aload_n 0, 1) := by decide +kernel
theorem dX0_least_5 : decode cX0_least 5 = .ok (.getfield 11, 3) := by decide +kernel
theorem dX0_least_8 : decode cX0_least 8 = .ok (.iload_n 1, 1) := by decide +kernel
theorem dX0_least_9 : decode cX0_least 9 = .ok (.iaload, 1) := by decide +kernel
theorem dX0_least_10 : decode cX0_least 10 = .ok (.aload_n 0, 1) := by decide +kernel
theorem dX0_least_11 : decode cX0_least 11 = .ok (.getfield 15, 3) := by decide +kernel
theorem dX0_least_14 : decode cX0_least 14 = .ok (.iload_n 1, 1) := by decide +kernel
theorem dX0_least_15 : decode cX0_least 15 = .ok (.iaload, 1) := by decide +kernel
theorem dX0_least_16 : decode cX0_least 16 = .ok (.invokestatic 43, 3) := by decide +kernel
theorem dX0_least_19 : decode cX0_least 19 = .ok (.ireturn, 1) := by decide +kernel
theorem dX0_greatest_0 : decode cX0_greatest 0 = .ok (.iload_n 1, 1) := by decide +kernel
theorem dX0_greatest_1 : decode cX0_greatest 1 = .ok (.invokestatic 21, 3) := by decide +kernel
theorem dX0_greatest_4 : decode cX0_greatest 4 = .ok (.aload_n 0, 1) := by decide +kernel
theorem dX0_greatest_5 : decode cX0_greatest 5 = .ok (.getfield 11, 3) := by decide +kernel
theorem dX0_greatest_8 : decode cX0_greatest 8 = .ok (.iload_n 1, 1) := by decide +kernel
theorem dX0_greatest_9 : decode cX0_greatest 9 = .ok (.iaload, 1) := by decide +kernel
theorem dX0_greatest_10 : decode cX0_greatest 10 = .ok (.aload_n 0, 1) := by decide +kernel
theorem dX0_greatest_11 : decode cX0_greatest 11 = .ok (.getfield 15, 3) := by decide +kernel
theorem dX0_greatest_14 : decode cX0_greatest 14 = .ok (.iload_n 1, 1) := by decide +kernel
theorem dX0_greatest_15 : decode cX0_greatest 15 = .ok (.iaload, 1) := by decide +kernel
theorem dX0_greatest_16 : decode cX0_greatest 16 = .ok (.invokestatic 47, 3) := by decide +kernel
theorem dX0_greatest_19 : decode cX0_greatest 19 = .ok (.ireturn, 1) := by decide +kernel
theorem dX0_octet_0 : decode cX0_octet 0 = .ok (.iload_n 1, 1) := by decide +kernel
theorem dX0_octet_1 : decode cX0_octet 1 = .ok (.ifCond .lt 10, 3) := by decide +kernel
theorem dX0_octet_4 : decode cX0_octet 4 = .ok (.iload_n 1, 1) := by decide +kernel
theorem dX0_octet_5 : decode cX0_octet 5 = .ok (.sipush 256, 3) := by decide +kernel
theorem dX0_octet_8 : decode cX0_octet 8 = .ok (.if_icmp .lt 11, 3) := by decide +kernel
theorem dX0_octet_11 : decode cX0_octet 11 = .ok (.new 50, 3) := by decide +kernel
theorem dX0_octet_14 : decode cX0_octet 14 = .ok (.dup, 1) := by decide +kernel
theorem dX0_octet_15 : decode cX0_octet 15 = .ok (.invokespecial 52, 3) := by decide +kernel
theorem dX0_octet_18 : decode cX0_octet 18 = .ok (.athrow, 1) := by decide +kernel
theorem dX0_octet_19 : decode cX0_octet 19 = .ok (.aload_n 0, 1) := by decide +kernel
theorem dX0_octet_20 : decode cX0_octet 20 = .ok (.getfield 18, 3) := by decide +kernel
theorem dX0_octet_23 : decode cX0_octet 23 = .ok (.iload_n 1, 1) := by decide +kernel
theorem dX0_octet_24 : decode cX0_octet 24 = .ok (.iaload, 1) := by decide +kernel
theorem dX0_octet_25 : decode cX0_octet 25 = .ok (.ireturn, 1) := by decide +kernel
theorem dX0_count_0 : decode cX0_count 0 = .ok (.iconst 0, 1) := by decide +kernel
theorem dX0_count_1 : decode cX0_count 1 = .ok (.istore_n 1, 1) := by decide +kernel
theorem dX0_count_2 : decode cX0_count 2 = .ok (.iconst 0, 1) := by decide +kernel
theorem dX0_count_3 : decode cX0_count 3 = .ok (.istore_n 2, 1) := by decide +kernel
theorem dX0_count_4 : decode cX0_count 4 = .ok (.iload_n 2, 1) := by decide +kernel
theorem dX0_count_5 : decode cX0_count 5 = .ok (.bipush 16, 2) := by decide +kernel
theorem dX0_count_7 : decode cX0_count 7 = .ok (.if_icmp .ge 21, 3) := by decide +kernel
theorem dX0_count_10 : decode cX0_count 10 = .ok (.iload_n 1, 1) := by decide +kernel
theorem dX0_count_11 : decode cX0_count 11 = .ok (.aload_n 0, 1) := by decide +kernel
theorem dX0_count_12 : decode cX0_count 12 = .ok (.getfield 15, 3) := by decide +kernel
theorem dX0_count_15 : decode cX0_count 15 = .ok (.iload_n 2, 1) := by decide +kernel
theorem dX0_count_16 : decode cX0_count 16 = .ok (.iaload, 1) := by decide +kernel
theorem dX0_count_17 : decode cX0_count 17 = .ok (.invokestatic 53, 3) := by decide +kernel
theorem dX0_count_20 : decode cX0_count 20 = .ok (.iadd, 1) := by decide +kernel
theorem dX0_count_21 : decode cX0_count 21 = .ok (.istore_n 1, 1) := by decide +kernel
theorem dX0_count_22 : decode cX0_count 22 = .ok (.iinc 2 1, 3) := by decide +kernel
theorem dX0_count_25 : decode cX0_count 25 = .ok (.goto (-21), 3) := by decide +kernel
theorem dX0_count_28 : decode cX0_count 28 = .ok (.iload_n 1, 1) := by decide +kernel
theorem dX0_count_29 : decode cX0_count 29 = .ok (.ireturn, 1) := by decide +kernel
theorem dX0_checkRegister_0 : decode cX0_checkRegister 0 = .ok (.iload_n 0, 1) := by decide +kernel
theorem dX0_checkRegister_1 : decode cX0_checkRegister 1 = .ok (.ifCond .lt 9, 3) := by decide +kernel
theorem dX0_checkRegister_4 : decode cX0_checkRegister 4 = .ok (.iload_n 0, 1) := by decide +kernel
theorem dX0_checkRegister_5 : decode cX0_checkRegister 5 = .ok (.bipush 16, 2) := by decide +kernel
theorem dX0_checkRegister_7 : decode cX0_checkRegister 7 = .ok (.if_icmp .lt 11, 3) := by decide +kernel
theorem dX0_checkRegister_10 : decode cX0_checkRegister 10 = .ok (.new 50, 3) := by decide +kernel
theorem dX0_checkRegister_13 : decode cX0_checkRegister 13 = .ok (.dup, 1) := by decide +kernel
theorem dX0_checkRegister_14 : decode cX0_checkRegister 14 = .ok (.invokespecial 52, 3) := by decide +kernel
theorem dX0_checkRegister_17 : decode cX0_checkRegister 17 = .ok (.athrow, 1) := by decide +kernel
theorem dX0_checkRegister_18 : decode cX0_checkRegister 18 = .ok (.return_, 1) := by decide +kernel
theorem dX0_checkTransfer_0 : decode cX0_checkTransfer 0 = .ok (.iload_n 2, 1) := by decide +kernel
theorem dX0_checkTransfer_1 : decode cX0_checkTransfer 1 = .ok (.iconst 1, 1) := by decide +kernel
theorem dX0_checkTransfer_2 : decode cX0_checkTransfer 2 = .ok (.if_icmp .eq 21, 3) := by decide +kernel
theorem dX0_checkTransfer_5 : decode cX0_checkTransfer 5 = .ok (.iload_n 2, 1) := by decide +kernel
theorem dX0_checkTransfer_6 : decode cX0_checkTransfer 6 = .ok (.iconst 2, 1) := by decide +kernel
theorem dX0_checkTransfer_7 : decode cX0_checkTransfer 7 = .ok (.if_icmp .eq 16, 3) := by decide +kernel
theorem dX0_checkTransfer_10 : decode cX0_checkTransfer 10 = .ok (.iload_n 2, 1) := by decide +kernel
theorem dX0_checkTransfer_11 : decode cX0_checkTransfer 11 = .ok (.iconst 4, 1) := by decide +kernel
theorem dX0_checkTransfer_12 : decode cX0_checkTransfer 12 = .ok (.if_icmp .eq 11, 3) := by decide +kernel
theorem dX0_checkTransfer_15 : decode cX0_checkTransfer 15 = .ok (.new 25, 3) := by decide +kernel
theorem dX0_checkTransfer_18 : decode cX0_checkTransfer 18 = .ok (.dup, 1) := by decide +kernel
theorem dX0_checkTransfer_19 : decode cX0_checkTransfer 19 = .ok (.invokespecial 27, 3) := by decide +kernel
theorem dX0_checkTransfer_22 : decode cX0_checkTransfer 22 = .ok (.athrow, 1) := by decide +kernel
theorem dX0_checkTransfer_23 : decode cX0_checkTransfer 23 = .ok (.iload_n 1, 1) := by decide +kernel
theorem dX0_checkTransfer_24 : decode cX0_checkTransfer 24 = .ok (.ifCond .lt 12, 3) := by decide +kernel
theorem dX0_checkTransfer_27 : decode cX0_checkTransfer 27 = .ok (.iload_n 1, 1) := by decide +kernel
theorem dX0_checkTransfer_28 : decode cX0_checkTransfer 28 = .ok (.sipush 256, 3) := by decide +kernel
theorem dX0_checkTransfer_31 : decode cX0_checkTransfer 31 = .ok (.iload_n 2, 1) := by decide +kernel
theorem dX0_checkTransfer_32 : decode cX0_checkTransfer 32 = .ok (.isub, 1) := by decide +kernel
theorem dX0_checkTransfer_33 : decode cX0_checkTransfer 33 = .ok (.if_icmp .le 11, 3) := by decide +kernel
theorem dX0_checkTransfer_36 : decode cX0_checkTransfer 36 = .ok (.new 50, 3) := by decide +kernel
theorem dX0_checkTransfer_39 : decode cX0_checkTransfer 39 = .ok (.dup, 1) := by decide +kernel
theorem dX0_checkTransfer_40 : decode cX0_checkTransfer 40 = .ok (.invokespecial 52, 3) := by decide +kernel
theorem dX0_checkTransfer_43 : decode cX0_checkTransfer 43 = .ok (.athrow, 1) := by decide +kernel
theorem dX0_checkTransfer_44 : decode cX0_checkTransfer 44 = .ok (.iload_n 0, 1) := by decide +kernel
theorem dX0_checkTransfer_45 : decode cX0_checkTransfer 45 = .ok (.invokestatic 21, 3) := by decide +kernel
theorem dX0_checkTransfer_48 : decode cX0_checkTransfer 48 = .ok (.return_, 1) := by decide +kernel
theorem dX0_valueOf_0 : decode cX0_valueOf 0 = .ok (.aload_n 0, 1) := by decide +kernel
theorem dX0_valueOf_1 : decode cX0_valueOf 1 = .ok (.getfield 11, 3) := by decide +kernel
theorem dX0_valueOf_4 : decode cX0_valueOf 4 = .ok (.iload_n 3, 1) := by decide +kernel
theorem dX0_valueOf_5 : decode cX0_valueOf 5 = .ok (.iaload, 1) := by decide +kernel
theorem dX0_valueOf_6 : decode cX0_valueOf 6 = .ok (.istore 5, 2) := by decide +kernel
theorem dX0_valueOf_8 : decode cX0_valueOf 8 = .ok (.aload_n 0, 1) := by decide +kernel
theorem dX0_valueOf_9 : decode cX0_valueOf 9 = .ok (.getfield 11, 3) := by decide +kernel
theorem dX0_valueOf_12 : decode cX0_valueOf 12 = .ok (.iload 4, 2) := by decide +kernel
theorem dX0_valueOf_14 : decode cX0_valueOf 14 = .ok (.iaload, 1) := by decide +kernel
theorem dX0_valueOf_15 : decode cX0_valueOf 15 = .ok (.istore 6, 2) := by decide +kernel
theorem dX0_valueOf_17 : decode cX0_valueOf 17 = .ok (.iload_n 1, 1) := by decide +kernel
theorem dX0_valueOf_18 : decode cX0_valueOf 18 = .ok (.tableswitch 164 0 11 #[62, 68, 74, 80, 86, 92, 92, 92, 104, 110, 126, 148], 62) := by decide +kernel
theorem dX0_valueOf_80 : decode cX0_valueOf 80 = .ok (.iload 5, 2) := by decide +kernel
theorem dX0_valueOf_82 : decode cX0_valueOf 82 = .ok (.iload 6, 2) := by decide +kernel
theorem dX0_valueOf_84 : decode cX0_valueOf 84 = .ok (.iadd, 1) := by decide +kernel
theorem dX0_valueOf_85 : decode cX0_valueOf 85 = .ok (.ireturn, 1) := by decide +kernel
theorem dX0_valueOf_86 : decode cX0_valueOf 86 = .ok (.iload 5, 2) := by decide +kernel
theorem dX0_valueOf_88 : decode cX0_valueOf 88 = .ok (.iload 6, 2) := by decide +kernel
theorem dX0_valueOf_90 : decode cX0_valueOf 90 = .ok (.isub, 1) := by decide +kernel
theorem dX0_valueOf_91 : decode cX0_valueOf 91 = .ok (.ireturn, 1) := by decide +kernel
theorem dX0_valueOf_92 : decode cX0_valueOf 92 = .ok (.iload 5, 2) := by decide +kernel
theorem dX0_valueOf_94 : decode cX0_valueOf 94 = .ok (.iload 6, 2) := by decide +kernel
theorem dX0_valueOf_96 : decode cX0_valueOf 96 = .ok (.iand, 1) := by decide +kernel
theorem dX0_valueOf_97 : decode cX0_valueOf 97 = .ok (.ireturn, 1) := by decide +kernel
theorem dX0_valueOf_98 : decode cX0_valueOf 98 = .ok (.iload 5, 2) := by decide +kernel
theorem dX0_valueOf_100 : decode cX0_valueOf 100 = .ok (.iload 6, 2) := by decide +kernel
theorem dX0_valueOf_102 : decode cX0_valueOf 102 = .ok (.ior, 1) := by decide +kernel
theorem dX0_valueOf_103 : decode cX0_valueOf 103 = .ok (.ireturn, 1) := by decide +kernel
theorem dX0_valueOf_104 : decode cX0_valueOf 104 = .ok (.iload 5, 2) := by decide +kernel
theorem dX0_valueOf_106 : decode cX0_valueOf 106 = .ok (.iload 6, 2) := by decide +kernel
theorem dX0_valueOf_108 : decode cX0_valueOf 108 = .ok (.ixor, 1) := by decide +kernel
theorem dX0_valueOf_109 : decode cX0_valueOf 109 = .ok (.ireturn, 1) := by decide +kernel
theorem dX0_valueOf_110 : decode cX0_valueOf 110 = .ok (.iload_n 1, 1) := by decide +kernel
theorem dX0_valueOf_111 : decode cX0_valueOf 111 = .ok (.iload 5, 2) := by decide +kernel
theorem dX0_valueOf_113 : decode cX0_valueOf 113 = .ok (.iload 6, 2) := by decide +kernel
theorem dX0_valueOf_115 : decode cX0_valueOf 115 = .ok (.bipush 31, 2) := by decide +kernel
theorem dX0_valueOf_117 : decode cX0_valueOf 117 = .ok (.iand, 1) := by decide +kernel
theorem dX0_valueOf_118 : decode cX0_valueOf 118 = .ok (.invokestatic 57, 3) := by decide +kernel
theorem dX0_valueOf_121 : decode cX0_valueOf 121 = .ok (.ireturn, 1) := by decide +kernel
theorem dX0_valueOf_122 : decode cX0_valueOf 122 = .ok (.iload 5, 2) := by decide +kernel
theorem dX0_valueOf_124 : decode cX0_valueOf 124 = .ok (.iload 6, 2) := by decide +kernel
theorem dX0_valueOf_126 : decode cX0_valueOf 126 = .ok (.imul, 1) := by decide +kernel
theorem dX0_valueOf_127 : decode cX0_valueOf 127 = .ok (.ireturn, 1) := by decide +kernel
theorem dX0_valueOf_128 : decode cX0_valueOf 128 = .ok (.iload 5, 2) := by decide +kernel
theorem dX0_valueOf_130 : decode cX0_valueOf 130 = .ok (.iload 6, 2) := by decide +kernel
theorem dX0_valueOf_132 : decode cX0_valueOf 132 = .ok (.if_icmp .ge 7, 3) := by decide +kernel
theorem dX0_valueOf_135 : decode cX0_valueOf 135 = .ok (.iconst 1, 1) := by decide +kernel
theorem dX0_valueOf_136 : decode cX0_valueOf 136 = .ok (.goto 4, 3) := by decide +kernel
theorem dX0_valueOf_139 : decode cX0_valueOf 139 = .ok (.iconst 0, 1) := by decide +kernel
theorem dX0_valueOf_140 : decode cX0_valueOf 140 = .ok (.invokestatic 61, 3) := by decide +kernel
theorem dX0_valueOf_143 : decode cX0_valueOf 143 = .ok (.ireturn, 1) := by decide +kernel
theorem dX0_valueOf_144 : decode cX0_valueOf 144 = .ok (.iload 5, 2) := by decide +kernel
theorem dX0_valueOf_146 : decode cX0_valueOf 146 = .ok (.invokestatic 65, 3) := by decide +kernel
theorem dX0_valueOf_149 : decode cX0_valueOf 149 = .ok (.iload 6, 2) := by decide +kernel
theorem dX0_valueOf_151 : decode cX0_valueOf 151 = .ok (.invokestatic 65, 3) := by decide +kernel
theorem dX0_valueOf_154 : decode cX0_valueOf 154 = .ok (.if_icmp .ge 7, 3) := by decide +kernel
theorem dX0_valueOf_157 : decode cX0_valueOf 157 = .ok (.iconst 1, 1) := by decide +kernel
theorem dX0_valueOf_158 : decode cX0_valueOf 158 = .ok (.goto 4, 3) := by decide +kernel
theorem dX0_valueOf_161 : decode cX0_valueOf 161 = .ok (.iconst 0, 1) := by decide +kernel
theorem dX0_valueOf_162 : decode cX0_valueOf 162 = .ok (.invokestatic 61, 3) := by decide +kernel
theorem dX0_valueOf_165 : decode cX0_valueOf 165 = .ok (.ireturn, 1) := by decide +kernel
theorem dX0_valueOf_166 : decode cX0_valueOf 166 = .ok (.iload 5, 2) := by decide +kernel
theorem dX0_valueOf_168 : decode cX0_valueOf 168 = .ok (.iload 6, 2) := by decide +kernel
theorem dX0_valueOf_170 : decode cX0_valueOf 170 = .ok (.if_icmp .ne 7, 3) := by decide +kernel
theorem dX0_valueOf_173 : decode cX0_valueOf 173 = .ok (.iconst 1, 1) := by decide +kernel
theorem dX0_valueOf_174 : decode cX0_valueOf 174 = .ok (.goto 4, 3) := by decide +kernel
theorem dX0_valueOf_177 : decode cX0_valueOf 177 = .ok (.iconst 0, 1) := by decide +kernel
theorem dX0_valueOf_178 : decode cX0_valueOf 178 = .ok (.invokestatic 61, 3) := by decide +kernel
theorem dX0_valueOf_181 : decode cX0_valueOf 181 = .ok (.ireturn, 1) := by decide +kernel
theorem dX0_valueOf_182 : decode cX0_valueOf 182 = .ok (.aload_n 0, 1) := by decide +kernel
theorem dX0_valueOf_183 : decode cX0_valueOf 183 = .ok (.iload 4, 2) := by decide +kernel
theorem dX0_valueOf_185 : decode cX0_valueOf 185 = .ok (.invokevirtual 68, 3) := by decide +kernel
theorem dX0_valueOf_188 : decode cX0_valueOf 188 = .ok (.ifCond .eq 8, 3) := by decide +kernel
theorem dX0_valueOf_191 : decode cX0_valueOf 191 = .ok (.iload 5, 2) := by decide +kernel
theorem dX0_valueOf_193 : decode cX0_valueOf 193 = .ok (.goto 9, 3) := by decide +kernel
theorem dX0_valueOf_196 : decode cX0_valueOf 196 = .ok (.aload_n 0, 1) := by decide +kernel
theorem dX0_valueOf_197 : decode cX0_valueOf 197 = .ok (.getfield 11, 3) := by decide +kernel
theorem dX0_valueOf_200 : decode cX0_valueOf 200 = .ok (.iload_n 2, 1) := by decide +kernel
theorem dX0_valueOf_201 : decode cX0_valueOf 201 = .ok (.iaload, 1) := by decide +kernel
theorem dX0_valueOf_202 : decode cX0_valueOf 202 = .ok (.ireturn, 1) := by decide +kernel
theorem dX0_shadowOf_0 : decode cX0_shadowOf 0 = .ok (.aload_n 0, 1) := by decide +kernel
theorem dX0_shadowOf_1 : decode cX0_shadowOf 1 = .ok (.getfield 11, 3) := by decide +kernel
theorem dX0_shadowOf_4 : decode cX0_shadowOf 4 = .ok (.iload_n 3, 1) := by decide +kernel
theorem dX0_shadowOf_5 : decode cX0_shadowOf 5 = .ok (.iaload, 1) := by decide +kernel
theorem dX0_shadowOf_6 : decode cX0_shadowOf 6 = .ok (.istore 5, 2) := by decide +kernel
theorem dX0_shadowOf_8 : decode cX0_shadowOf 8 = .ok (.aload_n 0, 1) := by decide +kernel
theorem dX0_shadowOf_9 : decode cX0_shadowOf 9 = .ok (.getfield 11, 3) := by decide +kernel
theorem dX0_shadowOf_12 : decode cX0_shadowOf 12 = .ok (.iload 4, 2) := by decide +kernel
theorem dX0_shadowOf_14 : decode cX0_shadowOf 14 = .ok (.iaload, 1) := by decide +kernel
theorem dX0_shadowOf_15 : decode cX0_shadowOf 15 = .ok (.istore 6, 2) := by decide +kernel
theorem dX0_shadowOf_17 : decode cX0_shadowOf 17 = .ok (.aload_n 0, 1) := by decide +kernel
theorem dX0_shadowOf_18 : decode cX0_shadowOf 18 = .ok (.getfield 15, 3) := by decide +kernel
theorem dX0_shadowOf_21 : decode cX0_shadowOf 21 = .ok (.iload_n 3, 1) := by decide +kernel
theorem dX0_shadowOf_22 : decode cX0_shadowOf 22 = .ok (.iaload, 1) := by decide +kernel
theorem dX0_shadowOf_23 : decode cX0_shadowOf 23 = .ok (.istore 7, 2) := by decide +kernel
theorem dX0_shadowOf_25 : decode cX0_shadowOf 25 = .ok (.aload_n 0, 1) := by decide +kernel
theorem dX0_shadowOf_26 : decode cX0_shadowOf 26 = .ok (.getfield 15, 3) := by decide +kernel
theorem dX0_shadowOf_29 : decode cX0_shadowOf 29 = .ok (.iload 4, 2) := by decide +kernel
theorem dX0_shadowOf_31 : decode cX0_shadowOf 31 = .ok (.iaload, 1) := by decide +kernel
theorem dX0_shadowOf_32 : decode cX0_shadowOf 32 = .ok (.istore 8, 2) := by decide +kernel
theorem dX0_shadowOf_34 : decode cX0_shadowOf 34 = .ok (.iload_n 1, 1) := by decide +kernel
theorem dX0_shadowOf_35 : decode cX0_shadowOf 35 = .ok (.tableswitch 220 0 11 #[61, 61, 73, 91, 113, 119, 119, 119, 143, 168, 183, 204], 61) := by decide +kernel
theorem dX0_shadowOf_96 : decode cX0_shadowOf 96 = .ok (.iload 7, 2) := by decide +kernel
theorem dX0_shadowOf_98 : decode cX0_shadowOf 98 = .ok (.iload 8, 2) := by decide +kernel
theorem dX0_shadowOf_100 : decode cX0_shadowOf 100 = .ok (.ior, 1) := by decide +kernel
theorem dX0_shadowOf_101 : decode cX0_shadowOf 101 = .ok (.invokestatic 72, 3) := by decide +kernel
theorem dX0_shadowOf_104 : decode cX0_shadowOf 104 = .ok (.invokestatic 75, 3) := by decide +kernel
theorem dX0_shadowOf_107 : decode cX0_shadowOf 107 = .ok (.ireturn, 1) := by decide +kernel
theorem dX0_shadowOf_108 : decode cX0_shadowOf 108 = .ok (.iload 7, 2) := by decide +kernel
theorem dX0_shadowOf_110 : decode cX0_shadowOf 110 = .ok (.iload 8, 2) := by decide +kernel
theorem dX0_shadowOf_112 : decode cX0_shadowOf 112 = .ok (.ior, 1) := by decide +kernel
theorem dX0_shadowOf_113 : decode cX0_shadowOf 113 = .ok (.iload 7, 2) := by decide +kernel
theorem dX0_shadowOf_115 : decode cX0_shadowOf 115 = .ok (.iload 5, 2) := by decide +kernel
theorem dX0_shadowOf_117 : decode cX0_shadowOf 117 = .ok (.ior, 1) := by decide +kernel
theorem dX0_shadowOf_118 : decode cX0_shadowOf 118 = .ok (.iand, 1) := by decide +kernel
theorem dX0_shadowOf_119 : decode cX0_shadowOf 119 = .ok (.iload 8, 2) := by decide +kernel
theorem dX0_shadowOf_121 : decode cX0_shadowOf 121 = .ok (.iload 6, 2) := by decide +kernel
theorem dX0_shadowOf_123 : decode cX0_shadowOf 123 = .ok (.ior, 1) := by decide +kernel
theorem dX0_shadowOf_124 : decode cX0_shadowOf 124 = .ok (.iand, 1) := by decide +kernel
theorem dX0_shadowOf_125 : decode cX0_shadowOf 125 = .ok (.ireturn, 1) := by decide +kernel
theorem dX0_shadowOf_126 : decode cX0_shadowOf 126 = .ok (.iload 7, 2) := by decide +kernel
theorem dX0_shadowOf_128 : decode cX0_shadowOf 128 = .ok (.iload 8, 2) := by decide +kernel
theorem dX0_shadowOf_130 : decode cX0_shadowOf 130 = .ok (.ior, 1) := by decide +kernel
theorem dX0_shadowOf_131 : decode cX0_shadowOf 131 = .ok (.iload 7, 2) := by decide +kernel
theorem dX0_shadowOf_133 : decode cX0_shadowOf 133 = .ok (.iload 5, 2) := by decide +kernel
theorem dX0_shadowOf_135 : decode cX0_shadowOf 135 = .ok (.iconst (-1), 1) := by decide +kernel
theorem dX0_shadowOf_136 : decode cX0_shadowOf 136 = .ok (.ixor, 1) := by decide +kernel
theorem dX0_shadowOf_137 : decode cX0_shadowOf 137 = .ok (.ior, 1) := by decide +kernel
theorem dX0_shadowOf_138 : decode cX0_shadowOf 138 = .ok (.iand, 1) := by decide +kernel
theorem dX0_shadowOf_139 : decode cX0_shadowOf 139 = .ok (.iload 8, 2) := by decide +kernel
theorem dX0_shadowOf_141 : decode cX0_shadowOf 141 = .ok (.iload 6, 2) := by decide +kernel
theorem dX0_shadowOf_143 : decode cX0_shadowOf 143 = .ok (.iconst (-1), 1) := by decide +kernel
theorem dX0_shadowOf_144 : decode cX0_shadowOf 144 = .ok (.ixor, 1) := by decide +kernel
theorem dX0_shadowOf_145 : decode cX0_shadowOf 145 = .ok (.ior, 1) := by decide +kernel
theorem dX0_shadowOf_146 : decode cX0_shadowOf 146 = .ok (.iand, 1) := by decide +kernel
theorem dX0_shadowOf_147 : decode cX0_shadowOf 147 = .ok (.ireturn, 1) := by decide +kernel
theorem dX0_shadowOf_148 : decode cX0_shadowOf 148 = .ok (.iload 7, 2) := by decide +kernel
theorem dX0_shadowOf_150 : decode cX0_shadowOf 150 = .ok (.iload 8, 2) := by decide +kernel
theorem dX0_shadowOf_152 : decode cX0_shadowOf 152 = .ok (.ior, 1) := by decide +kernel
theorem dX0_shadowOf_153 : decode cX0_shadowOf 153 = .ok (.ireturn, 1) := by decide +kernel
theorem dX0_shadowOf_154 : decode cX0_shadowOf 154 = .ok (.iload 8, 2) := by decide +kernel
theorem dX0_shadowOf_156 : decode cX0_shadowOf 156 = .ok (.bipush 31, 2) := by decide +kernel
theorem dX0_shadowOf_158 : decode cX0_shadowOf 158 = .ok (.iand, 1) := by decide +kernel
theorem dX0_shadowOf_159 : decode cX0_shadowOf 159 = .ok (.ifCond .eq 7, 3) := by decide +kernel
theorem dX0_shadowOf_162 : decode cX0_shadowOf 162 = .ok (.iconst (-1), 1) := by decide +kernel
theorem dX0_shadowOf_163 : decode cX0_shadowOf 163 = .ok (.goto 14, 3) := by decide +kernel
theorem dX0_shadowOf_166 : decode cX0_shadowOf 166 = .ok (.iload_n 1, 1) := by decide +kernel
theorem dX0_shadowOf_167 : decode cX0_shadowOf 167 = .ok (.iload 7, 2) := by decide +kernel
theorem dX0_shadowOf_169 : decode cX0_shadowOf 169 = .ok (.iload 6, 2) := by decide +kernel
theorem dX0_shadowOf_171 : decode cX0_shadowOf 171 = .ok (.bipush 31, 2) := by decide +kernel
theorem dX0_shadowOf_173 : decode cX0_shadowOf 173 = .ok (.iand, 1) := by decide +kernel
theorem dX0_shadowOf_174 : decode cX0_shadowOf 174 = .ok (.invokestatic 57, 3) := by decide +kernel
theorem dX0_shadowOf_177 : decode cX0_shadowOf 177 = .ok (.ireturn, 1) := by decide +kernel
theorem dX0_shadowOf_178 : decode cX0_shadowOf 178 = .ok (.iload 7, 2) := by decide +kernel
theorem dX0_shadowOf_180 : decode cX0_shadowOf 180 = .ok (.iload 6, 2) := by decide +kernel
theorem dX0_shadowOf_182 : decode cX0_shadowOf 182 = .ok (.iload 8, 2) := by decide +kernel
theorem dX0_shadowOf_184 : decode cX0_shadowOf 184 = .ok (.invokestatic 78, 3) := by decide +kernel
theorem dX0_shadowOf_187 : decode cX0_shadowOf 187 = .ok (.iload 8, 2) := by decide +kernel
theorem dX0_shadowOf_189 : decode cX0_shadowOf 189 = .ok (.iload 5, 2) := by decide +kernel
theorem dX0_shadowOf_191 : decode cX0_shadowOf 191 = .ok (.iload 7, 2) := by decide +kernel
theorem dX0_shadowOf_193 : decode cX0_shadowOf 193 = .ok (.invokestatic 78, 3) := by decide +kernel
theorem dX0_shadowOf_196 : decode cX0_shadowOf 196 = .ok (.invokestatic 81, 3) := by decide +kernel
theorem dX0_shadowOf_199 : decode cX0_shadowOf 199 = .ok (.invokestatic 75, 3) := by decide +kernel
theorem dX0_shadowOf_202 : decode cX0_shadowOf 202 = .ok (.ireturn, 1) := by decide +kernel
theorem dX0_shadowOf_203 : decode cX0_shadowOf 203 = .ok (.iload 5, 2) := by decide +kernel
theorem dX0_shadowOf_205 : decode cX0_shadowOf 205 = .ok (.iload 7, 2) := by decide +kernel
theorem dX0_shadowOf_207 : decode cX0_shadowOf 207 = .ok (.iload 6, 2) := by decide +kernel
theorem dX0_shadowOf_209 : decode cX0_shadowOf 209 = .ok (.iload 8, 2) := by decide +kernel
theorem dX0_shadowOf_211 : decode cX0_shadowOf 211 = .ok (.invokestatic 86, 3) := by decide +kernel
theorem dX0_shadowOf_214 : decode cX0_shadowOf 214 = .ok (.invokestatic 61, 3) := by decide +kernel
theorem dX0_shadowOf_217 : decode cX0_shadowOf 217 = .ok (.ireturn, 1) := by decide +kernel
theorem dX0_shadowOf_218 : decode cX0_shadowOf 218 = .ok (.iload 5, 2) := by decide +kernel
theorem dX0_shadowOf_220 : decode cX0_shadowOf 220 = .ok (.invokestatic 65, 3) := by decide +kernel
theorem dX0_shadowOf_223 : decode cX0_shadowOf 223 = .ok (.iload 7, 2) := by decide +kernel
theorem dX0_shadowOf_225 : decode cX0_shadowOf 225 = .ok (.iload 6, 2) := by decide +kernel
theorem dX0_shadowOf_227 : decode cX0_shadowOf 227 = .ok (.invokestatic 65, 3) := by decide +kernel
theorem dX0_shadowOf_230 : decode cX0_shadowOf 230 = .ok (.iload 8, 2) := by decide +kernel
theorem dX0_shadowOf_232 : decode cX0_shadowOf 232 = .ok (.invokestatic 86, 3) := by decide +kernel
theorem dX0_shadowOf_235 : decode cX0_shadowOf 235 = .ok (.invokestatic 61, 3) := by decide +kernel
theorem dX0_shadowOf_238 : decode cX0_shadowOf 238 = .ok (.ireturn, 1) := by decide +kernel
theorem dX0_shadowOf_239 : decode cX0_shadowOf 239 = .ok (.iload 5, 2) := by decide +kernel
theorem dX0_shadowOf_241 : decode cX0_shadowOf 241 = .ok (.iload 6, 2) := by decide +kernel
theorem dX0_shadowOf_243 : decode cX0_shadowOf 243 = .ok (.iload 7, 2) := by decide +kernel
theorem dX0_shadowOf_245 : decode cX0_shadowOf 245 = .ok (.iload 8, 2) := by decide +kernel
theorem dX0_shadowOf_247 : decode cX0_shadowOf 247 = .ok (.ior, 1) := by decide +kernel
theorem dX0_shadowOf_248 : decode cX0_shadowOf 248 = .ok (.invokestatic 90, 3) := by decide +kernel
theorem dX0_shadowOf_251 : decode cX0_shadowOf 251 = .ok (.invokestatic 61, 3) := by decide +kernel
theorem dX0_shadowOf_254 : decode cX0_shadowOf 254 = .ok (.ireturn, 1) := by decide +kernel
theorem dX0_shadowOf_255 : decode cX0_shadowOf 255 = .ok (.aload_n 0, 1) := by decide +kernel
theorem dX0_shadowOf_256 : decode cX0_shadowOf 256 = .ok (.iload_n 2, 1) := by decide +kernel
theorem dX0_shadowOf_257 : decode cX0_shadowOf 257 = .ok (.iload_n 3, 1) := by decide +kernel
theorem dX0_shadowOf_258 : decode cX0_shadowOf 258 = .ok (.iload 4, 2) := by decide +kernel
theorem dX0_shadowOf_260 : decode cX0_shadowOf 260 = .ok (.invokevirtual 94, 3) := by decide +kernel
theorem dX0_shadowOf_263 : decode cX0_shadowOf 263 = .ok (.ireturn, 1) := by decide +kernel
theorem dX0_chosen_0 : decode cX0_chosen 0 = .ok (.aload_n 0, 1) := by decide +kernel
theorem dX0_chosen_1 : decode cX0_chosen 1 = .ok (.getfield 11, 3) := by decide +kernel
theorem dX0_chosen_4 : decode cX0_chosen 4 = .ok (.iload_n 1, 1) := by decide +kernel
theorem dX0_chosen_5 : decode cX0_chosen 5 = .ok (.iaload, 1) := by decide +kernel
theorem dX0_chosen_6 : decode cX0_chosen 6 = .ok (.iconst 1, 1) := by decide +kernel
theorem dX0_chosen_7 : decode cX0_chosen 7 = .ok (.iand, 1) := by decide +kernel
theorem dX0_chosen_8 : decode cX0_chosen 8 = .ok (.ifCond .eq 7, 3) := by decide +kernel
theorem dX0_chosen_11 : decode cX0_chosen 11 = .ok (.iconst 1, 1) := by decide +kernel
theorem dX0_chosen_12 : decode cX0_chosen 12 = .ok (.goto 4, 3) := by decide +kernel
theorem dX0_chosen_15 : decode cX0_chosen 15 = .ok (.iconst 0, 1) := by decide +kernel
theorem dX0_chosen_16 : decode cX0_chosen 16 = .ok (.ireturn, 1) := by decide +kernel
theorem dX0_choiceShadow_0 : decode cX0_choiceShadow 0 = .ok (.aload_n 0, 1) := by decide +kernel
theorem dX0_choiceShadow_1 : decode cX0_choiceShadow 1 = .ok (.getfield 15, 3) := by decide +kernel
theorem dX0_choiceShadow_4 : decode cX0_choiceShadow 4 = .ok (.iload_n 3, 1) := by decide +kernel
theorem dX0_choiceShadow_5 : decode cX0_choiceShadow 5 = .ok (.iaload, 1) := by decide +kernel
theorem dX0_choiceShadow_6 : decode cX0_choiceShadow 6 = .ok (.iconst 1, 1) := by decide +kernel
theorem dX0_choiceShadow_7 : decode cX0_choiceShadow 7 = .ok (.iand, 1) := by decide +kernel
theorem dX0_choiceShadow_8 : decode cX0_choiceShadow 8 = .ok (.ifCond .eq 31, 3) := by decide +kernel
theorem dX0_choiceShadow_11 : decode cX0_choiceShadow 11 = .ok (.aload_n 0, 1) := by decide +kernel
theorem dX0_choiceShadow_12 : decode cX0_choiceShadow 12 = .ok (.getfield 15, 3) := by decide +kernel
theorem dX0_choiceShadow_15 : decode cX0_choiceShadow 15 = .ok (.iload_n 2, 1) := by decide +kernel
theorem dX0_choiceShadow_16 : decode cX0_choiceShadow 16 = .ok (.iaload, 1) := by decide +kernel
theorem dX0_choiceShadow_17 : decode cX0_choiceShadow 17 = .ok (.aload_n 0, 1) := by decide +kernel
theorem dX0_choiceShadow_18 : decode cX0_choiceShadow 18 = .ok (.getfield 15, 3) := by decide +kernel
theorem dX0_choiceShadow_21 : decode cX0_choiceShadow 21 = .ok (.iload_n 1, 1) := by decide +kernel
theorem dX0_choiceShadow_22 : decode cX0_choiceShadow 22 = .ok (.iaload, 1) := by decide +kernel
theorem dX0_choiceShadow_23 : decode cX0_choiceShadow 23 = .ok (.ior, 1) := by decide +kernel
theorem dX0_choiceShadow_24 : decode cX0_choiceShadow 24 = .ok (.aload_n 0, 1) := by decide +kernel
theorem dX0_choiceShadow_25 : decode cX0_choiceShadow 25 = .ok (.getfield 11, 3) := by decide +kernel
theorem dX0_choiceShadow_28 : decode cX0_choiceShadow 28 = .ok (.iload_n 2, 1) := by decide +kernel
theorem dX0_choiceShadow_29 : decode cX0_choiceShadow 29 = .ok (.iaload, 1) := by decide +kernel
theorem dX0_choiceShadow_30 : decode cX0_choiceShadow 30 = .ok (.aload_n 0, 1) := by decide +kernel
theorem dX0_choiceShadow_31 : decode cX0_choiceShadow 31 = .ok (.getfield 11, 3) := by decide +kernel
theorem dX0_choiceShadow_34 : decode cX0_choiceShadow 34 = .ok (.iload_n 1, 1) := by decide +kernel
theorem dX0_choiceShadow_35 : decode cX0_choiceShadow 35 = .ok (.iaload, 1) := by decide +kernel
theorem dX0_choiceShadow_36 : decode cX0_choiceShadow 36 = .ok (.ixor, 1) := by decide +kernel
theorem dX0_choiceShadow_37 : decode cX0_choiceShadow 37 = .ok (.ior, 1) := by decide +kernel
theorem dX0_choiceShadow_38 : decode cX0_choiceShadow 38 = .ok (.ireturn, 1) := by decide +kernel
theorem dX0_choiceShadow_39 : decode cX0_choiceShadow 39 = .ok (.aload_n 0, 1) := by decide +kernel
theorem dX0_choiceShadow_40 : decode cX0_choiceShadow 40 = .ok (.iload_n 3, 1) := by decide +kernel
theorem dX0_choiceShadow_41 : decode cX0_choiceShadow 41 = .ok (.invokevirtual 68, 3) := by decide +kernel
theorem dX0_choiceShadow_44 : decode cX0_choiceShadow 44 = .ok (.ifCond .eq 12, 3) := by decide +kernel
theorem dX0_choiceShadow_47 : decode cX0_choiceShadow 47 = .ok (.aload_n 0, 1) := by decide +kernel
theorem dX0_choiceShadow_48 : decode cX0_choiceShadow 48 = .ok (.getfield 15, 3) := by decide +kernel
theorem dX0_choiceShadow_51 : decode cX0_choiceShadow 51 = .ok (.iload_n 2, 1) := by decide +kernel
theorem dX0_choiceShadow_52 : decode cX0_choiceShadow 52 = .ok (.iaload, 1) := by decide +kernel
theorem dX0_choiceShadow_53 : decode cX0_choiceShadow 53 = .ok (.goto 9, 3) := by decide +kernel
theorem dX0_choiceShadow_56 : decode cX0_choiceShadow 56 = .ok (.aload_n 0, 1) := by decide +kernel
theorem dX0_choiceShadow_57 : decode cX0_choiceShadow 57 = .ok (.getfield 15, 3) := by decide +kernel
theorem dX0_choiceShadow_60 : decode cX0_choiceShadow 60 = .ok (.iload_n 1, 1) := by decide +kernel
theorem dX0_choiceShadow_61 : decode cX0_choiceShadow 61 = .ok (.iaload, 1) := by decide +kernel
theorem dX0_choiceShadow_62 : decode cX0_choiceShadow 62 = .ok (.ireturn, 1) := by decide +kernel
theorem dX0_shifted_0 : decode cX0_shifted 0 = .ok (.iload_n 0, 1) := by decide +kernel
theorem dX0_shifted_1 : decode cX0_shifted 1 = .ok (.lookupswitch 35 #[(5, 27), (6, 31)], 27) := by decide +kernel
theorem dX0_shifted_28 : decode cX0_shifted 28 = .ok (.iload_n 1, 1) := by decide +kernel
theorem dX0_shifted_29 : decode cX0_shifted 29 = .ok (.iload_n 2, 1) := by decide +kernel
theorem dX0_shifted_30 : decode cX0_shifted 30 = .ok (.ishl, 1) := by decide +kernel
theorem dX0_shifted_31 : decode cX0_shifted 31 = .ok (.ireturn, 1) := by decide +kernel
theorem dX0_shifted_32 : decode cX0_shifted 32 = .ok (.iload_n 1, 1) := by decide +kernel
theorem dX0_shifted_33 : decode cX0_shifted 33 = .ok (.iload_n 2, 1) := by decide +kernel
theorem dX0_shifted_34 : decode cX0_shifted 34 = .ok (.iushr, 1) := by decide +kernel
theorem dX0_shifted_35 : decode cX0_shifted 35 = .ok (.ireturn, 1) := by decide +kernel
theorem dX0_shifted_36 : decode cX0_shifted 36 = .ok (.iload_n 1, 1) := by decide +kernel
theorem dX0_shifted_37 : decode cX0_shifted 37 = .ok (.iload_n 2, 1) := by decide +kernel
theorem dX0_shifted_38 : decode cX0_shifted 38 = .ok (.ishr, 1) := by decide +kernel
theorem dX0_shifted_39 : decode cX0_shifted 39 = .ok (.ireturn, 1) := by decide +kernel
theorem dX0_widened_0 : decode cX0_widened 0 = .ok (.bipush 32, 2) := by decide +kernel
theorem dX0_widened_2 : decode cX0_widened 2 = .ok (.iload_n 1, 1) := by decide +kernel
theorem dX0_widened_3 : decode cX0_widened 3 = .ok (.bipush 8, 2) := by decide +kernel
theorem dX0_widened_5 : decode cX0_widened 5 = .ok (.imul, 1) := by decide +kernel
theorem dX0_widened_6 : decode cX0_widened 6 = .ok (.isub, 1) := by decide +kernel
theorem dX0_widened_7 : decode cX0_widened 7 = .ok (.istore_n 3, 1) := by decide +kernel
theorem dX0_widened_8 : decode cX0_widened 8 = .ok (.iload_n 2, 1) := by decide +kernel
theorem dX0_widened_9 : decode cX0_widened 9 = .ok (.ifCond .eq 11, 3) := by decide +kernel
theorem dX0_widened_12 : decode cX0_widened 12 = .ok (.iload_n 0, 1) := by decide +kernel
theorem dX0_widened_13 : decode cX0_widened 13 = .ok (.iload_n 3, 1) := by decide +kernel
theorem dX0_widened_14 : decode cX0_widened 14 = .ok (.ishl, 1) := by decide +kernel
theorem dX0_widened_15 : decode cX0_widened 15 = .ok (.iload_n 3, 1) := by decide +kernel
theorem dX0_widened_16 : decode cX0_widened 16 = .ok (.ishr, 1) := by decide +kernel
theorem dX0_widened_17 : decode cX0_widened 17 = .ok (.goto 8, 3) := by decide +kernel
theorem dX0_widened_20 : decode cX0_widened 20 = .ok (.iload_n 0, 1) := by decide +kernel
theorem dX0_widened_21 : decode cX0_widened 21 = .ok (.iload_n 3, 1) := by decide +kernel
theorem dX0_widened_22 : decode cX0_widened 22 = .ok (.ishl, 1) := by decide +kernel
theorem dX0_widened_23 : decode cX0_widened 23 = .ok (.iload_n 3, 1) := by decide +kernel
theorem dX0_widened_24 : decode cX0_widened 24 = .ok (.iushr, 1) := by decide +kernel
theorem dX0_widened_25 : decode cX0_widened 25 = .ok (.ireturn, 1) := by decide +kernel
theorem dX0_fromPlaceOn_0 : decode cX0_fromPlaceOn 0 = .ok (.iload_n 0, 1) := by decide +kernel
theorem dX0_fromPlaceOn_1 : decode cX0_fromPlaceOn 1 = .ok (.bipush 32, 2) := by decide +kernel
theorem dX0_fromPlaceOn_3 : decode cX0_fromPlaceOn 3 = .ok (.if_icmp .lt 7, 3) := by decide +kernel
theorem dX0_fromPlaceOn_6 : decode cX0_fromPlaceOn 6 = .ok (.iconst 0, 1) := by decide +kernel
theorem dX0_fromPlaceOn_7 : decode cX0_fromPlaceOn 7 = .ok (.goto 6, 3) := by decide +kernel
theorem dX0_fromPlaceOn_10 : decode cX0_fromPlaceOn 10 = .ok (.iconst (-1), 1) := by decide +kernel
theorem dX0_fromPlaceOn_11 : decode cX0_fromPlaceOn 11 = .ok (.iload_n 0, 1) := by decide +kernel
theorem dX0_fromPlaceOn_12 : decode cX0_fromPlaceOn 12 = .ok (.ishl, 1) := by decide +kernel
theorem dX0_fromPlaceOn_13 : decode cX0_fromPlaceOn 13 = .ok (.ireturn, 1) := by decide +kernel
theorem dX0_placeLostBy_0 : decode cX0_placeLostBy 0 = .ok (.iload_n 0, 1) := by decide +kernel
theorem dX0_placeLostBy_1 : decode cX0_placeLostBy 1 = .ok (.invokestatic 72, 3) := by decide +kernel
theorem dX0_placeLostBy_4 : decode cX0_placeLostBy 4 = .ok (.iload_n 1, 1) := by decide +kernel
theorem dX0_placeLostBy_5 : decode cX0_placeLostBy 5 = .ok (.iload_n 2, 1) := by decide +kernel
theorem dX0_placeLostBy_6 : decode cX0_placeLostBy 6 = .ok (.ior, 1) := by decide +kernel
theorem dX0_placeLostBy_7 : decode cX0_placeLostBy 7 = .ok (.invokestatic 72, 3) := by decide +kernel
theorem dX0_placeLostBy_10 : decode cX0_placeLostBy 10 = .ok (.iadd, 1) := by decide +kernel
theorem dX0_placeLostBy_11 : decode cX0_placeLostBy 11 = .ok (.ireturn, 1) := by decide +kernel
theorem dX0_signTurned_0 : decode cX0_signTurned 0 = .ok (.iload_n 0, 1) := by decide +kernel
theorem dX0_signTurned_1 : decode cX0_signTurned 1 = .ok (.ldc 97, 2) := by decide +kernel
theorem dX0_signTurned_3 : decode cX0_signTurned 3 = .ok (.ixor, 1) := by decide +kernel
theorem dX0_signTurned_4 : decode cX0_signTurned 4 = .ok (.ireturn, 1) := by decide +kernel
theorem dX0_orderHangs_0 : decode cX0_orderHangs 0 = .ok (.iload_n 0, 1) := by decide +kernel
theorem dX0_orderHangs_1 : decode cX0_orderHangs 1 = .ok (.iload_n 1, 1) := by decide +kernel
theorem dX0_orderHangs_2 : decode cX0_orderHangs 2 = .ok (.invokestatic 43, 3) := by decide +kernel
theorem dX0_orderHangs_5 : decode cX0_orderHangs 5 = .ok (.iload_n 2, 1) := by decide +kernel
theorem dX0_orderHangs_6 : decode cX0_orderHangs 6 = .ok (.iload_n 3, 1) := by decide +kernel
theorem dX0_orderHangs_7 : decode cX0_orderHangs 7 = .ok (.invokestatic 47, 3) := by decide +kernel
theorem dX0_orderHangs_10 : decode cX0_orderHangs 10 = .ok (.if_icmp .ge 7, 3) := by decide +kernel
theorem dX0_orderHangs_13 : decode cX0_orderHangs 13 = .ok (.iconst 1, 1) := by decide +kernel
theorem dX0_orderHangs_14 : decode cX0_orderHangs 14 = .ok (.goto 4, 3) := by decide +kernel
theorem dX0_orderHangs_17 : decode cX0_orderHangs 17 = .ok (.iconst 0, 1) := by decide +kernel
theorem dX0_orderHangs_18 : decode cX0_orderHangs 18 = .ok (.istore 4, 2) := by decide +kernel
theorem dX0_orderHangs_20 : decode cX0_orderHangs 20 = .ok (.iload_n 0, 1) := by decide +kernel
theorem dX0_orderHangs_21 : decode cX0_orderHangs 21 = .ok (.iload_n 1, 1) := by decide +kernel
theorem dX0_orderHangs_22 : decode cX0_orderHangs 22 = .ok (.invokestatic 47, 3) := by decide +kernel
theorem dX0_orderHangs_25 : decode cX0_orderHangs 25 = .ok (.iload_n 2, 1) := by decide +kernel
theorem dX0_orderHangs_26 : decode cX0_orderHangs 26 = .ok (.iload_n 3, 1) := by decide +kernel
theorem dX0_orderHangs_27 : decode cX0_orderHangs 27 = .ok (.invokestatic 43, 3) := by decide +kernel
theorem dX0_orderHangs_30 : decode cX0_orderHangs 30 = .ok (.if_icmp .lt 7, 3) := by decide +kernel
theorem dX0_orderHangs_33 : decode cX0_orderHangs 33 = .ok (.iconst 1, 1) := by decide +kernel
theorem dX0_orderHangs_34 : decode cX0_orderHangs 34 = .ok (.goto 4, 3) := by decide +kernel
theorem dX0_orderHangs_37 : decode cX0_orderHangs 37 = .ok (.iconst 0, 1) := by decide +kernel
theorem dX0_orderHangs_38 : decode cX0_orderHangs 38 = .ok (.istore 5, 2) := by decide +kernel
theorem dX0_orderHangs_40 : decode cX0_orderHangs 40 = .ok (.iload 4, 2) := by decide +kernel
theorem dX0_orderHangs_42 : decode cX0_orderHangs 42 = .ok (.ifCond .eq 12, 3) := by decide +kernel
theorem dX0_orderHangs_45 : decode cX0_orderHangs 45 = .ok (.iload 5, 2) := by decide +kernel
theorem dX0_orderHangs_47 : decode cX0_orderHangs 47 = .ok (.ifCond .eq 7, 3) := by decide +kernel
theorem dX0_orderHangs_50 : decode cX0_orderHangs 50 = .ok (.iconst 1, 1) := by decide +kernel
theorem dX0_orderHangs_51 : decode cX0_orderHangs 51 = .ok (.goto 4, 3) := by decide +kernel
theorem dX0_orderHangs_54 : decode cX0_orderHangs 54 = .ok (.iconst 0, 1) := by decide +kernel
theorem dX0_orderHangs_55 : decode cX0_orderHangs 55 = .ok (.ireturn, 1) := by decide +kernel
theorem dX0_samenessHangs_0 : decode cX0_samenessHangs 0 = .ok (.iload_n 2, 1) := by decide +kernel
theorem dX0_samenessHangs_1 : decode cX0_samenessHangs 1 = .ok (.ifCond .eq 17, 3) := by decide +kernel
theorem dX0_samenessHangs_4 : decode cX0_samenessHangs 4 = .ok (.iload_n 0, 1) := by decide +kernel
theorem dX0_samenessHangs_5 : decode cX0_samenessHangs 5 = .ok (.iload_n 1, 1) := by decide +kernel
theorem dX0_samenessHangs_6 : decode cX0_samenessHangs 6 = .ok (.ixor, 1) := by decide +kernel
theorem dX0_samenessHangs_7 : decode cX0_samenessHangs 7 = .ok (.iload_n 2, 1) := by decide +kernel
theorem dX0_samenessHangs_8 : decode cX0_samenessHangs 8 = .ok (.iconst (-1), 1) := by decide +kernel
theorem dX0_samenessHangs_9 : decode cX0_samenessHangs 9 = .ok (.ixor, 1) := by decide +kernel
theorem dX0_samenessHangs_10 : decode cX0_samenessHangs 10 = .ok (.iand, 1) := by decide +kernel
theorem dX0_samenessHangs_11 : decode cX0_samenessHangs 11 = .ok (.ifCond .ne 7, 3) := by decide +kernel
theorem dX0_samenessHangs_14 : decode cX0_samenessHangs 14 = .ok (.iconst 1, 1) := by decide +kernel
theorem dX0_samenessHangs_15 : decode cX0_samenessHangs 15 = .ok (.goto 4, 3) := by decide +kernel
theorem dX0_samenessHangs_18 : decode cX0_samenessHangs 18 = .ok (.iconst 0, 1) := by decide +kernel
theorem dX0_samenessHangs_19 : decode cX0_samenessHangs 19 = .ok (.ireturn, 1) := by decide +kernel
theorem dX0_lowEnd_0 : decode cX0_lowEnd 0 = .ok (.iload_n 0, 1) := by decide +kernel
theorem dX0_lowEnd_1 : decode cX0_lowEnd 1 = .ok (.iload_n 1, 1) := by decide +kernel
theorem dX0_lowEnd_2 : decode cX0_lowEnd 2 = .ok (.iconst (-1), 1) := by decide +kernel
theorem dX0_lowEnd_3 : decode cX0_lowEnd 3 = .ok (.ixor, 1) := by decide +kernel
theorem dX0_lowEnd_4 : decode cX0_lowEnd 4 = .ok (.iand, 1) := by decide +kernel
theorem dX0_lowEnd_5 : decode cX0_lowEnd 5 = .ok (.iload_n 1, 1) := by decide +kernel
theorem dX0_lowEnd_6 : decode cX0_lowEnd 6 = .ok (.ldc 97, 2) := by decide +kernel
theorem dX0_lowEnd_8 : decode cX0_lowEnd 8 = .ok (.iand, 1) := by decide +kernel
theorem dX0_lowEnd_9 : decode cX0_lowEnd 9 = .ok (.ior, 1) := by decide +kernel
theorem dX0_lowEnd_10 : decode cX0_lowEnd 10 = .ok (.ireturn, 1) := by decide +kernel
theorem dX0_highEnd_0 : decode cX0_highEnd 0 = .ok (.iload_n 0, 1) := by decide +kernel
theorem dX0_highEnd_1 : decode cX0_highEnd 1 = .ok (.iload_n 1, 1) := by decide +kernel
theorem dX0_highEnd_2 : decode cX0_highEnd 2 = .ok (.iconst (-1), 1) := by decide +kernel
theorem dX0_highEnd_3 : decode cX0_highEnd 3 = .ok (.ixor, 1) := by decide +kernel
theorem dX0_highEnd_4 : decode cX0_highEnd 4 = .ok (.iand, 1) := by decide +kernel
theorem dX0_highEnd_5 : decode cX0_highEnd 5 = .ok (.iload_n 1, 1) := by decide +kernel
theorem dX0_highEnd_6 : decode cX0_highEnd 6 = .ok (.ldc 98, 2) := by decide +kernel
theorem dX0_highEnd_8 : decode cX0_highEnd 8 = .ok (.iand, 1) := by decide +kernel
theorem dX0_highEnd_9 : decode cX0_highEnd 9 = .ok (.ior, 1) := by decide +kernel
theorem dX0_highEnd_10 : decode cX0_highEnd 10 = .ok (.ireturn, 1) := by decide +kernel
theorem dX0_bit_0 : decode cX0_bit 0 = .ok (.iload_n 0, 1) := by decide +kernel
theorem dX0_bit_1 : decode cX0_bit 1 = .ok (.ifCond .eq 7, 3) := by decide +kernel
theorem dX0_bit_4 : decode cX0_bit 4 = .ok (.iconst 1, 1) := by decide +kernel
theorem dX0_bit_5 : decode cX0_bit 5 = .ok (.goto 4, 3) := by decide +kernel
theorem dX0_bit_8 : decode cX0_bit 8 = .ok (.iconst 0, 1) := by decide +kernel
theorem dX0_bit_9 : decode cX0_bit 9 = .ok (.ireturn, 1) := by decide +kernel
end
section
theorem dX1_init_0 : decode cX1_init 0 = .ok (.aload_n 0, 1) := by decide +kernel
theorem dX1_init_1 : decode cX1_init 1 = .ok (.invokespecial 1, 3) := by decide +kernel
theorem dX1_init_4 : decode cX1_init 4 = .ok (.aload_n 0, 1) := by decide +kernel
theorem dX1_init_5 : decode cX1_init 5 = .ok (.sipush 512, 3) := by decide +kernel
theorem dX1_init_8 : decode cX1_init 8 = .ok (.newarray .boolean, 2) := by decide +kernel
theorem dX1_init_10 : decode cX1_init 10 = .ok (.putfield 7, 3) := by decide +kernel
theorem dX1_init_13 : decode cX1_init 13 = .ok (.aload_n 0, 1) := by decide +kernel
theorem dX1_init_14 : decode cX1_init 14 = .ok (.sipush 512, 3) := by decide +kernel
theorem dX1_init_17 : decode cX1_init 17 = .ok (.newarray .boolean, 2) := by decide +kernel
theorem dX1_init_19 : decode cX1_init 19 = .ok (.putfield 13, 3) := by decide +kernel
theorem dX1_init_22 : decode cX1_init 22 = .ok (.aload_n 0, 1) := by decide +kernel
theorem dX1_init_23 : decode cX1_init 23 = .ok (.sipush 2048, 3) := by decide +kernel
theorem dX1_init_26 : decode cX1_init 26 = .ok (.newarray .boolean, 2) := by decide +kernel
theorem dX1_init_28 : decode cX1_init 28 = .ok (.putfield 16, 3) := by decide +kernel
theorem dX1_init_31 : decode cX1_init 31 = .ok (.aload_n 0, 1) := by decide +kernel
theorem dX1_init_32 : decode cX1_init 32 = .ok (.sipush 2048, 3) := by decide +kernel
theorem dX1_init_35 : decode cX1_init 35 = .ok (.newarray .boolean, 2) := by decide +kernel
theorem dX1_init_37 : decode cX1_init 37 = .ok (.putfield 19, 3) := by decide +kernel
theorem dX1_init_40 : decode cX1_init 40 = .ok (.aload_n 0, 1) := by decide +kernel
theorem dX1_init_41 : decode cX1_init 41 = .ok (.bipush 32, 2) := by decide +kernel
theorem dX1_init_43 : decode cX1_init 43 = .ok (.newarray .boolean, 2) := by decide +kernel
theorem dX1_init_45 : decode cX1_init 45 = .ok (.putfield 22, 3) := by decide +kernel
theorem dX1_init_48 : decode cX1_init 48 = .ok (.aload_n 0, 1) := by decide +kernel
theorem dX1_init_49 : decode cX1_init 49 = .ok (.bipush 32, 2) := by decide +kernel
theorem dX1_init_51 : decode cX1_init 51 = .ok (.newarray .boolean, 2) := by decide +kernel
theorem dX1_init_53 : decode cX1_init 53 = .ok (.putfield 25, 3) := by decide +kernel
theorem dX1_init_56 : decode cX1_init 56 = .ok (.return_, 1) := by decide +kernel
theorem dX1_thrown_0 : decode cX1_thrown 0 = .ok (.aload_n 0, 1) := by decide +kernel
theorem dX1_thrown_1 : decode cX1_thrown 1 = .ok (.getfield 28, 3) := by decide +kernel
theorem dX1_thrown_4 : decode cX1_thrown 4 = .ok (.ireturn, 1) := by decide +kernel
theorem dX1_fails_0 : decode cX1_fails 0 = .ok (.aload_n 0, 1) := by decide +kernel
theorem dX1_fails_1 : decode cX1_fails 1 = .ok (.iload_n 1, 1) := by decide +kernel
theorem dX1_fails_2 : decode cX1_fails 2 = .ok (.ifCond .eq 7, 3) := by decide +kernel
theorem dX1_fails_5 : decode cX1_fails 5 = .ok (.iload_n 2, 1) := by decide +kernel
theorem dX1_fails_6 : decode cX1_fails 6 = .ok (.goto 4, 3) := by decide +kernel
theorem dX1_fails_9 : decode cX1_fails 9 = .ok (.iconst 0, 1) := by decide +kernel
theorem dX1_fails_10 : decode cX1_fails 10 = .ok (.putfield 28, 3) := by decide +kernel
theorem dX1_fails_13 : decode cX1_fails 13 = .ok (.iload_n 1, 1) := by decide +kernel
theorem dX1_fails_14 : decode cX1_fails 14 = .ok (.ireturn, 1) := by decide +kernel
theorem dX1_none_0 : decode cX1_none 0 = .ok (.iload_n 0, 1) := by decide +kernel
theorem dX1_none_1 : decode cX1_none 1 = .ok (.ifCond .lt 9, 3) := by decide +kernel
theorem dX1_none_4 : decode cX1_none 4 = .ok (.iload_n 0, 1) := by decide +kernel
theorem dX1_none_5 : decode cX1_none 5 = .ok (.bipush 16, 2) := by decide +kernel
theorem dX1_none_7 : decode cX1_none 7 = .ok (.if_icmp .lt 7, 3) := by decide +kernel
theorem dX1_none_10 : decode cX1_none 10 = .ok (.iconst 1, 1) := by decide +kernel
theorem dX1_none_11 : decode cX1_none 11 = .ok (.goto 4, 3) := by decide +kernel
theorem dX1_none_14 : decode cX1_none 14 = .ok (.iconst 0, 1) := by decide +kernel
theorem dX1_none_15 : decode cX1_none 15 = .ok (.ireturn, 1) := by decide +kernel
theorem dX1_number_0 : decode cX1_number 0 = .ok (.iconst 0, 1) := by decide +kernel
theorem dX1_number_1 : decode cX1_number 1 = .ok (.istore_n 2, 1) := by decide +kernel
theorem dX1_number_2 : decode cX1_number 2 = .ok (.iconst 0, 1) := by decide +kernel
theorem dX1_number_3 : decode cX1_number 3 = .ok (.istore_n 3, 1) := by decide +kernel
theorem dX1_number_4 : decode cX1_number 4 = .ok (.iload_n 3, 1) := by decide +kernel
theorem dX1_number_5 : decode cX1_number 5 = .ok (.bipush 32, 2) := by decide +kernel
theorem dX1_number_7 : decode cX1_number 7 = .ok (.if_icmp .ge 29, 3) := by decide +kernel
theorem dX1_number_10 : decode cX1_number 10 = .ok (.aload_n 0, 1) := by decide +kernel
theorem dX1_number_11 : decode cX1_number 11 = .ok (.getfield 7, 3) := by decide +kernel
theorem dX1_number_14 : decode cX1_number 14 = .ok (.bipush 32, 2) := by decide +kernel
theorem dX1_number_16 : decode cX1_number 16 = .ok (.iload_n 1, 1) := by decide +kernel
theorem dX1_number_17 : decode cX1_number 17 = .ok (.imul, 1) := by decide +kernel
theorem dX1_number_18 : decode cX1_number 18 = .ok (.iload_n 3, 1) := by decide +kernel
theorem dX1_number_19 : decode cX1_number 19 = .ok (.iadd, 1) := by decide +kernel
theorem dX1_number_20 : decode cX1_number 20 = .ok (.baload, 1) := by decide +kernel
theorem dX1_number_21 : decode cX1_number 21 = .ok (.ifCond .eq 9, 3) := by decide +kernel
theorem dX1_number_24 : decode cX1_number 24 = .ok (.iload_n 2, 1) := by decide +kernel
theorem dX1_number_25 : decode cX1_number 25 = .ok (.iconst 1, 1) := by decide +kernel
theorem dX1_number_26 : decode cX1_number 26 = .ok (.iload_n 3, 1) := by decide +kernel
theorem dX1_number_27 : decode cX1_number 27 = .ok (.ishl, 1) := by decide +kernel
theorem dX1_number_28 : decode cX1_number 28 = .ok (.ior, 1) := by decide +kernel
theorem dX1_number_29 : decode cX1_number 29 = .ok (.istore_n 2, 1) := by decide +kernel
theorem dX1_number_30 : decode cX1_number 30 = .ok (.iinc 3 1, 3) := by decide +kernel
theorem dX1_number_33 : decode cX1_number 33 = .ok (.goto (-29), 3) := by decide +kernel
theorem dX1_number_36 : decode cX1_number 36 = .ok (.iload_n 2, 1) := by decide +kernel
theorem dX1_number_37 : decode cX1_number 37 = .ok (.ireturn, 1) := by decide +kernel
theorem dX1_give_0 : decode cX1_give 0 = .ok (.iconst 0, 1) := by decide +kernel
theorem dX1_give_1 : decode cX1_give 1 = .ok (.istore_n 2, 1) := by decide +kernel
theorem dX1_give_2 : decode cX1_give 2 = .ok (.iload_n 2, 1) := by decide +kernel
theorem dX1_give_3 : decode cX1_give 3 = .ok (.bipush 32, 2) := by decide +kernel
theorem dX1_give_5 : decode cX1_give 5 = .ok (.if_icmp .ge 43, 3) := by decide +kernel
theorem dX1_give_8 : decode cX1_give 8 = .ok (.aload_n 0, 1) := by decide +kernel
theorem dX1_give_9 : decode cX1_give 9 = .ok (.getfield 7, 3) := by decide +kernel
theorem dX1_give_12 : decode cX1_give 12 = .ok (.bipush 32, 2) := by decide +kernel
theorem dX1_give_14 : decode cX1_give 14 = .ok (.iload_n 1, 1) := by decide +kernel
theorem dX1_give_15 : decode cX1_give 15 = .ok (.imul, 1) := by decide +kernel
theorem dX1_give_16 : decode cX1_give 16 = .ok (.iload_n 2, 1) := by decide +kernel
theorem dX1_give_17 : decode cX1_give 17 = .ok (.iadd, 1) := by decide +kernel
theorem dX1_give_18 : decode cX1_give 18 = .ok (.aload_n 0, 1) := by decide +kernel
theorem dX1_give_19 : decode cX1_give 19 = .ok (.getfield 22, 3) := by decide +kernel
theorem dX1_give_22 : decode cX1_give 22 = .ok (.iload_n 2, 1) := by decide +kernel
theorem dX1_give_23 : decode cX1_give 23 = .ok (.baload, 1) := by decide +kernel
theorem dX1_give_24 : decode cX1_give 24 = .ok (.bastore, 1) := by decide +kernel
theorem dX1_give_25 : decode cX1_give 25 = .ok (.aload_n 0, 1) := by decide +kernel
theorem dX1_give_26 : decode cX1_give 26 = .ok (.getfield 13, 3) := by decide +kernel
theorem dX1_give_29 : decode cX1_give 29 = .ok (.bipush 32, 2) := by decide +kernel
theorem dX1_give_31 : decode cX1_give 31 = .ok (.iload_n 1, 1) := by decide +kernel
theorem dX1_give_32 : decode cX1_give 32 = .ok (.imul, 1) := by decide +kernel
theorem dX1_give_33 : decode cX1_give 33 = .ok (.iload_n 2, 1) := by decide +kernel
theorem dX1_give_34 : decode cX1_give 34 = .ok (.iadd, 1) := by decide +kernel
theorem dX1_give_35 : decode cX1_give 35 = .ok (.aload_n 0, 1) := by decide +kernel
theorem dX1_give_36 : decode cX1_give 36 = .ok (.getfield 25, 3) := by decide +kernel
theorem dX1_give_39 : decode cX1_give 39 = .ok (.iload_n 2, 1) := by decide +kernel
theorem dX1_give_40 : decode cX1_give 40 = .ok (.baload, 1) := by decide +kernel
theorem dX1_give_41 : decode cX1_give 41 = .ok (.bastore, 1) := by decide +kernel
theorem dX1_give_42 : decode cX1_give 42 = .ok (.iinc 2 1, 3) := by decide +kernel
theorem dX1_give_45 : decode cX1_give 45 = .ok (.goto (-43), 3) := by decide +kernel
theorem dX1_give_48 : decode cX1_give 48 = .ok (.return_, 1) := by decide +kernel
theorem dX1_make_0 : decode cX1_make 0 = .ok (.iconst 0, 1) := by decide +kernel
theorem dX1_make_1 : decode cX1_make 1 = .ok (.istore_n 2, 1) := by decide +kernel
theorem dX1_make_2 : decode cX1_make 2 = .ok (.iload_n 2, 1) := by decide +kernel
theorem dX1_make_3 : decode cX1_make 3 = .ok (.bipush 32, 2) := by decide +kernel
theorem dX1_make_5 : decode cX1_make 5 = .ok (.if_icmp .ge 36, 3) := by decide +kernel
theorem dX1_make_8 : decode cX1_make 8 = .ok (.aload_n 0, 1) := by decide +kernel
theorem dX1_make_9 : decode cX1_make 9 = .ok (.getfield 22, 3) := by decide +kernel
theorem dX1_make_12 : decode cX1_make 12 = .ok (.iload_n 2, 1) := by decide +kernel
theorem dX1_make_13 : decode cX1_make 13 = .ok (.iload_n 1, 1) := by decide +kernel
theorem dX1_make_14 : decode cX1_make 14 = .ok (.iload_n 2, 1) := by decide +kernel
theorem dX1_make_15 : decode cX1_make 15 = .ok (.ishr, 1) := by decide +kernel
theorem dX1_make_16 : decode cX1_make 16 = .ok (.iconst 1, 1) := by decide +kernel
theorem dX1_make_17 : decode cX1_make 17 = .ok (.iand, 1) := by decide +kernel
theorem dX1_make_18 : decode cX1_make 18 = .ok (.iconst 1, 1) := by decide +kernel
theorem dX1_make_19 : decode cX1_make 19 = .ok (.if_icmp .ne 7, 3) := by decide +kernel
theorem dX1_make_22 : decode cX1_make 22 = .ok (.iconst 1, 1) := by decide +kernel
theorem dX1_make_23 : decode cX1_make 23 = .ok (.goto 4, 3) := by decide +kernel
theorem dX1_make_26 : decode cX1_make 26 = .ok (.iconst 0, 1) := by decide +kernel
theorem dX1_make_27 : decode cX1_make 27 = .ok (.bastore, 1) := by decide +kernel
theorem dX1_make_28 : decode cX1_make 28 = .ok (.aload_n 0, 1) := by decide +kernel
theorem dX1_make_29 : decode cX1_make 29 = .ok (.getfield 25, 3) := by decide +kernel
theorem dX1_make_32 : decode cX1_make 32 = .ok (.iload_n 2, 1) := by decide +kernel
theorem dX1_make_33 : decode cX1_make 33 = .ok (.iconst 0, 1) := by decide +kernel
theorem dX1_make_34 : decode cX1_make 34 = .ok (.bastore, 1) := by decide +kernel
theorem dX1_make_35 : decode cX1_make 35 = .ok (.iinc 2 1, 3) := by decide +kernel
theorem dX1_make_38 : decode cX1_make 38 = .ok (.goto (-36), 3) := by decide +kernel
theorem dX1_make_41 : decode cX1_make 41 = .ok (.return_, 1) := by decide +kernel
theorem dX1_set_0 : decode cX1_set 0 = .ok (.aload_n 0, 1) := by decide +kernel
theorem dX1_set_1 : decode cX1_set 1 = .ok (.iload_n 1, 1) := by decide +kernel
theorem dX1_set_2 : decode cX1_set 2 = .ok (.invokestatic 32, 3) := by decide +kernel
theorem dX1_set_5 : decode cX1_set 5 = .ok (.iconst 1, 1) := by decide +kernel
theorem dX1_set_6 : decode cX1_set 6 = .ok (.invokevirtual 36, 3) := by decide +kernel
theorem dX1_set_9 : decode cX1_set 9 = .ok (.ifCond .eq 4, 3) := by decide +kernel
theorem dX1_set_12 : decode cX1_set 12 = .ok (.return_, 1) := by decide +kernel
theorem dX1_set_13 : decode cX1_set 13 = .ok (.aload_n 0, 1) := by decide +kernel
theorem dX1_set_14 : decode cX1_set 14 = .ok (.iload_n 2, 1) := by decide +kernel
theorem dX1_set_15 : decode cX1_set 15 = .ok (.invokevirtual 40, 3) := by decide +kernel
theorem dX1_set_18 : decode cX1_set 18 = .ok (.iconst 0, 1) := by decide +kernel
theorem dX1_set_19 : decode cX1_set 19 = .ok (.istore 4, 2) := by decide +kernel
theorem dX1_set_21 : decode cX1_set 21 = .ok (.iload 4, 2) := by decide +kernel
theorem dX1_set_23 : decode cX1_set 23 = .ok (.bipush 32, 2) := by decide +kernel
theorem dX1_set_25 : decode cX1_set 25 = .ok (.if_icmp .ge 31, 3) := by decide +kernel
theorem dX1_set_28 : decode cX1_set 28 = .ok (.aload_n 0, 1) := by decide +kernel
theorem dX1_set_29 : decode cX1_set 29 = .ok (.getfield 25, 3) := by decide +kernel
theorem dX1_set_32 : decode cX1_set 32 = .ok (.iload 4, 2) := by decide +kernel
theorem dX1_set_34 : decode cX1_set 34 = .ok (.iload_n 3, 1) := by decide +kernel
theorem dX1_set_35 : decode cX1_set 35 = .ok (.iload 4, 2) := by decide +kernel
theorem dX1_set_37 : decode cX1_set 37 = .ok (.ishr, 1) := by decide +kernel
theorem dX1_set_38 : decode cX1_set 38 = .ok (.iconst 1, 1) := by decide +kernel
theorem dX1_set_39 : decode cX1_set 39 = .ok (.iand, 1) := by decide +kernel
theorem dX1_set_40 : decode cX1_set 40 = .ok (.iconst 1, 1) := by decide +kernel
theorem dX1_set_41 : decode cX1_set 41 = .ok (.if_icmp .ne 7, 3) := by decide +kernel
theorem dX1_set_44 : decode cX1_set 44 = .ok (.iconst 1, 1) := by decide +kernel
theorem dX1_set_45 : decode cX1_set 45 = .ok (.goto 4, 3) := by decide +kernel
theorem dX1_set_48 : decode cX1_set 48 = .ok (.iconst 0, 1) := by decide +kernel
theorem dX1_set_49 : decode cX1_set 49 = .ok (.bastore, 1) := by decide +kernel
theorem dX1_set_50 : decode cX1_set 50 = .ok (.iinc 4 1, 3) := by decide +kernel
theorem dX1_set_53 : decode cX1_set 53 = .ok (.goto (-32), 3) := by decide +kernel
theorem dX1_set_56 : decode cX1_set 56 = .ok (.aload_n 0, 1) := by decide +kernel
theorem dX1_set_57 : decode cX1_set 57 = .ok (.iload_n 1, 1) := by decide +kernel
theorem dX1_set_58 : decode cX1_set 58 = .ok (.invokevirtual 44, 3) := by decide +kernel
theorem dX1_set_61 : decode cX1_set 61 = .ok (.return_, 1) := by decide +kernel
theorem dX1_is_0 : decode cX1_is 0 = .ok (.aload_n 0, 1) := by decide +kernel
theorem dX1_is_1 : decode cX1_is 1 = .ok (.getfield 7, 3) := by decide +kernel
theorem dX1_is_4 : decode cX1_is 4 = .ok (.bipush 32, 2) := by decide +kernel
theorem dX1_is_6 : decode cX1_is 6 = .ok (.iload_n 1, 1) := by decide +kernel
theorem dX1_is_7 : decode cX1_is 7 = .ok (.imul, 1) := by decide +kernel
theorem dX1_is_8 : decode cX1_is 8 = .ok (.iload_n 2, 1) := by decide +kernel
theorem dX1_is_9 : decode cX1_is 9 = .ok (.iadd, 1) := by decide +kernel
theorem dX1_is_10 : decode cX1_is 10 = .ok (.baload, 1) := by decide +kernel
theorem dX1_is_11 : decode cX1_is 11 = .ok (.ireturn, 1) := by decide +kernel
theorem dX1_un_0 : decode cX1_un 0 = .ok (.aload_n 0, 1) := by decide +kernel
theorem dX1_un_1 : decode cX1_un 1 = .ok (.getfield 13, 3) := by decide +kernel
theorem dX1_un_4 : decode cX1_un 4 = .ok (.bipush 32, 2) := by decide +kernel
theorem dX1_un_6 : decode cX1_un 6 = .ok (.iload_n 1, 1) := by decide +kernel
theorem dX1_un_7 : decode cX1_un 7 = .ok (.imul, 1) := by decide +kernel
theorem dX1_un_8 : decode cX1_un 8 = .ok (.iload_n 2, 1) := by decide +kernel
theorem dX1_un_9 : decode cX1_un 9 = .ok (.iadd, 1) := by decide +kernel
theorem dX1_un_10 : decode cX1_un 10 = .ok (.baload, 1) := by decide +kernel
theorem dX1_un_11 : decode cX1_un 11 = .ok (.ireturn, 1) := by decide +kernel
theorem dX1_lowest_0 : decode cX1_lowest 0 = .ok (.iconst 0, 1) := by decide +kernel
theorem dX1_lowest_1 : decode cX1_lowest 1 = .ok (.istore_n 2, 1) := by decide +kernel
theorem dX1_lowest_2 : decode cX1_lowest 2 = .ok (.iload_n 2, 1) := by decide +kernel
theorem dX1_lowest_3 : decode cX1_lowest 3 = .ok (.bipush 32, 2) := by decide +kernel
theorem dX1_lowest_5 : decode cX1_lowest 5 = .ok (.if_icmp .ge 18, 3) := by decide +kernel
theorem dX1_lowest_8 : decode cX1_lowest 8 = .ok (.aload_n 0, 1) := by decide +kernel
theorem dX1_lowest_9 : decode cX1_lowest 9 = .ok (.iload_n 1, 1) := by decide +kernel
theorem dX1_lowest_10 : decode cX1_lowest 10 = .ok (.iload_n 2, 1) := by decide +kernel
theorem dX1_lowest_11 : decode cX1_lowest 11 = .ok (.invokevirtual 47, 3) := by decide +kernel
theorem dX1_lowest_14 : decode cX1_lowest 14 = .ok (.ifCond .ne 9, 3) := by decide +kernel
theorem dX1_lowest_17 : decode cX1_lowest 17 = .ok (.iinc 2 1, 3) := by decide +kernel
theorem dX1_lowest_20 : decode cX1_lowest 20 = .ok (.goto (-18), 3) := by decide +kernel
theorem dX1_lowest_23 : decode cX1_lowest 23 = .ok (.iload_n 2, 1) := by decide +kernel
theorem dX1_lowest_24 : decode cX1_lowest 24 = .ok (.ireturn, 1) := by decide +kernel
theorem dX1_noughts_0 : decode cX1_noughts 0 = .ok (.iconst 0, 1) := by decide +kernel
theorem dX1_noughts_1 : decode cX1_noughts 1 = .ok (.istore_n 2, 1) := by decide +kernel
theorem dX1_noughts_2 : decode cX1_noughts 2 = .ok (.iload_n 2, 1) := by decide +kernel
theorem dX1_noughts_3 : decode cX1_noughts 3 = .ok (.bipush 32, 2) := by decide +kernel
theorem dX1_noughts_5 : decode cX1_noughts 5 = .ok (.if_icmp .ge 27, 3) := by decide +kernel
theorem dX1_noughts_8 : decode cX1_noughts 8 = .ok (.aload_n 0, 1) := by decide +kernel
theorem dX1_noughts_9 : decode cX1_noughts 9 = .ok (.iload_n 1, 1) := by decide +kernel
theorem dX1_noughts_10 : decode cX1_noughts 10 = .ok (.iload_n 2, 1) := by decide +kernel
theorem dX1_noughts_11 : decode cX1_noughts 11 = .ok (.invokevirtual 47, 3) := by decide +kernel
theorem dX1_noughts_14 : decode cX1_noughts 14 = .ok (.ifCond .ne 18, 3) := by decide +kernel
theorem dX1_noughts_17 : decode cX1_noughts 17 = .ok (.aload_n 0, 1) := by decide +kernel
theorem dX1_noughts_18 : decode cX1_noughts 18 = .ok (.iload_n 1, 1) := by decide +kernel
theorem dX1_noughts_19 : decode cX1_noughts 19 = .ok (.iload_n 2, 1) := by decide +kernel
theorem dX1_noughts_20 : decode cX1_noughts 20 = .ok (.invokevirtual 51, 3) := by decide +kernel
theorem dX1_noughts_23 : decode cX1_noughts 23 = .ok (.ifCond .ne 9, 3) := by decide +kernel
theorem dX1_noughts_26 : decode cX1_noughts 26 = .ok (.iinc 2 1, 3) := by decide +kernel
theorem dX1_noughts_29 : decode cX1_noughts 29 = .ok (.goto (-27), 3) := by decide +kernel
theorem dX1_noughts_32 : decode cX1_noughts 32 = .ok (.iload_n 2, 1) := by decide +kernel
theorem dX1_noughts_33 : decode cX1_noughts 33 = .ok (.ireturn, 1) := by decide +kernel
theorem dX1_from_0 : decode cX1_from 0 = .ok (.iconst 0, 1) := by decide +kernel
theorem dX1_from_1 : decode cX1_from 1 = .ok (.istore_n 2, 1) := by decide +kernel
theorem dX1_from_2 : decode cX1_from 2 = .ok (.iload_n 2, 1) := by decide +kernel
theorem dX1_from_3 : decode cX1_from 3 = .ok (.bipush 32, 2) := by decide +kernel
theorem dX1_from_5 : decode cX1_from 5 = .ok (.if_icmp .ge 25, 3) := by decide +kernel
theorem dX1_from_8 : decode cX1_from 8 = .ok (.aload_n 0, 1) := by decide +kernel
theorem dX1_from_9 : decode cX1_from 9 = .ok (.getfield 25, 3) := by decide +kernel
theorem dX1_from_12 : decode cX1_from 12 = .ok (.iload_n 2, 1) := by decide +kernel
theorem dX1_from_13 : decode cX1_from 13 = .ok (.iload_n 2, 1) := by decide +kernel
theorem dX1_from_14 : decode cX1_from 14 = .ok (.iload_n 1, 1) := by decide +kernel
theorem dX1_from_15 : decode cX1_from 15 = .ok (.if_icmp .lt 7, 3) := by decide +kernel
theorem dX1_from_18 : decode cX1_from 18 = .ok (.iconst 1, 1) := by decide +kernel
theorem dX1_from_19 : decode cX1_from 19 = .ok (.goto 4, 3) := by decide +kernel
theorem dX1_from_22 : decode cX1_from 22 = .ok (.iconst 0, 1) := by decide +kernel
theorem dX1_from_23 : decode cX1_from 23 = .ok (.bastore, 1) := by decide +kernel
theorem dX1_from_24 : decode cX1_from 24 = .ok (.iinc 2 1, 3) := by decide +kernel
theorem dX1_from_27 : decode cX1_from 27 = .ok (.goto (-25), 3) := by decide +kernel
theorem dX1_from_30 : decode cX1_from 30 = .ok (.return_, 1) := by decide +kernel
theorem dX1_shift_0 : decode cX1_shift 0 = .ok (.iconst 0, 1) := by decide +kernel
theorem dX1_shift_1 : decode cX1_shift 1 = .ok (.istore 5, 2) := by decide +kernel
theorem dX1_shift_3 : decode cX1_shift 3 = .ok (.iload 5, 2) := by decide +kernel
theorem dX1_shift_5 : decode cX1_shift 5 = .ok (.bipush 32, 2) := by decide +kernel
theorem dX1_shift_7 : decode cX1_shift 7 = .ok (.if_icmp .ge 119, 3) := by decide +kernel
theorem dX1_shift_10 : decode cX1_shift 10 = .ok (.iload_n 1, 1) := by decide +kernel
theorem dX1_shift_11 : decode cX1_shift 11 = .ok (.iconst 5, 1) := by decide +kernel
theorem dX1_shift_12 : decode cX1_shift 12 = .ok (.if_icmp .ne 11, 3) := by decide +kernel
theorem dX1_shift_15 : decode cX1_shift 15 = .ok (.iload 5, 2) := by decide +kernel
theorem dX1_shift_17 : decode cX1_shift 17 = .ok (.iload 4, 2) := by decide +kernel
theorem dX1_shift_19 : decode cX1_shift 19 = .ok (.isub, 1) := by decide +kernel
theorem dX1_shift_20 : decode cX1_shift 20 = .ok (.goto 8, 3) := by decide +kernel
theorem dX1_shift_23 : decode cX1_shift 23 = .ok (.iload 5, 2) := by decide +kernel
theorem dX1_shift_25 : decode cX1_shift 25 = .ok (.iload 4, 2) := by decide +kernel
theorem dX1_shift_27 : decode cX1_shift 27 = .ok (.iadd, 1) := by decide +kernel
theorem dX1_shift_28 : decode cX1_shift 28 = .ok (.istore 6, 2) := by decide +kernel
theorem dX1_shift_30 : decode cX1_shift 30 = .ok (.iload_n 1, 1) := by decide +kernel
theorem dX1_shift_31 : decode cX1_shift 31 = .ok (.bipush 7, 2) := by decide +kernel
theorem dX1_shift_33 : decode cX1_shift 33 = .ok (.if_icmp .ne 14, 3) := by decide +kernel
theorem dX1_shift_36 : decode cX1_shift 36 = .ok (.iload 6, 2) := by decide +kernel
theorem dX1_shift_38 : decode cX1_shift 38 = .ok (.bipush 31, 2) := by decide +kernel
theorem dX1_shift_40 : decode cX1_shift 40 = .ok (.if_icmp .le 7, 3) := by decide +kernel
theorem dX1_shift_43 : decode cX1_shift 43 = .ok (.bipush 31, 2) := by decide +kernel
theorem dX1_shift_45 : decode cX1_shift 45 = .ok (.istore 6, 2) := by decide +kernel
theorem dX1_shift_47 : decode cX1_shift 47 = .ok (.iload 6, 2) := by decide +kernel
theorem dX1_shift_49 : decode cX1_shift 49 = .ok (.ifCond .lt 14, 3) := by decide +kernel
theorem dX1_shift_52 : decode cX1_shift 52 = .ok (.iload 6, 2) := by decide +kernel
theorem dX1_shift_54 : decode cX1_shift 54 = .ok (.bipush 32, 2) := by decide +kernel
theorem dX1_shift_56 : decode cX1_shift 56 = .ok (.if_icmp .ge 7, 3) := by decide +kernel
theorem dX1_shift_59 : decode cX1_shift 59 = .ok (.iconst 1, 1) := by decide +kernel
theorem dX1_shift_60 : decode cX1_shift 60 = .ok (.goto 4, 3) := by decide +kernel
theorem dX1_shift_63 : decode cX1_shift 63 = .ok (.iconst 0, 1) := by decide +kernel
theorem dX1_shift_64 : decode cX1_shift 64 = .ok (.istore 7, 2) := by decide +kernel
theorem dX1_shift_66 : decode cX1_shift 66 = .ok (.aload_n 0, 1) := by decide +kernel
theorem dX1_shift_67 : decode cX1_shift 67 = .ok (.getfield 22, 3) := by decide +kernel
theorem dX1_shift_70 : decode cX1_shift 70 = .ok (.iload 5, 2) := by decide +kernel
theorem dX1_shift_72 : decode cX1_shift 72 = .ok (.iload 7, 2) := by decide +kernel
theorem dX1_shift_74 : decode cX1_shift 74 = .ok (.ifCond .eq 17, 3) := by decide +kernel
theorem dX1_shift_77 : decode cX1_shift 77 = .ok (.aload_n 0, 1) := by decide +kernel
theorem dX1_shift_78 : decode cX1_shift 78 = .ok (.iload_n 2, 1) := by decide +kernel
theorem dX1_shift_79 : decode cX1_shift 79 = .ok (.iload 6, 2) := by decide +kernel
theorem dX1_shift_81 : decode cX1_shift 81 = .ok (.invokevirtual 51, 3) := by decide +kernel
theorem dX1_shift_84 : decode cX1_shift 84 = .ok (.ifCond .eq 7, 3) := by decide +kernel
theorem dX1_shift_87 : decode cX1_shift 87 = .ok (.iconst 1, 1) := by decide +kernel
theorem dX1_shift_88 : decode cX1_shift 88 = .ok (.goto 4, 3) := by decide +kernel
theorem dX1_shift_91 : decode cX1_shift 91 = .ok (.iconst 0, 1) := by decide +kernel
theorem dX1_shift_92 : decode cX1_shift 92 = .ok (.bastore, 1) := by decide +kernel
theorem dX1_shift_93 : decode cX1_shift 93 = .ok (.aload_n 0, 1) := by decide +kernel
theorem dX1_shift_94 : decode cX1_shift 94 = .ok (.getfield 25, 3) := by decide +kernel
theorem dX1_shift_97 : decode cX1_shift 97 = .ok (.iload 5, 2) := by decide +kernel
theorem dX1_shift_99 : decode cX1_shift 99 = .ok (.iload 7, 2) := by decide +kernel
theorem dX1_shift_101 : decode cX1_shift 101 = .ok (.ifCond .eq 17, 3) := by decide +kernel
theorem dX1_shift_104 : decode cX1_shift 104 = .ok (.aload_n 0, 1) := by decide +kernel
theorem dX1_shift_105 : decode cX1_shift 105 = .ok (.iload_n 2, 1) := by decide +kernel
theorem dX1_shift_106 : decode cX1_shift 106 = .ok (.iload 6, 2) := by decide +kernel
theorem dX1_shift_108 : decode cX1_shift 108 = .ok (.invokevirtual 47, 3) := by decide +kernel
theorem dX1_shift_111 : decode cX1_shift 111 = .ok (.ifCond .eq 7, 3) := by decide +kernel
theorem dX1_shift_114 : decode cX1_shift 114 = .ok (.iconst 1, 1) := by decide +kernel
theorem dX1_shift_115 : decode cX1_shift 115 = .ok (.goto 4, 3) := by decide +kernel
theorem dX1_shift_118 : decode cX1_shift 118 = .ok (.iconst 0, 1) := by decide +kernel
theorem dX1_shift_119 : decode cX1_shift 119 = .ok (.bastore, 1) := by decide +kernel
theorem dX1_shift_120 : decode cX1_shift 120 = .ok (.iinc 5 1, 3) := by decide +kernel
theorem dX1_shift_123 : decode cX1_shift 123 = .ok (.goto (-120), 3) := by decide +kernel
theorem dX1_shift_126 : decode cX1_shift 126 = .ok (.iconst 1, 1) := by decide +kernel
theorem dX1_shift_127 : decode cX1_shift 127 = .ok (.istore 5, 2) := by decide +kernel
theorem dX1_shift_129 : decode cX1_shift 129 = .ok (.iconst 0, 1) := by decide +kernel
theorem dX1_shift_130 : decode cX1_shift 130 = .ok (.istore 6, 2) := by decide +kernel
theorem dX1_shift_132 : decode cX1_shift 132 = .ok (.iload 6, 2) := by decide +kernel
theorem dX1_shift_134 : decode cX1_shift 134 = .ok (.iconst 5, 1) := by decide +kernel
theorem dX1_shift_135 : decode cX1_shift 135 = .ok (.if_icmp .ge 22, 3) := by decide +kernel
theorem dX1_shift_138 : decode cX1_shift 138 = .ok (.aload_n 0, 1) := by decide +kernel
theorem dX1_shift_139 : decode cX1_shift 139 = .ok (.iload_n 3, 1) := by decide +kernel
theorem dX1_shift_140 : decode cX1_shift 140 = .ok (.iload 6, 2) := by decide +kernel
theorem dX1_shift_142 : decode cX1_shift 142 = .ok (.invokevirtual 47, 3) := by decide +kernel
theorem dX1_shift_145 : decode cX1_shift 145 = .ok (.ifCond .eq 6, 3) := by decide +kernel
theorem dX1_shift_148 : decode cX1_shift 148 = .ok (.iconst 0, 1) := by decide +kernel
theorem dX1_shift_149 : decode cX1_shift 149 = .ok (.istore 5, 2) := by decide +kernel
theorem dX1_shift_151 : decode cX1_shift 151 = .ok (.iinc 6 1, 3) := by decide +kernel
theorem dX1_shift_154 : decode cX1_shift 154 = .ok (.goto (-22), 3) := by decide +kernel
theorem dX1_shift_157 : decode cX1_shift 157 = .ok (.iload 5, 2) := by decide +kernel
theorem dX1_shift_159 : decode cX1_shift 159 = .ok (.ifCond .ne 8, 3) := by decide +kernel
theorem dX1_shift_162 : decode cX1_shift 162 = .ok (.aload_n 0, 1) := by decide +kernel
theorem dX1_shift_163 : decode cX1_shift 163 = .ok (.iconst 0, 1) := by decide +kernel
theorem dX1_shift_164 : decode cX1_shift 164 = .ok (.invokevirtual 61, 3) := by decide +kernel
theorem dX1_shift_167 : decode cX1_shift 167 = .ok (.return_, 1) := by decide +kernel
theorem dX1_end_0 : decode cX1_end 0 = .ok (.lconst 0, 1) := by decide +kernel
theorem dX1_end_1 : decode cX1_end 1 = .ok (.lstore 4, 2) := by decide +kernel
theorem dX1_end_3 : decode cX1_end 3 = .ok (.iconst 0, 1) := by decide +kernel
theorem dX1_end_4 : decode cX1_end 4 = .ok (.istore 6, 2) := by decide +kernel
theorem dX1_end_6 : decode cX1_end 6 = .ok (.iload 6, 2) := by decide +kernel
theorem dX1_end_8 : decode cX1_end 8 = .ok (.bipush 32, 2) := by decide +kernel
theorem dX1_end_10 : decode cX1_end 10 = .ok (.if_icmp .ge 87, 3) := by decide +kernel
theorem dX1_end_13 : decode cX1_end 13 = .ok (.iload_n 3, 1) := by decide +kernel
theorem dX1_end_14 : decode cX1_end 14 = .ok (.ifCond .eq 14, 3) := by decide +kernel
theorem dX1_end_17 : decode cX1_end 17 = .ok (.iload 6, 2) := by decide +kernel
theorem dX1_end_19 : decode cX1_end 19 = .ok (.bipush 31, 2) := by decide +kernel
theorem dX1_end_21 : decode cX1_end 21 = .ok (.if_icmp .ne 7, 3) := by decide +kernel
theorem dX1_end_24 : decode cX1_end 24 = .ok (.iconst 1, 1) := by decide +kernel
theorem dX1_end_25 : decode cX1_end 25 = .ok (.goto 4, 3) := by decide +kernel
theorem dX1_end_28 : decode cX1_end 28 = .ok (.iconst 0, 1) := by decide +kernel
theorem dX1_end_29 : decode cX1_end 29 = .ok (.istore 7, 2) := by decide +kernel
theorem dX1_end_31 : decode cX1_end 31 = .ok (.aload_n 0, 1) := by decide +kernel
theorem dX1_end_32 : decode cX1_end 32 = .ok (.iload_n 1, 1) := by decide +kernel
theorem dX1_end_33 : decode cX1_end 33 = .ok (.iload 6, 2) := by decide +kernel
theorem dX1_end_35 : decode cX1_end 35 = .ok (.invokevirtual 47, 3) := by decide +kernel
theorem dX1_end_38 : decode cX1_end 38 = .ok (.ifCond .eq 17, 3) := by decide +kernel
theorem dX1_end_41 : decode cX1_end 41 = .ok (.iload_n 2, 1) := by decide +kernel
theorem dX1_end_42 : decode cX1_end 42 = .ok (.iload 7, 2) := by decide +kernel
theorem dX1_end_44 : decode cX1_end 44 = .ok (.if_icmp .eq 7, 3) := by decide +kernel
theorem dX1_end_47 : decode cX1_end 47 = .ok (.iconst 1, 1) := by decide +kernel
theorem dX1_end_48 : decode cX1_end 48 = .ok (.goto 14, 3) := by decide +kernel
theorem dX1_end_51 : decode cX1_end 51 = .ok (.iconst 0, 1) := by decide +kernel
theorem dX1_end_52 : decode cX1_end 52 = .ok (.goto 10, 3) := by decide +kernel
theorem dX1_end_55 : decode cX1_end 55 = .ok (.aload_n 0, 1) := by decide +kernel
theorem dX1_end_56 : decode cX1_end 56 = .ok (.iload_n 1, 1) := by decide +kernel
theorem dX1_end_57 : decode cX1_end 57 = .ok (.iload 6, 2) := by decide +kernel
theorem dX1_end_59 : decode cX1_end 59 = .ok (.invokevirtual 51, 3) := by decide +kernel
theorem dX1_end_62 : decode cX1_end 62 = .ok (.istore 8, 2) := by decide +kernel
theorem dX1_end_64 : decode cX1_end 64 = .ok (.iload 8, 2) := by decide +kernel
theorem dX1_end_66 : decode cX1_end 66 = .ok (.ifCond .eq 25, 3) := by decide +kernel
theorem dX1_end_69 : decode cX1_end 69 = .ok (.lload 4, 2) := by decide +kernel
theorem dX1_end_71 : decode cX1_end 71 = .ok (.iload 7, 2) := by decide +kernel
theorem dX1_end_73 : decode cX1_end 73 = .ok (.ifCond .eq 11, 3) := by decide +kernel
theorem dX1_end_76 : decode cX1_end 76 = .ok (.lconst 1, 1) := by decide +kernel
theorem dX1_end_77 : decode cX1_end 77 = .ok (.iload 6, 2) := by decide +kernel
theorem dX1_end_79 : decode cX1_end 79 = .ok (.lshl, 1) := by decide +kernel
theorem dX1_end_80 : decode cX1_end 80 = .ok (.lneg, 1) := by decide +kernel
theorem dX1_end_81 : decode cX1_end 81 = .ok (.goto 7, 3) := by decide +kernel
theorem dX1_end_84 : decode cX1_end 84 = .ok (.lconst 1, 1) := by decide +kernel
theorem dX1_end_85 : decode cX1_end 85 = .ok (.iload 6, 2) := by decide +kernel
theorem dX1_end_87 : decode cX1_end 87 = .ok (.lshl, 1) := by decide +kernel
theorem dX1_end_88 : decode cX1_end 88 = .ok (.ladd, 1) := by decide +kernel
theorem dX1_end_89 : decode cX1_end 89 = .ok (.lstore 4, 2) := by decide +kernel
theorem dX1_end_91 : decode cX1_end 91 = .ok (.iinc 6 1, 3) := by decide +kernel
theorem dX1_end_94 : decode cX1_end 94 = .ok (.goto (-88), 3) := by decide +kernel
theorem dX1_end_97 : decode cX1_end 97 = .ok (.lload 4, 2) := by decide +kernel
theorem dX1_end_99 : decode cX1_end 99 = .ok (.lreturn, 1) := by decide +kernel
theorem dX1_choose_0 : decode cX1_choose 0 = .ok (.iconst 0, 1) := by decide +kernel
theorem dX1_choose_1 : decode cX1_choose 1 = .ok (.istore 4, 2) := by decide +kernel
theorem dX1_choose_3 : decode cX1_choose 3 = .ok (.iload 4, 2) := by decide +kernel
theorem dX1_choose_5 : decode cX1_choose 5 = .ok (.bipush 32, 2) := by decide +kernel
theorem dX1_choose_7 : decode cX1_choose 7 = .ok (.if_icmp .ge 129, 3) := by decide +kernel
theorem dX1_choose_10 : decode cX1_choose 10 = .ok (.aload_n 0, 1) := by decide +kernel
theorem dX1_choose_11 : decode cX1_choose 11 = .ok (.iload_n 3, 1) := by decide +kernel
theorem dX1_choose_12 : decode cX1_choose 12 = .ok (.iconst 0, 1) := by decide +kernel
theorem dX1_choose_13 : decode cX1_choose 13 = .ok (.invokevirtual 51, 3) := by decide +kernel
theorem dX1_choose_16 : decode cX1_choose 16 = .ok (.istore 5, 2) := by decide +kernel
theorem dX1_choose_18 : decode cX1_choose 18 = .ok (.aload_n 0, 1) := by decide +kernel
theorem dX1_choose_19 : decode cX1_choose 19 = .ok (.getfield 22, 3) := by decide +kernel
theorem dX1_choose_22 : decode cX1_choose 22 = .ok (.iload 4, 2) := by decide +kernel
theorem dX1_choose_24 : decode cX1_choose 24 = .ok (.iload 5, 2) := by decide +kernel
theorem dX1_choose_26 : decode cX1_choose 26 = .ok (.ifCond .eq 13, 3) := by decide +kernel
theorem dX1_choose_29 : decode cX1_choose 29 = .ok (.aload_n 0, 1) := by decide +kernel
theorem dX1_choose_30 : decode cX1_choose 30 = .ok (.iload_n 2, 1) := by decide +kernel
theorem dX1_choose_31 : decode cX1_choose 31 = .ok (.iload 4, 2) := by decide +kernel
theorem dX1_choose_33 : decode cX1_choose 33 = .ok (.invokevirtual 51, 3) := by decide +kernel
theorem dX1_choose_36 : decode cX1_choose 36 = .ok (.goto 10, 3) := by decide +kernel
theorem dX1_choose_39 : decode cX1_choose 39 = .ok (.aload_n 0, 1) := by decide +kernel
theorem dX1_choose_40 : decode cX1_choose 40 = .ok (.iload_n 1, 1) := by decide +kernel
theorem dX1_choose_41 : decode cX1_choose 41 = .ok (.iload 4, 2) := by decide +kernel
theorem dX1_choose_43 : decode cX1_choose 43 = .ok (.invokevirtual 51, 3) := by decide +kernel
theorem dX1_choose_46 : decode cX1_choose 46 = .ok (.bastore, 1) := by decide +kernel
theorem dX1_choose_47 : decode cX1_choose 47 = .ok (.aload_n 0, 1) := by decide +kernel
theorem dX1_choose_48 : decode cX1_choose 48 = .ok (.getfield 25, 3) := by decide +kernel
theorem dX1_choose_51 : decode cX1_choose 51 = .ok (.iload 4, 2) := by decide +kernel
theorem dX1_choose_53 : decode cX1_choose 53 = .ok (.aload_n 0, 1) := by decide +kernel
theorem dX1_choose_54 : decode cX1_choose 54 = .ok (.iload_n 3, 1) := by decide +kernel
theorem dX1_choose_55 : decode cX1_choose 55 = .ok (.iconst 0, 1) := by decide +kernel
theorem dX1_choose_56 : decode cX1_choose 56 = .ok (.invokevirtual 47, 3) := by decide +kernel
theorem dX1_choose_59 : decode cX1_choose 59 = .ok (.ifCond .eq 48, 3) := by decide +kernel
theorem dX1_choose_62 : decode cX1_choose 62 = .ok (.aload_n 0, 1) := by decide +kernel
theorem dX1_choose_63 : decode cX1_choose 63 = .ok (.iload_n 2, 1) := by decide +kernel
theorem dX1_choose_64 : decode cX1_choose 64 = .ok (.iload 4, 2) := by decide +kernel
theorem dX1_choose_66 : decode cX1_choose 66 = .ok (.invokevirtual 47, 3) := by decide +kernel
theorem dX1_choose_69 : decode cX1_choose 69 = .ok (.ifCond .ne 30, 3) := by decide +kernel
theorem dX1_choose_72 : decode cX1_choose 72 = .ok (.aload_n 0, 1) := by decide +kernel
theorem dX1_choose_73 : decode cX1_choose 73 = .ok (.iload_n 1, 1) := by decide +kernel
theorem dX1_choose_74 : decode cX1_choose 74 = .ok (.iload 4, 2) := by decide +kernel
theorem dX1_choose_76 : decode cX1_choose 76 = .ok (.invokevirtual 47, 3) := by decide +kernel
theorem dX1_choose_79 : decode cX1_choose 79 = .ok (.ifCond .ne 20, 3) := by decide +kernel
theorem dX1_choose_82 : decode cX1_choose 82 = .ok (.aload_n 0, 1) := by decide +kernel
theorem dX1_choose_83 : decode cX1_choose 83 = .ok (.iload_n 2, 1) := by decide +kernel
theorem dX1_choose_84 : decode cX1_choose 84 = .ok (.iload 4, 2) := by decide +kernel
theorem dX1_choose_86 : decode cX1_choose 86 = .ok (.invokevirtual 51, 3) := by decide +kernel
theorem dX1_choose_89 : decode cX1_choose 89 = .ok (.aload_n 0, 1) := by decide +kernel
theorem dX1_choose_90 : decode cX1_choose 90 = .ok (.iload_n 1, 1) := by decide +kernel
theorem dX1_choose_91 : decode cX1_choose 91 = .ok (.iload 4, 2) := by decide +kernel
theorem dX1_choose_93 : decode cX1_choose 93 = .ok (.invokevirtual 51, 3) := by decide +kernel
theorem dX1_choose_96 : decode cX1_choose 96 = .ok (.if_icmp .eq 7, 3) := by decide +kernel
theorem dX1_choose_99 : decode cX1_choose 99 = .ok (.iconst 1, 1) := by decide +kernel
theorem dX1_choose_100 : decode cX1_choose 100 = .ok (.goto 29, 3) := by decide +kernel
theorem dX1_choose_103 : decode cX1_choose 103 = .ok (.iconst 0, 1) := by decide +kernel
theorem dX1_choose_104 : decode cX1_choose 104 = .ok (.goto 25, 3) := by decide +kernel
theorem dX1_choose_107 : decode cX1_choose 107 = .ok (.iload 5, 2) := by decide +kernel
theorem dX1_choose_109 : decode cX1_choose 109 = .ok (.ifCond .eq 13, 3) := by decide +kernel
theorem dX1_choose_112 : decode cX1_choose 112 = .ok (.aload_n 0, 1) := by decide +kernel
theorem dX1_choose_113 : decode cX1_choose 113 = .ok (.iload_n 2, 1) := by decide +kernel
theorem dX1_choose_114 : decode cX1_choose 114 = .ok (.iload 4, 2) := by decide +kernel
theorem dX1_choose_116 : decode cX1_choose 116 = .ok (.invokevirtual 47, 3) := by decide +kernel
theorem dX1_choose_119 : decode cX1_choose 119 = .ok (.goto 10, 3) := by decide +kernel
theorem dX1_choose_122 : decode cX1_choose 122 = .ok (.aload_n 0, 1) := by decide +kernel
theorem dX1_choose_123 : decode cX1_choose 123 = .ok (.iload_n 1, 1) := by decide +kernel
theorem dX1_choose_124 : decode cX1_choose 124 = .ok (.iload 4, 2) := by decide +kernel
theorem dX1_choose_126 : decode cX1_choose 126 = .ok (.invokevirtual 47, 3) := by decide +kernel
theorem dX1_choose_129 : decode cX1_choose 129 = .ok (.bastore, 1) := by decide +kernel
theorem dX1_choose_130 : decode cX1_choose 130 = .ok (.iinc 4 1, 3) := by decide +kernel
theorem dX1_choose_133 : decode cX1_choose 133 = .ok (.goto (-130), 3) := by decide +kernel
theorem dX1_choose_136 : decode cX1_choose 136 = .ok (.return_, 1) := by decide +kernel
theorem dX1_wrong_0 : decode cX1_wrong 0 = .ok (.iload_n 0, 1) := by decide +kernel
theorem dX1_wrong_1 : decode cX1_wrong 1 = .ok (.iconst 1, 1) := by decide +kernel
theorem dX1_wrong_2 : decode cX1_wrong 2 = .ok (.if_icmp .eq 17, 3) := by decide +kernel
theorem dX1_wrong_5 : decode cX1_wrong 5 = .ok (.iload_n 0, 1) := by decide +kernel
theorem dX1_wrong_6 : decode cX1_wrong 6 = .ok (.iconst 2, 1) := by decide +kernel
theorem dX1_wrong_7 : decode cX1_wrong 7 = .ok (.if_icmp .eq 12, 3) := by decide +kernel
theorem dX1_wrong_10 : decode cX1_wrong 10 = .ok (.iload_n 0, 1) := by decide +kernel
theorem dX1_wrong_11 : decode cX1_wrong 11 = .ok (.iconst 4, 1) := by decide +kernel
theorem dX1_wrong_12 : decode cX1_wrong 12 = .ok (.if_icmp .eq 7, 3) := by decide +kernel
theorem dX1_wrong_15 : decode cX1_wrong 15 = .ok (.iconst 1, 1) := by decide +kernel
theorem dX1_wrong_16 : decode cX1_wrong 16 = .ok (.goto 4, 3) := by decide +kernel
theorem dX1_wrong_19 : decode cX1_wrong 19 = .ok (.iconst 0, 1) := by decide +kernel
theorem dX1_wrong_20 : decode cX1_wrong 20 = .ok (.ireturn, 1) := by decide +kernel
theorem dX1_store_0 : decode cX1_store 0 = .ok (.aload_n 0, 1) := by decide +kernel
theorem dX1_store_1 : decode cX1_store 1 = .ok (.iload_n 3, 1) := by decide +kernel
theorem dX1_store_2 : decode cX1_store 2 = .ok (.invokestatic 81, 3) := by decide +kernel
theorem dX1_store_5 : decode cX1_store 5 = .ok (.iconst 1, 1) := by decide +kernel
theorem dX1_store_6 : decode cX1_store 6 = .ok (.invokevirtual 36, 3) := by decide +kernel
theorem dX1_store_9 : decode cX1_store 9 = .ok (.ifCond .eq 4, 3) := by decide +kernel
theorem dX1_store_12 : decode cX1_store 12 = .ok (.return_, 1) := by decide +kernel
theorem dX1_store_13 : decode cX1_store 13 = .ok (.aload_n 0, 1) := by decide +kernel
theorem dX1_store_14 : decode cX1_store 14 = .ok (.iload_n 1, 1) := by decide +kernel
theorem dX1_store_15 : decode cX1_store 15 = .ok (.invokestatic 32, 3) := by decide +kernel
theorem dX1_store_18 : decode cX1_store 18 = .ok (.ifCond .ne 16, 3) := by decide +kernel
theorem dX1_store_21 : decode cX1_store 21 = .ok (.iload_n 2, 1) := by decide +kernel
theorem dX1_store_22 : decode cX1_store 22 = .ok (.ifCond .lt 12, 3) := by decide +kernel
theorem dX1_store_25 : decode cX1_store 25 = .ok (.iload_n 2, 1) := by decide +kernel
theorem dX1_store_26 : decode cX1_store 26 = .ok (.sipush 256, 3) := by decide +kernel
theorem dX1_store_29 : decode cX1_store 29 = .ok (.iload_n 3, 1) := by decide +kernel
theorem dX1_store_30 : decode cX1_store 30 = .ok (.isub, 1) := by decide +kernel
theorem dX1_store_31 : decode cX1_store 31 = .ok (.if_icmp .le 7, 3) := by decide +kernel
theorem dX1_store_34 : decode cX1_store 34 = .ok (.iconst 1, 1) := by decide +kernel
theorem dX1_store_35 : decode cX1_store 35 = .ok (.goto 4, 3) := by decide +kernel
theorem dX1_store_38 : decode cX1_store 38 = .ok (.iconst 0, 1) := by decide +kernel
theorem dX1_store_39 : decode cX1_store 39 = .ok (.iconst 2, 1) := by decide +kernel
theorem dX1_store_40 : decode cX1_store 40 = .ok (.invokevirtual 36, 3) := by decide +kernel
theorem dX1_store_43 : decode cX1_store 43 = .ok (.ifCond .eq 4, 3) := by decide +kernel
theorem dX1_store_46 : decode cX1_store 46 = .ok (.return_, 1) := by decide +kernel
theorem dX1_store_47 : decode cX1_store 47 = .ok (.iconst 0, 1) := by decide +kernel
theorem dX1_store_48 : decode cX1_store 48 = .ok (.istore 4, 2) := by decide +kernel
theorem dX1_store_50 : decode cX1_store 50 = .ok (.iload 4, 2) := by decide +kernel
theorem dX1_store_52 : decode cX1_store 52 = .ok (.bipush 8, 2) := by decide +kernel
theorem dX1_store_54 : decode cX1_store 54 = .ok (.iload_n 3, 1) := by decide +kernel
theorem dX1_store_55 : decode cX1_store 55 = .ok (.imul, 1) := by decide +kernel
theorem dX1_store_56 : decode cX1_store 56 = .ok (.if_icmp .ge 47, 3) := by decide +kernel
theorem dX1_store_59 : decode cX1_store 59 = .ok (.aload_n 0, 1) := by decide +kernel
theorem dX1_store_60 : decode cX1_store 60 = .ok (.getfield 16, 3) := by decide +kernel
theorem dX1_store_63 : decode cX1_store 63 = .ok (.bipush 8, 2) := by decide +kernel
theorem dX1_store_65 : decode cX1_store 65 = .ok (.iload_n 2, 1) := by decide +kernel
theorem dX1_store_66 : decode cX1_store 66 = .ok (.imul, 1) := by decide +kernel
theorem dX1_store_67 : decode cX1_store 67 = .ok (.iload 4, 2) := by decide +kernel
theorem dX1_store_69 : decode cX1_store 69 = .ok (.iadd, 1) := by decide +kernel
theorem dX1_store_70 : decode cX1_store 70 = .ok (.aload_n 0, 1) := by decide +kernel
theorem dX1_store_71 : decode cX1_store 71 = .ok (.iload_n 1, 1) := by decide +kernel
theorem dX1_store_72 : decode cX1_store 72 = .ok (.iload 4, 2) := by decide +kernel
theorem dX1_store_74 : decode cX1_store 74 = .ok (.invokevirtual 51, 3) := by decide +kernel
theorem dX1_store_77 : decode cX1_store 77 = .ok (.bastore, 1) := by decide +kernel
theorem dX1_store_78 : decode cX1_store 78 = .ok (.aload_n 0, 1) := by decide +kernel
theorem dX1_store_79 : decode cX1_store 79 = .ok (.getfield 19, 3) := by decide +kernel
theorem dX1_store_82 : decode cX1_store 82 = .ok (.bipush 8, 2) := by decide +kernel
theorem dX1_store_84 : decode cX1_store 84 = .ok (.iload_n 2, 1) := by decide +kernel
theorem dX1_store_85 : decode cX1_store 85 = .ok (.imul, 1) := by decide +kernel
theorem dX1_store_86 : decode cX1_store 86 = .ok (.iload 4, 2) := by decide +kernel
theorem dX1_store_88 : decode cX1_store 88 = .ok (.iadd, 1) := by decide +kernel
theorem dX1_store_89 : decode cX1_store 89 = .ok (.aload_n 0, 1) := by decide +kernel
theorem dX1_store_90 : decode cX1_store 90 = .ok (.iload_n 1, 1) := by decide +kernel
theorem dX1_store_91 : decode cX1_store 91 = .ok (.iload 4, 2) := by decide +kernel
theorem dX1_store_93 : decode cX1_store 93 = .ok (.invokevirtual 47, 3) := by decide +kernel
theorem dX1_store_96 : decode cX1_store 96 = .ok (.bastore, 1) := by decide +kernel
theorem dX1_store_97 : decode cX1_store 97 = .ok (.iinc 4 1, 3) := by decide +kernel
theorem dX1_store_100 : decode cX1_store 100 = .ok (.goto (-50), 3) := by decide +kernel
theorem dX1_store_103 : decode cX1_store 103 = .ok (.return_, 1) := by decide +kernel
theorem dX1_load_0 : decode cX1_load 0 = .ok (.aload_n 0, 1) := by decide +kernel
theorem dX1_load_1 : decode cX1_load 1 = .ok (.iload_n 3, 1) := by decide +kernel
theorem dX1_load_2 : decode cX1_load 2 = .ok (.invokestatic 81, 3) := by decide +kernel
theorem dX1_load_5 : decode cX1_load 5 = .ok (.iconst 1, 1) := by decide +kernel
theorem dX1_load_6 : decode cX1_load 6 = .ok (.invokevirtual 36, 3) := by decide +kernel
theorem dX1_load_9 : decode cX1_load 9 = .ok (.ifCond .eq 4, 3) := by decide +kernel
theorem dX1_load_12 : decode cX1_load 12 = .ok (.return_, 1) := by decide +kernel
theorem dX1_load_13 : decode cX1_load 13 = .ok (.aload_n 0, 1) := by decide +kernel
theorem dX1_load_14 : decode cX1_load 14 = .ok (.iload_n 1, 1) := by decide +kernel
theorem dX1_load_15 : decode cX1_load 15 = .ok (.invokestatic 32, 3) := by decide +kernel
theorem dX1_load_18 : decode cX1_load 18 = .ok (.ifCond .ne 16, 3) := by decide +kernel
theorem dX1_load_21 : decode cX1_load 21 = .ok (.iload_n 2, 1) := by decide +kernel
theorem dX1_load_22 : decode cX1_load 22 = .ok (.ifCond .lt 12, 3) := by decide +kernel
theorem dX1_load_25 : decode cX1_load 25 = .ok (.iload_n 2, 1) := by decide +kernel
theorem dX1_load_26 : decode cX1_load 26 = .ok (.sipush 256, 3) := by decide +kernel
theorem dX1_load_29 : decode cX1_load 29 = .ok (.iload_n 3, 1) := by decide +kernel
theorem dX1_load_30 : decode cX1_load 30 = .ok (.isub, 1) := by decide +kernel
theorem dX1_load_31 : decode cX1_load 31 = .ok (.if_icmp .le 7, 3) := by decide +kernel
theorem dX1_load_34 : decode cX1_load 34 = .ok (.iconst 1, 1) := by decide +kernel
theorem dX1_load_35 : decode cX1_load 35 = .ok (.goto 4, 3) := by decide +kernel
theorem dX1_load_38 : decode cX1_load 38 = .ok (.iconst 0, 1) := by decide +kernel
theorem dX1_load_39 : decode cX1_load 39 = .ok (.iconst 2, 1) := by decide +kernel
theorem dX1_load_40 : decode cX1_load 40 = .ok (.invokevirtual 36, 3) := by decide +kernel
theorem dX1_load_43 : decode cX1_load 43 = .ok (.ifCond .eq 4, 3) := by decide +kernel
theorem dX1_load_46 : decode cX1_load 46 = .ok (.return_, 1) := by decide +kernel
theorem dX1_load_47 : decode cX1_load 47 = .ok (.iconst 0, 1) := by decide +kernel
theorem dX1_load_48 : decode cX1_load 48 = .ok (.istore 5, 2) := by decide +kernel
theorem dX1_load_50 : decode cX1_load 50 = .ok (.iload 5, 2) := by decide +kernel
theorem dX1_load_52 : decode cX1_load 52 = .ok (.bipush 32, 2) := by decide +kernel
theorem dX1_load_54 : decode cX1_load 54 = .ok (.if_icmp .ge 116, 3) := by decide +kernel
theorem dX1_load_57 : decode cX1_load 57 = .ok (.iload 5, 2) := by decide +kernel
theorem dX1_load_59 : decode cX1_load 59 = .ok (.bipush 8, 2) := by decide +kernel
theorem dX1_load_61 : decode cX1_load 61 = .ok (.iload_n 3, 1) := by decide +kernel
theorem dX1_load_62 : decode cX1_load 62 = .ok (.imul, 1) := by decide +kernel
theorem dX1_load_63 : decode cX1_load 63 = .ok (.if_icmp .ge 8, 3) := by decide +kernel
theorem dX1_load_66 : decode cX1_load 66 = .ok (.iload 5, 2) := by decide +kernel
theorem dX1_load_68 : decode cX1_load 68 = .ok (.goto 9, 3) := by decide +kernel
theorem dX1_load_71 : decode cX1_load 71 = .ok (.bipush 8, 2) := by decide +kernel
theorem dX1_load_73 : decode cX1_load 73 = .ok (.iload_n 3, 1) := by decide +kernel
theorem dX1_load_74 : decode cX1_load 74 = .ok (.imul, 1) := by decide +kernel
theorem dX1_load_75 : decode cX1_load 75 = .ok (.iconst 1, 1) := by decide +kernel
theorem dX1_load_76 : decode cX1_load 76 = .ok (.isub, 1) := by decide +kernel
theorem dX1_load_77 : decode cX1_load 77 = .ok (.istore 6, 2) := by decide +kernel
theorem dX1_load_79 : decode cX1_load 79 = .ok (.iload 5, 2) := by decide +kernel
theorem dX1_load_81 : decode cX1_load 81 = .ok (.bipush 8, 2) := by decide +kernel
theorem dX1_load_83 : decode cX1_load 83 = .ok (.iload_n 3, 1) := by decide +kernel
theorem dX1_load_84 : decode cX1_load 84 = .ok (.imul, 1) := by decide +kernel
theorem dX1_load_85 : decode cX1_load 85 = .ok (.if_icmp .lt 8, 3) := by decide +kernel
theorem dX1_load_88 : decode cX1_load 88 = .ok (.iload 4, 2) := by decide +kernel
theorem dX1_load_90 : decode cX1_load 90 = .ok (.ifCond .eq 7, 3) := by decide +kernel
theorem dX1_load_93 : decode cX1_load 93 = .ok (.iconst 1, 1) := by decide +kernel
theorem dX1_load_94 : decode cX1_load 94 = .ok (.goto 4, 3) := by decide +kernel
theorem dX1_load_97 : decode cX1_load 97 = .ok (.iconst 0, 1) := by decide +kernel
theorem dX1_load_98 : decode cX1_load 98 = .ok (.istore 7, 2) := by decide +kernel
theorem dX1_load_100 : decode cX1_load 100 = .ok (.aload_n 0, 1) := by decide +kernel
theorem dX1_load_101 : decode cX1_load 101 = .ok (.getfield 22, 3) := by decide +kernel
theorem dX1_load_104 : decode cX1_load 104 = .ok (.iload 5, 2) := by decide +kernel
theorem dX1_load_106 : decode cX1_load 106 = .ok (.iload 7, 2) := by decide +kernel
theorem dX1_load_108 : decode cX1_load 108 = .ok (.ifCond .eq 22, 3) := by decide +kernel
theorem dX1_load_111 : decode cX1_load 111 = .ok (.aload_n 0, 1) := by decide +kernel
theorem dX1_load_112 : decode cX1_load 112 = .ok (.getfield 16, 3) := by decide +kernel
theorem dX1_load_115 : decode cX1_load 115 = .ok (.bipush 8, 2) := by decide +kernel
theorem dX1_load_117 : decode cX1_load 117 = .ok (.iload_n 2, 1) := by decide +kernel
theorem dX1_load_118 : decode cX1_load 118 = .ok (.imul, 1) := by decide +kernel
theorem dX1_load_119 : decode cX1_load 119 = .ok (.iload 6, 2) := by decide +kernel
theorem dX1_load_121 : decode cX1_load 121 = .ok (.iadd, 1) := by decide +kernel
theorem dX1_load_122 : decode cX1_load 122 = .ok (.baload, 1) := by decide +kernel
theorem dX1_load_123 : decode cX1_load 123 = .ok (.ifCond .eq 7, 3) := by decide +kernel
theorem dX1_load_126 : decode cX1_load 126 = .ok (.iconst 1, 1) := by decide +kernel
theorem dX1_load_127 : decode cX1_load 127 = .ok (.goto 4, 3) := by decide +kernel
theorem dX1_load_130 : decode cX1_load 130 = .ok (.iconst 0, 1) := by decide +kernel
theorem dX1_load_131 : decode cX1_load 131 = .ok (.bastore, 1) := by decide +kernel
theorem dX1_load_132 : decode cX1_load 132 = .ok (.aload_n 0, 1) := by decide +kernel
theorem dX1_load_133 : decode cX1_load 133 = .ok (.getfield 25, 3) := by decide +kernel
theorem dX1_load_136 : decode cX1_load 136 = .ok (.iload 5, 2) := by decide +kernel
theorem dX1_load_138 : decode cX1_load 138 = .ok (.iload 7, 2) := by decide +kernel
theorem dX1_load_140 : decode cX1_load 140 = .ok (.ifCond .eq 22, 3) := by decide +kernel
theorem dX1_load_143 : decode cX1_load 143 = .ok (.aload_n 0, 1) := by decide +kernel
theorem dX1_load_144 : decode cX1_load 144 = .ok (.getfield 19, 3) := by decide +kernel
theorem dX1_load_147 : decode cX1_load 147 = .ok (.bipush 8, 2) := by decide +kernel
theorem dX1_load_149 : decode cX1_load 149 = .ok (.iload_n 2, 1) := by decide +kernel
theorem dX1_load_150 : decode cX1_load 150 = .ok (.imul, 1) := by decide +kernel
theorem dX1_load_151 : decode cX1_load 151 = .ok (.iload 6, 2) := by decide +kernel
theorem dX1_load_153 : decode cX1_load 153 = .ok (.iadd, 1) := by decide +kernel
theorem dX1_load_154 : decode cX1_load 154 = .ok (.baload, 1) := by decide +kernel
theorem dX1_load_155 : decode cX1_load 155 = .ok (.ifCond .eq 7, 3) := by decide +kernel
theorem dX1_load_158 : decode cX1_load 158 = .ok (.iconst 1, 1) := by decide +kernel
theorem dX1_load_159 : decode cX1_load 159 = .ok (.goto 4, 3) := by decide +kernel
theorem dX1_load_162 : decode cX1_load 162 = .ok (.iconst 0, 1) := by decide +kernel
theorem dX1_load_163 : decode cX1_load 163 = .ok (.bastore, 1) := by decide +kernel
theorem dX1_load_164 : decode cX1_load 164 = .ok (.iinc 5 1, 3) := by decide +kernel
theorem dX1_load_167 : decode cX1_load 167 = .ok (.goto (-117), 3) := by decide +kernel
theorem dX1_load_170 : decode cX1_load 170 = .ok (.aload_n 0, 1) := by decide +kernel
theorem dX1_load_171 : decode cX1_load 171 = .ok (.iload_n 1, 1) := by decide +kernel
theorem dX1_load_172 : decode cX1_load 172 = .ok (.invokevirtual 44, 3) := by decide +kernel
theorem dX1_load_175 : decode cX1_load 175 = .ok (.return_, 1) := by decide +kernel
theorem dX1_value_0 : decode cX1_value 0 = .ok (.aload_n 0, 1) := by decide +kernel
theorem dX1_value_1 : decode cX1_value 1 = .ok (.iload_n 1, 1) := by decide +kernel
theorem dX1_value_2 : decode cX1_value 2 = .ok (.invokestatic 32, 3) := by decide +kernel
theorem dX1_value_5 : decode cX1_value 5 = .ok (.iconst 1, 1) := by decide +kernel
theorem dX1_value_6 : decode cX1_value 6 = .ok (.invokevirtual 36, 3) := by decide +kernel
theorem dX1_value_9 : decode cX1_value 9 = .ok (.ifCond .eq 7, 3) := by decide +kernel
theorem dX1_value_12 : decode cX1_value 12 = .ok (.iconst 0, 1) := by decide +kernel
theorem dX1_value_13 : decode cX1_value 13 = .ok (.goto 8, 3) := by decide +kernel
theorem dX1_value_16 : decode cX1_value 16 = .ok (.aload_n 0, 1) := by decide +kernel
theorem dX1_value_17 : decode cX1_value 17 = .ok (.iload_n 1, 1) := by decide +kernel
theorem dX1_value_18 : decode cX1_value 18 = .ok (.invokevirtual 54, 3) := by decide +kernel
theorem dX1_value_21 : decode cX1_value 21 = .ok (.ireturn, 1) := by decide +kernel
theorem dX1_not_0 : decode cX1_not 0 = .ok (.aload_n 0, 1) := by decide +kernel
theorem dX1_not_1 : decode cX1_not 1 = .ok (.iload_n 1, 1) := by decide +kernel
theorem dX1_not_2 : decode cX1_not 2 = .ok (.invokestatic 32, 3) := by decide +kernel
theorem dX1_not_5 : decode cX1_not 5 = .ok (.iconst 1, 1) := by decide +kernel
theorem dX1_not_6 : decode cX1_not 6 = .ok (.invokevirtual 36, 3) := by decide +kernel
theorem dX1_not_9 : decode cX1_not 9 = .ok (.ifCond .eq 5, 3) := by decide +kernel
theorem dX1_not_12 : decode cX1_not 12 = .ok (.iconst 0, 1) := by decide +kernel
theorem dX1_not_13 : decode cX1_not 13 = .ok (.ireturn, 1) := by decide +kernel
theorem dX1_not_14 : decode cX1_not 14 = .ok (.iconst 0, 1) := by decide +kernel
theorem dX1_not_15 : decode cX1_not 15 = .ok (.istore_n 2, 1) := by decide +kernel
theorem dX1_not_16 : decode cX1_not 16 = .ok (.iconst 0, 1) := by decide +kernel
theorem dX1_not_17 : decode cX1_not 17 = .ok (.istore_n 3, 1) := by decide +kernel
theorem dX1_not_18 : decode cX1_not 18 = .ok (.iload_n 3, 1) := by decide +kernel
theorem dX1_not_19 : decode cX1_not 19 = .ok (.bipush 32, 2) := by decide +kernel
theorem dX1_not_21 : decode cX1_not 21 = .ok (.if_icmp .ge 24, 3) := by decide +kernel
theorem dX1_not_24 : decode cX1_not 24 = .ok (.aload_n 0, 1) := by decide +kernel
theorem dX1_not_25 : decode cX1_not 25 = .ok (.iload_n 1, 1) := by decide +kernel
theorem dX1_not_26 : decode cX1_not 26 = .ok (.iload_n 3, 1) := by decide +kernel
theorem dX1_not_27 : decode cX1_not 27 = .ok (.invokevirtual 47, 3) := by decide +kernel
theorem dX1_not_30 : decode cX1_not 30 = .ok (.ifCond .eq 9, 3) := by decide +kernel
theorem dX1_not_33 : decode cX1_not 33 = .ok (.iload_n 2, 1) := by decide +kernel
theorem dX1_not_34 : decode cX1_not 34 = .ok (.iconst 1, 1) := by decide +kernel
theorem dX1_not_35 : decode cX1_not 35 = .ok (.iload_n 3, 1) := by decide +kernel
theorem dX1_not_36 : decode cX1_not 36 = .ok (.ishl, 1) := by decide +kernel
theorem dX1_not_37 : decode cX1_not 37 = .ok (.ior, 1) := by decide +kernel
theorem dX1_not_38 : decode cX1_not 38 = .ok (.istore_n 2, 1) := by decide +kernel
theorem dX1_not_39 : decode cX1_not 39 = .ok (.iinc 3 1, 3) := by decide +kernel
theorem dX1_not_42 : decode cX1_not 42 = .ok (.goto (-24), 3) := by decide +kernel
theorem dX1_not_45 : decode cX1_not 45 = .ok (.iload_n 2, 1) := by decide +kernel
theorem dX1_not_46 : decode cX1_not 46 = .ok (.ireturn, 1) := by decide +kernel
theorem dX1_least_0 : decode cX1_least 0 = .ok (.aload_n 0, 1) := by decide +kernel
theorem dX1_least_1 : decode cX1_least 1 = .ok (.iload_n 1, 1) := by decide +kernel
theorem dX1_least_2 : decode cX1_least 2 = .ok (.invokestatic 32, 3) := by decide +kernel
theorem dX1_least_5 : decode cX1_least 5 = .ok (.iconst 1, 1) := by decide +kernel
theorem dX1_least_6 : decode cX1_least 6 = .ok (.invokevirtual 36, 3) := by decide +kernel
theorem dX1_least_9 : decode cX1_least 9 = .ok (.ifCond .eq 7, 3) := by decide +kernel
theorem dX1_least_12 : decode cX1_least 12 = .ok (.iconst 0, 1) := by decide +kernel
theorem dX1_least_13 : decode cX1_least 13 = .ok (.goto 11, 3) := by decide +kernel
theorem dX1_least_16 : decode cX1_least 16 = .ok (.aload_n 0, 1) := by decide +kernel
theorem dX1_least_17 : decode cX1_least 17 = .ok (.iload_n 1, 1) := by decide +kernel
theorem dX1_least_18 : decode cX1_least 18 = .ok (.iconst 0, 1) := by decide +kernel
theorem dX1_least_19 : decode cX1_least 19 = .ok (.iconst 1, 1) := by decide +kernel
theorem dX1_least_20 : decode cX1_least 20 = .ok (.invokevirtual 71, 3) := by decide +kernel
theorem dX1_least_23 : decode cX1_least 23 = .ok (.l2i, 1) := by decide +kernel
theorem dX1_least_24 : decode cX1_least 24 = .ok (.ireturn, 1) := by decide +kernel
theorem dX1_greatest_0 : decode cX1_greatest 0 = .ok (.aload_n 0, 1) := by decide +kernel
theorem dX1_greatest_1 : decode cX1_greatest 1 = .ok (.iload_n 1, 1) := by decide +kernel
theorem dX1_greatest_2 : decode cX1_greatest 2 = .ok (.invokestatic 32, 3) := by decide +kernel
theorem dX1_greatest_5 : decode cX1_greatest 5 = .ok (.iconst 1, 1) := by decide +kernel
theorem dX1_greatest_6 : decode cX1_greatest 6 = .ok (.invokevirtual 36, 3) := by decide +kernel
theorem dX1_greatest_9 : decode cX1_greatest 9 = .ok (.ifCond .eq 7, 3) := by decide +kernel
theorem dX1_greatest_12 : decode cX1_greatest 12 = .ok (.iconst 0, 1) := by decide +kernel
theorem dX1_greatest_13 : decode cX1_greatest 13 = .ok (.goto 11, 3) := by decide +kernel
theorem dX1_greatest_16 : decode cX1_greatest 16 = .ok (.aload_n 0, 1) := by decide +kernel
theorem dX1_greatest_17 : decode cX1_greatest 17 = .ok (.iload_n 1, 1) := by decide +kernel
theorem dX1_greatest_18 : decode cX1_greatest 18 = .ok (.iconst 1, 1) := by decide +kernel
theorem dX1_greatest_19 : decode cX1_greatest 19 = .ok (.iconst 1, 1) := by decide +kernel
theorem dX1_greatest_20 : decode cX1_greatest 20 = .ok (.invokevirtual 71, 3) := by decide +kernel
theorem dX1_greatest_23 : decode cX1_greatest 23 = .ok (.l2i, 1) := by decide +kernel
theorem dX1_greatest_24 : decode cX1_greatest 24 = .ok (.ireturn, 1) := by decide +kernel
theorem dX1_octet_0 : decode cX1_octet 0 = .ok (.aload_n 0, 1) := by decide +kernel
theorem dX1_octet_1 : decode cX1_octet 1 = .ok (.iload_n 1, 1) := by decide +kernel
theorem dX1_octet_2 : decode cX1_octet 2 = .ok (.ifCond .lt 10, 3) := by decide +kernel
theorem dX1_octet_5 : decode cX1_octet 5 = .ok (.iload_n 1, 1) := by decide +kernel
theorem dX1_octet_6 : decode cX1_octet 6 = .ok (.sipush 256, 3) := by decide +kernel
theorem dX1_octet_9 : decode cX1_octet 9 = .ok (.if_icmp .lt 7, 3) := by decide +kernel
theorem dX1_octet_12 : decode cX1_octet 12 = .ok (.iconst 1, 1) := by decide +kernel
theorem dX1_octet_13 : decode cX1_octet 13 = .ok (.goto 4, 3) := by decide +kernel
theorem dX1_octet_16 : decode cX1_octet 16 = .ok (.iconst 0, 1) := by decide +kernel
theorem dX1_octet_17 : decode cX1_octet 17 = .ok (.iconst 1, 1) := by decide +kernel
theorem dX1_octet_18 : decode cX1_octet 18 = .ok (.invokevirtual 36, 3) := by decide +kernel
theorem dX1_octet_21 : decode cX1_octet 21 = .ok (.ifCond .eq 5, 3) := by decide +kernel
theorem dX1_octet_24 : decode cX1_octet 24 = .ok (.iconst 0, 1) := by decide +kernel
theorem dX1_octet_25 : decode cX1_octet 25 = .ok (.ireturn, 1) := by decide +kernel
theorem dX1_octet_26 : decode cX1_octet 26 = .ok (.iconst 0, 1) := by decide +kernel
theorem dX1_octet_27 : decode cX1_octet 27 = .ok (.istore_n 2, 1) := by decide +kernel
theorem dX1_octet_28 : decode cX1_octet 28 = .ok (.iconst 0, 1) := by decide +kernel
theorem dX1_octet_29 : decode cX1_octet 29 = .ok (.istore_n 3, 1) := by decide +kernel
theorem dX1_octet_30 : decode cX1_octet 30 = .ok (.iload_n 3, 1) := by decide +kernel
theorem dX1_octet_31 : decode cX1_octet 31 = .ok (.bipush 8, 2) := by decide +kernel
theorem dX1_octet_33 : decode cX1_octet 33 = .ok (.if_icmp .ge 57, 3) := by decide +kernel
theorem dX1_octet_36 : decode cX1_octet 36 = .ok (.iload_n 2, 1) := by decide +kernel
theorem dX1_octet_37 : decode cX1_octet 37 = .ok (.aload_n 0, 1) := by decide +kernel
theorem dX1_octet_38 : decode cX1_octet 38 = .ok (.getfield 16, 3) := by decide +kernel
theorem dX1_octet_41 : decode cX1_octet 41 = .ok (.bipush 8, 2) := by decide +kernel
theorem dX1_octet_43 : decode cX1_octet 43 = .ok (.iload_n 1, 1) := by decide +kernel
theorem dX1_octet_44 : decode cX1_octet 44 = .ok (.imul, 1) := by decide +kernel
theorem dX1_octet_45 : decode cX1_octet 45 = .ok (.iload_n 3, 1) := by decide +kernel
theorem dX1_octet_46 : decode cX1_octet 46 = .ok (.iadd, 1) := by decide +kernel
theorem dX1_octet_47 : decode cX1_octet 47 = .ok (.baload, 1) := by decide +kernel
theorem dX1_octet_48 : decode cX1_octet 48 = .ok (.ifCond .eq 9, 3) := by decide +kernel
theorem dX1_octet_51 : decode cX1_octet 51 = .ok (.iconst 1, 1) := by decide +kernel
theorem dX1_octet_52 : decode cX1_octet 52 = .ok (.iload_n 3, 1) := by decide +kernel
theorem dX1_octet_53 : decode cX1_octet 53 = .ok (.ishl, 1) := by decide +kernel
theorem dX1_octet_54 : decode cX1_octet 54 = .ok (.goto 4, 3) := by decide +kernel
theorem dX1_octet_57 : decode cX1_octet 57 = .ok (.iconst 0, 1) := by decide +kernel
theorem dX1_octet_58 : decode cX1_octet 58 = .ok (.aload_n 0, 1) := by decide +kernel
theorem dX1_octet_59 : decode cX1_octet 59 = .ok (.getfield 19, 3) := by decide +kernel
theorem dX1_octet_62 : decode cX1_octet 62 = .ok (.bipush 8, 2) := by decide +kernel
theorem dX1_octet_64 : decode cX1_octet 64 = .ok (.iload_n 1, 1) := by decide +kernel
theorem dX1_octet_65 : decode cX1_octet 65 = .ok (.imul, 1) := by decide +kernel
theorem dX1_octet_66 : decode cX1_octet 66 = .ok (.iload_n 3, 1) := by decide +kernel
theorem dX1_octet_67 : decode cX1_octet 67 = .ok (.iadd, 1) := by decide +kernel
theorem dX1_octet_68 : decode cX1_octet 68 = .ok (.baload, 1) := by decide +kernel
theorem dX1_octet_69 : decode cX1_octet 69 = .ok (.ifCond .eq 11, 3) := by decide +kernel
theorem dX1_octet_72 : decode cX1_octet 72 = .ok (.sipush 256, 3) := by decide +kernel
theorem dX1_octet_75 : decode cX1_octet 75 = .ok (.iload_n 3, 1) := by decide +kernel
theorem dX1_octet_76 : decode cX1_octet 76 = .ok (.ishl, 1) := by decide +kernel
theorem dX1_octet_77 : decode cX1_octet 77 = .ok (.goto 4, 3) := by decide +kernel
theorem dX1_octet_80 : decode cX1_octet 80 = .ok (.iconst 0, 1) := by decide +kernel
theorem dX1_octet_81 : decode cX1_octet 81 = .ok (.iadd, 1) := by decide +kernel
theorem dX1_octet_82 : decode cX1_octet 82 = .ok (.iadd, 1) := by decide +kernel
theorem dX1_octet_83 : decode cX1_octet 83 = .ok (.istore_n 2, 1) := by decide +kernel
theorem dX1_octet_84 : decode cX1_octet 84 = .ok (.iinc 3 1, 3) := by decide +kernel
theorem dX1_octet_87 : decode cX1_octet 87 = .ok (.goto (-57), 3) := by decide +kernel
theorem dX1_octet_90 : decode cX1_octet 90 = .ok (.iload_n 2, 1) := by decide +kernel
theorem dX1_octet_91 : decode cX1_octet 91 = .ok (.ireturn, 1) := by decide +kernel
theorem dX1_count_0 : decode cX1_count 0 = .ok (.aload_n 0, 1) := by decide +kernel
theorem dX1_count_1 : decode cX1_count 1 = .ok (.iconst 0, 1) := by decide +kernel
theorem dX1_count_2 : decode cX1_count 2 = .ok (.putfield 28, 3) := by decide +kernel
theorem dX1_count_5 : decode cX1_count 5 = .ok (.iconst 0, 1) := by decide +kernel
theorem dX1_count_6 : decode cX1_count 6 = .ok (.istore_n 1, 1) := by decide +kernel
theorem dX1_count_7 : decode cX1_count 7 = .ok (.iconst 0, 1) := by decide +kernel
theorem dX1_count_8 : decode cX1_count 8 = .ok (.istore_n 2, 1) := by decide +kernel
theorem dX1_count_9 : decode cX1_count 9 = .ok (.iload_n 2, 1) := by decide +kernel
theorem dX1_count_10 : decode cX1_count 10 = .ok (.sipush 512, 3) := by decide +kernel
theorem dX1_count_13 : decode cX1_count 13 = .ok (.if_icmp .ge 21, 3) := by decide +kernel
theorem dX1_count_16 : decode cX1_count 16 = .ok (.aload_n 0, 1) := by decide +kernel
theorem dX1_count_17 : decode cX1_count 17 = .ok (.getfield 13, 3) := by decide +kernel
theorem dX1_count_20 : decode cX1_count 20 = .ok (.iload_n 2, 1) := by decide +kernel
theorem dX1_count_21 : decode cX1_count 21 = .ok (.baload, 1) := by decide +kernel
theorem dX1_count_22 : decode cX1_count 22 = .ok (.ifCond .eq 6, 3) := by decide +kernel
theorem dX1_count_25 : decode cX1_count 25 = .ok (.iinc 1 1, 3) := by decide +kernel
theorem dX1_count_28 : decode cX1_count 28 = .ok (.iinc 2 1, 3) := by decide +kernel
theorem dX1_count_31 : decode cX1_count 31 = .ok (.goto (-22), 3) := by decide +kernel
theorem dX1_count_34 : decode cX1_count 34 = .ok (.iload_n 1, 1) := by decide +kernel
theorem dX1_count_35 : decode cX1_count 35 = .ok (.ireturn, 1) := by decide +kernel
end
section
theorem dX1_op_0 : decode cX1_op 0 = .ok (.aload_n 0, 1) := by decide +kernel
theorem dX1_op_1 : decode cX1_op 1 = .ok (.iload_n 1, 1) := by decide +kernel
theorem dX1_op_2 : decode cX1_op 2 = .ok (.ifCond .lt 9, 3) := by decide +kernel
theorem dX1_op_5 : decode cX1_op 5 = .ok (.iload_n 1, 1) := by decide +kernel
theorem dX1_op_6 : decode cX1_op 6 = .ok (.bipush 12, 2) := by decide +kernel
theorem dX1_op_8 : decode cX1_op 8 = .ok (.if_icmp .le 7, 3) := by decide +kernel
theorem dX1_op_11 : decode cX1_op 11 = .ok (.iconst 1, 1) := by decide +kernel
theorem dX1_op_12 : decode cX1_op 12 = .ok (.goto 4, 3) := by decide +kernel
theorem dX1_op_15 : decode cX1_op 15 = .ok (.iconst 0, 1) := by decide +kernel
theorem dX1_op_16 : decode cX1_op 16 = .ok (.iconst 1, 1) := by decide +kernel
theorem dX1_op_17 : decode cX1_op 17 = .ok (.invokevirtual 36, 3) := by decide +kernel
theorem dX1_op_20 : decode cX1_op 20 = .ok (.ifCond .eq 4, 3) := by decide +kernel
theorem dX1_op_23 : decode cX1_op 23 = .ok (.return_, 1) := by decide +kernel
theorem dX1_op_24 : decode cX1_op 24 = .ok (.aload_n 0, 1) := by decide +kernel
theorem dX1_op_25 : decode cX1_op 25 = .ok (.iload_n 2, 1) := by decide +kernel
theorem dX1_op_26 : decode cX1_op 26 = .ok (.invokestatic 32, 3) := by decide +kernel
theorem dX1_op_29 : decode cX1_op 29 = .ok (.ifCond .ne 18, 3) := by decide +kernel
theorem dX1_op_32 : decode cX1_op 32 = .ok (.iload_n 3, 1) := by decide +kernel
theorem dX1_op_33 : decode cX1_op 33 = .ok (.invokestatic 32, 3) := by decide +kernel
theorem dX1_op_36 : decode cX1_op 36 = .ok (.ifCond .ne 11, 3) := by decide +kernel
theorem dX1_op_39 : decode cX1_op 39 = .ok (.iload 4, 2) := by decide +kernel
theorem dX1_op_41 : decode cX1_op 41 = .ok (.invokestatic 32, 3) := by decide +kernel
theorem dX1_op_44 : decode cX1_op 44 = .ok (.ifCond .eq 7, 3) := by decide +kernel
theorem dX1_op_47 : decode cX1_op 47 = .ok (.iconst 1, 1) := by decide +kernel
theorem dX1_op_48 : decode cX1_op 48 = .ok (.goto 4, 3) := by decide +kernel
theorem dX1_op_51 : decode cX1_op 51 = .ok (.iconst 0, 1) := by decide +kernel
theorem dX1_op_52 : decode cX1_op 52 = .ok (.iconst 2, 1) := by decide +kernel
theorem dX1_op_53 : decode cX1_op 53 = .ok (.invokevirtual 36, 3) := by decide +kernel
theorem dX1_op_56 : decode cX1_op 56 = .ok (.ifCond .eq 4, 3) := by decide +kernel
theorem dX1_op_59 : decode cX1_op 59 = .ok (.return_, 1) := by decide +kernel
theorem dX1_op_60 : decode cX1_op 60 = .ok (.aload_n 0, 1) := by decide +kernel
theorem dX1_op_61 : decode cX1_op 61 = .ok (.iload_n 3, 1) := by decide +kernel
theorem dX1_op_62 : decode cX1_op 62 = .ok (.invokevirtual 54, 3) := by decide +kernel
theorem dX1_op_65 : decode cX1_op 65 = .ok (.istore 5, 2) := by decide +kernel
theorem dX1_op_67 : decode cX1_op 67 = .ok (.aload_n 0, 1) := by decide +kernel
theorem dX1_op_68 : decode cX1_op 68 = .ok (.iload 4, 2) := by decide +kernel
theorem dX1_op_70 : decode cX1_op 70 = .ok (.invokevirtual 54, 3) := by decide +kernel
theorem dX1_op_73 : decode cX1_op 73 = .ok (.istore 6, 2) := by decide +kernel
theorem dX1_op_75 : decode cX1_op 75 = .ok (.aload_n 0, 1) := by decide +kernel
theorem dX1_op_76 : decode cX1_op 76 = .ok (.iload_n 3, 1) := by decide +kernel
theorem dX1_op_77 : decode cX1_op 77 = .ok (.invokevirtual 58, 3) := by decide +kernel
theorem dX1_op_80 : decode cX1_op 80 = .ok (.aload_n 0, 1) := by decide +kernel
theorem dX1_op_81 : decode cX1_op 81 = .ok (.iload 4, 2) := by decide +kernel
theorem dX1_op_83 : decode cX1_op 83 = .ok (.invokevirtual 58, 3) := by decide +kernel
theorem dX1_op_86 : decode cX1_op 86 = .ok (.if_icmp .ge 11, 3) := by decide +kernel
theorem dX1_op_89 : decode cX1_op 89 = .ok (.aload_n 0, 1) := by decide +kernel
theorem dX1_op_90 : decode cX1_op 90 = .ok (.iload_n 3, 1) := by decide +kernel
theorem dX1_op_91 : decode cX1_op 91 = .ok (.invokevirtual 58, 3) := by decide +kernel
theorem dX1_op_94 : decode cX1_op 94 = .ok (.goto 9, 3) := by decide +kernel
theorem dX1_op_97 : decode cX1_op 97 = .ok (.aload_n 0, 1) := by decide +kernel
theorem dX1_op_98 : decode cX1_op 98 = .ok (.iload 4, 2) := by decide +kernel
theorem dX1_op_100 : decode cX1_op 100 = .ok (.invokevirtual 58, 3) := by decide +kernel
theorem dX1_op_103 : decode cX1_op 103 = .ok (.istore 7, 2) := by decide +kernel
theorem dX1_op_105 : decode cX1_op 105 = .ok (.iload_n 1, 1) := by decide +kernel
theorem dX1_op_106 : decode cX1_op 106 = .ok (.tableswitch 664 0 11 #[62, 80, 98, 98, 98, 281, 281, 281, 297, 407, 475, 554], 62) := by decide +kernel
theorem dX1_op_168 : decode cX1_op 168 = .ok (.aload_n 0, 1) := by decide +kernel
theorem dX1_op_169 : decode cX1_op 169 = .ok (.iload 5, 2) := by decide +kernel
theorem dX1_op_171 : decode cX1_op 171 = .ok (.iload 6, 2) := by decide +kernel
theorem dX1_op_173 : decode cX1_op 173 = .ok (.iadd, 1) := by decide +kernel
theorem dX1_op_174 : decode cX1_op 174 = .ok (.invokevirtual 40, 3) := by decide +kernel
theorem dX1_op_177 : decode cX1_op 177 = .ok (.aload_n 0, 1) := by decide +kernel
theorem dX1_op_178 : decode cX1_op 178 = .ok (.iload 7, 2) := by decide +kernel
theorem dX1_op_180 : decode cX1_op 180 = .ok (.invokevirtual 61, 3) := by decide +kernel
theorem dX1_op_183 : decode cX1_op 183 = .ok (.goto 595, 3) := by decide +kernel
theorem dX1_op_186 : decode cX1_op 186 = .ok (.aload_n 0, 1) := by decide +kernel
theorem dX1_op_187 : decode cX1_op 187 = .ok (.iload 5, 2) := by decide +kernel
theorem dX1_op_189 : decode cX1_op 189 = .ok (.iload 6, 2) := by decide +kernel
theorem dX1_op_191 : decode cX1_op 191 = .ok (.isub, 1) := by decide +kernel
theorem dX1_op_192 : decode cX1_op 192 = .ok (.invokevirtual 40, 3) := by decide +kernel
theorem dX1_op_195 : decode cX1_op 195 = .ok (.aload_n 0, 1) := by decide +kernel
theorem dX1_op_196 : decode cX1_op 196 = .ok (.iload 7, 2) := by decide +kernel
theorem dX1_op_198 : decode cX1_op 198 = .ok (.invokevirtual 61, 3) := by decide +kernel
theorem dX1_op_201 : decode cX1_op 201 = .ok (.goto 577, 3) := by decide +kernel
theorem dX1_op_204 : decode cX1_op 204 = .ok (.aload_n 0, 1) := by decide +kernel
theorem dX1_op_205 : decode cX1_op 205 = .ok (.iload_n 1, 1) := by decide +kernel
theorem dX1_op_206 : decode cX1_op 206 = .ok (.iconst 2, 1) := by decide +kernel
theorem dX1_op_207 : decode cX1_op 207 = .ok (.if_icmp .ne 11, 3) := by decide +kernel
theorem dX1_op_210 : decode cX1_op 210 = .ok (.iload 5, 2) := by decide +kernel
theorem dX1_op_212 : decode cX1_op 212 = .ok (.iload 6, 2) := by decide +kernel
theorem dX1_op_214 : decode cX1_op 214 = .ok (.iand, 1) := by decide +kernel
theorem dX1_op_215 : decode cX1_op 215 = .ok (.goto 21, 3) := by decide +kernel
theorem dX1_op_218 : decode cX1_op 218 = .ok (.iload_n 1, 1) := by decide +kernel
theorem dX1_op_219 : decode cX1_op 219 = .ok (.iconst 3, 1) := by decide +kernel
theorem dX1_op_220 : decode cX1_op 220 = .ok (.if_icmp .ne 11, 3) := by decide +kernel
theorem dX1_op_223 : decode cX1_op 223 = .ok (.iload 5, 2) := by decide +kernel
theorem dX1_op_225 : decode cX1_op 225 = .ok (.iload 6, 2) := by decide +kernel
theorem dX1_op_227 : decode cX1_op 227 = .ok (.ior, 1) := by decide +kernel
theorem dX1_op_228 : decode cX1_op 228 = .ok (.goto 8, 3) := by decide +kernel
theorem dX1_op_231 : decode cX1_op 231 = .ok (.iload 5, 2) := by decide +kernel
theorem dX1_op_233 : decode cX1_op 233 = .ok (.iload 6, 2) := by decide +kernel
theorem dX1_op_235 : decode cX1_op 235 = .ok (.ixor, 1) := by decide +kernel
theorem dX1_op_236 : decode cX1_op 236 = .ok (.invokevirtual 40, 3) := by decide +kernel
theorem dX1_op_239 : decode cX1_op 239 = .ok (.iconst 0, 1) := by decide +kernel
theorem dX1_op_240 : decode cX1_op 240 = .ok (.istore 8, 2) := by decide +kernel
theorem dX1_op_242 : decode cX1_op 242 = .ok (.iload 8, 2) := by decide +kernel
theorem dX1_op_244 : decode cX1_op 244 = .ok (.bipush 32, 2) := by decide +kernel
theorem dX1_op_246 : decode cX1_op 246 = .ok (.if_icmp .ge 138, 3) := by decide +kernel
theorem dX1_op_249 : decode cX1_op 249 = .ok (.iload_n 1, 1) := by decide +kernel
theorem dX1_op_250 : decode cX1_op 250 = .ok (.iconst 4, 1) := by decide +kernel
theorem dX1_op_251 : decode cX1_op 251 = .ok (.if_icmp .ge 37, 3) := by decide +kernel
theorem dX1_op_254 : decode cX1_op 254 = .ok (.aload_n 0, 1) := by decide +kernel
theorem dX1_op_255 : decode cX1_op 255 = .ok (.iload_n 3, 1) := by decide +kernel
theorem dX1_op_256 : decode cX1_op 256 = .ok (.iload 8, 2) := by decide +kernel
theorem dX1_op_258 : decode cX1_op 258 = .ok (.invokevirtual 47, 3) := by decide +kernel
theorem dX1_op_261 : decode cX1_op 261 = .ok (.ifCond .ne 27, 3) := by decide +kernel
theorem dX1_op_264 : decode cX1_op 264 = .ok (.aload_n 0, 1) := by decide +kernel
theorem dX1_op_265 : decode cX1_op 265 = .ok (.iload_n 3, 1) := by decide +kernel
theorem dX1_op_266 : decode cX1_op 266 = .ok (.iload 8, 2) := by decide +kernel
theorem dX1_op_268 : decode cX1_op 268 = .ok (.invokevirtual 51, 3) := by decide +kernel
theorem dX1_op_271 : decode cX1_op 271 = .ok (.iload_n 1, 1) := by decide +kernel
theorem dX1_op_272 : decode cX1_op 272 = .ok (.iconst 3, 1) := by decide +kernel
theorem dX1_op_273 : decode cX1_op 273 = .ok (.if_icmp .ne 7, 3) := by decide +kernel
theorem dX1_op_276 : decode cX1_op 276 = .ok (.iconst 1, 1) := by decide +kernel
theorem dX1_op_277 : decode cX1_op 277 = .ok (.goto 4, 3) := by decide +kernel
theorem dX1_op_280 : decode cX1_op 280 = .ok (.iconst 0, 1) := by decide +kernel
theorem dX1_op_281 : decode cX1_op 281 = .ok (.if_icmp .ne 7, 3) := by decide +kernel
theorem dX1_op_284 : decode cX1_op 284 = .ok (.iconst 1, 1) := by decide +kernel
theorem dX1_op_285 : decode cX1_op 285 = .ok (.goto 4, 3) := by decide +kernel
theorem dX1_op_288 : decode cX1_op 288 = .ok (.iconst 0, 1) := by decide +kernel
theorem dX1_op_289 : decode cX1_op 289 = .ok (.istore 9, 2) := by decide +kernel
theorem dX1_op_291 : decode cX1_op 291 = .ok (.iload_n 1, 1) := by decide +kernel
theorem dX1_op_292 : decode cX1_op 292 = .ok (.iconst 4, 1) := by decide +kernel
theorem dX1_op_293 : decode cX1_op 293 = .ok (.if_icmp .ge 39, 3) := by decide +kernel
theorem dX1_op_296 : decode cX1_op 296 = .ok (.aload_n 0, 1) := by decide +kernel
theorem dX1_op_297 : decode cX1_op 297 = .ok (.iload 4, 2) := by decide +kernel
theorem dX1_op_299 : decode cX1_op 299 = .ok (.iload 8, 2) := by decide +kernel
theorem dX1_op_301 : decode cX1_op 301 = .ok (.invokevirtual 47, 3) := by decide +kernel
theorem dX1_op_304 : decode cX1_op 304 = .ok (.ifCond .ne 28, 3) := by decide +kernel
theorem dX1_op_307 : decode cX1_op 307 = .ok (.aload_n 0, 1) := by decide +kernel
theorem dX1_op_308 : decode cX1_op 308 = .ok (.iload 4, 2) := by decide +kernel
theorem dX1_op_310 : decode cX1_op 310 = .ok (.iload 8, 2) := by decide +kernel
theorem dX1_op_312 : decode cX1_op 312 = .ok (.invokevirtual 51, 3) := by decide +kernel
theorem dX1_op_315 : decode cX1_op 315 = .ok (.iload_n 1, 1) := by decide +kernel
theorem dX1_op_316 : decode cX1_op 316 = .ok (.iconst 3, 1) := by decide +kernel
theorem dX1_op_317 : decode cX1_op 317 = .ok (.if_icmp .ne 7, 3) := by decide +kernel
theorem dX1_op_320 : decode cX1_op 320 = .ok (.iconst 1, 1) := by decide +kernel
theorem dX1_op_321 : decode cX1_op 321 = .ok (.goto 4, 3) := by decide +kernel
theorem dX1_op_324 : decode cX1_op 324 = .ok (.iconst 0, 1) := by decide +kernel
theorem dX1_op_325 : decode cX1_op 325 = .ok (.if_icmp .ne 7, 3) := by decide +kernel
theorem dX1_op_328 : decode cX1_op 328 = .ok (.iconst 1, 1) := by decide +kernel
theorem dX1_op_329 : decode cX1_op 329 = .ok (.goto 4, 3) := by decide +kernel
theorem dX1_op_332 : decode cX1_op 332 = .ok (.iconst 0, 1) := by decide +kernel
theorem dX1_op_333 : decode cX1_op 333 = .ok (.istore 10, 2) := by decide +kernel
theorem dX1_op_335 : decode cX1_op 335 = .ok (.aload_n 0, 1) := by decide +kernel
theorem dX1_op_336 : decode cX1_op 336 = .ok (.getfield 25, 3) := by decide +kernel
theorem dX1_op_339 : decode cX1_op 339 = .ok (.iload 8, 2) := by decide +kernel
theorem dX1_op_341 : decode cX1_op 341 = .ok (.aload_n 0, 1) := by decide +kernel
theorem dX1_op_342 : decode cX1_op 342 = .ok (.iload_n 3, 1) := by decide +kernel
theorem dX1_op_343 : decode cX1_op 343 = .ok (.iload 8, 2) := by decide +kernel
theorem dX1_op_345 : decode cX1_op 345 = .ok (.invokevirtual 47, 3) := by decide +kernel
theorem dX1_op_348 : decode cX1_op 348 = .ok (.ifCond .ne 14, 3) := by decide +kernel
theorem dX1_op_351 : decode cX1_op 351 = .ok (.aload_n 0, 1) := by decide +kernel
theorem dX1_op_352 : decode cX1_op 352 = .ok (.iload 4, 2) := by decide +kernel
theorem dX1_op_354 : decode cX1_op 354 = .ok (.iload 8, 2) := by decide +kernel
theorem dX1_op_356 : decode cX1_op 356 = .ok (.invokevirtual 47, 3) := by decide +kernel
theorem dX1_op_359 : decode cX1_op 359 = .ok (.ifCond .eq 17, 3) := by decide +kernel
theorem dX1_op_362 : decode cX1_op 362 = .ok (.iload 9, 2) := by decide +kernel
theorem dX1_op_364 : decode cX1_op 364 = .ok (.ifCond .ne 12, 3) := by decide +kernel
theorem dX1_op_367 : decode cX1_op 367 = .ok (.iload 10, 2) := by decide +kernel
theorem dX1_op_369 : decode cX1_op 369 = .ok (.ifCond .ne 7, 3) := by decide +kernel
theorem dX1_op_372 : decode cX1_op 372 = .ok (.iconst 1, 1) := by decide +kernel
theorem dX1_op_373 : decode cX1_op 373 = .ok (.goto 4, 3) := by decide +kernel
theorem dX1_op_376 : decode cX1_op 376 = .ok (.iconst 0, 1) := by decide +kernel
theorem dX1_op_377 : decode cX1_op 377 = .ok (.bastore, 1) := by decide +kernel
theorem dX1_op_378 : decode cX1_op 378 = .ok (.iinc 8 1, 3) := by decide +kernel
theorem dX1_op_381 : decode cX1_op 381 = .ok (.goto (-139), 3) := by decide +kernel
theorem dX1_op_384 : decode cX1_op 384 = .ok (.goto 394, 3) := by decide +kernel
theorem dX1_op_387 : decode cX1_op 387 = .ok (.aload_n 0, 1) := by decide +kernel
theorem dX1_op_388 : decode cX1_op 388 = .ok (.iload_n 1, 1) := by decide +kernel
theorem dX1_op_389 : decode cX1_op 389 = .ok (.iload_n 3, 1) := by decide +kernel
theorem dX1_op_390 : decode cX1_op 390 = .ok (.iload 4, 2) := by decide +kernel
theorem dX1_op_392 : decode cX1_op 392 = .ok (.iload 6, 2) := by decide +kernel
theorem dX1_op_394 : decode cX1_op 394 = .ok (.bipush 31, 2) := by decide +kernel
theorem dX1_op_396 : decode cX1_op 396 = .ok (.iand, 1) := by decide +kernel
theorem dX1_op_397 : decode cX1_op 397 = .ok (.invokevirtual 64, 3) := by decide +kernel
theorem dX1_op_400 : decode cX1_op 400 = .ok (.goto 378, 3) := by decide +kernel
theorem dX1_op_403 : decode cX1_op 403 = .ok (.aload_n 0, 1) := by decide +kernel
theorem dX1_op_404 : decode cX1_op 404 = .ok (.iload 5, 2) := by decide +kernel
theorem dX1_op_406 : decode cX1_op 406 = .ok (.iload 6, 2) := by decide +kernel
theorem dX1_op_408 : decode cX1_op 408 = .ok (.imul, 1) := by decide +kernel
theorem dX1_op_409 : decode cX1_op 409 = .ok (.invokevirtual 40, 3) := by decide +kernel
theorem dX1_op_412 : decode cX1_op 412 = .ok (.aload_n 0, 1) := by decide +kernel
theorem dX1_op_413 : decode cX1_op 413 = .ok (.iload_n 3, 1) := by decide +kernel
theorem dX1_op_414 : decode cX1_op 414 = .ok (.invokevirtual 58, 3) := by decide +kernel
theorem dX1_op_417 : decode cX1_op 417 = .ok (.bipush 32, 2) := by decide +kernel
theorem dX1_op_419 : decode cX1_op 419 = .ok (.if_icmp .eq 14, 3) := by decide +kernel
theorem dX1_op_422 : decode cX1_op 422 = .ok (.aload_n 0, 1) := by decide +kernel
theorem dX1_op_423 : decode cX1_op 423 = .ok (.iload 4, 2) := by decide +kernel
theorem dX1_op_425 : decode cX1_op 425 = .ok (.invokevirtual 68, 3) := by decide +kernel
theorem dX1_op_428 : decode cX1_op 428 = .ok (.bipush 32, 2) := by decide +kernel
theorem dX1_op_430 : decode cX1_op 430 = .ok (.if_icmp .ne 8, 3) := by decide +kernel
theorem dX1_op_433 : decode cX1_op 433 = .ok (.bipush 32, 2) := by decide +kernel
theorem dX1_op_435 : decode cX1_op 435 = .ok (.goto 15, 3) := by decide +kernel
theorem dX1_op_438 : decode cX1_op 438 = .ok (.aload_n 0, 1) := by decide +kernel
theorem dX1_op_439 : decode cX1_op 439 = .ok (.iload_n 3, 1) := by decide +kernel
theorem dX1_op_440 : decode cX1_op 440 = .ok (.invokevirtual 58, 3) := by decide +kernel
theorem dX1_op_443 : decode cX1_op 443 = .ok (.aload_n 0, 1) := by decide +kernel
theorem dX1_op_444 : decode cX1_op 444 = .ok (.iload 4, 2) := by decide +kernel
theorem dX1_op_446 : decode cX1_op 446 = .ok (.invokevirtual 68, 3) := by decide +kernel
theorem dX1_op_449 : decode cX1_op 449 = .ok (.iadd, 1) := by decide +kernel
theorem dX1_op_450 : decode cX1_op 450 = .ok (.istore 8, 2) := by decide +kernel
theorem dX1_op_452 : decode cX1_op 452 = .ok (.aload_n 0, 1) := by decide +kernel
theorem dX1_op_453 : decode cX1_op 453 = .ok (.iload 4, 2) := by decide +kernel
theorem dX1_op_455 : decode cX1_op 455 = .ok (.invokevirtual 58, 3) := by decide +kernel
theorem dX1_op_458 : decode cX1_op 458 = .ok (.bipush 32, 2) := by decide +kernel
theorem dX1_op_460 : decode cX1_op 460 = .ok (.if_icmp .eq 13, 3) := by decide +kernel
theorem dX1_op_463 : decode cX1_op 463 = .ok (.aload_n 0, 1) := by decide +kernel
theorem dX1_op_464 : decode cX1_op 464 = .ok (.iload_n 3, 1) := by decide +kernel
theorem dX1_op_465 : decode cX1_op 465 = .ok (.invokevirtual 68, 3) := by decide +kernel
theorem dX1_op_468 : decode cX1_op 468 = .ok (.bipush 32, 2) := by decide +kernel
theorem dX1_op_470 : decode cX1_op 470 = .ok (.if_icmp .ne 8, 3) := by decide +kernel
theorem dX1_op_473 : decode cX1_op 473 = .ok (.bipush 32, 2) := by decide +kernel
theorem dX1_op_475 : decode cX1_op 475 = .ok (.goto 15, 3) := by decide +kernel
theorem dX1_op_478 : decode cX1_op 478 = .ok (.aload_n 0, 1) := by decide +kernel
theorem dX1_op_479 : decode cX1_op 479 = .ok (.iload 4, 2) := by decide +kernel
theorem dX1_op_481 : decode cX1_op 481 = .ok (.invokevirtual 58, 3) := by decide +kernel
theorem dX1_op_484 : decode cX1_op 484 = .ok (.aload_n 0, 1) := by decide +kernel
theorem dX1_op_485 : decode cX1_op 485 = .ok (.iload_n 3, 1) := by decide +kernel
theorem dX1_op_486 : decode cX1_op 486 = .ok (.invokevirtual 68, 3) := by decide +kernel
theorem dX1_op_489 : decode cX1_op 489 = .ok (.iadd, 1) := by decide +kernel
theorem dX1_op_490 : decode cX1_op 490 = .ok (.istore 9, 2) := by decide +kernel
theorem dX1_op_492 : decode cX1_op 492 = .ok (.aload_n 0, 1) := by decide +kernel
theorem dX1_op_493 : decode cX1_op 493 = .ok (.iload 8, 2) := by decide +kernel
theorem dX1_op_495 : decode cX1_op 495 = .ok (.iload 9, 2) := by decide +kernel
theorem dX1_op_497 : decode cX1_op 497 = .ok (.if_icmp .ge 8, 3) := by decide +kernel
theorem dX1_op_500 : decode cX1_op 500 = .ok (.iload 8, 2) := by decide +kernel
theorem dX1_op_502 : decode cX1_op 502 = .ok (.goto 5, 3) := by decide +kernel
theorem dX1_op_505 : decode cX1_op 505 = .ok (.iload 9, 2) := by decide +kernel
theorem dX1_op_507 : decode cX1_op 507 = .ok (.invokevirtual 61, 3) := by decide +kernel
theorem dX1_op_510 : decode cX1_op 510 = .ok (.goto 268, 3) := by decide +kernel
theorem dX1_op_513 : decode cX1_op 513 = .ok (.aload_n 0, 1) := by decide +kernel
theorem dX1_op_514 : decode cX1_op 514 = .ok (.iload 5, 2) := by decide +kernel
theorem dX1_op_516 : decode cX1_op 516 = .ok (.iload 6, 2) := by decide +kernel
theorem dX1_op_518 : decode cX1_op 518 = .ok (.if_icmp .ge 7, 3) := by decide +kernel
theorem dX1_op_521 : decode cX1_op 521 = .ok (.iconst 1, 1) := by decide +kernel
theorem dX1_op_522 : decode cX1_op 522 = .ok (.goto 4, 3) := by decide +kernel
theorem dX1_op_525 : decode cX1_op 525 = .ok (.iconst 0, 1) := by decide +kernel
theorem dX1_op_526 : decode cX1_op 526 = .ok (.invokevirtual 40, 3) := by decide +kernel
theorem dX1_op_529 : decode cX1_op 529 = .ok (.aload_n 0, 1) := by decide +kernel
theorem dX1_op_530 : decode cX1_op 530 = .ok (.getfield 25, 3) := by decide +kernel
theorem dX1_op_533 : decode cX1_op 533 = .ok (.iconst 0, 1) := by decide +kernel
theorem dX1_op_534 : decode cX1_op 534 = .ok (.aload_n 0, 1) := by decide +kernel
theorem dX1_op_535 : decode cX1_op 535 = .ok (.iload_n 3, 1) := by decide +kernel
theorem dX1_op_536 : decode cX1_op 536 = .ok (.iconst 1, 1) := by decide +kernel
theorem dX1_op_537 : decode cX1_op 537 = .ok (.iconst 1, 1) := by decide +kernel
theorem dX1_op_538 : decode cX1_op 538 = .ok (.invokevirtual 71, 3) := by decide +kernel
theorem dX1_op_541 : decode cX1_op 541 = .ok (.aload_n 0, 1) := by decide +kernel
theorem dX1_op_542 : decode cX1_op 542 = .ok (.iload 4, 2) := by decide +kernel
theorem dX1_op_544 : decode cX1_op 544 = .ok (.iconst 0, 1) := by decide +kernel
theorem dX1_op_545 : decode cX1_op 545 = .ok (.iconst 1, 1) := by decide +kernel
theorem dX1_op_546 : decode cX1_op 546 = .ok (.invokevirtual 71, 3) := by decide +kernel
theorem dX1_op_549 : decode cX1_op 549 = .ok (.lcmp, 1) := by decide +kernel
theorem dX1_op_550 : decode cX1_op 550 = .ok (.ifCond .lt 26, 3) := by decide +kernel
theorem dX1_op_553 : decode cX1_op 553 = .ok (.aload_n 0, 1) := by decide +kernel
theorem dX1_op_554 : decode cX1_op 554 = .ok (.iload_n 3, 1) := by decide +kernel
theorem dX1_op_555 : decode cX1_op 555 = .ok (.iconst 0, 1) := by decide +kernel
theorem dX1_op_556 : decode cX1_op 556 = .ok (.iconst 1, 1) := by decide +kernel
theorem dX1_op_557 : decode cX1_op 557 = .ok (.invokevirtual 71, 3) := by decide +kernel
theorem dX1_op_560 : decode cX1_op 560 = .ok (.aload_n 0, 1) := by decide +kernel
theorem dX1_op_561 : decode cX1_op 561 = .ok (.iload 4, 2) := by decide +kernel
theorem dX1_op_563 : decode cX1_op 563 = .ok (.iconst 1, 1) := by decide +kernel
theorem dX1_op_564 : decode cX1_op 564 = .ok (.iconst 1, 1) := by decide +kernel
theorem dX1_op_565 : decode cX1_op 565 = .ok (.invokevirtual 71, 3) := by decide +kernel
theorem dX1_op_568 : decode cX1_op 568 = .ok (.lcmp, 1) := by decide +kernel
theorem dX1_op_569 : decode cX1_op 569 = .ok (.ifCond .ge 7, 3) := by decide +kernel
theorem dX1_op_572 : decode cX1_op 572 = .ok (.iconst 1, 1) := by decide +kernel
theorem dX1_op_573 : decode cX1_op 573 = .ok (.goto 4, 3) := by decide +kernel
theorem dX1_op_576 : decode cX1_op 576 = .ok (.iconst 0, 1) := by decide +kernel
theorem dX1_op_577 : decode cX1_op 577 = .ok (.bastore, 1) := by decide +kernel
theorem dX1_op_578 : decode cX1_op 578 = .ok (.goto 200, 3) := by decide +kernel
theorem dX1_op_581 : decode cX1_op 581 = .ok (.aload_n 0, 1) := by decide +kernel
theorem dX1_op_582 : decode cX1_op 582 = .ok (.iload 5, 2) := by decide +kernel
theorem dX1_op_584 : decode cX1_op 584 = .ok (.i2l, 1) := by decide +kernel
theorem dX1_op_585 : decode cX1_op 585 = .ok (.ldc2_w 75, 3) := by decide +kernel
theorem dX1_op_588 : decode cX1_op 588 = .ok (.land, 1) := by decide +kernel
theorem dX1_op_589 : decode cX1_op 589 = .ok (.iload 6, 2) := by decide +kernel
theorem dX1_op_591 : decode cX1_op 591 = .ok (.i2l, 1) := by decide +kernel
theorem dX1_op_592 : decode cX1_op 592 = .ok (.ldc2_w 75, 3) := by decide +kernel
theorem dX1_op_595 : decode cX1_op 595 = .ok (.land, 1) := by decide +kernel
theorem dX1_op_596 : decode cX1_op 596 = .ok (.lcmp, 1) := by decide +kernel
theorem dX1_op_597 : decode cX1_op 597 = .ok (.ifCond .ge 7, 3) := by decide +kernel
theorem dX1_op_600 : decode cX1_op 600 = .ok (.iconst 1, 1) := by decide +kernel
theorem dX1_op_601 : decode cX1_op 601 = .ok (.goto 4, 3) := by decide +kernel
theorem dX1_op_604 : decode cX1_op 604 = .ok (.iconst 0, 1) := by decide +kernel
theorem dX1_op_605 : decode cX1_op 605 = .ok (.invokevirtual 40, 3) := by decide +kernel
theorem dX1_op_608 : decode cX1_op 608 = .ok (.aload_n 0, 1) := by decide +kernel
theorem dX1_op_609 : decode cX1_op 609 = .ok (.getfield 25, 3) := by decide +kernel
theorem dX1_op_612 : decode cX1_op 612 = .ok (.iconst 0, 1) := by decide +kernel
theorem dX1_op_613 : decode cX1_op 613 = .ok (.aload_n 0, 1) := by decide +kernel
theorem dX1_op_614 : decode cX1_op 614 = .ok (.iload_n 3, 1) := by decide +kernel
theorem dX1_op_615 : decode cX1_op 615 = .ok (.iconst 1, 1) := by decide +kernel
theorem dX1_op_616 : decode cX1_op 616 = .ok (.iconst 0, 1) := by decide +kernel
theorem dX1_op_617 : decode cX1_op 617 = .ok (.invokevirtual 71, 3) := by decide +kernel
theorem dX1_op_620 : decode cX1_op 620 = .ok (.aload_n 0, 1) := by decide +kernel
theorem dX1_op_621 : decode cX1_op 621 = .ok (.iload 4, 2) := by decide +kernel
theorem dX1_op_623 : decode cX1_op 623 = .ok (.iconst 0, 1) := by decide +kernel
theorem dX1_op_624 : decode cX1_op 624 = .ok (.iconst 0, 1) := by decide +kernel
theorem dX1_op_625 : decode cX1_op 625 = .ok (.invokevirtual 71, 3) := by decide +kernel
theorem dX1_op_628 : decode cX1_op 628 = .ok (.lcmp, 1) := by decide +kernel
theorem dX1_op_629 : decode cX1_op 629 = .ok (.ifCond .lt 26, 3) := by decide +kernel
theorem dX1_op_632 : decode cX1_op 632 = .ok (.aload_n 0, 1) := by decide +kernel
theorem dX1_op_633 : decode cX1_op 633 = .ok (.iload_n 3, 1) := by decide +kernel
theorem dX1_op_634 : decode cX1_op 634 = .ok (.iconst 0, 1) := by decide +kernel
theorem dX1_op_635 : decode cX1_op 635 = .ok (.iconst 0, 1) := by decide +kernel
theorem dX1_op_636 : decode cX1_op 636 = .ok (.invokevirtual 71, 3) := by decide +kernel
theorem dX1_op_639 : decode cX1_op 639 = .ok (.aload_n 0, 1) := by decide +kernel
theorem dX1_op_640 : decode cX1_op 640 = .ok (.iload 4, 2) := by decide +kernel
theorem dX1_op_642 : decode cX1_op 642 = .ok (.iconst 1, 1) := by decide +kernel
theorem dX1_op_643 : decode cX1_op 643 = .ok (.iconst 0, 1) := by decide +kernel
theorem dX1_op_644 : decode cX1_op 644 = .ok (.invokevirtual 71, 3) := by decide +kernel
theorem dX1_op_647 : decode cX1_op 647 = .ok (.lcmp, 1) := by decide +kernel
theorem dX1_op_648 : decode cX1_op 648 = .ok (.ifCond .ge 7, 3) := by decide +kernel
theorem dX1_op_651 : decode cX1_op 651 = .ok (.iconst 1, 1) := by decide +kernel
theorem dX1_op_652 : decode cX1_op 652 = .ok (.goto 4, 3) := by decide +kernel
theorem dX1_op_655 : decode cX1_op 655 = .ok (.iconst 0, 1) := by decide +kernel
theorem dX1_op_656 : decode cX1_op 656 = .ok (.bastore, 1) := by decide +kernel
theorem dX1_op_657 : decode cX1_op 657 = .ok (.goto 121, 3) := by decide +kernel
theorem dX1_op_660 : decode cX1_op 660 = .ok (.aload_n 0, 1) := by decide +kernel
theorem dX1_op_661 : decode cX1_op 661 = .ok (.iload 5, 2) := by decide +kernel
theorem dX1_op_663 : decode cX1_op 663 = .ok (.iload 6, 2) := by decide +kernel
theorem dX1_op_665 : decode cX1_op 665 = .ok (.if_icmp .ne 7, 3) := by decide +kernel
theorem dX1_op_668 : decode cX1_op 668 = .ok (.iconst 1, 1) := by decide +kernel
theorem dX1_op_669 : decode cX1_op 669 = .ok (.goto 4, 3) := by decide +kernel
theorem dX1_op_672 : decode cX1_op 672 = .ok (.iconst 0, 1) := by decide +kernel
theorem dX1_op_673 : decode cX1_op 673 = .ok (.invokevirtual 40, 3) := by decide +kernel
theorem dX1_op_676 : decode cX1_op 676 = .ok (.iconst 0, 1) := by decide +kernel
theorem dX1_op_677 : decode cX1_op 677 = .ok (.istore 8, 2) := by decide +kernel
theorem dX1_op_679 : decode cX1_op 679 = .ok (.iconst 1, 1) := by decide +kernel
theorem dX1_op_680 : decode cX1_op 680 = .ok (.istore 9, 2) := by decide +kernel
theorem dX1_op_682 : decode cX1_op 682 = .ok (.iconst 0, 1) := by decide +kernel
theorem dX1_op_683 : decode cX1_op 683 = .ok (.istore 10, 2) := by decide +kernel
theorem dX1_op_685 : decode cX1_op 685 = .ok (.iload 10, 2) := by decide +kernel
theorem dX1_op_687 : decode cX1_op 687 = .ok (.bipush 32, 2) := by decide +kernel
theorem dX1_op_689 : decode cX1_op 689 = .ok (.if_icmp .ge 57, 3) := by decide +kernel
theorem dX1_op_692 : decode cX1_op 692 = .ok (.aload_n 0, 1) := by decide +kernel
theorem dX1_op_693 : decode cX1_op 693 = .ok (.iload_n 3, 1) := by decide +kernel
theorem dX1_op_694 : decode cX1_op 694 = .ok (.iload 10, 2) := by decide +kernel
theorem dX1_op_696 : decode cX1_op 696 = .ok (.invokevirtual 47, 3) := by decide +kernel
theorem dX1_op_699 : decode cX1_op 699 = .ok (.ifCond .ne 14, 3) := by decide +kernel
theorem dX1_op_702 : decode cX1_op 702 = .ok (.aload_n 0, 1) := by decide +kernel
theorem dX1_op_703 : decode cX1_op 703 = .ok (.iload 4, 2) := by decide +kernel
theorem dX1_op_705 : decode cX1_op 705 = .ok (.iload 10, 2) := by decide +kernel
theorem dX1_op_707 : decode cX1_op 707 = .ok (.invokevirtual 47, 3) := by decide +kernel
theorem dX1_op_710 : decode cX1_op 710 = .ok (.ifCond .eq 9, 3) := by decide +kernel
theorem dX1_op_713 : decode cX1_op 713 = .ok (.iconst 0, 1) := by decide +kernel
theorem dX1_op_714 : decode cX1_op 714 = .ok (.istore 9, 2) := by decide +kernel
theorem dX1_op_716 : decode cX1_op 716 = .ok (.goto 24, 3) := by decide +kernel
theorem dX1_op_719 : decode cX1_op 719 = .ok (.aload_n 0, 1) := by decide +kernel
theorem dX1_op_720 : decode cX1_op 720 = .ok (.iload_n 3, 1) := by decide +kernel
theorem dX1_op_721 : decode cX1_op 721 = .ok (.iload 10, 2) := by decide +kernel
theorem dX1_op_723 : decode cX1_op 723 = .ok (.invokevirtual 51, 3) := by decide +kernel
theorem dX1_op_726 : decode cX1_op 726 = .ok (.aload_n 0, 1) := by decide +kernel
theorem dX1_op_727 : decode cX1_op 727 = .ok (.iload 4, 2) := by decide +kernel
theorem dX1_op_729 : decode cX1_op 729 = .ok (.iload 10, 2) := by decide +kernel
theorem dX1_op_731 : decode cX1_op 731 = .ok (.invokevirtual 51, 3) := by decide +kernel
theorem dX1_op_734 : decode cX1_op 734 = .ok (.if_icmp .eq 6, 3) := by decide +kernel
theorem dX1_op_737 : decode cX1_op 737 = .ok (.iconst 1, 1) := by decide +kernel
theorem dX1_op_738 : decode cX1_op 738 = .ok (.istore 8, 2) := by decide +kernel
theorem dX1_op_740 : decode cX1_op 740 = .ok (.iinc 10 1, 3) := by decide +kernel
theorem dX1_op_743 : decode cX1_op 743 = .ok (.goto (-58), 3) := by decide +kernel
theorem dX1_op_746 : decode cX1_op 746 = .ok (.aload_n 0, 1) := by decide +kernel
theorem dX1_op_747 : decode cX1_op 747 = .ok (.getfield 25, 3) := by decide +kernel
theorem dX1_op_750 : decode cX1_op 750 = .ok (.iconst 0, 1) := by decide +kernel
theorem dX1_op_751 : decode cX1_op 751 = .ok (.iload 8, 2) := by decide +kernel
theorem dX1_op_753 : decode cX1_op 753 = .ok (.ifCond .ne 12, 3) := by decide +kernel
theorem dX1_op_756 : decode cX1_op 756 = .ok (.iload 9, 2) := by decide +kernel
theorem dX1_op_758 : decode cX1_op 758 = .ok (.ifCond .ne 7, 3) := by decide +kernel
theorem dX1_op_761 : decode cX1_op 761 = .ok (.iconst 1, 1) := by decide +kernel
theorem dX1_op_762 : decode cX1_op 762 = .ok (.goto 4, 3) := by decide +kernel
theorem dX1_op_765 : decode cX1_op 765 = .ok (.iconst 0, 1) := by decide +kernel
theorem dX1_op_766 : decode cX1_op 766 = .ok (.bastore, 1) := by decide +kernel
theorem dX1_op_767 : decode cX1_op 767 = .ok (.goto 11, 3) := by decide +kernel
theorem dX1_op_770 : decode cX1_op 770 = .ok (.aload_n 0, 1) := by decide +kernel
theorem dX1_op_771 : decode cX1_op 771 = .ok (.iload_n 2, 1) := by decide +kernel
theorem dX1_op_772 : decode cX1_op 772 = .ok (.iload_n 3, 1) := by decide +kernel
theorem dX1_op_773 : decode cX1_op 773 = .ok (.iload 4, 2) := by decide +kernel
theorem dX1_op_775 : decode cX1_op 775 = .ok (.invokevirtual 77, 3) := by decide +kernel
theorem dX1_op_778 : decode cX1_op 778 = .ok (.aload_n 0, 1) := by decide +kernel
theorem dX1_op_779 : decode cX1_op 779 = .ok (.iload_n 2, 1) := by decide +kernel
theorem dX1_op_780 : decode cX1_op 780 = .ok (.invokevirtual 44, 3) := by decide +kernel
theorem dX1_op_783 : decode cX1_op 783 = .ok (.return_, 1) := by decide +kernel
end
section
theorem dJ6_bitCount_0 : decode cJ6_bitCount 0 = .ok (.iload_n 0, 1) := by decide +kernel
theorem dJ6_bitCount_1 : decode cJ6_bitCount 1 = .ok (.iload_n 0, 1) := by decide +kernel
theorem dJ6_bitCount_2 : decode cJ6_bitCount 2 = .ok (.iconst 1, 1) := by decide +kernel
theorem dJ6_bitCount_3 : decode cJ6_bitCount 3 = .ok (.iushr, 1) := by decide +kernel
theorem dJ6_bitCount_4 : decode cJ6_bitCount 4 = .ok (.ldc_w 265, 3) := by decide +kernel
theorem dJ6_bitCount_7 : decode cJ6_bitCount 7 = .ok (.iand, 1) := by decide +kernel
theorem dJ6_bitCount_8 : decode cJ6_bitCount 8 = .ok (.isub, 1) := by decide +kernel
theorem dJ6_bitCount_9 : decode cJ6_bitCount 9 = .ok (.istore_n 0, 1) := by decide +kernel
theorem dJ6_bitCount_10 : decode cJ6_bitCount 10 = .ok (.iload_n 0, 1) := by decide +kernel
theorem dJ6_bitCount_11 : decode cJ6_bitCount 11 = .ok (.ldc_w 266, 3) := by decide +kernel
theorem dJ6_bitCount_14 : decode cJ6_bitCount 14 = .ok (.iand, 1) := by decide +kernel
theorem dJ6_bitCount_15 : decode cJ6_bitCount 15 = .ok (.iload_n 0, 1) := by decide +kernel
theorem dJ6_bitCount_16 : decode cJ6_bitCount 16 = .ok (.iconst 2, 1) := by decide +kernel
theorem dJ6_bitCount_17 : decode cJ6_bitCount 17 = .ok (.iushr, 1) := by decide +kernel
theorem dJ6_bitCount_18 : decode cJ6_bitCount 18 = .ok (.ldc_w 266, 3) := by decide +kernel
theorem dJ6_bitCount_21 : decode cJ6_bitCount 21 = .ok (.iand, 1) := by decide +kernel
theorem dJ6_bitCount_22 : decode cJ6_bitCount 22 = .ok (.iadd, 1) := by decide +kernel
theorem dJ6_bitCount_23 : decode cJ6_bitCount 23 = .ok (.istore_n 0, 1) := by decide +kernel
theorem dJ6_bitCount_24 : decode cJ6_bitCount 24 = .ok (.iload_n 0, 1) := by decide +kernel
theorem dJ6_bitCount_25 : decode cJ6_bitCount 25 = .ok (.iload_n 0, 1) := by decide +kernel
theorem dJ6_bitCount_26 : decode cJ6_bitCount 26 = .ok (.iconst 4, 1) := by decide +kernel
theorem dJ6_bitCount_27 : decode cJ6_bitCount 27 = .ok (.iushr, 1) := by decide +kernel
theorem dJ6_bitCount_28 : decode cJ6_bitCount 28 = .ok (.iadd, 1) := by decide +kernel
theorem dJ6_bitCount_29 : decode cJ6_bitCount 29 = .ok (.ldc_w 267, 3) := by decide +kernel
theorem dJ6_bitCount_32 : decode cJ6_bitCount 32 = .ok (.iand, 1) := by decide +kernel
theorem dJ6_bitCount_33 : decode cJ6_bitCount 33 = .ok (.istore_n 0, 1) := by decide +kernel
theorem dJ6_bitCount_34 : decode cJ6_bitCount 34 = .ok (.iload_n 0, 1) := by decide +kernel
theorem dJ6_bitCount_35 : decode cJ6_bitCount 35 = .ok (.iload_n 0, 1) := by decide +kernel
theorem dJ6_bitCount_36 : decode cJ6_bitCount 36 = .ok (.bipush 8, 2) := by decide +kernel
theorem dJ6_bitCount_38 : decode cJ6_bitCount 38 = .ok (.iushr, 1) := by decide +kernel
theorem dJ6_bitCount_39 : decode cJ6_bitCount 39 = .ok (.iadd, 1) := by decide +kernel
theorem dJ6_bitCount_40 : decode cJ6_bitCount 40 = .ok (.istore_n 0, 1) := by decide +kernel
theorem dJ6_bitCount_41 : decode cJ6_bitCount 41 = .ok (.iload_n 0, 1) := by decide +kernel
theorem dJ6_bitCount_42 : decode cJ6_bitCount 42 = .ok (.iload_n 0, 1) := by decide +kernel
theorem dJ6_bitCount_43 : decode cJ6_bitCount 43 = .ok (.bipush 16, 2) := by decide +kernel
theorem dJ6_bitCount_45 : decode cJ6_bitCount 45 = .ok (.iushr, 1) := by decide +kernel
theorem dJ6_bitCount_46 : decode cJ6_bitCount 46 = .ok (.iadd, 1) := by decide +kernel
theorem dJ6_bitCount_47 : decode cJ6_bitCount 47 = .ok (.istore_n 0, 1) := by decide +kernel
theorem dJ6_bitCount_48 : decode cJ6_bitCount 48 = .ok (.iload_n 0, 1) := by decide +kernel
theorem dJ6_bitCount_49 : decode cJ6_bitCount 49 = .ok (.bipush 63, 2) := by decide +kernel
theorem dJ6_bitCount_51 : decode cJ6_bitCount 51 = .ok (.iand, 1) := by decide +kernel
theorem dJ6_bitCount_52 : decode cJ6_bitCount 52 = .ok (.ireturn, 1) := by decide +kernel
theorem dJ6_numberOfTrailingZeros_0 : decode cJ6_numberOfTrailingZeros 0 = .ok (.iload_n 0, 1) := by decide +kernel
theorem dJ6_numberOfTrailingZeros_1 : decode cJ6_numberOfTrailingZeros 1 = .ok (.iconst (-1), 1) := by decide +kernel
theorem dJ6_numberOfTrailingZeros_2 : decode cJ6_numberOfTrailingZeros 2 = .ok (.ixor, 1) := by decide +kernel
theorem dJ6_numberOfTrailingZeros_3 : decode cJ6_numberOfTrailingZeros 3 = .ok (.iload_n 0, 1) := by decide +kernel
theorem dJ6_numberOfTrailingZeros_4 : decode cJ6_numberOfTrailingZeros 4 = .ok (.iconst 1, 1) := by decide +kernel
theorem dJ6_numberOfTrailingZeros_5 : decode cJ6_numberOfTrailingZeros 5 = .ok (.isub, 1) := by decide +kernel
theorem dJ6_numberOfTrailingZeros_6 : decode cJ6_numberOfTrailingZeros 6 = .ok (.iand, 1) := by decide +kernel
theorem dJ6_numberOfTrailingZeros_7 : decode cJ6_numberOfTrailingZeros 7 = .ok (.istore_n 0, 1) := by decide +kernel
theorem dJ6_numberOfTrailingZeros_8 : decode cJ6_numberOfTrailingZeros 8 = .ok (.iload_n 0, 1) := by decide +kernel
theorem dJ6_numberOfTrailingZeros_9 : decode cJ6_numberOfTrailingZeros 9 = .ok (.ifCond .gt 8, 3) := by decide +kernel
theorem dJ6_numberOfTrailingZeros_12 : decode cJ6_numberOfTrailingZeros 12 = .ok (.iload_n 0, 1) := by decide +kernel
theorem dJ6_numberOfTrailingZeros_13 : decode cJ6_numberOfTrailingZeros 13 = .ok (.bipush 32, 2) := by decide +kernel
theorem dJ6_numberOfTrailingZeros_15 : decode cJ6_numberOfTrailingZeros 15 = .ok (.iand, 1) := by decide +kernel
theorem dJ6_numberOfTrailingZeros_16 : decode cJ6_numberOfTrailingZeros 16 = .ok (.ireturn, 1) := by decide +kernel
theorem dJ6_numberOfTrailingZeros_17 : decode cJ6_numberOfTrailingZeros 17 = .ok (.iconst 1, 1) := by decide +kernel
theorem dJ6_numberOfTrailingZeros_18 : decode cJ6_numberOfTrailingZeros 18 = .ok (.istore_n 1, 1) := by decide +kernel
theorem dJ6_numberOfTrailingZeros_19 : decode cJ6_numberOfTrailingZeros 19 = .ok (.iload_n 0, 1) := by decide +kernel
theorem dJ6_numberOfTrailingZeros_20 : decode cJ6_numberOfTrailingZeros 20 = .ok (.ldc_w 264, 3) := by decide +kernel
theorem dJ6_numberOfTrailingZeros_23 : decode cJ6_numberOfTrailingZeros 23 = .ok (.if_icmp .le 11, 3) := by decide +kernel
theorem dJ6_numberOfTrailingZeros_26 : decode cJ6_numberOfTrailingZeros 26 = .ok (.iinc 1 16, 3) := by decide +kernel
theorem dJ6_numberOfTrailingZeros_29 : decode cJ6_numberOfTrailingZeros 29 = .ok (.iload_n 0, 1) := by decide +kernel
theorem dJ6_numberOfTrailingZeros_30 : decode cJ6_numberOfTrailingZeros 30 = .ok (.bipush 16, 2) := by decide +kernel
theorem dJ6_numberOfTrailingZeros_32 : decode cJ6_numberOfTrailingZeros 32 = .ok (.iushr, 1) := by decide +kernel
theorem dJ6_numberOfTrailingZeros_33 : decode cJ6_numberOfTrailingZeros 33 = .ok (.istore_n 0, 1) := by decide +kernel
theorem dJ6_numberOfTrailingZeros_34 : decode cJ6_numberOfTrailingZeros 34 = .ok (.iload_n 0, 1) := by decide +kernel
theorem dJ6_numberOfTrailingZeros_35 : decode cJ6_numberOfTrailingZeros 35 = .ok (.sipush 256, 3) := by decide +kernel
theorem dJ6_numberOfTrailingZeros_38 : decode cJ6_numberOfTrailingZeros 38 = .ok (.if_icmp .le 11, 3) := by decide +kernel
theorem dJ6_numberOfTrailingZeros_41 : decode cJ6_numberOfTrailingZeros 41 = .ok (.iinc 1 8, 3) := by decide +kernel
theorem dJ6_numberOfTrailingZeros_44 : decode cJ6_numberOfTrailingZeros 44 = .ok (.iload_n 0, 1) := by decide +kernel
theorem dJ6_numberOfTrailingZeros_45 : decode cJ6_numberOfTrailingZeros 45 = .ok (.bipush 8, 2) := by decide +kernel
theorem dJ6_numberOfTrailingZeros_47 : decode cJ6_numberOfTrailingZeros 47 = .ok (.iushr, 1) := by decide +kernel
theorem dJ6_numberOfTrailingZeros_48 : decode cJ6_numberOfTrailingZeros 48 = .ok (.istore_n 0, 1) := by decide +kernel
theorem dJ6_numberOfTrailingZeros_49 : decode cJ6_numberOfTrailingZeros 49 = .ok (.iload_n 0, 1) := by decide +kernel
theorem dJ6_numberOfTrailingZeros_50 : decode cJ6_numberOfTrailingZeros 50 = .ok (.bipush 16, 2) := by decide +kernel
theorem dJ6_numberOfTrailingZeros_52 : decode cJ6_numberOfTrailingZeros 52 = .ok (.if_icmp .le 10, 3) := by decide +kernel
theorem dJ6_numberOfTrailingZeros_55 : decode cJ6_numberOfTrailingZeros 55 = .ok (.iinc 1 4, 3) := by decide +kernel
theorem dJ6_numberOfTrailingZeros_58 : decode cJ6_numberOfTrailingZeros 58 = .ok (.iload_n 0, 1) := by decide +kernel
theorem dJ6_numberOfTrailingZeros_59 : decode cJ6_numberOfTrailingZeros 59 = .ok (.iconst 4, 1) := by decide +kernel
theorem dJ6_numberOfTrailingZeros_60 : decode cJ6_numberOfTrailingZeros 60 = .ok (.iushr, 1) := by decide +kernel
theorem dJ6_numberOfTrailingZeros_61 : decode cJ6_numberOfTrailingZeros 61 = .ok (.istore_n 0, 1) := by decide +kernel
theorem dJ6_numberOfTrailingZeros_62 : decode cJ6_numberOfTrailingZeros 62 = .ok (.iload_n 0, 1) := by decide +kernel
theorem dJ6_numberOfTrailingZeros_63 : decode cJ6_numberOfTrailingZeros 63 = .ok (.iconst 4, 1) := by decide +kernel
theorem dJ6_numberOfTrailingZeros_64 : decode cJ6_numberOfTrailingZeros 64 = .ok (.if_icmp .le 10, 3) := by decide +kernel
theorem dJ6_numberOfTrailingZeros_67 : decode cJ6_numberOfTrailingZeros 67 = .ok (.iinc 1 2, 3) := by decide +kernel
theorem dJ6_numberOfTrailingZeros_70 : decode cJ6_numberOfTrailingZeros 70 = .ok (.iload_n 0, 1) := by decide +kernel
theorem dJ6_numberOfTrailingZeros_71 : decode cJ6_numberOfTrailingZeros 71 = .ok (.iconst 2, 1) := by decide +kernel
theorem dJ6_numberOfTrailingZeros_72 : decode cJ6_numberOfTrailingZeros 72 = .ok (.iushr, 1) := by decide +kernel
theorem dJ6_numberOfTrailingZeros_73 : decode cJ6_numberOfTrailingZeros 73 = .ok (.istore_n 0, 1) := by decide +kernel
theorem dJ6_numberOfTrailingZeros_74 : decode cJ6_numberOfTrailingZeros 74 = .ok (.iload_n 1, 1) := by decide +kernel
theorem dJ6_numberOfTrailingZeros_75 : decode cJ6_numberOfTrailingZeros 75 = .ok (.iload_n 0, 1) := by decide +kernel
theorem dJ6_numberOfTrailingZeros_76 : decode cJ6_numberOfTrailingZeros 76 = .ok (.iconst 1, 1) := by decide +kernel
theorem dJ6_numberOfTrailingZeros_77 : decode cJ6_numberOfTrailingZeros 77 = .ok (.iushr, 1) := by decide +kernel
theorem dJ6_numberOfTrailingZeros_78 : decode cJ6_numberOfTrailingZeros 78 = .ok (.iadd, 1) := by decide +kernel
theorem dJ6_numberOfTrailingZeros_79 : decode cJ6_numberOfTrailingZeros 79 = .ok (.ireturn, 1) := by decide +kernel
end
section
/-! what a state is: the cells of an object of ShadowMath (values, shadows, memory) and of the reference (err, bit, lost, octetBit, octetLost, out, gone) -/
abbrev sm_wX (cI : ClassId) (x0 x1 x2 x3 : Nat) (V S M : Nat → Int32) : va_W := [(x0, .inr (0, [.ref x1, .ref x2, .ref x3])), (x1, .inl (cI, 16, .inl V)), (x2, .inl (cI, 16, .inl S)), (x3, .inl (cI, 256, .inl M))]
abbrev sm_wM (cZ : ClassId) (m0 m1 m2 m3 m4 m5 m6 : Nat) (err : Int32) (B L OB OL OU GO : Nat → Int32) : va_W := [(m0, .inr (1, [.int err, .ref m1, .ref m2, .ref m3, .ref m4, .ref m5, .ref m6])), (m1, .inl (cZ, 512, .inl B)), (m2, .inl (cZ, 512, .inl L)), (m3, .inl (cZ, 2048, .inl OB)), (m4, .inl (cZ, 2048, .inl OL)), (m5, .inl (cZ, 32, .inl OU)), (m6, .inl (cZ, 32, .inl GO))]
end
section
theorem sm_min_le (p q : Nat) : sm_min p q ≤ p := by unfold sm_min; split <;> omega
section SMJ
variable {p : Program} {l : Launch} {e : Env} {R : Room} {s : State} {m : MethodId} {args : Array Value} {below : List Frame} {meth : Method} {c : Code} {H : Heap} {locs : List Loc} {cells slots : Nat} {Q : State → Prop}
variable {pc : Nat} {ls : Array Slot} {rest : List Value} {D : va_G} {cl : List vw_C} {A : Nat → Prop} {H0 : Heap}
/-- roads that meet, the places told by what stands here -/
theorem sm_joinH {pcJ nL : Nat} {t : Int32} {lv lv0 : List (Nat × Value)} {w w0 : va_W} {st : List Value} (_ : lv_has ls nL lv0) (_ : va_P D cl w0 H) (_ : va_D A w0) (_ : va_S A H0 H locs)
    (k : (∀ (H : Heap) (locs : List Loc) (ls : Array Slot), lv_has ls nL lv → va_P D cl w H → va_D A w → va_S A H0 H locs → W p l e R s m args below meth c H locs cells slots Q (F0 m pcJ ls (.int t :: rest))) → W p l e R s m args below meth c H locs cells slots Q (F0 m pc ls st))
    (hj : ∀ (H : Heap) (locs : List Loc) (ls : Array Slot), lv_has ls nL lv → va_P D cl w H → va_D A w → va_S A H0 H locs → W p l e R s m args below meth c H locs cells slots Q (F0 m pcJ ls (.int t :: rest))) : W p l e R s m args below meth c H locs cells slots Q (F0 m pc ls st) := k hj
end SMJ
end
section
set_option maxHeartbeats 4000000 in
set_option maxRecDepth 100000 in
theorem c_ntz (l : Launch) (D : va_G) (x : Int32) : sm_C l yJ6_numberOfTrailingZeros wsJ6_numberOfTrailingZeros ({ frames := 0, cells := 0, slots := 0, locals := 0 } : Room) D vwCl [] [.int x] [] (some (.int (nI (sm_tz x)))) [] := by
  refine sm_start (cc := cJ6_numberOfTrailingZeros) (maxL := 2) (ret := some .int) (lv := [(0, .int x)]) (by decide) rfl (Nat.le_of_ble_eq_true rfl) rfl ?_
  intro p e s m below meth c hx hb hrt hts hown hlocks hml hin hK hP hD hS hA ls hl
  have hw := sm_hw hts
  refine lv_iload_n hx hb dJ6_numberOfTrailingZeros_0 rfl (lv_at hl 0 rfl) ?_
  refine lv_iconst (v := (-1)) hx hb dJ6_numberOfTrailingZeros_1 (by decide) ?_
  refine lv_ixor hx hb dJ6_numberOfTrailingZeros_2 ?_
  refine lv_iload_n hx hb dJ6_numberOfTrailingZeros_3 rfl (lv_at hl 0 rfl) ?_
  refine lv_iconst (v := 1) hx hb dJ6_numberOfTrailingZeros_4 (by decide) ?_
  refine lv_isub hx hb dJ6_numberOfTrailingZeros_5 ?_
  refine lv_iand hx hb dJ6_numberOfTrailingZeros_6 ?_
  refine sm_eqi (y := sm_low (sm_tz x)) (sm_ntz x) ?_
  refine lv_istore_n (lv' := [(0, .int (sm_low (sm_tz x)))]) hx hb dJ6_numberOfTrailingZeros_7 rfl hl (by decide) rfl (fun ls hl => ?_)
  refine lv_iload_n hx hb dJ6_numberOfTrailingZeros_8 rfl (lv_at hl 0 rfl) ?_
  refine lv_if_gt (tgt := 17) hx hb dJ6_numberOfTrailingZeros_9 rfl (fun h9 => ?_) (fun h9 => ?_)
  · refine lv_iconst (v := 1) hx hb dJ6_numberOfTrailingZeros_17 (by decide) ?_
    refine lv_istore_n (lv' := [(1, .int 1), (0, .int (sm_low (sm_tz x)))]) hx hb dJ6_numberOfTrailingZeros_18 rfl hl (by decide) rfl (fun ls hl => ?_)
    refine lv_iload_n hx hb dJ6_numberOfTrailingZeros_19 rfl (lv_at hl 1 rfl) ?_
    refine lv_ldcw (v := 65536) hx hb hown (hw 145 rfl) dJ6_numberOfTrailingZeros_20 ?_
    refine lv_icmp_le (tgt := 34) hx hb dJ6_numberOfTrailingZeros_23 rfl (fun h23 => ?_) (fun h23 => ?_)
    · refine lv_iload_n hx hb dJ6_numberOfTrailingZeros_34 rfl (lv_at hl 1 rfl) ?_
      refine lv_sipush (v := 256) hx hb dJ6_numberOfTrailingZeros_35 (by decide) ?_
      refine lv_icmp_le (tgt := 49) hx hb dJ6_numberOfTrailingZeros_38 rfl (fun h38 => ?_) (fun h38 => ?_)
      · refine lv_iload_n hx hb dJ6_numberOfTrailingZeros_49 rfl (lv_at hl 1 rfl) ?_
        refine lv_bipush (v := 16) hx hb dJ6_numberOfTrailingZeros_50 (by decide) ?_
        refine lv_icmp_le (tgt := 62) hx hb dJ6_numberOfTrailingZeros_52 rfl (fun h52 => ?_) (fun h52 => ?_)
        · refine lv_iload_n hx hb dJ6_numberOfTrailingZeros_62 rfl (lv_at hl 1 rfl) ?_
          refine lv_iconst (v := 4) hx hb dJ6_numberOfTrailingZeros_63 (by decide) ?_
          refine lv_icmp_le (tgt := 74) hx hb dJ6_numberOfTrailingZeros_64 rfl (fun h64 => ?_) (fun h64 => ?_)
          · refine lv_iload_n hx hb dJ6_numberOfTrailingZeros_74 rfl (lv_at hl 0 rfl) ?_
            refine lv_iload_n hx hb dJ6_numberOfTrailingZeros_75 rfl (lv_at hl 1 rfl) ?_
            refine lv_iconst (v := 1) hx hb dJ6_numberOfTrailingZeros_76 (by decide) ?_
            refine lv_iushr (v := sm_ushr (sm_low (sm_tz x)) 1) hx hb dJ6_numberOfTrailingZeros_77 rfl ?_
            refine lv_iadd hx hb dJ6_numberOfTrailingZeros_78 ?_
            refine sm_eqi (y := nI (sm_tz x)) (by have hh := (And.intro h9 (And.intro h23 (And.intro h38 (And.intro h52 h64)))); have ht : sm_tz x < 33 := Nat.lt_succ_of_le (sm_tz_le x); revert hh; generalize sm_tz x = t at ht ⊢; revert t; decide +kernel) ?_
            exact sm_iret hx hb hrt hlocks hS hP hD dJ6_numberOfTrailingZeros_79
          · refine lv_iinc (k := 0) (v := 1 + Int32.ofInt (2)) (lv' := [(1, .int (1 + Int32.ofInt (2))), (0, .int (sm_low (sm_tz x)))]) hx hb dJ6_numberOfTrailingZeros_67 hl rfl (rfl) (by decide) rfl (fun ls hl => ?_)
            refine lv_iload_n hx hb dJ6_numberOfTrailingZeros_70 rfl (lv_at hl 1 rfl) ?_
            refine lv_iconst (v := 2) hx hb dJ6_numberOfTrailingZeros_71 (by decide) ?_
            refine lv_iushr (v := sm_ushr (sm_low (sm_tz x)) 2) hx hb dJ6_numberOfTrailingZeros_72 rfl ?_
            refine lv_istore_n (lv' := [(0, .int (sm_ushr (sm_low (sm_tz x)) 2)), (1, .int (1 + Int32.ofInt (2)))]) hx hb dJ6_numberOfTrailingZeros_73 rfl hl (by decide) rfl (fun ls hl => ?_)
            refine lv_iload_n hx hb dJ6_numberOfTrailingZeros_74 rfl (lv_at hl 1 rfl) ?_
            refine lv_iload_n hx hb dJ6_numberOfTrailingZeros_75 rfl (lv_at hl 0 rfl) ?_
            refine lv_iconst (v := 1) hx hb dJ6_numberOfTrailingZeros_76 (by decide) ?_
            refine lv_iushr (v := sm_ushr (sm_ushr (sm_low (sm_tz x)) 2) 1) hx hb dJ6_numberOfTrailingZeros_77 rfl ?_
            refine lv_iadd hx hb dJ6_numberOfTrailingZeros_78 ?_
            refine sm_eqi (y := nI (sm_tz x)) (by have hh := (And.intro h9 (And.intro h23 (And.intro h38 (And.intro h52 h64)))); have ht : sm_tz x < 33 := Nat.lt_succ_of_le (sm_tz_le x); revert hh; generalize sm_tz x = t at ht ⊢; revert t; decide +kernel) ?_
            exact sm_iret hx hb hrt hlocks hS hP hD dJ6_numberOfTrailingZeros_79
        · refine lv_iinc (k := 0) (v := 1 + Int32.ofInt (4)) (lv' := [(1, .int (1 + Int32.ofInt (4))), (0, .int (sm_low (sm_tz x)))]) hx hb dJ6_numberOfTrailingZeros_55 hl rfl (rfl) (by decide) rfl (fun ls hl => ?_)
          refine lv_iload_n hx hb dJ6_numberOfTrailingZeros_58 rfl (lv_at hl 1 rfl) ?_
          refine lv_iconst (v := 4) hx hb dJ6_numberOfTrailingZeros_59 (by decide) ?_
          refine lv_iushr (v := sm_ushr (sm_low (sm_tz x)) 4) hx hb dJ6_numberOfTrailingZeros_60 rfl ?_
          refine lv_istore_n (lv' := [(0, .int (sm_ushr (sm_low (sm_tz x)) 4)), (1, .int (1 + Int32.ofInt (4)))]) hx hb dJ6_numberOfTrailingZeros_61 rfl hl (by decide) rfl (fun ls hl => ?_)
          refine lv_iload_n hx hb dJ6_numberOfTrailingZeros_62 rfl (lv_at hl 0 rfl) ?_
          refine lv_iconst (v := 4) hx hb dJ6_numberOfTrailingZeros_63 (by decide) ?_
          refine lv_icmp_le (tgt := 74) hx hb dJ6_numberOfTrailingZeros_64 rfl (fun h64 => ?_) (fun h64 => ?_)
          · refine lv_iload_n hx hb dJ6_numberOfTrailingZeros_74 rfl (lv_at hl 1 rfl) ?_
            refine lv_iload_n hx hb dJ6_numberOfTrailingZeros_75 rfl (lv_at hl 0 rfl) ?_
            refine lv_iconst (v := 1) hx hb dJ6_numberOfTrailingZeros_76 (by decide) ?_
            refine lv_iushr (v := sm_ushr (sm_ushr (sm_low (sm_tz x)) 4) 1) hx hb dJ6_numberOfTrailingZeros_77 rfl ?_
            refine lv_iadd hx hb dJ6_numberOfTrailingZeros_78 ?_
            refine sm_eqi (y := nI (sm_tz x)) (by have hh := (And.intro h9 (And.intro h23 (And.intro h38 (And.intro h52 h64)))); have ht : sm_tz x < 33 := Nat.lt_succ_of_le (sm_tz_le x); revert hh; generalize sm_tz x = t at ht ⊢; revert t; decide +kernel) ?_
            exact sm_iret hx hb hrt hlocks hS hP hD dJ6_numberOfTrailingZeros_79
          · refine lv_iinc (k := 1) (v := (1 + Int32.ofInt (4)) + Int32.ofInt (2)) (lv' := [(1, .int ((1 + Int32.ofInt (4)) + Int32.ofInt (2))), (0, .int (sm_ushr (sm_low (sm_tz x)) 4))]) hx hb dJ6_numberOfTrailingZeros_67 hl rfl (rfl) (by decide) rfl (fun ls hl => ?_)
            refine lv_iload_n hx hb dJ6_numberOfTrailingZeros_70 rfl (lv_at hl 1 rfl) ?_
            refine lv_iconst (v := 2) hx hb dJ6_numberOfTrailingZeros_71 (by decide) ?_
            refine lv_iushr (v := sm_ushr (sm_ushr (sm_low (sm_tz x)) 4) 2) hx hb dJ6_numberOfTrailingZeros_72 rfl ?_
            refine lv_istore_n (lv' := [(0, .int (sm_ushr (sm_ushr (sm_low (sm_tz x)) 4) 2)), (1, .int ((1 + Int32.ofInt (4)) + Int32.ofInt (2)))]) hx hb dJ6_numberOfTrailingZeros_73 rfl hl (by decide) rfl (fun ls hl => ?_)
            refine lv_iload_n hx hb dJ6_numberOfTrailingZeros_74 rfl (lv_at hl 1 rfl) ?_
            refine lv_iload_n hx hb dJ6_numberOfTrailingZeros_75 rfl (lv_at hl 0 rfl) ?_
            refine lv_iconst (v := 1) hx hb dJ6_numberOfTrailingZeros_76 (by decide) ?_
            refine lv_iushr (v := sm_ushr (sm_ushr (sm_ushr (sm_low (sm_tz x)) 4) 2) 1) hx hb dJ6_numberOfTrailingZeros_77 rfl ?_
            refine lv_iadd hx hb dJ6_numberOfTrailingZeros_78 ?_
            refine sm_eqi (y := nI (sm_tz x)) (by have hh := (And.intro h9 (And.intro h23 (And.intro h38 (And.intro h52 h64)))); have ht : sm_tz x < 33 := Nat.lt_succ_of_le (sm_tz_le x); revert hh; generalize sm_tz x = t at ht ⊢; revert t; decide +kernel) ?_
            exact sm_iret hx hb hrt hlocks hS hP hD dJ6_numberOfTrailingZeros_79
      · refine lv_iinc (k := 0) (v := 1 + Int32.ofInt (8)) (lv' := [(1, .int (1 + Int32.ofInt (8))), (0, .int (sm_low (sm_tz x)))]) hx hb dJ6_numberOfTrailingZeros_41 hl rfl (rfl) (by decide) rfl (fun ls hl => ?_)
        refine lv_iload_n hx hb dJ6_numberOfTrailingZeros_44 rfl (lv_at hl 1 rfl) ?_
        refine lv_bipush (v := 8) hx hb dJ6_numberOfTrailingZeros_45 (by decide) ?_
        refine lv_iushr (v := sm_ushr (sm_low (sm_tz x)) 8) hx hb dJ6_numberOfTrailingZeros_47 rfl ?_
        refine lv_istore_n (lv' := [(0, .int (sm_ushr (sm_low (sm_tz x)) 8)), (1, .int (1 + Int32.ofInt (8)))]) hx hb dJ6_numberOfTrailingZeros_48 rfl hl (by decide) rfl (fun ls hl => ?_)
        refine lv_iload_n hx hb dJ6_numberOfTrailingZeros_49 rfl (lv_at hl 0 rfl) ?_
        refine lv_bipush (v := 16) hx hb dJ6_numberOfTrailingZeros_50 (by decide) ?_
        refine lv_icmp_le (tgt := 62) hx hb dJ6_numberOfTrailingZeros_52 rfl (fun h52 => ?_) (fun h52 => ?_)
        · refine lv_iload_n hx hb dJ6_numberOfTrailingZeros_62 rfl (lv_at hl 0 rfl) ?_
          refine lv_iconst (v := 4) hx hb dJ6_numberOfTrailingZeros_63 (by decide) ?_
          refine lv_icmp_le (tgt := 74) hx hb dJ6_numberOfTrailingZeros_64 rfl (fun h64 => ?_) (fun h64 => ?_)
          · refine lv_iload_n hx hb dJ6_numberOfTrailingZeros_74 rfl (lv_at hl 1 rfl) ?_
            refine lv_iload_n hx hb dJ6_numberOfTrailingZeros_75 rfl (lv_at hl 0 rfl) ?_
            refine lv_iconst (v := 1) hx hb dJ6_numberOfTrailingZeros_76 (by decide) ?_
            refine lv_iushr (v := sm_ushr (sm_ushr (sm_low (sm_tz x)) 8) 1) hx hb dJ6_numberOfTrailingZeros_77 rfl ?_
            refine lv_iadd hx hb dJ6_numberOfTrailingZeros_78 ?_
            refine sm_eqi (y := nI (sm_tz x)) (by have hh := (And.intro h9 (And.intro h23 (And.intro h38 (And.intro h52 h64)))); have ht : sm_tz x < 33 := Nat.lt_succ_of_le (sm_tz_le x); revert hh; generalize sm_tz x = t at ht ⊢; revert t; decide +kernel) ?_
            exact sm_iret hx hb hrt hlocks hS hP hD dJ6_numberOfTrailingZeros_79
          · refine lv_iinc (k := 1) (v := (1 + Int32.ofInt (8)) + Int32.ofInt (2)) (lv' := [(1, .int ((1 + Int32.ofInt (8)) + Int32.ofInt (2))), (0, .int (sm_ushr (sm_low (sm_tz x)) 8))]) hx hb dJ6_numberOfTrailingZeros_67 hl rfl (rfl) (by decide) rfl (fun ls hl => ?_)
            refine lv_iload_n hx hb dJ6_numberOfTrailingZeros_70 rfl (lv_at hl 1 rfl) ?_
            refine lv_iconst (v := 2) hx hb dJ6_numberOfTrailingZeros_71 (by decide) ?_
            refine lv_iushr (v := sm_ushr (sm_ushr (sm_low (sm_tz x)) 8) 2) hx hb dJ6_numberOfTrailingZeros_72 rfl ?_
            refine lv_istore_n (lv' := [(0, .int (sm_ushr (sm_ushr (sm_low (sm_tz x)) 8) 2)), (1, .int ((1 + Int32.ofInt (8)) + Int32.ofInt (2)))]) hx hb dJ6_numberOfTrailingZeros_73 rfl hl (by decide) rfl (fun ls hl => ?_)
            refine lv_iload_n hx hb dJ6_numberOfTrailingZeros_74 rfl (lv_at hl 1 rfl) ?_
            refine lv_iload_n hx hb dJ6_numberOfTrailingZeros_75 rfl (lv_at hl 0 rfl) ?_
            refine lv_iconst (v := 1) hx hb dJ6_numberOfTrailingZeros_76 (by decide) ?_
            refine lv_iushr (v := sm_ushr (sm_ushr (sm_ushr (sm_low (sm_tz x)) 8) 2) 1) hx hb dJ6_numberOfTrailingZeros_77 rfl ?_
            refine lv_iadd hx hb dJ6_numberOfTrailingZeros_78 ?_
            refine sm_eqi (y := nI (sm_tz x)) (by have hh := (And.intro h9 (And.intro h23 (And.intro h38 (And.intro h52 h64)))); have ht : sm_tz x < 33 := Nat.lt_succ_of_le (sm_tz_le x); revert hh; generalize sm_tz x = t at ht ⊢; revert t; decide +kernel) ?_
            exact sm_iret hx hb hrt hlocks hS hP hD dJ6_numberOfTrailingZeros_79
        · refine lv_iinc (k := 1) (v := (1 + Int32.ofInt (8)) + Int32.ofInt (4)) (lv' := [(1, .int ((1 + Int32.ofInt (8)) + Int32.ofInt (4))), (0, .int (sm_ushr (sm_low (sm_tz x)) 8))]) hx hb dJ6_numberOfTrailingZeros_55 hl rfl (rfl) (by decide) rfl (fun ls hl => ?_)
          refine lv_iload_n hx hb dJ6_numberOfTrailingZeros_58 rfl (lv_at hl 1 rfl) ?_
          refine lv_iconst (v := 4) hx hb dJ6_numberOfTrailingZeros_59 (by decide) ?_
          refine lv_iushr (v := sm_ushr (sm_ushr (sm_low (sm_tz x)) 8) 4) hx hb dJ6_numberOfTrailingZeros_60 rfl ?_
          refine lv_istore_n (lv' := [(0, .int (sm_ushr (sm_ushr (sm_low (sm_tz x)) 8) 4)), (1, .int ((1 + Int32.ofInt (8)) + Int32.ofInt (4)))]) hx hb dJ6_numberOfTrailingZeros_61 rfl hl (by decide) rfl (fun ls hl => ?_)
          refine lv_iload_n hx hb dJ6_numberOfTrailingZeros_62 rfl (lv_at hl 0 rfl) ?_
          refine lv_iconst (v := 4) hx hb dJ6_numberOfTrailingZeros_63 (by decide) ?_
          refine lv_icmp_le (tgt := 74) hx hb dJ6_numberOfTrailingZeros_64 rfl (fun h64 => ?_) (fun h64 => ?_)
          · refine lv_iload_n hx hb dJ6_numberOfTrailingZeros_74 rfl (lv_at hl 1 rfl) ?_
            refine lv_iload_n hx hb dJ6_numberOfTrailingZeros_75 rfl (lv_at hl 0 rfl) ?_
            refine lv_iconst (v := 1) hx hb dJ6_numberOfTrailingZeros_76 (by decide) ?_
            refine lv_iushr (v := sm_ushr (sm_ushr (sm_ushr (sm_low (sm_tz x)) 8) 4) 1) hx hb dJ6_numberOfTrailingZeros_77 rfl ?_
            refine lv_iadd hx hb dJ6_numberOfTrailingZeros_78 ?_
            refine sm_eqi (y := nI (sm_tz x)) (by have hh := (And.intro h9 (And.intro h23 (And.intro h38 (And.intro h52 h64)))); have ht : sm_tz x < 33 := Nat.lt_succ_of_le (sm_tz_le x); revert hh; generalize sm_tz x = t at ht ⊢; revert t; decide +kernel) ?_
            exact sm_iret hx hb hrt hlocks hS hP hD dJ6_numberOfTrailingZeros_79
          · refine lv_iinc (k := 1) (v := ((1 + Int32.ofInt (8)) + Int32.ofInt (4)) + Int32.ofInt (2)) (lv' := [(1, .int (((1 + Int32.ofInt (8)) + Int32.ofInt (4)) + Int32.ofInt (2))), (0, .int (sm_ushr (sm_ushr (sm_low (sm_tz x)) 8) 4))]) hx hb dJ6_numberOfTrailingZeros_67 hl rfl (rfl) (by decide) rfl (fun ls hl => ?_)
            refine lv_iload_n hx hb dJ6_numberOfTrailingZeros_70 rfl (lv_at hl 1 rfl) ?_
            refine lv_iconst (v := 2) hx hb dJ6_numberOfTrailingZeros_71 (by decide) ?_
            refine lv_iushr (v := sm_ushr (sm_ushr (sm_ushr (sm_low (sm_tz x)) 8) 4) 2) hx hb dJ6_numberOfTrailingZeros_72 rfl ?_
            refine lv_istore_n (lv' := [(0, .int (sm_ushr (sm_ushr (sm_ushr (sm_low (sm_tz x)) 8) 4) 2)), (1, .int (((1 + Int32.ofInt (8)) + Int32.ofInt (4)) + Int32.ofInt (2)))]) hx hb dJ6_numberOfTrailingZeros_73 rfl hl (by decide) rfl (fun ls hl => ?_)
            refine lv_iload_n hx hb dJ6_numberOfTrailingZeros_74 rfl (lv_at hl 1 rfl) ?_
            refine lv_iload_n hx hb dJ6_numberOfTrailingZeros_75 rfl (lv_at hl 0 rfl) ?_
            refine lv_iconst (v := 1) hx hb dJ6_numberOfTrailingZeros_76 (by decide) ?_
            refine lv_iushr (v := sm_ushr (sm_ushr (sm_ushr (sm_ushr (sm_low (sm_tz x)) 8) 4) 2) 1) hx hb dJ6_numberOfTrailingZeros_77 rfl ?_
            refine lv_iadd hx hb dJ6_numberOfTrailingZeros_78 ?_
            refine sm_eqi (y := nI (sm_tz x)) (by have hh := (And.intro h9 (And.intro h23 (And.intro h38 (And.intro h52 h64)))); have ht : sm_tz x < 33 := Nat.lt_succ_of_le (sm_tz_le x); revert hh; generalize sm_tz x = t at ht ⊢; revert t; decide +kernel) ?_
            exact sm_iret hx hb hrt hlocks hS hP hD dJ6_numberOfTrailingZeros_79
    · refine lv_iinc (k := 0) (v := 1 + Int32.ofInt (16)) (lv' := [(1, .int (1 + Int32.ofInt (16))), (0, .int (sm_low (sm_tz x)))]) hx hb dJ6_numberOfTrailingZeros_26 hl rfl (rfl) (by decide) rfl (fun ls hl => ?_)
      refine lv_iload_n hx hb dJ6_numberOfTrailingZeros_29 rfl (lv_at hl 1 rfl) ?_
      refine lv_bipush (v := 16) hx hb dJ6_numberOfTrailingZeros_30 (by decide) ?_
      refine lv_iushr (v := sm_ushr (sm_low (sm_tz x)) 16) hx hb dJ6_numberOfTrailingZeros_32 rfl ?_
      refine lv_istore_n (lv' := [(0, .int (sm_ushr (sm_low (sm_tz x)) 16)), (1, .int (1 + Int32.ofInt (16)))]) hx hb dJ6_numberOfTrailingZeros_33 rfl hl (by decide) rfl (fun ls hl => ?_)
      refine lv_iload_n hx hb dJ6_numberOfTrailingZeros_34 rfl (lv_at hl 0 rfl) ?_
      refine lv_sipush (v := 256) hx hb dJ6_numberOfTrailingZeros_35 (by decide) ?_
      refine lv_icmp_le (tgt := 49) hx hb dJ6_numberOfTrailingZeros_38 rfl (fun h38 => ?_) (fun h38 => ?_)
      · refine lv_iload_n hx hb dJ6_numberOfTrailingZeros_49 rfl (lv_at hl 0 rfl) ?_
        refine lv_bipush (v := 16) hx hb dJ6_numberOfTrailingZeros_50 (by decide) ?_
        refine lv_icmp_le (tgt := 62) hx hb dJ6_numberOfTrailingZeros_52 rfl (fun h52 => ?_) (fun h52 => ?_)
        · refine lv_iload_n hx hb dJ6_numberOfTrailingZeros_62 rfl (lv_at hl 0 rfl) ?_
          refine lv_iconst (v := 4) hx hb dJ6_numberOfTrailingZeros_63 (by decide) ?_
          refine lv_icmp_le (tgt := 74) hx hb dJ6_numberOfTrailingZeros_64 rfl (fun h64 => ?_) (fun h64 => ?_)
          · refine lv_iload_n hx hb dJ6_numberOfTrailingZeros_74 rfl (lv_at hl 1 rfl) ?_
            refine lv_iload_n hx hb dJ6_numberOfTrailingZeros_75 rfl (lv_at hl 0 rfl) ?_
            refine lv_iconst (v := 1) hx hb dJ6_numberOfTrailingZeros_76 (by decide) ?_
            refine lv_iushr (v := sm_ushr (sm_ushr (sm_low (sm_tz x)) 16) 1) hx hb dJ6_numberOfTrailingZeros_77 rfl ?_
            refine lv_iadd hx hb dJ6_numberOfTrailingZeros_78 ?_
            refine sm_eqi (y := nI (sm_tz x)) (by have hh := (And.intro h9 (And.intro h23 (And.intro h38 (And.intro h52 h64)))); have ht : sm_tz x < 33 := Nat.lt_succ_of_le (sm_tz_le x); revert hh; generalize sm_tz x = t at ht ⊢; revert t; decide +kernel) ?_
            exact sm_iret hx hb hrt hlocks hS hP hD dJ6_numberOfTrailingZeros_79
          · refine lv_iinc (k := 1) (v := (1 + Int32.ofInt (16)) + Int32.ofInt (2)) (lv' := [(1, .int ((1 + Int32.ofInt (16)) + Int32.ofInt (2))), (0, .int (sm_ushr (sm_low (sm_tz x)) 16))]) hx hb dJ6_numberOfTrailingZeros_67 hl rfl (rfl) (by decide) rfl (fun ls hl => ?_)
            refine lv_iload_n hx hb dJ6_numberOfTrailingZeros_70 rfl (lv_at hl 1 rfl) ?_
            refine lv_iconst (v := 2) hx hb dJ6_numberOfTrailingZeros_71 (by decide) ?_
            refine lv_iushr (v := sm_ushr (sm_ushr (sm_low (sm_tz x)) 16) 2) hx hb dJ6_numberOfTrailingZeros_72 rfl ?_
            refine lv_istore_n (lv' := [(0, .int (sm_ushr (sm_ushr (sm_low (sm_tz x)) 16) 2)), (1, .int ((1 + Int32.ofInt (16)) + Int32.ofInt (2)))]) hx hb dJ6_numberOfTrailingZeros_73 rfl hl (by decide) rfl (fun ls hl => ?_)
            refine lv_iload_n hx hb dJ6_numberOfTrailingZeros_74 rfl (lv_at hl 1 rfl) ?_
            refine lv_iload_n hx hb dJ6_numberOfTrailingZeros_75 rfl (lv_at hl 0 rfl) ?_
            refine lv_iconst (v := 1) hx hb dJ6_numberOfTrailingZeros_76 (by decide) ?_
            refine lv_iushr (v := sm_ushr (sm_ushr (sm_ushr (sm_low (sm_tz x)) 16) 2) 1) hx hb dJ6_numberOfTrailingZeros_77 rfl ?_
            refine lv_iadd hx hb dJ6_numberOfTrailingZeros_78 ?_
            refine sm_eqi (y := nI (sm_tz x)) (by have hh := (And.intro h9 (And.intro h23 (And.intro h38 (And.intro h52 h64)))); have ht : sm_tz x < 33 := Nat.lt_succ_of_le (sm_tz_le x); revert hh; generalize sm_tz x = t at ht ⊢; revert t; decide +kernel) ?_
            exact sm_iret hx hb hrt hlocks hS hP hD dJ6_numberOfTrailingZeros_79
        · refine lv_iinc (k := 1) (v := (1 + Int32.ofInt (16)) + Int32.ofInt (4)) (lv' := [(1, .int ((1 + Int32.ofInt (16)) + Int32.ofInt (4))), (0, .int (sm_ushr (sm_low (sm_tz x)) 16))]) hx hb dJ6_numberOfTrailingZeros_55 hl rfl (rfl) (by decide) rfl (fun ls hl => ?_)
          refine lv_iload_n hx hb dJ6_numberOfTrailingZeros_58 rfl (lv_at hl 1 rfl) ?_
          refine lv_iconst (v := 4) hx hb dJ6_numberOfTrailingZeros_59 (by decide) ?_
          refine lv_iushr (v := sm_ushr (sm_ushr (sm_low (sm_tz x)) 16) 4) hx hb dJ6_numberOfTrailingZeros_60 rfl ?_
          refine lv_istore_n (lv' := [(0, .int (sm_ushr (sm_ushr (sm_low (sm_tz x)) 16) 4)), (1, .int ((1 + Int32.ofInt (16)) + Int32.ofInt (4)))]) hx hb dJ6_numberOfTrailingZeros_61 rfl hl (by decide) rfl (fun ls hl => ?_)
          refine lv_iload_n hx hb dJ6_numberOfTrailingZeros_62 rfl (lv_at hl 0 rfl) ?_
          refine lv_iconst (v := 4) hx hb dJ6_numberOfTrailingZeros_63 (by decide) ?_
          refine lv_icmp_le (tgt := 74) hx hb dJ6_numberOfTrailingZeros_64 rfl (fun h64 => ?_) (fun h64 => ?_)
          · refine lv_iload_n hx hb dJ6_numberOfTrailingZeros_74 rfl (lv_at hl 1 rfl) ?_
            refine lv_iload_n hx hb dJ6_numberOfTrailingZeros_75 rfl (lv_at hl 0 rfl) ?_
            refine lv_iconst (v := 1) hx hb dJ6_numberOfTrailingZeros_76 (by decide) ?_
            refine lv_iushr (v := sm_ushr (sm_ushr (sm_ushr (sm_low (sm_tz x)) 16) 4) 1) hx hb dJ6_numberOfTrailingZeros_77 rfl ?_
            refine lv_iadd hx hb dJ6_numberOfTrailingZeros_78 ?_
            refine sm_eqi (y := nI (sm_tz x)) (by have hh := (And.intro h9 (And.intro h23 (And.intro h38 (And.intro h52 h64)))); have ht : sm_tz x < 33 := Nat.lt_succ_of_le (sm_tz_le x); revert hh; generalize sm_tz x = t at ht ⊢; revert t; decide +kernel) ?_
            exact sm_iret hx hb hrt hlocks hS hP hD dJ6_numberOfTrailingZeros_79
          · refine lv_iinc (k := 1) (v := ((1 + Int32.ofInt (16)) + Int32.ofInt (4)) + Int32.ofInt (2)) (lv' := [(1, .int (((1 + Int32.ofInt (16)) + Int32.ofInt (4)) + Int32.ofInt (2))), (0, .int (sm_ushr (sm_ushr (sm_low (sm_tz x)) 16) 4))]) hx hb dJ6_numberOfTrailingZeros_67 hl rfl (rfl) (by decide) rfl (fun ls hl => ?_)
            refine lv_iload_n hx hb dJ6_numberOfTrailingZeros_70 rfl (lv_at hl 1 rfl) ?_
            refine lv_iconst (v := 2) hx hb dJ6_numberOfTrailingZeros_71 (by decide) ?_
            refine lv_iushr (v := sm_ushr (sm_ushr (sm_ushr (sm_low (sm_tz x)) 16) 4) 2) hx hb dJ6_numberOfTrailingZeros_72 rfl ?_
            refine lv_istore_n (lv' := [(0, .int (sm_ushr (sm_ushr (sm_ushr (sm_low (sm_tz x)) 16) 4) 2)), (1, .int (((1 + Int32.ofInt (16)) + Int32.ofInt (4)) + Int32.ofInt (2)))]) hx hb dJ6_numberOfTrailingZeros_73 rfl hl (by decide) rfl (fun ls hl => ?_)
            refine lv_iload_n hx hb dJ6_numberOfTrailingZeros_74 rfl (lv_at hl 1 rfl) ?_
            refine lv_iload_n hx hb dJ6_numberOfTrailingZeros_75 rfl (lv_at hl 0 rfl) ?_
            refine lv_iconst (v := 1) hx hb dJ6_numberOfTrailingZeros_76 (by decide) ?_
            refine lv_iushr (v := sm_ushr (sm_ushr (sm_ushr (sm_ushr (sm_low (sm_tz x)) 16) 4) 2) 1) hx hb dJ6_numberOfTrailingZeros_77 rfl ?_
            refine lv_iadd hx hb dJ6_numberOfTrailingZeros_78 ?_
            refine sm_eqi (y := nI (sm_tz x)) (by have hh := (And.intro h9 (And.intro h23 (And.intro h38 (And.intro h52 h64)))); have ht : sm_tz x < 33 := Nat.lt_succ_of_le (sm_tz_le x); revert hh; generalize sm_tz x = t at ht ⊢; revert t; decide +kernel) ?_
            exact sm_iret hx hb hrt hlocks hS hP hD dJ6_numberOfTrailingZeros_79
      · refine lv_iinc (k := 1) (v := (1 + Int32.ofInt (16)) + Int32.ofInt (8)) (lv' := [(1, .int ((1 + Int32.ofInt (16)) + Int32.ofInt (8))), (0, .int (sm_ushr (sm_low (sm_tz x)) 16))]) hx hb dJ6_numberOfTrailingZeros_41 hl rfl (rfl) (by decide) rfl (fun ls hl => ?_)
        refine lv_iload_n hx hb dJ6_numberOfTrailingZeros_44 rfl (lv_at hl 1 rfl) ?_
        refine lv_bipush (v := 8) hx hb dJ6_numberOfTrailingZeros_45 (by decide) ?_
        refine lv_iushr (v := sm_ushr (sm_ushr (sm_low (sm_tz x)) 16) 8) hx hb dJ6_numberOfTrailingZeros_47 rfl ?_
        refine lv_istore_n (lv' := [(0, .int (sm_ushr (sm_ushr (sm_low (sm_tz x)) 16) 8)), (1, .int ((1 + Int32.ofInt (16)) + Int32.ofInt (8)))]) hx hb dJ6_numberOfTrailingZeros_48 rfl hl (by decide) rfl (fun ls hl => ?_)
        refine lv_iload_n hx hb dJ6_numberOfTrailingZeros_49 rfl (lv_at hl 0 rfl) ?_
        refine lv_bipush (v := 16) hx hb dJ6_numberOfTrailingZeros_50 (by decide) ?_
        refine lv_icmp_le (tgt := 62) hx hb dJ6_numberOfTrailingZeros_52 rfl (fun h52 => ?_) (fun h52 => ?_)
        · refine lv_iload_n hx hb dJ6_numberOfTrailingZeros_62 rfl (lv_at hl 0 rfl) ?_
          refine lv_iconst (v := 4) hx hb dJ6_numberOfTrailingZeros_63 (by decide) ?_
          refine lv_icmp_le (tgt := 74) hx hb dJ6_numberOfTrailingZeros_64 rfl (fun h64 => ?_) (fun h64 => ?_)
          · refine lv_iload_n hx hb dJ6_numberOfTrailingZeros_74 rfl (lv_at hl 1 rfl) ?_
            refine lv_iload_n hx hb dJ6_numberOfTrailingZeros_75 rfl (lv_at hl 0 rfl) ?_
            refine lv_iconst (v := 1) hx hb dJ6_numberOfTrailingZeros_76 (by decide) ?_
            refine lv_iushr (v := sm_ushr (sm_ushr (sm_ushr (sm_low (sm_tz x)) 16) 8) 1) hx hb dJ6_numberOfTrailingZeros_77 rfl ?_
            refine lv_iadd hx hb dJ6_numberOfTrailingZeros_78 ?_
            refine sm_eqi (y := nI (sm_tz x)) (by have hh := (And.intro h9 (And.intro h23 (And.intro h38 (And.intro h52 h64)))); have ht : sm_tz x < 33 := Nat.lt_succ_of_le (sm_tz_le x); revert hh; generalize sm_tz x = t at ht ⊢; revert t; decide +kernel) ?_
            exact sm_iret hx hb hrt hlocks hS hP hD dJ6_numberOfTrailingZeros_79
          · refine lv_iinc (k := 1) (v := ((1 + Int32.ofInt (16)) + Int32.ofInt (8)) + Int32.ofInt (2)) (lv' := [(1, .int (((1 + Int32.ofInt (16)) + Int32.ofInt (8)) + Int32.ofInt (2))), (0, .int (sm_ushr (sm_ushr (sm_low (sm_tz x)) 16) 8))]) hx hb dJ6_numberOfTrailingZeros_67 hl rfl (rfl) (by decide) rfl (fun ls hl => ?_)
            refine lv_iload_n hx hb dJ6_numberOfTrailingZeros_70 rfl (lv_at hl 1 rfl) ?_
            refine lv_iconst (v := 2) hx hb dJ6_numberOfTrailingZeros_71 (by decide) ?_
            refine lv_iushr (v := sm_ushr (sm_ushr (sm_ushr (sm_low (sm_tz x)) 16) 8) 2) hx hb dJ6_numberOfTrailingZeros_72 rfl ?_
            refine lv_istore_n (lv' := [(0, .int (sm_ushr (sm_ushr (sm_ushr (sm_low (sm_tz x)) 16) 8) 2)), (1, .int (((1 + Int32.ofInt (16)) + Int32.ofInt (8)) + Int32.ofInt (2)))]) hx hb dJ6_numberOfTrailingZeros_73 rfl hl (by decide) rfl (fun ls hl => ?_)
            refine lv_iload_n hx hb dJ6_numberOfTrailingZeros_74 rfl (lv_at hl 1 rfl) ?_
            refine lv_iload_n hx hb dJ6_numberOfTrailingZeros_75 rfl (lv_at hl 0 rfl) ?_
            refine lv_iconst (v := 1) hx hb dJ6_numberOfTrailingZeros_76 (by decide) ?_
            refine lv_iushr (v := sm_ushr (sm_ushr (sm_ushr (sm_ushr (sm_low (sm_tz x)) 16) 8) 2) 1) hx hb dJ6_numberOfTrailingZeros_77 rfl ?_
            refine lv_iadd hx hb dJ6_numberOfTrailingZeros_78 ?_
            refine sm_eqi (y := nI (sm_tz x)) (by have hh := (And.intro h9 (And.intro h23 (And.intro h38 (And.intro h52 h64)))); have ht : sm_tz x < 33 := Nat.lt_succ_of_le (sm_tz_le x); revert hh; generalize sm_tz x = t at ht ⊢; revert t; decide +kernel) ?_
            exact sm_iret hx hb hrt hlocks hS hP hD dJ6_numberOfTrailingZeros_79
        · refine lv_iinc (k := 1) (v := ((1 + Int32.ofInt (16)) + Int32.ofInt (8)) + Int32.ofInt (4)) (lv' := [(1, .int (((1 + Int32.ofInt (16)) + Int32.ofInt (8)) + Int32.ofInt (4))), (0, .int (sm_ushr (sm_ushr (sm_low (sm_tz x)) 16) 8))]) hx hb dJ6_numberOfTrailingZeros_55 hl rfl (rfl) (by decide) rfl (fun ls hl => ?_)
          refine lv_iload_n hx hb dJ6_numberOfTrailingZeros_58 rfl (lv_at hl 1 rfl) ?_
          refine lv_iconst (v := 4) hx hb dJ6_numberOfTrailingZeros_59 (by decide) ?_
          refine lv_iushr (v := sm_ushr (sm_ushr (sm_ushr (sm_low (sm_tz x)) 16) 8) 4) hx hb dJ6_numberOfTrailingZeros_60 rfl ?_
          refine lv_istore_n (lv' := [(0, .int (sm_ushr (sm_ushr (sm_ushr (sm_low (sm_tz x)) 16) 8) 4)), (1, .int (((1 + Int32.ofInt (16)) + Int32.ofInt (8)) + Int32.ofInt (4)))]) hx hb dJ6_numberOfTrailingZeros_61 rfl hl (by decide) rfl (fun ls hl => ?_)
          refine lv_iload_n hx hb dJ6_numberOfTrailingZeros_62 rfl (lv_at hl 0 rfl) ?_
          refine lv_iconst (v := 4) hx hb dJ6_numberOfTrailingZeros_63 (by decide) ?_
          refine lv_icmp_le (tgt := 74) hx hb dJ6_numberOfTrailingZeros_64 rfl (fun h64 => ?_) (fun h64 => ?_)
          · refine lv_iload_n hx hb dJ6_numberOfTrailingZeros_74 rfl (lv_at hl 1 rfl) ?_
            refine lv_iload_n hx hb dJ6_numberOfTrailingZeros_75 rfl (lv_at hl 0 rfl) ?_
            refine lv_iconst (v := 1) hx hb dJ6_numberOfTrailingZeros_76 (by decide) ?_
            refine lv_iushr (v := sm_ushr (sm_ushr (sm_ushr (sm_ushr (sm_low (sm_tz x)) 16) 8) 4) 1) hx hb dJ6_numberOfTrailingZeros_77 rfl ?_
            refine lv_iadd hx hb dJ6_numberOfTrailingZeros_78 ?_
            refine sm_eqi (y := nI (sm_tz x)) (by have hh := (And.intro h9 (And.intro h23 (And.intro h38 (And.intro h52 h64)))); have ht : sm_tz x < 33 := Nat.lt_succ_of_le (sm_tz_le x); revert hh; generalize sm_tz x = t at ht ⊢; revert t; decide +kernel) ?_
            exact sm_iret hx hb hrt hlocks hS hP hD dJ6_numberOfTrailingZeros_79
          · refine lv_iinc (k := 1) (v := (((1 + Int32.ofInt (16)) + Int32.ofInt (8)) + Int32.ofInt (4)) + Int32.ofInt (2)) (lv' := [(1, .int ((((1 + Int32.ofInt (16)) + Int32.ofInt (8)) + Int32.ofInt (4)) + Int32.ofInt (2))), (0, .int (sm_ushr (sm_ushr (sm_ushr (sm_low (sm_tz x)) 16) 8) 4))]) hx hb dJ6_numberOfTrailingZeros_67 hl rfl (rfl) (by decide) rfl (fun ls hl => ?_)
            refine lv_iload_n hx hb dJ6_numberOfTrailingZeros_70 rfl (lv_at hl 1 rfl) ?_
            refine lv_iconst (v := 2) hx hb dJ6_numberOfTrailingZeros_71 (by decide) ?_
            refine lv_iushr (v := sm_ushr (sm_ushr (sm_ushr (sm_ushr (sm_low (sm_tz x)) 16) 8) 4) 2) hx hb dJ6_numberOfTrailingZeros_72 rfl ?_
            refine lv_istore_n (lv' := [(0, .int (sm_ushr (sm_ushr (sm_ushr (sm_ushr (sm_low (sm_tz x)) 16) 8) 4) 2)), (1, .int ((((1 + Int32.ofInt (16)) + Int32.ofInt (8)) + Int32.ofInt (4)) + Int32.ofInt (2)))]) hx hb dJ6_numberOfTrailingZeros_73 rfl hl (by decide) rfl (fun ls hl => ?_)
            refine lv_iload_n hx hb dJ6_numberOfTrailingZeros_74 rfl (lv_at hl 1 rfl) ?_
            refine lv_iload_n hx hb dJ6_numberOfTrailingZeros_75 rfl (lv_at hl 0 rfl) ?_
            refine lv_iconst (v := 1) hx hb dJ6_numberOfTrailingZeros_76 (by decide) ?_
            refine lv_iushr (v := sm_ushr (sm_ushr (sm_ushr (sm_ushr (sm_ushr (sm_low (sm_tz x)) 16) 8) 4) 2) 1) hx hb dJ6_numberOfTrailingZeros_77 rfl ?_
            refine lv_iadd hx hb dJ6_numberOfTrailingZeros_78 ?_
            refine sm_eqi (y := nI (sm_tz x)) (by have hh := (And.intro h9 (And.intro h23 (And.intro h38 (And.intro h52 h64)))); have ht : sm_tz x < 33 := Nat.lt_succ_of_le (sm_tz_le x); revert hh; generalize sm_tz x = t at ht ⊢; revert t; decide +kernel) ?_
            exact sm_iret hx hb hrt hlocks hS hP hD dJ6_numberOfTrailingZeros_79
  · refine lv_iload_n hx hb dJ6_numberOfTrailingZeros_12 rfl (lv_at hl 0 rfl) ?_
    refine lv_bipush (v := 32) hx hb dJ6_numberOfTrailingZeros_13 (by decide) ?_
    refine lv_iand hx hb dJ6_numberOfTrailingZeros_15 ?_
    refine sm_eqi (y := nI (sm_tz x)) (by have hh := h9; have ht : sm_tz x < 33 := Nat.lt_succ_of_le (sm_tz_le x); revert hh; generalize sm_tz x = t at ht ⊢; revert t; decide +kernel) ?_
    exact sm_iret hx hb hrt hlocks hS hP hD dJ6_numberOfTrailingZeros_16
set_option maxHeartbeats 4000000 in
set_option maxRecDepth 100000 in
theorem c_bitCount (l : Launch) (D : va_G) (x : Int32) : sm_C l yJ6_bitCount wsJ6_bitCount ({ frames := 0, cells := 0, slots := 0, locals := 0 } : Room) D vwCl [] [.int x] [] (some (.int (nI (sm_pc (bt x) 32)))) [] := by
  refine sm_start (cc := cJ6_bitCount) (maxL := 1) (ret := some .int) (lv := [(0, .int x)]) (by decide) rfl (Nat.le_of_ble_eq_true rfl) rfl ?_
  intro p e s m below meth c hx hb hrt hts hown hlocks hml hin hK hP hD hS hA ls hl
  have hw := sm_hw hts
  refine lv_iload_n hx hb dJ6_bitCount_0 rfl (lv_at hl 0 rfl) ?_
  refine lv_iload_n hx hb dJ6_bitCount_1 rfl (lv_at hl 0 rfl) ?_
  refine lv_iconst (v := 1) hx hb dJ6_bitCount_2 (by decide) ?_
  refine lv_iushr (v := sm_ushr x 1) hx hb dJ6_bitCount_3 rfl ?_
  refine lv_ldcw (v := 1431655765) hx hb hown (hw 36 rfl) dJ6_bitCount_4 ?_
  refine lv_iand hx hb dJ6_bitCount_7 ?_
  refine lv_isub hx hb dJ6_bitCount_8 ?_
  refine lv_istore_n (lv' := [(0, .int (x - ((sm_ushr x 1) &&& 1431655765)))]) hx hb dJ6_bitCount_9 rfl hl (by decide) rfl (fun ls hl => ?_)
  refine lv_iload_n hx hb dJ6_bitCount_10 rfl (lv_at hl 0 rfl) ?_
  refine lv_ldcw (v := 858993459) hx hb hown (hw 37 rfl) dJ6_bitCount_11 ?_
  refine lv_iand hx hb dJ6_bitCount_14 ?_
  refine lv_iload_n hx hb dJ6_bitCount_15 rfl (lv_at hl 0 rfl) ?_
  refine lv_iconst (v := 2) hx hb dJ6_bitCount_16 (by decide) ?_
  refine lv_iushr (v := sm_ushr (x - ((sm_ushr x 1) &&& 1431655765)) 2) hx hb dJ6_bitCount_17 rfl ?_
  refine lv_ldcw (v := 858993459) hx hb hown (hw 37 rfl) dJ6_bitCount_18 ?_
  refine lv_iand hx hb dJ6_bitCount_21 ?_
  refine lv_iadd hx hb dJ6_bitCount_22 ?_
  refine lv_istore_n (lv' := [(0, .int (((x - ((sm_ushr x 1) &&& 1431655765)) &&& 858993459) + ((sm_ushr (x - ((sm_ushr x 1) &&& 1431655765)) 2) &&& 858993459)))]) hx hb dJ6_bitCount_23 rfl hl (by decide) rfl (fun ls hl => ?_)
  refine lv_iload_n hx hb dJ6_bitCount_24 rfl (lv_at hl 0 rfl) ?_
  refine lv_iload_n hx hb dJ6_bitCount_25 rfl (lv_at hl 0 rfl) ?_
  refine lv_iconst (v := 4) hx hb dJ6_bitCount_26 (by decide) ?_
  refine lv_iushr (v := sm_ushr (((x - ((sm_ushr x 1) &&& 1431655765)) &&& 858993459) + ((sm_ushr (x - ((sm_ushr x 1) &&& 1431655765)) 2) &&& 858993459)) 4) hx hb dJ6_bitCount_27 rfl ?_
  refine lv_iadd hx hb dJ6_bitCount_28 ?_
  refine lv_ldcw (v := 252645135) hx hb hown (hw 38 rfl) dJ6_bitCount_29 ?_
  refine lv_iand hx hb dJ6_bitCount_32 ?_
  refine lv_istore_n (lv' := [(0, .int (((((x - ((sm_ushr x 1) &&& 1431655765)) &&& 858993459) + ((sm_ushr (x - ((sm_ushr x 1) &&& 1431655765)) 2) &&& 858993459)) + (sm_ushr (((x - ((sm_ushr x 1) &&& 1431655765)) &&& 858993459) + ((sm_ushr (x - ((sm_ushr x 1) &&& 1431655765)) 2) &&& 858993459)) 4)) &&& 252645135))]) hx hb dJ6_bitCount_33 rfl hl (by decide) rfl (fun ls hl => ?_)
  refine lv_iload_n hx hb dJ6_bitCount_34 rfl (lv_at hl 0 rfl) ?_
  refine lv_iload_n hx hb dJ6_bitCount_35 rfl (lv_at hl 0 rfl) ?_
  refine lv_bipush (v := 8) hx hb dJ6_bitCount_36 (by decide) ?_
  refine lv_iushr (v := sm_ushr (((((x - ((sm_ushr x 1) &&& 1431655765)) &&& 858993459) + ((sm_ushr (x - ((sm_ushr x 1) &&& 1431655765)) 2) &&& 858993459)) + (sm_ushr (((x - ((sm_ushr x 1) &&& 1431655765)) &&& 858993459) + ((sm_ushr (x - ((sm_ushr x 1) &&& 1431655765)) 2) &&& 858993459)) 4)) &&& 252645135) 8) hx hb dJ6_bitCount_38 rfl ?_
  refine lv_iadd hx hb dJ6_bitCount_39 ?_
  refine lv_istore_n (lv' := [(0, .int ((((((x - ((sm_ushr x 1) &&& 1431655765)) &&& 858993459) + ((sm_ushr (x - ((sm_ushr x 1) &&& 1431655765)) 2) &&& 858993459)) + (sm_ushr (((x - ((sm_ushr x 1) &&& 1431655765)) &&& 858993459) + ((sm_ushr (x - ((sm_ushr x 1) &&& 1431655765)) 2) &&& 858993459)) 4)) &&& 252645135) + (sm_ushr (((((x - ((sm_ushr x 1) &&& 1431655765)) &&& 858993459) + ((sm_ushr (x - ((sm_ushr x 1) &&& 1431655765)) 2) &&& 858993459)) + (sm_ushr (((x - ((sm_ushr x 1) &&& 1431655765)) &&& 858993459) + ((sm_ushr (x - ((sm_ushr x 1) &&& 1431655765)) 2) &&& 858993459)) 4)) &&& 252645135) 8)))]) hx hb dJ6_bitCount_40 rfl hl (by decide) rfl (fun ls hl => ?_)
  refine lv_iload_n hx hb dJ6_bitCount_41 rfl (lv_at hl 0 rfl) ?_
  refine lv_iload_n hx hb dJ6_bitCount_42 rfl (lv_at hl 0 rfl) ?_
  refine lv_bipush (v := 16) hx hb dJ6_bitCount_43 (by decide) ?_
  refine lv_iushr (v := sm_ushr ((((((x - ((sm_ushr x 1) &&& 1431655765)) &&& 858993459) + ((sm_ushr (x - ((sm_ushr x 1) &&& 1431655765)) 2) &&& 858993459)) + (sm_ushr (((x - ((sm_ushr x 1) &&& 1431655765)) &&& 858993459) + ((sm_ushr (x - ((sm_ushr x 1) &&& 1431655765)) 2) &&& 858993459)) 4)) &&& 252645135) + (sm_ushr (((((x - ((sm_ushr x 1) &&& 1431655765)) &&& 858993459) + ((sm_ushr (x - ((sm_ushr x 1) &&& 1431655765)) 2) &&& 858993459)) + (sm_ushr (((x - ((sm_ushr x 1) &&& 1431655765)) &&& 858993459) + ((sm_ushr (x - ((sm_ushr x 1) &&& 1431655765)) 2) &&& 858993459)) 4)) &&& 252645135) 8)) 16) hx hb dJ6_bitCount_45 rfl ?_
  refine lv_iadd hx hb dJ6_bitCount_46 ?_
  refine lv_istore_n (lv' := [(0, .int (((((((x - ((sm_ushr x 1) &&& 1431655765)) &&& 858993459) + ((sm_ushr (x - ((sm_ushr x 1) &&& 1431655765)) 2) &&& 858993459)) + (sm_ushr (((x - ((sm_ushr x 1) &&& 1431655765)) &&& 858993459) + ((sm_ushr (x - ((sm_ushr x 1) &&& 1431655765)) 2) &&& 858993459)) 4)) &&& 252645135) + (sm_ushr (((((x - ((sm_ushr x 1) &&& 1431655765)) &&& 858993459) + ((sm_ushr (x - ((sm_ushr x 1) &&& 1431655765)) 2) &&& 858993459)) + (sm_ushr (((x - ((sm_ushr x 1) &&& 1431655765)) &&& 858993459) + ((sm_ushr (x - ((sm_ushr x 1) &&& 1431655765)) 2) &&& 858993459)) 4)) &&& 252645135) 8)) + (sm_ushr ((((((x - ((sm_ushr x 1) &&& 1431655765)) &&& 858993459) + ((sm_ushr (x - ((sm_ushr x 1) &&& 1431655765)) 2) &&& 858993459)) + (sm_ushr (((x - ((sm_ushr x 1) &&& 1431655765)) &&& 858993459) + ((sm_ushr (x - ((sm_ushr x 1) &&& 1431655765)) 2) &&& 858993459)) 4)) &&& 252645135) + (sm_ushr (((((x - ((sm_ushr x 1) &&& 1431655765)) &&& 858993459) + ((sm_ushr (x - ((sm_ushr x 1) &&& 1431655765)) 2) &&& 858993459)) + (sm_ushr (((x - ((sm_ushr x 1) &&& 1431655765)) &&& 858993459) + ((sm_ushr (x - ((sm_ushr x 1) &&& 1431655765)) 2) &&& 858993459)) 4)) &&& 252645135) 8)) 16)))]) hx hb dJ6_bitCount_47 rfl hl (by decide) rfl (fun ls hl => ?_)
  refine lv_iload_n hx hb dJ6_bitCount_48 rfl (lv_at hl 0 rfl) ?_
  refine lv_bipush (v := 63) hx hb dJ6_bitCount_49 (by decide) ?_
  refine lv_iand hx hb dJ6_bitCount_51 ?_
  refine sm_eqi (y := nI (sm_pc (bt x) 32)) (sm_bc_eq x) ?_
  exact sm_iret hx hb hrt hlocks hS hP hD dJ6_bitCount_52
end
section
set_option maxHeartbeats 4000000 in
set_option maxRecDepth 100000 in
theorem c_lowEnd (l : Launch) (D : va_G) (v n : Int32) : sm_C l yX0_lowEnd wsX0_lowEnd ({ frames := 0, cells := 0, slots := 0, locals := 0 } : Room) D vwCl [] [.int v, .int n] [] (some (.int (sm_le v n))) [] := by
  refine sm_start (cc := cX0_lowEnd) (maxL := 2) (ret := some .int) (lv := [(0, .int v), (1, .int n)]) (by decide) rfl (Nat.le_of_ble_eq_true rfl) rfl ?_
  intro p e s m below meth c hx hb hrt hts hown hlocks hml hin hK hP hD hS hA ls hl
  have hw := sm_hw hts
  refine lv_iload_n hx hb dX0_lowEnd_0 rfl (lv_at hl 0 rfl) ?_
  refine lv_iload_n hx hb dX0_lowEnd_1 rfl (lv_at hl 1 rfl) ?_
  refine lv_iconst (v := (-1)) hx hb dX0_lowEnd_2 (by decide) ?_
  refine lv_ixor hx hb dX0_lowEnd_3 ?_
  refine lv_iand hx hb dX0_lowEnd_4 ?_
  refine lv_iload_n hx hb dX0_lowEnd_5 rfl (lv_at hl 1 rfl) ?_
  refine lv_ldc (v := (-2147483648)) hx hb hown (hw 135 rfl) dX0_lowEnd_6 ?_
  refine lv_iand hx hb dX0_lowEnd_8 ?_
  refine lv_ior hx hb dX0_lowEnd_9 ?_
  refine sm_eqi (y := sm_le v n) (rfl) ?_
  exact sm_iret hx hb hrt hlocks hS hP hD dX0_lowEnd_10
set_option maxHeartbeats 4000000 in
set_option maxRecDepth 100000 in
theorem c_highEnd (l : Launch) (D : va_G) (v n : Int32) : sm_C l yX0_highEnd wsX0_highEnd ({ frames := 0, cells := 0, slots := 0, locals := 0 } : Room) D vwCl [] [.int v, .int n] [] (some (.int (sm_he v n))) [] := by
  refine sm_start (cc := cX0_highEnd) (maxL := 2) (ret := some .int) (lv := [(0, .int v), (1, .int n)]) (by decide) rfl (Nat.le_of_ble_eq_true rfl) rfl ?_
  intro p e s m below meth c hx hb hrt hts hown hlocks hml hin hK hP hD hS hA ls hl
  have hw := sm_hw hts
  refine lv_iload_n hx hb dX0_highEnd_0 rfl (lv_at hl 0 rfl) ?_
  refine lv_iload_n hx hb dX0_highEnd_1 rfl (lv_at hl 1 rfl) ?_
  refine lv_iconst (v := (-1)) hx hb dX0_highEnd_2 (by decide) ?_
  refine lv_ixor hx hb dX0_highEnd_3 ?_
  refine lv_iand hx hb dX0_highEnd_4 ?_
  refine lv_iload_n hx hb dX0_highEnd_5 rfl (lv_at hl 1 rfl) ?_
  refine lv_ldc (v := 2147483647) hx hb hown (hw 164 rfl) dX0_highEnd_6 ?_
  refine lv_iand hx hb dX0_highEnd_8 ?_
  refine lv_ior hx hb dX0_highEnd_9 ?_
  refine sm_eqi (y := sm_he v n) (rfl) ?_
  exact sm_iret hx hb hrt hlocks hS hP hD dX0_highEnd_10
set_option maxHeartbeats 4000000 in
set_option maxRecDepth 100000 in
theorem c_signTurned (l : Launch) (D : va_G) (v : Int32) : sm_C l yX0_signTurned wsX0_signTurned ({ frames := 0, cells := 0, slots := 0, locals := 0 } : Room) D vwCl [] [.int v] [] (some (.int (v ^^^ (-2147483648)))) [] := by
  refine sm_start (cc := cX0_signTurned) (maxL := 1) (ret := some .int) (lv := [(0, .int v)]) (by decide) rfl (Nat.le_of_ble_eq_true rfl) rfl ?_
  intro p e s m below meth c hx hb hrt hts hown hlocks hml hin hK hP hD hS hA ls hl
  have hw := sm_hw hts
  refine lv_iload_n hx hb dX0_signTurned_0 rfl (lv_at hl 0 rfl) ?_
  refine lv_ldc (v := (-2147483648)) hx hb hown (hw 135 rfl) dX0_signTurned_1 ?_
  refine lv_ixor hx hb dX0_signTurned_3 ?_
  exact sm_iret hx hb hrt hlocks hS hP hD dX0_signTurned_4
set_option maxHeartbeats 4000000 in
set_option maxRecDepth 100000 in
theorem c_bit (l : Launch) (D : va_G) (q : Bool) : sm_C l yX0_bit wsX0_bit ({ frames := 0, cells := 0, slots := 0, locals := 0 } : Room) D vwCl [] [.int (sm_bI q)] [] (some (.int (sm_bI q))) [] := by
  refine sm_start (cc := cX0_bit) (maxL := 1) (ret := some .int) (lv := [(0, .int (sm_bI q))]) (by decide) rfl (Nat.le_of_ble_eq_true rfl) rfl ?_
  intro p e s m below meth c hx hb hrt hts hown hlocks hml hin hK hP hD hS hA ls hl
  have hw := sm_hw hts
  refine lv_iload_n hx hb dX0_bit_0 rfl (lv_at hl 0 rfl) ?_
  refine sm_ifb_eq (tgt := 8) hx hb dX0_bit_1 rfl (fun h1 => ?_) (fun h1 => ?_)
  · refine lv_iconst (v := 0) hx hb dX0_bit_8 (by decide) ?_
    refine sm_eqi (y := sm_bI q) (by simp [sm_bI, h1]) ?_
    exact sm_iret hx hb hrt hlocks hS hP hD dX0_bit_9
  · refine lv_iconst (v := 1) hx hb dX0_bit_4 (by decide) ?_
    refine lv_goto (tgt := 9) hx hb dX0_bit_5 rfl ?_
    refine sm_eqi (y := sm_bI q) (by simp [sm_bI, h1]) ?_
    exact sm_iret hx hb hrt hlocks hS hP hD dX0_bit_9
set_option maxHeartbeats 4000000 in
set_option maxRecDepth 100000 in
theorem c_samenessHangs (l : Launch) (D : va_G) (v w n : Int32) : sm_C l yX0_samenessHangs wsX0_samenessHangs ({ frames := 0, cells := 0, slots := 0, locals := 0 } : Room) D vwCl [] [.int v, .int w, .int n] [] (some (.int (sm_bI (!decide (n = 0) && decide ((v ^^^ w) &&& (n ^^^ (-1)) = 0))))) [] := by
  refine sm_start (cc := cX0_samenessHangs) (maxL := 3) (ret := some .boolean) (lv := [(0, .int v), (1, .int w), (2, .int n)]) (by decide) rfl (Nat.le_of_ble_eq_true rfl) rfl ?_
  intro p e s m below meth c hx hb hrt hts hown hlocks hml hin hK hP hD hS hA ls hl
  have hw := sm_hw hts
  refine lv_iload_n hx hb dX0_samenessHangs_0 rfl (lv_at hl 2 rfl) ?_
  refine lv_if_eq (tgt := 18) hx hb dX0_samenessHangs_1 rfl (fun h1 => ?_) (fun h1 => ?_)
  · refine lv_iconst (v := 0) hx hb dX0_samenessHangs_18 (by decide) ?_
    refine sm_eqi (y := sm_bI (!decide (n = 0) && decide ((v ^^^ w) &&& (n ^^^ (-1)) = 0))) (by rw [decide_eq_true h1]; rfl) ?_
    exact sm_zret hx hb hrt hlocks hS hP hD dX0_samenessHangs_19
  · refine lv_iload_n hx hb dX0_samenessHangs_4 rfl (lv_at hl 0 rfl) ?_
    refine lv_iload_n hx hb dX0_samenessHangs_5 rfl (lv_at hl 1 rfl) ?_
    refine lv_ixor hx hb dX0_samenessHangs_6 ?_
    refine lv_iload_n hx hb dX0_samenessHangs_7 rfl (lv_at hl 2 rfl) ?_
    refine lv_iconst (v := (-1)) hx hb dX0_samenessHangs_8 (by decide) ?_
    refine lv_ixor hx hb dX0_samenessHangs_9 ?_
    refine lv_iand hx hb dX0_samenessHangs_10 ?_
    refine lv_if_ne (tgt := 18) hx hb dX0_samenessHangs_11 rfl (fun h11 => ?_) (fun h11 => ?_)
    · refine lv_iconst (v := 0) hx hb dX0_samenessHangs_18 (by decide) ?_
      refine sm_eqi (y := sm_bI (!decide (n = 0) && decide ((v ^^^ w) &&& (n ^^^ (-1)) = 0))) (by rw [decide_eq_false h1, decide_eq_false h11]; rfl) ?_
      exact sm_zret hx hb hrt hlocks hS hP hD dX0_samenessHangs_19
    · refine lv_iconst (v := 1) hx hb dX0_samenessHangs_14 (by decide) ?_
      refine lv_goto (tgt := 19) hx hb dX0_samenessHangs_15 rfl ?_
      refine sm_eqi (y := sm_bI (!decide (n = 0) && decide ((v ^^^ w) &&& (n ^^^ (-1)) = 0))) (by rw [decide_eq_false h1, decide_eq_true h11]; rfl) ?_
      exact sm_zret hx hb hrt hlocks hS hP hD dX0_samenessHangs_19
set_option maxHeartbeats 4000000 in
set_option maxRecDepth 100000 in
theorem c_orderHangs (l : Launch) (D : va_G) (x nx y ny : Int32) : sm_C l yX0_orderHangs wsX0_orderHangs ({ frames := 1, cells := 0, slots := 0, locals := 21 } : Room) D vwCl [] [.int x, .int nx, .int y, .int ny] [] (some (.int (sm_bI (decide (sm_le x nx < sm_he y ny) && decide (sm_le y ny ≤ sm_he x nx))))) [] := by
  refine sm_start (cc := cX0_orderHangs) (maxL := 6) (ret := some .boolean) (lv := [(0, .int x), (1, .int nx), (2, .int y), (3, .int ny)]) (by decide) rfl (Nat.le_of_ble_eq_true rfl) rfl ?_
  intro p e s m below meth c hx hb hrt hts hown hlocks hml hin hK hP hD hS hA ls hl
  have hw := sm_hw hts
  refine lv_iload_n hx hb dX0_orderHangs_0 rfl (lv_at hl 0 rfl) ?_
  refine lv_iload_n hx hb dX0_orderHangs_1 rfl (lv_at hl 1 rfl) ?_
  refine sm_callS (As := [.int x, .int nx]) (rest := []) (wr := []) (wn := []) (st1 := [.int (sm_le x nx)]) ⟨hx, hb, hml, hown, hts⟩ (c_lowEnd l D x nx) (va_cwS 2 hts (sm_gS (i1 := 158) (i2 := 159) (i4 := 1) (i5 := 160) rfl rfl rfl rfl) rfl rfl rfl (by decide +kernel) ⟨Nat.le_of_ble_eq_true rfl, Nat.le_of_ble_eq_true rfl⟩) hK [] rfl hP hD hS hA [] [] rfl rfl (by decide) (by decide) (by decide) rfl hl.1 rfl (Nat.le_of_ble_eq_true rfl) dX0_orderHangs_2 ⟨Nat.le_of_ble_eq_true rfl, Nat.le_of_ble_eq_true rfl⟩ rfl rfl (fun H locs hP hD hS => ?_)
  refine lv_iload_n hx hb dX0_orderHangs_5 rfl (lv_at hl 2 rfl) ?_
  refine lv_iload_n hx hb dX0_orderHangs_6 rfl (lv_at hl 3 rfl) ?_
  refine sm_callS (As := [.int y, .int ny]) (rest := [.int (sm_le x nx)]) (wr := []) (wn := []) (st1 := [.int (sm_he y ny), .int (sm_le x nx)]) ⟨hx, hb, hml, hown, hts⟩ (c_highEnd l D y ny) (va_cwS 2 hts (sm_gS (i1 := 161) (i2 := 162) (i4 := 1) (i5 := 163) rfl rfl rfl rfl) rfl rfl rfl (by decide +kernel) ⟨Nat.le_of_ble_eq_true rfl, Nat.le_of_ble_eq_true rfl⟩) hK [] rfl hP hD hS hA [] [] rfl rfl (by decide) (by decide) (by decide) rfl hl.1 rfl (Nat.le_of_ble_eq_true rfl) dX0_orderHangs_7 ⟨Nat.le_of_ble_eq_true rfl, Nat.le_of_ble_eq_true rfl⟩ rfl rfl (fun H locs hP hD hS => ?_)
  refine lv_icmp_ge (tgt := 17) hx hb dX0_orderHangs_10 rfl (fun h10 => ?_) (fun h10 => ?_)
  · refine lv_iconst (v := 0) hx hb dX0_orderHangs_17 (by decide) ?_
    refine lv_istore (lv' := [(4, .int 0), (0, .int x), (1, .int nx), (2, .int y), (3, .int ny)]) hx hb dX0_orderHangs_18 hl (by decide) rfl (fun ls hl => ?_)
    refine lv_iload_n hx hb dX0_orderHangs_20 rfl (lv_at hl 1 rfl) ?_
    refine lv_iload_n hx hb dX0_orderHangs_21 rfl (lv_at hl 2 rfl) ?_
    refine sm_callS (As := [.int x, .int nx]) (rest := []) (wr := []) (wn := []) (st1 := [.int (sm_he x nx)]) ⟨hx, hb, hml, hown, hts⟩ (c_highEnd l D x nx) (va_cwS 2 hts (sm_gS (i1 := 161) (i2 := 162) (i4 := 1) (i5 := 163) rfl rfl rfl rfl) rfl rfl rfl (by decide +kernel) ⟨Nat.le_of_ble_eq_true rfl, Nat.le_of_ble_eq_true rfl⟩) hK [] rfl hP hD hS hA [] [] rfl rfl (by decide) (by decide) (by decide) rfl hl.1 rfl (Nat.le_of_ble_eq_true rfl) dX0_orderHangs_22 ⟨Nat.le_of_ble_eq_true rfl, Nat.le_of_ble_eq_true rfl⟩ rfl rfl (fun H locs hP hD hS => ?_)
    refine lv_iload_n hx hb dX0_orderHangs_25 rfl (lv_at hl 3 rfl) ?_
    refine lv_iload_n hx hb dX0_orderHangs_26 rfl (lv_at hl 4 rfl) ?_
    refine sm_callS (As := [.int y, .int ny]) (rest := [.int (sm_he x nx)]) (wr := []) (wn := []) (st1 := [.int (sm_le y ny), .int (sm_he x nx)]) ⟨hx, hb, hml, hown, hts⟩ (c_lowEnd l D y ny) (va_cwS 2 hts (sm_gS (i1 := 158) (i2 := 159) (i4 := 1) (i5 := 160) rfl rfl rfl rfl) rfl rfl rfl (by decide +kernel) ⟨Nat.le_of_ble_eq_true rfl, Nat.le_of_ble_eq_true rfl⟩) hK [] rfl hP hD hS hA [] [] rfl rfl (by decide) (by decide) (by decide) rfl hl.1 rfl (Nat.le_of_ble_eq_true rfl) dX0_orderHangs_27 ⟨Nat.le_of_ble_eq_true rfl, Nat.le_of_ble_eq_true rfl⟩ rfl rfl (fun H locs hP hD hS => ?_)
    refine lv_icmp_lt (tgt := 37) hx hb dX0_orderHangs_30 rfl (fun h30 => ?_) (fun h30 => ?_)
    · refine lv_iconst (v := 0) hx hb dX0_orderHangs_37 (by decide) ?_
      refine lv_istore (lv' := [(5, .int 0), (4, .int 0), (0, .int x), (1, .int nx), (2, .int y), (3, .int ny)]) hx hb dX0_orderHangs_38 hl (by decide) rfl (fun ls hl => ?_)
      refine lv_iload hx hb dX0_orderHangs_40 (lv_at hl 1 rfl) ?_
      refine lv_if_eq (tgt := 54) hx hb dX0_orderHangs_42 rfl (fun _ => ?_) (fun z => absurd (by decide) z)
      refine lv_iconst (v := 0) hx hb dX0_orderHangs_54 (by decide) ?_
      refine sm_eqi (y := sm_bI (decide (sm_le x nx < sm_he y ny) && decide (sm_le y ny ≤ sm_he x nx))) (by simp [sm_bI, Int32.not_le, Int32.not_lt, h10, h30]) ?_
      exact sm_zret hx hb hrt hlocks hS hP hD dX0_orderHangs_55
    · refine lv_iconst (v := 1) hx hb dX0_orderHangs_33 (by decide) ?_
      refine lv_goto (tgt := 38) hx hb dX0_orderHangs_34 rfl ?_
      refine lv_istore (lv' := [(5, .int 1), (4, .int 0), (0, .int x), (1, .int nx), (2, .int y), (3, .int ny)]) hx hb dX0_orderHangs_38 hl (by decide) rfl (fun ls hl => ?_)
      refine lv_iload hx hb dX0_orderHangs_40 (lv_at hl 1 rfl) ?_
      refine lv_if_eq (tgt := 54) hx hb dX0_orderHangs_42 rfl (fun _ => ?_) (fun z => absurd (by decide) z)
      refine lv_iconst (v := 0) hx hb dX0_orderHangs_54 (by decide) ?_
      refine sm_eqi (y := sm_bI (decide (sm_le x nx < sm_he y ny) && decide (sm_le y ny ≤ sm_he x nx))) (by simp [sm_bI, Int32.not_le, Int32.not_lt, h10, h30]) ?_
      exact sm_zret hx hb hrt hlocks hS hP hD dX0_orderHangs_55
  · refine lv_iconst (v := 1) hx hb dX0_orderHangs_13 (by decide) ?_
    refine lv_goto (tgt := 18) hx hb dX0_orderHangs_14 rfl ?_
    refine lv_istore (lv' := [(4, .int 1), (0, .int x), (1, .int nx), (2, .int y), (3, .int ny)]) hx hb dX0_orderHangs_18 hl (by decide) rfl (fun ls hl => ?_)
    refine lv_iload_n hx hb dX0_orderHangs_20 rfl (lv_at hl 1 rfl) ?_
    refine lv_iload_n hx hb dX0_orderHangs_21 rfl (lv_at hl 2 rfl) ?_
    refine sm_callS (As := [.int x, .int nx]) (rest := []) (wr := []) (wn := []) (st1 := [.int (sm_he x nx)]) ⟨hx, hb, hml, hown, hts⟩ (c_highEnd l D x nx) (va_cwS 2 hts (sm_gS (i1 := 161) (i2 := 162) (i4 := 1) (i5 := 163) rfl rfl rfl rfl) rfl rfl rfl (by decide +kernel) ⟨Nat.le_of_ble_eq_true rfl, Nat.le_of_ble_eq_true rfl⟩) hK [] rfl hP hD hS hA [] [] rfl rfl (by decide) (by decide) (by decide) rfl hl.1 rfl (Nat.le_of_ble_eq_true rfl) dX0_orderHangs_22 ⟨Nat.le_of_ble_eq_true rfl, Nat.le_of_ble_eq_true rfl⟩ rfl rfl (fun H locs hP hD hS => ?_)
    refine lv_iload_n hx hb dX0_orderHangs_25 rfl (lv_at hl 3 rfl) ?_
    refine lv_iload_n hx hb dX0_orderHangs_26 rfl (lv_at hl 4 rfl) ?_
    refine sm_callS (As := [.int y, .int ny]) (rest := [.int (sm_he x nx)]) (wr := []) (wn := []) (st1 := [.int (sm_le y ny), .int (sm_he x nx)]) ⟨hx, hb, hml, hown, hts⟩ (c_lowEnd l D y ny) (va_cwS 2 hts (sm_gS (i1 := 158) (i2 := 159) (i4 := 1) (i5 := 160) rfl rfl rfl rfl) rfl rfl rfl (by decide +kernel) ⟨Nat.le_of_ble_eq_true rfl, Nat.le_of_ble_eq_true rfl⟩) hK [] rfl hP hD hS hA [] [] rfl rfl (by decide) (by decide) (by decide) rfl hl.1 rfl (Nat.le_of_ble_eq_true rfl) dX0_orderHangs_27 ⟨Nat.le_of_ble_eq_true rfl, Nat.le_of_ble_eq_true rfl⟩ rfl rfl (fun H locs hP hD hS => ?_)
    refine lv_icmp_lt (tgt := 37) hx hb dX0_orderHangs_30 rfl (fun h30 => ?_) (fun h30 => ?_)
    · refine lv_iconst (v := 0) hx hb dX0_orderHangs_37 (by decide) ?_
      refine lv_istore (lv' := [(5, .int 0), (4, .int 1), (0, .int x), (1, .int nx), (2, .int y), (3, .int ny)]) hx hb dX0_orderHangs_38 hl (by decide) rfl (fun ls hl => ?_)
      refine lv_iload hx hb dX0_orderHangs_40 (lv_at hl 1 rfl) ?_
      refine lv_if_eq (tgt := 54) hx hb dX0_orderHangs_42 rfl (fun z => absurd z (by decide)) (fun _ => ?_)
      refine lv_iload hx hb dX0_orderHangs_45 (lv_at hl 0 rfl) ?_
      refine lv_if_eq (tgt := 54) hx hb dX0_orderHangs_47 rfl (fun _ => ?_) (fun z => absurd (by decide) z)
      refine lv_iconst (v := 0) hx hb dX0_orderHangs_54 (by decide) ?_
      refine sm_eqi (y := sm_bI (decide (sm_le x nx < sm_he y ny) && decide (sm_le y ny ≤ sm_he x nx))) (by simp [sm_bI, Int32.not_le, Int32.not_lt, h10, h30]) ?_
      exact sm_zret hx hb hrt hlocks hS hP hD dX0_orderHangs_55
    · refine lv_iconst (v := 1) hx hb dX0_orderHangs_33 (by decide) ?_
      refine lv_goto (tgt := 38) hx hb dX0_orderHangs_34 rfl ?_
      refine lv_istore (lv' := [(5, .int 1), (4, .int 1), (0, .int x), (1, .int nx), (2, .int y), (3, .int ny)]) hx hb dX0_orderHangs_38 hl (by decide) rfl (fun ls hl => ?_)
      refine lv_iload hx hb dX0_orderHangs_40 (lv_at hl 1 rfl) ?_
      refine lv_if_eq (tgt := 54) hx hb dX0_orderHangs_42 rfl (fun z => absurd z (by decide)) (fun _ => ?_)
      refine lv_iload hx hb dX0_orderHangs_45 (lv_at hl 0 rfl) ?_
      refine lv_if_eq (tgt := 54) hx hb dX0_orderHangs_47 rfl (fun z => absurd z (by decide)) (fun _ => ?_)
      refine lv_iconst (v := 1) hx hb dX0_orderHangs_50 (by decide) ?_
      refine lv_goto (tgt := 55) hx hb dX0_orderHangs_51 rfl ?_
      refine sm_eqi (y := sm_bI (decide (sm_le x nx < sm_he y ny) && decide (sm_le y ny ≤ sm_he x nx))) (by simp [sm_bI, Int32.not_le, Int32.not_lt, h10, h30]) ?_
      exact sm_zret hx hb hrt hlocks hS hP hD dX0_orderHangs_55
set_option maxHeartbeats 4000000 in
set_option maxRecDepth 100000 in
theorem c_fromPlaceOn (l : Launch) (D : va_G) (n : Nat) (hn : n < 2 ^ 31) : sm_C l yX0_fromPlaceOn wsX0_fromPlaceOn ({ frames := 0, cells := 0, slots := 0, locals := 0 } : Room) D vwCl [] [.int (nI n)] [] (some (.int (sm_fr n))) [] := by
  refine sm_start (cc := cX0_fromPlaceOn) (maxL := 1) (ret := some .int) (lv := [(0, .int (nI n))]) (by decide) rfl (Nat.le_of_ble_eq_true rfl) rfl ?_
  intro p e s m below meth c hx hb hrt hts hown hlocks hml hin hK hP hD hS hA ls hl
  have hw := sm_hw hts
  refine lv_iload_n hx hb dX0_fromPlaceOn_0 rfl (lv_at hl 0 rfl) ?_
  refine lv_bipush (v := 32) hx hb dX0_fromPlaceOn_1 (by decide) ?_
  refine lv_icmp_lt (tgt := 10) hx hb dX0_fromPlaceOn_3 rfl (fun h3 => ?_) (fun h3 => ?_)
  · refine lv_iconst (v := (-1)) hx hb dX0_fromPlaceOn_10 (by decide) ?_
    refine lv_iload_n hx hb dX0_fromPlaceOn_11 rfl (lv_at hl 0 rfl) ?_
    refine lv_ishl hx hb dX0_fromPlaceOn_12 ?_
    refine sm_eqi (y := sm_fr n) (sm_fr_sh (sm_lt32 hn h3)) ?_
    exact sm_iret hx hb hrt hlocks hS hP hD dX0_fromPlaceOn_13
  · refine lv_iconst (v := 0) hx hb dX0_fromPlaceOn_6 (by decide) ?_
    refine lv_goto (tgt := 13) hx hb dX0_fromPlaceOn_7 rfl ?_
    refine sm_eqi (y := sm_fr n) ((sm_fr_0 (sm_le32 hn h3)).symm) ?_
    exact sm_iret hx hb hrt hlocks hS hP hD dX0_fromPlaceOn_13
end
section
set_option maxHeartbeats 4000000 in
set_option maxRecDepth 100000 in
theorem c_checkRegister (l : Launch) (D : va_G) (r : Nat) (hr : r < 16) : sm_C l yX0_checkRegister wsX0_checkRegister ({ frames := 0, cells := 0, slots := 0, locals := 0 } : Room) D vwCl [] [.int (nI r)] [] none [] := by
  refine sm_start (cc := cX0_checkRegister) (maxL := 1) (ret := none) (lv := [(0, .int (nI r))]) (by decide) rfl (Nat.le_of_ble_eq_true rfl) rfl ?_
  intro p e s m below meth c hx hb hrt hts hown hlocks hml hin hK hP hD hS hA ls hl
  have hw := sm_hw hts
  refine lv_iload_n hx hb dX0_checkRegister_0 rfl (lv_at hl 0 rfl) ?_
  refine lv_if_lt (tgt := 10) hx hb dX0_checkRegister_1 rfl (fun z => absurd z (nI_pos (by omega))) (fun _ => ?_)
  refine lv_iload_n hx hb dX0_checkRegister_4 rfl (lv_at hl 0 rfl) ?_
  refine lv_bipush (v := 16) hx hb dX0_checkRegister_5 (by decide) ?_
  refine lv_icmp_lt (tgt := 18) hx hb dX0_checkRegister_7 rfl (fun _ => ?_) (fun z => absurd (nI_lt (b := 16) hr (by decide)) z)
  exact sm_vret hx hb hrt hlocks hS hP hD dX0_checkRegister_18
set_option maxHeartbeats 4000000 in
set_option maxRecDepth 100000 in
theorem c_shifted_5 (l : Launch) (D : va_G) (x n : Int32) : sm_C l yX0_shifted wsX0_shifted ({ frames := 0, cells := 0, slots := 0, locals := 0 } : Room) D vwCl [] [.int 5, .int x, .int n] [] (some (.int (x <<< (n &&& 31)))) [] := by
  refine sm_start (cc := cX0_shifted) (maxL := 3) (ret := some .int) (lv := [(0, .int 5), (1, .int x), (2, .int n)]) (by decide) rfl (Nat.le_of_ble_eq_true rfl) rfl ?_
  intro p e s m below meth c hx hb hrt hts hown hlocks hml hin hK hP hD hS hA ls hl
  have hw := sm_hw hts
  refine lv_iload_n hx hb dX0_shifted_0 rfl (lv_at hl 0 rfl) ?_
  refine lv_lookup (off := 27) (tgt := 28) hx hb dX0_shifted_1 (by decide) (by decide) (by decide) ?_
  refine lv_iload_n hx hb dX0_shifted_28 rfl (lv_at hl 1 rfl) ?_
  refine lv_iload_n hx hb dX0_shifted_29 rfl (lv_at hl 2 rfl) ?_
  refine lv_ishl hx hb dX0_shifted_30 ?_
  exact sm_iret hx hb hrt hlocks hS hP hD dX0_shifted_31
set_option maxHeartbeats 4000000 in
set_option maxRecDepth 100000 in
theorem c_shifted_6 (l : Launch) (D : va_G) (x n : Int32) : sm_C l yX0_shifted wsX0_shifted ({ frames := 0, cells := 0, slots := 0, locals := 0 } : Room) D vwCl [] [.int 6, .int x, .int n] [] (some (.int (sm_ushr x n))) [] := by
  refine sm_start (cc := cX0_shifted) (maxL := 3) (ret := some .int) (lv := [(0, .int 6), (1, .int x), (2, .int n)]) (by decide) rfl (Nat.le_of_ble_eq_true rfl) rfl ?_
  intro p e s m below meth c hx hb hrt hts hown hlocks hml hin hK hP hD hS hA ls hl
  have hw := sm_hw hts
  refine lv_iload_n hx hb dX0_shifted_0 rfl (lv_at hl 0 rfl) ?_
  refine lv_lookup (off := 31) (tgt := 32) hx hb dX0_shifted_1 (by decide) (by decide) (by decide) ?_
  refine lv_iload_n hx hb dX0_shifted_32 rfl (lv_at hl 1 rfl) ?_
  refine lv_iload_n hx hb dX0_shifted_33 rfl (lv_at hl 2 rfl) ?_
  refine lv_iushr (v := sm_ushr x n) hx hb dX0_shifted_34 rfl ?_
  exact sm_iret hx hb hrt hlocks hS hP hD dX0_shifted_35
set_option maxHeartbeats 4000000 in
set_option maxRecDepth 100000 in
theorem c_shifted_7 (l : Launch) (D : va_G) (x n : Int32) : sm_C l yX0_shifted wsX0_shifted ({ frames := 0, cells := 0, slots := 0, locals := 0 } : Room) D vwCl [] [.int 7, .int x, .int n] [] (some (.int (x >>> (n &&& 31)))) [] := by
  refine sm_start (cc := cX0_shifted) (maxL := 3) (ret := some .int) (lv := [(0, .int 7), (1, .int x), (2, .int n)]) (by decide) rfl (Nat.le_of_ble_eq_true rfl) rfl ?_
  intro p e s m below meth c hx hb hrt hts hown hlocks hml hin hK hP hD hS hA ls hl
  have hw := sm_hw hts
  refine lv_iload_n hx hb dX0_shifted_0 rfl (lv_at hl 0 rfl) ?_
  refine lv_lookup (off := 35) (tgt := 36) hx hb dX0_shifted_1 (by decide) (by decide) (by decide) ?_
  refine lv_iload_n hx hb dX0_shifted_36 rfl (lv_at hl 1 rfl) ?_
  refine lv_iload_n hx hb dX0_shifted_37 rfl (lv_at hl 2 rfl) ?_
  refine lv_ishr hx hb dX0_shifted_38 ?_
  exact sm_iret hx hb hrt hlocks hS hP hD dX0_shifted_39
set_option maxHeartbeats 4000000 in
set_option maxRecDepth 100000 in
theorem c_value (l : Launch) (D : va_G) (cI : ClassId) (x0 x1 x2 x3 : Nat) (V S M : Nat → Int32) (r : Nat) (hr : r < 16) : sm_C l yX0_value wsX0_value ({ frames := 1, cells := 0, slots := 0, locals := 20 } : Room) D vwCl [(cI, .int)] [.ref x0, .int (nI r)] (sm_wX cI x0 x1 x2 x3 V S M) (some (.int (V r))) (sm_wX cI x0 x1 x2 x3 V S M) := by
  refine sm_start (cc := cX0_value) (maxL := 2) (ret := some .int) (lv := [(0, .ref x0), (1, .int (nI r))]) (by decide) rfl (Nat.le_of_ble_eq_true rfl) rfl ?_
  intro p e s m below meth c hx hb hrt hts hown hlocks hml hin hK hP hD hS hA ls hl
  have hw := sm_hw hts
  refine lv_iload_n hx hb dX0_value_0 rfl (lv_at hl 1 rfl) ?_
  refine sm_callS (As := [.int (nI r)]) (rest := []) (wr := (sm_wX cI x0 x1 x2 x3 V S M)) (wn := (sm_wX cI x0 x1 x2 x3 V S M)) (st1 := []) ⟨hx, hb, hml, hown, hts⟩ (c_checkRegister l D r (by omega)) (va_cwS 1 hts (sm_gS (i1 := 47) (i2 := 48) (i4 := 1) (i5 := 49) rfl rfl rfl rfl) rfl rfl rfl (by decide +kernel) ⟨Nat.le_of_ble_eq_true rfl, Nat.le_of_ble_eq_true rfl⟩) hK [] rfl hP hD hS hA [] [0, 1, 2, 3] rfl rfl (by decide) (by decide) (by decide) rfl hl.1 rfl (Nat.le_of_ble_eq_true rfl) dX0_value_1 ⟨Nat.le_of_ble_eq_true rfl, Nat.le_of_ble_eq_true rfl⟩ rfl rfl (fun H locs hP hD hS => ?_)
  refine lv_aload_n hx hb dX0_value_4 rfl (lv_at hl 0 rfl) ?_
  refine va_get (D := D) (ci := 0) (v := .ref x1) (C := RX0) (T := TX0) (N := 3) hx hb hts inX0 hown hK hP 0 rfl rfl 0 (by decide) (hw 18 rfl) (fun _ h9 => h9) rfl dX0_value_5 ?_
  refine lv_iload_n hx hb dX0_value_8 rfl (lv_at hl 1 rfl) ?_
  refine va_iald hx hb hK hP 1 0 rfl rfl (vp_in_nI (n := r) (by omega) (by decide)) dX0_value_9 ?_
  refine sm_eqi (y := V r) (sm_cl V (n := r) (by omega)) ?_
  exact sm_iret hx hb hrt hlocks hS hP hD dX0_value_10
set_option maxHeartbeats 4000000 in
set_option maxRecDepth 100000 in
theorem c_not (l : Launch) (D : va_G) (cI : ClassId) (x0 x1 x2 x3 : Nat) (V S M : Nat → Int32) (r : Nat) (hr : r < 16) : sm_C l yX0_not wsX0_not ({ frames := 1, cells := 0, slots := 0, locals := 20 } : Room) D vwCl [(cI, .int)] [.ref x0, .int (nI r)] (sm_wX cI x0 x1 x2 x3 V S M) (some (.int (S r))) (sm_wX cI x0 x1 x2 x3 V S M) := by
  refine sm_start (cc := cX0_not) (maxL := 2) (ret := some .int) (lv := [(0, .ref x0), (1, .int (nI r))]) (by decide) rfl (Nat.le_of_ble_eq_true rfl) rfl ?_
  intro p e s m below meth c hx hb hrt hts hown hlocks hml hin hK hP hD hS hA ls hl
  have hw := sm_hw hts
  refine lv_iload_n hx hb dX0_not_0 rfl (lv_at hl 1 rfl) ?_
  refine sm_callS (As := [.int (nI r)]) (rest := []) (wr := (sm_wX cI x0 x1 x2 x3 V S M)) (wn := (sm_wX cI x0 x1 x2 x3 V S M)) (st1 := []) ⟨hx, hb, hml, hown, hts⟩ (c_checkRegister l D r (by omega)) (va_cwS 1 hts (sm_gS (i1 := 47) (i2 := 48) (i4 := 1) (i5 := 49) rfl rfl rfl rfl) rfl rfl rfl (by decide +kernel) ⟨Nat.le_of_ble_eq_true rfl, Nat.le_of_ble_eq_true rfl⟩) hK [] rfl hP hD hS hA [] [0, 1, 2, 3] rfl rfl (by decide) (by decide) (by decide) rfl hl.1 rfl (Nat.le_of_ble_eq_true rfl) dX0_not_1 ⟨Nat.le_of_ble_eq_true rfl, Nat.le_of_ble_eq_true rfl⟩ rfl rfl (fun H locs hP hD hS => ?_)
  refine lv_aload_n hx hb dX0_not_4 rfl (lv_at hl 0 rfl) ?_
  refine va_get (D := D) (ci := 0) (v := .ref x2) (C := RX0) (T := TX0) (N := 3) hx hb hts inX0 hown hK hP 0 rfl rfl 1 (by decide) (hw 19 rfl) (fun _ h9 => h9) rfl dX0_not_5 ?_
  refine lv_iload_n hx hb dX0_not_8 rfl (lv_at hl 1 rfl) ?_
  refine va_iald hx hb hK hP 2 0 rfl rfl (vp_in_nI (n := r) (by omega) (by decide)) dX0_not_9 ?_
  refine sm_eqi (y := S r) (sm_cl S (n := r) (by omega)) ?_
  exact sm_iret hx hb hrt hlocks hS hP hD dX0_not_10
set_option maxHeartbeats 4000000 in
set_option maxRecDepth 100000 in
theorem c_least (l : Launch) (D : va_G) (cI : ClassId) (x0 x1 x2 x3 : Nat) (V S M : Nat → Int32) (r : Nat) (hr : r < 16) : sm_C l yX0_least wsX0_least ({ frames := 1, cells := 0, slots := 0, locals := 21 } : Room) D vwCl [(cI, .int)] [.ref x0, .int (nI r)] (sm_wX cI x0 x1 x2 x3 V S M) (some (.int (sm_le (V r) (S r)))) (sm_wX cI x0 x1 x2 x3 V S M) := by
  refine sm_start (cc := cX0_least) (maxL := 2) (ret := some .int) (lv := [(0, .ref x0), (1, .int (nI r))]) (by decide) rfl (Nat.le_of_ble_eq_true rfl) rfl ?_
  intro p e s m below meth c hx hb hrt hts hown hlocks hml hin hK hP hD hS hA ls hl
  have hw := sm_hw hts
  refine lv_iload_n hx hb dX0_least_0 rfl (lv_at hl 1 rfl) ?_
  refine sm_callS (As := [.int (nI r)]) (rest := []) (wr := (sm_wX cI x0 x1 x2 x3 V S M)) (wn := (sm_wX cI x0 x1 x2 x3 V S M)) (st1 := []) ⟨hx, hb, hml, hown, hts⟩ (c_checkRegister l D r (by omega)) (va_cwS 1 hts (sm_gS (i1 := 47) (i2 := 48) (i4 := 1) (i5 := 49) rfl rfl rfl rfl) rfl rfl rfl (by decide +kernel) ⟨Nat.le_of_ble_eq_true rfl, Nat.le_of_ble_eq_true rfl⟩) hK [] rfl hP hD hS hA [] [0, 1, 2, 3] rfl rfl (by decide) (by decide) (by decide) rfl hl.1 rfl (Nat.le_of_ble_eq_true rfl) dX0_least_1 ⟨Nat.le_of_ble_eq_true rfl, Nat.le_of_ble_eq_true rfl⟩ rfl rfl (fun H locs hP hD hS => ?_)
  refine lv_aload_n hx hb dX0_least_4 rfl (lv_at hl 0 rfl) ?_
  refine va_get (D := D) (ci := 0) (v := .ref x1) (C := RX0) (T := TX0) (N := 3) hx hb hts inX0 hown hK hP 0 rfl rfl 0 (by decide) (hw 18 rfl) (fun _ h9 => h9) rfl dX0_least_5 ?_
  refine lv_iload_n hx hb dX0_least_8 rfl (lv_at hl 1 rfl) ?_
  refine va_iald hx hb hK hP 1 0 rfl rfl (vp_in_nI (n := r) (by omega) (by decide)) dX0_least_9 ?_
  refine sm_eqi (y := V r) (sm_cl V (n := r) (by omega)) ?_
  refine lv_aload_n hx hb dX0_least_10 rfl (lv_at hl 0 rfl) ?_
  refine va_get (D := D) (ci := 0) (v := .ref x2) (C := RX0) (T := TX0) (N := 3) hx hb hts inX0 hown hK hP 0 rfl rfl 1 (by decide) (hw 19 rfl) (fun _ h9 => h9) rfl dX0_least_11 ?_
  refine lv_iload_n hx hb dX0_least_14 rfl (lv_at hl 1 rfl) ?_
  refine va_iald hx hb hK hP 2 0 rfl rfl (vp_in_nI (n := r) (by omega) (by decide)) dX0_least_15 ?_
  refine sm_eqi (y := S r) (sm_cl S (n := r) (by omega)) ?_
  refine sm_callS (As := [.int (V r), .int (S r)]) (rest := []) (wr := (sm_wX cI x0 x1 x2 x3 V S M)) (wn := (sm_wX cI x0 x1 x2 x3 V S M)) (st1 := [.int (sm_le (V r) (S r))]) ⟨hx, hb, hml, hown, hts⟩ (c_lowEnd l D (V r) (S r)) (va_cwS 2 hts (sm_gS (i1 := 158) (i2 := 159) (i4 := 1) (i5 := 160) rfl rfl rfl rfl) rfl rfl rfl (by decide +kernel) ⟨Nat.le_of_ble_eq_true rfl, Nat.le_of_ble_eq_true rfl⟩) hK [] rfl hP hD hS hA [] [0, 1, 2, 3] rfl rfl (by decide) (by decide) (by decide) rfl hl.1 rfl (Nat.le_of_ble_eq_true rfl) dX0_least_16 ⟨Nat.le_of_ble_eq_true rfl, Nat.le_of_ble_eq_true rfl⟩ rfl rfl (fun H locs hP hD hS => ?_)
  exact sm_iret hx hb hrt hlocks hS hP hD dX0_least_19
set_option maxHeartbeats 4000000 in
set_option maxRecDepth 100000 in
theorem c_greatest (l : Launch) (D : va_G) (cI : ClassId) (x0 x1 x2 x3 : Nat) (V S M : Nat → Int32) (r : Nat) (hr : r < 16) : sm_C l yX0_greatest wsX0_greatest ({ frames := 1, cells := 0, slots := 0, locals := 21 } : Room) D vwCl [(cI, .int)] [.ref x0, .int (nI r)] (sm_wX cI x0 x1 x2 x3 V S M) (some (.int (sm_he (V r) (S r)))) (sm_wX cI x0 x1 x2 x3 V S M) := by
  refine sm_start (cc := cX0_greatest) (maxL := 2) (ret := some .int) (lv := [(0, .ref x0), (1, .int (nI r))]) (by decide) rfl (Nat.le_of_ble_eq_true rfl) rfl ?_
  intro p e s m below meth c hx hb hrt hts hown hlocks hml hin hK hP hD hS hA ls hl
  have hw := sm_hw hts
  refine lv_iload_n hx hb dX0_greatest_0 rfl (lv_at hl 1 rfl) ?_
  refine sm_callS (As := [.int (nI r)]) (rest := []) (wr := (sm_wX cI x0 x1 x2 x3 V S M)) (wn := (sm_wX cI x0 x1 x2 x3 V S M)) (st1 := []) ⟨hx, hb, hml, hown, hts⟩ (c_checkRegister l D r (by omega)) (va_cwS 1 hts (sm_gS (i1 := 47) (i2 := 48) (i4 := 1) (i5 := 49) rfl rfl rfl rfl) rfl rfl rfl (by decide +kernel) ⟨Nat.le_of_ble_eq_true rfl, Nat.le_of_ble_eq_true rfl⟩) hK [] rfl hP hD hS hA [] [0, 1, 2, 3] rfl rfl (by decide) (by decide) (by decide) rfl hl.1 rfl (Nat.le_of_ble_eq_true rfl) dX0_greatest_1 ⟨Nat.le_of_ble_eq_true rfl, Nat.le_of_ble_eq_true rfl⟩ rfl rfl (fun H locs hP hD hS => ?_)
  refine lv_aload_n hx hb dX0_greatest_4 rfl (lv_at hl 0 rfl) ?_
  refine va_get (D := D) (ci := 0) (v := .ref x1) (C := RX0) (T := TX0) (N := 3) hx hb hts inX0 hown hK hP 0 rfl rfl 0 (by decide) (hw 18 rfl) (fun _ h9 => h9) rfl dX0_greatest_5 ?_
  refine lv_iload_n hx hb dX0_greatest_8 rfl (lv_at hl 1 rfl) ?_
  refine va_iald hx hb hK hP 1 0 rfl rfl (vp_in_nI (n := r) (by omega) (by decide)) dX0_greatest_9 ?_
  refine sm_eqi (y := V r) (sm_cl V (n := r) (by omega)) ?_
  refine lv_aload_n hx hb dX0_greatest_10 rfl (lv_at hl 0 rfl) ?_
  refine va_get (D := D) (ci := 0) (v := .ref x2) (C := RX0) (T := TX0) (N := 3) hx hb hts inX0 hown hK hP 0 rfl rfl 1 (by decide) (hw 19 rfl) (fun _ h9 => h9) rfl dX0_greatest_11 ?_
  refine lv_iload_n hx hb dX0_greatest_14 rfl (lv_at hl 1 rfl) ?_
  refine va_iald hx hb hK hP 2 0 rfl rfl (vp_in_nI (n := r) (by omega) (by decide)) dX0_greatest_15 ?_
  refine sm_eqi (y := S r) (sm_cl S (n := r) (by omega)) ?_
  refine sm_callS (As := [.int (V r), .int (S r)]) (rest := []) (wr := (sm_wX cI x0 x1 x2 x3 V S M)) (wn := (sm_wX cI x0 x1 x2 x3 V S M)) (st1 := [.int (sm_he (V r) (S r))]) ⟨hx, hb, hml, hown, hts⟩ (c_highEnd l D (V r) (S r)) (va_cwS 2 hts (sm_gS (i1 := 161) (i2 := 162) (i4 := 1) (i5 := 163) rfl rfl rfl rfl) rfl rfl rfl (by decide +kernel) ⟨Nat.le_of_ble_eq_true rfl, Nat.le_of_ble_eq_true rfl⟩) hK [] rfl hP hD hS hA [] [0, 1, 2, 3] rfl rfl (by decide) (by decide) (by decide) rfl hl.1 rfl (Nat.le_of_ble_eq_true rfl) dX0_greatest_16 ⟨Nat.le_of_ble_eq_true rfl, Nat.le_of_ble_eq_true rfl⟩ rfl rfl (fun H locs hP hD hS => ?_)
  exact sm_iret hx hb hrt hlocks hS hP hD dX0_greatest_19
set_option maxHeartbeats 4000000 in
set_option maxRecDepth 100000 in
theorem c_octet (l : Launch) (D : va_G) (cI : ClassId) (x0 x1 x2 x3 : Nat) (V S M : Nat → Int32) (r : Nat) (hr : r < 256) : sm_C l yX0_octet wsX0_octet ({ frames := 0, cells := 0, slots := 0, locals := 0 } : Room) D vwCl [(cI, .int)] [.ref x0, .int (nI r)] (sm_wX cI x0 x1 x2 x3 V S M) (some (.int (M r))) (sm_wX cI x0 x1 x2 x3 V S M) := by
  refine sm_start (cc := cX0_octet) (maxL := 2) (ret := some .int) (lv := [(0, .ref x0), (1, .int (nI r))]) (by decide) rfl (Nat.le_of_ble_eq_true rfl) rfl ?_
  intro p e s m below meth c hx hb hrt hts hown hlocks hml hin hK hP hD hS hA ls hl
  have hw := sm_hw hts
  refine lv_iload_n hx hb dX0_octet_0 rfl (lv_at hl 1 rfl) ?_
  refine lv_if_lt (tgt := 11) hx hb dX0_octet_1 rfl (fun z => absurd z (nI_pos (by omega))) (fun _ => ?_)
  refine lv_iload_n hx hb dX0_octet_4 rfl (lv_at hl 1 rfl) ?_
  refine lv_sipush (v := 256) hx hb dX0_octet_5 (by decide) ?_
  refine lv_icmp_lt (tgt := 19) hx hb dX0_octet_8 rfl (fun _ => ?_) (fun z => absurd (nI_lt (b := 256) hr (by decide)) z)
  refine lv_aload_n hx hb dX0_octet_19 rfl (lv_at hl 0 rfl) ?_
  refine va_get (D := D) (ci := 0) (v := .ref x3) (C := RX0) (T := TX0) (N := 3) hx hb hts inX0 hown hK hP 0 rfl rfl 2 (by decide) (hw 20 rfl) (fun _ h9 => h9) rfl dX0_octet_20 ?_
  refine lv_iload_n hx hb dX0_octet_23 rfl (lv_at hl 1 rfl) ?_
  refine va_iald hx hb hK hP 3 0 rfl rfl (vp_in_nI (n := r) (by omega) (by decide)) dX0_octet_24 ?_
  refine sm_eqi (y := M r) (sm_cl M (n := r) (by omega)) ?_
  exact sm_iret hx hb hrt hlocks hS hP hD dX0_octet_25
set_option maxHeartbeats 4000000 in
set_option maxRecDepth 100000 in
theorem c_set (l : Launch) (D : va_G) (cI : ClassId) (x0 x1 x2 x3 : Nat) (V S M : Nat → Int32) (r : Nat) (hr : r < 16) (v n : Int32) : sm_C l yX0_set wsX0_set ({ frames := 1, cells := 0, slots := 0, locals := 20 } : Room) D vwCl [(cI, .int)] [.ref x0, .int (nI r), .int v, .int n] (sm_wX cI x0 x1 x2 x3 V S M) none (sm_wX cI x0 x1 x2 x3 (upd V r v) (upd S r n) M) := by
  refine sm_start (cc := cX0_set) (maxL := 4) (ret := none) (lv := [(0, .ref x0), (1, .int (nI r)), (2, .int v), (3, .int n)]) (by decide) rfl (Nat.le_of_ble_eq_true rfl) rfl ?_
  intro p e s m below meth c hx hb hrt hts hown hlocks hml hin hK hP hD hS hA ls hl
  have hw := sm_hw hts
  refine lv_iload_n hx hb dX0_set_0 rfl (lv_at hl 1 rfl) ?_
  refine sm_callS (As := [.int (nI r)]) (rest := []) (wr := (sm_wX cI x0 x1 x2 x3 V S M)) (wn := (sm_wX cI x0 x1 x2 x3 V S M)) (st1 := []) ⟨hx, hb, hml, hown, hts⟩ (c_checkRegister l D r (by omega)) (va_cwS 1 hts (sm_gS (i1 := 47) (i2 := 48) (i4 := 1) (i5 := 49) rfl rfl rfl rfl) rfl rfl rfl (by decide +kernel) ⟨Nat.le_of_ble_eq_true rfl, Nat.le_of_ble_eq_true rfl⟩) hK [] rfl hP hD hS hA [] [0, 1, 2, 3] rfl rfl (by decide) (by decide) (by decide) rfl hl.1 rfl (Nat.le_of_ble_eq_true rfl) dX0_set_1 ⟨Nat.le_of_ble_eq_true rfl, Nat.le_of_ble_eq_true rfl⟩ rfl rfl (fun H locs hP hD hS => ?_)
  refine lv_aload_n hx hb dX0_set_4 rfl (lv_at hl 0 rfl) ?_
  refine va_get (D := D) (ci := 0) (v := .ref x1) (C := RX0) (T := TX0) (N := 3) hx hb hts inX0 hown hK hP 0 rfl rfl 0 (by decide) (hw 18 rfl) (fun _ h9 => h9) rfl dX0_set_5 ?_
  refine lv_iload_n hx hb dX0_set_8 rfl (lv_at hl 1 rfl) ?_
  refine lv_iload_n hx hb dX0_set_9 rfl (lv_at hl 2 rfl) ?_
  refine sm_iast (f' := upd V r v) (ws' := (sm_wX cI x0 x1 x2 x3 (upd V r v) S M)) hx hb hK hP hD hS 1 0 rfl rfl (vp_in_nI (n := r) (by omega) (by decide)) dX0_set_10 (by rw [nI_clamp (by omega)]) rfl (fun H locs hP hD hS => ?_)
  refine lv_aload_n hx hb dX0_set_11 rfl (lv_at hl 0 rfl) ?_
  refine va_get (D := D) (ci := 0) (v := .ref x2) (C := RX0) (T := TX0) (N := 3) hx hb hts inX0 hown hK hP 0 rfl rfl 1 (by decide) (hw 19 rfl) (fun _ h9 => h9) rfl dX0_set_12 ?_
  refine lv_iload_n hx hb dX0_set_15 rfl (lv_at hl 1 rfl) ?_
  refine lv_iload_n hx hb dX0_set_16 rfl (lv_at hl 3 rfl) ?_
  refine sm_iast (f' := upd S r n) (ws' := (sm_wX cI x0 x1 x2 x3 (upd V r v) (upd S r n) M)) hx hb hK hP hD hS 2 0 rfl rfl (vp_in_nI (n := r) (by omega) (by decide)) dX0_set_17 (by rw [nI_clamp (by omega)]) rfl (fun H locs hP hD hS => ?_)
  exact sm_vret hx hb hrt hlocks hS hP hD dX0_set_18
set_option maxHeartbeats 4000000 in
set_option maxRecDepth 100000 in
theorem c_chosen (l : Launch) (D : va_G) (cI : ClassId) (x0 x1 x2 x3 : Nat) (V S M : Nat → Int32) (r : Nat) (hr : r < 16) : sm_C l yX0_chosen wsX0_chosen ({ frames := 0, cells := 0, slots := 0, locals := 0 } : Room) D vwCl [(cI, .int)] [.ref x0, .int (nI r)] (sm_wX cI x0 x1 x2 x3 V S M) (some (.int (sm_bI (bt (V r) 0)))) (sm_wX cI x0 x1 x2 x3 V S M) := by
  refine sm_start (cc := cX0_chosen) (maxL := 2) (ret := some .boolean) (lv := [(0, .ref x0), (1, .int (nI r))]) (by decide) rfl (Nat.le_of_ble_eq_true rfl) rfl ?_
  intro p e s m below meth c hx hb hrt hts hown hlocks hml hin hK hP hD hS hA ls hl
  have hw := sm_hw hts
  refine lv_aload_n hx hb dX0_chosen_0 rfl (lv_at hl 0 rfl) ?_
  refine va_get (D := D) (ci := 0) (v := .ref x1) (C := RX0) (T := TX0) (N := 3) hx hb hts inX0 hown hK hP 0 rfl rfl 0 (by decide) (hw 18 rfl) (fun _ h9 => h9) rfl dX0_chosen_1 ?_
  refine lv_iload_n hx hb dX0_chosen_4 rfl (lv_at hl 1 rfl) ?_
  refine va_iald hx hb hK hP 1 0 rfl rfl (vp_in_nI (n := r) (by omega) (by decide)) dX0_chosen_5 ?_
  refine sm_eqi (y := V r) (sm_cl V (n := r) (by omega)) ?_
  refine lv_iconst (v := 1) hx hb dX0_chosen_6 (by decide) ?_
  refine lv_iand hx hb dX0_chosen_7 ?_
  refine sm_eqi (y := sm_bI (bt (V r) 0)) (sm_and1 (V r)) ?_
  refine sm_ifb_eq (tgt := 15) hx hb dX0_chosen_8 rfl (fun h8 => ?_) (fun h8 => ?_)
  · refine lv_iconst (v := 0) hx hb dX0_chosen_15 (by decide) ?_
    refine sm_eqi (y := sm_bI (bt (V r) 0)) (by simp [sm_bI, h8]) ?_
    exact sm_zret hx hb hrt hlocks hS hP hD dX0_chosen_16
  · refine lv_iconst (v := 1) hx hb dX0_chosen_11 (by decide) ?_
    refine lv_goto (tgt := 16) hx hb dX0_chosen_12 rfl ?_
    refine sm_eqi (y := sm_bI (bt (V r) 0)) (by simp [sm_bI, h8]) ?_
    exact sm_zret hx hb hrt hlocks hS hP hD dX0_chosen_16
set_option maxHeartbeats 4000000 in
set_option maxRecDepth 100000 in
theorem c_choiceShadow (l : Launch) (D : va_G) (cI : ClassId) (x0 x1 x2 x3 : Nat) (V S M : Nat → Int32) (d a b : Nat) (hd : d < 16) (ha : a < 16) (hb' : b < 16) : sm_C l yX0_choiceShadow wsX0_choiceShadow ({ frames := 1, cells := 0, slots := 0, locals := 21 } : Room) D vwCl [(cI, .int)] [.ref x0, .int (nI d), .int (nI a), .int (nI b)] (sm_wX cI x0 x1 x2 x3 V S M) (some (.int (if bt (S b) 0 then S a ||| S d ||| (V a ^^^ V d) else if bt (V b) 0 then S a else S d))) (sm_wX cI x0 x1 x2 x3 V S M) := by
  refine sm_start (cc := cX0_choiceShadow) (maxL := 4) (ret := some .int) (lv := [(0, .ref x0), (1, .int (nI d)), (2, .int (nI a)), (3, .int (nI b))]) (by decide) rfl (Nat.le_of_ble_eq_true rfl) rfl ?_
  intro p e s m below meth c hx hb hrt hts hown hlocks hml hin hK hP hD hS hA ls hl
  have hw := sm_hw hts
  refine lv_aload_n hx hb dX0_choiceShadow_0 rfl (lv_at hl 0 rfl) ?_
  refine va_get (D := D) (ci := 0) (v := .ref x2) (C := RX0) (T := TX0) (N := 3) hx hb hts inX0 hown hK hP 0 rfl rfl 1 (by decide) (hw 19 rfl) (fun _ h9 => h9) rfl dX0_choiceShadow_1 ?_
  refine lv_iload_n hx hb dX0_choiceShadow_4 rfl (lv_at hl 3 rfl) ?_
  refine va_iald hx hb hK hP 2 0 rfl rfl (vp_in_nI (n := b) (by omega) (by decide)) dX0_choiceShadow_5 ?_
  refine sm_eqi (y := S b) (sm_cl S (n := b) (by omega)) ?_
  refine lv_iconst (v := 1) hx hb dX0_choiceShadow_6 (by decide) ?_
  refine lv_iand hx hb dX0_choiceShadow_7 ?_
  refine sm_eqi (y := sm_bI (bt (S b) 0)) (sm_and1 (S b)) ?_
  refine sm_ifb_eq (tgt := 39) hx hb dX0_choiceShadow_8 rfl (fun h8 => ?_) (fun h8 => ?_)
  · refine lv_aload_n hx hb dX0_choiceShadow_39 rfl (lv_at hl 0 rfl) ?_
    refine lv_iload_n hx hb dX0_choiceShadow_40 rfl (lv_at hl 3 rfl) ?_
    refine sm_callV (C := RX0) (As := [.int (nI b)]) (rest := []) (wr := []) (wn := (sm_wX cI x0 x1 x2 x3 V S M)) (st1 := [.int (sm_bI (bt (V b) 0))]) ⟨hx, hb, hml, hown, hts⟩ (c_chosen l D cI x0 x1 x2 x3 V S M b (by omega)) (cwV 1 hts (sm_gV (i1 := 136) (i2 := 137) (i3 := 345) (i4 := 1) (i5 := 138) rfl rfl rfl rfl rfl) rfl rfl rfl (by decide +kernel) ⟨Nat.le_of_ble_eq_true rfl, Nat.le_of_ble_eq_true rfl⟩) hK [0] rfl hP hD hS hA 0 rfl rfl [0, 1, 2, 3] [] rfl rfl (by decide) (by decide) (by decide) rfl hl.1 rfl (Nat.le_of_ble_eq_true rfl) dX0_choiceShadow_41 ⟨Nat.le_of_ble_eq_true rfl, Nat.le_of_ble_eq_true rfl⟩ rfl rfl (fun H locs hP hD hS => ?_)
    refine sm_ifb_eq (tgt := 56) hx hb dX0_choiceShadow_44 rfl (fun h44 => ?_) (fun h44 => ?_)
    · refine lv_aload_n hx hb dX0_choiceShadow_56 rfl (lv_at hl 0 rfl) ?_
      refine va_get (D := D) (ci := 0) (v := .ref x2) (C := RX0) (T := TX0) (N := 3) hx hb hts inX0 hown hK hP 0 rfl rfl 1 (by decide) (hw 19 rfl) (fun _ h9 => h9) rfl dX0_choiceShadow_57 ?_
      refine lv_iload_n hx hb dX0_choiceShadow_60 rfl (lv_at hl 1 rfl) ?_
      refine va_iald hx hb hK hP 2 0 rfl rfl (vp_in_nI (n := d) (by omega) (by decide)) dX0_choiceShadow_61 ?_
      refine sm_eqi (y := S d) (sm_cl S (n := d) (by omega)) ?_
      refine sm_eqi (y := if bt (S b) 0 then S a ||| S d ||| (V a ^^^ V d) else if bt (V b) 0 then S a else S d) (by simp [sm_bI, h8, h44]) ?_
      exact sm_iret hx hb hrt hlocks hS hP hD dX0_choiceShadow_62
    · refine lv_aload_n hx hb dX0_choiceShadow_47 rfl (lv_at hl 0 rfl) ?_
      refine va_get (D := D) (ci := 0) (v := .ref x2) (C := RX0) (T := TX0) (N := 3) hx hb hts inX0 hown hK hP 0 rfl rfl 1 (by decide) (hw 19 rfl) (fun _ h9 => h9) rfl dX0_choiceShadow_48 ?_
      refine lv_iload_n hx hb dX0_choiceShadow_51 rfl (lv_at hl 2 rfl) ?_
      refine va_iald hx hb hK hP 2 0 rfl rfl (vp_in_nI (n := a) (by omega) (by decide)) dX0_choiceShadow_52 ?_
      refine sm_eqi (y := S a) (sm_cl S (n := a) (by omega)) ?_
      refine lv_goto (tgt := 62) hx hb dX0_choiceShadow_53 rfl ?_
      refine sm_eqi (y := if bt (S b) 0 then S a ||| S d ||| (V a ^^^ V d) else if bt (V b) 0 then S a else S d) (by simp [sm_bI, h8, h44]) ?_
      exact sm_iret hx hb hrt hlocks hS hP hD dX0_choiceShadow_62
  · refine lv_aload_n hx hb dX0_choiceShadow_11 rfl (lv_at hl 0 rfl) ?_
    refine va_get (D := D) (ci := 0) (v := .ref x2) (C := RX0) (T := TX0) (N := 3) hx hb hts inX0 hown hK hP 0 rfl rfl 1 (by decide) (hw 19 rfl) (fun _ h9 => h9) rfl dX0_choiceShadow_12 ?_
    refine lv_iload_n hx hb dX0_choiceShadow_15 rfl (lv_at hl 2 rfl) ?_
    refine va_iald hx hb hK hP 2 0 rfl rfl (vp_in_nI (n := a) (by omega) (by decide)) dX0_choiceShadow_16 ?_
    refine sm_eqi (y := S a) (sm_cl S (n := a) (by omega)) ?_
    refine lv_aload_n hx hb dX0_choiceShadow_17 rfl (lv_at hl 0 rfl) ?_
    refine va_get (D := D) (ci := 0) (v := .ref x2) (C := RX0) (T := TX0) (N := 3) hx hb hts inX0 hown hK hP 0 rfl rfl 1 (by decide) (hw 19 rfl) (fun _ h9 => h9) rfl dX0_choiceShadow_18 ?_
    refine lv_iload_n hx hb dX0_choiceShadow_21 rfl (lv_at hl 1 rfl) ?_
    refine va_iald hx hb hK hP 2 0 rfl rfl (vp_in_nI (n := d) (by omega) (by decide)) dX0_choiceShadow_22 ?_
    refine sm_eqi (y := S d) (sm_cl S (n := d) (by omega)) ?_
    refine lv_ior hx hb dX0_choiceShadow_23 ?_
    refine lv_aload_n hx hb dX0_choiceShadow_24 rfl (lv_at hl 0 rfl) ?_
    refine va_get (D := D) (ci := 0) (v := .ref x1) (C := RX0) (T := TX0) (N := 3) hx hb hts inX0 hown hK hP 0 rfl rfl 0 (by decide) (hw 18 rfl) (fun _ h9 => h9) rfl dX0_choiceShadow_25 ?_
    refine lv_iload_n hx hb dX0_choiceShadow_28 rfl (lv_at hl 2 rfl) ?_
    refine va_iald hx hb hK hP 1 0 rfl rfl (vp_in_nI (n := a) (by omega) (by decide)) dX0_choiceShadow_29 ?_
    refine sm_eqi (y := V a) (sm_cl V (n := a) (by omega)) ?_
    refine lv_aload_n hx hb dX0_choiceShadow_30 rfl (lv_at hl 0 rfl) ?_
    refine va_get (D := D) (ci := 0) (v := .ref x1) (C := RX0) (T := TX0) (N := 3) hx hb hts inX0 hown hK hP 0 rfl rfl 0 (by decide) (hw 18 rfl) (fun _ h9 => h9) rfl dX0_choiceShadow_31 ?_
    refine lv_iload_n hx hb dX0_choiceShadow_34 rfl (lv_at hl 1 rfl) ?_
    refine va_iald hx hb hK hP 1 0 rfl rfl (vp_in_nI (n := d) (by omega) (by decide)) dX0_choiceShadow_35 ?_
    refine sm_eqi (y := V d) (sm_cl V (n := d) (by omega)) ?_
    refine lv_ixor hx hb dX0_choiceShadow_36 ?_
    refine lv_ior hx hb dX0_choiceShadow_37 ?_
    refine sm_eqi (y := if bt (S b) 0 then S a ||| S d ||| (V a ^^^ V d) else if bt (V b) 0 then S a else S d) (by simp [sm_bI, h8]) ?_
    exact sm_iret hx hb hrt hlocks hS hP hD dX0_choiceShadow_38
end
section
set_option maxHeartbeats 4000000 in
set_option maxRecDepth 100000 in
theorem c_placeLostBy (l : Launch) (D : va_G) (x y n : Int32) : sm_C l yX0_placeLostBy wsX0_placeLostBy ({ frames := 1, cells := 0, slots := 0, locals := 21 } : Room) D vwCl [] [.int x, .int y, .int n] [] (some (.int (nI (sm_tz x + sm_tz (y ||| n))))) [] := by
  refine sm_start (cc := cX0_placeLostBy) (maxL := 3) (ret := some .int) (lv := [(0, .int x), (1, .int y), (2, .int n)]) (by decide) rfl (Nat.le_of_ble_eq_true rfl) rfl ?_
  intro p e s m below meth c hx hb hrt hts hown hlocks hml hin hK hP hD hS hA ls hl
  have hw := sm_hw hts
  refine lv_iload_n hx hb dX0_placeLostBy_0 rfl (lv_at hl 0 rfl) ?_
  refine sm_callS (As := [.int x]) (rest := []) (wr := []) (wn := []) (st1 := [.int (nI (sm_tz x))]) ⟨hx, hb, hml, hown, hts⟩ (c_ntz l D x) (va_cwS 1 hts (sm_gS (i1 := 142) (i2 := 143) (i4 := 8) (i5 := 144) rfl rfl rfl rfl) rfl rfl rfl (by decide +kernel) ⟨Nat.le_of_ble_eq_true rfl, Nat.le_of_ble_eq_true rfl⟩) hK [] rfl hP hD hS hA [] [] rfl rfl (by decide) (by decide) (by decide) rfl hl.1 rfl (Nat.le_of_ble_eq_true rfl) dX0_placeLostBy_1 ⟨Nat.le_of_ble_eq_true rfl, Nat.le_of_ble_eq_true rfl⟩ rfl rfl (fun H locs hP hD hS => ?_)
  refine lv_iload_n hx hb dX0_placeLostBy_4 rfl (lv_at hl 1 rfl) ?_
  refine lv_iload_n hx hb dX0_placeLostBy_5 rfl (lv_at hl 2 rfl) ?_
  refine lv_ior hx hb dX0_placeLostBy_6 ?_
  refine sm_callS (As := [.int (y ||| n)]) (rest := [.int (nI (sm_tz x))]) (wr := []) (wn := []) (st1 := [.int (nI (sm_tz (y ||| n))), .int (nI (sm_tz x))]) ⟨hx, hb, hml, hown, hts⟩ (c_ntz l D (y ||| n)) (va_cwS 1 hts (sm_gS (i1 := 142) (i2 := 143) (i4 := 8) (i5 := 144) rfl rfl rfl rfl) rfl rfl rfl (by decide +kernel) ⟨Nat.le_of_ble_eq_true rfl, Nat.le_of_ble_eq_true rfl⟩) hK [] rfl hP hD hS hA [] [] rfl rfl (by decide) (by decide) (by decide) rfl hl.1 rfl (Nat.le_of_ble_eq_true rfl) dX0_placeLostBy_7 ⟨Nat.le_of_ble_eq_true rfl, Nat.le_of_ble_eq_true rfl⟩ rfl rfl (fun H locs hP hD hS => ?_)
  refine lv_iadd hx hb dX0_placeLostBy_10 ?_
  refine sm_eqi (y := nI ((sm_tz x) + (sm_tz (y ||| n)))) (nI_add (sm_tz x) (sm_tz (y ||| n))) ?_
  refine sm_eqi (y := nI (sm_tz x + sm_tz (y ||| n))) (rfl) ?_
  exact sm_iret hx hb hrt hlocks hS hP hD dX0_placeLostBy_11
set_option maxHeartbeats 4000000 in
set_option maxRecDepth 100000 in
theorem c_valueOf_0 (l : Launch) (D : va_G) (cI : ClassId) (x0 x1 x2 x3 : Nat) (V S M : Nat → Int32) (d a b : Nat) (hd : d < 16) (ha : a < 16) (hb' : b < 16) : sm_C l yX0_valueOf wsX0_valueOf ({ frames := 2, cells := 0, slots := 0, locals := 64 } : Room) D vwCl [(cI, .int)] [.ref x0, .int 0, .int (nI d), .int (nI a), .int (nI b)] (sm_wX cI x0 x1 x2 x3 V S M) (some (.int (V a + V b))) (sm_wX cI x0 x1 x2 x3 V S M) := by
  refine sm_start (cc := cX0_valueOf) (maxL := 7) (ret := some .int) (lv := [(0, .ref x0), (1, .int 0), (2, .int (nI d)), (3, .int (nI a)), (4, .int (nI b))]) (by decide) rfl (Nat.le_of_ble_eq_true rfl) rfl ?_
  intro p e s m below meth c hx hb hrt hts hown hlocks hml hin hK hP hD hS hA ls hl
  have hw := sm_hw hts
  refine lv_aload_n hx hb dX0_valueOf_0 rfl (lv_at hl 0 rfl) ?_
  refine va_get (D := D) (ci := 0) (v := .ref x1) (C := RX0) (T := TX0) (N := 3) hx hb hts inX0 hown hK hP 0 rfl rfl 0 (by decide) (hw 18 rfl) (fun _ h9 => h9) rfl dX0_valueOf_1 ?_
  refine lv_iload_n hx hb dX0_valueOf_4 rfl (lv_at hl 3 rfl) ?_
  refine va_iald hx hb hK hP 1 0 rfl rfl (vp_in_nI (n := a) (by omega) (by decide)) dX0_valueOf_5 ?_
  refine sm_eqi (y := V a) (sm_cl V (n := a) (by omega)) ?_
  refine lv_istore (lv' := [(5, .int (V a)), (0, .ref x0), (1, .int 0), (2, .int (nI d)), (3, .int (nI a)), (4, .int (nI b))]) hx hb dX0_valueOf_6 hl (by decide) rfl (fun ls hl => ?_)
  refine lv_aload_n hx hb dX0_valueOf_8 rfl (lv_at hl 1 rfl) ?_
  refine va_get (D := D) (ci := 0) (v := .ref x1) (C := RX0) (T := TX0) (N := 3) hx hb hts inX0 hown hK hP 0 rfl rfl 0 (by decide) (hw 18 rfl) (fun _ h9 => h9) rfl dX0_valueOf_9 ?_
  refine lv_iload hx hb dX0_valueOf_12 (lv_at hl 5 rfl) ?_
  refine va_iald hx hb hK hP 1 0 rfl rfl (vp_in_nI (n := b) (by omega) (by decide)) dX0_valueOf_14 ?_
  refine sm_eqi (y := V b) (sm_cl V (n := b) (by omega)) ?_
  refine lv_istore (lv' := [(6, .int (V b)), (5, .int (V a)), (0, .ref x0), (1, .int 0), (2, .int (nI d)), (3, .int (nI a)), (4, .int (nI b))]) hx hb dX0_valueOf_15 hl (by decide) rfl (fun ls hl => ?_)
  refine lv_iload_n hx hb dX0_valueOf_17 rfl (lv_at hl 3 rfl) ?_
  refine lv_tableIn (off := 62) (tgt := 80) hx hb dX0_valueOf_18 (by decide) (by decide) (by decide) (by decide) ?_
  refine lv_iload hx hb dX0_valueOf_80 (lv_at hl 1 rfl) ?_
  refine lv_iload hx hb dX0_valueOf_82 (lv_at hl 0 rfl) ?_
  refine lv_iadd hx hb dX0_valueOf_84 ?_
  refine sm_eqi (y := V a + V b) (rfl) ?_
  exact sm_iret hx hb hrt hlocks hS hP hD dX0_valueOf_85
set_option maxHeartbeats 4000000 in
set_option maxRecDepth 100000 in
theorem c_valueOf_1 (l : Launch) (D : va_G) (cI : ClassId) (x0 x1 x2 x3 : Nat) (V S M : Nat → Int32) (d a b : Nat) (hd : d < 16) (ha : a < 16) (hb' : b < 16) : sm_C l yX0_valueOf wsX0_valueOf ({ frames := 2, cells := 0, slots := 0, locals := 64 } : Room) D vwCl [(cI, .int)] [.ref x0, .int 1, .int (nI d), .int (nI a), .int (nI b)] (sm_wX cI x0 x1 x2 x3 V S M) (some (.int (V a - V b))) (sm_wX cI x0 x1 x2 x3 V S M) := by
  refine sm_start (cc := cX0_valueOf) (maxL := 7) (ret := some .int) (lv := [(0, .ref x0), (1, .int 1), (2, .int (nI d)), (3, .int (nI a)), (4, .int (nI b))]) (by decide) rfl (Nat.le_of_ble_eq_true rfl) rfl ?_
  intro p e s m below meth c hx hb hrt hts hown hlocks hml hin hK hP hD hS hA ls hl
  have hw := sm_hw hts
  refine lv_aload_n hx hb dX0_valueOf_0 rfl (lv_at hl 0 rfl) ?_
  refine va_get (D := D) (ci := 0) (v := .ref x1) (C := RX0) (T := TX0) (N := 3) hx hb hts inX0 hown hK hP 0 rfl rfl 0 (by decide) (hw 18 rfl) (fun _ h9 => h9) rfl dX0_valueOf_1 ?_
  refine lv_iload_n hx hb dX0_valueOf_4 rfl (lv_at hl 3 rfl) ?_
  refine va_iald hx hb hK hP 1 0 rfl rfl (vp_in_nI (n := a) (by omega) (by decide)) dX0_valueOf_5 ?_
  refine sm_eqi (y := V a) (sm_cl V (n := a) (by omega)) ?_
  refine lv_istore (lv' := [(5, .int (V a)), (0, .ref x0), (1, .int 1), (2, .int (nI d)), (3, .int (nI a)), (4, .int (nI b))]) hx hb dX0_valueOf_6 hl (by decide) rfl (fun ls hl => ?_)
  refine lv_aload_n hx hb dX0_valueOf_8 rfl (lv_at hl 1 rfl) ?_
  refine va_get (D := D) (ci := 0) (v := .ref x1) (C := RX0) (T := TX0) (N := 3) hx hb hts inX0 hown hK hP 0 rfl rfl 0 (by decide) (hw 18 rfl) (fun _ h9 => h9) rfl dX0_valueOf_9 ?_
  refine lv_iload hx hb dX0_valueOf_12 (lv_at hl 5 rfl) ?_
  refine va_iald hx hb hK hP 1 0 rfl rfl (vp_in_nI (n := b) (by omega) (by decide)) dX0_valueOf_14 ?_
  refine sm_eqi (y := V b) (sm_cl V (n := b) (by omega)) ?_
  refine lv_istore (lv' := [(6, .int (V b)), (5, .int (V a)), (0, .ref x0), (1, .int 1), (2, .int (nI d)), (3, .int (nI a)), (4, .int (nI b))]) hx hb dX0_valueOf_15 hl (by decide) rfl (fun ls hl => ?_)
  refine lv_iload_n hx hb dX0_valueOf_17 rfl (lv_at hl 3 rfl) ?_
  refine lv_tableIn (off := 68) (tgt := 86) hx hb dX0_valueOf_18 (by decide) (by decide) (by decide) (by decide) ?_
  refine lv_iload hx hb dX0_valueOf_86 (lv_at hl 1 rfl) ?_
  refine lv_iload hx hb dX0_valueOf_88 (lv_at hl 0 rfl) ?_
  refine lv_isub hx hb dX0_valueOf_90 ?_
  refine sm_eqi (y := V a - V b) (rfl) ?_
  exact sm_iret hx hb hrt hlocks hS hP hD dX0_valueOf_91
set_option maxHeartbeats 4000000 in
set_option maxRecDepth 100000 in
theorem c_valueOf_2 (l : Launch) (D : va_G) (cI : ClassId) (x0 x1 x2 x3 : Nat) (V S M : Nat → Int32) (d a b : Nat) (hd : d < 16) (ha : a < 16) (hb' : b < 16) : sm_C l yX0_valueOf wsX0_valueOf ({ frames := 2, cells := 0, slots := 0, locals := 64 } : Room) D vwCl [(cI, .int)] [.ref x0, .int 2, .int (nI d), .int (nI a), .int (nI b)] (sm_wX cI x0 x1 x2 x3 V S M) (some (.int (V a &&& V b))) (sm_wX cI x0 x1 x2 x3 V S M) := by
  refine sm_start (cc := cX0_valueOf) (maxL := 7) (ret := some .int) (lv := [(0, .ref x0), (1, .int 2), (2, .int (nI d)), (3, .int (nI a)), (4, .int (nI b))]) (by decide) rfl (Nat.le_of_ble_eq_true rfl) rfl ?_
  intro p e s m below meth c hx hb hrt hts hown hlocks hml hin hK hP hD hS hA ls hl
  have hw := sm_hw hts
  refine lv_aload_n hx hb dX0_valueOf_0 rfl (lv_at hl 0 rfl) ?_
  refine va_get (D := D) (ci := 0) (v := .ref x1) (C := RX0) (T := TX0) (N := 3) hx hb hts inX0 hown hK hP 0 rfl rfl 0 (by decide) (hw 18 rfl) (fun _ h9 => h9) rfl dX0_valueOf_1 ?_
  refine lv_iload_n hx hb dX0_valueOf_4 rfl (lv_at hl 3 rfl) ?_
  refine va_iald hx hb hK hP 1 0 rfl rfl (vp_in_nI (n := a) (by omega) (by decide)) dX0_valueOf_5 ?_
  refine sm_eqi (y := V a) (sm_cl V (n := a) (by omega)) ?_
  refine lv_istore (lv' := [(5, .int (V a)), (0, .ref x0), (1, .int 2), (2, .int (nI d)), (3, .int (nI a)), (4, .int (nI b))]) hx hb dX0_valueOf_6 hl (by decide) rfl (fun ls hl => ?_)
  refine lv_aload_n hx hb dX0_valueOf_8 rfl (lv_at hl 1 rfl) ?_
  refine va_get (D := D) (ci := 0) (v := .ref x1) (C := RX0) (T := TX0) (N := 3) hx hb hts inX0 hown hK hP 0 rfl rfl 0 (by decide) (hw 18 rfl) (fun _ h9 => h9) rfl dX0_valueOf_9 ?_
  refine lv_iload hx hb dX0_valueOf_12 (lv_at hl 5 rfl) ?_
  refine va_iald hx hb hK hP 1 0 rfl rfl (vp_in_nI (n := b) (by omega) (by decide)) dX0_valueOf_14 ?_
  refine sm_eqi (y := V b) (sm_cl V (n := b) (by omega)) ?_
  refine lv_istore (lv' := [(6, .int (V b)), (5, .int (V a)), (0, .ref x0), (1, .int 2), (2, .int (nI d)), (3, .int (nI a)), (4, .int (nI b))]) hx hb dX0_valueOf_15 hl (by decide) rfl (fun ls hl => ?_)
  refine lv_iload_n hx hb dX0_valueOf_17 rfl (lv_at hl 3 rfl) ?_
  refine lv_tableIn (off := 74) (tgt := 92) hx hb dX0_valueOf_18 (by decide) (by decide) (by decide) (by decide) ?_
  refine lv_iload hx hb dX0_valueOf_92 (lv_at hl 1 rfl) ?_
  refine lv_iload hx hb dX0_valueOf_94 (lv_at hl 0 rfl) ?_
  refine lv_iand hx hb dX0_valueOf_96 ?_
  refine sm_eqi (y := V a &&& V b) (rfl) ?_
  exact sm_iret hx hb hrt hlocks hS hP hD dX0_valueOf_97
set_option maxHeartbeats 4000000 in
set_option maxRecDepth 100000 in
theorem c_valueOf_3 (l : Launch) (D : va_G) (cI : ClassId) (x0 x1 x2 x3 : Nat) (V S M : Nat → Int32) (d a b : Nat) (hd : d < 16) (ha : a < 16) (hb' : b < 16) : sm_C l yX0_valueOf wsX0_valueOf ({ frames := 2, cells := 0, slots := 0, locals := 64 } : Room) D vwCl [(cI, .int)] [.ref x0, .int 3, .int (nI d), .int (nI a), .int (nI b)] (sm_wX cI x0 x1 x2 x3 V S M) (some (.int (V a ||| V b))) (sm_wX cI x0 x1 x2 x3 V S M) := by
  refine sm_start (cc := cX0_valueOf) (maxL := 7) (ret := some .int) (lv := [(0, .ref x0), (1, .int 3), (2, .int (nI d)), (3, .int (nI a)), (4, .int (nI b))]) (by decide) rfl (Nat.le_of_ble_eq_true rfl) rfl ?_
  intro p e s m below meth c hx hb hrt hts hown hlocks hml hin hK hP hD hS hA ls hl
  have hw := sm_hw hts
  refine lv_aload_n hx hb dX0_valueOf_0 rfl (lv_at hl 0 rfl) ?_
  refine va_get (D := D) (ci := 0) (v := .ref x1) (C := RX0) (T := TX0) (N := 3) hx hb hts inX0 hown hK hP 0 rfl rfl 0 (by decide) (hw 18 rfl) (fun _ h9 => h9) rfl dX0_valueOf_1 ?_
  refine lv_iload_n hx hb dX0_valueOf_4 rfl (lv_at hl 3 rfl) ?_
  refine va_iald hx hb hK hP 1 0 rfl rfl (vp_in_nI (n := a) (by omega) (by decide)) dX0_valueOf_5 ?_
  refine sm_eqi (y := V a) (sm_cl V (n := a) (by omega)) ?_
  refine lv_istore (lv' := [(5, .int (V a)), (0, .ref x0), (1, .int 3), (2, .int (nI d)), (3, .int (nI a)), (4, .int (nI b))]) hx hb dX0_valueOf_6 hl (by decide) rfl (fun ls hl => ?_)
  refine lv_aload_n hx hb dX0_valueOf_8 rfl (lv_at hl 1 rfl) ?_
  refine va_get (D := D) (ci := 0) (v := .ref x1) (C := RX0) (T := TX0) (N := 3) hx hb hts inX0 hown hK hP 0 rfl rfl 0 (by decide) (hw 18 rfl) (fun _ h9 => h9) rfl dX0_valueOf_9 ?_
  refine lv_iload hx hb dX0_valueOf_12 (lv_at hl 5 rfl) ?_
  refine va_iald hx hb hK hP 1 0 rfl rfl (vp_in_nI (n := b) (by omega) (by decide)) dX0_valueOf_14 ?_
  refine sm_eqi (y := V b) (sm_cl V (n := b) (by omega)) ?_
  refine lv_istore (lv' := [(6, .int (V b)), (5, .int (V a)), (0, .ref x0), (1, .int 3), (2, .int (nI d)), (3, .int (nI a)), (4, .int (nI b))]) hx hb dX0_valueOf_15 hl (by decide) rfl (fun ls hl => ?_)
  refine lv_iload_n hx hb dX0_valueOf_17 rfl (lv_at hl 3 rfl) ?_
  refine lv_tableIn (off := 80) (tgt := 98) hx hb dX0_valueOf_18 (by decide) (by decide) (by decide) (by decide) ?_
  refine lv_iload hx hb dX0_valueOf_98 (lv_at hl 1 rfl) ?_
  refine lv_iload hx hb dX0_valueOf_100 (lv_at hl 0 rfl) ?_
  refine lv_ior hx hb dX0_valueOf_102 ?_
  refine sm_eqi (y := V a ||| V b) (rfl) ?_
  exact sm_iret hx hb hrt hlocks hS hP hD dX0_valueOf_103
set_option maxHeartbeats 4000000 in
set_option maxRecDepth 100000 in
theorem c_valueOf_4 (l : Launch) (D : va_G) (cI : ClassId) (x0 x1 x2 x3 : Nat) (V S M : Nat → Int32) (d a b : Nat) (hd : d < 16) (ha : a < 16) (hb' : b < 16) : sm_C l yX0_valueOf wsX0_valueOf ({ frames := 2, cells := 0, slots := 0, locals := 64 } : Room) D vwCl [(cI, .int)] [.ref x0, .int 4, .int (nI d), .int (nI a), .int (nI b)] (sm_wX cI x0 x1 x2 x3 V S M) (some (.int (V a ^^^ V b))) (sm_wX cI x0 x1 x2 x3 V S M) := by
  refine sm_start (cc := cX0_valueOf) (maxL := 7) (ret := some .int) (lv := [(0, .ref x0), (1, .int 4), (2, .int (nI d)), (3, .int (nI a)), (4, .int (nI b))]) (by decide) rfl (Nat.le_of_ble_eq_true rfl) rfl ?_
  intro p e s m below meth c hx hb hrt hts hown hlocks hml hin hK hP hD hS hA ls hl
  have hw := sm_hw hts
  refine lv_aload_n hx hb dX0_valueOf_0 rfl (lv_at hl 0 rfl) ?_
  refine va_get (D := D) (ci := 0) (v := .ref x1) (C := RX0) (T := TX0) (N := 3) hx hb hts inX0 hown hK hP 0 rfl rfl 0 (by decide) (hw 18 rfl) (fun _ h9 => h9) rfl dX0_valueOf_1 ?_
  refine lv_iload_n hx hb dX0_valueOf_4 rfl (lv_at hl 3 rfl) ?_
  refine va_iald hx hb hK hP 1 0 rfl rfl (vp_in_nI (n := a) (by omega) (by decide)) dX0_valueOf_5 ?_
  refine sm_eqi (y := V a) (sm_cl V (n := a) (by omega)) ?_
  refine lv_istore (lv' := [(5, .int (V a)), (0, .ref x0), (1, .int 4), (2, .int (nI d)), (3, .int (nI a)), (4, .int (nI b))]) hx hb dX0_valueOf_6 hl (by decide) rfl (fun ls hl => ?_)
  refine lv_aload_n hx hb dX0_valueOf_8 rfl (lv_at hl 1 rfl) ?_
  refine va_get (D := D) (ci := 0) (v := .ref x1) (C := RX0) (T := TX0) (N := 3) hx hb hts inX0 hown hK hP 0 rfl rfl 0 (by decide) (hw 18 rfl) (fun _ h9 => h9) rfl dX0_valueOf_9 ?_
  refine lv_iload hx hb dX0_valueOf_12 (lv_at hl 5 rfl) ?_
  refine va_iald hx hb hK hP 1 0 rfl rfl (vp_in_nI (n := b) (by omega) (by decide)) dX0_valueOf_14 ?_
  refine sm_eqi (y := V b) (sm_cl V (n := b) (by omega)) ?_
  refine lv_istore (lv' := [(6, .int (V b)), (5, .int (V a)), (0, .ref x0), (1, .int 4), (2, .int (nI d)), (3, .int (nI a)), (4, .int (nI b))]) hx hb dX0_valueOf_15 hl (by decide) rfl (fun ls hl => ?_)
  refine lv_iload_n hx hb dX0_valueOf_17 rfl (lv_at hl 3 rfl) ?_
  refine lv_tableIn (off := 86) (tgt := 104) hx hb dX0_valueOf_18 (by decide) (by decide) (by decide) (by decide) ?_
  refine lv_iload hx hb dX0_valueOf_104 (lv_at hl 1 rfl) ?_
  refine lv_iload hx hb dX0_valueOf_106 (lv_at hl 0 rfl) ?_
  refine lv_ixor hx hb dX0_valueOf_108 ?_
  refine sm_eqi (y := V a ^^^ V b) (rfl) ?_
  exact sm_iret hx hb hrt hlocks hS hP hD dX0_valueOf_109
set_option maxHeartbeats 4000000 in
set_option maxRecDepth 100000 in
theorem c_valueOf_5 (l : Launch) (D : va_G) (cI : ClassId) (x0 x1 x2 x3 : Nat) (V S M : Nat → Int32) (d a b : Nat) (hd : d < 16) (ha : a < 16) (hb' : b < 16) : sm_C l yX0_valueOf wsX0_valueOf ({ frames := 2, cells := 0, slots := 0, locals := 64 } : Room) D vwCl [(cI, .int)] [.ref x0, .int 5, .int (nI d), .int (nI a), .int (nI b)] (sm_wX cI x0 x1 x2 x3 V S M) (some (.int (V a <<< ((V b &&& 31) &&& 31)))) (sm_wX cI x0 x1 x2 x3 V S M) := by
  refine sm_start (cc := cX0_valueOf) (maxL := 7) (ret := some .int) (lv := [(0, .ref x0), (1, .int 5), (2, .int (nI d)), (3, .int (nI a)), (4, .int (nI b))]) (by decide) rfl (Nat.le_of_ble_eq_true rfl) rfl ?_
  intro p e s m below meth c hx hb hrt hts hown hlocks hml hin hK hP hD hS hA ls hl
  have hw := sm_hw hts
  refine lv_aload_n hx hb dX0_valueOf_0 rfl (lv_at hl 0 rfl) ?_
  refine va_get (D := D) (ci := 0) (v := .ref x1) (C := RX0) (T := TX0) (N := 3) hx hb hts inX0 hown hK hP 0 rfl rfl 0 (by decide) (hw 18 rfl) (fun _ h9 => h9) rfl dX0_valueOf_1 ?_
  refine lv_iload_n hx hb dX0_valueOf_4 rfl (lv_at hl 3 rfl) ?_
  refine va_iald hx hb hK hP 1 0 rfl rfl (vp_in_nI (n := a) (by omega) (by decide)) dX0_valueOf_5 ?_
  refine sm_eqi (y := V a) (sm_cl V (n := a) (by omega)) ?_
  refine lv_istore (lv' := [(5, .int (V a)), (0, .ref x0), (1, .int 5), (2, .int (nI d)), (3, .int (nI a)), (4, .int (nI b))]) hx hb dX0_valueOf_6 hl (by decide) rfl (fun ls hl => ?_)
  refine lv_aload_n hx hb dX0_valueOf_8 rfl (lv_at hl 1 rfl) ?_
  refine va_get (D := D) (ci := 0) (v := .ref x1) (C := RX0) (T := TX0) (N := 3) hx hb hts inX0 hown hK hP 0 rfl rfl 0 (by decide) (hw 18 rfl) (fun _ h9 => h9) rfl dX0_valueOf_9 ?_
  refine lv_iload hx hb dX0_valueOf_12 (lv_at hl 5 rfl) ?_
  refine va_iald hx hb hK hP 1 0 rfl rfl (vp_in_nI (n := b) (by omega) (by decide)) dX0_valueOf_14 ?_
  refine sm_eqi (y := V b) (sm_cl V (n := b) (by omega)) ?_
  refine lv_istore (lv' := [(6, .int (V b)), (5, .int (V a)), (0, .ref x0), (1, .int 5), (2, .int (nI d)), (3, .int (nI a)), (4, .int (nI b))]) hx hb dX0_valueOf_15 hl (by decide) rfl (fun ls hl => ?_)
  refine lv_iload_n hx hb dX0_valueOf_17 rfl (lv_at hl 3 rfl) ?_
  refine lv_tableIn (off := 92) (tgt := 110) hx hb dX0_valueOf_18 (by decide) (by decide) (by decide) (by decide) ?_
  refine lv_iload_n hx hb dX0_valueOf_110 rfl (lv_at hl 3 rfl) ?_
  refine lv_iload hx hb dX0_valueOf_111 (lv_at hl 1 rfl) ?_
  refine lv_iload hx hb dX0_valueOf_113 (lv_at hl 0 rfl) ?_
  refine lv_bipush (v := 31) hx hb dX0_valueOf_115 (by decide) ?_
  refine lv_iand hx hb dX0_valueOf_117 ?_
  refine sm_callS (As := [.int 5, .int (V a), .int ((V b) &&& 31)]) (rest := []) (wr := (sm_wX cI x0 x1 x2 x3 V S M)) (wn := (sm_wX cI x0 x1 x2 x3 V S M)) (st1 := [.int ((V a) <<< (((V b) &&& 31) &&& 31))]) ⟨hx, hb, hml, hown, hts⟩ (c_shifted_5 l D (V a) ((V b) &&& 31)) (va_cwS 3 hts (sm_gS (i1 := 126) (i2 := 127) (i4 := 1) (i5 := 128) rfl rfl rfl rfl) rfl rfl rfl (by decide +kernel) ⟨Nat.le_of_ble_eq_true rfl, Nat.le_of_ble_eq_true rfl⟩) hK [] rfl hP hD hS hA [] [0, 1, 2, 3] rfl rfl (by decide) (by decide) (by decide) rfl hl.1 rfl (Nat.le_of_ble_eq_true rfl) dX0_valueOf_118 ⟨Nat.le_of_ble_eq_true rfl, Nat.le_of_ble_eq_true rfl⟩ rfl rfl (fun H locs hP hD hS => ?_)
  refine sm_eqi (y := V a <<< ((V b &&& 31) &&& 31)) (rfl) ?_
  exact sm_iret hx hb hrt hlocks hS hP hD dX0_valueOf_121
set_option maxHeartbeats 4000000 in
set_option maxRecDepth 100000 in
theorem c_valueOf_6 (l : Launch) (D : va_G) (cI : ClassId) (x0 x1 x2 x3 : Nat) (V S M : Nat → Int32) (d a b : Nat) (hd : d < 16) (ha : a < 16) (hb' : b < 16) : sm_C l yX0_valueOf wsX0_valueOf ({ frames := 2, cells := 0, slots := 0, locals := 64 } : Room) D vwCl [(cI, .int)] [.ref x0, .int 6, .int (nI d), .int (nI a), .int (nI b)] (sm_wX cI x0 x1 x2 x3 V S M) (some (.int (sm_ushr (V a) (V b &&& 31)))) (sm_wX cI x0 x1 x2 x3 V S M) := by
  refine sm_start (cc := cX0_valueOf) (maxL := 7) (ret := some .int) (lv := [(0, .ref x0), (1, .int 6), (2, .int (nI d)), (3, .int (nI a)), (4, .int (nI b))]) (by decide) rfl (Nat.le_of_ble_eq_true rfl) rfl ?_
  intro p e s m below meth c hx hb hrt hts hown hlocks hml hin hK hP hD hS hA ls hl
  have hw := sm_hw hts
  refine lv_aload_n hx hb dX0_valueOf_0 rfl (lv_at hl 0 rfl) ?_
  refine va_get (D := D) (ci := 0) (v := .ref x1) (C := RX0) (T := TX0) (N := 3) hx hb hts inX0 hown hK hP 0 rfl rfl 0 (by decide) (hw 18 rfl) (fun _ h9 => h9) rfl dX0_valueOf_1 ?_
  refine lv_iload_n hx hb dX0_valueOf_4 rfl (lv_at hl 3 rfl) ?_
  refine va_iald hx hb hK hP 1 0 rfl rfl (vp_in_nI (n := a) (by omega) (by decide)) dX0_valueOf_5 ?_
  refine sm_eqi (y := V a) (sm_cl V (n := a) (by omega)) ?_
  refine lv_istore (lv' := [(5, .int (V a)), (0, .ref x0), (1, .int 6), (2, .int (nI d)), (3, .int (nI a)), (4, .int (nI b))]) hx hb dX0_valueOf_6 hl (by decide) rfl (fun ls hl => ?_)
  refine lv_aload_n hx hb dX0_valueOf_8 rfl (lv_at hl 1 rfl) ?_
  refine va_get (D := D) (ci := 0) (v := .ref x1) (C := RX0) (T := TX0) (N := 3) hx hb hts inX0 hown hK hP 0 rfl rfl 0 (by decide) (hw 18 rfl) (fun _ h9 => h9) rfl dX0_valueOf_9 ?_
  refine lv_iload hx hb dX0_valueOf_12 (lv_at hl 5 rfl) ?_
  refine va_iald hx hb hK hP 1 0 rfl rfl (vp_in_nI (n := b) (by omega) (by decide)) dX0_valueOf_14 ?_
  refine sm_eqi (y := V b) (sm_cl V (n := b) (by omega)) ?_
  refine lv_istore (lv' := [(6, .int (V b)), (5, .int (V a)), (0, .ref x0), (1, .int 6), (2, .int (nI d)), (3, .int (nI a)), (4, .int (nI b))]) hx hb dX0_valueOf_15 hl (by decide) rfl (fun ls hl => ?_)
  refine lv_iload_n hx hb dX0_valueOf_17 rfl (lv_at hl 3 rfl) ?_
  refine lv_tableIn (off := 92) (tgt := 110) hx hb dX0_valueOf_18 (by decide) (by decide) (by decide) (by decide) ?_
  refine lv_iload_n hx hb dX0_valueOf_110 rfl (lv_at hl 3 rfl) ?_
  refine lv_iload hx hb dX0_valueOf_111 (lv_at hl 1 rfl) ?_
  refine lv_iload hx hb dX0_valueOf_113 (lv_at hl 0 rfl) ?_
  refine lv_bipush (v := 31) hx hb dX0_valueOf_115 (by decide) ?_
  refine lv_iand hx hb dX0_valueOf_117 ?_
  refine sm_callS (As := [.int 6, .int (V a), .int ((V b) &&& 31)]) (rest := []) (wr := (sm_wX cI x0 x1 x2 x3 V S M)) (wn := (sm_wX cI x0 x1 x2 x3 V S M)) (st1 := [.int (sm_ushr (V a) ((V b) &&& 31))]) ⟨hx, hb, hml, hown, hts⟩ (c_shifted_6 l D (V a) ((V b) &&& 31)) (va_cwS 3 hts (sm_gS (i1 := 126) (i2 := 127) (i4 := 1) (i5 := 128) rfl rfl rfl rfl) rfl rfl rfl (by decide +kernel) ⟨Nat.le_of_ble_eq_true rfl, Nat.le_of_ble_eq_true rfl⟩) hK [] rfl hP hD hS hA [] [0, 1, 2, 3] rfl rfl (by decide) (by decide) (by decide) rfl hl.1 rfl (Nat.le_of_ble_eq_true rfl) dX0_valueOf_118 ⟨Nat.le_of_ble_eq_true rfl, Nat.le_of_ble_eq_true rfl⟩ rfl rfl (fun H locs hP hD hS => ?_)
  refine sm_eqi (y := sm_ushr (V a) (V b &&& 31)) (rfl) ?_
  exact sm_iret hx hb hrt hlocks hS hP hD dX0_valueOf_121
set_option maxHeartbeats 4000000 in
set_option maxRecDepth 100000 in
theorem c_valueOf_7 (l : Launch) (D : va_G) (cI : ClassId) (x0 x1 x2 x3 : Nat) (V S M : Nat → Int32) (d a b : Nat) (hd : d < 16) (ha : a < 16) (hb' : b < 16) : sm_C l yX0_valueOf wsX0_valueOf ({ frames := 2, cells := 0, slots := 0, locals := 64 } : Room) D vwCl [(cI, .int)] [.ref x0, .int 7, .int (nI d), .int (nI a), .int (nI b)] (sm_wX cI x0 x1 x2 x3 V S M) (some (.int (V a >>> ((V b &&& 31) &&& 31)))) (sm_wX cI x0 x1 x2 x3 V S M) := by
  refine sm_start (cc := cX0_valueOf) (maxL := 7) (ret := some .int) (lv := [(0, .ref x0), (1, .int 7), (2, .int (nI d)), (3, .int (nI a)), (4, .int (nI b))]) (by decide) rfl (Nat.le_of_ble_eq_true rfl) rfl ?_
  intro p e s m below meth c hx hb hrt hts hown hlocks hml hin hK hP hD hS hA ls hl
  have hw := sm_hw hts
  refine lv_aload_n hx hb dX0_valueOf_0 rfl (lv_at hl 0 rfl) ?_
  refine va_get (D := D) (ci := 0) (v := .ref x1) (C := RX0) (T := TX0) (N := 3) hx hb hts inX0 hown hK hP 0 rfl rfl 0 (by decide) (hw 18 rfl) (fun _ h9 => h9) rfl dX0_valueOf_1 ?_
  refine lv_iload_n hx hb dX0_valueOf_4 rfl (lv_at hl 3 rfl) ?_
  refine va_iald hx hb hK hP 1 0 rfl rfl (vp_in_nI (n := a) (by omega) (by decide)) dX0_valueOf_5 ?_
  refine sm_eqi (y := V a) (sm_cl V (n := a) (by omega)) ?_
  refine lv_istore (lv' := [(5, .int (V a)), (0, .ref x0), (1, .int 7), (2, .int (nI d)), (3, .int (nI a)), (4, .int (nI b))]) hx hb dX0_valueOf_6 hl (by decide) rfl (fun ls hl => ?_)
  refine lv_aload_n hx hb dX0_valueOf_8 rfl (lv_at hl 1 rfl) ?_
  refine va_get (D := D) (ci := 0) (v := .ref x1) (C := RX0) (T := TX0) (N := 3) hx hb hts inX0 hown hK hP 0 rfl rfl 0 (by decide) (hw 18 rfl) (fun _ h9 => h9) rfl dX0_valueOf_9 ?_
  refine lv_iload hx hb dX0_valueOf_12 (lv_at hl 5 rfl) ?_
  refine va_iald hx hb hK hP 1 0 rfl rfl (vp_in_nI (n := b) (by omega) (by decide)) dX0_valueOf_14 ?_
  refine sm_eqi (y := V b) (sm_cl V (n := b) (by omega)) ?_
  refine lv_istore (lv' := [(6, .int (V b)), (5, .int (V a)), (0, .ref x0), (1, .int 7), (2, .int (nI d)), (3, .int (nI a)), (4, .int (nI b))]) hx hb dX0_valueOf_15 hl (by decide) rfl (fun ls hl => ?_)
  refine lv_iload_n hx hb dX0_valueOf_17 rfl (lv_at hl 3 rfl) ?_
  refine lv_tableIn (off := 92) (tgt := 110) hx hb dX0_valueOf_18 (by decide) (by decide) (by decide) (by decide) ?_
  refine lv_iload_n hx hb dX0_valueOf_110 rfl (lv_at hl 3 rfl) ?_
  refine lv_iload hx hb dX0_valueOf_111 (lv_at hl 1 rfl) ?_
  refine lv_iload hx hb dX0_valueOf_113 (lv_at hl 0 rfl) ?_
  refine lv_bipush (v := 31) hx hb dX0_valueOf_115 (by decide) ?_
  refine lv_iand hx hb dX0_valueOf_117 ?_
  refine sm_callS (As := [.int 7, .int (V a), .int ((V b) &&& 31)]) (rest := []) (wr := (sm_wX cI x0 x1 x2 x3 V S M)) (wn := (sm_wX cI x0 x1 x2 x3 V S M)) (st1 := [.int ((V a) >>> (((V b) &&& 31) &&& 31))]) ⟨hx, hb, hml, hown, hts⟩ (c_shifted_7 l D (V a) ((V b) &&& 31)) (va_cwS 3 hts (sm_gS (i1 := 126) (i2 := 127) (i4 := 1) (i5 := 128) rfl rfl rfl rfl) rfl rfl rfl (by decide +kernel) ⟨Nat.le_of_ble_eq_true rfl, Nat.le_of_ble_eq_true rfl⟩) hK [] rfl hP hD hS hA [] [0, 1, 2, 3] rfl rfl (by decide) (by decide) (by decide) rfl hl.1 rfl (Nat.le_of_ble_eq_true rfl) dX0_valueOf_118 ⟨Nat.le_of_ble_eq_true rfl, Nat.le_of_ble_eq_true rfl⟩ rfl rfl (fun H locs hP hD hS => ?_)
  refine sm_eqi (y := V a >>> ((V b &&& 31) &&& 31)) (rfl) ?_
  exact sm_iret hx hb hrt hlocks hS hP hD dX0_valueOf_121
set_option maxHeartbeats 4000000 in
set_option maxRecDepth 100000 in
theorem c_valueOf_8 (l : Launch) (D : va_G) (cI : ClassId) (x0 x1 x2 x3 : Nat) (V S M : Nat → Int32) (d a b : Nat) (hd : d < 16) (ha : a < 16) (hb' : b < 16) : sm_C l yX0_valueOf wsX0_valueOf ({ frames := 2, cells := 0, slots := 0, locals := 64 } : Room) D vwCl [(cI, .int)] [.ref x0, .int 8, .int (nI d), .int (nI a), .int (nI b)] (sm_wX cI x0 x1 x2 x3 V S M) (some (.int (V a * V b))) (sm_wX cI x0 x1 x2 x3 V S M) := by
  refine sm_start (cc := cX0_valueOf) (maxL := 7) (ret := some .int) (lv := [(0, .ref x0), (1, .int 8), (2, .int (nI d)), (3, .int (nI a)), (4, .int (nI b))]) (by decide) rfl (Nat.le_of_ble_eq_true rfl) rfl ?_
  intro p e s m below meth c hx hb hrt hts hown hlocks hml hin hK hP hD hS hA ls hl
  have hw := sm_hw hts
  refine lv_aload_n hx hb dX0_valueOf_0 rfl (lv_at hl 0 rfl) ?_
  refine va_get (D := D) (ci := 0) (v := .ref x1) (C := RX0) (T := TX0) (N := 3) hx hb hts inX0 hown hK hP 0 rfl rfl 0 (by decide) (hw 18 rfl) (fun _ h9 => h9) rfl dX0_valueOf_1 ?_
  refine lv_iload_n hx hb dX0_valueOf_4 rfl (lv_at hl 3 rfl) ?_
  refine va_iald hx hb hK hP 1 0 rfl rfl (vp_in_nI (n := a) (by omega) (by decide)) dX0_valueOf_5 ?_
  refine sm_eqi (y := V a) (sm_cl V (n := a) (by omega)) ?_
  refine lv_istore (lv' := [(5, .int (V a)), (0, .ref x0), (1, .int 8), (2, .int (nI d)), (3, .int (nI a)), (4, .int (nI b))]) hx hb dX0_valueOf_6 hl (by decide) rfl (fun ls hl => ?_)
  refine lv_aload_n hx hb dX0_valueOf_8 rfl (lv_at hl 1 rfl) ?_
  refine va_get (D := D) (ci := 0) (v := .ref x1) (C := RX0) (T := TX0) (N := 3) hx hb hts inX0 hown hK hP 0 rfl rfl 0 (by decide) (hw 18 rfl) (fun _ h9 => h9) rfl dX0_valueOf_9 ?_
  refine lv_iload hx hb dX0_valueOf_12 (lv_at hl 5 rfl) ?_
  refine va_iald hx hb hK hP 1 0 rfl rfl (vp_in_nI (n := b) (by omega) (by decide)) dX0_valueOf_14 ?_
  refine sm_eqi (y := V b) (sm_cl V (n := b) (by omega)) ?_
  refine lv_istore (lv' := [(6, .int (V b)), (5, .int (V a)), (0, .ref x0), (1, .int 8), (2, .int (nI d)), (3, .int (nI a)), (4, .int (nI b))]) hx hb dX0_valueOf_15 hl (by decide) rfl (fun ls hl => ?_)
  refine lv_iload_n hx hb dX0_valueOf_17 rfl (lv_at hl 3 rfl) ?_
  refine lv_tableIn (off := 104) (tgt := 122) hx hb dX0_valueOf_18 (by decide) (by decide) (by decide) (by decide) ?_
  refine lv_iload hx hb dX0_valueOf_122 (lv_at hl 1 rfl) ?_
  refine lv_iload hx hb dX0_valueOf_124 (lv_at hl 0 rfl) ?_
  refine lv_imul hx hb dX0_valueOf_126 ?_
  refine sm_eqi (y := V a * V b) (rfl) ?_
  exact sm_iret hx hb hrt hlocks hS hP hD dX0_valueOf_127
set_option maxHeartbeats 4000000 in
set_option maxRecDepth 100000 in
theorem c_valueOf_9 (l : Launch) (D : va_G) (cI : ClassId) (x0 x1 x2 x3 : Nat) (V S M : Nat → Int32) (d a b : Nat) (hd : d < 16) (ha : a < 16) (hb' : b < 16) : sm_C l yX0_valueOf wsX0_valueOf ({ frames := 2, cells := 0, slots := 0, locals := 64 } : Room) D vwCl [(cI, .int)] [.ref x0, .int 9, .int (nI d), .int (nI a), .int (nI b)] (sm_wX cI x0 x1 x2 x3 V S M) (some (.int (sm_bI (decide (V a < V b))))) (sm_wX cI x0 x1 x2 x3 V S M) := by
  refine sm_start (cc := cX0_valueOf) (maxL := 7) (ret := some .int) (lv := [(0, .ref x0), (1, .int 9), (2, .int (nI d)), (3, .int (nI a)), (4, .int (nI b))]) (by decide) rfl (Nat.le_of_ble_eq_true rfl) rfl ?_
  intro p e s m below meth c hx hb hrt hts hown hlocks hml hin hK hP hD hS hA ls hl
  have hw := sm_hw hts
  refine lv_aload_n hx hb dX0_valueOf_0 rfl (lv_at hl 0 rfl) ?_
  refine va_get (D := D) (ci := 0) (v := .ref x1) (C := RX0) (T := TX0) (N := 3) hx hb hts inX0 hown hK hP 0 rfl rfl 0 (by decide) (hw 18 rfl) (fun _ h9 => h9) rfl dX0_valueOf_1 ?_
  refine lv_iload_n hx hb dX0_valueOf_4 rfl (lv_at hl 3 rfl) ?_
  refine va_iald hx hb hK hP 1 0 rfl rfl (vp_in_nI (n := a) (by omega) (by decide)) dX0_valueOf_5 ?_
  refine sm_eqi (y := V a) (sm_cl V (n := a) (by omega)) ?_
  refine lv_istore (lv' := [(5, .int (V a)), (0, .ref x0), (1, .int 9), (2, .int (nI d)), (3, .int (nI a)), (4, .int (nI b))]) hx hb dX0_valueOf_6 hl (by decide) rfl (fun ls hl => ?_)
  refine lv_aload_n hx hb dX0_valueOf_8 rfl (lv_at hl 1 rfl) ?_
  refine va_get (D := D) (ci := 0) (v := .ref x1) (C := RX0) (T := TX0) (N := 3) hx hb hts inX0 hown hK hP 0 rfl rfl 0 (by decide) (hw 18 rfl) (fun _ h9 => h9) rfl dX0_valueOf_9 ?_
  refine lv_iload hx hb dX0_valueOf_12 (lv_at hl 5 rfl) ?_
  refine va_iald hx hb hK hP 1 0 rfl rfl (vp_in_nI (n := b) (by omega) (by decide)) dX0_valueOf_14 ?_
  refine sm_eqi (y := V b) (sm_cl V (n := b) (by omega)) ?_
  refine lv_istore (lv' := [(6, .int (V b)), (5, .int (V a)), (0, .ref x0), (1, .int 9), (2, .int (nI d)), (3, .int (nI a)), (4, .int (nI b))]) hx hb dX0_valueOf_15 hl (by decide) rfl (fun ls hl => ?_)
  refine lv_iload_n hx hb dX0_valueOf_17 rfl (lv_at hl 3 rfl) ?_
  refine lv_tableIn (off := 110) (tgt := 128) hx hb dX0_valueOf_18 (by decide) (by decide) (by decide) (by decide) ?_
  refine lv_iload hx hb dX0_valueOf_128 (lv_at hl 1 rfl) ?_
  refine lv_iload hx hb dX0_valueOf_130 (lv_at hl 0 rfl) ?_
  refine lv_icmp_ge (tgt := 139) hx hb dX0_valueOf_132 rfl (fun h132 => ?_) (fun h132 => ?_)
  · refine lv_iconst (v := 0) hx hb dX0_valueOf_139 (by decide) ?_
    refine sm_callS (As := [.int (sm_bI false)]) (rest := []) (wr := (sm_wX cI x0 x1 x2 x3 V S M)) (wn := (sm_wX cI x0 x1 x2 x3 V S M)) (st1 := [.int (sm_bI false)]) ⟨hx, hb, hml, hown, hts⟩ (c_bit l D false) (va_cwS 1 hts (sm_gS (i1 := 129) (i2 := 130) (i4 := 1) (i5 := 131) rfl rfl rfl rfl) rfl rfl rfl (by decide +kernel) ⟨Nat.le_of_ble_eq_true rfl, Nat.le_of_ble_eq_true rfl⟩) hK [] rfl hP hD hS hA [] [0, 1, 2, 3] rfl rfl (by decide) (by decide) (by decide) rfl hl.1 rfl (Nat.le_of_ble_eq_true rfl) dX0_valueOf_140 ⟨Nat.le_of_ble_eq_true rfl, Nat.le_of_ble_eq_true rfl⟩ rfl rfl (fun H locs hP hD hS => ?_)
    refine sm_eqi (y := sm_bI (decide (V a < V b))) (by simp [sm_bI, h132]) ?_
    exact sm_iret hx hb hrt hlocks hS hP hD dX0_valueOf_143
  · refine lv_iconst (v := 1) hx hb dX0_valueOf_135 (by decide) ?_
    refine lv_goto (tgt := 140) hx hb dX0_valueOf_136 rfl ?_
    refine sm_callS (As := [.int (sm_bI true)]) (rest := []) (wr := (sm_wX cI x0 x1 x2 x3 V S M)) (wn := (sm_wX cI x0 x1 x2 x3 V S M)) (st1 := [.int (sm_bI true)]) ⟨hx, hb, hml, hown, hts⟩ (c_bit l D true) (va_cwS 1 hts (sm_gS (i1 := 129) (i2 := 130) (i4 := 1) (i5 := 131) rfl rfl rfl rfl) rfl rfl rfl (by decide +kernel) ⟨Nat.le_of_ble_eq_true rfl, Nat.le_of_ble_eq_true rfl⟩) hK [] rfl hP hD hS hA [] [0, 1, 2, 3] rfl rfl (by decide) (by decide) (by decide) rfl hl.1 rfl (Nat.le_of_ble_eq_true rfl) dX0_valueOf_140 ⟨Nat.le_of_ble_eq_true rfl, Nat.le_of_ble_eq_true rfl⟩ rfl rfl (fun H locs hP hD hS => ?_)
    refine sm_eqi (y := sm_bI (decide (V a < V b))) (by simp [sm_bI, h132]) ?_
    exact sm_iret hx hb hrt hlocks hS hP hD dX0_valueOf_143
set_option maxHeartbeats 4000000 in
set_option maxRecDepth 100000 in
theorem c_valueOf_10 (l : Launch) (D : va_G) (cI : ClassId) (x0 x1 x2 x3 : Nat) (V S M : Nat → Int32) (d a b : Nat) (hd : d < 16) (ha : a < 16) (hb' : b < 16) : sm_C l yX0_valueOf wsX0_valueOf ({ frames := 2, cells := 0, slots := 0, locals := 64 } : Room) D vwCl [(cI, .int)] [.ref x0, .int 10, .int (nI d), .int (nI a), .int (nI b)] (sm_wX cI x0 x1 x2 x3 V S M) (some (.int (sm_bI (decide (V a ^^^ (-2147483648) < V b ^^^ (-2147483648)))))) (sm_wX cI x0 x1 x2 x3 V S M) := by
  refine sm_start (cc := cX0_valueOf) (maxL := 7) (ret := some .int) (lv := [(0, .ref x0), (1, .int 10), (2, .int (nI d)), (3, .int (nI a)), (4, .int (nI b))]) (by decide) rfl (Nat.le_of_ble_eq_true rfl) rfl ?_
  intro p e s m below meth c hx hb hrt hts hown hlocks hml hin hK hP hD hS hA ls hl
  have hw := sm_hw hts
  refine lv_aload_n hx hb dX0_valueOf_0 rfl (lv_at hl 0 rfl) ?_
  refine va_get (D := D) (ci := 0) (v := .ref x1) (C := RX0) (T := TX0) (N := 3) hx hb hts inX0 hown hK hP 0 rfl rfl 0 (by decide) (hw 18 rfl) (fun _ h9 => h9) rfl dX0_valueOf_1 ?_
  refine lv_iload_n hx hb dX0_valueOf_4 rfl (lv_at hl 3 rfl) ?_
  refine va_iald hx hb hK hP 1 0 rfl rfl (vp_in_nI (n := a) (by omega) (by decide)) dX0_valueOf_5 ?_
  refine sm_eqi (y := V a) (sm_cl V (n := a) (by omega)) ?_
  refine lv_istore (lv' := [(5, .int (V a)), (0, .ref x0), (1, .int 10), (2, .int (nI d)), (3, .int (nI a)), (4, .int (nI b))]) hx hb dX0_valueOf_6 hl (by decide) rfl (fun ls hl => ?_)
  refine lv_aload_n hx hb dX0_valueOf_8 rfl (lv_at hl 1 rfl) ?_
  refine va_get (D := D) (ci := 0) (v := .ref x1) (C := RX0) (T := TX0) (N := 3) hx hb hts inX0 hown hK hP 0 rfl rfl 0 (by decide) (hw 18 rfl) (fun _ h9 => h9) rfl dX0_valueOf_9 ?_
  refine lv_iload hx hb dX0_valueOf_12 (lv_at hl 5 rfl) ?_
  refine va_iald hx hb hK hP 1 0 rfl rfl (vp_in_nI (n := b) (by omega) (by decide)) dX0_valueOf_14 ?_
  refine sm_eqi (y := V b) (sm_cl V (n := b) (by omega)) ?_
  refine lv_istore (lv' := [(6, .int (V b)), (5, .int (V a)), (0, .ref x0), (1, .int 10), (2, .int (nI d)), (3, .int (nI a)), (4, .int (nI b))]) hx hb dX0_valueOf_15 hl (by decide) rfl (fun ls hl => ?_)
  refine lv_iload_n hx hb dX0_valueOf_17 rfl (lv_at hl 3 rfl) ?_
  refine lv_tableIn (off := 126) (tgt := 144) hx hb dX0_valueOf_18 (by decide) (by decide) (by decide) (by decide) ?_
  refine lv_iload hx hb dX0_valueOf_144 (lv_at hl 1 rfl) ?_
  refine sm_callS (As := [.int (V a)]) (rest := []) (wr := (sm_wX cI x0 x1 x2 x3 V S M)) (wn := (sm_wX cI x0 x1 x2 x3 V S M)) (st1 := [.int ((V a) ^^^ (-2147483648))]) ⟨hx, hb, hml, hown, hts⟩ (c_signTurned l D (V a)) (va_cwS 1 hts (sm_gS (i1 := 132) (i2 := 133) (i4 := 1) (i5 := 134) rfl rfl rfl rfl) rfl rfl rfl (by decide +kernel) ⟨Nat.le_of_ble_eq_true rfl, Nat.le_of_ble_eq_true rfl⟩) hK [] rfl hP hD hS hA [] [0, 1, 2, 3] rfl rfl (by decide) (by decide) (by decide) rfl hl.1 rfl (Nat.le_of_ble_eq_true rfl) dX0_valueOf_146 ⟨Nat.le_of_ble_eq_true rfl, Nat.le_of_ble_eq_true rfl⟩ rfl rfl (fun H locs hP hD hS => ?_)
  refine lv_iload hx hb dX0_valueOf_149 (lv_at hl 0 rfl) ?_
  refine sm_callS (As := [.int (V b)]) (rest := [.int ((V a) ^^^ (-2147483648))]) (wr := (sm_wX cI x0 x1 x2 x3 V S M)) (wn := (sm_wX cI x0 x1 x2 x3 V S M)) (st1 := [.int ((V b) ^^^ (-2147483648)), .int ((V a) ^^^ (-2147483648))]) ⟨hx, hb, hml, hown, hts⟩ (c_signTurned l D (V b)) (va_cwS 1 hts (sm_gS (i1 := 132) (i2 := 133) (i4 := 1) (i5 := 134) rfl rfl rfl rfl) rfl rfl rfl (by decide +kernel) ⟨Nat.le_of_ble_eq_true rfl, Nat.le_of_ble_eq_true rfl⟩) hK [] rfl hP hD hS hA [] [0, 1, 2, 3] rfl rfl (by decide) (by decide) (by decide) rfl hl.1 rfl (Nat.le_of_ble_eq_true rfl) dX0_valueOf_151 ⟨Nat.le_of_ble_eq_true rfl, Nat.le_of_ble_eq_true rfl⟩ rfl rfl (fun H locs hP hD hS => ?_)
  refine lv_icmp_ge (tgt := 161) hx hb dX0_valueOf_154 rfl (fun h154 => ?_) (fun h154 => ?_)
  · refine lv_iconst (v := 0) hx hb dX0_valueOf_161 (by decide) ?_
    refine sm_callS (As := [.int (sm_bI false)]) (rest := []) (wr := (sm_wX cI x0 x1 x2 x3 V S M)) (wn := (sm_wX cI x0 x1 x2 x3 V S M)) (st1 := [.int (sm_bI false)]) ⟨hx, hb, hml, hown, hts⟩ (c_bit l D false) (va_cwS 1 hts (sm_gS (i1 := 129) (i2 := 130) (i4 := 1) (i5 := 131) rfl rfl rfl rfl) rfl rfl rfl (by decide +kernel) ⟨Nat.le_of_ble_eq_true rfl, Nat.le_of_ble_eq_true rfl⟩) hK [] rfl hP hD hS hA [] [0, 1, 2, 3] rfl rfl (by decide) (by decide) (by decide) rfl hl.1 rfl (Nat.le_of_ble_eq_true rfl) dX0_valueOf_162 ⟨Nat.le_of_ble_eq_true rfl, Nat.le_of_ble_eq_true rfl⟩ rfl rfl (fun H locs hP hD hS => ?_)
    refine sm_eqi (y := sm_bI (decide (V a ^^^ (-2147483648) < V b ^^^ (-2147483648)))) (by simp [sm_bI, h154]) ?_
    exact sm_iret hx hb hrt hlocks hS hP hD dX0_valueOf_165
  · refine lv_iconst (v := 1) hx hb dX0_valueOf_157 (by decide) ?_
    refine lv_goto (tgt := 162) hx hb dX0_valueOf_158 rfl ?_
    refine sm_callS (As := [.int (sm_bI true)]) (rest := []) (wr := (sm_wX cI x0 x1 x2 x3 V S M)) (wn := (sm_wX cI x0 x1 x2 x3 V S M)) (st1 := [.int (sm_bI true)]) ⟨hx, hb, hml, hown, hts⟩ (c_bit l D true) (va_cwS 1 hts (sm_gS (i1 := 129) (i2 := 130) (i4 := 1) (i5 := 131) rfl rfl rfl rfl) rfl rfl rfl (by decide +kernel) ⟨Nat.le_of_ble_eq_true rfl, Nat.le_of_ble_eq_true rfl⟩) hK [] rfl hP hD hS hA [] [0, 1, 2, 3] rfl rfl (by decide) (by decide) (by decide) rfl hl.1 rfl (Nat.le_of_ble_eq_true rfl) dX0_valueOf_162 ⟨Nat.le_of_ble_eq_true rfl, Nat.le_of_ble_eq_true rfl⟩ rfl rfl (fun H locs hP hD hS => ?_)
    refine sm_eqi (y := sm_bI (decide (V a ^^^ (-2147483648) < V b ^^^ (-2147483648)))) (by simp [sm_bI, h154]) ?_
    exact sm_iret hx hb hrt hlocks hS hP hD dX0_valueOf_165
set_option maxHeartbeats 4000000 in
set_option maxRecDepth 100000 in
theorem c_valueOf_11 (l : Launch) (D : va_G) (cI : ClassId) (x0 x1 x2 x3 : Nat) (V S M : Nat → Int32) (d a b : Nat) (hd : d < 16) (ha : a < 16) (hb' : b < 16) : sm_C l yX0_valueOf wsX0_valueOf ({ frames := 2, cells := 0, slots := 0, locals := 64 } : Room) D vwCl [(cI, .int)] [.ref x0, .int 11, .int (nI d), .int (nI a), .int (nI b)] (sm_wX cI x0 x1 x2 x3 V S M) (some (.int (sm_bI (decide (V a = V b))))) (sm_wX cI x0 x1 x2 x3 V S M) := by
  refine sm_start (cc := cX0_valueOf) (maxL := 7) (ret := some .int) (lv := [(0, .ref x0), (1, .int 11), (2, .int (nI d)), (3, .int (nI a)), (4, .int (nI b))]) (by decide) rfl (Nat.le_of_ble_eq_true rfl) rfl ?_
  intro p e s m below meth c hx hb hrt hts hown hlocks hml hin hK hP hD hS hA ls hl
  have hw := sm_hw hts
  refine lv_aload_n hx hb dX0_valueOf_0 rfl (lv_at hl 0 rfl) ?_
  refine va_get (D := D) (ci := 0) (v := .ref x1) (C := RX0) (T := TX0) (N := 3) hx hb hts inX0 hown hK hP 0 rfl rfl 0 (by decide) (hw 18 rfl) (fun _ h9 => h9) rfl dX0_valueOf_1 ?_
  refine lv_iload_n hx hb dX0_valueOf_4 rfl (lv_at hl 3 rfl) ?_
  refine va_iald hx hb hK hP 1 0 rfl rfl (vp_in_nI (n := a) (by omega) (by decide)) dX0_valueOf_5 ?_
  refine sm_eqi (y := V a) (sm_cl V (n := a) (by omega)) ?_
  refine lv_istore (lv' := [(5, .int (V a)), (0, .ref x0), (1, .int 11), (2, .int (nI d)), (3, .int (nI a)), (4, .int (nI b))]) hx hb dX0_valueOf_6 hl (by decide) rfl (fun ls hl => ?_)
  refine lv_aload_n hx hb dX0_valueOf_8 rfl (lv_at hl 1 rfl) ?_
  refine va_get (D := D) (ci := 0) (v := .ref x1) (C := RX0) (T := TX0) (N := 3) hx hb hts inX0 hown hK hP 0 rfl rfl 0 (by decide) (hw 18 rfl) (fun _ h9 => h9) rfl dX0_valueOf_9 ?_
  refine lv_iload hx hb dX0_valueOf_12 (lv_at hl 5 rfl) ?_
  refine va_iald hx hb hK hP 1 0 rfl rfl (vp_in_nI (n := b) (by omega) (by decide)) dX0_valueOf_14 ?_
  refine sm_eqi (y := V b) (sm_cl V (n := b) (by omega)) ?_
  refine lv_istore (lv' := [(6, .int (V b)), (5, .int (V a)), (0, .ref x0), (1, .int 11), (2, .int (nI d)), (3, .int (nI a)), (4, .int (nI b))]) hx hb dX0_valueOf_15 hl (by decide) rfl (fun ls hl => ?_)
  refine lv_iload_n hx hb dX0_valueOf_17 rfl (lv_at hl 3 rfl) ?_
  refine lv_tableIn (off := 148) (tgt := 166) hx hb dX0_valueOf_18 (by decide) (by decide) (by decide) (by decide) ?_
  refine lv_iload hx hb dX0_valueOf_166 (lv_at hl 1 rfl) ?_
  refine lv_iload hx hb dX0_valueOf_168 (lv_at hl 0 rfl) ?_
  refine lv_icmp_ne (tgt := 177) hx hb dX0_valueOf_170 rfl (fun h170 => ?_) (fun h170 => ?_)
  · refine lv_iconst (v := 0) hx hb dX0_valueOf_177 (by decide) ?_
    refine sm_callS (As := [.int (sm_bI false)]) (rest := []) (wr := (sm_wX cI x0 x1 x2 x3 V S M)) (wn := (sm_wX cI x0 x1 x2 x3 V S M)) (st1 := [.int (sm_bI false)]) ⟨hx, hb, hml, hown, hts⟩ (c_bit l D false) (va_cwS 1 hts (sm_gS (i1 := 129) (i2 := 130) (i4 := 1) (i5 := 131) rfl rfl rfl rfl) rfl rfl rfl (by decide +kernel) ⟨Nat.le_of_ble_eq_true rfl, Nat.le_of_ble_eq_true rfl⟩) hK [] rfl hP hD hS hA [] [0, 1, 2, 3] rfl rfl (by decide) (by decide) (by decide) rfl hl.1 rfl (Nat.le_of_ble_eq_true rfl) dX0_valueOf_178 ⟨Nat.le_of_ble_eq_true rfl, Nat.le_of_ble_eq_true rfl⟩ rfl rfl (fun H locs hP hD hS => ?_)
    refine sm_eqi (y := sm_bI (decide (V a = V b))) (by simp [sm_bI, h170]) ?_
    exact sm_iret hx hb hrt hlocks hS hP hD dX0_valueOf_181
  · refine lv_iconst (v := 1) hx hb dX0_valueOf_173 (by decide) ?_
    refine lv_goto (tgt := 178) hx hb dX0_valueOf_174 rfl ?_
    refine sm_callS (As := [.int (sm_bI true)]) (rest := []) (wr := (sm_wX cI x0 x1 x2 x3 V S M)) (wn := (sm_wX cI x0 x1 x2 x3 V S M)) (st1 := [.int (sm_bI true)]) ⟨hx, hb, hml, hown, hts⟩ (c_bit l D true) (va_cwS 1 hts (sm_gS (i1 := 129) (i2 := 130) (i4 := 1) (i5 := 131) rfl rfl rfl rfl) rfl rfl rfl (by decide +kernel) ⟨Nat.le_of_ble_eq_true rfl, Nat.le_of_ble_eq_true rfl⟩) hK [] rfl hP hD hS hA [] [0, 1, 2, 3] rfl rfl (by decide) (by decide) (by decide) rfl hl.1 rfl (Nat.le_of_ble_eq_true rfl) dX0_valueOf_178 ⟨Nat.le_of_ble_eq_true rfl, Nat.le_of_ble_eq_true rfl⟩ rfl rfl (fun H locs hP hD hS => ?_)
    refine sm_eqi (y := sm_bI (decide (V a = V b))) (by simp [sm_bI, h170]) ?_
    exact sm_iret hx hb hrt hlocks hS hP hD dX0_valueOf_181
set_option maxHeartbeats 4000000 in
set_option maxRecDepth 100000 in
theorem c_valueOf_12 (l : Launch) (D : va_G) (cI : ClassId) (x0 x1 x2 x3 : Nat) (V S M : Nat → Int32) (d a b : Nat) (hd : d < 16) (ha : a < 16) (hb' : b < 16) : sm_C l yX0_valueOf wsX0_valueOf ({ frames := 2, cells := 0, slots := 0, locals := 64 } : Room) D vwCl [(cI, .int)] [.ref x0, .int 12, .int (nI d), .int (nI a), .int (nI b)] (sm_wX cI x0 x1 x2 x3 V S M) (some (.int (if bt (V b) 0 then V a else V d))) (sm_wX cI x0 x1 x2 x3 V S M) := by
  refine sm_start (cc := cX0_valueOf) (maxL := 7) (ret := some .int) (lv := [(0, .ref x0), (1, .int 12), (2, .int (nI d)), (3, .int (nI a)), (4, .int (nI b))]) (by decide) rfl (Nat.le_of_ble_eq_true rfl) rfl ?_
  intro p e s m below meth c hx hb hrt hts hown hlocks hml hin hK hP hD hS hA ls hl
  have hw := sm_hw hts
  refine lv_aload_n hx hb dX0_valueOf_0 rfl (lv_at hl 0 rfl) ?_
  refine va_get (D := D) (ci := 0) (v := .ref x1) (C := RX0) (T := TX0) (N := 3) hx hb hts inX0 hown hK hP 0 rfl rfl 0 (by decide) (hw 18 rfl) (fun _ h9 => h9) rfl dX0_valueOf_1 ?_
  refine lv_iload_n hx hb dX0_valueOf_4 rfl (lv_at hl 3 rfl) ?_
  refine va_iald hx hb hK hP 1 0 rfl rfl (vp_in_nI (n := a) (by omega) (by decide)) dX0_valueOf_5 ?_
  refine sm_eqi (y := V a) (sm_cl V (n := a) (by omega)) ?_
  refine lv_istore (lv' := [(5, .int (V a)), (0, .ref x0), (1, .int 12), (2, .int (nI d)), (3, .int (nI a)), (4, .int (nI b))]) hx hb dX0_valueOf_6 hl (by decide) rfl (fun ls hl => ?_)
  refine lv_aload_n hx hb dX0_valueOf_8 rfl (lv_at hl 1 rfl) ?_
  refine va_get (D := D) (ci := 0) (v := .ref x1) (C := RX0) (T := TX0) (N := 3) hx hb hts inX0 hown hK hP 0 rfl rfl 0 (by decide) (hw 18 rfl) (fun _ h9 => h9) rfl dX0_valueOf_9 ?_
  refine lv_iload hx hb dX0_valueOf_12 (lv_at hl 5 rfl) ?_
  refine va_iald hx hb hK hP 1 0 rfl rfl (vp_in_nI (n := b) (by omega) (by decide)) dX0_valueOf_14 ?_
  refine sm_eqi (y := V b) (sm_cl V (n := b) (by omega)) ?_
  refine lv_istore (lv' := [(6, .int (V b)), (5, .int (V a)), (0, .ref x0), (1, .int 12), (2, .int (nI d)), (3, .int (nI a)), (4, .int (nI b))]) hx hb dX0_valueOf_15 hl (by decide) rfl (fun ls hl => ?_)
  refine lv_iload_n hx hb dX0_valueOf_17 rfl (lv_at hl 3 rfl) ?_
  refine lv_tableOut (tgt := 182) hx hb dX0_valueOf_18 (Or.inr (by decide)) (by decide) ?_
  refine lv_aload_n hx hb dX0_valueOf_182 rfl (lv_at hl 2 rfl) ?_
  refine lv_iload hx hb dX0_valueOf_183 (lv_at hl 6 rfl) ?_
  refine sm_callV (C := RX0) (As := [.int (nI b)]) (rest := []) (wr := []) (wn := (sm_wX cI x0 x1 x2 x3 V S M)) (st1 := [.int (sm_bI (bt (V b) 0))]) ⟨hx, hb, hml, hown, hts⟩ (c_chosen l D cI x0 x1 x2 x3 V S M b (by omega)) (cwV 1 hts (sm_gV (i1 := 136) (i2 := 137) (i3 := 345) (i4 := 1) (i5 := 138) rfl rfl rfl rfl rfl) rfl rfl rfl (by decide +kernel) ⟨Nat.le_of_ble_eq_true rfl, Nat.le_of_ble_eq_true rfl⟩) hK [0] rfl hP hD hS hA 0 rfl rfl [0, 1, 2, 3] [] rfl rfl (by decide) (by decide) (by decide) rfl hl.1 rfl (Nat.le_of_ble_eq_true rfl) dX0_valueOf_185 ⟨Nat.le_of_ble_eq_true rfl, Nat.le_of_ble_eq_true rfl⟩ rfl rfl (fun H locs hP hD hS => ?_)
  refine sm_ifb_eq (tgt := 196) hx hb dX0_valueOf_188 rfl (fun h188 => ?_) (fun h188 => ?_)
  · refine lv_aload_n hx hb dX0_valueOf_196 rfl (lv_at hl 2 rfl) ?_
    refine va_get (D := D) (ci := 0) (v := .ref x1) (C := RX0) (T := TX0) (N := 3) hx hb hts inX0 hown hK hP 0 rfl rfl 0 (by decide) (hw 18 rfl) (fun _ h9 => h9) rfl dX0_valueOf_197 ?_
    refine lv_iload_n hx hb dX0_valueOf_200 rfl (lv_at hl 4 rfl) ?_
    refine va_iald hx hb hK hP 1 0 rfl rfl (vp_in_nI (n := d) (by omega) (by decide)) dX0_valueOf_201 ?_
    refine sm_eqi (y := V d) (sm_cl V (n := d) (by omega)) ?_
    refine sm_eqi (y := if bt (V b) 0 then V a else V d) (by simp [sm_bI, h188]) ?_
    exact sm_iret hx hb hrt hlocks hS hP hD dX0_valueOf_202
  · refine lv_iload hx hb dX0_valueOf_191 (lv_at hl 1 rfl) ?_
    refine lv_goto (tgt := 202) hx hb dX0_valueOf_193 rfl ?_
    refine sm_eqi (y := if bt (V b) 0 then V a else V d) (by simp [sm_bI, h188]) ?_
    exact sm_iret hx hb hrt hlocks hS hP hD dX0_valueOf_202
set_option maxHeartbeats 4000000 in
set_option maxRecDepth 100000 in
theorem c_shadowOf_0 (l : Launch) (D : va_G) (cI : ClassId) (x0 x1 x2 x3 : Nat) (V S M : Nat → Int32) (d a b : Nat) (hd : d < 16) (ha : a < 16) (hb' : b < 16) : sm_C l yX0_shadowOf wsX0_shadowOf ({ frames := 3, cells := 0, slots := 0, locals := 96 } : Room) D vwCl [(cI, .int)] [.ref x0, .int 0, .int (nI d), .int (nI a), .int (nI b)] (sm_wX cI x0 x1 x2 x3 V S M) (some (.int (sm_fr (sm_tz (S a ||| S b))))) (sm_wX cI x0 x1 x2 x3 V S M) := by
  refine sm_start (cc := cX0_shadowOf) (maxL := 9) (ret := some .int) (lv := [(0, .ref x0), (1, .int 0), (2, .int (nI d)), (3, .int (nI a)), (4, .int (nI b))]) (by decide) rfl (Nat.le_of_ble_eq_true rfl) rfl ?_
  intro p e s m below meth c hx hb hrt hts hown hlocks hml hin hK hP hD hS hA ls hl
  have hw := sm_hw hts
  have q1 := sm_tz_le (S a)
  have q2 := sm_tz_le (S b)
  have q3 := sm_tz_le (V b ||| S b)
  have q4 := sm_tz_le (V a ||| S a)
  have q5 := sm_tz_le (S a ||| S b)
  have q6 := sm_min_le (sm_tz (S a) + sm_tz (V b ||| S b)) (sm_tz (S b) + sm_tz (V a ||| S a))
  refine lv_aload_n hx hb dX0_shadowOf_0 rfl (lv_at hl 0 rfl) ?_
  refine va_get (D := D) (ci := 0) (v := .ref x1) (C := RX0) (T := TX0) (N := 3) hx hb hts inX0 hown hK hP 0 rfl rfl 0 (by decide) (hw 18 rfl) (fun _ h9 => h9) rfl dX0_shadowOf_1 ?_
  refine lv_iload_n hx hb dX0_shadowOf_4 rfl (lv_at hl 3 rfl) ?_
  refine va_iald hx hb hK hP 1 0 rfl rfl (vp_in_nI (n := a) (by omega) (by decide)) dX0_shadowOf_5 ?_
  refine sm_eqi (y := V a) (sm_cl V (n := a) (by omega)) ?_
  refine lv_istore (lv' := [(5, .int (V a)), (0, .ref x0), (1, .int 0), (2, .int (nI d)), (3, .int (nI a)), (4, .int (nI b))]) hx hb dX0_shadowOf_6 hl (by decide) rfl (fun ls hl => ?_)
  refine lv_aload_n hx hb dX0_shadowOf_8 rfl (lv_at hl 1 rfl) ?_
  refine va_get (D := D) (ci := 0) (v := .ref x1) (C := RX0) (T := TX0) (N := 3) hx hb hts inX0 hown hK hP 0 rfl rfl 0 (by decide) (hw 18 rfl) (fun _ h9 => h9) rfl dX0_shadowOf_9 ?_
  refine lv_iload hx hb dX0_shadowOf_12 (lv_at hl 5 rfl) ?_
  refine va_iald hx hb hK hP 1 0 rfl rfl (vp_in_nI (n := b) (by omega) (by decide)) dX0_shadowOf_14 ?_
  refine sm_eqi (y := V b) (sm_cl V (n := b) (by omega)) ?_
  refine lv_istore (lv' := [(6, .int (V b)), (5, .int (V a)), (0, .ref x0), (1, .int 0), (2, .int (nI d)), (3, .int (nI a)), (4, .int (nI b))]) hx hb dX0_shadowOf_15 hl (by decide) rfl (fun ls hl => ?_)
  refine lv_aload_n hx hb dX0_shadowOf_17 rfl (lv_at hl 2 rfl) ?_
  refine va_get (D := D) (ci := 0) (v := .ref x2) (C := RX0) (T := TX0) (N := 3) hx hb hts inX0 hown hK hP 0 rfl rfl 1 (by decide) (hw 19 rfl) (fun _ h9 => h9) rfl dX0_shadowOf_18 ?_
  refine lv_iload_n hx hb dX0_shadowOf_21 rfl (lv_at hl 5 rfl) ?_
  refine va_iald hx hb hK hP 2 0 rfl rfl (vp_in_nI (n := a) (by omega) (by decide)) dX0_shadowOf_22 ?_
  refine sm_eqi (y := S a) (sm_cl S (n := a) (by omega)) ?_
  refine lv_istore (lv' := [(7, .int (S a)), (6, .int (V b)), (5, .int (V a)), (0, .ref x0), (1, .int 0), (2, .int (nI d)), (3, .int (nI a)), (4, .int (nI b))]) hx hb dX0_shadowOf_23 hl (by decide) rfl (fun ls hl => ?_)
  refine lv_aload_n hx hb dX0_shadowOf_25 rfl (lv_at hl 3 rfl) ?_
  refine va_get (D := D) (ci := 0) (v := .ref x2) (C := RX0) (T := TX0) (N := 3) hx hb hts inX0 hown hK hP 0 rfl rfl 1 (by decide) (hw 19 rfl) (fun _ h9 => h9) rfl dX0_shadowOf_26 ?_
  refine lv_iload hx hb dX0_shadowOf_29 (lv_at hl 7 rfl) ?_
  refine va_iald hx hb hK hP 2 0 rfl rfl (vp_in_nI (n := b) (by omega) (by decide)) dX0_shadowOf_31 ?_
  refine sm_eqi (y := S b) (sm_cl S (n := b) (by omega)) ?_
  refine lv_istore (lv' := [(8, .int (S b)), (7, .int (S a)), (6, .int (V b)), (5, .int (V a)), (0, .ref x0), (1, .int 0), (2, .int (nI d)), (3, .int (nI a)), (4, .int (nI b))]) hx hb dX0_shadowOf_32 hl (by decide) rfl (fun ls hl => ?_)
  refine lv_iload_n hx hb dX0_shadowOf_34 rfl (lv_at hl 5 rfl) ?_
  refine lv_tableIn (off := 61) (tgt := 96) hx hb dX0_shadowOf_35 (by decide) (by decide) (by decide) (by decide) ?_
  refine lv_iload hx hb dX0_shadowOf_96 (lv_at hl 1 rfl) ?_
  refine lv_iload hx hb dX0_shadowOf_98 (lv_at hl 0 rfl) ?_
  refine lv_ior hx hb dX0_shadowOf_100 ?_
  refine sm_callS (As := [.int ((S a) ||| (S b))]) (rest := []) (wr := (sm_wX cI x0 x1 x2 x3 V S M)) (wn := (sm_wX cI x0 x1 x2 x3 V S M)) (st1 := [.int (nI (sm_tz ((S a) ||| (S b))))]) ⟨hx, hb, hml, hown, hts⟩ (c_ntz l D ((S a) ||| (S b))) (va_cwS 1 hts (sm_gS (i1 := 142) (i2 := 143) (i4 := 8) (i5 := 144) rfl rfl rfl rfl) rfl rfl rfl (by decide +kernel) ⟨Nat.le_of_ble_eq_true rfl, Nat.le_of_ble_eq_true rfl⟩) hK [] rfl hP hD hS hA [] [0, 1, 2, 3] rfl rfl (by decide) (by decide) (by decide) rfl hl.1 rfl (Nat.le_of_ble_eq_true rfl) dX0_shadowOf_101 ⟨Nat.le_of_ble_eq_true rfl, Nat.le_of_ble_eq_true rfl⟩ rfl rfl (fun H locs hP hD hS => ?_)
  refine sm_callS (As := [.int (nI (sm_tz ((S a) ||| (S b))))]) (rest := []) (wr := (sm_wX cI x0 x1 x2 x3 V S M)) (wn := (sm_wX cI x0 x1 x2 x3 V S M)) (st1 := [.int (sm_fr (sm_tz ((S a) ||| (S b))))]) ⟨hx, hb, hml, hown, hts⟩ (c_fromPlaceOn l D (sm_tz ((S a) ||| (S b))) (by omega)) (va_cwS 1 hts (sm_gS (i1 := 146) (i2 := 147) (i4 := 1) (i5 := 148) rfl rfl rfl rfl) rfl rfl rfl (by decide +kernel) ⟨Nat.le_of_ble_eq_true rfl, Nat.le_of_ble_eq_true rfl⟩) hK [] rfl hP hD hS hA [] [0, 1, 2, 3] rfl rfl (by decide) (by decide) (by decide) rfl hl.1 rfl (Nat.le_of_ble_eq_true rfl) dX0_shadowOf_104 ⟨Nat.le_of_ble_eq_true rfl, Nat.le_of_ble_eq_true rfl⟩ rfl rfl (fun H locs hP hD hS => ?_)
  refine sm_eqi (y := sm_fr (sm_tz (S a ||| S b))) (rfl) ?_
  exact sm_iret hx hb hrt hlocks hS hP hD dX0_shadowOf_107
set_option maxHeartbeats 4000000 in
set_option maxRecDepth 100000 in
theorem c_shadowOf_1 (l : Launch) (D : va_G) (cI : ClassId) (x0 x1 x2 x3 : Nat) (V S M : Nat → Int32) (d a b : Nat) (hd : d < 16) (ha : a < 16) (hb' : b < 16) : sm_C l yX0_shadowOf wsX0_shadowOf ({ frames := 3, cells := 0, slots := 0, locals := 96 } : Room) D vwCl [(cI, .int)] [.ref x0, .int 1, .int (nI d), .int (nI a), .int (nI b)] (sm_wX cI x0 x1 x2 x3 V S M) (some (.int (sm_fr (sm_tz (S a ||| S b))))) (sm_wX cI x0 x1 x2 x3 V S M) := by
  refine sm_start (cc := cX0_shadowOf) (maxL := 9) (ret := some .int) (lv := [(0, .ref x0), (1, .int 1), (2, .int (nI d)), (3, .int (nI a)), (4, .int (nI b))]) (by decide) rfl (Nat.le_of_ble_eq_true rfl) rfl ?_
  intro p e s m below meth c hx hb hrt hts hown hlocks hml hin hK hP hD hS hA ls hl
  have hw := sm_hw hts
  have q1 := sm_tz_le (S a)
  have q2 := sm_tz_le (S b)
  have q3 := sm_tz_le (V b ||| S b)
  have q4 := sm_tz_le (V a ||| S a)
  have q5 := sm_tz_le (S a ||| S b)
  have q6 := sm_min_le (sm_tz (S a) + sm_tz (V b ||| S b)) (sm_tz (S b) + sm_tz (V a ||| S a))
  refine lv_aload_n hx hb dX0_shadowOf_0 rfl (lv_at hl 0 rfl) ?_
  refine va_get (D := D) (ci := 0) (v := .ref x1) (C := RX0) (T := TX0) (N := 3) hx hb hts inX0 hown hK hP 0 rfl rfl 0 (by decide) (hw 18 rfl) (fun _ h9 => h9) rfl dX0_shadowOf_1 ?_
  refine lv_iload_n hx hb dX0_shadowOf_4 rfl (lv_at hl 3 rfl) ?_
  refine va_iald hx hb hK hP 1 0 rfl rfl (vp_in_nI (n := a) (by omega) (by decide)) dX0_shadowOf_5 ?_
  refine sm_eqi (y := V a) (sm_cl V (n := a) (by omega)) ?_
  refine lv_istore (lv' := [(5, .int (V a)), (0, .ref x0), (1, .int 1), (2, .int (nI d)), (3, .int (nI a)), (4, .int (nI b))]) hx hb dX0_shadowOf_6 hl (by decide) rfl (fun ls hl => ?_)
  refine lv_aload_n hx hb dX0_shadowOf_8 rfl (lv_at hl 1 rfl) ?_
  refine va_get (D := D) (ci := 0) (v := .ref x1) (C := RX0) (T := TX0) (N := 3) hx hb hts inX0 hown hK hP 0 rfl rfl 0 (by decide) (hw 18 rfl) (fun _ h9 => h9) rfl dX0_shadowOf_9 ?_
  refine lv_iload hx hb dX0_shadowOf_12 (lv_at hl 5 rfl) ?_
  refine va_iald hx hb hK hP 1 0 rfl rfl (vp_in_nI (n := b) (by omega) (by decide)) dX0_shadowOf_14 ?_
  refine sm_eqi (y := V b) (sm_cl V (n := b) (by omega)) ?_
  refine lv_istore (lv' := [(6, .int (V b)), (5, .int (V a)), (0, .ref x0), (1, .int 1), (2, .int (nI d)), (3, .int (nI a)), (4, .int (nI b))]) hx hb dX0_shadowOf_15 hl (by decide) rfl (fun ls hl => ?_)
  refine lv_aload_n hx hb dX0_shadowOf_17 rfl (lv_at hl 2 rfl) ?_
  refine va_get (D := D) (ci := 0) (v := .ref x2) (C := RX0) (T := TX0) (N := 3) hx hb hts inX0 hown hK hP 0 rfl rfl 1 (by decide) (hw 19 rfl) (fun _ h9 => h9) rfl dX0_shadowOf_18 ?_
  refine lv_iload_n hx hb dX0_shadowOf_21 rfl (lv_at hl 5 rfl) ?_
  refine va_iald hx hb hK hP 2 0 rfl rfl (vp_in_nI (n := a) (by omega) (by decide)) dX0_shadowOf_22 ?_
  refine sm_eqi (y := S a) (sm_cl S (n := a) (by omega)) ?_
  refine lv_istore (lv' := [(7, .int (S a)), (6, .int (V b)), (5, .int (V a)), (0, .ref x0), (1, .int 1), (2, .int (nI d)), (3, .int (nI a)), (4, .int (nI b))]) hx hb dX0_shadowOf_23 hl (by decide) rfl (fun ls hl => ?_)
  refine lv_aload_n hx hb dX0_shadowOf_25 rfl (lv_at hl 3 rfl) ?_
  refine va_get (D := D) (ci := 0) (v := .ref x2) (C := RX0) (T := TX0) (N := 3) hx hb hts inX0 hown hK hP 0 rfl rfl 1 (by decide) (hw 19 rfl) (fun _ h9 => h9) rfl dX0_shadowOf_26 ?_
  refine lv_iload hx hb dX0_shadowOf_29 (lv_at hl 7 rfl) ?_
  refine va_iald hx hb hK hP 2 0 rfl rfl (vp_in_nI (n := b) (by omega) (by decide)) dX0_shadowOf_31 ?_
  refine sm_eqi (y := S b) (sm_cl S (n := b) (by omega)) ?_
  refine lv_istore (lv' := [(8, .int (S b)), (7, .int (S a)), (6, .int (V b)), (5, .int (V a)), (0, .ref x0), (1, .int 1), (2, .int (nI d)), (3, .int (nI a)), (4, .int (nI b))]) hx hb dX0_shadowOf_32 hl (by decide) rfl (fun ls hl => ?_)
  refine lv_iload_n hx hb dX0_shadowOf_34 rfl (lv_at hl 5 rfl) ?_
  refine lv_tableIn (off := 61) (tgt := 96) hx hb dX0_shadowOf_35 (by decide) (by decide) (by decide) (by decide) ?_
  refine lv_iload hx hb dX0_shadowOf_96 (lv_at hl 1 rfl) ?_
  refine lv_iload hx hb dX0_shadowOf_98 (lv_at hl 0 rfl) ?_
  refine lv_ior hx hb dX0_shadowOf_100 ?_
  refine sm_callS (As := [.int ((S a) ||| (S b))]) (rest := []) (wr := (sm_wX cI x0 x1 x2 x3 V S M)) (wn := (sm_wX cI x0 x1 x2 x3 V S M)) (st1 := [.int (nI (sm_tz ((S a) ||| (S b))))]) ⟨hx, hb, hml, hown, hts⟩ (c_ntz l D ((S a) ||| (S b))) (va_cwS 1 hts (sm_gS (i1 := 142) (i2 := 143) (i4 := 8) (i5 := 144) rfl rfl rfl rfl) rfl rfl rfl (by decide +kernel) ⟨Nat.le_of_ble_eq_true rfl, Nat.le_of_ble_eq_true rfl⟩) hK [] rfl hP hD hS hA [] [0, 1, 2, 3] rfl rfl (by decide) (by decide) (by decide) rfl hl.1 rfl (Nat.le_of_ble_eq_true rfl) dX0_shadowOf_101 ⟨Nat.le_of_ble_eq_true rfl, Nat.le_of_ble_eq_true rfl⟩ rfl rfl (fun H locs hP hD hS => ?_)
  refine sm_callS (As := [.int (nI (sm_tz ((S a) ||| (S b))))]) (rest := []) (wr := (sm_wX cI x0 x1 x2 x3 V S M)) (wn := (sm_wX cI x0 x1 x2 x3 V S M)) (st1 := [.int (sm_fr (sm_tz ((S a) ||| (S b))))]) ⟨hx, hb, hml, hown, hts⟩ (c_fromPlaceOn l D (sm_tz ((S a) ||| (S b))) (by omega)) (va_cwS 1 hts (sm_gS (i1 := 146) (i2 := 147) (i4 := 1) (i5 := 148) rfl rfl rfl rfl) rfl rfl rfl (by decide +kernel) ⟨Nat.le_of_ble_eq_true rfl, Nat.le_of_ble_eq_true rfl⟩) hK [] rfl hP hD hS hA [] [0, 1, 2, 3] rfl rfl (by decide) (by decide) (by decide) rfl hl.1 rfl (Nat.le_of_ble_eq_true rfl) dX0_shadowOf_104 ⟨Nat.le_of_ble_eq_true rfl, Nat.le_of_ble_eq_true rfl⟩ rfl rfl (fun H locs hP hD hS => ?_)
  refine sm_eqi (y := sm_fr (sm_tz (S a ||| S b))) (rfl) ?_
  exact sm_iret hx hb hrt hlocks hS hP hD dX0_shadowOf_107
set_option maxHeartbeats 4000000 in
set_option maxRecDepth 100000 in
theorem c_shadowOf_2 (l : Launch) (D : va_G) (cI : ClassId) (x0 x1 x2 x3 : Nat) (V S M : Nat → Int32) (d a b : Nat) (hd : d < 16) (ha : a < 16) (hb' : b < 16) : sm_C l yX0_shadowOf wsX0_shadowOf ({ frames := 3, cells := 0, slots := 0, locals := 96 } : Room) D vwCl [(cI, .int)] [.ref x0, .int 2, .int (nI d), .int (nI a), .int (nI b)] (sm_wX cI x0 x1 x2 x3 V S M) (some (.int ((S a ||| S b) &&& (S a ||| V a) &&& (S b ||| V b)))) (sm_wX cI x0 x1 x2 x3 V S M) := by
  refine sm_start (cc := cX0_shadowOf) (maxL := 9) (ret := some .int) (lv := [(0, .ref x0), (1, .int 2), (2, .int (nI d)), (3, .int (nI a)), (4, .int (nI b))]) (by decide) rfl (Nat.le_of_ble_eq_true rfl) rfl ?_
  intro p e s m below meth c hx hb hrt hts hown hlocks hml hin hK hP hD hS hA ls hl
  have hw := sm_hw hts
  have q1 := sm_tz_le (S a)
  have q2 := sm_tz_le (S b)
  have q3 := sm_tz_le (V b ||| S b)
  have q4 := sm_tz_le (V a ||| S a)
  have q5 := sm_tz_le (S a ||| S b)
  have q6 := sm_min_le (sm_tz (S a) + sm_tz (V b ||| S b)) (sm_tz (S b) + sm_tz (V a ||| S a))
  refine lv_aload_n hx hb dX0_shadowOf_0 rfl (lv_at hl 0 rfl) ?_
  refine va_get (D := D) (ci := 0) (v := .ref x1) (C := RX0) (T := TX0) (N := 3) hx hb hts inX0 hown hK hP 0 rfl rfl 0 (by decide) (hw 18 rfl) (fun _ h9 => h9) rfl dX0_shadowOf_1 ?_
  refine lv_iload_n hx hb dX0_shadowOf_4 rfl (lv_at hl 3 rfl) ?_
  refine va_iald hx hb hK hP 1 0 rfl rfl (vp_in_nI (n := a) (by omega) (by decide)) dX0_shadowOf_5 ?_
  refine sm_eqi (y := V a) (sm_cl V (n := a) (by omega)) ?_
  refine lv_istore (lv' := [(5, .int (V a)), (0, .ref x0), (1, .int 2), (2, .int (nI d)), (3, .int (nI a)), (4, .int (nI b))]) hx hb dX0_shadowOf_6 hl (by decide) rfl (fun ls hl => ?_)
  refine lv_aload_n hx hb dX0_shadowOf_8 rfl (lv_at hl 1 rfl) ?_
  refine va_get (D := D) (ci := 0) (v := .ref x1) (C := RX0) (T := TX0) (N := 3) hx hb hts inX0 hown hK hP 0 rfl rfl 0 (by decide) (hw 18 rfl) (fun _ h9 => h9) rfl dX0_shadowOf_9 ?_
  refine lv_iload hx hb dX0_shadowOf_12 (lv_at hl 5 rfl) ?_
  refine va_iald hx hb hK hP 1 0 rfl rfl (vp_in_nI (n := b) (by omega) (by decide)) dX0_shadowOf_14 ?_
  refine sm_eqi (y := V b) (sm_cl V (n := b) (by omega)) ?_
  refine lv_istore (lv' := [(6, .int (V b)), (5, .int (V a)), (0, .ref x0), (1, .int 2), (2, .int (nI d)), (3, .int (nI a)), (4, .int (nI b))]) hx hb dX0_shadowOf_15 hl (by decide) rfl (fun ls hl => ?_)
  refine lv_aload_n hx hb dX0_shadowOf_17 rfl (lv_at hl 2 rfl) ?_
  refine va_get (D := D) (ci := 0) (v := .ref x2) (C := RX0) (T := TX0) (N := 3) hx hb hts inX0 hown hK hP 0 rfl rfl 1 (by decide) (hw 19 rfl) (fun _ h9 => h9) rfl dX0_shadowOf_18 ?_
  refine lv_iload_n hx hb dX0_shadowOf_21 rfl (lv_at hl 5 rfl) ?_
  refine va_iald hx hb hK hP 2 0 rfl rfl (vp_in_nI (n := a) (by omega) (by decide)) dX0_shadowOf_22 ?_
  refine sm_eqi (y := S a) (sm_cl S (n := a) (by omega)) ?_
  refine lv_istore (lv' := [(7, .int (S a)), (6, .int (V b)), (5, .int (V a)), (0, .ref x0), (1, .int 2), (2, .int (nI d)), (3, .int (nI a)), (4, .int (nI b))]) hx hb dX0_shadowOf_23 hl (by decide) rfl (fun ls hl => ?_)
  refine lv_aload_n hx hb dX0_shadowOf_25 rfl (lv_at hl 3 rfl) ?_
  refine va_get (D := D) (ci := 0) (v := .ref x2) (C := RX0) (T := TX0) (N := 3) hx hb hts inX0 hown hK hP 0 rfl rfl 1 (by decide) (hw 19 rfl) (fun _ h9 => h9) rfl dX0_shadowOf_26 ?_
  refine lv_iload hx hb dX0_shadowOf_29 (lv_at hl 7 rfl) ?_
  refine va_iald hx hb hK hP 2 0 rfl rfl (vp_in_nI (n := b) (by omega) (by decide)) dX0_shadowOf_31 ?_
  refine sm_eqi (y := S b) (sm_cl S (n := b) (by omega)) ?_
  refine lv_istore (lv' := [(8, .int (S b)), (7, .int (S a)), (6, .int (V b)), (5, .int (V a)), (0, .ref x0), (1, .int 2), (2, .int (nI d)), (3, .int (nI a)), (4, .int (nI b))]) hx hb dX0_shadowOf_32 hl (by decide) rfl (fun ls hl => ?_)
  refine lv_iload_n hx hb dX0_shadowOf_34 rfl (lv_at hl 5 rfl) ?_
  refine lv_tableIn (off := 73) (tgt := 108) hx hb dX0_shadowOf_35 (by decide) (by decide) (by decide) (by decide) ?_
  refine lv_iload hx hb dX0_shadowOf_108 (lv_at hl 1 rfl) ?_
  refine lv_iload hx hb dX0_shadowOf_110 (lv_at hl 0 rfl) ?_
  refine lv_ior hx hb dX0_shadowOf_112 ?_
  refine lv_iload hx hb dX0_shadowOf_113 (lv_at hl 1 rfl) ?_
  refine lv_iload hx hb dX0_shadowOf_115 (lv_at hl 3 rfl) ?_
  refine lv_ior hx hb dX0_shadowOf_117 ?_
  refine lv_iand hx hb dX0_shadowOf_118 ?_
  refine lv_iload hx hb dX0_shadowOf_119 (lv_at hl 0 rfl) ?_
  refine lv_iload hx hb dX0_shadowOf_121 (lv_at hl 2 rfl) ?_
  refine lv_ior hx hb dX0_shadowOf_123 ?_
  refine lv_iand hx hb dX0_shadowOf_124 ?_
  refine sm_eqi (y := (S a ||| S b) &&& (S a ||| V a) &&& (S b ||| V b)) (rfl) ?_
  exact sm_iret hx hb hrt hlocks hS hP hD dX0_shadowOf_125
set_option maxHeartbeats 4000000 in
set_option maxRecDepth 100000 in
theorem c_shadowOf_3 (l : Launch) (D : va_G) (cI : ClassId) (x0 x1 x2 x3 : Nat) (V S M : Nat → Int32) (d a b : Nat) (hd : d < 16) (ha : a < 16) (hb' : b < 16) : sm_C l yX0_shadowOf wsX0_shadowOf ({ frames := 3, cells := 0, slots := 0, locals := 96 } : Room) D vwCl [(cI, .int)] [.ref x0, .int 3, .int (nI d), .int (nI a), .int (nI b)] (sm_wX cI x0 x1 x2 x3 V S M) (some (.int ((S a ||| S b) &&& (S a ||| (V a ^^^ (-1))) &&& (S b ||| (V b ^^^ (-1)))))) (sm_wX cI x0 x1 x2 x3 V S M) := by
  refine sm_start (cc := cX0_shadowOf) (maxL := 9) (ret := some .int) (lv := [(0, .ref x0), (1, .int 3), (2, .int (nI d)), (3, .int (nI a)), (4, .int (nI b))]) (by decide) rfl (Nat.le_of_ble_eq_true rfl) rfl ?_
  intro p e s m below meth c hx hb hrt hts hown hlocks hml hin hK hP hD hS hA ls hl
  have hw := sm_hw hts
  have q1 := sm_tz_le (S a)
  have q2 := sm_tz_le (S b)
  have q3 := sm_tz_le (V b ||| S b)
  have q4 := sm_tz_le (V a ||| S a)
  have q5 := sm_tz_le (S a ||| S b)
  have q6 := sm_min_le (sm_tz (S a) + sm_tz (V b ||| S b)) (sm_tz (S b) + sm_tz (V a ||| S a))
  refine lv_aload_n hx hb dX0_shadowOf_0 rfl (lv_at hl 0 rfl) ?_
  refine va_get (D := D) (ci := 0) (v := .ref x1) (C := RX0) (T := TX0) (N := 3) hx hb hts inX0 hown hK hP 0 rfl rfl 0 (by decide) (hw 18 rfl) (fun _ h9 => h9) rfl dX0_shadowOf_1 ?_
  refine lv_iload_n hx hb dX0_shadowOf_4 rfl (lv_at hl 3 rfl) ?_
  refine va_iald hx hb hK hP 1 0 rfl rfl (vp_in_nI (n := a) (by omega) (by decide)) dX0_shadowOf_5 ?_
  refine sm_eqi (y := V a) (sm_cl V (n := a) (by omega)) ?_
  refine lv_istore (lv' := [(5, .int (V a)), (0, .ref x0), (1, .int 3), (2, .int (nI d)), (3, .int (nI a)), (4, .int (nI b))]) hx hb dX0_shadowOf_6 hl (by decide) rfl (fun ls hl => ?_)
  refine lv_aload_n hx hb dX0_shadowOf_8 rfl (lv_at hl 1 rfl) ?_
  refine va_get (D := D) (ci := 0) (v := .ref x1) (C := RX0) (T := TX0) (N := 3) hx hb hts inX0 hown hK hP 0 rfl rfl 0 (by decide) (hw 18 rfl) (fun _ h9 => h9) rfl dX0_shadowOf_9 ?_
  refine lv_iload hx hb dX0_shadowOf_12 (lv_at hl 5 rfl) ?_
  refine va_iald hx hb hK hP 1 0 rfl rfl (vp_in_nI (n := b) (by omega) (by decide)) dX0_shadowOf_14 ?_
  refine sm_eqi (y := V b) (sm_cl V (n := b) (by omega)) ?_
  refine lv_istore (lv' := [(6, .int (V b)), (5, .int (V a)), (0, .ref x0), (1, .int 3), (2, .int (nI d)), (3, .int (nI a)), (4, .int (nI b))]) hx hb dX0_shadowOf_15 hl (by decide) rfl (fun ls hl => ?_)
  refine lv_aload_n hx hb dX0_shadowOf_17 rfl (lv_at hl 2 rfl) ?_
  refine va_get (D := D) (ci := 0) (v := .ref x2) (C := RX0) (T := TX0) (N := 3) hx hb hts inX0 hown hK hP 0 rfl rfl 1 (by decide) (hw 19 rfl) (fun _ h9 => h9) rfl dX0_shadowOf_18 ?_
  refine lv_iload_n hx hb dX0_shadowOf_21 rfl (lv_at hl 5 rfl) ?_
  refine va_iald hx hb hK hP 2 0 rfl rfl (vp_in_nI (n := a) (by omega) (by decide)) dX0_shadowOf_22 ?_
  refine sm_eqi (y := S a) (sm_cl S (n := a) (by omega)) ?_
  refine lv_istore (lv' := [(7, .int (S a)), (6, .int (V b)), (5, .int (V a)), (0, .ref x0), (1, .int 3), (2, .int (nI d)), (3, .int (nI a)), (4, .int (nI b))]) hx hb dX0_shadowOf_23 hl (by decide) rfl (fun ls hl => ?_)
  refine lv_aload_n hx hb dX0_shadowOf_25 rfl (lv_at hl 3 rfl) ?_
  refine va_get (D := D) (ci := 0) (v := .ref x2) (C := RX0) (T := TX0) (N := 3) hx hb hts inX0 hown hK hP 0 rfl rfl 1 (by decide) (hw 19 rfl) (fun _ h9 => h9) rfl dX0_shadowOf_26 ?_
  refine lv_iload hx hb dX0_shadowOf_29 (lv_at hl 7 rfl) ?_
  refine va_iald hx hb hK hP 2 0 rfl rfl (vp_in_nI (n := b) (by omega) (by decide)) dX0_shadowOf_31 ?_
  refine sm_eqi (y := S b) (sm_cl S (n := b) (by omega)) ?_
  refine lv_istore (lv' := [(8, .int (S b)), (7, .int (S a)), (6, .int (V b)), (5, .int (V a)), (0, .ref x0), (1, .int 3), (2, .int (nI d)), (3, .int (nI a)), (4, .int (nI b))]) hx hb dX0_shadowOf_32 hl (by decide) rfl (fun ls hl => ?_)
  refine lv_iload_n hx hb dX0_shadowOf_34 rfl (lv_at hl 5 rfl) ?_
  refine lv_tableIn (off := 91) (tgt := 126) hx hb dX0_shadowOf_35 (by decide) (by decide) (by decide) (by decide) ?_
  refine lv_iload hx hb dX0_shadowOf_126 (lv_at hl 1 rfl) ?_
  refine lv_iload hx hb dX0_shadowOf_128 (lv_at hl 0 rfl) ?_
  refine lv_ior hx hb dX0_shadowOf_130 ?_
  refine lv_iload hx hb dX0_shadowOf_131 (lv_at hl 1 rfl) ?_
  refine lv_iload hx hb dX0_shadowOf_133 (lv_at hl 3 rfl) ?_
  refine lv_iconst (v := (-1)) hx hb dX0_shadowOf_135 (by decide) ?_
  refine lv_ixor hx hb dX0_shadowOf_136 ?_
  refine lv_ior hx hb dX0_shadowOf_137 ?_
  refine lv_iand hx hb dX0_shadowOf_138 ?_
  refine lv_iload hx hb dX0_shadowOf_139 (lv_at hl 0 rfl) ?_
  refine lv_iload hx hb dX0_shadowOf_141 (lv_at hl 2 rfl) ?_
  refine lv_iconst (v := (-1)) hx hb dX0_shadowOf_143 (by decide) ?_
  refine lv_ixor hx hb dX0_shadowOf_144 ?_
  refine lv_ior hx hb dX0_shadowOf_145 ?_
  refine lv_iand hx hb dX0_shadowOf_146 ?_
  refine sm_eqi (y := (S a ||| S b) &&& (S a ||| (V a ^^^ (-1))) &&& (S b ||| (V b ^^^ (-1)))) (rfl) ?_
  exact sm_iret hx hb hrt hlocks hS hP hD dX0_shadowOf_147
set_option maxHeartbeats 4000000 in
set_option maxRecDepth 100000 in
theorem c_shadowOf_4 (l : Launch) (D : va_G) (cI : ClassId) (x0 x1 x2 x3 : Nat) (V S M : Nat → Int32) (d a b : Nat) (hd : d < 16) (ha : a < 16) (hb' : b < 16) : sm_C l yX0_shadowOf wsX0_shadowOf ({ frames := 3, cells := 0, slots := 0, locals := 96 } : Room) D vwCl [(cI, .int)] [.ref x0, .int 4, .int (nI d), .int (nI a), .int (nI b)] (sm_wX cI x0 x1 x2 x3 V S M) (some (.int (S a ||| S b))) (sm_wX cI x0 x1 x2 x3 V S M) := by
  refine sm_start (cc := cX0_shadowOf) (maxL := 9) (ret := some .int) (lv := [(0, .ref x0), (1, .int 4), (2, .int (nI d)), (3, .int (nI a)), (4, .int (nI b))]) (by decide) rfl (Nat.le_of_ble_eq_true rfl) rfl ?_
  intro p e s m below meth c hx hb hrt hts hown hlocks hml hin hK hP hD hS hA ls hl
  have hw := sm_hw hts
  have q1 := sm_tz_le (S a)
  have q2 := sm_tz_le (S b)
  have q3 := sm_tz_le (V b ||| S b)
  have q4 := sm_tz_le (V a ||| S a)
  have q5 := sm_tz_le (S a ||| S b)
  have q6 := sm_min_le (sm_tz (S a) + sm_tz (V b ||| S b)) (sm_tz (S b) + sm_tz (V a ||| S a))
  refine lv_aload_n hx hb dX0_shadowOf_0 rfl (lv_at hl 0 rfl) ?_
  refine va_get (D := D) (ci := 0) (v := .ref x1) (C := RX0) (T := TX0) (N := 3) hx hb hts inX0 hown hK hP 0 rfl rfl 0 (by decide) (hw 18 rfl) (fun _ h9 => h9) rfl dX0_shadowOf_1 ?_
  refine lv_iload_n hx hb dX0_shadowOf_4 rfl (lv_at hl 3 rfl) ?_
  refine va_iald hx hb hK hP 1 0 rfl rfl (vp_in_nI (n := a) (by omega) (by decide)) dX0_shadowOf_5 ?_
  refine sm_eqi (y := V a) (sm_cl V (n := a) (by omega)) ?_
  refine lv_istore (lv' := [(5, .int (V a)), (0, .ref x0), (1, .int 4), (2, .int (nI d)), (3, .int (nI a)), (4, .int (nI b))]) hx hb dX0_shadowOf_6 hl (by decide) rfl (fun ls hl => ?_)
  refine lv_aload_n hx hb dX0_shadowOf_8 rfl (lv_at hl 1 rfl) ?_
  refine va_get (D := D) (ci := 0) (v := .ref x1) (C := RX0) (T := TX0) (N := 3) hx hb hts inX0 hown hK hP 0 rfl rfl 0 (by decide) (hw 18 rfl) (fun _ h9 => h9) rfl dX0_shadowOf_9 ?_
  refine lv_iload hx hb dX0_shadowOf_12 (lv_at hl 5 rfl) ?_
  refine va_iald hx hb hK hP 1 0 rfl rfl (vp_in_nI (n := b) (by omega) (by decide)) dX0_shadowOf_14 ?_
  refine sm_eqi (y := V b) (sm_cl V (n := b) (by omega)) ?_
  refine lv_istore (lv' := [(6, .int (V b)), (5, .int (V a)), (0, .ref x0), (1, .int 4), (2, .int (nI d)), (3, .int (nI a)), (4, .int (nI b))]) hx hb dX0_shadowOf_15 hl (by decide) rfl (fun ls hl => ?_)
  refine lv_aload_n hx hb dX0_shadowOf_17 rfl (lv_at hl 2 rfl) ?_
  refine va_get (D := D) (ci := 0) (v := .ref x2) (C := RX0) (T := TX0) (N := 3) hx hb hts inX0 hown hK hP 0 rfl rfl 1 (by decide) (hw 19 rfl) (fun _ h9 => h9) rfl dX0_shadowOf_18 ?_
  refine lv_iload_n hx hb dX0_shadowOf_21 rfl (lv_at hl 5 rfl) ?_
  refine va_iald hx hb hK hP 2 0 rfl rfl (vp_in_nI (n := a) (by omega) (by decide)) dX0_shadowOf_22 ?_
  refine sm_eqi (y := S a) (sm_cl S (n := a) (by omega)) ?_
  refine lv_istore (lv' := [(7, .int (S a)), (6, .int (V b)), (5, .int (V a)), (0, .ref x0), (1, .int 4), (2, .int (nI d)), (3, .int (nI a)), (4, .int (nI b))]) hx hb dX0_shadowOf_23 hl (by decide) rfl (fun ls hl => ?_)
  refine lv_aload_n hx hb dX0_shadowOf_25 rfl (lv_at hl 3 rfl) ?_
  refine va_get (D := D) (ci := 0) (v := .ref x2) (C := RX0) (T := TX0) (N := 3) hx hb hts inX0 hown hK hP 0 rfl rfl 1 (by decide) (hw 19 rfl) (fun _ h9 => h9) rfl dX0_shadowOf_26 ?_
  refine lv_iload hx hb dX0_shadowOf_29 (lv_at hl 7 rfl) ?_
  refine va_iald hx hb hK hP 2 0 rfl rfl (vp_in_nI (n := b) (by omega) (by decide)) dX0_shadowOf_31 ?_
  refine sm_eqi (y := S b) (sm_cl S (n := b) (by omega)) ?_
  refine lv_istore (lv' := [(8, .int (S b)), (7, .int (S a)), (6, .int (V b)), (5, .int (V a)), (0, .ref x0), (1, .int 4), (2, .int (nI d)), (3, .int (nI a)), (4, .int (nI b))]) hx hb dX0_shadowOf_32 hl (by decide) rfl (fun ls hl => ?_)
  refine lv_iload_n hx hb dX0_shadowOf_34 rfl (lv_at hl 5 rfl) ?_
  refine lv_tableIn (off := 113) (tgt := 148) hx hb dX0_shadowOf_35 (by decide) (by decide) (by decide) (by decide) ?_
  refine lv_iload hx hb dX0_shadowOf_148 (lv_at hl 1 rfl) ?_
  refine lv_iload hx hb dX0_shadowOf_150 (lv_at hl 0 rfl) ?_
  refine lv_ior hx hb dX0_shadowOf_152 ?_
  refine sm_eqi (y := S a ||| S b) (rfl) ?_
  exact sm_iret hx hb hrt hlocks hS hP hD dX0_shadowOf_153
set_option maxHeartbeats 4000000 in
set_option maxRecDepth 100000 in
theorem c_shadowOf_5 (l : Launch) (D : va_G) (cI : ClassId) (x0 x1 x2 x3 : Nat) (V S M : Nat → Int32) (d a b : Nat) (hd : d < 16) (ha : a < 16) (hb' : b < 16) : sm_C l yX0_shadowOf wsX0_shadowOf ({ frames := 3, cells := 0, slots := 0, locals := 96 } : Room) D vwCl [(cI, .int)] [.ref x0, .int 5, .int (nI d), .int (nI a), .int (nI b)] (sm_wX cI x0 x1 x2 x3 V S M) (some (.int (if S b &&& 31 = 0 then S a <<< ((V b &&& 31) &&& 31) else (-1)))) (sm_wX cI x0 x1 x2 x3 V S M) := by
  refine sm_start (cc := cX0_shadowOf) (maxL := 9) (ret := some .int) (lv := [(0, .ref x0), (1, .int 5), (2, .int (nI d)), (3, .int (nI a)), (4, .int (nI b))]) (by decide) rfl (Nat.le_of_ble_eq_true rfl) rfl ?_
  intro p e s m below meth c hx hb hrt hts hown hlocks hml hin hK hP hD hS hA ls hl
  have hw := sm_hw hts
  have q1 := sm_tz_le (S a)
  have q2 := sm_tz_le (S b)
  have q3 := sm_tz_le (V b ||| S b)
  have q4 := sm_tz_le (V a ||| S a)
  have q5 := sm_tz_le (S a ||| S b)
  have q6 := sm_min_le (sm_tz (S a) + sm_tz (V b ||| S b)) (sm_tz (S b) + sm_tz (V a ||| S a))
  refine lv_aload_n hx hb dX0_shadowOf_0 rfl (lv_at hl 0 rfl) ?_
  refine va_get (D := D) (ci := 0) (v := .ref x1) (C := RX0) (T := TX0) (N := 3) hx hb hts inX0 hown hK hP 0 rfl rfl 0 (by decide) (hw 18 rfl) (fun _ h9 => h9) rfl dX0_shadowOf_1 ?_
  refine lv_iload_n hx hb dX0_shadowOf_4 rfl (lv_at hl 3 rfl) ?_
  refine va_iald hx hb hK hP 1 0 rfl rfl (vp_in_nI (n := a) (by omega) (by decide)) dX0_shadowOf_5 ?_
  refine sm_eqi (y := V a) (sm_cl V (n := a) (by omega)) ?_
  refine lv_istore (lv' := [(5, .int (V a)), (0, .ref x0), (1, .int 5), (2, .int (nI d)), (3, .int (nI a)), (4, .int (nI b))]) hx hb dX0_shadowOf_6 hl (by decide) rfl (fun ls hl => ?_)
  refine lv_aload_n hx hb dX0_shadowOf_8 rfl (lv_at hl 1 rfl) ?_
  refine va_get (D := D) (ci := 0) (v := .ref x1) (C := RX0) (T := TX0) (N := 3) hx hb hts inX0 hown hK hP 0 rfl rfl 0 (by decide) (hw 18 rfl) (fun _ h9 => h9) rfl dX0_shadowOf_9 ?_
  refine lv_iload hx hb dX0_shadowOf_12 (lv_at hl 5 rfl) ?_
  refine va_iald hx hb hK hP 1 0 rfl rfl (vp_in_nI (n := b) (by omega) (by decide)) dX0_shadowOf_14 ?_
  refine sm_eqi (y := V b) (sm_cl V (n := b) (by omega)) ?_
  refine lv_istore (lv' := [(6, .int (V b)), (5, .int (V a)), (0, .ref x0), (1, .int 5), (2, .int (nI d)), (3, .int (nI a)), (4, .int (nI b))]) hx hb dX0_shadowOf_15 hl (by decide) rfl (fun ls hl => ?_)
  refine lv_aload_n hx hb dX0_shadowOf_17 rfl (lv_at hl 2 rfl) ?_
  refine va_get (D := D) (ci := 0) (v := .ref x2) (C := RX0) (T := TX0) (N := 3) hx hb hts inX0 hown hK hP 0 rfl rfl 1 (by decide) (hw 19 rfl) (fun _ h9 => h9) rfl dX0_shadowOf_18 ?_
  refine lv_iload_n hx hb dX0_shadowOf_21 rfl (lv_at hl 5 rfl) ?_
  refine va_iald hx hb hK hP 2 0 rfl rfl (vp_in_nI (n := a) (by omega) (by decide)) dX0_shadowOf_22 ?_
  refine sm_eqi (y := S a) (sm_cl S (n := a) (by omega)) ?_
  refine lv_istore (lv' := [(7, .int (S a)), (6, .int (V b)), (5, .int (V a)), (0, .ref x0), (1, .int 5), (2, .int (nI d)), (3, .int (nI a)), (4, .int (nI b))]) hx hb dX0_shadowOf_23 hl (by decide) rfl (fun ls hl => ?_)
  refine lv_aload_n hx hb dX0_shadowOf_25 rfl (lv_at hl 3 rfl) ?_
  refine va_get (D := D) (ci := 0) (v := .ref x2) (C := RX0) (T := TX0) (N := 3) hx hb hts inX0 hown hK hP 0 rfl rfl 1 (by decide) (hw 19 rfl) (fun _ h9 => h9) rfl dX0_shadowOf_26 ?_
  refine lv_iload hx hb dX0_shadowOf_29 (lv_at hl 7 rfl) ?_
  refine va_iald hx hb hK hP 2 0 rfl rfl (vp_in_nI (n := b) (by omega) (by decide)) dX0_shadowOf_31 ?_
  refine sm_eqi (y := S b) (sm_cl S (n := b) (by omega)) ?_
  refine lv_istore (lv' := [(8, .int (S b)), (7, .int (S a)), (6, .int (V b)), (5, .int (V a)), (0, .ref x0), (1, .int 5), (2, .int (nI d)), (3, .int (nI a)), (4, .int (nI b))]) hx hb dX0_shadowOf_32 hl (by decide) rfl (fun ls hl => ?_)
  refine lv_iload_n hx hb dX0_shadowOf_34 rfl (lv_at hl 5 rfl) ?_
  refine lv_tableIn (off := 119) (tgt := 154) hx hb dX0_shadowOf_35 (by decide) (by decide) (by decide) (by decide) ?_
  refine lv_iload hx hb dX0_shadowOf_154 (lv_at hl 0 rfl) ?_
  refine lv_bipush (v := 31) hx hb dX0_shadowOf_156 (by decide) ?_
  refine lv_iand hx hb dX0_shadowOf_158 ?_
  refine lv_if_eq (tgt := 166) hx hb dX0_shadowOf_159 rfl (fun h159 => ?_) (fun h159 => ?_)
  · refine lv_iload_n hx hb dX0_shadowOf_166 rfl (lv_at hl 5 rfl) ?_
    refine lv_iload hx hb dX0_shadowOf_167 (lv_at hl 1 rfl) ?_
    refine lv_iload hx hb dX0_shadowOf_169 (lv_at hl 2 rfl) ?_
    refine lv_bipush (v := 31) hx hb dX0_shadowOf_171 (by decide) ?_
    refine lv_iand hx hb dX0_shadowOf_173 ?_
    refine sm_callS (As := [.int 5, .int (S a), .int ((V b) &&& 31)]) (rest := []) (wr := (sm_wX cI x0 x1 x2 x3 V S M)) (wn := (sm_wX cI x0 x1 x2 x3 V S M)) (st1 := [.int ((S a) <<< (((V b) &&& 31) &&& 31))]) ⟨hx, hb, hml, hown, hts⟩ (c_shifted_5 l D (S a) ((V b) &&& 31)) (va_cwS 3 hts (sm_gS (i1 := 126) (i2 := 127) (i4 := 1) (i5 := 128) rfl rfl rfl rfl) rfl rfl rfl (by decide +kernel) ⟨Nat.le_of_ble_eq_true rfl, Nat.le_of_ble_eq_true rfl⟩) hK [] rfl hP hD hS hA [] [0, 1, 2, 3] rfl rfl (by decide) (by decide) (by decide) rfl hl.1 rfl (Nat.le_of_ble_eq_true rfl) dX0_shadowOf_174 ⟨Nat.le_of_ble_eq_true rfl, Nat.le_of_ble_eq_true rfl⟩ rfl rfl (fun H locs hP hD hS => ?_)
    refine sm_eqi (y := if S b &&& 31 = 0 then S a <<< ((V b &&& 31) &&& 31) else (-1)) (by simp [sm_bI, h159]) ?_
    exact sm_iret hx hb hrt hlocks hS hP hD dX0_shadowOf_177
  · refine lv_iconst (v := (-1)) hx hb dX0_shadowOf_162 (by decide) ?_
    refine lv_goto (tgt := 177) hx hb dX0_shadowOf_163 rfl ?_
    refine sm_eqi (y := if S b &&& 31 = 0 then S a <<< ((V b &&& 31) &&& 31) else (-1)) (by simp [sm_bI, h159]) ?_
    exact sm_iret hx hb hrt hlocks hS hP hD dX0_shadowOf_177
set_option maxHeartbeats 4000000 in
set_option maxRecDepth 100000 in
theorem c_shadowOf_6 (l : Launch) (D : va_G) (cI : ClassId) (x0 x1 x2 x3 : Nat) (V S M : Nat → Int32) (d a b : Nat) (hd : d < 16) (ha : a < 16) (hb' : b < 16) : sm_C l yX0_shadowOf wsX0_shadowOf ({ frames := 3, cells := 0, slots := 0, locals := 96 } : Room) D vwCl [(cI, .int)] [.ref x0, .int 6, .int (nI d), .int (nI a), .int (nI b)] (sm_wX cI x0 x1 x2 x3 V S M) (some (.int (if S b &&& 31 = 0 then sm_ushr (S a) (V b &&& 31) else (-1)))) (sm_wX cI x0 x1 x2 x3 V S M) := by
  refine sm_start (cc := cX0_shadowOf) (maxL := 9) (ret := some .int) (lv := [(0, .ref x0), (1, .int 6), (2, .int (nI d)), (3, .int (nI a)), (4, .int (nI b))]) (by decide) rfl (Nat.le_of_ble_eq_true rfl) rfl ?_
  intro p e s m below meth c hx hb hrt hts hown hlocks hml hin hK hP hD hS hA ls hl
  have hw := sm_hw hts
  have q1 := sm_tz_le (S a)
  have q2 := sm_tz_le (S b)
  have q3 := sm_tz_le (V b ||| S b)
  have q4 := sm_tz_le (V a ||| S a)
  have q5 := sm_tz_le (S a ||| S b)
  have q6 := sm_min_le (sm_tz (S a) + sm_tz (V b ||| S b)) (sm_tz (S b) + sm_tz (V a ||| S a))
  refine lv_aload_n hx hb dX0_shadowOf_0 rfl (lv_at hl 0 rfl) ?_
  refine va_get (D := D) (ci := 0) (v := .ref x1) (C := RX0) (T := TX0) (N := 3) hx hb hts inX0 hown hK hP 0 rfl rfl 0 (by decide) (hw 18 rfl) (fun _ h9 => h9) rfl dX0_shadowOf_1 ?_
  refine lv_iload_n hx hb dX0_shadowOf_4 rfl (lv_at hl 3 rfl) ?_
  refine va_iald hx hb hK hP 1 0 rfl rfl (vp_in_nI (n := a) (by omega) (by decide)) dX0_shadowOf_5 ?_
  refine sm_eqi (y := V a) (sm_cl V (n := a) (by omega)) ?_
  refine lv_istore (lv' := [(5, .int (V a)), (0, .ref x0), (1, .int 6), (2, .int (nI d)), (3, .int (nI a)), (4, .int (nI b))]) hx hb dX0_shadowOf_6 hl (by decide) rfl (fun ls hl => ?_)
  refine lv_aload_n hx hb dX0_shadowOf_8 rfl (lv_at hl 1 rfl) ?_
  refine va_get (D := D) (ci := 0) (v := .ref x1) (C := RX0) (T := TX0) (N := 3) hx hb hts inX0 hown hK hP 0 rfl rfl 0 (by decide) (hw 18 rfl) (fun _ h9 => h9) rfl dX0_shadowOf_9 ?_
  refine lv_iload hx hb dX0_shadowOf_12 (lv_at hl 5 rfl) ?_
  refine va_iald hx hb hK hP 1 0 rfl rfl (vp_in_nI (n := b) (by omega) (by decide)) dX0_shadowOf_14 ?_
  refine sm_eqi (y := V b) (sm_cl V (n := b) (by omega)) ?_
  refine lv_istore (lv' := [(6, .int (V b)), (5, .int (V a)), (0, .ref x0), (1, .int 6), (2, .int (nI d)), (3, .int (nI a)), (4, .int (nI b))]) hx hb dX0_shadowOf_15 hl (by decide) rfl (fun ls hl => ?_)
  refine lv_aload_n hx hb dX0_shadowOf_17 rfl (lv_at hl 2 rfl) ?_
  refine va_get (D := D) (ci := 0) (v := .ref x2) (C := RX0) (T := TX0) (N := 3) hx hb hts inX0 hown hK hP 0 rfl rfl 1 (by decide) (hw 19 rfl) (fun _ h9 => h9) rfl dX0_shadowOf_18 ?_
  refine lv_iload_n hx hb dX0_shadowOf_21 rfl (lv_at hl 5 rfl) ?_
  refine va_iald hx hb hK hP 2 0 rfl rfl (vp_in_nI (n := a) (by omega) (by decide)) dX0_shadowOf_22 ?_
  refine sm_eqi (y := S a) (sm_cl S (n := a) (by omega)) ?_
  refine lv_istore (lv' := [(7, .int (S a)), (6, .int (V b)), (5, .int (V a)), (0, .ref x0), (1, .int 6), (2, .int (nI d)), (3, .int (nI a)), (4, .int (nI b))]) hx hb dX0_shadowOf_23 hl (by decide) rfl (fun ls hl => ?_)
  refine lv_aload_n hx hb dX0_shadowOf_25 rfl (lv_at hl 3 rfl) ?_
  refine va_get (D := D) (ci := 0) (v := .ref x2) (C := RX0) (T := TX0) (N := 3) hx hb hts inX0 hown hK hP 0 rfl rfl 1 (by decide) (hw 19 rfl) (fun _ h9 => h9) rfl dX0_shadowOf_26 ?_
  refine lv_iload hx hb dX0_shadowOf_29 (lv_at hl 7 rfl) ?_
  refine va_iald hx hb hK hP 2 0 rfl rfl (vp_in_nI (n := b) (by omega) (by decide)) dX0_shadowOf_31 ?_
  refine sm_eqi (y := S b) (sm_cl S (n := b) (by omega)) ?_
  refine lv_istore (lv' := [(8, .int (S b)), (7, .int (S a)), (6, .int (V b)), (5, .int (V a)), (0, .ref x0), (1, .int 6), (2, .int (nI d)), (3, .int (nI a)), (4, .int (nI b))]) hx hb dX0_shadowOf_32 hl (by decide) rfl (fun ls hl => ?_)
  refine lv_iload_n hx hb dX0_shadowOf_34 rfl (lv_at hl 5 rfl) ?_
  refine lv_tableIn (off := 119) (tgt := 154) hx hb dX0_shadowOf_35 (by decide) (by decide) (by decide) (by decide) ?_
  refine lv_iload hx hb dX0_shadowOf_154 (lv_at hl 0 rfl) ?_
  refine lv_bipush (v := 31) hx hb dX0_shadowOf_156 (by decide) ?_
  refine lv_iand hx hb dX0_shadowOf_158 ?_
  refine lv_if_eq (tgt := 166) hx hb dX0_shadowOf_159 rfl (fun h159 => ?_) (fun h159 => ?_)
  · refine lv_iload_n hx hb dX0_shadowOf_166 rfl (lv_at hl 5 rfl) ?_
    refine lv_iload hx hb dX0_shadowOf_167 (lv_at hl 1 rfl) ?_
    refine lv_iload hx hb dX0_shadowOf_169 (lv_at hl 2 rfl) ?_
    refine lv_bipush (v := 31) hx hb dX0_shadowOf_171 (by decide) ?_
    refine lv_iand hx hb dX0_shadowOf_173 ?_
    refine sm_callS (As := [.int 6, .int (S a), .int ((V b) &&& 31)]) (rest := []) (wr := (sm_wX cI x0 x1 x2 x3 V S M)) (wn := (sm_wX cI x0 x1 x2 x3 V S M)) (st1 := [.int (sm_ushr (S a) ((V b) &&& 31))]) ⟨hx, hb, hml, hown, hts⟩ (c_shifted_6 l D (S a) ((V b) &&& 31)) (va_cwS 3 hts (sm_gS (i1 := 126) (i2 := 127) (i4 := 1) (i5 := 128) rfl rfl rfl rfl) rfl rfl rfl (by decide +kernel) ⟨Nat.le_of_ble_eq_true rfl, Nat.le_of_ble_eq_true rfl⟩) hK [] rfl hP hD hS hA [] [0, 1, 2, 3] rfl rfl (by decide) (by decide) (by decide) rfl hl.1 rfl (Nat.le_of_ble_eq_true rfl) dX0_shadowOf_174 ⟨Nat.le_of_ble_eq_true rfl, Nat.le_of_ble_eq_true rfl⟩ rfl rfl (fun H locs hP hD hS => ?_)
    refine sm_eqi (y := if S b &&& 31 = 0 then sm_ushr (S a) (V b &&& 31) else (-1)) (by simp [sm_bI, h159]) ?_
    exact sm_iret hx hb hrt hlocks hS hP hD dX0_shadowOf_177
  · refine lv_iconst (v := (-1)) hx hb dX0_shadowOf_162 (by decide) ?_
    refine lv_goto (tgt := 177) hx hb dX0_shadowOf_163 rfl ?_
    refine sm_eqi (y := if S b &&& 31 = 0 then sm_ushr (S a) (V b &&& 31) else (-1)) (by simp [sm_bI, h159]) ?_
    exact sm_iret hx hb hrt hlocks hS hP hD dX0_shadowOf_177
set_option maxHeartbeats 4000000 in
set_option maxRecDepth 100000 in
theorem c_shadowOf_7 (l : Launch) (D : va_G) (cI : ClassId) (x0 x1 x2 x3 : Nat) (V S M : Nat → Int32) (d a b : Nat) (hd : d < 16) (ha : a < 16) (hb' : b < 16) : sm_C l yX0_shadowOf wsX0_shadowOf ({ frames := 3, cells := 0, slots := 0, locals := 96 } : Room) D vwCl [(cI, .int)] [.ref x0, .int 7, .int (nI d), .int (nI a), .int (nI b)] (sm_wX cI x0 x1 x2 x3 V S M) (some (.int (if S b &&& 31 = 0 then S a >>> ((V b &&& 31) &&& 31) else (-1)))) (sm_wX cI x0 x1 x2 x3 V S M) := by
  refine sm_start (cc := cX0_shadowOf) (maxL := 9) (ret := some .int) (lv := [(0, .ref x0), (1, .int 7), (2, .int (nI d)), (3, .int (nI a)), (4, .int (nI b))]) (by decide) rfl (Nat.le_of_ble_eq_true rfl) rfl ?_
  intro p e s m below meth c hx hb hrt hts hown hlocks hml hin hK hP hD hS hA ls hl
  have hw := sm_hw hts
  have q1 := sm_tz_le (S a)
  have q2 := sm_tz_le (S b)
  have q3 := sm_tz_le (V b ||| S b)
  have q4 := sm_tz_le (V a ||| S a)
  have q5 := sm_tz_le (S a ||| S b)
  have q6 := sm_min_le (sm_tz (S a) + sm_tz (V b ||| S b)) (sm_tz (S b) + sm_tz (V a ||| S a))
  refine lv_aload_n hx hb dX0_shadowOf_0 rfl (lv_at hl 0 rfl) ?_
  refine va_get (D := D) (ci := 0) (v := .ref x1) (C := RX0) (T := TX0) (N := 3) hx hb hts inX0 hown hK hP 0 rfl rfl 0 (by decide) (hw 18 rfl) (fun _ h9 => h9) rfl dX0_shadowOf_1 ?_
  refine lv_iload_n hx hb dX0_shadowOf_4 rfl (lv_at hl 3 rfl) ?_
  refine va_iald hx hb hK hP 1 0 rfl rfl (vp_in_nI (n := a) (by omega) (by decide)) dX0_shadowOf_5 ?_
  refine sm_eqi (y := V a) (sm_cl V (n := a) (by omega)) ?_
  refine lv_istore (lv' := [(5, .int (V a)), (0, .ref x0), (1, .int 7), (2, .int (nI d)), (3, .int (nI a)), (4, .int (nI b))]) hx hb dX0_shadowOf_6 hl (by decide) rfl (fun ls hl => ?_)
  refine lv_aload_n hx hb dX0_shadowOf_8 rfl (lv_at hl 1 rfl) ?_
  refine va_get (D := D) (ci := 0) (v := .ref x1) (C := RX0) (T := TX0) (N := 3) hx hb hts inX0 hown hK hP 0 rfl rfl 0 (by decide) (hw 18 rfl) (fun _ h9 => h9) rfl dX0_shadowOf_9 ?_
  refine lv_iload hx hb dX0_shadowOf_12 (lv_at hl 5 rfl) ?_
  refine va_iald hx hb hK hP 1 0 rfl rfl (vp_in_nI (n := b) (by omega) (by decide)) dX0_shadowOf_14 ?_
  refine sm_eqi (y := V b) (sm_cl V (n := b) (by omega)) ?_
  refine lv_istore (lv' := [(6, .int (V b)), (5, .int (V a)), (0, .ref x0), (1, .int 7), (2, .int (nI d)), (3, .int (nI a)), (4, .int (nI b))]) hx hb dX0_shadowOf_15 hl (by decide) rfl (fun ls hl => ?_)
  refine lv_aload_n hx hb dX0_shadowOf_17 rfl (lv_at hl 2 rfl) ?_
  refine va_get (D := D) (ci := 0) (v := .ref x2) (C := RX0) (T := TX0) (N := 3) hx hb hts inX0 hown hK hP 0 rfl rfl 1 (by decide) (hw 19 rfl) (fun _ h9 => h9) rfl dX0_shadowOf_18 ?_
  refine lv_iload_n hx hb dX0_shadowOf_21 rfl (lv_at hl 5 rfl) ?_
  refine va_iald hx hb hK hP 2 0 rfl rfl (vp_in_nI (n := a) (by omega) (by decide)) dX0_shadowOf_22 ?_
  refine sm_eqi (y := S a) (sm_cl S (n := a) (by omega)) ?_
  refine lv_istore (lv' := [(7, .int (S a)), (6, .int (V b)), (5, .int (V a)), (0, .ref x0), (1, .int 7), (2, .int (nI d)), (3, .int (nI a)), (4, .int (nI b))]) hx hb dX0_shadowOf_23 hl (by decide) rfl (fun ls hl => ?_)
  refine lv_aload_n hx hb dX0_shadowOf_25 rfl (lv_at hl 3 rfl) ?_
  refine va_get (D := D) (ci := 0) (v := .ref x2) (C := RX0) (T := TX0) (N := 3) hx hb hts inX0 hown hK hP 0 rfl rfl 1 (by decide) (hw 19 rfl) (fun _ h9 => h9) rfl dX0_shadowOf_26 ?_
  refine lv_iload hx hb dX0_shadowOf_29 (lv_at hl 7 rfl) ?_
  refine va_iald hx hb hK hP 2 0 rfl rfl (vp_in_nI (n := b) (by omega) (by decide)) dX0_shadowOf_31 ?_
  refine sm_eqi (y := S b) (sm_cl S (n := b) (by omega)) ?_
  refine lv_istore (lv' := [(8, .int (S b)), (7, .int (S a)), (6, .int (V b)), (5, .int (V a)), (0, .ref x0), (1, .int 7), (2, .int (nI d)), (3, .int (nI a)), (4, .int (nI b))]) hx hb dX0_shadowOf_32 hl (by decide) rfl (fun ls hl => ?_)
  refine lv_iload_n hx hb dX0_shadowOf_34 rfl (lv_at hl 5 rfl) ?_
  refine lv_tableIn (off := 119) (tgt := 154) hx hb dX0_shadowOf_35 (by decide) (by decide) (by decide) (by decide) ?_
  refine lv_iload hx hb dX0_shadowOf_154 (lv_at hl 0 rfl) ?_
  refine lv_bipush (v := 31) hx hb dX0_shadowOf_156 (by decide) ?_
  refine lv_iand hx hb dX0_shadowOf_158 ?_
  refine lv_if_eq (tgt := 166) hx hb dX0_shadowOf_159 rfl (fun h159 => ?_) (fun h159 => ?_)
  · refine lv_iload_n hx hb dX0_shadowOf_166 rfl (lv_at hl 5 rfl) ?_
    refine lv_iload hx hb dX0_shadowOf_167 (lv_at hl 1 rfl) ?_
    refine lv_iload hx hb dX0_shadowOf_169 (lv_at hl 2 rfl) ?_
    refine lv_bipush (v := 31) hx hb dX0_shadowOf_171 (by decide) ?_
    refine lv_iand hx hb dX0_shadowOf_173 ?_
    refine sm_callS (As := [.int 7, .int (S a), .int ((V b) &&& 31)]) (rest := []) (wr := (sm_wX cI x0 x1 x2 x3 V S M)) (wn := (sm_wX cI x0 x1 x2 x3 V S M)) (st1 := [.int ((S a) >>> (((V b) &&& 31) &&& 31))]) ⟨hx, hb, hml, hown, hts⟩ (c_shifted_7 l D (S a) ((V b) &&& 31)) (va_cwS 3 hts (sm_gS (i1 := 126) (i2 := 127) (i4 := 1) (i5 := 128) rfl rfl rfl rfl) rfl rfl rfl (by decide +kernel) ⟨Nat.le_of_ble_eq_true rfl, Nat.le_of_ble_eq_true rfl⟩) hK [] rfl hP hD hS hA [] [0, 1, 2, 3] rfl rfl (by decide) (by decide) (by decide) rfl hl.1 rfl (Nat.le_of_ble_eq_true rfl) dX0_shadowOf_174 ⟨Nat.le_of_ble_eq_true rfl, Nat.le_of_ble_eq_true rfl⟩ rfl rfl (fun H locs hP hD hS => ?_)
    refine sm_eqi (y := if S b &&& 31 = 0 then S a >>> ((V b &&& 31) &&& 31) else (-1)) (by simp [sm_bI, h159]) ?_
    exact sm_iret hx hb hrt hlocks hS hP hD dX0_shadowOf_177
  · refine lv_iconst (v := (-1)) hx hb dX0_shadowOf_162 (by decide) ?_
    refine lv_goto (tgt := 177) hx hb dX0_shadowOf_163 rfl ?_
    refine sm_eqi (y := if S b &&& 31 = 0 then S a >>> ((V b &&& 31) &&& 31) else (-1)) (by simp [sm_bI, h159]) ?_
    exact sm_iret hx hb hrt hlocks hS hP hD dX0_shadowOf_177
set_option maxHeartbeats 4000000 in
set_option maxRecDepth 100000 in
theorem c_shadowOf_8 (l : Launch) (D : va_G) (cI : ClassId) (x0 x1 x2 x3 : Nat) (V S M : Nat → Int32) (d a b : Nat) (hd : d < 16) (ha : a < 16) (hb' : b < 16) : sm_C l yX0_shadowOf wsX0_shadowOf ({ frames := 3, cells := 0, slots := 0, locals := 96 } : Room) D vwCl [(cI, .int)] [.ref x0, .int 8, .int (nI d), .int (nI a), .int (nI b)] (sm_wX cI x0 x1 x2 x3 V S M) (some (.int (sm_fr (sm_min (sm_tz (S a) + sm_tz (V b ||| S b)) (sm_tz (S b) + sm_tz (V a ||| S a)))))) (sm_wX cI x0 x1 x2 x3 V S M) := by
  refine sm_start (cc := cX0_shadowOf) (maxL := 9) (ret := some .int) (lv := [(0, .ref x0), (1, .int 8), (2, .int (nI d)), (3, .int (nI a)), (4, .int (nI b))]) (by decide) rfl (Nat.le_of_ble_eq_true rfl) rfl ?_
  intro p e s m below meth c hx hb hrt hts hown hlocks hml hin hK hP hD hS hA ls hl
  have hw := sm_hw hts
  have q1 := sm_tz_le (S a)
  have q2 := sm_tz_le (S b)
  have q3 := sm_tz_le (V b ||| S b)
  have q4 := sm_tz_le (V a ||| S a)
  have q5 := sm_tz_le (S a ||| S b)
  have q6 := sm_min_le (sm_tz (S a) + sm_tz (V b ||| S b)) (sm_tz (S b) + sm_tz (V a ||| S a))
  refine lv_aload_n hx hb dX0_shadowOf_0 rfl (lv_at hl 0 rfl) ?_
  refine va_get (D := D) (ci := 0) (v := .ref x1) (C := RX0) (T := TX0) (N := 3) hx hb hts inX0 hown hK hP 0 rfl rfl 0 (by decide) (hw 18 rfl) (fun _ h9 => h9) rfl dX0_shadowOf_1 ?_
  refine lv_iload_n hx hb dX0_shadowOf_4 rfl (lv_at hl 3 rfl) ?_
  refine va_iald hx hb hK hP 1 0 rfl rfl (vp_in_nI (n := a) (by omega) (by decide)) dX0_shadowOf_5 ?_
  refine sm_eqi (y := V a) (sm_cl V (n := a) (by omega)) ?_
  refine lv_istore (lv' := [(5, .int (V a)), (0, .ref x0), (1, .int 8), (2, .int (nI d)), (3, .int (nI a)), (4, .int (nI b))]) hx hb dX0_shadowOf_6 hl (by decide) rfl (fun ls hl => ?_)
  refine lv_aload_n hx hb dX0_shadowOf_8 rfl (lv_at hl 1 rfl) ?_
  refine va_get (D := D) (ci := 0) (v := .ref x1) (C := RX0) (T := TX0) (N := 3) hx hb hts inX0 hown hK hP 0 rfl rfl 0 (by decide) (hw 18 rfl) (fun _ h9 => h9) rfl dX0_shadowOf_9 ?_
  refine lv_iload hx hb dX0_shadowOf_12 (lv_at hl 5 rfl) ?_
  refine va_iald hx hb hK hP 1 0 rfl rfl (vp_in_nI (n := b) (by omega) (by decide)) dX0_shadowOf_14 ?_
  refine sm_eqi (y := V b) (sm_cl V (n := b) (by omega)) ?_
  refine lv_istore (lv' := [(6, .int (V b)), (5, .int (V a)), (0, .ref x0), (1, .int 8), (2, .int (nI d)), (3, .int (nI a)), (4, .int (nI b))]) hx hb dX0_shadowOf_15 hl (by decide) rfl (fun ls hl => ?_)
  refine lv_aload_n hx hb dX0_shadowOf_17 rfl (lv_at hl 2 rfl) ?_
  refine va_get (D := D) (ci := 0) (v := .ref x2) (C := RX0) (T := TX0) (N := 3) hx hb hts inX0 hown hK hP 0 rfl rfl 1 (by decide) (hw 19 rfl) (fun _ h9 => h9) rfl dX0_shadowOf_18 ?_
  refine lv_iload_n hx hb dX0_shadowOf_21 rfl (lv_at hl 5 rfl) ?_
  refine va_iald hx hb hK hP 2 0 rfl rfl (vp_in_nI (n := a) (by omega) (by decide)) dX0_shadowOf_22 ?_
  refine sm_eqi (y := S a) (sm_cl S (n := a) (by omega)) ?_
  refine lv_istore (lv' := [(7, .int (S a)), (6, .int (V b)), (5, .int (V a)), (0, .ref x0), (1, .int 8), (2, .int (nI d)), (3, .int (nI a)), (4, .int (nI b))]) hx hb dX0_shadowOf_23 hl (by decide) rfl (fun ls hl => ?_)
  refine lv_aload_n hx hb dX0_shadowOf_25 rfl (lv_at hl 3 rfl) ?_
  refine va_get (D := D) (ci := 0) (v := .ref x2) (C := RX0) (T := TX0) (N := 3) hx hb hts inX0 hown hK hP 0 rfl rfl 1 (by decide) (hw 19 rfl) (fun _ h9 => h9) rfl dX0_shadowOf_26 ?_
  refine lv_iload hx hb dX0_shadowOf_29 (lv_at hl 7 rfl) ?_
  refine va_iald hx hb hK hP 2 0 rfl rfl (vp_in_nI (n := b) (by omega) (by decide)) dX0_shadowOf_31 ?_
  refine sm_eqi (y := S b) (sm_cl S (n := b) (by omega)) ?_
  refine lv_istore (lv' := [(8, .int (S b)), (7, .int (S a)), (6, .int (V b)), (5, .int (V a)), (0, .ref x0), (1, .int 8), (2, .int (nI d)), (3, .int (nI a)), (4, .int (nI b))]) hx hb dX0_shadowOf_32 hl (by decide) rfl (fun ls hl => ?_)
  refine lv_iload_n hx hb dX0_shadowOf_34 rfl (lv_at hl 5 rfl) ?_
  refine lv_tableIn (off := 143) (tgt := 178) hx hb dX0_shadowOf_35 (by decide) (by decide) (by decide) (by decide) ?_
  refine lv_iload hx hb dX0_shadowOf_178 (lv_at hl 1 rfl) ?_
  refine lv_iload hx hb dX0_shadowOf_180 (lv_at hl 2 rfl) ?_
  refine lv_iload hx hb dX0_shadowOf_182 (lv_at hl 0 rfl) ?_
  refine sm_callS (As := [.int (S a), .int (V b), .int (S b)]) (rest := []) (wr := (sm_wX cI x0 x1 x2 x3 V S M)) (wn := (sm_wX cI x0 x1 x2 x3 V S M)) (st1 := [.int (nI (sm_tz (S a) + sm_tz ((V b) ||| (S b))))]) ⟨hx, hb, hml, hown, hts⟩ (c_placeLostBy l D (S a) (V b) (S b)) (va_cwS 3 hts (sm_gS (i1 := 149) (i2 := 150) (i4 := 1) (i5 := 151) rfl rfl rfl rfl) rfl rfl rfl (by decide +kernel) ⟨Nat.le_of_ble_eq_true rfl, Nat.le_of_ble_eq_true rfl⟩) hK [] rfl hP hD hS hA [] [0, 1, 2, 3] rfl rfl (by decide) (by decide) (by decide) rfl hl.1 rfl (Nat.le_of_ble_eq_true rfl) dX0_shadowOf_184 ⟨Nat.le_of_ble_eq_true rfl, Nat.le_of_ble_eq_true rfl⟩ rfl rfl (fun H locs hP hD hS => ?_)
  refine lv_iload hx hb dX0_shadowOf_187 (lv_at hl 0 rfl) ?_
  refine lv_iload hx hb dX0_shadowOf_189 (lv_at hl 3 rfl) ?_
  refine lv_iload hx hb dX0_shadowOf_191 (lv_at hl 1 rfl) ?_
  refine sm_callS (As := [.int (S b), .int (V a), .int (S a)]) (rest := [.int (nI (sm_tz (S a) + sm_tz ((V b) ||| (S b))))]) (wr := (sm_wX cI x0 x1 x2 x3 V S M)) (wn := (sm_wX cI x0 x1 x2 x3 V S M)) (st1 := [.int (nI (sm_tz (S b) + sm_tz ((V a) ||| (S a)))), .int (nI (sm_tz (S a) + sm_tz ((V b) ||| (S b))))]) ⟨hx, hb, hml, hown, hts⟩ (c_placeLostBy l D (S b) (V a) (S a)) (va_cwS 3 hts (sm_gS (i1 := 149) (i2 := 150) (i4 := 1) (i5 := 151) rfl rfl rfl rfl) rfl rfl rfl (by decide +kernel) ⟨Nat.le_of_ble_eq_true rfl, Nat.le_of_ble_eq_true rfl⟩) hK [] rfl hP hD hS hA [] [0, 1, 2, 3] rfl rfl (by decide) (by decide) (by decide) rfl hl.1 rfl (Nat.le_of_ble_eq_true rfl) dX0_shadowOf_193 ⟨Nat.le_of_ble_eq_true rfl, Nat.le_of_ble_eq_true rfl⟩ rfl rfl (fun H locs hP hD hS => ?_)
  refine va_mmin hx hb (hml.trans hl.1.symm) hown (hw 152 rfl) (hw 153 rfl) (hw 9 rfl) (hw 154 rfl) (Nat.le_of_ble_eq_true rfl) (Nat.le_of_ble_eq_true rfl) (Nat.le_of_ble_eq_true rfl) (Nat.le_of_ble_eq_true rfl) dX0_shadowOf_196 ?_
  refine sm_eqi (y := nI (sm_min (sm_tz (S a) + sm_tz ((V b) ||| (S b))) (sm_tz (S b) + sm_tz ((V a) ||| (S a))))) (sm_minI (sm_tz (S a) + sm_tz ((V b) ||| (S b))) (sm_tz (S b) + sm_tz ((V a) ||| (S a))) (by omega) (by omega)) ?_
  refine sm_callS (As := [.int (nI (sm_min (sm_tz (S a) + sm_tz ((V b) ||| (S b))) (sm_tz (S b) + sm_tz ((V a) ||| (S a)))))]) (rest := []) (wr := (sm_wX cI x0 x1 x2 x3 V S M)) (wn := (sm_wX cI x0 x1 x2 x3 V S M)) (st1 := [.int (sm_fr (sm_min (sm_tz (S a) + sm_tz ((V b) ||| (S b))) (sm_tz (S b) + sm_tz ((V a) ||| (S a)))))]) ⟨hx, hb, hml, hown, hts⟩ (c_fromPlaceOn l D (sm_min (sm_tz (S a) + sm_tz ((V b) ||| (S b))) (sm_tz (S b) + sm_tz ((V a) ||| (S a)))) (by omega)) (va_cwS 1 hts (sm_gS (i1 := 146) (i2 := 147) (i4 := 1) (i5 := 148) rfl rfl rfl rfl) rfl rfl rfl (by decide +kernel) ⟨Nat.le_of_ble_eq_true rfl, Nat.le_of_ble_eq_true rfl⟩) hK [] rfl hP hD hS hA [] [0, 1, 2, 3] rfl rfl (by decide) (by decide) (by decide) rfl hl.1 rfl (Nat.le_of_ble_eq_true rfl) dX0_shadowOf_199 ⟨Nat.le_of_ble_eq_true rfl, Nat.le_of_ble_eq_true rfl⟩ rfl rfl (fun H locs hP hD hS => ?_)
  refine sm_eqi (y := sm_fr (sm_min (sm_tz (S a) + sm_tz (V b ||| S b)) (sm_tz (S b) + sm_tz (V a ||| S a)))) (rfl) ?_
  exact sm_iret hx hb hrt hlocks hS hP hD dX0_shadowOf_202
set_option maxHeartbeats 4000000 in
set_option maxRecDepth 100000 in
theorem c_shadowOf_9 (l : Launch) (D : va_G) (cI : ClassId) (x0 x1 x2 x3 : Nat) (V S M : Nat → Int32) (d a b : Nat) (hd : d < 16) (ha : a < 16) (hb' : b < 16) : sm_C l yX0_shadowOf wsX0_shadowOf ({ frames := 3, cells := 0, slots := 0, locals := 96 } : Room) D vwCl [(cI, .int)] [.ref x0, .int 9, .int (nI d), .int (nI a), .int (nI b)] (sm_wX cI x0 x1 x2 x3 V S M) (some (.int (sm_bI (decide (sm_le (V a) (S a) < sm_he (V b) (S b)) && decide (sm_le (V b) (S b) ≤ sm_he (V a) (S a)))))) (sm_wX cI x0 x1 x2 x3 V S M) := by
  refine sm_start (cc := cX0_shadowOf) (maxL := 9) (ret := some .int) (lv := [(0, .ref x0), (1, .int 9), (2, .int (nI d)), (3, .int (nI a)), (4, .int (nI b))]) (by decide) rfl (Nat.le_of_ble_eq_true rfl) rfl ?_
  intro p e s m below meth c hx hb hrt hts hown hlocks hml hin hK hP hD hS hA ls hl
  have hw := sm_hw hts
  have q1 := sm_tz_le (S a)
  have q2 := sm_tz_le (S b)
  have q3 := sm_tz_le (V b ||| S b)
  have q4 := sm_tz_le (V a ||| S a)
  have q5 := sm_tz_le (S a ||| S b)
  have q6 := sm_min_le (sm_tz (S a) + sm_tz (V b ||| S b)) (sm_tz (S b) + sm_tz (V a ||| S a))
  refine lv_aload_n hx hb dX0_shadowOf_0 rfl (lv_at hl 0 rfl) ?_
  refine va_get (D := D) (ci := 0) (v := .ref x1) (C := RX0) (T := TX0) (N := 3) hx hb hts inX0 hown hK hP 0 rfl rfl 0 (by decide) (hw 18 rfl) (fun _ h9 => h9) rfl dX0_shadowOf_1 ?_
  refine lv_iload_n hx hb dX0_shadowOf_4 rfl (lv_at hl 3 rfl) ?_
  refine va_iald hx hb hK hP 1 0 rfl rfl (vp_in_nI (n := a) (by omega) (by decide)) dX0_shadowOf_5 ?_
  refine sm_eqi (y := V a) (sm_cl V (n := a) (by omega)) ?_
  refine lv_istore (lv' := [(5, .int (V a)), (0, .ref x0), (1, .int 9), (2, .int (nI d)), (3, .int (nI a)), (4, .int (nI b))]) hx hb dX0_shadowOf_6 hl (by decide) rfl (fun ls hl => ?_)
  refine lv_aload_n hx hb dX0_shadowOf_8 rfl (lv_at hl 1 rfl) ?_
  refine va_get (D := D) (ci := 0) (v := .ref x1) (C := RX0) (T := TX0) (N := 3) hx hb hts inX0 hown hK hP 0 rfl rfl 0 (by decide) (hw 18 rfl) (fun _ h9 => h9) rfl dX0_shadowOf_9 ?_
  refine lv_iload hx hb dX0_shadowOf_12 (lv_at hl 5 rfl) ?_
  refine va_iald hx hb hK hP 1 0 rfl rfl (vp_in_nI (n := b) (by omega) (by decide)) dX0_shadowOf_14 ?_
  refine sm_eqi (y := V b) (sm_cl V (n := b) (by omega)) ?_
  refine lv_istore (lv' := [(6, .int (V b)), (5, .int (V a)), (0, .ref x0), (1, .int 9), (2, .int (nI d)), (3, .int (nI a)), (4, .int (nI b))]) hx hb dX0_shadowOf_15 hl (by decide) rfl (fun ls hl => ?_)
  refine lv_aload_n hx hb dX0_shadowOf_17 rfl (lv_at hl 2 rfl) ?_
  refine va_get (D := D) (ci := 0) (v := .ref x2) (C := RX0) (T := TX0) (N := 3) hx hb hts inX0 hown hK hP 0 rfl rfl 1 (by decide) (hw 19 rfl) (fun _ h9 => h9) rfl dX0_shadowOf_18 ?_
  refine lv_iload_n hx hb dX0_shadowOf_21 rfl (lv_at hl 5 rfl) ?_
  refine va_iald hx hb hK hP 2 0 rfl rfl (vp_in_nI (n := a) (by omega) (by decide)) dX0_shadowOf_22 ?_
  refine sm_eqi (y := S a) (sm_cl S (n := a) (by omega)) ?_
  refine lv_istore (lv' := [(7, .int (S a)), (6, .int (V b)), (5, .int (V a)), (0, .ref x0), (1, .int 9), (2, .int (nI d)), (3, .int (nI a)), (4, .int (nI b))]) hx hb dX0_shadowOf_23 hl (by decide) rfl (fun ls hl => ?_)
  refine lv_aload_n hx hb dX0_shadowOf_25 rfl (lv_at hl 3 rfl) ?_
  refine va_get (D := D) (ci := 0) (v := .ref x2) (C := RX0) (T := TX0) (N := 3) hx hb hts inX0 hown hK hP 0 rfl rfl 1 (by decide) (hw 19 rfl) (fun _ h9 => h9) rfl dX0_shadowOf_26 ?_
  refine lv_iload hx hb dX0_shadowOf_29 (lv_at hl 7 rfl) ?_
  refine va_iald hx hb hK hP 2 0 rfl rfl (vp_in_nI (n := b) (by omega) (by decide)) dX0_shadowOf_31 ?_
  refine sm_eqi (y := S b) (sm_cl S (n := b) (by omega)) ?_
  refine lv_istore (lv' := [(8, .int (S b)), (7, .int (S a)), (6, .int (V b)), (5, .int (V a)), (0, .ref x0), (1, .int 9), (2, .int (nI d)), (3, .int (nI a)), (4, .int (nI b))]) hx hb dX0_shadowOf_32 hl (by decide) rfl (fun ls hl => ?_)
  refine lv_iload_n hx hb dX0_shadowOf_34 rfl (lv_at hl 5 rfl) ?_
  refine lv_tableIn (off := 168) (tgt := 203) hx hb dX0_shadowOf_35 (by decide) (by decide) (by decide) (by decide) ?_
  refine lv_iload hx hb dX0_shadowOf_203 (lv_at hl 3 rfl) ?_
  refine lv_iload hx hb dX0_shadowOf_205 (lv_at hl 1 rfl) ?_
  refine lv_iload hx hb dX0_shadowOf_207 (lv_at hl 2 rfl) ?_
  refine lv_iload hx hb dX0_shadowOf_209 (lv_at hl 0 rfl) ?_
  refine sm_callS (As := [.int (V a), .int (S a), .int (V b), .int (S b)]) (rest := []) (wr := (sm_wX cI x0 x1 x2 x3 V S M)) (wn := (sm_wX cI x0 x1 x2 x3 V S M)) (st1 := [.int (sm_bI (decide (sm_le (V a) (S a) < sm_he (V b) (S b)) && decide (sm_le (V b) (S b) ≤ sm_he (V a) (S a))))]) ⟨hx, hb, hml, hown, hts⟩ (c_orderHangs l D (V a) (S a) (V b) (S b)) (va_cwS 4 hts (sm_gS (i1 := 155) (i2 := 156) (i4 := 1) (i5 := 157) rfl rfl rfl rfl) rfl rfl rfl (by decide +kernel) ⟨Nat.le_of_ble_eq_true rfl, Nat.le_of_ble_eq_true rfl⟩) hK [] rfl hP hD hS hA [] [0, 1, 2, 3] rfl rfl (by decide) (by decide) (by decide) rfl hl.1 rfl (Nat.le_of_ble_eq_true rfl) dX0_shadowOf_211 ⟨Nat.le_of_ble_eq_true rfl, Nat.le_of_ble_eq_true rfl⟩ rfl rfl (fun H locs hP hD hS => ?_)
  refine sm_callS (As := [.int (sm_bI (decide (sm_le (V a) (S a) < sm_he (V b) (S b)) && decide (sm_le (V b) (S b) ≤ sm_he (V a) (S a))))]) (rest := []) (wr := (sm_wX cI x0 x1 x2 x3 V S M)) (wn := (sm_wX cI x0 x1 x2 x3 V S M)) (st1 := [.int (sm_bI (decide (sm_le (V a) (S a) < sm_he (V b) (S b)) && decide (sm_le (V b) (S b) ≤ sm_he (V a) (S a))))]) ⟨hx, hb, hml, hown, hts⟩ (c_bit l D (decide (sm_le (V a) (S a) < sm_he (V b) (S b)) && decide (sm_le (V b) (S b) ≤ sm_he (V a) (S a)))) (va_cwS 1 hts (sm_gS (i1 := 129) (i2 := 130) (i4 := 1) (i5 := 131) rfl rfl rfl rfl) rfl rfl rfl (by decide +kernel) ⟨Nat.le_of_ble_eq_true rfl, Nat.le_of_ble_eq_true rfl⟩) hK [] rfl hP hD hS hA [] [0, 1, 2, 3] rfl rfl (by decide) (by decide) (by decide) rfl hl.1 rfl (Nat.le_of_ble_eq_true rfl) dX0_shadowOf_214 ⟨Nat.le_of_ble_eq_true rfl, Nat.le_of_ble_eq_true rfl⟩ rfl rfl (fun H locs hP hD hS => ?_)
  exact sm_iret hx hb hrt hlocks hS hP hD dX0_shadowOf_217
set_option maxHeartbeats 4000000 in
set_option maxRecDepth 100000 in
theorem c_shadowOf_10 (l : Launch) (D : va_G) (cI : ClassId) (x0 x1 x2 x3 : Nat) (V S M : Nat → Int32) (d a b : Nat) (hd : d < 16) (ha : a < 16) (hb' : b < 16) : sm_C l yX0_shadowOf wsX0_shadowOf ({ frames := 3, cells := 0, slots := 0, locals := 96 } : Room) D vwCl [(cI, .int)] [.ref x0, .int 10, .int (nI d), .int (nI a), .int (nI b)] (sm_wX cI x0 x1 x2 x3 V S M) (some (.int (sm_bI (decide (sm_le (V a ^^^ (-2147483648)) (S a) < sm_he (V b ^^^ (-2147483648)) (S b)) && decide (sm_le (V b ^^^ (-2147483648)) (S b) ≤ sm_he (V a ^^^ (-2147483648)) (S a)))))) (sm_wX cI x0 x1 x2 x3 V S M) := by
  refine sm_start (cc := cX0_shadowOf) (maxL := 9) (ret := some .int) (lv := [(0, .ref x0), (1, .int 10), (2, .int (nI d)), (3, .int (nI a)), (4, .int (nI b))]) (by decide) rfl (Nat.le_of_ble_eq_true rfl) rfl ?_
  intro p e s m below meth c hx hb hrt hts hown hlocks hml hin hK hP hD hS hA ls hl
  have hw := sm_hw hts
  have q1 := sm_tz_le (S a)
  have q2 := sm_tz_le (S b)
  have q3 := sm_tz_le (V b ||| S b)
  have q4 := sm_tz_le (V a ||| S a)
  have q5 := sm_tz_le (S a ||| S b)
  have q6 := sm_min_le (sm_tz (S a) + sm_tz (V b ||| S b)) (sm_tz (S b) + sm_tz (V a ||| S a))
  refine lv_aload_n hx hb dX0_shadowOf_0 rfl (lv_at hl 0 rfl) ?_
  refine va_get (D := D) (ci := 0) (v := .ref x1) (C := RX0) (T := TX0) (N := 3) hx hb hts inX0 hown hK hP 0 rfl rfl 0 (by decide) (hw 18 rfl) (fun _ h9 => h9) rfl dX0_shadowOf_1 ?_
  refine lv_iload_n hx hb dX0_shadowOf_4 rfl (lv_at hl 3 rfl) ?_
  refine va_iald hx hb hK hP 1 0 rfl rfl (vp_in_nI (n := a) (by omega) (by decide)) dX0_shadowOf_5 ?_
  refine sm_eqi (y := V a) (sm_cl V (n := a) (by omega)) ?_
  refine lv_istore (lv' := [(5, .int (V a)), (0, .ref x0), (1, .int 10), (2, .int (nI d)), (3, .int (nI a)), (4, .int (nI b))]) hx hb dX0_shadowOf_6 hl (by decide) rfl (fun ls hl => ?_)
  refine lv_aload_n hx hb dX0_shadowOf_8 rfl (lv_at hl 1 rfl) ?_
  refine va_get (D := D) (ci := 0) (v := .ref x1) (C := RX0) (T := TX0) (N := 3) hx hb hts inX0 hown hK hP 0 rfl rfl 0 (by decide) (hw 18 rfl) (fun _ h9 => h9) rfl dX0_shadowOf_9 ?_
  refine lv_iload hx hb dX0_shadowOf_12 (lv_at hl 5 rfl) ?_
  refine va_iald hx hb hK hP 1 0 rfl rfl (vp_in_nI (n := b) (by omega) (by decide)) dX0_shadowOf_14 ?_
  refine sm_eqi (y := V b) (sm_cl V (n := b) (by omega)) ?_
  refine lv_istore (lv' := [(6, .int (V b)), (5, .int (V a)), (0, .ref x0), (1, .int 10), (2, .int (nI d)), (3, .int (nI a)), (4, .int (nI b))]) hx hb dX0_shadowOf_15 hl (by decide) rfl (fun ls hl => ?_)
  refine lv_aload_n hx hb dX0_shadowOf_17 rfl (lv_at hl 2 rfl) ?_
  refine va_get (D := D) (ci := 0) (v := .ref x2) (C := RX0) (T := TX0) (N := 3) hx hb hts inX0 hown hK hP 0 rfl rfl 1 (by decide) (hw 19 rfl) (fun _ h9 => h9) rfl dX0_shadowOf_18 ?_
  refine lv_iload_n hx hb dX0_shadowOf_21 rfl (lv_at hl 5 rfl) ?_
  refine va_iald hx hb hK hP 2 0 rfl rfl (vp_in_nI (n := a) (by omega) (by decide)) dX0_shadowOf_22 ?_
  refine sm_eqi (y := S a) (sm_cl S (n := a) (by omega)) ?_
  refine lv_istore (lv' := [(7, .int (S a)), (6, .int (V b)), (5, .int (V a)), (0, .ref x0), (1, .int 10), (2, .int (nI d)), (3, .int (nI a)), (4, .int (nI b))]) hx hb dX0_shadowOf_23 hl (by decide) rfl (fun ls hl => ?_)
  refine lv_aload_n hx hb dX0_shadowOf_25 rfl (lv_at hl 3 rfl) ?_
  refine va_get (D := D) (ci := 0) (v := .ref x2) (C := RX0) (T := TX0) (N := 3) hx hb hts inX0 hown hK hP 0 rfl rfl 1 (by decide) (hw 19 rfl) (fun _ h9 => h9) rfl dX0_shadowOf_26 ?_
  refine lv_iload hx hb dX0_shadowOf_29 (lv_at hl 7 rfl) ?_
  refine va_iald hx hb hK hP 2 0 rfl rfl (vp_in_nI (n := b) (by omega) (by decide)) dX0_shadowOf_31 ?_
  refine sm_eqi (y := S b) (sm_cl S (n := b) (by omega)) ?_
  refine lv_istore (lv' := [(8, .int (S b)), (7, .int (S a)), (6, .int (V b)), (5, .int (V a)), (0, .ref x0), (1, .int 10), (2, .int (nI d)), (3, .int (nI a)), (4, .int (nI b))]) hx hb dX0_shadowOf_32 hl (by decide) rfl (fun ls hl => ?_)
  refine lv_iload_n hx hb dX0_shadowOf_34 rfl (lv_at hl 5 rfl) ?_
  refine lv_tableIn (off := 183) (tgt := 218) hx hb dX0_shadowOf_35 (by decide) (by decide) (by decide) (by decide) ?_
  refine lv_iload hx hb dX0_shadowOf_218 (lv_at hl 3 rfl) ?_
  refine sm_callS (As := [.int (V a)]) (rest := []) (wr := (sm_wX cI x0 x1 x2 x3 V S M)) (wn := (sm_wX cI x0 x1 x2 x3 V S M)) (st1 := [.int ((V a) ^^^ (-2147483648))]) ⟨hx, hb, hml, hown, hts⟩ (c_signTurned l D (V a)) (va_cwS 1 hts (sm_gS (i1 := 132) (i2 := 133) (i4 := 1) (i5 := 134) rfl rfl rfl rfl) rfl rfl rfl (by decide +kernel) ⟨Nat.le_of_ble_eq_true rfl, Nat.le_of_ble_eq_true rfl⟩) hK [] rfl hP hD hS hA [] [0, 1, 2, 3] rfl rfl (by decide) (by decide) (by decide) rfl hl.1 rfl (Nat.le_of_ble_eq_true rfl) dX0_shadowOf_220 ⟨Nat.le_of_ble_eq_true rfl, Nat.le_of_ble_eq_true rfl⟩ rfl rfl (fun H locs hP hD hS => ?_)
  refine lv_iload hx hb dX0_shadowOf_223 (lv_at hl 1 rfl) ?_
  refine lv_iload hx hb dX0_shadowOf_225 (lv_at hl 2 rfl) ?_
  refine sm_callS (As := [.int (V b)]) (rest := [.int (S a), .int ((V a) ^^^ (-2147483648))]) (wr := (sm_wX cI x0 x1 x2 x3 V S M)) (wn := (sm_wX cI x0 x1 x2 x3 V S M)) (st1 := [.int ((V b) ^^^ (-2147483648)), .int (S a), .int ((V a) ^^^ (-2147483648))]) ⟨hx, hb, hml, hown, hts⟩ (c_signTurned l D (V b)) (va_cwS 1 hts (sm_gS (i1 := 132) (i2 := 133) (i4 := 1) (i5 := 134) rfl rfl rfl rfl) rfl rfl rfl (by decide +kernel) ⟨Nat.le_of_ble_eq_true rfl, Nat.le_of_ble_eq_true rfl⟩) hK [] rfl hP hD hS hA [] [0, 1, 2, 3] rfl rfl (by decide) (by decide) (by decide) rfl hl.1 rfl (Nat.le_of_ble_eq_true rfl) dX0_shadowOf_227 ⟨Nat.le_of_ble_eq_true rfl, Nat.le_of_ble_eq_true rfl⟩ rfl rfl (fun H locs hP hD hS => ?_)
  refine lv_iload hx hb dX0_shadowOf_230 (lv_at hl 0 rfl) ?_
  refine sm_callS (As := [.int ((V a) ^^^ (-2147483648)), .int (S a), .int ((V b) ^^^ (-2147483648)), .int (S b)]) (rest := []) (wr := (sm_wX cI x0 x1 x2 x3 V S M)) (wn := (sm_wX cI x0 x1 x2 x3 V S M)) (st1 := [.int (sm_bI (decide (sm_le ((V a) ^^^ (-2147483648)) (S a) < sm_he ((V b) ^^^ (-2147483648)) (S b)) && decide (sm_le ((V b) ^^^ (-2147483648)) (S b) ≤ sm_he ((V a) ^^^ (-2147483648)) (S a))))]) ⟨hx, hb, hml, hown, hts⟩ (c_orderHangs l D ((V a) ^^^ (-2147483648)) (S a) ((V b) ^^^ (-2147483648)) (S b)) (va_cwS 4 hts (sm_gS (i1 := 155) (i2 := 156) (i4 := 1) (i5 := 157) rfl rfl rfl rfl) rfl rfl rfl (by decide +kernel) ⟨Nat.le_of_ble_eq_true rfl, Nat.le_of_ble_eq_true rfl⟩) hK [] rfl hP hD hS hA [] [0, 1, 2, 3] rfl rfl (by decide) (by decide) (by decide) rfl hl.1 rfl (Nat.le_of_ble_eq_true rfl) dX0_shadowOf_232 ⟨Nat.le_of_ble_eq_true rfl, Nat.le_of_ble_eq_true rfl⟩ rfl rfl (fun H locs hP hD hS => ?_)
  refine sm_callS (As := [.int (sm_bI (decide (sm_le ((V a) ^^^ (-2147483648)) (S a) < sm_he ((V b) ^^^ (-2147483648)) (S b)) && decide (sm_le ((V b) ^^^ (-2147483648)) (S b) ≤ sm_he ((V a) ^^^ (-2147483648)) (S a))))]) (rest := []) (wr := (sm_wX cI x0 x1 x2 x3 V S M)) (wn := (sm_wX cI x0 x1 x2 x3 V S M)) (st1 := [.int (sm_bI (decide (sm_le ((V a) ^^^ (-2147483648)) (S a) < sm_he ((V b) ^^^ (-2147483648)) (S b)) && decide (sm_le ((V b) ^^^ (-2147483648)) (S b) ≤ sm_he ((V a) ^^^ (-2147483648)) (S a))))]) ⟨hx, hb, hml, hown, hts⟩ (c_bit l D (decide (sm_le ((V a) ^^^ (-2147483648)) (S a) < sm_he ((V b) ^^^ (-2147483648)) (S b)) && decide (sm_le ((V b) ^^^ (-2147483648)) (S b) ≤ sm_he ((V a) ^^^ (-2147483648)) (S a)))) (va_cwS 1 hts (sm_gS (i1 := 129) (i2 := 130) (i4 := 1) (i5 := 131) rfl rfl rfl rfl) rfl rfl rfl (by decide +kernel) ⟨Nat.le_of_ble_eq_true rfl, Nat.le_of_ble_eq_true rfl⟩) hK [] rfl hP hD hS hA [] [0, 1, 2, 3] rfl rfl (by decide) (by decide) (by decide) rfl hl.1 rfl (Nat.le_of_ble_eq_true rfl) dX0_shadowOf_235 ⟨Nat.le_of_ble_eq_true rfl, Nat.le_of_ble_eq_true rfl⟩ rfl rfl (fun H locs hP hD hS => ?_)
  refine sm_eqi (y := sm_bI (decide (sm_le (V a ^^^ (-2147483648)) (S a) < sm_he (V b ^^^ (-2147483648)) (S b)) && decide (sm_le (V b ^^^ (-2147483648)) (S b) ≤ sm_he (V a ^^^ (-2147483648)) (S a)))) (rfl) ?_
  exact sm_iret hx hb hrt hlocks hS hP hD dX0_shadowOf_238
set_option maxHeartbeats 4000000 in
set_option maxRecDepth 100000 in
theorem c_shadowOf_11 (l : Launch) (D : va_G) (cI : ClassId) (x0 x1 x2 x3 : Nat) (V S M : Nat → Int32) (d a b : Nat) (hd : d < 16) (ha : a < 16) (hb' : b < 16) : sm_C l yX0_shadowOf wsX0_shadowOf ({ frames := 3, cells := 0, slots := 0, locals := 96 } : Room) D vwCl [(cI, .int)] [.ref x0, .int 11, .int (nI d), .int (nI a), .int (nI b)] (sm_wX cI x0 x1 x2 x3 V S M) (some (.int (sm_bI (!decide (S a ||| S b = 0) && decide ((V a ^^^ V b) &&& ((S a ||| S b) ^^^ (-1)) = 0))))) (sm_wX cI x0 x1 x2 x3 V S M) := by
  refine sm_start (cc := cX0_shadowOf) (maxL := 9) (ret := some .int) (lv := [(0, .ref x0), (1, .int 11), (2, .int (nI d)), (3, .int (nI a)), (4, .int (nI b))]) (by decide) rfl (Nat.le_of_ble_eq_true rfl) rfl ?_
  intro p e s m below meth c hx hb hrt hts hown hlocks hml hin hK hP hD hS hA ls hl
  have hw := sm_hw hts
  have q1 := sm_tz_le (S a)
  have q2 := sm_tz_le (S b)
  have q3 := sm_tz_le (V b ||| S b)
  have q4 := sm_tz_le (V a ||| S a)
  have q5 := sm_tz_le (S a ||| S b)
  have q6 := sm_min_le (sm_tz (S a) + sm_tz (V b ||| S b)) (sm_tz (S b) + sm_tz (V a ||| S a))
  refine lv_aload_n hx hb dX0_shadowOf_0 rfl (lv_at hl 0 rfl) ?_
  refine va_get (D := D) (ci := 0) (v := .ref x1) (C := RX0) (T := TX0) (N := 3) hx hb hts inX0 hown hK hP 0 rfl rfl 0 (by decide) (hw 18 rfl) (fun _ h9 => h9) rfl dX0_shadowOf_1 ?_
  refine lv_iload_n hx hb dX0_shadowOf_4 rfl (lv_at hl 3 rfl) ?_
  refine va_iald hx hb hK hP 1 0 rfl rfl (vp_in_nI (n := a) (by omega) (by decide)) dX0_shadowOf_5 ?_
  refine sm_eqi (y := V a) (sm_cl V (n := a) (by omega)) ?_
  refine lv_istore (lv' := [(5, .int (V a)), (0, .ref x0), (1, .int 11), (2, .int (nI d)), (3, .int (nI a)), (4, .int (nI b))]) hx hb dX0_shadowOf_6 hl (by decide) rfl (fun ls hl => ?_)
  refine lv_aload_n hx hb dX0_shadowOf_8 rfl (lv_at hl 1 rfl) ?_
  refine va_get (D := D) (ci := 0) (v := .ref x1) (C := RX0) (T := TX0) (N := 3) hx hb hts inX0 hown hK hP 0 rfl rfl 0 (by decide) (hw 18 rfl) (fun _ h9 => h9) rfl dX0_shadowOf_9 ?_
  refine lv_iload hx hb dX0_shadowOf_12 (lv_at hl 5 rfl) ?_
  refine va_iald hx hb hK hP 1 0 rfl rfl (vp_in_nI (n := b) (by omega) (by decide)) dX0_shadowOf_14 ?_
  refine sm_eqi (y := V b) (sm_cl V (n := b) (by omega)) ?_
  refine lv_istore (lv' := [(6, .int (V b)), (5, .int (V a)), (0, .ref x0), (1, .int 11), (2, .int (nI d)), (3, .int (nI a)), (4, .int (nI b))]) hx hb dX0_shadowOf_15 hl (by decide) rfl (fun ls hl => ?_)
  refine lv_aload_n hx hb dX0_shadowOf_17 rfl (lv_at hl 2 rfl) ?_
  refine va_get (D := D) (ci := 0) (v := .ref x2) (C := RX0) (T := TX0) (N := 3) hx hb hts inX0 hown hK hP 0 rfl rfl 1 (by decide) (hw 19 rfl) (fun _ h9 => h9) rfl dX0_shadowOf_18 ?_
  refine lv_iload_n hx hb dX0_shadowOf_21 rfl (lv_at hl 5 rfl) ?_
  refine va_iald hx hb hK hP 2 0 rfl rfl (vp_in_nI (n := a) (by omega) (by decide)) dX0_shadowOf_22 ?_
  refine sm_eqi (y := S a) (sm_cl S (n := a) (by omega)) ?_
  refine lv_istore (lv' := [(7, .int (S a)), (6, .int (V b)), (5, .int (V a)), (0, .ref x0), (1, .int 11), (2, .int (nI d)), (3, .int (nI a)), (4, .int (nI b))]) hx hb dX0_shadowOf_23 hl (by decide) rfl (fun ls hl => ?_)
  refine lv_aload_n hx hb dX0_shadowOf_25 rfl (lv_at hl 3 rfl) ?_
  refine va_get (D := D) (ci := 0) (v := .ref x2) (C := RX0) (T := TX0) (N := 3) hx hb hts inX0 hown hK hP 0 rfl rfl 1 (by decide) (hw 19 rfl) (fun _ h9 => h9) rfl dX0_shadowOf_26 ?_
  refine lv_iload hx hb dX0_shadowOf_29 (lv_at hl 7 rfl) ?_
  refine va_iald hx hb hK hP 2 0 rfl rfl (vp_in_nI (n := b) (by omega) (by decide)) dX0_shadowOf_31 ?_
  refine sm_eqi (y := S b) (sm_cl S (n := b) (by omega)) ?_
  refine lv_istore (lv' := [(8, .int (S b)), (7, .int (S a)), (6, .int (V b)), (5, .int (V a)), (0, .ref x0), (1, .int 11), (2, .int (nI d)), (3, .int (nI a)), (4, .int (nI b))]) hx hb dX0_shadowOf_32 hl (by decide) rfl (fun ls hl => ?_)
  refine lv_iload_n hx hb dX0_shadowOf_34 rfl (lv_at hl 5 rfl) ?_
  refine lv_tableIn (off := 204) (tgt := 239) hx hb dX0_shadowOf_35 (by decide) (by decide) (by decide) (by decide) ?_
  refine lv_iload hx hb dX0_shadowOf_239 (lv_at hl 3 rfl) ?_
  refine lv_iload hx hb dX0_shadowOf_241 (lv_at hl 2 rfl) ?_
  refine lv_iload hx hb dX0_shadowOf_243 (lv_at hl 1 rfl) ?_
  refine lv_iload hx hb dX0_shadowOf_245 (lv_at hl 0 rfl) ?_
  refine lv_ior hx hb dX0_shadowOf_247 ?_
  refine sm_callS (As := [.int (V a), .int (V b), .int ((S a) ||| (S b))]) (rest := []) (wr := (sm_wX cI x0 x1 x2 x3 V S M)) (wn := (sm_wX cI x0 x1 x2 x3 V S M)) (st1 := [.int (sm_bI (!decide ((S a) ||| (S b) = 0) && decide (((V a) ^^^ (V b)) &&& (((S a) ||| (S b)) ^^^ (-1)) = 0)))]) ⟨hx, hb, hml, hown, hts⟩ (c_samenessHangs l D (V a) (V b) ((S a) ||| (S b))) (va_cwS 3 hts (sm_gS (i1 := 165) (i2 := 166) (i4 := 1) (i5 := 167) rfl rfl rfl rfl) rfl rfl rfl (by decide +kernel) ⟨Nat.le_of_ble_eq_true rfl, Nat.le_of_ble_eq_true rfl⟩) hK [] rfl hP hD hS hA [] [0, 1, 2, 3] rfl rfl (by decide) (by decide) (by decide) rfl hl.1 rfl (Nat.le_of_ble_eq_true rfl) dX0_shadowOf_248 ⟨Nat.le_of_ble_eq_true rfl, Nat.le_of_ble_eq_true rfl⟩ rfl rfl (fun H locs hP hD hS => ?_)
  refine sm_callS (As := [.int (sm_bI (!decide ((S a) ||| (S b) = 0) && decide (((V a) ^^^ (V b)) &&& (((S a) ||| (S b)) ^^^ (-1)) = 0)))]) (rest := []) (wr := (sm_wX cI x0 x1 x2 x3 V S M)) (wn := (sm_wX cI x0 x1 x2 x3 V S M)) (st1 := [.int (sm_bI (!decide ((S a) ||| (S b) = 0) && decide (((V a) ^^^ (V b)) &&& (((S a) ||| (S b)) ^^^ (-1)) = 0)))]) ⟨hx, hb, hml, hown, hts⟩ (c_bit l D (!decide ((S a) ||| (S b) = 0) && decide (((V a) ^^^ (V b)) &&& (((S a) ||| (S b)) ^^^ (-1)) = 0))) (va_cwS 1 hts (sm_gS (i1 := 129) (i2 := 130) (i4 := 1) (i5 := 131) rfl rfl rfl rfl) rfl rfl rfl (by decide +kernel) ⟨Nat.le_of_ble_eq_true rfl, Nat.le_of_ble_eq_true rfl⟩) hK [] rfl hP hD hS hA [] [0, 1, 2, 3] rfl rfl (by decide) (by decide) (by decide) rfl hl.1 rfl (Nat.le_of_ble_eq_true rfl) dX0_shadowOf_251 ⟨Nat.le_of_ble_eq_true rfl, Nat.le_of_ble_eq_true rfl⟩ rfl rfl (fun H locs hP hD hS => ?_)
  refine sm_eqi (y := sm_bI (!decide (S a ||| S b = 0) && decide ((V a ^^^ V b) &&& ((S a ||| S b) ^^^ (-1)) = 0))) (by simp [sm_bI]) ?_
  exact sm_iret hx hb hrt hlocks hS hP hD dX0_shadowOf_254
set_option maxHeartbeats 4000000 in
set_option maxRecDepth 100000 in
theorem c_shadowOf_12 (l : Launch) (D : va_G) (cI : ClassId) (x0 x1 x2 x3 : Nat) (V S M : Nat → Int32) (d a b : Nat) (hd : d < 16) (ha : a < 16) (hb' : b < 16) : sm_C l yX0_shadowOf wsX0_shadowOf ({ frames := 3, cells := 0, slots := 0, locals := 96 } : Room) D vwCl [(cI, .int)] [.ref x0, .int 12, .int (nI d), .int (nI a), .int (nI b)] (sm_wX cI x0 x1 x2 x3 V S M) (some (.int (if bt (S b) 0 then S a ||| S d ||| (V a ^^^ V d) else if bt (V b) 0 then S a else S d))) (sm_wX cI x0 x1 x2 x3 V S M) := by
  refine sm_start (cc := cX0_shadowOf) (maxL := 9) (ret := some .int) (lv := [(0, .ref x0), (1, .int 12), (2, .int (nI d)), (3, .int (nI a)), (4, .int (nI b))]) (by decide) rfl (Nat.le_of_ble_eq_true rfl) rfl ?_
  intro p e s m below meth c hx hb hrt hts hown hlocks hml hin hK hP hD hS hA ls hl
  have hw := sm_hw hts
  have q1 := sm_tz_le (S a)
  have q2 := sm_tz_le (S b)
  have q3 := sm_tz_le (V b ||| S b)
  have q4 := sm_tz_le (V a ||| S a)
  have q5 := sm_tz_le (S a ||| S b)
  have q6 := sm_min_le (sm_tz (S a) + sm_tz (V b ||| S b)) (sm_tz (S b) + sm_tz (V a ||| S a))
  refine lv_aload_n hx hb dX0_shadowOf_0 rfl (lv_at hl 0 rfl) ?_
  refine va_get (D := D) (ci := 0) (v := .ref x1) (C := RX0) (T := TX0) (N := 3) hx hb hts inX0 hown hK hP 0 rfl rfl 0 (by decide) (hw 18 rfl) (fun _ h9 => h9) rfl dX0_shadowOf_1 ?_
  refine lv_iload_n hx hb dX0_shadowOf_4 rfl (lv_at hl 3 rfl) ?_
  refine va_iald hx hb hK hP 1 0 rfl rfl (vp_in_nI (n := a) (by omega) (by decide)) dX0_shadowOf_5 ?_
  refine sm_eqi (y := V a) (sm_cl V (n := a) (by omega)) ?_
  refine lv_istore (lv' := [(5, .int (V a)), (0, .ref x0), (1, .int 12), (2, .int (nI d)), (3, .int (nI a)), (4, .int (nI b))]) hx hb dX0_shadowOf_6 hl (by decide) rfl (fun ls hl => ?_)
  refine lv_aload_n hx hb dX0_shadowOf_8 rfl (lv_at hl 1 rfl) ?_
  refine va_get (D := D) (ci := 0) (v := .ref x1) (C := RX0) (T := TX0) (N := 3) hx hb hts inX0 hown hK hP 0 rfl rfl 0 (by decide) (hw 18 rfl) (fun _ h9 => h9) rfl dX0_shadowOf_9 ?_
  refine lv_iload hx hb dX0_shadowOf_12 (lv_at hl 5 rfl) ?_
  refine va_iald hx hb hK hP 1 0 rfl rfl (vp_in_nI (n := b) (by omega) (by decide)) dX0_shadowOf_14 ?_
  refine sm_eqi (y := V b) (sm_cl V (n := b) (by omega)) ?_
  refine lv_istore (lv' := [(6, .int (V b)), (5, .int (V a)), (0, .ref x0), (1, .int 12), (2, .int (nI d)), (3, .int (nI a)), (4, .int (nI b))]) hx hb dX0_shadowOf_15 hl (by decide) rfl (fun ls hl => ?_)
  refine lv_aload_n hx hb dX0_shadowOf_17 rfl (lv_at hl 2 rfl) ?_
  refine va_get (D := D) (ci := 0) (v := .ref x2) (C := RX0) (T := TX0) (N := 3) hx hb hts inX0 hown hK hP 0 rfl rfl 1 (by decide) (hw 19 rfl) (fun _ h9 => h9) rfl dX0_shadowOf_18 ?_
  refine lv_iload_n hx hb dX0_shadowOf_21 rfl (lv_at hl 5 rfl) ?_
  refine va_iald hx hb hK hP 2 0 rfl rfl (vp_in_nI (n := a) (by omega) (by decide)) dX0_shadowOf_22 ?_
  refine sm_eqi (y := S a) (sm_cl S (n := a) (by omega)) ?_
  refine lv_istore (lv' := [(7, .int (S a)), (6, .int (V b)), (5, .int (V a)), (0, .ref x0), (1, .int 12), (2, .int (nI d)), (3, .int (nI a)), (4, .int (nI b))]) hx hb dX0_shadowOf_23 hl (by decide) rfl (fun ls hl => ?_)
  refine lv_aload_n hx hb dX0_shadowOf_25 rfl (lv_at hl 3 rfl) ?_
  refine va_get (D := D) (ci := 0) (v := .ref x2) (C := RX0) (T := TX0) (N := 3) hx hb hts inX0 hown hK hP 0 rfl rfl 1 (by decide) (hw 19 rfl) (fun _ h9 => h9) rfl dX0_shadowOf_26 ?_
  refine lv_iload hx hb dX0_shadowOf_29 (lv_at hl 7 rfl) ?_
  refine va_iald hx hb hK hP 2 0 rfl rfl (vp_in_nI (n := b) (by omega) (by decide)) dX0_shadowOf_31 ?_
  refine sm_eqi (y := S b) (sm_cl S (n := b) (by omega)) ?_
  refine lv_istore (lv' := [(8, .int (S b)), (7, .int (S a)), (6, .int (V b)), (5, .int (V a)), (0, .ref x0), (1, .int 12), (2, .int (nI d)), (3, .int (nI a)), (4, .int (nI b))]) hx hb dX0_shadowOf_32 hl (by decide) rfl (fun ls hl => ?_)
  refine lv_iload_n hx hb dX0_shadowOf_34 rfl (lv_at hl 5 rfl) ?_
  refine lv_tableOut (tgt := 255) hx hb dX0_shadowOf_35 (Or.inr (by decide)) (by decide) ?_
  refine lv_aload_n hx hb dX0_shadowOf_255 rfl (lv_at hl 4 rfl) ?_
  refine lv_iload_n hx hb dX0_shadowOf_256 rfl (lv_at hl 6 rfl) ?_
  refine lv_iload_n hx hb dX0_shadowOf_257 rfl (lv_at hl 7 rfl) ?_
  refine lv_iload hx hb dX0_shadowOf_258 (lv_at hl 8 rfl) ?_
  refine sm_callV (C := RX0) (As := [.int (nI d), .int (nI a), .int (nI b)]) (rest := []) (wr := []) (wn := (sm_wX cI x0 x1 x2 x3 V S M)) (st1 := [.int (if bt (S b) 0 then S a ||| S d ||| (V a ^^^ V d) else if bt (V b) 0 then S a else S d)]) ⟨hx, hb, hml, hown, hts⟩ (c_choiceShadow l D cI x0 x1 x2 x3 V S M d a b hd ha hb') (cwV 3 hts (sm_gV (i1 := 168) (i2 := 169) (i3 := 347) (i4 := 1) (i5 := 170) rfl rfl rfl rfl rfl) rfl rfl rfl (by decide +kernel) ⟨Nat.le_of_ble_eq_true rfl, Nat.le_of_ble_eq_true rfl⟩) hK [0] rfl hP hD hS hA 0 rfl rfl [0, 1, 2, 3] [] rfl rfl (by decide) (by decide) (by decide) rfl hl.1 rfl (Nat.le_of_ble_eq_true rfl) dX0_shadowOf_260 ⟨Nat.le_of_ble_eq_true rfl, Nat.le_of_ble_eq_true rfl⟩ rfl rfl (fun H locs hP hD hS => ?_)
  exact sm_iret hx hb hrt hlocks hS hP hD dX0_shadowOf_263
set_option maxHeartbeats 4000000 in
set_option maxRecDepth 100000 in
theorem c_op_0 (l : Launch) (D : va_G) (cI : ClassId) (x0 x1 x2 x3 : Nat) (V S M : Nat → Int32) (d a b : Nat) (hd : d < 16) (ha : a < 16) (hb' : b < 16) : sm_C l yX0_op wsX0_op ({ frames := 6, cells := 0, slots := 0, locals := 140 } : Room) D vwCl [(cI, .int)] [.ref x0, .int 0, .int (nI d), .int (nI a), .int (nI b)] (sm_wX cI x0 x1 x2 x3 V S M) none (sm_wX cI x0 x1 x2 x3 (upd V d (V a + V b)) (upd S d (sm_fr (sm_tz (S a ||| S b)))) M) := by
  refine sm_start (cc := cX0_op) (maxL := 7) (ret := none) (lv := [(0, .ref x0), (1, .int 0), (2, .int (nI d)), (3, .int (nI a)), (4, .int (nI b))]) (by decide) rfl (Nat.le_of_ble_eq_true rfl) rfl ?_
  intro p e s m below meth c hx hb hrt hts hown hlocks hml hin hK hP hD hS hA ls hl
  have hw := sm_hw hts
  refine lv_iload_n hx hb dX0_op_0 rfl (lv_at hl 1 rfl) ?_
  refine lv_if_lt (tgt := 10) hx hb dX0_op_1 rfl (fun z => absurd z (by decide)) (fun _ => ?_)
  refine lv_iload_n hx hb dX0_op_4 rfl (lv_at hl 1 rfl) ?_
  refine lv_bipush (v := 12) hx hb dX0_op_5 (by decide) ?_
  refine lv_icmp_le (tgt := 18) hx hb dX0_op_7 rfl (fun _ => ?_) (fun z => absurd (by decide) z)
  refine lv_iload_n hx hb dX0_op_18 rfl (lv_at hl 2 rfl) ?_
  refine sm_callS (As := [.int (nI d)]) (rest := []) (wr := (sm_wX cI x0 x1 x2 x3 V S M)) (wn := (sm_wX cI x0 x1 x2 x3 V S M)) (st1 := []) ⟨hx, hb, hml, hown, hts⟩ (c_checkRegister l D d (by omega)) (va_cwS 1 hts (sm_gS (i1 := 47) (i2 := 48) (i4 := 1) (i5 := 49) rfl rfl rfl rfl) rfl rfl rfl (by decide +kernel) ⟨Nat.le_of_ble_eq_true rfl, Nat.le_of_ble_eq_true rfl⟩) hK [] rfl hP hD hS hA [] [0, 1, 2, 3] rfl rfl (by decide) (by decide) (by decide) rfl hl.1 rfl (Nat.le_of_ble_eq_true rfl) dX0_op_19 ⟨Nat.le_of_ble_eq_true rfl, Nat.le_of_ble_eq_true rfl⟩ rfl rfl (fun H locs hP hD hS => ?_)
  refine lv_iload_n hx hb dX0_op_22 rfl (lv_at hl 3 rfl) ?_
  refine sm_callS (As := [.int (nI a)]) (rest := []) (wr := (sm_wX cI x0 x1 x2 x3 V S M)) (wn := (sm_wX cI x0 x1 x2 x3 V S M)) (st1 := []) ⟨hx, hb, hml, hown, hts⟩ (c_checkRegister l D a (by omega)) (va_cwS 1 hts (sm_gS (i1 := 47) (i2 := 48) (i4 := 1) (i5 := 49) rfl rfl rfl rfl) rfl rfl rfl (by decide +kernel) ⟨Nat.le_of_ble_eq_true rfl, Nat.le_of_ble_eq_true rfl⟩) hK [] rfl hP hD hS hA [] [0, 1, 2, 3] rfl rfl (by decide) (by decide) (by decide) rfl hl.1 rfl (Nat.le_of_ble_eq_true rfl) dX0_op_23 ⟨Nat.le_of_ble_eq_true rfl, Nat.le_of_ble_eq_true rfl⟩ rfl rfl (fun H locs hP hD hS => ?_)
  refine lv_iload hx hb dX0_op_26 (lv_at hl 4 rfl) ?_
  refine sm_callS (As := [.int (nI b)]) (rest := []) (wr := (sm_wX cI x0 x1 x2 x3 V S M)) (wn := (sm_wX cI x0 x1 x2 x3 V S M)) (st1 := []) ⟨hx, hb, hml, hown, hts⟩ (c_checkRegister l D b (by omega)) (va_cwS 1 hts (sm_gS (i1 := 47) (i2 := 48) (i4 := 1) (i5 := 49) rfl rfl rfl rfl) rfl rfl rfl (by decide +kernel) ⟨Nat.le_of_ble_eq_true rfl, Nat.le_of_ble_eq_true rfl⟩) hK [] rfl hP hD hS hA [] [0, 1, 2, 3] rfl rfl (by decide) (by decide) (by decide) rfl hl.1 rfl (Nat.le_of_ble_eq_true rfl) dX0_op_28 ⟨Nat.le_of_ble_eq_true rfl, Nat.le_of_ble_eq_true rfl⟩ rfl rfl (fun H locs hP hD hS => ?_)
  refine lv_aload_n hx hb dX0_op_31 rfl (lv_at hl 0 rfl) ?_
  refine lv_iload_n hx hb dX0_op_32 rfl (lv_at hl 1 rfl) ?_
  refine lv_iload_n hx hb dX0_op_33 rfl (lv_at hl 2 rfl) ?_
  refine lv_iload_n hx hb dX0_op_34 rfl (lv_at hl 3 rfl) ?_
  refine lv_iload hx hb dX0_op_35 (lv_at hl 4 rfl) ?_
  refine sm_callV (C := RX0) (As := [.int 0, .int (nI d), .int (nI a), .int (nI b)]) (rest := []) (wr := []) (wn := (sm_wX cI x0 x1 x2 x3 V S M)) (st1 := [.int (V a + V b)]) ⟨hx, hb, hml, hown, hts⟩ (c_valueOf_0 l D cI x0 x1 x2 x3 V S M d a b hd ha hb') (cwV 4 hts (sm_gV (i1 := 123) (i2 := 124) (i3 := 344) (i4 := 1) (i5 := 125) rfl rfl rfl rfl rfl) rfl rfl rfl (by decide +kernel) ⟨Nat.le_of_ble_eq_true rfl, Nat.le_of_ble_eq_true rfl⟩) hK [0] rfl hP hD hS hA 0 rfl rfl [0, 1, 2, 3] [] rfl rfl (by decide) (by decide) (by decide) rfl hl.1 rfl (Nat.le_of_ble_eq_true rfl) dX0_op_37 ⟨Nat.le_of_ble_eq_true rfl, Nat.le_of_ble_eq_true rfl⟩ rfl rfl (fun H locs hP hD hS => ?_)
  refine lv_istore (lv' := [(5, .int (V a + V b)), (0, .ref x0), (1, .int 0), (2, .int (nI d)), (3, .int (nI a)), (4, .int (nI b))]) hx hb dX0_op_40 hl (by decide) rfl (fun ls hl => ?_)
  refine lv_aload_n hx hb dX0_op_42 rfl (lv_at hl 1 rfl) ?_
  refine lv_iload_n hx hb dX0_op_43 rfl (lv_at hl 2 rfl) ?_
  refine lv_iload_n hx hb dX0_op_44 rfl (lv_at hl 3 rfl) ?_
  refine lv_iload_n hx hb dX0_op_45 rfl (lv_at hl 4 rfl) ?_
  refine lv_iload hx hb dX0_op_46 (lv_at hl 5 rfl) ?_
  refine sm_callV (C := RX0) (As := [.int 0, .int (nI d), .int (nI a), .int (nI b)]) (rest := []) (wr := []) (wn := (sm_wX cI x0 x1 x2 x3 V S M)) (st1 := [.int (sm_fr (sm_tz (S a ||| S b)))]) ⟨hx, hb, hml, hown, hts⟩ (c_shadowOf_0 l D cI x0 x1 x2 x3 V S M d a b hd ha hb') (cwV 4 hts (sm_gV (i1 := 139) (i2 := 140) (i3 := 346) (i4 := 1) (i5 := 141) rfl rfl rfl rfl rfl) rfl rfl rfl (by decide +kernel) ⟨Nat.le_of_ble_eq_true rfl, Nat.le_of_ble_eq_true rfl⟩) hK [0] rfl hP hD hS hA 0 rfl rfl [0, 1, 2, 3] [] rfl rfl (by decide) (by decide) (by decide) rfl hl.1 rfl (Nat.le_of_ble_eq_true rfl) dX0_op_48 ⟨Nat.le_of_ble_eq_true rfl, Nat.le_of_ble_eq_true rfl⟩ rfl rfl (fun H locs hP hD hS => ?_)
  refine lv_istore (lv' := [(6, .int (sm_fr (sm_tz (S a ||| S b)))), (5, .int (V a + V b)), (0, .ref x0), (1, .int 0), (2, .int (nI d)), (3, .int (nI a)), (4, .int (nI b))]) hx hb dX0_op_51 hl (by decide) rfl (fun ls hl => ?_)
  refine lv_aload_n hx hb dX0_op_53 rfl (lv_at hl 2 rfl) ?_
  refine va_get (D := D) (ci := 0) (v := .ref x1) (C := RX0) (T := TX0) (N := 3) hx hb hts inX0 hown hK hP 0 rfl rfl 0 (by decide) (hw 18 rfl) (fun _ h9 => h9) rfl dX0_op_54 ?_
  refine lv_iload_n hx hb dX0_op_57 rfl (lv_at hl 4 rfl) ?_
  refine lv_iload hx hb dX0_op_58 (lv_at hl 1 rfl) ?_
  refine sm_iast (f' := upd V d (V a + V b)) (ws' := (sm_wX cI x0 x1 x2 x3 (upd V d (V a + V b)) S M)) hx hb hK hP hD hS 1 0 rfl rfl (vp_in_nI (n := d) (by omega) (by decide)) dX0_op_60 (by rw [nI_clamp (by omega)]) rfl (fun H locs hP hD hS => ?_)
  refine lv_aload_n hx hb dX0_op_61 rfl (lv_at hl 2 rfl) ?_
  refine va_get (D := D) (ci := 0) (v := .ref x2) (C := RX0) (T := TX0) (N := 3) hx hb hts inX0 hown hK hP 0 rfl rfl 1 (by decide) (hw 19 rfl) (fun _ h9 => h9) rfl dX0_op_62 ?_
  refine lv_iload_n hx hb dX0_op_65 rfl (lv_at hl 4 rfl) ?_
  refine lv_iload hx hb dX0_op_66 (lv_at hl 0 rfl) ?_
  refine sm_iast (f' := upd S d (sm_fr (sm_tz (S a ||| S b)))) (ws' := (sm_wX cI x0 x1 x2 x3 (upd V d (V a + V b)) (upd S d (sm_fr (sm_tz (S a ||| S b)))) M)) hx hb hK hP hD hS 2 0 rfl rfl (vp_in_nI (n := d) (by omega) (by decide)) dX0_op_68 (by rw [nI_clamp (by omega)]) rfl (fun H locs hP hD hS => ?_)
  exact sm_vret hx hb hrt hlocks hS hP hD dX0_op_69
set_option maxHeartbeats 4000000 in
set_option maxRecDepth 100000 in
theorem c_op_1 (l : Launch) (D : va_G) (cI : ClassId) (x0 x1 x2 x3 : Nat) (V S M : Nat → Int32) (d a b : Nat) (hd : d < 16) (ha : a < 16) (hb' : b < 16) : sm_C l yX0_op wsX0_op ({ frames := 6, cells := 0, slots := 0, locals := 140 } : Room) D vwCl [(cI, .int)] [.ref x0, .int 1, .int (nI d), .int (nI a), .int (nI b)] (sm_wX cI x0 x1 x2 x3 V S M) none (sm_wX cI x0 x1 x2 x3 (upd V d (V a - V b)) (upd S d (sm_fr (sm_tz (S a ||| S b)))) M) := by
  refine sm_start (cc := cX0_op) (maxL := 7) (ret := none) (lv := [(0, .ref x0), (1, .int 1), (2, .int (nI d)), (3, .int (nI a)), (4, .int (nI b))]) (by decide) rfl (Nat.le_of_ble_eq_true rfl) rfl ?_
  intro p e s m below meth c hx hb hrt hts hown hlocks hml hin hK hP hD hS hA ls hl
  have hw := sm_hw hts
  refine lv_iload_n hx hb dX0_op_0 rfl (lv_at hl 1 rfl) ?_
  refine lv_if_lt (tgt := 10) hx hb dX0_op_1 rfl (fun z => absurd z (by decide)) (fun _ => ?_)
  refine lv_iload_n hx hb dX0_op_4 rfl (lv_at hl 1 rfl) ?_
  refine lv_bipush (v := 12) hx hb dX0_op_5 (by decide) ?_
  refine lv_icmp_le (tgt := 18) hx hb dX0_op_7 rfl (fun _ => ?_) (fun z => absurd (by decide) z)
  refine lv_iload_n hx hb dX0_op_18 rfl (lv_at hl 2 rfl) ?_
  refine sm_callS (As := [.int (nI d)]) (rest := []) (wr := (sm_wX cI x0 x1 x2 x3 V S M)) (wn := (sm_wX cI x0 x1 x2 x3 V S M)) (st1 := []) ⟨hx, hb, hml, hown, hts⟩ (c_checkRegister l D d (by omega)) (va_cwS 1 hts (sm_gS (i1 := 47) (i2 := 48) (i4 := 1) (i5 := 49) rfl rfl rfl rfl) rfl rfl rfl (by decide +kernel) ⟨Nat.le_of_ble_eq_true rfl, Nat.le_of_ble_eq_true rfl⟩) hK [] rfl hP hD hS hA [] [0, 1, 2, 3] rfl rfl (by decide) (by decide) (by decide) rfl hl.1 rfl (Nat.le_of_ble_eq_true rfl) dX0_op_19 ⟨Nat.le_of_ble_eq_true rfl, Nat.le_of_ble_eq_true rfl⟩ rfl rfl (fun H locs hP hD hS => ?_)
  refine lv_iload_n hx hb dX0_op_22 rfl (lv_at hl 3 rfl) ?_
  refine sm_callS (As := [.int (nI a)]) (rest := []) (wr := (sm_wX cI x0 x1 x2 x3 V S M)) (wn := (sm_wX cI x0 x1 x2 x3 V S M)) (st1 := []) ⟨hx, hb, hml, hown, hts⟩ (c_checkRegister l D a (by omega)) (va_cwS 1 hts (sm_gS (i1 := 47) (i2 := 48) (i4 := 1) (i5 := 49) rfl rfl rfl rfl) rfl rfl rfl (by decide +kernel) ⟨Nat.le_of_ble_eq_true rfl, Nat.le_of_ble_eq_true rfl⟩) hK [] rfl hP hD hS hA [] [0, 1, 2, 3] rfl rfl (by decide) (by decide) (by decide) rfl hl.1 rfl (Nat.le_of_ble_eq_true rfl) dX0_op_23 ⟨Nat.le_of_ble_eq_true rfl, Nat.le_of_ble_eq_true rfl⟩ rfl rfl (fun H locs hP hD hS => ?_)
  refine lv_iload hx hb dX0_op_26 (lv_at hl 4 rfl) ?_
  refine sm_callS (As := [.int (nI b)]) (rest := []) (wr := (sm_wX cI x0 x1 x2 x3 V S M)) (wn := (sm_wX cI x0 x1 x2 x3 V S M)) (st1 := []) ⟨hx, hb, hml, hown, hts⟩ (c_checkRegister l D b (by omega)) (va_cwS 1 hts (sm_gS (i1 := 47) (i2 := 48) (i4 := 1) (i5 := 49) rfl rfl rfl rfl) rfl rfl rfl (by decide +kernel) ⟨Nat.le_of_ble_eq_true rfl, Nat.le_of_ble_eq_true rfl⟩) hK [] rfl hP hD hS hA [] [0, 1, 2, 3] rfl rfl (by decide) (by decide) (by decide) rfl hl.1 rfl (Nat.le_of_ble_eq_true rfl) dX0_op_28 ⟨Nat.le_of_ble_eq_true rfl, Nat.le_of_ble_eq_true rfl⟩ rfl rfl (fun H locs hP hD hS => ?_)
  refine lv_aload_n hx hb dX0_op_31 rfl (lv_at hl 0 rfl) ?_
  refine lv_iload_n hx hb dX0_op_32 rfl (lv_at hl 1 rfl) ?_
  refine lv_iload_n hx hb dX0_op_33 rfl (lv_at hl 2 rfl) ?_
  refine lv_iload_n hx hb dX0_op_34 rfl (lv_at hl 3 rfl) ?_
  refine lv_iload hx hb dX0_op_35 (lv_at hl 4 rfl) ?_
  refine sm_callV (C := RX0) (As := [.int 1, .int (nI d), .int (nI a), .int (nI b)]) (rest := []) (wr := []) (wn := (sm_wX cI x0 x1 x2 x3 V S M)) (st1 := [.int (V a - V b)]) ⟨hx, hb, hml, hown, hts⟩ (c_valueOf_1 l D cI x0 x1 x2 x3 V S M d a b hd ha hb') (cwV 4 hts (sm_gV (i1 := 123) (i2 := 124) (i3 := 344) (i4 := 1) (i5 := 125) rfl rfl rfl rfl rfl) rfl rfl rfl (by decide +kernel) ⟨Nat.le_of_ble_eq_true rfl, Nat.le_of_ble_eq_true rfl⟩) hK [0] rfl hP hD hS hA 0 rfl rfl [0, 1, 2, 3] [] rfl rfl (by decide) (by decide) (by decide) rfl hl.1 rfl (Nat.le_of_ble_eq_true rfl) dX0_op_37 ⟨Nat.le_of_ble_eq_true rfl, Nat.le_of_ble_eq_true rfl⟩ rfl rfl (fun H locs hP hD hS => ?_)
  refine lv_istore (lv' := [(5, .int (V a - V b)), (0, .ref x0), (1, .int 1), (2, .int (nI d)), (3, .int (nI a)), (4, .int (nI b))]) hx hb dX0_op_40 hl (by decide) rfl (fun ls hl => ?_)
  refine lv_aload_n hx hb dX0_op_42 rfl (lv_at hl 1 rfl) ?_
  refine lv_iload_n hx hb dX0_op_43 rfl (lv_at hl 2 rfl) ?_
  refine lv_iload_n hx hb dX0_op_44 rfl (lv_at hl 3 rfl) ?_
  refine lv_iload_n hx hb dX0_op_45 rfl (lv_at hl 4 rfl) ?_
  refine lv_iload hx hb dX0_op_46 (lv_at hl 5 rfl) ?_
  refine sm_callV (C := RX0) (As := [.int 1, .int (nI d), .int (nI a), .int (nI b)]) (rest := []) (wr := []) (wn := (sm_wX cI x0 x1 x2 x3 V S M)) (st1 := [.int (sm_fr (sm_tz (S a ||| S b)))]) ⟨hx, hb, hml, hown, hts⟩ (c_shadowOf_1 l D cI x0 x1 x2 x3 V S M d a b hd ha hb') (cwV 4 hts (sm_gV (i1 := 139) (i2 := 140) (i3 := 346) (i4 := 1) (i5 := 141) rfl rfl rfl rfl rfl) rfl rfl rfl (by decide +kernel) ⟨Nat.le_of_ble_eq_true rfl, Nat.le_of_ble_eq_true rfl⟩) hK [0] rfl hP hD hS hA 0 rfl rfl [0, 1, 2, 3] [] rfl rfl (by decide) (by decide) (by decide) rfl hl.1 rfl (Nat.le_of_ble_eq_true rfl) dX0_op_48 ⟨Nat.le_of_ble_eq_true rfl, Nat.le_of_ble_eq_true rfl⟩ rfl rfl (fun H locs hP hD hS => ?_)
  refine lv_istore (lv' := [(6, .int (sm_fr (sm_tz (S a ||| S b)))), (5, .int (V a - V b)), (0, .ref x0), (1, .int 1), (2, .int (nI d)), (3, .int (nI a)), (4, .int (nI b))]) hx hb dX0_op_51 hl (by decide) rfl (fun ls hl => ?_)
  refine lv_aload_n hx hb dX0_op_53 rfl (lv_at hl 2 rfl) ?_
  refine va_get (D := D) (ci := 0) (v := .ref x1) (C := RX0) (T := TX0) (N := 3) hx hb hts inX0 hown hK hP 0 rfl rfl 0 (by decide) (hw 18 rfl) (fun _ h9 => h9) rfl dX0_op_54 ?_
  refine lv_iload_n hx hb dX0_op_57 rfl (lv_at hl 4 rfl) ?_
  refine lv_iload hx hb dX0_op_58 (lv_at hl 1 rfl) ?_
  refine sm_iast (f' := upd V d (V a - V b)) (ws' := (sm_wX cI x0 x1 x2 x3 (upd V d (V a - V b)) S M)) hx hb hK hP hD hS 1 0 rfl rfl (vp_in_nI (n := d) (by omega) (by decide)) dX0_op_60 (by rw [nI_clamp (by omega)]) rfl (fun H locs hP hD hS => ?_)
  refine lv_aload_n hx hb dX0_op_61 rfl (lv_at hl 2 rfl) ?_
  refine va_get (D := D) (ci := 0) (v := .ref x2) (C := RX0) (T := TX0) (N := 3) hx hb hts inX0 hown hK hP 0 rfl rfl 1 (by decide) (hw 19 rfl) (fun _ h9 => h9) rfl dX0_op_62 ?_
  refine lv_iload_n hx hb dX0_op_65 rfl (lv_at hl 4 rfl) ?_
  refine lv_iload hx hb dX0_op_66 (lv_at hl 0 rfl) ?_
  refine sm_iast (f' := upd S d (sm_fr (sm_tz (S a ||| S b)))) (ws' := (sm_wX cI x0 x1 x2 x3 (upd V d (V a - V b)) (upd S d (sm_fr (sm_tz (S a ||| S b)))) M)) hx hb hK hP hD hS 2 0 rfl rfl (vp_in_nI (n := d) (by omega) (by decide)) dX0_op_68 (by rw [nI_clamp (by omega)]) rfl (fun H locs hP hD hS => ?_)
  exact sm_vret hx hb hrt hlocks hS hP hD dX0_op_69
set_option maxHeartbeats 4000000 in
set_option maxRecDepth 100000 in
theorem c_op_2 (l : Launch) (D : va_G) (cI : ClassId) (x0 x1 x2 x3 : Nat) (V S M : Nat → Int32) (d a b : Nat) (hd : d < 16) (ha : a < 16) (hb' : b < 16) : sm_C l yX0_op wsX0_op ({ frames := 6, cells := 0, slots := 0, locals := 140 } : Room) D vwCl [(cI, .int)] [.ref x0, .int 2, .int (nI d), .int (nI a), .int (nI b)] (sm_wX cI x0 x1 x2 x3 V S M) none (sm_wX cI x0 x1 x2 x3 (upd V d (V a &&& V b)) (upd S d ((S a ||| S b) &&& (S a ||| V a) &&& (S b ||| V b))) M) := by
  refine sm_start (cc := cX0_op) (maxL := 7) (ret := none) (lv := [(0, .ref x0), (1, .int 2), (2, .int (nI d)), (3, .int (nI a)), (4, .int (nI b))]) (by decide) rfl (Nat.le_of_ble_eq_true rfl) rfl ?_
  intro p e s m below meth c hx hb hrt hts hown hlocks hml hin hK hP hD hS hA ls hl
  have hw := sm_hw hts
  refine lv_iload_n hx hb dX0_op_0 rfl (lv_at hl 1 rfl) ?_
  refine lv_if_lt (tgt := 10) hx hb dX0_op_1 rfl (fun z => absurd z (by decide)) (fun _ => ?_)
  refine lv_iload_n hx hb dX0_op_4 rfl (lv_at hl 1 rfl) ?_
  refine lv_bipush (v := 12) hx hb dX0_op_5 (by decide) ?_
  refine lv_icmp_le (tgt := 18) hx hb dX0_op_7 rfl (fun _ => ?_) (fun z => absurd (by decide) z)
  refine lv_iload_n hx hb dX0_op_18 rfl (lv_at hl 2 rfl) ?_
  refine sm_callS (As := [.int (nI d)]) (rest := []) (wr := (sm_wX cI x0 x1 x2 x3 V S M)) (wn := (sm_wX cI x0 x1 x2 x3 V S M)) (st1 := []) ⟨hx, hb, hml, hown, hts⟩ (c_checkRegister l D d (by omega)) (va_cwS 1 hts (sm_gS (i1 := 47) (i2 := 48) (i4 := 1) (i5 := 49) rfl rfl rfl rfl) rfl rfl rfl (by decide +kernel) ⟨Nat.le_of_ble_eq_true rfl, Nat.le_of_ble_eq_true rfl⟩) hK [] rfl hP hD hS hA [] [0, 1, 2, 3] rfl rfl (by decide) (by decide) (by decide) rfl hl.1 rfl (Nat.le_of_ble_eq_true rfl) dX0_op_19 ⟨Nat.le_of_ble_eq_true rfl, Nat.le_of_ble_eq_true rfl⟩ rfl rfl (fun H locs hP hD hS => ?_)
  refine lv_iload_n hx hb dX0_op_22 rfl (lv_at hl 3 rfl) ?_
  refine sm_callS (As := [.int (nI a)]) (rest := []) (wr := (sm_wX cI x0 x1 x2 x3 V S M)) (wn := (sm_wX cI x0 x1 x2 x3 V S M)) (st1 := []) ⟨hx, hb, hml, hown, hts⟩ (c_checkRegister l D a (by omega)) (va_cwS 1 hts (sm_gS (i1 := 47) (i2 := 48) (i4 := 1) (i5 := 49) rfl rfl rfl rfl) rfl rfl rfl (by decide +kernel) ⟨Nat.le_of_ble_eq_true rfl, Nat.le_of_ble_eq_true rfl⟩) hK [] rfl hP hD hS hA [] [0, 1, 2, 3] rfl rfl (by decide) (by decide) (by decide) rfl hl.1 rfl (Nat.le_of_ble_eq_true rfl) dX0_op_23 ⟨Nat.le_of_ble_eq_true rfl, Nat.le_of_ble_eq_true rfl⟩ rfl rfl (fun H locs hP hD hS => ?_)
  refine lv_iload hx hb dX0_op_26 (lv_at hl 4 rfl) ?_
  refine sm_callS (As := [.int (nI b)]) (rest := []) (wr := (sm_wX cI x0 x1 x2 x3 V S M)) (wn := (sm_wX cI x0 x1 x2 x3 V S M)) (st1 := []) ⟨hx, hb, hml, hown, hts⟩ (c_checkRegister l D b (by omega)) (va_cwS 1 hts (sm_gS (i1 := 47) (i2 := 48) (i4 := 1) (i5 := 49) rfl rfl rfl rfl) rfl rfl rfl (by decide +kernel) ⟨Nat.le_of_ble_eq_true rfl, Nat.le_of_ble_eq_true rfl⟩) hK [] rfl hP hD hS hA [] [0, 1, 2, 3] rfl rfl (by decide) (by decide) (by decide) rfl hl.1 rfl (Nat.le_of_ble_eq_true rfl) dX0_op_28 ⟨Nat.le_of_ble_eq_true rfl, Nat.le_of_ble_eq_true rfl⟩ rfl rfl (fun H locs hP hD hS => ?_)
  refine lv_aload_n hx hb dX0_op_31 rfl (lv_at hl 0 rfl) ?_
  refine lv_iload_n hx hb dX0_op_32 rfl (lv_at hl 1 rfl) ?_
  refine lv_iload_n hx hb dX0_op_33 rfl (lv_at hl 2 rfl) ?_
  refine lv_iload_n hx hb dX0_op_34 rfl (lv_at hl 3 rfl) ?_
  refine lv_iload hx hb dX0_op_35 (lv_at hl 4 rfl) ?_
  refine sm_callV (C := RX0) (As := [.int 2, .int (nI d), .int (nI a), .int (nI b)]) (rest := []) (wr := []) (wn := (sm_wX cI x0 x1 x2 x3 V S M)) (st1 := [.int (V a &&& V b)]) ⟨hx, hb, hml, hown, hts⟩ (c_valueOf_2 l D cI x0 x1 x2 x3 V S M d a b hd ha hb') (cwV 4 hts (sm_gV (i1 := 123) (i2 := 124) (i3 := 344) (i4 := 1) (i5 := 125) rfl rfl rfl rfl rfl) rfl rfl rfl (by decide +kernel) ⟨Nat.le_of_ble_eq_true rfl, Nat.le_of_ble_eq_true rfl⟩) hK [0] rfl hP hD hS hA 0 rfl rfl [0, 1, 2, 3] [] rfl rfl (by decide) (by decide) (by decide) rfl hl.1 rfl (Nat.le_of_ble_eq_true rfl) dX0_op_37 ⟨Nat.le_of_ble_eq_true rfl, Nat.le_of_ble_eq_true rfl⟩ rfl rfl (fun H locs hP hD hS => ?_)
  refine lv_istore (lv' := [(5, .int (V a &&& V b)), (0, .ref x0), (1, .int 2), (2, .int (nI d)), (3, .int (nI a)), (4, .int (nI b))]) hx hb dX0_op_40 hl (by decide) rfl (fun ls hl => ?_)
  refine lv_aload_n hx hb dX0_op_42 rfl (lv_at hl 1 rfl) ?_
  refine lv_iload_n hx hb dX0_op_43 rfl (lv_at hl 2 rfl) ?_
  refine lv_iload_n hx hb dX0_op_44 rfl (lv_at hl 3 rfl) ?_
  refine lv_iload_n hx hb dX0_op_45 rfl (lv_at hl 4 rfl) ?_
  refine lv_iload hx hb dX0_op_46 (lv_at hl 5 rfl) ?_
  refine sm_callV (C := RX0) (As := [.int 2, .int (nI d), .int (nI a), .int (nI b)]) (rest := []) (wr := []) (wn := (sm_wX cI x0 x1 x2 x3 V S M)) (st1 := [.int ((S a ||| S b) &&& (S a ||| V a) &&& (S b ||| V b))]) ⟨hx, hb, hml, hown, hts⟩ (c_shadowOf_2 l D cI x0 x1 x2 x3 V S M d a b hd ha hb') (cwV 4 hts (sm_gV (i1 := 139) (i2 := 140) (i3 := 346) (i4 := 1) (i5 := 141) rfl rfl rfl rfl rfl) rfl rfl rfl (by decide +kernel) ⟨Nat.le_of_ble_eq_true rfl, Nat.le_of_ble_eq_true rfl⟩) hK [0] rfl hP hD hS hA 0 rfl rfl [0, 1, 2, 3] [] rfl rfl (by decide) (by decide) (by decide) rfl hl.1 rfl (Nat.le_of_ble_eq_true rfl) dX0_op_48 ⟨Nat.le_of_ble_eq_true rfl, Nat.le_of_ble_eq_true rfl⟩ rfl rfl (fun H locs hP hD hS => ?_)
  refine lv_istore (lv' := [(6, .int ((S a ||| S b) &&& (S a ||| V a) &&& (S b ||| V b))), (5, .int (V a &&& V b)), (0, .ref x0), (1, .int 2), (2, .int (nI d)), (3, .int (nI a)), (4, .int (nI b))]) hx hb dX0_op_51 hl (by decide) rfl (fun ls hl => ?_)
  refine lv_aload_n hx hb dX0_op_53 rfl (lv_at hl 2 rfl) ?_
  refine va_get (D := D) (ci := 0) (v := .ref x1) (C := RX0) (T := TX0) (N := 3) hx hb hts inX0 hown hK hP 0 rfl rfl 0 (by decide) (hw 18 rfl) (fun _ h9 => h9) rfl dX0_op_54 ?_
  refine lv_iload_n hx hb dX0_op_57 rfl (lv_at hl 4 rfl) ?_
  refine lv_iload hx hb dX0_op_58 (lv_at hl 1 rfl) ?_
  refine sm_iast (f' := upd V d (V a &&& V b)) (ws' := (sm_wX cI x0 x1 x2 x3 (upd V d (V a &&& V b)) S M)) hx hb hK hP hD hS 1 0 rfl rfl (vp_in_nI (n := d) (by omega) (by decide)) dX0_op_60 (by rw [nI_clamp (by omega)]) rfl (fun H locs hP hD hS => ?_)
  refine lv_aload_n hx hb dX0_op_61 rfl (lv_at hl 2 rfl) ?_
  refine va_get (D := D) (ci := 0) (v := .ref x2) (C := RX0) (T := TX0) (N := 3) hx hb hts inX0 hown hK hP 0 rfl rfl 1 (by decide) (hw 19 rfl) (fun _ h9 => h9) rfl dX0_op_62 ?_
  refine lv_iload_n hx hb dX0_op_65 rfl (lv_at hl 4 rfl) ?_
  refine lv_iload hx hb dX0_op_66 (lv_at hl 0 rfl) ?_
  refine sm_iast (f' := upd S d ((S a ||| S b) &&& (S a ||| V a) &&& (S b ||| V b))) (ws' := (sm_wX cI x0 x1 x2 x3 (upd V d (V a &&& V b)) (upd S d ((S a ||| S b) &&& (S a ||| V a) &&& (S b ||| V b))) M)) hx hb hK hP hD hS 2 0 rfl rfl (vp_in_nI (n := d) (by omega) (by decide)) dX0_op_68 (by rw [nI_clamp (by omega)]) rfl (fun H locs hP hD hS => ?_)
  exact sm_vret hx hb hrt hlocks hS hP hD dX0_op_69
set_option maxHeartbeats 4000000 in
set_option maxRecDepth 100000 in
theorem c_op_3 (l : Launch) (D : va_G) (cI : ClassId) (x0 x1 x2 x3 : Nat) (V S M : Nat → Int32) (d a b : Nat) (hd : d < 16) (ha : a < 16) (hb' : b < 16) : sm_C l yX0_op wsX0_op ({ frames := 6, cells := 0, slots := 0, locals := 140 } : Room) D vwCl [(cI, .int)] [.ref x0, .int 3, .int (nI d), .int (nI a), .int (nI b)] (sm_wX cI x0 x1 x2 x3 V S M) none (sm_wX cI x0 x1 x2 x3 (upd V d (V a ||| V b)) (upd S d ((S a ||| S b) &&& (S a ||| (V a ^^^ (-1))) &&& (S b ||| (V b ^^^ (-1))))) M) := by
  refine sm_start (cc := cX0_op) (maxL := 7) (ret := none) (lv := [(0, .ref x0), (1, .int 3), (2, .int (nI d)), (3, .int (nI a)), (4, .int (nI b))]) (by decide) rfl (Nat.le_of_ble_eq_true rfl) rfl ?_
  intro p e s m below meth c hx hb hrt hts hown hlocks hml hin hK hP hD hS hA ls hl
  have hw := sm_hw hts
  refine lv_iload_n hx hb dX0_op_0 rfl (lv_at hl 1 rfl) ?_
  refine lv_if_lt (tgt := 10) hx hb dX0_op_1 rfl (fun z => absurd z (by decide)) (fun _ => ?_)
  refine lv_iload_n hx hb dX0_op_4 rfl (lv_at hl 1 rfl) ?_
  refine lv_bipush (v := 12) hx hb dX0_op_5 (by decide) ?_
  refine lv_icmp_le (tgt := 18) hx hb dX0_op_7 rfl (fun _ => ?_) (fun z => absurd (by decide) z)
  refine lv_iload_n hx hb dX0_op_18 rfl (lv_at hl 2 rfl) ?_
  refine sm_callS (As := [.int (nI d)]) (rest := []) (wr := (sm_wX cI x0 x1 x2 x3 V S M)) (wn := (sm_wX cI x0 x1 x2 x3 V S M)) (st1 := []) ⟨hx, hb, hml, hown, hts⟩ (c_checkRegister l D d (by omega)) (va_cwS 1 hts (sm_gS (i1 := 47) (i2 := 48) (i4 := 1) (i5 := 49) rfl rfl rfl rfl) rfl rfl rfl (by decide +kernel) ⟨Nat.le_of_ble_eq_true rfl, Nat.le_of_ble_eq_true rfl⟩) hK [] rfl hP hD hS hA [] [0, 1, 2, 3] rfl rfl (by decide) (by decide) (by decide) rfl hl.1 rfl (Nat.le_of_ble_eq_true rfl) dX0_op_19 ⟨Nat.le_of_ble_eq_true rfl, Nat.le_of_ble_eq_true rfl⟩ rfl rfl (fun H locs hP hD hS => ?_)
  refine lv_iload_n hx hb dX0_op_22 rfl (lv_at hl 3 rfl) ?_
  refine sm_callS (As := [.int (nI a)]) (rest := []) (wr := (sm_wX cI x0 x1 x2 x3 V S M)) (wn := (sm_wX cI x0 x1 x2 x3 V S M)) (st1 := []) ⟨hx, hb, hml, hown, hts⟩ (c_checkRegister l D a (by omega)) (va_cwS 1 hts (sm_gS (i1 := 47) (i2 := 48) (i4 := 1) (i5 := 49) rfl rfl rfl rfl) rfl rfl rfl (by decide +kernel) ⟨Nat.le_of_ble_eq_true rfl, Nat.le_of_ble_eq_true rfl⟩) hK [] rfl hP hD hS hA [] [0, 1, 2, 3] rfl rfl (by decide) (by decide) (by decide) rfl hl.1 rfl (Nat.le_of_ble_eq_true rfl) dX0_op_23 ⟨Nat.le_of_ble_eq_true rfl, Nat.le_of_ble_eq_true rfl⟩ rfl rfl (fun H locs hP hD hS => ?_)
  refine lv_iload hx hb dX0_op_26 (lv_at hl 4 rfl) ?_
  refine sm_callS (As := [.int (nI b)]) (rest := []) (wr := (sm_wX cI x0 x1 x2 x3 V S M)) (wn := (sm_wX cI x0 x1 x2 x3 V S M)) (st1 := []) ⟨hx, hb, hml, hown, hts⟩ (c_checkRegister l D b (by omega)) (va_cwS 1 hts (sm_gS (i1 := 47) (i2 := 48) (i4 := 1) (i5 := 49) rfl rfl rfl rfl) rfl rfl rfl (by decide +kernel) ⟨Nat.le_of_ble_eq_true rfl, Nat.le_of_ble_eq_true rfl⟩) hK [] rfl hP hD hS hA [] [0, 1, 2, 3] rfl rfl (by decide) (by decide) (by decide) rfl hl.1 rfl (Nat.le_of_ble_eq_true rfl) dX0_op_28 ⟨Nat.le_of_ble_eq_true rfl, Nat.le_of_ble_eq_true rfl⟩ rfl rfl (fun H locs hP hD hS => ?_)
  refine lv_aload_n hx hb dX0_op_31 rfl (lv_at hl 0 rfl) ?_
  refine lv_iload_n hx hb dX0_op_32 rfl (lv_at hl 1 rfl) ?_
  refine lv_iload_n hx hb dX0_op_33 rfl (lv_at hl 2 rfl) ?_
  refine lv_iload_n hx hb dX0_op_34 rfl (lv_at hl 3 rfl) ?_
  refine lv_iload hx hb dX0_op_35 (lv_at hl 4 rfl) ?_
  refine sm_callV (C := RX0) (As := [.int 3, .int (nI d), .int (nI a), .int (nI b)]) (rest := []) (wr := []) (wn := (sm_wX cI x0 x1 x2 x3 V S M)) (st1 := [.int (V a ||| V b)]) ⟨hx, hb, hml, hown, hts⟩ (c_valueOf_3 l D cI x0 x1 x2 x3 V S M d a b hd ha hb') (cwV 4 hts (sm_gV (i1 := 123) (i2 := 124) (i3 := 344) (i4 := 1) (i5 := 125) rfl rfl rfl rfl rfl) rfl rfl rfl (by decide +kernel) ⟨Nat.le_of_ble_eq_true rfl, Nat.le_of_ble_eq_true rfl⟩) hK [0] rfl hP hD hS hA 0 rfl rfl [0, 1, 2, 3] [] rfl rfl (by decide) (by decide) (by decide) rfl hl.1 rfl (Nat.le_of_ble_eq_true rfl) dX0_op_37 ⟨Nat.le_of_ble_eq_true rfl, Nat.le_of_ble_eq_true rfl⟩ rfl rfl (fun H locs hP hD hS => ?_)
  refine lv_istore (lv' := [(5, .int (V a ||| V b)), (0, .ref x0), (1, .int 3), (2, .int (nI d)), (3, .int (nI a)), (4, .int (nI b))]) hx hb dX0_op_40 hl (by decide) rfl (fun ls hl => ?_)
  refine lv_aload_n hx hb dX0_op_42 rfl (lv_at hl 1 rfl) ?_
  refine lv_iload_n hx hb dX0_op_43 rfl (lv_at hl 2 rfl) ?_
  refine lv_iload_n hx hb dX0_op_44 rfl (lv_at hl 3 rfl) ?_
  refine lv_iload_n hx hb dX0_op_45 rfl (lv_at hl 4 rfl) ?_
  refine lv_iload hx hb dX0_op_46 (lv_at hl 5 rfl) ?_
  refine sm_callV (C := RX0) (As := [.int 3, .int (nI d), .int (nI a), .int (nI b)]) (rest := []) (wr := []) (wn := (sm_wX cI x0 x1 x2 x3 V S M)) (st1 := [.int ((S a ||| S b) &&& (S a ||| (V a ^^^ (-1))) &&& (S b ||| (V b ^^^ (-1))))]) ⟨hx, hb, hml, hown, hts⟩ (c_shadowOf_3 l D cI x0 x1 x2 x3 V S M d a b hd ha hb') (cwV 4 hts (sm_gV (i1 := 139) (i2 := 140) (i3 := 346) (i4 := 1) (i5 := 141) rfl rfl rfl rfl rfl) rfl rfl rfl (by decide +kernel) ⟨Nat.le_of_ble_eq_true rfl, Nat.le_of_ble_eq_true rfl⟩) hK [0] rfl hP hD hS hA 0 rfl rfl [0, 1, 2, 3] [] rfl rfl (by decide) (by decide) (by decide) rfl hl.1 rfl (Nat.le_of_ble_eq_true rfl) dX0_op_48 ⟨Nat.le_of_ble_eq_true rfl, Nat.le_of_ble_eq_true rfl⟩ rfl rfl (fun H locs hP hD hS => ?_)
  refine lv_istore (lv' := [(6, .int ((S a ||| S b) &&& (S a ||| (V a ^^^ (-1))) &&& (S b ||| (V b ^^^ (-1))))), (5, .int (V a ||| V b)), (0, .ref x0), (1, .int 3), (2, .int (nI d)), (3, .int (nI a)), (4, .int (nI b))]) hx hb dX0_op_51 hl (by decide) rfl (fun ls hl => ?_)
  refine lv_aload_n hx hb dX0_op_53 rfl (lv_at hl 2 rfl) ?_
  refine va_get (D := D) (ci := 0) (v := .ref x1) (C := RX0) (T := TX0) (N := 3) hx hb hts inX0 hown hK hP 0 rfl rfl 0 (by decide) (hw 18 rfl) (fun _ h9 => h9) rfl dX0_op_54 ?_
  refine lv_iload_n hx hb dX0_op_57 rfl (lv_at hl 4 rfl) ?_
  refine lv_iload hx hb dX0_op_58 (lv_at hl 1 rfl) ?_
  refine sm_iast (f' := upd V d (V a ||| V b)) (ws' := (sm_wX cI x0 x1 x2 x3 (upd V d (V a ||| V b)) S M)) hx hb hK hP hD hS 1 0 rfl rfl (vp_in_nI (n := d) (by omega) (by decide)) dX0_op_60 (by rw [nI_clamp (by omega)]) rfl (fun H locs hP hD hS => ?_)
  refine lv_aload_n hx hb dX0_op_61 rfl (lv_at hl 2 rfl) ?_
  refine va_get (D := D) (ci := 0) (v := .ref x2) (C := RX0) (T := TX0) (N := 3) hx hb hts inX0 hown hK hP 0 rfl rfl 1 (by decide) (hw 19 rfl) (fun _ h9 => h9) rfl dX0_op_62 ?_
  refine lv_iload_n hx hb dX0_op_65 rfl (lv_at hl 4 rfl) ?_
  refine lv_iload hx hb dX0_op_66 (lv_at hl 0 rfl) ?_
  refine sm_iast (f' := upd S d ((S a ||| S b) &&& (S a ||| (V a ^^^ (-1))) &&& (S b ||| (V b ^^^ (-1))))) (ws' := (sm_wX cI x0 x1 x2 x3 (upd V d (V a ||| V b)) (upd S d ((S a ||| S b) &&& (S a ||| (V a ^^^ (-1))) &&& (S b ||| (V b ^^^ (-1))))) M)) hx hb hK hP hD hS 2 0 rfl rfl (vp_in_nI (n := d) (by omega) (by decide)) dX0_op_68 (by rw [nI_clamp (by omega)]) rfl (fun H locs hP hD hS => ?_)
  exact sm_vret hx hb hrt hlocks hS hP hD dX0_op_69
set_option maxHeartbeats 4000000 in
set_option maxRecDepth 100000 in
theorem c_op_4 (l : Launch) (D : va_G) (cI : ClassId) (x0 x1 x2 x3 : Nat) (V S M : Nat → Int32) (d a b : Nat) (hd : d < 16) (ha : a < 16) (hb' : b < 16) : sm_C l yX0_op wsX0_op ({ frames := 6, cells := 0, slots := 0, locals := 140 } : Room) D vwCl [(cI, .int)] [.ref x0, .int 4, .int (nI d), .int (nI a), .int (nI b)] (sm_wX cI x0 x1 x2 x3 V S M) none (sm_wX cI x0 x1 x2 x3 (upd V d (V a ^^^ V b)) (upd S d (S a ||| S b)) M) := by
  refine sm_start (cc := cX0_op) (maxL := 7) (ret := none) (lv := [(0, .ref x0), (1, .int 4), (2, .int (nI d)), (3, .int (nI a)), (4, .int (nI b))]) (by decide) rfl (Nat.le_of_ble_eq_true rfl) rfl ?_
  intro p e s m below meth c hx hb hrt hts hown hlocks hml hin hK hP hD hS hA ls hl
  have hw := sm_hw hts
  refine lv_iload_n hx hb dX0_op_0 rfl (lv_at hl 1 rfl) ?_
  refine lv_if_lt (tgt := 10) hx hb dX0_op_1 rfl (fun z => absurd z (by decide)) (fun _ => ?_)
  refine lv_iload_n hx hb dX0_op_4 rfl (lv_at hl 1 rfl) ?_
  refine lv_bipush (v := 12) hx hb dX0_op_5 (by decide) ?_
  refine lv_icmp_le (tgt := 18) hx hb dX0_op_7 rfl (fun _ => ?_) (fun z => absurd (by decide) z)
  refine lv_iload_n hx hb dX0_op_18 rfl (lv_at hl 2 rfl) ?_
  refine sm_callS (As := [.int (nI d)]) (rest := []) (wr := (sm_wX cI x0 x1 x2 x3 V S M)) (wn := (sm_wX cI x0 x1 x2 x3 V S M)) (st1 := []) ⟨hx, hb, hml, hown, hts⟩ (c_checkRegister l D d (by omega)) (va_cwS 1 hts (sm_gS (i1 := 47) (i2 := 48) (i4 := 1) (i5 := 49) rfl rfl rfl rfl) rfl rfl rfl (by decide +kernel) ⟨Nat.le_of_ble_eq_true rfl, Nat.le_of_ble_eq_true rfl⟩) hK [] rfl hP hD hS hA [] [0, 1, 2, 3] rfl rfl (by decide) (by decide) (by decide) rfl hl.1 rfl (Nat.le_of_ble_eq_true rfl) dX0_op_19 ⟨Nat.le_of_ble_eq_true rfl, Nat.le_of_ble_eq_true rfl⟩ rfl rfl (fun H locs hP hD hS => ?_)
  refine lv_iload_n hx hb dX0_op_22 rfl (lv_at hl 3 rfl) ?_
  refine sm_callS (As := [.int (nI a)]) (rest := []) (wr := (sm_wX cI x0 x1 x2 x3 V S M)) (wn := (sm_wX cI x0 x1 x2 x3 V S M)) (st1 := []) ⟨hx, hb, hml, hown, hts⟩ (c_checkRegister l D a (by omega)) (va_cwS 1 hts (sm_gS (i1 := 47) (i2 := 48) (i4 := 1) (i5 := 49) rfl rfl rfl rfl) rfl rfl rfl (by decide +kernel) ⟨Nat.le_of_ble_eq_true rfl, Nat.le_of_ble_eq_true rfl⟩) hK [] rfl hP hD hS hA [] [0, 1, 2, 3] rfl rfl (by decide) (by decide) (by decide) rfl hl.1 rfl (Nat.le_of_ble_eq_true rfl) dX0_op_23 ⟨Nat.le_of_ble_eq_true rfl, Nat.le_of_ble_eq_true rfl⟩ rfl rfl (fun H locs hP hD hS => ?_)
  refine lv_iload hx hb dX0_op_26 (lv_at hl 4 rfl) ?_
  refine sm_callS (As := [.int (nI b)]) (rest := []) (wr := (sm_wX cI x0 x1 x2 x3 V S M)) (wn := (sm_wX cI x0 x1 x2 x3 V S M)) (st1 := []) ⟨hx, hb, hml, hown, hts⟩ (c_checkRegister l D b (by omega)) (va_cwS 1 hts (sm_gS (i1 := 47) (i2 := 48) (i4 := 1) (i5 := 49) rfl rfl rfl rfl) rfl rfl rfl (by decide +kernel) ⟨Nat.le_of_ble_eq_true rfl, Nat.le_of_ble_eq_true rfl⟩) hK [] rfl hP hD hS hA [] [0, 1, 2, 3] rfl rfl (by decide) (by decide) (by decide) rfl hl.1 rfl (Nat.le_of_ble_eq_true rfl) dX0_op_28 ⟨Nat.le_of_ble_eq_true rfl, Nat.le_of_ble_eq_true rfl⟩ rfl rfl (fun H locs hP hD hS => ?_)
  refine lv_aload_n hx hb dX0_op_31 rfl (lv_at hl 0 rfl) ?_
  refine lv_iload_n hx hb dX0_op_32 rfl (lv_at hl 1 rfl) ?_
  refine lv_iload_n hx hb dX0_op_33 rfl (lv_at hl 2 rfl) ?_
  refine lv_iload_n hx hb dX0_op_34 rfl (lv_at hl 3 rfl) ?_
  refine lv_iload hx hb dX0_op_35 (lv_at hl 4 rfl) ?_
  refine sm_callV (C := RX0) (As := [.int 4, .int (nI d), .int (nI a), .int (nI b)]) (rest := []) (wr := []) (wn := (sm_wX cI x0 x1 x2 x3 V S M)) (st1 := [.int (V a ^^^ V b)]) ⟨hx, hb, hml, hown, hts⟩ (c_valueOf_4 l D cI x0 x1 x2 x3 V S M d a b hd ha hb') (cwV 4 hts (sm_gV (i1 := 123) (i2 := 124) (i3 := 344) (i4 := 1) (i5 := 125) rfl rfl rfl rfl rfl) rfl rfl rfl (by decide +kernel) ⟨Nat.le_of_ble_eq_true rfl, Nat.le_of_ble_eq_true rfl⟩) hK [0] rfl hP hD hS hA 0 rfl rfl [0, 1, 2, 3] [] rfl rfl (by decide) (by decide) (by decide) rfl hl.1 rfl (Nat.le_of_ble_eq_true rfl) dX0_op_37 ⟨Nat.le_of_ble_eq_true rfl, Nat.le_of_ble_eq_true rfl⟩ rfl rfl (fun H locs hP hD hS => ?_)
  refine lv_istore (lv' := [(5, .int (V a ^^^ V b)), (0, .ref x0), (1, .int 4), (2, .int (nI d)), (3, .int (nI a)), (4, .int (nI b))]) hx hb dX0_op_40 hl (by decide) rfl (fun ls hl => ?_)
  refine lv_aload_n hx hb dX0_op_42 rfl (lv_at hl 1 rfl) ?_
  refine lv_iload_n hx hb dX0_op_43 rfl (lv_at hl 2 rfl) ?_
  refine lv_iload_n hx hb dX0_op_44 rfl (lv_at hl 3 rfl) ?_
  refine lv_iload_n hx hb dX0_op_45 rfl (lv_at hl 4 rfl) ?_
  refine lv_iload hx hb dX0_op_46 (lv_at hl 5 rfl) ?_
  refine sm_callV (C := RX0) (As := [.int 4, .int (nI d), .int (nI a), .int (nI b)]) (rest := []) (wr := []) (wn := (sm_wX cI x0 x1 x2 x3 V S M)) (st1 := [.int (S a ||| S b)]) ⟨hx, hb, hml, hown, hts⟩ (c_shadowOf_4 l D cI x0 x1 x2 x3 V S M d a b hd ha hb') (cwV 4 hts (sm_gV (i1 := 139) (i2 := 140) (i3 := 346) (i4 := 1) (i5 := 141) rfl rfl rfl rfl rfl) rfl rfl rfl (by decide +kernel) ⟨Nat.le_of_ble_eq_true rfl, Nat.le_of_ble_eq_true rfl⟩) hK [0] rfl hP hD hS hA 0 rfl rfl [0, 1, 2, 3] [] rfl rfl (by decide) (by decide) (by decide) rfl hl.1 rfl (Nat.le_of_ble_eq_true rfl) dX0_op_48 ⟨Nat.le_of_ble_eq_true rfl, Nat.le_of_ble_eq_true rfl⟩ rfl rfl (fun H locs hP hD hS => ?_)
  refine lv_istore (lv' := [(6, .int (S a ||| S b)), (5, .int (V a ^^^ V b)), (0, .ref x0), (1, .int 4), (2, .int (nI d)), (3, .int (nI a)), (4, .int (nI b))]) hx hb dX0_op_51 hl (by decide) rfl (fun ls hl => ?_)
  refine lv_aload_n hx hb dX0_op_53 rfl (lv_at hl 2 rfl) ?_
  refine va_get (D := D) (ci := 0) (v := .ref x1) (C := RX0) (T := TX0) (N := 3) hx hb hts inX0 hown hK hP 0 rfl rfl 0 (by decide) (hw 18 rfl) (fun _ h9 => h9) rfl dX0_op_54 ?_
  refine lv_iload_n hx hb dX0_op_57 rfl (lv_at hl 4 rfl) ?_
  refine lv_iload hx hb dX0_op_58 (lv_at hl 1 rfl) ?_
  refine sm_iast (f' := upd V d (V a ^^^ V b)) (ws' := (sm_wX cI x0 x1 x2 x3 (upd V d (V a ^^^ V b)) S M)) hx hb hK hP hD hS 1 0 rfl rfl (vp_in_nI (n := d) (by omega) (by decide)) dX0_op_60 (by rw [nI_clamp (by omega)]) rfl (fun H locs hP hD hS => ?_)
  refine lv_aload_n hx hb dX0_op_61 rfl (lv_at hl 2 rfl) ?_
  refine va_get (D := D) (ci := 0) (v := .ref x2) (C := RX0) (T := TX0) (N := 3) hx hb hts inX0 hown hK hP 0 rfl rfl 1 (by decide) (hw 19 rfl) (fun _ h9 => h9) rfl dX0_op_62 ?_
  refine lv_iload_n hx hb dX0_op_65 rfl (lv_at hl 4 rfl) ?_
  refine lv_iload hx hb dX0_op_66 (lv_at hl 0 rfl) ?_
  refine sm_iast (f' := upd S d (S a ||| S b)) (ws' := (sm_wX cI x0 x1 x2 x3 (upd V d (V a ^^^ V b)) (upd S d (S a ||| S b)) M)) hx hb hK hP hD hS 2 0 rfl rfl (vp_in_nI (n := d) (by omega) (by decide)) dX0_op_68 (by rw [nI_clamp (by omega)]) rfl (fun H locs hP hD hS => ?_)
  exact sm_vret hx hb hrt hlocks hS hP hD dX0_op_69
set_option maxHeartbeats 4000000 in
set_option maxRecDepth 100000 in
theorem c_op_5 (l : Launch) (D : va_G) (cI : ClassId) (x0 x1 x2 x3 : Nat) (V S M : Nat → Int32) (d a b : Nat) (hd : d < 16) (ha : a < 16) (hb' : b < 16) : sm_C l yX0_op wsX0_op ({ frames := 6, cells := 0, slots := 0, locals := 140 } : Room) D vwCl [(cI, .int)] [.ref x0, .int 5, .int (nI d), .int (nI a), .int (nI b)] (sm_wX cI x0 x1 x2 x3 V S M) none (sm_wX cI x0 x1 x2 x3 (upd V d (V a <<< ((V b &&& 31) &&& 31))) (upd S d (if S b &&& 31 = 0 then S a <<< ((V b &&& 31) &&& 31) else (-1))) M) := by
  refine sm_start (cc := cX0_op) (maxL := 7) (ret := none) (lv := [(0, .ref x0), (1, .int 5), (2, .int (nI d)), (3, .int (nI a)), (4, .int (nI b))]) (by decide) rfl (Nat.le_of_ble_eq_true rfl) rfl ?_
  intro p e s m below meth c hx hb hrt hts hown hlocks hml hin hK hP hD hS hA ls hl
  have hw := sm_hw hts
  refine lv_iload_n hx hb dX0_op_0 rfl (lv_at hl 1 rfl) ?_
  refine lv_if_lt (tgt := 10) hx hb dX0_op_1 rfl (fun z => absurd z (by decide)) (fun _ => ?_)
  refine lv_iload_n hx hb dX0_op_4 rfl (lv_at hl 1 rfl) ?_
  refine lv_bipush (v := 12) hx hb dX0_op_5 (by decide) ?_
  refine lv_icmp_le (tgt := 18) hx hb dX0_op_7 rfl (fun _ => ?_) (fun z => absurd (by decide) z)
  refine lv_iload_n hx hb dX0_op_18 rfl (lv_at hl 2 rfl) ?_
  refine sm_callS (As := [.int (nI d)]) (rest := []) (wr := (sm_wX cI x0 x1 x2 x3 V S M)) (wn := (sm_wX cI x0 x1 x2 x3 V S M)) (st1 := []) ⟨hx, hb, hml, hown, hts⟩ (c_checkRegister l D d (by omega)) (va_cwS 1 hts (sm_gS (i1 := 47) (i2 := 48) (i4 := 1) (i5 := 49) rfl rfl rfl rfl) rfl rfl rfl (by decide +kernel) ⟨Nat.le_of_ble_eq_true rfl, Nat.le_of_ble_eq_true rfl⟩) hK [] rfl hP hD hS hA [] [0, 1, 2, 3] rfl rfl (by decide) (by decide) (by decide) rfl hl.1 rfl (Nat.le_of_ble_eq_true rfl) dX0_op_19 ⟨Nat.le_of_ble_eq_true rfl, Nat.le_of_ble_eq_true rfl⟩ rfl rfl (fun H locs hP hD hS => ?_)
  refine lv_iload_n hx hb dX0_op_22 rfl (lv_at hl 3 rfl) ?_
  refine sm_callS (As := [.int (nI a)]) (rest := []) (wr := (sm_wX cI x0 x1 x2 x3 V S M)) (wn := (sm_wX cI x0 x1 x2 x3 V S M)) (st1 := []) ⟨hx, hb, hml, hown, hts⟩ (c_checkRegister l D a (by omega)) (va_cwS 1 hts (sm_gS (i1 := 47) (i2 := 48) (i4 := 1) (i5 := 49) rfl rfl rfl rfl) rfl rfl rfl (by decide +kernel) ⟨Nat.le_of_ble_eq_true rfl, Nat.le_of_ble_eq_true rfl⟩) hK [] rfl hP hD hS hA [] [0, 1, 2, 3] rfl rfl (by decide) (by decide) (by decide) rfl hl.1 rfl (Nat.le_of_ble_eq_true rfl) dX0_op_23 ⟨Nat.le_of_ble_eq_true rfl, Nat.le_of_ble_eq_true rfl⟩ rfl rfl (fun H locs hP hD hS => ?_)
  refine lv_iload hx hb dX0_op_26 (lv_at hl 4 rfl) ?_
  refine sm_callS (As := [.int (nI b)]) (rest := []) (wr := (sm_wX cI x0 x1 x2 x3 V S M)) (wn := (sm_wX cI x0 x1 x2 x3 V S M)) (st1 := []) ⟨hx, hb, hml, hown, hts⟩ (c_checkRegister l D b (by omega)) (va_cwS 1 hts (sm_gS (i1 := 47) (i2 := 48) (i4 := 1) (i5 := 49) rfl rfl rfl rfl) rfl rfl rfl (by decide +kernel) ⟨Nat.le_of_ble_eq_true rfl, Nat.le_of_ble_eq_true rfl⟩) hK [] rfl hP hD hS hA [] [0, 1, 2, 3] rfl rfl (by decide) (by decide) (by decide) rfl hl.1 rfl (Nat.le_of_ble_eq_true rfl) dX0_op_28 ⟨Nat.le_of_ble_eq_true rfl, Nat.le_of_ble_eq_true rfl⟩ rfl rfl (fun H locs hP hD hS => ?_)
  refine lv_aload_n hx hb dX0_op_31 rfl (lv_at hl 0 rfl) ?_
  refine lv_iload_n hx hb dX0_op_32 rfl (lv_at hl 1 rfl) ?_
  refine lv_iload_n hx hb dX0_op_33 rfl (lv_at hl 2 rfl) ?_
  refine lv_iload_n hx hb dX0_op_34 rfl (lv_at hl 3 rfl) ?_
  refine lv_iload hx hb dX0_op_35 (lv_at hl 4 rfl) ?_
  refine sm_callV (C := RX0) (As := [.int 5, .int (nI d), .int (nI a), .int (nI b)]) (rest := []) (wr := []) (wn := (sm_wX cI x0 x1 x2 x3 V S M)) (st1 := [.int (V a <<< ((V b &&& 31) &&& 31))]) ⟨hx, hb, hml, hown, hts⟩ (c_valueOf_5 l D cI x0 x1 x2 x3 V S M d a b hd ha hb') (cwV 4 hts (sm_gV (i1 := 123) (i2 := 124) (i3 := 344) (i4 := 1) (i5 := 125) rfl rfl rfl rfl rfl) rfl rfl rfl (by decide +kernel) ⟨Nat.le_of_ble_eq_true rfl, Nat.le_of_ble_eq_true rfl⟩) hK [0] rfl hP hD hS hA 0 rfl rfl [0, 1, 2, 3] [] rfl rfl (by decide) (by decide) (by decide) rfl hl.1 rfl (Nat.le_of_ble_eq_true rfl) dX0_op_37 ⟨Nat.le_of_ble_eq_true rfl, Nat.le_of_ble_eq_true rfl⟩ rfl rfl (fun H locs hP hD hS => ?_)
  refine lv_istore (lv' := [(5, .int (V a <<< ((V b &&& 31) &&& 31))), (0, .ref x0), (1, .int 5), (2, .int (nI d)), (3, .int (nI a)), (4, .int (nI b))]) hx hb dX0_op_40 hl (by decide) rfl (fun ls hl => ?_)
  refine lv_aload_n hx hb dX0_op_42 rfl (lv_at hl 1 rfl) ?_
  refine lv_iload_n hx hb dX0_op_43 rfl (lv_at hl 2 rfl) ?_
  refine lv_iload_n hx hb dX0_op_44 rfl (lv_at hl 3 rfl) ?_
  refine lv_iload_n hx hb dX0_op_45 rfl (lv_at hl 4 rfl) ?_
  refine lv_iload hx hb dX0_op_46 (lv_at hl 5 rfl) ?_
  refine sm_callV (C := RX0) (As := [.int 5, .int (nI d), .int (nI a), .int (nI b)]) (rest := []) (wr := []) (wn := (sm_wX cI x0 x1 x2 x3 V S M)) (st1 := [.int (if S b &&& 31 = 0 then S a <<< ((V b &&& 31) &&& 31) else (-1))]) ⟨hx, hb, hml, hown, hts⟩ (c_shadowOf_5 l D cI x0 x1 x2 x3 V S M d a b hd ha hb') (cwV 4 hts (sm_gV (i1 := 139) (i2 := 140) (i3 := 346) (i4 := 1) (i5 := 141) rfl rfl rfl rfl rfl) rfl rfl rfl (by decide +kernel) ⟨Nat.le_of_ble_eq_true rfl, Nat.le_of_ble_eq_true rfl⟩) hK [0] rfl hP hD hS hA 0 rfl rfl [0, 1, 2, 3] [] rfl rfl (by decide) (by decide) (by decide) rfl hl.1 rfl (Nat.le_of_ble_eq_true rfl) dX0_op_48 ⟨Nat.le_of_ble_eq_true rfl, Nat.le_of_ble_eq_true rfl⟩ rfl rfl (fun H locs hP hD hS => ?_)
  refine lv_istore (lv' := [(6, .int (if S b &&& 31 = 0 then S a <<< ((V b &&& 31) &&& 31) else (-1))), (5, .int (V a <<< ((V b &&& 31) &&& 31))), (0, .ref x0), (1, .int 5), (2, .int (nI d)), (3, .int (nI a)), (4, .int (nI b))]) hx hb dX0_op_51 hl (by decide) rfl (fun ls hl => ?_)
  refine lv_aload_n hx hb dX0_op_53 rfl (lv_at hl 2 rfl) ?_
  refine va_get (D := D) (ci := 0) (v := .ref x1) (C := RX0) (T := TX0) (N := 3) hx hb hts inX0 hown hK hP 0 rfl rfl 0 (by decide) (hw 18 rfl) (fun _ h9 => h9) rfl dX0_op_54 ?_
  refine lv_iload_n hx hb dX0_op_57 rfl (lv_at hl 4 rfl) ?_
  refine lv_iload hx hb dX0_op_58 (lv_at hl 1 rfl) ?_
  refine sm_iast (f' := upd V d (V a <<< ((V b &&& 31) &&& 31))) (ws' := (sm_wX cI x0 x1 x2 x3 (upd V d (V a <<< ((V b &&& 31) &&& 31))) S M)) hx hb hK hP hD hS 1 0 rfl rfl (vp_in_nI (n := d) (by omega) (by decide)) dX0_op_60 (by rw [nI_clamp (by omega)]) rfl (fun H locs hP hD hS => ?_)
  refine lv_aload_n hx hb dX0_op_61 rfl (lv_at hl 2 rfl) ?_
  refine va_get (D := D) (ci := 0) (v := .ref x2) (C := RX0) (T := TX0) (N := 3) hx hb hts inX0 hown hK hP 0 rfl rfl 1 (by decide) (hw 19 rfl) (fun _ h9 => h9) rfl dX0_op_62 ?_
  refine lv_iload_n hx hb dX0_op_65 rfl (lv_at hl 4 rfl) ?_
  refine lv_iload hx hb dX0_op_66 (lv_at hl 0 rfl) ?_
  refine sm_iast (f' := upd S d (if S b &&& 31 = 0 then S a <<< ((V b &&& 31) &&& 31) else (-1))) (ws' := (sm_wX cI x0 x1 x2 x3 (upd V d (V a <<< ((V b &&& 31) &&& 31))) (upd S d (if S b &&& 31 = 0 then S a <<< ((V b &&& 31) &&& 31) else (-1))) M)) hx hb hK hP hD hS 2 0 rfl rfl (vp_in_nI (n := d) (by omega) (by decide)) dX0_op_68 (by rw [nI_clamp (by omega)]) rfl (fun H locs hP hD hS => ?_)
  exact sm_vret hx hb hrt hlocks hS hP hD dX0_op_69
set_option maxHeartbeats 4000000 in
set_option maxRecDepth 100000 in
theorem c_op_6 (l : Launch) (D : va_G) (cI : ClassId) (x0 x1 x2 x3 : Nat) (V S M : Nat → Int32) (d a b : Nat) (hd : d < 16) (ha : a < 16) (hb' : b < 16) : sm_C l yX0_op wsX0_op ({ frames := 6, cells := 0, slots := 0, locals := 140 } : Room) D vwCl [(cI, .int)] [.ref x0, .int 6, .int (nI d), .int (nI a), .int (nI b)] (sm_wX cI x0 x1 x2 x3 V S M) none (sm_wX cI x0 x1 x2 x3 (upd V d (sm_ushr (V a) (V b &&& 31))) (upd S d (if S b &&& 31 = 0 then sm_ushr (S a) (V b &&& 31) else (-1))) M) := by
  refine sm_start (cc := cX0_op) (maxL := 7) (ret := none) (lv := [(0, .ref x0), (1, .int 6), (2, .int (nI d)), (3, .int (nI a)), (4, .int (nI b))]) (by decide) rfl (Nat.le_of_ble_eq_true rfl) rfl ?_
  intro p e s m below meth c hx hb hrt hts hown hlocks hml hin hK hP hD hS hA ls hl
  have hw := sm_hw hts
  refine lv_iload_n hx hb dX0_op_0 rfl (lv_at hl 1 rfl) ?_
  refine lv_if_lt (tgt := 10) hx hb dX0_op_1 rfl (fun z => absurd z (by decide)) (fun _ => ?_)
  refine lv_iload_n hx hb dX0_op_4 rfl (lv_at hl 1 rfl) ?_
  refine lv_bipush (v := 12) hx hb dX0_op_5 (by decide) ?_
  refine lv_icmp_le (tgt := 18) hx hb dX0_op_7 rfl (fun _ => ?_) (fun z => absurd (by decide) z)
  refine lv_iload_n hx hb dX0_op_18 rfl (lv_at hl 2 rfl) ?_
  refine sm_callS (As := [.int (nI d)]) (rest := []) (wr := (sm_wX cI x0 x1 x2 x3 V S M)) (wn := (sm_wX cI x0 x1 x2 x3 V S M)) (st1 := []) ⟨hx, hb, hml, hown, hts⟩ (c_checkRegister l D d (by omega)) (va_cwS 1 hts (sm_gS (i1 := 47) (i2 := 48) (i4 := 1) (i5 := 49) rfl rfl rfl rfl) rfl rfl rfl (by decide +kernel) ⟨Nat.le_of_ble_eq_true rfl, Nat.le_of_ble_eq_true rfl⟩) hK [] rfl hP hD hS hA [] [0, 1, 2, 3] rfl rfl (by decide) (by decide) (by decide) rfl hl.1 rfl (Nat.le_of_ble_eq_true rfl) dX0_op_19 ⟨Nat.le_of_ble_eq_true rfl, Nat.le_of_ble_eq_true rfl⟩ rfl rfl (fun H locs hP hD hS => ?_)
  refine lv_iload_n hx hb dX0_op_22 rfl (lv_at hl 3 rfl) ?_
  refine sm_callS (As := [.int (nI a)]) (rest := []) (wr := (sm_wX cI x0 x1 x2 x3 V S M)) (wn := (sm_wX cI x0 x1 x2 x3 V S M)) (st1 := []) ⟨hx, hb, hml, hown, hts⟩ (c_checkRegister l D a (by omega)) (va_cwS 1 hts (sm_gS (i1 := 47) (i2 := 48) (i4 := 1) (i5 := 49) rfl rfl rfl rfl) rfl rfl rfl (by decide +kernel) ⟨Nat.le_of_ble_eq_true rfl, Nat.le_of_ble_eq_true rfl⟩) hK [] rfl hP hD hS hA [] [0, 1, 2, 3] rfl rfl (by decide) (by decide) (by decide) rfl hl.1 rfl (Nat.le_of_ble_eq_true rfl) dX0_op_23 ⟨Nat.le_of_ble_eq_true rfl, Nat.le_of_ble_eq_true rfl⟩ rfl rfl (fun H locs hP hD hS => ?_)
  refine lv_iload hx hb dX0_op_26 (lv_at hl 4 rfl) ?_
  refine sm_callS (As := [.int (nI b)]) (rest := []) (wr := (sm_wX cI x0 x1 x2 x3 V S M)) (wn := (sm_wX cI x0 x1 x2 x3 V S M)) (st1 := []) ⟨hx, hb, hml, hown, hts⟩ (c_checkRegister l D b (by omega)) (va_cwS 1 hts (sm_gS (i1 := 47) (i2 := 48) (i4 := 1) (i5 := 49) rfl rfl rfl rfl) rfl rfl rfl (by decide +kernel) ⟨Nat.le_of_ble_eq_true rfl, Nat.le_of_ble_eq_true rfl⟩) hK [] rfl hP hD hS hA [] [0, 1, 2, 3] rfl rfl (by decide) (by decide) (by decide) rfl hl.1 rfl (Nat.le_of_ble_eq_true rfl) dX0_op_28 ⟨Nat.le_of_ble_eq_true rfl, Nat.le_of_ble_eq_true rfl⟩ rfl rfl (fun H locs hP hD hS => ?_)
  refine lv_aload_n hx hb dX0_op_31 rfl (lv_at hl 0 rfl) ?_
  refine lv_iload_n hx hb dX0_op_32 rfl (lv_at hl 1 rfl) ?_
  refine lv_iload_n hx hb dX0_op_33 rfl (lv_at hl 2 rfl) ?_
  refine lv_iload_n hx hb dX0_op_34 rfl (lv_at hl 3 rfl) ?_
  refine lv_iload hx hb dX0_op_35 (lv_at hl 4 rfl) ?_
  refine sm_callV (C := RX0) (As := [.int 6, .int (nI d), .int (nI a), .int (nI b)]) (rest := []) (wr := []) (wn := (sm_wX cI x0 x1 x2 x3 V S M)) (st1 := [.int (sm_ushr (V a) (V b &&& 31))]) ⟨hx, hb, hml, hown, hts⟩ (c_valueOf_6 l D cI x0 x1 x2 x3 V S M d a b hd ha hb') (cwV 4 hts (sm_gV (i1 := 123) (i2 := 124) (i3 := 344) (i4 := 1) (i5 := 125) rfl rfl rfl rfl rfl) rfl rfl rfl (by decide +kernel) ⟨Nat.le_of_ble_eq_true rfl, Nat.le_of_ble_eq_true rfl⟩) hK [0] rfl hP hD hS hA 0 rfl rfl [0, 1, 2, 3] [] rfl rfl (by decide) (by decide) (by decide) rfl hl.1 rfl (Nat.le_of_ble_eq_true rfl) dX0_op_37 ⟨Nat.le_of_ble_eq_true rfl, Nat.le_of_ble_eq_true rfl⟩ rfl rfl (fun H locs hP hD hS => ?_)
  refine lv_istore (lv' := [(5, .int (sm_ushr (V a) (V b &&& 31))), (0, .ref x0), (1, .int 6), (2, .int (nI d)), (3, .int (nI a)), (4, .int (nI b))]) hx hb dX0_op_40 hl (by decide) rfl (fun ls hl => ?_)
  refine lv_aload_n hx hb dX0_op_42 rfl (lv_at hl 1 rfl) ?_
  refine lv_iload_n hx hb dX0_op_43 rfl (lv_at hl 2 rfl) ?_
  refine lv_iload_n hx hb dX0_op_44 rfl (lv_at hl 3 rfl) ?_
  refine lv_iload_n hx hb dX0_op_45 rfl (lv_at hl 4 rfl) ?_
  refine lv_iload hx hb dX0_op_46 (lv_at hl 5 rfl) ?_
  refine sm_callV (C := RX0) (As := [.int 6, .int (nI d), .int (nI a), .int (nI b)]) (rest := []) (wr := []) (wn := (sm_wX cI x0 x1 x2 x3 V S M)) (st1 := [.int (if S b &&& 31 = 0 then sm_ushr (S a) (V b &&& 31) else (-1))]) ⟨hx, hb, hml, hown, hts⟩ (c_shadowOf_6 l D cI x0 x1 x2 x3 V S M d a b hd ha hb') (cwV 4 hts (sm_gV (i1 := 139) (i2 := 140) (i3 := 346) (i4 := 1) (i5 := 141) rfl rfl rfl rfl rfl) rfl rfl rfl (by decide +kernel) ⟨Nat.le_of_ble_eq_true rfl, Nat.le_of_ble_eq_true rfl⟩) hK [0] rfl hP hD hS hA 0 rfl rfl [0, 1, 2, 3] [] rfl rfl (by decide) (by decide) (by decide) rfl hl.1 rfl (Nat.le_of_ble_eq_true rfl) dX0_op_48 ⟨Nat.le_of_ble_eq_true rfl, Nat.le_of_ble_eq_true rfl⟩ rfl rfl (fun H locs hP hD hS => ?_)
  refine lv_istore (lv' := [(6, .int (if S b &&& 31 = 0 then sm_ushr (S a) (V b &&& 31) else (-1))), (5, .int (sm_ushr (V a) (V b &&& 31))), (0, .ref x0), (1, .int 6), (2, .int (nI d)), (3, .int (nI a)), (4, .int (nI b))]) hx hb dX0_op_51 hl (by decide) rfl (fun ls hl => ?_)
  refine lv_aload_n hx hb dX0_op_53 rfl (lv_at hl 2 rfl) ?_
  refine va_get (D := D) (ci := 0) (v := .ref x1) (C := RX0) (T := TX0) (N := 3) hx hb hts inX0 hown hK hP 0 rfl rfl 0 (by decide) (hw 18 rfl) (fun _ h9 => h9) rfl dX0_op_54 ?_
  refine lv_iload_n hx hb dX0_op_57 rfl (lv_at hl 4 rfl) ?_
  refine lv_iload hx hb dX0_op_58 (lv_at hl 1 rfl) ?_
  refine sm_iast (f' := upd V d (sm_ushr (V a) (V b &&& 31))) (ws' := (sm_wX cI x0 x1 x2 x3 (upd V d (sm_ushr (V a) (V b &&& 31))) S M)) hx hb hK hP hD hS 1 0 rfl rfl (vp_in_nI (n := d) (by omega) (by decide)) dX0_op_60 (by rw [nI_clamp (by omega)]) rfl (fun H locs hP hD hS => ?_)
  refine lv_aload_n hx hb dX0_op_61 rfl (lv_at hl 2 rfl) ?_
  refine va_get (D := D) (ci := 0) (v := .ref x2) (C := RX0) (T := TX0) (N := 3) hx hb hts inX0 hown hK hP 0 rfl rfl 1 (by decide) (hw 19 rfl) (fun _ h9 => h9) rfl dX0_op_62 ?_
  refine lv_iload_n hx hb dX0_op_65 rfl (lv_at hl 4 rfl) ?_
  refine lv_iload hx hb dX0_op_66 (lv_at hl 0 rfl) ?_
  refine sm_iast (f' := upd S d (if S b &&& 31 = 0 then sm_ushr (S a) (V b &&& 31) else (-1))) (ws' := (sm_wX cI x0 x1 x2 x3 (upd V d (sm_ushr (V a) (V b &&& 31))) (upd S d (if S b &&& 31 = 0 then sm_ushr (S a) (V b &&& 31) else (-1))) M)) hx hb hK hP hD hS 2 0 rfl rfl (vp_in_nI (n := d) (by omega) (by decide)) dX0_op_68 (by rw [nI_clamp (by omega)]) rfl (fun H locs hP hD hS => ?_)
  exact sm_vret hx hb hrt hlocks hS hP hD dX0_op_69
set_option maxHeartbeats 4000000 in
set_option maxRecDepth 100000 in
theorem c_op_7 (l : Launch) (D : va_G) (cI : ClassId) (x0 x1 x2 x3 : Nat) (V S M : Nat → Int32) (d a b : Nat) (hd : d < 16) (ha : a < 16) (hb' : b < 16) : sm_C l yX0_op wsX0_op ({ frames := 6, cells := 0, slots := 0, locals := 140 } : Room) D vwCl [(cI, .int)] [.ref x0, .int 7, .int (nI d), .int (nI a), .int (nI b)] (sm_wX cI x0 x1 x2 x3 V S M) none (sm_wX cI x0 x1 x2 x3 (upd V d (V a >>> ((V b &&& 31) &&& 31))) (upd S d (if S b &&& 31 = 0 then S a >>> ((V b &&& 31) &&& 31) else (-1))) M) := by
  refine sm_start (cc := cX0_op) (maxL := 7) (ret := none) (lv := [(0, .ref x0), (1, .int 7), (2, .int (nI d)), (3, .int (nI a)), (4, .int (nI b))]) (by decide) rfl (Nat.le_of_ble_eq_true rfl) rfl ?_
  intro p e s m below meth c hx hb hrt hts hown hlocks hml hin hK hP hD hS hA ls hl
  have hw := sm_hw hts
  refine lv_iload_n hx hb dX0_op_0 rfl (lv_at hl 1 rfl) ?_
  refine lv_if_lt (tgt := 10) hx hb dX0_op_1 rfl (fun z => absurd z (by decide)) (fun _ => ?_)
  refine lv_iload_n hx hb dX0_op_4 rfl (lv_at hl 1 rfl) ?_
  refine lv_bipush (v := 12) hx hb dX0_op_5 (by decide) ?_
  refine lv_icmp_le (tgt := 18) hx hb dX0_op_7 rfl (fun _ => ?_) (fun z => absurd (by decide) z)
  refine lv_iload_n hx hb dX0_op_18 rfl (lv_at hl 2 rfl) ?_
  refine sm_callS (As := [.int (nI d)]) (rest := []) (wr := (sm_wX cI x0 x1 x2 x3 V S M)) (wn := (sm_wX cI x0 x1 x2 x3 V S M)) (st1 := []) ⟨hx, hb, hml, hown, hts⟩ (c_checkRegister l D d (by omega)) (va_cwS 1 hts (sm_gS (i1 := 47) (i2 := 48) (i4 := 1) (i5 := 49) rfl rfl rfl rfl) rfl rfl rfl (by decide +kernel) ⟨Nat.le_of_ble_eq_true rfl, Nat.le_of_ble_eq_true rfl⟩) hK [] rfl hP hD hS hA [] [0, 1, 2, 3] rfl rfl (by decide) (by decide) (by decide) rfl hl.1 rfl (Nat.le_of_ble_eq_true rfl) dX0_op_19 ⟨Nat.le_of_ble_eq_true rfl, Nat.le_of_ble_eq_true rfl⟩ rfl rfl (fun H locs hP hD hS => ?_)
  refine lv_iload_n hx hb dX0_op_22 rfl (lv_at hl 3 rfl) ?_
  refine sm_callS (As := [.int (nI a)]) (rest := []) (wr := (sm_wX cI x0 x1 x2 x3 V S M)) (wn := (sm_wX cI x0 x1 x2 x3 V S M)) (st1 := []) ⟨hx, hb, hml, hown, hts⟩ (c_checkRegister l D a (by omega)) (va_cwS 1 hts (sm_gS (i1 := 47) (i2 := 48) (i4 := 1) (i5 := 49) rfl rfl rfl rfl) rfl rfl rfl (by decide +kernel) ⟨Nat.le_of_ble_eq_true rfl, Nat.le_of_ble_eq_true rfl⟩) hK [] rfl hP hD hS hA [] [0, 1, 2, 3] rfl rfl (by decide) (by decide) (by decide) rfl hl.1 rfl (Nat.le_of_ble_eq_true rfl) dX0_op_23 ⟨Nat.le_of_ble_eq_true rfl, Nat.le_of_ble_eq_true rfl⟩ rfl rfl (fun H locs hP hD hS => ?_)
  refine lv_iload hx hb dX0_op_26 (lv_at hl 4 rfl) ?_
  refine sm_callS (As := [.int (nI b)]) (rest := []) (wr := (sm_wX cI x0 x1 x2 x3 V S M)) (wn := (sm_wX cI x0 x1 x2 x3 V S M)) (st1 := []) ⟨hx, hb, hml, hown, hts⟩ (c_checkRegister l D b (by omega)) (va_cwS 1 hts (sm_gS (i1 := 47) (i2 := 48) (i4 := 1) (i5 := 49) rfl rfl rfl rfl) rfl rfl rfl (by decide +kernel) ⟨Nat.le_of_ble_eq_true rfl, Nat.le_of_ble_eq_true rfl⟩) hK [] rfl hP hD hS hA [] [0, 1, 2, 3] rfl rfl (by decide) (by decide) (by decide) rfl hl.1 rfl (Nat.le_of_ble_eq_true rfl) dX0_op_28 ⟨Nat.le_of_ble_eq_true rfl, Nat.le_of_ble_eq_true rfl⟩ rfl rfl (fun H locs hP hD hS => ?_)
  refine lv_aload_n hx hb dX0_op_31 rfl (lv_at hl 0 rfl) ?_
  refine lv_iload_n hx hb dX0_op_32 rfl (lv_at hl 1 rfl) ?_
  refine lv_iload_n hx hb dX0_op_33 rfl (lv_at hl 2 rfl) ?_
  refine lv_iload_n hx hb dX0_op_34 rfl (lv_at hl 3 rfl) ?_
  refine lv_iload hx hb dX0_op_35 (lv_at hl 4 rfl) ?_
  refine sm_callV (C := RX0) (As := [.int 7, .int (nI d), .int (nI a), .int (nI b)]) (rest := []) (wr := []) (wn := (sm_wX cI x0 x1 x2 x3 V S M)) (st1 := [.int (V a >>> ((V b &&& 31) &&& 31))]) ⟨hx, hb, hml, hown, hts⟩ (c_valueOf_7 l D cI x0 x1 x2 x3 V S M d a b hd ha hb') (cwV 4 hts (sm_gV (i1 := 123) (i2 := 124) (i3 := 344) (i4 := 1) (i5 := 125) rfl rfl rfl rfl rfl) rfl rfl rfl (by decide +kernel) ⟨Nat.le_of_ble_eq_true rfl, Nat.le_of_ble_eq_true rfl⟩) hK [0] rfl hP hD hS hA 0 rfl rfl [0, 1, 2, 3] [] rfl rfl (by decide) (by decide) (by decide) rfl hl.1 rfl (Nat.le_of_ble_eq_true rfl) dX0_op_37 ⟨Nat.le_of_ble_eq_true rfl, Nat.le_of_ble_eq_true rfl⟩ rfl rfl (fun H locs hP hD hS => ?_)
  refine lv_istore (lv' := [(5, .int (V a >>> ((V b &&& 31) &&& 31))), (0, .ref x0), (1, .int 7), (2, .int (nI d)), (3, .int (nI a)), (4, .int (nI b))]) hx hb dX0_op_40 hl (by decide) rfl (fun ls hl => ?_)
  refine lv_aload_n hx hb dX0_op_42 rfl (lv_at hl 1 rfl) ?_
  refine lv_iload_n hx hb dX0_op_43 rfl (lv_at hl 2 rfl) ?_
  refine lv_iload_n hx hb dX0_op_44 rfl (lv_at hl 3 rfl) ?_
  refine lv_iload_n hx hb dX0_op_45 rfl (lv_at hl 4 rfl) ?_
  refine lv_iload hx hb dX0_op_46 (lv_at hl 5 rfl) ?_
  refine sm_callV (C := RX0) (As := [.int 7, .int (nI d), .int (nI a), .int (nI b)]) (rest := []) (wr := []) (wn := (sm_wX cI x0 x1 x2 x3 V S M)) (st1 := [.int (if S b &&& 31 = 0 then S a >>> ((V b &&& 31) &&& 31) else (-1))]) ⟨hx, hb, hml, hown, hts⟩ (c_shadowOf_7 l D cI x0 x1 x2 x3 V S M d a b hd ha hb') (cwV 4 hts (sm_gV (i1 := 139) (i2 := 140) (i3 := 346) (i4 := 1) (i5 := 141) rfl rfl rfl rfl rfl) rfl rfl rfl (by decide +kernel) ⟨Nat.le_of_ble_eq_true rfl, Nat.le_of_ble_eq_true rfl⟩) hK [0] rfl hP hD hS hA 0 rfl rfl [0, 1, 2, 3] [] rfl rfl (by decide) (by decide) (by decide) rfl hl.1 rfl (Nat.le_of_ble_eq_true rfl) dX0_op_48 ⟨Nat.le_of_ble_eq_true rfl, Nat.le_of_ble_eq_true rfl⟩ rfl rfl (fun H locs hP hD hS => ?_)
  refine lv_istore (lv' := [(6, .int (if S b &&& 31 = 0 then S a >>> ((V b &&& 31) &&& 31) else (-1))), (5, .int (V a >>> ((V b &&& 31) &&& 31))), (0, .ref x0), (1, .int 7), (2, .int (nI d)), (3, .int (nI a)), (4, .int (nI b))]) hx hb dX0_op_51 hl (by decide) rfl (fun ls hl => ?_)
  refine lv_aload_n hx hb dX0_op_53 rfl (lv_at hl 2 rfl) ?_
  refine va_get (D := D) (ci := 0) (v := .ref x1) (C := RX0) (T := TX0) (N := 3) hx hb hts inX0 hown hK hP 0 rfl rfl 0 (by decide) (hw 18 rfl) (fun _ h9 => h9) rfl dX0_op_54 ?_
  refine lv_iload_n hx hb dX0_op_57 rfl (lv_at hl 4 rfl) ?_
  refine lv_iload hx hb dX0_op_58 (lv_at hl 1 rfl) ?_
  refine sm_iast (f' := upd V d (V a >>> ((V b &&& 31) &&& 31))) (ws' := (sm_wX cI x0 x1 x2 x3 (upd V d (V a >>> ((V b &&& 31) &&& 31))) S M)) hx hb hK hP hD hS 1 0 rfl rfl (vp_in_nI (n := d) (by omega) (by decide)) dX0_op_60 (by rw [nI_clamp (by omega)]) rfl (fun H locs hP hD hS => ?_)
  refine lv_aload_n hx hb dX0_op_61 rfl (lv_at hl 2 rfl) ?_
  refine va_get (D := D) (ci := 0) (v := .ref x2) (C := RX0) (T := TX0) (N := 3) hx hb hts inX0 hown hK hP 0 rfl rfl 1 (by decide) (hw 19 rfl) (fun _ h9 => h9) rfl dX0_op_62 ?_
  refine lv_iload_n hx hb dX0_op_65 rfl (lv_at hl 4 rfl) ?_
  refine lv_iload hx hb dX0_op_66 (lv_at hl 0 rfl) ?_
  refine sm_iast (f' := upd S d (if S b &&& 31 = 0 then S a >>> ((V b &&& 31) &&& 31) else (-1))) (ws' := (sm_wX cI x0 x1 x2 x3 (upd V d (V a >>> ((V b &&& 31) &&& 31))) (upd S d (if S b &&& 31 = 0 then S a >>> ((V b &&& 31) &&& 31) else (-1))) M)) hx hb hK hP hD hS 2 0 rfl rfl (vp_in_nI (n := d) (by omega) (by decide)) dX0_op_68 (by rw [nI_clamp (by omega)]) rfl (fun H locs hP hD hS => ?_)
  exact sm_vret hx hb hrt hlocks hS hP hD dX0_op_69
set_option maxHeartbeats 4000000 in
set_option maxRecDepth 100000 in
theorem c_op_8 (l : Launch) (D : va_G) (cI : ClassId) (x0 x1 x2 x3 : Nat) (V S M : Nat → Int32) (d a b : Nat) (hd : d < 16) (ha : a < 16) (hb' : b < 16) : sm_C l yX0_op wsX0_op ({ frames := 6, cells := 0, slots := 0, locals := 140 } : Room) D vwCl [(cI, .int)] [.ref x0, .int 8, .int (nI d), .int (nI a), .int (nI b)] (sm_wX cI x0 x1 x2 x3 V S M) none (sm_wX cI x0 x1 x2 x3 (upd V d (V a * V b)) (upd S d (sm_fr (sm_min (sm_tz (S a) + sm_tz (V b ||| S b)) (sm_tz (S b) + sm_tz (V a ||| S a))))) M) := by
  refine sm_start (cc := cX0_op) (maxL := 7) (ret := none) (lv := [(0, .ref x0), (1, .int 8), (2, .int (nI d)), (3, .int (nI a)), (4, .int (nI b))]) (by decide) rfl (Nat.le_of_ble_eq_true rfl) rfl ?_
  intro p e s m below meth c hx hb hrt hts hown hlocks hml hin hK hP hD hS hA ls hl
  have hw := sm_hw hts
  refine lv_iload_n hx hb dX0_op_0 rfl (lv_at hl 1 rfl) ?_
  refine lv_if_lt (tgt := 10) hx hb dX0_op_1 rfl (fun z => absurd z (by decide)) (fun _ => ?_)
  refine lv_iload_n hx hb dX0_op_4 rfl (lv_at hl 1 rfl) ?_
  refine lv_bipush (v := 12) hx hb dX0_op_5 (by decide) ?_
  refine lv_icmp_le (tgt := 18) hx hb dX0_op_7 rfl (fun _ => ?_) (fun z => absurd (by decide) z)
  refine lv_iload_n hx hb dX0_op_18 rfl (lv_at hl 2 rfl) ?_
  refine sm_callS (As := [.int (nI d)]) (rest := []) (wr := (sm_wX cI x0 x1 x2 x3 V S M)) (wn := (sm_wX cI x0 x1 x2 x3 V S M)) (st1 := []) ⟨hx, hb, hml, hown, hts⟩ (c_checkRegister l D d (by omega)) (va_cwS 1 hts (sm_gS (i1 := 47) (i2 := 48) (i4 := 1) (i5 := 49) rfl rfl rfl rfl) rfl rfl rfl (by decide +kernel) ⟨Nat.le_of_ble_eq_true rfl, Nat.le_of_ble_eq_true rfl⟩) hK [] rfl hP hD hS hA [] [0, 1, 2, 3] rfl rfl (by decide) (by decide) (by decide) rfl hl.1 rfl (Nat.le_of_ble_eq_true rfl) dX0_op_19 ⟨Nat.le_of_ble_eq_true rfl, Nat.le_of_ble_eq_true rfl⟩ rfl rfl (fun H locs hP hD hS => ?_)
  refine lv_iload_n hx hb dX0_op_22 rfl (lv_at hl 3 rfl) ?_
  refine sm_callS (As := [.int (nI a)]) (rest := []) (wr := (sm_wX cI x0 x1 x2 x3 V S M)) (wn := (sm_wX cI x0 x1 x2 x3 V S M)) (st1 := []) ⟨hx, hb, hml, hown, hts⟩ (c_checkRegister l D a (by omega)) (va_cwS 1 hts (sm_gS (i1 := 47) (i2 := 48) (i4 := 1) (i5 := 49) rfl rfl rfl rfl) rfl rfl rfl (by decide +kernel) ⟨Nat.le_of_ble_eq_true rfl, Nat.le_of_ble_eq_true rfl⟩) hK [] rfl hP hD hS hA [] [0, 1, 2, 3] rfl rfl (by decide) (by decide) (by decide) rfl hl.1 rfl (Nat.le_of_ble_eq_true rfl) dX0_op_23 ⟨Nat.le_of_ble_eq_true rfl, Nat.le_of_ble_eq_true rfl⟩ rfl rfl (fun H locs hP hD hS => ?_)
  refine lv_iload hx hb dX0_op_26 (lv_at hl 4 rfl) ?_
  refine sm_callS (As := [.int (nI b)]) (rest := []) (wr := (sm_wX cI x0 x1 x2 x3 V S M)) (wn := (sm_wX cI x0 x1 x2 x3 V S M)) (st1 := []) ⟨hx, hb, hml, hown, hts⟩ (c_checkRegister l D b (by omega)) (va_cwS 1 hts (sm_gS (i1 := 47) (i2 := 48) (i4 := 1) (i5 := 49) rfl rfl rfl rfl) rfl rfl rfl (by decide +kernel) ⟨Nat.le_of_ble_eq_true rfl, Nat.le_of_ble_eq_true rfl⟩) hK [] rfl hP hD hS hA [] [0, 1, 2, 3] rfl rfl (by decide) (by decide) (by decide) rfl hl.1 rfl (Nat.le_of_ble_eq_true rfl) dX0_op_28 ⟨Nat.le_of_ble_eq_true rfl, Nat.le_of_ble_eq_true rfl⟩ rfl rfl (fun H locs hP hD hS => ?_)
  refine lv_aload_n hx hb dX0_op_31 rfl (lv_at hl 0 rfl) ?_
  refine lv_iload_n hx hb dX0_op_32 rfl (lv_at hl 1 rfl) ?_
  refine lv_iload_n hx hb dX0_op_33 rfl (lv_at hl 2 rfl) ?_
  refine lv_iload_n hx hb dX0_op_34 rfl (lv_at hl 3 rfl) ?_
  refine lv_iload hx hb dX0_op_35 (lv_at hl 4 rfl) ?_
  refine sm_callV (C := RX0) (As := [.int 8, .int (nI d), .int (nI a), .int (nI b)]) (rest := []) (wr := []) (wn := (sm_wX cI x0 x1 x2 x3 V S M)) (st1 := [.int (V a * V b)]) ⟨hx, hb, hml, hown, hts⟩ (c_valueOf_8 l D cI x0 x1 x2 x3 V S M d a b hd ha hb') (cwV 4 hts (sm_gV (i1 := 123) (i2 := 124) (i3 := 344) (i4 := 1) (i5 := 125) rfl rfl rfl rfl rfl) rfl rfl rfl (by decide +kernel) ⟨Nat.le_of_ble_eq_true rfl, Nat.le_of_ble_eq_true rfl⟩) hK [0] rfl hP hD hS hA 0 rfl rfl [0, 1, 2, 3] [] rfl rfl (by decide) (by decide) (by decide) rfl hl.1 rfl (Nat.le_of_ble_eq_true rfl) dX0_op_37 ⟨Nat.le_of_ble_eq_true rfl, Nat.le_of_ble_eq_true rfl⟩ rfl rfl (fun H locs hP hD hS => ?_)
  refine lv_istore (lv' := [(5, .int (V a * V b)), (0, .ref x0), (1, .int 8), (2, .int (nI d)), (3, .int (nI a)), (4, .int (nI b))]) hx hb dX0_op_40 hl (by decide) rfl (fun ls hl => ?_)
  refine lv_aload_n hx hb dX0_op_42 rfl (lv_at hl 1 rfl) ?_
  refine lv_iload_n hx hb dX0_op_43 rfl (lv_at hl 2 rfl) ?_
  refine lv_iload_n hx hb dX0_op_44 rfl (lv_at hl 3 rfl) ?_
  refine lv_iload_n hx hb dX0_op_45 rfl (lv_at hl 4 rfl) ?_
  refine lv_iload hx hb dX0_op_46 (lv_at hl 5 rfl) ?_
  refine sm_callV (C := RX0) (As := [.int 8, .int (nI d), .int (nI a), .int (nI b)]) (rest := []) (wr := []) (wn := (sm_wX cI x0 x1 x2 x3 V S M)) (st1 := [.int (sm_fr (sm_min (sm_tz (S a) + sm_tz (V b ||| S b)) (sm_tz (S b) + sm_tz (V a ||| S a))))]) ⟨hx, hb, hml, hown, hts⟩ (c_shadowOf_8 l D cI x0 x1 x2 x3 V S M d a b hd ha hb') (cwV 4 hts (sm_gV (i1 := 139) (i2 := 140) (i3 := 346) (i4 := 1) (i5 := 141) rfl rfl rfl rfl rfl) rfl rfl rfl (by decide +kernel) ⟨Nat.le_of_ble_eq_true rfl, Nat.le_of_ble_eq_true rfl⟩) hK [0] rfl hP hD hS hA 0 rfl rfl [0, 1, 2, 3] [] rfl rfl (by decide) (by decide) (by decide) rfl hl.1 rfl (Nat.le_of_ble_eq_true rfl) dX0_op_48 ⟨Nat.le_of_ble_eq_true rfl, Nat.le_of_ble_eq_true rfl⟩ rfl rfl (fun H locs hP hD hS => ?_)
  refine lv_istore (lv' := [(6, .int (sm_fr (sm_min (sm_tz (S a) + sm_tz (V b ||| S b)) (sm_tz (S b) + sm_tz (V a ||| S a))))), (5, .int (V a * V b)), (0, .ref x0), (1, .int 8), (2, .int (nI d)), (3, .int (nI a)), (4, .int (nI b))]) hx hb dX0_op_51 hl (by decide) rfl (fun ls hl => ?_)
  refine lv_aload_n hx hb dX0_op_53 rfl (lv_at hl 2 rfl) ?_
  refine va_get (D := D) (ci := 0) (v := .ref x1) (C := RX0) (T := TX0) (N := 3) hx hb hts inX0 hown hK hP 0 rfl rfl 0 (by decide) (hw 18 rfl) (fun _ h9 => h9) rfl dX0_op_54 ?_
  refine lv_iload_n hx hb dX0_op_57 rfl (lv_at hl 4 rfl) ?_
  refine lv_iload hx hb dX0_op_58 (lv_at hl 1 rfl) ?_
  refine sm_iast (f' := upd V d (V a * V b)) (ws' := (sm_wX cI x0 x1 x2 x3 (upd V d (V a * V b)) S M)) hx hb hK hP hD hS 1 0 rfl rfl (vp_in_nI (n := d) (by omega) (by decide)) dX0_op_60 (by rw [nI_clamp (by omega)]) rfl (fun H locs hP hD hS => ?_)
  refine lv_aload_n hx hb dX0_op_61 rfl (lv_at hl 2 rfl) ?_
  refine va_get (D := D) (ci := 0) (v := .ref x2) (C := RX0) (T := TX0) (N := 3) hx hb hts inX0 hown hK hP 0 rfl rfl 1 (by decide) (hw 19 rfl) (fun _ h9 => h9) rfl dX0_op_62 ?_
  refine lv_iload_n hx hb dX0_op_65 rfl (lv_at hl 4 rfl) ?_
  refine lv_iload hx hb dX0_op_66 (lv_at hl 0 rfl) ?_
  refine sm_iast (f' := upd S d (sm_fr (sm_min (sm_tz (S a) + sm_tz (V b ||| S b)) (sm_tz (S b) + sm_tz (V a ||| S a))))) (ws' := (sm_wX cI x0 x1 x2 x3 (upd V d (V a * V b)) (upd S d (sm_fr (sm_min (sm_tz (S a) + sm_tz (V b ||| S b)) (sm_tz (S b) + sm_tz (V a ||| S a))))) M)) hx hb hK hP hD hS 2 0 rfl rfl (vp_in_nI (n := d) (by omega) (by decide)) dX0_op_68 (by rw [nI_clamp (by omega)]) rfl (fun H locs hP hD hS => ?_)
  exact sm_vret hx hb hrt hlocks hS hP hD dX0_op_69
set_option maxHeartbeats 4000000 in
set_option maxRecDepth 100000 in
theorem c_op_9 (l : Launch) (D : va_G) (cI : ClassId) (x0 x1 x2 x3 : Nat) (V S M : Nat → Int32) (d a b : Nat) (hd : d < 16) (ha : a < 16) (hb' : b < 16) : sm_C l yX0_op wsX0_op ({ frames := 6, cells := 0, slots := 0, locals := 140 } : Room) D vwCl [(cI, .int)] [.ref x0, .int 9, .int (nI d), .int (nI a), .int (nI b)] (sm_wX cI x0 x1 x2 x3 V S M) none (sm_wX cI x0 x1 x2 x3 (upd V d (sm_bI (decide (V a < V b)))) (upd S d (sm_bI (decide (sm_le (V a) (S a) < sm_he (V b) (S b)) && decide (sm_le (V b) (S b) ≤ sm_he (V a) (S a))))) M) := by
  refine sm_start (cc := cX0_op) (maxL := 7) (ret := none) (lv := [(0, .ref x0), (1, .int 9), (2, .int (nI d)), (3, .int (nI a)), (4, .int (nI b))]) (by decide) rfl (Nat.le_of_ble_eq_true rfl) rfl ?_
  intro p e s m below meth c hx hb hrt hts hown hlocks hml hin hK hP hD hS hA ls hl
  have hw := sm_hw hts
  refine lv_iload_n hx hb dX0_op_0 rfl (lv_at hl 1 rfl) ?_
  refine lv_if_lt (tgt := 10) hx hb dX0_op_1 rfl (fun z => absurd z (by decide)) (fun _ => ?_)
  refine lv_iload_n hx hb dX0_op_4 rfl (lv_at hl 1 rfl) ?_
  refine lv_bipush (v := 12) hx hb dX0_op_5 (by decide) ?_
  refine lv_icmp_le (tgt := 18) hx hb dX0_op_7 rfl (fun _ => ?_) (fun z => absurd (by decide) z)
  refine lv_iload_n hx hb dX0_op_18 rfl (lv_at hl 2 rfl) ?_
  refine sm_callS (As := [.int (nI d)]) (rest := []) (wr := (sm_wX cI x0 x1 x2 x3 V S M)) (wn := (sm_wX cI x0 x1 x2 x3 V S M)) (st1 := []) ⟨hx, hb, hml, hown, hts⟩ (c_checkRegister l D d (by omega)) (va_cwS 1 hts (sm_gS (i1 := 47) (i2 := 48) (i4 := 1) (i5 := 49) rfl rfl rfl rfl) rfl rfl rfl (by decide +kernel) ⟨Nat.le_of_ble_eq_true rfl, Nat.le_of_ble_eq_true rfl⟩) hK [] rfl hP hD hS hA [] [0, 1, 2, 3] rfl rfl (by decide) (by decide) (by decide) rfl hl.1 rfl (Nat.le_of_ble_eq_true rfl) dX0_op_19 ⟨Nat.le_of_ble_eq_true rfl, Nat.le_of_ble_eq_true rfl⟩ rfl rfl (fun H locs hP hD hS => ?_)
  refine lv_iload_n hx hb dX0_op_22 rfl (lv_at hl 3 rfl) ?_
  refine sm_callS (As := [.int (nI a)]) (rest := []) (wr := (sm_wX cI x0 x1 x2 x3 V S M)) (wn := (sm_wX cI x0 x1 x2 x3 V S M)) (st1 := []) ⟨hx, hb, hml, hown, hts⟩ (c_checkRegister l D a (by omega)) (va_cwS 1 hts (sm_gS (i1 := 47) (i2 := 48) (i4 := 1) (i5 := 49) rfl rfl rfl rfl) rfl rfl rfl (by decide +kernel) ⟨Nat.le_of_ble_eq_true rfl, Nat.le_of_ble_eq_true rfl⟩) hK [] rfl hP hD hS hA [] [0, 1, 2, 3] rfl rfl (by decide) (by decide) (by decide) rfl hl.1 rfl (Nat.le_of_ble_eq_true rfl) dX0_op_23 ⟨Nat.le_of_ble_eq_true rfl, Nat.le_of_ble_eq_true rfl⟩ rfl rfl (fun H locs hP hD hS => ?_)
  refine lv_iload hx hb dX0_op_26 (lv_at hl 4 rfl) ?_
  refine sm_callS (As := [.int (nI b)]) (rest := []) (wr := (sm_wX cI x0 x1 x2 x3 V S M)) (wn := (sm_wX cI x0 x1 x2 x3 V S M)) (st1 := []) ⟨hx, hb, hml, hown, hts⟩ (c_checkRegister l D b (by omega)) (va_cwS 1 hts (sm_gS (i1 := 47) (i2 := 48) (i4 := 1) (i5 := 49) rfl rfl rfl rfl) rfl rfl rfl (by decide +kernel) ⟨Nat.le_of_ble_eq_true rfl, Nat.le_of_ble_eq_true rfl⟩) hK [] rfl hP hD hS hA [] [0, 1, 2, 3] rfl rfl (by decide) (by decide) (by decide) rfl hl.1 rfl (Nat.le_of_ble_eq_true rfl) dX0_op_28 ⟨Nat.le_of_ble_eq_true rfl, Nat.le_of_ble_eq_true rfl⟩ rfl rfl (fun H locs hP hD hS => ?_)
  refine lv_aload_n hx hb dX0_op_31 rfl (lv_at hl 0 rfl) ?_
  refine lv_iload_n hx hb dX0_op_32 rfl (lv_at hl 1 rfl) ?_
  refine lv_iload_n hx hb dX0_op_33 rfl (lv_at hl 2 rfl) ?_
  refine lv_iload_n hx hb dX0_op_34 rfl (lv_at hl 3 rfl) ?_
  refine lv_iload hx hb dX0_op_35 (lv_at hl 4 rfl) ?_
  refine sm_callV (C := RX0) (As := [.int 9, .int (nI d), .int (nI a), .int (nI b)]) (rest := []) (wr := []) (wn := (sm_wX cI x0 x1 x2 x3 V S M)) (st1 := [.int (sm_bI (decide (V a < V b)))]) ⟨hx, hb, hml, hown, hts⟩ (c_valueOf_9 l D cI x0 x1 x2 x3 V S M d a b hd ha hb') (cwV 4 hts (sm_gV (i1 := 123) (i2 := 124) (i3 := 344) (i4 := 1) (i5 := 125) rfl rfl rfl rfl rfl) rfl rfl rfl (by decide +kernel) ⟨Nat.le_of_ble_eq_true rfl, Nat.le_of_ble_eq_true rfl⟩) hK [0] rfl hP hD hS hA 0 rfl rfl [0, 1, 2, 3] [] rfl rfl (by decide) (by decide) (by decide) rfl hl.1 rfl (Nat.le_of_ble_eq_true rfl) dX0_op_37 ⟨Nat.le_of_ble_eq_true rfl, Nat.le_of_ble_eq_true rfl⟩ rfl rfl (fun H locs hP hD hS => ?_)
  refine lv_istore (lv' := [(5, .int (sm_bI (decide (V a < V b)))), (0, .ref x0), (1, .int 9), (2, .int (nI d)), (3, .int (nI a)), (4, .int (nI b))]) hx hb dX0_op_40 hl (by decide) rfl (fun ls hl => ?_)
  refine lv_aload_n hx hb dX0_op_42 rfl (lv_at hl 1 rfl) ?_
  refine lv_iload_n hx hb dX0_op_43 rfl (lv_at hl 2 rfl) ?_
  refine lv_iload_n hx hb dX0_op_44 rfl (lv_at hl 3 rfl) ?_
  refine lv_iload_n hx hb dX0_op_45 rfl (lv_at hl 4 rfl) ?_
  refine lv_iload hx hb dX0_op_46 (lv_at hl 5 rfl) ?_
  refine sm_callV (C := RX0) (As := [.int 9, .int (nI d), .int (nI a), .int (nI b)]) (rest := []) (wr := []) (wn := (sm_wX cI x0 x1 x2 x3 V S M)) (st1 := [.int (sm_bI (decide (sm_le (V a) (S a) < sm_he (V b) (S b)) && decide (sm_le (V b) (S b) ≤ sm_he (V a) (S a))))]) ⟨hx, hb, hml, hown, hts⟩ (c_shadowOf_9 l D cI x0 x1 x2 x3 V S M d a b hd ha hb') (cwV 4 hts (sm_gV (i1 := 139) (i2 := 140) (i3 := 346) (i4 := 1) (i5 := 141) rfl rfl rfl rfl rfl) rfl rfl rfl (by decide +kernel) ⟨Nat.le_of_ble_eq_true rfl, Nat.le_of_ble_eq_true rfl⟩) hK [0] rfl hP hD hS hA 0 rfl rfl [0, 1, 2, 3] [] rfl rfl (by decide) (by decide) (by decide) rfl hl.1 rfl (Nat.le_of_ble_eq_true rfl) dX0_op_48 ⟨Nat.le_of_ble_eq_true rfl, Nat.le_of_ble_eq_true rfl⟩ rfl rfl (fun H locs hP hD hS => ?_)
  refine lv_istore (lv' := [(6, .int (sm_bI (decide (sm_le (V a) (S a) < sm_he (V b) (S b)) && decide (sm_le (V b) (S b) ≤ sm_he (V a) (S a))))), (5, .int (sm_bI (decide (V a < V b)))), (0, .ref x0), (1, .int 9), (2, .int (nI d)), (3, .int (nI a)), (4, .int (nI b))]) hx hb dX0_op_51 hl (by decide) rfl (fun ls hl => ?_)
  refine lv_aload_n hx hb dX0_op_53 rfl (lv_at hl 2 rfl) ?_
  refine va_get (D := D) (ci := 0) (v := .ref x1) (C := RX0) (T := TX0) (N := 3) hx hb hts inX0 hown hK hP 0 rfl rfl 0 (by decide) (hw 18 rfl) (fun _ h9 => h9) rfl dX0_op_54 ?_
  refine lv_iload_n hx hb dX0_op_57 rfl (lv_at hl 4 rfl) ?_
  refine lv_iload hx hb dX0_op_58 (lv_at hl 1 rfl) ?_
  refine sm_iast (f' := upd V d (sm_bI (decide (V a < V b)))) (ws' := (sm_wX cI x0 x1 x2 x3 (upd V d (sm_bI (decide (V a < V b)))) S M)) hx hb hK hP hD hS 1 0 rfl rfl (vp_in_nI (n := d) (by omega) (by decide)) dX0_op_60 (by rw [nI_clamp (by omega)]) rfl (fun H locs hP hD hS => ?_)
  refine lv_aload_n hx hb dX0_op_61 rfl (lv_at hl 2 rfl) ?_
  refine va_get (D := D) (ci := 0) (v := .ref x2) (C := RX0) (T := TX0) (N := 3) hx hb hts inX0 hown hK hP 0 rfl rfl 1 (by decide) (hw 19 rfl) (fun _ h9 => h9) rfl dX0_op_62 ?_
  refine lv_iload_n hx hb dX0_op_65 rfl (lv_at hl 4 rfl) ?_
  refine lv_iload hx hb dX0_op_66 (lv_at hl 0 rfl) ?_
  refine sm_iast (f' := upd S d (sm_bI (decide (sm_le (V a) (S a) < sm_he (V b) (S b)) && decide (sm_le (V b) (S b) ≤ sm_he (V a) (S a))))) (ws' := (sm_wX cI x0 x1 x2 x3 (upd V d (sm_bI (decide (V a < V b)))) (upd S d (sm_bI (decide (sm_le (V a) (S a) < sm_he (V b) (S b)) && decide (sm_le (V b) (S b) ≤ sm_he (V a) (S a))))) M)) hx hb hK hP hD hS 2 0 rfl rfl (vp_in_nI (n := d) (by omega) (by decide)) dX0_op_68 (by rw [nI_clamp (by omega)]) rfl (fun H locs hP hD hS => ?_)
  exact sm_vret hx hb hrt hlocks hS hP hD dX0_op_69
set_option maxHeartbeats 4000000 in
set_option maxRecDepth 100000 in
theorem c_op_10 (l : Launch) (D : va_G) (cI : ClassId) (x0 x1 x2 x3 : Nat) (V S M : Nat → Int32) (d a b : Nat) (hd : d < 16) (ha : a < 16) (hb' : b < 16) : sm_C l yX0_op wsX0_op ({ frames := 6, cells := 0, slots := 0, locals := 140 } : Room) D vwCl [(cI, .int)] [.ref x0, .int 10, .int (nI d), .int (nI a), .int (nI b)] (sm_wX cI x0 x1 x2 x3 V S M) none (sm_wX cI x0 x1 x2 x3 (upd V d (sm_bI (decide (V a ^^^ (-2147483648) < V b ^^^ (-2147483648))))) (upd S d (sm_bI (decide (sm_le (V a ^^^ (-2147483648)) (S a) < sm_he (V b ^^^ (-2147483648)) (S b)) && decide (sm_le (V b ^^^ (-2147483648)) (S b) ≤ sm_he (V a ^^^ (-2147483648)) (S a))))) M) := by
  refine sm_start (cc := cX0_op) (maxL := 7) (ret := none) (lv := [(0, .ref x0), (1, .int 10), (2, .int (nI d)), (3, .int (nI a)), (4, .int (nI b))]) (by decide) rfl (Nat.le_of_ble_eq_true rfl) rfl ?_
  intro p e s m below meth c hx hb hrt hts hown hlocks hml hin hK hP hD hS hA ls hl
  have hw := sm_hw hts
  refine lv_iload_n hx hb dX0_op_0 rfl (lv_at hl 1 rfl) ?_
  refine lv_if_lt (tgt := 10) hx hb dX0_op_1 rfl (fun z => absurd z (by decide)) (fun _ => ?_)
  refine lv_iload_n hx hb dX0_op_4 rfl (lv_at hl 1 rfl) ?_
  refine lv_bipush (v := 12) hx hb dX0_op_5 (by decide) ?_
  refine lv_icmp_le (tgt := 18) hx hb dX0_op_7 rfl (fun _ => ?_) (fun z => absurd (by decide) z)
  refine lv_iload_n hx hb dX0_op_18 rfl (lv_at hl 2 rfl) ?_
  refine sm_callS (As := [.int (nI d)]) (rest := []) (wr := (sm_wX cI x0 x1 x2 x3 V S M)) (wn := (sm_wX cI x0 x1 x2 x3 V S M)) (st1 := []) ⟨hx, hb, hml, hown, hts⟩ (c_checkRegister l D d (by omega)) (va_cwS 1 hts (sm_gS (i1 := 47) (i2 := 48) (i4 := 1) (i5 := 49) rfl rfl rfl rfl) rfl rfl rfl (by decide +kernel) ⟨Nat.le_of_ble_eq_true rfl, Nat.le_of_ble_eq_true rfl⟩) hK [] rfl hP hD hS hA [] [0, 1, 2, 3] rfl rfl (by decide) (by decide) (by decide) rfl hl.1 rfl (Nat.le_of_ble_eq_true rfl) dX0_op_19 ⟨Nat.le_of_ble_eq_true rfl, Nat.le_of_ble_eq_true rfl⟩ rfl rfl (fun H locs hP hD hS => ?_)
  refine lv_iload_n hx hb dX0_op_22 rfl (lv_at hl 3 rfl) ?_
  refine sm_callS (As := [.int (nI a)]) (rest := []) (wr := (sm_wX cI x0 x1 x2 x3 V S M)) (wn := (sm_wX cI x0 x1 x2 x3 V S M)) (st1 := []) ⟨hx, hb, hml, hown, hts⟩ (c_checkRegister l D a (by omega)) (va_cwS 1 hts (sm_gS (i1 := 47) (i2 := 48) (i4 := 1) (i5 := 49) rfl rfl rfl rfl) rfl rfl rfl (by decide +kernel) ⟨Nat.le_of_ble_eq_true rfl, Nat.le_of_ble_eq_true rfl⟩) hK [] rfl hP hD hS hA [] [0, 1, 2, 3] rfl rfl (by decide) (by decide) (by decide) rfl hl.1 rfl (Nat.le_of_ble_eq_true rfl) dX0_op_23 ⟨Nat.le_of_ble_eq_true rfl, Nat.le_of_ble_eq_true rfl⟩ rfl rfl (fun H locs hP hD hS => ?_)
  refine lv_iload hx hb dX0_op_26 (lv_at hl 4 rfl) ?_
  refine sm_callS (As := [.int (nI b)]) (rest := []) (wr := (sm_wX cI x0 x1 x2 x3 V S M)) (wn := (sm_wX cI x0 x1 x2 x3 V S M)) (st1 := []) ⟨hx, hb, hml, hown, hts⟩ (c_checkRegister l D b (by omega)) (va_cwS 1 hts (sm_gS (i1 := 47) (i2 := 48) (i4 := 1) (i5 := 49) rfl rfl rfl rfl) rfl rfl rfl (by decide +kernel) ⟨Nat.le_of_ble_eq_true rfl, Nat.le_of_ble_eq_true rfl⟩) hK [] rfl hP hD hS hA [] [0, 1, 2, 3] rfl rfl (by decide) (by decide) (by decide) rfl hl.1 rfl (Nat.le_of_ble_eq_true rfl) dX0_op_28 ⟨Nat.le_of_ble_eq_true rfl, Nat.le_of_ble_eq_true rfl⟩ rfl rfl (fun H locs hP hD hS => ?_)
  refine lv_aload_n hx hb dX0_op_31 rfl (lv_at hl 0 rfl) ?_
  refine lv_iload_n hx hb dX0_op_32 rfl (lv_at hl 1 rfl) ?_
  refine lv_iload_n hx hb dX0_op_33 rfl (lv_at hl 2 rfl) ?_
  refine lv_iload_n hx hb dX0_op_34 rfl (lv_at hl 3 rfl) ?_
  refine lv_iload hx hb dX0_op_35 (lv_at hl 4 rfl) ?_
  refine sm_callV (C := RX0) (As := [.int 10, .int (nI d), .int (nI a), .int (nI b)]) (rest := []) (wr := []) (wn := (sm_wX cI x0 x1 x2 x3 V S M)) (st1 := [.int (sm_bI (decide (V a ^^^ (-2147483648) < V b ^^^ (-2147483648))))]) ⟨hx, hb, hml, hown, hts⟩ (c_valueOf_10 l D cI x0 x1 x2 x3 V S M d a b hd ha hb') (cwV 4 hts (sm_gV (i1 := 123) (i2 := 124) (i3 := 344) (i4 := 1) (i5 := 125) rfl rfl rfl rfl rfl) rfl rfl rfl (by decide +kernel) ⟨Nat.le_of_ble_eq_true rfl, Nat.le_of_ble_eq_true rfl⟩) hK [0] rfl hP hD hS hA 0 rfl rfl [0, 1, 2, 3] [] rfl rfl (by decide) (by decide) (by decide) rfl hl.1 rfl (Nat.le_of_ble_eq_true rfl) dX0_op_37 ⟨Nat.le_of_ble_eq_true rfl, Nat.le_of_ble_eq_true rfl⟩ rfl rfl (fun H locs hP hD hS => ?_)
  refine lv_istore (lv' := [(5, .int (sm_bI (decide (V a ^^^ (-2147483648) < V b ^^^ (-2147483648))))), (0, .ref x0), (1, .int 10), (2, .int (nI d)), (3, .int (nI a)), (4, .int (nI b))]) hx hb dX0_op_40 hl (by decide) rfl (fun ls hl => ?_)
  refine lv_aload_n hx hb dX0_op_42 rfl (lv_at hl 1 rfl) ?_
  refine lv_iload_n hx hb dX0_op_43 rfl (lv_at hl 2 rfl) ?_
  refine lv_iload_n hx hb dX0_op_44 rfl (lv_at hl 3 rfl) ?_
  refine lv_iload_n hx hb dX0_op_45 rfl (lv_at hl 4 rfl) ?_
  refine lv_iload hx hb dX0_op_46 (lv_at hl 5 rfl) ?_
  refine sm_callV (C := RX0) (As := [.int 10, .int (nI d), .int (nI a), .int (nI b)]) (rest := []) (wr := []) (wn := (sm_wX cI x0 x1 x2 x3 V S M)) (st1 := [.int (sm_bI (decide (sm_le (V a ^^^ (-2147483648)) (S a) < sm_he (V b ^^^ (-2147483648)) (S b)) && decide (sm_le (V b ^^^ (-2147483648)) (S b) ≤ sm_he (V a ^^^ (-2147483648)) (S a))))]) ⟨hx, hb, hml, hown, hts⟩ (c_shadowOf_10 l D cI x0 x1 x2 x3 V S M d a b hd ha hb') (cwV 4 hts (sm_gV (i1 := 139) (i2 := 140) (i3 := 346) (i4 := 1) (i5 := 141) rfl rfl rfl rfl rfl) rfl rfl rfl (by decide +kernel) ⟨Nat.le_of_ble_eq_true rfl, Nat.le_of_ble_eq_true rfl⟩) hK [0] rfl hP hD hS hA 0 rfl rfl [0, 1, 2, 3] [] rfl rfl (by decide) (by decide) (by decide) rfl hl.1 rfl (Nat.le_of_ble_eq_true rfl) dX0_op_48 ⟨Nat.le_of_ble_eq_true rfl, Nat.le_of_ble_eq_true rfl⟩ rfl rfl (fun H locs hP hD hS => ?_)
  refine lv_istore (lv' := [(6, .int (sm_bI (decide (sm_le (V a ^^^ (-2147483648)) (S a) < sm_he (V b ^^^ (-2147483648)) (S b)) && decide (sm_le (V b ^^^ (-2147483648)) (S b) ≤ sm_he (V a ^^^ (-2147483648)) (S a))))), (5, .int (sm_bI (decide (V a ^^^ (-2147483648) < V b ^^^ (-2147483648))))), (0, .ref x0), (1, .int 10), (2, .int (nI d)), (3, .int (nI a)), (4, .int (nI b))]) hx hb dX0_op_51 hl (by decide) rfl (fun ls hl => ?_)
  refine lv_aload_n hx hb dX0_op_53 rfl (lv_at hl 2 rfl) ?_
  refine va_get (D := D) (ci := 0) (v := .ref x1) (C := RX0) (T := TX0) (N := 3) hx hb hts inX0 hown hK hP 0 rfl rfl 0 (by decide) (hw 18 rfl) (fun _ h9 => h9) rfl dX0_op_54 ?_
  refine lv_iload_n hx hb dX0_op_57 rfl (lv_at hl 4 rfl) ?_
  refine lv_iload hx hb dX0_op_58 (lv_at hl 1 rfl) ?_
  refine sm_iast (f' := upd V d (sm_bI (decide (V a ^^^ (-2147483648) < V b ^^^ (-2147483648))))) (ws' := (sm_wX cI x0 x1 x2 x3 (upd V d (sm_bI (decide (V a ^^^ (-2147483648) < V b ^^^ (-2147483648))))) S M)) hx hb hK hP hD hS 1 0 rfl rfl (vp_in_nI (n := d) (by omega) (by decide)) dX0_op_60 (by rw [nI_clamp (by omega)]) rfl (fun H locs hP hD hS => ?_)
  refine lv_aload_n hx hb dX0_op_61 rfl (lv_at hl 2 rfl) ?_
  refine va_get (D := D) (ci := 0) (v := .ref x2) (C := RX0) (T := TX0) (N := 3) hx hb hts inX0 hown hK hP 0 rfl rfl 1 (by decide) (hw 19 rfl) (fun _ h9 => h9) rfl dX0_op_62 ?_
  refine lv_iload_n hx hb dX0_op_65 rfl (lv_at hl 4 rfl) ?_
  refine lv_iload hx hb dX0_op_66 (lv_at hl 0 rfl) ?_
  refine sm_iast (f' := upd S d (sm_bI (decide (sm_le (V a ^^^ (-2147483648)) (S a) < sm_he (V b ^^^ (-2147483648)) (S b)) && decide (sm_le (V b ^^^ (-2147483648)) (S b) ≤ sm_he (V a ^^^ (-2147483648)) (S a))))) (ws' := (sm_wX cI x0 x1 x2 x3 (upd V d (sm_bI (decide (V a ^^^ (-2147483648) < V b ^^^ (-2147483648))))) (upd S d (sm_bI (decide (sm_le (V a ^^^ (-2147483648)) (S a) < sm_he (V b ^^^ (-2147483648)) (S b)) && decide (sm_le (V b ^^^ (-2147483648)) (S b) ≤ sm_he (V a ^^^ (-2147483648)) (S a))))) M)) hx hb hK hP hD hS 2 0 rfl rfl (vp_in_nI (n := d) (by omega) (by decide)) dX0_op_68 (by rw [nI_clamp (by omega)]) rfl (fun H locs hP hD hS => ?_)
  exact sm_vret hx hb hrt hlocks hS hP hD dX0_op_69
set_option maxHeartbeats 4000000 in
set_option maxRecDepth 100000 in
theorem c_op_11 (l : Launch) (D : va_G) (cI : ClassId) (x0 x1 x2 x3 : Nat) (V S M : Nat → Int32) (d a b : Nat) (hd : d < 16) (ha : a < 16) (hb' : b < 16) : sm_C l yX0_op wsX0_op ({ frames := 6, cells := 0, slots := 0, locals := 140 } : Room) D vwCl [(cI, .int)] [.ref x0, .int 11, .int (nI d), .int (nI a), .int (nI b)] (sm_wX cI x0 x1 x2 x3 V S M) none (sm_wX cI x0 x1 x2 x3 (upd V d (sm_bI (decide (V a = V b)))) (upd S d (sm_bI (!decide (S a ||| S b = 0) && decide ((V a ^^^ V b) &&& ((S a ||| S b) ^^^ (-1)) = 0)))) M) := by
  refine sm_start (cc := cX0_op) (maxL := 7) (ret := none) (lv := [(0, .ref x0), (1, .int 11), (2, .int (nI d)), (3, .int (nI a)), (4, .int (nI b))]) (by decide) rfl (Nat.le_of_ble_eq_true rfl) rfl ?_
  intro p e s m below meth c hx hb hrt hts hown hlocks hml hin hK hP hD hS hA ls hl
  have hw := sm_hw hts
  refine lv_iload_n hx hb dX0_op_0 rfl (lv_at hl 1 rfl) ?_
  refine lv_if_lt (tgt := 10) hx hb dX0_op_1 rfl (fun z => absurd z (by decide)) (fun _ => ?_)
  refine lv_iload_n hx hb dX0_op_4 rfl (lv_at hl 1 rfl) ?_
  refine lv_bipush (v := 12) hx hb dX0_op_5 (by decide) ?_
  refine lv_icmp_le (tgt := 18) hx hb dX0_op_7 rfl (fun _ => ?_) (fun z => absurd (by decide) z)
  refine lv_iload_n hx hb dX0_op_18 rfl (lv_at hl 2 rfl) ?_
  refine sm_callS (As := [.int (nI d)]) (rest := []) (wr := (sm_wX cI x0 x1 x2 x3 V S M)) (wn := (sm_wX cI x0 x1 x2 x3 V S M)) (st1 := []) ⟨hx, hb, hml, hown, hts⟩ (c_checkRegister l D d (by omega)) (va_cwS 1 hts (sm_gS (i1 := 47) (i2 := 48) (i4 := 1) (i5 := 49) rfl rfl rfl rfl) rfl rfl rfl (by decide +kernel) ⟨Nat.le_of_ble_eq_true rfl, Nat.le_of_ble_eq_true rfl⟩) hK [] rfl hP hD hS hA [] [0, 1, 2, 3] rfl rfl (by decide) (by decide) (by decide) rfl hl.1 rfl (Nat.le_of_ble_eq_true rfl) dX0_op_19 ⟨Nat.le_of_ble_eq_true rfl, Nat.le_of_ble_eq_true rfl⟩ rfl rfl (fun H locs hP hD hS => ?_)
  refine lv_iload_n hx hb dX0_op_22 rfl (lv_at hl 3 rfl) ?_
  refine sm_callS (As := [.int (nI a)]) (rest := []) (wr := (sm_wX cI x0 x1 x2 x3 V S M)) (wn := (sm_wX cI x0 x1 x2 x3 V S M)) (st1 := []) ⟨hx, hb, hml, hown, hts⟩ (c_checkRegister l D a (by omega)) (va_cwS 1 hts (sm_gS (i1 := 47) (i2 := 48) (i4 := 1) (i5 := 49) rfl rfl rfl rfl) rfl rfl rfl (by decide +kernel) ⟨Nat.le_of_ble_eq_true rfl, Nat.le_of_ble_eq_true rfl⟩) hK [] rfl hP hD hS hA [] [0, 1, 2, 3] rfl rfl (by decide) (by decide) (by decide) rfl hl.1 rfl (Nat.le_of_ble_eq_true rfl) dX0_op_23 ⟨Nat.le_of_ble_eq_true rfl, Nat.le_of_ble_eq_true rfl⟩ rfl rfl (fun H locs hP hD hS => ?_)
  refine lv_iload hx hb dX0_op_26 (lv_at hl 4 rfl) ?_
  refine sm_callS (As := [.int (nI b)]) (rest := []) (wr := (sm_wX cI x0 x1 x2 x3 V S M)) (wn := (sm_wX cI x0 x1 x2 x3 V S M)) (st1 := []) ⟨hx, hb, hml, hown, hts⟩ (c_checkRegister l D b (by omega)) (va_cwS 1 hts (sm_gS (i1 := 47) (i2 := 48) (i4 := 1) (i5 := 49) rfl rfl rfl rfl) rfl rfl rfl (by decide +kernel) ⟨Nat.le_of_ble_eq_true rfl, Nat.le_of_ble_eq_true rfl⟩) hK [] rfl hP hD hS hA [] [0, 1, 2, 3] rfl rfl (by decide) (by decide) (by decide) rfl hl.1 rfl (Nat.le_of_ble_eq_true rfl) dX0_op_28 ⟨Nat.le_of_ble_eq_true rfl, Nat.le_of_ble_eq_true rfl⟩ rfl rfl (fun H locs hP hD hS => ?_)
  refine lv_aload_n hx hb dX0_op_31 rfl (lv_at hl 0 rfl) ?_
  refine lv_iload_n hx hb dX0_op_32 rfl (lv_at hl 1 rfl) ?_
  refine lv_iload_n hx hb dX0_op_33 rfl (lv_at hl 2 rfl) ?_
  refine lv_iload_n hx hb dX0_op_34 rfl (lv_at hl 3 rfl) ?_
  refine lv_iload hx hb dX0_op_35 (lv_at hl 4 rfl) ?_
  refine sm_callV (C := RX0) (As := [.int 11, .int (nI d), .int (nI a), .int (nI b)]) (rest := []) (wr := []) (wn := (sm_wX cI x0 x1 x2 x3 V S M)) (st1 := [.int (sm_bI (decide (V a = V b)))]) ⟨hx, hb, hml, hown, hts⟩ (c_valueOf_11 l D cI x0 x1 x2 x3 V S M d a b hd ha hb') (cwV 4 hts (sm_gV (i1 := 123) (i2 := 124) (i3 := 344) (i4 := 1) (i5 := 125) rfl rfl rfl rfl rfl) rfl rfl rfl (by decide +kernel) ⟨Nat.le_of_ble_eq_true rfl, Nat.le_of_ble_eq_true rfl⟩) hK [0] rfl hP hD hS hA 0 rfl rfl [0, 1, 2, 3] [] rfl rfl (by decide) (by decide) (by decide) rfl hl.1 rfl (Nat.le_of_ble_eq_true rfl) dX0_op_37 ⟨Nat.le_of_ble_eq_true rfl, Nat.le_of_ble_eq_true rfl⟩ rfl rfl (fun H locs hP hD hS => ?_)
  refine lv_istore (lv' := [(5, .int (sm_bI (decide (V a = V b)))), (0, .ref x0), (1, .int 11), (2, .int (nI d)), (3, .int (nI a)), (4, .int (nI b))]) hx hb dX0_op_40 hl (by decide) rfl (fun ls hl => ?_)
  refine lv_aload_n hx hb dX0_op_42 rfl (lv_at hl 1 rfl) ?_
  refine lv_iload_n hx hb dX0_op_43 rfl (lv_at hl 2 rfl) ?_
  refine lv_iload_n hx hb dX0_op_44 rfl (lv_at hl 3 rfl) ?_
  refine lv_iload_n hx hb dX0_op_45 rfl (lv_at hl 4 rfl) ?_
  refine lv_iload hx hb dX0_op_46 (lv_at hl 5 rfl) ?_
  refine sm_callV (C := RX0) (As := [.int 11, .int (nI d), .int (nI a), .int (nI b)]) (rest := []) (wr := []) (wn := (sm_wX cI x0 x1 x2 x3 V S M)) (st1 := [.int (sm_bI (!decide (S a ||| S b = 0) && decide ((V a ^^^ V b) &&& ((S a ||| S b) ^^^ (-1)) = 0)))]) ⟨hx, hb, hml, hown, hts⟩ (c_shadowOf_11 l D cI x0 x1 x2 x3 V S M d a b hd ha hb') (cwV 4 hts (sm_gV (i1 := 139) (i2 := 140) (i3 := 346) (i4 := 1) (i5 := 141) rfl rfl rfl rfl rfl) rfl rfl rfl (by decide +kernel) ⟨Nat.le_of_ble_eq_true rfl, Nat.le_of_ble_eq_true rfl⟩) hK [0] rfl hP hD hS hA 0 rfl rfl [0, 1, 2, 3] [] rfl rfl (by decide) (by decide) (by decide) rfl hl.1 rfl (Nat.le_of_ble_eq_true rfl) dX0_op_48 ⟨Nat.le_of_ble_eq_true rfl, Nat.le_of_ble_eq_true rfl⟩ rfl rfl (fun H locs hP hD hS => ?_)
  refine lv_istore (lv' := [(6, .int (sm_bI (!decide (S a ||| S b = 0) && decide ((V a ^^^ V b) &&& ((S a ||| S b) ^^^ (-1)) = 0)))), (5, .int (sm_bI (decide (V a = V b)))), (0, .ref x0), (1, .int 11), (2, .int (nI d)), (3, .int (nI a)), (4, .int (nI b))]) hx hb dX0_op_51 hl (by decide) rfl (fun ls hl => ?_)
  refine lv_aload_n hx hb dX0_op_53 rfl (lv_at hl 2 rfl) ?_
  refine va_get (D := D) (ci := 0) (v := .ref x1) (C := RX0) (T := TX0) (N := 3) hx hb hts inX0 hown hK hP 0 rfl rfl 0 (by decide) (hw 18 rfl) (fun _ h9 => h9) rfl dX0_op_54 ?_
  refine lv_iload_n hx hb dX0_op_57 rfl (lv_at hl 4 rfl) ?_
  refine lv_iload hx hb dX0_op_58 (lv_at hl 1 rfl) ?_
  refine sm_iast (f' := upd V d (sm_bI (decide (V a = V b)))) (ws' := (sm_wX cI x0 x1 x2 x3 (upd V d (sm_bI (decide (V a = V b)))) S M)) hx hb hK hP hD hS 1 0 rfl rfl (vp_in_nI (n := d) (by omega) (by decide)) dX0_op_60 (by rw [nI_clamp (by omega)]) rfl (fun H locs hP hD hS => ?_)
  refine lv_aload_n hx hb dX0_op_61 rfl (lv_at hl 2 rfl) ?_
  refine va_get (D := D) (ci := 0) (v := .ref x2) (C := RX0) (T := TX0) (N := 3) hx hb hts inX0 hown hK hP 0 rfl rfl 1 (by decide) (hw 19 rfl) (fun _ h9 => h9) rfl dX0_op_62 ?_
  refine lv_iload_n hx hb dX0_op_65 rfl (lv_at hl 4 rfl) ?_
  refine lv_iload hx hb dX0_op_66 (lv_at hl 0 rfl) ?_
  refine sm_iast (f' := upd S d (sm_bI (!decide (S a ||| S b = 0) && decide ((V a ^^^ V b) &&& ((S a ||| S b) ^^^ (-1)) = 0)))) (ws' := (sm_wX cI x0 x1 x2 x3 (upd V d (sm_bI (decide (V a = V b)))) (upd S d (sm_bI (!decide (S a ||| S b = 0) && decide ((V a ^^^ V b) &&& ((S a ||| S b) ^^^ (-1)) = 0)))) M)) hx hb hK hP hD hS 2 0 rfl rfl (vp_in_nI (n := d) (by omega) (by decide)) dX0_op_68 (by rw [nI_clamp (by omega)]) rfl (fun H locs hP hD hS => ?_)
  exact sm_vret hx hb hrt hlocks hS hP hD dX0_op_69
set_option maxHeartbeats 4000000 in
set_option maxRecDepth 100000 in
theorem c_op_12 (l : Launch) (D : va_G) (cI : ClassId) (x0 x1 x2 x3 : Nat) (V S M : Nat → Int32) (d a b : Nat) (hd : d < 16) (ha : a < 16) (hb' : b < 16) : sm_C l yX0_op wsX0_op ({ frames := 6, cells := 0, slots := 0, locals := 140 } : Room) D vwCl [(cI, .int)] [.ref x0, .int 12, .int (nI d), .int (nI a), .int (nI b)] (sm_wX cI x0 x1 x2 x3 V S M) none (sm_wX cI x0 x1 x2 x3 (upd V d (if bt (V b) 0 then V a else V d)) (upd S d (if bt (S b) 0 then S a ||| S d ||| (V a ^^^ V d) else if bt (V b) 0 then S a else S d)) M) := by
  refine sm_start (cc := cX0_op) (maxL := 7) (ret := none) (lv := [(0, .ref x0), (1, .int 12), (2, .int (nI d)), (3, .int (nI a)), (4, .int (nI b))]) (by decide) rfl (Nat.le_of_ble_eq_true rfl) rfl ?_
  intro p e s m below meth c hx hb hrt hts hown hlocks hml hin hK hP hD hS hA ls hl
  have hw := sm_hw hts
  refine lv_iload_n hx hb dX0_op_0 rfl (lv_at hl 1 rfl) ?_
  refine lv_if_lt (tgt := 10) hx hb dX0_op_1 rfl (fun z => absurd z (by decide)) (fun _ => ?_)
  refine lv_iload_n hx hb dX0_op_4 rfl (lv_at hl 1 rfl) ?_
  refine lv_bipush (v := 12) hx hb dX0_op_5 (by decide) ?_
  refine lv_icmp_le (tgt := 18) hx hb dX0_op_7 rfl (fun _ => ?_) (fun z => absurd (by decide) z)
  refine lv_iload_n hx hb dX0_op_18 rfl (lv_at hl 2 rfl) ?_
  refine sm_callS (As := [.int (nI d)]) (rest := []) (wr := (sm_wX cI x0 x1 x2 x3 V S M)) (wn := (sm_wX cI x0 x1 x2 x3 V S M)) (st1 := []) ⟨hx, hb, hml, hown, hts⟩ (c_checkRegister l D d (by omega)) (va_cwS 1 hts (sm_gS (i1 := 47) (i2 := 48) (i4 := 1) (i5 := 49) rfl rfl rfl rfl) rfl rfl rfl (by decide +kernel) ⟨Nat.le_of_ble_eq_true rfl, Nat.le_of_ble_eq_true rfl⟩) hK [] rfl hP hD hS hA [] [0, 1, 2, 3] rfl rfl (by decide) (by decide) (by decide) rfl hl.1 rfl (Nat.le_of_ble_eq_true rfl) dX0_op_19 ⟨Nat.le_of_ble_eq_true rfl, Nat.le_of_ble_eq_true rfl⟩ rfl rfl (fun H locs hP hD hS => ?_)
  refine lv_iload_n hx hb dX0_op_22 rfl (lv_at hl 3 rfl) ?_
  refine sm_callS (As := [.int (nI a)]) (rest := []) (wr := (sm_wX cI x0 x1 x2 x3 V S M)) (wn := (sm_wX cI x0 x1 x2 x3 V S M)) (st1 := []) ⟨hx, hb, hml, hown, hts⟩ (c_checkRegister l D a (by omega)) (va_cwS 1 hts (sm_gS (i1 := 47) (i2 := 48) (i4 := 1) (i5 := 49) rfl rfl rfl rfl) rfl rfl rfl (by decide +kernel) ⟨Nat.le_of_ble_eq_true rfl, Nat.le_of_ble_eq_true rfl⟩) hK [] rfl hP hD hS hA [] [0, 1, 2, 3] rfl rfl (by decide) (by decide) (by decide) rfl hl.1 rfl (Nat.le_of_ble_eq_true rfl) dX0_op_23 ⟨Nat.le_of_ble_eq_true rfl, Nat.le_of_ble_eq_true rfl⟩ rfl rfl (fun H locs hP hD hS => ?_)
  refine lv_iload hx hb dX0_op_26 (lv_at hl 4 rfl) ?_
  refine sm_callS (As := [.int (nI b)]) (rest := []) (wr := (sm_wX cI x0 x1 x2 x3 V S M)) (wn := (sm_wX cI x0 x1 x2 x3 V S M)) (st1 := []) ⟨hx, hb, hml, hown, hts⟩ (c_checkRegister l D b (by omega)) (va_cwS 1 hts (sm_gS (i1 := 47) (i2 := 48) (i4 := 1) (i5 := 49) rfl rfl rfl rfl) rfl rfl rfl (by decide +kernel) ⟨Nat.le_of_ble_eq_true rfl, Nat.le_of_ble_eq_true rfl⟩) hK [] rfl hP hD hS hA [] [0, 1, 2, 3] rfl rfl (by decide) (by decide) (by decide) rfl hl.1 rfl (Nat.le_of_ble_eq_true rfl) dX0_op_28 ⟨Nat.le_of_ble_eq_true rfl, Nat.le_of_ble_eq_true rfl⟩ rfl rfl (fun H locs hP hD hS => ?_)
  refine lv_aload_n hx hb dX0_op_31 rfl (lv_at hl 0 rfl) ?_
  refine lv_iload_n hx hb dX0_op_32 rfl (lv_at hl 1 rfl) ?_
  refine lv_iload_n hx hb dX0_op_33 rfl (lv_at hl 2 rfl) ?_
  refine lv_iload_n hx hb dX0_op_34 rfl (lv_at hl 3 rfl) ?_
  refine lv_iload hx hb dX0_op_35 (lv_at hl 4 rfl) ?_
  refine sm_callV (C := RX0) (As := [.int 12, .int (nI d), .int (nI a), .int (nI b)]) (rest := []) (wr := []) (wn := (sm_wX cI x0 x1 x2 x3 V S M)) (st1 := [.int (if bt (V b) 0 then V a else V d)]) ⟨hx, hb, hml, hown, hts⟩ (c_valueOf_12 l D cI x0 x1 x2 x3 V S M d a b hd ha hb') (cwV 4 hts (sm_gV (i1 := 123) (i2 := 124) (i3 := 344) (i4 := 1) (i5 := 125) rfl rfl rfl rfl rfl) rfl rfl rfl (by decide +kernel) ⟨Nat.le_of_ble_eq_true rfl, Nat.le_of_ble_eq_true rfl⟩) hK [0] rfl hP hD hS hA 0 rfl rfl [0, 1, 2, 3] [] rfl rfl (by decide) (by decide) (by decide) rfl hl.1 rfl (Nat.le_of_ble_eq_true rfl) dX0_op_37 ⟨Nat.le_of_ble_eq_true rfl, Nat.le_of_ble_eq_true rfl⟩ rfl rfl (fun H locs hP hD hS => ?_)
  refine lv_istore (lv' := [(5, .int (if bt (V b) 0 then V a else V d)), (0, .ref x0), (1, .int 12), (2, .int (nI d)), (3, .int (nI a)), (4, .int (nI b))]) hx hb dX0_op_40 hl (by decide) rfl (fun ls hl => ?_)
  refine lv_aload_n hx hb dX0_op_42 rfl (lv_at hl 1 rfl) ?_
  refine lv_iload_n hx hb dX0_op_43 rfl (lv_at hl 2 rfl) ?_
  refine lv_iload_n hx hb dX0_op_44 rfl (lv_at hl 3 rfl) ?_
  refine lv_iload_n hx hb dX0_op_45 rfl (lv_at hl 4 rfl) ?_
  refine lv_iload hx hb dX0_op_46 (lv_at hl 5 rfl) ?_
  refine sm_callV (C := RX0) (As := [.int 12, .int (nI d), .int (nI a), .int (nI b)]) (rest := []) (wr := []) (wn := (sm_wX cI x0 x1 x2 x3 V S M)) (st1 := [.int (if bt (S b) 0 then S a ||| S d ||| (V a ^^^ V d) else if bt (V b) 0 then S a else S d)]) ⟨hx, hb, hml, hown, hts⟩ (c_shadowOf_12 l D cI x0 x1 x2 x3 V S M d a b hd ha hb') (cwV 4 hts (sm_gV (i1 := 139) (i2 := 140) (i3 := 346) (i4 := 1) (i5 := 141) rfl rfl rfl rfl rfl) rfl rfl rfl (by decide +kernel) ⟨Nat.le_of_ble_eq_true rfl, Nat.le_of_ble_eq_true rfl⟩) hK [0] rfl hP hD hS hA 0 rfl rfl [0, 1, 2, 3] [] rfl rfl (by decide) (by decide) (by decide) rfl hl.1 rfl (Nat.le_of_ble_eq_true rfl) dX0_op_48 ⟨Nat.le_of_ble_eq_true rfl, Nat.le_of_ble_eq_true rfl⟩ rfl rfl (fun H locs hP hD hS => ?_)
  refine lv_istore (lv' := [(6, .int (if bt (S b) 0 then S a ||| S d ||| (V a ^^^ V d) else if bt (V b) 0 then S a else S d)), (5, .int (if bt (V b) 0 then V a else V d)), (0, .ref x0), (1, .int 12), (2, .int (nI d)), (3, .int (nI a)), (4, .int (nI b))]) hx hb dX0_op_51 hl (by decide) rfl (fun ls hl => ?_)
  refine lv_aload_n hx hb dX0_op_53 rfl (lv_at hl 2 rfl) ?_
  refine va_get (D := D) (ci := 0) (v := .ref x1) (C := RX0) (T := TX0) (N := 3) hx hb hts inX0 hown hK hP 0 rfl rfl 0 (by decide) (hw 18 rfl) (fun _ h9 => h9) rfl dX0_op_54 ?_
  refine lv_iload_n hx hb dX0_op_57 rfl (lv_at hl 4 rfl) ?_
  refine lv_iload hx hb dX0_op_58 (lv_at hl 1 rfl) ?_
  refine sm_iast (f' := upd V d (if bt (V b) 0 then V a else V d)) (ws' := (sm_wX cI x0 x1 x2 x3 (upd V d (if bt (V b) 0 then V a else V d)) S M)) hx hb hK hP hD hS 1 0 rfl rfl (vp_in_nI (n := d) (by omega) (by decide)) dX0_op_60 (by rw [nI_clamp (by omega)]) rfl (fun H locs hP hD hS => ?_)
  refine lv_aload_n hx hb dX0_op_61 rfl (lv_at hl 2 rfl) ?_
  refine va_get (D := D) (ci := 0) (v := .ref x2) (C := RX0) (T := TX0) (N := 3) hx hb hts inX0 hown hK hP 0 rfl rfl 1 (by decide) (hw 19 rfl) (fun _ h9 => h9) rfl dX0_op_62 ?_
  refine lv_iload_n hx hb dX0_op_65 rfl (lv_at hl 4 rfl) ?_
  refine lv_iload hx hb dX0_op_66 (lv_at hl 0 rfl) ?_
  refine sm_iast (f' := upd S d (if bt (S b) 0 then S a ||| S d ||| (V a ^^^ V d) else if bt (V b) 0 then S a else S d)) (ws' := (sm_wX cI x0 x1 x2 x3 (upd V d (if bt (V b) 0 then V a else V d)) (upd S d (if bt (S b) 0 then S a ||| S d ||| (V a ^^^ V d) else if bt (V b) 0 then S a else S d)) M)) hx hb hK hP hD hS 2 0 rfl rfl (vp_in_nI (n := d) (by omega) (by decide)) dX0_op_68 (by rw [nI_clamp (by omega)]) rfl (fun H locs hP hD hS => ?_)
  exact sm_vret hx hb hrt hlocks hS hP hD dX0_op_69
end
section
set_option maxHeartbeats 4000000 in
set_option maxRecDepth 100000 in
theorem c_checkTransfer_1 (l : Launch) (D : va_G)  (r t : Nat) (hr : r < 16) (ht : t + 1 ≤ 256) : sm_C l yX0_checkTransfer wsX0_checkTransfer ({ frames := 1, cells := 0, slots := 0, locals := 20 } : Room) D vwCl [] [.int (nI r), .int (nI t), .int 1] [] none [] := by
  refine sm_start (cc := cX0_checkTransfer) (maxL := 3) (ret := none) (lv := [(0, .int (nI r)), (1, .int (nI t)), (2, .int 1)]) (by decide) rfl (Nat.le_of_ble_eq_true rfl) rfl ?_
  intro p e s m below meth c hx hb hrt hts hown hlocks hml hin hK hP hD hS hA ls hl
  have hw := sm_hw hts
  refine lv_iload_n hx hb dX0_checkTransfer_0 rfl (lv_at hl 2 rfl) ?_
  refine lv_iconst (v := 1) hx hb dX0_checkTransfer_1 (by decide) ?_
  refine lv_icmp_eq (tgt := 23) hx hb dX0_checkTransfer_2 rfl (fun _ => ?_) (fun z => absurd (by decide) z)
  refine lv_iload_n hx hb dX0_checkTransfer_23 rfl (lv_at hl 1 rfl) ?_
  refine lv_if_lt (tgt := 36) hx hb dX0_checkTransfer_24 rfl (fun z => absurd z (nI_pos (by omega))) (fun _ => ?_)
  refine lv_iload_n hx hb dX0_checkTransfer_27 rfl (lv_at hl 1 rfl) ?_
  refine lv_sipush (v := 256) hx hb dX0_checkTransfer_28 (by decide) ?_
  refine lv_iload_n hx hb dX0_checkTransfer_31 rfl (lv_at hl 2 rfl) ?_
  refine lv_isub hx hb dX0_checkTransfer_32 ?_
  refine sm_eqi (y := 255) (by decide) ?_
  refine lv_icmp_le (tgt := 44) hx hb dX0_checkTransfer_33 rfl (fun _ => ?_) (fun z => absurd (nI_le (b := 255) (by omega) (by decide)) z)
  refine lv_iload_n hx hb dX0_checkTransfer_44 rfl (lv_at hl 0 rfl) ?_
  refine sm_callS (As := [.int (nI r)]) (rest := []) (wr := []) (wn := []) (st1 := []) ⟨hx, hb, hml, hown, hts⟩ (c_checkRegister l D r (by omega)) (va_cwS 1 hts (sm_gS (i1 := 47) (i2 := 48) (i4 := 1) (i5 := 49) rfl rfl rfl rfl) rfl rfl rfl (by decide +kernel) ⟨Nat.le_of_ble_eq_true rfl, Nat.le_of_ble_eq_true rfl⟩) hK [] rfl hP hD hS hA [] [] rfl rfl (by decide) (by decide) (by decide) rfl hl.1 rfl (Nat.le_of_ble_eq_true rfl) dX0_checkTransfer_45 ⟨Nat.le_of_ble_eq_true rfl, Nat.le_of_ble_eq_true rfl⟩ rfl rfl (fun H locs hP hD hS => ?_)
  exact sm_vret hx hb hrt hlocks hS hP hD dX0_checkTransfer_48
set_option maxHeartbeats 4000000 in
set_option maxRecDepth 100000 in
theorem c_checkTransfer_2 (l : Launch) (D : va_G)  (r t : Nat) (hr : r < 16) (ht : t + 2 ≤ 256) : sm_C l yX0_checkTransfer wsX0_checkTransfer ({ frames := 1, cells := 0, slots := 0, locals := 20 } : Room) D vwCl [] [.int (nI r), .int (nI t), .int 2] [] none [] := by
  refine sm_start (cc := cX0_checkTransfer) (maxL := 3) (ret := none) (lv := [(0, .int (nI r)), (1, .int (nI t)), (2, .int 2)]) (by decide) rfl (Nat.le_of_ble_eq_true rfl) rfl ?_
  intro p e s m below meth c hx hb hrt hts hown hlocks hml hin hK hP hD hS hA ls hl
  have hw := sm_hw hts
  refine lv_iload_n hx hb dX0_checkTransfer_0 rfl (lv_at hl 2 rfl) ?_
  refine lv_iconst (v := 1) hx hb dX0_checkTransfer_1 (by decide) ?_
  refine lv_icmp_eq (tgt := 23) hx hb dX0_checkTransfer_2 rfl (fun z => absurd z (by decide)) (fun _ => ?_)
  refine lv_iload_n hx hb dX0_checkTransfer_5 rfl (lv_at hl 2 rfl) ?_
  refine lv_iconst (v := 2) hx hb dX0_checkTransfer_6 (by decide) ?_
  refine lv_icmp_eq (tgt := 23) hx hb dX0_checkTransfer_7 rfl (fun _ => ?_) (fun z => absurd (by decide) z)
  refine lv_iload_n hx hb dX0_checkTransfer_23 rfl (lv_at hl 1 rfl) ?_
  refine lv_if_lt (tgt := 36) hx hb dX0_checkTransfer_24 rfl (fun z => absurd z (nI_pos (by omega))) (fun _ => ?_)
  refine lv_iload_n hx hb dX0_checkTransfer_27 rfl (lv_at hl 1 rfl) ?_
  refine lv_sipush (v := 256) hx hb dX0_checkTransfer_28 (by decide) ?_
  refine lv_iload_n hx hb dX0_checkTransfer_31 rfl (lv_at hl 2 rfl) ?_
  refine lv_isub hx hb dX0_checkTransfer_32 ?_
  refine sm_eqi (y := 254) (by decide) ?_
  refine lv_icmp_le (tgt := 44) hx hb dX0_checkTransfer_33 rfl (fun _ => ?_) (fun z => absurd (nI_le (b := 254) (by omega) (by decide)) z)
  refine lv_iload_n hx hb dX0_checkTransfer_44 rfl (lv_at hl 0 rfl) ?_
  refine sm_callS (As := [.int (nI r)]) (rest := []) (wr := []) (wn := []) (st1 := []) ⟨hx, hb, hml, hown, hts⟩ (c_checkRegister l D r (by omega)) (va_cwS 1 hts (sm_gS (i1 := 47) (i2 := 48) (i4 := 1) (i5 := 49) rfl rfl rfl rfl) rfl rfl rfl (by decide +kernel) ⟨Nat.le_of_ble_eq_true rfl, Nat.le_of_ble_eq_true rfl⟩) hK [] rfl hP hD hS hA [] [] rfl rfl (by decide) (by decide) (by decide) rfl hl.1 rfl (Nat.le_of_ble_eq_true rfl) dX0_checkTransfer_45 ⟨Nat.le_of_ble_eq_true rfl, Nat.le_of_ble_eq_true rfl⟩ rfl rfl (fun H locs hP hD hS => ?_)
  exact sm_vret hx hb hrt hlocks hS hP hD dX0_checkTransfer_48
set_option maxHeartbeats 4000000 in
set_option maxRecDepth 100000 in
theorem c_checkTransfer_4 (l : Launch) (D : va_G)  (r t : Nat) (hr : r < 16) (ht : t + 4 ≤ 256) : sm_C l yX0_checkTransfer wsX0_checkTransfer ({ frames := 1, cells := 0, slots := 0, locals := 20 } : Room) D vwCl [] [.int (nI r), .int (nI t), .int 4] [] none [] := by
  refine sm_start (cc := cX0_checkTransfer) (maxL := 3) (ret := none) (lv := [(0, .int (nI r)), (1, .int (nI t)), (2, .int 4)]) (by decide) rfl (Nat.le_of_ble_eq_true rfl) rfl ?_
  intro p e s m below meth c hx hb hrt hts hown hlocks hml hin hK hP hD hS hA ls hl
  have hw := sm_hw hts
  refine lv_iload_n hx hb dX0_checkTransfer_0 rfl (lv_at hl 2 rfl) ?_
  refine lv_iconst (v := 1) hx hb dX0_checkTransfer_1 (by decide) ?_
  refine lv_icmp_eq (tgt := 23) hx hb dX0_checkTransfer_2 rfl (fun z => absurd z (by decide)) (fun _ => ?_)
  refine lv_iload_n hx hb dX0_checkTransfer_5 rfl (lv_at hl 2 rfl) ?_
  refine lv_iconst (v := 2) hx hb dX0_checkTransfer_6 (by decide) ?_
  refine lv_icmp_eq (tgt := 23) hx hb dX0_checkTransfer_7 rfl (fun z => absurd z (by decide)) (fun _ => ?_)
  refine lv_iload_n hx hb dX0_checkTransfer_10 rfl (lv_at hl 2 rfl) ?_
  refine lv_iconst (v := 4) hx hb dX0_checkTransfer_11 (by decide) ?_
  refine lv_icmp_eq (tgt := 23) hx hb dX0_checkTransfer_12 rfl (fun _ => ?_) (fun z => absurd (by decide) z)
  refine lv_iload_n hx hb dX0_checkTransfer_23 rfl (lv_at hl 1 rfl) ?_
  refine lv_if_lt (tgt := 36) hx hb dX0_checkTransfer_24 rfl (fun z => absurd z (nI_pos (by omega))) (fun _ => ?_)
  refine lv_iload_n hx hb dX0_checkTransfer_27 rfl (lv_at hl 1 rfl) ?_
  refine lv_sipush (v := 256) hx hb dX0_checkTransfer_28 (by decide) ?_
  refine lv_iload_n hx hb dX0_checkTransfer_31 rfl (lv_at hl 2 rfl) ?_
  refine lv_isub hx hb dX0_checkTransfer_32 ?_
  refine sm_eqi (y := 252) (by decide) ?_
  refine lv_icmp_le (tgt := 44) hx hb dX0_checkTransfer_33 rfl (fun _ => ?_) (fun z => absurd (nI_le (b := 252) (by omega) (by decide)) z)
  refine lv_iload_n hx hb dX0_checkTransfer_44 rfl (lv_at hl 0 rfl) ?_
  refine sm_callS (As := [.int (nI r)]) (rest := []) (wr := []) (wn := []) (st1 := []) ⟨hx, hb, hml, hown, hts⟩ (c_checkRegister l D r (by omega)) (va_cwS 1 hts (sm_gS (i1 := 47) (i2 := 48) (i4 := 1) (i5 := 49) rfl rfl rfl rfl) rfl rfl rfl (by decide +kernel) ⟨Nat.le_of_ble_eq_true rfl, Nat.le_of_ble_eq_true rfl⟩) hK [] rfl hP hD hS hA [] [] rfl rfl (by decide) (by decide) (by decide) rfl hl.1 rfl (Nat.le_of_ble_eq_true rfl) dX0_checkTransfer_45 ⟨Nat.le_of_ble_eq_true rfl, Nat.le_of_ble_eq_true rfl⟩ rfl rfl (fun H locs hP hD hS => ?_)
  exact sm_vret hx hb hrt hlocks hS hP hD dX0_checkTransfer_48
set_option maxHeartbeats 4000000 in
set_option maxRecDepth 100000 in
theorem c_widened_1_t (l : Launch) (D : va_G) (x : Int32) : sm_C l yX0_widened wsX0_widened ({ frames := 0, cells := 0, slots := 0, locals := 0 } : Room) D vwCl [] [.int x, .int 1, .int (sm_bI true)] [] (some (.int ((x <<< (nI 24 &&& 31)) >>> (nI 24 &&& 31)))) [] := by
  refine sm_start (cc := cX0_widened) (maxL := 4) (ret := some .int) (lv := [(0, .int x), (1, .int 1), (2, .int (sm_bI true))]) (by decide) rfl (Nat.le_of_ble_eq_true rfl) rfl ?_
  intro p e s m below meth c hx hb hrt hts hown hlocks hml hin hK hP hD hS hA ls hl
  have hw := sm_hw hts
  refine lv_bipush (v := 32) hx hb dX0_widened_0 (by decide) ?_
  refine lv_iload_n hx hb dX0_widened_2 rfl (lv_at hl 1 rfl) ?_
  refine lv_bipush (v := 8) hx hb dX0_widened_3 (by decide) ?_
  refine lv_imul hx hb dX0_widened_5 ?_
  refine sm_eqi (y := 8) (by decide) ?_
  refine lv_isub hx hb dX0_widened_6 ?_
  refine sm_eqi (y := 24) (by decide) ?_
  refine lv_istore_n (lv' := [(3, .int 24), (0, .int x), (1, .int 1), (2, .int (sm_bI true))]) hx hb dX0_widened_7 rfl hl (by decide) rfl (fun ls hl => ?_)
  refine lv_iload_n hx hb dX0_widened_8 rfl (lv_at hl 3 rfl) ?_
  refine lv_if_eq (tgt := 20) hx hb dX0_widened_9 rfl (fun z => absurd z (by decide)) (fun _ => ?_)
  refine lv_iload_n hx hb dX0_widened_12 rfl (lv_at hl 1 rfl) ?_
  refine lv_iload_n hx hb dX0_widened_13 rfl (lv_at hl 0 rfl) ?_
  refine lv_ishl hx hb dX0_widened_14 ?_
  refine lv_iload_n hx hb dX0_widened_15 rfl (lv_at hl 0 rfl) ?_
  refine lv_ishr hx hb dX0_widened_16 ?_
  refine lv_goto (tgt := 25) hx hb dX0_widened_17 rfl ?_
  refine sm_eqi (y := (x <<< (nI 24 &&& 31)) >>> (nI 24 &&& 31)) (rfl) ?_
  exact sm_iret hx hb hrt hlocks hS hP hD dX0_widened_25
set_option maxHeartbeats 4000000 in
set_option maxRecDepth 100000 in
theorem c_widened_1_f (l : Launch) (D : va_G) (x : Int32) : sm_C l yX0_widened wsX0_widened ({ frames := 0, cells := 0, slots := 0, locals := 0 } : Room) D vwCl [] [.int x, .int 1, .int (sm_bI false)] [] (some (.int (sm_ushr (x <<< (nI 24 &&& 31)) (nI 24)))) [] := by
  refine sm_start (cc := cX0_widened) (maxL := 4) (ret := some .int) (lv := [(0, .int x), (1, .int 1), (2, .int (sm_bI false))]) (by decide) rfl (Nat.le_of_ble_eq_true rfl) rfl ?_
  intro p e s m below meth c hx hb hrt hts hown hlocks hml hin hK hP hD hS hA ls hl
  have hw := sm_hw hts
  refine lv_bipush (v := 32) hx hb dX0_widened_0 (by decide) ?_
  refine lv_iload_n hx hb dX0_widened_2 rfl (lv_at hl 1 rfl) ?_
  refine lv_bipush (v := 8) hx hb dX0_widened_3 (by decide) ?_
  refine lv_imul hx hb dX0_widened_5 ?_
  refine sm_eqi (y := 8) (by decide) ?_
  refine lv_isub hx hb dX0_widened_6 ?_
  refine sm_eqi (y := 24) (by decide) ?_
  refine lv_istore_n (lv' := [(3, .int 24), (0, .int x), (1, .int 1), (2, .int (sm_bI false))]) hx hb dX0_widened_7 rfl hl (by decide) rfl (fun ls hl => ?_)
  refine lv_iload_n hx hb dX0_widened_8 rfl (lv_at hl 3 rfl) ?_
  refine lv_if_eq (tgt := 20) hx hb dX0_widened_9 rfl (fun _ => ?_) (fun z => absurd (by decide) z)
  refine lv_iload_n hx hb dX0_widened_20 rfl (lv_at hl 1 rfl) ?_
  refine lv_iload_n hx hb dX0_widened_21 rfl (lv_at hl 0 rfl) ?_
  refine lv_ishl hx hb dX0_widened_22 ?_
  refine lv_iload_n hx hb dX0_widened_23 rfl (lv_at hl 0 rfl) ?_
  refine lv_iushr (v := sm_ushr (x <<< (24 &&& 31)) 24) hx hb dX0_widened_24 rfl ?_
  refine sm_eqi (y := sm_ushr (x <<< (nI 24 &&& 31)) (nI 24)) (rfl) ?_
  exact sm_iret hx hb hrt hlocks hS hP hD dX0_widened_25
set_option maxHeartbeats 4000000 in
set_option maxRecDepth 100000 in
theorem c_widened_2_t (l : Launch) (D : va_G) (x : Int32) : sm_C l yX0_widened wsX0_widened ({ frames := 0, cells := 0, slots := 0, locals := 0 } : Room) D vwCl [] [.int x, .int 2, .int (sm_bI true)] [] (some (.int ((x <<< (nI 16 &&& 31)) >>> (nI 16 &&& 31)))) [] := by
  refine sm_start (cc := cX0_widened) (maxL := 4) (ret := some .int) (lv := [(0, .int x), (1, .int 2), (2, .int (sm_bI true))]) (by decide) rfl (Nat.le_of_ble_eq_true rfl) rfl ?_
  intro p e s m below meth c hx hb hrt hts hown hlocks hml hin hK hP hD hS hA ls hl
  have hw := sm_hw hts
  refine lv_bipush (v := 32) hx hb dX0_widened_0 (by decide) ?_
  refine lv_iload_n hx hb dX0_widened_2 rfl (lv_at hl 1 rfl) ?_
  refine lv_bipush (v := 8) hx hb dX0_widened_3 (by decide) ?_
  refine lv_imul hx hb dX0_widened_5 ?_
  refine sm_eqi (y := 16) (by decide) ?_
  refine lv_isub hx hb dX0_widened_6 ?_
  refine sm_eqi (y := 16) (by decide) ?_
  refine lv_istore_n (lv' := [(3, .int 16), (0, .int x), (1, .int 2), (2, .int (sm_bI true))]) hx hb dX0_widened_7 rfl hl (by decide) rfl (fun ls hl => ?_)
  refine lv_iload_n hx hb dX0_widened_8 rfl (lv_at hl 3 rfl) ?_
  refine lv_if_eq (tgt := 20) hx hb dX0_widened_9 rfl (fun z => absurd z (by decide)) (fun _ => ?_)
  refine lv_iload_n hx hb dX0_widened_12 rfl (lv_at hl 1 rfl) ?_
  refine lv_iload_n hx hb dX0_widened_13 rfl (lv_at hl 0 rfl) ?_
  refine lv_ishl hx hb dX0_widened_14 ?_
  refine lv_iload_n hx hb dX0_widened_15 rfl (lv_at hl 0 rfl) ?_
  refine lv_ishr hx hb dX0_widened_16 ?_
  refine lv_goto (tgt := 25) hx hb dX0_widened_17 rfl ?_
  refine sm_eqi (y := (x <<< (nI 16 &&& 31)) >>> (nI 16 &&& 31)) (rfl) ?_
  exact sm_iret hx hb hrt hlocks hS hP hD dX0_widened_25
set_option maxHeartbeats 4000000 in
set_option maxRecDepth 100000 in
theorem c_widened_2_f (l : Launch) (D : va_G) (x : Int32) : sm_C l yX0_widened wsX0_widened ({ frames := 0, cells := 0, slots := 0, locals := 0 } : Room) D vwCl [] [.int x, .int 2, .int (sm_bI false)] [] (some (.int (sm_ushr (x <<< (nI 16 &&& 31)) (nI 16)))) [] := by
  refine sm_start (cc := cX0_widened) (maxL := 4) (ret := some .int) (lv := [(0, .int x), (1, .int 2), (2, .int (sm_bI false))]) (by decide) rfl (Nat.le_of_ble_eq_true rfl) rfl ?_
  intro p e s m below meth c hx hb hrt hts hown hlocks hml hin hK hP hD hS hA ls hl
  have hw := sm_hw hts
  refine lv_bipush (v := 32) hx hb dX0_widened_0 (by decide) ?_
  refine lv_iload_n hx hb dX0_widened_2 rfl (lv_at hl 1 rfl) ?_
  refine lv_bipush (v := 8) hx hb dX0_widened_3 (by decide) ?_
  refine lv_imul hx hb dX0_widened_5 ?_
  refine sm_eqi (y := 16) (by decide) ?_
  refine lv_isub hx hb dX0_widened_6 ?_
  refine sm_eqi (y := 16) (by decide) ?_
  refine lv_istore_n (lv' := [(3, .int 16), (0, .int x), (1, .int 2), (2, .int (sm_bI false))]) hx hb dX0_widened_7 rfl hl (by decide) rfl (fun ls hl => ?_)
  refine lv_iload_n hx hb dX0_widened_8 rfl (lv_at hl 3 rfl) ?_
  refine lv_if_eq (tgt := 20) hx hb dX0_widened_9 rfl (fun _ => ?_) (fun z => absurd (by decide) z)
  refine lv_iload_n hx hb dX0_widened_20 rfl (lv_at hl 1 rfl) ?_
  refine lv_iload_n hx hb dX0_widened_21 rfl (lv_at hl 0 rfl) ?_
  refine lv_ishl hx hb dX0_widened_22 ?_
  refine lv_iload_n hx hb dX0_widened_23 rfl (lv_at hl 0 rfl) ?_
  refine lv_iushr (v := sm_ushr (x <<< (16 &&& 31)) 16) hx hb dX0_widened_24 rfl ?_
  refine sm_eqi (y := sm_ushr (x <<< (nI 16 &&& 31)) (nI 16)) (rfl) ?_
  exact sm_iret hx hb hrt hlocks hS hP hD dX0_widened_25
set_option maxHeartbeats 4000000 in
set_option maxRecDepth 100000 in
theorem c_widened_4_t (l : Launch) (D : va_G) (x : Int32) : sm_C l yX0_widened wsX0_widened ({ frames := 0, cells := 0, slots := 0, locals := 0 } : Room) D vwCl [] [.int x, .int 4, .int (sm_bI true)] [] (some (.int ((x <<< (nI 0 &&& 31)) >>> (nI 0 &&& 31)))) [] := by
  refine sm_start (cc := cX0_widened) (maxL := 4) (ret := some .int) (lv := [(0, .int x), (1, .int 4), (2, .int (sm_bI true))]) (by decide) rfl (Nat.le_of_ble_eq_true rfl) rfl ?_
  intro p e s m below meth c hx hb hrt hts hown hlocks hml hin hK hP hD hS hA ls hl
  have hw := sm_hw hts
  refine lv_bipush (v := 32) hx hb dX0_widened_0 (by decide) ?_
  refine lv_iload_n hx hb dX0_widened_2 rfl (lv_at hl 1 rfl) ?_
  refine lv_bipush (v := 8) hx hb dX0_widened_3 (by decide) ?_
  refine lv_imul hx hb dX0_widened_5 ?_
  refine sm_eqi (y := 32) (by decide) ?_
  refine lv_isub hx hb dX0_widened_6 ?_
  refine sm_eqi (y := 0) (by decide) ?_
  refine lv_istore_n (lv' := [(3, .int 0), (0, .int x), (1, .int 4), (2, .int (sm_bI true))]) hx hb dX0_widened_7 rfl hl (by decide) rfl (fun ls hl => ?_)
  refine lv_iload_n hx hb dX0_widened_8 rfl (lv_at hl 3 rfl) ?_
  refine lv_if_eq (tgt := 20) hx hb dX0_widened_9 rfl (fun z => absurd z (by decide)) (fun _ => ?_)
  refine lv_iload_n hx hb dX0_widened_12 rfl (lv_at hl 1 rfl) ?_
  refine lv_iload_n hx hb dX0_widened_13 rfl (lv_at hl 0 rfl) ?_
  refine lv_ishl hx hb dX0_widened_14 ?_
  refine lv_iload_n hx hb dX0_widened_15 rfl (lv_at hl 0 rfl) ?_
  refine lv_ishr hx hb dX0_widened_16 ?_
  refine lv_goto (tgt := 25) hx hb dX0_widened_17 rfl ?_
  refine sm_eqi (y := (x <<< (nI 0 &&& 31)) >>> (nI 0 &&& 31)) (rfl) ?_
  exact sm_iret hx hb hrt hlocks hS hP hD dX0_widened_25
set_option maxHeartbeats 4000000 in
set_option maxRecDepth 100000 in
theorem c_widened_4_f (l : Launch) (D : va_G) (x : Int32) : sm_C l yX0_widened wsX0_widened ({ frames := 0, cells := 0, slots := 0, locals := 0 } : Room) D vwCl [] [.int x, .int 4, .int (sm_bI false)] [] (some (.int (sm_ushr (x <<< (nI 0 &&& 31)) (nI 0)))) [] := by
  refine sm_start (cc := cX0_widened) (maxL := 4) (ret := some .int) (lv := [(0, .int x), (1, .int 4), (2, .int (sm_bI false))]) (by decide) rfl (Nat.le_of_ble_eq_true rfl) rfl ?_
  intro p e s m below meth c hx hb hrt hts hown hlocks hml hin hK hP hD hS hA ls hl
  have hw := sm_hw hts
  refine lv_bipush (v := 32) hx hb dX0_widened_0 (by decide) ?_
  refine lv_iload_n hx hb dX0_widened_2 rfl (lv_at hl 1 rfl) ?_
  refine lv_bipush (v := 8) hx hb dX0_widened_3 (by decide) ?_
  refine lv_imul hx hb dX0_widened_5 ?_
  refine sm_eqi (y := 32) (by decide) ?_
  refine lv_isub hx hb dX0_widened_6 ?_
  refine sm_eqi (y := 0) (by decide) ?_
  refine lv_istore_n (lv' := [(3, .int 0), (0, .int x), (1, .int 4), (2, .int (sm_bI false))]) hx hb dX0_widened_7 rfl hl (by decide) rfl (fun ls hl => ?_)
  refine lv_iload_n hx hb dX0_widened_8 rfl (lv_at hl 3 rfl) ?_
  refine lv_if_eq (tgt := 20) hx hb dX0_widened_9 rfl (fun _ => ?_) (fun z => absurd (by decide) z)
  refine lv_iload_n hx hb dX0_widened_20 rfl (lv_at hl 1 rfl) ?_
  refine lv_iload_n hx hb dX0_widened_21 rfl (lv_at hl 0 rfl) ?_
  refine lv_ishl hx hb dX0_widened_22 ?_
  refine lv_iload_n hx hb dX0_widened_23 rfl (lv_at hl 0 rfl) ?_
  refine lv_iushr (v := sm_ushr (x <<< (0 &&& 31)) 0) hx hb dX0_widened_24 rfl ?_
  refine sm_eqi (y := sm_ushr (x <<< (nI 0 &&& 31)) (nI 0)) (rfl) ?_
  exact sm_iret hx hb hrt hlocks hS hP hD dX0_widened_25
set_option maxHeartbeats 4000000 in
set_option maxRecDepth 100000 in
theorem c_store_1 (l : Launch) (D : va_G) (cI : ClassId) (x0 x1 x2 x3 : Nat) (V S M : Nat → Int32) (r t : Nat) (hr : r < 16) (ht : t + 1 ≤ 256) : sm_C l yX0_store wsX0_store ({ frames := 2, cells := 0, slots := 0, locals := 42 } : Room) D vwCl [(cI, .int)] [.ref x0, .int (nI r), .int (nI t), .int 1] (sm_wX cI x0 x1 x2 x3 V S M) none (sm_wX cI x0 x1 x2 x3 V S (sm_fil M (sm_by (V r) (S r)) t 1)) := by
  refine sm_start (cc := cX0_store) (maxL := 8) (ret := none) (lv := [(0, .ref x0), (1, .int (nI r)), (2, .int (nI t)), (3, .int 1)]) (by decide) rfl (Nat.le_of_ble_eq_true rfl) rfl ?_
  intro p e s m below meth c hx hb hrt hts hown hlocks hml hin hK hP hD hS hA ls hl
  have hw := sm_hw hts
  refine lv_iload_n hx hb dX0_store_0 rfl (lv_at hl 1 rfl) ?_
  refine lv_iload_n hx hb dX0_store_1 rfl (lv_at hl 2 rfl) ?_
  refine lv_iload_n hx hb dX0_store_2 rfl (lv_at hl 3 rfl) ?_
  refine sm_callS (As := [.int (nI r), .int (nI t), .int 1]) (rest := []) (wr := (sm_wX cI x0 x1 x2 x3 V S M)) (wn := (sm_wX cI x0 x1 x2 x3 V S M)) (st1 := []) ⟨hx, hb, hml, hown, hts⟩ (c_checkTransfer_1 l D r t (by omega) (by omega)) (va_cwS 3 hts (sm_gS (i1 := 178) (i2 := 179) (i4 := 1) (i5 := 180) rfl rfl rfl rfl) rfl rfl rfl (by decide +kernel) ⟨Nat.le_of_ble_eq_true rfl, Nat.le_of_ble_eq_true rfl⟩) hK [] rfl hP hD hS hA [] [0, 1, 2, 3] rfl rfl (by decide) (by decide) (by decide) rfl hl.1 rfl (Nat.le_of_ble_eq_true rfl) dX0_store_3 ⟨Nat.le_of_ble_eq_true rfl, Nat.le_of_ble_eq_true rfl⟩ rfl rfl (fun H locs hP hD hS => ?_)
  refine lv_iconst (v := 0) hx hb dX0_store_6 (by decide) ?_
  refine lv_istore (lv' := [(4, .int 0), (0, .ref x0), (1, .int (nI r)), (2, .int (nI t)), (3, .int 1)]) hx hb dX0_store_7 hl (by decide) rfl (fun ls hl => ?_)
  refine sm_loopW (nL := 8) (lv := fun k => [(0, .ref x0), (1, .int (nI r)), (2, .int (nI t)), (3, .int 1), (4, .int (nI k))]) (w := fun k => (sm_wX cI x0 x1 x2 x3 V S (sm_fil M (sm_by (V r) (S r)) t k))) 1 (fun H locs ls hl hP hD hS => ?_) (fun k hk ih H locs ls hl hP hD hS => ?_) (lv_sub hl [1, 2, 3, 4, 0] rfl) (sm_cP (by simp only [sm_fil0]) hP) (sm_cD (by simp only [sm_fil0]) hD) hS
  · have hl : lv_has ls 8 [(0, .ref x0), (1, .int (nI r)), (2, .int (nI t)), (3, .int 1), (4, .int (nI 1))] := hl
    have hP : va_P D vwCl (sm_wX cI x0 x1 x2 x3 V S (sm_fil M (sm_by (V r) (S r)) t 1)) H := hP
    have hD : va_D _ (sm_wX cI x0 x1 x2 x3 V S (sm_fil M (sm_by (V r) (S r)) t 1)) := hD
    refine lv_iload hx hb dX0_store_9 (lv_at hl 4 rfl) ?_
    refine lv_iload_n hx hb dX0_store_11 rfl (lv_at hl 3 rfl) ?_
    refine lv_icmp_ge (tgt := 75) hx hb dX0_store_12 rfl (fun _ => ?_) (fun z => absurd (by decide) z)
    exact sm_vret hx hb hrt hlocks hS hP hD dX0_store_75
  · have hl : lv_has ls 8 [(0, .ref x0), (1, .int (nI r)), (2, .int (nI t)), (3, .int 1), (4, .int (nI k))] := hl
    have hP : va_P D vwCl (sm_wX cI x0 x1 x2 x3 V S (sm_fil M (sm_by (V r) (S r)) t k)) H := hP
    have hD : va_D _ (sm_wX cI x0 x1 x2 x3 V S (sm_fil M (sm_by (V r) (S r)) t k)) := hD
    refine lv_iload hx hb dX0_store_9 (lv_at hl 4 rfl) ?_
    refine lv_iload_n hx hb dX0_store_11 rfl (lv_at hl 3 rfl) ?_
    refine lv_icmp_ge (tgt := 75) hx hb dX0_store_12 rfl (fun z => absurd z (nI_ge (b := 1) hk (by decide))) (fun _ => ?_)
    refine lv_iload hx hb dX0_store_15 (lv_at hl 4 rfl) ?_
    refine lv_bipush (v := 8) hx hb dX0_store_17 (by decide) ?_
    refine lv_imul hx hb dX0_store_19 ?_
    refine sm_eqi (y := nI (k * 8)) (pk_mul k 8) ?_
    refine lv_istore (lv' := [(5, .int (nI (k * 8))), (0, .ref x0), (1, .int (nI r)), (2, .int (nI t)), (3, .int 1), (4, .int (nI k))]) hx hb dX0_store_20 hl (by decide) rfl (fun ls hl => ?_)
    refine lv_aload_n hx hb dX0_store_22 rfl (lv_at hl 1 rfl) ?_
    refine va_get (D := D) (ci := 0) (v := .ref x1) (C := RX0) (T := TX0) (N := 3) hx hb hts inX0 hown hK hP 0 rfl rfl 0 (by decide) (hw 18 rfl) (fun _ h9 => h9) rfl dX0_store_23 ?_
    refine lv_iload_n hx hb dX0_store_26 rfl (lv_at hl 2 rfl) ?_
    refine va_iald hx hb hK hP 1 0 rfl rfl (vp_in_nI (n := r) (by omega) (by decide)) dX0_store_27 ?_
    refine sm_eqi (y := V r) (sm_cl V (n := r) (by omega)) ?_
    refine lv_iload hx hb dX0_store_28 (lv_at hl 0 rfl) ?_
    refine lv_iushr (v := sm_ushr (V r) (nI (k * 8))) hx hb dX0_store_30 rfl ?_
    refine lv_sipush (v := 255) hx hb dX0_store_31 (by decide) ?_
    refine lv_iand hx hb dX0_store_34 ?_
    refine lv_istore (lv' := [(6, .int ((sm_ushr (V r) (nI (k * 8))) &&& 255)), (5, .int (nI (k * 8))), (0, .ref x0), (1, .int (nI r)), (2, .int (nI t)), (3, .int 1), (4, .int (nI k))]) hx hb dX0_store_35 hl (by decide) rfl (fun ls hl => ?_)
    refine lv_aload_n hx hb dX0_store_37 rfl (lv_at hl 2 rfl) ?_
    refine va_get (D := D) (ci := 0) (v := .ref x2) (C := RX0) (T := TX0) (N := 3) hx hb hts inX0 hown hK hP 0 rfl rfl 1 (by decide) (hw 19 rfl) (fun _ h9 => h9) rfl dX0_store_38 ?_
    refine lv_iload_n hx hb dX0_store_41 rfl (lv_at hl 3 rfl) ?_
    refine va_iald hx hb hK hP 2 0 rfl rfl (vp_in_nI (n := r) (by omega) (by decide)) dX0_store_42 ?_
    refine sm_eqi (y := S r) (sm_cl S (n := r) (by omega)) ?_
    refine lv_iload hx hb dX0_store_43 (lv_at hl 1 rfl) ?_
    refine lv_iushr (v := sm_ushr (S r) (nI (k * 8))) hx hb dX0_store_45 rfl ?_
    refine lv_sipush (v := 255) hx hb dX0_store_46 (by decide) ?_
    refine lv_iand hx hb dX0_store_49 ?_
    refine lv_istore (lv' := [(7, .int ((sm_ushr (S r) (nI (k * 8))) &&& 255)), (6, .int ((sm_ushr (V r) (nI (k * 8))) &&& 255)), (5, .int (nI (k * 8))), (0, .ref x0), (1, .int (nI r)), (2, .int (nI t)), (3, .int 1), (4, .int (nI k))]) hx hb dX0_store_50 hl (by decide) rfl (fun ls hl => ?_)
    refine lv_aload_n hx hb dX0_store_52 rfl (lv_at hl 3 rfl) ?_
    refine va_get (D := D) (ci := 0) (v := .ref x3) (C := RX0) (T := TX0) (N := 3) hx hb hts inX0 hown hK hP 0 rfl rfl 2 (by decide) (hw 20 rfl) (fun _ h9 => h9) rfl dX0_store_53 ?_
    refine lv_iload_n hx hb dX0_store_56 rfl (lv_at hl 5 rfl) ?_
    refine lv_iload hx hb dX0_store_57 (lv_at hl 7 rfl) ?_
    refine lv_iadd hx hb dX0_store_59 ?_
    refine sm_eqi (y := nI (t + k)) (nI_add t k) ?_
    refine lv_iload hx hb dX0_store_60 (lv_at hl 0 rfl) ?_
    refine lv_bipush (v := 8) hx hb dX0_store_62 (by decide) ?_
    refine lv_ishl hx hb dX0_store_64 ?_
    refine lv_iload hx hb dX0_store_65 (lv_at hl 1 rfl) ?_
    refine lv_ior hx hb dX0_store_67 ?_
    refine sm_iast (f' := sm_fil M (sm_by (V r) (S r)) t (k + 1)) (ws' := (sm_wX cI x0 x1 x2 x3 V S (sm_fil M (sm_by (V r) (S r)) t (k + 1)))) hx hb hK hP hD hS 3 0 rfl rfl (vp_in_nI (n := t + k) (by omega) (by decide)) dX0_store_68 (by rw [nI_clamp (by omega)]; exact sm_filS M (sm_by (V r) (S r)) t k) rfl (fun H locs hP hD hS => ?_)
    refine lv_iinc (k := 7) (v := nI (k + 1)) (lv' := [(4, .int (nI (k + 1))), (7, .int ((sm_ushr (S r) (nI (k * 8))) &&& 255)), (6, .int ((sm_ushr (V r) (nI (k * 8))) &&& 255)), (5, .int (nI (k * 8))), (0, .ref x0), (1, .int (nI r)), (2, .int (nI t)), (3, .int 1)]) hx hb dX0_store_69 hl rfl (sm_inc k) (by decide) rfl (fun ls hl => ?_)
    refine lv_goto (tgt := 9) hx hb dX0_store_72 rfl ?_
    exact ih _ _ _ (lv_sub hl [4, 5, 6, 7, 0] rfl) (sm_cP (rfl) hP) (sm_cD (rfl) hD) hS
set_option maxHeartbeats 4000000 in
set_option maxRecDepth 100000 in
theorem c_store_2 (l : Launch) (D : va_G) (cI : ClassId) (x0 x1 x2 x3 : Nat) (V S M : Nat → Int32) (r t : Nat) (hr : r < 16) (ht : t + 2 ≤ 256) : sm_C l yX0_store wsX0_store ({ frames := 2, cells := 0, slots := 0, locals := 42 } : Room) D vwCl [(cI, .int)] [.ref x0, .int (nI r), .int (nI t), .int 2] (sm_wX cI x0 x1 x2 x3 V S M) none (sm_wX cI x0 x1 x2 x3 V S (sm_fil M (sm_by (V r) (S r)) t 2)) := by
  refine sm_start (cc := cX0_store) (maxL := 8) (ret := none) (lv := [(0, .ref x0), (1, .int (nI r)), (2, .int (nI t)), (3, .int 2)]) (by decide) rfl (Nat.le_of_ble_eq_true rfl) rfl ?_
  intro p e s m below meth c hx hb hrt hts hown hlocks hml hin hK hP hD hS hA ls hl
  have hw := sm_hw hts
  refine lv_iload_n hx hb dX0_store_0 rfl (lv_at hl 1 rfl) ?_
  refine lv_iload_n hx hb dX0_store_1 rfl (lv_at hl 2 rfl) ?_
  refine lv_iload_n hx hb dX0_store_2 rfl (lv_at hl 3 rfl) ?_
  refine sm_callS (As := [.int (nI r), .int (nI t), .int 2]) (rest := []) (wr := (sm_wX cI x0 x1 x2 x3 V S M)) (wn := (sm_wX cI x0 x1 x2 x3 V S M)) (st1 := []) ⟨hx, hb, hml, hown, hts⟩ (c_checkTransfer_2 l D r t (by omega) (by omega)) (va_cwS 3 hts (sm_gS (i1 := 178) (i2 := 179) (i4 := 1) (i5 := 180) rfl rfl rfl rfl) rfl rfl rfl (by decide +kernel) ⟨Nat.le_of_ble_eq_true rfl, Nat.le_of_ble_eq_true rfl⟩) hK [] rfl hP hD hS hA [] [0, 1, 2, 3] rfl rfl (by decide) (by decide) (by decide) rfl hl.1 rfl (Nat.le_of_ble_eq_true rfl) dX0_store_3 ⟨Nat.le_of_ble_eq_true rfl, Nat.le_of_ble_eq_true rfl⟩ rfl rfl (fun H locs hP hD hS => ?_)
  refine lv_iconst (v := 0) hx hb dX0_store_6 (by decide) ?_
  refine lv_istore (lv' := [(4, .int 0), (0, .ref x0), (1, .int (nI r)), (2, .int (nI t)), (3, .int 2)]) hx hb dX0_store_7 hl (by decide) rfl (fun ls hl => ?_)
  refine sm_loopW (nL := 8) (lv := fun k => [(0, .ref x0), (1, .int (nI r)), (2, .int (nI t)), (3, .int 2), (4, .int (nI k))]) (w := fun k => (sm_wX cI x0 x1 x2 x3 V S (sm_fil M (sm_by (V r) (S r)) t k))) 2 (fun H locs ls hl hP hD hS => ?_) (fun k hk ih H locs ls hl hP hD hS => ?_) (lv_sub hl [1, 2, 3, 4, 0] rfl) (sm_cP (by simp only [sm_fil0]) hP) (sm_cD (by simp only [sm_fil0]) hD) hS
  · have hl : lv_has ls 8 [(0, .ref x0), (1, .int (nI r)), (2, .int (nI t)), (3, .int 2), (4, .int (nI 2))] := hl
    have hP : va_P D vwCl (sm_wX cI x0 x1 x2 x3 V S (sm_fil M (sm_by (V r) (S r)) t 2)) H := hP
    have hD : va_D _ (sm_wX cI x0 x1 x2 x3 V S (sm_fil M (sm_by (V r) (S r)) t 2)) := hD
    refine lv_iload hx hb dX0_store_9 (lv_at hl 4 rfl) ?_
    refine lv_iload_n hx hb dX0_store_11 rfl (lv_at hl 3 rfl) ?_
    refine lv_icmp_ge (tgt := 75) hx hb dX0_store_12 rfl (fun _ => ?_) (fun z => absurd (by decide) z)
    exact sm_vret hx hb hrt hlocks hS hP hD dX0_store_75
  · have hl : lv_has ls 8 [(0, .ref x0), (1, .int (nI r)), (2, .int (nI t)), (3, .int 2), (4, .int (nI k))] := hl
    have hP : va_P D vwCl (sm_wX cI x0 x1 x2 x3 V S (sm_fil M (sm_by (V r) (S r)) t k)) H := hP
    have hD : va_D _ (sm_wX cI x0 x1 x2 x3 V S (sm_fil M (sm_by (V r) (S r)) t k)) := hD
    refine lv_iload hx hb dX0_store_9 (lv_at hl 4 rfl) ?_
    refine lv_iload_n hx hb dX0_store_11 rfl (lv_at hl 3 rfl) ?_
    refine lv_icmp_ge (tgt := 75) hx hb dX0_store_12 rfl (fun z => absurd z (nI_ge (b := 2) hk (by decide))) (fun _ => ?_)
    refine lv_iload hx hb dX0_store_15 (lv_at hl 4 rfl) ?_
    refine lv_bipush (v := 8) hx hb dX0_store_17 (by decide) ?_
    refine lv_imul hx hb dX0_store_19 ?_
    refine sm_eqi (y := nI (k * 8)) (pk_mul k 8) ?_
    refine lv_istore (lv' := [(5, .int (nI (k * 8))), (0, .ref x0), (1, .int (nI r)), (2, .int (nI t)), (3, .int 2), (4, .int (nI k))]) hx hb dX0_store_20 hl (by decide) rfl (fun ls hl => ?_)
    refine lv_aload_n hx hb dX0_store_22 rfl (lv_at hl 1 rfl) ?_
    refine va_get (D := D) (ci := 0) (v := .ref x1) (C := RX0) (T := TX0) (N := 3) hx hb hts inX0 hown hK hP 0 rfl rfl 0 (by decide) (hw 18 rfl) (fun _ h9 => h9) rfl dX0_store_23 ?_
    refine lv_iload_n hx hb dX0_store_26 rfl (lv_at hl 2 rfl) ?_
    refine va_iald hx hb hK hP 1 0 rfl rfl (vp_in_nI (n := r) (by omega) (by decide)) dX0_store_27 ?_
    refine sm_eqi (y := V r) (sm_cl V (n := r) (by omega)) ?_
    refine lv_iload hx hb dX0_store_28 (lv_at hl 0 rfl) ?_
    refine lv_iushr (v := sm_ushr (V r) (nI (k * 8))) hx hb dX0_store_30 rfl ?_
    refine lv_sipush (v := 255) hx hb dX0_store_31 (by decide) ?_
    refine lv_iand hx hb dX0_store_34 ?_
    refine lv_istore (lv' := [(6, .int ((sm_ushr (V r) (nI (k * 8))) &&& 255)), (5, .int (nI (k * 8))), (0, .ref x0), (1, .int (nI r)), (2, .int (nI t)), (3, .int 2), (4, .int (nI k))]) hx hb dX0_store_35 hl (by decide) rfl (fun ls hl => ?_)
    refine lv_aload_n hx hb dX0_store_37 rfl (lv_at hl 2 rfl) ?_
    refine va_get (D := D) (ci := 0) (v := .ref x2) (C := RX0) (T := TX0) (N := 3) hx hb hts inX0 hown hK hP 0 rfl rfl 1 (by decide) (hw 19 rfl) (fun _ h9 => h9) rfl dX0_store_38 ?_
    refine lv_iload_n hx hb dX0_store_41 rfl (lv_at hl 3 rfl) ?_
    refine va_iald hx hb hK hP 2 0 rfl rfl (vp_in_nI (n := r) (by omega) (by decide)) dX0_store_42 ?_
    refine sm_eqi (y := S r) (sm_cl S (n := r) (by omega)) ?_
    refine lv_iload hx hb dX0_store_43 (lv_at hl 1 rfl) ?_
    refine lv_iushr (v := sm_ushr (S r) (nI (k * 8))) hx hb dX0_store_45 rfl ?_
    refine lv_sipush (v := 255) hx hb dX0_store_46 (by decide) ?_
    refine lv_iand hx hb dX0_store_49 ?_
    refine lv_istore (lv' := [(7, .int ((sm_ushr (S r) (nI (k * 8))) &&& 255)), (6, .int ((sm_ushr (V r) (nI (k * 8))) &&& 255)), (5, .int (nI (k * 8))), (0, .ref x0), (1, .int (nI r)), (2, .int (nI t)), (3, .int 2), (4, .int (nI k))]) hx hb dX0_store_50 hl (by decide) rfl (fun ls hl => ?_)
    refine lv_aload_n hx hb dX0_store_52 rfl (lv_at hl 3 rfl) ?_
    refine va_get (D := D) (ci := 0) (v := .ref x3) (C := RX0) (T := TX0) (N := 3) hx hb hts inX0 hown hK hP 0 rfl rfl 2 (by decide) (hw 20 rfl) (fun _ h9 => h9) rfl dX0_store_53 ?_
    refine lv_iload_n hx hb dX0_store_56 rfl (lv_at hl 5 rfl) ?_
    refine lv_iload hx hb dX0_store_57 (lv_at hl 7 rfl) ?_
    refine lv_iadd hx hb dX0_store_59 ?_
    refine sm_eqi (y := nI (t + k)) (nI_add t k) ?_
    refine lv_iload hx hb dX0_store_60 (lv_at hl 0 rfl) ?_
    refine lv_bipush (v := 8) hx hb dX0_store_62 (by decide) ?_
    refine lv_ishl hx hb dX0_store_64 ?_
    refine lv_iload hx hb dX0_store_65 (lv_at hl 1 rfl) ?_
    refine lv_ior hx hb dX0_store_67 ?_
    refine sm_iast (f' := sm_fil M (sm_by (V r) (S r)) t (k + 1)) (ws' := (sm_wX cI x0 x1 x2 x3 V S (sm_fil M (sm_by (V r) (S r)) t (k + 1)))) hx hb hK hP hD hS 3 0 rfl rfl (vp_in_nI (n := t + k) (by omega) (by decide)) dX0_store_68 (by rw [nI_clamp (by omega)]; exact sm_filS M (sm_by (V r) (S r)) t k) rfl (fun H locs hP hD hS => ?_)
    refine lv_iinc (k := 7) (v := nI (k + 1)) (lv' := [(4, .int (nI (k + 1))), (7, .int ((sm_ushr (S r) (nI (k * 8))) &&& 255)), (6, .int ((sm_ushr (V r) (nI (k * 8))) &&& 255)), (5, .int (nI (k * 8))), (0, .ref x0), (1, .int (nI r)), (2, .int (nI t)), (3, .int 2)]) hx hb dX0_store_69 hl rfl (sm_inc k) (by decide) rfl (fun ls hl => ?_)
    refine lv_goto (tgt := 9) hx hb dX0_store_72 rfl ?_
    exact ih _ _ _ (lv_sub hl [4, 5, 6, 7, 0] rfl) (sm_cP (rfl) hP) (sm_cD (rfl) hD) hS
set_option maxHeartbeats 4000000 in
set_option maxRecDepth 100000 in
theorem c_store_4 (l : Launch) (D : va_G) (cI : ClassId) (x0 x1 x2 x3 : Nat) (V S M : Nat → Int32) (r t : Nat) (hr : r < 16) (ht : t + 4 ≤ 256) : sm_C l yX0_store wsX0_store ({ frames := 2, cells := 0, slots := 0, locals := 42 } : Room) D vwCl [(cI, .int)] [.ref x0, .int (nI r), .int (nI t), .int 4] (sm_wX cI x0 x1 x2 x3 V S M) none (sm_wX cI x0 x1 x2 x3 V S (sm_fil M (sm_by (V r) (S r)) t 4)) := by
  refine sm_start (cc := cX0_store) (maxL := 8) (ret := none) (lv := [(0, .ref x0), (1, .int (nI r)), (2, .int (nI t)), (3, .int 4)]) (by decide) rfl (Nat.le_of_ble_eq_true rfl) rfl ?_
  intro p e s m below meth c hx hb hrt hts hown hlocks hml hin hK hP hD hS hA ls hl
  have hw := sm_hw hts
  refine lv_iload_n hx hb dX0_store_0 rfl (lv_at hl 1 rfl) ?_
  refine lv_iload_n hx hb dX0_store_1 rfl (lv_at hl 2 rfl) ?_
  refine lv_iload_n hx hb dX0_store_2 rfl (lv_at hl 3 rfl) ?_
  refine sm_callS (As := [.int (nI r), .int (nI t), .int 4]) (rest := []) (wr := (sm_wX cI x0 x1 x2 x3 V S M)) (wn := (sm_wX cI x0 x1 x2 x3 V S M)) (st1 := []) ⟨hx, hb, hml, hown, hts⟩ (c_checkTransfer_4 l D r t (by omega) (by omega)) (va_cwS 3 hts (sm_gS (i1 := 178) (i2 := 179) (i4 := 1) (i5 := 180) rfl rfl rfl rfl) rfl rfl rfl (by decide +kernel) ⟨Nat.le_of_ble_eq_true rfl, Nat.le_of_ble_eq_true rfl⟩) hK [] rfl hP hD hS hA [] [0, 1, 2, 3] rfl rfl (by decide) (by decide) (by decide) rfl hl.1 rfl (Nat.le_of_ble_eq_true rfl) dX0_store_3 ⟨Nat.le_of_ble_eq_true rfl, Nat.le_of_ble_eq_true rfl⟩ rfl rfl (fun H locs hP hD hS => ?_)
  refine lv_iconst (v := 0) hx hb dX0_store_6 (by decide) ?_
  refine lv_istore (lv' := [(4, .int 0), (0, .ref x0), (1, .int (nI r)), (2, .int (nI t)), (3, .int 4)]) hx hb dX0_store_7 hl (by decide) rfl (fun ls hl => ?_)
  refine sm_loopW (nL := 8) (lv := fun k => [(0, .ref x0), (1, .int (nI r)), (2, .int (nI t)), (3, .int 4), (4, .int (nI k))]) (w := fun k => (sm_wX cI x0 x1 x2 x3 V S (sm_fil M (sm_by (V r) (S r)) t k))) 4 (fun H locs ls hl hP hD hS => ?_) (fun k hk ih H locs ls hl hP hD hS => ?_) (lv_sub hl [1, 2, 3, 4, 0] rfl) (sm_cP (by simp only [sm_fil0]) hP) (sm_cD (by simp only [sm_fil0]) hD) hS
  · have hl : lv_has ls 8 [(0, .ref x0), (1, .int (nI r)), (2, .int (nI t)), (3, .int 4), (4, .int (nI 4))] := hl
    have hP : va_P D vwCl (sm_wX cI x0 x1 x2 x3 V S (sm_fil M (sm_by (V r) (S r)) t 4)) H := hP
    have hD : va_D _ (sm_wX cI x0 x1 x2 x3 V S (sm_fil M (sm_by (V r) (S r)) t 4)) := hD
    refine lv_iload hx hb dX0_store_9 (lv_at hl 4 rfl) ?_
    refine lv_iload_n hx hb dX0_store_11 rfl (lv_at hl 3 rfl) ?_
    refine lv_icmp_ge (tgt := 75) hx hb dX0_store_12 rfl (fun _ => ?_) (fun z => absurd (by decide) z)
    exact sm_vret hx hb hrt hlocks hS hP hD dX0_store_75
  · have hl : lv_has ls 8 [(0, .ref x0), (1, .int (nI r)), (2, .int (nI t)), (3, .int 4), (4, .int (nI k))] := hl
    have hP : va_P D vwCl (sm_wX cI x0 x1 x2 x3 V S (sm_fil M (sm_by (V r) (S r)) t k)) H := hP
    have hD : va_D _ (sm_wX cI x0 x1 x2 x3 V S (sm_fil M (sm_by (V r) (S r)) t k)) := hD
    refine lv_iload hx hb dX0_store_9 (lv_at hl 4 rfl) ?_
    refine lv_iload_n hx hb dX0_store_11 rfl (lv_at hl 3 rfl) ?_
    refine lv_icmp_ge (tgt := 75) hx hb dX0_store_12 rfl (fun z => absurd z (nI_ge (b := 4) hk (by decide))) (fun _ => ?_)
    refine lv_iload hx hb dX0_store_15 (lv_at hl 4 rfl) ?_
    refine lv_bipush (v := 8) hx hb dX0_store_17 (by decide) ?_
    refine lv_imul hx hb dX0_store_19 ?_
    refine sm_eqi (y := nI (k * 8)) (pk_mul k 8) ?_
    refine lv_istore (lv' := [(5, .int (nI (k * 8))), (0, .ref x0), (1, .int (nI r)), (2, .int (nI t)), (3, .int 4), (4, .int (nI k))]) hx hb dX0_store_20 hl (by decide) rfl (fun ls hl => ?_)
    refine lv_aload_n hx hb dX0_store_22 rfl (lv_at hl 1 rfl) ?_
    refine va_get (D := D) (ci := 0) (v := .ref x1) (C := RX0) (T := TX0) (N := 3) hx hb hts inX0 hown hK hP 0 rfl rfl 0 (by decide) (hw 18 rfl) (fun _ h9 => h9) rfl dX0_store_23 ?_
    refine lv_iload_n hx hb dX0_store_26 rfl (lv_at hl 2 rfl) ?_
    refine va_iald hx hb hK hP 1 0 rfl rfl (vp_in_nI (n := r) (by omega) (by decide)) dX0_store_27 ?_
    refine sm_eqi (y := V r) (sm_cl V (n := r) (by omega)) ?_
    refine lv_iload hx hb dX0_store_28 (lv_at hl 0 rfl) ?_
    refine lv_iushr (v := sm_ushr (V r) (nI (k * 8))) hx hb dX0_store_30 rfl ?_
    refine lv_sipush (v := 255) hx hb dX0_store_31 (by decide) ?_
    refine lv_iand hx hb dX0_store_34 ?_
    refine lv_istore (lv' := [(6, .int ((sm_ushr (V r) (nI (k * 8))) &&& 255)), (5, .int (nI (k * 8))), (0, .ref x0), (1, .int (nI r)), (2, .int (nI t)), (3, .int 4), (4, .int (nI k))]) hx hb dX0_store_35 hl (by decide) rfl (fun ls hl => ?_)
    refine lv_aload_n hx hb dX0_store_37 rfl (lv_at hl 2 rfl) ?_
    refine va_get (D := D) (ci := 0) (v := .ref x2) (C := RX0) (T := TX0) (N := 3) hx hb hts inX0 hown hK hP 0 rfl rfl 1 (by decide) (hw 19 rfl) (fun _ h9 => h9) rfl dX0_store_38 ?_
    refine lv_iload_n hx hb dX0_store_41 rfl (lv_at hl 3 rfl) ?_
    refine va_iald hx hb hK hP 2 0 rfl rfl (vp_in_nI (n := r) (by omega) (by decide)) dX0_store_42 ?_
    refine sm_eqi (y := S r) (sm_cl S (n := r) (by omega)) ?_
    refine lv_iload hx hb dX0_store_43 (lv_at hl 1 rfl) ?_
    refine lv_iushr (v := sm_ushr (S r) (nI (k * 8))) hx hb dX0_store_45 rfl ?_
    refine lv_sipush (v := 255) hx hb dX0_store_46 (by decide) ?_
    refine lv_iand hx hb dX0_store_49 ?_
    refine lv_istore (lv' := [(7, .int ((sm_ushr (S r) (nI (k * 8))) &&& 255)), (6, .int ((sm_ushr (V r) (nI (k * 8))) &&& 255)), (5, .int (nI (k * 8))), (0, .ref x0), (1, .int (nI r)), (2, .int (nI t)), (3, .int 4), (4, .int (nI k))]) hx hb dX0_store_50 hl (by decide) rfl (fun ls hl => ?_)
    refine lv_aload_n hx hb dX0_store_52 rfl (lv_at hl 3 rfl) ?_
    refine va_get (D := D) (ci := 0) (v := .ref x3) (C := RX0) (T := TX0) (N := 3) hx hb hts inX0 hown hK hP 0 rfl rfl 2 (by decide) (hw 20 rfl) (fun _ h9 => h9) rfl dX0_store_53 ?_
    refine lv_iload_n hx hb dX0_store_56 rfl (lv_at hl 5 rfl) ?_
    refine lv_iload hx hb dX0_store_57 (lv_at hl 7 rfl) ?_
    refine lv_iadd hx hb dX0_store_59 ?_
    refine sm_eqi (y := nI (t + k)) (nI_add t k) ?_
    refine lv_iload hx hb dX0_store_60 (lv_at hl 0 rfl) ?_
    refine lv_bipush (v := 8) hx hb dX0_store_62 (by decide) ?_
    refine lv_ishl hx hb dX0_store_64 ?_
    refine lv_iload hx hb dX0_store_65 (lv_at hl 1 rfl) ?_
    refine lv_ior hx hb dX0_store_67 ?_
    refine sm_iast (f' := sm_fil M (sm_by (V r) (S r)) t (k + 1)) (ws' := (sm_wX cI x0 x1 x2 x3 V S (sm_fil M (sm_by (V r) (S r)) t (k + 1)))) hx hb hK hP hD hS 3 0 rfl rfl (vp_in_nI (n := t + k) (by omega) (by decide)) dX0_store_68 (by rw [nI_clamp (by omega)]; exact sm_filS M (sm_by (V r) (S r)) t k) rfl (fun H locs hP hD hS => ?_)
    refine lv_iinc (k := 7) (v := nI (k + 1)) (lv' := [(4, .int (nI (k + 1))), (7, .int ((sm_ushr (S r) (nI (k * 8))) &&& 255)), (6, .int ((sm_ushr (V r) (nI (k * 8))) &&& 255)), (5, .int (nI (k * 8))), (0, .ref x0), (1, .int (nI r)), (2, .int (nI t)), (3, .int 4)]) hx hb dX0_store_69 hl rfl (sm_inc k) (by decide) rfl (fun ls hl => ?_)
    refine lv_goto (tgt := 9) hx hb dX0_store_72 rfl ?_
    exact ih _ _ _ (lv_sub hl [4, 5, 6, 7, 0] rfl) (sm_cP (rfl) hP) (sm_cD (rfl) hD) hS
set_option maxHeartbeats 4000000 in
set_option maxRecDepth 100000 in
theorem c_load_1_t (l : Launch) (D : va_G) (cI : ClassId) (x0 x1 x2 x3 : Nat) (V S M : Nat → Int32) (r t : Nat) (hr : r < 16) (ht : t + 1 ≤ 256) : sm_C l yX0_load wsX0_load ({ frames := 2, cells := 0, slots := 0, locals := 42 } : Room) D vwCl [(cI, .int)] [.ref x0, .int (nI r), .int (nI t), .int 1, .int (sm_bI true)] (sm_wX cI x0 x1 x2 x3 V S M) none (sm_wX cI x0 x1 x2 x3 (upd V r (((sm_lv (fun j => M (t + j) &&& 255) 1) <<< (nI 24 &&& 31)) >>> (nI 24 &&& 31))) (upd S r (((sm_lv (fun j => sm_ushr (M (t + j)) 8) 1) <<< (nI 24 &&& 31)) >>> (nI 24 &&& 31))) M) := by
  refine sm_start (cc := cX0_load) (maxL := 9) (ret := none) (lv := [(0, .ref x0), (1, .int (nI r)), (2, .int (nI t)), (3, .int 1), (4, .int (sm_bI true))]) (by decide) rfl (Nat.le_of_ble_eq_true rfl) rfl ?_
  intro p e s m below meth c hx hb hrt hts hown hlocks hml hin hK hP hD hS hA ls hl
  have hw := sm_hw hts
  refine lv_iload_n hx hb dX0_load_0 rfl (lv_at hl 1 rfl) ?_
  refine lv_iload_n hx hb dX0_load_1 rfl (lv_at hl 2 rfl) ?_
  refine lv_iload_n hx hb dX0_load_2 rfl (lv_at hl 3 rfl) ?_
  refine sm_callS (As := [.int (nI r), .int (nI t), .int 1]) (rest := []) (wr := (sm_wX cI x0 x1 x2 x3 V S M)) (wn := (sm_wX cI x0 x1 x2 x3 V S M)) (st1 := []) ⟨hx, hb, hml, hown, hts⟩ (c_checkTransfer_1 l D r t (by omega) (by omega)) (va_cwS 3 hts (sm_gS (i1 := 178) (i2 := 179) (i4 := 1) (i5 := 180) rfl rfl rfl rfl) rfl rfl rfl (by decide +kernel) ⟨Nat.le_of_ble_eq_true rfl, Nat.le_of_ble_eq_true rfl⟩) hK [] rfl hP hD hS hA [] [0, 1, 2, 3] rfl rfl (by decide) (by decide) (by decide) rfl hl.1 rfl (Nat.le_of_ble_eq_true rfl) dX0_load_3 ⟨Nat.le_of_ble_eq_true rfl, Nat.le_of_ble_eq_true rfl⟩ rfl rfl (fun H locs hP hD hS => ?_)
  refine lv_iconst (v := 0) hx hb dX0_load_6 (by decide) ?_
  refine lv_istore (lv' := [(5, .int 0), (0, .ref x0), (1, .int (nI r)), (2, .int (nI t)), (3, .int 1), (4, .int (sm_bI true))]) hx hb dX0_load_7 hl (by decide) rfl (fun ls hl => ?_)
  refine lv_iconst (v := 0) hx hb dX0_load_9 (by decide) ?_
  refine lv_istore (lv' := [(6, .int 0), (5, .int 0), (0, .ref x0), (1, .int (nI r)), (2, .int (nI t)), (3, .int 1), (4, .int (sm_bI true))]) hx hb dX0_load_10 hl (by decide) rfl (fun ls hl => ?_)
  refine lv_iconst (v := 0) hx hb dX0_load_12 (by decide) ?_
  refine lv_istore (lv' := [(7, .int 0), (6, .int 0), (5, .int 0), (0, .ref x0), (1, .int (nI r)), (2, .int (nI t)), (3, .int 1), (4, .int (sm_bI true))]) hx hb dX0_load_13 hl (by decide) rfl (fun ls hl => ?_)
  refine sm_loopW (nL := 9) (lv := fun k => [(0, .ref x0), (1, .int (nI r)), (2, .int (nI t)), (3, .int 1), (4, .int (sm_bI true)), (5, .int (sm_lv (fun j => M (t + j) &&& 255) k)), (6, .int (sm_lv (fun j => sm_ushr (M (t + j)) 8) k)), (7, .int (nI k))]) (w := fun k => (sm_wX cI x0 x1 x2 x3 V S M)) 1 (fun H locs ls hl hP hD hS => ?_) (fun k hk ih H locs ls hl hP hD hS => ?_) (lv_sub hl [3, 4, 5, 6, 7, 2, 1, 0] rfl) (sm_cP (rfl) hP) (sm_cD (rfl) hD) hS
  · have hl : lv_has ls 9 [(0, .ref x0), (1, .int (nI r)), (2, .int (nI t)), (3, .int 1), (4, .int (sm_bI true)), (5, .int (sm_lv (fun j => M (t + j) &&& 255) 1)), (6, .int (sm_lv (fun j => sm_ushr (M (t + j)) 8) 1)), (7, .int (nI 1))] := hl
    have hP : va_P D vwCl (sm_wX cI x0 x1 x2 x3 V S M) H := hP
    have hD : va_D _ (sm_wX cI x0 x1 x2 x3 V S M) := hD
    refine lv_iload hx hb dX0_load_15 (lv_at hl 7 rfl) ?_
    refine lv_iload_n hx hb dX0_load_17 rfl (lv_at hl 3 rfl) ?_
    refine lv_icmp_ge (tgt := 75) hx hb dX0_load_18 rfl (fun _ => ?_) (fun z => absurd (by decide) z)
    refine lv_aload_n hx hb dX0_load_75 rfl (lv_at hl 0 rfl) ?_
    refine va_get (D := D) (ci := 0) (v := .ref x1) (C := RX0) (T := TX0) (N := 3) hx hb hts inX0 hown hK hP 0 rfl rfl 0 (by decide) (hw 18 rfl) (fun _ h9 => h9) rfl dX0_load_76 ?_
    refine lv_iload_n hx hb dX0_load_79 rfl (lv_at hl 1 rfl) ?_
    refine lv_iload hx hb dX0_load_80 (lv_at hl 5 rfl) ?_
    refine lv_iload_n hx hb dX0_load_82 rfl (lv_at hl 3 rfl) ?_
    refine lv_iload hx hb dX0_load_83 (lv_at hl 4 rfl) ?_
    refine sm_callS (As := [.int (sm_lv (fun j => M (t + j) &&& 255) 1), .int 1, .int (sm_bI true)]) (rest := [.int (nI r), .ref x1]) (wr := (sm_wX cI x0 x1 x2 x3 V S M)) (wn := (sm_wX cI x0 x1 x2 x3 V S M)) (st1 := [.int (((sm_lv (fun j => M (t + j) &&& 255) 1) <<< (nI 24 &&& 31)) >>> (nI 24 &&& 31)), .int (nI r), .ref x1]) ⟨hx, hb, hml, hown, hts⟩ (c_widened_1_t l D (sm_lv (fun j => M (t + j) &&& 255) 1)) (va_cwS 3 hts (sm_gS (i1 := 188) (i2 := 189) (i4 := 1) (i5 := 190) rfl rfl rfl rfl) rfl rfl rfl (by decide +kernel) ⟨Nat.le_of_ble_eq_true rfl, Nat.le_of_ble_eq_true rfl⟩) hK [] rfl hP hD hS hA [] [0, 1, 2, 3] rfl rfl (by decide) (by decide) (by decide) rfl hl.1 rfl (Nat.le_of_ble_eq_true rfl) dX0_load_85 ⟨Nat.le_of_ble_eq_true rfl, Nat.le_of_ble_eq_true rfl⟩ rfl rfl (fun H locs hP hD hS => ?_)
    refine sm_iast (f' := upd V r (((sm_lv (fun j => M (t + j) &&& 255) 1) <<< (nI 24 &&& 31)) >>> (nI 24 &&& 31))) (ws' := (sm_wX cI x0 x1 x2 x3 (upd V r (((sm_lv (fun j => M (t + j) &&& 255) 1) <<< (nI 24 &&& 31)) >>> (nI 24 &&& 31))) S M)) hx hb hK hP hD hS 1 0 rfl rfl (vp_in_nI (n := r) (by omega) (by decide)) dX0_load_88 (by rw [nI_clamp (by omega)]) rfl (fun H locs hP hD hS => ?_)
    refine lv_aload_n hx hb dX0_load_89 rfl (lv_at hl 0 rfl) ?_
    refine va_get (D := D) (ci := 0) (v := .ref x2) (C := RX0) (T := TX0) (N := 3) hx hb hts inX0 hown hK hP 0 rfl rfl 1 (by decide) (hw 19 rfl) (fun _ h9 => h9) rfl dX0_load_90 ?_
    refine lv_iload_n hx hb dX0_load_93 rfl (lv_at hl 1 rfl) ?_
    refine lv_iload hx hb dX0_load_94 (lv_at hl 6 rfl) ?_
    refine lv_iload_n hx hb dX0_load_96 rfl (lv_at hl 3 rfl) ?_
    refine lv_iload hx hb dX0_load_97 (lv_at hl 4 rfl) ?_
    refine sm_callS (As := [.int (sm_lv (fun j => sm_ushr (M (t + j)) 8) 1), .int 1, .int (sm_bI true)]) (rest := [.int (nI r), .ref x2]) (wr := (sm_wX cI x0 x1 x2 x3 (upd V r (((sm_lv (fun j => M (t + j) &&& 255) 1) <<< (nI 24 &&& 31)) >>> (nI 24 &&& 31))) S M)) (wn := (sm_wX cI x0 x1 x2 x3 (upd V r (((sm_lv (fun j => M (t + j) &&& 255) 1) <<< (nI 24 &&& 31)) >>> (nI 24 &&& 31))) S M)) (st1 := [.int (((sm_lv (fun j => sm_ushr (M (t + j)) 8) 1) <<< (nI 24 &&& 31)) >>> (nI 24 &&& 31)), .int (nI r), .ref x2]) ⟨hx, hb, hml, hown, hts⟩ (c_widened_1_t l D (sm_lv (fun j => sm_ushr (M (t + j)) 8) 1)) (va_cwS 3 hts (sm_gS (i1 := 188) (i2 := 189) (i4 := 1) (i5 := 190) rfl rfl rfl rfl) rfl rfl rfl (by decide +kernel) ⟨Nat.le_of_ble_eq_true rfl, Nat.le_of_ble_eq_true rfl⟩) hK [] rfl hP hD hS hA [] [0, 1, 2, 3] rfl rfl (by decide) (by decide) (by decide) rfl hl.1 rfl (Nat.le_of_ble_eq_true rfl) dX0_load_99 ⟨Nat.le_of_ble_eq_true rfl, Nat.le_of_ble_eq_true rfl⟩ rfl rfl (fun H locs hP hD hS => ?_)
    refine sm_iast (f' := upd S r (((sm_lv (fun j => sm_ushr (M (t + j)) 8) 1) <<< (nI 24 &&& 31)) >>> (nI 24 &&& 31))) (ws' := (sm_wX cI x0 x1 x2 x3 (upd V r (((sm_lv (fun j => M (t + j) &&& 255) 1) <<< (nI 24 &&& 31)) >>> (nI 24 &&& 31))) (upd S r (((sm_lv (fun j => sm_ushr (M (t + j)) 8) 1) <<< (nI 24 &&& 31)) >>> (nI 24 &&& 31))) M)) hx hb hK hP hD hS 2 0 rfl rfl (vp_in_nI (n := r) (by omega) (by decide)) dX0_load_102 (by rw [nI_clamp (by omega)]) rfl (fun H locs hP hD hS => ?_)
    exact sm_vret hx hb hrt hlocks hS hP hD dX0_load_103
  · have hl : lv_has ls 9 [(0, .ref x0), (1, .int (nI r)), (2, .int (nI t)), (3, .int 1), (4, .int (sm_bI true)), (5, .int (sm_lv (fun j => M (t + j) &&& 255) k)), (6, .int (sm_lv (fun j => sm_ushr (M (t + j)) 8) k)), (7, .int (nI k))] := hl
    have hP : va_P D vwCl (sm_wX cI x0 x1 x2 x3 V S M) H := hP
    have hD : va_D _ (sm_wX cI x0 x1 x2 x3 V S M) := hD
    refine lv_iload hx hb dX0_load_15 (lv_at hl 7 rfl) ?_
    refine lv_iload_n hx hb dX0_load_17 rfl (lv_at hl 3 rfl) ?_
    refine lv_icmp_ge (tgt := 75) hx hb dX0_load_18 rfl (fun z => absurd z (nI_ge (b := 1) hk (by decide))) (fun _ => ?_)
    refine lv_iload hx hb dX0_load_21 (lv_at hl 7 rfl) ?_
    refine lv_bipush (v := 8) hx hb dX0_load_23 (by decide) ?_
    refine lv_imul hx hb dX0_load_25 ?_
    refine sm_eqi (y := nI (k * 8)) (pk_mul k 8) ?_
    refine lv_istore (lv' := [(8, .int (nI (k * 8))), (0, .ref x0), (1, .int (nI r)), (2, .int (nI t)), (3, .int 1), (4, .int (sm_bI true)), (5, .int (sm_lv (fun j => M (t + j) &&& 255) k)), (6, .int (sm_lv (fun j => sm_ushr (M (t + j)) 8) k)), (7, .int (nI k))]) hx hb dX0_load_26 hl (by decide) rfl (fun ls hl => ?_)
    refine lv_iload hx hb dX0_load_28 (lv_at hl 6 rfl) ?_
    refine lv_aload_n hx hb dX0_load_30 rfl (lv_at hl 1 rfl) ?_
    refine va_get (D := D) (ci := 0) (v := .ref x3) (C := RX0) (T := TX0) (N := 3) hx hb hts inX0 hown hK hP 0 rfl rfl 2 (by decide) (hw 20 rfl) (fun _ h9 => h9) rfl dX0_load_31 ?_
    refine lv_iload_n hx hb dX0_load_34 rfl (lv_at hl 3 rfl) ?_
    refine lv_iload hx hb dX0_load_35 (lv_at hl 8 rfl) ?_
    refine lv_iadd hx hb dX0_load_37 ?_
    refine sm_eqi (y := nI (t + k)) (nI_add t k) ?_
    refine va_iald hx hb hK hP 3 0 rfl rfl (vp_in_nI (n := t + k) (by omega) (by decide)) dX0_load_38 ?_
    refine sm_eqi (y := M (t + k)) (sm_cl M (n := t + k) (by omega)) ?_
    refine lv_sipush (v := 255) hx hb dX0_load_39 (by decide) ?_
    refine lv_iand hx hb dX0_load_42 ?_
    refine lv_iload hx hb dX0_load_43 (lv_at hl 0 rfl) ?_
    refine lv_ishl hx hb dX0_load_45 ?_
    refine lv_ior hx hb dX0_load_46 ?_
    refine sm_eqi (y := sm_lv (fun j => M (t + j) &&& 255) (k + 1)) (rfl) ?_
    refine lv_istore (lv' := [(5, .int (sm_lv (fun j => M (t + j) &&& 255) (k + 1))), (8, .int (nI (k * 8))), (0, .ref x0), (1, .int (nI r)), (2, .int (nI t)), (3, .int 1), (4, .int (sm_bI true)), (6, .int (sm_lv (fun j => sm_ushr (M (t + j)) 8) k)), (7, .int (nI k))]) hx hb dX0_load_47 hl (by decide) rfl (fun ls hl => ?_)
    refine lv_iload hx hb dX0_load_49 (lv_at hl 7 rfl) ?_
    refine lv_aload_n hx hb dX0_load_51 rfl (lv_at hl 2 rfl) ?_
    refine va_get (D := D) (ci := 0) (v := .ref x3) (C := RX0) (T := TX0) (N := 3) hx hb hts inX0 hown hK hP 0 rfl rfl 2 (by decide) (hw 20 rfl) (fun _ h9 => h9) rfl dX0_load_52 ?_
    refine lv_iload_n hx hb dX0_load_55 rfl (lv_at hl 4 rfl) ?_
    refine lv_iload hx hb dX0_load_56 (lv_at hl 8 rfl) ?_
    refine lv_iadd hx hb dX0_load_58 ?_
    refine sm_eqi (y := nI (t + k)) (nI_add t k) ?_
    refine va_iald hx hb hK hP 3 0 rfl rfl (vp_in_nI (n := t + k) (by omega) (by decide)) dX0_load_59 ?_
    refine sm_eqi (y := M (t + k)) (sm_cl M (n := t + k) (by omega)) ?_
    refine lv_bipush (v := 8) hx hb dX0_load_60 (by decide) ?_
    refine lv_iushr (v := sm_ushr (M (t + k)) 8) hx hb dX0_load_62 rfl ?_
    refine lv_iload hx hb dX0_load_63 (lv_at hl 1 rfl) ?_
    refine lv_ishl hx hb dX0_load_65 ?_
    refine lv_ior hx hb dX0_load_66 ?_
    refine sm_eqi (y := sm_lv (fun j => sm_ushr (M (t + j)) 8) (k + 1)) (rfl) ?_
    refine lv_istore (lv' := [(6, .int (sm_lv (fun j => sm_ushr (M (t + j)) 8) (k + 1))), (5, .int (sm_lv (fun j => M (t + j) &&& 255) (k + 1))), (8, .int (nI (k * 8))), (0, .ref x0), (1, .int (nI r)), (2, .int (nI t)), (3, .int 1), (4, .int (sm_bI true)), (7, .int (nI k))]) hx hb dX0_load_67 hl (by decide) rfl (fun ls hl => ?_)
    refine lv_iinc (k := 8) (v := nI (k + 1)) (lv' := [(7, .int (nI (k + 1))), (6, .int (sm_lv (fun j => sm_ushr (M (t + j)) 8) (k + 1))), (5, .int (sm_lv (fun j => M (t + j) &&& 255) (k + 1))), (8, .int (nI (k * 8))), (0, .ref x0), (1, .int (nI r)), (2, .int (nI t)), (3, .int 1), (4, .int (sm_bI true))]) hx hb dX0_load_69 hl rfl (sm_inc k) (by decide) rfl (fun ls hl => ?_)
    refine lv_goto (tgt := 15) hx hb dX0_load_72 rfl ?_
    exact ih _ _ _ (lv_sub hl [4, 5, 6, 7, 8, 2, 1, 0] rfl) (sm_cP (rfl) hP) (sm_cD (rfl) hD) hS
set_option maxHeartbeats 4000000 in
set_option maxRecDepth 100000 in
theorem c_load_1_f (l : Launch) (D : va_G) (cI : ClassId) (x0 x1 x2 x3 : Nat) (V S M : Nat → Int32) (r t : Nat) (hr : r < 16) (ht : t + 1 ≤ 256) : sm_C l yX0_load wsX0_load ({ frames := 2, cells := 0, slots := 0, locals := 42 } : Room) D vwCl [(cI, .int)] [.ref x0, .int (nI r), .int (nI t), .int 1, .int (sm_bI false)] (sm_wX cI x0 x1 x2 x3 V S M) none (sm_wX cI x0 x1 x2 x3 (upd V r (sm_ushr ((sm_lv (fun j => M (t + j) &&& 255) 1) <<< (nI 24 &&& 31)) (nI 24))) (upd S r (sm_ushr ((sm_lv (fun j => sm_ushr (M (t + j)) 8) 1) <<< (nI 24 &&& 31)) (nI 24))) M) := by
  refine sm_start (cc := cX0_load) (maxL := 9) (ret := none) (lv := [(0, .ref x0), (1, .int (nI r)), (2, .int (nI t)), (3, .int 1), (4, .int (sm_bI false))]) (by decide) rfl (Nat.le_of_ble_eq_true rfl) rfl ?_
  intro p e s m below meth c hx hb hrt hts hown hlocks hml hin hK hP hD hS hA ls hl
  have hw := sm_hw hts
  refine lv_iload_n hx hb dX0_load_0 rfl (lv_at hl 1 rfl) ?_
  refine lv_iload_n hx hb dX0_load_1 rfl (lv_at hl 2 rfl) ?_
  refine lv_iload_n hx hb dX0_load_2 rfl (lv_at hl 3 rfl) ?_
  refine sm_callS (As := [.int (nI r), .int (nI t), .int 1]) (rest := []) (wr := (sm_wX cI x0 x1 x2 x3 V S M)) (wn := (sm_wX cI x0 x1 x2 x3 V S M)) (st1 := []) ⟨hx, hb, hml, hown, hts⟩ (c_checkTransfer_1 l D r t (by omega) (by omega)) (va_cwS 3 hts (sm_gS (i1 := 178) (i2 := 179) (i4 := 1) (i5 := 180) rfl rfl rfl rfl) rfl rfl rfl (by decide +kernel) ⟨Nat.le_of_ble_eq_true rfl, Nat.le_of_ble_eq_true rfl⟩) hK [] rfl hP hD hS hA [] [0, 1, 2, 3] rfl rfl (by decide) (by decide) (by decide) rfl hl.1 rfl (Nat.le_of_ble_eq_true rfl) dX0_load_3 ⟨Nat.le_of_ble_eq_true rfl, Nat.le_of_ble_eq_true rfl⟩ rfl rfl (fun H locs hP hD hS => ?_)
  refine lv_iconst (v := 0) hx hb dX0_load_6 (by decide) ?_
  refine lv_istore (lv' := [(5, .int 0), (0, .ref x0), (1, .int (nI r)), (2, .int (nI t)), (3, .int 1), (4, .int (sm_bI false))]) hx hb dX0_load_7 hl (by decide) rfl (fun ls hl => ?_)
  refine lv_iconst (v := 0) hx hb dX0_load_9 (by decide) ?_
  refine lv_istore (lv' := [(6, .int 0), (5, .int 0), (0, .ref x0), (1, .int (nI r)), (2, .int (nI t)), (3, .int 1), (4, .int (sm_bI false))]) hx hb dX0_load_10 hl (by decide) rfl (fun ls hl => ?_)
  refine lv_iconst (v := 0) hx hb dX0_load_12 (by decide) ?_
  refine lv_istore (lv' := [(7, .int 0), (6, .int 0), (5, .int 0), (0, .ref x0), (1, .int (nI r)), (2, .int (nI t)), (3, .int 1), (4, .int (sm_bI false))]) hx hb dX0_load_13 hl (by decide) rfl (fun ls hl => ?_)
  refine sm_loopW (nL := 9) (lv := fun k => [(0, .ref x0), (1, .int (nI r)), (2, .int (nI t)), (3, .int 1), (4, .int (sm_bI false)), (5, .int (sm_lv (fun j => M (t + j) &&& 255) k)), (6, .int (sm_lv (fun j => sm_ushr (M (t + j)) 8) k)), (7, .int (nI k))]) (w := fun k => (sm_wX cI x0 x1 x2 x3 V S M)) 1 (fun H locs ls hl hP hD hS => ?_) (fun k hk ih H locs ls hl hP hD hS => ?_) (lv_sub hl [3, 4, 5, 6, 7, 2, 1, 0] rfl) (sm_cP (rfl) hP) (sm_cD (rfl) hD) hS
  · have hl : lv_has ls 9 [(0, .ref x0), (1, .int (nI r)), (2, .int (nI t)), (3, .int 1), (4, .int (sm_bI false)), (5, .int (sm_lv (fun j => M (t + j) &&& 255) 1)), (6, .int (sm_lv (fun j => sm_ushr (M (t + j)) 8) 1)), (7, .int (nI 1))] := hl
    have hP : va_P D vwCl (sm_wX cI x0 x1 x2 x3 V S M) H := hP
    have hD : va_D _ (sm_wX cI x0 x1 x2 x3 V S M) := hD
    refine lv_iload hx hb dX0_load_15 (lv_at hl 7 rfl) ?_
    refine lv_iload_n hx hb dX0_load_17 rfl (lv_at hl 3 rfl) ?_
    refine lv_icmp_ge (tgt := 75) hx hb dX0_load_18 rfl (fun _ => ?_) (fun z => absurd (by decide) z)
    refine lv_aload_n hx hb dX0_load_75 rfl (lv_at hl 0 rfl) ?_
    refine va_get (D := D) (ci := 0) (v := .ref x1) (C := RX0) (T := TX0) (N := 3) hx hb hts inX0 hown hK hP 0 rfl rfl 0 (by decide) (hw 18 rfl) (fun _ h9 => h9) rfl dX0_load_76 ?_
    refine lv_iload_n hx hb dX0_load_79 rfl (lv_at hl 1 rfl) ?_
    refine lv_iload hx hb dX0_load_80 (lv_at hl 5 rfl) ?_
    refine lv_iload_n hx hb dX0_load_82 rfl (lv_at hl 3 rfl) ?_
    refine lv_iload hx hb dX0_load_83 (lv_at hl 4 rfl) ?_
    refine sm_callS (As := [.int (sm_lv (fun j => M (t + j) &&& 255) 1), .int 1, .int (sm_bI false)]) (rest := [.int (nI r), .ref x1]) (wr := (sm_wX cI x0 x1 x2 x3 V S M)) (wn := (sm_wX cI x0 x1 x2 x3 V S M)) (st1 := [.int (sm_ushr ((sm_lv (fun j => M (t + j) &&& 255) 1) <<< (nI 24 &&& 31)) (nI 24)), .int (nI r), .ref x1]) ⟨hx, hb, hml, hown, hts⟩ (c_widened_1_f l D (sm_lv (fun j => M (t + j) &&& 255) 1)) (va_cwS 3 hts (sm_gS (i1 := 188) (i2 := 189) (i4 := 1) (i5 := 190) rfl rfl rfl rfl) rfl rfl rfl (by decide +kernel) ⟨Nat.le_of_ble_eq_true rfl, Nat.le_of_ble_eq_true rfl⟩) hK [] rfl hP hD hS hA [] [0, 1, 2, 3] rfl rfl (by decide) (by decide) (by decide) rfl hl.1 rfl (Nat.le_of_ble_eq_true rfl) dX0_load_85 ⟨Nat.le_of_ble_eq_true rfl, Nat.le_of_ble_eq_true rfl⟩ rfl rfl (fun H locs hP hD hS => ?_)
    refine sm_iast (f' := upd V r (sm_ushr ((sm_lv (fun j => M (t + j) &&& 255) 1) <<< (nI 24 &&& 31)) (nI 24))) (ws' := (sm_wX cI x0 x1 x2 x3 (upd V r (sm_ushr ((sm_lv (fun j => M (t + j) &&& 255) 1) <<< (nI 24 &&& 31)) (nI 24))) S M)) hx hb hK hP hD hS 1 0 rfl rfl (vp_in_nI (n := r) (by omega) (by decide)) dX0_load_88 (by rw [nI_clamp (by omega)]) rfl (fun H locs hP hD hS => ?_)
    refine lv_aload_n hx hb dX0_load_89 rfl (lv_at hl 0 rfl) ?_
    refine va_get (D := D) (ci := 0) (v := .ref x2) (C := RX0) (T := TX0) (N := 3) hx hb hts inX0 hown hK hP 0 rfl rfl 1 (by decide) (hw 19 rfl) (fun _ h9 => h9) rfl dX0_load_90 ?_
    refine lv_iload_n hx hb dX0_load_93 rfl (lv_at hl 1 rfl) ?_
    refine lv_iload hx hb dX0_load_94 (lv_at hl 6 rfl) ?_
    refine lv_iload_n hx hb dX0_load_96 rfl (lv_at hl 3 rfl) ?_
    refine lv_iload hx hb dX0_load_97 (lv_at hl 4 rfl) ?_
    refine sm_callS (As := [.int (sm_lv (fun j => sm_ushr (M (t + j)) 8) 1), .int 1, .int (sm_bI false)]) (rest := [.int (nI r), .ref x2]) (wr := (sm_wX cI x0 x1 x2 x3 (upd V r (sm_ushr ((sm_lv (fun j => M (t + j) &&& 255) 1) <<< (nI 24 &&& 31)) (nI 24))) S M)) (wn := (sm_wX cI x0 x1 x2 x3 (upd V r (sm_ushr ((sm_lv (fun j => M (t + j) &&& 255) 1) <<< (nI 24 &&& 31)) (nI 24))) S M)) (st1 := [.int (sm_ushr ((sm_lv (fun j => sm_ushr (M (t + j)) 8) 1) <<< (nI 24 &&& 31)) (nI 24)), .int (nI r), .ref x2]) ⟨hx, hb, hml, hown, hts⟩ (c_widened_1_f l D (sm_lv (fun j => sm_ushr (M (t + j)) 8) 1)) (va_cwS 3 hts (sm_gS (i1 := 188) (i2 := 189) (i4 := 1) (i5 := 190) rfl rfl rfl rfl) rfl rfl rfl (by decide +kernel) ⟨Nat.le_of_ble_eq_true rfl, Nat.le_of_ble_eq_true rfl⟩) hK [] rfl hP hD hS hA [] [0, 1, 2, 3] rfl rfl (by decide) (by decide) (by decide) rfl hl.1 rfl (Nat.le_of_ble_eq_true rfl) dX0_load_99 ⟨Nat.le_of_ble_eq_true rfl, Nat.le_of_ble_eq_true rfl⟩ rfl rfl (fun H locs hP hD hS => ?_)
    refine sm_iast (f' := upd S r (sm_ushr ((sm_lv (fun j => sm_ushr (M (t + j)) 8) 1) <<< (nI 24 &&& 31)) (nI 24))) (ws' := (sm_wX cI x0 x1 x2 x3 (upd V r (sm_ushr ((sm_lv (fun j => M (t + j) &&& 255) 1) <<< (nI 24 &&& 31)) (nI 24))) (upd S r (sm_ushr ((sm_lv (fun j => sm_ushr (M (t + j)) 8) 1) <<< (nI 24 &&& 31)) (nI 24))) M)) hx hb hK hP hD hS 2 0 rfl rfl (vp_in_nI (n := r) (by omega) (by decide)) dX0_load_102 (by rw [nI_clamp (by omega)]) rfl (fun H locs hP hD hS => ?_)
    exact sm_vret hx hb hrt hlocks hS hP hD dX0_load_103
  · have hl : lv_has ls 9 [(0, .ref x0), (1, .int (nI r)), (2, .int (nI t)), (3, .int 1), (4, .int (sm_bI false)), (5, .int (sm_lv (fun j => M (t + j) &&& 255) k)), (6, .int (sm_lv (fun j => sm_ushr (M (t + j)) 8) k)), (7, .int (nI k))] := hl
    have hP : va_P D vwCl (sm_wX cI x0 x1 x2 x3 V S M) H := hP
    have hD : va_D _ (sm_wX cI x0 x1 x2 x3 V S M) := hD
    refine lv_iload hx hb dX0_load_15 (lv_at hl 7 rfl) ?_
    refine lv_iload_n hx hb dX0_load_17 rfl (lv_at hl 3 rfl) ?_
    refine lv_icmp_ge (tgt := 75) hx hb dX0_load_18 rfl (fun z => absurd z (nI_ge (b := 1) hk (by decide))) (fun _ => ?_)
    refine lv_iload hx hb dX0_load_21 (lv_at hl 7 rfl) ?_
    refine lv_bipush (v := 8) hx hb dX0_load_23 (by decide) ?_
    refine lv_imul hx hb dX0_load_25 ?_
    refine sm_eqi (y := nI (k * 8)) (pk_mul k 8) ?_
    refine lv_istore (lv' := [(8, .int (nI (k * 8))), (0, .ref x0), (1, .int (nI r)), (2, .int (nI t)), (3, .int 1), (4, .int (sm_bI false)), (5, .int (sm_lv (fun j => M (t + j) &&& 255) k)), (6, .int (sm_lv (fun j => sm_ushr (M (t + j)) 8) k)), (7, .int (nI k))]) hx hb dX0_load_26 hl (by decide) rfl (fun ls hl => ?_)
    refine lv_iload hx hb dX0_load_28 (lv_at hl 6 rfl) ?_
    refine lv_aload_n hx hb dX0_load_30 rfl (lv_at hl 1 rfl) ?_
    refine va_get (D := D) (ci := 0) (v := .ref x3) (C := RX0) (T := TX0) (N := 3) hx hb hts inX0 hown hK hP 0 rfl rfl 2 (by decide) (hw 20 rfl) (fun _ h9 => h9) rfl dX0_load_31 ?_
    refine lv_iload_n hx hb dX0_load_34 rfl (lv_at hl 3 rfl) ?_
    refine lv_iload hx hb dX0_load_35 (lv_at hl 8 rfl) ?_
    refine lv_iadd hx hb dX0_load_37 ?_
    refine sm_eqi (y := nI (t + k)) (nI_add t k) ?_
    refine va_iald hx hb hK hP 3 0 rfl rfl (vp_in_nI (n := t + k) (by omega) (by decide)) dX0_load_38 ?_
    refine sm_eqi (y := M (t + k)) (sm_cl M (n := t + k) (by omega)) ?_
    refine lv_sipush (v := 255) hx hb dX0_load_39 (by decide) ?_
    refine lv_iand hx hb dX0_load_42 ?_
    refine lv_iload hx hb dX0_load_43 (lv_at hl 0 rfl) ?_
    refine lv_ishl hx hb dX0_load_45 ?_
    refine lv_ior hx hb dX0_load_46 ?_
    refine sm_eqi (y := sm_lv (fun j => M (t + j) &&& 255) (k + 1)) (rfl) ?_
    refine lv_istore (lv' := [(5, .int (sm_lv (fun j => M (t + j) &&& 255) (k + 1))), (8, .int (nI (k * 8))), (0, .ref x0), (1, .int (nI r)), (2, .int (nI t)), (3, .int 1), (4, .int (sm_bI false)), (6, .int (sm_lv (fun j => sm_ushr (M (t + j)) 8) k)), (7, .int (nI k))]) hx hb dX0_load_47 hl (by decide) rfl (fun ls hl => ?_)
    refine lv_iload hx hb dX0_load_49 (lv_at hl 7 rfl) ?_
    refine lv_aload_n hx hb dX0_load_51 rfl (lv_at hl 2 rfl) ?_
    refine va_get (D := D) (ci := 0) (v := .ref x3) (C := RX0) (T := TX0) (N := 3) hx hb hts inX0 hown hK hP 0 rfl rfl 2 (by decide) (hw 20 rfl) (fun _ h9 => h9) rfl dX0_load_52 ?_
    refine lv_iload_n hx hb dX0_load_55 rfl (lv_at hl 4 rfl) ?_
    refine lv_iload hx hb dX0_load_56 (lv_at hl 8 rfl) ?_
    refine lv_iadd hx hb dX0_load_58 ?_
    refine sm_eqi (y := nI (t + k)) (nI_add t k) ?_
    refine va_iald hx hb hK hP 3 0 rfl rfl (vp_in_nI (n := t + k) (by omega) (by decide)) dX0_load_59 ?_
    refine sm_eqi (y := M (t + k)) (sm_cl M (n := t + k) (by omega)) ?_
    refine lv_bipush (v := 8) hx hb dX0_load_60 (by decide) ?_
    refine lv_iushr (v := sm_ushr (M (t + k)) 8) hx hb dX0_load_62 rfl ?_
    refine lv_iload hx hb dX0_load_63 (lv_at hl 1 rfl) ?_
    refine lv_ishl hx hb dX0_load_65 ?_
    refine lv_ior hx hb dX0_load_66 ?_
    refine sm_eqi (y := sm_lv (fun j => sm_ushr (M (t + j)) 8) (k + 1)) (rfl) ?_
    refine lv_istore (lv' := [(6, .int (sm_lv (fun j => sm_ushr (M (t + j)) 8) (k + 1))), (5, .int (sm_lv (fun j => M (t + j) &&& 255) (k + 1))), (8, .int (nI (k * 8))), (0, .ref x0), (1, .int (nI r)), (2, .int (nI t)), (3, .int 1), (4, .int (sm_bI false)), (7, .int (nI k))]) hx hb dX0_load_67 hl (by decide) rfl (fun ls hl => ?_)
    refine lv_iinc (k := 8) (v := nI (k + 1)) (lv' := [(7, .int (nI (k + 1))), (6, .int (sm_lv (fun j => sm_ushr (M (t + j)) 8) (k + 1))), (5, .int (sm_lv (fun j => M (t + j) &&& 255) (k + 1))), (8, .int (nI (k * 8))), (0, .ref x0), (1, .int (nI r)), (2, .int (nI t)), (3, .int 1), (4, .int (sm_bI false))]) hx hb dX0_load_69 hl rfl (sm_inc k) (by decide) rfl (fun ls hl => ?_)
    refine lv_goto (tgt := 15) hx hb dX0_load_72 rfl ?_
    exact ih _ _ _ (lv_sub hl [4, 5, 6, 7, 8, 2, 1, 0] rfl) (sm_cP (rfl) hP) (sm_cD (rfl) hD) hS
set_option maxHeartbeats 4000000 in
set_option maxRecDepth 100000 in
theorem c_load_2_t (l : Launch) (D : va_G) (cI : ClassId) (x0 x1 x2 x3 : Nat) (V S M : Nat → Int32) (r t : Nat) (hr : r < 16) (ht : t + 2 ≤ 256) : sm_C l yX0_load wsX0_load ({ frames := 2, cells := 0, slots := 0, locals := 42 } : Room) D vwCl [(cI, .int)] [.ref x0, .int (nI r), .int (nI t), .int 2, .int (sm_bI true)] (sm_wX cI x0 x1 x2 x3 V S M) none (sm_wX cI x0 x1 x2 x3 (upd V r (((sm_lv (fun j => M (t + j) &&& 255) 2) <<< (nI 16 &&& 31)) >>> (nI 16 &&& 31))) (upd S r (((sm_lv (fun j => sm_ushr (M (t + j)) 8) 2) <<< (nI 16 &&& 31)) >>> (nI 16 &&& 31))) M) := by
  refine sm_start (cc := cX0_load) (maxL := 9) (ret := none) (lv := [(0, .ref x0), (1, .int (nI r)), (2, .int (nI t)), (3, .int 2), (4, .int (sm_bI true))]) (by decide) rfl (Nat.le_of_ble_eq_true rfl) rfl ?_
  intro p e s m below meth c hx hb hrt hts hown hlocks hml hin hK hP hD hS hA ls hl
  have hw := sm_hw hts
  refine lv_iload_n hx hb dX0_load_0 rfl (lv_at hl 1 rfl) ?_
  refine lv_iload_n hx hb dX0_load_1 rfl (lv_at hl 2 rfl) ?_
  refine lv_iload_n hx hb dX0_load_2 rfl (lv_at hl 3 rfl) ?_
  refine sm_callS (As := [.int (nI r), .int (nI t), .int 2]) (rest := []) (wr := (sm_wX cI x0 x1 x2 x3 V S M)) (wn := (sm_wX cI x0 x1 x2 x3 V S M)) (st1 := []) ⟨hx, hb, hml, hown, hts⟩ (c_checkTransfer_2 l D r t (by omega) (by omega)) (va_cwS 3 hts (sm_gS (i1 := 178) (i2 := 179) (i4 := 1) (i5 := 180) rfl rfl rfl rfl) rfl rfl rfl (by decide +kernel) ⟨Nat.le_of_ble_eq_true rfl, Nat.le_of_ble_eq_true rfl⟩) hK [] rfl hP hD hS hA [] [0, 1, 2, 3] rfl rfl (by decide) (by decide) (by decide) rfl hl.1 rfl (Nat.le_of_ble_eq_true rfl) dX0_load_3 ⟨Nat.le_of_ble_eq_true rfl, Nat.le_of_ble_eq_true rfl⟩ rfl rfl (fun H locs hP hD hS => ?_)
  refine lv_iconst (v := 0) hx hb dX0_load_6 (by decide) ?_
  refine lv_istore (lv' := [(5, .int 0), (0, .ref x0), (1, .int (nI r)), (2, .int (nI t)), (3, .int 2), (4, .int (sm_bI true))]) hx hb dX0_load_7 hl (by decide) rfl (fun ls hl => ?_)
  refine lv_iconst (v := 0) hx hb dX0_load_9 (by decide) ?_
  refine lv_istore (lv' := [(6, .int 0), (5, .int 0), (0, .ref x0), (1, .int (nI r)), (2, .int (nI t)), (3, .int 2), (4, .int (sm_bI true))]) hx hb dX0_load_10 hl (by decide) rfl (fun ls hl => ?_)
  refine lv_iconst (v := 0) hx hb dX0_load_12 (by decide) ?_
  refine lv_istore (lv' := [(7, .int 0), (6, .int 0), (5, .int 0), (0, .ref x0), (1, .int (nI r)), (2, .int (nI t)), (3, .int 2), (4, .int (sm_bI true))]) hx hb dX0_load_13 hl (by decide) rfl (fun ls hl => ?_)
  refine sm_loopW (nL := 9) (lv := fun k => [(0, .ref x0), (1, .int (nI r)), (2, .int (nI t)), (3, .int 2), (4, .int (sm_bI true)), (5, .int (sm_lv (fun j => M (t + j) &&& 255) k)), (6, .int (sm_lv (fun j => sm_ushr (M (t + j)) 8) k)), (7, .int (nI k))]) (w := fun k => (sm_wX cI x0 x1 x2 x3 V S M)) 2 (fun H locs ls hl hP hD hS => ?_) (fun k hk ih H locs ls hl hP hD hS => ?_) (lv_sub hl [3, 4, 5, 6, 7, 2, 1, 0] rfl) (sm_cP (rfl) hP) (sm_cD (rfl) hD) hS
  · have hl : lv_has ls 9 [(0, .ref x0), (1, .int (nI r)), (2, .int (nI t)), (3, .int 2), (4, .int (sm_bI true)), (5, .int (sm_lv (fun j => M (t + j) &&& 255) 2)), (6, .int (sm_lv (fun j => sm_ushr (M (t + j)) 8) 2)), (7, .int (nI 2))] := hl
    have hP : va_P D vwCl (sm_wX cI x0 x1 x2 x3 V S M) H := hP
    have hD : va_D _ (sm_wX cI x0 x1 x2 x3 V S M) := hD
    refine lv_iload hx hb dX0_load_15 (lv_at hl 7 rfl) ?_
    refine lv_iload_n hx hb dX0_load_17 rfl (lv_at hl 3 rfl) ?_
    refine lv_icmp_ge (tgt := 75) hx hb dX0_load_18 rfl (fun _ => ?_) (fun z => absurd (by decide) z)
    refine lv_aload_n hx hb dX0_load_75 rfl (lv_at hl 0 rfl) ?_
    refine va_get (D := D) (ci := 0) (v := .ref x1) (C := RX0) (T := TX0) (N := 3) hx hb hts inX0 hown hK hP 0 rfl rfl 0 (by decide) (hw 18 rfl) (fun _ h9 => h9) rfl dX0_load_76 ?_
    refine lv_iload_n hx hb dX0_load_79 rfl (lv_at hl 1 rfl) ?_
    refine lv_iload hx hb dX0_load_80 (lv_at hl 5 rfl) ?_
    refine lv_iload_n hx hb dX0_load_82 rfl (lv_at hl 3 rfl) ?_
    refine lv_iload hx hb dX0_load_83 (lv_at hl 4 rfl) ?_
    refine sm_callS (As := [.int (sm_lv (fun j => M (t + j) &&& 255) 2), .int 2, .int (sm_bI true)]) (rest := [.int (nI r), .ref x1]) (wr := (sm_wX cI x0 x1 x2 x3 V S M)) (wn := (sm_wX cI x0 x1 x2 x3 V S M)) (st1 := [.int (((sm_lv (fun j => M (t + j) &&& 255) 2) <<< (nI 16 &&& 31)) >>> (nI 16 &&& 31)), .int (nI r), .ref x1]) ⟨hx, hb, hml, hown, hts⟩ (c_widened_2_t l D (sm_lv (fun j => M (t + j) &&& 255) 2)) (va_cwS 3 hts (sm_gS (i1 := 188) (i2 := 189) (i4 := 1) (i5 := 190) rfl rfl rfl rfl) rfl rfl rfl (by decide +kernel) ⟨Nat.le_of_ble_eq_true rfl, Nat.le_of_ble_eq_true rfl⟩) hK [] rfl hP hD hS hA [] [0, 1, 2, 3] rfl rfl (by decide) (by decide) (by decide) rfl hl.1 rfl (Nat.le_of_ble_eq_true rfl) dX0_load_85 ⟨Nat.le_of_ble_eq_true rfl, Nat.le_of_ble_eq_true rfl⟩ rfl rfl (fun H locs hP hD hS => ?_)
    refine sm_iast (f' := upd V r (((sm_lv (fun j => M (t + j) &&& 255) 2) <<< (nI 16 &&& 31)) >>> (nI 16 &&& 31))) (ws' := (sm_wX cI x0 x1 x2 x3 (upd V r (((sm_lv (fun j => M (t + j) &&& 255) 2) <<< (nI 16 &&& 31)) >>> (nI 16 &&& 31))) S M)) hx hb hK hP hD hS 1 0 rfl rfl (vp_in_nI (n := r) (by omega) (by decide)) dX0_load_88 (by rw [nI_clamp (by omega)]) rfl (fun H locs hP hD hS => ?_)
    refine lv_aload_n hx hb dX0_load_89 rfl (lv_at hl 0 rfl) ?_
    refine va_get (D := D) (ci := 0) (v := .ref x2) (C := RX0) (T := TX0) (N := 3) hx hb hts inX0 hown hK hP 0 rfl rfl 1 (by decide) (hw 19 rfl) (fun _ h9 => h9) rfl dX0_load_90 ?_
    refine lv_iload_n hx hb dX0_load_93 rfl (lv_at hl 1 rfl) ?_
    refine lv_iload hx hb dX0_load_94 (lv_at hl 6 rfl) ?_
    refine lv_iload_n hx hb dX0_load_96 rfl (lv_at hl 3 rfl) ?_
    refine lv_iload hx hb dX0_load_97 (lv_at hl 4 rfl) ?_
    refine sm_callS (As := [.int (sm_lv (fun j => sm_ushr (M (t + j)) 8) 2), .int 2, .int (sm_bI true)]) (rest := [.int (nI r), .ref x2]) (wr := (sm_wX cI x0 x1 x2 x3 (upd V r (((sm_lv (fun j => M (t + j) &&& 255) 2) <<< (nI 16 &&& 31)) >>> (nI 16 &&& 31))) S M)) (wn := (sm_wX cI x0 x1 x2 x3 (upd V r (((sm_lv (fun j => M (t + j) &&& 255) 2) <<< (nI 16 &&& 31)) >>> (nI 16 &&& 31))) S M)) (st1 := [.int (((sm_lv (fun j => sm_ushr (M (t + j)) 8) 2) <<< (nI 16 &&& 31)) >>> (nI 16 &&& 31)), .int (nI r), .ref x2]) ⟨hx, hb, hml, hown, hts⟩ (c_widened_2_t l D (sm_lv (fun j => sm_ushr (M (t + j)) 8) 2)) (va_cwS 3 hts (sm_gS (i1 := 188) (i2 := 189) (i4 := 1) (i5 := 190) rfl rfl rfl rfl) rfl rfl rfl (by decide +kernel) ⟨Nat.le_of_ble_eq_true rfl, Nat.le_of_ble_eq_true rfl⟩) hK [] rfl hP hD hS hA [] [0, 1, 2, 3] rfl rfl (by decide) (by decide) (by decide) rfl hl.1 rfl (Nat.le_of_ble_eq_true rfl) dX0_load_99 ⟨Nat.le_of_ble_eq_true rfl, Nat.le_of_ble_eq_true rfl⟩ rfl rfl (fun H locs hP hD hS => ?_)
    refine sm_iast (f' := upd S r (((sm_lv (fun j => sm_ushr (M (t + j)) 8) 2) <<< (nI 16 &&& 31)) >>> (nI 16 &&& 31))) (ws' := (sm_wX cI x0 x1 x2 x3 (upd V r (((sm_lv (fun j => M (t + j) &&& 255) 2) <<< (nI 16 &&& 31)) >>> (nI 16 &&& 31))) (upd S r (((sm_lv (fun j => sm_ushr (M (t + j)) 8) 2) <<< (nI 16 &&& 31)) >>> (nI 16 &&& 31))) M)) hx hb hK hP hD hS 2 0 rfl rfl (vp_in_nI (n := r) (by omega) (by decide)) dX0_load_102 (by rw [nI_clamp (by omega)]) rfl (fun H locs hP hD hS => ?_)
    exact sm_vret hx hb hrt hlocks hS hP hD dX0_load_103
  · have hl : lv_has ls 9 [(0, .ref x0), (1, .int (nI r)), (2, .int (nI t)), (3, .int 2), (4, .int (sm_bI true)), (5, .int (sm_lv (fun j => M (t + j) &&& 255) k)), (6, .int (sm_lv (fun j => sm_ushr (M (t + j)) 8) k)), (7, .int (nI k))] := hl
    have hP : va_P D vwCl (sm_wX cI x0 x1 x2 x3 V S M) H := hP
    have hD : va_D _ (sm_wX cI x0 x1 x2 x3 V S M) := hD
    refine lv_iload hx hb dX0_load_15 (lv_at hl 7 rfl) ?_
    refine lv_iload_n hx hb dX0_load_17 rfl (lv_at hl 3 rfl) ?_
    refine lv_icmp_ge (tgt := 75) hx hb dX0_load_18 rfl (fun z => absurd z (nI_ge (b := 2) hk (by decide))) (fun _ => ?_)
    refine lv_iload hx hb dX0_load_21 (lv_at hl 7 rfl) ?_
    refine lv_bipush (v := 8) hx hb dX0_load_23 (by decide) ?_
    refine lv_imul hx hb dX0_load_25 ?_
    refine sm_eqi (y := nI (k * 8)) (pk_mul k 8) ?_
    refine lv_istore (lv' := [(8, .int (nI (k * 8))), (0, .ref x0), (1, .int (nI r)), (2, .int (nI t)), (3, .int 2), (4, .int (sm_bI true)), (5, .int (sm_lv (fun j => M (t + j) &&& 255) k)), (6, .int (sm_lv (fun j => sm_ushr (M (t + j)) 8) k)), (7, .int (nI k))]) hx hb dX0_load_26 hl (by decide) rfl (fun ls hl => ?_)
    refine lv_iload hx hb dX0_load_28 (lv_at hl 6 rfl) ?_
    refine lv_aload_n hx hb dX0_load_30 rfl (lv_at hl 1 rfl) ?_
    refine va_get (D := D) (ci := 0) (v := .ref x3) (C := RX0) (T := TX0) (N := 3) hx hb hts inX0 hown hK hP 0 rfl rfl 2 (by decide) (hw 20 rfl) (fun _ h9 => h9) rfl dX0_load_31 ?_
    refine lv_iload_n hx hb dX0_load_34 rfl (lv_at hl 3 rfl) ?_
    refine lv_iload hx hb dX0_load_35 (lv_at hl 8 rfl) ?_
    refine lv_iadd hx hb dX0_load_37 ?_
    refine sm_eqi (y := nI (t + k)) (nI_add t k) ?_
    refine va_iald hx hb hK hP 3 0 rfl rfl (vp_in_nI (n := t + k) (by omega) (by decide)) dX0_load_38 ?_
    refine sm_eqi (y := M (t + k)) (sm_cl M (n := t + k) (by omega)) ?_
    refine lv_sipush (v := 255) hx hb dX0_load_39 (by decide) ?_
    refine lv_iand hx hb dX0_load_42 ?_
    refine lv_iload hx hb dX0_load_43 (lv_at hl 0 rfl) ?_
    refine lv_ishl hx hb dX0_load_45 ?_
    refine lv_ior hx hb dX0_load_46 ?_
    refine sm_eqi (y := sm_lv (fun j => M (t + j) &&& 255) (k + 1)) (rfl) ?_
    refine lv_istore (lv' := [(5, .int (sm_lv (fun j => M (t + j) &&& 255) (k + 1))), (8, .int (nI (k * 8))), (0, .ref x0), (1, .int (nI r)), (2, .int (nI t)), (3, .int 2), (4, .int (sm_bI true)), (6, .int (sm_lv (fun j => sm_ushr (M (t + j)) 8) k)), (7, .int (nI k))]) hx hb dX0_load_47 hl (by decide) rfl (fun ls hl => ?_)
    refine lv_iload hx hb dX0_load_49 (lv_at hl 7 rfl) ?_
    refine lv_aload_n hx hb dX0_load_51 rfl (lv_at hl 2 rfl) ?_
    refine va_get (D := D) (ci := 0) (v := .ref x3) (C := RX0) (T := TX0) (N := 3) hx hb hts inX0 hown hK hP 0 rfl rfl 2 (by decide) (hw 20 rfl) (fun _ h9 => h9) rfl dX0_load_52 ?_
    refine lv_iload_n hx hb dX0_load_55 rfl (lv_at hl 4 rfl) ?_
    refine lv_iload hx hb dX0_load_56 (lv_at hl 8 rfl) ?_
    refine lv_iadd hx hb dX0_load_58 ?_
    refine sm_eqi (y := nI (t + k)) (nI_add t k) ?_
    refine va_iald hx hb hK hP 3 0 rfl rfl (vp_in_nI (n := t + k) (by omega) (by decide)) dX0_load_59 ?_
    refine sm_eqi (y := M (t + k)) (sm_cl M (n := t + k) (by omega)) ?_
    refine lv_bipush (v := 8) hx hb dX0_load_60 (by decide) ?_
    refine lv_iushr (v := sm_ushr (M (t + k)) 8) hx hb dX0_load_62 rfl ?_
    refine lv_iload hx hb dX0_load_63 (lv_at hl 1 rfl) ?_
    refine lv_ishl hx hb dX0_load_65 ?_
    refine lv_ior hx hb dX0_load_66 ?_
    refine sm_eqi (y := sm_lv (fun j => sm_ushr (M (t + j)) 8) (k + 1)) (rfl) ?_
    refine lv_istore (lv' := [(6, .int (sm_lv (fun j => sm_ushr (M (t + j)) 8) (k + 1))), (5, .int (sm_lv (fun j => M (t + j) &&& 255) (k + 1))), (8, .int (nI (k * 8))), (0, .ref x0), (1, .int (nI r)), (2, .int (nI t)), (3, .int 2), (4, .int (sm_bI true)), (7, .int (nI k))]) hx hb dX0_load_67 hl (by decide) rfl (fun ls hl => ?_)
    refine lv_iinc (k := 8) (v := nI (k + 1)) (lv' := [(7, .int (nI (k + 1))), (6, .int (sm_lv (fun j => sm_ushr (M (t + j)) 8) (k + 1))), (5, .int (sm_lv (fun j => M (t + j) &&& 255) (k + 1))), (8, .int (nI (k * 8))), (0, .ref x0), (1, .int (nI r)), (2, .int (nI t)), (3, .int 2), (4, .int (sm_bI true))]) hx hb dX0_load_69 hl rfl (sm_inc k) (by decide) rfl (fun ls hl => ?_)
    refine lv_goto (tgt := 15) hx hb dX0_load_72 rfl ?_
    exact ih _ _ _ (lv_sub hl [4, 5, 6, 7, 8, 2, 1, 0] rfl) (sm_cP (rfl) hP) (sm_cD (rfl) hD) hS
set_option maxHeartbeats 4000000 in
set_option maxRecDepth 100000 in
theorem c_load_2_f (l : Launch) (D : va_G) (cI : ClassId) (x0 x1 x2 x3 : Nat) (V S M : Nat → Int32) (r t : Nat) (hr : r < 16) (ht : t + 2 ≤ 256) : sm_C l yX0_load wsX0_load ({ frames := 2, cells := 0, slots := 0, locals := 42 } : Room) D vwCl [(cI, .int)] [.ref x0, .int (nI r), .int (nI t), .int 2, .int (sm_bI false)] (sm_wX cI x0 x1 x2 x3 V S M) none (sm_wX cI x0 x1 x2 x3 (upd V r (sm_ushr ((sm_lv (fun j => M (t + j) &&& 255) 2) <<< (nI 16 &&& 31)) (nI 16))) (upd S r (sm_ushr ((sm_lv (fun j => sm_ushr (M (t + j)) 8) 2) <<< (nI 16 &&& 31)) (nI 16))) M) := by
  refine sm_start (cc := cX0_load) (maxL := 9) (ret := none) (lv := [(0, .ref x0), (1, .int (nI r)), (2, .int (nI t)), (3, .int 2), (4, .int (sm_bI false))]) (by decide) rfl (Nat.le_of_ble_eq_true rfl) rfl ?_
  intro p e s m below meth c hx hb hrt hts hown hlocks hml hin hK hP hD hS hA ls hl
  have hw := sm_hw hts
  refine lv_iload_n hx hb dX0_load_0 rfl (lv_at hl 1 rfl) ?_
  refine lv_iload_n hx hb dX0_load_1 rfl (lv_at hl 2 rfl) ?_
  refine lv_iload_n hx hb dX0_load_2 rfl (lv_at hl 3 rfl) ?_
  refine sm_callS (As := [.int (nI r), .int (nI t), .int 2]) (rest := []) (wr := (sm_wX cI x0 x1 x2 x3 V S M)) (wn := (sm_wX cI x0 x1 x2 x3 V S M)) (st1 := []) ⟨hx, hb, hml, hown, hts⟩ (c_checkTransfer_2 l D r t (by omega) (by omega)) (va_cwS 3 hts (sm_gS (i1 := 178) (i2 := 179) (i4 := 1) (i5 := 180) rfl rfl rfl rfl) rfl rfl rfl (by decide +kernel) ⟨Nat.le_of_ble_eq_true rfl, Nat.le_of_ble_eq_true rfl⟩) hK [] rfl hP hD hS hA [] [0, 1, 2, 3] rfl rfl (by decide) (by decide) (by decide) rfl hl.1 rfl (Nat.le_of_ble_eq_true rfl) dX0_load_3 ⟨Nat.le_of_ble_eq_true rfl, Nat.le_of_ble_eq_true rfl⟩ rfl rfl (fun H locs hP hD hS => ?_)
  refine lv_iconst (v := 0) hx hb dX0_load_6 (by decide) ?_
  refine lv_istore (lv' := [(5, .int 0), (0, .ref x0), (1, .int (nI r)), (2, .int (nI t)), (3, .int 2), (4, .int (sm_bI false))]) hx hb dX0_load_7 hl (by decide) rfl (fun ls hl => ?_)
  refine lv_iconst (v := 0) hx hb dX0_load_9 (by decide) ?_
  refine lv_istore (lv' := [(6, .int 0), (5, .int 0), (0, .ref x0), (1, .int (nI r)), (2, .int (nI t)), (3, .int 2), (4, .int (sm_bI false))]) hx hb dX0_load_10 hl (by decide) rfl (fun ls hl => ?_)
  refine lv_iconst (v := 0) hx hb dX0_load_12 (by decide) ?_
  refine lv_istore (lv' := [(7, .int 0), (6, .int 0), (5, .int 0), (0, .ref x0), (1, .int (nI r)), (2, .int (nI t)), (3, .int 2), (4, .int (sm_bI false))]) hx hb dX0_load_13 hl (by decide) rfl (fun ls hl => ?_)
  refine sm_loopW (nL := 9) (lv := fun k => [(0, .ref x0), (1, .int (nI r)), (2, .int (nI t)), (3, .int 2), (4, .int (sm_bI false)), (5, .int (sm_lv (fun j => M (t + j) &&& 255) k)), (6, .int (sm_lv (fun j => sm_ushr (M (t + j)) 8) k)), (7, .int (nI k))]) (w := fun k => (sm_wX cI x0 x1 x2 x3 V S M)) 2 (fun H locs ls hl hP hD hS => ?_) (fun k hk ih H locs ls hl hP hD hS => ?_) (lv_sub hl [3, 4, 5, 6, 7, 2, 1, 0] rfl) (sm_cP (rfl) hP) (sm_cD (rfl) hD) hS
  · have hl : lv_has ls 9 [(0, .ref x0), (1, .int (nI r)), (2, .int (nI t)), (3, .int 2), (4, .int (sm_bI false)), (5, .int (sm_lv (fun j => M (t + j) &&& 255) 2)), (6, .int (sm_lv (fun j => sm_ushr (M (t + j)) 8) 2)), (7, .int (nI 2))] := hl
    have hP : va_P D vwCl (sm_wX cI x0 x1 x2 x3 V S M) H := hP
    have hD : va_D _ (sm_wX cI x0 x1 x2 x3 V S M) := hD
    refine lv_iload hx hb dX0_load_15 (lv_at hl 7 rfl) ?_
    refine lv_iload_n hx hb dX0_load_17 rfl (lv_at hl 3 rfl) ?_
    refine lv_icmp_ge (tgt := 75) hx hb dX0_load_18 rfl (fun _ => ?_) (fun z => absurd (by decide) z)
    refine lv_aload_n hx hb dX0_load_75 rfl (lv_at hl 0 rfl) ?_
    refine va_get (D := D) (ci := 0) (v := .ref x1) (C := RX0) (T := TX0) (N := 3) hx hb hts inX0 hown hK hP 0 rfl rfl 0 (by decide) (hw 18 rfl) (fun _ h9 => h9) rfl dX0_load_76 ?_
    refine lv_iload_n hx hb dX0_load_79 rfl (lv_at hl 1 rfl) ?_
    refine lv_iload hx hb dX0_load_80 (lv_at hl 5 rfl) ?_
    refine lv_iload_n hx hb dX0_load_82 rfl (lv_at hl 3 rfl) ?_
    refine lv_iload hx hb dX0_load_83 (lv_at hl 4 rfl) ?_
    refine sm_callS (As := [.int (sm_lv (fun j => M (t + j) &&& 255) 2), .int 2, .int (sm_bI false)]) (rest := [.int (nI r), .ref x1]) (wr := (sm_wX cI x0 x1 x2 x3 V S M)) (wn := (sm_wX cI x0 x1 x2 x3 V S M)) (st1 := [.int (sm_ushr ((sm_lv (fun j => M (t + j) &&& 255) 2) <<< (nI 16 &&& 31)) (nI 16)), .int (nI r), .ref x1]) ⟨hx, hb, hml, hown, hts⟩ (c_widened_2_f l D (sm_lv (fun j => M (t + j) &&& 255) 2)) (va_cwS 3 hts (sm_gS (i1 := 188) (i2 := 189) (i4 := 1) (i5 := 190) rfl rfl rfl rfl) rfl rfl rfl (by decide +kernel) ⟨Nat.le_of_ble_eq_true rfl, Nat.le_of_ble_eq_true rfl⟩) hK [] rfl hP hD hS hA [] [0, 1, 2, 3] rfl rfl (by decide) (by decide) (by decide) rfl hl.1 rfl (Nat.le_of_ble_eq_true rfl) dX0_load_85 ⟨Nat.le_of_ble_eq_true rfl, Nat.le_of_ble_eq_true rfl⟩ rfl rfl (fun H locs hP hD hS => ?_)
    refine sm_iast (f' := upd V r (sm_ushr ((sm_lv (fun j => M (t + j) &&& 255) 2) <<< (nI 16 &&& 31)) (nI 16))) (ws' := (sm_wX cI x0 x1 x2 x3 (upd V r (sm_ushr ((sm_lv (fun j => M (t + j) &&& 255) 2) <<< (nI 16 &&& 31)) (nI 16))) S M)) hx hb hK hP hD hS 1 0 rfl rfl (vp_in_nI (n := r) (by omega) (by decide)) dX0_load_88 (by rw [nI_clamp (by omega)]) rfl (fun H locs hP hD hS => ?_)
    refine lv_aload_n hx hb dX0_load_89 rfl (lv_at hl 0 rfl) ?_
    refine va_get (D := D) (ci := 0) (v := .ref x2) (C := RX0) (T := TX0) (N := 3) hx hb hts inX0 hown hK hP 0 rfl rfl 1 (by decide) (hw 19 rfl) (fun _ h9 => h9) rfl dX0_load_90 ?_
    refine lv_iload_n hx hb dX0_load_93 rfl (lv_at hl 1 rfl) ?_
    refine lv_iload hx hb dX0_load_94 (lv_at hl 6 rfl) ?_
    refine lv_iload_n hx hb dX0_load_96 rfl (lv_at hl 3 rfl) ?_
    refine lv_iload hx hb dX0_load_97 (lv_at hl 4 rfl) ?_
    refine sm_callS (As := [.int (sm_lv (fun j => sm_ushr (M (t + j)) 8) 2), .int 2, .int (sm_bI false)]) (rest := [.int (nI r), .ref x2]) (wr := (sm_wX cI x0 x1 x2 x3 (upd V r (sm_ushr ((sm_lv (fun j => M (t + j) &&& 255) 2) <<< (nI 16 &&& 31)) (nI 16))) S M)) (wn := (sm_wX cI x0 x1 x2 x3 (upd V r (sm_ushr ((sm_lv (fun j => M (t + j) &&& 255) 2) <<< (nI 16 &&& 31)) (nI 16))) S M)) (st1 := [.int (sm_ushr ((sm_lv (fun j => sm_ushr (M (t + j)) 8) 2) <<< (nI 16 &&& 31)) (nI 16)), .int (nI r), .ref x2]) ⟨hx, hb, hml, hown, hts⟩ (c_widened_2_f l D (sm_lv (fun j => sm_ushr (M (t + j)) 8) 2)) (va_cwS 3 hts (sm_gS (i1 := 188) (i2 := 189) (i4 := 1) (i5 := 190) rfl rfl rfl rfl) rfl rfl rfl (by decide +kernel) ⟨Nat.le_of_ble_eq_true rfl, Nat.le_of_ble_eq_true rfl⟩) hK [] rfl hP hD hS hA [] [0, 1, 2, 3] rfl rfl (by decide) (by decide) (by decide) rfl hl.1 rfl (Nat.le_of_ble_eq_true rfl) dX0_load_99 ⟨Nat.le_of_ble_eq_true rfl, Nat.le_of_ble_eq_true rfl⟩ rfl rfl (fun H locs hP hD hS => ?_)
    refine sm_iast (f' := upd S r (sm_ushr ((sm_lv (fun j => sm_ushr (M (t + j)) 8) 2) <<< (nI 16 &&& 31)) (nI 16))) (ws' := (sm_wX cI x0 x1 x2 x3 (upd V r (sm_ushr ((sm_lv (fun j => M (t + j) &&& 255) 2) <<< (nI 16 &&& 31)) (nI 16))) (upd S r (sm_ushr ((sm_lv (fun j => sm_ushr (M (t + j)) 8) 2) <<< (nI 16 &&& 31)) (nI 16))) M)) hx hb hK hP hD hS 2 0 rfl rfl (vp_in_nI (n := r) (by omega) (by decide)) dX0_load_102 (by rw [nI_clamp (by omega)]) rfl (fun H locs hP hD hS => ?_)
    exact sm_vret hx hb hrt hlocks hS hP hD dX0_load_103
  · have hl : lv_has ls 9 [(0, .ref x0), (1, .int (nI r)), (2, .int (nI t)), (3, .int 2), (4, .int (sm_bI false)), (5, .int (sm_lv (fun j => M (t + j) &&& 255) k)), (6, .int (sm_lv (fun j => sm_ushr (M (t + j)) 8) k)), (7, .int (nI k))] := hl
    have hP : va_P D vwCl (sm_wX cI x0 x1 x2 x3 V S M) H := hP
    have hD : va_D _ (sm_wX cI x0 x1 x2 x3 V S M) := hD
    refine lv_iload hx hb dX0_load_15 (lv_at hl 7 rfl) ?_
    refine lv_iload_n hx hb dX0_load_17 rfl (lv_at hl 3 rfl) ?_
    refine lv_icmp_ge (tgt := 75) hx hb dX0_load_18 rfl (fun z => absurd z (nI_ge (b := 2) hk (by decide))) (fun _ => ?_)
    refine lv_iload hx hb dX0_load_21 (lv_at hl 7 rfl) ?_
    refine lv_bipush (v := 8) hx hb dX0_load_23 (by decide) ?_
    refine lv_imul hx hb dX0_load_25 ?_
    refine sm_eqi (y := nI (k * 8)) (pk_mul k 8) ?_
    refine lv_istore (lv' := [(8, .int (nI (k * 8))), (0, .ref x0), (1, .int (nI r)), (2, .int (nI t)), (3, .int 2), (4, .int (sm_bI false)), (5, .int (sm_lv (fun j => M (t + j) &&& 255) k)), (6, .int (sm_lv (fun j => sm_ushr (M (t + j)) 8) k)), (7, .int (nI k))]) hx hb dX0_load_26 hl (by decide) rfl (fun ls hl => ?_)
    refine lv_iload hx hb dX0_load_28 (lv_at hl 6 rfl) ?_
    refine lv_aload_n hx hb dX0_load_30 rfl (lv_at hl 1 rfl) ?_
    refine va_get (D := D) (ci := 0) (v := .ref x3) (C := RX0) (T := TX0) (N := 3) hx hb hts inX0 hown hK hP 0 rfl rfl 2 (by decide) (hw 20 rfl) (fun _ h9 => h9) rfl dX0_load_31 ?_
    refine lv_iload_n hx hb dX0_load_34 rfl (lv_at hl 3 rfl) ?_
    refine lv_iload hx hb dX0_load_35 (lv_at hl 8 rfl) ?_
    refine lv_iadd hx hb dX0_load_37 ?_
    refine sm_eqi (y := nI (t + k)) (nI_add t k) ?_
    refine va_iald hx hb hK hP 3 0 rfl rfl (vp_in_nI (n := t + k) (by omega) (by decide)) dX0_load_38 ?_
    refine sm_eqi (y := M (t + k)) (sm_cl M (n := t + k) (by omega)) ?_
    refine lv_sipush (v := 255) hx hb dX0_load_39 (by decide) ?_
    refine lv_iand hx hb dX0_load_42 ?_
    refine lv_iload hx hb dX0_load_43 (lv_at hl 0 rfl) ?_
    refine lv_ishl hx hb dX0_load_45 ?_
    refine lv_ior hx hb dX0_load_46 ?_
    refine sm_eqi (y := sm_lv (fun j => M (t + j) &&& 255) (k + 1)) (rfl) ?_
    refine lv_istore (lv' := [(5, .int (sm_lv (fun j => M (t + j) &&& 255) (k + 1))), (8, .int (nI (k * 8))), (0, .ref x0), (1, .int (nI r)), (2, .int (nI t)), (3, .int 2), (4, .int (sm_bI false)), (6, .int (sm_lv (fun j => sm_ushr (M (t + j)) 8) k)), (7, .int (nI k))]) hx hb dX0_load_47 hl (by decide) rfl (fun ls hl => ?_)
    refine lv_iload hx hb dX0_load_49 (lv_at hl 7 rfl) ?_
    refine lv_aload_n hx hb dX0_load_51 rfl (lv_at hl 2 rfl) ?_
    refine va_get (D := D) (ci := 0) (v := .ref x3) (C := RX0) (T := TX0) (N := 3) hx hb hts inX0 hown hK hP 0 rfl rfl 2 (by decide) (hw 20 rfl) (fun _ h9 => h9) rfl dX0_load_52 ?_
    refine lv_iload_n hx hb dX0_load_55 rfl (lv_at hl 4 rfl) ?_
    refine lv_iload hx hb dX0_load_56 (lv_at hl 8 rfl) ?_
    refine lv_iadd hx hb dX0_load_58 ?_
    refine sm_eqi (y := nI (t + k)) (nI_add t k) ?_
    refine va_iald hx hb hK hP 3 0 rfl rfl (vp_in_nI (n := t + k) (by omega) (by decide)) dX0_load_59 ?_
    refine sm_eqi (y := M (t + k)) (sm_cl M (n := t + k) (by omega)) ?_
    refine lv_bipush (v := 8) hx hb dX0_load_60 (by decide) ?_
    refine lv_iushr (v := sm_ushr (M (t + k)) 8) hx hb dX0_load_62 rfl ?_
    refine lv_iload hx hb dX0_load_63 (lv_at hl 1 rfl) ?_
    refine lv_ishl hx hb dX0_load_65 ?_
    refine lv_ior hx hb dX0_load_66 ?_
    refine sm_eqi (y := sm_lv (fun j => sm_ushr (M (t + j)) 8) (k + 1)) (rfl) ?_
    refine lv_istore (lv' := [(6, .int (sm_lv (fun j => sm_ushr (M (t + j)) 8) (k + 1))), (5, .int (sm_lv (fun j => M (t + j) &&& 255) (k + 1))), (8, .int (nI (k * 8))), (0, .ref x0), (1, .int (nI r)), (2, .int (nI t)), (3, .int 2), (4, .int (sm_bI false)), (7, .int (nI k))]) hx hb dX0_load_67 hl (by decide) rfl (fun ls hl => ?_)
    refine lv_iinc (k := 8) (v := nI (k + 1)) (lv' := [(7, .int (nI (k + 1))), (6, .int (sm_lv (fun j => sm_ushr (M (t + j)) 8) (k + 1))), (5, .int (sm_lv (fun j => M (t + j) &&& 255) (k + 1))), (8, .int (nI (k * 8))), (0, .ref x0), (1, .int (nI r)), (2, .int (nI t)), (3, .int 2), (4, .int (sm_bI false))]) hx hb dX0_load_69 hl rfl (sm_inc k) (by decide) rfl (fun ls hl => ?_)
    refine lv_goto (tgt := 15) hx hb dX0_load_72 rfl ?_
    exact ih _ _ _ (lv_sub hl [4, 5, 6, 7, 8, 2, 1, 0] rfl) (sm_cP (rfl) hP) (sm_cD (rfl) hD) hS
set_option maxHeartbeats 4000000 in
set_option maxRecDepth 100000 in
theorem c_load_4_t (l : Launch) (D : va_G) (cI : ClassId) (x0 x1 x2 x3 : Nat) (V S M : Nat → Int32) (r t : Nat) (hr : r < 16) (ht : t + 4 ≤ 256) : sm_C l yX0_load wsX0_load ({ frames := 2, cells := 0, slots := 0, locals := 42 } : Room) D vwCl [(cI, .int)] [.ref x0, .int (nI r), .int (nI t), .int 4, .int (sm_bI true)] (sm_wX cI x0 x1 x2 x3 V S M) none (sm_wX cI x0 x1 x2 x3 (upd V r (((sm_lv (fun j => M (t + j) &&& 255) 4) <<< (nI 0 &&& 31)) >>> (nI 0 &&& 31))) (upd S r (((sm_lv (fun j => sm_ushr (M (t + j)) 8) 4) <<< (nI 0 &&& 31)) >>> (nI 0 &&& 31))) M) := by
  refine sm_start (cc := cX0_load) (maxL := 9) (ret := none) (lv := [(0, .ref x0), (1, .int (nI r)), (2, .int (nI t)), (3, .int 4), (4, .int (sm_bI true))]) (by decide) rfl (Nat.le_of_ble_eq_true rfl) rfl ?_
  intro p e s m below meth c hx hb hrt hts hown hlocks hml hin hK hP hD hS hA ls hl
  have hw := sm_hw hts
  refine lv_iload_n hx hb dX0_load_0 rfl (lv_at hl 1 rfl) ?_
  refine lv_iload_n hx hb dX0_load_1 rfl (lv_at hl 2 rfl) ?_
  refine lv_iload_n hx hb dX0_load_2 rfl (lv_at hl 3 rfl) ?_
  refine sm_callS (As := [.int (nI r), .int (nI t), .int 4]) (rest := []) (wr := (sm_wX cI x0 x1 x2 x3 V S M)) (wn := (sm_wX cI x0 x1 x2 x3 V S M)) (st1 := []) ⟨hx, hb, hml, hown, hts⟩ (c_checkTransfer_4 l D r t (by omega) (by omega)) (va_cwS 3 hts (sm_gS (i1 := 178) (i2 := 179) (i4 := 1) (i5 := 180) rfl rfl rfl rfl) rfl rfl rfl (by decide +kernel) ⟨Nat.le_of_ble_eq_true rfl, Nat.le_of_ble_eq_true rfl⟩) hK [] rfl hP hD hS hA [] [0, 1, 2, 3] rfl rfl (by decide) (by decide) (by decide) rfl hl.1 rfl (Nat.le_of_ble_eq_true rfl) dX0_load_3 ⟨Nat.le_of_ble_eq_true rfl, Nat.le_of_ble_eq_true rfl⟩ rfl rfl (fun H locs hP hD hS => ?_)
  refine lv_iconst (v := 0) hx hb dX0_load_6 (by decide) ?_
  refine lv_istore (lv' := [(5, .int 0), (0, .ref x0), (1, .int (nI r)), (2, .int (nI t)), (3, .int 4), (4, .int (sm_bI true))]) hx hb dX0_load_7 hl (by decide) rfl (fun ls hl => ?_)
  refine lv_iconst (v := 0) hx hb dX0_load_9 (by decide) ?_
  refine lv_istore (lv' := [(6, .int 0), (5, .int 0), (0, .ref x0), (1, .int (nI r)), (2, .int (nI t)), (3, .int 4), (4, .int (sm_bI true))]) hx hb dX0_load_10 hl (by decide) rfl (fun ls hl => ?_)
  refine lv_iconst (v := 0) hx hb dX0_load_12 (by decide) ?_
  refine lv_istore (lv' := [(7, .int 0), (6, .int 0), (5, .int 0), (0, .ref x0), (1, .int (nI r)), (2, .int (nI t)), (3, .int 4), (4, .int (sm_bI true))]) hx hb dX0_load_13 hl (by decide) rfl (fun ls hl => ?_)
  refine sm_loopW (nL := 9) (lv := fun k => [(0, .ref x0), (1, .int (nI r)), (2, .int (nI t)), (3, .int 4), (4, .int (sm_bI true)), (5, .int (sm_lv (fun j => M (t + j) &&& 255) k)), (6, .int (sm_lv (fun j => sm_ushr (M (t + j)) 8) k)), (7, .int (nI k))]) (w := fun k => (sm_wX cI x0 x1 x2 x3 V S M)) 4 (fun H locs ls hl hP hD hS => ?_) (fun k hk ih H locs ls hl hP hD hS => ?_) (lv_sub hl [3, 4, 5, 6, 7, 2, 1, 0] rfl) (sm_cP (rfl) hP) (sm_cD (rfl) hD) hS
  · have hl : lv_has ls 9 [(0, .ref x0), (1, .int (nI r)), (2, .int (nI t)), (3, .int 4), (4, .int (sm_bI true)), (5, .int (sm_lv (fun j => M (t + j) &&& 255) 4)), (6, .int (sm_lv (fun j => sm_ushr (M (t + j)) 8) 4)), (7, .int (nI 4))] := hl
    have hP : va_P D vwCl (sm_wX cI x0 x1 x2 x3 V S M) H := hP
    have hD : va_D _ (sm_wX cI x0 x1 x2 x3 V S M) := hD
    refine lv_iload hx hb dX0_load_15 (lv_at hl 7 rfl) ?_
    refine lv_iload_n hx hb dX0_load_17 rfl (lv_at hl 3 rfl) ?_
    refine lv_icmp_ge (tgt := 75) hx hb dX0_load_18 rfl (fun _ => ?_) (fun z => absurd (by decide) z)
    refine lv_aload_n hx hb dX0_load_75 rfl (lv_at hl 0 rfl) ?_
    refine va_get (D := D) (ci := 0) (v := .ref x1) (C := RX0) (T := TX0) (N := 3) hx hb hts inX0 hown hK hP 0 rfl rfl 0 (by decide) (hw 18 rfl) (fun _ h9 => h9) rfl dX0_load_76 ?_
    refine lv_iload_n hx hb dX0_load_79 rfl (lv_at hl 1 rfl) ?_
    refine lv_iload hx hb dX0_load_80 (lv_at hl 5 rfl) ?_
    refine lv_iload_n hx hb dX0_load_82 rfl (lv_at hl 3 rfl) ?_
    refine lv_iload hx hb dX0_load_83 (lv_at hl 4 rfl) ?_
    refine sm_callS (As := [.int (sm_lv (fun j => M (t + j) &&& 255) 4), .int 4, .int (sm_bI true)]) (rest := [.int (nI r), .ref x1]) (wr := (sm_wX cI x0 x1 x2 x3 V S M)) (wn := (sm_wX cI x0 x1 x2 x3 V S M)) (st1 := [.int (((sm_lv (fun j => M (t + j) &&& 255) 4) <<< (nI 0 &&& 31)) >>> (nI 0 &&& 31)), .int (nI r), .ref x1]) ⟨hx, hb, hml, hown, hts⟩ (c_widened_4_t l D (sm_lv (fun j => M (t + j) &&& 255) 4)) (va_cwS 3 hts (sm_gS (i1 := 188) (i2 := 189) (i4 := 1) (i5 := 190) rfl rfl rfl rfl) rfl rfl rfl (by decide +kernel) ⟨Nat.le_of_ble_eq_true rfl, Nat.le_of_ble_eq_true rfl⟩) hK [] rfl hP hD hS hA [] [0, 1, 2, 3] rfl rfl (by decide) (by decide) (by decide) rfl hl.1 rfl (Nat.le_of_ble_eq_true rfl) dX0_load_85 ⟨Nat.le_of_ble_eq_true rfl, Nat.le_of_ble_eq_true rfl⟩ rfl rfl (fun H locs hP hD hS => ?_)
    refine sm_iast (f' := upd V r (((sm_lv (fun j => M (t + j) &&& 255) 4) <<< (nI 0 &&& 31)) >>> (nI 0 &&& 31))) (ws' := (sm_wX cI x0 x1 x2 x3 (upd V r (((sm_lv (fun j => M (t + j) &&& 255) 4) <<< (nI 0 &&& 31)) >>> (nI 0 &&& 31))) S M)) hx hb hK hP hD hS 1 0 rfl rfl (vp_in_nI (n := r) (by omega) (by decide)) dX0_load_88 (by rw [nI_clamp (by omega)]) rfl (fun H locs hP hD hS => ?_)
    refine lv_aload_n hx hb dX0_load_89 rfl (lv_at hl 0 rfl) ?_
    refine va_get (D := D) (ci := 0) (v := .ref x2) (C := RX0) (T := TX0) (N := 3) hx hb hts inX0 hown hK hP 0 rfl rfl 1 (by decide) (hw 19 rfl) (fun _ h9 => h9) rfl dX0_load_90 ?_
    refine lv_iload_n hx hb dX0_load_93 rfl (lv_at hl 1 rfl) ?_
    refine lv_iload hx hb dX0_load_94 (lv_at hl 6 rfl) ?_
    refine lv_iload_n hx hb dX0_load_96 rfl (lv_at hl 3 rfl) ?_
    refine lv_iload hx hb dX0_load_97 (lv_at hl 4 rfl) ?_
    refine sm_callS (As := [.int (sm_lv (fun j => sm_ushr (M (t + j)) 8) 4), .int 4, .int (sm_bI true)]) (rest := [.int (nI r), .ref x2]) (wr := (sm_wX cI x0 x1 x2 x3 (upd V r (((sm_lv (fun j => M (t + j) &&& 255) 4) <<< (nI 0 &&& 31)) >>> (nI 0 &&& 31))) S M)) (wn := (sm_wX cI x0 x1 x2 x3 (upd V r (((sm_lv (fun j => M (t + j) &&& 255) 4) <<< (nI 0 &&& 31)) >>> (nI 0 &&& 31))) S M)) (st1 := [.int (((sm_lv (fun j => sm_ushr (M (t + j)) 8) 4) <<< (nI 0 &&& 31)) >>> (nI 0 &&& 31)), .int (nI r), .ref x2]) ⟨hx, hb, hml, hown, hts⟩ (c_widened_4_t l D (sm_lv (fun j => sm_ushr (M (t + j)) 8) 4)) (va_cwS 3 hts (sm_gS (i1 := 188) (i2 := 189) (i4 := 1) (i5 := 190) rfl rfl rfl rfl) rfl rfl rfl (by decide +kernel) ⟨Nat.le_of_ble_eq_true rfl, Nat.le_of_ble_eq_true rfl⟩) hK [] rfl hP hD hS hA [] [0, 1, 2, 3] rfl rfl (by decide) (by decide) (by decide) rfl hl.1 rfl (Nat.le_of_ble_eq_true rfl) dX0_load_99 ⟨Nat.le_of_ble_eq_true rfl, Nat.le_of_ble_eq_true rfl⟩ rfl rfl (fun H locs hP hD hS => ?_)
    refine sm_iast (f' := upd S r (((sm_lv (fun j => sm_ushr (M (t + j)) 8) 4) <<< (nI 0 &&& 31)) >>> (nI 0 &&& 31))) (ws' := (sm_wX cI x0 x1 x2 x3 (upd V r (((sm_lv (fun j => M (t + j) &&& 255) 4) <<< (nI 0 &&& 31)) >>> (nI 0 &&& 31))) (upd S r (((sm_lv (fun j => sm_ushr (M (t + j)) 8) 4) <<< (nI 0 &&& 31)) >>> (nI 0 &&& 31))) M)) hx hb hK hP hD hS 2 0 rfl rfl (vp_in_nI (n := r) (by omega) (by decide)) dX0_load_102 (by rw [nI_clamp (by omega)]) rfl (fun H locs hP hD hS => ?_)
    exact sm_vret hx hb hrt hlocks hS hP hD dX0_load_103
  · have hl : lv_has ls 9 [(0, .ref x0), (1, .int (nI r)), (2, .int (nI t)), (3, .int 4), (4, .int (sm_bI true)), (5, .int (sm_lv (fun j => M (t + j) &&& 255) k)), (6, .int (sm_lv (fun j => sm_ushr (M (t + j)) 8) k)), (7, .int (nI k))] := hl
    have hP : va_P D vwCl (sm_wX cI x0 x1 x2 x3 V S M) H := hP
    have hD : va_D _ (sm_wX cI x0 x1 x2 x3 V S M) := hD
    refine lv_iload hx hb dX0_load_15 (lv_at hl 7 rfl) ?_
    refine lv_iload_n hx hb dX0_load_17 rfl (lv_at hl 3 rfl) ?_
    refine lv_icmp_ge (tgt := 75) hx hb dX0_load_18 rfl (fun z => absurd z (nI_ge (b := 4) hk (by decide))) (fun _ => ?_)
    refine lv_iload hx hb dX0_load_21 (lv_at hl 7 rfl) ?_
    refine lv_bipush (v := 8) hx hb dX0_load_23 (by decide) ?_
    refine lv_imul hx hb dX0_load_25 ?_
    refine sm_eqi (y := nI (k * 8)) (pk_mul k 8) ?_
    refine lv_istore (lv' := [(8, .int (nI (k * 8))), (0, .ref x0), (1, .int (nI r)), (2, .int (nI t)), (3, .int 4), (4, .int (sm_bI true)), (5, .int (sm_lv (fun j => M (t + j) &&& 255) k)), (6, .int (sm_lv (fun j => sm_ushr (M (t + j)) 8) k)), (7, .int (nI k))]) hx hb dX0_load_26 hl (by decide) rfl (fun ls hl => ?_)
    refine lv_iload hx hb dX0_load_28 (lv_at hl 6 rfl) ?_
    refine lv_aload_n hx hb dX0_load_30 rfl (lv_at hl 1 rfl) ?_
    refine va_get (D := D) (ci := 0) (v := .ref x3) (C := RX0) (T := TX0) (N := 3) hx hb hts inX0 hown hK hP 0 rfl rfl 2 (by decide) (hw 20 rfl) (fun _ h9 => h9) rfl dX0_load_31 ?_
    refine lv_iload_n hx hb dX0_load_34 rfl (lv_at hl 3 rfl) ?_
    refine lv_iload hx hb dX0_load_35 (lv_at hl 8 rfl) ?_
    refine lv_iadd hx hb dX0_load_37 ?_
    refine sm_eqi (y := nI (t + k)) (nI_add t k) ?_
    refine va_iald hx hb hK hP 3 0 rfl rfl (vp_in_nI (n := t + k) (by omega) (by decide)) dX0_load_38 ?_
    refine sm_eqi (y := M (t + k)) (sm_cl M (n := t + k) (by omega)) ?_
    refine lv_sipush (v := 255) hx hb dX0_load_39 (by decide) ?_
    refine lv_iand hx hb dX0_load_42 ?_
    refine lv_iload hx hb dX0_load_43 (lv_at hl 0 rfl) ?_
    refine lv_ishl hx hb dX0_load_45 ?_
    refine lv_ior hx hb dX0_load_46 ?_
    refine sm_eqi (y := sm_lv (fun j => M (t + j) &&& 255) (k + 1)) (rfl) ?_
    refine lv_istore (lv' := [(5, .int (sm_lv (fun j => M (t + j) &&& 255) (k + 1))), (8, .int (nI (k * 8))), (0, .ref x0), (1, .int (nI r)), (2, .int (nI t)), (3, .int 4), (4, .int (sm_bI true)), (6, .int (sm_lv (fun j => sm_ushr (M (t + j)) 8) k)), (7, .int (nI k))]) hx hb dX0_load_47 hl (by decide) rfl (fun ls hl => ?_)
    refine lv_iload hx hb dX0_load_49 (lv_at hl 7 rfl) ?_
    refine lv_aload_n hx hb dX0_load_51 rfl (lv_at hl 2 rfl) ?_
    refine va_get (D := D) (ci := 0) (v := .ref x3) (C := RX0) (T := TX0) (N := 3) hx hb hts inX0 hown hK hP 0 rfl rfl 2 (by decide) (hw 20 rfl) (fun _ h9 => h9) rfl dX0_load_52 ?_
    refine lv_iload_n hx hb dX0_load_55 rfl (lv_at hl 4 rfl) ?_
    refine lv_iload hx hb dX0_load_56 (lv_at hl 8 rfl) ?_
    refine lv_iadd hx hb dX0_load_58 ?_
    refine sm_eqi (y := nI (t + k)) (nI_add t k) ?_
    refine va_iald hx hb hK hP 3 0 rfl rfl (vp_in_nI (n := t + k) (by omega) (by decide)) dX0_load_59 ?_
    refine sm_eqi (y := M (t + k)) (sm_cl M (n := t + k) (by omega)) ?_
    refine lv_bipush (v := 8) hx hb dX0_load_60 (by decide) ?_
    refine lv_iushr (v := sm_ushr (M (t + k)) 8) hx hb dX0_load_62 rfl ?_
    refine lv_iload hx hb dX0_load_63 (lv_at hl 1 rfl) ?_
    refine lv_ishl hx hb dX0_load_65 ?_
    refine lv_ior hx hb dX0_load_66 ?_
    refine sm_eqi (y := sm_lv (fun j => sm_ushr (M (t + j)) 8) (k + 1)) (rfl) ?_
    refine lv_istore (lv' := [(6, .int (sm_lv (fun j => sm_ushr (M (t + j)) 8) (k + 1))), (5, .int (sm_lv (fun j => M (t + j) &&& 255) (k + 1))), (8, .int (nI (k * 8))), (0, .ref x0), (1, .int (nI r)), (2, .int (nI t)), (3, .int 4), (4, .int (sm_bI true)), (7, .int (nI k))]) hx hb dX0_load_67 hl (by decide) rfl (fun ls hl => ?_)
    refine lv_iinc (k := 8) (v := nI (k + 1)) (lv' := [(7, .int (nI (k + 1))), (6, .int (sm_lv (fun j => sm_ushr (M (t + j)) 8) (k + 1))), (5, .int (sm_lv (fun j => M (t + j) &&& 255) (k + 1))), (8, .int (nI (k * 8))), (0, .ref x0), (1, .int (nI r)), (2, .int (nI t)), (3, .int 4), (4, .int (sm_bI true))]) hx hb dX0_load_69 hl rfl (sm_inc k) (by decide) rfl (fun ls hl => ?_)
    refine lv_goto (tgt := 15) hx hb dX0_load_72 rfl ?_
    exact ih _ _ _ (lv_sub hl [4, 5, 6, 7, 8, 2, 1, 0] rfl) (sm_cP (rfl) hP) (sm_cD (rfl) hD) hS
set_option maxHeartbeats 4000000 in
set_option maxRecDepth 100000 in
theorem c_load_4_f (l : Launch) (D : va_G) (cI : ClassId) (x0 x1 x2 x3 : Nat) (V S M : Nat → Int32) (r t : Nat) (hr : r < 16) (ht : t + 4 ≤ 256) : sm_C l yX0_load wsX0_load ({ frames := 2, cells := 0, slots := 0, locals := 42 } : Room) D vwCl [(cI, .int)] [.ref x0, .int (nI r), .int (nI t), .int 4, .int (sm_bI false)] (sm_wX cI x0 x1 x2 x3 V S M) none (sm_wX cI x0 x1 x2 x3 (upd V r (sm_ushr ((sm_lv (fun j => M (t + j) &&& 255) 4) <<< (nI 0 &&& 31)) (nI 0))) (upd S r (sm_ushr ((sm_lv (fun j => sm_ushr (M (t + j)) 8) 4) <<< (nI 0 &&& 31)) (nI 0))) M) := by
  refine sm_start (cc := cX0_load) (maxL := 9) (ret := none) (lv := [(0, .ref x0), (1, .int (nI r)), (2, .int (nI t)), (3, .int 4), (4, .int (sm_bI false))]) (by decide) rfl (Nat.le_of_ble_eq_true rfl) rfl ?_
  intro p e s m below meth c hx hb hrt hts hown hlocks hml hin hK hP hD hS hA ls hl
  have hw := sm_hw hts
  refine lv_iload_n hx hb dX0_load_0 rfl (lv_at hl 1 rfl) ?_
  refine lv_iload_n hx hb dX0_load_1 rfl (lv_at hl 2 rfl) ?_
  refine lv_iload_n hx hb dX0_load_2 rfl (lv_at hl 3 rfl) ?_
  refine sm_callS (As := [.int (nI r), .int (nI t), .int 4]) (rest := []) (wr := (sm_wX cI x0 x1 x2 x3 V S M)) (wn := (sm_wX cI x0 x1 x2 x3 V S M)) (st1 := []) ⟨hx, hb, hml, hown, hts⟩ (c_checkTransfer_4 l D r t (by omega) (by omega)) (va_cwS 3 hts (sm_gS (i1 := 178) (i2 := 179) (i4 := 1) (i5 := 180) rfl rfl rfl rfl) rfl rfl rfl (by decide +kernel) ⟨Nat.le_of_ble_eq_true rfl, Nat.le_of_ble_eq_true rfl⟩) hK [] rfl hP hD hS hA [] [0, 1, 2, 3] rfl rfl (by decide) (by decide) (by decide) rfl hl.1 rfl (Nat.le_of_ble_eq_true rfl) dX0_load_3 ⟨Nat.le_of_ble_eq_true rfl, Nat.le_of_ble_eq_true rfl⟩ rfl rfl (fun H locs hP hD hS => ?_)
  refine lv_iconst (v := 0) hx hb dX0_load_6 (by decide) ?_
  refine lv_istore (lv' := [(5, .int 0), (0, .ref x0), (1, .int (nI r)), (2, .int (nI t)), (3, .int 4), (4, .int (sm_bI false))]) hx hb dX0_load_7 hl (by decide) rfl (fun ls hl => ?_)
  refine lv_iconst (v := 0) hx hb dX0_load_9 (by decide) ?_
  refine lv_istore (lv' := [(6, .int 0), (5, .int 0), (0, .ref x0), (1, .int (nI r)), (2, .int (nI t)), (3, .int 4), (4, .int (sm_bI false))]) hx hb dX0_load_10 hl (by decide) rfl (fun ls hl => ?_)
  refine lv_iconst (v := 0) hx hb dX0_load_12 (by decide) ?_
  refine lv_istore (lv' := [(7, .int 0), (6, .int 0), (5, .int 0), (0, .ref x0), (1, .int (nI r)), (2, .int (nI t)), (3, .int 4), (4, .int (sm_bI false))]) hx hb dX0_load_13 hl (by decide) rfl (fun ls hl => ?_)
  refine sm_loopW (nL := 9) (lv := fun k => [(0, .ref x0), (1, .int (nI r)), (2, .int (nI t)), (3, .int 4), (4, .int (sm_bI false)), (5, .int (sm_lv (fun j => M (t + j) &&& 255) k)), (6, .int (sm_lv (fun j => sm_ushr (M (t + j)) 8) k)), (7, .int (nI k))]) (w := fun k => (sm_wX cI x0 x1 x2 x3 V S M)) 4 (fun H locs ls hl hP hD hS => ?_) (fun k hk ih H locs ls hl hP hD hS => ?_) (lv_sub hl [3, 4, 5, 6, 7, 2, 1, 0] rfl) (sm_cP (rfl) hP) (sm_cD (rfl) hD) hS
  · have hl : lv_has ls 9 [(0, .ref x0), (1, .int (nI r)), (2, .int (nI t)), (3, .int 4), (4, .int (sm_bI false)), (5, .int (sm_lv (fun j => M (t + j) &&& 255) 4)), (6, .int (sm_lv (fun j => sm_ushr (M (t + j)) 8) 4)), (7, .int (nI 4))] := hl
    have hP : va_P D vwCl (sm_wX cI x0 x1 x2 x3 V S M) H := hP
    have hD : va_D _ (sm_wX cI x0 x1 x2 x3 V S M) := hD
    refine lv_iload hx hb dX0_load_15 (lv_at hl 7 rfl) ?_
    refine lv_iload_n hx hb dX0_load_17 rfl (lv_at hl 3 rfl) ?_
    refine lv_icmp_ge (tgt := 75) hx hb dX0_load_18 rfl (fun _ => ?_) (fun z => absurd (by decide) z)
    refine lv_aload_n hx hb dX0_load_75 rfl (lv_at hl 0 rfl) ?_
    refine va_get (D := D) (ci := 0) (v := .ref x1) (C := RX0) (T := TX0) (N := 3) hx hb hts inX0 hown hK hP 0 rfl rfl 0 (by decide) (hw 18 rfl) (fun _ h9 => h9) rfl dX0_load_76 ?_
    refine lv_iload_n hx hb dX0_load_79 rfl (lv_at hl 1 rfl) ?_
    refine lv_iload hx hb dX0_load_80 (lv_at hl 5 rfl) ?_
    refine lv_iload_n hx hb dX0_load_82 rfl (lv_at hl 3 rfl) ?_
    refine lv_iload hx hb dX0_load_83 (lv_at hl 4 rfl) ?_
    refine sm_callS (As := [.int (sm_lv (fun j => M (t + j) &&& 255) 4), .int 4, .int (sm_bI false)]) (rest := [.int (nI r), .ref x1]) (wr := (sm_wX cI x0 x1 x2 x3 V S M)) (wn := (sm_wX cI x0 x1 x2 x3 V S M)) (st1 := [.int (sm_ushr ((sm_lv (fun j => M (t + j) &&& 255) 4) <<< (nI 0 &&& 31)) (nI 0)), .int (nI r), .ref x1]) ⟨hx, hb, hml, hown, hts⟩ (c_widened_4_f l D (sm_lv (fun j => M (t + j) &&& 255) 4)) (va_cwS 3 hts (sm_gS (i1 := 188) (i2 := 189) (i4 := 1) (i5 := 190) rfl rfl rfl rfl) rfl rfl rfl (by decide +kernel) ⟨Nat.le_of_ble_eq_true rfl, Nat.le_of_ble_eq_true rfl⟩) hK [] rfl hP hD hS hA [] [0, 1, 2, 3] rfl rfl (by decide) (by decide) (by decide) rfl hl.1 rfl (Nat.le_of_ble_eq_true rfl) dX0_load_85 ⟨Nat.le_of_ble_eq_true rfl, Nat.le_of_ble_eq_true rfl⟩ rfl rfl (fun H locs hP hD hS => ?_)
    refine sm_iast (f' := upd V r (sm_ushr ((sm_lv (fun j => M (t + j) &&& 255) 4) <<< (nI 0 &&& 31)) (nI 0))) (ws' := (sm_wX cI x0 x1 x2 x3 (upd V r (sm_ushr ((sm_lv (fun j => M (t + j) &&& 255) 4) <<< (nI 0 &&& 31)) (nI 0))) S M)) hx hb hK hP hD hS 1 0 rfl rfl (vp_in_nI (n := r) (by omega) (by decide)) dX0_load_88 (by rw [nI_clamp (by omega)]) rfl (fun H locs hP hD hS => ?_)
    refine lv_aload_n hx hb dX0_load_89 rfl (lv_at hl 0 rfl) ?_
    refine va_get (D := D) (ci := 0) (v := .ref x2) (C := RX0) (T := TX0) (N := 3) hx hb hts inX0 hown hK hP 0 rfl rfl 1 (by decide) (hw 19 rfl) (fun _ h9 => h9) rfl dX0_load_90 ?_
    refine lv_iload_n hx hb dX0_load_93 rfl (lv_at hl 1 rfl) ?_
    refine lv_iload hx hb dX0_load_94 (lv_at hl 6 rfl) ?_
    refine lv_iload_n hx hb dX0_load_96 rfl (lv_at hl 3 rfl) ?_
    refine lv_iload hx hb dX0_load_97 (lv_at hl 4 rfl) ?_
    refine sm_callS (As := [.int (sm_lv (fun j => sm_ushr (M (t + j)) 8) 4), .int 4, .int (sm_bI false)]) (rest := [.int (nI r), .ref x2]) (wr := (sm_wX cI x0 x1 x2 x3 (upd V r (sm_ushr ((sm_lv (fun j => M (t + j) &&& 255) 4) <<< (nI 0 &&& 31)) (nI 0))) S M)) (wn := (sm_wX cI x0 x1 x2 x3 (upd V r (sm_ushr ((sm_lv (fun j => M (t + j) &&& 255) 4) <<< (nI 0 &&& 31)) (nI 0))) S M)) (st1 := [.int (sm_ushr ((sm_lv (fun j => sm_ushr (M (t + j)) 8) 4) <<< (nI 0 &&& 31)) (nI 0)), .int (nI r), .ref x2]) ⟨hx, hb, hml, hown, hts⟩ (c_widened_4_f l D (sm_lv (fun j => sm_ushr (M (t + j)) 8) 4)) (va_cwS 3 hts (sm_gS (i1 := 188) (i2 := 189) (i4 := 1) (i5 := 190) rfl rfl rfl rfl) rfl rfl rfl (by decide +kernel) ⟨Nat.le_of_ble_eq_true rfl, Nat.le_of_ble_eq_true rfl⟩) hK [] rfl hP hD hS hA [] [0, 1, 2, 3] rfl rfl (by decide) (by decide) (by decide) rfl hl.1 rfl (Nat.le_of_ble_eq_true rfl) dX0_load_99 ⟨Nat.le_of_ble_eq_true rfl, Nat.le_of_ble_eq_true rfl⟩ rfl rfl (fun H locs hP hD hS => ?_)
    refine sm_iast (f' := upd S r (sm_ushr ((sm_lv (fun j => sm_ushr (M (t + j)) 8) 4) <<< (nI 0 &&& 31)) (nI 0))) (ws' := (sm_wX cI x0 x1 x2 x3 (upd V r (sm_ushr ((sm_lv (fun j => M (t + j) &&& 255) 4) <<< (nI 0 &&& 31)) (nI 0))) (upd S r (sm_ushr ((sm_lv (fun j => sm_ushr (M (t + j)) 8) 4) <<< (nI 0 &&& 31)) (nI 0))) M)) hx hb hK hP hD hS 2 0 rfl rfl (vp_in_nI (n := r) (by omega) (by decide)) dX0_load_102 (by rw [nI_clamp (by omega)]) rfl (fun H locs hP hD hS => ?_)
    exact sm_vret hx hb hrt hlocks hS hP hD dX0_load_103
  · have hl : lv_has ls 9 [(0, .ref x0), (1, .int (nI r)), (2, .int (nI t)), (3, .int 4), (4, .int (sm_bI false)), (5, .int (sm_lv (fun j => M (t + j) &&& 255) k)), (6, .int (sm_lv (fun j => sm_ushr (M (t + j)) 8) k)), (7, .int (nI k))] := hl
    have hP : va_P D vwCl (sm_wX cI x0 x1 x2 x3 V S M) H := hP
    have hD : va_D _ (sm_wX cI x0 x1 x2 x3 V S M) := hD
    refine lv_iload hx hb dX0_load_15 (lv_at hl 7 rfl) ?_
    refine lv_iload_n hx hb dX0_load_17 rfl (lv_at hl 3 rfl) ?_
    refine lv_icmp_ge (tgt := 75) hx hb dX0_load_18 rfl (fun z => absurd z (nI_ge (b := 4) hk (by decide))) (fun _ => ?_)
    refine lv_iload hx hb dX0_load_21 (lv_at hl 7 rfl) ?_
    refine lv_bipush (v := 8) hx hb dX0_load_23 (by decide) ?_
    refine lv_imul hx hb dX0_load_25 ?_
    refine sm_eqi (y := nI (k * 8)) (pk_mul k 8) ?_
    refine lv_istore (lv' := [(8, .int (nI (k * 8))), (0, .ref x0), (1, .int (nI r)), (2, .int (nI t)), (3, .int 4), (4, .int (sm_bI false)), (5, .int (sm_lv (fun j => M (t + j) &&& 255) k)), (6, .int (sm_lv (fun j => sm_ushr (M (t + j)) 8) k)), (7, .int (nI k))]) hx hb dX0_load_26 hl (by decide) rfl (fun ls hl => ?_)
    refine lv_iload hx hb dX0_load_28 (lv_at hl 6 rfl) ?_
    refine lv_aload_n hx hb dX0_load_30 rfl (lv_at hl 1 rfl) ?_
    refine va_get (D := D) (ci := 0) (v := .ref x3) (C := RX0) (T := TX0) (N := 3) hx hb hts inX0 hown hK hP 0 rfl rfl 2 (by decide) (hw 20 rfl) (fun _ h9 => h9) rfl dX0_load_31 ?_
    refine lv_iload_n hx hb dX0_load_34 rfl (lv_at hl 3 rfl) ?_
    refine lv_iload hx hb dX0_load_35 (lv_at hl 8 rfl) ?_
    refine lv_iadd hx hb dX0_load_37 ?_
    refine sm_eqi (y := nI (t + k)) (nI_add t k) ?_
    refine va_iald hx hb hK hP 3 0 rfl rfl (vp_in_nI (n := t + k) (by omega) (by decide)) dX0_load_38 ?_
    refine sm_eqi (y := M (t + k)) (sm_cl M (n := t + k) (by omega)) ?_
    refine lv_sipush (v := 255) hx hb dX0_load_39 (by decide) ?_
    refine lv_iand hx hb dX0_load_42 ?_
    refine lv_iload hx hb dX0_load_43 (lv_at hl 0 rfl) ?_
    refine lv_ishl hx hb dX0_load_45 ?_
    refine lv_ior hx hb dX0_load_46 ?_
    refine sm_eqi (y := sm_lv (fun j => M (t + j) &&& 255) (k + 1)) (rfl) ?_
    refine lv_istore (lv' := [(5, .int (sm_lv (fun j => M (t + j) &&& 255) (k + 1))), (8, .int (nI (k * 8))), (0, .ref x0), (1, .int (nI r)), (2, .int (nI t)), (3, .int 4), (4, .int (sm_bI false)), (6, .int (sm_lv (fun j => sm_ushr (M (t + j)) 8) k)), (7, .int (nI k))]) hx hb dX0_load_47 hl (by decide) rfl (fun ls hl => ?_)
    refine lv_iload hx hb dX0_load_49 (lv_at hl 7 rfl) ?_
    refine lv_aload_n hx hb dX0_load_51 rfl (lv_at hl 2 rfl) ?_
    refine va_get (D := D) (ci := 0) (v := .ref x3) (C := RX0) (T := TX0) (N := 3) hx hb hts inX0 hown hK hP 0 rfl rfl 2 (by decide) (hw 20 rfl) (fun _ h9 => h9) rfl dX0_load_52 ?_
    refine lv_iload_n hx hb dX0_load_55 rfl (lv_at hl 4 rfl) ?_
    refine lv_iload hx hb dX0_load_56 (lv_at hl 8 rfl) ?_
    refine lv_iadd hx hb dX0_load_58 ?_
    refine sm_eqi (y := nI (t + k)) (nI_add t k) ?_
    refine va_iald hx hb hK hP 3 0 rfl rfl (vp_in_nI (n := t + k) (by omega) (by decide)) dX0_load_59 ?_
    refine sm_eqi (y := M (t + k)) (sm_cl M (n := t + k) (by omega)) ?_
    refine lv_bipush (v := 8) hx hb dX0_load_60 (by decide) ?_
    refine lv_iushr (v := sm_ushr (M (t + k)) 8) hx hb dX0_load_62 rfl ?_
    refine lv_iload hx hb dX0_load_63 (lv_at hl 1 rfl) ?_
    refine lv_ishl hx hb dX0_load_65 ?_
    refine lv_ior hx hb dX0_load_66 ?_
    refine sm_eqi (y := sm_lv (fun j => sm_ushr (M (t + j)) 8) (k + 1)) (rfl) ?_
    refine lv_istore (lv' := [(6, .int (sm_lv (fun j => sm_ushr (M (t + j)) 8) (k + 1))), (5, .int (sm_lv (fun j => M (t + j) &&& 255) (k + 1))), (8, .int (nI (k * 8))), (0, .ref x0), (1, .int (nI r)), (2, .int (nI t)), (3, .int 4), (4, .int (sm_bI false)), (7, .int (nI k))]) hx hb dX0_load_67 hl (by decide) rfl (fun ls hl => ?_)
    refine lv_iinc (k := 8) (v := nI (k + 1)) (lv' := [(7, .int (nI (k + 1))), (6, .int (sm_lv (fun j => sm_ushr (M (t + j)) 8) (k + 1))), (5, .int (sm_lv (fun j => M (t + j) &&& 255) (k + 1))), (8, .int (nI (k * 8))), (0, .ref x0), (1, .int (nI r)), (2, .int (nI t)), (3, .int 4), (4, .int (sm_bI false))]) hx hb dX0_load_69 hl rfl (sm_inc k) (by decide) rfl (fun ls hl => ?_)
    refine lv_goto (tgt := 15) hx hb dX0_load_72 rfl ?_
    exact ih _ _ _ (lv_sub hl [4, 5, 6, 7, 8, 2, 1, 0] rfl) (sm_cP (rfl) hP) (sm_cD (rfl) hD) hS
set_option maxHeartbeats 4000000 in
set_option maxRecDepth 100000 in
theorem c_count (l : Launch) (D : va_G) (cI : ClassId) (x0 x1 x2 x3 : Nat) (V S M : Nat → Int32) : sm_C l yX0_count wsX0_count ({ frames := 1, cells := 0, slots := 0, locals := 20 } : Room) D vwCl [(cI, .int)] [.ref x0] (sm_wX cI x0 x1 x2 x3 V S M) (some (.int (nI (sm_cn S 16)))) (sm_wX cI x0 x1 x2 x3 V S M) := by
  refine sm_start (cc := cX0_count) (maxL := 3) (ret := some .int) (lv := [(0, .ref x0)]) (by decide) rfl (Nat.le_of_ble_eq_true rfl) rfl ?_
  intro p e s m below meth c hx hb hrt hts hown hlocks hml hin hK hP hD hS hA ls hl
  have hw := sm_hw hts
  refine lv_iconst (v := 0) hx hb dX0_count_0 (by decide) ?_
  refine lv_istore_n (lv' := [(1, .int 0), (0, .ref x0)]) hx hb dX0_count_1 rfl hl (by decide) rfl (fun ls hl => ?_)
  refine lv_iconst (v := 0) hx hb dX0_count_2 (by decide) ?_
  refine lv_istore_n (lv' := [(2, .int 0), (1, .int 0), (0, .ref x0)]) hx hb dX0_count_3 rfl hl (by decide) rfl (fun ls hl => ?_)
  refine sm_loopW (nL := 3) (lv := fun k => [(0, .ref x0), (1, .int (nI (sm_cn S k))), (2, .int (nI k))]) (w := fun k => (sm_wX cI x0 x1 x2 x3 V S M)) 16 (fun H locs ls hl hP hD hS => ?_) (fun k hk ih H locs ls hl hP hD hS => ?_) (lv_sub hl [2, 1, 0] rfl) (sm_cP (rfl) hP) (sm_cD (rfl) hD) hS
  · have hl : lv_has ls 3 [(0, .ref x0), (1, .int (nI (sm_cn S 16))), (2, .int (nI 16))] := hl
    have hP : va_P D vwCl (sm_wX cI x0 x1 x2 x3 V S M) H := hP
    have hD : va_D _ (sm_wX cI x0 x1 x2 x3 V S M) := hD
    refine lv_iload_n hx hb dX0_count_4 rfl (lv_at hl 2 rfl) ?_
    refine lv_bipush (v := 16) hx hb dX0_count_5 (by decide) ?_
    refine lv_icmp_ge (tgt := 28) hx hb dX0_count_7 rfl (fun _ => ?_) (fun z => absurd (by decide) z)
    refine lv_iload_n hx hb dX0_count_28 rfl (lv_at hl 1 rfl) ?_
    exact sm_iret hx hb hrt hlocks hS hP hD dX0_count_29
  · have hl : lv_has ls 3 [(0, .ref x0), (1, .int (nI (sm_cn S k))), (2, .int (nI k))] := hl
    have hP : va_P D vwCl (sm_wX cI x0 x1 x2 x3 V S M) H := hP
    have hD : va_D _ (sm_wX cI x0 x1 x2 x3 V S M) := hD
    refine lv_iload_n hx hb dX0_count_4 rfl (lv_at hl 2 rfl) ?_
    refine lv_bipush (v := 16) hx hb dX0_count_5 (by decide) ?_
    refine lv_icmp_ge (tgt := 28) hx hb dX0_count_7 rfl (fun z => absurd z (nI_ge (b := 16) hk (by decide))) (fun _ => ?_)
    refine lv_iload_n hx hb dX0_count_10 rfl (lv_at hl 1 rfl) ?_
    refine lv_aload_n hx hb dX0_count_11 rfl (lv_at hl 0 rfl) ?_
    refine va_get (D := D) (ci := 0) (v := .ref x2) (C := RX0) (T := TX0) (N := 3) hx hb hts inX0 hown hK hP 0 rfl rfl 1 (by decide) (hw 19 rfl) (fun _ h9 => h9) rfl dX0_count_12 ?_
    refine lv_iload_n hx hb dX0_count_15 rfl (lv_at hl 2 rfl) ?_
    refine va_iald hx hb hK hP 2 0 rfl rfl (vp_in_nI (n := k) (by omega) (by decide)) dX0_count_16 ?_
    refine sm_eqi (y := S k) (sm_cl S (n := k) (by omega)) ?_
    refine sm_callS (As := [.int (S k)]) (rest := [.int (nI (sm_cn S k))]) (wr := (sm_wX cI x0 x1 x2 x3 V S M)) (wn := (sm_wX cI x0 x1 x2 x3 V S M)) (st1 := [.int (nI (sm_pc (bt (S k)) 32)), .int (nI (sm_cn S k))]) ⟨hx, hb, hml, hown, hts⟩ (c_bitCount l D (S k)) (va_cwS 1 hts (sm_gS (i1 := 33) (i2 := 34) (i4 := 8) (i5 := 35) rfl rfl rfl rfl) rfl rfl rfl (by decide +kernel) ⟨Nat.le_of_ble_eq_true rfl, Nat.le_of_ble_eq_true rfl⟩) hK [] rfl hP hD hS hA [] [0, 1, 2, 3] rfl rfl (by decide) (by decide) (by decide) rfl hl.1 rfl (Nat.le_of_ble_eq_true rfl) dX0_count_17 ⟨Nat.le_of_ble_eq_true rfl, Nat.le_of_ble_eq_true rfl⟩ rfl rfl (fun H locs hP hD hS => ?_)
    refine lv_iadd hx hb dX0_count_20 ?_
    refine sm_eqi (y := nI (sm_cn S (k + 1))) (nI_add _ _) ?_
    refine lv_istore_n (lv' := [(1, .int (nI (sm_cn S (k + 1)))), (0, .ref x0), (2, .int (nI k))]) hx hb dX0_count_21 rfl hl (by decide) rfl (fun ls hl => ?_)
    refine lv_iinc (k := 2) (v := nI (k + 1)) (lv' := [(2, .int (nI (k + 1))), (1, .int (nI (sm_cn S (k + 1)))), (0, .ref x0)]) hx hb dX0_count_22 hl rfl (sm_inc k) (by decide) rfl (fun ls hl => ?_)
    refine lv_goto (tgt := 4) hx hb dX0_count_25 rfl ?_
    exact ih _ _ _ (lv_sub hl [2, 1, 0] rfl) (sm_cP (rfl) hP) (sm_cD (rfl) hD) hS
end
section
set_option maxHeartbeats 4000000 in
set_option maxRecDepth 100000 in
theorem c_thrown (l : Launch) (D : va_G) (cZ : ClassId) (m0 m1 m2 m3 m4 m5 m6 : Nat) (err : Int32) (V S M : Nat → Int32) (O G : Int32) : sm_C l yX1_thrown wsX1_thrown ({ frames := 0, cells := 0, slots := 0, locals := 0 } : Room) D vwCl [(cZ, .boolean)] [.ref m0] (sm_wM cZ m0 m1 m2 m3 m4 m5 m6 err (sm_fb V) (sm_fb S) (sm_fo M) (sm_fl M) (sm_fw O) (sm_fw G)) (some (.int err)) (sm_wM cZ m0 m1 m2 m3 m4 m5 m6 err (sm_fb V) (sm_fb S) (sm_fo M) (sm_fl M) (sm_fw O) (sm_fw G)) := by
  refine sm_start (cc := cX1_thrown) (maxL := 1) (ret := some .int) (lv := [(0, .ref m0)]) (by decide) rfl (Nat.le_of_ble_eq_true rfl) rfl ?_
  intro p e s m below meth c hx hb hrt hts hown hlocks hml hin hK hP hD hS hA ls hl
  have hw := sm_hw hts
  refine lv_aload_n hx hb dX1_thrown_0 rfl (lv_at hl 0 rfl) ?_
  refine va_get (D := D) (ci := 1) (v := .int err) (C := RX1) (T := TX1) (N := 7) hx hb hts inX1 hown hK hP 0 rfl rfl 0 (by decide) (hw 232 rfl) (fun _ h9 => h9) rfl dX1_thrown_1 ?_
  exact sm_iret hx hb hrt hlocks hS hP hD dX1_thrown_4
set_option maxHeartbeats 4000000 in
set_option maxRecDepth 100000 in
theorem c_fails_f (l : Launch) (D : va_G) (cZ : ClassId) (m0 m1 m2 m3 m4 m5 m6 : Nat) (err : Int32) (V S M : Nat → Int32) (O G : Int32) (why : Int32) : sm_C l yX1_fails wsX1_fails ({ frames := 0, cells := 0, slots := 0, locals := 0 } : Room) D vwCl [(cZ, .boolean)] [.ref m0, .int (sm_bI false), .int why] (sm_wM cZ m0 m1 m2 m3 m4 m5 m6 err (sm_fb V) (sm_fb S) (sm_fo M) (sm_fl M) (sm_fw O) (sm_fw G)) (some (.int (sm_bI false))) (sm_wM cZ m0 m1 m2 m3 m4 m5 m6 0 (sm_fb V) (sm_fb S) (sm_fo M) (sm_fl M) (sm_fw O) (sm_fw G)) := by
  refine sm_start (cc := cX1_fails) (maxL := 3) (ret := some .boolean) (lv := [(0, .ref m0), (1, .int (sm_bI false)), (2, .int why)]) (by decide) rfl (Nat.le_of_ble_eq_true rfl) rfl ?_
  intro p e s m below meth c hx hb hrt hts hown hlocks hml hin hK hP hD hS hA ls hl
  have hw := sm_hw hts
  refine lv_aload_n hx hb dX1_fails_0 rfl (lv_at hl 0 rfl) ?_
  refine lv_iload_n hx hb dX1_fails_1 rfl (lv_at hl 1 rfl) ?_
  refine lv_if_eq (tgt := 9) hx hb dX1_fails_2 rfl (fun _ => ?_) (fun z => absurd (by decide) z)
  refine lv_iconst (v := 0) hx hb dX1_fails_9 (by decide) ?_
  refine sm_put (D := D) (ci := 1) (v := .int 0) (ty := .int) (C := RX1) (T := TX1) (N := 7) (ws' := (sm_wM cZ m0 m1 m2 m3 m4 m5 m6 0 (sm_fb V) (sm_fb S) (sm_fo M) (sm_fl M) (sm_fw O) (sm_fw G))) hx hb hts inX1 tyX1 tyX1_ok nX1 hown hK hP hD hS 0 rfl rfl 0 (by decide) (hw 232 rfl) (fun _ h9 => h9) rfl (by decide +kernel) rfl rfl (Nat.le_of_ble_eq_true rfl) dX1_fails_10 rfl (fun H locs hP hD hS => ?_)
  refine lv_iload_n hx hb dX1_fails_13 rfl (lv_at hl 1 rfl) ?_
  exact sm_zret hx hb hrt hlocks hS hP hD dX1_fails_14
set_option maxHeartbeats 4000000 in
set_option maxRecDepth 100000 in
theorem c_fails_t (l : Launch) (D : va_G) (cZ : ClassId) (m0 m1 m2 m3 m4 m5 m6 : Nat) (err : Int32) (V S M : Nat → Int32) (O G : Int32) (why : Int32) : sm_C l yX1_fails wsX1_fails ({ frames := 0, cells := 0, slots := 0, locals := 0 } : Room) D vwCl [(cZ, .boolean)] [.ref m0, .int (sm_bI true), .int why] (sm_wM cZ m0 m1 m2 m3 m4 m5 m6 err (sm_fb V) (sm_fb S) (sm_fo M) (sm_fl M) (sm_fw O) (sm_fw G)) (some (.int (sm_bI true))) (sm_wM cZ m0 m1 m2 m3 m4 m5 m6 why (sm_fb V) (sm_fb S) (sm_fo M) (sm_fl M) (sm_fw O) (sm_fw G)) := by
  refine sm_start (cc := cX1_fails) (maxL := 3) (ret := some .boolean) (lv := [(0, .ref m0), (1, .int (sm_bI true)), (2, .int why)]) (by decide) rfl (Nat.le_of_ble_eq_true rfl) rfl ?_
  intro p e s m below meth c hx hb hrt hts hown hlocks hml hin hK hP hD hS hA ls hl
  have hw := sm_hw hts
  refine lv_aload_n hx hb dX1_fails_0 rfl (lv_at hl 0 rfl) ?_
  refine lv_iload_n hx hb dX1_fails_1 rfl (lv_at hl 1 rfl) ?_
  refine lv_if_eq (tgt := 9) hx hb dX1_fails_2 rfl (fun z => absurd z (by decide)) (fun _ => ?_)
  refine lv_iload_n hx hb dX1_fails_5 rfl (lv_at hl 2 rfl) ?_
  refine lv_goto (tgt := 10) hx hb dX1_fails_6 rfl ?_
  refine sm_put (D := D) (ci := 1) (v := .int why) (ty := .int) (C := RX1) (T := TX1) (N := 7) (ws' := (sm_wM cZ m0 m1 m2 m3 m4 m5 m6 why (sm_fb V) (sm_fb S) (sm_fo M) (sm_fl M) (sm_fw O) (sm_fw G))) hx hb hts inX1 tyX1 tyX1_ok nX1 hown hK hP hD hS 0 rfl rfl 0 (by decide) (hw 232 rfl) (fun _ h9 => h9) rfl (by decide +kernel) rfl rfl (Nat.le_of_ble_eq_true rfl) dX1_fails_10 rfl (fun H locs hP hD hS => ?_)
  refine lv_iload_n hx hb dX1_fails_13 rfl (lv_at hl 1 rfl) ?_
  exact sm_zret hx hb hrt hlocks hS hP hD dX1_fails_14
set_option maxHeartbeats 4000000 in
set_option maxRecDepth 100000 in
theorem c_none_f (l : Launch) (D : va_G) (r : Nat) (hr : r < 16) : sm_C l yX1_none wsX1_none ({ frames := 0, cells := 0, slots := 0, locals := 0 } : Room) D vwCl [] [.int (nI r)] [] (some (.int (sm_bI false))) [] := by
  refine sm_start (cc := cX1_none) (maxL := 1) (ret := some .boolean) (lv := [(0, .int (nI r))]) (by decide) rfl (Nat.le_of_ble_eq_true rfl) rfl ?_
  intro p e s m below meth c hx hb hrt hts hown hlocks hml hin hK hP hD hS hA ls hl
  have hw := sm_hw hts
  refine lv_iload_n hx hb dX1_none_0 rfl (lv_at hl 0 rfl) ?_
  refine lv_if_lt (tgt := 10) hx hb dX1_none_1 rfl (fun z => absurd z (nI_pos (by omega))) (fun _ => ?_)
  refine lv_iload_n hx hb dX1_none_4 rfl (lv_at hl 0 rfl) ?_
  refine lv_bipush (v := 16) hx hb dX1_none_5 (by decide) ?_
  refine lv_icmp_lt (tgt := 14) hx hb dX1_none_7 rfl (fun _ => ?_) (fun z => absurd (nI_lt (b := 16) hr (by decide)) z)
  refine lv_iconst (v := 0) hx hb dX1_none_14 (by decide) ?_
  refine sm_eqi (y := sm_bI false) (rfl) ?_
  exact sm_zret hx hb hrt hlocks hS hP hD dX1_none_15
set_option maxHeartbeats 4000000 in
set_option maxRecDepth 100000 in
theorem c_none_t (l : Launch) (D : va_G) (i : Int32) (hi : i < 0 ∨ 16 ≤ i) : sm_C l yX1_none wsX1_none ({ frames := 0, cells := 0, slots := 0, locals := 0 } : Room) D vwCl [] [.int i] [] (some (.int (sm_bI true))) [] := by
  refine sm_start (cc := cX1_none) (maxL := 1) (ret := some .boolean) (lv := [(0, .int i)]) (by decide) rfl (Nat.le_of_ble_eq_true rfl) rfl ?_
  intro p e s m below meth c hx hb hrt hts hown hlocks hml hin hK hP hD hS hA ls hl
  have hw := sm_hw hts
  refine lv_iload_n hx hb dX1_none_0 rfl (lv_at hl 0 rfl) ?_
  refine lv_if_lt (tgt := 10) hx hb dX1_none_1 rfl (fun h1 => ?_) (fun h1 => ?_)
  · refine lv_iconst (v := 1) hx hb dX1_none_10 (by decide) ?_
    refine lv_goto (tgt := 15) hx hb dX1_none_11 rfl ?_
    refine sm_eqi (y := sm_bI true) (rfl) ?_
    exact sm_zret hx hb hrt hlocks hS hP hD dX1_none_15
  · refine lv_iload_n hx hb dX1_none_4 rfl (lv_at hl 0 rfl) ?_
    refine lv_bipush (v := 16) hx hb dX1_none_5 (by decide) ?_
    refine lv_icmp_lt (tgt := 14) hx hb dX1_none_7 rfl (fun z => absurd z (sm_orf hi h1)) (fun _ => ?_)
    refine lv_iconst (v := 1) hx hb dX1_none_10 (by decide) ?_
    refine lv_goto (tgt := 15) hx hb dX1_none_11 rfl ?_
    refine sm_eqi (y := sm_bI true) (rfl) ?_
    exact sm_zret hx hb hrt hlocks hS hP hD dX1_none_15
set_option maxHeartbeats 4000000 in
set_option maxRecDepth 100000 in
theorem c_is (l : Launch) (D : va_G) (cZ : ClassId) (m0 m1 m2 m3 m4 m5 m6 : Nat) (err : Int32) (L OB OL OU GO : Nat → Int32) (V : Nat → Int32) (r k : Nat) (hr : r < 16) (hk : k < 32) : sm_C l yX1_is wsX1_is ({ frames := 0, cells := 0, slots := 0, locals := 0 } : Room) D vwCl [(cZ, .boolean)] [.ref m0, .int (nI r), .int (nI k)] (sm_wM cZ m0 m1 m2 m3 m4 m5 m6 err (sm_fb V) L OB OL OU GO) (some (.int (sm_bI (bt (V r) k)))) (sm_wM cZ m0 m1 m2 m3 m4 m5 m6 err (sm_fb V) L OB OL OU GO) := by
  refine sm_start (cc := cX1_is) (maxL := 3) (ret := some .boolean) (lv := [(0, .ref m0), (1, .int (nI r)), (2, .int (nI k))]) (by decide) rfl (Nat.le_of_ble_eq_true rfl) rfl ?_
  intro p e s m below meth c hx hb hrt hts hown hlocks hml hin hK hP hD hS hA ls hl
  have hw := sm_hw hts
  refine lv_aload_n hx hb dX1_is_0 rfl (lv_at hl 0 rfl) ?_
  refine va_get (D := D) (ci := 1) (v := .ref m1) (C := RX1) (T := TX1) (N := 7) hx hb hts inX1 hown hK hP 0 rfl rfl 1 (by decide) (hw 233 rfl) (fun _ h9 => h9) rfl dX1_is_1 ?_
  refine lv_bipush (v := 32) hx hb dX1_is_4 (by decide) ?_
  refine lv_iload_n hx hb dX1_is_6 rfl (lv_at hl 1 rfl) ?_
  refine lv_imul hx hb dX1_is_7 ?_
  refine sm_eqi (y := nI (32 * r)) (pk_mul 32 r) ?_
  refine lv_iload_n hx hb dX1_is_8 rfl (lv_at hl 2 rfl) ?_
  refine lv_iadd hx hb dX1_is_9 ?_
  refine sm_eqi (y := nI ((32 * r) + k)) (nI_add (32 * r) k) ?_
  refine va_zald hx hb hK hP 1 0 rfl rfl (vp_in_nI (n := (32 * r) + k) (by omega) (by decide)) dX1_is_10 ?_
  refine sm_eqi (y := sm_bI (bt (V r) k)) ((sm_cl _ (n := (32 * r) + k) (by omega)).trans (sm_fb_at V (by omega))) ?_
  exact sm_zret hx hb hrt hlocks hS hP hD dX1_is_11
set_option maxHeartbeats 4000000 in
set_option maxRecDepth 100000 in
theorem c_un (l : Launch) (D : va_G) (cZ : ClassId) (m0 m1 m2 m3 m4 m5 m6 : Nat) (err : Int32) (B OB OL OU GO : Nat → Int32) (S : Nat → Int32) (r k : Nat) (hr : r < 16) (hk : k < 32) : sm_C l yX1_un wsX1_un ({ frames := 0, cells := 0, slots := 0, locals := 0 } : Room) D vwCl [(cZ, .boolean)] [.ref m0, .int (nI r), .int (nI k)] (sm_wM cZ m0 m1 m2 m3 m4 m5 m6 err B (sm_fb S) OB OL OU GO) (some (.int (sm_bI (bt (S r) k)))) (sm_wM cZ m0 m1 m2 m3 m4 m5 m6 err B (sm_fb S) OB OL OU GO) := by
  refine sm_start (cc := cX1_un) (maxL := 3) (ret := some .boolean) (lv := [(0, .ref m0), (1, .int (nI r)), (2, .int (nI k))]) (by decide) rfl (Nat.le_of_ble_eq_true rfl) rfl ?_
  intro p e s m below meth c hx hb hrt hts hown hlocks hml hin hK hP hD hS hA ls hl
  have hw := sm_hw hts
  refine lv_aload_n hx hb dX1_un_0 rfl (lv_at hl 0 rfl) ?_
  refine va_get (D := D) (ci := 1) (v := .ref m2) (C := RX1) (T := TX1) (N := 7) hx hb hts inX1 hown hK hP 0 rfl rfl 2 (by decide) (hw 234 rfl) (fun _ h9 => h9) rfl dX1_un_1 ?_
  refine lv_bipush (v := 32) hx hb dX1_un_4 (by decide) ?_
  refine lv_iload_n hx hb dX1_un_6 rfl (lv_at hl 1 rfl) ?_
  refine lv_imul hx hb dX1_un_7 ?_
  refine sm_eqi (y := nI (32 * r)) (pk_mul 32 r) ?_
  refine lv_iload_n hx hb dX1_un_8 rfl (lv_at hl 2 rfl) ?_
  refine lv_iadd hx hb dX1_un_9 ?_
  refine sm_eqi (y := nI ((32 * r) + k)) (nI_add (32 * r) k) ?_
  refine va_zald hx hb hK hP 2 0 rfl rfl (vp_in_nI (n := (32 * r) + k) (by omega) (by decide)) dX1_un_10 ?_
  refine sm_eqi (y := sm_bI (bt (S r) k)) ((sm_cl _ (n := (32 * r) + k) (by omega)).trans (sm_fb_at S (by omega))) ?_
  exact sm_zret hx hb hrt hlocks hS hP hD dX1_un_11
set_option maxHeartbeats 4000000 in
set_option maxRecDepth 100000 in
theorem c_number (l : Launch) (D : va_G) (cZ : ClassId) (m0 m1 m2 m3 m4 m5 m6 : Nat) (err : Int32) (V S M : Nat → Int32) (O G : Int32) (r : Nat) (hr : r < 16) : sm_C l yX1_number wsX1_number ({ frames := 0, cells := 0, slots := 0, locals := 0 } : Room) D vwCl [(cZ, .boolean)] [.ref m0, .int (nI r)] (sm_wM cZ m0 m1 m2 m3 m4 m5 m6 err (sm_fb V) (sm_fb S) (sm_fo M) (sm_fl M) (sm_fw O) (sm_fw G)) (some (.int (V r))) (sm_wM cZ m0 m1 m2 m3 m4 m5 m6 err (sm_fb V) (sm_fb S) (sm_fo M) (sm_fl M) (sm_fw O) (sm_fw G)) := by
  refine sm_start (cc := cX1_number) (maxL := 4) (ret := some .int) (lv := [(0, .ref m0), (1, .int (nI r))]) (by decide) rfl (Nat.le_of_ble_eq_true rfl) rfl ?_
  intro p e s m below meth c hx hb hrt hts hown hlocks hml hin hK hP hD hS hA ls hl
  have hw := sm_hw hts
  refine lv_iconst (v := 0) hx hb dX1_number_0 (by decide) ?_
  refine lv_istore_n (lv' := [(2, .int 0), (0, .ref m0), (1, .int (nI r))]) hx hb dX1_number_1 rfl hl (by decide) rfl (fun ls hl => ?_)
  refine lv_iconst (v := 0) hx hb dX1_number_2 (by decide) ?_
  refine lv_istore_n (lv' := [(3, .int 0), (2, .int 0), (0, .ref m0), (1, .int (nI r))]) hx hb dX1_number_3 rfl hl (by decide) rfl (fun ls hl => ?_)
  refine sm_loopW (nL := 4) (lv := fun k => [(0, .ref m0), (1, .int (nI r)), (2, .int (sm_mk (bt (V r)) k)), (3, .int (nI k))]) (w := fun k => (sm_wM cZ m0 m1 m2 m3 m4 m5 m6 err (sm_fb V) (sm_fb S) (sm_fo M) (sm_fl M) (sm_fw O) (sm_fw G))) 32 (fun H locs ls hl hP hD hS => ?_) (fun k hk ih H locs ls hl hP hD hS => ?_) (lv_sub hl [2, 3, 1, 0] rfl) (sm_cP (rfl) hP) (sm_cD (rfl) hD) hS
  · have hl : lv_has ls 4 [(0, .ref m0), (1, .int (nI r)), (2, .int (sm_mk (bt (V r)) 32)), (3, .int (nI 32))] := hl
    have hP : va_P D vwCl (sm_wM cZ m0 m1 m2 m3 m4 m5 m6 err (sm_fb V) (sm_fb S) (sm_fo M) (sm_fl M) (sm_fw O) (sm_fw G)) H := hP
    have hD : va_D _ (sm_wM cZ m0 m1 m2 m3 m4 m5 m6 err (sm_fb V) (sm_fb S) (sm_fo M) (sm_fl M) (sm_fw O) (sm_fw G)) := hD
    refine lv_iload_n hx hb dX1_number_4 rfl (lv_at hl 3 rfl) ?_
    refine lv_bipush (v := 32) hx hb dX1_number_5 (by decide) ?_
    refine lv_icmp_ge (tgt := 36) hx hb dX1_number_7 rfl (fun _ => ?_) (fun z => absurd (by decide) z)
    refine lv_iload_n hx hb dX1_number_36 rfl (lv_at hl 2 rfl) ?_
    refine sm_eqi (y := V r) (sm_mkx (fun _ _ => rfl)) ?_
    exact sm_iret hx hb hrt hlocks hS hP hD dX1_number_37
  · have hl : lv_has ls 4 [(0, .ref m0), (1, .int (nI r)), (2, .int (sm_mk (bt (V r)) k)), (3, .int (nI k))] := hl
    have hP : va_P D vwCl (sm_wM cZ m0 m1 m2 m3 m4 m5 m6 err (sm_fb V) (sm_fb S) (sm_fo M) (sm_fl M) (sm_fw O) (sm_fw G)) H := hP
    have hD : va_D _ (sm_wM cZ m0 m1 m2 m3 m4 m5 m6 err (sm_fb V) (sm_fb S) (sm_fo M) (sm_fl M) (sm_fw O) (sm_fw G)) := hD
    refine lv_iload_n hx hb dX1_number_4 rfl (lv_at hl 3 rfl) ?_
    refine lv_bipush (v := 32) hx hb dX1_number_5 (by decide) ?_
    refine lv_icmp_ge (tgt := 36) hx hb dX1_number_7 rfl (fun z => absurd z (nI_ge (b := 32) hk (by decide))) (fun _ => ?_)
    refine lv_aload_n hx hb dX1_number_10 rfl (lv_at hl 0 rfl) ?_
    refine va_get (D := D) (ci := 1) (v := .ref m1) (C := RX1) (T := TX1) (N := 7) hx hb hts inX1 hown hK hP 0 rfl rfl 1 (by decide) (hw 233 rfl) (fun _ h9 => h9) rfl dX1_number_11 ?_
    refine lv_bipush (v := 32) hx hb dX1_number_14 (by decide) ?_
    refine lv_iload_n hx hb dX1_number_16 rfl (lv_at hl 1 rfl) ?_
    refine lv_imul hx hb dX1_number_17 ?_
    refine sm_eqi (y := nI (32 * r)) (pk_mul 32 r) ?_
    refine lv_iload_n hx hb dX1_number_18 rfl (lv_at hl 3 rfl) ?_
    refine lv_iadd hx hb dX1_number_19 ?_
    refine sm_eqi (y := nI ((32 * r) + k)) (nI_add (32 * r) k) ?_
    refine va_zald hx hb hK hP 1 0 rfl rfl (vp_in_nI (n := (32 * r) + k) (by omega) (by decide)) dX1_number_20 ?_
    refine sm_eqi (y := sm_bI (bt (V r) k)) ((sm_cl _ (n := (32 * r) + k) (by omega)).trans (sm_fb_at V (by omega))) ?_
    refine sm_ifb_eq (tgt := 30) hx hb dX1_number_21 rfl (fun h21 => ?_) (fun h21 => ?_)
    · have hl : lv_has ls 4 [(0, .ref m0), (1, .int (nI r)), (2, .int (sm_mk (bt (V r)) (k + 1))), (3, .int (nI k))] := by rw [sm_mk_n h21]; exact hl
      refine lv_iinc (k := 3) (v := nI (k + 1)) (lv' := [(3, .int (nI (k + 1))), (0, .ref m0), (1, .int (nI r)), (2, .int (sm_mk (bt (V r)) (k + 1)))]) hx hb dX1_number_30 hl rfl (sm_inc k) (by decide) rfl (fun ls hl => ?_)
      refine lv_goto (tgt := 4) hx hb dX1_number_33 rfl ?_
      exact ih _ _ _ (lv_sub hl [1, 2, 3, 0] rfl) (sm_cP (rfl) hP) (sm_cD (rfl) hD) hS
    · refine lv_iload_n hx hb dX1_number_24 rfl (lv_at hl 2 rfl) ?_
      refine lv_iconst (v := 1) hx hb dX1_number_25 (by decide) ?_
      refine lv_iload_n hx hb dX1_number_26 rfl (lv_at hl 3 rfl) ?_
      refine lv_ishl hx hb dX1_number_27 ?_
      refine lv_ior hx hb dX1_number_28 ?_
      refine sm_eqi (y := sm_mk (bt (V r)) (k + 1)) (sm_mk_t h21) ?_
      refine lv_istore_n (lv' := [(2, .int (sm_mk (bt (V r)) (k + 1))), (0, .ref m0), (1, .int (nI r)), (3, .int (nI k))]) hx hb dX1_number_29 rfl hl (by decide) rfl (fun ls hl => ?_)
      refine lv_iinc (k := 3) (v := nI (k + 1)) (lv' := [(3, .int (nI (k + 1))), (2, .int (sm_mk (bt (V r)) (k + 1))), (0, .ref m0), (1, .int (nI r))]) hx hb dX1_number_30 hl rfl (sm_inc k) (by decide) rfl (fun ls hl => ?_)
      refine lv_goto (tgt := 4) hx hb dX1_number_33 rfl ?_
      exact ih _ _ _ (lv_sub hl [2, 3, 1, 0] rfl) (sm_cP (rfl) hP) (sm_cD (rfl) hD) hS
set_option maxHeartbeats 4000000 in
set_option maxRecDepth 100000 in
theorem c_give (l : Launch) (D : va_G) (cZ : ClassId) (m0 m1 m2 m3 m4 m5 m6 : Nat) (err : Int32) (V S M : Nat → Int32) (O G : Int32) (r : Nat) (hr : r < 16) : sm_C l yX1_give wsX1_give ({ frames := 0, cells := 0, slots := 0, locals := 0 } : Room) D vwCl [(cZ, .boolean)] [.ref m0, .int (nI r)] (sm_wM cZ m0 m1 m2 m3 m4 m5 m6 err (sm_fb V) (sm_fb S) (sm_fo M) (sm_fl M) (sm_fw O) (sm_fw G)) none (sm_wM cZ m0 m1 m2 m3 m4 m5 m6 err (sm_fb (upd V r O)) (sm_fb (upd S r G)) (sm_fo M) (sm_fl M) (sm_fw O) (sm_fw G)) := by
  refine sm_start (cc := cX1_give) (maxL := 3) (ret := none) (lv := [(0, .ref m0), (1, .int (nI r))]) (by decide) rfl (Nat.le_of_ble_eq_true rfl) rfl ?_
  intro p e s m below meth c hx hb hrt hts hown hlocks hml hin hK hP hD hS hA ls hl
  have hw := sm_hw hts
  refine lv_iconst (v := 0) hx hb dX1_give_0 (by decide) ?_
  refine lv_istore_n (lv' := [(2, .int 0), (0, .ref m0), (1, .int (nI r))]) hx hb dX1_give_1 rfl hl (by decide) rfl (fun ls hl => ?_)
  refine sm_loopW (nL := 3) (lv := fun k => [(0, .ref m0), (1, .int (nI r)), (2, .int (nI k))]) (w := fun k => (sm_wM cZ m0 m1 m2 m3 m4 m5 m6 err (sm_fill (sm_fb V) (bt O) (32 * r) k) (sm_fill (sm_fb S) (bt G) (32 * r) k) (sm_fo M) (sm_fl M) (sm_fw O) (sm_fw G))) 32 (fun H locs ls hl hP hD hS => ?_) (fun k hk ih H locs ls hl hP hD hS => ?_) (lv_sub hl [1, 2, 0] rfl) (sm_cP (by simp only [sm_fill0]) hP) (sm_cD (by simp only [sm_fill0]) hD) hS
  · have hl : lv_has ls 3 [(0, .ref m0), (1, .int (nI r)), (2, .int (nI 32))] := hl
    have hP : va_P D vwCl (sm_wM cZ m0 m1 m2 m3 m4 m5 m6 err (sm_fill (sm_fb V) (bt O) (32 * r) 32) (sm_fill (sm_fb S) (bt G) (32 * r) 32) (sm_fo M) (sm_fl M) (sm_fw O) (sm_fw G)) H := hP
    have hD : va_D _ (sm_wM cZ m0 m1 m2 m3 m4 m5 m6 err (sm_fill (sm_fb V) (bt O) (32 * r) 32) (sm_fill (sm_fb S) (bt G) (32 * r) 32) (sm_fo M) (sm_fl M) (sm_fw O) (sm_fw G)) := hD
    refine lv_iload_n hx hb dX1_give_2 rfl (lv_at hl 2 rfl) ?_
    refine lv_bipush (v := 32) hx hb dX1_give_3 (by decide) ?_
    refine lv_icmp_ge (tgt := 48) hx hb dX1_give_5 rfl (fun _ => ?_) (fun z => absurd (by decide) z)
    exact sm_vret hx hb hrt hlocks hS (sm_cP (by rw [sm_fill_b, sm_fill_b]) hP) (sm_cD (by rw [sm_fill_b, sm_fill_b]) hD) dX1_give_48
  · have hl : lv_has ls 3 [(0, .ref m0), (1, .int (nI r)), (2, .int (nI k))] := hl
    have hP : va_P D vwCl (sm_wM cZ m0 m1 m2 m3 m4 m5 m6 err (sm_fill (sm_fb V) (bt O) (32 * r) k) (sm_fill (sm_fb S) (bt G) (32 * r) k) (sm_fo M) (sm_fl M) (sm_fw O) (sm_fw G)) H := hP
    have hD : va_D _ (sm_wM cZ m0 m1 m2 m3 m4 m5 m6 err (sm_fill (sm_fb V) (bt O) (32 * r) k) (sm_fill (sm_fb S) (bt G) (32 * r) k) (sm_fo M) (sm_fl M) (sm_fw O) (sm_fw G)) := hD
    refine lv_iload_n hx hb dX1_give_2 rfl (lv_at hl 2 rfl) ?_
    refine lv_bipush (v := 32) hx hb dX1_give_3 (by decide) ?_
    refine lv_icmp_ge (tgt := 48) hx hb dX1_give_5 rfl (fun z => absurd z (nI_ge (b := 32) hk (by decide))) (fun _ => ?_)
    refine lv_aload_n hx hb dX1_give_8 rfl (lv_at hl 0 rfl) ?_
    refine va_get (D := D) (ci := 1) (v := .ref m1) (C := RX1) (T := TX1) (N := 7) hx hb hts inX1 hown hK hP 0 rfl rfl 1 (by decide) (hw 233 rfl) (fun _ h9 => h9) rfl dX1_give_9 ?_
    refine lv_bipush (v := 32) hx hb dX1_give_12 (by decide) ?_
    refine lv_iload_n hx hb dX1_give_14 rfl (lv_at hl 1 rfl) ?_
    refine lv_imul hx hb dX1_give_15 ?_
    refine sm_eqi (y := nI (32 * r)) (pk_mul 32 r) ?_
    refine lv_iload_n hx hb dX1_give_16 rfl (lv_at hl 2 rfl) ?_
    refine lv_iadd hx hb dX1_give_17 ?_
    refine sm_eqi (y := nI ((32 * r) + k)) (nI_add (32 * r) k) ?_
    refine lv_aload_n hx hb dX1_give_18 rfl (lv_at hl 0 rfl) ?_
    refine va_get (D := D) (ci := 1) (v := .ref m5) (C := RX1) (T := TX1) (N := 7) hx hb hts inX1 hown hK hP 0 rfl rfl 5 (by decide) (hw 237 rfl) (fun _ h9 => h9) rfl dX1_give_19 ?_
    refine lv_iload_n hx hb dX1_give_22 rfl (lv_at hl 2 rfl) ?_
    refine va_zald hx hb hK hP 5 0 rfl rfl (vp_in_nI (n := k) (by omega) (by decide)) dX1_give_23 ?_
    refine sm_eqi (y := sm_bI (bt O k)) ((sm_cl _ (n := k) (by omega)).trans rfl) ?_
    refine sm_zast (f' := sm_fill (sm_fb V) (bt O) (32 * r) (k + 1)) (ws' := (sm_wM cZ m0 m1 m2 m3 m4 m5 m6 err (sm_fill (sm_fb V) (bt O) (32 * r) (k + 1)) (sm_fill (sm_fb S) (bt G) (32 * r) k) (sm_fo M) (sm_fl M) (sm_fw O) (sm_fw G))) hx hb hK hP hD hS 1 0 rfl rfl (vp_in_nI (n := (32 * r) + k) (by omega) (by decide)) dX1_give_24 (by rw [nI_clamp (by omega)]; exact sm_fillS (sm_fb V) (bt O) (32 * r) k) rfl (fun H locs hP hD hS => ?_)
    refine lv_aload_n hx hb dX1_give_25 rfl (lv_at hl 0 rfl) ?_
    refine va_get (D := D) (ci := 1) (v := .ref m2) (C := RX1) (T := TX1) (N := 7) hx hb hts inX1 hown hK hP 0 rfl rfl 2 (by decide) (hw 234 rfl) (fun _ h9 => h9) rfl dX1_give_26 ?_
    refine lv_bipush (v := 32) hx hb dX1_give_29 (by decide) ?_
    refine lv_iload_n hx hb dX1_give_31 rfl (lv_at hl 1 rfl) ?_
    refine lv_imul hx hb dX1_give_32 ?_
    refine sm_eqi (y := nI (32 * r)) (pk_mul 32 r) ?_
    refine lv_iload_n hx hb dX1_give_33 rfl (lv_at hl 2 rfl) ?_
    refine lv_iadd hx hb dX1_give_34 ?_
    refine sm_eqi (y := nI ((32 * r) + k)) (nI_add (32 * r) k) ?_
    refine lv_aload_n hx hb dX1_give_35 rfl (lv_at hl 0 rfl) ?_
    refine va_get (D := D) (ci := 1) (v := .ref m6) (C := RX1) (T := TX1) (N := 7) hx hb hts inX1 hown hK hP 0 rfl rfl 6 (by decide) (hw 238 rfl) (fun _ h9 => h9) rfl dX1_give_36 ?_
    refine lv_iload_n hx hb dX1_give_39 rfl (lv_at hl 2 rfl) ?_
    refine va_zald hx hb hK hP 6 0 rfl rfl (vp_in_nI (n := k) (by omega) (by decide)) dX1_give_40 ?_
    refine sm_eqi (y := sm_bI (bt G k)) ((sm_cl _ (n := k) (by omega)).trans rfl) ?_
    refine sm_zast (f' := sm_fill (sm_fb S) (bt G) (32 * r) (k + 1)) (ws' := (sm_wM cZ m0 m1 m2 m3 m4 m5 m6 err (sm_fill (sm_fb V) (bt O) (32 * r) (k + 1)) (sm_fill (sm_fb S) (bt G) (32 * r) (k + 1)) (sm_fo M) (sm_fl M) (sm_fw O) (sm_fw G))) hx hb hK hP hD hS 2 0 rfl rfl (vp_in_nI (n := (32 * r) + k) (by omega) (by decide)) dX1_give_41 (by rw [nI_clamp (by omega)]; exact sm_fillS (sm_fb S) (bt G) (32 * r) k) rfl (fun H locs hP hD hS => ?_)
    refine lv_iinc (k := 2) (v := nI (k + 1)) (lv' := [(2, .int (nI (k + 1))), (0, .ref m0), (1, .int (nI r))]) hx hb dX1_give_42 hl rfl (sm_inc k) (by decide) rfl (fun ls hl => ?_)
    refine lv_goto (tgt := 2) hx hb dX1_give_45 rfl ?_
    exact ih _ _ _ (lv_sub hl [1, 2, 0] rfl) (sm_cP (rfl) hP) (sm_cD (rfl) hD) hS
set_option maxHeartbeats 4000000 in
set_option maxRecDepth 100000 in
theorem c_make (l : Launch) (D : va_G) (cZ : ClassId) (m0 m1 m2 m3 m4 m5 m6 : Nat) (err : Int32) (V S M : Nat → Int32) (O G : Int32) (v : Int32) : sm_C l yX1_make wsX1_make ({ frames := 0, cells := 0, slots := 0, locals := 0 } : Room) D vwCl [(cZ, .boolean)] [.ref m0, .int v] (sm_wM cZ m0 m1 m2 m3 m4 m5 m6 err (sm_fb V) (sm_fb S) (sm_fo M) (sm_fl M) (sm_fw O) (sm_fw G)) none (sm_wM cZ m0 m1 m2 m3 m4 m5 m6 err (sm_fb V) (sm_fb S) (sm_fo M) (sm_fl M) (sm_fw v) (sm_fw 0)) := by
  refine sm_start (cc := cX1_make) (maxL := 3) (ret := none) (lv := [(0, .ref m0), (1, .int v)]) (by decide) rfl (Nat.le_of_ble_eq_true rfl) rfl ?_
  intro p e s m below meth c hx hb hrt hts hown hlocks hml hin hK hP hD hS hA ls hl
  have hw := sm_hw hts
  refine lv_iconst (v := 0) hx hb dX1_make_0 (by decide) ?_
  refine lv_istore_n (lv' := [(2, .int 0), (0, .ref m0), (1, .int v)]) hx hb dX1_make_1 rfl hl (by decide) rfl (fun ls hl => ?_)
  refine sm_loopW (nL := 3) (lv := fun k => [(0, .ref m0), (1, .int v), (2, .int (nI k))]) (w := fun k => (sm_wM cZ m0 m1 m2 m3 m4 m5 m6 err (sm_fb V) (sm_fb S) (sm_fo M) (sm_fl M) (sm_fill (sm_fw O) (bt v) 0 k) (sm_fill (sm_fw G) (fun _ => false) 0 k))) 32 (fun H locs ls hl hP hD hS => ?_) (fun k hk ih H locs ls hl hP hD hS => ?_) (lv_sub hl [1, 2, 0] rfl) (sm_cP (by simp only [sm_fill0]) hP) (sm_cD (by simp only [sm_fill0]) hD) hS
  · have hl : lv_has ls 3 [(0, .ref m0), (1, .int v), (2, .int (nI 32))] := hl
    have hP : va_P D vwCl (sm_wM cZ m0 m1 m2 m3 m4 m5 m6 err (sm_fb V) (sm_fb S) (sm_fo M) (sm_fl M) (sm_fill (sm_fw O) (bt v) 0 32) (sm_fill (sm_fw G) (fun _ => false) 0 32)) H := hP
    have hD : va_D _ (sm_wM cZ m0 m1 m2 m3 m4 m5 m6 err (sm_fb V) (sm_fb S) (sm_fo M) (sm_fl M) (sm_fill (sm_fw O) (bt v) 0 32) (sm_fill (sm_fw G) (fun _ => false) 0 32)) := hD
    refine lv_iload_n hx hb dX1_make_2 rfl (lv_at hl 2 rfl) ?_
    refine lv_bipush (v := 32) hx hb dX1_make_3 (by decide) ?_
    refine lv_icmp_ge (tgt := 41) hx hb dX1_make_5 rfl (fun _ => ?_) (fun z => absurd (by decide) z)
    exact sm_vret hx hb hrt hlocks hS (sm_cP (by rw [sm_fill_w, sm_fill_w, sm_mkx (fun _ _ => rfl), sm_mk_f]) hP) (sm_cD (by rw [sm_fill_w, sm_fill_w, sm_mkx (fun _ _ => rfl), sm_mk_f]) hD) dX1_make_41
  · have hl : lv_has ls 3 [(0, .ref m0), (1, .int v), (2, .int (nI k))] := hl
    have hP : va_P D vwCl (sm_wM cZ m0 m1 m2 m3 m4 m5 m6 err (sm_fb V) (sm_fb S) (sm_fo M) (sm_fl M) (sm_fill (sm_fw O) (bt v) 0 k) (sm_fill (sm_fw G) (fun _ => false) 0 k)) H := hP
    have hD : va_D _ (sm_wM cZ m0 m1 m2 m3 m4 m5 m6 err (sm_fb V) (sm_fb S) (sm_fo M) (sm_fl M) (sm_fill (sm_fw O) (bt v) 0 k) (sm_fill (sm_fw G) (fun _ => false) 0 k)) := hD
    refine lv_iload_n hx hb dX1_make_2 rfl (lv_at hl 2 rfl) ?_
    refine lv_bipush (v := 32) hx hb dX1_make_3 (by decide) ?_
    refine lv_icmp_ge (tgt := 41) hx hb dX1_make_5 rfl (fun z => absurd z (nI_ge (b := 32) hk (by decide))) (fun _ => ?_)
    refine lv_aload_n hx hb dX1_make_8 rfl (lv_at hl 0 rfl) ?_
    refine va_get (D := D) (ci := 1) (v := .ref m5) (C := RX1) (T := TX1) (N := 7) hx hb hts inX1 hown hK hP 0 rfl rfl 5 (by decide) (hw 237 rfl) (fun _ h9 => h9) rfl dX1_make_9 ?_
    refine lv_iload_n hx hb dX1_make_12 rfl (lv_at hl 2 rfl) ?_
    refine lv_iload_n hx hb dX1_make_13 rfl (lv_at hl 1 rfl) ?_
    refine lv_iload_n hx hb dX1_make_14 rfl (lv_at hl 2 rfl) ?_
    refine lv_ishr hx hb dX1_make_15 ?_
    refine lv_iconst (v := 1) hx hb dX1_make_16 (by decide) ?_
    refine lv_iand hx hb dX1_make_17 ?_
    refine sm_eqi (y := sm_bI (bt v k)) (sm_tst v hk) ?_
    refine lv_iconst (v := 1) hx hb dX1_make_18 (by decide) ?_
    refine lv_icmp_ne (tgt := 26) hx hb dX1_make_19 rfl (fun h19 => ?_) (fun h19 => ?_)
    · refine lv_iconst (v := 0) hx hb dX1_make_26 (by decide) ?_
      refine sm_eqi (y := sm_bI (bt v k)) ((sm_b1f h19).symm) ?_
      refine sm_zast (f' := sm_fill (sm_fw O) (bt v) 0 (k + 1)) (ws' := (sm_wM cZ m0 m1 m2 m3 m4 m5 m6 err (sm_fb V) (sm_fb S) (sm_fo M) (sm_fl M) (sm_fill (sm_fw O) (bt v) 0 (k + 1)) (sm_fill (sm_fw G) (fun _ => false) 0 k))) hx hb hK hP hD hS 5 0 rfl rfl (vp_in_nI (n := k) (by omega) (by decide)) dX1_make_27 (by rw [nI_clamp (by omega)]; exact sm_fillS0 (sm_fw O) (bt v) k) rfl (fun H locs hP hD hS => ?_)
      refine lv_aload_n hx hb dX1_make_28 rfl (lv_at hl 0 rfl) ?_
      refine va_get (D := D) (ci := 1) (v := .ref m6) (C := RX1) (T := TX1) (N := 7) hx hb hts inX1 hown hK hP 0 rfl rfl 6 (by decide) (hw 238 rfl) (fun _ h9 => h9) rfl dX1_make_29 ?_
      refine lv_iload_n hx hb dX1_make_32 rfl (lv_at hl 2 rfl) ?_
      refine lv_iconst (v := 0) hx hb dX1_make_33 (by decide) ?_
      refine sm_eqi (y := sm_bI false) (rfl) ?_
      refine sm_zast (f' := sm_fill (sm_fw G) (fun _ => false) 0 (k + 1)) (ws' := (sm_wM cZ m0 m1 m2 m3 m4 m5 m6 err (sm_fb V) (sm_fb S) (sm_fo M) (sm_fl M) (sm_fill (sm_fw O) (bt v) 0 (k + 1)) (sm_fill (sm_fw G) (fun _ => false) 0 (k + 1)))) hx hb hK hP hD hS 6 0 rfl rfl (vp_in_nI (n := k) (by omega) (by decide)) dX1_make_34 (by rw [nI_clamp (by omega)]; exact sm_fillS0 (sm_fw G) (fun _ => false) k) rfl (fun H locs hP hD hS => ?_)
      refine lv_iinc (k := 2) (v := nI (k + 1)) (lv' := [(2, .int (nI (k + 1))), (0, .ref m0), (1, .int v)]) hx hb dX1_make_35 hl rfl (sm_inc k) (by decide) rfl (fun ls hl => ?_)
      refine lv_goto (tgt := 2) hx hb dX1_make_38 rfl ?_
      exact ih _ _ _ (lv_sub hl [1, 2, 0] rfl) (sm_cP (rfl) hP) (sm_cD (rfl) hD) hS
    · refine lv_iconst (v := 1) hx hb dX1_make_22 (by decide) ?_
      refine lv_goto (tgt := 27) hx hb dX1_make_23 rfl ?_
      refine sm_eqi (y := sm_bI (bt v k)) (h19.symm) ?_
      refine sm_zast (f' := sm_fill (sm_fw O) (bt v) 0 (k + 1)) (ws' := (sm_wM cZ m0 m1 m2 m3 m4 m5 m6 err (sm_fb V) (sm_fb S) (sm_fo M) (sm_fl M) (sm_fill (sm_fw O) (bt v) 0 (k + 1)) (sm_fill (sm_fw G) (fun _ => false) 0 k))) hx hb hK hP hD hS 5 0 rfl rfl (vp_in_nI (n := k) (by omega) (by decide)) dX1_make_27 (by rw [nI_clamp (by omega)]; exact sm_fillS0 (sm_fw O) (bt v) k) rfl (fun H locs hP hD hS => ?_)
      refine lv_aload_n hx hb dX1_make_28 rfl (lv_at hl 0 rfl) ?_
      refine va_get (D := D) (ci := 1) (v := .ref m6) (C := RX1) (T := TX1) (N := 7) hx hb hts inX1 hown hK hP 0 rfl rfl 6 (by decide) (hw 238 rfl) (fun _ h9 => h9) rfl dX1_make_29 ?_
      refine lv_iload_n hx hb dX1_make_32 rfl (lv_at hl 2 rfl) ?_
      refine lv_iconst (v := 0) hx hb dX1_make_33 (by decide) ?_
      refine sm_eqi (y := sm_bI false) (rfl) ?_
      refine sm_zast (f' := sm_fill (sm_fw G) (fun _ => false) 0 (k + 1)) (ws' := (sm_wM cZ m0 m1 m2 m3 m4 m5 m6 err (sm_fb V) (sm_fb S) (sm_fo M) (sm_fl M) (sm_fill (sm_fw O) (bt v) 0 (k + 1)) (sm_fill (sm_fw G) (fun _ => false) 0 (k + 1)))) hx hb hK hP hD hS 6 0 rfl rfl (vp_in_nI (n := k) (by omega) (by decide)) dX1_make_34 (by rw [nI_clamp (by omega)]; exact sm_fillS0 (sm_fw G) (fun _ => false) k) rfl (fun H locs hP hD hS => ?_)
      refine lv_iinc (k := 2) (v := nI (k + 1)) (lv' := [(2, .int (nI (k + 1))), (0, .ref m0), (1, .int v)]) hx hb dX1_make_35 hl rfl (sm_inc k) (by decide) rfl (fun ls hl => ?_)
      refine lv_goto (tgt := 2) hx hb dX1_make_38 rfl ?_
      exact ih _ _ _ (lv_sub hl [1, 2, 0] rfl) (sm_cP (rfl) hP) (sm_cD (rfl) hD) hS
set_option maxHeartbeats 4000000 in
set_option maxRecDepth 100000 in
theorem c_lowest (l : Launch) (D : va_G) (cZ : ClassId) (m0 m1 m2 m3 m4 m5 m6 : Nat) (err : Int32) (V S M : Nat → Int32) (O G : Int32) (r : Nat) (hr : r < 16) : sm_C l yX1_lowest wsX1_lowest ({ frames := 1, cells := 0, slots := 0, locals := 22 } : Room) D vwCl [(cZ, .boolean)] [.ref m0, .int (nI r)] (sm_wM cZ m0 m1 m2 m3 m4 m5 m6 err (sm_fb V) (sm_fb S) (sm_fo M) (sm_fl M) (sm_fw O) (sm_fw G)) (some (.int (nI (sm_tz (S r))))) (sm_wM cZ m0 m1 m2 m3 m4 m5 m6 err (sm_fb V) (sm_fb S) (sm_fo M) (sm_fl M) (sm_fw O) (sm_fw G)) := by
  refine sm_start (cc := cX1_lowest) (maxL := 3) (ret := some .int) (lv := [(0, .ref m0), (1, .int (nI r))]) (by decide) rfl (Nat.le_of_ble_eq_true rfl) rfl ?_
  intro p e s m below meth c hx hb hrt hts hown hlocks hml hin hK hP hD hS hA ls hl
  have hw := sm_hw hts
  have ht := sm_tz_le (S r)
  refine lv_iconst (v := 0) hx hb dX1_lowest_0 (by decide) ?_
  refine lv_istore_n (lv' := [(2, .int 0), (0, .ref m0), (1, .int (nI r))]) hx hb dX1_lowest_1 rfl hl (by decide) rfl (fun ls hl => ?_)
  refine sm_loopW (nL := 3) (lv := fun k => [(0, .ref m0), (1, .int (nI r)), (2, .int (nI k))]) (w := fun k => (sm_wM cZ m0 m1 m2 m3 m4 m5 m6 err (sm_fb V) (sm_fb S) (sm_fo M) (sm_fl M) (sm_fw O) (sm_fw G))) (sm_tz (S r)) (fun H locs ls hl hP hD hS => ?_) (fun k hk ih H locs ls hl hP hD hS => ?_) (lv_sub hl [1, 2, 0] rfl) (sm_cP (rfl) hP) (sm_cD (rfl) hD) hS
  · have hl : lv_has ls 3 [(0, .ref m0), (1, .int (nI r)), (2, .int (nI (sm_tz (S r))))] := hl
    have hP : va_P D vwCl (sm_wM cZ m0 m1 m2 m3 m4 m5 m6 err (sm_fb V) (sm_fb S) (sm_fo M) (sm_fl M) (sm_fw O) (sm_fw G)) H := hP
    have hD : va_D _ (sm_wM cZ m0 m1 m2 m3 m4 m5 m6 err (sm_fb V) (sm_fb S) (sm_fo M) (sm_fl M) (sm_fw O) (sm_fw G)) := hD
    refine lv_iload_n hx hb dX1_lowest_2 rfl (lv_at hl 2 rfl) ?_
    refine lv_bipush (v := 32) hx hb dX1_lowest_3 (by decide) ?_
    refine lv_icmp_ge (tgt := 23) hx hb dX1_lowest_5 rfl (fun h5 => ?_) (fun h5 => ?_)
    · refine lv_iload_n hx hb dX1_lowest_23 rfl (lv_at hl 2 rfl) ?_
      exact sm_iret hx hb hrt hlocks hS hP hD dX1_lowest_24
    · refine lv_aload_n hx hb dX1_lowest_8 rfl (lv_at hl 0 rfl) ?_
      refine lv_iload_n hx hb dX1_lowest_9 rfl (lv_at hl 1 rfl) ?_
      refine lv_iload_n hx hb dX1_lowest_10 rfl (lv_at hl 2 rfl) ?_
      refine sm_callV (C := RX1) (As := [.int (nI r), .int (nI (sm_tz (S r)))]) (rest := []) (wr := []) (wn := (sm_wM cZ m0 m1 m2 m3 m4 m5 m6 err (sm_fb V) (sm_fb S) (sm_fo M) (sm_fl M) (sm_fw O) (sm_fw G))) (st1 := [.int (sm_bI (bt (S r) (sm_tz (S r))))]) ⟨hx, hb, hml, hown, hts⟩ (c_un l D cZ m0 m1 m2 m3 m4 m5 m6 err (sm_fb V) (sm_fo M) (sm_fl M) (sm_fw O) (sm_fw G) S r (sm_tz (S r)) (by omega) (sm_nle32 ht h5)) (cwV 2 hts (sm_gV (i1 := 285) (i2 := 286) (i3 := 353) (i4 := 2) (i5 := 287) rfl rfl rfl rfl rfl) rfl rfl rfl (by decide +kernel) ⟨Nat.le_of_ble_eq_true rfl, Nat.le_of_ble_eq_true rfl⟩) hK [0] rfl hP hD hS hA 0 rfl rfl [0, 1, 2, 3, 4, 5, 6] [] rfl rfl (by decide) (by decide) (by decide) rfl hl.1 rfl (Nat.le_of_ble_eq_true rfl) dX1_lowest_11 ⟨Nat.le_of_ble_eq_true rfl, Nat.le_of_ble_eq_true rfl⟩ rfl rfl (fun H locs hP hD hS => ?_)
      refine lv_if_ne (tgt := 23) hx hb dX1_lowest_14 rfl (fun _ => ?_) (fun z => absurd z (sm_bn1 (sm_tz_at (sm_nle32 ht h5))))
      refine lv_iload_n hx hb dX1_lowest_23 rfl (lv_at hl 2 rfl) ?_
      exact sm_iret hx hb hrt hlocks hS hP hD dX1_lowest_24
  · have hl : lv_has ls 3 [(0, .ref m0), (1, .int (nI r)), (2, .int (nI k))] := hl
    have hP : va_P D vwCl (sm_wM cZ m0 m1 m2 m3 m4 m5 m6 err (sm_fb V) (sm_fb S) (sm_fo M) (sm_fl M) (sm_fw O) (sm_fw G)) H := hP
    have hD : va_D _ (sm_wM cZ m0 m1 m2 m3 m4 m5 m6 err (sm_fb V) (sm_fb S) (sm_fo M) (sm_fl M) (sm_fw O) (sm_fw G)) := hD
    refine lv_iload_n hx hb dX1_lowest_2 rfl (lv_at hl 2 rfl) ?_
    refine lv_bipush (v := 32) hx hb dX1_lowest_3 (by decide) ?_
    refine lv_icmp_ge (tgt := 23) hx hb dX1_lowest_5 rfl (fun z => absurd z (nI_ge (b := 32) (Nat.lt_of_lt_of_le hk ht) (by decide))) (fun _ => ?_)
    refine lv_aload_n hx hb dX1_lowest_8 rfl (lv_at hl 0 rfl) ?_
    refine lv_iload_n hx hb dX1_lowest_9 rfl (lv_at hl 1 rfl) ?_
    refine lv_iload_n hx hb dX1_lowest_10 rfl (lv_at hl 2 rfl) ?_
    refine sm_callV (C := RX1) (As := [.int (nI r), .int (nI k)]) (rest := []) (wr := []) (wn := (sm_wM cZ m0 m1 m2 m3 m4 m5 m6 err (sm_fb V) (sm_fb S) (sm_fo M) (sm_fl M) (sm_fw O) (sm_fw G))) (st1 := [.int (sm_bI (bt (S r) k))]) ⟨hx, hb, hml, hown, hts⟩ (c_un l D cZ m0 m1 m2 m3 m4 m5 m6 err (sm_fb V) (sm_fo M) (sm_fl M) (sm_fw O) (sm_fw G) S r k (by omega) (by omega)) (cwV 2 hts (sm_gV (i1 := 285) (i2 := 286) (i3 := 353) (i4 := 2) (i5 := 287) rfl rfl rfl rfl rfl) rfl rfl rfl (by decide +kernel) ⟨Nat.le_of_ble_eq_true rfl, Nat.le_of_ble_eq_true rfl⟩) hK [0] rfl hP hD hS hA 0 rfl rfl [0, 1, 2, 3, 4, 5, 6] [] rfl rfl (by decide) (by decide) (by decide) rfl hl.1 rfl (Nat.le_of_ble_eq_true rfl) dX1_lowest_11 ⟨Nat.le_of_ble_eq_true rfl, Nat.le_of_ble_eq_true rfl⟩ rfl rfl (fun H locs hP hD hS => ?_)
    refine lv_if_ne (tgt := 23) hx hb dX1_lowest_14 rfl (fun z => absurd (sm_bn0 (sm_tz_lt hk)) z) (fun _ => ?_)
    refine lv_iinc (k := 2) (v := nI (k + 1)) (lv' := [(2, .int (nI (k + 1))), (0, .ref m0), (1, .int (nI r))]) hx hb dX1_lowest_17 hl rfl (sm_inc k) (by decide) rfl (fun ls hl => ?_)
    refine lv_goto (tgt := 2) hx hb dX1_lowest_20 rfl ?_
    exact ih _ _ _ (lv_sub hl [1, 2, 0] rfl) (sm_cP (rfl) hP) (sm_cD (rfl) hD) hS
set_option maxHeartbeats 4000000 in
set_option maxRecDepth 100000 in
theorem c_noughts (l : Launch) (D : va_G) (cZ : ClassId) (m0 m1 m2 m3 m4 m5 m6 : Nat) (err : Int32) (V S M : Nat → Int32) (O G : Int32) (r : Nat) (hr : r < 16) : sm_C l yX1_noughts wsX1_noughts ({ frames := 1, cells := 0, slots := 0, locals := 22 } : Room) D vwCl [(cZ, .boolean)] [.ref m0, .int (nI r)] (sm_wM cZ m0 m1 m2 m3 m4 m5 m6 err (sm_fb V) (sm_fb S) (sm_fo M) (sm_fl M) (sm_fw O) (sm_fw G)) (some (.int (nI (sm_tz (V r ||| S r))))) (sm_wM cZ m0 m1 m2 m3 m4 m5 m6 err (sm_fb V) (sm_fb S) (sm_fo M) (sm_fl M) (sm_fw O) (sm_fw G)) := by
  refine sm_start (cc := cX1_noughts) (maxL := 3) (ret := some .int) (lv := [(0, .ref m0), (1, .int (nI r))]) (by decide) rfl (Nat.le_of_ble_eq_true rfl) rfl ?_
  intro p e s m below meth c hx hb hrt hts hown hlocks hml hin hK hP hD hS hA ls hl
  have hw := sm_hw hts
  have ht := sm_tz_le (V r ||| S r)
  refine lv_iconst (v := 0) hx hb dX1_noughts_0 (by decide) ?_
  refine lv_istore_n (lv' := [(2, .int 0), (0, .ref m0), (1, .int (nI r))]) hx hb dX1_noughts_1 rfl hl (by decide) rfl (fun ls hl => ?_)
  refine sm_loopW (nL := 3) (lv := fun k => [(0, .ref m0), (1, .int (nI r)), (2, .int (nI k))]) (w := fun k => (sm_wM cZ m0 m1 m2 m3 m4 m5 m6 err (sm_fb V) (sm_fb S) (sm_fo M) (sm_fl M) (sm_fw O) (sm_fw G))) (sm_tz (V r ||| S r)) (fun H locs ls hl hP hD hS => ?_) (fun k hk ih H locs ls hl hP hD hS => ?_) (lv_sub hl [1, 2, 0] rfl) (sm_cP (rfl) hP) (sm_cD (rfl) hD) hS
  · have hl : lv_has ls 3 [(0, .ref m0), (1, .int (nI r)), (2, .int (nI (sm_tz (V r ||| S r))))] := hl
    have hP : va_P D vwCl (sm_wM cZ m0 m1 m2 m3 m4 m5 m6 err (sm_fb V) (sm_fb S) (sm_fo M) (sm_fl M) (sm_fw O) (sm_fw G)) H := hP
    have hD : va_D _ (sm_wM cZ m0 m1 m2 m3 m4 m5 m6 err (sm_fb V) (sm_fb S) (sm_fo M) (sm_fl M) (sm_fw O) (sm_fw G)) := hD
    refine lv_iload_n hx hb dX1_noughts_2 rfl (lv_at hl 2 rfl) ?_
    refine lv_bipush (v := 32) hx hb dX1_noughts_3 (by decide) ?_
    refine lv_icmp_ge (tgt := 32) hx hb dX1_noughts_5 rfl (fun h5 => ?_) (fun h5 => ?_)
    · refine lv_iload_n hx hb dX1_noughts_32 rfl (lv_at hl 2 rfl) ?_
      exact sm_iret hx hb hrt hlocks hS hP hD dX1_noughts_33
    · refine lv_aload_n hx hb dX1_noughts_8 rfl (lv_at hl 0 rfl) ?_
      refine lv_iload_n hx hb dX1_noughts_9 rfl (lv_at hl 1 rfl) ?_
      refine lv_iload_n hx hb dX1_noughts_10 rfl (lv_at hl 2 rfl) ?_
      refine sm_callV (C := RX1) (As := [.int (nI r), .int (nI (sm_tz (V r ||| S r)))]) (rest := []) (wr := []) (wn := (sm_wM cZ m0 m1 m2 m3 m4 m5 m6 err (sm_fb V) (sm_fb S) (sm_fo M) (sm_fl M) (sm_fw O) (sm_fw G))) (st1 := [.int (sm_bI (bt (S r) (sm_tz (V r ||| S r))))]) ⟨hx, hb, hml, hown, hts⟩ (c_un l D cZ m0 m1 m2 m3 m4 m5 m6 err (sm_fb V) (sm_fo M) (sm_fl M) (sm_fw O) (sm_fw G) S r (sm_tz (V r ||| S r)) (by omega) (sm_nle32 ht h5)) (cwV 2 hts (sm_gV (i1 := 285) (i2 := 286) (i3 := 353) (i4 := 2) (i5 := 287) rfl rfl rfl rfl rfl) rfl rfl rfl (by decide +kernel) ⟨Nat.le_of_ble_eq_true rfl, Nat.le_of_ble_eq_true rfl⟩) hK [0] rfl hP hD hS hA 0 rfl rfl [0, 1, 2, 3, 4, 5, 6] [] rfl rfl (by decide) (by decide) (by decide) rfl hl.1 rfl (Nat.le_of_ble_eq_true rfl) dX1_noughts_11 ⟨Nat.le_of_ble_eq_true rfl, Nat.le_of_ble_eq_true rfl⟩ rfl rfl (fun H locs hP hD hS => ?_)
      refine sm_ifb_ne (tgt := 32) hx hb dX1_noughts_14 rfl (fun h14 => ?_) (fun h14 => ?_)
      · refine lv_iload_n hx hb dX1_noughts_32 rfl (lv_at hl 2 rfl) ?_
        exact sm_iret hx hb hrt hlocks hS hP hD dX1_noughts_33
      · refine lv_aload_n hx hb dX1_noughts_17 rfl (lv_at hl 0 rfl) ?_
        refine lv_iload_n hx hb dX1_noughts_18 rfl (lv_at hl 1 rfl) ?_
        refine lv_iload_n hx hb dX1_noughts_19 rfl (lv_at hl 2 rfl) ?_
        refine sm_callV (C := RX1) (As := [.int (nI r), .int (nI (sm_tz (V r ||| S r)))]) (rest := []) (wr := []) (wn := (sm_wM cZ m0 m1 m2 m3 m4 m5 m6 err (sm_fb V) (sm_fb S) (sm_fo M) (sm_fl M) (sm_fw O) (sm_fw G))) (st1 := [.int (sm_bI (bt (V r) (sm_tz (V r ||| S r))))]) ⟨hx, hb, hml, hown, hts⟩ (c_is l D cZ m0 m1 m2 m3 m4 m5 m6 err (sm_fb S) (sm_fo M) (sm_fl M) (sm_fw O) (sm_fw G) V r (sm_tz (V r ||| S r)) (by omega) (sm_nle32 ht h5)) (cwV 2 hts (sm_gV (i1 := 291) (i2 := 292) (i3 := 355) (i4 := 2) (i5 := 293) rfl rfl rfl rfl rfl) rfl rfl rfl (by decide +kernel) ⟨Nat.le_of_ble_eq_true rfl, Nat.le_of_ble_eq_true rfl⟩) hK [0] rfl hP hD hS hA 0 rfl rfl [0, 1, 2, 3, 4, 5, 6] [] rfl rfl (by decide) (by decide) (by decide) rfl hl.1 rfl (Nat.le_of_ble_eq_true rfl) dX1_noughts_20 ⟨Nat.le_of_ble_eq_true rfl, Nat.le_of_ble_eq_true rfl⟩ rfl rfl (fun H locs hP hD hS => ?_)
        refine lv_if_ne (tgt := 32) hx hb dX1_noughts_23 rfl (fun _ => ?_) (fun z => absurd z (sm_bn1 (sm_ora (sm_nle32 ht h5) h14)))
        refine lv_iload_n hx hb dX1_noughts_32 rfl (lv_at hl 2 rfl) ?_
        exact sm_iret hx hb hrt hlocks hS hP hD dX1_noughts_33
  · have hl : lv_has ls 3 [(0, .ref m0), (1, .int (nI r)), (2, .int (nI k))] := hl
    have hP : va_P D vwCl (sm_wM cZ m0 m1 m2 m3 m4 m5 m6 err (sm_fb V) (sm_fb S) (sm_fo M) (sm_fl M) (sm_fw O) (sm_fw G)) H := hP
    have hD : va_D _ (sm_wM cZ m0 m1 m2 m3 m4 m5 m6 err (sm_fb V) (sm_fb S) (sm_fo M) (sm_fl M) (sm_fw O) (sm_fw G)) := hD
    refine lv_iload_n hx hb dX1_noughts_2 rfl (lv_at hl 2 rfl) ?_
    refine lv_bipush (v := 32) hx hb dX1_noughts_3 (by decide) ?_
    refine lv_icmp_ge (tgt := 32) hx hb dX1_noughts_5 rfl (fun z => absurd z (nI_ge (b := 32) (Nat.lt_of_lt_of_le hk ht) (by decide))) (fun _ => ?_)
    refine lv_aload_n hx hb dX1_noughts_8 rfl (lv_at hl 0 rfl) ?_
    refine lv_iload_n hx hb dX1_noughts_9 rfl (lv_at hl 1 rfl) ?_
    refine lv_iload_n hx hb dX1_noughts_10 rfl (lv_at hl 2 rfl) ?_
    refine sm_callV (C := RX1) (As := [.int (nI r), .int (nI k)]) (rest := []) (wr := []) (wn := (sm_wM cZ m0 m1 m2 m3 m4 m5 m6 err (sm_fb V) (sm_fb S) (sm_fo M) (sm_fl M) (sm_fw O) (sm_fw G))) (st1 := [.int (sm_bI (bt (S r) k))]) ⟨hx, hb, hml, hown, hts⟩ (c_un l D cZ m0 m1 m2 m3 m4 m5 m6 err (sm_fb V) (sm_fo M) (sm_fl M) (sm_fw O) (sm_fw G) S r k (by omega) (by omega)) (cwV 2 hts (sm_gV (i1 := 285) (i2 := 286) (i3 := 353) (i4 := 2) (i5 := 287) rfl rfl rfl rfl rfl) rfl rfl rfl (by decide +kernel) ⟨Nat.le_of_ble_eq_true rfl, Nat.le_of_ble_eq_true rfl⟩) hK [0] rfl hP hD hS hA 0 rfl rfl [0, 1, 2, 3, 4, 5, 6] [] rfl rfl (by decide) (by decide) (by decide) rfl hl.1 rfl (Nat.le_of_ble_eq_true rfl) dX1_noughts_11 ⟨Nat.le_of_ble_eq_true rfl, Nat.le_of_ble_eq_true rfl⟩ rfl rfl (fun H locs hP hD hS => ?_)
    refine lv_if_ne (tgt := 32) hx hb dX1_noughts_14 rfl (fun z => absurd (sm_bn0 (sm_orb hk).2) z) (fun _ => ?_)
    refine lv_aload_n hx hb dX1_noughts_17 rfl (lv_at hl 0 rfl) ?_
    refine lv_iload_n hx hb dX1_noughts_18 rfl (lv_at hl 1 rfl) ?_
    refine lv_iload_n hx hb dX1_noughts_19 rfl (lv_at hl 2 rfl) ?_
    refine sm_callV (C := RX1) (As := [.int (nI r), .int (nI k)]) (rest := []) (wr := []) (wn := (sm_wM cZ m0 m1 m2 m3 m4 m5 m6 err (sm_fb V) (sm_fb S) (sm_fo M) (sm_fl M) (sm_fw O) (sm_fw G))) (st1 := [.int (sm_bI (bt (V r) k))]) ⟨hx, hb, hml, hown, hts⟩ (c_is l D cZ m0 m1 m2 m3 m4 m5 m6 err (sm_fb S) (sm_fo M) (sm_fl M) (sm_fw O) (sm_fw G) V r k (by omega) (by omega)) (cwV 2 hts (sm_gV (i1 := 291) (i2 := 292) (i3 := 355) (i4 := 2) (i5 := 293) rfl rfl rfl rfl rfl) rfl rfl rfl (by decide +kernel) ⟨Nat.le_of_ble_eq_true rfl, Nat.le_of_ble_eq_true rfl⟩) hK [0] rfl hP hD hS hA 0 rfl rfl [0, 1, 2, 3, 4, 5, 6] [] rfl rfl (by decide) (by decide) (by decide) rfl hl.1 rfl (Nat.le_of_ble_eq_true rfl) dX1_noughts_20 ⟨Nat.le_of_ble_eq_true rfl, Nat.le_of_ble_eq_true rfl⟩ rfl rfl (fun H locs hP hD hS => ?_)
    refine lv_if_ne (tgt := 32) hx hb dX1_noughts_23 rfl (fun z => absurd (sm_bn0 (sm_orb hk).1) z) (fun _ => ?_)
    refine lv_iinc (k := 2) (v := nI (k + 1)) (lv' := [(2, .int (nI (k + 1))), (0, .ref m0), (1, .int (nI r))]) hx hb dX1_noughts_26 hl rfl (sm_inc k) (by decide) rfl (fun ls hl => ?_)
    refine lv_goto (tgt := 2) hx hb dX1_noughts_29 rfl ?_
    exact ih _ _ _ (lv_sub hl [1, 2, 0] rfl) (sm_cP (rfl) hP) (sm_cD (rfl) hD) hS
set_option maxHeartbeats 4000000 in
set_option maxRecDepth 100000 in
theorem c_from (l : Launch) (D : va_G) (cZ : ClassId) (m0 m1 m2 m3 m4 m5 m6 : Nat) (err : Int32) (V S M : Nat → Int32) (O G : Int32) (n : Nat) (hn : n < 2 ^ 31) : sm_C l yX1_from wsX1_from ({ frames := 0, cells := 0, slots := 0, locals := 0 } : Room) D vwCl [(cZ, .boolean)] [.ref m0, .int (nI n)] (sm_wM cZ m0 m1 m2 m3 m4 m5 m6 err (sm_fb V) (sm_fb S) (sm_fo M) (sm_fl M) (sm_fw O) (sm_fw G)) none (sm_wM cZ m0 m1 m2 m3 m4 m5 m6 err (sm_fb V) (sm_fb S) (sm_fo M) (sm_fl M) (sm_fw O) (sm_fw (sm_fr n))) := by
  refine sm_start (cc := cX1_from) (maxL := 3) (ret := none) (lv := [(0, .ref m0), (1, .int (nI n))]) (by decide) rfl (Nat.le_of_ble_eq_true rfl) rfl ?_
  intro p e s m below meth c hx hb hrt hts hown hlocks hml hin hK hP hD hS hA ls hl
  have hw := sm_hw hts
  refine lv_iconst (v := 0) hx hb dX1_from_0 (by decide) ?_
  refine lv_istore_n (lv' := [(2, .int 0), (0, .ref m0), (1, .int (nI n))]) hx hb dX1_from_1 rfl hl (by decide) rfl (fun ls hl => ?_)
  refine sm_loopW (nL := 3) (lv := fun k => [(0, .ref m0), (1, .int (nI n)), (2, .int (nI k))]) (w := fun k => (sm_wM cZ m0 m1 m2 m3 m4 m5 m6 err (sm_fb V) (sm_fb S) (sm_fo M) (sm_fl M) (sm_fw O) (sm_fill (sm_fw G) (fun i => decide (n ≤ i)) 0 k))) 32 (fun H locs ls hl hP hD hS => ?_) (fun k hk ih H locs ls hl hP hD hS => ?_) (lv_sub hl [1, 2, 0] rfl) (sm_cP (by simp only [sm_fill0]) hP) (sm_cD (by simp only [sm_fill0]) hD) hS
  · have hl : lv_has ls 3 [(0, .ref m0), (1, .int (nI n)), (2, .int (nI 32))] := hl
    have hP : va_P D vwCl (sm_wM cZ m0 m1 m2 m3 m4 m5 m6 err (sm_fb V) (sm_fb S) (sm_fo M) (sm_fl M) (sm_fw O) (sm_fill (sm_fw G) (fun i => decide (n ≤ i)) 0 32)) H := hP
    have hD : va_D _ (sm_wM cZ m0 m1 m2 m3 m4 m5 m6 err (sm_fb V) (sm_fb S) (sm_fo M) (sm_fl M) (sm_fw O) (sm_fill (sm_fw G) (fun i => decide (n ≤ i)) 0 32)) := hD
    refine lv_iload_n hx hb dX1_from_2 rfl (lv_at hl 2 rfl) ?_
    refine lv_bipush (v := 32) hx hb dX1_from_3 (by decide) ?_
    refine lv_icmp_ge (tgt := 30) hx hb dX1_from_5 rfl (fun _ => ?_) (fun z => absurd (by decide) z)
    exact sm_vret hx hb hrt hlocks hS (sm_cP (by rw [sm_fill_w]; rfl) hP) (sm_cD (by rw [sm_fill_w]; rfl) hD) dX1_from_30
  · have hl : lv_has ls 3 [(0, .ref m0), (1, .int (nI n)), (2, .int (nI k))] := hl
    have hP : va_P D vwCl (sm_wM cZ m0 m1 m2 m3 m4 m5 m6 err (sm_fb V) (sm_fb S) (sm_fo M) (sm_fl M) (sm_fw O) (sm_fill (sm_fw G) (fun i => decide (n ≤ i)) 0 k)) H := hP
    have hD : va_D _ (sm_wM cZ m0 m1 m2 m3 m4 m5 m6 err (sm_fb V) (sm_fb S) (sm_fo M) (sm_fl M) (sm_fw O) (sm_fill (sm_fw G) (fun i => decide (n ≤ i)) 0 k)) := hD
    refine lv_iload_n hx hb dX1_from_2 rfl (lv_at hl 2 rfl) ?_
    refine lv_bipush (v := 32) hx hb dX1_from_3 (by decide) ?_
    refine lv_icmp_ge (tgt := 30) hx hb dX1_from_5 rfl (fun z => absurd z (nI_ge (b := 32) hk (by decide))) (fun _ => ?_)
    refine lv_aload_n hx hb dX1_from_8 rfl (lv_at hl 0 rfl) ?_
    refine va_get (D := D) (ci := 1) (v := .ref m6) (C := RX1) (T := TX1) (N := 7) hx hb hts inX1 hown hK hP 0 rfl rfl 6 (by decide) (hw 238 rfl) (fun _ h9 => h9) rfl dX1_from_9 ?_
    refine lv_iload_n hx hb dX1_from_12 rfl (lv_at hl 2 rfl) ?_
    refine lv_iload_n hx hb dX1_from_13 rfl (lv_at hl 2 rfl) ?_
    refine lv_iload_n hx hb dX1_from_14 rfl (lv_at hl 1 rfl) ?_
    refine lv_icmp_lt (tgt := 22) hx hb dX1_from_15 rfl (fun h15 => ?_) (fun h15 => ?_)
    · refine lv_iconst (v := 0) hx hb dX1_from_22 (by decide) ?_
      refine sm_eqi (y := sm_bI (decide (n ≤ k))) (sm_frf hn hk h15) ?_
      refine sm_zast (f' := sm_fill (sm_fw G) (fun i => decide (n ≤ i)) 0 (k + 1)) (ws' := (sm_wM cZ m0 m1 m2 m3 m4 m5 m6 err (sm_fb V) (sm_fb S) (sm_fo M) (sm_fl M) (sm_fw O) (sm_fill (sm_fw G) (fun i => decide (n ≤ i)) 0 (k + 1)))) hx hb hK hP hD hS 6 0 rfl rfl (vp_in_nI (n := k) (by omega) (by decide)) dX1_from_23 (by rw [nI_clamp (by omega)]; exact sm_fillS0 (sm_fw G) (fun i => decide (n ≤ i)) k) rfl (fun H locs hP hD hS => ?_)
      refine lv_iinc (k := 2) (v := nI (k + 1)) (lv' := [(2, .int (nI (k + 1))), (0, .ref m0), (1, .int (nI n))]) hx hb dX1_from_24 hl rfl (sm_inc k) (by decide) rfl (fun ls hl => ?_)
      refine lv_goto (tgt := 2) hx hb dX1_from_27 rfl ?_
      exact ih _ _ _ (lv_sub hl [1, 2, 0] rfl) (sm_cP (rfl) hP) (sm_cD (rfl) hD) hS
    · refine lv_iconst (v := 1) hx hb dX1_from_18 (by decide) ?_
      refine lv_goto (tgt := 23) hx hb dX1_from_19 rfl ?_
      refine sm_eqi (y := sm_bI (decide (n ≤ k))) (sm_frt hn hk h15) ?_
      refine sm_zast (f' := sm_fill (sm_fw G) (fun i => decide (n ≤ i)) 0 (k + 1)) (ws' := (sm_wM cZ m0 m1 m2 m3 m4 m5 m6 err (sm_fb V) (sm_fb S) (sm_fo M) (sm_fl M) (sm_fw O) (sm_fill (sm_fw G) (fun i => decide (n ≤ i)) 0 (k + 1)))) hx hb hK hP hD hS 6 0 rfl rfl (vp_in_nI (n := k) (by omega) (by decide)) dX1_from_23 (by rw [nI_clamp (by omega)]; exact sm_fillS0 (sm_fw G) (fun i => decide (n ≤ i)) k) rfl (fun H locs hP hD hS => ?_)
      refine lv_iinc (k := 2) (v := nI (k + 1)) (lv' := [(2, .int (nI (k + 1))), (0, .ref m0), (1, .int (nI n))]) hx hb dX1_from_24 hl rfl (sm_inc k) (by decide) rfl (fun ls hl => ?_)
      refine lv_goto (tgt := 2) hx hb dX1_from_27 rfl ?_
      exact ih _ _ _ (lv_sub hl [1, 2, 0] rfl) (sm_cP (rfl) hP) (sm_cD (rfl) hD) hS
end
section
set_option maxHeartbeats 4000000 in
set_option maxRecDepth 100000 in
theorem c_mset (l : Launch) (D : va_G) (cZ : ClassId) (m0 m1 m2 m3 m4 m5 m6 : Nat) (err : Int32) (V S M : Nat → Int32) (O G : Int32) (r : Nat) (hr : r < 16) (v n : Int32) : sm_C l yX1_set wsX1_set ({ frames := 1, cells := 0, slots := 0, locals := 22 } : Room) D vwCl [(cZ, .boolean)] [.ref m0, .int (nI r), .int v, .int n] (sm_wM cZ m0 m1 m2 m3 m4 m5 m6 err (sm_fb V) (sm_fb S) (sm_fo M) (sm_fl M) (sm_fw O) (sm_fw G)) none (sm_wM cZ m0 m1 m2 m3 m4 m5 m6 0 (sm_fb (upd V r v)) (sm_fb (upd S r n)) (sm_fo M) (sm_fl M) (sm_fw v) (sm_fw n)) := by
  refine sm_start (cc := cX1_set) (maxL := 5) (ret := none) (lv := [(0, .ref m0), (1, .int (nI r)), (2, .int v), (3, .int n)]) (by decide) rfl (Nat.le_of_ble_eq_true rfl) rfl ?_
  intro p e s m below meth c hx hb hrt hts hown hlocks hml hin hK hP hD hS hA ls hl
  have hw := sm_hw hts
  refine lv_aload_n hx hb dX1_set_0 rfl (lv_at hl 0 rfl) ?_
  refine lv_iload_n hx hb dX1_set_1 rfl (lv_at hl 1 rfl) ?_
  refine sm_callS (As := [.int (nI r)]) (rest := [.ref m0]) (wr := (sm_wM cZ m0 m1 m2 m3 m4 m5 m6 err (sm_fb V) (sm_fb S) (sm_fo M) (sm_fl M) (sm_fw O) (sm_fw G))) (wn := (sm_wM cZ m0 m1 m2 m3 m4 m5 m6 err (sm_fb V) (sm_fb S) (sm_fo M) (sm_fl M) (sm_fw O) (sm_fw G))) (st1 := [.int (sm_bI false), .ref m0]) ⟨hx, hb, hml, hown, hts⟩ (c_none_f l D r (by omega)) (va_cwS 1 hts (sm_gS (i1 := 263) (i2 := 264) (i4 := 2) (i5 := 265) rfl rfl rfl rfl) rfl rfl rfl (by decide +kernel) ⟨Nat.le_of_ble_eq_true rfl, Nat.le_of_ble_eq_true rfl⟩) hK [] rfl hP hD hS hA [] [0, 1, 2, 3, 4, 5, 6] rfl rfl (by decide) (by decide) (by decide) rfl hl.1 rfl (Nat.le_of_ble_eq_true rfl) dX1_set_2 ⟨Nat.le_of_ble_eq_true rfl, Nat.le_of_ble_eq_true rfl⟩ rfl rfl (fun H locs hP hD hS => ?_)
  refine lv_iconst (v := 1) hx hb dX1_set_5 (by decide) ?_
  refine sm_callV (C := RX1) (As := [.int (sm_bI false), .int 1]) (rest := []) (wr := []) (wn := (sm_wM cZ m0 m1 m2 m3 m4 m5 m6 0 (sm_fb V) (sm_fb S) (sm_fo M) (sm_fl M) (sm_fw O) (sm_fw G))) (st1 := [.int (sm_bI false)]) ⟨hx, hb, hml, hown, hts⟩ (c_fails_f l D cZ m0 m1 m2 m3 m4 m5 m6 err V S M O G 1) (cwV 2 hts (sm_gV (i1 := 266) (i2 := 267) (i3 := 348) (i4 := 2) (i5 := 268) rfl rfl rfl rfl rfl) rfl rfl rfl (by decide +kernel) ⟨Nat.le_of_ble_eq_true rfl, Nat.le_of_ble_eq_true rfl⟩) hK [0] rfl hP hD hS hA 0 rfl rfl [0, 1, 2, 3, 4, 5, 6] [] rfl rfl (by decide) (by decide) (by decide) rfl hl.1 rfl (Nat.le_of_ble_eq_true rfl) dX1_set_6 ⟨Nat.le_of_ble_eq_true rfl, Nat.le_of_ble_eq_true rfl⟩ rfl rfl (fun H locs hP hD hS => ?_)
  refine lv_if_eq (tgt := 13) hx hb dX1_set_9 rfl (fun _ => ?_) (fun z => absurd (by decide) z)
  refine lv_aload_n hx hb dX1_set_13 rfl (lv_at hl 0 rfl) ?_
  refine lv_iload_n hx hb dX1_set_14 rfl (lv_at hl 2 rfl) ?_
  refine sm_callV (C := RX1) (As := [.int v]) (rest := []) (wr := []) (wn := (sm_wM cZ m0 m1 m2 m3 m4 m5 m6 0 (sm_fb V) (sm_fb S) (sm_fo M) (sm_fl M) (sm_fw v) (sm_fw 0))) (st1 := []) ⟨hx, hb, hml, hown, hts⟩ (c_make l D cZ m0 m1 m2 m3 m4 m5 m6 0 V S M O G v) (cwV 1 hts (sm_gV (i1 := 269) (i2 := 270) (i3 := 349) (i4 := 2) (i5 := 271) rfl rfl rfl rfl rfl) rfl rfl rfl (by decide +kernel) ⟨Nat.le_of_ble_eq_true rfl, Nat.le_of_ble_eq_true rfl⟩) hK [0] rfl hP hD hS hA 0 rfl rfl [0, 1, 2, 3, 4, 5, 6] [] rfl rfl (by decide) (by decide) (by decide) rfl hl.1 rfl (Nat.le_of_ble_eq_true rfl) dX1_set_15 ⟨Nat.le_of_ble_eq_true rfl, Nat.le_of_ble_eq_true rfl⟩ rfl rfl (fun H locs hP hD hS => ?_)
  refine lv_iconst (v := 0) hx hb dX1_set_18 (by decide) ?_
  refine lv_istore (lv' := [(4, .int 0), (0, .ref m0), (1, .int (nI r)), (2, .int v), (3, .int n)]) hx hb dX1_set_19 hl (by decide) rfl (fun ls hl => ?_)
  refine sm_loopW (nL := 5) (lv := fun k => [(0, .ref m0), (1, .int (nI r)), (2, .int v), (3, .int n), (4, .int (nI k))]) (w := fun k => (sm_wM cZ m0 m1 m2 m3 m4 m5 m6 0 (sm_fb V) (sm_fb S) (sm_fo M) (sm_fl M) (sm_fw v) (sm_fill (sm_fw 0) (bt n) 0 k))) 32 (fun H locs ls hl hP hD hS => ?_) (fun k hk ih H locs ls hl hP hD hS => ?_) (lv_sub hl [1, 2, 3, 4, 0] rfl) (sm_cP (by simp only [sm_fill0]) hP) (sm_cD (by simp only [sm_fill0]) hD) hS
  · have hl : lv_has ls 5 [(0, .ref m0), (1, .int (nI r)), (2, .int v), (3, .int n), (4, .int (nI 32))] := hl
    have hP : va_P D vwCl (sm_wM cZ m0 m1 m2 m3 m4 m5 m6 0 (sm_fb V) (sm_fb S) (sm_fo M) (sm_fl M) (sm_fw v) (sm_fill (sm_fw 0) (bt n) 0 32)) H := hP
    have hD : va_D _ (sm_wM cZ m0 m1 m2 m3 m4 m5 m6 0 (sm_fb V) (sm_fb S) (sm_fo M) (sm_fl M) (sm_fw v) (sm_fill (sm_fw 0) (bt n) 0 32)) := hD
    refine lv_iload hx hb dX1_set_21 (lv_at hl 4 rfl) ?_
    refine lv_bipush (v := 32) hx hb dX1_set_23 (by decide) ?_
    refine lv_icmp_ge (tgt := 56) hx hb dX1_set_25 rfl (fun _ => ?_) (fun z => absurd (by decide) z)
    have hP : va_P D vwCl (sm_wM cZ m0 m1 m2 m3 m4 m5 m6 0 (sm_fb V) (sm_fb S) (sm_fo M) (sm_fl M) (sm_fw v) (sm_fw n)) H := sm_cP (by rw [sm_fill_w, sm_mkx (fun _ _ => rfl)]) hP
    have hD : va_D _ (sm_wM cZ m0 m1 m2 m3 m4 m5 m6 0 (sm_fb V) (sm_fb S) (sm_fo M) (sm_fl M) (sm_fw v) (sm_fw n)) := sm_cD (by rw [sm_fill_w, sm_mkx (fun _ _ => rfl)]) hD
    refine lv_aload_n hx hb dX1_set_56 rfl (lv_at hl 0 rfl) ?_
    refine lv_iload_n hx hb dX1_set_57 rfl (lv_at hl 1 rfl) ?_
    refine sm_callV (C := RX1) (As := [.int (nI r)]) (rest := []) (wr := []) (wn := (sm_wM cZ m0 m1 m2 m3 m4 m5 m6 0 (sm_fb (upd V r v)) (sm_fb (upd S r n)) (sm_fo M) (sm_fl M) (sm_fw v) (sm_fw n))) (st1 := []) ⟨hx, hb, hml, hown, hts⟩ (c_give l D cZ m0 m1 m2 m3 m4 m5 m6 0 V S M v n r (by omega)) (cwV 1 hts (sm_gV (i1 := 272) (i2 := 273) (i3 := 350) (i4 := 2) (i5 := 274) rfl rfl rfl rfl rfl) rfl rfl rfl (by decide +kernel) ⟨Nat.le_of_ble_eq_true rfl, Nat.le_of_ble_eq_true rfl⟩) hK [0] rfl hP hD hS hA 0 rfl rfl [0, 1, 2, 3, 4, 5, 6] [] rfl rfl (by decide) (by decide) (by decide) rfl hl.1 rfl (Nat.le_of_ble_eq_true rfl) dX1_set_58 ⟨Nat.le_of_ble_eq_true rfl, Nat.le_of_ble_eq_true rfl⟩ rfl rfl (fun H locs hP hD hS => ?_)
    exact sm_vret hx hb hrt hlocks hS hP hD dX1_set_61
  · have hl : lv_has ls 5 [(0, .ref m0), (1, .int (nI r)), (2, .int v), (3, .int n), (4, .int (nI k))] := hl
    have hP : va_P D vwCl (sm_wM cZ m0 m1 m2 m3 m4 m5 m6 0 (sm_fb V) (sm_fb S) (sm_fo M) (sm_fl M) (sm_fw v) (sm_fill (sm_fw 0) (bt n) 0 k)) H := hP
    have hD : va_D _ (sm_wM cZ m0 m1 m2 m3 m4 m5 m6 0 (sm_fb V) (sm_fb S) (sm_fo M) (sm_fl M) (sm_fw v) (sm_fill (sm_fw 0) (bt n) 0 k)) := hD
    refine lv_iload hx hb dX1_set_21 (lv_at hl 4 rfl) ?_
    refine lv_bipush (v := 32) hx hb dX1_set_23 (by decide) ?_
    refine lv_icmp_ge (tgt := 56) hx hb dX1_set_25 rfl (fun z => absurd z (nI_ge (b := 32) hk (by decide))) (fun _ => ?_)
    refine lv_aload_n hx hb dX1_set_28 rfl (lv_at hl 0 rfl) ?_
    refine va_get (D := D) (ci := 1) (v := .ref m6) (C := RX1) (T := TX1) (N := 7) hx hb hts inX1 hown hK hP 0 rfl rfl 6 (by decide) (hw 238 rfl) (fun _ h9 => h9) rfl dX1_set_29 ?_
    refine lv_iload hx hb dX1_set_32 (lv_at hl 4 rfl) ?_
    refine lv_iload_n hx hb dX1_set_34 rfl (lv_at hl 3 rfl) ?_
    refine lv_iload hx hb dX1_set_35 (lv_at hl 4 rfl) ?_
    refine lv_ishr hx hb dX1_set_37 ?_
    refine lv_iconst (v := 1) hx hb dX1_set_38 (by decide) ?_
    refine lv_iand hx hb dX1_set_39 ?_
    refine sm_eqi (y := sm_bI (bt n k)) (sm_tst n hk) ?_
    refine lv_iconst (v := 1) hx hb dX1_set_40 (by decide) ?_
    refine lv_icmp_ne (tgt := 48) hx hb dX1_set_41 rfl (fun h41 => ?_) (fun h41 => ?_)
    · refine lv_iconst (v := 0) hx hb dX1_set_48 (by decide) ?_
      refine sm_eqi (y := sm_bI (bt n k)) ((sm_b1f h41).symm) ?_
      refine sm_zast (f' := sm_fill (sm_fw 0) (bt n) 0 (k + 1)) (ws' := (sm_wM cZ m0 m1 m2 m3 m4 m5 m6 0 (sm_fb V) (sm_fb S) (sm_fo M) (sm_fl M) (sm_fw v) (sm_fill (sm_fw 0) (bt n) 0 (k + 1)))) hx hb hK hP hD hS 6 0 rfl rfl (vp_in_nI (n := k) (by omega) (by decide)) dX1_set_49 (by rw [nI_clamp (by omega)]; exact sm_fillS0 (sm_fw 0) (bt n) k) rfl (fun H locs hP hD hS => ?_)
      refine lv_iinc (k := 4) (v := nI (k + 1)) (lv' := [(4, .int (nI (k + 1))), (0, .ref m0), (1, .int (nI r)), (2, .int v), (3, .int n)]) hx hb dX1_set_50 hl rfl (sm_inc k) (by decide) rfl (fun ls hl => ?_)
      refine lv_goto (tgt := 21) hx hb dX1_set_53 rfl ?_
      exact ih _ _ _ (lv_sub hl [1, 2, 3, 4, 0] rfl) (sm_cP (rfl) hP) (sm_cD (rfl) hD) hS
    · refine lv_iconst (v := 1) hx hb dX1_set_44 (by decide) ?_
      refine lv_goto (tgt := 49) hx hb dX1_set_45 rfl ?_
      refine sm_eqi (y := sm_bI (bt n k)) (h41.symm) ?_
      refine sm_zast (f' := sm_fill (sm_fw 0) (bt n) 0 (k + 1)) (ws' := (sm_wM cZ m0 m1 m2 m3 m4 m5 m6 0 (sm_fb V) (sm_fb S) (sm_fo M) (sm_fl M) (sm_fw v) (sm_fill (sm_fw 0) (bt n) 0 (k + 1)))) hx hb hK hP hD hS 6 0 rfl rfl (vp_in_nI (n := k) (by omega) (by decide)) dX1_set_49 (by rw [nI_clamp (by omega)]; exact sm_fillS0 (sm_fw 0) (bt n) k) rfl (fun H locs hP hD hS => ?_)
      refine lv_iinc (k := 4) (v := nI (k + 1)) (lv' := [(4, .int (nI (k + 1))), (0, .ref m0), (1, .int (nI r)), (2, .int v), (3, .int n)]) hx hb dX1_set_50 hl rfl (sm_inc k) (by decide) rfl (fun ls hl => ?_)
      refine lv_goto (tgt := 21) hx hb dX1_set_53 rfl ?_
      exact ih _ _ _ (lv_sub hl [1, 2, 3, 4, 0] rfl) (sm_cP (rfl) hP) (sm_cD (rfl) hD) hS
set_option maxHeartbeats 4000000 in
set_option maxRecDepth 100000 in
theorem c_mset_x (l : Launch) (D : va_G) (cZ : ClassId) (m0 m1 m2 m3 m4 m5 m6 : Nat) (err : Int32) (V S M : Nat → Int32) (O G : Int32) (i : Int32) (hi : i < 0 ∨ 16 ≤ i) (v n : Int32) : sm_C l yX1_set wsX1_set ({ frames := 1, cells := 0, slots := 0, locals := 22 } : Room) D vwCl [(cZ, .boolean)] [.ref m0, .int i, .int v, .int n] (sm_wM cZ m0 m1 m2 m3 m4 m5 m6 err (sm_fb V) (sm_fb S) (sm_fo M) (sm_fl M) (sm_fw O) (sm_fw G)) none (sm_wM cZ m0 m1 m2 m3 m4 m5 m6 1 (sm_fb V) (sm_fb S) (sm_fo M) (sm_fl M) (sm_fw O) (sm_fw G)) := by
  refine sm_start (cc := cX1_set) (maxL := 5) (ret := none) (lv := [(0, .ref m0), (1, .int i), (2, .int v), (3, .int n)]) (by decide) rfl (Nat.le_of_ble_eq_true rfl) rfl ?_
  intro p e s m below meth c hx hb hrt hts hown hlocks hml hin hK hP hD hS hA ls hl
  have hw := sm_hw hts
  refine lv_aload_n hx hb dX1_set_0 rfl (lv_at hl 0 rfl) ?_
  refine lv_iload_n hx hb dX1_set_1 rfl (lv_at hl 1 rfl) ?_
  refine sm_callS (As := [.int i]) (rest := [.ref m0]) (wr := (sm_wM cZ m0 m1 m2 m3 m4 m5 m6 err (sm_fb V) (sm_fb S) (sm_fo M) (sm_fl M) (sm_fw O) (sm_fw G))) (wn := (sm_wM cZ m0 m1 m2 m3 m4 m5 m6 err (sm_fb V) (sm_fb S) (sm_fo M) (sm_fl M) (sm_fw O) (sm_fw G))) (st1 := [.int (sm_bI true), .ref m0]) ⟨hx, hb, hml, hown, hts⟩ (c_none_t l D i hi) (va_cwS 1 hts (sm_gS (i1 := 263) (i2 := 264) (i4 := 2) (i5 := 265) rfl rfl rfl rfl) rfl rfl rfl (by decide +kernel) ⟨Nat.le_of_ble_eq_true rfl, Nat.le_of_ble_eq_true rfl⟩) hK [] rfl hP hD hS hA [] [0, 1, 2, 3, 4, 5, 6] rfl rfl (by decide) (by decide) (by decide) rfl hl.1 rfl (Nat.le_of_ble_eq_true rfl) dX1_set_2 ⟨Nat.le_of_ble_eq_true rfl, Nat.le_of_ble_eq_true rfl⟩ rfl rfl (fun H locs hP hD hS => ?_)
  refine lv_iconst (v := 1) hx hb dX1_set_5 (by decide) ?_
  refine sm_callV (C := RX1) (As := [.int (sm_bI true), .int 1]) (rest := []) (wr := []) (wn := (sm_wM cZ m0 m1 m2 m3 m4 m5 m6 1 (sm_fb V) (sm_fb S) (sm_fo M) (sm_fl M) (sm_fw O) (sm_fw G))) (st1 := [.int (sm_bI true)]) ⟨hx, hb, hml, hown, hts⟩ (c_fails_t l D cZ m0 m1 m2 m3 m4 m5 m6 err V S M O G 1) (cwV 2 hts (sm_gV (i1 := 266) (i2 := 267) (i3 := 348) (i4 := 2) (i5 := 268) rfl rfl rfl rfl rfl) rfl rfl rfl (by decide +kernel) ⟨Nat.le_of_ble_eq_true rfl, Nat.le_of_ble_eq_true rfl⟩) hK [0] rfl hP hD hS hA 0 rfl rfl [0, 1, 2, 3, 4, 5, 6] [] rfl rfl (by decide) (by decide) (by decide) rfl hl.1 rfl (Nat.le_of_ble_eq_true rfl) dX1_set_6 ⟨Nat.le_of_ble_eq_true rfl, Nat.le_of_ble_eq_true rfl⟩ rfl rfl (fun H locs hP hD hS => ?_)
  refine lv_if_eq (tgt := 13) hx hb dX1_set_9 rfl (fun z => absurd z (by decide)) (fun _ => ?_)
  exact sm_vret hx hb hrt hlocks hS hP hD dX1_set_12
set_option maxHeartbeats 4000000 in
set_option maxRecDepth 100000 in
theorem c_mvalue (l : Launch) (D : va_G) (cZ : ClassId) (m0 m1 m2 m3 m4 m5 m6 : Nat) (err : Int32) (V S M : Nat → Int32) (O G : Int32) (r : Nat) (hr : r < 16) : sm_C l yX1_value wsX1_value ({ frames := 1, cells := 0, slots := 0, locals := 23 } : Room) D vwCl [(cZ, .boolean)] [.ref m0, .int (nI r)] (sm_wM cZ m0 m1 m2 m3 m4 m5 m6 err (sm_fb V) (sm_fb S) (sm_fo M) (sm_fl M) (sm_fw O) (sm_fw G)) (some (.int (V r))) (sm_wM cZ m0 m1 m2 m3 m4 m5 m6 0 (sm_fb V) (sm_fb S) (sm_fo M) (sm_fl M) (sm_fw O) (sm_fw G)) := by
  refine sm_start (cc := cX1_value) (maxL := 2) (ret := some .int) (lv := [(0, .ref m0), (1, .int (nI r))]) (by decide) rfl (Nat.le_of_ble_eq_true rfl) rfl ?_
  intro p e s m below meth c hx hb hrt hts hown hlocks hml hin hK hP hD hS hA ls hl
  have hw := sm_hw hts
  refine lv_aload_n hx hb dX1_value_0 rfl (lv_at hl 0 rfl) ?_
  refine lv_iload_n hx hb dX1_value_1 rfl (lv_at hl 1 rfl) ?_
  refine sm_callS (As := [.int (nI r)]) (rest := [.ref m0]) (wr := (sm_wM cZ m0 m1 m2 m3 m4 m5 m6 err (sm_fb V) (sm_fb S) (sm_fo M) (sm_fl M) (sm_fw O) (sm_fw G))) (wn := (sm_wM cZ m0 m1 m2 m3 m4 m5 m6 err (sm_fb V) (sm_fb S) (sm_fo M) (sm_fl M) (sm_fw O) (sm_fw G))) (st1 := [.int (sm_bI false), .ref m0]) ⟨hx, hb, hml, hown, hts⟩ (c_none_f l D r (by omega)) (va_cwS 1 hts (sm_gS (i1 := 263) (i2 := 264) (i4 := 2) (i5 := 265) rfl rfl rfl rfl) rfl rfl rfl (by decide +kernel) ⟨Nat.le_of_ble_eq_true rfl, Nat.le_of_ble_eq_true rfl⟩) hK [] rfl hP hD hS hA [] [0, 1, 2, 3, 4, 5, 6] rfl rfl (by decide) (by decide) (by decide) rfl hl.1 rfl (Nat.le_of_ble_eq_true rfl) dX1_value_2 ⟨Nat.le_of_ble_eq_true rfl, Nat.le_of_ble_eq_true rfl⟩ rfl rfl (fun H locs hP hD hS => ?_)
  refine lv_iconst (v := 1) hx hb dX1_value_5 (by decide) ?_
  refine sm_callV (C := RX1) (As := [.int (sm_bI false), .int 1]) (rest := []) (wr := []) (wn := (sm_wM cZ m0 m1 m2 m3 m4 m5 m6 0 (sm_fb V) (sm_fb S) (sm_fo M) (sm_fl M) (sm_fw O) (sm_fw G))) (st1 := [.int (sm_bI false)]) ⟨hx, hb, hml, hown, hts⟩ (c_fails_f l D cZ m0 m1 m2 m3 m4 m5 m6 err V S M O G 1) (cwV 2 hts (sm_gV (i1 := 266) (i2 := 267) (i3 := 348) (i4 := 2) (i5 := 268) rfl rfl rfl rfl rfl) rfl rfl rfl (by decide +kernel) ⟨Nat.le_of_ble_eq_true rfl, Nat.le_of_ble_eq_true rfl⟩) hK [0] rfl hP hD hS hA 0 rfl rfl [0, 1, 2, 3, 4, 5, 6] [] rfl rfl (by decide) (by decide) (by decide) rfl hl.1 rfl (Nat.le_of_ble_eq_true rfl) dX1_value_6 ⟨Nat.le_of_ble_eq_true rfl, Nat.le_of_ble_eq_true rfl⟩ rfl rfl (fun H locs hP hD hS => ?_)
  refine lv_if_eq (tgt := 16) hx hb dX1_value_9 rfl (fun _ => ?_) (fun z => absurd (by decide) z)
  refine lv_aload_n hx hb dX1_value_16 rfl (lv_at hl 0 rfl) ?_
  refine lv_iload_n hx hb dX1_value_17 rfl (lv_at hl 1 rfl) ?_
  refine sm_callV (C := RX1) (As := [.int (nI r)]) (rest := []) (wr := []) (wn := (sm_wM cZ m0 m1 m2 m3 m4 m5 m6 0 (sm_fb V) (sm_fb S) (sm_fo M) (sm_fl M) (sm_fw O) (sm_fw G))) (st1 := [.int (V r)]) ⟨hx, hb, hml, hown, hts⟩ (c_number l D cZ m0 m1 m2 m3 m4 m5 m6 0 V S M O G r (by omega)) (cwV 1 hts (sm_gV (i1 := 279) (i2 := 280) (i3 := 351) (i4 := 2) (i5 := 281) rfl rfl rfl rfl rfl) rfl rfl rfl (by decide +kernel) ⟨Nat.le_of_ble_eq_true rfl, Nat.le_of_ble_eq_true rfl⟩) hK [0] rfl hP hD hS hA 0 rfl rfl [0, 1, 2, 3, 4, 5, 6] [] rfl rfl (by decide) (by decide) (by decide) rfl hl.1 rfl (Nat.le_of_ble_eq_true rfl) dX1_value_18 ⟨Nat.le_of_ble_eq_true rfl, Nat.le_of_ble_eq_true rfl⟩ rfl rfl (fun H locs hP hD hS => ?_)
  exact sm_iret hx hb hrt hlocks hS hP hD dX1_value_21
set_option maxHeartbeats 4000000 in
set_option maxRecDepth 100000 in
theorem c_mvalue_x (l : Launch) (D : va_G) (cZ : ClassId) (m0 m1 m2 m3 m4 m5 m6 : Nat) (err : Int32) (V S M : Nat → Int32) (O G : Int32) (i : Int32) (hi : i < 0 ∨ 16 ≤ i) : sm_C l yX1_value wsX1_value ({ frames := 1, cells := 0, slots := 0, locals := 22 } : Room) D vwCl [(cZ, .boolean)] [.ref m0, .int i] (sm_wM cZ m0 m1 m2 m3 m4 m5 m6 err (sm_fb V) (sm_fb S) (sm_fo M) (sm_fl M) (sm_fw O) (sm_fw G)) (some (.int 0)) (sm_wM cZ m0 m1 m2 m3 m4 m5 m6 1 (sm_fb V) (sm_fb S) (sm_fo M) (sm_fl M) (sm_fw O) (sm_fw G)) := by
  refine sm_start (cc := cX1_value) (maxL := 2) (ret := some .int) (lv := [(0, .ref m0), (1, .int i)]) (by decide) rfl (Nat.le_of_ble_eq_true rfl) rfl ?_
  intro p e s m below meth c hx hb hrt hts hown hlocks hml hin hK hP hD hS hA ls hl
  have hw := sm_hw hts
  refine lv_aload_n hx hb dX1_value_0 rfl (lv_at hl 0 rfl) ?_
  refine lv_iload_n hx hb dX1_value_1 rfl (lv_at hl 1 rfl) ?_
  refine sm_callS (As := [.int i]) (rest := [.ref m0]) (wr := (sm_wM cZ m0 m1 m2 m3 m4 m5 m6 err (sm_fb V) (sm_fb S) (sm_fo M) (sm_fl M) (sm_fw O) (sm_fw G))) (wn := (sm_wM cZ m0 m1 m2 m3 m4 m5 m6 err (sm_fb V) (sm_fb S) (sm_fo M) (sm_fl M) (sm_fw O) (sm_fw G))) (st1 := [.int (sm_bI true), .ref m0]) ⟨hx, hb, hml, hown, hts⟩ (c_none_t l D i hi) (va_cwS 1 hts (sm_gS (i1 := 263) (i2 := 264) (i4 := 2) (i5 := 265) rfl rfl rfl rfl) rfl rfl rfl (by decide +kernel) ⟨Nat.le_of_ble_eq_true rfl, Nat.le_of_ble_eq_true rfl⟩) hK [] rfl hP hD hS hA [] [0, 1, 2, 3, 4, 5, 6] rfl rfl (by decide) (by decide) (by decide) rfl hl.1 rfl (Nat.le_of_ble_eq_true rfl) dX1_value_2 ⟨Nat.le_of_ble_eq_true rfl, Nat.le_of_ble_eq_true rfl⟩ rfl rfl (fun H locs hP hD hS => ?_)
  refine lv_iconst (v := 1) hx hb dX1_value_5 (by decide) ?_
  refine sm_callV (C := RX1) (As := [.int (sm_bI true), .int 1]) (rest := []) (wr := []) (wn := (sm_wM cZ m0 m1 m2 m3 m4 m5 m6 1 (sm_fb V) (sm_fb S) (sm_fo M) (sm_fl M) (sm_fw O) (sm_fw G))) (st1 := [.int (sm_bI true)]) ⟨hx, hb, hml, hown, hts⟩ (c_fails_t l D cZ m0 m1 m2 m3 m4 m5 m6 err V S M O G 1) (cwV 2 hts (sm_gV (i1 := 266) (i2 := 267) (i3 := 348) (i4 := 2) (i5 := 268) rfl rfl rfl rfl rfl) rfl rfl rfl (by decide +kernel) ⟨Nat.le_of_ble_eq_true rfl, Nat.le_of_ble_eq_true rfl⟩) hK [0] rfl hP hD hS hA 0 rfl rfl [0, 1, 2, 3, 4, 5, 6] [] rfl rfl (by decide) (by decide) (by decide) rfl hl.1 rfl (Nat.le_of_ble_eq_true rfl) dX1_value_6 ⟨Nat.le_of_ble_eq_true rfl, Nat.le_of_ble_eq_true rfl⟩ rfl rfl (fun H locs hP hD hS => ?_)
  refine lv_if_eq (tgt := 16) hx hb dX1_value_9 rfl (fun z => absurd z (by decide)) (fun _ => ?_)
  refine lv_iconst (v := 0) hx hb dX1_value_12 (by decide) ?_
  refine lv_goto (tgt := 21) hx hb dX1_value_13 rfl ?_
  exact sm_iret hx hb hrt hlocks hS hP hD dX1_value_21
set_option maxHeartbeats 4000000 in
set_option maxRecDepth 100000 in
theorem c_mnot (l : Launch) (D : va_G) (cZ : ClassId) (m0 m1 m2 m3 m4 m5 m6 : Nat) (err : Int32) (V S M : Nat → Int32) (O G : Int32) (r : Nat) (hr : r < 16) : sm_C l yX1_not wsX1_not ({ frames := 1, cells := 0, slots := 0, locals := 22 } : Room) D vwCl [(cZ, .boolean)] [.ref m0, .int (nI r)] (sm_wM cZ m0 m1 m2 m3 m4 m5 m6 err (sm_fb V) (sm_fb S) (sm_fo M) (sm_fl M) (sm_fw O) (sm_fw G)) (some (.int (S r))) (sm_wM cZ m0 m1 m2 m3 m4 m5 m6 0 (sm_fb V) (sm_fb S) (sm_fo M) (sm_fl M) (sm_fw O) (sm_fw G)) := by
  refine sm_start (cc := cX1_not) (maxL := 4) (ret := some .int) (lv := [(0, .ref m0), (1, .int (nI r))]) (by decide) rfl (Nat.le_of_ble_eq_true rfl) rfl ?_
  intro p e s m below meth c hx hb hrt hts hown hlocks hml hin hK hP hD hS hA ls hl
  have hw := sm_hw hts
  refine lv_aload_n hx hb dX1_not_0 rfl (lv_at hl 0 rfl) ?_
  refine lv_iload_n hx hb dX1_not_1 rfl (lv_at hl 1 rfl) ?_
  refine sm_callS (As := [.int (nI r)]) (rest := [.ref m0]) (wr := (sm_wM cZ m0 m1 m2 m3 m4 m5 m6 err (sm_fb V) (sm_fb S) (sm_fo M) (sm_fl M) (sm_fw O) (sm_fw G))) (wn := (sm_wM cZ m0 m1 m2 m3 m4 m5 m6 err (sm_fb V) (sm_fb S) (sm_fo M) (sm_fl M) (sm_fw O) (sm_fw G))) (st1 := [.int (sm_bI false), .ref m0]) ⟨hx, hb, hml, hown, hts⟩ (c_none_f l D r (by omega)) (va_cwS 1 hts (sm_gS (i1 := 263) (i2 := 264) (i4 := 2) (i5 := 265) rfl rfl rfl rfl) rfl rfl rfl (by decide +kernel) ⟨Nat.le_of_ble_eq_true rfl, Nat.le_of_ble_eq_true rfl⟩) hK [] rfl hP hD hS hA [] [0, 1, 2, 3, 4, 5, 6] rfl rfl (by decide) (by decide) (by decide) rfl hl.1 rfl (Nat.le_of_ble_eq_true rfl) dX1_not_2 ⟨Nat.le_of_ble_eq_true rfl, Nat.le_of_ble_eq_true rfl⟩ rfl rfl (fun H locs hP hD hS => ?_)
  refine lv_iconst (v := 1) hx hb dX1_not_5 (by decide) ?_
  refine sm_callV (C := RX1) (As := [.int (sm_bI false), .int 1]) (rest := []) (wr := []) (wn := (sm_wM cZ m0 m1 m2 m3 m4 m5 m6 0 (sm_fb V) (sm_fb S) (sm_fo M) (sm_fl M) (sm_fw O) (sm_fw G))) (st1 := [.int (sm_bI false)]) ⟨hx, hb, hml, hown, hts⟩ (c_fails_f l D cZ m0 m1 m2 m3 m4 m5 m6 err V S M O G 1) (cwV 2 hts (sm_gV (i1 := 266) (i2 := 267) (i3 := 348) (i4 := 2) (i5 := 268) rfl rfl rfl rfl rfl) rfl rfl rfl (by decide +kernel) ⟨Nat.le_of_ble_eq_true rfl, Nat.le_of_ble_eq_true rfl⟩) hK [0] rfl hP hD hS hA 0 rfl rfl [0, 1, 2, 3, 4, 5, 6] [] rfl rfl (by decide) (by decide) (by decide) rfl hl.1 rfl (Nat.le_of_ble_eq_true rfl) dX1_not_6 ⟨Nat.le_of_ble_eq_true rfl, Nat.le_of_ble_eq_true rfl⟩ rfl rfl (fun H locs hP hD hS => ?_)
  refine lv_if_eq (tgt := 14) hx hb dX1_not_9 rfl (fun _ => ?_) (fun z => absurd (by decide) z)
  refine lv_iconst (v := 0) hx hb dX1_not_14 (by decide) ?_
  refine lv_istore_n (lv' := [(2, .int 0), (0, .ref m0), (1, .int (nI r))]) hx hb dX1_not_15 rfl hl (by decide) rfl (fun ls hl => ?_)
  refine lv_iconst (v := 0) hx hb dX1_not_16 (by decide) ?_
  refine lv_istore_n (lv' := [(3, .int 0), (2, .int 0), (0, .ref m0), (1, .int (nI r))]) hx hb dX1_not_17 rfl hl (by decide) rfl (fun ls hl => ?_)
  refine sm_loopW (nL := 4) (lv := fun k => [(0, .ref m0), (1, .int (nI r)), (2, .int (sm_mk (bt (S r)) k)), (3, .int (nI k))]) (w := fun k => (sm_wM cZ m0 m1 m2 m3 m4 m5 m6 0 (sm_fb V) (sm_fb S) (sm_fo M) (sm_fl M) (sm_fw O) (sm_fw G))) 32 (fun H locs ls hl hP hD hS => ?_) (fun k hk ih H locs ls hl hP hD hS => ?_) (lv_sub hl [2, 3, 1, 0] rfl) (sm_cP (rfl) hP) (sm_cD (rfl) hD) hS
  · have hl : lv_has ls 4 [(0, .ref m0), (1, .int (nI r)), (2, .int (sm_mk (bt (S r)) 32)), (3, .int (nI 32))] := hl
    have hP : va_P D vwCl (sm_wM cZ m0 m1 m2 m3 m4 m5 m6 0 (sm_fb V) (sm_fb S) (sm_fo M) (sm_fl M) (sm_fw O) (sm_fw G)) H := hP
    have hD : va_D _ (sm_wM cZ m0 m1 m2 m3 m4 m5 m6 0 (sm_fb V) (sm_fb S) (sm_fo M) (sm_fl M) (sm_fw O) (sm_fw G)) := hD
    refine lv_iload_n hx hb dX1_not_18 rfl (lv_at hl 3 rfl) ?_
    refine lv_bipush (v := 32) hx hb dX1_not_19 (by decide) ?_
    refine lv_icmp_ge (tgt := 45) hx hb dX1_not_21 rfl (fun _ => ?_) (fun z => absurd (by decide) z)
    refine lv_iload_n hx hb dX1_not_45 rfl (lv_at hl 2 rfl) ?_
    refine sm_eqi (y := S r) (sm_mkx (fun _ _ => rfl)) ?_
    exact sm_iret hx hb hrt hlocks hS hP hD dX1_not_46
  · have hl : lv_has ls 4 [(0, .ref m0), (1, .int (nI r)), (2, .int (sm_mk (bt (S r)) k)), (3, .int (nI k))] := hl
    have hP : va_P D vwCl (sm_wM cZ m0 m1 m2 m3 m4 m5 m6 0 (sm_fb V) (sm_fb S) (sm_fo M) (sm_fl M) (sm_fw O) (sm_fw G)) H := hP
    have hD : va_D _ (sm_wM cZ m0 m1 m2 m3 m4 m5 m6 0 (sm_fb V) (sm_fb S) (sm_fo M) (sm_fl M) (sm_fw O) (sm_fw G)) := hD
    refine lv_iload_n hx hb dX1_not_18 rfl (lv_at hl 3 rfl) ?_
    refine lv_bipush (v := 32) hx hb dX1_not_19 (by decide) ?_
    refine lv_icmp_ge (tgt := 45) hx hb dX1_not_21 rfl (fun z => absurd z (nI_ge (b := 32) hk (by decide))) (fun _ => ?_)
    refine lv_aload_n hx hb dX1_not_24 rfl (lv_at hl 0 rfl) ?_
    refine lv_iload_n hx hb dX1_not_25 rfl (lv_at hl 1 rfl) ?_
    refine lv_iload_n hx hb dX1_not_26 rfl (lv_at hl 3 rfl) ?_
    refine sm_callV (C := RX1) (As := [.int (nI r), .int (nI k)]) (rest := []) (wr := []) (wn := (sm_wM cZ m0 m1 m2 m3 m4 m5 m6 0 (sm_fb V) (sm_fb S) (sm_fo M) (sm_fl M) (sm_fw O) (sm_fw G))) (st1 := [.int (sm_bI (bt (S r) k))]) ⟨hx, hb, hml, hown, hts⟩ (c_un l D cZ m0 m1 m2 m3 m4 m5 m6 0 (sm_fb V) (sm_fo M) (sm_fl M) (sm_fw O) (sm_fw G) S r k (by omega) (by omega)) (cwV 2 hts (sm_gV (i1 := 285) (i2 := 286) (i3 := 353) (i4 := 2) (i5 := 287) rfl rfl rfl rfl rfl) rfl rfl rfl (by decide +kernel) ⟨Nat.le_of_ble_eq_true rfl, Nat.le_of_ble_eq_true rfl⟩) hK [0] rfl hP hD hS hA 0 rfl rfl [0, 1, 2, 3, 4, 5, 6] [] rfl rfl (by decide) (by decide) (by decide) rfl hl.1 rfl (Nat.le_of_ble_eq_true rfl) dX1_not_27 ⟨Nat.le_of_ble_eq_true rfl, Nat.le_of_ble_eq_true rfl⟩ rfl rfl (fun H locs hP hD hS => ?_)
    refine sm_ifb_eq (tgt := 39) hx hb dX1_not_30 rfl (fun h30 => ?_) (fun h30 => ?_)
    · have hl : lv_has ls 4 [(0, .ref m0), (1, .int (nI r)), (2, .int (sm_mk (bt (S r)) (k + 1))), (3, .int (nI k))] := by rw [sm_mk_n h30]; exact hl
      refine lv_iinc (k := 3) (v := nI (k + 1)) (lv' := [(3, .int (nI (k + 1))), (0, .ref m0), (1, .int (nI r)), (2, .int (sm_mk (bt (S r)) (k + 1)))]) hx hb dX1_not_39 hl rfl (sm_inc k) (by decide) rfl (fun ls hl => ?_)
      refine lv_goto (tgt := 18) hx hb dX1_not_42 rfl ?_
      exact ih _ _ _ (lv_sub hl [1, 2, 3, 0] rfl) (sm_cP (rfl) hP) (sm_cD (rfl) hD) hS
    · refine lv_iload_n hx hb dX1_not_33 rfl (lv_at hl 2 rfl) ?_
      refine lv_iconst (v := 1) hx hb dX1_not_34 (by decide) ?_
      refine lv_iload_n hx hb dX1_not_35 rfl (lv_at hl 3 rfl) ?_
      refine lv_ishl hx hb dX1_not_36 ?_
      refine lv_ior hx hb dX1_not_37 ?_
      refine sm_eqi (y := sm_mk (bt (S r)) (k + 1)) (sm_mk_t h30) ?_
      refine lv_istore_n (lv' := [(2, .int (sm_mk (bt (S r)) (k + 1))), (0, .ref m0), (1, .int (nI r)), (3, .int (nI k))]) hx hb dX1_not_38 rfl hl (by decide) rfl (fun ls hl => ?_)
      refine lv_iinc (k := 3) (v := nI (k + 1)) (lv' := [(3, .int (nI (k + 1))), (2, .int (sm_mk (bt (S r)) (k + 1))), (0, .ref m0), (1, .int (nI r))]) hx hb dX1_not_39 hl rfl (sm_inc k) (by decide) rfl (fun ls hl => ?_)
      refine lv_goto (tgt := 18) hx hb dX1_not_42 rfl ?_
      exact ih _ _ _ (lv_sub hl [2, 3, 1, 0] rfl) (sm_cP (rfl) hP) (sm_cD (rfl) hD) hS
set_option maxHeartbeats 4000000 in
set_option maxRecDepth 100000 in
theorem c_mnot_x (l : Launch) (D : va_G) (cZ : ClassId) (m0 m1 m2 m3 m4 m5 m6 : Nat) (err : Int32) (V S M : Nat → Int32) (O G : Int32) (i : Int32) (hi : i < 0 ∨ 16 ≤ i) : sm_C l yX1_not wsX1_not ({ frames := 1, cells := 0, slots := 0, locals := 22 } : Room) D vwCl [(cZ, .boolean)] [.ref m0, .int i] (sm_wM cZ m0 m1 m2 m3 m4 m5 m6 err (sm_fb V) (sm_fb S) (sm_fo M) (sm_fl M) (sm_fw O) (sm_fw G)) (some (.int 0)) (sm_wM cZ m0 m1 m2 m3 m4 m5 m6 1 (sm_fb V) (sm_fb S) (sm_fo M) (sm_fl M) (sm_fw O) (sm_fw G)) := by
  refine sm_start (cc := cX1_not) (maxL := 4) (ret := some .int) (lv := [(0, .ref m0), (1, .int i)]) (by decide) rfl (Nat.le_of_ble_eq_true rfl) rfl ?_
  intro p e s m below meth c hx hb hrt hts hown hlocks hml hin hK hP hD hS hA ls hl
  have hw := sm_hw hts
  refine lv_aload_n hx hb dX1_not_0 rfl (lv_at hl 0 rfl) ?_
  refine lv_iload_n hx hb dX1_not_1 rfl (lv_at hl 1 rfl) ?_
  refine sm_callS (As := [.int i]) (rest := [.ref m0]) (wr := (sm_wM cZ m0 m1 m2 m3 m4 m5 m6 err (sm_fb V) (sm_fb S) (sm_fo M) (sm_fl M) (sm_fw O) (sm_fw G))) (wn := (sm_wM cZ m0 m1 m2 m3 m4 m5 m6 err (sm_fb V) (sm_fb S) (sm_fo M) (sm_fl M) (sm_fw O) (sm_fw G))) (st1 := [.int (sm_bI true), .ref m0]) ⟨hx, hb, hml, hown, hts⟩ (c_none_t l D i hi) (va_cwS 1 hts (sm_gS (i1 := 263) (i2 := 264) (i4 := 2) (i5 := 265) rfl rfl rfl rfl) rfl rfl rfl (by decide +kernel) ⟨Nat.le_of_ble_eq_true rfl, Nat.le_of_ble_eq_true rfl⟩) hK [] rfl hP hD hS hA [] [0, 1, 2, 3, 4, 5, 6] rfl rfl (by decide) (by decide) (by decide) rfl hl.1 rfl (Nat.le_of_ble_eq_true rfl) dX1_not_2 ⟨Nat.le_of_ble_eq_true rfl, Nat.le_of_ble_eq_true rfl⟩ rfl rfl (fun H locs hP hD hS => ?_)
  refine lv_iconst (v := 1) hx hb dX1_not_5 (by decide) ?_
  refine sm_callV (C := RX1) (As := [.int (sm_bI true), .int 1]) (rest := []) (wr := []) (wn := (sm_wM cZ m0 m1 m2 m3 m4 m5 m6 1 (sm_fb V) (sm_fb S) (sm_fo M) (sm_fl M) (sm_fw O) (sm_fw G))) (st1 := [.int (sm_bI true)]) ⟨hx, hb, hml, hown, hts⟩ (c_fails_t l D cZ m0 m1 m2 m3 m4 m5 m6 err V S M O G 1) (cwV 2 hts (sm_gV (i1 := 266) (i2 := 267) (i3 := 348) (i4 := 2) (i5 := 268) rfl rfl rfl rfl rfl) rfl rfl rfl (by decide +kernel) ⟨Nat.le_of_ble_eq_true rfl, Nat.le_of_ble_eq_true rfl⟩) hK [0] rfl hP hD hS hA 0 rfl rfl [0, 1, 2, 3, 4, 5, 6] [] rfl rfl (by decide) (by decide) (by decide) rfl hl.1 rfl (Nat.le_of_ble_eq_true rfl) dX1_not_6 ⟨Nat.le_of_ble_eq_true rfl, Nat.le_of_ble_eq_true rfl⟩ rfl rfl (fun H locs hP hD hS => ?_)
  refine lv_if_eq (tgt := 14) hx hb dX1_not_9 rfl (fun z => absurd z (by decide)) (fun _ => ?_)
  refine lv_iconst (v := 0) hx hb dX1_not_12 (by decide) ?_
  exact sm_iret hx hb hrt hlocks hS hP hD dX1_not_13
set_option maxHeartbeats 4000000 in
set_option maxRecDepth 100000 in
theorem c_end (l : Launch) (D : va_G) (cZ : ClassId) (m0 m1 m2 m3 m4 m5 m6 : Nat) (err : Int32) (V S M : Nat → Int32) (O G : Int32) (r : Nat) (hr : r < 16) (gr sg : Bool) : sm_C l yX1_end wsX1_end ({ frames := 1, cells := 0, slots := 0, locals := 22 } : Room) D vwCl [(cZ, .boolean)] [.ref m0, .int (nI r), .int (sm_bI gr), .int (sm_bI sg)] (sm_wM cZ m0 m1 m2 m3 m4 m5 m6 err (sm_fb V) (sm_fb S) (sm_fo M) (sm_fl M) (sm_fw O) (sm_fw G)) (some (.long (sm_en (sm_one (V r) (S r) gr sg) sg 32))) (sm_wM cZ m0 m1 m2 m3 m4 m5 m6 err (sm_fb V) (sm_fb S) (sm_fo M) (sm_fl M) (sm_fw O) (sm_fw G)) := by
  refine sm_start (cc := cX1_end) (maxL := 9) (ret := some .long) (lv := [(0, .ref m0), (1, .int (nI r)), (2, .int (sm_bI gr)), (3, .int (sm_bI sg))]) (by decide) rfl (Nat.le_of_ble_eq_true rfl) rfl ?_
  intro p e s m below meth c hx hb hrt hts hown hlocks hml hin hK hP hD hS hA ls hl
  have hw := sm_hw hts
  refine lv_lconst (v := 0) hx hb dX1_end_0 (by decide) ?_
  refine lv_lstore (lv' := [(4, .long 0), (0, .ref m0), (1, .int (nI r)), (2, .int (sm_bI gr)), (3, .int (sm_bI sg))]) hx hb dX1_end_1 hl (by decide) rfl (fun ls hl => ?_)
  refine lv_iconst (v := 0) hx hb dX1_end_3 (by decide) ?_
  refine lv_istore (lv' := [(6, .int 0), (4, .long 0), (0, .ref m0), (1, .int (nI r)), (2, .int (sm_bI gr)), (3, .int (sm_bI sg))]) hx hb dX1_end_4 hl (by decide) rfl (fun ls hl => ?_)
  refine sm_loopW (nL := 9) (lv := fun k => [(0, .ref m0), (1, .int (nI r)), (2, .int (sm_bI gr)), (3, .int (sm_bI sg)), (4, .long (sm_en (sm_one (V r) (S r) gr sg) sg k)), (6, .int (nI k))]) (w := fun k => (sm_wM cZ m0 m1 m2 m3 m4 m5 m6 err (sm_fb V) (sm_fb S) (sm_fo M) (sm_fl M) (sm_fw O) (sm_fw G))) 32 (fun H locs ls hl hP hD hS => ?_) (fun k hk ih H locs ls hl hP hD hS => ?_) (lv_sub hl [2, 3, 4, 5, 1, 0] rfl) (sm_cP (rfl) hP) (sm_cD (rfl) hD) hS
  · have hl : lv_has ls 9 [(0, .ref m0), (1, .int (nI r)), (2, .int (sm_bI gr)), (3, .int (sm_bI sg)), (4, .long (sm_en (sm_one (V r) (S r) gr sg) sg 32)), (6, .int (nI 32))] := hl
    have hP : va_P D vwCl (sm_wM cZ m0 m1 m2 m3 m4 m5 m6 err (sm_fb V) (sm_fb S) (sm_fo M) (sm_fl M) (sm_fw O) (sm_fw G)) H := hP
    have hD : va_D _ (sm_wM cZ m0 m1 m2 m3 m4 m5 m6 err (sm_fb V) (sm_fb S) (sm_fo M) (sm_fl M) (sm_fw O) (sm_fw G)) := hD
    refine lv_iload hx hb dX1_end_6 (lv_at hl 5 rfl) ?_
    refine lv_bipush (v := 32) hx hb dX1_end_8 (by decide) ?_
    refine lv_icmp_ge (tgt := 97) hx hb dX1_end_10 rfl (fun _ => ?_) (fun z => absurd (by decide) z)
    refine lv_lload hx hb dX1_end_97 (lv_at hl 4 rfl) ?_
    exact sm_lret hx hb hrt hlocks hS hP hD dX1_end_99
  · have hl : lv_has ls 9 [(0, .ref m0), (1, .int (nI r)), (2, .int (sm_bI gr)), (3, .int (sm_bI sg)), (4, .long (sm_en (sm_one (V r) (S r) gr sg) sg k)), (6, .int (nI k))] := hl
    have hP : va_P D vwCl (sm_wM cZ m0 m1 m2 m3 m4 m5 m6 err (sm_fb V) (sm_fb S) (sm_fo M) (sm_fl M) (sm_fw O) (sm_fw G)) H := hP
    have hD : va_D _ (sm_wM cZ m0 m1 m2 m3 m4 m5 m6 err (sm_fb V) (sm_fb S) (sm_fo M) (sm_fl M) (sm_fw O) (sm_fw G)) := hD
    refine lv_iload hx hb dX1_end_6 (lv_at hl 5 rfl) ?_
    refine lv_bipush (v := 32) hx hb dX1_end_8 (by decide) ?_
    refine lv_icmp_ge (tgt := 97) hx hb dX1_end_10 rfl (fun z => absurd z (nI_ge (b := 32) hk (by decide))) (fun _ => ?_)
    refine sm_joinH (pcJ := 29) (t := sm_bI (sg && decide (k = 31))) (lv := [(0, .ref m0), (1, .int (nI r)), (2, .int (sm_bI gr)), (3, .int (sm_bI sg)), (4, .long (sm_en (sm_one (V r) (S r) gr sg) sg k)), (6, .int (nI k))]) (w := (sm_wM cZ m0 m1 m2 m3 m4 m5 m6 err (sm_fb V) (sm_fb S) (sm_fo M) (sm_fl M) (sm_fw O) (sm_fw G))) (rest := []) hl hP hD hS (fun j29 => ?_) (fun H locs ls hl hP hD hS => ?_)
    · refine lv_iload_n hx hb dX1_end_13 rfl (lv_at hl 3 rfl) ?_
      refine sm_ifb_eq (tgt := 28) hx hb dX1_end_14 rfl (fun h14 => ?_) (fun h14 => ?_)
      · refine lv_iconst (v := 0) hx hb dX1_end_28 (by decide) ?_
        refine sm_eqi (y := sm_bI (sg && decide (k = 31))) (by simp [sm_bI, h14]) ?_
        exact j29 _ _ _ (lv_sub hl [0, 1, 2, 3, 4, 5] rfl) hP hD hS
      · refine lv_iload hx hb dX1_end_17 (lv_at hl 5 rfl) ?_
        refine lv_bipush (v := 31) hx hb dX1_end_19 (by decide) ?_
        refine lv_icmp_ne (tgt := 28) hx hb dX1_end_21 rfl (fun h21 => ?_) (fun h21 => ?_)
        · refine lv_iconst (v := 0) hx hb dX1_end_28 (by decide) ?_
          refine sm_eqi (y := sm_bI (sg && decide (k = 31))) (sm_ej2 k hk h21) ?_
          exact j29 _ _ _ (lv_sub hl [0, 1, 2, 3, 4, 5] rfl) hP hD hS
        · refine lv_iconst (v := 1) hx hb dX1_end_24 (by decide) ?_
          refine lv_goto (tgt := 29) hx hb dX1_end_25 rfl ?_
          refine sm_eqi (y := sm_bI (sg && decide (k = 31))) (sm_ej1 k hk h14 h21) ?_
          exact j29 _ _ _ (lv_sub hl [0, 1, 2, 3, 4, 5] rfl) hP hD hS
    refine lv_istore (lv' := [(7, .int (sm_bI (sg && decide (k = 31)))), (0, .ref m0), (1, .int (nI r)), (2, .int (sm_bI gr)), (3, .int (sm_bI sg)), (4, .long (sm_en (sm_one (V r) (S r) gr sg) sg k)), (6, .int (nI k))]) hx hb dX1_end_29 hl (by decide) rfl (fun ls hl => ?_)
    refine sm_joinH (pcJ := 62) (t := sm_bI (sm_one (V r) (S r) gr sg k)) (lv := [(0, .ref m0), (1, .int (nI r)), (2, .int (sm_bI gr)), (3, .int (sm_bI sg)), (4, .long (sm_en (sm_one (V r) (S r) gr sg) sg k)), (6, .int (nI k)), (7, .int (sm_bI (sg && decide (k = 31))))]) (w := (sm_wM cZ m0 m1 m2 m3 m4 m5 m6 err (sm_fb V) (sm_fb S) (sm_fo M) (sm_fl M) (sm_fw O) (sm_fw G))) (rest := []) hl hP hD hS (fun j62 => ?_) (fun H locs ls hl hP hD hS => ?_)
    · refine lv_aload_n hx hb dX1_end_31 rfl (lv_at hl 1 rfl) ?_
      refine lv_iload_n hx hb dX1_end_32 rfl (lv_at hl 2 rfl) ?_
      refine lv_iload hx hb dX1_end_33 (lv_at hl 6 rfl) ?_
      refine sm_callV (C := RX1) (As := [.int (nI r), .int (nI k)]) (rest := []) (wr := []) (wn := (sm_wM cZ m0 m1 m2 m3 m4 m5 m6 err (sm_fb V) (sm_fb S) (sm_fo M) (sm_fl M) (sm_fw O) (sm_fw G))) (st1 := [.int (sm_bI (bt (S r) k))]) ⟨hx, hb, hml, hown, hts⟩ (c_un l D cZ m0 m1 m2 m3 m4 m5 m6 err (sm_fb V) (sm_fo M) (sm_fl M) (sm_fw O) (sm_fw G) S r k (by omega) (by omega)) (cwV 2 hts (sm_gV (i1 := 285) (i2 := 286) (i3 := 353) (i4 := 2) (i5 := 287) rfl rfl rfl rfl rfl) rfl rfl rfl (by decide +kernel) ⟨Nat.le_of_ble_eq_true rfl, Nat.le_of_ble_eq_true rfl⟩) hK [0] rfl hP hD hS hA 0 rfl rfl [0, 1, 2, 3, 4, 5, 6] [] rfl rfl (by decide) (by decide) (by decide) rfl hl.1 rfl (Nat.le_of_ble_eq_true rfl) dX1_end_35 ⟨Nat.le_of_ble_eq_true rfl, Nat.le_of_ble_eq_true rfl⟩ rfl rfl (fun H locs hP hD hS => ?_)
      refine sm_ifb_eq (tgt := 55) hx hb dX1_end_38 rfl (fun h38 => ?_) (fun h38 => ?_)
      · refine lv_aload_n hx hb dX1_end_55 rfl (lv_at hl 1 rfl) ?_
        refine lv_iload_n hx hb dX1_end_56 rfl (lv_at hl 2 rfl) ?_
        refine lv_iload hx hb dX1_end_57 (lv_at hl 6 rfl) ?_
        refine sm_callV (C := RX1) (As := [.int (nI r), .int (nI k)]) (rest := []) (wr := []) (wn := (sm_wM cZ m0 m1 m2 m3 m4 m5 m6 err (sm_fb V) (sm_fb S) (sm_fo M) (sm_fl M) (sm_fw O) (sm_fw G))) (st1 := [.int (sm_bI (bt (V r) k))]) ⟨hx, hb, hml, hown, hts⟩ (c_is l D cZ m0 m1 m2 m3 m4 m5 m6 err (sm_fb S) (sm_fo M) (sm_fl M) (sm_fw O) (sm_fw G) V r k (by omega) (by omega)) (cwV 2 hts (sm_gV (i1 := 291) (i2 := 292) (i3 := 355) (i4 := 2) (i5 := 293) rfl rfl rfl rfl rfl) rfl rfl rfl (by decide +kernel) ⟨Nat.le_of_ble_eq_true rfl, Nat.le_of_ble_eq_true rfl⟩) hK [0] rfl hP hD hS hA 0 rfl rfl [0, 1, 2, 3, 4, 5, 6] [] rfl rfl (by decide) (by decide) (by decide) rfl hl.1 rfl (Nat.le_of_ble_eq_true rfl) dX1_end_59 ⟨Nat.le_of_ble_eq_true rfl, Nat.le_of_ble_eq_true rfl⟩ rfl rfl (fun H locs hP hD hS => ?_)
        refine sm_eqi (y := sm_bI (sm_one (V r) (S r) gr sg k)) (sm_ej5 h38) ?_
        exact j62 _ _ _ (lv_sub hl [1, 2, 3, 4, 5, 6, 0] rfl) hP hD hS
      · refine lv_iload_n hx hb dX1_end_41 rfl (lv_at hl 3 rfl) ?_
        refine lv_iload hx hb dX1_end_42 (lv_at hl 0 rfl) ?_
        refine lv_icmp_eq (tgt := 51) hx hb dX1_end_44 rfl (fun h44 => ?_) (fun h44 => ?_)
        · refine lv_iconst (v := 0) hx hb dX1_end_51 (by decide) ?_
          refine lv_goto (tgt := 62) hx hb dX1_end_52 rfl ?_
          refine sm_eqi (y := sm_bI (sm_one (V r) (S r) gr sg k)) (sm_ej4 h38 h44) ?_
          exact j62 _ _ _ (lv_sub hl [1, 2, 3, 4, 5, 6, 0] rfl) hP hD hS
        · refine lv_iconst (v := 1) hx hb dX1_end_47 (by decide) ?_
          refine lv_goto (tgt := 62) hx hb dX1_end_48 rfl ?_
          refine sm_eqi (y := sm_bI (sm_one (V r) (S r) gr sg k)) (sm_ej3 h38 h44) ?_
          exact j62 _ _ _ (lv_sub hl [1, 2, 3, 4, 5, 6, 0] rfl) hP hD hS
    refine lv_istore (lv' := [(8, .int (sm_bI (sm_one (V r) (S r) gr sg k))), (0, .ref m0), (1, .int (nI r)), (2, .int (sm_bI gr)), (3, .int (sm_bI sg)), (4, .long (sm_en (sm_one (V r) (S r) gr sg) sg k)), (6, .int (nI k)), (7, .int (sm_bI (sg && decide (k = 31))))]) hx hb dX1_end_62 hl (by decide) rfl (fun ls hl => ?_)
    refine lv_iload hx hb dX1_end_64 (lv_at hl 0 rfl) ?_
    refine sm_ifb_eq (tgt := 91) hx hb dX1_end_66 rfl (fun h66 => ?_) (fun h66 => ?_)
    · have hl : lv_has ls 9 [(8, .int (sm_bI (sm_one (V r) (S r) gr sg k))), (0, .ref m0), (1, .int (nI r)), (2, .int (sm_bI gr)), (3, .int (sm_bI sg)), (4, .long (sm_en (sm_one (V r) (S r) gr sg) sg (k + 1))), (6, .int (nI k)), (7, .int (sm_bI (sg && decide (k = 31))))] := by rw [sm_en_n h66]; exact hl
      refine lv_iinc (k := 6) (v := nI (k + 1)) (lv' := [(6, .int (nI (k + 1))), (8, .int (sm_bI (sm_one (V r) (S r) gr sg k))), (0, .ref m0), (1, .int (nI r)), (2, .int (sm_bI gr)), (3, .int (sm_bI sg)), (4, .long (sm_en (sm_one (V r) (S r) gr sg) sg (k + 1))), (7, .int (sm_bI (sg && decide (k = 31))))]) hx hb dX1_end_91 hl rfl (sm_inc k) (by decide) rfl (fun ls hl => ?_)
      refine lv_goto (tgt := 6) hx hb dX1_end_94 rfl ?_
      exact ih _ _ _ (lv_sub hl [2, 3, 4, 5, 6, 0] rfl) (sm_cP (rfl) hP) (sm_cD (rfl) hD) hS
    · refine lv_lload hx hb dX1_end_69 (lv_at hl 5 rfl) ?_
      refine lv_iload hx hb dX1_end_71 (lv_at hl 7 rfl) ?_
      refine sm_ifb_eq (tgt := 84) hx hb dX1_end_73 rfl (fun h73 => ?_) (fun h73 => ?_)
      · refine lv_lconst (v := 1) hx hb dX1_end_84 (by decide) ?_
        refine lv_iload hx hb dX1_end_85 (lv_at hl 6 rfl) ?_
        refine lv_lshl (v := sm_lshl 1 (nI k)) hx hb dX1_end_87 rfl ?_
        refine lv_ladd hx hb dX1_end_88 ?_
        refine lv_lstore (lv' := [(4, .long ((sm_en (sm_one (V r) (S r) gr sg) sg k) + (sm_lshl 1 (nI k)))), (8, .int (sm_bI (sm_one (V r) (S r) gr sg k))), (0, .ref m0), (1, .int (nI r)), (2, .int (sm_bI gr)), (3, .int (sm_bI sg)), (6, .int (nI k)), (7, .int (sm_bI (sg && decide (k = 31))))]) hx hb dX1_end_89 hl (by decide) rfl (fun ls hl => ?_)
        have hl : lv_has ls 9 [(4, .long (sm_en (sm_one (V r) (S r) gr sg) sg (k + 1))), (8, .int (sm_bI (sm_one (V r) (S r) gr sg k))), (0, .ref m0), (1, .int (nI r)), (2, .int (sm_bI gr)), (3, .int (sm_bI sg)), (6, .int (nI k)), (7, .int (sm_bI (sg && decide (k = 31))))] := by rw [sm_en_t0 h66 h73]; exact hl
        refine lv_iinc (k := 6) (v := nI (k + 1)) (lv' := [(6, .int (nI (k + 1))), (4, .long (sm_en (sm_one (V r) (S r) gr sg) sg (k + 1))), (8, .int (sm_bI (sm_one (V r) (S r) gr sg k))), (0, .ref m0), (1, .int (nI r)), (2, .int (sm_bI gr)), (3, .int (sm_bI sg)), (7, .int (sm_bI (sg && decide (k = 31))))]) hx hb dX1_end_91 hl rfl (sm_inc k) (by decide) rfl (fun ls hl => ?_)
        refine lv_goto (tgt := 6) hx hb dX1_end_94 rfl ?_
        exact ih _ _ _ (lv_sub hl [3, 4, 5, 6, 1, 0] rfl) (sm_cP (rfl) hP) (sm_cD (rfl) hD) hS
      · refine lv_lconst (v := 1) hx hb dX1_end_76 (by decide) ?_
        refine lv_iload hx hb dX1_end_77 (lv_at hl 6 rfl) ?_
        refine lv_lshl (v := sm_lshl 1 (nI k)) hx hb dX1_end_79 rfl ?_
        refine lv_lneg hx hb dX1_end_80 ?_
        refine lv_goto (tgt := 88) hx hb dX1_end_81 rfl ?_
        refine lv_ladd hx hb dX1_end_88 ?_
        refine lv_lstore (lv' := [(4, .long ((sm_en (sm_one (V r) (S r) gr sg) sg k) + (-(sm_lshl 1 (nI k))))), (8, .int (sm_bI (sm_one (V r) (S r) gr sg k))), (0, .ref m0), (1, .int (nI r)), (2, .int (sm_bI gr)), (3, .int (sm_bI sg)), (6, .int (nI k)), (7, .int (sm_bI (sg && decide (k = 31))))]) hx hb dX1_end_89 hl (by decide) rfl (fun ls hl => ?_)
        have hl : lv_has ls 9 [(4, .long (sm_en (sm_one (V r) (S r) gr sg) sg (k + 1))), (8, .int (sm_bI (sm_one (V r) (S r) gr sg k))), (0, .ref m0), (1, .int (nI r)), (2, .int (sm_bI gr)), (3, .int (sm_bI sg)), (6, .int (nI k)), (7, .int (sm_bI (sg && decide (k = 31))))] := by rw [sm_en_t1 h66 h73]; exact hl
        refine lv_iinc (k := 6) (v := nI (k + 1)) (lv' := [(6, .int (nI (k + 1))), (4, .long (sm_en (sm_one (V r) (S r) gr sg) sg (k + 1))), (8, .int (sm_bI (sm_one (V r) (S r) gr sg k))), (0, .ref m0), (1, .int (nI r)), (2, .int (sm_bI gr)), (3, .int (sm_bI sg)), (7, .int (sm_bI (sg && decide (k = 31))))]) hx hb dX1_end_91 hl rfl (sm_inc k) (by decide) rfl (fun ls hl => ?_)
        refine lv_goto (tgt := 6) hx hb dX1_end_94 rfl ?_
        exact ih _ _ _ (lv_sub hl [3, 4, 5, 6, 1, 0] rfl) (sm_cP (rfl) hP) (sm_cD (rfl) hD) hS
set_option maxHeartbeats 4000000 in
set_option maxRecDepth 100000 in
theorem c_mleast (l : Launch) (D : va_G) (cZ : ClassId) (m0 m1 m2 m3 m4 m5 m6 : Nat) (err : Int32) (V S M : Nat → Int32) (O G : Int32) (r : Nat) (hr : r < 16) : sm_C l yX1_least wsX1_least ({ frames := 2, cells := 0, slots := 0, locals := 50 } : Room) D vwCl [(cZ, .boolean)] [.ref m0, .int (nI r)] (sm_wM cZ m0 m1 m2 m3 m4 m5 m6 err (sm_fb V) (sm_fb S) (sm_fo M) (sm_fl M) (sm_fw O) (sm_fw G)) (some (.int (sm_le (V r) (S r)))) (sm_wM cZ m0 m1 m2 m3 m4 m5 m6 0 (sm_fb V) (sm_fb S) (sm_fo M) (sm_fl M) (sm_fw O) (sm_fw G)) := by
  refine sm_start (cc := cX1_least) (maxL := 2) (ret := some .int) (lv := [(0, .ref m0), (1, .int (nI r))]) (by decide) rfl (Nat.le_of_ble_eq_true rfl) rfl ?_
  intro p e s m below meth c hx hb hrt hts hown hlocks hml hin hK hP hD hS hA ls hl
  have hw := sm_hw hts
  refine lv_aload_n hx hb dX1_least_0 rfl (lv_at hl 0 rfl) ?_
  refine lv_iload_n hx hb dX1_least_1 rfl (lv_at hl 1 rfl) ?_
  refine sm_callS (As := [.int (nI r)]) (rest := [.ref m0]) (wr := (sm_wM cZ m0 m1 m2 m3 m4 m5 m6 err (sm_fb V) (sm_fb S) (sm_fo M) (sm_fl M) (sm_fw O) (sm_fw G))) (wn := (sm_wM cZ m0 m1 m2 m3 m4 m5 m6 err (sm_fb V) (sm_fb S) (sm_fo M) (sm_fl M) (sm_fw O) (sm_fw G))) (st1 := [.int (sm_bI false), .ref m0]) ⟨hx, hb, hml, hown, hts⟩ (c_none_f l D r (by omega)) (va_cwS 1 hts (sm_gS (i1 := 263) (i2 := 264) (i4 := 2) (i5 := 265) rfl rfl rfl rfl) rfl rfl rfl (by decide +kernel) ⟨Nat.le_of_ble_eq_true rfl, Nat.le_of_ble_eq_true rfl⟩) hK [] rfl hP hD hS hA [] [0, 1, 2, 3, 4, 5, 6] rfl rfl (by decide) (by decide) (by decide) rfl hl.1 rfl (Nat.le_of_ble_eq_true rfl) dX1_least_2 ⟨Nat.le_of_ble_eq_true rfl, Nat.le_of_ble_eq_true rfl⟩ rfl rfl (fun H locs hP hD hS => ?_)
  refine lv_iconst (v := 1) hx hb dX1_least_5 (by decide) ?_
  refine sm_callV (C := RX1) (As := [.int (sm_bI false), .int 1]) (rest := []) (wr := []) (wn := (sm_wM cZ m0 m1 m2 m3 m4 m5 m6 0 (sm_fb V) (sm_fb S) (sm_fo M) (sm_fl M) (sm_fw O) (sm_fw G))) (st1 := [.int (sm_bI false)]) ⟨hx, hb, hml, hown, hts⟩ (c_fails_f l D cZ m0 m1 m2 m3 m4 m5 m6 err V S M O G 1) (cwV 2 hts (sm_gV (i1 := 266) (i2 := 267) (i3 := 348) (i4 := 2) (i5 := 268) rfl rfl rfl rfl rfl) rfl rfl rfl (by decide +kernel) ⟨Nat.le_of_ble_eq_true rfl, Nat.le_of_ble_eq_true rfl⟩) hK [0] rfl hP hD hS hA 0 rfl rfl [0, 1, 2, 3, 4, 5, 6] [] rfl rfl (by decide) (by decide) (by decide) rfl hl.1 rfl (Nat.le_of_ble_eq_true rfl) dX1_least_6 ⟨Nat.le_of_ble_eq_true rfl, Nat.le_of_ble_eq_true rfl⟩ rfl rfl (fun H locs hP hD hS => ?_)
  refine lv_if_eq (tgt := 16) hx hb dX1_least_9 rfl (fun _ => ?_) (fun z => absurd (by decide) z)
  refine lv_aload_n hx hb dX1_least_16 rfl (lv_at hl 0 rfl) ?_
  refine lv_iload_n hx hb dX1_least_17 rfl (lv_at hl 1 rfl) ?_
  refine lv_iconst (v := 0) hx hb dX1_least_18 (by decide) ?_
  refine lv_iconst (v := 1) hx hb dX1_least_19 (by decide) ?_
  refine sm_callV (C := RX1) (As := [.int (nI r), .int (sm_bI false), .int (sm_bI true)]) (rest := []) (wr := []) (wn := (sm_wM cZ m0 m1 m2 m3 m4 m5 m6 0 (sm_fb V) (sm_fb S) (sm_fo M) (sm_fl M) (sm_fw O) (sm_fw G))) (st1 := [.long (sm_en (sm_one (V r) (S r) false true) true 32)]) ⟨hx, hb, hml, hown, hts⟩ (c_end l D cZ m0 m1 m2 m3 m4 m5 m6 0 V S M O G r (by omega) false true) (cwV 3 hts (sm_gV (i1 := 300) (i2 := 301) (i3 := 358) (i4 := 2) (i5 := 302) rfl rfl rfl rfl rfl) rfl rfl rfl (by decide +kernel) ⟨Nat.le_of_ble_eq_true rfl, Nat.le_of_ble_eq_true rfl⟩) hK [0] rfl hP hD hS hA 0 rfl rfl [0, 1, 2, 3, 4, 5, 6] [] rfl rfl (by decide) (by decide) (by decide) rfl hl.1 rfl (Nat.le_of_ble_eq_true rfl) dX1_least_20 ⟨Nat.le_of_ble_eq_true rfl, Nat.le_of_ble_eq_true rfl⟩ rfl rfl (fun H locs hP hD hS => ?_)
  refine lv_l2i (v := (sm_en (sm_one (V r) (S r) false true) true 32).toInt32) hx hb dX1_least_23 rfl ?_
  refine sm_eqi (y := sm_le (V r) (S r)) (sm_endl (V r) (S r)) ?_
  exact sm_iret hx hb hrt hlocks hS hP hD dX1_least_24
set_option maxHeartbeats 4000000 in
set_option maxRecDepth 100000 in
theorem c_mleast_x (l : Launch) (D : va_G) (cZ : ClassId) (m0 m1 m2 m3 m4 m5 m6 : Nat) (err : Int32) (V S M : Nat → Int32) (O G : Int32) (i : Int32) (hi : i < 0 ∨ 16 ≤ i) : sm_C l yX1_least wsX1_least ({ frames := 1, cells := 0, slots := 0, locals := 22 } : Room) D vwCl [(cZ, .boolean)] [.ref m0, .int i] (sm_wM cZ m0 m1 m2 m3 m4 m5 m6 err (sm_fb V) (sm_fb S) (sm_fo M) (sm_fl M) (sm_fw O) (sm_fw G)) (some (.int 0)) (sm_wM cZ m0 m1 m2 m3 m4 m5 m6 1 (sm_fb V) (sm_fb S) (sm_fo M) (sm_fl M) (sm_fw O) (sm_fw G)) := by
  refine sm_start (cc := cX1_least) (maxL := 2) (ret := some .int) (lv := [(0, .ref m0), (1, .int i)]) (by decide) rfl (Nat.le_of_ble_eq_true rfl) rfl ?_
  intro p e s m below meth c hx hb hrt hts hown hlocks hml hin hK hP hD hS hA ls hl
  have hw := sm_hw hts
  refine lv_aload_n hx hb dX1_least_0 rfl (lv_at hl 0 rfl) ?_
  refine lv_iload_n hx hb dX1_least_1 rfl (lv_at hl 1 rfl) ?_
  refine sm_callS (As := [.int i]) (rest := [.ref m0]) (wr := (sm_wM cZ m0 m1 m2 m3 m4 m5 m6 err (sm_fb V) (sm_fb S) (sm_fo M) (sm_fl M) (sm_fw O) (sm_fw G))) (wn := (sm_wM cZ m0 m1 m2 m3 m4 m5 m6 err (sm_fb V) (sm_fb S) (sm_fo M) (sm_fl M) (sm_fw O) (sm_fw G))) (st1 := [.int (sm_bI true), .ref m0]) ⟨hx, hb, hml, hown, hts⟩ (c_none_t l D i hi) (va_cwS 1 hts (sm_gS (i1 := 263) (i2 := 264) (i4 := 2) (i5 := 265) rfl rfl rfl rfl) rfl rfl rfl (by decide +kernel) ⟨Nat.le_of_ble_eq_true rfl, Nat.le_of_ble_eq_true rfl⟩) hK [] rfl hP hD hS hA [] [0, 1, 2, 3, 4, 5, 6] rfl rfl (by decide) (by decide) (by decide) rfl hl.1 rfl (Nat.le_of_ble_eq_true rfl) dX1_least_2 ⟨Nat.le_of_ble_eq_true rfl, Nat.le_of_ble_eq_true rfl⟩ rfl rfl (fun H locs hP hD hS => ?_)
  refine lv_iconst (v := 1) hx hb dX1_least_5 (by decide) ?_
  refine sm_callV (C := RX1) (As := [.int (sm_bI true), .int 1]) (rest := []) (wr := []) (wn := (sm_wM cZ m0 m1 m2 m3 m4 m5 m6 1 (sm_fb V) (sm_fb S) (sm_fo M) (sm_fl M) (sm_fw O) (sm_fw G))) (st1 := [.int (sm_bI true)]) ⟨hx, hb, hml, hown, hts⟩ (c_fails_t l D cZ m0 m1 m2 m3 m4 m5 m6 err V S M O G 1) (cwV 2 hts (sm_gV (i1 := 266) (i2 := 267) (i3 := 348) (i4 := 2) (i5 := 268) rfl rfl rfl rfl rfl) rfl rfl rfl (by decide +kernel) ⟨Nat.le_of_ble_eq_true rfl, Nat.le_of_ble_eq_true rfl⟩) hK [0] rfl hP hD hS hA 0 rfl rfl [0, 1, 2, 3, 4, 5, 6] [] rfl rfl (by decide) (by decide) (by decide) rfl hl.1 rfl (Nat.le_of_ble_eq_true rfl) dX1_least_6 ⟨Nat.le_of_ble_eq_true rfl, Nat.le_of_ble_eq_true rfl⟩ rfl rfl (fun H locs hP hD hS => ?_)
  refine lv_if_eq (tgt := 16) hx hb dX1_least_9 rfl (fun z => absurd z (by decide)) (fun _ => ?_)
  refine lv_iconst (v := 0) hx hb dX1_least_12 (by decide) ?_
  refine lv_goto (tgt := 24) hx hb dX1_least_13 rfl ?_
  exact sm_iret hx hb hrt hlocks hS hP hD dX1_least_24
set_option maxHeartbeats 4000000 in
set_option maxRecDepth 100000 in
theorem c_mgreatest (l : Launch) (D : va_G) (cZ : ClassId) (m0 m1 m2 m3 m4 m5 m6 : Nat) (err : Int32) (V S M : Nat → Int32) (O G : Int32) (r : Nat) (hr : r < 16) : sm_C l yX1_greatest wsX1_greatest ({ frames := 2, cells := 0, slots := 0, locals := 50 } : Room) D vwCl [(cZ, .boolean)] [.ref m0, .int (nI r)] (sm_wM cZ m0 m1 m2 m3 m4 m5 m6 err (sm_fb V) (sm_fb S) (sm_fo M) (sm_fl M) (sm_fw O) (sm_fw G)) (some (.int (sm_he (V r) (S r)))) (sm_wM cZ m0 m1 m2 m3 m4 m5 m6 0 (sm_fb V) (sm_fb S) (sm_fo M) (sm_fl M) (sm_fw O) (sm_fw G)) := by
  refine sm_start (cc := cX1_greatest) (maxL := 2) (ret := some .int) (lv := [(0, .ref m0), (1, .int (nI r))]) (by decide) rfl (Nat.le_of_ble_eq_true rfl) rfl ?_
  intro p e s m below meth c hx hb hrt hts hown hlocks hml hin hK hP hD hS hA ls hl
  have hw := sm_hw hts
  refine lv_aload_n hx hb dX1_greatest_0 rfl (lv_at hl 0 rfl) ?_
  refine lv_iload_n hx hb dX1_greatest_1 rfl (lv_at hl 1 rfl) ?_
  refine sm_callS (As := [.int (nI r)]) (rest := [.ref m0]) (wr := (sm_wM cZ m0 m1 m2 m3 m4 m5 m6 err (sm_fb V) (sm_fb S) (sm_fo M) (sm_fl M) (sm_fw O) (sm_fw G))) (wn := (sm_wM cZ m0 m1 m2 m3 m4 m5 m6 err (sm_fb V) (sm_fb S) (sm_fo M) (sm_fl M) (sm_fw O) (sm_fw G))) (st1 := [.int (sm_bI false), .ref m0]) ⟨hx, hb, hml, hown, hts⟩ (c_none_f l D r (by omega)) (va_cwS 1 hts (sm_gS (i1 := 263) (i2 := 264) (i4 := 2) (i5 := 265) rfl rfl rfl rfl) rfl rfl rfl (by decide +kernel) ⟨Nat.le_of_ble_eq_true rfl, Nat.le_of_ble_eq_true rfl⟩) hK [] rfl hP hD hS hA [] [0, 1, 2, 3, 4, 5, 6] rfl rfl (by decide) (by decide) (by decide) rfl hl.1 rfl (Nat.le_of_ble_eq_true rfl) dX1_greatest_2 ⟨Nat.le_of_ble_eq_true rfl, Nat.le_of_ble_eq_true rfl⟩ rfl rfl (fun H locs hP hD hS => ?_)
  refine lv_iconst (v := 1) hx hb dX1_greatest_5 (by decide) ?_
  refine sm_callV (C := RX1) (As := [.int (sm_bI false), .int 1]) (rest := []) (wr := []) (wn := (sm_wM cZ m0 m1 m2 m3 m4 m5 m6 0 (sm_fb V) (sm_fb S) (sm_fo M) (sm_fl M) (sm_fw O) (sm_fw G))) (st1 := [.int (sm_bI false)]) ⟨hx, hb, hml, hown, hts⟩ (c_fails_f l D cZ m0 m1 m2 m3 m4 m5 m6 err V S M O G 1) (cwV 2 hts (sm_gV (i1 := 266) (i2 := 267) (i3 := 348) (i4 := 2) (i5 := 268) rfl rfl rfl rfl rfl) rfl rfl rfl (by decide +kernel) ⟨Nat.le_of_ble_eq_true rfl, Nat.le_of_ble_eq_true rfl⟩) hK [0] rfl hP hD hS hA 0 rfl rfl [0, 1, 2, 3, 4, 5, 6] [] rfl rfl (by decide) (by decide) (by decide) rfl hl.1 rfl (Nat.le_of_ble_eq_true rfl) dX1_greatest_6 ⟨Nat.le_of_ble_eq_true rfl, Nat.le_of_ble_eq_true rfl⟩ rfl rfl (fun H locs hP hD hS => ?_)
  refine lv_if_eq (tgt := 16) hx hb dX1_greatest_9 rfl (fun _ => ?_) (fun z => absurd (by decide) z)
  refine lv_aload_n hx hb dX1_greatest_16 rfl (lv_at hl 0 rfl) ?_
  refine lv_iload_n hx hb dX1_greatest_17 rfl (lv_at hl 1 rfl) ?_
  refine lv_iconst (v := 1) hx hb dX1_greatest_18 (by decide) ?_
  refine lv_iconst (v := 1) hx hb dX1_greatest_19 (by decide) ?_
  refine sm_callV (C := RX1) (As := [.int (nI r), .int (sm_bI true), .int (sm_bI true)]) (rest := []) (wr := []) (wn := (sm_wM cZ m0 m1 m2 m3 m4 m5 m6 0 (sm_fb V) (sm_fb S) (sm_fo M) (sm_fl M) (sm_fw O) (sm_fw G))) (st1 := [.long (sm_en (sm_one (V r) (S r) true true) true 32)]) ⟨hx, hb, hml, hown, hts⟩ (c_end l D cZ m0 m1 m2 m3 m4 m5 m6 0 V S M O G r (by omega) true true) (cwV 3 hts (sm_gV (i1 := 300) (i2 := 301) (i3 := 358) (i4 := 2) (i5 := 302) rfl rfl rfl rfl rfl) rfl rfl rfl (by decide +kernel) ⟨Nat.le_of_ble_eq_true rfl, Nat.le_of_ble_eq_true rfl⟩) hK [0] rfl hP hD hS hA 0 rfl rfl [0, 1, 2, 3, 4, 5, 6] [] rfl rfl (by decide) (by decide) (by decide) rfl hl.1 rfl (Nat.le_of_ble_eq_true rfl) dX1_greatest_20 ⟨Nat.le_of_ble_eq_true rfl, Nat.le_of_ble_eq_true rfl⟩ rfl rfl (fun H locs hP hD hS => ?_)
  refine lv_l2i (v := (sm_en (sm_one (V r) (S r) true true) true 32).toInt32) hx hb dX1_greatest_23 rfl ?_
  refine sm_eqi (y := sm_he (V r) (S r)) (sm_endh (V r) (S r)) ?_
  exact sm_iret hx hb hrt hlocks hS hP hD dX1_greatest_24
set_option maxHeartbeats 4000000 in
set_option maxRecDepth 100000 in
theorem c_mgreatest_x (l : Launch) (D : va_G) (cZ : ClassId) (m0 m1 m2 m3 m4 m5 m6 : Nat) (err : Int32) (V S M : Nat → Int32) (O G : Int32) (i : Int32) (hi : i < 0 ∨ 16 ≤ i) : sm_C l yX1_greatest wsX1_greatest ({ frames := 1, cells := 0, slots := 0, locals := 22 } : Room) D vwCl [(cZ, .boolean)] [.ref m0, .int i] (sm_wM cZ m0 m1 m2 m3 m4 m5 m6 err (sm_fb V) (sm_fb S) (sm_fo M) (sm_fl M) (sm_fw O) (sm_fw G)) (some (.int 0)) (sm_wM cZ m0 m1 m2 m3 m4 m5 m6 1 (sm_fb V) (sm_fb S) (sm_fo M) (sm_fl M) (sm_fw O) (sm_fw G)) := by
  refine sm_start (cc := cX1_greatest) (maxL := 2) (ret := some .int) (lv := [(0, .ref m0), (1, .int i)]) (by decide) rfl (Nat.le_of_ble_eq_true rfl) rfl ?_
  intro p e s m below meth c hx hb hrt hts hown hlocks hml hin hK hP hD hS hA ls hl
  have hw := sm_hw hts
  refine lv_aload_n hx hb dX1_greatest_0 rfl (lv_at hl 0 rfl) ?_
  refine lv_iload_n hx hb dX1_greatest_1 rfl (lv_at hl 1 rfl) ?_
  refine sm_callS (As := [.int i]) (rest := [.ref m0]) (wr := (sm_wM cZ m0 m1 m2 m3 m4 m5 m6 err (sm_fb V) (sm_fb S) (sm_fo M) (sm_fl M) (sm_fw O) (sm_fw G))) (wn := (sm_wM cZ m0 m1 m2 m3 m4 m5 m6 err (sm_fb V) (sm_fb S) (sm_fo M) (sm_fl M) (sm_fw O) (sm_fw G))) (st1 := [.int (sm_bI true), .ref m0]) ⟨hx, hb, hml, hown, hts⟩ (c_none_t l D i hi) (va_cwS 1 hts (sm_gS (i1 := 263) (i2 := 264) (i4 := 2) (i5 := 265) rfl rfl rfl rfl) rfl rfl rfl (by decide +kernel) ⟨Nat.le_of_ble_eq_true rfl, Nat.le_of_ble_eq_true rfl⟩) hK [] rfl hP hD hS hA [] [0, 1, 2, 3, 4, 5, 6] rfl rfl (by decide) (by decide) (by decide) rfl hl.1 rfl (Nat.le_of_ble_eq_true rfl) dX1_greatest_2 ⟨Nat.le_of_ble_eq_true rfl, Nat.le_of_ble_eq_true rfl⟩ rfl rfl (fun H locs hP hD hS => ?_)
  refine lv_iconst (v := 1) hx hb dX1_greatest_5 (by decide) ?_
  refine sm_callV (C := RX1) (As := [.int (sm_bI true), .int 1]) (rest := []) (wr := []) (wn := (sm_wM cZ m0 m1 m2 m3 m4 m5 m6 1 (sm_fb V) (sm_fb S) (sm_fo M) (sm_fl M) (sm_fw O) (sm_fw G))) (st1 := [.int (sm_bI true)]) ⟨hx, hb, hml, hown, hts⟩ (c_fails_t l D cZ m0 m1 m2 m3 m4 m5 m6 err V S M O G 1) (cwV 2 hts (sm_gV (i1 := 266) (i2 := 267) (i3 := 348) (i4 := 2) (i5 := 268) rfl rfl rfl rfl rfl) rfl rfl rfl (by decide +kernel) ⟨Nat.le_of_ble_eq_true rfl, Nat.le_of_ble_eq_true rfl⟩) hK [0] rfl hP hD hS hA 0 rfl rfl [0, 1, 2, 3, 4, 5, 6] [] rfl rfl (by decide) (by decide) (by decide) rfl hl.1 rfl (Nat.le_of_ble_eq_true rfl) dX1_greatest_6 ⟨Nat.le_of_ble_eq_true rfl, Nat.le_of_ble_eq_true rfl⟩ rfl rfl (fun H locs hP hD hS => ?_)
  refine lv_if_eq (tgt := 16) hx hb dX1_greatest_9 rfl (fun z => absurd z (by decide)) (fun _ => ?_)
  refine lv_iconst (v := 0) hx hb dX1_greatest_12 (by decide) ?_
  refine lv_goto (tgt := 24) hx hb dX1_greatest_13 rfl ?_
  exact sm_iret hx hb hrt hlocks hS hP hD dX1_greatest_24
set_option maxHeartbeats 4000000 in
set_option maxRecDepth 100000 in
theorem c_moctet (l : Launch) (D : va_G) (cZ : ClassId) (m0 m1 m2 m3 m4 m5 m6 : Nat) (err : Int32) (V S M : Nat → Int32) (O G : Int32) (r : Nat) (hr : r < 256) (hM : M r = M r &&& 65535) : sm_C l yX1_octet wsX1_octet ({ frames := 1, cells := 0, slots := 0, locals := 22 } : Room) D vwCl [(cZ, .boolean)] [.ref m0, .int (nI r)] (sm_wM cZ m0 m1 m2 m3 m4 m5 m6 err (sm_fb V) (sm_fb S) (sm_fo M) (sm_fl M) (sm_fw O) (sm_fw G)) (some (.int (M r))) (sm_wM cZ m0 m1 m2 m3 m4 m5 m6 0 (sm_fb V) (sm_fb S) (sm_fo M) (sm_fl M) (sm_fw O) (sm_fw G)) := by
  refine sm_start (cc := cX1_octet) (maxL := 4) (ret := some .int) (lv := [(0, .ref m0), (1, .int (nI r))]) (by decide) rfl (Nat.le_of_ble_eq_true rfl) rfl ?_
  intro p e s m below meth c hx hb hrt hts hown hlocks hml hin hK hP hD hS hA ls hl
  have hw := sm_hw hts
  refine lv_aload_n hx hb dX1_octet_0 rfl (lv_at hl 0 rfl) ?_
  refine lv_iload_n hx hb dX1_octet_1 rfl (lv_at hl 1 rfl) ?_
  refine lv_if_lt (tgt := 12) hx hb dX1_octet_2 rfl (fun z => absurd z (nI_pos (by omega))) (fun _ => ?_)
  refine lv_iload_n hx hb dX1_octet_5 rfl (lv_at hl 1 rfl) ?_
  refine lv_sipush (v := 256) hx hb dX1_octet_6 (by decide) ?_
  refine lv_icmp_lt (tgt := 16) hx hb dX1_octet_9 rfl (fun _ => ?_) (fun z => absurd (nI_lt (b := 256) hr (by decide)) z)
  refine lv_iconst (v := 0) hx hb dX1_octet_16 (by decide) ?_
  refine lv_iconst (v := 1) hx hb dX1_octet_17 (by decide) ?_
  refine sm_callV (C := RX1) (As := [.int (sm_bI false), .int 1]) (rest := []) (wr := []) (wn := (sm_wM cZ m0 m1 m2 m3 m4 m5 m6 0 (sm_fb V) (sm_fb S) (sm_fo M) (sm_fl M) (sm_fw O) (sm_fw G))) (st1 := [.int (sm_bI false)]) ⟨hx, hb, hml, hown, hts⟩ (c_fails_f l D cZ m0 m1 m2 m3 m4 m5 m6 err V S M O G 1) (cwV 2 hts (sm_gV (i1 := 266) (i2 := 267) (i3 := 348) (i4 := 2) (i5 := 268) rfl rfl rfl rfl rfl) rfl rfl rfl (by decide +kernel) ⟨Nat.le_of_ble_eq_true rfl, Nat.le_of_ble_eq_true rfl⟩) hK [0] rfl hP hD hS hA 0 rfl rfl [0, 1, 2, 3, 4, 5, 6] [] rfl rfl (by decide) (by decide) (by decide) rfl hl.1 rfl (Nat.le_of_ble_eq_true rfl) dX1_octet_18 ⟨Nat.le_of_ble_eq_true rfl, Nat.le_of_ble_eq_true rfl⟩ rfl rfl (fun H locs hP hD hS => ?_)
  refine lv_if_eq (tgt := 26) hx hb dX1_octet_21 rfl (fun _ => ?_) (fun z => absurd (by decide) z)
  refine lv_iconst (v := 0) hx hb dX1_octet_26 (by decide) ?_
  refine lv_istore_n (lv' := [(2, .int 0), (0, .ref m0), (1, .int (nI r))]) hx hb dX1_octet_27 rfl hl (by decide) rfl (fun ls hl => ?_)
  refine lv_iconst (v := 0) hx hb dX1_octet_28 (by decide) ?_
  refine lv_istore_n (lv' := [(3, .int 0), (2, .int 0), (0, .ref m0), (1, .int (nI r))]) hx hb dX1_octet_29 rfl hl (by decide) rfl (fun ls hl => ?_)
  refine sm_loopW (nL := 4) (lv := fun k => [(0, .ref m0), (1, .int (nI r)), (2, .int (sm_oc (M r) k)), (3, .int (nI k))]) (w := fun k => (sm_wM cZ m0 m1 m2 m3 m4 m5 m6 0 (sm_fb V) (sm_fb S) (sm_fo M) (sm_fl M) (sm_fw O) (sm_fw G))) 8 (fun H locs ls hl hP hD hS => ?_) (fun k hk ih H locs ls hl hP hD hS => ?_) (lv_sub hl [2, 3, 1, 0] rfl) (sm_cP (rfl) hP) (sm_cD (rfl) hD) hS
  · have hl : lv_has ls 4 [(0, .ref m0), (1, .int (nI r)), (2, .int (sm_oc (M r) 8)), (3, .int (nI 8))] := hl
    have hP : va_P D vwCl (sm_wM cZ m0 m1 m2 m3 m4 m5 m6 0 (sm_fb V) (sm_fb S) (sm_fo M) (sm_fl M) (sm_fw O) (sm_fw G)) H := hP
    have hD : va_D _ (sm_wM cZ m0 m1 m2 m3 m4 m5 m6 0 (sm_fb V) (sm_fb S) (sm_fo M) (sm_fl M) (sm_fw O) (sm_fw G)) := hD
    refine lv_iload_n hx hb dX1_octet_30 rfl (lv_at hl 3 rfl) ?_
    refine lv_bipush (v := 8) hx hb dX1_octet_31 (by decide) ?_
    refine lv_icmp_ge (tgt := 90) hx hb dX1_octet_33 rfl (fun _ => ?_) (fun z => absurd (by decide) z)
    refine lv_iload_n hx hb dX1_octet_90 rfl (lv_at hl 2 rfl) ?_
    refine sm_eqi (y := M r) (sm_oc8 hM) ?_
    exact sm_iret hx hb hrt hlocks hS hP hD dX1_octet_91
  · have hl : lv_has ls 4 [(0, .ref m0), (1, .int (nI r)), (2, .int (sm_oc (M r) k)), (3, .int (nI k))] := hl
    have hP : va_P D vwCl (sm_wM cZ m0 m1 m2 m3 m4 m5 m6 0 (sm_fb V) (sm_fb S) (sm_fo M) (sm_fl M) (sm_fw O) (sm_fw G)) H := hP
    have hD : va_D _ (sm_wM cZ m0 m1 m2 m3 m4 m5 m6 0 (sm_fb V) (sm_fb S) (sm_fo M) (sm_fl M) (sm_fw O) (sm_fw G)) := hD
    refine lv_iload_n hx hb dX1_octet_30 rfl (lv_at hl 3 rfl) ?_
    refine lv_bipush (v := 8) hx hb dX1_octet_31 (by decide) ?_
    refine lv_icmp_ge (tgt := 90) hx hb dX1_octet_33 rfl (fun z => absurd z (nI_ge (b := 8) hk (by decide))) (fun _ => ?_)
    refine lv_iload_n hx hb dX1_octet_36 rfl (lv_at hl 2 rfl) ?_
    refine lv_aload_n hx hb dX1_octet_37 rfl (lv_at hl 0 rfl) ?_
    refine va_get (D := D) (ci := 1) (v := .ref m3) (C := RX1) (T := TX1) (N := 7) hx hb hts inX1 hown hK hP 0 rfl rfl 3 (by decide) (hw 235 rfl) (fun _ h9 => h9) rfl dX1_octet_38 ?_
    refine lv_bipush (v := 8) hx hb dX1_octet_41 (by decide) ?_
    refine lv_iload_n hx hb dX1_octet_43 rfl (lv_at hl 1 rfl) ?_
    refine lv_imul hx hb dX1_octet_44 ?_
    refine sm_eqi (y := nI (8 * r)) (pk_mul 8 r) ?_
    refine lv_iload_n hx hb dX1_octet_45 rfl (lv_at hl 3 rfl) ?_
    refine lv_iadd hx hb dX1_octet_46 ?_
    refine sm_eqi (y := nI ((8 * r) + k)) (nI_add (8 * r) k) ?_
    refine va_zald hx hb hK hP 3 0 rfl rfl (vp_in_nI (n := (8 * r) + k) (by omega) (by decide)) dX1_octet_47 ?_
    refine sm_eqi (y := sm_bI (bt (M r) k)) ((sm_cl _ (n := (8 * r) + k) (by omega)).trans (sm_fo_at M (by omega))) ?_
    refine sm_ifb_eq (tgt := 57) hx hb dX1_octet_48 rfl (fun h48 => ?_) (fun h48 => ?_)
    · refine lv_iconst (v := 0) hx hb dX1_octet_57 (by decide) ?_
      refine lv_aload_n hx hb dX1_octet_58 rfl (lv_at hl 0 rfl) ?_
      refine va_get (D := D) (ci := 1) (v := .ref m4) (C := RX1) (T := TX1) (N := 7) hx hb hts inX1 hown hK hP 0 rfl rfl 4 (by decide) (hw 236 rfl) (fun _ h9 => h9) rfl dX1_octet_59 ?_
      refine lv_bipush (v := 8) hx hb dX1_octet_62 (by decide) ?_
      refine lv_iload_n hx hb dX1_octet_64 rfl (lv_at hl 1 rfl) ?_
      refine lv_imul hx hb dX1_octet_65 ?_
      refine sm_eqi (y := nI (8 * r)) (pk_mul 8 r) ?_
      refine lv_iload_n hx hb dX1_octet_66 rfl (lv_at hl 3 rfl) ?_
      refine lv_iadd hx hb dX1_octet_67 ?_
      refine sm_eqi (y := nI ((8 * r) + k)) (nI_add (8 * r) k) ?_
      refine va_zald hx hb hK hP 4 0 rfl rfl (vp_in_nI (n := (8 * r) + k) (by omega) (by decide)) dX1_octet_68 ?_
      refine sm_eqi (y := sm_bI (bt (M r) (8 + k))) ((sm_cl _ (n := (8 * r) + k) (by omega)).trans (sm_fl_at M (by omega))) ?_
      refine sm_ifb_eq (tgt := 80) hx hb dX1_octet_69 rfl (fun h69 => ?_) (fun h69 => ?_)
      · refine lv_iconst (v := 0) hx hb dX1_octet_80 (by decide) ?_
        refine lv_iadd hx hb dX1_octet_81 ?_
        refine sm_eqi (y := 0) (by decide) ?_
        refine lv_iadd hx hb dX1_octet_82 ?_
        refine sm_eqi (y := sm_oc (M r) (k + 1)) (by simp [sm_oc, h48, h69]) ?_
        refine lv_istore_n (lv' := [(2, .int (sm_oc (M r) (k + 1))), (0, .ref m0), (1, .int (nI r)), (3, .int (nI k))]) hx hb dX1_octet_83 rfl hl (by decide) rfl (fun ls hl => ?_)
        refine lv_iinc (k := 3) (v := nI (k + 1)) (lv' := [(3, .int (nI (k + 1))), (2, .int (sm_oc (M r) (k + 1))), (0, .ref m0), (1, .int (nI r))]) hx hb dX1_octet_84 hl rfl (sm_inc k) (by decide) rfl (fun ls hl => ?_)
        refine lv_goto (tgt := 30) hx hb dX1_octet_87 rfl ?_
        exact ih _ _ _ (lv_sub hl [2, 3, 1, 0] rfl) (sm_cP (rfl) hP) (sm_cD (rfl) hD) hS
      · refine lv_sipush (v := 256) hx hb dX1_octet_72 (by decide) ?_
        refine lv_iload_n hx hb dX1_octet_75 rfl (lv_at hl 3 rfl) ?_
        refine lv_ishl hx hb dX1_octet_76 ?_
        refine lv_goto (tgt := 81) hx hb dX1_octet_77 rfl ?_
        refine lv_iadd hx hb dX1_octet_81 ?_
        refine lv_iadd hx hb dX1_octet_82 ?_
        refine sm_eqi (y := sm_oc (M r) (k + 1)) (by simp [sm_oc, h48, h69]) ?_
        refine lv_istore_n (lv' := [(2, .int (sm_oc (M r) (k + 1))), (0, .ref m0), (1, .int (nI r)), (3, .int (nI k))]) hx hb dX1_octet_83 rfl hl (by decide) rfl (fun ls hl => ?_)
        refine lv_iinc (k := 3) (v := nI (k + 1)) (lv' := [(3, .int (nI (k + 1))), (2, .int (sm_oc (M r) (k + 1))), (0, .ref m0), (1, .int (nI r))]) hx hb dX1_octet_84 hl rfl (sm_inc k) (by decide) rfl (fun ls hl => ?_)
        refine lv_goto (tgt := 30) hx hb dX1_octet_87 rfl ?_
        exact ih _ _ _ (lv_sub hl [2, 3, 1, 0] rfl) (sm_cP (rfl) hP) (sm_cD (rfl) hD) hS
    · refine lv_iconst (v := 1) hx hb dX1_octet_51 (by decide) ?_
      refine lv_iload_n hx hb dX1_octet_52 rfl (lv_at hl 3 rfl) ?_
      refine lv_ishl hx hb dX1_octet_53 ?_
      refine lv_goto (tgt := 58) hx hb dX1_octet_54 rfl ?_
      refine lv_aload_n hx hb dX1_octet_58 rfl (lv_at hl 0 rfl) ?_
      refine va_get (D := D) (ci := 1) (v := .ref m4) (C := RX1) (T := TX1) (N := 7) hx hb hts inX1 hown hK hP 0 rfl rfl 4 (by decide) (hw 236 rfl) (fun _ h9 => h9) rfl dX1_octet_59 ?_
      refine lv_bipush (v := 8) hx hb dX1_octet_62 (by decide) ?_
      refine lv_iload_n hx hb dX1_octet_64 rfl (lv_at hl 1 rfl) ?_
      refine lv_imul hx hb dX1_octet_65 ?_
      refine sm_eqi (y := nI (8 * r)) (pk_mul 8 r) ?_
      refine lv_iload_n hx hb dX1_octet_66 rfl (lv_at hl 3 rfl) ?_
      refine lv_iadd hx hb dX1_octet_67 ?_
      refine sm_eqi (y := nI ((8 * r) + k)) (nI_add (8 * r) k) ?_
      refine va_zald hx hb hK hP 4 0 rfl rfl (vp_in_nI (n := (8 * r) + k) (by omega) (by decide)) dX1_octet_68 ?_
      refine sm_eqi (y := sm_bI (bt (M r) (8 + k))) ((sm_cl _ (n := (8 * r) + k) (by omega)).trans (sm_fl_at M (by omega))) ?_
      refine sm_ifb_eq (tgt := 80) hx hb dX1_octet_69 rfl (fun h69 => ?_) (fun h69 => ?_)
      · refine lv_iconst (v := 0) hx hb dX1_octet_80 (by decide) ?_
        refine lv_iadd hx hb dX1_octet_81 ?_
        refine lv_iadd hx hb dX1_octet_82 ?_
        refine sm_eqi (y := sm_oc (M r) (k + 1)) (by simp [sm_oc, h48, h69]) ?_
        refine lv_istore_n (lv' := [(2, .int (sm_oc (M r) (k + 1))), (0, .ref m0), (1, .int (nI r)), (3, .int (nI k))]) hx hb dX1_octet_83 rfl hl (by decide) rfl (fun ls hl => ?_)
        refine lv_iinc (k := 3) (v := nI (k + 1)) (lv' := [(3, .int (nI (k + 1))), (2, .int (sm_oc (M r) (k + 1))), (0, .ref m0), (1, .int (nI r))]) hx hb dX1_octet_84 hl rfl (sm_inc k) (by decide) rfl (fun ls hl => ?_)
        refine lv_goto (tgt := 30) hx hb dX1_octet_87 rfl ?_
        exact ih _ _ _ (lv_sub hl [2, 3, 1, 0] rfl) (sm_cP (rfl) hP) (sm_cD (rfl) hD) hS
      · refine lv_sipush (v := 256) hx hb dX1_octet_72 (by decide) ?_
        refine lv_iload_n hx hb dX1_octet_75 rfl (lv_at hl 3 rfl) ?_
        refine lv_ishl hx hb dX1_octet_76 ?_
        refine lv_goto (tgt := 81) hx hb dX1_octet_77 rfl ?_
        refine lv_iadd hx hb dX1_octet_81 ?_
        refine lv_iadd hx hb dX1_octet_82 ?_
        refine sm_eqi (y := sm_oc (M r) (k + 1)) (by simp [sm_oc, h48, h69]) ?_
        refine lv_istore_n (lv' := [(2, .int (sm_oc (M r) (k + 1))), (0, .ref m0), (1, .int (nI r)), (3, .int (nI k))]) hx hb dX1_octet_83 rfl hl (by decide) rfl (fun ls hl => ?_)
        refine lv_iinc (k := 3) (v := nI (k + 1)) (lv' := [(3, .int (nI (k + 1))), (2, .int (sm_oc (M r) (k + 1))), (0, .ref m0), (1, .int (nI r))]) hx hb dX1_octet_84 hl rfl (sm_inc k) (by decide) rfl (fun ls hl => ?_)
        refine lv_goto (tgt := 30) hx hb dX1_octet_87 rfl ?_
        exact ih _ _ _ (lv_sub hl [2, 3, 1, 0] rfl) (sm_cP (rfl) hP) (sm_cD (rfl) hD) hS
set_option maxHeartbeats 4000000 in
set_option maxRecDepth 100000 in
theorem c_moctet_x (l : Launch) (D : va_G) (cZ : ClassId) (m0 m1 m2 m3 m4 m5 m6 : Nat) (err : Int32) (V S M : Nat → Int32) (O G : Int32) (i : Int32) (hi : i < 0 ∨ 256 ≤ i) : sm_C l yX1_octet wsX1_octet ({ frames := 1, cells := 0, slots := 0, locals := 22 } : Room) D vwCl [(cZ, .boolean)] [.ref m0, .int i] (sm_wM cZ m0 m1 m2 m3 m4 m5 m6 err (sm_fb V) (sm_fb S) (sm_fo M) (sm_fl M) (sm_fw O) (sm_fw G)) (some (.int 0)) (sm_wM cZ m0 m1 m2 m3 m4 m5 m6 1 (sm_fb V) (sm_fb S) (sm_fo M) (sm_fl M) (sm_fw O) (sm_fw G)) := by
  refine sm_start (cc := cX1_octet) (maxL := 4) (ret := some .int) (lv := [(0, .ref m0), (1, .int i)]) (by decide) rfl (Nat.le_of_ble_eq_true rfl) rfl ?_
  intro p e s m below meth c hx hb hrt hts hown hlocks hml hin hK hP hD hS hA ls hl
  have hw := sm_hw hts
  refine lv_aload_n hx hb dX1_octet_0 rfl (lv_at hl 0 rfl) ?_
  refine lv_iload_n hx hb dX1_octet_1 rfl (lv_at hl 1 rfl) ?_
  refine lv_if_lt (tgt := 12) hx hb dX1_octet_2 rfl (fun h2 => ?_) (fun h2 => ?_)
  · refine lv_iconst (v := 1) hx hb dX1_octet_12 (by decide) ?_
    refine lv_goto (tgt := 17) hx hb dX1_octet_13 rfl ?_
    refine lv_iconst (v := 1) hx hb dX1_octet_17 (by decide) ?_
    refine sm_callV (C := RX1) (As := [.int (sm_bI true), .int 1]) (rest := []) (wr := []) (wn := (sm_wM cZ m0 m1 m2 m3 m4 m5 m6 1 (sm_fb V) (sm_fb S) (sm_fo M) (sm_fl M) (sm_fw O) (sm_fw G))) (st1 := [.int (sm_bI true)]) ⟨hx, hb, hml, hown, hts⟩ (c_fails_t l D cZ m0 m1 m2 m3 m4 m5 m6 err V S M O G 1) (cwV 2 hts (sm_gV (i1 := 266) (i2 := 267) (i3 := 348) (i4 := 2) (i5 := 268) rfl rfl rfl rfl rfl) rfl rfl rfl (by decide +kernel) ⟨Nat.le_of_ble_eq_true rfl, Nat.le_of_ble_eq_true rfl⟩) hK [0] rfl hP hD hS hA 0 rfl rfl [0, 1, 2, 3, 4, 5, 6] [] rfl rfl (by decide) (by decide) (by decide) rfl hl.1 rfl (Nat.le_of_ble_eq_true rfl) dX1_octet_18 ⟨Nat.le_of_ble_eq_true rfl, Nat.le_of_ble_eq_true rfl⟩ rfl rfl (fun H locs hP hD hS => ?_)
    refine lv_if_eq (tgt := 26) hx hb dX1_octet_21 rfl (fun z => absurd z (by decide)) (fun _ => ?_)
    refine lv_iconst (v := 0) hx hb dX1_octet_24 (by decide) ?_
    exact sm_iret hx hb hrt hlocks hS hP hD dX1_octet_25
  · refine lv_iload_n hx hb dX1_octet_5 rfl (lv_at hl 1 rfl) ?_
    refine lv_sipush (v := 256) hx hb dX1_octet_6 (by decide) ?_
    refine lv_icmp_lt (tgt := 16) hx hb dX1_octet_9 rfl (fun z => absurd z (sm_orf hi h2)) (fun _ => ?_)
    refine lv_iconst (v := 1) hx hb dX1_octet_12 (by decide) ?_
    refine lv_goto (tgt := 17) hx hb dX1_octet_13 rfl ?_
    refine lv_iconst (v := 1) hx hb dX1_octet_17 (by decide) ?_
    refine sm_callV (C := RX1) (As := [.int (sm_bI true), .int 1]) (rest := []) (wr := []) (wn := (sm_wM cZ m0 m1 m2 m3 m4 m5 m6 1 (sm_fb V) (sm_fb S) (sm_fo M) (sm_fl M) (sm_fw O) (sm_fw G))) (st1 := [.int (sm_bI true)]) ⟨hx, hb, hml, hown, hts⟩ (c_fails_t l D cZ m0 m1 m2 m3 m4 m5 m6 err V S M O G 1) (cwV 2 hts (sm_gV (i1 := 266) (i2 := 267) (i3 := 348) (i4 := 2) (i5 := 268) rfl rfl rfl rfl rfl) rfl rfl rfl (by decide +kernel) ⟨Nat.le_of_ble_eq_true rfl, Nat.le_of_ble_eq_true rfl⟩) hK [0] rfl hP hD hS hA 0 rfl rfl [0, 1, 2, 3, 4, 5, 6] [] rfl rfl (by decide) (by decide) (by decide) rfl hl.1 rfl (Nat.le_of_ble_eq_true rfl) dX1_octet_18 ⟨Nat.le_of_ble_eq_true rfl, Nat.le_of_ble_eq_true rfl⟩ rfl rfl (fun H locs hP hD hS => ?_)
    refine lv_if_eq (tgt := 26) hx hb dX1_octet_21 rfl (fun z => absurd z (by decide)) (fun _ => ?_)
    refine lv_iconst (v := 0) hx hb dX1_octet_24 (by decide) ?_
    exact sm_iret hx hb hrt hlocks hS hP hD dX1_octet_25
set_option maxHeartbeats 4000000 in
set_option maxRecDepth 100000 in
theorem c_mcount (l : Launch) (D : va_G) (cZ : ClassId) (m0 m1 m2 m3 m4 m5 m6 : Nat) (err : Int32) (V S M : Nat → Int32) (O G : Int32) : sm_C l yX1_count wsX1_count ({ frames := 0, cells := 0, slots := 0, locals := 0 } : Room) D vwCl [(cZ, .boolean)] [.ref m0] (sm_wM cZ m0 m1 m2 m3 m4 m5 m6 err (sm_fb V) (sm_fb S) (sm_fo M) (sm_fl M) (sm_fw O) (sm_fw G)) (some (.int (nI (sm_pc (fun j => bt (S (j / 32)) (j % 32)) 512)))) (sm_wM cZ m0 m1 m2 m3 m4 m5 m6 0 (sm_fb V) (sm_fb S) (sm_fo M) (sm_fl M) (sm_fw O) (sm_fw G)) := by
  refine sm_start (cc := cX1_count) (maxL := 3) (ret := some .int) (lv := [(0, .ref m0)]) (by decide) rfl (Nat.le_of_ble_eq_true rfl) rfl ?_
  intro p e s m below meth c hx hb hrt hts hown hlocks hml hin hK hP hD hS hA ls hl
  have hw := sm_hw hts
  refine lv_aload_n hx hb dX1_count_0 rfl (lv_at hl 0 rfl) ?_
  refine lv_iconst (v := 0) hx hb dX1_count_1 (by decide) ?_
  refine sm_put (D := D) (ci := 1) (v := .int 0) (ty := .int) (C := RX1) (T := TX1) (N := 7) (ws' := (sm_wM cZ m0 m1 m2 m3 m4 m5 m6 0 (sm_fb V) (sm_fb S) (sm_fo M) (sm_fl M) (sm_fw O) (sm_fw G))) hx hb hts inX1 tyX1 tyX1_ok nX1 hown hK hP hD hS 0 rfl rfl 0 (by decide) (hw 232 rfl) (fun _ h9 => h9) rfl (by decide +kernel) rfl rfl (Nat.le_of_ble_eq_true rfl) dX1_count_2 rfl (fun H locs hP hD hS => ?_)
  refine lv_iconst (v := 0) hx hb dX1_count_5 (by decide) ?_
  refine lv_istore_n (lv' := [(1, .int 0), (0, .ref m0)]) hx hb dX1_count_6 rfl hl (by decide) rfl (fun ls hl => ?_)
  refine lv_iconst (v := 0) hx hb dX1_count_7 (by decide) ?_
  refine lv_istore_n (lv' := [(2, .int 0), (1, .int 0), (0, .ref m0)]) hx hb dX1_count_8 rfl hl (by decide) rfl (fun ls hl => ?_)
  refine sm_loopW (nL := 3) (lv := fun k => [(0, .ref m0), (1, .int (nI (sm_pc (fun j => bt (S (j / 32)) (j % 32)) k))), (2, .int (nI k))]) (w := fun k => (sm_wM cZ m0 m1 m2 m3 m4 m5 m6 0 (sm_fb V) (sm_fb S) (sm_fo M) (sm_fl M) (sm_fw O) (sm_fw G))) 512 (fun H locs ls hl hP hD hS => ?_) (fun k hk ih H locs ls hl hP hD hS => ?_) (lv_sub hl [2, 1, 0] rfl) (sm_cP (rfl) hP) (sm_cD (rfl) hD) hS
  · have hl : lv_has ls 3 [(0, .ref m0), (1, .int (nI (sm_pc (fun j => bt (S (j / 32)) (j % 32)) 512))), (2, .int (nI 512))] := hl
    have hP : va_P D vwCl (sm_wM cZ m0 m1 m2 m3 m4 m5 m6 0 (sm_fb V) (sm_fb S) (sm_fo M) (sm_fl M) (sm_fw O) (sm_fw G)) H := hP
    have hD : va_D _ (sm_wM cZ m0 m1 m2 m3 m4 m5 m6 0 (sm_fb V) (sm_fb S) (sm_fo M) (sm_fl M) (sm_fw O) (sm_fw G)) := hD
    refine lv_iload_n hx hb dX1_count_9 rfl (lv_at hl 2 rfl) ?_
    refine lv_sipush (v := 512) hx hb dX1_count_10 (by decide) ?_
    refine lv_icmp_ge (tgt := 34) hx hb dX1_count_13 rfl (fun _ => ?_) (fun z => absurd (by decide) z)
    refine lv_iload_n hx hb dX1_count_34 rfl (lv_at hl 1 rfl) ?_
    exact sm_iret hx hb hrt hlocks hS hP hD dX1_count_35
  · have hl : lv_has ls 3 [(0, .ref m0), (1, .int (nI (sm_pc (fun j => bt (S (j / 32)) (j % 32)) k))), (2, .int (nI k))] := hl
    have hP : va_P D vwCl (sm_wM cZ m0 m1 m2 m3 m4 m5 m6 0 (sm_fb V) (sm_fb S) (sm_fo M) (sm_fl M) (sm_fw O) (sm_fw G)) H := hP
    have hD : va_D _ (sm_wM cZ m0 m1 m2 m3 m4 m5 m6 0 (sm_fb V) (sm_fb S) (sm_fo M) (sm_fl M) (sm_fw O) (sm_fw G)) := hD
    refine lv_iload_n hx hb dX1_count_9 rfl (lv_at hl 2 rfl) ?_
    refine lv_sipush (v := 512) hx hb dX1_count_10 (by decide) ?_
    refine lv_icmp_ge (tgt := 34) hx hb dX1_count_13 rfl (fun z => absurd z (nI_ge (b := 512) hk (by decide))) (fun _ => ?_)
    refine lv_aload_n hx hb dX1_count_16 rfl (lv_at hl 0 rfl) ?_
    refine va_get (D := D) (ci := 1) (v := .ref m2) (C := RX1) (T := TX1) (N := 7) hx hb hts inX1 hown hK hP 0 rfl rfl 2 (by decide) (hw 234 rfl) (fun _ h9 => h9) rfl dX1_count_17 ?_
    refine lv_iload_n hx hb dX1_count_20 rfl (lv_at hl 2 rfl) ?_
    refine va_zald hx hb hK hP 2 0 rfl rfl (vp_in_nI (n := k) (by omega) (by decide)) dX1_count_21 ?_
    refine sm_eqi (y := sm_bI (bt (S (k / 32)) (k % 32))) ((sm_cl _ (n := k) (by omega)).trans rfl) ?_
    refine sm_ifb_eq (tgt := 28) hx hb dX1_count_22 rfl (fun h22 => ?_) (fun h22 => ?_)
    · have hl : lv_has ls 3 [(0, .ref m0), (1, .int (nI (sm_pc (fun j => bt (S (j / 32)) (j % 32)) (k + 1)))), (2, .int (nI k))] := by rw [sm_pc_n (g := fun j => bt (S (j / 32)) (j % 32)) h22]; exact hl
      refine lv_iinc (k := 2) (v := nI (k + 1)) (lv' := [(2, .int (nI (k + 1))), (0, .ref m0), (1, .int (nI (sm_pc (fun j => bt (S (j / 32)) (j % 32)) (k + 1))))]) hx hb dX1_count_28 hl rfl (sm_inc k) (by decide) rfl (fun ls hl => ?_)
      refine lv_goto (tgt := 9) hx hb dX1_count_31 rfl ?_
      exact ih _ _ _ (lv_sub hl [1, 2, 0] rfl) (sm_cP (rfl) hP) (sm_cD (rfl) hD) hS
    · refine lv_iinc (k := 1) (v := nI (sm_pc (fun j => bt (S (j / 32)) (j % 32)) (k + 1))) (lv' := [(1, .int (nI (sm_pc (fun j => bt (S (j / 32)) (j % 32)) (k + 1)))), (0, .ref m0), (2, .int (nI k))]) hx hb dX1_count_25 hl rfl (sm_pcI h22) (by decide) rfl (fun ls hl => ?_)
      refine lv_iinc (k := 2) (v := nI (k + 1)) (lv' := [(2, .int (nI (k + 1))), (1, .int (nI (sm_pc (fun j => bt (S (j / 32)) (j % 32)) (k + 1)))), (0, .ref m0)]) hx hb dX1_count_28 hl rfl (sm_inc k) (by decide) rfl (fun ls hl => ?_)
      refine lv_goto (tgt := 9) hx hb dX1_count_31 rfl ?_
      exact ih _ _ _ (lv_sub hl [2, 1, 0] rfl) (sm_cP (rfl) hP) (sm_cD (rfl) hD) hS
set_option maxHeartbeats 4000000 in
set_option maxRecDepth 100000 in
theorem c_wrong_1 (l : Launch) (D : va_G)  : sm_C l yX1_wrong wsX1_wrong ({ frames := 0, cells := 0, slots := 0, locals := 0 } : Room) D vwCl [] [.int 1] [] (some (.int (sm_bI false))) [] := by
  refine sm_start (cc := cX1_wrong) (maxL := 1) (ret := some .boolean) (lv := [(0, .int 1)]) (by decide) rfl (Nat.le_of_ble_eq_true rfl) rfl ?_
  intro p e s m below meth c hx hb hrt hts hown hlocks hml hin hK hP hD hS hA ls hl
  have hw := sm_hw hts
  refine lv_iload_n hx hb dX1_wrong_0 rfl (lv_at hl 0 rfl) ?_
  refine lv_iconst (v := 1) hx hb dX1_wrong_1 (by decide) ?_
  refine lv_icmp_eq (tgt := 19) hx hb dX1_wrong_2 rfl (fun _ => ?_) (fun z => absurd (by decide) z)
  refine lv_iconst (v := 0) hx hb dX1_wrong_19 (by decide) ?_
  refine sm_eqi (y := sm_bI false) (rfl) ?_
  exact sm_zret hx hb hrt hlocks hS hP hD dX1_wrong_20
set_option maxHeartbeats 4000000 in
set_option maxRecDepth 100000 in
theorem c_wrong_2 (l : Launch) (D : va_G)  : sm_C l yX1_wrong wsX1_wrong ({ frames := 0, cells := 0, slots := 0, locals := 0 } : Room) D vwCl [] [.int 2] [] (some (.int (sm_bI false))) [] := by
  refine sm_start (cc := cX1_wrong) (maxL := 1) (ret := some .boolean) (lv := [(0, .int 2)]) (by decide) rfl (Nat.le_of_ble_eq_true rfl) rfl ?_
  intro p e s m below meth c hx hb hrt hts hown hlocks hml hin hK hP hD hS hA ls hl
  have hw := sm_hw hts
  refine lv_iload_n hx hb dX1_wrong_0 rfl (lv_at hl 0 rfl) ?_
  refine lv_iconst (v := 1) hx hb dX1_wrong_1 (by decide) ?_
  refine lv_icmp_eq (tgt := 19) hx hb dX1_wrong_2 rfl (fun z => absurd z (by decide)) (fun _ => ?_)
  refine lv_iload_n hx hb dX1_wrong_5 rfl (lv_at hl 0 rfl) ?_
  refine lv_iconst (v := 2) hx hb dX1_wrong_6 (by decide) ?_
  refine lv_icmp_eq (tgt := 19) hx hb dX1_wrong_7 rfl (fun _ => ?_) (fun z => absurd (by decide) z)
  refine lv_iconst (v := 0) hx hb dX1_wrong_19 (by decide) ?_
  refine sm_eqi (y := sm_bI false) (rfl) ?_
  exact sm_zret hx hb hrt hlocks hS hP hD dX1_wrong_20
set_option maxHeartbeats 4000000 in
set_option maxRecDepth 100000 in
theorem c_wrong_4 (l : Launch) (D : va_G)  : sm_C l yX1_wrong wsX1_wrong ({ frames := 0, cells := 0, slots := 0, locals := 0 } : Room) D vwCl [] [.int 4] [] (some (.int (sm_bI false))) [] := by
  refine sm_start (cc := cX1_wrong) (maxL := 1) (ret := some .boolean) (lv := [(0, .int 4)]) (by decide) rfl (Nat.le_of_ble_eq_true rfl) rfl ?_
  intro p e s m below meth c hx hb hrt hts hown hlocks hml hin hK hP hD hS hA ls hl
  have hw := sm_hw hts
  refine lv_iload_n hx hb dX1_wrong_0 rfl (lv_at hl 0 rfl) ?_
  refine lv_iconst (v := 1) hx hb dX1_wrong_1 (by decide) ?_
  refine lv_icmp_eq (tgt := 19) hx hb dX1_wrong_2 rfl (fun z => absurd z (by decide)) (fun _ => ?_)
  refine lv_iload_n hx hb dX1_wrong_5 rfl (lv_at hl 0 rfl) ?_
  refine lv_iconst (v := 2) hx hb dX1_wrong_6 (by decide) ?_
  refine lv_icmp_eq (tgt := 19) hx hb dX1_wrong_7 rfl (fun z => absurd z (by decide)) (fun _ => ?_)
  refine lv_iload_n hx hb dX1_wrong_10 rfl (lv_at hl 0 rfl) ?_
  refine lv_iconst (v := 4) hx hb dX1_wrong_11 (by decide) ?_
  refine lv_icmp_eq (tgt := 19) hx hb dX1_wrong_12 rfl (fun _ => ?_) (fun z => absurd (by decide) z)
  refine lv_iconst (v := 0) hx hb dX1_wrong_19 (by decide) ?_
  refine sm_eqi (y := sm_bI false) (rfl) ?_
  exact sm_zret hx hb hrt hlocks hS hP hD dX1_wrong_20
set_option maxHeartbeats 4000000 in
set_option maxRecDepth 100000 in
theorem c_wrong_x (l : Launch) (D : va_G) (i : Int32) (h1 : ¬ i = 1) (h2 : ¬ i = 2) (h4 : ¬ i = 4) : sm_C l yX1_wrong wsX1_wrong ({ frames := 0, cells := 0, slots := 0, locals := 0 } : Room) D vwCl [] [.int i] [] (some (.int (sm_bI true))) [] := by
  refine sm_start (cc := cX1_wrong) (maxL := 1) (ret := some .boolean) (lv := [(0, .int i)]) (by decide) rfl (Nat.le_of_ble_eq_true rfl) rfl ?_
  intro p e s m below meth c hx hb hrt hts hown hlocks hml hin hK hP hD hS hA ls hl
  have hw := sm_hw hts
  refine lv_iload_n hx hb dX1_wrong_0 rfl (lv_at hl 0 rfl) ?_
  refine lv_iconst (v := 1) hx hb dX1_wrong_1 (by decide) ?_
  refine lv_icmp_eq (tgt := 19) hx hb dX1_wrong_2 rfl (fun z => absurd z (h1)) (fun _ => ?_)
  refine lv_iload_n hx hb dX1_wrong_5 rfl (lv_at hl 0 rfl) ?_
  refine lv_iconst (v := 2) hx hb dX1_wrong_6 (by decide) ?_
  refine lv_icmp_eq (tgt := 19) hx hb dX1_wrong_7 rfl (fun z => absurd z (h2)) (fun _ => ?_)
  refine lv_iload_n hx hb dX1_wrong_10 rfl (lv_at hl 0 rfl) ?_
  refine lv_iconst (v := 4) hx hb dX1_wrong_11 (by decide) ?_
  refine lv_icmp_eq (tgt := 19) hx hb dX1_wrong_12 rfl (fun z => absurd z (h4)) (fun _ => ?_)
  refine lv_iconst (v := 1) hx hb dX1_wrong_15 (by decide) ?_
  refine lv_goto (tgt := 20) hx hb dX1_wrong_16 rfl ?_
  refine sm_eqi (y := sm_bI true) (rfl) ?_
  exact sm_zret hx hb hrt hlocks hS hP hD dX1_wrong_20
end
