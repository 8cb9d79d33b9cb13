def RX0 : String := "ShadowMath"
def RX1 : String := "ShadowMathModel"
def RL : String := "ShadowMathLaw"
def RJ6 : String := "java/lang/Integer"
def TX0 : u_T := fun k => match k with
  | 0 => ("ShadowMath", "values", "[I", true)
  | 1 => ("ShadowMath", "shadows", "[I", true)
  | _ => ("ShadowMath", "memory", "[I", true)
def tyX0 : Nat → FieldType := fun k => match k with
  | 0 => .array .int
  | 1 => .array .int
  | _ => .array .int
def TX1 : u_T := fun k => match k with
  | 0 => ("ShadowMathModel", "err", "I", false)
  | 1 => ("ShadowMathModel", "bit", "[Z", true)
  | 2 => ("ShadowMathModel", "lost", "[Z", true)
  | 3 => ("ShadowMathModel", "octetBit", "[Z", true)
  | 4 => ("ShadowMathModel", "octetLost", "[Z", true)
  | 5 => ("ShadowMathModel", "out", "[Z", true)
  | _ => ("ShadowMathModel", "gone", "[Z", true)
def tyX1 : Nat → FieldType := fun k => match k with
  | 0 => .int
  | 1 => .array .boolean
  | 2 => .array .boolean
  | 3 => .array .boolean
  | 4 => .array .boolean
  | 5 => .array .boolean
  | _ => .array .boolean
theorem nX0 : ∀ a, a < 3 → ∀ b, b < 3 → a ≠ b → (TX0 a).2.1 ≠ (TX0 b).2.1 := by decide +kernel
theorem tyX0_ok : ∀ k, k < 3 → parseFieldDescriptor (TX0 k).2.2.1 = some (tyX0 k) := by decide +kernel
theorem nX1 : ∀ a, a < 7 → ∀ b, b < 7 → a ≠ b → (TX1 a).2.1 ≠ (TX1 b).2.1 := by decide +kernel
theorem tyX1_ok : ∀ k, k < 7 → parseFieldDescriptor (TX1 k).2.2.1 = some (tyX1 k) := by decide +kernel
abbrev vwCl : List vw_C := [(RX0, TX0, 3), (RX1, TX1, 7)]
abbrev cX0_init : ByteArray := prog_1_method_1_code
def yX0_init : MethodName := ⟨RX0, "<init>", "()V"⟩
abbrev cX0_count : ByteArray := prog_1_method_11_code
def yX0_count : MethodName := ⟨RX0, "count", "()I"⟩
abbrev cJ6_bitCount : ByteArray := prog_7_method_49_code
def yJ6_bitCount : MethodName := ⟨RJ6, "bitCount", "(I)I"⟩
abbrev cL_set : ByteArray := method_3_code
def yL_set : MethodName := ⟨RL, "set", "(LShadowMath;III)I"⟩
abbrev cX0_set : ByteArray := prog_1_method_2_code
def yX0_set : MethodName := ⟨RX0, "set", "(III)V"⟩
abbrev cX0_checkRegister : ByteArray := prog_1_method_12_code
def yX0_checkRegister : MethodName := ⟨RX0, "checkRegister", "(I)V"⟩
abbrev cL_op : ByteArray := method_4_code
def yL_op : MethodName := ⟨RL, "op", "(LShadowMath;IIII)I"⟩
abbrev cX0_op : ByteArray := prog_1_method_3_code
def yX0_op : MethodName := ⟨RX0, "op", "(IIII)V"⟩
abbrev cX0_valueOf : ByteArray := prog_1_method_14_code
def yX0_valueOf : MethodName := ⟨RX0, "valueOf", "(IIII)I"⟩
abbrev cX0_shifted : ByteArray := prog_1_method_18_code
def yX0_shifted : MethodName := ⟨RX0, "shifted", "(III)I"⟩
abbrev cX0_bit : ByteArray := prog_1_method_27_code
def yX0_bit : MethodName := ⟨RX0, "bit", "(Z)I"⟩
abbrev cX0_signTurned : ByteArray := prog_1_method_22_code
def yX0_signTurned : MethodName := ⟨RX0, "signTurned", "(I)I"⟩
abbrev cX0_chosen : ByteArray := prog_1_method_16_code
def yX0_chosen : MethodName := ⟨RX0, "chosen", "(I)Z"⟩
abbrev cX0_shadowOf : ByteArray := prog_1_method_15_code
def yX0_shadowOf : MethodName := ⟨RX0, "shadowOf", "(IIII)I"⟩
abbrev cJ6_numberOfTrailingZeros : ByteArray := prog_7_method_48_code
def yJ6_numberOfTrailingZeros : MethodName := ⟨RJ6, "numberOfTrailingZeros", "(I)I"⟩
abbrev cX0_fromPlaceOn : ByteArray := prog_1_method_20_code
def yX0_fromPlaceOn : MethodName := ⟨RX0, "fromPlaceOn", "(I)I"⟩
abbrev cX0_placeLostBy : ByteArray := prog_1_method_21_code
def yX0_placeLostBy : MethodName := ⟨RX0, "placeLostBy", "(III)I"⟩
abbrev cX0_orderHangs : ByteArray := prog_1_method_23_code
def yX0_orderHangs : MethodName := ⟨RX0, "orderHangs", "(IIII)Z"⟩
abbrev cX0_lowEnd : ByteArray := prog_1_method_25_code
def yX0_lowEnd : MethodName := ⟨RX0, "lowEnd", "(II)I"⟩
abbrev cX0_highEnd : ByteArray := prog_1_method_26_code
def yX0_highEnd : MethodName := ⟨RX0, "highEnd", "(II)I"⟩
abbrev cX0_samenessHangs : ByteArray := prog_1_method_24_code
def yX0_samenessHangs : MethodName := ⟨RX0, "samenessHangs", "(III)Z"⟩
abbrev cX0_choiceShadow : ByteArray := prog_1_method_17_code
def yX0_choiceShadow : MethodName := ⟨RX0, "choiceShadow", "(III)I"⟩
abbrev cL_store : ByteArray := method_5_code
def yL_store : MethodName := ⟨RL, "store", "(LShadowMath;III)I"⟩
abbrev cX0_store : ByteArray := prog_1_method_4_code
def yX0_store : MethodName := ⟨RX0, "store", "(III)V"⟩
abbrev cX0_checkTransfer : ByteArray := prog_1_method_13_code
def yX0_checkTransfer : MethodName := ⟨RX0, "checkTransfer", "(III)V"⟩
abbrev cL_load : ByteArray := method_6_code
def yL_load : MethodName := ⟨RL, "load", "(LShadowMath;IIIZ)I"⟩
abbrev cX0_load : ByteArray := prog_1_method_5_code
def yX0_load : MethodName := ⟨RX0, "load", "(IIIZ)V"⟩
abbrev cX0_widened : ByteArray := prog_1_method_19_code
def yX0_widened : MethodName := ⟨RX0, "widened", "(IIZ)I"⟩
abbrev cL_value : ByteArray := method_7_code
def yL_value : MethodName := ⟨RL, "value", "(LShadowMath;I[J)I"⟩
abbrev cX0_value : ByteArray := prog_1_method_6_code
def yX0_value : MethodName := ⟨RX0, "value", "(I)I"⟩
abbrev cL_not : ByteArray := method_8_code
def yL_not : MethodName := ⟨RL, "not", "(LShadowMath;I[J)I"⟩
abbrev cX0_not : ByteArray := prog_1_method_7_code
def yX0_not : MethodName := ⟨RX0, "not", "(I)I"⟩
abbrev cL_least : ByteArray := method_9_code
def yL_least : MethodName := ⟨RL, "least", "(LShadowMath;I[J)I"⟩
abbrev cX0_least : ByteArray := prog_1_method_8_code
def yX0_least : MethodName := ⟨RX0, "least", "(I)I"⟩
abbrev cL_greatest : ByteArray := method_10_code
def yL_greatest : MethodName := ⟨RL, "greatest", "(LShadowMath;I[J)I"⟩
abbrev cX0_greatest : ByteArray := prog_1_method_9_code
def yX0_greatest : MethodName := ⟨RX0, "greatest", "(I)I"⟩
abbrev cL_octet : ByteArray := method_11_code
def yL_octet : MethodName := ⟨RL, "octet", "(LShadowMath;I[J)I"⟩
abbrev cX0_octet : ByteArray := prog_1_method_10_code
def yX0_octet : MethodName := ⟨RX0, "octet", "(I)I"⟩
abbrev cX1_init : ByteArray := prog_3_method_1_code
def yX1_init : MethodName := ⟨RX1, "<init>", "()V"⟩
abbrev cX1_thrown : ByteArray := prog_3_method_2_code
def yX1_thrown : MethodName := ⟨RX1, "thrown", "()I"⟩
abbrev cX1_set : ByteArray := prog_3_method_8_code
def yX1_set : MethodName := ⟨RX1, "set", "(III)V"⟩
abbrev cX1_none : ByteArray := prog_3_method_4_code
def yX1_none : MethodName := ⟨RX1, "none", "(I)Z"⟩
abbrev cX1_fails : ByteArray := prog_3_method_3_code
def yX1_fails : MethodName := ⟨RX1, "fails", "(ZI)Z"⟩
abbrev cX1_make : ByteArray := prog_3_method_7_code
def yX1_make : MethodName := ⟨RX1, "make", "(I)V"⟩
abbrev cX1_give : ByteArray := prog_3_method_6_code
def yX1_give : MethodName := ⟨RX1, "give", "(I)V"⟩
abbrev cX1_op : ByteArray := prog_3_method_14_code
def yX1_op : MethodName := ⟨RX1, "op", "(IIII)V"⟩
abbrev cX1_number : ByteArray := prog_3_method_5_code
def yX1_number : MethodName := ⟨RX1, "number", "(I)I"⟩
abbrev cX1_lowest : ByteArray := prog_3_method_11_code
def yX1_lowest : MethodName := ⟨RX1, "lowest", "(I)I"⟩
abbrev cX1_un : ByteArray := prog_3_method_10_code
def yX1_un : MethodName := ⟨RX1, "un", "(II)Z"⟩
abbrev cX1_from : ByteArray := prog_3_method_13_code
def yX1_from : MethodName := ⟨RX1, "from", "(I)V"⟩
abbrev cX1_is : ByteArray := prog_3_method_9_code
def yX1_is : MethodName := ⟨RX1, "is", "(II)Z"⟩
abbrev cX1_shift : ByteArray := prog_3_method_15_code
def yX1_shift : MethodName := ⟨RX1, "shift", "(IIII)V"⟩
abbrev cX1_noughts : ByteArray := prog_3_method_12_code
def yX1_noughts : MethodName := ⟨RX1, "noughts", "(I)I"⟩
abbrev cX1_end : ByteArray := prog_3_method_16_code
def yX1_end : MethodName := ⟨RX1, "end", "(IZZ)J"⟩
abbrev cX1_choose : ByteArray := prog_3_method_17_code
def yX1_choose : MethodName := ⟨RX1, "choose", "(III)V"⟩
abbrev cX1_store : ByteArray := prog_3_method_19_code
def yX1_store : MethodName := ⟨RX1, "store", "(III)V"⟩
abbrev cX1_wrong : ByteArray := prog_3_method_18_code
def yX1_wrong : MethodName := ⟨RX1, "wrong", "(I)Z"⟩
abbrev cX1_load : ByteArray := prog_3_method_20_code
def yX1_load : MethodName := ⟨RX1, "load", "(IIIZ)V"⟩
abbrev cX1_value : ByteArray := prog_3_method_21_code
def yX1_value : MethodName := ⟨RX1, "value", "(I)I"⟩
abbrev cX1_not : ByteArray := prog_3_method_22_code
def yX1_not : MethodName := ⟨RX1, "not", "(I)I"⟩
abbrev cX1_least : ByteArray := prog_3_method_23_code
def yX1_least : MethodName := ⟨RX1, "least", "(I)I"⟩
abbrev cX1_greatest : ByteArray := prog_3_method_24_code
def yX1_greatest : MethodName := ⟨RX1, "greatest", "(I)I"⟩
abbrev cX1_octet : ByteArray := prog_3_method_25_code
def yX1_octet : MethodName := ⟨RX1, "octet", "(I)I"⟩
abbrev cX1_count : ByteArray := prog_3_method_26_code
def yX1_count : MethodName := ⟨RX1, "count", "()I"⟩
abbrev cL_law : ByteArray := code
def yL_law : MethodName := ⟨RL, "law", "([I)Z"⟩
/-- all words of the tables that stay true under warmer tables -/
def smW : List Cond := [.initialized "ShadowMathLaw",
  .initialized "ShadowMath",
  .initialized "ShadowMathModel",
  .initialized "java/lang/Throwable",
  .initialized "java/lang/Exception",
  .initialized "java/lang/RuntimeException",
  .initialized "java/lang/IndexOutOfBoundsException",
  .initialized "java/lang/IllegalArgumentException",
  .initialized "java/lang/Integer",
  .initialized "java/lang/Math",
  .classLink "ShadowMathLaw" 8 "ShadowMath",
  .instantiable "ShadowMath" 3,
  .methodLink "ShadowMathLaw" 44 yX0_init,
  .instanceMethod yX0_init,
  .code yX0_init prog_1_method_1_code 1 none,
  .methodLink "ShadowMath" 3 ⟨"java/lang/Object", "<init>", "()V"⟩,
  .instanceMethod ⟨"java/lang/Object", "<init>", "()V"⟩,
  .code ⟨"java/lang/Object", "<init>", "()V"⟩ object_method_1_code 1 none,
  .fieldLink "ShadowMath" 11 "ShadowMath" "values" "[I",
  .fieldLink "ShadowMath" 15 "ShadowMath" "shadows" "[I",
  .fieldLink "ShadowMath" 18 "ShadowMath" "memory" "[I",
  .laysFinal "ShadowMath" "ShadowMath" "values" "[I",
  .soleField "ShadowMath" "values",
  .laysFinal "ShadowMath" "ShadowMath" "shadows" "[I",
  .soleField "ShadowMath" "shadows",
  .laysFinal "ShadowMath" "ShadowMath" "memory" "[I",
  .soleField "ShadowMath" "memory",
  .superclass "ShadowMath" "java/lang/Object",
  .arrayClass .int,
  .methodLink "ShadowMathLaw" 85 yX0_count,
  .instanceMethod yX0_count,
  .selects "ShadowMath" yX0_count yX0_count,
  .code yX0_count prog_1_method_11_code 3 (some .int),
  .methodLink "ShadowMath" 53 yJ6_bitCount,
  .static yJ6_bitCount,
  .code yJ6_bitCount prog_7_method_49_code 1 (some .int),
  .constant "java/lang/Integer" 265 1431655765,
  .constant "java/lang/Integer" 266 858993459,
  .constant "java/lang/Integer" 267 252645135,
  .methodLink "ShadowMathLaw" 48 yL_set,
  .static yL_set,
  .codeWith yL_set method_3_code 5 (some .int) [(0, 7, 10, 13)],
  .classLink "ShadowMathLaw" 13 "java/lang/IndexOutOfBoundsException",
  .methodLink "ShadowMathLaw" 7 yX0_set,
  .instanceMethod yX0_set,
  .selects "ShadowMath" yX0_set yX0_set,
  .code yX0_set prog_1_method_2_code 4 none,
  .methodLink "ShadowMath" 21 yX0_checkRegister,
  .static yX0_checkRegister,
  .code yX0_checkRegister prog_1_method_12_code 1 none,
  .classLink "ShadowMath" 50 "java/lang/IndexOutOfBoundsException",
  .instantiable "java/lang/IndexOutOfBoundsException" 6,
  .selects "java/lang/IndexOutOfBoundsException" ⟨"java/lang/Throwable", "fillInStackTrace", "(I)Ljava/lang/Throwable;"⟩ ⟨"java/lang/Throwable", "fillInStackTrace", "(I)Ljava/lang/Throwable;"⟩,
  .selects "java/lang/IndexOutOfBoundsException" ⟨"java/lang/Throwable", "fillInStackTrace", "()Ljava/lang/Throwable;"⟩ ⟨"java/lang/Throwable", "fillInStackTrace", "()Ljava/lang/Throwable;"⟩,
  .lays "java/lang/IndexOutOfBoundsException" "java/lang/Throwable" "cause" "Ljava/lang/Throwable;",
  .lays "java/lang/Throwable" "java/lang/Throwable" "cause" "Ljava/lang/Throwable;",
  .lays "java/lang/IndexOutOfBoundsException" "java/lang/Throwable" "stackTrace" "[Ljava/lang/StackTraceElement;",
  .lays "java/lang/Throwable" "java/lang/Throwable" "stackTrace" "[Ljava/lang/StackTraceElement;",
  .lays "java/lang/IndexOutOfBoundsException" "java/lang/Throwable" "suppressedExceptions" "Ljava/util/List;",
  .lays "java/lang/Throwable" "java/lang/Throwable" "suppressedExceptions" "Ljava/util/List;",
  .lays "java/lang/IndexOutOfBoundsException" "java/lang/Throwable" "detailMessage" "Ljava/lang/String;",
  .lays "java/lang/Throwable" "java/lang/Throwable" "detailMessage" "Ljava/lang/String;",
  .lays "java/lang/IndexOutOfBoundsException" "java/lang/Throwable" "backtrace" "Ljava/lang/Object;",
  .lays "java/lang/Throwable" "java/lang/Throwable" "backtrace" "Ljava/lang/Object;",
  .fieldLink "java/lang/Throwable" 198 "java/lang/Throwable" "backtrace" "Ljava/lang/Object;",
  .superclass "java/lang/Throwable" "java/lang/Object",
  .instanceMethod ⟨"java/lang/Throwable", "<init>", "()V"⟩,
  .code ⟨"java/lang/Throwable", "<init>", "()V"⟩ prog_10_method_1_code 1 none,
  .methodLink "java/lang/Throwable" 1 ⟨"java/lang/Object", "<init>", "()V"⟩,
  .fieldLink "java/lang/Throwable" 13 "java/lang/Throwable" "UNASSIGNED_STACK" "[Ljava/lang/StackTraceElement;",
  .fieldLink "java/lang/Throwable" 20 "java/lang/Throwable" "SUPPRESSED_SENTINEL" "Ljava/util/List;",
  .methodLink "java/lang/Throwable" 27 ⟨"java/lang/Throwable", "fillInStackTrace", "()Ljava/lang/Throwable;"⟩,
  .instanceMethod ⟨"java/lang/Throwable", "fillInStackTrace", "()Ljava/lang/Throwable;"⟩,
  .sameMethod "java/lang/Throwable" "java/lang/Throwable" "fillInStackTrace" "()Ljava/lang/Throwable;",
  .selects "java/lang/IllegalArgumentException" ⟨"java/lang/Throwable", "fillInStackTrace", "()Ljava/lang/Throwable;"⟩ ⟨"java/lang/Throwable", "fillInStackTrace", "()Ljava/lang/Throwable;"⟩,
  .codeSync ⟨"java/lang/Throwable", "fillInStackTrace", "()Ljava/lang/Throwable;"⟩ prog_10_method_18_code 1 (some (.object "java/lang/Throwable")),
  .methodLink "java/lang/Throwable" 202 ⟨"java/lang/Throwable", "fillInStackTrace", "(I)Ljava/lang/Throwable;"⟩,
  .instanceMethod ⟨"java/lang/Throwable", "fillInStackTrace", "(I)Ljava/lang/Throwable;"⟩,
  .instantiable "java/lang/Throwable" 6,
  .native ⟨"java/lang/Throwable", "fillInStackTrace", "(I)Ljava/lang/Throwable;"⟩,
  .methodLink "ShadowMath" 52 ⟨"java/lang/IndexOutOfBoundsException", "<init>", "()V"⟩,
  .instanceMethod ⟨"java/lang/IndexOutOfBoundsException", "<init>", "()V"⟩,
  .code ⟨"java/lang/IndexOutOfBoundsException", "<init>", "()V"⟩ prog_6_method_1_code 1 none,
  .methodLink "java/lang/IndexOutOfBoundsException" 1 ⟨"java/lang/RuntimeException", "<init>", "()V"⟩,
  .instanceMethod ⟨"java/lang/RuntimeException", "<init>", "()V"⟩,
  .code ⟨"java/lang/RuntimeException", "<init>", "()V"⟩ prog_9_method_1_code 1 none,
  .methodLink "java/lang/RuntimeException" 1 ⟨"java/lang/Exception", "<init>", "()V"⟩,
  .instanceMethod ⟨"java/lang/Exception", "<init>", "()V"⟩,
  .code ⟨"java/lang/Exception", "<init>", "()V"⟩ prog_4_method_1_code 1 none,
  .methodLink "java/lang/Exception" 1 ⟨"java/lang/Throwable", "<init>", "()V"⟩,
  .fieldLink "java/lang/Throwable" 7 "java/lang/Throwable" "cause" "Ljava/lang/Throwable;",
  .fieldLink "java/lang/Throwable" 17 "java/lang/Throwable" "stackTrace" "[Ljava/lang/StackTraceElement;",
  .fieldLink "java/lang/Throwable" 24 "java/lang/Throwable" "suppressedExceptions" "Ljava/util/List;",
  .soleField "java/lang/Throwable" "backtrace",
  .soleField "java/lang/Throwable" "detailMessage",
  .soleField "java/lang/Throwable" "cause",
  .soleField "java/lang/Throwable" "stackTrace",
  .lays "java/lang/IndexOutOfBoundsException" "java/lang/Throwable" "depth" "I",
  .soleField "java/lang/Throwable" "depth",
  .soleField "java/lang/Throwable" "suppressedExceptions",
  .superclass "java/lang/IndexOutOfBoundsException" "java/lang/RuntimeException",
  .methodLink "ShadowMathLaw" 58 yL_op,
  .static yL_op,
  .codeWith yL_op method_4_code 6 (some .int) [(0, 9, 12, 19), (0, 9, 16, 13)],
  .classLink "ShadowMathLaw" 19 "java/lang/IllegalArgumentException",
  .methodLink "ShadowMathLaw" 15 yX0_op,
  .instanceMethod yX0_op,
  .selects "ShadowMath" yX0_op yX0_op,
  .code yX0_op prog_1_method_3_code 7 none,
  .classLink "ShadowMath" 25 "java/lang/IllegalArgumentException",
  .instantiable "java/lang/IllegalArgumentException" 6,
  .selects "java/lang/IllegalArgumentException" ⟨"java/lang/Throwable", "fillInStackTrace", "(I)Ljava/lang/Throwable;"⟩ ⟨"java/lang/Throwable", "fillInStackTrace", "(I)Ljava/lang/Throwable;"⟩,
  .lays "java/lang/IllegalArgumentException" "java/lang/Throwable" "cause" "Ljava/lang/Throwable;",
  .lays "java/lang/IllegalArgumentException" "java/lang/Throwable" "stackTrace" "[Ljava/lang/StackTraceElement;",
  .lays "java/lang/IllegalArgumentException" "java/lang/Throwable" "suppressedExceptions" "Ljava/util/List;",
  .lays "java/lang/IllegalArgumentException" "java/lang/Throwable" "detailMessage" "Ljava/lang/String;",
  .lays "java/lang/IllegalArgumentException" "java/lang/Throwable" "backtrace" "Ljava/lang/Object;",
  .methodLink "ShadowMath" 27 ⟨"java/lang/IllegalArgumentException", "<init>", "()V"⟩,
  .instanceMethod ⟨"java/lang/IllegalArgumentException", "<init>", "()V"⟩,
  .code ⟨"java/lang/IllegalArgumentException", "<init>", "()V"⟩ prog_5_method_1_code 1 none,
  .methodLink "java/lang/IllegalArgumentException" 1 ⟨"java/lang/RuntimeException", "<init>", "()V"⟩,
  .lays "java/lang/IllegalArgumentException" "java/lang/Throwable" "depth" "I",
  .superclass "java/lang/IllegalArgumentException" "java/lang/RuntimeException",
  .methodLink "ShadowMath" 28 yX0_valueOf,
  .instanceMethod yX0_valueOf,
  .code yX0_valueOf prog_1_method_14_code 7 (some .int),
  .methodLink "ShadowMath" 57 yX0_shifted,
  .static yX0_shifted,
  .code yX0_shifted prog_1_method_18_code 3 (some .int),
  .methodLink "ShadowMath" 61 yX0_bit,
  .static yX0_bit,
  .code yX0_bit prog_1_method_27_code 1 (some .int),
  .methodLink "ShadowMath" 65 yX0_signTurned,
  .static yX0_signTurned,
  .code yX0_signTurned prog_1_method_22_code 1 (some .int),
  .constant "ShadowMath" 97 (-2147483648),
  .methodLink "ShadowMath" 68 yX0_chosen,
  .instanceMethod yX0_chosen,
  .code yX0_chosen prog_1_method_16_code 2 (some .boolean),
  .methodLink "ShadowMath" 32 yX0_shadowOf,
  .instanceMethod yX0_shadowOf,
  .code yX0_shadowOf prog_1_method_15_code 9 (some .int),
  .methodLink "ShadowMath" 72 yJ6_numberOfTrailingZeros,
  .static yJ6_numberOfTrailingZeros,
  .code yJ6_numberOfTrailingZeros prog_7_method_48_code 2 (some .int),
  .constant "java/lang/Integer" 264 65536,
  .methodLink "ShadowMath" 75 yX0_fromPlaceOn,
  .static yX0_fromPlaceOn,
  .code yX0_fromPlaceOn prog_1_method_20_code 1 (some .int),
  .methodLink "ShadowMath" 78 yX0_placeLostBy,
  .static yX0_placeLostBy,
  .code yX0_placeLostBy prog_1_method_21_code 3 (some .int),
  .methodLink "ShadowMath" 81 ⟨"java/lang/Math", "min", "(II)I"⟩,
  .static ⟨"java/lang/Math", "min", "(II)I"⟩,
  .code ⟨"java/lang/Math", "min", "(II)I"⟩ prog_8_method_69_code 2 (some .int),
  .methodLink "ShadowMath" 86 yX0_orderHangs,
  .static yX0_orderHangs,
  .code yX0_orderHangs prog_1_method_23_code 6 (some .boolean),
  .methodLink "ShadowMath" 43 yX0_lowEnd,
  .static yX0_lowEnd,
  .code yX0_lowEnd prog_1_method_25_code 2 (some .int),
  .methodLink "ShadowMath" 47 yX0_highEnd,
  .static yX0_highEnd,
  .code yX0_highEnd prog_1_method_26_code 2 (some .int),
  .constant "ShadowMath" 98 2147483647,
  .methodLink "ShadowMath" 90 yX0_samenessHangs,
  .static yX0_samenessHangs,
  .code yX0_samenessHangs prog_1_method_24_code 3 (some .boolean),
  .methodLink "ShadowMath" 94 yX0_choiceShadow,
  .instanceMethod yX0_choiceShadow,
  .code yX0_choiceShadow prog_1_method_17_code 4 (some .int),
  .methodLink "ShadowMathLaw" 62 yL_store,
  .static yL_store,
  .codeWith yL_store method_5_code 5 (some .int) [(0, 7, 10, 19), (0, 7, 14, 13)],
  .methodLink "ShadowMathLaw" 21 yX0_store,
  .instanceMethod yX0_store,
  .selects "ShadowMath" yX0_store yX0_store,
  .code yX0_store prog_1_method_4_code 8 none,
  .methodLink "ShadowMath" 35 yX0_checkTransfer,
  .static yX0_checkTransfer,
  .code yX0_checkTransfer prog_1_method_13_code 3 none,
  .methodLink "ShadowMathLaw" 65 yL_load,
  .static yL_load,
  .codeWith yL_load method_6_code 6 (some .int) [(0, 9, 12, 19), (0, 9, 16, 13)],
  .methodLink "ShadowMathLaw" 24 yX0_load,
  .instanceMethod yX0_load,
  .selects "ShadowMath" yX0_load yX0_load,
  .code yX0_load prog_1_method_5_code 9 none,
  .methodLink "ShadowMath" 39 yX0_widened,
  .static yX0_widened,
  .code yX0_widened prog_1_method_19_code 4 (some .int),
  .methodLink "ShadowMathLaw" 69 yL_value,
  .static yL_value,
  .codeWith yL_value method_7_code 4 (some .int) [(0, 9, 12, 13)],
  .methodLink "ShadowMathLaw" 28 yX0_value,
  .instanceMethod yX0_value,
  .selects "ShadowMath" yX0_value yX0_value,
  .code yX0_value prog_1_method_6_code 2 (some .int),
  .methodLink "ShadowMathLaw" 73 yL_not,
  .static yL_not,
  .codeWith yL_not method_8_code 4 (some .int) [(0, 9, 12, 13)],
  .methodLink "ShadowMathLaw" 32 yX0_not,
  .instanceMethod yX0_not,
  .selects "ShadowMath" yX0_not yX0_not,
  .code yX0_not prog_1_method_7_code 2 (some .int),
  .methodLink "ShadowMathLaw" 76 yL_least,
  .static yL_least,
  .codeWith yL_least method_9_code 4 (some .int) [(0, 9, 12, 13)],
  .methodLink "ShadowMathLaw" 35 yX0_least,
  .instanceMethod yX0_least,
  .selects "ShadowMath" yX0_least yX0_least,
  .code yX0_least prog_1_method_8_code 2 (some .int),
  .methodLink "ShadowMathLaw" 79 yL_greatest,
  .static yL_greatest,
  .codeWith yL_greatest method_10_code 4 (some .int) [(0, 9, 12, 13)],
  .methodLink "ShadowMathLaw" 38 yX0_greatest,
  .instanceMethod yX0_greatest,
  .selects "ShadowMath" yX0_greatest yX0_greatest,
  .code yX0_greatest prog_1_method_9_code 2 (some .int),
  .methodLink "ShadowMathLaw" 82 yL_octet,
  .static yL_octet,
  .codeWith yL_octet method_11_code 4 (some .int) [(0, 9, 12, 13)],
  .methodLink "ShadowMathLaw" 41 yX0_octet,
  .instanceMethod yX0_octet,
  .selects "ShadowMath" yX0_octet yX0_octet,
  .code yX0_octet prog_1_method_10_code 2 (some .int),
  .classLink "ShadowMathLaw" 45 "ShadowMathModel",
  .instantiable "ShadowMathModel" 7,
  .methodLink "ShadowMathLaw" 47 yX1_init,
  .instanceMethod yX1_init,
  .code yX1_init prog_3_method_1_code 1 none,
  .methodLink "ShadowMathModel" 1 ⟨"java/lang/Object", "<init>", "()V"⟩,
  .fieldLink "ShadowMathModel" 28 "ShadowMathModel" "err" "I",
  .fieldLink "ShadowMathModel" 7 "ShadowMathModel" "bit" "[Z",
  .fieldLink "ShadowMathModel" 13 "ShadowMathModel" "lost" "[Z",
  .fieldLink "ShadowMathModel" 16 "ShadowMathModel" "octetBit" "[Z",
  .fieldLink "ShadowMathModel" 19 "ShadowMathModel" "octetLost" "[Z",
  .fieldLink "ShadowMathModel" 22 "ShadowMathModel" "out" "[Z",
  .fieldLink "ShadowMathModel" 25 "ShadowMathModel" "gone" "[Z",
  .lays "ShadowMathModel" "ShadowMathModel" "err" "I",
  .soleField "ShadowMathModel" "err",
  .laysFinal "ShadowMathModel" "ShadowMathModel" "bit" "[Z",
  .soleField "ShadowMathModel" "bit",
  .laysFinal "ShadowMathModel" "ShadowMathModel" "lost" "[Z",
  .soleField "ShadowMathModel" "lost",
  .laysFinal "ShadowMathModel" "ShadowMathModel" "octetBit" "[Z",
  .soleField "ShadowMathModel" "octetBit",
  .laysFinal "ShadowMathModel" "ShadowMathModel" "octetLost" "[Z",
  .soleField "ShadowMathModel" "octetLost",
  .laysFinal "ShadowMathModel" "ShadowMathModel" "out" "[Z",
  .soleField "ShadowMathModel" "out",
  .laysFinal "ShadowMathModel" "ShadowMathModel" "gone" "[Z",
  .soleField "ShadowMathModel" "gone",
  .superclass "ShadowMathModel" "java/lang/Object",
  .arrayClass .boolean,
  .methodLink "ShadowMathLaw" 54 yX1_thrown,
  .instanceMethod yX1_thrown,
  .selects "ShadowMathModel" yX1_thrown yX1_thrown,
  .code yX1_thrown prog_3_method_2_code 1 (some .int),
  .methodLink "ShadowMathLaw" 53 yX1_set,
  .instanceMethod yX1_set,
  .selects "ShadowMathModel" yX1_set yX1_set,
  .code yX1_set prog_3_method_8_code 5 none,
  .methodLink "ShadowMathModel" 32 yX1_none,
  .static yX1_none,
  .code yX1_none prog_3_method_4_code 1 (some .boolean),
  .methodLink "ShadowMathModel" 36 yX1_fails,
  .instanceMethod yX1_fails,
  .code yX1_fails prog_3_method_3_code 3 (some .boolean),
  .methodLink "ShadowMathModel" 40 yX1_make,
  .instanceMethod yX1_make,
  .code yX1_make prog_3_method_7_code 3 none,
  .methodLink "ShadowMathModel" 44 yX1_give,
  .instanceMethod yX1_give,
  .code yX1_give prog_3_method_6_code 3 none,
  .methodLink "ShadowMathLaw" 61 yX1_op,
  .instanceMethod yX1_op,
  .selects "ShadowMathModel" yX1_op yX1_op,
  .code yX1_op prog_3_method_14_code 11 none,
  .methodLink "ShadowMathModel" 54 yX1_number,
  .instanceMethod yX1_number,
  .code yX1_number prog_3_method_5_code 4 (some .int),
  .methodLink "ShadowMathModel" 58 yX1_lowest,
  .instanceMethod yX1_lowest,
  .code yX1_lowest prog_3_method_11_code 3 (some .int),
  .methodLink "ShadowMathModel" 47 yX1_un,
  .instanceMethod yX1_un,
  .code yX1_un prog_3_method_10_code 3 (some .boolean),
  .methodLink "ShadowMathModel" 61 yX1_from,
  .instanceMethod yX1_from,
  .code yX1_from prog_3_method_13_code 3 none,
  .methodLink "ShadowMathModel" 51 yX1_is,
  .instanceMethod yX1_is,
  .code yX1_is prog_3_method_9_code 3 (some .boolean),
  .methodLink "ShadowMathModel" 64 yX1_shift,
  .instanceMethod yX1_shift,
  .code yX1_shift prog_3_method_15_code 8 none,
  .methodLink "ShadowMathModel" 68 yX1_noughts,
  .instanceMethod yX1_noughts,
  .code yX1_noughts prog_3_method_12_code 3 (some .int),
  .methodLink "ShadowMathModel" 71 yX1_end,
  .instanceMethod yX1_end,
  .code yX1_end prog_3_method_16_code 9 (some .long),
  .constantLong "ShadowMathModel" 75 4294967295,
  .methodLink "ShadowMathModel" 77 yX1_choose,
  .instanceMethod yX1_choose,
  .code yX1_choose prog_3_method_17_code 6 none,
  .methodLink "ShadowMathLaw" 64 yX1_store,
  .instanceMethod yX1_store,
  .selects "ShadowMathModel" yX1_store yX1_store,
  .code yX1_store prog_3_method_19_code 5 none,
  .methodLink "ShadowMathModel" 81 yX1_wrong,
  .static yX1_wrong,
  .code yX1_wrong prog_3_method_18_code 1 (some .boolean),
  .methodLink "ShadowMathLaw" 68 yX1_load,
  .instanceMethod yX1_load,
  .selects "ShadowMathModel" yX1_load yX1_load,
  .code yX1_load prog_3_method_20_code 8 none,
  .methodLink "ShadowMathLaw" 72 yX1_value,
  .instanceMethod yX1_value,
  .selects "ShadowMathModel" yX1_value yX1_value,
  .code yX1_value prog_3_method_21_code 2 (some .int),
  .methodLink "ShadowMathLaw" 75 yX1_not,
  .instanceMethod yX1_not,
  .selects "ShadowMathModel" yX1_not yX1_not,
  .code yX1_not prog_3_method_22_code 4 (some .int),
  .methodLink "ShadowMathLaw" 78 yX1_least,
  .instanceMethod yX1_least,
  .selects "ShadowMathModel" yX1_least yX1_least,
  .code yX1_least prog_3_method_23_code 2 (some .int),
  .methodLink "ShadowMathLaw" 81 yX1_greatest,
  .instanceMethod yX1_greatest,
  .selects "ShadowMathModel" yX1_greatest yX1_greatest,
  .code yX1_greatest prog_3_method_24_code 2 (some .int),
  .methodLink "ShadowMathLaw" 84 yX1_octet,
  .instanceMethod yX1_octet,
  .selects "ShadowMathModel" yX1_octet yX1_octet,
  .code yX1_octet prog_3_method_25_code 4 (some .int),
  .methodLink "ShadowMathLaw" 88 yX1_count,
  .instanceMethod yX1_count,
  .selects "ShadowMathModel" yX1_count yX1_count,
  .code yX1_count prog_3_method_26_code 3 (some .int),
  .arrayClass .long,
  .sameMethod "java/lang/Throwable" "java/lang/Throwable" "fillInStackTrace" "(I)Ljava/lang/Throwable;",
  .selects "ShadowMath" yX0_valueOf yX0_valueOf,
  .selects "ShadowMath" yX0_chosen yX0_chosen,
  .selects "ShadowMath" yX0_shadowOf yX0_shadowOf,
  .selects "ShadowMath" yX0_choiceShadow yX0_choiceShadow,
  .selects "ShadowMathModel" yX1_fails yX1_fails,
  .selects "ShadowMathModel" yX1_make yX1_make,
  .selects "ShadowMathModel" yX1_give yX1_give,
  .selects "ShadowMathModel" yX1_number yX1_number,
  .selects "ShadowMathModel" yX1_lowest yX1_lowest,
  .selects "ShadowMathModel" yX1_un yX1_un,
  .selects "ShadowMathModel" yX1_from yX1_from,
  .selects "ShadowMathModel" yX1_is yX1_is,
  .selects "ShadowMathModel" yX1_shift yX1_shift,
  .selects "ShadowMathModel" yX1_noughts yX1_noughts,
  .selects "ShadowMathModel" yX1_end yX1_end,
  .selects "ShadowMathModel" yX1_choose yX1_choose]
set_option maxRecDepth 20000 in
theorem smW_good : smW.all goodWord = true := by decide +kernel
set_option maxRecDepth 100000 in
theorem smW_eq : smW = ([17, 18, 19, 20, 21, 22, 23, 24, 25, 26, 27, 28, 29, 30, 31, 32, 33, 34, 35, 36, 37, 38, 39, 40, 41, 42, 43, 44, 45, 46, 47, 48, 49, 50, 51, 52, 53, 54, 55, 56, 57, 58, 59, 60, 61, 62, 63, 64, 65, 66, 67, 68, 76, 77, 78, 79, 80, 81, 82, 83, 84, 85, 86, 87, 88, 89, 90, 91, 92, 93, 95, 97, 98, 99, 100, 101, 102, 104, 105, 106, 107, 108, 109, 110, 111, 112, 113, 114, 115, 116, 118, 119, 120, 121, 122, 123, 124, 125, 126, 127, 128, 129, 130, 131, 132, 133, 134, 135, 136, 137, 138, 140, 141, 142, 143, 144, 145, 146, 147, 148, 149, 150, 151, 152, 154, 155, 156, 157, 158, 159, 160, 161, 162, 163, 164, 165, 166, 168, 169, 170, 172, 173, 174, 175, 176, 177, 178, 179, 180, 181, 182, 183, 184, 185, 186, 187, 188, 189, 190, 191, 192, 193, 194, 195, 196, 197, 198, 199, 200, 202, 203, 204, 205, 206, 207, 208, 209, 210, 211, 212, 213, 214, 215, 216, 217, 218, 219, 220, 221, 222, 223, 224, 225, 226, 227, 228, 229, 230, 231, 232, 233, 234, 235, 236, 237, 238, 239, 240, 241, 242, 243, 244, 245, 246, 247, 248, 249, 250, 251, 252, 253, 254, 255, 256, 257, 258, 259, 260, 261, 262, 263, 264, 265, 266, 267, 268, 269, 270, 271, 272, 273, 274, 275, 276, 277, 278, 279, 280, 281, 282, 283, 284, 285, 286, 287, 288, 289, 290, 291, 292, 293, 294, 295, 296, 297, 298, 299, 301, 302, 303, 305, 306, 307, 309, 310, 311, 312, 313, 314, 315, 317, 318, 319, 321, 322, 323, 325, 326, 327, 329, 330, 331, 333, 334, 335, 337, 338, 339, 341, 342, 343, 345, 346, 347, 348, 350, 351, 352, 353, 354, 355, 356, 357, 358, 359, 360, 361, 362, 363, 364, 365, 366, 367, 368, 369, 370, 371, 372, 373, 374, 375, 376, 377, 378, 379, 380, 381, 382, 383, 384, 385, 386, 387, 388, 1, 2, 3, 4, 5, 6, 7, 8, 9, 10, 11, 12, 13, 14, 15, 16] : List Nat).filterMap (fun i => lw_tbl[i]?) := by rfl
theorem smW_in : ∀ w ∈ smW, w ∈ lw_tbl := fun w h => by
  rw [smW_eq] at h
  obtain ⟨i, -, hi⟩ := List.mem_filterMap.mp h
  exact List.mem_of_getElem? hi
abbrev wsX0_init : List Cond := .code yX0_init prog_1_method_1_code 1 none :: smW
abbrev wsX0_count : List Cond := .code yX0_count prog_1_method_11_code 3 (some .int) :: smW
abbrev wsJ6_bitCount : List Cond := .code yJ6_bitCount prog_7_method_49_code 1 (some .int) :: smW
abbrev wsL_set : List Cond := .codeWith yL_set method_3_code 5 (some .int) [(0, 7, 10, 13)] :: smW
abbrev wsX0_set : List Cond := .code yX0_set prog_1_method_2_code 4 none :: smW
abbrev wsX0_checkRegister : List Cond := .code yX0_checkRegister prog_1_method_12_code 1 none :: smW
abbrev wsL_op : List Cond := .codeWith yL_op method_4_code 6 (some .int) [(0, 9, 12, 19), (0, 9, 16, 13)] :: smW
abbrev wsX0_op : List Cond := .code yX0_op prog_1_method_3_code 7 none :: smW
abbrev wsX0_valueOf : List Cond := .code yX0_valueOf prog_1_method_14_code 7 (some .int) :: smW
abbrev wsX0_shifted : List Cond := .code yX0_shifted prog_1_method_18_code 3 (some .int) :: smW
abbrev wsX0_bit : List Cond := .code yX0_bit prog_1_method_27_code 1 (some .int) :: smW
abbrev wsX0_signTurned : List Cond := .code yX0_signTurned prog_1_method_22_code 1 (some .int) :: smW
abbrev wsX0_chosen : List Cond := .code yX0_chosen prog_1_method_16_code 2 (some .boolean) :: smW
abbrev wsX0_shadowOf : List Cond := .code yX0_shadowOf prog_1_method_15_code 9 (some .int) :: smW
abbrev wsJ6_numberOfTrailingZeros : List Cond := .code yJ6_numberOfTrailingZeros prog_7_method_48_code 2 (some .int) :: smW
abbrev wsX0_fromPlaceOn : List Cond := .code yX0_fromPlaceOn prog_1_method_20_code 1 (some .int) :: smW
abbrev wsX0_placeLostBy : List Cond := .code yX0_placeLostBy prog_1_method_21_code 3 (some .int) :: smW
abbrev wsX0_orderHangs : List Cond := .code yX0_orderHangs prog_1_method_23_code 6 (some .boolean) :: smW
abbrev wsX0_lowEnd : List Cond := .code yX0_lowEnd prog_1_method_25_code 2 (some .int) :: smW
abbrev wsX0_highEnd : List Cond := .code yX0_highEnd prog_1_method_26_code 2 (some .int) :: smW
abbrev wsX0_samenessHangs : List Cond := .code yX0_samenessHangs prog_1_method_24_code 3 (some .boolean) :: smW
abbrev wsX0_choiceShadow : List Cond := .code yX0_choiceShadow prog_1_method_17_code 4 (some .int) :: smW
abbrev wsL_store : List Cond := .codeWith yL_store method_5_code 5 (some .int) [(0, 7, 10, 19), (0, 7, 14, 13)] :: smW
abbrev wsX0_store : List Cond := .code yX0_store prog_1_method_4_code 8 none :: smW
abbrev wsX0_checkTransfer : List Cond := .code yX0_checkTransfer prog_1_method_13_code 3 none :: smW
abbrev wsL_load : List Cond := .codeWith yL_load method_6_code 6 (some .int) [(0, 9, 12, 19), (0, 9, 16, 13)] :: smW
abbrev wsX0_load : List Cond := .code yX0_load prog_1_method_5_code 9 none :: smW
abbrev wsX0_widened : List Cond := .code yX0_widened prog_1_method_19_code 4 (some .int) :: smW
abbrev wsL_value : List Cond := .codeWith yL_value method_7_code 4 (some .int) [(0, 9, 12, 13)] :: smW
abbrev wsX0_value : List Cond := .code yX0_value prog_1_method_6_code 2 (some .int) :: smW
abbrev wsL_not : List Cond := .codeWith yL_not method_8_code 4 (some .int) [(0, 9, 12, 13)] :: smW
abbrev wsX0_not : List Cond := .code yX0_not prog_1_method_7_code 2 (some .int) :: smW
abbrev wsL_least : List Cond := .codeWith yL_least method_9_code 4 (some .int) [(0, 9, 12, 13)] :: smW
abbrev wsX0_least : List Cond := .code yX0_least prog_1_method_8_code 2 (some .int) :: smW
abbrev wsL_greatest : List Cond := .codeWith yL_greatest method_10_code 4 (some .int) [(0, 9, 12, 13)] :: smW
abbrev wsX0_greatest : List Cond := .code yX0_greatest prog_1_method_9_code 2 (some .int) :: smW
abbrev wsL_octet : List Cond := .codeWith yL_octet method_11_code 4 (some .int) [(0, 9, 12, 13)] :: smW
abbrev wsX0_octet : List Cond := .code yX0_octet prog_1_method_10_code 2 (some .int) :: smW
abbrev wsX1_init : List Cond := .code yX1_init prog_3_method_1_code 1 none :: smW
abbrev wsX1_thrown : List Cond := .code yX1_thrown prog_3_method_2_code 1 (some .int) :: smW
abbrev wsX1_set : List Cond := .code yX1_set prog_3_method_8_code 5 none :: smW
abbrev wsX1_none : List Cond := .code yX1_none prog_3_method_4_code 1 (some .boolean) :: smW
abbrev wsX1_fails : List Cond := .code yX1_fails prog_3_method_3_code 3 (some .boolean) :: smW
abbrev wsX1_make : List Cond := .code yX1_make prog_3_method_7_code 3 none :: smW
abbrev wsX1_give : List Cond := .code yX1_give prog_3_method_6_code 3 none :: smW
abbrev wsX1_op : List Cond := .code yX1_op prog_3_method_14_code 11 none :: smW
abbrev wsX1_number : List Cond := .code yX1_number prog_3_method_5_code 4 (some .int) :: smW
abbrev wsX1_lowest : List Cond := .code yX1_lowest prog_3_method_11_code 3 (some .int) :: smW
abbrev wsX1_un : List Cond := .code yX1_un prog_3_method_10_code 3 (some .boolean) :: smW
abbrev wsX1_from : List Cond := .code yX1_from prog_3_method_13_code 3 none :: smW
abbrev wsX1_is : List Cond := .code yX1_is prog_3_method_9_code 3 (some .boolean) :: smW
abbrev wsX1_shift : List Cond := .code yX1_shift prog_3_method_15_code 8 none :: smW
abbrev wsX1_noughts : List Cond := .code yX1_noughts prog_3_method_12_code 3 (some .int) :: smW
abbrev wsX1_end : List Cond := .code yX1_end prog_3_method_16_code 9 (some .long) :: smW
abbrev wsX1_choose : List Cond := .code yX1_choose prog_3_method_17_code 6 none :: smW
abbrev wsX1_store : List Cond := .code yX1_store prog_3_method_19_code 5 none :: smW
abbrev wsX1_wrong : List Cond := .code yX1_wrong prog_3_method_18_code 1 (some .boolean) :: smW
abbrev wsX1_load : List Cond := .code yX1_load prog_3_method_20_code 8 none :: smW
abbrev wsX1_value : List Cond := .code yX1_value prog_3_method_21_code 2 (some .int) :: smW
abbrev wsX1_not : List Cond := .code yX1_not prog_3_method_22_code 4 (some .int) :: smW
abbrev wsX1_least : List Cond := .code yX1_least prog_3_method_23_code 2 (some .int) :: smW
abbrev wsX1_greatest : List Cond := .code yX1_greatest prog_3_method_24_code 2 (some .int) :: smW
abbrev wsX1_octet : List Cond := .code yX1_octet prog_3_method_25_code 4 (some .int) :: smW
abbrev wsX1_count : List Cond := .code yX1_count prog_3_method_26_code 3 (some .int) :: smW
theorem sm_hw {c0 : Cond} {args : Array Value} {s : State} (h : ∀ w ∈ c0 :: smW, w.before args s = true) (k : Nat) {w : Cond} (hk : smW[k]? = some w) : w.before args s = true := h w (List.mem_cons_of_mem _ (List.mem_of_getElem? hk))
theorem sm_gd {c0 : Cond} {w : Cond} (h : w ∈ smW) : w ∈ c0 :: smW ∧ ((w.onTables && w.keeps) = true ∨ ∃ ty, w = .arrayClass ty) := ⟨List.mem_cons_of_mem _ h, good_of_word (List.all_eq_true.mp smW_good w h)⟩
theorem sm_gV {c0 w' : Cond} {own C : String} {idx i1 i2 i3 i4 i5 : Nat} {y : MethodName} (h1 : smW[i1]? = some (.methodLink own idx y)) (h2 : smW[i2]? = some (.instanceMethod y)) (h3 : smW[i3]? = some (.selects C y y)) (h4 : smW[i4]? = some (.initialized C)) (h5 : smW[i5]? = some w') : GoodIn (c0 :: smW) (wsV own idx C y (w' :: smW)) := by
  intro w hw
  simp only [wsV, List.mem_append, List.mem_cons, List.not_mem_nil, or_false] at hw
  rcases hw with (rfl | rfl | rfl | rfl) | rfl | hw
  · exact sm_gd (List.mem_of_getElem? h1)
  · exact sm_gd (List.mem_of_getElem? h2)
  · exact sm_gd (List.mem_of_getElem? h3)
  · exact sm_gd (List.mem_of_getElem? h4)
  · exact sm_gd (List.mem_of_getElem? h5)
  · exact sm_gd hw
theorem sm_gS {c0 w' : Cond} {own : String} {idx i1 i2 i4 i5 : Nat} {y : MethodName} (h1 : smW[i1]? = some (.methodLink own idx y)) (h2 : smW[i2]? = some (.static y)) (h4 : smW[i4]? = some (.initialized y.cls)) (h5 : smW[i5]? = some w') : GoodIn (c0 :: smW) (va_wsS own idx y (w' :: smW)) := by
  intro w hw
  simp only [va_wsS, List.mem_append, List.mem_cons, List.not_mem_nil, or_false] at hw
  rcases hw with (rfl | rfl | rfl) | rfl | hw
  · exact sm_gd (List.mem_of_getElem? h1)
  · exact sm_gd (List.mem_of_getElem? h2)
  · exact sm_gd (List.mem_of_getElem? h4)
  · exact sm_gd (List.mem_of_getElem? h5)
  · exact sm_gd hw
theorem sm_gI {c0 w' : Cond} {i5 : Nat} (h5 : smW[i5]? = some w') : GoodIn (c0 :: smW) (w' :: smW) := by
  intro w hw
  rcases List.mem_cons.mp hw with rfl | hw
  · exact sm_gd (List.mem_of_getElem? h5)
  · exact sm_gd hw
theorem inX0 {c0 : Cond} : ∀ w ∈ u_ws RX0 TX0 3, w ∈ c0 :: smW := fun w h => List.mem_cons_of_mem _ ((by decide +kernel : ∀ w ∈ u_ws RX0 TX0 3, w ∈ smW) w h)
theorem inX1 {c0 : Cond} : ∀ w ∈ u_ws RX1 TX1 7, w ∈ c0 :: smW := fun w h => List.mem_cons_of_mem _ ((by decide +kernel : ∀ w ∈ u_ws RX1 TX1 7, w ∈ smW) w h)
