/-! names, fields, table words of the classes: laid by my program (wip/whole/main.py) out of the claim's listing and table words -/
def RX : String := "WindowCore"
def RM : String := "WindowCoreModel"
def RL : String := "WindowCoreLaw"
def RJ : String := "java/util/Arrays"
def TX : u_T := fun k => match k with
  | 0 => ("WindowCore", "memory", "[I", true)
  | 1 => ("WindowCore", "registers", "[I", true)
  | 2 => ("WindowCore", "status", "I", false)
  | 3 => ("WindowCore", "invalid", "I", false)
  | 4 => ("WindowCore", "table", "I", false)
  | 5 => ("WindowCore", "place", "I", false)
  | 6 => ("WindowCore", "next", "I", false)
  | 7 => ("WindowCore", "requested", "I", false)
  | 8 => ("WindowCore", "steps", "I", false)
  | 9 => ("WindowCore", "traps", "I", false)
  | 10 => ("WindowCore", "annulled", "Z", false)
  | _ => ("WindowCore", "stopped", "Z", false)
def tyX : Nat → FieldType := fun k => match k with
  | 0 => .array .int
  | 1 => .array .int
  | 2 => .int
  | 3 => .int
  | 4 => .int
  | 5 => .int
  | 6 => .int
  | 7 => .int
  | 8 => .int
  | 9 => .int
  | 10 => .boolean
  | _ => .boolean
theorem nmX : ∀ a, a < 12 → ∀ b, b < 12 → a ≠ b → (TX a).2.1 ≠ (TX b).2.1 := by decide +kernel
theorem tyX_ok : ∀ k, k < 12 → parseFieldDescriptor (TX k).2.2.1 = some (tyX k) := by decide +kernel
def TM : u_T := fun k => match k with
  | 0 => ("WindowCoreModel", "thrown", "I", false)
  | 1 => ("WindowCoreModel", "bytes", "[I", true)
  | 2 => ("WindowCoreModel", "globals", "[I", true)
  | 3 => ("WindowCoreModel", "windows", "[I", true)
  | 4 => ("WindowCoreModel", "window", "I", false)
  | 5 => ("WindowCoreModel", "traps", "Z", false)
  | 6 => ("WindowCoreModel", "before", "Z", false)
  | 7 => ("WindowCoreModel", "kernel", "Z", false)
  | 8 => ("WindowCoreModel", "level", "I", false)
  | 9 => ("WindowCoreModel", "carry", "Z", false)
  | 10 => ("WindowCoreModel", "overflow", "Z", false)
  | 11 => ("WindowCoreModel", "zero", "Z", false)
  | 12 => ("WindowCoreModel", "negative", "Z", false)
  | 13 => ("WindowCoreModel", "invalid", "I", false)
  | 14 => ("WindowCoreModel", "base", "I", false)
  | 15 => ("WindowCoreModel", "type", "I", false)
  | 16 => ("WindowCoreModel", "place", "I", false)
  | 17 => ("WindowCoreModel", "next", "I", false)
  | 18 => ("WindowCoreModel", "annulled", "Z", false)
  | 19 => ("WindowCoreModel", "stopped", "Z", false)
  | 20 => ("WindowCoreModel", "asked", "I", false)
  | 21 => ("WindowCoreModel", "steps", "I", false)
  | 22 => ("WindowCoreModel", "trapped", "I", false)
  | 23 => ("WindowCoreModel", "instruction", "I", false)
  | 24 => ("WindowCoreModel", "d", "I", false)
  | 25 => ("WindowCoreModel", "a", "I", false)
  | 26 => ("WindowCoreModel", "b", "I", false)
  | 27 => ("WindowCoreModel", "order", "I", false)
  | _ => ("WindowCoreModel", "target", "I", false)
def tyM : Nat → FieldType := fun k => match k with
  | 0 => .int
  | 1 => .array .int
  | 2 => .array .int
  | 3 => .array .int
  | 4 => .int
  | 5 => .boolean
  | 6 => .boolean
  | 7 => .boolean
  | 8 => .int
  | 9 => .boolean
  | 10 => .boolean
  | 11 => .boolean
  | 12 => .boolean
  | 13 => .int
  | 14 => .int
  | 15 => .int
  | 16 => .int
  | 17 => .int
  | 18 => .boolean
  | 19 => .boolean
  | 20 => .int
  | 21 => .int
  | 22 => .int
  | 23 => .int
  | 24 => .int
  | 25 => .int
  | 26 => .int
  | 27 => .int
  | _ => .int
theorem nmM : ∀ a, a < 29 → ∀ b, b < 29 → a ≠ b → (TM a).2.1 ≠ (TM b).2.1 := by decide +kernel
theorem tyM_ok : ∀ k, k < 29 → parseFieldDescriptor (TM k).2.2.1 = some (tyM k) := by decide +kernel
abbrev bX_init : ByteArray := prog_1_method_1_code
def yX_init : MethodName := ⟨RX, "<init>", "()V"⟩
abbrev bX_begin : ByteArray := prog_1_method_12_code
def yX_begin : MethodName := ⟨RX, "begin", "()V"⟩
abbrev bJ_fill : ByteArray := prog_8_method_103_code
def yJ_fill : MethodName := ⟨RJ, "fill", "([II)V"⟩
abbrev bX_reset : ByteArray := prog_1_method_2_code
def yX_reset : MethodName := ⟨RX, "reset", "()V"⟩
abbrev bX_step : ByteArray := prog_1_method_9_code
def yX_step : MethodName := ⟨RX, "step", "()I"⟩
abbrev bX_advance : ByteArray := prog_1_method_30_code
def yX_advance : MethodName := ⟨RX, "advance", "()I"⟩
abbrev bX_goOn : ByteArray := prog_1_method_32_code
def yX_goOn : MethodName := ⟨RX, "goOn", "()I"⟩
abbrev bX_goTo : ByteArray := prog_1_method_33_code
def yX_goTo : MethodName := ⟨RX, "goTo", "(I)I"⟩
abbrev bX_isInterrupted : ByteArray := prog_1_method_31_code
def yX_isInterrupted : MethodName := ⟨RX, "isInterrupted", "()Z"⟩
abbrev bX_has : ByteArray := prog_1_method_15_code
def yX_has : MethodName := ⟨RX, "has", "(I)Z"⟩
abbrev bX_trap : ByteArray := prog_1_method_34_code
def yX_trap : MethodName := ⟨RX, "trap", "(I)I"⟩
abbrev bX_halt : ByteArray := prog_1_method_35_code
def yX_halt : MethodName := ⟨RX, "halt", "()I"⟩
abbrev bX_windowBeside : ByteArray := prog_1_method_21_code
def yX_windowBeside : MethodName := ⟨RX, "windowBeside", "(I)I"⟩
abbrev bX_window : ByteArray := prog_1_method_20_code
def yX_window : MethodName := ⟨RX, "window", "()I"⟩
abbrev bX_turnTo : ByteArray := prog_1_method_22_code
def yX_turnTo : MethodName := ⟨RX, "turnTo", "(I)V"⟩
abbrev bX_write : ByteArray := prog_1_method_19_code
def yX_write : MethodName := ⟨RX, "write", "(II)V"⟩
abbrev bX_slot : ByteArray := prog_1_method_17_code
def yX_slot : MethodName := ⟨RX, "slot", "(II)I"⟩
abbrev bX_isWordOfMemory : ByteArray := prog_1_method_25_code
def yX_isWordOfMemory : MethodName := ⟨RX, "isWordOfMemory", "(I)Z"⟩
abbrev bX_isInMemory : ByteArray := prog_1_method_24_code
def yX_isInMemory : MethodName := ⟨RX, "isInMemory", "(I)Z"⟩
abbrev bX_perform : ByteArray := prog_1_method_41_code
def yX_perform : MethodName := ⟨RX, "perform", "(I)I"⟩
abbrev bX_performShort : ByteArray := prog_1_method_43_code
def yX_performShort : MethodName := ⟨RX, "performShort", "(I)I"⟩
abbrev bX_performBranch : ByteArray := prog_1_method_44_code
def yX_performBranch : MethodName := ⟨RX, "performBranch", "(I)I"⟩
abbrev bX_conditionOf : ByteArray := prog_1_method_37_code
def yX_conditionOf : MethodName := ⟨RX, "conditionOf", "(I)I"⟩
abbrev bX_holds : ByteArray := prog_1_method_45_code
def yX_holds : MethodName := ⟨RX, "holds", "(I)Z"⟩
abbrev bX_holdsPlainly : ByteArray := prog_1_method_46_code
def yX_holdsPlainly : MethodName := ⟨RX, "holdsPlainly", "(I)Z"⟩
abbrev bX_numberOfD : ByteArray := prog_1_method_36_code
def yX_numberOfD : MethodName := ⟨RX, "numberOfD", "(I)I"⟩
abbrev bX_performCall : ByteArray := prog_1_method_42_code
def yX_performCall : MethodName := ⟨RX, "performCall", "(I)I"⟩
abbrev bX_kindOf : ByteArray := prog_1_method_38_code
def yX_kindOf : MethodName := ⟨RX, "kindOf", "(I)I"⟩
abbrev bX_performOperation : ByteArray := prog_1_method_47_code
def yX_performOperation : MethodName := ⟨RX, "performOperation", "(II)I"⟩
abbrev bX_performArithmetic : ByteArray := prog_1_method_48_code
def yX_performArithmetic : MethodName := ⟨RX, "performArithmetic", "(II)I"⟩
abbrev bX_valueOfA : ByteArray := prog_1_method_39_code
def yX_valueOfA : MethodName := ⟨RX, "valueOfA", "(I)I"⟩
abbrev bX_read : ByteArray := prog_1_method_18_code
def yX_read : MethodName := ⟨RX, "read", "(I)I"⟩
abbrev bX_valueOfB : ByteArray := prog_1_method_40_code
def yX_valueOfB : MethodName := ⟨RX, "valueOfB", "(I)I"⟩
abbrev bX_resultOf : ByteArray := prog_1_method_49_code
def yX_resultOf : MethodName := ⟨RX, "resultOf", "(IIII)I"⟩
abbrev bX_flagsOfResult : ByteArray := prog_1_method_50_code
def yX_flagsOfResult : MethodName := ⟨RX, "flagsOfResult", "(I)I"⟩
abbrev bX_flagsOfCarrying : ByteArray := prog_1_method_51_code
def yX_flagsOfCarrying : MethodName := ⟨RX, "flagsOfCarrying", "(IIII)I"⟩
abbrev bX_total : ByteArray := prog_1_method_52_code
def yX_total : MethodName := ⟨RX, "total", "(ZJJ)J"⟩
abbrev bX_unsigned : ByteArray := prog_1_method_53_code
def yX_unsigned : MethodName := ⟨RX, "unsigned", "(I)J"⟩
abbrev bX_performShift : ByteArray := prog_1_method_54_code
def yX_performShift : MethodName := ⟨RX, "performShift", "(II)I"⟩
abbrev bX_performReading : ByteArray := prog_1_method_55_code
def yX_performReading : MethodName := ⟨RX, "performReading", "(II)I"⟩
abbrev bX_shown : ByteArray := prog_1_method_13_code
def yX_shown : MethodName := ⟨RX, "shown", "(I)I"⟩
abbrev bX_performWriting : ByteArray := prog_1_method_56_code
def yX_performWriting : MethodName := ⟨RX, "performWriting", "(II)I"⟩
abbrev bX_performJump : ByteArray := prog_1_method_57_code
def yX_performJump : MethodName := ⟨RX, "performJump", "(I)I"⟩
abbrev bX_performReturn : ByteArray := prog_1_method_58_code
def yX_performReturn : MethodName := ⟨RX, "performReturn", "(I)I"⟩
abbrev bX_isInvalid : ByteArray := prog_1_method_23_code
def yX_isInvalid : MethodName := ⟨RX, "isInvalid", "(I)Z"⟩
abbrev bX_performTrap : ByteArray := prog_1_method_59_code
def yX_performTrap : MethodName := ⟨RX, "performTrap", "(I)I"⟩
abbrev bX_performTurn : ByteArray := prog_1_method_60_code
def yX_performTurn : MethodName := ⟨RX, "performTurn", "(III)I"⟩
abbrev bX_performTransfer : ByteArray := prog_1_method_61_code
def yX_performTransfer : MethodName := ⟨RX, "performTransfer", "(II)I"⟩
abbrev bX_sizeMoved : ByteArray := prog_1_method_62_code
def yX_sizeMoved : MethodName := ⟨RX, "sizeMoved", "(I)I"⟩
abbrev bX_moveTwoWords : ByteArray := prog_1_method_63_code
def yX_moveTwoWords : MethodName := ⟨RX, "moveTwoWords", "(III)V"⟩
abbrev bX_load : ByteArray := prog_1_method_28_code
def yX_load : MethodName := ⟨RX, "load", "(II)I"⟩
abbrev bX_shiftOfPart : ByteArray := prog_1_method_26_code
def yX_shiftOfPart : MethodName := ⟨RX, "shiftOfPart", "(II)I"⟩
abbrev bX_maskOfPart : ByteArray := prog_1_method_27_code
def yX_maskOfPart : MethodName := ⟨RX, "maskOfPart", "(I)I"⟩
abbrev bX_store : ByteArray := prog_1_method_29_code
def yX_store : MethodName := ⟨RX, "store", "(III)V"⟩
abbrev bX_moveOne : ByteArray := prog_1_method_64_code
def yX_moveOne : MethodName := ⟨RX, "moveOne", "(IIII)V"⟩
abbrev bX_withSign : ByteArray := prog_1_method_65_code
def yX_withSign : MethodName := ⟨RX, "withSign", "(II)I"⟩
abbrev bL_put : ByteArray := method_3_code
def yL_put : MethodName := ⟨RL, "put", "(LWindowCore;II[J)I"⟩
abbrev bX_put : ByteArray := prog_1_method_3_code
def yX_put : MethodName := ⟨RX, "put", "(II)I"⟩
abbrev bL_word : ByteArray := method_4_code
def yL_word : MethodName := ⟨RL, "word", "(LWindowCore;I[J)I"⟩
abbrev bX_word : ByteArray := prog_1_method_4_code
def yX_word : MethodName := ⟨RX, "word", "(I)I"⟩
abbrev bL_set : ByteArray := method_5_code
def yL_set : MethodName := ⟨RL, "set", "(LWindowCore;III[J)I"⟩
abbrev bX_set : ByteArray := prog_1_method_5_code
def yX_set : MethodName := ⟨RX, "set", "(III)I"⟩
abbrev bX_isRegister : ByteArray := prog_1_method_16_code
def yX_isRegister : MethodName := ⟨RX, "isRegister", "(II)Z"⟩
abbrev bL_register : ByteArray := method_6_code
def yL_register : MethodName := ⟨RL, "register", "(LWindowCore;II[J)I"⟩
abbrev bX_register : ByteArray := prog_1_method_6_code
def yX_register : MethodName := ⟨RX, "register", "(II)I"⟩
abbrev bL_control : ByteArray := method_7_code
def yL_control : MethodName := ⟨RL, "control", "(LWindowCore;II[J)I"⟩
abbrev bX_control : ByteArray := prog_1_method_7_code
def yX_control : MethodName := ⟨RX, "control", "(II)I"⟩
abbrev bX_change : ByteArray := prog_1_method_14_code
def yX_change : MethodName := ⟨RX, "change", "(II)V"⟩
abbrev bL_request : ByteArray := method_8_code
def yL_request : MethodName := ⟨RL, "request", "(LWindowCore;I[J)I"⟩
abbrev bX_request : ByteArray := prog_1_method_8_code
def yX_request : MethodName := ⟨RX, "request", "(I)I"⟩
abbrev bL_run : ByteArray := method_9_code
def yL_run : MethodName := ⟨RL, "run", "(LWindowCore;I[J)I"⟩
abbrev bX_run : ByteArray := prog_1_method_10_code
def yX_run : MethodName := ⟨RX, "run", "(I)I"⟩
abbrev bL_look : ByteArray := method_10_code
def yL_look : MethodName := ⟨RL, "look", "(LWindowCore;I[J)I"⟩
abbrev bX_look : ByteArray := prog_1_method_11_code
def yX_look : MethodName := ⟨RX, "look", "(I)I"⟩
abbrev bM_init : ByteArray := prog_3_method_1_code
def yM_init : MethodName := ⟨RM, "<init>", "()V"⟩
abbrev bM_thrown : ByteArray := prog_3_method_2_code
def yM_thrown : MethodName := ⟨RM, "thrown", "()I"⟩
abbrev bM_reset : ByteArray := prog_3_method_4_code
def yM_reset : MethodName := ⟨RM, "reset", "()V"⟩
abbrev bM_setStatus : ByteArray := prog_3_method_19_code
def yM_setStatus : MethodName := ⟨RM, "setStatus", "(I)V"⟩
abbrev bM_put : ByteArray := prog_3_method_9_code
def yM_put : MethodName := ⟨RM, "put", "(II)I"⟩
abbrev bM_isWord : ByteArray := prog_3_method_8_code
def yM_isWord : MethodName := ⟨RM, "isWord", "(I)Z"⟩
abbrev bM_inMemory : ByteArray := prog_3_method_7_code
def yM_inMemory : MethodName := ⟨RM, "inMemory", "(II)Z"⟩
abbrev bM_goes : ByteArray := prog_3_method_3_code
def yM_goes : MethodName := ⟨RM, "goes", "(Z)Z"⟩
abbrev bM_load : ByteArray := prog_3_method_5_code
def yM_load : MethodName := ⟨RM, "load", "(II)I"⟩
abbrev bM_store : ByteArray := prog_3_method_6_code
def yM_store : MethodName := ⟨RM, "store", "(III)V"⟩
abbrev bM_word : ByteArray := prog_3_method_10_code
def yM_word : MethodName := ⟨RM, "word", "(I)I"⟩
abbrev bM_set : ByteArray := prog_3_method_15_code
def yM_set : MethodName := ⟨RM, "set", "(III)I"⟩
abbrev bM_isRegister : ByteArray := prog_3_method_14_code
def yM_isRegister : MethodName := ⟨RM, "isRegister", "(II)Z"⟩
abbrev bM_get : ByteArray := prog_3_method_12_code
def yM_get : MethodName := ⟨RM, "get", "(II)I"⟩
abbrev bM_slot : ByteArray := prog_3_method_11_code
def yM_slot : MethodName := ⟨RM, "slot", "(II)I"⟩
abbrev bM_give : ByteArray := prog_3_method_13_code
def yM_give : MethodName := ⟨RM, "give", "(III)V"⟩
abbrev bM_register : ByteArray := prog_3_method_16_code
def yM_register : MethodName := ⟨RM, "register", "(II)I"⟩
abbrev bM_control : ByteArray := prog_3_method_21_code
def yM_control : MethodName := ⟨RM, "control", "(II)I"⟩
abbrev bM_seen : ByteArray := prog_3_method_23_code
def yM_seen : MethodName := ⟨RM, "seen", "(I)I"⟩
abbrev bM_status : ByteArray := prog_3_method_18_code
def yM_status : MethodName := ⟨RM, "status", "()I"⟩
abbrev bM_bit : ByteArray := prog_3_method_17_code
def yM_bit : MethodName := ⟨RM, "bit", "(ZI)I"⟩
abbrev bM_table : ByteArray := prog_3_method_20_code
def yM_table : MethodName := ⟨RM, "table", "()I"⟩
abbrev bM_request : ByteArray := prog_3_method_22_code
def yM_request : MethodName := ⟨RM, "request", "(I)I"⟩
abbrev bM_look : ByteArray := prog_3_method_24_code
def yM_look : MethodName := ⟨RM, "look", "(I)I"⟩
abbrev bM_step : ByteArray := prog_3_method_45_code
def yM_step : MethodName := ⟨RM, "step", "()I"⟩
abbrev bM_oneStep : ByteArray := prog_3_method_44_code
def yM_oneStep : MethodName := ⟨RM, "oneStep", "()I"⟩
abbrev bM_trap : ByteArray := prog_3_method_42_code
def yM_trap : MethodName := ⟨RM, "trap", "(I)I"⟩
abbrev bM_signed : ByteArray := prog_3_method_26_code
def yM_signed : MethodName := ⟨RM, "signed", "(II)I"⟩
abbrev bM_trouble : ByteArray := prog_3_method_32_code
def yM_trouble : MethodName := ⟨RM, "trouble", "(I)I"⟩
abbrev bM_isKnown : ByteArray := prog_3_method_30_code
def yM_isKnown : MethodName := ⟨RM, "isKnown", "(I)Z"⟩
abbrev bM_moved : ByteArray := prog_3_method_27_code
def yM_moved : MethodName := ⟨RM, "moved", "(I)I"⟩
abbrev bM_isWork : ByteArray := prog_3_method_28_code
def yM_isWork : MethodName := ⟨RM, "isWork", "(I)Z"⟩
abbrev bM_isControl : ByteArray := prog_3_method_29_code
def yM_isControl : MethodName := ⟨RM, "isControl", "(I)Z"⟩
abbrev bM_troubleOf : ByteArray := prog_3_method_31_code
def yM_troubleOf : MethodName := ⟨RM, "troubleOf", "(I)I"⟩
abbrev bM_holds : ByteArray := prog_3_method_25_code
def yM_holds : MethodName := ⟨RM, "holds", "(I)Z"⟩
abbrev bM_fails : ByteArray := prog_3_method_43_code
def yM_fails : MethodName := ⟨RM, "fails", "()Z"⟩
abbrev bM_act : ByteArray := prog_3_method_41_code
def yM_act : MethodName := ⟨RM, "act", "(I)V"⟩
abbrev bM_simple : ByteArray := prog_3_method_39_code
def yM_simple : MethodName := ⟨RM, "simple", "(I)V"⟩
abbrev bM_memory : ByteArray := prog_3_method_38_code
def yM_memory : MethodName := ⟨RM, "memory", "(I)V"⟩
abbrev bM_shift : ByteArray := prog_3_method_36_code
def yM_shift : MethodName := ⟨RM, "shift", "()V"⟩
abbrev bM_work : ByteArray := prog_3_method_35_code
def yM_work : MethodName := ⟨RM, "work", "()V"⟩
abbrev bM_plain : ByteArray := prog_3_method_34_code
def yM_plain : MethodName := ⟨RM, "plain", "(I)J"⟩
abbrev bM_flags : ByteArray := prog_3_method_33_code
def yM_flags : MethodName := ⟨RM, "flags", "(IZZ)V"⟩
abbrev bM_controls : ByteArray := prog_3_method_37_code
def yM_controls : MethodName := ⟨RM, "controls", "()V"⟩
abbrev bM_go : ByteArray := prog_3_method_40_code
def yM_go : MethodName := ⟨RM, "go", "(I)V"⟩
abbrev bM_run : ByteArray := prog_3_method_46_code
def yM_run : MethodName := ⟨RM, "run", "(I)I"⟩
abbrev vwCl : List vw_C := [(RX, TX, 12), (RM, TM, 29)]
def wL_0 : List Cond := [Cond.initialized RL, Cond.initialized RX, Cond.initialized RJ, Cond.initialized RM, Cond.initialized "java/lang/Throwable", Cond.initialized "java/lang/Exception", Cond.initialized "java/lang/RuntimeException", Cond.initialized "java/util/NoSuchElementException"]
def wL_1 : List Cond := [Cond.initialized "java/lang/IllegalArgumentException", Cond.classLink RL 8 RX, Cond.instantiable RX 12, Cond.methodLink RL 40 yX_init, Cond.instanceMethod yX_init, Cond.code yX_init bX_init 1 none, Cond.methodLink RX 3 (⟨"java/lang/Object", "<init>", "()V"⟩ : MethodName), Cond.instanceMethod (⟨"java/lang/Object", "<init>", "()V"⟩ : MethodName)]
def wL_2 : List Cond := [Cond.code (⟨"java/lang/Object", "<init>", "()V"⟩ : MethodName) object_method_1_code 1 (Option.none : Option ClassFile.FieldType), Cond.methodLink RX 16 yX_begin, Cond.instanceMethod yX_begin, Cond.code yX_begin bX_begin 1 none, Cond.methodLink RX 60 yJ_fill, Cond.static yJ_fill, Cond.code yJ_fill bJ_fill 4 none, Cond.fieldLink RX 9 "WindowCore" "memory" "[I"]
def wL_3 : List Cond := [Cond.fieldLink RX 13 "WindowCore" "registers" "[I", Cond.fieldLink RX 66 "WindowCore" "status" "I", Cond.fieldLink RX 69 "WindowCore" "invalid" "I", Cond.fieldLink RX 72 "WindowCore" "table" "I", Cond.fieldLink RX 75 "WindowCore" "place" "I", Cond.fieldLink RX 78 "WindowCore" "next" "I", Cond.fieldLink RX 52 "WindowCore" "requested" "I", Cond.fieldLink RX 81 "WindowCore" "steps" "I"]
def wL_4 : List Cond := [Cond.fieldLink RX 84 "WindowCore" "traps" "I", Cond.fieldLink RX 42 "WindowCore" "annulled" "Z", Cond.fieldLink RX 46 "WindowCore" "stopped" "Z", Cond.superclass RX "java/lang/Object", Cond.arrayClass .int, Cond.methodLink RL 44 yX_reset, Cond.instanceMethod yX_reset, Cond.selects RX yX_reset yX_reset]
def wL_5 : List Cond := [Cond.code yX_reset bX_reset 1 none, Cond.methodLink RL 75 yX_step, Cond.instanceMethod yX_step, Cond.selects RX yX_step yX_step, Cond.code yX_step bX_step 1 (some .int), Cond.methodLink RX 56 yX_advance, Cond.instanceMethod yX_advance, Cond.code yX_advance bX_advance 1 (some .int)]
def wL_6 : List Cond := [Cond.methodLink RX 104 yX_goOn, Cond.instanceMethod yX_goOn, Cond.code yX_goOn bX_goOn 1 (some .int), Cond.methodLink RX 120 yX_goTo, Cond.instanceMethod yX_goTo, Cond.code yX_goTo bX_goTo 2 (some .int), Cond.methodLink RX 107 yX_isInterrupted, Cond.instanceMethod yX_isInterrupted]
def wL_7 : List Cond := [Cond.code yX_isInterrupted bX_isInterrupted 2 (some .boolean), Cond.methodLink RX 117 yX_has, Cond.instanceMethod yX_has, Cond.code yX_has bX_has 2 (some .boolean), Cond.methodLink RX 111 yX_trap, Cond.instanceMethod yX_trap, Cond.code yX_trap bX_trap 3 (some .int), Cond.methodLink RX 123 yX_halt]
def wL_8 : List Cond := [Cond.instanceMethod yX_halt, Cond.code yX_halt bX_halt 1 (some .int), Cond.methodLink RX 126 yX_windowBeside, Cond.instanceMethod yX_windowBeside, Cond.code yX_windowBeside bX_windowBeside 2 (some .int), Cond.methodLink RX 92 yX_window, Cond.instanceMethod yX_window, Cond.code yX_window bX_window 1 (some .int)]
def wL_9 : List Cond := [Cond.methodLink RX 88 yX_turnTo, Cond.instanceMethod yX_turnTo, Cond.code yX_turnTo bX_turnTo 2 none, Cond.methodLink RX 129 yX_write, Cond.instanceMethod yX_write, Cond.code yX_write bX_write 3 none, Cond.methodLink RX 30 yX_slot, Cond.static yX_slot]
def wL_10 : List Cond := [Cond.code yX_slot bX_slot 3 (some .int), Cond.methodLink RX 19 yX_isWordOfMemory, Cond.static yX_isWordOfMemory, Cond.code yX_isWordOfMemory bX_isWordOfMemory 1 (some .boolean), Cond.methodLink RX 95 yX_isInMemory, Cond.static yX_isInMemory, Cond.code yX_isInMemory bX_isInMemory 1 (some .boolean), Cond.methodLink RX 114 yX_perform]
def wL_11 : List Cond := [Cond.instanceMethod yX_perform, Cond.code yX_perform bX_perform 2 (some .int), Cond.methodLink RX 135 yX_performShort, Cond.instanceMethod yX_performShort, Cond.code yX_performShort bX_performShort 2 (some .int), Cond.methodLink RX 150 yX_performBranch, Cond.instanceMethod yX_performBranch, Cond.code yX_performBranch bX_performBranch 5 (some .int)]
def wL_12 : List Cond := [Cond.methodLink RX 156 yX_conditionOf, Cond.static yX_conditionOf, Cond.code yX_conditionOf bX_conditionOf 1 (some .int), Cond.methodLink RX 159 yX_holds, Cond.instanceMethod yX_holds, Cond.code yX_holds bX_holds 3 (some .boolean), Cond.methodLink RX 163 yX_holdsPlainly, Cond.instanceMethod yX_holdsPlainly]
def wL_13 : List Cond := [Cond.code yX_holdsPlainly bX_holdsPlainly 3 (some .boolean), Cond.constant RX 166 (8388608 : Int32), Cond.constant RX 167 (2097152 : Int32), Cond.constant RX 168 (4194304 : Int32), Cond.constant RX 169 (1048576 : Int32), Cond.constant RX 162 (536870912 : Int32), Cond.methodLink RX 153 yX_numberOfD, Cond.static yX_numberOfD]
def wL_14 : List Cond := [Cond.code yX_numberOfD bX_numberOfD 1 (some .int), Cond.methodLink RX 138 yX_performCall, Cond.instanceMethod yX_performCall, Cond.code yX_performCall bX_performCall 3 (some .int), Cond.methodLink RX 141 yX_kindOf, Cond.static yX_kindOf, Cond.code yX_kindOf bX_kindOf 1 (some .int), Cond.methodLink RX 144 yX_performOperation]
def wL_15 : List Cond := [Cond.instanceMethod yX_performOperation, Cond.code yX_performOperation bX_performOperation 3 (some .int), Cond.methodLink RX 170 yX_performArithmetic, Cond.instanceMethod yX_performArithmetic, Cond.code yX_performArithmetic bX_performArithmetic 9 (some .int), Cond.methodLink RX 195 yX_valueOfA, Cond.instanceMethod yX_valueOfA, Cond.code yX_valueOfA bX_valueOfA 2 (some .int)]
def wL_16 : List Cond := [Cond.methodLink RX 132 yX_read, Cond.instanceMethod yX_read, Cond.code yX_read bX_read 2 (some .int), Cond.methodLink RX 198 yX_valueOfB, Cond.instanceMethod yX_valueOfB, Cond.code yX_valueOfB bX_valueOfB 2 (some .int), Cond.methodLink RX 201 yX_resultOf, Cond.static yX_resultOf]
def wL_17 : List Cond := [Cond.code yX_resultOf bX_resultOf 4 (some .int), Cond.methodLink RX 205 yX_flagsOfResult, Cond.static yX_flagsOfResult, Cond.code yX_flagsOfResult bX_flagsOfResult 1 (some .int), Cond.methodLink RX 208 yX_flagsOfCarrying, Cond.static yX_flagsOfCarrying, Cond.code yX_flagsOfCarrying bX_flagsOfCarrying 12 (some .int), Cond.methodLink RX 212 yX_total]
def wL_18 : List Cond := [Cond.static yX_total, Cond.code yX_total bX_total 5 (some .long), Cond.methodLink RX 216 yX_unsigned, Cond.static yX_unsigned, Cond.code yX_unsigned bX_unsigned 1 (some .long), Cond.constantLong RX 220 (4294967295 : Int64), Cond.constant RX 211 (-15728641 : Int32), Cond.methodLink RX 173 yX_performShift]
def wL_19 : List Cond := [Cond.instanceMethod yX_performShift, Cond.code yX_performShift bX_performShift 6 (some .int), Cond.methodLink RX 176 yX_performReading, Cond.instanceMethod yX_performReading, Cond.code yX_performReading bX_performReading 3 (some .int), Cond.methodLink RX 34 yX_shown, Cond.instanceMethod yX_shown, Cond.code yX_shown bX_shown 2 (some .int)]
def wL_20 : List Cond := [Cond.methodLink RX 179 yX_performWriting, Cond.instanceMethod yX_performWriting, Cond.code yX_performWriting bX_performWriting 4 (some .int), Cond.constant RX 87 (15732735 : Int32), Cond.methodLink RX 182 yX_performJump, Cond.instanceMethod yX_performJump, Cond.code yX_performJump bX_performJump 3 (some .int), Cond.methodLink RX 185 yX_performReturn]
def wL_21 : List Cond := [Cond.instanceMethod yX_performReturn, Cond.code yX_performReturn bX_performReturn 5 (some .int), Cond.methodLink RX 222 yX_isInvalid, Cond.instanceMethod yX_isInvalid, Cond.code yX_isInvalid bX_isInvalid 2 (some .boolean), Cond.methodLink RX 188 yX_performTrap, Cond.instanceMethod yX_performTrap, Cond.code yX_performTrap bX_performTrap 2 (some .int)]
def wL_22 : List Cond := [Cond.methodLink RX 191 yX_performTurn, Cond.instanceMethod yX_performTurn, Cond.code yX_performTurn bX_performTurn 5 (some .int), Cond.methodLink RX 147 yX_performTransfer, Cond.instanceMethod yX_performTransfer, Cond.code yX_performTransfer bX_performTransfer 6 (some .int), Cond.methodLink RX 225 yX_sizeMoved, Cond.static yX_sizeMoved]
def wL_23 : List Cond := [Cond.code yX_sizeMoved bX_sizeMoved 1 (some .int), Cond.methodLink RX 228 yX_moveTwoWords, Cond.instanceMethod yX_moveTwoWords, Cond.code yX_moveTwoWords bX_moveTwoWords 4 none, Cond.methodLink RX 236 yX_load, Cond.instanceMethod yX_load, Cond.code yX_load bX_load 3 (some .int), Cond.methodLink RX 98 yX_shiftOfPart]
def wL_24 : List Cond := [Cond.static yX_shiftOfPart, Cond.code yX_shiftOfPart bX_shiftOfPart 2 (some .int), Cond.methodLink RX 101 yX_maskOfPart, Cond.static yX_maskOfPart, Cond.code yX_maskOfPart bX_maskOfPart 1 (some .int), Cond.methodLink RX 239 yX_store, Cond.instanceMethod yX_store, Cond.code yX_store bX_store 7 none]
def wL_25 : List Cond := [Cond.methodLink RX 232 yX_moveOne, Cond.instanceMethod yX_moveOne, Cond.code yX_moveOne bX_moveOne 6 none, Cond.methodLink RX 242 yX_withSign, Cond.static yX_withSign, Cond.code yX_withSign bX_withSign 3 (some .int), Cond.methodLink RL 48 yL_put, Cond.static yL_put]
def wL_26 : List Cond := [Cond.codeWith yL_put method_3_code 5 (Option.some .int) [(0, 10, 13, 13)], Cond.classLink RL 13 "java/util/NoSuchElementException", Cond.methodLink RL 7 yX_put, Cond.instanceMethod yX_put, Cond.selects RX yX_put yX_put, Cond.code yX_put bX_put 4 (some .int), Cond.classLink RX 23 "java/util/NoSuchElementException", Cond.instantiable "java/util/NoSuchElementException" 6]
def wL_27 : List Cond := [Cond.selects "java/util/NoSuchElementException" (⟨"java/lang/Throwable", "fillInStackTrace", "(I)Ljava/lang/Throwable;"⟩ : MethodName) (⟨"java/lang/Throwable", "fillInStackTrace", "(I)Ljava/lang/Throwable;"⟩ : MethodName), Cond.selects "java/util/NoSuchElementException" (⟨"java/lang/Throwable", "fillInStackTrace", "()Ljava/lang/Throwable;"⟩ : MethodName) (⟨"java/lang/Throwable", "fillInStackTrace", "()Ljava/lang/Throwable;"⟩ : MethodName), Cond.lays "java/util/NoSuchElementException" "java/lang/Throwable" "cause" "Ljava/lang/Throwable;", Cond.lays "java/lang/Throwable" "java/lang/Throwable" "cause" "Ljava/lang/Throwable;", Cond.lays "java/util/NoSuchElementException" "java/lang/Throwable" "stackTrace" "[Ljava/lang/StackTraceElement;", Cond.lays "java/lang/Throwable" "java/lang/Throwable" "stackTrace" "[Ljava/lang/StackTraceElement;", Cond.lays "java/util/NoSuchElementException" "java/lang/Throwable" "suppressedExceptions" "Ljava/util/List;", Cond.lays "java/lang/Throwable" "java/lang/Throwable" "suppressedExceptions" "Ljava/util/List;"]
def wL_28 : List Cond := [Cond.lays "java/util/NoSuchElementException" "java/lang/Throwable" "detailMessage" "Ljava/lang/String;", Cond.lays "java/lang/Throwable" "java/lang/Throwable" "detailMessage" "Ljava/lang/String;", Cond.lays "java/util/NoSuchElementException" "java/lang/Throwable" "backtrace" "Ljava/lang/Object;", Cond.lays "java/lang/Throwable" "java/lang/Throwable" "backtrace" "Ljava/lang/Object;", Cond.fieldLink "java/lang/Throwable" 198 "java/lang/Throwable" "backtrace" "Ljava/lang/Object;", Cond.superclass "java/lang/Throwable" "java/lang/Object", Cond.instanceMethod (⟨"java/lang/Throwable", "<init>", "()V"⟩ : MethodName), Cond.code (⟨"java/lang/Throwable", "<init>", "()V"⟩ : MethodName) prog_7_method_1_code 1 (Option.none : Option ClassFile.FieldType)]
def wL_29 : List Cond := [Cond.methodLink "java/lang/Throwable" 1 (⟨"java/lang/Object", "<init>", "()V"⟩ : MethodName), Cond.fieldLink "java/lang/Throwable" 13 "java/lang/Throwable" "UNASSIGNED_STACK" "[Ljava/lang/StackTraceElement;", Cond.fieldLink "java/lang/Throwable" 20 "java/lang/Throwable" "SUPPRESSED_SENTINEL" "Ljava/util/List;", Cond.methodLink "java/lang/Throwable" 27 (⟨"java/lang/Throwable", "fillInStackTrace", "()Ljava/lang/Throwable;"⟩ : MethodName), Cond.instanceMethod (⟨"java/lang/Throwable", "fillInStackTrace", "()Ljava/lang/Throwable;"⟩ : MethodName), Cond.sameMethod "java/lang/Throwable" "java/lang/Throwable" "fillInStackTrace" "()Ljava/lang/Throwable;", Cond.selects "java/lang/IllegalArgumentException" (⟨"java/lang/Throwable", "fillInStackTrace", "()Ljava/lang/Throwable;"⟩ : MethodName) (⟨"java/lang/Throwable", "fillInStackTrace", "()Ljava/lang/Throwable;"⟩ : MethodName), Cond.codeSync (⟨"java/lang/Throwable", "fillInStackTrace", "()Ljava/lang/Throwable;"⟩ : MethodName) prog_7_method_18_code 1 (Option.some (.object "java/lang/Throwable"))]
def wL_30 : List Cond := [Cond.methodLink "java/lang/Throwable" 202 (⟨"java/lang/Throwable", "fillInStackTrace", "(I)Ljava/lang/Throwable;"⟩ : MethodName), Cond.instanceMethod (⟨"java/lang/Throwable", "fillInStackTrace", "(I)Ljava/lang/Throwable;"⟩ : MethodName), Cond.instantiable "java/lang/Throwable" 6, Cond.native (⟨"java/lang/Throwable", "fillInStackTrace", "(I)Ljava/lang/Throwable;"⟩ : MethodName), Cond.methodLink RX 25 (⟨"java/util/NoSuchElementException", "<init>", "()V"⟩ : MethodName), Cond.instanceMethod (⟨"java/util/NoSuchElementException", "<init>", "()V"⟩ : MethodName), Cond.code (⟨"java/util/NoSuchElementException", "<init>", "()V"⟩ : MethodName) prog_9_method_1_code 1 (Option.none : Option ClassFile.FieldType), Cond.methodLink "java/util/NoSuchElementException" 1 (⟨"java/lang/RuntimeException", "<init>", "()V"⟩ : MethodName)]
def wL_31 : List Cond := [Cond.instanceMethod (⟨"java/lang/RuntimeException", "<init>", "()V"⟩ : MethodName), Cond.code (⟨"java/lang/RuntimeException", "<init>", "()V"⟩ : MethodName) prog_6_method_1_code 1 (Option.none : Option ClassFile.FieldType), Cond.methodLink "java/lang/RuntimeException" 1 (⟨"java/lang/Exception", "<init>", "()V"⟩ : MethodName), Cond.instanceMethod (⟨"java/lang/Exception", "<init>", "()V"⟩ : MethodName), Cond.code (⟨"java/lang/Exception", "<init>", "()V"⟩ : MethodName) prog_4_method_1_code 1 (Option.none : Option ClassFile.FieldType), Cond.methodLink "java/lang/Exception" 1 (⟨"java/lang/Throwable", "<init>", "()V"⟩ : MethodName), Cond.fieldLink "java/lang/Throwable" 7 "java/lang/Throwable" "cause" "Ljava/lang/Throwable;", Cond.fieldLink "java/lang/Throwable" 17 "java/lang/Throwable" "stackTrace" "[Ljava/lang/StackTraceElement;"]
def wL_32 : List Cond := [Cond.fieldLink "java/lang/Throwable" 24 "java/lang/Throwable" "suppressedExceptions" "Ljava/util/List;", Cond.lays "java/util/NoSuchElementException" "java/lang/Throwable" "depth" "I", Cond.superclass "java/util/NoSuchElementException" "java/lang/RuntimeException", Cond.methodLink RL 58 yL_word, Cond.static yL_word, Cond.codeWith yL_word method_4_code 4 (Option.some .int) [(0, 9, 12, 13)], Cond.methodLink RL 15 yX_word, Cond.instanceMethod yX_word]
def wL_33 : List Cond := [Cond.selects RX yX_word yX_word, Cond.code yX_word bX_word 2 (some .int), Cond.methodLink RL 62 yL_set, Cond.static yL_set, Cond.codeWith yL_set method_5_code 6 (Option.some .int) [(0, 12, 15, 13)], Cond.methodLink RL 19 yX_set, Cond.instanceMethod yX_set, Cond.selects RX yX_set yX_set]
def wL_34 : List Cond := [Cond.code yX_set bX_set 5 (some .int), Cond.methodLink RX 26 yX_isRegister, Cond.static yX_isRegister, Cond.code yX_isRegister bX_isRegister 2 (some .boolean), Cond.methodLink RL 66 yL_register, Cond.static yL_register, Cond.codeWith yL_register method_6_code 5 (Option.some .int) [(0, 10, 13, 13)], Cond.methodLink RL 23 yX_register]
def wL_35 : List Cond := [Cond.instanceMethod yX_register, Cond.selects RX yX_register yX_register, Cond.code yX_register bX_register 3 (some .int), Cond.methodLink RL 69 yL_control, Cond.static yL_control, Cond.codeWith yL_control method_7_code 5 (Option.some .int) [(0, 10, 13, 13)], Cond.methodLink RL 26 yX_control, Cond.instanceMethod yX_control]
def wL_36 : List Cond := [Cond.selects RX yX_control yX_control, Cond.code yX_control bX_control 4 (some .int), Cond.methodLink RX 38 yX_change, Cond.instanceMethod yX_change, Cond.code yX_change bX_change 3 none, Cond.methodLink RL 72 yL_request, Cond.static yL_request, Cond.codeWith yL_request method_8_code 4 (Option.some .int) [(0, 9, 12, 32)]]
def wL_37 : List Cond := [Cond.classLink RL 32 "java/lang/IllegalArgumentException", Cond.methodLink RL 29 yX_request, Cond.instanceMethod yX_request, Cond.selects RX yX_request yX_request, Cond.code yX_request bX_request 3 (some .int), Cond.classLink RX 49 "java/lang/IllegalArgumentException", Cond.instantiable "java/lang/IllegalArgumentException" 6, Cond.selects "java/lang/IllegalArgumentException" (⟨"java/lang/Throwable", "fillInStackTrace", "(I)Ljava/lang/Throwable;"⟩ : MethodName) (⟨"java/lang/Throwable", "fillInStackTrace", "(I)Ljava/lang/Throwable;"⟩ : MethodName)]
def wL_38 : List Cond := [Cond.lays "java/lang/IllegalArgumentException" "java/lang/Throwable" "cause" "Ljava/lang/Throwable;", Cond.lays "java/lang/IllegalArgumentException" "java/lang/Throwable" "stackTrace" "[Ljava/lang/StackTraceElement;", Cond.lays "java/lang/IllegalArgumentException" "java/lang/Throwable" "suppressedExceptions" "Ljava/util/List;", Cond.lays "java/lang/IllegalArgumentException" "java/lang/Throwable" "detailMessage" "Ljava/lang/String;", Cond.lays "java/lang/IllegalArgumentException" "java/lang/Throwable" "backtrace" "Ljava/lang/Object;", Cond.methodLink RX 51 (⟨"java/lang/IllegalArgumentException", "<init>", "()V"⟩ : MethodName), Cond.instanceMethod (⟨"java/lang/IllegalArgumentException", "<init>", "()V"⟩ : MethodName), Cond.code (⟨"java/lang/IllegalArgumentException", "<init>", "()V"⟩ : MethodName) prog_5_method_1_code 1 (Option.none : Option ClassFile.FieldType)]
def wL_39 : List Cond := [Cond.methodLink "java/lang/IllegalArgumentException" 1 (⟨"java/lang/RuntimeException", "<init>", "()V"⟩ : MethodName), Cond.lays "java/lang/IllegalArgumentException" "java/lang/Throwable" "depth" "I", Cond.superclass "java/lang/IllegalArgumentException" "java/lang/RuntimeException", Cond.methodLink RL 79 yL_run, Cond.static yL_run, Cond.codeWith yL_run method_9_code 4 (Option.some .int) [(0, 9, 12, 32)], Cond.methodLink RL 34 yX_run, Cond.instanceMethod yX_run]
def wL_40 : List Cond := [Cond.selects RX yX_run yX_run, Cond.code yX_run bX_run 4 (some .int), Cond.methodLink RL 82 yL_look, Cond.static yL_look, Cond.codeWith yL_look method_10_code 4 (Option.some .int) [(0, 9, 12, 13)], Cond.methodLink RL 37 yX_look, Cond.instanceMethod yX_look, Cond.selects RX yX_look yX_look]
def wL_41 : List Cond := [Cond.code yX_look bX_look 2 (some .int), Cond.classLink RL 41 RM, Cond.instantiable RM 29, Cond.methodLink RL 43 yM_init, Cond.instanceMethod yM_init, Cond.code yM_init bM_init 1 none, Cond.methodLink RM 1 (⟨"java/lang/Object", "<init>", "()V"⟩ : MethodName), Cond.fieldLink RM 27 "WindowCoreModel" "thrown" "I"]
def wL_42 : List Cond := [Cond.fieldLink RM 7 "WindowCoreModel" "bytes" "[I", Cond.fieldLink RM 13 "WindowCoreModel" "globals" "[I", Cond.fieldLink RM 16 "WindowCoreModel" "windows" "[I", Cond.fieldLink RM 93 "WindowCoreModel" "window" "I", Cond.fieldLink RM 96 "WindowCoreModel" "traps" "Z", Cond.fieldLink RM 103 "WindowCoreModel" "before" "Z", Cond.fieldLink RM 19 "WindowCoreModel" "kernel" "Z", Cond.fieldLink RM 106 "WindowCoreModel" "level" "I"]
def wL_43 : List Cond := [Cond.fieldLink RM 109 "WindowCoreModel" "carry" "Z", Cond.fieldLink RM 112 "WindowCoreModel" "overflow" "Z", Cond.fieldLink RM 115 "WindowCoreModel" "zero" "Z", Cond.fieldLink RM 118 "WindowCoreModel" "negative" "Z", Cond.fieldLink RM 34 "WindowCoreModel" "invalid" "I", Cond.fieldLink RM 37 "WindowCoreModel" "base" "I", Cond.fieldLink RM 40 "WindowCoreModel" "type" "I", Cond.fieldLink RM 43 "WindowCoreModel" "place" "I"]
def wL_44 : List Cond := [Cond.fieldLink RM 23 "WindowCoreModel" "next" "I", Cond.fieldLink RM 46 "WindowCoreModel" "annulled" "Z", Cond.fieldLink RM 49 "WindowCoreModel" "stopped" "Z", Cond.fieldLink RM 52 "WindowCoreModel" "asked" "I", Cond.fieldLink RM 55 "WindowCoreModel" "steps" "I", Cond.fieldLink RM 58 "WindowCoreModel" "trapped" "I", Cond.fieldLink RM 150 "WindowCoreModel" "instruction" "I", Cond.fieldLink RM 162 "WindowCoreModel" "d" "I"]
def wL_45 : List Cond := [Cond.fieldLink RM 144 "WindowCoreModel" "a" "I", Cond.fieldLink RM 147 "WindowCoreModel" "b" "I", Cond.fieldLink RM 132 "WindowCoreModel" "order" "I", Cond.fieldLink RM 178 "WindowCoreModel" "target" "I", Cond.superclass RM "java/lang/Object", Cond.methodLink RL 54 yM_thrown, Cond.instanceMethod yM_thrown, Cond.selects RM yM_thrown yM_thrown]
def wL_46 : List Cond := [Cond.code yM_thrown bM_thrown 1 (some .int), Cond.methodLink RL 47 yM_reset, Cond.instanceMethod yM_reset, Cond.selects RM yM_reset yM_reset, Cond.code yM_reset bM_reset 2 none, Cond.methodLink RM 30 yM_setStatus, Cond.instanceMethod yM_setStatus, Cond.code yM_setStatus bM_setStatus 2 none]
def wL_47 : List Cond := [Cond.methodLink RL 53 yM_put, Cond.instanceMethod yM_put, Cond.selects RM yM_put yM_put, Cond.code yM_put bM_put 4 (some .int), Cond.methodLink RM 65 yM_isWord, Cond.static yM_isWord, Cond.code yM_isWord bM_isWord 1 (some .boolean), Cond.methodLink RM 61 yM_inMemory]
def wL_48 : List Cond := [Cond.static yM_inMemory, Cond.code yM_inMemory bM_inMemory 2 (some .boolean), Cond.methodLink RM 69 yM_goes, Cond.instanceMethod yM_goes, Cond.code yM_goes bM_goes 2 (some .boolean), Cond.methodLink RM 73 yM_load, Cond.instanceMethod yM_load, Cond.code yM_load bM_load 5 (some .int)]
def wL_49 : List Cond := [Cond.methodLink RM 77 yM_store, Cond.instanceMethod yM_store, Cond.code yM_store bM_store 5 none, Cond.methodLink RL 61 yM_word, Cond.instanceMethod yM_word, Cond.selects RM yM_word yM_word, Cond.code yM_word bM_word 2 (some .int), Cond.methodLink RL 65 yM_set]
def wL_50 : List Cond := [Cond.instanceMethod yM_set, Cond.selects RM yM_set yM_set, Cond.code yM_set bM_set 5 (some .int), Cond.methodLink RM 84 yM_isRegister, Cond.static yM_isRegister, Cond.code yM_isRegister bM_isRegister 2 (some .boolean), Cond.methodLink RM 87 yM_get, Cond.instanceMethod yM_get]
def wL_51 : List Cond := [Cond.code yM_get bM_get 3 (some .int), Cond.methodLink RM 81 yM_slot, Cond.static yM_slot, Cond.code yM_slot bM_slot 2 (some .int), Cond.methodLink RM 90 yM_give, Cond.instanceMethod yM_give, Cond.code yM_give bM_give 4 none, Cond.methodLink RL 68 yM_register]
def wL_52 : List Cond := [Cond.instanceMethod yM_register, Cond.selects RM yM_register yM_register, Cond.code yM_register bM_register 3 (some .int), Cond.methodLink RL 71 yM_control, Cond.instanceMethod yM_control, Cond.selects RM yM_control yM_control, Cond.code yM_control bM_control 4 (some .int), Cond.methodLink RM 121 yM_seen]
def wL_53 : List Cond := [Cond.instanceMethod yM_seen, Cond.code yM_seen bM_seen 2 (some .int), Cond.methodLink RM 125 yM_status, Cond.instanceMethod yM_status, Cond.code yM_status bM_status 1 (some .int), Cond.methodLink RM 99 yM_bit, Cond.static yM_bit, Cond.code yM_bit bM_bit 2 (some .int)]
def wL_54 : List Cond := [Cond.methodLink RM 129 yM_table, Cond.instanceMethod yM_table, Cond.code yM_table bM_table 1 (some .int), Cond.methodLink RL 74 yM_request, Cond.instanceMethod yM_request, Cond.selects RM yM_request yM_request, Cond.code yM_request bM_request 3 (some .int), Cond.methodLink RL 84 yM_look]
def wL_55 : List Cond := [Cond.instanceMethod yM_look, Cond.selects RM yM_look yM_look, Cond.code yM_look bM_look 2 (some .int), Cond.methodLink RL 78 yM_step, Cond.instanceMethod yM_step, Cond.selects RM yM_step yM_step, Cond.code yM_step bM_step 1 (some .int), Cond.methodLink RM 212 yM_oneStep]
def wL_56 : List Cond := [Cond.instanceMethod yM_oneStep, Cond.code yM_oneStep bM_oneStep 3 (some .int), Cond.methodLink RM 199 yM_trap, Cond.instanceMethod yM_trap, Cond.code yM_trap bM_trap 2 (some .int), Cond.methodLink RM 175 yM_signed, Cond.static yM_signed, Cond.code yM_signed bM_signed 2 (some .int)]
def wL_57 : List Cond := [Cond.methodLink RM 202 yM_trouble, Cond.instanceMethod yM_trouble, Cond.code yM_trouble bM_trouble 3 (some .int), Cond.methodLink RM 156 yM_isKnown, Cond.instanceMethod yM_isKnown, Cond.code yM_isKnown bM_isKnown 2 (some .boolean), Cond.methodLink RM 135 yM_moved, Cond.static yM_moved]
def wL_58 : List Cond := [Cond.code yM_moved bM_moved 1 (some .int), Cond.methodLink RM 138 yM_isWork, Cond.static yM_isWork, Cond.code yM_isWork bM_isWork 2 (some .boolean), Cond.methodLink RM 141 yM_isControl, Cond.static yM_isControl, Cond.code yM_isControl bM_isControl 1 (some .boolean), Cond.methodLink RM 159 yM_troubleOf]
def wL_59 : List Cond := [Cond.instanceMethod yM_troubleOf, Cond.code yM_troubleOf bM_troubleOf 4 (some .int), Cond.methodLink RM 153 yM_holds, Cond.instanceMethod yM_holds, Cond.code yM_holds bM_holds 3 (some .boolean), Cond.methodLink RM 205 yM_fails, Cond.instanceMethod yM_fails, Cond.code yM_fails bM_fails 1 (some .boolean)]
def wL_60 : List Cond := [Cond.methodLink RM 209 yM_act, Cond.instanceMethod yM_act, Cond.code yM_act bM_act 2 none, Cond.methodLink RM 181 yM_simple, Cond.instanceMethod yM_simple, Cond.code yM_simple bM_simple 4 none, Cond.methodLink RM 184 yM_memory, Cond.instanceMethod yM_memory]
def wL_61 : List Cond := [Cond.code yM_memory bM_memory 5 none, Cond.methodLink RM 187 yM_shift, Cond.instanceMethod yM_shift, Cond.code yM_shift bM_shift 2 none, Cond.methodLink RM 190 yM_work, Cond.instanceMethod yM_work, Cond.code yM_work bM_work 8 none, Cond.methodLink RM 167 yM_plain]
def wL_62 : List Cond := [Cond.static yM_plain, Cond.code yM_plain bM_plain 1 (some .long), Cond.constantLong RM 165 (4294967295 : Int64), Cond.methodLink RM 171 yM_flags, Cond.instanceMethod yM_flags, Cond.code yM_flags bM_flags 4 none, Cond.methodLink RM 193 yM_controls, Cond.instanceMethod yM_controls]
def wL_63 : List Cond := [Cond.code yM_controls bM_controls 2 none, Cond.methodLink RM 196 yM_go, Cond.instanceMethod yM_go, Cond.code yM_go bM_go 2 none, Cond.methodLink RL 81 yM_run, Cond.instanceMethod yM_run, Cond.selects RM yM_run yM_run, Cond.code yM_run bM_run 4 (some .int)]
def wL_64 : List Cond := [Cond.arrayClass .long, Cond.sameMethod "java/lang/Throwable" "java/lang/Throwable" "fillInStackTrace" "(I)Ljava/lang/Throwable;", Cond.selects RX yX_begin yX_begin, Cond.selects RX yX_advance yX_advance, Cond.selects RX yX_goOn yX_goOn, Cond.selects RX yX_goTo yX_goTo, Cond.selects RX yX_isInterrupted yX_isInterrupted, Cond.selects RX yX_has yX_has]
def wL_65 : List Cond := [Cond.selects RX yX_trap yX_trap, Cond.selects RX yX_halt yX_halt, Cond.selects RX yX_windowBeside yX_windowBeside, Cond.selects RX yX_window yX_window, Cond.selects RX yX_turnTo yX_turnTo, Cond.selects RX yX_write yX_write, Cond.selects RX yX_perform yX_perform, Cond.selects RX yX_performShort yX_performShort]
def wL_66 : List Cond := [Cond.selects RX yX_performBranch yX_performBranch, Cond.selects RX yX_holds yX_holds, Cond.selects RX yX_holdsPlainly yX_holdsPlainly, Cond.selects RX yX_performCall yX_performCall, Cond.selects RX yX_performOperation yX_performOperation, Cond.selects RX yX_performArithmetic yX_performArithmetic, Cond.selects RX yX_valueOfA yX_valueOfA, Cond.selects RX yX_read yX_read]
def wL_67 : List Cond := [Cond.selects RX yX_valueOfB yX_valueOfB, Cond.selects RX yX_performShift yX_performShift, Cond.selects RX yX_performReading yX_performReading, Cond.selects RX yX_shown yX_shown, Cond.selects RX yX_performWriting yX_performWriting, Cond.selects RX yX_performJump yX_performJump, Cond.selects RX yX_performReturn yX_performReturn, Cond.selects RX yX_isInvalid yX_isInvalid]
def wL_68 : List Cond := [Cond.selects RX yX_performTrap yX_performTrap, Cond.selects RX yX_performTurn yX_performTurn, Cond.selects RX yX_performTransfer yX_performTransfer, Cond.selects RX yX_moveTwoWords yX_moveTwoWords, Cond.selects RX yX_load yX_load, Cond.selects RX yX_store yX_store, Cond.selects RX yX_moveOne yX_moveOne, Cond.selects RX yX_change yX_change]
def wL_69 : List Cond := [Cond.selects RM yM_setStatus yM_setStatus, Cond.selects RM yM_goes yM_goes, Cond.selects RM yM_load yM_load, Cond.selects RM yM_store yM_store, Cond.selects RM yM_get yM_get, Cond.selects RM yM_give yM_give, Cond.selects RM yM_seen yM_seen, Cond.selects RM yM_status yM_status]
def wL_70 : List Cond := [Cond.selects RM yM_table yM_table, Cond.selects RM yM_oneStep yM_oneStep, Cond.selects RM yM_trap yM_trap, Cond.selects RM yM_trouble yM_trouble, Cond.selects RM yM_isKnown yM_isKnown, Cond.selects RM yM_troubleOf yM_troubleOf, Cond.selects RM yM_holds yM_holds, Cond.selects RM yM_fails yM_fails]
def wL_71 : List Cond := [Cond.selects RM yM_act yM_act, Cond.selects RM yM_simple yM_simple, Cond.selects RM yM_memory yM_memory, Cond.selects RM yM_shift yM_shift, Cond.selects RM yM_work yM_work, Cond.selects RM yM_flags yM_flags, Cond.selects RM yM_controls yM_controls, Cond.selects RM yM_go yM_go]
def wFX : List Cond := u_ws RX TX 12
def wFM : List Cond := u_ws RM TM 29
def wAll : List Cond := ((((((wL_0 ++ wL_1) ++ (wL_2 ++ wL_3)) ++ ((wL_4 ++ wL_5) ++ (wL_6 ++ (wL_7 ++ wL_8)))) ++ (((wL_9 ++ wL_10) ++ (wL_11 ++ wL_12)) ++ ((wL_13 ++ wL_14) ++ (wL_15 ++ (wL_16 ++ wL_17))))) ++ ((((wL_18 ++ wL_19) ++ (wL_20 ++ wL_21)) ++ ((wL_22 ++ wL_23) ++ (wL_24 ++ (wL_25 ++ wL_26)))) ++ (((wL_27 ++ wL_28) ++ (wL_29 ++ (wL_30 ++ wL_31))) ++ ((wL_32 ++ wL_33) ++ (wL_34 ++ (wL_35 ++ wL_36)))))) ++ (((((wL_37 ++ wL_38) ++ (wL_39 ++ wL_40)) ++ ((wL_41 ++ wL_42) ++ (wL_43 ++ (wL_44 ++ wL_45)))) ++ (((wL_46 ++ wL_47) ++ (wL_48 ++ wL_49)) ++ ((wL_50 ++ wL_51) ++ (wL_52 ++ (wL_53 ++ wL_54))))) ++ ((((wL_55 ++ wL_56) ++ (wL_57 ++ wL_58)) ++ ((wL_59 ++ wL_60) ++ (wL_61 ++ (wL_62 ++ wL_63)))) ++ (((wL_64 ++ wL_65) ++ (wL_66 ++ (wL_67 ++ wL_68))) ++ ((wL_69 ++ wL_70) ++ (wL_71 ++ (wFX ++ wFM)))))))
theorem good_wL_0 : wL_0.all goodWord = true := by decide +kernel
theorem good_wL_1 : wL_1.all goodWord = true := by decide +kernel
theorem good_wL_2 : wL_2.all goodWord = true := by decide +kernel
theorem good_wL_3 : wL_3.all goodWord = true := by decide +kernel
theorem good_wL_4 : wL_4.all goodWord = true := by decide +kernel
theorem good_wL_5 : wL_5.all goodWord = true := by decide +kernel
theorem good_wL_6 : wL_6.all goodWord = true := by decide +kernel
theorem good_wL_7 : wL_7.all goodWord = true := by decide +kernel
theorem good_wL_8 : wL_8.all goodWord = true := by decide +kernel
theorem good_wL_9 : wL_9.all goodWord = true := by decide +kernel
theorem good_wL_10 : wL_10.all goodWord = true := by decide +kernel
theorem good_wL_11 : wL_11.all goodWord = true := by decide +kernel
theorem good_wL_12 : wL_12.all goodWord = true := by decide +kernel
theorem good_wL_13 : wL_13.all goodWord = true := by decide +kernel
theorem good_wL_14 : wL_14.all goodWord = true := by decide +kernel
theorem good_wL_15 : wL_15.all goodWord = true := by decide +kernel
theorem good_wL_16 : wL_16.all goodWord = true := by decide +kernel
theorem good_wL_17 : wL_17.all goodWord = true := by decide +kernel
theorem good_wL_18 : wL_18.all goodWord = true := by decide +kernel
theorem good_wL_19 : wL_19.all goodWord = true := by decide +kernel
theorem good_wL_20 : wL_20.all goodWord = true := by decide +kernel
theorem good_wL_21 : wL_21.all goodWord = true := by decide +kernel
theorem good_wL_22 : wL_22.all goodWord = true := by decide +kernel
theorem good_wL_23 : wL_23.all goodWord = true := by decide +kernel
theorem good_wL_24 : wL_24.all goodWord = true := by decide +kernel
theorem good_wL_25 : wL_25.all goodWord = true := by decide +kernel
theorem good_wL_26 : wL_26.all goodWord = true := by decide +kernel
theorem good_wL_27 : wL_27.all goodWord = true := by decide +kernel
theorem good_wL_28 : wL_28.all goodWord = true := by decide +kernel
theorem good_wL_29 : wL_29.all goodWord = true := by decide +kernel
theorem good_wL_30 : wL_30.all goodWord = true := by decide +kernel
theorem good_wL_31 : wL_31.all goodWord = true := by decide +kernel
theorem good_wL_32 : wL_32.all goodWord = true := by decide +kernel
theorem good_wL_33 : wL_33.all goodWord = true := by decide +kernel
theorem good_wL_34 : wL_34.all goodWord = true := by decide +kernel
theorem good_wL_35 : wL_35.all goodWord = true := by decide +kernel
theorem good_wL_36 : wL_36.all goodWord = true := by decide +kernel
theorem good_wL_37 : wL_37.all goodWord = true := by decide +kernel
theorem good_wL_38 : wL_38.all goodWord = true := by decide +kernel
theorem good_wL_39 : wL_39.all goodWord = true := by decide +kernel
theorem good_wL_40 : wL_40.all goodWord = true := by decide +kernel
theorem good_wL_41 : wL_41.all goodWord = true := by decide +kernel
theorem good_wL_42 : wL_42.all goodWord = true := by decide +kernel
theorem good_wL_43 : wL_43.all goodWord = true := by decide +kernel
theorem good_wL_44 : wL_44.all goodWord = true := by decide +kernel
theorem good_wL_45 : wL_45.all goodWord = true := by decide +kernel
theorem good_wL_46 : wL_46.all goodWord = true := by decide +kernel
theorem good_wL_47 : wL_47.all goodWord = true := by decide +kernel
theorem good_wL_48 : wL_48.all goodWord = true := by decide +kernel
theorem good_wL_49 : wL_49.all goodWord = true := by decide +kernel
theorem good_wL_50 : wL_50.all goodWord = true := by decide +kernel
theorem good_wL_51 : wL_51.all goodWord = true := by decide +kernel
theorem good_wL_52 : wL_52.all goodWord = true := by decide +kernel
theorem good_wL_53 : wL_53.all goodWord = true := by decide +kernel
theorem good_wL_54 : wL_54.all goodWord = true := by decide +kernel
theorem good_wL_55 : wL_55.all goodWord = true := by decide +kernel
theorem good_wL_56 : wL_56.all goodWord = true := by decide +kernel
theorem good_wL_57 : wL_57.all goodWord = true := by decide +kernel
theorem good_wL_58 : wL_58.all goodWord = true := by decide +kernel
theorem good_wL_59 : wL_59.all goodWord = true := by decide +kernel
theorem good_wL_60 : wL_60.all goodWord = true := by decide +kernel
theorem good_wL_61 : wL_61.all goodWord = true := by decide +kernel
theorem good_wL_62 : wL_62.all goodWord = true := by decide +kernel
theorem good_wL_63 : wL_63.all goodWord = true := by decide +kernel
theorem good_wL_64 : wL_64.all goodWord = true := by decide +kernel
theorem good_wL_65 : wL_65.all goodWord = true := by decide +kernel
theorem good_wL_66 : wL_66.all goodWord = true := by decide +kernel
theorem good_wL_67 : wL_67.all goodWord = true := by decide +kernel
theorem good_wL_68 : wL_68.all goodWord = true := by decide +kernel
theorem good_wL_69 : wL_69.all goodWord = true := by decide +kernel
theorem good_wL_70 : wL_70.all goodWord = true := by decide +kernel
theorem good_wL_71 : wL_71.all goodWord = true := by decide +kernel
theorem good_wFX : wFX.all goodWord = true := by decide +kernel
theorem good_wFM : wFM.all goodWord = true := by decide +kernel
theorem all_app {α : Type} {f : α → Bool} {a b : List α} (ha : a.all f = true) (hb : b.all f = true) : (a ++ b).all f = true := by rw [List.all_append, ha, hb]; rfl
theorem wAll_good : wAll.all goodWord = true := (all_app (all_app (all_app (all_app (all_app (all_app good_wL_0 good_wL_1) (all_app good_wL_2 good_wL_3)) (all_app (all_app good_wL_4 good_wL_5) (all_app good_wL_6 (all_app good_wL_7 good_wL_8)))) (all_app (all_app (all_app good_wL_9 good_wL_10) (all_app good_wL_11 good_wL_12)) (all_app (all_app good_wL_13 good_wL_14) (all_app good_wL_15 (all_app good_wL_16 good_wL_17))))) (all_app (all_app (all_app (all_app good_wL_18 good_wL_19) (all_app good_wL_20 good_wL_21)) (all_app (all_app good_wL_22 good_wL_23) (all_app good_wL_24 (all_app good_wL_25 good_wL_26)))) (all_app (all_app (all_app good_wL_27 good_wL_28) (all_app good_wL_29 (all_app good_wL_30 good_wL_31))) (all_app (all_app good_wL_32 good_wL_33) (all_app good_wL_34 (all_app good_wL_35 good_wL_36)))))) (all_app (all_app (all_app (all_app (all_app good_wL_37 good_wL_38) (all_app good_wL_39 good_wL_40)) (all_app (all_app good_wL_41 good_wL_42) (all_app good_wL_43 (all_app good_wL_44 good_wL_45)))) (all_app (all_app (all_app good_wL_46 good_wL_47) (all_app good_wL_48 good_wL_49)) (all_app (all_app good_wL_50 good_wL_51) (all_app good_wL_52 (all_app good_wL_53 good_wL_54))))) (all_app (all_app (all_app (all_app good_wL_55 good_wL_56) (all_app good_wL_57 good_wL_58)) (all_app (all_app good_wL_59 good_wL_60) (all_app good_wL_61 (all_app good_wL_62 good_wL_63)))) (all_app (all_app (all_app good_wL_64 good_wL_65) (all_app good_wL_66 (all_app good_wL_67 good_wL_68))) (all_app (all_app good_wL_69 good_wL_70) (all_app good_wL_71 (all_app good_wFX good_wFM)))))))
theorem wX_in : ∀ w ∈ u_ws RX TX 12, w ∈ wAll := fun w h => List.mem_append_right _ (List.mem_append_right _ (List.mem_append_right _ (List.mem_append_right _ (List.mem_append_right _ (List.mem_append_right _ (List.mem_append_left _ (h)))))))
theorem wM_in : ∀ w ∈ u_ws RM TM 29, w ∈ wAll := fun w h => List.mem_append_right _ (List.mem_append_right _ (List.mem_append_right _ (List.mem_append_right _ (List.mem_append_right _ (List.mem_append_right _ (List.mem_append_right _ (h)))))))
