def TX0 : u_T := fun k => match k with
  | 0 => ("LongMachine$Crossing", "vector", "I", false)
  | 1 => ("LongMachine$Crossing", "a", "J", false)
  | 2 => ("LongMachine$Crossing", "b", "J", false)
  | 3 => ("LongMachine$Crossing", "c", "J", false)
  | _ => ("LongMachine$Crossing", "pc", "J", false)
def tyX0 : Nat → FieldType := fun k => match k with
  | 0 => .int
  | 1 => .long
  | 2 => .long
  | 3 => .long
  | _ => .long
theorem nmX0 : ∀ a, a < 5 → ∀ b, b < 5 → a ≠ b → (TX0 a).2.1 ≠ (TX0 b).2.1 := by decide +kernel
theorem tyX0_ok : ∀ k, k < 5 → parseFieldDescriptor (TX0 k).2.2.1 = some (tyX0 k) := by decide +kernel
def TX1 : u_T := fun k => match k with
  | 0 => ("LongMachine$Interrupts", "levels", "[I", true)
  | 1 => ("LongMachine$Interrupts", "numbers", "[I", true)
  | _ => ("LongMachine$Interrupts", "count", "I", false)
def tyX1 : Nat → FieldType := fun k => match k with
  | 0 => .array .int
  | 1 => .array .int
  | _ => .int
theorem nmX1 : ∀ a, a < 3 → ∀ b, b < 3 → a ≠ b → (TX1 a).2.1 ≠ (TX1 b).2.1 := by decide +kernel
theorem tyX1_ok : ∀ k, k < 3 → parseFieldDescriptor (TX1 k).2.2.1 = some (tyX1 k) := by decide +kernel
def TX2 : u_T := fun k => match k with
  | 0 => ("LongMachine$Memory", "words", "[J", true)
  | 1 => ("LongMachine$Memory", "pages", "[I", true)
  | 2 => ("LongMachine$Memory", "spaces", "[I", true)
  | 3 => ("LongMachine$Memory", "descriptors", "[J", true)
  | 4 => ("LongMachine$Memory", "oldest", "I", false)
  | 5 => ("LongMachine$Memory", "count", "I", false)
  | 6 => ("LongMachine$Memory", "table", "I", false)
  | _ => ("LongMachine$Memory", "space", "I", false)
def tyX2 : Nat → FieldType := fun k => match k with
  | 0 => .array .long
  | 1 => .array .int
  | 2 => .array .int
  | 3 => .array .long
  | 4 => .int
  | 5 => .int
  | 6 => .int
  | _ => .int
theorem nmX2 : ∀ a, a < 8 → ∀ b, b < 8 → a ≠ b → (TX2 a).2.1 ≠ (TX2 b).2.1 := by decide +kernel
theorem tyX2_ok : ∀ k, k < 8 → parseFieldDescriptor (TX2 k).2.2.1 = some (tyX2 k) := by decide +kernel
def TX3 : u_T := fun k => match k with
  | 0 => ("LongMachine$Operation", "result", "J", false)
  | 1 => ("LongMachine$Operation", "known", "Z", false)
  | 2 => ("LongMachine$Operation", "given", "Z", false)
  | _ => ("LongMachine$Operation", "trap", "Z", false)
def tyX3 : Nat → FieldType := fun k => match k with
  | 0 => .long
  | 1 => .boolean
  | 2 => .boolean
  | _ => .boolean
theorem nmX3 : ∀ a, a < 4 → ∀ b, b < 4 → a ≠ b → (TX3 a).2.1 ≠ (TX3 b).2.1 := by decide +kernel
theorem tyX3_ok : ∀ k, k < 4 → parseFieldDescriptor (TX3 k).2.2.1 = some (tyX3 k) := by decide +kernel
def TX4 : u_T := fun k => match k with
  | 0 => ("LongMachine", "memory", "LLongMachine$Memory;", true)
  | 1 => ("LongMachine", "registers", "[J", true)
  | 2 => ("LongMachine", "vectors", "[J", true)
  | 3 => ("LongMachine", "frame", "[J", true)
  | 4 => ("LongMachine", "interrupts", "LLongMachine$Interrupts;", true)
  | 5 => ("LongMachine", "operation", "LLongMachine$Operation;", true)
  | 6 => ("LongMachine", "asked", "LLongMachine$Crossing;", true)
  | 7 => ("LongMachine", "pc", "J", false)
  | 8 => ("LongMachine", "ksp", "J", false)
  | 9 => ("LongMachine", "usp", "J", false)
  | 10 => ("LongMachine", "kgp", "J", false)
  | 11 => ("LongMachine", "value", "J", false)
  | 12 => ("LongMachine", "mode", "I", false)
  | 13 => ("LongMachine", "level", "I", false)
  | 14 => ("LongMachine", "halted", "I", false)
  | 15 => ("LongMachine", "entries", "I", false)
  | _ => ("LongMachine", "locked", "Z", false)
def tyX4 : Nat → FieldType := fun k => match k with
  | 0 => .object "LongMachine$Memory"
  | 1 => .array .long
  | 2 => .array .long
  | 3 => .array .long
  | 4 => .object "LongMachine$Interrupts"
  | 5 => .object "LongMachine$Operation"
  | 6 => .object "LongMachine$Crossing"
  | 7 => .long
  | 8 => .long
  | 9 => .long
  | 10 => .long
  | 11 => .long
  | 12 => .int
  | 13 => .int
  | 14 => .int
  | 15 => .int
  | _ => .boolean
theorem nmX4 : ∀ a, a < 17 → ∀ b, b < 17 → a ≠ b → (TX4 a).2.1 ≠ (TX4 b).2.1 := by decide +kernel
theorem tyX4_ok : ∀ k, k < 17 → parseFieldDescriptor (TX4 k).2.2.1 = some (tyX4 k) := by decide +kernel
def TY : u_T := fun k => match k with
  | 0 => ("LongMachineModel", "memory", "[I", true)
  | 1 => ("LongMachineModel", "\x72", "[J", true)
  | 2 => ("LongMachineModel", "pc", "J", false)
  | 3 => ("LongMachineModel", "mode", "I", false)
  | 4 => ("LongMachineModel", "level", "I", false)
  | 5 => ("LongMachineModel", "lock", "Z", false)
  | 6 => ("LongMachineModel", "ksp", "J", false)
  | 7 => ("LongMachineModel", "usp", "J", false)
  | 8 => ("LongMachineModel", "kgp", "J", false)
  | 9 => ("LongMachineModel", "value", "J", false)
  | 10 => ("LongMachineModel", "table", "I", false)
  | 11 => ("LongMachineModel", "space", "I", false)
  | 12 => ("LongMachineModel", "vector", "[J", true)
  | 13 => ("LongMachineModel", "halted", "I", false)
  | 14 => ("LongMachineModel", "entries", "I", false)
  | 15 => ("LongMachineModel", "pending", "I", false)
  | 16 => ("LongMachineModel", "pendingLevel", "[I", true)
  | 17 => ("LongMachineModel", "pendingNumber", "[I", true)
  | 18 => ("LongMachineModel", "buffered", "I", false)
  | 19 => ("LongMachineModel", "bufferPage", "[I", true)
  | 20 => ("LongMachineModel", "bufferSpace", "[I", true)
  | 21 => ("LongMachineModel", "bufferWord", "[J", true)
  | 22 => ("LongMachineModel", "here", "J", false)
  | 23 => ("LongMachineModel", "word", "I", false)
  | 24 => ("LongMachineModel", "has", "Z", false)
  | 25 => ("LongMachineModel", "trap", "Z", false)
  | 26 => ("LongMachineModel", "none", "Z", false)
  | _ => ("LongMachineModel", "six", "[J", true)
def tyY : Nat → FieldType := fun k => match k with
  | 0 => .array .int
  | 1 => .array .long
  | 2 => .long
  | 3 => .int
  | 4 => .int
  | 5 => .boolean
  | 6 => .long
  | 7 => .long
  | 8 => .long
  | 9 => .long
  | 10 => .int
  | 11 => .int
  | 12 => .array .long
  | 13 => .int
  | 14 => .int
  | 15 => .int
  | 16 => .array .int
  | 17 => .array .int
  | 18 => .int
  | 19 => .array .int
  | 20 => .array .int
  | 21 => .array .long
  | 22 => .long
  | 23 => .int
  | 24 => .boolean
  | 25 => .boolean
  | 26 => .boolean
  | _ => .array .long
theorem nmY : ∀ a, a < 28 → ∀ b, b < 28 → a ≠ b → (TY a).2.1 ≠ (TY b).2.1 := by decide +kernel
theorem tyY_ok : ∀ k, k < 28 → parseFieldDescriptor (TY k).2.2.1 = some (tyY k) := by decide +kernel
abbrev cX4_init : ByteArray := prog_1_method_1_code
def yX4_init : MethodName := ⟨"LongMachine", "<init>", "()V"⟩
abbrev cX2_init : ByteArray := prog_4_method_1_code
def yX2_init : MethodName := ⟨"LongMachine$Memory", "<init>", "()V"⟩
abbrev cX1_init : ByteArray := prog_3_method_1_code
def yX1_init : MethodName := ⟨"LongMachine$Interrupts", "<init>", "()V"⟩
abbrev cX3_init : ByteArray := prog_5_method_1_code
def yX3_init : MethodName := ⟨"LongMachine$Operation", "<init>", "()V"⟩
abbrev cX0_init : ByteArray := prog_2_method_1_code
def yX0_init : MethodName := ⟨"LongMachine$Crossing", "<init>", "()V"⟩
abbrev cX4_set : ByteArray := prog_1_method_2_code
def yX4_set : MethodName := ⟨"LongMachine", "set", "(IJ)Z"⟩
abbrev cX4_isWordAddress : ByteArray := prog_1_method_9_code
def yX4_isWordAddress : MethodName := ⟨"LongMachine", "isWordAddress", "(I)Z"⟩
abbrev cX4_put : ByteArray := prog_1_method_3_code
def yX4_put : MethodName := ⟨"LongMachine", "put", "(IJ)Z"⟩
abbrev cX4_write : ByteArray := prog_1_method_11_code
def yX4_write : MethodName := ⟨"LongMachine", "write", "(IJ)V"⟩
abbrev cX4_interrupt : ByteArray := prog_1_method_4_code
def yX4_interrupt : MethodName := ⟨"LongMachine", "interrupt", "(II)Z"⟩
abbrev cX1_add : ByteArray := prog_3_method_2_code
def yX1_add : MethodName := ⟨"LongMachine$Interrupts", "add", "(II)Z"⟩
abbrev cX4_run : ByteArray := prog_1_method_5_code
def yX4_run : MethodName := ⟨"LongMachine", "run", "(I)I"⟩
abbrev cX4_step : ByteArray := prog_1_method_12_code
def yX4_step : MethodName := ⟨"LongMachine", "step", "()V"⟩
abbrev cX0_clear : ByteArray := prog_2_method_2_code
def yX0_clear : MethodName := ⟨"LongMachine$Crossing", "clear", "()V"⟩
abbrev cX1_takeAbove : ByteArray := prog_3_method_3_code
def yX1_takeAbove : MethodName := ⟨"LongMachine$Interrupts", "takeAbove", "(I)I"⟩
abbrev cX1_remove : ByteArray := prog_3_method_4_code
def yX1_remove : MethodName := ⟨"LongMachine$Interrupts", "remove", "(I)V"⟩
abbrev cX2_place : ByteArray := prog_4_method_7_code
def yX2_place : MethodName := ⟨"LongMachine$Memory", "place", "(JII)I"⟩
abbrev cX2_directPlace : ByteArray := prog_4_method_8_code
def yX2_directPlace : MethodName := ⟨"LongMachine$Memory", "directPlace", "(JI)I"⟩
abbrev cX2_faulted : ByteArray := prog_4_method_5_code
def yX2_faulted : MethodName := ⟨"LongMachine$Memory", "faulted", "(I)I"⟩
abbrev cX2_find : ByteArray := prog_4_method_9_code
def yX2_find : MethodName := ⟨"LongMachine$Memory", "find", "(I)I"⟩
abbrev cX2_walk : ByteArray := prog_4_method_10_code
def yX2_walk : MethodName := ⟨"LongMachine$Memory", "walk", "(I)J"⟩
abbrev cX2_numberOf : ByteArray := prog_4_method_12_code
def yX2_numberOf : MethodName := ⟨"LongMachine$Memory", "numberOf", "(J)I"⟩
abbrev cX2_keep : ByteArray := prog_4_method_11_code
def yX2_keep : MethodName := ⟨"LongMachine$Memory", "keep", "(IJ)V"⟩
abbrev cX2_faultIn : ByteArray := prog_4_method_13_code
def yX2_faultIn : MethodName := ⟨"LongMachine$Memory", "faultIn", "(JII)I"⟩
abbrev cX0_enter : ByteArray := prog_2_method_4_code
def yX0_enter : MethodName := ⟨"LongMachine$Crossing", "enter", "(IJJJJ)V"⟩
abbrev cX2_faultOf : ByteArray := prog_4_method_6_code
def yX2_faultOf : MethodName := ⟨"LongMachine$Memory", "faultOf", "(I)I"⟩
abbrev cX2_load : ByteArray := prog_4_method_2_code
def yX2_load : MethodName := ⟨"LongMachine$Memory", "load", "(IZ)J"⟩
abbrev cX4_execute : ByteArray := prog_1_method_13_code
def yX4_execute : MethodName := ⟨"LongMachine", "execute", "(I)V"⟩
abbrev cX4_call : ByteArray := prog_1_method_23_code
def yX4_call : MethodName := ⟨"LongMachine", "call", "(I)V"⟩
abbrev cX4_refuse : ByteArray := prog_1_method_14_code
def yX4_refuse : MethodName := ⟨"LongMachine", "refuse", "(I)V"⟩
abbrev cX4_kernelCall : ByteArray := prog_1_method_24_code
def yX4_kernelCall : MethodName := ⟨"LongMachine", "kernelCall", "(I)V"⟩
abbrev cX4_changeSpace : ByteArray := prog_1_method_25_code
def yX4_changeSpace : MethodName := ⟨"LongMachine", "changeSpace", "()V"⟩
abbrev cX2_emptyBuffer : ByteArray := prog_4_method_4_code
def yX2_emptyBuffer : MethodName := ⟨"LongMachine$Memory", "emptyBuffer", "()V"⟩
abbrev cX4_changeVector : ByteArray := prog_1_method_26_code
def yX4_changeVector : MethodName := ⟨"LongMachine", "changeVector", "()V"⟩
abbrev cX4_status : ByteArray := prog_1_method_10_code
def yX4_status : MethodName := ⟨"LongMachine", "status", "()I"⟩
abbrev cX0_comeBack : ByteArray := prog_2_method_3_code
def yX0_comeBack : MethodName := ⟨"LongMachine$Crossing", "comeBack", "()V"⟩
abbrev cX4_reach : ByteArray := prog_1_method_18_code
def yX4_reach : MethodName := ⟨"LongMachine", "reach", "(IIJ)V"⟩
abbrev cX2_store : ByteArray := prog_4_method_3_code
def yX2_store : MethodName := ⟨"LongMachine$Memory", "store", "(IZJ)V"⟩
abbrev cX4_operate : ByteArray := prog_1_method_17_code
def yX4_operate : MethodName := ⟨"LongMachine", "operate", "(I)V"⟩
abbrev cX3_compute : ByteArray := prog_5_method_2_code
def yX3_compute : MethodName := ⟨"LongMachine$Operation", "compute", "(IIJJ)V"⟩
abbrev cX3_add : ByteArray := prog_5_method_7_code
def yX3_add : MethodName := ⟨"LongMachine$Operation", "add", "(IJJ)J"⟩
abbrev cX3_sx : ByteArray := prog_5_method_3_code
def yX3_sx : MethodName := ⟨"LongMachine$Operation", "sx", "(J)J"⟩
abbrev cX3_trapIf : ByteArray := prog_5_method_4_code
def yX3_trapIf : MethodName := ⟨"LongMachine$Operation", "trapIf", "(ZJ)J"⟩
abbrev cX3_truth : ByteArray := prog_5_method_5_code
def yX3_truth : MethodName := ⟨"LongMachine$Operation", "truth", "(Z)J"⟩
abbrev cX3_isBelow : ByteArray := prog_5_method_6_code
def yX3_isBelow : MethodName := ⟨"LongMachine$Operation", "isBelow", "(JJ)Z"⟩
abbrev cX3_bytesNotLess : ByteArray := prog_5_method_8_code
def yX3_bytesNotLess : MethodName := ⟨"LongMachine$Operation", "bytesNotLess", "(JJ)J"⟩
abbrev cX3_combine : ByteArray := prog_5_method_9_code
def yX3_combine : MethodName := ⟨"LongMachine$Operation", "combine", "(IJJ)J"⟩
abbrev cX3_onlyIf : ByteArray := prog_5_method_10_code
def yX3_onlyIf : MethodName := ⟨"LongMachine$Operation", "onlyIf", "(ZJ)J"⟩
abbrev cX3_shift : ByteArray := prog_5_method_11_code
def yX3_shift : MethodName := ⟨"LongMachine$Operation", "shift", "(IJJ)J"⟩
abbrev cX3_bytesOf : ByteArray := prog_5_method_12_code
def yX3_bytesOf : MethodName := ⟨"LongMachine$Operation", "bytesOf", "(J)J"⟩
abbrev cX3_lowPart : ByteArray := prog_5_method_13_code
def yX3_lowPart : MethodName := ⟨"LongMachine$Operation", "lowPart", "(IJIJ)J"⟩
abbrev cX3_highPart : ByteArray := prog_5_method_14_code
def yX3_highPart : MethodName := ⟨"LongMachine$Operation", "highPart", "(IJIJ)J"⟩
abbrev cX3_multiply : ByteArray := prog_5_method_15_code
def yX3_multiply : MethodName := ⟨"LongMachine$Operation", "multiply", "(IJJ)J"⟩
abbrev cX3_upper : ByteArray := prog_5_method_16_code
def yX3_upper : MethodName := ⟨"LongMachine$Operation", "upper", "(JJ)J"⟩
abbrev cX3_signedUpper : ByteArray := prog_5_method_17_code
def yX3_signedUpper : MethodName := ⟨"LongMachine$Operation", "signedUpper", "(JJJ)J"⟩
abbrev cX4_branch : ByteArray := prog_1_method_15_code
def yX4_branch : MethodName := ⟨"LongMachine", "branch", "(I)V"⟩
abbrev cX4_isTaken : ByteArray := prog_1_method_16_code
def yX4_isTaken : MethodName := ⟨"LongMachine", "isTaken", "(IJ)Z"⟩
abbrev cX4_enter : ByteArray := prog_1_method_19_code
def yX4_enter : MethodName := ⟨"LongMachine", "enter", "()V"⟩
abbrev cX4_fillFrame : ByteArray := prog_1_method_20_code
def yX4_fillFrame : MethodName := ⟨"LongMachine", "fillFrame", "()V"⟩
abbrev cX4_moveFrame : ByteArray := prog_1_method_21_code
def yX4_moveFrame : MethodName := ⟨"LongMachine", "moveFrame", "(JI)Z"⟩
abbrev cX4_comeBack : ByteArray := prog_1_method_22_code
def yX4_comeBack : MethodName := ⟨"LongMachine", "comeBack", "()V"⟩
abbrev cX4_register : ByteArray := prog_1_method_6_code
def yX4_register : MethodName := ⟨"LongMachine", "register", "(I)J"⟩
abbrev cX4_word : ByteArray := prog_1_method_7_code
def yX4_word : MethodName := ⟨"LongMachine", "word", "(I)J"⟩
abbrev cX4_state : ByteArray := prog_1_method_8_code
def yX4_state : MethodName := ⟨"LongMachine", "state", "(I)I"⟩
abbrev cY_init : ByteArray := prog_7_method_1_code
def yY_init : MethodName := ⟨"LongMachineModel", "<init>", "()V"⟩
abbrev cY_run : ByteArray := prog_7_method_33_code
def yY_run : MethodName := ⟨"LongMachineModel", "run", "(I)I"⟩
abbrev cY_step : ByteArray := prog_7_method_32_code
def yY_step : MethodName := ⟨"LongMachineModel", "step", "()V"⟩
abbrev cY_due : ByteArray := prog_7_method_30_code
def yY_due : MethodName := ⟨"LongMachineModel", "due", "()I"⟩
abbrev cY_interrupted : ByteArray := prog_7_method_31_code
def yY_interrupted : MethodName := ⟨"LongMachineModel", "interrupted", "(I)V"⟩
abbrev cY_entry : ByteArray := prog_7_method_11_code
def yY_entry : MethodName := ⟨"LongMachineModel", "entry", "(IJJJJ)V"⟩
abbrev cY_translate : ByteArray := prog_7_method_10_code
def yY_translate : MethodName := ⟨"LongMachineModel", "translate", "(JI)I"⟩
abbrev cY_buffered : ByteArray := prog_7_method_6_code
def yY_buffered : MethodName := ⟨"LongMachineModel", "buffered", "(I)I"⟩
abbrev cY_walk : ByteArray := prog_7_method_9_code
def yY_walk : MethodName := ⟨"LongMachineModel", "walk", "(I)J"⟩
abbrev cY_bytes : ByteArray := prog_7_method_4_code
def yY_bytes : MethodName := ⟨"LongMachineModel", "bytes", "(II)J"⟩
abbrev cY_number : ByteArray := prog_7_method_8_code
def yY_number : MethodName := ⟨"LongMachineModel", "number", "(J)I"⟩
abbrev cY_keep : ByteArray := prog_7_method_7_code
def yY_keep : MethodName := ⟨"LongMachineModel", "keep", "(IJ)V"⟩
abbrev cY_store : ByteArray := prog_7_method_5_code
def yY_store : MethodName := ⟨"LongMachineModel", "store", "(IIJ)V"⟩
abbrev cY_fault : ByteArray := prog_7_method_13_code
def yY_fault : MethodName := ⟨"LongMachineModel", "fault", "(JII)V"⟩
abbrev cY_call : ByteArray := prog_7_method_27_code
def yY_call : MethodName := ⟨"LongMachineModel", "call", "(I)V"⟩
abbrev cY_wrong : ByteArray := prog_7_method_12_code
def yY_wrong : MethodName := ⟨"LongMachineModel", "wrong", "(I)V"⟩
abbrev cY_own : ByteArray := prog_7_method_28_code
def yY_own : MethodName := ⟨"LongMachineModel", "own", "(I)V"⟩
abbrev cY_back : ByteArray := prog_7_method_29_code
def yY_back : MethodName := ⟨"LongMachineModel", "back", "()V"⟩
abbrev cY_operate : ByteArray := prog_7_method_23_code
def yY_operate : MethodName := ⟨"LongMachineModel", "operate", "(I)V"⟩
abbrev cY_sums : ByteArray := prog_7_method_16_code
def yY_sums : MethodName := ⟨"LongMachineModel", "sums", "(IJJ)J"⟩
abbrev cY_sx : ByteArray := prog_7_method_2_code
def yY_sx : MethodName := ⟨"LongMachineModel", "sx", "(J)J"⟩
abbrev cY_is : ByteArray := prog_7_method_15_code
def yY_is : MethodName := ⟨"LongMachineModel", "is", "(Z)J"⟩
abbrev cY_less : ByteArray := prog_7_method_14_code
def yY_less : MethodName := ⟨"LongMachineModel", "less", "(JJ)Z"⟩
abbrev cY_bits : ByteArray := prog_7_method_17_code
def yY_bits : MethodName := ⟨"LongMachineModel", "bits", "(IJJ)J"⟩
abbrev cY_parts : ByteArray := prog_7_method_19_code
def yY_parts : MethodName := ⟨"LongMachineModel", "parts", "(IJJ)J"⟩
abbrev cY_lowest : ByteArray := prog_7_method_18_code
def yY_lowest : MethodName := ⟨"LongMachineModel", "lowest", "(I)J"⟩
abbrev cY_zapped : ByteArray := prog_7_method_20_code
def yY_zapped : MethodName := ⟨"LongMachineModel", "zapped", "(JJZ)J"⟩
abbrev cY_products : ByteArray := prog_7_method_22_code
def yY_products : MethodName := ⟨"LongMachineModel", "products", "(IJJ)J"⟩
abbrev cY_upper : ByteArray := prog_7_method_21_code
def yY_upper : MethodName := ⟨"LongMachineModel", "upper", "(JJ)J"⟩
abbrev cY_give : ByteArray := prog_7_method_3_code
def yY_give : MethodName := ⟨"LongMachineModel", "give", "(IJ)V"⟩
abbrev cY_move : ByteArray := prog_7_method_24_code
def yY_move : MethodName := ⟨"LongMachineModel", "move", "(I)V"⟩
abbrev cY_branch : ByteArray := prog_7_method_26_code
def yY_branch : MethodName := ⟨"LongMachineModel", "branch", "(I)V"⟩
abbrev cY_meets : ByteArray := prog_7_method_25_code
def yY_meets : MethodName := ⟨"LongMachineModel", "meets", "(IJ)Z"⟩
abbrev cY_set : ByteArray := prog_7_method_35_code
def yY_set : MethodName := ⟨"LongMachineModel", "set", "(IJ)Z"⟩
abbrev cY_isPlace : ByteArray := prog_7_method_34_code
def yY_isPlace : MethodName := ⟨"LongMachineModel", "isPlace", "(I)Z"⟩
abbrev cY_put : ByteArray := prog_7_method_36_code
def yY_put : MethodName := ⟨"LongMachineModel", "put", "(IJ)Z"⟩
abbrev cY_interrupt : ByteArray := prog_7_method_37_code
def yY_interrupt : MethodName := ⟨"LongMachineModel", "interrupt", "(II)Z"⟩
abbrev cY_register : ByteArray := prog_7_method_38_code
def yY_register : MethodName := ⟨"LongMachineModel", "register", "(I)J"⟩
abbrev cY_word : ByteArray := prog_7_method_39_code
def yY_word : MethodName := ⟨"LongMachineModel", "word", "(I)J"⟩
abbrev cY_state : ByteArray := prog_7_method_40_code
def yY_state : MethodName := ⟨"LongMachineModel", "state", "(I)I"⟩
abbrev vwCl : List vw_C := [("LongMachine$Crossing", TX0, 5), ("LongMachine$Interrupts", TX1, 3), ("LongMachine$Memory", TX2, 8), ("LongMachine$Operation", TX3, 4), ("LongMachine", TX4, 17), ("LongMachineModel", TY, 28)]
def vG0 : List Cond := [.initialized "LongMachineLaw", .initialized "LongMachine", .initialized "LongMachine$Memory", .initialized "LongMachine$Interrupts", .initialized "LongMachine$Operation", .initialized "LongMachine$Crossing", .initialized "LongMachineModel", .classLink "LongMachineLaw" 7 "LongMachine", .instantiable "LongMachine" 17, .methodLink "LongMachineLaw" 9 yX4_init, .instanceMethod yX4_init, .code yX4_init cX4_init 1 none, .methodLink "LongMachine" 1 objectInit, .instanceMethod objectInit, .code objectInit ⟨#[0xb1]⟩ 1 none, .classLink "LongMachine" 7 "LongMachine$Memory", .instantiable "LongMachine$Memory" 8, .instanceMethod yX2_init, .code yX2_init cX2_init 1 none, .methodLink "LongMachine$Memory" 3 objectInit, .fieldLink "LongMachine$Memory" 9 "LongMachine$Memory" "words" "[J", .fieldLink "LongMachine" 58 "LongMachine$Memory" "words" "[J", .fieldLink "LongMachine$Memory" 15 "LongMachine$Memory" "pages" "[I", .fieldLink "LongMachine$Memory" 19 "LongMachine$Memory" "spaces" "[I", .fieldLink "LongMachine$Memory" 22 "LongMachine$Memory" "descriptors" "[J", .fieldLink "LongMachine$Memory" 33 "LongMachine$Memory" "oldest" "I", .fieldLink "LongMachine$Memory" 29 "LongMachine$Memory" "count" "I", .fieldLink "LongMachine" 109 "LongMachine$Memory" "count" "I", .fieldLink "LongMachine" 93 "LongMachine$Memory" "table" "I", .fieldLink "LongMachine$Memory" 69 "LongMachine$Memory" "table" "I", .fieldLink "LongMachine" 96 "LongMachine$Memory" "space" "I", .fieldLink "LongMachine$Memory" 66 "LongMachine$Memory" "space" "I", .laysFinal "LongMachine$Memory" "LongMachine$Memory" "words" "[J", .laysFinal "LongMachine$Memory" "LongMachine$Memory" "pages" "[I", .laysFinal "LongMachine$Memory" "LongMachine$Memory" "spaces" "[I", .laysFinal "LongMachine$Memory" "LongMachine$Memory" "descriptors" "[J", .lays "LongMachine$Memory" "LongMachine$Memory" "oldest" "I", .lays "LongMachine$Memory" "LongMachine$Memory" "count" "I", .lays "LongMachine$Memory" "LongMachine$Memory" "table" "I", .lays "LongMachine$Memory" "LongMachine$Memory" "space" "I"]
def vG1 : List Cond := [.arrayClass .long, .arrayClass .int, .classLink "LongMachine" 26 "LongMachine$Interrupts", .instantiable "LongMachine$Interrupts" 3, .instanceMethod yX1_init, .code yX1_init cX1_init 1 none, .methodLink "LongMachine$Interrupts" 1 objectInit, .fieldLink "LongMachine$Interrupts" 9 "LongMachine$Interrupts" "levels" "[I", .fieldLink "LongMachine$Interrupts" 13 "LongMachine$Interrupts" "numbers" "[I", .fieldLink "LongMachine$Interrupts" 16 "LongMachine$Interrupts" "count" "I", .fieldLink "LongMachine" 112 "LongMachine$Interrupts" "count" "I", .laysFinal "LongMachine$Interrupts" "LongMachine$Interrupts" "levels" "[I", .laysFinal "LongMachine$Interrupts" "LongMachine$Interrupts" "numbers" "[I", .lays "LongMachine$Interrupts" "LongMachine$Interrupts" "count" "I", .classLink "LongMachine" 33 "LongMachine$Operation", .instantiable "LongMachine$Operation" 4, .instanceMethod yX3_init, .code yX3_init cX3_init 1 none, .methodLink "LongMachine$Operation" 1 objectInit, .fieldLink "LongMachine$Operation" 23 "LongMachine$Operation" "result" "J", .fieldLink "LongMachine" 186 "LongMachine$Operation" "result" "J", .fieldLink "LongMachine$Operation" 7 "LongMachine$Operation" "known" "Z", .fieldLink "LongMachine" 180 "LongMachine$Operation" "known" "Z", .fieldLink "LongMachine$Operation" 13 "LongMachine$Operation" "given" "Z", .fieldLink "LongMachine" 183 "LongMachine$Operation" "given" "Z", .fieldLink "LongMachine$Operation" 16 "LongMachine$Operation" "trap" "Z", .fieldLink "LongMachine" 189 "LongMachine$Operation" "trap" "Z", .lays "LongMachine$Operation" "LongMachine$Operation" "result" "J", .lays "LongMachine$Operation" "LongMachine$Operation" "known" "Z", .lays "LongMachine$Operation" "LongMachine$Operation" "given" "Z", .lays "LongMachine$Operation" "LongMachine$Operation" "trap" "Z", .classLink "LongMachine" 40 "LongMachine$Crossing", .instantiable "LongMachine$Crossing" 5, .instanceMethod yX0_init, .code yX0_init cX0_init 1 none, .methodLink "LongMachine$Crossing" 1 objectInit, .fieldLink "LongMachine$Crossing" 9 "LongMachine$Crossing" "vector" "I", .fieldLink "LongMachine" 144 "LongMachine$Crossing" "vector" "I", .fieldLink "LongMachine$Crossing" 13 "LongMachine$Crossing" "a" "J", .fieldLink "LongMachine" 205 "LongMachine$Crossing" "a" "J"]
def vG2 : List Cond := [.fieldLink "LongMachine$Crossing" 17 "LongMachine$Crossing" "b" "J", .fieldLink "LongMachine" 208 "LongMachine$Crossing" "b" "J", .fieldLink "LongMachine$Crossing" 20 "LongMachine$Crossing" "c" "J", .fieldLink "LongMachine" 211 "LongMachine$Crossing" "c" "J", .fieldLink "LongMachine$Crossing" 23 "LongMachine$Crossing" "pc" "J", .fieldLink "LongMachine" 214 "LongMachine$Crossing" "pc" "J", .lays "LongMachine$Crossing" "LongMachine$Crossing" "vector" "I", .lays "LongMachine$Crossing" "LongMachine$Crossing" "a" "J", .lays "LongMachine$Crossing" "LongMachine$Crossing" "b" "J", .lays "LongMachine$Crossing" "LongMachine$Crossing" "c" "J", .lays "LongMachine$Crossing" "LongMachine$Crossing" "pc" "J", .fieldLink "LongMachine" 10 "LongMachine" "memory" "LLongMachine$Memory;", .fieldLink "LongMachine" 16 "LongMachine" "registers" "[J", .fieldLink "LongMachine" 20 "LongMachine" "vectors" "[J", .fieldLink "LongMachine" 23 "LongMachine" "frame" "[J", .fieldLink "LongMachine" 29 "LongMachine" "interrupts" "LLongMachine$Interrupts;", .fieldLink "LongMachine" 36 "LongMachine" "operation" "LLongMachine$Operation;", .fieldLink "LongMachine" 43 "LongMachine" "asked" "LLongMachine$Crossing;", .fieldLink "LongMachine" 63 "LongMachine" "pc" "J", .fieldLink "LongMachine" 67 "LongMachine" "ksp" "J", .fieldLink "LongMachine" 84 "LongMachine" "usp" "J", .fieldLink "LongMachine" 87 "LongMachine" "kgp" "J", .fieldLink "LongMachine" 90 "LongMachine" "value" "J", .fieldLink "LongMachine" 47 "LongMachine" "mode" "I", .fieldLink "LongMachine" 51 "LongMachine" "level" "I", .fieldLink "LongMachine" 78 "LongMachine" "halted" "I", .fieldLink "LongMachine" 113 "LongMachine" "entries" "I", .fieldLink "LongMachine" 105 "LongMachine" "locked" "Z", .laysFinal "LongMachine" "LongMachine" "memory" "LLongMachine$Memory;", .laysFinal "LongMachine" "LongMachine" "registers" "[J", .laysFinal "LongMachine" "LongMachine" "vectors" "[J", .laysFinal "LongMachine" "LongMachine" "frame" "[J", .laysFinal "LongMachine" "LongMachine" "interrupts" "LLongMachine$Interrupts;", .laysFinal "LongMachine" "LongMachine" "operation" "LLongMachine$Operation;", .laysFinal "LongMachine" "LongMachine" "asked" "LLongMachine$Crossing;", .lays "LongMachine" "LongMachine" "pc" "J", .lays "LongMachine" "LongMachine" "ksp" "J", .lays "LongMachine" "LongMachine" "usp" "J", .lays "LongMachine" "LongMachine" "kgp" "J", .lays "LongMachine" "LongMachine" "value" "J"]
def vG3 : List Cond := [.lays "LongMachine" "LongMachine" "mode" "I", .lays "LongMachine" "LongMachine" "level" "I", .lays "LongMachine" "LongMachine" "halted" "I", .lays "LongMachine" "LongMachine" "entries" "I", .lays "LongMachine" "LongMachine" "locked" "Z", .methodLink "LongMachineLaw" 15 yX4_set, .instanceMethod yX4_set, .selects "LongMachine" yX4_set yX4_set, .code yX4_set cX4_set 4 (some .boolean), .methodLink "LongMachine" 54 yX4_isWordAddress, .static yX4_isWordAddress, .code yX4_isWordAddress cX4_isWordAddress 1 (some .boolean), .methodLink "LongMachineLaw" 20 yX4_put, .instanceMethod yX4_put, .selects "LongMachine" yX4_put yX4_put, .code yX4_put cX4_put 4 (some .boolean), .constantLong "LongMachine" 61 (-4), .methodLink "LongMachine" 70 yX4_write, .instanceMethod yX4_write, .code yX4_write cX4_write 4 none, .methodLink "LongMachineLaw" 24 yX4_interrupt, .instanceMethod yX4_interrupt, .selects "LongMachine" yX4_interrupt yX4_interrupt, .code yX4_interrupt cX4_interrupt 3 (some .boolean), .methodLink "LongMachine" 74 yX1_add, .instanceMethod yX1_add, .selects "LongMachine$Interrupts" yX1_add yX1_add, .code yX1_add cX1_add 3 (some .boolean), .methodLink "LongMachineLaw" 29 yX4_run, .instanceMethod yX4_run, .selects "LongMachine" yX4_run yX4_run, .code yX4_run cX4_run 3 (some .int), .methodLink "LongMachine" 81 yX4_step, .instanceMethod yX4_step, .code yX4_step cX4_step 3 none, .methodLink "LongMachine" 116 yX0_clear, .instanceMethod yX0_clear, .selects "LongMachine$Crossing" yX0_clear yX0_clear, .code yX0_clear cX0_clear 1 none, .methodLink "LongMachine" 119 yX1_takeAbove]
def vG4 : List Cond := [.instanceMethod yX1_takeAbove, .selects "LongMachine$Interrupts" yX1_takeAbove yX1_takeAbove, .code yX1_takeAbove cX1_takeAbove 5 (some .int), .methodLink "LongMachine$Interrupts" 20 yX1_remove, .instanceMethod yX1_remove, .code yX1_remove cX1_remove 3 none, .methodLink "LongMachine" 123 yX2_place, .instanceMethod yX2_place, .selects "LongMachine$Memory" yX2_place yX2_place, .code yX2_place cX2_place 10 (some .int), .constantLong "LongMachine$Memory" 36 16384, .methodLink "LongMachine$Memory" 38 yX2_directPlace, .static yX2_directPlace, .code yX2_directPlace cX2_directPlace 4 (some .int), .constantLong "LongMachine$Memory" 61 32768, .constantLong "LongMachine$Memory" 63 36864, .constant "LongMachine$Memory" 65 32768, .methodLink "LongMachine$Memory" 54 yX2_faulted, .static yX2_faulted, .code yX2_faulted cX2_faulted 1 (some .int), .methodLink "LongMachine$Memory" 42 yX2_find, .instanceMethod yX2_find, .code yX2_find cX2_find 3 (some .int), .methodLink "LongMachine$Memory" 46 yX2_walk, .instanceMethod yX2_walk, .code yX2_walk cX2_walk 8 (some .long), .constantLong "LongMachine$Memory" 72 240, .methodLink "LongMachine$Memory" 57 yX2_numberOf, .static yX2_numberOf, .code yX2_numberOf cX2_numberOf 2 (some .int), .methodLink "LongMachine$Memory" 74 yX2_keep, .instanceMethod yX2_keep, .code yX2_keep cX2_keep 5 none, .methodLink "LongMachine$Memory" 50 yX2_faultIn, .static yX2_faultIn, .code yX2_faultIn cX2_faultIn 6 (some .int), .methodLink "LongMachine" 127 yX0_enter, .instanceMethod yX0_enter, .selects "LongMachine$Crossing" yX0_enter yX0_enter, .code yX0_enter cX0_enter 10 none]
def vG5 : List Cond := [.methodLink "LongMachine" 131 yX2_faultOf, .static yX2_faultOf, .code yX2_faultOf cX2_faultOf 1 (some .int), .constantLong "LongMachine" 99 (-1), .constantLong "LongMachine" 134 4, .methodLink "LongMachine" 136 yX2_load, .instanceMethod yX2_load, .selects "LongMachine$Memory" yX2_load yX2_load, .code yX2_load cX2_load 5 (some .long), .methodLink "LongMachine" 140 yX4_execute, .instanceMethod yX4_execute, .code yX4_execute cX4_execute 8 none, .methodLink "LongMachine" 152 yX4_call, .instanceMethod yX4_call, .code yX4_call cX4_call 2 none, .constantLong "LongMachine" 217 2, .methodLink "LongMachine" 173 yX4_refuse, .instanceMethod yX4_refuse, .code yX4_refuse cX4_refuse 2 none, .methodLink "LongMachine" 219 yX4_kernelCall, .instanceMethod yX4_kernelCall, .code yX4_kernelCall cX4_kernelCall 4 none, .methodLink "LongMachine" 222 yX4_changeSpace, .instanceMethod yX4_changeSpace, .code yX4_changeSpace cX4_changeSpace 1 none, .methodLink "LongMachine" 225 yX2_emptyBuffer, .instanceMethod yX2_emptyBuffer, .selects "LongMachine$Memory" yX2_emptyBuffer yX2_emptyBuffer, .code yX2_emptyBuffer cX2_emptyBuffer 1 none, .methodLink "LongMachine" 228 yX4_changeVector, .instanceMethod yX4_changeVector, .code yX4_changeVector cX4_changeVector 2 none, .methodLink "LongMachine" 101 yX4_status, .instanceMethod yX4_status, .code yX4_status cX4_status 1 (some .int), .methodLink "LongMachine" 231 yX0_comeBack, .instanceMethod yX0_comeBack, .selects "LongMachine$Crossing" yX0_comeBack yX0_comeBack, .code yX0_comeBack cX0_comeBack 1 none, .constantLong "LongMachine" 155 65536]
def vG6 : List Cond := [.constantLong "LongMachine" 157 (-8), .methodLink "LongMachine" 159 yX4_reach, .instanceMethod yX4_reach, .code yX4_reach cX4_reach 9 none, .methodLink "LongMachine" 192 yX2_store, .instanceMethod yX2_store, .selects "LongMachine$Memory" yX2_store yX2_store, .code yX2_store cX2_store 10 none, .constantLong "LongMachine$Memory" 25 (-1), .constantLong "LongMachine$Memory" 27 4294967295, .methodLink "LongMachine" 163 yX4_operate, .instanceMethod yX4_operate, .code yX4_operate cX4_operate 6 none, .methodLink "LongMachine" 176 yX3_compute, .instanceMethod yX3_compute, .selects "LongMachine$Operation" yX3_compute yX3_compute, .code yX3_compute cX3_compute 7 none, .methodLink "LongMachine$Operation" 19 yX3_add, .instanceMethod yX3_add, .code yX3_add cX3_add 6 (some .long), .methodLink "LongMachine$Operation" 38 yX3_sx, .static yX3_sx, .code yX3_sx cX3_sx 2 (some .long), .constantLong "LongMachine$Operation" 42 4, .constantLong "LongMachine$Operation" 44 8, .methodLink "LongMachine$Operation" 46 yX3_trapIf, .instanceMethod yX3_trapIf, .code yX3_trapIf cX3_trapIf 4 (some .long), .methodLink "LongMachine$Operation" 50 yX3_truth, .static yX3_truth, .code yX3_truth cX3_truth 1 (some .long), .methodLink "LongMachine$Operation" 54 yX3_isBelow, .static yX3_isBelow, .code yX3_isBelow cX3_isBelow 4 (some .boolean), .constantLong "LongMachine$Operation" 36 (-9223372036854775808), .methodLink "LongMachine$Operation" 58 yX3_bytesNotLess, .static yX3_bytesNotLess, .code yX3_bytesNotLess cX3_bytesNotLess 7 (some .long), .constantLong "LongMachine$Operation" 62 255, .methodLink "LongMachine$Operation" 27 yX3_combine]
def vG7 : List Cond := [.instanceMethod yX3_combine, .code yX3_combine cX3_combine 6 (some .long), .constantLong "LongMachine$Operation" 64 (-1), .methodLink "LongMachine$Operation" 66 yX3_onlyIf, .instanceMethod yX3_onlyIf, .code yX3_onlyIf cX3_onlyIf 4 (some .long), .methodLink "LongMachine$Operation" 30 yX3_shift, .instanceMethod yX3_shift, .code yX3_shift cX3_shift 10 (some .long), .methodLink "LongMachine$Operation" 69 yX3_bytesOf, .static yX3_bytesOf, .code yX3_bytesOf cX3_bytesOf 5 (some .long), .methodLink "LongMachine$Operation" 72 yX3_lowPart, .instanceMethod yX3_lowPart, .code yX3_lowPart cX3_lowPart 7 (some .long), .methodLink "LongMachine$Operation" 76 yX3_highPart, .instanceMethod yX3_highPart, .code yX3_highPart cX3_highPart 7 (some .long), .methodLink "LongMachine$Operation" 33 yX3_multiply, .instanceMethod yX3_multiply, .code yX3_multiply cX3_multiply 6 (some .long), .methodLink "LongMachine$Operation" 79 yX3_upper, .static yX3_upper, .code yX3_upper cX3_upper 16 (some .long), .constantLong "LongMachine$Operation" 86 4294967295, .methodLink "LongMachine$Operation" 82 yX3_signedUpper, .static yX3_signedUpper, .code yX3_signedUpper cX3_signedUpper 6 (some .long), .methodLink "LongMachine" 166 yX4_branch, .instanceMethod yX4_branch, .code yX4_branch cX4_branch 4 none, .methodLink "LongMachine" 169 yX4_isTaken, .static yX4_isTaken, .code yX4_isTaken cX4_isTaken 3 (some .boolean), .methodLink "LongMachine" 147 yX4_enter, .instanceMethod yX4_enter, .code yX4_enter cX4_enter 1 none, .methodLink "LongMachine" 196 yX4_fillFrame, .instanceMethod yX4_fillFrame, .code yX4_fillFrame cX4_fillFrame 1 none]
def vG8 : List Cond := [.constantLong "LongMachine" 199 48, .methodLink "LongMachine" 201 yX4_moveFrame, .instanceMethod yX4_moveFrame, .code yX4_moveFrame cX4_moveFrame 6 (some .boolean), .constantLong "LongMachine" 215 7, .methodLink "LongMachine" 149 yX4_comeBack, .instanceMethod yX4_comeBack, .code yX4_comeBack cX4_comeBack 1 none, .methodLink "LongMachineLaw" 34 yX4_register, .instanceMethod yX4_register, .selects "LongMachine" yX4_register yX4_register, .code yX4_register cX4_register 2 (some .long), .methodLink "LongMachineLaw" 39 yX4_word, .instanceMethod yX4_word, .selects "LongMachine" yX4_word yX4_word, .code yX4_word cX4_word 2 (some .long), .methodLink "LongMachineLaw" 43 yX4_state, .instanceMethod yX4_state, .selects "LongMachine" yX4_state yX4_state, .code yX4_state cX4_state 2 (some .int), .classLink "LongMachineLaw" 10 "LongMachineModel", .instantiable "LongMachineModel" 28, .methodLink "LongMachineLaw" 12 yY_init, .instanceMethod yY_init, .code yY_init cY_init 1 none, .methodLink "LongMachineModel" 1 objectInit, .fieldLink "LongMachineModel" 7 "LongMachineModel" "memory" "[I", .fieldLink "LongMachineModel" 13 "LongMachineModel" "\x72" "[J", .fieldLink "LongMachineModel" 116 "LongMachineModel" "pc" "J", .fieldLink "LongMachineModel" 76 "LongMachineModel" "mode" "I", .fieldLink "LongMachineModel" 17 "LongMachineModel" "level" "I", .fieldLink "LongMachineModel" 112 "LongMachineModel" "lock" "Z", .fieldLink "LongMachineModel" 91 "LongMachineModel" "ksp" "J", .fieldLink "LongMachineModel" 87 "LongMachineModel" "usp" "J", .fieldLink "LongMachineModel" 109 "LongMachineModel" "kgp" "J", .fieldLink "LongMachineModel" 216 "LongMachineModel" "value" "J", .fieldLink "LongMachineModel" 52 "LongMachineModel" "table" "I", .fieldLink "LongMachineModel" 47 "LongMachineModel" "space" "I", .fieldLink "LongMachineModel" 21 "LongMachineModel" "vector" "[J", .fieldLink "LongMachineModel" 106 "LongMachineModel" "halted" "I"]
def vG9 : List Cond := [.fieldLink "LongMachineModel" 119 "LongMachineModel" "entries" "I", .fieldLink "LongMachineModel" 221 "LongMachineModel" "pending" "I", .fieldLink "LongMachineModel" 24 "LongMachineModel" "pendingLevel" "[I", .fieldLink "LongMachineModel" 27 "LongMachineModel" "pendingNumber" "[I", .fieldLink "LongMachineModel" 44 "LongMachineModel" "buffered" "I", .fieldLink "LongMachineModel" 30 "LongMachineModel" "bufferPage" "[I", .fieldLink "LongMachineModel" 33 "LongMachineModel" "bufferSpace" "[I", .fieldLink "LongMachineModel" 36 "LongMachineModel" "bufferWord" "[J", .fieldLink "LongMachineModel" 122 "LongMachineModel" "here" "J", .fieldLink "LongMachineModel" 171 "LongMachineModel" "word" "I", .fieldLink "LongMachineModel" 151 "LongMachineModel" "has" "Z", .fieldLink "LongMachineModel" 146 "LongMachineModel" "trap" "Z", .fieldLink "LongMachineModel" 143 "LongMachineModel" "none" "Z", .fieldLink "LongMachineModel" 39 "LongMachineModel" "six" "[J", .laysFinal "LongMachineModel" "LongMachineModel" "memory" "[I", .laysFinal "LongMachineModel" "LongMachineModel" "\x72" "[J", .lays "LongMachineModel" "LongMachineModel" "pc" "J", .lays "LongMachineModel" "LongMachineModel" "mode" "I", .lays "LongMachineModel" "LongMachineModel" "level" "I", .lays "LongMachineModel" "LongMachineModel" "lock" "Z", .lays "LongMachineModel" "LongMachineModel" "ksp" "J", .lays "LongMachineModel" "LongMachineModel" "usp" "J", .lays "LongMachineModel" "LongMachineModel" "kgp" "J", .lays "LongMachineModel" "LongMachineModel" "value" "J", .lays "LongMachineModel" "LongMachineModel" "table" "I", .lays "LongMachineModel" "LongMachineModel" "space" "I", .laysFinal "LongMachineModel" "LongMachineModel" "vector" "[J", .lays "LongMachineModel" "LongMachineModel" "halted" "I", .lays "LongMachineModel" "LongMachineModel" "entries" "I", .lays "LongMachineModel" "LongMachineModel" "pending" "I", .laysFinal "LongMachineModel" "LongMachineModel" "pendingLevel" "[I", .laysFinal "LongMachineModel" "LongMachineModel" "pendingNumber" "[I", .lays "LongMachineModel" "LongMachineModel" "buffered" "I", .laysFinal "LongMachineModel" "LongMachineModel" "bufferPage" "[I", .laysFinal "LongMachineModel" "LongMachineModel" "bufferSpace" "[I", .laysFinal "LongMachineModel" "LongMachineModel" "bufferWord" "[J", .lays "LongMachineModel" "LongMachineModel" "here" "J", .lays "LongMachineModel" "LongMachineModel" "word" "I", .lays "LongMachineModel" "LongMachineModel" "has" "Z", .lays "LongMachineModel" "LongMachineModel" "trap" "Z"]
def vG10 : List Cond := [.lays "LongMachineModel" "LongMachineModel" "none" "Z", .laysFinal "LongMachineModel" "LongMachineModel" "six" "[J", .methodLink "LongMachineLaw" 33 yY_run, .instanceMethod yY_run, .selects "LongMachineModel" yY_run yY_run, .code yY_run cY_run 3 (some .int), .methodLink "LongMachineModel" 245 yY_step, .instanceMethod yY_step, .code yY_step cY_step 6 none, .methodLink "LongMachineModel" 224 yY_due, .instanceMethod yY_due, .code yY_due cY_due 3 (some .int), .methodLink "LongMachineModel" 228 yY_interrupted, .instanceMethod yY_interrupted, .code yY_interrupted cY_interrupted 5 none, .methodLink "LongMachineModel" 125 yY_entry, .instanceMethod yY_entry, .code yY_entry cY_entry 14 none, .constantLong "LongMachineModel" 94 8, .constantLong "LongMachineModel" 96 48, .methodLink "LongMachineModel" 98 yY_translate, .instanceMethod yY_translate, .code yY_translate cY_translate 11 (some .int), .constantLong "LongMachineModel" 69 65535, .constantLong "LongMachineModel" 71 16383, .constantLong "LongMachineModel" 73 32768, .constant "LongMachineModel" 75 36864, .constant "LongMachineModel" 79 32768, .methodLink "LongMachineModel" 80 yY_buffered, .instanceMethod yY_buffered, .code yY_buffered cY_buffered 3 (some .int), .methodLink "LongMachineModel" 83 yY_walk, .instanceMethod yY_walk, .code yY_walk cY_walk 6 (some .long), .methodLink "LongMachineModel" 55 yY_bytes, .instanceMethod yY_bytes, .code yY_bytes cY_bytes 6 (some .long), .constantLong "LongMachineModel" 59 240, .methodLink "LongMachineModel" 61 yY_number, .static yY_number]
def vG11 : List Cond := [.code yY_number cY_number 2 (some .int), .constantLong "LongMachineModel" 50 15, .methodLink "LongMachineModel" 65 yY_keep, .instanceMethod yY_keep, .code yY_keep cY_keep 5 none, .methodLink "LongMachineModel" 102 yY_store, .instanceMethod yY_store, .code yY_store cY_store 6 none, .constantLong "LongMachineModel" 42 255, .methodLink "LongMachineModel" 196 yY_fault, .instanceMethod yY_fault, .code yY_fault cY_fault 5 none, .constantLong "LongMachineModel" 133 4, .methodLink "LongMachineModel" 231 yY_call, .instanceMethod yY_call, .code yY_call cY_call 3 none, .constantLong "LongMachineModel" 204 2, .methodLink "LongMachineModel" 187 yY_wrong, .instanceMethod yY_wrong, .code yY_wrong cY_wrong 2 none, .methodLink "LongMachineModel" 206 yY_own, .instanceMethod yY_own, .code yY_own cY_own 4 none, .methodLink "LongMachineModel" 209 yY_back, .instanceMethod yY_back, .code yY_back cY_back 4 none, .constantLong "LongMachineModel" 154 7, .constantLong "LongMachineModel" 214 (-4), .constantLong "LongMachineModel" 212 6, .constantLong "LongMachineModel" 219 4064, .methodLink "LongMachineModel" 234 yY_operate, .instanceMethod yY_operate, .code yY_operate cY_operate 9 none, .methodLink "LongMachineModel" 174 yY_sums, .instanceMethod yY_sums, .code yY_sums cY_sums 9 (some .long), .methodLink "LongMachineModel" 129 yY_sx, .static yY_sx, .code yY_sx cY_sx 2 (some .long), .methodLink "LongMachineModel" 135 yY_is]
def vG12 : List Cond := [.static yY_is, .code yY_is cY_is 1 (some .long), .methodLink "LongMachineModel" 139 yY_less, .static yY_less, .code yY_less cY_less 4 (some .boolean), .methodLink "LongMachineModel" 178 yY_bits, .instanceMethod yY_bits, .code yY_bits cY_bits 6 (some .long), .constantLong "LongMachineModel" 149 (-1), .methodLink "LongMachineModel" 181 yY_parts, .instanceMethod yY_parts, .code yY_parts cY_parts 13 (some .long), .methodLink "LongMachineModel" 156 yY_lowest, .static yY_lowest, .code yY_lowest cY_lowest 1 (some .long), .constantLong "LongMachineModel" 159 63, .methodLink "LongMachineModel" 161 yY_zapped, .static yY_zapped, .code yY_zapped cY_zapped 9 (some .long), .methodLink "LongMachineModel" 184 yY_products, .instanceMethod yY_products, .code yY_products cY_products 10 (some .long), .methodLink "LongMachineModel" 167 yY_upper, .static yY_upper, .code yY_upper cY_upper 18 (some .long), .constantLong "LongMachineModel" 165 4294967295, .methodLink "LongMachineModel" 191 yY_give, .instanceMethod yY_give, .code yY_give cY_give 4 none, .constantLong "LongMachineModel" 237 65536, .methodLink "LongMachineModel" 239 yY_move, .instanceMethod yY_move, .code yY_move cY_move 12 none, .constantLong "LongMachineModel" 194 (-8), .methodLink "LongMachineModel" 242 yY_branch, .instanceMethod yY_branch, .code yY_branch cY_branch 6 none, .methodLink "LongMachineModel" 200 yY_meets, .static yY_meets, .code yY_meets cY_meets 3 (some .boolean)]
def vG13 : List Cond := [.methodLink "LongMachineLaw" 19 yY_set, .instanceMethod yY_set, .selects "LongMachineModel" yY_set yY_set, .code yY_set cY_set 4 (some .boolean), .methodLink "LongMachineModel" 248 yY_isPlace, .static yY_isPlace, .code yY_isPlace cY_isPlace 1 (some .boolean), .methodLink "LongMachineLaw" 23 yY_put, .instanceMethod yY_put, .selects "LongMachineModel" yY_put yY_put, .code yY_put cY_put 4 (some .boolean), .methodLink "LongMachineLaw" 28 yY_interrupt, .instanceMethod yY_interrupt, .selects "LongMachineModel" yY_interrupt yY_interrupt, .code yY_interrupt cY_interrupt 3 (some .boolean), .methodLink "LongMachineLaw" 38 yY_register, .instanceMethod yY_register, .selects "LongMachineModel" yY_register yY_register, .code yY_register cY_register 2 (some .long), .methodLink "LongMachineLaw" 42 yY_word, .instanceMethod yY_word, .selects "LongMachineModel" yY_word yY_word, .code yY_word cY_word 2 (some .long), .methodLink "LongMachineLaw" 46 yY_state, .instanceMethod yY_state, .selects "LongMachineModel" yY_state yY_state, .code yY_state cY_state 2 (some .int), .constantLong "LongMachineLaw" 13 4294967295, .selects "LongMachine" yX4_write yX4_write, .selects "LongMachine" yX4_step yX4_step, .selects "LongMachine$Interrupts" yX1_remove yX1_remove, .selects "LongMachine$Memory" yX2_find yX2_find, .selects "LongMachine$Memory" yX2_walk yX2_walk, .selects "LongMachine$Memory" yX2_keep yX2_keep, .selects "LongMachine" yX4_execute yX4_execute, .selects "LongMachine" yX4_call yX4_call, .selects "LongMachine" yX4_refuse yX4_refuse, .selects "LongMachine" yX4_kernelCall yX4_kernelCall, .selects "LongMachine" yX4_changeSpace yX4_changeSpace, .selects "LongMachine" yX4_changeVector yX4_changeVector]
def vG14 : List Cond := [.selects "LongMachine" yX4_status yX4_status, .selects "LongMachine" yX4_reach yX4_reach, .selects "LongMachine" yX4_operate yX4_operate, .selects "LongMachine$Operation" yX3_add yX3_add, .selects "LongMachine$Operation" yX3_trapIf yX3_trapIf, .selects "LongMachine$Operation" yX3_combine yX3_combine, .selects "LongMachine$Operation" yX3_onlyIf yX3_onlyIf, .selects "LongMachine$Operation" yX3_shift yX3_shift, .selects "LongMachine$Operation" yX3_lowPart yX3_lowPart, .selects "LongMachine$Operation" yX3_highPart yX3_highPart, .selects "LongMachine$Operation" yX3_multiply yX3_multiply, .selects "LongMachine" yX4_branch yX4_branch, .selects "LongMachine" yX4_enter yX4_enter, .selects "LongMachine" yX4_fillFrame yX4_fillFrame, .selects "LongMachine" yX4_moveFrame yX4_moveFrame, .selects "LongMachine" yX4_comeBack yX4_comeBack, .selects "LongMachineModel" yY_step yY_step, .selects "LongMachineModel" yY_due yY_due, .selects "LongMachineModel" yY_interrupted yY_interrupted, .selects "LongMachineModel" yY_entry yY_entry, .selects "LongMachineModel" yY_translate yY_translate, .selects "LongMachineModel" yY_buffered yY_buffered, .selects "LongMachineModel" yY_walk yY_walk, .selects "LongMachineModel" yY_bytes yY_bytes, .selects "LongMachineModel" yY_keep yY_keep, .selects "LongMachineModel" yY_store yY_store, .selects "LongMachineModel" yY_fault yY_fault, .selects "LongMachineModel" yY_call yY_call, .selects "LongMachineModel" yY_wrong yY_wrong, .selects "LongMachineModel" yY_own yY_own, .selects "LongMachineModel" yY_back yY_back, .selects "LongMachineModel" yY_operate yY_operate, .selects "LongMachineModel" yY_sums yY_sums, .selects "LongMachineModel" yY_bits yY_bits, .selects "LongMachineModel" yY_parts yY_parts, .selects "LongMachineModel" yY_products yY_products, .selects "LongMachineModel" yY_give yY_give, .selects "LongMachineModel" yY_move yY_move, .selects "LongMachineModel" yY_branch yY_branch]
def vG : List Cond := vG0 ++ (vG1 ++ (vG2 ++ (vG3 ++ (vG4 ++ (vG5 ++ (vG6 ++ (vG7 ++ (vG8 ++ (vG9 ++ (vG10 ++ (vG11 ++ (vG12 ++ (vG13 ++ (vG14))))))))))))))
theorem vG0_in : ∀ w ∈ vG0, w ∈ vG := fun _ h => List.mem_append_left _ h
theorem vG0_good : vG0.all goodWord = true := by decide +kernel
theorem vG1_in : ∀ w ∈ vG1, w ∈ vG := fun _ h => List.mem_append_right _ (List.mem_append_left _ h)
theorem vG1_good : vG1.all goodWord = true := by decide +kernel
theorem vG2_in : ∀ w ∈ vG2, w ∈ vG := fun _ h => List.mem_append_right _ (List.mem_append_right _ (List.mem_append_left _ h))
theorem vG2_good : vG2.all goodWord = true := by decide +kernel
theorem vG3_in : ∀ w ∈ vG3, w ∈ vG := fun _ h => List.mem_append_right _ (List.mem_append_right _ (List.mem_append_right _ (List.mem_append_left _ h)))
theorem vG3_good : vG3.all goodWord = true := by decide +kernel
theorem vG4_in : ∀ w ∈ vG4, w ∈ vG := fun _ h => List.mem_append_right _ (List.mem_append_right _ (List.mem_append_right _ (List.mem_append_right _ (List.mem_append_left _ h))))
theorem vG4_good : vG4.all goodWord = true := by decide +kernel
theorem vG5_in : ∀ w ∈ vG5, w ∈ vG := fun _ h => List.mem_append_right _ (List.mem_append_right _ (List.mem_append_right _ (List.mem_append_right _ (List.mem_append_right _ (List.mem_append_left _ h)))))
theorem vG5_good : vG5.all goodWord = true := by decide +kernel
theorem vG6_in : ∀ w ∈ vG6, w ∈ vG := fun _ h => List.mem_append_right _ (List.mem_append_right _ (List.mem_append_right _ (List.mem_append_right _ (List.mem_append_right _ (List.mem_append_right _ (List.mem_append_left _ h))))))
theorem vG6_good : vG6.all goodWord = true := by decide +kernel
theorem vG7_in : ∀ w ∈ vG7, w ∈ vG := fun _ h => List.mem_append_right _ (List.mem_append_right _ (List.mem_append_right _ (List.mem_append_right _ (List.mem_append_right _ (List.mem_append_right _ (List.mem_append_right _ (List.mem_append_left _ h)))))))
theorem vG7_good : vG7.all goodWord = true := by decide +kernel
theorem vG8_in : ∀ w ∈ vG8, w ∈ vG := fun _ h => List.mem_append_right _ (List.mem_append_right _ (List.mem_append_right _ (List.mem_append_right _ (List.mem_append_right _ (List.mem_append_right _ (List.mem_append_right _ (List.mem_append_right _ (List.mem_append_left _ h))))))))
theorem vG8_good : vG8.all goodWord = true := by decide +kernel
theorem vG9_in : ∀ w ∈ vG9, w ∈ vG := fun _ h => List.mem_append_right _ (List.mem_append_right _ (List.mem_append_right _ (List.mem_append_right _ (List.mem_append_right _ (List.mem_append_right _ (List.mem_append_right _ (List.mem_append_right _ (List.mem_append_right _ (List.mem_append_left _ h)))))))))
theorem vG9_good : vG9.all goodWord = true := by decide +kernel
theorem vG10_in : ∀ w ∈ vG10, w ∈ vG := fun _ h => List.mem_append_right _ (List.mem_append_right _ (List.mem_append_right _ (List.mem_append_right _ (List.mem_append_right _ (List.mem_append_right _ (List.mem_append_right _ (List.mem_append_right _ (List.mem_append_right _ (List.mem_append_right _ (List.mem_append_left _ h))))))))))
theorem vG10_good : vG10.all goodWord = true := by decide +kernel
theorem vG11_in : ∀ w ∈ vG11, w ∈ vG := fun _ h => List.mem_append_right _ (List.mem_append_right _ (List.mem_append_right _ (List.mem_append_right _ (List.mem_append_right _ (List.mem_append_right _ (List.mem_append_right _ (List.mem_append_right _ (List.mem_append_right _ (List.mem_append_right _ (List.mem_append_right _ (List.mem_append_left _ h)))))))))))
theorem vG11_good : vG11.all goodWord = true := by decide +kernel
theorem vG12_in : ∀ w ∈ vG12, w ∈ vG := fun _ h => List.mem_append_right _ (List.mem_append_right _ (List.mem_append_right _ (List.mem_append_right _ (List.mem_append_right _ (List.mem_append_right _ (List.mem_append_right _ (List.mem_append_right _ (List.mem_append_right _ (List.mem_append_right _ (List.mem_append_right _ (List.mem_append_right _ (List.mem_append_left _ h))))))))))))
theorem vG12_good : vG12.all goodWord = true := by decide +kernel
theorem vG13_in : ∀ w ∈ vG13, w ∈ vG := fun _ h => List.mem_append_right _ (List.mem_append_right _ (List.mem_append_right _ (List.mem_append_right _ (List.mem_append_right _ (List.mem_append_right _ (List.mem_append_right _ (List.mem_append_right _ (List.mem_append_right _ (List.mem_append_right _ (List.mem_append_right _ (List.mem_append_right _ (List.mem_append_right _ (List.mem_append_left _ h)))))))))))))
theorem vG13_good : vG13.all goodWord = true := by decide +kernel
theorem vG14_in : ∀ w ∈ vG14, w ∈ vG := fun _ h => List.mem_append_right _ (List.mem_append_right _ (List.mem_append_right _ (List.mem_append_right _ (List.mem_append_right _ (List.mem_append_right _ (List.mem_append_right _ (List.mem_append_right _ (List.mem_append_right _ (List.mem_append_right _ (List.mem_append_right _ (List.mem_append_right _ (List.mem_append_right _ (List.mem_append_right _ (h))))))))))))))
theorem vG14_good : vG14.all goodWord = true := by decide +kernel
theorem vG_word : ∀ w ∈ vG, goodWord w = true := fun w h => (List.mem_append.mp h).elim (fun h => List.all_eq_true.mp vG0_good w h) (fun h => (List.mem_append.mp h).elim (fun h => List.all_eq_true.mp vG1_good w h) (fun h => (List.mem_append.mp h).elim (fun h => List.all_eq_true.mp vG2_good w h) (fun h => (List.mem_append.mp h).elim (fun h => List.all_eq_true.mp vG3_good w h) (fun h => (List.mem_append.mp h).elim (fun h => List.all_eq_true.mp vG4_good w h) (fun h => (List.mem_append.mp h).elim (fun h => List.all_eq_true.mp vG5_good w h) (fun h => (List.mem_append.mp h).elim (fun h => List.all_eq_true.mp vG6_good w h) (fun h => (List.mem_append.mp h).elim (fun h => List.all_eq_true.mp vG7_good w h) (fun h => (List.mem_append.mp h).elim (fun h => List.all_eq_true.mp vG8_good w h) (fun h => (List.mem_append.mp h).elim (fun h => List.all_eq_true.mp vG9_good w h) (fun h => (List.mem_append.mp h).elim (fun h => List.all_eq_true.mp vG10_good w h) (fun h => (List.mem_append.mp h).elim (fun h => List.all_eq_true.mp vG11_good w h) (fun h => (List.mem_append.mp h).elim (fun h => List.all_eq_true.mp vG12_good w h) (fun h => (List.mem_append.mp h).elim (fun h => List.all_eq_true.mp vG13_good w h) (fun h => List.all_eq_true.mp vG14_good w h))))))))))))))
theorem vG_good : ∀ w ∈ vG, ((w.onTables && w.keeps) = true ∨ ∃ ty, w = .arrayClass ty) := fun w h => good_of_word (vG_word w h)
theorem gm_0 : (.initialized "LongMachineLaw" : Cond) ∈ vG := vG0_in _ (List.mem_of_getElem? (i := 0) rfl)
theorem gm_1 : (.initialized "LongMachine" : Cond) ∈ vG := vG0_in _ (List.mem_of_getElem? (i := 1) rfl)
theorem gm_2 : (.initialized "LongMachine$Memory" : Cond) ∈ vG := vG0_in _ (List.mem_of_getElem? (i := 2) rfl)
theorem gm_3 : (.initialized "LongMachine$Interrupts" : Cond) ∈ vG := vG0_in _ (List.mem_of_getElem? (i := 3) rfl)
theorem gm_4 : (.initialized "LongMachine$Operation" : Cond) ∈ vG := vG0_in _ (List.mem_of_getElem? (i := 4) rfl)
theorem gm_5 : (.initialized "LongMachine$Crossing" : Cond) ∈ vG := vG0_in _ (List.mem_of_getElem? (i := 5) rfl)
theorem gm_6 : (.initialized "LongMachineModel" : Cond) ∈ vG := vG0_in _ (List.mem_of_getElem? (i := 6) rfl)
theorem gm_7 : (.classLink "LongMachineLaw" 7 "LongMachine" : Cond) ∈ vG := vG0_in _ (List.mem_of_getElem? (i := 7) rfl)
theorem gm_8 : (.instantiable "LongMachine" 17 : Cond) ∈ vG := vG0_in _ (List.mem_of_getElem? (i := 8) rfl)
theorem gm_9 : (.methodLink "LongMachineLaw" 9 yX4_init : Cond) ∈ vG := vG0_in _ (List.mem_of_getElem? (i := 9) rfl)
theorem gm_10 : (.instanceMethod yX4_init : Cond) ∈ vG := vG0_in _ (List.mem_of_getElem? (i := 10) rfl)
theorem gm_11 : (.code yX4_init cX4_init 1 none : Cond) ∈ vG := vG0_in _ (List.mem_of_getElem? (i := 11) rfl)
theorem gm_12 : (.methodLink "LongMachine" 1 objectInit : Cond) ∈ vG := vG0_in _ (List.mem_of_getElem? (i := 12) rfl)
theorem gm_13 : (.instanceMethod objectInit : Cond) ∈ vG := vG0_in _ (List.mem_of_getElem? (i := 13) rfl)
theorem gm_14 : (.code objectInit ⟨#[0xb1]⟩ 1 none : Cond) ∈ vG := vG0_in _ (List.mem_of_getElem? (i := 14) rfl)
theorem gm_15 : (.classLink "LongMachine" 7 "LongMachine$Memory" : Cond) ∈ vG := vG0_in _ (List.mem_of_getElem? (i := 15) rfl)
theorem gm_16 : (.instantiable "LongMachine$Memory" 8 : Cond) ∈ vG := vG0_in _ (List.mem_of_getElem? (i := 16) rfl)
theorem gm_17 : (.instanceMethod yX2_init : Cond) ∈ vG := vG0_in _ (List.mem_of_getElem? (i := 17) rfl)
theorem gm_18 : (.code yX2_init cX2_init 1 none : Cond) ∈ vG := vG0_in _ (List.mem_of_getElem? (i := 18) rfl)
theorem gm_19 : (.methodLink "LongMachine$Memory" 3 objectInit : Cond) ∈ vG := vG0_in _ (List.mem_of_getElem? (i := 19) rfl)
theorem gm_20 : (.fieldLink "LongMachine$Memory" 9 "LongMachine$Memory" "words" "[J" : Cond) ∈ vG := vG0_in _ (List.mem_of_getElem? (i := 20) rfl)
theorem gm_21 : (.fieldLink "LongMachine" 58 "LongMachine$Memory" "words" "[J" : Cond) ∈ vG := vG0_in _ (List.mem_of_getElem? (i := 21) rfl)
theorem gm_22 : (.fieldLink "LongMachine$Memory" 15 "LongMachine$Memory" "pages" "[I" : Cond) ∈ vG := vG0_in _ (List.mem_of_getElem? (i := 22) rfl)
theorem gm_23 : (.fieldLink "LongMachine$Memory" 19 "LongMachine$Memory" "spaces" "[I" : Cond) ∈ vG := vG0_in _ (List.mem_of_getElem? (i := 23) rfl)
theorem gm_24 : (.fieldLink "LongMachine$Memory" 22 "LongMachine$Memory" "descriptors" "[J" : Cond) ∈ vG := vG0_in _ (List.mem_of_getElem? (i := 24) rfl)
theorem gm_25 : (.fieldLink "LongMachine$Memory" 33 "LongMachine$Memory" "oldest" "I" : Cond) ∈ vG := vG0_in _ (List.mem_of_getElem? (i := 25) rfl)
theorem gm_26 : (.fieldLink "LongMachine$Memory" 29 "LongMachine$Memory" "count" "I" : Cond) ∈ vG := vG0_in _ (List.mem_of_getElem? (i := 26) rfl)
theorem gm_27 : (.fieldLink "LongMachine" 109 "LongMachine$Memory" "count" "I" : Cond) ∈ vG := vG0_in _ (List.mem_of_getElem? (i := 27) rfl)
theorem gm_28 : (.fieldLink "LongMachine" 93 "LongMachine$Memory" "table" "I" : Cond) ∈ vG := vG0_in _ (List.mem_of_getElem? (i := 28) rfl)
theorem gm_29 : (.fieldLink "LongMachine$Memory" 69 "LongMachine$Memory" "table" "I" : Cond) ∈ vG := vG0_in _ (List.mem_of_getElem? (i := 29) rfl)
theorem gm_30 : (.fieldLink "LongMachine" 96 "LongMachine$Memory" "space" "I" : Cond) ∈ vG := vG0_in _ (List.mem_of_getElem? (i := 30) rfl)
theorem gm_31 : (.fieldLink "LongMachine$Memory" 66 "LongMachine$Memory" "space" "I" : Cond) ∈ vG := vG0_in _ (List.mem_of_getElem? (i := 31) rfl)
theorem gm_32 : (.laysFinal "LongMachine$Memory" "LongMachine$Memory" "words" "[J" : Cond) ∈ vG := vG0_in _ (List.mem_of_getElem? (i := 32) rfl)
theorem gm_33 : (.laysFinal "LongMachine$Memory" "LongMachine$Memory" "pages" "[I" : Cond) ∈ vG := vG0_in _ (List.mem_of_getElem? (i := 33) rfl)
theorem gm_34 : (.laysFinal "LongMachine$Memory" "LongMachine$Memory" "spaces" "[I" : Cond) ∈ vG := vG0_in _ (List.mem_of_getElem? (i := 34) rfl)
theorem gm_35 : (.laysFinal "LongMachine$Memory" "LongMachine$Memory" "descriptors" "[J" : Cond) ∈ vG := vG0_in _ (List.mem_of_getElem? (i := 35) rfl)
theorem gm_36 : (.lays "LongMachine$Memory" "LongMachine$Memory" "oldest" "I" : Cond) ∈ vG := vG0_in _ (List.mem_of_getElem? (i := 36) rfl)
theorem gm_37 : (.lays "LongMachine$Memory" "LongMachine$Memory" "count" "I" : Cond) ∈ vG := vG0_in _ (List.mem_of_getElem? (i := 37) rfl)
theorem gm_38 : (.lays "LongMachine$Memory" "LongMachine$Memory" "table" "I" : Cond) ∈ vG := vG0_in _ (List.mem_of_getElem? (i := 38) rfl)
theorem gm_39 : (.lays "LongMachine$Memory" "LongMachine$Memory" "space" "I" : Cond) ∈ vG := vG0_in _ (List.mem_of_getElem? (i := 39) rfl)
theorem gm_40 : (.arrayClass .long : Cond) ∈ vG := vG1_in _ (List.mem_of_getElem? (i := 0) rfl)
theorem gm_41 : (.arrayClass .int : Cond) ∈ vG := vG1_in _ (List.mem_of_getElem? (i := 1) rfl)
theorem gm_42 : (.classLink "LongMachine" 26 "LongMachine$Interrupts" : Cond) ∈ vG := vG1_in _ (List.mem_of_getElem? (i := 2) rfl)
theorem gm_43 : (.instantiable "LongMachine$Interrupts" 3 : Cond) ∈ vG := vG1_in _ (List.mem_of_getElem? (i := 3) rfl)
theorem gm_44 : (.instanceMethod yX1_init : Cond) ∈ vG := vG1_in _ (List.mem_of_getElem? (i := 4) rfl)
theorem gm_45 : (.code yX1_init cX1_init 1 none : Cond) ∈ vG := vG1_in _ (List.mem_of_getElem? (i := 5) rfl)
theorem gm_46 : (.methodLink "LongMachine$Interrupts" 1 objectInit : Cond) ∈ vG := vG1_in _ (List.mem_of_getElem? (i := 6) rfl)
theorem gm_47 : (.fieldLink "LongMachine$Interrupts" 9 "LongMachine$Interrupts" "levels" "[I" : Cond) ∈ vG := vG1_in _ (List.mem_of_getElem? (i := 7) rfl)
theorem gm_48 : (.fieldLink "LongMachine$Interrupts" 13 "LongMachine$Interrupts" "numbers" "[I" : Cond) ∈ vG := vG1_in _ (List.mem_of_getElem? (i := 8) rfl)
theorem gm_49 : (.fieldLink "LongMachine$Interrupts" 16 "LongMachine$Interrupts" "count" "I" : Cond) ∈ vG := vG1_in _ (List.mem_of_getElem? (i := 9) rfl)
theorem gm_50 : (.fieldLink "LongMachine" 112 "LongMachine$Interrupts" "count" "I" : Cond) ∈ vG := vG1_in _ (List.mem_of_getElem? (i := 10) rfl)
theorem gm_51 : (.laysFinal "LongMachine$Interrupts" "LongMachine$Interrupts" "levels" "[I" : Cond) ∈ vG := vG1_in _ (List.mem_of_getElem? (i := 11) rfl)
theorem gm_52 : (.laysFinal "LongMachine$Interrupts" "LongMachine$Interrupts" "numbers" "[I" : Cond) ∈ vG := vG1_in _ (List.mem_of_getElem? (i := 12) rfl)
theorem gm_53 : (.lays "LongMachine$Interrupts" "LongMachine$Interrupts" "count" "I" : Cond) ∈ vG := vG1_in _ (List.mem_of_getElem? (i := 13) rfl)
theorem gm_54 : (.classLink "LongMachine" 33 "LongMachine$Operation" : Cond) ∈ vG := vG1_in _ (List.mem_of_getElem? (i := 14) rfl)
theorem gm_55 : (.instantiable "LongMachine$Operation" 4 : Cond) ∈ vG := vG1_in _ (List.mem_of_getElem? (i := 15) rfl)
theorem gm_56 : (.instanceMethod yX3_init : Cond) ∈ vG := vG1_in _ (List.mem_of_getElem? (i := 16) rfl)
theorem gm_57 : (.code yX3_init cX3_init 1 none : Cond) ∈ vG := vG1_in _ (List.mem_of_getElem? (i := 17) rfl)
theorem gm_58 : (.methodLink "LongMachine$Operation" 1 objectInit : Cond) ∈ vG := vG1_in _ (List.mem_of_getElem? (i := 18) rfl)
theorem gm_59 : (.fieldLink "LongMachine$Operation" 23 "LongMachine$Operation" "result" "J" : Cond) ∈ vG := vG1_in _ (List.mem_of_getElem? (i := 19) rfl)
theorem gm_60 : (.fieldLink "LongMachine" 186 "LongMachine$Operation" "result" "J" : Cond) ∈ vG := vG1_in _ (List.mem_of_getElem? (i := 20) rfl)
theorem gm_61 : (.fieldLink "LongMachine$Operation" 7 "LongMachine$Operation" "known" "Z" : Cond) ∈ vG := vG1_in _ (List.mem_of_getElem? (i := 21) rfl)
theorem gm_62 : (.fieldLink "LongMachine" 180 "LongMachine$Operation" "known" "Z" : Cond) ∈ vG := vG1_in _ (List.mem_of_getElem? (i := 22) rfl)
theorem gm_63 : (.fieldLink "LongMachine$Operation" 13 "LongMachine$Operation" "given" "Z" : Cond) ∈ vG := vG1_in _ (List.mem_of_getElem? (i := 23) rfl)
theorem gm_64 : (.fieldLink "LongMachine" 183 "LongMachine$Operation" "given" "Z" : Cond) ∈ vG := vG1_in _ (List.mem_of_getElem? (i := 24) rfl)
theorem gm_65 : (.fieldLink "LongMachine$Operation" 16 "LongMachine$Operation" "trap" "Z" : Cond) ∈ vG := vG1_in _ (List.mem_of_getElem? (i := 25) rfl)
theorem gm_66 : (.fieldLink "LongMachine" 189 "LongMachine$Operation" "trap" "Z" : Cond) ∈ vG := vG1_in _ (List.mem_of_getElem? (i := 26) rfl)
theorem gm_67 : (.lays "LongMachine$Operation" "LongMachine$Operation" "result" "J" : Cond) ∈ vG := vG1_in _ (List.mem_of_getElem? (i := 27) rfl)
theorem gm_68 : (.lays "LongMachine$Operation" "LongMachine$Operation" "known" "Z" : Cond) ∈ vG := vG1_in _ (List.mem_of_getElem? (i := 28) rfl)
theorem gm_69 : (.lays "LongMachine$Operation" "LongMachine$Operation" "given" "Z" : Cond) ∈ vG := vG1_in _ (List.mem_of_getElem? (i := 29) rfl)
theorem gm_70 : (.lays "LongMachine$Operation" "LongMachine$Operation" "trap" "Z" : Cond) ∈ vG := vG1_in _ (List.mem_of_getElem? (i := 30) rfl)
theorem gm_71 : (.classLink "LongMachine" 40 "LongMachine$Crossing" : Cond) ∈ vG := vG1_in _ (List.mem_of_getElem? (i := 31) rfl)
theorem gm_72 : (.instantiable "LongMachine$Crossing" 5 : Cond) ∈ vG := vG1_in _ (List.mem_of_getElem? (i := 32) rfl)
theorem gm_73 : (.instanceMethod yX0_init : Cond) ∈ vG := vG1_in _ (List.mem_of_getElem? (i := 33) rfl)
theorem gm_74 : (.code yX0_init cX0_init 1 none : Cond) ∈ vG := vG1_in _ (List.mem_of_getElem? (i := 34) rfl)
theorem gm_75 : (.methodLink "LongMachine$Crossing" 1 objectInit : Cond) ∈ vG := vG1_in _ (List.mem_of_getElem? (i := 35) rfl)
theorem gm_76 : (.fieldLink "LongMachine$Crossing" 9 "LongMachine$Crossing" "vector" "I" : Cond) ∈ vG := vG1_in _ (List.mem_of_getElem? (i := 36) rfl)
theorem gm_77 : (.fieldLink "LongMachine" 144 "LongMachine$Crossing" "vector" "I" : Cond) ∈ vG := vG1_in _ (List.mem_of_getElem? (i := 37) rfl)
theorem gm_78 : (.fieldLink "LongMachine$Crossing" 13 "LongMachine$Crossing" "a" "J" : Cond) ∈ vG := vG1_in _ (List.mem_of_getElem? (i := 38) rfl)
theorem gm_79 : (.fieldLink "LongMachine" 205 "LongMachine$Crossing" "a" "J" : Cond) ∈ vG := vG1_in _ (List.mem_of_getElem? (i := 39) rfl)
theorem gm_80 : (.fieldLink "LongMachine$Crossing" 17 "LongMachine$Crossing" "b" "J" : Cond) ∈ vG := vG2_in _ (List.mem_of_getElem? (i := 0) rfl)
theorem gm_81 : (.fieldLink "LongMachine" 208 "LongMachine$Crossing" "b" "J" : Cond) ∈ vG := vG2_in _ (List.mem_of_getElem? (i := 1) rfl)
theorem gm_82 : (.fieldLink "LongMachine$Crossing" 20 "LongMachine$Crossing" "c" "J" : Cond) ∈ vG := vG2_in _ (List.mem_of_getElem? (i := 2) rfl)
theorem gm_83 : (.fieldLink "LongMachine" 211 "LongMachine$Crossing" "c" "J" : Cond) ∈ vG := vG2_in _ (List.mem_of_getElem? (i := 3) rfl)
theorem gm_84 : (.fieldLink "LongMachine$Crossing" 23 "LongMachine$Crossing" "pc" "J" : Cond) ∈ vG := vG2_in _ (List.mem_of_getElem? (i := 4) rfl)
theorem gm_85 : (.fieldLink "LongMachine" 214 "LongMachine$Crossing" "pc" "J" : Cond) ∈ vG := vG2_in _ (List.mem_of_getElem? (i := 5) rfl)
theorem gm_86 : (.lays "LongMachine$Crossing" "LongMachine$Crossing" "vector" "I" : Cond) ∈ vG := vG2_in _ (List.mem_of_getElem? (i := 6) rfl)
theorem gm_87 : (.lays "LongMachine$Crossing" "LongMachine$Crossing" "a" "J" : Cond) ∈ vG := vG2_in _ (List.mem_of_getElem? (i := 7) rfl)
theorem gm_88 : (.lays "LongMachine$Crossing" "LongMachine$Crossing" "b" "J" : Cond) ∈ vG := vG2_in _ (List.mem_of_getElem? (i := 8) rfl)
theorem gm_89 : (.lays "LongMachine$Crossing" "LongMachine$Crossing" "c" "J" : Cond) ∈ vG := vG2_in _ (List.mem_of_getElem? (i := 9) rfl)
theorem gm_90 : (.lays "LongMachine$Crossing" "LongMachine$Crossing" "pc" "J" : Cond) ∈ vG := vG2_in _ (List.mem_of_getElem? (i := 10) rfl)
theorem gm_91 : (.fieldLink "LongMachine" 10 "LongMachine" "memory" "LLongMachine$Memory;" : Cond) ∈ vG := vG2_in _ (List.mem_of_getElem? (i := 11) rfl)
theorem gm_92 : (.fieldLink "LongMachine" 16 "LongMachine" "registers" "[J" : Cond) ∈ vG := vG2_in _ (List.mem_of_getElem? (i := 12) rfl)
theorem gm_93 : (.fieldLink "LongMachine" 20 "LongMachine" "vectors" "[J" : Cond) ∈ vG := vG2_in _ (List.mem_of_getElem? (i := 13) rfl)
theorem gm_94 : (.fieldLink "LongMachine" 23 "LongMachine" "frame" "[J" : Cond) ∈ vG := vG2_in _ (List.mem_of_getElem? (i := 14) rfl)
theorem gm_95 : (.fieldLink "LongMachine" 29 "LongMachine" "interrupts" "LLongMachine$Interrupts;" : Cond) ∈ vG := vG2_in _ (List.mem_of_getElem? (i := 15) rfl)
theorem gm_96 : (.fieldLink "LongMachine" 36 "LongMachine" "operation" "LLongMachine$Operation;" : Cond) ∈ vG := vG2_in _ (List.mem_of_getElem? (i := 16) rfl)
theorem gm_97 : (.fieldLink "LongMachine" 43 "LongMachine" "asked" "LLongMachine$Crossing;" : Cond) ∈ vG := vG2_in _ (List.mem_of_getElem? (i := 17) rfl)
theorem gm_98 : (.fieldLink "LongMachine" 63 "LongMachine" "pc" "J" : Cond) ∈ vG := vG2_in _ (List.mem_of_getElem? (i := 18) rfl)
theorem gm_99 : (.fieldLink "LongMachine" 67 "LongMachine" "ksp" "J" : Cond) ∈ vG := vG2_in _ (List.mem_of_getElem? (i := 19) rfl)
theorem gm_100 : (.fieldLink "LongMachine" 84 "LongMachine" "usp" "J" : Cond) ∈ vG := vG2_in _ (List.mem_of_getElem? (i := 20) rfl)
theorem gm_101 : (.fieldLink "LongMachine" 87 "LongMachine" "kgp" "J" : Cond) ∈ vG := vG2_in _ (List.mem_of_getElem? (i := 21) rfl)
theorem gm_102 : (.fieldLink "LongMachine" 90 "LongMachine" "value" "J" : Cond) ∈ vG := vG2_in _ (List.mem_of_getElem? (i := 22) rfl)
theorem gm_103 : (.fieldLink "LongMachine" 47 "LongMachine" "mode" "I" : Cond) ∈ vG := vG2_in _ (List.mem_of_getElem? (i := 23) rfl)
theorem gm_104 : (.fieldLink "LongMachine" 51 "LongMachine" "level" "I" : Cond) ∈ vG := vG2_in _ (List.mem_of_getElem? (i := 24) rfl)
theorem gm_105 : (.fieldLink "LongMachine" 78 "LongMachine" "halted" "I" : Cond) ∈ vG := vG2_in _ (List.mem_of_getElem? (i := 25) rfl)
theorem gm_106 : (.fieldLink "LongMachine" 113 "LongMachine" "entries" "I" : Cond) ∈ vG := vG2_in _ (List.mem_of_getElem? (i := 26) rfl)
theorem gm_107 : (.fieldLink "LongMachine" 105 "LongMachine" "locked" "Z" : Cond) ∈ vG := vG2_in _ (List.mem_of_getElem? (i := 27) rfl)
theorem gm_108 : (.laysFinal "LongMachine" "LongMachine" "memory" "LLongMachine$Memory;" : Cond) ∈ vG := vG2_in _ (List.mem_of_getElem? (i := 28) rfl)
theorem gm_109 : (.laysFinal "LongMachine" "LongMachine" "registers" "[J" : Cond) ∈ vG := vG2_in _ (List.mem_of_getElem? (i := 29) rfl)
theorem gm_110 : (.laysFinal "LongMachine" "LongMachine" "vectors" "[J" : Cond) ∈ vG := vG2_in _ (List.mem_of_getElem? (i := 30) rfl)
theorem gm_111 : (.laysFinal "LongMachine" "LongMachine" "frame" "[J" : Cond) ∈ vG := vG2_in _ (List.mem_of_getElem? (i := 31) rfl)
theorem gm_112 : (.laysFinal "LongMachine" "LongMachine" "interrupts" "LLongMachine$Interrupts;" : Cond) ∈ vG := vG2_in _ (List.mem_of_getElem? (i := 32) rfl)
theorem gm_113 : (.laysFinal "LongMachine" "LongMachine" "operation" "LLongMachine$Operation;" : Cond) ∈ vG := vG2_in _ (List.mem_of_getElem? (i := 33) rfl)
theorem gm_114 : (.laysFinal "LongMachine" "LongMachine" "asked" "LLongMachine$Crossing;" : Cond) ∈ vG := vG2_in _ (List.mem_of_getElem? (i := 34) rfl)
theorem gm_115 : (.lays "LongMachine" "LongMachine" "pc" "J" : Cond) ∈ vG := vG2_in _ (List.mem_of_getElem? (i := 35) rfl)
theorem gm_116 : (.lays "LongMachine" "LongMachine" "ksp" "J" : Cond) ∈ vG := vG2_in _ (List.mem_of_getElem? (i := 36) rfl)
theorem gm_117 : (.lays "LongMachine" "LongMachine" "usp" "J" : Cond) ∈ vG := vG2_in _ (List.mem_of_getElem? (i := 37) rfl)
theorem gm_118 : (.lays "LongMachine" "LongMachine" "kgp" "J" : Cond) ∈ vG := vG2_in _ (List.mem_of_getElem? (i := 38) rfl)
theorem gm_119 : (.lays "LongMachine" "LongMachine" "value" "J" : Cond) ∈ vG := vG2_in _ (List.mem_of_getElem? (i := 39) rfl)
theorem gm_120 : (.lays "LongMachine" "LongMachine" "mode" "I" : Cond) ∈ vG := vG3_in _ (List.mem_of_getElem? (i := 0) rfl)
theorem gm_121 : (.lays "LongMachine" "LongMachine" "level" "I" : Cond) ∈ vG := vG3_in _ (List.mem_of_getElem? (i := 1) rfl)
theorem gm_122 : (.lays "LongMachine" "LongMachine" "halted" "I" : Cond) ∈ vG := vG3_in _ (List.mem_of_getElem? (i := 2) rfl)
theorem gm_123 : (.lays "LongMachine" "LongMachine" "entries" "I" : Cond) ∈ vG := vG3_in _ (List.mem_of_getElem? (i := 3) rfl)
theorem gm_124 : (.lays "LongMachine" "LongMachine" "locked" "Z" : Cond) ∈ vG := vG3_in _ (List.mem_of_getElem? (i := 4) rfl)
theorem gm_125 : (.methodLink "LongMachineLaw" 15 yX4_set : Cond) ∈ vG := vG3_in _ (List.mem_of_getElem? (i := 5) rfl)
theorem gm_126 : (.instanceMethod yX4_set : Cond) ∈ vG := vG3_in _ (List.mem_of_getElem? (i := 6) rfl)
theorem gm_127 : (.selects "LongMachine" yX4_set yX4_set : Cond) ∈ vG := vG3_in _ (List.mem_of_getElem? (i := 7) rfl)
theorem gm_128 : (.code yX4_set cX4_set 4 (some .boolean) : Cond) ∈ vG := vG3_in _ (List.mem_of_getElem? (i := 8) rfl)
theorem gm_129 : (.methodLink "LongMachine" 54 yX4_isWordAddress : Cond) ∈ vG := vG3_in _ (List.mem_of_getElem? (i := 9) rfl)
theorem gm_130 : (.static yX4_isWordAddress : Cond) ∈ vG := vG3_in _ (List.mem_of_getElem? (i := 10) rfl)
theorem gm_131 : (.code yX4_isWordAddress cX4_isWordAddress 1 (some .boolean) : Cond) ∈ vG := vG3_in _ (List.mem_of_getElem? (i := 11) rfl)
theorem gm_132 : (.methodLink "LongMachineLaw" 20 yX4_put : Cond) ∈ vG := vG3_in _ (List.mem_of_getElem? (i := 12) rfl)
theorem gm_133 : (.instanceMethod yX4_put : Cond) ∈ vG := vG3_in _ (List.mem_of_getElem? (i := 13) rfl)
theorem gm_134 : (.selects "LongMachine" yX4_put yX4_put : Cond) ∈ vG := vG3_in _ (List.mem_of_getElem? (i := 14) rfl)
theorem gm_135 : (.code yX4_put cX4_put 4 (some .boolean) : Cond) ∈ vG := vG3_in _ (List.mem_of_getElem? (i := 15) rfl)
theorem gm_136 : (.constantLong "LongMachine" 61 (-4) : Cond) ∈ vG := vG3_in _ (List.mem_of_getElem? (i := 16) rfl)
theorem gm_137 : (.methodLink "LongMachine" 70 yX4_write : Cond) ∈ vG := vG3_in _ (List.mem_of_getElem? (i := 17) rfl)
theorem gm_138 : (.instanceMethod yX4_write : Cond) ∈ vG := vG3_in _ (List.mem_of_getElem? (i := 18) rfl)
theorem gm_139 : (.code yX4_write cX4_write 4 none : Cond) ∈ vG := vG3_in _ (List.mem_of_getElem? (i := 19) rfl)
theorem gm_140 : (.methodLink "LongMachineLaw" 24 yX4_interrupt : Cond) ∈ vG := vG3_in _ (List.mem_of_getElem? (i := 20) rfl)
theorem gm_141 : (.instanceMethod yX4_interrupt : Cond) ∈ vG := vG3_in _ (List.mem_of_getElem? (i := 21) rfl)
theorem gm_142 : (.selects "LongMachine" yX4_interrupt yX4_interrupt : Cond) ∈ vG := vG3_in _ (List.mem_of_getElem? (i := 22) rfl)
theorem gm_143 : (.code yX4_interrupt cX4_interrupt 3 (some .boolean) : Cond) ∈ vG := vG3_in _ (List.mem_of_getElem? (i := 23) rfl)
theorem gm_144 : (.methodLink "LongMachine" 74 yX1_add : Cond) ∈ vG := vG3_in _ (List.mem_of_getElem? (i := 24) rfl)
theorem gm_145 : (.instanceMethod yX1_add : Cond) ∈ vG := vG3_in _ (List.mem_of_getElem? (i := 25) rfl)
theorem gm_146 : (.selects "LongMachine$Interrupts" yX1_add yX1_add : Cond) ∈ vG := vG3_in _ (List.mem_of_getElem? (i := 26) rfl)
theorem gm_147 : (.code yX1_add cX1_add 3 (some .boolean) : Cond) ∈ vG := vG3_in _ (List.mem_of_getElem? (i := 27) rfl)
theorem gm_148 : (.methodLink "LongMachineLaw" 29 yX4_run : Cond) ∈ vG := vG3_in _ (List.mem_of_getElem? (i := 28) rfl)
theorem gm_149 : (.instanceMethod yX4_run : Cond) ∈ vG := vG3_in _ (List.mem_of_getElem? (i := 29) rfl)
theorem gm_150 : (.selects "LongMachine" yX4_run yX4_run : Cond) ∈ vG := vG3_in _ (List.mem_of_getElem? (i := 30) rfl)
theorem gm_151 : (.code yX4_run cX4_run 3 (some .int) : Cond) ∈ vG := vG3_in _ (List.mem_of_getElem? (i := 31) rfl)
theorem gm_152 : (.methodLink "LongMachine" 81 yX4_step : Cond) ∈ vG := vG3_in _ (List.mem_of_getElem? (i := 32) rfl)
theorem gm_153 : (.instanceMethod yX4_step : Cond) ∈ vG := vG3_in _ (List.mem_of_getElem? (i := 33) rfl)
theorem gm_154 : (.code yX4_step cX4_step 3 none : Cond) ∈ vG := vG3_in _ (List.mem_of_getElem? (i := 34) rfl)
theorem gm_155 : (.methodLink "LongMachine" 116 yX0_clear : Cond) ∈ vG := vG3_in _ (List.mem_of_getElem? (i := 35) rfl)
theorem gm_156 : (.instanceMethod yX0_clear : Cond) ∈ vG := vG3_in _ (List.mem_of_getElem? (i := 36) rfl)
theorem gm_157 : (.selects "LongMachine$Crossing" yX0_clear yX0_clear : Cond) ∈ vG := vG3_in _ (List.mem_of_getElem? (i := 37) rfl)
theorem gm_158 : (.code yX0_clear cX0_clear 1 none : Cond) ∈ vG := vG3_in _ (List.mem_of_getElem? (i := 38) rfl)
theorem gm_159 : (.methodLink "LongMachine" 119 yX1_takeAbove : Cond) ∈ vG := vG3_in _ (List.mem_of_getElem? (i := 39) rfl)
theorem gm_160 : (.instanceMethod yX1_takeAbove : Cond) ∈ vG := vG4_in _ (List.mem_of_getElem? (i := 0) rfl)
theorem gm_161 : (.selects "LongMachine$Interrupts" yX1_takeAbove yX1_takeAbove : Cond) ∈ vG := vG4_in _ (List.mem_of_getElem? (i := 1) rfl)
theorem gm_162 : (.code yX1_takeAbove cX1_takeAbove 5 (some .int) : Cond) ∈ vG := vG4_in _ (List.mem_of_getElem? (i := 2) rfl)
theorem gm_163 : (.methodLink "LongMachine$Interrupts" 20 yX1_remove : Cond) ∈ vG := vG4_in _ (List.mem_of_getElem? (i := 3) rfl)
theorem gm_164 : (.instanceMethod yX1_remove : Cond) ∈ vG := vG4_in _ (List.mem_of_getElem? (i := 4) rfl)
theorem gm_165 : (.code yX1_remove cX1_remove 3 none : Cond) ∈ vG := vG4_in _ (List.mem_of_getElem? (i := 5) rfl)
theorem gm_166 : (.methodLink "LongMachine" 123 yX2_place : Cond) ∈ vG := vG4_in _ (List.mem_of_getElem? (i := 6) rfl)
theorem gm_167 : (.instanceMethod yX2_place : Cond) ∈ vG := vG4_in _ (List.mem_of_getElem? (i := 7) rfl)
theorem gm_168 : (.selects "LongMachine$Memory" yX2_place yX2_place : Cond) ∈ vG := vG4_in _ (List.mem_of_getElem? (i := 8) rfl)
theorem gm_169 : (.code yX2_place cX2_place 10 (some .int) : Cond) ∈ vG := vG4_in _ (List.mem_of_getElem? (i := 9) rfl)
theorem gm_170 : (.constantLong "LongMachine$Memory" 36 16384 : Cond) ∈ vG := vG4_in _ (List.mem_of_getElem? (i := 10) rfl)
theorem gm_171 : (.methodLink "LongMachine$Memory" 38 yX2_directPlace : Cond) ∈ vG := vG4_in _ (List.mem_of_getElem? (i := 11) rfl)
theorem gm_172 : (.static yX2_directPlace : Cond) ∈ vG := vG4_in _ (List.mem_of_getElem? (i := 12) rfl)
theorem gm_173 : (.code yX2_directPlace cX2_directPlace 4 (some .int) : Cond) ∈ vG := vG4_in _ (List.mem_of_getElem? (i := 13) rfl)
theorem gm_174 : (.constantLong "LongMachine$Memory" 61 32768 : Cond) ∈ vG := vG4_in _ (List.mem_of_getElem? (i := 14) rfl)
theorem gm_175 : (.constantLong "LongMachine$Memory" 63 36864 : Cond) ∈ vG := vG4_in _ (List.mem_of_getElem? (i := 15) rfl)
theorem gm_176 : (.constant "LongMachine$Memory" 65 32768 : Cond) ∈ vG := vG4_in _ (List.mem_of_getElem? (i := 16) rfl)
theorem gm_177 : (.methodLink "LongMachine$Memory" 54 yX2_faulted : Cond) ∈ vG := vG4_in _ (List.mem_of_getElem? (i := 17) rfl)
theorem gm_178 : (.static yX2_faulted : Cond) ∈ vG := vG4_in _ (List.mem_of_getElem? (i := 18) rfl)
theorem gm_179 : (.code yX2_faulted cX2_faulted 1 (some .int) : Cond) ∈ vG := vG4_in _ (List.mem_of_getElem? (i := 19) rfl)
theorem gm_180 : (.methodLink "LongMachine$Memory" 42 yX2_find : Cond) ∈ vG := vG4_in _ (List.mem_of_getElem? (i := 20) rfl)
theorem gm_181 : (.instanceMethod yX2_find : Cond) ∈ vG := vG4_in _ (List.mem_of_getElem? (i := 21) rfl)
theorem gm_182 : (.code yX2_find cX2_find 3 (some .int) : Cond) ∈ vG := vG4_in _ (List.mem_of_getElem? (i := 22) rfl)
theorem gm_183 : (.methodLink "LongMachine$Memory" 46 yX2_walk : Cond) ∈ vG := vG4_in _ (List.mem_of_getElem? (i := 23) rfl)
theorem gm_184 : (.instanceMethod yX2_walk : Cond) ∈ vG := vG4_in _ (List.mem_of_getElem? (i := 24) rfl)
theorem gm_185 : (.code yX2_walk cX2_walk 8 (some .long) : Cond) ∈ vG := vG4_in _ (List.mem_of_getElem? (i := 25) rfl)
theorem gm_186 : (.constantLong "LongMachine$Memory" 72 240 : Cond) ∈ vG := vG4_in _ (List.mem_of_getElem? (i := 26) rfl)
theorem gm_187 : (.methodLink "LongMachine$Memory" 57 yX2_numberOf : Cond) ∈ vG := vG4_in _ (List.mem_of_getElem? (i := 27) rfl)
theorem gm_188 : (.static yX2_numberOf : Cond) ∈ vG := vG4_in _ (List.mem_of_getElem? (i := 28) rfl)
theorem gm_189 : (.code yX2_numberOf cX2_numberOf 2 (some .int) : Cond) ∈ vG := vG4_in _ (List.mem_of_getElem? (i := 29) rfl)
theorem gm_190 : (.methodLink "LongMachine$Memory" 74 yX2_keep : Cond) ∈ vG := vG4_in _ (List.mem_of_getElem? (i := 30) rfl)
theorem gm_191 : (.instanceMethod yX2_keep : Cond) ∈ vG := vG4_in _ (List.mem_of_getElem? (i := 31) rfl)
theorem gm_192 : (.code yX2_keep cX2_keep 5 none : Cond) ∈ vG := vG4_in _ (List.mem_of_getElem? (i := 32) rfl)
theorem gm_193 : (.methodLink "LongMachine$Memory" 50 yX2_faultIn : Cond) ∈ vG := vG4_in _ (List.mem_of_getElem? (i := 33) rfl)
theorem gm_194 : (.static yX2_faultIn : Cond) ∈ vG := vG4_in _ (List.mem_of_getElem? (i := 34) rfl)
theorem gm_195 : (.code yX2_faultIn cX2_faultIn 6 (some .int) : Cond) ∈ vG := vG4_in _ (List.mem_of_getElem? (i := 35) rfl)
theorem gm_196 : (.methodLink "LongMachine" 127 yX0_enter : Cond) ∈ vG := vG4_in _ (List.mem_of_getElem? (i := 36) rfl)
theorem gm_197 : (.instanceMethod yX0_enter : Cond) ∈ vG := vG4_in _ (List.mem_of_getElem? (i := 37) rfl)
theorem gm_198 : (.selects "LongMachine$Crossing" yX0_enter yX0_enter : Cond) ∈ vG := vG4_in _ (List.mem_of_getElem? (i := 38) rfl)
theorem gm_199 : (.code yX0_enter cX0_enter 10 none : Cond) ∈ vG := vG4_in _ (List.mem_of_getElem? (i := 39) rfl)
theorem gm_200 : (.methodLink "LongMachine" 131 yX2_faultOf : Cond) ∈ vG := vG5_in _ (List.mem_of_getElem? (i := 0) rfl)
theorem gm_201 : (.static yX2_faultOf : Cond) ∈ vG := vG5_in _ (List.mem_of_getElem? (i := 1) rfl)
theorem gm_202 : (.code yX2_faultOf cX2_faultOf 1 (some .int) : Cond) ∈ vG := vG5_in _ (List.mem_of_getElem? (i := 2) rfl)
theorem gm_203 : (.constantLong "LongMachine" 99 (-1) : Cond) ∈ vG := vG5_in _ (List.mem_of_getElem? (i := 3) rfl)
theorem gm_204 : (.constantLong "LongMachine" 134 4 : Cond) ∈ vG := vG5_in _ (List.mem_of_getElem? (i := 4) rfl)
theorem gm_205 : (.methodLink "LongMachine" 136 yX2_load : Cond) ∈ vG := vG5_in _ (List.mem_of_getElem? (i := 5) rfl)
theorem gm_206 : (.instanceMethod yX2_load : Cond) ∈ vG := vG5_in _ (List.mem_of_getElem? (i := 6) rfl)
theorem gm_207 : (.selects "LongMachine$Memory" yX2_load yX2_load : Cond) ∈ vG := vG5_in _ (List.mem_of_getElem? (i := 7) rfl)
theorem gm_208 : (.code yX2_load cX2_load 5 (some .long) : Cond) ∈ vG := vG5_in _ (List.mem_of_getElem? (i := 8) rfl)
theorem gm_209 : (.methodLink "LongMachine" 140 yX4_execute : Cond) ∈ vG := vG5_in _ (List.mem_of_getElem? (i := 9) rfl)
theorem gm_210 : (.instanceMethod yX4_execute : Cond) ∈ vG := vG5_in _ (List.mem_of_getElem? (i := 10) rfl)
theorem gm_211 : (.code yX4_execute cX4_execute 8 none : Cond) ∈ vG := vG5_in _ (List.mem_of_getElem? (i := 11) rfl)
theorem gm_212 : (.methodLink "LongMachine" 152 yX4_call : Cond) ∈ vG := vG5_in _ (List.mem_of_getElem? (i := 12) rfl)
theorem gm_213 : (.instanceMethod yX4_call : Cond) ∈ vG := vG5_in _ (List.mem_of_getElem? (i := 13) rfl)
theorem gm_214 : (.code yX4_call cX4_call 2 none : Cond) ∈ vG := vG5_in _ (List.mem_of_getElem? (i := 14) rfl)
theorem gm_215 : (.constantLong "LongMachine" 217 2 : Cond) ∈ vG := vG5_in _ (List.mem_of_getElem? (i := 15) rfl)
theorem gm_216 : (.methodLink "LongMachine" 173 yX4_refuse : Cond) ∈ vG := vG5_in _ (List.mem_of_getElem? (i := 16) rfl)
theorem gm_217 : (.instanceMethod yX4_refuse : Cond) ∈ vG := vG5_in _ (List.mem_of_getElem? (i := 17) rfl)
theorem gm_218 : (.code yX4_refuse cX4_refuse 2 none : Cond) ∈ vG := vG5_in _ (List.mem_of_getElem? (i := 18) rfl)
theorem gm_219 : (.methodLink "LongMachine" 219 yX4_kernelCall : Cond) ∈ vG := vG5_in _ (List.mem_of_getElem? (i := 19) rfl)
theorem gm_220 : (.instanceMethod yX4_kernelCall : Cond) ∈ vG := vG5_in _ (List.mem_of_getElem? (i := 20) rfl)
theorem gm_221 : (.code yX4_kernelCall cX4_kernelCall 4 none : Cond) ∈ vG := vG5_in _ (List.mem_of_getElem? (i := 21) rfl)
theorem gm_222 : (.methodLink "LongMachine" 222 yX4_changeSpace : Cond) ∈ vG := vG5_in _ (List.mem_of_getElem? (i := 22) rfl)
theorem gm_223 : (.instanceMethod yX4_changeSpace : Cond) ∈ vG := vG5_in _ (List.mem_of_getElem? (i := 23) rfl)
theorem gm_224 : (.code yX4_changeSpace cX4_changeSpace 1 none : Cond) ∈ vG := vG5_in _ (List.mem_of_getElem? (i := 24) rfl)
theorem gm_225 : (.methodLink "LongMachine" 225 yX2_emptyBuffer : Cond) ∈ vG := vG5_in _ (List.mem_of_getElem? (i := 25) rfl)
theorem gm_226 : (.instanceMethod yX2_emptyBuffer : Cond) ∈ vG := vG5_in _ (List.mem_of_getElem? (i := 26) rfl)
theorem gm_227 : (.selects "LongMachine$Memory" yX2_emptyBuffer yX2_emptyBuffer : Cond) ∈ vG := vG5_in _ (List.mem_of_getElem? (i := 27) rfl)
theorem gm_228 : (.code yX2_emptyBuffer cX2_emptyBuffer 1 none : Cond) ∈ vG := vG5_in _ (List.mem_of_getElem? (i := 28) rfl)
theorem gm_229 : (.methodLink "LongMachine" 228 yX4_changeVector : Cond) ∈ vG := vG5_in _ (List.mem_of_getElem? (i := 29) rfl)
theorem gm_230 : (.instanceMethod yX4_changeVector : Cond) ∈ vG := vG5_in _ (List.mem_of_getElem? (i := 30) rfl)
theorem gm_231 : (.code yX4_changeVector cX4_changeVector 2 none : Cond) ∈ vG := vG5_in _ (List.mem_of_getElem? (i := 31) rfl)
theorem gm_232 : (.methodLink "LongMachine" 101 yX4_status : Cond) ∈ vG := vG5_in _ (List.mem_of_getElem? (i := 32) rfl)
theorem gm_233 : (.instanceMethod yX4_status : Cond) ∈ vG := vG5_in _ (List.mem_of_getElem? (i := 33) rfl)
theorem gm_234 : (.code yX4_status cX4_status 1 (some .int) : Cond) ∈ vG := vG5_in _ (List.mem_of_getElem? (i := 34) rfl)
theorem gm_235 : (.methodLink "LongMachine" 231 yX0_comeBack : Cond) ∈ vG := vG5_in _ (List.mem_of_getElem? (i := 35) rfl)
theorem gm_236 : (.instanceMethod yX0_comeBack : Cond) ∈ vG := vG5_in _ (List.mem_of_getElem? (i := 36) rfl)
theorem gm_237 : (.selects "LongMachine$Crossing" yX0_comeBack yX0_comeBack : Cond) ∈ vG := vG5_in _ (List.mem_of_getElem? (i := 37) rfl)
theorem gm_238 : (.code yX0_comeBack cX0_comeBack 1 none : Cond) ∈ vG := vG5_in _ (List.mem_of_getElem? (i := 38) rfl)
theorem gm_239 : (.constantLong "LongMachine" 155 65536 : Cond) ∈ vG := vG5_in _ (List.mem_of_getElem? (i := 39) rfl)
theorem gm_240 : (.constantLong "LongMachine" 157 (-8) : Cond) ∈ vG := vG6_in _ (List.mem_of_getElem? (i := 0) rfl)
theorem gm_241 : (.methodLink "LongMachine" 159 yX4_reach : Cond) ∈ vG := vG6_in _ (List.mem_of_getElem? (i := 1) rfl)
theorem gm_242 : (.instanceMethod yX4_reach : Cond) ∈ vG := vG6_in _ (List.mem_of_getElem? (i := 2) rfl)
theorem gm_243 : (.code yX4_reach cX4_reach 9 none : Cond) ∈ vG := vG6_in _ (List.mem_of_getElem? (i := 3) rfl)
theorem gm_244 : (.methodLink "LongMachine" 192 yX2_store : Cond) ∈ vG := vG6_in _ (List.mem_of_getElem? (i := 4) rfl)
theorem gm_245 : (.instanceMethod yX2_store : Cond) ∈ vG := vG6_in _ (List.mem_of_getElem? (i := 5) rfl)
theorem gm_246 : (.selects "LongMachine$Memory" yX2_store yX2_store : Cond) ∈ vG := vG6_in _ (List.mem_of_getElem? (i := 6) rfl)
theorem gm_247 : (.code yX2_store cX2_store 10 none : Cond) ∈ vG := vG6_in _ (List.mem_of_getElem? (i := 7) rfl)
theorem gm_248 : (.constantLong "LongMachine$Memory" 25 (-1) : Cond) ∈ vG := vG6_in _ (List.mem_of_getElem? (i := 8) rfl)
theorem gm_249 : (.constantLong "LongMachine$Memory" 27 4294967295 : Cond) ∈ vG := vG6_in _ (List.mem_of_getElem? (i := 9) rfl)
theorem gm_250 : (.methodLink "LongMachine" 163 yX4_operate : Cond) ∈ vG := vG6_in _ (List.mem_of_getElem? (i := 10) rfl)
theorem gm_251 : (.instanceMethod yX4_operate : Cond) ∈ vG := vG6_in _ (List.mem_of_getElem? (i := 11) rfl)
theorem gm_252 : (.code yX4_operate cX4_operate 6 none : Cond) ∈ vG := vG6_in _ (List.mem_of_getElem? (i := 12) rfl)
theorem gm_253 : (.methodLink "LongMachine" 176 yX3_compute : Cond) ∈ vG := vG6_in _ (List.mem_of_getElem? (i := 13) rfl)
theorem gm_254 : (.instanceMethod yX3_compute : Cond) ∈ vG := vG6_in _ (List.mem_of_getElem? (i := 14) rfl)
theorem gm_255 : (.selects "LongMachine$Operation" yX3_compute yX3_compute : Cond) ∈ vG := vG6_in _ (List.mem_of_getElem? (i := 15) rfl)
theorem gm_256 : (.code yX3_compute cX3_compute 7 none : Cond) ∈ vG := vG6_in _ (List.mem_of_getElem? (i := 16) rfl)
theorem gm_257 : (.methodLink "LongMachine$Operation" 19 yX3_add : Cond) ∈ vG := vG6_in _ (List.mem_of_getElem? (i := 17) rfl)
theorem gm_258 : (.instanceMethod yX3_add : Cond) ∈ vG := vG6_in _ (List.mem_of_getElem? (i := 18) rfl)
theorem gm_259 : (.code yX3_add cX3_add 6 (some .long) : Cond) ∈ vG := vG6_in _ (List.mem_of_getElem? (i := 19) rfl)
theorem gm_260 : (.methodLink "LongMachine$Operation" 38 yX3_sx : Cond) ∈ vG := vG6_in _ (List.mem_of_getElem? (i := 20) rfl)
theorem gm_261 : (.static yX3_sx : Cond) ∈ vG := vG6_in _ (List.mem_of_getElem? (i := 21) rfl)
theorem gm_262 : (.code yX3_sx cX3_sx 2 (some .long) : Cond) ∈ vG := vG6_in _ (List.mem_of_getElem? (i := 22) rfl)
theorem gm_263 : (.constantLong "LongMachine$Operation" 42 4 : Cond) ∈ vG := vG6_in _ (List.mem_of_getElem? (i := 23) rfl)
theorem gm_264 : (.constantLong "LongMachine$Operation" 44 8 : Cond) ∈ vG := vG6_in _ (List.mem_of_getElem? (i := 24) rfl)
theorem gm_265 : (.methodLink "LongMachine$Operation" 46 yX3_trapIf : Cond) ∈ vG := vG6_in _ (List.mem_of_getElem? (i := 25) rfl)
theorem gm_266 : (.instanceMethod yX3_trapIf : Cond) ∈ vG := vG6_in _ (List.mem_of_getElem? (i := 26) rfl)
theorem gm_267 : (.code yX3_trapIf cX3_trapIf 4 (some .long) : Cond) ∈ vG := vG6_in _ (List.mem_of_getElem? (i := 27) rfl)
theorem gm_268 : (.methodLink "LongMachine$Operation" 50 yX3_truth : Cond) ∈ vG := vG6_in _ (List.mem_of_getElem? (i := 28) rfl)
theorem gm_269 : (.static yX3_truth : Cond) ∈ vG := vG6_in _ (List.mem_of_getElem? (i := 29) rfl)
theorem gm_270 : (.code yX3_truth cX3_truth 1 (some .long) : Cond) ∈ vG := vG6_in _ (List.mem_of_getElem? (i := 30) rfl)
theorem gm_271 : (.methodLink "LongMachine$Operation" 54 yX3_isBelow : Cond) ∈ vG := vG6_in _ (List.mem_of_getElem? (i := 31) rfl)
theorem gm_272 : (.static yX3_isBelow : Cond) ∈ vG := vG6_in _ (List.mem_of_getElem? (i := 32) rfl)
theorem gm_273 : (.code yX3_isBelow cX3_isBelow 4 (some .boolean) : Cond) ∈ vG := vG6_in _ (List.mem_of_getElem? (i := 33) rfl)
theorem gm_274 : (.constantLong "LongMachine$Operation" 36 (-9223372036854775808) : Cond) ∈ vG := vG6_in _ (List.mem_of_getElem? (i := 34) rfl)
theorem gm_275 : (.methodLink "LongMachine$Operation" 58 yX3_bytesNotLess : Cond) ∈ vG := vG6_in _ (List.mem_of_getElem? (i := 35) rfl)
theorem gm_276 : (.static yX3_bytesNotLess : Cond) ∈ vG := vG6_in _ (List.mem_of_getElem? (i := 36) rfl)
theorem gm_277 : (.code yX3_bytesNotLess cX3_bytesNotLess 7 (some .long) : Cond) ∈ vG := vG6_in _ (List.mem_of_getElem? (i := 37) rfl)
theorem gm_278 : (.constantLong "LongMachine$Operation" 62 255 : Cond) ∈ vG := vG6_in _ (List.mem_of_getElem? (i := 38) rfl)
theorem gm_279 : (.methodLink "LongMachine$Operation" 27 yX3_combine : Cond) ∈ vG := vG6_in _ (List.mem_of_getElem? (i := 39) rfl)
theorem gm_280 : (.instanceMethod yX3_combine : Cond) ∈ vG := vG7_in _ (List.mem_of_getElem? (i := 0) rfl)
theorem gm_281 : (.code yX3_combine cX3_combine 6 (some .long) : Cond) ∈ vG := vG7_in _ (List.mem_of_getElem? (i := 1) rfl)
theorem gm_282 : (.constantLong "LongMachine$Operation" 64 (-1) : Cond) ∈ vG := vG7_in _ (List.mem_of_getElem? (i := 2) rfl)
theorem gm_283 : (.methodLink "LongMachine$Operation" 66 yX3_onlyIf : Cond) ∈ vG := vG7_in _ (List.mem_of_getElem? (i := 3) rfl)
theorem gm_284 : (.instanceMethod yX3_onlyIf : Cond) ∈ vG := vG7_in _ (List.mem_of_getElem? (i := 4) rfl)
theorem gm_285 : (.code yX3_onlyIf cX3_onlyIf 4 (some .long) : Cond) ∈ vG := vG7_in _ (List.mem_of_getElem? (i := 5) rfl)
theorem gm_286 : (.methodLink "LongMachine$Operation" 30 yX3_shift : Cond) ∈ vG := vG7_in _ (List.mem_of_getElem? (i := 6) rfl)
theorem gm_287 : (.instanceMethod yX3_shift : Cond) ∈ vG := vG7_in _ (List.mem_of_getElem? (i := 7) rfl)
theorem gm_288 : (.code yX3_shift cX3_shift 10 (some .long) : Cond) ∈ vG := vG7_in _ (List.mem_of_getElem? (i := 8) rfl)
theorem gm_289 : (.methodLink "LongMachine$Operation" 69 yX3_bytesOf : Cond) ∈ vG := vG7_in _ (List.mem_of_getElem? (i := 9) rfl)
theorem gm_290 : (.static yX3_bytesOf : Cond) ∈ vG := vG7_in _ (List.mem_of_getElem? (i := 10) rfl)
theorem gm_291 : (.code yX3_bytesOf cX3_bytesOf 5 (some .long) : Cond) ∈ vG := vG7_in _ (List.mem_of_getElem? (i := 11) rfl)
theorem gm_292 : (.methodLink "LongMachine$Operation" 72 yX3_lowPart : Cond) ∈ vG := vG7_in _ (List.mem_of_getElem? (i := 12) rfl)
theorem gm_293 : (.instanceMethod yX3_lowPart : Cond) ∈ vG := vG7_in _ (List.mem_of_getElem? (i := 13) rfl)
theorem gm_294 : (.code yX3_lowPart cX3_lowPart 7 (some .long) : Cond) ∈ vG := vG7_in _ (List.mem_of_getElem? (i := 14) rfl)
theorem gm_295 : (.methodLink "LongMachine$Operation" 76 yX3_highPart : Cond) ∈ vG := vG7_in _ (List.mem_of_getElem? (i := 15) rfl)
theorem gm_296 : (.instanceMethod yX3_highPart : Cond) ∈ vG := vG7_in _ (List.mem_of_getElem? (i := 16) rfl)
theorem gm_297 : (.code yX3_highPart cX3_highPart 7 (some .long) : Cond) ∈ vG := vG7_in _ (List.mem_of_getElem? (i := 17) rfl)
theorem gm_298 : (.methodLink "LongMachine$Operation" 33 yX3_multiply : Cond) ∈ vG := vG7_in _ (List.mem_of_getElem? (i := 18) rfl)
theorem gm_299 : (.instanceMethod yX3_multiply : Cond) ∈ vG := vG7_in _ (List.mem_of_getElem? (i := 19) rfl)
theorem gm_300 : (.code yX3_multiply cX3_multiply 6 (some .long) : Cond) ∈ vG := vG7_in _ (List.mem_of_getElem? (i := 20) rfl)
theorem gm_301 : (.methodLink "LongMachine$Operation" 79 yX3_upper : Cond) ∈ vG := vG7_in _ (List.mem_of_getElem? (i := 21) rfl)
theorem gm_302 : (.static yX3_upper : Cond) ∈ vG := vG7_in _ (List.mem_of_getElem? (i := 22) rfl)
theorem gm_303 : (.code yX3_upper cX3_upper 16 (some .long) : Cond) ∈ vG := vG7_in _ (List.mem_of_getElem? (i := 23) rfl)
theorem gm_304 : (.constantLong "LongMachine$Operation" 86 4294967295 : Cond) ∈ vG := vG7_in _ (List.mem_of_getElem? (i := 24) rfl)
theorem gm_305 : (.methodLink "LongMachine$Operation" 82 yX3_signedUpper : Cond) ∈ vG := vG7_in _ (List.mem_of_getElem? (i := 25) rfl)
theorem gm_306 : (.static yX3_signedUpper : Cond) ∈ vG := vG7_in _ (List.mem_of_getElem? (i := 26) rfl)
theorem gm_307 : (.code yX3_signedUpper cX3_signedUpper 6 (some .long) : Cond) ∈ vG := vG7_in _ (List.mem_of_getElem? (i := 27) rfl)
theorem gm_308 : (.methodLink "LongMachine" 166 yX4_branch : Cond) ∈ vG := vG7_in _ (List.mem_of_getElem? (i := 28) rfl)
theorem gm_309 : (.instanceMethod yX4_branch : Cond) ∈ vG := vG7_in _ (List.mem_of_getElem? (i := 29) rfl)
theorem gm_310 : (.code yX4_branch cX4_branch 4 none : Cond) ∈ vG := vG7_in _ (List.mem_of_getElem? (i := 30) rfl)
theorem gm_311 : (.methodLink "LongMachine" 169 yX4_isTaken : Cond) ∈ vG := vG7_in _ (List.mem_of_getElem? (i := 31) rfl)
theorem gm_312 : (.static yX4_isTaken : Cond) ∈ vG := vG7_in _ (List.mem_of_getElem? (i := 32) rfl)
theorem gm_313 : (.code yX4_isTaken cX4_isTaken 3 (some .boolean) : Cond) ∈ vG := vG7_in _ (List.mem_of_getElem? (i := 33) rfl)
theorem gm_314 : (.methodLink "LongMachine" 147 yX4_enter : Cond) ∈ vG := vG7_in _ (List.mem_of_getElem? (i := 34) rfl)
theorem gm_315 : (.instanceMethod yX4_enter : Cond) ∈ vG := vG7_in _ (List.mem_of_getElem? (i := 35) rfl)
theorem gm_316 : (.code yX4_enter cX4_enter 1 none : Cond) ∈ vG := vG7_in _ (List.mem_of_getElem? (i := 36) rfl)
theorem gm_317 : (.methodLink "LongMachine" 196 yX4_fillFrame : Cond) ∈ vG := vG7_in _ (List.mem_of_getElem? (i := 37) rfl)
theorem gm_318 : (.instanceMethod yX4_fillFrame : Cond) ∈ vG := vG7_in _ (List.mem_of_getElem? (i := 38) rfl)
theorem gm_319 : (.code yX4_fillFrame cX4_fillFrame 1 none : Cond) ∈ vG := vG7_in _ (List.mem_of_getElem? (i := 39) rfl)
theorem gm_320 : (.constantLong "LongMachine" 199 48 : Cond) ∈ vG := vG8_in _ (List.mem_of_getElem? (i := 0) rfl)
theorem gm_321 : (.methodLink "LongMachine" 201 yX4_moveFrame : Cond) ∈ vG := vG8_in _ (List.mem_of_getElem? (i := 1) rfl)
theorem gm_322 : (.instanceMethod yX4_moveFrame : Cond) ∈ vG := vG8_in _ (List.mem_of_getElem? (i := 2) rfl)
theorem gm_323 : (.code yX4_moveFrame cX4_moveFrame 6 (some .boolean) : Cond) ∈ vG := vG8_in _ (List.mem_of_getElem? (i := 3) rfl)
theorem gm_324 : (.constantLong "LongMachine" 215 7 : Cond) ∈ vG := vG8_in _ (List.mem_of_getElem? (i := 4) rfl)
theorem gm_325 : (.methodLink "LongMachine" 149 yX4_comeBack : Cond) ∈ vG := vG8_in _ (List.mem_of_getElem? (i := 5) rfl)
theorem gm_326 : (.instanceMethod yX4_comeBack : Cond) ∈ vG := vG8_in _ (List.mem_of_getElem? (i := 6) rfl)
theorem gm_327 : (.code yX4_comeBack cX4_comeBack 1 none : Cond) ∈ vG := vG8_in _ (List.mem_of_getElem? (i := 7) rfl)
theorem gm_328 : (.methodLink "LongMachineLaw" 34 yX4_register : Cond) ∈ vG := vG8_in _ (List.mem_of_getElem? (i := 8) rfl)
theorem gm_329 : (.instanceMethod yX4_register : Cond) ∈ vG := vG8_in _ (List.mem_of_getElem? (i := 9) rfl)
theorem gm_330 : (.selects "LongMachine" yX4_register yX4_register : Cond) ∈ vG := vG8_in _ (List.mem_of_getElem? (i := 10) rfl)
theorem gm_331 : (.code yX4_register cX4_register 2 (some .long) : Cond) ∈ vG := vG8_in _ (List.mem_of_getElem? (i := 11) rfl)
theorem gm_332 : (.methodLink "LongMachineLaw" 39 yX4_word : Cond) ∈ vG := vG8_in _ (List.mem_of_getElem? (i := 12) rfl)
theorem gm_333 : (.instanceMethod yX4_word : Cond) ∈ vG := vG8_in _ (List.mem_of_getElem? (i := 13) rfl)
theorem gm_334 : (.selects "LongMachine" yX4_word yX4_word : Cond) ∈ vG := vG8_in _ (List.mem_of_getElem? (i := 14) rfl)
theorem gm_335 : (.code yX4_word cX4_word 2 (some .long) : Cond) ∈ vG := vG8_in _ (List.mem_of_getElem? (i := 15) rfl)
theorem gm_336 : (.methodLink "LongMachineLaw" 43 yX4_state : Cond) ∈ vG := vG8_in _ (List.mem_of_getElem? (i := 16) rfl)
theorem gm_337 : (.instanceMethod yX4_state : Cond) ∈ vG := vG8_in _ (List.mem_of_getElem? (i := 17) rfl)
theorem gm_338 : (.selects "LongMachine" yX4_state yX4_state : Cond) ∈ vG := vG8_in _ (List.mem_of_getElem? (i := 18) rfl)
theorem gm_339 : (.code yX4_state cX4_state 2 (some .int) : Cond) ∈ vG := vG8_in _ (List.mem_of_getElem? (i := 19) rfl)
theorem gm_340 : (.classLink "LongMachineLaw" 10 "LongMachineModel" : Cond) ∈ vG := vG8_in _ (List.mem_of_getElem? (i := 20) rfl)
theorem gm_341 : (.instantiable "LongMachineModel" 28 : Cond) ∈ vG := vG8_in _ (List.mem_of_getElem? (i := 21) rfl)
theorem gm_342 : (.methodLink "LongMachineLaw" 12 yY_init : Cond) ∈ vG := vG8_in _ (List.mem_of_getElem? (i := 22) rfl)
theorem gm_343 : (.instanceMethod yY_init : Cond) ∈ vG := vG8_in _ (List.mem_of_getElem? (i := 23) rfl)
theorem gm_344 : (.code yY_init cY_init 1 none : Cond) ∈ vG := vG8_in _ (List.mem_of_getElem? (i := 24) rfl)
theorem gm_345 : (.methodLink "LongMachineModel" 1 objectInit : Cond) ∈ vG := vG8_in _ (List.mem_of_getElem? (i := 25) rfl)
theorem gm_346 : (.fieldLink "LongMachineModel" 7 "LongMachineModel" "memory" "[I" : Cond) ∈ vG := vG8_in _ (List.mem_of_getElem? (i := 26) rfl)
theorem gm_347 : (.fieldLink "LongMachineModel" 13 "LongMachineModel" "\x72" "[J" : Cond) ∈ vG := vG8_in _ (List.mem_of_getElem? (i := 27) rfl)
theorem gm_348 : (.fieldLink "LongMachineModel" 116 "LongMachineModel" "pc" "J" : Cond) ∈ vG := vG8_in _ (List.mem_of_getElem? (i := 28) rfl)
theorem gm_349 : (.fieldLink "LongMachineModel" 76 "LongMachineModel" "mode" "I" : Cond) ∈ vG := vG8_in _ (List.mem_of_getElem? (i := 29) rfl)
theorem gm_350 : (.fieldLink "LongMachineModel" 17 "LongMachineModel" "level" "I" : Cond) ∈ vG := vG8_in _ (List.mem_of_getElem? (i := 30) rfl)
theorem gm_351 : (.fieldLink "LongMachineModel" 112 "LongMachineModel" "lock" "Z" : Cond) ∈ vG := vG8_in _ (List.mem_of_getElem? (i := 31) rfl)
theorem gm_352 : (.fieldLink "LongMachineModel" 91 "LongMachineModel" "ksp" "J" : Cond) ∈ vG := vG8_in _ (List.mem_of_getElem? (i := 32) rfl)
theorem gm_353 : (.fieldLink "LongMachineModel" 87 "LongMachineModel" "usp" "J" : Cond) ∈ vG := vG8_in _ (List.mem_of_getElem? (i := 33) rfl)
theorem gm_354 : (.fieldLink "LongMachineModel" 109 "LongMachineModel" "kgp" "J" : Cond) ∈ vG := vG8_in _ (List.mem_of_getElem? (i := 34) rfl)
theorem gm_355 : (.fieldLink "LongMachineModel" 216 "LongMachineModel" "value" "J" : Cond) ∈ vG := vG8_in _ (List.mem_of_getElem? (i := 35) rfl)
theorem gm_356 : (.fieldLink "LongMachineModel" 52 "LongMachineModel" "table" "I" : Cond) ∈ vG := vG8_in _ (List.mem_of_getElem? (i := 36) rfl)
theorem gm_357 : (.fieldLink "LongMachineModel" 47 "LongMachineModel" "space" "I" : Cond) ∈ vG := vG8_in _ (List.mem_of_getElem? (i := 37) rfl)
theorem gm_358 : (.fieldLink "LongMachineModel" 21 "LongMachineModel" "vector" "[J" : Cond) ∈ vG := vG8_in _ (List.mem_of_getElem? (i := 38) rfl)
theorem gm_359 : (.fieldLink "LongMachineModel" 106 "LongMachineModel" "halted" "I" : Cond) ∈ vG := vG8_in _ (List.mem_of_getElem? (i := 39) rfl)
theorem gm_360 : (.fieldLink "LongMachineModel" 119 "LongMachineModel" "entries" "I" : Cond) ∈ vG := vG9_in _ (List.mem_of_getElem? (i := 0) rfl)
theorem gm_361 : (.fieldLink "LongMachineModel" 221 "LongMachineModel" "pending" "I" : Cond) ∈ vG := vG9_in _ (List.mem_of_getElem? (i := 1) rfl)
theorem gm_362 : (.fieldLink "LongMachineModel" 24 "LongMachineModel" "pendingLevel" "[I" : Cond) ∈ vG := vG9_in _ (List.mem_of_getElem? (i := 2) rfl)
theorem gm_363 : (.fieldLink "LongMachineModel" 27 "LongMachineModel" "pendingNumber" "[I" : Cond) ∈ vG := vG9_in _ (List.mem_of_getElem? (i := 3) rfl)
theorem gm_364 : (.fieldLink "LongMachineModel" 44 "LongMachineModel" "buffered" "I" : Cond) ∈ vG := vG9_in _ (List.mem_of_getElem? (i := 4) rfl)
theorem gm_365 : (.fieldLink "LongMachineModel" 30 "LongMachineModel" "bufferPage" "[I" : Cond) ∈ vG := vG9_in _ (List.mem_of_getElem? (i := 5) rfl)
theorem gm_366 : (.fieldLink "LongMachineModel" 33 "LongMachineModel" "bufferSpace" "[I" : Cond) ∈ vG := vG9_in _ (List.mem_of_getElem? (i := 6) rfl)
theorem gm_367 : (.fieldLink "LongMachineModel" 36 "LongMachineModel" "bufferWord" "[J" : Cond) ∈ vG := vG9_in _ (List.mem_of_getElem? (i := 7) rfl)
theorem gm_368 : (.fieldLink "LongMachineModel" 122 "LongMachineModel" "here" "J" : Cond) ∈ vG := vG9_in _ (List.mem_of_getElem? (i := 8) rfl)
theorem gm_369 : (.fieldLink "LongMachineModel" 171 "LongMachineModel" "word" "I" : Cond) ∈ vG := vG9_in _ (List.mem_of_getElem? (i := 9) rfl)
theorem gm_370 : (.fieldLink "LongMachineModel" 151 "LongMachineModel" "has" "Z" : Cond) ∈ vG := vG9_in _ (List.mem_of_getElem? (i := 10) rfl)
theorem gm_371 : (.fieldLink "LongMachineModel" 146 "LongMachineModel" "trap" "Z" : Cond) ∈ vG := vG9_in _ (List.mem_of_getElem? (i := 11) rfl)
theorem gm_372 : (.fieldLink "LongMachineModel" 143 "LongMachineModel" "none" "Z" : Cond) ∈ vG := vG9_in _ (List.mem_of_getElem? (i := 12) rfl)
theorem gm_373 : (.fieldLink "LongMachineModel" 39 "LongMachineModel" "six" "[J" : Cond) ∈ vG := vG9_in _ (List.mem_of_getElem? (i := 13) rfl)
theorem gm_374 : (.laysFinal "LongMachineModel" "LongMachineModel" "memory" "[I" : Cond) ∈ vG := vG9_in _ (List.mem_of_getElem? (i := 14) rfl)
theorem gm_375 : (.laysFinal "LongMachineModel" "LongMachineModel" "\x72" "[J" : Cond) ∈ vG := vG9_in _ (List.mem_of_getElem? (i := 15) rfl)
theorem gm_376 : (.lays "LongMachineModel" "LongMachineModel" "pc" "J" : Cond) ∈ vG := vG9_in _ (List.mem_of_getElem? (i := 16) rfl)
theorem gm_377 : (.lays "LongMachineModel" "LongMachineModel" "mode" "I" : Cond) ∈ vG := vG9_in _ (List.mem_of_getElem? (i := 17) rfl)
theorem gm_378 : (.lays "LongMachineModel" "LongMachineModel" "level" "I" : Cond) ∈ vG := vG9_in _ (List.mem_of_getElem? (i := 18) rfl)
theorem gm_379 : (.lays "LongMachineModel" "LongMachineModel" "lock" "Z" : Cond) ∈ vG := vG9_in _ (List.mem_of_getElem? (i := 19) rfl)
theorem gm_380 : (.lays "LongMachineModel" "LongMachineModel" "ksp" "J" : Cond) ∈ vG := vG9_in _ (List.mem_of_getElem? (i := 20) rfl)
theorem gm_381 : (.lays "LongMachineModel" "LongMachineModel" "usp" "J" : Cond) ∈ vG := vG9_in _ (List.mem_of_getElem? (i := 21) rfl)
theorem gm_382 : (.lays "LongMachineModel" "LongMachineModel" "kgp" "J" : Cond) ∈ vG := vG9_in _ (List.mem_of_getElem? (i := 22) rfl)
theorem gm_383 : (.lays "LongMachineModel" "LongMachineModel" "value" "J" : Cond) ∈ vG := vG9_in _ (List.mem_of_getElem? (i := 23) rfl)
theorem gm_384 : (.lays "LongMachineModel" "LongMachineModel" "table" "I" : Cond) ∈ vG := vG9_in _ (List.mem_of_getElem? (i := 24) rfl)
theorem gm_385 : (.lays "LongMachineModel" "LongMachineModel" "space" "I" : Cond) ∈ vG := vG9_in _ (List.mem_of_getElem? (i := 25) rfl)
theorem gm_386 : (.laysFinal "LongMachineModel" "LongMachineModel" "vector" "[J" : Cond) ∈ vG := vG9_in _ (List.mem_of_getElem? (i := 26) rfl)
theorem gm_387 : (.lays "LongMachineModel" "LongMachineModel" "halted" "I" : Cond) ∈ vG := vG9_in _ (List.mem_of_getElem? (i := 27) rfl)
theorem gm_388 : (.lays "LongMachineModel" "LongMachineModel" "entries" "I" : Cond) ∈ vG := vG9_in _ (List.mem_of_getElem? (i := 28) rfl)
theorem gm_389 : (.lays "LongMachineModel" "LongMachineModel" "pending" "I" : Cond) ∈ vG := vG9_in _ (List.mem_of_getElem? (i := 29) rfl)
theorem gm_390 : (.laysFinal "LongMachineModel" "LongMachineModel" "pendingLevel" "[I" : Cond) ∈ vG := vG9_in _ (List.mem_of_getElem? (i := 30) rfl)
theorem gm_391 : (.laysFinal "LongMachineModel" "LongMachineModel" "pendingNumber" "[I" : Cond) ∈ vG := vG9_in _ (List.mem_of_getElem? (i := 31) rfl)
theorem gm_392 : (.lays "LongMachineModel" "LongMachineModel" "buffered" "I" : Cond) ∈ vG := vG9_in _ (List.mem_of_getElem? (i := 32) rfl)
theorem gm_393 : (.laysFinal "LongMachineModel" "LongMachineModel" "bufferPage" "[I" : Cond) ∈ vG := vG9_in _ (List.mem_of_getElem? (i := 33) rfl)
theorem gm_394 : (.laysFinal "LongMachineModel" "LongMachineModel" "bufferSpace" "[I" : Cond) ∈ vG := vG9_in _ (List.mem_of_getElem? (i := 34) rfl)
theorem gm_395 : (.laysFinal "LongMachineModel" "LongMachineModel" "bufferWord" "[J" : Cond) ∈ vG := vG9_in _ (List.mem_of_getElem? (i := 35) rfl)
theorem gm_396 : (.lays "LongMachineModel" "LongMachineModel" "here" "J" : Cond) ∈ vG := vG9_in _ (List.mem_of_getElem? (i := 36) rfl)
theorem gm_397 : (.lays "LongMachineModel" "LongMachineModel" "word" "I" : Cond) ∈ vG := vG9_in _ (List.mem_of_getElem? (i := 37) rfl)
theorem gm_398 : (.lays "LongMachineModel" "LongMachineModel" "has" "Z" : Cond) ∈ vG := vG9_in _ (List.mem_of_getElem? (i := 38) rfl)
theorem gm_399 : (.lays "LongMachineModel" "LongMachineModel" "trap" "Z" : Cond) ∈ vG := vG9_in _ (List.mem_of_getElem? (i := 39) rfl)
theorem gm_400 : (.lays "LongMachineModel" "LongMachineModel" "none" "Z" : Cond) ∈ vG := vG10_in _ (List.mem_of_getElem? (i := 0) rfl)
theorem gm_401 : (.laysFinal "LongMachineModel" "LongMachineModel" "six" "[J" : Cond) ∈ vG := vG10_in _ (List.mem_of_getElem? (i := 1) rfl)
theorem gm_402 : (.methodLink "LongMachineLaw" 33 yY_run : Cond) ∈ vG := vG10_in _ (List.mem_of_getElem? (i := 2) rfl)
theorem gm_403 : (.instanceMethod yY_run : Cond) ∈ vG := vG10_in _ (List.mem_of_getElem? (i := 3) rfl)
theorem gm_404 : (.selects "LongMachineModel" yY_run yY_run : Cond) ∈ vG := vG10_in _ (List.mem_of_getElem? (i := 4) rfl)
theorem gm_405 : (.code yY_run cY_run 3 (some .int) : Cond) ∈ vG := vG10_in _ (List.mem_of_getElem? (i := 5) rfl)
theorem gm_406 : (.methodLink "LongMachineModel" 245 yY_step : Cond) ∈ vG := vG10_in _ (List.mem_of_getElem? (i := 6) rfl)
theorem gm_407 : (.instanceMethod yY_step : Cond) ∈ vG := vG10_in _ (List.mem_of_getElem? (i := 7) rfl)
theorem gm_408 : (.code yY_step cY_step 6 none : Cond) ∈ vG := vG10_in _ (List.mem_of_getElem? (i := 8) rfl)
theorem gm_409 : (.methodLink "LongMachineModel" 224 yY_due : Cond) ∈ vG := vG10_in _ (List.mem_of_getElem? (i := 9) rfl)
theorem gm_410 : (.instanceMethod yY_due : Cond) ∈ vG := vG10_in _ (List.mem_of_getElem? (i := 10) rfl)
theorem gm_411 : (.code yY_due cY_due 3 (some .int) : Cond) ∈ vG := vG10_in _ (List.mem_of_getElem? (i := 11) rfl)
theorem gm_412 : (.methodLink "LongMachineModel" 228 yY_interrupted : Cond) ∈ vG := vG10_in _ (List.mem_of_getElem? (i := 12) rfl)
theorem gm_413 : (.instanceMethod yY_interrupted : Cond) ∈ vG := vG10_in _ (List.mem_of_getElem? (i := 13) rfl)
theorem gm_414 : (.code yY_interrupted cY_interrupted 5 none : Cond) ∈ vG := vG10_in _ (List.mem_of_getElem? (i := 14) rfl)
theorem gm_415 : (.methodLink "LongMachineModel" 125 yY_entry : Cond) ∈ vG := vG10_in _ (List.mem_of_getElem? (i := 15) rfl)
theorem gm_416 : (.instanceMethod yY_entry : Cond) ∈ vG := vG10_in _ (List.mem_of_getElem? (i := 16) rfl)
theorem gm_417 : (.code yY_entry cY_entry 14 none : Cond) ∈ vG := vG10_in _ (List.mem_of_getElem? (i := 17) rfl)
theorem gm_418 : (.constantLong "LongMachineModel" 94 8 : Cond) ∈ vG := vG10_in _ (List.mem_of_getElem? (i := 18) rfl)
theorem gm_419 : (.constantLong "LongMachineModel" 96 48 : Cond) ∈ vG := vG10_in _ (List.mem_of_getElem? (i := 19) rfl)
theorem gm_420 : (.methodLink "LongMachineModel" 98 yY_translate : Cond) ∈ vG := vG10_in _ (List.mem_of_getElem? (i := 20) rfl)
theorem gm_421 : (.instanceMethod yY_translate : Cond) ∈ vG := vG10_in _ (List.mem_of_getElem? (i := 21) rfl)
theorem gm_422 : (.code yY_translate cY_translate 11 (some .int) : Cond) ∈ vG := vG10_in _ (List.mem_of_getElem? (i := 22) rfl)
theorem gm_423 : (.constantLong "LongMachineModel" 69 65535 : Cond) ∈ vG := vG10_in _ (List.mem_of_getElem? (i := 23) rfl)
theorem gm_424 : (.constantLong "LongMachineModel" 71 16383 : Cond) ∈ vG := vG10_in _ (List.mem_of_getElem? (i := 24) rfl)
theorem gm_425 : (.constantLong "LongMachineModel" 73 32768 : Cond) ∈ vG := vG10_in _ (List.mem_of_getElem? (i := 25) rfl)
theorem gm_426 : (.constant "LongMachineModel" 75 36864 : Cond) ∈ vG := vG10_in _ (List.mem_of_getElem? (i := 26) rfl)
theorem gm_427 : (.constant "LongMachineModel" 79 32768 : Cond) ∈ vG := vG10_in _ (List.mem_of_getElem? (i := 27) rfl)
theorem gm_428 : (.methodLink "LongMachineModel" 80 yY_buffered : Cond) ∈ vG := vG10_in _ (List.mem_of_getElem? (i := 28) rfl)
theorem gm_429 : (.instanceMethod yY_buffered : Cond) ∈ vG := vG10_in _ (List.mem_of_getElem? (i := 29) rfl)
theorem gm_430 : (.code yY_buffered cY_buffered 3 (some .int) : Cond) ∈ vG := vG10_in _ (List.mem_of_getElem? (i := 30) rfl)
theorem gm_431 : (.methodLink "LongMachineModel" 83 yY_walk : Cond) ∈ vG := vG10_in _ (List.mem_of_getElem? (i := 31) rfl)
theorem gm_432 : (.instanceMethod yY_walk : Cond) ∈ vG := vG10_in _ (List.mem_of_getElem? (i := 32) rfl)
theorem gm_433 : (.code yY_walk cY_walk 6 (some .long) : Cond) ∈ vG := vG10_in _ (List.mem_of_getElem? (i := 33) rfl)
theorem gm_434 : (.methodLink "LongMachineModel" 55 yY_bytes : Cond) ∈ vG := vG10_in _ (List.mem_of_getElem? (i := 34) rfl)
theorem gm_435 : (.instanceMethod yY_bytes : Cond) ∈ vG := vG10_in _ (List.mem_of_getElem? (i := 35) rfl)
theorem gm_436 : (.code yY_bytes cY_bytes 6 (some .long) : Cond) ∈ vG := vG10_in _ (List.mem_of_getElem? (i := 36) rfl)
theorem gm_437 : (.constantLong "LongMachineModel" 59 240 : Cond) ∈ vG := vG10_in _ (List.mem_of_getElem? (i := 37) rfl)
theorem gm_438 : (.methodLink "LongMachineModel" 61 yY_number : Cond) ∈ vG := vG10_in _ (List.mem_of_getElem? (i := 38) rfl)
theorem gm_439 : (.static yY_number : Cond) ∈ vG := vG10_in _ (List.mem_of_getElem? (i := 39) rfl)
theorem gm_440 : (.code yY_number cY_number 2 (some .int) : Cond) ∈ vG := vG11_in _ (List.mem_of_getElem? (i := 0) rfl)
theorem gm_441 : (.constantLong "LongMachineModel" 50 15 : Cond) ∈ vG := vG11_in _ (List.mem_of_getElem? (i := 1) rfl)
theorem gm_442 : (.methodLink "LongMachineModel" 65 yY_keep : Cond) ∈ vG := vG11_in _ (List.mem_of_getElem? (i := 2) rfl)
theorem gm_443 : (.instanceMethod yY_keep : Cond) ∈ vG := vG11_in _ (List.mem_of_getElem? (i := 3) rfl)
theorem gm_444 : (.code yY_keep cY_keep 5 none : Cond) ∈ vG := vG11_in _ (List.mem_of_getElem? (i := 4) rfl)
theorem gm_445 : (.methodLink "LongMachineModel" 102 yY_store : Cond) ∈ vG := vG11_in _ (List.mem_of_getElem? (i := 5) rfl)
theorem gm_446 : (.instanceMethod yY_store : Cond) ∈ vG := vG11_in _ (List.mem_of_getElem? (i := 6) rfl)
theorem gm_447 : (.code yY_store cY_store 6 none : Cond) ∈ vG := vG11_in _ (List.mem_of_getElem? (i := 7) rfl)
theorem gm_448 : (.constantLong "LongMachineModel" 42 255 : Cond) ∈ vG := vG11_in _ (List.mem_of_getElem? (i := 8) rfl)
theorem gm_449 : (.methodLink "LongMachineModel" 196 yY_fault : Cond) ∈ vG := vG11_in _ (List.mem_of_getElem? (i := 9) rfl)
theorem gm_450 : (.instanceMethod yY_fault : Cond) ∈ vG := vG11_in _ (List.mem_of_getElem? (i := 10) rfl)
theorem gm_451 : (.code yY_fault cY_fault 5 none : Cond) ∈ vG := vG11_in _ (List.mem_of_getElem? (i := 11) rfl)
theorem gm_452 : (.constantLong "LongMachineModel" 133 4 : Cond) ∈ vG := vG11_in _ (List.mem_of_getElem? (i := 12) rfl)
theorem gm_453 : (.methodLink "LongMachineModel" 231 yY_call : Cond) ∈ vG := vG11_in _ (List.mem_of_getElem? (i := 13) rfl)
theorem gm_454 : (.instanceMethod yY_call : Cond) ∈ vG := vG11_in _ (List.mem_of_getElem? (i := 14) rfl)
theorem gm_455 : (.code yY_call cY_call 3 none : Cond) ∈ vG := vG11_in _ (List.mem_of_getElem? (i := 15) rfl)
theorem gm_456 : (.constantLong "LongMachineModel" 204 2 : Cond) ∈ vG := vG11_in _ (List.mem_of_getElem? (i := 16) rfl)
theorem gm_457 : (.methodLink "LongMachineModel" 187 yY_wrong : Cond) ∈ vG := vG11_in _ (List.mem_of_getElem? (i := 17) rfl)
theorem gm_458 : (.instanceMethod yY_wrong : Cond) ∈ vG := vG11_in _ (List.mem_of_getElem? (i := 18) rfl)
theorem gm_459 : (.code yY_wrong cY_wrong 2 none : Cond) ∈ vG := vG11_in _ (List.mem_of_getElem? (i := 19) rfl)
theorem gm_460 : (.methodLink "LongMachineModel" 206 yY_own : Cond) ∈ vG := vG11_in _ (List.mem_of_getElem? (i := 20) rfl)
theorem gm_461 : (.instanceMethod yY_own : Cond) ∈ vG := vG11_in _ (List.mem_of_getElem? (i := 21) rfl)
theorem gm_462 : (.code yY_own cY_own 4 none : Cond) ∈ vG := vG11_in _ (List.mem_of_getElem? (i := 22) rfl)
theorem gm_463 : (.methodLink "LongMachineModel" 209 yY_back : Cond) ∈ vG := vG11_in _ (List.mem_of_getElem? (i := 23) rfl)
theorem gm_464 : (.instanceMethod yY_back : Cond) ∈ vG := vG11_in _ (List.mem_of_getElem? (i := 24) rfl)
theorem gm_465 : (.code yY_back cY_back 4 none : Cond) ∈ vG := vG11_in _ (List.mem_of_getElem? (i := 25) rfl)
theorem gm_466 : (.constantLong "LongMachineModel" 154 7 : Cond) ∈ vG := vG11_in _ (List.mem_of_getElem? (i := 26) rfl)
theorem gm_467 : (.constantLong "LongMachineModel" 214 (-4) : Cond) ∈ vG := vG11_in _ (List.mem_of_getElem? (i := 27) rfl)
theorem gm_468 : (.constantLong "LongMachineModel" 212 6 : Cond) ∈ vG := vG11_in _ (List.mem_of_getElem? (i := 28) rfl)
theorem gm_469 : (.constantLong "LongMachineModel" 219 4064 : Cond) ∈ vG := vG11_in _ (List.mem_of_getElem? (i := 29) rfl)
theorem gm_470 : (.methodLink "LongMachineModel" 234 yY_operate : Cond) ∈ vG := vG11_in _ (List.mem_of_getElem? (i := 30) rfl)
theorem gm_471 : (.instanceMethod yY_operate : Cond) ∈ vG := vG11_in _ (List.mem_of_getElem? (i := 31) rfl)
theorem gm_472 : (.code yY_operate cY_operate 9 none : Cond) ∈ vG := vG11_in _ (List.mem_of_getElem? (i := 32) rfl)
theorem gm_473 : (.methodLink "LongMachineModel" 174 yY_sums : Cond) ∈ vG := vG11_in _ (List.mem_of_getElem? (i := 33) rfl)
theorem gm_474 : (.instanceMethod yY_sums : Cond) ∈ vG := vG11_in _ (List.mem_of_getElem? (i := 34) rfl)
theorem gm_475 : (.code yY_sums cY_sums 9 (some .long) : Cond) ∈ vG := vG11_in _ (List.mem_of_getElem? (i := 35) rfl)
theorem gm_476 : (.methodLink "LongMachineModel" 129 yY_sx : Cond) ∈ vG := vG11_in _ (List.mem_of_getElem? (i := 36) rfl)
theorem gm_477 : (.static yY_sx : Cond) ∈ vG := vG11_in _ (List.mem_of_getElem? (i := 37) rfl)
theorem gm_478 : (.code yY_sx cY_sx 2 (some .long) : Cond) ∈ vG := vG11_in _ (List.mem_of_getElem? (i := 38) rfl)
theorem gm_479 : (.methodLink "LongMachineModel" 135 yY_is : Cond) ∈ vG := vG11_in _ (List.mem_of_getElem? (i := 39) rfl)
theorem gm_480 : (.static yY_is : Cond) ∈ vG := vG12_in _ (List.mem_of_getElem? (i := 0) rfl)
theorem gm_481 : (.code yY_is cY_is 1 (some .long) : Cond) ∈ vG := vG12_in _ (List.mem_of_getElem? (i := 1) rfl)
theorem gm_482 : (.methodLink "LongMachineModel" 139 yY_less : Cond) ∈ vG := vG12_in _ (List.mem_of_getElem? (i := 2) rfl)
theorem gm_483 : (.static yY_less : Cond) ∈ vG := vG12_in _ (List.mem_of_getElem? (i := 3) rfl)
theorem gm_484 : (.code yY_less cY_less 4 (some .boolean) : Cond) ∈ vG := vG12_in _ (List.mem_of_getElem? (i := 4) rfl)
theorem gm_485 : (.methodLink "LongMachineModel" 178 yY_bits : Cond) ∈ vG := vG12_in _ (List.mem_of_getElem? (i := 5) rfl)
theorem gm_486 : (.instanceMethod yY_bits : Cond) ∈ vG := vG12_in _ (List.mem_of_getElem? (i := 6) rfl)
theorem gm_487 : (.code yY_bits cY_bits 6 (some .long) : Cond) ∈ vG := vG12_in _ (List.mem_of_getElem? (i := 7) rfl)
theorem gm_488 : (.constantLong "LongMachineModel" 149 (-1) : Cond) ∈ vG := vG12_in _ (List.mem_of_getElem? (i := 8) rfl)
theorem gm_489 : (.methodLink "LongMachineModel" 181 yY_parts : Cond) ∈ vG := vG12_in _ (List.mem_of_getElem? (i := 9) rfl)
theorem gm_490 : (.instanceMethod yY_parts : Cond) ∈ vG := vG12_in _ (List.mem_of_getElem? (i := 10) rfl)
theorem gm_491 : (.code yY_parts cY_parts 13 (some .long) : Cond) ∈ vG := vG12_in _ (List.mem_of_getElem? (i := 11) rfl)
theorem gm_492 : (.methodLink "LongMachineModel" 156 yY_lowest : Cond) ∈ vG := vG12_in _ (List.mem_of_getElem? (i := 12) rfl)
theorem gm_493 : (.static yY_lowest : Cond) ∈ vG := vG12_in _ (List.mem_of_getElem? (i := 13) rfl)
theorem gm_494 : (.code yY_lowest cY_lowest 1 (some .long) : Cond) ∈ vG := vG12_in _ (List.mem_of_getElem? (i := 14) rfl)
theorem gm_495 : (.constantLong "LongMachineModel" 159 63 : Cond) ∈ vG := vG12_in _ (List.mem_of_getElem? (i := 15) rfl)
theorem gm_496 : (.methodLink "LongMachineModel" 161 yY_zapped : Cond) ∈ vG := vG12_in _ (List.mem_of_getElem? (i := 16) rfl)
theorem gm_497 : (.static yY_zapped : Cond) ∈ vG := vG12_in _ (List.mem_of_getElem? (i := 17) rfl)
theorem gm_498 : (.code yY_zapped cY_zapped 9 (some .long) : Cond) ∈ vG := vG12_in _ (List.mem_of_getElem? (i := 18) rfl)
theorem gm_499 : (.methodLink "LongMachineModel" 184 yY_products : Cond) ∈ vG := vG12_in _ (List.mem_of_getElem? (i := 19) rfl)
theorem gm_500 : (.instanceMethod yY_products : Cond) ∈ vG := vG12_in _ (List.mem_of_getElem? (i := 20) rfl)
theorem gm_501 : (.code yY_products cY_products 10 (some .long) : Cond) ∈ vG := vG12_in _ (List.mem_of_getElem? (i := 21) rfl)
theorem gm_502 : (.methodLink "LongMachineModel" 167 yY_upper : Cond) ∈ vG := vG12_in _ (List.mem_of_getElem? (i := 22) rfl)
theorem gm_503 : (.static yY_upper : Cond) ∈ vG := vG12_in _ (List.mem_of_getElem? (i := 23) rfl)
theorem gm_504 : (.code yY_upper cY_upper 18 (some .long) : Cond) ∈ vG := vG12_in _ (List.mem_of_getElem? (i := 24) rfl)
theorem gm_505 : (.constantLong "LongMachineModel" 165 4294967295 : Cond) ∈ vG := vG12_in _ (List.mem_of_getElem? (i := 25) rfl)
theorem gm_506 : (.methodLink "LongMachineModel" 191 yY_give : Cond) ∈ vG := vG12_in _ (List.mem_of_getElem? (i := 26) rfl)
theorem gm_507 : (.instanceMethod yY_give : Cond) ∈ vG := vG12_in _ (List.mem_of_getElem? (i := 27) rfl)
theorem gm_508 : (.code yY_give cY_give 4 none : Cond) ∈ vG := vG12_in _ (List.mem_of_getElem? (i := 28) rfl)
theorem gm_509 : (.constantLong "LongMachineModel" 237 65536 : Cond) ∈ vG := vG12_in _ (List.mem_of_getElem? (i := 29) rfl)
theorem gm_510 : (.methodLink "LongMachineModel" 239 yY_move : Cond) ∈ vG := vG12_in _ (List.mem_of_getElem? (i := 30) rfl)
theorem gm_511 : (.instanceMethod yY_move : Cond) ∈ vG := vG12_in _ (List.mem_of_getElem? (i := 31) rfl)
theorem gm_512 : (.code yY_move cY_move 12 none : Cond) ∈ vG := vG12_in _ (List.mem_of_getElem? (i := 32) rfl)
theorem gm_513 : (.constantLong "LongMachineModel" 194 (-8) : Cond) ∈ vG := vG12_in _ (List.mem_of_getElem? (i := 33) rfl)
theorem gm_514 : (.methodLink "LongMachineModel" 242 yY_branch : Cond) ∈ vG := vG12_in _ (List.mem_of_getElem? (i := 34) rfl)
theorem gm_515 : (.instanceMethod yY_branch : Cond) ∈ vG := vG12_in _ (List.mem_of_getElem? (i := 35) rfl)
theorem gm_516 : (.code yY_branch cY_branch 6 none : Cond) ∈ vG := vG12_in _ (List.mem_of_getElem? (i := 36) rfl)
theorem gm_517 : (.methodLink "LongMachineModel" 200 yY_meets : Cond) ∈ vG := vG12_in _ (List.mem_of_getElem? (i := 37) rfl)
theorem gm_518 : (.static yY_meets : Cond) ∈ vG := vG12_in _ (List.mem_of_getElem? (i := 38) rfl)
theorem gm_519 : (.code yY_meets cY_meets 3 (some .boolean) : Cond) ∈ vG := vG12_in _ (List.mem_of_getElem? (i := 39) rfl)
theorem gm_520 : (.methodLink "LongMachineLaw" 19 yY_set : Cond) ∈ vG := vG13_in _ (List.mem_of_getElem? (i := 0) rfl)
theorem gm_521 : (.instanceMethod yY_set : Cond) ∈ vG := vG13_in _ (List.mem_of_getElem? (i := 1) rfl)
theorem gm_522 : (.selects "LongMachineModel" yY_set yY_set : Cond) ∈ vG := vG13_in _ (List.mem_of_getElem? (i := 2) rfl)
theorem gm_523 : (.code yY_set cY_set 4 (some .boolean) : Cond) ∈ vG := vG13_in _ (List.mem_of_getElem? (i := 3) rfl)
theorem gm_524 : (.methodLink "LongMachineModel" 248 yY_isPlace : Cond) ∈ vG := vG13_in _ (List.mem_of_getElem? (i := 4) rfl)
theorem gm_525 : (.static yY_isPlace : Cond) ∈ vG := vG13_in _ (List.mem_of_getElem? (i := 5) rfl)
theorem gm_526 : (.code yY_isPlace cY_isPlace 1 (some .boolean) : Cond) ∈ vG := vG13_in _ (List.mem_of_getElem? (i := 6) rfl)
theorem gm_527 : (.methodLink "LongMachineLaw" 23 yY_put : Cond) ∈ vG := vG13_in _ (List.mem_of_getElem? (i := 7) rfl)
theorem gm_528 : (.instanceMethod yY_put : Cond) ∈ vG := vG13_in _ (List.mem_of_getElem? (i := 8) rfl)
theorem gm_529 : (.selects "LongMachineModel" yY_put yY_put : Cond) ∈ vG := vG13_in _ (List.mem_of_getElem? (i := 9) rfl)
theorem gm_530 : (.code yY_put cY_put 4 (some .boolean) : Cond) ∈ vG := vG13_in _ (List.mem_of_getElem? (i := 10) rfl)
theorem gm_531 : (.methodLink "LongMachineLaw" 28 yY_interrupt : Cond) ∈ vG := vG13_in _ (List.mem_of_getElem? (i := 11) rfl)
theorem gm_532 : (.instanceMethod yY_interrupt : Cond) ∈ vG := vG13_in _ (List.mem_of_getElem? (i := 12) rfl)
theorem gm_533 : (.selects "LongMachineModel" yY_interrupt yY_interrupt : Cond) ∈ vG := vG13_in _ (List.mem_of_getElem? (i := 13) rfl)
theorem gm_534 : (.code yY_interrupt cY_interrupt 3 (some .boolean) : Cond) ∈ vG := vG13_in _ (List.mem_of_getElem? (i := 14) rfl)
theorem gm_535 : (.methodLink "LongMachineLaw" 38 yY_register : Cond) ∈ vG := vG13_in _ (List.mem_of_getElem? (i := 15) rfl)
theorem gm_536 : (.instanceMethod yY_register : Cond) ∈ vG := vG13_in _ (List.mem_of_getElem? (i := 16) rfl)
theorem gm_537 : (.selects "LongMachineModel" yY_register yY_register : Cond) ∈ vG := vG13_in _ (List.mem_of_getElem? (i := 17) rfl)
theorem gm_538 : (.code yY_register cY_register 2 (some .long) : Cond) ∈ vG := vG13_in _ (List.mem_of_getElem? (i := 18) rfl)
theorem gm_539 : (.methodLink "LongMachineLaw" 42 yY_word : Cond) ∈ vG := vG13_in _ (List.mem_of_getElem? (i := 19) rfl)
theorem gm_540 : (.instanceMethod yY_word : Cond) ∈ vG := vG13_in _ (List.mem_of_getElem? (i := 20) rfl)
theorem gm_541 : (.selects "LongMachineModel" yY_word yY_word : Cond) ∈ vG := vG13_in _ (List.mem_of_getElem? (i := 21) rfl)
theorem gm_542 : (.code yY_word cY_word 2 (some .long) : Cond) ∈ vG := vG13_in _ (List.mem_of_getElem? (i := 22) rfl)
theorem gm_543 : (.methodLink "LongMachineLaw" 46 yY_state : Cond) ∈ vG := vG13_in _ (List.mem_of_getElem? (i := 23) rfl)
theorem gm_544 : (.instanceMethod yY_state : Cond) ∈ vG := vG13_in _ (List.mem_of_getElem? (i := 24) rfl)
theorem gm_545 : (.selects "LongMachineModel" yY_state yY_state : Cond) ∈ vG := vG13_in _ (List.mem_of_getElem? (i := 25) rfl)
theorem gm_546 : (.code yY_state cY_state 2 (some .int) : Cond) ∈ vG := vG13_in _ (List.mem_of_getElem? (i := 26) rfl)
theorem gm_547 : (.constantLong "LongMachineLaw" 13 4294967295 : Cond) ∈ vG := vG13_in _ (List.mem_of_getElem? (i := 27) rfl)
theorem gm_548 : (.selects "LongMachine" yX4_write yX4_write : Cond) ∈ vG := vG13_in _ (List.mem_of_getElem? (i := 28) rfl)
theorem gm_549 : (.selects "LongMachine" yX4_step yX4_step : Cond) ∈ vG := vG13_in _ (List.mem_of_getElem? (i := 29) rfl)
theorem gm_550 : (.selects "LongMachine$Interrupts" yX1_remove yX1_remove : Cond) ∈ vG := vG13_in _ (List.mem_of_getElem? (i := 30) rfl)
theorem gm_551 : (.selects "LongMachine$Memory" yX2_find yX2_find : Cond) ∈ vG := vG13_in _ (List.mem_of_getElem? (i := 31) rfl)
theorem gm_552 : (.selects "LongMachine$Memory" yX2_walk yX2_walk : Cond) ∈ vG := vG13_in _ (List.mem_of_getElem? (i := 32) rfl)
theorem gm_553 : (.selects "LongMachine$Memory" yX2_keep yX2_keep : Cond) ∈ vG := vG13_in _ (List.mem_of_getElem? (i := 33) rfl)
theorem gm_554 : (.selects "LongMachine" yX4_execute yX4_execute : Cond) ∈ vG := vG13_in _ (List.mem_of_getElem? (i := 34) rfl)
theorem gm_555 : (.selects "LongMachine" yX4_call yX4_call : Cond) ∈ vG := vG13_in _ (List.mem_of_getElem? (i := 35) rfl)
theorem gm_556 : (.selects "LongMachine" yX4_refuse yX4_refuse : Cond) ∈ vG := vG13_in _ (List.mem_of_getElem? (i := 36) rfl)
theorem gm_557 : (.selects "LongMachine" yX4_kernelCall yX4_kernelCall : Cond) ∈ vG := vG13_in _ (List.mem_of_getElem? (i := 37) rfl)
theorem gm_558 : (.selects "LongMachine" yX4_changeSpace yX4_changeSpace : Cond) ∈ vG := vG13_in _ (List.mem_of_getElem? (i := 38) rfl)
theorem gm_559 : (.selects "LongMachine" yX4_changeVector yX4_changeVector : Cond) ∈ vG := vG13_in _ (List.mem_of_getElem? (i := 39) rfl)
theorem gm_560 : (.selects "LongMachine" yX4_status yX4_status : Cond) ∈ vG := vG14_in _ (List.mem_of_getElem? (i := 0) rfl)
theorem gm_561 : (.selects "LongMachine" yX4_reach yX4_reach : Cond) ∈ vG := vG14_in _ (List.mem_of_getElem? (i := 1) rfl)
theorem gm_562 : (.selects "LongMachine" yX4_operate yX4_operate : Cond) ∈ vG := vG14_in _ (List.mem_of_getElem? (i := 2) rfl)
theorem gm_563 : (.selects "LongMachine$Operation" yX3_add yX3_add : Cond) ∈ vG := vG14_in _ (List.mem_of_getElem? (i := 3) rfl)
theorem gm_564 : (.selects "LongMachine$Operation" yX3_trapIf yX3_trapIf : Cond) ∈ vG := vG14_in _ (List.mem_of_getElem? (i := 4) rfl)
theorem gm_565 : (.selects "LongMachine$Operation" yX3_combine yX3_combine : Cond) ∈ vG := vG14_in _ (List.mem_of_getElem? (i := 5) rfl)
theorem gm_566 : (.selects "LongMachine$Operation" yX3_onlyIf yX3_onlyIf : Cond) ∈ vG := vG14_in _ (List.mem_of_getElem? (i := 6) rfl)
theorem gm_567 : (.selects "LongMachine$Operation" yX3_shift yX3_shift : Cond) ∈ vG := vG14_in _ (List.mem_of_getElem? (i := 7) rfl)
theorem gm_568 : (.selects "LongMachine$Operation" yX3_lowPart yX3_lowPart : Cond) ∈ vG := vG14_in _ (List.mem_of_getElem? (i := 8) rfl)
theorem gm_569 : (.selects "LongMachine$Operation" yX3_highPart yX3_highPart : Cond) ∈ vG := vG14_in _ (List.mem_of_getElem? (i := 9) rfl)
theorem gm_570 : (.selects "LongMachine$Operation" yX3_multiply yX3_multiply : Cond) ∈ vG := vG14_in _ (List.mem_of_getElem? (i := 10) rfl)
theorem gm_571 : (.selects "LongMachine" yX4_branch yX4_branch : Cond) ∈ vG := vG14_in _ (List.mem_of_getElem? (i := 11) rfl)
theorem gm_572 : (.selects "LongMachine" yX4_enter yX4_enter : Cond) ∈ vG := vG14_in _ (List.mem_of_getElem? (i := 12) rfl)
theorem gm_573 : (.selects "LongMachine" yX4_fillFrame yX4_fillFrame : Cond) ∈ vG := vG14_in _ (List.mem_of_getElem? (i := 13) rfl)
theorem gm_574 : (.selects "LongMachine" yX4_moveFrame yX4_moveFrame : Cond) ∈ vG := vG14_in _ (List.mem_of_getElem? (i := 14) rfl)
theorem gm_575 : (.selects "LongMachine" yX4_comeBack yX4_comeBack : Cond) ∈ vG := vG14_in _ (List.mem_of_getElem? (i := 15) rfl)
theorem gm_576 : (.selects "LongMachineModel" yY_step yY_step : Cond) ∈ vG := vG14_in _ (List.mem_of_getElem? (i := 16) rfl)
theorem gm_577 : (.selects "LongMachineModel" yY_due yY_due : Cond) ∈ vG := vG14_in _ (List.mem_of_getElem? (i := 17) rfl)
theorem gm_578 : (.selects "LongMachineModel" yY_interrupted yY_interrupted : Cond) ∈ vG := vG14_in _ (List.mem_of_getElem? (i := 18) rfl)
theorem gm_579 : (.selects "LongMachineModel" yY_entry yY_entry : Cond) ∈ vG := vG14_in _ (List.mem_of_getElem? (i := 19) rfl)
theorem gm_580 : (.selects "LongMachineModel" yY_translate yY_translate : Cond) ∈ vG := vG14_in _ (List.mem_of_getElem? (i := 20) rfl)
theorem gm_581 : (.selects "LongMachineModel" yY_buffered yY_buffered : Cond) ∈ vG := vG14_in _ (List.mem_of_getElem? (i := 21) rfl)
theorem gm_582 : (.selects "LongMachineModel" yY_walk yY_walk : Cond) ∈ vG := vG14_in _ (List.mem_of_getElem? (i := 22) rfl)
theorem gm_583 : (.selects "LongMachineModel" yY_bytes yY_bytes : Cond) ∈ vG := vG14_in _ (List.mem_of_getElem? (i := 23) rfl)
theorem gm_584 : (.selects "LongMachineModel" yY_keep yY_keep : Cond) ∈ vG := vG14_in _ (List.mem_of_getElem? (i := 24) rfl)
theorem gm_585 : (.selects "LongMachineModel" yY_store yY_store : Cond) ∈ vG := vG14_in _ (List.mem_of_getElem? (i := 25) rfl)
theorem gm_586 : (.selects "LongMachineModel" yY_fault yY_fault : Cond) ∈ vG := vG14_in _ (List.mem_of_getElem? (i := 26) rfl)
theorem gm_587 : (.selects "LongMachineModel" yY_call yY_call : Cond) ∈ vG := vG14_in _ (List.mem_of_getElem? (i := 27) rfl)
theorem gm_588 : (.selects "LongMachineModel" yY_wrong yY_wrong : Cond) ∈ vG := vG14_in _ (List.mem_of_getElem? (i := 28) rfl)
theorem gm_589 : (.selects "LongMachineModel" yY_own yY_own : Cond) ∈ vG := vG14_in _ (List.mem_of_getElem? (i := 29) rfl)
theorem gm_590 : (.selects "LongMachineModel" yY_back yY_back : Cond) ∈ vG := vG14_in _ (List.mem_of_getElem? (i := 30) rfl)
theorem gm_591 : (.selects "LongMachineModel" yY_operate yY_operate : Cond) ∈ vG := vG14_in _ (List.mem_of_getElem? (i := 31) rfl)
theorem gm_592 : (.selects "LongMachineModel" yY_sums yY_sums : Cond) ∈ vG := vG14_in _ (List.mem_of_getElem? (i := 32) rfl)
theorem gm_593 : (.selects "LongMachineModel" yY_bits yY_bits : Cond) ∈ vG := vG14_in _ (List.mem_of_getElem? (i := 33) rfl)
theorem gm_594 : (.selects "LongMachineModel" yY_parts yY_parts : Cond) ∈ vG := vG14_in _ (List.mem_of_getElem? (i := 34) rfl)
theorem gm_595 : (.selects "LongMachineModel" yY_products yY_products : Cond) ∈ vG := vG14_in _ (List.mem_of_getElem? (i := 35) rfl)
theorem gm_596 : (.selects "LongMachineModel" yY_give yY_give : Cond) ∈ vG := vG14_in _ (List.mem_of_getElem? (i := 36) rfl)
theorem gm_597 : (.selects "LongMachineModel" yY_move yY_move : Cond) ∈ vG := vG14_in _ (List.mem_of_getElem? (i := 37) rfl)
theorem gm_598 : (.selects "LongMachineModel" yY_branch yY_branch : Cond) ∈ vG := vG14_in _ (List.mem_of_getElem? (i := 38) rfl)
theorem gd_I {c1 : Cond} (h1 : c1 ∈ vG) : GoodIn vG (c1 :: vG) := fun w hw => (List.mem_cons.mp hw).elim (fun h => by subst h; exact ⟨h1, vG_good _ h1⟩) (fun h => ⟨h, vG_good _ h⟩)
theorem gd_V {c1 : Cond} {own C : String} {idx : Nat} {y : MethodName} (h1 : c1 ∈ vG) (a : Cond.methodLink own idx y ∈ vG) (b : Cond.instanceMethod y ∈ vG) (c : Cond.selects C y y ∈ vG) (d : Cond.initialized C ∈ vG) : GoodIn vG (wsV own idx C y (c1 :: vG)) := by
  intro w hw
  rcases List.mem_append.mp hw with h | h
  · simp only [List.mem_cons, List.not_mem_nil, or_false] at h
    rcases h with rfl | rfl | rfl | rfl
    · exact ⟨a, vG_good _ a⟩
    · exact ⟨b, vG_good _ b⟩
    · exact ⟨c, vG_good _ c⟩
    · exact ⟨d, vG_good _ d⟩
  · exact gd_I h1 w h
theorem gd_S {c1 : Cond} {own : String} {idx : Nat} {y : MethodName} (h1 : c1 ∈ vG) (a : Cond.methodLink own idx y ∈ vG) (b : Cond.static y ∈ vG) (d : Cond.initialized y.cls ∈ vG) : GoodIn vG (va_wsS own idx y (c1 :: vG)) := by
  intro w hw
  rcases List.mem_append.mp hw with h | h
  · simp only [List.mem_cons, List.not_mem_nil, or_false] at h
    rcases h with rfl | rfl | rfl
    · exact ⟨a, vG_good _ a⟩
    · exact ⟨b, vG_good _ b⟩
    · exact ⟨d, vG_good _ d⟩
  · exact gd_I h1 w h
theorem ui_X0 : ∀ w ∈ u_ws "LongMachine$Crossing" TX0 5, w ∈ vG := by
  intro w hw
  obtain ⟨k, hk, rfl⟩ := List.mem_map.mp hw
  have hk := List.mem_range.mp hk
  match k, hk with
  | 0, _ => exact gm_86
  | 1, _ => exact gm_87
  | 2, _ => exact gm_88
  | 3, _ => exact gm_89
  | 4, _ => exact gm_90
  | k + 5, h => exact absurd h (by omega)
theorem ui_X1 : ∀ w ∈ u_ws "LongMachine$Interrupts" TX1 3, w ∈ vG := by
  intro w hw
  obtain ⟨k, hk, rfl⟩ := List.mem_map.mp hw
  have hk := List.mem_range.mp hk
  match k, hk with
  | 0, _ => exact gm_51
  | 1, _ => exact gm_52
  | 2, _ => exact gm_53
  | k + 3, h => exact absurd h (by omega)
theorem ui_X2 : ∀ w ∈ u_ws "LongMachine$Memory" TX2 8, w ∈ vG := by
  intro w hw
  obtain ⟨k, hk, rfl⟩ := List.mem_map.mp hw
  have hk := List.mem_range.mp hk
  match k, hk with
  | 0, _ => exact gm_32
  | 1, _ => exact gm_33
  | 2, _ => exact gm_34
  | 3, _ => exact gm_35
  | 4, _ => exact gm_36
  | 5, _ => exact gm_37
  | 6, _ => exact gm_38
  | 7, _ => exact gm_39
  | k + 8, h => exact absurd h (by omega)
theorem ui_X3 : ∀ w ∈ u_ws "LongMachine$Operation" TX3 4, w ∈ vG := by
  intro w hw
  obtain ⟨k, hk, rfl⟩ := List.mem_map.mp hw
  have hk := List.mem_range.mp hk
  match k, hk with
  | 0, _ => exact gm_67
  | 1, _ => exact gm_68
  | 2, _ => exact gm_69
  | 3, _ => exact gm_70
  | k + 4, h => exact absurd h (by omega)
theorem ui_X4 : ∀ w ∈ u_ws "LongMachine" TX4 17, w ∈ vG := by
  intro w hw
  obtain ⟨k, hk, rfl⟩ := List.mem_map.mp hw
  have hk := List.mem_range.mp hk
  match k, hk with
  | 0, _ => exact gm_108
  | 1, _ => exact gm_109
  | 2, _ => exact gm_110
  | 3, _ => exact gm_111
  | 4, _ => exact gm_112
  | 5, _ => exact gm_113
  | 6, _ => exact gm_114
  | 7, _ => exact gm_115
  | 8, _ => exact gm_116
  | 9, _ => exact gm_117
  | 10, _ => exact gm_118
  | 11, _ => exact gm_119
  | 12, _ => exact gm_120
  | 13, _ => exact gm_121
  | 14, _ => exact gm_122
  | 15, _ => exact gm_123
  | 16, _ => exact gm_124
  | k + 17, h => exact absurd h (by omega)
theorem ui_Y : ∀ w ∈ u_ws "LongMachineModel" TY 28, w ∈ vG := by
  intro w hw
  obtain ⟨k, hk, rfl⟩ := List.mem_map.mp hw
  have hk := List.mem_range.mp hk
  match k, hk with
  | 0, _ => exact gm_374
  | 1, _ => exact gm_375
  | 2, _ => exact gm_376
  | 3, _ => exact gm_377
  | 4, _ => exact gm_378
  | 5, _ => exact gm_379
  | 6, _ => exact gm_380
  | 7, _ => exact gm_381
  | 8, _ => exact gm_382
  | 9, _ => exact gm_383
  | 10, _ => exact gm_384
  | 11, _ => exact gm_385
  | 12, _ => exact gm_386
  | 13, _ => exact gm_387
  | 14, _ => exact gm_388
  | 15, _ => exact gm_389
  | 16, _ => exact gm_390
  | 17, _ => exact gm_391
  | 18, _ => exact gm_392
  | 19, _ => exact gm_393
  | 20, _ => exact gm_394
  | 21, _ => exact gm_395
  | 22, _ => exact gm_396
  | 23, _ => exact gm_397
  | 24, _ => exact gm_398
  | 25, _ => exact gm_399
  | 26, _ => exact gm_400
  | 27, _ => exact gm_401
  | k + 28, h => exact absurd h (by omega)
def wC (cI cJ : ClassId) (qC : Nat) (aVec : Int32) (aA : Int64) (aB : Int64) (aC : Int64) (aPc : Int64) : va_W := [(qC, .inr (0, [.int aVec, .long aA, .long aB, .long aC, .long aPc]))]
def wO (cI cJ : ClassId) (qO : Nat) (oRes : Int64) (oKno : Int32) (oGiv : Int32) (oTrp : Int32) : va_W := [(qO, .inr (3, [.long oRes, .int oKno, .int oGiv, .int oTrp]))]
def wI (cI cJ : ClassId) (qI qIl qIn : Nat) (iCnt : Int32) (iL : (Nat → Int32)) (iN : (Nat → Int32)) : va_W := [(qI, .inr (1, [.ref qIl, .ref qIn, .int iCnt])), (qIl, .inl (cI, 4, .inl iL)), (qIn, .inl (cI, 4, .inl iN))]
def wM (cI cJ : ClassId) (qM qMw qMp qMs qMd : Nat) (mOld : Int32) (mCnt : Int32) (mTab : Int32) (mSpc : Int32) (mW : (Nat → Int64)) (mP : (Nat → Int32)) (mS : (Nat → Int32)) (mD : (Nat → Int64)) : va_W := [(qM, .inr (2, [.ref qMw, .ref qMp, .ref qMs, .ref qMd, .int mOld, .int mCnt, .int mTab, .int mSpc])), (qMw, .inl (cJ, 512, .inr (.inl mW))), (qMp, .inl (cI, 4, .inl mP)), (qMs, .inl (cI, 4, .inl mS)), (qMd, .inl (cJ, 4, .inr (.inl mD)))]
def wX (cI cJ : ClassId) (qX qR qV qF qM qMw qMp qMs qMd qI qIl qIn qO qC : Nat) (xPc : Int64) (xKsp : Int64) (xUsp : Int64) (xKgp : Int64) (xVal : Int64) (xMod : Int32) (xLev : Int32) (xHal : Int32) (xEnt : Int32) (xLoc : Int32) (xR : (Nat → Int64)) (xV : (Nat → Int64)) (xF : (Nat → Int64)) (mOld : Int32) (mCnt : Int32) (mTab : Int32) (mSpc : Int32) (mW : (Nat → Int64)) (mP : (Nat → Int32)) (mS : (Nat → Int32)) (mD : (Nat → Int64)) (iCnt : Int32) (iL : (Nat → Int32)) (iN : (Nat → Int32)) (oRes : Int64) (oKno : Int32) (oGiv : Int32) (oTrp : Int32) (aVec : Int32) (aA : Int64) (aB : Int64) (aC : Int64) (aPc : Int64) : va_W := [(qX, .inr (4, [.ref qM, .ref qR, .ref qV, .ref qF, .ref qI, .ref qO, .ref qC, .long xPc, .long xKsp, .long xUsp, .long xKgp, .long xVal, .int xMod, .int xLev, .int xHal, .int xEnt, .int xLoc])), (qR, .inl (cJ, 32, .inr (.inl xR))), (qV, .inl (cJ, 6, .inr (.inl xV))), (qF, .inl (cJ, 6, .inr (.inl xF))), (qM, .inr (2, [.ref qMw, .ref qMp, .ref qMs, .ref qMd, .int mOld, .int mCnt, .int mTab, .int mSpc])), (qMw, .inl (cJ, 512, .inr (.inl mW))), (qMp, .inl (cI, 4, .inl mP)), (qMs, .inl (cI, 4, .inl mS)), (qMd, .inl (cJ, 4, .inr (.inl mD))), (qI, .inr (1, [.ref qIl, .ref qIn, .int iCnt])), (qIl, .inl (cI, 4, .inl iL)), (qIn, .inl (cI, 4, .inl iN)), (qO, .inr (3, [.long oRes, .int oKno, .int oGiv, .int oTrp])), (qC, .inr (0, [.int aVec, .long aA, .long aB, .long aC, .long aPc]))]
def wY (cI cJ : ClassId) (qY qYm qYr qYv qYl qYn qYp qYs qYw qY6 : Nat) (yPc : Int64) (yMod : Int32) (yLev : Int32) (yLoc : Int32) (yKsp : Int64) (yUsp : Int64) (yKgp : Int64) (yVal : Int64) (yTab : Int32) (ySpc : Int32) (yHal : Int32) (yEnt : Int32) (yPen : Int32) (yBuf : Int32) (yHer : Int64) (yWrd : Int32) (yHas : Int32) (yTrp : Int32) (yNon : Int32) (yMem : (Nat → Int32)) (yR : (Nat → Int64)) (yV : (Nat → Int64)) (yPL : (Nat → Int32)) (yPN : (Nat → Int32)) (yBP : (Nat → Int32)) (yBS : (Nat → Int32)) (yBW : (Nat → Int64)) (ySix : (Nat → Int64)) : va_W := [(qY, .inr (5, [.ref qYm, .ref qYr, .long yPc, .int yMod, .int yLev, .int yLoc, .long yKsp, .long yUsp, .long yKgp, .long yVal, .int yTab, .int ySpc, .ref qYv, .int yHal, .int yEnt, .int yPen, .ref qYl, .ref qYn, .int yBuf, .ref qYp, .ref qYs, .ref qYw, .long yHer, .int yWrd, .int yHas, .int yTrp, .int yNon, .ref qY6])), (qYm, .inl (cI, 4096, .inl yMem)), (qYr, .inl (cJ, 32, .inr (.inl yR))), (qYv, .inl (cJ, 6, .inr (.inl yV))), (qYl, .inl (cI, 4, .inl yPL)), (qYn, .inl (cI, 4, .inl yPN)), (qYp, .inl (cI, 4, .inl yBP)), (qYs, .inl (cI, 4, .inl yBS)), (qYw, .inl (cJ, 4, .inr (.inl yBW))), (qY6, .inl (cJ, 6, .inr (.inl ySix)))]
