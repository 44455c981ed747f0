-- names of classes, their fields, methods
def R_TwinHart : String := "TwinHart"
def R_Memory : String := "TwinHart$Memory"
def R_Clint : String := "TwinHart$Clint"
def R_Csrs : String := "TwinHart$Csrs"
def R_Hart : String := "TwinHart$Hart"
def R_Access : String := "TwinHart$Access"
def R_Alu : String := "TwinHart$Alu"
def R_Fault : String := "TwinHart$Fault"
def R_Field : String := "TwinHart$Field"
def R_Pages : String := "TwinHart$Pages"
def R_Model : String := "TwinHartModel"
def R_law : String := "TwinHartLaw"
def F_Clint : u_T := fun k => match k with
  | _ => ("TwinHart$Clint", "words", "[I", true)
def t_Clint : Nat → FieldType := fun k => match k with
  | _ => .array .int
theorem n_Clint : ∀ a, a < 1 → ∀ b, b < 1 → a ≠ b → (F_Clint a).2.1 ≠ (F_Clint b).2.1 := by decide +kernel
theorem t_Clint_ok : ∀ k, k < 1 → parseFieldDescriptor (F_Clint k).2.2.1 = some (t_Clint k) := by decide +kernel
def F_Csrs : u_T := fun k => match k with
  | 0 => ("TwinHart$Csrs", "hart", "I", true)
  | 1 => ("TwinHart$Csrs", "mstatus", "I", false)
  | 2 => ("TwinHart$Csrs", "medeleg", "I", false)
  | 3 => ("TwinHart$Csrs", "mideleg", "I", false)
  | 4 => ("TwinHart$Csrs", "mie", "I", false)
  | 5 => ("TwinHart$Csrs", "mtvec", "I", false)
  | 6 => ("TwinHart$Csrs", "mepc", "I", false)
  | 7 => ("TwinHart$Csrs", "mscratch", "I", false)
  | 8 => ("TwinHart$Csrs", "mcause", "I", false)
  | 9 => ("TwinHart$Csrs", "mtval", "I", false)
  | 10 => ("TwinHart$Csrs", "mip", "I", false)
  | 11 => ("TwinHart$Csrs", "stvec", "I", false)
  | 12 => ("TwinHart$Csrs", "sepc", "I", false)
  | 13 => ("TwinHart$Csrs", "sscratch", "I", false)
  | 14 => ("TwinHart$Csrs", "scause", "I", false)
  | 15 => ("TwinHart$Csrs", "stval", "I", false)
  | _ => ("TwinHart$Csrs", "satp", "I", false)
def t_Csrs : Nat → FieldType := fun k => match k with
  | 0 => .int
  | 1 => .int
  | 2 => .int
  | 3 => .int
  | 4 => .int
  | 5 => .int
  | 6 => .int
  | 7 => .int
  | 8 => .int
  | 9 => .int
  | 10 => .int
  | 11 => .int
  | 12 => .int
  | 13 => .int
  | 14 => .int
  | 15 => .int
  | _ => .int
theorem n_Csrs : ∀ a, a < 17 → ∀ b, b < 17 → a ≠ b → (F_Csrs a).2.1 ≠ (F_Csrs b).2.1 := by decide +kernel
theorem t_Csrs_ok : ∀ k, k < 17 → parseFieldDescriptor (F_Csrs k).2.2.1 = some (t_Csrs k) := by decide +kernel
def F_Hart : u_T := fun k => match k with
  | 0 => ("TwinHart$Hart", "id", "I", true)
  | 1 => ("TwinHart$Hart", "x", "[I", true)
  | 2 => ("TwinHart$Hart", "csrs", "LTwinHart$Csrs;", true)
  | 3 => ("TwinHart$Hart", "pc", "I", false)
  | 4 => ("TwinHart$Hart", "level", "I", false)
  | _ => ("TwinHart$Hart", "trapValue", "I", false)
def t_Hart : Nat → FieldType := fun k => match k with
  | 0 => .int
  | 1 => .array .int
  | 2 => .object "TwinHart$Csrs"
  | 3 => .int
  | 4 => .int
  | _ => .int
theorem n_Hart : ∀ a, a < 6 → ∀ b, b < 6 → a ≠ b → (F_Hart a).2.1 ≠ (F_Hart b).2.1 := by decide +kernel
theorem t_Hart_ok : ∀ k, k < 6 → parseFieldDescriptor (F_Hart k).2.2.1 = some (t_Hart k) := by decide +kernel
def F_Memory : u_T := fun k => match k with
  | 0 => ("TwinHart$Memory", "ram", "[I", true)
  | 1 => ("TwinHart$Memory", "clint", "LTwinHart$Clint;", true)
  | 2 => ("TwinHart$Memory", "console", "[B", true)
  | 3 => ("TwinHart$Memory", "printed", "I", false)
  | _ => ("TwinHart$Memory", "claims", "[J", true)
def t_Memory : Nat → FieldType := fun k => match k with
  | 0 => .array .int
  | 1 => .object "TwinHart$Clint"
  | 2 => .array .byte
  | 3 => .int
  | _ => .array .long
theorem n_Memory : ∀ a, a < 5 → ∀ b, b < 5 → a ≠ b → (F_Memory a).2.1 ≠ (F_Memory b).2.1 := by decide +kernel
theorem t_Memory_ok : ∀ k, k < 5 → parseFieldDescriptor (F_Memory k).2.2.1 = some (t_Memory k) := by decide +kernel
def F_TwinHart : u_T := fun k => match k with
  | 0 => ("TwinHart", "memory", "LTwinHart$Memory;", true)
  | _ => ("TwinHart", "harts", "[LTwinHart$Hart;", true)
def t_TwinHart : Nat → FieldType := fun k => match k with
  | 0 => .object "TwinHart$Memory"
  | _ => .array (.object "TwinHart$Hart")
theorem n_TwinHart : ∀ a, a < 2 → ∀ b, b < 2 → a ≠ b → (F_TwinHart a).2.1 ≠ (F_TwinHart b).2.1 := by decide +kernel
theorem t_TwinHart_ok : ∀ k, k < 2 → parseFieldDescriptor (F_TwinHart k).2.2.1 = some (t_TwinHart k) := by decide +kernel
def F_Model : u_T := fun k => match k with
  | 0 => ("TwinHartModel", "words", "I", true)
  | 1 => ("TwinHartModel", "ram", "[B", true)
  | 2 => ("TwinHartModel", "x", "[I", true)
  | 3 => ("TwinHartModel", "pcs", "[I", true)
  | 4 => ("TwinHartModel", "levels", "[I", true)
  | 5 => ("TwinHartModel", "csrs", "[I", true)
  | 6 => ("TwinHartModel", "claims", "[I", true)
  | 7 => ("TwinHartModel", "compare", "[J", true)
  | 8 => ("TwinHartModel", "soft", "[I", true)
  | 9 => ("TwinHartModel", "time", "J", false)
  | 10 => ("TwinHartModel", "put", "[I", true)
  | 11 => ("TwinHartModel", "puts", "I", false)
  | 12 => ("TwinHartModel", "h", "I", false)
  | 13 => ("TwinHartModel", "cause", "I", false)
  | 14 => ("TwinHartModel", "tval", "I", false)
  | _ => ("TwinHartModel", "next", "I", false)
def t_Model : Nat → FieldType := fun k => match k with
  | 0 => .int
  | 1 => .array .byte
  | 2 => .array .int
  | 3 => .array .int
  | 4 => .array .int
  | 5 => .array .int
  | 6 => .array .int
  | 7 => .array .long
  | 8 => .array .int
  | 9 => .long
  | 10 => .array .int
  | 11 => .int
  | 12 => .int
  | 13 => .int
  | 14 => .int
  | _ => .int
theorem n_Model : ∀ a, a < 16 → ∀ b, b < 16 → a ≠ b → (F_Model a).2.1 ≠ (F_Model b).2.1 := by decide +kernel
theorem t_Model_ok : ∀ k, k < 16 → parseFieldDescriptor (F_Model k).2.2.1 = some (t_Model k) := by decide +kernel
abbrev classes : List vw_C := [(R_TwinHart, F_TwinHart, 2), (R_Memory, F_Memory, 5), (R_Clint, F_Clint, 1), (R_Csrs, F_Csrs, 17), (R_Hart, F_Hart, 6), (R_Model, F_Model, 16)]
abbrev b_TwinHart_init : ByteArray := prog_1_method_1_code
def y_TwinHart_init : MethodName := ⟨R_TwinHart, "<init>", "(I)V"⟩
abbrev b_TwinHart_reset : ByteArray := prog_1_method_2_code
def y_TwinHart_reset : MethodName := ⟨R_TwinHart, "reset", "()V"⟩
abbrev b_TwinHart_poke : ByteArray := prog_1_method_3_code
def y_TwinHart_poke : MethodName := ⟨R_TwinHart, "poke", "(II)Z"⟩
abbrev b_TwinHart_peek : ByteArray := prog_1_method_4_code
def y_TwinHart_peek : MethodName := ⟨R_TwinHart, "peek", "(I)I"⟩
abbrev b_TwinHart_step : ByteArray := prog_1_method_5_code
def y_TwinHart_step : MethodName := ⟨R_TwinHart, "step", "(I)I"⟩
abbrev b_TwinHart_tick : ByteArray := prog_1_method_6_code
def y_TwinHart_tick : MethodName := ⟨R_TwinHart, "tick", "()V"⟩
abbrev b_TwinHart_register : ByteArray := prog_1_method_7_code
def y_TwinHart_register : MethodName := ⟨R_TwinHart, "register", "(II)I"⟩
abbrev b_TwinHart_set : ByteArray := prog_1_method_8_code
def y_TwinHart_set : MethodName := ⟨R_TwinHart, "set", "(III)Z"⟩
abbrev b_TwinHart_pc : ByteArray := prog_1_method_9_code
def y_TwinHart_pc : MethodName := ⟨R_TwinHart, "pc", "(I)I"⟩
abbrev b_TwinHart_csr : ByteArray := prog_1_method_10_code
def y_TwinHart_csr : MethodName := ⟨R_TwinHart, "csr", "(II)I"⟩
abbrev b_TwinHart_put : ByteArray := prog_1_method_11_code
def y_TwinHart_put : MethodName := ⟨R_TwinHart, "put", "(III)Z"⟩
abbrev b_TwinHart_level : ByteArray := prog_1_method_12_code
def y_TwinHart_level : MethodName := ⟨R_TwinHart, "level", "(I)I"⟩
abbrev b_TwinHart_size : ByteArray := prog_1_method_13_code
def y_TwinHart_size : MethodName := ⟨R_TwinHart, "size", "()I"⟩
abbrev b_TwinHart_out : ByteArray := prog_1_method_14_code
def y_TwinHart_out : MethodName := ⟨R_TwinHart, "out", "(I)I"⟩
abbrev b_TwinHart_isHart : ByteArray := prog_1_method_15_code
def y_TwinHart_isHart : MethodName := ⟨R_TwinHart, "isHart", "(I)Z"⟩
abbrev b_TwinHart_isRegister : ByteArray := prog_1_method_16_code
def y_TwinHart_isRegister : MethodName := ⟨R_TwinHart, "isRegister", "(I)Z"⟩
abbrev b_Model_init : ByteArray := prog_12_method_1_code
def y_Model_init : MethodName := ⟨R_Model, "<init>", "(I)V"⟩
abbrev b_Model_begin : ByteArray := prog_12_method_2_code
def y_Model_begin : MethodName := ⟨R_Model, "begin", "()V"⟩
abbrev b_Model_reset : ByteArray := prog_12_method_3_code
def y_Model_reset : MethodName := ⟨R_Model, "reset", "()V"⟩
abbrev b_Model_ramByte : ByteArray := prog_12_method_4_code
def y_Model_ramByte : MethodName := ⟨R_Model, "ramByte", "(I)I"⟩
abbrev b_Model_ramWord : ByteArray := prog_12_method_5_code
def y_Model_ramWord : MethodName := ⟨R_Model, "ramWord", "(I)I"⟩
abbrev b_Model_setBytes : ByteArray := prog_12_method_6_code
def y_Model_setBytes : MethodName := ⟨R_Model, "setBytes", "(III)V"⟩
abbrev b_Model_inRam : ByteArray := prog_12_method_7_code
def y_Model_inRam : MethodName := ⟨R_Model, "inRam", "(J)I"⟩
abbrev b_Model_poke : ByteArray := prog_12_method_8_code
def y_Model_poke : MethodName := ⟨R_Model, "poke", "(II)Z"⟩
abbrev b_Model_peek : ByteArray := prog_12_method_9_code
def y_Model_peek : MethodName := ⟨R_Model, "peek", "(I)I"⟩
abbrev b_Model_isCsr : ByteArray := prog_12_method_10_code
def y_Model_isCsr : MethodName := ⟨R_Model, "isCsr", "(I)Z"⟩
abbrev b_Model_sstatusBits : ByteArray := prog_12_method_11_code
def y_Model_sstatusBits : MethodName := ⟨R_Model, "sstatusBits", "()I"⟩
abbrev b_Model_raw : ByteArray := prog_12_method_12_code
def y_Model_raw : MethodName := ⟨R_Model, "raw", "(II)I"⟩
abbrev b_Model_read : ByteArray := prog_12_method_13_code
def y_Model_read : MethodName := ⟨R_Model, "read", "(II)I"⟩
abbrev b_Model_keep : ByteArray := prog_12_method_14_code
def y_Model_keep : MethodName := ⟨R_Model, "keep", "(IIII)V"⟩
abbrev b_Model_write : ByteArray := prog_12_method_15_code
def y_Model_write : MethodName := ⟨R_Model, "write", "(III)V"⟩
abbrev b_Model_has : ByteArray := prog_12_method_16_code
def y_Model_has : MethodName := ⟨R_Model, "has", "(I)Z"⟩
abbrev b_Model_trap : ByteArray := prog_12_method_17_code
def y_Model_trap : MethodName := ⟨R_Model, "trap", "(II)V"⟩
abbrev b_Model_take : ByteArray := prog_12_method_18_code
def y_Model_take : MethodName := ⟨R_Model, "take", "(IIZ)V"⟩
abbrev b_Model_firstOf : ByteArray := prog_12_method_19_code
def y_Model_firstOf : MethodName := ⟨R_Model, "firstOf", "(I)I"⟩
abbrev b_Model_interrupt : ByteArray := prog_12_method_20_code
def y_Model_interrupt : MethodName := ⟨R_Model, "interrupt", "()I"⟩
abbrev b_Model_accessFault : ByteArray := prog_12_method_21_code
def y_Model_accessFault : MethodName := ⟨R_Model, "accessFault", "(I)I"⟩
abbrev b_Model_pageFault : ByteArray := prog_12_method_22_code
def y_Model_pageFault : MethodName := ⟨R_Model, "pageFault", "(I)I"⟩
abbrev b_Model_levelFor : ByteArray := prog_12_method_23_code
def y_Model_levelFor : MethodName := ⟨R_Model, "levelFor", "(I)I"⟩
abbrev b_Model_isLeaf : ByteArray := prog_12_method_24_code
def y_Model_isLeaf : MethodName := ⟨R_Model, "isLeaf", "(I)Z"⟩
abbrev b_Model_isBad : ByteArray := prog_12_method_25_code
def y_Model_isBad : MethodName := ⟨R_Model, "isBad", "(I)Z"⟩
abbrev b_Model_lets : ByteArray := prog_12_method_26_code
def y_Model_lets : MethodName := ⟨R_Model, "lets", "(III)Z"⟩
abbrev b_Model_translate : ByteArray := prog_12_method_27_code
def y_Model_translate : MethodName := ⟨R_Model, "translate", "(II)J"⟩
abbrev b_Model_clint : ByteArray := prog_12_method_28_code
def y_Model_clint : MethodName := ⟨R_Model, "clint", "(J)I"⟩
abbrev b_Model_clintWord : ByteArray := prog_12_method_29_code
def y_Model_clintWord : MethodName := ⟨R_Model, "clintWord", "(I)I"⟩
abbrev b_Model_setClint : ByteArray := prog_12_method_30_code
def y_Model_setClint : MethodName := ⟨R_Model, "setClint", "(II)V"⟩
abbrev b_Model_place : ByteArray := prog_12_method_31_code
def y_Model_place : MethodName := ⟨R_Model, "place", "(III)J"⟩
abbrev b_Model_load : ByteArray := prog_12_method_32_code
def y_Model_load : MethodName := ⟨R_Model, "load", "(II)I"⟩
abbrev b_Model_store : ByteArray := prog_12_method_33_code
def y_Model_store : MethodName := ⟨R_Model, "store", "(III)V"⟩
abbrev b_Model_claimed : ByteArray := prog_12_method_34_code
def y_Model_claimed : MethodName := ⟨R_Model, "claimed", "(II)I"⟩
abbrev b_Model_reg : ByteArray := prog_12_method_35_code
def y_Model_reg : MethodName := ⟨R_Model, "reg", "(I)I"⟩
abbrev b_Model_setReg : ByteArray := prog_12_method_36_code
def y_Model_setReg : MethodName := ⟨R_Model, "setReg", "(II)V"⟩
abbrev b_Model_field : ByteArray := prog_12_method_37_code
def y_Model_field : MethodName := ⟨R_Model, "field", "(III)I"⟩
abbrev b_Model_go : ByteArray := prog_12_method_38_code
def y_Model_go : MethodName := ⟨R_Model, "go", "(I)V"⟩
abbrev b_Model_below : ByteArray := prog_12_method_39_code
def y_Model_below : MethodName := ⟨R_Model, "below", "(II)Z"⟩
abbrev b_Model_jump : ByteArray := prog_12_method_40_code
def y_Model_jump : MethodName := ⟨R_Model, "jump", "(I)V"⟩
abbrev b_Model_branch : ByteArray := prog_12_method_41_code
def y_Model_branch : MethodName := ⟨R_Model, "branch", "(I)V"⟩
abbrev b_Model_loads : ByteArray := prog_12_method_42_code
def y_Model_loads : MethodName := ⟨R_Model, "loads", "(I)V"⟩
abbrev b_Model_stores : ByteArray := prog_12_method_43_code
def y_Model_stores : MethodName := ⟨R_Model, "stores", "(I)V"⟩
abbrev b_Model_shifted : ByteArray := prog_12_method_44_code
def y_Model_shifted : MethodName := ⟨R_Model, "shifted", "(IIZ)I"⟩
abbrev b_Model_plain : ByteArray := prog_12_method_45_code
def y_Model_plain : MethodName := ⟨R_Model, "plain", "(III)I"⟩
abbrev b_Model_product : ByteArray := prog_12_method_46_code
def y_Model_product : MethodName := ⟨R_Model, "product", "(III)I"⟩
abbrev b_Model_quotient : ByteArray := prog_12_method_47_code
def y_Model_quotient : MethodName := ⟨R_Model, "quotient", "(III)I"⟩
abbrev b_Model_reckon : ByteArray := prog_12_method_48_code
def y_Model_reckon : MethodName := ⟨R_Model, "reckon", "(IZ)V"⟩
abbrev b_Model_changed : ByteArray := prog_12_method_49_code
def y_Model_changed : MethodName := ⟨R_Model, "changed", "(III)I"⟩
abbrev b_Model_claims : ByteArray := prog_12_method_50_code
def y_Model_claims : MethodName := ⟨R_Model, "claims", "(I)V"⟩
abbrev b_Model_machine : ByteArray := prog_12_method_51_code
def y_Model_machine : MethodName := ⟨R_Model, "machine", "(I)V"⟩
abbrev b_Model_csrs : ByteArray := prog_12_method_52_code
def y_Model_csrs : MethodName := ⟨R_Model, "csrs", "(I)V"⟩
abbrev b_Model_execute : ByteArray := prog_12_method_53_code
def y_Model_execute : MethodName := ⟨R_Model, "execute", "(I)V"⟩
abbrev b_Model_fetch : ByteArray := prog_12_method_54_code
def y_Model_fetch : MethodName := ⟨R_Model, "fetch", "()I"⟩
abbrev b_Model_isHart : ByteArray := prog_12_method_55_code
def y_Model_isHart : MethodName := ⟨R_Model, "isHart", "(I)Z"⟩
abbrev b_Model_step : ByteArray := prog_12_method_56_code
def y_Model_step : MethodName := ⟨R_Model, "step", "(I)I"⟩
abbrev b_Model_tick : ByteArray := prog_12_method_57_code
def y_Model_tick : MethodName := ⟨R_Model, "tick", "()V"⟩
abbrev b_Model_register : ByteArray := prog_12_method_58_code
def y_Model_register : MethodName := ⟨R_Model, "register", "(II)I"⟩
abbrev b_Model_set : ByteArray := prog_12_method_59_code
def y_Model_set : MethodName := ⟨R_Model, "set", "(III)Z"⟩
abbrev b_Model_pc : ByteArray := prog_12_method_60_code
def y_Model_pc : MethodName := ⟨R_Model, "pc", "(I)I"⟩
abbrev b_Model_csr : ByteArray := prog_12_method_61_code
def y_Model_csr : MethodName := ⟨R_Model, "csr", "(II)I"⟩
abbrev b_Model_put : ByteArray := prog_12_method_62_code
def y_Model_put : MethodName := ⟨R_Model, "put", "(III)Z"⟩
abbrev b_Model_level : ByteArray := prog_12_method_63_code
def y_Model_level : MethodName := ⟨R_Model, "level", "(I)I"⟩
abbrev b_Model_size : ByteArray := prog_12_method_64_code
def y_Model_size : MethodName := ⟨R_Model, "size", "()I"⟩
abbrev b_Model_out : ByteArray := prog_12_method_65_code
def y_Model_out : MethodName := ⟨R_Model, "out", "(I)I"⟩
abbrev b_Alu_below : ByteArray := prog_3_method_2_code
def y_Alu_below : MethodName := ⟨R_Alu, "below", "(II)Z"⟩
abbrev b_Alu_plain : ByteArray := prog_3_method_3_code
def y_Alu_plain : MethodName := ⟨R_Alu, "plain", "(III)I"⟩
abbrev b_Alu_multiplied : ByteArray := prog_3_method_4_code
def y_Alu_multiplied : MethodName := ⟨R_Alu, "multiplied", "(III)I"⟩
abbrev b_Alu_divided : ByteArray := prog_3_method_5_code
def y_Alu_divided : MethodName := ⟨R_Alu, "divided", "(III)I"⟩
abbrev b_Alu_branches : ByteArray := prog_3_method_6_code
def y_Alu_branches : MethodName := ⟨R_Alu, "branches", "(III)Z"⟩
abbrev b_Alu_changed : ByteArray := prog_3_method_7_code
def y_Alu_changed : MethodName := ⟨R_Alu, "changed", "(III)I"⟩
abbrev b_Clint_init : ByteArray := prog_4_method_1_code
def y_Clint_init : MethodName := ⟨R_Clint, "<init>", "()V"⟩
abbrev b_Clint_restart : ByteArray := prog_4_method_2_code
def y_Clint_restart : MethodName := ⟨R_Clint, "restart", "()V"⟩
abbrev b_Clint_advance : ByteArray := prog_4_method_3_code
def y_Clint_advance : MethodName := ⟨R_Clint, "advance", "()V"⟩
abbrev b_Clint_lines : ByteArray := prog_4_method_4_code
def y_Clint_lines : MethodName := ⟨R_Clint, "lines", "(I)I"⟩
abbrev b_Clint_isBelow : ByteArray := prog_4_method_5_code
def y_Clint_isBelow : MethodName := ⟨R_Clint, "isBelow", "(II)Z"⟩
abbrev b_Clint_slotAt : ByteArray := prog_4_method_6_code
def y_Clint_slotAt : MethodName := ⟨R_Clint, "slotAt", "(J)I"⟩
abbrev b_Clint_store : ByteArray := prog_4_method_7_code
def y_Clint_store : MethodName := ⟨R_Clint, "store", "(JI)V"⟩
abbrev b_Csrs_init : ByteArray := prog_5_method_1_code
def y_Csrs_init : MethodName := ⟨R_Csrs, "<init>", "(I)V"⟩
abbrev b_Csrs_restart : ByteArray := prog_5_method_2_code
def y_Csrs_restart : MethodName := ⟨R_Csrs, "restart", "()V"⟩
abbrev b_Csrs_isTold : ByteArray := prog_5_method_3_code
def y_Csrs_isTold : MethodName := ⟨R_Csrs, "isTold", "(I)Z"⟩
abbrev b_Csrs_isReadOnly : ByteArray := prog_5_method_4_code
def y_Csrs_isReadOnly : MethodName := ⟨R_Csrs, "isReadOnly", "(I)Z"⟩
abbrev b_Csrs_isAllowed : ByteArray := prog_5_method_5_code
def y_Csrs_isAllowed : MethodName := ⟨R_Csrs, "isAllowed", "(IIZ)Z"⟩
abbrev b_Csrs_read : ByteArray := prog_5_method_6_code
def y_Csrs_read : MethodName := ⟨R_Csrs, "read", "(II)I"⟩
abbrev b_Csrs_write : ByteArray := prog_5_method_7_code
def y_Csrs_write : MethodName := ⟨R_Csrs, "write", "(II)V"⟩
abbrev b_Csrs_writeSupervisor : ByteArray := prog_5_method_8_code
def y_Csrs_writeSupervisor : MethodName := ⟨R_Csrs, "writeSupervisor", "(II)V"⟩
abbrev b_Csrs_writeMachine : ByteArray := prog_5_method_9_code
def y_Csrs_writeMachine : MethodName := ⟨R_Csrs, "writeMachine", "(II)V"⟩
abbrev b_Csrs_merged : ByteArray := prog_5_method_10_code
def y_Csrs_merged : MethodName := ⟨R_Csrs, "merged", "(III)I"⟩
abbrev b_Csrs_withoutLevelTwo : ByteArray := prog_5_method_11_code
def y_Csrs_withoutLevelTwo : MethodName := ⟨R_Csrs, "withoutLevelTwo", "(I)I"⟩
abbrev b_Csrs_dueInterrupt : ByteArray := prog_5_method_12_code
def y_Csrs_dueInterrupt : MethodName := ⟨R_Csrs, "dueInterrupt", "(II)I"⟩
abbrev b_Csrs_firstOf : ByteArray := prog_5_method_13_code
def y_Csrs_firstOf : MethodName := ⟨R_Csrs, "firstOf", "(I)I"⟩
abbrev b_Csrs_handsDownTrap : ByteArray := prog_5_method_14_code
def y_Csrs_handsDownTrap : MethodName := ⟨R_Csrs, "handsDownTrap", "(I)Z"⟩
abbrev b_Csrs_handsDownInterrupt : ByteArray := prog_5_method_15_code
def y_Csrs_handsDownInterrupt : MethodName := ⟨R_Csrs, "handsDownInterrupt", "(I)Z"⟩
abbrev b_Csrs_enterSupervisor : ByteArray := prog_5_method_16_code
def y_Csrs_enterSupervisor : MethodName := ⟨R_Csrs, "enterSupervisor", "(IIII)I"⟩
abbrev b_Csrs_enterMachine : ByteArray := prog_5_method_17_code
def y_Csrs_enterMachine : MethodName := ⟨R_Csrs, "enterMachine", "(IIII)I"⟩
abbrev b_Csrs_leaveSupervisor : ByteArray := prog_5_method_18_code
def y_Csrs_leaveSupervisor : MethodName := ⟨R_Csrs, "leaveSupervisor", "()I"⟩
abbrev b_Csrs_leaveMachine : ByteArray := prog_5_method_19_code
def y_Csrs_leaveMachine : MethodName := ⟨R_Csrs, "leaveMachine", "()I"⟩
abbrev b_Csrs_dataLevel : ByteArray := prog_5_method_20_code
def y_Csrs_dataLevel : MethodName := ⟨R_Csrs, "dataLevel", "(I)I"⟩
abbrev b_Csrs_hasPages : ByteArray := prog_5_method_21_code
def y_Csrs_hasPages : MethodName := ⟨R_Csrs, "hasPages", "()Z"⟩
abbrev b_Csrs_rootPage : ByteArray := prog_5_method_22_code
def y_Csrs_rootPage : MethodName := ⟨R_Csrs, "rootPage", "()I"⟩
abbrev b_Csrs_levelBefore : ByteArray := prog_5_method_23_code
def y_Csrs_levelBefore : MethodName := ⟨R_Csrs, "levelBefore", "()I"⟩
abbrev b_Csrs_has : ByteArray := prog_5_method_24_code
def y_Csrs_has : MethodName := ⟨R_Csrs, "has", "(I)Z"⟩
abbrev b_Fault_of : ByteArray := prog_6_method_2_code
def y_Fault_of : MethodName := ⟨R_Fault, "of", "(I)J"⟩
abbrev b_Fault_causeOf : ByteArray := prog_6_method_3_code
def y_Fault_causeOf : MethodName := ⟨R_Fault, "causeOf", "(J)I"⟩
abbrev b_Field_rd : ByteArray := prog_7_method_2_code
def y_Field_rd : MethodName := ⟨R_Field, "rd", "(I)I"⟩
abbrev b_Field_rs1 : ByteArray := prog_7_method_3_code
def y_Field_rs1 : MethodName := ⟨R_Field, "rs1", "(I)I"⟩
abbrev b_Field_rs2 : ByteArray := prog_7_method_4_code
def y_Field_rs2 : MethodName := ⟨R_Field, "rs2", "(I)I"⟩
abbrev b_Field_f3 : ByteArray := prog_7_method_5_code
def y_Field_f3 : MethodName := ⟨R_Field, "f3", "(I)I"⟩
abbrev b_Field_f7 : ByteArray := prog_7_method_6_code
def y_Field_f7 : MethodName := ⟨R_Field, "f7", "(I)I"⟩
abbrev b_Field_immediate : ByteArray := prog_7_method_7_code
def y_Field_immediate : MethodName := ⟨R_Field, "immediate", "(I)I"⟩
abbrev b_Field_upper : ByteArray := prog_7_method_8_code
def y_Field_upper : MethodName := ⟨R_Field, "upper", "(I)I"⟩
abbrev b_Field_storeOffset : ByteArray := prog_7_method_9_code
def y_Field_storeOffset : MethodName := ⟨R_Field, "storeOffset", "(I)I"⟩
abbrev b_Field_jumpOffset : ByteArray := prog_7_method_10_code
def y_Field_jumpOffset : MethodName := ⟨R_Field, "jumpOffset", "(I)I"⟩
abbrev b_Field_branchOffset : ByteArray := prog_7_method_11_code
def y_Field_branchOffset : MethodName := ⟨R_Field, "branchOffset", "(I)I"⟩
abbrev b_Hart_init : ByteArray := prog_8_method_1_code
def y_Hart_init : MethodName := ⟨R_Hart, "<init>", "(I)V"⟩
abbrev b_Hart_restart : ByteArray := prog_8_method_2_code
def y_Hart_restart : MethodName := ⟨R_Hart, "restart", "()V"⟩
abbrev b_Hart_run : ByteArray := prog_8_method_3_code
def y_Hart_run : MethodName := ⟨R_Hart, "run", "(LTwinHart$Memory;)I"⟩
abbrev b_Hart_execute : ByteArray := prog_8_method_4_code
def y_Hart_execute : MethodName := ⟨R_Hart, "execute", "(ILTwinHart$Memory;)I"⟩
abbrev b_Hart_goOn : ByteArray := prog_8_method_5_code
def y_Hart_goOn : MethodName := ⟨R_Hart, "goOn", "()I"⟩
abbrev b_Hart_finish : ByteArray := prog_8_method_6_code
def y_Hart_finish : MethodName := ⟨R_Hart, "finish", "(II)I"⟩
abbrev b_Hart_write : ByteArray := prog_8_method_7_code
def y_Hart_write : MethodName := ⟨R_Hart, "write", "(II)V"⟩
abbrev b_Hart_trap : ByteArray := prog_8_method_8_code
def y_Hart_trap : MethodName := ⟨R_Hart, "trap", "(II)I"⟩
abbrev b_Hart_illegal : ByteArray := prog_8_method_9_code
def y_Hart_illegal : MethodName := ⟨R_Hart, "illegal", "(I)I"⟩
abbrev b_Hart_fault : ByteArray := prog_8_method_10_code
def y_Hart_fault : MethodName := ⟨R_Hart, "fault", "(JI)I"⟩
abbrev b_Hart_take : ByteArray := prog_8_method_11_code
def y_Hart_take : MethodName := ⟨R_Hart, "take", "(IIZ)V"⟩
abbrev b_Hart_locate : ByteArray := prog_8_method_12_code
def y_Hart_locate : MethodName := ⟨R_Hart, "locate", "(IILTwinHart$Access;LTwinHart$Memory;)J"⟩
abbrev b_Hart_jump : ByteArray := prog_8_method_13_code
def y_Hart_jump : MethodName := ⟨R_Hart, "jump", "(II)I"⟩
abbrev b_Hart_jumpByRegister : ByteArray := prog_8_method_14_code
def y_Hart_jumpByRegister : MethodName := ⟨R_Hart, "jumpByRegister", "(I)I"⟩
abbrev b_Hart_branch : ByteArray := prog_8_method_15_code
def y_Hart_branch : MethodName := ⟨R_Hart, "branch", "(I)I"⟩
abbrev b_Hart_load : ByteArray := prog_8_method_16_code
def y_Hart_load : MethodName := ⟨R_Hart, "load", "(ILTwinHart$Memory;)I"⟩
abbrev b_Hart_store : ByteArray := prog_8_method_17_code
def y_Hart_store : MethodName := ⟨R_Hart, "store", "(ILTwinHart$Memory;)I"⟩
abbrev b_Hart_computeWithImmediate : ByteArray := prog_8_method_18_code
def y_Hart_computeWithImmediate : MethodName := ⟨R_Hart, "computeWithImmediate", "(I)I"⟩
abbrev b_Hart_compute : ByteArray := prog_8_method_19_code
def y_Hart_compute : MethodName := ⟨R_Hart, "compute", "(I)I"⟩
abbrev b_Hart_changeAtOnce : ByteArray := prog_8_method_20_code
def y_Hart_changeAtOnce : MethodName := ⟨R_Hart, "changeAtOnce", "(ILTwinHart$Memory;)I"⟩
abbrev b_Hart_isChange : ByteArray := prog_8_method_21_code
def y_Hart_isChange : MethodName := ⟨R_Hart, "isChange", "(II)Z"⟩
abbrev b_Hart_callSystem : ByteArray := prog_8_method_22_code
def y_Hart_callSystem : MethodName := ⟨R_Hart, "callSystem", "(I)I"⟩
abbrev b_Hart_returnFromMachine : ByteArray := prog_8_method_23_code
def y_Hart_returnFromMachine : MethodName := ⟨R_Hart, "returnFromMachine", "()I"⟩
abbrev b_Hart_returnFromSupervisor : ByteArray := prog_8_method_24_code
def y_Hart_returnFromSupervisor : MethodName := ⟨R_Hart, "returnFromSupervisor", "()I"⟩
abbrev b_Hart_exchange : ByteArray := prog_8_method_25_code
def y_Hart_exchange : MethodName := ⟨R_Hart, "exchange", "(ILTwinHart$Memory;)I"⟩
abbrev b_Hart_mixed : ByteArray := prog_8_method_26_code
def y_Hart_mixed : MethodName := ⟨R_Hart, "mixed", "(III)I"⟩
abbrev b_Memory_init : ByteArray := prog_9_method_1_code
def y_Memory_init : MethodName := ⟨R_Memory, "<init>", "(I)V"⟩
abbrev b_Memory_restart : ByteArray := prog_9_method_2_code
def y_Memory_restart : MethodName := ⟨R_Memory, "restart", "()V"⟩
abbrev b_Memory_hasWord : ByteArray := prog_9_method_3_code
def y_Memory_hasWord : MethodName := ⟨R_Memory, "hasWord", "(I)Z"⟩
abbrev b_Memory_isRam : ByteArray := prog_9_method_4_code
def y_Memory_isRam : MethodName := ⟨R_Memory, "isRam", "(J)Z"⟩
abbrev b_Memory_allows : ByteArray := prog_9_method_5_code
def y_Memory_allows : MethodName := ⟨R_Memory, "allows", "(JILTwinHart$Access;)Z"⟩
abbrev b_Memory_wordAt : ByteArray := prog_9_method_6_code
def y_Memory_wordAt : MethodName := ⟨R_Memory, "wordAt", "(J)I"⟩
abbrev b_Memory_load : ByteArray := prog_9_method_7_code
def y_Memory_load : MethodName := ⟨R_Memory, "load", "(JI)I"⟩
abbrev b_Memory_store : ByteArray := prog_9_method_8_code
def y_Memory_store : MethodName := ⟨R_Memory, "store", "(JII)V"⟩
abbrev b_Memory_print : ByteArray := prog_9_method_9_code
def y_Memory_print : MethodName := ⟨R_Memory, "print", "(I)V"⟩
abbrev b_Memory_claim : ByteArray := prog_9_method_10_code
def y_Memory_claim : MethodName := ⟨R_Memory, "claim", "(IJ)V"⟩
abbrev b_Memory_storeIfClaimed : ByteArray := prog_9_method_11_code
def y_Memory_storeIfClaimed : MethodName := ⟨R_Memory, "storeIfClaimed", "(IJI)Z"⟩
abbrev b_Memory_dropClaims : ByteArray := prog_9_method_12_code
def y_Memory_dropClaims : MethodName := ⟨R_Memory, "dropClaims", "()V"⟩
abbrev b_Memory_indexOf : ByteArray := prog_9_method_13_code
def y_Memory_indexOf : MethodName := ⟨R_Memory, "indexOf", "(J)I"⟩
abbrev b_Memory_shiftOf : ByteArray := prog_9_method_14_code
def y_Memory_shiftOf : MethodName := ⟨R_Memory, "shiftOf", "(J)I"⟩
abbrev b_Memory_maskOf : ByteArray := prog_9_method_15_code
def y_Memory_maskOf : MethodName := ⟨R_Memory, "maskOf", "(I)I"⟩
abbrev b_Pages_placeOf : ByteArray := prog_10_method_2_code
def y_Pages_placeOf : MethodName := ⟨R_Pages, "placeOf", "(ILTwinHart$Access;ILTwinHart$Csrs;LTwinHart$Memory;)J"⟩
abbrev b_Pages_entryPlace : ByteArray := prog_10_method_3_code
def y_Pages_entryPlace : MethodName := ⟨R_Pages, "entryPlace", "(II)J"⟩
abbrev b_Pages_isPage : ByteArray := prog_10_method_4_code
def y_Pages_isPage : MethodName := ⟨R_Pages, "isPage", "(I)Z"⟩
abbrev b_Pages_admits : ByteArray := prog_10_method_5_code
def y_Pages_admits : MethodName := ⟨R_Pages, "admits", "(ILTwinHart$Access;II)Z"⟩
abbrev b_law_cell : ByteArray := method_2_code
def y_law_cell : MethodName := ⟨R_law, "cell", "([II)I"⟩
-- ===== base: one list of words for every method, one form of contract =====
def tb : List Cond := lw_tbl.filter goodWord
theorem tb_in {w : Cond} (h : w ∈ lw_tbl) (hg : goodWord w = true) : w ∈ tb := List.mem_filter.mpr ⟨h, hg⟩
theorem tb_sub {w : Cond} (h : w ∈ tb) : w ∈ lw_tbl := (List.mem_filter.mp h).1
theorem tb_good {w : Cond} (h : w ∈ tb) : goodWord w = true := (List.mem_filter.mp h).2
theorem tb_G {w0 : Cond} (h0 : w0 ∈ tb) : GoodIn tb (w0 :: tb) := by
  intro w h
  rcases List.mem_cons.mp h with rfl | h
  · exact ⟨h0, good_of_word (tb_good h0)⟩
  · exact ⟨h, good_of_word (tb_good h)⟩
/-- links between nest mates aren't words that travel: they go along in the contracts -/
def isNest (w : Cond) : Bool := match w with
  | .fieldLinkNest .. => true
  | .methodLinkNest .. => true
  | _ => false
def NW (U : State) : Prop := ∀ w ∈ lw_tbl, isNest w = true → va_Nw w U
theorem NW.warm {s U : State} (hW : s.WarmedH U.vm) (h : NW s) : NW U := by
  intro w hw hn
  cases w <;> first | exact va_Nw.warmF hW (h _ hw hn) | exact va_Nw.warmM hW (h _ hw hn) | exact absurd hn (by simp [isNest])
theorem NW.same {u U : State} (hv : u.vm = U.vm) (h : NW u) : NW U := fun w hw hn => va_Nw.same (by cases w <;> first | rfl | (simp [isNest] at hn)) hv (h w hw hn)
-- ===== what the start gives of statics: the enum's constants, the table of interrupts =====
theorem tb_m {w : Cond} (i : Nat) (h : tables_1[i]? = some w) (hg : goodWord w = true) : w ∈ tb := tb_in (List.mem_append_right _ (List.mem_of_getElem? h)) hg
theorem tb_p {w : Cond} (i : Nat) (h : (k2_sels lw_privs)[i]? = some w) (hg : goodWord w = true) : w ∈ tb := tb_in (List.mem_append_left _ (List.mem_of_getElem? h)) hg
theorem u_in_tb {C : String} {T : u_T} {N : Nat} (ps : List Nat) (h : u_ws C T N = ps.filterMap (fun i => tables_1[i]?)) (hg : (u_ws C T N).all goodWord = true) : ∀ w ∈ u_ws C T N, w ∈ tb := by
  intro w hw
  have h1 := List.all_eq_true.mp hg w hw
  rw [h] at hw
  obtain ⟨i, -, hi⟩ := List.mem_filterMap.mp hw
  exact tb_m i hi h1
abbrev aF_misaligned : List Int32 := [0, 4, 6, 4, 6]
abbrev aF_accessFault : List Int32 := [1, 5, 7, 5, 7]
abbrev aF_pageFault : List Int32 := [12, 13, 15, 13, 15]
abbrev aF_ramAlone : List Int32 := [1, 0, 0, 1, 1]
abbrev aF_stores : List Int32 := [0, 0, 1, 0, 1]
abbrev q_misaligned : String × String × String × List Int32 := (R_Access, "misaligned", "I", aF_misaligned)
abbrev q_accessFault : String × String × String × List Int32 := (R_Access, "accessFault", "I", aF_accessFault)
abbrev q_pageFault : String × String × String × List Int32 := (R_Access, "pageFault", "I", aF_pageFault)
abbrev q_ramAlone : String × String × String × List Int32 := (R_Access, "ramAlone", "Z", aF_ramAlone)
abbrev q_stores : String × String × String × List Int32 := (R_Access, "stores", "Z", aF_stores)
abbrev FlA : List (String × String × String × List Int32) := [q_misaligned, q_accessFault, q_pageFault, q_ramAlone, q_stores]
abbrev nmA : List String := ["FETCH", "LOAD", "STORE", "CLAIM", "CHANGE"]
abbrev tabF : Nat → Value := fun j => .int (([3, 7, 9, 1, 5] : List Int32).getD j 0)
def SF (g : Nat → Nat) (A : Nat → Prop) (U : State) (H : Heap) : Prop :=
  NW U ∧ va_En R_Access "LTwinHart$Access;" nmA FlA (fun i => g (i + 1)) A U H ∧ va_Z R_Csrs "INTERRUPT_ORDER" "[I" (.ref (g 0)) A U H ∧ va_T .int (g 0) 5 tabF A U H
theorem SF.kept {g : Nat → Nat} {A : Nat → Prop} {U : State} {H H1 : Heap} (h : SF g A U H) (hq : ∀ a : Nat, a < H.size → ¬ A a → H1[a]? = H[a]?) : SF g A U H1 := ⟨h.1, h.2.1.kept hq, h.2.2.1.kept hq, h.2.2.2.kept hq⟩
theorem SF.narrow {g : Nat → Nat} {A B : Nat → Prop} {U : State} {H : Heap} (h : SF g A U H) (hAB : ∀ q, B q → A q) : SF g B U H := ⟨h.1, h.2.1.narrow hAB, h.2.2.1.narrow hAB, h.2.2.2.narrow hAB⟩
theorem SF.warm {g : Nat → Nat} {A : Nat → Prop} {s U : State} {H : Heap} (hW : s.WarmedH U.vm) (h : SF g A s H) : SF g A U H := ⟨h.1.warm hW, va_En.moved hW.alike h.2.1, va_Z.moved hW.alike h.2.2.1, va_T.moved hW.alike h.2.2.2⟩
theorem SF.same {g : Nat → Nat} {A : Nat → Prop} {u U : State} {H H1 : Heap} (hv : u.vm = U.vm) (hh : H = H1) (h : SF g A u H) : SF g A U H1 := by
  subst hh
  have al : u.vm.Alike U.vm := by rw [hv]; exact Vm.Alike.refl _
  exact ⟨h.1.same hv, va_En.moved al h.2.1, va_Z.moved al h.2.2.1, va_T.moved al h.2.2.2⟩
-- ===== the class's worlds =====
abbrev TM : Type := (Nat → Int32) × (Nat → Int32) × (Nat → Int32) × Int32 × (Nat → Int64)
abbrev TH : Type := TM × (Nat → Int32) × Int32 × Int32 × Int32 × (Nat → Int32)
abbrev csF (q : Nat → Int32) : List Value := [.int (q 0), .int (q 1), .int (q 2), .int (q 3), .int (q 4), .int (q 5), .int (q 6), .int (q 7), .int (q 8), .int (q 9), .int (q 10), .int (q 11), .int (q 12), .int (q 13), .int (q 14), .int (q 15), .int (q 16)]
abbrev wC (h : Nat) (q : Nat → Int32) : va_W := [(h, .inr (3, csF q))]
abbrev wK (a : Nat → Nat) (k : Nat → ClassId) (w : Nat → Int32) : va_W := [(a 1, .inr (2, [.ref (a 2)])), (a 2, .inl (k 0, 8, .inl w))]
abbrev wM (a : Nat → Nat) (k : Nat → ClassId) (n : Nat) (M : TM) : va_W := [(a 0, .inr (1, [.ref (a 3), .ref (a 1), .ref (a 4), .int M.2.2.2.1, .ref (a 5)])), (a 1, .inr (2, [.ref (a 2)])), (a 2, .inl (k 0, 8, .inl M.1)), (a 3, .inl (k 1, n, .inl M.2.1)), (a 4, .inl (k 2, 256, .inl M.2.2.1)), (a 5, .inl (k 3, 2, .inr (.inl M.2.2.2.2)))]
abbrev wH (a : Nat → Nat) (k : Nat → ClassId) (n : Nat) (id : Int32) (σ : TH) : va_W := [(a 0, .inr (1, [.ref (a 3), .ref (a 1), .ref (a 4), .int σ.1.2.2.2.1, .ref (a 5)])), (a 1, .inr (2, [.ref (a 2)])), (a 2, .inl (k 0, 8, .inl σ.1.1)), (a 3, .inl (k 1, n, .inl σ.1.2.1)), (a 4, .inl (k 2, 256, .inl σ.1.2.2.1)), (a 5, .inl (k 3, 2, .inr (.inl σ.1.2.2.2.2))), (a 6, .inr (4, [.int id, .ref (a 7), .ref (a 8), .int σ.2.2.1, .int σ.2.2.2.1, .int σ.2.2.2.2.1])), (a 7, .inl (k 4, 32, .inl σ.2.1)), (a 8, .inr (3, csF σ.2.2.2.2.2))]
abbrev tyM (k : Nat → ClassId) : List (ClassId × FieldType) := [(k 0, .int), (k 1, .int), (k 2, .byte), (k 3, .long)]
abbrev tyH (k : Nat → ClassId) : List (ClassId × FieldType) := [(k 0, .int), (k 1, .int), (k 2, .byte), (k 3, .long), (k 4, .int)]
/-- what a call of y needs of the tables -/
def MW (y : MethodName) (b : ByteArray) (nL : Nat) (ret : Option FieldType) (n : Nat) : Prop :=
  Cond.code y b nL ret ∈ tb ∧ Cond.initialized y.cls ∈ tb ∧ (y.cls ≠ "java/lang/invoke/MethodHandle" ∧ y.cls ≠ "java/lang/invoke/VarHandle" ∧ (parseMethodDescriptor y.desc).map (fun d => d.parameters.length) = some n)
def MWV (y : MethodName) : Prop := Cond.instanceMethod y ∈ tb ∧ Cond.selects y.cls y y ∈ tb
def MWS (y : MethodName) : Prop := Cond.static y ∈ tb
def PcT (D : va_G) (g : Nat → Nat) (As : List Value) (ws : va_W) (tys : List (ClassId × FieldType)) (sz : Nat) : Array Value → State → Prop :=
  va_Pc As (fun U => U.heap.size = sz ∧ va_P D classes ws U.heap ∧ va_K D classes tys U ∧ va_D (fun _ => True) ws ∧ SF g (va_A ws sz) U U.heap)
def BT {S : Type} (D : va_G) (W1 : S → va_W) (A : Nat → Prop) (u : S) (t : State) : Prop := va_P D classes (W1 u) t.heap ∧ va_D A (W1 u)
abbrev TQ : Type := (Nat → Prop) → Array Value → State → Outcome → State → Prop
abbrev Qi {S : Type} (D : va_G) (post : Int32 → S → Prop) (W1 : S → va_W) : TQ := fun A => va_Qi post (BT D W1 A) A
abbrev Ql {S : Type} (D : va_G) (post : Int64 → S → Prop) (W1 : S → va_W) : TQ := fun A => va_Ql post (BT D W1 A) A
abbrev Qv {S : Type} (D : va_G) (post : S → Prop) (W1 : S → va_W) : TQ := fun A => va_Qv post (BT D W1 A) A
/-- the contract of a method that makes no cell -/
def CT (l : Launch) (D : va_G) (g : Nat → Nat) (y : MethodName) (b : ByteArray) (nL : Nat) (ret : Option FieldType) (rm : Room) (As : List Value) (ws : va_W) (tys : List (ClassId × FieldType)) (Qc : TQ) : Prop :=
  ∀ sz : Nat, Met l y (.code y b nL ret :: tb) rm (PcT D g As ws tys sz) (Qc (va_A ws sz)) 0 0 (va_A ws sz)
abbrev rD (d : Nat) : Room := { frames := d, cells := 0, slots := 0, locals := 48 * d }
section Base1
variable {l : Launch} {D : va_G} {g : Nat → Nat} {y : MethodName} {b : ByteArray} {nL : Nat} {ret : Option FieldType} {rm : Room} {As : List Value} {ws : va_W} {tys : List (ClassId × FieldType)} {Qc : TQ}
theorem CT.of (hy : plainName y.cls = true) (hn : (lg_sl As).length ≤ nL)
    (body : ∀ (p : Program) (e : Env) (s : State) (m : MethodId) (below : List Frame) (meth : Method) (c : Code) (A : Nat → Prop) (ls : Array Slot), p.tables.exec = Jvm.exec → c.code = b → meth.sig.returnType = ret → c.maxLocals = nL → (∀ w ∈ tb, w.before As.toArray s = true) → s.vm.findClass y.cls = some m.cls → meth.locks = false → (∀ q : Nat, s.heap.size ≤ q → A q) → va_P D classes ws s.heap → va_K D classes tys s → va_D A ws → SF g A s s.heap → va_S A s.heap s.heap [] → lv_has ls nL (lv_args 0 As) →
      W p l e rm s m As.toArray below meth c s.heap [] 0 0 (MQ below (Qc A) As.toArray s 0 0 A) (F0 m 0 ls [])) : CT l D g y b nL ret rm As ws tys Qc := by
  intro sz
  refine Met.ofW (cc := b) (maxL := nL) (ret := ret) hy rfl ?_
  intro p e s m args below meth c s₁ B hml hv
  obtain ⟨rfl, hsz, hP, hK, hD0, hF⟩ := hv
  have hts := atoms_spec (ws := .code y b nL ret :: tb) B.pre
  have hown : s.vm.findClass y.cls = some m.cls := findClass_of_methodNamed B.named
  subst hsz
  have hD := hD0.self (sz := s.heap.size)
  have hl := lv_entry As (n := nL) hn
  rw [lg_entry_eq]
  exact body p e s m below meth c _ _ B.exec B.bytes B.returns hml (fun w h => hts w (List.mem_cons_of_mem _ h)) hown B.notSynchronized (fun q h => Or.inr h) hP hK hD hF va_S.rf hl
end Base1
section Base2
variable {p : Program} {l : Launch} {e : Env} {R : Room} {s : State} {m : MethodId} {args : Array Value} {below : List Frame} {meth : Method} {c : Code} {H : Heap} {locs : List Loc} {cells slots : Nat} {Q : State → Prop}
variable {D : va_G} {g : Nat → Nat} {y : MethodName} {yb cc : ByteArray} {yn nL index n pc : Nat} {ret : Option FieldType} {rm : Room} {As rest st0 : List Value} {ws wc wr : va_W} {tys tysc : List (ClassId × FieldType)} {Qc : TQ} {A : Nat → Prop} {own host : String} {ls : Array Slot} {a : Nat}
/-- what the callee's start asks, out of the caller's world -/
theorem x_pre (hK : va_K D classes tys s) (hP : va_P D classes ws H) (hD : va_D A ws) (hS : va_S A s.heap H locs) (hA : ∀ q : Nat, s.heap.size ≤ q → A q) (hF : SF g A s s.heap) (isC isT : List Nat) (hC : isC.map (fun i => ws[i]?) = wc.map some) (hnC : va_nd isC = true) (hT : isT.filterMap (fun i => tys[i]?) = tysc) :
    FrameBlind (PcT D g As wc tysc H.size) ∧ ∀ U : State, U.heap = H → s.WarmedH U.vm → PcT D g As wc tysc H.size As.toArray U := by
  have hf := va_free (wc := wc) hD hS hA isC hC
  refine ⟨fun a U g1 mk q => ?_, fun U hU hW => ⟨rfl, by rw [hU], ?_, va_K.moved hW.alike (hK.sub isT hT), (hD.sub isC hnC hC).weaken (fun _ _ _ _ => trivial), ?_⟩⟩
  · obtain ⟨q0, q1, qP, qK, qD, qF⟩ := q
    exact ⟨q0, q1, qP, va_K.moved (u := U) (U := U.calling g1 mk a) (Vm.Alike.refl U.vm) qK, qD, SF.same (u := U) (U := U.calling g1 mk a) rfl rfl qF⟩
  · rw [hU]
    intro k q hk
    have h1 : (isC.map (fun i => ws[i]?))[k]? = some (some q) := by rw [hC, List.getElem?_map, hk]; rfl
    rw [List.getElem?_map] at h1
    cases hi : isC[k]? with
    | none => rw [hi] at h1; cases h1
    | some i => rw [hi] at h1; exact hP i q (Option.some.inj h1)
  · rw [hU]
    exact ((hF.kept hS.2.1).narrow hf).warm hW
theorem x_cb (C : CallFix p m c cc nL s args tb own) (hw : MW y yb yn ret n) (hlink : Cond.methodLink own index y ∈ tb) (hrm : rm.cells = 0 ∧ rm.slots = 0 ∧ rm.frames + 1 ≤ R.frames ∧ 8 + (yn + 11) + rm.locals ≤ R.locals) :
    CallB R s args own index y yb yn ret (.code y yb yn ret :: tb) rm 0 0 n :=
  callB_of n C.2.2.2.2 (tb_G hw.1) rfl hrm.1 hrm.2.1 (C.2.2.2.2 _ hw.2.1) (C.2.2.2.2 _ hlink) hw.2.2 hrm.2.2
/-- an instance method of its own class -/
theorem xV (C : CallFix p m c cc nL s args tb own) (hM : CT l D g y yb yn ret rm (.ref a :: As) wc tysc Qc) (hw : MW y yb yn ret n) (hv : MWV y) (hlink : Cond.methodLink own index y ∈ tb) (hrm : rm.cells = 0 ∧ rm.slots = 0 ∧ rm.frames + 1 ≤ R.frames ∧ 8 + (yn + 11) + rm.locals ≤ R.locals)
    (hK : va_K D classes tys s) (hP : va_P D classes ws H) (hD : va_D A ws) (hS : va_S A s.heap H locs) (hA : ∀ q : Nat, s.heap.size ≤ q → A q) (hF : SF g A s s.heap) (isC isT : List Nat) (hC : isC.map (fun i => ws[i]?) = wc.map some) (hnC : va_nd isC = true) (hT : isT.filterMap (fun i => tys[i]?) = tysc)
    (q0 ci : Nat) {fs : List Value} {r : vw_C} (hc : classes[ci]? = some r) (hcr : r.1 = y.cls) (he : ws[q0]? = some (a, .inr (ci, fs))) (hn : As.length = n) (hl : ls.size = nL) (hst : st0 = As.reverse ++ .ref a :: rest) (hcat : (rest.map fun v => v.category).sum ≤ 8) (hdg : decode cc pc = .ok (.invokevirtual index, 3)) (hf : cells ≤ R.cells ∧ slots ≤ R.slots) :
    va_Run p l e R s m args below meth c H locs cells slots 0 0 (F0 m pc ls st0) rest (Qc (va_A wc H.size) (Value.ref a :: As).toArray) (va_A wc H.size) := by
  obtain ⟨hp1, hp2⟩ := x_pre (As := .ref a :: As) (g := g) hK hP hD hS hA hF isC isT hC hnC hT
  have hrc := va_recv hK hP hc he
  rw [hcr] at hrc
  exact va_runV (C := y.cls) C (hM H.size) ⟨x_cb C hw hlink hrm, C.2.2.2.2 _ hv.1, C.2.2.2.2 _ hv.2⟩ ⟨hp1, hrc, hp2⟩ rfl hn hl hst (lv_room hcat) hdg hf
/-- a static method -/
theorem xS (C : CallFix p m c cc nL s args tb own) (hM : CT l D g y yb yn ret rm As wc tysc Qc) (hw : MW y yb yn ret n) (hv : MWS y) (hlink : Cond.methodLink own index y ∈ tb) (hrm : rm.cells = 0 ∧ rm.slots = 0 ∧ rm.frames + 1 ≤ R.frames ∧ 8 + (yn + 11) + rm.locals ≤ R.locals)
    (hK : va_K D classes tys s) (hP : va_P D classes ws H) (hD : va_D A ws) (hS : va_S A s.heap H locs) (hA : ∀ q : Nat, s.heap.size ≤ q → A q) (hF : SF g A s s.heap) (isC isT : List Nat) (hC : isC.map (fun i => ws[i]?) = wc.map some) (hnC : va_nd isC = true) (hT : isT.filterMap (fun i => tys[i]?) = tysc)
    (hn : As.length = n) (hl : ls.size = nL) (hst : st0 = As.reverse ++ rest) (hcat : (rest.map fun v => v.category).sum ≤ 8) (hdg : decode cc pc = .ok (.invokestatic index, 3)) (hf : cells ≤ R.cells ∧ slots ≤ R.slots) :
    va_Run p l e R s m args below meth c H locs cells slots 0 0 (F0 m pc ls st0) rest (Qc (va_A wc H.size) As.toArray) (va_A wc H.size) :=
  va_runS C (hM H.size) ⟨x_cb C hw hlink hrm, C.2.2.2.2 _ hv⟩ (x_pre (g := g) hK hP hD hS hA hF isC isT hC hnC hT) rfl hn hl hst (lv_room hcat) hdg hf
/-- behind a call: the world, in its old order -/
theorem x_post {S : Type} {W1 W2 : S → va_W} {u : S} {t : State} {H1 : Heap} (hP : va_P D classes ws H) (hD : va_D A ws) (hS : va_S A s.heap H locs) (hA : ∀ q : Nat, s.heap.size ≤ q → A q) (isC isR isO : List Nat) (hC : isC.map (fun i => ws[i]?) = wc.map some) (hR : isR.map (fun i => ws[i]?) = wr.map some) (hnR : va_nd isR = true) (hdis : ∀ i ∈ isR, i ∉ isC) (hO : ∀ u, isO.map (fun i => (wr ++ W1 u)[i]?) = (W2 u).map some) (hnO : va_nd isO = true)
    (ht : t.heap = H1) (hk : ∀ q : Nat, q < H.size → ¬ va_A wc H.size q → H1[q]? = H[q]?) (hB : BT D W1 (va_A wc H.size) u t) : va_P D classes (W2 u) H1 ∧ va_D A (W2 u) := by
  obtain ⟨hP1, hD1⟩ := hB
  rw [ht] at hP1
  obtain ⟨h1, h2⟩ := va_join (wr := wr) (w1 := W1 u) hP hD isC isR hC hR hnR hdis hk (va_free (wc := wc) hD hS hA isC hC) hP1 hD1
  refine ⟨?_, h2.sub isO hnO (hO u)⟩
  intro k q hq
  have h3 : (isO.map (fun i => (wr ++ W1 u)[i]?))[k]? = some (some q) := by rw [hO u, List.getElem?_map, hq]; rfl
  rw [List.getElem?_map] at h3
  cases hi : isO[k]? with
  | none => rw [hi] at h3; cases h3
  | some i => rw [hi] at h3; exact h1 i q (Option.some.inj h3)
theorem xi {S : Type} {post : Int32 → S → Prop} {W1 W2 : S → va_W} {av : Array Value} (hr : va_Run p l e R s m args below meth c H locs cells slots 0 0 (F0 m pc ls st0) rest (Qi D post W1 (va_A wc H.size) av) (va_A wc H.size))
    (hP : va_P D classes ws H) (hD : va_D A ws) (hS : va_S A s.heap H locs) (hA : ∀ q : Nat, s.heap.size ≤ q → A q) (isC isR isO : List Nat) (hC : isC.map (fun i => ws[i]?) = wc.map some) (hR : isR.map (fun i => ws[i]?) = wr.map some) (hnR : va_nd isR = true) (hdis : ∀ i ∈ isR, i ∉ isC) (hO : ∀ u, isO.map (fun i => (wr ++ W1 u)[i]?) = (W2 u).map some) (hnO : va_nd isO = true)
    (kk : ∀ (r : Int32) (u : S) (H1 : Heap) (locs1 : List Loc), post r u → va_P D classes (W2 u) H1 → va_D A (W2 u) → va_S A s.heap H1 locs1 → W p l e R s m args below meth c H1 locs1 cells slots Q (F0 m (pc + 3) ls (.int r :: rest))) : W p l e R s m args below meth c H locs cells slots Q (F0 m pc ls st0) := by
  have hf := va_free (wc := wc) hD hS hA isC hC
  refine va_calli hr hS (fun q _ h => hf q h) hf (fun r u t H1 locs1 ht hvm hw hB hz hk hS1 => ?_)
  obtain ⟨h1, h2⟩ := x_post (W2 := W2) hP hD hS hA isC isR isO hC hR hnR hdis hO hnO ht hk hB
  exact kk r u H1 locs1 hw h1 h2 hS1
theorem xl {S : Type} {post : Int64 → S → Prop} {W1 W2 : S → va_W} {av : Array Value} (hr : va_Run p l e R s m args below meth c H locs cells slots 0 0 (F0 m pc ls st0) rest (Ql D post W1 (va_A wc H.size) av) (va_A wc H.size))
    (hP : va_P D classes ws H) (hD : va_D A ws) (hS : va_S A s.heap H locs) (hA : ∀ q : Nat, s.heap.size ≤ q → A q) (isC isR isO : List Nat) (hC : isC.map (fun i => ws[i]?) = wc.map some) (hR : isR.map (fun i => ws[i]?) = wr.map some) (hnR : va_nd isR = true) (hdis : ∀ i ∈ isR, i ∉ isC) (hO : ∀ u, isO.map (fun i => (wr ++ W1 u)[i]?) = (W2 u).map some) (hnO : va_nd isO = true)
    (kk : ∀ (r : Int64) (u : S) (H1 : Heap) (locs1 : List Loc), post r u → va_P D classes (W2 u) H1 → va_D A (W2 u) → va_S A s.heap H1 locs1 → W p l e R s m args below meth c H1 locs1 cells slots Q (F0 m (pc + 3) ls (.long r :: rest))) : W p l e R s m args below meth c H locs cells slots Q (F0 m pc ls st0) := by
  have hf := va_free (wc := wc) hD hS hA isC hC
  refine va_calll hr hS (fun q _ h => hf q h) hf (fun r u t H1 locs1 ht hvm hw hB hz hk hS1 => ?_)
  obtain ⟨h1, h2⟩ := x_post (W2 := W2) hP hD hS hA isC isR isO hC hR hnR hdis hO hnO ht hk hB
  exact kk r u H1 locs1 hw h1 h2 hS1
theorem xv {S : Type} {post : S → Prop} {W1 W2 : S → va_W} {av : Array Value} (hr : va_Run p l e R s m args below meth c H locs cells slots 0 0 (F0 m pc ls st0) rest (Qv D post W1 (va_A wc H.size) av) (va_A wc H.size))
    (hP : va_P D classes ws H) (hD : va_D A ws) (hS : va_S A s.heap H locs) (hA : ∀ q : Nat, s.heap.size ≤ q → A q) (isC isR isO : List Nat) (hC : isC.map (fun i => ws[i]?) = wc.map some) (hR : isR.map (fun i => ws[i]?) = wr.map some) (hnR : va_nd isR = true) (hdis : ∀ i ∈ isR, i ∉ isC) (hO : ∀ u, isO.map (fun i => (wr ++ W1 u)[i]?) = (W2 u).map some) (hnO : va_nd isO = true)
    (kk : ∀ (u : S) (H1 : Heap) (locs1 : List Loc), post u → va_P D classes (W2 u) H1 → va_D A (W2 u) → va_S A s.heap H1 locs1 → W p l e R s m args below meth c H1 locs1 cells slots Q (F0 m (pc + 3) ls rest)) : W p l e R s m args below meth c H locs cells slots Q (F0 m pc ls st0) := by
  have hf := va_free (wc := wc) hD hS hA isC hC
  refine va_callv hr hS (fun q _ h => hf q h) hf (fun u t H1 locs1 ht hvm hw hB hz hk hS1 => ?_)
  obtain ⟨h1, h2⟩ := x_post (W2 := W2) hP hD hS hA isC isR isO hC hR hnR hdis hO hnO ht hk hB
  exact kk u H1 locs1 hw h1 h2 hS1
/-- ends -/
theorem ri {S : Type} {post : Int32 → S → Prop} {W1 : S → va_W} (u : S) {v : Int32} (hx : p.tables.exec = Jvm.exec) (hb : c.code = cc) (hr : meth.sig.returnType = some .int) (hlocks : meth.locks = false) (hP : va_P D classes (W1 u) H) (hD : va_D A (W1 u)) (hS : va_S A s.heap H locs) (hdg : decode cc pc = .ok (.ireturn, 1)) (hpost : post v u) : W p l e R s m args below meth c H locs 0 0 (MQ below (Qi D post W1 A) args s 0 0 A) (F0 m pc ls [.int v]) :=
  W.iret hx hb hr (fun t ht _ => ⟨⟨v, u, rfl, hpost, by rw [ht]; exact hP, hD⟩, hS.F ht⟩) hS.2.2 hdg hlocks
theorem rz {S : Type} {post : Int32 → S → Prop} {W1 : S → va_W} (u : S) {v : Int32} {ty : FieldType} (hx : p.tables.exec = Jvm.exec) (hb : c.code = cc) (hr : meth.sig.returnType = some ty) (hlocks : meth.locks = false) (hn : narrow ty (.int v) = .int v) (hP : va_P D classes (W1 u) H) (hD : va_D A (W1 u)) (hS : va_S A s.heap H locs) (hdg : decode cc pc = .ok (.ireturn, 1)) (hpost : post v u) : W p l e R s m args below meth c H locs 0 0 (MQ below (Qi D post W1 A) args s 0 0 A) (F0 m pc ls [.int v]) :=
  W.zret hx hb hr hn (fun t ht _ => ⟨⟨v, u, rfl, hpost, by rw [ht]; exact hP, hD⟩, hS.F ht⟩) hS.2.2 hdg hlocks
theorem rl {S : Type} {post : Int64 → S → Prop} {W1 : S → va_W} (u : S) {v : Int64} (hx : p.tables.exec = Jvm.exec) (hb : c.code = cc) (hr : meth.sig.returnType = some .long) (hlocks : meth.locks = false) (hP : va_P D classes (W1 u) H) (hD : va_D A (W1 u)) (hS : va_S A s.heap H locs) (hdg : decode cc pc = .ok (.lreturn, 1)) (hpost : post v u) : W p l e R s m args below meth c H locs 0 0 (MQ below (Ql D post W1 A) args s 0 0 A) (F0 m pc ls [.long v]) :=
  W.lret hx hb hr (fun t ht _ => ⟨⟨v, u, rfl, hpost, by rw [ht]; exact hP, hD⟩, hS.F ht⟩) hS.2.2 hdg hlocks
theorem rv {S : Type} {post : S → Prop} {W1 : S → va_W} (u : S) (hx : p.tables.exec = Jvm.exec) (hb : c.code = cc) (hr : meth.sig.returnType = none) (hlocks : meth.locks = false) (hP : va_P D classes (W1 u) H) (hD : va_D A (W1 u)) (hS : va_S A s.heap H locs) (hdg : decode cc pc = .ok (.return_, 1)) (hpost : post u) : W p l e R s m args below meth c H locs 0 0 (MQ below (Qv D post W1 A) args s 0 0 A) (F0 m pc ls []) :=
  W.vret hx hb hr (fun t ht _ => ⟨⟨u, rfl, hpost, by rw [ht]; exact hP, hD⟩, hS.F ht⟩) hS.2.2 hdg hlocks
end Base2
-- ===== rows of the kit with the new world named =====
def ush (x y : Int32) : Int32 := (x.toUInt32 >>> (y.toUInt32 &&& Int32.toUInt32 31)).toInt32
def lush (x : Int64) (y : Int32) : Int64 := (x.toUInt64 >>> (y.toInt64.toUInt64 &&& Int64.toUInt64 63)).toInt64
def lshl (x : Int64) (y : Int32) : Int64 := x <<< (y.toInt64 &&& 63)
def lshr (x : Int64) (y : Int32) : Int64 := x >>> (y.toInt64 &&& 63)
def shl (x y : Int32) : Int32 := x <<< (y &&& 31)
def shr (x y : Int32) : Int32 := x >>> (y &&& 31)
theorem nz {r : Int32} (h : r = 0 ∨ r = 1) : narrow .boolean (.int r) = .int r := by
  rcases h with rfl | rfl <;> rfl
section Rows2
variable {p : Program} {l : Launch} {e : Env} {R : Room} {s : State} {m : MethodId} {args : Array Value} {below : List Frame} {meth : Method} {c : Code} {H : Heap} {locs : List Loc} {cells slots : Nat} {Q : State → Prop}
variable {cc : ByteArray} {pc : Nat} {ls : Array Slot} {rest : List Value} {D : va_G} {cl : List vw_C} {A : Nat → Prop} {a : Nat} {tys : List (ClassId × FieldType)} {ws ws' : va_W} {H0 : Heap}
theorem y_put (hexec : p.tables.exec = Jvm.exec) (hb : c.code = cc) {own ref C : String} {T : u_T} {N ci index : Nat} {Ts : List Cond} (hts : ∀ w ∈ Ts, w.before args s = true) (hin : ∀ w ∈ u_ws C T N, w ∈ Ts) (ty0 : Nat → FieldType) (hty : ∀ k, k < N → parseFieldDescriptor (T k).2.2.1 = some (ty0 k)) (hnm : ∀ a, a < N → ∀ b, b < N → a ≠ b → (T a).2.1 ≠ (T b).2.1) (hown : s.vm.findClass own = some m.cls) (hK : va_K D cl tys s) (hP : va_P D cl ws H) (hD : va_D A ws) (hS0 : va_S A H0 H locs) (q0 : Nat) {fs : List Value} (he : ws[q0]? = some (a, .inr (ci, fs))) (hc : cl[ci]? = some (C, T, N)) (k : Nat) (hk : k < N) (hlink : (Cond.fieldLink own index ref (T k).2.1 (T k).2.2.1).before args s = true) (hsame : ∀ x, s.fieldFound? (T k).1 (T k).2.1 (T k).2.2.1 = some x → s.fieldFound? ref (T k).2.1 (T k).2.2.1 = some x) (hfin : (T k).2.2.2 = false) {ty : FieldType} {v : Value} (hd : parseFieldDescriptor (T k).2.2.1 = some ty) (hn : narrow ty v = v) (hfit : fits ty v = true) (hl : k < fs.length)
    (hdg : decode cc pc = .ok (.putfield index, 3)) (hw : ws.set q0 (a, .inr (ci, fs.set k v)) = ws') (kk : ∀ (H1 : Heap) (locs1 : List Loc), va_P D cl ws' H1 → va_D A ws' → va_S A H0 H1 locs1 → W p l e R s m args below meth c H1 locs1 cells slots Q (F0 m (pc + 3) ls rest)) : W p l e R s m args below meth c H locs cells slots Q (F0 m pc ls (v :: .ref a :: rest)) := by
  subst hw
  exact va_put hexec hb hts hin ty0 hty hnm hown hK hP hD hS0 q0 he hc k hk hlink hsame hfin hd hn hfit hl hdg kk
theorem y_putN (hexec : p.tables.exec = Jvm.exec) (hb : c.code = cc) {own ref C host : String} {T : u_T} {N ci index : Nat} {Ts : List Cond} (hts : ∀ w ∈ Ts, w.before args s = true) (hin : ∀ w ∈ u_ws C T N, w ∈ Ts) (ty0 : Nat → FieldType) (hty : ∀ k, k < N → parseFieldDescriptor (T k).2.2.1 = some (ty0 k)) (hnm : ∀ a, a < N → ∀ b, b < N → a ≠ b → (T a).2.1 ≠ (T b).2.1) (hown : s.vm.findClass own = some m.cls) (hK : va_K D cl tys s) (hP : va_P D cl ws H) (hD : va_D A ws) (hS0 : va_S A H0 H locs) (q0 : Nat) {fs : List Value} (he : ws[q0]? = some (a, .inr (ci, fs))) (hc : cl[ci]? = some (C, T, N)) (k : Nat) (hk : k < N) (hlink : (Cond.fieldLinkNest own index ref (T k).2.1 (T k).2.2.1 host).before args s = true) (hsame : ∀ x, s.fieldFound? (T k).1 (T k).2.1 (T k).2.2.1 = some x → s.fieldFound? ref (T k).2.1 (T k).2.2.1 = some x) (hfin : (T k).2.2.2 = false) {ty : FieldType} {v : Value} (hd : parseFieldDescriptor (T k).2.2.1 = some ty) (hn : narrow ty v = v) (hfit : fits ty v = true) (hl : k < fs.length)
    (hdg : decode cc pc = .ok (.putfield index, 3)) (hw : ws.set q0 (a, .inr (ci, fs.set k v)) = ws') (kk : ∀ (H1 : Heap) (locs1 : List Loc), va_P D cl ws' H1 → va_D A ws' → va_S A H0 H1 locs1 → W p l e R s m args below meth c H1 locs1 cells slots Q (F0 m (pc + 3) ls rest)) : W p l e R s m args below meth c H locs cells slots Q (F0 m pc ls (v :: .ref a :: rest)) := by
  subst hw
  exact va_putN hexec hb hts hin ty0 hty hnm hown hK hP hD hS0 q0 he hc k hk hlink hsame hfin hd hn hfit hl hdg kk
theorem y_iald (hexec : p.tables.exec = Jvm.exec) (hb : c.code = cc) (hK : va_K D cl tys s) (hP : va_P D cl ws H) (q0 t0 : Nat) {cA : ClassId} {n : Nat} {f : Nat → Int32} (ha : ws[q0]? = some (a, .inl (cA, n, .inl f))) (ht : tys[t0]? = some (cA, .int)) {i : Int32} (hin : vp_in i n) {v : Int32} (hv : f i.toNatClampNeg = v) (hdg : decode cc pc = .ok (.iaload, 1))
    (kk : W p l e R s m args below meth c H locs cells slots Q (F0 m (pc + 1) ls (.int v :: rest))) : W p l e R s m args below meth c H locs cells slots Q (F0 m pc ls (.int i :: .ref a :: rest)) := by
  subst hv
  exact va_iald hexec hb hK hP q0 t0 ha ht hin hdg kk
theorem y_bald (hexec : p.tables.exec = Jvm.exec) (hb : c.code = cc) (hK : va_K D cl tys s) (hP : va_P D cl ws H) (q0 t0 : Nat) {cA : ClassId} {n : Nat} {f : Nat → Int32} (ha : ws[q0]? = some (a, .inl (cA, n, .inl f))) (ht : tys[t0]? = some (cA, .byte)) {i : Int32} (hin : vp_in i n) {v : Int32} (hv : f i.toNatClampNeg = v) (hdg : decode cc pc = .ok (.baload, 1))
    (kk : W p l e R s m args below meth c H locs cells slots Q (F0 m (pc + 1) ls (.int v :: rest))) : W p l e R s m args below meth c H locs cells slots Q (F0 m pc ls (.int i :: .ref a :: rest)) := by
  subst hv
  exact va_bald hexec hb hK hP q0 t0 ha ht hin hdg kk
theorem y_lald (hexec : p.tables.exec = Jvm.exec) (hb : c.code = cc) (hK : va_K D cl tys s) (hP : va_P D cl ws H) (q0 t0 : Nat) {cA : ClassId} {n : Nat} {f : Nat → Int64} (ha : ws[q0]? = some (a, .inl (cA, n, .inr (.inl f)))) (ht : tys[t0]? = some (cA, .long)) {i : Int32} (hin : vp_in i n) {v : Int64} (hv : f i.toNatClampNeg = v) (hdg : decode cc pc = .ok (.laload, 1))
    (kk : W p l e R s m args below meth c H locs cells slots Q (F0 m (pc + 1) ls (.long v :: rest))) : W p l e R s m args below meth c H locs cells slots Q (F0 m pc ls (.int i :: .ref a :: rest)) := by
  subst hv
  exact va_lald hexec hb hK hP q0 t0 ha ht hin hdg kk
theorem y_iast (hexec : p.tables.exec = Jvm.exec) (hb : c.code = cc) (hK : va_K D cl tys s) (hP : va_P D cl ws H) (hD : va_D A ws) (hS : va_S A H0 H locs) (q0 t0 : Nat) {cA : ClassId} {n : Nat} {f : Nat → Int32} (ha : ws[q0]? = some (a, .inl (cA, n, .inl f))) (ht : tys[t0]? = some (cA, .int)) {i : Int32} {x : Int32} (hin : vp_in i n) (hdg : decode cc pc = .ok (.iastore, 1))
    (hw : ws.set q0 (a, .inl (cA, n, .inl (upd f i.toNatClampNeg x))) = ws')
    (kk : ∀ (H1 : Heap) (locs1 : List Loc), va_P D cl ws' H1 → va_D A ws' → va_S A H0 H1 locs1 → W p l e R s m args below meth c H1 locs1 cells slots Q (F0 m (pc + 1) ls rest)) : W p l e R s m args below meth c H locs cells slots Q (F0 m pc ls (.int x :: .int i :: .ref a :: rest)) := by
  subst hw
  exact va_iast hexec hb hK hP hD hS q0 t0 ha ht hin hdg kk
theorem y_bast (hexec : p.tables.exec = Jvm.exec) (hb : c.code = cc) (hK : va_K D cl tys s) (hP : va_P D cl ws H) (hD : va_D A ws) (hS : va_S A H0 H locs) (q0 t0 : Nat) {cA : ClassId} {n : Nat} {f : Nat → Int32} (ha : ws[q0]? = some (a, .inl (cA, n, .inl f))) (ht : tys[t0]? = some (cA, .byte)) {i : Int32} {x : Int32} (hin : vp_in i n) (hdg : decode cc pc = .ok (.bastore, 1))
    (hw : ws.set q0 (a, .inl (cA, n, .inl (upd f i.toNatClampNeg (vp_nar .byte x)))) = ws')
    (kk : ∀ (H1 : Heap) (locs1 : List Loc), va_P D cl ws' H1 → va_D A ws' → va_S A H0 H1 locs1 → W p l e R s m args below meth c H1 locs1 cells slots Q (F0 m (pc + 1) ls rest)) : W p l e R s m args below meth c H locs cells slots Q (F0 m pc ls (.int x :: .int i :: .ref a :: rest)) := by
  subst hw
  exact va_bast hexec hb hK hP hD hS q0 t0 ha ht hin hdg kk
theorem y_last (hexec : p.tables.exec = Jvm.exec) (hb : c.code = cc) (hK : va_K D cl tys s) (hP : va_P D cl ws H) (hD : va_D A ws) (hS : va_S A H0 H locs) (q0 t0 : Nat) {cA : ClassId} {n : Nat} {f : Nat → Int64} (ha : ws[q0]? = some (a, .inl (cA, n, .inr (.inl f)))) (ht : tys[t0]? = some (cA, .long)) {i : Int32} {x : Int64} (hin : vp_in i n) (hdg : decode cc pc = .ok (.lastore, 1))
    (hw : ws.set q0 (a, .inl (cA, n, .inr (.inl (vp_updL f i.toNatClampNeg x)))) = ws')
    (kk : ∀ (H1 : Heap) (locs1 : List Loc), va_P D cl ws' H1 → va_D A ws' → va_S A H0 H1 locs1 → W p l e R s m args below meth c H1 locs1 cells slots Q (F0 m (pc + 1) ls rest)) : W p l e R s m args below meth c H locs cells slots Q (F0 m pc ls (.long x :: .int i :: .ref a :: rest)) := by
  subst hw
  exact va_last hexec hb hK hP hD hS q0 t0 ha ht hin hdg kk
theorem y_ishl (hexec : p.tables.exec = Jvm.exec) (hb : c.code = cc) {x y : Int32} (hdg : decode cc pc = .ok (.ishl, 1)) (k : W p l e R s m args below meth c H locs cells slots Q (F0 m (pc + 1) ls (.int (shl x y) :: rest))) : W p l e R s m args below meth c H locs cells slots Q (F0 m pc ls (.int y :: .int x :: rest)) := lv_ishl hexec hb hdg k
theorem y_ishr (hexec : p.tables.exec = Jvm.exec) (hb : c.code = cc) {x y : Int32} (hdg : decode cc pc = .ok (.ishr, 1)) (k : W p l e R s m args below meth c H locs cells slots Q (F0 m (pc + 1) ls (.int (shr x y) :: rest))) : W p l e R s m args below meth c H locs cells slots Q (F0 m pc ls (.int y :: .int x :: rest)) := lv_ishr hexec hb hdg k
end Rows2
