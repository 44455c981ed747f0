/-! bytes and words -/
theorem by_0 (v : Int32) : byt v 0 = (shr v 0).toInt8.toInt32 := rfl
theorem by_1 (v : Int32) : byt v 1 = (shr v 8).toInt8.toInt32 := rfl
theorem by_2 (v : Int32) : byt v 2 = (shr v 16).toInt8.toInt32 := rfl
theorem by_3 (v : Int32) : byt v 3 = (shr v 24).toInt8.toInt32 := rfl
theorem wd_4 (v : Int32) : (((byt v 0 &&& 255) ||| (shl (byt v 1 &&& 255) 8)) ||| (shl (byt v 2 &&& 255) 16)) ||| (shl (byt v 3 &&& 255) 24) = v := by
  apply b_ext
  intro i hi
  rcases lt32 hi with rfl | rfl | rfl | rfl | rfl | rfl | rfl | rfl | rfl | rfl | rfl | rfl | rfl | rfl | rfl | rfl | rfl | rfl | rfl | rfl | rfl | rfl | rfl | rfl | rfl | rfl | rfl | rfl | rfl | rfl | rfl | rfl <;> simp [b_or, b_and, b_xor, b_i8, b_i16, bc_255, by_0, by_1, by_2, by_3, bsl_0, bus_0, bsr_0, bsl_1, bus_1, bsr_1, bsl_2, bus_2, bsr_2, bsl_3, bus_3, bsr_3, bsl_4, bus_4, bsr_4, bsl_5, bus_5, bsr_5, bsl_6, bus_6, bsr_6, bsl_7, bus_7, bsr_7, bsl_8, bus_8, bsr_8, bsl_9, bus_9, bsr_9, bsl_10, bus_10, bsr_10, bsl_11, bus_11, bsr_11, bsl_12, bus_12, bsr_12, bsl_13, bus_13, bsr_13, bsl_14, bus_14, bsr_14, bsl_15, bus_15, bsr_15, bsl_16, bus_16, bsr_16, bsl_17, bus_17, bsr_17, bsl_18, bus_18, bsr_18, bsl_19, bus_19, bsr_19, bsl_20, bus_20, bsr_20, bsl_21, bus_21, bsr_21, bsl_22, bus_22, bsr_22, bsl_23, bus_23, bsr_23, bsl_24, bus_24, bsr_24, bsl_25, bus_25, bsr_25, bsl_26, bus_26, bsr_26, bsl_27, bus_27, bsr_27, bsl_28, bus_28, bsr_28, bsl_29, bus_29, bsr_29, bsl_30, bus_30, bsr_30, bsl_31, bus_31, bsr_31]
