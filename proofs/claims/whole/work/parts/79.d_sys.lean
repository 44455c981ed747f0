-- ===== the CSR instructions and the system ones =====
theorem bc_137352 : bt 137352 0 = false ∧ bt 137352 1 = false ∧ bt 137352 2 = false ∧ bt 137352 3 = true ∧ bt 137352 4 = false ∧ bt 137352 5 = false ∧ bt 137352 6 = false ∧ bt 137352 7 = true ∧ bt 137352 8 = false ∧ bt 137352 9 = false ∧ bt 137352 10 = false ∧ bt 137352 11 = true ∧ bt 137352 12 = true ∧ bt 137352 13 = false ∧ bt 137352 14 = false ∧ bt 137352 15 = false ∧ bt 137352 16 = false ∧ bt 137352 17 = true ∧ bt 137352 18 = false ∧ bt 137352 19 = false ∧ bt 137352 20 = false ∧ bt 137352 21 = false ∧ bt 137352 22 = false ∧ bt 137352 23 = false ∧ bt 137352 24 = false ∧ bt 137352 25 = false ∧ bt 137352 26 = false ∧ bt 137352 27 = false ∧ bt 137352 28 = false ∧ bt 137352 29 = false ∧ bt 137352 30 = false ∧ bt 137352 31 = false := by decide +kernel
theorem bc_m137353 : bt (-137353) 0 = true ∧ bt (-137353) 1 = true ∧ bt (-137353) 2 = true ∧ bt (-137353) 3 = false ∧ bt (-137353) 4 = true ∧ bt (-137353) 5 = true ∧ bt (-137353) 6 = true ∧ bt (-137353) 7 = false ∧ bt (-137353) 8 = true ∧ bt (-137353) 9 = true ∧ bt (-137353) 10 = true ∧ bt (-137353) 11 = false ∧ bt (-137353) 12 = false ∧ bt (-137353) 13 = true ∧ bt (-137353) 14 = true ∧ bt (-137353) 15 = true ∧ bt (-137353) 16 = true ∧ bt (-137353) 17 = false ∧ bt (-137353) 18 = true ∧ bt (-137353) 19 = true ∧ bt (-137353) 20 = true ∧ bt (-137353) 21 = true ∧ bt (-137353) 22 = true ∧ bt (-137353) 23 = true ∧ bt (-137353) 24 = true ∧ bt (-137353) 25 = true ∧ bt (-137353) 26 = true ∧ bt (-137353) 27 = true ∧ bt (-137353) 28 = true ∧ bt (-137353) 29 = true ∧ bt (-137353) 30 = true ∧ bt (-137353) 31 = true := by decide +kernel
theorem bc_m6153 : bt (-6153) 0 = true ∧ bt (-6153) 1 = true ∧ bt (-6153) 2 = true ∧ bt (-6153) 3 = false ∧ bt (-6153) 4 = true ∧ bt (-6153) 5 = true ∧ bt (-6153) 6 = true ∧ bt (-6153) 7 = true ∧ bt (-6153) 8 = true ∧ bt (-6153) 9 = true ∧ bt (-6153) 10 = true ∧ bt (-6153) 11 = false ∧ bt (-6153) 12 = false ∧ bt (-6153) 13 = true ∧ bt (-6153) 14 = true ∧ bt (-6153) 15 = true ∧ bt (-6153) 16 = true ∧ bt (-6153) 17 = true ∧ bt (-6153) 18 = true ∧ bt (-6153) 19 = true ∧ bt (-6153) 20 = true ∧ bt (-6153) 21 = true ∧ bt (-6153) 22 = true ∧ bt (-6153) 23 = true ∧ bt (-6153) 24 = true ∧ bt (-6153) 25 = true ∧ bt (-6153) 26 = true ∧ bt (-6153) 27 = true ∧ bt (-6153) 28 = true ∧ bt (-6153) 29 = true ∧ bt (-6153) 30 = true ∧ bt (-6153) 31 = true := by decide +kernel
theorem bc_m137225 : bt (-137225) 0 = true ∧ bt (-137225) 1 = true ∧ bt (-137225) 2 = true ∧ bt (-137225) 3 = false ∧ bt (-137225) 4 = true ∧ bt (-137225) 5 = true ∧ bt (-137225) 6 = true ∧ bt (-137225) 7 = true ∧ bt (-137225) 8 = true ∧ bt (-137225) 9 = true ∧ bt (-137225) 10 = true ∧ bt (-137225) 11 = false ∧ bt (-137225) 12 = false ∧ bt (-137225) 13 = true ∧ bt (-137225) 14 = true ∧ bt (-137225) 15 = true ∧ bt (-137225) 16 = true ∧ bt (-137225) 17 = false ∧ bt (-137225) 18 = true ∧ bt (-137225) 19 = true ∧ bt (-137225) 20 = true ∧ bt (-137225) 21 = true ∧ bt (-137225) 22 = true ∧ bt (-137225) 23 = true ∧ bt (-137225) 24 = true ∧ bt (-137225) 25 = true ∧ bt (-137225) 26 = true ∧ bt (-137225) 27 = true ∧ bt (-137225) 28 = true ∧ bt (-137225) 29 = true ∧ bt (-137225) 30 = true ∧ bt (-137225) 31 = true := by decide +kernel
theorem bc_131362 : bt 131362 0 = false ∧ bt 131362 1 = true ∧ bt 131362 2 = false ∧ bt 131362 3 = false ∧ bt 131362 4 = false ∧ bt 131362 5 = true ∧ bt 131362 6 = false ∧ bt 131362 7 = false ∧ bt 131362 8 = true ∧ bt 131362 9 = false ∧ bt 131362 10 = false ∧ bt 131362 11 = false ∧ bt 131362 12 = false ∧ bt 131362 13 = false ∧ bt 131362 14 = false ∧ bt 131362 15 = false ∧ bt 131362 16 = false ∧ bt 131362 17 = true ∧ bt 131362 18 = false ∧ bt 131362 19 = false ∧ bt 131362 20 = false ∧ bt 131362 21 = false ∧ bt 131362 22 = false ∧ bt 131362 23 = false ∧ bt 131362 24 = false ∧ bt 131362 25 = false ∧ bt 131362 26 = false ∧ bt 131362 27 = false ∧ bt 131362 28 = false ∧ bt 131362 29 = false ∧ bt 131362 30 = false ∧ bt 131362 31 = false := by decide +kernel
theorem bc_m131363 : bt (-131363) 0 = true ∧ bt (-131363) 1 = false ∧ bt (-131363) 2 = true ∧ bt (-131363) 3 = true ∧ bt (-131363) 4 = true ∧ bt (-131363) 5 = false ∧ bt (-131363) 6 = true ∧ bt (-131363) 7 = true ∧ bt (-131363) 8 = false ∧ bt (-131363) 9 = true ∧ bt (-131363) 10 = true ∧ bt (-131363) 11 = true ∧ bt (-131363) 12 = true ∧ bt (-131363) 13 = true ∧ bt (-131363) 14 = true ∧ bt (-131363) 15 = true ∧ bt (-131363) 16 = true ∧ bt (-131363) 17 = false ∧ bt (-131363) 18 = true ∧ bt (-131363) 19 = true ∧ bt (-131363) 20 = true ∧ bt (-131363) 21 = true ∧ bt (-131363) 22 = true ∧ bt (-131363) 23 = true ∧ bt (-131363) 24 = true ∧ bt (-131363) 25 = true ∧ bt (-131363) 26 = true ∧ bt (-131363) 27 = true ∧ bt (-131363) 28 = true ∧ bt (-131363) 29 = true ∧ bt (-131363) 30 = true ∧ bt (-131363) 31 = true := by decide +kernel
theorem bc_m131331 : bt (-131331) 0 = true ∧ bt (-131331) 1 = false ∧ bt (-131331) 2 = true ∧ bt (-131331) 3 = true ∧ bt (-131331) 4 = true ∧ bt (-131331) 5 = true ∧ bt (-131331) 6 = true ∧ bt (-131331) 7 = true ∧ bt (-131331) 8 = false ∧ bt (-131331) 9 = true ∧ bt (-131331) 10 = true ∧ bt (-131331) 11 = true ∧ bt (-131331) 12 = true ∧ bt (-131331) 13 = true ∧ bt (-131331) 14 = true ∧ bt (-131331) 15 = true ∧ bt (-131331) 16 = true ∧ bt (-131331) 17 = false ∧ bt (-131331) 18 = true ∧ bt (-131331) 19 = true ∧ bt (-131331) 20 = true ∧ bt (-131331) 21 = true ∧ bt (-131331) 22 = true ∧ bt (-131331) 23 = true ∧ bt (-131331) 24 = true ∧ bt (-131331) 25 = true ∧ bt (-131331) 26 = true ∧ bt (-131331) 27 = true ∧ bt (-131331) 28 = true ∧ bt (-131331) 29 = true ∧ bt (-131331) 30 = true ∧ bt (-131331) 31 = true := by decide +kernel
theorem mr_3_0 (a : Int32) : (a &&& (-137353)) ||| ((((shl 0 3) ||| 128) ||| (a &&& 131072)) &&& 137352) = ((a &&& (-6153)) ||| 128) ||| 0 := by
  apply b_ext
  intro i hi
  rcases lt32 hi with rfl | rfl | rfl | rfl | rfl | rfl | rfl | rfl | rfl | rfl | rfl | rfl | rfl | rfl | rfl | rfl | rfl | rfl | rfl | rfl | rfl | rfl | rfl | rfl | rfl | rfl | rfl | rfl | rfl | rfl | rfl | rfl <;> simp [b_or, b_and, b_xor, b_i8, b_i16, bc_137352, bc_m137353, bc_m6153, bc_128, bc_131072, bc_0, bsl_0, bus_0, bsr_0, bsl_1, bus_1, bsr_1, bsl_2, bus_2, bsr_2, bsl_3, bus_3, bsr_3, bsl_4, bus_4, bsr_4, bsl_5, bus_5, bsr_5, bsl_6, bus_6, bsr_6, bsl_7, bus_7, bsr_7, bsl_8, bus_8, bsr_8, bsl_9, bus_9, bsr_9, bsl_10, bus_10, bsr_10, bsl_11, bus_11, bsr_11, bsl_12, bus_12, bsr_12, bsl_13, bus_13, bsr_13, bsl_14, bus_14, bsr_14, bsl_15, bus_15, bsr_15, bsl_16, bus_16, bsr_16, bsl_17, bus_17, bsr_17, bsl_18, bus_18, bsr_18, bsl_19, bus_19, bsr_19, bsl_20, bus_20, bsr_20, bsl_21, bus_21, bsr_21, bsl_22, bus_22, bsr_22, bsl_23, bus_23, bsr_23, bsl_24, bus_24, bsr_24, bsl_25, bus_25, bsr_25, bsl_26, bus_26, bsr_26, bsl_27, bus_27, bsr_27, bsl_28, bus_28, bsr_28, bsl_29, bus_29, bsr_29, bsl_30, bus_30, bsr_30, bsl_31, bus_31, bsr_31]
theorem mr_3_1 (a : Int32) : (a &&& (-137353)) ||| ((((shl 1 3) ||| 128) ||| (a &&& 131072)) &&& 137352) = ((a &&& (-6153)) ||| 128) ||| 8 := by
  apply b_ext
  intro i hi
  rcases lt32 hi with rfl | rfl | rfl | rfl | rfl | rfl | rfl | rfl | rfl | rfl | rfl | rfl | rfl | rfl | rfl | rfl | rfl | rfl | rfl | rfl | rfl | rfl | rfl | rfl | rfl | rfl | rfl | rfl | rfl | rfl | rfl | rfl <;> simp [b_or, b_and, b_xor, b_i8, b_i16, bc_137352, bc_m137353, bc_m6153, bc_128, bc_131072, bc_8, bc_1, bsl_0, bus_0, bsr_0, bsl_1, bus_1, bsr_1, bsl_2, bus_2, bsr_2, bsl_3, bus_3, bsr_3, bsl_4, bus_4, bsr_4, bsl_5, bus_5, bsr_5, bsl_6, bus_6, bsr_6, bsl_7, bus_7, bsr_7, bsl_8, bus_8, bsr_8, bsl_9, bus_9, bsr_9, bsl_10, bus_10, bsr_10, bsl_11, bus_11, bsr_11, bsl_12, bus_12, bsr_12, bsl_13, bus_13, bsr_13, bsl_14, bus_14, bsr_14, bsl_15, bus_15, bsr_15, bsl_16, bus_16, bsr_16, bsl_17, bus_17, bsr_17, bsl_18, bus_18, bsr_18, bsl_19, bus_19, bsr_19, bsl_20, bus_20, bsr_20, bsl_21, bus_21, bsr_21, bsl_22, bus_22, bsr_22, bsl_23, bus_23, bsr_23, bsl_24, bus_24, bsr_24, bsl_25, bus_25, bsr_25, bsl_26, bus_26, bsr_26, bsl_27, bus_27, bsr_27, bsl_28, bus_28, bsr_28, bsl_29, bus_29, bsr_29, bsl_30, bus_30, bsr_30, bsl_31, bus_31, bsr_31]
theorem mr_n_0 (a : Int32) : (a &&& (-137353)) ||| ((((shl 0 3) ||| 128) ||| 0) &&& 137352) = ((a &&& (-137225)) ||| 128) ||| 0 := by
  apply b_ext
  intro i hi
  rcases lt32 hi with rfl | rfl | rfl | rfl | rfl | rfl | rfl | rfl | rfl | rfl | rfl | rfl | rfl | rfl | rfl | rfl | rfl | rfl | rfl | rfl | rfl | rfl | rfl | rfl | rfl | rfl | rfl | rfl | rfl | rfl | rfl | rfl <;> simp [b_or, b_and, b_xor, b_i8, b_i16, bc_137352, bc_m137353, bc_m137225, bc_128, bc_0, bsl_0, bus_0, bsr_0, bsl_1, bus_1, bsr_1, bsl_2, bus_2, bsr_2, bsl_3, bus_3, bsr_3, bsl_4, bus_4, bsr_4, bsl_5, bus_5, bsr_5, bsl_6, bus_6, bsr_6, bsl_7, bus_7, bsr_7, bsl_8, bus_8, bsr_8, bsl_9, bus_9, bsr_9, bsl_10, bus_10, bsr_10, bsl_11, bus_11, bsr_11, bsl_12, bus_12, bsr_12, bsl_13, bus_13, bsr_13, bsl_14, bus_14, bsr_14, bsl_15, bus_15, bsr_15, bsl_16, bus_16, bsr_16, bsl_17, bus_17, bsr_17, bsl_18, bus_18, bsr_18, bsl_19, bus_19, bsr_19, bsl_20, bus_20, bsr_20, bsl_21, bus_21, bsr_21, bsl_22, bus_22, bsr_22, bsl_23, bus_23, bsr_23, bsl_24, bus_24, bsr_24, bsl_25, bus_25, bsr_25, bsl_26, bus_26, bsr_26, bsl_27, bus_27, bsr_27, bsl_28, bus_28, bsr_28, bsl_29, bus_29, bsr_29, bsl_30, bus_30, bsr_30, bsl_31, bus_31, bsr_31]
theorem mr_n_1 (a : Int32) : (a &&& (-137353)) ||| ((((shl 1 3) ||| 128) ||| 0) &&& 137352) = ((a &&& (-137225)) ||| 128) ||| 8 := by
  apply b_ext
  intro i hi
  rcases lt32 hi with rfl | rfl | rfl | rfl | rfl | rfl | rfl | rfl | rfl | rfl | rfl | rfl | rfl | rfl | rfl | rfl | rfl | rfl | rfl | rfl | rfl | rfl | rfl | rfl | rfl | rfl | rfl | rfl | rfl | rfl | rfl | rfl <;> simp [b_or, b_and, b_xor, b_i8, b_i16, bc_137352, bc_m137353, bc_m137225, bc_128, bc_8, bc_1, bc_0, bsl_0, bus_0, bsr_0, bsl_1, bus_1, bsr_1, bsl_2, bus_2, bsr_2, bsl_3, bus_3, bsr_3, bsl_4, bus_4, bsr_4, bsl_5, bus_5, bsr_5, bsl_6, bus_6, bsr_6, bsl_7, bus_7, bsr_7, bsl_8, bus_8, bsr_8, bsl_9, bus_9, bsr_9, bsl_10, bus_10, bsr_10, bsl_11, bus_11, bsr_11, bsl_12, bus_12, bsr_12, bsl_13, bus_13, bsr_13, bsl_14, bus_14, bsr_14, bsl_15, bus_15, bsr_15, bsl_16, bus_16, bsr_16, bsl_17, bus_17, bsr_17, bsl_18, bus_18, bsr_18, bsl_19, bus_19, bsr_19, bsl_20, bus_20, bsr_20, bsl_21, bus_21, bsr_21, bsl_22, bus_22, bsr_22, bsl_23, bus_23, bsr_23, bsl_24, bus_24, bsr_24, bsl_25, bus_25, bsr_25, bsl_26, bus_26, bsr_26, bsl_27, bus_27, bsr_27, bsl_28, bus_28, bsr_28, bsl_29, bus_29, bsr_29, bsl_30, bus_30, bsr_30, bsl_31, bus_31, bsr_31]
theorem sr_0 (a : Int32) : (a &&& (-131363)) ||| (((shl 0 1) ||| 32) &&& 131362) = ((a &&& (-131331)) ||| 32) ||| 0 := by
  apply b_ext
  intro i hi
  rcases lt32 hi with rfl | rfl | rfl | rfl | rfl | rfl | rfl | rfl | rfl | rfl | rfl | rfl | rfl | rfl | rfl | rfl | rfl | rfl | rfl | rfl | rfl | rfl | rfl | rfl | rfl | rfl | rfl | rfl | rfl | rfl | rfl | rfl <;> simp [b_or, b_and, b_xor, b_i8, b_i16, bc_131362, bc_m131363, bc_m131331, bc_32, bc_0, bsl_0, bus_0, bsr_0, bsl_1, bus_1, bsr_1, bsl_2, bus_2, bsr_2, bsl_3, bus_3, bsr_3, bsl_4, bus_4, bsr_4, bsl_5, bus_5, bsr_5, bsl_6, bus_6, bsr_6, bsl_7, bus_7, bsr_7, bsl_8, bus_8, bsr_8, bsl_9, bus_9, bsr_9, bsl_10, bus_10, bsr_10, bsl_11, bus_11, bsr_11, bsl_12, bus_12, bsr_12, bsl_13, bus_13, bsr_13, bsl_14, bus_14, bsr_14, bsl_15, bus_15, bsr_15, bsl_16, bus_16, bsr_16, bsl_17, bus_17, bsr_17, bsl_18, bus_18, bsr_18, bsl_19, bus_19, bsr_19, bsl_20, bus_20, bsr_20, bsl_21, bus_21, bsr_21, bsl_22, bus_22, bsr_22, bsl_23, bus_23, bsr_23, bsl_24, bus_24, bsr_24, bsl_25, bus_25, bsr_25, bsl_26, bus_26, bsr_26, bsl_27, bus_27, bsr_27, bsl_28, bus_28, bsr_28, bsl_29, bus_29, bsr_29, bsl_30, bus_30, bsr_30, bsl_31, bus_31, bsr_31]
theorem sr_1 (a : Int32) : (a &&& (-131363)) ||| (((shl 1 1) ||| 32) &&& 131362) = ((a &&& (-131331)) ||| 32) ||| 2 := by
  apply b_ext
  intro i hi
  rcases lt32 hi with rfl | rfl | rfl | rfl | rfl | rfl | rfl | rfl | rfl | rfl | rfl | rfl | rfl | rfl | rfl | rfl | rfl | rfl | rfl | rfl | rfl | rfl | rfl | rfl | rfl | rfl | rfl | rfl | rfl | rfl | rfl | rfl <;> simp [b_or, b_and, b_xor, b_i8, b_i16, bc_131362, bc_m131363, bc_m131331, bc_32, bc_2, bc_1, bsl_0, bus_0, bsr_0, bsl_1, bus_1, bsr_1, bsl_2, bus_2, bsr_2, bsl_3, bus_3, bsr_3, bsl_4, bus_4, bsr_4, bsl_5, bus_5, bsr_5, bsl_6, bus_6, bsr_6, bsl_7, bus_7, bsr_7, bsl_8, bus_8, bsr_8, bsl_9, bus_9, bsr_9, bsl_10, bus_10, bsr_10, bsl_11, bus_11, bsr_11, bsl_12, bus_12, bsr_12, bsl_13, bus_13, bsr_13, bsl_14, bus_14, bsr_14, bsl_15, bus_15, bsr_15, bsl_16, bus_16, bsr_16, bsl_17, bus_17, bsr_17, bsl_18, bus_18, bsr_18, bsl_19, bus_19, bsr_19, bsl_20, bus_20, bsr_20, bsl_21, bus_21, bsr_21, bsl_22, bus_22, bsr_22, bsl_23, bus_23, bsr_23, bsl_24, bus_24, bsr_24, bsl_25, bus_25, bsr_25, bsl_26, bus_26, bsr_26, bsl_27, bus_27, bsr_27, bsl_28, bus_28, bsr_28, bsl_29, bus_29, bsr_29, bsl_30, bus_30, bsr_30, bsl_31, bus_31, bsr_31]
theorem sr_m (a c : Int32) (h : c &&& 6144 = 0) : (((a &&& (-131331)) ||| 32) ||| c) &&& 6144 = a &&& 6144 := by
  have e1 : ((a &&& (-131331)) ||| 32) &&& 6144 = a &&& 6144 := by
    apply b_ext
    intro i hi
    rcases lt32 hi with rfl | rfl | rfl | rfl | rfl | rfl | rfl | rfl | rfl | rfl | rfl | rfl | rfl | rfl | rfl | rfl | rfl | rfl | rfl | rfl | rfl | rfl | rfl | rfl | rfl | rfl | rfl | rfl | rfl | rfl | rfl | rfl <;> simp [b_or, b_and, b_xor, b_i8, b_i16, bc_m131331, bc_32, bc_6144, bsl_0, bus_0, bsr_0, bsl_1, bus_1, bsr_1, bsl_2, bus_2, bsr_2, bsl_3, bus_3, bsr_3, bsl_4, bus_4, bsr_4, bsl_5, bus_5, bsr_5, bsl_6, bus_6, bsr_6, bsl_7, bus_7, bsr_7, bsl_8, bus_8, bsr_8, bsl_9, bus_9, bsr_9, bsl_10, bus_10, bsr_10, bsl_11, bus_11, bsr_11, bsl_12, bus_12, bsr_12, bsl_13, bus_13, bsr_13, bsl_14, bus_14, bsr_14, bsl_15, bus_15, bsr_15, bsl_16, bus_16, bsr_16, bsl_17, bus_17, bsr_17, bsl_18, bus_18, bsr_18, bsl_19, bus_19, bsr_19, bsl_20, bus_20, bsr_20, bsl_21, bus_21, bsr_21, bsl_22, bus_22, bsr_22, bsl_23, bus_23, bsr_23, bsl_24, bus_24, bsr_24, bsl_25, bus_25, bsr_25, bsl_26, bus_26, bsr_26, bsl_27, bus_27, bsr_27, bsl_28, bus_28, bsr_28, bsl_29, bus_29, bsr_29, bsl_30, bus_30, bsr_30, bsl_31, bus_31, bsr_31]
  rw [← e1]
  apply b_ext
  intro i hi
  have a1 := congrArg (fun z => bt z i) h
  simp only [b_and, b_0] at a1
  rw [b_and, b_or, b_and]
  revert a1
  cases bt ((a &&& (-131331)) ||| 32) i <;> cases bt c i <;> cases bt (6144 : Int32) i <;> simp
section Sys
variable {n id : Nat} {M : TM} {f q pcs lv cs x b cl : Nat → Int32} {cm : Nat → Int64} {so : Nat → Int32} {ti : Int64} {pu : Nat → Int32} {np : Int32} {pc l t tv nx w : Int32}
theorem al1 (N l : Int32) : (sp_Csrs_isAllowed N l 1 = 0 ∧ (sp_Model_isCsr N = 0 ∨ (¬ sp_Model_isCsr N = 0 ∧ (l < ((shr N 8) &&& 3) ∨ (¬ l < ((shr N 8) &&& 3) ∧ shr N 10 = 3))))) ∨ (¬ sp_Csrs_isAllowed N l 1 = 0 ∧ ¬ sp_Model_isCsr N = 0 ∧ ¬ l < ((shr N 8) &&& 3) ∧ ¬ shr N 10 = 3 ∧ ¬ sp_Csrs_isTold N = 0 ∧ sp_Csrs_isReadOnly N = 0) := by
  unfold sp_Csrs_isAllowed
  by_cases c : sp_Csrs_isTold N = 0
  · rw [if_pos c]; exact Or.inl ⟨rfl, Or.inl ((told_eq N).mp c)⟩
  · have c' : ¬ sp_Model_isCsr N = 0 := fun z => c ((told_eq N).mpr z)
    rw [if_neg c]
    by_cases d : l < ((shr N 8) &&& 3)
    · rw [if_pos d]; exact Or.inl ⟨rfl, Or.inr ⟨c', Or.inl d⟩⟩
    · rw [if_neg d, if_neg (by decide)]
      by_cases e : sp_Csrs_isReadOnly N = 0
      · rw [if_pos e]; exact Or.inr ⟨by decide, c', d, (ro_eq c).mp e, c, e⟩
      · rw [if_neg e]
        refine Or.inl ⟨rfl, Or.inr ⟨c', Or.inr ⟨d, ?_⟩⟩⟩
        exact Classical.byContradiction (fun z => e ((ro_eq c).mpr z))
theorem al0 (N l : Int32) : (sp_Csrs_isAllowed N l 0 = 0 ∧ (sp_Model_isCsr N = 0 ∨ (¬ sp_Model_isCsr N = 0 ∧ l < ((shr N 8) &&& 3)))) ∨ (¬ sp_Csrs_isAllowed N l 0 = 0 ∧ ¬ sp_Model_isCsr N = 0 ∧ ¬ l < ((shr N 8) &&& 3) ∧ ¬ sp_Csrs_isTold N = 0) := by
  unfold sp_Csrs_isAllowed
  by_cases c : sp_Csrs_isTold N = 0
  · rw [if_pos c]; exact Or.inl ⟨rfl, Or.inl ((told_eq N).mp c)⟩
  · have c' : ¬ sp_Model_isCsr N = 0 := fun z => c ((told_eq N).mpr z)
    rw [if_neg c]
    by_cases d : l < ((shr N 8) &&& 3)
    · rw [if_pos d]; exact Or.inl ⟨rfl, Or.inr ⟨c', d⟩⟩
    · rw [if_neg d, if_pos rfl]; exact Or.inr ⟨by decide, c', d, c⟩
theorem ex_csr (hid : id = 0 ∨ id = 1) (hM : MemR n M b cl cm so ti pu np) (hH : HartR id (f, pc, l, t, q) pcs lv cs x) (h0 : ¬ sp_Field_f3 w = 0) :
    ExR n id (M, f, pc, l, t, q) pcs lv cs x b cl cm so ti pu np (sp_Hart_exchange n (nI id) w (M, f, pc, l, t, q)) ((sp_Model_csrs w (nI id) (-1) tv lv cs x cm so ti).1, (sp_Model_csrs w (nI id) (-1) tv lv cs x cm so ti).2.1, pc + 4, lv, (sp_Model_csrs w (nI id) (-1) tv lv cs x cm so ti).2.2.1, (sp_Model_csrs w (nI id) (-1) tv lv cs x cm so ti).2.2.2, b, cl, cm, so, ti, pu, np) := by
  have hl : lv (nI id).toNatClampNeg = l := by rw [nid hid]; exact hH.2.2.1
  unfold sp_Hart_exchange sp_Model_csrs
  rw [fd_f3, fd_20, fd_rs1, rg_eq hid hH.1 (vp_rs1 w), hl]
  dsimp only
  have I : ExR n id (M, f, pc, l, t, q) pcs lv cs x b cl cm so ti pu np (sp_Hart_illegal n (nI id) w (M, f, pc, l, t, q)) ((sp_Model_trap 2 w (-1) tv).1, (sp_Model_trap 2 w (-1) tv).2, pc + 4, lv, cs, x, b, cl, cm, so, ti, pu, np) := ExR.ill
  have Wr : ∀ v, ¬ sp_Csrs_isTold (ush w 20) = 0 → sp_Csrs_isReadOnly (ush w 20) = 0 → ExR n id (M, f, pc, l, t, q) pcs lv cs x b cl cm so ti pu np (sp_Hart_finish n (nI id) w (sp_Csrs_read (ush w 20) (sp_Clint_lines (nI id) M.1) q) (M, f, pc, l, t, sp_Csrs_write (ush w 20) v q)) (-1, tv, pc + 4, lv, sp_Model_write (nI id) (ush w 20) v cs, sp_Model_setReg (sp_Model_field w 7 5) (sp_Model_read (nI id) (ush w 20) cs cm so ti) (nI id) (-1) x, b, cl, cm, so, ti, pu, np) := by
    intro v h1 h2
    rw [← read_eq hid hM hH.2.2.2.1 h1]
    exact fin_ok hid hH hM (write_eq hid hH.2.2.2.1 hH.2.2.2.2.1 h1 h2 v)
  have Rd : ¬ sp_Csrs_isTold (ush w 20) = 0 → ExR n id (M, f, pc, l, t, q) pcs lv cs x b cl cm so ti pu np (sp_Hart_finish n (nI id) w (sp_Csrs_read (ush w 20) (sp_Clint_lines (nI id) M.1) q) (M, f, pc, l, t, q)) (-1, tv, pc + 4, lv, cs, sp_Model_setReg (sp_Model_field w 7 5) (sp_Model_read (nI id) (ush w 20) cs cm so ti) (nI id) (-1) x, b, cl, cm, so, ti, pu, np) := by
    intro h1
    rw [← read_eq hid hM hH.2.2.2.1 h1]
    exact fin_ok hid hH hM hH.w0
  have Re : ¬ sp_Csrs_isTold (ush w 20) = 0 → sp_Csrs_read (ush w 20) (sp_Clint_lines (nI id) M.1) q = sp_Model_read (nI id) (ush w 20) cs cm so ti := fun h1 => read_eq hid hM hH.2.2.2.1 h1
  have A1 := al1 (ush w 20) l
  have A0 := al0 (ush w 20) l
  rcases f3_cases w with e | e | e | e | e | e | e | e
  · exact absurd e h0
  · rw [e]
    rw [show (1 : Int32) &&& 3 = 1 from by decide]
    simp (decide := true) only [↓reduceIte]
    rcases A1 with ⟨a1, a2 | ⟨a2, a3 | ⟨a3, a4⟩⟩⟩ | ⟨a1, a2, a3, a4, a5, a6⟩
    · rw [if_pos a1, if_pos a2]; exact I
    · rw [if_pos a1, if_neg a2, if_pos a3]; exact I
    · rw [if_pos a1, if_neg a2, if_neg a3, if_pos a4]; exact I
    · rw [if_neg a1, if_neg a2, if_neg a3, if_neg a4]
      have mx : ∀ z a, sp_Hart_mixed 1 z a = a := fun _ _ => rfl
      rw [mx]
      exact Wr _ a5 a6
  · rw [e]
    rw [show (2 : Int32) &&& 3 = 2 from by decide]
    simp (decide := true) only [↓reduceIte]
    by_cases s0 : sp_Field_rs1 w = 0
    · rw [if_pos s0, if_pos s0]
      rcases A0 with ⟨a1, a2 | ⟨a2, a3⟩⟩ | ⟨a1, a2, a3, a5⟩
      · rw [if_pos a1, if_pos a2]; exact I
      · rw [if_pos a1, if_neg a2, if_pos a3]; exact I
      · rw [if_neg a1, if_neg a2, if_neg a3]; exact Rd a5
    · rw [if_neg s0, if_neg s0]
      rcases A1 with ⟨a1, a2 | ⟨a2, a3 | ⟨a3, a4⟩⟩⟩ | ⟨a1, a2, a3, a4, a5, a6⟩
      · rw [if_pos a1, if_pos a2]; exact I
      · rw [if_pos a1, if_neg a2, if_pos a3]; exact I
      · rw [if_pos a1, if_neg a2, if_neg a3, if_pos a4]; exact I
      · rw [if_neg a1, if_neg a2, if_neg a3, if_neg a4]
        have mx : ∀ z a, sp_Hart_mixed 2 z a = z ||| a := fun _ _ => rfl
        rw [mx]
        have W := Wr ((sp_Model_read (nI id) (ush w 20) cs cm so ti) ||| (f (sp_Field_rs1 w).toNatClampNeg)) a5 a6
        rw [← Re a5] at W ⊢
        exact W
  · rw [e]
    rw [show (3 : Int32) &&& 3 = 3 from by decide]
    simp (decide := true) only [↓reduceIte]
    by_cases s0 : sp_Field_rs1 w = 0
    · rw [if_pos s0, if_pos s0]
      rcases A0 with ⟨a1, a2 | ⟨a2, a3⟩⟩ | ⟨a1, a2, a3, a5⟩
      · rw [if_pos a1, if_pos a2]; exact I
      · rw [if_pos a1, if_neg a2, if_pos a3]; exact I
      · rw [if_neg a1, if_neg a2, if_neg a3]; exact Rd a5
    · rw [if_neg s0, if_neg s0]
      rcases A1 with ⟨a1, a2 | ⟨a2, a3 | ⟨a3, a4⟩⟩⟩ | ⟨a1, a2, a3, a4, a5, a6⟩
      · rw [if_pos a1, if_pos a2]; exact I
      · rw [if_pos a1, if_neg a2, if_pos a3]; exact I
      · rw [if_pos a1, if_neg a2, if_neg a3, if_pos a4]; exact I
      · rw [if_neg a1, if_neg a2, if_neg a3, if_neg a4]
        have mx : ∀ z a, sp_Hart_mixed 3 z a = z &&& (a ^^^ (-1)) := fun _ _ => rfl
        rw [mx]
        have W := Wr ((sp_Model_read (nI id) (ush w 20) cs cm so ti) &&& ((f (sp_Field_rs1 w).toNatClampNeg) ^^^ (-1))) a5 a6
        rw [← Re a5] at W ⊢
        exact W
  · rw [e]
    simp (decide := true) only [↓reduceIte]
    split <;> exact I
  · rw [e]
    rw [show (5 : Int32) &&& 3 = 1 from by decide]
    simp (decide := true) only [↓reduceIte]
    rcases A1 with ⟨a1, a2 | ⟨a2, a3 | ⟨a3, a4⟩⟩⟩ | ⟨a1, a2, a3, a4, a5, a6⟩
    · rw [if_pos a1, if_pos a2]; exact I
    · rw [if_pos a1, if_neg a2, if_pos a3]; exact I
    · rw [if_pos a1, if_neg a2, if_neg a3, if_pos a4]; exact I
    · rw [if_neg a1, if_neg a2, if_neg a3, if_neg a4]
      have mx : ∀ z a, sp_Hart_mixed 1 z a = a := fun _ _ => rfl
      rw [mx]
      exact Wr _ a5 a6
  · rw [e]
    rw [show (6 : Int32) &&& 3 = 2 from by decide]
    simp (decide := true) only [↓reduceIte]
    by_cases s0 : sp_Field_rs1 w = 0
    · rw [if_pos s0, if_pos s0]
      rcases A0 with ⟨a1, a2 | ⟨a2, a3⟩⟩ | ⟨a1, a2, a3, a5⟩
      · rw [if_pos a1, if_pos a2]; exact I
      · rw [if_pos a1, if_neg a2, if_pos a3]; exact I
      · rw [if_neg a1, if_neg a2, if_neg a3]; exact Rd a5
    · rw [if_neg s0, if_neg s0]
      rcases A1 with ⟨a1, a2 | ⟨a2, a3 | ⟨a3, a4⟩⟩⟩ | ⟨a1, a2, a3, a4, a5, a6⟩
      · rw [if_pos a1, if_pos a2]; exact I
      · rw [if_pos a1, if_neg a2, if_pos a3]; exact I
      · rw [if_pos a1, if_neg a2, if_neg a3, if_pos a4]; exact I
      · rw [if_neg a1, if_neg a2, if_neg a3, if_neg a4]
        have mx : ∀ z a, sp_Hart_mixed 2 z a = z ||| a := fun _ _ => rfl
        rw [mx]
        have W := Wr ((sp_Model_read (nI id) (ush w 20) cs cm so ti) ||| (sp_Field_rs1 w)) a5 a6
        rw [← Re a5] at W ⊢
        exact W
  · rw [e]
    rw [show (7 : Int32) &&& 3 = 3 from by decide]
    simp (decide := true) only [↓reduceIte]
    by_cases s0 : sp_Field_rs1 w = 0
    · rw [if_pos s0, if_pos s0]
      rcases A0 with ⟨a1, a2 | ⟨a2, a3⟩⟩ | ⟨a1, a2, a3, a5⟩
      · rw [if_pos a1, if_pos a2]; exact I
      · rw [if_pos a1, if_neg a2, if_pos a3]; exact I
      · rw [if_neg a1, if_neg a2, if_neg a3]; exact Rd a5
    · rw [if_neg s0, if_neg s0]
      rcases A1 with ⟨a1, a2 | ⟨a2, a3 | ⟨a3, a4⟩⟩⟩ | ⟨a1, a2, a3, a4, a5, a6⟩
      · rw [if_pos a1, if_pos a2]; exact I
      · rw [if_pos a1, if_neg a2, if_pos a3]; exact I
      · rw [if_pos a1, if_neg a2, if_neg a3, if_pos a4]; exact I
      · rw [if_neg a1, if_neg a2, if_neg a3, if_neg a4]
        have mx : ∀ z a, sp_Hart_mixed 3 z a = z &&& (a ^^^ (-1)) := fun _ _ => rfl
        rw [mx]
        have W := Wr ((sp_Model_read (nI id) (ush w 20) cs cm so ti) &&& ((sp_Field_rs1 w) ^^^ (-1))) a5 a6
        rw [← Re a5] at W ⊢
        exact W
end Sys
