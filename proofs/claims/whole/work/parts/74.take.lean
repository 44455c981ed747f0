-- ===== a trap is taken =====
theorem bc_16 : bt 16 0 = false ∧ bt 16 1 = false ∧ bt 16 2 = false ∧ bt 16 3 = false ∧ bt 16 4 = true ∧ bt 16 5 = false ∧ bt 16 6 = false ∧ bt 16 7 = false ∧ bt 16 8 = false ∧ bt 16 9 = false ∧ bt 16 10 = false ∧ bt 16 11 = false ∧ bt 16 12 = false ∧ bt 16 13 = false ∧ bt 16 14 = false ∧ bt 16 15 = false ∧ bt 16 16 = false ∧ bt 16 17 = false ∧ bt 16 18 = false ∧ bt 16 19 = false ∧ bt 16 20 = false ∧ bt 16 21 = false ∧ bt 16 22 = false ∧ bt 16 23 = false ∧ bt 16 24 = false ∧ bt 16 25 = false ∧ bt 16 26 = false ∧ bt 16 27 = false ∧ bt 16 28 = false ∧ bt 16 29 = false ∧ bt 16 30 = false ∧ bt 16 31 = false := by decide +kernel
theorem bc_32 : bt 32 0 = false ∧ bt 32 1 = false ∧ bt 32 2 = false ∧ bt 32 3 = false ∧ bt 32 4 = false ∧ bt 32 5 = true ∧ bt 32 6 = false ∧ bt 32 7 = false ∧ bt 32 8 = false ∧ bt 32 9 = false ∧ bt 32 10 = false ∧ bt 32 11 = false ∧ bt 32 12 = false ∧ bt 32 13 = false ∧ bt 32 14 = false ∧ bt 32 15 = false ∧ bt 32 16 = false ∧ bt 32 17 = false ∧ bt 32 18 = false ∧ bt 32 19 = false ∧ bt 32 20 = false ∧ bt 32 21 = false ∧ bt 32 22 = false ∧ bt 32 23 = false ∧ bt 32 24 = false ∧ bt 32 25 = false ∧ bt 32 26 = false ∧ bt 32 27 = false ∧ bt 32 28 = false ∧ bt 32 29 = false ∧ bt 32 30 = false ∧ bt 32 31 = false := by decide +kernel
theorem bc_64 : bt 64 0 = false ∧ bt 64 1 = false ∧ bt 64 2 = false ∧ bt 64 3 = false ∧ bt 64 4 = false ∧ bt 64 5 = false ∧ bt 64 6 = true ∧ bt 64 7 = false ∧ bt 64 8 = false ∧ bt 64 9 = false ∧ bt 64 10 = false ∧ bt 64 11 = false ∧ bt 64 12 = false ∧ bt 64 13 = false ∧ bt 64 14 = false ∧ bt 64 15 = false ∧ bt 64 16 = false ∧ bt 64 17 = false ∧ bt 64 18 = false ∧ bt 64 19 = false ∧ bt 64 20 = false ∧ bt 64 21 = false ∧ bt 64 22 = false ∧ bt 64 23 = false ∧ bt 64 24 = false ∧ bt 64 25 = false ∧ bt 64 26 = false ∧ bt 64 27 = false ∧ bt 64 28 = false ∧ bt 64 29 = false ∧ bt 64 30 = false ∧ bt 64 31 = false := by decide +kernel
theorem bc_512 : bt 512 0 = false ∧ bt 512 1 = false ∧ bt 512 2 = false ∧ bt 512 3 = false ∧ bt 512 4 = false ∧ bt 512 5 = false ∧ bt 512 6 = false ∧ bt 512 7 = false ∧ bt 512 8 = false ∧ bt 512 9 = true ∧ bt 512 10 = false ∧ bt 512 11 = false ∧ bt 512 12 = false ∧ bt 512 13 = false ∧ bt 512 14 = false ∧ bt 512 15 = false ∧ bt 512 16 = false ∧ bt 512 17 = false ∧ bt 512 18 = false ∧ bt 512 19 = false ∧ bt 512 20 = false ∧ bt 512 21 = false ∧ bt 512 22 = false ∧ bt 512 23 = false ∧ bt 512 24 = false ∧ bt 512 25 = false ∧ bt 512 26 = false ∧ bt 512 27 = false ∧ bt 512 28 = false ∧ bt 512 29 = false ∧ bt 512 30 = false ∧ bt 512 31 = false := by decide +kernel
theorem bc_256 : bt 256 0 = false ∧ bt 256 1 = false ∧ bt 256 2 = false ∧ bt 256 3 = false ∧ bt 256 4 = false ∧ bt 256 5 = false ∧ bt 256 6 = false ∧ bt 256 7 = false ∧ bt 256 8 = true ∧ bt 256 9 = false ∧ bt 256 10 = false ∧ bt 256 11 = false ∧ bt 256 12 = false ∧ bt 256 13 = false ∧ bt 256 14 = false ∧ bt 256 15 = false ∧ bt 256 16 = false ∧ bt 256 17 = false ∧ bt 256 18 = false ∧ bt 256 19 = false ∧ bt 256 20 = false ∧ bt 256 21 = false ∧ bt 256 22 = false ∧ bt 256 23 = false ∧ bt 256 24 = false ∧ bt 256 25 = false ∧ bt 256 26 = false ∧ bt 256 27 = false ∧ bt 256 28 = false ∧ bt 256 29 = false ∧ bt 256 30 = false ∧ bt 256 31 = false := by decide +kernel
theorem bc_290 : bt 290 0 = false ∧ bt 290 1 = true ∧ bt 290 2 = false ∧ bt 290 3 = false ∧ bt 290 4 = false ∧ bt 290 5 = true ∧ bt 290 6 = false ∧ bt 290 7 = false ∧ bt 290 8 = true ∧ bt 290 9 = false ∧ bt 290 10 = false ∧ bt 290 11 = false ∧ bt 290 12 = false ∧ bt 290 13 = false ∧ bt 290 14 = false ∧ bt 290 15 = false ∧ bt 290 16 = false ∧ bt 290 17 = false ∧ bt 290 18 = false ∧ bt 290 19 = false ∧ bt 290 20 = false ∧ bt 290 21 = false ∧ bt 290 22 = false ∧ bt 290 23 = false ∧ bt 290 24 = false ∧ bt 290 25 = false ∧ bt 290 26 = false ∧ bt 290 27 = false ∧ bt 290 28 = false ∧ bt 290 29 = false ∧ bt 290 30 = false ∧ bt 290 31 = false := by decide +kernel
theorem bc_m291 : bt (-291) 0 = true ∧ bt (-291) 1 = false ∧ bt (-291) 2 = true ∧ bt (-291) 3 = true ∧ bt (-291) 4 = true ∧ bt (-291) 5 = false ∧ bt (-291) 6 = true ∧ bt (-291) 7 = true ∧ bt (-291) 8 = false ∧ bt (-291) 9 = true ∧ bt (-291) 10 = true ∧ bt (-291) 11 = true ∧ bt (-291) 12 = true ∧ bt (-291) 13 = true ∧ bt (-291) 14 = true ∧ bt (-291) 15 = true ∧ bt (-291) 16 = true ∧ bt (-291) 17 = true ∧ bt (-291) 18 = true ∧ bt (-291) 19 = true ∧ bt (-291) 20 = true ∧ bt (-291) 21 = true ∧ bt (-291) 22 = true ∧ bt (-291) 23 = true ∧ bt (-291) 24 = true ∧ bt (-291) 25 = true ∧ bt (-291) 26 = true ∧ bt (-291) 27 = true ∧ bt (-291) 28 = true ∧ bt (-291) 29 = true ∧ bt (-291) 30 = true ∧ bt (-291) 31 = true := by decide +kernel
theorem bc_6280 : bt 6280 0 = false ∧ bt 6280 1 = false ∧ bt 6280 2 = false ∧ bt 6280 3 = true ∧ bt 6280 4 = false ∧ bt 6280 5 = false ∧ bt 6280 6 = false ∧ bt 6280 7 = true ∧ bt 6280 8 = false ∧ bt 6280 9 = false ∧ bt 6280 10 = false ∧ bt 6280 11 = true ∧ bt 6280 12 = true ∧ bt 6280 13 = false ∧ bt 6280 14 = false ∧ bt 6280 15 = false ∧ bt 6280 16 = false ∧ bt 6280 17 = false ∧ bt 6280 18 = false ∧ bt 6280 19 = false ∧ bt 6280 20 = false ∧ bt 6280 21 = false ∧ bt 6280 22 = false ∧ bt 6280 23 = false ∧ bt 6280 24 = false ∧ bt 6280 25 = false ∧ bt 6280 26 = false ∧ bt 6280 27 = false ∧ bt 6280 28 = false ∧ bt 6280 29 = false ∧ bt 6280 30 = false ∧ bt 6280 31 = false := by decide +kernel
theorem bc_m6281 : bt (-6281) 0 = true ∧ bt (-6281) 1 = true ∧ bt (-6281) 2 = true ∧ bt (-6281) 3 = false ∧ bt (-6281) 4 = true ∧ bt (-6281) 5 = true ∧ bt (-6281) 6 = true ∧ bt (-6281) 7 = false ∧ bt (-6281) 8 = true ∧ bt (-6281) 9 = true ∧ bt (-6281) 10 = true ∧ bt (-6281) 11 = false ∧ bt (-6281) 12 = false ∧ bt (-6281) 13 = true ∧ bt (-6281) 14 = true ∧ bt (-6281) 15 = true ∧ bt (-6281) 16 = true ∧ bt (-6281) 17 = true ∧ bt (-6281) 18 = true ∧ bt (-6281) 19 = true ∧ bt (-6281) 20 = true ∧ bt (-6281) 21 = true ∧ bt (-6281) 22 = true ∧ bt (-6281) 23 = true ∧ bt (-6281) 24 = true ∧ bt (-6281) 25 = true ∧ bt (-6281) 26 = true ∧ bt (-6281) 27 = true ∧ bt (-6281) 28 = true ∧ bt (-6281) 29 = true ∧ bt (-6281) 30 = true ∧ bt (-6281) 31 = true := by decide +kernel
theorem bc_2048 : bt 2048 0 = false ∧ bt 2048 1 = false ∧ bt 2048 2 = false ∧ bt 2048 3 = false ∧ bt 2048 4 = false ∧ bt 2048 5 = false ∧ bt 2048 6 = false ∧ bt 2048 7 = false ∧ bt 2048 8 = false ∧ bt 2048 9 = false ∧ bt 2048 10 = false ∧ bt 2048 11 = true ∧ bt 2048 12 = false ∧ bt 2048 13 = false ∧ bt 2048 14 = false ∧ bt 2048 15 = false ∧ bt 2048 16 = false ∧ bt 2048 17 = false ∧ bt 2048 18 = false ∧ bt 2048 19 = false ∧ bt 2048 20 = false ∧ bt 2048 21 = false ∧ bt 2048 22 = false ∧ bt 2048 23 = false ∧ bt 2048 24 = false ∧ bt 2048 25 = false ∧ bt 2048 26 = false ∧ bt 2048 27 = false ∧ bt 2048 28 = false ∧ bt 2048 29 = false ∧ bt 2048 30 = false ∧ bt 2048 31 = false := by decide +kernel
theorem bc_1024 : bt 1024 0 = false ∧ bt 1024 1 = false ∧ bt 1024 2 = false ∧ bt 1024 3 = false ∧ bt 1024 4 = false ∧ bt 1024 5 = false ∧ bt 1024 6 = false ∧ bt 1024 7 = false ∧ bt 1024 8 = false ∧ bt 1024 9 = false ∧ bt 1024 10 = true ∧ bt 1024 11 = false ∧ bt 1024 12 = false ∧ bt 1024 13 = false ∧ bt 1024 14 = false ∧ bt 1024 15 = false ∧ bt 1024 16 = false ∧ bt 1024 17 = false ∧ bt 1024 18 = false ∧ bt 1024 19 = false ∧ bt 1024 20 = false ∧ bt 1024 21 = false ∧ bt 1024 22 = false ∧ bt 1024 23 = false ∧ bt 1024 24 = false ∧ bt 1024 25 = false ∧ bt 1024 26 = false ∧ bt 1024 27 = false ∧ bt 1024 28 = false ∧ bt 1024 29 = false ∧ bt 1024 30 = false ∧ bt 1024 31 = false := by decide +kernel
theorem sb_1_e (a : Int32) : (a &&& 2) = shl ((shr a 1) &&& 1) 1 := by
  apply b_ext
  intro i hi
  rcases lt32 hi with rfl | rfl | rfl | rfl | rfl | rfl | rfl | rfl | rfl | rfl | rfl | rfl | rfl | rfl | rfl | rfl | rfl | rfl | rfl | rfl | rfl | rfl | rfl | rfl | rfl | rfl | rfl | rfl | rfl | rfl | rfl | rfl <;> simp [b_or, b_and, b_xor, b_i8, b_i16, bc_2, bc_1, bsl_0, bus_0, bsr_0, bsl_1, bus_1, bsr_1, bsl_2, bus_2, bsr_2, bsl_3, bus_3, bsr_3, bsl_4, bus_4, bsr_4, bsl_5, bus_5, bsr_5, bsl_6, bus_6, bsr_6, bsl_7, bus_7, bsr_7, bsl_8, bus_8, bsr_8, bsl_9, bus_9, bsr_9, bsl_10, bus_10, bsr_10, bsl_11, bus_11, bsr_11, bsl_12, bus_12, bsr_12, bsl_13, bus_13, bsr_13, bsl_14, bus_14, bsr_14, bsl_15, bus_15, bsr_15, bsl_16, bus_16, bsr_16, bsl_17, bus_17, bsr_17, bsl_18, bus_18, bsr_18, bsl_19, bus_19, bsr_19, bsl_20, bus_20, bsr_20, bsl_21, bus_21, bsr_21, bsl_22, bus_22, bsr_22, bsl_23, bus_23, bsr_23, bsl_24, bus_24, bsr_24, bsl_25, bus_25, bsr_25, bsl_26, bus_26, bsr_26, bsl_27, bus_27, bsr_27, bsl_28, bus_28, bsr_28, bsl_29, bus_29, bsr_29, bsl_30, bus_30, bsr_30, bsl_31, bus_31, bsr_31]
theorem sbit_1 (a : Int32) : ((shr a 1) &&& 1) = if (a &&& 2) = 0 then 0 else 1 := by
  obtain ⟨j, hj, e2⟩ : ∃ j : Nat, j < 2 ∧ (shr a 1) &&& 1 = nI j := pk_andE _ 1 (by decide)
  rw [sb_1_e, e2]
  have : j = 0 ∨ j = 1 := by omega
  rcases this with rfl | rfl <;> decide
theorem sb_3_e (a : Int32) : (a &&& 8) = shl ((shr a 3) &&& 1) 3 := by
  apply b_ext
  intro i hi
  rcases lt32 hi with rfl | rfl | rfl | rfl | rfl | rfl | rfl | rfl | rfl | rfl | rfl | rfl | rfl | rfl | rfl | rfl | rfl | rfl | rfl | rfl | rfl | rfl | rfl | rfl | rfl | rfl | rfl | rfl | rfl | rfl | rfl | rfl <;> simp [b_or, b_and, b_xor, b_i8, b_i16, bc_8, bc_1, bsl_0, bus_0, bsr_0, bsl_1, bus_1, bsr_1, bsl_2, bus_2, bsr_2, bsl_3, bus_3, bsr_3, bsl_4, bus_4, bsr_4, bsl_5, bus_5, bsr_5, bsl_6, bus_6, bsr_6, bsl_7, bus_7, bsr_7, bsl_8, bus_8, bsr_8, bsl_9, bus_9, bsr_9, bsl_10, bus_10, bsr_10, bsl_11, bus_11, bsr_11, bsl_12, bus_12, bsr_12, bsl_13, bus_13, bsr_13, bsl_14, bus_14, bsr_14, bsl_15, bus_15, bsr_15, bsl_16, bus_16, bsr_16, bsl_17, bus_17, bsr_17, bsl_18, bus_18, bsr_18, bsl_19, bus_19, bsr_19, bsl_20, bus_20, bsr_20, bsl_21, bus_21, bsr_21, bsl_22, bus_22, bsr_22, bsl_23, bus_23, bsr_23, bsl_24, bus_24, bsr_24, bsl_25, bus_25, bsr_25, bsl_26, bus_26, bsr_26, bsl_27, bus_27, bsr_27, bsl_28, bus_28, bsr_28, bsl_29, bus_29, bsr_29, bsl_30, bus_30, bsr_30, bsl_31, bus_31, bsr_31]
theorem sbit_3 (a : Int32) : ((shr a 3) &&& 1) = if (a &&& 8) = 0 then 0 else 1 := by
  obtain ⟨j, hj, e2⟩ : ∃ j : Nat, j < 2 ∧ (shr a 3) &&& 1 = nI j := pk_andE _ 1 (by decide)
  rw [sb_3_e, e2]
  have : j = 0 ∨ j = 1 := by omega
  rcases this with rfl | rfl <;> decide
theorem sb_5_e (a : Int32) : (a &&& 32) = shl ((shr a 5) &&& 1) 5 := by
  apply b_ext
  intro i hi
  rcases lt32 hi with rfl | rfl | rfl | rfl | rfl | rfl | rfl | rfl | rfl | rfl | rfl | rfl | rfl | rfl | rfl | rfl | rfl | rfl | rfl | rfl | rfl | rfl | rfl | rfl | rfl | rfl | rfl | rfl | rfl | rfl | rfl | rfl <;> simp [b_or, b_and, b_xor, b_i8, b_i16, bc_32, bc_1, bsl_0, bus_0, bsr_0, bsl_1, bus_1, bsr_1, bsl_2, bus_2, bsr_2, bsl_3, bus_3, bsr_3, bsl_4, bus_4, bsr_4, bsl_5, bus_5, bsr_5, bsl_6, bus_6, bsr_6, bsl_7, bus_7, bsr_7, bsl_8, bus_8, bsr_8, bsl_9, bus_9, bsr_9, bsl_10, bus_10, bsr_10, bsl_11, bus_11, bsr_11, bsl_12, bus_12, bsr_12, bsl_13, bus_13, bsr_13, bsl_14, bus_14, bsr_14, bsl_15, bus_15, bsr_15, bsl_16, bus_16, bsr_16, bsl_17, bus_17, bsr_17, bsl_18, bus_18, bsr_18, bsl_19, bus_19, bsr_19, bsl_20, bus_20, bsr_20, bsl_21, bus_21, bsr_21, bsl_22, bus_22, bsr_22, bsl_23, bus_23, bsr_23, bsl_24, bus_24, bsr_24, bsl_25, bus_25, bsr_25, bsl_26, bus_26, bsr_26, bsl_27, bus_27, bsr_27, bsl_28, bus_28, bsr_28, bsl_29, bus_29, bsr_29, bsl_30, bus_30, bsr_30, bsl_31, bus_31, bsr_31]
theorem sbit_5 (a : Int32) : ((shr a 5) &&& 1) = if (a &&& 32) = 0 then 0 else 1 := by
  obtain ⟨j, hj, e2⟩ : ∃ j : Nat, j < 2 ∧ (shr a 5) &&& 1 = nI j := pk_andE _ 1 (by decide)
  rw [sb_5_e, e2]
  have : j = 0 ∨ j = 1 := by omega
  rcases this with rfl | rfl <;> decide
theorem sb_7_e (a : Int32) : (a &&& 128) = shl ((shr a 7) &&& 1) 7 := by
  apply b_ext
  intro i hi
  rcases lt32 hi with rfl | rfl | rfl | rfl | rfl | rfl | rfl | rfl | rfl | rfl | rfl | rfl | rfl | rfl | rfl | rfl | rfl | rfl | rfl | rfl | rfl | rfl | rfl | rfl | rfl | rfl | rfl | rfl | rfl | rfl | rfl | rfl <;> simp [b_or, b_and, b_xor, b_i8, b_i16, bc_128, bc_1, bsl_0, bus_0, bsr_0, bsl_1, bus_1, bsr_1, bsl_2, bus_2, bsr_2, bsl_3, bus_3, bsr_3, bsl_4, bus_4, bsr_4, bsl_5, bus_5, bsr_5, bsl_6, bus_6, bsr_6, bsl_7, bus_7, bsr_7, bsl_8, bus_8, bsr_8, bsl_9, bus_9, bsr_9, bsl_10, bus_10, bsr_10, bsl_11, bus_11, bsr_11, bsl_12, bus_12, bsr_12, bsl_13, bus_13, bsr_13, bsl_14, bus_14, bsr_14, bsl_15, bus_15, bsr_15, bsl_16, bus_16, bsr_16, bsl_17, bus_17, bsr_17, bsl_18, bus_18, bsr_18, bsl_19, bus_19, bsr_19, bsl_20, bus_20, bsr_20, bsl_21, bus_21, bsr_21, bsl_22, bus_22, bsr_22, bsl_23, bus_23, bsr_23, bsl_24, bus_24, bsr_24, bsl_25, bus_25, bsr_25, bsl_26, bus_26, bsr_26, bsl_27, bus_27, bsr_27, bsl_28, bus_28, bsr_28, bsl_29, bus_29, bsr_29, bsl_30, bus_30, bsr_30, bsl_31, bus_31, bsr_31]
theorem sbit_7 (a : Int32) : ((shr a 7) &&& 1) = if (a &&& 128) = 0 then 0 else 1 := by
  obtain ⟨j, hj, e2⟩ : ∃ j : Nat, j < 2 ∧ (shr a 7) &&& 1 = nI j := pk_andE _ 1 (by decide)
  rw [sb_7_e, e2]
  have : j = 0 ∨ j = 1 := by omega
  rcases this with rfl | rfl <;> decide
theorem sb_8_e (a : Int32) : (a &&& 256) = shl ((shr a 8) &&& 1) 8 := by
  apply b_ext
  intro i hi
  rcases lt32 hi with rfl | rfl | rfl | rfl | rfl | rfl | rfl | rfl | rfl | rfl | rfl | rfl | rfl | rfl | rfl | rfl | rfl | rfl | rfl | rfl | rfl | rfl | rfl | rfl | rfl | rfl | rfl | rfl | rfl | rfl | rfl | rfl <;> simp [b_or, b_and, b_xor, b_i8, b_i16, bc_256, bc_1, bsl_0, bus_0, bsr_0, bsl_1, bus_1, bsr_1, bsl_2, bus_2, bsr_2, bsl_3, bus_3, bsr_3, bsl_4, bus_4, bsr_4, bsl_5, bus_5, bsr_5, bsl_6, bus_6, bsr_6, bsl_7, bus_7, bsr_7, bsl_8, bus_8, bsr_8, bsl_9, bus_9, bsr_9, bsl_10, bus_10, bsr_10, bsl_11, bus_11, bsr_11, bsl_12, bus_12, bsr_12, bsl_13, bus_13, bsr_13, bsl_14, bus_14, bsr_14, bsl_15, bus_15, bsr_15, bsl_16, bus_16, bsr_16, bsl_17, bus_17, bsr_17, bsl_18, bus_18, bsr_18, bsl_19, bus_19, bsr_19, bsl_20, bus_20, bsr_20, bsl_21, bus_21, bsr_21, bsl_22, bus_22, bsr_22, bsl_23, bus_23, bsr_23, bsl_24, bus_24, bsr_24, bsl_25, bus_25, bsr_25, bsl_26, bus_26, bsr_26, bsl_27, bus_27, bsr_27, bsl_28, bus_28, bsr_28, bsl_29, bus_29, bsr_29, bsl_30, bus_30, bsr_30, bsl_31, bus_31, bsr_31]
theorem sbit_8 (a : Int32) : ((shr a 8) &&& 1) = if (a &&& 256) = 0 then 0 else 1 := by
  obtain ⟨j, hj, e2⟩ : ∃ j : Nat, j < 2 ∧ (shr a 8) &&& 1 = nI j := pk_andE _ 1 (by decide)
  rw [sb_8_e, e2]
  have : j = 0 ∨ j = 1 := by omega
  rcases this with rfl | rfl <;> decide
theorem sb_9_e (a : Int32) : (a &&& 512) = shl ((shr a 9) &&& 1) 9 := by
  apply b_ext
  intro i hi
  rcases lt32 hi with rfl | rfl | rfl | rfl | rfl | rfl | rfl | rfl | rfl | rfl | rfl | rfl | rfl | rfl | rfl | rfl | rfl | rfl | rfl | rfl | rfl | rfl | rfl | rfl | rfl | rfl | rfl | rfl | rfl | rfl | rfl | rfl <;> simp [b_or, b_and, b_xor, b_i8, b_i16, bc_512, bc_1, bsl_0, bus_0, bsr_0, bsl_1, bus_1, bsr_1, bsl_2, bus_2, bsr_2, bsl_3, bus_3, bsr_3, bsl_4, bus_4, bsr_4, bsl_5, bus_5, bsr_5, bsl_6, bus_6, bsr_6, bsl_7, bus_7, bsr_7, bsl_8, bus_8, bsr_8, bsl_9, bus_9, bsr_9, bsl_10, bus_10, bsr_10, bsl_11, bus_11, bsr_11, bsl_12, bus_12, bsr_12, bsl_13, bus_13, bsr_13, bsl_14, bus_14, bsr_14, bsl_15, bus_15, bsr_15, bsl_16, bus_16, bsr_16, bsl_17, bus_17, bsr_17, bsl_18, bus_18, bsr_18, bsl_19, bus_19, bsr_19, bsl_20, bus_20, bsr_20, bsl_21, bus_21, bsr_21, bsl_22, bus_22, bsr_22, bsl_23, bus_23, bsr_23, bsl_24, bus_24, bsr_24, bsl_25, bus_25, bsr_25, bsl_26, bus_26, bsr_26, bsl_27, bus_27, bsr_27, bsl_28, bus_28, bsr_28, bsl_29, bus_29, bsr_29, bsl_30, bus_30, bsr_30, bsl_31, bus_31, bsr_31]
theorem sbit_9 (a : Int32) : ((shr a 9) &&& 1) = if (a &&& 512) = 0 then 0 else 1 := by
  obtain ⟨j, hj, e2⟩ : ∃ j : Nat, j < 2 ∧ (shr a 9) &&& 1 = nI j := pk_andE _ 1 (by decide)
  rw [sb_9_e, e2]
  have : j = 0 ∨ j = 1 := by omega
  rcases this with rfl | rfl <;> decide
theorem or_and0 {x c m : Int32} (h1 : x &&& m = 0) (h2 : c &&& m = 0) : (x ||| c) &&& m = 0 := by
  apply b_ext
  intro i hi
  have a1 := congrArg (fun z => bt z i) h1
  have a2 := congrArg (fun z => bt z i) h2
  simp only [b_and, b_0] at a1 a2
  rw [b_and, b_or, b_0]
  revert a1 a2
  cases bt x i <;> cases bt c i <;> cases bt m i <;> simp
theorem and_and0 {x m : Int32} (h : x &&& m = 0) (y : Int32) : (x &&& y) &&& m = 0 := by
  rw [Int32.and_assoc, Int32.and_comm y, ← Int32.and_assoc, h, Int32.zero_and]
theorem orc {m k : Int32} (h : m &&& k = 0) (x c : Int32) : ((x &&& m) ||| c) &&& k = c &&& k := by
  apply b_ext
  intro i hi
  have a1 := congrArg (fun z => bt z i) h
  simp only [b_and, b_0] at a1
  rw [b_and, b_or, b_and, b_and]
  revert a1
  cases bt x i <;> cases bt c i <;> cases bt m i <;> cases bt k i <;> simp
theorem WrR.trans {id : Nat} {q cs q1 cs1 q2 cs2 : Nat → Int32} (h1 : WrR id q cs q1 cs1) (h2 : WrR id q1 cs1 q2 cs2) : WrR id q cs q2 cs2 := ⟨h2.1, h2.2.1, fun i hi => (h2.2.2 i hi).trans (h1.2.2 i hi)⟩
theorem nid {id : Nat} (hid : id = 0 ∨ id = 1) : (nI id).toNatClampNeg = id := by
  rcases hid with rfl | rfl <;> rfl
/-- keep with all bits writes -/
theorem keep_all {id N : Nat} (cs : Nat → Int32) (v : Int32) (hid : id = 0 ∨ id = 1) (hN : N < 4096) : sp_Model_keep (nI id) (nI N) v (-1) cs = upd cs (4096 * id + N) v := by
  rw [keep_at cs v _ hid hN, kv1]
def FrC (id : Nat) (pcs lv cs pcs2 lv2 cs2 : Nat → Int32) : Prop := (∀ j, j ≠ id → pcs2 j = pcs j ∧ lv2 j = lv j) ∧ (∀ i, (i < 4096 * id ∨ 4096 * id + 4096 ≤ i) → cs2 i = cs i)
theorem mpp_ne {m : Int32} (h : ¬ (m &&& 6144 = 4096)) {a c : Int32} (ha : a &&& 6144 = 0) (hc : c &&& 6144 = m &&& 6144) : ¬ ((a ||| c) &&& 6144 = 4096) := by
  intro z
  apply h
  rw [← hc]
  have e : (a ||| c) &&& 6144 = c &&& 6144 := by
    apply b_ext
    intro i hi
    have a1 := congrArg (fun z => bt z i) ha
    simp only [b_and, b_0] at a1
    rw [b_and, b_or, b_and]
    revert a1
    cases bt a i <;> cases bt c i <;> cases bt (6144 : Int32) i <;> simp
  rw [← e, z]
set_option maxHeartbeats 4000000 in
theorem takeM_eq {n id : Nat} (hid : id = 0 ∨ id = 1) {M : TM} {s : HS} {pcs lv cs x : Nat → Int32} (hH : HartR id s pcs lv cs x) (cause tval : Int32) (cl : Nat → Int32) :
    (sp_Hart_take n (nI id) cause tval 0 (M, s)).1 = M ∧ HartR id (sp_Hart_take n (nI id) cause tval 0 (M, s)).2 (sp_Model_take cause tval 0 (nI id) pcs lv cs cl).1 (sp_Model_take cause tval 0 (nI id) pcs lv cs cl).2.1 (sp_Model_take cause tval 0 (nI id) pcs lv cs cl).2.2.1 x ∧ (sp_Model_take cause tval 0 (nI id) pcs lv cs cl).2.2.2 = upd (upd cl 0 (-1)) 1 (-1) ∧ FrC id pcs lv cs (sp_Model_take cause tval 0 (nI id) pcs lv cs cl).1 (sp_Model_take cause tval 0 (nI id) pcs lv cs cl).2.1 (sp_Model_take cause tval 0 (nI id) pcs lv cs cl).2.2.1 := by
  obtain ⟨f, pc, l, tv, q⟩ := s
  obtain ⟨h1, h2, h3, hC, hO, h6, h7⟩ := hH
  dsimp only at h1 h2 h3 hC hO h6 h7
  have ho := hO
  obtain ⟨a1, a1', -, -, -, a5, -⟩ := ho
  have w1 := wr1 hC hO (k := 833) (i := 6) (by decide) (okv_6 h6)
  have w2 := w1.trans (wr1 w1.1 w1.2.1 (k := 834) (i := 8) (by decide) (ok_none (by decide) cause))
  have w3 := w2.trans (wr1 w2.1 w2.2.1 (k := 835) (i := 9) (by decide) (ok_none (by decide) tval))
  -- the new mstatus, as the class has it and as the reference has it
  obtain ⟨nv, hnv⟩ : ∃ nv, nv = (((q 1) &&& (-6281)) ||| (if (q 1 &&& 8) = 0 then 0 else 128)) ||| (shl l 11) := ⟨_, rfl⟩
  have hl : shl l 11 = 0 ∨ shl l 11 = 2048 ∨ shl l 11 = 6144 := by
    rcases h7 with e | e | e <;> rw [e] <;> decide
  have okn : okv 1 nv := by
    refine okv_1 ⟨?_, ?_⟩
    · rw [hnv]
      refine or_and0 (or_and0 (and_and0 a1 _) ?_) ?_
      · split <;> decide
      · rcases hl with e | e | e <;> rw [e] <;> decide
    · rw [hnv, Int32.or_assoc, orc (by decide)]
      rcases hl with e | e | e <;> rw [e] <;> split <;> decide
  have w4 := w3.trans (wr1 w3.1 w3.2.1 (k := 768) (i := 1) (by decide) okn)
  have er : ((q 1) &&& (6280 ^^^ (-1))) ||| (((shl l 11) ||| (shl ((shr (q 1) 3) &&& 1) 7)) &&& 6280) = nv := by
    rw [hnv, sbit_3, Int32.or_assoc, show ((6280 : Int32) ^^^ (-1)) = -6281 from by decide]
    congr 1
    rcases hl with e | e | e <;> rw [e] <;> split <;> decide
  have ec : sp_Hart_take n (nI id) cause tval 0 (M, f, pc, l, tv, q) = (M, f, q 5, 3, tv, upd (upd (upd (upd q 6 pc) 8 cause) 9 tval) 1 nv) := by
    have e0 : sp_Csrs_has 8 (upd (upd (upd q 6 pc) 8 cause) 9 tval) = if (q 1 &&& 8) = 0 then 0 else 1 := rfl
    unfold sp_Hart_take
    dsimp only
    rw [if_pos rfl]
    unfold sp_Csrs_enterMachine
    rw [e0, hnv]
    by_cases c : (q 1 &&& 8) = 0
    · rw [if_pos c, if_pos rfl, if_pos c]
    · rw [if_neg c, if_neg (by decide), if_neg c]
  have em : sp_Model_take cause tval 0 (nI id) pcs lv cs cl = (upd pcs id (q 5), upd lv id 3, upd (upd (upd (upd cs (4096 * id + 833) pc) (4096 * id + 834) cause) (4096 * id + 835) tval) (4096 * id + 768) nv, upd (upd cl 0 (-1)) 1 (-1)) := by
    unfold sp_Model_take
    dsimp only
    rw [if_pos rfl, nid hid, h2, h3]
    have k1 := keep_all cs pc hid (N := 833) (by decide)
    have k2 := keep_all (upd cs (4096 * id + 833) pc) cause hid (N := 834) (by decide)
    have k3 := keep_all (upd (upd cs (4096 * id + 833) pc) (4096 * id + 834) cause) tval hid (N := 835) (by decide)
    have r1 := (raw_at cs hid (N := 768) (by decide)).trans (hC.2.1 (768, 1) (by decide))
    have k4 := keep_at (id := id) (N := 768) (upd (upd (upd cs (4096 * id + 833) pc) (4096 * id + 834) cause) (4096 * id + 835) tval) ((shl l 11) ||| (shl ((shr (q 1) 3) &&& 1) 7)) 6280 hid (by decide)
    rw [w3.1.2.1 (768, 1) (by decide)] at k4
    have k5 : (upd (upd (upd q 6 pc) 8 cause) 9 tval) 1 = q 1 := rfl
    rw [show (upd (upd (upd q 6 pc) 8 cause) 9 tval) (768, 1).2 = q 1 from rfl, er] at k4
    have r2 := (raw_at (id := id) (N := 773) (upd (upd (upd (upd cs (4096 * id + 833) pc) (4096 * id + 834) cause) (4096 * id + 835) tval) (4096 * id + 768) nv) hid (by decide)).trans (w4.1.2.1 (773, 5) (by decide))
    rw [show sp_Model_raw (nI id) 768 cs = q 1 from r1, show sp_Model_keep (nI id) 833 pc (-1) cs = _ from k1, show sp_Model_keep (nI id) 834 cause (-1) _ = _ from k2, show sp_Model_keep (nI id) 835 tval (-1) _ = _ from k3, show sp_Model_keep (nI id) 768 _ 6280 _ = _ from k4, show sp_Model_raw (nI id) 773 _ = _ from r2]
    rfl
  rw [ec, em]
  refine ⟨rfl, ⟨h1, pk_us, pk_us, w4.1, w4.2.1, a5, Or.inr (Or.inr rfl)⟩, rfl, fun j hj => ⟨pk_un hj, pk_un hj⟩, w4.2.2⟩
theorem ss_tk1 (a : Int32) : (a &&& (-291)) &&& 6144 = a &&& 6144 := by
  apply b_ext
  intro i hi
  rcases lt32 hi with rfl | rfl | rfl | rfl | rfl | rfl | rfl | rfl | rfl | rfl | rfl | rfl | rfl | rfl | rfl | rfl | rfl | rfl | rfl | rfl | rfl | rfl | rfl | rfl | rfl | rfl | rfl | rfl | rfl | rfl | rfl | rfl <;> simp [b_or, b_and, b_xor, b_i8, b_i16, bc_m291, bc_6144, bsl_0, bus_0, bsr_0, bsl_1, bus_1, bsr_1, bsl_2, bus_2, bsr_2, bsl_3, bus_3, bsr_3, bsl_4, bus_4, bsr_4, bsl_5, bus_5, bsr_5, bsl_6, bus_6, bsr_6, bsl_7, bus_7, bsr_7, bsl_8, bus_8, bsr_8, bsl_9, bus_9, bsr_9, bsl_10, bus_10, bsr_10, bsl_11, bus_11, bsr_11, bsl_12, bus_12, bsr_12, bsl_13, bus_13, bsr_13, bsl_14, bus_14, bsr_14, bsl_15, bus_15, bsr_15, bsl_16, bus_16, bsr_16, bsl_17, bus_17, bsr_17, bsl_18, bus_18, bsr_18, bsl_19, bus_19, bsr_19, bsl_20, bus_20, bsr_20, bsl_21, bus_21, bsr_21, bsl_22, bus_22, bsr_22, bsl_23, bus_23, bsr_23, bsl_24, bus_24, bsr_24, bsl_25, bus_25, bsr_25, bsl_26, bus_26, bsr_26, bsl_27, bus_27, bsr_27, bsl_28, bus_28, bsr_28, bsl_29, bus_29, bsr_29, bsl_30, bus_30, bsr_30, bsl_31, bus_31, bsr_31]
theorem ss_tk (a c : Int32) (h : c &&& 6144 = 0) : ((a &&& (-291)) ||| c) &&& 6144 = a &&& 6144 := by
  rw [← ss_tk1 a]
  apply b_ext
  intro i hi
  have a1 := congrArg (fun z => bt z i) h
  simp only [b_and, b_0] at a1
  rw [b_and, b_or, b_and, b_and, b_and]
  revert a1
  cases bt a i <;> cases bt c i <;> cases bt (-291 : Int32) i <;> cases bt (6144 : Int32) i <;> simp
set_option maxHeartbeats 4000000 in
theorem takeS_eq {n id : Nat} (hid : id = 0 ∨ id = 1) {M : TM} {s : HS} {pcs lv cs x : Nat → Int32} (hH : HartR id s pcs lv cs x) (cause tval : Int32) (cl : Nat → Int32) :
    (sp_Hart_take n (nI id) cause tval 1 (M, s)).1 = M ∧ HartR id (sp_Hart_take n (nI id) cause tval 1 (M, s)).2 (sp_Model_take cause tval 1 (nI id) pcs lv cs cl).1 (sp_Model_take cause tval 1 (nI id) pcs lv cs cl).2.1 (sp_Model_take cause tval 1 (nI id) pcs lv cs cl).2.2.1 x ∧ (sp_Model_take cause tval 1 (nI id) pcs lv cs cl).2.2.2 = upd (upd cl 0 (-1)) 1 (-1) ∧ FrC id pcs lv cs (sp_Model_take cause tval 1 (nI id) pcs lv cs cl).1 (sp_Model_take cause tval 1 (nI id) pcs lv cs cl).2.1 (sp_Model_take cause tval 1 (nI id) pcs lv cs cl).2.2.1 := by
  obtain ⟨f, pc, l, tv, q⟩ := s
  obtain ⟨h1, h2, h3, hC, hO, h6, h7⟩ := hH
  dsimp only at h1 h2 h3 hC hO h6 h7
  have ho := hO
  obtain ⟨a1, a1', -, -, -, -, -, -, a11, -⟩ := ho
  have w1 := wr1 hC hO (k := 321) (i := 12) (by decide) (okv_12 h6)
  have w2 := w1.trans (wr1 w1.1 w1.2.1 (k := 322) (i := 14) (by decide) (ok_none (by decide) cause))
  have w3 := w2.trans (wr1 w2.1 w2.2.1 (k := 323) (i := 15) (by decide) (ok_none (by decide) tval))
  obtain ⟨nv, hnv⟩ : ∃ nv, nv = (((q 1) &&& (-291)) ||| (if (q 1 &&& 2) = 0 then 0 else 32)) ||| (if l = 1 then 256 else 0) := ⟨_, rfl⟩
  have okn : okv 1 nv := by
    refine okv_1 ⟨?_, ?_⟩
    · rw [hnv]
      refine or_and0 (or_and0 (and_and0 a1 _) ?_) ?_
      · split <;> decide
      · split <;> decide
    · rw [hnv, Int32.or_assoc]
      have e : (((q 1) &&& (-291)) ||| ((if (q 1 &&& 2) = 0 then 0 else 32) ||| (if l = 1 then 256 else 0))) &&& 6144 = q 1 &&& 6144 := by
        split <;> split <;> exact ss_tk (q 1) _ (by decide)
      rw [e]; exact a1'
  have w4 := w3.trans (wr1 w3.1 w3.2.1 (k := 768) (i := 1) (by decide) okn)
  have er : ((q 1) &&& (290 ^^^ (-1))) ||| (((if l = 1 then 256 else 0) ||| (shl ((shr (q 1) 1) &&& 1) 5)) &&& 290) = nv := by
    rw [hnv, sbit_1, Int32.or_assoc, show ((290 : Int32) ^^^ (-1)) = -291 from by decide]
    congr 1
    split <;> split <;> decide
  have ec : sp_Hart_take n (nI id) cause tval 1 (M, f, pc, l, tv, q) = (M, f, q 11, 1, tv, upd (upd (upd (upd q 12 pc) 14 cause) 15 tval) 1 nv) := by
    have e0 : sp_Csrs_has 2 (upd (upd (upd q 12 pc) 14 cause) 15 tval) = if (q 1 &&& 2) = 0 then 0 else 1 := rfl
    unfold sp_Hart_take
    dsimp only
    rw [if_neg (by decide)]
    unfold sp_Csrs_enterSupervisor
    rw [e0, hnv]
    by_cases c : (q 1 &&& 2) = 0
    · rw [if_pos c, if_pos rfl, if_pos c]
      by_cases d : l = 1
      · rw [if_pos d, if_pos d]
      · rw [if_neg d, if_neg d]
    · rw [if_neg c, if_neg (by decide), if_neg c]
      by_cases d : l = 1
      · rw [if_pos d, if_pos d]
      · rw [if_neg d, if_neg d]
  have em : sp_Model_take cause tval 1 (nI id) pcs lv cs cl = (upd pcs id (q 11), upd lv id 1, upd (upd (upd (upd cs (4096 * id + 321) pc) (4096 * id + 322) cause) (4096 * id + 323) tval) (4096 * id + 768) nv, upd (upd cl 0 (-1)) 1 (-1)) := by
    unfold sp_Model_take
    dsimp only
    rw [if_neg (by decide), nid hid, h2, h3]
    have k1 := keep_all cs pc hid (N := 321) (by decide)
    have k2 := keep_all (upd cs (4096 * id + 321) pc) cause hid (N := 322) (by decide)
    have k3 := keep_all (upd (upd cs (4096 * id + 321) pc) (4096 * id + 322) cause) tval hid (N := 323) (by decide)
    have r1 := (raw_at cs hid (N := 768) (by decide)).trans (hC.2.1 (768, 1) (by decide))
    have k4 := keep_at (id := id) (N := 768) (upd (upd (upd cs (4096 * id + 321) pc) (4096 * id + 322) cause) (4096 * id + 323) tval) ((if l = 1 then 256 else 0) ||| (shl ((shr (q 1) 1) &&& 1) 5)) 290 hid (by decide)
    rw [w3.1.2.1 (768, 1) (by decide)] at k4
    rw [show (upd (upd (upd q 12 pc) 14 cause) 15 tval) (768, 1).2 = q 1 from rfl, er] at k4
    have r2 := (raw_at (id := id) (N := 261) (upd (upd (upd (upd cs (4096 * id + 321) pc) (4096 * id + 322) cause) (4096 * id + 323) tval) (4096 * id + 768) nv) hid (by decide)).trans (w4.1.2.1 (261, 11) (by decide))
    rw [show sp_Model_raw (nI id) 768 cs = q 1 from r1, show sp_Model_keep (nI id) 321 pc (-1) cs = _ from k1, show sp_Model_keep (nI id) 322 cause (-1) _ = _ from k2, show sp_Model_keep (nI id) 323 tval (-1) _ = _ from k3]
    by_cases d : l = 1
    · rw [if_pos d] at k4 ⊢
      rw [show sp_Model_keep (nI id) 768 _ 290 _ = _ from k4, show sp_Model_raw (nI id) 261 _ = _ from r2]
      rfl
    · rw [if_neg d] at k4 ⊢
      rw [show sp_Model_keep (nI id) 768 _ 290 _ = _ from k4, show sp_Model_raw (nI id) 261 _ = _ from r2]
      rfl
  rw [ec, em]
  refine ⟨rfl, ⟨h1, pk_us, pk_us, w4.1, w4.2.1, a11, Or.inr (Or.inl rfl)⟩, rfl, fun j hj => ⟨pk_un hj, pk_un hj⟩, w4.2.2⟩
