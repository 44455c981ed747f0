-- ===== fields, arithmetic, and what an instruction leaves behind =====
theorem bc_63 : bt 63 0 = true ∧ bt 63 1 = true ∧ bt 63 2 = true ∧ bt 63 3 = true ∧ bt 63 4 = true ∧ bt 63 5 = true ∧ bt 63 6 = false ∧ bt 63 7 = false ∧ bt 63 8 = false ∧ bt 63 9 = false ∧ bt 63 10 = false ∧ bt 63 11 = false ∧ bt 63 12 = false ∧ bt 63 13 = false ∧ bt 63 14 = false ∧ bt 63 15 = false ∧ bt 63 16 = false ∧ bt 63 17 = false ∧ bt 63 18 = false ∧ bt 63 19 = false ∧ bt 63 20 = false ∧ bt 63 21 = false ∧ bt 63 22 = false ∧ bt 63 23 = false ∧ bt 63 24 = false ∧ bt 63 25 = false ∧ bt 63 26 = false ∧ bt 63 27 = false ∧ bt 63 28 = false ∧ bt 63 29 = false ∧ bt 63 30 = false ∧ bt 63 31 = false := by decide +kernel
theorem bc_1044480 : bt 1044480 0 = false ∧ bt 1044480 1 = false ∧ bt 1044480 2 = false ∧ bt 1044480 3 = false ∧ bt 1044480 4 = false ∧ bt 1044480 5 = false ∧ bt 1044480 6 = false ∧ bt 1044480 7 = false ∧ bt 1044480 8 = false ∧ bt 1044480 9 = false ∧ bt 1044480 10 = false ∧ bt 1044480 11 = false ∧ bt 1044480 12 = true ∧ bt 1044480 13 = true ∧ bt 1044480 14 = true ∧ bt 1044480 15 = true ∧ bt 1044480 16 = true ∧ bt 1044480 17 = true ∧ bt 1044480 18 = true ∧ bt 1044480 19 = true ∧ bt 1044480 20 = false ∧ bt 1044480 21 = false ∧ bt 1044480 22 = false ∧ bt 1044480 23 = false ∧ bt 1044480 24 = false ∧ bt 1044480 25 = false ∧ bt 1044480 26 = false ∧ bt 1044480 27 = false ∧ bt 1044480 28 = false ∧ bt 1044480 29 = false ∧ bt 1044480 30 = false ∧ bt 1044480 31 = false := by decide +kernel
theorem fd_rd (w : Int32) : sp_Model_field w 7 5 = sp_Field_rd w := by unfold sp_Model_field sp_Field_rd; rw [show (shl 1 5) - 1 = (31 : Int32) from by decide]
theorem fd_rs1 (w : Int32) : sp_Model_field w 15 5 = sp_Field_rs1 w := by unfold sp_Model_field sp_Field_rs1; rw [show (shl 1 5) - 1 = (31 : Int32) from by decide]
theorem fd_rs2 (w : Int32) : sp_Model_field w 20 5 = sp_Field_rs2 w := by unfold sp_Model_field sp_Field_rs2; rw [show (shl 1 5) - 1 = (31 : Int32) from by decide]
theorem fd_f3 (w : Int32) : sp_Model_field w 12 3 = sp_Field_f3 w := by unfold sp_Model_field sp_Field_f3; rw [show (shl 1 3) - 1 = (7 : Int32) from by decide]
theorem bz_32 (x : Int32) : bt x 32 = false := b_big (by decide)
theorem bz_33 (x : Int32) : bt x 33 = false := b_big (by decide)
theorem bz_34 (x : Int32) : bt x 34 = false := b_big (by decide)
theorem bz_35 (x : Int32) : bt x 35 = false := b_big (by decide)
theorem bz_36 (x : Int32) : bt x 36 = false := b_big (by decide)
theorem bz_37 (x : Int32) : bt x 37 = false := b_big (by decide)
theorem bz_38 (x : Int32) : bt x 38 = false := b_big (by decide)
theorem bz_39 (x : Int32) : bt x 39 = false := b_big (by decide)
theorem bz_40 (x : Int32) : bt x 40 = false := b_big (by decide)
theorem bz_41 (x : Int32) : bt x 41 = false := b_big (by decide)
theorem bz_42 (x : Int32) : bt x 42 = false := b_big (by decide)
theorem bz_43 (x : Int32) : bt x 43 = false := b_big (by decide)
theorem bz_44 (x : Int32) : bt x 44 = false := b_big (by decide)
theorem bz_45 (x : Int32) : bt x 45 = false := b_big (by decide)
theorem bz_46 (x : Int32) : bt x 46 = false := b_big (by decide)
theorem bz_47 (x : Int32) : bt x 47 = false := b_big (by decide)
theorem bz_48 (x : Int32) : bt x 48 = false := b_big (by decide)
theorem bz_49 (x : Int32) : bt x 49 = false := b_big (by decide)
theorem bz_50 (x : Int32) : bt x 50 = false := b_big (by decide)
theorem bz_51 (x : Int32) : bt x 51 = false := b_big (by decide)
theorem bz_52 (x : Int32) : bt x 52 = false := b_big (by decide)
theorem bz_53 (x : Int32) : bt x 53 = false := b_big (by decide)
theorem bz_54 (x : Int32) : bt x 54 = false := b_big (by decide)
theorem bz_55 (x : Int32) : bt x 55 = false := b_big (by decide)
theorem bz_56 (x : Int32) : bt x 56 = false := b_big (by decide)
theorem bz_57 (x : Int32) : bt x 57 = false := b_big (by decide)
theorem bz_58 (x : Int32) : bt x 58 = false := b_big (by decide)
theorem bz_59 (x : Int32) : bt x 59 = false := b_big (by decide)
theorem fb_25 (w : Int32) : (ush w 25) &&& 127 = ush w 25 := by
  apply b_ext
  intro i hi
  rcases lt32 hi with rfl | rfl | rfl | rfl | rfl | rfl | rfl | rfl | rfl | rfl | rfl | rfl | rfl | rfl | rfl | rfl | rfl | rfl | rfl | rfl | rfl | rfl | rfl | rfl | rfl | rfl | rfl | rfl | rfl | rfl | rfl | rfl <;> simp [b_or, b_and, b_xor, b_i8, b_i16, bc_127, bz_32, bz_33, bz_34, bz_35, bz_36, bz_37, bz_38, bz_39, bz_40, bz_41, bz_42, bz_43, bz_44, bz_45, bz_46, bz_47, bz_48, bz_49, bz_50, bz_51, bz_52, bz_53, bz_54, bz_55, bz_56, bz_57, bz_58, bz_59, bsl_0, bus_0, bsr_0, bsl_1, bus_1, bsr_1, bsl_2, bus_2, bsr_2, bsl_3, bus_3, bsr_3, bsl_4, bus_4, bsr_4, bsl_5, bus_5, bsr_5, bsl_6, bus_6, bsr_6, bsl_7, bus_7, bsr_7, bsl_8, bus_8, bsr_8, bsl_9, bus_9, bsr_9, bsl_10, bus_10, bsr_10, bsl_11, bus_11, bsr_11, bsl_12, bus_12, bsr_12, bsl_13, bus_13, bsr_13, bsl_14, bus_14, bsr_14, bsl_15, bus_15, bsr_15, bsl_16, bus_16, bsr_16, bsl_17, bus_17, bsr_17, bsl_18, bus_18, bsr_18, bsl_19, bus_19, bsr_19, bsl_20, bus_20, bsr_20, bsl_21, bus_21, bsr_21, bsl_22, bus_22, bsr_22, bsl_23, bus_23, bsr_23, bsl_24, bus_24, bsr_24, bsl_25, bus_25, bsr_25, bsl_26, bus_26, bsr_26, bsl_27, bus_27, bsr_27, bsl_28, bus_28, bsr_28, bsl_29, bus_29, bsr_29, bsl_30, bus_30, bsr_30, bsl_31, bus_31, bsr_31]
theorem fb_27 (w : Int32) : (ush w 27) &&& 31 = ush w 27 := by
  apply b_ext
  intro i hi
  rcases lt32 hi with rfl | rfl | rfl | rfl | rfl | rfl | rfl | rfl | rfl | rfl | rfl | rfl | rfl | rfl | rfl | rfl | rfl | rfl | rfl | rfl | rfl | rfl | rfl | rfl | rfl | rfl | rfl | rfl | rfl | rfl | rfl | rfl <;> simp [b_or, b_and, b_xor, b_i8, b_i16, bc_31, bz_32, bz_33, bz_34, bz_35, bz_36, bz_37, bz_38, bz_39, bz_40, bz_41, bz_42, bz_43, bz_44, bz_45, bz_46, bz_47, bz_48, bz_49, bz_50, bz_51, bz_52, bz_53, bz_54, bz_55, bz_56, bz_57, bz_58, bz_59, bsl_0, bus_0, bsr_0, bsl_1, bus_1, bsr_1, bsl_2, bus_2, bsr_2, bsl_3, bus_3, bsr_3, bsl_4, bus_4, bsr_4, bsl_5, bus_5, bsr_5, bsl_6, bus_6, bsr_6, bsl_7, bus_7, bsr_7, bsl_8, bus_8, bsr_8, bsl_9, bus_9, bsr_9, bsl_10, bus_10, bsr_10, bsl_11, bus_11, bsr_11, bsl_12, bus_12, bsr_12, bsl_13, bus_13, bsr_13, bsl_14, bus_14, bsr_14, bsl_15, bus_15, bsr_15, bsl_16, bus_16, bsr_16, bsl_17, bus_17, bsr_17, bsl_18, bus_18, bsr_18, bsl_19, bus_19, bsr_19, bsl_20, bus_20, bsr_20, bsl_21, bus_21, bsr_21, bsl_22, bus_22, bsr_22, bsl_23, bus_23, bsr_23, bsl_24, bus_24, bsr_24, bsl_25, bus_25, bsr_25, bsl_26, bus_26, bsr_26, bsl_27, bus_27, bsr_27, bsl_28, bus_28, bsr_28, bsl_29, bus_29, bsr_29, bsl_30, bus_30, bsr_30, bsl_31, bus_31, bsr_31]
theorem fb_20 (w : Int32) : (ush w 20) &&& 4095 = ush w 20 := by
  apply b_ext
  intro i hi
  rcases lt32 hi with rfl | rfl | rfl | rfl | rfl | rfl | rfl | rfl | rfl | rfl | rfl | rfl | rfl | rfl | rfl | rfl | rfl | rfl | rfl | rfl | rfl | rfl | rfl | rfl | rfl | rfl | rfl | rfl | rfl | rfl | rfl | rfl <;> simp [b_or, b_and, b_xor, b_i8, b_i16, bc_4095, bz_32, bz_33, bz_34, bz_35, bz_36, bz_37, bz_38, bz_39, bz_40, bz_41, bz_42, bz_43, bz_44, bz_45, bz_46, bz_47, bz_48, bz_49, bz_50, bz_51, bz_52, bz_53, bz_54, bz_55, bz_56, bz_57, bz_58, bz_59, bsl_0, bus_0, bsr_0, bsl_1, bus_1, bsr_1, bsl_2, bus_2, bsr_2, bsl_3, bus_3, bsr_3, bsl_4, bus_4, bsr_4, bsl_5, bus_5, bsr_5, bsl_6, bus_6, bsr_6, bsl_7, bus_7, bsr_7, bsl_8, bus_8, bsr_8, bsl_9, bus_9, bsr_9, bsl_10, bus_10, bsr_10, bsl_11, bus_11, bsr_11, bsl_12, bus_12, bsr_12, bsl_13, bus_13, bsr_13, bsl_14, bus_14, bsr_14, bsl_15, bus_15, bsr_15, bsl_16, bus_16, bsr_16, bsl_17, bus_17, bsr_17, bsl_18, bus_18, bsr_18, bsl_19, bus_19, bsr_19, bsl_20, bus_20, bsr_20, bsl_21, bus_21, bsr_21, bsl_22, bus_22, bsr_22, bsl_23, bus_23, bsr_23, bsl_24, bus_24, bsr_24, bsl_25, bus_25, bsr_25, bsl_26, bus_26, bsr_26, bsl_27, bus_27, bsr_27, bsl_28, bus_28, bsr_28, bsl_29, bus_29, bsr_29, bsl_30, bus_30, bsr_30, bsl_31, bus_31, bsr_31]
theorem im5 (w : Int32) : (shr w 20) &&& 31 = (ush w 20) &&& 31 := by
  apply b_ext
  intro i hi
  rcases lt32 hi with rfl | rfl | rfl | rfl | rfl | rfl | rfl | rfl | rfl | rfl | rfl | rfl | rfl | rfl | rfl | rfl | rfl | rfl | rfl | rfl | rfl | rfl | rfl | rfl | rfl | rfl | rfl | rfl | rfl | rfl | rfl | rfl <;> simp [b_or, b_and, b_xor, b_i8, b_i16, bc_31, bsl_0, bus_0, bsr_0, bsl_1, bus_1, bsr_1, bsl_2, bus_2, bsr_2, bsl_3, bus_3, bsr_3, bsl_4, bus_4, bsr_4, bsl_5, bus_5, bsr_5, bsl_6, bus_6, bsr_6, bsl_7, bus_7, bsr_7, bsl_8, bus_8, bsr_8, bsl_9, bus_9, bsr_9, bsl_10, bus_10, bsr_10, bsl_11, bus_11, bsr_11, bsl_12, bus_12, bsr_12, bsl_13, bus_13, bsr_13, bsl_14, bus_14, bsr_14, bsl_15, bus_15, bsr_15, bsl_16, bus_16, bsr_16, bsl_17, bus_17, bsr_17, bsl_18, bus_18, bsr_18, bsl_19, bus_19, bsr_19, bsl_20, bus_20, bsr_20, bsl_21, bus_21, bsr_21, bsl_22, bus_22, bsr_22, bsl_23, bus_23, bsr_23, bsl_24, bus_24, bsr_24, bsl_25, bus_25, bsr_25, bsl_26, bus_26, bsr_26, bsl_27, bus_27, bsr_27, bsl_28, bus_28, bsr_28, bsl_29, bus_29, bsr_29, bsl_30, bus_30, bsr_30, bsl_31, bus_31, bsr_31]
theorem fd_f7 (w : Int32) : sp_Model_field w 25 7 = sp_Field_f7 w := by unfold sp_Model_field sp_Field_f7; rw [show (shl 1 7) - 1 = (127 : Int32) from by decide, fb_25]
theorem fd_27 (w : Int32) : sp_Model_field w 27 5 = ush w 27 := by unfold sp_Model_field; rw [show (shl 1 5) - 1 = (31 : Int32) from by decide, fb_27]
theorem fd_20 (w : Int32) : sp_Model_field w 20 12 = ush w 20 := by unfold sp_Model_field; rw [show (shl 1 12) - 1 = (4095 : Int32) from by decide, fb_20]
theorem bo_b (w : Int32) : (((shl (shr w 31) 12) ||| (shl ((ush w 7) &&& 1) 11)) ||| (shl ((ush w 25) &&& 63) 5)) ||| (shl ((ush w 8) &&& 15) 1) = (((shl (shr w 31) 12) ||| (shl ((ush w 25) &&& 63) 5)) ||| (shl ((ush w 8) &&& 15) 1)) ||| (shl ((ush w 7) &&& 1) 11) := by
  apply b_ext
  intro i hi
  rcases lt32 hi with rfl | rfl | rfl | rfl | rfl | rfl | rfl | rfl | rfl | rfl | rfl | rfl | rfl | rfl | rfl | rfl | rfl | rfl | rfl | rfl | rfl | rfl | rfl | rfl | rfl | rfl | rfl | rfl | rfl | rfl | rfl | rfl <;> simp [b_or, b_and, b_xor, b_i8, b_i16, bc_1, bc_63, bc_15, bsl_0, bus_0, bsr_0, bsl_1, bus_1, bsr_1, bsl_2, bus_2, bsr_2, bsl_3, bus_3, bsr_3, bsl_4, bus_4, bsr_4, bsl_5, bus_5, bsr_5, bsl_6, bus_6, bsr_6, bsl_7, bus_7, bsr_7, bsl_8, bus_8, bsr_8, bsl_9, bus_9, bsr_9, bsl_10, bus_10, bsr_10, bsl_11, bus_11, bsr_11, bsl_12, bus_12, bsr_12, bsl_13, bus_13, bsr_13, bsl_14, bus_14, bsr_14, bsl_15, bus_15, bsr_15, bsl_16, bus_16, bsr_16, bsl_17, bus_17, bsr_17, bsl_18, bus_18, bsr_18, bsl_19, bus_19, bsr_19, bsl_20, bus_20, bsr_20, bsl_21, bus_21, bsr_21, bsl_22, bus_22, bsr_22, bsl_23, bus_23, bsr_23, bsl_24, bus_24, bsr_24, bsl_25, bus_25, bsr_25, bsl_26, bus_26, bsr_26, bsl_27, bus_27, bsr_27, bsl_28, bus_28, bsr_28, bsl_29, bus_29, bsr_29, bsl_30, bus_30, bsr_30, bsl_31, bus_31, bsr_31]
theorem jo_b (w : Int32) : (((shl (shr w 31) 20) ||| (shl ((ush w 12) &&& 255) 12)) ||| (shl ((ush w 20) &&& 1) 11)) ||| (shl ((ush w 21) &&& 1023) 1) = (((shl (shr w 31) 20) ||| (shl ((ush w 21) &&& 1023) 1)) ||| (shl ((ush w 20) &&& 1) 11)) ||| (w &&& 1044480) := by
  apply b_ext
  intro i hi
  rcases lt32 hi with rfl | rfl | rfl | rfl | rfl | rfl | rfl | rfl | rfl | rfl | rfl | rfl | rfl | rfl | rfl | rfl | rfl | rfl | rfl | rfl | rfl | rfl | rfl | rfl | rfl | rfl | rfl | rfl | rfl | rfl | rfl | rfl <;> simp [b_or, b_and, b_xor, b_i8, b_i16, bc_1, bc_255, bc_1023, bc_1044480, bsl_0, bus_0, bsr_0, bsl_1, bus_1, bsr_1, bsl_2, bus_2, bsr_2, bsl_3, bus_3, bsr_3, bsl_4, bus_4, bsr_4, bsl_5, bus_5, bsr_5, bsl_6, bus_6, bsr_6, bsl_7, bus_7, bsr_7, bsl_8, bus_8, bsr_8, bsl_9, bus_9, bsr_9, bsl_10, bus_10, bsr_10, bsl_11, bus_11, bsr_11, bsl_12, bus_12, bsr_12, bsl_13, bus_13, bsr_13, bsl_14, bus_14, bsr_14, bsl_15, bus_15, bsr_15, bsl_16, bus_16, bsr_16, bsl_17, bus_17, bsr_17, bsl_18, bus_18, bsr_18, bsl_19, bus_19, bsr_19, bsl_20, bus_20, bsr_20, bsl_21, bus_21, bsr_21, bsl_22, bus_22, bsr_22, bsl_23, bus_23, bsr_23, bsl_24, bus_24, bsr_24, bsl_25, bus_25, bsr_25, bsl_26, bus_26, bsr_26, bsl_27, bus_27, bsr_27, bsl_28, bus_28, bsr_28, bsl_29, bus_29, bsr_29, bsl_30, bus_30, bsr_30, bsl_31, bus_31, bsr_31]
theorem bo_eq (w : Int32) : (((shl (shr w 31) 12) ||| (shl (sp_Model_field w 7 1) 11)) ||| (shl (sp_Model_field w 25 6) 5)) ||| (shl (sp_Model_field w 8 4) 1) = sp_Field_branchOffset w := by
  unfold sp_Model_field sp_Field_branchOffset
  rw [show (shl 1 1) - 1 = (1 : Int32) from by decide, show (shl 1 6) - 1 = (63 : Int32) from by decide, show (shl 1 4) - 1 = (15 : Int32) from by decide, bo_b]
theorem jo_eq (w : Int32) : (((shl (shr w 31) 20) ||| (shl (sp_Model_field w 12 8) 12)) ||| (shl (sp_Model_field w 20 1) 11)) ||| (shl (sp_Model_field w 21 10) 1) = sp_Field_jumpOffset w := by
  unfold sp_Model_field sp_Field_jumpOffset
  rw [show (shl 1 8) - 1 = (255 : Int32) from by decide, show (shl 1 1) - 1 = (1 : Int32) from by decide, show (shl 1 10) - 1 = (1023 : Int32) from by decide, jo_b]
theorem so_eq (w : Int32) : (shl (shr w 25) 5) ||| (sp_Model_field w 7 5) = sp_Field_storeOffset w := by rw [fd_rd]; rfl
theorem f3_cases (w : Int32) : sp_Field_f3 w = 0 ∨ sp_Field_f3 w = 1 ∨ sp_Field_f3 w = 2 ∨ sp_Field_f3 w = 3 ∨ sp_Field_f3 w = 4 ∨ sp_Field_f3 w = 5 ∨ sp_Field_f3 w = 6 ∨ sp_Field_f3 w = 7 := by
  obtain ⟨j, hj, e⟩ := pk_andE (ush w 12) (m := 7) 3 (by decide)
  unfold sp_Field_f3
  rw [e]
  have : j = 0 ∨ j = 1 ∨ j = 2 ∨ j = 3 ∨ j = 4 ∨ j = 5 ∨ j = 6 ∨ j = 7 := by omega
  rcases this with rfl | rfl | rfl | rfl | rfl | rfl | rfl | rfl
  · exact Or.inl rfl
  · exact Or.inr (Or.inl rfl)
  · exact Or.inr (Or.inr (Or.inl rfl))
  · exact Or.inr (Or.inr (Or.inr (Or.inl rfl)))
  · exact Or.inr (Or.inr (Or.inr (Or.inr (Or.inl rfl))))
  · exact Or.inr (Or.inr (Or.inr (Or.inr (Or.inr (Or.inl rfl)))))
  · exact Or.inr (Or.inr (Or.inr (Or.inr (Or.inr (Or.inr (Or.inl rfl))))))
  · exact Or.inr (Or.inr (Or.inr (Or.inr (Or.inr (Or.inr (Or.inr rfl))))))
/-! products and quotients -/
theorem l_us32 (x : Int64) {i : Nat} (hi : i < 32) : bl (lush x 32) i = bl x (32 + i) := by
  unfold bl lush
  have e : ((x.toUInt64 >>> ((32 : Int32).toInt64.toUInt64 &&& Int64.toUInt64 63)).toInt64).toBitVec = x.toBitVec >>> 32 := by
    have h : (((32 : Int32).toInt64.toUInt64 &&& Int64.toUInt64 63).toBitVec % 64).toNat = 32 := by decide
    show x.toBitVec >>> (((32 : Int32).toInt64.toUInt64 &&& Int64.toUInt64 63).toBitVec % 64).toNat = _
    rw [h]
  rw [e, BitVec.getLsbD_ushiftRight]
theorem hi_eq (z : Int64) : (lshr z 32).toInt32 = (lush z 32).toInt32 := by
  apply b_ext
  intro i hi
  rw [b_lo, b_lo, l_shr32, l_us32 z hi]
  simp [hi, show i < 64 by omega, show 32 + i < 64 by omega]
theorem mul_eq {k : Int32} (a b : Int32) (hk : k = 0 ∨ k = 1 ∨ k = 2 ∨ k = 3) : sp_Alu_multiplied k a b = sp_Model_product k a b := by
  unfold sp_Alu_multiplied sp_Model_product
  rw [hi_eq, hi_eq, hi_eq]
  rcases hk with rfl | rfl | rfl | rfl <;> simp (decide := true) only [↓reduceIte]
  rw [Int64.toInt32_mul, Int32.toInt32_toInt64, Int32.toInt32_toInt64]
theorem div_eq (a b : Int32) : (a.toInt64 / b.toInt64).toInt32 = a / b := by
  apply Int32.toInt_inj.mp
  rw [Int64.toInt_toInt32, Int64.toInt_div, Int32.toInt_div, Int32.toInt_toInt64, Int32.toInt_toInt64]
  exact Int.bmod_bmod_of_dvd (by decide)
theorem rem_eq (a b : Int32) : (a.toInt64 - a.toInt64 / b.toInt64 * b.toInt64).toInt32 = a - a / b * b := by
  rw [Int64.toInt32_sub, Int64.toInt32_mul, div_eq, Int32.toInt32_toInt64, Int32.toInt32_toInt64]
theorem quo_eq {k : Int32} (a b : Int32) (hk : k = 4 ∨ k = 5 ∨ k = 6 ∨ k = 7) : sp_Alu_divided k a b = sp_Model_quotient k a b := by
  unfold sp_Alu_divided sp_Model_quotient
  rw [div_eq, rem_eq]
  by_cases c : b = 0
  · rw [if_pos c, if_pos c, if_pos c]
    rcases hk with rfl | rfl | rfl | rfl <;> simp (decide := true) only [↓reduceIte]
  · rw [if_neg c, if_neg c, if_neg c]
    rcases hk with rfl | rfl | rfl | rfl <;> simp (decide := true) only [↓reduceIte]
theorem pl_eq {k : Int32} (a b : Int32) (hk : ¬ k = 5) : sp_Alu_plain k a b = sp_Model_plain k a b := by
  unfold sp_Alu_plain sp_Model_plain
  rw [if_neg hk, if_neg hk]
  rfl
/-! what an instruction leaves behind -/
abbrev EX : Type := Int32 × Int32 × Int32 × (Nat → Int32) × (Nat → Int32) × (Nat → Int32) × (Nat → Int32) × (Nat → Int32) × (Nat → Int64) × (Nat → Int32) × Int64 × (Nat → Int32) × Int32
def FrX (id : Nat) (lv cs x lv2 cs2 x2 : Nat → Int32) : Prop := (∀ j, j ≠ id → lv2 j = lv j) ∧ (∀ i, (i < 4096 * id ∨ 4096 * id + 4096 ≤ i) → cs2 i = cs i) ∧ (∀ i, (i < 32 * id ∨ 32 * id + 32 ≤ i) → x2 i = x i)
def ExR (n id : Nat) (σ : TH) (pcs lv cs x b cl : Nat → Int32) (cm : Nat → Int64) (so : Nat → Int32) (ti : Int64) (pu : Nat → Int32) (np : Int32) (a : Int32 × TH) (E : EX) : Prop :=
  (∃ M2 s2 tv nx lv2 cs2 x2 b2 cl2 cm2 so2 ti2 pu2 np2, a = (0, M2, s2) ∧ E = (-1, tv, nx, lv2, cs2, x2, b2, cl2, cm2, so2, ti2, pu2, np2) ∧ MemR n M2 b2 cl2 cm2 so2 ti2 pu2 np2 ∧ HartR id s2 (upd pcs id nx) lv2 cs2 x2 ∧ FrX id lv cs x lv2 cs2 x2) ∨
  (∃ c tv nx, c < 16 ∧ a = (1 + nI c, σ.1, σ.2.1, σ.2.2.1, σ.2.2.2.1, tv, σ.2.2.2.2.2) ∧ E = (nI c, tv, nx, lv, cs, x, b, cl, cm, so, ti, pu, np))
section Ops
variable {n id : Nat} {M : TM} {f q pcs lv cs x b cl : Nat → Int32} {cm : Nat → Int64} {so : Nat → Int32} {ti : Int64} {pu : Nat → Int32} {np : Int32} {pc l t tv nx w : Int32}
theorem ExR.trap {c : Nat} (hc : c < 16) (v : Int32) : ExR n id (M, f, pc, l, t, q) pcs lv cs x b cl cm so ti pu np (sp_Hart_trap n (nI id) (nI c) v (M, f, pc, l, t, q)) (nI c, v, nx, lv, cs, x, b, cl, cm, so, ti, pu, np) := Or.inr ⟨c, v, nx, hc, rfl, rfl⟩
theorem ExR.ill : ExR n id (M, f, pc, l, t, q) pcs lv cs x b cl cm so ti pu np (sp_Hart_illegal n (nI id) w (M, f, pc, l, t, q)) ((sp_Model_trap 2 w (-1) tv).1, (sp_Model_trap 2 w (-1) tv).2, nx, lv, cs, x, b, cl, cm, so, ti, pu, np) := ExR.trap (c := 2) (by decide) w
theorem ExR.fault {c : Nat} {p : Int64} (hc : c < 16) (hp : p = sp_Fault_of (nI c)) (v : Int32) : ExR n id (M, f, pc, l, t, q) pcs lv cs x b cl cm so ti pu np (sp_Hart_fault n (nI id) p v (M, f, pc, l, t, q)) (nI c, v, nx, lv, cs, x, b, cl, cm, so, ti, pu, np) := by
  unfold sp_Hart_fault
  rw [hp, (fault_of c hc).2.2]
  exact ExR.trap hc v
theorem pc4 {p : Int32} (h : p &&& 3 = 0) : (p + 4) &&& 3 = 0 := by
  have h1 := and0 2 (by decide) h
  have e : (p + 4).toBitVec.toNat = (p.toBitVec.toNat + 4) % 2 ^ 32 := by
    show (p.toBitVec + 4#32).toNat = _
    rw [BitVec.toNat_add]; rfl
  rw [pk_and (p + 4) 2 (by decide), e]
  have : (p.toBitVec.toNat + 4) % 2 ^ 32 % 2 ^ 2 = 0 := by omega
  rw [this]; rfl
theorem xi_id {j : Nat} (hid : id = 0 ∨ id = 1) (h : j < 32) : (32 * nI id + nI j).toNatClampNeg = 32 * id + j := by
  rcases hid with rfl | rfl
  · exact xi_0 h
  · exact xi_1 h
theorem rg_eq {k : Int32} (hid : id = 0 ∨ id = 1) (hx : ∀ j, j < 32 → x (32 * id + j) = f j) (hk : vp_in k 32) : sp_Model_reg k (nI id) x = f k.toNatClampNeg := by
  obtain ⟨j, hj, rfl⟩ := vp_in_of hk (by decide)
  unfold sp_Model_reg
  rw [xi_id hid hj, hx j hj, nI_clamp (by omega)]
/-- a register is written on both sides -/
theorem wr_x {v : Int32} (hid : id = 0 ∨ id = 1) (hx : ∀ j, j < 32 → x (32 * id + j) = f j) (M2 : TM) (pc2 l2 t2 : Int32) (q2 : Nat → Int32) :
    ∃ f2, sp_Hart_write n (nI id) (sp_Field_rd w) v (M2, f, pc2, l2, t2, q2) = (M2, f2, pc2, l2, t2, q2) ∧ (∀ j, j < 32 → sp_Model_setReg (sp_Model_field w 7 5) v (nI id) (-1) x (32 * id + j) = f2 j) ∧ (∀ i, (i < 32 * id ∨ 32 * id + 32 ≤ i) → sp_Model_setReg (sp_Model_field w 7 5) v (nI id) (-1) x i = x i) := by
  rw [fd_rd]
  obtain ⟨j, hj, e⟩ := vp_in_of (vp_rd w) (by decide)
  rw [e]
  unfold sp_Hart_write sp_Model_setReg
  by_cases c : j = 0
  · subst c
    exact ⟨f, rfl, hx, fun _ _ => rfl⟩
  · have c1 : ¬ nI j = 0 := nI_ne0 (by omega) (by omega)
    have c2 : ¬ nI j ≤ 0 := nI_nle (by omega) (by omega)
    rw [if_neg c1, if_neg c2, if_pos rfl, xi_id hid hj, nI_clamp (by omega)]
    refine ⟨_, rfl, ?_, ?_⟩
    · intro i hi
      by_cases e2 : i = j
      · rw [e2, pk_us, pk_us]
      · rw [pk_un (by omega), pk_un e2]; exact hx i hi
    · intro i hi
      rw [pk_un (by omega)]
/-- the instruction ends: a register is written, the pc goes on -/
theorem fin_ok {M2 : TM} {q2 cs2 b2 cl2 : Nat → Int32} {cm2 : Nat → Int64} {so2 : Nat → Int32} {ti2 : Int64} {pu2 : Nat → Int32} {np2 v : Int32} (hid : id = 0 ∨ id = 1) (hH : HartR id (f, pc, l, t, q) pcs lv cs x) (hM2 : MemR n M2 b2 cl2 cm2 so2 ti2 pu2 np2) (hw : WrR id q cs q2 cs2) :
    ExR n id (M, f, pc, l, t, q) pcs lv cs x b cl cm so ti pu np (sp_Hart_finish n (nI id) w v (M2, f, pc, l, t, q2)) (-1, tv, pc + 4, lv, cs2, sp_Model_setReg (sp_Model_field w 7 5) v (nI id) (-1) x, b2, cl2, cm2, so2, ti2, pu2, np2) := by
  obtain ⟨h1, h2, h3, hC, hO, h6, h7⟩ := hH
  dsimp only at h1 h2 h3 hC hO h6 h7
  obtain ⟨f2, e1, e2, e3⟩ := wr_x (n := n) (w := w) (v := v) hid h1 M2 pc l t q2
  refine Or.inl ⟨M2, (f2, pc + 4, l, t, q2), tv, pc + 4, lv, cs2, _, b2, cl2, cm2, so2, ti2, pu2, np2, ?_, rfl, hM2, ⟨e2, pk_us, h3, hw.1, hw.2.1, pc4 h6, h7⟩, fun _ _ => rfl, hw.2.2, e3⟩
  unfold sp_Hart_finish sp_Hart_goOn
  rw [e1]
/-- the instruction ends: the pc goes on -/
theorem go_ok {M2 : TM} {b2 cl2 : Nat → Int32} {cm2 : Nat → Int64} {so2 : Nat → Int32} {ti2 : Int64} {pu2 : Nat → Int32} {np2 : Int32} (hH : HartR id (f, pc, l, t, q) pcs lv cs x) (hM2 : MemR n M2 b2 cl2 cm2 so2 ti2 pu2 np2) :
    ExR n id (M, f, pc, l, t, q) pcs lv cs x b cl cm so ti pu np (sp_Hart_goOn n (nI id) (M2, f, pc, l, t, q)) (-1, tv, pc + 4, lv, cs, x, b2, cl2, cm2, so2, ti2, pu2, np2) := by
  obtain ⟨h1, h2, h3, hC, hO, h6, h7⟩ := hH
  dsimp only at h1 h2 h3 hC hO h6 h7
  exact Or.inl ⟨M2, (f, pc + 4, l, t, q), tv, pc + 4, lv, cs, x, b2, cl2, cm2, so2, ti2, pu2, np2, rfl, rfl, hM2, ⟨h1, pk_us, h3, hC, hO, pc4 h6, h7⟩, fun _ _ => rfl, fun _ _ => rfl, fun _ _ => rfl⟩
/-- a jump, with the place to come back to -/
theorem jump_ok {tg : Int32} (hid : id = 0 ∨ id = 1) (hM : MemR n M b cl cm so ti pu np) (hH : HartR id (f, pc, l, t, q) pcs lv cs x) :
    ExR n id (M, f, pc, l, t, q) pcs lv cs x b cl cm so ti pu np (sp_Hart_jump n (nI id) w tg (M, f, pc, l, t, q)) ((sp_Model_go tg (-1) tv nx).1, (sp_Model_go tg (-1) tv nx).2.1, (sp_Model_go tg (-1) tv nx).2.2, lv, cs, sp_Model_setReg (sp_Model_field w 7 5) (pc + 4) (nI id) (sp_Model_go tg (-1) tv nx).1 x, b, cl, cm, so, ti, pu, np) := by
  obtain ⟨h1, h2, h3, hC, hO, h6, h7⟩ := hH
  dsimp only at h1 h2 h3 hC hO h6 h7
  unfold sp_Hart_jump sp_Model_go
  by_cases c : tg &&& 3 = 0
  · rw [if_pos c, if_pos c]
    dsimp only
    obtain ⟨f2, e1, e2, e3⟩ := wr_x (n := n) (w := w) (v := pc + 4) hid h1 M pc l t q
    rw [e1]
    exact Or.inl ⟨M, (f2, tg, l, t, q), tv, tg, lv, cs, _, b, cl, cm, so, ti, pu, np, rfl, rfl, hM, ⟨e2, pk_us, h3, hC, hO, c, h7⟩, fun _ _ => rfl, fun _ _ => rfl, e3⟩
  · rw [if_neg c, if_neg c]
    have e : sp_Model_setReg (sp_Model_field w 7 5) (pc + 4) (nI id) 0 x = x := by
      unfold sp_Model_setReg
      split
      · rfl
      · rfl
    show ExR n id (M, f, pc, l, t, q) pcs lv cs x b cl cm so ti pu np (sp_Hart_trap n (nI id) (nI 0) tg (M, f, pc, l, t, q)) (nI 0, tg, tg, lv, cs, sp_Model_setReg (sp_Model_field w 7 5) (pc + 4) (nI id) 0 x, b, cl, cm, so, ti, pu, np)
    rw [e]
    exact ExR.trap (by decide) tg
end Ops
