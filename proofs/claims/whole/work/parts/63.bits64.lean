/-! words of 64 bits, bit by bit -/
def bl (x : Int64) (i : Nat) : Bool := x.toBitVec.getLsbD i
theorem l_ext {x y : Int64} (h : ∀ i, i < 64 → bl x i = bl y i) : x = y := Int64.toBitVec_inj.mp (BitVec.eq_of_getLsbD_eq (fun i hi => h i hi))
theorem l_or (x y : Int64) (i : Nat) : bl (x ||| y) i = (bl x i || bl y i) := by unfold bl; rw [Int64.toBitVec_or, BitVec.getLsbD_or]
theorem l_and (x y : Int64) (i : Nat) : bl (x &&& y) i = (bl x i && bl y i) := by unfold bl; rw [Int64.toBitVec_and, BitVec.getLsbD_and]
theorem l_xor (x y : Int64) (i : Nat) : bl (x ^^^ y) i = (bl x i ^^ bl y i) := by unfold bl; rw [Int64.toBitVec_xor, BitVec.getLsbD_xor]
theorem l_big {x : Int64} {i : Nat} (h : 64 ≤ i) : bl x i = false := BitVec.getLsbD_of_ge _ _ h
theorem l_sx (x : Int32) (i : Nat) : bl x.toInt64 i = (decide (i < 64) && (if i < 32 then bt x i else bt x 31)) := by
  unfold bl bt
  show (x.toBitVec.signExtend 64).getLsbD i = _
  rw [BitVec.getLsbD_signExtend, BitVec.msb_eq_getLsbD_last]
theorem b_lo (x : Int64) (i : Nat) : bt x.toInt32 i = (decide (i < 32) && bl x i) := by
  unfold bl bt
  show (x.toBitVec.signExtend 32).getLsbD i = _
  rw [BitVec.getLsbD_signExtend]
  by_cases h : i < 32
  · simp [h, show i < 64 by omega]
  · simp [h]
theorem l_s32 : ((32 : Int32).toInt64 &&& 63).toBitVec.smod 64 = 32#64 := by decide +kernel
theorem l_shl32 (x : Int64) (i : Nat) : bl (lshl x 32) i = (decide (i < 64) && (decide (32 ≤ i) && bl x (i - 32))) := by
  unfold bl lshl
  rw [Int64.toBitVec_shiftLeft]
  show (x.toBitVec <<< (((32 : Int32).toInt64 &&& 63).toBitVec.smod 64).toNat).getLsbD i = _
  rw [l_s32]
  show (x.toBitVec <<< 32).getLsbD i = _
  rw [BitVec.getLsbD_shiftLeft]
  rcases Nat.lt_or_ge i 32 with h | h
  · simp [h, Nat.not_le.mpr h]
  · simp [h, Nat.not_lt.mpr h]
theorem l_shr32 (x : Int64) (i : Nat) : bl (lshr x 32) i = (decide (i < 64) && (if 32 + i < 64 then bl x (32 + i) else bl x 63)) := by
  unfold bl lshr
  rw [Int64.toBitVec_shiftRight]
  show (x.toBitVec.sshiftRight (((32 : Int32).toInt64 &&& 63).toBitVec.smod 64).toNat).getLsbD i = _
  rw [l_s32]
  show (x.toBitVec.sshiftRight 32).getLsbD i = _
  rw [BitVec.getLsbD_sshiftRight, BitVec.msb_eq_getLsbD_last]
  by_cases h : i < 64
  · simp [h, Nat.not_le.mpr h]
  · simp [h, Nat.not_lt.mp h]
theorem lt64 {i : Nat} (h : i < 64) : i = 0 ∨ i = 1 ∨ i = 2 ∨ i = 3 ∨ i = 4 ∨ i = 5 ∨ i = 6 ∨ i = 7 ∨ i = 8 ∨ i = 9 ∨ i = 10 ∨ i = 11 ∨ i = 12 ∨ i = 13 ∨ i = 14 ∨ i = 15 ∨ i = 16 ∨ i = 17 ∨ i = 18 ∨ i = 19 ∨ i = 20 ∨ i = 21 ∨ i = 22 ∨ i = 23 ∨ i = 24 ∨ i = 25 ∨ i = 26 ∨ i = 27 ∨ i = 28 ∨ i = 29 ∨ i = 30 ∨ i = 31 ∨ i = 32 ∨ i = 33 ∨ i = 34 ∨ i = 35 ∨ i = 36 ∨ i = 37 ∨ i = 38 ∨ i = 39 ∨ i = 40 ∨ i = 41 ∨ i = 42 ∨ i = 43 ∨ i = 44 ∨ i = 45 ∨ i = 46 ∨ i = 47 ∨ i = 48 ∨ i = 49 ∨ i = 50 ∨ i = 51 ∨ i = 52 ∨ i = 53 ∨ i = 54 ∨ i = 55 ∨ i = 56 ∨ i = 57 ∨ i = 58 ∨ i = 59 ∨ i = 60 ∨ i = 61 ∨ i = 62 ∨ i = 63 := by omega
theorem lc_low : bl 4294967295 0 = true ∧ bl 4294967295 1 = true ∧ bl 4294967295 2 = true ∧ bl 4294967295 3 = true ∧ bl 4294967295 4 = true ∧ bl 4294967295 5 = true ∧ bl 4294967295 6 = true ∧ bl 4294967295 7 = true ∧ bl 4294967295 8 = true ∧ bl 4294967295 9 = true ∧ bl 4294967295 10 = true ∧ bl 4294967295 11 = true ∧ bl 4294967295 12 = true ∧ bl 4294967295 13 = true ∧ bl 4294967295 14 = true ∧ bl 4294967295 15 = true ∧ bl 4294967295 16 = true ∧ bl 4294967295 17 = true ∧ bl 4294967295 18 = true ∧ bl 4294967295 19 = true ∧ bl 4294967295 20 = true ∧ bl 4294967295 21 = true ∧ bl 4294967295 22 = true ∧ bl 4294967295 23 = true ∧ bl 4294967295 24 = true ∧ bl 4294967295 25 = true ∧ bl 4294967295 26 = true ∧ bl 4294967295 27 = true ∧ bl 4294967295 28 = true ∧ bl 4294967295 29 = true ∧ bl 4294967295 30 = true ∧ bl 4294967295 31 = true ∧ bl 4294967295 32 = false ∧ bl 4294967295 33 = false ∧ bl 4294967295 34 = false ∧ bl 4294967295 35 = false ∧ bl 4294967295 36 = false ∧ bl 4294967295 37 = false ∧ bl 4294967295 38 = false ∧ bl 4294967295 39 = false ∧ bl 4294967295 40 = false ∧ bl 4294967295 41 = false ∧ bl 4294967295 42 = false ∧ bl 4294967295 43 = false ∧ bl 4294967295 44 = false ∧ bl 4294967295 45 = false ∧ bl 4294967295 46 = false ∧ bl 4294967295 47 = false ∧ bl 4294967295 48 = false ∧ bl 4294967295 49 = false ∧ bl 4294967295 50 = false ∧ bl 4294967295 51 = false ∧ bl 4294967295 52 = false ∧ bl 4294967295 53 = false ∧ bl 4294967295 54 = false ∧ bl 4294967295 55 = false ∧ bl 4294967295 56 = false ∧ bl 4294967295 57 = false ∧ bl 4294967295 58 = false ∧ bl 4294967295 59 = false ∧ bl 4294967295 60 = false ∧ bl 4294967295 61 = false ∧ bl 4294967295 62 = false ∧ bl 4294967295 63 = false := by decide +kernel
theorem lc_nlow : bl (-4294967296) 0 = false ∧ bl (-4294967296) 1 = false ∧ bl (-4294967296) 2 = false ∧ bl (-4294967296) 3 = false ∧ bl (-4294967296) 4 = false ∧ bl (-4294967296) 5 = false ∧ bl (-4294967296) 6 = false ∧ bl (-4294967296) 7 = false ∧ bl (-4294967296) 8 = false ∧ bl (-4294967296) 9 = false ∧ bl (-4294967296) 10 = false ∧ bl (-4294967296) 11 = false ∧ bl (-4294967296) 12 = false ∧ bl (-4294967296) 13 = false ∧ bl (-4294967296) 14 = false ∧ bl (-4294967296) 15 = false ∧ bl (-4294967296) 16 = false ∧ bl (-4294967296) 17 = false ∧ bl (-4294967296) 18 = false ∧ bl (-4294967296) 19 = false ∧ bl (-4294967296) 20 = false ∧ bl (-4294967296) 21 = false ∧ bl (-4294967296) 22 = false ∧ bl (-4294967296) 23 = false ∧ bl (-4294967296) 24 = false ∧ bl (-4294967296) 25 = false ∧ bl (-4294967296) 26 = false ∧ bl (-4294967296) 27 = false ∧ bl (-4294967296) 28 = false ∧ bl (-4294967296) 29 = false ∧ bl (-4294967296) 30 = false ∧ bl (-4294967296) 31 = false ∧ bl (-4294967296) 32 = true ∧ bl (-4294967296) 33 = true ∧ bl (-4294967296) 34 = true ∧ bl (-4294967296) 35 = true ∧ bl (-4294967296) 36 = true ∧ bl (-4294967296) 37 = true ∧ bl (-4294967296) 38 = true ∧ bl (-4294967296) 39 = true ∧ bl (-4294967296) 40 = true ∧ bl (-4294967296) 41 = true ∧ bl (-4294967296) 42 = true ∧ bl (-4294967296) 43 = true ∧ bl (-4294967296) 44 = true ∧ bl (-4294967296) 45 = true ∧ bl (-4294967296) 46 = true ∧ bl (-4294967296) 47 = true ∧ bl (-4294967296) 48 = true ∧ bl (-4294967296) 49 = true ∧ bl (-4294967296) 50 = true ∧ bl (-4294967296) 51 = true ∧ bl (-4294967296) 52 = true ∧ bl (-4294967296) 53 = true ∧ bl (-4294967296) 54 = true ∧ bl (-4294967296) 55 = true ∧ bl (-4294967296) 56 = true ∧ bl (-4294967296) 57 = true ∧ bl (-4294967296) 58 = true ∧ bl (-4294967296) 59 = true ∧ bl (-4294967296) 60 = true ∧ bl (-4294967296) 61 = true ∧ bl (-4294967296) 62 = true ∧ bl (-4294967296) 63 = true := by decide +kernel
theorem lc_m1 : bl (-1) 0 = true ∧ bl (-1) 1 = true ∧ bl (-1) 2 = true ∧ bl (-1) 3 = true ∧ bl (-1) 4 = true ∧ bl (-1) 5 = true ∧ bl (-1) 6 = true ∧ bl (-1) 7 = true ∧ bl (-1) 8 = true ∧ bl (-1) 9 = true ∧ bl (-1) 10 = true ∧ bl (-1) 11 = true ∧ bl (-1) 12 = true ∧ bl (-1) 13 = true ∧ bl (-1) 14 = true ∧ bl (-1) 15 = true ∧ bl (-1) 16 = true ∧ bl (-1) 17 = true ∧ bl (-1) 18 = true ∧ bl (-1) 19 = true ∧ bl (-1) 20 = true ∧ bl (-1) 21 = true ∧ bl (-1) 22 = true ∧ bl (-1) 23 = true ∧ bl (-1) 24 = true ∧ bl (-1) 25 = true ∧ bl (-1) 26 = true ∧ bl (-1) 27 = true ∧ bl (-1) 28 = true ∧ bl (-1) 29 = true ∧ bl (-1) 30 = true ∧ bl (-1) 31 = true ∧ bl (-1) 32 = true ∧ bl (-1) 33 = true ∧ bl (-1) 34 = true ∧ bl (-1) 35 = true ∧ bl (-1) 36 = true ∧ bl (-1) 37 = true ∧ bl (-1) 38 = true ∧ bl (-1) 39 = true ∧ bl (-1) 40 = true ∧ bl (-1) 41 = true ∧ bl (-1) 42 = true ∧ bl (-1) 43 = true ∧ bl (-1) 44 = true ∧ bl (-1) 45 = true ∧ bl (-1) 46 = true ∧ bl (-1) 47 = true ∧ bl (-1) 48 = true ∧ bl (-1) 49 = true ∧ bl (-1) 50 = true ∧ bl (-1) 51 = true ∧ bl (-1) 52 = true ∧ bl (-1) 53 = true ∧ bl (-1) 54 = true ∧ bl (-1) 55 = true ∧ bl (-1) 56 = true ∧ bl (-1) 57 = true ∧ bl (-1) 58 = true ∧ bl (-1) 59 = true ∧ bl (-1) 60 = true ∧ bl (-1) 61 = true ∧ bl (-1) 62 = true ∧ bl (-1) 63 = true := by decide +kernel
theorem lc_0 : bl 0 0 = false ∧ bl 0 1 = false ∧ bl 0 2 = false ∧ bl 0 3 = false ∧ bl 0 4 = false ∧ bl 0 5 = false ∧ bl 0 6 = false ∧ bl 0 7 = false ∧ bl 0 8 = false ∧ bl 0 9 = false ∧ bl 0 10 = false ∧ bl 0 11 = false ∧ bl 0 12 = false ∧ bl 0 13 = false ∧ bl 0 14 = false ∧ bl 0 15 = false ∧ bl 0 16 = false ∧ bl 0 17 = false ∧ bl 0 18 = false ∧ bl 0 19 = false ∧ bl 0 20 = false ∧ bl 0 21 = false ∧ bl 0 22 = false ∧ bl 0 23 = false ∧ bl 0 24 = false ∧ bl 0 25 = false ∧ bl 0 26 = false ∧ bl 0 27 = false ∧ bl 0 28 = false ∧ bl 0 29 = false ∧ bl 0 30 = false ∧ bl 0 31 = false ∧ bl 0 32 = false ∧ bl 0 33 = false ∧ bl 0 34 = false ∧ bl 0 35 = false ∧ bl 0 36 = false ∧ bl 0 37 = false ∧ bl 0 38 = false ∧ bl 0 39 = false ∧ bl 0 40 = false ∧ bl 0 41 = false ∧ bl 0 42 = false ∧ bl 0 43 = false ∧ bl 0 44 = false ∧ bl 0 45 = false ∧ bl 0 46 = false ∧ bl 0 47 = false ∧ bl 0 48 = false ∧ bl 0 49 = false ∧ bl 0 50 = false ∧ bl 0 51 = false ∧ bl 0 52 = false ∧ bl 0 53 = false ∧ bl 0 54 = false ∧ bl 0 55 = false ∧ bl 0 56 = false ∧ bl 0 57 = false ∧ bl 0 58 = false ∧ bl 0 59 = false ∧ bl 0 60 = false ∧ bl 0 61 = false ∧ bl 0 62 = false ∧ bl 0 63 = false := by decide +kernel
theorem combL (hi lo : Int32) : comb hi lo = lshl hi.toInt64 32 ||| (lo.toInt64 &&& 4294967295) := by
  unfold comb lshl
  rfl
theorem bl_comb (hi lo : Int32) (i : Nat) : bl (comb hi lo) i = (decide (i < 64) && (if i < 32 then bt lo i else bt hi (i - 32))) := by
  rw [combL]
  by_cases h : i < 64
  · rcases lt64 h with rfl | rfl | rfl | rfl | rfl | rfl | rfl | rfl | rfl | rfl | rfl | rfl | rfl | rfl | rfl | rfl | rfl | rfl | rfl | rfl | rfl | rfl | rfl | rfl | rfl | rfl | rfl | rfl | rfl | rfl | rfl | rfl | rfl | rfl | rfl | rfl | rfl | rfl | rfl | rfl | rfl | rfl | rfl | rfl | rfl | rfl | rfl | rfl | rfl | rfl | rfl | rfl | rfl | rfl | rfl | rfl | rfl | rfl | rfl | rfl | rfl | rfl | rfl | rfl <;> simp [l_or, l_and, l_sx, l_shl32, lc_low]
  · rw [l_big (by omega), decide_eq_false h, Bool.false_and]
theorem cb_lo (hi lo : Int32) : (comb hi lo).toInt32 = lo := by
  apply b_ext
  intro i hi
  rw [b_lo, bl_comb]
  simp [hi, show i < 64 by omega]
theorem cb_hi (hi lo : Int32) : (lshr (comb hi lo) 32).toInt32 = hi := by
  apply b_ext
  intro i hi
  rw [b_lo, l_shr32, bl_comb]
  simp [hi, show i < 64 by omega, show 32 + i < 64 by omega, show ¬ 32 + i < 32 by omega]
theorem cb_setlo2 (hi lo v : Int32) : (comb hi lo &&& (-4294967296)) ||| (v.toInt64 &&& 4294967295) = comb hi v := by
  apply l_ext
  intro i hi
  rcases lt64 hi with rfl | rfl | rfl | rfl | rfl | rfl | rfl | rfl | rfl | rfl | rfl | rfl | rfl | rfl | rfl | rfl | rfl | rfl | rfl | rfl | rfl | rfl | rfl | rfl | rfl | rfl | rfl | rfl | rfl | rfl | rfl | rfl | rfl | rfl | rfl | rfl | rfl | rfl | rfl | rfl | rfl | rfl | rfl | rfl | rfl | rfl | rfl | rfl | rfl | rfl | rfl | rfl | rfl | rfl | rfl | rfl | rfl | rfl | rfl | rfl | rfl | rfl | rfl | rfl <;> simp [l_or, l_and, l_xor, l_sx, l_shl32, l_shr32, b_lo, lc_low, lc_nlow, lc_m1, lc_0, bl_comb]
theorem cb_setlo (hi lo v : Int32) : (comb hi lo &&& (4294967295 ^^^ (-1))) ||| (v.toInt64 &&& 4294967295) = comb hi v := by
  rw [show ((4294967295 : Int64) ^^^ (-1)) = -4294967296 from by decide]
  exact cb_setlo2 hi lo v
theorem cb_sethi (hi lo v : Int32) : (comb hi lo &&& 4294967295) ||| (lshl v.toInt64 32) = comb v lo := by
  apply l_ext
  intro i hi
  rcases lt64 hi with rfl | rfl | rfl | rfl | rfl | rfl | rfl | rfl | rfl | rfl | rfl | rfl | rfl | rfl | rfl | rfl | rfl | rfl | rfl | rfl | rfl | rfl | rfl | rfl | rfl | rfl | rfl | rfl | rfl | rfl | rfl | rfl | rfl | rfl | rfl | rfl | rfl | rfl | rfl | rfl | rfl | rfl | rfl | rfl | rfl | rfl | rfl | rfl | rfl | rfl | rfl | rfl | rfl | rfl | rfl | rfl | rfl | rfl | rfl | rfl | rfl | rfl | rfl | rfl <;> simp [l_or, l_and, l_xor, l_sx, l_shl32, l_shr32, b_lo, lc_low, lc_nlow, lc_m1, lc_0, bl_comb]
theorem cb_tn (hi lo : Int32) : (comb hi lo).toBitVec.toNat = hi.toBitVec.toNat * 4294967296 + lo.toBitVec.toNat := by
  have e : (comb hi lo).toBitVec = hi.toBitVec ++ lo.toBitVec := by
    apply BitVec.eq_of_getLsbD_eq
    intro i hi9
    have h1 := bl_comb hi lo i
    unfold bl bt at h1
    rw [h1, BitVec.getLsbD_append]
    by_cases h : i < 32
    · simp [h, show i < 64 by omega]
    · simp [h, show i < 64 by omega]
  rw [e, BitVec.toNat_append]
  have hl := lo.toBitVec.isLt
  rw [← Nat.shiftLeft_add_eq_or_of_lt hl, Nat.shiftLeft_eq]
theorem cb_inj {x y : Int64} (h : x.toBitVec.toNat = y.toBitVec.toNat) : x = y := Int64.toBitVec_inj.mp (BitVec.eq_of_toNat_eq h)
theorem i_tn1 (x : Int32) : (x + 1).toBitVec.toNat = (x.toBitVec.toNat + 1) % 4294967296 := by
  show (x.toBitVec + 1#32).toNat = _
  rw [BitVec.toNat_add]
  rfl
theorem cb_inc0 {hi lo : Int32} (h : lo + 1 = 0) : comb hi lo + 1 = comb (hi + 1) (lo + 1) := by
  apply cb_inj
  rw [cb_tn]
  show ((comb hi lo).toBitVec + 1#64).toNat = _
  rw [BitVec.toNat_add, cb_tn, i_tn1, i_tn1]
  have h2 : (lo.toBitVec.toNat + 1) % 4294967296 = 0 := by rw [← i_tn1, h]; rfl
  have hl := lo.toBitVec.isLt
  have hh := hi.toBitVec.isLt
  have e1 : (1#64).toNat = 1 := rfl
  rw [e1]
  omega
theorem cb_inc {hi lo : Int32} (h : ¬ lo + 1 = 0) : comb hi lo + 1 = comb hi (lo + 1) := by
  apply cb_inj
  rw [cb_tn]
  show ((comb hi lo).toBitVec + 1#64).toNat = _
  rw [BitVec.toNat_add, cb_tn, i_tn1]
  have h2 : ¬ (lo.toBitVec.toNat + 1) % 4294967296 = 0 := by
    intro q
    apply h
    apply Int32.toBitVec_inj.mp
    apply BitVec.eq_of_toNat_eq
    rw [i_tn1, q]
    rfl
  have hl := lo.toBitVec.isLt
  have hh := hi.toBitVec.isLt
  have e1 : (1#64).toNat = 1 := rfl
  rw [e1]
  omega
theorem nat_xor32 {a : Nat} (h : a < 4294967296) : a ^^^ 2 ^ 31 = (a + 2147483648) % 4294967296 := by
  have h1 : (a ^^^ 2 ^ 31) % 2 ^ 31 = a % 2 ^ 31 := by rw [Nat.xor_mod_two_pow, Nat.mod_self, Nat.xor_zero]
  have h2 : (a ^^^ 2 ^ 31) / 2 ^ 31 = (a / 2 ^ 31) ^^^ 1 := by rw [Nat.xor_div_two_pow, Nat.div_self (Nat.two_pow_pos 31)]
  have h3 : a / 2 ^ 31 = 0 ∨ a / 2 ^ 31 = 1 := by omega
  generalize a ^^^ 2 ^ 31 = t at h1 h2
  rcases h3 with h3 | h3
  · rw [h3] at h2
    have h2 : t / 2 ^ 31 = 1 := h2
    omega
  · rw [h3] at h2
    have h2 : t / 2 ^ 31 = 0 := h2
    omega
theorem x_min (z : Int32) : (z ^^^ (-2147483648)).toInt = (z.toBitVec.toNat : Int) - 2147483648 := by
  have hz := z.toBitVec.isLt
  have e : (z ^^^ (-2147483648)).toBitVec.toNat = (z.toBitVec.toNat + 2147483648) % 4294967296 := by
    rw [← nat_xor32 hz]
    show (z.toBitVec ^^^ 2147483648#32).toNat = _
    rw [BitVec.toNat_xor]
    rfl
  show (z ^^^ (-2147483648)).toBitVec.toInt = _
  rw [BitVec.toInt_eq_toNat_cond, e]
  split <;> omega
theorem xmin_le (a b : Int32) : (b ^^^ (-2147483648)) ≤ (a ^^^ (-2147483648)) ↔ b.toBitVec.toNat ≤ a.toBitVec.toNat := by
  rw [Int32.le_iff_toInt_le, x_min, x_min]
  omega
theorem below_iff (a b : Int32) : sp_Alu_below a b = 0 ↔ b.toBitVec.toNat ≤ a.toBitVec.toNat := by
  unfold sp_Alu_below
  rw [← xmin_le]
  by_cases h : (b ^^^ (-2147483648)) ≤ (a ^^^ (-2147483648))
  · rw [if_pos h]; exact ⟨fun _ => h, fun _ => rfl⟩
  · rw [if_neg h]; exact ⟨fun q => absurd q (by decide), fun q => absurd q h⟩
theorem l_min (z : Int64) : (z + (lshl 1 63)).toInt = (z.toBitVec.toNat : Int) - 9223372036854775808 := by
  have hz := z.toBitVec.isLt
  have e : (z + (lshl 1 63)).toBitVec.toNat = (z.toBitVec.toNat + 9223372036854775808) % 18446744073709551616 := by
    show (z.toBitVec + (lshl 1 63).toBitVec).toNat = _
    rw [BitVec.toNat_add, show (lshl 1 63).toBitVec.toNat = 9223372036854775808 from by decide +kernel]
  show (z + (lshl 1 63)).toBitVec.toInt = _
  rw [BitVec.toInt_eq_toNat_cond, e]
  split <;> omega
theorem lmin_le (a b : Int64) : (b + (lshl 1 63)) ≤ (a + (lshl 1 63)) ↔ b.toBitVec.toNat ≤ a.toBitVec.toNat := by
  rw [Int64.le_iff_toInt_le, l_min, l_min]
  omega
theorem b_not (x : Int32) (i : Nat) : bt (~~~x) i = (decide (i < 32) && !(bt x i)) := by
  unfold bt
  show (~~~x.toBitVec).getLsbD i = _
  rw [BitVec.getLsbD_not]
