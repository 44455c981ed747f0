def bt (x : Int32) (i : Nat) : Bool := x.toBitVec.getLsbD i
theorem b_ext {x y : Int32} (h : ∀ i, i < 32 → bt x i = bt y i) : x = y := Int32.toBitVec_inj.mp (BitVec.eq_of_getLsbD_eq (fun i hi => h i hi))
theorem b_or (x y : Int32) (i : Nat) : bt (x ||| y) i = (bt x i || bt y i) := by unfold bt; rw [Int32.toBitVec_or, BitVec.getLsbD_or]
theorem b_and (x y : Int32) (i : Nat) : bt (x &&& y) i = (bt x i && bt y i) := by unfold bt; rw [Int32.toBitVec_and, BitVec.getLsbD_and]
theorem b_xor (x y : Int32) (i : Nat) : bt (x ^^^ y) i = (bt x i ^^ bt y i) := by unfold bt; rw [Int32.toBitVec_xor, BitVec.getLsbD_xor]
theorem b_big {x : Int32} {i : Nat} (h : 32 ≤ i) : bt x i = false := BitVec.getLsbD_of_ge _ _ h
theorem b_255 (i : Nat) : bt 255 i = decide (i < 8) := by
  rcases Nat.lt_or_ge i 32 with h | h
  · exact (by decide +kernel : ∀ i, i < 32 → bt 255 i = decide (i < 8)) i h
  · rw [b_big h, decide_eq_false (by omega)]
theorem b_65535 (i : Nat) : bt 65535 i = decide (i < 16) := by
  rcases Nat.lt_or_ge i 32 with h | h
  · exact (by decide +kernel : ∀ i, i < 32 → bt 65535 i = decide (i < 16)) i h
  · rw [b_big h, decide_eq_false (by omega)]
theorem b_m1 : ∀ i, i < 32 → bt (-1) i = true := by decide +kernel
theorem b_0 (i : Nat) : bt 0 i = false := BitVec.getLsbD_zero
theorem s_l : ∀ n, n < 32 → ((nI n &&& 31).toBitVec.smod 32).toNat = n := by decide +kernel
theorem s_u : ∀ n, n < 32 → (((nI n).toUInt32 &&& Int32.toUInt32 31).toBitVec % 32).toNat = n := by decide +kernel
theorem b_shl (n : Nat) (hn : n < 32) (x : Int32) {i : Nat} (hi : i < 32) : bt (x <<< (nI n &&& 31)) i = (decide (n ≤ i) && bt x (i - n)) := by
  unfold bt
  rw [Int32.toBitVec_shiftLeft]
  show (x.toBitVec <<< ((nI n &&& 31).toBitVec.smod 32).toNat).getLsbD i = _
  rw [s_l n hn, BitVec.getLsbD_shiftLeft]
  rcases Nat.lt_or_ge i n with h | h
  · simp [h, Nat.not_le.mpr h]
  · simp [hi, h, Nat.not_lt.mpr h]
theorem b_ushr (n : Nat) (hn : n < 32) (x : Int32) (i : Nat) : bt ((x.toUInt32 >>> ((nI n).toUInt32 &&& Int32.toUInt32 31)).toInt32) i = bt x (n + i) := by
  show (x.toUInt32 >>> ((nI n).toUInt32 &&& Int32.toUInt32 31)).toBitVec.getLsbD i = x.toUInt32.toBitVec.getLsbD (n + i)
  rw [UInt32.toBitVec_shiftRight]
  show (x.toUInt32.toBitVec >>> (((nI n).toUInt32 &&& Int32.toUInt32 31).toBitVec % 32).toNat).getLsbD i = _
  rw [s_u n hn, BitVec.getLsbD_ushiftRight]
theorem b_sshr (n : Nat) (hn : n < 32) (x : Int32) {i : Nat} (hi : i < 32) : bt (x >>> (nI n &&& 31)) i = if n + i < 32 then bt x (n + i) else bt x 31 := by
  unfold bt
  rw [Int32.toBitVec_shiftRight]
  show (x.toBitVec.sshiftRight ((nI n &&& 31).toBitVec.smod 32).toNat).getLsbD i = _
  rw [s_l n hn, BitVec.getLsbD_sshiftRight, BitVec.msb_eq_getLsbD_last]
  simp [hi]

theorem lt32 {i : Nat} (h : i < 32) : i = 0 ∨ i = 1 ∨ i = 2 ∨ i = 3 ∨ i = 4 ∨ i = 5 ∨ i = 6 ∨ i = 7 ∨ i = 8 ∨ i = 9 ∨ i = 10 ∨ i = 11 ∨ i = 12 ∨ i = 13 ∨ i = 14 ∨ i = 15 ∨ i = 16 ∨ i = 17 ∨ i = 18 ∨ i = 19 ∨ i = 20 ∨ i = 21 ∨ i = 22 ∨ i = 23 ∨ i = 24 ∨ i = 25 ∨ i = 26 ∨ i = 27 ∨ i = 28 ∨ i = 29 ∨ i = 30 ∨ i = 31 := by omega
theorem bsl (n : Nat) (hn : n < 32) (x : Int32) (i : Nat) : bt (shl x (nI n)) i = (decide (i < 32) && (decide (n ≤ i) && bt x (i - n))) := by
  unfold shl
  rcases Nat.lt_or_ge i 32 with h | h
  · rw [b_shl n hn x h, decide_eq_true h, Bool.true_and]
  · rw [b_big h, decide_eq_false (by omega), Bool.false_and]
theorem bus (n : Nat) (hn : n < 32) (x : Int32) (i : Nat) : bt (ush x (nI n)) i = bt x (n + i) := b_ushr n hn x i
theorem bsr (n : Nat) (hn : n < 32) (x : Int32) (i : Nat) : bt (shr x (nI n)) i = (decide (i < 32) && (if n + i < 32 then bt x (n + i) else bt x 31)) := by
  unfold shr
  rcases Nat.lt_or_ge i 32 with h | h
  · rw [b_sshr n hn x h, decide_eq_true h, Bool.true_and]
  · rw [b_big h, decide_eq_false (by omega), Bool.false_and]
theorem b_i8 (x : Int32) (i : Nat) : bt x.toInt8.toInt32 i = (decide (i < 32) && (if i < 8 then bt x i else bt x 7)) := by
  unfold bt
  show ((x.toBitVec.signExtend 8).signExtend 32).getLsbD i = _
  have hm : (BitVec.signExtend 8 x.toBitVec).msb = x.toBitVec.getLsbD 7 := by
    rw [BitVec.msb_eq_getLsbD_last, BitVec.getLsbD_signExtend]
    simp
  rw [BitVec.getLsbD_signExtend, hm, BitVec.getLsbD_signExtend]
  by_cases h : i < 32
  · by_cases h8 : i < 8
    · simp [h, h8]
    · simp [h, h8]
  · simp [h]
theorem b_i16 (x : Int32) (i : Nat) : bt x.toInt16.toInt32 i = (decide (i < 32) && (if i < 16 then bt x i else bt x 15)) := by
  unfold bt
  show ((x.toBitVec.signExtend 16).signExtend 32).getLsbD i = _
  have hm : (BitVec.signExtend 16 x.toBitVec).msb = x.toBitVec.getLsbD 15 := by
    rw [BitVec.msb_eq_getLsbD_last, BitVec.getLsbD_signExtend]
    simp
  rw [BitVec.getLsbD_signExtend, hm, BitVec.getLsbD_signExtend]
  by_cases h : i < 32
  · by_cases h8 : i < 16
    · simp [h, h8]
    · simp [h, h8]
  · simp [h]
theorem pk_vb9 (z : Int32) : vp_nar .byte z.toInt8.toInt32 = z.toInt8.toInt32 := pk_vb z
theorem bsl_0 (x : Int32) (i : Nat) : bt (shl x 0) i = (decide (i < 32) && (decide (0 ≤ i) && bt x (i - 0))) := bsl 0 (by decide) x i
theorem bus_0 (x : Int32) (i : Nat) : bt (ush x 0) i = bt x (0 + i) := bus 0 (by decide) x i
theorem bsr_0 (x : Int32) (i : Nat) : bt (shr x 0) i = (decide (i < 32) && (if 0 + i < 32 then bt x (0 + i) else bt x 31)) := bsr 0 (by decide) x i
theorem bsl_1 (x : Int32) (i : Nat) : bt (shl x 1) i = (decide (i < 32) && (decide (1 ≤ i) && bt x (i - 1))) := bsl 1 (by decide) x i
theorem bus_1 (x : Int32) (i : Nat) : bt (ush x 1) i = bt x (1 + i) := bus 1 (by decide) x i
theorem bsr_1 (x : Int32) (i : Nat) : bt (shr x 1) i = (decide (i < 32) && (if 1 + i < 32 then bt x (1 + i) else bt x 31)) := bsr 1 (by decide) x i
theorem bsl_2 (x : Int32) (i : Nat) : bt (shl x 2) i = (decide (i < 32) && (decide (2 ≤ i) && bt x (i - 2))) := bsl 2 (by decide) x i
theorem bus_2 (x : Int32) (i : Nat) : bt (ush x 2) i = bt x (2 + i) := bus 2 (by decide) x i
theorem bsr_2 (x : Int32) (i : Nat) : bt (shr x 2) i = (decide (i < 32) && (if 2 + i < 32 then bt x (2 + i) else bt x 31)) := bsr 2 (by decide) x i
theorem bsl_3 (x : Int32) (i : Nat) : bt (shl x 3) i = (decide (i < 32) && (decide (3 ≤ i) && bt x (i - 3))) := bsl 3 (by decide) x i
theorem bus_3 (x : Int32) (i : Nat) : bt (ush x 3) i = bt x (3 + i) := bus 3 (by decide) x i
theorem bsr_3 (x : Int32) (i : Nat) : bt (shr x 3) i = (decide (i < 32) && (if 3 + i < 32 then bt x (3 + i) else bt x 31)) := bsr 3 (by decide) x i
theorem bsl_4 (x : Int32) (i : Nat) : bt (shl x 4) i = (decide (i < 32) && (decide (4 ≤ i) && bt x (i - 4))) := bsl 4 (by decide) x i
theorem bus_4 (x : Int32) (i : Nat) : bt (ush x 4) i = bt x (4 + i) := bus 4 (by decide) x i
theorem bsr_4 (x : Int32) (i : Nat) : bt (shr x 4) i = (decide (i < 32) && (if 4 + i < 32 then bt x (4 + i) else bt x 31)) := bsr 4 (by decide) x i
theorem bsl_5 (x : Int32) (i : Nat) : bt (shl x 5) i = (decide (i < 32) && (decide (5 ≤ i) && bt x (i - 5))) := bsl 5 (by decide) x i
theorem bus_5 (x : Int32) (i : Nat) : bt (ush x 5) i = bt x (5 + i) := bus 5 (by decide) x i
theorem bsr_5 (x : Int32) (i : Nat) : bt (shr x 5) i = (decide (i < 32) && (if 5 + i < 32 then bt x (5 + i) else bt x 31)) := bsr 5 (by decide) x i
theorem bsl_6 (x : Int32) (i : Nat) : bt (shl x 6) i = (decide (i < 32) && (decide (6 ≤ i) && bt x (i - 6))) := bsl 6 (by decide) x i
theorem bus_6 (x : Int32) (i : Nat) : bt (ush x 6) i = bt x (6 + i) := bus 6 (by decide) x i
theorem bsr_6 (x : Int32) (i : Nat) : bt (shr x 6) i = (decide (i < 32) && (if 6 + i < 32 then bt x (6 + i) else bt x 31)) := bsr 6 (by decide) x i
theorem bsl_7 (x : Int32) (i : Nat) : bt (shl x 7) i = (decide (i < 32) && (decide (7 ≤ i) && bt x (i - 7))) := bsl 7 (by decide) x i
theorem bus_7 (x : Int32) (i : Nat) : bt (ush x 7) i = bt x (7 + i) := bus 7 (by decide) x i
theorem bsr_7 (x : Int32) (i : Nat) : bt (shr x 7) i = (decide (i < 32) && (if 7 + i < 32 then bt x (7 + i) else bt x 31)) := bsr 7 (by decide) x i
theorem bsl_8 (x : Int32) (i : Nat) : bt (shl x 8) i = (decide (i < 32) && (decide (8 ≤ i) && bt x (i - 8))) := bsl 8 (by decide) x i
theorem bus_8 (x : Int32) (i : Nat) : bt (ush x 8) i = bt x (8 + i) := bus 8 (by decide) x i
theorem bsr_8 (x : Int32) (i : Nat) : bt (shr x 8) i = (decide (i < 32) && (if 8 + i < 32 then bt x (8 + i) else bt x 31)) := bsr 8 (by decide) x i
theorem bsl_9 (x : Int32) (i : Nat) : bt (shl x 9) i = (decide (i < 32) && (decide (9 ≤ i) && bt x (i - 9))) := bsl 9 (by decide) x i
theorem bus_9 (x : Int32) (i : Nat) : bt (ush x 9) i = bt x (9 + i) := bus 9 (by decide) x i
theorem bsr_9 (x : Int32) (i : Nat) : bt (shr x 9) i = (decide (i < 32) && (if 9 + i < 32 then bt x (9 + i) else bt x 31)) := bsr 9 (by decide) x i
theorem bsl_10 (x : Int32) (i : Nat) : bt (shl x 10) i = (decide (i < 32) && (decide (10 ≤ i) && bt x (i - 10))) := bsl 10 (by decide) x i
theorem bus_10 (x : Int32) (i : Nat) : bt (ush x 10) i = bt x (10 + i) := bus 10 (by decide) x i
theorem bsr_10 (x : Int32) (i : Nat) : bt (shr x 10) i = (decide (i < 32) && (if 10 + i < 32 then bt x (10 + i) else bt x 31)) := bsr 10 (by decide) x i
theorem bsl_11 (x : Int32) (i : Nat) : bt (shl x 11) i = (decide (i < 32) && (decide (11 ≤ i) && bt x (i - 11))) := bsl 11 (by decide) x i
theorem bus_11 (x : Int32) (i : Nat) : bt (ush x 11) i = bt x (11 + i) := bus 11 (by decide) x i
theorem bsr_11 (x : Int32) (i : Nat) : bt (shr x 11) i = (decide (i < 32) && (if 11 + i < 32 then bt x (11 + i) else bt x 31)) := bsr 11 (by decide) x i
theorem bsl_12 (x : Int32) (i : Nat) : bt (shl x 12) i = (decide (i < 32) && (decide (12 ≤ i) && bt x (i - 12))) := bsl 12 (by decide) x i
theorem bus_12 (x : Int32) (i : Nat) : bt (ush x 12) i = bt x (12 + i) := bus 12 (by decide) x i
theorem bsr_12 (x : Int32) (i : Nat) : bt (shr x 12) i = (decide (i < 32) && (if 12 + i < 32 then bt x (12 + i) else bt x 31)) := bsr 12 (by decide) x i
theorem bsl_13 (x : Int32) (i : Nat) : bt (shl x 13) i = (decide (i < 32) && (decide (13 ≤ i) && bt x (i - 13))) := bsl 13 (by decide) x i
theorem bus_13 (x : Int32) (i : Nat) : bt (ush x 13) i = bt x (13 + i) := bus 13 (by decide) x i
theorem bsr_13 (x : Int32) (i : Nat) : bt (shr x 13) i = (decide (i < 32) && (if 13 + i < 32 then bt x (13 + i) else bt x 31)) := bsr 13 (by decide) x i
theorem bsl_14 (x : Int32) (i : Nat) : bt (shl x 14) i = (decide (i < 32) && (decide (14 ≤ i) && bt x (i - 14))) := bsl 14 (by decide) x i
theorem bus_14 (x : Int32) (i : Nat) : bt (ush x 14) i = bt x (14 + i) := bus 14 (by decide) x i
theorem bsr_14 (x : Int32) (i : Nat) : bt (shr x 14) i = (decide (i < 32) && (if 14 + i < 32 then bt x (14 + i) else bt x 31)) := bsr 14 (by decide) x i
theorem bsl_15 (x : Int32) (i : Nat) : bt (shl x 15) i = (decide (i < 32) && (decide (15 ≤ i) && bt x (i - 15))) := bsl 15 (by decide) x i
theorem bus_15 (x : Int32) (i : Nat) : bt (ush x 15) i = bt x (15 + i) := bus 15 (by decide) x i
theorem bsr_15 (x : Int32) (i : Nat) : bt (shr x 15) i = (decide (i < 32) && (if 15 + i < 32 then bt x (15 + i) else bt x 31)) := bsr 15 (by decide) x i
theorem bsl_16 (x : Int32) (i : Nat) : bt (shl x 16) i = (decide (i < 32) && (decide (16 ≤ i) && bt x (i - 16))) := bsl 16 (by decide) x i
theorem bus_16 (x : Int32) (i : Nat) : bt (ush x 16) i = bt x (16 + i) := bus 16 (by decide) x i
theorem bsr_16 (x : Int32) (i : Nat) : bt (shr x 16) i = (decide (i < 32) && (if 16 + i < 32 then bt x (16 + i) else bt x 31)) := bsr 16 (by decide) x i
theorem bsl_17 (x : Int32) (i : Nat) : bt (shl x 17) i = (decide (i < 32) && (decide (17 ≤ i) && bt x (i - 17))) := bsl 17 (by decide) x i
theorem bus_17 (x : Int32) (i : Nat) : bt (ush x 17) i = bt x (17 + i) := bus 17 (by decide) x i
theorem bsr_17 (x : Int32) (i : Nat) : bt (shr x 17) i = (decide (i < 32) && (if 17 + i < 32 then bt x (17 + i) else bt x 31)) := bsr 17 (by decide) x i
theorem bsl_18 (x : Int32) (i : Nat) : bt (shl x 18) i = (decide (i < 32) && (decide (18 ≤ i) && bt x (i - 18))) := bsl 18 (by decide) x i
theorem bus_18 (x : Int32) (i : Nat) : bt (ush x 18) i = bt x (18 + i) := bus 18 (by decide) x i
theorem bsr_18 (x : Int32) (i : Nat) : bt (shr x 18) i = (decide (i < 32) && (if 18 + i < 32 then bt x (18 + i) else bt x 31)) := bsr 18 (by decide) x i
theorem bsl_19 (x : Int32) (i : Nat) : bt (shl x 19) i = (decide (i < 32) && (decide (19 ≤ i) && bt x (i - 19))) := bsl 19 (by decide) x i
theorem bus_19 (x : Int32) (i : Nat) : bt (ush x 19) i = bt x (19 + i) := bus 19 (by decide) x i
theorem bsr_19 (x : Int32) (i : Nat) : bt (shr x 19) i = (decide (i < 32) && (if 19 + i < 32 then bt x (19 + i) else bt x 31)) := bsr 19 (by decide) x i
theorem bsl_20 (x : Int32) (i : Nat) : bt (shl x 20) i = (decide (i < 32) && (decide (20 ≤ i) && bt x (i - 20))) := bsl 20 (by decide) x i
theorem bus_20 (x : Int32) (i : Nat) : bt (ush x 20) i = bt x (20 + i) := bus 20 (by decide) x i
theorem bsr_20 (x : Int32) (i : Nat) : bt (shr x 20) i = (decide (i < 32) && (if 20 + i < 32 then bt x (20 + i) else bt x 31)) := bsr 20 (by decide) x i
theorem bsl_21 (x : Int32) (i : Nat) : bt (shl x 21) i = (decide (i < 32) && (decide (21 ≤ i) && bt x (i - 21))) := bsl 21 (by decide) x i
theorem bus_21 (x : Int32) (i : Nat) : bt (ush x 21) i = bt x (21 + i) := bus 21 (by decide) x i
theorem bsr_21 (x : Int32) (i : Nat) : bt (shr x 21) i = (decide (i < 32) && (if 21 + i < 32 then bt x (21 + i) else bt x 31)) := bsr 21 (by decide) x i
theorem bsl_22 (x : Int32) (i : Nat) : bt (shl x 22) i = (decide (i < 32) && (decide (22 ≤ i) && bt x (i - 22))) := bsl 22 (by decide) x i
theorem bus_22 (x : Int32) (i : Nat) : bt (ush x 22) i = bt x (22 + i) := bus 22 (by decide) x i
theorem bsr_22 (x : Int32) (i : Nat) : bt (shr x 22) i = (decide (i < 32) && (if 22 + i < 32 then bt x (22 + i) else bt x 31)) := bsr 22 (by decide) x i
theorem bsl_23 (x : Int32) (i : Nat) : bt (shl x 23) i = (decide (i < 32) && (decide (23 ≤ i) && bt x (i - 23))) := bsl 23 (by decide) x i
theorem bus_23 (x : Int32) (i : Nat) : bt (ush x 23) i = bt x (23 + i) := bus 23 (by decide) x i
theorem bsr_23 (x : Int32) (i : Nat) : bt (shr x 23) i = (decide (i < 32) && (if 23 + i < 32 then bt x (23 + i) else bt x 31)) := bsr 23 (by decide) x i
theorem bsl_24 (x : Int32) (i : Nat) : bt (shl x 24) i = (decide (i < 32) && (decide (24 ≤ i) && bt x (i - 24))) := bsl 24 (by decide) x i
theorem bus_24 (x : Int32) (i : Nat) : bt (ush x 24) i = bt x (24 + i) := bus 24 (by decide) x i
theorem bsr_24 (x : Int32) (i : Nat) : bt (shr x 24) i = (decide (i < 32) && (if 24 + i < 32 then bt x (24 + i) else bt x 31)) := bsr 24 (by decide) x i
theorem bsl_25 (x : Int32) (i : Nat) : bt (shl x 25) i = (decide (i < 32) && (decide (25 ≤ i) && bt x (i - 25))) := bsl 25 (by decide) x i
theorem bus_25 (x : Int32) (i : Nat) : bt (ush x 25) i = bt x (25 + i) := bus 25 (by decide) x i
theorem bsr_25 (x : Int32) (i : Nat) : bt (shr x 25) i = (decide (i < 32) && (if 25 + i < 32 then bt x (25 + i) else bt x 31)) := bsr 25 (by decide) x i
theorem bsl_26 (x : Int32) (i : Nat) : bt (shl x 26) i = (decide (i < 32) && (decide (26 ≤ i) && bt x (i - 26))) := bsl 26 (by decide) x i
theorem bus_26 (x : Int32) (i : Nat) : bt (ush x 26) i = bt x (26 + i) := bus 26 (by decide) x i
theorem bsr_26 (x : Int32) (i : Nat) : bt (shr x 26) i = (decide (i < 32) && (if 26 + i < 32 then bt x (26 + i) else bt x 31)) := bsr 26 (by decide) x i
theorem bsl_27 (x : Int32) (i : Nat) : bt (shl x 27) i = (decide (i < 32) && (decide (27 ≤ i) && bt x (i - 27))) := bsl 27 (by decide) x i
theorem bus_27 (x : Int32) (i : Nat) : bt (ush x 27) i = bt x (27 + i) := bus 27 (by decide) x i
theorem bsr_27 (x : Int32) (i : Nat) : bt (shr x 27) i = (decide (i < 32) && (if 27 + i < 32 then bt x (27 + i) else bt x 31)) := bsr 27 (by decide) x i
theorem bsl_28 (x : Int32) (i : Nat) : bt (shl x 28) i = (decide (i < 32) && (decide (28 ≤ i) && bt x (i - 28))) := bsl 28 (by decide) x i
theorem bus_28 (x : Int32) (i : Nat) : bt (ush x 28) i = bt x (28 + i) := bus 28 (by decide) x i
theorem bsr_28 (x : Int32) (i : Nat) : bt (shr x 28) i = (decide (i < 32) && (if 28 + i < 32 then bt x (28 + i) else bt x 31)) := bsr 28 (by decide) x i
theorem bsl_29 (x : Int32) (i : Nat) : bt (shl x 29) i = (decide (i < 32) && (decide (29 ≤ i) && bt x (i - 29))) := bsl 29 (by decide) x i
theorem bus_29 (x : Int32) (i : Nat) : bt (ush x 29) i = bt x (29 + i) := bus 29 (by decide) x i
theorem bsr_29 (x : Int32) (i : Nat) : bt (shr x 29) i = (decide (i < 32) && (if 29 + i < 32 then bt x (29 + i) else bt x 31)) := bsr 29 (by decide) x i
theorem bsl_30 (x : Int32) (i : Nat) : bt (shl x 30) i = (decide (i < 32) && (decide (30 ≤ i) && bt x (i - 30))) := bsl 30 (by decide) x i
theorem bus_30 (x : Int32) (i : Nat) : bt (ush x 30) i = bt x (30 + i) := bus 30 (by decide) x i
theorem bsr_30 (x : Int32) (i : Nat) : bt (shr x 30) i = (decide (i < 32) && (if 30 + i < 32 then bt x (30 + i) else bt x 31)) := bsr 30 (by decide) x i
theorem bsl_31 (x : Int32) (i : Nat) : bt (shl x 31) i = (decide (i < 32) && (decide (31 ≤ i) && bt x (i - 31))) := bsl 31 (by decide) x i
theorem bus_31 (x : Int32) (i : Nat) : bt (ush x 31) i = bt x (31 + i) := bus 31 (by decide) x i
theorem bsr_31 (x : Int32) (i : Nat) : bt (shr x 31) i = (decide (i < 32) && (if 31 + i < 32 then bt x (31 + i) else bt x 31)) := bsr 31 (by decide) x i
theorem bc_0 : bt 0 0 = false ∧ bt 0 1 = false ∧ bt 0 2 = false ∧ bt 0 3 = false ∧ bt 0 4 = false ∧ bt 0 5 = false ∧ bt 0 6 = false ∧ bt 0 7 = false ∧ bt 0 8 = false ∧ bt 0 9 = false ∧ bt 0 10 = false ∧ bt 0 11 = false ∧ bt 0 12 = false ∧ bt 0 13 = false ∧ bt 0 14 = false ∧ bt 0 15 = false ∧ bt 0 16 = false ∧ bt 0 17 = false ∧ bt 0 18 = false ∧ bt 0 19 = false ∧ bt 0 20 = false ∧ bt 0 21 = false ∧ bt 0 22 = false ∧ bt 0 23 = false ∧ bt 0 24 = false ∧ bt 0 25 = false ∧ bt 0 26 = false ∧ bt 0 27 = false ∧ bt 0 28 = false ∧ bt 0 29 = false ∧ bt 0 30 = false ∧ bt 0 31 = false := by decide +kernel
theorem bc_1 : bt 1 0 = true ∧ bt 1 1 = false ∧ bt 1 2 = false ∧ bt 1 3 = false ∧ bt 1 4 = false ∧ bt 1 5 = false ∧ bt 1 6 = false ∧ bt 1 7 = false ∧ bt 1 8 = false ∧ bt 1 9 = false ∧ bt 1 10 = false ∧ bt 1 11 = false ∧ bt 1 12 = false ∧ bt 1 13 = false ∧ bt 1 14 = false ∧ bt 1 15 = false ∧ bt 1 16 = false ∧ bt 1 17 = false ∧ bt 1 18 = false ∧ bt 1 19 = false ∧ bt 1 20 = false ∧ bt 1 21 = false ∧ bt 1 22 = false ∧ bt 1 23 = false ∧ bt 1 24 = false ∧ bt 1 25 = false ∧ bt 1 26 = false ∧ bt 1 27 = false ∧ bt 1 28 = false ∧ bt 1 29 = false ∧ bt 1 30 = false ∧ bt 1 31 = false := by decide +kernel
theorem bc_3 : bt 3 0 = true ∧ bt 3 1 = true ∧ bt 3 2 = false ∧ bt 3 3 = false ∧ bt 3 4 = false ∧ bt 3 5 = false ∧ bt 3 6 = false ∧ bt 3 7 = false ∧ bt 3 8 = false ∧ bt 3 9 = false ∧ bt 3 10 = false ∧ bt 3 11 = false ∧ bt 3 12 = false ∧ bt 3 13 = false ∧ bt 3 14 = false ∧ bt 3 15 = false ∧ bt 3 16 = false ∧ bt 3 17 = false ∧ bt 3 18 = false ∧ bt 3 19 = false ∧ bt 3 20 = false ∧ bt 3 21 = false ∧ bt 3 22 = false ∧ bt 3 23 = false ∧ bt 3 24 = false ∧ bt 3 25 = false ∧ bt 3 26 = false ∧ bt 3 27 = false ∧ bt 3 28 = false ∧ bt 3 29 = false ∧ bt 3 30 = false ∧ bt 3 31 = false := by decide +kernel
theorem bc_255 : bt 255 0 = true ∧ bt 255 1 = true ∧ bt 255 2 = true ∧ bt 255 3 = true ∧ bt 255 4 = true ∧ bt 255 5 = true ∧ bt 255 6 = true ∧ bt 255 7 = true ∧ bt 255 8 = false ∧ bt 255 9 = false ∧ bt 255 10 = false ∧ bt 255 11 = false ∧ bt 255 12 = false ∧ bt 255 13 = false ∧ bt 255 14 = false ∧ bt 255 15 = false ∧ bt 255 16 = false ∧ bt 255 17 = false ∧ bt 255 18 = false ∧ bt 255 19 = false ∧ bt 255 20 = false ∧ bt 255 21 = false ∧ bt 255 22 = false ∧ bt 255 23 = false ∧ bt 255 24 = false ∧ bt 255 25 = false ∧ bt 255 26 = false ∧ bt 255 27 = false ∧ bt 255 28 = false ∧ bt 255 29 = false ∧ bt 255 30 = false ∧ bt 255 31 = false := by decide +kernel
theorem bc_65535 : bt 65535 0 = true ∧ bt 65535 1 = true ∧ bt 65535 2 = true ∧ bt 65535 3 = true ∧ bt 65535 4 = true ∧ bt 65535 5 = true ∧ bt 65535 6 = true ∧ bt 65535 7 = true ∧ bt 65535 8 = true ∧ bt 65535 9 = true ∧ bt 65535 10 = true ∧ bt 65535 11 = true ∧ bt 65535 12 = true ∧ bt 65535 13 = true ∧ bt 65535 14 = true ∧ bt 65535 15 = true ∧ bt 65535 16 = false ∧ bt 65535 17 = false ∧ bt 65535 18 = false ∧ bt 65535 19 = false ∧ bt 65535 20 = false ∧ bt 65535 21 = false ∧ bt 65535 22 = false ∧ bt 65535 23 = false ∧ bt 65535 24 = false ∧ bt 65535 25 = false ∧ bt 65535 26 = false ∧ bt 65535 27 = false ∧ bt 65535 28 = false ∧ bt 65535 29 = false ∧ bt 65535 30 = false ∧ bt 65535 31 = false := by decide +kernel
theorem bc_m1 : bt (-1) 0 = true ∧ bt (-1) 1 = true ∧ bt (-1) 2 = true ∧ bt (-1) 3 = true ∧ bt (-1) 4 = true ∧ bt (-1) 5 = true ∧ bt (-1) 6 = true ∧ bt (-1) 7 = true ∧ bt (-1) 8 = true ∧ bt (-1) 9 = true ∧ bt (-1) 10 = true ∧ bt (-1) 11 = true ∧ bt (-1) 12 = true ∧ bt (-1) 13 = true ∧ bt (-1) 14 = true ∧ bt (-1) 15 = true ∧ bt (-1) 16 = true ∧ bt (-1) 17 = true ∧ bt (-1) 18 = true ∧ bt (-1) 19 = true ∧ bt (-1) 20 = true ∧ bt (-1) 21 = true ∧ bt (-1) 22 = true ∧ bt (-1) 23 = true ∧ bt (-1) 24 = true ∧ bt (-1) 25 = true ∧ bt (-1) 26 = true ∧ bt (-1) 27 = true ∧ bt (-1) 28 = true ∧ bt (-1) 29 = true ∧ bt (-1) 30 = true ∧ bt (-1) 31 = true := by decide +kernel
theorem bc_m256 : bt (-256) 0 = false ∧ bt (-256) 1 = false ∧ bt (-256) 2 = false ∧ bt (-256) 3 = false ∧ bt (-256) 4 = false ∧ bt (-256) 5 = false ∧ bt (-256) 6 = false ∧ bt (-256) 7 = false ∧ bt (-256) 8 = true ∧ bt (-256) 9 = true ∧ bt (-256) 10 = true ∧ bt (-256) 11 = true ∧ bt (-256) 12 = true ∧ bt (-256) 13 = true ∧ bt (-256) 14 = true ∧ bt (-256) 15 = true ∧ bt (-256) 16 = true ∧ bt (-256) 17 = true ∧ bt (-256) 18 = true ∧ bt (-256) 19 = true ∧ bt (-256) 20 = true ∧ bt (-256) 21 = true ∧ bt (-256) 22 = true ∧ bt (-256) 23 = true ∧ bt (-256) 24 = true ∧ bt (-256) 25 = true ∧ bt (-256) 26 = true ∧ bt (-256) 27 = true ∧ bt (-256) 28 = true ∧ bt (-256) 29 = true ∧ bt (-256) 30 = true ∧ bt (-256) 31 = true := by decide +kernel
theorem bc_m65536 : bt (-65536) 0 = false ∧ bt (-65536) 1 = false ∧ bt (-65536) 2 = false ∧ bt (-65536) 3 = false ∧ bt (-65536) 4 = false ∧ bt (-65536) 5 = false ∧ bt (-65536) 6 = false ∧ bt (-65536) 7 = false ∧ bt (-65536) 8 = false ∧ bt (-65536) 9 = false ∧ bt (-65536) 10 = false ∧ bt (-65536) 11 = false ∧ bt (-65536) 12 = false ∧ bt (-65536) 13 = false ∧ bt (-65536) 14 = false ∧ bt (-65536) 15 = false ∧ bt (-65536) 16 = true ∧ bt (-65536) 17 = true ∧ bt (-65536) 18 = true ∧ bt (-65536) 19 = true ∧ bt (-65536) 20 = true ∧ bt (-65536) 21 = true ∧ bt (-65536) 22 = true ∧ bt (-65536) 23 = true ∧ bt (-65536) 24 = true ∧ bt (-65536) 25 = true ∧ bt (-65536) 26 = true ∧ bt (-65536) 27 = true ∧ bt (-65536) 28 = true ∧ bt (-65536) 29 = true ∧ bt (-65536) 30 = true ∧ bt (-65536) 31 = true := by decide +kernel
theorem bc_m4 : bt (-4) 0 = false ∧ bt (-4) 1 = false ∧ bt (-4) 2 = true ∧ bt (-4) 3 = true ∧ bt (-4) 4 = true ∧ bt (-4) 5 = true ∧ bt (-4) 6 = true ∧ bt (-4) 7 = true ∧ bt (-4) 8 = true ∧ bt (-4) 9 = true ∧ bt (-4) 10 = true ∧ bt (-4) 11 = true ∧ bt (-4) 12 = true ∧ bt (-4) 13 = true ∧ bt (-4) 14 = true ∧ bt (-4) 15 = true ∧ bt (-4) 16 = true ∧ bt (-4) 17 = true ∧ bt (-4) 18 = true ∧ bt (-4) 19 = true ∧ bt (-4) 20 = true ∧ bt (-4) 21 = true ∧ bt (-4) 22 = true ∧ bt (-4) 23 = true ∧ bt (-4) 24 = true ∧ bt (-4) 25 = true ∧ bt (-4) 26 = true ∧ bt (-4) 27 = true ∧ bt (-4) 28 = true ∧ bt (-4) 29 = true ∧ bt (-4) 30 = true ∧ bt (-4) 31 = true := by decide +kernel
theorem bc_31 : bt 31 0 = true ∧ bt 31 1 = true ∧ bt 31 2 = true ∧ bt 31 3 = true ∧ bt 31 4 = true ∧ bt 31 5 = false ∧ bt 31 6 = false ∧ bt 31 7 = false ∧ bt 31 8 = false ∧ bt 31 9 = false ∧ bt 31 10 = false ∧ bt 31 11 = false ∧ bt 31 12 = false ∧ bt 31 13 = false ∧ bt 31 14 = false ∧ bt 31 15 = false ∧ bt 31 16 = false ∧ bt 31 17 = false ∧ bt 31 18 = false ∧ bt 31 19 = false ∧ bt 31 20 = false ∧ bt 31 21 = false ∧ bt 31 22 = false ∧ bt 31 23 = false ∧ bt 31 24 = false ∧ bt 31 25 = false ∧ bt 31 26 = false ∧ bt 31 27 = false ∧ bt 31 28 = false ∧ bt 31 29 = false ∧ bt 31 30 = false ∧ bt 31 31 = false := by decide +kernel
theorem bc_7 : bt 7 0 = true ∧ bt 7 1 = true ∧ bt 7 2 = true ∧ bt 7 3 = false ∧ bt 7 4 = false ∧ bt 7 5 = false ∧ bt 7 6 = false ∧ bt 7 7 = false ∧ bt 7 8 = false ∧ bt 7 9 = false ∧ bt 7 10 = false ∧ bt 7 11 = false ∧ bt 7 12 = false ∧ bt 7 13 = false ∧ bt 7 14 = false ∧ bt 7 15 = false ∧ bt 7 16 = false ∧ bt 7 17 = false ∧ bt 7 18 = false ∧ bt 7 19 = false ∧ bt 7 20 = false ∧ bt 7 21 = false ∧ bt 7 22 = false ∧ bt 7 23 = false ∧ bt 7 24 = false ∧ bt 7 25 = false ∧ bt 7 26 = false ∧ bt 7 27 = false ∧ bt 7 28 = false ∧ bt 7 29 = false ∧ bt 7 30 = false ∧ bt 7 31 = false := by decide +kernel
theorem bc_127 : bt 127 0 = true ∧ bt 127 1 = true ∧ bt 127 2 = true ∧ bt 127 3 = true ∧ bt 127 4 = true ∧ bt 127 5 = true ∧ bt 127 6 = true ∧ bt 127 7 = false ∧ bt 127 8 = false ∧ bt 127 9 = false ∧ bt 127 10 = false ∧ bt 127 11 = false ∧ bt 127 12 = false ∧ bt 127 13 = false ∧ bt 127 14 = false ∧ bt 127 15 = false ∧ bt 127 16 = false ∧ bt 127 17 = false ∧ bt 127 18 = false ∧ bt 127 19 = false ∧ bt 127 20 = false ∧ bt 127 21 = false ∧ bt 127 22 = false ∧ bt 127 23 = false ∧ bt 127 24 = false ∧ bt 127 25 = false ∧ bt 127 26 = false ∧ bt 127 27 = false ∧ bt 127 28 = false ∧ bt 127 29 = false ∧ bt 127 30 = false ∧ bt 127 31 = false := by decide +kernel
theorem bc_15 : bt 15 0 = true ∧ bt 15 1 = true ∧ bt 15 2 = true ∧ bt 15 3 = true ∧ bt 15 4 = false ∧ bt 15 5 = false ∧ bt 15 6 = false ∧ bt 15 7 = false ∧ bt 15 8 = false ∧ bt 15 9 = false ∧ bt 15 10 = false ∧ bt 15 11 = false ∧ bt 15 12 = false ∧ bt 15 13 = false ∧ bt 15 14 = false ∧ bt 15 15 = false ∧ bt 15 16 = false ∧ bt 15 17 = false ∧ bt 15 18 = false ∧ bt 15 19 = false ∧ bt 15 20 = false ∧ bt 15 21 = false ∧ bt 15 22 = false ∧ bt 15 23 = false ∧ bt 15 24 = false ∧ bt 15 25 = false ∧ bt 15 26 = false ∧ bt 15 27 = false ∧ bt 15 28 = false ∧ bt 15 29 = false ∧ bt 15 30 = false ∧ bt 15 31 = false := by decide +kernel
theorem bc_m2 : bt (-2) 0 = false ∧ bt (-2) 1 = true ∧ bt (-2) 2 = true ∧ bt (-2) 3 = true ∧ bt (-2) 4 = true ∧ bt (-2) 5 = true ∧ bt (-2) 6 = true ∧ bt (-2) 7 = true ∧ bt (-2) 8 = true ∧ bt (-2) 9 = true ∧ bt (-2) 10 = true ∧ bt (-2) 11 = true ∧ bt (-2) 12 = true ∧ bt (-2) 13 = true ∧ bt (-2) 14 = true ∧ bt (-2) 15 = true ∧ bt (-2) 16 = true ∧ bt (-2) 17 = true ∧ bt (-2) 18 = true ∧ bt (-2) 19 = true ∧ bt (-2) 20 = true ∧ bt (-2) 21 = true ∧ bt (-2) 22 = true ∧ bt (-2) 23 = true ∧ bt (-2) 24 = true ∧ bt (-2) 25 = true ∧ bt (-2) 26 = true ∧ bt (-2) 27 = true ∧ bt (-2) 28 = true ∧ bt (-2) 29 = true ∧ bt (-2) 30 = true ∧ bt (-2) 31 = true := by decide +kernel
theorem bc_1023 : bt 1023 0 = true ∧ bt 1023 1 = true ∧ bt 1023 2 = true ∧ bt 1023 3 = true ∧ bt 1023 4 = true ∧ bt 1023 5 = true ∧ bt 1023 6 = true ∧ bt 1023 7 = true ∧ bt 1023 8 = true ∧ bt 1023 9 = true ∧ bt 1023 10 = false ∧ bt 1023 11 = false ∧ bt 1023 12 = false ∧ bt 1023 13 = false ∧ bt 1023 14 = false ∧ bt 1023 15 = false ∧ bt 1023 16 = false ∧ bt 1023 17 = false ∧ bt 1023 18 = false ∧ bt 1023 19 = false ∧ bt 1023 20 = false ∧ bt 1023 21 = false ∧ bt 1023 22 = false ∧ bt 1023 23 = false ∧ bt 1023 24 = false ∧ bt 1023 25 = false ∧ bt 1023 26 = false ∧ bt 1023 27 = false ∧ bt 1023 28 = false ∧ bt 1023 29 = false ∧ bt 1023 30 = false ∧ bt 1023 31 = false := by decide +kernel
theorem bc_4095 : bt 4095 0 = true ∧ bt 4095 1 = true ∧ bt 4095 2 = true ∧ bt 4095 3 = true ∧ bt 4095 4 = true ∧ bt 4095 5 = true ∧ bt 4095 6 = true ∧ bt 4095 7 = true ∧ bt 4095 8 = true ∧ bt 4095 9 = true ∧ bt 4095 10 = true ∧ bt 4095 11 = true ∧ bt 4095 12 = false ∧ bt 4095 13 = false ∧ bt 4095 14 = false ∧ bt 4095 15 = false ∧ bt 4095 16 = false ∧ bt 4095 17 = false ∧ bt 4095 18 = false ∧ bt 4095 19 = false ∧ bt 4095 20 = false ∧ bt 4095 21 = false ∧ bt 4095 22 = false ∧ bt 4095 23 = false ∧ bt 4095 24 = false ∧ bt 4095 25 = false ∧ bt 4095 26 = false ∧ bt 4095 27 = false ∧ bt 4095 28 = false ∧ bt 4095 29 = false ∧ bt 4095 30 = false ∧ bt 4095 31 = false := by decide +kernel
theorem bc_m4096 : bt (-4096) 0 = false ∧ bt (-4096) 1 = false ∧ bt (-4096) 2 = false ∧ bt (-4096) 3 = false ∧ bt (-4096) 4 = false ∧ bt (-4096) 5 = false ∧ bt (-4096) 6 = false ∧ bt (-4096) 7 = false ∧ bt (-4096) 8 = false ∧ bt (-4096) 9 = false ∧ bt (-4096) 10 = false ∧ bt (-4096) 11 = false ∧ bt (-4096) 12 = true ∧ bt (-4096) 13 = true ∧ bt (-4096) 14 = true ∧ bt (-4096) 15 = true ∧ bt (-4096) 16 = true ∧ bt (-4096) 17 = true ∧ bt (-4096) 18 = true ∧ bt (-4096) 19 = true ∧ bt (-4096) 20 = true ∧ bt (-4096) 21 = true ∧ bt (-4096) 22 = true ∧ bt (-4096) 23 = true ∧ bt (-4096) 24 = true ∧ bt (-4096) 25 = true ∧ bt (-4096) 26 = true ∧ bt (-4096) 27 = true ∧ bt (-4096) 28 = true ∧ bt (-4096) 29 = true ∧ bt (-4096) 30 = true ∧ bt (-4096) 31 = true := by decide +kernel
theorem bc_4194303 : bt 4194303 0 = true ∧ bt 4194303 1 = true ∧ bt 4194303 2 = true ∧ bt 4194303 3 = true ∧ bt 4194303 4 = true ∧ bt 4194303 5 = true ∧ bt 4194303 6 = true ∧ bt 4194303 7 = true ∧ bt 4194303 8 = true ∧ bt 4194303 9 = true ∧ bt 4194303 10 = true ∧ bt 4194303 11 = true ∧ bt 4194303 12 = true ∧ bt 4194303 13 = true ∧ bt 4194303 14 = true ∧ bt 4194303 15 = true ∧ bt 4194303 16 = true ∧ bt 4194303 17 = true ∧ bt 4194303 18 = true ∧ bt 4194303 19 = true ∧ bt 4194303 20 = true ∧ bt 4194303 21 = true ∧ bt 4194303 22 = false ∧ bt 4194303 23 = false ∧ bt 4194303 24 = false ∧ bt 4194303 25 = false ∧ bt 4194303 26 = false ∧ bt 4194303 27 = false ∧ bt 4194303 28 = false ∧ bt 4194303 29 = false ∧ bt 4194303 30 = false ∧ bt 4194303 31 = false := by decide +kernel
