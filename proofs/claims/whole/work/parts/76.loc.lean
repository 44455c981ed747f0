-- ===== the place of an address =====
theorem lshl12 (z : Int64) : lshl z 12 = 4096 * z := by
  apply cb_inj
  have e1 : (lshl z 12).toBitVec.toNat = z.toBitVec.toNat * 2 ^ 12 % 2 ^ 64 := by
    unfold lshl
    show (z.toBitVec <<< ((((12 : Int32).toInt64 &&& 63).toBitVec).smod 64).toNat).toNat = _
    rw [show ((((12 : Int32).toInt64 &&& 63).toBitVec).smod 64).toNat = 12 from by decide, BitVec.toNat_shiftLeft, Nat.shiftLeft_eq]
  have e2 : (4096 * z).toBitVec.toNat = 4096 * z.toBitVec.toNat % 2 ^ 64 := by
    show (4096#64 * z.toBitVec).toNat = _
    rw [BitVec.toNat_mul]; rfl
  rw [e1, e2, Nat.mul_comm]
theorem num12 (x : Int32) : (ush x 12) &&& 1023 = (shr x 12) &&& 1023 := by
  apply b_ext
  intro i hi
  rcases lt32 hi with rfl | rfl | rfl | rfl | rfl | rfl | rfl | rfl | rfl | rfl | rfl | rfl | rfl | rfl | rfl | rfl | rfl | rfl | rfl | rfl | rfl | rfl | rfl | rfl | rfl | rfl | rfl | rfl | rfl | rfl | rfl | rfl <;> simp [b_or, b_and, b_xor, b_i8, b_i16, bc_1023, bsl_0, bus_0, bsr_0, bsl_1, bus_1, bsr_1, bsl_2, bus_2, bsr_2, bsl_3, bus_3, bsr_3, bsl_4, bus_4, bsr_4, bsl_5, bus_5, bsr_5, bsl_6, bus_6, bsr_6, bsl_7, bus_7, bsr_7, bsl_8, bus_8, bsr_8, bsl_9, bus_9, bsr_9, bsl_10, bus_10, bsr_10, bsl_11, bus_11, bsr_11, bsl_12, bus_12, bsr_12, bsl_13, bus_13, bsr_13, bsl_14, bus_14, bsr_14, bsl_15, bus_15, bsr_15, bsl_16, bus_16, bsr_16, bsl_17, bus_17, bsr_17, bsl_18, bus_18, bsr_18, bsl_19, bus_19, bsr_19, bsl_20, bus_20, bsr_20, bsl_21, bus_21, bsr_21, bsl_22, bus_22, bsr_22, bsl_23, bus_23, bsr_23, bsl_24, bus_24, bsr_24, bsl_25, bus_25, bsr_25, bsl_26, bus_26, bsr_26, bsl_27, bus_27, bsr_27, bsl_28, bus_28, bsr_28, bsl_29, bus_29, bsr_29, bsl_30, bus_30, bsr_30, bsl_31, bus_31, bsr_31]
theorem lb_eq (a : Int32) : shr (a &&& 6144) 11 = (shr a 11) &&& 3 := by
  apply b_ext
  intro i hi
  rcases lt32 hi with rfl | rfl | rfl | rfl | rfl | rfl | rfl | rfl | rfl | rfl | rfl | rfl | rfl | rfl | rfl | rfl | rfl | rfl | rfl | rfl | rfl | rfl | rfl | rfl | rfl | rfl | rfl | rfl | rfl | rfl | rfl | rfl <;> simp [b_or, b_and, b_xor, b_i8, b_i16, bc_6144, bc_3, bsl_0, bus_0, bsr_0, bsl_1, bus_1, bsr_1, bsl_2, bus_2, bsr_2, bsl_3, bus_3, bsr_3, bsl_4, bus_4, bsr_4, bsl_5, bus_5, bsr_5, bsl_6, bus_6, bsr_6, bsl_7, bus_7, bsr_7, bsl_8, bus_8, bsr_8, bsl_9, bus_9, bsr_9, bsl_10, bus_10, bsr_10, bsl_11, bus_11, bsr_11, bsl_12, bus_12, bsr_12, bsl_13, bus_13, bsr_13, bsl_14, bus_14, bsr_14, bsl_15, bus_15, bsr_15, bsl_16, bus_16, bsr_16, bsl_17, bus_17, bsr_17, bsl_18, bus_18, bsr_18, bsl_19, bus_19, bsr_19, bsl_20, bus_20, bsr_20, bsl_21, bus_21, bsr_21, bsl_22, bus_22, bsr_22, bsl_23, bus_23, bsr_23, bsl_24, bus_24, bsr_24, bsl_25, bus_25, bsr_25, bsl_26, bus_26, bsr_26, bsl_27, bus_27, bsr_27, bsl_28, bus_28, bsr_28, bsl_29, bus_29, bsr_29, bsl_30, bus_30, bsr_30, bsl_31, bus_31, bsr_31]
theorem small64 {y : Int32} (h : y.toBitVec.toNat < 2 ^ 31) : y.toInt64 = lN y.toBitVec.toNat := by
  apply cb_inj
  rw [sx_small h, lN_tn (by omega)]
theorem tn_and (x : Int32) {m : Int32} (k : Nat) (hm : m.toBitVec.toNat = 2 ^ k - 1) : (x &&& m).toBitVec.toNat < 2 ^ k := by
  rw [bv_and x m k hm]; exact Nat.mod_lt _ (Nat.two_pow_pos k)
theorem tn_ush (x : Int32) {k : Nat} (hk : k < 32) : (ush x (nI k)).toBitVec.toNat = x.toBitVec.toNat / 2 ^ k := pk_ushr x (nI k) k (s_u k hk)
theorem tn_ush_lt (x : Int32) {k m : Nat} (hk : k < 32) (hm : 2 ^ 32 = 2 ^ k * 2 ^ m) : (ush x (nI k)).toBitVec.toNat < 2 ^ m := by
  rw [tn_ush x hk]
  have hx : x.toBitVec.toNat < 2 ^ 32 := x.toBitVec.isLt
  exact Nat.div_lt_of_lt_mul (by rw [← hm]; exact hx)
theorem u10 (x : Int32) : (ush x 10).toBitVec.toNat < 2 ^ 22 := tn_ush_lt x (k := 10) (by decide) (by decide)
theorem u22 (x : Int32) : (ush x 22).toBitVec.toNat < 2 ^ 10 := tn_ush_lt x (k := 22) (by decide) (by decide)
/-- the place of an entry -/
theorem ent_at {p q : Int32} (hp : p.toBitVec.toNat < 2 ^ 22) (hq : q.toBitVec.toNat < 2 ^ 10) : ∃ k, 4096 * p.toInt64 + 4 * q.toInt64 = lN k ∧ k < 2 ^ 40 ∧ k % 4 = 0 := by
  refine ⟨4096 * p.toBitVec.toNat + 4 * q.toBitVec.toNat, ?_, by omega, by omega⟩
  rw [small64 (by omega), small64 (by omega), show (4096 : Int64) = lN 4096 from rfl, show (4 : Int64) = lN 4 from rfl, lN_mul, lN_mul, lN_add]
/-- the place that a page gives -/
theorem pag_at {p w : Int32} (x0 : Int32) (hp : p.toBitVec.toNat < 2 ^ 22) (hw : w.toBitVec.toNat < 2 ^ 10) : ∃ k, 4096 * (p.toInt64 + w.toInt64) + (x0 &&& 4095).toInt64 = lN k ∧ k < 2 ^ 40 ∧ k % 4096 = x0.toBitVec.toNat % 4096 := by
  have e0 := bv_and x0 4095 12 (by decide)
  refine ⟨4096 * (p.toBitVec.toNat + w.toBitVec.toNat) + x0.toBitVec.toNat % 4096, ?_, by omega, by omega⟩
  rw [small64 (y := p) (by omega), small64 (y := w) (by omega), small64 (y := x0 &&& 4095) (by rw [e0]; omega), e0, show (4096 : Int64) = lN 4096 from rfl, lN_add, lN_mul, lN_add]
theorem m10 {y : Int32} (h : y.toBitVec.toNat < 2 ^ 31) : (y &&& 1023) = 0 ↔ (y.toInt64 &&& 1023) = 0 := by
  have e1 := bv_and y 1023 10 (by decide)
  have e2 : (y.toInt64 &&& 1023).toBitVec.toNat = y.toBitVec.toNat % 2 ^ 10 := by
    show (y.toInt64.toBitVec &&& 1023#64).toNat = _
    rw [BitVec.toNat_and, sx_small h, show (1023#64).toNat = 2 ^ 10 - 1 from rfl, Nat.and_two_pow_sub_one_eq_mod]
  constructor
  · intro q
    apply cb_inj
    rw [e2, ← e1, q]; rfl
  · intro q
    apply Int32.toBitVec_inj.mp
    apply BitVec.eq_of_toNat_eq
    rw [e1, ← e2, q]; rfl
theorem lsub_neg {k m : Nat} (hk : k < 2 ^ 62) (hm : m < 2 ^ 62) : lN k - lN m < 0 ↔ k < m := by
  rw [Int64.lt_iff_toInt_lt, Int64.toInt_sub, pk_lT (by omega), pk_lT (by omega), show (0 : Int64).toInt = 0 from rfl]
  rw [Int.bmod_eq_of_le (by omega) (by omega)]
  omega
theorem ram_iff {n k : Nat} (M : TM) (hn : n ≤ 4096) (hk : k < 2 ^ 62) : (sp_Memory_isRam n (lN k) M = 0 ∧ sp_Model_inRam n (lN k) = -1) ∨ (∃ j, j < 4 * n ∧ k = 2147483648 + j ∧ ¬ sp_Memory_isRam n (lN k) M = 0 ∧ sp_Model_inRam n (lN k) = nI j ∧ sp_Memory_indexOf (lN k) = nI (j / 4)) := by
  unfold sp_Memory_isRam sp_Model_inRam
  rw [nI_l (by omega), show (4 : Int64) = lN 4 from rfl, lN_mul, show (2147483648 : Int64) = lN 2147483648 from rfl, lN_add]
  by_cases h1 : k < 2147483648
  · left
    rw [if_pos ((pk_lLT (by omega) (by omega)).mpr h1), if_pos ((lsub_neg hk (by omega)).mpr h1)]
    exact ⟨rfl, rfl⟩
  · rw [if_neg (fun q => h1 ((pk_lLT (by omega) (by omega)).mp q)), if_neg (fun q => h1 ((lsub_neg hk (by omega)).mp q)), lN_sub (by omega)]
    by_cases h2 : 2147483648 + 4 * n ≤ k
    · left
      rw [if_pos ((pk_lLE (by omega) (by omega)).mpr h2), if_pos ((pk_lLE (by omega) (by omega)).mpr (by omega))]
      exact ⟨rfl, rfl⟩
    · right
      rw [if_neg (fun q => h2 ((pk_lLE (by omega) (by omega)).mp q)), if_neg (fun q => h2 (by have := (pk_lLE (by omega) (by omega)).mp q; omega)), lN_i]
      refine ⟨k - 2147483648, by omega, by omega, by decide, rfl, ?_⟩
      have e := ix_at (j := k - 2147483648) (by omega)
      rw [show 2147483648 + (k - 2147483648) = k from by omega] at e
      exact e
section Loc
variable {n id : Nat} {M : TM} {f q pcs lv cs x b cl : Nat → Int32} {cm : Nat → Int64} {so : Nat → Int32} {ti : Int64} {pu : Nat → Int32} {np : Int32} {pc l t : Int32}
theorem word_eq {j : Nat} (hn : n ≤ 4096) (hM : MemR n M b cl cm so ti pu np) (hj : j < 4 * n) (h4 : j % 4 = 0) : sp_Model_ramWord (nI j) b = M.2.1 (j / 4) := by
  have e := rw_at (b := b) (i := j / 4) (by omega) (hM.1 (j / 4) (by omega))
  rw [show 4 * (j / 4) = j from by omega] at e
  exact e
def HowOk (i : Nat) (how : Int32) : Prop := (i = 0 ∧ how = 0) ∨ (i = 1 ∧ how = 1) ∨ (i = 2 ∧ how = 2) ∨ (i = 3 ∧ how = 1) ∨ (i = 4 ∧ how = 2)
/-- the class's place and the reference's -/
def LocR (x0 tv : Int32) (cp : Int64) (t : Int64 × Int32 × Int32) : Prop :=
  (∃ k, k < 4294967296 ∧ cp = lN k ∧ t = (lN k, -1, tv) ∧ k % 4096 = x0.toBitVec.toNat % 4096) ∨ (∃ c, c < 16 ∧ cp = sp_Fault_of (nI c) ∧ t = (-1, nI c, x0))
theorem LocR.acc {i : Nat} {how x0 tv : Int32} (hw : HowOk i how) : LocR x0 tv (sp_Fault_of (aF_accessFault.getD i 0)) ((-1), ((sp_Model_trap (sp_Model_accessFault how) x0 (-1) tv).1, (sp_Model_trap (sp_Model_accessFault how) x0 (-1) tv).2)) := by
  rcases hw with ⟨rfl, rfl⟩ | ⟨rfl, rfl⟩ | ⟨rfl, rfl⟩ | ⟨rfl, rfl⟩ | ⟨rfl, rfl⟩
  · exact Or.inr ⟨1, by decide, rfl, rfl⟩
  · exact Or.inr ⟨5, by decide, rfl, rfl⟩
  · exact Or.inr ⟨7, by decide, rfl, rfl⟩
  · exact Or.inr ⟨5, by decide, rfl, rfl⟩
  · exact Or.inr ⟨7, by decide, rfl, rfl⟩
theorem LocR.pag {i : Nat} {how x0 tv : Int32} (hw : HowOk i how) : LocR x0 tv (sp_Fault_of (aF_pageFault.getD i 0)) ((-1), ((sp_Model_trap (sp_Model_pageFault how) x0 (-1) tv).1, (sp_Model_trap (sp_Model_pageFault how) x0 (-1) tv).2)) := by
  rcases hw with ⟨rfl, rfl⟩ | ⟨rfl, rfl⟩ | ⟨rfl, rfl⟩ | ⟨rfl, rfl⟩ | ⟨rfl, rfl⟩
  · exact Or.inr ⟨12, by decide, rfl, rfl⟩
  · exact Or.inr ⟨13, by decide, rfl, rfl⟩
  · exact Or.inr ⟨15, by decide, rfl, rfl⟩
  · exact Or.inr ⟨13, by decide, rfl, rfl⟩
  · exact Or.inr ⟨15, by decide, rfl, rfl⟩
theorem low_at (x0 tv : Int32) : LocR x0 tv (x0.toInt64 &&& 4294967295) (x0.toInt64 &&& 4294967295, (-1, tv)) := by
  have hx : x0.toBitVec.toNat < 2 ^ 32 := x0.toBitVec.isLt
  have e : x0.toInt64 &&& 4294967295 = lN x0.toBitVec.toNat := by
    apply cb_inj
    rw [sx_low, lN_tn (by omega)]
  rw [e]
  exact Or.inl ⟨_, by omega, rfl, rfl, rfl⟩
theorem kd (e : Int32) : ∃ j, j < 16 ∧ e &&& 15 = nI j := by
  obtain ⟨j, hj, h⟩ := pk_andE e (m := 15) 4 (by decide)
  exact ⟨j, hj, h⟩
theorem kd_m (e m : Int32) (h : 15 &&& m = m) : e &&& m = (e &&& 15) &&& m := by rw [Int32.and_assoc, h]
abbrev kdP (e15 : Int32) : Prop := (e15 = 1 ∧ e15 &&& 1 ≠ 0 ∧ e15 &&& 6 ≠ 4 ∧ e15 &&& 10 = 0) ∨ (e15 ≠ 1 ∧ (e15 &&& 1 = 0 ∨ e15 &&& 6 = 4)) ∨ (e15 ≠ 1 ∧ e15 &&& 1 ≠ 0 ∧ e15 &&& 6 ≠ 4 ∧ e15 &&& 10 ≠ 0)
theorem kd_all : ∀ j, j < 16 → kdP (nI j) := by decide +kernel
theorem kd_cases (e : Int32) : ((e &&& 15) = 1 ∧ sp_Pages_isPage e = 0 ∧ sp_Model_isBad e = 0 ∧ sp_Model_isLeaf e = 0) ∨ (¬ (e &&& 15) = 1 ∧ sp_Pages_isPage e = 0 ∧ ¬ sp_Model_isBad e = 0) ∨ (¬ (e &&& 15) = 1 ∧ ¬ sp_Pages_isPage e = 0 ∧ sp_Model_isBad e = 0 ∧ ¬ sp_Model_isLeaf e = 0) := by
  obtain ⟨j, hj, h⟩ := kd e
  have hp := kd_all j hj
  rw [← h] at hp
  unfold kdP at hp
  rw [← kd_m e 1 (by decide), ← kd_m e 6 (by decide), ← kd_m e 10 (by decide)] at hp
  unfold sp_Pages_isPage sp_Model_isBad sp_Model_isLeaf
  rcases hp with ⟨p1, p2, p3, p4⟩ | ⟨p1, p2⟩ | ⟨p1, p2, p3, p4⟩
  · left
    rw [if_neg p3, if_neg p2, if_pos p4, if_neg p2, if_neg p3]
    exact ⟨p1, rfl, rfl, rfl⟩
  · right; left
    refine ⟨p1, ?_, ?_⟩
    · rcases p2 with p2 | p2
      · rw [if_pos p2, if_pos p2]; split <;> rfl
      · rw [if_pos p2]; split
        · rfl
        · split <;> rfl
    · rcases p2 with p2 | p2
      · rw [if_pos p2]; decide
      · rw [if_pos p2]; split <;> decide
  · right; right
    rw [if_neg p3, if_neg p2, if_neg p4, if_neg p2, if_neg p3]
    exact ⟨p1, by decide, rfl, by decide⟩
theorem b10 (e : Int32) : (e &&& 10) = 0 ↔ (bt e 1 || bt e 3) = false := by
  constructor
  · intro h
    have a1 := congrArg (fun z => bt z 1) h
    have a3 := congrArg (fun z => bt z 3) h
    simp only [b_and, b_0, show bt 10 1 = true from by decide, show bt 10 3 = true from by decide, Bool.and_true] at a1 a3
    rw [a1, a3]; rfl
  · intro h
    have h1 : bt e 1 = false := by revert h; cases bt e 1 <;> simp
    have h3 : bt e 3 = false := by revert h; cases bt e 3 <;> simp
    apply b_ext
    intro i hi
    rw [b_and, b_0]
    have hb : ∀ i, i < 32 → (i = 1 ∨ i = 3) ∨ bt 10 i = false := by decide +kernel
    rcases hb i hi with (rfl | rfl) | z
    · rw [h1, Bool.false_and]
    · rw [h3, Bool.false_and]
    · rw [z, Bool.and_false]
theorem b64 (e : Int32) : (e &&& 64) = 64 ↔ bt e 6 = true := by
  constructor
  · intro h
    have a1 := congrArg (fun z => bt z 6) h
    simp only [b_and, show bt 64 6 = true from by decide, Bool.and_true] at a1
    exact a1
  · intro h
    apply b_ext
    intro i hi
    rw [b_and]
    have hb : ∀ i, i < 32 → i = 6 ∨ bt 64 i = false := by decide +kernel
    rcases hb i hi with rfl | z
    · rw [h, Bool.true_and]
    · rw [z, Bool.and_false]
theorem b196 (e : Int32) : (e &&& 196) = 196 ↔ (bt e 2 && bt e 6 && bt e 7) = true := by
  constructor
  · intro h
    have a2 := congrArg (fun z => bt z 2) h
    have a6 := congrArg (fun z => bt z 6) h
    have a7 := congrArg (fun z => bt z 7) h
    simp only [b_and, show bt 196 2 = true from by decide, show bt 196 6 = true from by decide, show bt 196 7 = true from by decide, Bool.and_true] at a2 a6 a7
    rw [a2, a6, a7]; rfl
  · intro h
    have h2 : bt e 2 = true := by revert h; cases bt e 2 <;> simp
    have h6 : bt e 6 = true := by revert h; cases bt e 6 <;> simp
    have h7 : bt e 7 = true := by revert h; cases bt e 7 <;> simp
    apply b_ext
    intro i hi
    rw [b_and]
    have hb : ∀ i, i < 32 → (i = 2 ∨ i = 6 ∨ i = 7) ∨ bt 196 i = false := by decide +kernel
    rcases hb i hi with (rfl | rfl | rfl) | z
    · rw [h2, Bool.true_and]
    · rw [h6, Bool.true_and]
    · rw [h7, Bool.true_and]
    · rw [z, Bool.and_false]
theorem hs_eq (hid : id = 0 ∨ id = 1) (hC : CsrR id q cs) (k : Int32) : sp_Model_has k (nI id) cs = if (q 1 &&& k) = 0 then 0 else 1 := by
  unfold sp_Model_has
  rw [show sp_Model_raw (nI id) 768 cs = q 1 from (raw_at cs hid (N := 768) (by decide)).trans (hC.2.1 (768, 1) (by decide))]

set_option maxHeartbeats 4000000 in
theorem adm_eq {i : Nat} {how r : Int32} (hid : id = 0 ∨ id = 1) (hC : CsrR id q cs) (hw : HowOk i how) (hr : r = 0 ∨ r = 1) (e : Int32) : sp_Pages_admits e i r (q 1) = 0 ↔ sp_Model_lets e how r (nI id) cs = 0 := by
  unfold sp_Pages_admits sp_Model_lets
  simp only [hs_eq hid hC, bf_1, bf_2, bf_3, bf_4, bf_6, bf_7, bf_18, bf_19, b10, b64, b196]
  generalize bt e 1 = b1
  generalize bt e 2 = b2
  generalize bt e 3 = b3
  generalize bt e 4 = b4
  generalize bt e 6 = b6
  generalize bt e 7 = b7
  generalize bt (q 1) 18 = s18
  generalize bt (q 1) 19 = s19
  clear hC hid
  revert b1 b2 b3 b4 b6 b7 s18 s19
  rcases hw with ⟨rfl, rfl⟩ | ⟨rfl, rfl⟩ | ⟨rfl, rfl⟩ | ⟨rfl, rfl⟩ | ⟨rfl, rfl⟩ <;> rcases hr with rfl | rfl <;> decide +kernel
set_option maxHeartbeats 4000000 in
theorem pages_eq {i : Nat} {how r x0 tv : Int32} (hn : n ≤ 4096) (hid : id = 0 ∨ id = 1) (hM : MemR n M b cl cm so ti pu np) (hC : CsrR id q cs) (hw : HowOk i how) (hr : r = 0 ∨ r = 1) (hl : sp_Model_levelFor how (nI id) lv cs = r) (hs : sp_Model_raw (nI id) 384 cs = q 16) (hg : q 16 < 0) :
    LocR x0 tv (sp_Pages_placeOf n (nI id) x0 i r (M, f, pc, l, t, q)) (sp_Model_translate n x0 how (nI id) (-1) tv lv cs b) := by
  unfold sp_Model_translate sp_Pages_placeOf
  dsimp only
  have r3 : ¬ r = 3 := by rcases hr with e | e <;> rw [e] <;> decide
  have zp : ∀ {j : Nat}, j < 4 * n → 0 ≤ nI j := fun h => nI_pos' (by omega)
  have m1 : ¬ (0 : Int32) ≤ -1 := by decide
  rw [hl, if_neg r3, hs, if_pos hg]
  unfold sp_Pages_entryPlace sp_Csrs_rootPage
  rw [num12]
  simp only [lshl12]
  obtain ⟨k1, eA, hk1, hk4⟩ := ent_at (p := q 16 &&& 4194303) (q := ush x0 22) (tn_and _ 22 (by decide)) (u22 x0)
  rw [eA]
  have final : ∀ (e w : Int32), w.toBitVec.toNat < 2 ^ 10 → LocR x0 tv (if (4096 * ((ush e 10).toInt64 + w.toInt64) + (x0 &&& 4095).toInt64) ≤ 4294967295 then (4096 * ((ush e 10).toInt64 + w.toInt64) + (x0 &&& 4095).toInt64) else sp_Fault_of (aF_accessFault.getD i 0))
      (if (4096 * ((ush e 10).toInt64 + w.toInt64) + (x0 &&& 4095).toInt64) ≤ 4294967295 then (4096 * ((ush e 10).toInt64 + w.toInt64) + (x0 &&& 4095).toInt64, (-1, tv)) else ((-1), ((sp_Model_trap (sp_Model_accessFault how) x0 (-1) tv).1, (sp_Model_trap (sp_Model_accessFault how) x0 (-1) tv).2))) := by
    intro e w hw10
    obtain ⟨k, ek, hk, hk2⟩ := pag_at x0 (u10 e) hw10
    rw [ek]
    by_cases c : lN k ≤ 4294967295
    · rw [if_pos c, if_pos c]
      rw [show (4294967295 : Int64) = lN 4294967295 from rfl, pk_lLE (by omega) (by decide)] at c
      exact Or.inl ⟨k, by omega, rfl, rfl, hk2⟩
    · rw [if_neg c, if_neg c]; exact LocR.acc hw
  have pg := LocR.pag (x0 := x0) (tv := tv) hw
  have ac := LocR.acc (x0 := x0) (tv := tv) hw
  rcases ram_iff M hn (k := k1) (by omega) with ⟨r1, r2⟩ | ⟨j, hj, hk, r1, r2, r3⟩
  · rw [if_pos r1, r2, if_neg m1]; exact ac
  · rw [if_neg r1, r2, if_pos (zp hj), word_eq hn hM hj (by omega)]
    have ew : sp_Memory_wordAt n (lN k1) M = M.2.1 (j / 4) := by unfold sp_Memory_wordAt; rw [r3, nI_clamp (by omega)]
    rw [ew]
    generalize M.2.1 (j / 4) = e
    rcases kd_cases e with ⟨p1, p2, p3, p4⟩ | ⟨p1, p2, p3⟩ | ⟨p1, p2, p3, p4⟩
    · rw [if_pos p1, if_pos p3, if_pos p4]
      obtain ⟨k2, eB, hk2, hk24⟩ := ent_at (p := ush e 10) (q := (shr x0 12) &&& 1023) (u10 e) (tn_and _ 10 (by decide))
      rw [eB]
      rcases ram_iff M hn (k := k2) (by omega) with ⟨g1, g2⟩ | ⟨j2, hj2, hkk, g1, g2, g3⟩
      · rw [if_pos g1, g2, if_neg m1]; exact ac
      · rw [if_neg g1, g2, if_pos (zp hj2), word_eq hn hM hj2 (by omega)]
        have ew2 : sp_Memory_wordAt n (lN k2) M = M.2.1 (j2 / 4) := by unfold sp_Memory_wordAt; rw [g3, nI_clamp (by omega)]
        rw [ew2]
        generalize M.2.1 (j2 / 4) = e2
        rcases kd_cases e2 with ⟨-, p2, p3, p4⟩ | ⟨-, p2, p3⟩ | ⟨-, p2, p3, p4⟩
        · rw [if_pos p2, if_pos p3, if_pos p4]; exact pg
        · rw [if_pos p2, if_neg p3]; exact pg
        · rw [if_neg p2, if_pos p3, if_neg p4]
          have ad := adm_eq hid hC hw hr e2
          by_cases c : sp_Pages_admits e2 i r (q 1) = 0
          · rw [if_pos c, if_pos (ad.mp c)]; exact pg
          · rw [if_neg c, if_neg (fun z => c (ad.mpr z))]; exact final e2 0 (by decide)
    · rw [if_neg p1, if_neg p3]
      by_cases c2 : (ush e 10 &&& 1023) = 0
      · rw [if_pos c2, if_pos p2]; exact pg
      · rw [if_neg c2]; exact pg
    · rw [if_neg p1, if_pos p3, if_neg p4]
      have ad := adm_eq hid hC hw hr e
      have mm := m10 (y := ush e 10) (by have := u10 e; omega)
      by_cases c : sp_Pages_admits e i r (q 1) = 0
      · rw [if_pos (ad.mp c)]
        by_cases c2 : (ush e 10 &&& 1023) = 0
        · rw [if_pos c2, if_neg p2, if_pos c]; exact pg
        · rw [if_neg c2]; exact pg
      · rw [if_neg (fun z => c (ad.mpr z))]
        by_cases c2 : (ush e 10 &&& 1023) = 0
        · rw [if_pos c2, if_pos (mm.mp c2), if_neg p2, if_neg c]
          exact final e _ (tn_and _ 10 (by decide))
        · rw [if_neg c2, if_neg (fun z => c2 (mm.mpr z))]; exact pg
end Loc
