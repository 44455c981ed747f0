-- ===== the calls that only look, and the simple ones =====
theorem l_min9 (z : Int64) : (z + (-9223372036854775808)).toInt = (z.toBitVec.toNat : Int) - 9223372036854775808 := by
  have hz := z.toBitVec.isLt
  have e : (z + (-9223372036854775808)).toBitVec.toNat = (z.toBitVec.toNat + 9223372036854775808) % 18446744073709551616 := by
    show (z.toBitVec + (-9223372036854775808 : Int64).toBitVec).toNat = _
    rw [BitVec.toNat_add, show (-9223372036854775808 : Int64).toBitVec.toNat = 9223372036854775808 from by decide +kernel]
  show (z + (-9223372036854775808)).toBitVec.toInt = _
  rw [BitVec.toInt_eq_toNat_cond, e]
  split <;> omega
theorem lmin_lt (a b : Int64) : (a + (-9223372036854775808)) < (b + (-9223372036854775808)) ↔ a.toBitVec.toNat < b.toBitVec.toNat := by
  rw [Int64.lt_iff_toInt_lt, l_min9, l_min9]
  omega
theorem isHart_01 {x0 : Int32} : sp_Model_isHart x0 = sp_TwinHart_isHart x0 := rfl
theorem ih_0 : ¬ sp_Model_isHart 0 = 0 := by decide
theorem ih_1 : ¬ sp_Model_isHart 1 = 0 := by decide
theorem ih_no {x0 : Int32} (h0 : ¬ x0 = 0) (h1 : ¬ x0 = 1) : sp_Model_isHart x0 = 0 := by
  unfold sp_Model_isHart; rw [if_neg h0, if_neg h1]
theorem has_in {n : Nat} {x0 : Int32} {M : TM} (hn : n ≤ 4096) : (∃ i, i < n ∧ x0 = nI i ∧ ¬ sp_Memory_hasWord n x0 M = 0 ∧ ¬ x0 < 0 ∧ x0 < nI n) ∨ (sp_Memory_hasWord n x0 M = 0 ∧ (x0 < 0 ∨ ¬ x0 < nI n)) := by
  unfold sp_Memory_hasWord
  by_cases h1 : x0 < 0
  · right; rw [if_pos h1]; exact ⟨rfl, Or.inl h1⟩
  · obtain ⟨i, hi, rfl⟩ := nI_of h1
    by_cases h2 : nI n ≤ nI i
    · right; rw [if_neg h1, if_pos h2]
      refine ⟨rfl, Or.inr ?_⟩
      rw [nI_leI (by omega) hi] at h2
      rw [nI_ltI hi (by omega)]
      omega
    · left
      rw [if_neg h1, if_neg h2]
      rw [nI_leI (by omega) hi] at h2
      exact ⟨i, by omega, rfl, by decide, h1, nI_lt (by omega) (by omega)⟩
theorem rw_at {v : Int32} {b : Nat → Int32} {i : Nat} (hi : 4 * i + 3 < 2 ^ 31) (hb : ∀ j, j < 4 → b (4 * i + j) = byt v j) : sp_Model_ramWord (nI (4 * i)) b = v := by
  unfold sp_Model_ramWord sp_Model_ramByte
  rw [show nI (4 * i) + 1 = nI (4 * i + 1) from nI_add _ 1, show nI (4 * i) + 2 = nI (4 * i + 2) from nI_add _ 2, show nI (4 * i) + 3 = nI (4 * i + 3) from nI_add _ 3]
  rw [nI_clamp (by omega), nI_clamp (by omega), nI_clamp (by omega), nI_clamp (by omega)]
  have e0 : b (4 * i) = byt v 0 := hb 0 (by decide)
  rw [e0, hb 1 (by decide), hb 2 (by decide), hb 3 (by decide)]
  exact wd_4 v
theorem nI4 (i : Nat) : 4 * nI i = nI (4 * i) := pk_mul 4 i
theorem sb_4 {b : Nat → Int32} {k : Nat} (v : Int32) (hk : 4 * k + 3 < 2 ^ 31) (i j : Nat) (hj : j < 4) : sp_Model_setBytes (nI (4 * k)) 4 v b (4 * i + j) = if i = k then byt v j else b (4 * i + j) := by
  unfold sp_Model_setBytes
  rw [if_neg (by decide), if_neg (by decide), pk_vb, pk_vb, pk_vb, pk_vb]
  rw [show nI (4 * k) + 0 = nI (4 * k) from nI_add _ 0, show nI (4 * k) + 1 = nI (4 * k + 1) from nI_add _ 1, show nI (4 * k) + 2 = nI (4 * k + 2) from nI_add _ 2, show nI (4 * k) + 3 = nI (4 * k + 3) from nI_add _ 3]
  rw [nI_clamp (by omega), nI_clamp (by omega), nI_clamp (by omega), nI_clamp (by omega)]
  by_cases e : i = k
  · subst e
    rw [if_pos rfl]
    have : j = 0 ∨ j = 1 ∨ j = 2 ∨ j = 3 := by omega
    rcases this with rfl | rfl | rfl | rfl
    · rw [pk_un (by omega), pk_un (by omega), pk_un (by omega)]; exact pk_us
    · rw [pk_un (by omega), pk_un (by omega)]; exact pk_us
    · rw [pk_un (by omega)]; exact pk_us
    · exact pk_us
  · rw [if_neg e, pk_un (by omega), pk_un (by omega), pk_un (by omega), pk_un (by omega)]
section Easy
variable {n : Nat} {σ : TT} {pcs lv cs x b cl : Nat → Int32} {cm : Nat → Int64} {so : Nat → Int32} {ti : Int64} {pu : Nat → Int32} {np : Int32} {x0 x1 x2 r1 r2 : Int32} {u1 : TT}
theorem E_poke {u2 : Nat → Int32} (hn : n ≤ 4096) (hn1 : 16 ≤ n) (hR : Rel n σ pcs lv cs x b cl cm so ti pu np) (h1 : sp_TwinHart_poke n x0 x1 σ = (r1, u1)) (h2 : sp_Model_poke n x0 x1 b = (r2, u2)) : r1 = r2 ∧ Rel n u1 pcs lv cs x u2 cl cm so ti pu np := by
  unfold sp_TwinHart_poke at h1
  unfold sp_Model_poke at h2
  dsimp only at h2
  rcases has_in (n := n) (x0 := x0) (M := σ.1) hn with ⟨i, hi, rfl, q1, q2, q3⟩ | ⟨q1, q2⟩
  · rw [if_neg q1] at h1
    rw [if_neg q2, if_pos q3, nI4] at h2
    obtain ⟨rfl, rfl⟩ := Prod.mk.inj h1
    obtain ⟨rfl, rfl⟩ := Prod.mk.inj h2
    refine ⟨rfl, ⟨?_, hR.1.2⟩, hR.2⟩
    intro i2 hi2 j hj
    rw [sb_4 x1 (by omega) i2 j hj]
    show _ = byt (upd σ.1.2.1 (nI i).toNatClampNeg x1 i2) j
    rw [nI_clamp (by omega)]
    by_cases e : i2 = i
    · rw [if_pos e, e, pk_us]
    · rw [if_neg e, pk_un e]; exact hR.1.1 i2 hi2 j hj
  · rw [if_pos q1] at h1
    have h3 : (0, b) = (r2, u2) := by
      rcases q2 with q2 | q2
      · rw [if_pos q2] at h2; exact h2
      · by_cases q4 : x0 < 0
        · rw [if_pos q4] at h2; exact h2
        · rw [if_neg q4, if_neg q2] at h2; exact h2
    obtain ⟨rfl, rfl⟩ := Prod.mk.inj h1
    obtain ⟨rfl, rfl⟩ := Prod.mk.inj h3
    exact ⟨rfl, hR⟩
theorem E_peek (hn : n ≤ 4096) (hR : Rel n σ pcs lv cs x b cl cm so ti pu np) (h1 : sp_TwinHart_peek n x0 σ = r1) (h2 : sp_Model_peek n x0 b = r2) : r1 = r2 := by
  subst h1; subst h2
  unfold sp_TwinHart_peek sp_Model_peek
  rcases has_in (n := n) (x0 := x0) (M := σ.1) hn with ⟨i, hi, rfl, q1, q2, q3⟩ | ⟨q1, q2⟩
  · rw [if_neg q1, if_neg q2, if_pos q3, nI4, rw_at (by omega) (hR.1.1 i hi), nI_clamp (by omega)]
  · rw [if_pos q1]
    rcases q2 with q2 | q2
    · rw [if_pos q2]
    · by_cases q4 : x0 < 0
      · rw [if_pos q4]
      · rw [if_neg q4, if_neg q2]
theorem E_tick {u2 : Int64} (hR : Rel n σ pcs lv cs x b cl cm so ti pu np) (h1 : sp_TwinHart_tick n σ = u1) (h2 : sp_Model_tick ti = u2) : Rel n u1 pcs lv cs x b cl cm so u2 pu np := by
  subst h1; subst h2
  unfold sp_TwinHart_tick sp_Model_tick sp_Clint_advance
  dsimp only
  obtain ⟨⟨m1, m2, ⟨a1, a2, a3, a4, a5, a6, a7⟩, m4⟩, hh⟩ := hR
  by_cases h : σ.1.1 6 + 1 = 0
  · rw [if_pos h]
    refine ⟨⟨m1, m2, ⟨?_, ?_, ?_, ?_, ?_, ?_, ?_⟩, m4⟩, hh⟩
    · exact a1
    · exact a2
    · rw [a3, cb_inc0 h]; rfl
    · exact a4
    · exact a5
    · exact a6
    · exact a7
  · rw [if_neg h]
    refine ⟨⟨m1, m2, ⟨?_, ?_, ?_, ?_, ?_, ?_, ?_⟩, m4⟩, hh⟩
    · exact a1
    · exact a2
    · rw [a3, cb_inc h]; rfl
    · exact a4
    · exact a5
    · exact a6
    · exact a7
theorem isReg_in {x1 : Int32} : (∃ j, j < 32 ∧ x1 = nI j ∧ ¬ sp_TwinHart_isRegister x1 = 0 ∧ ¬ x1 < 0 ∧ ¬ 32 ≤ x1) ∨ (sp_TwinHart_isRegister x1 = 0 ∧ (x1 < 0 ∨ 32 ≤ x1)) := by
  unfold sp_TwinHart_isRegister
  by_cases h1 : x1 < 0
  · right; rw [if_pos h1]; exact ⟨rfl, Or.inl h1⟩
  · by_cases h2 : 32 ≤ x1
    · right; rw [if_neg h1, if_pos h2]; exact ⟨rfl, Or.inr h2⟩
    · left
      rw [if_neg h1, if_neg h2]
      obtain ⟨j, hj, rfl⟩ := vp_in_of (vp_32 h1 h2) (by decide)
      exact ⟨j, hj, rfl, by decide, h1, h2⟩
theorem xi_0 {j : Nat} (h : j < 32) : (32 * 0 + nI j).toNatClampNeg = 32 * 0 + j := by
  show (nI 32 * nI 0 + nI j).toNatClampNeg = _
  rw [pk_mul, nI_add, nI_clamp (by omega)]
theorem xi_1 {j : Nat} (h : j < 32) : (32 * 1 + nI j).toNatClampNeg = 32 * 1 + j := by
  show (nI 32 * nI 1 + nI j).toNatClampNeg = _
  rw [pk_mul, nI_add, nI_clamp (by omega)]
theorem E_register (hn : n ≤ 4096) (hR : Rel n σ pcs lv cs x b cl cm so ti pu np) (h1 : sp_TwinHart_register n x0 x1 σ = r1) (h2 : sp_Model_register x0 x1 x = r2) : r1 = r2 := by
  subst h1; subst h2
  unfold sp_TwinHart_register sp_Model_register
  by_cases e0 : x0 = 0
  · subst e0
    rw [if_pos rfl, if_neg ih_0]
    rcases isReg_in (x1 := x1) with ⟨j, hj, rfl, q1, q2, q3⟩ | ⟨q1, q2⟩
    · rw [if_neg q1, if_neg q2, if_neg q3, xi_0 hj, nI_clamp (by omega)]; exact (hR.2.1.1 j hj).symm
    · rw [if_pos q1]
      rcases q2 with q2 | q2
      · rw [if_pos q2]
      · by_cases q4 : x1 < 0
        · rw [if_pos q4]
        · rw [if_neg q4, if_pos q2]
  · rw [if_neg e0]
    by_cases e1 : x0 = 1
    · subst e1
      rw [if_pos rfl, if_neg ih_1]
      rcases isReg_in (x1 := x1) with ⟨j, hj, rfl, q1, q2, q3⟩ | ⟨q1, q2⟩
      · rw [if_neg q1, if_neg q2, if_neg q3, xi_1 hj, nI_clamp (by omega)]; exact (hR.2.2.1 j hj).symm
      · rw [if_pos q1]
        rcases q2 with q2 | q2
        · rw [if_pos q2]
        · by_cases q4 : x1 < 0
          · rw [if_pos q4]
          · rw [if_neg q4, if_pos q2]
    · rw [if_neg e1, if_pos (ih_no e0 e1)]
theorem E_pc (hn : n ≤ 4096) (hR : Rel n σ pcs lv cs x b cl cm so ti pu np) (h1 : sp_TwinHart_pc n x0 σ = r1) (h2 : sp_Model_pc x0 pcs = r2) : r1 = r2 := by
  subst h1; subst h2
  unfold sp_TwinHart_pc sp_Model_pc
  by_cases e0 : x0 = 0
  · subst e0; rw [if_pos rfl, if_neg ih_0]; exact hR.2.1.2.1.symm
  · rw [if_neg e0]
    by_cases e1 : x0 = 1
    · subst e1; rw [if_pos rfl, if_neg ih_1]; exact hR.2.2.2.1.symm
    · rw [if_neg e1, if_pos (ih_no e0 e1)]
theorem E_level (hn : n ≤ 4096) (hR : Rel n σ pcs lv cs x b cl cm so ti pu np) (h1 : sp_TwinHart_level n x0 σ = r1) (h2 : sp_Model_level x0 lv = r2) : r1 = r2 := by
  subst h1; subst h2
  unfold sp_TwinHart_level sp_Model_level
  by_cases e0 : x0 = 0
  · subst e0; rw [if_pos rfl, if_neg ih_0]; exact hR.2.1.2.2.1.symm
  · rw [if_neg e0]
    by_cases e1 : x0 = 1
    · subst e1; rw [if_pos rfl, if_neg ih_1]; exact hR.2.2.2.2.1.symm
    · rw [if_neg e1, if_pos (ih_no e0 e1)]
theorem E_size (hn : n ≤ 4096) (hR : Rel n σ pcs lv cs x b cl cm so ti pu np) (h1 : sp_TwinHart_size n σ = r1) (h2 : sp_Model_size np = r2) : r1 = r2 := by
  subst h1; subst h2
  exact hR.1.2.2.2.1.symm
theorem E_out (hn : n ≤ 4096) (hR : Rel n σ pcs lv cs x b cl cm so ti pu np) (h1 : sp_TwinHart_out n x0 σ = r1) (h2 : sp_Model_out x0 pu np = r2) : r1 = r2 := by
  subst h1; subst h2
  unfold sp_TwinHart_out sp_Model_out
  rw [hR.1.2.2.2.1]
  by_cases h : x0 < 0
  · rw [if_pos h, if_pos h]
  · rw [if_neg h, if_neg h]
    by_cases h2 : σ.1.2.2.2.1 ≤ x0
    · rw [if_pos h2, if_pos h2]
    · rw [if_neg h2, if_neg h2]
      refine (hR.1.2.2.2.2.2 _ ?_).symm
      obtain ⟨i, hi, rfl⟩ := nI_of h
      have hp := hR.1.2.2.2.2.1
      have h0 : ¬ σ.1.2.2.2.1 < 0 := by
        have := hp.1
        rw [Int32.le_iff_toInt_le] at this
        rw [Int32.lt_iff_toInt_lt]
        omega
      obtain ⟨k, hk, e⟩ := nI_of h0
      rw [e] at h2 ⊢
      rw [nI_leI hk hi] at h2
      rw [nI_clamp hi, nI_clamp hk]
      omega
theorem E_set {u2 : Nat → Int32} (hn : n ≤ 4096) (hn1 : 16 ≤ n) (hR : Rel n σ pcs lv cs x b cl cm so ti pu np) (h1 : sp_TwinHart_set n x0 x1 x2 σ = (r1, u1)) (h2 : sp_Model_set x0 x1 x2 x = (r2, u2)) : r1 = r2 ∧ Rel n u1 pcs lv cs u2 b cl cm so ti pu np := by
  unfold sp_TwinHart_set at h1
  unfold sp_Model_set at h2
  have no : sp_TwinHart_isRegister x1 = 0 ∨ x1 = 0 → ¬ sp_Model_isHart x0 = 0 → (0, x) = (r2, u2) := by
    intro q qh
    rw [if_neg qh] at h2
    by_cases c1 : x1 < 1
    · rw [if_pos c1] at h2; exact h2
    · rw [if_neg c1] at h2
      by_cases c2 : x1 ≤ 31
      · exfalso
        rw [Int32.lt_iff_toInt_lt] at c1
        rw [Int32.le_iff_toInt_le] at c2
        have t1 : (1 : Int32).toInt = 1 := rfl
        have t31 : (31 : Int32).toInt = 31 := rfl
        have t0 : (0 : Int32).toInt = 0 := rfl
        have t32 : (32 : Int32).toInt = 32 := rfl
        rcases q with q | q
        · rcases isReg_in (x1 := x1) with ⟨j, hj, -, q1, -⟩ | ⟨-, q2⟩
          · exact q1 q
          · rcases q2 with q2 | q2
            · rw [Int32.lt_iff_toInt_lt] at q2; omega
            · rw [Int32.le_iff_toInt_le] at q2; omega
        · rw [q] at c1; omega
      · rw [if_neg c2] at h2; exact h2
  have yes : ∀ j : Nat, j < 32 → x1 = nI j → ¬ x1 = 0 → ¬ x1 < 1 ∧ x1 ≤ 31 ∧ 0 < j := by
    intro j hj e q
    subst e
    have hj0 : 0 < j := by
      rcases Nat.eq_zero_or_pos j with q2 | q2
      · exact absurd (by rw [q2]; rfl) q
      · exact q2
    refine ⟨?_, ?_, hj0⟩
    · show ¬ nI j < nI 1
      rw [nI_ltI (by omega) (by decide)]; omega
    · show nI j ≤ nI 31
      rw [nI_leI (by omega) (by decide)]; omega
  by_cases e0 : x0 = 0
  · subst e0
    rw [if_pos rfl] at h1
    by_cases q1 : sp_TwinHart_isRegister x1 = 0
    · rw [if_pos q1] at h1
      have h3 := no (Or.inl q1) ih_0
      obtain ⟨rfl, rfl⟩ := Prod.mk.inj h1
      obtain ⟨rfl, rfl⟩ := Prod.mk.inj h3
      exact ⟨rfl, hR⟩
    · rw [if_neg q1] at h1
      by_cases q2 : x1 = 0
      · rw [if_pos q2] at h1
        have h3 := no (Or.inr q2) ih_0
        obtain ⟨rfl, rfl⟩ := Prod.mk.inj h1
        obtain ⟨rfl, rfl⟩ := Prod.mk.inj h3
        exact ⟨rfl, hR⟩
      · rw [if_neg q2] at h1
        rcases isReg_in (x1 := x1) with ⟨j, hj, e, -, -⟩ | ⟨q3, -⟩
        · obtain ⟨c1, c2, hj0⟩ := yes j hj e q2
          rw [if_neg ih_0, if_neg c1, if_pos c2] at h2
          obtain ⟨rfl, rfl⟩ := Prod.mk.inj h1
          obtain ⟨rfl, rfl⟩ := Prod.mk.inj h2
          subst e
          refine ⟨rfl, hR.1, ⟨?_, hR.2.1.2⟩, ⟨?_, hR.2.2.2⟩⟩
          · intro i hi
            rw [xi_0 hj]
            show upd x (32 * 0 + j) x2 (32 * 0 + i) = upd σ.2.1.1 (nI j).toNatClampNeg x2 i
            rw [nI_clamp (by omega)]
            by_cases e : i = j
            · rw [e, pk_us, pk_us]
            · rw [pk_un (by omega), pk_un e]; exact hR.2.1.1 i hi
          · intro i hi
            rw [xi_0 hj, pk_un (by omega)]; exact hR.2.2.1 i hi
        · exact absurd q3 q1
  · rw [if_neg e0] at h1
    by_cases e1 : x0 = 1
    · subst e1
      rw [if_pos rfl] at h1
      by_cases q1 : sp_TwinHart_isRegister x1 = 0
      · rw [if_pos q1] at h1
        have h3 := no (Or.inl q1) ih_1
        obtain ⟨rfl, rfl⟩ := Prod.mk.inj h1
        obtain ⟨rfl, rfl⟩ := Prod.mk.inj h3
        exact ⟨rfl, hR⟩
      · rw [if_neg q1] at h1
        by_cases q2 : x1 = 0
        · rw [if_pos q2] at h1
          have h3 := no (Or.inr q2) ih_1
          obtain ⟨rfl, rfl⟩ := Prod.mk.inj h1
          obtain ⟨rfl, rfl⟩ := Prod.mk.inj h3
          exact ⟨rfl, hR⟩
        · rw [if_neg q2] at h1
          rcases isReg_in (x1 := x1) with ⟨j, hj, e, -, -⟩ | ⟨q3, -⟩
          · obtain ⟨c1, c2, hj0⟩ := yes j hj e q2
            rw [if_neg ih_1, if_neg c1, if_pos c2] at h2
            obtain ⟨rfl, rfl⟩ := Prod.mk.inj h1
            obtain ⟨rfl, rfl⟩ := Prod.mk.inj h2
            subst e
            refine ⟨rfl, hR.1, ⟨?_, hR.2.1.2⟩, ⟨?_, hR.2.2.2⟩⟩
            · intro i hi
              rw [xi_1 hj, pk_un (by omega)]; exact hR.2.1.1 i hi
            · intro i hi
              rw [xi_1 hj]
              show upd x (32 * 1 + j) x2 (32 * 1 + i) = upd σ.2.2.1 (nI j).toNatClampNeg x2 i
              rw [nI_clamp (by omega)]
              by_cases e : i = j
              · rw [e, pk_us, pk_us]
              · rw [pk_un (by omega), pk_un e]; exact hR.2.2.1 i hi
          · exact absurd q3 q1
    · rw [if_neg e1] at h1
      rw [if_pos (ih_no e0 e1)] at h2
      obtain ⟨rfl, rfl⟩ := Prod.mk.inj h1
      obtain ⟨rfl, rfl⟩ := Prod.mk.inj h2
      exact ⟨rfl, hR⟩
end Easy
