-- ===== single bits, and the interrupt that is due =====
theorem bp_one : ∀ i, i < 32 → ∀ j, j < 32 → bt (nI (2 ^ i)) j = decide (i = j) := by decide +kernel
theorem b_pow (a : Int32) {i : Nat} (hi : i < 32) : (a &&& nI (2 ^ i)) = 0 ↔ bt a i = false := by
  constructor
  · intro h
    have a1 := congrArg (fun z => bt z i) h
    simp only [b_and, b_0] at a1
    rw [bp_one i hi i hi, decide_eq_true rfl, Bool.and_true] at a1
    exact a1
  · intro h
    apply b_ext
    intro j hj
    rw [b_and, b_0, bp_one i hi j hj]
    by_cases e : i = j
    · rw [← e, h, Bool.false_and]
    · rw [decide_eq_false e, Bool.and_false]
theorem bf_0 (a : Int32) : (a &&& 1) = 0 ↔ bt a 0 = false := b_pow a (i := 0) (by decide)
theorem bf_1 (a : Int32) : (a &&& 2) = 0 ↔ bt a 1 = false := b_pow a (i := 1) (by decide)
theorem bf_2 (a : Int32) : (a &&& 4) = 0 ↔ bt a 2 = false := b_pow a (i := 2) (by decide)
theorem bf_3 (a : Int32) : (a &&& 8) = 0 ↔ bt a 3 = false := b_pow a (i := 3) (by decide)
theorem bf_4 (a : Int32) : (a &&& 16) = 0 ↔ bt a 4 = false := b_pow a (i := 4) (by decide)
theorem bf_5 (a : Int32) : (a &&& 32) = 0 ↔ bt a 5 = false := b_pow a (i := 5) (by decide)
theorem bf_6 (a : Int32) : (a &&& 64) = 0 ↔ bt a 6 = false := b_pow a (i := 6) (by decide)
theorem bf_7 (a : Int32) : (a &&& 128) = 0 ↔ bt a 7 = false := b_pow a (i := 7) (by decide)
theorem bf_8 (a : Int32) : (a &&& 256) = 0 ↔ bt a 8 = false := b_pow a (i := 8) (by decide)
theorem bf_9 (a : Int32) : (a &&& 512) = 0 ↔ bt a 9 = false := b_pow a (i := 9) (by decide)
theorem bf_17 (a : Int32) : (a &&& 131072) = 0 ↔ bt a 17 = false := b_pow a (i := 17) (by decide)
theorem bf_18 (a : Int32) : (a &&& 262144) = 0 ↔ bt a 18 = false := b_pow a (i := 18) (by decide)
theorem bf_19 (a : Int32) : (a &&& 524288) = 0 ↔ bt a 19 = false := b_pow a (i := 19) (by decide)
theorem sb1 (a : Int32) {k : Nat} (hk : k < 32) : ((shr a (nI k)) &&& 1) = 0 ↔ bt a k = false := by
  rw [bf_0, bsr k hk a 0, decide_eq_true (by decide), Bool.true_and, if_pos (by omega), Nat.add_zero]
theorem s1_1 (a : Int32) : ((shr a 1) &&& 1) = 0 ↔ bt a 1 = false := sb1 a (k := 1) (by decide)
theorem s1_3 (a : Int32) : ((shr a 3) &&& 1) = 0 ↔ bt a 3 = false := sb1 a (k := 3) (by decide)
theorem s1_5 (a : Int32) : ((shr a 5) &&& 1) = 0 ↔ bt a 5 = false := sb1 a (k := 5) (by decide)
theorem s1_7 (a : Int32) : ((shr a 7) &&& 1) = 0 ↔ bt a 7 = false := sb1 a (k := 7) (by decide)
theorem s1_9 (a : Int32) : ((shr a 9) &&& 1) = 0 ↔ bt a 9 = false := sb1 a (k := 9) (by decide)
theorem fo_eq (z : Int32) : sp_Csrs_firstOf z = sp_Model_firstOf z := by
  unfold sp_Csrs_firstOf sp_Model_firstOf
  simp only [s1_1, s1_3, s1_5, s1_7, s1_9, bf_1, bf_3, bf_5, bf_7, bf_9]
/-- what a set with these bits alone gives -/
theorem fo_cases {z : Int32} (h : z &&& (-683) = 0) : (z = 0 ∧ sp_Model_firstOf z = -1) ∨ (¬ z = 0 ∧ ∃ k, (k = 1 ∨ k = 3 ∨ k = 5 ∨ k = 7 ∨ k = 9) ∧ sp_Model_firstOf z = nI k ∧ bt z k = true) := by
  by_cases e : z = 0
  · left; rw [e]; exact ⟨rfl, by decide⟩
  · right
    refine ⟨e, ?_⟩
    unfold sp_Model_firstOf
    simp only [bf_1, bf_3, bf_5, bf_7, bf_9]
    by_cases h3 : bt z 3 = false
    · rw [if_pos h3]
      by_cases h7 : bt z 7 = false
      · rw [if_pos h7]
        by_cases h9 : bt z 9 = false
        · rw [if_pos h9]
          by_cases h1 : bt z 1 = false
          · rw [if_pos h1]
            by_cases h5 : bt z 5 = false
            · exfalso
              apply e
              have hb : ∀ i, i < 32 → (i = 1 ∨ i = 3 ∨ i = 5 ∨ i = 7 ∨ i = 9) ∨ bt (-683) i = true := by decide +kernel
              apply b_ext
              intro i hi
              rw [b_0]
              rcases hb i hi with q | q
              · rcases q with rfl | rfl | rfl | rfl | rfl <;> assumption
              · have a1 := congrArg (fun z => bt z i) h
                simp only [b_and, b_0, q, Bool.and_true] at a1
                exact a1
            · rw [if_neg h5]; exact ⟨5, by omega, rfl, by simpa using h5⟩
          · rw [if_neg h1]; exact ⟨1, by omega, rfl, by simpa using h1⟩
        · rw [if_neg h9]; exact ⟨9, by omega, rfl, by simpa using h9⟩
      · rw [if_neg h7]; exact ⟨7, by omega, rfl, by simpa using h7⟩
    · rw [if_neg h3]; exact ⟨3, by omega, rfl, by simpa using h3⟩
theorem k5_neg {k : Nat} (hk : k = 1 ∨ k = 3 ∨ k = 5 ∨ k = 7 ∨ k = 9) : ¬ nI k < 0 ∧ ¬ nI k = -1 ∧ k < 32 ∧ ¬ (64 + nI k) = 0 ∧ (-2147483648) ||| nI k = nI k ||| (-2147483648) := by
  rcases hk with rfl | rfl | rfl | rfl | rfl <;> decide
theorem hd_in {z q3 q : Int32} {k : Nat} {f : Nat → Int32} (hf : f 3 = q3) (hk : k < 32) (h : bt (z &&& q3) k = true) : sp_Csrs_handsDownInterrupt (nI k) f = 1 := by
  unfold sp_Csrs_handsDownInterrupt
  rw [hf, if_neg]
  rw [sb1 q3 hk]
  rw [b_and] at h
  intro e
  rw [e, Bool.and_false] at h
  exact absurd h (by decide)
theorem hd_out {z q3 : Int32} {k : Nat} {f : Nat → Int32} (hf : f 3 = q3) (hk : k < 32) (h : bt (z &&& (q3 ^^^ (-1))) k = true) : sp_Csrs_handsDownInterrupt (nI k) f = 0 := by
  unfold sp_Csrs_handsDownInterrupt
  rw [hf, if_pos]
  rw [sb1 q3 hk]
  rw [b_and, b_xor, b_m1 k hk] at h
  revert h
  cases bt q3 k <;> cases bt z k <;> simp
theorem lines_bits (id : Int32) (w : Nat → Int32) : sp_Clint_lines id w &&& (-137) = 0 := by
  unfold sp_Clint_lines
  split <;> split <;> decide
theorem and_sub {x m k : Int32} (h : x &&& m = 0) (hk : m &&& k = k) : x &&& k = 0 := by
  rw [← hk, ← Int32.and_assoc, h, Int32.zero_and]
theorem and_l {x m : Int32} (h : x &&& m = 0) (y : Int32) : (y &&& x) &&& m = 0 := by
  rw [Int32.and_assoc, h, Int32.and_zero]
theorem m1n : (-1 : Int32) < 0 := by decide
def dueR (id : Nat) (q pcs lv cs cl : Nat → Int32) (d : Int32) (R : Int32 × (Nat → Int32) × (Nat → Int32) × (Nat → Int32) × (Nat → Int32)) : Prop :=
  (d = -1 ∧ R = (-1, pcs, lv, cs, cl)) ∨ ∃ k hd, (k = 1 ∨ k = 3 ∨ k = 5 ∨ k = 7 ∨ k = 9) ∧ (hd = 0 ∨ hd = 1) ∧ d = nI k ∧ sp_Csrs_handsDownInterrupt d q = hd ∧ R = (nI k, sp_Model_take (nI k ||| (-2147483648)) 0 hd (nI id) pcs lv cs cl)
theorem int_eq {n id : Nat} (hid : id = 0 ∨ id = 1) {M : TM} {s : HS} {pcs lv cs x b cl : Nat → Int32} {cm : Nat → Int64} {so : Nat → Int32} {ti : Int64} {pu : Nat → Int32} {np : Int32} (hM : MemR n M b cl cm so ti pu np) (hH : HartR id s pcs lv cs x) (cl2 : Nat → Int32) :
    dueR id s.2.2.2.2 pcs lv cs cl2 (sp_Csrs_dueInterrupt s.2.2.1 (sp_Clint_lines (nI id) M.1) s.2.2.2.2) (sp_Model_interrupt (nI id) pcs lv cs cl2 cm so ti) := by
  obtain ⟨f, pc, l, tv, q⟩ := s
  obtain ⟨h1, h2, h3, hC, hO, h6, h7⟩ := hH
  dsimp only at h1 h2 h3 hC hO h6 h7 ⊢
  have r836 : sp_Model_read (nI id) 836 cs cm so ti = q 10 ||| sp_Clint_lines (nI id) M.1 := (read_eq hid hM hC (N := 836) (by decide)).symm
  have r772 : sp_Model_raw (nI id) 772 cs = q 4 := (raw_at cs hid (N := 772) (by decide)).trans (hC.2.1 (772, 4) (by decide))
  have r771 : sp_Model_raw (nI id) 771 cs = q 3 := (raw_at cs hid (N := 771) (by decide)).trans (hC.2.1 (771, 3) (by decide))
  have r768 : sp_Model_raw (nI id) 768 cs = q 1 := (raw_at cs hid (N := 768) (by decide)).trans (hC.2.1 (768, 1) (by decide))
  have hl : lv (nI id).toNatClampNeg = l := by rw [nid hid]; exact h3
  have e8 : sp_Model_has 8 (nI id) cs = sp_Csrs_has 8 q := by unfold sp_Model_has sp_Csrs_has; rw [r768]
  have e2 : sp_Model_has 2 (nI id) cs = sp_Csrs_has 2 q := by unfold sp_Model_has sp_Csrs_has; rw [r768]
  unfold sp_Model_interrupt
  rw [r836, r772, r771, hl, e8, e2]
  unfold sp_Csrs_dueInterrupt
  obtain ⟨a1, a1', a2, a3, a4, a5, a6, a10, a11, a12, a16⟩ := hO
  have hP : ((q 10 ||| sp_Clint_lines (nI id) M.1) &&& q 4) &&& (-683) = 0 :=
    and_and0 (or_and0 (and_sub a10 (by decide)) (and_sub (lines_bits _ _) (by decide))) _
  generalize (q 10 ||| sp_Clint_lines (nI id) M.1) &&& q 4 = P at hP
  have hK := fo_cases (z := P &&& (q 3 ^^^ (-1))) (and_and0 hP _)
  have hD := fo_cases (z := P &&& q 3) (and_and0 hP _)
  simp only [fo_eq]
  -- the way of those that are handed down
  have down : dueR id q pcs lv cs cl2 (if (P &&& q 3) = 0 then (-1) else if l < 1 then sp_Model_firstOf (P &&& q 3) else if l = 1 then (if sp_Csrs_has 2 q = 0 then (-1) else sp_Model_firstOf (P &&& q 3)) else (-1))
      (if (sp_Model_firstOf (P &&& q 3)) < 0 then ((-1), (pcs, lv, cs, cl2)) else if 1 < l then ((-1), (pcs, lv, cs, cl2)) else if l = 1 then (if sp_Csrs_has 2 q = 0 then ((-1), (pcs, lv, cs, cl2)) else (sp_Model_firstOf (P &&& q 3), sp_Model_take (sp_Model_firstOf (P &&& q 3) ||| (-2147483648)) 0 1 (nI id) pcs lv cs cl2)) else (sp_Model_firstOf (P &&& q 3), sp_Model_take (sp_Model_firstOf (P &&& q 3) ||| (-2147483648)) 0 1 (nI id) pcs lv cs cl2)) := by
    rcases hD with ⟨z0, zf⟩ | ⟨z0, k, hk, zf, zb⟩
    · rw [if_pos z0, zf, if_pos m1n]; exact Or.inl ⟨rfl, rfl⟩
    · obtain ⟨k1, k2, k3, -⟩ := k5_neg hk
      have yes : dueR id q pcs lv cs cl2 (nI k) (nI k, sp_Model_take (nI k ||| (-2147483648)) 0 1 (nI id) pcs lv cs cl2) := Or.inr ⟨k, 1, hk, Or.inr rfl, rfl, hd_in (q := 0) rfl k3 zb, rfl⟩
      rw [if_neg z0, zf, if_neg k1]
      rcases h7 with e | e | e
      · rw [e, if_pos (show (0 : Int32) < 1 by decide), if_neg (show ¬ (1 : Int32) < 0 by decide), if_neg (show ¬ (0 : Int32) = 1 by decide)]; exact yes
      · rw [e, if_neg (show ¬ (1 : Int32) < 1 by decide), if_neg (show ¬ (1 : Int32) < 1 by decide), if_pos (show (1 : Int32) = 1 from rfl), if_pos (show (1 : Int32) = 1 from rfl)]
        by_cases c : sp_Csrs_has 2 q = 0
        · rw [if_pos c, if_pos c]; exact Or.inl ⟨rfl, rfl⟩
        · rw [if_neg c, if_neg c]; exact yes
      · rw [e, if_neg (show ¬ (3 : Int32) < 1 by decide), if_neg (show ¬ (3 : Int32) = 1 by decide), if_pos (show (1 : Int32) < 3 by decide)]; exact Or.inl ⟨rfl, rfl⟩
  rcases hK with ⟨z0, zf⟩ | ⟨z0, k, hk, zf, zb⟩
  · rw [if_pos z0, zf, if_pos m1n]; exact down
  · obtain ⟨k1, k2, k3, -⟩ := k5_neg hk
    have yes : dueR id q pcs lv cs cl2 (nI k) (nI k, sp_Model_take (nI k ||| (-2147483648)) 0 0 (nI id) pcs lv cs cl2) := Or.inr ⟨k, 0, hk, Or.inl rfl, rfl, hd_out rfl k3 zb, rfl⟩
    rw [if_neg z0, zf, if_neg k1]
    by_cases c3 : l < 3
    · rw [if_pos c3, if_pos c3]; exact yes
    · rw [if_neg c3, if_neg c3]
      by_cases c : sp_Csrs_has 8 q = 0
      · rw [if_pos c, if_pos c]; exact down
      · rw [if_neg c, if_neg c]; exact yes
