-- ===== claims and changes of a word =====
theorem u0_m1 (w : Int32) : (ush w 0) &&& (-1) = w := by
  apply b_ext
  intro i hi
  rcases lt32 hi with rfl | rfl | rfl | rfl | rfl | rfl | rfl | rfl | rfl | rfl | rfl | rfl | rfl | rfl | rfl | rfl | rfl | rfl | rfl | rfl | rfl | rfl | rfl | rfl | rfl | rfl | rfl | rfl | rfl | rfl | rfl | rfl <;> simp [b_or, b_and, b_xor, b_i8, b_i16, bc_m1, bsl_0, bus_0, bsr_0, bsl_1, bus_1, bsr_1, bsl_2, bus_2, bsr_2, bsl_3, bus_3, bsr_3, bsl_4, bus_4, bsr_4, bsl_5, bus_5, bsr_5, bsl_6, bus_6, bsr_6, bsl_7, bus_7, bsr_7, bsl_8, bus_8, bsr_8, bsl_9, bus_9, bsr_9, bsl_10, bus_10, bsr_10, bsl_11, bus_11, bsr_11, bsl_12, bus_12, bsr_12, bsl_13, bus_13, bsr_13, bsl_14, bus_14, bsr_14, bsl_15, bus_15, bsr_15, bsl_16, bus_16, bsr_16, bsl_17, bus_17, bsr_17, bsl_18, bus_18, bsr_18, bsl_19, bus_19, bsr_19, bsl_20, bus_20, bsr_20, bsl_21, bus_21, bsr_21, bsl_22, bus_22, bsr_22, bsl_23, bus_23, bsr_23, bsl_24, bus_24, bsr_24, bsl_25, bus_25, bsr_25, bsl_26, bus_26, bsr_26, bsl_27, bus_27, bsr_27, bsl_28, bus_28, bsr_28, bsl_29, bus_29, bsr_29, bsl_30, bus_30, bsr_30, bsl_31, bus_31, bsr_31]
theorem ch_eq {k : Nat} (hk : k = 0 ∨ k = 1 ∨ k = 4 ∨ k = 8 ∨ k = 12 ∨ k = 16 ∨ k = 20 ∨ k = 24 ∨ k = 28) (a b : Int32) : sp_Alu_changed (nI k) a b = sp_Model_changed (nI k) a b := by
  have bb : sp_Alu_below a b = sp_Model_below a b := rfl
  unfold sp_Alu_changed sp_Model_changed
  rw [bb]
  have mn : (if b < a then b else a) = (if b ≤ a then b else a) := by
    by_cases c : b < a
    · rw [if_pos c, if_pos (Int32.le_of_lt c)]
    · rw [if_neg c]
      by_cases d : b ≤ a
      · rw [if_pos d]; exact Int32.le_antisymm (Int32.not_lt.mp c) d
      · rw [if_neg d]
  have mx : (if a < b then b else a) = (if a ≤ b then b else a) := by
    by_cases c : a < b
    · rw [if_pos c, if_pos (Int32.le_of_lt c)]
    · rw [if_neg c]
      by_cases d : a ≤ b
      · rw [if_pos d]; exact Int32.le_antisymm d (Int32.not_lt.mp c)
      · rw [if_neg d]
  rw [mn, mx]
  rcases hk with rfl | rfl | rfl | rfl | rfl | rfl | rfl | rfl | rfl <;> simp (decide := true) only [↓reduceIte]
section Amo
variable {n id : Nat} {M : TM} {f q pcs lv cs x b cl : Nat → Int32} {cm : Nat → Int64} {so : Nat → Int32} {ti : Int64} {pu : Nat → Int32} {np : Int32} {pc l t tv nx w : Int32}
theorem ld_word {j : Nat} (hn : n ≤ 4096) (hM : MemR n M b cl cm so ti pu np) (hj : j < n) : sp_Memory_load n (lN (2147483648 + 4 * j)) 4 M = sp_Model_ramWord (nI (4 * j)) b := by
  rw [ml_at hn (by omega), mk_4, word_eq hn hM (by omega) (by omega), show 4 * j % 4 = 0 from by omega]
  exact u0_m1 _
theorem cl_iff {j : Nat} {a : Int64} {c : Int32} (hn : n ≤ 4096) (h : ClR n a c) (hj : j < n) : a = lN (2147483648 + 4 * j) ↔ c = nI (4 * j) := by
  rcases h with ⟨rfl, rfl⟩ | ⟨k, hk, rfl, rfl⟩
  · constructor
    · intro z
      exfalso
      have := (lN_nn (k := 2147483648 + 4 * j) (by omega)).1
      rw [← z] at this
      exact neg1l this
    · intro z
      exfalso
      have := nI_pos' (n := 4 * j) (by omega)
      rw [← z] at this
      exact neg1i this
  · rw [pk_lEQ (by omega) (by omega), nI_eq (by omega) (by omega)]
    omega
theorem cl2_ok (hid : id = 0 ∨ id = 1) (cl : Nat → Int32) : (upd (upd cl (nI id).toNatClampNeg (-1)) (1 - nI id).toNatClampNeg (-1)) 0 = -1 ∧ (upd (upd cl (nI id).toNatClampNeg (-1)) (1 - nI id).toNatClampNeg (-1)) 1 = -1 := by
  rcases hid with rfl | rfl <;> exact ⟨rfl, rfl⟩
theorem MemR_cl {a2 : Int64} {c2 : Int32} (hid : id = 0 ∨ id = 1) (hM : MemR n M b cl cm so ti pu np) (h : ClR n a2 c2) : MemR n (M.1, M.2.1, M.2.2.1, M.2.2.2.1, vp_updL M.2.2.2.2 (nI id).toNatClampNeg a2) b (upd cl (nI id).toNatClampNeg c2) cm so ti pu np := by
  refine ⟨hM.1, ?_, hM.2.2⟩
  rw [nid hid]
  rcases hid with rfl | rfl
  · exact ⟨h, hM.2.1.2⟩
  · exact ⟨hM.2.1.1, h⟩
theorem k32 {k : Nat} (h : k < 32) : k = 0 ∨ k = 1 ∨ k = 2 ∨ k = 3 ∨ k = 4 ∨ k = 5 ∨ k = 6 ∨ k = 7 ∨ k = 8 ∨ k = 9 ∨ k = 10 ∨ k = 11 ∨ k = 12 ∨ k = 13 ∨ k = 14 ∨ k = 15 ∨ k = 16 ∨ k = 17 ∨ k = 18 ∨ k = 19 ∨ k = 20 ∨ k = 21 ∨ k = 22 ∨ k = 23 ∨ k = 24 ∨ k = 25 ∨ k = 26 ∨ k = 27 ∨ k = 28 ∨ k = 29 ∨ k = 30 ∨ k = 31 := by omega

set_option maxHeartbeats 4000000 in
theorem ex_amo (hn : n ≤ 4096) (hid : id = 0 ∨ id = 1) (hM : MemR n M b cl cm so ti pu np) (hH : HartR id (f, pc, l, t, q) pcs lv cs x) {C : Int32 × Int32 × (Nat → Int32) × (Nat → Int32) × (Nat → Int32)} (hC : sp_Model_claims n w (nI id) (-1) tv lv cs x b cl = C) :
    ExR n id (M, f, pc, l, t, q) pcs lv cs x b cl cm so ti pu np (sp_Hart_changeAtOnce n (nI id) w (M, f, pc, l, t, q)) (C.1, C.2.1, pc + 4, lv, cs, C.2.2.1, C.2.2.2.1, C.2.2.2.2, cm, so, ti, pu, np) := by
  have I : ExR n id (M, f, pc, l, t, q) pcs lv cs x b cl cm so ti pu np (sp_Hart_illegal n (nI id) w (M, f, pc, l, t, q)) ((sp_Model_trap 2 w (-1) tv).1, (sp_Model_trap 2 w (-1) tv).2, pc + 4, lv, cs, x, b, cl, cm, so, ti, pu, np) := ExR.ill
  obtain ⟨k, hk, ek⟩ : ∃ k, k < 32 ∧ ush w 27 = nI k := by
    refine ⟨(ush w 27).toBitVec.toNat, tn_ush_lt w (k := 27) (m := 5) (by decide) (by decide), ?_⟩
    apply Int32.toBitVec_inj.mp
    apply BitVec.eq_of_toNat_eq
    have h5 : (ush w 27).toBitVec.toNat < 2 ^ 5 := tn_ush_lt w (k := 27) (m := 5) (by decide) (by decide)
    exact (pk_tn (by omega)).symm
  unfold sp_Model_claims at hC
  unfold sp_Hart_changeAtOnce
  rw [fd_27, fd_f3, fd_rs1, fd_rs2, rg_eq hid hH.1 (vp_rs1 w), rg_eq hid hH.1 (vp_rs2 w), ek] at hC
  rw [ek]
  dsimp only at hC ⊢
  -- the three ways, apart from what stands around them
  have LR : ∀ (P : Int32 × Int32 × (Nat → Int32) × (Nat → Int32) × (Nat → Int32)),
      (if 0 ≤ (sp_Model_claimed n (f (sp_Field_rs1 w).toNatClampNeg) 1 (nI id) (-1) tv lv cs b).1 then ((sp_Model_claimed n (f (sp_Field_rs1 w).toNatClampNeg) 1 (nI id) (-1) tv lv cs b).2.1, (sp_Model_claimed n (f (sp_Field_rs1 w).toNatClampNeg) 1 (nI id) (-1) tv lv cs b).2.2, sp_Model_setReg (sp_Model_field w 7 5) (sp_Model_ramWord (sp_Model_claimed n (f (sp_Field_rs1 w).toNatClampNeg) 1 (nI id) (-1) tv lv cs b).1 b) (nI id) (sp_Model_claimed n (f (sp_Field_rs1 w).toNatClampNeg) 1 (nI id) (-1) tv lv cs b).2.1 x, b, upd cl (nI id).toNatClampNeg (sp_Model_claimed n (f (sp_Field_rs1 w).toNatClampNeg) 1 (nI id) (-1) tv lv cs b).1) else ((sp_Model_claimed n (f (sp_Field_rs1 w).toNatClampNeg) 1 (nI id) (-1) tv lv cs b).2.1, (sp_Model_claimed n (f (sp_Field_rs1 w).toNatClampNeg) 1 (nI id) (-1) tv lv cs b).2.2, x, b, cl)) = P →
      ExR n id (M, f, pc, l, t, q) pcs lv cs x b cl cm so ti pu np (if 0 ≤ sp_Hart_locate n (nI id) (f (sp_Field_rs1 w).toNatClampNeg) 4 3 (M, f, pc, l, t, q) then sp_Hart_finish n (nI id) w (sp_Memory_load n (sp_Hart_locate n (nI id) (f (sp_Field_rs1 w).toNatClampNeg) 4 3 (M, f, pc, l, t, q)) 4 M) (sp_Memory_claim n (nI id) (sp_Hart_locate n (nI id) (f (sp_Field_rs1 w).toNatClampNeg) 4 3 (M, f, pc, l, t, q)) M, f, pc, l, t, q) else sp_Hart_fault n (nI id) (sp_Hart_locate n (nI id) (f (sp_Field_rs1 w).toNatClampNeg) 4 3 (M, f, pc, l, t, q)) (f (sp_Field_rs1 w).toNatClampNeg) (M, f, pc, l, t, q)) (P.1, P.2.1, pc + 4, lv, cs, P.2.2.1, P.2.2.2.1, P.2.2.2.2, cm, so, ti, pu, np) := by
    intro P hP
    subst hP
    rcases claimed_eq (x0 := f (sp_Field_rs1 w).toNatClampNeg) (tv := tv) (Or.inl ⟨rfl, rfl⟩) hn hid hM hH with ⟨c, hc, e1, e2⟩ | ⟨j, hj, e1, e2⟩
    · rw [e1, e2, if_neg (fault_of c hc).2.1]
      dsimp only
      rw [if_neg neg1i]
      exact ExR.fault hc rfl _
    · rw [e1, e2, if_pos (lN_nn (by omega)).1]
      dsimp only
      rw [if_pos (nI_pos' (by omega)), ld_word hn hM hj]
      exact fin_ok hid hH (MemR_cl hid hM (Or.inr ⟨j, hj, rfl, rfl⟩)) hH.w0
  have SC : ∀ (P : Int32 × Int32 × (Nat → Int32) × (Nat → Int32) × (Nat → Int32)),
      (if 0 ≤ (sp_Model_claimed n (f (sp_Field_rs1 w).toNatClampNeg) 2 (nI id) (-1) tv lv cs b).1 then (if cl (nI id).toNatClampNeg = (sp_Model_claimed n (f (sp_Field_rs1 w).toNatClampNeg) 2 (nI id) (-1) tv lv cs b).1 then ((sp_Model_claimed n (f (sp_Field_rs1 w).toNatClampNeg) 2 (nI id) (-1) tv lv cs b).2.1, (sp_Model_claimed n (f (sp_Field_rs1 w).toNatClampNeg) 2 (nI id) (-1) tv lv cs b).2.2, sp_Model_setReg (sp_Model_field w 7 5) 0 (nI id) (sp_Model_claimed n (f (sp_Field_rs1 w).toNatClampNeg) 2 (nI id) (-1) tv lv cs b).2.1 x, sp_Model_setBytes (sp_Model_claimed n (f (sp_Field_rs1 w).toNatClampNeg) 2 (nI id) (-1) tv lv cs b).1 4 (f (sp_Field_rs2 w).toNatClampNeg) b, upd (upd cl (nI id).toNatClampNeg (-1)) (1 - nI id).toNatClampNeg (-1)) else ((sp_Model_claimed n (f (sp_Field_rs1 w).toNatClampNeg) 2 (nI id) (-1) tv lv cs b).2.1, (sp_Model_claimed n (f (sp_Field_rs1 w).toNatClampNeg) 2 (nI id) (-1) tv lv cs b).2.2, sp_Model_setReg (sp_Model_field w 7 5) 1 (nI id) (sp_Model_claimed n (f (sp_Field_rs1 w).toNatClampNeg) 2 (nI id) (-1) tv lv cs b).2.1 x, b, upd cl (nI id).toNatClampNeg (-1))) else ((sp_Model_claimed n (f (sp_Field_rs1 w).toNatClampNeg) 2 (nI id) (-1) tv lv cs b).2.1, (sp_Model_claimed n (f (sp_Field_rs1 w).toNatClampNeg) 2 (nI id) (-1) tv lv cs b).2.2, x, b, cl)) = P →
      ExR n id (M, f, pc, l, t, q) pcs lv cs x b cl cm so ti pu np (if 0 ≤ sp_Hart_locate n (nI id) (f (sp_Field_rs1 w).toNatClampNeg) 4 4 (M, f, pc, l, t, q) then (if (sp_Memory_storeIfClaimed n (nI id) (sp_Hart_locate n (nI id) (f (sp_Field_rs1 w).toNatClampNeg) 4 4 (M, f, pc, l, t, q)) (f (sp_Field_rs2 w).toNatClampNeg) M).1 = 0 then sp_Hart_finish n (nI id) w 1 ((sp_Memory_storeIfClaimed n (nI id) (sp_Hart_locate n (nI id) (f (sp_Field_rs1 w).toNatClampNeg) 4 4 (M, f, pc, l, t, q)) (f (sp_Field_rs2 w).toNatClampNeg) M).2, f, pc, l, t, q) else sp_Hart_finish n (nI id) w 0 ((sp_Memory_storeIfClaimed n (nI id) (sp_Hart_locate n (nI id) (f (sp_Field_rs1 w).toNatClampNeg) 4 4 (M, f, pc, l, t, q)) (f (sp_Field_rs2 w).toNatClampNeg) M).2, f, pc, l, t, q)) else sp_Hart_fault n (nI id) (sp_Hart_locate n (nI id) (f (sp_Field_rs1 w).toNatClampNeg) 4 4 (M, f, pc, l, t, q)) (f (sp_Field_rs1 w).toNatClampNeg) (M, f, pc, l, t, q)) (P.1, P.2.1, pc + 4, lv, cs, P.2.2.1, P.2.2.2.1, P.2.2.2.2, cm, so, ti, pu, np) := by
    intro P hP
    subst hP
    rcases claimed_eq (x0 := f (sp_Field_rs1 w).toNatClampNeg) (tv := tv) (Or.inr ⟨rfl, rfl⟩) hn hid hM hH with ⟨c, hc, e1, e2⟩ | ⟨j, hj, e1, e2⟩
    · rw [e1, e2, if_neg (fault_of c hc).2.1]
      dsimp only
      rw [if_neg neg1i]
      exact ExR.fault hc rfl _
    · rw [e1, e2, if_pos (lN_nn (by omega)).1]
      dsimp only
      rw [if_pos (nI_pos' (by omega))]
      have ci : M.2.2.2.2 (nI id).toNatClampNeg = lN (2147483648 + 4 * j) ↔ cl (nI id).toNatClampNeg = nI (4 * j) := by
        rw [nid hid]
        rcases hid with rfl | rfl
        · exact cl_iff hn hM.2.1.1 hj
        · exact cl_iff hn hM.2.1.2 hj
      unfold sp_Memory_storeIfClaimed
      by_cases c : M.2.2.2.2 (nI id).toNatClampNeg = lN (2147483648 + 4 * j)
      · rw [if_pos c, if_pos (ci.mp c)]
        dsimp only
        rw [if_neg (show ¬ (1 : Int32) = 0 by decide)]
        exact fin_ok hid hH (ram_store (Or.inr (Or.inr rfl)) hn hM (by omega) (fun e => absurd e (by decide)) (fun _ => by omega) (cl2_ok hid cl) _ ⟨rfl, rfl, rfl, rfl⟩) hH.w0
      · rw [if_neg c, if_neg (fun z => c (ci.mpr z))]
        dsimp only
        rw [if_pos (show (0 : Int32) = 0 from rfl)]
        exact fin_ok hid hH (MemR_cl hid hM (Or.inl ⟨rfl, rfl⟩)) hH.w0
  have AM : ∀ (K : Int32), (∀ a b, sp_Alu_changed K a b = sp_Model_changed K a b) → ∀ (P : Int32 × Int32 × (Nat → Int32) × (Nat → Int32) × (Nat → Int32)),
      (if 0 ≤ (sp_Model_claimed n (f (sp_Field_rs1 w).toNatClampNeg) 2 (nI id) (-1) tv lv cs b).1 then ((sp_Model_claimed n (f (sp_Field_rs1 w).toNatClampNeg) 2 (nI id) (-1) tv lv cs b).2.1, (sp_Model_claimed n (f (sp_Field_rs1 w).toNatClampNeg) 2 (nI id) (-1) tv lv cs b).2.2, sp_Model_setReg (sp_Model_field w 7 5) (sp_Model_ramWord (sp_Model_claimed n (f (sp_Field_rs1 w).toNatClampNeg) 2 (nI id) (-1) tv lv cs b).1 b) (nI id) (sp_Model_claimed n (f (sp_Field_rs1 w).toNatClampNeg) 2 (nI id) (-1) tv lv cs b).2.1 x, sp_Model_setBytes (sp_Model_claimed n (f (sp_Field_rs1 w).toNatClampNeg) 2 (nI id) (-1) tv lv cs b).1 4 (sp_Model_changed K (sp_Model_ramWord (sp_Model_claimed n (f (sp_Field_rs1 w).toNatClampNeg) 2 (nI id) (-1) tv lv cs b).1 b) (f (sp_Field_rs2 w).toNatClampNeg)) b, upd (upd cl (nI id).toNatClampNeg (-1)) (1 - nI id).toNatClampNeg (-1)) else ((sp_Model_claimed n (f (sp_Field_rs1 w).toNatClampNeg) 2 (nI id) (-1) tv lv cs b).2.1, (sp_Model_claimed n (f (sp_Field_rs1 w).toNatClampNeg) 2 (nI id) (-1) tv lv cs b).2.2, x, b, cl)) = P →
      ExR n id (M, f, pc, l, t, q) pcs lv cs x b cl cm so ti pu np (if 0 ≤ sp_Hart_locate n (nI id) (f (sp_Field_rs1 w).toNatClampNeg) 4 4 (M, f, pc, l, t, q) then sp_Hart_finish n (nI id) w (sp_Memory_load n (sp_Hart_locate n (nI id) (f (sp_Field_rs1 w).toNatClampNeg) 4 4 (M, f, pc, l, t, q)) 4 M) (sp_Memory_store n (sp_Hart_locate n (nI id) (f (sp_Field_rs1 w).toNatClampNeg) 4 4 (M, f, pc, l, t, q)) 4 (sp_Alu_changed K (sp_Memory_load n (sp_Hart_locate n (nI id) (f (sp_Field_rs1 w).toNatClampNeg) 4 4 (M, f, pc, l, t, q)) 4 M) (f (sp_Field_rs2 w).toNatClampNeg)) M, f, pc, l, t, q) else sp_Hart_fault n (nI id) (sp_Hart_locate n (nI id) (f (sp_Field_rs1 w).toNatClampNeg) 4 4 (M, f, pc, l, t, q)) (f (sp_Field_rs1 w).toNatClampNeg) (M, f, pc, l, t, q)) (P.1, P.2.1, pc + 4, lv, cs, P.2.2.1, P.2.2.2.1, P.2.2.2.2, cm, so, ti, pu, np) := by
    intro K hK P hP
    subst hP
    rcases claimed_eq (x0 := f (sp_Field_rs1 w).toNatClampNeg) (tv := tv) (Or.inr ⟨rfl, rfl⟩) hn hid hM hH with ⟨c, hc, e1, e2⟩ | ⟨j, hj, e1, e2⟩
    · rw [e1, e2, if_neg (fault_of c hc).2.1]
      dsimp only
      rw [if_neg neg1i]
      exact ExR.fault hc rfl _
    · rw [e1, e2, if_pos (lN_nn (by omega)).1]
      dsimp only
      rw [if_pos (nI_pos' (by omega)), ld_word hn hM hj, hK]
      exact fin_ok hid hH (ram_store (Or.inr (Or.inr rfl)) hn hM (by omega) (fun e => absurd e (by decide)) (fun _ => by omega) (cl2_ok hid cl) _ ⟨rfl, rfl, rfl, rfl⟩) hH.w0
  by_cases c2 : sp_Field_f3 w = 2
  · simp only [if_pos c2] at hC ⊢
    unfold sp_Hart_isChange
    rcases k32 hk with rfl | rfl | rfl | rfl | rfl | rfl | rfl | rfl | rfl | rfl | rfl | rfl | rfl | rfl | rfl | rfl | rfl | rfl | rfl | rfl | rfl | rfl | rfl | rfl | rfl | rfl | rfl | rfl | rfl | rfl | rfl | rfl
    · simp (decide := true) only [↓reduceIte] at hC ⊢
      exact AM (nI 0) (ch_eq (by decide)) C hC
    · simp (decide := true) only [↓reduceIte] at hC ⊢
      exact AM (nI 1) (ch_eq (by decide)) C hC
    · simp (decide := true) only [↓reduceIte] at hC ⊢
      by_cases r0 : sp_Field_rs2 w = 0
      · simp (decide := true) only [if_pos r0, ↓reduceIte] at hC ⊢
        exact LR C hC
      · simp (decide := true) only [if_neg r0, ↓reduceIte] at hC ⊢
        subst hC
        exact I
    · simp (decide := true) only [↓reduceIte] at hC ⊢
      exact SC C hC
    · simp (decide := true) only [↓reduceIte] at hC ⊢
      exact AM (nI 4) (ch_eq (by decide)) C hC
    · simp (decide := true) only [↓reduceIte] at hC ⊢
      subst hC
      exact I
    · simp (decide := true) only [↓reduceIte] at hC ⊢
      subst hC
      exact I
    · simp (decide := true) only [↓reduceIte] at hC ⊢
      subst hC
      exact I
    · simp (decide := true) only [↓reduceIte] at hC ⊢
      exact AM (nI 8) (ch_eq (by decide)) C hC
    · simp (decide := true) only [↓reduceIte] at hC ⊢
      subst hC
      exact I
    · simp (decide := true) only [↓reduceIte] at hC ⊢
      subst hC
      exact I
    · simp (decide := true) only [↓reduceIte] at hC ⊢
      subst hC
      exact I
    · simp (decide := true) only [↓reduceIte] at hC ⊢
      exact AM (nI 12) (ch_eq (by decide)) C hC
    · simp (decide := true) only [↓reduceIte] at hC ⊢
      subst hC
      exact I
    · simp (decide := true) only [↓reduceIte] at hC ⊢
      subst hC
      exact I
    · simp (decide := true) only [↓reduceIte] at hC ⊢
      subst hC
      exact I
    · simp (decide := true) only [↓reduceIte] at hC ⊢
      exact AM (nI 16) (ch_eq (by decide)) C hC
    · simp (decide := true) only [↓reduceIte] at hC ⊢
      subst hC
      exact I
    · simp (decide := true) only [↓reduceIte] at hC ⊢
      subst hC
      exact I
    · simp (decide := true) only [↓reduceIte] at hC ⊢
      subst hC
      exact I
    · simp (decide := true) only [↓reduceIte] at hC ⊢
      exact AM (nI 20) (ch_eq (by decide)) C hC
    · simp (decide := true) only [↓reduceIte] at hC ⊢
      subst hC
      exact I
    · simp (decide := true) only [↓reduceIte] at hC ⊢
      subst hC
      exact I
    · simp (decide := true) only [↓reduceIte] at hC ⊢
      subst hC
      exact I
    · simp (decide := true) only [↓reduceIte] at hC ⊢
      exact AM (nI 24) (ch_eq (by decide)) C hC
    · simp (decide := true) only [↓reduceIte] at hC ⊢
      subst hC
      exact I
    · simp (decide := true) only [↓reduceIte] at hC ⊢
      subst hC
      exact I
    · simp (decide := true) only [↓reduceIte] at hC ⊢
      subst hC
      exact I
    · simp (decide := true) only [↓reduceIte] at hC ⊢
      exact AM (nI 28) (ch_eq (by decide)) C hC
    · simp (decide := true) only [↓reduceIte] at hC ⊢
      subst hC
      exact I
    · simp (decide := true) only [↓reduceIte] at hC ⊢
      subst hC
      exact I
    · simp (decide := true) only [↓reduceIte] at hC ⊢
      subst hC
      exact I
  · simp only [if_neg c2] at hC ⊢
    have : C = ((sp_Model_trap 2 w (-1) tv).1, (sp_Model_trap 2 w (-1) tv).2, x, b, cl) := by
      rw [← hC]
      repeat' (first | rfl | split)
    rw [this]
    exact I
end Amo
