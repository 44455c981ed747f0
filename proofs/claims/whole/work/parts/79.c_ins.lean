-- ===== instruction by instruction =====
section Ins
variable {n id : Nat} {M : TM} {f q pcs lv cs x b cl : Nat → Int32} {cm : Nat → Int64} {so : Nat → Int32} {ti : Int64} {pu : Nat → Int32} {np : Int32} {pc l t tv nx w : Int32}
theorem sr_no {c : Nat} (hc : c < 16) (k v h : Int32) (x : Nat → Int32) : sp_Model_setReg k v h (nI c) x = x := by
  have : ∀ c, c < 16 → ¬ nI c = -1 := by decide +kernel
  unfold sp_Model_setReg
  rw [if_neg (this c hc)]
  split <;> rfl
theorem HartR.w0 (hH : HartR id (f, pc, l, t, q) pcs lv cs x) : WrR id q cs q cs := wr0 hH.2.2.2.1 hH.2.2.2.2.1
theorem ex_load (hn : n ≤ 4096) (hid : id = 0 ∨ id = 1) (hM : MemR n M b cl cm so ti pu np) (hH : HartR id (f, pc, l, t, q) pcs lv cs x) :
    ExR n id (M, f, pc, l, t, q) pcs lv cs x b cl cm so ti pu np (sp_Hart_load n (nI id) w (M, f, pc, l, t, q)) ((sp_Model_loads n w (nI id) (-1) tv lv cs x b cm so ti).1, (sp_Model_loads n w (nI id) (-1) tv lv cs x b cm so ti).2.1, pc + 4, lv, cs, (sp_Model_loads n w (nI id) (-1) tv lv cs x b cm so ti).2.2, b, cl, cm, so, ti, pu, np) := by
  unfold sp_Hart_load sp_Model_loads
  rw [fd_f3, fd_rs1, rg_eq hid hH.1 (vp_rs1 w), show sp_Field_immediate w = shr w 20 from rfl]
  dsimp only
  generalize f (sp_Field_rs1 w).toNatClampNeg + shr w 20 = A
  by_cases c3 : sp_Field_f3 w = 3
  · rw [if_pos c3, if_pos c3]; exact ExR.ill (tv := tv)
  · rw [if_neg c3, if_neg c3]
    by_cases c5 : sp_Field_f3 w ≤ 5
    · rw [if_pos c5, if_pos c5]
      have hs : shl 1 (sp_Field_f3 w &&& 3) = 1 ∨ shl 1 (sp_Field_f3 w &&& 3) = 2 ∨ shl 1 (sp_Field_f3 w &&& 3) = 4 := by
        have := n124 (w := w) (by rw [fd_f3]; exact c3) (by rw [fd_f3]; exact c5)
        rw [fd_f3] at this
        exact this
      rcases load_eq (x0 := A) (tv := tv) hs hn hid hM hH with ⟨c, hc, e1, e2⟩ | ⟨e1, e2⟩
      · rw [e1, if_neg (fault_of c hc).2.1, e2]
        dsimp only
        rw [sr_no hc, sr_no hc, sr_no hc]
        have R := ExR.fault (n := n) (id := id) (M := M) (f := f) (pc := pc) (l := l) (t := t) (q := q) (pcs := pcs) (lv := lv) (cs := cs) (x := x) (b := b) (cl := cl) (cm := cm) (so := so) (ti := ti) (pu := pu) (np := np) (nx := pc + 4) hc rfl A
        split
        · exact R
        · split
          · exact R
          · exact R
      · rw [if_pos e1, e2]
        dsimp only
        by_cases c0 : sp_Field_f3 w = 0
        · rw [if_pos c0, if_pos c0]; exact fin_ok hid hH hM hH.w0
        · rw [if_neg c0, if_neg c0]
          by_cases c1 : sp_Field_f3 w = 1
          · rw [if_pos c1, if_pos c1]; exact fin_ok hid hH hM hH.w0
          · rw [if_neg c1, if_neg c1]; exact fin_ok hid hH hM hH.w0
    · rw [if_neg c5, if_neg c5]; exact ExR.ill (tv := tv)
theorem ex_store (hn : n ≤ 4096) (hid : id = 0 ∨ id = 1) (hM : MemR n M b cl cm so ti pu np) (hH : HartR id (f, pc, l, t, q) pcs lv cs x) {S : Int32 × Int32 × (Nat → Int32) × (Nat → Int32) × (Nat → Int64) × (Nat → Int32) × Int64 × (Nat → Int32) × Int32} (hS : sp_Model_stores n w (nI id) (-1) tv lv cs x b cl cm so ti pu np = S) :
    ExR n id (M, f, pc, l, t, q) pcs lv cs x b cl cm so ti pu np (sp_Hart_store n (nI id) w (M, f, pc, l, t, q)) (S.1, S.2.1, pc + 4, lv, cs, x, S.2.2.1, S.2.2.2.1, S.2.2.2.2.1, S.2.2.2.2.2.1, S.2.2.2.2.2.2.1, S.2.2.2.2.2.2.2.1, S.2.2.2.2.2.2.2.2) := by
  subst hS
  unfold sp_Hart_store sp_Model_stores
  rw [so_eq, fd_f3, fd_rs1, fd_rs2, rg_eq hid hH.1 (vp_rs1 w), rg_eq hid hH.1 (vp_rs2 w)]
  dsimp only
  generalize f (sp_Field_rs1 w).toNatClampNeg + sp_Field_storeOffset w = A
  by_cases c2 : sp_Field_f3 w ≤ 2
  · rw [if_pos c2, if_pos c2]
    have hs : shl 1 (sp_Field_f3 w) = 1 ∨ shl 1 (sp_Field_f3 w) = 2 ∨ shl 1 (sp_Field_f3 w) = 4 := by
      have := n124s (w := w) (by rw [fd_f3]; exact c2)
      rw [fd_f3] at this
      exact this
    rcases store_eq (x0 := A) (tv := tv) (v := f (sp_Field_rs2 w).toNatClampNeg) hs hn hid hM hH with ⟨c, hc, e1, e2⟩ | ⟨e1, b2, cl2, cm2, so2, ti2, pu2, np2, e2, e3⟩
    · rw [e1, if_neg (fault_of c hc).2.1, e2]
      exact ExR.fault hc rfl A
    · rw [if_pos e1, e2]
      exact go_ok hH e3
  · rw [if_neg c2, if_neg c2]; exact ExR.ill (tv := tv)
theorem ex_ri (hid : id = 0 ∨ id = 1) (hM : MemR n M b cl cm so ti pu np) (hH : HartR id (f, pc, l, t, q) pcs lv cs x) :
    ExR n id (M, f, pc, l, t, q) pcs lv cs x b cl cm so ti pu np (sp_Hart_computeWithImmediate n (nI id) w (M, f, pc, l, t, q)) ((sp_Model_reckon w 0 (nI id) (-1) tv x).1, (sp_Model_reckon w 0 (nI id) (-1) tv x).2.1, pc + 4, lv, cs, (sp_Model_reckon w 0 (nI id) (-1) tv x).2.2, b, cl, cm, so, ti, pu, np) := by
  unfold sp_Hart_computeWithImmediate sp_Model_reckon
  rw [fd_f3, fd_f7, fd_rs1, fd_rs2, rg_eq hid hH.1 (vp_rs1 w), show sp_Field_immediate w = shr w 20 from rfl, if_pos rfl]
  dsimp only
  generalize f (sp_Field_rs1 w).toNatClampNeg = A
  have F : ∀ v, ExR n id (M, f, pc, l, t, q) pcs lv cs x b cl cm so ti pu np (sp_Hart_finish n (nI id) w v (M, f, pc, l, t, q)) (-1, tv, pc + 4, lv, cs, sp_Model_setReg (sp_Model_field w 7 5) v (nI id) (-1) x, b, cl, cm, so, ti, pu, np) := fun v => fin_ok hid hH hM hH.w0
  by_cases c1 : sp_Field_f3 w = 1
  · have c5 : ¬ sp_Field_f3 w = 5 := by rw [c1]; decide
    rw [if_neg c5, if_pos c1, if_pos c1]
    by_cases g0 : sp_Field_f7 w = 0
    · rw [if_pos g0, if_pos g0]
      have e : sp_Alu_plain (sp_Field_f3 w) A (shr w 20) = shl A (sp_Field_rs2 w) := by
        rw [c1, show sp_Alu_plain 1 A (shr w 20) = shl A ((shr w 20) &&& 31) from rfl, im5]; rfl
      rw [e]
      exact F _
    · rw [if_neg g0, if_neg g0]
      by_cases g32 : sp_Field_f7 w = 32
      · rw [if_pos g32]; exact ExR.ill (tv := tv)
      · rw [if_neg g32]; exact ExR.ill (tv := tv)
  · by_cases c5 : sp_Field_f3 w = 5
    · rw [if_pos c5, if_neg c1, if_neg c1, if_pos c5]
      by_cases g0 : sp_Field_f7 w = 0
      · have g32 : ¬ sp_Field_f7 w = 32 := by rw [g0]; decide
        rw [if_neg g32, if_pos g0, if_pos g0]
        have e : sp_Alu_plain (sp_Field_f3 w) A (shr w 20) = sp_Model_shifted A (sp_Field_rs2 w) 0 := by
          rw [c5, show sp_Alu_plain 5 A (shr w 20) = ush A ((shr w 20) &&& 31) from rfl, im5]; rfl
        rw [e]
        exact F _
      · rw [if_neg g0, if_neg g0]
        by_cases g32 : sp_Field_f7 w = 32
        · rw [if_pos g32, if_pos g32]; exact F _
        · rw [if_neg g32, if_neg g32]; exact ExR.ill (tv := tv)
    · rw [if_neg c5, if_neg c1, if_neg c1, if_neg c5, pl_eq _ _ c5]; exact F _
theorem ex_rr (hid : id = 0 ∨ id = 1) (hM : MemR n M b cl cm so ti pu np) (hH : HartR id (f, pc, l, t, q) pcs lv cs x) :
    ExR n id (M, f, pc, l, t, q) pcs lv cs x b cl cm so ti pu np (sp_Hart_compute n (nI id) w (M, f, pc, l, t, q)) ((sp_Model_reckon w 1 (nI id) (-1) tv x).1, (sp_Model_reckon w 1 (nI id) (-1) tv x).2.1, pc + 4, lv, cs, (sp_Model_reckon w 1 (nI id) (-1) tv x).2.2, b, cl, cm, so, ti, pu, np) := by
  unfold sp_Hart_compute sp_Model_reckon
  rw [fd_f3, fd_f7, fd_rs1, fd_rs2, rg_eq hid hH.1 (vp_rs1 w), rg_eq hid hH.1 (vp_rs2 w), if_neg (show ¬ (1 : Int32) = 0 by decide)]
  dsimp only
  generalize f (sp_Field_rs1 w).toNatClampNeg = A
  generalize f (sp_Field_rs2 w).toNatClampNeg = B
  have F : ∀ v, ExR n id (M, f, pc, l, t, q) pcs lv cs x b cl cm so ti pu np (sp_Hart_finish n (nI id) w v (M, f, pc, l, t, q)) (-1, tv, pc + 4, lv, cs, sp_Model_setReg (sp_Model_field w 7 5) v (nI id) (-1) x, b, cl, cm, so, ti, pu, np) := fun v => fin_ok hid hH hM hH.w0
  have I : ExR n id (M, f, pc, l, t, q) pcs lv cs x b cl cm so ti pu np (sp_Hart_illegal n (nI id) w (M, f, pc, l, t, q)) ((sp_Model_trap 2 w (-1) tv).1, (sp_Model_trap 2 w (-1) tv).2, pc + 4, lv, cs, x, b, cl, cm, so, ti, pu, np) := ExR.ill
  have hf := f3_cases w
  by_cases c1 : sp_Field_f3 w = 1
  · have c5 : ¬ sp_Field_f3 w = 5 := by rw [c1]; decide
    have c4 : ¬ 4 ≤ sp_Field_f3 w := by rw [c1]; decide
    have c0 : ¬ sp_Field_f3 w = 0 := by rw [c1]; decide
    rw [if_pos c1, if_neg c4, if_neg c0, if_neg c5]
    by_cases g0 : sp_Field_f7 w = 0
    · rw [if_pos g0, if_pos g0]
      have e : sp_Alu_plain (sp_Field_f3 w) A B = shl A (B &&& 31) := by rw [c1]; rfl
      rw [e]; exact F _
    · rw [if_neg g0, if_neg g0]
      by_cases g1 : sp_Field_f7 w = 1
      · rw [if_pos g1, if_pos g1, mul_eq A B (Or.inr (Or.inl c1))]; exact F _
      · rw [if_neg g1, if_neg g1]
        by_cases g32 : sp_Field_f7 w = 32
        · rw [if_pos g32, if_pos g32]; exact I
        · rw [if_neg g32, if_neg g32]; exact I
  · rw [if_neg c1]
    by_cases c5 : sp_Field_f3 w = 5
    · have c4 : 4 ≤ sp_Field_f3 w := by rw [c5]; decide
      have c0 : ¬ sp_Field_f3 w = 0 := by rw [c5]; decide
      rw [if_pos c5, if_pos c4, if_neg c0, if_pos c5]
      by_cases g0 : sp_Field_f7 w = 0
      · rw [if_pos g0, if_pos g0]
        have e : sp_Alu_plain (sp_Field_f3 w) A B = sp_Model_shifted A (B &&& 31) 0 := by rw [c5]; rfl
        rw [e]; exact F _
      · rw [if_neg g0, if_neg g0]
        by_cases g1 : sp_Field_f7 w = 1
        · rw [if_pos g1, if_pos g1, quo_eq A B (Or.inr (Or.inl c5))]; exact F _
        · rw [if_neg g1, if_neg g1]
          by_cases g32 : sp_Field_f7 w = 32
          · rw [if_pos g32, if_pos g32]; exact F _
          · rw [if_neg g32, if_neg g32]; exact I
    · rw [if_neg c5, if_neg c5]
      by_cases g0 : sp_Field_f7 w = 0
      · rw [if_pos g0, if_pos g0, pl_eq _ _ c5]; exact F _
      · rw [if_neg g0, if_neg g0]
        by_cases g1 : sp_Field_f7 w = 1
        · rw [if_pos g1, if_pos g1]
          rcases hf with e | e | e | e | e | e | e | e
          · rw [if_neg (by rw [e]; decide), if_neg (by rw [e]; decide), mul_eq A B (Or.inl e)]; exact F _
          · exact absurd e c1
          · rw [if_neg (by rw [e]; decide), if_neg (by rw [e]; decide), mul_eq A B (Or.inr (Or.inr (Or.inl e)))]; exact F _
          · rw [if_neg (by rw [e]; decide), if_neg (by rw [e]; decide), mul_eq A B (Or.inr (Or.inr (Or.inr e)))]; exact F _
          · rw [if_pos (by rw [e]; decide), if_pos (by rw [e]; decide), quo_eq A B (Or.inl e)]; exact F _
          · exact absurd e c5
          · rw [if_pos (by rw [e]; decide), if_pos (by rw [e]; decide), quo_eq A B (Or.inr (Or.inr (Or.inl e)))]; exact F _
          · rw [if_pos (by rw [e]; decide), if_pos (by rw [e]; decide), quo_eq A B (Or.inr (Or.inr (Or.inr e)))]; exact F _
        · rw [if_neg g1, if_neg g1]
          by_cases g32 : sp_Field_f7 w = 32
          · rw [if_pos g32, if_pos g32]
            by_cases c0 : sp_Field_f3 w = 0
            · rw [if_pos c0, if_pos c0]; exact F _
            · rw [if_neg c0, if_neg c0]; exact I
          · rw [if_neg g32, if_neg g32]; exact I
theorem ex_jal (hid : id = 0 ∨ id = 1) (hM : MemR n M b cl cm so ti pu np) (hH : HartR id (f, pc, l, t, q) pcs lv cs x) :
    ExR n id (M, f, pc, l, t, q) pcs lv cs x b cl cm so ti pu np (sp_Hart_jump n (nI id) w (pc + sp_Field_jumpOffset w) (M, f, pc, l, t, q)) ((sp_Model_jump w (nI id) (-1) tv nx pcs x).1, (sp_Model_jump w (nI id) (-1) tv nx pcs x).2.1, (sp_Model_jump w (nI id) (-1) tv nx pcs x).2.2.1, lv, cs, (sp_Model_jump w (nI id) (-1) tv nx pcs x).2.2.2, b, cl, cm, so, ti, pu, np) := by
  unfold sp_Model_jump
  rw [jo_eq, show pcs (nI id).toNatClampNeg = pc from by rw [nid hid]; exact hH.2.1]
  exact jump_ok hid hM hH
theorem ex_jalr (hid : id = 0 ∨ id = 1) (hM : MemR n M b cl cm so ti pu np) (hH : HartR id (f, pc, l, t, q) pcs lv cs x) (h0 : sp_Field_f3 w = 0) :
    ExR n id (M, f, pc, l, t, q) pcs lv cs x b cl cm so ti pu np (sp_Hart_jumpByRegister n (nI id) w (M, f, pc, l, t, q)) ((sp_Model_go (((sp_Model_reg (sp_Model_field w 15 5) (nI id) x) + (shr w 20)) &&& (-2)) (-1) tv nx).1, (sp_Model_go (((sp_Model_reg (sp_Model_field w 15 5) (nI id) x) + (shr w 20)) &&& (-2)) (-1) tv nx).2.1, (sp_Model_go (((sp_Model_reg (sp_Model_field w 15 5) (nI id) x) + (shr w 20)) &&& (-2)) (-1) tv nx).2.2, lv, cs, sp_Model_setReg (sp_Model_field w 7 5) ((pcs (nI id).toNatClampNeg) + 4) (nI id) (sp_Model_go (((sp_Model_reg (sp_Model_field w 15 5) (nI id) x) + (shr w 20)) &&& (-2)) (-1) tv nx).1 x, b, cl, cm, so, ti, pu, np) := by
  unfold sp_Hart_jumpByRegister
  rw [if_pos h0, fd_rs1, rg_eq hid hH.1 (vp_rs1 w), show sp_Field_immediate w = shr w 20 from rfl, show pcs (nI id).toNatClampNeg = pc from by rw [nid hid]; exact hH.2.1]
  exact jump_ok hid hM hH
theorem ex_jalr_no (h0 : ¬ sp_Field_f3 w = 0) :
    ExR n id (M, f, pc, l, t, q) pcs lv cs x b cl cm so ti pu np (sp_Hart_jumpByRegister n (nI id) w (M, f, pc, l, t, q)) ((sp_Model_trap 2 w (-1) tv).1, (sp_Model_trap 2 w (-1) tv).2, nx, lv, cs, x, b, cl, cm, so, ti, pu, np) := by
  unfold sp_Hart_jumpByRegister
  rw [if_neg h0]
  exact ExR.ill (tv := tv)
theorem be_01 (a b : Int32) : sp_Model_below a b = 0 ∨ sp_Model_below a b = 1 := by
  unfold sp_Model_below
  split
  · exact Or.inl rfl
  · exact Or.inr rfl
/-- the branch of the reference, in the class's words -/
theorem br_eq {A B pc2 : Int32} (hA : sp_Model_reg (sp_Model_field w 15 5) (nI id) x = A) (hB : sp_Model_reg (sp_Model_field w 20 5) (nI id) x = B) (hp : pcs (nI id).toNatClampNeg = pc2) (c2 : ¬ sp_Field_f3 w = 2) (c3 : ¬ sp_Field_f3 w = 3) :
    sp_Model_branch w (nI id) (-1) tv nx pcs x = if sp_Alu_branches (sp_Field_f3 w) A B = 0 then (-1, tv, nx) else sp_Model_go (pc2 + sp_Field_branchOffset w) (-1) tv nx := by
  unfold sp_Model_branch
  rw [bo_eq, hA, hB, hp, fd_f3, if_neg c2, if_neg c3]
  dsimp only
  unfold sp_Alu_branches
  have bb : sp_Alu_below A B = sp_Model_below A B := rfl
  rw [bb]
  have h01 := be_01 A B
  have yes : ∀ (z : Int32 × Int32 × Int32), (z.1, z.2.1, z.2.2) = z := fun z => rfl
  rcases f3_cases w with e | e | e | e | e | e | e | e
  · rw [e]
    simp (decide := true) only [↓reduceIte, yes]
    by_cases c : A = B
    · rw [if_pos c, if_pos c, if_neg (by decide)]
    · rw [if_neg c, if_neg c, if_pos rfl]
  · rw [e]
    simp (decide := true) only [↓reduceIte, yes]
    by_cases c : A = B
    · rw [if_pos c, if_pos c, if_pos rfl]
    · rw [if_neg c, if_neg c, if_neg (by decide)]
  · exact absurd e c2
  · exact absurd e c3
  · rw [e]
    simp (decide := true) only [↓reduceIte, yes]
    by_cases c : B ≤ A
    · rw [if_pos c, if_pos c, if_pos rfl]
    · rw [if_neg c, if_neg c, if_neg (by decide)]
  · rw [e]
    simp (decide := true) only [↓reduceIte, yes]
    by_cases c : B ≤ A
    · rw [if_pos c, if_neg (Int32.not_lt.mpr c), if_neg (by decide)]
    · rw [if_neg c, if_pos (Int32.not_le.mp c), if_pos rfl]
  · rw [e]
    simp (decide := true) only [↓reduceIte, yes]
  · rw [e]
    simp (decide := true) only [↓reduceIte, yes]
    rcases h01 with z | z
    · rw [z]; simp (decide := true) only [↓reduceIte]
    · rw [z]; simp (decide := true) only [↓reduceIte]
theorem ex_branch (hid : id = 0 ∨ id = 1) (hM : MemR n M b cl cm so ti pu np) (hH : HartR id (f, pc, l, t, q) pcs lv cs x) :
    ExR n id (M, f, pc, l, t, q) pcs lv cs x b cl cm so ti pu np (sp_Hart_branch n (nI id) w (M, f, pc, l, t, q)) ((sp_Model_branch w (nI id) (-1) tv (pc + 4) pcs x).1, (sp_Model_branch w (nI id) (-1) tv (pc + 4) pcs x).2.1, (sp_Model_branch w (nI id) (-1) tv (pc + 4) pcs x).2.2, lv, cs, x, b, cl, cm, so, ti, pu, np) := by
  have hp : pcs (nI id).toNatClampNeg = pc := by rw [nid hid]; exact hH.2.1
  have hA : sp_Model_reg (sp_Model_field w 15 5) (nI id) x = f (sp_Field_rs1 w).toNatClampNeg := by rw [fd_rs1]; exact rg_eq hid hH.1 (vp_rs1 w)
  have hB : sp_Model_reg (sp_Model_field w 20 5) (nI id) x = f (sp_Field_rs2 w).toNatClampNeg := by rw [fd_rs2]; exact rg_eq hid hH.1 (vp_rs2 w)
  unfold sp_Hart_branch
  by_cases c2 : sp_Field_f3 w = 2
  · rw [if_pos c2]
    unfold sp_Model_branch
    rw [fd_f3, if_pos c2]
    exact ExR.ill (tv := tv)
  · by_cases c3 : sp_Field_f3 w = 3
    · rw [if_neg c2, if_pos c3]
      unfold sp_Model_branch
      rw [fd_f3, if_neg c2, if_pos c3]
      exact ExR.ill (tv := tv)
    · rw [if_neg c2, if_neg c3, br_eq hA hB hp c2 c3]
      dsimp only
      by_cases c : sp_Alu_branches (sp_Field_f3 w) (f (sp_Field_rs1 w).toNatClampNeg) (f (sp_Field_rs2 w).toNatClampNeg) = 0
      · rw [if_pos c, if_pos c]; exact go_ok hH hM
      · rw [if_neg c, if_neg c]
        unfold sp_Model_go
        obtain ⟨h1, h2, h3, hC, hO, h6, h7⟩ := hH
        dsimp only at h1 h2 h3 hC hO h6 h7
        obtain ⟨tg, htg⟩ : ∃ tg, tg = pc + sp_Field_branchOffset w := ⟨_, rfl⟩
        rw [← htg]
        by_cases d : tg &&& 3 = 0
        · rw [if_pos d, if_pos d]
          exact Or.inl ⟨M, (f, tg, l, t, q), tv, tg, lv, cs, x, b, cl, cm, so, ti, pu, np, rfl, rfl, hM, ⟨h1, pk_us, h3, hC, hO, d, h7⟩, fun _ _ => rfl, fun _ _ => rfl, fun _ _ => rfl⟩
        · rw [if_neg d, if_neg d]
          exact ExR.trap (c := 0) (by decide) tg
end Ins
