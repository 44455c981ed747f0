-- ===== small facts that the walks ask for =====
theorem lw_ne {b : Int32} (h : ¬ b = 0) : ¬ (b.toInt64 &&& 4294967295) = 0 := by
  intro q
  apply h
  have e : (b.toInt64 &&& 4294967295).toBitVec = 0#64 := by rw [q]; rfl
  have e1 : (b.toBitVec.signExtend 64 &&& 4294967295#64) = 0#64 := e
  apply Int32.toBitVec_inj.mp
  show b.toBitVec = 0#32
  apply BitVec.eq_of_getLsbD_eq
  intro i hi
  have e2 := congrArg (fun z => BitVec.getLsbD z i) e1
  simp only [BitVec.getLsbD_and, BitVec.getLsbD_signExtend] at e2
  have h3 : (4294967295#64).getLsbD i = true := by
    have : ∀ j : Fin 32, (4294967295#64).getLsbD j.val = true := by decide
    exact this ⟨i, hi⟩
  have h4 : i < 64 := by omega
  rw [h3] at e2
  simp [h4, hi] at e2 ⊢
  exact e2
theorem vp_01 {x : Int32} {n : Nat} (h : x = 0 ∨ x = 1) (hn : 2 ≤ n) : vp_in x n := by
  rcases h with rfl | rfl
  · rw [vp_in_iff]; refine ⟨by decide, ?_⟩
    show (0 : Int) < n; omega
  · rw [vp_in_iff]; refine ⟨by decide, ?_⟩
    show (1 : Int) < n; omega
theorem vp_cmp {x : Int32} (h : x = 0 ∨ x = 1) : vp_in (2 + 2 * x) 8 ∧ vp_in (2 + 2 * x + 1) 8 := by
  rcases h with rfl | rfl <;> (unfold vp_in; decide)
theorem vp_pr {x : Int32} (h : 0 ≤ x) (h2 : ¬ 256 ≤ x) : vp_in x 256 := by
  rw [vp_in_iff]
  rw [Int32.le_iff_toInt_le] at h h2
  have e0 : (0 : Int32).toInt = 0 := rfl
  have e1 : (256 : Int32).toInt = 256 := rfl
  omega
theorem az_ramAlone (i : Nat) : aF_ramAlone.getD i 0 = 0 ∨ aF_ramAlone.getD i 0 = 1 := by
  rcases i with _ | _ | _ | _ | _ | i <;> first | exact Or.inl rfl | exact Or.inr rfl
theorem az_stores (i : Nat) : aF_stores.getD i 0 = 0 ∨ aF_stores.getD i 0 = 1 := by
  rcases i with _ | _ | _ | _ | _ | i <;> first | exact Or.inl rfl | exact Or.inr rfl
