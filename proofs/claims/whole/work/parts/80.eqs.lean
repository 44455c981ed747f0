-- ===== call by call: the answers are the same, and the states still belong together =====
section Eqs
variable {n : Nat} {σ : TT} {pcs lv cs x b cl : Nat → Int32} {cm : Nat → Int64} {so : Nat → Int32} {ti : Int64} {pu : Nat → Int32} {np : Int32} {x0 x1 x2 r1 r2 : Int32} {u1 : TT}
theorem E_step {h ca tv nx : Int32} {u2 : Int32 × Int32 × Int32 × Int32 × (Nat → Int32) × (Nat → Int32) × (Nat → Int32) × (Nat → Int32) × (Nat → Int32) × (Nat → Int32) × (Nat → Int64) × (Nat → Int32) × Int64 × (Nat → Int32) × Int32} (hn : n ≤ 4096) (hn1 : 16 ≤ n) (hR : Rel n σ pcs lv cs x b cl cm so ti pu np) (h1 : sp_TwinHart_step n x0 σ = (r1, u1)) (h2 : sp_Model_step n x0 h ca tv nx pcs lv cs x b cl cm so ti pu np = (r2, u2)) : r1 = r2 ∧ Rel n u1 u2.2.2.2.2.1 u2.2.2.2.2.2.1 u2.2.2.2.2.2.2.1 u2.2.2.2.2.2.2.2.1 u2.2.2.2.2.2.2.2.2.1 u2.2.2.2.2.2.2.2.2.2.1 u2.2.2.2.2.2.2.2.2.2.2.1 u2.2.2.2.2.2.2.2.2.2.2.2.1 u2.2.2.2.2.2.2.2.2.2.2.2.2.1 u2.2.2.2.2.2.2.2.2.2.2.2.2.2.1 u2.2.2.2.2.2.2.2.2.2.2.2.2.2.2 := by
  sorry
end Eqs
