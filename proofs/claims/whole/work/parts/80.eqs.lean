-- ===== call by call: the answers are the same, and the states still belong together =====
section Eqs
variable {n : Nat} {σ : TT} {pcs lv cs x b cl : Nat → Int32} {cm : Nat → Int64} {so : Nat → Int32} {ti : Int64} {pu : Nat → Int32} {np : Int32} {x0 x1 x2 r1 r2 : Int32} {u1 : TT}
theorem E_reset {u2 : bgT} (hR : Rel n σ pcs lv cs x b cl cm so ti pu np) (h1 : sp_TwinHart_reset n σ = u1) (h2 : bgP pcs lv cl so cm u2) : Rel n u1 u2.2.2.1 u2.2.2.2.1 u2.2.1 u2.1 b u2.2.2.2.2.1 u2.2.2.2.2.2.1 u2.2.2.2.2.2.2.1 u2.2.2.2.2.2.2.2 pu np := by
  sorry
theorem E_poke {u2 : Nat → Int32} (hn : n ≤ 4096) (hn1 : 16 ≤ n) (hR : Rel n σ pcs lv cs x b cl cm so ti pu np) (h1 : sp_TwinHart_poke n x0 x1 σ = (r1, u1)) (h2 : sp_Model_poke n x0 x1 b = (r2, u2)) : r1 = r2 ∧ Rel n u1 pcs lv cs x u2 cl cm so ti pu np := by
  sorry
theorem E_peek (hn : n ≤ 4096) (hR : Rel n σ pcs lv cs x b cl cm so ti pu np) (h1 : sp_TwinHart_peek n x0 σ = r1) (h2 : sp_Model_peek n x0 b = r2) : r1 = r2 := by
  sorry
theorem E_step {h ca tv nx : Int32} {u2 : Int32 × Int32 × Int32 × Int32 × (Nat → Int32) × (Nat → Int32) × (Nat → Int32) × (Nat → Int32) × (Nat → Int32) × (Nat → Int32) × (Nat → Int64) × (Nat → Int32) × Int64 × (Nat → Int32) × Int32} (hn : n ≤ 4096) (hn1 : 16 ≤ n) (hR : Rel n σ pcs lv cs x b cl cm so ti pu np) (h1 : sp_TwinHart_step n x0 σ = (r1, u1)) (h2 : sp_Model_step n x0 h ca tv nx pcs lv cs x b cl cm so ti pu np = (r2, u2)) : r1 = r2 ∧ Rel n u1 u2.2.2.2.2.1 u2.2.2.2.2.2.1 u2.2.2.2.2.2.2.1 u2.2.2.2.2.2.2.2.1 u2.2.2.2.2.2.2.2.2.1 u2.2.2.2.2.2.2.2.2.2.1 u2.2.2.2.2.2.2.2.2.2.2.1 u2.2.2.2.2.2.2.2.2.2.2.2.1 u2.2.2.2.2.2.2.2.2.2.2.2.2.1 u2.2.2.2.2.2.2.2.2.2.2.2.2.2.1 u2.2.2.2.2.2.2.2.2.2.2.2.2.2.2 := by
  sorry
theorem E_tick {u2 : Int64} (hR : Rel n σ pcs lv cs x b cl cm so ti pu np) (h1 : sp_TwinHart_tick n σ = u1) (h2 : sp_Model_tick ti = u2) : Rel n u1 pcs lv cs x b cl cm so u2 pu np := by
  sorry
theorem E_register (hn : n ≤ 4096) (hR : Rel n σ pcs lv cs x b cl cm so ti pu np) (h1 : sp_TwinHart_register n x0 x1 σ = r1) (h2 : sp_Model_register x0 x1 x = r2) : r1 = r2 := by
  sorry
theorem E_set {u2 : Nat → Int32} (hn : n ≤ 4096) (hn1 : 16 ≤ n) (hR : Rel n σ pcs lv cs x b cl cm so ti pu np) (h1 : sp_TwinHart_set n x0 x1 x2 σ = (r1, u1)) (h2 : sp_Model_set x0 x1 x2 x = (r2, u2)) : r1 = r2 ∧ Rel n u1 pcs lv cs u2 b cl cm so ti pu np := by
  sorry
theorem E_pc (hn : n ≤ 4096) (hR : Rel n σ pcs lv cs x b cl cm so ti pu np) (h1 : sp_TwinHart_pc n x0 σ = r1) (h2 : sp_Model_pc x0 pcs = r2) : r1 = r2 := by
  sorry
theorem E_csr (hn : n ≤ 4096) (hR : Rel n σ pcs lv cs x b cl cm so ti pu np) (h1 : sp_TwinHart_csr n x0 x1 σ = r1) (h2 : sp_Model_csr x0 x1 cs cm so ti = r2) : r1 = r2 := by
  sorry
theorem E_put {u2 : Nat → Int32} (hn : n ≤ 4096) (hn1 : 16 ≤ n) (hR : Rel n σ pcs lv cs x b cl cm so ti pu np) (h1 : sp_TwinHart_put n x0 x1 x2 σ = (r1, u1)) (h2 : sp_Model_put x0 x1 x2 cs = (r2, u2)) : r1 = r2 ∧ Rel n u1 pcs lv u2 x b cl cm so ti pu np := by
  sorry
theorem E_level (hn : n ≤ 4096) (hR : Rel n σ pcs lv cs x b cl cm so ti pu np) (h1 : sp_TwinHart_level n x0 σ = r1) (h2 : sp_Model_level x0 lv = r2) : r1 = r2 := by
  sorry
theorem E_size (hn : n ≤ 4096) (hR : Rel n σ pcs lv cs x b cl cm so ti pu np) (h1 : sp_TwinHart_size n σ = r1) (h2 : sp_Model_size np = r2) : r1 = r2 := by
  sorry
theorem E_out (hn : n ≤ 4096) (hR : Rel n σ pcs lv cs x b cl cm so ti pu np) (h1 : sp_TwinHart_out n x0 σ = r1) (h2 : sp_Model_out x0 pu np = r2) : r1 = r2 := by
  sorry
theorem E_start {u2 : bgT} (h2 : bgP (fun _ => 0) (fun _ => 0) (fun _ => 0) (fun _ => 0) (fun _ => 0) u2) : Rel n top0 u2.2.2.1 u2.2.2.2.1 u2.2.1 u2.1 (fun _ => 0) u2.2.2.2.2.1 u2.2.2.2.2.2.1 u2.2.2.2.2.2.2.1 u2.2.2.2.2.2.2.2 (fun _ => 0) 0 := by
  sorry
end Eqs
