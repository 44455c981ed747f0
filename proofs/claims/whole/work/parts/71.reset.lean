-- ===== reset and the start =====
theorem map_in : ∀ e ∈ csrMap, e.1 < 4096 ∧ 1 ≤ e.2 ∧ e.2 ≤ 16 := by decide
theorem cr_0 (q : Nat → Int32) : sp_Csrs_restart q 0 = q 0 := rfl
theorem cr_k (q : Nat → Int32) {k : Nat} (h1 : 1 ≤ k) (h2 : k ≤ 16) : sp_Csrs_restart q k = 0 := by
  have : k = 1 ∨ k = 2 ∨ k = 3 ∨ k = 4 ∨ k = 5 ∨ k = 6 ∨ k = 7 ∨ k = 8 ∨ k = 9 ∨ k = 10 ∨ k = 11 ∨ k = 12 ∨ k = 13 ∨ k = 14 ∨ k = 15 ∨ k = 16 := by omega
  rcases this with rfl | rfl | rfl | rfl | rfl | rfl | rfl | rfl | rfl | rfl | rfl | rfl | rfl | rfl | rfl | rfl <;> rfl
theorem ok_0 {q : Nat → Int32} (h : ∀ k, 1 ≤ k → k ≤ 16 → q k = 0) : CsrOk q := by
  unfold CsrOk
  rw [h 1 (by decide) (by decide), h 2 (by decide) (by decide), h 3 (by decide) (by decide), h 4 (by decide) (by decide), h 5 (by decide) (by decide), h 6 (by decide) (by decide), h 10 (by decide) (by decide), h 11 (by decide) (by decide), h 12 (by decide) (by decide), h 16 (by decide) (by decide)]
  decide
set_option maxRecDepth 100000 in
theorem hr_x (f : Nat → Int32) (n : Nat) (id : Int32) (M : TM) (pc lv tv : Int32) (q : Nat → Int32) {j : Nat} (h : j < 32) : (sp_Hart_restart n id (M, f, pc, lv, tv, q)).2.1 j = 0 := by
  rcases lt32 h with rfl | rfl | rfl | rfl | rfl | rfl | rfl | rfl | rfl | rfl | rfl | rfl | rfl | rfl | rfl | rfl | rfl | rfl | rfl | rfl | rfl | rfl | rfl | rfl | rfl | rfl | rfl | rfl | rfl | rfl | rfl | rfl <;> rfl
theorem HR_reset {id : Nat} (hid : id = 0 ∨ id = 1) {s : HS} {pcs lv cs x : Nat → Int32} (hx : ∀ j, j < 64 → x j = 0) (hcs : ∀ j, j < 8192 → cs j = 0) (hp : pcs id = -2147483648) (hl : lv id = 3) (h1 : ∀ j, j < 32 → s.1 j = 0) (h2 : s.2.1 = -2147483648) (h3 : s.2.2.1 = 3) (h4 : s.2.2.2.2 0 = nI id) (h5 : ∀ k, 1 ≤ k → k ≤ 16 → s.2.2.2.2 k = 0) : HartR id s pcs lv cs x := by
  have hi : id ≤ 1 := by rcases hid with rfl | rfl <;> omega
  refine ⟨fun j hj => ?_, by rw [hp, h2], by rw [hl, h3], ⟨h4, fun e he => ?_, hcs _ (by omega), hcs _ (by omega), hcs _ (by omega)⟩, ok_0 h5, by rw [h2]; decide, by rw [h3]; exact Or.inr (Or.inr rfl)⟩
  · rw [hx _ (by omega), h1 j hj]
  · obtain ⟨a1, a2, a3⟩ := map_in e he
    rw [hcs _ (by omega), h5 _ a2 a3]
section Reset
variable {n : Nat} {σ : TT} {pcs lv cs x b cl : Nat → Int32} {cm : Nat → Int64} {so : Nat → Int32} {ti : Int64} {pu : Nat → Int32} {np : Int32} {u1 : TT}
theorem E_reset {u2 : bgT} (hR : Rel n σ pcs lv cs x b cl cm so ti pu np) (h1 : sp_TwinHart_reset n σ = u1) (h2 : bgP pcs lv cl so cm u2) : Rel n u1 u2.2.2.1 u2.2.2.2.1 u2.2.1 u2.1 b u2.2.2.2.2.1 u2.2.2.2.2.2.1 u2.2.2.2.2.2.2.1 u2.2.2.2.2.2.2.2 pu np := by
  subst h1
  obtain ⟨b1, b2, b3, b4, b5, b6, b7, b8⟩ := h2
  rw [b3, b4, b5, b6, b7, b8]
  refine ⟨⟨hR.1.1, ⟨Or.inl ⟨rfl, rfl⟩, Or.inl ⟨rfl, rfl⟩⟩, ⟨show (-1 : Int64) = comb (-1) (-1) from by decide, show (-1 : Int64) = comb (-1) (-1) from by decide, show (0 : Int64) = comb 0 0 from by decide, rfl, rfl, Or.inl rfl, Or.inl rfl⟩, hR.1.2.2.2⟩, ?_, ?_⟩
  · exact HR_reset (Or.inl rfl) b1 b2 rfl rfl (fun j hj => hr_x _ n 0 _ _ _ _ _ hj) rfl rfl hR.2.1.2.2.2.1.1 (fun k a1 a2 => cr_k _ a1 a2)
  · exact HR_reset (Or.inr rfl) b1 b2 rfl rfl (fun j hj => hr_x _ n 1 _ _ _ _ _ hj) rfl rfl hR.2.2.2.2.2.1.1 (fun k a1 a2 => cr_k _ a1 a2)
theorem E_start {u2 : bgT} (h2 : bgP (fun _ => 0) (fun _ => 0) (fun _ => 0) (fun _ => 0) (fun _ => 0) u2) : Rel n top0 u2.2.2.1 u2.2.2.2.1 u2.2.1 u2.1 (fun _ => 0) u2.2.2.2.2.1 u2.2.2.2.2.2.1 u2.2.2.2.2.2.2.1 u2.2.2.2.2.2.2.2 (fun _ => 0) 0 := by
  obtain ⟨b1, b2, b3, b4, b5, b6, b7, b8⟩ := h2
  rw [b3, b4, b5, b6, b7, b8]
  refine ⟨⟨fun i _ j hj => ?_, ⟨Or.inl ⟨rfl, rfl⟩, Or.inl ⟨rfl, rfl⟩⟩, ⟨by decide, by decide, by decide, rfl, rfl, Or.inl rfl, Or.inl rfl⟩, rfl, by decide, fun j h => absurd h (Nat.not_lt_zero j)⟩, ?_, ?_⟩
  · have : j = 0 ∨ j = 1 ∨ j = 2 ∨ j = 3 := by omega
    rcases this with rfl | rfl | rfl | rfl
    · show (0 : Int32) = byt 0 0; decide
    · show (0 : Int32) = byt 0 1; decide
    · show (0 : Int32) = byt 0 2; decide
    · show (0 : Int32) = byt 0 3; decide
  · exact HR_reset (Or.inl rfl) b1 b2 rfl rfl (fun j hj => rfl) rfl rfl rfl (fun k a1 a2 => by show csr0 0 k = 0; unfold csr0; rw [if_neg (by omega)])
  · exact HR_reset (Or.inr rfl) b1 b2 rfl rfl (fun j hj => rfl) rfl rfl rfl (fun k a1 a2 => by show csr0 1 k = 0; unfold csr0; rw [if_neg (by omega)])
end Reset
