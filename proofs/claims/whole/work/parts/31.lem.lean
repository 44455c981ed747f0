-- ===== the reference's world, and small facts that its walks ask for =====
abbrev wR (a : Nat → Nat) (k : Nat → ClassId) (n : Nat) (h ca tv nx : Int32) (pcs lv cs x b cl : Nat → Int32) (cm : Nat → Int64) (so : Nat → Int32) (ti : Int64) (pu : Nat → Int32) (np : Int32) : va_W := [(a 0, .inr (5, [.int (nI n), .ref (a 1), .ref (a 2), .ref (a 3), .ref (a 4), .ref (a 5), .ref (a 6), .ref (a 7), .ref (a 8), .long ti, .ref (a 9), .int np, .int h, .int ca, .int tv, .int nx])), (a 1, .inl (k 0, 16384, .inl b)), (a 2, .inl (k 1, 64, .inl x)), (a 3, .inl (k 2, 2, .inl pcs)), (a 4, .inl (k 3, 2, .inl lv)), (a 5, .inl (k 4, 8192, .inl cs)), (a 6, .inl (k 5, 2, .inl cl)), (a 7, .inl (k 6, 2, .inr (.inl cm))), (a 8, .inl (k 7, 2, .inl so)), (a 9, .inl (k 8, 256, .inl pu))]
abbrev tyR (k : Nat → ClassId) : List (ClassId × FieldType) := [(k 0, .byte), (k 1, .int), (k 2, .int), (k 3, .int), (k 4, .int), (k 5, .int), (k 6, .long), (k 7, .int), (k 8, .int)]
def vpw (x : Int32) : Prop := vp_in x 16384 ∧ vp_in (x + 1) 16384 ∧ vp_in (x + 2) 16384 ∧ vp_in (x + 3) 16384
theorem vp_add {j k N : Nat} (h : j + k < N) (hN : N < 2 ^ 31) : vp_in (nI j + nI k) N := by
  rw [nI_add]; exact vp_in_nI h hN
theorem vpw_nI {j : Nat} (h : j + 3 < 16384) : vpw (nI j) := ⟨vp_in_nI (by omega) (by decide), vp_add (k := 1) (by omega) (by decide), vp_add (k := 2) (by omega) (by decide), vp_add (k := 3) (by omega) (by decide)⟩
theorem ll_ne {b : Int32} (h : ¬ b = 0) : ¬ b.toInt64 = 0 := by
  intro q
  apply h
  apply Int32.toInt_inj.mp
  rw [← Int32.toInt_toInt64, q]
  rfl
theorem vp_csr {x y : Int32} (h : x = 0 ∨ x = 1) (hy : vp_in y 4096) : vp_in (4096 * x + y) 8192 := by
  obtain ⟨j, hj, rfl⟩ := vp_in_of hy (by decide)
  rcases h with rfl | rfl
  · show vp_in (nI 4096 * nI 0 + nI j) 8192
    rw [pk_mul, nI_add]; exact vp_in_nI (by omega) (by decide)
  · show vp_in (nI 4096 * nI 1 + nI j) 8192
    rw [pk_mul, nI_add]; exact vp_in_nI (by omega) (by decide)
theorem vp_k2 {k : Int32} (hk : vp_in k 8) (c : ¬ 2 ≤ k) : vp_in k 2 := by
  obtain ⟨j, hj, rfl⟩ := vp_in_of hk (by decide)
  rw [show (2 : Int32) = nI 2 from rfl, nI_leI (by decide) (by omega)] at c
  exact vp_in_nI (by omega) (by decide)
theorem vp_k6 {k : Int32} (hk : vp_in k 8) (c : 2 ≤ k) (c2 : k ≤ 5) : vp_in ((k - 2) / 2) 2 := by
  obtain ⟨j, hj, rfl⟩ := vp_in_of hk (by decide)
  rw [show (2 : Int32) = nI 2 from rfl] at c ⊢
  rw [show (5 : Int32) = nI 5 from rfl] at c2
  rw [nI_leI (by decide) (by omega)] at c
  rw [nI_leI (by omega) (by decide)] at c2
  rw [pk_sub c, pk_div (by omega) (by decide) (by decide)]
  exact vp_in_nI (by omega) (by decide)
theorem vp_x {h k : Int32} (hh : h = 0 ∨ h = 1) (hk : vp_in k 32) : vp_in (32 * h + k) 64 := by
  obtain ⟨j, hj, rfl⟩ := vp_in_of hk (by decide)
  rcases hh with rfl | rfl
  · show vp_in (nI 32 * nI 0 + nI j) 64
    rw [pk_mul, nI_add]; exact vp_in_nI (by omega) (by decide)
  · show vp_in (nI 32 * nI 1 + nI j) 64
    rw [pk_mul, nI_add]; exact vp_in_nI (by omega) (by decide)
theorem vp_1m {h : Int32} (hh : h = 0 ∨ h = 1) : vp_in (1 - h) 2 := by
  rcases hh with rfl | rfl <;> (unfold vp_in; decide)
theorem vp_np {p : Int32} (hp : 0 ≤ p ∧ p ≤ 256) (c : ¬ 256 ≤ p) : vp_in p 256 := vp_pr hp.1 c
theorem vp_out {p i : Int32} (hp : 0 ≤ p ∧ p ≤ 256) (c : ¬ i < 0) (c2 : ¬ p ≤ i) : vp_in i 256 := by
  rw [vp_in_iff]
  obtain ⟨h1, h2⟩ := hp
  rw [Int32.le_iff_toInt_le] at h1 h2 c2
  rw [Int32.lt_iff_toInt_lt] at c
  have e0 : (0 : Int32).toInt = 0 := rfl
  have e1 : (256 : Int32).toInt = 256 := rfl
  omega
theorem vp_32 {i : Int32} (c : ¬ i < 0) (c2 : ¬ 32 ≤ i) : vp_in i 32 := by
  rw [vp_in_iff]
  rw [Int32.lt_iff_toInt_lt] at c
  rw [Int32.le_iff_toInt_le] at c2
  have e0 : (0 : Int32).toInt = 0 := rfl
  have e1 : (32 : Int32).toInt = 32 := rfl
  omega
theorem vp_xr {x i : Int32} (h : x = 0 ∨ x = 1) (c : ¬ i < 0) (c2 : ¬ 32 ≤ i) : vp_in (32 * x + i) 64 := vp_x h (vp_32 c c2)
theorem vp_xs {x i : Int32} (h : x = 0 ∨ x = 1) (c : ¬ i < 1) (c2 : i ≤ 31) : vp_in (32 * x + i) 64 := by
  refine vp_x h ?_
  rw [vp_in_iff]
  rw [Int32.lt_iff_toInt_lt] at c
  rw [Int32.le_iff_toInt_le] at c2
  have e0 : (1 : Int32).toInt = 1 := rfl
  have e1 : (31 : Int32).toInt = 31 := rfl
  omega
theorem ite_P {α : Type} {P : α → Prop} {c : Prop} {_ : Decidable c} {a b : α} (ha : c → P a) (hb : ¬ c → P b) : P (if c then a else b) := by
  by_cases h : c
  · rw [if_pos h]; exact ha h
  · rw [if_neg h]; exact hb h
theorem lN_tn {n : Nat} (h : n < 2 ^ 64) : (lN n).toBitVec.toNat = n := by
  show (BitVec.ofNat 64 n).toNat = n
  rw [BitVec.toNat_ofNat]
  exact Nat.mod_eq_of_lt h
theorem kn_of {n : Nat} {x0 : Int32} (hn : n ≤ 4096) (c1 : ¬ x0 < 0) (c2 : x0 < nI n) : ∃ j, j < n ∧ x0 = nI j := by
  obtain ⟨j, hj, rfl⟩ := nI_of c1
  rw [nI_ltI hj (by omega)] at c2
  exact ⟨j, c2, rfl⟩
theorem vpw_k {n : Nat} {x0 : Int32} (hn : n ≤ 4096) (c1 : ¬ x0 < 0) (c2 : x0 < nI n) : vpw (4 * x0) := by
  obtain ⟨j, hj, rfl⟩ := kn_of hn c1 c2
  show vpw (nI 4 * nI j)
  rw [pk_mul]
  exact vpw_nI (by omega)
theorem sb_poke {n : Nat} {x0 : Int32} (hn : n ≤ 4096) (c1 : ¬ x0 < 0) (c2 : x0 < nI n) : ∀ k : Nat, k < (4 : Int32).toNatClampNeg → vp_in (4 * x0 + nI k) 16384 := by
  obtain ⟨j, hj, rfl⟩ := kn_of hn c1 c2
  intro k hk
  have : (4 : Int32).toNatClampNeg = 4 := rfl
  rw [this] at hk
  show vp_in (nI 4 * nI j + nI k) 16384
  rw [pk_mul]
  exact vp_add (by omega) (by decide)
