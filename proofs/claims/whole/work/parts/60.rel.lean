-- ===== how the class's state and the reference's belong together =====
/-- two words as one number of 64 bits -/
def comb (hi lo : Int32) : Int64 := (hi.toInt64 <<< (32 : Int64)) ||| (lo.toInt64 &&& 4294967295)
/-- byte j of a word, with its sign -/
def byt (v : Int32) (j : Nat) : Int32 := (shr v (nI (8 * j))).toInt8.toInt32
/-- which CSR lies where: the reference's number, the class's field -/
def csrMap : List (Nat × Nat) := [(0x300, 1), (0x302, 2), (0x303, 3), (0x304, 4), (0x305, 5), (0x341, 6), (0x340, 7), (0x342, 8), (0x343, 9), (0x344, 10), (0x105, 11), (0x141, 12), (0x140, 13), (0x142, 14), (0x143, 15), (0x180, 16)]
def CsrR (id : Nat) (q cs : Nat → Int32) : Prop := q 0 = nI id ∧ (∀ e ∈ csrMap, cs (4096 * id + e.1) = q e.2) ∧ cs (4096 * id + 0xF11) = 0 ∧ cs (4096 * id + 0xF12) = 0 ∧ cs (4096 * id + 0xF13) = 0
/-- what the CSR always keep to -/
def CsrOk (q : Nat → Int32) : Prop := q 1 &&& (-924075) = 0 ∧ ¬ q 1 &&& 6144 = 4096 ∧ q 2 &&& (-46080) = 0 ∧ q 3 &&& (-547) = 0 ∧ q 4 &&& (-2731) = 0 ∧ q 5 &&& 3 = 0 ∧ q 6 &&& 3 = 0 ∧ q 10 &&& (-547) = 0 ∧ q 11 &&& 3 = 0 ∧ q 12 &&& 3 = 0 ∧ q 16 &&& 2143289344 = 0
def HartR (id : Nat) (s : HS) (pcs lv cs x : Nat → Int32) : Prop := (∀ j, j < 32 → x (32 * id + j) = s.1 j) ∧ pcs id = s.2.1 ∧ lv id = s.2.2.1 ∧ CsrR id s.2.2.2.2 cs ∧ CsrOk s.2.2.2.2 ∧ s.2.1 &&& 3 = 0 ∧ (s.2.2.1 = 0 ∨ s.2.2.1 = 1 ∨ s.2.2.1 = 3)
def ClR (n : Nat) (a : Int64) (b : Int32) : Prop := (a = -1 ∧ b = -1) ∨ ∃ q, q < n ∧ a = lN (2147483648 + 4 * q) ∧ b = nI (4 * q)
def MemR (n : Nat) (M : TM) (b cl : Nat → Int32) (cm : Nat → Int64) (so : Nat → Int32) (ti : Int64) (pu : Nat → Int32) (np : Int32) : Prop :=
  (∀ i, i < n → ∀ j, j < 4 → b (4 * i + j) = byt (M.2.1 i) j) ∧ (ClR n (M.2.2.2.2 0) (cl 0) ∧ ClR n (M.2.2.2.2 1) (cl 1)) ∧
  (cm 0 = comb (M.1 3) (M.1 2) ∧ cm 1 = comb (M.1 5) (M.1 4) ∧ ti = comb (M.1 7) (M.1 6) ∧ so 0 = M.1 0 ∧ so 1 = M.1 1 ∧ (M.1 0 = 0 ∨ M.1 0 = 1) ∧ (M.1 1 = 0 ∨ M.1 1 = 1)) ∧
  np = M.2.2.2.1 ∧ (0 ≤ M.2.2.2.1 ∧ M.2.2.2.1 ≤ 256) ∧ (∀ j : Nat, j < M.2.2.2.1.toNatClampNeg → pu j = M.2.2.1 j &&& 255)
def Rel (n : Nat) (σ : TT) (pcs lv cs x b cl : Nat → Int32) (cm : Nat → Int64) (so : Nat → Int32) (ti : Int64) (pu : Nat → Int32) (np : Int32) : Prop :=
  MemR n σ.1 b cl cm so ti pu np ∧ HartR 0 σ.2.1 pcs lv cs x ∧ HartR 1 σ.2.2 pcs lv cs x
section RelS
variable {n : Nat} {σ : TT} {pcs lv cs x b cl : Nat → Int32} {cm : Nat → Int64} {so : Nat → Int32} {ti : Int64} {pu : Nat → Int32} {np : Int32}
theorem Rel.hp (h : Rel n σ pcs lv cs x b cl cm so ti pu np) : 0 ≤ σ.1.2.2.2.1 ∧ σ.1.2.2.2.1 ≤ 256 := h.1.2.2.2.2.1
theorem Rel.hp0 (h : Rel n σ pcs lv cs x b cl cm so ti pu np) : 0 ≤ σ.1.2.2.2.1 := h.1.2.2.2.2.1.1
theorem Rel.hq (h : Rel n σ pcs lv cs x b cl cm so ti pu np) : 0 ≤ np ∧ np ≤ 256 := by rw [h.1.2.2.2.1]; exact h.1.2.2.2.2.1
theorem Rel.hpc (h : Rel n σ pcs lv cs x b cl cm so ti pu np) : ∀ j : Nat, j < 2 → pcs j &&& 3 = 0 := by
  intro j hj
  have : j = 0 ∨ j = 1 := by omega
  rcases this with rfl | rfl
  · rw [h.2.1.2.1]; exact h.2.1.2.2.2.2.2.1
  · rw [h.2.2.2.1]; exact h.2.2.2.2.2.2.2.1
end RelS
theorem lw_gt {L j : Nat} (hL : L ≤ 2049) (h1 : 1 ≤ j) (h : L < j + 4) (hj : j ≤ 4096 := by omega) : nI L - 4 < nI j := by
  rw [Int32.lt_iff_toInt_lt, show (4 : Int32) = nI 4 from rfl, pk_sub_toInt (by omega) (by omega), nI_toInt (by omega)]
  omega
theorem lw_le {L j : Nat} (hL : L ≤ 2049) (hj : j ≤ 4096) (c : ¬ nI L - 4 < nI j) : j + 4 ≤ L := by
  rw [Int32.lt_iff_toInt_lt, show (4 : Int32) = nI 4 from rfl, pk_sub_toInt (by omega) (by omega), nI_toInt (by omega)] at c
  omega
