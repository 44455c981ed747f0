-- ===== where an access goes =====
section Loc2
variable {n id : Nat} {M : TM} {f q pcs lv cs x b cl : Nat → Int32} {cm : Nat → Int64} {so : Nat → Int32} {ti : Int64} {pu : Nat → Int32} {np : Int32} {pc l t : Int32}
theorem lvb {m : Int32} (h : ¬ m &&& 6144 = 4096) : ((shr m 11) &&& 3) = 0 ∨ ((shr m 11) &&& 3) = 1 ∨ ((shr m 11) &&& 3) = 3 := by
  obtain ⟨j, hj, e⟩ := pk_andE (shr m 11) (m := 3) 2 (by decide)
  rw [e]
  have h2 : ¬ nI j = 2 := fun z => h ((mpp_iff m).mp (e.trans z))
  have : j = 0 ∨ j = 1 ∨ j = 2 ∨ j = 3 := by omega
  rcases this with rfl | rfl | rfl | rfl
  · exact Or.inl rfl
  · exact Or.inr (Or.inl rfl)
  · exact absurd rfl h2
  · exact Or.inr (Or.inr rfl)
theorem rights_eq {i : Nat} {how : Int32} (hid : id = 0 ∨ id = 1) (hH : HartR id (f, pc, l, t, q) pcs lv cs x) (hw : HowOk i how) : sp_Model_levelFor how (nI id) lv cs = (if i = 0 then l else sp_Csrs_dataLevel l q) ∧ ((if i = 0 then l else sp_Csrs_dataLevel l q) = 0 ∨ (if i = 0 then l else sp_Csrs_dataLevel l q) = 1 ∨ (if i = 0 then l else sp_Csrs_dataLevel l q) = 3) := by
  obtain ⟨h1, h2, h3, hC, hO, h6, h7⟩ := hH
  dsimp only at h1 h2 h3 hC hO h6 h7
  have hl : lv (nI id).toNatClampNeg = l := by rw [nid hid]; exact h3
  have r768 : sp_Model_raw (nI id) 768 cs = q 1 := (raw_at cs hid (N := 768) (by decide)).trans (hC.2.1 (768, 1) (by decide))
  have key : ¬ how = 0 → (if l = 3 then (if sp_Model_has 131072 (nI id) cs = 0 then l else (shr (sp_Model_raw (nI id) 768 cs) 11) &&& 3) else l) = sp_Csrs_dataLevel l q ∧ (sp_Csrs_dataLevel l q = 0 ∨ sp_Csrs_dataLevel l q = 1 ∨ sp_Csrs_dataLevel l q = 3) := by
    intro _
    unfold sp_Csrs_dataLevel sp_Csrs_has sp_Csrs_levelBefore
    rw [hs_eq hid hC, r768, lb_eq]
    by_cases c : l = 3
    · rw [if_pos c]
      by_cases c2 : (q 1 &&& 131072) = 0
      · rw [if_pos c2, if_pos rfl]; exact ⟨rfl, h7⟩
      · rw [if_neg c2, if_neg (by decide)]; exact ⟨rfl, lvb hO.2.1⟩
    · rw [if_neg c]; exact ⟨rfl, h7⟩
  unfold sp_Model_levelFor
  rw [hl]
  rcases hw with ⟨rfl, rfl⟩ | ⟨rfl, rfl⟩ | ⟨rfl, rfl⟩ | ⟨rfl, rfl⟩ | ⟨rfl, rfl⟩
  · rw [if_pos rfl, if_pos rfl]; exact ⟨rfl, h7⟩
  · rw [if_neg (show ¬ (1 : Int32) = 0 by decide), if_neg (show ¬ (1 : Nat) = 0 by decide)]; exact key (by decide)
  · rw [if_neg (show ¬ (2 : Int32) = 0 by decide), if_neg (show ¬ (2 : Nat) = 0 by decide)]; exact key (by decide)
  · rw [if_neg (show ¬ (1 : Int32) = 0 by decide), if_neg (show ¬ (3 : Nat) = 0 by decide)]; exact key (by decide)
  · rw [if_neg (show ¬ (2 : Int32) = 0 by decide), if_neg (show ¬ (4 : Nat) = 0 by decide)]; exact key (by decide)
theorem fault_of : ∀ c, c < 16 → sp_Fault_of (nI c) < 0 ∧ ¬ 0 ≤ sp_Fault_of (nI c) ∧ sp_Fault_causeOf (sp_Fault_of (nI c)) = nI c := by decide +kernel
theorem l3_le {r : Int32} (h : r = 0 ∨ r = 1 ∨ r = 3) : (3 ≤ r ↔ r = 3) ∧ (¬ r = 3 → r = 0 ∨ r = 1) := by
  rcases h with rfl | rfl | rfl <;> decide
def locF (n : Nat) (M : TM) (i : Nat) (size : Int32) (cp : Int64) : Int64 := if cp < 0 then cp else if sp_Memory_allows n cp size i M = 0 then sp_Fault_of (aF_accessFault.getD i 0) else cp
theorem loc_shape {i : Nat} {how x0 size tv : Int32} (hn : n ≤ 4096) (hid : id = 0 ∨ id = 1) (hM : MemR n M b cl cm so ti pu np) (hH : HartR id (f, pc, l, t, q) pcs lv cs x) (hw : HowOk i how) (h0 : (x0 &&& (size - 1)) = 0) :
    ∃ cp, LocR x0 tv cp (sp_Model_translate n x0 how (nI id) (-1) tv lv cs b) ∧ sp_Hart_locate n (nI id) x0 size i (M, f, pc, l, t, q) = locF n M i size cp := by
  obtain ⟨hl, hr⟩ := rights_eq hid hH hw
  obtain ⟨h1, h2, h3, hC, hO, h6, h7⟩ := hH
  dsimp only at h1 h2 h3 hC hO h6 h7
  have rs : sp_Model_raw (nI id) 384 cs = q 16 := (raw_at cs hid (N := 384) (by decide)).trans (hC.2.1 (384, 16) (by decide))
  have e : sp_Hart_locate n (nI id) x0 size i (M, f, pc, l, t, q) = (if 3 ≤ (if i = 0 then l else sp_Csrs_dataLevel l q) then locF n M i size (x0.toInt64 &&& 4294967295) else if sp_Csrs_hasPages q = 0 then locF n M i size (x0.toInt64 &&& 4294967295) else locF n M i size (sp_Pages_placeOf n (nI id) x0 i (if i = 0 then l else sp_Csrs_dataLevel l q) (M, f, pc, l, t, q))) := by
    unfold sp_Hart_locate locF
    dsimp only
    rw [if_pos h0]
    by_cases c : i = 0
    · rw [if_pos c, if_pos c]
    · rw [if_neg c, if_neg c]
  rw [e]
  clear e
  generalize (if i = 0 then l else sp_Csrs_dataLevel l q) = r at hl hr
  obtain ⟨k1, k2⟩ := l3_le hr
  by_cases c : r = 3
  · rw [if_pos (k1.mpr c)]
    refine ⟨_, ?_, rfl⟩
    unfold sp_Model_translate
    rw [hl, if_pos c]
    exact low_at x0 tv
  · rw [if_neg (fun z => c (k1.mp z))]
    by_cases g : q 16 < 0
    · have g2 : ¬ sp_Csrs_hasPages q = 0 := by
        unfold sp_Csrs_hasPages
        rw [if_neg (Int32.not_le.mpr g)]
        decide
      rw [if_neg g2]
      exact ⟨_, pages_eq hn hid hM hC hw (k2 c) hl rs g, rfl⟩
    · have g2 : sp_Csrs_hasPages q = 0 := by
        unfold sp_Csrs_hasPages
        rw [if_pos (Int32.not_lt.mp g)]
      rw [if_pos g2]
      refine ⟨_, ?_, rfl⟩
      unfold sp_Model_translate
      rw [hl, if_neg c, rs, if_neg g]
      exact low_at x0 tv
/-- either the same fault on both sides, or the same place -/
theorem loc_eq {i : Nat} {how x0 size tv : Int32} (hn : n ≤ 4096) (hid : id = 0 ∨ id = 1) (hM : MemR n M b cl cm so ti pu np) (hH : HartR id (f, pc, l, t, q) pcs lv cs x) (hw : HowOk i how) (h0 : (x0 &&& (size - 1)) = 0) :
    (∃ c, c < 16 ∧ sp_Hart_locate n (nI id) x0 size i (M, f, pc, l, t, q) = sp_Fault_of (nI c) ∧ sp_Model_translate n x0 how (nI id) (-1) tv lv cs b = (-1, nI c, x0)) ∨
    (∃ k, k < 4294967296 ∧ k % 4096 = x0.toBitVec.toNat % 4096 ∧ sp_Model_translate n x0 how (nI id) (-1) tv lv cs b = (lN k, -1, tv) ∧ sp_Hart_locate n (nI id) x0 size i (M, f, pc, l, t, q) = if sp_Memory_allows n (lN k) size i M = 0 then sp_Fault_of (aF_accessFault.getD i 0) else lN k) := by
  obtain ⟨cp, hL, e⟩ := loc_shape (tv := tv) (size := size) hn hid hM hH hw h0
  rw [e]
  unfold locF
  rcases hL with ⟨k, hk, rfl, et, hk2⟩ | ⟨c, hc, rfl, et⟩
  · right
    refine ⟨k, hk, hk2, et, ?_⟩
    rw [if_neg]
    show ¬ lN k < lN 0
    rw [pk_lLT (by omega) (by decide)]
    omega
  · left
    refine ⟨c, hc, ?_, et⟩
    rw [if_pos (fault_of c hc).1]
theorem lN_nn {k : Nat} (h : k < 2 ^ 62) : 0 ≤ lN k ∧ ¬ lN k < 0 := by
  constructor
  · show lN 0 ≤ lN k
    rw [pk_lLE (by decide) (by omega)]; omega
  · show ¬ lN k < lN 0
    rw [pk_lLT (by omega) (by decide)]; omega
theorem neg1l : ¬ (0 : Int64) ≤ -1 := by decide
theorem neg1i : ¬ (0 : Int32) ≤ -1 := by decide
theorem trap_1 (c x0 tv : Int32) : sp_Model_trap c x0 (-1) tv = (c, x0) := rfl
/-- the fetch -/
theorem fetch_eq {tv : Int32} (hn : n ≤ 4096) (hid : id = 0 ∨ id = 1) (hM : MemR n M b cl cm so ti pu np) (hH : HartR id (f, pc, l, t, q) pcs lv cs x) :
    (∃ c, c < 16 ∧ sp_Hart_locate n (nI id) pc 4 0 (M, f, pc, l, t, q) = sp_Fault_of (nI c) ∧ sp_Model_fetch n (nI id) (-1) tv pcs lv cs b = (0, nI c, pc)) ∨
    (0 ≤ sp_Hart_locate n (nI id) pc 4 0 (M, f, pc, l, t, q) ∧ sp_Model_fetch n (nI id) (-1) tv pcs lv cs b = (sp_Memory_wordAt n (sp_Hart_locate n (nI id) pc 4 0 (M, f, pc, l, t, q)) M, -1, tv)) := by
  have hpc : pcs (nI id).toNatClampNeg = pc := by rw [nid hid]; exact hH.2.1
  have hp3 : pc &&& 3 = 0 := hH.2.2.2.2.2.1
  have hp4 := and0 2 (by decide) hp3
  unfold sp_Model_fetch
  rw [hpc]
  rcases loc_eq (tv := tv) (size := 4) (i := 0) (how := 0) (x0 := pc) hn hid hM hH (Or.inl ⟨rfl, rfl⟩) hp3 with ⟨c, hc, e1, e2⟩ | ⟨k, hk, hk2, e2, e1⟩
  · left
    refine ⟨c, hc, e1, ?_⟩
    rw [e2]
    exact if_neg neg1l
  · rw [e1, e2]
    dsimp only
    rw [if_pos (lN_nn (by omega)).1]
    rcases ram_iff M hn (k := k) (by omega) with ⟨r1, r2⟩ | ⟨j, hj, hkk, r1, r2, r3⟩
    · left
      refine ⟨1, by decide, ?_, ?_⟩
      · have ha : sp_Memory_allows n (lN k) 4 0 M = 0 := by
          unfold sp_Memory_allows
          rw [if_pos r1]
          exact if_neg (by decide)
        rw [if_pos ha]; rfl
      · rw [r2, if_neg neg1i]; rfl
    · right
      have ha : ¬ sp_Memory_allows n (lN k) 4 0 M = 0 := by
        unfold sp_Memory_allows
        rw [if_neg r1]; decide
      rw [if_neg ha]
      refine ⟨(lN_nn (by omega)).1, ?_⟩
      rw [r2, if_pos (nI_pos' (by omega)), word_eq hn hM hj (by omega)]
      unfold sp_Memory_wordAt
      rw [r3, nI_clamp (by omega)]
end Loc2
