-- ===== load, store, claim: the same on both sides =====
section Mem2
variable {n id : Nat} {M : TM} {f q pcs lv cs x b cl : Nat → Int32} {cm : Nat → Int64} {so : Nat → Int32} {ti : Int64} {pu : Nat → Int32} {np : Int32} {pc l t : Int32}
theorem al_1 (x0 : Int32) : (x0 &&& ((1 : Int32) - 1)) = 0 := by rw [show ((1 : Int32) - 1) = 0 from by decide, Int32.and_zero]
theorem al_2 {x0 : Int32} (h : (x0 &&& ((2 : Int32) - 1)) = 0) : x0.toBitVec.toNat % 2 = 0 := and0 1 (by decide) h
theorem al_4 {x0 : Int32} (h : (x0 &&& ((4 : Int32) - 1)) = 0) : x0.toBitVec.toNat % 4 = 0 := and0 2 (by decide) h
theorem m1lt : (-1 : Int32) < 0 := by decide
theorem nI_nn {j : Nat} (h : j < 2 ^ 31) : ¬ nI j < 0 := nI_pos h
theorem load_eq {x0 s tv : Int32} (hs : s = 1 ∨ s = 2 ∨ s = 4) (hn : n ≤ 4096) (hid : id = 0 ∨ id = 1) (hM : MemR n M b cl cm so ti pu np) (hH : HartR id (f, pc, l, t, q) pcs lv cs x) :
    (∃ c, c < 16 ∧ sp_Hart_locate n (nI id) x0 s 1 (M, f, pc, l, t, q) = sp_Fault_of (nI c) ∧ sp_Model_load n x0 s (nI id) (-1) tv lv cs b cm so ti = (0, nI c, x0)) ∨
    (0 ≤ sp_Hart_locate n (nI id) x0 s 1 (M, f, pc, l, t, q) ∧ sp_Model_load n x0 s (nI id) (-1) tv lv cs b cm so ti = (sp_Memory_load n (sp_Hart_locate n (nI id) x0 s 1 (M, f, pc, l, t, q)) s M, -1, tv)) := by
  have hw : HowOk 1 1 := Or.inr (Or.inl ⟨rfl, rfl⟩)
  by_cases h0 : (x0 &&& (s - 1)) = 0
  · -- aligned
    have hp : sp_Model_place n x0 s 1 (nI id) (-1) tv lv cs b = sp_Model_translate n x0 1 (nI id) (-1) tv lv cs b := by
      unfold sp_Model_place
      rw [if_pos h0]
    rcases loc_eq (tv := tv) (size := s) (i := 1) (how := 1) (x0 := x0) hn hid hM hH hw h0 with ⟨c, hc, e1, e2⟩ | ⟨k, hk, hk2, e2, e1⟩
    · left
      refine ⟨c, hc, e1, ?_⟩
      rw [e2] at hp
      unfold sp_Model_load
      rcases hs with rfl | rfl | rfl
      · rw [if_pos rfl, hp]; exact if_neg neg1l
      · rw [if_neg (by decide), if_pos rfl, hp]; exact if_neg neg1l
      · rw [if_neg (by decide), if_neg (by decide), hp]; exact if_neg neg1l
    · rw [e2] at hp
      rw [e1]
      unfold sp_Model_load
      have nn := (lN_nn (k := k) (by omega)).1
      rcases ram_iff M hn (k := k) (by omega) with ⟨r1, r2⟩ | ⟨j, hj, hkk, r1, r2, r3⟩
      · rcases hs with rfl | rfl | rfl
        · left
          refine ⟨5, by decide, ?_, ?_⟩
          · have ha : sp_Memory_allows n (lN k) 1 1 M = 0 := by
              unfold sp_Memory_allows
              rw [if_pos r1]; rfl
            rw [if_pos ha]; rfl
          · rw [if_pos rfl, hp]; dsimp only; rw [if_pos nn, r2, if_pos m1lt]; rfl
        · left
          refine ⟨5, by decide, ?_, ?_⟩
          · have ha : sp_Memory_allows n (lN k) 2 1 M = 0 := by
              unfold sp_Memory_allows
              rw [if_pos r1]; rfl
            rw [if_pos ha]; rfl
          · rw [if_neg (by decide), if_pos rfl, hp]; dsimp only; rw [if_pos nn, r2, if_pos m1lt]; rfl
        · have k4 : k % 4 = 0 := by have := al_4 h0; omega
          have ha : sp_Memory_allows n (lN k) 4 1 M = if sp_Clint_slotAt (lN k) = -1 then 0 else 1 := by
            unfold sp_Memory_allows
            rw [if_pos r1]; rfl
          rcases slot_eq hk k4 with ⟨sl, hsl, z1, z2, z3⟩ | ⟨z1, z2⟩
          · right
            have zn : ¬ sp_Clint_slotAt (lN k) = -1 := by
              rw [z1]; intro z
              have := nI_pos' (n := sl) (by omega)
              rw [z] at this; exact neg1i this
            rw [ha, if_neg zn, if_neg (by decide)]
            refine ⟨nn, ?_⟩
            rw [if_neg (by decide), if_neg (by decide), hp]
            dsimp only
            rw [if_pos nn, r2, if_pos m1lt, z2, if_pos (nI_pos' (by omega)), cw_eq hM hsl]
            unfold sp_Memory_load
            rw [if_pos r1, if_neg zn, z1, nI_clamp (by omega)]
          · left
            refine ⟨5, by decide, ?_, ?_⟩
            · rw [ha, if_pos z1, if_pos rfl]; rfl
            · rw [if_neg (by decide), if_neg (by decide), hp]; dsimp only; rw [if_pos nn, r2, if_pos m1lt, z2, if_neg neg1i]; rfl
      · right
        have ha : ¬ sp_Memory_allows n (lN k) s 1 M = 0 := by
          unfold sp_Memory_allows
          rw [if_neg r1]; decide
        rw [if_neg ha]
        refine ⟨nn, ?_⟩
        have np' : ¬ nI j < 0 := nI_nn (by omega)
        rcases hs with rfl | rfl | rfl
        · rw [if_pos rfl, hp]; dsimp only; rw [if_pos nn, r2, if_neg np', ram_ld1 hn hM hj, hkk]
        · rw [if_neg (by decide), if_pos rfl, hp]; dsimp only
          rw [if_pos nn, r2, if_neg np', ram_ld2 hn hM hj (by have := al_2 h0; omega), hkk]
        · rw [if_neg (by decide), if_neg (by decide), hp]; dsimp only
          rw [if_pos nn, r2, if_neg np', ram_ld4 hn hM hj (by have := al_4 h0; omega), hkk]
  · left
    refine ⟨4, by decide, ?_, ?_⟩
    · unfold sp_Hart_locate
      rw [if_neg h0]; rfl
    · have hp : sp_Model_place n x0 s 1 (nI id) (-1) tv lv cs b = (-1, 4, x0) := by
        unfold sp_Model_place
        rw [if_neg h0]; rfl
      unfold sp_Model_load
      rcases hs with rfl | rfl | rfl
      · rw [if_pos rfl, hp]; exact if_neg neg1l
      · rw [if_neg (by decide), if_pos rfl, hp]; exact if_neg neg1l
      · rw [if_neg (by decide), if_neg (by decide), hp]; exact if_neg neg1l
/-- the word that a store makes -/
def nwd (m sh v w : Int32) : Int32 := (w &&& ((shl m sh) ^^^ (-1))) ||| ((shl v sh) &&& (shl m sh))
theorem sb_1 {k : Nat} (v : Int32) (hk : k < 2 ^ 30) (i : Nat) : sp_Model_setBytes (nI k) 1 v b i = if i = k then byt v 0 else b i := by
  unfold sp_Model_setBytes
  rw [if_pos rfl, pk_vb, show nI k + 0 = nI k from nI_add _ 0, nI_clamp (by omega)]
  by_cases e : i = k
  · rw [if_pos e, e]; exact pk_us
  · rw [if_neg e, pk_un e]
theorem sb_2 {k : Nat} (v : Int32) (hk : k < 2 ^ 30) (i : Nat) : sp_Model_setBytes (nI k) 2 v b i = if i = k then byt v 0 else if i = k + 1 then byt v 1 else b i := by
  unfold sp_Model_setBytes
  rw [if_neg (by decide), if_pos rfl, pk_vb, pk_vb, show nI k + 0 = nI k from nI_add _ 0, show nI k + 1 = nI (k + 1) from nI_add _ 1, nI_clamp (by omega), nI_clamp (by omega)]
  by_cases e : i = k
  · rw [if_pos e, e, pk_un (by omega)]; exact pk_us
  · rw [if_neg e]
    by_cases e2 : i = k + 1
    · rw [if_pos e2, e2]; exact pk_us
    · rw [if_neg e2, pk_un e2, pk_un e]
theorem ram_st {j : Nat} {s v : Int32} (hs : s = 1 ∨ s = 2 ∨ s = 4) (hn : n ≤ 4096) (hM : MemR n M b cl cm so ti pu np) (hj : j < 4 * n) (h2 : s = 2 → j % 2 = 0) (h4 : s = 4 → j % 4 = 0) :
    ∀ i, i < n → ∀ k, k < 4 → sp_Model_setBytes (nI j) s v b (4 * i + k) = byt (upd M.2.1 (j / 4) (nwd (sp_Memory_maskOf s) (nI (8 * (j % 4))) v (M.2.1 (j / 4))) i) k := by
  intro i hi k hk
  have k4 : k = 0 ∨ k = 1 ∨ k = 2 ∨ k = 3 := by omega
  have hb := hM.1 i hi k hk
  rcases hs with rfl | rfl | rfl
  · rw [sb_1 v (by omega), mk_1]
    by_cases e : i = j / 4
    · subst e
      rw [pk_us]
      unfold nwd
      rcases low4 (j := j) with h | h | h | h <;> rw [h]
      · rcases k4 with rfl | rfl | rfl | rfl
        · rw [if_pos (by omega)]; exact (st1_0_0 _ _).symm
        · rw [if_neg (by omega), hb]; exact (st1_0_1 _ _).symm
        · rw [if_neg (by omega), hb]; exact (st1_0_2 _ _).symm
        · rw [if_neg (by omega), hb]; exact (st1_0_3 _ _).symm
      · rcases k4 with rfl | rfl | rfl | rfl
        · rw [if_neg (by omega), hb]; exact (st1_1_0 _ _).symm
        · rw [if_pos (by omega)]; exact (st1_1_1 _ _).symm
        · rw [if_neg (by omega), hb]; exact (st1_1_2 _ _).symm
        · rw [if_neg (by omega), hb]; exact (st1_1_3 _ _).symm
      · rcases k4 with rfl | rfl | rfl | rfl
        · rw [if_neg (by omega), hb]; exact (st1_2_0 _ _).symm
        · rw [if_neg (by omega), hb]; exact (st1_2_1 _ _).symm
        · rw [if_pos (by omega)]; exact (st1_2_2 _ _).symm
        · rw [if_neg (by omega), hb]; exact (st1_2_3 _ _).symm
      · rcases k4 with rfl | rfl | rfl | rfl
        · rw [if_neg (by omega), hb]; exact (st1_3_0 _ _).symm
        · rw [if_neg (by omega), hb]; exact (st1_3_1 _ _).symm
        · rw [if_neg (by omega), hb]; exact (st1_3_2 _ _).symm
        · rw [if_pos (by omega)]; exact (st1_3_3 _ _).symm
    · rw [pk_un e, if_neg (by omega)]; exact hb
  · have j2 := h2 rfl
    rw [sb_2 v (by omega), mk_2]
    by_cases e : i = j / 4
    · subst e
      rw [pk_us]
      unfold nwd
      have : j % 4 = 0 ∨ j % 4 = 2 := by omega
      rcases this with h | h <;> rw [h]
      · rcases k4 with rfl | rfl | rfl | rfl
        · rw [if_pos (by omega)]; exact (st2_0_0 _ _).symm
        · rw [if_neg (by omega), if_pos (by omega)]; exact (st2_0_1 _ _).symm
        · rw [if_neg (by omega), if_neg (by omega), hb]; exact (st2_0_2 _ _).symm
        · rw [if_neg (by omega), if_neg (by omega), hb]; exact (st2_0_3 _ _).symm
      · rcases k4 with rfl | rfl | rfl | rfl
        · rw [if_neg (by omega), if_neg (by omega), hb]; exact (st2_2_0 _ _).symm
        · rw [if_neg (by omega), if_neg (by omega), hb]; exact (st2_2_1 _ _).symm
        · rw [if_pos (by omega)]; exact (st2_2_2 _ _).symm
        · rw [if_neg (by omega), if_pos (by omega)]; exact (st2_2_3 _ _).symm
    · rw [pk_un e, if_neg (by omega), if_neg (by omega)]; exact hb
  · have j4 := h4 rfl
    have e4 := sb_4 (b := b) (k := j / 4) v (by omega) i k hk
    rw [show 4 * (j / 4) = j from by omega] at e4
    rw [e4, mk_4, j4]
    by_cases e : i = j / 4
    · rw [if_pos e, ← e, pk_us]
      exact congrArg (fun z => byt z k) (st4_0 _ _).symm
    · rw [if_neg e, pk_un e]; exact hb
theorem ClR_no (n : Nat) : ClR n (-1) (-1) := Or.inl ⟨rfl, rfl⟩
/-- a store to RAM -/
theorem ram_store {j : Nat} {s v : Int32} {cl2 : Nat → Int32} (hs : s = 1 ∨ s = 2 ∨ s = 4) (hn : n ≤ 4096) (hM : MemR n M b cl cm so ti pu np) (hj : j < 4 * n) (h2 : s = 2 → j % 2 = 0) (h4 : s = 4 → j % 4 = 0) (hc : cl2 0 = -1 ∧ cl2 1 = -1) (M2 : TM) (hm : M2.1 = M.1 ∧ M2.2.1 = M.2.1 ∧ M2.2.2.1 = M.2.2.1 ∧ M2.2.2.2.1 = M.2.2.2.1) :
    MemR n (sp_Memory_store n (lN (2147483648 + j)) s v M2) (sp_Model_setBytes (nI j) s v b) cl2 cm so ti pu np := by
  obtain ⟨w1, w2, w3, w4, w5⟩ := M2
  obtain ⟨rfl, rfl, rfl, rfl⟩ := hm
  unfold sp_Memory_store
  rcases ram_iff (M.1, M.2.1, M.2.2.1, M.2.2.2.1, w5) hn (k := 2147483648 + j) (by omega) with ⟨r1, r2⟩ | ⟨j2, hj2, hkk, r1, r2, r3⟩
  · exfalso
    unfold sp_Model_inRam at r2
    rw [nI_l (by omega), show (4 : Int64) = lN 4 from rfl, lN_mul, show (2147483648 : Int64) = lN 2147483648 from rfl, if_neg (fun z => by have := (lsub_neg (by omega) (by omega)).mp z; omega), lN_sub (by omega), if_neg (fun z => by have := (pk_lLE (by omega) (by omega)).mp z; omega), lN_i] at r2
    have z := nI_pos' (n := 2147483648 + j - 2147483648) (by omega)
    rw [r2] at z
    exact neg1i z
  · rw [if_neg r1, r3, sh_at (by omega), nI_clamp (by omega), show j2 = j from by omega]
    have R := ram_st (v := v) hs hn hM hj h2 h4
    refine ⟨R, ?_, hM.2.2⟩
    rw [hc.1, hc.2]
    exact ⟨ClR_no n, ClR_no n⟩
/-- the console -/
theorem print_eq {v : Int32} (hM : MemR n M b cl cm so ti pu np) : MemR n (sp_Memory_print n v M) b cl cm so ti (if 256 ≤ np then pu else upd pu np.toNatClampNeg (v &&& 255)) (if 256 ≤ np then np else np + 1) := by
  obtain ⟨m1, m2, m3, m4, m5, m6⟩ := hM
  unfold sp_Memory_print
  rw [m4]
  by_cases c : 256 ≤ M.2.2.2.1
  · rw [if_pos c, if_pos c, if_pos c]
    exact ⟨m1, m2, m3, rfl, m5, m6⟩
  · rw [if_neg c, if_neg c, if_neg c]
    obtain ⟨j, hj, e⟩ := nI_of (x := M.2.2.2.1) (Int32.not_lt.mpr m5.1)
    rw [e] at c m6 ⊢
    have hj2 : j < 256 := by
      have c2 : ¬ nI 256 ≤ nI j := c
      rw [nI_leI (by decide) hj] at c2
      omega
    rw [nI_clamp hj] at m6 ⊢
    refine ⟨m1, m2, m3, rfl, ?_, ?_⟩
    · show 0 ≤ nI j + 1 ∧ nI j + 1 ≤ 256
      rw [nI_1]
      refine ⟨nI_pos' (by omega), ?_⟩
      show nI (j + 1) ≤ nI 256
      rw [nI_leI (by omega) (by decide)]
      omega
    · intro k hk
      have hk2 : k < (nI j + 1).toNatClampNeg := hk
      rw [nI_1, nI_clamp (by omega)] at hk2
      show upd pu j (v &&& 255) k = upd M.2.2.1 j (vp_nar .byte v.toInt8.toInt32) k &&& 255
      by_cases e2 : k = j
      · rw [e2, pk_us, pk_us, pk_vb, by_low]
      · rw [pk_un e2, pk_un e2]; exact m6 k (by omega)
def StR (n : Nat) (M2 : TM) (tv : Int32) (S : Int32 × Int32 × (Nat → Int32) × (Nat → Int32) × (Nat → Int64) × (Nat → Int32) × Int64 × (Nat → Int32) × Int32) : Prop := ∃ b2 cl2 cm2 so2 ti2 pu2 np2, S = (-1, tv, b2, cl2, cm2, so2, ti2, pu2, np2) ∧ MemR n M2 b2 cl2 cm2 so2 ti2 pu2 np2
theorem dc_01 (c : Nat → Int32) : (upd (upd c 0 (-1)) 1 (-1)) 0 = -1 ∧ (upd (upd c 0 (-1)) 1 (-1)) 1 = -1 := ⟨rfl, rfl⟩
theorem store_eq {x0 s v tv : Int32} (hs : s = 1 ∨ s = 2 ∨ s = 4) (hn : n ≤ 4096) (hid : id = 0 ∨ id = 1) (hM : MemR n M b cl cm so ti pu np) (hH : HartR id (f, pc, l, t, q) pcs lv cs x) :
    (∃ c, c < 16 ∧ sp_Hart_locate n (nI id) x0 s 2 (M, f, pc, l, t, q) = sp_Fault_of (nI c) ∧ sp_Model_store n x0 s v (nI id) (-1) tv lv cs b cl cm so ti pu np = (nI c, x0, b, cl, cm, so, ti, pu, np)) ∨
    (0 ≤ sp_Hart_locate n (nI id) x0 s 2 (M, f, pc, l, t, q) ∧ StR n (sp_Memory_store n (sp_Hart_locate n (nI id) x0 s 2 (M, f, pc, l, t, q)) s v M) tv (sp_Model_store n x0 s v (nI id) (-1) tv lv cs b cl cm so ti pu np)) := by
  have hw : HowOk 2 2 := Or.inr (Or.inr (Or.inl ⟨rfl, rfl⟩))
  by_cases h0 : (x0 &&& (s - 1)) = 0
  · have hp : sp_Model_place n x0 s 2 (nI id) (-1) tv lv cs b = sp_Model_translate n x0 2 (nI id) (-1) tv lv cs b := by
      unfold sp_Model_place
      rw [if_pos h0]
    rcases loc_eq (tv := tv) (size := s) (i := 2) (how := 2) (x0 := x0) hn hid hM hH hw h0 with ⟨c, hc, e1, e2⟩ | ⟨k, hk, hk2, e2, e1⟩
    · left
      refine ⟨c, hc, e1, ?_⟩
      rw [e2] at hp
      unfold sp_Model_store
      rcases hs with rfl | rfl | rfl
      · rw [if_pos rfl, hp]; exact if_neg neg1l
      · rw [if_neg (by decide), if_pos rfl, hp]; exact if_neg neg1l
      · rw [if_neg (by decide), if_neg (by decide), hp]; exact if_neg neg1l
    · rw [e2] at hp
      rw [e1]
      unfold sp_Model_store
      have nn := (lN_nn (k := k) (by omega)).1
      rcases ram_iff M hn (k := k) (by omega) with ⟨r1, r2⟩ | ⟨j, hj, hkk, r1, r2, r3⟩
      · rcases hs with rfl | rfl | rfl
        · have ha : sp_Memory_allows n (lN k) 1 2 M = if lN k = 268435456 then 1 else 0 := by
            unfold sp_Memory_allows
            rw [if_pos r1]; rfl
          by_cases ck : lN k = 268435456
          · right
            rw [ha, if_pos ck, if_neg (by decide)]
            refine ⟨nn, ?_⟩
            rw [if_pos rfl, hp]; dsimp only; rw [if_pos nn, r2, if_pos m1lt, if_pos ck]
            unfold sp_Memory_store
            rw [if_pos r1, if_pos ck]
            dsimp only
            have P := print_eq (v := v) hM
            by_cases c : 256 ≤ np
            · rw [if_pos c, if_pos c] at P
              rw [if_pos c]
              exact ⟨b, cl, cm, so, ti, pu, np, rfl, P⟩
            · rw [if_neg c, if_neg c] at P
              rw [if_neg c]
              exact ⟨b, cl, cm, so, ti, _, _, rfl, P⟩
          · left
            refine ⟨7, by decide, ?_, ?_⟩
            · rw [ha, if_neg ck, if_pos rfl]; rfl
            · rw [if_pos rfl, hp]; dsimp only; rw [if_pos nn, r2, if_pos m1lt, if_neg ck]; rfl
        · left
          refine ⟨7, by decide, ?_, ?_⟩
          · have ha : sp_Memory_allows n (lN k) 2 2 M = 0 := by
              unfold sp_Memory_allows
              rw [if_pos r1]; rfl
            rw [if_pos ha]; rfl
          · rw [if_neg (by decide), if_pos rfl, hp]; dsimp only; rw [if_pos nn, r2, if_pos m1lt]; rfl
        · have k4 : k % 4 = 0 := by have := al_4 h0; omega
          have ha : sp_Memory_allows n (lN k) 4 2 M = if sp_Clint_slotAt (lN k) = -1 then 0 else 1 := by
            unfold sp_Memory_allows
            rw [if_pos r1]; rfl
          rcases slot_eq hk k4 with ⟨sl, hsl, z1, z2, z3⟩ | ⟨z1, z2⟩
          · right
            have zn : ¬ sp_Clint_slotAt (lN k) = -1 := by
              rw [z1]; intro z
              have := nI_pos' (n := sl) (by omega)
              rw [z] at this; exact neg1i this
            rw [ha, if_neg zn, if_neg (by decide)]
            refine ⟨nn, ?_⟩
            rw [if_neg (by decide), if_neg (by decide), hp]
            dsimp only
            rw [if_pos nn, r2, if_pos m1lt, z2, if_neg (nI_nn (by omega))]
            unfold sp_Memory_store
            have ck : ¬ lN k = 268435456 := by
              show ¬ lN k = lN 268435456
              rw [pk_lEQ (by omega) (by decide)]
              exact z3
            rw [if_pos r1, if_neg ck]
            exact ⟨b, cl, _, _, _, pu, np, rfl, cs_eq hM hsl z1⟩
          · left
            refine ⟨7, by decide, ?_, ?_⟩
            · rw [ha, if_pos z1, if_pos rfl]; rfl
            · rw [if_neg (by decide), if_neg (by decide), hp]; dsimp only; rw [if_pos nn, r2, if_pos m1lt, z2, if_pos m1lt]; rfl
      · right
        have ha : ¬ sp_Memory_allows n (lN k) s 2 M = 0 := by
          unfold sp_Memory_allows
          rw [if_neg r1]; decide
        rw [if_neg ha]
        refine ⟨nn, ?_⟩
        have np' : ¬ nI j < 0 := nI_nn (by omega)
        have S := ram_store (v := v) (s := s) (cl2 := upd (upd cl 0 (-1)) 1 (-1)) hs hn hM hj (by intro e; subst e; have := al_2 h0; omega) (by intro e; subst e; have := al_4 h0; omega) (dc_01 cl) M ⟨rfl, rfl, rfl, rfl⟩
        rw [← hkk] at S
        rcases hs with rfl | rfl | rfl
        · rw [if_pos rfl, hp]; dsimp only; rw [if_pos nn, r2, if_neg np']; exact ⟨_, _, cm, so, ti, pu, np, rfl, S⟩
        · rw [if_neg (by decide), if_pos rfl, hp]; dsimp only
          rw [if_pos nn, r2, if_neg np']; exact ⟨_, _, cm, so, ti, pu, np, rfl, S⟩
        · rw [if_neg (by decide), if_neg (by decide), hp]; dsimp only
          rw [if_pos nn, r2, if_neg np']; exact ⟨_, _, cm, so, ti, pu, np, rfl, S⟩
  · left
    refine ⟨6, by decide, ?_, ?_⟩
    · unfold sp_Hart_locate
      rw [if_neg h0]; rfl
    · have hp : sp_Model_place n x0 s 2 (nI id) (-1) tv lv cs b = (-1, 6, x0) := by
        unfold sp_Model_place
        rw [if_neg h0]; rfl
      unfold sp_Model_store
      rcases hs with rfl | rfl | rfl
      · rw [if_pos rfl, hp]; exact if_neg neg1l
      · rw [if_neg (by decide), if_pos rfl, hp]; exact if_neg neg1l
      · rw [if_neg (by decide), if_neg (by decide), hp]; exact if_neg neg1l
/-- what claims and changes of a word ask for -/
theorem claimed_eq {x0 how tv : Int32} {i : Nat} (hw : (i = 3 ∧ how = 1) ∨ (i = 4 ∧ how = 2)) (hn : n ≤ 4096) (hid : id = 0 ∨ id = 1) (hM : MemR n M b cl cm so ti pu np) (hH : HartR id (f, pc, l, t, q) pcs lv cs x) :
    (∃ c, c < 16 ∧ sp_Hart_locate n (nI id) x0 4 i (M, f, pc, l, t, q) = sp_Fault_of (nI c) ∧ sp_Model_claimed n x0 how (nI id) (-1) tv lv cs b = (-1, nI c, x0)) ∨
    (∃ j, j < n ∧ sp_Hart_locate n (nI id) x0 4 i (M, f, pc, l, t, q) = lN (2147483648 + 4 * j) ∧ sp_Model_claimed n x0 how (nI id) (-1) tv lv cs b = (nI (4 * j), -1, tv)) := by
  have hw' : HowOk i how := by
    rcases hw with h | h
    · exact Or.inr (Or.inr (Or.inr (Or.inl h)))
    · exact Or.inr (Or.inr (Or.inr (Or.inr h)))
  unfold sp_Model_claimed
  by_cases h0 : (x0 &&& ((4 : Int32) - 1)) = 0
  · have hp : sp_Model_place n x0 4 how (nI id) (-1) tv lv cs b = sp_Model_translate n x0 how (nI id) (-1) tv lv cs b := by
      unfold sp_Model_place
      rw [if_pos h0]
    rcases loc_eq (tv := tv) (size := 4) (i := i) (how := how) (x0 := x0) hn hid hM hH hw' h0 with ⟨c, hc, e1, e2⟩ | ⟨k, hk, hk2, e2, e1⟩
    · left
      refine ⟨c, hc, e1, ?_⟩
      rw [hp, e2]; exact if_neg neg1l
    · rw [e2] at hp
      rw [e1, hp]
      dsimp only
      have nn := (lN_nn (k := k) (by omega)).1
      rw [if_pos nn]
      rcases ram_iff M hn (k := k) (by omega) with ⟨r1, r2⟩ | ⟨j, hj, hkk, r1, r2, r3⟩
      · left
        have ha : sp_Memory_allows n (lN k) 4 i M = 0 := by
          unfold sp_Memory_allows
          rw [if_pos r1]
          rcases hw with ⟨rfl, -⟩ | ⟨rfl, -⟩ <;> rfl
        rw [if_pos ha, r2, if_neg neg1i]
        rcases hw with ⟨rfl, rfl⟩ | ⟨rfl, rfl⟩
        · exact ⟨5, by decide, rfl, rfl⟩
        · exact ⟨7, by decide, rfl, rfl⟩
      · right
        have ha : ¬ sp_Memory_allows n (lN k) 4 i M = 0 := by
          unfold sp_Memory_allows
          rw [if_neg r1]; decide
        have k4 := al_4 h0
        rw [if_neg ha, r2, if_pos (nI_pos' (by omega))]
        refine ⟨j / 4, by omega, ?_, ?_⟩
        · rw [hkk, show 4 * (j / 4) = j from by omega]
        · rw [show 4 * (j / 4) = j from by omega]
  · left
    rcases hw with ⟨rfl, rfl⟩ | ⟨rfl, rfl⟩
    · refine ⟨4, by decide, ?_, ?_⟩
      · unfold sp_Hart_locate
        rw [if_neg h0]; rfl
      · have hp : sp_Model_place n x0 4 1 (nI id) (-1) tv lv cs b = (-1, 4, x0) := by
          unfold sp_Model_place
          rw [if_neg h0]; rfl
        rw [hp]; exact if_neg neg1l
    · refine ⟨6, by decide, ?_, ?_⟩
      · unfold sp_Hart_locate
        rw [if_neg h0]; rfl
      · have hp : sp_Model_place n x0 4 2 (nI id) (-1) tv lv cs b = (-1, 6, x0) := by
          unfold sp_Model_place
          rw [if_neg h0]; rfl
        rw [hp]; exact if_neg neg1l
end Mem2
