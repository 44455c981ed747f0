-- ===== the step =====
section Stp
variable {n id : Nat} {M : TM} {f q pcs lv cs x b cl : Nat → Int32} {cm : Nat → Int64} {so : Nat → Int32} {ti : Int64} {pu : Nat → Int32} {np : Int32} {pc l t tv nx w h ca : Int32}
theorem ex_all (hn : n ≤ 4096) (hid : id = 0 ∨ id = 1) (hM : MemR n M b cl cm so ti pu np) (hH : HartR id (f, pc, l, t, q) pcs lv cs x) :
    ExR n id (M, f, pc, l, t, q) pcs lv cs x b cl cm so ti pu np (sp_Hart_execute n (nI id) w (M, f, pc, l, t, q)) (sp_Model_execute n w (nI id) (-1) tv (pc + 4) pcs lv cs x b cl cm so ti pu np) := by
  have hp : pcs (nI id).toNatClampNeg = pc := by rw [nid hid]; exact hH.2.1
  unfold sp_Hart_execute sp_Model_execute
  by_cases c1 : (w &&& 127) = 3
  · rw [if_pos c1, if_pos c1]; exact ex_load hn hid hM hH
  rw [if_neg c1, if_neg c1]
  by_cases c2 : (w &&& 127) = 15
  · rw [if_pos c2, if_pos c2]; exact go_ok hH hM
  rw [if_neg c2, if_neg c2]
  by_cases c3 : (w &&& 127) = 19
  · rw [if_pos c3, if_pos c3]; exact ex_ri hid hM hH
  rw [if_neg c3, if_neg c3]
  by_cases c4 : (w &&& 127) = 23
  · rw [if_pos c4, if_pos c4, hp]; exact fin_ok hid hH hM hH.w0
  rw [if_neg c4, if_neg c4]
  by_cases c5 : (w &&& 127) = 35
  · rw [if_pos c5, if_pos c5]; exact ex_store hn hid hM hH rfl
  rw [if_neg c5, if_neg c5]
  by_cases c6 : (w &&& 127) = 47
  · rw [if_pos c6, if_pos c6]; exact ex_amo hn hid hM hH rfl
  rw [if_neg c6, if_neg c6]
  by_cases c7 : (w &&& 127) = 51
  · rw [if_pos c7, if_pos c7]; exact ex_rr hid hM hH
  rw [if_neg c7, if_neg c7]
  by_cases c8 : (w &&& 127) = 55
  · rw [if_pos c8, if_pos c8]; exact fin_ok hid hH hM hH.w0
  rw [if_neg c8, if_neg c8]
  by_cases c9 : (w &&& 127) = 99
  · rw [if_pos c9, if_pos c9]; exact ex_branch hid hM hH
  rw [if_neg c9, if_neg c9]
  by_cases c10 : (w &&& 127) = 103
  · rw [if_pos c10, if_pos c10, fd_f3]
    by_cases d : sp_Field_f3 w = 0
    · rw [if_pos d]; exact ex_jalr hid hM hH d
    · rw [if_neg d]; exact ex_jalr_no d
  rw [if_neg c10, if_neg c10]
  by_cases c11 : (w &&& 127) = 111
  · rw [if_pos c11, if_pos c11]; exact ex_jal hid hM hH
  rw [if_neg c11, if_neg c11]
  by_cases c12 : (w &&& 127) = 115
  · rw [if_pos c12, if_pos c12, fd_f3]
    by_cases d : sp_Field_f3 w = 0
    · rw [if_pos d, if_pos d]; exact ex_sys hid hM hH
    · rw [if_neg d, if_neg d]; exact ex_csr hid hM hH d
  rw [if_neg c12, if_neg c12]
  exact ExR.ill (tv := tv)
abbrev STP : Type := Int32 × Int32 × Int32 × Int32 × Int32 × (Nat → Int32) × (Nat → Int32) × (Nat → Int32) × (Nat → Int32) × (Nat → Int32) × (Nat → Int32) × (Nat → Int64) × (Nat → Int32) × Int64 × (Nat → Int32) × Int32
/-- what is left alone of the other hart -/
def FrA (id : Nat) (pcs lv cs x pcs2 lv2 cs2 x2 : Nat → Int32) : Prop := (∀ j, j ≠ id → pcs2 j = pcs j ∧ lv2 j = lv j) ∧ (∀ i, (i < 4096 * id ∨ 4096 * id + 4096 ≤ i) → cs2 i = cs i) ∧ (∀ i, (i < 32 * id ∨ 32 * id + 32 ≤ i) → x2 i = x i)
def StpR (n id : Nat) (pcs lv cs x : Nat → Int32) (R : Int32 × TH) (T : STP) : Prop :=
  ∃ r M2 s2 h2 ca2 tv2 nx2 pcs2 lv2 cs2 x2 b2 cl2 cm2 so2 ti2 pu2 np2, R = (r, M2, s2) ∧ T = (r, h2, ca2, tv2, nx2, pcs2, lv2, cs2, x2, b2, cl2, cm2, so2, ti2, pu2, np2) ∧ MemR n (if r = 0 then M2 else sp_Memory_dropClaims n M2) b2 cl2 cm2 so2 ti2 pu2 np2 ∧ HartR id s2 pcs2 lv2 cs2 x2 ∧ FrA id pcs lv cs x pcs2 lv2 cs2 x2
theorem MemR_drop (hM : MemR n M b cl cm so ti pu np) : MemR n (sp_Memory_dropClaims n M) b (upd (upd cl 0 (-1)) 1 (-1)) cm so ti pu np := ⟨hM.1, ⟨ClR_no n, ClR_no n⟩, hM.2.2⟩
/-- a trap is taken on both sides -/
theorem take_ok {r cause v : Int32} {hd : Int32} (hid : id = 0 ∨ id = 1) (hM : MemR n M b cl cm so ti pu np) (hH : HartR id (f, pc, l, t, q) pcs lv cs x) (hr : ¬ r = 0) (hd1 : hd = 0 ∨ hd = 1) (T : (Nat → Int32) × (Nat → Int32) × (Nat → Int32) × (Nat → Int32)) (hT : sp_Model_take cause v hd (nI id) pcs lv cs cl = T) (h2 ca2 tv2 nx2 : Int32) :
    StpR n id pcs lv cs x (r, sp_Hart_take n (nI id) cause v hd (M, f, pc, l, t, q)) (r, h2, ca2, tv2, nx2, T.1, T.2.1, T.2.2.1, x, b, T.2.2.2, cm, so, ti, pu, np) := by
  subst hT
  have key : (sp_Hart_take n (nI id) cause v hd (M, f, pc, l, t, q)).1 = M ∧ HartR id (sp_Hart_take n (nI id) cause v hd (M, f, pc, l, t, q)).2 (sp_Model_take cause v hd (nI id) pcs lv cs cl).1 (sp_Model_take cause v hd (nI id) pcs lv cs cl).2.1 (sp_Model_take cause v hd (nI id) pcs lv cs cl).2.2.1 x ∧ (sp_Model_take cause v hd (nI id) pcs lv cs cl).2.2.2 = upd (upd cl 0 (-1)) 1 (-1) ∧ FrC id pcs lv cs (sp_Model_take cause v hd (nI id) pcs lv cs cl).1 (sp_Model_take cause v hd (nI id) pcs lv cs cl).2.1 (sp_Model_take cause v hd (nI id) pcs lv cs cl).2.2.1 := by
    rcases hd1 with rfl | rfl
    · exact takeM_eq hid hH cause v cl
    · exact takeS_eq hid hH cause v cl
  obtain ⟨k1, k2, k3, k4⟩ := key
  refine ⟨r, (sp_Hart_take n (nI id) cause v hd (M, f, pc, l, t, q)).1, (sp_Hart_take n (nI id) cause v hd (M, f, pc, l, t, q)).2, h2, ca2, tv2, nx2, _, _, _, x, b, _, cm, so, ti, pu, np, rfl, rfl, ?_, k2, k4.1, k4.2, fun _ _ => rfl⟩
  rw [if_neg hr, k1, k3]
  exact MemR_drop hM
theorem c16 : ∀ c, c < 16 → ¬ (1 + nI c) = 0 ∧ (1 + nI c) - 1 = nI c ∧ ¬ nI c = -1 := by decide +kernel
theorem b01 (v : Int32) : (v &&& 1) = 1 ↔ ¬ (v &&& 1) = 0 := by
  obtain ⟨j, hj, e⟩ := pk_andE v (m := 1) 1 (by decide)
  rw [e]
  have : j = 0 ∨ j = 1 := by omega
  rcases this with rfl | rfl <;> decide
/-- the end of a step with a trap -/
theorem trap_end {c : Nat} {v nx2 h2 : Int32} (hc : c < 16) (hid : id = 0 ∨ id = 1) (hM : MemR n M b cl cm so ti pu np) (hH : HartR id (f, pc, l, t, q) pcs lv cs x) (R : Int32 × TH) (T : STP)
    (hR : (if 3 ≤ l then ((1 + nI c : Int32), sp_Hart_take n (nI id) ((1 + nI c) - 1) v 0 (M, f, pc, l, v, q)) else if sp_Csrs_handsDownTrap ((1 + nI c) - 1) q = 0 then ((1 + nI c : Int32), sp_Hart_take n (nI id) ((1 + nI c) - 1) v 0 (M, f, pc, l, v, q)) else ((1 + nI c : Int32), sp_Hart_take n (nI id) ((1 + nI c) - 1) v 1 (M, f, pc, l, v, q))) = R)
    (hT : (if 3 ≤ lv (nI id).toNatClampNeg then ((1 + nI c : Int32), (h2, nI c, v, nx2, (sp_Model_take (nI c) v 0 (nI id) pcs lv cs cl).1, (sp_Model_take (nI c) v 0 (nI id) pcs lv cs cl).2.1, (sp_Model_take (nI c) v 0 (nI id) pcs lv cs cl).2.2.1, x, b, (sp_Model_take (nI c) v 0 (nI id) pcs lv cs cl).2.2.2, cm, so, ti, pu, np)) else if ((shr (sp_Model_raw (nI id) 770 cs) (nI c)) &&& 1) = 1 then ((1 + nI c : Int32), (h2, nI c, v, nx2, (sp_Model_take (nI c) v 1 (nI id) pcs lv cs cl).1, (sp_Model_take (nI c) v 1 (nI id) pcs lv cs cl).2.1, (sp_Model_take (nI c) v 1 (nI id) pcs lv cs cl).2.2.1, x, b, (sp_Model_take (nI c) v 1 (nI id) pcs lv cs cl).2.2.2, cm, so, ti, pu, np)) else ((1 + nI c : Int32), (h2, nI c, v, nx2, (sp_Model_take (nI c) v 0 (nI id) pcs lv cs cl).1, (sp_Model_take (nI c) v 0 (nI id) pcs lv cs cl).2.1, (sp_Model_take (nI c) v 0 (nI id) pcs lv cs cl).2.2.1, x, b, (sp_Model_take (nI c) v 0 (nI id) pcs lv cs cl).2.2.2, cm, so, ti, pu, np))) = T) :
    StpR n id pcs lv cs x R T := by
  subst hR
  subst hT
  obtain ⟨k1, k2, k3⟩ := c16 c hc
  have hl : lv (nI id).toNatClampNeg = l := by rw [nid hid]; exact hH.2.2.1
  have r770 : sp_Model_raw (nI id) 770 cs = q 2 := (raw_at cs hid (N := 770) (by decide)).trans (hH.2.2.2.1.2.1 (770, 2) (by decide))
  have hH2 : HartR id (f, pc, l, v, q) pcs lv cs x := hH
  rw [hl, k2, r770]
  unfold sp_Csrs_handsDownTrap
  by_cases c3 : 3 ≤ l
  · rw [if_pos c3, if_pos c3]
    exact take_ok hid hM hH2 k1 (Or.inl rfl) _ rfl _ _ _ _
  · rw [if_neg c3, if_neg c3]
    by_cases d : ((shr (q 2) (nI c)) &&& 1) = 0
    · rw [if_pos d, if_pos rfl, if_neg (fun z => (b01 _).mp z d)]
      exact take_ok hid hM hH2 k1 (Or.inl rfl) _ rfl _ _ _ _
    · rw [if_neg d, if_neg (show ¬ (1 : Int32) = 0 by decide), if_pos ((b01 _).mpr d)]
      exact take_ok hid hM hH2 k1 (Or.inr rfl) _ rfl _ _ _ _
theorem run_eq (hn : n ≤ 4096) (hid : id = 0 ∨ id = 1) (hM : MemR n M b cl cm so ti pu np) (hH : HartR id (f, pc, l, t, q) pcs lv cs x) :
    StpR n id pcs lv cs x (sp_Hart_run n (nI id) (M, f, pc, l, t, q)) (sp_Model_step n (nI id) h ca tv nx pcs lv cs x b cl cm so ti pu np) := by
  have hi : ¬ sp_Model_isHart (nI id) = 0 := by rcases hid with rfl | rfl <;> decide
  have hp : pcs (nI id).toNatClampNeg = pc := by rw [nid hid]; exact hH.2.1
  unfold sp_Hart_run sp_Model_step
  rw [if_neg hi]
  dsimp only
  have D := int_eq hid hM hH cl
  dsimp only at D
  rcases D with ⟨d1, d2⟩ | ⟨k, hd, hk, hhd, d1, d2, d3⟩
  · rw [d1, d2, if_pos (show (-1 : Int32) = -1 from rfl)]
    dsimp only
    rw [if_pos m1n]
    rcases fetch_eq (tv := tv) hn hid hM hH with ⟨c, hc, e1, e2⟩ | ⟨e1, e2⟩
    · obtain ⟨k1, k2, k3⟩ := c16 c hc
      rw [e1, e2, if_neg (fault_of c hc).2.1]
      dsimp only
      rw [if_neg k3]
      unfold sp_Hart_fault sp_Hart_trap
      rw [(fault_of c hc).2.2]
      dsimp only
      rw [if_neg k1]
      exact trap_end hc hid hM hH _ _ rfl rfl
    · rw [if_pos e1, e2]
      dsimp only
      rw [if_pos (show (-1 : Int32) = -1 from rfl)]
      have EX : ExR n id (M, f, pc, l, t, q) pcs lv cs x b cl cm so ti pu np (sp_Hart_execute n (nI id) (sp_Memory_wordAt n (sp_Hart_locate n (nI id) pc 4 0 (M, f, pc, l, t, q)) M) (M, f, pc, l, t, q)) (sp_Model_execute n (sp_Memory_wordAt n (sp_Hart_locate n (nI id) pc 4 0 (M, f, pc, l, t, q)) M) (nI id) (-1) tv (pcs (nI id).toNatClampNeg + 4) pcs lv cs x b cl cm so ti pu np) := by
        rw [hp]
        exact ex_all hn hid hM hH
      rcases EX with ⟨M2, s2, tv2, nx2, lv2, cs2, x2, b2, cl2, cm2, so2, ti2, pu2, np2, g1, g2, g3, g4, g5⟩ | ⟨c, tv2, nx2, hc, g1, g2⟩
      · rw [g1, g2]
        dsimp only
        rw [if_pos (show (0 : Int32) = 0 from rfl), if_pos (show (-1 : Int32) = -1 from rfl)]
        rw [nid hid]
        refine ⟨0, M2, s2, nI id, -1, tv2, nx2, _, lv2, cs2, x2, b2, cl2, cm2, so2, ti2, pu2, np2, rfl, rfl, ?_, g4, fun j hj => ⟨pk_un hj, g5.1 j hj⟩, g5.2.1, g5.2.2⟩
        rw [if_pos (show (0 : Int32) = 0 from rfl)]
        exact g3
      · obtain ⟨k1, k2, k3⟩ := c16 c hc
        rw [g1, g2]
        dsimp only
        rw [if_neg k1, if_neg k3]
        exact trap_end hc hid hM hH _ _ rfl rfl
  · obtain ⟨k1, k2, k3, k4, k5⟩ := k5_neg hk
    rw [d1] at d2
    rw [d1, d3, if_neg k2]
    dsimp only
    rw [if_neg k1, d2, k5]
    exact take_ok hid hM hH k4 hhd _ rfl _ _ _ _
theorem HartR_other {id2 : Nat} {s : HS} {pcs2 lv2 cs2 x2 : Nat → Int32} (h1 : id = 0 ∨ id = 1) (h2 : id2 = 0 ∨ id2 = 1) (hne : id2 ≠ id) (hH : HartR id2 s pcs lv cs x) (hF : FrA id pcs lv cs x pcs2 lv2 cs2 x2) : HartR id2 s pcs2 lv2 cs2 x2 := by
  obtain ⟨a1, a2, a3, aC, aO, a6, a7⟩ := hH
  refine ⟨?_, (hF.1 id2 hne).1.trans a2, (hF.1 id2 hne).2.trans a3, CsrR_other aC (fun i g1 g2 => hF.2.1 i (by omega)), aO, a6, a7⟩
  intro j hj
  rw [hF.2.2 _ (by omega)]
  exact a1 j hj
end Stp
section Eqs
variable {n : Nat} {σ : TT} {pcs lv cs x b cl : Nat → Int32} {cm : Nat → Int64} {so : Nat → Int32} {ti : Int64} {pu : Nat → Int32} {np : Int32} {x0 x1 x2 r1 r2 : Int32} {u1 : TT}
theorem E_step {h ca tv nx : Int32} {u2 : Int32 × Int32 × Int32 × Int32 × (Nat → Int32) × (Nat → Int32) × (Nat → Int32) × (Nat → Int32) × (Nat → Int32) × (Nat → Int32) × (Nat → Int64) × (Nat → Int32) × Int64 × (Nat → Int32) × Int32} (hn : n ≤ 4096) (hn1 : 16 ≤ n) (hR : Rel n σ pcs lv cs x b cl cm so ti pu np) (h1 : sp_TwinHart_step n x0 σ = (r1, u1)) (h2 : sp_Model_step n x0 h ca tv nx pcs lv cs x b cl cm so ti pu np = (r2, u2)) : r1 = r2 ∧ Rel n u1 u2.2.2.2.2.1 u2.2.2.2.2.2.1 u2.2.2.2.2.2.2.1 u2.2.2.2.2.2.2.2.1 u2.2.2.2.2.2.2.2.2.1 u2.2.2.2.2.2.2.2.2.2.1 u2.2.2.2.2.2.2.2.2.2.2.1 u2.2.2.2.2.2.2.2.2.2.2.2.1 u2.2.2.2.2.2.2.2.2.2.2.2.2.1 u2.2.2.2.2.2.2.2.2.2.2.2.2.2.1 u2.2.2.2.2.2.2.2.2.2.2.2.2.2.2 := by
  obtain ⟨M, ⟨f0, p0, l0, t0, q0⟩, ⟨f1, p1, l1, t1, q1⟩⟩ := σ
  obtain ⟨hM, hA, hB⟩ := hR
  dsimp only at hM hA hB
  unfold sp_TwinHart_step at h1
  dsimp only at h1
  by_cases e0 : x0 = 0
  · subst e0
    rw [if_pos rfl] at h1
    obtain ⟨r, M2, s2, hh, ca2, tv2, nx2, pcs2, lv2, cs2, x2, b2, cl2, cm2, so2, ti2, pu2, np2, g1, g2, g3, g4, g5⟩ := run_eq (h := h) (ca := ca) (tv := tv) (nx := nx) hn (Or.inl rfl) hM hA
    have g1' : sp_Hart_run n 0 (M, f0, p0, l0, t0, q0) = (r, M2, s2) := g1
    have g2' : sp_Model_step n 0 h ca tv nx pcs lv cs x b cl cm so ti pu np = _ := g2
    rw [g1'] at h1
    rw [g2'] at h2
    obtain ⟨rfl, rfl⟩ := Prod.mk.inj h2
    have hO := HartR_other (Or.inl rfl) (Or.inr rfl) (by decide) hB g5
    dsimp only at h1
    by_cases c : r = 0
    · rw [if_pos c] at h1 g3
      obtain ⟨rfl, rfl⟩ := Prod.mk.inj h1
      exact ⟨rfl, g3, g4, hO⟩
    · rw [if_neg c] at h1 g3
      obtain ⟨rfl, rfl⟩ := Prod.mk.inj h1
      exact ⟨rfl, g3, g4, hO⟩
  · rw [if_neg e0] at h1
    by_cases e1 : x0 = 1
    · subst e1
      rw [if_pos rfl] at h1
      obtain ⟨r, M2, s2, hh, ca2, tv2, nx2, pcs2, lv2, cs2, x2, b2, cl2, cm2, so2, ti2, pu2, np2, g1, g2, g3, g4, g5⟩ := run_eq (h := h) (ca := ca) (tv := tv) (nx := nx) hn (Or.inr rfl) hM hB
      have g1' : sp_Hart_run n 1 (M, f1, p1, l1, t1, q1) = (r, M2, s2) := g1
      have g2' : sp_Model_step n 1 h ca tv nx pcs lv cs x b cl cm so ti pu np = _ := g2
      rw [g1'] at h1
      rw [g2'] at h2
      obtain ⟨rfl, rfl⟩ := Prod.mk.inj h2
      have hO := HartR_other (Or.inr rfl) (Or.inl rfl) (by decide) hA g5
      dsimp only at h1
      by_cases c : r = 0
      · rw [if_pos c] at h1 g3
        obtain ⟨rfl, rfl⟩ := Prod.mk.inj h1
        exact ⟨rfl, g3, hO, g4⟩
      · rw [if_neg c] at h1 g3
        obtain ⟨rfl, rfl⟩ := Prod.mk.inj h1
        exact ⟨rfl, g3, hO, g4⟩
    · rw [if_neg e1] at h1
      unfold sp_Model_step at h2
      rw [if_pos (ih_no e0 e1)] at h2
      obtain ⟨rfl, rfl⟩ := Prod.mk.inj h1
      obtain ⟨rfl, rfl⟩ := Prod.mk.inj h2
      exact ⟨rfl, hM, hA, hB⟩
end Eqs
