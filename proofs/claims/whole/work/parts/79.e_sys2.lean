-- ===== returns, and the instructions that claim =====
section Sys2
variable {n id : Nat} {M : TM} {f q pcs lv cs x b cl : Nat → Int32} {cm : Nat → Int64} {so : Nat → Int32} {ti : Int64} {pu : Nat → Int32} {np : Int32} {pc l t tv nx w : Int32}
/-- a return: level, pc and mstatus are new -/
theorem ret_ok {nv np2 : Int32} {l2 : Int32} (hid : id = 0 ∨ id = 1) (hM : MemR n M b cl cm so ti pu np) (hH : HartR id (f, pc, l, t, q) pcs lv cs x) (hv : okv 1 nv) (hp : np2 &&& 3 = 0) (hl : l2 = 0 ∨ l2 = 1 ∨ l2 = 3) :
    ExR n id (M, f, pc, l, t, q) pcs lv cs x b cl cm so ti pu np (0, M, f, np2, l2, t, upd q 1 nv) (-1, tv, np2, upd lv id l2, upd cs (4096 * id + 768) nv, x, b, cl, cm, so, ti, pu, np) := by
  obtain ⟨h1, h2, h3, hC, hO, h6, h7⟩ := hH
  dsimp only at h1 h2 h3 hC hO h6 h7
  have W := wr1 hC hO (k := 768) (i := 1) (by decide) hv
  exact Or.inl ⟨M, (f, np2, l2, t, upd q 1 nv), tv, np2, _, _, x, b, cl, cm, so, ti, pu, np, rfl, rfl, hM, ⟨h1, pk_us, pk_us, W.1, W.2.1, hp, hl⟩, fun _ hj => pk_un hj, W.2.2, fun _ _ => rfl⟩
theorem ok_m {a m c : Int32} (ha : a &&& (-924075) = 0) (hm : m &&& 6144 = 0) (h1 : c &&& (-924075) = 0) (h2 : ¬ c &&& 6144 = 4096) : okv 1 ((a &&& m) ||| c) := by
  refine okv_1 ⟨or_and0 (and_and0 ha _) h1, ?_⟩
  rw [orc hm]; exact h2
theorem ex_mret (hid : id = 0 ∨ id = 1) (hM : MemR n M b cl cm so ti pu np) (hH : HartR id (f, pc, l, t, q) pcs lv cs x) (h3 : l = 3) :
    ExR n id (M, f, pc, l, t, q) pcs lv cs x b cl cm so ti pu np (sp_Hart_returnFromMachine n (nI id) (M, f, pc, l, t, q)) ((sp_Model_machine 807403635 (nI id) (-1) tv nx pcs lv cs).1, (sp_Model_machine 807403635 (nI id) (-1) tv nx pcs lv cs).2.1, (sp_Model_machine 807403635 (nI id) (-1) tv nx pcs lv cs).2.2.1, (sp_Model_machine 807403635 (nI id) (-1) tv nx pcs lv cs).2.2.2.1, (sp_Model_machine 807403635 (nI id) (-1) tv nx pcs lv cs).2.2.2.2, x, b, cl, cm, so, ti, pu, np) := by
  have hl : lv id = l := hH.2.2.1
  have hC := hH.2.2.2.1
  have hO := hH.2.2.2.2.1
  dsimp only at hC hO
  have r768 : sp_Model_raw (nI id) 768 cs = q 1 := (raw_at cs hid (N := 768) (by decide)).trans (hC.2.1 (768, 1) (by decide))
  have r833 : sp_Model_raw (nI id) 833 cs = q 6 := (raw_at cs hid (N := 833) (by decide)).trans (hC.2.1 (833, 6) (by decide))
  have k := fun v => keep_at (id := id) (N := 768) cs v 137352 hid (by decide)
  have c1 : cs (4096 * id + 768) = q 1 := hC.2.1 (768, 1) (by decide)
  rw [c1, show (137352 : Int32) ^^^ (-1) = -137353 from by decide] at k
  have k' : ∀ v, sp_Model_keep (nI id) 768 v 137352 cs = upd cs (4096 * id + 768) ((q 1 &&& (-137353)) ||| (v &&& 137352)) := k
  unfold sp_Model_machine sp_Hart_returnFromMachine sp_Csrs_leaveMachine sp_Csrs_levelBefore sp_Csrs_has
  rw [nid hid, hl, h3, r768, r833, pk_us, lb_eq, sbit_7, k', k']
  simp (decide := true) only [↓reduceIte]
  have lv3 := lvb hO.2.1
  have a1 : q 1 &&& (-924075) = 0 := hO.1
  have a6 : q 6 &&& 3 = 0 := hO.2.2.2.2.2.2.1
  subst h3
  by_cases g : (q 1 &&& 128) = 0
  · simp only [if_pos g]
    by_cases d : ((shr (q 1) 11) &&& 3) = 3
    · simp (decide := true) only [if_pos d, ↓reduceIte]
      rw [mr_3_0]
      exact ret_ok hid hM hH (by rw [Int32.or_assoc]; exact ok_m a1 (by decide) (by decide) (by decide)) a6 lv3
    · simp (decide := true) only [if_neg d, ↓reduceIte]
      rw [mr_n_0]
      exact ret_ok hid hM hH (by rw [Int32.or_assoc]; exact ok_m a1 (by decide) (by decide) (by decide)) a6 lv3
  · simp only [if_neg g]
    by_cases d : ((shr (q 1) 11) &&& 3) = 3
    · simp (decide := true) only [if_pos d, ↓reduceIte]
      rw [mr_3_1]
      exact ret_ok hid hM hH (by rw [Int32.or_assoc]; exact ok_m a1 (by decide) (by decide) (by decide)) a6 lv3
    · simp (decide := true) only [if_neg d, ↓reduceIte]
      rw [mr_n_1]
      exact ret_ok hid hM hH (by rw [Int32.or_assoc]; exact ok_m a1 (by decide) (by decide) (by decide)) a6 lv3
theorem ex_sret (hid : id = 0 ∨ id = 1) (hM : MemR n M b cl cm so ti pu np) (hH : HartR id (f, pc, l, t, q) pcs lv cs x) (h0 : ¬ l ≤ 0) :
    ExR n id (M, f, pc, l, t, q) pcs lv cs x b cl cm so ti pu np (sp_Hart_returnFromSupervisor n (nI id) (M, f, pc, l, t, q)) ((sp_Model_machine 270532723 (nI id) (-1) tv nx pcs lv cs).1, (sp_Model_machine 270532723 (nI id) (-1) tv nx pcs lv cs).2.1, (sp_Model_machine 270532723 (nI id) (-1) tv nx pcs lv cs).2.2.1, (sp_Model_machine 270532723 (nI id) (-1) tv nx pcs lv cs).2.2.2.1, (sp_Model_machine 270532723 (nI id) (-1) tv nx pcs lv cs).2.2.2.2, x, b, cl, cm, so, ti, pu, np) := by
  have hl : lv id = l := hH.2.2.1
  have hC := hH.2.2.2.1
  have hO := hH.2.2.2.2.1
  dsimp only at hC hO
  have r768 : sp_Model_raw (nI id) 768 cs = q 1 := (raw_at cs hid (N := 768) (by decide)).trans (hC.2.1 (768, 1) (by decide))
  have r321 : sp_Model_raw (nI id) 321 cs = q 12 := (raw_at cs hid (N := 321) (by decide)).trans (hC.2.1 (321, 12) (by decide))
  have k := fun v => keep_at (id := id) (N := 768) cs v 131362 hid (by decide)
  have c1 : cs (4096 * id + 768) = q 1 := hC.2.1 (768, 1) (by decide)
  rw [c1, show (131362 : Int32) ^^^ (-1) = -131363 from by decide] at k
  have k' : ∀ v, sp_Model_keep (nI id) 768 v 131362 cs = upd cs (4096 * id + 768) ((q 1 &&& (-131363)) ||| (v &&& 131362)) := k
  unfold sp_Model_machine sp_Hart_returnFromSupervisor sp_Csrs_leaveSupervisor sp_Csrs_has
  rw [nid hid, hl, r768, r321, sbit_5, sbit_8, k', if_neg h0]
  simp (decide := true) only [↓reduceIte]
  have a1 : q 1 &&& (-924075) = 0 := hO.1
  have a1' : ¬ q 1 &&& 6144 = 4096 := hO.2.1
  have a12 : q 12 &&& 3 = 0 := hO.2.2.2.2.2.2.2.2.2.1
  have ok0 : okv 1 (((q 1 &&& (-131331)) ||| 32) ||| 0) := okv_1 ⟨or_and0 (or_and0 (and_and0 a1 _) (by decide)) (by decide), by rw [sr_m _ _ (by decide)]; exact a1'⟩
  have ok2 : okv 1 (((q 1 &&& (-131331)) ||| 32) ||| 2) := okv_1 ⟨or_and0 (or_and0 (and_and0 a1 _) (by decide)) (by decide), by rw [sr_m _ _ (by decide)]; exact a1'⟩
  by_cases g : (q 1 &&& 256) = 0
  · simp only [if_pos g]
    by_cases d : (q 1 &&& 32) = 0
    · simp (decide := true) only [if_pos d, ↓reduceIte]
      rw [sr_0]
      exact ret_ok hid hM hH ok0 a12 (Or.inl rfl)
    · simp (decide := true) only [if_neg d, ↓reduceIte]
      rw [sr_1]
      exact ret_ok hid hM hH ok2 a12 (Or.inl rfl)
  · simp only [if_neg g]
    by_cases d : (q 1 &&& 32) = 0
    · simp (decide := true) only [if_pos d, ↓reduceIte]
      rw [sr_0]
      exact ret_ok hid hM hH ok0 a12 (Or.inr (Or.inl rfl))
    · simp (decide := true) only [if_neg d, ↓reduceIte]
      rw [sr_1]
      exact ret_ok hid hM hH ok2 a12 (Or.inr (Or.inl rfl))
theorem ex_sys (hid : id = 0 ∨ id = 1) (hM : MemR n M b cl cm so ti pu np) (hH : HartR id (f, pc, l, t, q) pcs lv cs x) :
    ExR n id (M, f, pc, l, t, q) pcs lv cs x b cl cm so ti pu np (sp_Hart_callSystem n (nI id) w (M, f, pc, l, t, q)) ((sp_Model_machine w (nI id) (-1) tv (pc + 4) pcs lv cs).1, (sp_Model_machine w (nI id) (-1) tv (pc + 4) pcs lv cs).2.1, (sp_Model_machine w (nI id) (-1) tv (pc + 4) pcs lv cs).2.2.1, (sp_Model_machine w (nI id) (-1) tv (pc + 4) pcs lv cs).2.2.2.1, (sp_Model_machine w (nI id) (-1) tv (pc + 4) pcs lv cs).2.2.2.2, x, b, cl, cm, so, ti, pu, np) := by
  have hl : lv (nI id).toNatClampNeg = l := by rw [nid hid]; exact hH.2.2.1
  have hp : pcs (nI id).toNatClampNeg = pc := by rw [nid hid]; exact hH.2.1
  have h7 : l = 0 ∨ l = 1 ∨ l = 3 := hH.2.2.2.2.2.2
  have I : ∀ w, ExR n id (M, f, pc, l, t, q) pcs lv cs x b cl cm so ti pu np (sp_Hart_illegal n (nI id) w (M, f, pc, l, t, q)) ((sp_Model_trap 2 w (-1) tv).1, (sp_Model_trap 2 w (-1) tv).2, pc + 4, lv, cs, x, b, cl, cm, so, ti, pu, np) := fun w => ExR.ill
  have G : ExR n id (M, f, pc, l, t, q) pcs lv cs x b cl cm so ti pu np (sp_Hart_goOn n (nI id) (M, f, pc, l, t, q)) (-1, tv, pc + 4, lv, cs, x, b, cl, cm, so, ti, pu, np) := go_ok hH hM
  have l0 : l < 1 ↔ l = 0 := by rcases h7 with e | e | e <;> rw [e] <;> decide
  have l00 : l ≤ 0 ↔ l = 0 := by rcases h7 with e | e | e <;> rw [e] <;> decide
  unfold sp_Hart_callSystem
  dsimp only
  by_cases w1 : w = 115
  · rw [if_pos w1]
    unfold sp_Model_machine
    rw [if_pos w1, hl]
    have T : ∀ c, c < 16 → 8 + l = nI c → ExR n id (M, f, pc, l, t, q) pcs lv cs x b cl cm so ti pu np (sp_Hart_trap n (nI id) (8 + l) 0 (M, f, pc, l, t, q)) (8 + l, 0, pc + 4, lv, cs, x, b, cl, cm, so, ti, pu, np) := by
      intro c hc e
      rw [e]
      exact ExR.trap hc 0
    rcases h7 with e | e | e
    · exact T 8 (by decide) (by rw [e]; decide)
    · exact T 9 (by decide) (by rw [e]; decide)
    · exact T 11 (by decide) (by rw [e]; decide)
  · rw [if_neg w1]
    by_cases w2 : w = 1048691
    · rw [if_pos w2]
      unfold sp_Model_machine
      rw [if_neg w1, if_pos w2, hp]
      exact ExR.trap (c := 3) (by decide) pc
    · rw [if_neg w2]
      by_cases w3 : w = 270532723
      · rw [if_pos w3]
        by_cases c : l < 1
        · rw [if_pos c]
          subst w3
          unfold sp_Model_machine
          rw [hl, if_pos (l00.mpr (l0.mp c))]
          simp (decide := true) only [↓reduceIte]
          exact I _
        · rw [if_neg c, w3]
          exact ex_sret hid hM hH (fun z => c (l0.mpr (l00.mp z)))
      · rw [if_neg w3]
        by_cases w4 : w = 273678451
        · rw [if_pos w4]
          subst w4
          unfold sp_Model_machine
          simp (decide := true) only [↓reduceIte]
          exact G
        · rw [if_neg w4]
          by_cases w5 : w = 807403635
          · rw [if_pos w5]
            by_cases c : l = 3
            · rw [if_pos c, w5]
              exact ex_mret hid hM hH c
            · rw [if_neg c]
              subst w5
              unfold sp_Model_machine
              rw [hl, if_neg c]
              simp (decide := true) only [↓reduceIte]
              exact I _
          · rw [if_neg w5]
            unfold sp_Model_machine
            rw [if_neg w1, if_neg w2, if_neg w5, if_neg w3, if_neg w4, fd_f7, fd_rd, hl]
            by_cases g : sp_Field_f7 w = 9
            · rw [if_pos g, if_pos g]
              by_cases r0 : sp_Field_rd w = 0
              · rw [if_pos r0, if_pos r0]
                by_cases c : l = 0
                · rw [if_pos (l0.mpr c), if_pos c]; exact I _
                · rw [if_neg (fun z => c (l0.mp z)), if_neg c]; exact G
              · rw [if_neg r0, if_neg r0]; exact I _
            · rw [if_neg g, if_neg g]; exact I _
end Sys2
