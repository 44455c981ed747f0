/-! THE CLAIM OUT OF ONE WALK OF THE LAW'S BODY. Your part is whole_start (and what it stands on); all else here is the same for every law, but numbers. -/
def lw_P (b : Addr) (xs : List Int32) (args : Array Value) (s : State) : Prop := args = #[.ref b] ∧ s.IntsAt b xs ∧ xs.length ≤ 2049 ∧ (Jvm.Cond.and given_1 narrow_1).before args s = true
def lw_Q (_ : Array Value) (s : State) (o : Outcome) (t : State) : Prop := o = .returned (some (.int 1)) ∧ Framed s o t [] 600000 7302250
def lw_Z (below : List Frame) (a : Array Value) (s : State) : State → Prop := fun t => ∃ o, t.status = .running ∧ Ended t below o ∧ lw_Q a s o t
/-- the law's own end, with 1 on the stack, nothing written that was there before, its room as the claim has it -/
theorem lw_ret {p : Program} {l : Launch} {e : Env} {s : State} {m : MethodId} {below : List Frame} {meth : Method} {c : Code} {b : Nat} (hx : p.tables.exec = Jvm.exec) (hb : c.code = code) (hr : meth.sig.returnType = ret) (hlocks : meth.locks = false) {pc : Nat} {H : Heap} {ls : Array Slot} (hdg : decode code pc = .ok (.ireturn, 1)) : W p l e room_1 s m #[Value.ref b] below meth c H [] 600000 7302250 (lw_Z below #[Value.ref b] s) (F0 m pc ls [.int 1]) := by
  intro T hT X
  obtain ⟨fs, hret, hrun, hended, hW, hframe⟩ := X.leave (v := some (.int 1)) (hlocks := hlocks) (fun h => by rw [hr] at h; cases h)
  have hmeth' : T.vm.method? m = some meth := X.method'
  refine ⟨T.setFrames fs, ?_, .returned (some (.int 1)), hrun, hended, rfl, ⟨_, rfl⟩, hW, hframe⟩
  jvm_step X.here [X.here.top, hx, hb, hdg, hmeth', hr, ret, narrow_b1]
  (try refine ⟨rfl, ?_⟩); (try refine ⟨rfl, ?_⟩)
  first | (intro acts; rw [hret _ acts rfl rfl rfl]) | rw [hret _ _ rfl rfl rfl]
  exact Steps.refl _
/-- what holds at the law's entry: the machine, the code, the tables' words (any of lw_tbl by 'hts w (by decide +kernel)'), the script of L ints xs at the cell b, what the Statement gives of the start (any of its parts by flat_of_before) -/
def lw_At (p : Program) (s : State) (m : MethodId) (meth : Method) (c : Code) (b L : Nat) (xs : Nat → Int32) : Prop :=
  p.tables.exec = Jvm.exec ∧ c.code = code ∧ meth.sig.returnType = ret ∧ c.maxLocals = 4 ∧ s.vm.findClass R_law = some m.cls ∧ (∀ w ∈ lw_tbl, w.before #[Value.ref b] s = true) ∧ va_X b L xs s s.heap ∧ b < s.heap.size ∧ meth.locks = false ∧ (Jvm.Cond.and given_1 narrow_1).before #[Value.ref b] s = true
-- ===== the law's loop =====
set_option maxHeartbeats 4000000 in
set_option maxRecDepth 100000 in
theorem law_loop {p : Program} {l : Launch} {e : Env} {s : State} {m : MethodId} {below : List Frame} {meth : Method} {c : Code} {D : va_G} {g : Nat → Nat} {bb L : Nat} {xs : Nat → Int32} (hL : L ≤ 2049) (C0 : lw_At p s m meth c bb L xs) (hts : ∀ w ∈ tb, w.before #[Value.ref bb] s = true)
    (t hs : Nat) (kh : ClassId) (a f d : Nat → Nat) (k kf kd : Nat → ClassId) (n : Nat) (a2 : Nat → Nat) (k2 : Nat → ClassId) (hn1 : 16 ≤ n) (hn : n ≤ 4096) (hK : va_K D classes (tyT k kf kd kh ++ tyR k2) s) (hF : SF g (fun q : Nat => s.heap.size ≤ q) s s.heap) :
    ∀ (q j : Nat), 1 ≤ j → L + 4 ≤ j + 4 * q → j ≤ L + 4 → ∀ (σ : TT) (h ca tv nx : Int32) (pcs lv cs x b cl : Nat → Int32) (cm : Nat → Int64) (so : Nat → Int32) (ti : Int64) (pu : Nat → Int32) (np : Int32) (H : Heap) (locs : List Loc) (ls : Array Slot), Rel n σ pcs lv cs x b cl cm so ti pu np → va_P D classes (wT t hs kh a f d k kf kd n σ ++ wR a2 k2 n h ca tv nx pcs lv cs x b cl cm so ti pu np) H → va_D (fun q : Nat => s.heap.size ≤ q) (wT t hs kh a f d k kf kd n σ ++ wR a2 k2 n h ca tv nx pcs lv cs x b cl cm so ti pu np) → va_S (fun q : Nat => s.heap.size ≤ q) s.heap H locs → lv_has ls 4 [(3, .int (nI j)), (2, .ref (a2 0)), (1, .ref t), (0, .ref bb)] → W p l e room_1 s m #[Value.ref bb] below meth c H locs 600000 7302250 (lw_Z below #[Value.ref bb] s) (F0 m 28 ls []) := by
  obtain ⟨hx, hb, hr, hml, hown, -, hX, hbl, hlocks, hgv⟩ := C0
  have hA : ∀ q : Nat, s.heap.size ≤ q → (fun q : Nat => s.heap.size ≤ q) q := fun _ h => h
  have hbA : ¬ (fun q : Nat => s.heap.size ≤ q) bb := Nat.not_le.mpr hbl
  intro q
  induction q with
  | zero =>
    intro j h1 h2 h3 σ h ca tv nx pcs lv cs x b cl cm so ti pu np H locs ls hR hP hD hS hl
    refine lv_iload_n hx hb d_law_28 rfl (lv_at hl 0 rfl) ?_
    refine lv_aload_n hx hb d_law_29 rfl (lv_at hl 3 rfl) ?_
    refine va_slen hx hb hX hbl hbA hS d_law_30 ?_
    refine lv_iconst (v := 4) hx hb d_law_31 rfl ?_
    refine lv_isub hx hb d_law_32 ?_
    refine lv_icmp_gt (tgt := 449) hx hb d_law_33 (by decide) (fun _ => ?_) (fun c9 => absurd (lw_gt (by omega) (by omega) (by omega)) c9)
    refine lv_iconst (v := 1) hx hb d_law_449 rfl ?_
    refine va_forget (fun q hq => hS.2.2 q hq) ?_
    exact lw_ret hx hb hr hlocks d_law_450
  | succ q ih =>
    intro j h1 h2 h3 σ h ca tv nx pcs lv cs x b cl cm so ti pu np H locs ls hR hP hD hS hl
    refine lv_iload_n hx hb d_law_28 rfl (lv_at hl 0 rfl) ?_
    refine lv_aload_n hx hb d_law_29 rfl (lv_at hl 3 rfl) ?_
    refine va_slen hx hb hX hbl hbA hS d_law_30 ?_
    refine lv_iconst (v := 4) hx hb d_law_31 rfl ?_
    refine lv_isub hx hb d_law_32 ?_
    refine lv_icmp_gt (tgt := 449) hx hb d_law_33 (by decide) (fun _ => ?_) (fun c9 => ?_)
    · refine lv_iconst (v := 1) hx hb d_law_449 rfl ?_
      refine va_forget (fun q hq => hS.2.2 q hq) ?_
      exact lw_ret hx hb hr hlocks d_law_450
    have hj : j + 4 ≤ L := lw_le (by omega) (by omega) c9
    have ejn_1 : nI j + 1 = nI (j + 1) := nI_add j 1
    have ejn_2 : nI j + 2 = nI (j + 2) := nI_add j 2
    have ejn_3 : nI j + 3 = nI (j + 3) := nI_add j 3
    refine lv_aload_n hx hb d_law_36 rfl (lv_at hl 3 rfl) ?_
    refine lv_iload_n hx hb d_law_37 rfl (lv_at hl 0 rfl) ?_
    refine va_sld hx hb hX hbl hbA hS (i := nI j) (vp_in_nI (by omega) (by omega)) d_law_38 ?_
    refine lv_bipush (v := 15) hx hb d_law_39 rfl ?_
    refine lv_iand hx hb d_law_41 ?_
    by_cases c_1 : ((xs (nI j).toNatClampNeg) &&& 15) = 0
    · refine lv_tableIn (off := 66) (tgt := 108) hx hb d_law_42 (by rw [c_1]; decide) (by rw [c_1]; decide) (by rw [c_1]; rfl) (by decide) ?_
      refine lv_aload_n hx hb d_law_108 rfl (lv_at hl 2 rfl) ?_
      refine xv (wr := wR a2 k2 n h ca tv nx pcs lv cs x b cl cm so ti pu np) (W2 := fun u9 => wT t hs kh a f d k kf kd n u9 ++ wR a2 k2 n h ca tv nx pcs lv cs x b cl cm so ti pu np) (xV (rest := []) ⟨hx, hb, hml, hown, hts⟩ (c_TwinHart_reset t hs kh a f d k kf kd n  σ hn) mw_TwinHart_reset mv_TwinHart_reset k_173 ⟨rfl, rfl, Nat.le_of_ble_eq_true rfl, Nat.le_of_ble_eq_true rfl⟩ hK hP hD hS hA hF [0, 1, 2, 3, 4, 5, 6, 7, 8, 9, 10, 11, 12, 13] [0, 1, 2, 3, 4, 5, 6] rfl rfl rfl 0 0 rfl rfl rfl rfl hl.1 rfl (Nat.le_of_ble_eq_true rfl) d_law_109 ⟨Nat.le_refl _, Nat.le_refl _⟩) hP hD hS hA [0, 1, 2, 3, 4, 5, 6, 7, 8, 9, 10, 11, 12, 13] [14, 15, 16, 17, 18, 19, 20, 21, 22, 23] [10, 11, 12, 13, 14, 15, 16, 17, 18, 19, 20, 21, 22, 23, 0, 1, 2, 3, 4, 5, 6, 7, 8, 9] rfl rfl rfl (by decide) (fun _ => rfl) rfl (fun u_2 H locs h_2 hP hD hS => ?_)
      refine lv_aload_n hx hb d_law_112 rfl (lv_at hl 1 rfl) ?_
      refine xv (wr := wT t hs kh a f d k kf kd n u_2) (W2 := fun u9 => wT t hs kh a f d k kf kd n u_2 ++ wR a2 k2 n h ca tv nx u9.2.2.1 u9.2.2.2.1 u9.2.1 u9.1 b u9.2.2.2.2.1 u9.2.2.2.2.2.1 u9.2.2.2.2.2.2.1 u9.2.2.2.2.2.2.2 pu np) (xV (rest := []) ⟨hx, hb, hml, hown, hts⟩ (c_Model_reset a2 k2 n  h ca tv nx pcs lv cs x b cl cm so ti pu np) mw_Model_reset mv_Model_reset k_674 ⟨rfl, rfl, Nat.le_of_ble_eq_true rfl, Nat.le_of_ble_eq_true rfl⟩ hK hP hD hS hA hF [14, 15, 16, 17, 18, 19, 20, 21, 22, 23] [7, 8, 9, 10, 11, 12, 13, 14, 15] rfl rfl rfl 14 5 rfl rfl rfl rfl hl.1 rfl (Nat.le_of_ble_eq_true rfl) d_law_113 ⟨Nat.le_refl _, Nat.le_refl _⟩) hP hD hS hA [14, 15, 16, 17, 18, 19, 20, 21, 22, 23] [0, 1, 2, 3, 4, 5, 6, 7, 8, 9, 10, 11, 12, 13] [0, 1, 2, 3, 4, 5, 6, 7, 8, 9, 10, 11, 12, 13, 14, 15, 16, 17, 18, 19, 20, 21, 22, 23] rfl rfl rfl (by decide) (fun _ => rfl) rfl (fun u_3 H locs h_3 hP hD hS => ?_)
      have hR := E_reset hR h_2 h_3
      refine lv_goto (tgt := 443) hx hb d_law_116 (by decide) ?_
      refine lv_iinc (v := nI (j + 4)) (lv' := [(3, .int (nI (j + 4))), (2, .ref (a2 0)), (1, .ref t), (0, .ref bb)]) hx hb d_law_443 hl (k := 0) rfl (nI_add j 4) (by decide) rfl (fun ls hl => ?_)
      refine lv_goto (tgt := 28) hx hb d_law_446 (by decide) ?_
      exact ih (j + 4) (by omega) (by omega) (by omega) _ _ _ _ _ _ _ _ _ _ _ _ _ _ _ _ _ _ _ hR hP hD hS hl
    · by_cases c_4 : ((xs (nI j).toNatClampNeg) &&& 15) = 1
      · refine lv_tableIn (off := 77) (tgt := 119) hx hb d_law_42 (by rw [c_4]; decide) (by rw [c_4]; decide) (by rw [c_4]; rfl) (by decide) ?_
        refine lv_aload_n hx hb d_law_119 rfl (lv_at hl 2 rfl) ?_
        refine lv_aload_n hx hb d_law_120 rfl (lv_at hl 3 rfl) ?_
        refine lv_iload_n hx hb d_law_121 rfl (lv_at hl 0 rfl) ?_
        refine lv_iconst (v := 1) hx hb d_law_122 rfl ?_
        refine lv_iadd hx hb d_law_123 ?_
        refine va_sld hx hb hX hbl hbA hS (i := (nI j) + 1) (by rw [ejn_1]; exact vp_in_nI (by omega) (by omega)) d_law_124 ?_
        refine lv_aload_n hx hb d_law_125 rfl (lv_at hl 3 rfl) ?_
        refine lv_iload_n hx hb d_law_126 rfl (lv_at hl 0 rfl) ?_
        refine lv_iconst (v := 2) hx hb d_law_127 rfl ?_
        refine lv_iadd hx hb d_law_128 ?_
        refine va_sld hx hb hX hbl hbA hS (i := (nI j) + 2) (by rw [ejn_2]; exact vp_in_nI (by omega) (by omega)) d_law_129 ?_
        refine xi (wr := wR a2 k2 n h ca tv nx pcs lv cs x b cl cm so ti pu np) (W2 := fun u9 => wT t hs kh a f d k kf kd n u9 ++ wR a2 k2 n h ca tv nx pcs lv cs x b cl cm so ti pu np) (xV (rest := []) ⟨hx, hb, hml, hown, hts⟩ (c_TwinHart_poke t hs kh a f d k kf kd n (xs ((nI j) + 1).toNatClampNeg) (xs ((nI j) + 2).toNatClampNeg) σ hn) mw_TwinHart_poke mv_TwinHart_poke k_194 ⟨rfl, rfl, Nat.le_of_ble_eq_true rfl, Nat.le_of_ble_eq_true rfl⟩ hK hP hD hS hA hF [0, 1, 2, 3, 4, 5, 6, 7, 8, 9, 10, 11, 12, 13] [0, 1, 2, 3, 4, 5, 6] rfl rfl rfl 0 0 rfl rfl rfl rfl hl.1 rfl (Nat.le_of_ble_eq_true rfl) d_law_130 ⟨Nat.le_refl _, Nat.le_refl _⟩) hP hD hS hA [0, 1, 2, 3, 4, 5, 6, 7, 8, 9, 10, 11, 12, 13] [14, 15, 16, 17, 18, 19, 20, 21, 22, 23] [10, 11, 12, 13, 14, 15, 16, 17, 18, 19, 20, 21, 22, 23, 0, 1, 2, 3, 4, 5, 6, 7, 8, 9] rfl rfl rfl (by decide) (fun _ => rfl) rfl (fun r_5 u_5 H locs h_5 hP hD hS => ?_)
        obtain ⟨h_5, z_5⟩ := h_5
        refine lv_aload_n hx hb d_law_133 rfl (lv_at hl 1 rfl) ?_
        refine lv_aload_n hx hb d_law_134 rfl (lv_at hl 3 rfl) ?_
        refine lv_iload_n hx hb d_law_135 rfl (lv_at hl 0 rfl) ?_
        refine lv_iconst (v := 1) hx hb d_law_136 rfl ?_
        refine lv_iadd hx hb d_law_137 ?_
        refine va_sld hx hb hX hbl hbA hS (i := (nI j) + 1) (by rw [ejn_1]; exact vp_in_nI (by omega) (by omega)) d_law_138 ?_
        refine lv_aload_n hx hb d_law_139 rfl (lv_at hl 3 rfl) ?_
        refine lv_iload_n hx hb d_law_140 rfl (lv_at hl 0 rfl) ?_
        refine lv_iconst (v := 2) hx hb d_law_141 rfl ?_
        refine lv_iadd hx hb d_law_142 ?_
        refine va_sld hx hb hX hbl hbA hS (i := (nI j) + 2) (by rw [ejn_2]; exact vp_in_nI (by omega) (by omega)) d_law_143 ?_
        refine xi (wr := wT t hs kh a f d k kf kd n u_5) (W2 := fun u9 => wT t hs kh a f d k kf kd n u_5 ++ wR a2 k2 n h ca tv nx pcs lv cs x u9 cl cm so ti pu np) (xV (rest := [.int r_5]) ⟨hx, hb, hml, hown, hts⟩ (c_Model_poke a2 k2 n (xs ((nI j) + 1).toNatClampNeg) (xs ((nI j) + 2).toNatClampNeg) h ca tv nx pcs lv cs x b cl cm so ti pu np hn) mw_Model_poke mv_Model_poke k_678 ⟨rfl, rfl, Nat.le_of_ble_eq_true rfl, Nat.le_of_ble_eq_true rfl⟩ hK hP hD hS hA hF [14, 15, 16, 17, 18, 19, 20, 21, 22, 23] [7, 8, 9, 10, 11, 12, 13, 14, 15] rfl rfl rfl 14 5 rfl rfl rfl rfl hl.1 rfl (Nat.le_of_ble_eq_true rfl) d_law_144 ⟨Nat.le_refl _, Nat.le_refl _⟩) hP hD hS hA [14, 15, 16, 17, 18, 19, 20, 21, 22, 23] [0, 1, 2, 3, 4, 5, 6, 7, 8, 9, 10, 11, 12, 13] [0, 1, 2, 3, 4, 5, 6, 7, 8, 9, 10, 11, 12, 13, 14, 15, 16, 17, 18, 19, 20, 21, 22, 23] rfl rfl rfl (by decide) (fun _ => rfl) rfl (fun r_6 u_6 H locs h_6 hP hD hS => ?_)
        obtain ⟨h_6, z_6⟩ := h_6
        obtain ⟨e_6, hR⟩ := E_poke hn hn1 hR h_5 h_6
        refine lv_icmp_eq (tgt := 443) hx hb d_law_147 (by decide) (fun _ => ?_) (fun h9 => absurd e_6 h9)
        refine lv_iinc (v := nI (j + 4)) (lv' := [(3, .int (nI (j + 4))), (2, .ref (a2 0)), (1, .ref t), (0, .ref bb)]) hx hb d_law_443 hl (k := 0) rfl (nI_add j 4) (by decide) rfl (fun ls hl => ?_)
        refine lv_goto (tgt := 28) hx hb d_law_446 (by decide) ?_
        exact ih (j + 4) (by omega) (by omega) (by omega) _ _ _ _ _ _ _ _ _ _ _ _ _ _ _ _ _ _ _ hR hP hD hS hl
      · by_cases c_7 : ((xs (nI j).toNatClampNeg) &&& 15) = 2
        · refine lv_tableIn (off := 110) (tgt := 152) hx hb d_law_42 (by rw [c_7]; decide) (by rw [c_7]; decide) (by rw [c_7]; rfl) (by decide) ?_
          refine lv_aload_n hx hb d_law_152 rfl (lv_at hl 2 rfl) ?_
          refine lv_aload_n hx hb d_law_153 rfl (lv_at hl 3 rfl) ?_
          refine lv_iload_n hx hb d_law_154 rfl (lv_at hl 0 rfl) ?_
          refine lv_iconst (v := 1) hx hb d_law_155 rfl ?_
          refine lv_iadd hx hb d_law_156 ?_
          refine va_sld hx hb hX hbl hbA hS (i := (nI j) + 1) (by rw [ejn_1]; exact vp_in_nI (by omega) (by omega)) d_law_157 ?_
          refine xi (wr := wR a2 k2 n h ca tv nx pcs lv cs x b cl cm so ti pu np) (W2 := fun _ => wT t hs kh a f d k kf kd n σ ++ wR a2 k2 n h ca tv nx pcs lv cs x b cl cm so ti pu np) (xV (rest := []) ⟨hx, hb, hml, hown, hts⟩ (c_TwinHart_peek t hs kh a f d k kf kd n (xs ((nI j) + 1).toNatClampNeg) σ hn) mw_TwinHart_peek mv_TwinHart_peek k_202 ⟨rfl, rfl, Nat.le_of_ble_eq_true rfl, Nat.le_of_ble_eq_true rfl⟩ hK hP hD hS hA hF [0, 1, 2, 3, 4, 5, 6, 7, 8, 9, 10, 11, 12, 13] [0, 1, 2, 3, 4, 5, 6] rfl rfl rfl 0 0 rfl rfl rfl rfl hl.1 rfl (Nat.le_of_ble_eq_true rfl) d_law_158 ⟨Nat.le_refl _, Nat.le_refl _⟩) hP hD hS hA [0, 1, 2, 3, 4, 5, 6, 7, 8, 9, 10, 11, 12, 13] [14, 15, 16, 17, 18, 19, 20, 21, 22, 23] [10, 11, 12, 13, 14, 15, 16, 17, 18, 19, 20, 21, 22, 23, 0, 1, 2, 3, 4, 5, 6, 7, 8, 9] rfl rfl rfl (by decide) (fun _ => rfl) rfl (fun r_8 _ H locs h_8 hP hD hS => ?_)
          refine lv_aload_n hx hb d_law_161 rfl (lv_at hl 1 rfl) ?_
          refine lv_aload_n hx hb d_law_162 rfl (lv_at hl 3 rfl) ?_
          refine lv_iload_n hx hb d_law_163 rfl (lv_at hl 0 rfl) ?_
          refine lv_iconst (v := 1) hx hb d_law_164 rfl ?_
          refine lv_iadd hx hb d_law_165 ?_
          refine va_sld hx hb hX hbl hbA hS (i := (nI j) + 1) (by rw [ejn_1]; exact vp_in_nI (by omega) (by omega)) d_law_166 ?_
          refine xi (wr := wT t hs kh a f d k kf kd n σ) (W2 := fun _ => wT t hs kh a f d k kf kd n σ ++ wR a2 k2 n h ca tv nx pcs lv cs x b cl cm so ti pu np) (xV (rest := [.int r_8]) ⟨hx, hb, hml, hown, hts⟩ (c_Model_peek a2 k2 n (xs ((nI j) + 1).toNatClampNeg) h ca tv nx pcs lv cs x b cl cm so ti pu np hn) mw_Model_peek mv_Model_peek k_686 ⟨rfl, rfl, Nat.le_of_ble_eq_true rfl, Nat.le_of_ble_eq_true rfl⟩ hK hP hD hS hA hF [14, 15, 16, 17, 18, 19, 20, 21, 22, 23] [7, 8, 9, 10, 11, 12, 13, 14, 15] rfl rfl rfl 14 5 rfl rfl rfl rfl hl.1 rfl (Nat.le_of_ble_eq_true rfl) d_law_167 ⟨Nat.le_refl _, Nat.le_refl _⟩) hP hD hS hA [14, 15, 16, 17, 18, 19, 20, 21, 22, 23] [0, 1, 2, 3, 4, 5, 6, 7, 8, 9, 10, 11, 12, 13] [0, 1, 2, 3, 4, 5, 6, 7, 8, 9, 10, 11, 12, 13, 14, 15, 16, 17, 18, 19, 20, 21, 22, 23] rfl rfl rfl (by decide) (fun _ => rfl) rfl (fun r_9 _ H locs h_9 hP hD hS => ?_)
          have e_9 := E_peek hn hR h_8 h_9
          refine lv_icmp_eq (tgt := 443) hx hb d_law_170 (by decide) (fun _ => ?_) (fun h9 => absurd e_9 h9)
          refine lv_iinc (v := nI (j + 4)) (lv' := [(3, .int (nI (j + 4))), (2, .ref (a2 0)), (1, .ref t), (0, .ref bb)]) hx hb d_law_443 hl (k := 0) rfl (nI_add j 4) (by decide) rfl (fun ls hl => ?_)
          refine lv_goto (tgt := 28) hx hb d_law_446 (by decide) ?_
          exact ih (j + 4) (by omega) (by omega) (by omega) _ _ _ _ _ _ _ _ _ _ _ _ _ _ _ _ _ _ _ hR hP hD hS hl
        · by_cases c_10 : ((xs (nI j).toNatClampNeg) &&& 15) = 3
          · refine lv_tableIn (off := 133) (tgt := 175) hx hb d_law_42 (by rw [c_10]; decide) (by rw [c_10]; decide) (by rw [c_10]; rfl) (by decide) ?_
            refine lv_aload_n hx hb d_law_175 rfl (lv_at hl 2 rfl) ?_
            refine lv_aload_n hx hb d_law_176 rfl (lv_at hl 3 rfl) ?_
            refine lv_iload_n hx hb d_law_177 rfl (lv_at hl 0 rfl) ?_
            refine lv_iconst (v := 1) hx hb d_law_178 rfl ?_
            refine lv_iadd hx hb d_law_179 ?_
            refine va_sld hx hb hX hbl hbA hS (i := (nI j) + 1) (by rw [ejn_1]; exact vp_in_nI (by omega) (by omega)) d_law_180 ?_
            refine xi (wr := wR a2 k2 n h ca tv nx pcs lv cs x b cl cm so ti pu np) (W2 := fun u9 => wT t hs kh a f d k kf kd n u9 ++ wR a2 k2 n h ca tv nx pcs lv cs x b cl cm so ti pu np) (xV (rest := []) ⟨hx, hb, hml, hown, hts⟩ (c_TwinHart_step t hs kh a f d k kf kd n (xs ((nI j) + 1).toNatClampNeg) σ hn hR.hp0) mw_TwinHart_step mv_TwinHart_step k_206 ⟨rfl, rfl, Nat.le_of_ble_eq_true rfl, Nat.le_of_ble_eq_true rfl⟩ hK hP hD hS hA hF [0, 1, 2, 3, 4, 5, 6, 7, 8, 9, 10, 11, 12, 13] [0, 1, 2, 3, 4, 5, 6] rfl rfl rfl 0 0 rfl rfl rfl rfl hl.1 rfl (Nat.le_of_ble_eq_true rfl) d_law_181 ⟨Nat.le_refl _, Nat.le_refl _⟩) hP hD hS hA [0, 1, 2, 3, 4, 5, 6, 7, 8, 9, 10, 11, 12, 13] [14, 15, 16, 17, 18, 19, 20, 21, 22, 23] [10, 11, 12, 13, 14, 15, 16, 17, 18, 19, 20, 21, 22, 23, 0, 1, 2, 3, 4, 5, 6, 7, 8, 9] rfl rfl rfl (by decide) (fun _ => rfl) rfl (fun r_11 u_11 H locs h_11 hP hD hS => ?_)
            refine lv_aload_n hx hb d_law_184 rfl (lv_at hl 1 rfl) ?_
            refine lv_aload_n hx hb d_law_185 rfl (lv_at hl 3 rfl) ?_
            refine lv_iload_n hx hb d_law_186 rfl (lv_at hl 0 rfl) ?_
            refine lv_iconst (v := 1) hx hb d_law_187 rfl ?_
            refine lv_iadd hx hb d_law_188 ?_
            refine va_sld hx hb hX hbl hbA hS (i := (nI j) + 1) (by rw [ejn_1]; exact vp_in_nI (by omega) (by omega)) d_law_189 ?_
            refine xi (wr := wT t hs kh a f d k kf kd n u_11) (W2 := fun u9 => wT t hs kh a f d k kf kd n u_11 ++ wR a2 k2 n u9.1 u9.2.1 u9.2.2.1 u9.2.2.2.1 u9.2.2.2.2.1 u9.2.2.2.2.2.1 u9.2.2.2.2.2.2.1 u9.2.2.2.2.2.2.2.1 u9.2.2.2.2.2.2.2.2.1 u9.2.2.2.2.2.2.2.2.2.1 u9.2.2.2.2.2.2.2.2.2.2.1 u9.2.2.2.2.2.2.2.2.2.2.2.1 u9.2.2.2.2.2.2.2.2.2.2.2.2.1 u9.2.2.2.2.2.2.2.2.2.2.2.2.2.1 u9.2.2.2.2.2.2.2.2.2.2.2.2.2.2) (xV (rest := [.int r_11]) ⟨hx, hb, hml, hown, hts⟩ (c_Model_step a2 k2 n (xs ((nI j) + 1).toNatClampNeg) h ca tv nx pcs lv cs x b cl cm so ti pu np hn hR.hq hR.hpc) mw_Model_step mv_Model_step k_698 ⟨rfl, rfl, Nat.le_of_ble_eq_true rfl, Nat.le_of_ble_eq_true rfl⟩ hK hP hD hS hA hF [14, 15, 16, 17, 18, 19, 20, 21, 22, 23] [7, 8, 9, 10, 11, 12, 13, 14, 15] rfl rfl rfl 14 5 rfl rfl rfl rfl hl.1 rfl (Nat.le_of_ble_eq_true rfl) d_law_190 ⟨Nat.le_refl _, Nat.le_refl _⟩) hP hD hS hA [14, 15, 16, 17, 18, 19, 20, 21, 22, 23] [0, 1, 2, 3, 4, 5, 6, 7, 8, 9, 10, 11, 12, 13] [0, 1, 2, 3, 4, 5, 6, 7, 8, 9, 10, 11, 12, 13, 14, 15, 16, 17, 18, 19, 20, 21, 22, 23] rfl rfl rfl (by decide) (fun _ => rfl) rfl (fun r_12 u_12 H locs h_12 hP hD hS => ?_)
            obtain ⟨e_12, hR⟩ := E_step hn hn1 hR h_11 h_12
            refine lv_icmp_eq (tgt := 443) hx hb d_law_193 (by decide) (fun _ => ?_) (fun h9 => absurd e_12 h9)
            refine lv_iinc (v := nI (j + 4)) (lv' := [(3, .int (nI (j + 4))), (2, .ref (a2 0)), (1, .ref t), (0, .ref bb)]) hx hb d_law_443 hl (k := 0) rfl (nI_add j 4) (by decide) rfl (fun ls hl => ?_)
            refine lv_goto (tgt := 28) hx hb d_law_446 (by decide) ?_
            exact ih (j + 4) (by omega) (by omega) (by omega) _ _ _ _ _ _ _ _ _ _ _ _ _ _ _ _ _ _ _ hR hP hD hS hl
          · by_cases c_13 : ((xs (nI j).toNatClampNeg) &&& 15) = 4
            · refine lv_tableIn (off := 156) (tgt := 198) hx hb d_law_42 (by rw [c_13]; decide) (by rw [c_13]; decide) (by rw [c_13]; rfl) (by decide) ?_
              refine lv_aload_n hx hb d_law_198 rfl (lv_at hl 2 rfl) ?_
              refine xv (wr := wR a2 k2 n h ca tv nx pcs lv cs x b cl cm so ti pu np) (W2 := fun u9 => wT t hs kh a f d k kf kd n u9 ++ wR a2 k2 n h ca tv nx pcs lv cs x b cl cm so ti pu np) (xV (rest := []) ⟨hx, hb, hml, hown, hts⟩ (c_TwinHart_tick t hs kh a f d k kf kd n  σ hn) mw_TwinHart_tick mv_TwinHart_tick k_562 ⟨rfl, rfl, Nat.le_of_ble_eq_true rfl, Nat.le_of_ble_eq_true rfl⟩ hK hP hD hS hA hF [0, 1, 2, 3, 4, 5, 6, 7, 8, 9, 10, 11, 12, 13] [0, 1, 2, 3, 4, 5, 6] rfl rfl rfl 0 0 rfl rfl rfl rfl hl.1 rfl (Nat.le_of_ble_eq_true rfl) d_law_199 ⟨Nat.le_refl _, Nat.le_refl _⟩) hP hD hS hA [0, 1, 2, 3, 4, 5, 6, 7, 8, 9, 10, 11, 12, 13] [14, 15, 16, 17, 18, 19, 20, 21, 22, 23] [10, 11, 12, 13, 14, 15, 16, 17, 18, 19, 20, 21, 22, 23, 0, 1, 2, 3, 4, 5, 6, 7, 8, 9] rfl rfl rfl (by decide) (fun _ => rfl) rfl (fun u_14 H locs h_14 hP hD hS => ?_)
              refine lv_aload_n hx hb d_law_202 rfl (lv_at hl 1 rfl) ?_
              refine xv (wr := wT t hs kh a f d k kf kd n u_14) (W2 := fun u9 => wT t hs kh a f d k kf kd n u_14 ++ wR a2 k2 n h ca tv nx pcs lv cs x b cl cm so u9 pu np) (xV (rest := []) ⟨hx, hb, hml, hown, hts⟩ (c_Model_tick a2 k2 n  h ca tv nx pcs lv cs x b cl cm so ti pu np hn) mw_Model_tick mv_Model_tick k_902 ⟨rfl, rfl, Nat.le_of_ble_eq_true rfl, Nat.le_of_ble_eq_true rfl⟩ hK hP hD hS hA hF [14, 15, 16, 17, 18, 19, 20, 21, 22, 23] [7, 8, 9, 10, 11, 12, 13, 14, 15] rfl rfl rfl 14 5 rfl rfl rfl rfl hl.1 rfl (Nat.le_of_ble_eq_true rfl) d_law_203 ⟨Nat.le_refl _, Nat.le_refl _⟩) hP hD hS hA [14, 15, 16, 17, 18, 19, 20, 21, 22, 23] [0, 1, 2, 3, 4, 5, 6, 7, 8, 9, 10, 11, 12, 13] [0, 1, 2, 3, 4, 5, 6, 7, 8, 9, 10, 11, 12, 13, 14, 15, 16, 17, 18, 19, 20, 21, 22, 23] rfl rfl rfl (by decide) (fun _ => rfl) rfl (fun u_15 H locs h_15 hP hD hS => ?_)
              have hR := E_tick hR h_14 h_15
              refine lv_goto (tgt := 443) hx hb d_law_206 (by decide) ?_
              refine lv_iinc (v := nI (j + 4)) (lv' := [(3, .int (nI (j + 4))), (2, .ref (a2 0)), (1, .ref t), (0, .ref bb)]) hx hb d_law_443 hl (k := 0) rfl (nI_add j 4) (by decide) rfl (fun ls hl => ?_)
              refine lv_goto (tgt := 28) hx hb d_law_446 (by decide) ?_
              exact ih (j + 4) (by omega) (by omega) (by omega) _ _ _ _ _ _ _ _ _ _ _ _ _ _ _ _ _ _ _ hR hP hD hS hl
            · by_cases c_16 : ((xs (nI j).toNatClampNeg) &&& 15) = 5
              · refine lv_tableIn (off := 167) (tgt := 209) hx hb d_law_42 (by rw [c_16]; decide) (by rw [c_16]; decide) (by rw [c_16]; rfl) (by decide) ?_
                refine lv_aload_n hx hb d_law_209 rfl (lv_at hl 2 rfl) ?_
                refine lv_aload_n hx hb d_law_210 rfl (lv_at hl 3 rfl) ?_
                refine lv_iload_n hx hb d_law_211 rfl (lv_at hl 0 rfl) ?_
                refine lv_iconst (v := 1) hx hb d_law_212 rfl ?_
                refine lv_iadd hx hb d_law_213 ?_
                refine va_sld hx hb hX hbl hbA hS (i := (nI j) + 1) (by rw [ejn_1]; exact vp_in_nI (by omega) (by omega)) d_law_214 ?_
                refine lv_aload_n hx hb d_law_215 rfl (lv_at hl 3 rfl) ?_
                refine lv_iload_n hx hb d_law_216 rfl (lv_at hl 0 rfl) ?_
                refine lv_iconst (v := 2) hx hb d_law_217 rfl ?_
                refine lv_iadd hx hb d_law_218 ?_
                refine va_sld hx hb hX hbl hbA hS (i := (nI j) + 2) (by rw [ejn_2]; exact vp_in_nI (by omega) (by omega)) d_law_219 ?_
                refine xi (wr := wR a2 k2 n h ca tv nx pcs lv cs x b cl cm so ti pu np) (W2 := fun _ => wT t hs kh a f d k kf kd n σ ++ wR a2 k2 n h ca tv nx pcs lv cs x b cl cm so ti pu np) (xV (rest := []) ⟨hx, hb, hml, hown, hts⟩ (c_TwinHart_register t hs kh a f d k kf kd n (xs ((nI j) + 1).toNatClampNeg) (xs ((nI j) + 2).toNatClampNeg) σ hn) mw_TwinHart_register mv_TwinHart_register k_570 ⟨rfl, rfl, Nat.le_of_ble_eq_true rfl, Nat.le_of_ble_eq_true rfl⟩ hK hP hD hS hA hF [0, 1, 2, 3, 4, 5, 6, 7, 8, 9, 10, 11, 12, 13] [0, 1, 2, 3, 4, 5, 6] rfl rfl rfl 0 0 rfl rfl rfl rfl hl.1 rfl (Nat.le_of_ble_eq_true rfl) d_law_220 ⟨Nat.le_refl _, Nat.le_refl _⟩) hP hD hS hA [0, 1, 2, 3, 4, 5, 6, 7, 8, 9, 10, 11, 12, 13] [14, 15, 16, 17, 18, 19, 20, 21, 22, 23] [10, 11, 12, 13, 14, 15, 16, 17, 18, 19, 20, 21, 22, 23, 0, 1, 2, 3, 4, 5, 6, 7, 8, 9] rfl rfl rfl (by decide) (fun _ => rfl) rfl (fun r_17 _ H locs h_17 hP hD hS => ?_)
                refine lv_aload_n hx hb d_law_223 rfl (lv_at hl 1 rfl) ?_
                refine lv_aload_n hx hb d_law_224 rfl (lv_at hl 3 rfl) ?_
                refine lv_iload_n hx hb d_law_225 rfl (lv_at hl 0 rfl) ?_
                refine lv_iconst (v := 1) hx hb d_law_226 rfl ?_
                refine lv_iadd hx hb d_law_227 ?_
                refine va_sld hx hb hX hbl hbA hS (i := (nI j) + 1) (by rw [ejn_1]; exact vp_in_nI (by omega) (by omega)) d_law_228 ?_
                refine lv_aload_n hx hb d_law_229 rfl (lv_at hl 3 rfl) ?_
                refine lv_iload_n hx hb d_law_230 rfl (lv_at hl 0 rfl) ?_
                refine lv_iconst (v := 2) hx hb d_law_231 rfl ?_
                refine lv_iadd hx hb d_law_232 ?_
                refine va_sld hx hb hX hbl hbA hS (i := (nI j) + 2) (by rw [ejn_2]; exact vp_in_nI (by omega) (by omega)) d_law_233 ?_
                refine xi (wr := wT t hs kh a f d k kf kd n σ) (W2 := fun _ => wT t hs kh a f d k kf kd n σ ++ wR a2 k2 n h ca tv nx pcs lv cs x b cl cm so ti pu np) (xV (rest := [.int r_17]) ⟨hx, hb, hml, hown, hts⟩ (c_Model_register a2 k2 n (xs ((nI j) + 1).toNatClampNeg) (xs ((nI j) + 2).toNatClampNeg) h ca tv nx pcs lv cs x b cl cm so ti pu np hn) mw_Model_register mv_Model_register k_906 ⟨rfl, rfl, Nat.le_of_ble_eq_true rfl, Nat.le_of_ble_eq_true rfl⟩ hK hP hD hS hA hF [14, 15, 16, 17, 18, 19, 20, 21, 22, 23] [7, 8, 9, 10, 11, 12, 13, 14, 15] rfl rfl rfl 14 5 rfl rfl rfl rfl hl.1 rfl (Nat.le_of_ble_eq_true rfl) d_law_234 ⟨Nat.le_refl _, Nat.le_refl _⟩) hP hD hS hA [14, 15, 16, 17, 18, 19, 20, 21, 22, 23] [0, 1, 2, 3, 4, 5, 6, 7, 8, 9, 10, 11, 12, 13] [0, 1, 2, 3, 4, 5, 6, 7, 8, 9, 10, 11, 12, 13, 14, 15, 16, 17, 18, 19, 20, 21, 22, 23] rfl rfl rfl (by decide) (fun _ => rfl) rfl (fun r_18 _ H locs h_18 hP hD hS => ?_)
                have e_18 := E_register hn hR h_17 h_18
                refine lv_icmp_eq (tgt := 443) hx hb d_law_237 (by decide) (fun _ => ?_) (fun h9 => absurd e_18 h9)
                refine lv_iinc (v := nI (j + 4)) (lv' := [(3, .int (nI (j + 4))), (2, .ref (a2 0)), (1, .ref t), (0, .ref bb)]) hx hb d_law_443 hl (k := 0) rfl (nI_add j 4) (by decide) rfl (fun ls hl => ?_)
                refine lv_goto (tgt := 28) hx hb d_law_446 (by decide) ?_
                exact ih (j + 4) (by omega) (by omega) (by omega) _ _ _ _ _ _ _ _ _ _ _ _ _ _ _ _ _ _ _ hR hP hD hS hl
              · by_cases c_19 : ((xs (nI j).toNatClampNeg) &&& 15) = 6
                · refine lv_tableIn (off := 200) (tgt := 242) hx hb d_law_42 (by rw [c_19]; decide) (by rw [c_19]; decide) (by rw [c_19]; rfl) (by decide) ?_
                  refine lv_aload_n hx hb d_law_242 rfl (lv_at hl 2 rfl) ?_
                  refine lv_aload_n hx hb d_law_243 rfl (lv_at hl 3 rfl) ?_
                  refine lv_iload_n hx hb d_law_244 rfl (lv_at hl 0 rfl) ?_
                  refine lv_iconst (v := 1) hx hb d_law_245 rfl ?_
                  refine lv_iadd hx hb d_law_246 ?_
                  refine va_sld hx hb hX hbl hbA hS (i := (nI j) + 1) (by rw [ejn_1]; exact vp_in_nI (by omega) (by omega)) d_law_247 ?_
                  refine lv_aload_n hx hb d_law_248 rfl (lv_at hl 3 rfl) ?_
                  refine lv_iload_n hx hb d_law_249 rfl (lv_at hl 0 rfl) ?_
                  refine lv_iconst (v := 2) hx hb d_law_250 rfl ?_
                  refine lv_iadd hx hb d_law_251 ?_
                  refine va_sld hx hb hX hbl hbA hS (i := (nI j) + 2) (by rw [ejn_2]; exact vp_in_nI (by omega) (by omega)) d_law_252 ?_
                  refine lv_aload_n hx hb d_law_253 rfl (lv_at hl 3 rfl) ?_
                  refine lv_iload_n hx hb d_law_254 rfl (lv_at hl 0 rfl) ?_
                  refine lv_iconst (v := 3) hx hb d_law_255 rfl ?_
                  refine lv_iadd hx hb d_law_256 ?_
                  refine va_sld hx hb hX hbl hbA hS (i := (nI j) + 3) (by rw [ejn_3]; exact vp_in_nI (by omega) (by omega)) d_law_257 ?_
                  refine xi (wr := wR a2 k2 n h ca tv nx pcs lv cs x b cl cm so ti pu np) (W2 := fun u9 => wT t hs kh a f d k kf kd n u9 ++ wR a2 k2 n h ca tv nx pcs lv cs x b cl cm so ti pu np) (xV (rest := []) ⟨hx, hb, hml, hown, hts⟩ (c_TwinHart_set t hs kh a f d k kf kd n (xs ((nI j) + 1).toNatClampNeg) (xs ((nI j) + 2).toNatClampNeg) (xs ((nI j) + 3).toNatClampNeg) σ hn) mw_TwinHart_set mv_TwinHart_set k_577 ⟨rfl, rfl, Nat.le_of_ble_eq_true rfl, Nat.le_of_ble_eq_true rfl⟩ hK hP hD hS hA hF [0, 1, 2, 3, 4, 5, 6, 7, 8, 9, 10, 11, 12, 13] [0, 1, 2, 3, 4, 5, 6] rfl rfl rfl 0 0 rfl rfl rfl rfl hl.1 rfl (Nat.le_of_ble_eq_true rfl) d_law_258 ⟨Nat.le_refl _, Nat.le_refl _⟩) hP hD hS hA [0, 1, 2, 3, 4, 5, 6, 7, 8, 9, 10, 11, 12, 13] [14, 15, 16, 17, 18, 19, 20, 21, 22, 23] [10, 11, 12, 13, 14, 15, 16, 17, 18, 19, 20, 21, 22, 23, 0, 1, 2, 3, 4, 5, 6, 7, 8, 9] rfl rfl rfl (by decide) (fun _ => rfl) rfl (fun r_20 u_20 H locs h_20 hP hD hS => ?_)
                  obtain ⟨h_20, z_20⟩ := h_20
                  refine lv_aload_n hx hb d_law_261 rfl (lv_at hl 1 rfl) ?_
                  refine lv_aload_n hx hb d_law_262 rfl (lv_at hl 3 rfl) ?_
                  refine lv_iload_n hx hb d_law_263 rfl (lv_at hl 0 rfl) ?_
                  refine lv_iconst (v := 1) hx hb d_law_264 rfl ?_
                  refine lv_iadd hx hb d_law_265 ?_
                  refine va_sld hx hb hX hbl hbA hS (i := (nI j) + 1) (by rw [ejn_1]; exact vp_in_nI (by omega) (by omega)) d_law_266 ?_
                  refine lv_aload_n hx hb d_law_267 rfl (lv_at hl 3 rfl) ?_
                  refine lv_iload_n hx hb d_law_268 rfl (lv_at hl 0 rfl) ?_
                  refine lv_iconst (v := 2) hx hb d_law_269 rfl ?_
                  refine lv_iadd hx hb d_law_270 ?_
                  refine va_sld hx hb hX hbl hbA hS (i := (nI j) + 2) (by rw [ejn_2]; exact vp_in_nI (by omega) (by omega)) d_law_271 ?_
                  refine lv_aload_n hx hb d_law_272 rfl (lv_at hl 3 rfl) ?_
                  refine lv_iload_n hx hb d_law_273 rfl (lv_at hl 0 rfl) ?_
                  refine lv_iconst (v := 3) hx hb d_law_274 rfl ?_
                  refine lv_iadd hx hb d_law_275 ?_
                  refine va_sld hx hb hX hbl hbA hS (i := (nI j) + 3) (by rw [ejn_3]; exact vp_in_nI (by omega) (by omega)) d_law_276 ?_
                  refine xi (wr := wT t hs kh a f d k kf kd n u_20) (W2 := fun u9 => wT t hs kh a f d k kf kd n u_20 ++ wR a2 k2 n h ca tv nx pcs lv cs u9 b cl cm so ti pu np) (xV (rest := [.int r_20]) ⟨hx, hb, hml, hown, hts⟩ (c_Model_set a2 k2 n (xs ((nI j) + 1).toNatClampNeg) (xs ((nI j) + 2).toNatClampNeg) (xs ((nI j) + 3).toNatClampNeg) h ca tv nx pcs lv cs x b cl cm so ti pu np hn) mw_Model_set mv_Model_set k_910 ⟨rfl, rfl, Nat.le_of_ble_eq_true rfl, Nat.le_of_ble_eq_true rfl⟩ hK hP hD hS hA hF [14, 15, 16, 17, 18, 19, 20, 21, 22, 23] [7, 8, 9, 10, 11, 12, 13, 14, 15] rfl rfl rfl 14 5 rfl rfl rfl rfl hl.1 rfl (Nat.le_of_ble_eq_true rfl) d_law_277 ⟨Nat.le_refl _, Nat.le_refl _⟩) hP hD hS hA [14, 15, 16, 17, 18, 19, 20, 21, 22, 23] [0, 1, 2, 3, 4, 5, 6, 7, 8, 9, 10, 11, 12, 13] [0, 1, 2, 3, 4, 5, 6, 7, 8, 9, 10, 11, 12, 13, 14, 15, 16, 17, 18, 19, 20, 21, 22, 23] rfl rfl rfl (by decide) (fun _ => rfl) rfl (fun r_21 u_21 H locs h_21 hP hD hS => ?_)
                  obtain ⟨h_21, z_21⟩ := h_21
                  obtain ⟨e_21, hR⟩ := E_set hn hn1 hR h_20 h_21
                  refine lv_icmp_eq (tgt := 443) hx hb d_law_280 (by decide) (fun _ => ?_) (fun h9 => absurd e_21 h9)
                  refine lv_iinc (v := nI (j + 4)) (lv' := [(3, .int (nI (j + 4))), (2, .ref (a2 0)), (1, .ref t), (0, .ref bb)]) hx hb d_law_443 hl (k := 0) rfl (nI_add j 4) (by decide) rfl (fun ls hl => ?_)
                  refine lv_goto (tgt := 28) hx hb d_law_446 (by decide) ?_
                  exact ih (j + 4) (by omega) (by omega) (by omega) _ _ _ _ _ _ _ _ _ _ _ _ _ _ _ _ _ _ _ hR hP hD hS hl
                · by_cases c_22 : ((xs (nI j).toNatClampNeg) &&& 15) = 7
                  · refine lv_tableIn (off := 243) (tgt := 285) hx hb d_law_42 (by rw [c_22]; decide) (by rw [c_22]; decide) (by rw [c_22]; rfl) (by decide) ?_
                    refine lv_aload_n hx hb d_law_285 rfl (lv_at hl 2 rfl) ?_
                    refine lv_aload_n hx hb d_law_286 rfl (lv_at hl 3 rfl) ?_
                    refine lv_iload_n hx hb d_law_287 rfl (lv_at hl 0 rfl) ?_
                    refine lv_iconst (v := 1) hx hb d_law_288 rfl ?_
                    refine lv_iadd hx hb d_law_289 ?_
                    refine va_sld hx hb hX hbl hbA hS (i := (nI j) + 1) (by rw [ejn_1]; exact vp_in_nI (by omega) (by omega)) d_law_290 ?_
                    refine xi (wr := wR a2 k2 n h ca tv nx pcs lv cs x b cl cm so ti pu np) (W2 := fun _ => wT t hs kh a f d k kf kd n σ ++ wR a2 k2 n h ca tv nx pcs lv cs x b cl cm so ti pu np) (xV (rest := []) ⟨hx, hb, hml, hown, hts⟩ (c_TwinHart_pc t hs kh a f d k kf kd n (xs ((nI j) + 1).toNatClampNeg) σ hn) mw_TwinHart_pc mv_TwinHart_pc k_581 ⟨rfl, rfl, Nat.le_of_ble_eq_true rfl, Nat.le_of_ble_eq_true rfl⟩ hK hP hD hS hA hF [0, 1, 2, 3, 4, 5, 6, 7, 8, 9, 10, 11, 12, 13] [0, 1, 2, 3, 4, 5, 6] rfl rfl rfl 0 0 rfl rfl rfl rfl hl.1 rfl (Nat.le_of_ble_eq_true rfl) d_law_291 ⟨Nat.le_refl _, Nat.le_refl _⟩) hP hD hS hA [0, 1, 2, 3, 4, 5, 6, 7, 8, 9, 10, 11, 12, 13] [14, 15, 16, 17, 18, 19, 20, 21, 22, 23] [10, 11, 12, 13, 14, 15, 16, 17, 18, 19, 20, 21, 22, 23, 0, 1, 2, 3, 4, 5, 6, 7, 8, 9] rfl rfl rfl (by decide) (fun _ => rfl) rfl (fun r_23 _ H locs h_23 hP hD hS => ?_)
                    refine lv_aload_n hx hb d_law_294 rfl (lv_at hl 1 rfl) ?_
                    refine lv_aload_n hx hb d_law_295 rfl (lv_at hl 3 rfl) ?_
                    refine lv_iload_n hx hb d_law_296 rfl (lv_at hl 0 rfl) ?_
                    refine lv_iconst (v := 1) hx hb d_law_297 rfl ?_
                    refine lv_iadd hx hb d_law_298 ?_
                    refine va_sld hx hb hX hbl hbA hS (i := (nI j) + 1) (by rw [ejn_1]; exact vp_in_nI (by omega) (by omega)) d_law_299 ?_
                    refine xi (wr := wT t hs kh a f d k kf kd n σ) (W2 := fun _ => wT t hs kh a f d k kf kd n σ ++ wR a2 k2 n h ca tv nx pcs lv cs x b cl cm so ti pu np) (xV (rest := [.int r_23]) ⟨hx, hb, hml, hown, hts⟩ (c_Model_pc a2 k2 n (xs ((nI j) + 1).toNatClampNeg) h ca tv nx pcs lv cs x b cl cm so ti pu np hn) mw_Model_pc mv_Model_pc k_914 ⟨rfl, rfl, Nat.le_of_ble_eq_true rfl, Nat.le_of_ble_eq_true rfl⟩ hK hP hD hS hA hF [14, 15, 16, 17, 18, 19, 20, 21, 22, 23] [7, 8, 9, 10, 11, 12, 13, 14, 15] rfl rfl rfl 14 5 rfl rfl rfl rfl hl.1 rfl (Nat.le_of_ble_eq_true rfl) d_law_300 ⟨Nat.le_refl _, Nat.le_refl _⟩) hP hD hS hA [14, 15, 16, 17, 18, 19, 20, 21, 22, 23] [0, 1, 2, 3, 4, 5, 6, 7, 8, 9, 10, 11, 12, 13] [0, 1, 2, 3, 4, 5, 6, 7, 8, 9, 10, 11, 12, 13, 14, 15, 16, 17, 18, 19, 20, 21, 22, 23] rfl rfl rfl (by decide) (fun _ => rfl) rfl (fun r_24 _ H locs h_24 hP hD hS => ?_)
                    have e_24 := E_pc hn hR h_23 h_24
                    refine lv_icmp_eq (tgt := 443) hx hb d_law_303 (by decide) (fun _ => ?_) (fun h9 => absurd e_24 h9)
                    refine lv_iinc (v := nI (j + 4)) (lv' := [(3, .int (nI (j + 4))), (2, .ref (a2 0)), (1, .ref t), (0, .ref bb)]) hx hb d_law_443 hl (k := 0) rfl (nI_add j 4) (by decide) rfl (fun ls hl => ?_)
                    refine lv_goto (tgt := 28) hx hb d_law_446 (by decide) ?_
                    exact ih (j + 4) (by omega) (by omega) (by omega) _ _ _ _ _ _ _ _ _ _ _ _ _ _ _ _ _ _ _ hR hP hD hS hl
                  · by_cases c_25 : ((xs (nI j).toNatClampNeg) &&& 15) = 8
                    · refine lv_tableIn (off := 266) (tgt := 308) hx hb d_law_42 (by rw [c_25]; decide) (by rw [c_25]; decide) (by rw [c_25]; rfl) (by decide) ?_
                      refine lv_aload_n hx hb d_law_308 rfl (lv_at hl 2 rfl) ?_
                      refine lv_aload_n hx hb d_law_309 rfl (lv_at hl 3 rfl) ?_
                      refine lv_iload_n hx hb d_law_310 rfl (lv_at hl 0 rfl) ?_
                      refine lv_iconst (v := 1) hx hb d_law_311 rfl ?_
                      refine lv_iadd hx hb d_law_312 ?_
                      refine va_sld hx hb hX hbl hbA hS (i := (nI j) + 1) (by rw [ejn_1]; exact vp_in_nI (by omega) (by omega)) d_law_313 ?_
                      refine lv_aload_n hx hb d_law_314 rfl (lv_at hl 3 rfl) ?_
                      refine lv_iload_n hx hb d_law_315 rfl (lv_at hl 0 rfl) ?_
                      refine lv_iconst (v := 2) hx hb d_law_316 rfl ?_
                      refine lv_iadd hx hb d_law_317 ?_
                      refine va_sld hx hb hX hbl hbA hS (i := (nI j) + 2) (by rw [ejn_2]; exact vp_in_nI (by omega) (by omega)) d_law_318 ?_
                      refine xi (wr := wR a2 k2 n h ca tv nx pcs lv cs x b cl cm so ti pu np) (W2 := fun _ => wT t hs kh a f d k kf kd n σ ++ wR a2 k2 n h ca tv nx pcs lv cs x b cl cm so ti pu np) (xV (rest := []) ⟨hx, hb, hml, hown, hts⟩ (c_TwinHart_csr t hs kh a f d k kf kd n (xs ((nI j) + 1).toNatClampNeg) (xs ((nI j) + 2).toNatClampNeg) σ hn) mw_TwinHart_csr mv_TwinHart_csr k_585 ⟨rfl, rfl, Nat.le_of_ble_eq_true rfl, Nat.le_of_ble_eq_true rfl⟩ hK hP hD hS hA hF [0, 1, 2, 3, 4, 5, 6, 7, 8, 9, 10, 11, 12, 13] [0, 1, 2, 3, 4, 5, 6] rfl rfl rfl 0 0 rfl rfl rfl rfl hl.1 rfl (Nat.le_of_ble_eq_true rfl) d_law_319 ⟨Nat.le_refl _, Nat.le_refl _⟩) hP hD hS hA [0, 1, 2, 3, 4, 5, 6, 7, 8, 9, 10, 11, 12, 13] [14, 15, 16, 17, 18, 19, 20, 21, 22, 23] [10, 11, 12, 13, 14, 15, 16, 17, 18, 19, 20, 21, 22, 23, 0, 1, 2, 3, 4, 5, 6, 7, 8, 9] rfl rfl rfl (by decide) (fun _ => rfl) rfl (fun r_26 _ H locs h_26 hP hD hS => ?_)
                      refine lv_aload_n hx hb d_law_322 rfl (lv_at hl 1 rfl) ?_
                      refine lv_aload_n hx hb d_law_323 rfl (lv_at hl 3 rfl) ?_
                      refine lv_iload_n hx hb d_law_324 rfl (lv_at hl 0 rfl) ?_
                      refine lv_iconst (v := 1) hx hb d_law_325 rfl ?_
                      refine lv_iadd hx hb d_law_326 ?_
                      refine va_sld hx hb hX hbl hbA hS (i := (nI j) + 1) (by rw [ejn_1]; exact vp_in_nI (by omega) (by omega)) d_law_327 ?_
                      refine lv_aload_n hx hb d_law_328 rfl (lv_at hl 3 rfl) ?_
                      refine lv_iload_n hx hb d_law_329 rfl (lv_at hl 0 rfl) ?_
                      refine lv_iconst (v := 2) hx hb d_law_330 rfl ?_
                      refine lv_iadd hx hb d_law_331 ?_
                      refine va_sld hx hb hX hbl hbA hS (i := (nI j) + 2) (by rw [ejn_2]; exact vp_in_nI (by omega) (by omega)) d_law_332 ?_
                      refine xi (wr := wT t hs kh a f d k kf kd n σ) (W2 := fun _ => wT t hs kh a f d k kf kd n σ ++ wR a2 k2 n h ca tv nx pcs lv cs x b cl cm so ti pu np) (xV (rest := [.int r_26]) ⟨hx, hb, hml, hown, hts⟩ (c_Model_csr a2 k2 n (xs ((nI j) + 1).toNatClampNeg) (xs ((nI j) + 2).toNatClampNeg) h ca tv nx pcs lv cs x b cl cm so ti pu np hn) mw_Model_csr mv_Model_csr k_918 ⟨rfl, rfl, Nat.le_of_ble_eq_true rfl, Nat.le_of_ble_eq_true rfl⟩ hK hP hD hS hA hF [14, 15, 16, 17, 18, 19, 20, 21, 22, 23] [7, 8, 9, 10, 11, 12, 13, 14, 15] rfl rfl rfl 14 5 rfl rfl rfl rfl hl.1 rfl (Nat.le_of_ble_eq_true rfl) d_law_333 ⟨Nat.le_refl _, Nat.le_refl _⟩) hP hD hS hA [14, 15, 16, 17, 18, 19, 20, 21, 22, 23] [0, 1, 2, 3, 4, 5, 6, 7, 8, 9, 10, 11, 12, 13] [0, 1, 2, 3, 4, 5, 6, 7, 8, 9, 10, 11, 12, 13, 14, 15, 16, 17, 18, 19, 20, 21, 22, 23] rfl rfl rfl (by decide) (fun _ => rfl) rfl (fun r_27 _ H locs h_27 hP hD hS => ?_)
                      have e_27 := E_csr hn hR h_26 h_27
                      refine lv_icmp_eq (tgt := 443) hx hb d_law_336 (by decide) (fun _ => ?_) (fun h9 => absurd e_27 h9)
                      refine lv_iinc (v := nI (j + 4)) (lv' := [(3, .int (nI (j + 4))), (2, .ref (a2 0)), (1, .ref t), (0, .ref bb)]) hx hb d_law_443 hl (k := 0) rfl (nI_add j 4) (by decide) rfl (fun ls hl => ?_)
                      refine lv_goto (tgt := 28) hx hb d_law_446 (by decide) ?_
                      exact ih (j + 4) (by omega) (by omega) (by omega) _ _ _ _ _ _ _ _ _ _ _ _ _ _ _ _ _ _ _ hR hP hD hS hl
                    · by_cases c_28 : ((xs (nI j).toNatClampNeg) &&& 15) = 9
                      · refine lv_tableIn (off := 299) (tgt := 341) hx hb d_law_42 (by rw [c_28]; decide) (by rw [c_28]; decide) (by rw [c_28]; rfl) (by decide) ?_
                        refine lv_aload_n hx hb d_law_341 rfl (lv_at hl 2 rfl) ?_
                        refine lv_aload_n hx hb d_law_342 rfl (lv_at hl 3 rfl) ?_
                        refine lv_iload_n hx hb d_law_343 rfl (lv_at hl 0 rfl) ?_
                        refine lv_iconst (v := 1) hx hb d_law_344 rfl ?_
                        refine lv_iadd hx hb d_law_345 ?_
                        refine va_sld hx hb hX hbl hbA hS (i := (nI j) + 1) (by rw [ejn_1]; exact vp_in_nI (by omega) (by omega)) d_law_346 ?_
                        refine lv_aload_n hx hb d_law_347 rfl (lv_at hl 3 rfl) ?_
                        refine lv_iload_n hx hb d_law_348 rfl (lv_at hl 0 rfl) ?_
                        refine lv_iconst (v := 2) hx hb d_law_349 rfl ?_
                        refine lv_iadd hx hb d_law_350 ?_
                        refine va_sld hx hb hX hbl hbA hS (i := (nI j) + 2) (by rw [ejn_2]; exact vp_in_nI (by omega) (by omega)) d_law_351 ?_
                        refine lv_aload_n hx hb d_law_352 rfl (lv_at hl 3 rfl) ?_
                        refine lv_iload_n hx hb d_law_353 rfl (lv_at hl 0 rfl) ?_
                        refine lv_iconst (v := 3) hx hb d_law_354 rfl ?_
                        refine lv_iadd hx hb d_law_355 ?_
                        refine va_sld hx hb hX hbl hbA hS (i := (nI j) + 3) (by rw [ejn_3]; exact vp_in_nI (by omega) (by omega)) d_law_356 ?_
                        refine xi (wr := wR a2 k2 n h ca tv nx pcs lv cs x b cl cm so ti pu np) (W2 := fun u9 => wT t hs kh a f d k kf kd n u9 ++ wR a2 k2 n h ca tv nx pcs lv cs x b cl cm so ti pu np) (xV (rest := []) ⟨hx, hb, hml, hown, hts⟩ (c_TwinHart_put t hs kh a f d k kf kd n (xs ((nI j) + 1).toNatClampNeg) (xs ((nI j) + 2).toNatClampNeg) (xs ((nI j) + 3).toNatClampNeg) σ hn) mw_TwinHart_put mv_TwinHart_put k_591 ⟨rfl, rfl, Nat.le_of_ble_eq_true rfl, Nat.le_of_ble_eq_true rfl⟩ hK hP hD hS hA hF [0, 1, 2, 3, 4, 5, 6, 7, 8, 9, 10, 11, 12, 13] [0, 1, 2, 3, 4, 5, 6] rfl rfl rfl 0 0 rfl rfl rfl rfl hl.1 rfl (Nat.le_of_ble_eq_true rfl) d_law_357 ⟨Nat.le_refl _, Nat.le_refl _⟩) hP hD hS hA [0, 1, 2, 3, 4, 5, 6, 7, 8, 9, 10, 11, 12, 13] [14, 15, 16, 17, 18, 19, 20, 21, 22, 23] [10, 11, 12, 13, 14, 15, 16, 17, 18, 19, 20, 21, 22, 23, 0, 1, 2, 3, 4, 5, 6, 7, 8, 9] rfl rfl rfl (by decide) (fun _ => rfl) rfl (fun r_29 u_29 H locs h_29 hP hD hS => ?_)
                        obtain ⟨h_29, z_29⟩ := h_29
                        refine lv_aload_n hx hb d_law_360 rfl (lv_at hl 1 rfl) ?_
                        refine lv_aload_n hx hb d_law_361 rfl (lv_at hl 3 rfl) ?_
                        refine lv_iload_n hx hb d_law_362 rfl (lv_at hl 0 rfl) ?_
                        refine lv_iconst (v := 1) hx hb d_law_363 rfl ?_
                        refine lv_iadd hx hb d_law_364 ?_
                        refine va_sld hx hb hX hbl hbA hS (i := (nI j) + 1) (by rw [ejn_1]; exact vp_in_nI (by omega) (by omega)) d_law_365 ?_
                        refine lv_aload_n hx hb d_law_366 rfl (lv_at hl 3 rfl) ?_
                        refine lv_iload_n hx hb d_law_367 rfl (lv_at hl 0 rfl) ?_
                        refine lv_iconst (v := 2) hx hb d_law_368 rfl ?_
                        refine lv_iadd hx hb d_law_369 ?_
                        refine va_sld hx hb hX hbl hbA hS (i := (nI j) + 2) (by rw [ejn_2]; exact vp_in_nI (by omega) (by omega)) d_law_370 ?_
                        refine lv_aload_n hx hb d_law_371 rfl (lv_at hl 3 rfl) ?_
                        refine lv_iload_n hx hb d_law_372 rfl (lv_at hl 0 rfl) ?_
                        refine lv_iconst (v := 3) hx hb d_law_373 rfl ?_
                        refine lv_iadd hx hb d_law_374 ?_
                        refine va_sld hx hb hX hbl hbA hS (i := (nI j) + 3) (by rw [ejn_3]; exact vp_in_nI (by omega) (by omega)) d_law_375 ?_
                        refine xi (wr := wT t hs kh a f d k kf kd n u_29) (W2 := fun u9 => wT t hs kh a f d k kf kd n u_29 ++ wR a2 k2 n h ca tv nx pcs lv u9 x b cl cm so ti pu np) (xV (rest := [.int r_29]) ⟨hx, hb, hml, hown, hts⟩ (c_Model_put a2 k2 n (xs ((nI j) + 1).toNatClampNeg) (xs ((nI j) + 2).toNatClampNeg) (xs ((nI j) + 3).toNatClampNeg) h ca tv nx pcs lv cs x b cl cm so ti pu np hn) mw_Model_put mv_Model_put k_922 ⟨rfl, rfl, Nat.le_of_ble_eq_true rfl, Nat.le_of_ble_eq_true rfl⟩ hK hP hD hS hA hF [14, 15, 16, 17, 18, 19, 20, 21, 22, 23] [7, 8, 9, 10, 11, 12, 13, 14, 15] rfl rfl rfl 14 5 rfl rfl rfl rfl hl.1 rfl (Nat.le_of_ble_eq_true rfl) d_law_376 ⟨Nat.le_refl _, Nat.le_refl _⟩) hP hD hS hA [14, 15, 16, 17, 18, 19, 20, 21, 22, 23] [0, 1, 2, 3, 4, 5, 6, 7, 8, 9, 10, 11, 12, 13] [0, 1, 2, 3, 4, 5, 6, 7, 8, 9, 10, 11, 12, 13, 14, 15, 16, 17, 18, 19, 20, 21, 22, 23] rfl rfl rfl (by decide) (fun _ => rfl) rfl (fun r_30 u_30 H locs h_30 hP hD hS => ?_)
                        obtain ⟨h_30, z_30⟩ := h_30
                        obtain ⟨e_30, hR⟩ := E_put hn hn1 hR h_29 h_30
                        refine lv_icmp_eq (tgt := 443) hx hb d_law_379 (by decide) (fun _ => ?_) (fun h9 => absurd e_30 h9)
                        refine lv_iinc (v := nI (j + 4)) (lv' := [(3, .int (nI (j + 4))), (2, .ref (a2 0)), (1, .ref t), (0, .ref bb)]) hx hb d_law_443 hl (k := 0) rfl (nI_add j 4) (by decide) rfl (fun ls hl => ?_)
                        refine lv_goto (tgt := 28) hx hb d_law_446 (by decide) ?_
                        exact ih (j + 4) (by omega) (by omega) (by omega) _ _ _ _ _ _ _ _ _ _ _ _ _ _ _ _ _ _ _ hR hP hD hS hl
                      · by_cases c_31 : ((xs (nI j).toNatClampNeg) &&& 15) = 10
                        · refine lv_tableIn (off := 342) (tgt := 384) hx hb d_law_42 (by rw [c_31]; decide) (by rw [c_31]; decide) (by rw [c_31]; rfl) (by decide) ?_
                          refine lv_aload_n hx hb d_law_384 rfl (lv_at hl 2 rfl) ?_
                          refine lv_aload_n hx hb d_law_385 rfl (lv_at hl 3 rfl) ?_
                          refine lv_iload_n hx hb d_law_386 rfl (lv_at hl 0 rfl) ?_
                          refine lv_iconst (v := 1) hx hb d_law_387 rfl ?_
                          refine lv_iadd hx hb d_law_388 ?_
                          refine va_sld hx hb hX hbl hbA hS (i := (nI j) + 1) (by rw [ejn_1]; exact vp_in_nI (by omega) (by omega)) d_law_389 ?_
                          refine xi (wr := wR a2 k2 n h ca tv nx pcs lv cs x b cl cm so ti pu np) (W2 := fun _ => wT t hs kh a f d k kf kd n σ ++ wR a2 k2 n h ca tv nx pcs lv cs x b cl cm so ti pu np) (xV (rest := []) ⟨hx, hb, hml, hown, hts⟩ (c_TwinHart_level t hs kh a f d k kf kd n (xs ((nI j) + 1).toNatClampNeg) σ hn) mw_TwinHart_level mv_TwinHart_level k_598 ⟨rfl, rfl, Nat.le_of_ble_eq_true rfl, Nat.le_of_ble_eq_true rfl⟩ hK hP hD hS hA hF [0, 1, 2, 3, 4, 5, 6, 7, 8, 9, 10, 11, 12, 13] [0, 1, 2, 3, 4, 5, 6] rfl rfl rfl 0 0 rfl rfl rfl rfl hl.1 rfl (Nat.le_of_ble_eq_true rfl) d_law_390 ⟨Nat.le_refl _, Nat.le_refl _⟩) hP hD hS hA [0, 1, 2, 3, 4, 5, 6, 7, 8, 9, 10, 11, 12, 13] [14, 15, 16, 17, 18, 19, 20, 21, 22, 23] [10, 11, 12, 13, 14, 15, 16, 17, 18, 19, 20, 21, 22, 23, 0, 1, 2, 3, 4, 5, 6, 7, 8, 9] rfl rfl rfl (by decide) (fun _ => rfl) rfl (fun r_32 _ H locs h_32 hP hD hS => ?_)
                          refine lv_aload_n hx hb d_law_393 rfl (lv_at hl 1 rfl) ?_
                          refine lv_aload_n hx hb d_law_394 rfl (lv_at hl 3 rfl) ?_
                          refine lv_iload_n hx hb d_law_395 rfl (lv_at hl 0 rfl) ?_
                          refine lv_iconst (v := 1) hx hb d_law_396 rfl ?_
                          refine lv_iadd hx hb d_law_397 ?_
                          refine va_sld hx hb hX hbl hbA hS (i := (nI j) + 1) (by rw [ejn_1]; exact vp_in_nI (by omega) (by omega)) d_law_398 ?_
                          refine xi (wr := wT t hs kh a f d k kf kd n σ) (W2 := fun _ => wT t hs kh a f d k kf kd n σ ++ wR a2 k2 n h ca tv nx pcs lv cs x b cl cm so ti pu np) (xV (rest := [.int r_32]) ⟨hx, hb, hml, hown, hts⟩ (c_Model_level a2 k2 n (xs ((nI j) + 1).toNatClampNeg) h ca tv nx pcs lv cs x b cl cm so ti pu np hn) mw_Model_level mv_Model_level k_926 ⟨rfl, rfl, Nat.le_of_ble_eq_true rfl, Nat.le_of_ble_eq_true rfl⟩ hK hP hD hS hA hF [14, 15, 16, 17, 18, 19, 20, 21, 22, 23] [7, 8, 9, 10, 11, 12, 13, 14, 15] rfl rfl rfl 14 5 rfl rfl rfl rfl hl.1 rfl (Nat.le_of_ble_eq_true rfl) d_law_399 ⟨Nat.le_refl _, Nat.le_refl _⟩) hP hD hS hA [14, 15, 16, 17, 18, 19, 20, 21, 22, 23] [0, 1, 2, 3, 4, 5, 6, 7, 8, 9, 10, 11, 12, 13] [0, 1, 2, 3, 4, 5, 6, 7, 8, 9, 10, 11, 12, 13, 14, 15, 16, 17, 18, 19, 20, 21, 22, 23] rfl rfl rfl (by decide) (fun _ => rfl) rfl (fun r_33 _ H locs h_33 hP hD hS => ?_)
                          have e_33 := E_level hn hR h_32 h_33
                          refine lv_icmp_eq (tgt := 443) hx hb d_law_402 (by decide) (fun _ => ?_) (fun h9 => absurd e_33 h9)
                          refine lv_iinc (v := nI (j + 4)) (lv' := [(3, .int (nI (j + 4))), (2, .ref (a2 0)), (1, .ref t), (0, .ref bb)]) hx hb d_law_443 hl (k := 0) rfl (nI_add j 4) (by decide) rfl (fun ls hl => ?_)
                          refine lv_goto (tgt := 28) hx hb d_law_446 (by decide) ?_
                          exact ih (j + 4) (by omega) (by omega) (by omega) _ _ _ _ _ _ _ _ _ _ _ _ _ _ _ _ _ _ _ hR hP hD hS hl
                        · by_cases c_34 : ((xs (nI j).toNatClampNeg) &&& 15) = 11
                          · refine lv_tableIn (off := 365) (tgt := 407) hx hb d_law_42 (by rw [c_34]; decide) (by rw [c_34]; decide) (by rw [c_34]; rfl) (by decide) ?_
                            refine lv_aload_n hx hb d_law_407 rfl (lv_at hl 2 rfl) ?_
                            refine xi (wr := wR a2 k2 n h ca tv nx pcs lv cs x b cl cm so ti pu np) (W2 := fun _ => wT t hs kh a f d k kf kd n σ ++ wR a2 k2 n h ca tv nx pcs lv cs x b cl cm so ti pu np) (xV (rest := []) ⟨hx, hb, hml, hown, hts⟩ (c_TwinHart_size t hs kh a f d k kf kd n  σ hn) mw_TwinHart_size mv_TwinHart_size k_602 ⟨rfl, rfl, Nat.le_of_ble_eq_true rfl, Nat.le_of_ble_eq_true rfl⟩ hK hP hD hS hA hF [0, 1, 2, 3, 4, 5, 6, 7, 8, 9, 10, 11, 12, 13] [0, 1, 2, 3, 4, 5, 6] rfl rfl rfl 0 0 rfl rfl rfl rfl hl.1 rfl (Nat.le_of_ble_eq_true rfl) d_law_408 ⟨Nat.le_refl _, Nat.le_refl _⟩) hP hD hS hA [0, 1, 2, 3, 4, 5, 6, 7, 8, 9, 10, 11, 12, 13] [14, 15, 16, 17, 18, 19, 20, 21, 22, 23] [10, 11, 12, 13, 14, 15, 16, 17, 18, 19, 20, 21, 22, 23, 0, 1, 2, 3, 4, 5, 6, 7, 8, 9] rfl rfl rfl (by decide) (fun _ => rfl) rfl (fun r_35 _ H locs h_35 hP hD hS => ?_)
                            refine lv_aload_n hx hb d_law_411 rfl (lv_at hl 1 rfl) ?_
                            refine xi (wr := wT t hs kh a f d k kf kd n σ) (W2 := fun _ => wT t hs kh a f d k kf kd n σ ++ wR a2 k2 n h ca tv nx pcs lv cs x b cl cm so ti pu np) (xV (rest := [.int r_35]) ⟨hx, hb, hml, hown, hts⟩ (c_Model_size a2 k2 n  h ca tv nx pcs lv cs x b cl cm so ti pu np hn) mw_Model_size mv_Model_size k_930 ⟨rfl, rfl, Nat.le_of_ble_eq_true rfl, Nat.le_of_ble_eq_true rfl⟩ hK hP hD hS hA hF [14, 15, 16, 17, 18, 19, 20, 21, 22, 23] [7, 8, 9, 10, 11, 12, 13, 14, 15] rfl rfl rfl 14 5 rfl rfl rfl rfl hl.1 rfl (Nat.le_of_ble_eq_true rfl) d_law_412 ⟨Nat.le_refl _, Nat.le_refl _⟩) hP hD hS hA [14, 15, 16, 17, 18, 19, 20, 21, 22, 23] [0, 1, 2, 3, 4, 5, 6, 7, 8, 9, 10, 11, 12, 13] [0, 1, 2, 3, 4, 5, 6, 7, 8, 9, 10, 11, 12, 13, 14, 15, 16, 17, 18, 19, 20, 21, 22, 23] rfl rfl rfl (by decide) (fun _ => rfl) rfl (fun r_36 _ H locs h_36 hP hD hS => ?_)
                            have e_36 := E_size hn hR h_35 h_36
                            refine lv_icmp_eq (tgt := 443) hx hb d_law_415 (by decide) (fun _ => ?_) (fun h9 => absurd e_36 h9)
                            refine lv_iinc (v := nI (j + 4)) (lv' := [(3, .int (nI (j + 4))), (2, .ref (a2 0)), (1, .ref t), (0, .ref bb)]) hx hb d_law_443 hl (k := 0) rfl (nI_add j 4) (by decide) rfl (fun ls hl => ?_)
                            refine lv_goto (tgt := 28) hx hb d_law_446 (by decide) ?_
                            exact ih (j + 4) (by omega) (by omega) (by omega) _ _ _ _ _ _ _ _ _ _ _ _ _ _ _ _ _ _ _ hR hP hD hS hl
                          · by_cases c_37 : ((xs (nI j).toNatClampNeg) &&& 15) = 12
                            · refine lv_tableIn (off := 378) (tgt := 420) hx hb d_law_42 (by rw [c_37]; decide) (by rw [c_37]; decide) (by rw [c_37]; rfl) (by decide) ?_
                              refine lv_aload_n hx hb d_law_420 rfl (lv_at hl 2 rfl) ?_
                              refine lv_aload_n hx hb d_law_421 rfl (lv_at hl 3 rfl) ?_
                              refine lv_iload_n hx hb d_law_422 rfl (lv_at hl 0 rfl) ?_
                              refine lv_iconst (v := 1) hx hb d_law_423 rfl ?_
                              refine lv_iadd hx hb d_law_424 ?_
                              refine va_sld hx hb hX hbl hbA hS (i := (nI j) + 1) (by rw [ejn_1]; exact vp_in_nI (by omega) (by omega)) d_law_425 ?_
                              refine xi (wr := wR a2 k2 n h ca tv nx pcs lv cs x b cl cm so ti pu np) (W2 := fun _ => wT t hs kh a f d k kf kd n σ ++ wR a2 k2 n h ca tv nx pcs lv cs x b cl cm so ti pu np) (xV (rest := []) ⟨hx, hb, hml, hown, hts⟩ (c_TwinHart_out t hs kh a f d k kf kd n (xs ((nI j) + 1).toNatClampNeg) σ hn hR.hp) mw_TwinHart_out mv_TwinHart_out k_606 ⟨rfl, rfl, Nat.le_of_ble_eq_true rfl, Nat.le_of_ble_eq_true rfl⟩ hK hP hD hS hA hF [0, 1, 2, 3, 4, 5, 6, 7, 8, 9, 10, 11, 12, 13] [0, 1, 2, 3, 4, 5, 6] rfl rfl rfl 0 0 rfl rfl rfl rfl hl.1 rfl (Nat.le_of_ble_eq_true rfl) d_law_426 ⟨Nat.le_refl _, Nat.le_refl _⟩) hP hD hS hA [0, 1, 2, 3, 4, 5, 6, 7, 8, 9, 10, 11, 12, 13] [14, 15, 16, 17, 18, 19, 20, 21, 22, 23] [10, 11, 12, 13, 14, 15, 16, 17, 18, 19, 20, 21, 22, 23, 0, 1, 2, 3, 4, 5, 6, 7, 8, 9] rfl rfl rfl (by decide) (fun _ => rfl) rfl (fun r_38 _ H locs h_38 hP hD hS => ?_)
                              refine lv_aload_n hx hb d_law_429 rfl (lv_at hl 1 rfl) ?_
                              refine lv_aload_n hx hb d_law_430 rfl (lv_at hl 3 rfl) ?_
                              refine lv_iload_n hx hb d_law_431 rfl (lv_at hl 0 rfl) ?_
                              refine lv_iconst (v := 1) hx hb d_law_432 rfl ?_
                              refine lv_iadd hx hb d_law_433 ?_
                              refine va_sld hx hb hX hbl hbA hS (i := (nI j) + 1) (by rw [ejn_1]; exact vp_in_nI (by omega) (by omega)) d_law_434 ?_
                              refine xi (wr := wT t hs kh a f d k kf kd n σ) (W2 := fun _ => wT t hs kh a f d k kf kd n σ ++ wR a2 k2 n h ca tv nx pcs lv cs x b cl cm so ti pu np) (xV (rest := [.int r_38]) ⟨hx, hb, hml, hown, hts⟩ (c_Model_out a2 k2 n (xs ((nI j) + 1).toNatClampNeg) h ca tv nx pcs lv cs x b cl cm so ti pu np hn hR.hq) mw_Model_out mv_Model_out k_934 ⟨rfl, rfl, Nat.le_of_ble_eq_true rfl, Nat.le_of_ble_eq_true rfl⟩ hK hP hD hS hA hF [14, 15, 16, 17, 18, 19, 20, 21, 22, 23] [7, 8, 9, 10, 11, 12, 13, 14, 15] rfl rfl rfl 14 5 rfl rfl rfl rfl hl.1 rfl (Nat.le_of_ble_eq_true rfl) d_law_435 ⟨Nat.le_refl _, Nat.le_refl _⟩) hP hD hS hA [14, 15, 16, 17, 18, 19, 20, 21, 22, 23] [0, 1, 2, 3, 4, 5, 6, 7, 8, 9, 10, 11, 12, 13] [0, 1, 2, 3, 4, 5, 6, 7, 8, 9, 10, 11, 12, 13, 14, 15, 16, 17, 18, 19, 20, 21, 22, 23] rfl rfl rfl (by decide) (fun _ => rfl) rfl (fun r_39 _ H locs h_39 hP hD hS => ?_)
                              have e_39 := E_out hn hR h_38 h_39
                              refine lv_icmp_eq (tgt := 443) hx hb d_law_438 (by decide) (fun _ => ?_) (fun h9 => absurd e_39 h9)
                              refine lv_iinc (v := nI (j + 4)) (lv' := [(3, .int (nI (j + 4))), (2, .ref (a2 0)), (1, .ref t), (0, .ref bb)]) hx hb d_law_443 hl (k := 0) rfl (nI_add j 4) (by decide) rfl (fun ls hl => ?_)
                              refine lv_goto (tgt := 28) hx hb d_law_446 (by decide) ?_
                              exact ih (j + 4) (by omega) (by omega) (by omega) _ _ _ _ _ _ _ _ _ _ _ _ _ _ _ _ _ _ _ hR hP hD hS hl
                            · refine lv_tableOut (tgt := 443) hx hb d_law_42 (by have := lv_neT (a := 0) c_1 rfl; have := lv_neT (a := 1) c_4 rfl; have := lv_neT (a := 2) c_7 rfl; have := lv_neT (a := 3) c_10 rfl; have := lv_neT (a := 4) c_13 rfl; have := lv_neT (a := 5) c_16 rfl; have := lv_neT (a := 6) c_19 rfl; have := lv_neT (a := 7) c_22 rfl; have := lv_neT (a := 8) c_25 rfl; have := lv_neT (a := 9) c_28 rfl; have := lv_neT (a := 10) c_31 rfl; have := lv_neT (a := 11) c_34 rfl; have := lv_neT (a := 12) c_37 rfl; omega) (by decide) ?_
                              refine lv_iinc (v := nI (j + 4)) (lv' := [(3, .int (nI (j + 4))), (2, .ref (a2 0)), (1, .ref t), (0, .ref bb)]) hx hb d_law_443 hl (k := 0) rfl (nI_add j 4) (by decide) rfl (fun ls hl => ?_)
                              refine lv_goto (tgt := 28) hx hb d_law_446 (by decide) ?_
                              exact ih (j + 4) (by omega) (by omega) (by omega) _ _ _ _ _ _ _ _ _ _ _ _ _ _ _ _ _ _ _ hR hP hD hS hl
-- ===== what the start gives: the enum's constants, the table, the links of nest mates =====
theorem st_NW {args : Array Value} {s : State} (hts : ∀ w ∈ lw_tbl, w.before args s = true) : NW s := by
  intro w hw hn
  refine va_Nw.of ?_ (hts w hw)
  cases w <;> first | rfl | (simp [isNest] at hn)
set_option maxHeartbeats 4000000 in
set_option maxRecDepth 100000 in
theorem st_En {args : Array Value} {s : State} (htb : ∀ w ∈ lw_tbl, w.before args s = true) (hts : ∀ w ∈ tb, w.before args s = true) (hgv : (Jvm.Cond.and given_1 narrow_1).before args s = true) : ∃ ad : Nat → Nat, va_En R_Access "LTwinHart$Access;" nmA FlA ad (fun q : Nat => s.heap.size ≤ q) s s.heap := by
  have hs := flat_of_before _ hgv
  refine va_Enof ?_ (hts _ ki_acc) ?_ ?_ ?_ (fun a h => Nat.not_le.mpr h)
  · intro i hi
    have : i = 0 ∨ i = 1 ∨ i = 2 ∨ i = 3 ∨ i = 4 := by have : nmA.length = 5 := rfl; omega
    rcases this with rfl | rfl | rfl | rfl | rfl
    · exact htb _ kl_0
    · exact htb _ kl_1
    · exact htb _ kl_2
    · exact htb _ kl_3
    · exact htb _ kl_4
  · intro i hi
    have : i = 0 ∨ i = 1 ∨ i = 2 ∨ i = 3 ∨ i = 4 := by have : nmA.length = 5 := rfl; omega
    rcases this with rfl | rfl | rfl | rfl | rfl <;> exact hs _ (by decide +kernel)
  · intro q hq i hi
    have : i = 0 ∨ i = 1 ∨ i = 2 ∨ i = 3 ∨ i = 4 := by have : nmA.length = 5 := rfl; omega
    simp only [FlA, List.mem_cons, List.not_mem_nil, or_false] at hq
    rcases hq with rfl | rfl | rfl | rfl | rfl <;> (rcases this with rfl | rfl | rfl | rfl | rfl <;> exact hs _ (by decide +kernel))
  · intro i j hi hj hij
    have h1 : i = 0 ∨ i = 1 ∨ i = 2 ∨ i = 3 ∨ i = 4 := by have : nmA.length = 5 := rfl; omega
    have h2 : j = 0 ∨ j = 1 ∨ j = 2 ∨ j = 3 ∨ j = 4 := by have : nmA.length = 5 := rfl; omega
    rcases h1 with rfl | rfl | rfl | rfl | rfl <;> (rcases h2 with rfl | rfl | rfl | rfl | rfl <;> first | exact absurd rfl hij | exact Or.inl (hs _ (by decide +kernel)) | exact Or.inr (hs _ (by decide +kernel)))
set_option maxHeartbeats 4000000 in
set_option maxRecDepth 100000 in
theorem st_SF {args : Array Value} {s : State} (htb : ∀ w ∈ lw_tbl, w.before args s = true) (hgv : (Jvm.Cond.and given_1 narrow_1).before args s = true) : ∃ g : Nat → Nat, SF g (fun q : Nat => s.heap.size ≤ q) s s.heap := by
  have hts : ∀ w ∈ tb, w.before args s = true := fun w h => htb w (tb_sub h)
  have hs := flat_of_before _ hgv
  obtain ⟨ad, hE⟩ := st_En htb hts hgv
  obtain ⟨t, ht, hT⟩ := va_Tof (A := fun q : Nat => s.heap.size ≤ q) (tm := .static R_Csrs "INTERRUPT_ORDER" "[I") (ty := .int) (N := 5) (f := tabF) (by decide) (hs _ (by decide +kernel)) (va_eqt (hs _ (by decide +kernel))) (fun j hj => by
    have : j = 0 ∨ j = 1 ∨ j = 2 ∨ j = 3 ∨ j = 4 := by omega
    rcases this with rfl | rfl | rfl | rfl | rfl <;> exact va_eqt (hs _ (by decide +kernel))) (fun a h => Nat.not_le.mpr h)
  have hZ := va_Zof (A := fun q : Nat => s.heap.size ≤ q) (htb _ kl_5) (hts _ ki_csr) ht (fun a h => Nat.not_le.mpr h)
  exact ⟨fun i => match i with | 0 => t | i + 1 => ad i, st_NW htb, hE, hZ, hT⟩
set_option maxHeartbeats 4000000 in
theorem st_K {args : Array Value} {s : State} (hts : ∀ w ∈ tb, w.before args s = true) : ∃ D : va_G, va_K D classes [] s := by
  obtain ⟨c0, i0, h0⟩ := u_known hts i_TwinHart (hts _ kn_0)
  obtain ⟨c1, i1, h1⟩ := u_known hts i_Memory (hts _ kn_1)
  obtain ⟨c2, i2, h2⟩ := u_known hts i_Clint (hts _ kn_2)
  obtain ⟨c3, i3, h3⟩ := u_known hts i_Csrs (hts _ kn_3)
  obtain ⟨c4, i4, h4⟩ := u_known hts i_Hart (hts _ kn_4)
  obtain ⟨c5, i5, h5⟩ := u_known hts i_Model (hts _ kn_5)
  refine ⟨(fun i => match i with | 0 => c0 | 1 => c1 | 2 => c2 | 3 => c3 | 4 => c4 | _ => c5, fun i => match i with | 0 => i0 | 1 => i1 | 2 => i2 | 3 => i3 | 4 => i4 | _ => i5), ?_, fun k q hk => by simp at hk⟩
  intro c q hq
  rcases c with _ | _ | _ | _ | _ | _ | c
  · cases hq; exact h0
  · cases hq; exact h1
  · cases hq; exact h2
  · cases hq; exact h3
  · cases hq; exact h4
  · cases hq; exact h5
  · simp at hq
-- ===== cell(script, 0) =====
def cellv (L : Nat) (xs : Nat → Int32) : Int32 := if nI L ≤ 0 then 0 else xs 0
theorem c_law_cell {l : Launch} (bb L : Nat) (xs : Nat → Int32) (sz : Nat) : Met l y_law_cell (.code y_law_cell b_law_cell 2 (some .int) :: tb) (rD 0) (va_Pc [.ref bb, .int 0] (fun U => U.heap.size = sz ∧ va_X bb L xs U U.heap)) (va_Qi (fun (r : Int32) (_ : Unit) => r = cellv L xs) (fun _ _ => True) (fun q => sz ≤ q)) 0 0 (fun q => sz ≤ q) := by
  refine Met.ofW (cc := b_law_cell) (maxL := 2) (ret := (some .int)) (by decide) rfl ?_
  intro p e s m args below meth c s₁ B hml hv
  obtain ⟨rfl, hsz, hX⟩ := hv
  have hx := B.exec
  have hb := B.bytes
  have hr := B.returns
  have hlocks := B.notSynchronized
  subst hsz
  have hbl : bb < s.heap.size := by
    obtain ⟨scr, h1, -⟩ := hX
    exact (Array.getElem?_eq_some_iff.mp h1).1
  have hbA : ¬ (fun q : Nat => s.heap.size ≤ q) bb := Nat.not_le.mpr hbl
  have hS : va_S (fun q : Nat => s.heap.size ≤ q) s.heap s.heap [] := va_S.rf
  have hl := lv_entry ([.ref bb, .int 0]) (n := 2) (Nat.le_of_ble_eq_true rfl)
  rw [lg_entry_eq]
  generalize (lg_sl ([.ref bb, .int 0]) ++ List.replicate (2 - (lg_sl ([.ref bb, .int 0])).length) Slot.unset).toArray = ls at hl ⊢
  have hl : lv_has ls 2 [(0, .ref bb), (1, .int 0)] := hl
  refine lv_iload_n hx hb d_law_cell_0 rfl (lv_at hl 1 rfl) ?_
  refine lv_aload_n hx hb d_law_cell_1 rfl (lv_at hl 0 rfl) ?_
  refine va_slen hx hb hX hbl hbA hS d_law_cell_2 ?_
  refine lv_icmp_ge (tgt := 12) hx hb d_law_cell_3 (by decide) (fun c_1 => ?_) (fun c_1 => ?_)
  · refine lv_iconst (v := 0) hx hb d_law_cell_12 rfl ?_
    exact W.iret (v := 0) hx hb hr (fun t ht hW => ⟨⟨0, (), rfl, by unfold cellv; exact (if_pos c_1).symm, trivial⟩, hS.F ht⟩) hS.2.2 d_law_cell_13
  · refine lv_aload_n hx hb d_law_cell_6 rfl (lv_at hl 0 rfl) ?_
    refine lv_iload_n hx hb d_law_cell_7 rfl (lv_at hl 1 rfl) ?_
    have hin : vp_in 0 L := by
      rw [vp_in_iff]
      refine ⟨by decide, ?_⟩
      have h0 : ¬ L = 0 := fun h => c_1 (by rw [h]; decide)
      show (0 : Int) < L
      omega
    refine va_sld hx hb hX hbl hbA hS hin d_law_cell_8 ?_
    refine lv_goto (tgt := 13) hx hb d_law_cell_9 (by decide) ?_
    exact W.iret (v := xs (0 : Int32).toNatClampNeg) hx hb hr (fun t ht hW => ⟨⟨_, (), rfl, by unfold cellv; exact (if_neg c_1).symm, trivial⟩, hS.F ht⟩) hS.2.2 d_law_cell_13
/-- a call of cell: nothing of the world changes -/
theorem x_cell {p : Program} {l : Launch} {e : Env} {s : State} {m : MethodId} {below : List Frame} {meth : Method} {c : Code} {H : Heap} {locs : List Loc} {cells slots : Nat} {Q : State → Prop} {D : va_G} {bb L pc : Nat} {xs : Nat → Int32} {ws : va_W} {ls : Array Slot} {rest : List Value} (hx : p.tables.exec = Jvm.exec) (hb : c.code = code) (hml : c.maxLocals = 4) (hown : s.vm.findClass R_law = some m.cls) (hts : ∀ w ∈ tb, w.before #[Value.ref bb] s = true) (hX : va_X bb L xs s s.heap) (hbl : bb < s.heap.size) (hP : va_P D classes ws H) (hD : va_D (fun q : Nat => s.heap.size ≤ q) ws) (hS : va_S (fun q : Nat => s.heap.size ≤ q) s.heap H locs) (hl : ls.size = 4) (hcat : (rest.map fun v => v.category).sum ≤ 8) (hlk : Cond.methodLink R_law 9 y_law_cell ∈ tb) (hdg : decode code pc = .ok (.invokestatic 9, 3)) (hf : cells ≤ room_1.cells ∧ slots ≤ room_1.slots)
    (kk : ∀ (H1 : Heap) (locs1 : List Loc), va_P D classes ws H1 → va_S (fun q : Nat => s.heap.size ≤ q) s.heap H1 locs1 → W p l e room_1 s m #[Value.ref bb] below meth c H1 locs1 cells slots Q (F0 m (pc + 3) ls (.int (cellv L xs) :: rest))) : W p l e room_1 s m #[Value.ref bb] below meth c H locs cells slots Q (F0 m pc ls (.int 0 :: .ref bb :: rest)) := by
  have hbA : ¬ (fun q : Nat => s.heap.size ≤ q) bb := Nat.not_le.mpr hbl
  have hXH : va_X bb L xs s H := hX.kept (hS.2.1 bb hbl hbA)
  refine va_calli (va_runS (As := [.ref bb, .int 0]) (rest := rest) ⟨hx, hb, hml, hown, hts⟩ (c_law_cell (l := l) bb L xs H.size) ⟨x_cb (rm := rD 0) (R := room_1) (cc := code) ⟨hx, hb, hml, hown, hts⟩ mw_law_cell hlk ⟨rfl, rfl, Nat.le_of_ble_eq_true rfl, Nat.le_of_ble_eq_true rfl⟩, hts _ ms_law_cell⟩ ⟨fun a U g1 mk q => by obtain ⟨q0, q1, q2⟩ := q; exact ⟨q0, q1, va_X.moved (u := U) (U := U.calling g1 mk a) (Vm.Alike.refl U.vm) q2⟩, fun U hU hW => ⟨rfl, by rw [hU], by rw [hU]; exact va_X.moved hW.alike hXH⟩⟩ rfl rfl hl rfl (lv_room hcat) hdg hf) hS (fun q h1 h2 => Nat.le_trans hS.1 h2) (fun q h2 => Nat.le_trans hS.1 h2) (fun r u t H1 locs1 ht hvm hw hB hz hk hS1 => ?_)
  rw [hw]
  exact kk H1 locs1 (hP.kept (fun k q hk9 => hk q.1 (hP k q hk9).lt (Nat.not_le.mpr (hP k q hk9).lt))) hS1
