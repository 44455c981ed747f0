def sp_Memory_dropClaims (n : Nat)  (M : TM) : TM :=
  (M.1, M.2.1, M.2.2.1, M.2.2.2.1, (vp_updL (vp_updL M.2.2.2.2 0 (-1)) 1 (-1)))
set_option maxHeartbeats 4000000 in
set_option maxRecDepth 100000 in
theorem c_Memory_dropClaims {l : Launch} {D : va_G} {g : Nat → Nat} (a : Nat → Nat) (k : Nat → ClassId) (n : Nat)  (M : TM) (hn : n ≤ 4096) : CT l D g y_Memory_dropClaims b_Memory_dropClaims 1 none (rD 0) [.ref (a 0)] (wM a k n M) (tyM k) (Qv D (fun (u : TM) => sp_Memory_dropClaims n M = u) (fun u => wM a k n u)) := by
  refine CT.of rfl (Nat.le_of_ble_eq_true rfl) (fun p e s m below meth c A ls hx hb hr hml hts hown hlocks hA hP hK hD hF hS hl => ?_)
  have hl : lv_has ls 1 [(0, .ref (a 0))] := hl
  refine lv_aload_n hx hb d_Memory_dropClaims_0 rfl (lv_at hl 0 rfl) ?_
  refine va_get (D := D) (ci := 1) (v := .ref (a 5)) (C := R_Memory) (T := F_Memory) (N := 5) hx hb hts i_Memory hown hK hP 0 rfl rfl 4 (by decide) (hts _ k_60) (fun _ h9 => h9) rfl d_Memory_dropClaims_1 ?_
  refine lv_iconst (v := 0) hx hb d_Memory_dropClaims_4 rfl ?_
  refine lv_ldc2 (v := (-1)) hx hb hown (hts _ k_50) d_Memory_dropClaims_5 ?_
  refine y_last (ws' := wM a k n (M.1, M.2.1, M.2.2.1, M.2.2.2.1, (vp_updL M.2.2.2.2 0 (-1)))) hx hb hK hP hD hS 5 3 rfl rfl (by unfold vp_in; decide) d_Memory_dropClaims_8 rfl (fun H locs hP hD hS => ?_)
  refine lv_aload_n hx hb d_Memory_dropClaims_9 rfl (lv_at hl 0 rfl) ?_
  refine va_get (D := D) (ci := 1) (v := .ref (a 5)) (C := R_Memory) (T := F_Memory) (N := 5) hx hb hts i_Memory hown hK hP 0 rfl rfl 4 (by decide) (hts _ k_60) (fun _ h9 => h9) rfl d_Memory_dropClaims_10 ?_
  refine lv_iconst (v := 1) hx hb d_Memory_dropClaims_13 rfl ?_
  refine lv_ldc2 (v := (-1)) hx hb hown (hts _ k_50) d_Memory_dropClaims_14 ?_
  refine y_last (ws' := wM a k n (M.1, M.2.1, M.2.2.1, M.2.2.2.1, (vp_updL (vp_updL M.2.2.2.2 0 (-1)) 1 (-1)))) hx hb hK hP hD hS 5 3 rfl rfl (by unfold vp_in; decide) d_Memory_dropClaims_17 rfl (fun H locs hP hD hS => ?_)
  exact rv (M.1, M.2.1, M.2.2.1, M.2.2.2.1, (vp_updL (vp_updL M.2.2.2.2 0 (-1)) 1 (-1))) hx hb hr hlocks hP hD hS d_Memory_dropClaims_18 (by simp only [sp_Memory_dropClaims])
def sp_Memory_restart (n : Nat)  (M : TM) : TM :=
  let u_1 := sp_Clint_restart M.1
  let u_2 := sp_Memory_dropClaims n (u_1, M.2.1, M.2.2.1, M.2.2.2.1, M.2.2.2.2)
  u_2
set_option maxHeartbeats 4000000 in
set_option maxRecDepth 100000 in
theorem c_Memory_restart {l : Launch} {D : va_G} {g : Nat → Nat} (a : Nat → Nat) (k : Nat → ClassId) (n : Nat)  (M : TM) (hn : n ≤ 4096) : CT l D g y_Memory_restart b_Memory_restart 1 none (rD 1) [.ref (a 0)] (wM a k n M) (tyM k) (Qv D (fun (u : TM) => sp_Memory_restart n M = u) (fun u => wM a k n u)) := by
  refine CT.of rfl (Nat.le_of_ble_eq_true rfl) (fun p e s m below meth c A ls hx hb hr hml hts hown hlocks hA hP hK hD hF hS hl => ?_)
  have hl : lv_has ls 1 [(0, .ref (a 0))] := hl
  refine lv_aload_n hx hb d_Memory_restart_0 rfl (lv_at hl 0 rfl) ?_
  refine va_get (D := D) (ci := 1) (v := .ref (a 1)) (C := R_Memory) (T := F_Memory) (N := 5) hx hb hts i_Memory hown hK hP 0 rfl rfl 1 (by decide) (hts _ k_53) (fun _ h9 => h9) rfl d_Memory_restart_1 ?_
  refine xv (wr := [((a 0), .inr (1, [.ref (a 3), .ref (a 1), .ref (a 4), .int M.2.2.2.1, .ref (a 5)])), ((a 3), .inl ((k 1), n, .inl M.2.1)), ((a 4), .inl ((k 2), 256, .inl M.2.2.1)), ((a 5), .inl ((k 3), 2, .inr (.inl M.2.2.2.2)))]) (W2 := fun u9 => wM a k n (u9, M.2.1, M.2.2.1, M.2.2.2.1, M.2.2.2.2)) (xV (rest := []) ⟨hx, hb, hml, hown, hts⟩ (c_Clint_restart a k M.1) mw_Clint_restart mv_Clint_restart k_181 ⟨rfl, rfl, Nat.le_of_ble_eq_true rfl, Nat.le_of_ble_eq_true rfl⟩ hK hP hD hS hA hF [1, 2] [0] rfl rfl rfl 1 2 rfl rfl rfl rfl hl.1 rfl (Nat.le_of_ble_eq_true rfl) d_Memory_restart_4 ⟨Nat.zero_le _, Nat.zero_le _⟩) hP hD hS hA [1, 2] [0, 3, 4, 5] [0, 4, 5, 1, 2, 3] rfl rfl rfl (by decide) (fun _ => rfl) rfl (fun u_1 H locs h_1 hP hD hS => ?_)
  refine lv_aload_n hx hb d_Memory_restart_7 rfl (lv_at hl 0 rfl) ?_
  refine xv (wr := []) (W2 := fun u9 => wM a k n u9) (xV (rest := []) ⟨hx, hb, hml, hown, hts⟩ (c_Memory_dropClaims a k n (u_1, M.2.1, M.2.2.1, M.2.2.2.1, M.2.2.2.2) hn) mw_Memory_dropClaims mv_Memory_dropClaims k_182 ⟨rfl, rfl, Nat.le_of_ble_eq_true rfl, Nat.le_of_ble_eq_true rfl⟩ hK hP hD hS hA hF [0, 1, 2, 3, 4, 5] [0, 1, 2, 3] rfl rfl rfl 0 1 rfl rfl rfl rfl hl.1 rfl (Nat.le_of_ble_eq_true rfl) d_Memory_restart_8 ⟨Nat.zero_le _, Nat.zero_le _⟩) hP hD hS hA [0, 1, 2, 3, 4, 5] [] [0, 1, 2, 3, 4, 5] rfl rfl rfl (by decide) (fun _ => rfl) rfl (fun u_2 H locs h_2 hP hD hS => ?_)
  exact rv u_2 hx hb hr hlocks hP hD hS d_Memory_restart_11 (by simp only [sp_Memory_restart, h_1, h_2])
def sp_Memory_hasWord (n : Nat) (x0 : Int32) (M : TM) : Int32 :=
  if x0 < 0 then
    0
  else
    if (nI n) ≤ x0 then
      0
    else
      1
set_option maxHeartbeats 4000000 in
set_option maxRecDepth 100000 in
theorem c_Memory_hasWord {l : Launch} {D : va_G} {g : Nat → Nat} (a : Nat → Nat) (k : Nat → ClassId) (n : Nat) (x0 : Int32) (M : TM) (hn : n ≤ 4096) : CT l D g y_Memory_hasWord b_Memory_hasWord 2 (some .boolean) (rD 0) [.ref (a 0), .int x0] (wM a k n M) (tyM k) (Qi D (fun (r : Int32) (_ : Unit) => sp_Memory_hasWord n x0 M = r ∧ (r = 0 ∨ r = 1)) (fun _ => wM a k n M)) := by
  refine CT.of rfl (Nat.le_of_ble_eq_true rfl) (fun p e s m below meth c A ls hx hb hr hml hts hown hlocks hA hP hK hD hF hS hl => ?_)
  have hl : lv_has ls 2 [(0, .ref (a 0)), (1, .int x0)] := hl
  refine lv_iload_n hx hb d_Memory_hasWord_0 rfl (lv_at hl 1 rfl) ?_
  refine lv_if_lt (tgt := 17) hx hb d_Memory_hasWord_1 (by decide) (fun c_1 => ?_) (fun c_1 => ?_)
  · refine lv_iconst (v := 0) hx hb d_Memory_hasWord_17 rfl ?_
    exact rz () hx hb hr hlocks rfl hP hD hS d_Memory_hasWord_18 ⟨by simp only [sp_Memory_hasWord, if_pos c_1], Or.inl rfl⟩
  · refine lv_iload_n hx hb d_Memory_hasWord_4 rfl (lv_at hl 1 rfl) ?_
    refine lv_aload_n hx hb d_Memory_hasWord_5 rfl (lv_at hl 0 rfl) ?_
    refine va_get (D := D) (ci := 1) (v := .ref (a 3)) (C := R_Memory) (T := F_Memory) (N := 5) hx hb hts i_Memory hown hK hP 0 rfl rfl 0 (by decide) (hts _ k_51) (fun _ h9 => h9) rfl d_Memory_hasWord_6 ?_
    refine va_alen (v := nI n) hx hb hK hP 3 1 rfl rfl rfl d_Memory_hasWord_9 ?_
    refine lv_icmp_ge (tgt := 17) hx hb d_Memory_hasWord_10 (by decide) (fun c_2 => ?_) (fun c_2 => ?_)
    · refine lv_iconst (v := 0) hx hb d_Memory_hasWord_17 rfl ?_
      exact rz () hx hb hr hlocks rfl hP hD hS d_Memory_hasWord_18 ⟨by simp only [sp_Memory_hasWord, if_neg c_1, if_pos c_2], Or.inl rfl⟩
    · refine lv_iconst (v := 1) hx hb d_Memory_hasWord_13 rfl ?_
      refine lv_goto (tgt := 18) hx hb d_Memory_hasWord_14 (by decide) ?_
      exact rz () hx hb hr hlocks rfl hP hD hS d_Memory_hasWord_18 ⟨by simp only [sp_Memory_hasWord, if_neg c_1, if_neg c_2], Or.inr rfl⟩
def sp_Memory_isRam (n : Nat) (x0 : Int64) (M : TM) : Int32 :=
  if x0 < 2147483648 then
    0
  else
    if (2147483648 + (4 * ((nI n).toInt64))) ≤ x0 then
      0
    else
      1
set_option maxHeartbeats 4000000 in
set_option maxRecDepth 100000 in
theorem c_Memory_isRam {l : Launch} {D : va_G} {g : Nat → Nat} (a : Nat → Nat) (k : Nat → ClassId) (n : Nat) (x0 : Int64) (M : TM) (hn : n ≤ 4096) : CT l D g y_Memory_isRam b_Memory_isRam 3 (some .boolean) (rD 0) [.ref (a 0), .long x0] (wM a k n M) (tyM k) (Qi D (fun (r : Int32) (_ : Unit) => sp_Memory_isRam n x0 M = r ∧ (r = 0 ∨ r = 1)) (fun _ => wM a k n M)) := by
  refine CT.of rfl (Nat.le_of_ble_eq_true rfl) (fun p e s m below meth c A ls hx hb hr hml hts hown hlocks hA hP hK hD hF hS hl => ?_)
  have hl : lv_has ls 3 [(0, .ref (a 0)), (1, .long x0)] := hl
  refine lv_lload_n hx hb d_Memory_isRam_0 rfl (lv_at hl 1 rfl) ?_
  refine lv_ldc2 (v := 2147483648) hx hb hown (hts _ k_298) d_Memory_isRam_1 ?_
  refine W.lcmp hx hb d_Memory_isRam_4 ?_
  refine lv_if_lt (tgt := 31) hx hb d_Memory_isRam_5 (by decide) (fun b_1 => ?_) (fun b_1 => ?_)
  · have c_1 : x0 < 2147483648 := (lg_cmp_lt _ _).mp b_1
    refine lv_iconst (v := 0) hx hb d_Memory_isRam_31 rfl ?_
    exact rz () hx hb hr hlocks rfl hP hD hS d_Memory_isRam_32 ⟨by simp only [sp_Memory_isRam, if_pos c_1], Or.inl rfl⟩
  · have c_1 : ¬ x0 < 2147483648 := fun h9 => b_1 ((lg_cmp_lt _ _).mpr h9)
    refine lv_lload_n hx hb d_Memory_isRam_8 rfl (lv_at hl 1 rfl) ?_
    refine lv_ldc2 (v := 2147483648) hx hb hown (hts _ k_298) d_Memory_isRam_9 ?_
    refine lv_ldc2 (v := 4) hx hb hown (hts _ k_299) d_Memory_isRam_12 ?_
    refine lv_aload_n hx hb d_Memory_isRam_15 rfl (lv_at hl 0 rfl) ?_
    refine va_get (D := D) (ci := 1) (v := .ref (a 3)) (C := R_Memory) (T := F_Memory) (N := 5) hx hb hts i_Memory hown hK hP 0 rfl rfl 0 (by decide) (hts _ k_51) (fun _ h9 => h9) rfl d_Memory_isRam_16 ?_
    refine va_alen (v := nI n) hx hb hK hP 3 1 rfl rfl rfl d_Memory_isRam_19 ?_
    refine lv_i2l hx hb d_Memory_isRam_20 rfl ?_
    refine lv_lmul hx hb d_Memory_isRam_21 ?_
    refine lv_ladd hx hb d_Memory_isRam_22 ?_
    refine W.lcmp hx hb d_Memory_isRam_23 ?_
    refine lv_if_ge (tgt := 31) hx hb d_Memory_isRam_24 (by decide) (fun b_2 => ?_) (fun b_2 => ?_)
    · have c_2 : (2147483648 + (4 * ((nI n).toInt64))) ≤ x0 := (lg_cmp_ge _ _).mp b_2
      refine lv_iconst (v := 0) hx hb d_Memory_isRam_31 rfl ?_
      exact rz () hx hb hr hlocks rfl hP hD hS d_Memory_isRam_32 ⟨by simp only [sp_Memory_isRam, if_neg c_1, if_pos c_2], Or.inl rfl⟩
    · have c_2 : ¬ (2147483648 + (4 * ((nI n).toInt64))) ≤ x0 := fun h9 => b_2 ((lg_cmp_ge _ _).mpr h9)
      refine lv_iconst (v := 1) hx hb d_Memory_isRam_27 rfl ?_
      refine lv_goto (tgt := 32) hx hb d_Memory_isRam_28 (by decide) ?_
      exact rz () hx hb hr hlocks rfl hP hD hS d_Memory_isRam_32 ⟨by simp only [sp_Memory_isRam, if_neg c_1, if_neg c_2], Or.inr rfl⟩
def sp_Memory_indexOf (x0 : Int64)  : Int32 :=
  (lshr (x0 - 2147483648) 2).toInt32
set_option maxHeartbeats 4000000 in
set_option maxRecDepth 100000 in
theorem c_Memory_indexOf {l : Launch} {D : va_G} {g : Nat → Nat}  (x0 : Int64)   : CT l D g y_Memory_indexOf b_Memory_indexOf 2 (some .int) (rD 0) [.long x0] ([]) ([]) (Qi D (fun (r : Int32) (_ : Unit) => sp_Memory_indexOf x0 = r) (fun _ => [])) := by
  refine CT.of rfl (Nat.le_of_ble_eq_true rfl) (fun p e s m below meth c A ls hx hb hr hml hts hown hlocks hA hP hK hD hF hS hl => ?_)
  have hl : lv_has ls 2 [(0, .long x0)] := hl
  refine lv_lload_n hx hb d_Memory_indexOf_0 rfl (lv_at hl 0 rfl) ?_
  refine lv_ldc2 (v := 2147483648) hx hb hown (hts _ k_298) d_Memory_indexOf_1 ?_
  refine lv_lsub hx hb d_Memory_indexOf_4 ?_
  refine lv_iconst (v := 2) hx hb d_Memory_indexOf_5 rfl ?_
  refine lv_lshr (v := lshr (x0 - 2147483648) 2) hx hb d_Memory_indexOf_6 rfl ?_
  refine lv_l2i hx hb d_Memory_indexOf_7 rfl ?_
  exact ri () hx hb hr hlocks hP hD hS d_Memory_indexOf_8 (by simp only [sp_Memory_indexOf])
theorem pf_shr {a d : Nat} {D : Int64} (hD : (D.toBitVec.smod 64).toNat = d) (h : a < 2 ^ 62) : lN a >>> D = lN (a / 2 ^ d) := by
  have hd : a / 2 ^ d ≤ a := Nat.div_le_self _ _
  apply Int64.toInt_inj.mp
  have e : (lN a >>> D).toInt = (lN a).toInt >>> d := by
    rw [← hD]
    exact BitVec.toInt_sshiftRight ..
  rw [e, Int.shiftRight_eq_div_pow, pk_lT (by omega), pk_lT (by omega)]
  rfl
theorem ram_at {n : Nat} {x0 : Int64} {M : TM} (hn : n ≤ 4096) (h : ¬ sp_Memory_isRam n x0 M = 0) : ∃ j, j < 4 * n ∧ x0 = lN (2147483648 + j) := by
  unfold sp_Memory_isRam at h
  split at h
  · exact absurd rfl h
  · rename_i h1
    split at h
    · exact absurd rfl h
    · rename_i h2
      rw [nI_l (by omega), show (4 : Int64) = lN 4 from rfl, lN_mul, show (2147483648 : Int64) = lN 2147483648 from rfl, lN_add] at h2
      have h0 : ¬ x0 < 0 := by
        rw [Int64.lt_iff_toInt_lt] at h1 ⊢
        have e1 : (2147483648 : Int64).toInt = 2147483648 := rfl
        have e2 : (0 : Int64).toInt = 0 := rfl
        omega
      obtain ⟨k, hk, rfl⟩ := pk_lOf h0
      rw [show (2147483648 : Int64) = lN 2147483648 from rfl, pk_lLT hk (by omega)] at h1
      rw [pk_lLE (by omega) hk] at h2
      exact ⟨k - 2147483648, by omega, by rw [show 2147483648 + (k - 2147483648) = k from by omega]⟩
theorem ix_at {j : Nat} (h : j < 2 ^ 40) : sp_Memory_indexOf (lN (2147483648 + j)) = nI (j / 4) := by
  unfold sp_Memory_indexOf lshr
  rw [show (2147483648 : Int64) = lN 2147483648 from rfl, lN_sub (by omega), show 2147483648 + j - 2147483648 = j from by omega, pf_shr (d := 2) (by decide) (by omega), lN_i]
theorem vp_ram {n : Nat} {x0 : Int64} {M : TM} (hn : n ≤ 4096) (h : ¬ sp_Memory_isRam n x0 M = 0) : vp_in (sp_Memory_indexOf x0) n := by
  obtain ⟨j, hj, rfl⟩ := ram_at hn h
  rw [ix_at (by omega)]
  exact vp_in_nI (by omega) (by omega)
def sp_Memory_wordAt (n : Nat) (x0 : Int64) (M : TM) : Int32 :=
  M.2.1 ((sp_Memory_indexOf x0).toNatClampNeg)
set_option maxHeartbeats 4000000 in
set_option maxRecDepth 100000 in
theorem c_Memory_wordAt {l : Launch} {D : va_G} {g : Nat → Nat} (a : Nat → Nat) (k : Nat → ClassId) (n : Nat) (x0 : Int64) (M : TM) (hn : n ≤ 4096) (hin : vp_in (sp_Memory_indexOf x0) n) : CT l D g y_Memory_wordAt b_Memory_wordAt 3 (some .int) (rD 1) [.ref (a 0), .long x0] (wM a k n M) (tyM k) (Qi D (fun (r : Int32) (_ : Unit) => sp_Memory_wordAt n x0 M = r) (fun _ => wM a k n M)) := by
  refine CT.of rfl (Nat.le_of_ble_eq_true rfl) (fun p e s m below meth c A ls hx hb hr hml hts hown hlocks hA hP hK hD hF hS hl => ?_)
  have hl : lv_has ls 3 [(0, .ref (a 0)), (1, .long x0)] := hl
  refine lv_aload_n hx hb d_Memory_wordAt_0 rfl (lv_at hl 0 rfl) ?_
  refine va_get (D := D) (ci := 1) (v := .ref (a 3)) (C := R_Memory) (T := F_Memory) (N := 5) hx hb hts i_Memory hown hK hP 0 rfl rfl 0 (by decide) (hts _ k_51) (fun _ h9 => h9) rfl d_Memory_wordAt_1 ?_
  refine lv_lload_n hx hb d_Memory_wordAt_4 rfl (lv_at hl 1 rfl) ?_
  refine xi (wr := [((a 0), .inr (1, [.ref (a 3), .ref (a 1), .ref (a 4), .int M.2.2.2.1, .ref (a 5)])), ((a 1), .inr (2, [.ref (a 2)])), ((a 2), .inl ((k 0), 8, .inl M.1)), ((a 3), .inl ((k 1), n, .inl M.2.1)), ((a 4), .inl ((k 2), 256, .inl M.2.2.1)), ((a 5), .inl ((k 3), 2, .inr (.inl M.2.2.2.2)))]) (W2 := fun _ => wM a k n M) (xS (rest := [.ref (a 3)]) ⟨hx, hb, hml, hown, hts⟩ (c_Memory_indexOf x0) mw_Memory_indexOf ms_Memory_indexOf k_305 ⟨rfl, rfl, Nat.le_of_ble_eq_true rfl, Nat.le_of_ble_eq_true rfl⟩ hK hP hD hS hA hF [] [] rfl rfl rfl rfl hl.1 rfl (Nat.le_of_ble_eq_true rfl) d_Memory_wordAt_5 ⟨Nat.zero_le _, Nat.zero_le _⟩) hP hD hS hA [] [0, 1, 2, 3, 4, 5] [0, 1, 2, 3, 4, 5] rfl rfl rfl (by decide) (fun _ => rfl) rfl (fun r_1 _ H locs h_1 hP hD hS => ?_)
  subst h_1
  refine y_iald (v := M.2.1 ((sp_Memory_indexOf x0).toNatClampNeg)) hx hb hK hP 3 1 rfl rfl hin rfl d_Memory_wordAt_8 ?_
  exact ri () hx hb hr hlocks hP hD hS d_Memory_wordAt_9 (by simp only [sp_Memory_wordAt])
def sp_Memory_allows (n : Nat) (x0 : Int64) (x1 : Int32) (i : Nat) (M : TM) : Int32 :=
  if (sp_Memory_isRam n x0 M) = 0 then
    if (aF_ramAlone.getD i 0) = 0 then
      if x1 = 4 then
        if (sp_Clint_slotAt x0) = (-1) then
          0
        else
          1
      else
        if x1 = 1 then
          if (aF_stores.getD i 0) = 0 then
            0
          else
            if x0 = 268435456 then
              1
            else
              0
        else
          0
    else
      0
  else
    1
set_option maxHeartbeats 4000000 in
set_option maxRecDepth 100000 in
theorem c_Memory_allows {l : Launch} {D : va_G} {g : Nat → Nat} (a : Nat → Nat) (k : Nat → ClassId) (n : Nat) (x0 : Int64) (x1 : Int32) (i : Nat) (M : TM) (hn : n ≤ 4096) (hi : i < 5) : CT l D g y_Memory_allows b_Memory_allows 5 (some .boolean) (rD 1) [.ref (a 0), .long x0, .int x1, .ref (g (i + 1))] (wM a k n M) (tyM k) (Qi D (fun (r : Int32) (_ : Unit) => sp_Memory_allows n x0 x1 i M = r ∧ (r = 0 ∨ r = 1)) (fun _ => wM a k n M)) := by
  refine CT.of rfl (Nat.le_of_ble_eq_true rfl) (fun p e s m below meth c A ls hx hb hr hml hts hown hlocks hA hP hK hD hF hS hl => ?_)
  have hl : lv_has ls 5 [(0, .ref (a 0)), (1, .long x0), (3, .int x1), (4, .ref (g (i + 1)))] := hl
  refine lv_aload_n hx hb d_Memory_allows_0 rfl (lv_at hl 0 rfl) ?_
  refine lv_lload_n hx hb d_Memory_allows_1 rfl (lv_at hl 1 rfl) ?_
  refine xi (wr := []) (W2 := fun _ => wM a k n M) (xV (rest := []) ⟨hx, hb, hml, hown, hts⟩ (c_Memory_isRam a k n x0 M hn) mw_Memory_isRam mv_Memory_isRam k_322 ⟨rfl, rfl, Nat.le_of_ble_eq_true rfl, Nat.le_of_ble_eq_true rfl⟩ hK hP hD hS hA hF [0, 1, 2, 3, 4, 5] [0, 1, 2, 3] rfl rfl rfl 0 1 rfl rfl rfl rfl hl.1 rfl (Nat.le_of_ble_eq_true rfl) d_Memory_allows_2 ⟨Nat.zero_le _, Nat.zero_le _⟩) hP hD hS hA [0, 1, 2, 3, 4, 5] [] [0, 1, 2, 3, 4, 5] rfl rfl rfl (by decide) (fun _ => rfl) rfl (fun r_1 _ H locs h_1 hP hD hS => ?_)
  obtain ⟨h_1, z_1⟩ := h_1
  subst h_1
  refine lv_if_eq (tgt := 10) hx hb d_Memory_allows_5 (by decide) (fun c_2 => ?_) (fun c_2 => ?_)
  · refine lv_aload hx hb d_Memory_allows_10 (lv_at hl 3 rfl) ?_
    refine va_getE (E := R_Access) (nm := nmA) (F := FlA) (ad := fun i => g (i + 1)) (i := i) (q := q_ramAlone) hx hb hF.2.1 hi hS hown (List.mem_of_getElem? (i := 3) rfl) (hts _ k_942) (fun _ h9 => h9) d_Memory_allows_12 ?_
    refine W.eq (g2 := F0 m 15 ls [.int (aF_ramAlone.getD i 0)]) rfl ?_
    refine lv_if_eq (tgt := 20) hx hb d_Memory_allows_15 (by decide) (fun c_3 => ?_) (fun c_3 => ?_)
    · refine lv_iload_n hx hb d_Memory_allows_20 rfl (lv_at hl 2 rfl) ?_
      refine lv_iconst (v := 4) hx hb d_Memory_allows_21 rfl ?_
      refine lv_icmp_ne (tgt := 39) hx hb d_Memory_allows_22 (by decide) (fun c_4 => ?_) (fun c_4 => ?_)
      · refine lv_iload_n hx hb d_Memory_allows_39 rfl (lv_at hl 2 rfl) ?_
        refine lv_iconst (v := 1) hx hb d_Memory_allows_40 rfl ?_
        refine lv_icmp_ne (tgt := 64) hx hb d_Memory_allows_41 (by decide) (fun c_5 => ?_) (fun c_5 => ?_)
        · refine lv_iconst (v := 0) hx hb d_Memory_allows_64 rfl ?_
          exact rz () hx hb hr hlocks rfl hP hD hS d_Memory_allows_65 ⟨by simp only [sp_Memory_allows, if_pos c_2, if_pos c_3, if_neg c_4, if_neg c_5], Or.inl rfl⟩
        · refine lv_aload hx hb d_Memory_allows_44 (lv_at hl 3 rfl) ?_
          refine va_getE (E := R_Access) (nm := nmA) (F := FlA) (ad := fun i => g (i + 1)) (i := i) (q := q_stores) hx hb hF.2.1 hi hS hown (List.mem_of_getElem? (i := 4) rfl) (hts _ k_943) (fun _ h9 => h9) d_Memory_allows_46 ?_
          refine W.eq (g2 := F0 m 49 ls [.int (aF_stores.getD i 0)]) rfl ?_
          refine lv_if_eq (tgt := 64) hx hb d_Memory_allows_49 (by decide) (fun c_6 => ?_) (fun c_6 => ?_)
          · refine lv_iconst (v := 0) hx hb d_Memory_allows_64 rfl ?_
            exact rz () hx hb hr hlocks rfl hP hD hS d_Memory_allows_65 ⟨by simp only [sp_Memory_allows, if_pos c_2, if_pos c_3, if_neg c_4, if_pos c_5, if_pos c_6], Or.inl rfl⟩
          · refine lv_lload_n hx hb d_Memory_allows_52 rfl (lv_at hl 1 rfl) ?_
            refine lv_ldc2 (v := 268435456) hx hb hown (hts _ k_332) d_Memory_allows_53 ?_
            refine W.lcmp hx hb d_Memory_allows_56 ?_
            refine lv_if_ne (tgt := 64) hx hb d_Memory_allows_57 (by decide) (fun b_7 => ?_) (fun b_7 => ?_)
            · have c_7 : ¬ x0 = 268435456 := fun h9 => b_7 ((lg_cmp_eq _ _).mpr h9)
              refine lv_iconst (v := 0) hx hb d_Memory_allows_64 rfl ?_
              exact rz () hx hb hr hlocks rfl hP hD hS d_Memory_allows_65 ⟨by simp only [sp_Memory_allows, if_pos c_2, if_pos c_3, if_neg c_4, if_pos c_5, if_neg c_6, if_neg c_7], Or.inl rfl⟩
            · have c_7 : x0 = 268435456 := (lg_cmp_eq _ _).mp b_7
              refine lv_iconst (v := 1) hx hb d_Memory_allows_60 rfl ?_
              refine lv_goto (tgt := 65) hx hb d_Memory_allows_61 (by decide) ?_
              exact rz () hx hb hr hlocks rfl hP hD hS d_Memory_allows_65 ⟨by simp only [sp_Memory_allows, if_pos c_2, if_pos c_3, if_neg c_4, if_pos c_5, if_neg c_6, if_pos c_7], Or.inr rfl⟩
      · refine lv_lload_n hx hb d_Memory_allows_25 rfl (lv_at hl 1 rfl) ?_
        refine xi (wr := [((a 0), .inr (1, [.ref (a 3), .ref (a 1), .ref (a 4), .int M.2.2.2.1, .ref (a 5)])), ((a 1), .inr (2, [.ref (a 2)])), ((a 2), .inl ((k 0), 8, .inl M.1)), ((a 3), .inl ((k 1), n, .inl M.2.1)), ((a 4), .inl ((k 2), 256, .inl M.2.2.1)), ((a 5), .inl ((k 3), 2, .inr (.inl M.2.2.2.2)))]) (W2 := fun _ => wM a k n M) (xS (rest := []) ⟨hx, hb, hml, hown, hts⟩ (c_Clint_slotAt x0) mw_Clint_slotAt ms_Clint_slotAt k_323 ⟨rfl, rfl, Nat.le_of_ble_eq_true rfl, Nat.le_of_ble_eq_true rfl⟩ hK hP hD hS hA hF [] [] rfl rfl rfl rfl hl.1 rfl (Nat.le_of_ble_eq_true rfl) d_Memory_allows_26 ⟨Nat.zero_le _, Nat.zero_le _⟩) hP hD hS hA [] [0, 1, 2, 3, 4, 5] [0, 1, 2, 3, 4, 5] rfl rfl rfl (by decide) (fun _ => rfl) rfl (fun r_8 _ H locs h_8 hP hD hS => ?_)
        subst h_8
        refine lv_iconst (v := (-1)) hx hb d_Memory_allows_29 rfl ?_
        refine lv_icmp_eq (tgt := 37) hx hb d_Memory_allows_30 (by decide) (fun c_9 => ?_) (fun c_9 => ?_)
        · refine lv_iconst (v := 0) hx hb d_Memory_allows_37 rfl ?_
          exact rz () hx hb hr hlocks rfl hP hD hS d_Memory_allows_38 ⟨by simp only [sp_Memory_allows, if_pos c_2, if_pos c_3, if_pos c_4, if_pos c_9], Or.inl rfl⟩
        · refine lv_iconst (v := 1) hx hb d_Memory_allows_33 rfl ?_
          refine lv_goto (tgt := 38) hx hb d_Memory_allows_34 (by decide) ?_
          exact rz () hx hb hr hlocks rfl hP hD hS d_Memory_allows_38 ⟨by simp only [sp_Memory_allows, if_pos c_2, if_pos c_3, if_pos c_4, if_neg c_9], Or.inr rfl⟩
    · refine lv_iconst (v := 0) hx hb d_Memory_allows_18 rfl ?_
      exact rz () hx hb hr hlocks rfl hP hD hS d_Memory_allows_19 ⟨by simp only [sp_Memory_allows, if_pos c_2, if_neg c_3], Or.inl rfl⟩
  · refine lv_iconst (v := 1) hx hb d_Memory_allows_8 rfl ?_
    exact rz () hx hb hr hlocks rfl hP hD hS d_Memory_allows_9 ⟨by simp only [sp_Memory_allows, if_neg c_2], Or.inr rfl⟩
def sp_Memory_shiftOf (x0 : Int64)  : Int32 :=
  ((x0 &&& 3).toInt32) * 8
set_option maxHeartbeats 4000000 in
set_option maxRecDepth 100000 in
theorem c_Memory_shiftOf {l : Launch} {D : va_G} {g : Nat → Nat}  (x0 : Int64)   : CT l D g y_Memory_shiftOf b_Memory_shiftOf 2 (some .int) (rD 0) [.long x0] ([]) ([]) (Qi D (fun (r : Int32) (_ : Unit) => sp_Memory_shiftOf x0 = r) (fun _ => [])) := by
  refine CT.of rfl (Nat.le_of_ble_eq_true rfl) (fun p e s m below meth c A ls hx hb hr hml hts hown hlocks hA hP hK hD hF hS hl => ?_)
  have hl : lv_has ls 2 [(0, .long x0)] := hl
  refine lv_lload_n hx hb d_Memory_shiftOf_0 rfl (lv_at hl 0 rfl) ?_
  refine lv_ldc2 (v := 3) hx hb hown (hts _ k_375) d_Memory_shiftOf_1 ?_
  refine lv_land hx hb d_Memory_shiftOf_4 ?_
  refine lv_l2i hx hb d_Memory_shiftOf_5 rfl ?_
  refine lv_bipush (v := 8) hx hb d_Memory_shiftOf_6 rfl ?_
  refine lv_imul hx hb d_Memory_shiftOf_8 ?_
  exact ri () hx hb hr hlocks hP hD hS d_Memory_shiftOf_9 (by simp only [sp_Memory_shiftOf])
def sp_Memory_maskOf (x0 : Int32)  : Int32 :=
  if x0 = 4 then
    (-1)
  else
    (shl 1 (8 * x0)) - 1
set_option maxHeartbeats 4000000 in
set_option maxRecDepth 100000 in
theorem c_Memory_maskOf {l : Launch} {D : va_G} {g : Nat → Nat}  (x0 : Int32)   : CT l D g y_Memory_maskOf b_Memory_maskOf 1 (some .int) (rD 0) [.int x0] ([]) ([]) (Qi D (fun (r : Int32) (_ : Unit) => sp_Memory_maskOf x0 = r) (fun _ => [])) := by
  refine CT.of rfl (Nat.le_of_ble_eq_true rfl) (fun p e s m below meth c A ls hx hb hr hml hts hown hlocks hA hP hK hD hF hS hl => ?_)
  have hl : lv_has ls 1 [(0, .int x0)] := hl
  refine lv_iload_n hx hb d_Memory_maskOf_0 rfl (lv_at hl 0 rfl) ?_
  refine lv_iconst (v := 4) hx hb d_Memory_maskOf_1 rfl ?_
  refine lv_icmp_ne (tgt := 9) hx hb d_Memory_maskOf_2 (by decide) (fun c_1 => ?_) (fun c_1 => ?_)
  · refine lv_iconst (v := 1) hx hb d_Memory_maskOf_9 rfl ?_
    refine lv_bipush (v := 8) hx hb d_Memory_maskOf_10 rfl ?_
    refine lv_iload_n hx hb d_Memory_maskOf_12 rfl (lv_at hl 0 rfl) ?_
    refine lv_imul hx hb d_Memory_maskOf_13 ?_
    refine y_ishl hx hb d_Memory_maskOf_14 ?_
    refine lv_iconst (v := 1) hx hb d_Memory_maskOf_15 rfl ?_
    refine lv_isub hx hb d_Memory_maskOf_16 ?_
    exact ri () hx hb hr hlocks hP hD hS d_Memory_maskOf_17 (by simp only [sp_Memory_maskOf, if_neg c_1])
  · refine lv_iconst (v := (-1)) hx hb d_Memory_maskOf_5 rfl ?_
    refine lv_goto (tgt := 17) hx hb d_Memory_maskOf_6 (by decide) ?_
    exact ri () hx hb hr hlocks hP hD hS d_Memory_maskOf_17 (by simp only [sp_Memory_maskOf, if_pos c_1])
def sp_Memory_load (n : Nat) (x0 : Int64) (x1 : Int32) (M : TM) : Int32 :=
  if (sp_Memory_isRam n x0 M) = 0 then
    if (sp_Clint_slotAt x0) = (-1) then
      0
    else
      M.1 ((sp_Clint_slotAt x0).toNatClampNeg)
  else
    (ush (M.2.1 ((sp_Memory_indexOf x0).toNatClampNeg)) (sp_Memory_shiftOf x0)) &&& (sp_Memory_maskOf x1)
set_option maxHeartbeats 4000000 in
set_option maxRecDepth 100000 in
theorem c_Memory_load {l : Launch} {D : va_G} {g : Nat → Nat} (a : Nat → Nat) (k : Nat → ClassId) (n : Nat) (x0 : Int64) (x1 : Int32) (M : TM) (hn : n ≤ 4096) : CT l D g y_Memory_load b_Memory_load 5 (some .int) (rD 1) [.ref (a 0), .long x0, .int x1] (wM a k n M) (tyM k) (Qi D (fun (r : Int32) (_ : Unit) => sp_Memory_load n x0 x1 M = r) (fun _ => wM a k n M)) := by
  refine CT.of rfl (Nat.le_of_ble_eq_true rfl) (fun p e s m below meth c A ls hx hb hr hml hts hown hlocks hA hP hK hD hF hS hl => ?_)
  have hl : lv_has ls 5 [(0, .ref (a 0)), (1, .long x0), (3, .int x1)] := hl
  refine lv_aload_n hx hb d_Memory_load_0 rfl (lv_at hl 0 rfl) ?_
  refine lv_lload_n hx hb d_Memory_load_1 rfl (lv_at hl 1 rfl) ?_
  refine xi (wr := []) (W2 := fun _ => wM a k n M) (xV (rest := []) ⟨hx, hb, hml, hown, hts⟩ (c_Memory_isRam a k n x0 M hn) mw_Memory_isRam mv_Memory_isRam k_322 ⟨rfl, rfl, Nat.le_of_ble_eq_true rfl, Nat.le_of_ble_eq_true rfl⟩ hK hP hD hS hA hF [0, 1, 2, 3, 4, 5] [0, 1, 2, 3] rfl rfl rfl 0 1 rfl rfl rfl rfl hl.1 rfl (Nat.le_of_ble_eq_true rfl) d_Memory_load_2 ⟨Nat.zero_le _, Nat.zero_le _⟩) hP hD hS hA [0, 1, 2, 3, 4, 5] [] [0, 1, 2, 3, 4, 5] rfl rfl rfl (by decide) (fun _ => rfl) rfl (fun r_1 _ H locs h_1 hP hD hS => ?_)
  obtain ⟨h_1, z_1⟩ := h_1
  subst h_1
  refine lv_if_eq (tgt := 28) hx hb d_Memory_load_5 (by decide) (fun c_2 => ?_) (fun c_2 => ?_)
  · refine lv_lload_n hx hb d_Memory_load_28 rfl (lv_at hl 1 rfl) ?_
    refine xi (wr := [((a 0), .inr (1, [.ref (a 3), .ref (a 1), .ref (a 4), .int M.2.2.2.1, .ref (a 5)])), ((a 1), .inr (2, [.ref (a 2)])), ((a 2), .inl ((k 0), 8, .inl M.1)), ((a 3), .inl ((k 1), n, .inl M.2.1)), ((a 4), .inl ((k 2), 256, .inl M.2.2.1)), ((a 5), .inl ((k 3), 2, .inr (.inl M.2.2.2.2)))]) (W2 := fun _ => wM a k n M) (xS (rest := []) ⟨hx, hb, hml, hown, hts⟩ (c_Clint_slotAt x0) mw_Clint_slotAt ms_Clint_slotAt k_323 ⟨rfl, rfl, Nat.le_of_ble_eq_true rfl, Nat.le_of_ble_eq_true rfl⟩ hK hP hD hS hA hF [] [] rfl rfl rfl rfl hl.1 rfl (Nat.le_of_ble_eq_true rfl) d_Memory_load_29 ⟨Nat.zero_le _, Nat.zero_le _⟩) hP hD hS hA [] [0, 1, 2, 3, 4, 5] [0, 1, 2, 3, 4, 5] rfl rfl rfl (by decide) (fun _ => rfl) rfl (fun r_3 _ H locs h_3 hP hD hS => ?_)
    subst h_3
    refine lv_istore (lv' := [(4, .int (sp_Clint_slotAt x0)), (0, .ref (a 0)), (1, .long x0), (3, .int x1)]) hx hb d_Memory_load_32 hl (by decide) rfl (fun ls hl => ?_)
    refine lv_iload hx hb d_Memory_load_34 (lv_at hl 0 rfl) ?_
    refine lv_iconst (v := (-1)) hx hb d_Memory_load_36 rfl ?_
    refine lv_icmp_ne (tgt := 44) hx hb d_Memory_load_37 (by decide) (fun c_4 => ?_) (fun c_4 => ?_)
    · refine lv_aload_n hx hb d_Memory_load_44 rfl (lv_at hl 1 rfl) ?_
      refine va_get (D := D) (ci := 1) (v := .ref (a 1)) (C := R_Memory) (T := F_Memory) (N := 5) hx hb hts i_Memory hown hK hP 0 rfl rfl 1 (by decide) (hts _ k_53) (fun _ h9 => h9) rfl d_Memory_load_45 ?_
      refine va_getN (D := D) (ci := 2) (v := .ref (a 2)) (C := R_Clint) (T := F_Clint) (N := 1) hx hb hts i_Clint hown hK hP 1 rfl rfl 0 (by decide) (va_Nw.use rfl (hF.1 _ kn_45 rfl)) (fun _ h9 => h9) rfl d_Memory_load_48 ?_
      refine lv_iload hx hb d_Memory_load_51 (lv_at hl 0 rfl) ?_
      refine y_iald (v := M.1 ((sp_Clint_slotAt x0).toNatClampNeg)) hx hb hK hP 2 0 rfl rfl (vp_slot c_4) rfl d_Memory_load_53 ?_
      exact ri () hx hb hr hlocks hP hD hS d_Memory_load_54 (by simp only [sp_Memory_load, if_pos c_2, if_neg c_4])
    · refine lv_iconst (v := 0) hx hb d_Memory_load_40 rfl ?_
      refine lv_goto (tgt := 54) hx hb d_Memory_load_41 (by decide) ?_
      exact ri () hx hb hr hlocks hP hD hS d_Memory_load_54 (by simp only [sp_Memory_load, if_pos c_2, if_pos c_4])
  · refine lv_aload_n hx hb d_Memory_load_8 rfl (lv_at hl 0 rfl) ?_
    refine va_get (D := D) (ci := 1) (v := .ref (a 3)) (C := R_Memory) (T := F_Memory) (N := 5) hx hb hts i_Memory hown hK hP 0 rfl rfl 0 (by decide) (hts _ k_51) (fun _ h9 => h9) rfl d_Memory_load_9 ?_
    refine lv_lload_n hx hb d_Memory_load_12 rfl (lv_at hl 1 rfl) ?_
    refine xi (wr := [((a 0), .inr (1, [.ref (a 3), .ref (a 1), .ref (a 4), .int M.2.2.2.1, .ref (a 5)])), ((a 1), .inr (2, [.ref (a 2)])), ((a 2), .inl ((k 0), 8, .inl M.1)), ((a 3), .inl ((k 1), n, .inl M.2.1)), ((a 4), .inl ((k 2), 256, .inl M.2.2.1)), ((a 5), .inl ((k 3), 2, .inr (.inl M.2.2.2.2)))]) (W2 := fun _ => wM a k n M) (xS (rest := [.ref (a 3)]) ⟨hx, hb, hml, hown, hts⟩ (c_Memory_indexOf x0) mw_Memory_indexOf ms_Memory_indexOf k_305 ⟨rfl, rfl, Nat.le_of_ble_eq_true rfl, Nat.le_of_ble_eq_true rfl⟩ hK hP hD hS hA hF [] [] rfl rfl rfl rfl hl.1 rfl (Nat.le_of_ble_eq_true rfl) d_Memory_load_13 ⟨Nat.zero_le _, Nat.zero_le _⟩) hP hD hS hA [] [0, 1, 2, 3, 4, 5] [0, 1, 2, 3, 4, 5] rfl rfl rfl (by decide) (fun _ => rfl) rfl (fun r_5 _ H locs h_5 hP hD hS => ?_)
    subst h_5
    refine y_iald (v := M.2.1 ((sp_Memory_indexOf x0).toNatClampNeg)) hx hb hK hP 3 1 rfl rfl (vp_ram hn c_2) rfl d_Memory_load_16 ?_
    refine lv_lload_n hx hb d_Memory_load_17 rfl (lv_at hl 1 rfl) ?_
    refine xi (wr := [((a 0), .inr (1, [.ref (a 3), .ref (a 1), .ref (a 4), .int M.2.2.2.1, .ref (a 5)])), ((a 1), .inr (2, [.ref (a 2)])), ((a 2), .inl ((k 0), 8, .inl M.1)), ((a 3), .inl ((k 1), n, .inl M.2.1)), ((a 4), .inl ((k 2), 256, .inl M.2.2.1)), ((a 5), .inl ((k 3), 2, .inr (.inl M.2.2.2.2)))]) (W2 := fun _ => wM a k n M) (xS (rest := [.int (M.2.1 ((sp_Memory_indexOf x0).toNatClampNeg))]) ⟨hx, hb, hml, hown, hts⟩ (c_Memory_shiftOf x0) mw_Memory_shiftOf ms_Memory_shiftOf k_372 ⟨rfl, rfl, Nat.le_of_ble_eq_true rfl, Nat.le_of_ble_eq_true rfl⟩ hK hP hD hS hA hF [] [] rfl rfl rfl rfl hl.1 rfl (Nat.le_of_ble_eq_true rfl) d_Memory_load_18 ⟨Nat.zero_le _, Nat.zero_le _⟩) hP hD hS hA [] [0, 1, 2, 3, 4, 5] [0, 1, 2, 3, 4, 5] rfl rfl rfl (by decide) (fun _ => rfl) rfl (fun r_6 _ H locs h_6 hP hD hS => ?_)
    subst h_6
    refine lv_iushr (v := ush (M.2.1 ((sp_Memory_indexOf x0).toNatClampNeg)) (sp_Memory_shiftOf x0)) hx hb d_Memory_load_21 rfl ?_
    refine lv_iload_n hx hb d_Memory_load_22 rfl (lv_at hl 2 rfl) ?_
    refine xi (wr := [((a 0), .inr (1, [.ref (a 3), .ref (a 1), .ref (a 4), .int M.2.2.2.1, .ref (a 5)])), ((a 1), .inr (2, [.ref (a 2)])), ((a 2), .inl ((k 0), 8, .inl M.1)), ((a 3), .inl ((k 1), n, .inl M.2.1)), ((a 4), .inl ((k 2), 256, .inl M.2.2.1)), ((a 5), .inl ((k 3), 2, .inr (.inl M.2.2.2.2)))]) (W2 := fun _ => wM a k n M) (xS (rest := [.int (ush (M.2.1 ((sp_Memory_indexOf x0).toNatClampNeg)) (sp_Memory_shiftOf x0))]) ⟨hx, hb, hml, hown, hts⟩ (c_Memory_maskOf x1) mw_Memory_maskOf ms_Memory_maskOf k_376 ⟨rfl, rfl, Nat.le_of_ble_eq_true rfl, Nat.le_of_ble_eq_true rfl⟩ hK hP hD hS hA hF [] [] rfl rfl rfl rfl hl.1 rfl (Nat.le_of_ble_eq_true rfl) d_Memory_load_23 ⟨Nat.zero_le _, Nat.zero_le _⟩) hP hD hS hA [] [0, 1, 2, 3, 4, 5] [0, 1, 2, 3, 4, 5] rfl rfl rfl (by decide) (fun _ => rfl) rfl (fun r_7 _ H locs h_7 hP hD hS => ?_)
    subst h_7
    refine lv_iand hx hb d_Memory_load_26 ?_
    exact ri () hx hb hr hlocks hP hD hS d_Memory_load_27 (by simp only [sp_Memory_load, if_neg c_2])
def sp_Memory_print (n : Nat) (x0 : Int32) (M : TM) : TM :=
  if 256 ≤ M.2.2.2.1 then
    M
  else
    (M.1, M.2.1, (upd M.2.2.1 M.2.2.2.1.toNatClampNeg (vp_nar .byte x0.toInt8.toInt32)), M.2.2.2.1 + 1, M.2.2.2.2)
set_option maxHeartbeats 4000000 in
set_option maxRecDepth 100000 in
theorem c_Memory_print {l : Launch} {D : va_G} {g : Nat → Nat} (a : Nat → Nat) (k : Nat → ClassId) (n : Nat) (x0 : Int32) (M : TM) (hn : n ≤ 4096) (hp : 0 ≤ M.2.2.2.1) : CT l D g y_Memory_print b_Memory_print 2 none (rD 0) [.ref (a 0), .int x0] (wM a k n M) (tyM k) (Qv D (fun (u : TM) => sp_Memory_print n x0 M = u) (fun u => wM a k n u)) := by
  refine CT.of rfl (Nat.le_of_ble_eq_true rfl) (fun p e s m below meth c A ls hx hb hr hml hts hown hlocks hA hP hK hD hF hS hl => ?_)
  have hl : lv_has ls 2 [(0, .ref (a 0)), (1, .int x0)] := hl
  refine lv_aload_n hx hb d_Memory_print_0 rfl (lv_at hl 0 rfl) ?_
  refine va_get (D := D) (ci := 1) (v := .int M.2.2.2.1) (C := R_Memory) (T := F_Memory) (N := 5) hx hb hts i_Memory hown hK hP 0 rfl rfl 3 (by decide) (hts _ k_58) (fun _ h9 => h9) rfl d_Memory_print_1 ?_
  refine lv_aload_n hx hb d_Memory_print_4 rfl (lv_at hl 0 rfl) ?_
  refine va_get (D := D) (ci := 1) (v := .ref (a 4)) (C := R_Memory) (T := F_Memory) (N := 5) hx hb hts i_Memory hown hK hP 0 rfl rfl 2 (by decide) (hts _ k_56) (fun _ h9 => h9) rfl d_Memory_print_5 ?_
  refine va_alen (v := 256) hx hb hK hP 4 2 rfl rfl rfl d_Memory_print_8 ?_
  refine lv_icmp_ge (tgt := 33) hx hb d_Memory_print_9 (by decide) (fun c_1 => ?_) (fun c_1 => ?_)
  · exact rv M hx hb hr hlocks hP hD hS d_Memory_print_33 (by simp only [sp_Memory_print, if_pos c_1])
  · refine lv_aload_n hx hb d_Memory_print_12 rfl (lv_at hl 0 rfl) ?_
    refine va_get (D := D) (ci := 1) (v := .ref (a 4)) (C := R_Memory) (T := F_Memory) (N := 5) hx hb hts i_Memory hown hK hP 0 rfl rfl 2 (by decide) (hts _ k_56) (fun _ h9 => h9) rfl d_Memory_print_13 ?_
    refine lv_aload_n hx hb d_Memory_print_16 rfl (lv_at hl 0 rfl) ?_
    refine va_get (D := D) (ci := 1) (v := .int M.2.2.2.1) (C := R_Memory) (T := F_Memory) (N := 5) hx hb hts i_Memory hown hK hP 0 rfl rfl 3 (by decide) (hts _ k_58) (fun _ h9 => h9) rfl d_Memory_print_17 ?_
    refine lv_iload_n hx hb d_Memory_print_20 rfl (lv_at hl 1 rfl) ?_
    refine lv_i2b hx hb d_Memory_print_21 rfl ?_
    refine y_bast (ws' := wM a k n (M.1, M.2.1, (upd M.2.2.1 M.2.2.2.1.toNatClampNeg (vp_nar .byte x0.toInt8.toInt32)), M.2.2.2.1, M.2.2.2.2)) hx hb hK hP hD hS 4 2 rfl rfl (vp_pr hp c_1) d_Memory_print_22 rfl (fun H locs hP hD hS => ?_)
    refine lv_aload_n hx hb d_Memory_print_23 rfl (lv_at hl 0 rfl) ?_
    refine lv_dup hx hb d_Memory_print_24 rfl ?_
    refine va_get (D := D) (ci := 1) (v := .int M.2.2.2.1) (C := R_Memory) (T := F_Memory) (N := 5) hx hb hts i_Memory hown hK hP 0 rfl rfl 3 (by decide) (hts _ k_58) (fun _ h9 => h9) rfl d_Memory_print_25 ?_
    refine lv_iconst (v := 1) hx hb d_Memory_print_28 rfl ?_
    refine lv_iadd hx hb d_Memory_print_29 ?_
    refine y_put (D := D) (ci := 1) (v := .int (M.2.2.2.1 + 1)) (ty := .int) (C := R_Memory) (T := F_Memory) (N := 5) (ws' := wM a k n (M.1, M.2.1, (upd M.2.2.1 M.2.2.2.1.toNatClampNeg (vp_nar .byte x0.toInt8.toInt32)), M.2.2.2.1 + 1, M.2.2.2.2)) hx hb hts i_Memory t_Memory t_Memory_ok n_Memory hown hK hP hD hS 0 rfl rfl 3 (by decide) (hts _ k_58) (fun _ h9 => h9) rfl (by decide +kernel) rfl rfl (Nat.le_of_ble_eq_true rfl) d_Memory_print_30 rfl (fun H locs hP hD hS => ?_)
    exact rv (M.1, M.2.1, (upd M.2.2.1 M.2.2.2.1.toNatClampNeg (vp_nar .byte x0.toInt8.toInt32)), M.2.2.2.1 + 1, M.2.2.2.2) hx hb hr hlocks hP hD hS d_Memory_print_33 (by simp only [sp_Memory_print, if_neg c_1])
def sp_Memory_store (n : Nat) (x0 : Int64) (x1 : Int32) (x2 : Int32) (M : TM) : TM :=
  if (sp_Memory_isRam n x0 M) = 0 then
    if x0 = 268435456 then
      let u_5 := sp_Memory_print n x2 M
      u_5
    else
      let u_4 := sp_Clint_store x0 x2 M.1
      (u_4, M.2.1, M.2.2.1, M.2.2.2.1, M.2.2.2.2)
  else
    let u_10 := sp_Memory_dropClaims n (M.1, (upd M.2.1 ((sp_Memory_indexOf x0).toNatClampNeg) (((M.2.1 ((sp_Memory_indexOf x0).toNatClampNeg)) &&& ((shl (sp_Memory_maskOf x1) (sp_Memory_shiftOf x0)) ^^^ (-1))) ||| ((shl x2 (sp_Memory_shiftOf x0)) &&& (shl (sp_Memory_maskOf x1) (sp_Memory_shiftOf x0))))), M.2.2.1, M.2.2.2.1, M.2.2.2.2)
    u_10
set_option maxHeartbeats 4000000 in
set_option maxRecDepth 100000 in
theorem c_Memory_store {l : Launch} {D : va_G} {g : Nat → Nat} (a : Nat → Nat) (k : Nat → ClassId) (n : Nat) (x0 : Int64) (x1 : Int32) (x2 : Int32) (M : TM) (hn : n ≤ 4096) (hp : 0 ≤ M.2.2.2.1) : CT l D g y_Memory_store b_Memory_store 7 none (rD 2) [.ref (a 0), .long x0, .int x1, .int x2] (wM a k n M) (tyM k) (Qv D (fun (u : TM) => sp_Memory_store n x0 x1 x2 M = u) (fun u => wM a k n u)) := by
  refine CT.of rfl (Nat.le_of_ble_eq_true rfl) (fun p e s m below meth c A ls hx hb hr hml hts hown hlocks hA hP hK hD hF hS hl => ?_)
  have hl : lv_has ls 7 [(0, .ref (a 0)), (1, .long x0), (3, .int x1), (4, .int x2)] := hl
  refine lv_aload_n hx hb d_Memory_store_0 rfl (lv_at hl 0 rfl) ?_
  refine lv_lload_n hx hb d_Memory_store_1 rfl (lv_at hl 1 rfl) ?_
  refine xi (wr := []) (W2 := fun _ => wM a k n M) (xV (rest := []) ⟨hx, hb, hml, hown, hts⟩ (c_Memory_isRam a k n x0 M hn) mw_Memory_isRam mv_Memory_isRam k_322 ⟨rfl, rfl, Nat.le_of_ble_eq_true rfl, Nat.le_of_ble_eq_true rfl⟩ hK hP hD hS hA hF [0, 1, 2, 3, 4, 5] [0, 1, 2, 3] rfl rfl rfl 0 1 rfl rfl rfl rfl hl.1 rfl (Nat.le_of_ble_eq_true rfl) d_Memory_store_2 ⟨Nat.zero_le _, Nat.zero_le _⟩) hP hD hS hA [0, 1, 2, 3, 4, 5] [] [0, 1, 2, 3, 4, 5] rfl rfl rfl (by decide) (fun _ => rfl) rfl (fun r_1 _ H locs h_1 hP hD hS => ?_)
  obtain ⟨h_1, z_1⟩ := h_1
  subst h_1
  refine lv_if_eq (tgt := 62) hx hb d_Memory_store_5 (by decide) (fun c_2 => ?_) (fun c_2 => ?_)
  · refine lv_lload_n hx hb d_Memory_store_62 rfl (lv_at hl 1 rfl) ?_
    refine lv_ldc2 (v := 268435456) hx hb hown (hts _ k_332) d_Memory_store_63 ?_
    refine W.lcmp hx hb d_Memory_store_66 ?_
    refine lv_if_ne (tgt := 79) hx hb d_Memory_store_67 (by decide) (fun b_3 => ?_) (fun b_3 => ?_)
    · have c_3 : ¬ x0 = 268435456 := fun h9 => b_3 ((lg_cmp_eq _ _).mpr h9)
      refine lv_aload_n hx hb d_Memory_store_79 rfl (lv_at hl 0 rfl) ?_
      refine va_get (D := D) (ci := 1) (v := .ref (a 1)) (C := R_Memory) (T := F_Memory) (N := 5) hx hb hts i_Memory hown hK hP 0 rfl rfl 1 (by decide) (hts _ k_53) (fun _ h9 => h9) rfl d_Memory_store_80 ?_
      refine lv_lload_n hx hb d_Memory_store_83 rfl (lv_at hl 1 rfl) ?_
      refine lv_iload hx hb d_Memory_store_84 (lv_at hl 3 rfl) ?_
      refine xv (wr := [((a 0), .inr (1, [.ref (a 3), .ref (a 1), .ref (a 4), .int M.2.2.2.1, .ref (a 5)])), ((a 3), .inl ((k 1), n, .inl M.2.1)), ((a 4), .inl ((k 2), 256, .inl M.2.2.1)), ((a 5), .inl ((k 3), 2, .inr (.inl M.2.2.2.2)))]) (W2 := fun u9 => wM a k n (u9, M.2.1, M.2.2.1, M.2.2.2.1, M.2.2.2.2)) (xV (rest := []) ⟨hx, hb, hml, hown, hts⟩ (c_Clint_store a k x0 x2 M.1) mw_Clint_store mv_Clint_store k_429 ⟨rfl, rfl, Nat.le_of_ble_eq_true rfl, Nat.le_of_ble_eq_true rfl⟩ hK hP hD hS hA hF [1, 2] [0] rfl rfl rfl 1 2 rfl rfl rfl rfl hl.1 rfl (Nat.le_of_ble_eq_true rfl) d_Memory_store_86 ⟨Nat.zero_le _, Nat.zero_le _⟩) hP hD hS hA [1, 2] [0, 3, 4, 5] [0, 4, 5, 1, 2, 3] rfl rfl rfl (by decide) (fun _ => rfl) rfl (fun u_4 H locs h_4 hP hD hS => ?_)
      exact rv (u_4, M.2.1, M.2.2.1, M.2.2.2.1, M.2.2.2.2) hx hb hr hlocks hP hD hS d_Memory_store_89 (by simp only [sp_Memory_store, h_4, if_pos c_2, if_neg c_3])
    · have c_3 : x0 = 268435456 := (lg_cmp_eq _ _).mp b_3
      refine lv_aload_n hx hb d_Memory_store_70 rfl (lv_at hl 0 rfl) ?_
      refine lv_iload hx hb d_Memory_store_71 (lv_at hl 3 rfl) ?_
      refine xv (wr := []) (W2 := fun u9 => wM a k n u9) (xV (rest := []) ⟨hx, hb, hml, hown, hts⟩ (c_Memory_print a k n x2 M hn hp) mw_Memory_print mv_Memory_print k_425 ⟨rfl, rfl, Nat.le_of_ble_eq_true rfl, Nat.le_of_ble_eq_true rfl⟩ hK hP hD hS hA hF [0, 1, 2, 3, 4, 5] [0, 1, 2, 3] rfl rfl rfl 0 1 rfl rfl rfl rfl hl.1 rfl (Nat.le_of_ble_eq_true rfl) d_Memory_store_73 ⟨Nat.zero_le _, Nat.zero_le _⟩) hP hD hS hA [0, 1, 2, 3, 4, 5] [] [0, 1, 2, 3, 4, 5] rfl rfl rfl (by decide) (fun _ => rfl) rfl (fun u_5 H locs h_5 hP hD hS => ?_)
      refine lv_goto (tgt := 89) hx hb d_Memory_store_76 (by decide) ?_
      exact rv u_5 hx hb hr hlocks hP hD hS d_Memory_store_89 (by simp only [sp_Memory_store, h_5, if_pos c_2, if_pos c_3])
  · refine lv_iload_n hx hb d_Memory_store_8 rfl (lv_at hl 2 rfl) ?_
    refine xi (wr := [((a 0), .inr (1, [.ref (a 3), .ref (a 1), .ref (a 4), .int M.2.2.2.1, .ref (a 5)])), ((a 1), .inr (2, [.ref (a 2)])), ((a 2), .inl ((k 0), 8, .inl M.1)), ((a 3), .inl ((k 1), n, .inl M.2.1)), ((a 4), .inl ((k 2), 256, .inl M.2.2.1)), ((a 5), .inl ((k 3), 2, .inr (.inl M.2.2.2.2)))]) (W2 := fun _ => wM a k n M) (xS (rest := []) ⟨hx, hb, hml, hown, hts⟩ (c_Memory_maskOf x1) mw_Memory_maskOf ms_Memory_maskOf k_376 ⟨rfl, rfl, Nat.le_of_ble_eq_true rfl, Nat.le_of_ble_eq_true rfl⟩ hK hP hD hS hA hF [] [] rfl rfl rfl rfl hl.1 rfl (Nat.le_of_ble_eq_true rfl) d_Memory_store_9 ⟨Nat.zero_le _, Nat.zero_le _⟩) hP hD hS hA [] [0, 1, 2, 3, 4, 5] [0, 1, 2, 3, 4, 5] rfl rfl rfl (by decide) (fun _ => rfl) rfl (fun r_6 _ H locs h_6 hP hD hS => ?_)
    subst h_6
    refine lv_lload_n hx hb d_Memory_store_12 rfl (lv_at hl 1 rfl) ?_
    refine xi (wr := [((a 0), .inr (1, [.ref (a 3), .ref (a 1), .ref (a 4), .int M.2.2.2.1, .ref (a 5)])), ((a 1), .inr (2, [.ref (a 2)])), ((a 2), .inl ((k 0), 8, .inl M.1)), ((a 3), .inl ((k 1), n, .inl M.2.1)), ((a 4), .inl ((k 2), 256, .inl M.2.2.1)), ((a 5), .inl ((k 3), 2, .inr (.inl M.2.2.2.2)))]) (W2 := fun _ => wM a k n M) (xS (rest := [.int (sp_Memory_maskOf x1)]) ⟨hx, hb, hml, hown, hts⟩ (c_Memory_shiftOf x0) mw_Memory_shiftOf ms_Memory_shiftOf k_372 ⟨rfl, rfl, Nat.le_of_ble_eq_true rfl, Nat.le_of_ble_eq_true rfl⟩ hK hP hD hS hA hF [] [] rfl rfl rfl rfl hl.1 rfl (Nat.le_of_ble_eq_true rfl) d_Memory_store_13 ⟨Nat.zero_le _, Nat.zero_le _⟩) hP hD hS hA [] [0, 1, 2, 3, 4, 5] [0, 1, 2, 3, 4, 5] rfl rfl rfl (by decide) (fun _ => rfl) rfl (fun r_7 _ H locs h_7 hP hD hS => ?_)
    subst h_7
    refine y_ishl hx hb d_Memory_store_16 ?_
    refine lv_istore (lv' := [(5, .int (shl (sp_Memory_maskOf x1) (sp_Memory_shiftOf x0))), (0, .ref (a 0)), (1, .long x0), (3, .int x1), (4, .int x2)]) hx hb d_Memory_store_17 hl (by decide) rfl (fun ls hl => ?_)
    refine lv_lload_n hx hb d_Memory_store_19 rfl (lv_at hl 2 rfl) ?_
    refine xi (wr := [((a 0), .inr (1, [.ref (a 3), .ref (a 1), .ref (a 4), .int M.2.2.2.1, .ref (a 5)])), ((a 1), .inr (2, [.ref (a 2)])), ((a 2), .inl ((k 0), 8, .inl M.1)), ((a 3), .inl ((k 1), n, .inl M.2.1)), ((a 4), .inl ((k 2), 256, .inl M.2.2.1)), ((a 5), .inl ((k 3), 2, .inr (.inl M.2.2.2.2)))]) (W2 := fun _ => wM a k n M) (xS (rest := []) ⟨hx, hb, hml, hown, hts⟩ (c_Memory_indexOf x0) mw_Memory_indexOf ms_Memory_indexOf k_305 ⟨rfl, rfl, Nat.le_of_ble_eq_true rfl, Nat.le_of_ble_eq_true rfl⟩ hK hP hD hS hA hF [] [] rfl rfl rfl rfl hl.1 rfl (Nat.le_of_ble_eq_true rfl) d_Memory_store_20 ⟨Nat.zero_le _, Nat.zero_le _⟩) hP hD hS hA [] [0, 1, 2, 3, 4, 5] [0, 1, 2, 3, 4, 5] rfl rfl rfl (by decide) (fun _ => rfl) rfl (fun r_8 _ H locs h_8 hP hD hS => ?_)
    subst h_8
    refine lv_istore (lv' := [(6, .int (sp_Memory_indexOf x0)), (5, .int (shl (sp_Memory_maskOf x1) (sp_Memory_shiftOf x0))), (0, .ref (a 0)), (1, .long x0), (3, .int x1), (4, .int x2)]) hx hb d_Memory_store_23 hl (by decide) rfl (fun ls hl => ?_)
    refine lv_aload_n hx hb d_Memory_store_25 rfl (lv_at hl 2 rfl) ?_
    refine va_get (D := D) (ci := 1) (v := .ref (a 3)) (C := R_Memory) (T := F_Memory) (N := 5) hx hb hts i_Memory hown hK hP 0 rfl rfl 0 (by decide) (hts _ k_51) (fun _ h9 => h9) rfl d_Memory_store_26 ?_
    refine lv_iload hx hb d_Memory_store_29 (lv_at hl 0 rfl) ?_
    refine lv_aload_n hx hb d_Memory_store_31 rfl (lv_at hl 2 rfl) ?_
    refine va_get (D := D) (ci := 1) (v := .ref (a 3)) (C := R_Memory) (T := F_Memory) (N := 5) hx hb hts i_Memory hown hK hP 0 rfl rfl 0 (by decide) (hts _ k_51) (fun _ h9 => h9) rfl d_Memory_store_32 ?_
    refine lv_iload hx hb d_Memory_store_35 (lv_at hl 0 rfl) ?_
    refine y_iald (v := M.2.1 ((sp_Memory_indexOf x0).toNatClampNeg)) hx hb hK hP 3 1 rfl rfl (vp_ram hn c_2) rfl d_Memory_store_37 ?_
    refine lv_iload hx hb d_Memory_store_38 (lv_at hl 1 rfl) ?_
    refine lv_iconst (v := (-1)) hx hb d_Memory_store_40 rfl ?_
    refine lv_ixor hx hb d_Memory_store_41 ?_
    refine lv_iand hx hb d_Memory_store_42 ?_
    refine lv_iload hx hb d_Memory_store_43 (lv_at hl 5 rfl) ?_
    refine lv_lload_n hx hb d_Memory_store_45 rfl (lv_at hl 3 rfl) ?_
    refine xi (wr := [((a 0), .inr (1, [.ref (a 3), .ref (a 1), .ref (a 4), .int M.2.2.2.1, .ref (a 5)])), ((a 1), .inr (2, [.ref (a 2)])), ((a 2), .inl ((k 0), 8, .inl M.1)), ((a 3), .inl ((k 1), n, .inl M.2.1)), ((a 4), .inl ((k 2), 256, .inl M.2.2.1)), ((a 5), .inl ((k 3), 2, .inr (.inl M.2.2.2.2)))]) (W2 := fun _ => wM a k n M) (xS (rest := [.int x2, .int ((M.2.1 ((sp_Memory_indexOf x0).toNatClampNeg)) &&& ((shl (sp_Memory_maskOf x1) (sp_Memory_shiftOf x0)) ^^^ (-1))), .int (sp_Memory_indexOf x0), .ref (a 3)]) ⟨hx, hb, hml, hown, hts⟩ (c_Memory_shiftOf x0) mw_Memory_shiftOf ms_Memory_shiftOf k_372 ⟨rfl, rfl, Nat.le_of_ble_eq_true rfl, Nat.le_of_ble_eq_true rfl⟩ hK hP hD hS hA hF [] [] rfl rfl rfl rfl hl.1 rfl (Nat.le_of_ble_eq_true rfl) d_Memory_store_46 ⟨Nat.zero_le _, Nat.zero_le _⟩) hP hD hS hA [] [0, 1, 2, 3, 4, 5] [0, 1, 2, 3, 4, 5] rfl rfl rfl (by decide) (fun _ => rfl) rfl (fun r_9 _ H locs h_9 hP hD hS => ?_)
    subst h_9
    refine y_ishl hx hb d_Memory_store_49 ?_
    refine lv_iload hx hb d_Memory_store_50 (lv_at hl 1 rfl) ?_
    refine lv_iand hx hb d_Memory_store_52 ?_
    refine lv_ior hx hb d_Memory_store_53 ?_
    refine y_iast (ws' := wM a k n (M.1, (upd M.2.1 ((sp_Memory_indexOf x0).toNatClampNeg) (((M.2.1 ((sp_Memory_indexOf x0).toNatClampNeg)) &&& ((shl (sp_Memory_maskOf x1) (sp_Memory_shiftOf x0)) ^^^ (-1))) ||| ((shl x2 (sp_Memory_shiftOf x0)) &&& (shl (sp_Memory_maskOf x1) (sp_Memory_shiftOf x0))))), M.2.2.1, M.2.2.2.1, M.2.2.2.2)) hx hb hK hP hD hS 3 1 rfl rfl (vp_ram hn c_2) d_Memory_store_54 rfl (fun H locs hP hD hS => ?_)
    refine lv_aload_n hx hb d_Memory_store_55 rfl (lv_at hl 2 rfl) ?_
    refine xv (wr := []) (W2 := fun u9 => wM a k n u9) (xV (rest := []) ⟨hx, hb, hml, hown, hts⟩ (c_Memory_dropClaims a k n (M.1, (upd M.2.1 ((sp_Memory_indexOf x0).toNatClampNeg) (((M.2.1 ((sp_Memory_indexOf x0).toNatClampNeg)) &&& ((shl (sp_Memory_maskOf x1) (sp_Memory_shiftOf x0)) ^^^ (-1))) ||| ((shl x2 (sp_Memory_shiftOf x0)) &&& (shl (sp_Memory_maskOf x1) (sp_Memory_shiftOf x0))))), M.2.2.1, M.2.2.2.1, M.2.2.2.2) hn) mw_Memory_dropClaims mv_Memory_dropClaims k_182 ⟨rfl, rfl, Nat.le_of_ble_eq_true rfl, Nat.le_of_ble_eq_true rfl⟩ hK hP hD hS hA hF [0, 1, 2, 3, 4, 5] [0, 1, 2, 3] rfl rfl rfl 0 1 rfl rfl rfl rfl hl.1 rfl (Nat.le_of_ble_eq_true rfl) d_Memory_store_56 ⟨Nat.zero_le _, Nat.zero_le _⟩) hP hD hS hA [0, 1, 2, 3, 4, 5] [] [0, 1, 2, 3, 4, 5] rfl rfl rfl (by decide) (fun _ => rfl) rfl (fun u_10 H locs h_10 hP hD hS => ?_)
    refine lv_goto (tgt := 89) hx hb d_Memory_store_59 (by decide) ?_
    exact rv u_10 hx hb hr hlocks hP hD hS d_Memory_store_89 (by simp only [sp_Memory_store, h_10, if_neg c_2])
def sp_Memory_storeIfClaimed (n : Nat) (x0 : Int32) (x1 : Int64) (x2 : Int32) (M : TM) : Int32 × TM :=
  if (M.2.2.2.2 x0.toNatClampNeg) = x1 then
    let u_4 := sp_Memory_store n x1 4 x2 (M.1, M.2.1, M.2.2.1, M.2.2.2.1, (vp_updL M.2.2.2.2 x0.toNatClampNeg (-1)))
    (1, u_4)
  else
    (0, (M.1, M.2.1, M.2.2.1, M.2.2.2.1, (vp_updL M.2.2.2.2 x0.toNatClampNeg (-1))))
set_option maxHeartbeats 4000000 in
set_option maxRecDepth 100000 in
theorem c_Memory_storeIfClaimed {l : Launch} {D : va_G} {g : Nat → Nat} (a : Nat → Nat) (k : Nat → ClassId) (n : Nat) (x0 : Int32) (x1 : Int64) (x2 : Int32) (M : TM) (hn : n ≤ 4096) (hid : x0 = 0 ∨ x0 = 1) (hp : 0 ≤ M.2.2.2.1) : CT l D g y_Memory_storeIfClaimed b_Memory_storeIfClaimed 6 (some .boolean) (rD 3) [.ref (a 0), .int x0, .long x1, .int x2] (wM a k n M) (tyM k) (Qi D (fun (r : Int32) (u : TM) => sp_Memory_storeIfClaimed n x0 x1 x2 M = (r, u) ∧ (r = 0 ∨ r = 1)) (fun u => wM a k n u)) := by
  refine CT.of rfl (Nat.le_of_ble_eq_true rfl) (fun p e s m below meth c A ls hx hb hr hml hts hown hlocks hA hP hK hD hF hS hl => ?_)
  have hl : lv_has ls 6 [(0, .ref (a 0)), (1, .int x0), (2, .long x1), (4, .int x2)] := hl
  refine lv_aload_n hx hb d_Memory_storeIfClaimed_0 rfl (lv_at hl 0 rfl) ?_
  refine va_get (D := D) (ci := 1) (v := .ref (a 5)) (C := R_Memory) (T := F_Memory) (N := 5) hx hb hts i_Memory hown hK hP 0 rfl rfl 4 (by decide) (hts _ k_60) (fun _ h9 => h9) rfl d_Memory_storeIfClaimed_1 ?_
  refine lv_iload_n hx hb d_Memory_storeIfClaimed_4 rfl (lv_at hl 1 rfl) ?_
  refine y_lald (v := M.2.2.2.2 x0.toNatClampNeg) hx hb hK hP 5 3 rfl rfl (vp_01 hid (by decide)) rfl d_Memory_storeIfClaimed_5 ?_
  refine lv_lload_n hx hb d_Memory_storeIfClaimed_6 rfl (lv_at hl 2 rfl) ?_
  refine W.lcmp hx hb d_Memory_storeIfClaimed_7 ?_
  refine lv_if_ne (tgt := 15) hx hb d_Memory_storeIfClaimed_8 (by decide) (fun b_1 => ?_) (fun b_1 => ?_)
  · have c_1 : ¬ (M.2.2.2.2 x0.toNatClampNeg) = x1 := fun h9 => b_1 ((lg_cmp_eq _ _).mpr h9)
    refine lv_iconst (v := 0) hx hb d_Memory_storeIfClaimed_15 rfl ?_
    refine lv_istore (lv' := [(5, .int 0), (0, .ref (a 0)), (1, .int x0), (2, .long x1), (4, .int x2)]) hx hb d_Memory_storeIfClaimed_16 hl (by decide) rfl (fun ls hl => ?_)
    refine lv_aload_n hx hb d_Memory_storeIfClaimed_18 rfl (lv_at hl 1 rfl) ?_
    refine va_get (D := D) (ci := 1) (v := .ref (a 5)) (C := R_Memory) (T := F_Memory) (N := 5) hx hb hts i_Memory hown hK hP 0 rfl rfl 4 (by decide) (hts _ k_60) (fun _ h9 => h9) rfl d_Memory_storeIfClaimed_19 ?_
    refine lv_iload_n hx hb d_Memory_storeIfClaimed_22 rfl (lv_at hl 2 rfl) ?_
    refine lv_ldc2 (v := (-1)) hx hb hown (hts _ k_50) d_Memory_storeIfClaimed_23 ?_
    refine y_last (ws' := wM a k n (M.1, M.2.1, M.2.2.1, M.2.2.2.1, (vp_updL M.2.2.2.2 x0.toNatClampNeg (-1)))) hx hb hK hP hD hS 5 3 rfl rfl (vp_01 hid (by decide)) d_Memory_storeIfClaimed_26 rfl (fun H locs hP hD hS => ?_)
    refine lv_iload hx hb d_Memory_storeIfClaimed_27 (lv_at hl 0 rfl) ?_
    refine lv_if_eq (tgt := 40) hx hb d_Memory_storeIfClaimed_29 (by decide) (fun _ => ?_) (fun h9 => absurd (by decide) h9)
    refine lv_iload hx hb d_Memory_storeIfClaimed_40 (lv_at hl 0 rfl) ?_
    exact rz (M.1, M.2.1, M.2.2.1, M.2.2.2.1, (vp_updL M.2.2.2.2 x0.toNatClampNeg (-1))) hx hb hr hlocks rfl hP hD hS d_Memory_storeIfClaimed_42 ⟨by simp only [sp_Memory_storeIfClaimed, if_neg c_1], Or.inl rfl⟩
  · have c_1 : (M.2.2.2.2 x0.toNatClampNeg) = x1 := (lg_cmp_eq _ _).mp b_1
    refine lv_iconst (v := 1) hx hb d_Memory_storeIfClaimed_11 rfl ?_
    refine lv_goto (tgt := 16) hx hb d_Memory_storeIfClaimed_12 (by decide) ?_
    refine lv_istore (lv' := [(5, .int 1), (0, .ref (a 0)), (1, .int x0), (2, .long x1), (4, .int x2)]) hx hb d_Memory_storeIfClaimed_16 hl (by decide) rfl (fun ls hl => ?_)
    refine lv_aload_n hx hb d_Memory_storeIfClaimed_18 rfl (lv_at hl 1 rfl) ?_
    refine va_get (D := D) (ci := 1) (v := .ref (a 5)) (C := R_Memory) (T := F_Memory) (N := 5) hx hb hts i_Memory hown hK hP 0 rfl rfl 4 (by decide) (hts _ k_60) (fun _ h9 => h9) rfl d_Memory_storeIfClaimed_19 ?_
    refine lv_iload_n hx hb d_Memory_storeIfClaimed_22 rfl (lv_at hl 2 rfl) ?_
    refine lv_ldc2 (v := (-1)) hx hb hown (hts _ k_50) d_Memory_storeIfClaimed_23 ?_
    refine y_last (ws' := wM a k n (M.1, M.2.1, M.2.2.1, M.2.2.2.1, (vp_updL M.2.2.2.2 x0.toNatClampNeg (-1)))) hx hb hK hP hD hS 5 3 rfl rfl (vp_01 hid (by decide)) d_Memory_storeIfClaimed_26 rfl (fun H locs hP hD hS => ?_)
    refine lv_iload hx hb d_Memory_storeIfClaimed_27 (lv_at hl 0 rfl) ?_
    refine lv_if_eq (tgt := 40) hx hb d_Memory_storeIfClaimed_29 (by decide) (fun h9 => absurd h9 (by decide)) (fun _ => ?_)
    refine lv_aload_n hx hb d_Memory_storeIfClaimed_32 rfl (lv_at hl 1 rfl) ?_
    refine lv_lload_n hx hb d_Memory_storeIfClaimed_33 rfl (lv_at hl 3 rfl) ?_
    refine lv_iconst (v := 4) hx hb d_Memory_storeIfClaimed_34 rfl ?_
    refine lv_iload hx hb d_Memory_storeIfClaimed_35 (lv_at hl 4 rfl) ?_
    refine xv (wr := []) (W2 := fun u9 => wM a k n u9) (xV (rest := []) ⟨hx, hb, hml, hown, hts⟩ (c_Memory_store a k n x1 4 x2 (M.1, M.2.1, M.2.2.1, M.2.2.2.1, (vp_updL M.2.2.2.2 x0.toNatClampNeg (-1))) hn hp) mw_Memory_store mv_Memory_store k_449 ⟨rfl, rfl, Nat.le_of_ble_eq_true rfl, Nat.le_of_ble_eq_true rfl⟩ hK hP hD hS hA hF [0, 1, 2, 3, 4, 5] [0, 1, 2, 3] rfl rfl rfl 0 1 rfl rfl rfl rfl hl.1 rfl (Nat.le_of_ble_eq_true rfl) d_Memory_storeIfClaimed_37 ⟨Nat.zero_le _, Nat.zero_le _⟩) hP hD hS hA [0, 1, 2, 3, 4, 5] [] [0, 1, 2, 3, 4, 5] rfl rfl rfl (by decide) (fun _ => rfl) rfl (fun u_4 H locs h_4 hP hD hS => ?_)
    refine lv_iload hx hb d_Memory_storeIfClaimed_40 (lv_at hl 0 rfl) ?_
    exact rz u_4 hx hb hr hlocks rfl hP hD hS d_Memory_storeIfClaimed_42 ⟨by simp only [sp_Memory_storeIfClaimed, h_4, if_pos c_1], Or.inr rfl⟩
def sp_Memory_claim (n : Nat) (x0 : Int32) (x1 : Int64) (M : TM) : TM :=
  (M.1, M.2.1, M.2.2.1, M.2.2.2.1, (vp_updL M.2.2.2.2 x0.toNatClampNeg x1))
set_option maxHeartbeats 4000000 in
set_option maxRecDepth 100000 in
theorem c_Memory_claim {l : Launch} {D : va_G} {g : Nat → Nat} (a : Nat → Nat) (k : Nat → ClassId) (n : Nat) (x0 : Int32) (x1 : Int64) (M : TM) (hn : n ≤ 4096) (hid : x0 = 0 ∨ x0 = 1) : CT l D g y_Memory_claim b_Memory_claim 4 none (rD 0) [.ref (a 0), .int x0, .long x1] (wM a k n M) (tyM k) (Qv D (fun (u : TM) => sp_Memory_claim n x0 x1 M = u) (fun u => wM a k n u)) := by
  refine CT.of rfl (Nat.le_of_ble_eq_true rfl) (fun p e s m below meth c A ls hx hb hr hml hts hown hlocks hA hP hK hD hF hS hl => ?_)
  have hl : lv_has ls 4 [(0, .ref (a 0)), (1, .int x0), (2, .long x1)] := hl
  refine lv_aload_n hx hb d_Memory_claim_0 rfl (lv_at hl 0 rfl) ?_
  refine va_get (D := D) (ci := 1) (v := .ref (a 5)) (C := R_Memory) (T := F_Memory) (N := 5) hx hb hts i_Memory hown hK hP 0 rfl rfl 4 (by decide) (hts _ k_60) (fun _ h9 => h9) rfl d_Memory_claim_1 ?_
  refine lv_iload_n hx hb d_Memory_claim_4 rfl (lv_at hl 1 rfl) ?_
  refine lv_lload_n hx hb d_Memory_claim_5 rfl (lv_at hl 2 rfl) ?_
  refine y_last (ws' := wM a k n (M.1, M.2.1, M.2.2.1, M.2.2.2.1, (vp_updL M.2.2.2.2 x0.toNatClampNeg x1))) hx hb hK hP hD hS 5 3 rfl rfl (vp_01 hid (by decide)) d_Memory_claim_6 rfl (fun H locs hP hD hS => ?_)
  exact rv (M.1, M.2.1, M.2.2.1, M.2.2.2.1, (vp_updL M.2.2.2.2 x0.toNatClampNeg x1)) hx hb hr hlocks hP hD hS d_Memory_claim_7 (by simp only [sp_Memory_claim])
