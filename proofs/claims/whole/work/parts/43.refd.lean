def sp_Model_loads (n : Nat) (x0 : Int32) (h : Int32) (ca : Int32) (tv : Int32) (lv : Nat → Int32) (cs : Nat → Int32) (x : Nat → Int32) (b : Nat → Int32) (cm : Nat → Int64) (so : Nat → Int32) (ti : Int64) : Int32 × Int32 × (Nat → Int32) :=
  if (sp_Model_field x0 12 3) = 3 then
    let ca_3 := (sp_Model_trap 2 x0 ca tv).1
    let tv_3 := (sp_Model_trap 2 x0 ca tv).2
    (ca_3, tv_3, x)
  else
    if (sp_Model_field x0 12 3) ≤ 5 then
      let r_7 := (sp_Model_load n ((sp_Model_reg (sp_Model_field x0 15 5) h x) + (shr x0 20)) (shl 1 ((sp_Model_field x0 12 3) &&& 3)) h ca tv lv cs b cm so ti).1
      let ca_7 := (sp_Model_load n ((sp_Model_reg (sp_Model_field x0 15 5) h x) + (shr x0 20)) (shl 1 ((sp_Model_field x0 12 3) &&& 3)) h ca tv lv cs b cm so ti).2.1
      let tv_7 := (sp_Model_load n ((sp_Model_reg (sp_Model_field x0 15 5) h x) + (shr x0 20)) (shl 1 ((sp_Model_field x0 12 3) &&& 3)) h ca tv lv cs b cm so ti).2.2
      if (sp_Model_field x0 12 3) = 0 then
        let x_16 := (sp_Model_setReg (sp_Model_field x0 7 5) r_7.toInt8.toInt32 h ca_7 x)
        (ca_7, tv_7, x_16)
      else
        if (sp_Model_field x0 12 3) = 1 then
          let x_13 := (sp_Model_setReg (sp_Model_field x0 7 5) r_7.toInt16.toInt32 h ca_7 x)
          (ca_7, tv_7, x_13)
        else
          let x_11 := (sp_Model_setReg (sp_Model_field x0 7 5) r_7 h ca_7 x)
          (ca_7, tv_7, x_11)
    else
      let ca_17 := (sp_Model_trap 2 x0 ca tv).1
      let tv_17 := (sp_Model_trap 2 x0 ca tv).2
      (ca_17, tv_17, x)
set_option maxHeartbeats 4000000 in
set_option maxRecDepth 100000 in
theorem c_Model_loads {l : Launch} {D : va_G} {g : Nat → Nat} (a : Nat → Nat) (k : Nat → ClassId) (n : Nat) (x0 : Int32) (h ca tv nx : Int32) (pcs lv cs x b cl : Nat → Int32) (cm : Nat → Int64) (so : Nat → Int32) (ti : Int64) (pu : Nat → Int32) (np : Int32) (hn : n ≤ 4096) (hh : h = 0 ∨ h = 1) : CT l D g y_Model_loads b_Model_loads 5 none (rD 6) [.ref (a 0), .int x0] (wR a k n h ca tv nx pcs lv cs x b cl cm so ti pu np) (tyR k) (Qv D (fun (u : Int32 × Int32 × (Nat → Int32)) => sp_Model_loads n x0 h ca tv lv cs x b cm so ti = u) (fun u => wR a k n h u.1 u.2.1 nx pcs lv cs u.2.2 b cl cm so ti pu np)) := by
  refine CT.of rfl (Nat.le_of_ble_eq_true rfl) (fun p e s m below meth c A ls hx hb hr hml hts hown hlocks hA hP hK hD hF hS hl => ?_)
  have hl : lv_has ls 5 [(0, .ref (a 0)), (1, .int x0)] := hl
  refine lv_iload_n hx hb d_Model_loads_0 rfl (lv_at hl 1 rfl) ?_
  refine lv_bipush (v := 12) hx hb d_Model_loads_1 rfl ?_
  refine lv_iconst (v := 3) hx hb d_Model_loads_3 rfl ?_
  refine xi (wr := [((a 0), .inr (5, [.int (nI n), .ref (a 1), .ref (a 2), .ref (a 3), .ref (a 4), .ref (a 5), .ref (a 6), .ref (a 7), .ref (a 8), .long ti, .ref (a 9), .int np, .int h, .int ca, .int tv, .int nx])), ((a 1), .inl ((k 0), 16384, .inl b)), ((a 2), .inl ((k 1), 64, .inl x)), ((a 3), .inl ((k 2), 2, .inl pcs)), ((a 4), .inl ((k 3), 2, .inl lv)), ((a 5), .inl ((k 4), 8192, .inl cs)), ((a 6), .inl ((k 5), 2, .inl cl)), ((a 7), .inl ((k 6), 2, .inr (.inl cm))), ((a 8), .inl ((k 7), 2, .inl so)), ((a 9), .inl ((k 8), 256, .inl pu))]) (W2 := fun _ => wR a k n h ca tv nx pcs lv cs x b cl cm so ti pu np) (xS (rest := []) ⟨hx, hb, hml, hown, hts⟩ (c_Model_field x0 12 3) mw_Model_field ms_Model_field k_787 ⟨rfl, rfl, Nat.le_of_ble_eq_true rfl, Nat.le_of_ble_eq_true rfl⟩ hK hP hD hS hA hF [] [] rfl rfl rfl rfl hl.1 rfl (Nat.le_of_ble_eq_true rfl) d_Model_loads_4 ⟨Nat.zero_le _, Nat.zero_le _⟩) hP hD hS hA [] [0, 1, 2, 3, 4, 5, 6, 7, 8, 9] [0, 1, 2, 3, 4, 5, 6, 7, 8, 9] rfl rfl rfl (by decide) (fun _ => rfl) rfl (fun r_1 _ H locs h_1 hP hD hS => ?_)
  subst h_1
  refine lv_istore_n (lv' := [(2, .int (sp_Model_field x0 12 3)), (0, .ref (a 0)), (1, .int x0)]) hx hb d_Model_loads_7 rfl hl (by decide) rfl (fun ls hl => ?_)
  refine lv_iload_n hx hb d_Model_loads_8 rfl (lv_at hl 0 rfl) ?_
  refine lv_iconst (v := 3) hx hb d_Model_loads_9 rfl ?_
  refine lv_icmp_eq (tgt := 18) hx hb d_Model_loads_10 (by decide) (fun c_2 => ?_) (fun c_2 => ?_)
  · refine lv_aload_n hx hb d_Model_loads_18 rfl (lv_at hl 1 rfl) ?_
    refine lv_iconst (v := 2) hx hb d_Model_loads_19 rfl ?_
    refine lv_iload_n hx hb d_Model_loads_20 rfl (lv_at hl 2 rfl) ?_
    refine xv (wr := []) (W2 := fun u9 => wR a k n h u9.1 u9.2 nx pcs lv cs x b cl cm so ti pu np) (xV (rest := []) ⟨hx, hb, hml, hown, hts⟩ (c_Model_trap a k n 2 x0 h ca tv nx pcs lv cs x b cl cm so ti pu np hn) mw_Model_trap mv_Model_trap k_763 ⟨rfl, rfl, Nat.le_of_ble_eq_true rfl, Nat.le_of_ble_eq_true rfl⟩ hK hP hD hS hA hF [0, 1, 2, 3, 4, 5, 6, 7, 8, 9] [0, 1, 2, 3, 4, 5, 6, 7, 8] rfl rfl rfl 0 5 rfl rfl rfl rfl hl.1 rfl (Nat.le_of_ble_eq_true rfl) d_Model_loads_21 ⟨Nat.zero_le _, Nat.zero_le _⟩) hP hD hS hA [0, 1, 2, 3, 4, 5, 6, 7, 8, 9] [] [0, 1, 2, 3, 4, 5, 6, 7, 8, 9] rfl rfl rfl (by decide) (fun _ => rfl) rfl (fun u_3 H locs h_3 hP hD hS => ?_)
    obtain ⟨ca_3, tv_3⟩ := u_3
    dsimp only at hP hD
    exact rv (ca_3, tv_3, x) hx hb hr hlocks hP hD hS d_Model_loads_24 (by simp only [sp_Model_loads, h_3, if_pos c_2])
  · refine lv_iload_n hx hb d_Model_loads_13 rfl (lv_at hl 0 rfl) ?_
    refine lv_iconst (v := 5) hx hb d_Model_loads_14 rfl ?_
    refine lv_icmp_le (tgt := 25) hx hb d_Model_loads_15 (by decide) (fun c_4 => ?_) (fun c_4 => ?_)
    · refine lv_iconst (v := 1) hx hb d_Model_loads_25 rfl ?_
      refine lv_iload_n hx hb d_Model_loads_26 rfl (lv_at hl 0 rfl) ?_
      refine lv_iconst (v := 3) hx hb d_Model_loads_27 rfl ?_
      refine lv_iand hx hb d_Model_loads_28 ?_
      refine y_ishl hx hb d_Model_loads_29 ?_
      refine lv_istore_n (lv' := [(3, .int (shl 1 ((sp_Model_field x0 12 3) &&& 3))), (2, .int (sp_Model_field x0 12 3)), (0, .ref (a 0)), (1, .int x0)]) hx hb d_Model_loads_30 rfl hl (by decide) rfl (fun ls hl => ?_)
      refine lv_aload_n hx hb d_Model_loads_31 rfl (lv_at hl 2 rfl) ?_
      refine lv_aload_n hx hb d_Model_loads_32 rfl (lv_at hl 2 rfl) ?_
      refine lv_iload_n hx hb d_Model_loads_33 rfl (lv_at hl 3 rfl) ?_
      refine lv_bipush (v := 15) hx hb d_Model_loads_34 rfl ?_
      refine lv_iconst (v := 5) hx hb d_Model_loads_36 rfl ?_
      refine xi (wr := [((a 0), .inr (5, [.int (nI n), .ref (a 1), .ref (a 2), .ref (a 3), .ref (a 4), .ref (a 5), .ref (a 6), .ref (a 7), .ref (a 8), .long ti, .ref (a 9), .int np, .int h, .int ca, .int tv, .int nx])), ((a 1), .inl ((k 0), 16384, .inl b)), ((a 2), .inl ((k 1), 64, .inl x)), ((a 3), .inl ((k 2), 2, .inl pcs)), ((a 4), .inl ((k 3), 2, .inl lv)), ((a 5), .inl ((k 4), 8192, .inl cs)), ((a 6), .inl ((k 5), 2, .inl cl)), ((a 7), .inl ((k 6), 2, .inr (.inl cm))), ((a 8), .inl ((k 7), 2, .inl so)), ((a 9), .inl ((k 8), 256, .inl pu))]) (W2 := fun _ => wR a k n h ca tv nx pcs lv cs x b cl cm so ti pu np) (xS (rest := [.ref (a 0), .ref (a 0)]) ⟨hx, hb, hml, hown, hts⟩ (c_Model_field x0 15 5) mw_Model_field ms_Model_field k_787 ⟨rfl, rfl, Nat.le_of_ble_eq_true rfl, Nat.le_of_ble_eq_true rfl⟩ hK hP hD hS hA hF [] [] rfl rfl rfl rfl hl.1 rfl (Nat.le_of_ble_eq_true rfl) d_Model_loads_37 ⟨Nat.zero_le _, Nat.zero_le _⟩) hP hD hS hA [] [0, 1, 2, 3, 4, 5, 6, 7, 8, 9] [0, 1, 2, 3, 4, 5, 6, 7, 8, 9] rfl rfl rfl (by decide) (fun _ => rfl) rfl (fun r_5 _ H locs h_5 hP hD hS => ?_)
      subst h_5
      refine xi (wr := []) (W2 := fun _ => wR a k n h ca tv nx pcs lv cs x b cl cm so ti pu np) (xV (rest := [.ref (a 0)]) ⟨hx, hb, hml, hown, hts⟩ (c_Model_reg a k n (sp_Model_field x0 15 5) h ca tv nx pcs lv cs x b cl cm so ti pu np hn hh (vp_f5 _ _)) mw_Model_reg mv_Model_reg k_802 ⟨rfl, rfl, Nat.le_of_ble_eq_true rfl, Nat.le_of_ble_eq_true rfl⟩ hK hP hD hS hA hF [0, 1, 2, 3, 4, 5, 6, 7, 8, 9] [0, 1, 2, 3, 4, 5, 6, 7, 8] rfl rfl rfl 0 5 rfl rfl rfl rfl hl.1 rfl (Nat.le_of_ble_eq_true rfl) d_Model_loads_40 ⟨Nat.zero_le _, Nat.zero_le _⟩) hP hD hS hA [0, 1, 2, 3, 4, 5, 6, 7, 8, 9] [] [0, 1, 2, 3, 4, 5, 6, 7, 8, 9] rfl rfl rfl (by decide) (fun _ => rfl) rfl (fun r_6 _ H locs h_6 hP hD hS => ?_)
      subst h_6
      refine lv_iload_n hx hb d_Model_loads_43 rfl (lv_at hl 3 rfl) ?_
      refine lv_bipush (v := 20) hx hb d_Model_loads_44 rfl ?_
      refine y_ishr hx hb d_Model_loads_46 ?_
      refine lv_iadd hx hb d_Model_loads_47 ?_
      refine lv_iload_n hx hb d_Model_loads_48 rfl (lv_at hl 0 rfl) ?_
      refine xi (wr := []) (W2 := fun u9 => wR a k n h u9.1 u9.2 nx pcs lv cs x b cl cm so ti pu np) (xV (rest := []) ⟨hx, hb, hml, hown, hts⟩ (c_Model_load a k n ((sp_Model_reg (sp_Model_field x0 15 5) h x) + (shr x0 20)) (shl 1 ((sp_Model_field x0 12 3) &&& 3)) h ca tv nx pcs lv cs x b cl cm so ti pu np hn hh (n124 c_2 c_4)) mw_Model_load mv_Model_load k_817 ⟨rfl, rfl, Nat.le_of_ble_eq_true rfl, Nat.le_of_ble_eq_true rfl⟩ hK hP hD hS hA hF [0, 1, 2, 3, 4, 5, 6, 7, 8, 9] [0, 1, 2, 3, 4, 5, 6, 7, 8] rfl rfl rfl 0 5 rfl rfl rfl rfl hl.1 rfl (Nat.le_of_ble_eq_true rfl) d_Model_loads_49 ⟨Nat.zero_le _, Nat.zero_le _⟩) hP hD hS hA [0, 1, 2, 3, 4, 5, 6, 7, 8, 9] [] [0, 1, 2, 3, 4, 5, 6, 7, 8, 9] rfl rfl rfl (by decide) (fun _ => rfl) rfl (fun r_7 u_7 H locs h_7 hP hD hS => ?_)
      obtain ⟨ca_7, tv_7⟩ := u_7
      dsimp only at hP hD
      refine lv_istore (lv' := [(4, .int r_7), (3, .int (shl 1 ((sp_Model_field x0 12 3) &&& 3))), (2, .int (sp_Model_field x0 12 3)), (0, .ref (a 0)), (1, .int x0)]) hx hb d_Model_loads_52 hl (by decide) rfl (fun ls hl => ?_)
      refine lv_iload_n hx hb d_Model_loads_54 rfl (lv_at hl 2 rfl) ?_
      refine lv_if_ne (tgt := 63) hx hb d_Model_loads_55 (by decide) (fun c_8 => ?_) (fun c_8 => ?_)
      · refine lv_iload_n hx hb d_Model_loads_63 rfl (lv_at hl 2 rfl) ?_
        refine lv_iconst (v := 1) hx hb d_Model_loads_64 rfl ?_
        refine lv_icmp_ne (tgt := 73) hx hb d_Model_loads_65 (by decide) (fun c_9 => ?_) (fun c_9 => ?_)
        · refine lv_aload_n hx hb d_Model_loads_73 rfl (lv_at hl 3 rfl) ?_
          refine lv_iload_n hx hb d_Model_loads_74 rfl (lv_at hl 4 rfl) ?_
          refine lv_bipush (v := 7) hx hb d_Model_loads_75 rfl ?_
          refine lv_iconst (v := 5) hx hb d_Model_loads_77 rfl ?_
          refine xi (wr := [((a 0), .inr (5, [.int (nI n), .ref (a 1), .ref (a 2), .ref (a 3), .ref (a 4), .ref (a 5), .ref (a 6), .ref (a 7), .ref (a 8), .long ti, .ref (a 9), .int np, .int h, .int ca_7, .int tv_7, .int nx])), ((a 1), .inl ((k 0), 16384, .inl b)), ((a 2), .inl ((k 1), 64, .inl x)), ((a 3), .inl ((k 2), 2, .inl pcs)), ((a 4), .inl ((k 3), 2, .inl lv)), ((a 5), .inl ((k 4), 8192, .inl cs)), ((a 6), .inl ((k 5), 2, .inl cl)), ((a 7), .inl ((k 6), 2, .inr (.inl cm))), ((a 8), .inl ((k 7), 2, .inl so)), ((a 9), .inl ((k 8), 256, .inl pu))]) (W2 := fun _ => wR a k n h ca_7 tv_7 nx pcs lv cs x b cl cm so ti pu np) (xS (rest := [.ref (a 0)]) ⟨hx, hb, hml, hown, hts⟩ (c_Model_field x0 7 5) mw_Model_field ms_Model_field k_787 ⟨rfl, rfl, Nat.le_of_ble_eq_true rfl, Nat.le_of_ble_eq_true rfl⟩ hK hP hD hS hA hF [] [] rfl rfl rfl rfl hl.1 rfl (Nat.le_of_ble_eq_true rfl) d_Model_loads_78 ⟨Nat.zero_le _, Nat.zero_le _⟩) hP hD hS hA [] [0, 1, 2, 3, 4, 5, 6, 7, 8, 9] [0, 1, 2, 3, 4, 5, 6, 7, 8, 9] rfl rfl rfl (by decide) (fun _ => rfl) rfl (fun r_10 _ H locs h_10 hP hD hS => ?_)
          subst h_10
          refine lv_iload hx hb d_Model_loads_81 (lv_at hl 0 rfl) ?_
          refine xv (wr := []) (W2 := fun u9 => wR a k n h ca_7 tv_7 nx pcs lv cs u9 b cl cm so ti pu np) (xV (rest := []) ⟨hx, hb, hml, hown, hts⟩ (c_Model_setReg a k n (sp_Model_field x0 7 5) r_7 h ca_7 tv_7 nx pcs lv cs x b cl cm so ti pu np hn hh (vp_f5 _ _)) mw_Model_setReg mv_Model_setReg k_790 ⟨rfl, rfl, Nat.le_of_ble_eq_true rfl, Nat.le_of_ble_eq_true rfl⟩ hK hP hD hS hA hF [0, 1, 2, 3, 4, 5, 6, 7, 8, 9] [0, 1, 2, 3, 4, 5, 6, 7, 8] rfl rfl rfl 0 5 rfl rfl rfl rfl hl.1 rfl (Nat.le_of_ble_eq_true rfl) d_Model_loads_83 ⟨Nat.zero_le _, Nat.zero_le _⟩) hP hD hS hA [0, 1, 2, 3, 4, 5, 6, 7, 8, 9] [] [0, 1, 2, 3, 4, 5, 6, 7, 8, 9] rfl rfl rfl (by decide) (fun _ => rfl) rfl (fun u_11 H locs h_11 hP hD hS => ?_)
          obtain ⟨x_11, e_11⟩ : ∃ z, z = u_11 := ⟨_, rfl⟩
          subst e_11
          exact rv (ca_7, tv_7, x_11) hx hb hr hlocks hP hD hS d_Model_loads_86 (by simp only [sp_Model_loads, h_7, h_11, if_neg c_2, if_pos c_4, if_neg c_8, if_neg c_9])
        · refine lv_iload hx hb d_Model_loads_68 (lv_at hl 0 rfl) ?_
          refine lv_i2s hx hb d_Model_loads_70 rfl ?_
          refine lv_istore (lv' := [(4, .int r_7.toInt16.toInt32), (3, .int (shl 1 ((sp_Model_field x0 12 3) &&& 3))), (2, .int (sp_Model_field x0 12 3)), (0, .ref (a 0)), (1, .int x0)]) hx hb d_Model_loads_71 hl (by decide) rfl (fun ls hl => ?_)
          refine lv_aload_n hx hb d_Model_loads_73 rfl (lv_at hl 3 rfl) ?_
          refine lv_iload_n hx hb d_Model_loads_74 rfl (lv_at hl 4 rfl) ?_
          refine lv_bipush (v := 7) hx hb d_Model_loads_75 rfl ?_
          refine lv_iconst (v := 5) hx hb d_Model_loads_77 rfl ?_
          refine xi (wr := [((a 0), .inr (5, [.int (nI n), .ref (a 1), .ref (a 2), .ref (a 3), .ref (a 4), .ref (a 5), .ref (a 6), .ref (a 7), .ref (a 8), .long ti, .ref (a 9), .int np, .int h, .int ca_7, .int tv_7, .int nx])), ((a 1), .inl ((k 0), 16384, .inl b)), ((a 2), .inl ((k 1), 64, .inl x)), ((a 3), .inl ((k 2), 2, .inl pcs)), ((a 4), .inl ((k 3), 2, .inl lv)), ((a 5), .inl ((k 4), 8192, .inl cs)), ((a 6), .inl ((k 5), 2, .inl cl)), ((a 7), .inl ((k 6), 2, .inr (.inl cm))), ((a 8), .inl ((k 7), 2, .inl so)), ((a 9), .inl ((k 8), 256, .inl pu))]) (W2 := fun _ => wR a k n h ca_7 tv_7 nx pcs lv cs x b cl cm so ti pu np) (xS (rest := [.ref (a 0)]) ⟨hx, hb, hml, hown, hts⟩ (c_Model_field x0 7 5) mw_Model_field ms_Model_field k_787 ⟨rfl, rfl, Nat.le_of_ble_eq_true rfl, Nat.le_of_ble_eq_true rfl⟩ hK hP hD hS hA hF [] [] rfl rfl rfl rfl hl.1 rfl (Nat.le_of_ble_eq_true rfl) d_Model_loads_78 ⟨Nat.zero_le _, Nat.zero_le _⟩) hP hD hS hA [] [0, 1, 2, 3, 4, 5, 6, 7, 8, 9] [0, 1, 2, 3, 4, 5, 6, 7, 8, 9] rfl rfl rfl (by decide) (fun _ => rfl) rfl (fun r_12 _ H locs h_12 hP hD hS => ?_)
          subst h_12
          refine lv_iload hx hb d_Model_loads_81 (lv_at hl 0 rfl) ?_
          refine xv (wr := []) (W2 := fun u9 => wR a k n h ca_7 tv_7 nx pcs lv cs u9 b cl cm so ti pu np) (xV (rest := []) ⟨hx, hb, hml, hown, hts⟩ (c_Model_setReg a k n (sp_Model_field x0 7 5) r_7.toInt16.toInt32 h ca_7 tv_7 nx pcs lv cs x b cl cm so ti pu np hn hh (vp_f5 _ _)) mw_Model_setReg mv_Model_setReg k_790 ⟨rfl, rfl, Nat.le_of_ble_eq_true rfl, Nat.le_of_ble_eq_true rfl⟩ hK hP hD hS hA hF [0, 1, 2, 3, 4, 5, 6, 7, 8, 9] [0, 1, 2, 3, 4, 5, 6, 7, 8] rfl rfl rfl 0 5 rfl rfl rfl rfl hl.1 rfl (Nat.le_of_ble_eq_true rfl) d_Model_loads_83 ⟨Nat.zero_le _, Nat.zero_le _⟩) hP hD hS hA [0, 1, 2, 3, 4, 5, 6, 7, 8, 9] [] [0, 1, 2, 3, 4, 5, 6, 7, 8, 9] rfl rfl rfl (by decide) (fun _ => rfl) rfl (fun u_13 H locs h_13 hP hD hS => ?_)
          obtain ⟨x_13, e_13⟩ : ∃ z, z = u_13 := ⟨_, rfl⟩
          subst e_13
          exact rv (ca_7, tv_7, x_13) hx hb hr hlocks hP hD hS d_Model_loads_86 (by simp only [sp_Model_loads, h_7, h_13, if_neg c_2, if_pos c_4, if_neg c_8, if_pos c_9])
      · refine lv_iload hx hb d_Model_loads_58 (lv_at hl 0 rfl) ?_
        refine lv_i2b hx hb d_Model_loads_60 rfl ?_
        refine lv_istore (lv' := [(4, .int r_7.toInt8.toInt32), (3, .int (shl 1 ((sp_Model_field x0 12 3) &&& 3))), (2, .int (sp_Model_field x0 12 3)), (0, .ref (a 0)), (1, .int x0)]) hx hb d_Model_loads_61 hl (by decide) rfl (fun ls hl => ?_)
        refine lv_iload_n hx hb d_Model_loads_63 rfl (lv_at hl 2 rfl) ?_
        refine lv_iconst (v := 1) hx hb d_Model_loads_64 rfl ?_
        refine lv_icmp_ne (tgt := 73) hx hb d_Model_loads_65 (by decide) (fun _ => ?_) (fun h9 => absurd h9 (by rw [c_8]; decide))
        refine lv_aload_n hx hb d_Model_loads_73 rfl (lv_at hl 3 rfl) ?_
        refine lv_iload_n hx hb d_Model_loads_74 rfl (lv_at hl 4 rfl) ?_
        refine lv_bipush (v := 7) hx hb d_Model_loads_75 rfl ?_
        refine lv_iconst (v := 5) hx hb d_Model_loads_77 rfl ?_
        refine xi (wr := [((a 0), .inr (5, [.int (nI n), .ref (a 1), .ref (a 2), .ref (a 3), .ref (a 4), .ref (a 5), .ref (a 6), .ref (a 7), .ref (a 8), .long ti, .ref (a 9), .int np, .int h, .int ca_7, .int tv_7, .int nx])), ((a 1), .inl ((k 0), 16384, .inl b)), ((a 2), .inl ((k 1), 64, .inl x)), ((a 3), .inl ((k 2), 2, .inl pcs)), ((a 4), .inl ((k 3), 2, .inl lv)), ((a 5), .inl ((k 4), 8192, .inl cs)), ((a 6), .inl ((k 5), 2, .inl cl)), ((a 7), .inl ((k 6), 2, .inr (.inl cm))), ((a 8), .inl ((k 7), 2, .inl so)), ((a 9), .inl ((k 8), 256, .inl pu))]) (W2 := fun _ => wR a k n h ca_7 tv_7 nx pcs lv cs x b cl cm so ti pu np) (xS (rest := [.ref (a 0)]) ⟨hx, hb, hml, hown, hts⟩ (c_Model_field x0 7 5) mw_Model_field ms_Model_field k_787 ⟨rfl, rfl, Nat.le_of_ble_eq_true rfl, Nat.le_of_ble_eq_true rfl⟩ hK hP hD hS hA hF [] [] rfl rfl rfl rfl hl.1 rfl (Nat.le_of_ble_eq_true rfl) d_Model_loads_78 ⟨Nat.zero_le _, Nat.zero_le _⟩) hP hD hS hA [] [0, 1, 2, 3, 4, 5, 6, 7, 8, 9] [0, 1, 2, 3, 4, 5, 6, 7, 8, 9] rfl rfl rfl (by decide) (fun _ => rfl) rfl (fun r_15 _ H locs h_15 hP hD hS => ?_)
        subst h_15
        refine lv_iload hx hb d_Model_loads_81 (lv_at hl 0 rfl) ?_
        refine xv (wr := []) (W2 := fun u9 => wR a k n h ca_7 tv_7 nx pcs lv cs u9 b cl cm so ti pu np) (xV (rest := []) ⟨hx, hb, hml, hown, hts⟩ (c_Model_setReg a k n (sp_Model_field x0 7 5) r_7.toInt8.toInt32 h ca_7 tv_7 nx pcs lv cs x b cl cm so ti pu np hn hh (vp_f5 _ _)) mw_Model_setReg mv_Model_setReg k_790 ⟨rfl, rfl, Nat.le_of_ble_eq_true rfl, Nat.le_of_ble_eq_true rfl⟩ hK hP hD hS hA hF [0, 1, 2, 3, 4, 5, 6, 7, 8, 9] [0, 1, 2, 3, 4, 5, 6, 7, 8] rfl rfl rfl 0 5 rfl rfl rfl rfl hl.1 rfl (Nat.le_of_ble_eq_true rfl) d_Model_loads_83 ⟨Nat.zero_le _, Nat.zero_le _⟩) hP hD hS hA [0, 1, 2, 3, 4, 5, 6, 7, 8, 9] [] [0, 1, 2, 3, 4, 5, 6, 7, 8, 9] rfl rfl rfl (by decide) (fun _ => rfl) rfl (fun u_16 H locs h_16 hP hD hS => ?_)
        obtain ⟨x_16, e_16⟩ : ∃ z, z = u_16 := ⟨_, rfl⟩
        subst e_16
        exact rv (ca_7, tv_7, x_16) hx hb hr hlocks hP hD hS d_Model_loads_86 (by simp only [sp_Model_loads, h_7, h_16, if_neg c_2, if_pos c_4, if_pos c_8])
    · refine lv_aload_n hx hb d_Model_loads_18 rfl (lv_at hl 1 rfl) ?_
      refine lv_iconst (v := 2) hx hb d_Model_loads_19 rfl ?_
      refine lv_iload_n hx hb d_Model_loads_20 rfl (lv_at hl 2 rfl) ?_
      refine xv (wr := []) (W2 := fun u9 => wR a k n h u9.1 u9.2 nx pcs lv cs x b cl cm so ti pu np) (xV (rest := []) ⟨hx, hb, hml, hown, hts⟩ (c_Model_trap a k n 2 x0 h ca tv nx pcs lv cs x b cl cm so ti pu np hn) mw_Model_trap mv_Model_trap k_763 ⟨rfl, rfl, Nat.le_of_ble_eq_true rfl, Nat.le_of_ble_eq_true rfl⟩ hK hP hD hS hA hF [0, 1, 2, 3, 4, 5, 6, 7, 8, 9] [0, 1, 2, 3, 4, 5, 6, 7, 8] rfl rfl rfl 0 5 rfl rfl rfl rfl hl.1 rfl (Nat.le_of_ble_eq_true rfl) d_Model_loads_21 ⟨Nat.zero_le _, Nat.zero_le _⟩) hP hD hS hA [0, 1, 2, 3, 4, 5, 6, 7, 8, 9] [] [0, 1, 2, 3, 4, 5, 6, 7, 8, 9] rfl rfl rfl (by decide) (fun _ => rfl) rfl (fun u_17 H locs h_17 hP hD hS => ?_)
      obtain ⟨ca_17, tv_17⟩ := u_17
      dsimp only at hP hD
      exact rv (ca_17, tv_17, x) hx hb hr hlocks hP hD hS d_Model_loads_24 (by simp only [sp_Model_loads, h_17, if_neg c_2, if_neg c_4])
def sp_Model_stores (n : Nat) (x0 : Int32) (h : Int32) (ca : Int32) (tv : Int32) (lv : Nat → Int32) (cs : Nat → Int32) (x : Nat → Int32) (b : Nat → Int32) (cl : Nat → Int32) (cm : Nat → Int64) (so : Nat → Int32) (ti : Int64) (pu : Nat → Int32) (np : Int32) : Int32 × Int32 × (Nat → Int32) × (Nat → Int32) × (Nat → Int64) × (Nat → Int32) × Int64 × (Nat → Int32) × Int32 :=
  if (sp_Model_field x0 12 3) ≤ 2 then
    let ca_8 := (sp_Model_store n ((sp_Model_reg (sp_Model_field x0 15 5) h x) + ((shl (shr x0 25) 5) ||| (sp_Model_field x0 7 5))) (shl 1 (sp_Model_field x0 12 3)) (sp_Model_reg (sp_Model_field x0 20 5) h x) h ca tv lv cs b cl cm so ti pu np).1
    let tv_8 := (sp_Model_store n ((sp_Model_reg (sp_Model_field x0 15 5) h x) + ((shl (shr x0 25) 5) ||| (sp_Model_field x0 7 5))) (shl 1 (sp_Model_field x0 12 3)) (sp_Model_reg (sp_Model_field x0 20 5) h x) h ca tv lv cs b cl cm so ti pu np).2.1
    let b_8 := (sp_Model_store n ((sp_Model_reg (sp_Model_field x0 15 5) h x) + ((shl (shr x0 25) 5) ||| (sp_Model_field x0 7 5))) (shl 1 (sp_Model_field x0 12 3)) (sp_Model_reg (sp_Model_field x0 20 5) h x) h ca tv lv cs b cl cm so ti pu np).2.2.1
    let cl_8 := (sp_Model_store n ((sp_Model_reg (sp_Model_field x0 15 5) h x) + ((shl (shr x0 25) 5) ||| (sp_Model_field x0 7 5))) (shl 1 (sp_Model_field x0 12 3)) (sp_Model_reg (sp_Model_field x0 20 5) h x) h ca tv lv cs b cl cm so ti pu np).2.2.2.1
    let cm_8 := (sp_Model_store n ((sp_Model_reg (sp_Model_field x0 15 5) h x) + ((shl (shr x0 25) 5) ||| (sp_Model_field x0 7 5))) (shl 1 (sp_Model_field x0 12 3)) (sp_Model_reg (sp_Model_field x0 20 5) h x) h ca tv lv cs b cl cm so ti pu np).2.2.2.2.1
    let so_8 := (sp_Model_store n ((sp_Model_reg (sp_Model_field x0 15 5) h x) + ((shl (shr x0 25) 5) ||| (sp_Model_field x0 7 5))) (shl 1 (sp_Model_field x0 12 3)) (sp_Model_reg (sp_Model_field x0 20 5) h x) h ca tv lv cs b cl cm so ti pu np).2.2.2.2.2.1
    let ti_8 := (sp_Model_store n ((sp_Model_reg (sp_Model_field x0 15 5) h x) + ((shl (shr x0 25) 5) ||| (sp_Model_field x0 7 5))) (shl 1 (sp_Model_field x0 12 3)) (sp_Model_reg (sp_Model_field x0 20 5) h x) h ca tv lv cs b cl cm so ti pu np).2.2.2.2.2.2.1
    let pu_8 := (sp_Model_store n ((sp_Model_reg (sp_Model_field x0 15 5) h x) + ((shl (shr x0 25) 5) ||| (sp_Model_field x0 7 5))) (shl 1 (sp_Model_field x0 12 3)) (sp_Model_reg (sp_Model_field x0 20 5) h x) h ca tv lv cs b cl cm so ti pu np).2.2.2.2.2.2.2.1
    let np_8 := (sp_Model_store n ((sp_Model_reg (sp_Model_field x0 15 5) h x) + ((shl (shr x0 25) 5) ||| (sp_Model_field x0 7 5))) (shl 1 (sp_Model_field x0 12 3)) (sp_Model_reg (sp_Model_field x0 20 5) h x) h ca tv lv cs b cl cm so ti pu np).2.2.2.2.2.2.2.2
    (ca_8, tv_8, b_8, cl_8, cm_8, so_8, ti_8, pu_8, np_8)
  else
    let ca_9 := (sp_Model_trap 2 x0 ca tv).1
    let tv_9 := (sp_Model_trap 2 x0 ca tv).2
    (ca_9, tv_9, b, cl, cm, so, ti, pu, np)
set_option maxHeartbeats 4000000 in
set_option maxRecDepth 100000 in
theorem c_Model_stores {l : Launch} {D : va_G} {g : Nat → Nat} (a : Nat → Nat) (k : Nat → ClassId) (n : Nat) (x0 : Int32) (h ca tv nx : Int32) (pcs lv cs x b cl : Nat → Int32) (cm : Nat → Int64) (so : Nat → Int32) (ti : Int64) (pu : Nat → Int32) (np : Int32) (hn : n ≤ 4096) (hh : h = 0 ∨ h = 1) (hp : 0 ≤ np ∧ np ≤ 256) : CT l D g y_Model_stores b_Model_stores 3 none (rD 6) [.ref (a 0), .int x0] (wR a k n h ca tv nx pcs lv cs x b cl cm so ti pu np) (tyR k) (Qv D (fun (u : Int32 × Int32 × (Nat → Int32) × (Nat → Int32) × (Nat → Int64) × (Nat → Int32) × Int64 × (Nat → Int32) × Int32) => sp_Model_stores n x0 h ca tv lv cs x b cl cm so ti pu np = u) (fun u => wR a k n h u.1 u.2.1 nx pcs lv cs x u.2.2.1 u.2.2.2.1 u.2.2.2.2.1 u.2.2.2.2.2.1 u.2.2.2.2.2.2.1 u.2.2.2.2.2.2.2.1 u.2.2.2.2.2.2.2.2)) := by
  refine CT.of rfl (Nat.le_of_ble_eq_true rfl) (fun p e s m below meth c A ls hx hb hr hml hts hown hlocks hA hP hK hD hF hS hl => ?_)
  have hl : lv_has ls 3 [(0, .ref (a 0)), (1, .int x0)] := hl
  refine lv_iload_n hx hb d_Model_stores_0 rfl (lv_at hl 1 rfl) ?_
  refine lv_bipush (v := 12) hx hb d_Model_stores_1 rfl ?_
  refine lv_iconst (v := 3) hx hb d_Model_stores_3 rfl ?_
  refine xi (wr := [((a 0), .inr (5, [.int (nI n), .ref (a 1), .ref (a 2), .ref (a 3), .ref (a 4), .ref (a 5), .ref (a 6), .ref (a 7), .ref (a 8), .long ti, .ref (a 9), .int np, .int h, .int ca, .int tv, .int nx])), ((a 1), .inl ((k 0), 16384, .inl b)), ((a 2), .inl ((k 1), 64, .inl x)), ((a 3), .inl ((k 2), 2, .inl pcs)), ((a 4), .inl ((k 3), 2, .inl lv)), ((a 5), .inl ((k 4), 8192, .inl cs)), ((a 6), .inl ((k 5), 2, .inl cl)), ((a 7), .inl ((k 6), 2, .inr (.inl cm))), ((a 8), .inl ((k 7), 2, .inl so)), ((a 9), .inl ((k 8), 256, .inl pu))]) (W2 := fun _ => wR a k n h ca tv nx pcs lv cs x b cl cm so ti pu np) (xS (rest := []) ⟨hx, hb, hml, hown, hts⟩ (c_Model_field x0 12 3) mw_Model_field ms_Model_field k_787 ⟨rfl, rfl, Nat.le_of_ble_eq_true rfl, Nat.le_of_ble_eq_true rfl⟩ hK hP hD hS hA hF [] [] rfl rfl rfl rfl hl.1 rfl (Nat.le_of_ble_eq_true rfl) d_Model_stores_4 ⟨Nat.zero_le _, Nat.zero_le _⟩) hP hD hS hA [] [0, 1, 2, 3, 4, 5, 6, 7, 8, 9] [0, 1, 2, 3, 4, 5, 6, 7, 8, 9] rfl rfl rfl (by decide) (fun _ => rfl) rfl (fun r_1 _ H locs h_1 hP hD hS => ?_)
  subst h_1
  refine lv_istore_n (lv' := [(2, .int (sp_Model_field x0 12 3)), (0, .ref (a 0)), (1, .int x0)]) hx hb d_Model_stores_7 rfl hl (by decide) rfl (fun ls hl => ?_)
  refine lv_iload_n hx hb d_Model_stores_8 rfl (lv_at hl 0 rfl) ?_
  refine lv_iconst (v := 2) hx hb d_Model_stores_9 rfl ?_
  refine lv_icmp_le (tgt := 22) hx hb d_Model_stores_10 (by decide) (fun c_2 => ?_) (fun c_2 => ?_)
  · refine lv_aload_n hx hb d_Model_stores_22 rfl (lv_at hl 1 rfl) ?_
    refine lv_aload_n hx hb d_Model_stores_23 rfl (lv_at hl 1 rfl) ?_
    refine lv_iload_n hx hb d_Model_stores_24 rfl (lv_at hl 2 rfl) ?_
    refine lv_bipush (v := 15) hx hb d_Model_stores_25 rfl ?_
    refine lv_iconst (v := 5) hx hb d_Model_stores_27 rfl ?_
    refine xi (wr := [((a 0), .inr (5, [.int (nI n), .ref (a 1), .ref (a 2), .ref (a 3), .ref (a 4), .ref (a 5), .ref (a 6), .ref (a 7), .ref (a 8), .long ti, .ref (a 9), .int np, .int h, .int ca, .int tv, .int nx])), ((a 1), .inl ((k 0), 16384, .inl b)), ((a 2), .inl ((k 1), 64, .inl x)), ((a 3), .inl ((k 2), 2, .inl pcs)), ((a 4), .inl ((k 3), 2, .inl lv)), ((a 5), .inl ((k 4), 8192, .inl cs)), ((a 6), .inl ((k 5), 2, .inl cl)), ((a 7), .inl ((k 6), 2, .inr (.inl cm))), ((a 8), .inl ((k 7), 2, .inl so)), ((a 9), .inl ((k 8), 256, .inl pu))]) (W2 := fun _ => wR a k n h ca tv nx pcs lv cs x b cl cm so ti pu np) (xS (rest := [.ref (a 0), .ref (a 0)]) ⟨hx, hb, hml, hown, hts⟩ (c_Model_field x0 15 5) mw_Model_field ms_Model_field k_787 ⟨rfl, rfl, Nat.le_of_ble_eq_true rfl, Nat.le_of_ble_eq_true rfl⟩ hK hP hD hS hA hF [] [] rfl rfl rfl rfl hl.1 rfl (Nat.le_of_ble_eq_true rfl) d_Model_stores_28 ⟨Nat.zero_le _, Nat.zero_le _⟩) hP hD hS hA [] [0, 1, 2, 3, 4, 5, 6, 7, 8, 9] [0, 1, 2, 3, 4, 5, 6, 7, 8, 9] rfl rfl rfl (by decide) (fun _ => rfl) rfl (fun r_3 _ H locs h_3 hP hD hS => ?_)
    subst h_3
    refine xi (wr := []) (W2 := fun _ => wR a k n h ca tv nx pcs lv cs x b cl cm so ti pu np) (xV (rest := [.ref (a 0)]) ⟨hx, hb, hml, hown, hts⟩ (c_Model_reg a k n (sp_Model_field x0 15 5) h ca tv nx pcs lv cs x b cl cm so ti pu np hn hh (vp_f5 _ _)) mw_Model_reg mv_Model_reg k_802 ⟨rfl, rfl, Nat.le_of_ble_eq_true rfl, Nat.le_of_ble_eq_true rfl⟩ hK hP hD hS hA hF [0, 1, 2, 3, 4, 5, 6, 7, 8, 9] [0, 1, 2, 3, 4, 5, 6, 7, 8] rfl rfl rfl 0 5 rfl rfl rfl rfl hl.1 rfl (Nat.le_of_ble_eq_true rfl) d_Model_stores_31 ⟨Nat.zero_le _, Nat.zero_le _⟩) hP hD hS hA [0, 1, 2, 3, 4, 5, 6, 7, 8, 9] [] [0, 1, 2, 3, 4, 5, 6, 7, 8, 9] rfl rfl rfl (by decide) (fun _ => rfl) rfl (fun r_4 _ H locs h_4 hP hD hS => ?_)
    subst h_4
    refine lv_iload_n hx hb d_Model_stores_34 rfl (lv_at hl 2 rfl) ?_
    refine lv_bipush (v := 25) hx hb d_Model_stores_35 rfl ?_
    refine y_ishr hx hb d_Model_stores_37 ?_
    refine lv_iconst (v := 5) hx hb d_Model_stores_38 rfl ?_
    refine y_ishl hx hb d_Model_stores_39 ?_
    refine lv_iload_n hx hb d_Model_stores_40 rfl (lv_at hl 2 rfl) ?_
    refine lv_bipush (v := 7) hx hb d_Model_stores_41 rfl ?_
    refine lv_iconst (v := 5) hx hb d_Model_stores_43 rfl ?_
    refine xi (wr := [((a 0), .inr (5, [.int (nI n), .ref (a 1), .ref (a 2), .ref (a 3), .ref (a 4), .ref (a 5), .ref (a 6), .ref (a 7), .ref (a 8), .long ti, .ref (a 9), .int np, .int h, .int ca, .int tv, .int nx])), ((a 1), .inl ((k 0), 16384, .inl b)), ((a 2), .inl ((k 1), 64, .inl x)), ((a 3), .inl ((k 2), 2, .inl pcs)), ((a 4), .inl ((k 3), 2, .inl lv)), ((a 5), .inl ((k 4), 8192, .inl cs)), ((a 6), .inl ((k 5), 2, .inl cl)), ((a 7), .inl ((k 6), 2, .inr (.inl cm))), ((a 8), .inl ((k 7), 2, .inl so)), ((a 9), .inl ((k 8), 256, .inl pu))]) (W2 := fun _ => wR a k n h ca tv nx pcs lv cs x b cl cm so ti pu np) (xS (rest := [.int (shl (shr x0 25) 5), .int (sp_Model_reg (sp_Model_field x0 15 5) h x), .ref (a 0)]) ⟨hx, hb, hml, hown, hts⟩ (c_Model_field x0 7 5) mw_Model_field ms_Model_field k_787 ⟨rfl, rfl, Nat.le_of_ble_eq_true rfl, Nat.le_of_ble_eq_true rfl⟩ hK hP hD hS hA hF [] [] rfl rfl rfl rfl hl.1 rfl (Nat.le_of_ble_eq_true rfl) d_Model_stores_44 ⟨Nat.zero_le _, Nat.zero_le _⟩) hP hD hS hA [] [0, 1, 2, 3, 4, 5, 6, 7, 8, 9] [0, 1, 2, 3, 4, 5, 6, 7, 8, 9] rfl rfl rfl (by decide) (fun _ => rfl) rfl (fun r_5 _ H locs h_5 hP hD hS => ?_)
    subst h_5
    refine lv_ior hx hb d_Model_stores_47 ?_
    refine lv_iadd hx hb d_Model_stores_48 ?_
    refine lv_iconst (v := 1) hx hb d_Model_stores_49 rfl ?_
    refine lv_iload_n hx hb d_Model_stores_50 rfl (lv_at hl 0 rfl) ?_
    refine y_ishl hx hb d_Model_stores_51 ?_
    refine lv_aload_n hx hb d_Model_stores_52 rfl (lv_at hl 1 rfl) ?_
    refine lv_iload_n hx hb d_Model_stores_53 rfl (lv_at hl 2 rfl) ?_
    refine lv_bipush (v := 20) hx hb d_Model_stores_54 rfl ?_
    refine lv_iconst (v := 5) hx hb d_Model_stores_56 rfl ?_
    refine xi (wr := [((a 0), .inr (5, [.int (nI n), .ref (a 1), .ref (a 2), .ref (a 3), .ref (a 4), .ref (a 5), .ref (a 6), .ref (a 7), .ref (a 8), .long ti, .ref (a 9), .int np, .int h, .int ca, .int tv, .int nx])), ((a 1), .inl ((k 0), 16384, .inl b)), ((a 2), .inl ((k 1), 64, .inl x)), ((a 3), .inl ((k 2), 2, .inl pcs)), ((a 4), .inl ((k 3), 2, .inl lv)), ((a 5), .inl ((k 4), 8192, .inl cs)), ((a 6), .inl ((k 5), 2, .inl cl)), ((a 7), .inl ((k 6), 2, .inr (.inl cm))), ((a 8), .inl ((k 7), 2, .inl so)), ((a 9), .inl ((k 8), 256, .inl pu))]) (W2 := fun _ => wR a k n h ca tv nx pcs lv cs x b cl cm so ti pu np) (xS (rest := [.ref (a 0), .int (shl 1 (sp_Model_field x0 12 3)), .int ((sp_Model_reg (sp_Model_field x0 15 5) h x) + ((shl (shr x0 25) 5) ||| (sp_Model_field x0 7 5))), .ref (a 0)]) ⟨hx, hb, hml, hown, hts⟩ (c_Model_field x0 20 5) mw_Model_field ms_Model_field k_787 ⟨rfl, rfl, Nat.le_of_ble_eq_true rfl, Nat.le_of_ble_eq_true rfl⟩ hK hP hD hS hA hF [] [] rfl rfl rfl rfl hl.1 rfl (Nat.le_of_ble_eq_true rfl) d_Model_stores_57 ⟨Nat.zero_le _, Nat.zero_le _⟩) hP hD hS hA [] [0, 1, 2, 3, 4, 5, 6, 7, 8, 9] [0, 1, 2, 3, 4, 5, 6, 7, 8, 9] rfl rfl rfl (by decide) (fun _ => rfl) rfl (fun r_6 _ H locs h_6 hP hD hS => ?_)
    subst h_6
    refine xi (wr := []) (W2 := fun _ => wR a k n h ca tv nx pcs lv cs x b cl cm so ti pu np) (xV (rest := [.int (shl 1 (sp_Model_field x0 12 3)), .int ((sp_Model_reg (sp_Model_field x0 15 5) h x) + ((shl (shr x0 25) 5) ||| (sp_Model_field x0 7 5))), .ref (a 0)]) ⟨hx, hb, hml, hown, hts⟩ (c_Model_reg a k n (sp_Model_field x0 20 5) h ca tv nx pcs lv cs x b cl cm so ti pu np hn hh (vp_f5 _ _)) mw_Model_reg mv_Model_reg k_802 ⟨rfl, rfl, Nat.le_of_ble_eq_true rfl, Nat.le_of_ble_eq_true rfl⟩ hK hP hD hS hA hF [0, 1, 2, 3, 4, 5, 6, 7, 8, 9] [0, 1, 2, 3, 4, 5, 6, 7, 8] rfl rfl rfl 0 5 rfl rfl rfl rfl hl.1 rfl (Nat.le_of_ble_eq_true rfl) d_Model_stores_60 ⟨Nat.zero_le _, Nat.zero_le _⟩) hP hD hS hA [0, 1, 2, 3, 4, 5, 6, 7, 8, 9] [] [0, 1, 2, 3, 4, 5, 6, 7, 8, 9] rfl rfl rfl (by decide) (fun _ => rfl) rfl (fun r_7 _ H locs h_7 hP hD hS => ?_)
    subst h_7
    refine xv (wr := []) (W2 := fun u9 => wR a k n h u9.1 u9.2.1 nx pcs lv cs x u9.2.2.1 u9.2.2.2.1 u9.2.2.2.2.1 u9.2.2.2.2.2.1 u9.2.2.2.2.2.2.1 u9.2.2.2.2.2.2.2.1 u9.2.2.2.2.2.2.2.2) (xV (rest := []) ⟨hx, hb, hml, hown, hts⟩ (c_Model_store a k n ((sp_Model_reg (sp_Model_field x0 15 5) h x) + ((shl (shr x0 25) 5) ||| (sp_Model_field x0 7 5))) (shl 1 (sp_Model_field x0 12 3)) (sp_Model_reg (sp_Model_field x0 20 5) h x) h ca tv nx pcs lv cs x b cl cm so ti pu np hn hh hp (n124s c_2)) mw_Model_store mv_Model_store k_842 ⟨rfl, rfl, Nat.le_of_ble_eq_true rfl, Nat.le_of_ble_eq_true rfl⟩ hK hP hD hS hA hF [0, 1, 2, 3, 4, 5, 6, 7, 8, 9] [0, 1, 2, 3, 4, 5, 6, 7, 8] rfl rfl rfl 0 5 rfl rfl rfl rfl hl.1 rfl (Nat.le_of_ble_eq_true rfl) d_Model_stores_63 ⟨Nat.zero_le _, Nat.zero_le _⟩) hP hD hS hA [0, 1, 2, 3, 4, 5, 6, 7, 8, 9] [] [0, 1, 2, 3, 4, 5, 6, 7, 8, 9] rfl rfl rfl (by decide) (fun _ => rfl) rfl (fun u_8 H locs h_8 hP hD hS => ?_)
    obtain ⟨ca_8, tv_8, b_8, cl_8, cm_8, so_8, ti_8, pu_8, np_8⟩ := u_8
    dsimp only at hP hD
    exact rv (ca_8, tv_8, b_8, cl_8, cm_8, so_8, ti_8, pu_8, np_8) hx hb hr hlocks hP hD hS d_Model_stores_66 (by simp only [sp_Model_stores, h_8, if_pos c_2])
  · refine lv_aload_n hx hb d_Model_stores_13 rfl (lv_at hl 1 rfl) ?_
    refine lv_iconst (v := 2) hx hb d_Model_stores_14 rfl ?_
    refine lv_iload_n hx hb d_Model_stores_15 rfl (lv_at hl 2 rfl) ?_
    refine xv (wr := []) (W2 := fun u9 => wR a k n h u9.1 u9.2 nx pcs lv cs x b cl cm so ti pu np) (xV (rest := []) ⟨hx, hb, hml, hown, hts⟩ (c_Model_trap a k n 2 x0 h ca tv nx pcs lv cs x b cl cm so ti pu np hn) mw_Model_trap mv_Model_trap k_763 ⟨rfl, rfl, Nat.le_of_ble_eq_true rfl, Nat.le_of_ble_eq_true rfl⟩ hK hP hD hS hA hF [0, 1, 2, 3, 4, 5, 6, 7, 8, 9] [0, 1, 2, 3, 4, 5, 6, 7, 8] rfl rfl rfl 0 5 rfl rfl rfl rfl hl.1 rfl (Nat.le_of_ble_eq_true rfl) d_Model_stores_16 ⟨Nat.zero_le _, Nat.zero_le _⟩) hP hD hS hA [0, 1, 2, 3, 4, 5, 6, 7, 8, 9] [] [0, 1, 2, 3, 4, 5, 6, 7, 8, 9] rfl rfl rfl (by decide) (fun _ => rfl) rfl (fun u_9 H locs h_9 hP hD hS => ?_)
    obtain ⟨ca_9, tv_9⟩ := u_9
    dsimp only at hP hD
    refine lv_goto (tgt := 66) hx hb d_Model_stores_19 (by decide) ?_
    exact rv (ca_9, tv_9, b, cl, cm, so, ti, pu, np) hx hb hr hlocks hP hD hS d_Model_stores_66 (by simp only [sp_Model_stores, h_9, if_neg c_2])
def sp_Model_shifted (x0 : Int32) (x1 : Int32) (x2 : Int32)  : Int32 :=
  if x2 = 0 then
    ush x0 x1
  else
    shr x0 x1
set_option maxHeartbeats 4000000 in
set_option maxRecDepth 100000 in
theorem c_Model_shifted {l : Launch} {D : va_G} {g : Nat → Nat}  (x0 : Int32) (x1 : Int32) (x2 : Int32)   : CT l D g y_Model_shifted b_Model_shifted 3 (some .int) (rD 0) [.int x0, .int x1, .int x2] [] [] (Qi D (fun (r : Int32) (_ : Unit) => sp_Model_shifted x0 x1 x2 = r) (fun _ => [])) := by
  refine CT.of rfl (Nat.le_of_ble_eq_true rfl) (fun p e s m below meth c A ls hx hb hr hml hts hown hlocks hA hP hK hD hF hS hl => ?_)
  have hl : lv_has ls 3 [(0, .int x0), (1, .int x1), (2, .int x2)] := hl
  refine lv_iload_n hx hb d_Model_shifted_0 rfl (lv_at hl 2 rfl) ?_
  refine lv_if_eq (tgt := 10) hx hb d_Model_shifted_1 (by decide) (fun c_1 => ?_) (fun c_1 => ?_)
  · refine lv_iload_n hx hb d_Model_shifted_10 rfl (lv_at hl 0 rfl) ?_
    refine lv_iload_n hx hb d_Model_shifted_11 rfl (lv_at hl 1 rfl) ?_
    refine lv_iushr (v := ush x0 x1) hx hb d_Model_shifted_12 rfl ?_
    exact ri () hx hb hr hlocks hP hD hS d_Model_shifted_13 (by simp only [sp_Model_shifted, if_pos c_1])
  · refine lv_iload_n hx hb d_Model_shifted_4 rfl (lv_at hl 0 rfl) ?_
    refine lv_iload_n hx hb d_Model_shifted_5 rfl (lv_at hl 1 rfl) ?_
    refine y_ishr hx hb d_Model_shifted_6 ?_
    refine lv_goto (tgt := 13) hx hb d_Model_shifted_7 (by decide) ?_
    exact ri () hx hb hr hlocks hP hD hS d_Model_shifted_13 (by simp only [sp_Model_shifted, if_neg c_1])
def sp_Model_plain (x0 : Int32) (x1 : Int32) (x2 : Int32)  : Int32 :=
  if x0 = 0 then
    x1 + x2
  else
    if x0 = 1 then
      shl x1 (x2 &&& 31)
    else
      if x0 = 2 then
        if x2 ≤ x1 then
          0
        else
          1
      else
        if x0 = 3 then
          if (sp_Model_below x1 x2) = 0 then
            0
          else
            1
        else
          if x0 = 4 then
            x1 ^^^ x2
          else
            if x0 = 5 then
              x1 &&& x2
            else
              if x0 = 6 then
                x1 ||| x2
              else
                x1 &&& x2
set_option maxHeartbeats 4000000 in
set_option maxRecDepth 100000 in
theorem c_Model_plain {l : Launch} {D : va_G} {g : Nat → Nat}  (x0 : Int32) (x1 : Int32) (x2 : Int32)   : CT l D g y_Model_plain b_Model_plain 3 (some .int) (rD 1) [.int x0, .int x1, .int x2] [] [] (Qi D (fun (r : Int32) (_ : Unit) => sp_Model_plain x0 x1 x2 = r) (fun _ => [])) := by
  refine CT.of rfl (Nat.le_of_ble_eq_true rfl) (fun p e s m below meth c A ls hx hb hr hml hts hown hlocks hA hP hK hD hF hS hl => ?_)
  have hl : lv_has ls 3 [(0, .int x0), (1, .int x1), (2, .int x2)] := hl
  refine lv_iload_n hx hb d_Model_plain_0 rfl (lv_at hl 0 rfl) ?_
  by_cases c_1 : x0 = 0
  · refine lv_tableIn (off := 43) (tgt := 44) hx hb d_Model_plain_1 (by rw [c_1]; decide) (by rw [c_1]; decide) (by rw [c_1]; rfl) (by decide) ?_
    refine lv_iload_n hx hb d_Model_plain_44 rfl (lv_at hl 1 rfl) ?_
    refine lv_iload_n hx hb d_Model_plain_45 rfl (lv_at hl 2 rfl) ?_
    refine lv_iadd hx hb d_Model_plain_46 ?_
    exact ri () hx hb hr hlocks hP hD hS d_Model_plain_47 (by simp only [sp_Model_plain, if_pos c_1])
  · by_cases c_2 : x0 = 1
    · refine lv_tableIn (off := 47) (tgt := 48) hx hb d_Model_plain_1 (by rw [c_2]; decide) (by rw [c_2]; decide) (by rw [c_2]; rfl) (by decide) ?_
      refine lv_iload_n hx hb d_Model_plain_48 rfl (lv_at hl 1 rfl) ?_
      refine lv_iload_n hx hb d_Model_plain_49 rfl (lv_at hl 2 rfl) ?_
      refine lv_bipush (v := 31) hx hb d_Model_plain_50 rfl ?_
      refine lv_iand hx hb d_Model_plain_52 ?_
      refine y_ishl hx hb d_Model_plain_53 ?_
      exact ri () hx hb hr hlocks hP hD hS d_Model_plain_54 (by simp only [sp_Model_plain, if_neg c_1, if_pos c_2])
    · by_cases c_3 : x0 = 2
      · refine lv_tableIn (off := 54) (tgt := 55) hx hb d_Model_plain_1 (by rw [c_3]; decide) (by rw [c_3]; decide) (by rw [c_3]; rfl) (by decide) ?_
        refine lv_iload_n hx hb d_Model_plain_55 rfl (lv_at hl 1 rfl) ?_
        refine lv_iload_n hx hb d_Model_plain_56 rfl (lv_at hl 2 rfl) ?_
        refine lv_icmp_ge (tgt := 64) hx hb d_Model_plain_57 (by decide) (fun c_4 => ?_) (fun c_4 => ?_)
        · refine lv_iconst (v := 0) hx hb d_Model_plain_64 rfl ?_
          exact ri () hx hb hr hlocks hP hD hS d_Model_plain_65 (by simp only [sp_Model_plain, if_neg c_1, if_neg c_2, if_pos c_3, if_pos c_4])
        · refine lv_iconst (v := 1) hx hb d_Model_plain_60 rfl ?_
          refine lv_goto (tgt := 65) hx hb d_Model_plain_61 (by decide) ?_
          exact ri () hx hb hr hlocks hP hD hS d_Model_plain_65 (by simp only [sp_Model_plain, if_neg c_1, if_neg c_2, if_pos c_3, if_neg c_4])
      · by_cases c_5 : x0 = 3
        · refine lv_tableIn (off := 65) (tgt := 66) hx hb d_Model_plain_1 (by rw [c_5]; decide) (by rw [c_5]; decide) (by rw [c_5]; rfl) (by decide) ?_
          refine lv_iload_n hx hb d_Model_plain_66 rfl (lv_at hl 1 rfl) ?_
          refine lv_iload_n hx hb d_Model_plain_67 rfl (lv_at hl 2 rfl) ?_
          refine xi (wr := []) (W2 := fun _ => []) (xS (rest := []) ⟨hx, hb, hml, hown, hts⟩ (c_Model_below x1 x2) mw_Model_below ms_Model_below k_810 ⟨rfl, rfl, Nat.le_of_ble_eq_true rfl, Nat.le_of_ble_eq_true rfl⟩ hK hP hD hS hA hF [] [] rfl rfl rfl rfl hl.1 rfl (Nat.le_of_ble_eq_true rfl) d_Model_plain_68 ⟨Nat.zero_le _, Nat.zero_le _⟩) hP hD hS hA [] [] [] rfl rfl rfl (by decide) (fun _ => rfl) rfl (fun r_6 _ H locs h_6 hP hD hS => ?_)
          obtain ⟨h_6, z_6⟩ := h_6
          subst h_6
          refine lv_if_eq (tgt := 78) hx hb d_Model_plain_71 (by decide) (fun c_7 => ?_) (fun c_7 => ?_)
          · refine lv_iconst (v := 0) hx hb d_Model_plain_78 rfl ?_
            exact ri () hx hb hr hlocks hP hD hS d_Model_plain_79 (by simp only [sp_Model_plain, if_neg c_1, if_neg c_2, if_neg c_3, if_pos c_5, if_pos c_7])
          · refine lv_iconst (v := 1) hx hb d_Model_plain_74 rfl ?_
            refine lv_goto (tgt := 79) hx hb d_Model_plain_75 (by decide) ?_
            exact ri () hx hb hr hlocks hP hD hS d_Model_plain_79 (by simp only [sp_Model_plain, if_neg c_1, if_neg c_2, if_neg c_3, if_pos c_5, if_neg c_7])
        · by_cases c_8 : x0 = 4
          · refine lv_tableIn (off := 79) (tgt := 80) hx hb d_Model_plain_1 (by rw [c_8]; decide) (by rw [c_8]; decide) (by rw [c_8]; rfl) (by decide) ?_
            refine lv_iload_n hx hb d_Model_plain_80 rfl (lv_at hl 1 rfl) ?_
            refine lv_iload_n hx hb d_Model_plain_81 rfl (lv_at hl 2 rfl) ?_
            refine lv_ixor hx hb d_Model_plain_82 ?_
            exact ri () hx hb hr hlocks hP hD hS d_Model_plain_83 (by simp only [sp_Model_plain, if_neg c_1, if_neg c_2, if_neg c_3, if_neg c_5, if_pos c_8])
          · by_cases c_9 : x0 = 5
            · refine lv_tableIn (off := 87) (tgt := 88) hx hb d_Model_plain_1 (by rw [c_9]; decide) (by rw [c_9]; decide) (by rw [c_9]; rfl) (by decide) ?_
              refine lv_iload_n hx hb d_Model_plain_88 rfl (lv_at hl 1 rfl) ?_
              refine lv_iload_n hx hb d_Model_plain_89 rfl (lv_at hl 2 rfl) ?_
              refine lv_iand hx hb d_Model_plain_90 ?_
              exact ri () hx hb hr hlocks hP hD hS d_Model_plain_91 (by simp only [sp_Model_plain, if_neg c_1, if_neg c_2, if_neg c_3, if_neg c_5, if_neg c_8, if_pos c_9])
            · by_cases c_10 : x0 = 6
              · refine lv_tableIn (off := 83) (tgt := 84) hx hb d_Model_plain_1 (by rw [c_10]; decide) (by rw [c_10]; decide) (by rw [c_10]; rfl) (by decide) ?_
                refine lv_iload_n hx hb d_Model_plain_84 rfl (lv_at hl 1 rfl) ?_
                refine lv_iload_n hx hb d_Model_plain_85 rfl (lv_at hl 2 rfl) ?_
                refine lv_ior hx hb d_Model_plain_86 ?_
                exact ri () hx hb hr hlocks hP hD hS d_Model_plain_87 (by simp only [sp_Model_plain, if_neg c_1, if_neg c_2, if_neg c_3, if_neg c_5, if_neg c_8, if_neg c_9, if_pos c_10])
              · refine lv_tableOut (tgt := 88) hx hb d_Model_plain_1 (by have := lv_neT (a := 0) c_1 rfl; have := lv_neT (a := 1) c_2 rfl; have := lv_neT (a := 2) c_3 rfl; have := lv_neT (a := 3) c_5 rfl; have := lv_neT (a := 4) c_8 rfl; have := lv_neT (a := 5) c_9 rfl; have := lv_neT (a := 6) c_10 rfl; omega) (by decide) ?_
                refine lv_iload_n hx hb d_Model_plain_88 rfl (lv_at hl 1 rfl) ?_
                refine lv_iload_n hx hb d_Model_plain_89 rfl (lv_at hl 2 rfl) ?_
                refine lv_iand hx hb d_Model_plain_90 ?_
                exact ri () hx hb hr hlocks hP hD hS d_Model_plain_91 (by simp only [sp_Model_plain, if_neg c_1, if_neg c_2, if_neg c_3, if_neg c_5, if_neg c_8, if_neg c_9, if_neg c_10])
def sp_Model_product (x0 : Int32) (x1 : Int32) (x2 : Int32)  : Int32 :=
  if x0 = 3 then
    (lush ((x1.toInt64 &&& 4294967295) * (x2.toInt64 &&& 4294967295)) 32).toInt32
  else
    if x0 = 2 then
      (lush (x1.toInt64 * (x2.toInt64 &&& 4294967295)) 32).toInt32
    else
      if x0 = 0 then
        (x1.toInt64 * x2.toInt64).toInt32
      else
        (lush (x1.toInt64 * x2.toInt64) 32).toInt32
set_option maxHeartbeats 4000000 in
set_option maxRecDepth 100000 in
theorem c_Model_product {l : Launch} {D : va_G} {g : Nat → Nat}  (x0 : Int32) (x1 : Int32) (x2 : Int32)   : CT l D g y_Model_product b_Model_product 9 (some .int) (rD 0) [.int x0, .int x1, .int x2] [] [] (Qi D (fun (r : Int32) (_ : Unit) => sp_Model_product x0 x1 x2 = r) (fun _ => [])) := by
  refine CT.of rfl (Nat.le_of_ble_eq_true rfl) (fun p e s m below meth c A ls hx hb hr hml hts hown hlocks hA hP hK hD hF hS hl => ?_)
  have hl : lv_has ls 9 [(0, .int x0), (1, .int x1), (2, .int x2)] := hl
  refine lv_iload_n hx hb d_Model_product_0 rfl (lv_at hl 0 rfl) ?_
  refine lv_iconst (v := 3) hx hb d_Model_product_1 rfl ?_
  refine lv_icmp_ne (tgt := 14) hx hb d_Model_product_2 (by decide) (fun c_1 => ?_) (fun c_1 => ?_)
  · refine lv_iload_n hx hb d_Model_product_14 rfl (lv_at hl 1 rfl) ?_
    refine lv_i2l hx hb d_Model_product_15 rfl ?_
    refine lv_lstore_n (lv' := [(3, .long x1.toInt64), (0, .int x0), (1, .int x1), (2, .int x2)]) hx hb d_Model_product_16 rfl hl (by decide) rfl (fun ls hl => ?_)
    refine lv_iload_n hx hb d_Model_product_17 rfl (lv_at hl 1 rfl) ?_
    refine lv_iconst (v := 2) hx hb d_Model_product_18 rfl ?_
    refine lv_icmp_eq (tgt := 27) hx hb d_Model_product_19 (by decide) (fun c_2 => ?_) (fun c_2 => ?_)
    · refine lv_iload_n hx hb d_Model_product_27 rfl (lv_at hl 3 rfl) ?_
      refine lv_i2l hx hb d_Model_product_28 rfl ?_
      refine lv_ldc2 (v := 4294967295) hx hb hown (hts _ k_751) d_Model_product_29 ?_
      refine lv_land hx hb d_Model_product_32 ?_
      refine lv_goto (tgt := 38) hx hb d_Model_product_33 (by decide) ?_
      refine lv_lstore (lv' := [(5, .long (x2.toInt64 &&& 4294967295)), (3, .long x1.toInt64), (0, .int x0), (1, .int x1), (2, .int x2)]) hx hb d_Model_product_38 hl (by decide) rfl (fun ls hl => ?_)
      refine lv_lload_n hx hb d_Model_product_40 rfl (lv_at hl 1 rfl) ?_
      refine lv_lload hx hb d_Model_product_41 (lv_at hl 0 rfl) ?_
      refine lv_lmul hx hb d_Model_product_43 ?_
      refine lv_lstore (lv' := [(7, .long (x1.toInt64 * (x2.toInt64 &&& 4294967295))), (5, .long (x2.toInt64 &&& 4294967295)), (3, .long x1.toInt64), (0, .int x0), (1, .int x1), (2, .int x2)]) hx hb d_Model_product_44 hl (by decide) rfl (fun ls hl => ?_)
      refine lv_iload_n hx hb d_Model_product_46 rfl (lv_at hl 3 rfl) ?_
      refine lv_if_ne (tgt := 56) hx hb d_Model_product_47 (by decide) (fun _ => ?_) (fun h9 => absurd h9 (by rw [c_2]; decide))
      refine lv_lload hx hb d_Model_product_56 (lv_at hl 0 rfl) ?_
      refine lv_bipush (v := 32) hx hb d_Model_product_58 rfl ?_
      refine lv_lushr (v := lush (x1.toInt64 * (x2.toInt64 &&& 4294967295)) 32) hx hb d_Model_product_60 rfl ?_
      refine lv_l2i hx hb d_Model_product_61 rfl ?_
      exact ri () hx hb hr hlocks hP hD hS d_Model_product_62 (by simp only [sp_Model_product, if_neg c_1, if_pos c_2])
    · refine lv_iload_n hx hb d_Model_product_22 rfl (lv_at hl 1 rfl) ?_
      refine lv_iconst (v := 3) hx hb d_Model_product_23 rfl ?_
      refine lv_icmp_ne (tgt := 36) hx hb d_Model_product_24 (by decide) (fun _ => ?_) (fun h9 => absurd h9 c_1)
      refine lv_iload_n hx hb d_Model_product_36 rfl (lv_at hl 3 rfl) ?_
      refine lv_i2l hx hb d_Model_product_37 rfl ?_
      refine lv_lstore (lv' := [(5, .long x2.toInt64), (3, .long x1.toInt64), (0, .int x0), (1, .int x1), (2, .int x2)]) hx hb d_Model_product_38 hl (by decide) rfl (fun ls hl => ?_)
      refine lv_lload_n hx hb d_Model_product_40 rfl (lv_at hl 1 rfl) ?_
      refine lv_lload hx hb d_Model_product_41 (lv_at hl 0 rfl) ?_
      refine lv_lmul hx hb d_Model_product_43 ?_
      refine lv_lstore (lv' := [(7, .long (x1.toInt64 * x2.toInt64)), (5, .long x2.toInt64), (3, .long x1.toInt64), (0, .int x0), (1, .int x1), (2, .int x2)]) hx hb d_Model_product_44 hl (by decide) rfl (fun ls hl => ?_)
      refine lv_iload_n hx hb d_Model_product_46 rfl (lv_at hl 3 rfl) ?_
      refine lv_if_ne (tgt := 56) hx hb d_Model_product_47 (by decide) (fun c_5 => ?_) (fun c_5 => ?_)
      · refine lv_lload hx hb d_Model_product_56 (lv_at hl 0 rfl) ?_
        refine lv_bipush (v := 32) hx hb d_Model_product_58 rfl ?_
        refine lv_lushr (v := lush (x1.toInt64 * x2.toInt64) 32) hx hb d_Model_product_60 rfl ?_
        refine lv_l2i hx hb d_Model_product_61 rfl ?_
        exact ri () hx hb hr hlocks hP hD hS d_Model_product_62 (by simp only [sp_Model_product, if_neg c_1, if_neg c_2, if_neg c_5])
      · refine lv_lload hx hb d_Model_product_50 (lv_at hl 0 rfl) ?_
        refine lv_l2i hx hb d_Model_product_52 rfl ?_
        refine lv_goto (tgt := 62) hx hb d_Model_product_53 (by decide) ?_
        exact ri () hx hb hr hlocks hP hD hS d_Model_product_62 (by simp only [sp_Model_product, if_neg c_1, if_neg c_2, if_pos c_5])
  · refine lv_iload_n hx hb d_Model_product_5 rfl (lv_at hl 1 rfl) ?_
    refine lv_i2l hx hb d_Model_product_6 rfl ?_
    refine lv_ldc2 (v := 4294967295) hx hb hown (hts _ k_751) d_Model_product_7 ?_
    refine lv_land hx hb d_Model_product_10 ?_
    refine lv_goto (tgt := 16) hx hb d_Model_product_11 (by decide) ?_
    refine lv_lstore_n (lv' := [(3, .long (x1.toInt64 &&& 4294967295)), (0, .int x0), (1, .int x1), (2, .int x2)]) hx hb d_Model_product_16 rfl hl (by decide) rfl (fun ls hl => ?_)
    refine lv_iload_n hx hb d_Model_product_17 rfl (lv_at hl 1 rfl) ?_
    refine lv_iconst (v := 2) hx hb d_Model_product_18 rfl ?_
    refine lv_icmp_eq (tgt := 27) hx hb d_Model_product_19 (by decide) (fun h9 => absurd h9 (by rw [c_1]; decide)) (fun _ => ?_)
    refine lv_iload_n hx hb d_Model_product_22 rfl (lv_at hl 1 rfl) ?_
    refine lv_iconst (v := 3) hx hb d_Model_product_23 rfl ?_
    refine lv_icmp_ne (tgt := 36) hx hb d_Model_product_24 (by decide) (fun h9 => absurd c_1 h9) (fun _ => ?_)
    refine lv_iload_n hx hb d_Model_product_27 rfl (lv_at hl 3 rfl) ?_
    refine lv_i2l hx hb d_Model_product_28 rfl ?_
    refine lv_ldc2 (v := 4294967295) hx hb hown (hts _ k_751) d_Model_product_29 ?_
    refine lv_land hx hb d_Model_product_32 ?_
    refine lv_goto (tgt := 38) hx hb d_Model_product_33 (by decide) ?_
    refine lv_lstore (lv' := [(5, .long (x2.toInt64 &&& 4294967295)), (3, .long (x1.toInt64 &&& 4294967295)), (0, .int x0), (1, .int x1), (2, .int x2)]) hx hb d_Model_product_38 hl (by decide) rfl (fun ls hl => ?_)
    refine lv_lload_n hx hb d_Model_product_40 rfl (lv_at hl 1 rfl) ?_
    refine lv_lload hx hb d_Model_product_41 (lv_at hl 0 rfl) ?_
    refine lv_lmul hx hb d_Model_product_43 ?_
    refine lv_lstore (lv' := [(7, .long ((x1.toInt64 &&& 4294967295) * (x2.toInt64 &&& 4294967295))), (5, .long (x2.toInt64 &&& 4294967295)), (3, .long (x1.toInt64 &&& 4294967295)), (0, .int x0), (1, .int x1), (2, .int x2)]) hx hb d_Model_product_44 hl (by decide) rfl (fun ls hl => ?_)
    refine lv_iload_n hx hb d_Model_product_46 rfl (lv_at hl 3 rfl) ?_
    refine lv_if_ne (tgt := 56) hx hb d_Model_product_47 (by decide) (fun _ => ?_) (fun h9 => absurd h9 (by rw [c_1]; decide))
    refine lv_lload hx hb d_Model_product_56 (lv_at hl 0 rfl) ?_
    refine lv_bipush (v := 32) hx hb d_Model_product_58 rfl ?_
    refine lv_lushr (v := lush ((x1.toInt64 &&& 4294967295) * (x2.toInt64 &&& 4294967295)) 32) hx hb d_Model_product_60 rfl ?_
    refine lv_l2i hx hb d_Model_product_61 rfl ?_
    exact ri () hx hb hr hlocks hP hD hS d_Model_product_62 (by simp only [sp_Model_product, if_pos c_1])
def sp_Model_quotient (x0 : Int32) (x1 : Int32) (x2 : Int32)  : Int32 :=
  if x0 ≤ 5 then
    if x2 = 0 then
      (-1)
    else
      if (x0 &&& 1) = 1 then
        ((x1.toInt64 &&& 4294967295) / (x2.toInt64 &&& 4294967295)).toInt32
      else
        (x1.toInt64 / x2.toInt64).toInt32
  else
    if x2 = 0 then
      x1
    else
      if (x0 &&& 1) = 1 then
        ((x1.toInt64 &&& 4294967295) - (x1.toInt64 &&& 4294967295) / (x2.toInt64 &&& 4294967295) * (x2.toInt64 &&& 4294967295)).toInt32
      else
        (x1.toInt64 - x1.toInt64 / x2.toInt64 * x2.toInt64).toInt32
set_option maxHeartbeats 4000000 in
set_option maxRecDepth 100000 in
theorem c_Model_quotient {l : Launch} {D : va_G} {g : Nat → Nat}  (x0 : Int32) (x1 : Int32) (x2 : Int32)   : CT l D g y_Model_quotient b_Model_quotient 8 (some .int) (rD 0) [.int x0, .int x1, .int x2] [] [] (Qi D (fun (r : Int32) (_ : Unit) => sp_Model_quotient x0 x1 x2 = r) (fun _ => [])) := by
  refine CT.of rfl (Nat.le_of_ble_eq_true rfl) (fun p e s m below meth c A ls hx hb hr hml hts hown hlocks hA hP hK hD hF hS hl => ?_)
  have hl : lv_has ls 8 [(0, .int x0), (1, .int x1), (2, .int x2)] := hl
  refine lv_iload_n hx hb d_Model_quotient_0 rfl (lv_at hl 0 rfl) ?_
  refine lv_iconst (v := 5) hx hb d_Model_quotient_1 rfl ?_
  refine lv_icmp_le (tgt := 9) hx hb d_Model_quotient_2 (by decide) (fun c_1 => ?_) (fun c_1 => ?_)
  · refine lv_iconst (v := 0) hx hb d_Model_quotient_9 rfl ?_
    refine lv_istore_n (lv' := [(3, .int 0), (0, .int x0), (1, .int x1), (2, .int x2)]) hx hb d_Model_quotient_10 rfl hl (by decide) rfl (fun ls hl => ?_)
    refine lv_iload_n hx hb d_Model_quotient_11 rfl (lv_at hl 3 rfl) ?_
    refine lv_if_ne (tgt := 25) hx hb d_Model_quotient_12 (by decide) (fun c_2 => ?_) (fun c_2 => ?_)
    · refine lv_iload_n hx hb d_Model_quotient_25 rfl (lv_at hl 1 rfl) ?_
      refine lv_iconst (v := 1) hx hb d_Model_quotient_26 rfl ?_
      refine lv_iand hx hb d_Model_quotient_27 ?_
      refine lv_iconst (v := 1) hx hb d_Model_quotient_28 rfl ?_
      refine lv_icmp_ne (tgt := 41) hx hb d_Model_quotient_29 (by decide) (fun c_3 => ?_) (fun c_3 => ?_)
      · refine lv_iload_n hx hb d_Model_quotient_41 rfl (lv_at hl 2 rfl) ?_
        refine lv_i2l hx hb d_Model_quotient_42 rfl ?_
        refine lv_lstore (lv' := [(4, .long x1.toInt64), (3, .int 0), (0, .int x0), (1, .int x1), (2, .int x2)]) hx hb d_Model_quotient_43 hl (by decide) rfl (fun ls hl => ?_)
        refine lv_iload_n hx hb d_Model_quotient_45 rfl (lv_at hl 2 rfl) ?_
        refine lv_iconst (v := 1) hx hb d_Model_quotient_46 rfl ?_
        refine lv_iand hx hb d_Model_quotient_47 ?_
        refine lv_iconst (v := 1) hx hb d_Model_quotient_48 rfl ?_
        refine lv_icmp_ne (tgt := 61) hx hb d_Model_quotient_49 (by decide) (fun _ => ?_) (fun h9 => absurd h9 c_3)
        refine lv_iload_n hx hb d_Model_quotient_61 rfl (lv_at hl 4 rfl) ?_
        refine lv_i2l hx hb d_Model_quotient_62 rfl ?_
        refine lv_lstore (lv' := [(6, .long x2.toInt64), (4, .long x1.toInt64), (3, .int 0), (0, .int x0), (1, .int x1), (2, .int x2)]) hx hb d_Model_quotient_63 hl (by decide) rfl (fun ls hl => ?_)
        refine lv_iload_n hx hb d_Model_quotient_65 rfl (lv_at hl 2 rfl) ?_
        refine lv_if_eq (tgt := 77) hx hb d_Model_quotient_66 (by decide) (fun _ => ?_) (fun h9 => absurd (by decide) h9)
        refine lv_lload hx hb d_Model_quotient_77 (lv_at hl 1 rfl) ?_
        refine lv_lload hx hb d_Model_quotient_79 (lv_at hl 0 rfl) ?_
        refine lv_ldiv hx hb d_Model_quotient_81 (ll_ne c_2) ?_
        refine lv_l2i hx hb d_Model_quotient_82 rfl ?_
        exact ri () hx hb hr hlocks hP hD hS d_Model_quotient_83 (by simp only [sp_Model_quotient, if_pos c_1, if_neg c_2, if_neg c_3])
      · refine lv_iload_n hx hb d_Model_quotient_32 rfl (lv_at hl 2 rfl) ?_
        refine lv_i2l hx hb d_Model_quotient_33 rfl ?_
        refine lv_ldc2 (v := 4294967295) hx hb hown (hts _ k_751) d_Model_quotient_34 ?_
        refine lv_land hx hb d_Model_quotient_37 ?_
        refine lv_goto (tgt := 43) hx hb d_Model_quotient_38 (by decide) ?_
        refine lv_lstore (lv' := [(4, .long (x1.toInt64 &&& 4294967295)), (3, .int 0), (0, .int x0), (1, .int x1), (2, .int x2)]) hx hb d_Model_quotient_43 hl (by decide) rfl (fun ls hl => ?_)
        refine lv_iload_n hx hb d_Model_quotient_45 rfl (lv_at hl 2 rfl) ?_
        refine lv_iconst (v := 1) hx hb d_Model_quotient_46 rfl ?_
        refine lv_iand hx hb d_Model_quotient_47 ?_
        refine lv_iconst (v := 1) hx hb d_Model_quotient_48 rfl ?_
        refine lv_icmp_ne (tgt := 61) hx hb d_Model_quotient_49 (by decide) (fun h9 => absurd c_3 h9) (fun _ => ?_)
        refine lv_iload_n hx hb d_Model_quotient_52 rfl (lv_at hl 4 rfl) ?_
        refine lv_i2l hx hb d_Model_quotient_53 rfl ?_
        refine lv_ldc2 (v := 4294967295) hx hb hown (hts _ k_751) d_Model_quotient_54 ?_
        refine lv_land hx hb d_Model_quotient_57 ?_
        refine lv_goto (tgt := 63) hx hb d_Model_quotient_58 (by decide) ?_
        refine lv_lstore (lv' := [(6, .long (x2.toInt64 &&& 4294967295)), (4, .long (x1.toInt64 &&& 4294967295)), (3, .int 0), (0, .int x0), (1, .int x1), (2, .int x2)]) hx hb d_Model_quotient_63 hl (by decide) rfl (fun ls hl => ?_)
        refine lv_iload_n hx hb d_Model_quotient_65 rfl (lv_at hl 2 rfl) ?_
        refine lv_if_eq (tgt := 77) hx hb d_Model_quotient_66 (by decide) (fun _ => ?_) (fun h9 => absurd (by decide) h9)
        refine lv_lload hx hb d_Model_quotient_77 (lv_at hl 1 rfl) ?_
        refine lv_lload hx hb d_Model_quotient_79 (lv_at hl 0 rfl) ?_
        refine lv_ldiv hx hb d_Model_quotient_81 (lw_ne c_2) ?_
        refine lv_l2i hx hb d_Model_quotient_82 rfl ?_
        exact ri () hx hb hr hlocks hP hD hS d_Model_quotient_83 (by simp only [sp_Model_quotient, if_pos c_1, if_neg c_2, if_pos c_3])
    · refine lv_iload_n hx hb d_Model_quotient_15 rfl (lv_at hl 0 rfl) ?_
      refine lv_if_eq (tgt := 23) hx hb d_Model_quotient_16 (by decide) (fun _ => ?_) (fun h9 => absurd (by decide) h9)
      refine lv_iconst (v := (-1)) hx hb d_Model_quotient_23 rfl ?_
      exact ri () hx hb hr hlocks hP hD hS d_Model_quotient_24 (by simp only [sp_Model_quotient, if_pos c_1, if_pos c_2])
  · refine lv_iconst (v := 1) hx hb d_Model_quotient_5 rfl ?_
    refine lv_goto (tgt := 10) hx hb d_Model_quotient_6 (by decide) ?_
    refine lv_istore_n (lv' := [(3, .int 1), (0, .int x0), (1, .int x1), (2, .int x2)]) hx hb d_Model_quotient_10 rfl hl (by decide) rfl (fun ls hl => ?_)
    refine lv_iload_n hx hb d_Model_quotient_11 rfl (lv_at hl 3 rfl) ?_
    refine lv_if_ne (tgt := 25) hx hb d_Model_quotient_12 (by decide) (fun c_9 => ?_) (fun c_9 => ?_)
    · refine lv_iload_n hx hb d_Model_quotient_25 rfl (lv_at hl 1 rfl) ?_
      refine lv_iconst (v := 1) hx hb d_Model_quotient_26 rfl ?_
      refine lv_iand hx hb d_Model_quotient_27 ?_
      refine lv_iconst (v := 1) hx hb d_Model_quotient_28 rfl ?_
      refine lv_icmp_ne (tgt := 41) hx hb d_Model_quotient_29 (by decide) (fun c_10 => ?_) (fun c_10 => ?_)
      · refine lv_iload_n hx hb d_Model_quotient_41 rfl (lv_at hl 2 rfl) ?_
        refine lv_i2l hx hb d_Model_quotient_42 rfl ?_
        refine lv_lstore (lv' := [(4, .long x1.toInt64), (3, .int 1), (0, .int x0), (1, .int x1), (2, .int x2)]) hx hb d_Model_quotient_43 hl (by decide) rfl (fun ls hl => ?_)
        refine lv_iload_n hx hb d_Model_quotient_45 rfl (lv_at hl 2 rfl) ?_
        refine lv_iconst (v := 1) hx hb d_Model_quotient_46 rfl ?_
        refine lv_iand hx hb d_Model_quotient_47 ?_
        refine lv_iconst (v := 1) hx hb d_Model_quotient_48 rfl ?_
        refine lv_icmp_ne (tgt := 61) hx hb d_Model_quotient_49 (by decide) (fun _ => ?_) (fun h9 => absurd h9 c_10)
        refine lv_iload_n hx hb d_Model_quotient_61 rfl (lv_at hl 4 rfl) ?_
        refine lv_i2l hx hb d_Model_quotient_62 rfl ?_
        refine lv_lstore (lv' := [(6, .long x2.toInt64), (4, .long x1.toInt64), (3, .int 1), (0, .int x0), (1, .int x1), (2, .int x2)]) hx hb d_Model_quotient_63 hl (by decide) rfl (fun ls hl => ?_)
        refine lv_iload_n hx hb d_Model_quotient_65 rfl (lv_at hl 2 rfl) ?_
        refine lv_if_eq (tgt := 77) hx hb d_Model_quotient_66 (by decide) (fun h9 => absurd h9 (by decide)) (fun _ => ?_)
        refine lv_lload hx hb d_Model_quotient_69 (lv_at hl 1 rfl) ?_
        refine lv_lload hx hb d_Model_quotient_71 (lv_at hl 0 rfl) ?_
        refine lv_lrem hx hb d_Model_quotient_73 (ll_ne c_9) ?_
        refine lv_goto (tgt := 82) hx hb d_Model_quotient_74 (by decide) ?_
        refine lv_l2i hx hb d_Model_quotient_82 rfl ?_
        exact ri () hx hb hr hlocks hP hD hS d_Model_quotient_83 (by simp only [sp_Model_quotient, if_neg c_1, if_neg c_9, if_neg c_10])
      · refine lv_iload_n hx hb d_Model_quotient_32 rfl (lv_at hl 2 rfl) ?_
        refine lv_i2l hx hb d_Model_quotient_33 rfl ?_
        refine lv_ldc2 (v := 4294967295) hx hb hown (hts _ k_751) d_Model_quotient_34 ?_
        refine lv_land hx hb d_Model_quotient_37 ?_
        refine lv_goto (tgt := 43) hx hb d_Model_quotient_38 (by decide) ?_
        refine lv_lstore (lv' := [(4, .long (x1.toInt64 &&& 4294967295)), (3, .int 1), (0, .int x0), (1, .int x1), (2, .int x2)]) hx hb d_Model_quotient_43 hl (by decide) rfl (fun ls hl => ?_)
        refine lv_iload_n hx hb d_Model_quotient_45 rfl (lv_at hl 2 rfl) ?_
        refine lv_iconst (v := 1) hx hb d_Model_quotient_46 rfl ?_
        refine lv_iand hx hb d_Model_quotient_47 ?_
        refine lv_iconst (v := 1) hx hb d_Model_quotient_48 rfl ?_
        refine lv_icmp_ne (tgt := 61) hx hb d_Model_quotient_49 (by decide) (fun h9 => absurd c_10 h9) (fun _ => ?_)
        refine lv_iload_n hx hb d_Model_quotient_52 rfl (lv_at hl 4 rfl) ?_
        refine lv_i2l hx hb d_Model_quotient_53 rfl ?_
        refine lv_ldc2 (v := 4294967295) hx hb hown (hts _ k_751) d_Model_quotient_54 ?_
        refine lv_land hx hb d_Model_quotient_57 ?_
        refine lv_goto (tgt := 63) hx hb d_Model_quotient_58 (by decide) ?_
        refine lv_lstore (lv' := [(6, .long (x2.toInt64 &&& 4294967295)), (4, .long (x1.toInt64 &&& 4294967295)), (3, .int 1), (0, .int x0), (1, .int x1), (2, .int x2)]) hx hb d_Model_quotient_63 hl (by decide) rfl (fun ls hl => ?_)
        refine lv_iload_n hx hb d_Model_quotient_65 rfl (lv_at hl 2 rfl) ?_
        refine lv_if_eq (tgt := 77) hx hb d_Model_quotient_66 (by decide) (fun h9 => absurd h9 (by decide)) (fun _ => ?_)
        refine lv_lload hx hb d_Model_quotient_69 (lv_at hl 1 rfl) ?_
        refine lv_lload hx hb d_Model_quotient_71 (lv_at hl 0 rfl) ?_
        refine lv_lrem hx hb d_Model_quotient_73 (lw_ne c_9) ?_
        refine lv_goto (tgt := 82) hx hb d_Model_quotient_74 (by decide) ?_
        refine lv_l2i hx hb d_Model_quotient_82 rfl ?_
        exact ri () hx hb hr hlocks hP hD hS d_Model_quotient_83 (by simp only [sp_Model_quotient, if_neg c_1, if_neg c_9, if_pos c_10])
    · refine lv_iload_n hx hb d_Model_quotient_15 rfl (lv_at hl 0 rfl) ?_
      refine lv_if_eq (tgt := 23) hx hb d_Model_quotient_16 (by decide) (fun h9 => absurd h9 (by decide)) (fun _ => ?_)
      refine lv_iload_n hx hb d_Model_quotient_19 rfl (lv_at hl 2 rfl) ?_
      refine lv_goto (tgt := 24) hx hb d_Model_quotient_20 (by decide) ?_
      exact ri () hx hb hr hlocks hP hD hS d_Model_quotient_24 (by simp only [sp_Model_quotient, if_neg c_1, if_pos c_9])
def sp_Model_reckon (x0 : Int32) (x1 : Int32) (h : Int32) (ca : Int32) (tv : Int32) (x : Nat → Int32) : Int32 × Int32 × (Nat → Int32) :=
  if x1 = 0 then
    if (sp_Model_field x0 12 3) = 1 then
      if (sp_Model_field x0 25 7) = 0 then
        let x_18 := (sp_Model_setReg (sp_Model_field x0 7 5) (shl (sp_Model_reg (sp_Model_field x0 15 5) h x) (sp_Model_field x0 20 5)) h ca x)
        (ca, tv, x_18)
      else
        if (sp_Model_field x0 25 7) = 32 then
          let ca_24 := (sp_Model_trap 2 x0 ca tv).1
          let tv_24 := (sp_Model_trap 2 x0 ca tv).2
          (ca_24, tv_24, x)
        else
          let ca_21 := (sp_Model_trap 2 x0 ca tv).1
          let tv_21 := (sp_Model_trap 2 x0 ca tv).2
          (ca_21, tv_21, x)
    else
      if (sp_Model_field x0 12 3) = 5 then
        if (sp_Model_field x0 25 7) = 0 then
          let x_46 := (sp_Model_setReg (sp_Model_field x0 7 5) (sp_Model_shifted (sp_Model_reg (sp_Model_field x0 15 5) h x) (sp_Model_field x0 20 5) 0) h ca x)
          (ca, tv, x_46)
        else
          if (sp_Model_field x0 25 7) = 32 then
            let x_58 := (sp_Model_setReg (sp_Model_field x0 7 5) (sp_Model_shifted (sp_Model_reg (sp_Model_field x0 15 5) h x) (sp_Model_field x0 20 5) 1) h ca x)
            (ca, tv, x_58)
          else
            let ca_49 := (sp_Model_trap 2 x0 ca tv).1
            let tv_49 := (sp_Model_trap 2 x0 ca tv).2
            (ca_49, tv_49, x)
      else
        let x_35 := (sp_Model_setReg (sp_Model_field x0 7 5) (sp_Model_plain (sp_Model_field x0 12 3) (sp_Model_reg (sp_Model_field x0 15 5) h x) (shr x0 20)) h ca x)
        (ca, tv, x_35)
  else
    if (sp_Model_field x0 12 3) = 1 then
      if (sp_Model_field x0 25 7) = 0 then
        let x_20 := (sp_Model_setReg (sp_Model_field x0 7 5) (shl (sp_Model_reg (sp_Model_field x0 15 5) h x) ((sp_Model_reg (sp_Model_field x0 20 5) h x) &&& 31)) h ca x)
        (ca, tv, x_20)
      else
        if (sp_Model_field x0 25 7) = 1 then
          let x_32 := (sp_Model_setReg (sp_Model_field x0 7 5) (sp_Model_product (sp_Model_field x0 12 3) (sp_Model_reg (sp_Model_field x0 15 5) h x) (sp_Model_reg (sp_Model_field x0 20 5) h x)) h ca x)
          (ca, tv, x_32)
        else
          if (sp_Model_field x0 25 7) = 32 then
            let ca_39 := (sp_Model_trap 2 x0 ca tv).1
            let tv_39 := (sp_Model_trap 2 x0 ca tv).2
            (ca_39, tv_39, x)
          else
            let ca_35 := (sp_Model_trap 2 x0 ca tv).1
            let tv_35 := (sp_Model_trap 2 x0 ca tv).2
            (ca_35, tv_35, x)
    else
      if (sp_Model_field x0 12 3) = 5 then
        if (sp_Model_field x0 25 7) = 0 then
          let x_98 := (sp_Model_setReg (sp_Model_field x0 7 5) (sp_Model_shifted (sp_Model_reg (sp_Model_field x0 15 5) h x) ((sp_Model_reg (sp_Model_field x0 20 5) h x) &&& 31) 0) h ca x)
          (ca, tv, x_98)
        else
          if (sp_Model_field x0 25 7) = 1 then
            let x_111 := (sp_Model_setReg (sp_Model_field x0 7 5) (sp_Model_quotient (sp_Model_field x0 12 3) (sp_Model_reg (sp_Model_field x0 15 5) h x) (sp_Model_reg (sp_Model_field x0 20 5) h x)) h ca x)
            (ca, tv, x_111)
          else
            if (sp_Model_field x0 25 7) = 32 then
              let x_127 := (sp_Model_setReg (sp_Model_field x0 7 5) (sp_Model_shifted (sp_Model_reg (sp_Model_field x0 15 5) h x) ((sp_Model_reg (sp_Model_field x0 20 5) h x) &&& 31) 1) h ca x)
              (ca, tv, x_127)
            else
              let ca_114 := (sp_Model_trap 2 x0 ca tv).1
              let tv_114 := (sp_Model_trap 2 x0 ca tv).2
              (ca_114, tv_114, x)
      else
        if (sp_Model_field x0 25 7) = 0 then
          let x_52 := (sp_Model_setReg (sp_Model_field x0 7 5) (sp_Model_plain (sp_Model_field x0 12 3) (sp_Model_reg (sp_Model_field x0 15 5) h x) (sp_Model_reg (sp_Model_field x0 20 5) h x)) h ca x)
          (ca, tv, x_52)
        else
          if (sp_Model_field x0 25 7) = 1 then
            if 4 ≤ (sp_Model_field x0 12 3) then
              let x_65 := (sp_Model_setReg (sp_Model_field x0 7 5) (sp_Model_quotient (sp_Model_field x0 12 3) (sp_Model_reg (sp_Model_field x0 15 5) h x) (sp_Model_reg (sp_Model_field x0 20 5) h x)) h ca x)
              (ca, tv, x_65)
            else
              let x_68 := (sp_Model_setReg (sp_Model_field x0 7 5) (sp_Model_product (sp_Model_field x0 12 3) (sp_Model_reg (sp_Model_field x0 15 5) h x) (sp_Model_reg (sp_Model_field x0 20 5) h x)) h ca x)
              (ca, tv, x_68)
          else
            if (sp_Model_field x0 25 7) = 32 then
              if (sp_Model_field x0 12 3) = 0 then
                let x_83 := (sp_Model_setReg (sp_Model_field x0 7 5) ((sp_Model_reg (sp_Model_field x0 15 5) h x) - (sp_Model_reg (sp_Model_field x0 20 5) h x)) h ca x)
                (ca, tv, x_83)
              else
                let ca_86 := (sp_Model_trap 2 x0 ca tv).1
                let tv_86 := (sp_Model_trap 2 x0 ca tv).2
                (ca_86, tv_86, x)
            else
              let ca_71 := (sp_Model_trap 2 x0 ca tv).1
              let tv_71 := (sp_Model_trap 2 x0 ca tv).2
              (ca_71, tv_71, x)
set_option maxHeartbeats 4000000 in
set_option maxRecDepth 100000 in
theorem c_Model_reckon {l : Launch} {D : va_G} {g : Nat → Nat} (a : Nat → Nat) (k : Nat → ClassId) (n : Nat) (x0 : Int32) (x1 : Int32) (h ca tv nx : Int32) (pcs lv cs x b cl : Nat → Int32) (cm : Nat → Int64) (so : Nat → Int32) (ti : Int64) (pu : Nat → Int32) (np : Int32) (hn : n ≤ 4096) (hh : h = 0 ∨ h = 1) (h2 : x1 = 0 ∨ x1 = 1) : CT l D g y_Model_reckon b_Model_reckon 11 none (rD 2) [.ref (a 0), .int x0, .int x1] (wR a k n h ca tv nx pcs lv cs x b cl cm so ti pu np) (tyR k) (Qv D (fun (u : Int32 × Int32 × (Nat → Int32)) => sp_Model_reckon x0 x1 h ca tv x = u) (fun u => wR a k n h u.1 u.2.1 nx pcs lv cs u.2.2 b cl cm so ti pu np)) := by
  rcases h2 with rfl | rfl
  · refine CT.of rfl (Nat.le_of_ble_eq_true rfl) (fun p e s m below meth c A ls hx hb hr hml hts hown hlocks hA hP hK hD hF hS hl => ?_)
    have hl : lv_has ls 11 [(0, .ref (a 0)), (1, .int x0), (2, .int 0)] := hl
    refine lv_aload_n hx hb d_Model_reckon_0 rfl (lv_at hl 0 rfl) ?_
    refine lv_iload_n hx hb d_Model_reckon_1 rfl (lv_at hl 1 rfl) ?_
    refine lv_bipush (v := 15) hx hb d_Model_reckon_2 rfl ?_
    refine lv_iconst (v := 5) hx hb d_Model_reckon_4 rfl ?_
    refine xi (wr := [((a 0), .inr (5, [.int (nI n), .ref (a 1), .ref (a 2), .ref (a 3), .ref (a 4), .ref (a 5), .ref (a 6), .ref (a 7), .ref (a 8), .long ti, .ref (a 9), .int np, .int h, .int ca, .int tv, .int nx])), ((a 1), .inl ((k 0), 16384, .inl b)), ((a 2), .inl ((k 1), 64, .inl x)), ((a 3), .inl ((k 2), 2, .inl pcs)), ((a 4), .inl ((k 3), 2, .inl lv)), ((a 5), .inl ((k 4), 8192, .inl cs)), ((a 6), .inl ((k 5), 2, .inl cl)), ((a 7), .inl ((k 6), 2, .inr (.inl cm))), ((a 8), .inl ((k 7), 2, .inl so)), ((a 9), .inl ((k 8), 256, .inl pu))]) (W2 := fun _ => wR a k n h ca tv nx pcs lv cs x b cl cm so ti pu np) (xS (rest := [.ref (a 0)]) ⟨hx, hb, hml, hown, hts⟩ (c_Model_field x0 15 5) mw_Model_field ms_Model_field k_787 ⟨rfl, rfl, Nat.le_of_ble_eq_true rfl, Nat.le_of_ble_eq_true rfl⟩ hK hP hD hS hA hF [] [] rfl rfl rfl rfl hl.1 rfl (Nat.le_of_ble_eq_true rfl) d_Model_reckon_5 ⟨Nat.zero_le _, Nat.zero_le _⟩) hP hD hS hA [] [0, 1, 2, 3, 4, 5, 6, 7, 8, 9] [0, 1, 2, 3, 4, 5, 6, 7, 8, 9] rfl rfl rfl (by decide) (fun _ => rfl) rfl (fun r_1 _ H locs h_1 hP hD hS => ?_)
    subst h_1
    refine xi (wr := []) (W2 := fun _ => wR a k n h ca tv nx pcs lv cs x b cl cm so ti pu np) (xV (rest := []) ⟨hx, hb, hml, hown, hts⟩ (c_Model_reg a k n (sp_Model_field x0 15 5) h ca tv nx pcs lv cs x b cl cm so ti pu np hn hh (vp_f5 _ _)) mw_Model_reg mv_Model_reg k_802 ⟨rfl, rfl, Nat.le_of_ble_eq_true rfl, Nat.le_of_ble_eq_true rfl⟩ hK hP hD hS hA hF [0, 1, 2, 3, 4, 5, 6, 7, 8, 9] [0, 1, 2, 3, 4, 5, 6, 7, 8] rfl rfl rfl 0 5 rfl rfl rfl rfl hl.1 rfl (Nat.le_of_ble_eq_true rfl) d_Model_reckon_8 ⟨Nat.zero_le _, Nat.zero_le _⟩) hP hD hS hA [0, 1, 2, 3, 4, 5, 6, 7, 8, 9] [] [0, 1, 2, 3, 4, 5, 6, 7, 8, 9] rfl rfl rfl (by decide) (fun _ => rfl) rfl (fun r_2 _ H locs h_2 hP hD hS => ?_)
    subst h_2
    refine lv_istore_n (lv' := [(3, .int (sp_Model_reg (sp_Model_field x0 15 5) h x)), (0, .ref (a 0)), (1, .int x0), (2, .int 0)]) hx hb d_Model_reckon_11 rfl hl (by decide) rfl (fun ls hl => ?_)
    refine lv_iload_n hx hb d_Model_reckon_12 rfl (lv_at hl 3 rfl) ?_
    refine lv_if_eq (tgt := 30) hx hb d_Model_reckon_13 (by decide) (fun _ => ?_) (fun h9 => absurd (by decide) h9)
    refine lv_iload_n hx hb d_Model_reckon_30 rfl (lv_at hl 2 rfl) ?_
    refine lv_bipush (v := 20) hx hb d_Model_reckon_31 rfl ?_
    refine y_ishr hx hb d_Model_reckon_33 ?_
    refine lv_istore (lv' := [(4, .int (shr x0 20)), (3, .int (sp_Model_reg (sp_Model_field x0 15 5) h x)), (0, .ref (a 0)), (1, .int x0), (2, .int 0)]) hx hb d_Model_reckon_34 hl (by decide) rfl (fun ls hl => ?_)
    refine lv_iload_n hx hb d_Model_reckon_36 rfl (lv_at hl 3 rfl) ?_
    refine lv_bipush (v := 12) hx hb d_Model_reckon_37 rfl ?_
    refine lv_iconst (v := 3) hx hb d_Model_reckon_39 rfl ?_
    refine xi (wr := [((a 0), .inr (5, [.int (nI n), .ref (a 1), .ref (a 2), .ref (a 3), .ref (a 4), .ref (a 5), .ref (a 6), .ref (a 7), .ref (a 8), .long ti, .ref (a 9), .int np, .int h, .int ca, .int tv, .int nx])), ((a 1), .inl ((k 0), 16384, .inl b)), ((a 2), .inl ((k 1), 64, .inl x)), ((a 3), .inl ((k 2), 2, .inl pcs)), ((a 4), .inl ((k 3), 2, .inl lv)), ((a 5), .inl ((k 4), 8192, .inl cs)), ((a 6), .inl ((k 5), 2, .inl cl)), ((a 7), .inl ((k 6), 2, .inr (.inl cm))), ((a 8), .inl ((k 7), 2, .inl so)), ((a 9), .inl ((k 8), 256, .inl pu))]) (W2 := fun _ => wR a k n h ca tv nx pcs lv cs x b cl cm so ti pu np) (xS (rest := []) ⟨hx, hb, hml, hown, hts⟩ (c_Model_field x0 12 3) mw_Model_field ms_Model_field k_787 ⟨rfl, rfl, Nat.le_of_ble_eq_true rfl, Nat.le_of_ble_eq_true rfl⟩ hK hP hD hS hA hF [] [] rfl rfl rfl rfl hl.1 rfl (Nat.le_of_ble_eq_true rfl) d_Model_reckon_40 ⟨Nat.zero_le _, Nat.zero_le _⟩) hP hD hS hA [] [0, 1, 2, 3, 4, 5, 6, 7, 8, 9] [0, 1, 2, 3, 4, 5, 6, 7, 8, 9] rfl rfl rfl (by decide) (fun _ => rfl) rfl (fun r_4 _ H locs h_4 hP hD hS => ?_)
    subst h_4
    refine lv_istore (lv' := [(5, .int (sp_Model_field x0 12 3)), (4, .int (shr x0 20)), (3, .int (sp_Model_reg (sp_Model_field x0 15 5) h x)), (0, .ref (a 0)), (1, .int x0), (2, .int 0)]) hx hb d_Model_reckon_43 hl (by decide) rfl (fun ls hl => ?_)
    refine lv_iload_n hx hb d_Model_reckon_45 rfl (lv_at hl 4 rfl) ?_
    refine lv_bipush (v := 25) hx hb d_Model_reckon_46 rfl ?_
    refine lv_bipush (v := 7) hx hb d_Model_reckon_48 rfl ?_
    refine xi (wr := [((a 0), .inr (5, [.int (nI n), .ref (a 1), .ref (a 2), .ref (a 3), .ref (a 4), .ref (a 5), .ref (a 6), .ref (a 7), .ref (a 8), .long ti, .ref (a 9), .int np, .int h, .int ca, .int tv, .int nx])), ((a 1), .inl ((k 0), 16384, .inl b)), ((a 2), .inl ((k 1), 64, .inl x)), ((a 3), .inl ((k 2), 2, .inl pcs)), ((a 4), .inl ((k 3), 2, .inl lv)), ((a 5), .inl ((k 4), 8192, .inl cs)), ((a 6), .inl ((k 5), 2, .inl cl)), ((a 7), .inl ((k 6), 2, .inr (.inl cm))), ((a 8), .inl ((k 7), 2, .inl so)), ((a 9), .inl ((k 8), 256, .inl pu))]) (W2 := fun _ => wR a k n h ca tv nx pcs lv cs x b cl cm so ti pu np) (xS (rest := []) ⟨hx, hb, hml, hown, hts⟩ (c_Model_field x0 25 7) mw_Model_field ms_Model_field k_787 ⟨rfl, rfl, Nat.le_of_ble_eq_true rfl, Nat.le_of_ble_eq_true rfl⟩ hK hP hD hS hA hF [] [] rfl rfl rfl rfl hl.1 rfl (Nat.le_of_ble_eq_true rfl) d_Model_reckon_50 ⟨Nat.zero_le _, Nat.zero_le _⟩) hP hD hS hA [] [0, 1, 2, 3, 4, 5, 6, 7, 8, 9] [0, 1, 2, 3, 4, 5, 6, 7, 8, 9] rfl rfl rfl (by decide) (fun _ => rfl) rfl (fun r_5 _ H locs h_5 hP hD hS => ?_)
    subst h_5
    refine lv_istore (lv' := [(6, .int (sp_Model_field x0 25 7)), (5, .int (sp_Model_field x0 12 3)), (4, .int (shr x0 20)), (3, .int (sp_Model_reg (sp_Model_field x0 15 5) h x)), (0, .ref (a 0)), (1, .int x0), (2, .int 0)]) hx hb d_Model_reckon_53 hl (by decide) rfl (fun ls hl => ?_)
    refine lv_iload_n hx hb d_Model_reckon_55 rfl (lv_at hl 6 rfl) ?_
    refine lv_if_eq (tgt := 67) hx hb d_Model_reckon_56 (by decide) (fun _ => ?_) (fun h9 => absurd (by decide) h9)
    refine lv_iload_n hx hb d_Model_reckon_67 rfl (lv_at hl 5 rfl) ?_
    refine lv_bipush (v := 20) hx hb d_Model_reckon_68 rfl ?_
    refine lv_iconst (v := 5) hx hb d_Model_reckon_70 rfl ?_
    refine xi (wr := [((a 0), .inr (5, [.int (nI n), .ref (a 1), .ref (a 2), .ref (a 3), .ref (a 4), .ref (a 5), .ref (a 6), .ref (a 7), .ref (a 8), .long ti, .ref (a 9), .int np, .int h, .int ca, .int tv, .int nx])), ((a 1), .inl ((k 0), 16384, .inl b)), ((a 2), .inl ((k 1), 64, .inl x)), ((a 3), .inl ((k 2), 2, .inl pcs)), ((a 4), .inl ((k 3), 2, .inl lv)), ((a 5), .inl ((k 4), 8192, .inl cs)), ((a 6), .inl ((k 5), 2, .inl cl)), ((a 7), .inl ((k 6), 2, .inr (.inl cm))), ((a 8), .inl ((k 7), 2, .inl so)), ((a 9), .inl ((k 8), 256, .inl pu))]) (W2 := fun _ => wR a k n h ca tv nx pcs lv cs x b cl cm so ti pu np) (xS (rest := []) ⟨hx, hb, hml, hown, hts⟩ (c_Model_field x0 20 5) mw_Model_field ms_Model_field k_787 ⟨rfl, rfl, Nat.le_of_ble_eq_true rfl, Nat.le_of_ble_eq_true rfl⟩ hK hP hD hS hA hF [] [] rfl rfl rfl rfl hl.1 rfl (Nat.le_of_ble_eq_true rfl) d_Model_reckon_71 ⟨Nat.zero_le _, Nat.zero_le _⟩) hP hD hS hA [] [0, 1, 2, 3, 4, 5, 6, 7, 8, 9] [0, 1, 2, 3, 4, 5, 6, 7, 8, 9] rfl rfl rfl (by decide) (fun _ => rfl) rfl (fun r_7 _ H locs h_7 hP hD hS => ?_)
    subst h_7
    refine lv_istore (lv' := [(7, .int (sp_Model_field x0 20 5)), (6, .int (sp_Model_field x0 25 7)), (5, .int (sp_Model_field x0 12 3)), (4, .int (shr x0 20)), (3, .int (sp_Model_reg (sp_Model_field x0 15 5) h x)), (0, .ref (a 0)), (1, .int x0), (2, .int 0)]) hx hb d_Model_reckon_74 hl (by decide) rfl (fun ls hl => ?_)
    refine lv_iload hx hb d_Model_reckon_76 (lv_at hl 2 rfl) ?_
    refine lv_iconst (v := 1) hx hb d_Model_reckon_78 rfl ?_
    refine lv_icmp_eq (tgt := 88) hx hb d_Model_reckon_79 (by decide) (fun c_8 => ?_) (fun c_8 => ?_)
    · refine lv_iconst (v := 1) hx hb d_Model_reckon_88 rfl ?_
      refine lv_goto (tgt := 93) hx hb d_Model_reckon_89 (by decide) ?_
      refine lv_istore (lv' := [(8, .int 1), (7, .int (sp_Model_field x0 20 5)), (6, .int (sp_Model_field x0 25 7)), (5, .int (sp_Model_field x0 12 3)), (4, .int (shr x0 20)), (3, .int (sp_Model_reg (sp_Model_field x0 15 5) h x)), (0, .ref (a 0)), (1, .int x0), (2, .int 0)]) hx hb d_Model_reckon_93 hl (by decide) rfl (fun ls hl => ?_)
      refine lv_iload_n hx hb d_Model_reckon_95 rfl (lv_at hl 8 rfl) ?_
      refine lv_if_eq (tgt := 136) hx hb d_Model_reckon_96 (by decide) (fun _ => ?_) (fun h9 => absurd (by decide) h9)
      refine lv_iload hx hb d_Model_reckon_136 (lv_at hl 0 rfl) ?_
      refine lv_if_eq (tgt := 159) hx hb d_Model_reckon_138 (by decide) (fun h9 => absurd h9 (by decide)) (fun _ => ?_)
      refine lv_iload hx hb d_Model_reckon_141 (lv_at hl 2 rfl) ?_
      refine lv_if_eq (tgt := 159) hx hb d_Model_reckon_143 (by decide) (fun c_11 => ?_) (fun c_11 => ?_)
      · refine lv_iconst (v := 1) hx hb d_Model_reckon_159 rfl ?_
        refine lv_goto (tgt := 164) hx hb d_Model_reckon_160 (by decide) ?_
        refine lv_istore (lv' := [(9, .int 1), (8, .int 1), (7, .int (sp_Model_field x0 20 5)), (6, .int (sp_Model_field x0 25 7)), (5, .int (sp_Model_field x0 12 3)), (4, .int (shr x0 20)), (3, .int (sp_Model_reg (sp_Model_field x0 15 5) h x)), (0, .ref (a 0)), (1, .int x0), (2, .int 0)]) hx hb d_Model_reckon_164 hl (by decide) rfl (fun ls hl => ?_)
        refine lv_iload hx hb d_Model_reckon_166 (lv_at hl 0 rfl) ?_
        refine lv_if_ne (tgt := 178) hx hb d_Model_reckon_168 (by decide) (fun _ => ?_) (fun h9 => absurd h9 (by decide))
        refine lv_iload hx hb d_Model_reckon_178 (lv_at hl 4 rfl) ?_
        refine lv_iconst (v := 5) hx hb d_Model_reckon_180 rfl ?_
        refine lv_icmp_ne (tgt := 205) hx hb d_Model_reckon_181 (by decide) (fun _ => ?_) (fun h9 => absurd h9 (by rw [c_8]; decide))
        refine lv_iload hx hb d_Model_reckon_205 (lv_at hl 4 rfl) ?_
        refine lv_iconst (v := 1) hx hb d_Model_reckon_207 rfl ?_
        refine lv_icmp_ne (tgt := 218) hx hb d_Model_reckon_208 (by decide) (fun h9 => absurd c_8 h9) (fun _ => ?_)
        refine lv_iload_n hx hb d_Model_reckon_211 rfl (lv_at hl 6 rfl) ?_
        refine lv_iload hx hb d_Model_reckon_212 (lv_at hl 2 rfl) ?_
        refine y_ishl hx hb d_Model_reckon_214 ?_
        refine lv_goto (tgt := 226) hx hb d_Model_reckon_215 (by decide) ?_
        refine lv_istore (lv' := [(10, .int (shl (sp_Model_reg (sp_Model_field x0 15 5) h x) (sp_Model_field x0 20 5))), (9, .int 1), (8, .int 1), (7, .int (sp_Model_field x0 20 5)), (6, .int (sp_Model_field x0 25 7)), (5, .int (sp_Model_field x0 12 3)), (4, .int (shr x0 20)), (3, .int (sp_Model_reg (sp_Model_field x0 15 5) h x)), (0, .ref (a 0)), (1, .int x0), (2, .int 0)]) hx hb d_Model_reckon_226 hl (by decide) rfl (fun ls hl => ?_)
        refine lv_iload_n hx hb d_Model_reckon_228 rfl (lv_at hl 10 rfl) ?_
        refine lv_if_eq (tgt := 250) hx hb d_Model_reckon_229 (by decide) (fun _ => ?_) (fun h9 => absurd (by decide) h9)
        refine lv_iload_n hx hb d_Model_reckon_250 rfl (lv_at hl 10 rfl) ?_
        refine lv_if_eq (tgt := 287) hx hb d_Model_reckon_251 (by decide) (fun _ => ?_) (fun h9 => absurd (by decide) h9)
        refine lv_aload_n hx hb d_Model_reckon_287 rfl (lv_at hl 8 rfl) ?_
        refine lv_iload_n hx hb d_Model_reckon_288 rfl (lv_at hl 9 rfl) ?_
        refine lv_bipush (v := 7) hx hb d_Model_reckon_289 rfl ?_
        refine lv_iconst (v := 5) hx hb d_Model_reckon_291 rfl ?_
        refine xi (wr := [((a 0), .inr (5, [.int (nI n), .ref (a 1), .ref (a 2), .ref (a 3), .ref (a 4), .ref (a 5), .ref (a 6), .ref (a 7), .ref (a 8), .long ti, .ref (a 9), .int np, .int h, .int ca, .int tv, .int nx])), ((a 1), .inl ((k 0), 16384, .inl b)), ((a 2), .inl ((k 1), 64, .inl x)), ((a 3), .inl ((k 2), 2, .inl pcs)), ((a 4), .inl ((k 3), 2, .inl lv)), ((a 5), .inl ((k 4), 8192, .inl cs)), ((a 6), .inl ((k 5), 2, .inl cl)), ((a 7), .inl ((k 6), 2, .inr (.inl cm))), ((a 8), .inl ((k 7), 2, .inl so)), ((a 9), .inl ((k 8), 256, .inl pu))]) (W2 := fun _ => wR a k n h ca tv nx pcs lv cs x b cl cm so ti pu np) (xS (rest := [.ref (a 0)]) ⟨hx, hb, hml, hown, hts⟩ (c_Model_field x0 7 5) mw_Model_field ms_Model_field k_787 ⟨rfl, rfl, Nat.le_of_ble_eq_true rfl, Nat.le_of_ble_eq_true rfl⟩ hK hP hD hS hA hF [] [] rfl rfl rfl rfl hl.1 rfl (Nat.le_of_ble_eq_true rfl) d_Model_reckon_292 ⟨Nat.zero_le _, Nat.zero_le _⟩) hP hD hS hA [] [0, 1, 2, 3, 4, 5, 6, 7, 8, 9] [0, 1, 2, 3, 4, 5, 6, 7, 8, 9] rfl rfl rfl (by decide) (fun _ => rfl) rfl (fun r_17 _ H locs h_17 hP hD hS => ?_)
        subst h_17
        refine lv_iload hx hb d_Model_reckon_295 (lv_at hl 0 rfl) ?_
        refine xv (wr := []) (W2 := fun u9 => wR a k n h ca tv nx pcs lv cs u9 b cl cm so ti pu np) (xV (rest := []) ⟨hx, hb, hml, hown, hts⟩ (c_Model_setReg a k n (sp_Model_field x0 7 5) (shl (sp_Model_reg (sp_Model_field x0 15 5) h x) (sp_Model_field x0 20 5)) h ca tv nx pcs lv cs x b cl cm so ti pu np hn hh (vp_f5 _ _)) mw_Model_setReg mv_Model_setReg k_790 ⟨rfl, rfl, Nat.le_of_ble_eq_true rfl, Nat.le_of_ble_eq_true rfl⟩ hK hP hD hS hA hF [0, 1, 2, 3, 4, 5, 6, 7, 8, 9] [0, 1, 2, 3, 4, 5, 6, 7, 8] rfl rfl rfl 0 5 rfl rfl rfl rfl hl.1 rfl (Nat.le_of_ble_eq_true rfl) d_Model_reckon_297 ⟨Nat.zero_le _, Nat.zero_le _⟩) hP hD hS hA [0, 1, 2, 3, 4, 5, 6, 7, 8, 9] [] [0, 1, 2, 3, 4, 5, 6, 7, 8, 9] rfl rfl rfl (by decide) (fun _ => rfl) rfl (fun u_18 H locs h_18 hP hD hS => ?_)
        obtain ⟨x_18, e_18⟩ : ∃ z, z = u_18 := ⟨_, rfl⟩
        subst e_18
        exact rv (ca, tv, x_18) hx hb hr hlocks hP hD hS d_Model_reckon_300 (by simp only [sp_Model_reckon, h_18, if_pos (rfl : (0 : Int32) = 0), if_pos c_8, if_pos c_11, if_true, if_false])
      · refine lv_iload hx hb d_Model_reckon_146 (lv_at hl 2 rfl) ?_
        refine lv_bipush (v := 32) hx hb d_Model_reckon_148 rfl ?_
        refine lv_icmp_ne (tgt := 163) hx hb d_Model_reckon_150 (by decide) (fun c_19 => ?_) (fun c_19 => ?_)
        · refine lv_iconst (v := 0) hx hb d_Model_reckon_163 rfl ?_
          refine lv_istore (lv' := [(9, .int 0), (8, .int 1), (7, .int (sp_Model_field x0 20 5)), (6, .int (sp_Model_field x0 25 7)), (5, .int (sp_Model_field x0 12 3)), (4, .int (shr x0 20)), (3, .int (sp_Model_reg (sp_Model_field x0 15 5) h x)), (0, .ref (a 0)), (1, .int x0), (2, .int 0)]) hx hb d_Model_reckon_164 hl (by decide) rfl (fun ls hl => ?_)
          refine lv_iload hx hb d_Model_reckon_166 (lv_at hl 0 rfl) ?_
          refine lv_if_ne (tgt := 178) hx hb d_Model_reckon_168 (by decide) (fun h9 => absurd (by decide) h9) (fun _ => ?_)
          refine lv_aload_n hx hb d_Model_reckon_171 rfl (lv_at hl 7 rfl) ?_
          refine lv_iconst (v := 2) hx hb d_Model_reckon_172 rfl ?_
          refine lv_iload_n hx hb d_Model_reckon_173 rfl (lv_at hl 8 rfl) ?_
          refine xv (wr := []) (W2 := fun u9 => wR a k n h u9.1 u9.2 nx pcs lv cs x b cl cm so ti pu np) (xV (rest := []) ⟨hx, hb, hml, hown, hts⟩ (c_Model_trap a k n 2 x0 h ca tv nx pcs lv cs x b cl cm so ti pu np hn) mw_Model_trap mv_Model_trap k_763 ⟨rfl, rfl, Nat.le_of_ble_eq_true rfl, Nat.le_of_ble_eq_true rfl⟩ hK hP hD hS hA hF [0, 1, 2, 3, 4, 5, 6, 7, 8, 9] [0, 1, 2, 3, 4, 5, 6, 7, 8] rfl rfl rfl 0 5 rfl rfl rfl rfl hl.1 rfl (Nat.le_of_ble_eq_true rfl) d_Model_reckon_174 ⟨Nat.zero_le _, Nat.zero_le _⟩) hP hD hS hA [0, 1, 2, 3, 4, 5, 6, 7, 8, 9] [] [0, 1, 2, 3, 4, 5, 6, 7, 8, 9] rfl rfl rfl (by decide) (fun _ => rfl) rfl (fun u_21 H locs h_21 hP hD hS => ?_)
          obtain ⟨ca_21, tv_21⟩ := u_21
          dsimp only at hP hD
          exact rv (ca_21, tv_21, x) hx hb hr hlocks hP hD hS d_Model_reckon_177 (by simp only [sp_Model_reckon, h_21, if_pos (rfl : (0 : Int32) = 0), if_pos c_8, if_neg c_11, if_neg c_19, if_true, if_false])
        · refine lv_iload hx hb d_Model_reckon_153 (lv_at hl 3 rfl) ?_
          refine lv_iconst (v := 5) hx hb d_Model_reckon_155 rfl ?_
          refine lv_icmp_ne (tgt := 163) hx hb d_Model_reckon_156 (by decide) (fun _ => ?_) (fun h9 => absurd h9 (by rw [c_8]; decide))
          refine lv_iconst (v := 0) hx hb d_Model_reckon_163 rfl ?_
          refine lv_istore (lv' := [(9, .int 0), (8, .int 1), (7, .int (sp_Model_field x0 20 5)), (6, .int (sp_Model_field x0 25 7)), (5, .int (sp_Model_field x0 12 3)), (4, .int (shr x0 20)), (3, .int (sp_Model_reg (sp_Model_field x0 15 5) h x)), (0, .ref (a 0)), (1, .int x0), (2, .int 0)]) hx hb d_Model_reckon_164 hl (by decide) rfl (fun ls hl => ?_)
          refine lv_iload hx hb d_Model_reckon_166 (lv_at hl 0 rfl) ?_
          refine lv_if_ne (tgt := 178) hx hb d_Model_reckon_168 (by decide) (fun h9 => absurd (by decide) h9) (fun _ => ?_)
          refine lv_aload_n hx hb d_Model_reckon_171 rfl (lv_at hl 7 rfl) ?_
          refine lv_iconst (v := 2) hx hb d_Model_reckon_172 rfl ?_
          refine lv_iload_n hx hb d_Model_reckon_173 rfl (lv_at hl 8 rfl) ?_
          refine xv (wr := []) (W2 := fun u9 => wR a k n h u9.1 u9.2 nx pcs lv cs x b cl cm so ti pu np) (xV (rest := []) ⟨hx, hb, hml, hown, hts⟩ (c_Model_trap a k n 2 x0 h ca tv nx pcs lv cs x b cl cm so ti pu np hn) mw_Model_trap mv_Model_trap k_763 ⟨rfl, rfl, Nat.le_of_ble_eq_true rfl, Nat.le_of_ble_eq_true rfl⟩ hK hP hD hS hA hF [0, 1, 2, 3, 4, 5, 6, 7, 8, 9] [0, 1, 2, 3, 4, 5, 6, 7, 8] rfl rfl rfl 0 5 rfl rfl rfl rfl hl.1 rfl (Nat.le_of_ble_eq_true rfl) d_Model_reckon_174 ⟨Nat.zero_le _, Nat.zero_le _⟩) hP hD hS hA [0, 1, 2, 3, 4, 5, 6, 7, 8, 9] [] [0, 1, 2, 3, 4, 5, 6, 7, 8, 9] rfl rfl rfl (by decide) (fun _ => rfl) rfl (fun u_24 H locs h_24 hP hD hS => ?_)
          obtain ⟨ca_24, tv_24⟩ := u_24
          dsimp only at hP hD
          exact rv (ca_24, tv_24, x) hx hb hr hlocks hP hD hS d_Model_reckon_177 (by simp only [sp_Model_reckon, h_24, if_pos (rfl : (0 : Int32) = 0), if_pos c_8, if_neg c_11, if_pos c_19, if_true, if_false])
    · refine lv_iload hx hb d_Model_reckon_82 (lv_at hl 2 rfl) ?_
      refine lv_iconst (v := 5) hx hb d_Model_reckon_84 rfl ?_
      refine lv_icmp_ne (tgt := 92) hx hb d_Model_reckon_85 (by decide) (fun c_25 => ?_) (fun c_25 => ?_)
      · refine lv_iconst (v := 0) hx hb d_Model_reckon_92 rfl ?_
        refine lv_istore (lv' := [(8, .int 0), (7, .int (sp_Model_field x0 20 5)), (6, .int (sp_Model_field x0 25 7)), (5, .int (sp_Model_field x0 12 3)), (4, .int (shr x0 20)), (3, .int (sp_Model_reg (sp_Model_field x0 15 5) h x)), (0, .ref (a 0)), (1, .int x0), (2, .int 0)]) hx hb d_Model_reckon_93 hl (by decide) rfl (fun ls hl => ?_)
        refine lv_iload_n hx hb d_Model_reckon_95 rfl (lv_at hl 8 rfl) ?_
        refine lv_if_eq (tgt := 136) hx hb d_Model_reckon_96 (by decide) (fun _ => ?_) (fun h9 => absurd (by decide) h9)
        refine lv_iload hx hb d_Model_reckon_136 (lv_at hl 0 rfl) ?_
        refine lv_if_eq (tgt := 159) hx hb d_Model_reckon_138 (by decide) (fun _ => ?_) (fun h9 => absurd (by decide) h9)
        refine lv_iconst (v := 1) hx hb d_Model_reckon_159 rfl ?_
        refine lv_goto (tgt := 164) hx hb d_Model_reckon_160 (by decide) ?_
        refine lv_istore (lv' := [(9, .int 1), (8, .int 0), (7, .int (sp_Model_field x0 20 5)), (6, .int (sp_Model_field x0 25 7)), (5, .int (sp_Model_field x0 12 3)), (4, .int (shr x0 20)), (3, .int (sp_Model_reg (sp_Model_field x0 15 5) h x)), (0, .ref (a 0)), (1, .int x0), (2, .int 0)]) hx hb d_Model_reckon_164 hl (by decide) rfl (fun ls hl => ?_)
        refine lv_iload hx hb d_Model_reckon_166 (lv_at hl 0 rfl) ?_
        refine lv_if_ne (tgt := 178) hx hb d_Model_reckon_168 (by decide) (fun _ => ?_) (fun h9 => absurd h9 (by decide))
        refine lv_iload hx hb d_Model_reckon_178 (lv_at hl 4 rfl) ?_
        refine lv_iconst (v := 5) hx hb d_Model_reckon_180 rfl ?_
        refine lv_icmp_ne (tgt := 205) hx hb d_Model_reckon_181 (by decide) (fun _ => ?_) (fun h9 => absurd h9 c_25)
        refine lv_iload hx hb d_Model_reckon_205 (lv_at hl 4 rfl) ?_
        refine lv_iconst (v := 1) hx hb d_Model_reckon_207 rfl ?_
        refine lv_icmp_ne (tgt := 218) hx hb d_Model_reckon_208 (by decide) (fun _ => ?_) (fun h9 => absurd h9 c_8)
        refine lv_iload hx hb d_Model_reckon_218 (lv_at hl 4 rfl) ?_
        refine lv_iload_n hx hb d_Model_reckon_220 rfl (lv_at hl 6 rfl) ?_
        refine lv_iload hx hb d_Model_reckon_221 (lv_at hl 5 rfl) ?_
        refine xi (wr := [((a 0), .inr (5, [.int (nI n), .ref (a 1), .ref (a 2), .ref (a 3), .ref (a 4), .ref (a 5), .ref (a 6), .ref (a 7), .ref (a 8), .long ti, .ref (a 9), .int np, .int h, .int ca, .int tv, .int nx])), ((a 1), .inl ((k 0), 16384, .inl b)), ((a 2), .inl ((k 1), 64, .inl x)), ((a 3), .inl ((k 2), 2, .inl pcs)), ((a 4), .inl ((k 3), 2, .inl lv)), ((a 5), .inl ((k 4), 8192, .inl cs)), ((a 6), .inl ((k 5), 2, .inl cl)), ((a 7), .inl ((k 6), 2, .inr (.inl cm))), ((a 8), .inl ((k 7), 2, .inl so)), ((a 9), .inl ((k 8), 256, .inl pu))]) (W2 := fun _ => wR a k n h ca tv nx pcs lv cs x b cl cm so ti pu np) (xS (rest := []) ⟨hx, hb, hml, hown, hts⟩ (c_Model_plain (sp_Model_field x0 12 3) (sp_Model_reg (sp_Model_field x0 15 5) h x) (shr x0 20)) mw_Model_plain ms_Model_plain k_859 ⟨rfl, rfl, Nat.le_of_ble_eq_true rfl, Nat.le_of_ble_eq_true rfl⟩ hK hP hD hS hA hF [] [] rfl rfl rfl rfl hl.1 rfl (Nat.le_of_ble_eq_true rfl) d_Model_reckon_223 ⟨Nat.zero_le _, Nat.zero_le _⟩) hP hD hS hA [] [0, 1, 2, 3, 4, 5, 6, 7, 8, 9] [0, 1, 2, 3, 4, 5, 6, 7, 8, 9] rfl rfl rfl (by decide) (fun _ => rfl) rfl (fun r_31 _ H locs h_31 hP hD hS => ?_)
        subst h_31
        refine lv_istore (lv' := [(10, .int (sp_Model_plain (sp_Model_field x0 12 3) (sp_Model_reg (sp_Model_field x0 15 5) h x) (shr x0 20))), (9, .int 1), (8, .int 0), (7, .int (sp_Model_field x0 20 5)), (6, .int (sp_Model_field x0 25 7)), (5, .int (sp_Model_field x0 12 3)), (4, .int (shr x0 20)), (3, .int (sp_Model_reg (sp_Model_field x0 15 5) h x)), (0, .ref (a 0)), (1, .int x0), (2, .int 0)]) hx hb d_Model_reckon_226 hl (by decide) rfl (fun ls hl => ?_)
        refine lv_iload_n hx hb d_Model_reckon_228 rfl (lv_at hl 10 rfl) ?_
        refine lv_if_eq (tgt := 250) hx hb d_Model_reckon_229 (by decide) (fun _ => ?_) (fun h9 => absurd (by decide) h9)
        refine lv_iload_n hx hb d_Model_reckon_250 rfl (lv_at hl 10 rfl) ?_
        refine lv_if_eq (tgt := 287) hx hb d_Model_reckon_251 (by decide) (fun _ => ?_) (fun h9 => absurd (by decide) h9)
        refine lv_aload_n hx hb d_Model_reckon_287 rfl (lv_at hl 8 rfl) ?_
        refine lv_iload_n hx hb d_Model_reckon_288 rfl (lv_at hl 9 rfl) ?_
        refine lv_bipush (v := 7) hx hb d_Model_reckon_289 rfl ?_
        refine lv_iconst (v := 5) hx hb d_Model_reckon_291 rfl ?_
        refine xi (wr := [((a 0), .inr (5, [.int (nI n), .ref (a 1), .ref (a 2), .ref (a 3), .ref (a 4), .ref (a 5), .ref (a 6), .ref (a 7), .ref (a 8), .long ti, .ref (a 9), .int np, .int h, .int ca, .int tv, .int nx])), ((a 1), .inl ((k 0), 16384, .inl b)), ((a 2), .inl ((k 1), 64, .inl x)), ((a 3), .inl ((k 2), 2, .inl pcs)), ((a 4), .inl ((k 3), 2, .inl lv)), ((a 5), .inl ((k 4), 8192, .inl cs)), ((a 6), .inl ((k 5), 2, .inl cl)), ((a 7), .inl ((k 6), 2, .inr (.inl cm))), ((a 8), .inl ((k 7), 2, .inl so)), ((a 9), .inl ((k 8), 256, .inl pu))]) (W2 := fun _ => wR a k n h ca tv nx pcs lv cs x b cl cm so ti pu np) (xS (rest := [.ref (a 0)]) ⟨hx, hb, hml, hown, hts⟩ (c_Model_field x0 7 5) mw_Model_field ms_Model_field k_787 ⟨rfl, rfl, Nat.le_of_ble_eq_true rfl, Nat.le_of_ble_eq_true rfl⟩ hK hP hD hS hA hF [] [] rfl rfl rfl rfl hl.1 rfl (Nat.le_of_ble_eq_true rfl) d_Model_reckon_292 ⟨Nat.zero_le _, Nat.zero_le _⟩) hP hD hS hA [] [0, 1, 2, 3, 4, 5, 6, 7, 8, 9] [0, 1, 2, 3, 4, 5, 6, 7, 8, 9] rfl rfl rfl (by decide) (fun _ => rfl) rfl (fun r_34 _ H locs h_34 hP hD hS => ?_)
        subst h_34
        refine lv_iload hx hb d_Model_reckon_295 (lv_at hl 0 rfl) ?_
        refine xv (wr := []) (W2 := fun u9 => wR a k n h ca tv nx pcs lv cs u9 b cl cm so ti pu np) (xV (rest := []) ⟨hx, hb, hml, hown, hts⟩ (c_Model_setReg a k n (sp_Model_field x0 7 5) (sp_Model_plain (sp_Model_field x0 12 3) (sp_Model_reg (sp_Model_field x0 15 5) h x) (shr x0 20)) h ca tv nx pcs lv cs x b cl cm so ti pu np hn hh (vp_f5 _ _)) mw_Model_setReg mv_Model_setReg k_790 ⟨rfl, rfl, Nat.le_of_ble_eq_true rfl, Nat.le_of_ble_eq_true rfl⟩ hK hP hD hS hA hF [0, 1, 2, 3, 4, 5, 6, 7, 8, 9] [0, 1, 2, 3, 4, 5, 6, 7, 8] rfl rfl rfl 0 5 rfl rfl rfl rfl hl.1 rfl (Nat.le_of_ble_eq_true rfl) d_Model_reckon_297 ⟨Nat.zero_le _, Nat.zero_le _⟩) hP hD hS hA [0, 1, 2, 3, 4, 5, 6, 7, 8, 9] [] [0, 1, 2, 3, 4, 5, 6, 7, 8, 9] rfl rfl rfl (by decide) (fun _ => rfl) rfl (fun u_35 H locs h_35 hP hD hS => ?_)
        obtain ⟨x_35, e_35⟩ : ∃ z, z = u_35 := ⟨_, rfl⟩
        subst e_35
        exact rv (ca, tv, x_35) hx hb hr hlocks hP hD hS d_Model_reckon_300 (by simp only [sp_Model_reckon, h_35, if_pos (rfl : (0 : Int32) = 0), if_neg c_8, if_neg c_25, if_true, if_false])
      · refine lv_iconst (v := 1) hx hb d_Model_reckon_88 rfl ?_
        refine lv_goto (tgt := 93) hx hb d_Model_reckon_89 (by decide) ?_
        refine lv_istore (lv' := [(8, .int 1), (7, .int (sp_Model_field x0 20 5)), (6, .int (sp_Model_field x0 25 7)), (5, .int (sp_Model_field x0 12 3)), (4, .int (shr x0 20)), (3, .int (sp_Model_reg (sp_Model_field x0 15 5) h x)), (0, .ref (a 0)), (1, .int x0), (2, .int 0)]) hx hb d_Model_reckon_93 hl (by decide) rfl (fun ls hl => ?_)
        refine lv_iload_n hx hb d_Model_reckon_95 rfl (lv_at hl 8 rfl) ?_
        refine lv_if_eq (tgt := 136) hx hb d_Model_reckon_96 (by decide) (fun _ => ?_) (fun h9 => absurd (by decide) h9)
        refine lv_iload hx hb d_Model_reckon_136 (lv_at hl 0 rfl) ?_
        refine lv_if_eq (tgt := 159) hx hb d_Model_reckon_138 (by decide) (fun h9 => absurd h9 (by decide)) (fun _ => ?_)
        refine lv_iload hx hb d_Model_reckon_141 (lv_at hl 2 rfl) ?_
        refine lv_if_eq (tgt := 159) hx hb d_Model_reckon_143 (by decide) (fun c_38 => ?_) (fun c_38 => ?_)
        · refine lv_iconst (v := 1) hx hb d_Model_reckon_159 rfl ?_
          refine lv_goto (tgt := 164) hx hb d_Model_reckon_160 (by decide) ?_
          refine lv_istore (lv' := [(9, .int 1), (8, .int 1), (7, .int (sp_Model_field x0 20 5)), (6, .int (sp_Model_field x0 25 7)), (5, .int (sp_Model_field x0 12 3)), (4, .int (shr x0 20)), (3, .int (sp_Model_reg (sp_Model_field x0 15 5) h x)), (0, .ref (a 0)), (1, .int x0), (2, .int 0)]) hx hb d_Model_reckon_164 hl (by decide) rfl (fun ls hl => ?_)
          refine lv_iload hx hb d_Model_reckon_166 (lv_at hl 0 rfl) ?_
          refine lv_if_ne (tgt := 178) hx hb d_Model_reckon_168 (by decide) (fun _ => ?_) (fun h9 => absurd h9 (by decide))
          refine lv_iload hx hb d_Model_reckon_178 (lv_at hl 4 rfl) ?_
          refine lv_iconst (v := 5) hx hb d_Model_reckon_180 rfl ?_
          refine lv_icmp_ne (tgt := 205) hx hb d_Model_reckon_181 (by decide) (fun h9 => absurd c_25 h9) (fun _ => ?_)
          refine lv_iload_n hx hb d_Model_reckon_184 rfl (lv_at hl 6 rfl) ?_
          refine lv_iload hx hb d_Model_reckon_185 (lv_at hl 2 rfl) ?_
          refine lv_iload hx hb d_Model_reckon_187 (lv_at hl 3 rfl) ?_
          refine lv_bipush (v := 32) hx hb d_Model_reckon_189 rfl ?_
          refine lv_icmp_ne (tgt := 198) hx hb d_Model_reckon_191 (by decide) (fun _ => ?_) (fun h9 => absurd h9 (by rw [c_38]; decide))
          refine lv_iconst (v := 0) hx hb d_Model_reckon_198 rfl ?_
          refine xi (wr := [((a 0), .inr (5, [.int (nI n), .ref (a 1), .ref (a 2), .ref (a 3), .ref (a 4), .ref (a 5), .ref (a 6), .ref (a 7), .ref (a 8), .long ti, .ref (a 9), .int np, .int h, .int ca, .int tv, .int nx])), ((a 1), .inl ((k 0), 16384, .inl b)), ((a 2), .inl ((k 1), 64, .inl x)), ((a 3), .inl ((k 2), 2, .inl pcs)), ((a 4), .inl ((k 3), 2, .inl lv)), ((a 5), .inl ((k 4), 8192, .inl cs)), ((a 6), .inl ((k 5), 2, .inl cl)), ((a 7), .inl ((k 6), 2, .inr (.inl cm))), ((a 8), .inl ((k 7), 2, .inl so)), ((a 9), .inl ((k 8), 256, .inl pu))]) (W2 := fun _ => wR a k n h ca tv nx pcs lv cs x b cl cm so ti pu np) (xS (rest := []) ⟨hx, hb, hml, hown, hts⟩ (c_Model_shifted (sp_Model_reg (sp_Model_field x0 15 5) h x) (sp_Model_field x0 20 5) 0) mw_Model_shifted ms_Model_shifted k_856 ⟨rfl, rfl, Nat.le_of_ble_eq_true rfl, Nat.le_of_ble_eq_true rfl⟩ hK hP hD hS hA hF [] [] rfl rfl rfl rfl hl.1 rfl (Nat.le_of_ble_eq_true rfl) d_Model_reckon_199 ⟨Nat.zero_le _, Nat.zero_le _⟩) hP hD hS hA [] [0, 1, 2, 3, 4, 5, 6, 7, 8, 9] [0, 1, 2, 3, 4, 5, 6, 7, 8, 9] rfl rfl rfl (by decide) (fun _ => rfl) rfl (fun r_42 _ H locs h_42 hP hD hS => ?_)
          subst h_42
          refine lv_goto (tgt := 226) hx hb d_Model_reckon_202 (by decide) ?_
          refine lv_istore (lv' := [(10, .int (sp_Model_shifted (sp_Model_reg (sp_Model_field x0 15 5) h x) (sp_Model_field x0 20 5) 0)), (9, .int 1), (8, .int 1), (7, .int (sp_Model_field x0 20 5)), (6, .int (sp_Model_field x0 25 7)), (5, .int (sp_Model_field x0 12 3)), (4, .int (shr x0 20)), (3, .int (sp_Model_reg (sp_Model_field x0 15 5) h x)), (0, .ref (a 0)), (1, .int x0), (2, .int 0)]) hx hb d_Model_reckon_226 hl (by decide) rfl (fun ls hl => ?_)
          refine lv_iload_n hx hb d_Model_reckon_228 rfl (lv_at hl 10 rfl) ?_
          refine lv_if_eq (tgt := 250) hx hb d_Model_reckon_229 (by decide) (fun _ => ?_) (fun h9 => absurd (by decide) h9)
          refine lv_iload_n hx hb d_Model_reckon_250 rfl (lv_at hl 10 rfl) ?_
          refine lv_if_eq (tgt := 287) hx hb d_Model_reckon_251 (by decide) (fun _ => ?_) (fun h9 => absurd (by decide) h9)
          refine lv_aload_n hx hb d_Model_reckon_287 rfl (lv_at hl 8 rfl) ?_
          refine lv_iload_n hx hb d_Model_reckon_288 rfl (lv_at hl 9 rfl) ?_
          refine lv_bipush (v := 7) hx hb d_Model_reckon_289 rfl ?_
          refine lv_iconst (v := 5) hx hb d_Model_reckon_291 rfl ?_
          refine xi (wr := [((a 0), .inr (5, [.int (nI n), .ref (a 1), .ref (a 2), .ref (a 3), .ref (a 4), .ref (a 5), .ref (a 6), .ref (a 7), .ref (a 8), .long ti, .ref (a 9), .int np, .int h, .int ca, .int tv, .int nx])), ((a 1), .inl ((k 0), 16384, .inl b)), ((a 2), .inl ((k 1), 64, .inl x)), ((a 3), .inl ((k 2), 2, .inl pcs)), ((a 4), .inl ((k 3), 2, .inl lv)), ((a 5), .inl ((k 4), 8192, .inl cs)), ((a 6), .inl ((k 5), 2, .inl cl)), ((a 7), .inl ((k 6), 2, .inr (.inl cm))), ((a 8), .inl ((k 7), 2, .inl so)), ((a 9), .inl ((k 8), 256, .inl pu))]) (W2 := fun _ => wR a k n h ca tv nx pcs lv cs x b cl cm so ti pu np) (xS (rest := [.ref (a 0)]) ⟨hx, hb, hml, hown, hts⟩ (c_Model_field x0 7 5) mw_Model_field ms_Model_field k_787 ⟨rfl, rfl, Nat.le_of_ble_eq_true rfl, Nat.le_of_ble_eq_true rfl⟩ hK hP hD hS hA hF [] [] rfl rfl rfl rfl hl.1 rfl (Nat.le_of_ble_eq_true rfl) d_Model_reckon_292 ⟨Nat.zero_le _, Nat.zero_le _⟩) hP hD hS hA [] [0, 1, 2, 3, 4, 5, 6, 7, 8, 9] [0, 1, 2, 3, 4, 5, 6, 7, 8, 9] rfl rfl rfl (by decide) (fun _ => rfl) rfl (fun r_45 _ H locs h_45 hP hD hS => ?_)
          subst h_45
          refine lv_iload hx hb d_Model_reckon_295 (lv_at hl 0 rfl) ?_
          refine xv (wr := []) (W2 := fun u9 => wR a k n h ca tv nx pcs lv cs u9 b cl cm so ti pu np) (xV (rest := []) ⟨hx, hb, hml, hown, hts⟩ (c_Model_setReg a k n (sp_Model_field x0 7 5) (sp_Model_shifted (sp_Model_reg (sp_Model_field x0 15 5) h x) (sp_Model_field x0 20 5) 0) h ca tv nx pcs lv cs x b cl cm so ti pu np hn hh (vp_f5 _ _)) mw_Model_setReg mv_Model_setReg k_790 ⟨rfl, rfl, Nat.le_of_ble_eq_true rfl, Nat.le_of_ble_eq_true rfl⟩ hK hP hD hS hA hF [0, 1, 2, 3, 4, 5, 6, 7, 8, 9] [0, 1, 2, 3, 4, 5, 6, 7, 8] rfl rfl rfl 0 5 rfl rfl rfl rfl hl.1 rfl (Nat.le_of_ble_eq_true rfl) d_Model_reckon_297 ⟨Nat.zero_le _, Nat.zero_le _⟩) hP hD hS hA [0, 1, 2, 3, 4, 5, 6, 7, 8, 9] [] [0, 1, 2, 3, 4, 5, 6, 7, 8, 9] rfl rfl rfl (by decide) (fun _ => rfl) rfl (fun u_46 H locs h_46 hP hD hS => ?_)
          obtain ⟨x_46, e_46⟩ : ∃ z, z = u_46 := ⟨_, rfl⟩
          subst e_46
          exact rv (ca, tv, x_46) hx hb hr hlocks hP hD hS d_Model_reckon_300 (by simp only [sp_Model_reckon, h_46, if_pos (rfl : (0 : Int32) = 0), if_neg c_8, if_pos c_25, if_pos c_38, if_true, if_false])
        · refine lv_iload hx hb d_Model_reckon_146 (lv_at hl 2 rfl) ?_
          refine lv_bipush (v := 32) hx hb d_Model_reckon_148 rfl ?_
          refine lv_icmp_ne (tgt := 163) hx hb d_Model_reckon_150 (by decide) (fun c_47 => ?_) (fun c_47 => ?_)
          · refine lv_iconst (v := 0) hx hb d_Model_reckon_163 rfl ?_
            refine lv_istore (lv' := [(9, .int 0), (8, .int 1), (7, .int (sp_Model_field x0 20 5)), (6, .int (sp_Model_field x0 25 7)), (5, .int (sp_Model_field x0 12 3)), (4, .int (shr x0 20)), (3, .int (sp_Model_reg (sp_Model_field x0 15 5) h x)), (0, .ref (a 0)), (1, .int x0), (2, .int 0)]) hx hb d_Model_reckon_164 hl (by decide) rfl (fun ls hl => ?_)
            refine lv_iload hx hb d_Model_reckon_166 (lv_at hl 0 rfl) ?_
            refine lv_if_ne (tgt := 178) hx hb d_Model_reckon_168 (by decide) (fun h9 => absurd (by decide) h9) (fun _ => ?_)
            refine lv_aload_n hx hb d_Model_reckon_171 rfl (lv_at hl 7 rfl) ?_
            refine lv_iconst (v := 2) hx hb d_Model_reckon_172 rfl ?_
            refine lv_iload_n hx hb d_Model_reckon_173 rfl (lv_at hl 8 rfl) ?_
            refine xv (wr := []) (W2 := fun u9 => wR a k n h u9.1 u9.2 nx pcs lv cs x b cl cm so ti pu np) (xV (rest := []) ⟨hx, hb, hml, hown, hts⟩ (c_Model_trap a k n 2 x0 h ca tv nx pcs lv cs x b cl cm so ti pu np hn) mw_Model_trap mv_Model_trap k_763 ⟨rfl, rfl, Nat.le_of_ble_eq_true rfl, Nat.le_of_ble_eq_true rfl⟩ hK hP hD hS hA hF [0, 1, 2, 3, 4, 5, 6, 7, 8, 9] [0, 1, 2, 3, 4, 5, 6, 7, 8] rfl rfl rfl 0 5 rfl rfl rfl rfl hl.1 rfl (Nat.le_of_ble_eq_true rfl) d_Model_reckon_174 ⟨Nat.zero_le _, Nat.zero_le _⟩) hP hD hS hA [0, 1, 2, 3, 4, 5, 6, 7, 8, 9] [] [0, 1, 2, 3, 4, 5, 6, 7, 8, 9] rfl rfl rfl (by decide) (fun _ => rfl) rfl (fun u_49 H locs h_49 hP hD hS => ?_)
            obtain ⟨ca_49, tv_49⟩ := u_49
            dsimp only at hP hD
            exact rv (ca_49, tv_49, x) hx hb hr hlocks hP hD hS d_Model_reckon_177 (by simp only [sp_Model_reckon, h_49, if_pos (rfl : (0 : Int32) = 0), if_neg c_8, if_pos c_25, if_neg c_38, if_neg c_47, if_true, if_false])
          · refine lv_iload hx hb d_Model_reckon_153 (lv_at hl 3 rfl) ?_
            refine lv_iconst (v := 5) hx hb d_Model_reckon_155 rfl ?_
            refine lv_icmp_ne (tgt := 163) hx hb d_Model_reckon_156 (by decide) (fun h9 => absurd c_25 h9) (fun _ => ?_)
            refine lv_iconst (v := 1) hx hb d_Model_reckon_159 rfl ?_
            refine lv_goto (tgt := 164) hx hb d_Model_reckon_160 (by decide) ?_
            refine lv_istore (lv' := [(9, .int 1), (8, .int 1), (7, .int (sp_Model_field x0 20 5)), (6, .int (sp_Model_field x0 25 7)), (5, .int (sp_Model_field x0 12 3)), (4, .int (shr x0 20)), (3, .int (sp_Model_reg (sp_Model_field x0 15 5) h x)), (0, .ref (a 0)), (1, .int x0), (2, .int 0)]) hx hb d_Model_reckon_164 hl (by decide) rfl (fun ls hl => ?_)
            refine lv_iload hx hb d_Model_reckon_166 (lv_at hl 0 rfl) ?_
            refine lv_if_ne (tgt := 178) hx hb d_Model_reckon_168 (by decide) (fun _ => ?_) (fun h9 => absurd h9 (by decide))
            refine lv_iload hx hb d_Model_reckon_178 (lv_at hl 4 rfl) ?_
            refine lv_iconst (v := 5) hx hb d_Model_reckon_180 rfl ?_
            refine lv_icmp_ne (tgt := 205) hx hb d_Model_reckon_181 (by decide) (fun h9 => absurd c_25 h9) (fun _ => ?_)
            refine lv_iload_n hx hb d_Model_reckon_184 rfl (lv_at hl 6 rfl) ?_
            refine lv_iload hx hb d_Model_reckon_185 (lv_at hl 2 rfl) ?_
            refine lv_iload hx hb d_Model_reckon_187 (lv_at hl 3 rfl) ?_
            refine lv_bipush (v := 32) hx hb d_Model_reckon_189 rfl ?_
            refine lv_icmp_ne (tgt := 198) hx hb d_Model_reckon_191 (by decide) (fun h9 => absurd c_47 h9) (fun _ => ?_)
            refine lv_iconst (v := 1) hx hb d_Model_reckon_194 rfl ?_
            refine lv_goto (tgt := 199) hx hb d_Model_reckon_195 (by decide) ?_
            refine xi (wr := [((a 0), .inr (5, [.int (nI n), .ref (a 1), .ref (a 2), .ref (a 3), .ref (a 4), .ref (a 5), .ref (a 6), .ref (a 7), .ref (a 8), .long ti, .ref (a 9), .int np, .int h, .int ca, .int tv, .int nx])), ((a 1), .inl ((k 0), 16384, .inl b)), ((a 2), .inl ((k 1), 64, .inl x)), ((a 3), .inl ((k 2), 2, .inl pcs)), ((a 4), .inl ((k 3), 2, .inl lv)), ((a 5), .inl ((k 4), 8192, .inl cs)), ((a 6), .inl ((k 5), 2, .inl cl)), ((a 7), .inl ((k 6), 2, .inr (.inl cm))), ((a 8), .inl ((k 7), 2, .inl so)), ((a 9), .inl ((k 8), 256, .inl pu))]) (W2 := fun _ => wR a k n h ca tv nx pcs lv cs x b cl cm so ti pu np) (xS (rest := []) ⟨hx, hb, hml, hown, hts⟩ (c_Model_shifted (sp_Model_reg (sp_Model_field x0 15 5) h x) (sp_Model_field x0 20 5) 1) mw_Model_shifted ms_Model_shifted k_856 ⟨rfl, rfl, Nat.le_of_ble_eq_true rfl, Nat.le_of_ble_eq_true rfl⟩ hK hP hD hS hA hF [] [] rfl rfl rfl rfl hl.1 rfl (Nat.le_of_ble_eq_true rfl) d_Model_reckon_199 ⟨Nat.zero_le _, Nat.zero_le _⟩) hP hD hS hA [] [0, 1, 2, 3, 4, 5, 6, 7, 8, 9] [0, 1, 2, 3, 4, 5, 6, 7, 8, 9] rfl rfl rfl (by decide) (fun _ => rfl) rfl (fun r_54 _ H locs h_54 hP hD hS => ?_)
            subst h_54
            refine lv_goto (tgt := 226) hx hb d_Model_reckon_202 (by decide) ?_
            refine lv_istore (lv' := [(10, .int (sp_Model_shifted (sp_Model_reg (sp_Model_field x0 15 5) h x) (sp_Model_field x0 20 5) 1)), (9, .int 1), (8, .int 1), (7, .int (sp_Model_field x0 20 5)), (6, .int (sp_Model_field x0 25 7)), (5, .int (sp_Model_field x0 12 3)), (4, .int (shr x0 20)), (3, .int (sp_Model_reg (sp_Model_field x0 15 5) h x)), (0, .ref (a 0)), (1, .int x0), (2, .int 0)]) hx hb d_Model_reckon_226 hl (by decide) rfl (fun ls hl => ?_)
            refine lv_iload_n hx hb d_Model_reckon_228 rfl (lv_at hl 10 rfl) ?_
            refine lv_if_eq (tgt := 250) hx hb d_Model_reckon_229 (by decide) (fun _ => ?_) (fun h9 => absurd (by decide) h9)
            refine lv_iload_n hx hb d_Model_reckon_250 rfl (lv_at hl 10 rfl) ?_
            refine lv_if_eq (tgt := 287) hx hb d_Model_reckon_251 (by decide) (fun _ => ?_) (fun h9 => absurd (by decide) h9)
            refine lv_aload_n hx hb d_Model_reckon_287 rfl (lv_at hl 8 rfl) ?_
            refine lv_iload_n hx hb d_Model_reckon_288 rfl (lv_at hl 9 rfl) ?_
            refine lv_bipush (v := 7) hx hb d_Model_reckon_289 rfl ?_
            refine lv_iconst (v := 5) hx hb d_Model_reckon_291 rfl ?_
            refine xi (wr := [((a 0), .inr (5, [.int (nI n), .ref (a 1), .ref (a 2), .ref (a 3), .ref (a 4), .ref (a 5), .ref (a 6), .ref (a 7), .ref (a 8), .long ti, .ref (a 9), .int np, .int h, .int ca, .int tv, .int nx])), ((a 1), .inl ((k 0), 16384, .inl b)), ((a 2), .inl ((k 1), 64, .inl x)), ((a 3), .inl ((k 2), 2, .inl pcs)), ((a 4), .inl ((k 3), 2, .inl lv)), ((a 5), .inl ((k 4), 8192, .inl cs)), ((a 6), .inl ((k 5), 2, .inl cl)), ((a 7), .inl ((k 6), 2, .inr (.inl cm))), ((a 8), .inl ((k 7), 2, .inl so)), ((a 9), .inl ((k 8), 256, .inl pu))]) (W2 := fun _ => wR a k n h ca tv nx pcs lv cs x b cl cm so ti pu np) (xS (rest := [.ref (a 0)]) ⟨hx, hb, hml, hown, hts⟩ (c_Model_field x0 7 5) mw_Model_field ms_Model_field k_787 ⟨rfl, rfl, Nat.le_of_ble_eq_true rfl, Nat.le_of_ble_eq_true rfl⟩ hK hP hD hS hA hF [] [] rfl rfl rfl rfl hl.1 rfl (Nat.le_of_ble_eq_true rfl) d_Model_reckon_292 ⟨Nat.zero_le _, Nat.zero_le _⟩) hP hD hS hA [] [0, 1, 2, 3, 4, 5, 6, 7, 8, 9] [0, 1, 2, 3, 4, 5, 6, 7, 8, 9] rfl rfl rfl (by decide) (fun _ => rfl) rfl (fun r_57 _ H locs h_57 hP hD hS => ?_)
            subst h_57
            refine lv_iload hx hb d_Model_reckon_295 (lv_at hl 0 rfl) ?_
            refine xv (wr := []) (W2 := fun u9 => wR a k n h ca tv nx pcs lv cs u9 b cl cm so ti pu np) (xV (rest := []) ⟨hx, hb, hml, hown, hts⟩ (c_Model_setReg a k n (sp_Model_field x0 7 5) (sp_Model_shifted (sp_Model_reg (sp_Model_field x0 15 5) h x) (sp_Model_field x0 20 5) 1) h ca tv nx pcs lv cs x b cl cm so ti pu np hn hh (vp_f5 _ _)) mw_Model_setReg mv_Model_setReg k_790 ⟨rfl, rfl, Nat.le_of_ble_eq_true rfl, Nat.le_of_ble_eq_true rfl⟩ hK hP hD hS hA hF [0, 1, 2, 3, 4, 5, 6, 7, 8, 9] [0, 1, 2, 3, 4, 5, 6, 7, 8] rfl rfl rfl 0 5 rfl rfl rfl rfl hl.1 rfl (Nat.le_of_ble_eq_true rfl) d_Model_reckon_297 ⟨Nat.zero_le _, Nat.zero_le _⟩) hP hD hS hA [0, 1, 2, 3, 4, 5, 6, 7, 8, 9] [] [0, 1, 2, 3, 4, 5, 6, 7, 8, 9] rfl rfl rfl (by decide) (fun _ => rfl) rfl (fun u_58 H locs h_58 hP hD hS => ?_)
            obtain ⟨x_58, e_58⟩ : ∃ z, z = u_58 := ⟨_, rfl⟩
            subst e_58
            exact rv (ca, tv, x_58) hx hb hr hlocks hP hD hS d_Model_reckon_300 (by simp only [sp_Model_reckon, h_58, if_pos (rfl : (0 : Int32) = 0), if_neg c_8, if_pos c_25, if_neg c_38, if_pos c_47, if_true, if_false])
  · refine CT.of rfl (Nat.le_of_ble_eq_true rfl) (fun p e s m below meth c A ls hx hb hr hml hts hown hlocks hA hP hK hD hF hS hl => ?_)
    have hl : lv_has ls 11 [(0, .ref (a 0)), (1, .int x0), (2, .int 1)] := hl
    refine lv_aload_n hx hb d_Model_reckon_0 rfl (lv_at hl 0 rfl) ?_
    refine lv_iload_n hx hb d_Model_reckon_1 rfl (lv_at hl 1 rfl) ?_
    refine lv_bipush (v := 15) hx hb d_Model_reckon_2 rfl ?_
    refine lv_iconst (v := 5) hx hb d_Model_reckon_4 rfl ?_
    refine xi (wr := [((a 0), .inr (5, [.int (nI n), .ref (a 1), .ref (a 2), .ref (a 3), .ref (a 4), .ref (a 5), .ref (a 6), .ref (a 7), .ref (a 8), .long ti, .ref (a 9), .int np, .int h, .int ca, .int tv, .int nx])), ((a 1), .inl ((k 0), 16384, .inl b)), ((a 2), .inl ((k 1), 64, .inl x)), ((a 3), .inl ((k 2), 2, .inl pcs)), ((a 4), .inl ((k 3), 2, .inl lv)), ((a 5), .inl ((k 4), 8192, .inl cs)), ((a 6), .inl ((k 5), 2, .inl cl)), ((a 7), .inl ((k 6), 2, .inr (.inl cm))), ((a 8), .inl ((k 7), 2, .inl so)), ((a 9), .inl ((k 8), 256, .inl pu))]) (W2 := fun _ => wR a k n h ca tv nx pcs lv cs x b cl cm so ti pu np) (xS (rest := [.ref (a 0)]) ⟨hx, hb, hml, hown, hts⟩ (c_Model_field x0 15 5) mw_Model_field ms_Model_field k_787 ⟨rfl, rfl, Nat.le_of_ble_eq_true rfl, Nat.le_of_ble_eq_true rfl⟩ hK hP hD hS hA hF [] [] rfl rfl rfl rfl hl.1 rfl (Nat.le_of_ble_eq_true rfl) d_Model_reckon_5 ⟨Nat.zero_le _, Nat.zero_le _⟩) hP hD hS hA [] [0, 1, 2, 3, 4, 5, 6, 7, 8, 9] [0, 1, 2, 3, 4, 5, 6, 7, 8, 9] rfl rfl rfl (by decide) (fun _ => rfl) rfl (fun r_1 _ H locs h_1 hP hD hS => ?_)
    subst h_1
    refine xi (wr := []) (W2 := fun _ => wR a k n h ca tv nx pcs lv cs x b cl cm so ti pu np) (xV (rest := []) ⟨hx, hb, hml, hown, hts⟩ (c_Model_reg a k n (sp_Model_field x0 15 5) h ca tv nx pcs lv cs x b cl cm so ti pu np hn hh (vp_f5 _ _)) mw_Model_reg mv_Model_reg k_802 ⟨rfl, rfl, Nat.le_of_ble_eq_true rfl, Nat.le_of_ble_eq_true rfl⟩ hK hP hD hS hA hF [0, 1, 2, 3, 4, 5, 6, 7, 8, 9] [0, 1, 2, 3, 4, 5, 6, 7, 8] rfl rfl rfl 0 5 rfl rfl rfl rfl hl.1 rfl (Nat.le_of_ble_eq_true rfl) d_Model_reckon_8 ⟨Nat.zero_le _, Nat.zero_le _⟩) hP hD hS hA [0, 1, 2, 3, 4, 5, 6, 7, 8, 9] [] [0, 1, 2, 3, 4, 5, 6, 7, 8, 9] rfl rfl rfl (by decide) (fun _ => rfl) rfl (fun r_2 _ H locs h_2 hP hD hS => ?_)
    subst h_2
    refine lv_istore_n (lv' := [(3, .int (sp_Model_reg (sp_Model_field x0 15 5) h x)), (0, .ref (a 0)), (1, .int x0), (2, .int 1)]) hx hb d_Model_reckon_11 rfl hl (by decide) rfl (fun ls hl => ?_)
    refine lv_iload_n hx hb d_Model_reckon_12 rfl (lv_at hl 3 rfl) ?_
    refine lv_if_eq (tgt := 30) hx hb d_Model_reckon_13 (by decide) (fun h9 => absurd h9 (by decide)) (fun _ => ?_)
    refine lv_aload_n hx hb d_Model_reckon_16 rfl (lv_at hl 1 rfl) ?_
    refine lv_iload_n hx hb d_Model_reckon_17 rfl (lv_at hl 2 rfl) ?_
    refine lv_bipush (v := 20) hx hb d_Model_reckon_18 rfl ?_
    refine lv_iconst (v := 5) hx hb d_Model_reckon_20 rfl ?_
    refine xi (wr := [((a 0), .inr (5, [.int (nI n), .ref (a 1), .ref (a 2), .ref (a 3), .ref (a 4), .ref (a 5), .ref (a 6), .ref (a 7), .ref (a 8), .long ti, .ref (a 9), .int np, .int h, .int ca, .int tv, .int nx])), ((a 1), .inl ((k 0), 16384, .inl b)), ((a 2), .inl ((k 1), 64, .inl x)), ((a 3), .inl ((k 2), 2, .inl pcs)), ((a 4), .inl ((k 3), 2, .inl lv)), ((a 5), .inl ((k 4), 8192, .inl cs)), ((a 6), .inl ((k 5), 2, .inl cl)), ((a 7), .inl ((k 6), 2, .inr (.inl cm))), ((a 8), .inl ((k 7), 2, .inl so)), ((a 9), .inl ((k 8), 256, .inl pu))]) (W2 := fun _ => wR a k n h ca tv nx pcs lv cs x b cl cm so ti pu np) (xS (rest := [.ref (a 0)]) ⟨hx, hb, hml, hown, hts⟩ (c_Model_field x0 20 5) mw_Model_field ms_Model_field k_787 ⟨rfl, rfl, Nat.le_of_ble_eq_true rfl, Nat.le_of_ble_eq_true rfl⟩ hK hP hD hS hA hF [] [] rfl rfl rfl rfl hl.1 rfl (Nat.le_of_ble_eq_true rfl) d_Model_reckon_21 ⟨Nat.zero_le _, Nat.zero_le _⟩) hP hD hS hA [] [0, 1, 2, 3, 4, 5, 6, 7, 8, 9] [0, 1, 2, 3, 4, 5, 6, 7, 8, 9] rfl rfl rfl (by decide) (fun _ => rfl) rfl (fun r_4 _ H locs h_4 hP hD hS => ?_)
    subst h_4
    refine xi (wr := []) (W2 := fun _ => wR a k n h ca tv nx pcs lv cs x b cl cm so ti pu np) (xV (rest := []) ⟨hx, hb, hml, hown, hts⟩ (c_Model_reg a k n (sp_Model_field x0 20 5) h ca tv nx pcs lv cs x b cl cm so ti pu np hn hh (vp_f5 _ _)) mw_Model_reg mv_Model_reg k_802 ⟨rfl, rfl, Nat.le_of_ble_eq_true rfl, Nat.le_of_ble_eq_true rfl⟩ hK hP hD hS hA hF [0, 1, 2, 3, 4, 5, 6, 7, 8, 9] [0, 1, 2, 3, 4, 5, 6, 7, 8] rfl rfl rfl 0 5 rfl rfl rfl rfl hl.1 rfl (Nat.le_of_ble_eq_true rfl) d_Model_reckon_24 ⟨Nat.zero_le _, Nat.zero_le _⟩) hP hD hS hA [0, 1, 2, 3, 4, 5, 6, 7, 8, 9] [] [0, 1, 2, 3, 4, 5, 6, 7, 8, 9] rfl rfl rfl (by decide) (fun _ => rfl) rfl (fun r_5 _ H locs h_5 hP hD hS => ?_)
    subst h_5
    refine lv_goto (tgt := 34) hx hb d_Model_reckon_27 (by decide) ?_
    refine lv_istore (lv' := [(4, .int (sp_Model_reg (sp_Model_field x0 20 5) h x)), (3, .int (sp_Model_reg (sp_Model_field x0 15 5) h x)), (0, .ref (a 0)), (1, .int x0), (2, .int 1)]) hx hb d_Model_reckon_34 hl (by decide) rfl (fun ls hl => ?_)
    refine lv_iload_n hx hb d_Model_reckon_36 rfl (lv_at hl 3 rfl) ?_
    refine lv_bipush (v := 12) hx hb d_Model_reckon_37 rfl ?_
    refine lv_iconst (v := 3) hx hb d_Model_reckon_39 rfl ?_
    refine xi (wr := [((a 0), .inr (5, [.int (nI n), .ref (a 1), .ref (a 2), .ref (a 3), .ref (a 4), .ref (a 5), .ref (a 6), .ref (a 7), .ref (a 8), .long ti, .ref (a 9), .int np, .int h, .int ca, .int tv, .int nx])), ((a 1), .inl ((k 0), 16384, .inl b)), ((a 2), .inl ((k 1), 64, .inl x)), ((a 3), .inl ((k 2), 2, .inl pcs)), ((a 4), .inl ((k 3), 2, .inl lv)), ((a 5), .inl ((k 4), 8192, .inl cs)), ((a 6), .inl ((k 5), 2, .inl cl)), ((a 7), .inl ((k 6), 2, .inr (.inl cm))), ((a 8), .inl ((k 7), 2, .inl so)), ((a 9), .inl ((k 8), 256, .inl pu))]) (W2 := fun _ => wR a k n h ca tv nx pcs lv cs x b cl cm so ti pu np) (xS (rest := []) ⟨hx, hb, hml, hown, hts⟩ (c_Model_field x0 12 3) mw_Model_field ms_Model_field k_787 ⟨rfl, rfl, Nat.le_of_ble_eq_true rfl, Nat.le_of_ble_eq_true rfl⟩ hK hP hD hS hA hF [] [] rfl rfl rfl rfl hl.1 rfl (Nat.le_of_ble_eq_true rfl) d_Model_reckon_40 ⟨Nat.zero_le _, Nat.zero_le _⟩) hP hD hS hA [] [0, 1, 2, 3, 4, 5, 6, 7, 8, 9] [0, 1, 2, 3, 4, 5, 6, 7, 8, 9] rfl rfl rfl (by decide) (fun _ => rfl) rfl (fun r_6 _ H locs h_6 hP hD hS => ?_)
    subst h_6
    refine lv_istore (lv' := [(5, .int (sp_Model_field x0 12 3)), (4, .int (sp_Model_reg (sp_Model_field x0 20 5) h x)), (3, .int (sp_Model_reg (sp_Model_field x0 15 5) h x)), (0, .ref (a 0)), (1, .int x0), (2, .int 1)]) hx hb d_Model_reckon_43 hl (by decide) rfl (fun ls hl => ?_)
    refine lv_iload_n hx hb d_Model_reckon_45 rfl (lv_at hl 4 rfl) ?_
    refine lv_bipush (v := 25) hx hb d_Model_reckon_46 rfl ?_
    refine lv_bipush (v := 7) hx hb d_Model_reckon_48 rfl ?_
    refine xi (wr := [((a 0), .inr (5, [.int (nI n), .ref (a 1), .ref (a 2), .ref (a 3), .ref (a 4), .ref (a 5), .ref (a 6), .ref (a 7), .ref (a 8), .long ti, .ref (a 9), .int np, .int h, .int ca, .int tv, .int nx])), ((a 1), .inl ((k 0), 16384, .inl b)), ((a 2), .inl ((k 1), 64, .inl x)), ((a 3), .inl ((k 2), 2, .inl pcs)), ((a 4), .inl ((k 3), 2, .inl lv)), ((a 5), .inl ((k 4), 8192, .inl cs)), ((a 6), .inl ((k 5), 2, .inl cl)), ((a 7), .inl ((k 6), 2, .inr (.inl cm))), ((a 8), .inl ((k 7), 2, .inl so)), ((a 9), .inl ((k 8), 256, .inl pu))]) (W2 := fun _ => wR a k n h ca tv nx pcs lv cs x b cl cm so ti pu np) (xS (rest := []) ⟨hx, hb, hml, hown, hts⟩ (c_Model_field x0 25 7) mw_Model_field ms_Model_field k_787 ⟨rfl, rfl, Nat.le_of_ble_eq_true rfl, Nat.le_of_ble_eq_true rfl⟩ hK hP hD hS hA hF [] [] rfl rfl rfl rfl hl.1 rfl (Nat.le_of_ble_eq_true rfl) d_Model_reckon_50 ⟨Nat.zero_le _, Nat.zero_le _⟩) hP hD hS hA [] [0, 1, 2, 3, 4, 5, 6, 7, 8, 9] [0, 1, 2, 3, 4, 5, 6, 7, 8, 9] rfl rfl rfl (by decide) (fun _ => rfl) rfl (fun r_7 _ H locs h_7 hP hD hS => ?_)
    subst h_7
    refine lv_istore (lv' := [(6, .int (sp_Model_field x0 25 7)), (5, .int (sp_Model_field x0 12 3)), (4, .int (sp_Model_reg (sp_Model_field x0 20 5) h x)), (3, .int (sp_Model_reg (sp_Model_field x0 15 5) h x)), (0, .ref (a 0)), (1, .int x0), (2, .int 1)]) hx hb d_Model_reckon_53 hl (by decide) rfl (fun ls hl => ?_)
    refine lv_iload_n hx hb d_Model_reckon_55 rfl (lv_at hl 6 rfl) ?_
    refine lv_if_eq (tgt := 67) hx hb d_Model_reckon_56 (by decide) (fun h9 => absurd h9 (by decide)) (fun _ => ?_)
    refine lv_iload hx hb d_Model_reckon_59 (lv_at hl 2 rfl) ?_
    refine lv_bipush (v := 31) hx hb d_Model_reckon_61 rfl ?_
    refine lv_iand hx hb d_Model_reckon_63 ?_
    refine lv_goto (tgt := 74) hx hb d_Model_reckon_64 (by decide) ?_
    refine lv_istore (lv' := [(7, .int ((sp_Model_reg (sp_Model_field x0 20 5) h x) &&& 31)), (6, .int (sp_Model_field x0 25 7)), (5, .int (sp_Model_field x0 12 3)), (4, .int (sp_Model_reg (sp_Model_field x0 20 5) h x)), (3, .int (sp_Model_reg (sp_Model_field x0 15 5) h x)), (0, .ref (a 0)), (1, .int x0), (2, .int 1)]) hx hb d_Model_reckon_74 hl (by decide) rfl (fun ls hl => ?_)
    refine lv_iload hx hb d_Model_reckon_76 (lv_at hl 2 rfl) ?_
    refine lv_iconst (v := 1) hx hb d_Model_reckon_78 rfl ?_
    refine lv_icmp_eq (tgt := 88) hx hb d_Model_reckon_79 (by decide) (fun c_9 => ?_) (fun c_9 => ?_)
    · refine lv_iconst (v := 1) hx hb d_Model_reckon_88 rfl ?_
      refine lv_goto (tgt := 93) hx hb d_Model_reckon_89 (by decide) ?_
      refine lv_istore (lv' := [(8, .int 1), (7, .int ((sp_Model_reg (sp_Model_field x0 20 5) h x) &&& 31)), (6, .int (sp_Model_field x0 25 7)), (5, .int (sp_Model_field x0 12 3)), (4, .int (sp_Model_reg (sp_Model_field x0 20 5) h x)), (3, .int (sp_Model_reg (sp_Model_field x0 15 5) h x)), (0, .ref (a 0)), (1, .int x0), (2, .int 1)]) hx hb d_Model_reckon_93 hl (by decide) rfl (fun ls hl => ?_)
      refine lv_iload_n hx hb d_Model_reckon_95 rfl (lv_at hl 8 rfl) ?_
      refine lv_if_eq (tgt := 136) hx hb d_Model_reckon_96 (by decide) (fun h9 => absurd h9 (by decide)) (fun _ => ?_)
      refine lv_iload hx hb d_Model_reckon_99 (lv_at hl 2 rfl) ?_
      refine lv_if_eq (tgt := 128) hx hb d_Model_reckon_101 (by decide) (fun c_11 => ?_) (fun c_11 => ?_)
      · refine lv_iconst (v := 1) hx hb d_Model_reckon_128 rfl ?_
        refine lv_goto (tgt := 164) hx hb d_Model_reckon_129 (by decide) ?_
        refine lv_istore (lv' := [(9, .int 1), (8, .int 1), (7, .int ((sp_Model_reg (sp_Model_field x0 20 5) h x) &&& 31)), (6, .int (sp_Model_field x0 25 7)), (5, .int (sp_Model_field x0 12 3)), (4, .int (sp_Model_reg (sp_Model_field x0 20 5) h x)), (3, .int (sp_Model_reg (sp_Model_field x0 15 5) h x)), (0, .ref (a 0)), (1, .int x0), (2, .int 1)]) hx hb d_Model_reckon_164 hl (by decide) rfl (fun ls hl => ?_)
        refine lv_iload hx hb d_Model_reckon_166 (lv_at hl 0 rfl) ?_
        refine lv_if_ne (tgt := 178) hx hb d_Model_reckon_168 (by decide) (fun _ => ?_) (fun h9 => absurd h9 (by decide))
        refine lv_iload hx hb d_Model_reckon_178 (lv_at hl 4 rfl) ?_
        refine lv_iconst (v := 5) hx hb d_Model_reckon_180 rfl ?_
        refine lv_icmp_ne (tgt := 205) hx hb d_Model_reckon_181 (by decide) (fun _ => ?_) (fun h9 => absurd h9 (by rw [c_9]; decide))
        refine lv_iload hx hb d_Model_reckon_205 (lv_at hl 4 rfl) ?_
        refine lv_iconst (v := 1) hx hb d_Model_reckon_207 rfl ?_
        refine lv_icmp_ne (tgt := 218) hx hb d_Model_reckon_208 (by decide) (fun h9 => absurd c_9 h9) (fun _ => ?_)
        refine lv_iload_n hx hb d_Model_reckon_211 rfl (lv_at hl 6 rfl) ?_
        refine lv_iload hx hb d_Model_reckon_212 (lv_at hl 2 rfl) ?_
        refine y_ishl hx hb d_Model_reckon_214 ?_
        refine lv_goto (tgt := 226) hx hb d_Model_reckon_215 (by decide) ?_
        refine lv_istore (lv' := [(10, .int (shl (sp_Model_reg (sp_Model_field x0 15 5) h x) ((sp_Model_reg (sp_Model_field x0 20 5) h x) &&& 31))), (9, .int 1), (8, .int 1), (7, .int ((sp_Model_reg (sp_Model_field x0 20 5) h x) &&& 31)), (6, .int (sp_Model_field x0 25 7)), (5, .int (sp_Model_field x0 12 3)), (4, .int (sp_Model_reg (sp_Model_field x0 20 5) h x)), (3, .int (sp_Model_reg (sp_Model_field x0 15 5) h x)), (0, .ref (a 0)), (1, .int x0), (2, .int 1)]) hx hb d_Model_reckon_226 hl (by decide) rfl (fun ls hl => ?_)
        refine lv_iload_n hx hb d_Model_reckon_228 rfl (lv_at hl 10 rfl) ?_
        refine lv_if_eq (tgt := 250) hx hb d_Model_reckon_229 (by decide) (fun h9 => absurd h9 (by decide)) (fun _ => ?_)
        refine lv_iload hx hb d_Model_reckon_232 (lv_at hl 4 rfl) ?_
        refine lv_bipush (v := 32) hx hb d_Model_reckon_234 rfl ?_
        refine lv_icmp_ne (tgt := 250) hx hb d_Model_reckon_236 (by decide) (fun _ => ?_) (fun h9 => absurd h9 (by rw [c_11]; decide))
        refine lv_iload_n hx hb d_Model_reckon_250 rfl (lv_at hl 10 rfl) ?_
        refine lv_if_eq (tgt := 287) hx hb d_Model_reckon_251 (by decide) (fun h9 => absurd h9 (by decide)) (fun _ => ?_)
        refine lv_iload hx hb d_Model_reckon_254 (lv_at hl 4 rfl) ?_
        refine lv_iconst (v := 1) hx hb d_Model_reckon_256 rfl ?_
        refine lv_icmp_ne (tgt := 287) hx hb d_Model_reckon_257 (by decide) (fun _ => ?_) (fun h9 => absurd h9 (by rw [c_11]; decide))
        refine lv_aload_n hx hb d_Model_reckon_287 rfl (lv_at hl 8 rfl) ?_
        refine lv_iload_n hx hb d_Model_reckon_288 rfl (lv_at hl 9 rfl) ?_
        refine lv_bipush (v := 7) hx hb d_Model_reckon_289 rfl ?_
        refine lv_iconst (v := 5) hx hb d_Model_reckon_291 rfl ?_
        refine xi (wr := [((a 0), .inr (5, [.int (nI n), .ref (a 1), .ref (a 2), .ref (a 3), .ref (a 4), .ref (a 5), .ref (a 6), .ref (a 7), .ref (a 8), .long ti, .ref (a 9), .int np, .int h, .int ca, .int tv, .int nx])), ((a 1), .inl ((k 0), 16384, .inl b)), ((a 2), .inl ((k 1), 64, .inl x)), ((a 3), .inl ((k 2), 2, .inl pcs)), ((a 4), .inl ((k 3), 2, .inl lv)), ((a 5), .inl ((k 4), 8192, .inl cs)), ((a 6), .inl ((k 5), 2, .inl cl)), ((a 7), .inl ((k 6), 2, .inr (.inl cm))), ((a 8), .inl ((k 7), 2, .inl so)), ((a 9), .inl ((k 8), 256, .inl pu))]) (W2 := fun _ => wR a k n h ca tv nx pcs lv cs x b cl cm so ti pu np) (xS (rest := [.ref (a 0)]) ⟨hx, hb, hml, hown, hts⟩ (c_Model_field x0 7 5) mw_Model_field ms_Model_field k_787 ⟨rfl, rfl, Nat.le_of_ble_eq_true rfl, Nat.le_of_ble_eq_true rfl⟩ hK hP hD hS hA hF [] [] rfl rfl rfl rfl hl.1 rfl (Nat.le_of_ble_eq_true rfl) d_Model_reckon_292 ⟨Nat.zero_le _, Nat.zero_le _⟩) hP hD hS hA [] [0, 1, 2, 3, 4, 5, 6, 7, 8, 9] [0, 1, 2, 3, 4, 5, 6, 7, 8, 9] rfl rfl rfl (by decide) (fun _ => rfl) rfl (fun r_19 _ H locs h_19 hP hD hS => ?_)
        subst h_19
        refine lv_iload hx hb d_Model_reckon_295 (lv_at hl 0 rfl) ?_
        refine xv (wr := []) (W2 := fun u9 => wR a k n h ca tv nx pcs lv cs u9 b cl cm so ti pu np) (xV (rest := []) ⟨hx, hb, hml, hown, hts⟩ (c_Model_setReg a k n (sp_Model_field x0 7 5) (shl (sp_Model_reg (sp_Model_field x0 15 5) h x) ((sp_Model_reg (sp_Model_field x0 20 5) h x) &&& 31)) h ca tv nx pcs lv cs x b cl cm so ti pu np hn hh (vp_f5 _ _)) mw_Model_setReg mv_Model_setReg k_790 ⟨rfl, rfl, Nat.le_of_ble_eq_true rfl, Nat.le_of_ble_eq_true rfl⟩ hK hP hD hS hA hF [0, 1, 2, 3, 4, 5, 6, 7, 8, 9] [0, 1, 2, 3, 4, 5, 6, 7, 8] rfl rfl rfl 0 5 rfl rfl rfl rfl hl.1 rfl (Nat.le_of_ble_eq_true rfl) d_Model_reckon_297 ⟨Nat.zero_le _, Nat.zero_le _⟩) hP hD hS hA [0, 1, 2, 3, 4, 5, 6, 7, 8, 9] [] [0, 1, 2, 3, 4, 5, 6, 7, 8, 9] rfl rfl rfl (by decide) (fun _ => rfl) rfl (fun u_20 H locs h_20 hP hD hS => ?_)
        obtain ⟨x_20, e_20⟩ : ∃ z, z = u_20 := ⟨_, rfl⟩
        subst e_20
        exact rv (ca, tv, x_20) hx hb hr hlocks hP hD hS d_Model_reckon_300 (by simp only [sp_Model_reckon, h_20, if_neg (by decide : ¬ (1 : Int32) = 0), if_pos c_9, if_pos c_11, if_true, if_false])
      · refine lv_iload hx hb d_Model_reckon_104 (lv_at hl 2 rfl) ?_
        refine lv_iconst (v := 1) hx hb d_Model_reckon_106 rfl ?_
        refine lv_icmp_eq (tgt := 128) hx hb d_Model_reckon_107 (by decide) (fun c_21 => ?_) (fun c_21 => ?_)
        · refine lv_iconst (v := 1) hx hb d_Model_reckon_128 rfl ?_
          refine lv_goto (tgt := 164) hx hb d_Model_reckon_129 (by decide) ?_
          refine lv_istore (lv' := [(9, .int 1), (8, .int 1), (7, .int ((sp_Model_reg (sp_Model_field x0 20 5) h x) &&& 31)), (6, .int (sp_Model_field x0 25 7)), (5, .int (sp_Model_field x0 12 3)), (4, .int (sp_Model_reg (sp_Model_field x0 20 5) h x)), (3, .int (sp_Model_reg (sp_Model_field x0 15 5) h x)), (0, .ref (a 0)), (1, .int x0), (2, .int 1)]) hx hb d_Model_reckon_164 hl (by decide) rfl (fun ls hl => ?_)
          refine lv_iload hx hb d_Model_reckon_166 (lv_at hl 0 rfl) ?_
          refine lv_if_ne (tgt := 178) hx hb d_Model_reckon_168 (by decide) (fun _ => ?_) (fun h9 => absurd h9 (by decide))
          refine lv_iload hx hb d_Model_reckon_178 (lv_at hl 4 rfl) ?_
          refine lv_iconst (v := 5) hx hb d_Model_reckon_180 rfl ?_
          refine lv_icmp_ne (tgt := 205) hx hb d_Model_reckon_181 (by decide) (fun _ => ?_) (fun h9 => absurd h9 (by rw [c_9]; decide))
          refine lv_iload hx hb d_Model_reckon_205 (lv_at hl 4 rfl) ?_
          refine lv_iconst (v := 1) hx hb d_Model_reckon_207 rfl ?_
          refine lv_icmp_ne (tgt := 218) hx hb d_Model_reckon_208 (by decide) (fun h9 => absurd c_9 h9) (fun _ => ?_)
          refine lv_iload_n hx hb d_Model_reckon_211 rfl (lv_at hl 6 rfl) ?_
          refine lv_iload hx hb d_Model_reckon_212 (lv_at hl 2 rfl) ?_
          refine y_ishl hx hb d_Model_reckon_214 ?_
          refine lv_goto (tgt := 226) hx hb d_Model_reckon_215 (by decide) ?_
          refine lv_istore (lv' := [(10, .int (shl (sp_Model_reg (sp_Model_field x0 15 5) h x) ((sp_Model_reg (sp_Model_field x0 20 5) h x) &&& 31))), (9, .int 1), (8, .int 1), (7, .int ((sp_Model_reg (sp_Model_field x0 20 5) h x) &&& 31)), (6, .int (sp_Model_field x0 25 7)), (5, .int (sp_Model_field x0 12 3)), (4, .int (sp_Model_reg (sp_Model_field x0 20 5) h x)), (3, .int (sp_Model_reg (sp_Model_field x0 15 5) h x)), (0, .ref (a 0)), (1, .int x0), (2, .int 1)]) hx hb d_Model_reckon_226 hl (by decide) rfl (fun ls hl => ?_)
          refine lv_iload_n hx hb d_Model_reckon_228 rfl (lv_at hl 10 rfl) ?_
          refine lv_if_eq (tgt := 250) hx hb d_Model_reckon_229 (by decide) (fun h9 => absurd h9 (by decide)) (fun _ => ?_)
          refine lv_iload hx hb d_Model_reckon_232 (lv_at hl 4 rfl) ?_
          refine lv_bipush (v := 32) hx hb d_Model_reckon_234 rfl ?_
          refine lv_icmp_ne (tgt := 250) hx hb d_Model_reckon_236 (by decide) (fun _ => ?_) (fun h9 => absurd h9 (by rw [c_21]; decide))
          refine lv_iload_n hx hb d_Model_reckon_250 rfl (lv_at hl 10 rfl) ?_
          refine lv_if_eq (tgt := 287) hx hb d_Model_reckon_251 (by decide) (fun h9 => absurd h9 (by decide)) (fun _ => ?_)
          refine lv_iload hx hb d_Model_reckon_254 (lv_at hl 4 rfl) ?_
          refine lv_iconst (v := 1) hx hb d_Model_reckon_256 rfl ?_
          refine lv_icmp_ne (tgt := 287) hx hb d_Model_reckon_257 (by decide) (fun h9 => absurd c_21 h9) (fun _ => ?_)
          refine lv_iload hx hb d_Model_reckon_260 (lv_at hl 5 rfl) ?_
          refine lv_iconst (v := 4) hx hb d_Model_reckon_262 rfl ?_
          refine lv_icmp_ge (tgt := 277) hx hb d_Model_reckon_263 (by decide) (fun h9 => absurd h9 (by rw [c_9]; decide)) (fun _ => ?_)
          refine lv_iload hx hb d_Model_reckon_266 (lv_at hl 5 rfl) ?_
          refine lv_iload_n hx hb d_Model_reckon_268 rfl (lv_at hl 7 rfl) ?_
          refine lv_iload hx hb d_Model_reckon_269 (lv_at hl 6 rfl) ?_
          refine xi (wr := [((a 0), .inr (5, [.int (nI n), .ref (a 1), .ref (a 2), .ref (a 3), .ref (a 4), .ref (a 5), .ref (a 6), .ref (a 7), .ref (a 8), .long ti, .ref (a 9), .int np, .int h, .int ca, .int tv, .int nx])), ((a 1), .inl ((k 0), 16384, .inl b)), ((a 2), .inl ((k 1), 64, .inl x)), ((a 3), .inl ((k 2), 2, .inl pcs)), ((a 4), .inl ((k 3), 2, .inl lv)), ((a 5), .inl ((k 4), 8192, .inl cs)), ((a 6), .inl ((k 5), 2, .inl cl)), ((a 7), .inl ((k 6), 2, .inr (.inl cm))), ((a 8), .inl ((k 7), 2, .inl so)), ((a 9), .inl ((k 8), 256, .inl pu))]) (W2 := fun _ => wR a k n h ca tv nx pcs lv cs x b cl cm so ti pu np) (xS (rest := []) ⟨hx, hb, hml, hown, hts⟩ (c_Model_product (sp_Model_field x0 12 3) (sp_Model_reg (sp_Model_field x0 15 5) h x) (sp_Model_reg (sp_Model_field x0 20 5) h x)) mw_Model_product ms_Model_product k_862 ⟨rfl, rfl, Nat.le_of_ble_eq_true rfl, Nat.le_of_ble_eq_true rfl⟩ hK hP hD hS hA hF [] [] rfl rfl rfl rfl hl.1 rfl (Nat.le_of_ble_eq_true rfl) d_Model_reckon_271 ⟨Nat.zero_le _, Nat.zero_le _⟩) hP hD hS hA [] [0, 1, 2, 3, 4, 5, 6, 7, 8, 9] [0, 1, 2, 3, 4, 5, 6, 7, 8, 9] rfl rfl rfl (by decide) (fun _ => rfl) rfl (fun r_30 _ H locs h_30 hP hD hS => ?_)
          subst h_30
          refine lv_goto (tgt := 285) hx hb d_Model_reckon_274 (by decide) ?_
          refine lv_istore (lv' := [(10, .int (sp_Model_product (sp_Model_field x0 12 3) (sp_Model_reg (sp_Model_field x0 15 5) h x) (sp_Model_reg (sp_Model_field x0 20 5) h x))), (9, .int 1), (8, .int 1), (7, .int ((sp_Model_reg (sp_Model_field x0 20 5) h x) &&& 31)), (6, .int (sp_Model_field x0 25 7)), (5, .int (sp_Model_field x0 12 3)), (4, .int (sp_Model_reg (sp_Model_field x0 20 5) h x)), (3, .int (sp_Model_reg (sp_Model_field x0 15 5) h x)), (0, .ref (a 0)), (1, .int x0), (2, .int 1)]) hx hb d_Model_reckon_285 hl (by decide) rfl (fun ls hl => ?_)
          refine lv_aload_n hx hb d_Model_reckon_287 rfl (lv_at hl 8 rfl) ?_
          refine lv_iload_n hx hb d_Model_reckon_288 rfl (lv_at hl 9 rfl) ?_
          refine lv_bipush (v := 7) hx hb d_Model_reckon_289 rfl ?_
          refine lv_iconst (v := 5) hx hb d_Model_reckon_291 rfl ?_
          refine xi (wr := [((a 0), .inr (5, [.int (nI n), .ref (a 1), .ref (a 2), .ref (a 3), .ref (a 4), .ref (a 5), .ref (a 6), .ref (a 7), .ref (a 8), .long ti, .ref (a 9), .int np, .int h, .int ca, .int tv, .int nx])), ((a 1), .inl ((k 0), 16384, .inl b)), ((a 2), .inl ((k 1), 64, .inl x)), ((a 3), .inl ((k 2), 2, .inl pcs)), ((a 4), .inl ((k 3), 2, .inl lv)), ((a 5), .inl ((k 4), 8192, .inl cs)), ((a 6), .inl ((k 5), 2, .inl cl)), ((a 7), .inl ((k 6), 2, .inr (.inl cm))), ((a 8), .inl ((k 7), 2, .inl so)), ((a 9), .inl ((k 8), 256, .inl pu))]) (W2 := fun _ => wR a k n h ca tv nx pcs lv cs x b cl cm so ti pu np) (xS (rest := [.ref (a 0)]) ⟨hx, hb, hml, hown, hts⟩ (c_Model_field x0 7 5) mw_Model_field ms_Model_field k_787 ⟨rfl, rfl, Nat.le_of_ble_eq_true rfl, Nat.le_of_ble_eq_true rfl⟩ hK hP hD hS hA hF [] [] rfl rfl rfl rfl hl.1 rfl (Nat.le_of_ble_eq_true rfl) d_Model_reckon_292 ⟨Nat.zero_le _, Nat.zero_le _⟩) hP hD hS hA [] [0, 1, 2, 3, 4, 5, 6, 7, 8, 9] [0, 1, 2, 3, 4, 5, 6, 7, 8, 9] rfl rfl rfl (by decide) (fun _ => rfl) rfl (fun r_31 _ H locs h_31 hP hD hS => ?_)
          subst h_31
          refine lv_iload hx hb d_Model_reckon_295 (lv_at hl 0 rfl) ?_
          refine xv (wr := []) (W2 := fun u9 => wR a k n h ca tv nx pcs lv cs u9 b cl cm so ti pu np) (xV (rest := []) ⟨hx, hb, hml, hown, hts⟩ (c_Model_setReg a k n (sp_Model_field x0 7 5) (sp_Model_product (sp_Model_field x0 12 3) (sp_Model_reg (sp_Model_field x0 15 5) h x) (sp_Model_reg (sp_Model_field x0 20 5) h x)) h ca tv nx pcs lv cs x b cl cm so ti pu np hn hh (vp_f5 _ _)) mw_Model_setReg mv_Model_setReg k_790 ⟨rfl, rfl, Nat.le_of_ble_eq_true rfl, Nat.le_of_ble_eq_true rfl⟩ hK hP hD hS hA hF [0, 1, 2, 3, 4, 5, 6, 7, 8, 9] [0, 1, 2, 3, 4, 5, 6, 7, 8] rfl rfl rfl 0 5 rfl rfl rfl rfl hl.1 rfl (Nat.le_of_ble_eq_true rfl) d_Model_reckon_297 ⟨Nat.zero_le _, Nat.zero_le _⟩) hP hD hS hA [0, 1, 2, 3, 4, 5, 6, 7, 8, 9] [] [0, 1, 2, 3, 4, 5, 6, 7, 8, 9] rfl rfl rfl (by decide) (fun _ => rfl) rfl (fun u_32 H locs h_32 hP hD hS => ?_)
          obtain ⟨x_32, e_32⟩ : ∃ z, z = u_32 := ⟨_, rfl⟩
          subst e_32
          exact rv (ca, tv, x_32) hx hb hr hlocks hP hD hS d_Model_reckon_300 (by simp only [sp_Model_reckon, h_32, if_neg (by decide : ¬ (1 : Int32) = 0), if_pos c_9, if_neg c_11, if_pos c_21, if_true, if_false])
        · refine lv_iload hx hb d_Model_reckon_110 (lv_at hl 2 rfl) ?_
          refine lv_bipush (v := 32) hx hb d_Model_reckon_112 rfl ?_
          refine lv_icmp_ne (tgt := 132) hx hb d_Model_reckon_114 (by decide) (fun c_33 => ?_) (fun c_33 => ?_)
          · refine lv_iconst (v := 0) hx hb d_Model_reckon_132 rfl ?_
            refine lv_goto (tgt := 164) hx hb d_Model_reckon_133 (by decide) ?_
            refine lv_istore (lv' := [(9, .int 0), (8, .int 1), (7, .int ((sp_Model_reg (sp_Model_field x0 20 5) h x) &&& 31)), (6, .int (sp_Model_field x0 25 7)), (5, .int (sp_Model_field x0 12 3)), (4, .int (sp_Model_reg (sp_Model_field x0 20 5) h x)), (3, .int (sp_Model_reg (sp_Model_field x0 15 5) h x)), (0, .ref (a 0)), (1, .int x0), (2, .int 1)]) hx hb d_Model_reckon_164 hl (by decide) rfl (fun ls hl => ?_)
            refine lv_iload hx hb d_Model_reckon_166 (lv_at hl 0 rfl) ?_
            refine lv_if_ne (tgt := 178) hx hb d_Model_reckon_168 (by decide) (fun h9 => absurd (by decide) h9) (fun _ => ?_)
            refine lv_aload_n hx hb d_Model_reckon_171 rfl (lv_at hl 7 rfl) ?_
            refine lv_iconst (v := 2) hx hb d_Model_reckon_172 rfl ?_
            refine lv_iload_n hx hb d_Model_reckon_173 rfl (lv_at hl 8 rfl) ?_
            refine xv (wr := []) (W2 := fun u9 => wR a k n h u9.1 u9.2 nx pcs lv cs x b cl cm so ti pu np) (xV (rest := []) ⟨hx, hb, hml, hown, hts⟩ (c_Model_trap a k n 2 x0 h ca tv nx pcs lv cs x b cl cm so ti pu np hn) mw_Model_trap mv_Model_trap k_763 ⟨rfl, rfl, Nat.le_of_ble_eq_true rfl, Nat.le_of_ble_eq_true rfl⟩ hK hP hD hS hA hF [0, 1, 2, 3, 4, 5, 6, 7, 8, 9] [0, 1, 2, 3, 4, 5, 6, 7, 8] rfl rfl rfl 0 5 rfl rfl rfl rfl hl.1 rfl (Nat.le_of_ble_eq_true rfl) d_Model_reckon_174 ⟨Nat.zero_le _, Nat.zero_le _⟩) hP hD hS hA [0, 1, 2, 3, 4, 5, 6, 7, 8, 9] [] [0, 1, 2, 3, 4, 5, 6, 7, 8, 9] rfl rfl rfl (by decide) (fun _ => rfl) rfl (fun u_35 H locs h_35 hP hD hS => ?_)
            obtain ⟨ca_35, tv_35⟩ := u_35
            dsimp only at hP hD
            exact rv (ca_35, tv_35, x) hx hb hr hlocks hP hD hS d_Model_reckon_177 (by simp only [sp_Model_reckon, h_35, if_neg (by decide : ¬ (1 : Int32) = 0), if_pos c_9, if_neg c_11, if_neg c_21, if_neg c_33, if_true, if_false])
          · refine lv_iload hx hb d_Model_reckon_117 (lv_at hl 3 rfl) ?_
            refine lv_if_eq (tgt := 128) hx hb d_Model_reckon_119 (by decide) (fun h9 => absurd h9 (by rw [c_9]; decide)) (fun _ => ?_)
            refine lv_iload hx hb d_Model_reckon_122 (lv_at hl 3 rfl) ?_
            refine lv_iconst (v := 5) hx hb d_Model_reckon_124 rfl ?_
            refine lv_icmp_ne (tgt := 132) hx hb d_Model_reckon_125 (by decide) (fun _ => ?_) (fun h9 => absurd h9 (by rw [c_9]; decide))
            refine lv_iconst (v := 0) hx hb d_Model_reckon_132 rfl ?_
            refine lv_goto (tgt := 164) hx hb d_Model_reckon_133 (by decide) ?_
            refine lv_istore (lv' := [(9, .int 0), (8, .int 1), (7, .int ((sp_Model_reg (sp_Model_field x0 20 5) h x) &&& 31)), (6, .int (sp_Model_field x0 25 7)), (5, .int (sp_Model_field x0 12 3)), (4, .int (sp_Model_reg (sp_Model_field x0 20 5) h x)), (3, .int (sp_Model_reg (sp_Model_field x0 15 5) h x)), (0, .ref (a 0)), (1, .int x0), (2, .int 1)]) hx hb d_Model_reckon_164 hl (by decide) rfl (fun ls hl => ?_)
            refine lv_iload hx hb d_Model_reckon_166 (lv_at hl 0 rfl) ?_
            refine lv_if_ne (tgt := 178) hx hb d_Model_reckon_168 (by decide) (fun h9 => absurd (by decide) h9) (fun _ => ?_)
            refine lv_aload_n hx hb d_Model_reckon_171 rfl (lv_at hl 7 rfl) ?_
            refine lv_iconst (v := 2) hx hb d_Model_reckon_172 rfl ?_
            refine lv_iload_n hx hb d_Model_reckon_173 rfl (lv_at hl 8 rfl) ?_
            refine xv (wr := []) (W2 := fun u9 => wR a k n h u9.1 u9.2 nx pcs lv cs x b cl cm so ti pu np) (xV (rest := []) ⟨hx, hb, hml, hown, hts⟩ (c_Model_trap a k n 2 x0 h ca tv nx pcs lv cs x b cl cm so ti pu np hn) mw_Model_trap mv_Model_trap k_763 ⟨rfl, rfl, Nat.le_of_ble_eq_true rfl, Nat.le_of_ble_eq_true rfl⟩ hK hP hD hS hA hF [0, 1, 2, 3, 4, 5, 6, 7, 8, 9] [0, 1, 2, 3, 4, 5, 6, 7, 8] rfl rfl rfl 0 5 rfl rfl rfl rfl hl.1 rfl (Nat.le_of_ble_eq_true rfl) d_Model_reckon_174 ⟨Nat.zero_le _, Nat.zero_le _⟩) hP hD hS hA [0, 1, 2, 3, 4, 5, 6, 7, 8, 9] [] [0, 1, 2, 3, 4, 5, 6, 7, 8, 9] rfl rfl rfl (by decide) (fun _ => rfl) rfl (fun u_39 H locs h_39 hP hD hS => ?_)
            obtain ⟨ca_39, tv_39⟩ := u_39
            dsimp only at hP hD
            exact rv (ca_39, tv_39, x) hx hb hr hlocks hP hD hS d_Model_reckon_177 (by simp only [sp_Model_reckon, h_39, if_neg (by decide : ¬ (1 : Int32) = 0), if_pos c_9, if_neg c_11, if_neg c_21, if_pos c_33, if_true, if_false])
    · refine lv_iload hx hb d_Model_reckon_82 (lv_at hl 2 rfl) ?_
      refine lv_iconst (v := 5) hx hb d_Model_reckon_84 rfl ?_
      refine lv_icmp_ne (tgt := 92) hx hb d_Model_reckon_85 (by decide) (fun c_40 => ?_) (fun c_40 => ?_)
      · refine lv_iconst (v := 0) hx hb d_Model_reckon_92 rfl ?_
        refine lv_istore (lv' := [(8, .int 0), (7, .int ((sp_Model_reg (sp_Model_field x0 20 5) h x) &&& 31)), (6, .int (sp_Model_field x0 25 7)), (5, .int (sp_Model_field x0 12 3)), (4, .int (sp_Model_reg (sp_Model_field x0 20 5) h x)), (3, .int (sp_Model_reg (sp_Model_field x0 15 5) h x)), (0, .ref (a 0)), (1, .int x0), (2, .int 1)]) hx hb d_Model_reckon_93 hl (by decide) rfl (fun ls hl => ?_)
        refine lv_iload_n hx hb d_Model_reckon_95 rfl (lv_at hl 8 rfl) ?_
        refine lv_if_eq (tgt := 136) hx hb d_Model_reckon_96 (by decide) (fun h9 => absurd h9 (by decide)) (fun _ => ?_)
        refine lv_iload hx hb d_Model_reckon_99 (lv_at hl 2 rfl) ?_
        refine lv_if_eq (tgt := 128) hx hb d_Model_reckon_101 (by decide) (fun c_42 => ?_) (fun c_42 => ?_)
        · refine lv_iconst (v := 1) hx hb d_Model_reckon_128 rfl ?_
          refine lv_goto (tgt := 164) hx hb d_Model_reckon_129 (by decide) ?_
          refine lv_istore (lv' := [(9, .int 1), (8, .int 0), (7, .int ((sp_Model_reg (sp_Model_field x0 20 5) h x) &&& 31)), (6, .int (sp_Model_field x0 25 7)), (5, .int (sp_Model_field x0 12 3)), (4, .int (sp_Model_reg (sp_Model_field x0 20 5) h x)), (3, .int (sp_Model_reg (sp_Model_field x0 15 5) h x)), (0, .ref (a 0)), (1, .int x0), (2, .int 1)]) hx hb d_Model_reckon_164 hl (by decide) rfl (fun ls hl => ?_)
          refine lv_iload hx hb d_Model_reckon_166 (lv_at hl 0 rfl) ?_
          refine lv_if_ne (tgt := 178) hx hb d_Model_reckon_168 (by decide) (fun _ => ?_) (fun h9 => absurd h9 (by decide))
          refine lv_iload hx hb d_Model_reckon_178 (lv_at hl 4 rfl) ?_
          refine lv_iconst (v := 5) hx hb d_Model_reckon_180 rfl ?_
          refine lv_icmp_ne (tgt := 205) hx hb d_Model_reckon_181 (by decide) (fun _ => ?_) (fun h9 => absurd h9 c_40)
          refine lv_iload hx hb d_Model_reckon_205 (lv_at hl 4 rfl) ?_
          refine lv_iconst (v := 1) hx hb d_Model_reckon_207 rfl ?_
          refine lv_icmp_ne (tgt := 218) hx hb d_Model_reckon_208 (by decide) (fun _ => ?_) (fun h9 => absurd h9 c_9)
          refine lv_iload hx hb d_Model_reckon_218 (lv_at hl 4 rfl) ?_
          refine lv_iload_n hx hb d_Model_reckon_220 rfl (lv_at hl 6 rfl) ?_
          refine lv_iload hx hb d_Model_reckon_221 (lv_at hl 5 rfl) ?_
          refine xi (wr := [((a 0), .inr (5, [.int (nI n), .ref (a 1), .ref (a 2), .ref (a 3), .ref (a 4), .ref (a 5), .ref (a 6), .ref (a 7), .ref (a 8), .long ti, .ref (a 9), .int np, .int h, .int ca, .int tv, .int nx])), ((a 1), .inl ((k 0), 16384, .inl b)), ((a 2), .inl ((k 1), 64, .inl x)), ((a 3), .inl ((k 2), 2, .inl pcs)), ((a 4), .inl ((k 3), 2, .inl lv)), ((a 5), .inl ((k 4), 8192, .inl cs)), ((a 6), .inl ((k 5), 2, .inl cl)), ((a 7), .inl ((k 6), 2, .inr (.inl cm))), ((a 8), .inl ((k 7), 2, .inl so)), ((a 9), .inl ((k 8), 256, .inl pu))]) (W2 := fun _ => wR a k n h ca tv nx pcs lv cs x b cl cm so ti pu np) (xS (rest := []) ⟨hx, hb, hml, hown, hts⟩ (c_Model_plain (sp_Model_field x0 12 3) (sp_Model_reg (sp_Model_field x0 15 5) h x) (sp_Model_reg (sp_Model_field x0 20 5) h x)) mw_Model_plain ms_Model_plain k_859 ⟨rfl, rfl, Nat.le_of_ble_eq_true rfl, Nat.le_of_ble_eq_true rfl⟩ hK hP hD hS hA hF [] [] rfl rfl rfl rfl hl.1 rfl (Nat.le_of_ble_eq_true rfl) d_Model_reckon_223 ⟨Nat.zero_le _, Nat.zero_le _⟩) hP hD hS hA [] [0, 1, 2, 3, 4, 5, 6, 7, 8, 9] [0, 1, 2, 3, 4, 5, 6, 7, 8, 9] rfl rfl rfl (by decide) (fun _ => rfl) rfl (fun r_46 _ H locs h_46 hP hD hS => ?_)
          subst h_46
          refine lv_istore (lv' := [(10, .int (sp_Model_plain (sp_Model_field x0 12 3) (sp_Model_reg (sp_Model_field x0 15 5) h x) (sp_Model_reg (sp_Model_field x0 20 5) h x))), (9, .int 1), (8, .int 0), (7, .int ((sp_Model_reg (sp_Model_field x0 20 5) h x) &&& 31)), (6, .int (sp_Model_field x0 25 7)), (5, .int (sp_Model_field x0 12 3)), (4, .int (sp_Model_reg (sp_Model_field x0 20 5) h x)), (3, .int (sp_Model_reg (sp_Model_field x0 15 5) h x)), (0, .ref (a 0)), (1, .int x0), (2, .int 1)]) hx hb d_Model_reckon_226 hl (by decide) rfl (fun ls hl => ?_)
          refine lv_iload_n hx hb d_Model_reckon_228 rfl (lv_at hl 10 rfl) ?_
          refine lv_if_eq (tgt := 250) hx hb d_Model_reckon_229 (by decide) (fun h9 => absurd h9 (by decide)) (fun _ => ?_)
          refine lv_iload hx hb d_Model_reckon_232 (lv_at hl 4 rfl) ?_
          refine lv_bipush (v := 32) hx hb d_Model_reckon_234 rfl ?_
          refine lv_icmp_ne (tgt := 250) hx hb d_Model_reckon_236 (by decide) (fun _ => ?_) (fun h9 => absurd h9 (by rw [c_42]; decide))
          refine lv_iload_n hx hb d_Model_reckon_250 rfl (lv_at hl 10 rfl) ?_
          refine lv_if_eq (tgt := 287) hx hb d_Model_reckon_251 (by decide) (fun h9 => absurd h9 (by decide)) (fun _ => ?_)
          refine lv_iload hx hb d_Model_reckon_254 (lv_at hl 4 rfl) ?_
          refine lv_iconst (v := 1) hx hb d_Model_reckon_256 rfl ?_
          refine lv_icmp_ne (tgt := 287) hx hb d_Model_reckon_257 (by decide) (fun _ => ?_) (fun h9 => absurd h9 (by rw [c_42]; decide))
          refine lv_aload_n hx hb d_Model_reckon_287 rfl (lv_at hl 8 rfl) ?_
          refine lv_iload_n hx hb d_Model_reckon_288 rfl (lv_at hl 9 rfl) ?_
          refine lv_bipush (v := 7) hx hb d_Model_reckon_289 rfl ?_
          refine lv_iconst (v := 5) hx hb d_Model_reckon_291 rfl ?_
          refine xi (wr := [((a 0), .inr (5, [.int (nI n), .ref (a 1), .ref (a 2), .ref (a 3), .ref (a 4), .ref (a 5), .ref (a 6), .ref (a 7), .ref (a 8), .long ti, .ref (a 9), .int np, .int h, .int ca, .int tv, .int nx])), ((a 1), .inl ((k 0), 16384, .inl b)), ((a 2), .inl ((k 1), 64, .inl x)), ((a 3), .inl ((k 2), 2, .inl pcs)), ((a 4), .inl ((k 3), 2, .inl lv)), ((a 5), .inl ((k 4), 8192, .inl cs)), ((a 6), .inl ((k 5), 2, .inl cl)), ((a 7), .inl ((k 6), 2, .inr (.inl cm))), ((a 8), .inl ((k 7), 2, .inl so)), ((a 9), .inl ((k 8), 256, .inl pu))]) (W2 := fun _ => wR a k n h ca tv nx pcs lv cs x b cl cm so ti pu np) (xS (rest := [.ref (a 0)]) ⟨hx, hb, hml, hown, hts⟩ (c_Model_field x0 7 5) mw_Model_field ms_Model_field k_787 ⟨rfl, rfl, Nat.le_of_ble_eq_true rfl, Nat.le_of_ble_eq_true rfl⟩ hK hP hD hS hA hF [] [] rfl rfl rfl rfl hl.1 rfl (Nat.le_of_ble_eq_true rfl) d_Model_reckon_292 ⟨Nat.zero_le _, Nat.zero_le _⟩) hP hD hS hA [] [0, 1, 2, 3, 4, 5, 6, 7, 8, 9] [0, 1, 2, 3, 4, 5, 6, 7, 8, 9] rfl rfl rfl (by decide) (fun _ => rfl) rfl (fun r_51 _ H locs h_51 hP hD hS => ?_)
          subst h_51
          refine lv_iload hx hb d_Model_reckon_295 (lv_at hl 0 rfl) ?_
          refine xv (wr := []) (W2 := fun u9 => wR a k n h ca tv nx pcs lv cs u9 b cl cm so ti pu np) (xV (rest := []) ⟨hx, hb, hml, hown, hts⟩ (c_Model_setReg a k n (sp_Model_field x0 7 5) (sp_Model_plain (sp_Model_field x0 12 3) (sp_Model_reg (sp_Model_field x0 15 5) h x) (sp_Model_reg (sp_Model_field x0 20 5) h x)) h ca tv nx pcs lv cs x b cl cm so ti pu np hn hh (vp_f5 _ _)) mw_Model_setReg mv_Model_setReg k_790 ⟨rfl, rfl, Nat.le_of_ble_eq_true rfl, Nat.le_of_ble_eq_true rfl⟩ hK hP hD hS hA hF [0, 1, 2, 3, 4, 5, 6, 7, 8, 9] [0, 1, 2, 3, 4, 5, 6, 7, 8] rfl rfl rfl 0 5 rfl rfl rfl rfl hl.1 rfl (Nat.le_of_ble_eq_true rfl) d_Model_reckon_297 ⟨Nat.zero_le _, Nat.zero_le _⟩) hP hD hS hA [0, 1, 2, 3, 4, 5, 6, 7, 8, 9] [] [0, 1, 2, 3, 4, 5, 6, 7, 8, 9] rfl rfl rfl (by decide) (fun _ => rfl) rfl (fun u_52 H locs h_52 hP hD hS => ?_)
          obtain ⟨x_52, e_52⟩ : ∃ z, z = u_52 := ⟨_, rfl⟩
          subst e_52
          exact rv (ca, tv, x_52) hx hb hr hlocks hP hD hS d_Model_reckon_300 (by simp only [sp_Model_reckon, h_52, if_neg (by decide : ¬ (1 : Int32) = 0), if_neg c_9, if_neg c_40, if_pos c_42, if_true, if_false])
        · refine lv_iload hx hb d_Model_reckon_104 (lv_at hl 2 rfl) ?_
          refine lv_iconst (v := 1) hx hb d_Model_reckon_106 rfl ?_
          refine lv_icmp_eq (tgt := 128) hx hb d_Model_reckon_107 (by decide) (fun c_53 => ?_) (fun c_53 => ?_)
          · refine lv_iconst (v := 1) hx hb d_Model_reckon_128 rfl ?_
            refine lv_goto (tgt := 164) hx hb d_Model_reckon_129 (by decide) ?_
            refine lv_istore (lv' := [(9, .int 1), (8, .int 0), (7, .int ((sp_Model_reg (sp_Model_field x0 20 5) h x) &&& 31)), (6, .int (sp_Model_field x0 25 7)), (5, .int (sp_Model_field x0 12 3)), (4, .int (sp_Model_reg (sp_Model_field x0 20 5) h x)), (3, .int (sp_Model_reg (sp_Model_field x0 15 5) h x)), (0, .ref (a 0)), (1, .int x0), (2, .int 1)]) hx hb d_Model_reckon_164 hl (by decide) rfl (fun ls hl => ?_)
            refine lv_iload hx hb d_Model_reckon_166 (lv_at hl 0 rfl) ?_
            refine lv_if_ne (tgt := 178) hx hb d_Model_reckon_168 (by decide) (fun _ => ?_) (fun h9 => absurd h9 (by decide))
            refine lv_iload hx hb d_Model_reckon_178 (lv_at hl 4 rfl) ?_
            refine lv_iconst (v := 5) hx hb d_Model_reckon_180 rfl ?_
            refine lv_icmp_ne (tgt := 205) hx hb d_Model_reckon_181 (by decide) (fun _ => ?_) (fun h9 => absurd h9 c_40)
            refine lv_iload hx hb d_Model_reckon_205 (lv_at hl 4 rfl) ?_
            refine lv_iconst (v := 1) hx hb d_Model_reckon_207 rfl ?_
            refine lv_icmp_ne (tgt := 218) hx hb d_Model_reckon_208 (by decide) (fun _ => ?_) (fun h9 => absurd h9 c_9)
            refine lv_iload hx hb d_Model_reckon_218 (lv_at hl 4 rfl) ?_
            refine lv_iload_n hx hb d_Model_reckon_220 rfl (lv_at hl 6 rfl) ?_
            refine lv_iload hx hb d_Model_reckon_221 (lv_at hl 5 rfl) ?_
            refine xi (wr := [((a 0), .inr (5, [.int (nI n), .ref (a 1), .ref (a 2), .ref (a 3), .ref (a 4), .ref (a 5), .ref (a 6), .ref (a 7), .ref (a 8), .long ti, .ref (a 9), .int np, .int h, .int ca, .int tv, .int nx])), ((a 1), .inl ((k 0), 16384, .inl b)), ((a 2), .inl ((k 1), 64, .inl x)), ((a 3), .inl ((k 2), 2, .inl pcs)), ((a 4), .inl ((k 3), 2, .inl lv)), ((a 5), .inl ((k 4), 8192, .inl cs)), ((a 6), .inl ((k 5), 2, .inl cl)), ((a 7), .inl ((k 6), 2, .inr (.inl cm))), ((a 8), .inl ((k 7), 2, .inl so)), ((a 9), .inl ((k 8), 256, .inl pu))]) (W2 := fun _ => wR a k n h ca tv nx pcs lv cs x b cl cm so ti pu np) (xS (rest := []) ⟨hx, hb, hml, hown, hts⟩ (c_Model_plain (sp_Model_field x0 12 3) (sp_Model_reg (sp_Model_field x0 15 5) h x) (sp_Model_reg (sp_Model_field x0 20 5) h x)) mw_Model_plain ms_Model_plain k_859 ⟨rfl, rfl, Nat.le_of_ble_eq_true rfl, Nat.le_of_ble_eq_true rfl⟩ hK hP hD hS hA hF [] [] rfl rfl rfl rfl hl.1 rfl (Nat.le_of_ble_eq_true rfl) d_Model_reckon_223 ⟨Nat.zero_le _, Nat.zero_le _⟩) hP hD hS hA [] [0, 1, 2, 3, 4, 5, 6, 7, 8, 9] [0, 1, 2, 3, 4, 5, 6, 7, 8, 9] rfl rfl rfl (by decide) (fun _ => rfl) rfl (fun r_57 _ H locs h_57 hP hD hS => ?_)
            subst h_57
            refine lv_istore (lv' := [(10, .int (sp_Model_plain (sp_Model_field x0 12 3) (sp_Model_reg (sp_Model_field x0 15 5) h x) (sp_Model_reg (sp_Model_field x0 20 5) h x))), (9, .int 1), (8, .int 0), (7, .int ((sp_Model_reg (sp_Model_field x0 20 5) h x) &&& 31)), (6, .int (sp_Model_field x0 25 7)), (5, .int (sp_Model_field x0 12 3)), (4, .int (sp_Model_reg (sp_Model_field x0 20 5) h x)), (3, .int (sp_Model_reg (sp_Model_field x0 15 5) h x)), (0, .ref (a 0)), (1, .int x0), (2, .int 1)]) hx hb d_Model_reckon_226 hl (by decide) rfl (fun ls hl => ?_)
            refine lv_iload_n hx hb d_Model_reckon_228 rfl (lv_at hl 10 rfl) ?_
            refine lv_if_eq (tgt := 250) hx hb d_Model_reckon_229 (by decide) (fun h9 => absurd h9 (by decide)) (fun _ => ?_)
            refine lv_iload hx hb d_Model_reckon_232 (lv_at hl 4 rfl) ?_
            refine lv_bipush (v := 32) hx hb d_Model_reckon_234 rfl ?_
            refine lv_icmp_ne (tgt := 250) hx hb d_Model_reckon_236 (by decide) (fun _ => ?_) (fun h9 => absurd h9 (by rw [c_53]; decide))
            refine lv_iload_n hx hb d_Model_reckon_250 rfl (lv_at hl 10 rfl) ?_
            refine lv_if_eq (tgt := 287) hx hb d_Model_reckon_251 (by decide) (fun h9 => absurd h9 (by decide)) (fun _ => ?_)
            refine lv_iload hx hb d_Model_reckon_254 (lv_at hl 4 rfl) ?_
            refine lv_iconst (v := 1) hx hb d_Model_reckon_256 rfl ?_
            refine lv_icmp_ne (tgt := 287) hx hb d_Model_reckon_257 (by decide) (fun h9 => absurd c_53 h9) (fun _ => ?_)
            refine lv_iload hx hb d_Model_reckon_260 (lv_at hl 5 rfl) ?_
            refine lv_iconst (v := 4) hx hb d_Model_reckon_262 rfl ?_
            refine lv_icmp_ge (tgt := 277) hx hb d_Model_reckon_263 (by decide) (fun c_62 => ?_) (fun c_62 => ?_)
            · refine lv_iload hx hb d_Model_reckon_277 (lv_at hl 5 rfl) ?_
              refine lv_iload_n hx hb d_Model_reckon_279 rfl (lv_at hl 7 rfl) ?_
              refine lv_iload hx hb d_Model_reckon_280 (lv_at hl 6 rfl) ?_
              refine xi (wr := [((a 0), .inr (5, [.int (nI n), .ref (a 1), .ref (a 2), .ref (a 3), .ref (a 4), .ref (a 5), .ref (a 6), .ref (a 7), .ref (a 8), .long ti, .ref (a 9), .int np, .int h, .int ca, .int tv, .int nx])), ((a 1), .inl ((k 0), 16384, .inl b)), ((a 2), .inl ((k 1), 64, .inl x)), ((a 3), .inl ((k 2), 2, .inl pcs)), ((a 4), .inl ((k 3), 2, .inl lv)), ((a 5), .inl ((k 4), 8192, .inl cs)), ((a 6), .inl ((k 5), 2, .inl cl)), ((a 7), .inl ((k 6), 2, .inr (.inl cm))), ((a 8), .inl ((k 7), 2, .inl so)), ((a 9), .inl ((k 8), 256, .inl pu))]) (W2 := fun _ => wR a k n h ca tv nx pcs lv cs x b cl cm so ti pu np) (xS (rest := []) ⟨hx, hb, hml, hown, hts⟩ (c_Model_quotient (sp_Model_field x0 12 3) (sp_Model_reg (sp_Model_field x0 15 5) h x) (sp_Model_reg (sp_Model_field x0 20 5) h x)) mw_Model_quotient ms_Model_quotient k_865 ⟨rfl, rfl, Nat.le_of_ble_eq_true rfl, Nat.le_of_ble_eq_true rfl⟩ hK hP hD hS hA hF [] [] rfl rfl rfl rfl hl.1 rfl (Nat.le_of_ble_eq_true rfl) d_Model_reckon_282 ⟨Nat.zero_le _, Nat.zero_le _⟩) hP hD hS hA [] [0, 1, 2, 3, 4, 5, 6, 7, 8, 9] [0, 1, 2, 3, 4, 5, 6, 7, 8, 9] rfl rfl rfl (by decide) (fun _ => rfl) rfl (fun r_63 _ H locs h_63 hP hD hS => ?_)
              subst h_63
              refine lv_istore (lv' := [(10, .int (sp_Model_quotient (sp_Model_field x0 12 3) (sp_Model_reg (sp_Model_field x0 15 5) h x) (sp_Model_reg (sp_Model_field x0 20 5) h x))), (9, .int 1), (8, .int 0), (7, .int ((sp_Model_reg (sp_Model_field x0 20 5) h x) &&& 31)), (6, .int (sp_Model_field x0 25 7)), (5, .int (sp_Model_field x0 12 3)), (4, .int (sp_Model_reg (sp_Model_field x0 20 5) h x)), (3, .int (sp_Model_reg (sp_Model_field x0 15 5) h x)), (0, .ref (a 0)), (1, .int x0), (2, .int 1)]) hx hb d_Model_reckon_285 hl (by decide) rfl (fun ls hl => ?_)
              refine lv_aload_n hx hb d_Model_reckon_287 rfl (lv_at hl 8 rfl) ?_
              refine lv_iload_n hx hb d_Model_reckon_288 rfl (lv_at hl 9 rfl) ?_
              refine lv_bipush (v := 7) hx hb d_Model_reckon_289 rfl ?_
              refine lv_iconst (v := 5) hx hb d_Model_reckon_291 rfl ?_
              refine xi (wr := [((a 0), .inr (5, [.int (nI n), .ref (a 1), .ref (a 2), .ref (a 3), .ref (a 4), .ref (a 5), .ref (a 6), .ref (a 7), .ref (a 8), .long ti, .ref (a 9), .int np, .int h, .int ca, .int tv, .int nx])), ((a 1), .inl ((k 0), 16384, .inl b)), ((a 2), .inl ((k 1), 64, .inl x)), ((a 3), .inl ((k 2), 2, .inl pcs)), ((a 4), .inl ((k 3), 2, .inl lv)), ((a 5), .inl ((k 4), 8192, .inl cs)), ((a 6), .inl ((k 5), 2, .inl cl)), ((a 7), .inl ((k 6), 2, .inr (.inl cm))), ((a 8), .inl ((k 7), 2, .inl so)), ((a 9), .inl ((k 8), 256, .inl pu))]) (W2 := fun _ => wR a k n h ca tv nx pcs lv cs x b cl cm so ti pu np) (xS (rest := [.ref (a 0)]) ⟨hx, hb, hml, hown, hts⟩ (c_Model_field x0 7 5) mw_Model_field ms_Model_field k_787 ⟨rfl, rfl, Nat.le_of_ble_eq_true rfl, Nat.le_of_ble_eq_true rfl⟩ hK hP hD hS hA hF [] [] rfl rfl rfl rfl hl.1 rfl (Nat.le_of_ble_eq_true rfl) d_Model_reckon_292 ⟨Nat.zero_le _, Nat.zero_le _⟩) hP hD hS hA [] [0, 1, 2, 3, 4, 5, 6, 7, 8, 9] [0, 1, 2, 3, 4, 5, 6, 7, 8, 9] rfl rfl rfl (by decide) (fun _ => rfl) rfl (fun r_64 _ H locs h_64 hP hD hS => ?_)
              subst h_64
              refine lv_iload hx hb d_Model_reckon_295 (lv_at hl 0 rfl) ?_
              refine xv (wr := []) (W2 := fun u9 => wR a k n h ca tv nx pcs lv cs u9 b cl cm so ti pu np) (xV (rest := []) ⟨hx, hb, hml, hown, hts⟩ (c_Model_setReg a k n (sp_Model_field x0 7 5) (sp_Model_quotient (sp_Model_field x0 12 3) (sp_Model_reg (sp_Model_field x0 15 5) h x) (sp_Model_reg (sp_Model_field x0 20 5) h x)) h ca tv nx pcs lv cs x b cl cm so ti pu np hn hh (vp_f5 _ _)) mw_Model_setReg mv_Model_setReg k_790 ⟨rfl, rfl, Nat.le_of_ble_eq_true rfl, Nat.le_of_ble_eq_true rfl⟩ hK hP hD hS hA hF [0, 1, 2, 3, 4, 5, 6, 7, 8, 9] [0, 1, 2, 3, 4, 5, 6, 7, 8] rfl rfl rfl 0 5 rfl rfl rfl rfl hl.1 rfl (Nat.le_of_ble_eq_true rfl) d_Model_reckon_297 ⟨Nat.zero_le _, Nat.zero_le _⟩) hP hD hS hA [0, 1, 2, 3, 4, 5, 6, 7, 8, 9] [] [0, 1, 2, 3, 4, 5, 6, 7, 8, 9] rfl rfl rfl (by decide) (fun _ => rfl) rfl (fun u_65 H locs h_65 hP hD hS => ?_)
              obtain ⟨x_65, e_65⟩ : ∃ z, z = u_65 := ⟨_, rfl⟩
              subst e_65
              exact rv (ca, tv, x_65) hx hb hr hlocks hP hD hS d_Model_reckon_300 (by simp only [sp_Model_reckon, h_65, if_neg (by decide : ¬ (1 : Int32) = 0), if_neg c_9, if_neg c_40, if_neg c_42, if_pos c_53, if_pos c_62, if_true, if_false])
            · refine lv_iload hx hb d_Model_reckon_266 (lv_at hl 5 rfl) ?_
              refine lv_iload_n hx hb d_Model_reckon_268 rfl (lv_at hl 7 rfl) ?_
              refine lv_iload hx hb d_Model_reckon_269 (lv_at hl 6 rfl) ?_
              refine xi (wr := [((a 0), .inr (5, [.int (nI n), .ref (a 1), .ref (a 2), .ref (a 3), .ref (a 4), .ref (a 5), .ref (a 6), .ref (a 7), .ref (a 8), .long ti, .ref (a 9), .int np, .int h, .int ca, .int tv, .int nx])), ((a 1), .inl ((k 0), 16384, .inl b)), ((a 2), .inl ((k 1), 64, .inl x)), ((a 3), .inl ((k 2), 2, .inl pcs)), ((a 4), .inl ((k 3), 2, .inl lv)), ((a 5), .inl ((k 4), 8192, .inl cs)), ((a 6), .inl ((k 5), 2, .inl cl)), ((a 7), .inl ((k 6), 2, .inr (.inl cm))), ((a 8), .inl ((k 7), 2, .inl so)), ((a 9), .inl ((k 8), 256, .inl pu))]) (W2 := fun _ => wR a k n h ca tv nx pcs lv cs x b cl cm so ti pu np) (xS (rest := []) ⟨hx, hb, hml, hown, hts⟩ (c_Model_product (sp_Model_field x0 12 3) (sp_Model_reg (sp_Model_field x0 15 5) h x) (sp_Model_reg (sp_Model_field x0 20 5) h x)) mw_Model_product ms_Model_product k_862 ⟨rfl, rfl, Nat.le_of_ble_eq_true rfl, Nat.le_of_ble_eq_true rfl⟩ hK hP hD hS hA hF [] [] rfl rfl rfl rfl hl.1 rfl (Nat.le_of_ble_eq_true rfl) d_Model_reckon_271 ⟨Nat.zero_le _, Nat.zero_le _⟩) hP hD hS hA [] [0, 1, 2, 3, 4, 5, 6, 7, 8, 9] [0, 1, 2, 3, 4, 5, 6, 7, 8, 9] rfl rfl rfl (by decide) (fun _ => rfl) rfl (fun r_66 _ H locs h_66 hP hD hS => ?_)
              subst h_66
              refine lv_goto (tgt := 285) hx hb d_Model_reckon_274 (by decide) ?_
              refine lv_istore (lv' := [(10, .int (sp_Model_product (sp_Model_field x0 12 3) (sp_Model_reg (sp_Model_field x0 15 5) h x) (sp_Model_reg (sp_Model_field x0 20 5) h x))), (9, .int 1), (8, .int 0), (7, .int ((sp_Model_reg (sp_Model_field x0 20 5) h x) &&& 31)), (6, .int (sp_Model_field x0 25 7)), (5, .int (sp_Model_field x0 12 3)), (4, .int (sp_Model_reg (sp_Model_field x0 20 5) h x)), (3, .int (sp_Model_reg (sp_Model_field x0 15 5) h x)), (0, .ref (a 0)), (1, .int x0), (2, .int 1)]) hx hb d_Model_reckon_285 hl (by decide) rfl (fun ls hl => ?_)
              refine lv_aload_n hx hb d_Model_reckon_287 rfl (lv_at hl 8 rfl) ?_
              refine lv_iload_n hx hb d_Model_reckon_288 rfl (lv_at hl 9 rfl) ?_
              refine lv_bipush (v := 7) hx hb d_Model_reckon_289 rfl ?_
              refine lv_iconst (v := 5) hx hb d_Model_reckon_291 rfl ?_
              refine xi (wr := [((a 0), .inr (5, [.int (nI n), .ref (a 1), .ref (a 2), .ref (a 3), .ref (a 4), .ref (a 5), .ref (a 6), .ref (a 7), .ref (a 8), .long ti, .ref (a 9), .int np, .int h, .int ca, .int tv, .int nx])), ((a 1), .inl ((k 0), 16384, .inl b)), ((a 2), .inl ((k 1), 64, .inl x)), ((a 3), .inl ((k 2), 2, .inl pcs)), ((a 4), .inl ((k 3), 2, .inl lv)), ((a 5), .inl ((k 4), 8192, .inl cs)), ((a 6), .inl ((k 5), 2, .inl cl)), ((a 7), .inl ((k 6), 2, .inr (.inl cm))), ((a 8), .inl ((k 7), 2, .inl so)), ((a 9), .inl ((k 8), 256, .inl pu))]) (W2 := fun _ => wR a k n h ca tv nx pcs lv cs x b cl cm so ti pu np) (xS (rest := [.ref (a 0)]) ⟨hx, hb, hml, hown, hts⟩ (c_Model_field x0 7 5) mw_Model_field ms_Model_field k_787 ⟨rfl, rfl, Nat.le_of_ble_eq_true rfl, Nat.le_of_ble_eq_true rfl⟩ hK hP hD hS hA hF [] [] rfl rfl rfl rfl hl.1 rfl (Nat.le_of_ble_eq_true rfl) d_Model_reckon_292 ⟨Nat.zero_le _, Nat.zero_le _⟩) hP hD hS hA [] [0, 1, 2, 3, 4, 5, 6, 7, 8, 9] [0, 1, 2, 3, 4, 5, 6, 7, 8, 9] rfl rfl rfl (by decide) (fun _ => rfl) rfl (fun r_67 _ H locs h_67 hP hD hS => ?_)
              subst h_67
              refine lv_iload hx hb d_Model_reckon_295 (lv_at hl 0 rfl) ?_
              refine xv (wr := []) (W2 := fun u9 => wR a k n h ca tv nx pcs lv cs u9 b cl cm so ti pu np) (xV (rest := []) ⟨hx, hb, hml, hown, hts⟩ (c_Model_setReg a k n (sp_Model_field x0 7 5) (sp_Model_product (sp_Model_field x0 12 3) (sp_Model_reg (sp_Model_field x0 15 5) h x) (sp_Model_reg (sp_Model_field x0 20 5) h x)) h ca tv nx pcs lv cs x b cl cm so ti pu np hn hh (vp_f5 _ _)) mw_Model_setReg mv_Model_setReg k_790 ⟨rfl, rfl, Nat.le_of_ble_eq_true rfl, Nat.le_of_ble_eq_true rfl⟩ hK hP hD hS hA hF [0, 1, 2, 3, 4, 5, 6, 7, 8, 9] [0, 1, 2, 3, 4, 5, 6, 7, 8] rfl rfl rfl 0 5 rfl rfl rfl rfl hl.1 rfl (Nat.le_of_ble_eq_true rfl) d_Model_reckon_297 ⟨Nat.zero_le _, Nat.zero_le _⟩) hP hD hS hA [0, 1, 2, 3, 4, 5, 6, 7, 8, 9] [] [0, 1, 2, 3, 4, 5, 6, 7, 8, 9] rfl rfl rfl (by decide) (fun _ => rfl) rfl (fun u_68 H locs h_68 hP hD hS => ?_)
              obtain ⟨x_68, e_68⟩ : ∃ z, z = u_68 := ⟨_, rfl⟩
              subst e_68
              exact rv (ca, tv, x_68) hx hb hr hlocks hP hD hS d_Model_reckon_300 (by simp only [sp_Model_reckon, h_68, if_neg (by decide : ¬ (1 : Int32) = 0), if_neg c_9, if_neg c_40, if_neg c_42, if_pos c_53, if_neg c_62, if_true, if_false])
          · refine lv_iload hx hb d_Model_reckon_110 (lv_at hl 2 rfl) ?_
            refine lv_bipush (v := 32) hx hb d_Model_reckon_112 rfl ?_
            refine lv_icmp_ne (tgt := 132) hx hb d_Model_reckon_114 (by decide) (fun c_69 => ?_) (fun c_69 => ?_)
            · refine lv_iconst (v := 0) hx hb d_Model_reckon_132 rfl ?_
              refine lv_goto (tgt := 164) hx hb d_Model_reckon_133 (by decide) ?_
              refine lv_istore (lv' := [(9, .int 0), (8, .int 0), (7, .int ((sp_Model_reg (sp_Model_field x0 20 5) h x) &&& 31)), (6, .int (sp_Model_field x0 25 7)), (5, .int (sp_Model_field x0 12 3)), (4, .int (sp_Model_reg (sp_Model_field x0 20 5) h x)), (3, .int (sp_Model_reg (sp_Model_field x0 15 5) h x)), (0, .ref (a 0)), (1, .int x0), (2, .int 1)]) hx hb d_Model_reckon_164 hl (by decide) rfl (fun ls hl => ?_)
              refine lv_iload hx hb d_Model_reckon_166 (lv_at hl 0 rfl) ?_
              refine lv_if_ne (tgt := 178) hx hb d_Model_reckon_168 (by decide) (fun h9 => absurd (by decide) h9) (fun _ => ?_)
              refine lv_aload_n hx hb d_Model_reckon_171 rfl (lv_at hl 7 rfl) ?_
              refine lv_iconst (v := 2) hx hb d_Model_reckon_172 rfl ?_
              refine lv_iload_n hx hb d_Model_reckon_173 rfl (lv_at hl 8 rfl) ?_
              refine xv (wr := []) (W2 := fun u9 => wR a k n h u9.1 u9.2 nx pcs lv cs x b cl cm so ti pu np) (xV (rest := []) ⟨hx, hb, hml, hown, hts⟩ (c_Model_trap a k n 2 x0 h ca tv nx pcs lv cs x b cl cm so ti pu np hn) mw_Model_trap mv_Model_trap k_763 ⟨rfl, rfl, Nat.le_of_ble_eq_true rfl, Nat.le_of_ble_eq_true rfl⟩ hK hP hD hS hA hF [0, 1, 2, 3, 4, 5, 6, 7, 8, 9] [0, 1, 2, 3, 4, 5, 6, 7, 8] rfl rfl rfl 0 5 rfl rfl rfl rfl hl.1 rfl (Nat.le_of_ble_eq_true rfl) d_Model_reckon_174 ⟨Nat.zero_le _, Nat.zero_le _⟩) hP hD hS hA [0, 1, 2, 3, 4, 5, 6, 7, 8, 9] [] [0, 1, 2, 3, 4, 5, 6, 7, 8, 9] rfl rfl rfl (by decide) (fun _ => rfl) rfl (fun u_71 H locs h_71 hP hD hS => ?_)
              obtain ⟨ca_71, tv_71⟩ := u_71
              dsimp only at hP hD
              exact rv (ca_71, tv_71, x) hx hb hr hlocks hP hD hS d_Model_reckon_177 (by simp only [sp_Model_reckon, h_71, if_neg (by decide : ¬ (1 : Int32) = 0), if_neg c_9, if_neg c_40, if_neg c_42, if_neg c_53, if_neg c_69, if_true, if_false])
            · refine lv_iload hx hb d_Model_reckon_117 (lv_at hl 3 rfl) ?_
              refine lv_if_eq (tgt := 128) hx hb d_Model_reckon_119 (by decide) (fun c_72 => ?_) (fun c_72 => ?_)
              · refine lv_iconst (v := 1) hx hb d_Model_reckon_128 rfl ?_
                refine lv_goto (tgt := 164) hx hb d_Model_reckon_129 (by decide) ?_
                refine lv_istore (lv' := [(9, .int 1), (8, .int 0), (7, .int ((sp_Model_reg (sp_Model_field x0 20 5) h x) &&& 31)), (6, .int (sp_Model_field x0 25 7)), (5, .int (sp_Model_field x0 12 3)), (4, .int (sp_Model_reg (sp_Model_field x0 20 5) h x)), (3, .int (sp_Model_reg (sp_Model_field x0 15 5) h x)), (0, .ref (a 0)), (1, .int x0), (2, .int 1)]) hx hb d_Model_reckon_164 hl (by decide) rfl (fun ls hl => ?_)
                refine lv_iload hx hb d_Model_reckon_166 (lv_at hl 0 rfl) ?_
                refine lv_if_ne (tgt := 178) hx hb d_Model_reckon_168 (by decide) (fun _ => ?_) (fun h9 => absurd h9 (by decide))
                refine lv_iload hx hb d_Model_reckon_178 (lv_at hl 4 rfl) ?_
                refine lv_iconst (v := 5) hx hb d_Model_reckon_180 rfl ?_
                refine lv_icmp_ne (tgt := 205) hx hb d_Model_reckon_181 (by decide) (fun _ => ?_) (fun h9 => absurd h9 c_40)
                refine lv_iload hx hb d_Model_reckon_205 (lv_at hl 4 rfl) ?_
                refine lv_iconst (v := 1) hx hb d_Model_reckon_207 rfl ?_
                refine lv_icmp_ne (tgt := 218) hx hb d_Model_reckon_208 (by decide) (fun _ => ?_) (fun h9 => absurd h9 c_9)
                refine lv_iload hx hb d_Model_reckon_218 (lv_at hl 4 rfl) ?_
                refine lv_iload_n hx hb d_Model_reckon_220 rfl (lv_at hl 6 rfl) ?_
                refine lv_iload hx hb d_Model_reckon_221 (lv_at hl 5 rfl) ?_
                refine xi (wr := [((a 0), .inr (5, [.int (nI n), .ref (a 1), .ref (a 2), .ref (a 3), .ref (a 4), .ref (a 5), .ref (a 6), .ref (a 7), .ref (a 8), .long ti, .ref (a 9), .int np, .int h, .int ca, .int tv, .int nx])), ((a 1), .inl ((k 0), 16384, .inl b)), ((a 2), .inl ((k 1), 64, .inl x)), ((a 3), .inl ((k 2), 2, .inl pcs)), ((a 4), .inl ((k 3), 2, .inl lv)), ((a 5), .inl ((k 4), 8192, .inl cs)), ((a 6), .inl ((k 5), 2, .inl cl)), ((a 7), .inl ((k 6), 2, .inr (.inl cm))), ((a 8), .inl ((k 7), 2, .inl so)), ((a 9), .inl ((k 8), 256, .inl pu))]) (W2 := fun _ => wR a k n h ca tv nx pcs lv cs x b cl cm so ti pu np) (xS (rest := []) ⟨hx, hb, hml, hown, hts⟩ (c_Model_plain (sp_Model_field x0 12 3) (sp_Model_reg (sp_Model_field x0 15 5) h x) (sp_Model_reg (sp_Model_field x0 20 5) h x)) mw_Model_plain ms_Model_plain k_859 ⟨rfl, rfl, Nat.le_of_ble_eq_true rfl, Nat.le_of_ble_eq_true rfl⟩ hK hP hD hS hA hF [] [] rfl rfl rfl rfl hl.1 rfl (Nat.le_of_ble_eq_true rfl) d_Model_reckon_223 ⟨Nat.zero_le _, Nat.zero_le _⟩) hP hD hS hA [] [0, 1, 2, 3, 4, 5, 6, 7, 8, 9] [0, 1, 2, 3, 4, 5, 6, 7, 8, 9] rfl rfl rfl (by decide) (fun _ => rfl) rfl (fun r_76 _ H locs h_76 hP hD hS => ?_)
                subst h_76
                refine lv_istore (lv' := [(10, .int (sp_Model_plain (sp_Model_field x0 12 3) (sp_Model_reg (sp_Model_field x0 15 5) h x) (sp_Model_reg (sp_Model_field x0 20 5) h x))), (9, .int 1), (8, .int 0), (7, .int ((sp_Model_reg (sp_Model_field x0 20 5) h x) &&& 31)), (6, .int (sp_Model_field x0 25 7)), (5, .int (sp_Model_field x0 12 3)), (4, .int (sp_Model_reg (sp_Model_field x0 20 5) h x)), (3, .int (sp_Model_reg (sp_Model_field x0 15 5) h x)), (0, .ref (a 0)), (1, .int x0), (2, .int 1)]) hx hb d_Model_reckon_226 hl (by decide) rfl (fun ls hl => ?_)
                refine lv_iload_n hx hb d_Model_reckon_228 rfl (lv_at hl 10 rfl) ?_
                refine lv_if_eq (tgt := 250) hx hb d_Model_reckon_229 (by decide) (fun h9 => absurd h9 (by decide)) (fun _ => ?_)
                refine lv_iload hx hb d_Model_reckon_232 (lv_at hl 4 rfl) ?_
                refine lv_bipush (v := 32) hx hb d_Model_reckon_234 rfl ?_
                refine lv_icmp_ne (tgt := 250) hx hb d_Model_reckon_236 (by decide) (fun h9 => absurd c_69 h9) (fun _ => ?_)
                refine lv_iload hx hb d_Model_reckon_239 (lv_at hl 5 rfl) ?_
                refine lv_if_ne (tgt := 250) hx hb d_Model_reckon_241 (by decide) (fun h9 => absurd c_72 h9) (fun _ => ?_)
                refine lv_iload_n hx hb d_Model_reckon_244 rfl (lv_at hl 7 rfl) ?_
                refine lv_iload hx hb d_Model_reckon_245 (lv_at hl 6 rfl) ?_
                refine lv_isub hx hb d_Model_reckon_247 ?_
                refine lv_istore (lv' := [(10, .int ((sp_Model_reg (sp_Model_field x0 15 5) h x) - (sp_Model_reg (sp_Model_field x0 20 5) h x))), (9, .int 1), (8, .int 0), (7, .int ((sp_Model_reg (sp_Model_field x0 20 5) h x) &&& 31)), (6, .int (sp_Model_field x0 25 7)), (5, .int (sp_Model_field x0 12 3)), (4, .int (sp_Model_reg (sp_Model_field x0 20 5) h x)), (3, .int (sp_Model_reg (sp_Model_field x0 15 5) h x)), (0, .ref (a 0)), (1, .int x0), (2, .int 1)]) hx hb d_Model_reckon_248 hl (by decide) rfl (fun ls hl => ?_)
                refine lv_iload_n hx hb d_Model_reckon_250 rfl (lv_at hl 10 rfl) ?_
                refine lv_if_eq (tgt := 287) hx hb d_Model_reckon_251 (by decide) (fun h9 => absurd h9 (by decide)) (fun _ => ?_)
                refine lv_iload hx hb d_Model_reckon_254 (lv_at hl 4 rfl) ?_
                refine lv_iconst (v := 1) hx hb d_Model_reckon_256 rfl ?_
                refine lv_icmp_ne (tgt := 287) hx hb d_Model_reckon_257 (by decide) (fun _ => ?_) (fun h9 => absurd h9 c_53)
                refine lv_aload_n hx hb d_Model_reckon_287 rfl (lv_at hl 8 rfl) ?_
                refine lv_iload_n hx hb d_Model_reckon_288 rfl (lv_at hl 9 rfl) ?_
                refine lv_bipush (v := 7) hx hb d_Model_reckon_289 rfl ?_
                refine lv_iconst (v := 5) hx hb d_Model_reckon_291 rfl ?_
                refine xi (wr := [((a 0), .inr (5, [.int (nI n), .ref (a 1), .ref (a 2), .ref (a 3), .ref (a 4), .ref (a 5), .ref (a 6), .ref (a 7), .ref (a 8), .long ti, .ref (a 9), .int np, .int h, .int ca, .int tv, .int nx])), ((a 1), .inl ((k 0), 16384, .inl b)), ((a 2), .inl ((k 1), 64, .inl x)), ((a 3), .inl ((k 2), 2, .inl pcs)), ((a 4), .inl ((k 3), 2, .inl lv)), ((a 5), .inl ((k 4), 8192, .inl cs)), ((a 6), .inl ((k 5), 2, .inl cl)), ((a 7), .inl ((k 6), 2, .inr (.inl cm))), ((a 8), .inl ((k 7), 2, .inl so)), ((a 9), .inl ((k 8), 256, .inl pu))]) (W2 := fun _ => wR a k n h ca tv nx pcs lv cs x b cl cm so ti pu np) (xS (rest := [.ref (a 0)]) ⟨hx, hb, hml, hown, hts⟩ (c_Model_field x0 7 5) mw_Model_field ms_Model_field k_787 ⟨rfl, rfl, Nat.le_of_ble_eq_true rfl, Nat.le_of_ble_eq_true rfl⟩ hK hP hD hS hA hF [] [] rfl rfl rfl rfl hl.1 rfl (Nat.le_of_ble_eq_true rfl) d_Model_reckon_292 ⟨Nat.zero_le _, Nat.zero_le _⟩) hP hD hS hA [] [0, 1, 2, 3, 4, 5, 6, 7, 8, 9] [0, 1, 2, 3, 4, 5, 6, 7, 8, 9] rfl rfl rfl (by decide) (fun _ => rfl) rfl (fun r_82 _ H locs h_82 hP hD hS => ?_)
                subst h_82
                refine lv_iload hx hb d_Model_reckon_295 (lv_at hl 0 rfl) ?_
                refine xv (wr := []) (W2 := fun u9 => wR a k n h ca tv nx pcs lv cs u9 b cl cm so ti pu np) (xV (rest := []) ⟨hx, hb, hml, hown, hts⟩ (c_Model_setReg a k n (sp_Model_field x0 7 5) ((sp_Model_reg (sp_Model_field x0 15 5) h x) - (sp_Model_reg (sp_Model_field x0 20 5) h x)) h ca tv nx pcs lv cs x b cl cm so ti pu np hn hh (vp_f5 _ _)) mw_Model_setReg mv_Model_setReg k_790 ⟨rfl, rfl, Nat.le_of_ble_eq_true rfl, Nat.le_of_ble_eq_true rfl⟩ hK hP hD hS hA hF [0, 1, 2, 3, 4, 5, 6, 7, 8, 9] [0, 1, 2, 3, 4, 5, 6, 7, 8] rfl rfl rfl 0 5 rfl rfl rfl rfl hl.1 rfl (Nat.le_of_ble_eq_true rfl) d_Model_reckon_297 ⟨Nat.zero_le _, Nat.zero_le _⟩) hP hD hS hA [0, 1, 2, 3, 4, 5, 6, 7, 8, 9] [] [0, 1, 2, 3, 4, 5, 6, 7, 8, 9] rfl rfl rfl (by decide) (fun _ => rfl) rfl (fun u_83 H locs h_83 hP hD hS => ?_)
                obtain ⟨x_83, e_83⟩ : ∃ z, z = u_83 := ⟨_, rfl⟩
                subst e_83
                exact rv (ca, tv, x_83) hx hb hr hlocks hP hD hS d_Model_reckon_300 (by simp only [sp_Model_reckon, h_83, if_neg (by decide : ¬ (1 : Int32) = 0), if_neg c_9, if_neg c_40, if_neg c_42, if_neg c_53, if_pos c_69, if_pos c_72, if_true, if_false])
              · refine lv_iload hx hb d_Model_reckon_122 (lv_at hl 3 rfl) ?_
                refine lv_iconst (v := 5) hx hb d_Model_reckon_124 rfl ?_
                refine lv_icmp_ne (tgt := 132) hx hb d_Model_reckon_125 (by decide) (fun _ => ?_) (fun h9 => absurd h9 c_40)
                refine lv_iconst (v := 0) hx hb d_Model_reckon_132 rfl ?_
                refine lv_goto (tgt := 164) hx hb d_Model_reckon_133 (by decide) ?_
                refine lv_istore (lv' := [(9, .int 0), (8, .int 0), (7, .int ((sp_Model_reg (sp_Model_field x0 20 5) h x) &&& 31)), (6, .int (sp_Model_field x0 25 7)), (5, .int (sp_Model_field x0 12 3)), (4, .int (sp_Model_reg (sp_Model_field x0 20 5) h x)), (3, .int (sp_Model_reg (sp_Model_field x0 15 5) h x)), (0, .ref (a 0)), (1, .int x0), (2, .int 1)]) hx hb d_Model_reckon_164 hl (by decide) rfl (fun ls hl => ?_)
                refine lv_iload hx hb d_Model_reckon_166 (lv_at hl 0 rfl) ?_
                refine lv_if_ne (tgt := 178) hx hb d_Model_reckon_168 (by decide) (fun h9 => absurd (by decide) h9) (fun _ => ?_)
                refine lv_aload_n hx hb d_Model_reckon_171 rfl (lv_at hl 7 rfl) ?_
                refine lv_iconst (v := 2) hx hb d_Model_reckon_172 rfl ?_
                refine lv_iload_n hx hb d_Model_reckon_173 rfl (lv_at hl 8 rfl) ?_
                refine xv (wr := []) (W2 := fun u9 => wR a k n h u9.1 u9.2 nx pcs lv cs x b cl cm so ti pu np) (xV (rest := []) ⟨hx, hb, hml, hown, hts⟩ (c_Model_trap a k n 2 x0 h ca tv nx pcs lv cs x b cl cm so ti pu np hn) mw_Model_trap mv_Model_trap k_763 ⟨rfl, rfl, Nat.le_of_ble_eq_true rfl, Nat.le_of_ble_eq_true rfl⟩ hK hP hD hS hA hF [0, 1, 2, 3, 4, 5, 6, 7, 8, 9] [0, 1, 2, 3, 4, 5, 6, 7, 8] rfl rfl rfl 0 5 rfl rfl rfl rfl hl.1 rfl (Nat.le_of_ble_eq_true rfl) d_Model_reckon_174 ⟨Nat.zero_le _, Nat.zero_le _⟩) hP hD hS hA [0, 1, 2, 3, 4, 5, 6, 7, 8, 9] [] [0, 1, 2, 3, 4, 5, 6, 7, 8, 9] rfl rfl rfl (by decide) (fun _ => rfl) rfl (fun u_86 H locs h_86 hP hD hS => ?_)
                obtain ⟨ca_86, tv_86⟩ := u_86
                dsimp only at hP hD
                exact rv (ca_86, tv_86, x) hx hb hr hlocks hP hD hS d_Model_reckon_177 (by simp only [sp_Model_reckon, h_86, if_neg (by decide : ¬ (1 : Int32) = 0), if_neg c_9, if_neg c_40, if_neg c_42, if_neg c_53, if_pos c_69, if_neg c_72, if_true, if_false])
      · refine lv_iconst (v := 1) hx hb d_Model_reckon_88 rfl ?_
        refine lv_goto (tgt := 93) hx hb d_Model_reckon_89 (by decide) ?_
        refine lv_istore (lv' := [(8, .int 1), (7, .int ((sp_Model_reg (sp_Model_field x0 20 5) h x) &&& 31)), (6, .int (sp_Model_field x0 25 7)), (5, .int (sp_Model_field x0 12 3)), (4, .int (sp_Model_reg (sp_Model_field x0 20 5) h x)), (3, .int (sp_Model_reg (sp_Model_field x0 15 5) h x)), (0, .ref (a 0)), (1, .int x0), (2, .int 1)]) hx hb d_Model_reckon_93 hl (by decide) rfl (fun ls hl => ?_)
        refine lv_iload_n hx hb d_Model_reckon_95 rfl (lv_at hl 8 rfl) ?_
        refine lv_if_eq (tgt := 136) hx hb d_Model_reckon_96 (by decide) (fun h9 => absurd h9 (by decide)) (fun _ => ?_)
        refine lv_iload hx hb d_Model_reckon_99 (lv_at hl 2 rfl) ?_
        refine lv_if_eq (tgt := 128) hx hb d_Model_reckon_101 (by decide) (fun c_88 => ?_) (fun c_88 => ?_)
        · refine lv_iconst (v := 1) hx hb d_Model_reckon_128 rfl ?_
          refine lv_goto (tgt := 164) hx hb d_Model_reckon_129 (by decide) ?_
          refine lv_istore (lv' := [(9, .int 1), (8, .int 1), (7, .int ((sp_Model_reg (sp_Model_field x0 20 5) h x) &&& 31)), (6, .int (sp_Model_field x0 25 7)), (5, .int (sp_Model_field x0 12 3)), (4, .int (sp_Model_reg (sp_Model_field x0 20 5) h x)), (3, .int (sp_Model_reg (sp_Model_field x0 15 5) h x)), (0, .ref (a 0)), (1, .int x0), (2, .int 1)]) hx hb d_Model_reckon_164 hl (by decide) rfl (fun ls hl => ?_)
          refine lv_iload hx hb d_Model_reckon_166 (lv_at hl 0 rfl) ?_
          refine lv_if_ne (tgt := 178) hx hb d_Model_reckon_168 (by decide) (fun _ => ?_) (fun h9 => absurd h9 (by decide))
          refine lv_iload hx hb d_Model_reckon_178 (lv_at hl 4 rfl) ?_
          refine lv_iconst (v := 5) hx hb d_Model_reckon_180 rfl ?_
          refine lv_icmp_ne (tgt := 205) hx hb d_Model_reckon_181 (by decide) (fun h9 => absurd c_40 h9) (fun _ => ?_)
          refine lv_iload_n hx hb d_Model_reckon_184 rfl (lv_at hl 6 rfl) ?_
          refine lv_iload hx hb d_Model_reckon_185 (lv_at hl 2 rfl) ?_
          refine lv_iload hx hb d_Model_reckon_187 (lv_at hl 3 rfl) ?_
          refine lv_bipush (v := 32) hx hb d_Model_reckon_189 rfl ?_
          refine lv_icmp_ne (tgt := 198) hx hb d_Model_reckon_191 (by decide) (fun _ => ?_) (fun h9 => absurd h9 (by rw [c_88]; decide))
          refine lv_iconst (v := 0) hx hb d_Model_reckon_198 rfl ?_
          refine xi (wr := [((a 0), .inr (5, [.int (nI n), .ref (a 1), .ref (a 2), .ref (a 3), .ref (a 4), .ref (a 5), .ref (a 6), .ref (a 7), .ref (a 8), .long ti, .ref (a 9), .int np, .int h, .int ca, .int tv, .int nx])), ((a 1), .inl ((k 0), 16384, .inl b)), ((a 2), .inl ((k 1), 64, .inl x)), ((a 3), .inl ((k 2), 2, .inl pcs)), ((a 4), .inl ((k 3), 2, .inl lv)), ((a 5), .inl ((k 4), 8192, .inl cs)), ((a 6), .inl ((k 5), 2, .inl cl)), ((a 7), .inl ((k 6), 2, .inr (.inl cm))), ((a 8), .inl ((k 7), 2, .inl so)), ((a 9), .inl ((k 8), 256, .inl pu))]) (W2 := fun _ => wR a k n h ca tv nx pcs lv cs x b cl cm so ti pu np) (xS (rest := []) ⟨hx, hb, hml, hown, hts⟩ (c_Model_shifted (sp_Model_reg (sp_Model_field x0 15 5) h x) ((sp_Model_reg (sp_Model_field x0 20 5) h x) &&& 31) 0) mw_Model_shifted ms_Model_shifted k_856 ⟨rfl, rfl, Nat.le_of_ble_eq_true rfl, Nat.le_of_ble_eq_true rfl⟩ hK hP hD hS hA hF [] [] rfl rfl rfl rfl hl.1 rfl (Nat.le_of_ble_eq_true rfl) d_Model_reckon_199 ⟨Nat.zero_le _, Nat.zero_le _⟩) hP hD hS hA [] [0, 1, 2, 3, 4, 5, 6, 7, 8, 9] [0, 1, 2, 3, 4, 5, 6, 7, 8, 9] rfl rfl rfl (by decide) (fun _ => rfl) rfl (fun r_92 _ H locs h_92 hP hD hS => ?_)
          subst h_92
          refine lv_goto (tgt := 226) hx hb d_Model_reckon_202 (by decide) ?_
          refine lv_istore (lv' := [(10, .int (sp_Model_shifted (sp_Model_reg (sp_Model_field x0 15 5) h x) ((sp_Model_reg (sp_Model_field x0 20 5) h x) &&& 31) 0)), (9, .int 1), (8, .int 1), (7, .int ((sp_Model_reg (sp_Model_field x0 20 5) h x) &&& 31)), (6, .int (sp_Model_field x0 25 7)), (5, .int (sp_Model_field x0 12 3)), (4, .int (sp_Model_reg (sp_Model_field x0 20 5) h x)), (3, .int (sp_Model_reg (sp_Model_field x0 15 5) h x)), (0, .ref (a 0)), (1, .int x0), (2, .int 1)]) hx hb d_Model_reckon_226 hl (by decide) rfl (fun ls hl => ?_)
          refine lv_iload_n hx hb d_Model_reckon_228 rfl (lv_at hl 10 rfl) ?_
          refine lv_if_eq (tgt := 250) hx hb d_Model_reckon_229 (by decide) (fun h9 => absurd h9 (by decide)) (fun _ => ?_)
          refine lv_iload hx hb d_Model_reckon_232 (lv_at hl 4 rfl) ?_
          refine lv_bipush (v := 32) hx hb d_Model_reckon_234 rfl ?_
          refine lv_icmp_ne (tgt := 250) hx hb d_Model_reckon_236 (by decide) (fun _ => ?_) (fun h9 => absurd h9 (by rw [c_88]; decide))
          refine lv_iload_n hx hb d_Model_reckon_250 rfl (lv_at hl 10 rfl) ?_
          refine lv_if_eq (tgt := 287) hx hb d_Model_reckon_251 (by decide) (fun h9 => absurd h9 (by decide)) (fun _ => ?_)
          refine lv_iload hx hb d_Model_reckon_254 (lv_at hl 4 rfl) ?_
          refine lv_iconst (v := 1) hx hb d_Model_reckon_256 rfl ?_
          refine lv_icmp_ne (tgt := 287) hx hb d_Model_reckon_257 (by decide) (fun _ => ?_) (fun h9 => absurd h9 (by rw [c_88]; decide))
          refine lv_aload_n hx hb d_Model_reckon_287 rfl (lv_at hl 8 rfl) ?_
          refine lv_iload_n hx hb d_Model_reckon_288 rfl (lv_at hl 9 rfl) ?_
          refine lv_bipush (v := 7) hx hb d_Model_reckon_289 rfl ?_
          refine lv_iconst (v := 5) hx hb d_Model_reckon_291 rfl ?_
          refine xi (wr := [((a 0), .inr (5, [.int (nI n), .ref (a 1), .ref (a 2), .ref (a 3), .ref (a 4), .ref (a 5), .ref (a 6), .ref (a 7), .ref (a 8), .long ti, .ref (a 9), .int np, .int h, .int ca, .int tv, .int nx])), ((a 1), .inl ((k 0), 16384, .inl b)), ((a 2), .inl ((k 1), 64, .inl x)), ((a 3), .inl ((k 2), 2, .inl pcs)), ((a 4), .inl ((k 3), 2, .inl lv)), ((a 5), .inl ((k 4), 8192, .inl cs)), ((a 6), .inl ((k 5), 2, .inl cl)), ((a 7), .inl ((k 6), 2, .inr (.inl cm))), ((a 8), .inl ((k 7), 2, .inl so)), ((a 9), .inl ((k 8), 256, .inl pu))]) (W2 := fun _ => wR a k n h ca tv nx pcs lv cs x b cl cm so ti pu np) (xS (rest := [.ref (a 0)]) ⟨hx, hb, hml, hown, hts⟩ (c_Model_field x0 7 5) mw_Model_field ms_Model_field k_787 ⟨rfl, rfl, Nat.le_of_ble_eq_true rfl, Nat.le_of_ble_eq_true rfl⟩ hK hP hD hS hA hF [] [] rfl rfl rfl rfl hl.1 rfl (Nat.le_of_ble_eq_true rfl) d_Model_reckon_292 ⟨Nat.zero_le _, Nat.zero_le _⟩) hP hD hS hA [] [0, 1, 2, 3, 4, 5, 6, 7, 8, 9] [0, 1, 2, 3, 4, 5, 6, 7, 8, 9] rfl rfl rfl (by decide) (fun _ => rfl) rfl (fun r_97 _ H locs h_97 hP hD hS => ?_)
          subst h_97
          refine lv_iload hx hb d_Model_reckon_295 (lv_at hl 0 rfl) ?_
          refine xv (wr := []) (W2 := fun u9 => wR a k n h ca tv nx pcs lv cs u9 b cl cm so ti pu np) (xV (rest := []) ⟨hx, hb, hml, hown, hts⟩ (c_Model_setReg a k n (sp_Model_field x0 7 5) (sp_Model_shifted (sp_Model_reg (sp_Model_field x0 15 5) h x) ((sp_Model_reg (sp_Model_field x0 20 5) h x) &&& 31) 0) h ca tv nx pcs lv cs x b cl cm so ti pu np hn hh (vp_f5 _ _)) mw_Model_setReg mv_Model_setReg k_790 ⟨rfl, rfl, Nat.le_of_ble_eq_true rfl, Nat.le_of_ble_eq_true rfl⟩ hK hP hD hS hA hF [0, 1, 2, 3, 4, 5, 6, 7, 8, 9] [0, 1, 2, 3, 4, 5, 6, 7, 8] rfl rfl rfl 0 5 rfl rfl rfl rfl hl.1 rfl (Nat.le_of_ble_eq_true rfl) d_Model_reckon_297 ⟨Nat.zero_le _, Nat.zero_le _⟩) hP hD hS hA [0, 1, 2, 3, 4, 5, 6, 7, 8, 9] [] [0, 1, 2, 3, 4, 5, 6, 7, 8, 9] rfl rfl rfl (by decide) (fun _ => rfl) rfl (fun u_98 H locs h_98 hP hD hS => ?_)
          obtain ⟨x_98, e_98⟩ : ∃ z, z = u_98 := ⟨_, rfl⟩
          subst e_98
          exact rv (ca, tv, x_98) hx hb hr hlocks hP hD hS d_Model_reckon_300 (by simp only [sp_Model_reckon, h_98, if_neg (by decide : ¬ (1 : Int32) = 0), if_neg c_9, if_pos c_40, if_pos c_88, if_true, if_false])
        · refine lv_iload hx hb d_Model_reckon_104 (lv_at hl 2 rfl) ?_
          refine lv_iconst (v := 1) hx hb d_Model_reckon_106 rfl ?_
          refine lv_icmp_eq (tgt := 128) hx hb d_Model_reckon_107 (by decide) (fun c_99 => ?_) (fun c_99 => ?_)
          · refine lv_iconst (v := 1) hx hb d_Model_reckon_128 rfl ?_
            refine lv_goto (tgt := 164) hx hb d_Model_reckon_129 (by decide) ?_
            refine lv_istore (lv' := [(9, .int 1), (8, .int 1), (7, .int ((sp_Model_reg (sp_Model_field x0 20 5) h x) &&& 31)), (6, .int (sp_Model_field x0 25 7)), (5, .int (sp_Model_field x0 12 3)), (4, .int (sp_Model_reg (sp_Model_field x0 20 5) h x)), (3, .int (sp_Model_reg (sp_Model_field x0 15 5) h x)), (0, .ref (a 0)), (1, .int x0), (2, .int 1)]) hx hb d_Model_reckon_164 hl (by decide) rfl (fun ls hl => ?_)
            refine lv_iload hx hb d_Model_reckon_166 (lv_at hl 0 rfl) ?_
            refine lv_if_ne (tgt := 178) hx hb d_Model_reckon_168 (by decide) (fun _ => ?_) (fun h9 => absurd h9 (by decide))
            refine lv_iload hx hb d_Model_reckon_178 (lv_at hl 4 rfl) ?_
            refine lv_iconst (v := 5) hx hb d_Model_reckon_180 rfl ?_
            refine lv_icmp_ne (tgt := 205) hx hb d_Model_reckon_181 (by decide) (fun h9 => absurd c_40 h9) (fun _ => ?_)
            refine lv_iload_n hx hb d_Model_reckon_184 rfl (lv_at hl 6 rfl) ?_
            refine lv_iload hx hb d_Model_reckon_185 (lv_at hl 2 rfl) ?_
            refine lv_iload hx hb d_Model_reckon_187 (lv_at hl 3 rfl) ?_
            refine lv_bipush (v := 32) hx hb d_Model_reckon_189 rfl ?_
            refine lv_icmp_ne (tgt := 198) hx hb d_Model_reckon_191 (by decide) (fun _ => ?_) (fun h9 => absurd h9 (by rw [c_99]; decide))
            refine lv_iconst (v := 0) hx hb d_Model_reckon_198 rfl ?_
            refine xi (wr := [((a 0), .inr (5, [.int (nI n), .ref (a 1), .ref (a 2), .ref (a 3), .ref (a 4), .ref (a 5), .ref (a 6), .ref (a 7), .ref (a 8), .long ti, .ref (a 9), .int np, .int h, .int ca, .int tv, .int nx])), ((a 1), .inl ((k 0), 16384, .inl b)), ((a 2), .inl ((k 1), 64, .inl x)), ((a 3), .inl ((k 2), 2, .inl pcs)), ((a 4), .inl ((k 3), 2, .inl lv)), ((a 5), .inl ((k 4), 8192, .inl cs)), ((a 6), .inl ((k 5), 2, .inl cl)), ((a 7), .inl ((k 6), 2, .inr (.inl cm))), ((a 8), .inl ((k 7), 2, .inl so)), ((a 9), .inl ((k 8), 256, .inl pu))]) (W2 := fun _ => wR a k n h ca tv nx pcs lv cs x b cl cm so ti pu np) (xS (rest := []) ⟨hx, hb, hml, hown, hts⟩ (c_Model_shifted (sp_Model_reg (sp_Model_field x0 15 5) h x) ((sp_Model_reg (sp_Model_field x0 20 5) h x) &&& 31) 0) mw_Model_shifted ms_Model_shifted k_856 ⟨rfl, rfl, Nat.le_of_ble_eq_true rfl, Nat.le_of_ble_eq_true rfl⟩ hK hP hD hS hA hF [] [] rfl rfl rfl rfl hl.1 rfl (Nat.le_of_ble_eq_true rfl) d_Model_reckon_199 ⟨Nat.zero_le _, Nat.zero_le _⟩) hP hD hS hA [] [0, 1, 2, 3, 4, 5, 6, 7, 8, 9] [0, 1, 2, 3, 4, 5, 6, 7, 8, 9] rfl rfl rfl (by decide) (fun _ => rfl) rfl (fun r_103 _ H locs h_103 hP hD hS => ?_)
            subst h_103
            refine lv_goto (tgt := 226) hx hb d_Model_reckon_202 (by decide) ?_
            refine lv_istore (lv' := [(10, .int (sp_Model_shifted (sp_Model_reg (sp_Model_field x0 15 5) h x) ((sp_Model_reg (sp_Model_field x0 20 5) h x) &&& 31) 0)), (9, .int 1), (8, .int 1), (7, .int ((sp_Model_reg (sp_Model_field x0 20 5) h x) &&& 31)), (6, .int (sp_Model_field x0 25 7)), (5, .int (sp_Model_field x0 12 3)), (4, .int (sp_Model_reg (sp_Model_field x0 20 5) h x)), (3, .int (sp_Model_reg (sp_Model_field x0 15 5) h x)), (0, .ref (a 0)), (1, .int x0), (2, .int 1)]) hx hb d_Model_reckon_226 hl (by decide) rfl (fun ls hl => ?_)
            refine lv_iload_n hx hb d_Model_reckon_228 rfl (lv_at hl 10 rfl) ?_
            refine lv_if_eq (tgt := 250) hx hb d_Model_reckon_229 (by decide) (fun h9 => absurd h9 (by decide)) (fun _ => ?_)
            refine lv_iload hx hb d_Model_reckon_232 (lv_at hl 4 rfl) ?_
            refine lv_bipush (v := 32) hx hb d_Model_reckon_234 rfl ?_
            refine lv_icmp_ne (tgt := 250) hx hb d_Model_reckon_236 (by decide) (fun _ => ?_) (fun h9 => absurd h9 (by rw [c_99]; decide))
            refine lv_iload_n hx hb d_Model_reckon_250 rfl (lv_at hl 10 rfl) ?_
            refine lv_if_eq (tgt := 287) hx hb d_Model_reckon_251 (by decide) (fun h9 => absurd h9 (by decide)) (fun _ => ?_)
            refine lv_iload hx hb d_Model_reckon_254 (lv_at hl 4 rfl) ?_
            refine lv_iconst (v := 1) hx hb d_Model_reckon_256 rfl ?_
            refine lv_icmp_ne (tgt := 287) hx hb d_Model_reckon_257 (by decide) (fun h9 => absurd c_99 h9) (fun _ => ?_)
            refine lv_iload hx hb d_Model_reckon_260 (lv_at hl 5 rfl) ?_
            refine lv_iconst (v := 4) hx hb d_Model_reckon_262 rfl ?_
            refine lv_icmp_ge (tgt := 277) hx hb d_Model_reckon_263 (by decide) (fun _ => ?_) (fun h9 => absurd (by rw [c_40]; decide) h9)
            refine lv_iload hx hb d_Model_reckon_277 (lv_at hl 5 rfl) ?_
            refine lv_iload_n hx hb d_Model_reckon_279 rfl (lv_at hl 7 rfl) ?_
            refine lv_iload hx hb d_Model_reckon_280 (lv_at hl 6 rfl) ?_
            refine xi (wr := [((a 0), .inr (5, [.int (nI n), .ref (a 1), .ref (a 2), .ref (a 3), .ref (a 4), .ref (a 5), .ref (a 6), .ref (a 7), .ref (a 8), .long ti, .ref (a 9), .int np, .int h, .int ca, .int tv, .int nx])), ((a 1), .inl ((k 0), 16384, .inl b)), ((a 2), .inl ((k 1), 64, .inl x)), ((a 3), .inl ((k 2), 2, .inl pcs)), ((a 4), .inl ((k 3), 2, .inl lv)), ((a 5), .inl ((k 4), 8192, .inl cs)), ((a 6), .inl ((k 5), 2, .inl cl)), ((a 7), .inl ((k 6), 2, .inr (.inl cm))), ((a 8), .inl ((k 7), 2, .inl so)), ((a 9), .inl ((k 8), 256, .inl pu))]) (W2 := fun _ => wR a k n h ca tv nx pcs lv cs x b cl cm so ti pu np) (xS (rest := []) ⟨hx, hb, hml, hown, hts⟩ (c_Model_quotient (sp_Model_field x0 12 3) (sp_Model_reg (sp_Model_field x0 15 5) h x) (sp_Model_reg (sp_Model_field x0 20 5) h x)) mw_Model_quotient ms_Model_quotient k_865 ⟨rfl, rfl, Nat.le_of_ble_eq_true rfl, Nat.le_of_ble_eq_true rfl⟩ hK hP hD hS hA hF [] [] rfl rfl rfl rfl hl.1 rfl (Nat.le_of_ble_eq_true rfl) d_Model_reckon_282 ⟨Nat.zero_le _, Nat.zero_le _⟩) hP hD hS hA [] [0, 1, 2, 3, 4, 5, 6, 7, 8, 9] [0, 1, 2, 3, 4, 5, 6, 7, 8, 9] rfl rfl rfl (by decide) (fun _ => rfl) rfl (fun r_109 _ H locs h_109 hP hD hS => ?_)
            subst h_109
            refine lv_istore (lv' := [(10, .int (sp_Model_quotient (sp_Model_field x0 12 3) (sp_Model_reg (sp_Model_field x0 15 5) h x) (sp_Model_reg (sp_Model_field x0 20 5) h x))), (9, .int 1), (8, .int 1), (7, .int ((sp_Model_reg (sp_Model_field x0 20 5) h x) &&& 31)), (6, .int (sp_Model_field x0 25 7)), (5, .int (sp_Model_field x0 12 3)), (4, .int (sp_Model_reg (sp_Model_field x0 20 5) h x)), (3, .int (sp_Model_reg (sp_Model_field x0 15 5) h x)), (0, .ref (a 0)), (1, .int x0), (2, .int 1)]) hx hb d_Model_reckon_285 hl (by decide) rfl (fun ls hl => ?_)
            refine lv_aload_n hx hb d_Model_reckon_287 rfl (lv_at hl 8 rfl) ?_
            refine lv_iload_n hx hb d_Model_reckon_288 rfl (lv_at hl 9 rfl) ?_
            refine lv_bipush (v := 7) hx hb d_Model_reckon_289 rfl ?_
            refine lv_iconst (v := 5) hx hb d_Model_reckon_291 rfl ?_
            refine xi (wr := [((a 0), .inr (5, [.int (nI n), .ref (a 1), .ref (a 2), .ref (a 3), .ref (a 4), .ref (a 5), .ref (a 6), .ref (a 7), .ref (a 8), .long ti, .ref (a 9), .int np, .int h, .int ca, .int tv, .int nx])), ((a 1), .inl ((k 0), 16384, .inl b)), ((a 2), .inl ((k 1), 64, .inl x)), ((a 3), .inl ((k 2), 2, .inl pcs)), ((a 4), .inl ((k 3), 2, .inl lv)), ((a 5), .inl ((k 4), 8192, .inl cs)), ((a 6), .inl ((k 5), 2, .inl cl)), ((a 7), .inl ((k 6), 2, .inr (.inl cm))), ((a 8), .inl ((k 7), 2, .inl so)), ((a 9), .inl ((k 8), 256, .inl pu))]) (W2 := fun _ => wR a k n h ca tv nx pcs lv cs x b cl cm so ti pu np) (xS (rest := [.ref (a 0)]) ⟨hx, hb, hml, hown, hts⟩ (c_Model_field x0 7 5) mw_Model_field ms_Model_field k_787 ⟨rfl, rfl, Nat.le_of_ble_eq_true rfl, Nat.le_of_ble_eq_true rfl⟩ hK hP hD hS hA hF [] [] rfl rfl rfl rfl hl.1 rfl (Nat.le_of_ble_eq_true rfl) d_Model_reckon_292 ⟨Nat.zero_le _, Nat.zero_le _⟩) hP hD hS hA [] [0, 1, 2, 3, 4, 5, 6, 7, 8, 9] [0, 1, 2, 3, 4, 5, 6, 7, 8, 9] rfl rfl rfl (by decide) (fun _ => rfl) rfl (fun r_110 _ H locs h_110 hP hD hS => ?_)
            subst h_110
            refine lv_iload hx hb d_Model_reckon_295 (lv_at hl 0 rfl) ?_
            refine xv (wr := []) (W2 := fun u9 => wR a k n h ca tv nx pcs lv cs u9 b cl cm so ti pu np) (xV (rest := []) ⟨hx, hb, hml, hown, hts⟩ (c_Model_setReg a k n (sp_Model_field x0 7 5) (sp_Model_quotient (sp_Model_field x0 12 3) (sp_Model_reg (sp_Model_field x0 15 5) h x) (sp_Model_reg (sp_Model_field x0 20 5) h x)) h ca tv nx pcs lv cs x b cl cm so ti pu np hn hh (vp_f5 _ _)) mw_Model_setReg mv_Model_setReg k_790 ⟨rfl, rfl, Nat.le_of_ble_eq_true rfl, Nat.le_of_ble_eq_true rfl⟩ hK hP hD hS hA hF [0, 1, 2, 3, 4, 5, 6, 7, 8, 9] [0, 1, 2, 3, 4, 5, 6, 7, 8] rfl rfl rfl 0 5 rfl rfl rfl rfl hl.1 rfl (Nat.le_of_ble_eq_true rfl) d_Model_reckon_297 ⟨Nat.zero_le _, Nat.zero_le _⟩) hP hD hS hA [0, 1, 2, 3, 4, 5, 6, 7, 8, 9] [] [0, 1, 2, 3, 4, 5, 6, 7, 8, 9] rfl rfl rfl (by decide) (fun _ => rfl) rfl (fun u_111 H locs h_111 hP hD hS => ?_)
            obtain ⟨x_111, e_111⟩ : ∃ z, z = u_111 := ⟨_, rfl⟩
            subst e_111
            exact rv (ca, tv, x_111) hx hb hr hlocks hP hD hS d_Model_reckon_300 (by simp only [sp_Model_reckon, h_111, if_neg (by decide : ¬ (1 : Int32) = 0), if_neg c_9, if_pos c_40, if_neg c_88, if_pos c_99, if_true, if_false])
          · refine lv_iload hx hb d_Model_reckon_110 (lv_at hl 2 rfl) ?_
            refine lv_bipush (v := 32) hx hb d_Model_reckon_112 rfl ?_
            refine lv_icmp_ne (tgt := 132) hx hb d_Model_reckon_114 (by decide) (fun c_112 => ?_) (fun c_112 => ?_)
            · refine lv_iconst (v := 0) hx hb d_Model_reckon_132 rfl ?_
              refine lv_goto (tgt := 164) hx hb d_Model_reckon_133 (by decide) ?_
              refine lv_istore (lv' := [(9, .int 0), (8, .int 1), (7, .int ((sp_Model_reg (sp_Model_field x0 20 5) h x) &&& 31)), (6, .int (sp_Model_field x0 25 7)), (5, .int (sp_Model_field x0 12 3)), (4, .int (sp_Model_reg (sp_Model_field x0 20 5) h x)), (3, .int (sp_Model_reg (sp_Model_field x0 15 5) h x)), (0, .ref (a 0)), (1, .int x0), (2, .int 1)]) hx hb d_Model_reckon_164 hl (by decide) rfl (fun ls hl => ?_)
              refine lv_iload hx hb d_Model_reckon_166 (lv_at hl 0 rfl) ?_
              refine lv_if_ne (tgt := 178) hx hb d_Model_reckon_168 (by decide) (fun h9 => absurd (by decide) h9) (fun _ => ?_)
              refine lv_aload_n hx hb d_Model_reckon_171 rfl (lv_at hl 7 rfl) ?_
              refine lv_iconst (v := 2) hx hb d_Model_reckon_172 rfl ?_
              refine lv_iload_n hx hb d_Model_reckon_173 rfl (lv_at hl 8 rfl) ?_
              refine xv (wr := []) (W2 := fun u9 => wR a k n h u9.1 u9.2 nx pcs lv cs x b cl cm so ti pu np) (xV (rest := []) ⟨hx, hb, hml, hown, hts⟩ (c_Model_trap a k n 2 x0 h ca tv nx pcs lv cs x b cl cm so ti pu np hn) mw_Model_trap mv_Model_trap k_763 ⟨rfl, rfl, Nat.le_of_ble_eq_true rfl, Nat.le_of_ble_eq_true rfl⟩ hK hP hD hS hA hF [0, 1, 2, 3, 4, 5, 6, 7, 8, 9] [0, 1, 2, 3, 4, 5, 6, 7, 8] rfl rfl rfl 0 5 rfl rfl rfl rfl hl.1 rfl (Nat.le_of_ble_eq_true rfl) d_Model_reckon_174 ⟨Nat.zero_le _, Nat.zero_le _⟩) hP hD hS hA [0, 1, 2, 3, 4, 5, 6, 7, 8, 9] [] [0, 1, 2, 3, 4, 5, 6, 7, 8, 9] rfl rfl rfl (by decide) (fun _ => rfl) rfl (fun u_114 H locs h_114 hP hD hS => ?_)
              obtain ⟨ca_114, tv_114⟩ := u_114
              dsimp only at hP hD
              exact rv (ca_114, tv_114, x) hx hb hr hlocks hP hD hS d_Model_reckon_177 (by simp only [sp_Model_reckon, h_114, if_neg (by decide : ¬ (1 : Int32) = 0), if_neg c_9, if_pos c_40, if_neg c_88, if_neg c_99, if_neg c_112, if_true, if_false])
            · refine lv_iload hx hb d_Model_reckon_117 (lv_at hl 3 rfl) ?_
              refine lv_if_eq (tgt := 128) hx hb d_Model_reckon_119 (by decide) (fun h9 => absurd h9 (by rw [c_40]; decide)) (fun _ => ?_)
              refine lv_iload hx hb d_Model_reckon_122 (lv_at hl 3 rfl) ?_
              refine lv_iconst (v := 5) hx hb d_Model_reckon_124 rfl ?_
              refine lv_icmp_ne (tgt := 132) hx hb d_Model_reckon_125 (by decide) (fun h9 => absurd c_40 h9) (fun _ => ?_)
              refine lv_iconst (v := 1) hx hb d_Model_reckon_128 rfl ?_
              refine lv_goto (tgt := 164) hx hb d_Model_reckon_129 (by decide) ?_
              refine lv_istore (lv' := [(9, .int 1), (8, .int 1), (7, .int ((sp_Model_reg (sp_Model_field x0 20 5) h x) &&& 31)), (6, .int (sp_Model_field x0 25 7)), (5, .int (sp_Model_field x0 12 3)), (4, .int (sp_Model_reg (sp_Model_field x0 20 5) h x)), (3, .int (sp_Model_reg (sp_Model_field x0 15 5) h x)), (0, .ref (a 0)), (1, .int x0), (2, .int 1)]) hx hb d_Model_reckon_164 hl (by decide) rfl (fun ls hl => ?_)
              refine lv_iload hx hb d_Model_reckon_166 (lv_at hl 0 rfl) ?_
              refine lv_if_ne (tgt := 178) hx hb d_Model_reckon_168 (by decide) (fun _ => ?_) (fun h9 => absurd h9 (by decide))
              refine lv_iload hx hb d_Model_reckon_178 (lv_at hl 4 rfl) ?_
              refine lv_iconst (v := 5) hx hb d_Model_reckon_180 rfl ?_
              refine lv_icmp_ne (tgt := 205) hx hb d_Model_reckon_181 (by decide) (fun h9 => absurd c_40 h9) (fun _ => ?_)
              refine lv_iload_n hx hb d_Model_reckon_184 rfl (lv_at hl 6 rfl) ?_
              refine lv_iload hx hb d_Model_reckon_185 (lv_at hl 2 rfl) ?_
              refine lv_iload hx hb d_Model_reckon_187 (lv_at hl 3 rfl) ?_
              refine lv_bipush (v := 32) hx hb d_Model_reckon_189 rfl ?_
              refine lv_icmp_ne (tgt := 198) hx hb d_Model_reckon_191 (by decide) (fun h9 => absurd c_112 h9) (fun _ => ?_)
              refine lv_iconst (v := 1) hx hb d_Model_reckon_194 rfl ?_
              refine lv_goto (tgt := 199) hx hb d_Model_reckon_195 (by decide) ?_
              refine xi (wr := [((a 0), .inr (5, [.int (nI n), .ref (a 1), .ref (a 2), .ref (a 3), .ref (a 4), .ref (a 5), .ref (a 6), .ref (a 7), .ref (a 8), .long ti, .ref (a 9), .int np, .int h, .int ca, .int tv, .int nx])), ((a 1), .inl ((k 0), 16384, .inl b)), ((a 2), .inl ((k 1), 64, .inl x)), ((a 3), .inl ((k 2), 2, .inl pcs)), ((a 4), .inl ((k 3), 2, .inl lv)), ((a 5), .inl ((k 4), 8192, .inl cs)), ((a 6), .inl ((k 5), 2, .inl cl)), ((a 7), .inl ((k 6), 2, .inr (.inl cm))), ((a 8), .inl ((k 7), 2, .inl so)), ((a 9), .inl ((k 8), 256, .inl pu))]) (W2 := fun _ => wR a k n h ca tv nx pcs lv cs x b cl cm so ti pu np) (xS (rest := []) ⟨hx, hb, hml, hown, hts⟩ (c_Model_shifted (sp_Model_reg (sp_Model_field x0 15 5) h x) ((sp_Model_reg (sp_Model_field x0 20 5) h x) &&& 31) 1) mw_Model_shifted ms_Model_shifted k_856 ⟨rfl, rfl, Nat.le_of_ble_eq_true rfl, Nat.le_of_ble_eq_true rfl⟩ hK hP hD hS hA hF [] [] rfl rfl rfl rfl hl.1 rfl (Nat.le_of_ble_eq_true rfl) d_Model_reckon_199 ⟨Nat.zero_le _, Nat.zero_le _⟩) hP hD hS hA [] [0, 1, 2, 3, 4, 5, 6, 7, 8, 9] [0, 1, 2, 3, 4, 5, 6, 7, 8, 9] rfl rfl rfl (by decide) (fun _ => rfl) rfl (fun r_120 _ H locs h_120 hP hD hS => ?_)
              subst h_120
              refine lv_goto (tgt := 226) hx hb d_Model_reckon_202 (by decide) ?_
              refine lv_istore (lv' := [(10, .int (sp_Model_shifted (sp_Model_reg (sp_Model_field x0 15 5) h x) ((sp_Model_reg (sp_Model_field x0 20 5) h x) &&& 31) 1)), (9, .int 1), (8, .int 1), (7, .int ((sp_Model_reg (sp_Model_field x0 20 5) h x) &&& 31)), (6, .int (sp_Model_field x0 25 7)), (5, .int (sp_Model_field x0 12 3)), (4, .int (sp_Model_reg (sp_Model_field x0 20 5) h x)), (3, .int (sp_Model_reg (sp_Model_field x0 15 5) h x)), (0, .ref (a 0)), (1, .int x0), (2, .int 1)]) hx hb d_Model_reckon_226 hl (by decide) rfl (fun ls hl => ?_)
              refine lv_iload_n hx hb d_Model_reckon_228 rfl (lv_at hl 10 rfl) ?_
              refine lv_if_eq (tgt := 250) hx hb d_Model_reckon_229 (by decide) (fun h9 => absurd h9 (by decide)) (fun _ => ?_)
              refine lv_iload hx hb d_Model_reckon_232 (lv_at hl 4 rfl) ?_
              refine lv_bipush (v := 32) hx hb d_Model_reckon_234 rfl ?_
              refine lv_icmp_ne (tgt := 250) hx hb d_Model_reckon_236 (by decide) (fun h9 => absurd c_112 h9) (fun _ => ?_)
              refine lv_iload hx hb d_Model_reckon_239 (lv_at hl 5 rfl) ?_
              refine lv_if_ne (tgt := 250) hx hb d_Model_reckon_241 (by decide) (fun _ => ?_) (fun h9 => absurd h9 (by rw [c_40]; decide))
              refine lv_iload_n hx hb d_Model_reckon_250 rfl (lv_at hl 10 rfl) ?_
              refine lv_if_eq (tgt := 287) hx hb d_Model_reckon_251 (by decide) (fun h9 => absurd h9 (by decide)) (fun _ => ?_)
              refine lv_iload hx hb d_Model_reckon_254 (lv_at hl 4 rfl) ?_
              refine lv_iconst (v := 1) hx hb d_Model_reckon_256 rfl ?_
              refine lv_icmp_ne (tgt := 287) hx hb d_Model_reckon_257 (by decide) (fun _ => ?_) (fun h9 => absurd h9 c_99)
              refine lv_aload_n hx hb d_Model_reckon_287 rfl (lv_at hl 8 rfl) ?_
              refine lv_iload_n hx hb d_Model_reckon_288 rfl (lv_at hl 9 rfl) ?_
              refine lv_bipush (v := 7) hx hb d_Model_reckon_289 rfl ?_
              refine lv_iconst (v := 5) hx hb d_Model_reckon_291 rfl ?_
              refine xi (wr := [((a 0), .inr (5, [.int (nI n), .ref (a 1), .ref (a 2), .ref (a 3), .ref (a 4), .ref (a 5), .ref (a 6), .ref (a 7), .ref (a 8), .long ti, .ref (a 9), .int np, .int h, .int ca, .int tv, .int nx])), ((a 1), .inl ((k 0), 16384, .inl b)), ((a 2), .inl ((k 1), 64, .inl x)), ((a 3), .inl ((k 2), 2, .inl pcs)), ((a 4), .inl ((k 3), 2, .inl lv)), ((a 5), .inl ((k 4), 8192, .inl cs)), ((a 6), .inl ((k 5), 2, .inl cl)), ((a 7), .inl ((k 6), 2, .inr (.inl cm))), ((a 8), .inl ((k 7), 2, .inl so)), ((a 9), .inl ((k 8), 256, .inl pu))]) (W2 := fun _ => wR a k n h ca tv nx pcs lv cs x b cl cm so ti pu np) (xS (rest := [.ref (a 0)]) ⟨hx, hb, hml, hown, hts⟩ (c_Model_field x0 7 5) mw_Model_field ms_Model_field k_787 ⟨rfl, rfl, Nat.le_of_ble_eq_true rfl, Nat.le_of_ble_eq_true rfl⟩ hK hP hD hS hA hF [] [] rfl rfl rfl rfl hl.1 rfl (Nat.le_of_ble_eq_true rfl) d_Model_reckon_292 ⟨Nat.zero_le _, Nat.zero_le _⟩) hP hD hS hA [] [0, 1, 2, 3, 4, 5, 6, 7, 8, 9] [0, 1, 2, 3, 4, 5, 6, 7, 8, 9] rfl rfl rfl (by decide) (fun _ => rfl) rfl (fun r_126 _ H locs h_126 hP hD hS => ?_)
              subst h_126
              refine lv_iload hx hb d_Model_reckon_295 (lv_at hl 0 rfl) ?_
              refine xv (wr := []) (W2 := fun u9 => wR a k n h ca tv nx pcs lv cs u9 b cl cm so ti pu np) (xV (rest := []) ⟨hx, hb, hml, hown, hts⟩ (c_Model_setReg a k n (sp_Model_field x0 7 5) (sp_Model_shifted (sp_Model_reg (sp_Model_field x0 15 5) h x) ((sp_Model_reg (sp_Model_field x0 20 5) h x) &&& 31) 1) h ca tv nx pcs lv cs x b cl cm so ti pu np hn hh (vp_f5 _ _)) mw_Model_setReg mv_Model_setReg k_790 ⟨rfl, rfl, Nat.le_of_ble_eq_true rfl, Nat.le_of_ble_eq_true rfl⟩ hK hP hD hS hA hF [0, 1, 2, 3, 4, 5, 6, 7, 8, 9] [0, 1, 2, 3, 4, 5, 6, 7, 8] rfl rfl rfl 0 5 rfl rfl rfl rfl hl.1 rfl (Nat.le_of_ble_eq_true rfl) d_Model_reckon_297 ⟨Nat.zero_le _, Nat.zero_le _⟩) hP hD hS hA [0, 1, 2, 3, 4, 5, 6, 7, 8, 9] [] [0, 1, 2, 3, 4, 5, 6, 7, 8, 9] rfl rfl rfl (by decide) (fun _ => rfl) rfl (fun u_127 H locs h_127 hP hD hS => ?_)
              obtain ⟨x_127, e_127⟩ : ∃ z, z = u_127 := ⟨_, rfl⟩
              subst e_127
              exact rv (ca, tv, x_127) hx hb hr hlocks hP hD hS d_Model_reckon_300 (by simp only [sp_Model_reckon, h_127, if_neg (by decide : ¬ (1 : Int32) = 0), if_neg c_9, if_pos c_40, if_neg c_88, if_neg c_99, if_pos c_112, if_true, if_false])
def sp_Model_changed (x0 : Int32) (x1 : Int32) (x2 : Int32)  : Int32 :=
  if x0 = 0 then
    x1 + x2
  else
    if x0 = 1 then
      x2
    else
      if x0 = 2 then
        if (sp_Model_below x1 x2) = 0 then
          x1
        else
          x2
      else
        if x0 = 3 then
          if (sp_Model_below x1 x2) = 0 then
            x1
          else
            x2
        else
          if x0 = 4 then
            x1 ^^^ x2
          else
            if x0 = 5 then
              if (sp_Model_below x1 x2) = 0 then
                x1
              else
                x2
            else
              if x0 = 6 then
                if (sp_Model_below x1 x2) = 0 then
                  x1
                else
                  x2
              else
                if x0 = 7 then
                  if (sp_Model_below x1 x2) = 0 then
                    x1
                  else
                    x2
                else
                  if x0 = 8 then
                    x1 ||| x2
                  else
                    if x0 = 9 then
                      if (sp_Model_below x1 x2) = 0 then
                        x1
                      else
                        x2
                    else
                      if x0 = 10 then
                        if (sp_Model_below x1 x2) = 0 then
                          x1
                        else
                          x2
                      else
                        if x0 = 11 then
                          if (sp_Model_below x1 x2) = 0 then
                            x1
                          else
                            x2
                        else
                          if x0 = 12 then
                            x1 &&& x2
                          else
                            if x0 = 13 then
                              if (sp_Model_below x1 x2) = 0 then
                                x1
                              else
                                x2
                            else
                              if x0 = 14 then
                                if (sp_Model_below x1 x2) = 0 then
                                  x1
                                else
                                  x2
                              else
                                if x0 = 15 then
                                  if (sp_Model_below x1 x2) = 0 then
                                    x1
                                  else
                                    x2
                                else
                                  if x0 = 16 then
                                    if x2 ≤ x1 then
                                      x2
                                    else
                                      x1
                                  else
                                    if x0 = 17 then
                                      if (sp_Model_below x1 x2) = 0 then
                                        x1
                                      else
                                        x2
                                    else
                                      if x0 = 18 then
                                        if (sp_Model_below x1 x2) = 0 then
                                          x1
                                        else
                                          x2
                                      else
                                        if x0 = 19 then
                                          if (sp_Model_below x1 x2) = 0 then
                                            x1
                                          else
                                            x2
                                        else
                                          if x0 = 20 then
                                            if x1 ≤ x2 then
                                              x2
                                            else
                                              x1
                                          else
                                            if x0 = 21 then
                                              if (sp_Model_below x1 x2) = 0 then
                                                x1
                                              else
                                                x2
                                            else
                                              if x0 = 22 then
                                                if (sp_Model_below x1 x2) = 0 then
                                                  x1
                                                else
                                                  x2
                                              else
                                                if x0 = 23 then
                                                  if (sp_Model_below x1 x2) = 0 then
                                                    x1
                                                  else
                                                    x2
                                                else
                                                  if x0 = 24 then
                                                    if (sp_Model_below x1 x2) = 0 then
                                                      x2
                                                    else
                                                      x1
                                                  else
                                                    if (sp_Model_below x1 x2) = 0 then
                                                      x1
                                                    else
                                                      x2
set_option maxHeartbeats 4000000 in
set_option maxRecDepth 100000 in
theorem c_Model_changed {l : Launch} {D : va_G} {g : Nat → Nat}  (x0 : Int32) (x1 : Int32) (x2 : Int32)   : CT l D g y_Model_changed b_Model_changed 3 (some .int) (rD 1) [.int x0, .int x1, .int x2] [] [] (Qi D (fun (r : Int32) (_ : Unit) => sp_Model_changed x0 x1 x2 = r) (fun _ => [])) := by
  refine CT.of rfl (Nat.le_of_ble_eq_true rfl) (fun p e s m below meth c A ls hx hb hr hml hts hown hlocks hA hP hK hD hF hS hl => ?_)
  have hl : lv_has ls 3 [(0, .int x0), (1, .int x1), (2, .int x2)] := hl
  refine lv_iload_n hx hb d_Model_changed_0 rfl (lv_at hl 0 rfl) ?_
  by_cases c_1 : x0 = 0
  · refine lv_tableIn (off := 117) (tgt := 118) hx hb d_Model_changed_1 (by rw [c_1]; decide) (by rw [c_1]; decide) (by rw [c_1]; rfl) (by decide) ?_
    refine lv_iload_n hx hb d_Model_changed_118 rfl (lv_at hl 1 rfl) ?_
    refine lv_iload_n hx hb d_Model_changed_119 rfl (lv_at hl 2 rfl) ?_
    refine lv_iadd hx hb d_Model_changed_120 ?_
    exact ri () hx hb hr hlocks hP hD hS d_Model_changed_121 (by simp only [sp_Model_changed, if_pos c_1])
  · by_cases c_2 : x0 = 1
    · refine lv_tableIn (off := 115) (tgt := 116) hx hb d_Model_changed_1 (by rw [c_2]; decide) (by rw [c_2]; decide) (by rw [c_2]; rfl) (by decide) ?_
      refine lv_iload_n hx hb d_Model_changed_116 rfl (lv_at hl 2 rfl) ?_
      exact ri () hx hb hr hlocks hP hD hS d_Model_changed_117 (by simp only [sp_Model_changed, if_neg c_1, if_pos c_2])
    · by_cases c_3 : x0 = 2
      · refine lv_tableIn (off := 169) (tgt := 170) hx hb d_Model_changed_1 (by rw [c_3]; decide) (by rw [c_3]; decide) (by rw [c_3]; rfl) (by decide) ?_
        refine lv_iload_n hx hb d_Model_changed_170 rfl (lv_at hl 1 rfl) ?_
        refine lv_iload_n hx hb d_Model_changed_171 rfl (lv_at hl 2 rfl) ?_
        refine xi (wr := []) (W2 := fun _ => []) (xS (rest := []) ⟨hx, hb, hml, hown, hts⟩ (c_Model_below x1 x2) mw_Model_below ms_Model_below k_810 ⟨rfl, rfl, Nat.le_of_ble_eq_true rfl, Nat.le_of_ble_eq_true rfl⟩ hK hP hD hS hA hF [] [] rfl rfl rfl rfl hl.1 rfl (Nat.le_of_ble_eq_true rfl) d_Model_changed_172 ⟨Nat.zero_le _, Nat.zero_le _⟩) hP hD hS hA [] [] [] rfl rfl rfl (by decide) (fun _ => rfl) rfl (fun r_4 _ H locs h_4 hP hD hS => ?_)
        obtain ⟨h_4, z_4⟩ := h_4
        subst h_4
        refine lv_if_eq (tgt := 182) hx hb d_Model_changed_175 (by decide) (fun c_5 => ?_) (fun c_5 => ?_)
        · refine lv_iload_n hx hb d_Model_changed_182 rfl (lv_at hl 1 rfl) ?_
          exact ri () hx hb hr hlocks hP hD hS d_Model_changed_183 (by simp only [sp_Model_changed, if_neg c_1, if_neg c_2, if_pos c_3, if_pos c_5])
        · refine lv_iload_n hx hb d_Model_changed_178 rfl (lv_at hl 2 rfl) ?_
          refine lv_goto (tgt := 183) hx hb d_Model_changed_179 (by decide) ?_
          exact ri () hx hb hr hlocks hP hD hS d_Model_changed_183 (by simp only [sp_Model_changed, if_neg c_1, if_neg c_2, if_pos c_3, if_neg c_5])
      · by_cases c_6 : x0 = 3
        · refine lv_tableIn (off := 169) (tgt := 170) hx hb d_Model_changed_1 (by rw [c_6]; decide) (by rw [c_6]; decide) (by rw [c_6]; rfl) (by decide) ?_
          refine lv_iload_n hx hb d_Model_changed_170 rfl (lv_at hl 1 rfl) ?_
          refine lv_iload_n hx hb d_Model_changed_171 rfl (lv_at hl 2 rfl) ?_
          refine xi (wr := []) (W2 := fun _ => []) (xS (rest := []) ⟨hx, hb, hml, hown, hts⟩ (c_Model_below x1 x2) mw_Model_below ms_Model_below k_810 ⟨rfl, rfl, Nat.le_of_ble_eq_true rfl, Nat.le_of_ble_eq_true rfl⟩ hK hP hD hS hA hF [] [] rfl rfl rfl rfl hl.1 rfl (Nat.le_of_ble_eq_true rfl) d_Model_changed_172 ⟨Nat.zero_le _, Nat.zero_le _⟩) hP hD hS hA [] [] [] rfl rfl rfl (by decide) (fun _ => rfl) rfl (fun r_7 _ H locs h_7 hP hD hS => ?_)
          obtain ⟨h_7, z_7⟩ := h_7
          subst h_7
          refine lv_if_eq (tgt := 182) hx hb d_Model_changed_175 (by decide) (fun c_8 => ?_) (fun c_8 => ?_)
          · refine lv_iload_n hx hb d_Model_changed_182 rfl (lv_at hl 1 rfl) ?_
            exact ri () hx hb hr hlocks hP hD hS d_Model_changed_183 (by simp only [sp_Model_changed, if_neg c_1, if_neg c_2, if_neg c_3, if_pos c_6, if_pos c_8])
          · refine lv_iload_n hx hb d_Model_changed_178 rfl (lv_at hl 2 rfl) ?_
            refine lv_goto (tgt := 183) hx hb d_Model_changed_179 (by decide) ?_
            exact ri () hx hb hr hlocks hP hD hS d_Model_changed_183 (by simp only [sp_Model_changed, if_neg c_1, if_neg c_2, if_neg c_3, if_pos c_6, if_neg c_8])
        · by_cases c_9 : x0 = 4
          · refine lv_tableIn (off := 121) (tgt := 122) hx hb d_Model_changed_1 (by rw [c_9]; decide) (by rw [c_9]; decide) (by rw [c_9]; rfl) (by decide) ?_
            refine lv_iload_n hx hb d_Model_changed_122 rfl (lv_at hl 1 rfl) ?_
            refine lv_iload_n hx hb d_Model_changed_123 rfl (lv_at hl 2 rfl) ?_
            refine lv_ixor hx hb d_Model_changed_124 ?_
            exact ri () hx hb hr hlocks hP hD hS d_Model_changed_125 (by simp only [sp_Model_changed, if_neg c_1, if_neg c_2, if_neg c_3, if_neg c_6, if_pos c_9])
          · by_cases c_10 : x0 = 5
            · refine lv_tableIn (off := 169) (tgt := 170) hx hb d_Model_changed_1 (by rw [c_10]; decide) (by rw [c_10]; decide) (by rw [c_10]; rfl) (by decide) ?_
              refine lv_iload_n hx hb d_Model_changed_170 rfl (lv_at hl 1 rfl) ?_
              refine lv_iload_n hx hb d_Model_changed_171 rfl (lv_at hl 2 rfl) ?_
              refine xi (wr := []) (W2 := fun _ => []) (xS (rest := []) ⟨hx, hb, hml, hown, hts⟩ (c_Model_below x1 x2) mw_Model_below ms_Model_below k_810 ⟨rfl, rfl, Nat.le_of_ble_eq_true rfl, Nat.le_of_ble_eq_true rfl⟩ hK hP hD hS hA hF [] [] rfl rfl rfl rfl hl.1 rfl (Nat.le_of_ble_eq_true rfl) d_Model_changed_172 ⟨Nat.zero_le _, Nat.zero_le _⟩) hP hD hS hA [] [] [] rfl rfl rfl (by decide) (fun _ => rfl) rfl (fun r_11 _ H locs h_11 hP hD hS => ?_)
              obtain ⟨h_11, z_11⟩ := h_11
              subst h_11
              refine lv_if_eq (tgt := 182) hx hb d_Model_changed_175 (by decide) (fun c_12 => ?_) (fun c_12 => ?_)
              · refine lv_iload_n hx hb d_Model_changed_182 rfl (lv_at hl 1 rfl) ?_
                exact ri () hx hb hr hlocks hP hD hS d_Model_changed_183 (by simp only [sp_Model_changed, if_neg c_1, if_neg c_2, if_neg c_3, if_neg c_6, if_neg c_9, if_pos c_10, if_pos c_12])
              · refine lv_iload_n hx hb d_Model_changed_178 rfl (lv_at hl 2 rfl) ?_
                refine lv_goto (tgt := 183) hx hb d_Model_changed_179 (by decide) ?_
                exact ri () hx hb hr hlocks hP hD hS d_Model_changed_183 (by simp only [sp_Model_changed, if_neg c_1, if_neg c_2, if_neg c_3, if_neg c_6, if_neg c_9, if_pos c_10, if_neg c_12])
            · by_cases c_13 : x0 = 6
              · refine lv_tableIn (off := 169) (tgt := 170) hx hb d_Model_changed_1 (by rw [c_13]; decide) (by rw [c_13]; decide) (by rw [c_13]; rfl) (by decide) ?_
                refine lv_iload_n hx hb d_Model_changed_170 rfl (lv_at hl 1 rfl) ?_
                refine lv_iload_n hx hb d_Model_changed_171 rfl (lv_at hl 2 rfl) ?_
                refine xi (wr := []) (W2 := fun _ => []) (xS (rest := []) ⟨hx, hb, hml, hown, hts⟩ (c_Model_below x1 x2) mw_Model_below ms_Model_below k_810 ⟨rfl, rfl, Nat.le_of_ble_eq_true rfl, Nat.le_of_ble_eq_true rfl⟩ hK hP hD hS hA hF [] [] rfl rfl rfl rfl hl.1 rfl (Nat.le_of_ble_eq_true rfl) d_Model_changed_172 ⟨Nat.zero_le _, Nat.zero_le _⟩) hP hD hS hA [] [] [] rfl rfl rfl (by decide) (fun _ => rfl) rfl (fun r_14 _ H locs h_14 hP hD hS => ?_)
                obtain ⟨h_14, z_14⟩ := h_14
                subst h_14
                refine lv_if_eq (tgt := 182) hx hb d_Model_changed_175 (by decide) (fun c_15 => ?_) (fun c_15 => ?_)
                · refine lv_iload_n hx hb d_Model_changed_182 rfl (lv_at hl 1 rfl) ?_
                  exact ri () hx hb hr hlocks hP hD hS d_Model_changed_183 (by simp only [sp_Model_changed, if_neg c_1, if_neg c_2, if_neg c_3, if_neg c_6, if_neg c_9, if_neg c_10, if_pos c_13, if_pos c_15])
                · refine lv_iload_n hx hb d_Model_changed_178 rfl (lv_at hl 2 rfl) ?_
                  refine lv_goto (tgt := 183) hx hb d_Model_changed_179 (by decide) ?_
                  exact ri () hx hb hr hlocks hP hD hS d_Model_changed_183 (by simp only [sp_Model_changed, if_neg c_1, if_neg c_2, if_neg c_3, if_neg c_6, if_neg c_9, if_neg c_10, if_pos c_13, if_neg c_15])
              · by_cases c_16 : x0 = 7
                · refine lv_tableIn (off := 169) (tgt := 170) hx hb d_Model_changed_1 (by rw [c_16]; decide) (by rw [c_16]; decide) (by rw [c_16]; rfl) (by decide) ?_
                  refine lv_iload_n hx hb d_Model_changed_170 rfl (lv_at hl 1 rfl) ?_
                  refine lv_iload_n hx hb d_Model_changed_171 rfl (lv_at hl 2 rfl) ?_
                  refine xi (wr := []) (W2 := fun _ => []) (xS (rest := []) ⟨hx, hb, hml, hown, hts⟩ (c_Model_below x1 x2) mw_Model_below ms_Model_below k_810 ⟨rfl, rfl, Nat.le_of_ble_eq_true rfl, Nat.le_of_ble_eq_true rfl⟩ hK hP hD hS hA hF [] [] rfl rfl rfl rfl hl.1 rfl (Nat.le_of_ble_eq_true rfl) d_Model_changed_172 ⟨Nat.zero_le _, Nat.zero_le _⟩) hP hD hS hA [] [] [] rfl rfl rfl (by decide) (fun _ => rfl) rfl (fun r_17 _ H locs h_17 hP hD hS => ?_)
                  obtain ⟨h_17, z_17⟩ := h_17
                  subst h_17
                  refine lv_if_eq (tgt := 182) hx hb d_Model_changed_175 (by decide) (fun c_18 => ?_) (fun c_18 => ?_)
                  · refine lv_iload_n hx hb d_Model_changed_182 rfl (lv_at hl 1 rfl) ?_
                    exact ri () hx hb hr hlocks hP hD hS d_Model_changed_183 (by simp only [sp_Model_changed, if_neg c_1, if_neg c_2, if_neg c_3, if_neg c_6, if_neg c_9, if_neg c_10, if_neg c_13, if_pos c_16, if_pos c_18])
                  · refine lv_iload_n hx hb d_Model_changed_178 rfl (lv_at hl 2 rfl) ?_
                    refine lv_goto (tgt := 183) hx hb d_Model_changed_179 (by decide) ?_
                    exact ri () hx hb hr hlocks hP hD hS d_Model_changed_183 (by simp only [sp_Model_changed, if_neg c_1, if_neg c_2, if_neg c_3, if_neg c_6, if_neg c_9, if_neg c_10, if_neg c_13, if_pos c_16, if_neg c_18])
                · by_cases c_19 : x0 = 8
                  · refine lv_tableIn (off := 129) (tgt := 130) hx hb d_Model_changed_1 (by rw [c_19]; decide) (by rw [c_19]; decide) (by rw [c_19]; rfl) (by decide) ?_
                    refine lv_iload_n hx hb d_Model_changed_130 rfl (lv_at hl 1 rfl) ?_
                    refine lv_iload_n hx hb d_Model_changed_131 rfl (lv_at hl 2 rfl) ?_
                    refine lv_ior hx hb d_Model_changed_132 ?_
                    exact ri () hx hb hr hlocks hP hD hS d_Model_changed_133 (by simp only [sp_Model_changed, if_neg c_1, if_neg c_2, if_neg c_3, if_neg c_6, if_neg c_9, if_neg c_10, if_neg c_13, if_neg c_16, if_pos c_19])
                  · by_cases c_20 : x0 = 9
                    · refine lv_tableIn (off := 169) (tgt := 170) hx hb d_Model_changed_1 (by rw [c_20]; decide) (by rw [c_20]; decide) (by rw [c_20]; rfl) (by decide) ?_
                      refine lv_iload_n hx hb d_Model_changed_170 rfl (lv_at hl 1 rfl) ?_
                      refine lv_iload_n hx hb d_Model_changed_171 rfl (lv_at hl 2 rfl) ?_
                      refine xi (wr := []) (W2 := fun _ => []) (xS (rest := []) ⟨hx, hb, hml, hown, hts⟩ (c_Model_below x1 x2) mw_Model_below ms_Model_below k_810 ⟨rfl, rfl, Nat.le_of_ble_eq_true rfl, Nat.le_of_ble_eq_true rfl⟩ hK hP hD hS hA hF [] [] rfl rfl rfl rfl hl.1 rfl (Nat.le_of_ble_eq_true rfl) d_Model_changed_172 ⟨Nat.zero_le _, Nat.zero_le _⟩) hP hD hS hA [] [] [] rfl rfl rfl (by decide) (fun _ => rfl) rfl (fun r_21 _ H locs h_21 hP hD hS => ?_)
                      obtain ⟨h_21, z_21⟩ := h_21
                      subst h_21
                      refine lv_if_eq (tgt := 182) hx hb d_Model_changed_175 (by decide) (fun c_22 => ?_) (fun c_22 => ?_)
                      · refine lv_iload_n hx hb d_Model_changed_182 rfl (lv_at hl 1 rfl) ?_
                        exact ri () hx hb hr hlocks hP hD hS d_Model_changed_183 (by simp only [sp_Model_changed, if_neg c_1, if_neg c_2, if_neg c_3, if_neg c_6, if_neg c_9, if_neg c_10, if_neg c_13, if_neg c_16, if_neg c_19, if_pos c_20, if_pos c_22])
                      · refine lv_iload_n hx hb d_Model_changed_178 rfl (lv_at hl 2 rfl) ?_
                        refine lv_goto (tgt := 183) hx hb d_Model_changed_179 (by decide) ?_
                        exact ri () hx hb hr hlocks hP hD hS d_Model_changed_183 (by simp only [sp_Model_changed, if_neg c_1, if_neg c_2, if_neg c_3, if_neg c_6, if_neg c_9, if_neg c_10, if_neg c_13, if_neg c_16, if_neg c_19, if_pos c_20, if_neg c_22])
                    · by_cases c_23 : x0 = 10
                      · refine lv_tableIn (off := 169) (tgt := 170) hx hb d_Model_changed_1 (by rw [c_23]; decide) (by rw [c_23]; decide) (by rw [c_23]; rfl) (by decide) ?_
                        refine lv_iload_n hx hb d_Model_changed_170 rfl (lv_at hl 1 rfl) ?_
                        refine lv_iload_n hx hb d_Model_changed_171 rfl (lv_at hl 2 rfl) ?_
                        refine xi (wr := []) (W2 := fun _ => []) (xS (rest := []) ⟨hx, hb, hml, hown, hts⟩ (c_Model_below x1 x2) mw_Model_below ms_Model_below k_810 ⟨rfl, rfl, Nat.le_of_ble_eq_true rfl, Nat.le_of_ble_eq_true rfl⟩ hK hP hD hS hA hF [] [] rfl rfl rfl rfl hl.1 rfl (Nat.le_of_ble_eq_true rfl) d_Model_changed_172 ⟨Nat.zero_le _, Nat.zero_le _⟩) hP hD hS hA [] [] [] rfl rfl rfl (by decide) (fun _ => rfl) rfl (fun r_24 _ H locs h_24 hP hD hS => ?_)
                        obtain ⟨h_24, z_24⟩ := h_24
                        subst h_24
                        refine lv_if_eq (tgt := 182) hx hb d_Model_changed_175 (by decide) (fun c_25 => ?_) (fun c_25 => ?_)
                        · refine lv_iload_n hx hb d_Model_changed_182 rfl (lv_at hl 1 rfl) ?_
                          exact ri () hx hb hr hlocks hP hD hS d_Model_changed_183 (by simp only [sp_Model_changed, if_neg c_1, if_neg c_2, if_neg c_3, if_neg c_6, if_neg c_9, if_neg c_10, if_neg c_13, if_neg c_16, if_neg c_19, if_neg c_20, if_pos c_23, if_pos c_25])
                        · refine lv_iload_n hx hb d_Model_changed_178 rfl (lv_at hl 2 rfl) ?_
                          refine lv_goto (tgt := 183) hx hb d_Model_changed_179 (by decide) ?_
                          exact ri () hx hb hr hlocks hP hD hS d_Model_changed_183 (by simp only [sp_Model_changed, if_neg c_1, if_neg c_2, if_neg c_3, if_neg c_6, if_neg c_9, if_neg c_10, if_neg c_13, if_neg c_16, if_neg c_19, if_neg c_20, if_pos c_23, if_neg c_25])
                      · by_cases c_26 : x0 = 11
                        · refine lv_tableIn (off := 169) (tgt := 170) hx hb d_Model_changed_1 (by rw [c_26]; decide) (by rw [c_26]; decide) (by rw [c_26]; rfl) (by decide) ?_
                          refine lv_iload_n hx hb d_Model_changed_170 rfl (lv_at hl 1 rfl) ?_
                          refine lv_iload_n hx hb d_Model_changed_171 rfl (lv_at hl 2 rfl) ?_
                          refine xi (wr := []) (W2 := fun _ => []) (xS (rest := []) ⟨hx, hb, hml, hown, hts⟩ (c_Model_below x1 x2) mw_Model_below ms_Model_below k_810 ⟨rfl, rfl, Nat.le_of_ble_eq_true rfl, Nat.le_of_ble_eq_true rfl⟩ hK hP hD hS hA hF [] [] rfl rfl rfl rfl hl.1 rfl (Nat.le_of_ble_eq_true rfl) d_Model_changed_172 ⟨Nat.zero_le _, Nat.zero_le _⟩) hP hD hS hA [] [] [] rfl rfl rfl (by decide) (fun _ => rfl) rfl (fun r_27 _ H locs h_27 hP hD hS => ?_)
                          obtain ⟨h_27, z_27⟩ := h_27
                          subst h_27
                          refine lv_if_eq (tgt := 182) hx hb d_Model_changed_175 (by decide) (fun c_28 => ?_) (fun c_28 => ?_)
                          · refine lv_iload_n hx hb d_Model_changed_182 rfl (lv_at hl 1 rfl) ?_
                            exact ri () hx hb hr hlocks hP hD hS d_Model_changed_183 (by simp only [sp_Model_changed, if_neg c_1, if_neg c_2, if_neg c_3, if_neg c_6, if_neg c_9, if_neg c_10, if_neg c_13, if_neg c_16, if_neg c_19, if_neg c_20, if_neg c_23, if_pos c_26, if_pos c_28])
                          · refine lv_iload_n hx hb d_Model_changed_178 rfl (lv_at hl 2 rfl) ?_
                            refine lv_goto (tgt := 183) hx hb d_Model_changed_179 (by decide) ?_
                            exact ri () hx hb hr hlocks hP hD hS d_Model_changed_183 (by simp only [sp_Model_changed, if_neg c_1, if_neg c_2, if_neg c_3, if_neg c_6, if_neg c_9, if_neg c_10, if_neg c_13, if_neg c_16, if_neg c_19, if_neg c_20, if_neg c_23, if_pos c_26, if_neg c_28])
                        · by_cases c_29 : x0 = 12
                          · refine lv_tableIn (off := 125) (tgt := 126) hx hb d_Model_changed_1 (by rw [c_29]; decide) (by rw [c_29]; decide) (by rw [c_29]; rfl) (by decide) ?_
                            refine lv_iload_n hx hb d_Model_changed_126 rfl (lv_at hl 1 rfl) ?_
                            refine lv_iload_n hx hb d_Model_changed_127 rfl (lv_at hl 2 rfl) ?_
                            refine lv_iand hx hb d_Model_changed_128 ?_
                            exact ri () hx hb hr hlocks hP hD hS d_Model_changed_129 (by simp only [sp_Model_changed, if_neg c_1, if_neg c_2, if_neg c_3, if_neg c_6, if_neg c_9, if_neg c_10, if_neg c_13, if_neg c_16, if_neg c_19, if_neg c_20, if_neg c_23, if_neg c_26, if_pos c_29])
                          · by_cases c_30 : x0 = 13
                            · refine lv_tableIn (off := 169) (tgt := 170) hx hb d_Model_changed_1 (by rw [c_30]; decide) (by rw [c_30]; decide) (by rw [c_30]; rfl) (by decide) ?_
                              refine lv_iload_n hx hb d_Model_changed_170 rfl (lv_at hl 1 rfl) ?_
                              refine lv_iload_n hx hb d_Model_changed_171 rfl (lv_at hl 2 rfl) ?_
                              refine xi (wr := []) (W2 := fun _ => []) (xS (rest := []) ⟨hx, hb, hml, hown, hts⟩ (c_Model_below x1 x2) mw_Model_below ms_Model_below k_810 ⟨rfl, rfl, Nat.le_of_ble_eq_true rfl, Nat.le_of_ble_eq_true rfl⟩ hK hP hD hS hA hF [] [] rfl rfl rfl rfl hl.1 rfl (Nat.le_of_ble_eq_true rfl) d_Model_changed_172 ⟨Nat.zero_le _, Nat.zero_le _⟩) hP hD hS hA [] [] [] rfl rfl rfl (by decide) (fun _ => rfl) rfl (fun r_31 _ H locs h_31 hP hD hS => ?_)
                              obtain ⟨h_31, z_31⟩ := h_31
                              subst h_31
                              refine lv_if_eq (tgt := 182) hx hb d_Model_changed_175 (by decide) (fun c_32 => ?_) (fun c_32 => ?_)
                              · refine lv_iload_n hx hb d_Model_changed_182 rfl (lv_at hl 1 rfl) ?_
                                exact ri () hx hb hr hlocks hP hD hS d_Model_changed_183 (by simp only [sp_Model_changed, if_neg c_1, if_neg c_2, if_neg c_3, if_neg c_6, if_neg c_9, if_neg c_10, if_neg c_13, if_neg c_16, if_neg c_19, if_neg c_20, if_neg c_23, if_neg c_26, if_neg c_29, if_pos c_30, if_pos c_32])
                              · refine lv_iload_n hx hb d_Model_changed_178 rfl (lv_at hl 2 rfl) ?_
                                refine lv_goto (tgt := 183) hx hb d_Model_changed_179 (by decide) ?_
                                exact ri () hx hb hr hlocks hP hD hS d_Model_changed_183 (by simp only [sp_Model_changed, if_neg c_1, if_neg c_2, if_neg c_3, if_neg c_6, if_neg c_9, if_neg c_10, if_neg c_13, if_neg c_16, if_neg c_19, if_neg c_20, if_neg c_23, if_neg c_26, if_neg c_29, if_pos c_30, if_neg c_32])
                            · by_cases c_33 : x0 = 14
                              · refine lv_tableIn (off := 169) (tgt := 170) hx hb d_Model_changed_1 (by rw [c_33]; decide) (by rw [c_33]; decide) (by rw [c_33]; rfl) (by decide) ?_
                                refine lv_iload_n hx hb d_Model_changed_170 rfl (lv_at hl 1 rfl) ?_
                                refine lv_iload_n hx hb d_Model_changed_171 rfl (lv_at hl 2 rfl) ?_
                                refine xi (wr := []) (W2 := fun _ => []) (xS (rest := []) ⟨hx, hb, hml, hown, hts⟩ (c_Model_below x1 x2) mw_Model_below ms_Model_below k_810 ⟨rfl, rfl, Nat.le_of_ble_eq_true rfl, Nat.le_of_ble_eq_true rfl⟩ hK hP hD hS hA hF [] [] rfl rfl rfl rfl hl.1 rfl (Nat.le_of_ble_eq_true rfl) d_Model_changed_172 ⟨Nat.zero_le _, Nat.zero_le _⟩) hP hD hS hA [] [] [] rfl rfl rfl (by decide) (fun _ => rfl) rfl (fun r_34 _ H locs h_34 hP hD hS => ?_)
                                obtain ⟨h_34, z_34⟩ := h_34
                                subst h_34
                                refine lv_if_eq (tgt := 182) hx hb d_Model_changed_175 (by decide) (fun c_35 => ?_) (fun c_35 => ?_)
                                · refine lv_iload_n hx hb d_Model_changed_182 rfl (lv_at hl 1 rfl) ?_
                                  exact ri () hx hb hr hlocks hP hD hS d_Model_changed_183 (by simp only [sp_Model_changed, if_neg c_1, if_neg c_2, if_neg c_3, if_neg c_6, if_neg c_9, if_neg c_10, if_neg c_13, if_neg c_16, if_neg c_19, if_neg c_20, if_neg c_23, if_neg c_26, if_neg c_29, if_neg c_30, if_pos c_33, if_pos c_35])
                                · refine lv_iload_n hx hb d_Model_changed_178 rfl (lv_at hl 2 rfl) ?_
                                  refine lv_goto (tgt := 183) hx hb d_Model_changed_179 (by decide) ?_
                                  exact ri () hx hb hr hlocks hP hD hS d_Model_changed_183 (by simp only [sp_Model_changed, if_neg c_1, if_neg c_2, if_neg c_3, if_neg c_6, if_neg c_9, if_neg c_10, if_neg c_13, if_neg c_16, if_neg c_19, if_neg c_20, if_neg c_23, if_neg c_26, if_neg c_29, if_neg c_30, if_pos c_33, if_neg c_35])
                              · by_cases c_36 : x0 = 15
                                · refine lv_tableIn (off := 169) (tgt := 170) hx hb d_Model_changed_1 (by rw [c_36]; decide) (by rw [c_36]; decide) (by rw [c_36]; rfl) (by decide) ?_
                                  refine lv_iload_n hx hb d_Model_changed_170 rfl (lv_at hl 1 rfl) ?_
                                  refine lv_iload_n hx hb d_Model_changed_171 rfl (lv_at hl 2 rfl) ?_
                                  refine xi (wr := []) (W2 := fun _ => []) (xS (rest := []) ⟨hx, hb, hml, hown, hts⟩ (c_Model_below x1 x2) mw_Model_below ms_Model_below k_810 ⟨rfl, rfl, Nat.le_of_ble_eq_true rfl, Nat.le_of_ble_eq_true rfl⟩ hK hP hD hS hA hF [] [] rfl rfl rfl rfl hl.1 rfl (Nat.le_of_ble_eq_true rfl) d_Model_changed_172 ⟨Nat.zero_le _, Nat.zero_le _⟩) hP hD hS hA [] [] [] rfl rfl rfl (by decide) (fun _ => rfl) rfl (fun r_37 _ H locs h_37 hP hD hS => ?_)
                                  obtain ⟨h_37, z_37⟩ := h_37
                                  subst h_37
                                  refine lv_if_eq (tgt := 182) hx hb d_Model_changed_175 (by decide) (fun c_38 => ?_) (fun c_38 => ?_)
                                  · refine lv_iload_n hx hb d_Model_changed_182 rfl (lv_at hl 1 rfl) ?_
                                    exact ri () hx hb hr hlocks hP hD hS d_Model_changed_183 (by simp only [sp_Model_changed, if_neg c_1, if_neg c_2, if_neg c_3, if_neg c_6, if_neg c_9, if_neg c_10, if_neg c_13, if_neg c_16, if_neg c_19, if_neg c_20, if_neg c_23, if_neg c_26, if_neg c_29, if_neg c_30, if_neg c_33, if_pos c_36, if_pos c_38])
                                  · refine lv_iload_n hx hb d_Model_changed_178 rfl (lv_at hl 2 rfl) ?_
                                    refine lv_goto (tgt := 183) hx hb d_Model_changed_179 (by decide) ?_
                                    exact ri () hx hb hr hlocks hP hD hS d_Model_changed_183 (by simp only [sp_Model_changed, if_neg c_1, if_neg c_2, if_neg c_3, if_neg c_6, if_neg c_9, if_neg c_10, if_neg c_13, if_neg c_16, if_neg c_19, if_neg c_20, if_neg c_23, if_neg c_26, if_neg c_29, if_neg c_30, if_neg c_33, if_pos c_36, if_neg c_38])
                                · by_cases c_39 : x0 = 16
                                  · refine lv_tableIn (off := 133) (tgt := 134) hx hb d_Model_changed_1 (by rw [c_39]; decide) (by rw [c_39]; decide) (by rw [c_39]; rfl) (by decide) ?_
                                    refine lv_iload_n hx hb d_Model_changed_134 rfl (lv_at hl 1 rfl) ?_
                                    refine lv_iload_n hx hb d_Model_changed_135 rfl (lv_at hl 2 rfl) ?_
                                    refine lv_icmp_ge (tgt := 143) hx hb d_Model_changed_136 (by decide) (fun c_40 => ?_) (fun c_40 => ?_)
                                    · refine lv_iload_n hx hb d_Model_changed_143 rfl (lv_at hl 2 rfl) ?_
                                      exact ri () hx hb hr hlocks hP hD hS d_Model_changed_144 (by simp only [sp_Model_changed, if_neg c_1, if_neg c_2, if_neg c_3, if_neg c_6, if_neg c_9, if_neg c_10, if_neg c_13, if_neg c_16, if_neg c_19, if_neg c_20, if_neg c_23, if_neg c_26, if_neg c_29, if_neg c_30, if_neg c_33, if_neg c_36, if_pos c_39, if_pos c_40])
                                    · refine lv_iload_n hx hb d_Model_changed_139 rfl (lv_at hl 1 rfl) ?_
                                      refine lv_goto (tgt := 144) hx hb d_Model_changed_140 (by decide) ?_
                                      exact ri () hx hb hr hlocks hP hD hS d_Model_changed_144 (by simp only [sp_Model_changed, if_neg c_1, if_neg c_2, if_neg c_3, if_neg c_6, if_neg c_9, if_neg c_10, if_neg c_13, if_neg c_16, if_neg c_19, if_neg c_20, if_neg c_23, if_neg c_26, if_neg c_29, if_neg c_30, if_neg c_33, if_neg c_36, if_pos c_39, if_neg c_40])
                                  · by_cases c_41 : x0 = 17
                                    · refine lv_tableIn (off := 169) (tgt := 170) hx hb d_Model_changed_1 (by rw [c_41]; decide) (by rw [c_41]; decide) (by rw [c_41]; rfl) (by decide) ?_
                                      refine lv_iload_n hx hb d_Model_changed_170 rfl (lv_at hl 1 rfl) ?_
                                      refine lv_iload_n hx hb d_Model_changed_171 rfl (lv_at hl 2 rfl) ?_
                                      refine xi (wr := []) (W2 := fun _ => []) (xS (rest := []) ⟨hx, hb, hml, hown, hts⟩ (c_Model_below x1 x2) mw_Model_below ms_Model_below k_810 ⟨rfl, rfl, Nat.le_of_ble_eq_true rfl, Nat.le_of_ble_eq_true rfl⟩ hK hP hD hS hA hF [] [] rfl rfl rfl rfl hl.1 rfl (Nat.le_of_ble_eq_true rfl) d_Model_changed_172 ⟨Nat.zero_le _, Nat.zero_le _⟩) hP hD hS hA [] [] [] rfl rfl rfl (by decide) (fun _ => rfl) rfl (fun r_42 _ H locs h_42 hP hD hS => ?_)
                                      obtain ⟨h_42, z_42⟩ := h_42
                                      subst h_42
                                      refine lv_if_eq (tgt := 182) hx hb d_Model_changed_175 (by decide) (fun c_43 => ?_) (fun c_43 => ?_)
                                      · refine lv_iload_n hx hb d_Model_changed_182 rfl (lv_at hl 1 rfl) ?_
                                        exact ri () hx hb hr hlocks hP hD hS d_Model_changed_183 (by simp only [sp_Model_changed, if_neg c_1, if_neg c_2, if_neg c_3, if_neg c_6, if_neg c_9, if_neg c_10, if_neg c_13, if_neg c_16, if_neg c_19, if_neg c_20, if_neg c_23, if_neg c_26, if_neg c_29, if_neg c_30, if_neg c_33, if_neg c_36, if_neg c_39, if_pos c_41, if_pos c_43])
                                      · refine lv_iload_n hx hb d_Model_changed_178 rfl (lv_at hl 2 rfl) ?_
                                        refine lv_goto (tgt := 183) hx hb d_Model_changed_179 (by decide) ?_
                                        exact ri () hx hb hr hlocks hP hD hS d_Model_changed_183 (by simp only [sp_Model_changed, if_neg c_1, if_neg c_2, if_neg c_3, if_neg c_6, if_neg c_9, if_neg c_10, if_neg c_13, if_neg c_16, if_neg c_19, if_neg c_20, if_neg c_23, if_neg c_26, if_neg c_29, if_neg c_30, if_neg c_33, if_neg c_36, if_neg c_39, if_pos c_41, if_neg c_43])
                                    · by_cases c_44 : x0 = 18
                                      · refine lv_tableIn (off := 169) (tgt := 170) hx hb d_Model_changed_1 (by rw [c_44]; decide) (by rw [c_44]; decide) (by rw [c_44]; rfl) (by decide) ?_
                                        refine lv_iload_n hx hb d_Model_changed_170 rfl (lv_at hl 1 rfl) ?_
                                        refine lv_iload_n hx hb d_Model_changed_171 rfl (lv_at hl 2 rfl) ?_
                                        refine xi (wr := []) (W2 := fun _ => []) (xS (rest := []) ⟨hx, hb, hml, hown, hts⟩ (c_Model_below x1 x2) mw_Model_below ms_Model_below k_810 ⟨rfl, rfl, Nat.le_of_ble_eq_true rfl, Nat.le_of_ble_eq_true rfl⟩ hK hP hD hS hA hF [] [] rfl rfl rfl rfl hl.1 rfl (Nat.le_of_ble_eq_true rfl) d_Model_changed_172 ⟨Nat.zero_le _, Nat.zero_le _⟩) hP hD hS hA [] [] [] rfl rfl rfl (by decide) (fun _ => rfl) rfl (fun r_45 _ H locs h_45 hP hD hS => ?_)
                                        obtain ⟨h_45, z_45⟩ := h_45
                                        subst h_45
                                        refine lv_if_eq (tgt := 182) hx hb d_Model_changed_175 (by decide) (fun c_46 => ?_) (fun c_46 => ?_)
                                        · refine lv_iload_n hx hb d_Model_changed_182 rfl (lv_at hl 1 rfl) ?_
                                          exact ri () hx hb hr hlocks hP hD hS d_Model_changed_183 (by simp only [sp_Model_changed, if_neg c_1, if_neg c_2, if_neg c_3, if_neg c_6, if_neg c_9, if_neg c_10, if_neg c_13, if_neg c_16, if_neg c_19, if_neg c_20, if_neg c_23, if_neg c_26, if_neg c_29, if_neg c_30, if_neg c_33, if_neg c_36, if_neg c_39, if_neg c_41, if_pos c_44, if_pos c_46])
                                        · refine lv_iload_n hx hb d_Model_changed_178 rfl (lv_at hl 2 rfl) ?_
                                          refine lv_goto (tgt := 183) hx hb d_Model_changed_179 (by decide) ?_
                                          exact ri () hx hb hr hlocks hP hD hS d_Model_changed_183 (by simp only [sp_Model_changed, if_neg c_1, if_neg c_2, if_neg c_3, if_neg c_6, if_neg c_9, if_neg c_10, if_neg c_13, if_neg c_16, if_neg c_19, if_neg c_20, if_neg c_23, if_neg c_26, if_neg c_29, if_neg c_30, if_neg c_33, if_neg c_36, if_neg c_39, if_neg c_41, if_pos c_44, if_neg c_46])
                                      · by_cases c_47 : x0 = 19
                                        · refine lv_tableIn (off := 169) (tgt := 170) hx hb d_Model_changed_1 (by rw [c_47]; decide) (by rw [c_47]; decide) (by rw [c_47]; rfl) (by decide) ?_
                                          refine lv_iload_n hx hb d_Model_changed_170 rfl (lv_at hl 1 rfl) ?_
                                          refine lv_iload_n hx hb d_Model_changed_171 rfl (lv_at hl 2 rfl) ?_
                                          refine xi (wr := []) (W2 := fun _ => []) (xS (rest := []) ⟨hx, hb, hml, hown, hts⟩ (c_Model_below x1 x2) mw_Model_below ms_Model_below k_810 ⟨rfl, rfl, Nat.le_of_ble_eq_true rfl, Nat.le_of_ble_eq_true rfl⟩ hK hP hD hS hA hF [] [] rfl rfl rfl rfl hl.1 rfl (Nat.le_of_ble_eq_true rfl) d_Model_changed_172 ⟨Nat.zero_le _, Nat.zero_le _⟩) hP hD hS hA [] [] [] rfl rfl rfl (by decide) (fun _ => rfl) rfl (fun r_48 _ H locs h_48 hP hD hS => ?_)
                                          obtain ⟨h_48, z_48⟩ := h_48
                                          subst h_48
                                          refine lv_if_eq (tgt := 182) hx hb d_Model_changed_175 (by decide) (fun c_49 => ?_) (fun c_49 => ?_)
                                          · refine lv_iload_n hx hb d_Model_changed_182 rfl (lv_at hl 1 rfl) ?_
                                            exact ri () hx hb hr hlocks hP hD hS d_Model_changed_183 (by simp only [sp_Model_changed, if_neg c_1, if_neg c_2, if_neg c_3, if_neg c_6, if_neg c_9, if_neg c_10, if_neg c_13, if_neg c_16, if_neg c_19, if_neg c_20, if_neg c_23, if_neg c_26, if_neg c_29, if_neg c_30, if_neg c_33, if_neg c_36, if_neg c_39, if_neg c_41, if_neg c_44, if_pos c_47, if_pos c_49])
                                          · refine lv_iload_n hx hb d_Model_changed_178 rfl (lv_at hl 2 rfl) ?_
                                            refine lv_goto (tgt := 183) hx hb d_Model_changed_179 (by decide) ?_
                                            exact ri () hx hb hr hlocks hP hD hS d_Model_changed_183 (by simp only [sp_Model_changed, if_neg c_1, if_neg c_2, if_neg c_3, if_neg c_6, if_neg c_9, if_neg c_10, if_neg c_13, if_neg c_16, if_neg c_19, if_neg c_20, if_neg c_23, if_neg c_26, if_neg c_29, if_neg c_30, if_neg c_33, if_neg c_36, if_neg c_39, if_neg c_41, if_neg c_44, if_pos c_47, if_neg c_49])
                                        · by_cases c_50 : x0 = 20
                                          · refine lv_tableIn (off := 144) (tgt := 145) hx hb d_Model_changed_1 (by rw [c_50]; decide) (by rw [c_50]; decide) (by rw [c_50]; rfl) (by decide) ?_
                                            refine lv_iload_n hx hb d_Model_changed_145 rfl (lv_at hl 1 rfl) ?_
                                            refine lv_iload_n hx hb d_Model_changed_146 rfl (lv_at hl 2 rfl) ?_
                                            refine lv_icmp_le (tgt := 154) hx hb d_Model_changed_147 (by decide) (fun c_51 => ?_) (fun c_51 => ?_)
                                            · refine lv_iload_n hx hb d_Model_changed_154 rfl (lv_at hl 2 rfl) ?_
                                              exact ri () hx hb hr hlocks hP hD hS d_Model_changed_155 (by simp only [sp_Model_changed, if_neg c_1, if_neg c_2, if_neg c_3, if_neg c_6, if_neg c_9, if_neg c_10, if_neg c_13, if_neg c_16, if_neg c_19, if_neg c_20, if_neg c_23, if_neg c_26, if_neg c_29, if_neg c_30, if_neg c_33, if_neg c_36, if_neg c_39, if_neg c_41, if_neg c_44, if_neg c_47, if_pos c_50, if_pos c_51])
                                            · refine lv_iload_n hx hb d_Model_changed_150 rfl (lv_at hl 1 rfl) ?_
                                              refine lv_goto (tgt := 155) hx hb d_Model_changed_151 (by decide) ?_
                                              exact ri () hx hb hr hlocks hP hD hS d_Model_changed_155 (by simp only [sp_Model_changed, if_neg c_1, if_neg c_2, if_neg c_3, if_neg c_6, if_neg c_9, if_neg c_10, if_neg c_13, if_neg c_16, if_neg c_19, if_neg c_20, if_neg c_23, if_neg c_26, if_neg c_29, if_neg c_30, if_neg c_33, if_neg c_36, if_neg c_39, if_neg c_41, if_neg c_44, if_neg c_47, if_pos c_50, if_neg c_51])
                                          · by_cases c_52 : x0 = 21
                                            · refine lv_tableIn (off := 169) (tgt := 170) hx hb d_Model_changed_1 (by rw [c_52]; decide) (by rw [c_52]; decide) (by rw [c_52]; rfl) (by decide) ?_
                                              refine lv_iload_n hx hb d_Model_changed_170 rfl (lv_at hl 1 rfl) ?_
                                              refine lv_iload_n hx hb d_Model_changed_171 rfl (lv_at hl 2 rfl) ?_
                                              refine xi (wr := []) (W2 := fun _ => []) (xS (rest := []) ⟨hx, hb, hml, hown, hts⟩ (c_Model_below x1 x2) mw_Model_below ms_Model_below k_810 ⟨rfl, rfl, Nat.le_of_ble_eq_true rfl, Nat.le_of_ble_eq_true rfl⟩ hK hP hD hS hA hF [] [] rfl rfl rfl rfl hl.1 rfl (Nat.le_of_ble_eq_true rfl) d_Model_changed_172 ⟨Nat.zero_le _, Nat.zero_le _⟩) hP hD hS hA [] [] [] rfl rfl rfl (by decide) (fun _ => rfl) rfl (fun r_53 _ H locs h_53 hP hD hS => ?_)
                                              obtain ⟨h_53, z_53⟩ := h_53
                                              subst h_53
                                              refine lv_if_eq (tgt := 182) hx hb d_Model_changed_175 (by decide) (fun c_54 => ?_) (fun c_54 => ?_)
                                              · refine lv_iload_n hx hb d_Model_changed_182 rfl (lv_at hl 1 rfl) ?_
                                                exact ri () hx hb hr hlocks hP hD hS d_Model_changed_183 (by simp only [sp_Model_changed, if_neg c_1, if_neg c_2, if_neg c_3, if_neg c_6, if_neg c_9, if_neg c_10, if_neg c_13, if_neg c_16, if_neg c_19, if_neg c_20, if_neg c_23, if_neg c_26, if_neg c_29, if_neg c_30, if_neg c_33, if_neg c_36, if_neg c_39, if_neg c_41, if_neg c_44, if_neg c_47, if_neg c_50, if_pos c_52, if_pos c_54])
                                              · refine lv_iload_n hx hb d_Model_changed_178 rfl (lv_at hl 2 rfl) ?_
                                                refine lv_goto (tgt := 183) hx hb d_Model_changed_179 (by decide) ?_
                                                exact ri () hx hb hr hlocks hP hD hS d_Model_changed_183 (by simp only [sp_Model_changed, if_neg c_1, if_neg c_2, if_neg c_3, if_neg c_6, if_neg c_9, if_neg c_10, if_neg c_13, if_neg c_16, if_neg c_19, if_neg c_20, if_neg c_23, if_neg c_26, if_neg c_29, if_neg c_30, if_neg c_33, if_neg c_36, if_neg c_39, if_neg c_41, if_neg c_44, if_neg c_47, if_neg c_50, if_pos c_52, if_neg c_54])
                                            · by_cases c_55 : x0 = 22
                                              · refine lv_tableIn (off := 169) (tgt := 170) hx hb d_Model_changed_1 (by rw [c_55]; decide) (by rw [c_55]; decide) (by rw [c_55]; rfl) (by decide) ?_
                                                refine lv_iload_n hx hb d_Model_changed_170 rfl (lv_at hl 1 rfl) ?_
                                                refine lv_iload_n hx hb d_Model_changed_171 rfl (lv_at hl 2 rfl) ?_
                                                refine xi (wr := []) (W2 := fun _ => []) (xS (rest := []) ⟨hx, hb, hml, hown, hts⟩ (c_Model_below x1 x2) mw_Model_below ms_Model_below k_810 ⟨rfl, rfl, Nat.le_of_ble_eq_true rfl, Nat.le_of_ble_eq_true rfl⟩ hK hP hD hS hA hF [] [] rfl rfl rfl rfl hl.1 rfl (Nat.le_of_ble_eq_true rfl) d_Model_changed_172 ⟨Nat.zero_le _, Nat.zero_le _⟩) hP hD hS hA [] [] [] rfl rfl rfl (by decide) (fun _ => rfl) rfl (fun r_56 _ H locs h_56 hP hD hS => ?_)
                                                obtain ⟨h_56, z_56⟩ := h_56
                                                subst h_56
                                                refine lv_if_eq (tgt := 182) hx hb d_Model_changed_175 (by decide) (fun c_57 => ?_) (fun c_57 => ?_)
                                                · refine lv_iload_n hx hb d_Model_changed_182 rfl (lv_at hl 1 rfl) ?_
                                                  exact ri () hx hb hr hlocks hP hD hS d_Model_changed_183 (by simp only [sp_Model_changed, if_neg c_1, if_neg c_2, if_neg c_3, if_neg c_6, if_neg c_9, if_neg c_10, if_neg c_13, if_neg c_16, if_neg c_19, if_neg c_20, if_neg c_23, if_neg c_26, if_neg c_29, if_neg c_30, if_neg c_33, if_neg c_36, if_neg c_39, if_neg c_41, if_neg c_44, if_neg c_47, if_neg c_50, if_neg c_52, if_pos c_55, if_pos c_57])
                                                · refine lv_iload_n hx hb d_Model_changed_178 rfl (lv_at hl 2 rfl) ?_
                                                  refine lv_goto (tgt := 183) hx hb d_Model_changed_179 (by decide) ?_
                                                  exact ri () hx hb hr hlocks hP hD hS d_Model_changed_183 (by simp only [sp_Model_changed, if_neg c_1, if_neg c_2, if_neg c_3, if_neg c_6, if_neg c_9, if_neg c_10, if_neg c_13, if_neg c_16, if_neg c_19, if_neg c_20, if_neg c_23, if_neg c_26, if_neg c_29, if_neg c_30, if_neg c_33, if_neg c_36, if_neg c_39, if_neg c_41, if_neg c_44, if_neg c_47, if_neg c_50, if_neg c_52, if_pos c_55, if_neg c_57])
                                              · by_cases c_58 : x0 = 23
                                                · refine lv_tableIn (off := 169) (tgt := 170) hx hb d_Model_changed_1 (by rw [c_58]; decide) (by rw [c_58]; decide) (by rw [c_58]; rfl) (by decide) ?_
                                                  refine lv_iload_n hx hb d_Model_changed_170 rfl (lv_at hl 1 rfl) ?_
                                                  refine lv_iload_n hx hb d_Model_changed_171 rfl (lv_at hl 2 rfl) ?_
                                                  refine xi (wr := []) (W2 := fun _ => []) (xS (rest := []) ⟨hx, hb, hml, hown, hts⟩ (c_Model_below x1 x2) mw_Model_below ms_Model_below k_810 ⟨rfl, rfl, Nat.le_of_ble_eq_true rfl, Nat.le_of_ble_eq_true rfl⟩ hK hP hD hS hA hF [] [] rfl rfl rfl rfl hl.1 rfl (Nat.le_of_ble_eq_true rfl) d_Model_changed_172 ⟨Nat.zero_le _, Nat.zero_le _⟩) hP hD hS hA [] [] [] rfl rfl rfl (by decide) (fun _ => rfl) rfl (fun r_59 _ H locs h_59 hP hD hS => ?_)
                                                  obtain ⟨h_59, z_59⟩ := h_59
                                                  subst h_59
                                                  refine lv_if_eq (tgt := 182) hx hb d_Model_changed_175 (by decide) (fun c_60 => ?_) (fun c_60 => ?_)
                                                  · refine lv_iload_n hx hb d_Model_changed_182 rfl (lv_at hl 1 rfl) ?_
                                                    exact ri () hx hb hr hlocks hP hD hS d_Model_changed_183 (by simp only [sp_Model_changed, if_neg c_1, if_neg c_2, if_neg c_3, if_neg c_6, if_neg c_9, if_neg c_10, if_neg c_13, if_neg c_16, if_neg c_19, if_neg c_20, if_neg c_23, if_neg c_26, if_neg c_29, if_neg c_30, if_neg c_33, if_neg c_36, if_neg c_39, if_neg c_41, if_neg c_44, if_neg c_47, if_neg c_50, if_neg c_52, if_neg c_55, if_pos c_58, if_pos c_60])
                                                  · refine lv_iload_n hx hb d_Model_changed_178 rfl (lv_at hl 2 rfl) ?_
                                                    refine lv_goto (tgt := 183) hx hb d_Model_changed_179 (by decide) ?_
                                                    exact ri () hx hb hr hlocks hP hD hS d_Model_changed_183 (by simp only [sp_Model_changed, if_neg c_1, if_neg c_2, if_neg c_3, if_neg c_6, if_neg c_9, if_neg c_10, if_neg c_13, if_neg c_16, if_neg c_19, if_neg c_20, if_neg c_23, if_neg c_26, if_neg c_29, if_neg c_30, if_neg c_33, if_neg c_36, if_neg c_39, if_neg c_41, if_neg c_44, if_neg c_47, if_neg c_50, if_neg c_52, if_neg c_55, if_pos c_58, if_neg c_60])
                                                · by_cases c_61 : x0 = 24
                                                  · refine lv_tableIn (off := 155) (tgt := 156) hx hb d_Model_changed_1 (by rw [c_61]; decide) (by rw [c_61]; decide) (by rw [c_61]; rfl) (by decide) ?_
                                                    refine lv_iload_n hx hb d_Model_changed_156 rfl (lv_at hl 1 rfl) ?_
                                                    refine lv_iload_n hx hb d_Model_changed_157 rfl (lv_at hl 2 rfl) ?_
                                                    refine xi (wr := []) (W2 := fun _ => []) (xS (rest := []) ⟨hx, hb, hml, hown, hts⟩ (c_Model_below x1 x2) mw_Model_below ms_Model_below k_810 ⟨rfl, rfl, Nat.le_of_ble_eq_true rfl, Nat.le_of_ble_eq_true rfl⟩ hK hP hD hS hA hF [] [] rfl rfl rfl rfl hl.1 rfl (Nat.le_of_ble_eq_true rfl) d_Model_changed_158 ⟨Nat.zero_le _, Nat.zero_le _⟩) hP hD hS hA [] [] [] rfl rfl rfl (by decide) (fun _ => rfl) rfl (fun r_62 _ H locs h_62 hP hD hS => ?_)
                                                    obtain ⟨h_62, z_62⟩ := h_62
                                                    subst h_62
                                                    refine lv_if_eq (tgt := 168) hx hb d_Model_changed_161 (by decide) (fun c_63 => ?_) (fun c_63 => ?_)
                                                    · refine lv_iload_n hx hb d_Model_changed_168 rfl (lv_at hl 2 rfl) ?_
                                                      exact ri () hx hb hr hlocks hP hD hS d_Model_changed_169 (by simp only [sp_Model_changed, if_neg c_1, if_neg c_2, if_neg c_3, if_neg c_6, if_neg c_9, if_neg c_10, if_neg c_13, if_neg c_16, if_neg c_19, if_neg c_20, if_neg c_23, if_neg c_26, if_neg c_29, if_neg c_30, if_neg c_33, if_neg c_36, if_neg c_39, if_neg c_41, if_neg c_44, if_neg c_47, if_neg c_50, if_neg c_52, if_neg c_55, if_neg c_58, if_pos c_61, if_pos c_63])
                                                    · refine lv_iload_n hx hb d_Model_changed_164 rfl (lv_at hl 1 rfl) ?_
                                                      refine lv_goto (tgt := 169) hx hb d_Model_changed_165 (by decide) ?_
                                                      exact ri () hx hb hr hlocks hP hD hS d_Model_changed_169 (by simp only [sp_Model_changed, if_neg c_1, if_neg c_2, if_neg c_3, if_neg c_6, if_neg c_9, if_neg c_10, if_neg c_13, if_neg c_16, if_neg c_19, if_neg c_20, if_neg c_23, if_neg c_26, if_neg c_29, if_neg c_30, if_neg c_33, if_neg c_36, if_neg c_39, if_neg c_41, if_neg c_44, if_neg c_47, if_neg c_50, if_neg c_52, if_neg c_55, if_neg c_58, if_pos c_61, if_neg c_63])
                                                  · refine lv_tableOut (tgt := 170) hx hb d_Model_changed_1 (by have := lv_neT (a := 0) c_1 rfl; have := lv_neT (a := 1) c_2 rfl; have := lv_neT (a := 2) c_3 rfl; have := lv_neT (a := 3) c_6 rfl; have := lv_neT (a := 4) c_9 rfl; have := lv_neT (a := 5) c_10 rfl; have := lv_neT (a := 6) c_13 rfl; have := lv_neT (a := 7) c_16 rfl; have := lv_neT (a := 8) c_19 rfl; have := lv_neT (a := 9) c_20 rfl; have := lv_neT (a := 10) c_23 rfl; have := lv_neT (a := 11) c_26 rfl; have := lv_neT (a := 12) c_29 rfl; have := lv_neT (a := 13) c_30 rfl; have := lv_neT (a := 14) c_33 rfl; have := lv_neT (a := 15) c_36 rfl; have := lv_neT (a := 16) c_39 rfl; have := lv_neT (a := 17) c_41 rfl; have := lv_neT (a := 18) c_44 rfl; have := lv_neT (a := 19) c_47 rfl; have := lv_neT (a := 20) c_50 rfl; have := lv_neT (a := 21) c_52 rfl; have := lv_neT (a := 22) c_55 rfl; have := lv_neT (a := 23) c_58 rfl; have := lv_neT (a := 24) c_61 rfl; omega) (by decide) ?_
                                                    refine lv_iload_n hx hb d_Model_changed_170 rfl (lv_at hl 1 rfl) ?_
                                                    refine lv_iload_n hx hb d_Model_changed_171 rfl (lv_at hl 2 rfl) ?_
                                                    refine xi (wr := []) (W2 := fun _ => []) (xS (rest := []) ⟨hx, hb, hml, hown, hts⟩ (c_Model_below x1 x2) mw_Model_below ms_Model_below k_810 ⟨rfl, rfl, Nat.le_of_ble_eq_true rfl, Nat.le_of_ble_eq_true rfl⟩ hK hP hD hS hA hF [] [] rfl rfl rfl rfl hl.1 rfl (Nat.le_of_ble_eq_true rfl) d_Model_changed_172 ⟨Nat.zero_le _, Nat.zero_le _⟩) hP hD hS hA [] [] [] rfl rfl rfl (by decide) (fun _ => rfl) rfl (fun r_64 _ H locs h_64 hP hD hS => ?_)
                                                    obtain ⟨h_64, z_64⟩ := h_64
                                                    subst h_64
                                                    refine lv_if_eq (tgt := 182) hx hb d_Model_changed_175 (by decide) (fun c_65 => ?_) (fun c_65 => ?_)
                                                    · refine lv_iload_n hx hb d_Model_changed_182 rfl (lv_at hl 1 rfl) ?_
                                                      exact ri () hx hb hr hlocks hP hD hS d_Model_changed_183 (by simp only [sp_Model_changed, if_neg c_1, if_neg c_2, if_neg c_3, if_neg c_6, if_neg c_9, if_neg c_10, if_neg c_13, if_neg c_16, if_neg c_19, if_neg c_20, if_neg c_23, if_neg c_26, if_neg c_29, if_neg c_30, if_neg c_33, if_neg c_36, if_neg c_39, if_neg c_41, if_neg c_44, if_neg c_47, if_neg c_50, if_neg c_52, if_neg c_55, if_neg c_58, if_neg c_61, if_pos c_65])
                                                    · refine lv_iload_n hx hb d_Model_changed_178 rfl (lv_at hl 2 rfl) ?_
                                                      refine lv_goto (tgt := 183) hx hb d_Model_changed_179 (by decide) ?_
                                                      exact ri () hx hb hr hlocks hP hD hS d_Model_changed_183 (by simp only [sp_Model_changed, if_neg c_1, if_neg c_2, if_neg c_3, if_neg c_6, if_neg c_9, if_neg c_10, if_neg c_13, if_neg c_16, if_neg c_19, if_neg c_20, if_neg c_23, if_neg c_26, if_neg c_29, if_neg c_30, if_neg c_33, if_neg c_36, if_neg c_39, if_neg c_41, if_neg c_44, if_neg c_47, if_neg c_50, if_neg c_52, if_neg c_55, if_neg c_58, if_neg c_61, if_neg c_65])
