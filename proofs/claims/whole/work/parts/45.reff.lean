def sp_Model_execute (n : Nat) (x0 : Int32) (h : Int32) (ca : Int32) (tv : Int32) (nx : Int32) (pcs : Nat → Int32) (lv : Nat → Int32) (cs : Nat → Int32) (x : Nat → Int32) (b : Nat → Int32) (cl : Nat → Int32) (cm : Nat → Int64) (so : Nat → Int32) (ti : Int64) (pu : Nat → Int32) (np : Int32) : Int32 × Int32 × Int32 × (Nat → Int32) × (Nat → Int32) × (Nat → Int32) × (Nat → Int32) × (Nat → Int32) × (Nat → Int64) × (Nat → Int32) × Int64 × (Nat → Int32) × Int32 :=
  if (x0 &&& 127) = 3 then
    let ca_4 := (sp_Model_loads n x0 h ca tv lv cs x b cm so ti).1
    let tv_4 := (sp_Model_loads n x0 h ca tv lv cs x b cm so ti).2.1
    let x_4 := (sp_Model_loads n x0 h ca tv lv cs x b cm so ti).2.2
    (ca_4, tv_4, nx, lv, cs, x_4, b, cl, cm, so, ti, pu, np)
  else
    if (x0 &&& 127) = 15 then
      (ca, tv, nx, lv, cs, x, b, cl, cm, so, ti, pu, np)
    else
      if (x0 &&& 127) = 19 then
        let ca_8 := (sp_Model_reckon x0 0 h ca tv x).1
        let tv_8 := (sp_Model_reckon x0 0 h ca tv x).2.1
        let x_8 := (sp_Model_reckon x0 0 h ca tv x).2.2
        (ca_8, tv_8, nx, lv, cs, x_8, b, cl, cm, so, ti, pu, np)
      else
        if (x0 &&& 127) = 23 then
          let x_10 := (sp_Model_setReg (sp_Model_field x0 7 5) ((pcs h.toNatClampNeg) + (x0 &&& (-4096))) h ca x)
          (ca, tv, nx, lv, cs, x_10, b, cl, cm, so, ti, pu, np)
        else
          if (x0 &&& 127) = 35 then
            let ca_12 := (sp_Model_stores n x0 h ca tv lv cs x b cl cm so ti pu np).1
            let tv_12 := (sp_Model_stores n x0 h ca tv lv cs x b cl cm so ti pu np).2.1
            let b_12 := (sp_Model_stores n x0 h ca tv lv cs x b cl cm so ti pu np).2.2.1
            let cl_12 := (sp_Model_stores n x0 h ca tv lv cs x b cl cm so ti pu np).2.2.2.1
            let cm_12 := (sp_Model_stores n x0 h ca tv lv cs x b cl cm so ti pu np).2.2.2.2.1
            let so_12 := (sp_Model_stores n x0 h ca tv lv cs x b cl cm so ti pu np).2.2.2.2.2.1
            let ti_12 := (sp_Model_stores n x0 h ca tv lv cs x b cl cm so ti pu np).2.2.2.2.2.2.1
            let pu_12 := (sp_Model_stores n x0 h ca tv lv cs x b cl cm so ti pu np).2.2.2.2.2.2.2.1
            let np_12 := (sp_Model_stores n x0 h ca tv lv cs x b cl cm so ti pu np).2.2.2.2.2.2.2.2
            (ca_12, tv_12, nx, lv, cs, x, b_12, cl_12, cm_12, so_12, ti_12, pu_12, np_12)
          else
            if (x0 &&& 127) = 47 then
              let ca_14 := (sp_Model_claims n x0 h ca tv lv cs x b cl).1
              let tv_14 := (sp_Model_claims n x0 h ca tv lv cs x b cl).2.1
              let x_14 := (sp_Model_claims n x0 h ca tv lv cs x b cl).2.2.1
              let b_14 := (sp_Model_claims n x0 h ca tv lv cs x b cl).2.2.2.1
              let cl_14 := (sp_Model_claims n x0 h ca tv lv cs x b cl).2.2.2.2
              (ca_14, tv_14, nx, lv, cs, x_14, b_14, cl_14, cm, so, ti, pu, np)
            else
              if (x0 &&& 127) = 51 then
                let ca_17 := (sp_Model_reckon x0 1 h ca tv x).1
                let tv_17 := (sp_Model_reckon x0 1 h ca tv x).2.1
                let x_17 := (sp_Model_reckon x0 1 h ca tv x).2.2
                (ca_17, tv_17, nx, lv, cs, x_17, b, cl, cm, so, ti, pu, np)
              else
                if (x0 &&& 127) = 55 then
                  let x_19 := (sp_Model_setReg (sp_Model_field x0 7 5) (x0 &&& (-4096)) h ca x)
                  (ca, tv, nx, lv, cs, x_19, b, cl, cm, so, ti, pu, np)
                else
                  if (x0 &&& 127) = 99 then
                    let ca_21 := (sp_Model_branch x0 h ca tv nx pcs x).1
                    let tv_21 := (sp_Model_branch x0 h ca tv nx pcs x).2.1
                    let nx_21 := (sp_Model_branch x0 h ca tv nx pcs x).2.2
                    (ca_21, tv_21, nx_21, lv, cs, x, b, cl, cm, so, ti, pu, np)
                  else
                    if (x0 &&& 127) = 103 then
                      if (sp_Model_field x0 12 3) = 0 then
                        let ca_26 := (sp_Model_go (((sp_Model_reg (sp_Model_field x0 15 5) h x) + (shr x0 20)) &&& (-2)) ca tv nx).1
                        let tv_26 := (sp_Model_go (((sp_Model_reg (sp_Model_field x0 15 5) h x) + (shr x0 20)) &&& (-2)) ca tv nx).2.1
                        let nx_26 := (sp_Model_go (((sp_Model_reg (sp_Model_field x0 15 5) h x) + (shr x0 20)) &&& (-2)) ca tv nx).2.2
                        let x_27 := (sp_Model_setReg (sp_Model_field x0 7 5) ((pcs h.toNatClampNeg) + 4) h ca_26 x)
                        (ca_26, tv_26, nx_26, lv, cs, x_27, b, cl, cm, so, ti, pu, np)
                      else
                        let ca_28 := (sp_Model_trap 2 x0 ca tv).1
                        let tv_28 := (sp_Model_trap 2 x0 ca tv).2
                        (ca_28, tv_28, nx, lv, cs, x, b, cl, cm, so, ti, pu, np)
                    else
                      if (x0 &&& 127) = 111 then
                        let ca_30 := (sp_Model_jump x0 h ca tv nx pcs x).1
                        let tv_30 := (sp_Model_jump x0 h ca tv nx pcs x).2.1
                        let nx_30 := (sp_Model_jump x0 h ca tv nx pcs x).2.2.1
                        let x_30 := (sp_Model_jump x0 h ca tv nx pcs x).2.2.2
                        (ca_30, tv_30, nx_30, lv, cs, x_30, b, cl, cm, so, ti, pu, np)
                      else
                        if (x0 &&& 127) = 115 then
                          if (sp_Model_field x0 12 3) = 0 then
                            let ca_34 := (sp_Model_machine x0 h ca tv nx pcs lv cs).1
                            let tv_34 := (sp_Model_machine x0 h ca tv nx pcs lv cs).2.1
                            let nx_34 := (sp_Model_machine x0 h ca tv nx pcs lv cs).2.2.1
                            let lv_34 := (sp_Model_machine x0 h ca tv nx pcs lv cs).2.2.2.1
                            let cs_34 := (sp_Model_machine x0 h ca tv nx pcs lv cs).2.2.2.2
                            (ca_34, tv_34, nx_34, lv_34, cs_34, x, b, cl, cm, so, ti, pu, np)
                          else
                            let ca_33 := (sp_Model_csrs x0 h ca tv lv cs x cm so ti).1
                            let tv_33 := (sp_Model_csrs x0 h ca tv lv cs x cm so ti).2.1
                            let cs_33 := (sp_Model_csrs x0 h ca tv lv cs x cm so ti).2.2.1
                            let x_33 := (sp_Model_csrs x0 h ca tv lv cs x cm so ti).2.2.2
                            (ca_33, tv_33, nx, lv, cs_33, x_33, b, cl, cm, so, ti, pu, np)
                        else
                          let ca_35 := (sp_Model_trap 2 x0 ca tv).1
                          let tv_35 := (sp_Model_trap 2 x0 ca tv).2
                          (ca_35, tv_35, nx, lv, cs, x, b, cl, cm, so, ti, pu, np)
set_option maxHeartbeats 4000000 in
set_option maxRecDepth 100000 in
theorem c_Model_execute {l : Launch} {D : va_G} {g : Nat → Nat} (a : Nat → Nat) (k : Nat → ClassId) (n : Nat) (x0 : Int32) (h ca tv nx : Int32) (pcs lv cs x b cl : Nat → Int32) (cm : Nat → Int64) (so : Nat → Int32) (ti : Int64) (pu : Nat → Int32) (np : Int32) (hn : n ≤ 4096) (hh : h = 0 ∨ h = 1) (hp : 0 ≤ np ∧ np ≤ 256) : CT l D g y_Model_execute b_Model_execute 4 none (rD 7) [.ref (a 0), .int x0] (wR a k n h ca tv nx pcs lv cs x b cl cm so ti pu np) (tyR k) (Qv D (fun (u : Int32 × Int32 × Int32 × (Nat → Int32) × (Nat → Int32) × (Nat → Int32) × (Nat → Int32) × (Nat → Int32) × (Nat → Int64) × (Nat → Int32) × Int64 × (Nat → Int32) × Int32) => sp_Model_execute n x0 h ca tv nx pcs lv cs x b cl cm so ti pu np = u) (fun u => wR a k n h u.1 u.2.1 u.2.2.1 pcs u.2.2.2.1 u.2.2.2.2.1 u.2.2.2.2.2.1 u.2.2.2.2.2.2.1 u.2.2.2.2.2.2.2.1 u.2.2.2.2.2.2.2.2.1 u.2.2.2.2.2.2.2.2.2.1 u.2.2.2.2.2.2.2.2.2.2.1 u.2.2.2.2.2.2.2.2.2.2.2.1 u.2.2.2.2.2.2.2.2.2.2.2.2)) := by
  refine CT.of rfl (Nat.le_of_ble_eq_true rfl) (fun p e s m below meth c A ls hx hb hr hml hts hown hlocks hA hP hK hD hF hS hl => ?_)
  have hl : lv_has ls 4 [(0, .ref (a 0)), (1, .int x0)] := hl
  refine lv_iload_n hx hb d_Model_execute_0 rfl (lv_at hl 1 rfl) ?_
  refine lv_bipush (v := 7) hx hb d_Model_execute_1 rfl ?_
  refine lv_iconst (v := 5) hx hb d_Model_execute_3 rfl ?_
  refine xi (wr := [((a 0), .inr (5, [.int (nI n), .ref (a 1), .ref (a 2), .ref (a 3), .ref (a 4), .ref (a 5), .ref (a 6), .ref (a 7), .ref (a 8), .long ti, .ref (a 9), .int np, .int h, .int ca, .int tv, .int nx])), ((a 1), .inl ((k 0), 16384, .inl b)), ((a 2), .inl ((k 1), 64, .inl x)), ((a 3), .inl ((k 2), 2, .inl pcs)), ((a 4), .inl ((k 3), 2, .inl lv)), ((a 5), .inl ((k 4), 8192, .inl cs)), ((a 6), .inl ((k 5), 2, .inl cl)), ((a 7), .inl ((k 6), 2, .inr (.inl cm))), ((a 8), .inl ((k 7), 2, .inl so)), ((a 9), .inl ((k 8), 256, .inl pu))]) (W2 := fun _ => wR a k n h ca tv nx pcs lv cs x b cl cm so ti pu np) (xS (rest := []) ⟨hx, hb, hml, hown, hts⟩ (c_Model_field x0 7 5) mw_Model_field ms_Model_field k_787 ⟨rfl, rfl, Nat.le_of_ble_eq_true rfl, Nat.le_of_ble_eq_true rfl⟩ hK hP hD hS hA hF [] [] rfl rfl rfl rfl hl.1 rfl (Nat.le_of_ble_eq_true rfl) d_Model_execute_4 ⟨Nat.zero_le _, Nat.zero_le _⟩) hP hD hS hA [] [0, 1, 2, 3, 4, 5, 6, 7, 8, 9] [0, 1, 2, 3, 4, 5, 6, 7, 8, 9] rfl rfl rfl (by decide) (fun _ => rfl) rfl (fun r_1 _ H locs h_1 hP hD hS => ?_)
  subst h_1
  refine lv_istore_n (lv' := [(2, .int (sp_Model_field x0 7 5)), (0, .ref (a 0)), (1, .int x0)]) hx hb d_Model_execute_7 rfl hl (by decide) rfl (fun ls hl => ?_)
  refine lv_iload_n hx hb d_Model_execute_8 rfl (lv_at hl 2 rfl) ?_
  refine lv_bipush (v := 12) hx hb d_Model_execute_9 rfl ?_
  refine lv_iconst (v := 3) hx hb d_Model_execute_11 rfl ?_
  refine xi (wr := [((a 0), .inr (5, [.int (nI n), .ref (a 1), .ref (a 2), .ref (a 3), .ref (a 4), .ref (a 5), .ref (a 6), .ref (a 7), .ref (a 8), .long ti, .ref (a 9), .int np, .int h, .int ca, .int tv, .int nx])), ((a 1), .inl ((k 0), 16384, .inl b)), ((a 2), .inl ((k 1), 64, .inl x)), ((a 3), .inl ((k 2), 2, .inl pcs)), ((a 4), .inl ((k 3), 2, .inl lv)), ((a 5), .inl ((k 4), 8192, .inl cs)), ((a 6), .inl ((k 5), 2, .inl cl)), ((a 7), .inl ((k 6), 2, .inr (.inl cm))), ((a 8), .inl ((k 7), 2, .inl so)), ((a 9), .inl ((k 8), 256, .inl pu))]) (W2 := fun _ => wR a k n h ca tv nx pcs lv cs x b cl cm so ti pu np) (xS (rest := []) ⟨hx, hb, hml, hown, hts⟩ (c_Model_field x0 12 3) mw_Model_field ms_Model_field k_787 ⟨rfl, rfl, Nat.le_of_ble_eq_true rfl, Nat.le_of_ble_eq_true rfl⟩ hK hP hD hS hA hF [] [] rfl rfl rfl rfl hl.1 rfl (Nat.le_of_ble_eq_true rfl) d_Model_execute_12 ⟨Nat.zero_le _, Nat.zero_le _⟩) hP hD hS hA [] [0, 1, 2, 3, 4, 5, 6, 7, 8, 9] [0, 1, 2, 3, 4, 5, 6, 7, 8, 9] rfl rfl rfl (by decide) (fun _ => rfl) rfl (fun r_2 _ H locs h_2 hP hD hS => ?_)
  subst h_2
  refine lv_istore_n (lv' := [(3, .int (sp_Model_field x0 12 3)), (2, .int (sp_Model_field x0 7 5)), (0, .ref (a 0)), (1, .int x0)]) hx hb d_Model_execute_15 rfl hl (by decide) rfl (fun ls hl => ?_)
  refine lv_iload_n hx hb d_Model_execute_16 rfl (lv_at hl 3 rfl) ?_
  refine lv_bipush (v := 127) hx hb d_Model_execute_17 rfl ?_
  refine lv_iand hx hb d_Model_execute_19 ?_
  by_cases c_3 : (x0 &&& 127) = 3
  · refine lv_lookup (off := 205) (tgt := 225) hx hb d_Model_execute_20 rfl (by rw [c_3]; rfl) (by decide) ?_
    refine lv_aload_n hx hb d_Model_execute_225 rfl (lv_at hl 2 rfl) ?_
    refine lv_iload_n hx hb d_Model_execute_226 rfl (lv_at hl 3 rfl) ?_
    refine xv (wr := []) (W2 := fun u9 => wR a k n h u9.1 u9.2.1 nx pcs lv cs u9.2.2 b cl cm so ti pu np) (xV (rest := []) ⟨hx, hb, hml, hown, hts⟩ (c_Model_loads a k n x0 h ca tv nx pcs lv cs x b cl cm so ti pu np hn hh) mw_Model_loads mv_Model_loads k_813 ⟨rfl, rfl, Nat.le_of_ble_eq_true rfl, Nat.le_of_ble_eq_true rfl⟩ hK hP hD hS hA hF [0, 1, 2, 3, 4, 5, 6, 7, 8, 9] [0, 1, 2, 3, 4, 5, 6, 7, 8] rfl rfl rfl 0 5 rfl rfl rfl rfl hl.1 rfl (Nat.le_of_ble_eq_true rfl) d_Model_execute_227 ⟨Nat.zero_le _, Nat.zero_le _⟩) hP hD hS hA [0, 1, 2, 3, 4, 5, 6, 7, 8, 9] [] [0, 1, 2, 3, 4, 5, 6, 7, 8, 9] rfl rfl rfl (by decide) (fun _ => rfl) rfl (fun u_4 H locs h_4 hP hD hS => ?_)
    obtain ⟨ca_4, tv_4, x_4⟩ := u_4
    dsimp only at hP hD
    exact rv (ca_4, tv_4, nx, lv, cs, x_4, b, cl, cm, so, ti, pu, np) hx hb hr hlocks hP hD hS d_Model_execute_230 (by simp only [sp_Model_execute, h_4, if_pos c_3])
  · by_cases c_5 : (x0 &&& 127) = 15
    · refine lv_lookup (off := 237) (tgt := 257) hx hb d_Model_execute_20 rfl (by rw [c_5]; rfl) (by decide) ?_
      exact rv (ca, tv, nx, lv, cs, x, b, cl, cm, so, ti, pu, np) hx hb hr hlocks hP hD hS d_Model_execute_257 (by simp only [sp_Model_execute, if_neg c_3, if_pos c_5])
    · by_cases c_6 : (x0 &&& 127) = 19
      · refine lv_lookup (off := 217) (tgt := 237) hx hb d_Model_execute_20 rfl (by rw [c_6]; rfl) (by decide) ?_
        refine lv_aload_n hx hb d_Model_execute_237 rfl (lv_at hl 2 rfl) ?_
        refine lv_iload_n hx hb d_Model_execute_238 rfl (lv_at hl 3 rfl) ?_
        refine lv_iload_n hx hb d_Model_execute_239 rfl (lv_at hl 3 rfl) ?_
        refine lv_bipush (v := 127) hx hb d_Model_execute_240 rfl ?_
        refine lv_iand hx hb d_Model_execute_242 ?_
        refine lv_bipush (v := 51) hx hb d_Model_execute_243 rfl ?_
        refine lv_icmp_ne (tgt := 252) hx hb d_Model_execute_245 (by decide) (fun _ => ?_) (fun h9 => absurd h9 (by rw [c_6]; decide))
        refine lv_iconst (v := 0) hx hb d_Model_execute_252 rfl ?_
        refine xv (wr := []) (W2 := fun u9 => wR a k n h u9.1 u9.2.1 nx pcs lv cs u9.2.2 b cl cm so ti pu np) (xV (rest := []) ⟨hx, hb, hml, hown, hts⟩ (c_Model_reckon a k n x0 0 h ca tv nx pcs lv cs x b cl cm so ti pu np hn hh (Or.inl rfl)) mw_Model_reckon mv_Model_reckon k_852 ⟨rfl, rfl, Nat.le_of_ble_eq_true rfl, Nat.le_of_ble_eq_true rfl⟩ hK hP hD hS hA hF [0, 1, 2, 3, 4, 5, 6, 7, 8, 9] [0, 1, 2, 3, 4, 5, 6, 7, 8] rfl rfl rfl 0 5 rfl rfl rfl rfl hl.1 rfl (Nat.le_of_ble_eq_true rfl) d_Model_execute_253 ⟨Nat.zero_le _, Nat.zero_le _⟩) hP hD hS hA [0, 1, 2, 3, 4, 5, 6, 7, 8, 9] [] [0, 1, 2, 3, 4, 5, 6, 7, 8, 9] rfl rfl rfl (by decide) (fun _ => rfl) rfl (fun u_8 H locs h_8 hP hD hS => ?_)
        obtain ⟨ca_8, tv_8, x_8⟩ := u_8
        dsimp only at hP hD
        exact rv (ca_8, tv_8, nx, lv, cs, x_8, b, cl, cm, so, ti, pu, np) hx hb hr hlocks hP hD hS d_Model_execute_256 (by simp only [sp_Model_execute, h_8, if_neg c_3, if_neg c_5, if_pos c_6])
      · by_cases c_9 : (x0 &&& 127) = 23
        · refine lv_lookup (off := 119) (tgt := 139) hx hb d_Model_execute_20 rfl (by rw [c_9]; rfl) (by decide) ?_
          refine lv_aload_n hx hb d_Model_execute_139 rfl (lv_at hl 2 rfl) ?_
          refine lv_iload_n hx hb d_Model_execute_140 rfl (lv_at hl 1 rfl) ?_
          refine lv_aload_n hx hb d_Model_execute_141 rfl (lv_at hl 2 rfl) ?_
          refine va_get (D := D) (ci := 5) (v := .ref (a 3)) (C := R_Model) (T := F_Model) (N := 16) hx hb hts i_Model hown hK hP 0 rfl rfl 3 (by decide) (hts _ k_628) (fun _ h9 => h9) rfl d_Model_execute_142 ?_
          refine lv_aload_n hx hb d_Model_execute_145 rfl (lv_at hl 2 rfl) ?_
          refine va_get (D := D) (ci := 5) (v := .int h) (C := R_Model) (T := F_Model) (N := 16) hx hb hts i_Model hown hK hP 0 rfl rfl 12 (by decide) (hts _ k_637) (fun _ h9 => h9) rfl d_Model_execute_146 ?_
          refine y_iald (v := pcs h.toNatClampNeg) hx hb hK hP 3 2 rfl rfl (vp_01 hh (by decide)) rfl d_Model_execute_149 ?_
          refine lv_iload_n hx hb d_Model_execute_150 rfl (lv_at hl 3 rfl) ?_
          refine lv_sipush (v := (-4096)) hx hb d_Model_execute_151 rfl ?_
          refine lv_iand hx hb d_Model_execute_154 ?_
          refine lv_iadd hx hb d_Model_execute_155 ?_
          refine xv (wr := []) (W2 := fun u9 => wR a k n h ca tv nx pcs lv cs u9 b cl cm so ti pu np) (xV (rest := []) ⟨hx, hb, hml, hown, hts⟩ (c_Model_setReg a k n (sp_Model_field x0 7 5) ((pcs h.toNatClampNeg) + (x0 &&& (-4096))) h ca tv nx pcs lv cs x b cl cm so ti pu np hn hh (vp_f5 _ _)) mw_Model_setReg mv_Model_setReg k_790 ⟨rfl, rfl, Nat.le_of_ble_eq_true rfl, Nat.le_of_ble_eq_true rfl⟩ hK hP hD hS hA hF [0, 1, 2, 3, 4, 5, 6, 7, 8, 9] [0, 1, 2, 3, 4, 5, 6, 7, 8] rfl rfl rfl 0 5 rfl rfl rfl rfl hl.1 rfl (Nat.le_of_ble_eq_true rfl) d_Model_execute_156 ⟨Nat.zero_le _, Nat.zero_le _⟩) hP hD hS hA [0, 1, 2, 3, 4, 5, 6, 7, 8, 9] [] [0, 1, 2, 3, 4, 5, 6, 7, 8, 9] rfl rfl rfl (by decide) (fun _ => rfl) rfl (fun u_10 H locs h_10 hP hD hS => ?_)
          obtain ⟨x_10, e_10⟩ : ∃ z, z = u_10 := ⟨_, rfl⟩
          subst e_10
          exact rv (ca, tv, nx, lv, cs, x_10, b, cl, cm, so, ti, pu, np) hx hb hr hlocks hP hD hS d_Model_execute_159 (by simp only [sp_Model_execute, h_10, if_neg c_3, if_neg c_5, if_neg c_6, if_pos c_9])
        · by_cases c_11 : (x0 &&& 127) = 35
          · refine lv_lookup (off := 211) (tgt := 231) hx hb d_Model_execute_20 rfl (by rw [c_11]; rfl) (by decide) ?_
            refine lv_aload_n hx hb d_Model_execute_231 rfl (lv_at hl 2 rfl) ?_
            refine lv_iload_n hx hb d_Model_execute_232 rfl (lv_at hl 3 rfl) ?_
            refine xv (wr := []) (W2 := fun u9 => wR a k n h u9.1 u9.2.1 nx pcs lv cs x u9.2.2.1 u9.2.2.2.1 u9.2.2.2.2.1 u9.2.2.2.2.2.1 u9.2.2.2.2.2.2.1 u9.2.2.2.2.2.2.2.1 u9.2.2.2.2.2.2.2.2) (xV (rest := []) ⟨hx, hb, hml, hown, hts⟩ (c_Model_stores a k n x0 h ca tv nx pcs lv cs x b cl cm so ti pu np hn hh hp) mw_Model_stores mv_Model_stores k_838 ⟨rfl, rfl, Nat.le_of_ble_eq_true rfl, Nat.le_of_ble_eq_true rfl⟩ hK hP hD hS hA hF [0, 1, 2, 3, 4, 5, 6, 7, 8, 9] [0, 1, 2, 3, 4, 5, 6, 7, 8] rfl rfl rfl 0 5 rfl rfl rfl rfl hl.1 rfl (Nat.le_of_ble_eq_true rfl) d_Model_execute_233 ⟨Nat.zero_le _, Nat.zero_le _⟩) hP hD hS hA [0, 1, 2, 3, 4, 5, 6, 7, 8, 9] [] [0, 1, 2, 3, 4, 5, 6, 7, 8, 9] rfl rfl rfl (by decide) (fun _ => rfl) rfl (fun u_12 H locs h_12 hP hD hS => ?_)
            obtain ⟨ca_12, tv_12, b_12, cl_12, cm_12, so_12, ti_12, pu_12, np_12⟩ := u_12
            dsimp only at hP hD
            exact rv (ca_12, tv_12, nx, lv, cs, x, b_12, cl_12, cm_12, so_12, ti_12, pu_12, np_12) hx hb hr hlocks hP hD hS d_Model_execute_236 (by simp only [sp_Model_execute, h_12, if_neg c_3, if_neg c_5, if_neg c_6, if_neg c_9, if_pos c_11])
          · by_cases c_13 : (x0 &&& 127) = 47
            · refine lv_lookup (off := 238) (tgt := 258) hx hb d_Model_execute_20 rfl (by rw [c_13]; rfl) (by decide) ?_
              refine lv_aload_n hx hb d_Model_execute_258 rfl (lv_at hl 2 rfl) ?_
              refine lv_iload_n hx hb d_Model_execute_259 rfl (lv_at hl 3 rfl) ?_
              refine xv (wr := []) (W2 := fun u9 => wR a k n h u9.1 u9.2.1 nx pcs lv cs u9.2.2.1 u9.2.2.2.1 u9.2.2.2.2 cm so ti pu np) (xV (rest := []) ⟨hx, hb, hml, hown, hts⟩ (c_Model_claims a k n x0 h ca tv nx pcs lv cs x b cl cm so ti pu np hn hh) mw_Model_claims mv_Model_claims k_868 ⟨rfl, rfl, Nat.le_of_ble_eq_true rfl, Nat.le_of_ble_eq_true rfl⟩ hK hP hD hS hA hF [0, 1, 2, 3, 4, 5, 6, 7, 8, 9] [0, 1, 2, 3, 4, 5, 6, 7, 8] rfl rfl rfl 0 5 rfl rfl rfl rfl hl.1 rfl (Nat.le_of_ble_eq_true rfl) d_Model_execute_260 ⟨Nat.zero_le _, Nat.zero_le _⟩) hP hD hS hA [0, 1, 2, 3, 4, 5, 6, 7, 8, 9] [] [0, 1, 2, 3, 4, 5, 6, 7, 8, 9] rfl rfl rfl (by decide) (fun _ => rfl) rfl (fun u_14 H locs h_14 hP hD hS => ?_)
              obtain ⟨ca_14, tv_14, x_14, b_14, cl_14⟩ := u_14
              dsimp only at hP hD
              exact rv (ca_14, tv_14, nx, lv, cs, x_14, b_14, cl_14, cm, so, ti, pu, np) hx hb hr hlocks hP hD hS d_Model_execute_263 (by simp only [sp_Model_execute, h_14, if_neg c_3, if_neg c_5, if_neg c_6, if_neg c_9, if_neg c_11, if_pos c_13])
            · by_cases c_15 : (x0 &&& 127) = 51
              · refine lv_lookup (off := 217) (tgt := 237) hx hb d_Model_execute_20 rfl (by rw [c_15]; rfl) (by decide) ?_
                refine lv_aload_n hx hb d_Model_execute_237 rfl (lv_at hl 2 rfl) ?_
                refine lv_iload_n hx hb d_Model_execute_238 rfl (lv_at hl 3 rfl) ?_
                refine lv_iload_n hx hb d_Model_execute_239 rfl (lv_at hl 3 rfl) ?_
                refine lv_bipush (v := 127) hx hb d_Model_execute_240 rfl ?_
                refine lv_iand hx hb d_Model_execute_242 ?_
                refine lv_bipush (v := 51) hx hb d_Model_execute_243 rfl ?_
                refine lv_icmp_ne (tgt := 252) hx hb d_Model_execute_245 (by decide) (fun h9 => absurd c_15 h9) (fun _ => ?_)
                refine lv_iconst (v := 1) hx hb d_Model_execute_248 rfl ?_
                refine lv_goto (tgt := 253) hx hb d_Model_execute_249 (by decide) ?_
                refine xv (wr := []) (W2 := fun u9 => wR a k n h u9.1 u9.2.1 nx pcs lv cs u9.2.2 b cl cm so ti pu np) (xV (rest := []) ⟨hx, hb, hml, hown, hts⟩ (c_Model_reckon a k n x0 1 h ca tv nx pcs lv cs x b cl cm so ti pu np hn hh (Or.inr rfl)) mw_Model_reckon mv_Model_reckon k_852 ⟨rfl, rfl, Nat.le_of_ble_eq_true rfl, Nat.le_of_ble_eq_true rfl⟩ hK hP hD hS hA hF [0, 1, 2, 3, 4, 5, 6, 7, 8, 9] [0, 1, 2, 3, 4, 5, 6, 7, 8] rfl rfl rfl 0 5 rfl rfl rfl rfl hl.1 rfl (Nat.le_of_ble_eq_true rfl) d_Model_execute_253 ⟨Nat.zero_le _, Nat.zero_le _⟩) hP hD hS hA [0, 1, 2, 3, 4, 5, 6, 7, 8, 9] [] [0, 1, 2, 3, 4, 5, 6, 7, 8, 9] rfl rfl rfl (by decide) (fun _ => rfl) rfl (fun u_17 H locs h_17 hP hD hS => ?_)
                obtain ⟨ca_17, tv_17, x_17⟩ := u_17
                dsimp only at hP hD
                exact rv (ca_17, tv_17, nx, lv, cs, x_17, b, cl, cm, so, ti, pu, np) hx hb hr hlocks hP hD hS d_Model_execute_256 (by simp only [sp_Model_execute, h_17, if_neg c_3, if_neg c_5, if_neg c_6, if_neg c_9, if_neg c_11, if_neg c_13, if_pos c_15])
              · by_cases c_18 : (x0 &&& 127) = 55
                · refine lv_lookup (off := 108) (tgt := 128) hx hb d_Model_execute_20 rfl (by rw [c_18]; rfl) (by decide) ?_
                  refine lv_aload_n hx hb d_Model_execute_128 rfl (lv_at hl 2 rfl) ?_
                  refine lv_iload_n hx hb d_Model_execute_129 rfl (lv_at hl 1 rfl) ?_
                  refine lv_iload_n hx hb d_Model_execute_130 rfl (lv_at hl 3 rfl) ?_
                  refine lv_sipush (v := (-4096)) hx hb d_Model_execute_131 rfl ?_
                  refine lv_iand hx hb d_Model_execute_134 ?_
                  refine xv (wr := []) (W2 := fun u9 => wR a k n h ca tv nx pcs lv cs u9 b cl cm so ti pu np) (xV (rest := []) ⟨hx, hb, hml, hown, hts⟩ (c_Model_setReg a k n (sp_Model_field x0 7 5) (x0 &&& (-4096)) h ca tv nx pcs lv cs x b cl cm so ti pu np hn hh (vp_f5 _ _)) mw_Model_setReg mv_Model_setReg k_790 ⟨rfl, rfl, Nat.le_of_ble_eq_true rfl, Nat.le_of_ble_eq_true rfl⟩ hK hP hD hS hA hF [0, 1, 2, 3, 4, 5, 6, 7, 8, 9] [0, 1, 2, 3, 4, 5, 6, 7, 8] rfl rfl rfl 0 5 rfl rfl rfl rfl hl.1 rfl (Nat.le_of_ble_eq_true rfl) d_Model_execute_135 ⟨Nat.zero_le _, Nat.zero_le _⟩) hP hD hS hA [0, 1, 2, 3, 4, 5, 6, 7, 8, 9] [] [0, 1, 2, 3, 4, 5, 6, 7, 8, 9] rfl rfl rfl (by decide) (fun _ => rfl) rfl (fun u_19 H locs h_19 hP hD hS => ?_)
                  obtain ⟨x_19, e_19⟩ : ∃ z, z = u_19 := ⟨_, rfl⟩
                  subst e_19
                  exact rv (ca, tv, nx, lv, cs, x_19, b, cl, cm, so, ti, pu, np) hx hb hr hlocks hP hD hS d_Model_execute_138 (by simp only [sp_Model_execute, h_19, if_neg c_3, if_neg c_5, if_neg c_6, if_neg c_9, if_neg c_11, if_neg c_13, if_neg c_15, if_pos c_18])
                · by_cases c_20 : (x0 &&& 127) = 99
                  · refine lv_lookup (off := 199) (tgt := 219) hx hb d_Model_execute_20 rfl (by rw [c_20]; rfl) (by decide) ?_
                    refine lv_aload_n hx hb d_Model_execute_219 rfl (lv_at hl 2 rfl) ?_
                    refine lv_iload_n hx hb d_Model_execute_220 rfl (lv_at hl 3 rfl) ?_
                    refine xv (wr := []) (W2 := fun u9 => wR a k n h u9.1 u9.2.1 u9.2.2 pcs lv cs x b cl cm so ti pu np) (xV (rest := []) ⟨hx, hb, hml, hown, hts⟩ (c_Model_branch a k n x0 h ca tv nx pcs lv cs x b cl cm so ti pu np hn hh) mw_Model_branch mv_Model_branch k_806 ⟨rfl, rfl, Nat.le_of_ble_eq_true rfl, Nat.le_of_ble_eq_true rfl⟩ hK hP hD hS hA hF [0, 1, 2, 3, 4, 5, 6, 7, 8, 9] [0, 1, 2, 3, 4, 5, 6, 7, 8] rfl rfl rfl 0 5 rfl rfl rfl rfl hl.1 rfl (Nat.le_of_ble_eq_true rfl) d_Model_execute_221 ⟨Nat.zero_le _, Nat.zero_le _⟩) hP hD hS hA [0, 1, 2, 3, 4, 5, 6, 7, 8, 9] [] [0, 1, 2, 3, 4, 5, 6, 7, 8, 9] rfl rfl rfl (by decide) (fun _ => rfl) rfl (fun u_21 H locs h_21 hP hD hS => ?_)
                    obtain ⟨ca_21, tv_21, nx_21⟩ := u_21
                    dsimp only at hP hD
                    exact rv (ca_21, tv_21, nx_21, lv, cs, x, b, cl, cm, so, ti, pu, np) hx hb hr hlocks hP hD hS d_Model_execute_224 (by simp only [sp_Model_execute, h_21, if_neg c_3, if_neg c_5, if_neg c_6, if_neg c_9, if_neg c_11, if_neg c_13, if_neg c_15, if_neg c_18, if_pos c_20])
                  · by_cases c_22 : (x0 &&& 127) = 103
                    · refine lv_lookup (off := 146) (tgt := 166) hx hb d_Model_execute_20 rfl (by rw [c_22]; rfl) (by decide) ?_
                      refine lv_iload_n hx hb d_Model_execute_166 rfl (lv_at hl 0 rfl) ?_
                      refine lv_if_eq (tgt := 179) hx hb d_Model_execute_167 (by decide) (fun c_23 => ?_) (fun c_23 => ?_)
                      · refine lv_aload_n hx hb d_Model_execute_179 rfl (lv_at hl 2 rfl) ?_
                        refine lv_aload_n hx hb d_Model_execute_180 rfl (lv_at hl 2 rfl) ?_
                        refine lv_iload_n hx hb d_Model_execute_181 rfl (lv_at hl 3 rfl) ?_
                        refine lv_bipush (v := 15) hx hb d_Model_execute_182 rfl ?_
                        refine lv_iconst (v := 5) hx hb d_Model_execute_184 rfl ?_
                        refine xi (wr := [((a 0), .inr (5, [.int (nI n), .ref (a 1), .ref (a 2), .ref (a 3), .ref (a 4), .ref (a 5), .ref (a 6), .ref (a 7), .ref (a 8), .long ti, .ref (a 9), .int np, .int h, .int ca, .int tv, .int nx])), ((a 1), .inl ((k 0), 16384, .inl b)), ((a 2), .inl ((k 1), 64, .inl x)), ((a 3), .inl ((k 2), 2, .inl pcs)), ((a 4), .inl ((k 3), 2, .inl lv)), ((a 5), .inl ((k 4), 8192, .inl cs)), ((a 6), .inl ((k 5), 2, .inl cl)), ((a 7), .inl ((k 6), 2, .inr (.inl cm))), ((a 8), .inl ((k 7), 2, .inl so)), ((a 9), .inl ((k 8), 256, .inl pu))]) (W2 := fun _ => wR a k n h ca tv nx pcs lv cs x b cl cm so ti pu np) (xS (rest := [.ref (a 0), .ref (a 0)]) ⟨hx, hb, hml, hown, hts⟩ (c_Model_field x0 15 5) mw_Model_field ms_Model_field k_787 ⟨rfl, rfl, Nat.le_of_ble_eq_true rfl, Nat.le_of_ble_eq_true rfl⟩ hK hP hD hS hA hF [] [] rfl rfl rfl rfl hl.1 rfl (Nat.le_of_ble_eq_true rfl) d_Model_execute_185 ⟨Nat.zero_le _, Nat.zero_le _⟩) hP hD hS hA [] [0, 1, 2, 3, 4, 5, 6, 7, 8, 9] [0, 1, 2, 3, 4, 5, 6, 7, 8, 9] rfl rfl rfl (by decide) (fun _ => rfl) rfl (fun r_24 _ H locs h_24 hP hD hS => ?_)
                        subst h_24
                        refine xi (wr := []) (W2 := fun _ => wR a k n h ca tv nx pcs lv cs x b cl cm so ti pu np) (xV (rest := [.ref (a 0)]) ⟨hx, hb, hml, hown, hts⟩ (c_Model_reg a k n (sp_Model_field x0 15 5) h ca tv nx pcs lv cs x b cl cm so ti pu np hn hh (vp_f5 _ _)) mw_Model_reg mv_Model_reg k_802 ⟨rfl, rfl, Nat.le_of_ble_eq_true rfl, Nat.le_of_ble_eq_true rfl⟩ hK hP hD hS hA hF [0, 1, 2, 3, 4, 5, 6, 7, 8, 9] [0, 1, 2, 3, 4, 5, 6, 7, 8] rfl rfl rfl 0 5 rfl rfl rfl rfl hl.1 rfl (Nat.le_of_ble_eq_true rfl) d_Model_execute_188 ⟨Nat.zero_le _, Nat.zero_le _⟩) hP hD hS hA [0, 1, 2, 3, 4, 5, 6, 7, 8, 9] [] [0, 1, 2, 3, 4, 5, 6, 7, 8, 9] rfl rfl rfl (by decide) (fun _ => rfl) rfl (fun r_25 _ H locs h_25 hP hD hS => ?_)
                        subst h_25
                        refine lv_iload_n hx hb d_Model_execute_191 rfl (lv_at hl 3 rfl) ?_
                        refine lv_bipush (v := 20) hx hb d_Model_execute_192 rfl ?_
                        refine y_ishr hx hb d_Model_execute_194 ?_
                        refine lv_iadd hx hb d_Model_execute_195 ?_
                        refine lv_bipush (v := (-2)) hx hb d_Model_execute_196 rfl ?_
                        refine lv_iand hx hb d_Model_execute_198 ?_
                        refine xv (wr := []) (W2 := fun u9 => wR a k n h u9.1 u9.2.1 u9.2.2 pcs lv cs x b cl cm so ti pu np) (xV (rest := []) ⟨hx, hb, hml, hown, hts⟩ (c_Model_go a k n (((sp_Model_reg (sp_Model_field x0 15 5) h x) + (shr x0 20)) &&& (-2)) h ca tv nx pcs lv cs x b cl cm so ti pu np hn) mw_Model_go mv_Model_go k_798 ⟨rfl, rfl, Nat.le_of_ble_eq_true rfl, Nat.le_of_ble_eq_true rfl⟩ hK hP hD hS hA hF [0, 1, 2, 3, 4, 5, 6, 7, 8, 9] [0, 1, 2, 3, 4, 5, 6, 7, 8] rfl rfl rfl 0 5 rfl rfl rfl rfl hl.1 rfl (Nat.le_of_ble_eq_true rfl) d_Model_execute_199 ⟨Nat.zero_le _, Nat.zero_le _⟩) hP hD hS hA [0, 1, 2, 3, 4, 5, 6, 7, 8, 9] [] [0, 1, 2, 3, 4, 5, 6, 7, 8, 9] rfl rfl rfl (by decide) (fun _ => rfl) rfl (fun u_26 H locs h_26 hP hD hS => ?_)
                        obtain ⟨ca_26, tv_26, nx_26⟩ := u_26
                        dsimp only at hP hD
                        refine lv_aload_n hx hb d_Model_execute_202 rfl (lv_at hl 2 rfl) ?_
                        refine lv_iload_n hx hb d_Model_execute_203 rfl (lv_at hl 1 rfl) ?_
                        refine lv_aload_n hx hb d_Model_execute_204 rfl (lv_at hl 2 rfl) ?_
                        refine va_get (D := D) (ci := 5) (v := .ref (a 3)) (C := R_Model) (T := F_Model) (N := 16) hx hb hts i_Model hown hK hP 0 rfl rfl 3 (by decide) (hts _ k_628) (fun _ h9 => h9) rfl d_Model_execute_205 ?_
                        refine lv_aload_n hx hb d_Model_execute_208 rfl (lv_at hl 2 rfl) ?_
                        refine va_get (D := D) (ci := 5) (v := .int h) (C := R_Model) (T := F_Model) (N := 16) hx hb hts i_Model hown hK hP 0 rfl rfl 12 (by decide) (hts _ k_637) (fun _ h9 => h9) rfl d_Model_execute_209 ?_
                        refine y_iald (v := pcs h.toNatClampNeg) hx hb hK hP 3 2 rfl rfl (vp_01 hh (by decide)) rfl d_Model_execute_212 ?_
                        refine lv_iconst (v := 4) hx hb d_Model_execute_213 rfl ?_
                        refine lv_iadd hx hb d_Model_execute_214 ?_
                        refine xv (wr := []) (W2 := fun u9 => wR a k n h ca_26 tv_26 nx_26 pcs lv cs u9 b cl cm so ti pu np) (xV (rest := []) ⟨hx, hb, hml, hown, hts⟩ (c_Model_setReg a k n (sp_Model_field x0 7 5) ((pcs h.toNatClampNeg) + 4) h ca_26 tv_26 nx_26 pcs lv cs x b cl cm so ti pu np hn hh (vp_f5 _ _)) mw_Model_setReg mv_Model_setReg k_790 ⟨rfl, rfl, Nat.le_of_ble_eq_true rfl, Nat.le_of_ble_eq_true rfl⟩ hK hP hD hS hA hF [0, 1, 2, 3, 4, 5, 6, 7, 8, 9] [0, 1, 2, 3, 4, 5, 6, 7, 8] rfl rfl rfl 0 5 rfl rfl rfl rfl hl.1 rfl (Nat.le_of_ble_eq_true rfl) d_Model_execute_215 ⟨Nat.zero_le _, Nat.zero_le _⟩) hP hD hS hA [0, 1, 2, 3, 4, 5, 6, 7, 8, 9] [] [0, 1, 2, 3, 4, 5, 6, 7, 8, 9] rfl rfl rfl (by decide) (fun _ => rfl) rfl (fun u_27 H locs h_27 hP hD hS => ?_)
                        obtain ⟨x_27, e_27⟩ : ∃ z, z = u_27 := ⟨_, rfl⟩
                        subst e_27
                        exact rv (ca_26, tv_26, nx_26, lv, cs, x_27, b, cl, cm, so, ti, pu, np) hx hb hr hlocks hP hD hS d_Model_execute_218 (by simp only [sp_Model_execute, h_26, h_27, if_neg c_3, if_neg c_5, if_neg c_6, if_neg c_9, if_neg c_11, if_neg c_13, if_neg c_15, if_neg c_18, if_neg c_20, if_pos c_22, if_pos c_23])
                      · refine lv_aload_n hx hb d_Model_execute_170 rfl (lv_at hl 2 rfl) ?_
                        refine lv_iconst (v := 2) hx hb d_Model_execute_171 rfl ?_
                        refine lv_iload_n hx hb d_Model_execute_172 rfl (lv_at hl 3 rfl) ?_
                        refine xv (wr := []) (W2 := fun u9 => wR a k n h u9.1 u9.2 nx pcs lv cs x b cl cm so ti pu np) (xV (rest := []) ⟨hx, hb, hml, hown, hts⟩ (c_Model_trap a k n 2 x0 h ca tv nx pcs lv cs x b cl cm so ti pu np hn) mw_Model_trap mv_Model_trap k_763 ⟨rfl, rfl, Nat.le_of_ble_eq_true rfl, Nat.le_of_ble_eq_true rfl⟩ hK hP hD hS hA hF [0, 1, 2, 3, 4, 5, 6, 7, 8, 9] [0, 1, 2, 3, 4, 5, 6, 7, 8] rfl rfl rfl 0 5 rfl rfl rfl rfl hl.1 rfl (Nat.le_of_ble_eq_true rfl) d_Model_execute_173 ⟨Nat.zero_le _, Nat.zero_le _⟩) hP hD hS hA [0, 1, 2, 3, 4, 5, 6, 7, 8, 9] [] [0, 1, 2, 3, 4, 5, 6, 7, 8, 9] rfl rfl rfl (by decide) (fun _ => rfl) rfl (fun u_28 H locs h_28 hP hD hS => ?_)
                        obtain ⟨ca_28, tv_28⟩ := u_28
                        dsimp only at hP hD
                        refine lv_goto (tgt := 218) hx hb d_Model_execute_176 (by decide) ?_
                        exact rv (ca_28, tv_28, nx, lv, cs, x, b, cl, cm, so, ti, pu, np) hx hb hr hlocks hP hD hS d_Model_execute_218 (by simp only [sp_Model_execute, h_28, if_neg c_3, if_neg c_5, if_neg c_6, if_neg c_9, if_neg c_11, if_neg c_13, if_neg c_15, if_neg c_18, if_neg c_20, if_pos c_22, if_neg c_23])
                    · by_cases c_29 : (x0 &&& 127) = 111
                      · refine lv_lookup (off := 140) (tgt := 160) hx hb d_Model_execute_20 rfl (by rw [c_29]; rfl) (by decide) ?_
                        refine lv_aload_n hx hb d_Model_execute_160 rfl (lv_at hl 2 rfl) ?_
                        refine lv_iload_n hx hb d_Model_execute_161 rfl (lv_at hl 3 rfl) ?_
                        refine xv (wr := []) (W2 := fun u9 => wR a k n h u9.1 u9.2.1 u9.2.2.1 pcs lv cs u9.2.2.2 b cl cm so ti pu np) (xV (rest := []) ⟨hx, hb, hml, hown, hts⟩ (c_Model_jump a k n x0 h ca tv nx pcs lv cs x b cl cm so ti pu np hn hh) mw_Model_jump mv_Model_jump k_794 ⟨rfl, rfl, Nat.le_of_ble_eq_true rfl, Nat.le_of_ble_eq_true rfl⟩ hK hP hD hS hA hF [0, 1, 2, 3, 4, 5, 6, 7, 8, 9] [0, 1, 2, 3, 4, 5, 6, 7, 8] rfl rfl rfl 0 5 rfl rfl rfl rfl hl.1 rfl (Nat.le_of_ble_eq_true rfl) d_Model_execute_162 ⟨Nat.zero_le _, Nat.zero_le _⟩) hP hD hS hA [0, 1, 2, 3, 4, 5, 6, 7, 8, 9] [] [0, 1, 2, 3, 4, 5, 6, 7, 8, 9] rfl rfl rfl (by decide) (fun _ => rfl) rfl (fun u_30 H locs h_30 hP hD hS => ?_)
                        obtain ⟨ca_30, tv_30, nx_30, x_30⟩ := u_30
                        dsimp only at hP hD
                        exact rv (ca_30, tv_30, nx_30, lv, cs, x_30, b, cl, cm, so, ti, pu, np) hx hb hr hlocks hP hD hS d_Model_execute_165 (by simp only [sp_Model_execute, h_30, if_neg c_3, if_neg c_5, if_neg c_6, if_neg c_9, if_neg c_11, if_neg c_13, if_neg c_15, if_neg c_18, if_neg c_20, if_neg c_22, if_pos c_29])
                      · by_cases c_31 : (x0 &&& 127) = 115
                        · refine lv_lookup (off := 244) (tgt := 264) hx hb d_Model_execute_20 rfl (by rw [c_31]; rfl) (by decide) ?_
                          refine lv_iload_n hx hb d_Model_execute_264 rfl (lv_at hl 0 rfl) ?_
                          refine lv_if_ne (tgt := 276) hx hb d_Model_execute_265 (by decide) (fun c_32 => ?_) (fun c_32 => ?_)
                          · refine lv_aload_n hx hb d_Model_execute_276 rfl (lv_at hl 2 rfl) ?_
                            refine lv_iload_n hx hb d_Model_execute_277 rfl (lv_at hl 3 rfl) ?_
                            refine xv (wr := []) (W2 := fun u9 => wR a k n h u9.1 u9.2.1 nx pcs lv u9.2.2.1 u9.2.2.2 b cl cm so ti pu np) (xV (rest := []) ⟨hx, hb, hml, hown, hts⟩ (c_Model_csrs a k n x0 h ca tv nx pcs lv cs x b cl cm so ti pu np hn hh) mw_Model_csrs mv_Model_csrs k_889 ⟨rfl, rfl, Nat.le_of_ble_eq_true rfl, Nat.le_of_ble_eq_true rfl⟩ hK hP hD hS hA hF [0, 1, 2, 3, 4, 5, 6, 7, 8, 9] [0, 1, 2, 3, 4, 5, 6, 7, 8] rfl rfl rfl 0 5 rfl rfl rfl rfl hl.1 rfl (Nat.le_of_ble_eq_true rfl) d_Model_execute_278 ⟨Nat.zero_le _, Nat.zero_le _⟩) hP hD hS hA [0, 1, 2, 3, 4, 5, 6, 7, 8, 9] [] [0, 1, 2, 3, 4, 5, 6, 7, 8, 9] rfl rfl rfl (by decide) (fun _ => rfl) rfl (fun u_33 H locs h_33 hP hD hS => ?_)
                            obtain ⟨ca_33, tv_33, cs_33, x_33⟩ := u_33
                            dsimp only at hP hD
                            exact rv (ca_33, tv_33, nx, lv, cs_33, x_33, b, cl, cm, so, ti, pu, np) hx hb hr hlocks hP hD hS d_Model_execute_281 (by simp only [sp_Model_execute, h_33, if_neg c_3, if_neg c_5, if_neg c_6, if_neg c_9, if_neg c_11, if_neg c_13, if_neg c_15, if_neg c_18, if_neg c_20, if_neg c_22, if_neg c_29, if_pos c_31, if_neg c_32])
                          · refine lv_aload_n hx hb d_Model_execute_268 rfl (lv_at hl 2 rfl) ?_
                            refine lv_iload_n hx hb d_Model_execute_269 rfl (lv_at hl 3 rfl) ?_
                            refine xv (wr := []) (W2 := fun u9 => wR a k n h u9.1 u9.2.1 u9.2.2.1 pcs u9.2.2.2.1 u9.2.2.2.2 x b cl cm so ti pu np) (xV (rest := []) ⟨hx, hb, hml, hown, hts⟩ (c_Model_machine a k n x0 h ca tv nx pcs lv cs x b cl cm so ti pu np hn hh) mw_Model_machine mv_Model_machine k_879 ⟨rfl, rfl, Nat.le_of_ble_eq_true rfl, Nat.le_of_ble_eq_true rfl⟩ hK hP hD hS hA hF [0, 1, 2, 3, 4, 5, 6, 7, 8, 9] [0, 1, 2, 3, 4, 5, 6, 7, 8] rfl rfl rfl 0 5 rfl rfl rfl rfl hl.1 rfl (Nat.le_of_ble_eq_true rfl) d_Model_execute_270 ⟨Nat.zero_le _, Nat.zero_le _⟩) hP hD hS hA [0, 1, 2, 3, 4, 5, 6, 7, 8, 9] [] [0, 1, 2, 3, 4, 5, 6, 7, 8, 9] rfl rfl rfl (by decide) (fun _ => rfl) rfl (fun u_34 H locs h_34 hP hD hS => ?_)
                            obtain ⟨ca_34, tv_34, nx_34, lv_34, cs_34⟩ := u_34
                            dsimp only at hP hD
                            refine lv_goto (tgt := 281) hx hb d_Model_execute_273 (by decide) ?_
                            exact rv (ca_34, tv_34, nx_34, lv_34, cs_34, x, b, cl, cm, so, ti, pu, np) hx hb hr hlocks hP hD hS d_Model_execute_281 (by simp only [sp_Model_execute, h_34, if_neg c_3, if_neg c_5, if_neg c_6, if_neg c_9, if_neg c_11, if_neg c_13, if_neg c_15, if_neg c_18, if_neg c_20, if_neg c_22, if_neg c_29, if_pos c_31, if_pos c_32])
                        · refine lv_lookup (off := 262) (tgt := 282) hx hb d_Model_execute_20 rfl ((lv_osw (a := 3) c_3 rfl).trans ((lv_osw (a := 15) c_5 rfl).trans ((lv_osw (a := 19) c_6 rfl).trans ((lv_osw (a := 23) c_9 rfl).trans ((lv_osw (a := 35) c_11 rfl).trans ((lv_osw (a := 47) c_13 rfl).trans ((lv_osw (a := 51) c_15 rfl).trans ((lv_osw (a := 55) c_18 rfl).trans ((lv_osw (a := 99) c_20 rfl).trans ((lv_osw (a := 103) c_22 rfl).trans ((lv_osw (a := 111) c_29 rfl).trans ((lv_osw (a := 115) c_31 rfl).trans (rfl))))))))))))) (by decide) ?_
                          refine lv_aload_n hx hb d_Model_execute_282 rfl (lv_at hl 2 rfl) ?_
                          refine lv_iconst (v := 2) hx hb d_Model_execute_283 rfl ?_
                          refine lv_iload_n hx hb d_Model_execute_284 rfl (lv_at hl 3 rfl) ?_
                          refine xv (wr := []) (W2 := fun u9 => wR a k n h u9.1 u9.2 nx pcs lv cs x b cl cm so ti pu np) (xV (rest := []) ⟨hx, hb, hml, hown, hts⟩ (c_Model_trap a k n 2 x0 h ca tv nx pcs lv cs x b cl cm so ti pu np hn) mw_Model_trap mv_Model_trap k_763 ⟨rfl, rfl, Nat.le_of_ble_eq_true rfl, Nat.le_of_ble_eq_true rfl⟩ hK hP hD hS hA hF [0, 1, 2, 3, 4, 5, 6, 7, 8, 9] [0, 1, 2, 3, 4, 5, 6, 7, 8] rfl rfl rfl 0 5 rfl rfl rfl rfl hl.1 rfl (Nat.le_of_ble_eq_true rfl) d_Model_execute_285 ⟨Nat.zero_le _, Nat.zero_le _⟩) hP hD hS hA [0, 1, 2, 3, 4, 5, 6, 7, 8, 9] [] [0, 1, 2, 3, 4, 5, 6, 7, 8, 9] rfl rfl rfl (by decide) (fun _ => rfl) rfl (fun u_35 H locs h_35 hP hD hS => ?_)
                          obtain ⟨ca_35, tv_35⟩ := u_35
                          dsimp only at hP hD
                          exact rv (ca_35, tv_35, nx, lv, cs, x, b, cl, cm, so, ti, pu, np) hx hb hr hlocks hP hD hS d_Model_execute_288 (by simp only [sp_Model_execute, h_35, if_neg c_3, if_neg c_5, if_neg c_6, if_neg c_9, if_neg c_11, if_neg c_13, if_neg c_15, if_neg c_18, if_neg c_20, if_neg c_22, if_neg c_29, if_neg c_31])
def sp_Model_fetch (n : Nat)  (h : Int32) (ca : Int32) (tv : Int32) (pcs : Nat → Int32) (lv : Nat → Int32) (cs : Nat → Int32) (b : Nat → Int32) : Int32 × Int32 × Int32 :=
  let r_1 := (sp_Model_translate n (pcs h.toNatClampNeg) 0 h ca tv lv cs b).1
  let ca_1 := (sp_Model_translate n (pcs h.toNatClampNeg) 0 h ca tv lv cs b).2.1
  let tv_1 := (sp_Model_translate n (pcs h.toNatClampNeg) 0 h ca tv lv cs b).2.2
  if 0 ≤ r_1 then
    if 0 ≤ (sp_Model_inRam n r_1) then
      (sp_Model_ramWord (sp_Model_inRam n r_1) b, (ca_1, tv_1))
    else
      let ca_7 := (sp_Model_trap 1 (pcs h.toNatClampNeg) ca_1 tv_1).1
      let tv_7 := (sp_Model_trap 1 (pcs h.toNatClampNeg) ca_1 tv_1).2
      (0, (ca_7, tv_7))
  else
    (0, (ca_1, tv_1))
set_option maxHeartbeats 4000000 in
set_option maxRecDepth 100000 in
theorem c_Model_fetch {l : Launch} {D : va_G} {g : Nat → Nat} (a : Nat → Nat) (k : Nat → ClassId) (n : Nat)  (h ca tv nx : Int32) (pcs lv cs x b cl : Nat → Int32) (cm : Nat → Int64) (so : Nat → Int32) (ti : Int64) (pu : Nat → Int32) (np : Int32) (hn : n ≤ 4096) (hh : h = 0 ∨ h = 1) (hpc : pcs h.toNatClampNeg &&& 3 = 0) : CT l D g y_Model_fetch b_Model_fetch 4 (some .int) (rD 4) [.ref (a 0)] (wR a k n h ca tv nx pcs lv cs x b cl cm so ti pu np) (tyR k) (Qi D (fun (r : Int32) (u : Int32 × Int32) => sp_Model_fetch n h ca tv pcs lv cs b = (r, u)) (fun u => wR a k n h u.1 u.2 nx pcs lv cs x b cl cm so ti pu np)) := by
  refine CT.of rfl (Nat.le_of_ble_eq_true rfl) (fun p e s m below meth c A ls hx hb hr hml hts hown hlocks hA hP hK hD hF hS hl => ?_)
  have hl : lv_has ls 4 [(0, .ref (a 0))] := hl
  refine lv_aload_n hx hb d_Model_fetch_0 rfl (lv_at hl 0 rfl) ?_
  refine lv_aload_n hx hb d_Model_fetch_1 rfl (lv_at hl 0 rfl) ?_
  refine va_get (D := D) (ci := 5) (v := .ref (a 3)) (C := R_Model) (T := F_Model) (N := 16) hx hb hts i_Model hown hK hP 0 rfl rfl 3 (by decide) (hts _ k_628) (fun _ h9 => h9) rfl d_Model_fetch_2 ?_
  refine lv_aload_n hx hb d_Model_fetch_5 rfl (lv_at hl 0 rfl) ?_
  refine va_get (D := D) (ci := 5) (v := .int h) (C := R_Model) (T := F_Model) (N := 16) hx hb hts i_Model hown hK hP 0 rfl rfl 12 (by decide) (hts _ k_637) (fun _ h9 => h9) rfl d_Model_fetch_6 ?_
  refine y_iald (v := pcs h.toNatClampNeg) hx hb hK hP 3 2 rfl rfl (vp_01 hh (by decide)) rfl d_Model_fetch_9 ?_
  refine lv_iconst (v := 0) hx hb d_Model_fetch_10 rfl ?_
  refine xl (wr := []) (W2 := fun u9 => wR a k n h u9.1 u9.2 nx pcs lv cs x b cl cm so ti pu np) (xV (rest := []) ⟨hx, hb, hml, hown, hts⟩ (c_Model_translate a k n (pcs h.toNatClampNeg) 0 h ca tv nx pcs lv cs x b cl cm so ti pu np hn hh) mw_Model_translate mv_Model_translate k_742 ⟨rfl, rfl, Nat.le_of_ble_eq_true rfl, Nat.le_of_ble_eq_true rfl⟩ hK hP hD hS hA hF [0, 1, 2, 3, 4, 5, 6, 7, 8, 9] [0, 1, 2, 3, 4, 5, 6, 7, 8] rfl rfl rfl 0 5 rfl rfl rfl rfl hl.1 rfl (Nat.le_of_ble_eq_true rfl) d_Model_fetch_11 ⟨Nat.zero_le _, Nat.zero_le _⟩) hP hD hS hA [0, 1, 2, 3, 4, 5, 6, 7, 8, 9] [] [0, 1, 2, 3, 4, 5, 6, 7, 8, 9] rfl rfl rfl (by decide) (fun _ => rfl) rfl (fun r_1 u_1 H locs h_1 hP hD hS => ?_)
  obtain ⟨ca_1, tv_1⟩ := u_1
  dsimp only at hP hD
  refine lv_lstore_n (lv' := [(1, .long r_1), (0, .ref (a 0))]) hx hb d_Model_fetch_14 rfl hl (by decide) rfl (fun ls hl => ?_)
  refine lv_lload_n hx hb d_Model_fetch_15 rfl (lv_at hl 0 rfl) ?_
  refine lv_lconst (v := 0) hx hb d_Model_fetch_16 rfl ?_
  refine W.lcmp hx hb d_Model_fetch_17 ?_
  refine lv_if_ge (tgt := 23) hx hb d_Model_fetch_18 (by decide) (fun b_2 => ?_) (fun b_2 => ?_)
  · have c_2 : 0 ≤ r_1 := (lg_cmp_ge _ _).mp b_2
    refine lv_aload_n hx hb d_Model_fetch_23 rfl (lv_at hl 1 rfl) ?_
    refine lv_lload_n hx hb d_Model_fetch_24 rfl (lv_at hl 0 rfl) ?_
    refine xi (wr := []) (W2 := fun _ => wR a k n h ca_1 tv_1 nx pcs lv cs x b cl cm so ti pu np) (xV (rest := []) ⟨hx, hb, hml, hown, hts⟩ (c_Model_inRam a k n r_1 h ca_1 tv_1 nx pcs lv cs x b cl cm so ti pu np hn) mw_Model_inRam mv_Model_inRam k_755 ⟨rfl, rfl, Nat.le_of_ble_eq_true rfl, Nat.le_of_ble_eq_true rfl⟩ hK hP hD hS hA hF [0, 1, 2, 3, 4, 5, 6, 7, 8, 9] [0, 1, 2, 3, 4, 5, 6, 7, 8] rfl rfl rfl 0 5 rfl rfl rfl rfl hl.1 rfl (Nat.le_of_ble_eq_true rfl) d_Model_fetch_25 ⟨Nat.zero_le _, Nat.zero_le _⟩) hP hD hS hA [0, 1, 2, 3, 4, 5, 6, 7, 8, 9] [] [0, 1, 2, 3, 4, 5, 6, 7, 8, 9] rfl rfl rfl (by decide) (fun _ => rfl) rfl (fun r_3 _ H locs h_3 hP hD hS => ?_)
    subst h_3
    refine lv_istore_n (lv' := [(3, .int (sp_Model_inRam n r_1)), (1, .long r_1), (0, .ref (a 0))]) hx hb d_Model_fetch_28 rfl hl (by decide) rfl (fun ls hl => ?_)
    refine lv_iload_n hx hb d_Model_fetch_29 rfl (lv_at hl 0 rfl) ?_
    refine lv_if_ge (tgt := 47) hx hb d_Model_fetch_30 (by decide) (fun c_4 => ?_) (fun c_4 => ?_)
    · refine lv_iload_n hx hb d_Model_fetch_47 rfl (lv_at hl 0 rfl) ?_
      refine lv_if_ge (tgt := 55) hx hb d_Model_fetch_48 (by decide) (fun _ => ?_) (fun h9 => absurd c_4 h9)
      refine lv_aload_n hx hb d_Model_fetch_55 rfl (lv_at hl 2 rfl) ?_
      refine lv_iload_n hx hb d_Model_fetch_56 rfl (lv_at hl 0 rfl) ?_
      refine xi (wr := []) (W2 := fun _ => wR a k n h ca_1 tv_1 nx pcs lv cs x b cl cm so ti pu np) (xV (rest := []) ⟨hx, hb, hml, hown, hts⟩ (c_Model_ramWord a k n (sp_Model_inRam n r_1) h ca_1 tv_1 nx pcs lv cs x b cl cm so ti pu np hn (vpw_fetch hn hpc h_1 c_2 c_4)) mw_Model_ramWord mv_Model_ramWord k_690 ⟨rfl, rfl, Nat.le_of_ble_eq_true rfl, Nat.le_of_ble_eq_true rfl⟩ hK hP hD hS hA hF [0, 1, 2, 3, 4, 5, 6, 7, 8, 9] [0, 1, 2, 3, 4, 5, 6, 7, 8] rfl rfl rfl 0 5 rfl rfl rfl rfl hl.1 rfl (Nat.le_of_ble_eq_true rfl) d_Model_fetch_57 ⟨Nat.zero_le _, Nat.zero_le _⟩) hP hD hS hA [0, 1, 2, 3, 4, 5, 6, 7, 8, 9] [] [0, 1, 2, 3, 4, 5, 6, 7, 8, 9] rfl rfl rfl (by decide) (fun _ => rfl) rfl (fun r_6 _ H locs h_6 hP hD hS => ?_)
      subst h_6
      exact ri (ca_1, tv_1) hx hb hr hlocks hP hD hS d_Model_fetch_60 (by simp only [sp_Model_fetch, h_1, if_pos c_2, if_pos c_4])
    · refine lv_aload_n hx hb d_Model_fetch_33 rfl (lv_at hl 2 rfl) ?_
      refine lv_iconst (v := 1) hx hb d_Model_fetch_34 rfl ?_
      refine lv_aload_n hx hb d_Model_fetch_35 rfl (lv_at hl 2 rfl) ?_
      refine va_get (D := D) (ci := 5) (v := .ref (a 3)) (C := R_Model) (T := F_Model) (N := 16) hx hb hts i_Model hown hK hP 0 rfl rfl 3 (by decide) (hts _ k_628) (fun _ h9 => h9) rfl d_Model_fetch_36 ?_
      refine lv_aload_n hx hb d_Model_fetch_39 rfl (lv_at hl 2 rfl) ?_
      refine va_get (D := D) (ci := 5) (v := .int h) (C := R_Model) (T := F_Model) (N := 16) hx hb hts i_Model hown hK hP 0 rfl rfl 12 (by decide) (hts _ k_637) (fun _ h9 => h9) rfl d_Model_fetch_40 ?_
      refine y_iald (v := pcs h.toNatClampNeg) hx hb hK hP 3 2 rfl rfl (vp_01 hh (by decide)) rfl d_Model_fetch_43 ?_
      refine xv (wr := []) (W2 := fun u9 => wR a k n h u9.1 u9.2 nx pcs lv cs x b cl cm so ti pu np) (xV (rest := []) ⟨hx, hb, hml, hown, hts⟩ (c_Model_trap a k n 1 (pcs h.toNatClampNeg) h ca_1 tv_1 nx pcs lv cs x b cl cm so ti pu np hn) mw_Model_trap mv_Model_trap k_763 ⟨rfl, rfl, Nat.le_of_ble_eq_true rfl, Nat.le_of_ble_eq_true rfl⟩ hK hP hD hS hA hF [0, 1, 2, 3, 4, 5, 6, 7, 8, 9] [0, 1, 2, 3, 4, 5, 6, 7, 8] rfl rfl rfl 0 5 rfl rfl rfl rfl hl.1 rfl (Nat.le_of_ble_eq_true rfl) d_Model_fetch_44 ⟨Nat.zero_le _, Nat.zero_le _⟩) hP hD hS hA [0, 1, 2, 3, 4, 5, 6, 7, 8, 9] [] [0, 1, 2, 3, 4, 5, 6, 7, 8, 9] rfl rfl rfl (by decide) (fun _ => rfl) rfl (fun u_7 H locs h_7 hP hD hS => ?_)
      obtain ⟨ca_7, tv_7⟩ := u_7
      dsimp only at hP hD
      refine lv_iload_n hx hb d_Model_fetch_47 rfl (lv_at hl 0 rfl) ?_
      refine lv_if_ge (tgt := 55) hx hb d_Model_fetch_48 (by decide) (fun h9 => absurd h9 c_4) (fun _ => ?_)
      refine lv_iconst (v := 0) hx hb d_Model_fetch_51 rfl ?_
      refine lv_goto (tgt := 60) hx hb d_Model_fetch_52 (by decide) ?_
      exact ri (ca_7, tv_7) hx hb hr hlocks hP hD hS d_Model_fetch_60 (by simp only [sp_Model_fetch, h_1, h_7, if_pos c_2, if_neg c_4])
  · have c_2 : ¬ 0 ≤ r_1 := fun h9 => b_2 ((lg_cmp_ge _ _).mpr h9)
    refine lv_iconst (v := 0) hx hb d_Model_fetch_21 rfl ?_
    exact ri (ca_1, tv_1) hx hb hr hlocks hP hD hS d_Model_fetch_22 (by simp only [sp_Model_fetch, h_1, if_neg c_2])
def sp_Model_isHart (x0 : Int32)  : Int32 :=
  if x0 = 0 then
    1
  else
    if x0 = 1 then
      1
    else
      0
set_option maxHeartbeats 4000000 in
set_option maxRecDepth 100000 in
theorem c_Model_isHart {l : Launch} {D : va_G} {g : Nat → Nat}  (x0 : Int32)   : CT l D g y_Model_isHart b_Model_isHart 1 (some .boolean) (rD 0) [.int x0] [] [] (Qi D (fun (r : Int32) (_ : Unit) => sp_Model_isHart x0 = r ∧ (r = 0 ∨ r = 1)) (fun _ => [])) := by
  refine CT.of rfl (Nat.le_of_ble_eq_true rfl) (fun p e s m below meth c A ls hx hb hr hml hts hown hlocks hA hP hK hD hF hS hl => ?_)
  have hl : lv_has ls 1 [(0, .int x0)] := hl
  refine lv_iload_n hx hb d_Model_isHart_0 rfl (lv_at hl 0 rfl) ?_
  refine lv_if_eq (tgt := 9) hx hb d_Model_isHart_1 (by decide) (fun c_1 => ?_) (fun c_1 => ?_)
  · refine lv_iconst (v := 1) hx hb d_Model_isHart_9 rfl ?_
    refine lv_goto (tgt := 14) hx hb d_Model_isHart_10 (by decide) ?_
    exact rz () hx hb hr hlocks rfl hP hD hS d_Model_isHart_14 ⟨by simp only [sp_Model_isHart, if_pos c_1], Or.inr rfl⟩
  · refine lv_iload_n hx hb d_Model_isHart_4 rfl (lv_at hl 0 rfl) ?_
    refine lv_iconst (v := 1) hx hb d_Model_isHart_5 rfl ?_
    refine lv_icmp_ne (tgt := 13) hx hb d_Model_isHart_6 (by decide) (fun c_2 => ?_) (fun c_2 => ?_)
    · refine lv_iconst (v := 0) hx hb d_Model_isHart_13 rfl ?_
      exact rz () hx hb hr hlocks rfl hP hD hS d_Model_isHart_14 ⟨by simp only [sp_Model_isHart, if_neg c_1, if_neg c_2], Or.inl rfl⟩
    · refine lv_iconst (v := 1) hx hb d_Model_isHart_9 rfl ?_
      refine lv_goto (tgt := 14) hx hb d_Model_isHart_10 (by decide) ?_
      exact rz () hx hb hr hlocks rfl hP hD hS d_Model_isHart_14 ⟨by simp only [sp_Model_isHart, if_neg c_1, if_pos c_2], Or.inr rfl⟩
theorem ih {x : Int32} (c : ¬ sp_Model_isHart x = 0) : x = 0 ∨ x = 1 := by
  unfold sp_Model_isHart at c
  by_cases h : x = 0
  · exact Or.inl h
  · rw [if_neg h] at c
    by_cases h2 : x = 1
    · exact Or.inr h2
    · rw [if_neg h2] at c; exact absurd rfl c
def sp_Model_step (n : Nat) (x0 : Int32) (h : Int32) (ca : Int32) (tv : Int32) (nx : Int32) (pcs : Nat → Int32) (lv : Nat → Int32) (cs : Nat → Int32) (x : Nat → Int32) (b : Nat → Int32) (cl : Nat → Int32) (cm : Nat → Int64) (so : Nat → Int32) (ti : Int64) (pu : Nat → Int32) (np : Int32) : Int32 × Int32 × Int32 × Int32 × Int32 × (Nat → Int32) × (Nat → Int32) × (Nat → Int32) × (Nat → Int32) × (Nat → Int32) × (Nat → Int32) × (Nat → Int64) × (Nat → Int32) × Int64 × (Nat → Int32) × Int32 :=
  if (sp_Model_isHart x0) = 0 then
    ((-1), (h, ca, tv, nx, pcs, lv, cs, x, b, cl, cm, so, ti, pu, np))
  else
    let r_3 := (sp_Model_interrupt x0 pcs lv cs cl cm so ti).1
    let pcs_3 := (sp_Model_interrupt x0 pcs lv cs cl cm so ti).2.1
    let lv_3 := (sp_Model_interrupt x0 pcs lv cs cl cm so ti).2.2.1
    let cs_3 := (sp_Model_interrupt x0 pcs lv cs cl cm so ti).2.2.2.1
    let cl_3 := (sp_Model_interrupt x0 pcs lv cs cl cm so ti).2.2.2.2
    if r_3 < 0 then
      let r_5 := (sp_Model_fetch n x0 (-1) tv pcs_3 lv_3 cs_3 b).1
      let ca_5 := (sp_Model_fetch n x0 (-1) tv pcs_3 lv_3 cs_3 b).2.1
      let tv_5 := (sp_Model_fetch n x0 (-1) tv pcs_3 lv_3 cs_3 b).2.2
      if ca_5 = (-1) then
        let ca_14 := (sp_Model_execute n r_5 x0 ca_5 tv_5 ((pcs_3 x0.toNatClampNeg) + 4) pcs_3 lv_3 cs_3 x b cl_3 cm so ti pu np).1
        let tv_14 := (sp_Model_execute n r_5 x0 ca_5 tv_5 ((pcs_3 x0.toNatClampNeg) + 4) pcs_3 lv_3 cs_3 x b cl_3 cm so ti pu np).2.1
        let nx_14 := (sp_Model_execute n r_5 x0 ca_5 tv_5 ((pcs_3 x0.toNatClampNeg) + 4) pcs_3 lv_3 cs_3 x b cl_3 cm so ti pu np).2.2.1
        let lv_14 := (sp_Model_execute n r_5 x0 ca_5 tv_5 ((pcs_3 x0.toNatClampNeg) + 4) pcs_3 lv_3 cs_3 x b cl_3 cm so ti pu np).2.2.2.1
        let cs_14 := (sp_Model_execute n r_5 x0 ca_5 tv_5 ((pcs_3 x0.toNatClampNeg) + 4) pcs_3 lv_3 cs_3 x b cl_3 cm so ti pu np).2.2.2.2.1
        let x_14 := (sp_Model_execute n r_5 x0 ca_5 tv_5 ((pcs_3 x0.toNatClampNeg) + 4) pcs_3 lv_3 cs_3 x b cl_3 cm so ti pu np).2.2.2.2.2.1
        let b_14 := (sp_Model_execute n r_5 x0 ca_5 tv_5 ((pcs_3 x0.toNatClampNeg) + 4) pcs_3 lv_3 cs_3 x b cl_3 cm so ti pu np).2.2.2.2.2.2.1
        let cl_14 := (sp_Model_execute n r_5 x0 ca_5 tv_5 ((pcs_3 x0.toNatClampNeg) + 4) pcs_3 lv_3 cs_3 x b cl_3 cm so ti pu np).2.2.2.2.2.2.2.1
        let cm_14 := (sp_Model_execute n r_5 x0 ca_5 tv_5 ((pcs_3 x0.toNatClampNeg) + 4) pcs_3 lv_3 cs_3 x b cl_3 cm so ti pu np).2.2.2.2.2.2.2.2.1
        let so_14 := (sp_Model_execute n r_5 x0 ca_5 tv_5 ((pcs_3 x0.toNatClampNeg) + 4) pcs_3 lv_3 cs_3 x b cl_3 cm so ti pu np).2.2.2.2.2.2.2.2.2.1
        let ti_14 := (sp_Model_execute n r_5 x0 ca_5 tv_5 ((pcs_3 x0.toNatClampNeg) + 4) pcs_3 lv_3 cs_3 x b cl_3 cm so ti pu np).2.2.2.2.2.2.2.2.2.2.1
        let pu_14 := (sp_Model_execute n r_5 x0 ca_5 tv_5 ((pcs_3 x0.toNatClampNeg) + 4) pcs_3 lv_3 cs_3 x b cl_3 cm so ti pu np).2.2.2.2.2.2.2.2.2.2.2.1
        let np_14 := (sp_Model_execute n r_5 x0 ca_5 tv_5 ((pcs_3 x0.toNatClampNeg) + 4) pcs_3 lv_3 cs_3 x b cl_3 cm so ti pu np).2.2.2.2.2.2.2.2.2.2.2.2
        if ca_14 = (-1) then
          (0, (x0, ca_14, tv_14, nx_14, (upd pcs_3 x0.toNatClampNeg nx_14), lv_14, cs_14, x_14, b_14, cl_14, cm_14, so_14, ti_14, pu_14, np_14))
        else
          if 3 ≤ (lv_14 x0.toNatClampNeg) then
            let pcs_17 := (sp_Model_take ca_14 tv_14 0 x0 pcs_3 lv_14 cs_14 cl_14).1
            let lv_17 := (sp_Model_take ca_14 tv_14 0 x0 pcs_3 lv_14 cs_14 cl_14).2.1
            let cs_17 := (sp_Model_take ca_14 tv_14 0 x0 pcs_3 lv_14 cs_14 cl_14).2.2.1
            let cl_17 := (sp_Model_take ca_14 tv_14 0 x0 pcs_3 lv_14 cs_14 cl_14).2.2.2
            (1 + ca_14, (x0, ca_14, tv_14, nx_14, pcs_17, lv_17, cs_17, x_14, b_14, cl_17, cm_14, so_14, ti_14, pu_14, np_14))
          else
            if ((shr (sp_Model_raw x0 770 cs_14) ca_14) &&& 1) = 1 then
              let pcs_21 := (sp_Model_take ca_14 tv_14 1 x0 pcs_3 lv_14 cs_14 cl_14).1
              let lv_21 := (sp_Model_take ca_14 tv_14 1 x0 pcs_3 lv_14 cs_14 cl_14).2.1
              let cs_21 := (sp_Model_take ca_14 tv_14 1 x0 pcs_3 lv_14 cs_14 cl_14).2.2.1
              let cl_21 := (sp_Model_take ca_14 tv_14 1 x0 pcs_3 lv_14 cs_14 cl_14).2.2.2
              (1 + ca_14, (x0, ca_14, tv_14, nx_14, pcs_21, lv_21, cs_21, x_14, b_14, cl_21, cm_14, so_14, ti_14, pu_14, np_14))
            else
              let pcs_20 := (sp_Model_take ca_14 tv_14 0 x0 pcs_3 lv_14 cs_14 cl_14).1
              let lv_20 := (sp_Model_take ca_14 tv_14 0 x0 pcs_3 lv_14 cs_14 cl_14).2.1
              let cs_20 := (sp_Model_take ca_14 tv_14 0 x0 pcs_3 lv_14 cs_14 cl_14).2.2.1
              let cl_20 := (sp_Model_take ca_14 tv_14 0 x0 pcs_3 lv_14 cs_14 cl_14).2.2.2
              (1 + ca_14, (x0, ca_14, tv_14, nx_14, pcs_20, lv_20, cs_20, x_14, b_14, cl_20, cm_14, so_14, ti_14, pu_14, np_14))
      else
        if 3 ≤ (lv_3 x0.toNatClampNeg) then
          let pcs_9 := (sp_Model_take ca_5 tv_5 0 x0 pcs_3 lv_3 cs_3 cl_3).1
          let lv_9 := (sp_Model_take ca_5 tv_5 0 x0 pcs_3 lv_3 cs_3 cl_3).2.1
          let cs_9 := (sp_Model_take ca_5 tv_5 0 x0 pcs_3 lv_3 cs_3 cl_3).2.2.1
          let cl_9 := (sp_Model_take ca_5 tv_5 0 x0 pcs_3 lv_3 cs_3 cl_3).2.2.2
          (1 + ca_5, (x0, ca_5, tv_5, (pcs_3 x0.toNatClampNeg) + 4, pcs_9, lv_9, cs_9, x, b, cl_9, cm, so, ti, pu, np))
        else
          if ((shr (sp_Model_raw x0 770 cs_3) ca_5) &&& 1) = 1 then
            let pcs_13 := (sp_Model_take ca_5 tv_5 1 x0 pcs_3 lv_3 cs_3 cl_3).1
            let lv_13 := (sp_Model_take ca_5 tv_5 1 x0 pcs_3 lv_3 cs_3 cl_3).2.1
            let cs_13 := (sp_Model_take ca_5 tv_5 1 x0 pcs_3 lv_3 cs_3 cl_3).2.2.1
            let cl_13 := (sp_Model_take ca_5 tv_5 1 x0 pcs_3 lv_3 cs_3 cl_3).2.2.2
            (1 + ca_5, (x0, ca_5, tv_5, (pcs_3 x0.toNatClampNeg) + 4, pcs_13, lv_13, cs_13, x, b, cl_13, cm, so, ti, pu, np))
          else
            let pcs_12 := (sp_Model_take ca_5 tv_5 0 x0 pcs_3 lv_3 cs_3 cl_3).1
            let lv_12 := (sp_Model_take ca_5 tv_5 0 x0 pcs_3 lv_3 cs_3 cl_3).2.1
            let cs_12 := (sp_Model_take ca_5 tv_5 0 x0 pcs_3 lv_3 cs_3 cl_3).2.2.1
            let cl_12 := (sp_Model_take ca_5 tv_5 0 x0 pcs_3 lv_3 cs_3 cl_3).2.2.2
            (1 + ca_5, (x0, ca_5, tv_5, (pcs_3 x0.toNatClampNeg) + 4, pcs_12, lv_12, cs_12, x, b, cl_12, cm, so, ti, pu, np))
    else
      (64 + r_3, (x0, ca, tv, nx, pcs_3, lv_3, cs_3, x, b, cl_3, cm, so, ti, pu, np))
set_option maxHeartbeats 4000000 in
set_option maxRecDepth 100000 in
theorem c_Model_step {l : Launch} {D : va_G} {g : Nat → Nat} (a : Nat → Nat) (k : Nat → ClassId) (n : Nat) (x0 : Int32) (h ca tv nx : Int32) (pcs lv cs x b cl : Nat → Int32) (cm : Nat → Int64) (so : Nat → Int32) (ti : Int64) (pu : Nat → Int32) (np : Int32) (hn : n ≤ 4096) (hp : 0 ≤ np ∧ np ≤ 256) (hpc : ∀ j : Nat, j < 2 → pcs j &&& 3 = 0) : CT l D g y_Model_step b_Model_step 4 (some .int) (rD 8) [.ref (a 0), .int x0] (wR a k n h ca tv nx pcs lv cs x b cl cm so ti pu np) (tyR k) (Qi D (fun (r : Int32) (u : Int32 × Int32 × Int32 × Int32 × (Nat → Int32) × (Nat → Int32) × (Nat → Int32) × (Nat → Int32) × (Nat → Int32) × (Nat → Int32) × (Nat → Int64) × (Nat → Int32) × Int64 × (Nat → Int32) × Int32) => sp_Model_step n x0 h ca tv nx pcs lv cs x b cl cm so ti pu np = (r, u)) (fun u => wR a k n u.1 u.2.1 u.2.2.1 u.2.2.2.1 u.2.2.2.2.1 u.2.2.2.2.2.1 u.2.2.2.2.2.2.1 u.2.2.2.2.2.2.2.1 u.2.2.2.2.2.2.2.2.1 u.2.2.2.2.2.2.2.2.2.1 u.2.2.2.2.2.2.2.2.2.2.1 u.2.2.2.2.2.2.2.2.2.2.2.1 u.2.2.2.2.2.2.2.2.2.2.2.2.1 u.2.2.2.2.2.2.2.2.2.2.2.2.2.1 u.2.2.2.2.2.2.2.2.2.2.2.2.2.2)) := by
  refine CT.of rfl (Nat.le_of_ble_eq_true rfl) (fun p e s m below meth c A ls hx hb hr hml hts hown hlocks hA hP hK hD hF hS hl => ?_)
  have hl : lv_has ls 4 [(0, .ref (a 0)), (1, .int x0)] := hl
  refine lv_iload_n hx hb d_Model_step_0 rfl (lv_at hl 1 rfl) ?_
  refine xi (wr := [((a 0), .inr (5, [.int (nI n), .ref (a 1), .ref (a 2), .ref (a 3), .ref (a 4), .ref (a 5), .ref (a 6), .ref (a 7), .ref (a 8), .long ti, .ref (a 9), .int np, .int h, .int ca, .int tv, .int nx])), ((a 1), .inl ((k 0), 16384, .inl b)), ((a 2), .inl ((k 1), 64, .inl x)), ((a 3), .inl ((k 2), 2, .inl pcs)), ((a 4), .inl ((k 3), 2, .inl lv)), ((a 5), .inl ((k 4), 8192, .inl cs)), ((a 6), .inl ((k 5), 2, .inl cl)), ((a 7), .inl ((k 6), 2, .inr (.inl cm))), ((a 8), .inl ((k 7), 2, .inl so)), ((a 9), .inl ((k 8), 256, .inl pu))]) (W2 := fun _ => wR a k n h ca tv nx pcs lv cs x b cl cm so ti pu np) (xS (rest := []) ⟨hx, hb, hml, hown, hts⟩ (c_Model_isHart x0) mw_Model_isHart ms_Model_isHart k_702 ⟨rfl, rfl, Nat.le_of_ble_eq_true rfl, Nat.le_of_ble_eq_true rfl⟩ hK hP hD hS hA hF [] [] rfl rfl rfl rfl hl.1 rfl (Nat.le_of_ble_eq_true rfl) d_Model_step_1 ⟨Nat.zero_le _, Nat.zero_le _⟩) hP hD hS hA [] [0, 1, 2, 3, 4, 5, 6, 7, 8, 9] [0, 1, 2, 3, 4, 5, 6, 7, 8, 9] rfl rfl rfl (by decide) (fun _ => rfl) rfl (fun r_1 _ H locs h_1 hP hD hS => ?_)
  obtain ⟨h_1, z_1⟩ := h_1
  subst h_1
  refine lv_if_ne (tgt := 9) hx hb d_Model_step_4 (by decide) (fun c_2 => ?_) (fun c_2 => ?_)
  · refine lv_aload_n hx hb d_Model_step_9 rfl (lv_at hl 0 rfl) ?_
    refine lv_iload_n hx hb d_Model_step_10 rfl (lv_at hl 1 rfl) ?_
    refine y_put (D := D) (ci := 5) (v := .int x0) (ty := .int) (C := R_Model) (T := F_Model) (N := 16) (ws' := wR a k n x0 ca tv nx pcs lv cs x b cl cm so ti pu np) hx hb hts i_Model t_Model t_Model_ok n_Model hown hK hP hD hS 0 rfl rfl 12 (by decide) (hts _ k_637) (fun _ h9 => h9) rfl (by decide +kernel) rfl rfl (Nat.le_of_ble_eq_true rfl) d_Model_step_11 rfl (fun H locs hP hD hS => ?_)
    refine lv_aload_n hx hb d_Model_step_14 rfl (lv_at hl 0 rfl) ?_
    refine xi (wr := []) (W2 := fun u9 => wR a k n x0 ca tv nx u9.1 u9.2.1 u9.2.2.1 x b u9.2.2.2 cm so ti pu np) (xV (rest := []) ⟨hx, hb, hml, hown, hts⟩ (c_Model_interrupt a k n x0 ca tv nx pcs lv cs x b cl cm so ti pu np hn (ih c_2)) mw_Model_interrupt mv_Model_interrupt k_705 ⟨rfl, rfl, Nat.le_of_ble_eq_true rfl, Nat.le_of_ble_eq_true rfl⟩ hK hP hD hS hA hF [0, 1, 2, 3, 4, 5, 6, 7, 8, 9] [0, 1, 2, 3, 4, 5, 6, 7, 8] rfl rfl rfl 0 5 rfl rfl rfl rfl hl.1 rfl (Nat.le_of_ble_eq_true rfl) d_Model_step_15 ⟨Nat.zero_le _, Nat.zero_le _⟩) hP hD hS hA [0, 1, 2, 3, 4, 5, 6, 7, 8, 9] [] [0, 1, 2, 3, 4, 5, 6, 7, 8, 9] rfl rfl rfl (by decide) (fun _ => rfl) rfl (fun r_3 u_3 H locs h_3 hP hD hS => ?_)
    obtain ⟨pcs_3, lv_3, cs_3, cl_3⟩ := u_3
    dsimp only at hP hD
    refine lv_istore_n (lv' := [(2, .int r_3), (0, .ref (a 0)), (1, .int x0)]) hx hb d_Model_step_18 rfl hl (by decide) rfl (fun ls hl => ?_)
    refine lv_iload_n hx hb d_Model_step_19 rfl (lv_at hl 0 rfl) ?_
    refine lv_if_lt (tgt := 28) hx hb d_Model_step_20 (by decide) (fun c_4 => ?_) (fun c_4 => ?_)
    · refine lv_aload_n hx hb d_Model_step_28 rfl (lv_at hl 1 rfl) ?_
      refine lv_iconst (v := (-1)) hx hb d_Model_step_29 rfl ?_
      refine y_put (D := D) (ci := 5) (v := .int (-1)) (ty := .int) (C := R_Model) (T := F_Model) (N := 16) (ws' := wR a k n x0 (-1) tv nx pcs_3 lv_3 cs_3 x b cl_3 cm so ti pu np) hx hb hts i_Model t_Model t_Model_ok n_Model hown hK hP hD hS 0 rfl rfl 13 (by decide) (hts _ k_638) (fun _ h9 => h9) rfl (by decide +kernel) rfl rfl (Nat.le_of_ble_eq_true rfl) d_Model_step_30 rfl (fun H locs hP hD hS => ?_)
      refine lv_aload_n hx hb d_Model_step_33 rfl (lv_at hl 1 rfl) ?_
      refine lv_aload_n hx hb d_Model_step_34 rfl (lv_at hl 1 rfl) ?_
      refine va_get (D := D) (ci := 5) (v := .ref (a 3)) (C := R_Model) (T := F_Model) (N := 16) hx hb hts i_Model hown hK hP 0 rfl rfl 3 (by decide) (hts _ k_628) (fun _ h9 => h9) rfl d_Model_step_35 ?_
      refine lv_aload_n hx hb d_Model_step_38 rfl (lv_at hl 1 rfl) ?_
      refine va_get (D := D) (ci := 5) (v := .int x0) (C := R_Model) (T := F_Model) (N := 16) hx hb hts i_Model hown hK hP 0 rfl rfl 12 (by decide) (hts _ k_637) (fun _ h9 => h9) rfl d_Model_step_39 ?_
      refine y_iald (v := pcs_3 x0.toNatClampNeg) hx hb hK hP 3 2 rfl rfl (vp_01 (ih c_2) (by decide)) rfl d_Model_step_42 ?_
      refine lv_iconst (v := 4) hx hb d_Model_step_43 rfl ?_
      refine lv_iadd hx hb d_Model_step_44 ?_
      refine y_put (D := D) (ci := 5) (v := .int ((pcs_3 x0.toNatClampNeg) + 4)) (ty := .int) (C := R_Model) (T := F_Model) (N := 16) (ws' := wR a k n x0 (-1) tv ((pcs_3 x0.toNatClampNeg) + 4) pcs_3 lv_3 cs_3 x b cl_3 cm so ti pu np) hx hb hts i_Model t_Model t_Model_ok n_Model hown hK hP hD hS 0 rfl rfl 15 (by decide) (hts _ k_640) (fun _ h9 => h9) rfl (by decide +kernel) rfl rfl (Nat.le_of_ble_eq_true rfl) d_Model_step_45 rfl (fun H locs hP hD hS => ?_)
      refine lv_aload_n hx hb d_Model_step_48 rfl (lv_at hl 1 rfl) ?_
      refine xi (wr := []) (W2 := fun u9 => wR a k n x0 u9.1 u9.2 ((pcs_3 x0.toNatClampNeg) + 4) pcs_3 lv_3 cs_3 x b cl_3 cm so ti pu np) (xV (rest := []) ⟨hx, hb, hml, hown, hts⟩ (c_Model_fetch a k n x0 (-1) tv ((pcs_3 x0.toNatClampNeg) + 4) pcs_3 lv_3 cs_3 x b cl_3 cm so ti pu np hn (ih c_2) (int_pc (ih c_2) hpc h_3 c_4)) mw_Model_fetch mv_Model_fetch k_738 ⟨rfl, rfl, Nat.le_of_ble_eq_true rfl, Nat.le_of_ble_eq_true rfl⟩ hK hP hD hS hA hF [0, 1, 2, 3, 4, 5, 6, 7, 8, 9] [0, 1, 2, 3, 4, 5, 6, 7, 8] rfl rfl rfl 0 5 rfl rfl rfl rfl hl.1 rfl (Nat.le_of_ble_eq_true rfl) d_Model_step_49 ⟨Nat.zero_le _, Nat.zero_le _⟩) hP hD hS hA [0, 1, 2, 3, 4, 5, 6, 7, 8, 9] [] [0, 1, 2, 3, 4, 5, 6, 7, 8, 9] rfl rfl rfl (by decide) (fun _ => rfl) rfl (fun r_5 u_5 H locs h_5 hP hD hS => ?_)
      obtain ⟨ca_5, tv_5⟩ := u_5
      dsimp only at hP hD
      refine lv_istore_n (lv' := [(3, .int r_5), (2, .int r_3), (0, .ref (a 0)), (1, .int x0)]) hx hb d_Model_step_52 rfl hl (by decide) rfl (fun ls hl => ?_)
      refine lv_aload_n hx hb d_Model_step_53 rfl (lv_at hl 2 rfl) ?_
      refine va_get (D := D) (ci := 5) (v := .int ca_5) (C := R_Model) (T := F_Model) (N := 16) hx hb hts i_Model hown hK hP 0 rfl rfl 13 (by decide) (hts _ k_638) (fun _ h9 => h9) rfl d_Model_step_54 ?_
      refine lv_iconst (v := (-1)) hx hb d_Model_step_57 rfl ?_
      refine lv_icmp_ne (tgt := 66) hx hb d_Model_step_58 (by decide) (fun c_6 => ?_) (fun c_6 => ?_)
      · refine lv_aload_n hx hb d_Model_step_66 rfl (lv_at hl 2 rfl) ?_
        refine va_get (D := D) (ci := 5) (v := .int ca_5) (C := R_Model) (T := F_Model) (N := 16) hx hb hts i_Model hown hK hP 0 rfl rfl 13 (by decide) (hts _ k_638) (fun _ h9 => h9) rfl d_Model_step_67 ?_
        refine lv_iconst (v := (-1)) hx hb d_Model_step_70 rfl ?_
        refine lv_icmp_ne (tgt := 89) hx hb d_Model_step_71 (by decide) (fun _ => ?_) (fun h9 => absurd h9 c_6)
        refine lv_aload_n hx hb d_Model_step_89 rfl (lv_at hl 2 rfl) ?_
        refine lv_aload_n hx hb d_Model_step_90 rfl (lv_at hl 2 rfl) ?_
        refine va_get (D := D) (ci := 5) (v := .int ca_5) (C := R_Model) (T := F_Model) (N := 16) hx hb hts i_Model hown hK hP 0 rfl rfl 13 (by decide) (hts _ k_638) (fun _ h9 => h9) rfl d_Model_step_91 ?_
        refine lv_aload_n hx hb d_Model_step_94 rfl (lv_at hl 2 rfl) ?_
        refine va_get (D := D) (ci := 5) (v := .int tv_5) (C := R_Model) (T := F_Model) (N := 16) hx hb hts i_Model hown hK hP 0 rfl rfl 14 (by decide) (hts _ k_639) (fun _ h9 => h9) rfl d_Model_step_95 ?_
        refine lv_aload_n hx hb d_Model_step_98 rfl (lv_at hl 2 rfl) ?_
        refine va_get (D := D) (ci := 5) (v := .ref (a 4)) (C := R_Model) (T := F_Model) (N := 16) hx hb hts i_Model hown hK hP 0 rfl rfl 4 (by decide) (hts _ k_629) (fun _ h9 => h9) rfl d_Model_step_99 ?_
        refine lv_aload_n hx hb d_Model_step_102 rfl (lv_at hl 2 rfl) ?_
        refine va_get (D := D) (ci := 5) (v := .int x0) (C := R_Model) (T := F_Model) (N := 16) hx hb hts i_Model hown hK hP 0 rfl rfl 12 (by decide) (hts _ k_637) (fun _ h9 => h9) rfl d_Model_step_103 ?_
        refine y_iald (v := lv_3 x0.toNatClampNeg) hx hb hK hP 4 3 rfl rfl (vp_01 (ih c_2) (by decide)) rfl d_Model_step_106 ?_
        refine lv_iconst (v := 3) hx hb d_Model_step_107 rfl ?_
        refine lv_icmp_ge (tgt := 137) hx hb d_Model_step_108 (by decide) (fun c_8 => ?_) (fun c_8 => ?_)
        · refine lv_iconst (v := 0) hx hb d_Model_step_137 rfl ?_
          refine xv (wr := []) (W2 := fun u9 => wR a k n x0 ca_5 tv_5 ((pcs_3 x0.toNatClampNeg) + 4) u9.1 u9.2.1 u9.2.2.1 x b u9.2.2.2 cm so ti pu np) (xV (rest := []) ⟨hx, hb, hml, hown, hts⟩ (c_Model_take a k n ca_5 tv_5 0 x0 ca_5 tv_5 ((pcs_3 x0.toNatClampNeg) + 4) pcs_3 lv_3 cs_3 x b cl_3 cm so ti pu np hn (ih c_2)) mw_Model_take mv_Model_take k_730 ⟨rfl, rfl, Nat.le_of_ble_eq_true rfl, Nat.le_of_ble_eq_true rfl⟩ hK hP hD hS hA hF [0, 1, 2, 3, 4, 5, 6, 7, 8, 9] [0, 1, 2, 3, 4, 5, 6, 7, 8] rfl rfl rfl 0 5 rfl rfl rfl rfl hl.1 rfl (Nat.le_of_ble_eq_true rfl) d_Model_step_138 ⟨Nat.zero_le _, Nat.zero_le _⟩) hP hD hS hA [0, 1, 2, 3, 4, 5, 6, 7, 8, 9] [] [0, 1, 2, 3, 4, 5, 6, 7, 8, 9] rfl rfl rfl (by decide) (fun _ => rfl) rfl (fun u_9 H locs h_9 hP hD hS => ?_)
          obtain ⟨pcs_9, lv_9, cs_9, cl_9⟩ := u_9
          dsimp only at hP hD
          refine lv_iconst (v := 1) hx hb d_Model_step_141 rfl ?_
          refine lv_aload_n hx hb d_Model_step_142 rfl (lv_at hl 2 rfl) ?_
          refine va_get (D := D) (ci := 5) (v := .int ca_5) (C := R_Model) (T := F_Model) (N := 16) hx hb hts i_Model hown hK hP 0 rfl rfl 13 (by decide) (hts _ k_638) (fun _ h9 => h9) rfl d_Model_step_143 ?_
          refine lv_iadd hx hb d_Model_step_146 ?_
          exact ri (x0, ca_5, tv_5, (pcs_3 x0.toNatClampNeg) + 4, pcs_9, lv_9, cs_9, x, b, cl_9, cm, so, ti, pu, np) hx hb hr hlocks hP hD hS d_Model_step_147 (by simp only [sp_Model_step, h_3, h_5, h_9, if_neg c_2, if_pos c_4, if_neg c_6, if_pos c_8])
        · refine lv_aload_n hx hb d_Model_step_111 rfl (lv_at hl 2 rfl) ?_
          refine lv_aload_n hx hb d_Model_step_112 rfl (lv_at hl 2 rfl) ?_
          refine va_get (D := D) (ci := 5) (v := .int x0) (C := R_Model) (T := F_Model) (N := 16) hx hb hts i_Model hown hK hP 0 rfl rfl 12 (by decide) (hts _ k_637) (fun _ h9 => h9) rfl d_Model_step_113 ?_
          refine lv_sipush (v := 770) hx hb d_Model_step_116 rfl ?_
          refine xi (wr := []) (W2 := fun _ => wR a k n x0 ca_5 tv_5 ((pcs_3 x0.toNatClampNeg) + 4) pcs_3 lv_3 cs_3 x b cl_3 cm so ti pu np) (xV (rest := [.int tv_5, .int ca_5, .ref (a 0)]) ⟨hx, hb, hml, hown, hts⟩ (c_Model_raw a k n x0 770 x0 ca_5 tv_5 ((pcs_3 x0.toNatClampNeg) + 4) pcs_3 lv_3 cs_3 x b cl_3 cm so ti pu np hn (vp_csr (ih c_2) (by unfold vp_in; decide))) mw_Model_raw mv_Model_raw k_714 ⟨rfl, rfl, Nat.le_of_ble_eq_true rfl, Nat.le_of_ble_eq_true rfl⟩ hK hP hD hS hA hF [0, 1, 2, 3, 4, 5, 6, 7, 8, 9] [0, 1, 2, 3, 4, 5, 6, 7, 8] rfl rfl rfl 0 5 rfl rfl rfl rfl hl.1 rfl (Nat.le_of_ble_eq_true rfl) d_Model_step_119 ⟨Nat.zero_le _, Nat.zero_le _⟩) hP hD hS hA [0, 1, 2, 3, 4, 5, 6, 7, 8, 9] [] [0, 1, 2, 3, 4, 5, 6, 7, 8, 9] rfl rfl rfl (by decide) (fun _ => rfl) rfl (fun r_10 _ H locs h_10 hP hD hS => ?_)
          subst h_10
          refine lv_aload_n hx hb d_Model_step_122 rfl (lv_at hl 2 rfl) ?_
          refine va_get (D := D) (ci := 5) (v := .int ca_5) (C := R_Model) (T := F_Model) (N := 16) hx hb hts i_Model hown hK hP 0 rfl rfl 13 (by decide) (hts _ k_638) (fun _ h9 => h9) rfl d_Model_step_123 ?_
          refine y_ishr hx hb d_Model_step_126 ?_
          refine lv_iconst (v := 1) hx hb d_Model_step_127 rfl ?_
          refine lv_iand hx hb d_Model_step_128 ?_
          refine lv_iconst (v := 1) hx hb d_Model_step_129 rfl ?_
          refine lv_icmp_ne (tgt := 137) hx hb d_Model_step_130 (by decide) (fun c_11 => ?_) (fun c_11 => ?_)
          · refine lv_iconst (v := 0) hx hb d_Model_step_137 rfl ?_
            refine xv (wr := []) (W2 := fun u9 => wR a k n x0 ca_5 tv_5 ((pcs_3 x0.toNatClampNeg) + 4) u9.1 u9.2.1 u9.2.2.1 x b u9.2.2.2 cm so ti pu np) (xV (rest := []) ⟨hx, hb, hml, hown, hts⟩ (c_Model_take a k n ca_5 tv_5 0 x0 ca_5 tv_5 ((pcs_3 x0.toNatClampNeg) + 4) pcs_3 lv_3 cs_3 x b cl_3 cm so ti pu np hn (ih c_2)) mw_Model_take mv_Model_take k_730 ⟨rfl, rfl, Nat.le_of_ble_eq_true rfl, Nat.le_of_ble_eq_true rfl⟩ hK hP hD hS hA hF [0, 1, 2, 3, 4, 5, 6, 7, 8, 9] [0, 1, 2, 3, 4, 5, 6, 7, 8] rfl rfl rfl 0 5 rfl rfl rfl rfl hl.1 rfl (Nat.le_of_ble_eq_true rfl) d_Model_step_138 ⟨Nat.zero_le _, Nat.zero_le _⟩) hP hD hS hA [0, 1, 2, 3, 4, 5, 6, 7, 8, 9] [] [0, 1, 2, 3, 4, 5, 6, 7, 8, 9] rfl rfl rfl (by decide) (fun _ => rfl) rfl (fun u_12 H locs h_12 hP hD hS => ?_)
            obtain ⟨pcs_12, lv_12, cs_12, cl_12⟩ := u_12
            dsimp only at hP hD
            refine lv_iconst (v := 1) hx hb d_Model_step_141 rfl ?_
            refine lv_aload_n hx hb d_Model_step_142 rfl (lv_at hl 2 rfl) ?_
            refine va_get (D := D) (ci := 5) (v := .int ca_5) (C := R_Model) (T := F_Model) (N := 16) hx hb hts i_Model hown hK hP 0 rfl rfl 13 (by decide) (hts _ k_638) (fun _ h9 => h9) rfl d_Model_step_143 ?_
            refine lv_iadd hx hb d_Model_step_146 ?_
            exact ri (x0, ca_5, tv_5, (pcs_3 x0.toNatClampNeg) + 4, pcs_12, lv_12, cs_12, x, b, cl_12, cm, so, ti, pu, np) hx hb hr hlocks hP hD hS d_Model_step_147 (by simp only [sp_Model_step, h_3, h_5, h_12, if_neg c_2, if_pos c_4, if_neg c_6, if_neg c_8, if_neg c_11])
          · refine lv_iconst (v := 1) hx hb d_Model_step_133 rfl ?_
            refine lv_goto (tgt := 138) hx hb d_Model_step_134 (by decide) ?_
            refine xv (wr := []) (W2 := fun u9 => wR a k n x0 ca_5 tv_5 ((pcs_3 x0.toNatClampNeg) + 4) u9.1 u9.2.1 u9.2.2.1 x b u9.2.2.2 cm so ti pu np) (xV (rest := []) ⟨hx, hb, hml, hown, hts⟩ (c_Model_take a k n ca_5 tv_5 1 x0 ca_5 tv_5 ((pcs_3 x0.toNatClampNeg) + 4) pcs_3 lv_3 cs_3 x b cl_3 cm so ti pu np hn (ih c_2)) mw_Model_take mv_Model_take k_730 ⟨rfl, rfl, Nat.le_of_ble_eq_true rfl, Nat.le_of_ble_eq_true rfl⟩ hK hP hD hS hA hF [0, 1, 2, 3, 4, 5, 6, 7, 8, 9] [0, 1, 2, 3, 4, 5, 6, 7, 8] rfl rfl rfl 0 5 rfl rfl rfl rfl hl.1 rfl (Nat.le_of_ble_eq_true rfl) d_Model_step_138 ⟨Nat.zero_le _, Nat.zero_le _⟩) hP hD hS hA [0, 1, 2, 3, 4, 5, 6, 7, 8, 9] [] [0, 1, 2, 3, 4, 5, 6, 7, 8, 9] rfl rfl rfl (by decide) (fun _ => rfl) rfl (fun u_13 H locs h_13 hP hD hS => ?_)
            obtain ⟨pcs_13, lv_13, cs_13, cl_13⟩ := u_13
            dsimp only at hP hD
            refine lv_iconst (v := 1) hx hb d_Model_step_141 rfl ?_
            refine lv_aload_n hx hb d_Model_step_142 rfl (lv_at hl 2 rfl) ?_
            refine va_get (D := D) (ci := 5) (v := .int ca_5) (C := R_Model) (T := F_Model) (N := 16) hx hb hts i_Model hown hK hP 0 rfl rfl 13 (by decide) (hts _ k_638) (fun _ h9 => h9) rfl d_Model_step_143 ?_
            refine lv_iadd hx hb d_Model_step_146 ?_
            exact ri (x0, ca_5, tv_5, (pcs_3 x0.toNatClampNeg) + 4, pcs_13, lv_13, cs_13, x, b, cl_13, cm, so, ti, pu, np) hx hb hr hlocks hP hD hS d_Model_step_147 (by simp only [sp_Model_step, h_3, h_5, h_13, if_neg c_2, if_pos c_4, if_neg c_6, if_neg c_8, if_pos c_11])
      · refine lv_aload_n hx hb d_Model_step_61 rfl (lv_at hl 2 rfl) ?_
        refine lv_iload_n hx hb d_Model_step_62 rfl (lv_at hl 0 rfl) ?_
        refine xv (wr := []) (W2 := fun u9 => wR a k n x0 u9.1 u9.2.1 u9.2.2.1 pcs_3 u9.2.2.2.1 u9.2.2.2.2.1 u9.2.2.2.2.2.1 u9.2.2.2.2.2.2.1 u9.2.2.2.2.2.2.2.1 u9.2.2.2.2.2.2.2.2.1 u9.2.2.2.2.2.2.2.2.2.1 u9.2.2.2.2.2.2.2.2.2.2.1 u9.2.2.2.2.2.2.2.2.2.2.2.1 u9.2.2.2.2.2.2.2.2.2.2.2.2) (xV (rest := []) ⟨hx, hb, hml, hown, hts⟩ (c_Model_execute a k n r_5 x0 ca_5 tv_5 ((pcs_3 x0.toNatClampNeg) + 4) pcs_3 lv_3 cs_3 x b cl_3 cm so ti pu np hn (ih c_2) hp) mw_Model_execute mv_Model_execute k_783 ⟨rfl, rfl, Nat.le_of_ble_eq_true rfl, Nat.le_of_ble_eq_true rfl⟩ hK hP hD hS hA hF [0, 1, 2, 3, 4, 5, 6, 7, 8, 9] [0, 1, 2, 3, 4, 5, 6, 7, 8] rfl rfl rfl 0 5 rfl rfl rfl rfl hl.1 rfl (Nat.le_of_ble_eq_true rfl) d_Model_step_63 ⟨Nat.zero_le _, Nat.zero_le _⟩) hP hD hS hA [0, 1, 2, 3, 4, 5, 6, 7, 8, 9] [] [0, 1, 2, 3, 4, 5, 6, 7, 8, 9] rfl rfl rfl (by decide) (fun _ => rfl) rfl (fun u_14 H locs h_14 hP hD hS => ?_)
        obtain ⟨ca_14, tv_14, nx_14, lv_14, cs_14, x_14, b_14, cl_14, cm_14, so_14, ti_14, pu_14, np_14⟩ := u_14
        dsimp only at hP hD
        refine lv_aload_n hx hb d_Model_step_66 rfl (lv_at hl 2 rfl) ?_
        refine va_get (D := D) (ci := 5) (v := .int ca_14) (C := R_Model) (T := F_Model) (N := 16) hx hb hts i_Model hown hK hP 0 rfl rfl 13 (by decide) (hts _ k_638) (fun _ h9 => h9) rfl d_Model_step_67 ?_
        refine lv_iconst (v := (-1)) hx hb d_Model_step_70 rfl ?_
        refine lv_icmp_ne (tgt := 89) hx hb d_Model_step_71 (by decide) (fun c_15 => ?_) (fun c_15 => ?_)
        · refine lv_aload_n hx hb d_Model_step_89 rfl (lv_at hl 2 rfl) ?_
          refine lv_aload_n hx hb d_Model_step_90 rfl (lv_at hl 2 rfl) ?_
          refine va_get (D := D) (ci := 5) (v := .int ca_14) (C := R_Model) (T := F_Model) (N := 16) hx hb hts i_Model hown hK hP 0 rfl rfl 13 (by decide) (hts _ k_638) (fun _ h9 => h9) rfl d_Model_step_91 ?_
          refine lv_aload_n hx hb d_Model_step_94 rfl (lv_at hl 2 rfl) ?_
          refine va_get (D := D) (ci := 5) (v := .int tv_14) (C := R_Model) (T := F_Model) (N := 16) hx hb hts i_Model hown hK hP 0 rfl rfl 14 (by decide) (hts _ k_639) (fun _ h9 => h9) rfl d_Model_step_95 ?_
          refine lv_aload_n hx hb d_Model_step_98 rfl (lv_at hl 2 rfl) ?_
          refine va_get (D := D) (ci := 5) (v := .ref (a 4)) (C := R_Model) (T := F_Model) (N := 16) hx hb hts i_Model hown hK hP 0 rfl rfl 4 (by decide) (hts _ k_629) (fun _ h9 => h9) rfl d_Model_step_99 ?_
          refine lv_aload_n hx hb d_Model_step_102 rfl (lv_at hl 2 rfl) ?_
          refine va_get (D := D) (ci := 5) (v := .int x0) (C := R_Model) (T := F_Model) (N := 16) hx hb hts i_Model hown hK hP 0 rfl rfl 12 (by decide) (hts _ k_637) (fun _ h9 => h9) rfl d_Model_step_103 ?_
          refine y_iald (v := lv_14 x0.toNatClampNeg) hx hb hK hP 4 3 rfl rfl (vp_01 (ih c_2) (by decide)) rfl d_Model_step_106 ?_
          refine lv_iconst (v := 3) hx hb d_Model_step_107 rfl ?_
          refine lv_icmp_ge (tgt := 137) hx hb d_Model_step_108 (by decide) (fun c_16 => ?_) (fun c_16 => ?_)
          · refine lv_iconst (v := 0) hx hb d_Model_step_137 rfl ?_
            refine xv (wr := []) (W2 := fun u9 => wR a k n x0 ca_14 tv_14 nx_14 u9.1 u9.2.1 u9.2.2.1 x_14 b_14 u9.2.2.2 cm_14 so_14 ti_14 pu_14 np_14) (xV (rest := []) ⟨hx, hb, hml, hown, hts⟩ (c_Model_take a k n ca_14 tv_14 0 x0 ca_14 tv_14 nx_14 pcs_3 lv_14 cs_14 x_14 b_14 cl_14 cm_14 so_14 ti_14 pu_14 np_14 hn (ih c_2)) mw_Model_take mv_Model_take k_730 ⟨rfl, rfl, Nat.le_of_ble_eq_true rfl, Nat.le_of_ble_eq_true rfl⟩ hK hP hD hS hA hF [0, 1, 2, 3, 4, 5, 6, 7, 8, 9] [0, 1, 2, 3, 4, 5, 6, 7, 8] rfl rfl rfl 0 5 rfl rfl rfl rfl hl.1 rfl (Nat.le_of_ble_eq_true rfl) d_Model_step_138 ⟨Nat.zero_le _, Nat.zero_le _⟩) hP hD hS hA [0, 1, 2, 3, 4, 5, 6, 7, 8, 9] [] [0, 1, 2, 3, 4, 5, 6, 7, 8, 9] rfl rfl rfl (by decide) (fun _ => rfl) rfl (fun u_17 H locs h_17 hP hD hS => ?_)
            obtain ⟨pcs_17, lv_17, cs_17, cl_17⟩ := u_17
            dsimp only at hP hD
            refine lv_iconst (v := 1) hx hb d_Model_step_141 rfl ?_
            refine lv_aload_n hx hb d_Model_step_142 rfl (lv_at hl 2 rfl) ?_
            refine va_get (D := D) (ci := 5) (v := .int ca_14) (C := R_Model) (T := F_Model) (N := 16) hx hb hts i_Model hown hK hP 0 rfl rfl 13 (by decide) (hts _ k_638) (fun _ h9 => h9) rfl d_Model_step_143 ?_
            refine lv_iadd hx hb d_Model_step_146 ?_
            exact ri (x0, ca_14, tv_14, nx_14, pcs_17, lv_17, cs_17, x_14, b_14, cl_17, cm_14, so_14, ti_14, pu_14, np_14) hx hb hr hlocks hP hD hS d_Model_step_147 (by simp only [sp_Model_step, h_3, h_5, h_14, h_17, if_neg c_2, if_pos c_4, if_pos c_6, if_neg c_15, if_pos c_16])
          · refine lv_aload_n hx hb d_Model_step_111 rfl (lv_at hl 2 rfl) ?_
            refine lv_aload_n hx hb d_Model_step_112 rfl (lv_at hl 2 rfl) ?_
            refine va_get (D := D) (ci := 5) (v := .int x0) (C := R_Model) (T := F_Model) (N := 16) hx hb hts i_Model hown hK hP 0 rfl rfl 12 (by decide) (hts _ k_637) (fun _ h9 => h9) rfl d_Model_step_113 ?_
            refine lv_sipush (v := 770) hx hb d_Model_step_116 rfl ?_
            refine xi (wr := []) (W2 := fun _ => wR a k n x0 ca_14 tv_14 nx_14 pcs_3 lv_14 cs_14 x_14 b_14 cl_14 cm_14 so_14 ti_14 pu_14 np_14) (xV (rest := [.int tv_14, .int ca_14, .ref (a 0)]) ⟨hx, hb, hml, hown, hts⟩ (c_Model_raw a k n x0 770 x0 ca_14 tv_14 nx_14 pcs_3 lv_14 cs_14 x_14 b_14 cl_14 cm_14 so_14 ti_14 pu_14 np_14 hn (vp_csr (ih c_2) (by unfold vp_in; decide))) mw_Model_raw mv_Model_raw k_714 ⟨rfl, rfl, Nat.le_of_ble_eq_true rfl, Nat.le_of_ble_eq_true rfl⟩ hK hP hD hS hA hF [0, 1, 2, 3, 4, 5, 6, 7, 8, 9] [0, 1, 2, 3, 4, 5, 6, 7, 8] rfl rfl rfl 0 5 rfl rfl rfl rfl hl.1 rfl (Nat.le_of_ble_eq_true rfl) d_Model_step_119 ⟨Nat.zero_le _, Nat.zero_le _⟩) hP hD hS hA [0, 1, 2, 3, 4, 5, 6, 7, 8, 9] [] [0, 1, 2, 3, 4, 5, 6, 7, 8, 9] rfl rfl rfl (by decide) (fun _ => rfl) rfl (fun r_18 _ H locs h_18 hP hD hS => ?_)
            subst h_18
            refine lv_aload_n hx hb d_Model_step_122 rfl (lv_at hl 2 rfl) ?_
            refine va_get (D := D) (ci := 5) (v := .int ca_14) (C := R_Model) (T := F_Model) (N := 16) hx hb hts i_Model hown hK hP 0 rfl rfl 13 (by decide) (hts _ k_638) (fun _ h9 => h9) rfl d_Model_step_123 ?_
            refine y_ishr hx hb d_Model_step_126 ?_
            refine lv_iconst (v := 1) hx hb d_Model_step_127 rfl ?_
            refine lv_iand hx hb d_Model_step_128 ?_
            refine lv_iconst (v := 1) hx hb d_Model_step_129 rfl ?_
            refine lv_icmp_ne (tgt := 137) hx hb d_Model_step_130 (by decide) (fun c_19 => ?_) (fun c_19 => ?_)
            · refine lv_iconst (v := 0) hx hb d_Model_step_137 rfl ?_
              refine xv (wr := []) (W2 := fun u9 => wR a k n x0 ca_14 tv_14 nx_14 u9.1 u9.2.1 u9.2.2.1 x_14 b_14 u9.2.2.2 cm_14 so_14 ti_14 pu_14 np_14) (xV (rest := []) ⟨hx, hb, hml, hown, hts⟩ (c_Model_take a k n ca_14 tv_14 0 x0 ca_14 tv_14 nx_14 pcs_3 lv_14 cs_14 x_14 b_14 cl_14 cm_14 so_14 ti_14 pu_14 np_14 hn (ih c_2)) mw_Model_take mv_Model_take k_730 ⟨rfl, rfl, Nat.le_of_ble_eq_true rfl, Nat.le_of_ble_eq_true rfl⟩ hK hP hD hS hA hF [0, 1, 2, 3, 4, 5, 6, 7, 8, 9] [0, 1, 2, 3, 4, 5, 6, 7, 8] rfl rfl rfl 0 5 rfl rfl rfl rfl hl.1 rfl (Nat.le_of_ble_eq_true rfl) d_Model_step_138 ⟨Nat.zero_le _, Nat.zero_le _⟩) hP hD hS hA [0, 1, 2, 3, 4, 5, 6, 7, 8, 9] [] [0, 1, 2, 3, 4, 5, 6, 7, 8, 9] rfl rfl rfl (by decide) (fun _ => rfl) rfl (fun u_20 H locs h_20 hP hD hS => ?_)
              obtain ⟨pcs_20, lv_20, cs_20, cl_20⟩ := u_20
              dsimp only at hP hD
              refine lv_iconst (v := 1) hx hb d_Model_step_141 rfl ?_
              refine lv_aload_n hx hb d_Model_step_142 rfl (lv_at hl 2 rfl) ?_
              refine va_get (D := D) (ci := 5) (v := .int ca_14) (C := R_Model) (T := F_Model) (N := 16) hx hb hts i_Model hown hK hP 0 rfl rfl 13 (by decide) (hts _ k_638) (fun _ h9 => h9) rfl d_Model_step_143 ?_
              refine lv_iadd hx hb d_Model_step_146 ?_
              exact ri (x0, ca_14, tv_14, nx_14, pcs_20, lv_20, cs_20, x_14, b_14, cl_20, cm_14, so_14, ti_14, pu_14, np_14) hx hb hr hlocks hP hD hS d_Model_step_147 (by simp only [sp_Model_step, h_3, h_5, h_14, h_20, if_neg c_2, if_pos c_4, if_pos c_6, if_neg c_15, if_neg c_16, if_neg c_19])
            · refine lv_iconst (v := 1) hx hb d_Model_step_133 rfl ?_
              refine lv_goto (tgt := 138) hx hb d_Model_step_134 (by decide) ?_
              refine xv (wr := []) (W2 := fun u9 => wR a k n x0 ca_14 tv_14 nx_14 u9.1 u9.2.1 u9.2.2.1 x_14 b_14 u9.2.2.2 cm_14 so_14 ti_14 pu_14 np_14) (xV (rest := []) ⟨hx, hb, hml, hown, hts⟩ (c_Model_take a k n ca_14 tv_14 1 x0 ca_14 tv_14 nx_14 pcs_3 lv_14 cs_14 x_14 b_14 cl_14 cm_14 so_14 ti_14 pu_14 np_14 hn (ih c_2)) mw_Model_take mv_Model_take k_730 ⟨rfl, rfl, Nat.le_of_ble_eq_true rfl, Nat.le_of_ble_eq_true rfl⟩ hK hP hD hS hA hF [0, 1, 2, 3, 4, 5, 6, 7, 8, 9] [0, 1, 2, 3, 4, 5, 6, 7, 8] rfl rfl rfl 0 5 rfl rfl rfl rfl hl.1 rfl (Nat.le_of_ble_eq_true rfl) d_Model_step_138 ⟨Nat.zero_le _, Nat.zero_le _⟩) hP hD hS hA [0, 1, 2, 3, 4, 5, 6, 7, 8, 9] [] [0, 1, 2, 3, 4, 5, 6, 7, 8, 9] rfl rfl rfl (by decide) (fun _ => rfl) rfl (fun u_21 H locs h_21 hP hD hS => ?_)
              obtain ⟨pcs_21, lv_21, cs_21, cl_21⟩ := u_21
              dsimp only at hP hD
              refine lv_iconst (v := 1) hx hb d_Model_step_141 rfl ?_
              refine lv_aload_n hx hb d_Model_step_142 rfl (lv_at hl 2 rfl) ?_
              refine va_get (D := D) (ci := 5) (v := .int ca_14) (C := R_Model) (T := F_Model) (N := 16) hx hb hts i_Model hown hK hP 0 rfl rfl 13 (by decide) (hts _ k_638) (fun _ h9 => h9) rfl d_Model_step_143 ?_
              refine lv_iadd hx hb d_Model_step_146 ?_
              exact ri (x0, ca_14, tv_14, nx_14, pcs_21, lv_21, cs_21, x_14, b_14, cl_21, cm_14, so_14, ti_14, pu_14, np_14) hx hb hr hlocks hP hD hS d_Model_step_147 (by simp only [sp_Model_step, h_3, h_5, h_14, h_21, if_neg c_2, if_pos c_4, if_pos c_6, if_neg c_15, if_neg c_16, if_pos c_19])
        · refine lv_aload_n hx hb d_Model_step_74 rfl (lv_at hl 2 rfl) ?_
          refine va_get (D := D) (ci := 5) (v := .ref (a 3)) (C := R_Model) (T := F_Model) (N := 16) hx hb hts i_Model hown hK hP 0 rfl rfl 3 (by decide) (hts _ k_628) (fun _ h9 => h9) rfl d_Model_step_75 ?_
          refine lv_aload_n hx hb d_Model_step_78 rfl (lv_at hl 2 rfl) ?_
          refine va_get (D := D) (ci := 5) (v := .int x0) (C := R_Model) (T := F_Model) (N := 16) hx hb hts i_Model hown hK hP 0 rfl rfl 12 (by decide) (hts _ k_637) (fun _ h9 => h9) rfl d_Model_step_79 ?_
          refine lv_aload_n hx hb d_Model_step_82 rfl (lv_at hl 2 rfl) ?_
          refine va_get (D := D) (ci := 5) (v := .int nx_14) (C := R_Model) (T := F_Model) (N := 16) hx hb hts i_Model hown hK hP 0 rfl rfl 15 (by decide) (hts _ k_640) (fun _ h9 => h9) rfl d_Model_step_83 ?_
          refine y_iast (ws' := wR a k n x0 ca_14 tv_14 nx_14 (upd pcs_3 x0.toNatClampNeg nx_14) lv_14 cs_14 x_14 b_14 cl_14 cm_14 so_14 ti_14 pu_14 np_14) hx hb hK hP hD hS 3 2 rfl rfl (vp_01 (ih c_2) (by decide)) d_Model_step_86 rfl (fun H locs hP hD hS => ?_)
          refine lv_iconst (v := 0) hx hb d_Model_step_87 rfl ?_
          exact ri (x0, ca_14, tv_14, nx_14, (upd pcs_3 x0.toNatClampNeg nx_14), lv_14, cs_14, x_14, b_14, cl_14, cm_14, so_14, ti_14, pu_14, np_14) hx hb hr hlocks hP hD hS d_Model_step_88 (by simp only [sp_Model_step, h_3, h_5, h_14, if_neg c_2, if_pos c_4, if_pos c_6, if_pos c_15])
    · refine lv_bipush (v := 64) hx hb d_Model_step_23 rfl ?_
      refine lv_iload_n hx hb d_Model_step_25 rfl (lv_at hl 0 rfl) ?_
      refine lv_iadd hx hb d_Model_step_26 ?_
      exact ri (x0, ca, tv, nx, pcs_3, lv_3, cs_3, x, b, cl_3, cm, so, ti, pu, np) hx hb hr hlocks hP hD hS d_Model_step_27 (by simp only [sp_Model_step, h_3, if_neg c_2, if_neg c_4])
  · refine lv_iconst (v := (-1)) hx hb d_Model_step_7 rfl ?_
    exact ri (h, ca, tv, nx, pcs, lv, cs, x, b, cl, cm, so, ti, pu, np) hx hb hr hlocks hP hD hS d_Model_step_8 (by simp only [sp_Model_step, if_pos c_2])
def sp_Model_tick  (ti : Int64) : Int64 :=
  (ti + 1)
set_option maxHeartbeats 4000000 in
set_option maxRecDepth 100000 in
theorem c_Model_tick {l : Launch} {D : va_G} {g : Nat → Nat} (a : Nat → Nat) (k : Nat → ClassId) (n : Nat)  (h ca tv nx : Int32) (pcs lv cs x b cl : Nat → Int32) (cm : Nat → Int64) (so : Nat → Int32) (ti : Int64) (pu : Nat → Int32) (np : Int32) (hn : n ≤ 4096) : CT l D g y_Model_tick b_Model_tick 1 none (rD 0) [.ref (a 0)] (wR a k n h ca tv nx pcs lv cs x b cl cm so ti pu np) (tyR k) (Qv D (fun (u : Int64) => sp_Model_tick ti = u) (fun u => wR a k n h ca tv nx pcs lv cs x b cl cm so u pu np)) := by
  refine CT.of rfl (Nat.le_of_ble_eq_true rfl) (fun p e s m below meth c A ls hx hb hr hml hts hown hlocks hA hP hK hD hF hS hl => ?_)
  have hl : lv_has ls 1 [(0, .ref (a 0))] := hl
  refine lv_aload_n hx hb d_Model_tick_0 rfl (lv_at hl 0 rfl) ?_
  refine lv_dup hx hb d_Model_tick_1 rfl ?_
  refine va_get (D := D) (ci := 5) (v := .long ti) (C := R_Model) (T := F_Model) (N := 16) hx hb hts i_Model hown hK hP 0 rfl rfl 9 (by decide) (hts _ k_634) (fun _ h9 => h9) rfl d_Model_tick_2 ?_
  refine lv_lconst (v := 1) hx hb d_Model_tick_5 rfl ?_
  refine lv_ladd hx hb d_Model_tick_6 ?_
  refine y_put (D := D) (ci := 5) (v := .long (ti + 1)) (ty := .long) (C := R_Model) (T := F_Model) (N := 16) (ws' := wR a k n h ca tv nx pcs lv cs x b cl cm so (ti + 1) pu np) hx hb hts i_Model t_Model t_Model_ok n_Model hown hK hP hD hS 0 rfl rfl 9 (by decide) (hts _ k_634) (fun _ h9 => h9) rfl (by decide +kernel) rfl rfl (Nat.le_of_ble_eq_true rfl) d_Model_tick_7 rfl (fun H locs hP hD hS => ?_)
  exact rv (ti + 1) hx hb hr hlocks hP hD hS d_Model_tick_10 (by simp only [sp_Model_tick])
def sp_Model_register (x0 : Int32) (x1 : Int32) (x : Nat → Int32) : Int32 :=
  if (sp_Model_isHart x0) = 0 then
    0
  else
    if x1 < 0 then
      0
    else
      if 32 ≤ x1 then
        0
      else
        x (((32 * x0) + x1).toNatClampNeg)
set_option maxHeartbeats 4000000 in
set_option maxRecDepth 100000 in
theorem c_Model_register {l : Launch} {D : va_G} {g : Nat → Nat} (a : Nat → Nat) (k : Nat → ClassId) (n : Nat) (x0 : Int32) (x1 : Int32) (h ca tv nx : Int32) (pcs lv cs x b cl : Nat → Int32) (cm : Nat → Int64) (so : Nat → Int32) (ti : Int64) (pu : Nat → Int32) (np : Int32) (hn : n ≤ 4096) : CT l D g y_Model_register b_Model_register 3 (some .int) (rD 1) [.ref (a 0), .int x0, .int x1] (wR a k n h ca tv nx pcs lv cs x b cl cm so ti pu np) (tyR k) (Qi D (fun (r : Int32) (_ : Unit) => sp_Model_register x0 x1 x = r) (fun _ => wR a k n h ca tv nx pcs lv cs x b cl cm so ti pu np)) := by
  refine CT.of rfl (Nat.le_of_ble_eq_true rfl) (fun p e s m below meth c A ls hx hb hr hml hts hown hlocks hA hP hK hD hF hS hl => ?_)
  have hl : lv_has ls 3 [(0, .ref (a 0)), (1, .int x0), (2, .int x1)] := hl
  refine lv_iload_n hx hb d_Model_register_0 rfl (lv_at hl 1 rfl) ?_
  refine xi (wr := [((a 0), .inr (5, [.int (nI n), .ref (a 1), .ref (a 2), .ref (a 3), .ref (a 4), .ref (a 5), .ref (a 6), .ref (a 7), .ref (a 8), .long ti, .ref (a 9), .int np, .int h, .int ca, .int tv, .int nx])), ((a 1), .inl ((k 0), 16384, .inl b)), ((a 2), .inl ((k 1), 64, .inl x)), ((a 3), .inl ((k 2), 2, .inl pcs)), ((a 4), .inl ((k 3), 2, .inl lv)), ((a 5), .inl ((k 4), 8192, .inl cs)), ((a 6), .inl ((k 5), 2, .inl cl)), ((a 7), .inl ((k 6), 2, .inr (.inl cm))), ((a 8), .inl ((k 7), 2, .inl so)), ((a 9), .inl ((k 8), 256, .inl pu))]) (W2 := fun _ => wR a k n h ca tv nx pcs lv cs x b cl cm so ti pu np) (xS (rest := []) ⟨hx, hb, hml, hown, hts⟩ (c_Model_isHart x0) mw_Model_isHart ms_Model_isHart k_702 ⟨rfl, rfl, Nat.le_of_ble_eq_true rfl, Nat.le_of_ble_eq_true rfl⟩ hK hP hD hS hA hF [] [] rfl rfl rfl rfl hl.1 rfl (Nat.le_of_ble_eq_true rfl) d_Model_register_1 ⟨Nat.zero_le _, Nat.zero_le _⟩) hP hD hS hA [] [0, 1, 2, 3, 4, 5, 6, 7, 8, 9] [0, 1, 2, 3, 4, 5, 6, 7, 8, 9] rfl rfl rfl (by decide) (fun _ => rfl) rfl (fun r_1 _ H locs h_1 hP hD hS => ?_)
  obtain ⟨h_1, z_1⟩ := h_1
  subst h_1
  refine lv_if_eq (tgt := 31) hx hb d_Model_register_4 (by decide) (fun c_2 => ?_) (fun c_2 => ?_)
  · refine lv_iconst (v := 0) hx hb d_Model_register_31 rfl ?_
    exact ri () hx hb hr hlocks hP hD hS d_Model_register_32 (by simp only [sp_Model_register, if_pos c_2])
  · refine lv_iload_n hx hb d_Model_register_7 rfl (lv_at hl 2 rfl) ?_
    refine lv_if_lt (tgt := 31) hx hb d_Model_register_8 (by decide) (fun c_3 => ?_) (fun c_3 => ?_)
    · refine lv_iconst (v := 0) hx hb d_Model_register_31 rfl ?_
      exact ri () hx hb hr hlocks hP hD hS d_Model_register_32 (by simp only [sp_Model_register, if_neg c_2, if_pos c_3])
    · refine lv_iload_n hx hb d_Model_register_11 rfl (lv_at hl 2 rfl) ?_
      refine lv_bipush (v := 32) hx hb d_Model_register_12 rfl ?_
      refine lv_icmp_ge (tgt := 31) hx hb d_Model_register_14 (by decide) (fun c_4 => ?_) (fun c_4 => ?_)
      · refine lv_iconst (v := 0) hx hb d_Model_register_31 rfl ?_
        exact ri () hx hb hr hlocks hP hD hS d_Model_register_32 (by simp only [sp_Model_register, if_neg c_2, if_neg c_3, if_pos c_4])
      · refine lv_aload_n hx hb d_Model_register_17 rfl (lv_at hl 0 rfl) ?_
        refine va_get (D := D) (ci := 5) (v := .ref (a 2)) (C := R_Model) (T := F_Model) (N := 16) hx hb hts i_Model hown hK hP 0 rfl rfl 2 (by decide) (hts _ k_627) (fun _ h9 => h9) rfl d_Model_register_18 ?_
        refine lv_bipush (v := 32) hx hb d_Model_register_21 rfl ?_
        refine lv_iload_n hx hb d_Model_register_23 rfl (lv_at hl 1 rfl) ?_
        refine lv_imul hx hb d_Model_register_24 ?_
        refine lv_iload_n hx hb d_Model_register_25 rfl (lv_at hl 2 rfl) ?_
        refine lv_iadd hx hb d_Model_register_26 ?_
        refine y_iald (v := x (((32 * x0) + x1).toNatClampNeg)) hx hb hK hP 2 1 rfl rfl (vp_xr (ih c_2) c_3 c_4) rfl d_Model_register_27 ?_
        refine lv_goto (tgt := 32) hx hb d_Model_register_28 (by decide) ?_
        exact ri () hx hb hr hlocks hP hD hS d_Model_register_32 (by simp only [sp_Model_register, if_neg c_2, if_neg c_3, if_neg c_4])
def sp_Model_set (x0 : Int32) (x1 : Int32) (x2 : Int32) (x : Nat → Int32) : Int32 × (Nat → Int32) :=
  if (sp_Model_isHart x0) = 0 then
    (0, x)
  else
    if x1 < 1 then
      (0, x)
    else
      if x1 ≤ 31 then
        (1, (upd x (((32 * x0) + x1).toNatClampNeg) x2))
      else
        (0, x)
set_option maxHeartbeats 4000000 in
set_option maxRecDepth 100000 in
theorem c_Model_set {l : Launch} {D : va_G} {g : Nat → Nat} (a : Nat → Nat) (k : Nat → ClassId) (n : Nat) (x0 : Int32) (x1 : Int32) (x2 : Int32) (h ca tv nx : Int32) (pcs lv cs x b cl : Nat → Int32) (cm : Nat → Int64) (so : Nat → Int32) (ti : Int64) (pu : Nat → Int32) (np : Int32) (hn : n ≤ 4096) : CT l D g y_Model_set b_Model_set 4 (some .boolean) (rD 1) [.ref (a 0), .int x0, .int x1, .int x2] (wR a k n h ca tv nx pcs lv cs x b cl cm so ti pu np) (tyR k) (Qi D (fun (r : Int32) (u : Nat → Int32) => sp_Model_set x0 x1 x2 x = (r, u) ∧ (r = 0 ∨ r = 1)) (fun u => wR a k n h ca tv nx pcs lv cs u b cl cm so ti pu np)) := by
  refine CT.of rfl (Nat.le_of_ble_eq_true rfl) (fun p e s m below meth c A ls hx hb hr hml hts hown hlocks hA hP hK hD hF hS hl => ?_)
  have hl : lv_has ls 4 [(0, .ref (a 0)), (1, .int x0), (2, .int x1), (3, .int x2)] := hl
  refine lv_iload_n hx hb d_Model_set_0 rfl (lv_at hl 1 rfl) ?_
  refine xi (wr := [((a 0), .inr (5, [.int (nI n), .ref (a 1), .ref (a 2), .ref (a 3), .ref (a 4), .ref (a 5), .ref (a 6), .ref (a 7), .ref (a 8), .long ti, .ref (a 9), .int np, .int h, .int ca, .int tv, .int nx])), ((a 1), .inl ((k 0), 16384, .inl b)), ((a 2), .inl ((k 1), 64, .inl x)), ((a 3), .inl ((k 2), 2, .inl pcs)), ((a 4), .inl ((k 3), 2, .inl lv)), ((a 5), .inl ((k 4), 8192, .inl cs)), ((a 6), .inl ((k 5), 2, .inl cl)), ((a 7), .inl ((k 6), 2, .inr (.inl cm))), ((a 8), .inl ((k 7), 2, .inl so)), ((a 9), .inl ((k 8), 256, .inl pu))]) (W2 := fun _ => wR a k n h ca tv nx pcs lv cs x b cl cm so ti pu np) (xS (rest := []) ⟨hx, hb, hml, hown, hts⟩ (c_Model_isHart x0) mw_Model_isHart ms_Model_isHart k_702 ⟨rfl, rfl, Nat.le_of_ble_eq_true rfl, Nat.le_of_ble_eq_true rfl⟩ hK hP hD hS hA hF [] [] rfl rfl rfl rfl hl.1 rfl (Nat.le_of_ble_eq_true rfl) d_Model_set_1 ⟨Nat.zero_le _, Nat.zero_le _⟩) hP hD hS hA [] [0, 1, 2, 3, 4, 5, 6, 7, 8, 9] [0, 1, 2, 3, 4, 5, 6, 7, 8, 9] rfl rfl rfl (by decide) (fun _ => rfl) rfl (fun r_1 _ H locs h_1 hP hD hS => ?_)
  obtain ⟨h_1, z_1⟩ := h_1
  subst h_1
  refine lv_if_eq (tgt := 18) hx hb d_Model_set_4 (by decide) (fun c_2 => ?_) (fun c_2 => ?_)
  · refine lv_iconst (v := 0) hx hb d_Model_set_18 rfl ?_
    exact rz x hx hb hr hlocks rfl hP hD hS d_Model_set_19 ⟨by simp only [sp_Model_set, if_pos c_2], Or.inl rfl⟩
  · refine lv_iload_n hx hb d_Model_set_7 rfl (lv_at hl 2 rfl) ?_
    refine lv_iconst (v := 1) hx hb d_Model_set_8 rfl ?_
    refine lv_icmp_lt (tgt := 18) hx hb d_Model_set_9 (by decide) (fun c_3 => ?_) (fun c_3 => ?_)
    · refine lv_iconst (v := 0) hx hb d_Model_set_18 rfl ?_
      exact rz x hx hb hr hlocks rfl hP hD hS d_Model_set_19 ⟨by simp only [sp_Model_set, if_neg c_2, if_pos c_3], Or.inl rfl⟩
    · refine lv_iload_n hx hb d_Model_set_12 rfl (lv_at hl 2 rfl) ?_
      refine lv_bipush (v := 31) hx hb d_Model_set_13 rfl ?_
      refine lv_icmp_le (tgt := 20) hx hb d_Model_set_15 (by decide) (fun c_4 => ?_) (fun c_4 => ?_)
      · refine lv_aload_n hx hb d_Model_set_20 rfl (lv_at hl 0 rfl) ?_
        refine va_get (D := D) (ci := 5) (v := .ref (a 2)) (C := R_Model) (T := F_Model) (N := 16) hx hb hts i_Model hown hK hP 0 rfl rfl 2 (by decide) (hts _ k_627) (fun _ h9 => h9) rfl d_Model_set_21 ?_
        refine lv_bipush (v := 32) hx hb d_Model_set_24 rfl ?_
        refine lv_iload_n hx hb d_Model_set_26 rfl (lv_at hl 1 rfl) ?_
        refine lv_imul hx hb d_Model_set_27 ?_
        refine lv_iload_n hx hb d_Model_set_28 rfl (lv_at hl 2 rfl) ?_
        refine lv_iadd hx hb d_Model_set_29 ?_
        refine lv_iload_n hx hb d_Model_set_30 rfl (lv_at hl 3 rfl) ?_
        refine y_iast (ws' := wR a k n h ca tv nx pcs lv cs (upd x (((32 * x0) + x1).toNatClampNeg) x2) b cl cm so ti pu np) hx hb hK hP hD hS 2 1 rfl rfl (vp_xs (ih c_2) c_3 c_4) d_Model_set_31 rfl (fun H locs hP hD hS => ?_)
        refine lv_iconst (v := 1) hx hb d_Model_set_32 rfl ?_
        exact rz (upd x (((32 * x0) + x1).toNatClampNeg) x2) hx hb hr hlocks rfl hP hD hS d_Model_set_33 ⟨by simp only [sp_Model_set, if_neg c_2, if_neg c_3, if_pos c_4], Or.inr rfl⟩
      · refine lv_iconst (v := 0) hx hb d_Model_set_18 rfl ?_
        exact rz x hx hb hr hlocks rfl hP hD hS d_Model_set_19 ⟨by simp only [sp_Model_set, if_neg c_2, if_neg c_3, if_neg c_4], Or.inl rfl⟩
def sp_Model_pc (x0 : Int32) (pcs : Nat → Int32) : Int32 :=
  if (sp_Model_isHart x0) = 0 then
    0
  else
    pcs x0.toNatClampNeg
set_option maxHeartbeats 4000000 in
set_option maxRecDepth 100000 in
theorem c_Model_pc {l : Launch} {D : va_G} {g : Nat → Nat} (a : Nat → Nat) (k : Nat → ClassId) (n : Nat) (x0 : Int32) (h ca tv nx : Int32) (pcs lv cs x b cl : Nat → Int32) (cm : Nat → Int64) (so : Nat → Int32) (ti : Int64) (pu : Nat → Int32) (np : Int32) (hn : n ≤ 4096) : CT l D g y_Model_pc b_Model_pc 2 (some .int) (rD 1) [.ref (a 0), .int x0] (wR a k n h ca tv nx pcs lv cs x b cl cm so ti pu np) (tyR k) (Qi D (fun (r : Int32) (_ : Unit) => sp_Model_pc x0 pcs = r) (fun _ => wR a k n h ca tv nx pcs lv cs x b cl cm so ti pu np)) := by
  refine CT.of rfl (Nat.le_of_ble_eq_true rfl) (fun p e s m below meth c A ls hx hb hr hml hts hown hlocks hA hP hK hD hF hS hl => ?_)
  have hl : lv_has ls 2 [(0, .ref (a 0)), (1, .int x0)] := hl
  refine lv_iload_n hx hb d_Model_pc_0 rfl (lv_at hl 1 rfl) ?_
  refine xi (wr := [((a 0), .inr (5, [.int (nI n), .ref (a 1), .ref (a 2), .ref (a 3), .ref (a 4), .ref (a 5), .ref (a 6), .ref (a 7), .ref (a 8), .long ti, .ref (a 9), .int np, .int h, .int ca, .int tv, .int nx])), ((a 1), .inl ((k 0), 16384, .inl b)), ((a 2), .inl ((k 1), 64, .inl x)), ((a 3), .inl ((k 2), 2, .inl pcs)), ((a 4), .inl ((k 3), 2, .inl lv)), ((a 5), .inl ((k 4), 8192, .inl cs)), ((a 6), .inl ((k 5), 2, .inl cl)), ((a 7), .inl ((k 6), 2, .inr (.inl cm))), ((a 8), .inl ((k 7), 2, .inl so)), ((a 9), .inl ((k 8), 256, .inl pu))]) (W2 := fun _ => wR a k n h ca tv nx pcs lv cs x b cl cm so ti pu np) (xS (rest := []) ⟨hx, hb, hml, hown, hts⟩ (c_Model_isHart x0) mw_Model_isHart ms_Model_isHart k_702 ⟨rfl, rfl, Nat.le_of_ble_eq_true rfl, Nat.le_of_ble_eq_true rfl⟩ hK hP hD hS hA hF [] [] rfl rfl rfl rfl hl.1 rfl (Nat.le_of_ble_eq_true rfl) d_Model_pc_1 ⟨Nat.zero_le _, Nat.zero_le _⟩) hP hD hS hA [] [0, 1, 2, 3, 4, 5, 6, 7, 8, 9] [0, 1, 2, 3, 4, 5, 6, 7, 8, 9] rfl rfl rfl (by decide) (fun _ => rfl) rfl (fun r_1 _ H locs h_1 hP hD hS => ?_)
  obtain ⟨h_1, z_1⟩ := h_1
  subst h_1
  refine lv_if_eq (tgt := 16) hx hb d_Model_pc_4 (by decide) (fun c_2 => ?_) (fun c_2 => ?_)
  · refine lv_iconst (v := 0) hx hb d_Model_pc_16 rfl ?_
    exact ri () hx hb hr hlocks hP hD hS d_Model_pc_17 (by simp only [sp_Model_pc, if_pos c_2])
  · refine lv_aload_n hx hb d_Model_pc_7 rfl (lv_at hl 0 rfl) ?_
    refine va_get (D := D) (ci := 5) (v := .ref (a 3)) (C := R_Model) (T := F_Model) (N := 16) hx hb hts i_Model hown hK hP 0 rfl rfl 3 (by decide) (hts _ k_628) (fun _ h9 => h9) rfl d_Model_pc_8 ?_
    refine lv_iload_n hx hb d_Model_pc_11 rfl (lv_at hl 1 rfl) ?_
    refine y_iald (v := pcs x0.toNatClampNeg) hx hb hK hP 3 2 rfl rfl (vp_01 (ih c_2) (by decide)) rfl d_Model_pc_12 ?_
    refine lv_goto (tgt := 17) hx hb d_Model_pc_13 (by decide) ?_
    exact ri () hx hb hr hlocks hP hD hS d_Model_pc_17 (by simp only [sp_Model_pc, if_neg c_2])
def sp_Model_csr (x0 : Int32) (x1 : Int32) (cs : Nat → Int32) (cm : Nat → Int64) (so : Nat → Int32) (ti : Int64) : Int32 :=
  if (sp_Model_isHart x0) = 0 then
    0
  else
    if (sp_Model_isCsr x1) = 0 then
      0
    else
      sp_Model_read x0 x1 cs cm so ti
set_option maxHeartbeats 4000000 in
set_option maxRecDepth 100000 in
theorem c_Model_csr {l : Launch} {D : va_G} {g : Nat → Nat} (a : Nat → Nat) (k : Nat → ClassId) (n : Nat) (x0 : Int32) (x1 : Int32) (h ca tv nx : Int32) (pcs lv cs x b cl : Nat → Int32) (cm : Nat → Int64) (so : Nat → Int32) (ti : Int64) (pu : Nat → Int32) (np : Int32) (hn : n ≤ 4096) : CT l D g y_Model_csr b_Model_csr 3 (some .int) (rD 2) [.ref (a 0), .int x0, .int x1] (wR a k n h ca tv nx pcs lv cs x b cl cm so ti pu np) (tyR k) (Qi D (fun (r : Int32) (_ : Unit) => sp_Model_csr x0 x1 cs cm so ti = r) (fun _ => wR a k n h ca tv nx pcs lv cs x b cl cm so ti pu np)) := by
  refine CT.of rfl (Nat.le_of_ble_eq_true rfl) (fun p e s m below meth c A ls hx hb hr hml hts hown hlocks hA hP hK hD hF hS hl => ?_)
  have hl : lv_has ls 3 [(0, .ref (a 0)), (1, .int x0), (2, .int x1)] := hl
  refine lv_iload_n hx hb d_Model_csr_0 rfl (lv_at hl 1 rfl) ?_
  refine xi (wr := [((a 0), .inr (5, [.int (nI n), .ref (a 1), .ref (a 2), .ref (a 3), .ref (a 4), .ref (a 5), .ref (a 6), .ref (a 7), .ref (a 8), .long ti, .ref (a 9), .int np, .int h, .int ca, .int tv, .int nx])), ((a 1), .inl ((k 0), 16384, .inl b)), ((a 2), .inl ((k 1), 64, .inl x)), ((a 3), .inl ((k 2), 2, .inl pcs)), ((a 4), .inl ((k 3), 2, .inl lv)), ((a 5), .inl ((k 4), 8192, .inl cs)), ((a 6), .inl ((k 5), 2, .inl cl)), ((a 7), .inl ((k 6), 2, .inr (.inl cm))), ((a 8), .inl ((k 7), 2, .inl so)), ((a 9), .inl ((k 8), 256, .inl pu))]) (W2 := fun _ => wR a k n h ca tv nx pcs lv cs x b cl cm so ti pu np) (xS (rest := []) ⟨hx, hb, hml, hown, hts⟩ (c_Model_isHart x0) mw_Model_isHart ms_Model_isHart k_702 ⟨rfl, rfl, Nat.le_of_ble_eq_true rfl, Nat.le_of_ble_eq_true rfl⟩ hK hP hD hS hA hF [] [] rfl rfl rfl rfl hl.1 rfl (Nat.le_of_ble_eq_true rfl) d_Model_csr_1 ⟨Nat.zero_le _, Nat.zero_le _⟩) hP hD hS hA [] [0, 1, 2, 3, 4, 5, 6, 7, 8, 9] [0, 1, 2, 3, 4, 5, 6, 7, 8, 9] rfl rfl rfl (by decide) (fun _ => rfl) rfl (fun r_1 _ H locs h_1 hP hD hS => ?_)
  obtain ⟨h_1, z_1⟩ := h_1
  subst h_1
  refine lv_if_eq (tgt := 23) hx hb d_Model_csr_4 (by decide) (fun c_2 => ?_) (fun c_2 => ?_)
  · refine lv_iconst (v := 0) hx hb d_Model_csr_23 rfl ?_
    exact ri () hx hb hr hlocks hP hD hS d_Model_csr_24 (by simp only [sp_Model_csr, if_pos c_2])
  · refine lv_iload_n hx hb d_Model_csr_7 rfl (lv_at hl 2 rfl) ?_
    refine xi (wr := [((a 0), .inr (5, [.int (nI n), .ref (a 1), .ref (a 2), .ref (a 3), .ref (a 4), .ref (a 5), .ref (a 6), .ref (a 7), .ref (a 8), .long ti, .ref (a 9), .int np, .int h, .int ca, .int tv, .int nx])), ((a 1), .inl ((k 0), 16384, .inl b)), ((a 2), .inl ((k 1), 64, .inl x)), ((a 3), .inl ((k 2), 2, .inl pcs)), ((a 4), .inl ((k 3), 2, .inl lv)), ((a 5), .inl ((k 4), 8192, .inl cs)), ((a 6), .inl ((k 5), 2, .inl cl)), ((a 7), .inl ((k 6), 2, .inr (.inl cm))), ((a 8), .inl ((k 7), 2, .inl so)), ((a 9), .inl ((k 8), 256, .inl pu))]) (W2 := fun _ => wR a k n h ca tv nx pcs lv cs x b cl cm so ti pu np) (xS (rest := []) ⟨hx, hb, hml, hown, hts⟩ (c_Model_isCsr x1) mw_Model_isCsr ms_Model_isCsr k_893 ⟨rfl, rfl, Nat.le_of_ble_eq_true rfl, Nat.le_of_ble_eq_true rfl⟩ hK hP hD hS hA hF [] [] rfl rfl rfl rfl hl.1 rfl (Nat.le_of_ble_eq_true rfl) d_Model_csr_8 ⟨Nat.zero_le _, Nat.zero_le _⟩) hP hD hS hA [] [0, 1, 2, 3, 4, 5, 6, 7, 8, 9] [0, 1, 2, 3, 4, 5, 6, 7, 8, 9] rfl rfl rfl (by decide) (fun _ => rfl) rfl (fun r_3 _ H locs h_3 hP hD hS => ?_)
    obtain ⟨h_3, z_3⟩ := h_3
    subst h_3
    refine lv_if_eq (tgt := 23) hx hb d_Model_csr_11 (by decide) (fun c_4 => ?_) (fun c_4 => ?_)
    · refine lv_iconst (v := 0) hx hb d_Model_csr_23 rfl ?_
      exact ri () hx hb hr hlocks hP hD hS d_Model_csr_24 (by simp only [sp_Model_csr, if_neg c_2, if_pos c_4])
    · refine lv_aload_n hx hb d_Model_csr_14 rfl (lv_at hl 0 rfl) ?_
      refine lv_iload_n hx hb d_Model_csr_15 rfl (lv_at hl 1 rfl) ?_
      refine lv_iload_n hx hb d_Model_csr_16 rfl (lv_at hl 2 rfl) ?_
      refine xi (wr := []) (W2 := fun _ => wR a k n h ca tv nx pcs lv cs x b cl cm so ti pu np) (xV (rest := []) ⟨hx, hb, hml, hown, hts⟩ (c_Model_read a k n x0 x1 h ca tv nx pcs lv cs x b cl cm so ti pu np hn (ih c_2) (vp_isCsr c_4)) mw_Model_read mv_Model_read k_709 ⟨rfl, rfl, Nat.le_of_ble_eq_true rfl, Nat.le_of_ble_eq_true rfl⟩ hK hP hD hS hA hF [0, 1, 2, 3, 4, 5, 6, 7, 8, 9] [0, 1, 2, 3, 4, 5, 6, 7, 8] rfl rfl rfl 0 5 rfl rfl rfl rfl hl.1 rfl (Nat.le_of_ble_eq_true rfl) d_Model_csr_17 ⟨Nat.zero_le _, Nat.zero_le _⟩) hP hD hS hA [0, 1, 2, 3, 4, 5, 6, 7, 8, 9] [] [0, 1, 2, 3, 4, 5, 6, 7, 8, 9] rfl rfl rfl (by decide) (fun _ => rfl) rfl (fun r_5 _ H locs h_5 hP hD hS => ?_)
      subst h_5
      refine lv_goto (tgt := 24) hx hb d_Model_csr_20 (by decide) ?_
      exact ri () hx hb hr hlocks hP hD hS d_Model_csr_24 (by simp only [sp_Model_csr, if_neg c_2, if_neg c_4])
def sp_Model_put (x0 : Int32) (x1 : Int32) (x2 : Int32) (cs : Nat → Int32) : Int32 × (Nat → Int32) :=
  if (sp_Model_isHart x0) = 0 then
    (0, cs)
  else
    if (sp_Model_isCsr x1) = 0 then
      (0, cs)
    else
      if (shr x1 10) = 3 then
        (0, cs)
      else
        let cs_6 := (sp_Model_write x0 x1 x2 cs)
        (1, cs_6)
set_option maxHeartbeats 4000000 in
set_option maxRecDepth 100000 in
theorem c_Model_put {l : Launch} {D : va_G} {g : Nat → Nat} (a : Nat → Nat) (k : Nat → ClassId) (n : Nat) (x0 : Int32) (x1 : Int32) (x2 : Int32) (h ca tv nx : Int32) (pcs lv cs x b cl : Nat → Int32) (cm : Nat → Int64) (so : Nat → Int32) (ti : Int64) (pu : Nat → Int32) (np : Int32) (hn : n ≤ 4096) : CT l D g y_Model_put b_Model_put 4 (some .boolean) (rD 3) [.ref (a 0), .int x0, .int x1, .int x2] (wR a k n h ca tv nx pcs lv cs x b cl cm so ti pu np) (tyR k) (Qi D (fun (r : Int32) (u : Nat → Int32) => sp_Model_put x0 x1 x2 cs = (r, u) ∧ (r = 0 ∨ r = 1)) (fun u => wR a k n h ca tv nx pcs lv u x b cl cm so ti pu np)) := by
  refine CT.of rfl (Nat.le_of_ble_eq_true rfl) (fun p e s m below meth c A ls hx hb hr hml hts hown hlocks hA hP hK hD hF hS hl => ?_)
  have hl : lv_has ls 4 [(0, .ref (a 0)), (1, .int x0), (2, .int x1), (3, .int x2)] := hl
  refine lv_iload_n hx hb d_Model_put_0 rfl (lv_at hl 1 rfl) ?_
  refine xi (wr := [((a 0), .inr (5, [.int (nI n), .ref (a 1), .ref (a 2), .ref (a 3), .ref (a 4), .ref (a 5), .ref (a 6), .ref (a 7), .ref (a 8), .long ti, .ref (a 9), .int np, .int h, .int ca, .int tv, .int nx])), ((a 1), .inl ((k 0), 16384, .inl b)), ((a 2), .inl ((k 1), 64, .inl x)), ((a 3), .inl ((k 2), 2, .inl pcs)), ((a 4), .inl ((k 3), 2, .inl lv)), ((a 5), .inl ((k 4), 8192, .inl cs)), ((a 6), .inl ((k 5), 2, .inl cl)), ((a 7), .inl ((k 6), 2, .inr (.inl cm))), ((a 8), .inl ((k 7), 2, .inl so)), ((a 9), .inl ((k 8), 256, .inl pu))]) (W2 := fun _ => wR a k n h ca tv nx pcs lv cs x b cl cm so ti pu np) (xS (rest := []) ⟨hx, hb, hml, hown, hts⟩ (c_Model_isHart x0) mw_Model_isHart ms_Model_isHart k_702 ⟨rfl, rfl, Nat.le_of_ble_eq_true rfl, Nat.le_of_ble_eq_true rfl⟩ hK hP hD hS hA hF [] [] rfl rfl rfl rfl hl.1 rfl (Nat.le_of_ble_eq_true rfl) d_Model_put_1 ⟨Nat.zero_le _, Nat.zero_le _⟩) hP hD hS hA [] [0, 1, 2, 3, 4, 5, 6, 7, 8, 9] [0, 1, 2, 3, 4, 5, 6, 7, 8, 9] rfl rfl rfl (by decide) (fun _ => rfl) rfl (fun r_1 _ H locs h_1 hP hD hS => ?_)
  obtain ⟨h_1, z_1⟩ := h_1
  subst h_1
  refine lv_if_eq (tgt := 22) hx hb d_Model_put_4 (by decide) (fun c_2 => ?_) (fun c_2 => ?_)
  · refine lv_iconst (v := 0) hx hb d_Model_put_22 rfl ?_
    exact rz cs hx hb hr hlocks rfl hP hD hS d_Model_put_23 ⟨by simp only [sp_Model_put, if_pos c_2], Or.inl rfl⟩
  · refine lv_iload_n hx hb d_Model_put_7 rfl (lv_at hl 2 rfl) ?_
    refine xi (wr := [((a 0), .inr (5, [.int (nI n), .ref (a 1), .ref (a 2), .ref (a 3), .ref (a 4), .ref (a 5), .ref (a 6), .ref (a 7), .ref (a 8), .long ti, .ref (a 9), .int np, .int h, .int ca, .int tv, .int nx])), ((a 1), .inl ((k 0), 16384, .inl b)), ((a 2), .inl ((k 1), 64, .inl x)), ((a 3), .inl ((k 2), 2, .inl pcs)), ((a 4), .inl ((k 3), 2, .inl lv)), ((a 5), .inl ((k 4), 8192, .inl cs)), ((a 6), .inl ((k 5), 2, .inl cl)), ((a 7), .inl ((k 6), 2, .inr (.inl cm))), ((a 8), .inl ((k 7), 2, .inl so)), ((a 9), .inl ((k 8), 256, .inl pu))]) (W2 := fun _ => wR a k n h ca tv nx pcs lv cs x b cl cm so ti pu np) (xS (rest := []) ⟨hx, hb, hml, hown, hts⟩ (c_Model_isCsr x1) mw_Model_isCsr ms_Model_isCsr k_893 ⟨rfl, rfl, Nat.le_of_ble_eq_true rfl, Nat.le_of_ble_eq_true rfl⟩ hK hP hD hS hA hF [] [] rfl rfl rfl rfl hl.1 rfl (Nat.le_of_ble_eq_true rfl) d_Model_put_8 ⟨Nat.zero_le _, Nat.zero_le _⟩) hP hD hS hA [] [0, 1, 2, 3, 4, 5, 6, 7, 8, 9] [0, 1, 2, 3, 4, 5, 6, 7, 8, 9] rfl rfl rfl (by decide) (fun _ => rfl) rfl (fun r_3 _ H locs h_3 hP hD hS => ?_)
    obtain ⟨h_3, z_3⟩ := h_3
    subst h_3
    refine lv_if_eq (tgt := 22) hx hb d_Model_put_11 (by decide) (fun c_4 => ?_) (fun c_4 => ?_)
    · refine lv_iconst (v := 0) hx hb d_Model_put_22 rfl ?_
      exact rz cs hx hb hr hlocks rfl hP hD hS d_Model_put_23 ⟨by simp only [sp_Model_put, if_neg c_2, if_pos c_4], Or.inl rfl⟩
    · refine lv_iload_n hx hb d_Model_put_14 rfl (lv_at hl 2 rfl) ?_
      refine lv_bipush (v := 10) hx hb d_Model_put_15 rfl ?_
      refine y_ishr hx hb d_Model_put_17 ?_
      refine lv_iconst (v := 3) hx hb d_Model_put_18 rfl ?_
      refine lv_icmp_ne (tgt := 24) hx hb d_Model_put_19 (by decide) (fun c_5 => ?_) (fun c_5 => ?_)
      · refine lv_aload_n hx hb d_Model_put_24 rfl (lv_at hl 0 rfl) ?_
        refine lv_iload_n hx hb d_Model_put_25 rfl (lv_at hl 1 rfl) ?_
        refine lv_iload_n hx hb d_Model_put_26 rfl (lv_at hl 2 rfl) ?_
        refine lv_iload_n hx hb d_Model_put_27 rfl (lv_at hl 3 rfl) ?_
        refine xv (wr := []) (W2 := fun u9 => wR a k n h ca tv nx pcs lv u9 x b cl cm so ti pu np) (xV (rest := []) ⟨hx, hb, hml, hown, hts⟩ (c_Model_write a k n x0 x1 x2 h ca tv nx pcs lv cs x b cl cm so ti pu np hn (ih c_2) (vp_isCsr c_4)) mw_Model_write mv_Model_write k_896 ⟨rfl, rfl, Nat.le_of_ble_eq_true rfl, Nat.le_of_ble_eq_true rfl⟩ hK hP hD hS hA hF [0, 1, 2, 3, 4, 5, 6, 7, 8, 9] [0, 1, 2, 3, 4, 5, 6, 7, 8] rfl rfl rfl 0 5 rfl rfl rfl rfl hl.1 rfl (Nat.le_of_ble_eq_true rfl) d_Model_put_28 ⟨Nat.zero_le _, Nat.zero_le _⟩) hP hD hS hA [0, 1, 2, 3, 4, 5, 6, 7, 8, 9] [] [0, 1, 2, 3, 4, 5, 6, 7, 8, 9] rfl rfl rfl (by decide) (fun _ => rfl) rfl (fun u_6 H locs h_6 hP hD hS => ?_)
        obtain ⟨cs_6, e_6⟩ : ∃ z, z = u_6 := ⟨_, rfl⟩
        subst e_6
        refine lv_iconst (v := 1) hx hb d_Model_put_31 rfl ?_
        exact rz cs_6 hx hb hr hlocks rfl hP hD hS d_Model_put_32 ⟨by simp only [sp_Model_put, h_6, if_neg c_2, if_neg c_4, if_neg c_5], Or.inr rfl⟩
      · refine lv_iconst (v := 0) hx hb d_Model_put_22 rfl ?_
        exact rz cs hx hb hr hlocks rfl hP hD hS d_Model_put_23 ⟨by simp only [sp_Model_put, if_neg c_2, if_neg c_4, if_pos c_5], Or.inl rfl⟩
def sp_Model_level (x0 : Int32) (lv : Nat → Int32) : Int32 :=
  if (sp_Model_isHart x0) = 0 then
    (-1)
  else
    lv x0.toNatClampNeg
set_option maxHeartbeats 4000000 in
set_option maxRecDepth 100000 in
theorem c_Model_level {l : Launch} {D : va_G} {g : Nat → Nat} (a : Nat → Nat) (k : Nat → ClassId) (n : Nat) (x0 : Int32) (h ca tv nx : Int32) (pcs lv cs x b cl : Nat → Int32) (cm : Nat → Int64) (so : Nat → Int32) (ti : Int64) (pu : Nat → Int32) (np : Int32) (hn : n ≤ 4096) : CT l D g y_Model_level b_Model_level 2 (some .int) (rD 1) [.ref (a 0), .int x0] (wR a k n h ca tv nx pcs lv cs x b cl cm so ti pu np) (tyR k) (Qi D (fun (r : Int32) (_ : Unit) => sp_Model_level x0 lv = r) (fun _ => wR a k n h ca tv nx pcs lv cs x b cl cm so ti pu np)) := by
  refine CT.of rfl (Nat.le_of_ble_eq_true rfl) (fun p e s m below meth c A ls hx hb hr hml hts hown hlocks hA hP hK hD hF hS hl => ?_)
  have hl : lv_has ls 2 [(0, .ref (a 0)), (1, .int x0)] := hl
  refine lv_iload_n hx hb d_Model_level_0 rfl (lv_at hl 1 rfl) ?_
  refine xi (wr := [((a 0), .inr (5, [.int (nI n), .ref (a 1), .ref (a 2), .ref (a 3), .ref (a 4), .ref (a 5), .ref (a 6), .ref (a 7), .ref (a 8), .long ti, .ref (a 9), .int np, .int h, .int ca, .int tv, .int nx])), ((a 1), .inl ((k 0), 16384, .inl b)), ((a 2), .inl ((k 1), 64, .inl x)), ((a 3), .inl ((k 2), 2, .inl pcs)), ((a 4), .inl ((k 3), 2, .inl lv)), ((a 5), .inl ((k 4), 8192, .inl cs)), ((a 6), .inl ((k 5), 2, .inl cl)), ((a 7), .inl ((k 6), 2, .inr (.inl cm))), ((a 8), .inl ((k 7), 2, .inl so)), ((a 9), .inl ((k 8), 256, .inl pu))]) (W2 := fun _ => wR a k n h ca tv nx pcs lv cs x b cl cm so ti pu np) (xS (rest := []) ⟨hx, hb, hml, hown, hts⟩ (c_Model_isHart x0) mw_Model_isHart ms_Model_isHart k_702 ⟨rfl, rfl, Nat.le_of_ble_eq_true rfl, Nat.le_of_ble_eq_true rfl⟩ hK hP hD hS hA hF [] [] rfl rfl rfl rfl hl.1 rfl (Nat.le_of_ble_eq_true rfl) d_Model_level_1 ⟨Nat.zero_le _, Nat.zero_le _⟩) hP hD hS hA [] [0, 1, 2, 3, 4, 5, 6, 7, 8, 9] [0, 1, 2, 3, 4, 5, 6, 7, 8, 9] rfl rfl rfl (by decide) (fun _ => rfl) rfl (fun r_1 _ H locs h_1 hP hD hS => ?_)
  obtain ⟨h_1, z_1⟩ := h_1
  subst h_1
  refine lv_if_eq (tgt := 16) hx hb d_Model_level_4 (by decide) (fun c_2 => ?_) (fun c_2 => ?_)
  · refine lv_iconst (v := (-1)) hx hb d_Model_level_16 rfl ?_
    exact ri () hx hb hr hlocks hP hD hS d_Model_level_17 (by simp only [sp_Model_level, if_pos c_2])
  · refine lv_aload_n hx hb d_Model_level_7 rfl (lv_at hl 0 rfl) ?_
    refine va_get (D := D) (ci := 5) (v := .ref (a 4)) (C := R_Model) (T := F_Model) (N := 16) hx hb hts i_Model hown hK hP 0 rfl rfl 4 (by decide) (hts _ k_629) (fun _ h9 => h9) rfl d_Model_level_8 ?_
    refine lv_iload_n hx hb d_Model_level_11 rfl (lv_at hl 1 rfl) ?_
    refine y_iald (v := lv x0.toNatClampNeg) hx hb hK hP 4 3 rfl rfl (vp_01 (ih c_2) (by decide)) rfl d_Model_level_12 ?_
    refine lv_goto (tgt := 17) hx hb d_Model_level_13 (by decide) ?_
    exact ri () hx hb hr hlocks hP hD hS d_Model_level_17 (by simp only [sp_Model_level, if_neg c_2])
def sp_Model_size  (np : Int32) : Int32 :=
  np
set_option maxHeartbeats 4000000 in
set_option maxRecDepth 100000 in
theorem c_Model_size {l : Launch} {D : va_G} {g : Nat → Nat} (a : Nat → Nat) (k : Nat → ClassId) (n : Nat)  (h ca tv nx : Int32) (pcs lv cs x b cl : Nat → Int32) (cm : Nat → Int64) (so : Nat → Int32) (ti : Int64) (pu : Nat → Int32) (np : Int32) (hn : n ≤ 4096) : CT l D g y_Model_size b_Model_size 1 (some .int) (rD 0) [.ref (a 0)] (wR a k n h ca tv nx pcs lv cs x b cl cm so ti pu np) (tyR k) (Qi D (fun (r : Int32) (_ : Unit) => sp_Model_size np = r) (fun _ => wR a k n h ca tv nx pcs lv cs x b cl cm so ti pu np)) := by
  refine CT.of rfl (Nat.le_of_ble_eq_true rfl) (fun p e s m below meth c A ls hx hb hr hml hts hown hlocks hA hP hK hD hF hS hl => ?_)
  have hl : lv_has ls 1 [(0, .ref (a 0))] := hl
  refine lv_aload_n hx hb d_Model_size_0 rfl (lv_at hl 0 rfl) ?_
  refine va_get (D := D) (ci := 5) (v := .int np) (C := R_Model) (T := F_Model) (N := 16) hx hb hts i_Model hown hK hP 0 rfl rfl 11 (by decide) (hts _ k_636) (fun _ h9 => h9) rfl d_Model_size_1 ?_
  exact ri () hx hb hr hlocks hP hD hS d_Model_size_4 (by simp only [sp_Model_size])
def sp_Model_out (x0 : Int32) (pu : Nat → Int32) (np : Int32) : Int32 :=
  if x0 < 0 then
    (-1)
  else
    if np ≤ x0 then
      (-1)
    else
      pu x0.toNatClampNeg
set_option maxHeartbeats 4000000 in
set_option maxRecDepth 100000 in
theorem c_Model_out {l : Launch} {D : va_G} {g : Nat → Nat} (a : Nat → Nat) (k : Nat → ClassId) (n : Nat) (x0 : Int32) (h ca tv nx : Int32) (pcs lv cs x b cl : Nat → Int32) (cm : Nat → Int64) (so : Nat → Int32) (ti : Int64) (pu : Nat → Int32) (np : Int32) (hn : n ≤ 4096) (hp : 0 ≤ np ∧ np ≤ 256) : CT l D g y_Model_out b_Model_out 2 (some .int) (rD 0) [.ref (a 0), .int x0] (wR a k n h ca tv nx pcs lv cs x b cl cm so ti pu np) (tyR k) (Qi D (fun (r : Int32) (_ : Unit) => sp_Model_out x0 pu np = r) (fun _ => wR a k n h ca tv nx pcs lv cs x b cl cm so ti pu np)) := by
  refine CT.of rfl (Nat.le_of_ble_eq_true rfl) (fun p e s m below meth c A ls hx hb hr hml hts hown hlocks hA hP hK hD hF hS hl => ?_)
  have hl : lv_has ls 2 [(0, .ref (a 0)), (1, .int x0)] := hl
  refine lv_iload_n hx hb d_Model_out_0 rfl (lv_at hl 1 rfl) ?_
  refine lv_if_lt (tgt := 21) hx hb d_Model_out_1 (by decide) (fun c_1 => ?_) (fun c_1 => ?_)
  · refine lv_iconst (v := (-1)) hx hb d_Model_out_21 rfl ?_
    exact ri () hx hb hr hlocks hP hD hS d_Model_out_22 (by simp only [sp_Model_out, if_pos c_1])
  · refine lv_iload_n hx hb d_Model_out_4 rfl (lv_at hl 1 rfl) ?_
    refine lv_aload_n hx hb d_Model_out_5 rfl (lv_at hl 0 rfl) ?_
    refine va_get (D := D) (ci := 5) (v := .int np) (C := R_Model) (T := F_Model) (N := 16) hx hb hts i_Model hown hK hP 0 rfl rfl 11 (by decide) (hts _ k_636) (fun _ h9 => h9) rfl d_Model_out_6 ?_
    refine lv_icmp_ge (tgt := 21) hx hb d_Model_out_9 (by decide) (fun c_2 => ?_) (fun c_2 => ?_)
    · refine lv_iconst (v := (-1)) hx hb d_Model_out_21 rfl ?_
      exact ri () hx hb hr hlocks hP hD hS d_Model_out_22 (by simp only [sp_Model_out, if_neg c_1, if_pos c_2])
    · refine lv_aload_n hx hb d_Model_out_12 rfl (lv_at hl 0 rfl) ?_
      refine va_get (D := D) (ci := 5) (v := .ref (a 9)) (C := R_Model) (T := F_Model) (N := 16) hx hb hts i_Model hown hK hP 0 rfl rfl 10 (by decide) (hts _ k_635) (fun _ h9 => h9) rfl d_Model_out_13 ?_
      refine lv_iload_n hx hb d_Model_out_16 rfl (lv_at hl 1 rfl) ?_
      refine y_iald (v := pu x0.toNatClampNeg) hx hb hK hP 9 8 rfl rfl (vp_out hp c_1 c_2) rfl d_Model_out_17 ?_
      refine lv_goto (tgt := 22) hx hb d_Model_out_18 (by decide) ?_
      exact ri () hx hb hr hlocks hP hD hS d_Model_out_22 (by simp only [sp_Model_out, if_neg c_1, if_neg c_2])
