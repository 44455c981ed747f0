def sp_Model_claims (n : Nat) (x0 : Int32) (h : Int32) (ca : Int32) (tv : Int32) (lv : Nat → Int32) (cs : Nat → Int32) (x : Nat → Int32) (b : Nat → Int32) (cl : Nat → Int32) : Int32 × Int32 × (Nat → Int32) × (Nat → Int32) × (Nat → Int32) :=
  if (sp_Model_field x0 27 5) < 5 then
    if (sp_Model_field x0 12 3) = 2 then
      if (sp_Model_field x0 27 5) = 2 then
        if (sp_Model_field x0 20 5) = 0 then
          let r_43 := (sp_Model_claimed n (sp_Model_reg (sp_Model_field x0 15 5) h x) 1 h ca tv lv cs b).1
          let ca_43 := (sp_Model_claimed n (sp_Model_reg (sp_Model_field x0 15 5) h x) 1 h ca tv lv cs b).2.1
          let tv_43 := (sp_Model_claimed n (sp_Model_reg (sp_Model_field x0 15 5) h x) 1 h ca tv lv cs b).2.2
          if 0 ≤ r_43 then
            let x_50 := (sp_Model_setReg (sp_Model_field x0 7 5) (sp_Model_ramWord r_43 b) h ca_43 x)
            (ca_43, tv_43, x_50, b, (upd cl h.toNatClampNeg r_43))
          else
            (ca_43, tv_43, x, b, cl)
        else
          let ca_51 := (sp_Model_trap 2 x0 ca tv).1
          let tv_51 := (sp_Model_trap 2 x0 ca tv).2
          (ca_51, tv_51, x, b, cl)
      else
        let r_11 := (sp_Model_claimed n (sp_Model_reg (sp_Model_field x0 15 5) h x) 2 h ca tv lv cs b).1
        let ca_11 := (sp_Model_claimed n (sp_Model_reg (sp_Model_field x0 15 5) h x) 2 h ca tv lv cs b).2.1
        let tv_11 := (sp_Model_claimed n (sp_Model_reg (sp_Model_field x0 15 5) h x) 2 h ca tv lv cs b).2.2
        if 0 ≤ r_11 then
          if (sp_Model_field x0 27 5) = 3 then
            if (cl h.toNatClampNeg) = r_11 then
              let b_35 := (sp_Model_setBytes r_11 4 (sp_Model_reg (sp_Model_field x0 20 5) h x) b)
              let x_37 := (sp_Model_setReg (sp_Model_field x0 7 5) 0 h ca_11 x)
              (ca_11, tv_11, x_37, b_35, (upd (upd cl h.toNatClampNeg (-1)) ((1 - h).toNatClampNeg) (-1)))
            else
              let x_30 := (sp_Model_setReg (sp_Model_field x0 7 5) 1 h ca_11 x)
              (ca_11, tv_11, x_30, b, (upd cl h.toNatClampNeg (-1)))
          else
            let b_22 := (sp_Model_setBytes r_11 4 (sp_Model_changed (sp_Model_field x0 27 5) (sp_Model_ramWord r_11 b) (sp_Model_reg (sp_Model_field x0 20 5) h x)) b)
            let x_24 := (sp_Model_setReg (sp_Model_field x0 7 5) (sp_Model_ramWord r_11 b) h ca_11 x)
            (ca_11, tv_11, x_24, b_22, (upd (upd cl h.toNatClampNeg (-1)) ((1 - h).toNatClampNeg) (-1)))
        else
          (ca_11, tv_11, x, b, cl)
    else
      let ca_5 := (sp_Model_trap 2 x0 ca tv).1
      let tv_5 := (sp_Model_trap 2 x0 ca tv).2
      (ca_5, tv_5, x, b, cl)
  else
    if (sp_Model_field x0 27 5) = 8 then
      if (sp_Model_field x0 12 3) = 2 then
        let r_61 := (sp_Model_claimed n (sp_Model_reg (sp_Model_field x0 15 5) h x) 2 h ca tv lv cs b).1
        let ca_61 := (sp_Model_claimed n (sp_Model_reg (sp_Model_field x0 15 5) h x) 2 h ca tv lv cs b).2.1
        let tv_61 := (sp_Model_claimed n (sp_Model_reg (sp_Model_field x0 15 5) h x) 2 h ca tv lv cs b).2.2
        if 0 ≤ r_61 then
          let b_72 := (sp_Model_setBytes r_61 4 (sp_Model_changed (sp_Model_field x0 27 5) (sp_Model_ramWord r_61 b) (sp_Model_reg (sp_Model_field x0 20 5) h x)) b)
          let x_74 := (sp_Model_setReg (sp_Model_field x0 7 5) (sp_Model_ramWord r_61 b) h ca_61 x)
          (ca_61, tv_61, x_74, b_72, (upd (upd cl h.toNatClampNeg (-1)) ((1 - h).toNatClampNeg) (-1)))
        else
          (ca_61, tv_61, x, b, cl)
      else
        let ca_55 := (sp_Model_trap 2 x0 ca tv).1
        let tv_55 := (sp_Model_trap 2 x0 ca tv).2
        (ca_55, tv_55, x, b, cl)
    else
      if (sp_Model_field x0 27 5) = 12 then
        if (sp_Model_field x0 12 3) = 2 then
          let r_84 := (sp_Model_claimed n (sp_Model_reg (sp_Model_field x0 15 5) h x) 2 h ca tv lv cs b).1
          let ca_84 := (sp_Model_claimed n (sp_Model_reg (sp_Model_field x0 15 5) h x) 2 h ca tv lv cs b).2.1
          let tv_84 := (sp_Model_claimed n (sp_Model_reg (sp_Model_field x0 15 5) h x) 2 h ca tv lv cs b).2.2
          if 0 ≤ r_84 then
            let b_95 := (sp_Model_setBytes r_84 4 (sp_Model_changed (sp_Model_field x0 27 5) (sp_Model_ramWord r_84 b) (sp_Model_reg (sp_Model_field x0 20 5) h x)) b)
            let x_97 := (sp_Model_setReg (sp_Model_field x0 7 5) (sp_Model_ramWord r_84 b) h ca_84 x)
            (ca_84, tv_84, x_97, b_95, (upd (upd cl h.toNatClampNeg (-1)) ((1 - h).toNatClampNeg) (-1)))
          else
            (ca_84, tv_84, x, b, cl)
        else
          let ca_78 := (sp_Model_trap 2 x0 ca tv).1
          let tv_78 := (sp_Model_trap 2 x0 ca tv).2
          (ca_78, tv_78, x, b, cl)
      else
        if (sp_Model_field x0 27 5) < 16 then
          if (sp_Model_field x0 12 3) = 2 then
            let ca_103 := (sp_Model_trap 2 x0 ca tv).1
            let tv_103 := (sp_Model_trap 2 x0 ca tv).2
            (ca_103, tv_103, x, b, cl)
          else
            let ca_101 := (sp_Model_trap 2 x0 ca tv).1
            let tv_101 := (sp_Model_trap 2 x0 ca tv).2
            (ca_101, tv_101, x, b, cl)
        else
          if ((sp_Model_field x0 27 5) - (sp_Model_field x0 27 5) / 4 * 4) = 0 then
            if (sp_Model_field x0 12 3) = 2 then
              if (sp_Model_field x0 27 5) = 2 then
                if (sp_Model_field x0 20 5) = 0 then
                  let r_150 := (sp_Model_claimed n (sp_Model_reg (sp_Model_field x0 15 5) h x) 1 h ca tv lv cs b).1
                  let ca_150 := (sp_Model_claimed n (sp_Model_reg (sp_Model_field x0 15 5) h x) 1 h ca tv lv cs b).2.1
                  let tv_150 := (sp_Model_claimed n (sp_Model_reg (sp_Model_field x0 15 5) h x) 1 h ca tv lv cs b).2.2
                  if 0 ≤ r_150 then
                    let x_157 := (sp_Model_setReg (sp_Model_field x0 7 5) (sp_Model_ramWord r_150 b) h ca_150 x)
                    (ca_150, tv_150, x_157, b, (upd cl h.toNatClampNeg r_150))
                  else
                    (ca_150, tv_150, x, b, cl)
                else
                  let ca_158 := (sp_Model_trap 2 x0 ca tv).1
                  let tv_158 := (sp_Model_trap 2 x0 ca tv).2
                  (ca_158, tv_158, x, b, cl)
              else
                let r_118 := (sp_Model_claimed n (sp_Model_reg (sp_Model_field x0 15 5) h x) 2 h ca tv lv cs b).1
                let ca_118 := (sp_Model_claimed n (sp_Model_reg (sp_Model_field x0 15 5) h x) 2 h ca tv lv cs b).2.1
                let tv_118 := (sp_Model_claimed n (sp_Model_reg (sp_Model_field x0 15 5) h x) 2 h ca tv lv cs b).2.2
                if 0 ≤ r_118 then
                  if (sp_Model_field x0 27 5) = 3 then
                    if (cl h.toNatClampNeg) = r_118 then
                      let b_142 := (sp_Model_setBytes r_118 4 (sp_Model_reg (sp_Model_field x0 20 5) h x) b)
                      let x_144 := (sp_Model_setReg (sp_Model_field x0 7 5) 0 h ca_118 x)
                      (ca_118, tv_118, x_144, b_142, (upd (upd cl h.toNatClampNeg (-1)) ((1 - h).toNatClampNeg) (-1)))
                    else
                      let x_137 := (sp_Model_setReg (sp_Model_field x0 7 5) 1 h ca_118 x)
                      (ca_118, tv_118, x_137, b, (upd cl h.toNatClampNeg (-1)))
                  else
                    let b_129 := (sp_Model_setBytes r_118 4 (sp_Model_changed (sp_Model_field x0 27 5) (sp_Model_ramWord r_118 b) (sp_Model_reg (sp_Model_field x0 20 5) h x)) b)
                    let x_131 := (sp_Model_setReg (sp_Model_field x0 7 5) (sp_Model_ramWord r_118 b) h ca_118 x)
                    (ca_118, tv_118, x_131, b_129, (upd (upd cl h.toNatClampNeg (-1)) ((1 - h).toNatClampNeg) (-1)))
                else
                  (ca_118, tv_118, x, b, cl)
            else
              let ca_112 := (sp_Model_trap 2 x0 ca tv).1
              let tv_112 := (sp_Model_trap 2 x0 ca tv).2
              (ca_112, tv_112, x, b, cl)
          else
            if (sp_Model_field x0 12 3) = 2 then
              let ca_109 := (sp_Model_trap 2 x0 ca tv).1
              let tv_109 := (sp_Model_trap 2 x0 ca tv).2
              (ca_109, tv_109, x, b, cl)
            else
              let ca_107 := (sp_Model_trap 2 x0 ca tv).1
              let tv_107 := (sp_Model_trap 2 x0 ca tv).2
              (ca_107, tv_107, x, b, cl)
set_option maxHeartbeats 4000000 in
set_option maxRecDepth 100000 in
theorem c_Model_claims {l : Launch} {D : va_G} {g : Nat → Nat} (a : Nat → Nat) (k : Nat → ClassId) (n : Nat) (x0 : Int32) (h ca tv nx : Int32) (pcs lv cs x b cl : Nat → Int32) (cm : Nat → Int64) (so : Nat → Int32) (ti : Int64) (pu : Nat → Int32) (np : Int32) (hn : n ≤ 4096) (hh : h = 0 ∨ h = 1) : CT l D g y_Model_claims b_Model_claims 9 none (rD 6) [.ref (a 0), .int x0] (wR a k n h ca tv nx pcs lv cs x b cl cm so ti pu np) (tyR k) (Qv D (fun (u : Int32 × Int32 × (Nat → Int32) × (Nat → Int32) × (Nat → Int32)) => sp_Model_claims n x0 h ca tv lv cs x b cl = u) (fun u => wR a k n h u.1 u.2.1 nx pcs lv cs u.2.2.1 u.2.2.2.1 u.2.2.2.2 cm so ti pu np)) := by
  refine CT.of rfl (Nat.le_of_ble_eq_true rfl) (fun p e s m below meth c A ls hx hb hr hml hts hown hlocks hA hP hK hD hF hS hl => ?_)
  have hl : lv_has ls 9 [(0, .ref (a 0)), (1, .int x0)] := hl
  refine lv_iload_n hx hb d_Model_claims_0 rfl (lv_at hl 1 rfl) ?_
  refine lv_bipush (v := 27) hx hb d_Model_claims_1 rfl ?_
  refine lv_iconst (v := 5) hx hb d_Model_claims_3 rfl ?_
  refine xi (wr := [((a 0), .inr (5, [.int (nI n), .ref (a 1), .ref (a 2), .ref (a 3), .ref (a 4), .ref (a 5), .ref (a 6), .ref (a 7), .ref (a 8), .long ti, .ref (a 9), .int np, .int h, .int ca, .int tv, .int nx])), ((a 1), .inl ((k 0), 16384, .inl b)), ((a 2), .inl ((k 1), 64, .inl x)), ((a 3), .inl ((k 2), 2, .inl pcs)), ((a 4), .inl ((k 3), 2, .inl lv)), ((a 5), .inl ((k 4), 8192, .inl cs)), ((a 6), .inl ((k 5), 2, .inl cl)), ((a 7), .inl ((k 6), 2, .inr (.inl cm))), ((a 8), .inl ((k 7), 2, .inl so)), ((a 9), .inl ((k 8), 256, .inl pu))]) (W2 := fun _ => wR a k n h ca tv nx pcs lv cs x b cl cm so ti pu np) (xS (rest := []) ⟨hx, hb, hml, hown, hts⟩ (c_Model_field x0 27 5) mw_Model_field ms_Model_field k_787 ⟨rfl, rfl, Nat.le_of_ble_eq_true rfl, Nat.le_of_ble_eq_true rfl⟩ hK hP hD hS hA hF [] [] rfl rfl rfl rfl hl.1 rfl (Nat.le_of_ble_eq_true rfl) d_Model_claims_4 ⟨Nat.zero_le _, Nat.zero_le _⟩) hP hD hS hA [] [0, 1, 2, 3, 4, 5, 6, 7, 8, 9] [0, 1, 2, 3, 4, 5, 6, 7, 8, 9] rfl rfl rfl (by decide) (fun _ => rfl) rfl (fun r_1 _ H locs h_1 hP hD hS => ?_)
  subst h_1
  refine lv_istore_n (lv' := [(2, .int (sp_Model_field x0 27 5)), (0, .ref (a 0)), (1, .int x0)]) hx hb d_Model_claims_7 rfl hl (by decide) rfl (fun ls hl => ?_)
  refine lv_iload_n hx hb d_Model_claims_8 rfl (lv_at hl 0 rfl) ?_
  refine lv_iconst (v := 5) hx hb d_Model_claims_9 rfl ?_
  refine lv_icmp_lt (tgt := 37) hx hb d_Model_claims_10 (by decide) (fun c_2 => ?_) (fun c_2 => ?_)
  · refine lv_iconst (v := 1) hx hb d_Model_claims_37 rfl ?_
    refine lv_goto (tgt := 42) hx hb d_Model_claims_38 (by decide) ?_
    refine lv_istore_n (lv' := [(3, .int 1), (2, .int (sp_Model_field x0 27 5)), (0, .ref (a 0)), (1, .int x0)]) hx hb d_Model_claims_42 rfl hl (by decide) rfl (fun ls hl => ?_)
    refine lv_iload_n hx hb d_Model_claims_43 rfl (lv_at hl 3 rfl) ?_
    refine lv_bipush (v := 12) hx hb d_Model_claims_44 rfl ?_
    refine lv_iconst (v := 3) hx hb d_Model_claims_46 rfl ?_
    refine xi (wr := [((a 0), .inr (5, [.int (nI n), .ref (a 1), .ref (a 2), .ref (a 3), .ref (a 4), .ref (a 5), .ref (a 6), .ref (a 7), .ref (a 8), .long ti, .ref (a 9), .int np, .int h, .int ca, .int tv, .int nx])), ((a 1), .inl ((k 0), 16384, .inl b)), ((a 2), .inl ((k 1), 64, .inl x)), ((a 3), .inl ((k 2), 2, .inl pcs)), ((a 4), .inl ((k 3), 2, .inl lv)), ((a 5), .inl ((k 4), 8192, .inl cs)), ((a 6), .inl ((k 5), 2, .inl cl)), ((a 7), .inl ((k 6), 2, .inr (.inl cm))), ((a 8), .inl ((k 7), 2, .inl so)), ((a 9), .inl ((k 8), 256, .inl pu))]) (W2 := fun _ => wR a k n h ca tv nx pcs lv cs x b cl cm so ti pu np) (xS (rest := []) ⟨hx, hb, hml, hown, hts⟩ (c_Model_field x0 12 3) mw_Model_field ms_Model_field k_787 ⟨rfl, rfl, Nat.le_of_ble_eq_true rfl, Nat.le_of_ble_eq_true rfl⟩ hK hP hD hS hA hF [] [] rfl rfl rfl rfl hl.1 rfl (Nat.le_of_ble_eq_true rfl) d_Model_claims_47 ⟨Nat.zero_le _, Nat.zero_le _⟩) hP hD hS hA [] [0, 1, 2, 3, 4, 5, 6, 7, 8, 9] [0, 1, 2, 3, 4, 5, 6, 7, 8, 9] rfl rfl rfl (by decide) (fun _ => rfl) rfl (fun r_3 _ H locs h_3 hP hD hS => ?_)
    subst h_3
    refine lv_iconst (v := 2) hx hb d_Model_claims_50 rfl ?_
    refine lv_icmp_ne (tgt := 73) hx hb d_Model_claims_51 (by decide) (fun c_4 => ?_) (fun c_4 => ?_)
    · refine lv_aload_n hx hb d_Model_claims_73 rfl (lv_at hl 2 rfl) ?_
      refine lv_iconst (v := 2) hx hb d_Model_claims_74 rfl ?_
      refine lv_iload_n hx hb d_Model_claims_75 rfl (lv_at hl 3 rfl) ?_
      refine xv (wr := []) (W2 := fun u9 => wR a k n h u9.1 u9.2 nx pcs lv cs x b cl cm so ti pu np) (xV (rest := []) ⟨hx, hb, hml, hown, hts⟩ (c_Model_trap a k n 2 x0 h ca tv nx pcs lv cs x b cl cm so ti pu np hn) mw_Model_trap mv_Model_trap k_763 ⟨rfl, rfl, Nat.le_of_ble_eq_true rfl, Nat.le_of_ble_eq_true rfl⟩ hK hP hD hS hA hF [0, 1, 2, 3, 4, 5, 6, 7, 8, 9] [0, 1, 2, 3, 4, 5, 6, 7, 8] rfl rfl rfl 0 5 rfl rfl rfl rfl hl.1 rfl (Nat.le_of_ble_eq_true rfl) d_Model_claims_76 ⟨Nat.zero_le _, Nat.zero_le _⟩) hP hD hS hA [0, 1, 2, 3, 4, 5, 6, 7, 8, 9] [] [0, 1, 2, 3, 4, 5, 6, 7, 8, 9] rfl rfl rfl (by decide) (fun _ => rfl) rfl (fun u_5 H locs h_5 hP hD hS => ?_)
      obtain ⟨ca_5, tv_5⟩ := u_5
      dsimp only at hP hD
      exact rv (ca_5, tv_5, x, b, cl) hx hb hr hlocks hP hD hS d_Model_claims_79 (by simp only [sp_Model_claims, h_5, if_pos c_2, if_neg c_4])
    · refine lv_iload_n hx hb d_Model_claims_54 rfl (lv_at hl 0 rfl) ?_
      refine lv_if_eq (tgt := 73) hx hb d_Model_claims_55 (by decide) (fun h9 => absurd h9 (by decide)) (fun _ => ?_)
      refine lv_iload_n hx hb d_Model_claims_58 rfl (lv_at hl 1 rfl) ?_
      refine lv_iconst (v := 2) hx hb d_Model_claims_59 rfl ?_
      refine lv_icmp_ne (tgt := 80) hx hb d_Model_claims_60 (by decide) (fun c_7 => ?_) (fun c_7 => ?_)
      · refine lv_aload_n hx hb d_Model_claims_80 rfl (lv_at hl 2 rfl) ?_
        refine lv_aload_n hx hb d_Model_claims_81 rfl (lv_at hl 2 rfl) ?_
        refine lv_iload_n hx hb d_Model_claims_82 rfl (lv_at hl 3 rfl) ?_
        refine lv_bipush (v := 15) hx hb d_Model_claims_83 rfl ?_
        refine lv_iconst (v := 5) hx hb d_Model_claims_85 rfl ?_
        refine xi (wr := [((a 0), .inr (5, [.int (nI n), .ref (a 1), .ref (a 2), .ref (a 3), .ref (a 4), .ref (a 5), .ref (a 6), .ref (a 7), .ref (a 8), .long ti, .ref (a 9), .int np, .int h, .int ca, .int tv, .int nx])), ((a 1), .inl ((k 0), 16384, .inl b)), ((a 2), .inl ((k 1), 64, .inl x)), ((a 3), .inl ((k 2), 2, .inl pcs)), ((a 4), .inl ((k 3), 2, .inl lv)), ((a 5), .inl ((k 4), 8192, .inl cs)), ((a 6), .inl ((k 5), 2, .inl cl)), ((a 7), .inl ((k 6), 2, .inr (.inl cm))), ((a 8), .inl ((k 7), 2, .inl so)), ((a 9), .inl ((k 8), 256, .inl pu))]) (W2 := fun _ => wR a k n h ca tv nx pcs lv cs x b cl cm so ti pu np) (xS (rest := [.ref (a 0), .ref (a 0)]) ⟨hx, hb, hml, hown, hts⟩ (c_Model_field x0 15 5) mw_Model_field ms_Model_field k_787 ⟨rfl, rfl, Nat.le_of_ble_eq_true rfl, Nat.le_of_ble_eq_true rfl⟩ hK hP hD hS hA hF [] [] rfl rfl rfl rfl hl.1 rfl (Nat.le_of_ble_eq_true rfl) d_Model_claims_86 ⟨Nat.zero_le _, Nat.zero_le _⟩) hP hD hS hA [] [0, 1, 2, 3, 4, 5, 6, 7, 8, 9] [0, 1, 2, 3, 4, 5, 6, 7, 8, 9] rfl rfl rfl (by decide) (fun _ => rfl) rfl (fun r_8 _ H locs h_8 hP hD hS => ?_)
        subst h_8
        refine xi (wr := []) (W2 := fun _ => wR a k n h ca tv nx pcs lv cs x b cl cm so ti pu np) (xV (rest := [.ref (a 0)]) ⟨hx, hb, hml, hown, hts⟩ (c_Model_reg a k n (sp_Model_field x0 15 5) h ca tv nx pcs lv cs x b cl cm so ti pu np hn hh (vp_f5 _ _)) mw_Model_reg mv_Model_reg k_802 ⟨rfl, rfl, Nat.le_of_ble_eq_true rfl, Nat.le_of_ble_eq_true rfl⟩ hK hP hD hS hA hF [0, 1, 2, 3, 4, 5, 6, 7, 8, 9] [0, 1, 2, 3, 4, 5, 6, 7, 8] rfl rfl rfl 0 5 rfl rfl rfl rfl hl.1 rfl (Nat.le_of_ble_eq_true rfl) d_Model_claims_89 ⟨Nat.zero_le _, Nat.zero_le _⟩) hP hD hS hA [0, 1, 2, 3, 4, 5, 6, 7, 8, 9] [] [0, 1, 2, 3, 4, 5, 6, 7, 8, 9] rfl rfl rfl (by decide) (fun _ => rfl) rfl (fun r_9 _ H locs h_9 hP hD hS => ?_)
        subst h_9
        refine lv_iload_n hx hb d_Model_claims_92 rfl (lv_at hl 1 rfl) ?_
        refine lv_iconst (v := 2) hx hb d_Model_claims_93 rfl ?_
        refine lv_icmp_ne (tgt := 101) hx hb d_Model_claims_94 (by decide) (fun _ => ?_) (fun h9 => absurd h9 c_7)
        refine lv_iconst (v := 2) hx hb d_Model_claims_101 rfl ?_
        refine xi (wr := []) (W2 := fun u9 => wR a k n h u9.1 u9.2 nx pcs lv cs x b cl cm so ti pu np) (xV (rest := []) ⟨hx, hb, hml, hown, hts⟩ (c_Model_claimed a k n (sp_Model_reg (sp_Model_field x0 15 5) h x) 2 h ca tv nx pcs lv cs x b cl cm so ti pu np hn hh) mw_Model_claimed mv_Model_claimed k_872 ⟨rfl, rfl, Nat.le_of_ble_eq_true rfl, Nat.le_of_ble_eq_true rfl⟩ hK hP hD hS hA hF [0, 1, 2, 3, 4, 5, 6, 7, 8, 9] [0, 1, 2, 3, 4, 5, 6, 7, 8] rfl rfl rfl 0 5 rfl rfl rfl rfl hl.1 rfl (Nat.le_of_ble_eq_true rfl) d_Model_claims_102 ⟨Nat.zero_le _, Nat.zero_le _⟩) hP hD hS hA [0, 1, 2, 3, 4, 5, 6, 7, 8, 9] [] [0, 1, 2, 3, 4, 5, 6, 7, 8, 9] rfl rfl rfl (by decide) (fun _ => rfl) rfl (fun r_11 u_11 H locs h_11 hP hD hS => ?_)
        obtain ⟨ca_11, tv_11⟩ := u_11
        dsimp only at hP hD
        refine lv_istore (lv' := [(4, .int r_11), (3, .int 1), (2, .int (sp_Model_field x0 27 5)), (0, .ref (a 0)), (1, .int x0)]) hx hb d_Model_claims_105 hl (by decide) rfl (fun ls hl => ?_)
        refine lv_iload hx hb d_Model_claims_107 (lv_at hl 0 rfl) ?_
        refine lv_if_ge (tgt := 113) hx hb d_Model_claims_109 (by decide) (fun c_12 => ?_) (fun c_12 => ?_)
        · refine lv_aload_n hx hb d_Model_claims_113 rfl (lv_at hl 3 rfl) ?_
          refine lv_iload_n hx hb d_Model_claims_114 rfl (lv_at hl 4 rfl) ?_
          refine lv_bipush (v := 20) hx hb d_Model_claims_115 rfl ?_
          refine lv_iconst (v := 5) hx hb d_Model_claims_117 rfl ?_
          refine xi (wr := [((a 0), .inr (5, [.int (nI n), .ref (a 1), .ref (a 2), .ref (a 3), .ref (a 4), .ref (a 5), .ref (a 6), .ref (a 7), .ref (a 8), .long ti, .ref (a 9), .int np, .int h, .int ca_11, .int tv_11, .int nx])), ((a 1), .inl ((k 0), 16384, .inl b)), ((a 2), .inl ((k 1), 64, .inl x)), ((a 3), .inl ((k 2), 2, .inl pcs)), ((a 4), .inl ((k 3), 2, .inl lv)), ((a 5), .inl ((k 4), 8192, .inl cs)), ((a 6), .inl ((k 5), 2, .inl cl)), ((a 7), .inl ((k 6), 2, .inr (.inl cm))), ((a 8), .inl ((k 7), 2, .inl so)), ((a 9), .inl ((k 8), 256, .inl pu))]) (W2 := fun _ => wR a k n h ca_11 tv_11 nx pcs lv cs x b cl cm so ti pu np) (xS (rest := [.ref (a 0)]) ⟨hx, hb, hml, hown, hts⟩ (c_Model_field x0 20 5) mw_Model_field ms_Model_field k_787 ⟨rfl, rfl, Nat.le_of_ble_eq_true rfl, Nat.le_of_ble_eq_true rfl⟩ hK hP hD hS hA hF [] [] rfl rfl rfl rfl hl.1 rfl (Nat.le_of_ble_eq_true rfl) d_Model_claims_118 ⟨Nat.zero_le _, Nat.zero_le _⟩) hP hD hS hA [] [0, 1, 2, 3, 4, 5, 6, 7, 8, 9] [0, 1, 2, 3, 4, 5, 6, 7, 8, 9] rfl rfl rfl (by decide) (fun _ => rfl) rfl (fun r_13 _ H locs h_13 hP hD hS => ?_)
          subst h_13
          refine xi (wr := []) (W2 := fun _ => wR a k n h ca_11 tv_11 nx pcs lv cs x b cl cm so ti pu np) (xV (rest := []) ⟨hx, hb, hml, hown, hts⟩ (c_Model_reg a k n (sp_Model_field x0 20 5) h ca_11 tv_11 nx pcs lv cs x b cl cm so ti pu np hn hh (vp_f5 _ _)) mw_Model_reg mv_Model_reg k_802 ⟨rfl, rfl, Nat.le_of_ble_eq_true rfl, Nat.le_of_ble_eq_true rfl⟩ hK hP hD hS hA hF [0, 1, 2, 3, 4, 5, 6, 7, 8, 9] [0, 1, 2, 3, 4, 5, 6, 7, 8] rfl rfl rfl 0 5 rfl rfl rfl rfl hl.1 rfl (Nat.le_of_ble_eq_true rfl) d_Model_claims_121 ⟨Nat.zero_le _, Nat.zero_le _⟩) hP hD hS hA [0, 1, 2, 3, 4, 5, 6, 7, 8, 9] [] [0, 1, 2, 3, 4, 5, 6, 7, 8, 9] rfl rfl rfl (by decide) (fun _ => rfl) rfl (fun r_14 _ H locs h_14 hP hD hS => ?_)
          subst h_14
          refine lv_istore (lv' := [(5, .int (sp_Model_reg (sp_Model_field x0 20 5) h x)), (4, .int r_11), (3, .int 1), (2, .int (sp_Model_field x0 27 5)), (0, .ref (a 0)), (1, .int x0)]) hx hb d_Model_claims_124 hl (by decide) rfl (fun ls hl => ?_)
          refine lv_aload_n hx hb d_Model_claims_126 rfl (lv_at hl 4 rfl) ?_
          refine lv_iload hx hb d_Model_claims_127 (lv_at hl 1 rfl) ?_
          refine xi (wr := []) (W2 := fun _ => wR a k n h ca_11 tv_11 nx pcs lv cs x b cl cm so ti pu np) (xV (rest := []) ⟨hx, hb, hml, hown, hts⟩ (c_Model_ramWord a k n r_11 h ca_11 tv_11 nx pcs lv cs x b cl cm so ti pu np hn (vpw_claimed hn h_11 c_12)) mw_Model_ramWord mv_Model_ramWord k_690 ⟨rfl, rfl, Nat.le_of_ble_eq_true rfl, Nat.le_of_ble_eq_true rfl⟩ hK hP hD hS hA hF [0, 1, 2, 3, 4, 5, 6, 7, 8, 9] [0, 1, 2, 3, 4, 5, 6, 7, 8] rfl rfl rfl 0 5 rfl rfl rfl rfl hl.1 rfl (Nat.le_of_ble_eq_true rfl) d_Model_claims_129 ⟨Nat.zero_le _, Nat.zero_le _⟩) hP hD hS hA [0, 1, 2, 3, 4, 5, 6, 7, 8, 9] [] [0, 1, 2, 3, 4, 5, 6, 7, 8, 9] rfl rfl rfl (by decide) (fun _ => rfl) rfl (fun r_15 _ H locs h_15 hP hD hS => ?_)
          subst h_15
          refine lv_istore (lv' := [(6, .int (sp_Model_ramWord r_11 b)), (5, .int (sp_Model_reg (sp_Model_field x0 20 5) h x)), (4, .int r_11), (3, .int 1), (2, .int (sp_Model_field x0 27 5)), (0, .ref (a 0)), (1, .int x0)]) hx hb d_Model_claims_132 hl (by decide) rfl (fun ls hl => ?_)
          refine lv_iload hx hb d_Model_claims_134 (lv_at hl 0 rfl) ?_
          refine lv_istore (lv' := [(7, .int (sp_Model_ramWord r_11 b)), (6, .int (sp_Model_ramWord r_11 b)), (5, .int (sp_Model_reg (sp_Model_field x0 20 5) h x)), (4, .int r_11), (3, .int 1), (2, .int (sp_Model_field x0 27 5)), (0, .ref (a 0)), (1, .int x0)]) hx hb d_Model_claims_136 hl (by decide) rfl (fun ls hl => ?_)
          refine lv_iload_n hx hb d_Model_claims_138 rfl (lv_at hl 5 rfl) ?_
          refine lv_iconst (v := 2) hx hb d_Model_claims_139 rfl ?_
          refine lv_icmp_ne (tgt := 157) hx hb d_Model_claims_140 (by decide) (fun _ => ?_) (fun h9 => absurd h9 c_7)
          refine lv_iload_n hx hb d_Model_claims_157 rfl (lv_at hl 5 rfl) ?_
          refine lv_iconst (v := 3) hx hb d_Model_claims_158 rfl ?_
          refine lv_icmp_ne (tgt := 176) hx hb d_Model_claims_159 (by decide) (fun c_17 => ?_) (fun c_17 => ?_)
          · refine lv_iconst (v := 1) hx hb d_Model_claims_176 rfl ?_
            refine lv_goto (tgt := 181) hx hb d_Model_claims_177 (by decide) ?_
            refine lv_istore (lv' := [(8, .int 1), (7, .int (sp_Model_ramWord r_11 b)), (6, .int (sp_Model_ramWord r_11 b)), (5, .int (sp_Model_reg (sp_Model_field x0 20 5) h x)), (4, .int r_11), (3, .int 1), (2, .int (sp_Model_field x0 27 5)), (0, .ref (a 0)), (1, .int x0)]) hx hb d_Model_claims_181 hl (by decide) rfl (fun ls hl => ?_)
            refine lv_iload_n hx hb d_Model_claims_183 rfl (lv_at hl 6 rfl) ?_
            refine lv_iconst (v := 3) hx hb d_Model_claims_184 rfl ?_
            refine lv_icmp_ne (tgt := 200) hx hb d_Model_claims_185 (by decide) (fun _ => ?_) (fun h9 => absurd h9 c_17)
            refine lv_aload_n hx hb d_Model_claims_200 rfl (lv_at hl 7 rfl) ?_
            refine va_get (D := D) (ci := 5) (v := .ref (a 6)) (C := R_Model) (T := F_Model) (N := 16) hx hb hts i_Model hown hK hP 0 rfl rfl 6 (by decide) (hts _ k_631) (fun _ h9 => h9) rfl d_Model_claims_201 ?_
            refine lv_aload_n hx hb d_Model_claims_204 rfl (lv_at hl 7 rfl) ?_
            refine va_get (D := D) (ci := 5) (v := .int h) (C := R_Model) (T := F_Model) (N := 16) hx hb hts i_Model hown hK hP 0 rfl rfl 12 (by decide) (hts _ k_637) (fun _ h9 => h9) rfl d_Model_claims_205 ?_
            refine lv_iconst (v := (-1)) hx hb d_Model_claims_208 rfl ?_
            refine y_iast (ws' := wR a k n h ca_11 tv_11 nx pcs lv cs x b (upd cl h.toNatClampNeg (-1)) cm so ti pu np) hx hb hK hP hD hS 6 5 rfl rfl (vp_01 hh (by decide)) d_Model_claims_209 rfl (fun H locs hP hD hS => ?_)
            refine lv_iload hx hb d_Model_claims_210 (lv_at hl 0 rfl) ?_
            refine lv_if_eq (tgt := 252) hx hb d_Model_claims_212 (by decide) (fun h9 => absurd h9 (by decide)) (fun _ => ?_)
            refine lv_aload_n hx hb d_Model_claims_215 rfl (lv_at hl 7 rfl) ?_
            refine lv_iload hx hb d_Model_claims_216 (lv_at hl 4 rfl) ?_
            refine lv_iconst (v := 4) hx hb d_Model_claims_218 rfl ?_
            refine lv_iload_n hx hb d_Model_claims_219 rfl (lv_at hl 6 rfl) ?_
            refine lv_iconst (v := 3) hx hb d_Model_claims_220 rfl ?_
            refine lv_icmp_ne (tgt := 229) hx hb d_Model_claims_221 (by decide) (fun _ => ?_) (fun h9 => absurd h9 c_17)
            refine lv_iload_n hx hb d_Model_claims_229 rfl (lv_at hl 6 rfl) ?_
            refine lv_iload hx hb d_Model_claims_230 (lv_at hl 2 rfl) ?_
            refine lv_iload hx hb d_Model_claims_232 (lv_at hl 3 rfl) ?_
            refine xi (wr := [((a 0), .inr (5, [.int (nI n), .ref (a 1), .ref (a 2), .ref (a 3), .ref (a 4), .ref (a 5), .ref (a 6), .ref (a 7), .ref (a 8), .long ti, .ref (a 9), .int np, .int h, .int ca_11, .int tv_11, .int nx])), ((a 1), .inl ((k 0), 16384, .inl b)), ((a 2), .inl ((k 1), 64, .inl x)), ((a 3), .inl ((k 2), 2, .inl pcs)), ((a 4), .inl ((k 3), 2, .inl lv)), ((a 5), .inl ((k 4), 8192, .inl cs)), ((a 6), .inl ((k 5), 2, .inl (upd cl h.toNatClampNeg (-1)))), ((a 7), .inl ((k 6), 2, .inr (.inl cm))), ((a 8), .inl ((k 7), 2, .inl so)), ((a 9), .inl ((k 8), 256, .inl pu))]) (W2 := fun _ => wR a k n h ca_11 tv_11 nx pcs lv cs x b (upd cl h.toNatClampNeg (-1)) cm so ti pu np) (xS (rest := [.int 4, .int r_11, .ref (a 0)]) ⟨hx, hb, hml, hown, hts⟩ (c_Model_changed (sp_Model_field x0 27 5) (sp_Model_ramWord r_11 b) (sp_Model_reg (sp_Model_field x0 20 5) h x)) mw_Model_changed ms_Model_changed k_876 ⟨rfl, rfl, Nat.le_of_ble_eq_true rfl, Nat.le_of_ble_eq_true rfl⟩ hK hP hD hS hA hF [] [] rfl rfl rfl rfl hl.1 rfl (Nat.le_of_ble_eq_true rfl) d_Model_claims_234 ⟨Nat.zero_le _, Nat.zero_le _⟩) hP hD hS hA [] [0, 1, 2, 3, 4, 5, 6, 7, 8, 9] [0, 1, 2, 3, 4, 5, 6, 7, 8, 9] rfl rfl rfl (by decide) (fun _ => rfl) rfl (fun r_21 _ H locs h_21 hP hD hS => ?_)
            subst h_21
            refine xv (wr := []) (W2 := fun u9 => wR a k n h ca_11 tv_11 nx pcs lv cs x u9 (upd cl h.toNatClampNeg (-1)) cm so ti pu np) (xV (rest := []) ⟨hx, hb, hml, hown, hts⟩ (c_Model_setBytes a k n r_11 4 (sp_Model_changed (sp_Model_field x0 27 5) (sp_Model_ramWord r_11 b) (sp_Model_reg (sp_Model_field x0 20 5) h x)) h ca_11 tv_11 nx pcs lv cs x b (upd cl h.toNatClampNeg (-1)) cm so ti pu np hn (Or.inr (Or.inr rfl)) (sb_claimed hn h_11 c_12)) mw_Model_setBytes mv_Model_setBytes k_682 ⟨rfl, rfl, Nat.le_of_ble_eq_true rfl, Nat.le_of_ble_eq_true rfl⟩ hK hP hD hS hA hF [0, 1, 2, 3, 4, 5, 6, 7, 8, 9] [0, 1, 2, 3, 4, 5, 6, 7, 8] rfl rfl rfl 0 5 rfl rfl rfl rfl hl.1 rfl (Nat.le_of_ble_eq_true rfl) d_Model_claims_237 ⟨Nat.zero_le _, Nat.zero_le _⟩) hP hD hS hA [0, 1, 2, 3, 4, 5, 6, 7, 8, 9] [] [0, 1, 2, 3, 4, 5, 6, 7, 8, 9] rfl rfl rfl (by decide) (fun _ => rfl) rfl (fun u_22 H locs h_22 hP hD hS => ?_)
            obtain ⟨b_22, e_22⟩ : ∃ z, z = u_22 := ⟨_, rfl⟩
            subst e_22
            refine lv_aload_n hx hb d_Model_claims_240 rfl (lv_at hl 7 rfl) ?_
            refine va_get (D := D) (ci := 5) (v := .ref (a 6)) (C := R_Model) (T := F_Model) (N := 16) hx hb hts i_Model hown hK hP 0 rfl rfl 6 (by decide) (hts _ k_631) (fun _ h9 => h9) rfl d_Model_claims_241 ?_
            refine lv_iconst (v := 1) hx hb d_Model_claims_244 rfl ?_
            refine lv_aload_n hx hb d_Model_claims_245 rfl (lv_at hl 7 rfl) ?_
            refine va_get (D := D) (ci := 5) (v := .int h) (C := R_Model) (T := F_Model) (N := 16) hx hb hts i_Model hown hK hP 0 rfl rfl 12 (by decide) (hts _ k_637) (fun _ h9 => h9) rfl d_Model_claims_246 ?_
            refine lv_isub hx hb d_Model_claims_249 ?_
            refine lv_iconst (v := (-1)) hx hb d_Model_claims_250 rfl ?_
            refine y_iast (ws' := wR a k n h ca_11 tv_11 nx pcs lv cs x b_22 (upd (upd cl h.toNatClampNeg (-1)) ((1 - h).toNatClampNeg) (-1)) cm so ti pu np) hx hb hK hP hD hS 6 5 rfl rfl (vp_1m hh) d_Model_claims_251 rfl (fun H locs hP hD hS => ?_)
            refine lv_aload_n hx hb d_Model_claims_252 rfl (lv_at hl 7 rfl) ?_
            refine lv_iload_n hx hb d_Model_claims_253 rfl (lv_at hl 8 rfl) ?_
            refine lv_bipush (v := 7) hx hb d_Model_claims_254 rfl ?_
            refine lv_iconst (v := 5) hx hb d_Model_claims_256 rfl ?_
            refine xi (wr := [((a 0), .inr (5, [.int (nI n), .ref (a 1), .ref (a 2), .ref (a 3), .ref (a 4), .ref (a 5), .ref (a 6), .ref (a 7), .ref (a 8), .long ti, .ref (a 9), .int np, .int h, .int ca_11, .int tv_11, .int nx])), ((a 1), .inl ((k 0), 16384, .inl b_22)), ((a 2), .inl ((k 1), 64, .inl x)), ((a 3), .inl ((k 2), 2, .inl pcs)), ((a 4), .inl ((k 3), 2, .inl lv)), ((a 5), .inl ((k 4), 8192, .inl cs)), ((a 6), .inl ((k 5), 2, .inl (upd (upd cl h.toNatClampNeg (-1)) ((1 - h).toNatClampNeg) (-1)))), ((a 7), .inl ((k 6), 2, .inr (.inl cm))), ((a 8), .inl ((k 7), 2, .inl so)), ((a 9), .inl ((k 8), 256, .inl pu))]) (W2 := fun _ => wR a k n h ca_11 tv_11 nx pcs lv cs x b_22 (upd (upd cl h.toNatClampNeg (-1)) ((1 - h).toNatClampNeg) (-1)) cm so ti pu np) (xS (rest := [.ref (a 0)]) ⟨hx, hb, hml, hown, hts⟩ (c_Model_field x0 7 5) mw_Model_field ms_Model_field k_787 ⟨rfl, rfl, Nat.le_of_ble_eq_true rfl, Nat.le_of_ble_eq_true rfl⟩ hK hP hD hS hA hF [] [] rfl rfl rfl rfl hl.1 rfl (Nat.le_of_ble_eq_true rfl) d_Model_claims_257 ⟨Nat.zero_le _, Nat.zero_le _⟩) hP hD hS hA [] [0, 1, 2, 3, 4, 5, 6, 7, 8, 9] [0, 1, 2, 3, 4, 5, 6, 7, 8, 9] rfl rfl rfl (by decide) (fun _ => rfl) rfl (fun r_23 _ H locs h_23 hP hD hS => ?_)
            subst h_23
            refine lv_iload hx hb d_Model_claims_260 (lv_at hl 1 rfl) ?_
            refine xv (wr := []) (W2 := fun u9 => wR a k n h ca_11 tv_11 nx pcs lv cs u9 b_22 (upd (upd cl h.toNatClampNeg (-1)) ((1 - h).toNatClampNeg) (-1)) cm so ti pu np) (xV (rest := []) ⟨hx, hb, hml, hown, hts⟩ (c_Model_setReg a k n (sp_Model_field x0 7 5) (sp_Model_ramWord r_11 b) h ca_11 tv_11 nx pcs lv cs x b_22 (upd (upd cl h.toNatClampNeg (-1)) ((1 - h).toNatClampNeg) (-1)) cm so ti pu np hn hh (vp_f5 _ _)) mw_Model_setReg mv_Model_setReg k_790 ⟨rfl, rfl, Nat.le_of_ble_eq_true rfl, Nat.le_of_ble_eq_true rfl⟩ hK hP hD hS hA hF [0, 1, 2, 3, 4, 5, 6, 7, 8, 9] [0, 1, 2, 3, 4, 5, 6, 7, 8] rfl rfl rfl 0 5 rfl rfl rfl rfl hl.1 rfl (Nat.le_of_ble_eq_true rfl) d_Model_claims_262 ⟨Nat.zero_le _, Nat.zero_le _⟩) hP hD hS hA [0, 1, 2, 3, 4, 5, 6, 7, 8, 9] [] [0, 1, 2, 3, 4, 5, 6, 7, 8, 9] rfl rfl rfl (by decide) (fun _ => rfl) rfl (fun u_24 H locs h_24 hP hD hS => ?_)
            obtain ⟨x_24, e_24⟩ : ∃ z, z = u_24 := ⟨_, rfl⟩
            subst e_24
            exact rv (ca_11, tv_11, x_24, b_22, (upd (upd cl h.toNatClampNeg (-1)) ((1 - h).toNatClampNeg) (-1))) hx hb hr hlocks hP hD hS d_Model_claims_265 (by simp only [sp_Model_claims, h_11, h_22, h_24, if_pos c_2, if_pos c_4, if_neg c_7, if_pos c_12, if_neg c_17])
          · refine lv_aload_n hx hb d_Model_claims_162 rfl (lv_at hl 6 rfl) ?_
            refine va_get (D := D) (ci := 5) (v := .ref (a 6)) (C := R_Model) (T := F_Model) (N := 16) hx hb hts i_Model hown hK hP 0 rfl rfl 6 (by decide) (hts _ k_631) (fun _ h9 => h9) rfl d_Model_claims_163 ?_
            refine lv_aload_n hx hb d_Model_claims_166 rfl (lv_at hl 6 rfl) ?_
            refine va_get (D := D) (ci := 5) (v := .int h) (C := R_Model) (T := F_Model) (N := 16) hx hb hts i_Model hown hK hP 0 rfl rfl 12 (by decide) (hts _ k_637) (fun _ h9 => h9) rfl d_Model_claims_167 ?_
            refine y_iald (v := cl h.toNatClampNeg) hx hb hK hP 6 5 rfl rfl (vp_01 hh (by decide)) rfl d_Model_claims_170 ?_
            refine lv_iload hx hb d_Model_claims_171 (lv_at hl 3 rfl) ?_
            refine lv_icmp_ne (tgt := 180) hx hb d_Model_claims_173 (by decide) (fun c_25 => ?_) (fun c_25 => ?_)
            · refine lv_iconst (v := 0) hx hb d_Model_claims_180 rfl ?_
              refine lv_istore (lv' := [(8, .int 0), (7, .int (sp_Model_ramWord r_11 b)), (6, .int (sp_Model_ramWord r_11 b)), (5, .int (sp_Model_reg (sp_Model_field x0 20 5) h x)), (4, .int r_11), (3, .int 1), (2, .int (sp_Model_field x0 27 5)), (0, .ref (a 0)), (1, .int x0)]) hx hb d_Model_claims_181 hl (by decide) rfl (fun ls hl => ?_)
              refine lv_iload_n hx hb d_Model_claims_183 rfl (lv_at hl 6 rfl) ?_
              refine lv_iconst (v := 3) hx hb d_Model_claims_184 rfl ?_
              refine lv_icmp_ne (tgt := 200) hx hb d_Model_claims_185 (by decide) (fun h9 => absurd c_17 h9) (fun _ => ?_)
              refine lv_iload hx hb d_Model_claims_188 (lv_at hl 0 rfl) ?_
              refine lv_if_eq (tgt := 197) hx hb d_Model_claims_190 (by decide) (fun _ => ?_) (fun h9 => absurd (by decide) h9)
              refine lv_iconst (v := 1) hx hb d_Model_claims_197 rfl ?_
              refine lv_istore (lv' := [(7, .int 1), (8, .int 0), (6, .int (sp_Model_ramWord r_11 b)), (5, .int (sp_Model_reg (sp_Model_field x0 20 5) h x)), (4, .int r_11), (3, .int 1), (2, .int (sp_Model_field x0 27 5)), (0, .ref (a 0)), (1, .int x0)]) hx hb d_Model_claims_198 hl (by decide) rfl (fun ls hl => ?_)
              refine lv_aload_n hx hb d_Model_claims_200 rfl (lv_at hl 7 rfl) ?_
              refine va_get (D := D) (ci := 5) (v := .ref (a 6)) (C := R_Model) (T := F_Model) (N := 16) hx hb hts i_Model hown hK hP 0 rfl rfl 6 (by decide) (hts _ k_631) (fun _ h9 => h9) rfl d_Model_claims_201 ?_
              refine lv_aload_n hx hb d_Model_claims_204 rfl (lv_at hl 7 rfl) ?_
              refine va_get (D := D) (ci := 5) (v := .int h) (C := R_Model) (T := F_Model) (N := 16) hx hb hts i_Model hown hK hP 0 rfl rfl 12 (by decide) (hts _ k_637) (fun _ h9 => h9) rfl d_Model_claims_205 ?_
              refine lv_iconst (v := (-1)) hx hb d_Model_claims_208 rfl ?_
              refine y_iast (ws' := wR a k n h ca_11 tv_11 nx pcs lv cs x b (upd cl h.toNatClampNeg (-1)) cm so ti pu np) hx hb hK hP hD hS 6 5 rfl rfl (vp_01 hh (by decide)) d_Model_claims_209 rfl (fun H locs hP hD hS => ?_)
              refine lv_iload hx hb d_Model_claims_210 (lv_at hl 1 rfl) ?_
              refine lv_if_eq (tgt := 252) hx hb d_Model_claims_212 (by decide) (fun _ => ?_) (fun h9 => absurd (by decide) h9)
              refine lv_aload_n hx hb d_Model_claims_252 rfl (lv_at hl 7 rfl) ?_
              refine lv_iload_n hx hb d_Model_claims_253 rfl (lv_at hl 8 rfl) ?_
              refine lv_bipush (v := 7) hx hb d_Model_claims_254 rfl ?_
              refine lv_iconst (v := 5) hx hb d_Model_claims_256 rfl ?_
              refine xi (wr := [((a 0), .inr (5, [.int (nI n), .ref (a 1), .ref (a 2), .ref (a 3), .ref (a 4), .ref (a 5), .ref (a 6), .ref (a 7), .ref (a 8), .long ti, .ref (a 9), .int np, .int h, .int ca_11, .int tv_11, .int nx])), ((a 1), .inl ((k 0), 16384, .inl b)), ((a 2), .inl ((k 1), 64, .inl x)), ((a 3), .inl ((k 2), 2, .inl pcs)), ((a 4), .inl ((k 3), 2, .inl lv)), ((a 5), .inl ((k 4), 8192, .inl cs)), ((a 6), .inl ((k 5), 2, .inl (upd cl h.toNatClampNeg (-1)))), ((a 7), .inl ((k 6), 2, .inr (.inl cm))), ((a 8), .inl ((k 7), 2, .inl so)), ((a 9), .inl ((k 8), 256, .inl pu))]) (W2 := fun _ => wR a k n h ca_11 tv_11 nx pcs lv cs x b (upd cl h.toNatClampNeg (-1)) cm so ti pu np) (xS (rest := [.ref (a 0)]) ⟨hx, hb, hml, hown, hts⟩ (c_Model_field x0 7 5) mw_Model_field ms_Model_field k_787 ⟨rfl, rfl, Nat.le_of_ble_eq_true rfl, Nat.le_of_ble_eq_true rfl⟩ hK hP hD hS hA hF [] [] rfl rfl rfl rfl hl.1 rfl (Nat.le_of_ble_eq_true rfl) d_Model_claims_257 ⟨Nat.zero_le _, Nat.zero_le _⟩) hP hD hS hA [] [0, 1, 2, 3, 4, 5, 6, 7, 8, 9] [0, 1, 2, 3, 4, 5, 6, 7, 8, 9] rfl rfl rfl (by decide) (fun _ => rfl) rfl (fun r_29 _ H locs h_29 hP hD hS => ?_)
              subst h_29
              refine lv_iload hx hb d_Model_claims_260 (lv_at hl 0 rfl) ?_
              refine xv (wr := []) (W2 := fun u9 => wR a k n h ca_11 tv_11 nx pcs lv cs u9 b (upd cl h.toNatClampNeg (-1)) cm so ti pu np) (xV (rest := []) ⟨hx, hb, hml, hown, hts⟩ (c_Model_setReg a k n (sp_Model_field x0 7 5) 1 h ca_11 tv_11 nx pcs lv cs x b (upd cl h.toNatClampNeg (-1)) cm so ti pu np hn hh (vp_f5 _ _)) mw_Model_setReg mv_Model_setReg k_790 ⟨rfl, rfl, Nat.le_of_ble_eq_true rfl, Nat.le_of_ble_eq_true rfl⟩ hK hP hD hS hA hF [0, 1, 2, 3, 4, 5, 6, 7, 8, 9] [0, 1, 2, 3, 4, 5, 6, 7, 8] rfl rfl rfl 0 5 rfl rfl rfl rfl hl.1 rfl (Nat.le_of_ble_eq_true rfl) d_Model_claims_262 ⟨Nat.zero_le _, Nat.zero_le _⟩) hP hD hS hA [0, 1, 2, 3, 4, 5, 6, 7, 8, 9] [] [0, 1, 2, 3, 4, 5, 6, 7, 8, 9] rfl rfl rfl (by decide) (fun _ => rfl) rfl (fun u_30 H locs h_30 hP hD hS => ?_)
              obtain ⟨x_30, e_30⟩ : ∃ z, z = u_30 := ⟨_, rfl⟩
              subst e_30
              exact rv (ca_11, tv_11, x_30, b, (upd cl h.toNatClampNeg (-1))) hx hb hr hlocks hP hD hS d_Model_claims_265 (by simp only [sp_Model_claims, h_11, h_30, if_pos c_2, if_pos c_4, if_neg c_7, if_pos c_12, if_pos c_17, if_neg c_25])
            · refine lv_iconst (v := 1) hx hb d_Model_claims_176 rfl ?_
              refine lv_goto (tgt := 181) hx hb d_Model_claims_177 (by decide) ?_
              refine lv_istore (lv' := [(8, .int 1), (7, .int (sp_Model_ramWord r_11 b)), (6, .int (sp_Model_ramWord r_11 b)), (5, .int (sp_Model_reg (sp_Model_field x0 20 5) h x)), (4, .int r_11), (3, .int 1), (2, .int (sp_Model_field x0 27 5)), (0, .ref (a 0)), (1, .int x0)]) hx hb d_Model_claims_181 hl (by decide) rfl (fun ls hl => ?_)
              refine lv_iload_n hx hb d_Model_claims_183 rfl (lv_at hl 6 rfl) ?_
              refine lv_iconst (v := 3) hx hb d_Model_claims_184 rfl ?_
              refine lv_icmp_ne (tgt := 200) hx hb d_Model_claims_185 (by decide) (fun h9 => absurd c_17 h9) (fun _ => ?_)
              refine lv_iload hx hb d_Model_claims_188 (lv_at hl 0 rfl) ?_
              refine lv_if_eq (tgt := 197) hx hb d_Model_claims_190 (by decide) (fun h9 => absurd h9 (by decide)) (fun _ => ?_)
              refine lv_iconst (v := 0) hx hb d_Model_claims_193 rfl ?_
              refine lv_goto (tgt := 198) hx hb d_Model_claims_194 (by decide) ?_
              refine lv_istore (lv' := [(7, .int 0), (8, .int 1), (6, .int (sp_Model_ramWord r_11 b)), (5, .int (sp_Model_reg (sp_Model_field x0 20 5) h x)), (4, .int r_11), (3, .int 1), (2, .int (sp_Model_field x0 27 5)), (0, .ref (a 0)), (1, .int x0)]) hx hb d_Model_claims_198 hl (by decide) rfl (fun ls hl => ?_)
              refine lv_aload_n hx hb d_Model_claims_200 rfl (lv_at hl 7 rfl) ?_
              refine va_get (D := D) (ci := 5) (v := .ref (a 6)) (C := R_Model) (T := F_Model) (N := 16) hx hb hts i_Model hown hK hP 0 rfl rfl 6 (by decide) (hts _ k_631) (fun _ h9 => h9) rfl d_Model_claims_201 ?_
              refine lv_aload_n hx hb d_Model_claims_204 rfl (lv_at hl 7 rfl) ?_
              refine va_get (D := D) (ci := 5) (v := .int h) (C := R_Model) (T := F_Model) (N := 16) hx hb hts i_Model hown hK hP 0 rfl rfl 12 (by decide) (hts _ k_637) (fun _ h9 => h9) rfl d_Model_claims_205 ?_
              refine lv_iconst (v := (-1)) hx hb d_Model_claims_208 rfl ?_
              refine y_iast (ws' := wR a k n h ca_11 tv_11 nx pcs lv cs x b (upd cl h.toNatClampNeg (-1)) cm so ti pu np) hx hb hK hP hD hS 6 5 rfl rfl (vp_01 hh (by decide)) d_Model_claims_209 rfl (fun H locs hP hD hS => ?_)
              refine lv_iload hx hb d_Model_claims_210 (lv_at hl 1 rfl) ?_
              refine lv_if_eq (tgt := 252) hx hb d_Model_claims_212 (by decide) (fun h9 => absurd h9 (by decide)) (fun _ => ?_)
              refine lv_aload_n hx hb d_Model_claims_215 rfl (lv_at hl 7 rfl) ?_
              refine lv_iload hx hb d_Model_claims_216 (lv_at hl 4 rfl) ?_
              refine lv_iconst (v := 4) hx hb d_Model_claims_218 rfl ?_
              refine lv_iload_n hx hb d_Model_claims_219 rfl (lv_at hl 6 rfl) ?_
              refine lv_iconst (v := 3) hx hb d_Model_claims_220 rfl ?_
              refine lv_icmp_ne (tgt := 229) hx hb d_Model_claims_221 (by decide) (fun h9 => absurd c_17 h9) (fun _ => ?_)
              refine lv_iload hx hb d_Model_claims_224 (lv_at hl 3 rfl) ?_
              refine lv_goto (tgt := 237) hx hb d_Model_claims_226 (by decide) ?_
              refine xv (wr := []) (W2 := fun u9 => wR a k n h ca_11 tv_11 nx pcs lv cs x u9 (upd cl h.toNatClampNeg (-1)) cm so ti pu np) (xV (rest := []) ⟨hx, hb, hml, hown, hts⟩ (c_Model_setBytes a k n r_11 4 (sp_Model_reg (sp_Model_field x0 20 5) h x) h ca_11 tv_11 nx pcs lv cs x b (upd cl h.toNatClampNeg (-1)) cm so ti pu np hn (Or.inr (Or.inr rfl)) (sb_claimed hn h_11 c_12)) mw_Model_setBytes mv_Model_setBytes k_682 ⟨rfl, rfl, Nat.le_of_ble_eq_true rfl, Nat.le_of_ble_eq_true rfl⟩ hK hP hD hS hA hF [0, 1, 2, 3, 4, 5, 6, 7, 8, 9] [0, 1, 2, 3, 4, 5, 6, 7, 8] rfl rfl rfl 0 5 rfl rfl rfl rfl hl.1 rfl (Nat.le_of_ble_eq_true rfl) d_Model_claims_237 ⟨Nat.zero_le _, Nat.zero_le _⟩) hP hD hS hA [0, 1, 2, 3, 4, 5, 6, 7, 8, 9] [] [0, 1, 2, 3, 4, 5, 6, 7, 8, 9] rfl rfl rfl (by decide) (fun _ => rfl) rfl (fun u_35 H locs h_35 hP hD hS => ?_)
              obtain ⟨b_35, e_35⟩ : ∃ z, z = u_35 := ⟨_, rfl⟩
              subst e_35
              refine lv_aload_n hx hb d_Model_claims_240 rfl (lv_at hl 7 rfl) ?_
              refine va_get (D := D) (ci := 5) (v := .ref (a 6)) (C := R_Model) (T := F_Model) (N := 16) hx hb hts i_Model hown hK hP 0 rfl rfl 6 (by decide) (hts _ k_631) (fun _ h9 => h9) rfl d_Model_claims_241 ?_
              refine lv_iconst (v := 1) hx hb d_Model_claims_244 rfl ?_
              refine lv_aload_n hx hb d_Model_claims_245 rfl (lv_at hl 7 rfl) ?_
              refine va_get (D := D) (ci := 5) (v := .int h) (C := R_Model) (T := F_Model) (N := 16) hx hb hts i_Model hown hK hP 0 rfl rfl 12 (by decide) (hts _ k_637) (fun _ h9 => h9) rfl d_Model_claims_246 ?_
              refine lv_isub hx hb d_Model_claims_249 ?_
              refine lv_iconst (v := (-1)) hx hb d_Model_claims_250 rfl ?_
              refine y_iast (ws' := wR a k n h ca_11 tv_11 nx pcs lv cs x b_35 (upd (upd cl h.toNatClampNeg (-1)) ((1 - h).toNatClampNeg) (-1)) cm so ti pu np) hx hb hK hP hD hS 6 5 rfl rfl (vp_1m hh) d_Model_claims_251 rfl (fun H locs hP hD hS => ?_)
              refine lv_aload_n hx hb d_Model_claims_252 rfl (lv_at hl 7 rfl) ?_
              refine lv_iload_n hx hb d_Model_claims_253 rfl (lv_at hl 8 rfl) ?_
              refine lv_bipush (v := 7) hx hb d_Model_claims_254 rfl ?_
              refine lv_iconst (v := 5) hx hb d_Model_claims_256 rfl ?_
              refine xi (wr := [((a 0), .inr (5, [.int (nI n), .ref (a 1), .ref (a 2), .ref (a 3), .ref (a 4), .ref (a 5), .ref (a 6), .ref (a 7), .ref (a 8), .long ti, .ref (a 9), .int np, .int h, .int ca_11, .int tv_11, .int nx])), ((a 1), .inl ((k 0), 16384, .inl b_35)), ((a 2), .inl ((k 1), 64, .inl x)), ((a 3), .inl ((k 2), 2, .inl pcs)), ((a 4), .inl ((k 3), 2, .inl lv)), ((a 5), .inl ((k 4), 8192, .inl cs)), ((a 6), .inl ((k 5), 2, .inl (upd (upd cl h.toNatClampNeg (-1)) ((1 - h).toNatClampNeg) (-1)))), ((a 7), .inl ((k 6), 2, .inr (.inl cm))), ((a 8), .inl ((k 7), 2, .inl so)), ((a 9), .inl ((k 8), 256, .inl pu))]) (W2 := fun _ => wR a k n h ca_11 tv_11 nx pcs lv cs x b_35 (upd (upd cl h.toNatClampNeg (-1)) ((1 - h).toNatClampNeg) (-1)) cm so ti pu np) (xS (rest := [.ref (a 0)]) ⟨hx, hb, hml, hown, hts⟩ (c_Model_field x0 7 5) mw_Model_field ms_Model_field k_787 ⟨rfl, rfl, Nat.le_of_ble_eq_true rfl, Nat.le_of_ble_eq_true rfl⟩ hK hP hD hS hA hF [] [] rfl rfl rfl rfl hl.1 rfl (Nat.le_of_ble_eq_true rfl) d_Model_claims_257 ⟨Nat.zero_le _, Nat.zero_le _⟩) hP hD hS hA [] [0, 1, 2, 3, 4, 5, 6, 7, 8, 9] [0, 1, 2, 3, 4, 5, 6, 7, 8, 9] rfl rfl rfl (by decide) (fun _ => rfl) rfl (fun r_36 _ H locs h_36 hP hD hS => ?_)
              subst h_36
              refine lv_iload hx hb d_Model_claims_260 (lv_at hl 0 rfl) ?_
              refine xv (wr := []) (W2 := fun u9 => wR a k n h ca_11 tv_11 nx pcs lv cs u9 b_35 (upd (upd cl h.toNatClampNeg (-1)) ((1 - h).toNatClampNeg) (-1)) cm so ti pu np) (xV (rest := []) ⟨hx, hb, hml, hown, hts⟩ (c_Model_setReg a k n (sp_Model_field x0 7 5) 0 h ca_11 tv_11 nx pcs lv cs x b_35 (upd (upd cl h.toNatClampNeg (-1)) ((1 - h).toNatClampNeg) (-1)) cm so ti pu np hn hh (vp_f5 _ _)) mw_Model_setReg mv_Model_setReg k_790 ⟨rfl, rfl, Nat.le_of_ble_eq_true rfl, Nat.le_of_ble_eq_true rfl⟩ hK hP hD hS hA hF [0, 1, 2, 3, 4, 5, 6, 7, 8, 9] [0, 1, 2, 3, 4, 5, 6, 7, 8] rfl rfl rfl 0 5 rfl rfl rfl rfl hl.1 rfl (Nat.le_of_ble_eq_true rfl) d_Model_claims_262 ⟨Nat.zero_le _, Nat.zero_le _⟩) hP hD hS hA [0, 1, 2, 3, 4, 5, 6, 7, 8, 9] [] [0, 1, 2, 3, 4, 5, 6, 7, 8, 9] rfl rfl rfl (by decide) (fun _ => rfl) rfl (fun u_37 H locs h_37 hP hD hS => ?_)
              obtain ⟨x_37, e_37⟩ : ∃ z, z = u_37 := ⟨_, rfl⟩
              subst e_37
              exact rv (ca_11, tv_11, x_37, b_35, (upd (upd cl h.toNatClampNeg (-1)) ((1 - h).toNatClampNeg) (-1))) hx hb hr hlocks hP hD hS d_Model_claims_265 (by simp only [sp_Model_claims, h_11, h_35, h_37, if_pos c_2, if_pos c_4, if_neg c_7, if_pos c_12, if_pos c_17, if_pos c_25])
        · exact rv (ca_11, tv_11, x, b, cl) hx hb hr hlocks hP hD hS d_Model_claims_112 (by simp only [sp_Model_claims, h_11, if_pos c_2, if_pos c_4, if_neg c_7, if_neg c_12])
      · refine lv_iload_n hx hb d_Model_claims_63 rfl (lv_at hl 3 rfl) ?_
        refine lv_bipush (v := 20) hx hb d_Model_claims_64 rfl ?_
        refine lv_iconst (v := 5) hx hb d_Model_claims_66 rfl ?_
        refine xi (wr := [((a 0), .inr (5, [.int (nI n), .ref (a 1), .ref (a 2), .ref (a 3), .ref (a 4), .ref (a 5), .ref (a 6), .ref (a 7), .ref (a 8), .long ti, .ref (a 9), .int np, .int h, .int ca, .int tv, .int nx])), ((a 1), .inl ((k 0), 16384, .inl b)), ((a 2), .inl ((k 1), 64, .inl x)), ((a 3), .inl ((k 2), 2, .inl pcs)), ((a 4), .inl ((k 3), 2, .inl lv)), ((a 5), .inl ((k 4), 8192, .inl cs)), ((a 6), .inl ((k 5), 2, .inl cl)), ((a 7), .inl ((k 6), 2, .inr (.inl cm))), ((a 8), .inl ((k 7), 2, .inl so)), ((a 9), .inl ((k 8), 256, .inl pu))]) (W2 := fun _ => wR a k n h ca tv nx pcs lv cs x b cl cm so ti pu np) (xS (rest := []) ⟨hx, hb, hml, hown, hts⟩ (c_Model_field x0 20 5) mw_Model_field ms_Model_field k_787 ⟨rfl, rfl, Nat.le_of_ble_eq_true rfl, Nat.le_of_ble_eq_true rfl⟩ hK hP hD hS hA hF [] [] rfl rfl rfl rfl hl.1 rfl (Nat.le_of_ble_eq_true rfl) d_Model_claims_67 ⟨Nat.zero_le _, Nat.zero_le _⟩) hP hD hS hA [] [0, 1, 2, 3, 4, 5, 6, 7, 8, 9] [0, 1, 2, 3, 4, 5, 6, 7, 8, 9] rfl rfl rfl (by decide) (fun _ => rfl) rfl (fun r_38 _ H locs h_38 hP hD hS => ?_)
        subst h_38
        refine lv_if_eq (tgt := 80) hx hb d_Model_claims_70 (by decide) (fun c_39 => ?_) (fun c_39 => ?_)
        · refine lv_aload_n hx hb d_Model_claims_80 rfl (lv_at hl 2 rfl) ?_
          refine lv_aload_n hx hb d_Model_claims_81 rfl (lv_at hl 2 rfl) ?_
          refine lv_iload_n hx hb d_Model_claims_82 rfl (lv_at hl 3 rfl) ?_
          refine lv_bipush (v := 15) hx hb d_Model_claims_83 rfl ?_
          refine lv_iconst (v := 5) hx hb d_Model_claims_85 rfl ?_
          refine xi (wr := [((a 0), .inr (5, [.int (nI n), .ref (a 1), .ref (a 2), .ref (a 3), .ref (a 4), .ref (a 5), .ref (a 6), .ref (a 7), .ref (a 8), .long ti, .ref (a 9), .int np, .int h, .int ca, .int tv, .int nx])), ((a 1), .inl ((k 0), 16384, .inl b)), ((a 2), .inl ((k 1), 64, .inl x)), ((a 3), .inl ((k 2), 2, .inl pcs)), ((a 4), .inl ((k 3), 2, .inl lv)), ((a 5), .inl ((k 4), 8192, .inl cs)), ((a 6), .inl ((k 5), 2, .inl cl)), ((a 7), .inl ((k 6), 2, .inr (.inl cm))), ((a 8), .inl ((k 7), 2, .inl so)), ((a 9), .inl ((k 8), 256, .inl pu))]) (W2 := fun _ => wR a k n h ca tv nx pcs lv cs x b cl cm so ti pu np) (xS (rest := [.ref (a 0), .ref (a 0)]) ⟨hx, hb, hml, hown, hts⟩ (c_Model_field x0 15 5) mw_Model_field ms_Model_field k_787 ⟨rfl, rfl, Nat.le_of_ble_eq_true rfl, Nat.le_of_ble_eq_true rfl⟩ hK hP hD hS hA hF [] [] rfl rfl rfl rfl hl.1 rfl (Nat.le_of_ble_eq_true rfl) d_Model_claims_86 ⟨Nat.zero_le _, Nat.zero_le _⟩) hP hD hS hA [] [0, 1, 2, 3, 4, 5, 6, 7, 8, 9] [0, 1, 2, 3, 4, 5, 6, 7, 8, 9] rfl rfl rfl (by decide) (fun _ => rfl) rfl (fun r_40 _ H locs h_40 hP hD hS => ?_)
          subst h_40
          refine xi (wr := []) (W2 := fun _ => wR a k n h ca tv nx pcs lv cs x b cl cm so ti pu np) (xV (rest := [.ref (a 0)]) ⟨hx, hb, hml, hown, hts⟩ (c_Model_reg a k n (sp_Model_field x0 15 5) h ca tv nx pcs lv cs x b cl cm so ti pu np hn hh (vp_f5 _ _)) mw_Model_reg mv_Model_reg k_802 ⟨rfl, rfl, Nat.le_of_ble_eq_true rfl, Nat.le_of_ble_eq_true rfl⟩ hK hP hD hS hA hF [0, 1, 2, 3, 4, 5, 6, 7, 8, 9] [0, 1, 2, 3, 4, 5, 6, 7, 8] rfl rfl rfl 0 5 rfl rfl rfl rfl hl.1 rfl (Nat.le_of_ble_eq_true rfl) d_Model_claims_89 ⟨Nat.zero_le _, Nat.zero_le _⟩) hP hD hS hA [0, 1, 2, 3, 4, 5, 6, 7, 8, 9] [] [0, 1, 2, 3, 4, 5, 6, 7, 8, 9] rfl rfl rfl (by decide) (fun _ => rfl) rfl (fun r_41 _ H locs h_41 hP hD hS => ?_)
          subst h_41
          refine lv_iload_n hx hb d_Model_claims_92 rfl (lv_at hl 1 rfl) ?_
          refine lv_iconst (v := 2) hx hb d_Model_claims_93 rfl ?_
          refine lv_icmp_ne (tgt := 101) hx hb d_Model_claims_94 (by decide) (fun h9 => absurd c_7 h9) (fun _ => ?_)
          refine lv_iconst (v := 1) hx hb d_Model_claims_97 rfl ?_
          refine lv_goto (tgt := 102) hx hb d_Model_claims_98 (by decide) ?_
          refine xi (wr := []) (W2 := fun u9 => wR a k n h u9.1 u9.2 nx pcs lv cs x b cl cm so ti pu np) (xV (rest := []) ⟨hx, hb, hml, hown, hts⟩ (c_Model_claimed a k n (sp_Model_reg (sp_Model_field x0 15 5) h x) 1 h ca tv nx pcs lv cs x b cl cm so ti pu np hn hh) mw_Model_claimed mv_Model_claimed k_872 ⟨rfl, rfl, Nat.le_of_ble_eq_true rfl, Nat.le_of_ble_eq_true rfl⟩ hK hP hD hS hA hF [0, 1, 2, 3, 4, 5, 6, 7, 8, 9] [0, 1, 2, 3, 4, 5, 6, 7, 8] rfl rfl rfl 0 5 rfl rfl rfl rfl hl.1 rfl (Nat.le_of_ble_eq_true rfl) d_Model_claims_102 ⟨Nat.zero_le _, Nat.zero_le _⟩) hP hD hS hA [0, 1, 2, 3, 4, 5, 6, 7, 8, 9] [] [0, 1, 2, 3, 4, 5, 6, 7, 8, 9] rfl rfl rfl (by decide) (fun _ => rfl) rfl (fun r_43 u_43 H locs h_43 hP hD hS => ?_)
          obtain ⟨ca_43, tv_43⟩ := u_43
          dsimp only at hP hD
          refine lv_istore (lv' := [(4, .int r_43), (3, .int 1), (2, .int (sp_Model_field x0 27 5)), (0, .ref (a 0)), (1, .int x0)]) hx hb d_Model_claims_105 hl (by decide) rfl (fun ls hl => ?_)
          refine lv_iload hx hb d_Model_claims_107 (lv_at hl 0 rfl) ?_
          refine lv_if_ge (tgt := 113) hx hb d_Model_claims_109 (by decide) (fun c_44 => ?_) (fun c_44 => ?_)
          · refine lv_aload_n hx hb d_Model_claims_113 rfl (lv_at hl 3 rfl) ?_
            refine lv_iload_n hx hb d_Model_claims_114 rfl (lv_at hl 4 rfl) ?_
            refine lv_bipush (v := 20) hx hb d_Model_claims_115 rfl ?_
            refine lv_iconst (v := 5) hx hb d_Model_claims_117 rfl ?_
            refine xi (wr := [((a 0), .inr (5, [.int (nI n), .ref (a 1), .ref (a 2), .ref (a 3), .ref (a 4), .ref (a 5), .ref (a 6), .ref (a 7), .ref (a 8), .long ti, .ref (a 9), .int np, .int h, .int ca_43, .int tv_43, .int nx])), ((a 1), .inl ((k 0), 16384, .inl b)), ((a 2), .inl ((k 1), 64, .inl x)), ((a 3), .inl ((k 2), 2, .inl pcs)), ((a 4), .inl ((k 3), 2, .inl lv)), ((a 5), .inl ((k 4), 8192, .inl cs)), ((a 6), .inl ((k 5), 2, .inl cl)), ((a 7), .inl ((k 6), 2, .inr (.inl cm))), ((a 8), .inl ((k 7), 2, .inl so)), ((a 9), .inl ((k 8), 256, .inl pu))]) (W2 := fun _ => wR a k n h ca_43 tv_43 nx pcs lv cs x b cl cm so ti pu np) (xS (rest := [.ref (a 0)]) ⟨hx, hb, hml, hown, hts⟩ (c_Model_field x0 20 5) mw_Model_field ms_Model_field k_787 ⟨rfl, rfl, Nat.le_of_ble_eq_true rfl, Nat.le_of_ble_eq_true rfl⟩ hK hP hD hS hA hF [] [] rfl rfl rfl rfl hl.1 rfl (Nat.le_of_ble_eq_true rfl) d_Model_claims_118 ⟨Nat.zero_le _, Nat.zero_le _⟩) hP hD hS hA [] [0, 1, 2, 3, 4, 5, 6, 7, 8, 9] [0, 1, 2, 3, 4, 5, 6, 7, 8, 9] rfl rfl rfl (by decide) (fun _ => rfl) rfl (fun r_45 _ H locs h_45 hP hD hS => ?_)
            subst h_45
            refine xi (wr := []) (W2 := fun _ => wR a k n h ca_43 tv_43 nx pcs lv cs x b cl cm so ti pu np) (xV (rest := []) ⟨hx, hb, hml, hown, hts⟩ (c_Model_reg a k n (sp_Model_field x0 20 5) h ca_43 tv_43 nx pcs lv cs x b cl cm so ti pu np hn hh (vp_f5 _ _)) mw_Model_reg mv_Model_reg k_802 ⟨rfl, rfl, Nat.le_of_ble_eq_true rfl, Nat.le_of_ble_eq_true rfl⟩ hK hP hD hS hA hF [0, 1, 2, 3, 4, 5, 6, 7, 8, 9] [0, 1, 2, 3, 4, 5, 6, 7, 8] rfl rfl rfl 0 5 rfl rfl rfl rfl hl.1 rfl (Nat.le_of_ble_eq_true rfl) d_Model_claims_121 ⟨Nat.zero_le _, Nat.zero_le _⟩) hP hD hS hA [0, 1, 2, 3, 4, 5, 6, 7, 8, 9] [] [0, 1, 2, 3, 4, 5, 6, 7, 8, 9] rfl rfl rfl (by decide) (fun _ => rfl) rfl (fun r_46 _ H locs h_46 hP hD hS => ?_)
            subst h_46
            refine lv_istore (lv' := [(5, .int (sp_Model_reg (sp_Model_field x0 20 5) h x)), (4, .int r_43), (3, .int 1), (2, .int (sp_Model_field x0 27 5)), (0, .ref (a 0)), (1, .int x0)]) hx hb d_Model_claims_124 hl (by decide) rfl (fun ls hl => ?_)
            refine lv_aload_n hx hb d_Model_claims_126 rfl (lv_at hl 4 rfl) ?_
            refine lv_iload hx hb d_Model_claims_127 (lv_at hl 1 rfl) ?_
            refine xi (wr := []) (W2 := fun _ => wR a k n h ca_43 tv_43 nx pcs lv cs x b cl cm so ti pu np) (xV (rest := []) ⟨hx, hb, hml, hown, hts⟩ (c_Model_ramWord a k n r_43 h ca_43 tv_43 nx pcs lv cs x b cl cm so ti pu np hn (vpw_claimed hn h_43 c_44)) mw_Model_ramWord mv_Model_ramWord k_690 ⟨rfl, rfl, Nat.le_of_ble_eq_true rfl, Nat.le_of_ble_eq_true rfl⟩ hK hP hD hS hA hF [0, 1, 2, 3, 4, 5, 6, 7, 8, 9] [0, 1, 2, 3, 4, 5, 6, 7, 8] rfl rfl rfl 0 5 rfl rfl rfl rfl hl.1 rfl (Nat.le_of_ble_eq_true rfl) d_Model_claims_129 ⟨Nat.zero_le _, Nat.zero_le _⟩) hP hD hS hA [0, 1, 2, 3, 4, 5, 6, 7, 8, 9] [] [0, 1, 2, 3, 4, 5, 6, 7, 8, 9] rfl rfl rfl (by decide) (fun _ => rfl) rfl (fun r_47 _ H locs h_47 hP hD hS => ?_)
            subst h_47
            refine lv_istore (lv' := [(6, .int (sp_Model_ramWord r_43 b)), (5, .int (sp_Model_reg (sp_Model_field x0 20 5) h x)), (4, .int r_43), (3, .int 1), (2, .int (sp_Model_field x0 27 5)), (0, .ref (a 0)), (1, .int x0)]) hx hb d_Model_claims_132 hl (by decide) rfl (fun ls hl => ?_)
            refine lv_iload hx hb d_Model_claims_134 (lv_at hl 0 rfl) ?_
            refine lv_istore (lv' := [(7, .int (sp_Model_ramWord r_43 b)), (6, .int (sp_Model_ramWord r_43 b)), (5, .int (sp_Model_reg (sp_Model_field x0 20 5) h x)), (4, .int r_43), (3, .int 1), (2, .int (sp_Model_field x0 27 5)), (0, .ref (a 0)), (1, .int x0)]) hx hb d_Model_claims_136 hl (by decide) rfl (fun ls hl => ?_)
            refine lv_iload_n hx hb d_Model_claims_138 rfl (lv_at hl 5 rfl) ?_
            refine lv_iconst (v := 2) hx hb d_Model_claims_139 rfl ?_
            refine lv_icmp_ne (tgt := 157) hx hb d_Model_claims_140 (by decide) (fun h9 => absurd c_7 h9) (fun _ => ?_)
            refine lv_aload_n hx hb d_Model_claims_143 rfl (lv_at hl 6 rfl) ?_
            refine va_get (D := D) (ci := 5) (v := .ref (a 6)) (C := R_Model) (T := F_Model) (N := 16) hx hb hts i_Model hown hK hP 0 rfl rfl 6 (by decide) (hts _ k_631) (fun _ h9 => h9) rfl d_Model_claims_144 ?_
            refine lv_aload_n hx hb d_Model_claims_147 rfl (lv_at hl 6 rfl) ?_
            refine va_get (D := D) (ci := 5) (v := .int h) (C := R_Model) (T := F_Model) (N := 16) hx hb hts i_Model hown hK hP 0 rfl rfl 12 (by decide) (hts _ k_637) (fun _ h9 => h9) rfl d_Model_claims_148 ?_
            refine lv_iload hx hb d_Model_claims_151 (lv_at hl 3 rfl) ?_
            refine y_iast (ws' := wR a k n h ca_43 tv_43 nx pcs lv cs x b (upd cl h.toNatClampNeg r_43) cm so ti pu np) hx hb hK hP hD hS 6 5 rfl rfl (vp_01 hh (by decide)) d_Model_claims_153 rfl (fun H locs hP hD hS => ?_)
            refine lv_goto (tgt := 252) hx hb d_Model_claims_154 (by decide) ?_
            refine lv_aload_n hx hb d_Model_claims_252 rfl (lv_at hl 6 rfl) ?_
            refine lv_iload_n hx hb d_Model_claims_253 rfl (lv_at hl 7 rfl) ?_
            refine lv_bipush (v := 7) hx hb d_Model_claims_254 rfl ?_
            refine lv_iconst (v := 5) hx hb d_Model_claims_256 rfl ?_
            refine xi (wr := [((a 0), .inr (5, [.int (nI n), .ref (a 1), .ref (a 2), .ref (a 3), .ref (a 4), .ref (a 5), .ref (a 6), .ref (a 7), .ref (a 8), .long ti, .ref (a 9), .int np, .int h, .int ca_43, .int tv_43, .int nx])), ((a 1), .inl ((k 0), 16384, .inl b)), ((a 2), .inl ((k 1), 64, .inl x)), ((a 3), .inl ((k 2), 2, .inl pcs)), ((a 4), .inl ((k 3), 2, .inl lv)), ((a 5), .inl ((k 4), 8192, .inl cs)), ((a 6), .inl ((k 5), 2, .inl (upd cl h.toNatClampNeg r_43))), ((a 7), .inl ((k 6), 2, .inr (.inl cm))), ((a 8), .inl ((k 7), 2, .inl so)), ((a 9), .inl ((k 8), 256, .inl pu))]) (W2 := fun _ => wR a k n h ca_43 tv_43 nx pcs lv cs x b (upd cl h.toNatClampNeg r_43) cm so ti pu np) (xS (rest := [.ref (a 0)]) ⟨hx, hb, hml, hown, hts⟩ (c_Model_field x0 7 5) mw_Model_field ms_Model_field k_787 ⟨rfl, rfl, Nat.le_of_ble_eq_true rfl, Nat.le_of_ble_eq_true rfl⟩ hK hP hD hS hA hF [] [] rfl rfl rfl rfl hl.1 rfl (Nat.le_of_ble_eq_true rfl) d_Model_claims_257 ⟨Nat.zero_le _, Nat.zero_le _⟩) hP hD hS hA [] [0, 1, 2, 3, 4, 5, 6, 7, 8, 9] [0, 1, 2, 3, 4, 5, 6, 7, 8, 9] rfl rfl rfl (by decide) (fun _ => rfl) rfl (fun r_49 _ H locs h_49 hP hD hS => ?_)
            subst h_49
            refine lv_iload hx hb d_Model_claims_260 (lv_at hl 0 rfl) ?_
            refine xv (wr := []) (W2 := fun u9 => wR a k n h ca_43 tv_43 nx pcs lv cs u9 b (upd cl h.toNatClampNeg r_43) cm so ti pu np) (xV (rest := []) ⟨hx, hb, hml, hown, hts⟩ (c_Model_setReg a k n (sp_Model_field x0 7 5) (sp_Model_ramWord r_43 b) h ca_43 tv_43 nx pcs lv cs x b (upd cl h.toNatClampNeg r_43) cm so ti pu np hn hh (vp_f5 _ _)) mw_Model_setReg mv_Model_setReg k_790 ⟨rfl, rfl, Nat.le_of_ble_eq_true rfl, Nat.le_of_ble_eq_true rfl⟩ hK hP hD hS hA hF [0, 1, 2, 3, 4, 5, 6, 7, 8, 9] [0, 1, 2, 3, 4, 5, 6, 7, 8] rfl rfl rfl 0 5 rfl rfl rfl rfl hl.1 rfl (Nat.le_of_ble_eq_true rfl) d_Model_claims_262 ⟨Nat.zero_le _, Nat.zero_le _⟩) hP hD hS hA [0, 1, 2, 3, 4, 5, 6, 7, 8, 9] [] [0, 1, 2, 3, 4, 5, 6, 7, 8, 9] rfl rfl rfl (by decide) (fun _ => rfl) rfl (fun u_50 H locs h_50 hP hD hS => ?_)
            obtain ⟨x_50, e_50⟩ : ∃ z, z = u_50 := ⟨_, rfl⟩
            subst e_50
            exact rv (ca_43, tv_43, x_50, b, (upd cl h.toNatClampNeg r_43)) hx hb hr hlocks hP hD hS d_Model_claims_265 (by simp only [sp_Model_claims, h_43, h_50, if_pos c_2, if_pos c_4, if_pos c_7, if_pos c_39, if_pos c_44])
          · exact rv (ca_43, tv_43, x, b, cl) hx hb hr hlocks hP hD hS d_Model_claims_112 (by simp only [sp_Model_claims, h_43, if_pos c_2, if_pos c_4, if_pos c_7, if_pos c_39, if_neg c_44])
        · refine lv_aload_n hx hb d_Model_claims_73 rfl (lv_at hl 2 rfl) ?_
          refine lv_iconst (v := 2) hx hb d_Model_claims_74 rfl ?_
          refine lv_iload_n hx hb d_Model_claims_75 rfl (lv_at hl 3 rfl) ?_
          refine xv (wr := []) (W2 := fun u9 => wR a k n h u9.1 u9.2 nx pcs lv cs x b cl cm so ti pu np) (xV (rest := []) ⟨hx, hb, hml, hown, hts⟩ (c_Model_trap a k n 2 x0 h ca tv nx pcs lv cs x b cl cm so ti pu np hn) mw_Model_trap mv_Model_trap k_763 ⟨rfl, rfl, Nat.le_of_ble_eq_true rfl, Nat.le_of_ble_eq_true rfl⟩ hK hP hD hS hA hF [0, 1, 2, 3, 4, 5, 6, 7, 8, 9] [0, 1, 2, 3, 4, 5, 6, 7, 8] rfl rfl rfl 0 5 rfl rfl rfl rfl hl.1 rfl (Nat.le_of_ble_eq_true rfl) d_Model_claims_76 ⟨Nat.zero_le _, Nat.zero_le _⟩) hP hD hS hA [0, 1, 2, 3, 4, 5, 6, 7, 8, 9] [] [0, 1, 2, 3, 4, 5, 6, 7, 8, 9] rfl rfl rfl (by decide) (fun _ => rfl) rfl (fun u_51 H locs h_51 hP hD hS => ?_)
          obtain ⟨ca_51, tv_51⟩ := u_51
          dsimp only at hP hD
          exact rv (ca_51, tv_51, x, b, cl) hx hb hr hlocks hP hD hS d_Model_claims_79 (by simp only [sp_Model_claims, h_51, if_pos c_2, if_pos c_4, if_pos c_7, if_neg c_39])
  · refine lv_iload_n hx hb d_Model_claims_13 rfl (lv_at hl 0 rfl) ?_
    refine lv_bipush (v := 8) hx hb d_Model_claims_14 rfl ?_
    refine lv_icmp_eq (tgt := 37) hx hb d_Model_claims_16 (by decide) (fun c_52 => ?_) (fun c_52 => ?_)
    · refine lv_iconst (v := 1) hx hb d_Model_claims_37 rfl ?_
      refine lv_goto (tgt := 42) hx hb d_Model_claims_38 (by decide) ?_
      refine lv_istore_n (lv' := [(3, .int 1), (2, .int (sp_Model_field x0 27 5)), (0, .ref (a 0)), (1, .int x0)]) hx hb d_Model_claims_42 rfl hl (by decide) rfl (fun ls hl => ?_)
      refine lv_iload_n hx hb d_Model_claims_43 rfl (lv_at hl 3 rfl) ?_
      refine lv_bipush (v := 12) hx hb d_Model_claims_44 rfl ?_
      refine lv_iconst (v := 3) hx hb d_Model_claims_46 rfl ?_
      refine xi (wr := [((a 0), .inr (5, [.int (nI n), .ref (a 1), .ref (a 2), .ref (a 3), .ref (a 4), .ref (a 5), .ref (a 6), .ref (a 7), .ref (a 8), .long ti, .ref (a 9), .int np, .int h, .int ca, .int tv, .int nx])), ((a 1), .inl ((k 0), 16384, .inl b)), ((a 2), .inl ((k 1), 64, .inl x)), ((a 3), .inl ((k 2), 2, .inl pcs)), ((a 4), .inl ((k 3), 2, .inl lv)), ((a 5), .inl ((k 4), 8192, .inl cs)), ((a 6), .inl ((k 5), 2, .inl cl)), ((a 7), .inl ((k 6), 2, .inr (.inl cm))), ((a 8), .inl ((k 7), 2, .inl so)), ((a 9), .inl ((k 8), 256, .inl pu))]) (W2 := fun _ => wR a k n h ca tv nx pcs lv cs x b cl cm so ti pu np) (xS (rest := []) ⟨hx, hb, hml, hown, hts⟩ (c_Model_field x0 12 3) mw_Model_field ms_Model_field k_787 ⟨rfl, rfl, Nat.le_of_ble_eq_true rfl, Nat.le_of_ble_eq_true rfl⟩ hK hP hD hS hA hF [] [] rfl rfl rfl rfl hl.1 rfl (Nat.le_of_ble_eq_true rfl) d_Model_claims_47 ⟨Nat.zero_le _, Nat.zero_le _⟩) hP hD hS hA [] [0, 1, 2, 3, 4, 5, 6, 7, 8, 9] [0, 1, 2, 3, 4, 5, 6, 7, 8, 9] rfl rfl rfl (by decide) (fun _ => rfl) rfl (fun r_53 _ H locs h_53 hP hD hS => ?_)
      subst h_53
      refine lv_iconst (v := 2) hx hb d_Model_claims_50 rfl ?_
      refine lv_icmp_ne (tgt := 73) hx hb d_Model_claims_51 (by decide) (fun c_54 => ?_) (fun c_54 => ?_)
      · refine lv_aload_n hx hb d_Model_claims_73 rfl (lv_at hl 2 rfl) ?_
        refine lv_iconst (v := 2) hx hb d_Model_claims_74 rfl ?_
        refine lv_iload_n hx hb d_Model_claims_75 rfl (lv_at hl 3 rfl) ?_
        refine xv (wr := []) (W2 := fun u9 => wR a k n h u9.1 u9.2 nx pcs lv cs x b cl cm so ti pu np) (xV (rest := []) ⟨hx, hb, hml, hown, hts⟩ (c_Model_trap a k n 2 x0 h ca tv nx pcs lv cs x b cl cm so ti pu np hn) mw_Model_trap mv_Model_trap k_763 ⟨rfl, rfl, Nat.le_of_ble_eq_true rfl, Nat.le_of_ble_eq_true rfl⟩ hK hP hD hS hA hF [0, 1, 2, 3, 4, 5, 6, 7, 8, 9] [0, 1, 2, 3, 4, 5, 6, 7, 8] rfl rfl rfl 0 5 rfl rfl rfl rfl hl.1 rfl (Nat.le_of_ble_eq_true rfl) d_Model_claims_76 ⟨Nat.zero_le _, Nat.zero_le _⟩) hP hD hS hA [0, 1, 2, 3, 4, 5, 6, 7, 8, 9] [] [0, 1, 2, 3, 4, 5, 6, 7, 8, 9] rfl rfl rfl (by decide) (fun _ => rfl) rfl (fun u_55 H locs h_55 hP hD hS => ?_)
        obtain ⟨ca_55, tv_55⟩ := u_55
        dsimp only at hP hD
        exact rv (ca_55, tv_55, x, b, cl) hx hb hr hlocks hP hD hS d_Model_claims_79 (by simp only [sp_Model_claims, h_55, if_neg c_2, if_pos c_52, if_neg c_54])
      · refine lv_iload_n hx hb d_Model_claims_54 rfl (lv_at hl 0 rfl) ?_
        refine lv_if_eq (tgt := 73) hx hb d_Model_claims_55 (by decide) (fun h9 => absurd h9 (by decide)) (fun _ => ?_)
        refine lv_iload_n hx hb d_Model_claims_58 rfl (lv_at hl 1 rfl) ?_
        refine lv_iconst (v := 2) hx hb d_Model_claims_59 rfl ?_
        refine lv_icmp_ne (tgt := 80) hx hb d_Model_claims_60 (by decide) (fun _ => ?_) (fun h9 => absurd h9 (by rw [c_52]; decide))
        refine lv_aload_n hx hb d_Model_claims_80 rfl (lv_at hl 2 rfl) ?_
        refine lv_aload_n hx hb d_Model_claims_81 rfl (lv_at hl 2 rfl) ?_
        refine lv_iload_n hx hb d_Model_claims_82 rfl (lv_at hl 3 rfl) ?_
        refine lv_bipush (v := 15) hx hb d_Model_claims_83 rfl ?_
        refine lv_iconst (v := 5) hx hb d_Model_claims_85 rfl ?_
        refine xi (wr := [((a 0), .inr (5, [.int (nI n), .ref (a 1), .ref (a 2), .ref (a 3), .ref (a 4), .ref (a 5), .ref (a 6), .ref (a 7), .ref (a 8), .long ti, .ref (a 9), .int np, .int h, .int ca, .int tv, .int nx])), ((a 1), .inl ((k 0), 16384, .inl b)), ((a 2), .inl ((k 1), 64, .inl x)), ((a 3), .inl ((k 2), 2, .inl pcs)), ((a 4), .inl ((k 3), 2, .inl lv)), ((a 5), .inl ((k 4), 8192, .inl cs)), ((a 6), .inl ((k 5), 2, .inl cl)), ((a 7), .inl ((k 6), 2, .inr (.inl cm))), ((a 8), .inl ((k 7), 2, .inl so)), ((a 9), .inl ((k 8), 256, .inl pu))]) (W2 := fun _ => wR a k n h ca tv nx pcs lv cs x b cl cm so ti pu np) (xS (rest := [.ref (a 0), .ref (a 0)]) ⟨hx, hb, hml, hown, hts⟩ (c_Model_field x0 15 5) mw_Model_field ms_Model_field k_787 ⟨rfl, rfl, Nat.le_of_ble_eq_true rfl, Nat.le_of_ble_eq_true rfl⟩ hK hP hD hS hA hF [] [] rfl rfl rfl rfl hl.1 rfl (Nat.le_of_ble_eq_true rfl) d_Model_claims_86 ⟨Nat.zero_le _, Nat.zero_le _⟩) hP hD hS hA [] [0, 1, 2, 3, 4, 5, 6, 7, 8, 9] [0, 1, 2, 3, 4, 5, 6, 7, 8, 9] rfl rfl rfl (by decide) (fun _ => rfl) rfl (fun r_58 _ H locs h_58 hP hD hS => ?_)
        subst h_58
        refine xi (wr := []) (W2 := fun _ => wR a k n h ca tv nx pcs lv cs x b cl cm so ti pu np) (xV (rest := [.ref (a 0)]) ⟨hx, hb, hml, hown, hts⟩ (c_Model_reg a k n (sp_Model_field x0 15 5) h ca tv nx pcs lv cs x b cl cm so ti pu np hn hh (vp_f5 _ _)) mw_Model_reg mv_Model_reg k_802 ⟨rfl, rfl, Nat.le_of_ble_eq_true rfl, Nat.le_of_ble_eq_true rfl⟩ hK hP hD hS hA hF [0, 1, 2, 3, 4, 5, 6, 7, 8, 9] [0, 1, 2, 3, 4, 5, 6, 7, 8] rfl rfl rfl 0 5 rfl rfl rfl rfl hl.1 rfl (Nat.le_of_ble_eq_true rfl) d_Model_claims_89 ⟨Nat.zero_le _, Nat.zero_le _⟩) hP hD hS hA [0, 1, 2, 3, 4, 5, 6, 7, 8, 9] [] [0, 1, 2, 3, 4, 5, 6, 7, 8, 9] rfl rfl rfl (by decide) (fun _ => rfl) rfl (fun r_59 _ H locs h_59 hP hD hS => ?_)
        subst h_59
        refine lv_iload_n hx hb d_Model_claims_92 rfl (lv_at hl 1 rfl) ?_
        refine lv_iconst (v := 2) hx hb d_Model_claims_93 rfl ?_
        refine lv_icmp_ne (tgt := 101) hx hb d_Model_claims_94 (by decide) (fun _ => ?_) (fun h9 => absurd h9 (by rw [c_52]; decide))
        refine lv_iconst (v := 2) hx hb d_Model_claims_101 rfl ?_
        refine xi (wr := []) (W2 := fun u9 => wR a k n h u9.1 u9.2 nx pcs lv cs x b cl cm so ti pu np) (xV (rest := []) ⟨hx, hb, hml, hown, hts⟩ (c_Model_claimed a k n (sp_Model_reg (sp_Model_field x0 15 5) h x) 2 h ca tv nx pcs lv cs x b cl cm so ti pu np hn hh) mw_Model_claimed mv_Model_claimed k_872 ⟨rfl, rfl, Nat.le_of_ble_eq_true rfl, Nat.le_of_ble_eq_true rfl⟩ hK hP hD hS hA hF [0, 1, 2, 3, 4, 5, 6, 7, 8, 9] [0, 1, 2, 3, 4, 5, 6, 7, 8] rfl rfl rfl 0 5 rfl rfl rfl rfl hl.1 rfl (Nat.le_of_ble_eq_true rfl) d_Model_claims_102 ⟨Nat.zero_le _, Nat.zero_le _⟩) hP hD hS hA [0, 1, 2, 3, 4, 5, 6, 7, 8, 9] [] [0, 1, 2, 3, 4, 5, 6, 7, 8, 9] rfl rfl rfl (by decide) (fun _ => rfl) rfl (fun r_61 u_61 H locs h_61 hP hD hS => ?_)
        obtain ⟨ca_61, tv_61⟩ := u_61
        dsimp only at hP hD
        refine lv_istore (lv' := [(4, .int r_61), (3, .int 1), (2, .int (sp_Model_field x0 27 5)), (0, .ref (a 0)), (1, .int x0)]) hx hb d_Model_claims_105 hl (by decide) rfl (fun ls hl => ?_)
        refine lv_iload hx hb d_Model_claims_107 (lv_at hl 0 rfl) ?_
        refine lv_if_ge (tgt := 113) hx hb d_Model_claims_109 (by decide) (fun c_62 => ?_) (fun c_62 => ?_)
        · refine lv_aload_n hx hb d_Model_claims_113 rfl (lv_at hl 3 rfl) ?_
          refine lv_iload_n hx hb d_Model_claims_114 rfl (lv_at hl 4 rfl) ?_
          refine lv_bipush (v := 20) hx hb d_Model_claims_115 rfl ?_
          refine lv_iconst (v := 5) hx hb d_Model_claims_117 rfl ?_
          refine xi (wr := [((a 0), .inr (5, [.int (nI n), .ref (a 1), .ref (a 2), .ref (a 3), .ref (a 4), .ref (a 5), .ref (a 6), .ref (a 7), .ref (a 8), .long ti, .ref (a 9), .int np, .int h, .int ca_61, .int tv_61, .int nx])), ((a 1), .inl ((k 0), 16384, .inl b)), ((a 2), .inl ((k 1), 64, .inl x)), ((a 3), .inl ((k 2), 2, .inl pcs)), ((a 4), .inl ((k 3), 2, .inl lv)), ((a 5), .inl ((k 4), 8192, .inl cs)), ((a 6), .inl ((k 5), 2, .inl cl)), ((a 7), .inl ((k 6), 2, .inr (.inl cm))), ((a 8), .inl ((k 7), 2, .inl so)), ((a 9), .inl ((k 8), 256, .inl pu))]) (W2 := fun _ => wR a k n h ca_61 tv_61 nx pcs lv cs x b cl cm so ti pu np) (xS (rest := [.ref (a 0)]) ⟨hx, hb, hml, hown, hts⟩ (c_Model_field x0 20 5) mw_Model_field ms_Model_field k_787 ⟨rfl, rfl, Nat.le_of_ble_eq_true rfl, Nat.le_of_ble_eq_true rfl⟩ hK hP hD hS hA hF [] [] rfl rfl rfl rfl hl.1 rfl (Nat.le_of_ble_eq_true rfl) d_Model_claims_118 ⟨Nat.zero_le _, Nat.zero_le _⟩) hP hD hS hA [] [0, 1, 2, 3, 4, 5, 6, 7, 8, 9] [0, 1, 2, 3, 4, 5, 6, 7, 8, 9] rfl rfl rfl (by decide) (fun _ => rfl) rfl (fun r_63 _ H locs h_63 hP hD hS => ?_)
          subst h_63
          refine xi (wr := []) (W2 := fun _ => wR a k n h ca_61 tv_61 nx pcs lv cs x b cl cm so ti pu np) (xV (rest := []) ⟨hx, hb, hml, hown, hts⟩ (c_Model_reg a k n (sp_Model_field x0 20 5) h ca_61 tv_61 nx pcs lv cs x b cl cm so ti pu np hn hh (vp_f5 _ _)) mw_Model_reg mv_Model_reg k_802 ⟨rfl, rfl, Nat.le_of_ble_eq_true rfl, Nat.le_of_ble_eq_true rfl⟩ hK hP hD hS hA hF [0, 1, 2, 3, 4, 5, 6, 7, 8, 9] [0, 1, 2, 3, 4, 5, 6, 7, 8] rfl rfl rfl 0 5 rfl rfl rfl rfl hl.1 rfl (Nat.le_of_ble_eq_true rfl) d_Model_claims_121 ⟨Nat.zero_le _, Nat.zero_le _⟩) hP hD hS hA [0, 1, 2, 3, 4, 5, 6, 7, 8, 9] [] [0, 1, 2, 3, 4, 5, 6, 7, 8, 9] rfl rfl rfl (by decide) (fun _ => rfl) rfl (fun r_64 _ H locs h_64 hP hD hS => ?_)
          subst h_64
          refine lv_istore (lv' := [(5, .int (sp_Model_reg (sp_Model_field x0 20 5) h x)), (4, .int r_61), (3, .int 1), (2, .int (sp_Model_field x0 27 5)), (0, .ref (a 0)), (1, .int x0)]) hx hb d_Model_claims_124 hl (by decide) rfl (fun ls hl => ?_)
          refine lv_aload_n hx hb d_Model_claims_126 rfl (lv_at hl 4 rfl) ?_
          refine lv_iload hx hb d_Model_claims_127 (lv_at hl 1 rfl) ?_
          refine xi (wr := []) (W2 := fun _ => wR a k n h ca_61 tv_61 nx pcs lv cs x b cl cm so ti pu np) (xV (rest := []) ⟨hx, hb, hml, hown, hts⟩ (c_Model_ramWord a k n r_61 h ca_61 tv_61 nx pcs lv cs x b cl cm so ti pu np hn (vpw_claimed hn h_61 c_62)) mw_Model_ramWord mv_Model_ramWord k_690 ⟨rfl, rfl, Nat.le_of_ble_eq_true rfl, Nat.le_of_ble_eq_true rfl⟩ hK hP hD hS hA hF [0, 1, 2, 3, 4, 5, 6, 7, 8, 9] [0, 1, 2, 3, 4, 5, 6, 7, 8] rfl rfl rfl 0 5 rfl rfl rfl rfl hl.1 rfl (Nat.le_of_ble_eq_true rfl) d_Model_claims_129 ⟨Nat.zero_le _, Nat.zero_le _⟩) hP hD hS hA [0, 1, 2, 3, 4, 5, 6, 7, 8, 9] [] [0, 1, 2, 3, 4, 5, 6, 7, 8, 9] rfl rfl rfl (by decide) (fun _ => rfl) rfl (fun r_65 _ H locs h_65 hP hD hS => ?_)
          subst h_65
          refine lv_istore (lv' := [(6, .int (sp_Model_ramWord r_61 b)), (5, .int (sp_Model_reg (sp_Model_field x0 20 5) h x)), (4, .int r_61), (3, .int 1), (2, .int (sp_Model_field x0 27 5)), (0, .ref (a 0)), (1, .int x0)]) hx hb d_Model_claims_132 hl (by decide) rfl (fun ls hl => ?_)
          refine lv_iload hx hb d_Model_claims_134 (lv_at hl 0 rfl) ?_
          refine lv_istore (lv' := [(7, .int (sp_Model_ramWord r_61 b)), (6, .int (sp_Model_ramWord r_61 b)), (5, .int (sp_Model_reg (sp_Model_field x0 20 5) h x)), (4, .int r_61), (3, .int 1), (2, .int (sp_Model_field x0 27 5)), (0, .ref (a 0)), (1, .int x0)]) hx hb d_Model_claims_136 hl (by decide) rfl (fun ls hl => ?_)
          refine lv_iload_n hx hb d_Model_claims_138 rfl (lv_at hl 5 rfl) ?_
          refine lv_iconst (v := 2) hx hb d_Model_claims_139 rfl ?_
          refine lv_icmp_ne (tgt := 157) hx hb d_Model_claims_140 (by decide) (fun _ => ?_) (fun h9 => absurd h9 (by rw [c_52]; decide))
          refine lv_iload_n hx hb d_Model_claims_157 rfl (lv_at hl 5 rfl) ?_
          refine lv_iconst (v := 3) hx hb d_Model_claims_158 rfl ?_
          refine lv_icmp_ne (tgt := 176) hx hb d_Model_claims_159 (by decide) (fun _ => ?_) (fun h9 => absurd h9 (by rw [c_52]; decide))
          refine lv_iconst (v := 1) hx hb d_Model_claims_176 rfl ?_
          refine lv_goto (tgt := 181) hx hb d_Model_claims_177 (by decide) ?_
          refine lv_istore (lv' := [(8, .int 1), (7, .int (sp_Model_ramWord r_61 b)), (6, .int (sp_Model_ramWord r_61 b)), (5, .int (sp_Model_reg (sp_Model_field x0 20 5) h x)), (4, .int r_61), (3, .int 1), (2, .int (sp_Model_field x0 27 5)), (0, .ref (a 0)), (1, .int x0)]) hx hb d_Model_claims_181 hl (by decide) rfl (fun ls hl => ?_)
          refine lv_iload_n hx hb d_Model_claims_183 rfl (lv_at hl 6 rfl) ?_
          refine lv_iconst (v := 3) hx hb d_Model_claims_184 rfl ?_
          refine lv_icmp_ne (tgt := 200) hx hb d_Model_claims_185 (by decide) (fun _ => ?_) (fun h9 => absurd h9 (by rw [c_52]; decide))
          refine lv_aload_n hx hb d_Model_claims_200 rfl (lv_at hl 7 rfl) ?_
          refine va_get (D := D) (ci := 5) (v := .ref (a 6)) (C := R_Model) (T := F_Model) (N := 16) hx hb hts i_Model hown hK hP 0 rfl rfl 6 (by decide) (hts _ k_631) (fun _ h9 => h9) rfl d_Model_claims_201 ?_
          refine lv_aload_n hx hb d_Model_claims_204 rfl (lv_at hl 7 rfl) ?_
          refine va_get (D := D) (ci := 5) (v := .int h) (C := R_Model) (T := F_Model) (N := 16) hx hb hts i_Model hown hK hP 0 rfl rfl 12 (by decide) (hts _ k_637) (fun _ h9 => h9) rfl d_Model_claims_205 ?_
          refine lv_iconst (v := (-1)) hx hb d_Model_claims_208 rfl ?_
          refine y_iast (ws' := wR a k n h ca_61 tv_61 nx pcs lv cs x b (upd cl h.toNatClampNeg (-1)) cm so ti pu np) hx hb hK hP hD hS 6 5 rfl rfl (vp_01 hh (by decide)) d_Model_claims_209 rfl (fun H locs hP hD hS => ?_)
          refine lv_iload hx hb d_Model_claims_210 (lv_at hl 0 rfl) ?_
          refine lv_if_eq (tgt := 252) hx hb d_Model_claims_212 (by decide) (fun h9 => absurd h9 (by decide)) (fun _ => ?_)
          refine lv_aload_n hx hb d_Model_claims_215 rfl (lv_at hl 7 rfl) ?_
          refine lv_iload hx hb d_Model_claims_216 (lv_at hl 4 rfl) ?_
          refine lv_iconst (v := 4) hx hb d_Model_claims_218 rfl ?_
          refine lv_iload_n hx hb d_Model_claims_219 rfl (lv_at hl 6 rfl) ?_
          refine lv_iconst (v := 3) hx hb d_Model_claims_220 rfl ?_
          refine lv_icmp_ne (tgt := 229) hx hb d_Model_claims_221 (by decide) (fun _ => ?_) (fun h9 => absurd h9 (by rw [c_52]; decide))
          refine lv_iload_n hx hb d_Model_claims_229 rfl (lv_at hl 6 rfl) ?_
          refine lv_iload hx hb d_Model_claims_230 (lv_at hl 2 rfl) ?_
          refine lv_iload hx hb d_Model_claims_232 (lv_at hl 3 rfl) ?_
          refine xi (wr := [((a 0), .inr (5, [.int (nI n), .ref (a 1), .ref (a 2), .ref (a 3), .ref (a 4), .ref (a 5), .ref (a 6), .ref (a 7), .ref (a 8), .long ti, .ref (a 9), .int np, .int h, .int ca_61, .int tv_61, .int nx])), ((a 1), .inl ((k 0), 16384, .inl b)), ((a 2), .inl ((k 1), 64, .inl x)), ((a 3), .inl ((k 2), 2, .inl pcs)), ((a 4), .inl ((k 3), 2, .inl lv)), ((a 5), .inl ((k 4), 8192, .inl cs)), ((a 6), .inl ((k 5), 2, .inl (upd cl h.toNatClampNeg (-1)))), ((a 7), .inl ((k 6), 2, .inr (.inl cm))), ((a 8), .inl ((k 7), 2, .inl so)), ((a 9), .inl ((k 8), 256, .inl pu))]) (W2 := fun _ => wR a k n h ca_61 tv_61 nx pcs lv cs x b (upd cl h.toNatClampNeg (-1)) cm so ti pu np) (xS (rest := [.int 4, .int r_61, .ref (a 0)]) ⟨hx, hb, hml, hown, hts⟩ (c_Model_changed (sp_Model_field x0 27 5) (sp_Model_ramWord r_61 b) (sp_Model_reg (sp_Model_field x0 20 5) h x)) mw_Model_changed ms_Model_changed k_876 ⟨rfl, rfl, Nat.le_of_ble_eq_true rfl, Nat.le_of_ble_eq_true rfl⟩ hK hP hD hS hA hF [] [] rfl rfl rfl rfl hl.1 rfl (Nat.le_of_ble_eq_true rfl) d_Model_claims_234 ⟨Nat.zero_le _, Nat.zero_le _⟩) hP hD hS hA [] [0, 1, 2, 3, 4, 5, 6, 7, 8, 9] [0, 1, 2, 3, 4, 5, 6, 7, 8, 9] rfl rfl rfl (by decide) (fun _ => rfl) rfl (fun r_71 _ H locs h_71 hP hD hS => ?_)
          subst h_71
          refine xv (wr := []) (W2 := fun u9 => wR a k n h ca_61 tv_61 nx pcs lv cs x u9 (upd cl h.toNatClampNeg (-1)) cm so ti pu np) (xV (rest := []) ⟨hx, hb, hml, hown, hts⟩ (c_Model_setBytes a k n r_61 4 (sp_Model_changed (sp_Model_field x0 27 5) (sp_Model_ramWord r_61 b) (sp_Model_reg (sp_Model_field x0 20 5) h x)) h ca_61 tv_61 nx pcs lv cs x b (upd cl h.toNatClampNeg (-1)) cm so ti pu np hn (Or.inr (Or.inr rfl)) (sb_claimed hn h_61 c_62)) mw_Model_setBytes mv_Model_setBytes k_682 ⟨rfl, rfl, Nat.le_of_ble_eq_true rfl, Nat.le_of_ble_eq_true rfl⟩ hK hP hD hS hA hF [0, 1, 2, 3, 4, 5, 6, 7, 8, 9] [0, 1, 2, 3, 4, 5, 6, 7, 8] rfl rfl rfl 0 5 rfl rfl rfl rfl hl.1 rfl (Nat.le_of_ble_eq_true rfl) d_Model_claims_237 ⟨Nat.zero_le _, Nat.zero_le _⟩) hP hD hS hA [0, 1, 2, 3, 4, 5, 6, 7, 8, 9] [] [0, 1, 2, 3, 4, 5, 6, 7, 8, 9] rfl rfl rfl (by decide) (fun _ => rfl) rfl (fun u_72 H locs h_72 hP hD hS => ?_)
          obtain ⟨b_72, e_72⟩ : ∃ z, z = u_72 := ⟨_, rfl⟩
          subst e_72
          refine lv_aload_n hx hb d_Model_claims_240 rfl (lv_at hl 7 rfl) ?_
          refine va_get (D := D) (ci := 5) (v := .ref (a 6)) (C := R_Model) (T := F_Model) (N := 16) hx hb hts i_Model hown hK hP 0 rfl rfl 6 (by decide) (hts _ k_631) (fun _ h9 => h9) rfl d_Model_claims_241 ?_
          refine lv_iconst (v := 1) hx hb d_Model_claims_244 rfl ?_
          refine lv_aload_n hx hb d_Model_claims_245 rfl (lv_at hl 7 rfl) ?_
          refine va_get (D := D) (ci := 5) (v := .int h) (C := R_Model) (T := F_Model) (N := 16) hx hb hts i_Model hown hK hP 0 rfl rfl 12 (by decide) (hts _ k_637) (fun _ h9 => h9) rfl d_Model_claims_246 ?_
          refine lv_isub hx hb d_Model_claims_249 ?_
          refine lv_iconst (v := (-1)) hx hb d_Model_claims_250 rfl ?_
          refine y_iast (ws' := wR a k n h ca_61 tv_61 nx pcs lv cs x b_72 (upd (upd cl h.toNatClampNeg (-1)) ((1 - h).toNatClampNeg) (-1)) cm so ti pu np) hx hb hK hP hD hS 6 5 rfl rfl (vp_1m hh) d_Model_claims_251 rfl (fun H locs hP hD hS => ?_)
          refine lv_aload_n hx hb d_Model_claims_252 rfl (lv_at hl 7 rfl) ?_
          refine lv_iload_n hx hb d_Model_claims_253 rfl (lv_at hl 8 rfl) ?_
          refine lv_bipush (v := 7) hx hb d_Model_claims_254 rfl ?_
          refine lv_iconst (v := 5) hx hb d_Model_claims_256 rfl ?_
          refine xi (wr := [((a 0), .inr (5, [.int (nI n), .ref (a 1), .ref (a 2), .ref (a 3), .ref (a 4), .ref (a 5), .ref (a 6), .ref (a 7), .ref (a 8), .long ti, .ref (a 9), .int np, .int h, .int ca_61, .int tv_61, .int nx])), ((a 1), .inl ((k 0), 16384, .inl b_72)), ((a 2), .inl ((k 1), 64, .inl x)), ((a 3), .inl ((k 2), 2, .inl pcs)), ((a 4), .inl ((k 3), 2, .inl lv)), ((a 5), .inl ((k 4), 8192, .inl cs)), ((a 6), .inl ((k 5), 2, .inl (upd (upd cl h.toNatClampNeg (-1)) ((1 - h).toNatClampNeg) (-1)))), ((a 7), .inl ((k 6), 2, .inr (.inl cm))), ((a 8), .inl ((k 7), 2, .inl so)), ((a 9), .inl ((k 8), 256, .inl pu))]) (W2 := fun _ => wR a k n h ca_61 tv_61 nx pcs lv cs x b_72 (upd (upd cl h.toNatClampNeg (-1)) ((1 - h).toNatClampNeg) (-1)) cm so ti pu np) (xS (rest := [.ref (a 0)]) ⟨hx, hb, hml, hown, hts⟩ (c_Model_field x0 7 5) mw_Model_field ms_Model_field k_787 ⟨rfl, rfl, Nat.le_of_ble_eq_true rfl, Nat.le_of_ble_eq_true rfl⟩ hK hP hD hS hA hF [] [] rfl rfl rfl rfl hl.1 rfl (Nat.le_of_ble_eq_true rfl) d_Model_claims_257 ⟨Nat.zero_le _, Nat.zero_le _⟩) hP hD hS hA [] [0, 1, 2, 3, 4, 5, 6, 7, 8, 9] [0, 1, 2, 3, 4, 5, 6, 7, 8, 9] rfl rfl rfl (by decide) (fun _ => rfl) rfl (fun r_73 _ H locs h_73 hP hD hS => ?_)
          subst h_73
          refine lv_iload hx hb d_Model_claims_260 (lv_at hl 1 rfl) ?_
          refine xv (wr := []) (W2 := fun u9 => wR a k n h ca_61 tv_61 nx pcs lv cs u9 b_72 (upd (upd cl h.toNatClampNeg (-1)) ((1 - h).toNatClampNeg) (-1)) cm so ti pu np) (xV (rest := []) ⟨hx, hb, hml, hown, hts⟩ (c_Model_setReg a k n (sp_Model_field x0 7 5) (sp_Model_ramWord r_61 b) h ca_61 tv_61 nx pcs lv cs x b_72 (upd (upd cl h.toNatClampNeg (-1)) ((1 - h).toNatClampNeg) (-1)) cm so ti pu np hn hh (vp_f5 _ _)) mw_Model_setReg mv_Model_setReg k_790 ⟨rfl, rfl, Nat.le_of_ble_eq_true rfl, Nat.le_of_ble_eq_true rfl⟩ hK hP hD hS hA hF [0, 1, 2, 3, 4, 5, 6, 7, 8, 9] [0, 1, 2, 3, 4, 5, 6, 7, 8] rfl rfl rfl 0 5 rfl rfl rfl rfl hl.1 rfl (Nat.le_of_ble_eq_true rfl) d_Model_claims_262 ⟨Nat.zero_le _, Nat.zero_le _⟩) hP hD hS hA [0, 1, 2, 3, 4, 5, 6, 7, 8, 9] [] [0, 1, 2, 3, 4, 5, 6, 7, 8, 9] rfl rfl rfl (by decide) (fun _ => rfl) rfl (fun u_74 H locs h_74 hP hD hS => ?_)
          obtain ⟨x_74, e_74⟩ : ∃ z, z = u_74 := ⟨_, rfl⟩
          subst e_74
          exact rv (ca_61, tv_61, x_74, b_72, (upd (upd cl h.toNatClampNeg (-1)) ((1 - h).toNatClampNeg) (-1))) hx hb hr hlocks hP hD hS d_Model_claims_265 (by simp only [sp_Model_claims, h_61, h_72, h_74, if_neg c_2, if_pos c_52, if_pos c_54, if_pos c_62])
        · exact rv (ca_61, tv_61, x, b, cl) hx hb hr hlocks hP hD hS d_Model_claims_112 (by simp only [sp_Model_claims, h_61, if_neg c_2, if_pos c_52, if_pos c_54, if_neg c_62])
    · refine lv_iload_n hx hb d_Model_claims_19 rfl (lv_at hl 0 rfl) ?_
      refine lv_bipush (v := 12) hx hb d_Model_claims_20 rfl ?_
      refine lv_icmp_eq (tgt := 37) hx hb d_Model_claims_22 (by decide) (fun c_75 => ?_) (fun c_75 => ?_)
      · refine lv_iconst (v := 1) hx hb d_Model_claims_37 rfl ?_
        refine lv_goto (tgt := 42) hx hb d_Model_claims_38 (by decide) ?_
        refine lv_istore_n (lv' := [(3, .int 1), (2, .int (sp_Model_field x0 27 5)), (0, .ref (a 0)), (1, .int x0)]) hx hb d_Model_claims_42 rfl hl (by decide) rfl (fun ls hl => ?_)
        refine lv_iload_n hx hb d_Model_claims_43 rfl (lv_at hl 3 rfl) ?_
        refine lv_bipush (v := 12) hx hb d_Model_claims_44 rfl ?_
        refine lv_iconst (v := 3) hx hb d_Model_claims_46 rfl ?_
        refine xi (wr := [((a 0), .inr (5, [.int (nI n), .ref (a 1), .ref (a 2), .ref (a 3), .ref (a 4), .ref (a 5), .ref (a 6), .ref (a 7), .ref (a 8), .long ti, .ref (a 9), .int np, .int h, .int ca, .int tv, .int nx])), ((a 1), .inl ((k 0), 16384, .inl b)), ((a 2), .inl ((k 1), 64, .inl x)), ((a 3), .inl ((k 2), 2, .inl pcs)), ((a 4), .inl ((k 3), 2, .inl lv)), ((a 5), .inl ((k 4), 8192, .inl cs)), ((a 6), .inl ((k 5), 2, .inl cl)), ((a 7), .inl ((k 6), 2, .inr (.inl cm))), ((a 8), .inl ((k 7), 2, .inl so)), ((a 9), .inl ((k 8), 256, .inl pu))]) (W2 := fun _ => wR a k n h ca tv nx pcs lv cs x b cl cm so ti pu np) (xS (rest := []) ⟨hx, hb, hml, hown, hts⟩ (c_Model_field x0 12 3) mw_Model_field ms_Model_field k_787 ⟨rfl, rfl, Nat.le_of_ble_eq_true rfl, Nat.le_of_ble_eq_true rfl⟩ hK hP hD hS hA hF [] [] rfl rfl rfl rfl hl.1 rfl (Nat.le_of_ble_eq_true rfl) d_Model_claims_47 ⟨Nat.zero_le _, Nat.zero_le _⟩) hP hD hS hA [] [0, 1, 2, 3, 4, 5, 6, 7, 8, 9] [0, 1, 2, 3, 4, 5, 6, 7, 8, 9] rfl rfl rfl (by decide) (fun _ => rfl) rfl (fun r_76 _ H locs h_76 hP hD hS => ?_)
        subst h_76
        refine lv_iconst (v := 2) hx hb d_Model_claims_50 rfl ?_
        refine lv_icmp_ne (tgt := 73) hx hb d_Model_claims_51 (by decide) (fun c_77 => ?_) (fun c_77 => ?_)
        · refine lv_aload_n hx hb d_Model_claims_73 rfl (lv_at hl 2 rfl) ?_
          refine lv_iconst (v := 2) hx hb d_Model_claims_74 rfl ?_
          refine lv_iload_n hx hb d_Model_claims_75 rfl (lv_at hl 3 rfl) ?_
          refine xv (wr := []) (W2 := fun u9 => wR a k n h u9.1 u9.2 nx pcs lv cs x b cl cm so ti pu np) (xV (rest := []) ⟨hx, hb, hml, hown, hts⟩ (c_Model_trap a k n 2 x0 h ca tv nx pcs lv cs x b cl cm so ti pu np hn) mw_Model_trap mv_Model_trap k_763 ⟨rfl, rfl, Nat.le_of_ble_eq_true rfl, Nat.le_of_ble_eq_true rfl⟩ hK hP hD hS hA hF [0, 1, 2, 3, 4, 5, 6, 7, 8, 9] [0, 1, 2, 3, 4, 5, 6, 7, 8] rfl rfl rfl 0 5 rfl rfl rfl rfl hl.1 rfl (Nat.le_of_ble_eq_true rfl) d_Model_claims_76 ⟨Nat.zero_le _, Nat.zero_le _⟩) hP hD hS hA [0, 1, 2, 3, 4, 5, 6, 7, 8, 9] [] [0, 1, 2, 3, 4, 5, 6, 7, 8, 9] rfl rfl rfl (by decide) (fun _ => rfl) rfl (fun u_78 H locs h_78 hP hD hS => ?_)
          obtain ⟨ca_78, tv_78⟩ := u_78
          dsimp only at hP hD
          exact rv (ca_78, tv_78, x, b, cl) hx hb hr hlocks hP hD hS d_Model_claims_79 (by simp only [sp_Model_claims, h_78, if_neg c_2, if_neg c_52, if_pos c_75, if_neg c_77])
        · refine lv_iload_n hx hb d_Model_claims_54 rfl (lv_at hl 0 rfl) ?_
          refine lv_if_eq (tgt := 73) hx hb d_Model_claims_55 (by decide) (fun h9 => absurd h9 (by decide)) (fun _ => ?_)
          refine lv_iload_n hx hb d_Model_claims_58 rfl (lv_at hl 1 rfl) ?_
          refine lv_iconst (v := 2) hx hb d_Model_claims_59 rfl ?_
          refine lv_icmp_ne (tgt := 80) hx hb d_Model_claims_60 (by decide) (fun _ => ?_) (fun h9 => absurd h9 (by rw [c_75]; decide))
          refine lv_aload_n hx hb d_Model_claims_80 rfl (lv_at hl 2 rfl) ?_
          refine lv_aload_n hx hb d_Model_claims_81 rfl (lv_at hl 2 rfl) ?_
          refine lv_iload_n hx hb d_Model_claims_82 rfl (lv_at hl 3 rfl) ?_
          refine lv_bipush (v := 15) hx hb d_Model_claims_83 rfl ?_
          refine lv_iconst (v := 5) hx hb d_Model_claims_85 rfl ?_
          refine xi (wr := [((a 0), .inr (5, [.int (nI n), .ref (a 1), .ref (a 2), .ref (a 3), .ref (a 4), .ref (a 5), .ref (a 6), .ref (a 7), .ref (a 8), .long ti, .ref (a 9), .int np, .int h, .int ca, .int tv, .int nx])), ((a 1), .inl ((k 0), 16384, .inl b)), ((a 2), .inl ((k 1), 64, .inl x)), ((a 3), .inl ((k 2), 2, .inl pcs)), ((a 4), .inl ((k 3), 2, .inl lv)), ((a 5), .inl ((k 4), 8192, .inl cs)), ((a 6), .inl ((k 5), 2, .inl cl)), ((a 7), .inl ((k 6), 2, .inr (.inl cm))), ((a 8), .inl ((k 7), 2, .inl so)), ((a 9), .inl ((k 8), 256, .inl pu))]) (W2 := fun _ => wR a k n h ca tv nx pcs lv cs x b cl cm so ti pu np) (xS (rest := [.ref (a 0), .ref (a 0)]) ⟨hx, hb, hml, hown, hts⟩ (c_Model_field x0 15 5) mw_Model_field ms_Model_field k_787 ⟨rfl, rfl, Nat.le_of_ble_eq_true rfl, Nat.le_of_ble_eq_true rfl⟩ hK hP hD hS hA hF [] [] rfl rfl rfl rfl hl.1 rfl (Nat.le_of_ble_eq_true rfl) d_Model_claims_86 ⟨Nat.zero_le _, Nat.zero_le _⟩) hP hD hS hA [] [0, 1, 2, 3, 4, 5, 6, 7, 8, 9] [0, 1, 2, 3, 4, 5, 6, 7, 8, 9] rfl rfl rfl (by decide) (fun _ => rfl) rfl (fun r_81 _ H locs h_81 hP hD hS => ?_)
          subst h_81
          refine xi (wr := []) (W2 := fun _ => wR a k n h ca tv nx pcs lv cs x b cl cm so ti pu np) (xV (rest := [.ref (a 0)]) ⟨hx, hb, hml, hown, hts⟩ (c_Model_reg a k n (sp_Model_field x0 15 5) h ca tv nx pcs lv cs x b cl cm so ti pu np hn hh (vp_f5 _ _)) mw_Model_reg mv_Model_reg k_802 ⟨rfl, rfl, Nat.le_of_ble_eq_true rfl, Nat.le_of_ble_eq_true rfl⟩ hK hP hD hS hA hF [0, 1, 2, 3, 4, 5, 6, 7, 8, 9] [0, 1, 2, 3, 4, 5, 6, 7, 8] rfl rfl rfl 0 5 rfl rfl rfl rfl hl.1 rfl (Nat.le_of_ble_eq_true rfl) d_Model_claims_89 ⟨Nat.zero_le _, Nat.zero_le _⟩) hP hD hS hA [0, 1, 2, 3, 4, 5, 6, 7, 8, 9] [] [0, 1, 2, 3, 4, 5, 6, 7, 8, 9] rfl rfl rfl (by decide) (fun _ => rfl) rfl (fun r_82 _ H locs h_82 hP hD hS => ?_)
          subst h_82
          refine lv_iload_n hx hb d_Model_claims_92 rfl (lv_at hl 1 rfl) ?_
          refine lv_iconst (v := 2) hx hb d_Model_claims_93 rfl ?_
          refine lv_icmp_ne (tgt := 101) hx hb d_Model_claims_94 (by decide) (fun _ => ?_) (fun h9 => absurd h9 (by rw [c_75]; decide))
          refine lv_iconst (v := 2) hx hb d_Model_claims_101 rfl ?_
          refine xi (wr := []) (W2 := fun u9 => wR a k n h u9.1 u9.2 nx pcs lv cs x b cl cm so ti pu np) (xV (rest := []) ⟨hx, hb, hml, hown, hts⟩ (c_Model_claimed a k n (sp_Model_reg (sp_Model_field x0 15 5) h x) 2 h ca tv nx pcs lv cs x b cl cm so ti pu np hn hh) mw_Model_claimed mv_Model_claimed k_872 ⟨rfl, rfl, Nat.le_of_ble_eq_true rfl, Nat.le_of_ble_eq_true rfl⟩ hK hP hD hS hA hF [0, 1, 2, 3, 4, 5, 6, 7, 8, 9] [0, 1, 2, 3, 4, 5, 6, 7, 8] rfl rfl rfl 0 5 rfl rfl rfl rfl hl.1 rfl (Nat.le_of_ble_eq_true rfl) d_Model_claims_102 ⟨Nat.zero_le _, Nat.zero_le _⟩) hP hD hS hA [0, 1, 2, 3, 4, 5, 6, 7, 8, 9] [] [0, 1, 2, 3, 4, 5, 6, 7, 8, 9] rfl rfl rfl (by decide) (fun _ => rfl) rfl (fun r_84 u_84 H locs h_84 hP hD hS => ?_)
          obtain ⟨ca_84, tv_84⟩ := u_84
          dsimp only at hP hD
          refine lv_istore (lv' := [(4, .int r_84), (3, .int 1), (2, .int (sp_Model_field x0 27 5)), (0, .ref (a 0)), (1, .int x0)]) hx hb d_Model_claims_105 hl (by decide) rfl (fun ls hl => ?_)
          refine lv_iload hx hb d_Model_claims_107 (lv_at hl 0 rfl) ?_
          refine lv_if_ge (tgt := 113) hx hb d_Model_claims_109 (by decide) (fun c_85 => ?_) (fun c_85 => ?_)
          · refine lv_aload_n hx hb d_Model_claims_113 rfl (lv_at hl 3 rfl) ?_
            refine lv_iload_n hx hb d_Model_claims_114 rfl (lv_at hl 4 rfl) ?_
            refine lv_bipush (v := 20) hx hb d_Model_claims_115 rfl ?_
            refine lv_iconst (v := 5) hx hb d_Model_claims_117 rfl ?_
            refine xi (wr := [((a 0), .inr (5, [.int (nI n), .ref (a 1), .ref (a 2), .ref (a 3), .ref (a 4), .ref (a 5), .ref (a 6), .ref (a 7), .ref (a 8), .long ti, .ref (a 9), .int np, .int h, .int ca_84, .int tv_84, .int nx])), ((a 1), .inl ((k 0), 16384, .inl b)), ((a 2), .inl ((k 1), 64, .inl x)), ((a 3), .inl ((k 2), 2, .inl pcs)), ((a 4), .inl ((k 3), 2, .inl lv)), ((a 5), .inl ((k 4), 8192, .inl cs)), ((a 6), .inl ((k 5), 2, .inl cl)), ((a 7), .inl ((k 6), 2, .inr (.inl cm))), ((a 8), .inl ((k 7), 2, .inl so)), ((a 9), .inl ((k 8), 256, .inl pu))]) (W2 := fun _ => wR a k n h ca_84 tv_84 nx pcs lv cs x b cl cm so ti pu np) (xS (rest := [.ref (a 0)]) ⟨hx, hb, hml, hown, hts⟩ (c_Model_field x0 20 5) mw_Model_field ms_Model_field k_787 ⟨rfl, rfl, Nat.le_of_ble_eq_true rfl, Nat.le_of_ble_eq_true rfl⟩ hK hP hD hS hA hF [] [] rfl rfl rfl rfl hl.1 rfl (Nat.le_of_ble_eq_true rfl) d_Model_claims_118 ⟨Nat.zero_le _, Nat.zero_le _⟩) hP hD hS hA [] [0, 1, 2, 3, 4, 5, 6, 7, 8, 9] [0, 1, 2, 3, 4, 5, 6, 7, 8, 9] rfl rfl rfl (by decide) (fun _ => rfl) rfl (fun r_86 _ H locs h_86 hP hD hS => ?_)
            subst h_86
            refine xi (wr := []) (W2 := fun _ => wR a k n h ca_84 tv_84 nx pcs lv cs x b cl cm so ti pu np) (xV (rest := []) ⟨hx, hb, hml, hown, hts⟩ (c_Model_reg a k n (sp_Model_field x0 20 5) h ca_84 tv_84 nx pcs lv cs x b cl cm so ti pu np hn hh (vp_f5 _ _)) mw_Model_reg mv_Model_reg k_802 ⟨rfl, rfl, Nat.le_of_ble_eq_true rfl, Nat.le_of_ble_eq_true rfl⟩ hK hP hD hS hA hF [0, 1, 2, 3, 4, 5, 6, 7, 8, 9] [0, 1, 2, 3, 4, 5, 6, 7, 8] rfl rfl rfl 0 5 rfl rfl rfl rfl hl.1 rfl (Nat.le_of_ble_eq_true rfl) d_Model_claims_121 ⟨Nat.zero_le _, Nat.zero_le _⟩) hP hD hS hA [0, 1, 2, 3, 4, 5, 6, 7, 8, 9] [] [0, 1, 2, 3, 4, 5, 6, 7, 8, 9] rfl rfl rfl (by decide) (fun _ => rfl) rfl (fun r_87 _ H locs h_87 hP hD hS => ?_)
            subst h_87
            refine lv_istore (lv' := [(5, .int (sp_Model_reg (sp_Model_field x0 20 5) h x)), (4, .int r_84), (3, .int 1), (2, .int (sp_Model_field x0 27 5)), (0, .ref (a 0)), (1, .int x0)]) hx hb d_Model_claims_124 hl (by decide) rfl (fun ls hl => ?_)
            refine lv_aload_n hx hb d_Model_claims_126 rfl (lv_at hl 4 rfl) ?_
            refine lv_iload hx hb d_Model_claims_127 (lv_at hl 1 rfl) ?_
            refine xi (wr := []) (W2 := fun _ => wR a k n h ca_84 tv_84 nx pcs lv cs x b cl cm so ti pu np) (xV (rest := []) ⟨hx, hb, hml, hown, hts⟩ (c_Model_ramWord a k n r_84 h ca_84 tv_84 nx pcs lv cs x b cl cm so ti pu np hn (vpw_claimed hn h_84 c_85)) mw_Model_ramWord mv_Model_ramWord k_690 ⟨rfl, rfl, Nat.le_of_ble_eq_true rfl, Nat.le_of_ble_eq_true rfl⟩ hK hP hD hS hA hF [0, 1, 2, 3, 4, 5, 6, 7, 8, 9] [0, 1, 2, 3, 4, 5, 6, 7, 8] rfl rfl rfl 0 5 rfl rfl rfl rfl hl.1 rfl (Nat.le_of_ble_eq_true rfl) d_Model_claims_129 ⟨Nat.zero_le _, Nat.zero_le _⟩) hP hD hS hA [0, 1, 2, 3, 4, 5, 6, 7, 8, 9] [] [0, 1, 2, 3, 4, 5, 6, 7, 8, 9] rfl rfl rfl (by decide) (fun _ => rfl) rfl (fun r_88 _ H locs h_88 hP hD hS => ?_)
            subst h_88
            refine lv_istore (lv' := [(6, .int (sp_Model_ramWord r_84 b)), (5, .int (sp_Model_reg (sp_Model_field x0 20 5) h x)), (4, .int r_84), (3, .int 1), (2, .int (sp_Model_field x0 27 5)), (0, .ref (a 0)), (1, .int x0)]) hx hb d_Model_claims_132 hl (by decide) rfl (fun ls hl => ?_)
            refine lv_iload hx hb d_Model_claims_134 (lv_at hl 0 rfl) ?_
            refine lv_istore (lv' := [(7, .int (sp_Model_ramWord r_84 b)), (6, .int (sp_Model_ramWord r_84 b)), (5, .int (sp_Model_reg (sp_Model_field x0 20 5) h x)), (4, .int r_84), (3, .int 1), (2, .int (sp_Model_field x0 27 5)), (0, .ref (a 0)), (1, .int x0)]) hx hb d_Model_claims_136 hl (by decide) rfl (fun ls hl => ?_)
            refine lv_iload_n hx hb d_Model_claims_138 rfl (lv_at hl 5 rfl) ?_
            refine lv_iconst (v := 2) hx hb d_Model_claims_139 rfl ?_
            refine lv_icmp_ne (tgt := 157) hx hb d_Model_claims_140 (by decide) (fun _ => ?_) (fun h9 => absurd h9 (by rw [c_75]; decide))
            refine lv_iload_n hx hb d_Model_claims_157 rfl (lv_at hl 5 rfl) ?_
            refine lv_iconst (v := 3) hx hb d_Model_claims_158 rfl ?_
            refine lv_icmp_ne (tgt := 176) hx hb d_Model_claims_159 (by decide) (fun _ => ?_) (fun h9 => absurd h9 (by rw [c_75]; decide))
            refine lv_iconst (v := 1) hx hb d_Model_claims_176 rfl ?_
            refine lv_goto (tgt := 181) hx hb d_Model_claims_177 (by decide) ?_
            refine lv_istore (lv' := [(8, .int 1), (7, .int (sp_Model_ramWord r_84 b)), (6, .int (sp_Model_ramWord r_84 b)), (5, .int (sp_Model_reg (sp_Model_field x0 20 5) h x)), (4, .int r_84), (3, .int 1), (2, .int (sp_Model_field x0 27 5)), (0, .ref (a 0)), (1, .int x0)]) hx hb d_Model_claims_181 hl (by decide) rfl (fun ls hl => ?_)
            refine lv_iload_n hx hb d_Model_claims_183 rfl (lv_at hl 6 rfl) ?_
            refine lv_iconst (v := 3) hx hb d_Model_claims_184 rfl ?_
            refine lv_icmp_ne (tgt := 200) hx hb d_Model_claims_185 (by decide) (fun _ => ?_) (fun h9 => absurd h9 (by rw [c_75]; decide))
            refine lv_aload_n hx hb d_Model_claims_200 rfl (lv_at hl 7 rfl) ?_
            refine va_get (D := D) (ci := 5) (v := .ref (a 6)) (C := R_Model) (T := F_Model) (N := 16) hx hb hts i_Model hown hK hP 0 rfl rfl 6 (by decide) (hts _ k_631) (fun _ h9 => h9) rfl d_Model_claims_201 ?_
            refine lv_aload_n hx hb d_Model_claims_204 rfl (lv_at hl 7 rfl) ?_
            refine va_get (D := D) (ci := 5) (v := .int h) (C := R_Model) (T := F_Model) (N := 16) hx hb hts i_Model hown hK hP 0 rfl rfl 12 (by decide) (hts _ k_637) (fun _ h9 => h9) rfl d_Model_claims_205 ?_
            refine lv_iconst (v := (-1)) hx hb d_Model_claims_208 rfl ?_
            refine y_iast (ws' := wR a k n h ca_84 tv_84 nx pcs lv cs x b (upd cl h.toNatClampNeg (-1)) cm so ti pu np) hx hb hK hP hD hS 6 5 rfl rfl (vp_01 hh (by decide)) d_Model_claims_209 rfl (fun H locs hP hD hS => ?_)
            refine lv_iload hx hb d_Model_claims_210 (lv_at hl 0 rfl) ?_
            refine lv_if_eq (tgt := 252) hx hb d_Model_claims_212 (by decide) (fun h9 => absurd h9 (by decide)) (fun _ => ?_)
            refine lv_aload_n hx hb d_Model_claims_215 rfl (lv_at hl 7 rfl) ?_
            refine lv_iload hx hb d_Model_claims_216 (lv_at hl 4 rfl) ?_
            refine lv_iconst (v := 4) hx hb d_Model_claims_218 rfl ?_
            refine lv_iload_n hx hb d_Model_claims_219 rfl (lv_at hl 6 rfl) ?_
            refine lv_iconst (v := 3) hx hb d_Model_claims_220 rfl ?_
            refine lv_icmp_ne (tgt := 229) hx hb d_Model_claims_221 (by decide) (fun _ => ?_) (fun h9 => absurd h9 (by rw [c_75]; decide))
            refine lv_iload_n hx hb d_Model_claims_229 rfl (lv_at hl 6 rfl) ?_
            refine lv_iload hx hb d_Model_claims_230 (lv_at hl 2 rfl) ?_
            refine lv_iload hx hb d_Model_claims_232 (lv_at hl 3 rfl) ?_
            refine xi (wr := [((a 0), .inr (5, [.int (nI n), .ref (a 1), .ref (a 2), .ref (a 3), .ref (a 4), .ref (a 5), .ref (a 6), .ref (a 7), .ref (a 8), .long ti, .ref (a 9), .int np, .int h, .int ca_84, .int tv_84, .int nx])), ((a 1), .inl ((k 0), 16384, .inl b)), ((a 2), .inl ((k 1), 64, .inl x)), ((a 3), .inl ((k 2), 2, .inl pcs)), ((a 4), .inl ((k 3), 2, .inl lv)), ((a 5), .inl ((k 4), 8192, .inl cs)), ((a 6), .inl ((k 5), 2, .inl (upd cl h.toNatClampNeg (-1)))), ((a 7), .inl ((k 6), 2, .inr (.inl cm))), ((a 8), .inl ((k 7), 2, .inl so)), ((a 9), .inl ((k 8), 256, .inl pu))]) (W2 := fun _ => wR a k n h ca_84 tv_84 nx pcs lv cs x b (upd cl h.toNatClampNeg (-1)) cm so ti pu np) (xS (rest := [.int 4, .int r_84, .ref (a 0)]) ⟨hx, hb, hml, hown, hts⟩ (c_Model_changed (sp_Model_field x0 27 5) (sp_Model_ramWord r_84 b) (sp_Model_reg (sp_Model_field x0 20 5) h x)) mw_Model_changed ms_Model_changed k_876 ⟨rfl, rfl, Nat.le_of_ble_eq_true rfl, Nat.le_of_ble_eq_true rfl⟩ hK hP hD hS hA hF [] [] rfl rfl rfl rfl hl.1 rfl (Nat.le_of_ble_eq_true rfl) d_Model_claims_234 ⟨Nat.zero_le _, Nat.zero_le _⟩) hP hD hS hA [] [0, 1, 2, 3, 4, 5, 6, 7, 8, 9] [0, 1, 2, 3, 4, 5, 6, 7, 8, 9] rfl rfl rfl (by decide) (fun _ => rfl) rfl (fun r_94 _ H locs h_94 hP hD hS => ?_)
            subst h_94
            refine xv (wr := []) (W2 := fun u9 => wR a k n h ca_84 tv_84 nx pcs lv cs x u9 (upd cl h.toNatClampNeg (-1)) cm so ti pu np) (xV (rest := []) ⟨hx, hb, hml, hown, hts⟩ (c_Model_setBytes a k n r_84 4 (sp_Model_changed (sp_Model_field x0 27 5) (sp_Model_ramWord r_84 b) (sp_Model_reg (sp_Model_field x0 20 5) h x)) h ca_84 tv_84 nx pcs lv cs x b (upd cl h.toNatClampNeg (-1)) cm so ti pu np hn (Or.inr (Or.inr rfl)) (sb_claimed hn h_84 c_85)) mw_Model_setBytes mv_Model_setBytes k_682 ⟨rfl, rfl, Nat.le_of_ble_eq_true rfl, Nat.le_of_ble_eq_true rfl⟩ hK hP hD hS hA hF [0, 1, 2, 3, 4, 5, 6, 7, 8, 9] [0, 1, 2, 3, 4, 5, 6, 7, 8] rfl rfl rfl 0 5 rfl rfl rfl rfl hl.1 rfl (Nat.le_of_ble_eq_true rfl) d_Model_claims_237 ⟨Nat.zero_le _, Nat.zero_le _⟩) hP hD hS hA [0, 1, 2, 3, 4, 5, 6, 7, 8, 9] [] [0, 1, 2, 3, 4, 5, 6, 7, 8, 9] rfl rfl rfl (by decide) (fun _ => rfl) rfl (fun u_95 H locs h_95 hP hD hS => ?_)
            obtain ⟨b_95, e_95⟩ : ∃ z, z = u_95 := ⟨_, rfl⟩
            subst e_95
            refine lv_aload_n hx hb d_Model_claims_240 rfl (lv_at hl 7 rfl) ?_
            refine va_get (D := D) (ci := 5) (v := .ref (a 6)) (C := R_Model) (T := F_Model) (N := 16) hx hb hts i_Model hown hK hP 0 rfl rfl 6 (by decide) (hts _ k_631) (fun _ h9 => h9) rfl d_Model_claims_241 ?_
            refine lv_iconst (v := 1) hx hb d_Model_claims_244 rfl ?_
            refine lv_aload_n hx hb d_Model_claims_245 rfl (lv_at hl 7 rfl) ?_
            refine va_get (D := D) (ci := 5) (v := .int h) (C := R_Model) (T := F_Model) (N := 16) hx hb hts i_Model hown hK hP 0 rfl rfl 12 (by decide) (hts _ k_637) (fun _ h9 => h9) rfl d_Model_claims_246 ?_
            refine lv_isub hx hb d_Model_claims_249 ?_
            refine lv_iconst (v := (-1)) hx hb d_Model_claims_250 rfl ?_
            refine y_iast (ws' := wR a k n h ca_84 tv_84 nx pcs lv cs x b_95 (upd (upd cl h.toNatClampNeg (-1)) ((1 - h).toNatClampNeg) (-1)) cm so ti pu np) hx hb hK hP hD hS 6 5 rfl rfl (vp_1m hh) d_Model_claims_251 rfl (fun H locs hP hD hS => ?_)
            refine lv_aload_n hx hb d_Model_claims_252 rfl (lv_at hl 7 rfl) ?_
            refine lv_iload_n hx hb d_Model_claims_253 rfl (lv_at hl 8 rfl) ?_
            refine lv_bipush (v := 7) hx hb d_Model_claims_254 rfl ?_
            refine lv_iconst (v := 5) hx hb d_Model_claims_256 rfl ?_
            refine xi (wr := [((a 0), .inr (5, [.int (nI n), .ref (a 1), .ref (a 2), .ref (a 3), .ref (a 4), .ref (a 5), .ref (a 6), .ref (a 7), .ref (a 8), .long ti, .ref (a 9), .int np, .int h, .int ca_84, .int tv_84, .int nx])), ((a 1), .inl ((k 0), 16384, .inl b_95)), ((a 2), .inl ((k 1), 64, .inl x)), ((a 3), .inl ((k 2), 2, .inl pcs)), ((a 4), .inl ((k 3), 2, .inl lv)), ((a 5), .inl ((k 4), 8192, .inl cs)), ((a 6), .inl ((k 5), 2, .inl (upd (upd cl h.toNatClampNeg (-1)) ((1 - h).toNatClampNeg) (-1)))), ((a 7), .inl ((k 6), 2, .inr (.inl cm))), ((a 8), .inl ((k 7), 2, .inl so)), ((a 9), .inl ((k 8), 256, .inl pu))]) (W2 := fun _ => wR a k n h ca_84 tv_84 nx pcs lv cs x b_95 (upd (upd cl h.toNatClampNeg (-1)) ((1 - h).toNatClampNeg) (-1)) cm so ti pu np) (xS (rest := [.ref (a 0)]) ⟨hx, hb, hml, hown, hts⟩ (c_Model_field x0 7 5) mw_Model_field ms_Model_field k_787 ⟨rfl, rfl, Nat.le_of_ble_eq_true rfl, Nat.le_of_ble_eq_true rfl⟩ hK hP hD hS hA hF [] [] rfl rfl rfl rfl hl.1 rfl (Nat.le_of_ble_eq_true rfl) d_Model_claims_257 ⟨Nat.zero_le _, Nat.zero_le _⟩) hP hD hS hA [] [0, 1, 2, 3, 4, 5, 6, 7, 8, 9] [0, 1, 2, 3, 4, 5, 6, 7, 8, 9] rfl rfl rfl (by decide) (fun _ => rfl) rfl (fun r_96 _ H locs h_96 hP hD hS => ?_)
            subst h_96
            refine lv_iload hx hb d_Model_claims_260 (lv_at hl 1 rfl) ?_
            refine xv (wr := []) (W2 := fun u9 => wR a k n h ca_84 tv_84 nx pcs lv cs u9 b_95 (upd (upd cl h.toNatClampNeg (-1)) ((1 - h).toNatClampNeg) (-1)) cm so ti pu np) (xV (rest := []) ⟨hx, hb, hml, hown, hts⟩ (c_Model_setReg a k n (sp_Model_field x0 7 5) (sp_Model_ramWord r_84 b) h ca_84 tv_84 nx pcs lv cs x b_95 (upd (upd cl h.toNatClampNeg (-1)) ((1 - h).toNatClampNeg) (-1)) cm so ti pu np hn hh (vp_f5 _ _)) mw_Model_setReg mv_Model_setReg k_790 ⟨rfl, rfl, Nat.le_of_ble_eq_true rfl, Nat.le_of_ble_eq_true rfl⟩ hK hP hD hS hA hF [0, 1, 2, 3, 4, 5, 6, 7, 8, 9] [0, 1, 2, 3, 4, 5, 6, 7, 8] rfl rfl rfl 0 5 rfl rfl rfl rfl hl.1 rfl (Nat.le_of_ble_eq_true rfl) d_Model_claims_262 ⟨Nat.zero_le _, Nat.zero_le _⟩) hP hD hS hA [0, 1, 2, 3, 4, 5, 6, 7, 8, 9] [] [0, 1, 2, 3, 4, 5, 6, 7, 8, 9] rfl rfl rfl (by decide) (fun _ => rfl) rfl (fun u_97 H locs h_97 hP hD hS => ?_)
            obtain ⟨x_97, e_97⟩ : ∃ z, z = u_97 := ⟨_, rfl⟩
            subst e_97
            exact rv (ca_84, tv_84, x_97, b_95, (upd (upd cl h.toNatClampNeg (-1)) ((1 - h).toNatClampNeg) (-1))) hx hb hr hlocks hP hD hS d_Model_claims_265 (by simp only [sp_Model_claims, h_84, h_95, h_97, if_neg c_2, if_neg c_52, if_pos c_75, if_pos c_77, if_pos c_85])
          · exact rv (ca_84, tv_84, x, b, cl) hx hb hr hlocks hP hD hS d_Model_claims_112 (by simp only [sp_Model_claims, h_84, if_neg c_2, if_neg c_52, if_pos c_75, if_pos c_77, if_neg c_85])
      · refine lv_iload_n hx hb d_Model_claims_25 rfl (lv_at hl 0 rfl) ?_
        refine lv_bipush (v := 16) hx hb d_Model_claims_26 rfl ?_
        refine lv_icmp_lt (tgt := 41) hx hb d_Model_claims_28 (by decide) (fun c_98 => ?_) (fun c_98 => ?_)
        · refine lv_iconst (v := 0) hx hb d_Model_claims_41 rfl ?_
          refine lv_istore_n (lv' := [(3, .int 0), (2, .int (sp_Model_field x0 27 5)), (0, .ref (a 0)), (1, .int x0)]) hx hb d_Model_claims_42 rfl hl (by decide) rfl (fun ls hl => ?_)
          refine lv_iload_n hx hb d_Model_claims_43 rfl (lv_at hl 3 rfl) ?_
          refine lv_bipush (v := 12) hx hb d_Model_claims_44 rfl ?_
          refine lv_iconst (v := 3) hx hb d_Model_claims_46 rfl ?_
          refine xi (wr := [((a 0), .inr (5, [.int (nI n), .ref (a 1), .ref (a 2), .ref (a 3), .ref (a 4), .ref (a 5), .ref (a 6), .ref (a 7), .ref (a 8), .long ti, .ref (a 9), .int np, .int h, .int ca, .int tv, .int nx])), ((a 1), .inl ((k 0), 16384, .inl b)), ((a 2), .inl ((k 1), 64, .inl x)), ((a 3), .inl ((k 2), 2, .inl pcs)), ((a 4), .inl ((k 3), 2, .inl lv)), ((a 5), .inl ((k 4), 8192, .inl cs)), ((a 6), .inl ((k 5), 2, .inl cl)), ((a 7), .inl ((k 6), 2, .inr (.inl cm))), ((a 8), .inl ((k 7), 2, .inl so)), ((a 9), .inl ((k 8), 256, .inl pu))]) (W2 := fun _ => wR a k n h ca tv nx pcs lv cs x b cl cm so ti pu np) (xS (rest := []) ⟨hx, hb, hml, hown, hts⟩ (c_Model_field x0 12 3) mw_Model_field ms_Model_field k_787 ⟨rfl, rfl, Nat.le_of_ble_eq_true rfl, Nat.le_of_ble_eq_true rfl⟩ hK hP hD hS hA hF [] [] rfl rfl rfl rfl hl.1 rfl (Nat.le_of_ble_eq_true rfl) d_Model_claims_47 ⟨Nat.zero_le _, Nat.zero_le _⟩) hP hD hS hA [] [0, 1, 2, 3, 4, 5, 6, 7, 8, 9] [0, 1, 2, 3, 4, 5, 6, 7, 8, 9] rfl rfl rfl (by decide) (fun _ => rfl) rfl (fun r_99 _ H locs h_99 hP hD hS => ?_)
          subst h_99
          refine lv_iconst (v := 2) hx hb d_Model_claims_50 rfl ?_
          refine lv_icmp_ne (tgt := 73) hx hb d_Model_claims_51 (by decide) (fun c_100 => ?_) (fun c_100 => ?_)
          · refine lv_aload_n hx hb d_Model_claims_73 rfl (lv_at hl 2 rfl) ?_
            refine lv_iconst (v := 2) hx hb d_Model_claims_74 rfl ?_
            refine lv_iload_n hx hb d_Model_claims_75 rfl (lv_at hl 3 rfl) ?_
            refine xv (wr := []) (W2 := fun u9 => wR a k n h u9.1 u9.2 nx pcs lv cs x b cl cm so ti pu np) (xV (rest := []) ⟨hx, hb, hml, hown, hts⟩ (c_Model_trap a k n 2 x0 h ca tv nx pcs lv cs x b cl cm so ti pu np hn) mw_Model_trap mv_Model_trap k_763 ⟨rfl, rfl, Nat.le_of_ble_eq_true rfl, Nat.le_of_ble_eq_true rfl⟩ hK hP hD hS hA hF [0, 1, 2, 3, 4, 5, 6, 7, 8, 9] [0, 1, 2, 3, 4, 5, 6, 7, 8] rfl rfl rfl 0 5 rfl rfl rfl rfl hl.1 rfl (Nat.le_of_ble_eq_true rfl) d_Model_claims_76 ⟨Nat.zero_le _, Nat.zero_le _⟩) hP hD hS hA [0, 1, 2, 3, 4, 5, 6, 7, 8, 9] [] [0, 1, 2, 3, 4, 5, 6, 7, 8, 9] rfl rfl rfl (by decide) (fun _ => rfl) rfl (fun u_101 H locs h_101 hP hD hS => ?_)
            obtain ⟨ca_101, tv_101⟩ := u_101
            dsimp only at hP hD
            exact rv (ca_101, tv_101, x, b, cl) hx hb hr hlocks hP hD hS d_Model_claims_79 (by simp only [sp_Model_claims, h_101, if_neg c_2, if_neg c_52, if_neg c_75, if_pos c_98, if_neg c_100])
          · refine lv_iload_n hx hb d_Model_claims_54 rfl (lv_at hl 0 rfl) ?_
            refine lv_if_eq (tgt := 73) hx hb d_Model_claims_55 (by decide) (fun _ => ?_) (fun h9 => absurd (by decide) h9)
            refine lv_aload_n hx hb d_Model_claims_73 rfl (lv_at hl 2 rfl) ?_
            refine lv_iconst (v := 2) hx hb d_Model_claims_74 rfl ?_
            refine lv_iload_n hx hb d_Model_claims_75 rfl (lv_at hl 3 rfl) ?_
            refine xv (wr := []) (W2 := fun u9 => wR a k n h u9.1 u9.2 nx pcs lv cs x b cl cm so ti pu np) (xV (rest := []) ⟨hx, hb, hml, hown, hts⟩ (c_Model_trap a k n 2 x0 h ca tv nx pcs lv cs x b cl cm so ti pu np hn) mw_Model_trap mv_Model_trap k_763 ⟨rfl, rfl, Nat.le_of_ble_eq_true rfl, Nat.le_of_ble_eq_true rfl⟩ hK hP hD hS hA hF [0, 1, 2, 3, 4, 5, 6, 7, 8, 9] [0, 1, 2, 3, 4, 5, 6, 7, 8] rfl rfl rfl 0 5 rfl rfl rfl rfl hl.1 rfl (Nat.le_of_ble_eq_true rfl) d_Model_claims_76 ⟨Nat.zero_le _, Nat.zero_le _⟩) hP hD hS hA [0, 1, 2, 3, 4, 5, 6, 7, 8, 9] [] [0, 1, 2, 3, 4, 5, 6, 7, 8, 9] rfl rfl rfl (by decide) (fun _ => rfl) rfl (fun u_103 H locs h_103 hP hD hS => ?_)
            obtain ⟨ca_103, tv_103⟩ := u_103
            dsimp only at hP hD
            exact rv (ca_103, tv_103, x, b, cl) hx hb hr hlocks hP hD hS d_Model_claims_79 (by simp only [sp_Model_claims, h_103, if_neg c_2, if_neg c_52, if_neg c_75, if_pos c_98, if_pos c_100])
        · refine lv_iload_n hx hb d_Model_claims_31 rfl (lv_at hl 0 rfl) ?_
          refine lv_iconst (v := 4) hx hb d_Model_claims_32 rfl ?_
          refine lv_irem hx hb d_Model_claims_33 (by decide) ?_
          refine lv_if_ne (tgt := 41) hx hb d_Model_claims_34 (by decide) (fun c_104 => ?_) (fun c_104 => ?_)
          · refine lv_iconst (v := 0) hx hb d_Model_claims_41 rfl ?_
            refine lv_istore_n (lv' := [(3, .int 0), (2, .int (sp_Model_field x0 27 5)), (0, .ref (a 0)), (1, .int x0)]) hx hb d_Model_claims_42 rfl hl (by decide) rfl (fun ls hl => ?_)
            refine lv_iload_n hx hb d_Model_claims_43 rfl (lv_at hl 3 rfl) ?_
            refine lv_bipush (v := 12) hx hb d_Model_claims_44 rfl ?_
            refine lv_iconst (v := 3) hx hb d_Model_claims_46 rfl ?_
            refine xi (wr := [((a 0), .inr (5, [.int (nI n), .ref (a 1), .ref (a 2), .ref (a 3), .ref (a 4), .ref (a 5), .ref (a 6), .ref (a 7), .ref (a 8), .long ti, .ref (a 9), .int np, .int h, .int ca, .int tv, .int nx])), ((a 1), .inl ((k 0), 16384, .inl b)), ((a 2), .inl ((k 1), 64, .inl x)), ((a 3), .inl ((k 2), 2, .inl pcs)), ((a 4), .inl ((k 3), 2, .inl lv)), ((a 5), .inl ((k 4), 8192, .inl cs)), ((a 6), .inl ((k 5), 2, .inl cl)), ((a 7), .inl ((k 6), 2, .inr (.inl cm))), ((a 8), .inl ((k 7), 2, .inl so)), ((a 9), .inl ((k 8), 256, .inl pu))]) (W2 := fun _ => wR a k n h ca tv nx pcs lv cs x b cl cm so ti pu np) (xS (rest := []) ⟨hx, hb, hml, hown, hts⟩ (c_Model_field x0 12 3) mw_Model_field ms_Model_field k_787 ⟨rfl, rfl, Nat.le_of_ble_eq_true rfl, Nat.le_of_ble_eq_true rfl⟩ hK hP hD hS hA hF [] [] rfl rfl rfl rfl hl.1 rfl (Nat.le_of_ble_eq_true rfl) d_Model_claims_47 ⟨Nat.zero_le _, Nat.zero_le _⟩) hP hD hS hA [] [0, 1, 2, 3, 4, 5, 6, 7, 8, 9] [0, 1, 2, 3, 4, 5, 6, 7, 8, 9] rfl rfl rfl (by decide) (fun _ => rfl) rfl (fun r_105 _ H locs h_105 hP hD hS => ?_)
            subst h_105
            refine lv_iconst (v := 2) hx hb d_Model_claims_50 rfl ?_
            refine lv_icmp_ne (tgt := 73) hx hb d_Model_claims_51 (by decide) (fun c_106 => ?_) (fun c_106 => ?_)
            · refine lv_aload_n hx hb d_Model_claims_73 rfl (lv_at hl 2 rfl) ?_
              refine lv_iconst (v := 2) hx hb d_Model_claims_74 rfl ?_
              refine lv_iload_n hx hb d_Model_claims_75 rfl (lv_at hl 3 rfl) ?_
              refine xv (wr := []) (W2 := fun u9 => wR a k n h u9.1 u9.2 nx pcs lv cs x b cl cm so ti pu np) (xV (rest := []) ⟨hx, hb, hml, hown, hts⟩ (c_Model_trap a k n 2 x0 h ca tv nx pcs lv cs x b cl cm so ti pu np hn) mw_Model_trap mv_Model_trap k_763 ⟨rfl, rfl, Nat.le_of_ble_eq_true rfl, Nat.le_of_ble_eq_true rfl⟩ hK hP hD hS hA hF [0, 1, 2, 3, 4, 5, 6, 7, 8, 9] [0, 1, 2, 3, 4, 5, 6, 7, 8] rfl rfl rfl 0 5 rfl rfl rfl rfl hl.1 rfl (Nat.le_of_ble_eq_true rfl) d_Model_claims_76 ⟨Nat.zero_le _, Nat.zero_le _⟩) hP hD hS hA [0, 1, 2, 3, 4, 5, 6, 7, 8, 9] [] [0, 1, 2, 3, 4, 5, 6, 7, 8, 9] rfl rfl rfl (by decide) (fun _ => rfl) rfl (fun u_107 H locs h_107 hP hD hS => ?_)
              obtain ⟨ca_107, tv_107⟩ := u_107
              dsimp only at hP hD
              exact rv (ca_107, tv_107, x, b, cl) hx hb hr hlocks hP hD hS d_Model_claims_79 (by simp only [sp_Model_claims, h_107, if_neg c_2, if_neg c_52, if_neg c_75, if_neg c_98, if_neg c_104, if_neg c_106])
            · refine lv_iload_n hx hb d_Model_claims_54 rfl (lv_at hl 0 rfl) ?_
              refine lv_if_eq (tgt := 73) hx hb d_Model_claims_55 (by decide) (fun _ => ?_) (fun h9 => absurd (by decide) h9)
              refine lv_aload_n hx hb d_Model_claims_73 rfl (lv_at hl 2 rfl) ?_
              refine lv_iconst (v := 2) hx hb d_Model_claims_74 rfl ?_
              refine lv_iload_n hx hb d_Model_claims_75 rfl (lv_at hl 3 rfl) ?_
              refine xv (wr := []) (W2 := fun u9 => wR a k n h u9.1 u9.2 nx pcs lv cs x b cl cm so ti pu np) (xV (rest := []) ⟨hx, hb, hml, hown, hts⟩ (c_Model_trap a k n 2 x0 h ca tv nx pcs lv cs x b cl cm so ti pu np hn) mw_Model_trap mv_Model_trap k_763 ⟨rfl, rfl, Nat.le_of_ble_eq_true rfl, Nat.le_of_ble_eq_true rfl⟩ hK hP hD hS hA hF [0, 1, 2, 3, 4, 5, 6, 7, 8, 9] [0, 1, 2, 3, 4, 5, 6, 7, 8] rfl rfl rfl 0 5 rfl rfl rfl rfl hl.1 rfl (Nat.le_of_ble_eq_true rfl) d_Model_claims_76 ⟨Nat.zero_le _, Nat.zero_le _⟩) hP hD hS hA [0, 1, 2, 3, 4, 5, 6, 7, 8, 9] [] [0, 1, 2, 3, 4, 5, 6, 7, 8, 9] rfl rfl rfl (by decide) (fun _ => rfl) rfl (fun u_109 H locs h_109 hP hD hS => ?_)
              obtain ⟨ca_109, tv_109⟩ := u_109
              dsimp only at hP hD
              exact rv (ca_109, tv_109, x, b, cl) hx hb hr hlocks hP hD hS d_Model_claims_79 (by simp only [sp_Model_claims, h_109, if_neg c_2, if_neg c_52, if_neg c_75, if_neg c_98, if_neg c_104, if_pos c_106])
          · refine lv_iconst (v := 1) hx hb d_Model_claims_37 rfl ?_
            refine lv_goto (tgt := 42) hx hb d_Model_claims_38 (by decide) ?_
            refine lv_istore_n (lv' := [(3, .int 1), (2, .int (sp_Model_field x0 27 5)), (0, .ref (a 0)), (1, .int x0)]) hx hb d_Model_claims_42 rfl hl (by decide) rfl (fun ls hl => ?_)
            refine lv_iload_n hx hb d_Model_claims_43 rfl (lv_at hl 3 rfl) ?_
            refine lv_bipush (v := 12) hx hb d_Model_claims_44 rfl ?_
            refine lv_iconst (v := 3) hx hb d_Model_claims_46 rfl ?_
            refine xi (wr := [((a 0), .inr (5, [.int (nI n), .ref (a 1), .ref (a 2), .ref (a 3), .ref (a 4), .ref (a 5), .ref (a 6), .ref (a 7), .ref (a 8), .long ti, .ref (a 9), .int np, .int h, .int ca, .int tv, .int nx])), ((a 1), .inl ((k 0), 16384, .inl b)), ((a 2), .inl ((k 1), 64, .inl x)), ((a 3), .inl ((k 2), 2, .inl pcs)), ((a 4), .inl ((k 3), 2, .inl lv)), ((a 5), .inl ((k 4), 8192, .inl cs)), ((a 6), .inl ((k 5), 2, .inl cl)), ((a 7), .inl ((k 6), 2, .inr (.inl cm))), ((a 8), .inl ((k 7), 2, .inl so)), ((a 9), .inl ((k 8), 256, .inl pu))]) (W2 := fun _ => wR a k n h ca tv nx pcs lv cs x b cl cm so ti pu np) (xS (rest := []) ⟨hx, hb, hml, hown, hts⟩ (c_Model_field x0 12 3) mw_Model_field ms_Model_field k_787 ⟨rfl, rfl, Nat.le_of_ble_eq_true rfl, Nat.le_of_ble_eq_true rfl⟩ hK hP hD hS hA hF [] [] rfl rfl rfl rfl hl.1 rfl (Nat.le_of_ble_eq_true rfl) d_Model_claims_47 ⟨Nat.zero_le _, Nat.zero_le _⟩) hP hD hS hA [] [0, 1, 2, 3, 4, 5, 6, 7, 8, 9] [0, 1, 2, 3, 4, 5, 6, 7, 8, 9] rfl rfl rfl (by decide) (fun _ => rfl) rfl (fun r_110 _ H locs h_110 hP hD hS => ?_)
            subst h_110
            refine lv_iconst (v := 2) hx hb d_Model_claims_50 rfl ?_
            refine lv_icmp_ne (tgt := 73) hx hb d_Model_claims_51 (by decide) (fun c_111 => ?_) (fun c_111 => ?_)
            · refine lv_aload_n hx hb d_Model_claims_73 rfl (lv_at hl 2 rfl) ?_
              refine lv_iconst (v := 2) hx hb d_Model_claims_74 rfl ?_
              refine lv_iload_n hx hb d_Model_claims_75 rfl (lv_at hl 3 rfl) ?_
              refine xv (wr := []) (W2 := fun u9 => wR a k n h u9.1 u9.2 nx pcs lv cs x b cl cm so ti pu np) (xV (rest := []) ⟨hx, hb, hml, hown, hts⟩ (c_Model_trap a k n 2 x0 h ca tv nx pcs lv cs x b cl cm so ti pu np hn) mw_Model_trap mv_Model_trap k_763 ⟨rfl, rfl, Nat.le_of_ble_eq_true rfl, Nat.le_of_ble_eq_true rfl⟩ hK hP hD hS hA hF [0, 1, 2, 3, 4, 5, 6, 7, 8, 9] [0, 1, 2, 3, 4, 5, 6, 7, 8] rfl rfl rfl 0 5 rfl rfl rfl rfl hl.1 rfl (Nat.le_of_ble_eq_true rfl) d_Model_claims_76 ⟨Nat.zero_le _, Nat.zero_le _⟩) hP hD hS hA [0, 1, 2, 3, 4, 5, 6, 7, 8, 9] [] [0, 1, 2, 3, 4, 5, 6, 7, 8, 9] rfl rfl rfl (by decide) (fun _ => rfl) rfl (fun u_112 H locs h_112 hP hD hS => ?_)
              obtain ⟨ca_112, tv_112⟩ := u_112
              dsimp only at hP hD
              exact rv (ca_112, tv_112, x, b, cl) hx hb hr hlocks hP hD hS d_Model_claims_79 (by simp only [sp_Model_claims, h_112, if_neg c_2, if_neg c_52, if_neg c_75, if_neg c_98, if_pos c_104, if_neg c_111])
            · refine lv_iload_n hx hb d_Model_claims_54 rfl (lv_at hl 0 rfl) ?_
              refine lv_if_eq (tgt := 73) hx hb d_Model_claims_55 (by decide) (fun h9 => absurd h9 (by decide)) (fun _ => ?_)
              refine lv_iload_n hx hb d_Model_claims_58 rfl (lv_at hl 1 rfl) ?_
              refine lv_iconst (v := 2) hx hb d_Model_claims_59 rfl ?_
              refine lv_icmp_ne (tgt := 80) hx hb d_Model_claims_60 (by decide) (fun c_114 => ?_) (fun c_114 => ?_)
              · refine lv_aload_n hx hb d_Model_claims_80 rfl (lv_at hl 2 rfl) ?_
                refine lv_aload_n hx hb d_Model_claims_81 rfl (lv_at hl 2 rfl) ?_
                refine lv_iload_n hx hb d_Model_claims_82 rfl (lv_at hl 3 rfl) ?_
                refine lv_bipush (v := 15) hx hb d_Model_claims_83 rfl ?_
                refine lv_iconst (v := 5) hx hb d_Model_claims_85 rfl ?_
                refine xi (wr := [((a 0), .inr (5, [.int (nI n), .ref (a 1), .ref (a 2), .ref (a 3), .ref (a 4), .ref (a 5), .ref (a 6), .ref (a 7), .ref (a 8), .long ti, .ref (a 9), .int np, .int h, .int ca, .int tv, .int nx])), ((a 1), .inl ((k 0), 16384, .inl b)), ((a 2), .inl ((k 1), 64, .inl x)), ((a 3), .inl ((k 2), 2, .inl pcs)), ((a 4), .inl ((k 3), 2, .inl lv)), ((a 5), .inl ((k 4), 8192, .inl cs)), ((a 6), .inl ((k 5), 2, .inl cl)), ((a 7), .inl ((k 6), 2, .inr (.inl cm))), ((a 8), .inl ((k 7), 2, .inl so)), ((a 9), .inl ((k 8), 256, .inl pu))]) (W2 := fun _ => wR a k n h ca tv nx pcs lv cs x b cl cm so ti pu np) (xS (rest := [.ref (a 0), .ref (a 0)]) ⟨hx, hb, hml, hown, hts⟩ (c_Model_field x0 15 5) mw_Model_field ms_Model_field k_787 ⟨rfl, rfl, Nat.le_of_ble_eq_true rfl, Nat.le_of_ble_eq_true rfl⟩ hK hP hD hS hA hF [] [] rfl rfl rfl rfl hl.1 rfl (Nat.le_of_ble_eq_true rfl) d_Model_claims_86 ⟨Nat.zero_le _, Nat.zero_le _⟩) hP hD hS hA [] [0, 1, 2, 3, 4, 5, 6, 7, 8, 9] [0, 1, 2, 3, 4, 5, 6, 7, 8, 9] rfl rfl rfl (by decide) (fun _ => rfl) rfl (fun r_115 _ H locs h_115 hP hD hS => ?_)
                subst h_115
                refine xi (wr := []) (W2 := fun _ => wR a k n h ca tv nx pcs lv cs x b cl cm so ti pu np) (xV (rest := [.ref (a 0)]) ⟨hx, hb, hml, hown, hts⟩ (c_Model_reg a k n (sp_Model_field x0 15 5) h ca tv nx pcs lv cs x b cl cm so ti pu np hn hh (vp_f5 _ _)) mw_Model_reg mv_Model_reg k_802 ⟨rfl, rfl, Nat.le_of_ble_eq_true rfl, Nat.le_of_ble_eq_true rfl⟩ hK hP hD hS hA hF [0, 1, 2, 3, 4, 5, 6, 7, 8, 9] [0, 1, 2, 3, 4, 5, 6, 7, 8] rfl rfl rfl 0 5 rfl rfl rfl rfl hl.1 rfl (Nat.le_of_ble_eq_true rfl) d_Model_claims_89 ⟨Nat.zero_le _, Nat.zero_le _⟩) hP hD hS hA [0, 1, 2, 3, 4, 5, 6, 7, 8, 9] [] [0, 1, 2, 3, 4, 5, 6, 7, 8, 9] rfl rfl rfl (by decide) (fun _ => rfl) rfl (fun r_116 _ H locs h_116 hP hD hS => ?_)
                subst h_116
                refine lv_iload_n hx hb d_Model_claims_92 rfl (lv_at hl 1 rfl) ?_
                refine lv_iconst (v := 2) hx hb d_Model_claims_93 rfl ?_
                refine lv_icmp_ne (tgt := 101) hx hb d_Model_claims_94 (by decide) (fun _ => ?_) (fun h9 => absurd h9 c_114)
                refine lv_iconst (v := 2) hx hb d_Model_claims_101 rfl ?_
                refine xi (wr := []) (W2 := fun u9 => wR a k n h u9.1 u9.2 nx pcs lv cs x b cl cm so ti pu np) (xV (rest := []) ⟨hx, hb, hml, hown, hts⟩ (c_Model_claimed a k n (sp_Model_reg (sp_Model_field x0 15 5) h x) 2 h ca tv nx pcs lv cs x b cl cm so ti pu np hn hh) mw_Model_claimed mv_Model_claimed k_872 ⟨rfl, rfl, Nat.le_of_ble_eq_true rfl, Nat.le_of_ble_eq_true rfl⟩ hK hP hD hS hA hF [0, 1, 2, 3, 4, 5, 6, 7, 8, 9] [0, 1, 2, 3, 4, 5, 6, 7, 8] rfl rfl rfl 0 5 rfl rfl rfl rfl hl.1 rfl (Nat.le_of_ble_eq_true rfl) d_Model_claims_102 ⟨Nat.zero_le _, Nat.zero_le _⟩) hP hD hS hA [0, 1, 2, 3, 4, 5, 6, 7, 8, 9] [] [0, 1, 2, 3, 4, 5, 6, 7, 8, 9] rfl rfl rfl (by decide) (fun _ => rfl) rfl (fun r_118 u_118 H locs h_118 hP hD hS => ?_)
                obtain ⟨ca_118, tv_118⟩ := u_118
                dsimp only at hP hD
                refine lv_istore (lv' := [(4, .int r_118), (3, .int 1), (2, .int (sp_Model_field x0 27 5)), (0, .ref (a 0)), (1, .int x0)]) hx hb d_Model_claims_105 hl (by decide) rfl (fun ls hl => ?_)
                refine lv_iload hx hb d_Model_claims_107 (lv_at hl 0 rfl) ?_
                refine lv_if_ge (tgt := 113) hx hb d_Model_claims_109 (by decide) (fun c_119 => ?_) (fun c_119 => ?_)
                · refine lv_aload_n hx hb d_Model_claims_113 rfl (lv_at hl 3 rfl) ?_
                  refine lv_iload_n hx hb d_Model_claims_114 rfl (lv_at hl 4 rfl) ?_
                  refine lv_bipush (v := 20) hx hb d_Model_claims_115 rfl ?_
                  refine lv_iconst (v := 5) hx hb d_Model_claims_117 rfl ?_
                  refine xi (wr := [((a 0), .inr (5, [.int (nI n), .ref (a 1), .ref (a 2), .ref (a 3), .ref (a 4), .ref (a 5), .ref (a 6), .ref (a 7), .ref (a 8), .long ti, .ref (a 9), .int np, .int h, .int ca_118, .int tv_118, .int nx])), ((a 1), .inl ((k 0), 16384, .inl b)), ((a 2), .inl ((k 1), 64, .inl x)), ((a 3), .inl ((k 2), 2, .inl pcs)), ((a 4), .inl ((k 3), 2, .inl lv)), ((a 5), .inl ((k 4), 8192, .inl cs)), ((a 6), .inl ((k 5), 2, .inl cl)), ((a 7), .inl ((k 6), 2, .inr (.inl cm))), ((a 8), .inl ((k 7), 2, .inl so)), ((a 9), .inl ((k 8), 256, .inl pu))]) (W2 := fun _ => wR a k n h ca_118 tv_118 nx pcs lv cs x b cl cm so ti pu np) (xS (rest := [.ref (a 0)]) ⟨hx, hb, hml, hown, hts⟩ (c_Model_field x0 20 5) mw_Model_field ms_Model_field k_787 ⟨rfl, rfl, Nat.le_of_ble_eq_true rfl, Nat.le_of_ble_eq_true rfl⟩ hK hP hD hS hA hF [] [] rfl rfl rfl rfl hl.1 rfl (Nat.le_of_ble_eq_true rfl) d_Model_claims_118 ⟨Nat.zero_le _, Nat.zero_le _⟩) hP hD hS hA [] [0, 1, 2, 3, 4, 5, 6, 7, 8, 9] [0, 1, 2, 3, 4, 5, 6, 7, 8, 9] rfl rfl rfl (by decide) (fun _ => rfl) rfl (fun r_120 _ H locs h_120 hP hD hS => ?_)
                  subst h_120
                  refine xi (wr := []) (W2 := fun _ => wR a k n h ca_118 tv_118 nx pcs lv cs x b cl cm so ti pu np) (xV (rest := []) ⟨hx, hb, hml, hown, hts⟩ (c_Model_reg a k n (sp_Model_field x0 20 5) h ca_118 tv_118 nx pcs lv cs x b cl cm so ti pu np hn hh (vp_f5 _ _)) mw_Model_reg mv_Model_reg k_802 ⟨rfl, rfl, Nat.le_of_ble_eq_true rfl, Nat.le_of_ble_eq_true rfl⟩ hK hP hD hS hA hF [0, 1, 2, 3, 4, 5, 6, 7, 8, 9] [0, 1, 2, 3, 4, 5, 6, 7, 8] rfl rfl rfl 0 5 rfl rfl rfl rfl hl.1 rfl (Nat.le_of_ble_eq_true rfl) d_Model_claims_121 ⟨Nat.zero_le _, Nat.zero_le _⟩) hP hD hS hA [0, 1, 2, 3, 4, 5, 6, 7, 8, 9] [] [0, 1, 2, 3, 4, 5, 6, 7, 8, 9] rfl rfl rfl (by decide) (fun _ => rfl) rfl (fun r_121 _ H locs h_121 hP hD hS => ?_)
                  subst h_121
                  refine lv_istore (lv' := [(5, .int (sp_Model_reg (sp_Model_field x0 20 5) h x)), (4, .int r_118), (3, .int 1), (2, .int (sp_Model_field x0 27 5)), (0, .ref (a 0)), (1, .int x0)]) hx hb d_Model_claims_124 hl (by decide) rfl (fun ls hl => ?_)
                  refine lv_aload_n hx hb d_Model_claims_126 rfl (lv_at hl 4 rfl) ?_
                  refine lv_iload hx hb d_Model_claims_127 (lv_at hl 1 rfl) ?_
                  refine xi (wr := []) (W2 := fun _ => wR a k n h ca_118 tv_118 nx pcs lv cs x b cl cm so ti pu np) (xV (rest := []) ⟨hx, hb, hml, hown, hts⟩ (c_Model_ramWord a k n r_118 h ca_118 tv_118 nx pcs lv cs x b cl cm so ti pu np hn (vpw_claimed hn h_118 c_119)) mw_Model_ramWord mv_Model_ramWord k_690 ⟨rfl, rfl, Nat.le_of_ble_eq_true rfl, Nat.le_of_ble_eq_true rfl⟩ hK hP hD hS hA hF [0, 1, 2, 3, 4, 5, 6, 7, 8, 9] [0, 1, 2, 3, 4, 5, 6, 7, 8] rfl rfl rfl 0 5 rfl rfl rfl rfl hl.1 rfl (Nat.le_of_ble_eq_true rfl) d_Model_claims_129 ⟨Nat.zero_le _, Nat.zero_le _⟩) hP hD hS hA [0, 1, 2, 3, 4, 5, 6, 7, 8, 9] [] [0, 1, 2, 3, 4, 5, 6, 7, 8, 9] rfl rfl rfl (by decide) (fun _ => rfl) rfl (fun r_122 _ H locs h_122 hP hD hS => ?_)
                  subst h_122
                  refine lv_istore (lv' := [(6, .int (sp_Model_ramWord r_118 b)), (5, .int (sp_Model_reg (sp_Model_field x0 20 5) h x)), (4, .int r_118), (3, .int 1), (2, .int (sp_Model_field x0 27 5)), (0, .ref (a 0)), (1, .int x0)]) hx hb d_Model_claims_132 hl (by decide) rfl (fun ls hl => ?_)
                  refine lv_iload hx hb d_Model_claims_134 (lv_at hl 0 rfl) ?_
                  refine lv_istore (lv' := [(7, .int (sp_Model_ramWord r_118 b)), (6, .int (sp_Model_ramWord r_118 b)), (5, .int (sp_Model_reg (sp_Model_field x0 20 5) h x)), (4, .int r_118), (3, .int 1), (2, .int (sp_Model_field x0 27 5)), (0, .ref (a 0)), (1, .int x0)]) hx hb d_Model_claims_136 hl (by decide) rfl (fun ls hl => ?_)
                  refine lv_iload_n hx hb d_Model_claims_138 rfl (lv_at hl 5 rfl) ?_
                  refine lv_iconst (v := 2) hx hb d_Model_claims_139 rfl ?_
                  refine lv_icmp_ne (tgt := 157) hx hb d_Model_claims_140 (by decide) (fun _ => ?_) (fun h9 => absurd h9 c_114)
                  refine lv_iload_n hx hb d_Model_claims_157 rfl (lv_at hl 5 rfl) ?_
                  refine lv_iconst (v := 3) hx hb d_Model_claims_158 rfl ?_
                  refine lv_icmp_ne (tgt := 176) hx hb d_Model_claims_159 (by decide) (fun c_124 => ?_) (fun c_124 => ?_)
                  · refine lv_iconst (v := 1) hx hb d_Model_claims_176 rfl ?_
                    refine lv_goto (tgt := 181) hx hb d_Model_claims_177 (by decide) ?_
                    refine lv_istore (lv' := [(8, .int 1), (7, .int (sp_Model_ramWord r_118 b)), (6, .int (sp_Model_ramWord r_118 b)), (5, .int (sp_Model_reg (sp_Model_field x0 20 5) h x)), (4, .int r_118), (3, .int 1), (2, .int (sp_Model_field x0 27 5)), (0, .ref (a 0)), (1, .int x0)]) hx hb d_Model_claims_181 hl (by decide) rfl (fun ls hl => ?_)
                    refine lv_iload_n hx hb d_Model_claims_183 rfl (lv_at hl 6 rfl) ?_
                    refine lv_iconst (v := 3) hx hb d_Model_claims_184 rfl ?_
                    refine lv_icmp_ne (tgt := 200) hx hb d_Model_claims_185 (by decide) (fun _ => ?_) (fun h9 => absurd h9 c_124)
                    refine lv_aload_n hx hb d_Model_claims_200 rfl (lv_at hl 7 rfl) ?_
                    refine va_get (D := D) (ci := 5) (v := .ref (a 6)) (C := R_Model) (T := F_Model) (N := 16) hx hb hts i_Model hown hK hP 0 rfl rfl 6 (by decide) (hts _ k_631) (fun _ h9 => h9) rfl d_Model_claims_201 ?_
                    refine lv_aload_n hx hb d_Model_claims_204 rfl (lv_at hl 7 rfl) ?_
                    refine va_get (D := D) (ci := 5) (v := .int h) (C := R_Model) (T := F_Model) (N := 16) hx hb hts i_Model hown hK hP 0 rfl rfl 12 (by decide) (hts _ k_637) (fun _ h9 => h9) rfl d_Model_claims_205 ?_
                    refine lv_iconst (v := (-1)) hx hb d_Model_claims_208 rfl ?_
                    refine y_iast (ws' := wR a k n h ca_118 tv_118 nx pcs lv cs x b (upd cl h.toNatClampNeg (-1)) cm so ti pu np) hx hb hK hP hD hS 6 5 rfl rfl (vp_01 hh (by decide)) d_Model_claims_209 rfl (fun H locs hP hD hS => ?_)
                    refine lv_iload hx hb d_Model_claims_210 (lv_at hl 0 rfl) ?_
                    refine lv_if_eq (tgt := 252) hx hb d_Model_claims_212 (by decide) (fun h9 => absurd h9 (by decide)) (fun _ => ?_)
                    refine lv_aload_n hx hb d_Model_claims_215 rfl (lv_at hl 7 rfl) ?_
                    refine lv_iload hx hb d_Model_claims_216 (lv_at hl 4 rfl) ?_
                    refine lv_iconst (v := 4) hx hb d_Model_claims_218 rfl ?_
                    refine lv_iload_n hx hb d_Model_claims_219 rfl (lv_at hl 6 rfl) ?_
                    refine lv_iconst (v := 3) hx hb d_Model_claims_220 rfl ?_
                    refine lv_icmp_ne (tgt := 229) hx hb d_Model_claims_221 (by decide) (fun _ => ?_) (fun h9 => absurd h9 c_124)
                    refine lv_iload_n hx hb d_Model_claims_229 rfl (lv_at hl 6 rfl) ?_
                    refine lv_iload hx hb d_Model_claims_230 (lv_at hl 2 rfl) ?_
                    refine lv_iload hx hb d_Model_claims_232 (lv_at hl 3 rfl) ?_
                    refine xi (wr := [((a 0), .inr (5, [.int (nI n), .ref (a 1), .ref (a 2), .ref (a 3), .ref (a 4), .ref (a 5), .ref (a 6), .ref (a 7), .ref (a 8), .long ti, .ref (a 9), .int np, .int h, .int ca_118, .int tv_118, .int nx])), ((a 1), .inl ((k 0), 16384, .inl b)), ((a 2), .inl ((k 1), 64, .inl x)), ((a 3), .inl ((k 2), 2, .inl pcs)), ((a 4), .inl ((k 3), 2, .inl lv)), ((a 5), .inl ((k 4), 8192, .inl cs)), ((a 6), .inl ((k 5), 2, .inl (upd cl h.toNatClampNeg (-1)))), ((a 7), .inl ((k 6), 2, .inr (.inl cm))), ((a 8), .inl ((k 7), 2, .inl so)), ((a 9), .inl ((k 8), 256, .inl pu))]) (W2 := fun _ => wR a k n h ca_118 tv_118 nx pcs lv cs x b (upd cl h.toNatClampNeg (-1)) cm so ti pu np) (xS (rest := [.int 4, .int r_118, .ref (a 0)]) ⟨hx, hb, hml, hown, hts⟩ (c_Model_changed (sp_Model_field x0 27 5) (sp_Model_ramWord r_118 b) (sp_Model_reg (sp_Model_field x0 20 5) h x)) mw_Model_changed ms_Model_changed k_876 ⟨rfl, rfl, Nat.le_of_ble_eq_true rfl, Nat.le_of_ble_eq_true rfl⟩ hK hP hD hS hA hF [] [] rfl rfl rfl rfl hl.1 rfl (Nat.le_of_ble_eq_true rfl) d_Model_claims_234 ⟨Nat.zero_le _, Nat.zero_le _⟩) hP hD hS hA [] [0, 1, 2, 3, 4, 5, 6, 7, 8, 9] [0, 1, 2, 3, 4, 5, 6, 7, 8, 9] rfl rfl rfl (by decide) (fun _ => rfl) rfl (fun r_128 _ H locs h_128 hP hD hS => ?_)
                    subst h_128
                    refine xv (wr := []) (W2 := fun u9 => wR a k n h ca_118 tv_118 nx pcs lv cs x u9 (upd cl h.toNatClampNeg (-1)) cm so ti pu np) (xV (rest := []) ⟨hx, hb, hml, hown, hts⟩ (c_Model_setBytes a k n r_118 4 (sp_Model_changed (sp_Model_field x0 27 5) (sp_Model_ramWord r_118 b) (sp_Model_reg (sp_Model_field x0 20 5) h x)) h ca_118 tv_118 nx pcs lv cs x b (upd cl h.toNatClampNeg (-1)) cm so ti pu np hn (Or.inr (Or.inr rfl)) (sb_claimed hn h_118 c_119)) mw_Model_setBytes mv_Model_setBytes k_682 ⟨rfl, rfl, Nat.le_of_ble_eq_true rfl, Nat.le_of_ble_eq_true rfl⟩ hK hP hD hS hA hF [0, 1, 2, 3, 4, 5, 6, 7, 8, 9] [0, 1, 2, 3, 4, 5, 6, 7, 8] rfl rfl rfl 0 5 rfl rfl rfl rfl hl.1 rfl (Nat.le_of_ble_eq_true rfl) d_Model_claims_237 ⟨Nat.zero_le _, Nat.zero_le _⟩) hP hD hS hA [0, 1, 2, 3, 4, 5, 6, 7, 8, 9] [] [0, 1, 2, 3, 4, 5, 6, 7, 8, 9] rfl rfl rfl (by decide) (fun _ => rfl) rfl (fun u_129 H locs h_129 hP hD hS => ?_)
                    obtain ⟨b_129, e_129⟩ : ∃ z, z = u_129 := ⟨_, rfl⟩
                    subst e_129
                    refine lv_aload_n hx hb d_Model_claims_240 rfl (lv_at hl 7 rfl) ?_
                    refine va_get (D := D) (ci := 5) (v := .ref (a 6)) (C := R_Model) (T := F_Model) (N := 16) hx hb hts i_Model hown hK hP 0 rfl rfl 6 (by decide) (hts _ k_631) (fun _ h9 => h9) rfl d_Model_claims_241 ?_
                    refine lv_iconst (v := 1) hx hb d_Model_claims_244 rfl ?_
                    refine lv_aload_n hx hb d_Model_claims_245 rfl (lv_at hl 7 rfl) ?_
                    refine va_get (D := D) (ci := 5) (v := .int h) (C := R_Model) (T := F_Model) (N := 16) hx hb hts i_Model hown hK hP 0 rfl rfl 12 (by decide) (hts _ k_637) (fun _ h9 => h9) rfl d_Model_claims_246 ?_
                    refine lv_isub hx hb d_Model_claims_249 ?_
                    refine lv_iconst (v := (-1)) hx hb d_Model_claims_250 rfl ?_
                    refine y_iast (ws' := wR a k n h ca_118 tv_118 nx pcs lv cs x b_129 (upd (upd cl h.toNatClampNeg (-1)) ((1 - h).toNatClampNeg) (-1)) cm so ti pu np) hx hb hK hP hD hS 6 5 rfl rfl (vp_1m hh) d_Model_claims_251 rfl (fun H locs hP hD hS => ?_)
                    refine lv_aload_n hx hb d_Model_claims_252 rfl (lv_at hl 7 rfl) ?_
                    refine lv_iload_n hx hb d_Model_claims_253 rfl (lv_at hl 8 rfl) ?_
                    refine lv_bipush (v := 7) hx hb d_Model_claims_254 rfl ?_
                    refine lv_iconst (v := 5) hx hb d_Model_claims_256 rfl ?_
                    refine xi (wr := [((a 0), .inr (5, [.int (nI n), .ref (a 1), .ref (a 2), .ref (a 3), .ref (a 4), .ref (a 5), .ref (a 6), .ref (a 7), .ref (a 8), .long ti, .ref (a 9), .int np, .int h, .int ca_118, .int tv_118, .int nx])), ((a 1), .inl ((k 0), 16384, .inl b_129)), ((a 2), .inl ((k 1), 64, .inl x)), ((a 3), .inl ((k 2), 2, .inl pcs)), ((a 4), .inl ((k 3), 2, .inl lv)), ((a 5), .inl ((k 4), 8192, .inl cs)), ((a 6), .inl ((k 5), 2, .inl (upd (upd cl h.toNatClampNeg (-1)) ((1 - h).toNatClampNeg) (-1)))), ((a 7), .inl ((k 6), 2, .inr (.inl cm))), ((a 8), .inl ((k 7), 2, .inl so)), ((a 9), .inl ((k 8), 256, .inl pu))]) (W2 := fun _ => wR a k n h ca_118 tv_118 nx pcs lv cs x b_129 (upd (upd cl h.toNatClampNeg (-1)) ((1 - h).toNatClampNeg) (-1)) cm so ti pu np) (xS (rest := [.ref (a 0)]) ⟨hx, hb, hml, hown, hts⟩ (c_Model_field x0 7 5) mw_Model_field ms_Model_field k_787 ⟨rfl, rfl, Nat.le_of_ble_eq_true rfl, Nat.le_of_ble_eq_true rfl⟩ hK hP hD hS hA hF [] [] rfl rfl rfl rfl hl.1 rfl (Nat.le_of_ble_eq_true rfl) d_Model_claims_257 ⟨Nat.zero_le _, Nat.zero_le _⟩) hP hD hS hA [] [0, 1, 2, 3, 4, 5, 6, 7, 8, 9] [0, 1, 2, 3, 4, 5, 6, 7, 8, 9] rfl rfl rfl (by decide) (fun _ => rfl) rfl (fun r_130 _ H locs h_130 hP hD hS => ?_)
                    subst h_130
                    refine lv_iload hx hb d_Model_claims_260 (lv_at hl 1 rfl) ?_
                    refine xv (wr := []) (W2 := fun u9 => wR a k n h ca_118 tv_118 nx pcs lv cs u9 b_129 (upd (upd cl h.toNatClampNeg (-1)) ((1 - h).toNatClampNeg) (-1)) cm so ti pu np) (xV (rest := []) ⟨hx, hb, hml, hown, hts⟩ (c_Model_setReg a k n (sp_Model_field x0 7 5) (sp_Model_ramWord r_118 b) h ca_118 tv_118 nx pcs lv cs x b_129 (upd (upd cl h.toNatClampNeg (-1)) ((1 - h).toNatClampNeg) (-1)) cm so ti pu np hn hh (vp_f5 _ _)) mw_Model_setReg mv_Model_setReg k_790 ⟨rfl, rfl, Nat.le_of_ble_eq_true rfl, Nat.le_of_ble_eq_true rfl⟩ hK hP hD hS hA hF [0, 1, 2, 3, 4, 5, 6, 7, 8, 9] [0, 1, 2, 3, 4, 5, 6, 7, 8] rfl rfl rfl 0 5 rfl rfl rfl rfl hl.1 rfl (Nat.le_of_ble_eq_true rfl) d_Model_claims_262 ⟨Nat.zero_le _, Nat.zero_le _⟩) hP hD hS hA [0, 1, 2, 3, 4, 5, 6, 7, 8, 9] [] [0, 1, 2, 3, 4, 5, 6, 7, 8, 9] rfl rfl rfl (by decide) (fun _ => rfl) rfl (fun u_131 H locs h_131 hP hD hS => ?_)
                    obtain ⟨x_131, e_131⟩ : ∃ z, z = u_131 := ⟨_, rfl⟩
                    subst e_131
                    exact rv (ca_118, tv_118, x_131, b_129, (upd (upd cl h.toNatClampNeg (-1)) ((1 - h).toNatClampNeg) (-1))) hx hb hr hlocks hP hD hS d_Model_claims_265 (by simp only [sp_Model_claims, h_118, h_129, h_131, if_neg c_2, if_neg c_52, if_neg c_75, if_neg c_98, if_pos c_104, if_pos c_111, if_neg c_114, if_pos c_119, if_neg c_124])
                  · refine lv_aload_n hx hb d_Model_claims_162 rfl (lv_at hl 6 rfl) ?_
                    refine va_get (D := D) (ci := 5) (v := .ref (a 6)) (C := R_Model) (T := F_Model) (N := 16) hx hb hts i_Model hown hK hP 0 rfl rfl 6 (by decide) (hts _ k_631) (fun _ h9 => h9) rfl d_Model_claims_163 ?_
                    refine lv_aload_n hx hb d_Model_claims_166 rfl (lv_at hl 6 rfl) ?_
                    refine va_get (D := D) (ci := 5) (v := .int h) (C := R_Model) (T := F_Model) (N := 16) hx hb hts i_Model hown hK hP 0 rfl rfl 12 (by decide) (hts _ k_637) (fun _ h9 => h9) rfl d_Model_claims_167 ?_
                    refine y_iald (v := cl h.toNatClampNeg) hx hb hK hP 6 5 rfl rfl (vp_01 hh (by decide)) rfl d_Model_claims_170 ?_
                    refine lv_iload hx hb d_Model_claims_171 (lv_at hl 3 rfl) ?_
                    refine lv_icmp_ne (tgt := 180) hx hb d_Model_claims_173 (by decide) (fun c_132 => ?_) (fun c_132 => ?_)
                    · refine lv_iconst (v := 0) hx hb d_Model_claims_180 rfl ?_
                      refine lv_istore (lv' := [(8, .int 0), (7, .int (sp_Model_ramWord r_118 b)), (6, .int (sp_Model_ramWord r_118 b)), (5, .int (sp_Model_reg (sp_Model_field x0 20 5) h x)), (4, .int r_118), (3, .int 1), (2, .int (sp_Model_field x0 27 5)), (0, .ref (a 0)), (1, .int x0)]) hx hb d_Model_claims_181 hl (by decide) rfl (fun ls hl => ?_)
                      refine lv_iload_n hx hb d_Model_claims_183 rfl (lv_at hl 6 rfl) ?_
                      refine lv_iconst (v := 3) hx hb d_Model_claims_184 rfl ?_
                      refine lv_icmp_ne (tgt := 200) hx hb d_Model_claims_185 (by decide) (fun h9 => absurd c_124 h9) (fun _ => ?_)
                      refine lv_iload hx hb d_Model_claims_188 (lv_at hl 0 rfl) ?_
                      refine lv_if_eq (tgt := 197) hx hb d_Model_claims_190 (by decide) (fun _ => ?_) (fun h9 => absurd (by decide) h9)
                      refine lv_iconst (v := 1) hx hb d_Model_claims_197 rfl ?_
                      refine lv_istore (lv' := [(7, .int 1), (8, .int 0), (6, .int (sp_Model_ramWord r_118 b)), (5, .int (sp_Model_reg (sp_Model_field x0 20 5) h x)), (4, .int r_118), (3, .int 1), (2, .int (sp_Model_field x0 27 5)), (0, .ref (a 0)), (1, .int x0)]) hx hb d_Model_claims_198 hl (by decide) rfl (fun ls hl => ?_)
                      refine lv_aload_n hx hb d_Model_claims_200 rfl (lv_at hl 7 rfl) ?_
                      refine va_get (D := D) (ci := 5) (v := .ref (a 6)) (C := R_Model) (T := F_Model) (N := 16) hx hb hts i_Model hown hK hP 0 rfl rfl 6 (by decide) (hts _ k_631) (fun _ h9 => h9) rfl d_Model_claims_201 ?_
                      refine lv_aload_n hx hb d_Model_claims_204 rfl (lv_at hl 7 rfl) ?_
                      refine va_get (D := D) (ci := 5) (v := .int h) (C := R_Model) (T := F_Model) (N := 16) hx hb hts i_Model hown hK hP 0 rfl rfl 12 (by decide) (hts _ k_637) (fun _ h9 => h9) rfl d_Model_claims_205 ?_
                      refine lv_iconst (v := (-1)) hx hb d_Model_claims_208 rfl ?_
                      refine y_iast (ws' := wR a k n h ca_118 tv_118 nx pcs lv cs x b (upd cl h.toNatClampNeg (-1)) cm so ti pu np) hx hb hK hP hD hS 6 5 rfl rfl (vp_01 hh (by decide)) d_Model_claims_209 rfl (fun H locs hP hD hS => ?_)
                      refine lv_iload hx hb d_Model_claims_210 (lv_at hl 1 rfl) ?_
                      refine lv_if_eq (tgt := 252) hx hb d_Model_claims_212 (by decide) (fun _ => ?_) (fun h9 => absurd (by decide) h9)
                      refine lv_aload_n hx hb d_Model_claims_252 rfl (lv_at hl 7 rfl) ?_
                      refine lv_iload_n hx hb d_Model_claims_253 rfl (lv_at hl 8 rfl) ?_
                      refine lv_bipush (v := 7) hx hb d_Model_claims_254 rfl ?_
                      refine lv_iconst (v := 5) hx hb d_Model_claims_256 rfl ?_
                      refine xi (wr := [((a 0), .inr (5, [.int (nI n), .ref (a 1), .ref (a 2), .ref (a 3), .ref (a 4), .ref (a 5), .ref (a 6), .ref (a 7), .ref (a 8), .long ti, .ref (a 9), .int np, .int h, .int ca_118, .int tv_118, .int nx])), ((a 1), .inl ((k 0), 16384, .inl b)), ((a 2), .inl ((k 1), 64, .inl x)), ((a 3), .inl ((k 2), 2, .inl pcs)), ((a 4), .inl ((k 3), 2, .inl lv)), ((a 5), .inl ((k 4), 8192, .inl cs)), ((a 6), .inl ((k 5), 2, .inl (upd cl h.toNatClampNeg (-1)))), ((a 7), .inl ((k 6), 2, .inr (.inl cm))), ((a 8), .inl ((k 7), 2, .inl so)), ((a 9), .inl ((k 8), 256, .inl pu))]) (W2 := fun _ => wR a k n h ca_118 tv_118 nx pcs lv cs x b (upd cl h.toNatClampNeg (-1)) cm so ti pu np) (xS (rest := [.ref (a 0)]) ⟨hx, hb, hml, hown, hts⟩ (c_Model_field x0 7 5) mw_Model_field ms_Model_field k_787 ⟨rfl, rfl, Nat.le_of_ble_eq_true rfl, Nat.le_of_ble_eq_true rfl⟩ hK hP hD hS hA hF [] [] rfl rfl rfl rfl hl.1 rfl (Nat.le_of_ble_eq_true rfl) d_Model_claims_257 ⟨Nat.zero_le _, Nat.zero_le _⟩) hP hD hS hA [] [0, 1, 2, 3, 4, 5, 6, 7, 8, 9] [0, 1, 2, 3, 4, 5, 6, 7, 8, 9] rfl rfl rfl (by decide) (fun _ => rfl) rfl (fun r_136 _ H locs h_136 hP hD hS => ?_)
                      subst h_136
                      refine lv_iload hx hb d_Model_claims_260 (lv_at hl 0 rfl) ?_
                      refine xv (wr := []) (W2 := fun u9 => wR a k n h ca_118 tv_118 nx pcs lv cs u9 b (upd cl h.toNatClampNeg (-1)) cm so ti pu np) (xV (rest := []) ⟨hx, hb, hml, hown, hts⟩ (c_Model_setReg a k n (sp_Model_field x0 7 5) 1 h ca_118 tv_118 nx pcs lv cs x b (upd cl h.toNatClampNeg (-1)) cm so ti pu np hn hh (vp_f5 _ _)) mw_Model_setReg mv_Model_setReg k_790 ⟨rfl, rfl, Nat.le_of_ble_eq_true rfl, Nat.le_of_ble_eq_true rfl⟩ hK hP hD hS hA hF [0, 1, 2, 3, 4, 5, 6, 7, 8, 9] [0, 1, 2, 3, 4, 5, 6, 7, 8] rfl rfl rfl 0 5 rfl rfl rfl rfl hl.1 rfl (Nat.le_of_ble_eq_true rfl) d_Model_claims_262 ⟨Nat.zero_le _, Nat.zero_le _⟩) hP hD hS hA [0, 1, 2, 3, 4, 5, 6, 7, 8, 9] [] [0, 1, 2, 3, 4, 5, 6, 7, 8, 9] rfl rfl rfl (by decide) (fun _ => rfl) rfl (fun u_137 H locs h_137 hP hD hS => ?_)
                      obtain ⟨x_137, e_137⟩ : ∃ z, z = u_137 := ⟨_, rfl⟩
                      subst e_137
                      exact rv (ca_118, tv_118, x_137, b, (upd cl h.toNatClampNeg (-1))) hx hb hr hlocks hP hD hS d_Model_claims_265 (by simp only [sp_Model_claims, h_118, h_137, if_neg c_2, if_neg c_52, if_neg c_75, if_neg c_98, if_pos c_104, if_pos c_111, if_neg c_114, if_pos c_119, if_pos c_124, if_neg c_132])
                    · refine lv_iconst (v := 1) hx hb d_Model_claims_176 rfl ?_
                      refine lv_goto (tgt := 181) hx hb d_Model_claims_177 (by decide) ?_
                      refine lv_istore (lv' := [(8, .int 1), (7, .int (sp_Model_ramWord r_118 b)), (6, .int (sp_Model_ramWord r_118 b)), (5, .int (sp_Model_reg (sp_Model_field x0 20 5) h x)), (4, .int r_118), (3, .int 1), (2, .int (sp_Model_field x0 27 5)), (0, .ref (a 0)), (1, .int x0)]) hx hb d_Model_claims_181 hl (by decide) rfl (fun ls hl => ?_)
                      refine lv_iload_n hx hb d_Model_claims_183 rfl (lv_at hl 6 rfl) ?_
                      refine lv_iconst (v := 3) hx hb d_Model_claims_184 rfl ?_
                      refine lv_icmp_ne (tgt := 200) hx hb d_Model_claims_185 (by decide) (fun h9 => absurd c_124 h9) (fun _ => ?_)
                      refine lv_iload hx hb d_Model_claims_188 (lv_at hl 0 rfl) ?_
                      refine lv_if_eq (tgt := 197) hx hb d_Model_claims_190 (by decide) (fun h9 => absurd h9 (by decide)) (fun _ => ?_)
                      refine lv_iconst (v := 0) hx hb d_Model_claims_193 rfl ?_
                      refine lv_goto (tgt := 198) hx hb d_Model_claims_194 (by decide) ?_
                      refine lv_istore (lv' := [(7, .int 0), (8, .int 1), (6, .int (sp_Model_ramWord r_118 b)), (5, .int (sp_Model_reg (sp_Model_field x0 20 5) h x)), (4, .int r_118), (3, .int 1), (2, .int (sp_Model_field x0 27 5)), (0, .ref (a 0)), (1, .int x0)]) hx hb d_Model_claims_198 hl (by decide) rfl (fun ls hl => ?_)
                      refine lv_aload_n hx hb d_Model_claims_200 rfl (lv_at hl 7 rfl) ?_
                      refine va_get (D := D) (ci := 5) (v := .ref (a 6)) (C := R_Model) (T := F_Model) (N := 16) hx hb hts i_Model hown hK hP 0 rfl rfl 6 (by decide) (hts _ k_631) (fun _ h9 => h9) rfl d_Model_claims_201 ?_
                      refine lv_aload_n hx hb d_Model_claims_204 rfl (lv_at hl 7 rfl) ?_
                      refine va_get (D := D) (ci := 5) (v := .int h) (C := R_Model) (T := F_Model) (N := 16) hx hb hts i_Model hown hK hP 0 rfl rfl 12 (by decide) (hts _ k_637) (fun _ h9 => h9) rfl d_Model_claims_205 ?_
                      refine lv_iconst (v := (-1)) hx hb d_Model_claims_208 rfl ?_
                      refine y_iast (ws' := wR a k n h ca_118 tv_118 nx pcs lv cs x b (upd cl h.toNatClampNeg (-1)) cm so ti pu np) hx hb hK hP hD hS 6 5 rfl rfl (vp_01 hh (by decide)) d_Model_claims_209 rfl (fun H locs hP hD hS => ?_)
                      refine lv_iload hx hb d_Model_claims_210 (lv_at hl 1 rfl) ?_
                      refine lv_if_eq (tgt := 252) hx hb d_Model_claims_212 (by decide) (fun h9 => absurd h9 (by decide)) (fun _ => ?_)
                      refine lv_aload_n hx hb d_Model_claims_215 rfl (lv_at hl 7 rfl) ?_
                      refine lv_iload hx hb d_Model_claims_216 (lv_at hl 4 rfl) ?_
                      refine lv_iconst (v := 4) hx hb d_Model_claims_218 rfl ?_
                      refine lv_iload_n hx hb d_Model_claims_219 rfl (lv_at hl 6 rfl) ?_
                      refine lv_iconst (v := 3) hx hb d_Model_claims_220 rfl ?_
                      refine lv_icmp_ne (tgt := 229) hx hb d_Model_claims_221 (by decide) (fun h9 => absurd c_124 h9) (fun _ => ?_)
                      refine lv_iload hx hb d_Model_claims_224 (lv_at hl 3 rfl) ?_
                      refine lv_goto (tgt := 237) hx hb d_Model_claims_226 (by decide) ?_
                      refine xv (wr := []) (W2 := fun u9 => wR a k n h ca_118 tv_118 nx pcs lv cs x u9 (upd cl h.toNatClampNeg (-1)) cm so ti pu np) (xV (rest := []) ⟨hx, hb, hml, hown, hts⟩ (c_Model_setBytes a k n r_118 4 (sp_Model_reg (sp_Model_field x0 20 5) h x) h ca_118 tv_118 nx pcs lv cs x b (upd cl h.toNatClampNeg (-1)) cm so ti pu np hn (Or.inr (Or.inr rfl)) (sb_claimed hn h_118 c_119)) mw_Model_setBytes mv_Model_setBytes k_682 ⟨rfl, rfl, Nat.le_of_ble_eq_true rfl, Nat.le_of_ble_eq_true rfl⟩ hK hP hD hS hA hF [0, 1, 2, 3, 4, 5, 6, 7, 8, 9] [0, 1, 2, 3, 4, 5, 6, 7, 8] rfl rfl rfl 0 5 rfl rfl rfl rfl hl.1 rfl (Nat.le_of_ble_eq_true rfl) d_Model_claims_237 ⟨Nat.zero_le _, Nat.zero_le _⟩) hP hD hS hA [0, 1, 2, 3, 4, 5, 6, 7, 8, 9] [] [0, 1, 2, 3, 4, 5, 6, 7, 8, 9] rfl rfl rfl (by decide) (fun _ => rfl) rfl (fun u_142 H locs h_142 hP hD hS => ?_)
                      obtain ⟨b_142, e_142⟩ : ∃ z, z = u_142 := ⟨_, rfl⟩
                      subst e_142
                      refine lv_aload_n hx hb d_Model_claims_240 rfl (lv_at hl 7 rfl) ?_
                      refine va_get (D := D) (ci := 5) (v := .ref (a 6)) (C := R_Model) (T := F_Model) (N := 16) hx hb hts i_Model hown hK hP 0 rfl rfl 6 (by decide) (hts _ k_631) (fun _ h9 => h9) rfl d_Model_claims_241 ?_
                      refine lv_iconst (v := 1) hx hb d_Model_claims_244 rfl ?_
                      refine lv_aload_n hx hb d_Model_claims_245 rfl (lv_at hl 7 rfl) ?_
                      refine va_get (D := D) (ci := 5) (v := .int h) (C := R_Model) (T := F_Model) (N := 16) hx hb hts i_Model hown hK hP 0 rfl rfl 12 (by decide) (hts _ k_637) (fun _ h9 => h9) rfl d_Model_claims_246 ?_
                      refine lv_isub hx hb d_Model_claims_249 ?_
                      refine lv_iconst (v := (-1)) hx hb d_Model_claims_250 rfl ?_
                      refine y_iast (ws' := wR a k n h ca_118 tv_118 nx pcs lv cs x b_142 (upd (upd cl h.toNatClampNeg (-1)) ((1 - h).toNatClampNeg) (-1)) cm so ti pu np) hx hb hK hP hD hS 6 5 rfl rfl (vp_1m hh) d_Model_claims_251 rfl (fun H locs hP hD hS => ?_)
                      refine lv_aload_n hx hb d_Model_claims_252 rfl (lv_at hl 7 rfl) ?_
                      refine lv_iload_n hx hb d_Model_claims_253 rfl (lv_at hl 8 rfl) ?_
                      refine lv_bipush (v := 7) hx hb d_Model_claims_254 rfl ?_
                      refine lv_iconst (v := 5) hx hb d_Model_claims_256 rfl ?_
                      refine xi (wr := [((a 0), .inr (5, [.int (nI n), .ref (a 1), .ref (a 2), .ref (a 3), .ref (a 4), .ref (a 5), .ref (a 6), .ref (a 7), .ref (a 8), .long ti, .ref (a 9), .int np, .int h, .int ca_118, .int tv_118, .int nx])), ((a 1), .inl ((k 0), 16384, .inl b_142)), ((a 2), .inl ((k 1), 64, .inl x)), ((a 3), .inl ((k 2), 2, .inl pcs)), ((a 4), .inl ((k 3), 2, .inl lv)), ((a 5), .inl ((k 4), 8192, .inl cs)), ((a 6), .inl ((k 5), 2, .inl (upd (upd cl h.toNatClampNeg (-1)) ((1 - h).toNatClampNeg) (-1)))), ((a 7), .inl ((k 6), 2, .inr (.inl cm))), ((a 8), .inl ((k 7), 2, .inl so)), ((a 9), .inl ((k 8), 256, .inl pu))]) (W2 := fun _ => wR a k n h ca_118 tv_118 nx pcs lv cs x b_142 (upd (upd cl h.toNatClampNeg (-1)) ((1 - h).toNatClampNeg) (-1)) cm so ti pu np) (xS (rest := [.ref (a 0)]) ⟨hx, hb, hml, hown, hts⟩ (c_Model_field x0 7 5) mw_Model_field ms_Model_field k_787 ⟨rfl, rfl, Nat.le_of_ble_eq_true rfl, Nat.le_of_ble_eq_true rfl⟩ hK hP hD hS hA hF [] [] rfl rfl rfl rfl hl.1 rfl (Nat.le_of_ble_eq_true rfl) d_Model_claims_257 ⟨Nat.zero_le _, Nat.zero_le _⟩) hP hD hS hA [] [0, 1, 2, 3, 4, 5, 6, 7, 8, 9] [0, 1, 2, 3, 4, 5, 6, 7, 8, 9] rfl rfl rfl (by decide) (fun _ => rfl) rfl (fun r_143 _ H locs h_143 hP hD hS => ?_)
                      subst h_143
                      refine lv_iload hx hb d_Model_claims_260 (lv_at hl 0 rfl) ?_
                      refine xv (wr := []) (W2 := fun u9 => wR a k n h ca_118 tv_118 nx pcs lv cs u9 b_142 (upd (upd cl h.toNatClampNeg (-1)) ((1 - h).toNatClampNeg) (-1)) cm so ti pu np) (xV (rest := []) ⟨hx, hb, hml, hown, hts⟩ (c_Model_setReg a k n (sp_Model_field x0 7 5) 0 h ca_118 tv_118 nx pcs lv cs x b_142 (upd (upd cl h.toNatClampNeg (-1)) ((1 - h).toNatClampNeg) (-1)) cm so ti pu np hn hh (vp_f5 _ _)) mw_Model_setReg mv_Model_setReg k_790 ⟨rfl, rfl, Nat.le_of_ble_eq_true rfl, Nat.le_of_ble_eq_true rfl⟩ hK hP hD hS hA hF [0, 1, 2, 3, 4, 5, 6, 7, 8, 9] [0, 1, 2, 3, 4, 5, 6, 7, 8] rfl rfl rfl 0 5 rfl rfl rfl rfl hl.1 rfl (Nat.le_of_ble_eq_true rfl) d_Model_claims_262 ⟨Nat.zero_le _, Nat.zero_le _⟩) hP hD hS hA [0, 1, 2, 3, 4, 5, 6, 7, 8, 9] [] [0, 1, 2, 3, 4, 5, 6, 7, 8, 9] rfl rfl rfl (by decide) (fun _ => rfl) rfl (fun u_144 H locs h_144 hP hD hS => ?_)
                      obtain ⟨x_144, e_144⟩ : ∃ z, z = u_144 := ⟨_, rfl⟩
                      subst e_144
                      exact rv (ca_118, tv_118, x_144, b_142, (upd (upd cl h.toNatClampNeg (-1)) ((1 - h).toNatClampNeg) (-1))) hx hb hr hlocks hP hD hS d_Model_claims_265 (by simp only [sp_Model_claims, h_118, h_142, h_144, if_neg c_2, if_neg c_52, if_neg c_75, if_neg c_98, if_pos c_104, if_pos c_111, if_neg c_114, if_pos c_119, if_pos c_124, if_pos c_132])
                · exact rv (ca_118, tv_118, x, b, cl) hx hb hr hlocks hP hD hS d_Model_claims_112 (by simp only [sp_Model_claims, h_118, if_neg c_2, if_neg c_52, if_neg c_75, if_neg c_98, if_pos c_104, if_pos c_111, if_neg c_114, if_neg c_119])
              · refine lv_iload_n hx hb d_Model_claims_63 rfl (lv_at hl 3 rfl) ?_
                refine lv_bipush (v := 20) hx hb d_Model_claims_64 rfl ?_
                refine lv_iconst (v := 5) hx hb d_Model_claims_66 rfl ?_
                refine xi (wr := [((a 0), .inr (5, [.int (nI n), .ref (a 1), .ref (a 2), .ref (a 3), .ref (a 4), .ref (a 5), .ref (a 6), .ref (a 7), .ref (a 8), .long ti, .ref (a 9), .int np, .int h, .int ca, .int tv, .int nx])), ((a 1), .inl ((k 0), 16384, .inl b)), ((a 2), .inl ((k 1), 64, .inl x)), ((a 3), .inl ((k 2), 2, .inl pcs)), ((a 4), .inl ((k 3), 2, .inl lv)), ((a 5), .inl ((k 4), 8192, .inl cs)), ((a 6), .inl ((k 5), 2, .inl cl)), ((a 7), .inl ((k 6), 2, .inr (.inl cm))), ((a 8), .inl ((k 7), 2, .inl so)), ((a 9), .inl ((k 8), 256, .inl pu))]) (W2 := fun _ => wR a k n h ca tv nx pcs lv cs x b cl cm so ti pu np) (xS (rest := []) ⟨hx, hb, hml, hown, hts⟩ (c_Model_field x0 20 5) mw_Model_field ms_Model_field k_787 ⟨rfl, rfl, Nat.le_of_ble_eq_true rfl, Nat.le_of_ble_eq_true rfl⟩ hK hP hD hS hA hF [] [] rfl rfl rfl rfl hl.1 rfl (Nat.le_of_ble_eq_true rfl) d_Model_claims_67 ⟨Nat.zero_le _, Nat.zero_le _⟩) hP hD hS hA [] [0, 1, 2, 3, 4, 5, 6, 7, 8, 9] [0, 1, 2, 3, 4, 5, 6, 7, 8, 9] rfl rfl rfl (by decide) (fun _ => rfl) rfl (fun r_145 _ H locs h_145 hP hD hS => ?_)
                subst h_145
                refine lv_if_eq (tgt := 80) hx hb d_Model_claims_70 (by decide) (fun c_146 => ?_) (fun c_146 => ?_)
                · refine lv_aload_n hx hb d_Model_claims_80 rfl (lv_at hl 2 rfl) ?_
                  refine lv_aload_n hx hb d_Model_claims_81 rfl (lv_at hl 2 rfl) ?_
                  refine lv_iload_n hx hb d_Model_claims_82 rfl (lv_at hl 3 rfl) ?_
                  refine lv_bipush (v := 15) hx hb d_Model_claims_83 rfl ?_
                  refine lv_iconst (v := 5) hx hb d_Model_claims_85 rfl ?_
                  refine xi (wr := [((a 0), .inr (5, [.int (nI n), .ref (a 1), .ref (a 2), .ref (a 3), .ref (a 4), .ref (a 5), .ref (a 6), .ref (a 7), .ref (a 8), .long ti, .ref (a 9), .int np, .int h, .int ca, .int tv, .int nx])), ((a 1), .inl ((k 0), 16384, .inl b)), ((a 2), .inl ((k 1), 64, .inl x)), ((a 3), .inl ((k 2), 2, .inl pcs)), ((a 4), .inl ((k 3), 2, .inl lv)), ((a 5), .inl ((k 4), 8192, .inl cs)), ((a 6), .inl ((k 5), 2, .inl cl)), ((a 7), .inl ((k 6), 2, .inr (.inl cm))), ((a 8), .inl ((k 7), 2, .inl so)), ((a 9), .inl ((k 8), 256, .inl pu))]) (W2 := fun _ => wR a k n h ca tv nx pcs lv cs x b cl cm so ti pu np) (xS (rest := [.ref (a 0), .ref (a 0)]) ⟨hx, hb, hml, hown, hts⟩ (c_Model_field x0 15 5) mw_Model_field ms_Model_field k_787 ⟨rfl, rfl, Nat.le_of_ble_eq_true rfl, Nat.le_of_ble_eq_true rfl⟩ hK hP hD hS hA hF [] [] rfl rfl rfl rfl hl.1 rfl (Nat.le_of_ble_eq_true rfl) d_Model_claims_86 ⟨Nat.zero_le _, Nat.zero_le _⟩) hP hD hS hA [] [0, 1, 2, 3, 4, 5, 6, 7, 8, 9] [0, 1, 2, 3, 4, 5, 6, 7, 8, 9] rfl rfl rfl (by decide) (fun _ => rfl) rfl (fun r_147 _ H locs h_147 hP hD hS => ?_)
                  subst h_147
                  refine xi (wr := []) (W2 := fun _ => wR a k n h ca tv nx pcs lv cs x b cl cm so ti pu np) (xV (rest := [.ref (a 0)]) ⟨hx, hb, hml, hown, hts⟩ (c_Model_reg a k n (sp_Model_field x0 15 5) h ca tv nx pcs lv cs x b cl cm so ti pu np hn hh (vp_f5 _ _)) mw_Model_reg mv_Model_reg k_802 ⟨rfl, rfl, Nat.le_of_ble_eq_true rfl, Nat.le_of_ble_eq_true rfl⟩ hK hP hD hS hA hF [0, 1, 2, 3, 4, 5, 6, 7, 8, 9] [0, 1, 2, 3, 4, 5, 6, 7, 8] rfl rfl rfl 0 5 rfl rfl rfl rfl hl.1 rfl (Nat.le_of_ble_eq_true rfl) d_Model_claims_89 ⟨Nat.zero_le _, Nat.zero_le _⟩) hP hD hS hA [0, 1, 2, 3, 4, 5, 6, 7, 8, 9] [] [0, 1, 2, 3, 4, 5, 6, 7, 8, 9] rfl rfl rfl (by decide) (fun _ => rfl) rfl (fun r_148 _ H locs h_148 hP hD hS => ?_)
                  subst h_148
                  refine lv_iload_n hx hb d_Model_claims_92 rfl (lv_at hl 1 rfl) ?_
                  refine lv_iconst (v := 2) hx hb d_Model_claims_93 rfl ?_
                  refine lv_icmp_ne (tgt := 101) hx hb d_Model_claims_94 (by decide) (fun h9 => absurd c_114 h9) (fun _ => ?_)
                  refine lv_iconst (v := 1) hx hb d_Model_claims_97 rfl ?_
                  refine lv_goto (tgt := 102) hx hb d_Model_claims_98 (by decide) ?_
                  refine xi (wr := []) (W2 := fun u9 => wR a k n h u9.1 u9.2 nx pcs lv cs x b cl cm so ti pu np) (xV (rest := []) ⟨hx, hb, hml, hown, hts⟩ (c_Model_claimed a k n (sp_Model_reg (sp_Model_field x0 15 5) h x) 1 h ca tv nx pcs lv cs x b cl cm so ti pu np hn hh) mw_Model_claimed mv_Model_claimed k_872 ⟨rfl, rfl, Nat.le_of_ble_eq_true rfl, Nat.le_of_ble_eq_true rfl⟩ hK hP hD hS hA hF [0, 1, 2, 3, 4, 5, 6, 7, 8, 9] [0, 1, 2, 3, 4, 5, 6, 7, 8] rfl rfl rfl 0 5 rfl rfl rfl rfl hl.1 rfl (Nat.le_of_ble_eq_true rfl) d_Model_claims_102 ⟨Nat.zero_le _, Nat.zero_le _⟩) hP hD hS hA [0, 1, 2, 3, 4, 5, 6, 7, 8, 9] [] [0, 1, 2, 3, 4, 5, 6, 7, 8, 9] rfl rfl rfl (by decide) (fun _ => rfl) rfl (fun r_150 u_150 H locs h_150 hP hD hS => ?_)
                  obtain ⟨ca_150, tv_150⟩ := u_150
                  dsimp only at hP hD
                  refine lv_istore (lv' := [(4, .int r_150), (3, .int 1), (2, .int (sp_Model_field x0 27 5)), (0, .ref (a 0)), (1, .int x0)]) hx hb d_Model_claims_105 hl (by decide) rfl (fun ls hl => ?_)
                  refine lv_iload hx hb d_Model_claims_107 (lv_at hl 0 rfl) ?_
                  refine lv_if_ge (tgt := 113) hx hb d_Model_claims_109 (by decide) (fun c_151 => ?_) (fun c_151 => ?_)
                  · refine lv_aload_n hx hb d_Model_claims_113 rfl (lv_at hl 3 rfl) ?_
                    refine lv_iload_n hx hb d_Model_claims_114 rfl (lv_at hl 4 rfl) ?_
                    refine lv_bipush (v := 20) hx hb d_Model_claims_115 rfl ?_
                    refine lv_iconst (v := 5) hx hb d_Model_claims_117 rfl ?_
                    refine xi (wr := [((a 0), .inr (5, [.int (nI n), .ref (a 1), .ref (a 2), .ref (a 3), .ref (a 4), .ref (a 5), .ref (a 6), .ref (a 7), .ref (a 8), .long ti, .ref (a 9), .int np, .int h, .int ca_150, .int tv_150, .int nx])), ((a 1), .inl ((k 0), 16384, .inl b)), ((a 2), .inl ((k 1), 64, .inl x)), ((a 3), .inl ((k 2), 2, .inl pcs)), ((a 4), .inl ((k 3), 2, .inl lv)), ((a 5), .inl ((k 4), 8192, .inl cs)), ((a 6), .inl ((k 5), 2, .inl cl)), ((a 7), .inl ((k 6), 2, .inr (.inl cm))), ((a 8), .inl ((k 7), 2, .inl so)), ((a 9), .inl ((k 8), 256, .inl pu))]) (W2 := fun _ => wR a k n h ca_150 tv_150 nx pcs lv cs x b cl cm so ti pu np) (xS (rest := [.ref (a 0)]) ⟨hx, hb, hml, hown, hts⟩ (c_Model_field x0 20 5) mw_Model_field ms_Model_field k_787 ⟨rfl, rfl, Nat.le_of_ble_eq_true rfl, Nat.le_of_ble_eq_true rfl⟩ hK hP hD hS hA hF [] [] rfl rfl rfl rfl hl.1 rfl (Nat.le_of_ble_eq_true rfl) d_Model_claims_118 ⟨Nat.zero_le _, Nat.zero_le _⟩) hP hD hS hA [] [0, 1, 2, 3, 4, 5, 6, 7, 8, 9] [0, 1, 2, 3, 4, 5, 6, 7, 8, 9] rfl rfl rfl (by decide) (fun _ => rfl) rfl (fun r_152 _ H locs h_152 hP hD hS => ?_)
                    subst h_152
                    refine xi (wr := []) (W2 := fun _ => wR a k n h ca_150 tv_150 nx pcs lv cs x b cl cm so ti pu np) (xV (rest := []) ⟨hx, hb, hml, hown, hts⟩ (c_Model_reg a k n (sp_Model_field x0 20 5) h ca_150 tv_150 nx pcs lv cs x b cl cm so ti pu np hn hh (vp_f5 _ _)) mw_Model_reg mv_Model_reg k_802 ⟨rfl, rfl, Nat.le_of_ble_eq_true rfl, Nat.le_of_ble_eq_true rfl⟩ hK hP hD hS hA hF [0, 1, 2, 3, 4, 5, 6, 7, 8, 9] [0, 1, 2, 3, 4, 5, 6, 7, 8] rfl rfl rfl 0 5 rfl rfl rfl rfl hl.1 rfl (Nat.le_of_ble_eq_true rfl) d_Model_claims_121 ⟨Nat.zero_le _, Nat.zero_le _⟩) hP hD hS hA [0, 1, 2, 3, 4, 5, 6, 7, 8, 9] [] [0, 1, 2, 3, 4, 5, 6, 7, 8, 9] rfl rfl rfl (by decide) (fun _ => rfl) rfl (fun r_153 _ H locs h_153 hP hD hS => ?_)
                    subst h_153
                    refine lv_istore (lv' := [(5, .int (sp_Model_reg (sp_Model_field x0 20 5) h x)), (4, .int r_150), (3, .int 1), (2, .int (sp_Model_field x0 27 5)), (0, .ref (a 0)), (1, .int x0)]) hx hb d_Model_claims_124 hl (by decide) rfl (fun ls hl => ?_)
                    refine lv_aload_n hx hb d_Model_claims_126 rfl (lv_at hl 4 rfl) ?_
                    refine lv_iload hx hb d_Model_claims_127 (lv_at hl 1 rfl) ?_
                    refine xi (wr := []) (W2 := fun _ => wR a k n h ca_150 tv_150 nx pcs lv cs x b cl cm so ti pu np) (xV (rest := []) ⟨hx, hb, hml, hown, hts⟩ (c_Model_ramWord a k n r_150 h ca_150 tv_150 nx pcs lv cs x b cl cm so ti pu np hn (vpw_claimed hn h_150 c_151)) mw_Model_ramWord mv_Model_ramWord k_690 ⟨rfl, rfl, Nat.le_of_ble_eq_true rfl, Nat.le_of_ble_eq_true rfl⟩ hK hP hD hS hA hF [0, 1, 2, 3, 4, 5, 6, 7, 8, 9] [0, 1, 2, 3, 4, 5, 6, 7, 8] rfl rfl rfl 0 5 rfl rfl rfl rfl hl.1 rfl (Nat.le_of_ble_eq_true rfl) d_Model_claims_129 ⟨Nat.zero_le _, Nat.zero_le _⟩) hP hD hS hA [0, 1, 2, 3, 4, 5, 6, 7, 8, 9] [] [0, 1, 2, 3, 4, 5, 6, 7, 8, 9] rfl rfl rfl (by decide) (fun _ => rfl) rfl (fun r_154 _ H locs h_154 hP hD hS => ?_)
                    subst h_154
                    refine lv_istore (lv' := [(6, .int (sp_Model_ramWord r_150 b)), (5, .int (sp_Model_reg (sp_Model_field x0 20 5) h x)), (4, .int r_150), (3, .int 1), (2, .int (sp_Model_field x0 27 5)), (0, .ref (a 0)), (1, .int x0)]) hx hb d_Model_claims_132 hl (by decide) rfl (fun ls hl => ?_)
                    refine lv_iload hx hb d_Model_claims_134 (lv_at hl 0 rfl) ?_
                    refine lv_istore (lv' := [(7, .int (sp_Model_ramWord r_150 b)), (6, .int (sp_Model_ramWord r_150 b)), (5, .int (sp_Model_reg (sp_Model_field x0 20 5) h x)), (4, .int r_150), (3, .int 1), (2, .int (sp_Model_field x0 27 5)), (0, .ref (a 0)), (1, .int x0)]) hx hb d_Model_claims_136 hl (by decide) rfl (fun ls hl => ?_)
                    refine lv_iload_n hx hb d_Model_claims_138 rfl (lv_at hl 5 rfl) ?_
                    refine lv_iconst (v := 2) hx hb d_Model_claims_139 rfl ?_
                    refine lv_icmp_ne (tgt := 157) hx hb d_Model_claims_140 (by decide) (fun h9 => absurd c_114 h9) (fun _ => ?_)
                    refine lv_aload_n hx hb d_Model_claims_143 rfl (lv_at hl 6 rfl) ?_
                    refine va_get (D := D) (ci := 5) (v := .ref (a 6)) (C := R_Model) (T := F_Model) (N := 16) hx hb hts i_Model hown hK hP 0 rfl rfl 6 (by decide) (hts _ k_631) (fun _ h9 => h9) rfl d_Model_claims_144 ?_
                    refine lv_aload_n hx hb d_Model_claims_147 rfl (lv_at hl 6 rfl) ?_
                    refine va_get (D := D) (ci := 5) (v := .int h) (C := R_Model) (T := F_Model) (N := 16) hx hb hts i_Model hown hK hP 0 rfl rfl 12 (by decide) (hts _ k_637) (fun _ h9 => h9) rfl d_Model_claims_148 ?_
                    refine lv_iload hx hb d_Model_claims_151 (lv_at hl 3 rfl) ?_
                    refine y_iast (ws' := wR a k n h ca_150 tv_150 nx pcs lv cs x b (upd cl h.toNatClampNeg r_150) cm so ti pu np) hx hb hK hP hD hS 6 5 rfl rfl (vp_01 hh (by decide)) d_Model_claims_153 rfl (fun H locs hP hD hS => ?_)
                    refine lv_goto (tgt := 252) hx hb d_Model_claims_154 (by decide) ?_
                    refine lv_aload_n hx hb d_Model_claims_252 rfl (lv_at hl 6 rfl) ?_
                    refine lv_iload_n hx hb d_Model_claims_253 rfl (lv_at hl 7 rfl) ?_
                    refine lv_bipush (v := 7) hx hb d_Model_claims_254 rfl ?_
                    refine lv_iconst (v := 5) hx hb d_Model_claims_256 rfl ?_
                    refine xi (wr := [((a 0), .inr (5, [.int (nI n), .ref (a 1), .ref (a 2), .ref (a 3), .ref (a 4), .ref (a 5), .ref (a 6), .ref (a 7), .ref (a 8), .long ti, .ref (a 9), .int np, .int h, .int ca_150, .int tv_150, .int nx])), ((a 1), .inl ((k 0), 16384, .inl b)), ((a 2), .inl ((k 1), 64, .inl x)), ((a 3), .inl ((k 2), 2, .inl pcs)), ((a 4), .inl ((k 3), 2, .inl lv)), ((a 5), .inl ((k 4), 8192, .inl cs)), ((a 6), .inl ((k 5), 2, .inl (upd cl h.toNatClampNeg r_150))), ((a 7), .inl ((k 6), 2, .inr (.inl cm))), ((a 8), .inl ((k 7), 2, .inl so)), ((a 9), .inl ((k 8), 256, .inl pu))]) (W2 := fun _ => wR a k n h ca_150 tv_150 nx pcs lv cs x b (upd cl h.toNatClampNeg r_150) cm so ti pu np) (xS (rest := [.ref (a 0)]) ⟨hx, hb, hml, hown, hts⟩ (c_Model_field x0 7 5) mw_Model_field ms_Model_field k_787 ⟨rfl, rfl, Nat.le_of_ble_eq_true rfl, Nat.le_of_ble_eq_true rfl⟩ hK hP hD hS hA hF [] [] rfl rfl rfl rfl hl.1 rfl (Nat.le_of_ble_eq_true rfl) d_Model_claims_257 ⟨Nat.zero_le _, Nat.zero_le _⟩) hP hD hS hA [] [0, 1, 2, 3, 4, 5, 6, 7, 8, 9] [0, 1, 2, 3, 4, 5, 6, 7, 8, 9] rfl rfl rfl (by decide) (fun _ => rfl) rfl (fun r_156 _ H locs h_156 hP hD hS => ?_)
                    subst h_156
                    refine lv_iload hx hb d_Model_claims_260 (lv_at hl 0 rfl) ?_
                    refine xv (wr := []) (W2 := fun u9 => wR a k n h ca_150 tv_150 nx pcs lv cs u9 b (upd cl h.toNatClampNeg r_150) cm so ti pu np) (xV (rest := []) ⟨hx, hb, hml, hown, hts⟩ (c_Model_setReg a k n (sp_Model_field x0 7 5) (sp_Model_ramWord r_150 b) h ca_150 tv_150 nx pcs lv cs x b (upd cl h.toNatClampNeg r_150) cm so ti pu np hn hh (vp_f5 _ _)) mw_Model_setReg mv_Model_setReg k_790 ⟨rfl, rfl, Nat.le_of_ble_eq_true rfl, Nat.le_of_ble_eq_true rfl⟩ hK hP hD hS hA hF [0, 1, 2, 3, 4, 5, 6, 7, 8, 9] [0, 1, 2, 3, 4, 5, 6, 7, 8] rfl rfl rfl 0 5 rfl rfl rfl rfl hl.1 rfl (Nat.le_of_ble_eq_true rfl) d_Model_claims_262 ⟨Nat.zero_le _, Nat.zero_le _⟩) hP hD hS hA [0, 1, 2, 3, 4, 5, 6, 7, 8, 9] [] [0, 1, 2, 3, 4, 5, 6, 7, 8, 9] rfl rfl rfl (by decide) (fun _ => rfl) rfl (fun u_157 H locs h_157 hP hD hS => ?_)
                    obtain ⟨x_157, e_157⟩ : ∃ z, z = u_157 := ⟨_, rfl⟩
                    subst e_157
                    exact rv (ca_150, tv_150, x_157, b, (upd cl h.toNatClampNeg r_150)) hx hb hr hlocks hP hD hS d_Model_claims_265 (by simp only [sp_Model_claims, h_150, h_157, if_neg c_2, if_neg c_52, if_neg c_75, if_neg c_98, if_pos c_104, if_pos c_111, if_pos c_114, if_pos c_146, if_pos c_151])
                  · exact rv (ca_150, tv_150, x, b, cl) hx hb hr hlocks hP hD hS d_Model_claims_112 (by simp only [sp_Model_claims, h_150, if_neg c_2, if_neg c_52, if_neg c_75, if_neg c_98, if_pos c_104, if_pos c_111, if_pos c_114, if_pos c_146, if_neg c_151])
                · refine lv_aload_n hx hb d_Model_claims_73 rfl (lv_at hl 2 rfl) ?_
                  refine lv_iconst (v := 2) hx hb d_Model_claims_74 rfl ?_
                  refine lv_iload_n hx hb d_Model_claims_75 rfl (lv_at hl 3 rfl) ?_
                  refine xv (wr := []) (W2 := fun u9 => wR a k n h u9.1 u9.2 nx pcs lv cs x b cl cm so ti pu np) (xV (rest := []) ⟨hx, hb, hml, hown, hts⟩ (c_Model_trap a k n 2 x0 h ca tv nx pcs lv cs x b cl cm so ti pu np hn) mw_Model_trap mv_Model_trap k_763 ⟨rfl, rfl, Nat.le_of_ble_eq_true rfl, Nat.le_of_ble_eq_true rfl⟩ hK hP hD hS hA hF [0, 1, 2, 3, 4, 5, 6, 7, 8, 9] [0, 1, 2, 3, 4, 5, 6, 7, 8] rfl rfl rfl 0 5 rfl rfl rfl rfl hl.1 rfl (Nat.le_of_ble_eq_true rfl) d_Model_claims_76 ⟨Nat.zero_le _, Nat.zero_le _⟩) hP hD hS hA [0, 1, 2, 3, 4, 5, 6, 7, 8, 9] [] [0, 1, 2, 3, 4, 5, 6, 7, 8, 9] rfl rfl rfl (by decide) (fun _ => rfl) rfl (fun u_158 H locs h_158 hP hD hS => ?_)
                  obtain ⟨ca_158, tv_158⟩ := u_158
                  dsimp only at hP hD
                  exact rv (ca_158, tv_158, x, b, cl) hx hb hr hlocks hP hD hS d_Model_claims_79 (by simp only [sp_Model_claims, h_158, if_neg c_2, if_neg c_52, if_neg c_75, if_neg c_98, if_pos c_104, if_pos c_111, if_pos c_114, if_neg c_146])
def sp_Model_machine (x0 : Int32) (h : Int32) (ca : Int32) (tv : Int32) (nx : Int32) (pcs : Nat → Int32) (lv : Nat → Int32) (cs : Nat → Int32) : Int32 × Int32 × Int32 × (Nat → Int32) × (Nat → Int32) :=
  if x0 = 115 then
    let ca_43 := (sp_Model_trap (8 + (lv h.toNatClampNeg)) 0 ca tv).1
    let tv_43 := (sp_Model_trap (8 + (lv h.toNatClampNeg)) 0 ca tv).2
    (ca_43, tv_43, nx, lv, cs)
  else
    if x0 = 1048691 then
      let ca_42 := (sp_Model_trap 3 (pcs h.toNatClampNeg) ca tv).1
      let tv_42 := (sp_Model_trap 3 (pcs h.toNatClampNeg) ca tv).2
      (ca_42, tv_42, nx, lv, cs)
    else
      if x0 = 807403635 then
        if (lv h.toNatClampNeg) = 3 then
          if ((upd lv h.toNatClampNeg ((shr (sp_Model_raw h 768 cs) 11) &&& 3)) h.toNatClampNeg) = 3 then
            let cs_41 := (sp_Model_keep h 768 (((shl ((shr (sp_Model_raw h 768 cs) 7) &&& 1) 3) ||| 128) ||| ((sp_Model_raw h 768 cs) &&& 131072)) 137352 cs)
            (ca, tv, sp_Model_raw h 833 cs, (upd lv h.toNatClampNeg ((shr (sp_Model_raw h 768 cs) 11) &&& 3)), cs_41)
          else
            let cs_40 := (sp_Model_keep h 768 (((shl ((shr (sp_Model_raw h 768 cs) 7) &&& 1) 3) ||| 128) ||| 0) 137352 cs)
            (ca, tv, sp_Model_raw h 833 cs, (upd lv h.toNatClampNeg ((shr (sp_Model_raw h 768 cs) 11) &&& 3)), cs_40)
        else
          if (sp_Model_field x0 25 7) = 9 then
            if (sp_Model_field x0 7 5) = 0 then
              if (lv h.toNatClampNeg) = 0 then
                let ca_37 := (sp_Model_trap 2 x0 ca tv).1
                let tv_37 := (sp_Model_trap 2 x0 ca tv).2
                (ca_37, tv_37, nx, lv, cs)
              else
                (ca, tv, nx, lv, cs)
            else
              let ca_35 := (sp_Model_trap 2 x0 ca tv).1
              let tv_35 := (sp_Model_trap 2 x0 ca tv).2
              (ca_35, tv_35, nx, lv, cs)
          else
            let ca_32 := (sp_Model_trap 2 x0 ca tv).1
            let tv_32 := (sp_Model_trap 2 x0 ca tv).2
            (ca_32, tv_32, nx, lv, cs)
      else
        if x0 = 270532723 then
          if (lv h.toNatClampNeg) ≤ 0 then
            if (sp_Model_field x0 25 7) = 9 then
              if (sp_Model_field x0 7 5) = 0 then
                if (lv h.toNatClampNeg) = 0 then
                  let ca_24 := (sp_Model_trap 2 x0 ca tv).1
                  let tv_24 := (sp_Model_trap 2 x0 ca tv).2
                  (ca_24, tv_24, nx, lv, cs)
                else
                  (ca, tv, nx, lv, cs)
              else
                let ca_22 := (sp_Model_trap 2 x0 ca tv).1
                let tv_22 := (sp_Model_trap 2 x0 ca tv).2
                (ca_22, tv_22, nx, lv, cs)
            else
              let ca_19 := (sp_Model_trap 2 x0 ca tv).1
              let tv_19 := (sp_Model_trap 2 x0 ca tv).2
              (ca_19, tv_19, nx, lv, cs)
          else
            let cs_26 := (sp_Model_keep h 768 ((shl ((shr (sp_Model_raw h 768 cs) 5) &&& 1) 1) ||| 32) 131362 cs)
            (ca, tv, sp_Model_raw h 321 cs, (upd lv h.toNatClampNeg ((shr (sp_Model_raw h 768 cs) 8) &&& 1)), cs_26)
        else
          if x0 = 273678451 then
            (ca, tv, nx, lv, cs)
          else
            if (sp_Model_field x0 25 7) = 9 then
              if (sp_Model_field x0 7 5) = 0 then
                if (lv h.toNatClampNeg) = 0 then
                  let ca_14 := (sp_Model_trap 2 x0 ca tv).1
                  let tv_14 := (sp_Model_trap 2 x0 ca tv).2
                  (ca_14, tv_14, nx, lv, cs)
                else
                  (ca, tv, nx, lv, cs)
              else
                let ca_12 := (sp_Model_trap 2 x0 ca tv).1
                let tv_12 := (sp_Model_trap 2 x0 ca tv).2
                (ca_12, tv_12, nx, lv, cs)
            else
              let ca_9 := (sp_Model_trap 2 x0 ca tv).1
              let tv_9 := (sp_Model_trap 2 x0 ca tv).2
              (ca_9, tv_9, nx, lv, cs)
set_option maxHeartbeats 4000000 in
set_option maxRecDepth 100000 in
theorem c_Model_machine {l : Launch} {D : va_G} {g : Nat → Nat} (a : Nat → Nat) (k : Nat → ClassId) (n : Nat) (x0 : Int32) (h ca tv nx : Int32) (pcs lv cs x b cl : Nat → Int32) (cm : Nat → Int64) (so : Nat → Int32) (ti : Int64) (pu : Nat → Int32) (np : Int32) (hn : n ≤ 4096) (hh : h = 0 ∨ h = 1) : CT l D g y_Model_machine b_Model_machine 4 none (rD 2) [.ref (a 0), .int x0] (wR a k n h ca tv nx pcs lv cs x b cl cm so ti pu np) (tyR k) (Qv D (fun (u : Int32 × Int32 × Int32 × (Nat → Int32) × (Nat → Int32)) => sp_Model_machine x0 h ca tv nx pcs lv cs = u) (fun u => wR a k n h u.1 u.2.1 u.2.2.1 pcs u.2.2.2.1 u.2.2.2.2 x b cl cm so ti pu np)) := by
  refine CT.of rfl (Nat.le_of_ble_eq_true rfl) (fun p e s m below meth c A ls hx hb hr hml hts hown hlocks hA hP hK hD hF hS hl => ?_)
  have hl : lv_has ls 4 [(0, .ref (a 0)), (1, .int x0)] := hl
  refine lv_aload_n hx hb d_Model_machine_0 rfl (lv_at hl 0 rfl) ?_
  refine va_get (D := D) (ci := 5) (v := .ref (a 4)) (C := R_Model) (T := F_Model) (N := 16) hx hb hts i_Model hown hK hP 0 rfl rfl 4 (by decide) (hts _ k_629) (fun _ h9 => h9) rfl d_Model_machine_1 ?_
  refine lv_aload_n hx hb d_Model_machine_4 rfl (lv_at hl 0 rfl) ?_
  refine va_get (D := D) (ci := 5) (v := .int h) (C := R_Model) (T := F_Model) (N := 16) hx hb hts i_Model hown hK hP 0 rfl rfl 12 (by decide) (hts _ k_637) (fun _ h9 => h9) rfl d_Model_machine_5 ?_
  refine y_iald (v := lv h.toNatClampNeg) hx hb hK hP 4 3 rfl rfl (vp_01 hh (by decide)) rfl d_Model_machine_8 ?_
  refine lv_istore_n (lv' := [(2, .int (lv h.toNatClampNeg)), (0, .ref (a 0)), (1, .int x0)]) hx hb d_Model_machine_9 rfl hl (by decide) rfl (fun ls hl => ?_)
  refine lv_aload_n hx hb d_Model_machine_10 rfl (lv_at hl 1 rfl) ?_
  refine lv_aload_n hx hb d_Model_machine_11 rfl (lv_at hl 1 rfl) ?_
  refine va_get (D := D) (ci := 5) (v := .int h) (C := R_Model) (T := F_Model) (N := 16) hx hb hts i_Model hown hK hP 0 rfl rfl 12 (by decide) (hts _ k_637) (fun _ h9 => h9) rfl d_Model_machine_12 ?_
  refine lv_sipush (v := 768) hx hb d_Model_machine_15 rfl ?_
  refine xi (wr := []) (W2 := fun _ => wR a k n h ca tv nx pcs lv cs x b cl cm so ti pu np) (xV (rest := []) ⟨hx, hb, hml, hown, hts⟩ (c_Model_raw a k n h 768 h ca tv nx pcs lv cs x b cl cm so ti pu np hn (vp_csr hh (by unfold vp_in; decide))) mw_Model_raw mv_Model_raw k_714 ⟨rfl, rfl, Nat.le_of_ble_eq_true rfl, Nat.le_of_ble_eq_true rfl⟩ hK hP hD hS hA hF [0, 1, 2, 3, 4, 5, 6, 7, 8, 9] [0, 1, 2, 3, 4, 5, 6, 7, 8] rfl rfl rfl 0 5 rfl rfl rfl rfl hl.1 rfl (Nat.le_of_ble_eq_true rfl) d_Model_machine_18 ⟨Nat.zero_le _, Nat.zero_le _⟩) hP hD hS hA [0, 1, 2, 3, 4, 5, 6, 7, 8, 9] [] [0, 1, 2, 3, 4, 5, 6, 7, 8, 9] rfl rfl rfl (by decide) (fun _ => rfl) rfl (fun r_1 _ H locs h_1 hP hD hS => ?_)
  subst h_1
  refine lv_istore_n (lv' := [(3, .int (sp_Model_raw h 768 cs)), (2, .int (lv h.toNatClampNeg)), (0, .ref (a 0)), (1, .int x0)]) hx hb d_Model_machine_21 rfl hl (by decide) rfl (fun ls hl => ?_)
  refine lv_iload_n hx hb d_Model_machine_22 rfl (lv_at hl 3 rfl) ?_
  refine lv_bipush (v := 115) hx hb d_Model_machine_23 rfl ?_
  refine lv_icmp_ne (tgt := 40) hx hb d_Model_machine_25 (by decide) (fun c_2 => ?_) (fun c_2 => ?_)
  · refine lv_iload_n hx hb d_Model_machine_40 rfl (lv_at hl 3 rfl) ?_
    refine lv_ldc (v := 1048691) hx hb hown (hts _ k_883) d_Model_machine_41 ?_
    refine lv_icmp_ne (tgt := 63) hx hb d_Model_machine_43 (by decide) (fun c_3 => ?_) (fun c_3 => ?_)
    · refine lv_iload_n hx hb d_Model_machine_63 rfl (lv_at hl 3 rfl) ?_
      refine lv_ldc (v := 807403635) hx hb hown (hts _ k_884) d_Model_machine_64 ?_
      refine lv_icmp_ne (tgt := 154) hx hb d_Model_machine_66 (by decide) (fun c_4 => ?_) (fun c_4 => ?_)
      · refine lv_iload_n hx hb d_Model_machine_154 rfl (lv_at hl 3 rfl) ?_
        refine lv_ldc (v := 270532723) hx hb hown (hts _ k_886) d_Model_machine_155 ?_
        refine lv_icmp_ne (tgt := 220) hx hb d_Model_machine_157 (by decide) (fun c_5 => ?_) (fun c_5 => ?_)
        · refine lv_iload_n hx hb d_Model_machine_220 rfl (lv_at hl 3 rfl) ?_
          refine lv_ldc (v := 273678451) hx hb hown (hts _ k_888) d_Model_machine_221 ?_
          refine lv_icmp_eq (tgt := 259) hx hb d_Model_machine_223 (by decide) (fun c_6 => ?_) (fun c_6 => ?_)
          · exact rv (ca, tv, nx, lv, cs) hx hb hr hlocks hP hD hS d_Model_machine_259 (by simp only [sp_Model_machine, if_neg c_2, if_neg c_3, if_neg c_4, if_neg c_5, if_pos c_6])
          · refine lv_iload_n hx hb d_Model_machine_226 rfl (lv_at hl 3 rfl) ?_
            refine lv_bipush (v := 25) hx hb d_Model_machine_227 rfl ?_
            refine lv_bipush (v := 7) hx hb d_Model_machine_229 rfl ?_
            refine xi (wr := [((a 0), .inr (5, [.int (nI n), .ref (a 1), .ref (a 2), .ref (a 3), .ref (a 4), .ref (a 5), .ref (a 6), .ref (a 7), .ref (a 8), .long ti, .ref (a 9), .int np, .int h, .int ca, .int tv, .int nx])), ((a 1), .inl ((k 0), 16384, .inl b)), ((a 2), .inl ((k 1), 64, .inl x)), ((a 3), .inl ((k 2), 2, .inl pcs)), ((a 4), .inl ((k 3), 2, .inl lv)), ((a 5), .inl ((k 4), 8192, .inl cs)), ((a 6), .inl ((k 5), 2, .inl cl)), ((a 7), .inl ((k 6), 2, .inr (.inl cm))), ((a 8), .inl ((k 7), 2, .inl so)), ((a 9), .inl ((k 8), 256, .inl pu))]) (W2 := fun _ => wR a k n h ca tv nx pcs lv cs x b cl cm so ti pu np) (xS (rest := []) ⟨hx, hb, hml, hown, hts⟩ (c_Model_field x0 25 7) mw_Model_field ms_Model_field k_787 ⟨rfl, rfl, Nat.le_of_ble_eq_true rfl, Nat.le_of_ble_eq_true rfl⟩ hK hP hD hS hA hF [] [] rfl rfl rfl rfl hl.1 rfl (Nat.le_of_ble_eq_true rfl) d_Model_machine_231 ⟨Nat.zero_le _, Nat.zero_le _⟩) hP hD hS hA [] [0, 1, 2, 3, 4, 5, 6, 7, 8, 9] [0, 1, 2, 3, 4, 5, 6, 7, 8, 9] rfl rfl rfl (by decide) (fun _ => rfl) rfl (fun r_7 _ H locs h_7 hP hD hS => ?_)
            subst h_7
            refine lv_bipush (v := 9) hx hb d_Model_machine_234 rfl ?_
            refine lv_icmp_ne (tgt := 253) hx hb d_Model_machine_236 (by decide) (fun c_8 => ?_) (fun c_8 => ?_)
            · refine lv_aload_n hx hb d_Model_machine_253 rfl (lv_at hl 2 rfl) ?_
              refine lv_iconst (v := 2) hx hb d_Model_machine_254 rfl ?_
              refine lv_iload_n hx hb d_Model_machine_255 rfl (lv_at hl 3 rfl) ?_
              refine xv (wr := []) (W2 := fun u9 => wR a k n h u9.1 u9.2 nx pcs lv cs x b cl cm so ti pu np) (xV (rest := []) ⟨hx, hb, hml, hown, hts⟩ (c_Model_trap a k n 2 x0 h ca tv nx pcs lv cs x b cl cm so ti pu np hn) mw_Model_trap mv_Model_trap k_763 ⟨rfl, rfl, Nat.le_of_ble_eq_true rfl, Nat.le_of_ble_eq_true rfl⟩ hK hP hD hS hA hF [0, 1, 2, 3, 4, 5, 6, 7, 8, 9] [0, 1, 2, 3, 4, 5, 6, 7, 8] rfl rfl rfl 0 5 rfl rfl rfl rfl hl.1 rfl (Nat.le_of_ble_eq_true rfl) d_Model_machine_256 ⟨Nat.zero_le _, Nat.zero_le _⟩) hP hD hS hA [0, 1, 2, 3, 4, 5, 6, 7, 8, 9] [] [0, 1, 2, 3, 4, 5, 6, 7, 8, 9] rfl rfl rfl (by decide) (fun _ => rfl) rfl (fun u_9 H locs h_9 hP hD hS => ?_)
              obtain ⟨ca_9, tv_9⟩ := u_9
              dsimp only at hP hD
              exact rv (ca_9, tv_9, nx, lv, cs) hx hb hr hlocks hP hD hS d_Model_machine_259 (by simp only [sp_Model_machine, h_9, if_neg c_2, if_neg c_3, if_neg c_4, if_neg c_5, if_neg c_6, if_neg c_8])
            · refine lv_iload_n hx hb d_Model_machine_239 rfl (lv_at hl 3 rfl) ?_
              refine lv_bipush (v := 7) hx hb d_Model_machine_240 rfl ?_
              refine lv_iconst (v := 5) hx hb d_Model_machine_242 rfl ?_
              refine xi (wr := [((a 0), .inr (5, [.int (nI n), .ref (a 1), .ref (a 2), .ref (a 3), .ref (a 4), .ref (a 5), .ref (a 6), .ref (a 7), .ref (a 8), .long ti, .ref (a 9), .int np, .int h, .int ca, .int tv, .int nx])), ((a 1), .inl ((k 0), 16384, .inl b)), ((a 2), .inl ((k 1), 64, .inl x)), ((a 3), .inl ((k 2), 2, .inl pcs)), ((a 4), .inl ((k 3), 2, .inl lv)), ((a 5), .inl ((k 4), 8192, .inl cs)), ((a 6), .inl ((k 5), 2, .inl cl)), ((a 7), .inl ((k 6), 2, .inr (.inl cm))), ((a 8), .inl ((k 7), 2, .inl so)), ((a 9), .inl ((k 8), 256, .inl pu))]) (W2 := fun _ => wR a k n h ca tv nx pcs lv cs x b cl cm so ti pu np) (xS (rest := []) ⟨hx, hb, hml, hown, hts⟩ (c_Model_field x0 7 5) mw_Model_field ms_Model_field k_787 ⟨rfl, rfl, Nat.le_of_ble_eq_true rfl, Nat.le_of_ble_eq_true rfl⟩ hK hP hD hS hA hF [] [] rfl rfl rfl rfl hl.1 rfl (Nat.le_of_ble_eq_true rfl) d_Model_machine_243 ⟨Nat.zero_le _, Nat.zero_le _⟩) hP hD hS hA [] [0, 1, 2, 3, 4, 5, 6, 7, 8, 9] [0, 1, 2, 3, 4, 5, 6, 7, 8, 9] rfl rfl rfl (by decide) (fun _ => rfl) rfl (fun r_10 _ H locs h_10 hP hD hS => ?_)
              subst h_10
              refine lv_if_ne (tgt := 253) hx hb d_Model_machine_246 (by decide) (fun c_11 => ?_) (fun c_11 => ?_)
              · refine lv_aload_n hx hb d_Model_machine_253 rfl (lv_at hl 2 rfl) ?_
                refine lv_iconst (v := 2) hx hb d_Model_machine_254 rfl ?_
                refine lv_iload_n hx hb d_Model_machine_255 rfl (lv_at hl 3 rfl) ?_
                refine xv (wr := []) (W2 := fun u9 => wR a k n h u9.1 u9.2 nx pcs lv cs x b cl cm so ti pu np) (xV (rest := []) ⟨hx, hb, hml, hown, hts⟩ (c_Model_trap a k n 2 x0 h ca tv nx pcs lv cs x b cl cm so ti pu np hn) mw_Model_trap mv_Model_trap k_763 ⟨rfl, rfl, Nat.le_of_ble_eq_true rfl, Nat.le_of_ble_eq_true rfl⟩ hK hP hD hS hA hF [0, 1, 2, 3, 4, 5, 6, 7, 8, 9] [0, 1, 2, 3, 4, 5, 6, 7, 8] rfl rfl rfl 0 5 rfl rfl rfl rfl hl.1 rfl (Nat.le_of_ble_eq_true rfl) d_Model_machine_256 ⟨Nat.zero_le _, Nat.zero_le _⟩) hP hD hS hA [0, 1, 2, 3, 4, 5, 6, 7, 8, 9] [] [0, 1, 2, 3, 4, 5, 6, 7, 8, 9] rfl rfl rfl (by decide) (fun _ => rfl) rfl (fun u_12 H locs h_12 hP hD hS => ?_)
                obtain ⟨ca_12, tv_12⟩ := u_12
                dsimp only at hP hD
                exact rv (ca_12, tv_12, nx, lv, cs) hx hb hr hlocks hP hD hS d_Model_machine_259 (by simp only [sp_Model_machine, h_12, if_neg c_2, if_neg c_3, if_neg c_4, if_neg c_5, if_neg c_6, if_pos c_8, if_neg c_11])
              · refine lv_iload_n hx hb d_Model_machine_249 rfl (lv_at hl 1 rfl) ?_
                refine lv_if_ne (tgt := 259) hx hb d_Model_machine_250 (by decide) (fun c_13 => ?_) (fun c_13 => ?_)
                · exact rv (ca, tv, nx, lv, cs) hx hb hr hlocks hP hD hS d_Model_machine_259 (by simp only [sp_Model_machine, if_neg c_2, if_neg c_3, if_neg c_4, if_neg c_5, if_neg c_6, if_pos c_8, if_pos c_11, if_neg c_13])
                · refine lv_aload_n hx hb d_Model_machine_253 rfl (lv_at hl 2 rfl) ?_
                  refine lv_iconst (v := 2) hx hb d_Model_machine_254 rfl ?_
                  refine lv_iload_n hx hb d_Model_machine_255 rfl (lv_at hl 3 rfl) ?_
                  refine xv (wr := []) (W2 := fun u9 => wR a k n h u9.1 u9.2 nx pcs lv cs x b cl cm so ti pu np) (xV (rest := []) ⟨hx, hb, hml, hown, hts⟩ (c_Model_trap a k n 2 x0 h ca tv nx pcs lv cs x b cl cm so ti pu np hn) mw_Model_trap mv_Model_trap k_763 ⟨rfl, rfl, Nat.le_of_ble_eq_true rfl, Nat.le_of_ble_eq_true rfl⟩ hK hP hD hS hA hF [0, 1, 2, 3, 4, 5, 6, 7, 8, 9] [0, 1, 2, 3, 4, 5, 6, 7, 8] rfl rfl rfl 0 5 rfl rfl rfl rfl hl.1 rfl (Nat.le_of_ble_eq_true rfl) d_Model_machine_256 ⟨Nat.zero_le _, Nat.zero_le _⟩) hP hD hS hA [0, 1, 2, 3, 4, 5, 6, 7, 8, 9] [] [0, 1, 2, 3, 4, 5, 6, 7, 8, 9] rfl rfl rfl (by decide) (fun _ => rfl) rfl (fun u_14 H locs h_14 hP hD hS => ?_)
                  obtain ⟨ca_14, tv_14⟩ := u_14
                  dsimp only at hP hD
                  exact rv (ca_14, tv_14, nx, lv, cs) hx hb hr hlocks hP hD hS d_Model_machine_259 (by simp only [sp_Model_machine, h_14, if_neg c_2, if_neg c_3, if_neg c_4, if_neg c_5, if_neg c_6, if_pos c_8, if_pos c_11, if_pos c_13])
        · refine lv_iload_n hx hb d_Model_machine_160 rfl (lv_at hl 1 rfl) ?_
          refine lv_if_le (tgt := 220) hx hb d_Model_machine_161 (by decide) (fun c_15 => ?_) (fun c_15 => ?_)
          · refine lv_iload_n hx hb d_Model_machine_220 rfl (lv_at hl 3 rfl) ?_
            refine lv_ldc (v := 273678451) hx hb hown (hts _ k_888) d_Model_machine_221 ?_
            refine lv_icmp_eq (tgt := 259) hx hb d_Model_machine_223 (by decide) (fun h9 => absurd h9 (by rw [c_5]; decide)) (fun _ => ?_)
            refine lv_iload_n hx hb d_Model_machine_226 rfl (lv_at hl 3 rfl) ?_
            refine lv_bipush (v := 25) hx hb d_Model_machine_227 rfl ?_
            refine lv_bipush (v := 7) hx hb d_Model_machine_229 rfl ?_
            refine xi (wr := [((a 0), .inr (5, [.int (nI n), .ref (a 1), .ref (a 2), .ref (a 3), .ref (a 4), .ref (a 5), .ref (a 6), .ref (a 7), .ref (a 8), .long ti, .ref (a 9), .int np, .int h, .int ca, .int tv, .int nx])), ((a 1), .inl ((k 0), 16384, .inl b)), ((a 2), .inl ((k 1), 64, .inl x)), ((a 3), .inl ((k 2), 2, .inl pcs)), ((a 4), .inl ((k 3), 2, .inl lv)), ((a 5), .inl ((k 4), 8192, .inl cs)), ((a 6), .inl ((k 5), 2, .inl cl)), ((a 7), .inl ((k 6), 2, .inr (.inl cm))), ((a 8), .inl ((k 7), 2, .inl so)), ((a 9), .inl ((k 8), 256, .inl pu))]) (W2 := fun _ => wR a k n h ca tv nx pcs lv cs x b cl cm so ti pu np) (xS (rest := []) ⟨hx, hb, hml, hown, hts⟩ (c_Model_field x0 25 7) mw_Model_field ms_Model_field k_787 ⟨rfl, rfl, Nat.le_of_ble_eq_true rfl, Nat.le_of_ble_eq_true rfl⟩ hK hP hD hS hA hF [] [] rfl rfl rfl rfl hl.1 rfl (Nat.le_of_ble_eq_true rfl) d_Model_machine_231 ⟨Nat.zero_le _, Nat.zero_le _⟩) hP hD hS hA [] [0, 1, 2, 3, 4, 5, 6, 7, 8, 9] [0, 1, 2, 3, 4, 5, 6, 7, 8, 9] rfl rfl rfl (by decide) (fun _ => rfl) rfl (fun r_17 _ H locs h_17 hP hD hS => ?_)
            subst h_17
            refine lv_bipush (v := 9) hx hb d_Model_machine_234 rfl ?_
            refine lv_icmp_ne (tgt := 253) hx hb d_Model_machine_236 (by decide) (fun c_18 => ?_) (fun c_18 => ?_)
            · refine lv_aload_n hx hb d_Model_machine_253 rfl (lv_at hl 2 rfl) ?_
              refine lv_iconst (v := 2) hx hb d_Model_machine_254 rfl ?_
              refine lv_iload_n hx hb d_Model_machine_255 rfl (lv_at hl 3 rfl) ?_
              refine xv (wr := []) (W2 := fun u9 => wR a k n h u9.1 u9.2 nx pcs lv cs x b cl cm so ti pu np) (xV (rest := []) ⟨hx, hb, hml, hown, hts⟩ (c_Model_trap a k n 2 x0 h ca tv nx pcs lv cs x b cl cm so ti pu np hn) mw_Model_trap mv_Model_trap k_763 ⟨rfl, rfl, Nat.le_of_ble_eq_true rfl, Nat.le_of_ble_eq_true rfl⟩ hK hP hD hS hA hF [0, 1, 2, 3, 4, 5, 6, 7, 8, 9] [0, 1, 2, 3, 4, 5, 6, 7, 8] rfl rfl rfl 0 5 rfl rfl rfl rfl hl.1 rfl (Nat.le_of_ble_eq_true rfl) d_Model_machine_256 ⟨Nat.zero_le _, Nat.zero_le _⟩) hP hD hS hA [0, 1, 2, 3, 4, 5, 6, 7, 8, 9] [] [0, 1, 2, 3, 4, 5, 6, 7, 8, 9] rfl rfl rfl (by decide) (fun _ => rfl) rfl (fun u_19 H locs h_19 hP hD hS => ?_)
              obtain ⟨ca_19, tv_19⟩ := u_19
              dsimp only at hP hD
              exact rv (ca_19, tv_19, nx, lv, cs) hx hb hr hlocks hP hD hS d_Model_machine_259 (by simp only [sp_Model_machine, h_19, if_neg c_2, if_neg c_3, if_neg c_4, if_pos c_5, if_pos c_15, if_neg c_18])
            · refine lv_iload_n hx hb d_Model_machine_239 rfl (lv_at hl 3 rfl) ?_
              refine lv_bipush (v := 7) hx hb d_Model_machine_240 rfl ?_
              refine lv_iconst (v := 5) hx hb d_Model_machine_242 rfl ?_
              refine xi (wr := [((a 0), .inr (5, [.int (nI n), .ref (a 1), .ref (a 2), .ref (a 3), .ref (a 4), .ref (a 5), .ref (a 6), .ref (a 7), .ref (a 8), .long ti, .ref (a 9), .int np, .int h, .int ca, .int tv, .int nx])), ((a 1), .inl ((k 0), 16384, .inl b)), ((a 2), .inl ((k 1), 64, .inl x)), ((a 3), .inl ((k 2), 2, .inl pcs)), ((a 4), .inl ((k 3), 2, .inl lv)), ((a 5), .inl ((k 4), 8192, .inl cs)), ((a 6), .inl ((k 5), 2, .inl cl)), ((a 7), .inl ((k 6), 2, .inr (.inl cm))), ((a 8), .inl ((k 7), 2, .inl so)), ((a 9), .inl ((k 8), 256, .inl pu))]) (W2 := fun _ => wR a k n h ca tv nx pcs lv cs x b cl cm so ti pu np) (xS (rest := []) ⟨hx, hb, hml, hown, hts⟩ (c_Model_field x0 7 5) mw_Model_field ms_Model_field k_787 ⟨rfl, rfl, Nat.le_of_ble_eq_true rfl, Nat.le_of_ble_eq_true rfl⟩ hK hP hD hS hA hF [] [] rfl rfl rfl rfl hl.1 rfl (Nat.le_of_ble_eq_true rfl) d_Model_machine_243 ⟨Nat.zero_le _, Nat.zero_le _⟩) hP hD hS hA [] [0, 1, 2, 3, 4, 5, 6, 7, 8, 9] [0, 1, 2, 3, 4, 5, 6, 7, 8, 9] rfl rfl rfl (by decide) (fun _ => rfl) rfl (fun r_20 _ H locs h_20 hP hD hS => ?_)
              subst h_20
              refine lv_if_ne (tgt := 253) hx hb d_Model_machine_246 (by decide) (fun c_21 => ?_) (fun c_21 => ?_)
              · refine lv_aload_n hx hb d_Model_machine_253 rfl (lv_at hl 2 rfl) ?_
                refine lv_iconst (v := 2) hx hb d_Model_machine_254 rfl ?_
                refine lv_iload_n hx hb d_Model_machine_255 rfl (lv_at hl 3 rfl) ?_
                refine xv (wr := []) (W2 := fun u9 => wR a k n h u9.1 u9.2 nx pcs lv cs x b cl cm so ti pu np) (xV (rest := []) ⟨hx, hb, hml, hown, hts⟩ (c_Model_trap a k n 2 x0 h ca tv nx pcs lv cs x b cl cm so ti pu np hn) mw_Model_trap mv_Model_trap k_763 ⟨rfl, rfl, Nat.le_of_ble_eq_true rfl, Nat.le_of_ble_eq_true rfl⟩ hK hP hD hS hA hF [0, 1, 2, 3, 4, 5, 6, 7, 8, 9] [0, 1, 2, 3, 4, 5, 6, 7, 8] rfl rfl rfl 0 5 rfl rfl rfl rfl hl.1 rfl (Nat.le_of_ble_eq_true rfl) d_Model_machine_256 ⟨Nat.zero_le _, Nat.zero_le _⟩) hP hD hS hA [0, 1, 2, 3, 4, 5, 6, 7, 8, 9] [] [0, 1, 2, 3, 4, 5, 6, 7, 8, 9] rfl rfl rfl (by decide) (fun _ => rfl) rfl (fun u_22 H locs h_22 hP hD hS => ?_)
                obtain ⟨ca_22, tv_22⟩ := u_22
                dsimp only at hP hD
                exact rv (ca_22, tv_22, nx, lv, cs) hx hb hr hlocks hP hD hS d_Model_machine_259 (by simp only [sp_Model_machine, h_22, if_neg c_2, if_neg c_3, if_neg c_4, if_pos c_5, if_pos c_15, if_pos c_18, if_neg c_21])
              · refine lv_iload_n hx hb d_Model_machine_249 rfl (lv_at hl 1 rfl) ?_
                refine lv_if_ne (tgt := 259) hx hb d_Model_machine_250 (by decide) (fun c_23 => ?_) (fun c_23 => ?_)
                · exact rv (ca, tv, nx, lv, cs) hx hb hr hlocks hP hD hS d_Model_machine_259 (by simp only [sp_Model_machine, if_neg c_2, if_neg c_3, if_neg c_4, if_pos c_5, if_pos c_15, if_pos c_18, if_pos c_21, if_neg c_23])
                · refine lv_aload_n hx hb d_Model_machine_253 rfl (lv_at hl 2 rfl) ?_
                  refine lv_iconst (v := 2) hx hb d_Model_machine_254 rfl ?_
                  refine lv_iload_n hx hb d_Model_machine_255 rfl (lv_at hl 3 rfl) ?_
                  refine xv (wr := []) (W2 := fun u9 => wR a k n h u9.1 u9.2 nx pcs lv cs x b cl cm so ti pu np) (xV (rest := []) ⟨hx, hb, hml, hown, hts⟩ (c_Model_trap a k n 2 x0 h ca tv nx pcs lv cs x b cl cm so ti pu np hn) mw_Model_trap mv_Model_trap k_763 ⟨rfl, rfl, Nat.le_of_ble_eq_true rfl, Nat.le_of_ble_eq_true rfl⟩ hK hP hD hS hA hF [0, 1, 2, 3, 4, 5, 6, 7, 8, 9] [0, 1, 2, 3, 4, 5, 6, 7, 8] rfl rfl rfl 0 5 rfl rfl rfl rfl hl.1 rfl (Nat.le_of_ble_eq_true rfl) d_Model_machine_256 ⟨Nat.zero_le _, Nat.zero_le _⟩) hP hD hS hA [0, 1, 2, 3, 4, 5, 6, 7, 8, 9] [] [0, 1, 2, 3, 4, 5, 6, 7, 8, 9] rfl rfl rfl (by decide) (fun _ => rfl) rfl (fun u_24 H locs h_24 hP hD hS => ?_)
                  obtain ⟨ca_24, tv_24⟩ := u_24
                  dsimp only at hP hD
                  exact rv (ca_24, tv_24, nx, lv, cs) hx hb hr hlocks hP hD hS d_Model_machine_259 (by simp only [sp_Model_machine, h_24, if_neg c_2, if_neg c_3, if_neg c_4, if_pos c_5, if_pos c_15, if_pos c_18, if_pos c_21, if_pos c_23])
          · refine lv_aload_n hx hb d_Model_machine_164 rfl (lv_at hl 2 rfl) ?_
            refine lv_aload_n hx hb d_Model_machine_165 rfl (lv_at hl 2 rfl) ?_
            refine lv_aload_n hx hb d_Model_machine_166 rfl (lv_at hl 2 rfl) ?_
            refine va_get (D := D) (ci := 5) (v := .int h) (C := R_Model) (T := F_Model) (N := 16) hx hb hts i_Model hown hK hP 0 rfl rfl 12 (by decide) (hts _ k_637) (fun _ h9 => h9) rfl d_Model_machine_167 ?_
            refine lv_sipush (v := 321) hx hb d_Model_machine_170 rfl ?_
            refine xi (wr := []) (W2 := fun _ => wR a k n h ca tv nx pcs lv cs x b cl cm so ti pu np) (xV (rest := [.ref (a 0)]) ⟨hx, hb, hml, hown, hts⟩ (c_Model_raw a k n h 321 h ca tv nx pcs lv cs x b cl cm so ti pu np hn (vp_csr hh (by unfold vp_in; decide))) mw_Model_raw mv_Model_raw k_714 ⟨rfl, rfl, Nat.le_of_ble_eq_true rfl, Nat.le_of_ble_eq_true rfl⟩ hK hP hD hS hA hF [0, 1, 2, 3, 4, 5, 6, 7, 8, 9] [0, 1, 2, 3, 4, 5, 6, 7, 8] rfl rfl rfl 0 5 rfl rfl rfl rfl hl.1 rfl (Nat.le_of_ble_eq_true rfl) d_Model_machine_173 ⟨Nat.zero_le _, Nat.zero_le _⟩) hP hD hS hA [0, 1, 2, 3, 4, 5, 6, 7, 8, 9] [] [0, 1, 2, 3, 4, 5, 6, 7, 8, 9] rfl rfl rfl (by decide) (fun _ => rfl) rfl (fun r_25 _ H locs h_25 hP hD hS => ?_)
            subst h_25
            refine y_put (D := D) (ci := 5) (v := .int (sp_Model_raw h 321 cs)) (ty := .int) (C := R_Model) (T := F_Model) (N := 16) (ws' := wR a k n h ca tv (sp_Model_raw h 321 cs) pcs lv cs x b cl cm so ti pu np) hx hb hts i_Model t_Model t_Model_ok n_Model hown hK hP hD hS 0 rfl rfl 15 (by decide) (hts _ k_640) (fun _ h9 => h9) rfl (by decide +kernel) rfl rfl (Nat.le_of_ble_eq_true rfl) d_Model_machine_176 rfl (fun H locs hP hD hS => ?_)
            refine lv_aload_n hx hb d_Model_machine_179 rfl (lv_at hl 2 rfl) ?_
            refine va_get (D := D) (ci := 5) (v := .ref (a 4)) (C := R_Model) (T := F_Model) (N := 16) hx hb hts i_Model hown hK hP 0 rfl rfl 4 (by decide) (hts _ k_629) (fun _ h9 => h9) rfl d_Model_machine_180 ?_
            refine lv_aload_n hx hb d_Model_machine_183 rfl (lv_at hl 2 rfl) ?_
            refine va_get (D := D) (ci := 5) (v := .int h) (C := R_Model) (T := F_Model) (N := 16) hx hb hts i_Model hown hK hP 0 rfl rfl 12 (by decide) (hts _ k_637) (fun _ h9 => h9) rfl d_Model_machine_184 ?_
            refine lv_iload_n hx hb d_Model_machine_187 rfl (lv_at hl 0 rfl) ?_
            refine lv_bipush (v := 8) hx hb d_Model_machine_188 rfl ?_
            refine y_ishr hx hb d_Model_machine_190 ?_
            refine lv_iconst (v := 1) hx hb d_Model_machine_191 rfl ?_
            refine lv_iand hx hb d_Model_machine_192 ?_
            refine y_iast (ws' := wR a k n h ca tv (sp_Model_raw h 321 cs) pcs (upd lv h.toNatClampNeg ((shr (sp_Model_raw h 768 cs) 8) &&& 1)) cs x b cl cm so ti pu np) hx hb hK hP hD hS 4 3 rfl rfl (vp_01 hh (by decide)) d_Model_machine_193 rfl (fun H locs hP hD hS => ?_)
            refine lv_aload_n hx hb d_Model_machine_194 rfl (lv_at hl 2 rfl) ?_
            refine lv_aload_n hx hb d_Model_machine_195 rfl (lv_at hl 2 rfl) ?_
            refine va_get (D := D) (ci := 5) (v := .int h) (C := R_Model) (T := F_Model) (N := 16) hx hb hts i_Model hown hK hP 0 rfl rfl 12 (by decide) (hts _ k_637) (fun _ h9 => h9) rfl d_Model_machine_196 ?_
            refine lv_sipush (v := 768) hx hb d_Model_machine_199 rfl ?_
            refine lv_iload_n hx hb d_Model_machine_202 rfl (lv_at hl 0 rfl) ?_
            refine lv_iconst (v := 5) hx hb d_Model_machine_203 rfl ?_
            refine y_ishr hx hb d_Model_machine_204 ?_
            refine lv_iconst (v := 1) hx hb d_Model_machine_205 rfl ?_
            refine lv_iand hx hb d_Model_machine_206 ?_
            refine lv_iconst (v := 1) hx hb d_Model_machine_207 rfl ?_
            refine y_ishl hx hb d_Model_machine_208 ?_
            refine lv_bipush (v := 32) hx hb d_Model_machine_209 rfl ?_
            refine lv_ior hx hb d_Model_machine_211 ?_
            refine lv_ldc (v := 131362) hx hb hown (hts _ k_887) d_Model_machine_212 ?_
            refine xv (wr := []) (W2 := fun u9 => wR a k n h ca tv (sp_Model_raw h 321 cs) pcs (upd lv h.toNatClampNeg ((shr (sp_Model_raw h 768 cs) 8) &&& 1)) u9 x b cl cm so ti pu np) (xV (rest := []) ⟨hx, hb, hml, hown, hts⟩ (c_Model_keep a k n h 768 ((shl ((shr (sp_Model_raw h 768 cs) 5) &&& 1) 1) ||| 32) 131362 h ca tv (sp_Model_raw h 321 cs) pcs (upd lv h.toNatClampNeg ((shr (sp_Model_raw h 768 cs) 8) &&& 1)) cs x b cl cm so ti pu np hn (vp_csr hh (by unfold vp_in; decide))) mw_Model_keep mv_Model_keep k_734 ⟨rfl, rfl, Nat.le_of_ble_eq_true rfl, Nat.le_of_ble_eq_true rfl⟩ hK hP hD hS hA hF [0, 1, 2, 3, 4, 5, 6, 7, 8, 9] [0, 1, 2, 3, 4, 5, 6, 7, 8] rfl rfl rfl 0 5 rfl rfl rfl rfl hl.1 rfl (Nat.le_of_ble_eq_true rfl) d_Model_machine_214 ⟨Nat.zero_le _, Nat.zero_le _⟩) hP hD hS hA [0, 1, 2, 3, 4, 5, 6, 7, 8, 9] [] [0, 1, 2, 3, 4, 5, 6, 7, 8, 9] rfl rfl rfl (by decide) (fun _ => rfl) rfl (fun u_26 H locs h_26 hP hD hS => ?_)
            obtain ⟨cs_26, e_26⟩ : ∃ z, z = u_26 := ⟨_, rfl⟩
            subst e_26
            refine lv_goto (tgt := 259) hx hb d_Model_machine_217 (by decide) ?_
            exact rv (ca, tv, sp_Model_raw h 321 cs, (upd lv h.toNatClampNeg ((shr (sp_Model_raw h 768 cs) 8) &&& 1)), cs_26) hx hb hr hlocks hP hD hS d_Model_machine_259 (by simp only [sp_Model_machine, h_26, if_neg c_2, if_neg c_3, if_neg c_4, if_pos c_5, if_neg c_15])
      · refine lv_iload_n hx hb d_Model_machine_69 rfl (lv_at hl 1 rfl) ?_
        refine lv_iconst (v := 3) hx hb d_Model_machine_70 rfl ?_
        refine lv_icmp_ne (tgt := 154) hx hb d_Model_machine_71 (by decide) (fun c_27 => ?_) (fun c_27 => ?_)
        · refine lv_iload_n hx hb d_Model_machine_154 rfl (lv_at hl 3 rfl) ?_
          refine lv_ldc (v := 270532723) hx hb hown (hts _ k_886) d_Model_machine_155 ?_
          refine lv_icmp_ne (tgt := 220) hx hb d_Model_machine_157 (by decide) (fun _ => ?_) (fun h9 => absurd h9 (by rw [c_4]; decide))
          refine lv_iload_n hx hb d_Model_machine_220 rfl (lv_at hl 3 rfl) ?_
          refine lv_ldc (v := 273678451) hx hb hown (hts _ k_888) d_Model_machine_221 ?_
          refine lv_icmp_eq (tgt := 259) hx hb d_Model_machine_223 (by decide) (fun h9 => absurd h9 (by rw [c_4]; decide)) (fun _ => ?_)
          refine lv_iload_n hx hb d_Model_machine_226 rfl (lv_at hl 3 rfl) ?_
          refine lv_bipush (v := 25) hx hb d_Model_machine_227 rfl ?_
          refine lv_bipush (v := 7) hx hb d_Model_machine_229 rfl ?_
          refine xi (wr := [((a 0), .inr (5, [.int (nI n), .ref (a 1), .ref (a 2), .ref (a 3), .ref (a 4), .ref (a 5), .ref (a 6), .ref (a 7), .ref (a 8), .long ti, .ref (a 9), .int np, .int h, .int ca, .int tv, .int nx])), ((a 1), .inl ((k 0), 16384, .inl b)), ((a 2), .inl ((k 1), 64, .inl x)), ((a 3), .inl ((k 2), 2, .inl pcs)), ((a 4), .inl ((k 3), 2, .inl lv)), ((a 5), .inl ((k 4), 8192, .inl cs)), ((a 6), .inl ((k 5), 2, .inl cl)), ((a 7), .inl ((k 6), 2, .inr (.inl cm))), ((a 8), .inl ((k 7), 2, .inl so)), ((a 9), .inl ((k 8), 256, .inl pu))]) (W2 := fun _ => wR a k n h ca tv nx pcs lv cs x b cl cm so ti pu np) (xS (rest := []) ⟨hx, hb, hml, hown, hts⟩ (c_Model_field x0 25 7) mw_Model_field ms_Model_field k_787 ⟨rfl, rfl, Nat.le_of_ble_eq_true rfl, Nat.le_of_ble_eq_true rfl⟩ hK hP hD hS hA hF [] [] rfl rfl rfl rfl hl.1 rfl (Nat.le_of_ble_eq_true rfl) d_Model_machine_231 ⟨Nat.zero_le _, Nat.zero_le _⟩) hP hD hS hA [] [0, 1, 2, 3, 4, 5, 6, 7, 8, 9] [0, 1, 2, 3, 4, 5, 6, 7, 8, 9] rfl rfl rfl (by decide) (fun _ => rfl) rfl (fun r_30 _ H locs h_30 hP hD hS => ?_)
          subst h_30
          refine lv_bipush (v := 9) hx hb d_Model_machine_234 rfl ?_
          refine lv_icmp_ne (tgt := 253) hx hb d_Model_machine_236 (by decide) (fun c_31 => ?_) (fun c_31 => ?_)
          · refine lv_aload_n hx hb d_Model_machine_253 rfl (lv_at hl 2 rfl) ?_
            refine lv_iconst (v := 2) hx hb d_Model_machine_254 rfl ?_
            refine lv_iload_n hx hb d_Model_machine_255 rfl (lv_at hl 3 rfl) ?_
            refine xv (wr := []) (W2 := fun u9 => wR a k n h u9.1 u9.2 nx pcs lv cs x b cl cm so ti pu np) (xV (rest := []) ⟨hx, hb, hml, hown, hts⟩ (c_Model_trap a k n 2 x0 h ca tv nx pcs lv cs x b cl cm so ti pu np hn) mw_Model_trap mv_Model_trap k_763 ⟨rfl, rfl, Nat.le_of_ble_eq_true rfl, Nat.le_of_ble_eq_true rfl⟩ hK hP hD hS hA hF [0, 1, 2, 3, 4, 5, 6, 7, 8, 9] [0, 1, 2, 3, 4, 5, 6, 7, 8] rfl rfl rfl 0 5 rfl rfl rfl rfl hl.1 rfl (Nat.le_of_ble_eq_true rfl) d_Model_machine_256 ⟨Nat.zero_le _, Nat.zero_le _⟩) hP hD hS hA [0, 1, 2, 3, 4, 5, 6, 7, 8, 9] [] [0, 1, 2, 3, 4, 5, 6, 7, 8, 9] rfl rfl rfl (by decide) (fun _ => rfl) rfl (fun u_32 H locs h_32 hP hD hS => ?_)
            obtain ⟨ca_32, tv_32⟩ := u_32
            dsimp only at hP hD
            exact rv (ca_32, tv_32, nx, lv, cs) hx hb hr hlocks hP hD hS d_Model_machine_259 (by simp only [sp_Model_machine, h_32, if_neg c_2, if_neg c_3, if_pos c_4, if_neg c_27, if_neg c_31])
          · refine lv_iload_n hx hb d_Model_machine_239 rfl (lv_at hl 3 rfl) ?_
            refine lv_bipush (v := 7) hx hb d_Model_machine_240 rfl ?_
            refine lv_iconst (v := 5) hx hb d_Model_machine_242 rfl ?_
            refine xi (wr := [((a 0), .inr (5, [.int (nI n), .ref (a 1), .ref (a 2), .ref (a 3), .ref (a 4), .ref (a 5), .ref (a 6), .ref (a 7), .ref (a 8), .long ti, .ref (a 9), .int np, .int h, .int ca, .int tv, .int nx])), ((a 1), .inl ((k 0), 16384, .inl b)), ((a 2), .inl ((k 1), 64, .inl x)), ((a 3), .inl ((k 2), 2, .inl pcs)), ((a 4), .inl ((k 3), 2, .inl lv)), ((a 5), .inl ((k 4), 8192, .inl cs)), ((a 6), .inl ((k 5), 2, .inl cl)), ((a 7), .inl ((k 6), 2, .inr (.inl cm))), ((a 8), .inl ((k 7), 2, .inl so)), ((a 9), .inl ((k 8), 256, .inl pu))]) (W2 := fun _ => wR a k n h ca tv nx pcs lv cs x b cl cm so ti pu np) (xS (rest := []) ⟨hx, hb, hml, hown, hts⟩ (c_Model_field x0 7 5) mw_Model_field ms_Model_field k_787 ⟨rfl, rfl, Nat.le_of_ble_eq_true rfl, Nat.le_of_ble_eq_true rfl⟩ hK hP hD hS hA hF [] [] rfl rfl rfl rfl hl.1 rfl (Nat.le_of_ble_eq_true rfl) d_Model_machine_243 ⟨Nat.zero_le _, Nat.zero_le _⟩) hP hD hS hA [] [0, 1, 2, 3, 4, 5, 6, 7, 8, 9] [0, 1, 2, 3, 4, 5, 6, 7, 8, 9] rfl rfl rfl (by decide) (fun _ => rfl) rfl (fun r_33 _ H locs h_33 hP hD hS => ?_)
            subst h_33
            refine lv_if_ne (tgt := 253) hx hb d_Model_machine_246 (by decide) (fun c_34 => ?_) (fun c_34 => ?_)
            · refine lv_aload_n hx hb d_Model_machine_253 rfl (lv_at hl 2 rfl) ?_
              refine lv_iconst (v := 2) hx hb d_Model_machine_254 rfl ?_
              refine lv_iload_n hx hb d_Model_machine_255 rfl (lv_at hl 3 rfl) ?_
              refine xv (wr := []) (W2 := fun u9 => wR a k n h u9.1 u9.2 nx pcs lv cs x b cl cm so ti pu np) (xV (rest := []) ⟨hx, hb, hml, hown, hts⟩ (c_Model_trap a k n 2 x0 h ca tv nx pcs lv cs x b cl cm so ti pu np hn) mw_Model_trap mv_Model_trap k_763 ⟨rfl, rfl, Nat.le_of_ble_eq_true rfl, Nat.le_of_ble_eq_true rfl⟩ hK hP hD hS hA hF [0, 1, 2, 3, 4, 5, 6, 7, 8, 9] [0, 1, 2, 3, 4, 5, 6, 7, 8] rfl rfl rfl 0 5 rfl rfl rfl rfl hl.1 rfl (Nat.le_of_ble_eq_true rfl) d_Model_machine_256 ⟨Nat.zero_le _, Nat.zero_le _⟩) hP hD hS hA [0, 1, 2, 3, 4, 5, 6, 7, 8, 9] [] [0, 1, 2, 3, 4, 5, 6, 7, 8, 9] rfl rfl rfl (by decide) (fun _ => rfl) rfl (fun u_35 H locs h_35 hP hD hS => ?_)
              obtain ⟨ca_35, tv_35⟩ := u_35
              dsimp only at hP hD
              exact rv (ca_35, tv_35, nx, lv, cs) hx hb hr hlocks hP hD hS d_Model_machine_259 (by simp only [sp_Model_machine, h_35, if_neg c_2, if_neg c_3, if_pos c_4, if_neg c_27, if_pos c_31, if_neg c_34])
            · refine lv_iload_n hx hb d_Model_machine_249 rfl (lv_at hl 1 rfl) ?_
              refine lv_if_ne (tgt := 259) hx hb d_Model_machine_250 (by decide) (fun c_36 => ?_) (fun c_36 => ?_)
              · exact rv (ca, tv, nx, lv, cs) hx hb hr hlocks hP hD hS d_Model_machine_259 (by simp only [sp_Model_machine, if_neg c_2, if_neg c_3, if_pos c_4, if_neg c_27, if_pos c_31, if_pos c_34, if_neg c_36])
              · refine lv_aload_n hx hb d_Model_machine_253 rfl (lv_at hl 2 rfl) ?_
                refine lv_iconst (v := 2) hx hb d_Model_machine_254 rfl ?_
                refine lv_iload_n hx hb d_Model_machine_255 rfl (lv_at hl 3 rfl) ?_
                refine xv (wr := []) (W2 := fun u9 => wR a k n h u9.1 u9.2 nx pcs lv cs x b cl cm so ti pu np) (xV (rest := []) ⟨hx, hb, hml, hown, hts⟩ (c_Model_trap a k n 2 x0 h ca tv nx pcs lv cs x b cl cm so ti pu np hn) mw_Model_trap mv_Model_trap k_763 ⟨rfl, rfl, Nat.le_of_ble_eq_true rfl, Nat.le_of_ble_eq_true rfl⟩ hK hP hD hS hA hF [0, 1, 2, 3, 4, 5, 6, 7, 8, 9] [0, 1, 2, 3, 4, 5, 6, 7, 8] rfl rfl rfl 0 5 rfl rfl rfl rfl hl.1 rfl (Nat.le_of_ble_eq_true rfl) d_Model_machine_256 ⟨Nat.zero_le _, Nat.zero_le _⟩) hP hD hS hA [0, 1, 2, 3, 4, 5, 6, 7, 8, 9] [] [0, 1, 2, 3, 4, 5, 6, 7, 8, 9] rfl rfl rfl (by decide) (fun _ => rfl) rfl (fun u_37 H locs h_37 hP hD hS => ?_)
                obtain ⟨ca_37, tv_37⟩ := u_37
                dsimp only at hP hD
                exact rv (ca_37, tv_37, nx, lv, cs) hx hb hr hlocks hP hD hS d_Model_machine_259 (by simp only [sp_Model_machine, h_37, if_neg c_2, if_neg c_3, if_pos c_4, if_neg c_27, if_pos c_31, if_pos c_34, if_pos c_36])
        · refine lv_aload_n hx hb d_Model_machine_74 rfl (lv_at hl 2 rfl) ?_
          refine lv_aload_n hx hb d_Model_machine_75 rfl (lv_at hl 2 rfl) ?_
          refine lv_aload_n hx hb d_Model_machine_76 rfl (lv_at hl 2 rfl) ?_
          refine va_get (D := D) (ci := 5) (v := .int h) (C := R_Model) (T := F_Model) (N := 16) hx hb hts i_Model hown hK hP 0 rfl rfl 12 (by decide) (hts _ k_637) (fun _ h9 => h9) rfl d_Model_machine_77 ?_
          refine lv_sipush (v := 833) hx hb d_Model_machine_80 rfl ?_
          refine xi (wr := []) (W2 := fun _ => wR a k n h ca tv nx pcs lv cs x b cl cm so ti pu np) (xV (rest := [.ref (a 0)]) ⟨hx, hb, hml, hown, hts⟩ (c_Model_raw a k n h 833 h ca tv nx pcs lv cs x b cl cm so ti pu np hn (vp_csr hh (by unfold vp_in; decide))) mw_Model_raw mv_Model_raw k_714 ⟨rfl, rfl, Nat.le_of_ble_eq_true rfl, Nat.le_of_ble_eq_true rfl⟩ hK hP hD hS hA hF [0, 1, 2, 3, 4, 5, 6, 7, 8, 9] [0, 1, 2, 3, 4, 5, 6, 7, 8] rfl rfl rfl 0 5 rfl rfl rfl rfl hl.1 rfl (Nat.le_of_ble_eq_true rfl) d_Model_machine_83 ⟨Nat.zero_le _, Nat.zero_le _⟩) hP hD hS hA [0, 1, 2, 3, 4, 5, 6, 7, 8, 9] [] [0, 1, 2, 3, 4, 5, 6, 7, 8, 9] rfl rfl rfl (by decide) (fun _ => rfl) rfl (fun r_38 _ H locs h_38 hP hD hS => ?_)
          subst h_38
          refine y_put (D := D) (ci := 5) (v := .int (sp_Model_raw h 833 cs)) (ty := .int) (C := R_Model) (T := F_Model) (N := 16) (ws' := wR a k n h ca tv (sp_Model_raw h 833 cs) pcs lv cs x b cl cm so ti pu np) hx hb hts i_Model t_Model t_Model_ok n_Model hown hK hP hD hS 0 rfl rfl 15 (by decide) (hts _ k_640) (fun _ h9 => h9) rfl (by decide +kernel) rfl rfl (Nat.le_of_ble_eq_true rfl) d_Model_machine_86 rfl (fun H locs hP hD hS => ?_)
          refine lv_aload_n hx hb d_Model_machine_89 rfl (lv_at hl 2 rfl) ?_
          refine va_get (D := D) (ci := 5) (v := .ref (a 4)) (C := R_Model) (T := F_Model) (N := 16) hx hb hts i_Model hown hK hP 0 rfl rfl 4 (by decide) (hts _ k_629) (fun _ h9 => h9) rfl d_Model_machine_90 ?_
          refine lv_aload_n hx hb d_Model_machine_93 rfl (lv_at hl 2 rfl) ?_
          refine va_get (D := D) (ci := 5) (v := .int h) (C := R_Model) (T := F_Model) (N := 16) hx hb hts i_Model hown hK hP 0 rfl rfl 12 (by decide) (hts _ k_637) (fun _ h9 => h9) rfl d_Model_machine_94 ?_
          refine lv_iload_n hx hb d_Model_machine_97 rfl (lv_at hl 0 rfl) ?_
          refine lv_bipush (v := 11) hx hb d_Model_machine_98 rfl ?_
          refine y_ishr hx hb d_Model_machine_100 ?_
          refine lv_iconst (v := 3) hx hb d_Model_machine_101 rfl ?_
          refine lv_iand hx hb d_Model_machine_102 ?_
          refine y_iast (ws' := wR a k n h ca tv (sp_Model_raw h 833 cs) pcs (upd lv h.toNatClampNeg ((shr (sp_Model_raw h 768 cs) 11) &&& 3)) cs x b cl cm so ti pu np) hx hb hK hP hD hS 4 3 rfl rfl (vp_01 hh (by decide)) d_Model_machine_103 rfl (fun H locs hP hD hS => ?_)
          refine lv_aload_n hx hb d_Model_machine_104 rfl (lv_at hl 2 rfl) ?_
          refine lv_aload_n hx hb d_Model_machine_105 rfl (lv_at hl 2 rfl) ?_
          refine va_get (D := D) (ci := 5) (v := .int h) (C := R_Model) (T := F_Model) (N := 16) hx hb hts i_Model hown hK hP 0 rfl rfl 12 (by decide) (hts _ k_637) (fun _ h9 => h9) rfl d_Model_machine_106 ?_
          refine lv_sipush (v := 768) hx hb d_Model_machine_109 rfl ?_
          refine lv_iload_n hx hb d_Model_machine_112 rfl (lv_at hl 0 rfl) ?_
          refine lv_bipush (v := 7) hx hb d_Model_machine_113 rfl ?_
          refine y_ishr hx hb d_Model_machine_115 ?_
          refine lv_iconst (v := 1) hx hb d_Model_machine_116 rfl ?_
          refine lv_iand hx hb d_Model_machine_117 ?_
          refine lv_iconst (v := 3) hx hb d_Model_machine_118 rfl ?_
          refine y_ishl hx hb d_Model_machine_119 ?_
          refine lv_sipush (v := 128) hx hb d_Model_machine_120 rfl ?_
          refine lv_ior hx hb d_Model_machine_123 ?_
          refine lv_aload_n hx hb d_Model_machine_124 rfl (lv_at hl 2 rfl) ?_
          refine va_get (D := D) (ci := 5) (v := .ref (a 4)) (C := R_Model) (T := F_Model) (N := 16) hx hb hts i_Model hown hK hP 0 rfl rfl 4 (by decide) (hts _ k_629) (fun _ h9 => h9) rfl d_Model_machine_125 ?_
          refine lv_aload_n hx hb d_Model_machine_128 rfl (lv_at hl 2 rfl) ?_
          refine va_get (D := D) (ci := 5) (v := .int h) (C := R_Model) (T := F_Model) (N := 16) hx hb hts i_Model hown hK hP 0 rfl rfl 12 (by decide) (hts _ k_637) (fun _ h9 => h9) rfl d_Model_machine_129 ?_
          refine y_iald (v := (upd lv h.toNatClampNeg ((shr (sp_Model_raw h 768 cs) 11) &&& 3)) h.toNatClampNeg) hx hb hK hP 4 3 rfl rfl (vp_01 hh (by decide)) rfl d_Model_machine_132 ?_
          refine lv_iconst (v := 3) hx hb d_Model_machine_133 rfl ?_
          refine lv_icmp_ne (tgt := 144) hx hb d_Model_machine_134 (by decide) (fun c_39 => ?_) (fun c_39 => ?_)
          · refine lv_iconst (v := 0) hx hb d_Model_machine_144 rfl ?_
            refine lv_ior hx hb d_Model_machine_145 ?_
            refine lv_ldc (v := 137352) hx hb hown (hts _ k_885) d_Model_machine_146 ?_
            refine xv (wr := []) (W2 := fun u9 => wR a k n h ca tv (sp_Model_raw h 833 cs) pcs (upd lv h.toNatClampNeg ((shr (sp_Model_raw h 768 cs) 11) &&& 3)) u9 x b cl cm so ti pu np) (xV (rest := []) ⟨hx, hb, hml, hown, hts⟩ (c_Model_keep a k n h 768 (((shl ((shr (sp_Model_raw h 768 cs) 7) &&& 1) 3) ||| 128) ||| 0) 137352 h ca tv (sp_Model_raw h 833 cs) pcs (upd lv h.toNatClampNeg ((shr (sp_Model_raw h 768 cs) 11) &&& 3)) cs x b cl cm so ti pu np hn (vp_csr hh (by unfold vp_in; decide))) mw_Model_keep mv_Model_keep k_734 ⟨rfl, rfl, Nat.le_of_ble_eq_true rfl, Nat.le_of_ble_eq_true rfl⟩ hK hP hD hS hA hF [0, 1, 2, 3, 4, 5, 6, 7, 8, 9] [0, 1, 2, 3, 4, 5, 6, 7, 8] rfl rfl rfl 0 5 rfl rfl rfl rfl hl.1 rfl (Nat.le_of_ble_eq_true rfl) d_Model_machine_148 ⟨Nat.zero_le _, Nat.zero_le _⟩) hP hD hS hA [0, 1, 2, 3, 4, 5, 6, 7, 8, 9] [] [0, 1, 2, 3, 4, 5, 6, 7, 8, 9] rfl rfl rfl (by decide) (fun _ => rfl) rfl (fun u_40 H locs h_40 hP hD hS => ?_)
            obtain ⟨cs_40, e_40⟩ : ∃ z, z = u_40 := ⟨_, rfl⟩
            subst e_40
            refine lv_goto (tgt := 259) hx hb d_Model_machine_151 (by decide) ?_
            exact rv (ca, tv, sp_Model_raw h 833 cs, (upd lv h.toNatClampNeg ((shr (sp_Model_raw h 768 cs) 11) &&& 3)), cs_40) hx hb hr hlocks hP hD hS d_Model_machine_259 (by simp only [sp_Model_machine, h_40, if_neg c_2, if_neg c_3, if_pos c_4, if_pos c_27, if_neg c_39])
          · refine lv_iload_n hx hb d_Model_machine_137 rfl (lv_at hl 0 rfl) ?_
            refine lv_ldc (v := 131072) hx hb hown (hts _ k_750) d_Model_machine_138 ?_
            refine lv_iand hx hb d_Model_machine_140 ?_
            refine lv_goto (tgt := 145) hx hb d_Model_machine_141 (by decide) ?_
            refine lv_ior hx hb d_Model_machine_145 ?_
            refine lv_ldc (v := 137352) hx hb hown (hts _ k_885) d_Model_machine_146 ?_
            refine xv (wr := []) (W2 := fun u9 => wR a k n h ca tv (sp_Model_raw h 833 cs) pcs (upd lv h.toNatClampNeg ((shr (sp_Model_raw h 768 cs) 11) &&& 3)) u9 x b cl cm so ti pu np) (xV (rest := []) ⟨hx, hb, hml, hown, hts⟩ (c_Model_keep a k n h 768 (((shl ((shr (sp_Model_raw h 768 cs) 7) &&& 1) 3) ||| 128) ||| ((sp_Model_raw h 768 cs) &&& 131072)) 137352 h ca tv (sp_Model_raw h 833 cs) pcs (upd lv h.toNatClampNeg ((shr (sp_Model_raw h 768 cs) 11) &&& 3)) cs x b cl cm so ti pu np hn (vp_csr hh (by unfold vp_in; decide))) mw_Model_keep mv_Model_keep k_734 ⟨rfl, rfl, Nat.le_of_ble_eq_true rfl, Nat.le_of_ble_eq_true rfl⟩ hK hP hD hS hA hF [0, 1, 2, 3, 4, 5, 6, 7, 8, 9] [0, 1, 2, 3, 4, 5, 6, 7, 8] rfl rfl rfl 0 5 rfl rfl rfl rfl hl.1 rfl (Nat.le_of_ble_eq_true rfl) d_Model_machine_148 ⟨Nat.zero_le _, Nat.zero_le _⟩) hP hD hS hA [0, 1, 2, 3, 4, 5, 6, 7, 8, 9] [] [0, 1, 2, 3, 4, 5, 6, 7, 8, 9] rfl rfl rfl (by decide) (fun _ => rfl) rfl (fun u_41 H locs h_41 hP hD hS => ?_)
            obtain ⟨cs_41, e_41⟩ : ∃ z, z = u_41 := ⟨_, rfl⟩
            subst e_41
            refine lv_goto (tgt := 259) hx hb d_Model_machine_151 (by decide) ?_
            exact rv (ca, tv, sp_Model_raw h 833 cs, (upd lv h.toNatClampNeg ((shr (sp_Model_raw h 768 cs) 11) &&& 3)), cs_41) hx hb hr hlocks hP hD hS d_Model_machine_259 (by simp only [sp_Model_machine, h_41, if_neg c_2, if_neg c_3, if_pos c_4, if_pos c_27, if_pos c_39])
    · refine lv_aload_n hx hb d_Model_machine_46 rfl (lv_at hl 2 rfl) ?_
      refine lv_iconst (v := 3) hx hb d_Model_machine_47 rfl ?_
      refine lv_aload_n hx hb d_Model_machine_48 rfl (lv_at hl 2 rfl) ?_
      refine va_get (D := D) (ci := 5) (v := .ref (a 3)) (C := R_Model) (T := F_Model) (N := 16) hx hb hts i_Model hown hK hP 0 rfl rfl 3 (by decide) (hts _ k_628) (fun _ h9 => h9) rfl d_Model_machine_49 ?_
      refine lv_aload_n hx hb d_Model_machine_52 rfl (lv_at hl 2 rfl) ?_
      refine va_get (D := D) (ci := 5) (v := .int h) (C := R_Model) (T := F_Model) (N := 16) hx hb hts i_Model hown hK hP 0 rfl rfl 12 (by decide) (hts _ k_637) (fun _ h9 => h9) rfl d_Model_machine_53 ?_
      refine y_iald (v := pcs h.toNatClampNeg) hx hb hK hP 3 2 rfl rfl (vp_01 hh (by decide)) rfl d_Model_machine_56 ?_
      refine xv (wr := []) (W2 := fun u9 => wR a k n h u9.1 u9.2 nx pcs lv cs x b cl cm so ti pu np) (xV (rest := []) ⟨hx, hb, hml, hown, hts⟩ (c_Model_trap a k n 3 (pcs h.toNatClampNeg) h ca tv nx pcs lv cs x b cl cm so ti pu np hn) mw_Model_trap mv_Model_trap k_763 ⟨rfl, rfl, Nat.le_of_ble_eq_true rfl, Nat.le_of_ble_eq_true rfl⟩ hK hP hD hS hA hF [0, 1, 2, 3, 4, 5, 6, 7, 8, 9] [0, 1, 2, 3, 4, 5, 6, 7, 8] rfl rfl rfl 0 5 rfl rfl rfl rfl hl.1 rfl (Nat.le_of_ble_eq_true rfl) d_Model_machine_57 ⟨Nat.zero_le _, Nat.zero_le _⟩) hP hD hS hA [0, 1, 2, 3, 4, 5, 6, 7, 8, 9] [] [0, 1, 2, 3, 4, 5, 6, 7, 8, 9] rfl rfl rfl (by decide) (fun _ => rfl) rfl (fun u_42 H locs h_42 hP hD hS => ?_)
      obtain ⟨ca_42, tv_42⟩ := u_42
      dsimp only at hP hD
      refine lv_goto (tgt := 259) hx hb d_Model_machine_60 (by decide) ?_
      exact rv (ca_42, tv_42, nx, lv, cs) hx hb hr hlocks hP hD hS d_Model_machine_259 (by simp only [sp_Model_machine, h_42, if_neg c_2, if_pos c_3])
  · refine lv_aload_n hx hb d_Model_machine_28 rfl (lv_at hl 2 rfl) ?_
    refine lv_bipush (v := 8) hx hb d_Model_machine_29 rfl ?_
    refine lv_iload_n hx hb d_Model_machine_31 rfl (lv_at hl 1 rfl) ?_
    refine lv_iadd hx hb d_Model_machine_32 ?_
    refine lv_iconst (v := 0) hx hb d_Model_machine_33 rfl ?_
    refine xv (wr := []) (W2 := fun u9 => wR a k n h u9.1 u9.2 nx pcs lv cs x b cl cm so ti pu np) (xV (rest := []) ⟨hx, hb, hml, hown, hts⟩ (c_Model_trap a k n (8 + (lv h.toNatClampNeg)) 0 h ca tv nx pcs lv cs x b cl cm so ti pu np hn) mw_Model_trap mv_Model_trap k_763 ⟨rfl, rfl, Nat.le_of_ble_eq_true rfl, Nat.le_of_ble_eq_true rfl⟩ hK hP hD hS hA hF [0, 1, 2, 3, 4, 5, 6, 7, 8, 9] [0, 1, 2, 3, 4, 5, 6, 7, 8] rfl rfl rfl 0 5 rfl rfl rfl rfl hl.1 rfl (Nat.le_of_ble_eq_true rfl) d_Model_machine_34 ⟨Nat.zero_le _, Nat.zero_le _⟩) hP hD hS hA [0, 1, 2, 3, 4, 5, 6, 7, 8, 9] [] [0, 1, 2, 3, 4, 5, 6, 7, 8, 9] rfl rfl rfl (by decide) (fun _ => rfl) rfl (fun u_43 H locs h_43 hP hD hS => ?_)
    obtain ⟨ca_43, tv_43⟩ := u_43
    dsimp only at hP hD
    refine lv_goto (tgt := 259) hx hb d_Model_machine_37 (by decide) ?_
    exact rv (ca_43, tv_43, nx, lv, cs) hx hb hr hlocks hP hD hS d_Model_machine_259 (by simp only [sp_Model_machine, h_43, if_pos c_2])
def sp_Model_csrs (x0 : Int32) (h : Int32) (ca : Int32) (tv : Int32) (lv : Nat → Int32) (cs : Nat → Int32) (x : Nat → Int32) (cm : Nat → Int64) (so : Nat → Int32) (ti : Int64) : Int32 × Int32 × (Nat → Int32) × (Nat → Int32) :=
  if ((sp_Model_field x0 12 3) &&& 3) = 1 then
    if (sp_Model_field x0 12 3) = 4 then
      let ca_6 := (sp_Model_trap 2 x0 ca tv).1
      let tv_6 := (sp_Model_trap 2 x0 ca tv).2
      (ca_6, tv_6, cs, x)
    else
      if (sp_Model_isCsr (sp_Model_field x0 20 12)) = 0 then
        let ca_9 := (sp_Model_trap 2 x0 ca tv).1
        let tv_9 := (sp_Model_trap 2 x0 ca tv).2
        (ca_9, tv_9, cs, x)
      else
        if (lv h.toNatClampNeg) < ((shr (sp_Model_field x0 20 12) 8) &&& 3) then
          let ca_11 := (sp_Model_trap 2 x0 ca tv).1
          let tv_11 := (sp_Model_trap 2 x0 ca tv).2
          (ca_11, tv_11, cs, x)
        else
          if (shr (sp_Model_field x0 20 12) 10) = 3 then
            let ca_28 := (sp_Model_trap 2 x0 ca tv).1
            let tv_28 := (sp_Model_trap 2 x0 ca tv).2
            (ca_28, tv_28, cs, x)
          else
            if (sp_Model_field x0 12 3) ≤ 4 then
              let cs_19 := (sp_Model_write h (sp_Model_field x0 20 12) (sp_Model_reg (sp_Model_field x0 15 5) h x) cs)
              let x_21 := (sp_Model_setReg (sp_Model_field x0 7 5) (sp_Model_read h (sp_Model_field x0 20 12) cs cm so ti) h ca x)
              (ca, tv, cs_19, x_21)
            else
              let cs_25 := (sp_Model_write h (sp_Model_field x0 20 12) (sp_Model_field x0 15 5) cs)
              let x_27 := (sp_Model_setReg (sp_Model_field x0 7 5) (sp_Model_read h (sp_Model_field x0 20 12) cs cm so ti) h ca x)
              (ca, tv, cs_25, x_27)
  else
    if (sp_Model_field x0 15 5) = 0 then
      if (sp_Model_field x0 12 3) = 4 then
        let ca_31 := (sp_Model_trap 2 x0 ca tv).1
        let tv_31 := (sp_Model_trap 2 x0 ca tv).2
        (ca_31, tv_31, cs, x)
      else
        if (sp_Model_isCsr (sp_Model_field x0 20 12)) = 0 then
          let ca_34 := (sp_Model_trap 2 x0 ca tv).1
          let tv_34 := (sp_Model_trap 2 x0 ca tv).2
          (ca_34, tv_34, cs, x)
        else
          if (lv h.toNatClampNeg) < ((shr (sp_Model_field x0 20 12) 8) &&& 3) then
            let ca_36 := (sp_Model_trap 2 x0 ca tv).1
            let tv_36 := (sp_Model_trap 2 x0 ca tv).2
            (ca_36, tv_36, cs, x)
          else
            if (sp_Model_field x0 12 3) ≤ 4 then
              let x_43 := (sp_Model_setReg (sp_Model_field x0 7 5) (sp_Model_read h (sp_Model_field x0 20 12) cs cm so ti) h ca x)
              (ca, tv, cs, x_43)
            else
              let x_47 := (sp_Model_setReg (sp_Model_field x0 7 5) (sp_Model_read h (sp_Model_field x0 20 12) cs cm so ti) h ca x)
              (ca, tv, cs, x_47)
    else
      if (sp_Model_field x0 12 3) = 4 then
        let ca_49 := (sp_Model_trap 2 x0 ca tv).1
        let tv_49 := (sp_Model_trap 2 x0 ca tv).2
        (ca_49, tv_49, cs, x)
      else
        if (sp_Model_isCsr (sp_Model_field x0 20 12)) = 0 then
          let ca_52 := (sp_Model_trap 2 x0 ca tv).1
          let tv_52 := (sp_Model_trap 2 x0 ca tv).2
          (ca_52, tv_52, cs, x)
        else
          if (lv h.toNatClampNeg) < ((shr (sp_Model_field x0 20 12) 8) &&& 3) then
            let ca_54 := (sp_Model_trap 2 x0 ca tv).1
            let tv_54 := (sp_Model_trap 2 x0 ca tv).2
            (ca_54, tv_54, cs, x)
          else
            if (shr (sp_Model_field x0 20 12) 10) = 3 then
              let ca_79 := (sp_Model_trap 2 x0 ca tv).1
              let tv_79 := (sp_Model_trap 2 x0 ca tv).2
              (ca_79, tv_79, cs, x)
            else
              if (sp_Model_field x0 12 3) ≤ 4 then
                if ((sp_Model_field x0 12 3) &&& 3) = 2 then
                  let cs_66 := (sp_Model_write h (sp_Model_field x0 20 12) ((sp_Model_read h (sp_Model_field x0 20 12) cs cm so ti) ||| (sp_Model_reg (sp_Model_field x0 15 5) h x)) cs)
                  let x_68 := (sp_Model_setReg (sp_Model_field x0 7 5) (sp_Model_read h (sp_Model_field x0 20 12) cs cm so ti) h ca x)
                  (ca, tv, cs_66, x_68)
                else
                  let cs_63 := (sp_Model_write h (sp_Model_field x0 20 12) ((sp_Model_read h (sp_Model_field x0 20 12) cs cm so ti) &&& ((sp_Model_reg (sp_Model_field x0 15 5) h x) ^^^ (-1))) cs)
                  let x_65 := (sp_Model_setReg (sp_Model_field x0 7 5) (sp_Model_read h (sp_Model_field x0 20 12) cs cm so ti) h ca x)
                  (ca, tv, cs_63, x_65)
              else
                if ((sp_Model_field x0 12 3) &&& 3) = 2 then
                  let cs_76 := (sp_Model_write h (sp_Model_field x0 20 12) ((sp_Model_read h (sp_Model_field x0 20 12) cs cm so ti) ||| (sp_Model_field x0 15 5)) cs)
                  let x_78 := (sp_Model_setReg (sp_Model_field x0 7 5) (sp_Model_read h (sp_Model_field x0 20 12) cs cm so ti) h ca x)
                  (ca, tv, cs_76, x_78)
                else
                  let cs_73 := (sp_Model_write h (sp_Model_field x0 20 12) ((sp_Model_read h (sp_Model_field x0 20 12) cs cm so ti) &&& ((sp_Model_field x0 15 5) ^^^ (-1))) cs)
                  let x_75 := (sp_Model_setReg (sp_Model_field x0 7 5) (sp_Model_read h (sp_Model_field x0 20 12) cs cm so ti) h ca x)
                  (ca, tv, cs_73, x_75)
set_option maxHeartbeats 4000000 in
set_option maxRecDepth 100000 in
theorem c_Model_csrs {l : Launch} {D : va_G} {g : Nat → Nat} (a : Nat → Nat) (k : Nat → ClassId) (n : Nat) (x0 : Int32) (h ca tv nx : Int32) (pcs lv cs x b cl : Nat → Int32) (cm : Nat → Int64) (so : Nat → Int32) (ti : Int64) (pu : Nat → Int32) (np : Int32) (hn : n ≤ 4096) (hh : h = 0 ∨ h = 1) : CT l D g y_Model_csrs b_Model_csrs 8 none (rD 3) [.ref (a 0), .int x0] (wR a k n h ca tv nx pcs lv cs x b cl cm so ti pu np) (tyR k) (Qv D (fun (u : Int32 × Int32 × (Nat → Int32) × (Nat → Int32)) => sp_Model_csrs x0 h ca tv lv cs x cm so ti = u) (fun u => wR a k n h u.1 u.2.1 nx pcs lv u.2.2.1 u.2.2.2 b cl cm so ti pu np)) := by
  refine CT.of rfl (Nat.le_of_ble_eq_true rfl) (fun p e s m below meth c A ls hx hb hr hml hts hown hlocks hA hP hK hD hF hS hl => ?_)
  have hl : lv_has ls 8 [(0, .ref (a 0)), (1, .int x0)] := hl
  refine lv_iload_n hx hb d_Model_csrs_0 rfl (lv_at hl 1 rfl) ?_
  refine lv_bipush (v := 12) hx hb d_Model_csrs_1 rfl ?_
  refine lv_iconst (v := 3) hx hb d_Model_csrs_3 rfl ?_
  refine xi (wr := [((a 0), .inr (5, [.int (nI n), .ref (a 1), .ref (a 2), .ref (a 3), .ref (a 4), .ref (a 5), .ref (a 6), .ref (a 7), .ref (a 8), .long ti, .ref (a 9), .int np, .int h, .int ca, .int tv, .int nx])), ((a 1), .inl ((k 0), 16384, .inl b)), ((a 2), .inl ((k 1), 64, .inl x)), ((a 3), .inl ((k 2), 2, .inl pcs)), ((a 4), .inl ((k 3), 2, .inl lv)), ((a 5), .inl ((k 4), 8192, .inl cs)), ((a 6), .inl ((k 5), 2, .inl cl)), ((a 7), .inl ((k 6), 2, .inr (.inl cm))), ((a 8), .inl ((k 7), 2, .inl so)), ((a 9), .inl ((k 8), 256, .inl pu))]) (W2 := fun _ => wR a k n h ca tv nx pcs lv cs x b cl cm so ti pu np) (xS (rest := []) ⟨hx, hb, hml, hown, hts⟩ (c_Model_field x0 12 3) mw_Model_field ms_Model_field k_787 ⟨rfl, rfl, Nat.le_of_ble_eq_true rfl, Nat.le_of_ble_eq_true rfl⟩ hK hP hD hS hA hF [] [] rfl rfl rfl rfl hl.1 rfl (Nat.le_of_ble_eq_true rfl) d_Model_csrs_4 ⟨Nat.zero_le _, Nat.zero_le _⟩) hP hD hS hA [] [0, 1, 2, 3, 4, 5, 6, 7, 8, 9] [0, 1, 2, 3, 4, 5, 6, 7, 8, 9] rfl rfl rfl (by decide) (fun _ => rfl) rfl (fun r_1 _ H locs h_1 hP hD hS => ?_)
  subst h_1
  refine lv_istore_n (lv' := [(2, .int (sp_Model_field x0 12 3)), (0, .ref (a 0)), (1, .int x0)]) hx hb d_Model_csrs_7 rfl hl (by decide) rfl (fun ls hl => ?_)
  refine lv_iload_n hx hb d_Model_csrs_8 rfl (lv_at hl 2 rfl) ?_
  refine lv_bipush (v := 20) hx hb d_Model_csrs_9 rfl ?_
  refine lv_bipush (v := 12) hx hb d_Model_csrs_11 rfl ?_
  refine xi (wr := [((a 0), .inr (5, [.int (nI n), .ref (a 1), .ref (a 2), .ref (a 3), .ref (a 4), .ref (a 5), .ref (a 6), .ref (a 7), .ref (a 8), .long ti, .ref (a 9), .int np, .int h, .int ca, .int tv, .int nx])), ((a 1), .inl ((k 0), 16384, .inl b)), ((a 2), .inl ((k 1), 64, .inl x)), ((a 3), .inl ((k 2), 2, .inl pcs)), ((a 4), .inl ((k 3), 2, .inl lv)), ((a 5), .inl ((k 4), 8192, .inl cs)), ((a 6), .inl ((k 5), 2, .inl cl)), ((a 7), .inl ((k 6), 2, .inr (.inl cm))), ((a 8), .inl ((k 7), 2, .inl so)), ((a 9), .inl ((k 8), 256, .inl pu))]) (W2 := fun _ => wR a k n h ca tv nx pcs lv cs x b cl cm so ti pu np) (xS (rest := []) ⟨hx, hb, hml, hown, hts⟩ (c_Model_field x0 20 12) mw_Model_field ms_Model_field k_787 ⟨rfl, rfl, Nat.le_of_ble_eq_true rfl, Nat.le_of_ble_eq_true rfl⟩ hK hP hD hS hA hF [] [] rfl rfl rfl rfl hl.1 rfl (Nat.le_of_ble_eq_true rfl) d_Model_csrs_13 ⟨Nat.zero_le _, Nat.zero_le _⟩) hP hD hS hA [] [0, 1, 2, 3, 4, 5, 6, 7, 8, 9] [0, 1, 2, 3, 4, 5, 6, 7, 8, 9] rfl rfl rfl (by decide) (fun _ => rfl) rfl (fun r_2 _ H locs h_2 hP hD hS => ?_)
  subst h_2
  refine lv_istore_n (lv' := [(3, .int (sp_Model_field x0 20 12)), (2, .int (sp_Model_field x0 12 3)), (0, .ref (a 0)), (1, .int x0)]) hx hb d_Model_csrs_16 rfl hl (by decide) rfl (fun ls hl => ?_)
  refine lv_iload_n hx hb d_Model_csrs_17 rfl (lv_at hl 3 rfl) ?_
  refine lv_bipush (v := 15) hx hb d_Model_csrs_18 rfl ?_
  refine lv_iconst (v := 5) hx hb d_Model_csrs_20 rfl ?_
  refine xi (wr := [((a 0), .inr (5, [.int (nI n), .ref (a 1), .ref (a 2), .ref (a 3), .ref (a 4), .ref (a 5), .ref (a 6), .ref (a 7), .ref (a 8), .long ti, .ref (a 9), .int np, .int h, .int ca, .int tv, .int nx])), ((a 1), .inl ((k 0), 16384, .inl b)), ((a 2), .inl ((k 1), 64, .inl x)), ((a 3), .inl ((k 2), 2, .inl pcs)), ((a 4), .inl ((k 3), 2, .inl lv)), ((a 5), .inl ((k 4), 8192, .inl cs)), ((a 6), .inl ((k 5), 2, .inl cl)), ((a 7), .inl ((k 6), 2, .inr (.inl cm))), ((a 8), .inl ((k 7), 2, .inl so)), ((a 9), .inl ((k 8), 256, .inl pu))]) (W2 := fun _ => wR a k n h ca tv nx pcs lv cs x b cl cm so ti pu np) (xS (rest := []) ⟨hx, hb, hml, hown, hts⟩ (c_Model_field x0 15 5) mw_Model_field ms_Model_field k_787 ⟨rfl, rfl, Nat.le_of_ble_eq_true rfl, Nat.le_of_ble_eq_true rfl⟩ hK hP hD hS hA hF [] [] rfl rfl rfl rfl hl.1 rfl (Nat.le_of_ble_eq_true rfl) d_Model_csrs_21 ⟨Nat.zero_le _, Nat.zero_le _⟩) hP hD hS hA [] [0, 1, 2, 3, 4, 5, 6, 7, 8, 9] [0, 1, 2, 3, 4, 5, 6, 7, 8, 9] rfl rfl rfl (by decide) (fun _ => rfl) rfl (fun r_3 _ H locs h_3 hP hD hS => ?_)
  subst h_3
  refine lv_istore (lv' := [(4, .int (sp_Model_field x0 15 5)), (3, .int (sp_Model_field x0 20 12)), (2, .int (sp_Model_field x0 12 3)), (0, .ref (a 0)), (1, .int x0)]) hx hb d_Model_csrs_24 hl (by decide) rfl (fun ls hl => ?_)
  refine lv_iload_n hx hb d_Model_csrs_26 rfl (lv_at hl 2 rfl) ?_
  refine lv_iconst (v := 3) hx hb d_Model_csrs_27 rfl ?_
  refine lv_iand hx hb d_Model_csrs_28 ?_
  refine lv_iconst (v := 1) hx hb d_Model_csrs_29 rfl ?_
  refine lv_icmp_eq (tgt := 38) hx hb d_Model_csrs_30 (by decide) (fun c_4 => ?_) (fun c_4 => ?_)
  · refine lv_iconst (v := 1) hx hb d_Model_csrs_38 rfl ?_
    refine lv_goto (tgt := 43) hx hb d_Model_csrs_39 (by decide) ?_
    refine lv_istore (lv' := [(5, .int 1), (4, .int (sp_Model_field x0 15 5)), (3, .int (sp_Model_field x0 20 12)), (2, .int (sp_Model_field x0 12 3)), (0, .ref (a 0)), (1, .int x0)]) hx hb d_Model_csrs_43 hl (by decide) rfl (fun ls hl => ?_)
    refine lv_iload_n hx hb d_Model_csrs_45 rfl (lv_at hl 3 rfl) ?_
    refine lv_iconst (v := 4) hx hb d_Model_csrs_46 rfl ?_
    refine lv_icmp_eq (tgt := 88) hx hb d_Model_csrs_47 (by decide) (fun c_5 => ?_) (fun c_5 => ?_)
    · refine lv_aload_n hx hb d_Model_csrs_88 rfl (lv_at hl 4 rfl) ?_
      refine lv_iconst (v := 2) hx hb d_Model_csrs_89 rfl ?_
      refine lv_iload_n hx hb d_Model_csrs_90 rfl (lv_at hl 5 rfl) ?_
      refine xv (wr := []) (W2 := fun u9 => wR a k n h u9.1 u9.2 nx pcs lv cs x b cl cm so ti pu np) (xV (rest := []) ⟨hx, hb, hml, hown, hts⟩ (c_Model_trap a k n 2 x0 h ca tv nx pcs lv cs x b cl cm so ti pu np hn) mw_Model_trap mv_Model_trap k_763 ⟨rfl, rfl, Nat.le_of_ble_eq_true rfl, Nat.le_of_ble_eq_true rfl⟩ hK hP hD hS hA hF [0, 1, 2, 3, 4, 5, 6, 7, 8, 9] [0, 1, 2, 3, 4, 5, 6, 7, 8] rfl rfl rfl 0 5 rfl rfl rfl rfl hl.1 rfl (Nat.le_of_ble_eq_true rfl) d_Model_csrs_91 ⟨Nat.zero_le _, Nat.zero_le _⟩) hP hD hS hA [0, 1, 2, 3, 4, 5, 6, 7, 8, 9] [] [0, 1, 2, 3, 4, 5, 6, 7, 8, 9] rfl rfl rfl (by decide) (fun _ => rfl) rfl (fun u_6 H locs h_6 hP hD hS => ?_)
      obtain ⟨ca_6, tv_6⟩ := u_6
      dsimp only at hP hD
      exact rv (ca_6, tv_6, cs, x) hx hb hr hlocks hP hD hS d_Model_csrs_94 (by simp only [sp_Model_csrs, h_6, if_pos c_4, if_pos c_5])
    · refine lv_iload_n hx hb d_Model_csrs_50 rfl (lv_at hl 2 rfl) ?_
      refine xi (wr := [((a 0), .inr (5, [.int (nI n), .ref (a 1), .ref (a 2), .ref (a 3), .ref (a 4), .ref (a 5), .ref (a 6), .ref (a 7), .ref (a 8), .long ti, .ref (a 9), .int np, .int h, .int ca, .int tv, .int nx])), ((a 1), .inl ((k 0), 16384, .inl b)), ((a 2), .inl ((k 1), 64, .inl x)), ((a 3), .inl ((k 2), 2, .inl pcs)), ((a 4), .inl ((k 3), 2, .inl lv)), ((a 5), .inl ((k 4), 8192, .inl cs)), ((a 6), .inl ((k 5), 2, .inl cl)), ((a 7), .inl ((k 6), 2, .inr (.inl cm))), ((a 8), .inl ((k 7), 2, .inl so)), ((a 9), .inl ((k 8), 256, .inl pu))]) (W2 := fun _ => wR a k n h ca tv nx pcs lv cs x b cl cm so ti pu np) (xS (rest := []) ⟨hx, hb, hml, hown, hts⟩ (c_Model_isCsr (sp_Model_field x0 20 12)) mw_Model_isCsr ms_Model_isCsr k_893 ⟨rfl, rfl, Nat.le_of_ble_eq_true rfl, Nat.le_of_ble_eq_true rfl⟩ hK hP hD hS hA hF [] [] rfl rfl rfl rfl hl.1 rfl (Nat.le_of_ble_eq_true rfl) d_Model_csrs_51 ⟨Nat.zero_le _, Nat.zero_le _⟩) hP hD hS hA [] [0, 1, 2, 3, 4, 5, 6, 7, 8, 9] [0, 1, 2, 3, 4, 5, 6, 7, 8, 9] rfl rfl rfl (by decide) (fun _ => rfl) rfl (fun r_7 _ H locs h_7 hP hD hS => ?_)
      obtain ⟨h_7, z_7⟩ := h_7
      subst h_7
      refine lv_if_eq (tgt := 88) hx hb d_Model_csrs_54 (by decide) (fun c_8 => ?_) (fun c_8 => ?_)
      · refine lv_aload_n hx hb d_Model_csrs_88 rfl (lv_at hl 4 rfl) ?_
        refine lv_iconst (v := 2) hx hb d_Model_csrs_89 rfl ?_
        refine lv_iload_n hx hb d_Model_csrs_90 rfl (lv_at hl 5 rfl) ?_
        refine xv (wr := []) (W2 := fun u9 => wR a k n h u9.1 u9.2 nx pcs lv cs x b cl cm so ti pu np) (xV (rest := []) ⟨hx, hb, hml, hown, hts⟩ (c_Model_trap a k n 2 x0 h ca tv nx pcs lv cs x b cl cm so ti pu np hn) mw_Model_trap mv_Model_trap k_763 ⟨rfl, rfl, Nat.le_of_ble_eq_true rfl, Nat.le_of_ble_eq_true rfl⟩ hK hP hD hS hA hF [0, 1, 2, 3, 4, 5, 6, 7, 8, 9] [0, 1, 2, 3, 4, 5, 6, 7, 8] rfl rfl rfl 0 5 rfl rfl rfl rfl hl.1 rfl (Nat.le_of_ble_eq_true rfl) d_Model_csrs_91 ⟨Nat.zero_le _, Nat.zero_le _⟩) hP hD hS hA [0, 1, 2, 3, 4, 5, 6, 7, 8, 9] [] [0, 1, 2, 3, 4, 5, 6, 7, 8, 9] rfl rfl rfl (by decide) (fun _ => rfl) rfl (fun u_9 H locs h_9 hP hD hS => ?_)
        obtain ⟨ca_9, tv_9⟩ := u_9
        dsimp only at hP hD
        exact rv (ca_9, tv_9, cs, x) hx hb hr hlocks hP hD hS d_Model_csrs_94 (by simp only [sp_Model_csrs, h_9, if_pos c_4, if_neg c_5, if_pos c_8])
      · refine lv_aload_n hx hb d_Model_csrs_57 rfl (lv_at hl 4 rfl) ?_
        refine va_get (D := D) (ci := 5) (v := .ref (a 4)) (C := R_Model) (T := F_Model) (N := 16) hx hb hts i_Model hown hK hP 0 rfl rfl 4 (by decide) (hts _ k_629) (fun _ h9 => h9) rfl d_Model_csrs_58 ?_
        refine lv_aload_n hx hb d_Model_csrs_61 rfl (lv_at hl 4 rfl) ?_
        refine va_get (D := D) (ci := 5) (v := .int h) (C := R_Model) (T := F_Model) (N := 16) hx hb hts i_Model hown hK hP 0 rfl rfl 12 (by decide) (hts _ k_637) (fun _ h9 => h9) rfl d_Model_csrs_62 ?_
        refine y_iald (v := lv h.toNatClampNeg) hx hb hK hP 4 3 rfl rfl (vp_01 hh (by decide)) rfl d_Model_csrs_65 ?_
        refine lv_iload_n hx hb d_Model_csrs_66 rfl (lv_at hl 2 rfl) ?_
        refine lv_bipush (v := 8) hx hb d_Model_csrs_67 rfl ?_
        refine y_ishr hx hb d_Model_csrs_69 ?_
        refine lv_iconst (v := 3) hx hb d_Model_csrs_70 rfl ?_
        refine lv_iand hx hb d_Model_csrs_71 ?_
        refine lv_icmp_lt (tgt := 88) hx hb d_Model_csrs_72 (by decide) (fun c_10 => ?_) (fun c_10 => ?_)
        · refine lv_aload_n hx hb d_Model_csrs_88 rfl (lv_at hl 4 rfl) ?_
          refine lv_iconst (v := 2) hx hb d_Model_csrs_89 rfl ?_
          refine lv_iload_n hx hb d_Model_csrs_90 rfl (lv_at hl 5 rfl) ?_
          refine xv (wr := []) (W2 := fun u9 => wR a k n h u9.1 u9.2 nx pcs lv cs x b cl cm so ti pu np) (xV (rest := []) ⟨hx, hb, hml, hown, hts⟩ (c_Model_trap a k n 2 x0 h ca tv nx pcs lv cs x b cl cm so ti pu np hn) mw_Model_trap mv_Model_trap k_763 ⟨rfl, rfl, Nat.le_of_ble_eq_true rfl, Nat.le_of_ble_eq_true rfl⟩ hK hP hD hS hA hF [0, 1, 2, 3, 4, 5, 6, 7, 8, 9] [0, 1, 2, 3, 4, 5, 6, 7, 8] rfl rfl rfl 0 5 rfl rfl rfl rfl hl.1 rfl (Nat.le_of_ble_eq_true rfl) d_Model_csrs_91 ⟨Nat.zero_le _, Nat.zero_le _⟩) hP hD hS hA [0, 1, 2, 3, 4, 5, 6, 7, 8, 9] [] [0, 1, 2, 3, 4, 5, 6, 7, 8, 9] rfl rfl rfl (by decide) (fun _ => rfl) rfl (fun u_11 H locs h_11 hP hD hS => ?_)
          obtain ⟨ca_11, tv_11⟩ := u_11
          dsimp only at hP hD
          exact rv (ca_11, tv_11, cs, x) hx hb hr hlocks hP hD hS d_Model_csrs_94 (by simp only [sp_Model_csrs, h_11, if_pos c_4, if_neg c_5, if_neg c_8, if_pos c_10])
        · refine lv_iload hx hb d_Model_csrs_75 (lv_at hl 0 rfl) ?_
          refine lv_if_eq (tgt := 95) hx hb d_Model_csrs_77 (by decide) (fun h9 => absurd h9 (by decide)) (fun _ => ?_)
          refine lv_iload_n hx hb d_Model_csrs_80 rfl (lv_at hl 2 rfl) ?_
          refine lv_bipush (v := 10) hx hb d_Model_csrs_81 rfl ?_
          refine y_ishr hx hb d_Model_csrs_83 ?_
          refine lv_iconst (v := 3) hx hb d_Model_csrs_84 rfl ?_
          refine lv_icmp_ne (tgt := 95) hx hb d_Model_csrs_85 (by decide) (fun c_13 => ?_) (fun c_13 => ?_)
          · refine lv_iload_n hx hb d_Model_csrs_95 rfl (lv_at hl 3 rfl) ?_
            refine lv_iconst (v := 4) hx hb d_Model_csrs_96 rfl ?_
            refine lv_icmp_le (tgt := 105) hx hb d_Model_csrs_97 (by decide) (fun c_14 => ?_) (fun c_14 => ?_)
            · refine lv_aload_n hx hb d_Model_csrs_105 rfl (lv_at hl 4 rfl) ?_
              refine lv_iload hx hb d_Model_csrs_106 (lv_at hl 1 rfl) ?_
              refine xi (wr := []) (W2 := fun _ => wR a k n h ca tv nx pcs lv cs x b cl cm so ti pu np) (xV (rest := []) ⟨hx, hb, hml, hown, hts⟩ (c_Model_reg a k n (sp_Model_field x0 15 5) h ca tv nx pcs lv cs x b cl cm so ti pu np hn hh (vp_f5 _ _)) mw_Model_reg mv_Model_reg k_802 ⟨rfl, rfl, Nat.le_of_ble_eq_true rfl, Nat.le_of_ble_eq_true rfl⟩ hK hP hD hS hA hF [0, 1, 2, 3, 4, 5, 6, 7, 8, 9] [0, 1, 2, 3, 4, 5, 6, 7, 8] rfl rfl rfl 0 5 rfl rfl rfl rfl hl.1 rfl (Nat.le_of_ble_eq_true rfl) d_Model_csrs_108 ⟨Nat.zero_le _, Nat.zero_le _⟩) hP hD hS hA [0, 1, 2, 3, 4, 5, 6, 7, 8, 9] [] [0, 1, 2, 3, 4, 5, 6, 7, 8, 9] rfl rfl rfl (by decide) (fun _ => rfl) rfl (fun r_15 _ H locs h_15 hP hD hS => ?_)
              subst h_15
              refine lv_istore (lv' := [(6, .int (sp_Model_reg (sp_Model_field x0 15 5) h x)), (5, .int 1), (4, .int (sp_Model_field x0 15 5)), (3, .int (sp_Model_field x0 20 12)), (2, .int (sp_Model_field x0 12 3)), (0, .ref (a 0)), (1, .int x0)]) hx hb d_Model_csrs_111 hl (by decide) rfl (fun ls hl => ?_)
              refine lv_aload_n hx hb d_Model_csrs_113 rfl (lv_at hl 5 rfl) ?_
              refine lv_aload_n hx hb d_Model_csrs_114 rfl (lv_at hl 5 rfl) ?_
              refine va_get (D := D) (ci := 5) (v := .int h) (C := R_Model) (T := F_Model) (N := 16) hx hb hts i_Model hown hK hP 0 rfl rfl 12 (by decide) (hts _ k_637) (fun _ h9 => h9) rfl d_Model_csrs_115 ?_
              refine lv_iload_n hx hb d_Model_csrs_118 rfl (lv_at hl 3 rfl) ?_
              refine xi (wr := []) (W2 := fun _ => wR a k n h ca tv nx pcs lv cs x b cl cm so ti pu np) (xV (rest := []) ⟨hx, hb, hml, hown, hts⟩ (c_Model_read a k n h (sp_Model_field x0 20 12) h ca tv nx pcs lv cs x b cl cm so ti pu np hn hh (vp_f12 _)) mw_Model_read mv_Model_read k_709 ⟨rfl, rfl, Nat.le_of_ble_eq_true rfl, Nat.le_of_ble_eq_true rfl⟩ hK hP hD hS hA hF [0, 1, 2, 3, 4, 5, 6, 7, 8, 9] [0, 1, 2, 3, 4, 5, 6, 7, 8] rfl rfl rfl 0 5 rfl rfl rfl rfl hl.1 rfl (Nat.le_of_ble_eq_true rfl) d_Model_csrs_119 ⟨Nat.zero_le _, Nat.zero_le _⟩) hP hD hS hA [0, 1, 2, 3, 4, 5, 6, 7, 8, 9] [] [0, 1, 2, 3, 4, 5, 6, 7, 8, 9] rfl rfl rfl (by decide) (fun _ => rfl) rfl (fun r_16 _ H locs h_16 hP hD hS => ?_)
              subst h_16
              refine lv_istore (lv' := [(7, .int (sp_Model_read h (sp_Model_field x0 20 12) cs cm so ti)), (6, .int (sp_Model_reg (sp_Model_field x0 15 5) h x)), (5, .int 1), (4, .int (sp_Model_field x0 15 5)), (3, .int (sp_Model_field x0 20 12)), (2, .int (sp_Model_field x0 12 3)), (0, .ref (a 0)), (1, .int x0)]) hx hb d_Model_csrs_122 hl (by decide) rfl (fun ls hl => ?_)
              refine lv_iload hx hb d_Model_csrs_124 (lv_at hl 2 rfl) ?_
              refine lv_if_eq (tgt := 172) hx hb d_Model_csrs_126 (by decide) (fun h9 => absurd h9 (by decide)) (fun _ => ?_)
              refine lv_aload_n hx hb d_Model_csrs_129 rfl (lv_at hl 6 rfl) ?_
              refine lv_aload_n hx hb d_Model_csrs_130 rfl (lv_at hl 6 rfl) ?_
              refine va_get (D := D) (ci := 5) (v := .int h) (C := R_Model) (T := F_Model) (N := 16) hx hb hts i_Model hown hK hP 0 rfl rfl 12 (by decide) (hts _ k_637) (fun _ h9 => h9) rfl d_Model_csrs_131 ?_
              refine lv_iload_n hx hb d_Model_csrs_134 rfl (lv_at hl 4 rfl) ?_
              refine lv_iload_n hx hb d_Model_csrs_135 rfl (lv_at hl 5 rfl) ?_
              refine lv_iconst (v := 3) hx hb d_Model_csrs_136 rfl ?_
              refine lv_iand hx hb d_Model_csrs_137 ?_
              refine lv_iconst (v := 1) hx hb d_Model_csrs_138 rfl ?_
              refine lv_icmp_ne (tgt := 147) hx hb d_Model_csrs_139 (by decide) (fun h9 => absurd c_4 h9) (fun _ => ?_)
              refine lv_iload hx hb d_Model_csrs_142 (lv_at hl 1 rfl) ?_
              refine lv_goto (tgt := 169) hx hb d_Model_csrs_144 (by decide) ?_
              refine xv (wr := []) (W2 := fun u9 => wR a k n h ca tv nx pcs lv u9 x b cl cm so ti pu np) (xV (rest := []) ⟨hx, hb, hml, hown, hts⟩ (c_Model_write a k n h (sp_Model_field x0 20 12) (sp_Model_reg (sp_Model_field x0 15 5) h x) h ca tv nx pcs lv cs x b cl cm so ti pu np hn hh (vp_f12 _)) mw_Model_write mv_Model_write k_896 ⟨rfl, rfl, Nat.le_of_ble_eq_true rfl, Nat.le_of_ble_eq_true rfl⟩ hK hP hD hS hA hF [0, 1, 2, 3, 4, 5, 6, 7, 8, 9] [0, 1, 2, 3, 4, 5, 6, 7, 8] rfl rfl rfl 0 5 rfl rfl rfl rfl hl.1 rfl (Nat.le_of_ble_eq_true rfl) d_Model_csrs_169 ⟨Nat.zero_le _, Nat.zero_le _⟩) hP hD hS hA [0, 1, 2, 3, 4, 5, 6, 7, 8, 9] [] [0, 1, 2, 3, 4, 5, 6, 7, 8, 9] rfl rfl rfl (by decide) (fun _ => rfl) rfl (fun u_19 H locs h_19 hP hD hS => ?_)
              obtain ⟨cs_19, e_19⟩ : ∃ z, z = u_19 := ⟨_, rfl⟩
              subst e_19
              refine lv_aload_n hx hb d_Model_csrs_172 rfl (lv_at hl 6 rfl) ?_
              refine lv_iload_n hx hb d_Model_csrs_173 rfl (lv_at hl 7 rfl) ?_
              refine lv_bipush (v := 7) hx hb d_Model_csrs_174 rfl ?_
              refine lv_iconst (v := 5) hx hb d_Model_csrs_176 rfl ?_
              refine xi (wr := [((a 0), .inr (5, [.int (nI n), .ref (a 1), .ref (a 2), .ref (a 3), .ref (a 4), .ref (a 5), .ref (a 6), .ref (a 7), .ref (a 8), .long ti, .ref (a 9), .int np, .int h, .int ca, .int tv, .int nx])), ((a 1), .inl ((k 0), 16384, .inl b)), ((a 2), .inl ((k 1), 64, .inl x)), ((a 3), .inl ((k 2), 2, .inl pcs)), ((a 4), .inl ((k 3), 2, .inl lv)), ((a 5), .inl ((k 4), 8192, .inl cs_19)), ((a 6), .inl ((k 5), 2, .inl cl)), ((a 7), .inl ((k 6), 2, .inr (.inl cm))), ((a 8), .inl ((k 7), 2, .inl so)), ((a 9), .inl ((k 8), 256, .inl pu))]) (W2 := fun _ => wR a k n h ca tv nx pcs lv cs_19 x b cl cm so ti pu np) (xS (rest := [.ref (a 0)]) ⟨hx, hb, hml, hown, hts⟩ (c_Model_field x0 7 5) mw_Model_field ms_Model_field k_787 ⟨rfl, rfl, Nat.le_of_ble_eq_true rfl, Nat.le_of_ble_eq_true rfl⟩ hK hP hD hS hA hF [] [] rfl rfl rfl rfl hl.1 rfl (Nat.le_of_ble_eq_true rfl) d_Model_csrs_177 ⟨Nat.zero_le _, Nat.zero_le _⟩) hP hD hS hA [] [0, 1, 2, 3, 4, 5, 6, 7, 8, 9] [0, 1, 2, 3, 4, 5, 6, 7, 8, 9] rfl rfl rfl (by decide) (fun _ => rfl) rfl (fun r_20 _ H locs h_20 hP hD hS => ?_)
              subst h_20
              refine lv_iload hx hb d_Model_csrs_180 (lv_at hl 0 rfl) ?_
              refine xv (wr := []) (W2 := fun u9 => wR a k n h ca tv nx pcs lv cs_19 u9 b cl cm so ti pu np) (xV (rest := []) ⟨hx, hb, hml, hown, hts⟩ (c_Model_setReg a k n (sp_Model_field x0 7 5) (sp_Model_read h (sp_Model_field x0 20 12) cs cm so ti) h ca tv nx pcs lv cs_19 x b cl cm so ti pu np hn hh (vp_f5 _ _)) mw_Model_setReg mv_Model_setReg k_790 ⟨rfl, rfl, Nat.le_of_ble_eq_true rfl, Nat.le_of_ble_eq_true rfl⟩ hK hP hD hS hA hF [0, 1, 2, 3, 4, 5, 6, 7, 8, 9] [0, 1, 2, 3, 4, 5, 6, 7, 8] rfl rfl rfl 0 5 rfl rfl rfl rfl hl.1 rfl (Nat.le_of_ble_eq_true rfl) d_Model_csrs_182 ⟨Nat.zero_le _, Nat.zero_le _⟩) hP hD hS hA [0, 1, 2, 3, 4, 5, 6, 7, 8, 9] [] [0, 1, 2, 3, 4, 5, 6, 7, 8, 9] rfl rfl rfl (by decide) (fun _ => rfl) rfl (fun u_21 H locs h_21 hP hD hS => ?_)
              obtain ⟨x_21, e_21⟩ : ∃ z, z = u_21 := ⟨_, rfl⟩
              subst e_21
              exact rv (ca, tv, cs_19, x_21) hx hb hr hlocks hP hD hS d_Model_csrs_185 (by simp only [sp_Model_csrs, h_19, h_21, if_pos c_4, if_neg c_5, if_neg c_8, if_neg c_10, if_neg c_13, if_pos c_14])
            · refine lv_iload hx hb d_Model_csrs_100 (lv_at hl 1 rfl) ?_
              refine lv_goto (tgt := 111) hx hb d_Model_csrs_102 (by decide) ?_
              refine lv_istore (lv' := [(6, .int (sp_Model_field x0 15 5)), (5, .int 1), (4, .int (sp_Model_field x0 15 5)), (3, .int (sp_Model_field x0 20 12)), (2, .int (sp_Model_field x0 12 3)), (0, .ref (a 0)), (1, .int x0)]) hx hb d_Model_csrs_111 hl (by decide) rfl (fun ls hl => ?_)
              refine lv_aload_n hx hb d_Model_csrs_113 rfl (lv_at hl 5 rfl) ?_
              refine lv_aload_n hx hb d_Model_csrs_114 rfl (lv_at hl 5 rfl) ?_
              refine va_get (D := D) (ci := 5) (v := .int h) (C := R_Model) (T := F_Model) (N := 16) hx hb hts i_Model hown hK hP 0 rfl rfl 12 (by decide) (hts _ k_637) (fun _ h9 => h9) rfl d_Model_csrs_115 ?_
              refine lv_iload_n hx hb d_Model_csrs_118 rfl (lv_at hl 3 rfl) ?_
              refine xi (wr := []) (W2 := fun _ => wR a k n h ca tv nx pcs lv cs x b cl cm so ti pu np) (xV (rest := []) ⟨hx, hb, hml, hown, hts⟩ (c_Model_read a k n h (sp_Model_field x0 20 12) h ca tv nx pcs lv cs x b cl cm so ti pu np hn hh (vp_f12 _)) mw_Model_read mv_Model_read k_709 ⟨rfl, rfl, Nat.le_of_ble_eq_true rfl, Nat.le_of_ble_eq_true rfl⟩ hK hP hD hS hA hF [0, 1, 2, 3, 4, 5, 6, 7, 8, 9] [0, 1, 2, 3, 4, 5, 6, 7, 8] rfl rfl rfl 0 5 rfl rfl rfl rfl hl.1 rfl (Nat.le_of_ble_eq_true rfl) d_Model_csrs_119 ⟨Nat.zero_le _, Nat.zero_le _⟩) hP hD hS hA [0, 1, 2, 3, 4, 5, 6, 7, 8, 9] [] [0, 1, 2, 3, 4, 5, 6, 7, 8, 9] rfl rfl rfl (by decide) (fun _ => rfl) rfl (fun r_22 _ H locs h_22 hP hD hS => ?_)
              subst h_22
              refine lv_istore (lv' := [(7, .int (sp_Model_read h (sp_Model_field x0 20 12) cs cm so ti)), (6, .int (sp_Model_field x0 15 5)), (5, .int 1), (4, .int (sp_Model_field x0 15 5)), (3, .int (sp_Model_field x0 20 12)), (2, .int (sp_Model_field x0 12 3)), (0, .ref (a 0)), (1, .int x0)]) hx hb d_Model_csrs_122 hl (by decide) rfl (fun ls hl => ?_)
              refine lv_iload hx hb d_Model_csrs_124 (lv_at hl 2 rfl) ?_
              refine lv_if_eq (tgt := 172) hx hb d_Model_csrs_126 (by decide) (fun h9 => absurd h9 (by decide)) (fun _ => ?_)
              refine lv_aload_n hx hb d_Model_csrs_129 rfl (lv_at hl 6 rfl) ?_
              refine lv_aload_n hx hb d_Model_csrs_130 rfl (lv_at hl 6 rfl) ?_
              refine va_get (D := D) (ci := 5) (v := .int h) (C := R_Model) (T := F_Model) (N := 16) hx hb hts i_Model hown hK hP 0 rfl rfl 12 (by decide) (hts _ k_637) (fun _ h9 => h9) rfl d_Model_csrs_131 ?_
              refine lv_iload_n hx hb d_Model_csrs_134 rfl (lv_at hl 4 rfl) ?_
              refine lv_iload_n hx hb d_Model_csrs_135 rfl (lv_at hl 5 rfl) ?_
              refine lv_iconst (v := 3) hx hb d_Model_csrs_136 rfl ?_
              refine lv_iand hx hb d_Model_csrs_137 ?_
              refine lv_iconst (v := 1) hx hb d_Model_csrs_138 rfl ?_
              refine lv_icmp_ne (tgt := 147) hx hb d_Model_csrs_139 (by decide) (fun h9 => absurd c_4 h9) (fun _ => ?_)
              refine lv_iload hx hb d_Model_csrs_142 (lv_at hl 1 rfl) ?_
              refine lv_goto (tgt := 169) hx hb d_Model_csrs_144 (by decide) ?_
              refine xv (wr := []) (W2 := fun u9 => wR a k n h ca tv nx pcs lv u9 x b cl cm so ti pu np) (xV (rest := []) ⟨hx, hb, hml, hown, hts⟩ (c_Model_write a k n h (sp_Model_field x0 20 12) (sp_Model_field x0 15 5) h ca tv nx pcs lv cs x b cl cm so ti pu np hn hh (vp_f12 _)) mw_Model_write mv_Model_write k_896 ⟨rfl, rfl, Nat.le_of_ble_eq_true rfl, Nat.le_of_ble_eq_true rfl⟩ hK hP hD hS hA hF [0, 1, 2, 3, 4, 5, 6, 7, 8, 9] [0, 1, 2, 3, 4, 5, 6, 7, 8] rfl rfl rfl 0 5 rfl rfl rfl rfl hl.1 rfl (Nat.le_of_ble_eq_true rfl) d_Model_csrs_169 ⟨Nat.zero_le _, Nat.zero_le _⟩) hP hD hS hA [0, 1, 2, 3, 4, 5, 6, 7, 8, 9] [] [0, 1, 2, 3, 4, 5, 6, 7, 8, 9] rfl rfl rfl (by decide) (fun _ => rfl) rfl (fun u_25 H locs h_25 hP hD hS => ?_)
              obtain ⟨cs_25, e_25⟩ : ∃ z, z = u_25 := ⟨_, rfl⟩
              subst e_25
              refine lv_aload_n hx hb d_Model_csrs_172 rfl (lv_at hl 6 rfl) ?_
              refine lv_iload_n hx hb d_Model_csrs_173 rfl (lv_at hl 7 rfl) ?_
              refine lv_bipush (v := 7) hx hb d_Model_csrs_174 rfl ?_
              refine lv_iconst (v := 5) hx hb d_Model_csrs_176 rfl ?_
              refine xi (wr := [((a 0), .inr (5, [.int (nI n), .ref (a 1), .ref (a 2), .ref (a 3), .ref (a 4), .ref (a 5), .ref (a 6), .ref (a 7), .ref (a 8), .long ti, .ref (a 9), .int np, .int h, .int ca, .int tv, .int nx])), ((a 1), .inl ((k 0), 16384, .inl b)), ((a 2), .inl ((k 1), 64, .inl x)), ((a 3), .inl ((k 2), 2, .inl pcs)), ((a 4), .inl ((k 3), 2, .inl lv)), ((a 5), .inl ((k 4), 8192, .inl cs_25)), ((a 6), .inl ((k 5), 2, .inl cl)), ((a 7), .inl ((k 6), 2, .inr (.inl cm))), ((a 8), .inl ((k 7), 2, .inl so)), ((a 9), .inl ((k 8), 256, .inl pu))]) (W2 := fun _ => wR a k n h ca tv nx pcs lv cs_25 x b cl cm so ti pu np) (xS (rest := [.ref (a 0)]) ⟨hx, hb, hml, hown, hts⟩ (c_Model_field x0 7 5) mw_Model_field ms_Model_field k_787 ⟨rfl, rfl, Nat.le_of_ble_eq_true rfl, Nat.le_of_ble_eq_true rfl⟩ hK hP hD hS hA hF [] [] rfl rfl rfl rfl hl.1 rfl (Nat.le_of_ble_eq_true rfl) d_Model_csrs_177 ⟨Nat.zero_le _, Nat.zero_le _⟩) hP hD hS hA [] [0, 1, 2, 3, 4, 5, 6, 7, 8, 9] [0, 1, 2, 3, 4, 5, 6, 7, 8, 9] rfl rfl rfl (by decide) (fun _ => rfl) rfl (fun r_26 _ H locs h_26 hP hD hS => ?_)
              subst h_26
              refine lv_iload hx hb d_Model_csrs_180 (lv_at hl 0 rfl) ?_
              refine xv (wr := []) (W2 := fun u9 => wR a k n h ca tv nx pcs lv cs_25 u9 b cl cm so ti pu np) (xV (rest := []) ⟨hx, hb, hml, hown, hts⟩ (c_Model_setReg a k n (sp_Model_field x0 7 5) (sp_Model_read h (sp_Model_field x0 20 12) cs cm so ti) h ca tv nx pcs lv cs_25 x b cl cm so ti pu np hn hh (vp_f5 _ _)) mw_Model_setReg mv_Model_setReg k_790 ⟨rfl, rfl, Nat.le_of_ble_eq_true rfl, Nat.le_of_ble_eq_true rfl⟩ hK hP hD hS hA hF [0, 1, 2, 3, 4, 5, 6, 7, 8, 9] [0, 1, 2, 3, 4, 5, 6, 7, 8] rfl rfl rfl 0 5 rfl rfl rfl rfl hl.1 rfl (Nat.le_of_ble_eq_true rfl) d_Model_csrs_182 ⟨Nat.zero_le _, Nat.zero_le _⟩) hP hD hS hA [0, 1, 2, 3, 4, 5, 6, 7, 8, 9] [] [0, 1, 2, 3, 4, 5, 6, 7, 8, 9] rfl rfl rfl (by decide) (fun _ => rfl) rfl (fun u_27 H locs h_27 hP hD hS => ?_)
              obtain ⟨x_27, e_27⟩ : ∃ z, z = u_27 := ⟨_, rfl⟩
              subst e_27
              exact rv (ca, tv, cs_25, x_27) hx hb hr hlocks hP hD hS d_Model_csrs_185 (by simp only [sp_Model_csrs, h_25, h_27, if_pos c_4, if_neg c_5, if_neg c_8, if_neg c_10, if_neg c_13, if_neg c_14])
          · refine lv_aload_n hx hb d_Model_csrs_88 rfl (lv_at hl 4 rfl) ?_
            refine lv_iconst (v := 2) hx hb d_Model_csrs_89 rfl ?_
            refine lv_iload_n hx hb d_Model_csrs_90 rfl (lv_at hl 5 rfl) ?_
            refine xv (wr := []) (W2 := fun u9 => wR a k n h u9.1 u9.2 nx pcs lv cs x b cl cm so ti pu np) (xV (rest := []) ⟨hx, hb, hml, hown, hts⟩ (c_Model_trap a k n 2 x0 h ca tv nx pcs lv cs x b cl cm so ti pu np hn) mw_Model_trap mv_Model_trap k_763 ⟨rfl, rfl, Nat.le_of_ble_eq_true rfl, Nat.le_of_ble_eq_true rfl⟩ hK hP hD hS hA hF [0, 1, 2, 3, 4, 5, 6, 7, 8, 9] [0, 1, 2, 3, 4, 5, 6, 7, 8] rfl rfl rfl 0 5 rfl rfl rfl rfl hl.1 rfl (Nat.le_of_ble_eq_true rfl) d_Model_csrs_91 ⟨Nat.zero_le _, Nat.zero_le _⟩) hP hD hS hA [0, 1, 2, 3, 4, 5, 6, 7, 8, 9] [] [0, 1, 2, 3, 4, 5, 6, 7, 8, 9] rfl rfl rfl (by decide) (fun _ => rfl) rfl (fun u_28 H locs h_28 hP hD hS => ?_)
            obtain ⟨ca_28, tv_28⟩ := u_28
            dsimp only at hP hD
            exact rv (ca_28, tv_28, cs, x) hx hb hr hlocks hP hD hS d_Model_csrs_94 (by simp only [sp_Model_csrs, h_28, if_pos c_4, if_neg c_5, if_neg c_8, if_neg c_10, if_pos c_13])
  · refine lv_iload hx hb d_Model_csrs_33 (lv_at hl 0 rfl) ?_
    refine lv_if_eq (tgt := 42) hx hb d_Model_csrs_35 (by decide) (fun c_29 => ?_) (fun c_29 => ?_)
    · refine lv_iconst (v := 0) hx hb d_Model_csrs_42 rfl ?_
      refine lv_istore (lv' := [(5, .int 0), (4, .int (sp_Model_field x0 15 5)), (3, .int (sp_Model_field x0 20 12)), (2, .int (sp_Model_field x0 12 3)), (0, .ref (a 0)), (1, .int x0)]) hx hb d_Model_csrs_43 hl (by decide) rfl (fun ls hl => ?_)
      refine lv_iload_n hx hb d_Model_csrs_45 rfl (lv_at hl 3 rfl) ?_
      refine lv_iconst (v := 4) hx hb d_Model_csrs_46 rfl ?_
      refine lv_icmp_eq (tgt := 88) hx hb d_Model_csrs_47 (by decide) (fun c_30 => ?_) (fun c_30 => ?_)
      · refine lv_aload_n hx hb d_Model_csrs_88 rfl (lv_at hl 4 rfl) ?_
        refine lv_iconst (v := 2) hx hb d_Model_csrs_89 rfl ?_
        refine lv_iload_n hx hb d_Model_csrs_90 rfl (lv_at hl 5 rfl) ?_
        refine xv (wr := []) (W2 := fun u9 => wR a k n h u9.1 u9.2 nx pcs lv cs x b cl cm so ti pu np) (xV (rest := []) ⟨hx, hb, hml, hown, hts⟩ (c_Model_trap a k n 2 x0 h ca tv nx pcs lv cs x b cl cm so ti pu np hn) mw_Model_trap mv_Model_trap k_763 ⟨rfl, rfl, Nat.le_of_ble_eq_true rfl, Nat.le_of_ble_eq_true rfl⟩ hK hP hD hS hA hF [0, 1, 2, 3, 4, 5, 6, 7, 8, 9] [0, 1, 2, 3, 4, 5, 6, 7, 8] rfl rfl rfl 0 5 rfl rfl rfl rfl hl.1 rfl (Nat.le_of_ble_eq_true rfl) d_Model_csrs_91 ⟨Nat.zero_le _, Nat.zero_le _⟩) hP hD hS hA [0, 1, 2, 3, 4, 5, 6, 7, 8, 9] [] [0, 1, 2, 3, 4, 5, 6, 7, 8, 9] rfl rfl rfl (by decide) (fun _ => rfl) rfl (fun u_31 H locs h_31 hP hD hS => ?_)
        obtain ⟨ca_31, tv_31⟩ := u_31
        dsimp only at hP hD
        exact rv (ca_31, tv_31, cs, x) hx hb hr hlocks hP hD hS d_Model_csrs_94 (by simp only [sp_Model_csrs, h_31, if_neg c_4, if_pos c_29, if_pos c_30])
      · refine lv_iload_n hx hb d_Model_csrs_50 rfl (lv_at hl 2 rfl) ?_
        refine xi (wr := [((a 0), .inr (5, [.int (nI n), .ref (a 1), .ref (a 2), .ref (a 3), .ref (a 4), .ref (a 5), .ref (a 6), .ref (a 7), .ref (a 8), .long ti, .ref (a 9), .int np, .int h, .int ca, .int tv, .int nx])), ((a 1), .inl ((k 0), 16384, .inl b)), ((a 2), .inl ((k 1), 64, .inl x)), ((a 3), .inl ((k 2), 2, .inl pcs)), ((a 4), .inl ((k 3), 2, .inl lv)), ((a 5), .inl ((k 4), 8192, .inl cs)), ((a 6), .inl ((k 5), 2, .inl cl)), ((a 7), .inl ((k 6), 2, .inr (.inl cm))), ((a 8), .inl ((k 7), 2, .inl so)), ((a 9), .inl ((k 8), 256, .inl pu))]) (W2 := fun _ => wR a k n h ca tv nx pcs lv cs x b cl cm so ti pu np) (xS (rest := []) ⟨hx, hb, hml, hown, hts⟩ (c_Model_isCsr (sp_Model_field x0 20 12)) mw_Model_isCsr ms_Model_isCsr k_893 ⟨rfl, rfl, Nat.le_of_ble_eq_true rfl, Nat.le_of_ble_eq_true rfl⟩ hK hP hD hS hA hF [] [] rfl rfl rfl rfl hl.1 rfl (Nat.le_of_ble_eq_true rfl) d_Model_csrs_51 ⟨Nat.zero_le _, Nat.zero_le _⟩) hP hD hS hA [] [0, 1, 2, 3, 4, 5, 6, 7, 8, 9] [0, 1, 2, 3, 4, 5, 6, 7, 8, 9] rfl rfl rfl (by decide) (fun _ => rfl) rfl (fun r_32 _ H locs h_32 hP hD hS => ?_)
        obtain ⟨h_32, z_32⟩ := h_32
        subst h_32
        refine lv_if_eq (tgt := 88) hx hb d_Model_csrs_54 (by decide) (fun c_33 => ?_) (fun c_33 => ?_)
        · refine lv_aload_n hx hb d_Model_csrs_88 rfl (lv_at hl 4 rfl) ?_
          refine lv_iconst (v := 2) hx hb d_Model_csrs_89 rfl ?_
          refine lv_iload_n hx hb d_Model_csrs_90 rfl (lv_at hl 5 rfl) ?_
          refine xv (wr := []) (W2 := fun u9 => wR a k n h u9.1 u9.2 nx pcs lv cs x b cl cm so ti pu np) (xV (rest := []) ⟨hx, hb, hml, hown, hts⟩ (c_Model_trap a k n 2 x0 h ca tv nx pcs lv cs x b cl cm so ti pu np hn) mw_Model_trap mv_Model_trap k_763 ⟨rfl, rfl, Nat.le_of_ble_eq_true rfl, Nat.le_of_ble_eq_true rfl⟩ hK hP hD hS hA hF [0, 1, 2, 3, 4, 5, 6, 7, 8, 9] [0, 1, 2, 3, 4, 5, 6, 7, 8] rfl rfl rfl 0 5 rfl rfl rfl rfl hl.1 rfl (Nat.le_of_ble_eq_true rfl) d_Model_csrs_91 ⟨Nat.zero_le _, Nat.zero_le _⟩) hP hD hS hA [0, 1, 2, 3, 4, 5, 6, 7, 8, 9] [] [0, 1, 2, 3, 4, 5, 6, 7, 8, 9] rfl rfl rfl (by decide) (fun _ => rfl) rfl (fun u_34 H locs h_34 hP hD hS => ?_)
          obtain ⟨ca_34, tv_34⟩ := u_34
          dsimp only at hP hD
          exact rv (ca_34, tv_34, cs, x) hx hb hr hlocks hP hD hS d_Model_csrs_94 (by simp only [sp_Model_csrs, h_34, if_neg c_4, if_pos c_29, if_neg c_30, if_pos c_33])
        · refine lv_aload_n hx hb d_Model_csrs_57 rfl (lv_at hl 4 rfl) ?_
          refine va_get (D := D) (ci := 5) (v := .ref (a 4)) (C := R_Model) (T := F_Model) (N := 16) hx hb hts i_Model hown hK hP 0 rfl rfl 4 (by decide) (hts _ k_629) (fun _ h9 => h9) rfl d_Model_csrs_58 ?_
          refine lv_aload_n hx hb d_Model_csrs_61 rfl (lv_at hl 4 rfl) ?_
          refine va_get (D := D) (ci := 5) (v := .int h) (C := R_Model) (T := F_Model) (N := 16) hx hb hts i_Model hown hK hP 0 rfl rfl 12 (by decide) (hts _ k_637) (fun _ h9 => h9) rfl d_Model_csrs_62 ?_
          refine y_iald (v := lv h.toNatClampNeg) hx hb hK hP 4 3 rfl rfl (vp_01 hh (by decide)) rfl d_Model_csrs_65 ?_
          refine lv_iload_n hx hb d_Model_csrs_66 rfl (lv_at hl 2 rfl) ?_
          refine lv_bipush (v := 8) hx hb d_Model_csrs_67 rfl ?_
          refine y_ishr hx hb d_Model_csrs_69 ?_
          refine lv_iconst (v := 3) hx hb d_Model_csrs_70 rfl ?_
          refine lv_iand hx hb d_Model_csrs_71 ?_
          refine lv_icmp_lt (tgt := 88) hx hb d_Model_csrs_72 (by decide) (fun c_35 => ?_) (fun c_35 => ?_)
          · refine lv_aload_n hx hb d_Model_csrs_88 rfl (lv_at hl 4 rfl) ?_
            refine lv_iconst (v := 2) hx hb d_Model_csrs_89 rfl ?_
            refine lv_iload_n hx hb d_Model_csrs_90 rfl (lv_at hl 5 rfl) ?_
            refine xv (wr := []) (W2 := fun u9 => wR a k n h u9.1 u9.2 nx pcs lv cs x b cl cm so ti pu np) (xV (rest := []) ⟨hx, hb, hml, hown, hts⟩ (c_Model_trap a k n 2 x0 h ca tv nx pcs lv cs x b cl cm so ti pu np hn) mw_Model_trap mv_Model_trap k_763 ⟨rfl, rfl, Nat.le_of_ble_eq_true rfl, Nat.le_of_ble_eq_true rfl⟩ hK hP hD hS hA hF [0, 1, 2, 3, 4, 5, 6, 7, 8, 9] [0, 1, 2, 3, 4, 5, 6, 7, 8] rfl rfl rfl 0 5 rfl rfl rfl rfl hl.1 rfl (Nat.le_of_ble_eq_true rfl) d_Model_csrs_91 ⟨Nat.zero_le _, Nat.zero_le _⟩) hP hD hS hA [0, 1, 2, 3, 4, 5, 6, 7, 8, 9] [] [0, 1, 2, 3, 4, 5, 6, 7, 8, 9] rfl rfl rfl (by decide) (fun _ => rfl) rfl (fun u_36 H locs h_36 hP hD hS => ?_)
            obtain ⟨ca_36, tv_36⟩ := u_36
            dsimp only at hP hD
            exact rv (ca_36, tv_36, cs, x) hx hb hr hlocks hP hD hS d_Model_csrs_94 (by simp only [sp_Model_csrs, h_36, if_neg c_4, if_pos c_29, if_neg c_30, if_neg c_33, if_pos c_35])
          · refine lv_iload hx hb d_Model_csrs_75 (lv_at hl 0 rfl) ?_
            refine lv_if_eq (tgt := 95) hx hb d_Model_csrs_77 (by decide) (fun _ => ?_) (fun h9 => absurd (by decide) h9)
            refine lv_iload_n hx hb d_Model_csrs_95 rfl (lv_at hl 3 rfl) ?_
            refine lv_iconst (v := 4) hx hb d_Model_csrs_96 rfl ?_
            refine lv_icmp_le (tgt := 105) hx hb d_Model_csrs_97 (by decide) (fun c_38 => ?_) (fun c_38 => ?_)
            · refine lv_aload_n hx hb d_Model_csrs_105 rfl (lv_at hl 4 rfl) ?_
              refine lv_iload hx hb d_Model_csrs_106 (lv_at hl 1 rfl) ?_
              refine xi (wr := []) (W2 := fun _ => wR a k n h ca tv nx pcs lv cs x b cl cm so ti pu np) (xV (rest := []) ⟨hx, hb, hml, hown, hts⟩ (c_Model_reg a k n (sp_Model_field x0 15 5) h ca tv nx pcs lv cs x b cl cm so ti pu np hn hh (vp_f5 _ _)) mw_Model_reg mv_Model_reg k_802 ⟨rfl, rfl, Nat.le_of_ble_eq_true rfl, Nat.le_of_ble_eq_true rfl⟩ hK hP hD hS hA hF [0, 1, 2, 3, 4, 5, 6, 7, 8, 9] [0, 1, 2, 3, 4, 5, 6, 7, 8] rfl rfl rfl 0 5 rfl rfl rfl rfl hl.1 rfl (Nat.le_of_ble_eq_true rfl) d_Model_csrs_108 ⟨Nat.zero_le _, Nat.zero_le _⟩) hP hD hS hA [0, 1, 2, 3, 4, 5, 6, 7, 8, 9] [] [0, 1, 2, 3, 4, 5, 6, 7, 8, 9] rfl rfl rfl (by decide) (fun _ => rfl) rfl (fun r_39 _ H locs h_39 hP hD hS => ?_)
              subst h_39
              refine lv_istore (lv' := [(6, .int (sp_Model_reg (sp_Model_field x0 15 5) h x)), (5, .int 0), (4, .int (sp_Model_field x0 15 5)), (3, .int (sp_Model_field x0 20 12)), (2, .int (sp_Model_field x0 12 3)), (0, .ref (a 0)), (1, .int x0)]) hx hb d_Model_csrs_111 hl (by decide) rfl (fun ls hl => ?_)
              refine lv_aload_n hx hb d_Model_csrs_113 rfl (lv_at hl 5 rfl) ?_
              refine lv_aload_n hx hb d_Model_csrs_114 rfl (lv_at hl 5 rfl) ?_
              refine va_get (D := D) (ci := 5) (v := .int h) (C := R_Model) (T := F_Model) (N := 16) hx hb hts i_Model hown hK hP 0 rfl rfl 12 (by decide) (hts _ k_637) (fun _ h9 => h9) rfl d_Model_csrs_115 ?_
              refine lv_iload_n hx hb d_Model_csrs_118 rfl (lv_at hl 3 rfl) ?_
              refine xi (wr := []) (W2 := fun _ => wR a k n h ca tv nx pcs lv cs x b cl cm so ti pu np) (xV (rest := []) ⟨hx, hb, hml, hown, hts⟩ (c_Model_read a k n h (sp_Model_field x0 20 12) h ca tv nx pcs lv cs x b cl cm so ti pu np hn hh (vp_f12 _)) mw_Model_read mv_Model_read k_709 ⟨rfl, rfl, Nat.le_of_ble_eq_true rfl, Nat.le_of_ble_eq_true rfl⟩ hK hP hD hS hA hF [0, 1, 2, 3, 4, 5, 6, 7, 8, 9] [0, 1, 2, 3, 4, 5, 6, 7, 8] rfl rfl rfl 0 5 rfl rfl rfl rfl hl.1 rfl (Nat.le_of_ble_eq_true rfl) d_Model_csrs_119 ⟨Nat.zero_le _, Nat.zero_le _⟩) hP hD hS hA [0, 1, 2, 3, 4, 5, 6, 7, 8, 9] [] [0, 1, 2, 3, 4, 5, 6, 7, 8, 9] rfl rfl rfl (by decide) (fun _ => rfl) rfl (fun r_40 _ H locs h_40 hP hD hS => ?_)
              subst h_40
              refine lv_istore (lv' := [(7, .int (sp_Model_read h (sp_Model_field x0 20 12) cs cm so ti)), (6, .int (sp_Model_reg (sp_Model_field x0 15 5) h x)), (5, .int 0), (4, .int (sp_Model_field x0 15 5)), (3, .int (sp_Model_field x0 20 12)), (2, .int (sp_Model_field x0 12 3)), (0, .ref (a 0)), (1, .int x0)]) hx hb d_Model_csrs_122 hl (by decide) rfl (fun ls hl => ?_)
              refine lv_iload hx hb d_Model_csrs_124 (lv_at hl 2 rfl) ?_
              refine lv_if_eq (tgt := 172) hx hb d_Model_csrs_126 (by decide) (fun _ => ?_) (fun h9 => absurd (by decide) h9)
              refine lv_aload_n hx hb d_Model_csrs_172 rfl (lv_at hl 6 rfl) ?_
              refine lv_iload_n hx hb d_Model_csrs_173 rfl (lv_at hl 7 rfl) ?_
              refine lv_bipush (v := 7) hx hb d_Model_csrs_174 rfl ?_
              refine lv_iconst (v := 5) hx hb d_Model_csrs_176 rfl ?_
              refine xi (wr := [((a 0), .inr (5, [.int (nI n), .ref (a 1), .ref (a 2), .ref (a 3), .ref (a 4), .ref (a 5), .ref (a 6), .ref (a 7), .ref (a 8), .long ti, .ref (a 9), .int np, .int h, .int ca, .int tv, .int nx])), ((a 1), .inl ((k 0), 16384, .inl b)), ((a 2), .inl ((k 1), 64, .inl x)), ((a 3), .inl ((k 2), 2, .inl pcs)), ((a 4), .inl ((k 3), 2, .inl lv)), ((a 5), .inl ((k 4), 8192, .inl cs)), ((a 6), .inl ((k 5), 2, .inl cl)), ((a 7), .inl ((k 6), 2, .inr (.inl cm))), ((a 8), .inl ((k 7), 2, .inl so)), ((a 9), .inl ((k 8), 256, .inl pu))]) (W2 := fun _ => wR a k n h ca tv nx pcs lv cs x b cl cm so ti pu np) (xS (rest := [.ref (a 0)]) ⟨hx, hb, hml, hown, hts⟩ (c_Model_field x0 7 5) mw_Model_field ms_Model_field k_787 ⟨rfl, rfl, Nat.le_of_ble_eq_true rfl, Nat.le_of_ble_eq_true rfl⟩ hK hP hD hS hA hF [] [] rfl rfl rfl rfl hl.1 rfl (Nat.le_of_ble_eq_true rfl) d_Model_csrs_177 ⟨Nat.zero_le _, Nat.zero_le _⟩) hP hD hS hA [] [0, 1, 2, 3, 4, 5, 6, 7, 8, 9] [0, 1, 2, 3, 4, 5, 6, 7, 8, 9] rfl rfl rfl (by decide) (fun _ => rfl) rfl (fun r_42 _ H locs h_42 hP hD hS => ?_)
              subst h_42
              refine lv_iload hx hb d_Model_csrs_180 (lv_at hl 0 rfl) ?_
              refine xv (wr := []) (W2 := fun u9 => wR a k n h ca tv nx pcs lv cs u9 b cl cm so ti pu np) (xV (rest := []) ⟨hx, hb, hml, hown, hts⟩ (c_Model_setReg a k n (sp_Model_field x0 7 5) (sp_Model_read h (sp_Model_field x0 20 12) cs cm so ti) h ca tv nx pcs lv cs x b cl cm so ti pu np hn hh (vp_f5 _ _)) mw_Model_setReg mv_Model_setReg k_790 ⟨rfl, rfl, Nat.le_of_ble_eq_true rfl, Nat.le_of_ble_eq_true rfl⟩ hK hP hD hS hA hF [0, 1, 2, 3, 4, 5, 6, 7, 8, 9] [0, 1, 2, 3, 4, 5, 6, 7, 8] rfl rfl rfl 0 5 rfl rfl rfl rfl hl.1 rfl (Nat.le_of_ble_eq_true rfl) d_Model_csrs_182 ⟨Nat.zero_le _, Nat.zero_le _⟩) hP hD hS hA [0, 1, 2, 3, 4, 5, 6, 7, 8, 9] [] [0, 1, 2, 3, 4, 5, 6, 7, 8, 9] rfl rfl rfl (by decide) (fun _ => rfl) rfl (fun u_43 H locs h_43 hP hD hS => ?_)
              obtain ⟨x_43, e_43⟩ : ∃ z, z = u_43 := ⟨_, rfl⟩
              subst e_43
              exact rv (ca, tv, cs, x_43) hx hb hr hlocks hP hD hS d_Model_csrs_185 (by simp only [sp_Model_csrs, h_43, if_neg c_4, if_pos c_29, if_neg c_30, if_neg c_33, if_neg c_35, if_pos c_38])
            · refine lv_iload hx hb d_Model_csrs_100 (lv_at hl 1 rfl) ?_
              refine lv_goto (tgt := 111) hx hb d_Model_csrs_102 (by decide) ?_
              refine lv_istore (lv' := [(6, .int (sp_Model_field x0 15 5)), (5, .int 0), (4, .int (sp_Model_field x0 15 5)), (3, .int (sp_Model_field x0 20 12)), (2, .int (sp_Model_field x0 12 3)), (0, .ref (a 0)), (1, .int x0)]) hx hb d_Model_csrs_111 hl (by decide) rfl (fun ls hl => ?_)
              refine lv_aload_n hx hb d_Model_csrs_113 rfl (lv_at hl 5 rfl) ?_
              refine lv_aload_n hx hb d_Model_csrs_114 rfl (lv_at hl 5 rfl) ?_
              refine va_get (D := D) (ci := 5) (v := .int h) (C := R_Model) (T := F_Model) (N := 16) hx hb hts i_Model hown hK hP 0 rfl rfl 12 (by decide) (hts _ k_637) (fun _ h9 => h9) rfl d_Model_csrs_115 ?_
              refine lv_iload_n hx hb d_Model_csrs_118 rfl (lv_at hl 3 rfl) ?_
              refine xi (wr := []) (W2 := fun _ => wR a k n h ca tv nx pcs lv cs x b cl cm so ti pu np) (xV (rest := []) ⟨hx, hb, hml, hown, hts⟩ (c_Model_read a k n h (sp_Model_field x0 20 12) h ca tv nx pcs lv cs x b cl cm so ti pu np hn hh (vp_f12 _)) mw_Model_read mv_Model_read k_709 ⟨rfl, rfl, Nat.le_of_ble_eq_true rfl, Nat.le_of_ble_eq_true rfl⟩ hK hP hD hS hA hF [0, 1, 2, 3, 4, 5, 6, 7, 8, 9] [0, 1, 2, 3, 4, 5, 6, 7, 8] rfl rfl rfl 0 5 rfl rfl rfl rfl hl.1 rfl (Nat.le_of_ble_eq_true rfl) d_Model_csrs_119 ⟨Nat.zero_le _, Nat.zero_le _⟩) hP hD hS hA [0, 1, 2, 3, 4, 5, 6, 7, 8, 9] [] [0, 1, 2, 3, 4, 5, 6, 7, 8, 9] rfl rfl rfl (by decide) (fun _ => rfl) rfl (fun r_44 _ H locs h_44 hP hD hS => ?_)
              subst h_44
              refine lv_istore (lv' := [(7, .int (sp_Model_read h (sp_Model_field x0 20 12) cs cm so ti)), (6, .int (sp_Model_field x0 15 5)), (5, .int 0), (4, .int (sp_Model_field x0 15 5)), (3, .int (sp_Model_field x0 20 12)), (2, .int (sp_Model_field x0 12 3)), (0, .ref (a 0)), (1, .int x0)]) hx hb d_Model_csrs_122 hl (by decide) rfl (fun ls hl => ?_)
              refine lv_iload hx hb d_Model_csrs_124 (lv_at hl 2 rfl) ?_
              refine lv_if_eq (tgt := 172) hx hb d_Model_csrs_126 (by decide) (fun _ => ?_) (fun h9 => absurd (by decide) h9)
              refine lv_aload_n hx hb d_Model_csrs_172 rfl (lv_at hl 6 rfl) ?_
              refine lv_iload_n hx hb d_Model_csrs_173 rfl (lv_at hl 7 rfl) ?_
              refine lv_bipush (v := 7) hx hb d_Model_csrs_174 rfl ?_
              refine lv_iconst (v := 5) hx hb d_Model_csrs_176 rfl ?_
              refine xi (wr := [((a 0), .inr (5, [.int (nI n), .ref (a 1), .ref (a 2), .ref (a 3), .ref (a 4), .ref (a 5), .ref (a 6), .ref (a 7), .ref (a 8), .long ti, .ref (a 9), .int np, .int h, .int ca, .int tv, .int nx])), ((a 1), .inl ((k 0), 16384, .inl b)), ((a 2), .inl ((k 1), 64, .inl x)), ((a 3), .inl ((k 2), 2, .inl pcs)), ((a 4), .inl ((k 3), 2, .inl lv)), ((a 5), .inl ((k 4), 8192, .inl cs)), ((a 6), .inl ((k 5), 2, .inl cl)), ((a 7), .inl ((k 6), 2, .inr (.inl cm))), ((a 8), .inl ((k 7), 2, .inl so)), ((a 9), .inl ((k 8), 256, .inl pu))]) (W2 := fun _ => wR a k n h ca tv nx pcs lv cs x b cl cm so ti pu np) (xS (rest := [.ref (a 0)]) ⟨hx, hb, hml, hown, hts⟩ (c_Model_field x0 7 5) mw_Model_field ms_Model_field k_787 ⟨rfl, rfl, Nat.le_of_ble_eq_true rfl, Nat.le_of_ble_eq_true rfl⟩ hK hP hD hS hA hF [] [] rfl rfl rfl rfl hl.1 rfl (Nat.le_of_ble_eq_true rfl) d_Model_csrs_177 ⟨Nat.zero_le _, Nat.zero_le _⟩) hP hD hS hA [] [0, 1, 2, 3, 4, 5, 6, 7, 8, 9] [0, 1, 2, 3, 4, 5, 6, 7, 8, 9] rfl rfl rfl (by decide) (fun _ => rfl) rfl (fun r_46 _ H locs h_46 hP hD hS => ?_)
              subst h_46
              refine lv_iload hx hb d_Model_csrs_180 (lv_at hl 0 rfl) ?_
              refine xv (wr := []) (W2 := fun u9 => wR a k n h ca tv nx pcs lv cs u9 b cl cm so ti pu np) (xV (rest := []) ⟨hx, hb, hml, hown, hts⟩ (c_Model_setReg a k n (sp_Model_field x0 7 5) (sp_Model_read h (sp_Model_field x0 20 12) cs cm so ti) h ca tv nx pcs lv cs x b cl cm so ti pu np hn hh (vp_f5 _ _)) mw_Model_setReg mv_Model_setReg k_790 ⟨rfl, rfl, Nat.le_of_ble_eq_true rfl, Nat.le_of_ble_eq_true rfl⟩ hK hP hD hS hA hF [0, 1, 2, 3, 4, 5, 6, 7, 8, 9] [0, 1, 2, 3, 4, 5, 6, 7, 8] rfl rfl rfl 0 5 rfl rfl rfl rfl hl.1 rfl (Nat.le_of_ble_eq_true rfl) d_Model_csrs_182 ⟨Nat.zero_le _, Nat.zero_le _⟩) hP hD hS hA [0, 1, 2, 3, 4, 5, 6, 7, 8, 9] [] [0, 1, 2, 3, 4, 5, 6, 7, 8, 9] rfl rfl rfl (by decide) (fun _ => rfl) rfl (fun u_47 H locs h_47 hP hD hS => ?_)
              obtain ⟨x_47, e_47⟩ : ∃ z, z = u_47 := ⟨_, rfl⟩
              subst e_47
              exact rv (ca, tv, cs, x_47) hx hb hr hlocks hP hD hS d_Model_csrs_185 (by simp only [sp_Model_csrs, h_47, if_neg c_4, if_pos c_29, if_neg c_30, if_neg c_33, if_neg c_35, if_neg c_38])
    · refine lv_iconst (v := 1) hx hb d_Model_csrs_38 rfl ?_
      refine lv_goto (tgt := 43) hx hb d_Model_csrs_39 (by decide) ?_
      refine lv_istore (lv' := [(5, .int 1), (4, .int (sp_Model_field x0 15 5)), (3, .int (sp_Model_field x0 20 12)), (2, .int (sp_Model_field x0 12 3)), (0, .ref (a 0)), (1, .int x0)]) hx hb d_Model_csrs_43 hl (by decide) rfl (fun ls hl => ?_)
      refine lv_iload_n hx hb d_Model_csrs_45 rfl (lv_at hl 3 rfl) ?_
      refine lv_iconst (v := 4) hx hb d_Model_csrs_46 rfl ?_
      refine lv_icmp_eq (tgt := 88) hx hb d_Model_csrs_47 (by decide) (fun c_48 => ?_) (fun c_48 => ?_)
      · refine lv_aload_n hx hb d_Model_csrs_88 rfl (lv_at hl 4 rfl) ?_
        refine lv_iconst (v := 2) hx hb d_Model_csrs_89 rfl ?_
        refine lv_iload_n hx hb d_Model_csrs_90 rfl (lv_at hl 5 rfl) ?_
        refine xv (wr := []) (W2 := fun u9 => wR a k n h u9.1 u9.2 nx pcs lv cs x b cl cm so ti pu np) (xV (rest := []) ⟨hx, hb, hml, hown, hts⟩ (c_Model_trap a k n 2 x0 h ca tv nx pcs lv cs x b cl cm so ti pu np hn) mw_Model_trap mv_Model_trap k_763 ⟨rfl, rfl, Nat.le_of_ble_eq_true rfl, Nat.le_of_ble_eq_true rfl⟩ hK hP hD hS hA hF [0, 1, 2, 3, 4, 5, 6, 7, 8, 9] [0, 1, 2, 3, 4, 5, 6, 7, 8] rfl rfl rfl 0 5 rfl rfl rfl rfl hl.1 rfl (Nat.le_of_ble_eq_true rfl) d_Model_csrs_91 ⟨Nat.zero_le _, Nat.zero_le _⟩) hP hD hS hA [0, 1, 2, 3, 4, 5, 6, 7, 8, 9] [] [0, 1, 2, 3, 4, 5, 6, 7, 8, 9] rfl rfl rfl (by decide) (fun _ => rfl) rfl (fun u_49 H locs h_49 hP hD hS => ?_)
        obtain ⟨ca_49, tv_49⟩ := u_49
        dsimp only at hP hD
        exact rv (ca_49, tv_49, cs, x) hx hb hr hlocks hP hD hS d_Model_csrs_94 (by simp only [sp_Model_csrs, h_49, if_neg c_4, if_neg c_29, if_pos c_48])
      · refine lv_iload_n hx hb d_Model_csrs_50 rfl (lv_at hl 2 rfl) ?_
        refine xi (wr := [((a 0), .inr (5, [.int (nI n), .ref (a 1), .ref (a 2), .ref (a 3), .ref (a 4), .ref (a 5), .ref (a 6), .ref (a 7), .ref (a 8), .long ti, .ref (a 9), .int np, .int h, .int ca, .int tv, .int nx])), ((a 1), .inl ((k 0), 16384, .inl b)), ((a 2), .inl ((k 1), 64, .inl x)), ((a 3), .inl ((k 2), 2, .inl pcs)), ((a 4), .inl ((k 3), 2, .inl lv)), ((a 5), .inl ((k 4), 8192, .inl cs)), ((a 6), .inl ((k 5), 2, .inl cl)), ((a 7), .inl ((k 6), 2, .inr (.inl cm))), ((a 8), .inl ((k 7), 2, .inl so)), ((a 9), .inl ((k 8), 256, .inl pu))]) (W2 := fun _ => wR a k n h ca tv nx pcs lv cs x b cl cm so ti pu np) (xS (rest := []) ⟨hx, hb, hml, hown, hts⟩ (c_Model_isCsr (sp_Model_field x0 20 12)) mw_Model_isCsr ms_Model_isCsr k_893 ⟨rfl, rfl, Nat.le_of_ble_eq_true rfl, Nat.le_of_ble_eq_true rfl⟩ hK hP hD hS hA hF [] [] rfl rfl rfl rfl hl.1 rfl (Nat.le_of_ble_eq_true rfl) d_Model_csrs_51 ⟨Nat.zero_le _, Nat.zero_le _⟩) hP hD hS hA [] [0, 1, 2, 3, 4, 5, 6, 7, 8, 9] [0, 1, 2, 3, 4, 5, 6, 7, 8, 9] rfl rfl rfl (by decide) (fun _ => rfl) rfl (fun r_50 _ H locs h_50 hP hD hS => ?_)
        obtain ⟨h_50, z_50⟩ := h_50
        subst h_50
        refine lv_if_eq (tgt := 88) hx hb d_Model_csrs_54 (by decide) (fun c_51 => ?_) (fun c_51 => ?_)
        · refine lv_aload_n hx hb d_Model_csrs_88 rfl (lv_at hl 4 rfl) ?_
          refine lv_iconst (v := 2) hx hb d_Model_csrs_89 rfl ?_
          refine lv_iload_n hx hb d_Model_csrs_90 rfl (lv_at hl 5 rfl) ?_
          refine xv (wr := []) (W2 := fun u9 => wR a k n h u9.1 u9.2 nx pcs lv cs x b cl cm so ti pu np) (xV (rest := []) ⟨hx, hb, hml, hown, hts⟩ (c_Model_trap a k n 2 x0 h ca tv nx pcs lv cs x b cl cm so ti pu np hn) mw_Model_trap mv_Model_trap k_763 ⟨rfl, rfl, Nat.le_of_ble_eq_true rfl, Nat.le_of_ble_eq_true rfl⟩ hK hP hD hS hA hF [0, 1, 2, 3, 4, 5, 6, 7, 8, 9] [0, 1, 2, 3, 4, 5, 6, 7, 8] rfl rfl rfl 0 5 rfl rfl rfl rfl hl.1 rfl (Nat.le_of_ble_eq_true rfl) d_Model_csrs_91 ⟨Nat.zero_le _, Nat.zero_le _⟩) hP hD hS hA [0, 1, 2, 3, 4, 5, 6, 7, 8, 9] [] [0, 1, 2, 3, 4, 5, 6, 7, 8, 9] rfl rfl rfl (by decide) (fun _ => rfl) rfl (fun u_52 H locs h_52 hP hD hS => ?_)
          obtain ⟨ca_52, tv_52⟩ := u_52
          dsimp only at hP hD
          exact rv (ca_52, tv_52, cs, x) hx hb hr hlocks hP hD hS d_Model_csrs_94 (by simp only [sp_Model_csrs, h_52, if_neg c_4, if_neg c_29, if_neg c_48, if_pos c_51])
        · refine lv_aload_n hx hb d_Model_csrs_57 rfl (lv_at hl 4 rfl) ?_
          refine va_get (D := D) (ci := 5) (v := .ref (a 4)) (C := R_Model) (T := F_Model) (N := 16) hx hb hts i_Model hown hK hP 0 rfl rfl 4 (by decide) (hts _ k_629) (fun _ h9 => h9) rfl d_Model_csrs_58 ?_
          refine lv_aload_n hx hb d_Model_csrs_61 rfl (lv_at hl 4 rfl) ?_
          refine va_get (D := D) (ci := 5) (v := .int h) (C := R_Model) (T := F_Model) (N := 16) hx hb hts i_Model hown hK hP 0 rfl rfl 12 (by decide) (hts _ k_637) (fun _ h9 => h9) rfl d_Model_csrs_62 ?_
          refine y_iald (v := lv h.toNatClampNeg) hx hb hK hP 4 3 rfl rfl (vp_01 hh (by decide)) rfl d_Model_csrs_65 ?_
          refine lv_iload_n hx hb d_Model_csrs_66 rfl (lv_at hl 2 rfl) ?_
          refine lv_bipush (v := 8) hx hb d_Model_csrs_67 rfl ?_
          refine y_ishr hx hb d_Model_csrs_69 ?_
          refine lv_iconst (v := 3) hx hb d_Model_csrs_70 rfl ?_
          refine lv_iand hx hb d_Model_csrs_71 ?_
          refine lv_icmp_lt (tgt := 88) hx hb d_Model_csrs_72 (by decide) (fun c_53 => ?_) (fun c_53 => ?_)
          · refine lv_aload_n hx hb d_Model_csrs_88 rfl (lv_at hl 4 rfl) ?_
            refine lv_iconst (v := 2) hx hb d_Model_csrs_89 rfl ?_
            refine lv_iload_n hx hb d_Model_csrs_90 rfl (lv_at hl 5 rfl) ?_
            refine xv (wr := []) (W2 := fun u9 => wR a k n h u9.1 u9.2 nx pcs lv cs x b cl cm so ti pu np) (xV (rest := []) ⟨hx, hb, hml, hown, hts⟩ (c_Model_trap a k n 2 x0 h ca tv nx pcs lv cs x b cl cm so ti pu np hn) mw_Model_trap mv_Model_trap k_763 ⟨rfl, rfl, Nat.le_of_ble_eq_true rfl, Nat.le_of_ble_eq_true rfl⟩ hK hP hD hS hA hF [0, 1, 2, 3, 4, 5, 6, 7, 8, 9] [0, 1, 2, 3, 4, 5, 6, 7, 8] rfl rfl rfl 0 5 rfl rfl rfl rfl hl.1 rfl (Nat.le_of_ble_eq_true rfl) d_Model_csrs_91 ⟨Nat.zero_le _, Nat.zero_le _⟩) hP hD hS hA [0, 1, 2, 3, 4, 5, 6, 7, 8, 9] [] [0, 1, 2, 3, 4, 5, 6, 7, 8, 9] rfl rfl rfl (by decide) (fun _ => rfl) rfl (fun u_54 H locs h_54 hP hD hS => ?_)
            obtain ⟨ca_54, tv_54⟩ := u_54
            dsimp only at hP hD
            exact rv (ca_54, tv_54, cs, x) hx hb hr hlocks hP hD hS d_Model_csrs_94 (by simp only [sp_Model_csrs, h_54, if_neg c_4, if_neg c_29, if_neg c_48, if_neg c_51, if_pos c_53])
          · refine lv_iload hx hb d_Model_csrs_75 (lv_at hl 0 rfl) ?_
            refine lv_if_eq (tgt := 95) hx hb d_Model_csrs_77 (by decide) (fun h9 => absurd h9 (by decide)) (fun _ => ?_)
            refine lv_iload_n hx hb d_Model_csrs_80 rfl (lv_at hl 2 rfl) ?_
            refine lv_bipush (v := 10) hx hb d_Model_csrs_81 rfl ?_
            refine y_ishr hx hb d_Model_csrs_83 ?_
            refine lv_iconst (v := 3) hx hb d_Model_csrs_84 rfl ?_
            refine lv_icmp_ne (tgt := 95) hx hb d_Model_csrs_85 (by decide) (fun c_56 => ?_) (fun c_56 => ?_)
            · refine lv_iload_n hx hb d_Model_csrs_95 rfl (lv_at hl 3 rfl) ?_
              refine lv_iconst (v := 4) hx hb d_Model_csrs_96 rfl ?_
              refine lv_icmp_le (tgt := 105) hx hb d_Model_csrs_97 (by decide) (fun c_57 => ?_) (fun c_57 => ?_)
              · refine lv_aload_n hx hb d_Model_csrs_105 rfl (lv_at hl 4 rfl) ?_
                refine lv_iload hx hb d_Model_csrs_106 (lv_at hl 1 rfl) ?_
                refine xi (wr := []) (W2 := fun _ => wR a k n h ca tv nx pcs lv cs x b cl cm so ti pu np) (xV (rest := []) ⟨hx, hb, hml, hown, hts⟩ (c_Model_reg a k n (sp_Model_field x0 15 5) h ca tv nx pcs lv cs x b cl cm so ti pu np hn hh (vp_f5 _ _)) mw_Model_reg mv_Model_reg k_802 ⟨rfl, rfl, Nat.le_of_ble_eq_true rfl, Nat.le_of_ble_eq_true rfl⟩ hK hP hD hS hA hF [0, 1, 2, 3, 4, 5, 6, 7, 8, 9] [0, 1, 2, 3, 4, 5, 6, 7, 8] rfl rfl rfl 0 5 rfl rfl rfl rfl hl.1 rfl (Nat.le_of_ble_eq_true rfl) d_Model_csrs_108 ⟨Nat.zero_le _, Nat.zero_le _⟩) hP hD hS hA [0, 1, 2, 3, 4, 5, 6, 7, 8, 9] [] [0, 1, 2, 3, 4, 5, 6, 7, 8, 9] rfl rfl rfl (by decide) (fun _ => rfl) rfl (fun r_58 _ H locs h_58 hP hD hS => ?_)
                subst h_58
                refine lv_istore (lv' := [(6, .int (sp_Model_reg (sp_Model_field x0 15 5) h x)), (5, .int 1), (4, .int (sp_Model_field x0 15 5)), (3, .int (sp_Model_field x0 20 12)), (2, .int (sp_Model_field x0 12 3)), (0, .ref (a 0)), (1, .int x0)]) hx hb d_Model_csrs_111 hl (by decide) rfl (fun ls hl => ?_)
                refine lv_aload_n hx hb d_Model_csrs_113 rfl (lv_at hl 5 rfl) ?_
                refine lv_aload_n hx hb d_Model_csrs_114 rfl (lv_at hl 5 rfl) ?_
                refine va_get (D := D) (ci := 5) (v := .int h) (C := R_Model) (T := F_Model) (N := 16) hx hb hts i_Model hown hK hP 0 rfl rfl 12 (by decide) (hts _ k_637) (fun _ h9 => h9) rfl d_Model_csrs_115 ?_
                refine lv_iload_n hx hb d_Model_csrs_118 rfl (lv_at hl 3 rfl) ?_
                refine xi (wr := []) (W2 := fun _ => wR a k n h ca tv nx pcs lv cs x b cl cm so ti pu np) (xV (rest := []) ⟨hx, hb, hml, hown, hts⟩ (c_Model_read a k n h (sp_Model_field x0 20 12) h ca tv nx pcs lv cs x b cl cm so ti pu np hn hh (vp_f12 _)) mw_Model_read mv_Model_read k_709 ⟨rfl, rfl, Nat.le_of_ble_eq_true rfl, Nat.le_of_ble_eq_true rfl⟩ hK hP hD hS hA hF [0, 1, 2, 3, 4, 5, 6, 7, 8, 9] [0, 1, 2, 3, 4, 5, 6, 7, 8] rfl rfl rfl 0 5 rfl rfl rfl rfl hl.1 rfl (Nat.le_of_ble_eq_true rfl) d_Model_csrs_119 ⟨Nat.zero_le _, Nat.zero_le _⟩) hP hD hS hA [0, 1, 2, 3, 4, 5, 6, 7, 8, 9] [] [0, 1, 2, 3, 4, 5, 6, 7, 8, 9] rfl rfl rfl (by decide) (fun _ => rfl) rfl (fun r_59 _ H locs h_59 hP hD hS => ?_)
                subst h_59
                refine lv_istore (lv' := [(7, .int (sp_Model_read h (sp_Model_field x0 20 12) cs cm so ti)), (6, .int (sp_Model_reg (sp_Model_field x0 15 5) h x)), (5, .int 1), (4, .int (sp_Model_field x0 15 5)), (3, .int (sp_Model_field x0 20 12)), (2, .int (sp_Model_field x0 12 3)), (0, .ref (a 0)), (1, .int x0)]) hx hb d_Model_csrs_122 hl (by decide) rfl (fun ls hl => ?_)
                refine lv_iload hx hb d_Model_csrs_124 (lv_at hl 2 rfl) ?_
                refine lv_if_eq (tgt := 172) hx hb d_Model_csrs_126 (by decide) (fun h9 => absurd h9 (by decide)) (fun _ => ?_)
                refine lv_aload_n hx hb d_Model_csrs_129 rfl (lv_at hl 6 rfl) ?_
                refine lv_aload_n hx hb d_Model_csrs_130 rfl (lv_at hl 6 rfl) ?_
                refine va_get (D := D) (ci := 5) (v := .int h) (C := R_Model) (T := F_Model) (N := 16) hx hb hts i_Model hown hK hP 0 rfl rfl 12 (by decide) (hts _ k_637) (fun _ h9 => h9) rfl d_Model_csrs_131 ?_
                refine lv_iload_n hx hb d_Model_csrs_134 rfl (lv_at hl 4 rfl) ?_
                refine lv_iload_n hx hb d_Model_csrs_135 rfl (lv_at hl 5 rfl) ?_
                refine lv_iconst (v := 3) hx hb d_Model_csrs_136 rfl ?_
                refine lv_iand hx hb d_Model_csrs_137 ?_
                refine lv_iconst (v := 1) hx hb d_Model_csrs_138 rfl ?_
                refine lv_icmp_ne (tgt := 147) hx hb d_Model_csrs_139 (by decide) (fun _ => ?_) (fun h9 => absurd h9 c_4)
                refine lv_iload_n hx hb d_Model_csrs_147 rfl (lv_at hl 5 rfl) ?_
                refine lv_iconst (v := 3) hx hb d_Model_csrs_148 rfl ?_
                refine lv_iand hx hb d_Model_csrs_149 ?_
                refine lv_iconst (v := 2) hx hb d_Model_csrs_150 rfl ?_
                refine lv_icmp_ne (tgt := 162) hx hb d_Model_csrs_151 (by decide) (fun c_62 => ?_) (fun c_62 => ?_)
                · refine lv_iload hx hb d_Model_csrs_162 (lv_at hl 0 rfl) ?_
                  refine lv_iload hx hb d_Model_csrs_164 (lv_at hl 1 rfl) ?_
                  refine lv_iconst (v := (-1)) hx hb d_Model_csrs_166 rfl ?_
                  refine lv_ixor hx hb d_Model_csrs_167 ?_
                  refine lv_iand hx hb d_Model_csrs_168 ?_
                  refine xv (wr := []) (W2 := fun u9 => wR a k n h ca tv nx pcs lv u9 x b cl cm so ti pu np) (xV (rest := []) ⟨hx, hb, hml, hown, hts⟩ (c_Model_write a k n h (sp_Model_field x0 20 12) ((sp_Model_read h (sp_Model_field x0 20 12) cs cm so ti) &&& ((sp_Model_reg (sp_Model_field x0 15 5) h x) ^^^ (-1))) h ca tv nx pcs lv cs x b cl cm so ti pu np hn hh (vp_f12 _)) mw_Model_write mv_Model_write k_896 ⟨rfl, rfl, Nat.le_of_ble_eq_true rfl, Nat.le_of_ble_eq_true rfl⟩ hK hP hD hS hA hF [0, 1, 2, 3, 4, 5, 6, 7, 8, 9] [0, 1, 2, 3, 4, 5, 6, 7, 8] rfl rfl rfl 0 5 rfl rfl rfl rfl hl.1 rfl (Nat.le_of_ble_eq_true rfl) d_Model_csrs_169 ⟨Nat.zero_le _, Nat.zero_le _⟩) hP hD hS hA [0, 1, 2, 3, 4, 5, 6, 7, 8, 9] [] [0, 1, 2, 3, 4, 5, 6, 7, 8, 9] rfl rfl rfl (by decide) (fun _ => rfl) rfl (fun u_63 H locs h_63 hP hD hS => ?_)
                  obtain ⟨cs_63, e_63⟩ : ∃ z, z = u_63 := ⟨_, rfl⟩
                  subst e_63
                  refine lv_aload_n hx hb d_Model_csrs_172 rfl (lv_at hl 6 rfl) ?_
                  refine lv_iload_n hx hb d_Model_csrs_173 rfl (lv_at hl 7 rfl) ?_
                  refine lv_bipush (v := 7) hx hb d_Model_csrs_174 rfl ?_
                  refine lv_iconst (v := 5) hx hb d_Model_csrs_176 rfl ?_
                  refine xi (wr := [((a 0), .inr (5, [.int (nI n), .ref (a 1), .ref (a 2), .ref (a 3), .ref (a 4), .ref (a 5), .ref (a 6), .ref (a 7), .ref (a 8), .long ti, .ref (a 9), .int np, .int h, .int ca, .int tv, .int nx])), ((a 1), .inl ((k 0), 16384, .inl b)), ((a 2), .inl ((k 1), 64, .inl x)), ((a 3), .inl ((k 2), 2, .inl pcs)), ((a 4), .inl ((k 3), 2, .inl lv)), ((a 5), .inl ((k 4), 8192, .inl cs_63)), ((a 6), .inl ((k 5), 2, .inl cl)), ((a 7), .inl ((k 6), 2, .inr (.inl cm))), ((a 8), .inl ((k 7), 2, .inl so)), ((a 9), .inl ((k 8), 256, .inl pu))]) (W2 := fun _ => wR a k n h ca tv nx pcs lv cs_63 x b cl cm so ti pu np) (xS (rest := [.ref (a 0)]) ⟨hx, hb, hml, hown, hts⟩ (c_Model_field x0 7 5) mw_Model_field ms_Model_field k_787 ⟨rfl, rfl, Nat.le_of_ble_eq_true rfl, Nat.le_of_ble_eq_true rfl⟩ hK hP hD hS hA hF [] [] rfl rfl rfl rfl hl.1 rfl (Nat.le_of_ble_eq_true rfl) d_Model_csrs_177 ⟨Nat.zero_le _, Nat.zero_le _⟩) hP hD hS hA [] [0, 1, 2, 3, 4, 5, 6, 7, 8, 9] [0, 1, 2, 3, 4, 5, 6, 7, 8, 9] rfl rfl rfl (by decide) (fun _ => rfl) rfl (fun r_64 _ H locs h_64 hP hD hS => ?_)
                  subst h_64
                  refine lv_iload hx hb d_Model_csrs_180 (lv_at hl 0 rfl) ?_
                  refine xv (wr := []) (W2 := fun u9 => wR a k n h ca tv nx pcs lv cs_63 u9 b cl cm so ti pu np) (xV (rest := []) ⟨hx, hb, hml, hown, hts⟩ (c_Model_setReg a k n (sp_Model_field x0 7 5) (sp_Model_read h (sp_Model_field x0 20 12) cs cm so ti) h ca tv nx pcs lv cs_63 x b cl cm so ti pu np hn hh (vp_f5 _ _)) mw_Model_setReg mv_Model_setReg k_790 ⟨rfl, rfl, Nat.le_of_ble_eq_true rfl, Nat.le_of_ble_eq_true rfl⟩ hK hP hD hS hA hF [0, 1, 2, 3, 4, 5, 6, 7, 8, 9] [0, 1, 2, 3, 4, 5, 6, 7, 8] rfl rfl rfl 0 5 rfl rfl rfl rfl hl.1 rfl (Nat.le_of_ble_eq_true rfl) d_Model_csrs_182 ⟨Nat.zero_le _, Nat.zero_le _⟩) hP hD hS hA [0, 1, 2, 3, 4, 5, 6, 7, 8, 9] [] [0, 1, 2, 3, 4, 5, 6, 7, 8, 9] rfl rfl rfl (by decide) (fun _ => rfl) rfl (fun u_65 H locs h_65 hP hD hS => ?_)
                  obtain ⟨x_65, e_65⟩ : ∃ z, z = u_65 := ⟨_, rfl⟩
                  subst e_65
                  exact rv (ca, tv, cs_63, x_65) hx hb hr hlocks hP hD hS d_Model_csrs_185 (by simp only [sp_Model_csrs, h_63, h_65, if_neg c_4, if_neg c_29, if_neg c_48, if_neg c_51, if_neg c_53, if_neg c_56, if_pos c_57, if_neg c_62])
                · refine lv_iload hx hb d_Model_csrs_154 (lv_at hl 0 rfl) ?_
                  refine lv_iload hx hb d_Model_csrs_156 (lv_at hl 1 rfl) ?_
                  refine lv_ior hx hb d_Model_csrs_158 ?_
                  refine lv_goto (tgt := 169) hx hb d_Model_csrs_159 (by decide) ?_
                  refine xv (wr := []) (W2 := fun u9 => wR a k n h ca tv nx pcs lv u9 x b cl cm so ti pu np) (xV (rest := []) ⟨hx, hb, hml, hown, hts⟩ (c_Model_write a k n h (sp_Model_field x0 20 12) ((sp_Model_read h (sp_Model_field x0 20 12) cs cm so ti) ||| (sp_Model_reg (sp_Model_field x0 15 5) h x)) h ca tv nx pcs lv cs x b cl cm so ti pu np hn hh (vp_f12 _)) mw_Model_write mv_Model_write k_896 ⟨rfl, rfl, Nat.le_of_ble_eq_true rfl, Nat.le_of_ble_eq_true rfl⟩ hK hP hD hS hA hF [0, 1, 2, 3, 4, 5, 6, 7, 8, 9] [0, 1, 2, 3, 4, 5, 6, 7, 8] rfl rfl rfl 0 5 rfl rfl rfl rfl hl.1 rfl (Nat.le_of_ble_eq_true rfl) d_Model_csrs_169 ⟨Nat.zero_le _, Nat.zero_le _⟩) hP hD hS hA [0, 1, 2, 3, 4, 5, 6, 7, 8, 9] [] [0, 1, 2, 3, 4, 5, 6, 7, 8, 9] rfl rfl rfl (by decide) (fun _ => rfl) rfl (fun u_66 H locs h_66 hP hD hS => ?_)
                  obtain ⟨cs_66, e_66⟩ : ∃ z, z = u_66 := ⟨_, rfl⟩
                  subst e_66
                  refine lv_aload_n hx hb d_Model_csrs_172 rfl (lv_at hl 6 rfl) ?_
                  refine lv_iload_n hx hb d_Model_csrs_173 rfl (lv_at hl 7 rfl) ?_
                  refine lv_bipush (v := 7) hx hb d_Model_csrs_174 rfl ?_
                  refine lv_iconst (v := 5) hx hb d_Model_csrs_176 rfl ?_
                  refine xi (wr := [((a 0), .inr (5, [.int (nI n), .ref (a 1), .ref (a 2), .ref (a 3), .ref (a 4), .ref (a 5), .ref (a 6), .ref (a 7), .ref (a 8), .long ti, .ref (a 9), .int np, .int h, .int ca, .int tv, .int nx])), ((a 1), .inl ((k 0), 16384, .inl b)), ((a 2), .inl ((k 1), 64, .inl x)), ((a 3), .inl ((k 2), 2, .inl pcs)), ((a 4), .inl ((k 3), 2, .inl lv)), ((a 5), .inl ((k 4), 8192, .inl cs_66)), ((a 6), .inl ((k 5), 2, .inl cl)), ((a 7), .inl ((k 6), 2, .inr (.inl cm))), ((a 8), .inl ((k 7), 2, .inl so)), ((a 9), .inl ((k 8), 256, .inl pu))]) (W2 := fun _ => wR a k n h ca tv nx pcs lv cs_66 x b cl cm so ti pu np) (xS (rest := [.ref (a 0)]) ⟨hx, hb, hml, hown, hts⟩ (c_Model_field x0 7 5) mw_Model_field ms_Model_field k_787 ⟨rfl, rfl, Nat.le_of_ble_eq_true rfl, Nat.le_of_ble_eq_true rfl⟩ hK hP hD hS hA hF [] [] rfl rfl rfl rfl hl.1 rfl (Nat.le_of_ble_eq_true rfl) d_Model_csrs_177 ⟨Nat.zero_le _, Nat.zero_le _⟩) hP hD hS hA [] [0, 1, 2, 3, 4, 5, 6, 7, 8, 9] [0, 1, 2, 3, 4, 5, 6, 7, 8, 9] rfl rfl rfl (by decide) (fun _ => rfl) rfl (fun r_67 _ H locs h_67 hP hD hS => ?_)
                  subst h_67
                  refine lv_iload hx hb d_Model_csrs_180 (lv_at hl 0 rfl) ?_
                  refine xv (wr := []) (W2 := fun u9 => wR a k n h ca tv nx pcs lv cs_66 u9 b cl cm so ti pu np) (xV (rest := []) ⟨hx, hb, hml, hown, hts⟩ (c_Model_setReg a k n (sp_Model_field x0 7 5) (sp_Model_read h (sp_Model_field x0 20 12) cs cm so ti) h ca tv nx pcs lv cs_66 x b cl cm so ti pu np hn hh (vp_f5 _ _)) mw_Model_setReg mv_Model_setReg k_790 ⟨rfl, rfl, Nat.le_of_ble_eq_true rfl, Nat.le_of_ble_eq_true rfl⟩ hK hP hD hS hA hF [0, 1, 2, 3, 4, 5, 6, 7, 8, 9] [0, 1, 2, 3, 4, 5, 6, 7, 8] rfl rfl rfl 0 5 rfl rfl rfl rfl hl.1 rfl (Nat.le_of_ble_eq_true rfl) d_Model_csrs_182 ⟨Nat.zero_le _, Nat.zero_le _⟩) hP hD hS hA [0, 1, 2, 3, 4, 5, 6, 7, 8, 9] [] [0, 1, 2, 3, 4, 5, 6, 7, 8, 9] rfl rfl rfl (by decide) (fun _ => rfl) rfl (fun u_68 H locs h_68 hP hD hS => ?_)
                  obtain ⟨x_68, e_68⟩ : ∃ z, z = u_68 := ⟨_, rfl⟩
                  subst e_68
                  exact rv (ca, tv, cs_66, x_68) hx hb hr hlocks hP hD hS d_Model_csrs_185 (by simp only [sp_Model_csrs, h_66, h_68, if_neg c_4, if_neg c_29, if_neg c_48, if_neg c_51, if_neg c_53, if_neg c_56, if_pos c_57, if_pos c_62])
              · refine lv_iload hx hb d_Model_csrs_100 (lv_at hl 1 rfl) ?_
                refine lv_goto (tgt := 111) hx hb d_Model_csrs_102 (by decide) ?_
                refine lv_istore (lv' := [(6, .int (sp_Model_field x0 15 5)), (5, .int 1), (4, .int (sp_Model_field x0 15 5)), (3, .int (sp_Model_field x0 20 12)), (2, .int (sp_Model_field x0 12 3)), (0, .ref (a 0)), (1, .int x0)]) hx hb d_Model_csrs_111 hl (by decide) rfl (fun ls hl => ?_)
                refine lv_aload_n hx hb d_Model_csrs_113 rfl (lv_at hl 5 rfl) ?_
                refine lv_aload_n hx hb d_Model_csrs_114 rfl (lv_at hl 5 rfl) ?_
                refine va_get (D := D) (ci := 5) (v := .int h) (C := R_Model) (T := F_Model) (N := 16) hx hb hts i_Model hown hK hP 0 rfl rfl 12 (by decide) (hts _ k_637) (fun _ h9 => h9) rfl d_Model_csrs_115 ?_
                refine lv_iload_n hx hb d_Model_csrs_118 rfl (lv_at hl 3 rfl) ?_
                refine xi (wr := []) (W2 := fun _ => wR a k n h ca tv nx pcs lv cs x b cl cm so ti pu np) (xV (rest := []) ⟨hx, hb, hml, hown, hts⟩ (c_Model_read a k n h (sp_Model_field x0 20 12) h ca tv nx pcs lv cs x b cl cm so ti pu np hn hh (vp_f12 _)) mw_Model_read mv_Model_read k_709 ⟨rfl, rfl, Nat.le_of_ble_eq_true rfl, Nat.le_of_ble_eq_true rfl⟩ hK hP hD hS hA hF [0, 1, 2, 3, 4, 5, 6, 7, 8, 9] [0, 1, 2, 3, 4, 5, 6, 7, 8] rfl rfl rfl 0 5 rfl rfl rfl rfl hl.1 rfl (Nat.le_of_ble_eq_true rfl) d_Model_csrs_119 ⟨Nat.zero_le _, Nat.zero_le _⟩) hP hD hS hA [0, 1, 2, 3, 4, 5, 6, 7, 8, 9] [] [0, 1, 2, 3, 4, 5, 6, 7, 8, 9] rfl rfl rfl (by decide) (fun _ => rfl) rfl (fun r_69 _ H locs h_69 hP hD hS => ?_)
                subst h_69
                refine lv_istore (lv' := [(7, .int (sp_Model_read h (sp_Model_field x0 20 12) cs cm so ti)), (6, .int (sp_Model_field x0 15 5)), (5, .int 1), (4, .int (sp_Model_field x0 15 5)), (3, .int (sp_Model_field x0 20 12)), (2, .int (sp_Model_field x0 12 3)), (0, .ref (a 0)), (1, .int x0)]) hx hb d_Model_csrs_122 hl (by decide) rfl (fun ls hl => ?_)
                refine lv_iload hx hb d_Model_csrs_124 (lv_at hl 2 rfl) ?_
                refine lv_if_eq (tgt := 172) hx hb d_Model_csrs_126 (by decide) (fun h9 => absurd h9 (by decide)) (fun _ => ?_)
                refine lv_aload_n hx hb d_Model_csrs_129 rfl (lv_at hl 6 rfl) ?_
                refine lv_aload_n hx hb d_Model_csrs_130 rfl (lv_at hl 6 rfl) ?_
                refine va_get (D := D) (ci := 5) (v := .int h) (C := R_Model) (T := F_Model) (N := 16) hx hb hts i_Model hown hK hP 0 rfl rfl 12 (by decide) (hts _ k_637) (fun _ h9 => h9) rfl d_Model_csrs_131 ?_
                refine lv_iload_n hx hb d_Model_csrs_134 rfl (lv_at hl 4 rfl) ?_
                refine lv_iload_n hx hb d_Model_csrs_135 rfl (lv_at hl 5 rfl) ?_
                refine lv_iconst (v := 3) hx hb d_Model_csrs_136 rfl ?_
                refine lv_iand hx hb d_Model_csrs_137 ?_
                refine lv_iconst (v := 1) hx hb d_Model_csrs_138 rfl ?_
                refine lv_icmp_ne (tgt := 147) hx hb d_Model_csrs_139 (by decide) (fun _ => ?_) (fun h9 => absurd h9 c_4)
                refine lv_iload_n hx hb d_Model_csrs_147 rfl (lv_at hl 5 rfl) ?_
                refine lv_iconst (v := 3) hx hb d_Model_csrs_148 rfl ?_
                refine lv_iand hx hb d_Model_csrs_149 ?_
                refine lv_iconst (v := 2) hx hb d_Model_csrs_150 rfl ?_
                refine lv_icmp_ne (tgt := 162) hx hb d_Model_csrs_151 (by decide) (fun c_72 => ?_) (fun c_72 => ?_)
                · refine lv_iload hx hb d_Model_csrs_162 (lv_at hl 0 rfl) ?_
                  refine lv_iload hx hb d_Model_csrs_164 (lv_at hl 1 rfl) ?_
                  refine lv_iconst (v := (-1)) hx hb d_Model_csrs_166 rfl ?_
                  refine lv_ixor hx hb d_Model_csrs_167 ?_
                  refine lv_iand hx hb d_Model_csrs_168 ?_
                  refine xv (wr := []) (W2 := fun u9 => wR a k n h ca tv nx pcs lv u9 x b cl cm so ti pu np) (xV (rest := []) ⟨hx, hb, hml, hown, hts⟩ (c_Model_write a k n h (sp_Model_field x0 20 12) ((sp_Model_read h (sp_Model_field x0 20 12) cs cm so ti) &&& ((sp_Model_field x0 15 5) ^^^ (-1))) h ca tv nx pcs lv cs x b cl cm so ti pu np hn hh (vp_f12 _)) mw_Model_write mv_Model_write k_896 ⟨rfl, rfl, Nat.le_of_ble_eq_true rfl, Nat.le_of_ble_eq_true rfl⟩ hK hP hD hS hA hF [0, 1, 2, 3, 4, 5, 6, 7, 8, 9] [0, 1, 2, 3, 4, 5, 6, 7, 8] rfl rfl rfl 0 5 rfl rfl rfl rfl hl.1 rfl (Nat.le_of_ble_eq_true rfl) d_Model_csrs_169 ⟨Nat.zero_le _, Nat.zero_le _⟩) hP hD hS hA [0, 1, 2, 3, 4, 5, 6, 7, 8, 9] [] [0, 1, 2, 3, 4, 5, 6, 7, 8, 9] rfl rfl rfl (by decide) (fun _ => rfl) rfl (fun u_73 H locs h_73 hP hD hS => ?_)
                  obtain ⟨cs_73, e_73⟩ : ∃ z, z = u_73 := ⟨_, rfl⟩
                  subst e_73
                  refine lv_aload_n hx hb d_Model_csrs_172 rfl (lv_at hl 6 rfl) ?_
                  refine lv_iload_n hx hb d_Model_csrs_173 rfl (lv_at hl 7 rfl) ?_
                  refine lv_bipush (v := 7) hx hb d_Model_csrs_174 rfl ?_
                  refine lv_iconst (v := 5) hx hb d_Model_csrs_176 rfl ?_
                  refine xi (wr := [((a 0), .inr (5, [.int (nI n), .ref (a 1), .ref (a 2), .ref (a 3), .ref (a 4), .ref (a 5), .ref (a 6), .ref (a 7), .ref (a 8), .long ti, .ref (a 9), .int np, .int h, .int ca, .int tv, .int nx])), ((a 1), .inl ((k 0), 16384, .inl b)), ((a 2), .inl ((k 1), 64, .inl x)), ((a 3), .inl ((k 2), 2, .inl pcs)), ((a 4), .inl ((k 3), 2, .inl lv)), ((a 5), .inl ((k 4), 8192, .inl cs_73)), ((a 6), .inl ((k 5), 2, .inl cl)), ((a 7), .inl ((k 6), 2, .inr (.inl cm))), ((a 8), .inl ((k 7), 2, .inl so)), ((a 9), .inl ((k 8), 256, .inl pu))]) (W2 := fun _ => wR a k n h ca tv nx pcs lv cs_73 x b cl cm so ti pu np) (xS (rest := [.ref (a 0)]) ⟨hx, hb, hml, hown, hts⟩ (c_Model_field x0 7 5) mw_Model_field ms_Model_field k_787 ⟨rfl, rfl, Nat.le_of_ble_eq_true rfl, Nat.le_of_ble_eq_true rfl⟩ hK hP hD hS hA hF [] [] rfl rfl rfl rfl hl.1 rfl (Nat.le_of_ble_eq_true rfl) d_Model_csrs_177 ⟨Nat.zero_le _, Nat.zero_le _⟩) hP hD hS hA [] [0, 1, 2, 3, 4, 5, 6, 7, 8, 9] [0, 1, 2, 3, 4, 5, 6, 7, 8, 9] rfl rfl rfl (by decide) (fun _ => rfl) rfl (fun r_74 _ H locs h_74 hP hD hS => ?_)
                  subst h_74
                  refine lv_iload hx hb d_Model_csrs_180 (lv_at hl 0 rfl) ?_
                  refine xv (wr := []) (W2 := fun u9 => wR a k n h ca tv nx pcs lv cs_73 u9 b cl cm so ti pu np) (xV (rest := []) ⟨hx, hb, hml, hown, hts⟩ (c_Model_setReg a k n (sp_Model_field x0 7 5) (sp_Model_read h (sp_Model_field x0 20 12) cs cm so ti) h ca tv nx pcs lv cs_73 x b cl cm so ti pu np hn hh (vp_f5 _ _)) mw_Model_setReg mv_Model_setReg k_790 ⟨rfl, rfl, Nat.le_of_ble_eq_true rfl, Nat.le_of_ble_eq_true rfl⟩ hK hP hD hS hA hF [0, 1, 2, 3, 4, 5, 6, 7, 8, 9] [0, 1, 2, 3, 4, 5, 6, 7, 8] rfl rfl rfl 0 5 rfl rfl rfl rfl hl.1 rfl (Nat.le_of_ble_eq_true rfl) d_Model_csrs_182 ⟨Nat.zero_le _, Nat.zero_le _⟩) hP hD hS hA [0, 1, 2, 3, 4, 5, 6, 7, 8, 9] [] [0, 1, 2, 3, 4, 5, 6, 7, 8, 9] rfl rfl rfl (by decide) (fun _ => rfl) rfl (fun u_75 H locs h_75 hP hD hS => ?_)
                  obtain ⟨x_75, e_75⟩ : ∃ z, z = u_75 := ⟨_, rfl⟩
                  subst e_75
                  exact rv (ca, tv, cs_73, x_75) hx hb hr hlocks hP hD hS d_Model_csrs_185 (by simp only [sp_Model_csrs, h_73, h_75, if_neg c_4, if_neg c_29, if_neg c_48, if_neg c_51, if_neg c_53, if_neg c_56, if_neg c_57, if_neg c_72])
                · refine lv_iload hx hb d_Model_csrs_154 (lv_at hl 0 rfl) ?_
                  refine lv_iload hx hb d_Model_csrs_156 (lv_at hl 1 rfl) ?_
                  refine lv_ior hx hb d_Model_csrs_158 ?_
                  refine lv_goto (tgt := 169) hx hb d_Model_csrs_159 (by decide) ?_
                  refine xv (wr := []) (W2 := fun u9 => wR a k n h ca tv nx pcs lv u9 x b cl cm so ti pu np) (xV (rest := []) ⟨hx, hb, hml, hown, hts⟩ (c_Model_write a k n h (sp_Model_field x0 20 12) ((sp_Model_read h (sp_Model_field x0 20 12) cs cm so ti) ||| (sp_Model_field x0 15 5)) h ca tv nx pcs lv cs x b cl cm so ti pu np hn hh (vp_f12 _)) mw_Model_write mv_Model_write k_896 ⟨rfl, rfl, Nat.le_of_ble_eq_true rfl, Nat.le_of_ble_eq_true rfl⟩ hK hP hD hS hA hF [0, 1, 2, 3, 4, 5, 6, 7, 8, 9] [0, 1, 2, 3, 4, 5, 6, 7, 8] rfl rfl rfl 0 5 rfl rfl rfl rfl hl.1 rfl (Nat.le_of_ble_eq_true rfl) d_Model_csrs_169 ⟨Nat.zero_le _, Nat.zero_le _⟩) hP hD hS hA [0, 1, 2, 3, 4, 5, 6, 7, 8, 9] [] [0, 1, 2, 3, 4, 5, 6, 7, 8, 9] rfl rfl rfl (by decide) (fun _ => rfl) rfl (fun u_76 H locs h_76 hP hD hS => ?_)
                  obtain ⟨cs_76, e_76⟩ : ∃ z, z = u_76 := ⟨_, rfl⟩
                  subst e_76
                  refine lv_aload_n hx hb d_Model_csrs_172 rfl (lv_at hl 6 rfl) ?_
                  refine lv_iload_n hx hb d_Model_csrs_173 rfl (lv_at hl 7 rfl) ?_
                  refine lv_bipush (v := 7) hx hb d_Model_csrs_174 rfl ?_
                  refine lv_iconst (v := 5) hx hb d_Model_csrs_176 rfl ?_
                  refine xi (wr := [((a 0), .inr (5, [.int (nI n), .ref (a 1), .ref (a 2), .ref (a 3), .ref (a 4), .ref (a 5), .ref (a 6), .ref (a 7), .ref (a 8), .long ti, .ref (a 9), .int np, .int h, .int ca, .int tv, .int nx])), ((a 1), .inl ((k 0), 16384, .inl b)), ((a 2), .inl ((k 1), 64, .inl x)), ((a 3), .inl ((k 2), 2, .inl pcs)), ((a 4), .inl ((k 3), 2, .inl lv)), ((a 5), .inl ((k 4), 8192, .inl cs_76)), ((a 6), .inl ((k 5), 2, .inl cl)), ((a 7), .inl ((k 6), 2, .inr (.inl cm))), ((a 8), .inl ((k 7), 2, .inl so)), ((a 9), .inl ((k 8), 256, .inl pu))]) (W2 := fun _ => wR a k n h ca tv nx pcs lv cs_76 x b cl cm so ti pu np) (xS (rest := [.ref (a 0)]) ⟨hx, hb, hml, hown, hts⟩ (c_Model_field x0 7 5) mw_Model_field ms_Model_field k_787 ⟨rfl, rfl, Nat.le_of_ble_eq_true rfl, Nat.le_of_ble_eq_true rfl⟩ hK hP hD hS hA hF [] [] rfl rfl rfl rfl hl.1 rfl (Nat.le_of_ble_eq_true rfl) d_Model_csrs_177 ⟨Nat.zero_le _, Nat.zero_le _⟩) hP hD hS hA [] [0, 1, 2, 3, 4, 5, 6, 7, 8, 9] [0, 1, 2, 3, 4, 5, 6, 7, 8, 9] rfl rfl rfl (by decide) (fun _ => rfl) rfl (fun r_77 _ H locs h_77 hP hD hS => ?_)
                  subst h_77
                  refine lv_iload hx hb d_Model_csrs_180 (lv_at hl 0 rfl) ?_
                  refine xv (wr := []) (W2 := fun u9 => wR a k n h ca tv nx pcs lv cs_76 u9 b cl cm so ti pu np) (xV (rest := []) ⟨hx, hb, hml, hown, hts⟩ (c_Model_setReg a k n (sp_Model_field x0 7 5) (sp_Model_read h (sp_Model_field x0 20 12) cs cm so ti) h ca tv nx pcs lv cs_76 x b cl cm so ti pu np hn hh (vp_f5 _ _)) mw_Model_setReg mv_Model_setReg k_790 ⟨rfl, rfl, Nat.le_of_ble_eq_true rfl, Nat.le_of_ble_eq_true rfl⟩ hK hP hD hS hA hF [0, 1, 2, 3, 4, 5, 6, 7, 8, 9] [0, 1, 2, 3, 4, 5, 6, 7, 8] rfl rfl rfl 0 5 rfl rfl rfl rfl hl.1 rfl (Nat.le_of_ble_eq_true rfl) d_Model_csrs_182 ⟨Nat.zero_le _, Nat.zero_le _⟩) hP hD hS hA [0, 1, 2, 3, 4, 5, 6, 7, 8, 9] [] [0, 1, 2, 3, 4, 5, 6, 7, 8, 9] rfl rfl rfl (by decide) (fun _ => rfl) rfl (fun u_78 H locs h_78 hP hD hS => ?_)
                  obtain ⟨x_78, e_78⟩ : ∃ z, z = u_78 := ⟨_, rfl⟩
                  subst e_78
                  exact rv (ca, tv, cs_76, x_78) hx hb hr hlocks hP hD hS d_Model_csrs_185 (by simp only [sp_Model_csrs, h_76, h_78, if_neg c_4, if_neg c_29, if_neg c_48, if_neg c_51, if_neg c_53, if_neg c_56, if_neg c_57, if_pos c_72])
            · refine lv_aload_n hx hb d_Model_csrs_88 rfl (lv_at hl 4 rfl) ?_
              refine lv_iconst (v := 2) hx hb d_Model_csrs_89 rfl ?_
              refine lv_iload_n hx hb d_Model_csrs_90 rfl (lv_at hl 5 rfl) ?_
              refine xv (wr := []) (W2 := fun u9 => wR a k n h u9.1 u9.2 nx pcs lv cs x b cl cm so ti pu np) (xV (rest := []) ⟨hx, hb, hml, hown, hts⟩ (c_Model_trap a k n 2 x0 h ca tv nx pcs lv cs x b cl cm so ti pu np hn) mw_Model_trap mv_Model_trap k_763 ⟨rfl, rfl, Nat.le_of_ble_eq_true rfl, Nat.le_of_ble_eq_true rfl⟩ hK hP hD hS hA hF [0, 1, 2, 3, 4, 5, 6, 7, 8, 9] [0, 1, 2, 3, 4, 5, 6, 7, 8] rfl rfl rfl 0 5 rfl rfl rfl rfl hl.1 rfl (Nat.le_of_ble_eq_true rfl) d_Model_csrs_91 ⟨Nat.zero_le _, Nat.zero_le _⟩) hP hD hS hA [0, 1, 2, 3, 4, 5, 6, 7, 8, 9] [] [0, 1, 2, 3, 4, 5, 6, 7, 8, 9] rfl rfl rfl (by decide) (fun _ => rfl) rfl (fun u_79 H locs h_79 hP hD hS => ?_)
              obtain ⟨ca_79, tv_79⟩ := u_79
              dsimp only at hP hD
              exact rv (ca_79, tv_79, cs, x) hx hb hr hlocks hP hD hS d_Model_csrs_94 (by simp only [sp_Model_csrs, h_79, if_neg c_4, if_neg c_29, if_neg c_48, if_neg c_51, if_neg c_53, if_pos c_56])
