def sp_Model_accessFault (x0 : Int32)  : Int32 :=
  if x0 = 0 then
    1
  else
    if x0 = 1 then
      5
    else
      7
set_option maxHeartbeats 4000000 in
set_option maxRecDepth 100000 in
theorem c_Model_accessFault {l : Launch} {D : va_G} {g : Nat → Nat}  (x0 : Int32)   : CT l D g y_Model_accessFault b_Model_accessFault 1 (some .int) (rD 0) [.int x0] [] [] (Qi D (fun (r : Int32) (_ : Unit) => sp_Model_accessFault x0 = r) (fun _ => [])) := by
  refine CT.of rfl (Nat.le_of_ble_eq_true rfl) (fun p e s m below meth c A ls hx hb hr hml hts hown hlocks hA hP hK hD hF hS hl => ?_)
  have hl : lv_has ls 1 [(0, .int x0)] := hl
  refine lv_iload_n hx hb d_Model_accessFault_0 rfl (lv_at hl 0 rfl) ?_
  refine lv_if_ne (tgt := 8) hx hb d_Model_accessFault_1 (by decide) (fun c_1 => ?_) (fun c_1 => ?_)
  · refine lv_iload_n hx hb d_Model_accessFault_8 rfl (lv_at hl 0 rfl) ?_
    refine lv_iconst (v := 1) hx hb d_Model_accessFault_9 rfl ?_
    refine lv_icmp_ne (tgt := 17) hx hb d_Model_accessFault_10 (by decide) (fun c_2 => ?_) (fun c_2 => ?_)
    · refine lv_bipush (v := 7) hx hb d_Model_accessFault_17 rfl ?_
      exact ri () hx hb hr hlocks hP hD hS d_Model_accessFault_19 (by simp only [sp_Model_accessFault, if_neg c_1, if_neg c_2])
    · refine lv_iconst (v := 5) hx hb d_Model_accessFault_13 rfl ?_
      refine lv_goto (tgt := 19) hx hb d_Model_accessFault_14 (by decide) ?_
      exact ri () hx hb hr hlocks hP hD hS d_Model_accessFault_19 (by simp only [sp_Model_accessFault, if_neg c_1, if_pos c_2])
  · refine lv_iconst (v := 1) hx hb d_Model_accessFault_4 rfl ?_
    refine lv_goto (tgt := 19) hx hb d_Model_accessFault_5 (by decide) ?_
    exact ri () hx hb hr hlocks hP hD hS d_Model_accessFault_19 (by simp only [sp_Model_accessFault, if_pos c_1])
def sp_Model_pageFault (x0 : Int32)  : Int32 :=
  if x0 = 0 then
    12
  else
    if x0 = 1 then
      13
    else
      15
set_option maxHeartbeats 4000000 in
set_option maxRecDepth 100000 in
theorem c_Model_pageFault {l : Launch} {D : va_G} {g : Nat → Nat}  (x0 : Int32)   : CT l D g y_Model_pageFault b_Model_pageFault 1 (some .int) (rD 0) [.int x0] [] [] (Qi D (fun (r : Int32) (_ : Unit) => sp_Model_pageFault x0 = r) (fun _ => [])) := by
  refine CT.of rfl (Nat.le_of_ble_eq_true rfl) (fun p e s m below meth c A ls hx hb hr hml hts hown hlocks hA hP hK hD hF hS hl => ?_)
  have hl : lv_has ls 1 [(0, .int x0)] := hl
  refine lv_iload_n hx hb d_Model_pageFault_0 rfl (lv_at hl 0 rfl) ?_
  refine lv_if_ne (tgt := 9) hx hb d_Model_pageFault_1 (by decide) (fun c_1 => ?_) (fun c_1 => ?_)
  · refine lv_iload_n hx hb d_Model_pageFault_9 rfl (lv_at hl 0 rfl) ?_
    refine lv_iconst (v := 1) hx hb d_Model_pageFault_10 rfl ?_
    refine lv_icmp_ne (tgt := 19) hx hb d_Model_pageFault_11 (by decide) (fun c_2 => ?_) (fun c_2 => ?_)
    · refine lv_bipush (v := 15) hx hb d_Model_pageFault_19 rfl ?_
      exact ri () hx hb hr hlocks hP hD hS d_Model_pageFault_21 (by simp only [sp_Model_pageFault, if_neg c_1, if_neg c_2])
    · refine lv_bipush (v := 13) hx hb d_Model_pageFault_14 rfl ?_
      refine lv_goto (tgt := 21) hx hb d_Model_pageFault_16 (by decide) ?_
      exact ri () hx hb hr hlocks hP hD hS d_Model_pageFault_21 (by simp only [sp_Model_pageFault, if_neg c_1, if_pos c_2])
  · refine lv_bipush (v := 12) hx hb d_Model_pageFault_4 rfl ?_
    refine lv_goto (tgt := 21) hx hb d_Model_pageFault_6 (by decide) ?_
    exact ri () hx hb hr hlocks hP hD hS d_Model_pageFault_21 (by simp only [sp_Model_pageFault, if_pos c_1])
def sp_Model_levelFor (x0 : Int32) (h : Int32) (lv : Nat → Int32) (cs : Nat → Int32) : Int32 :=
  if x0 = 0 then
    lv h.toNatClampNeg
  else
    if (lv h.toNatClampNeg) = 3 then
      if (sp_Model_has 131072 h cs) = 0 then
        lv h.toNatClampNeg
      else
        (shr (sp_Model_raw h 768 cs) 11) &&& 3
    else
      lv h.toNatClampNeg
set_option maxHeartbeats 4000000 in
set_option maxRecDepth 100000 in
theorem c_Model_levelFor {l : Launch} {D : va_G} {g : Nat → Nat} (a : Nat → Nat) (k : Nat → ClassId) (n : Nat) (x0 : Int32) (h ca tv nx : Int32) (pcs lv cs x b cl : Nat → Int32) (cm : Nat → Int64) (so : Nat → Int32) (ti : Int64) (pu : Nat → Int32) (np : Int32) (hn : n ≤ 4096) (hh : h = 0 ∨ h = 1) : CT l D g y_Model_levelFor b_Model_levelFor 2 (some .int) (rD 2) [.ref (a 0), .int x0] (wR a k n h ca tv nx pcs lv cs x b cl cm so ti pu np) (tyR k) (Qi D (fun (r : Int32) (_ : Unit) => sp_Model_levelFor x0 h lv cs = r) (fun _ => wR a k n h ca tv nx pcs lv cs x b cl cm so ti pu np)) := by
  refine CT.of rfl (Nat.le_of_ble_eq_true rfl) (fun p e s m below meth c A ls hx hb hr hml hts hown hlocks hA hP hK hD hF hS hl => ?_)
  have hl : lv_has ls 2 [(0, .ref (a 0)), (1, .int x0)] := hl
  refine lv_iload_n hx hb d_Model_levelFor_0 rfl (lv_at hl 1 rfl) ?_
  refine lv_if_eq (tgt := 45) hx hb d_Model_levelFor_1 (by decide) (fun c_1 => ?_) (fun c_1 => ?_)
  · refine lv_aload_n hx hb d_Model_levelFor_45 rfl (lv_at hl 0 rfl) ?_
    refine va_get (D := D) (ci := 5) (v := .ref (a 4)) (C := R_Model) (T := F_Model) (N := 16) hx hb hts i_Model hown hK hP 0 rfl rfl 4 (by decide) (hts _ k_629) (fun _ h9 => h9) rfl d_Model_levelFor_46 ?_
    refine lv_aload_n hx hb d_Model_levelFor_49 rfl (lv_at hl 0 rfl) ?_
    refine va_get (D := D) (ci := 5) (v := .int h) (C := R_Model) (T := F_Model) (N := 16) hx hb hts i_Model hown hK hP 0 rfl rfl 12 (by decide) (hts _ k_637) (fun _ h9 => h9) rfl d_Model_levelFor_50 ?_
    refine y_iald (v := lv h.toNatClampNeg) hx hb hK hP 4 3 rfl rfl (vp_01 hh (by decide)) rfl d_Model_levelFor_53 ?_
    exact ri () hx hb hr hlocks hP hD hS d_Model_levelFor_54 (by simp only [sp_Model_levelFor, if_pos c_1])
  · refine lv_aload_n hx hb d_Model_levelFor_4 rfl (lv_at hl 0 rfl) ?_
    refine va_get (D := D) (ci := 5) (v := .ref (a 4)) (C := R_Model) (T := F_Model) (N := 16) hx hb hts i_Model hown hK hP 0 rfl rfl 4 (by decide) (hts _ k_629) (fun _ h9 => h9) rfl d_Model_levelFor_5 ?_
    refine lv_aload_n hx hb d_Model_levelFor_8 rfl (lv_at hl 0 rfl) ?_
    refine va_get (D := D) (ci := 5) (v := .int h) (C := R_Model) (T := F_Model) (N := 16) hx hb hts i_Model hown hK hP 0 rfl rfl 12 (by decide) (hts _ k_637) (fun _ h9 => h9) rfl d_Model_levelFor_9 ?_
    refine y_iald (v := lv h.toNatClampNeg) hx hb hK hP 4 3 rfl rfl (vp_01 hh (by decide)) rfl d_Model_levelFor_12 ?_
    refine lv_iconst (v := 3) hx hb d_Model_levelFor_13 rfl ?_
    refine lv_icmp_ne (tgt := 45) hx hb d_Model_levelFor_14 (by decide) (fun c_2 => ?_) (fun c_2 => ?_)
    · refine lv_aload_n hx hb d_Model_levelFor_45 rfl (lv_at hl 0 rfl) ?_
      refine va_get (D := D) (ci := 5) (v := .ref (a 4)) (C := R_Model) (T := F_Model) (N := 16) hx hb hts i_Model hown hK hP 0 rfl rfl 4 (by decide) (hts _ k_629) (fun _ h9 => h9) rfl d_Model_levelFor_46 ?_
      refine lv_aload_n hx hb d_Model_levelFor_49 rfl (lv_at hl 0 rfl) ?_
      refine va_get (D := D) (ci := 5) (v := .int h) (C := R_Model) (T := F_Model) (N := 16) hx hb hts i_Model hown hK hP 0 rfl rfl 12 (by decide) (hts _ k_637) (fun _ h9 => h9) rfl d_Model_levelFor_50 ?_
      refine y_iald (v := lv h.toNatClampNeg) hx hb hK hP 4 3 rfl rfl (vp_01 hh (by decide)) rfl d_Model_levelFor_53 ?_
      exact ri () hx hb hr hlocks hP hD hS d_Model_levelFor_54 (by simp only [sp_Model_levelFor, if_neg c_1, if_neg c_2])
    · refine lv_aload_n hx hb d_Model_levelFor_17 rfl (lv_at hl 0 rfl) ?_
      refine lv_ldc (v := 131072) hx hb hown (hts _ k_750) d_Model_levelFor_18 ?_
      refine xi (wr := []) (W2 := fun _ => wR a k n h ca tv nx pcs lv cs x b cl cm so ti pu np) (xV (rest := []) ⟨hx, hb, hml, hown, hts⟩ (c_Model_has a k n 131072 h ca tv nx pcs lv cs x b cl cm so ti pu np hn hh) mw_Model_has mv_Model_has k_726 ⟨rfl, rfl, Nat.le_of_ble_eq_true rfl, Nat.le_of_ble_eq_true rfl⟩ hK hP hD hS hA hF [0, 1, 2, 3, 4, 5, 6, 7, 8, 9] [0, 1, 2, 3, 4, 5, 6, 7, 8] rfl rfl rfl 0 5 rfl rfl rfl rfl hl.1 rfl (Nat.le_of_ble_eq_true rfl) d_Model_levelFor_20 ⟨Nat.zero_le _, Nat.zero_le _⟩) hP hD hS hA [0, 1, 2, 3, 4, 5, 6, 7, 8, 9] [] [0, 1, 2, 3, 4, 5, 6, 7, 8, 9] rfl rfl rfl (by decide) (fun _ => rfl) rfl (fun r_3 _ H locs h_3 hP hD hS => ?_)
      obtain ⟨h_3, z_3⟩ := h_3
      subst h_3
      refine lv_if_eq (tgt := 45) hx hb d_Model_levelFor_23 (by decide) (fun c_4 => ?_) (fun c_4 => ?_)
      · refine lv_aload_n hx hb d_Model_levelFor_45 rfl (lv_at hl 0 rfl) ?_
        refine va_get (D := D) (ci := 5) (v := .ref (a 4)) (C := R_Model) (T := F_Model) (N := 16) hx hb hts i_Model hown hK hP 0 rfl rfl 4 (by decide) (hts _ k_629) (fun _ h9 => h9) rfl d_Model_levelFor_46 ?_
        refine lv_aload_n hx hb d_Model_levelFor_49 rfl (lv_at hl 0 rfl) ?_
        refine va_get (D := D) (ci := 5) (v := .int h) (C := R_Model) (T := F_Model) (N := 16) hx hb hts i_Model hown hK hP 0 rfl rfl 12 (by decide) (hts _ k_637) (fun _ h9 => h9) rfl d_Model_levelFor_50 ?_
        refine y_iald (v := lv h.toNatClampNeg) hx hb hK hP 4 3 rfl rfl (vp_01 hh (by decide)) rfl d_Model_levelFor_53 ?_
        exact ri () hx hb hr hlocks hP hD hS d_Model_levelFor_54 (by simp only [sp_Model_levelFor, if_neg c_1, if_pos c_2, if_pos c_4])
      · refine lv_aload_n hx hb d_Model_levelFor_26 rfl (lv_at hl 0 rfl) ?_
        refine lv_aload_n hx hb d_Model_levelFor_27 rfl (lv_at hl 0 rfl) ?_
        refine va_get (D := D) (ci := 5) (v := .int h) (C := R_Model) (T := F_Model) (N := 16) hx hb hts i_Model hown hK hP 0 rfl rfl 12 (by decide) (hts _ k_637) (fun _ h9 => h9) rfl d_Model_levelFor_28 ?_
        refine lv_sipush (v := 768) hx hb d_Model_levelFor_31 rfl ?_
        refine xi (wr := []) (W2 := fun _ => wR a k n h ca tv nx pcs lv cs x b cl cm so ti pu np) (xV (rest := []) ⟨hx, hb, hml, hown, hts⟩ (c_Model_raw a k n h 768 h ca tv nx pcs lv cs x b cl cm so ti pu np hn (vp_csr hh (by unfold vp_in; decide))) mw_Model_raw mv_Model_raw k_714 ⟨rfl, rfl, Nat.le_of_ble_eq_true rfl, Nat.le_of_ble_eq_true rfl⟩ hK hP hD hS hA hF [0, 1, 2, 3, 4, 5, 6, 7, 8, 9] [0, 1, 2, 3, 4, 5, 6, 7, 8] rfl rfl rfl 0 5 rfl rfl rfl rfl hl.1 rfl (Nat.le_of_ble_eq_true rfl) d_Model_levelFor_34 ⟨Nat.zero_le _, Nat.zero_le _⟩) hP hD hS hA [0, 1, 2, 3, 4, 5, 6, 7, 8, 9] [] [0, 1, 2, 3, 4, 5, 6, 7, 8, 9] rfl rfl rfl (by decide) (fun _ => rfl) rfl (fun r_5 _ H locs h_5 hP hD hS => ?_)
        subst h_5
        refine lv_bipush (v := 11) hx hb d_Model_levelFor_37 rfl ?_
        refine y_ishr hx hb d_Model_levelFor_39 ?_
        refine lv_iconst (v := 3) hx hb d_Model_levelFor_40 rfl ?_
        refine lv_iand hx hb d_Model_levelFor_41 ?_
        refine lv_goto (tgt := 54) hx hb d_Model_levelFor_42 (by decide) ?_
        exact ri () hx hb hr hlocks hP hD hS d_Model_levelFor_54 (by simp only [sp_Model_levelFor, if_neg c_1, if_pos c_2, if_neg c_4])
def sp_Model_isLeaf (x0 : Int32)  : Int32 :=
  if (x0 &&& 10) = 0 then
    0
  else
    1
set_option maxHeartbeats 4000000 in
set_option maxRecDepth 100000 in
theorem c_Model_isLeaf {l : Launch} {D : va_G} {g : Nat → Nat}  (x0 : Int32)   : CT l D g y_Model_isLeaf b_Model_isLeaf 1 (some .boolean) (rD 0) [.int x0] [] [] (Qi D (fun (r : Int32) (_ : Unit) => sp_Model_isLeaf x0 = r ∧ (r = 0 ∨ r = 1)) (fun _ => [])) := by
  refine CT.of rfl (Nat.le_of_ble_eq_true rfl) (fun p e s m below meth c A ls hx hb hr hml hts hown hlocks hA hP hK hD hF hS hl => ?_)
  have hl : lv_has ls 1 [(0, .int x0)] := hl
  refine lv_iload_n hx hb d_Model_isLeaf_0 rfl (lv_at hl 0 rfl) ?_
  refine lv_bipush (v := 10) hx hb d_Model_isLeaf_1 rfl ?_
  refine lv_iand hx hb d_Model_isLeaf_3 ?_
  refine lv_if_eq (tgt := 11) hx hb d_Model_isLeaf_4 (by decide) (fun c_1 => ?_) (fun c_1 => ?_)
  · refine lv_iconst (v := 0) hx hb d_Model_isLeaf_11 rfl ?_
    exact rz () hx hb hr hlocks rfl hP hD hS d_Model_isLeaf_12 ⟨by simp only [sp_Model_isLeaf, if_pos c_1], Or.inl rfl⟩
  · refine lv_iconst (v := 1) hx hb d_Model_isLeaf_7 rfl ?_
    refine lv_goto (tgt := 12) hx hb d_Model_isLeaf_8 (by decide) ?_
    exact rz () hx hb hr hlocks rfl hP hD hS d_Model_isLeaf_12 ⟨by simp only [sp_Model_isLeaf, if_neg c_1], Or.inr rfl⟩
def sp_Model_isBad (x0 : Int32)  : Int32 :=
  if (x0 &&& 1) = 0 then
    1
  else
    if (x0 &&& 6) = 4 then
      1
    else
      0
set_option maxHeartbeats 4000000 in
set_option maxRecDepth 100000 in
theorem c_Model_isBad {l : Launch} {D : va_G} {g : Nat → Nat}  (x0 : Int32)   : CT l D g y_Model_isBad b_Model_isBad 1 (some .boolean) (rD 0) [.int x0] [] [] (Qi D (fun (r : Int32) (_ : Unit) => sp_Model_isBad x0 = r ∧ (r = 0 ∨ r = 1)) (fun _ => [])) := by
  refine CT.of rfl (Nat.le_of_ble_eq_true rfl) (fun p e s m below meth c A ls hx hb hr hml hts hown hlocks hA hP hK hD hF hS hl => ?_)
  have hl : lv_has ls 1 [(0, .int x0)] := hl
  refine lv_iload_n hx hb d_Model_isBad_0 rfl (lv_at hl 0 rfl) ?_
  refine lv_iconst (v := 1) hx hb d_Model_isBad_1 rfl ?_
  refine lv_iand hx hb d_Model_isBad_2 ?_
  refine lv_if_eq (tgt := 14) hx hb d_Model_isBad_3 (by decide) (fun c_1 => ?_) (fun c_1 => ?_)
  · refine lv_iconst (v := 1) hx hb d_Model_isBad_14 rfl ?_
    refine lv_goto (tgt := 19) hx hb d_Model_isBad_15 (by decide) ?_
    exact rz () hx hb hr hlocks rfl hP hD hS d_Model_isBad_19 ⟨by simp only [sp_Model_isBad, if_pos c_1], Or.inr rfl⟩
  · refine lv_iload_n hx hb d_Model_isBad_6 rfl (lv_at hl 0 rfl) ?_
    refine lv_bipush (v := 6) hx hb d_Model_isBad_7 rfl ?_
    refine lv_iand hx hb d_Model_isBad_9 ?_
    refine lv_iconst (v := 4) hx hb d_Model_isBad_10 rfl ?_
    refine lv_icmp_ne (tgt := 18) hx hb d_Model_isBad_11 (by decide) (fun c_2 => ?_) (fun c_2 => ?_)
    · refine lv_iconst (v := 0) hx hb d_Model_isBad_18 rfl ?_
      exact rz () hx hb hr hlocks rfl hP hD hS d_Model_isBad_19 ⟨by simp only [sp_Model_isBad, if_neg c_1, if_neg c_2], Or.inl rfl⟩
    · refine lv_iconst (v := 1) hx hb d_Model_isBad_14 rfl ?_
      refine lv_goto (tgt := 19) hx hb d_Model_isBad_15 (by decide) ?_
      exact rz () hx hb hr hlocks rfl hP hD hS d_Model_isBad_19 ⟨by simp only [sp_Model_isBad, if_neg c_1, if_pos c_2], Or.inr rfl⟩
def sp_Model_lets (x0 : Int32) (x1 : Int32) (x2 : Int32) (h : Int32) (cs : Nat → Int32) : Int32 :=
  if (x0 &&& 16) = 0 then
    if x2 = 0 then
      0
    else
      if x2 = 1 then
        if x1 = 0 then
          if (x0 &&& 8) = 0 then
            0
          else
            if (x0 &&& 64) = 0 then
              0
            else
              1
        else
          if x1 = 2 then
            if (x0 &&& 4) = 0 then
              0
            else
              if (x0 &&& 64) = 0 then
                0
              else
                if (x0 &&& 128) = 0 then
                  0
                else
                  1
          else
            if (x0 &&& 2) = 0 then
              if (sp_Model_has 524288 h cs) = 0 then
                0
              else
                if (x0 &&& 8) = 0 then
                  0
                else
                  if (x0 &&& 64) = 0 then
                    0
                  else
                    1
            else
              if (x0 &&& 64) = 0 then
                0
              else
                1
      else
        if x1 = 0 then
          if (x0 &&& 8) = 0 then
            0
          else
            if (x0 &&& 64) = 0 then
              0
            else
              1
        else
          if x1 = 2 then
            if (x0 &&& 4) = 0 then
              0
            else
              if (x0 &&& 64) = 0 then
                0
              else
                if (x0 &&& 128) = 0 then
                  0
                else
                  1
          else
            if (x0 &&& 2) = 0 then
              if (sp_Model_has 524288 h cs) = 0 then
                0
              else
                if (x0 &&& 8) = 0 then
                  0
                else
                  if (x0 &&& 64) = 0 then
                    0
                  else
                    1
            else
              if (x0 &&& 64) = 0 then
                0
              else
                1
  else
    if x2 = 0 then
      if x1 = 0 then
        if (x0 &&& 8) = 0 then
          0
        else
          if (x0 &&& 64) = 0 then
            0
          else
            1
      else
        if x1 = 2 then
          if (x0 &&& 4) = 0 then
            0
          else
            if (x0 &&& 64) = 0 then
              0
            else
              if (x0 &&& 128) = 0 then
                0
              else
                1
        else
          if (x0 &&& 2) = 0 then
            if (sp_Model_has 524288 h cs) = 0 then
              0
            else
              if (x0 &&& 8) = 0 then
                0
              else
                if (x0 &&& 64) = 0 then
                  0
                else
                  1
          else
            if (x0 &&& 64) = 0 then
              0
            else
              1
    else
      if x2 = 1 then
        if x1 = 0 then
          0
        else
          if (sp_Model_has 262144 h cs) = 0 then
            0
          else
            if x1 = 2 then
              if (x0 &&& 4) = 0 then
                0
              else
                if (x0 &&& 64) = 0 then
                  0
                else
                  if (x0 &&& 128) = 0 then
                    0
                  else
                    1
            else
              if (x0 &&& 2) = 0 then
                if (sp_Model_has 524288 h cs) = 0 then
                  0
                else
                  if (x0 &&& 8) = 0 then
                    0
                  else
                    if (x0 &&& 64) = 0 then
                      0
                    else
                      1
              else
                if (x0 &&& 64) = 0 then
                  0
                else
                  1
      else
        if x1 = 0 then
          if (x0 &&& 8) = 0 then
            0
          else
            if (x0 &&& 64) = 0 then
              0
            else
              1
        else
          if x1 = 2 then
            if (x0 &&& 4) = 0 then
              0
            else
              if (x0 &&& 64) = 0 then
                0
              else
                if (x0 &&& 128) = 0 then
                  0
                else
                  1
          else
            if (x0 &&& 2) = 0 then
              if (sp_Model_has 524288 h cs) = 0 then
                0
              else
                if (x0 &&& 8) = 0 then
                  0
                else
                  if (x0 &&& 64) = 0 then
                    0
                  else
                    1
            else
              if (x0 &&& 64) = 0 then
                0
              else
                1
set_option maxHeartbeats 4000000 in
set_option maxRecDepth 100000 in
theorem c_Model_lets {l : Launch} {D : va_G} {g : Nat → Nat} (a : Nat → Nat) (k : Nat → ClassId) (n : Nat) (x0 : Int32) (x1 : Int32) (x2 : Int32) (h ca tv nx : Int32) (pcs lv cs x b cl : Nat → Int32) (cm : Nat → Int64) (so : Nat → Int32) (ti : Int64) (pu : Nat → Int32) (np : Int32) (hn : n ≤ 4096) (hh : h = 0 ∨ h = 1) : CT l D g y_Model_lets b_Model_lets 6 (some .boolean) (rD 2) [.ref (a 0), .int x0, .int x1, .int x2] (wR a k n h ca tv nx pcs lv cs x b cl cm so ti pu np) (tyR k) (Qi D (fun (r : Int32) (_ : Unit) => sp_Model_lets x0 x1 x2 h cs = r ∧ (r = 0 ∨ r = 1)) (fun _ => wR a k n h ca tv nx pcs lv cs x b cl cm so ti pu np)) := by
  refine CT.of rfl (Nat.le_of_ble_eq_true rfl) (fun p e s m below meth c A ls hx hb hr hml hts hown hlocks hA hP hK hD hF hS hl => ?_)
  have hl : lv_has ls 6 [(0, .ref (a 0)), (1, .int x0), (2, .int x1), (3, .int x2)] := hl
  refine lv_iload_n hx hb d_Model_lets_0 rfl (lv_at hl 1 rfl) ?_
  refine lv_bipush (v := 16) hx hb d_Model_lets_1 rfl ?_
  refine lv_iand hx hb d_Model_lets_3 ?_
  refine lv_if_eq (tgt := 11) hx hb d_Model_lets_4 (by decide) (fun c_1 => ?_) (fun c_1 => ?_)
  · refine lv_iconst (v := 0) hx hb d_Model_lets_11 rfl ?_
    refine lv_istore (lv' := [(4, .int 0), (0, .ref (a 0)), (1, .int x0), (2, .int x1), (3, .int x2)]) hx hb d_Model_lets_12 hl (by decide) rfl (fun ls hl => ?_)
    refine lv_iload_n hx hb d_Model_lets_14 rfl (lv_at hl 4 rfl) ?_
    refine lv_if_ne (tgt := 23) hx hb d_Model_lets_15 (by decide) (fun c_2 => ?_) (fun c_2 => ?_)
    · refine lv_iload_n hx hb d_Model_lets_23 rfl (lv_at hl 4 rfl) ?_
      refine lv_iconst (v := 1) hx hb d_Model_lets_24 rfl ?_
      refine lv_icmp_ne (tgt := 48) hx hb d_Model_lets_25 (by decide) (fun c_3 => ?_) (fun c_3 => ?_)
      · refine lv_iload_n hx hb d_Model_lets_48 rfl (lv_at hl 3 rfl) ?_
        refine lv_if_ne (tgt := 67) hx hb d_Model_lets_49 (by decide) (fun c_4 => ?_) (fun c_4 => ?_)
        · refine lv_iload_n hx hb d_Model_lets_67 rfl (lv_at hl 3 rfl) ?_
          refine lv_iconst (v := 2) hx hb d_Model_lets_68 rfl ?_
          refine lv_icmp_ne (tgt := 86) hx hb d_Model_lets_69 (by decide) (fun c_5 => ?_) (fun c_5 => ?_)
          · refine lv_iload_n hx hb d_Model_lets_86 rfl (lv_at hl 2 rfl) ?_
            refine lv_iconst (v := 2) hx hb d_Model_lets_87 rfl ?_
            refine lv_iand hx hb d_Model_lets_88 ?_
            refine lv_if_ne (tgt := 108) hx hb d_Model_lets_89 (by decide) (fun c_6 => ?_) (fun c_6 => ?_)
            · refine lv_iconst (v := 1) hx hb d_Model_lets_108 rfl ?_
              refine lv_goto (tgt := 113) hx hb d_Model_lets_109 (by decide) ?_
              refine lv_istore (lv' := [(5, .int 1), (4, .int 0), (0, .ref (a 0)), (1, .int x0), (2, .int x1), (3, .int x2)]) hx hb d_Model_lets_113 hl (by decide) rfl (fun ls hl => ?_)
              refine lv_iload hx hb d_Model_lets_115 (lv_at hl 0 rfl) ?_
              refine lv_if_eq (tgt := 144) hx hb d_Model_lets_117 (by decide) (fun h9 => absurd h9 (by decide)) (fun _ => ?_)
              refine lv_iload_n hx hb d_Model_lets_120 rfl (lv_at hl 3 rfl) ?_
              refine lv_bipush (v := 64) hx hb d_Model_lets_121 rfl ?_
              refine lv_iand hx hb d_Model_lets_123 ?_
              refine lv_if_eq (tgt := 144) hx hb d_Model_lets_124 (by decide) (fun c_8 => ?_) (fun c_8 => ?_)
              · refine lv_iconst (v := 0) hx hb d_Model_lets_144 rfl ?_
                exact rz () hx hb hr hlocks rfl hP hD hS d_Model_lets_145 ⟨by simp only [sp_Model_lets, if_pos c_1, if_neg c_2, if_neg c_3, if_neg c_4, if_neg c_5, if_neg c_6, if_pos c_8], Or.inl rfl⟩
              · refine lv_iload_n hx hb d_Model_lets_127 rfl (lv_at hl 4 rfl) ?_
                refine lv_iconst (v := 2) hx hb d_Model_lets_128 rfl ?_
                refine lv_icmp_ne (tgt := 140) hx hb d_Model_lets_129 (by decide) (fun _ => ?_) (fun h9 => absurd h9 c_5)
                refine lv_iconst (v := 1) hx hb d_Model_lets_140 rfl ?_
                refine lv_goto (tgt := 145) hx hb d_Model_lets_141 (by decide) ?_
                exact rz () hx hb hr hlocks rfl hP hD hS d_Model_lets_145 ⟨by simp only [sp_Model_lets, if_pos c_1, if_neg c_2, if_neg c_3, if_neg c_4, if_neg c_5, if_neg c_6, if_neg c_8], Or.inr rfl⟩
            · refine lv_aload_n hx hb d_Model_lets_92 rfl (lv_at hl 1 rfl) ?_
              refine lv_ldc (v := 524288) hx hb hown (hts _ k_778) d_Model_lets_93 ?_
              refine xi (wr := []) (W2 := fun _ => wR a k n h ca tv nx pcs lv cs x b cl cm so ti pu np) (xV (rest := []) ⟨hx, hb, hml, hown, hts⟩ (c_Model_has a k n 524288 h ca tv nx pcs lv cs x b cl cm so ti pu np hn hh) mw_Model_has mv_Model_has k_726 ⟨rfl, rfl, Nat.le_of_ble_eq_true rfl, Nat.le_of_ble_eq_true rfl⟩ hK hP hD hS hA hF [0, 1, 2, 3, 4, 5, 6, 7, 8, 9] [0, 1, 2, 3, 4, 5, 6, 7, 8] rfl rfl rfl 0 5 rfl rfl rfl rfl hl.1 rfl (Nat.le_of_ble_eq_true rfl) d_Model_lets_95 ⟨Nat.zero_le _, Nat.zero_le _⟩) hP hD hS hA [0, 1, 2, 3, 4, 5, 6, 7, 8, 9] [] [0, 1, 2, 3, 4, 5, 6, 7, 8, 9] rfl rfl rfl (by decide) (fun _ => rfl) rfl (fun r_10 _ H locs h_10 hP hD hS => ?_)
              obtain ⟨h_10, z_10⟩ := h_10
              subst h_10
              refine lv_if_eq (tgt := 112) hx hb d_Model_lets_98 (by decide) (fun c_11 => ?_) (fun c_11 => ?_)
              · refine lv_iconst (v := 0) hx hb d_Model_lets_112 rfl ?_
                refine lv_istore (lv' := [(5, .int 0), (4, .int 0), (0, .ref (a 0)), (1, .int x0), (2, .int x1), (3, .int x2)]) hx hb d_Model_lets_113 hl (by decide) rfl (fun ls hl => ?_)
                refine lv_iload hx hb d_Model_lets_115 (lv_at hl 0 rfl) ?_
                refine lv_if_eq (tgt := 144) hx hb d_Model_lets_117 (by decide) (fun _ => ?_) (fun h9 => absurd (by decide) h9)
                refine lv_iconst (v := 0) hx hb d_Model_lets_144 rfl ?_
                exact rz () hx hb hr hlocks rfl hP hD hS d_Model_lets_145 ⟨by simp only [sp_Model_lets, if_pos c_1, if_neg c_2, if_neg c_3, if_neg c_4, if_neg c_5, if_pos c_6, if_pos c_11], Or.inl rfl⟩
              · refine lv_iload_n hx hb d_Model_lets_101 rfl (lv_at hl 2 rfl) ?_
                refine lv_bipush (v := 8) hx hb d_Model_lets_102 rfl ?_
                refine lv_iand hx hb d_Model_lets_104 ?_
                refine lv_if_eq (tgt := 112) hx hb d_Model_lets_105 (by decide) (fun c_13 => ?_) (fun c_13 => ?_)
                · refine lv_iconst (v := 0) hx hb d_Model_lets_112 rfl ?_
                  refine lv_istore (lv' := [(5, .int 0), (4, .int 0), (0, .ref (a 0)), (1, .int x0), (2, .int x1), (3, .int x2)]) hx hb d_Model_lets_113 hl (by decide) rfl (fun ls hl => ?_)
                  refine lv_iload hx hb d_Model_lets_115 (lv_at hl 0 rfl) ?_
                  refine lv_if_eq (tgt := 144) hx hb d_Model_lets_117 (by decide) (fun _ => ?_) (fun h9 => absurd (by decide) h9)
                  refine lv_iconst (v := 0) hx hb d_Model_lets_144 rfl ?_
                  exact rz () hx hb hr hlocks rfl hP hD hS d_Model_lets_145 ⟨by simp only [sp_Model_lets, if_pos c_1, if_neg c_2, if_neg c_3, if_neg c_4, if_neg c_5, if_pos c_6, if_neg c_11, if_pos c_13], Or.inl rfl⟩
                · refine lv_iconst (v := 1) hx hb d_Model_lets_108 rfl ?_
                  refine lv_goto (tgt := 113) hx hb d_Model_lets_109 (by decide) ?_
                  refine lv_istore (lv' := [(5, .int 1), (4, .int 0), (0, .ref (a 0)), (1, .int x0), (2, .int x1), (3, .int x2)]) hx hb d_Model_lets_113 hl (by decide) rfl (fun ls hl => ?_)
                  refine lv_iload hx hb d_Model_lets_115 (lv_at hl 0 rfl) ?_
                  refine lv_if_eq (tgt := 144) hx hb d_Model_lets_117 (by decide) (fun h9 => absurd h9 (by decide)) (fun _ => ?_)
                  refine lv_iload_n hx hb d_Model_lets_120 rfl (lv_at hl 3 rfl) ?_
                  refine lv_bipush (v := 64) hx hb d_Model_lets_121 rfl ?_
                  refine lv_iand hx hb d_Model_lets_123 ?_
                  refine lv_if_eq (tgt := 144) hx hb d_Model_lets_124 (by decide) (fun c_16 => ?_) (fun c_16 => ?_)
                  · refine lv_iconst (v := 0) hx hb d_Model_lets_144 rfl ?_
                    exact rz () hx hb hr hlocks rfl hP hD hS d_Model_lets_145 ⟨by simp only [sp_Model_lets, if_pos c_1, if_neg c_2, if_neg c_3, if_neg c_4, if_neg c_5, if_pos c_6, if_neg c_11, if_neg c_13, if_pos c_16], Or.inl rfl⟩
                  · refine lv_iload_n hx hb d_Model_lets_127 rfl (lv_at hl 4 rfl) ?_
                    refine lv_iconst (v := 2) hx hb d_Model_lets_128 rfl ?_
                    refine lv_icmp_ne (tgt := 140) hx hb d_Model_lets_129 (by decide) (fun _ => ?_) (fun h9 => absurd h9 c_5)
                    refine lv_iconst (v := 1) hx hb d_Model_lets_140 rfl ?_
                    refine lv_goto (tgt := 145) hx hb d_Model_lets_141 (by decide) ?_
                    exact rz () hx hb hr hlocks rfl hP hD hS d_Model_lets_145 ⟨by simp only [sp_Model_lets, if_pos c_1, if_neg c_2, if_neg c_3, if_neg c_4, if_neg c_5, if_pos c_6, if_neg c_11, if_neg c_13, if_neg c_16], Or.inr rfl⟩
          · refine lv_iload_n hx hb d_Model_lets_72 rfl (lv_at hl 2 rfl) ?_
            refine lv_iconst (v := 4) hx hb d_Model_lets_73 rfl ?_
            refine lv_iand hx hb d_Model_lets_74 ?_
            refine lv_if_eq (tgt := 82) hx hb d_Model_lets_75 (by decide) (fun c_18 => ?_) (fun c_18 => ?_)
            · refine lv_iconst (v := 0) hx hb d_Model_lets_82 rfl ?_
              refine lv_goto (tgt := 113) hx hb d_Model_lets_83 (by decide) ?_
              refine lv_istore (lv' := [(5, .int 0), (4, .int 0), (0, .ref (a 0)), (1, .int x0), (2, .int x1), (3, .int x2)]) hx hb d_Model_lets_113 hl (by decide) rfl (fun ls hl => ?_)
              refine lv_iload hx hb d_Model_lets_115 (lv_at hl 0 rfl) ?_
              refine lv_if_eq (tgt := 144) hx hb d_Model_lets_117 (by decide) (fun _ => ?_) (fun h9 => absurd (by decide) h9)
              refine lv_iconst (v := 0) hx hb d_Model_lets_144 rfl ?_
              exact rz () hx hb hr hlocks rfl hP hD hS d_Model_lets_145 ⟨by simp only [sp_Model_lets, if_pos c_1, if_neg c_2, if_neg c_3, if_neg c_4, if_pos c_5, if_pos c_18], Or.inl rfl⟩
            · refine lv_iconst (v := 1) hx hb d_Model_lets_78 rfl ?_
              refine lv_goto (tgt := 113) hx hb d_Model_lets_79 (by decide) ?_
              refine lv_istore (lv' := [(5, .int 1), (4, .int 0), (0, .ref (a 0)), (1, .int x0), (2, .int x1), (3, .int x2)]) hx hb d_Model_lets_113 hl (by decide) rfl (fun ls hl => ?_)
              refine lv_iload hx hb d_Model_lets_115 (lv_at hl 0 rfl) ?_
              refine lv_if_eq (tgt := 144) hx hb d_Model_lets_117 (by decide) (fun h9 => absurd h9 (by decide)) (fun _ => ?_)
              refine lv_iload_n hx hb d_Model_lets_120 rfl (lv_at hl 3 rfl) ?_
              refine lv_bipush (v := 64) hx hb d_Model_lets_121 rfl ?_
              refine lv_iand hx hb d_Model_lets_123 ?_
              refine lv_if_eq (tgt := 144) hx hb d_Model_lets_124 (by decide) (fun c_21 => ?_) (fun c_21 => ?_)
              · refine lv_iconst (v := 0) hx hb d_Model_lets_144 rfl ?_
                exact rz () hx hb hr hlocks rfl hP hD hS d_Model_lets_145 ⟨by simp only [sp_Model_lets, if_pos c_1, if_neg c_2, if_neg c_3, if_neg c_4, if_pos c_5, if_neg c_18, if_pos c_21], Or.inl rfl⟩
              · refine lv_iload_n hx hb d_Model_lets_127 rfl (lv_at hl 4 rfl) ?_
                refine lv_iconst (v := 2) hx hb d_Model_lets_128 rfl ?_
                refine lv_icmp_ne (tgt := 140) hx hb d_Model_lets_129 (by decide) (fun h9 => absurd c_5 h9) (fun _ => ?_)
                refine lv_iload_n hx hb d_Model_lets_132 rfl (lv_at hl 3 rfl) ?_
                refine lv_sipush (v := 128) hx hb d_Model_lets_133 rfl ?_
                refine lv_iand hx hb d_Model_lets_136 ?_
                refine lv_if_eq (tgt := 144) hx hb d_Model_lets_137 (by decide) (fun c_23 => ?_) (fun c_23 => ?_)
                · refine lv_iconst (v := 0) hx hb d_Model_lets_144 rfl ?_
                  exact rz () hx hb hr hlocks rfl hP hD hS d_Model_lets_145 ⟨by simp only [sp_Model_lets, if_pos c_1, if_neg c_2, if_neg c_3, if_neg c_4, if_pos c_5, if_neg c_18, if_neg c_21, if_pos c_23], Or.inl rfl⟩
                · refine lv_iconst (v := 1) hx hb d_Model_lets_140 rfl ?_
                  refine lv_goto (tgt := 145) hx hb d_Model_lets_141 (by decide) ?_
                  exact rz () hx hb hr hlocks rfl hP hD hS d_Model_lets_145 ⟨by simp only [sp_Model_lets, if_pos c_1, if_neg c_2, if_neg c_3, if_neg c_4, if_pos c_5, if_neg c_18, if_neg c_21, if_neg c_23], Or.inr rfl⟩
        · refine lv_iload_n hx hb d_Model_lets_52 rfl (lv_at hl 2 rfl) ?_
          refine lv_bipush (v := 8) hx hb d_Model_lets_53 rfl ?_
          refine lv_iand hx hb d_Model_lets_55 ?_
          refine lv_if_eq (tgt := 63) hx hb d_Model_lets_56 (by decide) (fun c_24 => ?_) (fun c_24 => ?_)
          · refine lv_iconst (v := 0) hx hb d_Model_lets_63 rfl ?_
            refine lv_goto (tgt := 113) hx hb d_Model_lets_64 (by decide) ?_
            refine lv_istore (lv' := [(5, .int 0), (4, .int 0), (0, .ref (a 0)), (1, .int x0), (2, .int x1), (3, .int x2)]) hx hb d_Model_lets_113 hl (by decide) rfl (fun ls hl => ?_)
            refine lv_iload hx hb d_Model_lets_115 (lv_at hl 0 rfl) ?_
            refine lv_if_eq (tgt := 144) hx hb d_Model_lets_117 (by decide) (fun _ => ?_) (fun h9 => absurd (by decide) h9)
            refine lv_iconst (v := 0) hx hb d_Model_lets_144 rfl ?_
            exact rz () hx hb hr hlocks rfl hP hD hS d_Model_lets_145 ⟨by simp only [sp_Model_lets, if_pos c_1, if_neg c_2, if_neg c_3, if_pos c_4, if_pos c_24], Or.inl rfl⟩
          · refine lv_iconst (v := 1) hx hb d_Model_lets_59 rfl ?_
            refine lv_goto (tgt := 113) hx hb d_Model_lets_60 (by decide) ?_
            refine lv_istore (lv' := [(5, .int 1), (4, .int 0), (0, .ref (a 0)), (1, .int x0), (2, .int x1), (3, .int x2)]) hx hb d_Model_lets_113 hl (by decide) rfl (fun ls hl => ?_)
            refine lv_iload hx hb d_Model_lets_115 (lv_at hl 0 rfl) ?_
            refine lv_if_eq (tgt := 144) hx hb d_Model_lets_117 (by decide) (fun h9 => absurd h9 (by decide)) (fun _ => ?_)
            refine lv_iload_n hx hb d_Model_lets_120 rfl (lv_at hl 3 rfl) ?_
            refine lv_bipush (v := 64) hx hb d_Model_lets_121 rfl ?_
            refine lv_iand hx hb d_Model_lets_123 ?_
            refine lv_if_eq (tgt := 144) hx hb d_Model_lets_124 (by decide) (fun c_27 => ?_) (fun c_27 => ?_)
            · refine lv_iconst (v := 0) hx hb d_Model_lets_144 rfl ?_
              exact rz () hx hb hr hlocks rfl hP hD hS d_Model_lets_145 ⟨by simp only [sp_Model_lets, if_pos c_1, if_neg c_2, if_neg c_3, if_pos c_4, if_neg c_24, if_pos c_27], Or.inl rfl⟩
            · refine lv_iload_n hx hb d_Model_lets_127 rfl (lv_at hl 4 rfl) ?_
              refine lv_iconst (v := 2) hx hb d_Model_lets_128 rfl ?_
              refine lv_icmp_ne (tgt := 140) hx hb d_Model_lets_129 (by decide) (fun _ => ?_) (fun h9 => absurd h9 (by rw [c_4]; decide))
              refine lv_iconst (v := 1) hx hb d_Model_lets_140 rfl ?_
              refine lv_goto (tgt := 145) hx hb d_Model_lets_141 (by decide) ?_
              exact rz () hx hb hr hlocks rfl hP hD hS d_Model_lets_145 ⟨by simp only [sp_Model_lets, if_pos c_1, if_neg c_2, if_neg c_3, if_pos c_4, if_neg c_24, if_neg c_27], Or.inr rfl⟩
      · refine lv_iload hx hb d_Model_lets_28 (lv_at hl 0 rfl) ?_
        refine lv_if_eq (tgt := 48) hx hb d_Model_lets_30 (by decide) (fun _ => ?_) (fun h9 => absurd (by decide) h9)
        refine lv_iload_n hx hb d_Model_lets_48 rfl (lv_at hl 3 rfl) ?_
        refine lv_if_ne (tgt := 67) hx hb d_Model_lets_49 (by decide) (fun c_30 => ?_) (fun c_30 => ?_)
        · refine lv_iload_n hx hb d_Model_lets_67 rfl (lv_at hl 3 rfl) ?_
          refine lv_iconst (v := 2) hx hb d_Model_lets_68 rfl ?_
          refine lv_icmp_ne (tgt := 86) hx hb d_Model_lets_69 (by decide) (fun c_31 => ?_) (fun c_31 => ?_)
          · refine lv_iload_n hx hb d_Model_lets_86 rfl (lv_at hl 2 rfl) ?_
            refine lv_iconst (v := 2) hx hb d_Model_lets_87 rfl ?_
            refine lv_iand hx hb d_Model_lets_88 ?_
            refine lv_if_ne (tgt := 108) hx hb d_Model_lets_89 (by decide) (fun c_32 => ?_) (fun c_32 => ?_)
            · refine lv_iconst (v := 1) hx hb d_Model_lets_108 rfl ?_
              refine lv_goto (tgt := 113) hx hb d_Model_lets_109 (by decide) ?_
              refine lv_istore (lv' := [(5, .int 1), (4, .int 0), (0, .ref (a 0)), (1, .int x0), (2, .int x1), (3, .int x2)]) hx hb d_Model_lets_113 hl (by decide) rfl (fun ls hl => ?_)
              refine lv_iload hx hb d_Model_lets_115 (lv_at hl 0 rfl) ?_
              refine lv_if_eq (tgt := 144) hx hb d_Model_lets_117 (by decide) (fun h9 => absurd h9 (by decide)) (fun _ => ?_)
              refine lv_iload_n hx hb d_Model_lets_120 rfl (lv_at hl 3 rfl) ?_
              refine lv_bipush (v := 64) hx hb d_Model_lets_121 rfl ?_
              refine lv_iand hx hb d_Model_lets_123 ?_
              refine lv_if_eq (tgt := 144) hx hb d_Model_lets_124 (by decide) (fun c_34 => ?_) (fun c_34 => ?_)
              · refine lv_iconst (v := 0) hx hb d_Model_lets_144 rfl ?_
                exact rz () hx hb hr hlocks rfl hP hD hS d_Model_lets_145 ⟨by simp only [sp_Model_lets, if_pos c_1, if_neg c_2, if_pos c_3, if_neg c_30, if_neg c_31, if_neg c_32, if_pos c_34], Or.inl rfl⟩
              · refine lv_iload_n hx hb d_Model_lets_127 rfl (lv_at hl 4 rfl) ?_
                refine lv_iconst (v := 2) hx hb d_Model_lets_128 rfl ?_
                refine lv_icmp_ne (tgt := 140) hx hb d_Model_lets_129 (by decide) (fun _ => ?_) (fun h9 => absurd h9 c_31)
                refine lv_iconst (v := 1) hx hb d_Model_lets_140 rfl ?_
                refine lv_goto (tgt := 145) hx hb d_Model_lets_141 (by decide) ?_
                exact rz () hx hb hr hlocks rfl hP hD hS d_Model_lets_145 ⟨by simp only [sp_Model_lets, if_pos c_1, if_neg c_2, if_pos c_3, if_neg c_30, if_neg c_31, if_neg c_32, if_neg c_34], Or.inr rfl⟩
            · refine lv_aload_n hx hb d_Model_lets_92 rfl (lv_at hl 1 rfl) ?_
              refine lv_ldc (v := 524288) hx hb hown (hts _ k_778) d_Model_lets_93 ?_
              refine xi (wr := []) (W2 := fun _ => wR a k n h ca tv nx pcs lv cs x b cl cm so ti pu np) (xV (rest := []) ⟨hx, hb, hml, hown, hts⟩ (c_Model_has a k n 524288 h ca tv nx pcs lv cs x b cl cm so ti pu np hn hh) mw_Model_has mv_Model_has k_726 ⟨rfl, rfl, Nat.le_of_ble_eq_true rfl, Nat.le_of_ble_eq_true rfl⟩ hK hP hD hS hA hF [0, 1, 2, 3, 4, 5, 6, 7, 8, 9] [0, 1, 2, 3, 4, 5, 6, 7, 8] rfl rfl rfl 0 5 rfl rfl rfl rfl hl.1 rfl (Nat.le_of_ble_eq_true rfl) d_Model_lets_95 ⟨Nat.zero_le _, Nat.zero_le _⟩) hP hD hS hA [0, 1, 2, 3, 4, 5, 6, 7, 8, 9] [] [0, 1, 2, 3, 4, 5, 6, 7, 8, 9] rfl rfl rfl (by decide) (fun _ => rfl) rfl (fun r_36 _ H locs h_36 hP hD hS => ?_)
              obtain ⟨h_36, z_36⟩ := h_36
              subst h_36
              refine lv_if_eq (tgt := 112) hx hb d_Model_lets_98 (by decide) (fun c_37 => ?_) (fun c_37 => ?_)
              · refine lv_iconst (v := 0) hx hb d_Model_lets_112 rfl ?_
                refine lv_istore (lv' := [(5, .int 0), (4, .int 0), (0, .ref (a 0)), (1, .int x0), (2, .int x1), (3, .int x2)]) hx hb d_Model_lets_113 hl (by decide) rfl (fun ls hl => ?_)
                refine lv_iload hx hb d_Model_lets_115 (lv_at hl 0 rfl) ?_
                refine lv_if_eq (tgt := 144) hx hb d_Model_lets_117 (by decide) (fun _ => ?_) (fun h9 => absurd (by decide) h9)
                refine lv_iconst (v := 0) hx hb d_Model_lets_144 rfl ?_
                exact rz () hx hb hr hlocks rfl hP hD hS d_Model_lets_145 ⟨by simp only [sp_Model_lets, if_pos c_1, if_neg c_2, if_pos c_3, if_neg c_30, if_neg c_31, if_pos c_32, if_pos c_37], Or.inl rfl⟩
              · refine lv_iload_n hx hb d_Model_lets_101 rfl (lv_at hl 2 rfl) ?_
                refine lv_bipush (v := 8) hx hb d_Model_lets_102 rfl ?_
                refine lv_iand hx hb d_Model_lets_104 ?_
                refine lv_if_eq (tgt := 112) hx hb d_Model_lets_105 (by decide) (fun c_39 => ?_) (fun c_39 => ?_)
                · refine lv_iconst (v := 0) hx hb d_Model_lets_112 rfl ?_
                  refine lv_istore (lv' := [(5, .int 0), (4, .int 0), (0, .ref (a 0)), (1, .int x0), (2, .int x1), (3, .int x2)]) hx hb d_Model_lets_113 hl (by decide) rfl (fun ls hl => ?_)
                  refine lv_iload hx hb d_Model_lets_115 (lv_at hl 0 rfl) ?_
                  refine lv_if_eq (tgt := 144) hx hb d_Model_lets_117 (by decide) (fun _ => ?_) (fun h9 => absurd (by decide) h9)
                  refine lv_iconst (v := 0) hx hb d_Model_lets_144 rfl ?_
                  exact rz () hx hb hr hlocks rfl hP hD hS d_Model_lets_145 ⟨by simp only [sp_Model_lets, if_pos c_1, if_neg c_2, if_pos c_3, if_neg c_30, if_neg c_31, if_pos c_32, if_neg c_37, if_pos c_39], Or.inl rfl⟩
                · refine lv_iconst (v := 1) hx hb d_Model_lets_108 rfl ?_
                  refine lv_goto (tgt := 113) hx hb d_Model_lets_109 (by decide) ?_
                  refine lv_istore (lv' := [(5, .int 1), (4, .int 0), (0, .ref (a 0)), (1, .int x0), (2, .int x1), (3, .int x2)]) hx hb d_Model_lets_113 hl (by decide) rfl (fun ls hl => ?_)
                  refine lv_iload hx hb d_Model_lets_115 (lv_at hl 0 rfl) ?_
                  refine lv_if_eq (tgt := 144) hx hb d_Model_lets_117 (by decide) (fun h9 => absurd h9 (by decide)) (fun _ => ?_)
                  refine lv_iload_n hx hb d_Model_lets_120 rfl (lv_at hl 3 rfl) ?_
                  refine lv_bipush (v := 64) hx hb d_Model_lets_121 rfl ?_
                  refine lv_iand hx hb d_Model_lets_123 ?_
                  refine lv_if_eq (tgt := 144) hx hb d_Model_lets_124 (by decide) (fun c_42 => ?_) (fun c_42 => ?_)
                  · refine lv_iconst (v := 0) hx hb d_Model_lets_144 rfl ?_
                    exact rz () hx hb hr hlocks rfl hP hD hS d_Model_lets_145 ⟨by simp only [sp_Model_lets, if_pos c_1, if_neg c_2, if_pos c_3, if_neg c_30, if_neg c_31, if_pos c_32, if_neg c_37, if_neg c_39, if_pos c_42], Or.inl rfl⟩
                  · refine lv_iload_n hx hb d_Model_lets_127 rfl (lv_at hl 4 rfl) ?_
                    refine lv_iconst (v := 2) hx hb d_Model_lets_128 rfl ?_
                    refine lv_icmp_ne (tgt := 140) hx hb d_Model_lets_129 (by decide) (fun _ => ?_) (fun h9 => absurd h9 c_31)
                    refine lv_iconst (v := 1) hx hb d_Model_lets_140 rfl ?_
                    refine lv_goto (tgt := 145) hx hb d_Model_lets_141 (by decide) ?_
                    exact rz () hx hb hr hlocks rfl hP hD hS d_Model_lets_145 ⟨by simp only [sp_Model_lets, if_pos c_1, if_neg c_2, if_pos c_3, if_neg c_30, if_neg c_31, if_pos c_32, if_neg c_37, if_neg c_39, if_neg c_42], Or.inr rfl⟩
          · refine lv_iload_n hx hb d_Model_lets_72 rfl (lv_at hl 2 rfl) ?_
            refine lv_iconst (v := 4) hx hb d_Model_lets_73 rfl ?_
            refine lv_iand hx hb d_Model_lets_74 ?_
            refine lv_if_eq (tgt := 82) hx hb d_Model_lets_75 (by decide) (fun c_44 => ?_) (fun c_44 => ?_)
            · refine lv_iconst (v := 0) hx hb d_Model_lets_82 rfl ?_
              refine lv_goto (tgt := 113) hx hb d_Model_lets_83 (by decide) ?_
              refine lv_istore (lv' := [(5, .int 0), (4, .int 0), (0, .ref (a 0)), (1, .int x0), (2, .int x1), (3, .int x2)]) hx hb d_Model_lets_113 hl (by decide) rfl (fun ls hl => ?_)
              refine lv_iload hx hb d_Model_lets_115 (lv_at hl 0 rfl) ?_
              refine lv_if_eq (tgt := 144) hx hb d_Model_lets_117 (by decide) (fun _ => ?_) (fun h9 => absurd (by decide) h9)
              refine lv_iconst (v := 0) hx hb d_Model_lets_144 rfl ?_
              exact rz () hx hb hr hlocks rfl hP hD hS d_Model_lets_145 ⟨by simp only [sp_Model_lets, if_pos c_1, if_neg c_2, if_pos c_3, if_neg c_30, if_pos c_31, if_pos c_44], Or.inl rfl⟩
            · refine lv_iconst (v := 1) hx hb d_Model_lets_78 rfl ?_
              refine lv_goto (tgt := 113) hx hb d_Model_lets_79 (by decide) ?_
              refine lv_istore (lv' := [(5, .int 1), (4, .int 0), (0, .ref (a 0)), (1, .int x0), (2, .int x1), (3, .int x2)]) hx hb d_Model_lets_113 hl (by decide) rfl (fun ls hl => ?_)
              refine lv_iload hx hb d_Model_lets_115 (lv_at hl 0 rfl) ?_
              refine lv_if_eq (tgt := 144) hx hb d_Model_lets_117 (by decide) (fun h9 => absurd h9 (by decide)) (fun _ => ?_)
              refine lv_iload_n hx hb d_Model_lets_120 rfl (lv_at hl 3 rfl) ?_
              refine lv_bipush (v := 64) hx hb d_Model_lets_121 rfl ?_
              refine lv_iand hx hb d_Model_lets_123 ?_
              refine lv_if_eq (tgt := 144) hx hb d_Model_lets_124 (by decide) (fun c_47 => ?_) (fun c_47 => ?_)
              · refine lv_iconst (v := 0) hx hb d_Model_lets_144 rfl ?_
                exact rz () hx hb hr hlocks rfl hP hD hS d_Model_lets_145 ⟨by simp only [sp_Model_lets, if_pos c_1, if_neg c_2, if_pos c_3, if_neg c_30, if_pos c_31, if_neg c_44, if_pos c_47], Or.inl rfl⟩
              · refine lv_iload_n hx hb d_Model_lets_127 rfl (lv_at hl 4 rfl) ?_
                refine lv_iconst (v := 2) hx hb d_Model_lets_128 rfl ?_
                refine lv_icmp_ne (tgt := 140) hx hb d_Model_lets_129 (by decide) (fun h9 => absurd c_31 h9) (fun _ => ?_)
                refine lv_iload_n hx hb d_Model_lets_132 rfl (lv_at hl 3 rfl) ?_
                refine lv_sipush (v := 128) hx hb d_Model_lets_133 rfl ?_
                refine lv_iand hx hb d_Model_lets_136 ?_
                refine lv_if_eq (tgt := 144) hx hb d_Model_lets_137 (by decide) (fun c_49 => ?_) (fun c_49 => ?_)
                · refine lv_iconst (v := 0) hx hb d_Model_lets_144 rfl ?_
                  exact rz () hx hb hr hlocks rfl hP hD hS d_Model_lets_145 ⟨by simp only [sp_Model_lets, if_pos c_1, if_neg c_2, if_pos c_3, if_neg c_30, if_pos c_31, if_neg c_44, if_neg c_47, if_pos c_49], Or.inl rfl⟩
                · refine lv_iconst (v := 1) hx hb d_Model_lets_140 rfl ?_
                  refine lv_goto (tgt := 145) hx hb d_Model_lets_141 (by decide) ?_
                  exact rz () hx hb hr hlocks rfl hP hD hS d_Model_lets_145 ⟨by simp only [sp_Model_lets, if_pos c_1, if_neg c_2, if_pos c_3, if_neg c_30, if_pos c_31, if_neg c_44, if_neg c_47, if_neg c_49], Or.inr rfl⟩
        · refine lv_iload_n hx hb d_Model_lets_52 rfl (lv_at hl 2 rfl) ?_
          refine lv_bipush (v := 8) hx hb d_Model_lets_53 rfl ?_
          refine lv_iand hx hb d_Model_lets_55 ?_
          refine lv_if_eq (tgt := 63) hx hb d_Model_lets_56 (by decide) (fun c_50 => ?_) (fun c_50 => ?_)
          · refine lv_iconst (v := 0) hx hb d_Model_lets_63 rfl ?_
            refine lv_goto (tgt := 113) hx hb d_Model_lets_64 (by decide) ?_
            refine lv_istore (lv' := [(5, .int 0), (4, .int 0), (0, .ref (a 0)), (1, .int x0), (2, .int x1), (3, .int x2)]) hx hb d_Model_lets_113 hl (by decide) rfl (fun ls hl => ?_)
            refine lv_iload hx hb d_Model_lets_115 (lv_at hl 0 rfl) ?_
            refine lv_if_eq (tgt := 144) hx hb d_Model_lets_117 (by decide) (fun _ => ?_) (fun h9 => absurd (by decide) h9)
            refine lv_iconst (v := 0) hx hb d_Model_lets_144 rfl ?_
            exact rz () hx hb hr hlocks rfl hP hD hS d_Model_lets_145 ⟨by simp only [sp_Model_lets, if_pos c_1, if_neg c_2, if_pos c_3, if_pos c_30, if_pos c_50], Or.inl rfl⟩
          · refine lv_iconst (v := 1) hx hb d_Model_lets_59 rfl ?_
            refine lv_goto (tgt := 113) hx hb d_Model_lets_60 (by decide) ?_
            refine lv_istore (lv' := [(5, .int 1), (4, .int 0), (0, .ref (a 0)), (1, .int x0), (2, .int x1), (3, .int x2)]) hx hb d_Model_lets_113 hl (by decide) rfl (fun ls hl => ?_)
            refine lv_iload hx hb d_Model_lets_115 (lv_at hl 0 rfl) ?_
            refine lv_if_eq (tgt := 144) hx hb d_Model_lets_117 (by decide) (fun h9 => absurd h9 (by decide)) (fun _ => ?_)
            refine lv_iload_n hx hb d_Model_lets_120 rfl (lv_at hl 3 rfl) ?_
            refine lv_bipush (v := 64) hx hb d_Model_lets_121 rfl ?_
            refine lv_iand hx hb d_Model_lets_123 ?_
            refine lv_if_eq (tgt := 144) hx hb d_Model_lets_124 (by decide) (fun c_53 => ?_) (fun c_53 => ?_)
            · refine lv_iconst (v := 0) hx hb d_Model_lets_144 rfl ?_
              exact rz () hx hb hr hlocks rfl hP hD hS d_Model_lets_145 ⟨by simp only [sp_Model_lets, if_pos c_1, if_neg c_2, if_pos c_3, if_pos c_30, if_neg c_50, if_pos c_53], Or.inl rfl⟩
            · refine lv_iload_n hx hb d_Model_lets_127 rfl (lv_at hl 4 rfl) ?_
              refine lv_iconst (v := 2) hx hb d_Model_lets_128 rfl ?_
              refine lv_icmp_ne (tgt := 140) hx hb d_Model_lets_129 (by decide) (fun _ => ?_) (fun h9 => absurd h9 (by rw [c_30]; decide))
              refine lv_iconst (v := 1) hx hb d_Model_lets_140 rfl ?_
              refine lv_goto (tgt := 145) hx hb d_Model_lets_141 (by decide) ?_
              exact rz () hx hb hr hlocks rfl hP hD hS d_Model_lets_145 ⟨by simp only [sp_Model_lets, if_pos c_1, if_neg c_2, if_pos c_3, if_pos c_30, if_neg c_50, if_neg c_53], Or.inr rfl⟩
    · refine lv_iload hx hb d_Model_lets_18 (lv_at hl 0 rfl) ?_
      refine lv_if_eq (tgt := 46) hx hb d_Model_lets_20 (by decide) (fun _ => ?_) (fun h9 => absurd (by decide) h9)
      refine lv_iconst (v := 0) hx hb d_Model_lets_46 rfl ?_
      exact rz () hx hb hr hlocks rfl hP hD hS d_Model_lets_47 ⟨by simp only [sp_Model_lets, if_pos c_1, if_pos c_2], Or.inl rfl⟩
  · refine lv_iconst (v := 1) hx hb d_Model_lets_7 rfl ?_
    refine lv_goto (tgt := 12) hx hb d_Model_lets_8 (by decide) ?_
    refine lv_istore (lv' := [(4, .int 1), (0, .ref (a 0)), (1, .int x0), (2, .int x1), (3, .int x2)]) hx hb d_Model_lets_12 hl (by decide) rfl (fun ls hl => ?_)
    refine lv_iload_n hx hb d_Model_lets_14 rfl (lv_at hl 4 rfl) ?_
    refine lv_if_ne (tgt := 23) hx hb d_Model_lets_15 (by decide) (fun c_56 => ?_) (fun c_56 => ?_)
    · refine lv_iload_n hx hb d_Model_lets_23 rfl (lv_at hl 4 rfl) ?_
      refine lv_iconst (v := 1) hx hb d_Model_lets_24 rfl ?_
      refine lv_icmp_ne (tgt := 48) hx hb d_Model_lets_25 (by decide) (fun c_57 => ?_) (fun c_57 => ?_)
      · refine lv_iload_n hx hb d_Model_lets_48 rfl (lv_at hl 3 rfl) ?_
        refine lv_if_ne (tgt := 67) hx hb d_Model_lets_49 (by decide) (fun c_58 => ?_) (fun c_58 => ?_)
        · refine lv_iload_n hx hb d_Model_lets_67 rfl (lv_at hl 3 rfl) ?_
          refine lv_iconst (v := 2) hx hb d_Model_lets_68 rfl ?_
          refine lv_icmp_ne (tgt := 86) hx hb d_Model_lets_69 (by decide) (fun c_59 => ?_) (fun c_59 => ?_)
          · refine lv_iload_n hx hb d_Model_lets_86 rfl (lv_at hl 2 rfl) ?_
            refine lv_iconst (v := 2) hx hb d_Model_lets_87 rfl ?_
            refine lv_iand hx hb d_Model_lets_88 ?_
            refine lv_if_ne (tgt := 108) hx hb d_Model_lets_89 (by decide) (fun c_60 => ?_) (fun c_60 => ?_)
            · refine lv_iconst (v := 1) hx hb d_Model_lets_108 rfl ?_
              refine lv_goto (tgt := 113) hx hb d_Model_lets_109 (by decide) ?_
              refine lv_istore (lv' := [(5, .int 1), (4, .int 1), (0, .ref (a 0)), (1, .int x0), (2, .int x1), (3, .int x2)]) hx hb d_Model_lets_113 hl (by decide) rfl (fun ls hl => ?_)
              refine lv_iload hx hb d_Model_lets_115 (lv_at hl 0 rfl) ?_
              refine lv_if_eq (tgt := 144) hx hb d_Model_lets_117 (by decide) (fun h9 => absurd h9 (by decide)) (fun _ => ?_)
              refine lv_iload_n hx hb d_Model_lets_120 rfl (lv_at hl 3 rfl) ?_
              refine lv_bipush (v := 64) hx hb d_Model_lets_121 rfl ?_
              refine lv_iand hx hb d_Model_lets_123 ?_
              refine lv_if_eq (tgt := 144) hx hb d_Model_lets_124 (by decide) (fun c_62 => ?_) (fun c_62 => ?_)
              · refine lv_iconst (v := 0) hx hb d_Model_lets_144 rfl ?_
                exact rz () hx hb hr hlocks rfl hP hD hS d_Model_lets_145 ⟨by simp only [sp_Model_lets, if_neg c_1, if_neg c_56, if_neg c_57, if_neg c_58, if_neg c_59, if_neg c_60, if_pos c_62], Or.inl rfl⟩
              · refine lv_iload_n hx hb d_Model_lets_127 rfl (lv_at hl 4 rfl) ?_
                refine lv_iconst (v := 2) hx hb d_Model_lets_128 rfl ?_
                refine lv_icmp_ne (tgt := 140) hx hb d_Model_lets_129 (by decide) (fun _ => ?_) (fun h9 => absurd h9 c_59)
                refine lv_iconst (v := 1) hx hb d_Model_lets_140 rfl ?_
                refine lv_goto (tgt := 145) hx hb d_Model_lets_141 (by decide) ?_
                exact rz () hx hb hr hlocks rfl hP hD hS d_Model_lets_145 ⟨by simp only [sp_Model_lets, if_neg c_1, if_neg c_56, if_neg c_57, if_neg c_58, if_neg c_59, if_neg c_60, if_neg c_62], Or.inr rfl⟩
            · refine lv_aload_n hx hb d_Model_lets_92 rfl (lv_at hl 1 rfl) ?_
              refine lv_ldc (v := 524288) hx hb hown (hts _ k_778) d_Model_lets_93 ?_
              refine xi (wr := []) (W2 := fun _ => wR a k n h ca tv nx pcs lv cs x b cl cm so ti pu np) (xV (rest := []) ⟨hx, hb, hml, hown, hts⟩ (c_Model_has a k n 524288 h ca tv nx pcs lv cs x b cl cm so ti pu np hn hh) mw_Model_has mv_Model_has k_726 ⟨rfl, rfl, Nat.le_of_ble_eq_true rfl, Nat.le_of_ble_eq_true rfl⟩ hK hP hD hS hA hF [0, 1, 2, 3, 4, 5, 6, 7, 8, 9] [0, 1, 2, 3, 4, 5, 6, 7, 8] rfl rfl rfl 0 5 rfl rfl rfl rfl hl.1 rfl (Nat.le_of_ble_eq_true rfl) d_Model_lets_95 ⟨Nat.zero_le _, Nat.zero_le _⟩) hP hD hS hA [0, 1, 2, 3, 4, 5, 6, 7, 8, 9] [] [0, 1, 2, 3, 4, 5, 6, 7, 8, 9] rfl rfl rfl (by decide) (fun _ => rfl) rfl (fun r_64 _ H locs h_64 hP hD hS => ?_)
              obtain ⟨h_64, z_64⟩ := h_64
              subst h_64
              refine lv_if_eq (tgt := 112) hx hb d_Model_lets_98 (by decide) (fun c_65 => ?_) (fun c_65 => ?_)
              · refine lv_iconst (v := 0) hx hb d_Model_lets_112 rfl ?_
                refine lv_istore (lv' := [(5, .int 0), (4, .int 1), (0, .ref (a 0)), (1, .int x0), (2, .int x1), (3, .int x2)]) hx hb d_Model_lets_113 hl (by decide) rfl (fun ls hl => ?_)
                refine lv_iload hx hb d_Model_lets_115 (lv_at hl 0 rfl) ?_
                refine lv_if_eq (tgt := 144) hx hb d_Model_lets_117 (by decide) (fun _ => ?_) (fun h9 => absurd (by decide) h9)
                refine lv_iconst (v := 0) hx hb d_Model_lets_144 rfl ?_
                exact rz () hx hb hr hlocks rfl hP hD hS d_Model_lets_145 ⟨by simp only [sp_Model_lets, if_neg c_1, if_neg c_56, if_neg c_57, if_neg c_58, if_neg c_59, if_pos c_60, if_pos c_65], Or.inl rfl⟩
              · refine lv_iload_n hx hb d_Model_lets_101 rfl (lv_at hl 2 rfl) ?_
                refine lv_bipush (v := 8) hx hb d_Model_lets_102 rfl ?_
                refine lv_iand hx hb d_Model_lets_104 ?_
                refine lv_if_eq (tgt := 112) hx hb d_Model_lets_105 (by decide) (fun c_67 => ?_) (fun c_67 => ?_)
                · refine lv_iconst (v := 0) hx hb d_Model_lets_112 rfl ?_
                  refine lv_istore (lv' := [(5, .int 0), (4, .int 1), (0, .ref (a 0)), (1, .int x0), (2, .int x1), (3, .int x2)]) hx hb d_Model_lets_113 hl (by decide) rfl (fun ls hl => ?_)
                  refine lv_iload hx hb d_Model_lets_115 (lv_at hl 0 rfl) ?_
                  refine lv_if_eq (tgt := 144) hx hb d_Model_lets_117 (by decide) (fun _ => ?_) (fun h9 => absurd (by decide) h9)
                  refine lv_iconst (v := 0) hx hb d_Model_lets_144 rfl ?_
                  exact rz () hx hb hr hlocks rfl hP hD hS d_Model_lets_145 ⟨by simp only [sp_Model_lets, if_neg c_1, if_neg c_56, if_neg c_57, if_neg c_58, if_neg c_59, if_pos c_60, if_neg c_65, if_pos c_67], Or.inl rfl⟩
                · refine lv_iconst (v := 1) hx hb d_Model_lets_108 rfl ?_
                  refine lv_goto (tgt := 113) hx hb d_Model_lets_109 (by decide) ?_
                  refine lv_istore (lv' := [(5, .int 1), (4, .int 1), (0, .ref (a 0)), (1, .int x0), (2, .int x1), (3, .int x2)]) hx hb d_Model_lets_113 hl (by decide) rfl (fun ls hl => ?_)
                  refine lv_iload hx hb d_Model_lets_115 (lv_at hl 0 rfl) ?_
                  refine lv_if_eq (tgt := 144) hx hb d_Model_lets_117 (by decide) (fun h9 => absurd h9 (by decide)) (fun _ => ?_)
                  refine lv_iload_n hx hb d_Model_lets_120 rfl (lv_at hl 3 rfl) ?_
                  refine lv_bipush (v := 64) hx hb d_Model_lets_121 rfl ?_
                  refine lv_iand hx hb d_Model_lets_123 ?_
                  refine lv_if_eq (tgt := 144) hx hb d_Model_lets_124 (by decide) (fun c_70 => ?_) (fun c_70 => ?_)
                  · refine lv_iconst (v := 0) hx hb d_Model_lets_144 rfl ?_
                    exact rz () hx hb hr hlocks rfl hP hD hS d_Model_lets_145 ⟨by simp only [sp_Model_lets, if_neg c_1, if_neg c_56, if_neg c_57, if_neg c_58, if_neg c_59, if_pos c_60, if_neg c_65, if_neg c_67, if_pos c_70], Or.inl rfl⟩
                  · refine lv_iload_n hx hb d_Model_lets_127 rfl (lv_at hl 4 rfl) ?_
                    refine lv_iconst (v := 2) hx hb d_Model_lets_128 rfl ?_
                    refine lv_icmp_ne (tgt := 140) hx hb d_Model_lets_129 (by decide) (fun _ => ?_) (fun h9 => absurd h9 c_59)
                    refine lv_iconst (v := 1) hx hb d_Model_lets_140 rfl ?_
                    refine lv_goto (tgt := 145) hx hb d_Model_lets_141 (by decide) ?_
                    exact rz () hx hb hr hlocks rfl hP hD hS d_Model_lets_145 ⟨by simp only [sp_Model_lets, if_neg c_1, if_neg c_56, if_neg c_57, if_neg c_58, if_neg c_59, if_pos c_60, if_neg c_65, if_neg c_67, if_neg c_70], Or.inr rfl⟩
          · refine lv_iload_n hx hb d_Model_lets_72 rfl (lv_at hl 2 rfl) ?_
            refine lv_iconst (v := 4) hx hb d_Model_lets_73 rfl ?_
            refine lv_iand hx hb d_Model_lets_74 ?_
            refine lv_if_eq (tgt := 82) hx hb d_Model_lets_75 (by decide) (fun c_72 => ?_) (fun c_72 => ?_)
            · refine lv_iconst (v := 0) hx hb d_Model_lets_82 rfl ?_
              refine lv_goto (tgt := 113) hx hb d_Model_lets_83 (by decide) ?_
              refine lv_istore (lv' := [(5, .int 0), (4, .int 1), (0, .ref (a 0)), (1, .int x0), (2, .int x1), (3, .int x2)]) hx hb d_Model_lets_113 hl (by decide) rfl (fun ls hl => ?_)
              refine lv_iload hx hb d_Model_lets_115 (lv_at hl 0 rfl) ?_
              refine lv_if_eq (tgt := 144) hx hb d_Model_lets_117 (by decide) (fun _ => ?_) (fun h9 => absurd (by decide) h9)
              refine lv_iconst (v := 0) hx hb d_Model_lets_144 rfl ?_
              exact rz () hx hb hr hlocks rfl hP hD hS d_Model_lets_145 ⟨by simp only [sp_Model_lets, if_neg c_1, if_neg c_56, if_neg c_57, if_neg c_58, if_pos c_59, if_pos c_72], Or.inl rfl⟩
            · refine lv_iconst (v := 1) hx hb d_Model_lets_78 rfl ?_
              refine lv_goto (tgt := 113) hx hb d_Model_lets_79 (by decide) ?_
              refine lv_istore (lv' := [(5, .int 1), (4, .int 1), (0, .ref (a 0)), (1, .int x0), (2, .int x1), (3, .int x2)]) hx hb d_Model_lets_113 hl (by decide) rfl (fun ls hl => ?_)
              refine lv_iload hx hb d_Model_lets_115 (lv_at hl 0 rfl) ?_
              refine lv_if_eq (tgt := 144) hx hb d_Model_lets_117 (by decide) (fun h9 => absurd h9 (by decide)) (fun _ => ?_)
              refine lv_iload_n hx hb d_Model_lets_120 rfl (lv_at hl 3 rfl) ?_
              refine lv_bipush (v := 64) hx hb d_Model_lets_121 rfl ?_
              refine lv_iand hx hb d_Model_lets_123 ?_
              refine lv_if_eq (tgt := 144) hx hb d_Model_lets_124 (by decide) (fun c_75 => ?_) (fun c_75 => ?_)
              · refine lv_iconst (v := 0) hx hb d_Model_lets_144 rfl ?_
                exact rz () hx hb hr hlocks rfl hP hD hS d_Model_lets_145 ⟨by simp only [sp_Model_lets, if_neg c_1, if_neg c_56, if_neg c_57, if_neg c_58, if_pos c_59, if_neg c_72, if_pos c_75], Or.inl rfl⟩
              · refine lv_iload_n hx hb d_Model_lets_127 rfl (lv_at hl 4 rfl) ?_
                refine lv_iconst (v := 2) hx hb d_Model_lets_128 rfl ?_
                refine lv_icmp_ne (tgt := 140) hx hb d_Model_lets_129 (by decide) (fun h9 => absurd c_59 h9) (fun _ => ?_)
                refine lv_iload_n hx hb d_Model_lets_132 rfl (lv_at hl 3 rfl) ?_
                refine lv_sipush (v := 128) hx hb d_Model_lets_133 rfl ?_
                refine lv_iand hx hb d_Model_lets_136 ?_
                refine lv_if_eq (tgt := 144) hx hb d_Model_lets_137 (by decide) (fun c_77 => ?_) (fun c_77 => ?_)
                · refine lv_iconst (v := 0) hx hb d_Model_lets_144 rfl ?_
                  exact rz () hx hb hr hlocks rfl hP hD hS d_Model_lets_145 ⟨by simp only [sp_Model_lets, if_neg c_1, if_neg c_56, if_neg c_57, if_neg c_58, if_pos c_59, if_neg c_72, if_neg c_75, if_pos c_77], Or.inl rfl⟩
                · refine lv_iconst (v := 1) hx hb d_Model_lets_140 rfl ?_
                  refine lv_goto (tgt := 145) hx hb d_Model_lets_141 (by decide) ?_
                  exact rz () hx hb hr hlocks rfl hP hD hS d_Model_lets_145 ⟨by simp only [sp_Model_lets, if_neg c_1, if_neg c_56, if_neg c_57, if_neg c_58, if_pos c_59, if_neg c_72, if_neg c_75, if_neg c_77], Or.inr rfl⟩
        · refine lv_iload_n hx hb d_Model_lets_52 rfl (lv_at hl 2 rfl) ?_
          refine lv_bipush (v := 8) hx hb d_Model_lets_53 rfl ?_
          refine lv_iand hx hb d_Model_lets_55 ?_
          refine lv_if_eq (tgt := 63) hx hb d_Model_lets_56 (by decide) (fun c_78 => ?_) (fun c_78 => ?_)
          · refine lv_iconst (v := 0) hx hb d_Model_lets_63 rfl ?_
            refine lv_goto (tgt := 113) hx hb d_Model_lets_64 (by decide) ?_
            refine lv_istore (lv' := [(5, .int 0), (4, .int 1), (0, .ref (a 0)), (1, .int x0), (2, .int x1), (3, .int x2)]) hx hb d_Model_lets_113 hl (by decide) rfl (fun ls hl => ?_)
            refine lv_iload hx hb d_Model_lets_115 (lv_at hl 0 rfl) ?_
            refine lv_if_eq (tgt := 144) hx hb d_Model_lets_117 (by decide) (fun _ => ?_) (fun h9 => absurd (by decide) h9)
            refine lv_iconst (v := 0) hx hb d_Model_lets_144 rfl ?_
            exact rz () hx hb hr hlocks rfl hP hD hS d_Model_lets_145 ⟨by simp only [sp_Model_lets, if_neg c_1, if_neg c_56, if_neg c_57, if_pos c_58, if_pos c_78], Or.inl rfl⟩
          · refine lv_iconst (v := 1) hx hb d_Model_lets_59 rfl ?_
            refine lv_goto (tgt := 113) hx hb d_Model_lets_60 (by decide) ?_
            refine lv_istore (lv' := [(5, .int 1), (4, .int 1), (0, .ref (a 0)), (1, .int x0), (2, .int x1), (3, .int x2)]) hx hb d_Model_lets_113 hl (by decide) rfl (fun ls hl => ?_)
            refine lv_iload hx hb d_Model_lets_115 (lv_at hl 0 rfl) ?_
            refine lv_if_eq (tgt := 144) hx hb d_Model_lets_117 (by decide) (fun h9 => absurd h9 (by decide)) (fun _ => ?_)
            refine lv_iload_n hx hb d_Model_lets_120 rfl (lv_at hl 3 rfl) ?_
            refine lv_bipush (v := 64) hx hb d_Model_lets_121 rfl ?_
            refine lv_iand hx hb d_Model_lets_123 ?_
            refine lv_if_eq (tgt := 144) hx hb d_Model_lets_124 (by decide) (fun c_81 => ?_) (fun c_81 => ?_)
            · refine lv_iconst (v := 0) hx hb d_Model_lets_144 rfl ?_
              exact rz () hx hb hr hlocks rfl hP hD hS d_Model_lets_145 ⟨by simp only [sp_Model_lets, if_neg c_1, if_neg c_56, if_neg c_57, if_pos c_58, if_neg c_78, if_pos c_81], Or.inl rfl⟩
            · refine lv_iload_n hx hb d_Model_lets_127 rfl (lv_at hl 4 rfl) ?_
              refine lv_iconst (v := 2) hx hb d_Model_lets_128 rfl ?_
              refine lv_icmp_ne (tgt := 140) hx hb d_Model_lets_129 (by decide) (fun _ => ?_) (fun h9 => absurd h9 (by rw [c_58]; decide))
              refine lv_iconst (v := 1) hx hb d_Model_lets_140 rfl ?_
              refine lv_goto (tgt := 145) hx hb d_Model_lets_141 (by decide) ?_
              exact rz () hx hb hr hlocks rfl hP hD hS d_Model_lets_145 ⟨by simp only [sp_Model_lets, if_neg c_1, if_neg c_56, if_neg c_57, if_pos c_58, if_neg c_78, if_neg c_81], Or.inr rfl⟩
      · refine lv_iload hx hb d_Model_lets_28 (lv_at hl 0 rfl) ?_
        refine lv_if_eq (tgt := 48) hx hb d_Model_lets_30 (by decide) (fun h9 => absurd h9 (by decide)) (fun _ => ?_)
        refine lv_iload_n hx hb d_Model_lets_33 rfl (lv_at hl 3 rfl) ?_
        refine lv_if_eq (tgt := 46) hx hb d_Model_lets_34 (by decide) (fun c_84 => ?_) (fun c_84 => ?_)
        · refine lv_iconst (v := 0) hx hb d_Model_lets_46 rfl ?_
          exact rz () hx hb hr hlocks rfl hP hD hS d_Model_lets_47 ⟨by simp only [sp_Model_lets, if_neg c_1, if_neg c_56, if_pos c_57, if_pos c_84], Or.inl rfl⟩
        · refine lv_aload_n hx hb d_Model_lets_37 rfl (lv_at hl 1 rfl) ?_
          refine lv_ldc (v := 262144) hx hb hown (hts _ k_777) d_Model_lets_38 ?_
          refine xi (wr := []) (W2 := fun _ => wR a k n h ca tv nx pcs lv cs x b cl cm so ti pu np) (xV (rest := []) ⟨hx, hb, hml, hown, hts⟩ (c_Model_has a k n 262144 h ca tv nx pcs lv cs x b cl cm so ti pu np hn hh) mw_Model_has mv_Model_has k_726 ⟨rfl, rfl, Nat.le_of_ble_eq_true rfl, Nat.le_of_ble_eq_true rfl⟩ hK hP hD hS hA hF [0, 1, 2, 3, 4, 5, 6, 7, 8, 9] [0, 1, 2, 3, 4, 5, 6, 7, 8] rfl rfl rfl 0 5 rfl rfl rfl rfl hl.1 rfl (Nat.le_of_ble_eq_true rfl) d_Model_lets_40 ⟨Nat.zero_le _, Nat.zero_le _⟩) hP hD hS hA [0, 1, 2, 3, 4, 5, 6, 7, 8, 9] [] [0, 1, 2, 3, 4, 5, 6, 7, 8, 9] rfl rfl rfl (by decide) (fun _ => rfl) rfl (fun r_85 _ H locs h_85 hP hD hS => ?_)
          obtain ⟨h_85, z_85⟩ := h_85
          subst h_85
          refine lv_if_ne (tgt := 48) hx hb d_Model_lets_43 (by decide) (fun c_86 => ?_) (fun c_86 => ?_)
          · refine lv_iload_n hx hb d_Model_lets_48 rfl (lv_at hl 3 rfl) ?_
            refine lv_if_ne (tgt := 67) hx hb d_Model_lets_49 (by decide) (fun _ => ?_) (fun h9 => absurd h9 c_84)
            refine lv_iload_n hx hb d_Model_lets_67 rfl (lv_at hl 3 rfl) ?_
            refine lv_iconst (v := 2) hx hb d_Model_lets_68 rfl ?_
            refine lv_icmp_ne (tgt := 86) hx hb d_Model_lets_69 (by decide) (fun c_88 => ?_) (fun c_88 => ?_)
            · refine lv_iload_n hx hb d_Model_lets_86 rfl (lv_at hl 2 rfl) ?_
              refine lv_iconst (v := 2) hx hb d_Model_lets_87 rfl ?_
              refine lv_iand hx hb d_Model_lets_88 ?_
              refine lv_if_ne (tgt := 108) hx hb d_Model_lets_89 (by decide) (fun c_89 => ?_) (fun c_89 => ?_)
              · refine lv_iconst (v := 1) hx hb d_Model_lets_108 rfl ?_
                refine lv_goto (tgt := 113) hx hb d_Model_lets_109 (by decide) ?_
                refine lv_istore (lv' := [(5, .int 1), (4, .int 1), (0, .ref (a 0)), (1, .int x0), (2, .int x1), (3, .int x2)]) hx hb d_Model_lets_113 hl (by decide) rfl (fun ls hl => ?_)
                refine lv_iload hx hb d_Model_lets_115 (lv_at hl 0 rfl) ?_
                refine lv_if_eq (tgt := 144) hx hb d_Model_lets_117 (by decide) (fun h9 => absurd h9 (by decide)) (fun _ => ?_)
                refine lv_iload_n hx hb d_Model_lets_120 rfl (lv_at hl 3 rfl) ?_
                refine lv_bipush (v := 64) hx hb d_Model_lets_121 rfl ?_
                refine lv_iand hx hb d_Model_lets_123 ?_
                refine lv_if_eq (tgt := 144) hx hb d_Model_lets_124 (by decide) (fun c_91 => ?_) (fun c_91 => ?_)
                · refine lv_iconst (v := 0) hx hb d_Model_lets_144 rfl ?_
                  exact rz () hx hb hr hlocks rfl hP hD hS d_Model_lets_145 ⟨by simp only [sp_Model_lets, if_neg c_1, if_neg c_56, if_pos c_57, if_neg c_84, if_neg c_86, if_neg c_88, if_neg c_89, if_pos c_91], Or.inl rfl⟩
                · refine lv_iload_n hx hb d_Model_lets_127 rfl (lv_at hl 4 rfl) ?_
                  refine lv_iconst (v := 2) hx hb d_Model_lets_128 rfl ?_
                  refine lv_icmp_ne (tgt := 140) hx hb d_Model_lets_129 (by decide) (fun _ => ?_) (fun h9 => absurd h9 c_88)
                  refine lv_iconst (v := 1) hx hb d_Model_lets_140 rfl ?_
                  refine lv_goto (tgt := 145) hx hb d_Model_lets_141 (by decide) ?_
                  exact rz () hx hb hr hlocks rfl hP hD hS d_Model_lets_145 ⟨by simp only [sp_Model_lets, if_neg c_1, if_neg c_56, if_pos c_57, if_neg c_84, if_neg c_86, if_neg c_88, if_neg c_89, if_neg c_91], Or.inr rfl⟩
              · refine lv_aload_n hx hb d_Model_lets_92 rfl (lv_at hl 1 rfl) ?_
                refine lv_ldc (v := 524288) hx hb hown (hts _ k_778) d_Model_lets_93 ?_
                refine xi (wr := []) (W2 := fun _ => wR a k n h ca tv nx pcs lv cs x b cl cm so ti pu np) (xV (rest := []) ⟨hx, hb, hml, hown, hts⟩ (c_Model_has a k n 524288 h ca tv nx pcs lv cs x b cl cm so ti pu np hn hh) mw_Model_has mv_Model_has k_726 ⟨rfl, rfl, Nat.le_of_ble_eq_true rfl, Nat.le_of_ble_eq_true rfl⟩ hK hP hD hS hA hF [0, 1, 2, 3, 4, 5, 6, 7, 8, 9] [0, 1, 2, 3, 4, 5, 6, 7, 8] rfl rfl rfl 0 5 rfl rfl rfl rfl hl.1 rfl (Nat.le_of_ble_eq_true rfl) d_Model_lets_95 ⟨Nat.zero_le _, Nat.zero_le _⟩) hP hD hS hA [0, 1, 2, 3, 4, 5, 6, 7, 8, 9] [] [0, 1, 2, 3, 4, 5, 6, 7, 8, 9] rfl rfl rfl (by decide) (fun _ => rfl) rfl (fun r_93 _ H locs h_93 hP hD hS => ?_)
                obtain ⟨h_93, z_93⟩ := h_93
                subst h_93
                refine lv_if_eq (tgt := 112) hx hb d_Model_lets_98 (by decide) (fun c_94 => ?_) (fun c_94 => ?_)
                · refine lv_iconst (v := 0) hx hb d_Model_lets_112 rfl ?_
                  refine lv_istore (lv' := [(5, .int 0), (4, .int 1), (0, .ref (a 0)), (1, .int x0), (2, .int x1), (3, .int x2)]) hx hb d_Model_lets_113 hl (by decide) rfl (fun ls hl => ?_)
                  refine lv_iload hx hb d_Model_lets_115 (lv_at hl 0 rfl) ?_
                  refine lv_if_eq (tgt := 144) hx hb d_Model_lets_117 (by decide) (fun _ => ?_) (fun h9 => absurd (by decide) h9)
                  refine lv_iconst (v := 0) hx hb d_Model_lets_144 rfl ?_
                  exact rz () hx hb hr hlocks rfl hP hD hS d_Model_lets_145 ⟨by simp only [sp_Model_lets, if_neg c_1, if_neg c_56, if_pos c_57, if_neg c_84, if_neg c_86, if_neg c_88, if_pos c_89, if_pos c_94], Or.inl rfl⟩
                · refine lv_iload_n hx hb d_Model_lets_101 rfl (lv_at hl 2 rfl) ?_
                  refine lv_bipush (v := 8) hx hb d_Model_lets_102 rfl ?_
                  refine lv_iand hx hb d_Model_lets_104 ?_
                  refine lv_if_eq (tgt := 112) hx hb d_Model_lets_105 (by decide) (fun c_96 => ?_) (fun c_96 => ?_)
                  · refine lv_iconst (v := 0) hx hb d_Model_lets_112 rfl ?_
                    refine lv_istore (lv' := [(5, .int 0), (4, .int 1), (0, .ref (a 0)), (1, .int x0), (2, .int x1), (3, .int x2)]) hx hb d_Model_lets_113 hl (by decide) rfl (fun ls hl => ?_)
                    refine lv_iload hx hb d_Model_lets_115 (lv_at hl 0 rfl) ?_
                    refine lv_if_eq (tgt := 144) hx hb d_Model_lets_117 (by decide) (fun _ => ?_) (fun h9 => absurd (by decide) h9)
                    refine lv_iconst (v := 0) hx hb d_Model_lets_144 rfl ?_
                    exact rz () hx hb hr hlocks rfl hP hD hS d_Model_lets_145 ⟨by simp only [sp_Model_lets, if_neg c_1, if_neg c_56, if_pos c_57, if_neg c_84, if_neg c_86, if_neg c_88, if_pos c_89, if_neg c_94, if_pos c_96], Or.inl rfl⟩
                  · refine lv_iconst (v := 1) hx hb d_Model_lets_108 rfl ?_
                    refine lv_goto (tgt := 113) hx hb d_Model_lets_109 (by decide) ?_
                    refine lv_istore (lv' := [(5, .int 1), (4, .int 1), (0, .ref (a 0)), (1, .int x0), (2, .int x1), (3, .int x2)]) hx hb d_Model_lets_113 hl (by decide) rfl (fun ls hl => ?_)
                    refine lv_iload hx hb d_Model_lets_115 (lv_at hl 0 rfl) ?_
                    refine lv_if_eq (tgt := 144) hx hb d_Model_lets_117 (by decide) (fun h9 => absurd h9 (by decide)) (fun _ => ?_)
                    refine lv_iload_n hx hb d_Model_lets_120 rfl (lv_at hl 3 rfl) ?_
                    refine lv_bipush (v := 64) hx hb d_Model_lets_121 rfl ?_
                    refine lv_iand hx hb d_Model_lets_123 ?_
                    refine lv_if_eq (tgt := 144) hx hb d_Model_lets_124 (by decide) (fun c_99 => ?_) (fun c_99 => ?_)
                    · refine lv_iconst (v := 0) hx hb d_Model_lets_144 rfl ?_
                      exact rz () hx hb hr hlocks rfl hP hD hS d_Model_lets_145 ⟨by simp only [sp_Model_lets, if_neg c_1, if_neg c_56, if_pos c_57, if_neg c_84, if_neg c_86, if_neg c_88, if_pos c_89, if_neg c_94, if_neg c_96, if_pos c_99], Or.inl rfl⟩
                    · refine lv_iload_n hx hb d_Model_lets_127 rfl (lv_at hl 4 rfl) ?_
                      refine lv_iconst (v := 2) hx hb d_Model_lets_128 rfl ?_
                      refine lv_icmp_ne (tgt := 140) hx hb d_Model_lets_129 (by decide) (fun _ => ?_) (fun h9 => absurd h9 c_88)
                      refine lv_iconst (v := 1) hx hb d_Model_lets_140 rfl ?_
                      refine lv_goto (tgt := 145) hx hb d_Model_lets_141 (by decide) ?_
                      exact rz () hx hb hr hlocks rfl hP hD hS d_Model_lets_145 ⟨by simp only [sp_Model_lets, if_neg c_1, if_neg c_56, if_pos c_57, if_neg c_84, if_neg c_86, if_neg c_88, if_pos c_89, if_neg c_94, if_neg c_96, if_neg c_99], Or.inr rfl⟩
            · refine lv_iload_n hx hb d_Model_lets_72 rfl (lv_at hl 2 rfl) ?_
              refine lv_iconst (v := 4) hx hb d_Model_lets_73 rfl ?_
              refine lv_iand hx hb d_Model_lets_74 ?_
              refine lv_if_eq (tgt := 82) hx hb d_Model_lets_75 (by decide) (fun c_101 => ?_) (fun c_101 => ?_)
              · refine lv_iconst (v := 0) hx hb d_Model_lets_82 rfl ?_
                refine lv_goto (tgt := 113) hx hb d_Model_lets_83 (by decide) ?_
                refine lv_istore (lv' := [(5, .int 0), (4, .int 1), (0, .ref (a 0)), (1, .int x0), (2, .int x1), (3, .int x2)]) hx hb d_Model_lets_113 hl (by decide) rfl (fun ls hl => ?_)
                refine lv_iload hx hb d_Model_lets_115 (lv_at hl 0 rfl) ?_
                refine lv_if_eq (tgt := 144) hx hb d_Model_lets_117 (by decide) (fun _ => ?_) (fun h9 => absurd (by decide) h9)
                refine lv_iconst (v := 0) hx hb d_Model_lets_144 rfl ?_
                exact rz () hx hb hr hlocks rfl hP hD hS d_Model_lets_145 ⟨by simp only [sp_Model_lets, if_neg c_1, if_neg c_56, if_pos c_57, if_neg c_84, if_neg c_86, if_pos c_88, if_pos c_101], Or.inl rfl⟩
              · refine lv_iconst (v := 1) hx hb d_Model_lets_78 rfl ?_
                refine lv_goto (tgt := 113) hx hb d_Model_lets_79 (by decide) ?_
                refine lv_istore (lv' := [(5, .int 1), (4, .int 1), (0, .ref (a 0)), (1, .int x0), (2, .int x1), (3, .int x2)]) hx hb d_Model_lets_113 hl (by decide) rfl (fun ls hl => ?_)
                refine lv_iload hx hb d_Model_lets_115 (lv_at hl 0 rfl) ?_
                refine lv_if_eq (tgt := 144) hx hb d_Model_lets_117 (by decide) (fun h9 => absurd h9 (by decide)) (fun _ => ?_)
                refine lv_iload_n hx hb d_Model_lets_120 rfl (lv_at hl 3 rfl) ?_
                refine lv_bipush (v := 64) hx hb d_Model_lets_121 rfl ?_
                refine lv_iand hx hb d_Model_lets_123 ?_
                refine lv_if_eq (tgt := 144) hx hb d_Model_lets_124 (by decide) (fun c_104 => ?_) (fun c_104 => ?_)
                · refine lv_iconst (v := 0) hx hb d_Model_lets_144 rfl ?_
                  exact rz () hx hb hr hlocks rfl hP hD hS d_Model_lets_145 ⟨by simp only [sp_Model_lets, if_neg c_1, if_neg c_56, if_pos c_57, if_neg c_84, if_neg c_86, if_pos c_88, if_neg c_101, if_pos c_104], Or.inl rfl⟩
                · refine lv_iload_n hx hb d_Model_lets_127 rfl (lv_at hl 4 rfl) ?_
                  refine lv_iconst (v := 2) hx hb d_Model_lets_128 rfl ?_
                  refine lv_icmp_ne (tgt := 140) hx hb d_Model_lets_129 (by decide) (fun h9 => absurd c_88 h9) (fun _ => ?_)
                  refine lv_iload_n hx hb d_Model_lets_132 rfl (lv_at hl 3 rfl) ?_
                  refine lv_sipush (v := 128) hx hb d_Model_lets_133 rfl ?_
                  refine lv_iand hx hb d_Model_lets_136 ?_
                  refine lv_if_eq (tgt := 144) hx hb d_Model_lets_137 (by decide) (fun c_106 => ?_) (fun c_106 => ?_)
                  · refine lv_iconst (v := 0) hx hb d_Model_lets_144 rfl ?_
                    exact rz () hx hb hr hlocks rfl hP hD hS d_Model_lets_145 ⟨by simp only [sp_Model_lets, if_neg c_1, if_neg c_56, if_pos c_57, if_neg c_84, if_neg c_86, if_pos c_88, if_neg c_101, if_neg c_104, if_pos c_106], Or.inl rfl⟩
                  · refine lv_iconst (v := 1) hx hb d_Model_lets_140 rfl ?_
                    refine lv_goto (tgt := 145) hx hb d_Model_lets_141 (by decide) ?_
                    exact rz () hx hb hr hlocks rfl hP hD hS d_Model_lets_145 ⟨by simp only [sp_Model_lets, if_neg c_1, if_neg c_56, if_pos c_57, if_neg c_84, if_neg c_86, if_pos c_88, if_neg c_101, if_neg c_104, if_neg c_106], Or.inr rfl⟩
          · refine lv_iconst (v := 0) hx hb d_Model_lets_46 rfl ?_
            exact rz () hx hb hr hlocks rfl hP hD hS d_Model_lets_47 ⟨by simp only [sp_Model_lets, if_neg c_1, if_neg c_56, if_pos c_57, if_neg c_84, if_pos c_86], Or.inl rfl⟩
    · refine lv_iload hx hb d_Model_lets_18 (lv_at hl 0 rfl) ?_
      refine lv_if_eq (tgt := 46) hx hb d_Model_lets_20 (by decide) (fun h9 => absurd h9 (by decide)) (fun _ => ?_)
      refine lv_iload_n hx hb d_Model_lets_23 rfl (lv_at hl 4 rfl) ?_
      refine lv_iconst (v := 1) hx hb d_Model_lets_24 rfl ?_
      refine lv_icmp_ne (tgt := 48) hx hb d_Model_lets_25 (by decide) (fun _ => ?_) (fun h9 => absurd h9 (by rw [c_56]; decide))
      refine lv_iload_n hx hb d_Model_lets_48 rfl (lv_at hl 3 rfl) ?_
      refine lv_if_ne (tgt := 67) hx hb d_Model_lets_49 (by decide) (fun c_109 => ?_) (fun c_109 => ?_)
      · refine lv_iload_n hx hb d_Model_lets_67 rfl (lv_at hl 3 rfl) ?_
        refine lv_iconst (v := 2) hx hb d_Model_lets_68 rfl ?_
        refine lv_icmp_ne (tgt := 86) hx hb d_Model_lets_69 (by decide) (fun c_110 => ?_) (fun c_110 => ?_)
        · refine lv_iload_n hx hb d_Model_lets_86 rfl (lv_at hl 2 rfl) ?_
          refine lv_iconst (v := 2) hx hb d_Model_lets_87 rfl ?_
          refine lv_iand hx hb d_Model_lets_88 ?_
          refine lv_if_ne (tgt := 108) hx hb d_Model_lets_89 (by decide) (fun c_111 => ?_) (fun c_111 => ?_)
          · refine lv_iconst (v := 1) hx hb d_Model_lets_108 rfl ?_
            refine lv_goto (tgt := 113) hx hb d_Model_lets_109 (by decide) ?_
            refine lv_istore (lv' := [(5, .int 1), (4, .int 1), (0, .ref (a 0)), (1, .int x0), (2, .int x1), (3, .int x2)]) hx hb d_Model_lets_113 hl (by decide) rfl (fun ls hl => ?_)
            refine lv_iload hx hb d_Model_lets_115 (lv_at hl 0 rfl) ?_
            refine lv_if_eq (tgt := 144) hx hb d_Model_lets_117 (by decide) (fun h9 => absurd h9 (by decide)) (fun _ => ?_)
            refine lv_iload_n hx hb d_Model_lets_120 rfl (lv_at hl 3 rfl) ?_
            refine lv_bipush (v := 64) hx hb d_Model_lets_121 rfl ?_
            refine lv_iand hx hb d_Model_lets_123 ?_
            refine lv_if_eq (tgt := 144) hx hb d_Model_lets_124 (by decide) (fun c_113 => ?_) (fun c_113 => ?_)
            · refine lv_iconst (v := 0) hx hb d_Model_lets_144 rfl ?_
              exact rz () hx hb hr hlocks rfl hP hD hS d_Model_lets_145 ⟨by simp only [sp_Model_lets, if_neg c_1, if_pos c_56, if_neg c_109, if_neg c_110, if_neg c_111, if_pos c_113], Or.inl rfl⟩
            · refine lv_iload_n hx hb d_Model_lets_127 rfl (lv_at hl 4 rfl) ?_
              refine lv_iconst (v := 2) hx hb d_Model_lets_128 rfl ?_
              refine lv_icmp_ne (tgt := 140) hx hb d_Model_lets_129 (by decide) (fun _ => ?_) (fun h9 => absurd h9 c_110)
              refine lv_iconst (v := 1) hx hb d_Model_lets_140 rfl ?_
              refine lv_goto (tgt := 145) hx hb d_Model_lets_141 (by decide) ?_
              exact rz () hx hb hr hlocks rfl hP hD hS d_Model_lets_145 ⟨by simp only [sp_Model_lets, if_neg c_1, if_pos c_56, if_neg c_109, if_neg c_110, if_neg c_111, if_neg c_113], Or.inr rfl⟩
          · refine lv_aload_n hx hb d_Model_lets_92 rfl (lv_at hl 1 rfl) ?_
            refine lv_ldc (v := 524288) hx hb hown (hts _ k_778) d_Model_lets_93 ?_
            refine xi (wr := []) (W2 := fun _ => wR a k n h ca tv nx pcs lv cs x b cl cm so ti pu np) (xV (rest := []) ⟨hx, hb, hml, hown, hts⟩ (c_Model_has a k n 524288 h ca tv nx pcs lv cs x b cl cm so ti pu np hn hh) mw_Model_has mv_Model_has k_726 ⟨rfl, rfl, Nat.le_of_ble_eq_true rfl, Nat.le_of_ble_eq_true rfl⟩ hK hP hD hS hA hF [0, 1, 2, 3, 4, 5, 6, 7, 8, 9] [0, 1, 2, 3, 4, 5, 6, 7, 8] rfl rfl rfl 0 5 rfl rfl rfl rfl hl.1 rfl (Nat.le_of_ble_eq_true rfl) d_Model_lets_95 ⟨Nat.zero_le _, Nat.zero_le _⟩) hP hD hS hA [0, 1, 2, 3, 4, 5, 6, 7, 8, 9] [] [0, 1, 2, 3, 4, 5, 6, 7, 8, 9] rfl rfl rfl (by decide) (fun _ => rfl) rfl (fun r_115 _ H locs h_115 hP hD hS => ?_)
            obtain ⟨h_115, z_115⟩ := h_115
            subst h_115
            refine lv_if_eq (tgt := 112) hx hb d_Model_lets_98 (by decide) (fun c_116 => ?_) (fun c_116 => ?_)
            · refine lv_iconst (v := 0) hx hb d_Model_lets_112 rfl ?_
              refine lv_istore (lv' := [(5, .int 0), (4, .int 1), (0, .ref (a 0)), (1, .int x0), (2, .int x1), (3, .int x2)]) hx hb d_Model_lets_113 hl (by decide) rfl (fun ls hl => ?_)
              refine lv_iload hx hb d_Model_lets_115 (lv_at hl 0 rfl) ?_
              refine lv_if_eq (tgt := 144) hx hb d_Model_lets_117 (by decide) (fun _ => ?_) (fun h9 => absurd (by decide) h9)
              refine lv_iconst (v := 0) hx hb d_Model_lets_144 rfl ?_
              exact rz () hx hb hr hlocks rfl hP hD hS d_Model_lets_145 ⟨by simp only [sp_Model_lets, if_neg c_1, if_pos c_56, if_neg c_109, if_neg c_110, if_pos c_111, if_pos c_116], Or.inl rfl⟩
            · refine lv_iload_n hx hb d_Model_lets_101 rfl (lv_at hl 2 rfl) ?_
              refine lv_bipush (v := 8) hx hb d_Model_lets_102 rfl ?_
              refine lv_iand hx hb d_Model_lets_104 ?_
              refine lv_if_eq (tgt := 112) hx hb d_Model_lets_105 (by decide) (fun c_118 => ?_) (fun c_118 => ?_)
              · refine lv_iconst (v := 0) hx hb d_Model_lets_112 rfl ?_
                refine lv_istore (lv' := [(5, .int 0), (4, .int 1), (0, .ref (a 0)), (1, .int x0), (2, .int x1), (3, .int x2)]) hx hb d_Model_lets_113 hl (by decide) rfl (fun ls hl => ?_)
                refine lv_iload hx hb d_Model_lets_115 (lv_at hl 0 rfl) ?_
                refine lv_if_eq (tgt := 144) hx hb d_Model_lets_117 (by decide) (fun _ => ?_) (fun h9 => absurd (by decide) h9)
                refine lv_iconst (v := 0) hx hb d_Model_lets_144 rfl ?_
                exact rz () hx hb hr hlocks rfl hP hD hS d_Model_lets_145 ⟨by simp only [sp_Model_lets, if_neg c_1, if_pos c_56, if_neg c_109, if_neg c_110, if_pos c_111, if_neg c_116, if_pos c_118], Or.inl rfl⟩
              · refine lv_iconst (v := 1) hx hb d_Model_lets_108 rfl ?_
                refine lv_goto (tgt := 113) hx hb d_Model_lets_109 (by decide) ?_
                refine lv_istore (lv' := [(5, .int 1), (4, .int 1), (0, .ref (a 0)), (1, .int x0), (2, .int x1), (3, .int x2)]) hx hb d_Model_lets_113 hl (by decide) rfl (fun ls hl => ?_)
                refine lv_iload hx hb d_Model_lets_115 (lv_at hl 0 rfl) ?_
                refine lv_if_eq (tgt := 144) hx hb d_Model_lets_117 (by decide) (fun h9 => absurd h9 (by decide)) (fun _ => ?_)
                refine lv_iload_n hx hb d_Model_lets_120 rfl (lv_at hl 3 rfl) ?_
                refine lv_bipush (v := 64) hx hb d_Model_lets_121 rfl ?_
                refine lv_iand hx hb d_Model_lets_123 ?_
                refine lv_if_eq (tgt := 144) hx hb d_Model_lets_124 (by decide) (fun c_121 => ?_) (fun c_121 => ?_)
                · refine lv_iconst (v := 0) hx hb d_Model_lets_144 rfl ?_
                  exact rz () hx hb hr hlocks rfl hP hD hS d_Model_lets_145 ⟨by simp only [sp_Model_lets, if_neg c_1, if_pos c_56, if_neg c_109, if_neg c_110, if_pos c_111, if_neg c_116, if_neg c_118, if_pos c_121], Or.inl rfl⟩
                · refine lv_iload_n hx hb d_Model_lets_127 rfl (lv_at hl 4 rfl) ?_
                  refine lv_iconst (v := 2) hx hb d_Model_lets_128 rfl ?_
                  refine lv_icmp_ne (tgt := 140) hx hb d_Model_lets_129 (by decide) (fun _ => ?_) (fun h9 => absurd h9 c_110)
                  refine lv_iconst (v := 1) hx hb d_Model_lets_140 rfl ?_
                  refine lv_goto (tgt := 145) hx hb d_Model_lets_141 (by decide) ?_
                  exact rz () hx hb hr hlocks rfl hP hD hS d_Model_lets_145 ⟨by simp only [sp_Model_lets, if_neg c_1, if_pos c_56, if_neg c_109, if_neg c_110, if_pos c_111, if_neg c_116, if_neg c_118, if_neg c_121], Or.inr rfl⟩
        · refine lv_iload_n hx hb d_Model_lets_72 rfl (lv_at hl 2 rfl) ?_
          refine lv_iconst (v := 4) hx hb d_Model_lets_73 rfl ?_
          refine lv_iand hx hb d_Model_lets_74 ?_
          refine lv_if_eq (tgt := 82) hx hb d_Model_lets_75 (by decide) (fun c_123 => ?_) (fun c_123 => ?_)
          · refine lv_iconst (v := 0) hx hb d_Model_lets_82 rfl ?_
            refine lv_goto (tgt := 113) hx hb d_Model_lets_83 (by decide) ?_
            refine lv_istore (lv' := [(5, .int 0), (4, .int 1), (0, .ref (a 0)), (1, .int x0), (2, .int x1), (3, .int x2)]) hx hb d_Model_lets_113 hl (by decide) rfl (fun ls hl => ?_)
            refine lv_iload hx hb d_Model_lets_115 (lv_at hl 0 rfl) ?_
            refine lv_if_eq (tgt := 144) hx hb d_Model_lets_117 (by decide) (fun _ => ?_) (fun h9 => absurd (by decide) h9)
            refine lv_iconst (v := 0) hx hb d_Model_lets_144 rfl ?_
            exact rz () hx hb hr hlocks rfl hP hD hS d_Model_lets_145 ⟨by simp only [sp_Model_lets, if_neg c_1, if_pos c_56, if_neg c_109, if_pos c_110, if_pos c_123], Or.inl rfl⟩
          · refine lv_iconst (v := 1) hx hb d_Model_lets_78 rfl ?_
            refine lv_goto (tgt := 113) hx hb d_Model_lets_79 (by decide) ?_
            refine lv_istore (lv' := [(5, .int 1), (4, .int 1), (0, .ref (a 0)), (1, .int x0), (2, .int x1), (3, .int x2)]) hx hb d_Model_lets_113 hl (by decide) rfl (fun ls hl => ?_)
            refine lv_iload hx hb d_Model_lets_115 (lv_at hl 0 rfl) ?_
            refine lv_if_eq (tgt := 144) hx hb d_Model_lets_117 (by decide) (fun h9 => absurd h9 (by decide)) (fun _ => ?_)
            refine lv_iload_n hx hb d_Model_lets_120 rfl (lv_at hl 3 rfl) ?_
            refine lv_bipush (v := 64) hx hb d_Model_lets_121 rfl ?_
            refine lv_iand hx hb d_Model_lets_123 ?_
            refine lv_if_eq (tgt := 144) hx hb d_Model_lets_124 (by decide) (fun c_126 => ?_) (fun c_126 => ?_)
            · refine lv_iconst (v := 0) hx hb d_Model_lets_144 rfl ?_
              exact rz () hx hb hr hlocks rfl hP hD hS d_Model_lets_145 ⟨by simp only [sp_Model_lets, if_neg c_1, if_pos c_56, if_neg c_109, if_pos c_110, if_neg c_123, if_pos c_126], Or.inl rfl⟩
            · refine lv_iload_n hx hb d_Model_lets_127 rfl (lv_at hl 4 rfl) ?_
              refine lv_iconst (v := 2) hx hb d_Model_lets_128 rfl ?_
              refine lv_icmp_ne (tgt := 140) hx hb d_Model_lets_129 (by decide) (fun h9 => absurd c_110 h9) (fun _ => ?_)
              refine lv_iload_n hx hb d_Model_lets_132 rfl (lv_at hl 3 rfl) ?_
              refine lv_sipush (v := 128) hx hb d_Model_lets_133 rfl ?_
              refine lv_iand hx hb d_Model_lets_136 ?_
              refine lv_if_eq (tgt := 144) hx hb d_Model_lets_137 (by decide) (fun c_128 => ?_) (fun c_128 => ?_)
              · refine lv_iconst (v := 0) hx hb d_Model_lets_144 rfl ?_
                exact rz () hx hb hr hlocks rfl hP hD hS d_Model_lets_145 ⟨by simp only [sp_Model_lets, if_neg c_1, if_pos c_56, if_neg c_109, if_pos c_110, if_neg c_123, if_neg c_126, if_pos c_128], Or.inl rfl⟩
              · refine lv_iconst (v := 1) hx hb d_Model_lets_140 rfl ?_
                refine lv_goto (tgt := 145) hx hb d_Model_lets_141 (by decide) ?_
                exact rz () hx hb hr hlocks rfl hP hD hS d_Model_lets_145 ⟨by simp only [sp_Model_lets, if_neg c_1, if_pos c_56, if_neg c_109, if_pos c_110, if_neg c_123, if_neg c_126, if_neg c_128], Or.inr rfl⟩
      · refine lv_iload_n hx hb d_Model_lets_52 rfl (lv_at hl 2 rfl) ?_
        refine lv_bipush (v := 8) hx hb d_Model_lets_53 rfl ?_
        refine lv_iand hx hb d_Model_lets_55 ?_
        refine lv_if_eq (tgt := 63) hx hb d_Model_lets_56 (by decide) (fun c_129 => ?_) (fun c_129 => ?_)
        · refine lv_iconst (v := 0) hx hb d_Model_lets_63 rfl ?_
          refine lv_goto (tgt := 113) hx hb d_Model_lets_64 (by decide) ?_
          refine lv_istore (lv' := [(5, .int 0), (4, .int 1), (0, .ref (a 0)), (1, .int x0), (2, .int x1), (3, .int x2)]) hx hb d_Model_lets_113 hl (by decide) rfl (fun ls hl => ?_)
          refine lv_iload hx hb d_Model_lets_115 (lv_at hl 0 rfl) ?_
          refine lv_if_eq (tgt := 144) hx hb d_Model_lets_117 (by decide) (fun _ => ?_) (fun h9 => absurd (by decide) h9)
          refine lv_iconst (v := 0) hx hb d_Model_lets_144 rfl ?_
          exact rz () hx hb hr hlocks rfl hP hD hS d_Model_lets_145 ⟨by simp only [sp_Model_lets, if_neg c_1, if_pos c_56, if_pos c_109, if_pos c_129], Or.inl rfl⟩
        · refine lv_iconst (v := 1) hx hb d_Model_lets_59 rfl ?_
          refine lv_goto (tgt := 113) hx hb d_Model_lets_60 (by decide) ?_
          refine lv_istore (lv' := [(5, .int 1), (4, .int 1), (0, .ref (a 0)), (1, .int x0), (2, .int x1), (3, .int x2)]) hx hb d_Model_lets_113 hl (by decide) rfl (fun ls hl => ?_)
          refine lv_iload hx hb d_Model_lets_115 (lv_at hl 0 rfl) ?_
          refine lv_if_eq (tgt := 144) hx hb d_Model_lets_117 (by decide) (fun h9 => absurd h9 (by decide)) (fun _ => ?_)
          refine lv_iload_n hx hb d_Model_lets_120 rfl (lv_at hl 3 rfl) ?_
          refine lv_bipush (v := 64) hx hb d_Model_lets_121 rfl ?_
          refine lv_iand hx hb d_Model_lets_123 ?_
          refine lv_if_eq (tgt := 144) hx hb d_Model_lets_124 (by decide) (fun c_132 => ?_) (fun c_132 => ?_)
          · refine lv_iconst (v := 0) hx hb d_Model_lets_144 rfl ?_
            exact rz () hx hb hr hlocks rfl hP hD hS d_Model_lets_145 ⟨by simp only [sp_Model_lets, if_neg c_1, if_pos c_56, if_pos c_109, if_neg c_129, if_pos c_132], Or.inl rfl⟩
          · refine lv_iload_n hx hb d_Model_lets_127 rfl (lv_at hl 4 rfl) ?_
            refine lv_iconst (v := 2) hx hb d_Model_lets_128 rfl ?_
            refine lv_icmp_ne (tgt := 140) hx hb d_Model_lets_129 (by decide) (fun _ => ?_) (fun h9 => absurd h9 (by rw [c_109]; decide))
            refine lv_iconst (v := 1) hx hb d_Model_lets_140 rfl ?_
            refine lv_goto (tgt := 145) hx hb d_Model_lets_141 (by decide) ?_
            exact rz () hx hb hr hlocks rfl hP hD hS d_Model_lets_145 ⟨by simp only [sp_Model_lets, if_neg c_1, if_pos c_56, if_pos c_109, if_neg c_129, if_neg c_132], Or.inr rfl⟩
def sp_Model_translate (n : Nat) (x0 : Int32) (x1 : Int32) (h : Int32) (ca : Int32) (tv : Int32) (lv : Nat → Int32) (cs : Nat → Int32) (b : Nat → Int32) : Int64 × Int32 × Int32 :=
  if (sp_Model_levelFor x1 h lv cs) = 3 then
    (x0.toInt64 &&& 4294967295, (ca, tv))
  else
    if (sp_Model_raw h 384 cs) < 0 then
      if 0 ≤ (sp_Model_inRam n ((4096 * (((sp_Model_raw h 384 cs) &&& 4194303).toInt64)) + (4 * ((ush x0 22).toInt64)))) then
        if (sp_Model_isBad (sp_Model_ramWord (sp_Model_inRam n ((4096 * (((sp_Model_raw h 384 cs) &&& 4194303).toInt64)) + (4 * ((ush x0 22).toInt64)))) b)) = 0 then
          if (sp_Model_isLeaf (sp_Model_ramWord (sp_Model_inRam n ((4096 * (((sp_Model_raw h 384 cs) &&& 4194303).toInt64)) + (4 * ((ush x0 22).toInt64)))) b)) = 0 then
            if 0 ≤ (sp_Model_inRam n ((4096 * ((ush (sp_Model_ramWord (sp_Model_inRam n ((4096 * (((sp_Model_raw h 384 cs) &&& 4194303).toInt64)) + (4 * ((ush x0 22).toInt64)))) b) 10).toInt64)) + (4 * (((shr x0 12) &&& 1023).toInt64)))) then
              if (sp_Model_isBad (sp_Model_ramWord (sp_Model_inRam n ((4096 * ((ush (sp_Model_ramWord (sp_Model_inRam n ((4096 * (((sp_Model_raw h 384 cs) &&& 4194303).toInt64)) + (4 * ((ush x0 22).toInt64)))) b) 10).toInt64)) + (4 * (((shr x0 12) &&& 1023).toInt64)))) b)) = 0 then
                if (sp_Model_isLeaf (sp_Model_ramWord (sp_Model_inRam n ((4096 * ((ush (sp_Model_ramWord (sp_Model_inRam n ((4096 * (((sp_Model_raw h 384 cs) &&& 4194303).toInt64)) + (4 * ((ush x0 22).toInt64)))) b) 10).toInt64)) + (4 * (((shr x0 12) &&& 1023).toInt64)))) b)) = 0 then
                  let ca_61 := (sp_Model_trap (sp_Model_pageFault x1) x0 ca tv).1
                  let tv_61 := (sp_Model_trap (sp_Model_pageFault x1) x0 ca tv).2
                  ((-1), (ca_61, tv_61))
                else
                  if (sp_Model_lets (sp_Model_ramWord (sp_Model_inRam n ((4096 * ((ush (sp_Model_ramWord (sp_Model_inRam n ((4096 * (((sp_Model_raw h 384 cs) &&& 4194303).toInt64)) + (4 * ((ush x0 22).toInt64)))) b) 10).toInt64)) + (4 * (((shr x0 12) &&& 1023).toInt64)))) b) x1 (sp_Model_levelFor x1 h lv cs) h cs) = 0 then
                    let ca_66 := (sp_Model_trap (sp_Model_pageFault x1) x0 ca tv).1
                    let tv_66 := (sp_Model_trap (sp_Model_pageFault x1) x0 ca tv).2
                    ((-1), (ca_66, tv_66))
                  else
                    if ((4096 * (((ush (sp_Model_ramWord (sp_Model_inRam n ((4096 * ((ush (sp_Model_ramWord (sp_Model_inRam n ((4096 * (((sp_Model_raw h 384 cs) &&& 4194303).toInt64)) + (4 * ((ush x0 22).toInt64)))) b) 10).toInt64)) + (4 * (((shr x0 12) &&& 1023).toInt64)))) b) 10).toInt64) + ((0 : Int32).toInt64))) + ((x0 &&& 4095).toInt64)) ≤ 4294967295 then
                      ((4096 * (((ush (sp_Model_ramWord (sp_Model_inRam n ((4096 * ((ush (sp_Model_ramWord (sp_Model_inRam n ((4096 * (((sp_Model_raw h 384 cs) &&& 4194303).toInt64)) + (4 * ((ush x0 22).toInt64)))) b) 10).toInt64)) + (4 * (((shr x0 12) &&& 1023).toInt64)))) b) 10).toInt64) + ((0 : Int32).toInt64))) + ((x0 &&& 4095).toInt64), (ca, tv))
                    else
                      let ca_72 := (sp_Model_trap (sp_Model_accessFault x1) x0 ca tv).1
                      let tv_72 := (sp_Model_trap (sp_Model_accessFault x1) x0 ca tv).2
                      ((-1), (ca_72, tv_72))
              else
                let ca_56 := (sp_Model_trap (sp_Model_pageFault x1) x0 ca tv).1
                let tv_56 := (sp_Model_trap (sp_Model_pageFault x1) x0 ca tv).2
                ((-1), (ca_56, tv_56))
            else
              let ca_74 := (sp_Model_trap (sp_Model_accessFault x1) x0 ca tv).1
              let tv_74 := (sp_Model_trap (sp_Model_accessFault x1) x0 ca tv).2
              ((-1), (ca_74, tv_74))
          else
            if (sp_Model_lets (sp_Model_ramWord (sp_Model_inRam n ((4096 * (((sp_Model_raw h 384 cs) &&& 4194303).toInt64)) + (4 * ((ush x0 22).toInt64)))) b) x1 (sp_Model_levelFor x1 h lv cs) h cs) = 0 then
              let ca_33 := (sp_Model_trap (sp_Model_pageFault x1) x0 ca tv).1
              let tv_33 := (sp_Model_trap (sp_Model_pageFault x1) x0 ca tv).2
              ((-1), (ca_33, tv_33))
            else
              if (((ush (sp_Model_ramWord (sp_Model_inRam n ((4096 * (((sp_Model_raw h 384 cs) &&& 4194303).toInt64)) + (4 * ((ush x0 22).toInt64)))) b) 10).toInt64) &&& 1023) = 0 then
                if ((4096 * (((ush (sp_Model_ramWord (sp_Model_inRam n ((4096 * (((sp_Model_raw h 384 cs) &&& 4194303).toInt64)) + (4 * ((ush x0 22).toInt64)))) b) 10).toInt64) + (((shr x0 12) &&& 1023).toInt64))) + ((x0 &&& 4095).toInt64)) ≤ 4294967295 then
                  ((4096 * (((ush (sp_Model_ramWord (sp_Model_inRam n ((4096 * (((sp_Model_raw h 384 cs) &&& 4194303).toInt64)) + (4 * ((ush x0 22).toInt64)))) b) 10).toInt64) + (((shr x0 12) &&& 1023).toInt64))) + ((x0 &&& 4095).toInt64), (ca, tv))
                else
                  let ca_43 := (sp_Model_trap (sp_Model_accessFault x1) x0 ca tv).1
                  let tv_43 := (sp_Model_trap (sp_Model_accessFault x1) x0 ca tv).2
                  ((-1), (ca_43, tv_43))
              else
                let ca_38 := (sp_Model_trap (sp_Model_pageFault x1) x0 ca tv).1
                let tv_38 := (sp_Model_trap (sp_Model_pageFault x1) x0 ca tv).2
                ((-1), (ca_38, tv_38))
        else
          let ca_20 := (sp_Model_trap (sp_Model_pageFault x1) x0 ca tv).1
          let tv_20 := (sp_Model_trap (sp_Model_pageFault x1) x0 ca tv).2
          ((-1), (ca_20, tv_20))
      else
        let ca_76 := (sp_Model_trap (sp_Model_accessFault x1) x0 ca tv).1
        let tv_76 := (sp_Model_trap (sp_Model_accessFault x1) x0 ca tv).2
        ((-1), (ca_76, tv_76))
    else
      (x0.toInt64 &&& 4294967295, (ca, tv))
set_option maxHeartbeats 4000000 in
set_option maxRecDepth 100000 in
theorem c_Model_translate {l : Launch} {D : va_G} {g : Nat → Nat} (a : Nat → Nat) (k : Nat → ClassId) (n : Nat) (x0 : Int32) (x1 : Int32) (h ca tv nx : Int32) (pcs lv cs x b cl : Nat → Int32) (cm : Nat → Int64) (so : Nat → Int32) (ti : Int64) (pu : Nat → Int32) (np : Int32) (hn : n ≤ 4096) (hh : h = 0 ∨ h = 1) : CT l D g y_Model_translate b_Model_translate 15 (some .long) (rD 3) [.ref (a 0), .int x0, .int x1] (wR a k n h ca tv nx pcs lv cs x b cl cm so ti pu np) (tyR k) (Ql D (fun (r : Int64) (u : Int32 × Int32) => sp_Model_translate n x0 x1 h ca tv lv cs b = (r, u)) (fun u => wR a k n h u.1 u.2 nx pcs lv cs x b cl cm so ti pu np)) := by
  refine CT.of rfl (Nat.le_of_ble_eq_true rfl) (fun p e s m below meth c A ls hx hb hr hml hts hown hlocks hA hP hK hD hF hS hl => ?_)
  have hl : lv_has ls 15 [(0, .ref (a 0)), (1, .int x0), (2, .int x1)] := hl
  refine lv_aload_n hx hb d_Model_translate_0 rfl (lv_at hl 0 rfl) ?_
  refine lv_iload_n hx hb d_Model_translate_1 rfl (lv_at hl 2 rfl) ?_
  refine xi (wr := []) (W2 := fun _ => wR a k n h ca tv nx pcs lv cs x b cl cm so ti pu np) (xV (rest := []) ⟨hx, hb, hml, hown, hts⟩ (c_Model_levelFor a k n x1 h ca tv nx pcs lv cs x b cl cm so ti pu np hn hh) mw_Model_levelFor mv_Model_levelFor k_746 ⟨rfl, rfl, Nat.le_of_ble_eq_true rfl, Nat.le_of_ble_eq_true rfl⟩ hK hP hD hS hA hF [0, 1, 2, 3, 4, 5, 6, 7, 8, 9] [0, 1, 2, 3, 4, 5, 6, 7, 8] rfl rfl rfl 0 5 rfl rfl rfl rfl hl.1 rfl (Nat.le_of_ble_eq_true rfl) d_Model_translate_2 ⟨Nat.zero_le _, Nat.zero_le _⟩) hP hD hS hA [0, 1, 2, 3, 4, 5, 6, 7, 8, 9] [] [0, 1, 2, 3, 4, 5, 6, 7, 8, 9] rfl rfl rfl (by decide) (fun _ => rfl) rfl (fun r_1 _ H locs h_1 hP hD hS => ?_)
  subst h_1
  refine lv_istore_n (lv' := [(3, .int (sp_Model_levelFor x1 h lv cs)), (0, .ref (a 0)), (1, .int x0), (2, .int x1)]) hx hb d_Model_translate_5 rfl hl (by decide) rfl (fun ls hl => ?_)
  refine lv_iload_n hx hb d_Model_translate_6 rfl (lv_at hl 2 rfl) ?_
  refine lv_i2l hx hb d_Model_translate_7 rfl ?_
  refine lv_ldc2 (v := 4294967295) hx hb hown (hts _ k_751) d_Model_translate_8 ?_
  refine lv_land hx hb d_Model_translate_11 ?_
  refine lv_lstore (lv' := [(4, .long (x0.toInt64 &&& 4294967295)), (3, .int (sp_Model_levelFor x1 h lv cs)), (0, .ref (a 0)), (1, .int x0), (2, .int x1)]) hx hb d_Model_translate_12 hl (by decide) rfl (fun ls hl => ?_)
  refine lv_iload_n hx hb d_Model_translate_14 rfl (lv_at hl 1 rfl) ?_
  refine lv_iconst (v := 3) hx hb d_Model_translate_15 rfl ?_
  refine lv_icmp_eq (tgt := 33) hx hb d_Model_translate_16 (by decide) (fun c_2 => ?_) (fun c_2 => ?_)
  · refine lv_lload hx hb d_Model_translate_33 (lv_at hl 0 rfl) ?_
    exact rl (ca, tv) hx hb hr hlocks hP hD hS d_Model_translate_35 (by simp only [sp_Model_translate, if_pos c_2])
  · refine lv_aload_n hx hb d_Model_translate_19 rfl (lv_at hl 2 rfl) ?_
    refine lv_aload_n hx hb d_Model_translate_20 rfl (lv_at hl 2 rfl) ?_
    refine va_get (D := D) (ci := 5) (v := .int h) (C := R_Model) (T := F_Model) (N := 16) hx hb hts i_Model hown hK hP 0 rfl rfl 12 (by decide) (hts _ k_637) (fun _ h9 => h9) rfl d_Model_translate_21 ?_
    refine lv_sipush (v := 384) hx hb d_Model_translate_24 rfl ?_
    refine xi (wr := []) (W2 := fun _ => wR a k n h ca tv nx pcs lv cs x b cl cm so ti pu np) (xV (rest := []) ⟨hx, hb, hml, hown, hts⟩ (c_Model_raw a k n h 384 h ca tv nx pcs lv cs x b cl cm so ti pu np hn (vp_csr hh (by unfold vp_in; decide))) mw_Model_raw mv_Model_raw k_714 ⟨rfl, rfl, Nat.le_of_ble_eq_true rfl, Nat.le_of_ble_eq_true rfl⟩ hK hP hD hS hA hF [0, 1, 2, 3, 4, 5, 6, 7, 8, 9] [0, 1, 2, 3, 4, 5, 6, 7, 8] rfl rfl rfl 0 5 rfl rfl rfl rfl hl.1 rfl (Nat.le_of_ble_eq_true rfl) d_Model_translate_27 ⟨Nat.zero_le _, Nat.zero_le _⟩) hP hD hS hA [0, 1, 2, 3, 4, 5, 6, 7, 8, 9] [] [0, 1, 2, 3, 4, 5, 6, 7, 8, 9] rfl rfl rfl (by decide) (fun _ => rfl) rfl (fun r_3 _ H locs h_3 hP hD hS => ?_)
    subst h_3
    refine lv_if_lt (tgt := 36) hx hb d_Model_translate_30 (by decide) (fun c_4 => ?_) (fun c_4 => ?_)
    · refine lv_aload_n hx hb d_Model_translate_36 rfl (lv_at hl 2 rfl) ?_
      refine lv_aload_n hx hb d_Model_translate_37 rfl (lv_at hl 2 rfl) ?_
      refine va_get (D := D) (ci := 5) (v := .int h) (C := R_Model) (T := F_Model) (N := 16) hx hb hts i_Model hown hK hP 0 rfl rfl 12 (by decide) (hts _ k_637) (fun _ h9 => h9) rfl d_Model_translate_38 ?_
      refine lv_sipush (v := 384) hx hb d_Model_translate_41 rfl ?_
      refine xi (wr := []) (W2 := fun _ => wR a k n h ca tv nx pcs lv cs x b cl cm so ti pu np) (xV (rest := []) ⟨hx, hb, hml, hown, hts⟩ (c_Model_raw a k n h 384 h ca tv nx pcs lv cs x b cl cm so ti pu np hn (vp_csr hh (by unfold vp_in; decide))) mw_Model_raw mv_Model_raw k_714 ⟨rfl, rfl, Nat.le_of_ble_eq_true rfl, Nat.le_of_ble_eq_true rfl⟩ hK hP hD hS hA hF [0, 1, 2, 3, 4, 5, 6, 7, 8, 9] [0, 1, 2, 3, 4, 5, 6, 7, 8] rfl rfl rfl 0 5 rfl rfl rfl rfl hl.1 rfl (Nat.le_of_ble_eq_true rfl) d_Model_translate_44 ⟨Nat.zero_le _, Nat.zero_le _⟩) hP hD hS hA [0, 1, 2, 3, 4, 5, 6, 7, 8, 9] [] [0, 1, 2, 3, 4, 5, 6, 7, 8, 9] rfl rfl rfl (by decide) (fun _ => rfl) rfl (fun r_5 _ H locs h_5 hP hD hS => ?_)
      subst h_5
      refine lv_ldc (v := 4194303) hx hb hown (hts _ k_752) d_Model_translate_47 ?_
      refine lv_iand hx hb d_Model_translate_49 ?_
      refine lv_i2l hx hb d_Model_translate_50 rfl ?_
      refine lv_lstore (lv' := [(6, .long (((sp_Model_raw h 384 cs) &&& 4194303).toInt64)), (4, .long (x0.toInt64 &&& 4294967295)), (3, .int (sp_Model_levelFor x1 h lv cs)), (0, .ref (a 0)), (1, .int x0), (2, .int x1)]) hx hb d_Model_translate_51 hl (by decide) rfl (fun ls hl => ?_)
      refine lv_iconst (v := 0) hx hb d_Model_translate_53 rfl ?_
      refine lv_istore (lv' := [(8, .int 0), (6, .long (((sp_Model_raw h 384 cs) &&& 4194303).toInt64)), (4, .long (x0.toInt64 &&& 4294967295)), (3, .int (sp_Model_levelFor x1 h lv cs)), (0, .ref (a 0)), (1, .int x0), (2, .int x1)]) hx hb d_Model_translate_54 hl (by decide) rfl (fun ls hl => ?_)
      refine lv_iconst (v := 0) hx hb d_Model_translate_56 rfl ?_
      refine lv_istore (lv' := [(9, .int 0), (8, .int 0), (6, .long (((sp_Model_raw h 384 cs) &&& 4194303).toInt64)), (4, .long (x0.toInt64 &&& 4294967295)), (3, .int (sp_Model_levelFor x1 h lv cs)), (0, .ref (a 0)), (1, .int x0), (2, .int x1)]) hx hb d_Model_translate_57 hl (by decide) rfl (fun ls hl => ?_)
      refine lv_iconst (v := 1) hx hb d_Model_translate_59 rfl ?_
      refine lv_istore (lv' := [(10, .int 1), (9, .int 0), (8, .int 0), (6, .long (((sp_Model_raw h 384 cs) &&& 4194303).toInt64)), (4, .long (x0.toInt64 &&& 4294967295)), (3, .int (sp_Model_levelFor x1 h lv cs)), (0, .ref (a 0)), (1, .int x0), (2, .int x1)]) hx hb d_Model_translate_60 hl (by decide) rfl (fun ls hl => ?_)
      refine lv_iload hx hb d_Model_translate_62 (lv_at hl 0 rfl) ?_
      refine lv_if_eq (tgt := 177) hx hb d_Model_translate_64 (by decide) (fun h9 => absurd h9 (by decide)) (fun _ => ?_)
      refine lv_iload hx hb d_Model_translate_67 (lv_at hl 1 rfl) ?_
      refine lv_if_ne (tgt := 79) hx hb d_Model_translate_69 (by decide) (fun h9 => absurd (by decide) h9) (fun _ => ?_)
      refine lv_iload_n hx hb d_Model_translate_72 rfl (lv_at hl 7 rfl) ?_
      refine lv_bipush (v := 22) hx hb d_Model_translate_73 rfl ?_
      refine lv_iushr (v := ush x0 22) hx hb d_Model_translate_75 rfl ?_
      refine lv_goto (tgt := 87) hx hb d_Model_translate_76 (by decide) ?_
      refine lv_istore (lv' := [(11, .int (ush x0 22)), (10, .int 1), (9, .int 0), (8, .int 0), (6, .long (((sp_Model_raw h 384 cs) &&& 4194303).toInt64)), (4, .long (x0.toInt64 &&& 4294967295)), (3, .int (sp_Model_levelFor x1 h lv cs)), (0, .ref (a 0)), (1, .int x0), (2, .int x1)]) hx hb d_Model_translate_87 hl (by decide) rfl (fun ls hl => ?_)
      refine lv_aload_n hx hb d_Model_translate_89 rfl (lv_at hl 7 rfl) ?_
      refine lv_ldc2 (v := 4096) hx hb hown (hts _ k_753) d_Model_translate_90 ?_
      refine lv_lload hx hb d_Model_translate_93 (lv_at hl 4 rfl) ?_
      refine lv_lmul hx hb d_Model_translate_95 ?_
      refine lv_ldc2 (v := 4) hx hb hown (hts _ k_754) d_Model_translate_96 ?_
      refine lv_iload hx hb d_Model_translate_99 (lv_at hl 0 rfl) ?_
      refine lv_i2l hx hb d_Model_translate_101 rfl ?_
      refine lv_lmul hx hb d_Model_translate_102 ?_
      refine lv_ladd hx hb d_Model_translate_103 ?_
      refine xi (wr := []) (W2 := fun _ => wR a k n h ca tv nx pcs lv cs x b cl cm so ti pu np) (xV (rest := []) ⟨hx, hb, hml, hown, hts⟩ (c_Model_inRam a k n ((4096 * (((sp_Model_raw h 384 cs) &&& 4194303).toInt64)) + (4 * ((ush x0 22).toInt64))) h ca tv nx pcs lv cs x b cl cm so ti pu np hn) mw_Model_inRam mv_Model_inRam k_755 ⟨rfl, rfl, Nat.le_of_ble_eq_true rfl, Nat.le_of_ble_eq_true rfl⟩ hK hP hD hS hA hF [0, 1, 2, 3, 4, 5, 6, 7, 8, 9] [0, 1, 2, 3, 4, 5, 6, 7, 8] rfl rfl rfl 0 5 rfl rfl rfl rfl hl.1 rfl (Nat.le_of_ble_eq_true rfl) d_Model_translate_104 ⟨Nat.zero_le _, Nat.zero_le _⟩) hP hD hS hA [0, 1, 2, 3, 4, 5, 6, 7, 8, 9] [] [0, 1, 2, 3, 4, 5, 6, 7, 8, 9] rfl rfl rfl (by decide) (fun _ => rfl) rfl (fun r_8 _ H locs h_8 hP hD hS => ?_)
      subst h_8
      refine lv_istore (lv' := [(12, .int (sp_Model_inRam n ((4096 * (((sp_Model_raw h 384 cs) &&& 4194303).toInt64)) + (4 * ((ush x0 22).toInt64))))), (11, .int (ush x0 22)), (10, .int 1), (9, .int 0), (8, .int 0), (6, .long (((sp_Model_raw h 384 cs) &&& 4194303).toInt64)), (4, .long (x0.toInt64 &&& 4294967295)), (3, .int (sp_Model_levelFor x1 h lv cs)), (0, .ref (a 0)), (1, .int x0), (2, .int x1)]) hx hb d_Model_translate_107 hl (by decide) rfl (fun ls hl => ?_)
      refine lv_iload hx hb d_Model_translate_109 (lv_at hl 0 rfl) ?_
      refine lv_if_ge (tgt := 127) hx hb d_Model_translate_111 (by decide) (fun c_9 => ?_) (fun c_9 => ?_)
      · refine lv_aload_n hx hb d_Model_translate_127 rfl (lv_at hl 8 rfl) ?_
        refine lv_iload hx hb d_Model_translate_128 (lv_at hl 0 rfl) ?_
        refine xi (wr := []) (W2 := fun _ => wR a k n h ca tv nx pcs lv cs x b cl cm so ti pu np) (xV (rest := []) ⟨hx, hb, hml, hown, hts⟩ (c_Model_ramWord a k n (sp_Model_inRam n ((4096 * (((sp_Model_raw h 384 cs) &&& 4194303).toInt64)) + (4 * ((ush x0 22).toInt64)))) h ca tv nx pcs lv cs x b cl cm so ti pu np hn (vpw_in hn c_9)) mw_Model_ramWord mv_Model_ramWord k_690 ⟨rfl, rfl, Nat.le_of_ble_eq_true rfl, Nat.le_of_ble_eq_true rfl⟩ hK hP hD hS hA hF [0, 1, 2, 3, 4, 5, 6, 7, 8, 9] [0, 1, 2, 3, 4, 5, 6, 7, 8] rfl rfl rfl 0 5 rfl rfl rfl rfl hl.1 rfl (Nat.le_of_ble_eq_true rfl) d_Model_translate_130 ⟨Nat.zero_le _, Nat.zero_le _⟩) hP hD hS hA [0, 1, 2, 3, 4, 5, 6, 7, 8, 9] [] [0, 1, 2, 3, 4, 5, 6, 7, 8, 9] rfl rfl rfl (by decide) (fun _ => rfl) rfl (fun r_10 _ H locs h_10 hP hD hS => ?_)
        subst h_10
        refine lv_istore (lv' := [(8, .int (sp_Model_ramWord (sp_Model_inRam n ((4096 * (((sp_Model_raw h 384 cs) &&& 4194303).toInt64)) + (4 * ((ush x0 22).toInt64)))) b)), (12, .int (sp_Model_inRam n ((4096 * (((sp_Model_raw h 384 cs) &&& 4194303).toInt64)) + (4 * ((ush x0 22).toInt64))))), (11, .int (ush x0 22)), (10, .int 1), (9, .int 0), (6, .long (((sp_Model_raw h 384 cs) &&& 4194303).toInt64)), (4, .long (x0.toInt64 &&& 4294967295)), (3, .int (sp_Model_levelFor x1 h lv cs)), (0, .ref (a 0)), (1, .int x0), (2, .int x1)]) hx hb d_Model_translate_133 hl (by decide) rfl (fun ls hl => ?_)
        refine lv_iload hx hb d_Model_translate_135 (lv_at hl 4 rfl) ?_
        refine lv_if_ne (tgt := 160) hx hb d_Model_translate_137 (by decide) (fun h9 => absurd (by decide) h9) (fun _ => ?_)
        refine lv_iload hx hb d_Model_translate_140 (lv_at hl 0 rfl) ?_
        refine xi (wr := [((a 0), .inr (5, [.int (nI n), .ref (a 1), .ref (a 2), .ref (a 3), .ref (a 4), .ref (a 5), .ref (a 6), .ref (a 7), .ref (a 8), .long ti, .ref (a 9), .int np, .int h, .int ca, .int tv, .int nx])), ((a 1), .inl ((k 0), 16384, .inl b)), ((a 2), .inl ((k 1), 64, .inl x)), ((a 3), .inl ((k 2), 2, .inl pcs)), ((a 4), .inl ((k 3), 2, .inl lv)), ((a 5), .inl ((k 4), 8192, .inl cs)), ((a 6), .inl ((k 5), 2, .inl cl)), ((a 7), .inl ((k 6), 2, .inr (.inl cm))), ((a 8), .inl ((k 7), 2, .inl so)), ((a 9), .inl ((k 8), 256, .inl pu))]) (W2 := fun _ => wR a k n h ca tv nx pcs lv cs x b cl cm so ti pu np) (xS (rest := []) ⟨hx, hb, hml, hown, hts⟩ (c_Model_isBad (sp_Model_ramWord (sp_Model_inRam n ((4096 * (((sp_Model_raw h 384 cs) &&& 4194303).toInt64)) + (4 * ((ush x0 22).toInt64)))) b)) mw_Model_isBad ms_Model_isBad k_767 ⟨rfl, rfl, Nat.le_of_ble_eq_true rfl, Nat.le_of_ble_eq_true rfl⟩ hK hP hD hS hA hF [] [] rfl rfl rfl rfl hl.1 rfl (Nat.le_of_ble_eq_true rfl) d_Model_translate_142 ⟨Nat.zero_le _, Nat.zero_le _⟩) hP hD hS hA [] [0, 1, 2, 3, 4, 5, 6, 7, 8, 9] [0, 1, 2, 3, 4, 5, 6, 7, 8, 9] rfl rfl rfl (by decide) (fun _ => rfl) rfl (fun r_12 _ H locs h_12 hP hD hS => ?_)
        obtain ⟨h_12, z_12⟩ := h_12
        subst h_12
        refine lv_if_ne (tgt := 160) hx hb d_Model_translate_145 (by decide) (fun c_13 => ?_) (fun c_13 => ?_)
        · refine lv_iconst (v := 0) hx hb d_Model_translate_160 rfl ?_
          refine lv_istore (lv' := [(10, .int 0), (8, .int (sp_Model_ramWord (sp_Model_inRam n ((4096 * (((sp_Model_raw h 384 cs) &&& 4194303).toInt64)) + (4 * ((ush x0 22).toInt64)))) b)), (12, .int (sp_Model_inRam n ((4096 * (((sp_Model_raw h 384 cs) &&& 4194303).toInt64)) + (4 * ((ush x0 22).toInt64))))), (11, .int (ush x0 22)), (9, .int 0), (6, .long (((sp_Model_raw h 384 cs) &&& 4194303).toInt64)), (4, .long (x0.toInt64 &&& 4294967295)), (3, .int (sp_Model_levelFor x1 h lv cs)), (0, .ref (a 0)), (1, .int x0), (2, .int x1)]) hx hb d_Model_translate_161 hl (by decide) rfl (fun ls hl => ?_)
          refine lv_iload hx hb d_Model_translate_163 (lv_at hl 1 rfl) ?_
          refine lv_bipush (v := 10) hx hb d_Model_translate_165 rfl ?_
          refine lv_iushr (v := ush (sp_Model_ramWord (sp_Model_inRam n ((4096 * (((sp_Model_raw h 384 cs) &&& 4194303).toInt64)) + (4 * ((ush x0 22).toInt64)))) b) 10) hx hb d_Model_translate_167 rfl ?_
          refine lv_i2l hx hb d_Model_translate_168 rfl ?_
          refine lv_lstore (lv' := [(6, .long ((ush (sp_Model_ramWord (sp_Model_inRam n ((4096 * (((sp_Model_raw h 384 cs) &&& 4194303).toInt64)) + (4 * ((ush x0 22).toInt64)))) b) 10).toInt64)), (10, .int 0), (8, .int (sp_Model_ramWord (sp_Model_inRam n ((4096 * (((sp_Model_raw h 384 cs) &&& 4194303).toInt64)) + (4 * ((ush x0 22).toInt64)))) b)), (12, .int (sp_Model_inRam n ((4096 * (((sp_Model_raw h 384 cs) &&& 4194303).toInt64)) + (4 * ((ush x0 22).toInt64))))), (11, .int (ush x0 22)), (9, .int 0), (4, .long (x0.toInt64 &&& 4294967295)), (3, .int (sp_Model_levelFor x1 h lv cs)), (0, .ref (a 0)), (1, .int x0), (2, .int x1)]) hx hb d_Model_translate_169 hl (by decide) rfl (fun ls hl => ?_)
          refine lv_iinc (v := 1) (lv' := [(9, .int 1), (6, .long ((ush (sp_Model_ramWord (sp_Model_inRam n ((4096 * (((sp_Model_raw h 384 cs) &&& 4194303).toInt64)) + (4 * ((ush x0 22).toInt64)))) b) 10).toInt64)), (10, .int 0), (8, .int (sp_Model_ramWord (sp_Model_inRam n ((4096 * (((sp_Model_raw h 384 cs) &&& 4194303).toInt64)) + (4 * ((ush x0 22).toInt64)))) b)), (12, .int (sp_Model_inRam n ((4096 * (((sp_Model_raw h 384 cs) &&& 4194303).toInt64)) + (4 * ((ush x0 22).toInt64))))), (11, .int (ush x0 22)), (4, .long (x0.toInt64 &&& 4294967295)), (3, .int (sp_Model_levelFor x1 h lv cs)), (0, .ref (a 0)), (1, .int x0), (2, .int x1)]) hx hb d_Model_translate_171 hl (k := 5) rfl rfl (by decide) rfl (fun ls hl => ?_)
          refine lv_goto (tgt := 62) hx hb d_Model_translate_174 (by decide) ?_
          refine lv_iload hx hb d_Model_translate_62 (lv_at hl 2 rfl) ?_
          refine lv_if_eq (tgt := 177) hx hb d_Model_translate_64 (by decide) (fun _ => ?_) (fun h9 => absurd (by decide) h9)
          refine lv_iload hx hb d_Model_translate_177 (lv_at hl 0 rfl) ?_
          refine lv_iconst (v := 1) hx hb d_Model_translate_179 rfl ?_
          refine lv_icmp_ne (tgt := 187) hx hb d_Model_translate_180 (by decide) (fun h9 => absurd (by decide) h9) (fun _ => ?_)
          refine lv_iconst (v := 1) hx hb d_Model_translate_183 rfl ?_
          refine lv_goto (tgt := 188) hx hb d_Model_translate_184 (by decide) ?_
          refine lv_istore (lv' := [(11, .int 1), (9, .int 1), (6, .long ((ush (sp_Model_ramWord (sp_Model_inRam n ((4096 * (((sp_Model_raw h 384 cs) &&& 4194303).toInt64)) + (4 * ((ush x0 22).toInt64)))) b) 10).toInt64)), (10, .int 0), (8, .int (sp_Model_ramWord (sp_Model_inRam n ((4096 * (((sp_Model_raw h 384 cs) &&& 4194303).toInt64)) + (4 * ((ush x0 22).toInt64)))) b)), (12, .int (sp_Model_inRam n ((4096 * (((sp_Model_raw h 384 cs) &&& 4194303).toInt64)) + (4 * ((ush x0 22).toInt64))))), (4, .long (x0.toInt64 &&& 4294967295)), (3, .int (sp_Model_levelFor x1 h lv cs)), (0, .ref (a 0)), (1, .int x0), (2, .int x1)]) hx hb d_Model_translate_188 hl (by decide) rfl (fun ls hl => ?_)
          refine lv_iload hx hb d_Model_translate_190 (lv_at hl 4 rfl) ?_
          refine xi (wr := [((a 0), .inr (5, [.int (nI n), .ref (a 1), .ref (a 2), .ref (a 3), .ref (a 4), .ref (a 5), .ref (a 6), .ref (a 7), .ref (a 8), .long ti, .ref (a 9), .int np, .int h, .int ca, .int tv, .int nx])), ((a 1), .inl ((k 0), 16384, .inl b)), ((a 2), .inl ((k 1), 64, .inl x)), ((a 3), .inl ((k 2), 2, .inl pcs)), ((a 4), .inl ((k 3), 2, .inl lv)), ((a 5), .inl ((k 4), 8192, .inl cs)), ((a 6), .inl ((k 5), 2, .inl cl)), ((a 7), .inl ((k 6), 2, .inr (.inl cm))), ((a 8), .inl ((k 7), 2, .inl so)), ((a 9), .inl ((k 8), 256, .inl pu))]) (W2 := fun _ => wR a k n h ca tv nx pcs lv cs x b cl cm so ti pu np) (xS (rest := []) ⟨hx, hb, hml, hown, hts⟩ (c_Model_isBad (sp_Model_ramWord (sp_Model_inRam n ((4096 * (((sp_Model_raw h 384 cs) &&& 4194303).toInt64)) + (4 * ((ush x0 22).toInt64)))) b)) mw_Model_isBad ms_Model_isBad k_767 ⟨rfl, rfl, Nat.le_of_ble_eq_true rfl, Nat.le_of_ble_eq_true rfl⟩ hK hP hD hS hA hF [] [] rfl rfl rfl rfl hl.1 rfl (Nat.le_of_ble_eq_true rfl) d_Model_translate_192 ⟨Nat.zero_le _, Nat.zero_le _⟩) hP hD hS hA [] [0, 1, 2, 3, 4, 5, 6, 7, 8, 9] [0, 1, 2, 3, 4, 5, 6, 7, 8, 9] rfl rfl rfl (by decide) (fun _ => rfl) rfl (fun r_16 _ H locs h_16 hP hD hS => ?_)
          obtain ⟨h_16, z_16⟩ := h_16
          subst h_16
          refine lv_if_ne (tgt := 237) hx hb d_Model_translate_195 (by decide) (fun _ => ?_) (fun h9 => absurd h9 c_13)
          refine lv_iconst (v := 0) hx hb d_Model_translate_237 rfl ?_
          refine lv_istore (lv' := [(12, .int 0), (11, .int 1), (9, .int 1), (6, .long ((ush (sp_Model_ramWord (sp_Model_inRam n ((4096 * (((sp_Model_raw h 384 cs) &&& 4194303).toInt64)) + (4 * ((ush x0 22).toInt64)))) b) 10).toInt64)), (10, .int 0), (8, .int (sp_Model_ramWord (sp_Model_inRam n ((4096 * (((sp_Model_raw h 384 cs) &&& 4194303).toInt64)) + (4 * ((ush x0 22).toInt64)))) b)), (4, .long (x0.toInt64 &&& 4294967295)), (3, .int (sp_Model_levelFor x1 h lv cs)), (0, .ref (a 0)), (1, .int x0), (2, .int x1)]) hx hb d_Model_translate_238 hl (by decide) rfl (fun ls hl => ?_)
          refine lv_iload hx hb d_Model_translate_240 (lv_at hl 0 rfl) ?_
          refine lv_if_ne (tgt := 258) hx hb d_Model_translate_242 (by decide) (fun h9 => absurd (by decide) h9) (fun _ => ?_)
          refine lv_aload_n hx hb d_Model_translate_245 rfl (lv_at hl 8 rfl) ?_
          refine lv_iload_n hx hb d_Model_translate_246 rfl (lv_at hl 10 rfl) ?_
          refine xi (wr := [((a 0), .inr (5, [.int (nI n), .ref (a 1), .ref (a 2), .ref (a 3), .ref (a 4), .ref (a 5), .ref (a 6), .ref (a 7), .ref (a 8), .long ti, .ref (a 9), .int np, .int h, .int ca, .int tv, .int nx])), ((a 1), .inl ((k 0), 16384, .inl b)), ((a 2), .inl ((k 1), 64, .inl x)), ((a 3), .inl ((k 2), 2, .inl pcs)), ((a 4), .inl ((k 3), 2, .inl lv)), ((a 5), .inl ((k 4), 8192, .inl cs)), ((a 6), .inl ((k 5), 2, .inl cl)), ((a 7), .inl ((k 6), 2, .inr (.inl cm))), ((a 8), .inl ((k 7), 2, .inl so)), ((a 9), .inl ((k 8), 256, .inl pu))]) (W2 := fun _ => wR a k n h ca tv nx pcs lv cs x b cl cm so ti pu np) (xS (rest := [.ref (a 0)]) ⟨hx, hb, hml, hown, hts⟩ (c_Model_pageFault x1) mw_Model_pageFault ms_Model_pageFault k_780 ⟨rfl, rfl, Nat.le_of_ble_eq_true rfl, Nat.le_of_ble_eq_true rfl⟩ hK hP hD hS hA hF [] [] rfl rfl rfl rfl hl.1 rfl (Nat.le_of_ble_eq_true rfl) d_Model_translate_247 ⟨Nat.zero_le _, Nat.zero_le _⟩) hP hD hS hA [] [0, 1, 2, 3, 4, 5, 6, 7, 8, 9] [0, 1, 2, 3, 4, 5, 6, 7, 8, 9] rfl rfl rfl (by decide) (fun _ => rfl) rfl (fun r_19 _ H locs h_19 hP hD hS => ?_)
          subst h_19
          refine lv_iload_n hx hb d_Model_translate_250 rfl (lv_at hl 9 rfl) ?_
          refine xv (wr := []) (W2 := fun u9 => wR a k n h u9.1 u9.2 nx pcs lv cs x b cl cm so ti pu np) (xV (rest := []) ⟨hx, hb, hml, hown, hts⟩ (c_Model_trap a k n (sp_Model_pageFault x1) x0 h ca tv nx pcs lv cs x b cl cm so ti pu np hn) mw_Model_trap mv_Model_trap k_763 ⟨rfl, rfl, Nat.le_of_ble_eq_true rfl, Nat.le_of_ble_eq_true rfl⟩ hK hP hD hS hA hF [0, 1, 2, 3, 4, 5, 6, 7, 8, 9] [0, 1, 2, 3, 4, 5, 6, 7, 8] rfl rfl rfl 0 5 rfl rfl rfl rfl hl.1 rfl (Nat.le_of_ble_eq_true rfl) d_Model_translate_251 ⟨Nat.zero_le _, Nat.zero_le _⟩) hP hD hS hA [0, 1, 2, 3, 4, 5, 6, 7, 8, 9] [] [0, 1, 2, 3, 4, 5, 6, 7, 8, 9] rfl rfl rfl (by decide) (fun _ => rfl) rfl (fun u_20 H locs h_20 hP hD hS => ?_)
          obtain ⟨ca_20, tv_20⟩ := u_20
          dsimp only at hP hD
          refine lv_ldc2 (v := (-1)) hx hb hown (hts _ k_624) d_Model_translate_254 ?_
          exact rl (ca_20, tv_20) hx hb hr hlocks hP hD hS d_Model_translate_257 (by simp only [sp_Model_translate, h_20, if_neg c_2, if_pos c_4, if_pos c_9, if_neg c_13])
        · refine lv_iload hx hb d_Model_translate_148 (lv_at hl 0 rfl) ?_
          refine xi (wr := [((a 0), .inr (5, [.int (nI n), .ref (a 1), .ref (a 2), .ref (a 3), .ref (a 4), .ref (a 5), .ref (a 6), .ref (a 7), .ref (a 8), .long ti, .ref (a 9), .int np, .int h, .int ca, .int tv, .int nx])), ((a 1), .inl ((k 0), 16384, .inl b)), ((a 2), .inl ((k 1), 64, .inl x)), ((a 3), .inl ((k 2), 2, .inl pcs)), ((a 4), .inl ((k 3), 2, .inl lv)), ((a 5), .inl ((k 4), 8192, .inl cs)), ((a 6), .inl ((k 5), 2, .inl cl)), ((a 7), .inl ((k 6), 2, .inr (.inl cm))), ((a 8), .inl ((k 7), 2, .inl so)), ((a 9), .inl ((k 8), 256, .inl pu))]) (W2 := fun _ => wR a k n h ca tv nx pcs lv cs x b cl cm so ti pu np) (xS (rest := []) ⟨hx, hb, hml, hown, hts⟩ (c_Model_isLeaf (sp_Model_ramWord (sp_Model_inRam n ((4096 * (((sp_Model_raw h 384 cs) &&& 4194303).toInt64)) + (4 * ((ush x0 22).toInt64)))) b)) mw_Model_isLeaf ms_Model_isLeaf k_770 ⟨rfl, rfl, Nat.le_of_ble_eq_true rfl, Nat.le_of_ble_eq_true rfl⟩ hK hP hD hS hA hF [] [] rfl rfl rfl rfl hl.1 rfl (Nat.le_of_ble_eq_true rfl) d_Model_translate_150 ⟨Nat.zero_le _, Nat.zero_le _⟩) hP hD hS hA [] [0, 1, 2, 3, 4, 5, 6, 7, 8, 9] [0, 1, 2, 3, 4, 5, 6, 7, 8, 9] rfl rfl rfl (by decide) (fun _ => rfl) rfl (fun r_21 _ H locs h_21 hP hD hS => ?_)
          obtain ⟨h_21, z_21⟩ := h_21
          subst h_21
          refine lv_if_ne (tgt := 160) hx hb d_Model_translate_153 (by decide) (fun c_22 => ?_) (fun c_22 => ?_)
          · refine lv_iconst (v := 0) hx hb d_Model_translate_160 rfl ?_
            refine lv_istore (lv' := [(10, .int 0), (8, .int (sp_Model_ramWord (sp_Model_inRam n ((4096 * (((sp_Model_raw h 384 cs) &&& 4194303).toInt64)) + (4 * ((ush x0 22).toInt64)))) b)), (12, .int (sp_Model_inRam n ((4096 * (((sp_Model_raw h 384 cs) &&& 4194303).toInt64)) + (4 * ((ush x0 22).toInt64))))), (11, .int (ush x0 22)), (9, .int 0), (6, .long (((sp_Model_raw h 384 cs) &&& 4194303).toInt64)), (4, .long (x0.toInt64 &&& 4294967295)), (3, .int (sp_Model_levelFor x1 h lv cs)), (0, .ref (a 0)), (1, .int x0), (2, .int x1)]) hx hb d_Model_translate_161 hl (by decide) rfl (fun ls hl => ?_)
            refine lv_iload hx hb d_Model_translate_163 (lv_at hl 1 rfl) ?_
            refine lv_bipush (v := 10) hx hb d_Model_translate_165 rfl ?_
            refine lv_iushr (v := ush (sp_Model_ramWord (sp_Model_inRam n ((4096 * (((sp_Model_raw h 384 cs) &&& 4194303).toInt64)) + (4 * ((ush x0 22).toInt64)))) b) 10) hx hb d_Model_translate_167 rfl ?_
            refine lv_i2l hx hb d_Model_translate_168 rfl ?_
            refine lv_lstore (lv' := [(6, .long ((ush (sp_Model_ramWord (sp_Model_inRam n ((4096 * (((sp_Model_raw h 384 cs) &&& 4194303).toInt64)) + (4 * ((ush x0 22).toInt64)))) b) 10).toInt64)), (10, .int 0), (8, .int (sp_Model_ramWord (sp_Model_inRam n ((4096 * (((sp_Model_raw h 384 cs) &&& 4194303).toInt64)) + (4 * ((ush x0 22).toInt64)))) b)), (12, .int (sp_Model_inRam n ((4096 * (((sp_Model_raw h 384 cs) &&& 4194303).toInt64)) + (4 * ((ush x0 22).toInt64))))), (11, .int (ush x0 22)), (9, .int 0), (4, .long (x0.toInt64 &&& 4294967295)), (3, .int (sp_Model_levelFor x1 h lv cs)), (0, .ref (a 0)), (1, .int x0), (2, .int x1)]) hx hb d_Model_translate_169 hl (by decide) rfl (fun ls hl => ?_)
            refine lv_iinc (v := 1) (lv' := [(9, .int 1), (6, .long ((ush (sp_Model_ramWord (sp_Model_inRam n ((4096 * (((sp_Model_raw h 384 cs) &&& 4194303).toInt64)) + (4 * ((ush x0 22).toInt64)))) b) 10).toInt64)), (10, .int 0), (8, .int (sp_Model_ramWord (sp_Model_inRam n ((4096 * (((sp_Model_raw h 384 cs) &&& 4194303).toInt64)) + (4 * ((ush x0 22).toInt64)))) b)), (12, .int (sp_Model_inRam n ((4096 * (((sp_Model_raw h 384 cs) &&& 4194303).toInt64)) + (4 * ((ush x0 22).toInt64))))), (11, .int (ush x0 22)), (4, .long (x0.toInt64 &&& 4294967295)), (3, .int (sp_Model_levelFor x1 h lv cs)), (0, .ref (a 0)), (1, .int x0), (2, .int x1)]) hx hb d_Model_translate_171 hl (k := 5) rfl rfl (by decide) rfl (fun ls hl => ?_)
            refine lv_goto (tgt := 62) hx hb d_Model_translate_174 (by decide) ?_
            refine lv_iload hx hb d_Model_translate_62 (lv_at hl 2 rfl) ?_
            refine lv_if_eq (tgt := 177) hx hb d_Model_translate_64 (by decide) (fun _ => ?_) (fun h9 => absurd (by decide) h9)
            refine lv_iload hx hb d_Model_translate_177 (lv_at hl 0 rfl) ?_
            refine lv_iconst (v := 1) hx hb d_Model_translate_179 rfl ?_
            refine lv_icmp_ne (tgt := 187) hx hb d_Model_translate_180 (by decide) (fun h9 => absurd (by decide) h9) (fun _ => ?_)
            refine lv_iconst (v := 1) hx hb d_Model_translate_183 rfl ?_
            refine lv_goto (tgt := 188) hx hb d_Model_translate_184 (by decide) ?_
            refine lv_istore (lv' := [(11, .int 1), (9, .int 1), (6, .long ((ush (sp_Model_ramWord (sp_Model_inRam n ((4096 * (((sp_Model_raw h 384 cs) &&& 4194303).toInt64)) + (4 * ((ush x0 22).toInt64)))) b) 10).toInt64)), (10, .int 0), (8, .int (sp_Model_ramWord (sp_Model_inRam n ((4096 * (((sp_Model_raw h 384 cs) &&& 4194303).toInt64)) + (4 * ((ush x0 22).toInt64)))) b)), (12, .int (sp_Model_inRam n ((4096 * (((sp_Model_raw h 384 cs) &&& 4194303).toInt64)) + (4 * ((ush x0 22).toInt64))))), (4, .long (x0.toInt64 &&& 4294967295)), (3, .int (sp_Model_levelFor x1 h lv cs)), (0, .ref (a 0)), (1, .int x0), (2, .int x1)]) hx hb d_Model_translate_188 hl (by decide) rfl (fun ls hl => ?_)
            refine lv_iload hx hb d_Model_translate_190 (lv_at hl 4 rfl) ?_
            refine xi (wr := [((a 0), .inr (5, [.int (nI n), .ref (a 1), .ref (a 2), .ref (a 3), .ref (a 4), .ref (a 5), .ref (a 6), .ref (a 7), .ref (a 8), .long ti, .ref (a 9), .int np, .int h, .int ca, .int tv, .int nx])), ((a 1), .inl ((k 0), 16384, .inl b)), ((a 2), .inl ((k 1), 64, .inl x)), ((a 3), .inl ((k 2), 2, .inl pcs)), ((a 4), .inl ((k 3), 2, .inl lv)), ((a 5), .inl ((k 4), 8192, .inl cs)), ((a 6), .inl ((k 5), 2, .inl cl)), ((a 7), .inl ((k 6), 2, .inr (.inl cm))), ((a 8), .inl ((k 7), 2, .inl so)), ((a 9), .inl ((k 8), 256, .inl pu))]) (W2 := fun _ => wR a k n h ca tv nx pcs lv cs x b cl cm so ti pu np) (xS (rest := []) ⟨hx, hb, hml, hown, hts⟩ (c_Model_isBad (sp_Model_ramWord (sp_Model_inRam n ((4096 * (((sp_Model_raw h 384 cs) &&& 4194303).toInt64)) + (4 * ((ush x0 22).toInt64)))) b)) mw_Model_isBad ms_Model_isBad k_767 ⟨rfl, rfl, Nat.le_of_ble_eq_true rfl, Nat.le_of_ble_eq_true rfl⟩ hK hP hD hS hA hF [] [] rfl rfl rfl rfl hl.1 rfl (Nat.le_of_ble_eq_true rfl) d_Model_translate_192 ⟨Nat.zero_le _, Nat.zero_le _⟩) hP hD hS hA [] [0, 1, 2, 3, 4, 5, 6, 7, 8, 9] [0, 1, 2, 3, 4, 5, 6, 7, 8, 9] rfl rfl rfl (by decide) (fun _ => rfl) rfl (fun r_25 _ H locs h_25 hP hD hS => ?_)
            obtain ⟨h_25, z_25⟩ := h_25
            subst h_25
            refine lv_if_ne (tgt := 237) hx hb d_Model_translate_195 (by decide) (fun h9 => absurd c_13 h9) (fun _ => ?_)
            refine lv_iload hx hb d_Model_translate_198 (lv_at hl 4 rfl) ?_
            refine xi (wr := [((a 0), .inr (5, [.int (nI n), .ref (a 1), .ref (a 2), .ref (a 3), .ref (a 4), .ref (a 5), .ref (a 6), .ref (a 7), .ref (a 8), .long ti, .ref (a 9), .int np, .int h, .int ca, .int tv, .int nx])), ((a 1), .inl ((k 0), 16384, .inl b)), ((a 2), .inl ((k 1), 64, .inl x)), ((a 3), .inl ((k 2), 2, .inl pcs)), ((a 4), .inl ((k 3), 2, .inl lv)), ((a 5), .inl ((k 4), 8192, .inl cs)), ((a 6), .inl ((k 5), 2, .inl cl)), ((a 7), .inl ((k 6), 2, .inr (.inl cm))), ((a 8), .inl ((k 7), 2, .inl so)), ((a 9), .inl ((k 8), 256, .inl pu))]) (W2 := fun _ => wR a k n h ca tv nx pcs lv cs x b cl cm so ti pu np) (xS (rest := []) ⟨hx, hb, hml, hown, hts⟩ (c_Model_isLeaf (sp_Model_ramWord (sp_Model_inRam n ((4096 * (((sp_Model_raw h 384 cs) &&& 4194303).toInt64)) + (4 * ((ush x0 22).toInt64)))) b)) mw_Model_isLeaf ms_Model_isLeaf k_770 ⟨rfl, rfl, Nat.le_of_ble_eq_true rfl, Nat.le_of_ble_eq_true rfl⟩ hK hP hD hS hA hF [] [] rfl rfl rfl rfl hl.1 rfl (Nat.le_of_ble_eq_true rfl) d_Model_translate_200 ⟨Nat.zero_le _, Nat.zero_le _⟩) hP hD hS hA [] [0, 1, 2, 3, 4, 5, 6, 7, 8, 9] [0, 1, 2, 3, 4, 5, 6, 7, 8, 9] rfl rfl rfl (by decide) (fun _ => rfl) rfl (fun r_27 _ H locs h_27 hP hD hS => ?_)
            obtain ⟨h_27, z_27⟩ := h_27
            subst h_27
            refine lv_if_eq (tgt := 237) hx hb d_Model_translate_203 (by decide) (fun h9 => absurd h9 c_22) (fun _ => ?_)
            refine lv_aload_n hx hb d_Model_translate_206 rfl (lv_at hl 8 rfl) ?_
            refine lv_iload hx hb d_Model_translate_207 (lv_at hl 4 rfl) ?_
            refine lv_iload_n hx hb d_Model_translate_209 rfl (lv_at hl 10 rfl) ?_
            refine lv_iload_n hx hb d_Model_translate_210 rfl (lv_at hl 7 rfl) ?_
            refine xi (wr := []) (W2 := fun _ => wR a k n h ca tv nx pcs lv cs x b cl cm so ti pu np) (xV (rest := []) ⟨hx, hb, hml, hown, hts⟩ (c_Model_lets a k n (sp_Model_ramWord (sp_Model_inRam n ((4096 * (((sp_Model_raw h 384 cs) &&& 4194303).toInt64)) + (4 * ((ush x0 22).toInt64)))) b) x1 (sp_Model_levelFor x1 h lv cs) h ca tv nx pcs lv cs x b cl cm so ti pu np hn hh) mw_Model_lets mv_Model_lets k_773 ⟨rfl, rfl, Nat.le_of_ble_eq_true rfl, Nat.le_of_ble_eq_true rfl⟩ hK hP hD hS hA hF [0, 1, 2, 3, 4, 5, 6, 7, 8, 9] [0, 1, 2, 3, 4, 5, 6, 7, 8] rfl rfl rfl 0 5 rfl rfl rfl rfl hl.1 rfl (Nat.le_of_ble_eq_true rfl) d_Model_translate_211 ⟨Nat.zero_le _, Nat.zero_le _⟩) hP hD hS hA [0, 1, 2, 3, 4, 5, 6, 7, 8, 9] [] [0, 1, 2, 3, 4, 5, 6, 7, 8, 9] rfl rfl rfl (by decide) (fun _ => rfl) rfl (fun r_29 _ H locs h_29 hP hD hS => ?_)
            obtain ⟨h_29, z_29⟩ := h_29
            subst h_29
            refine lv_if_eq (tgt := 237) hx hb d_Model_translate_214 (by decide) (fun c_30 => ?_) (fun c_30 => ?_)
            · refine lv_iconst (v := 0) hx hb d_Model_translate_237 rfl ?_
              refine lv_istore (lv' := [(12, .int 0), (11, .int 1), (9, .int 1), (6, .long ((ush (sp_Model_ramWord (sp_Model_inRam n ((4096 * (((sp_Model_raw h 384 cs) &&& 4194303).toInt64)) + (4 * ((ush x0 22).toInt64)))) b) 10).toInt64)), (10, .int 0), (8, .int (sp_Model_ramWord (sp_Model_inRam n ((4096 * (((sp_Model_raw h 384 cs) &&& 4194303).toInt64)) + (4 * ((ush x0 22).toInt64)))) b)), (4, .long (x0.toInt64 &&& 4294967295)), (3, .int (sp_Model_levelFor x1 h lv cs)), (0, .ref (a 0)), (1, .int x0), (2, .int x1)]) hx hb d_Model_translate_238 hl (by decide) rfl (fun ls hl => ?_)
              refine lv_iload hx hb d_Model_translate_240 (lv_at hl 0 rfl) ?_
              refine lv_if_ne (tgt := 258) hx hb d_Model_translate_242 (by decide) (fun h9 => absurd (by decide) h9) (fun _ => ?_)
              refine lv_aload_n hx hb d_Model_translate_245 rfl (lv_at hl 8 rfl) ?_
              refine lv_iload_n hx hb d_Model_translate_246 rfl (lv_at hl 10 rfl) ?_
              refine xi (wr := [((a 0), .inr (5, [.int (nI n), .ref (a 1), .ref (a 2), .ref (a 3), .ref (a 4), .ref (a 5), .ref (a 6), .ref (a 7), .ref (a 8), .long ti, .ref (a 9), .int np, .int h, .int ca, .int tv, .int nx])), ((a 1), .inl ((k 0), 16384, .inl b)), ((a 2), .inl ((k 1), 64, .inl x)), ((a 3), .inl ((k 2), 2, .inl pcs)), ((a 4), .inl ((k 3), 2, .inl lv)), ((a 5), .inl ((k 4), 8192, .inl cs)), ((a 6), .inl ((k 5), 2, .inl cl)), ((a 7), .inl ((k 6), 2, .inr (.inl cm))), ((a 8), .inl ((k 7), 2, .inl so)), ((a 9), .inl ((k 8), 256, .inl pu))]) (W2 := fun _ => wR a k n h ca tv nx pcs lv cs x b cl cm so ti pu np) (xS (rest := [.ref (a 0)]) ⟨hx, hb, hml, hown, hts⟩ (c_Model_pageFault x1) mw_Model_pageFault ms_Model_pageFault k_780 ⟨rfl, rfl, Nat.le_of_ble_eq_true rfl, Nat.le_of_ble_eq_true rfl⟩ hK hP hD hS hA hF [] [] rfl rfl rfl rfl hl.1 rfl (Nat.le_of_ble_eq_true rfl) d_Model_translate_247 ⟨Nat.zero_le _, Nat.zero_le _⟩) hP hD hS hA [] [0, 1, 2, 3, 4, 5, 6, 7, 8, 9] [0, 1, 2, 3, 4, 5, 6, 7, 8, 9] rfl rfl rfl (by decide) (fun _ => rfl) rfl (fun r_32 _ H locs h_32 hP hD hS => ?_)
              subst h_32
              refine lv_iload_n hx hb d_Model_translate_250 rfl (lv_at hl 9 rfl) ?_
              refine xv (wr := []) (W2 := fun u9 => wR a k n h u9.1 u9.2 nx pcs lv cs x b cl cm so ti pu np) (xV (rest := []) ⟨hx, hb, hml, hown, hts⟩ (c_Model_trap a k n (sp_Model_pageFault x1) x0 h ca tv nx pcs lv cs x b cl cm so ti pu np hn) mw_Model_trap mv_Model_trap k_763 ⟨rfl, rfl, Nat.le_of_ble_eq_true rfl, Nat.le_of_ble_eq_true rfl⟩ hK hP hD hS hA hF [0, 1, 2, 3, 4, 5, 6, 7, 8, 9] [0, 1, 2, 3, 4, 5, 6, 7, 8] rfl rfl rfl 0 5 rfl rfl rfl rfl hl.1 rfl (Nat.le_of_ble_eq_true rfl) d_Model_translate_251 ⟨Nat.zero_le _, Nat.zero_le _⟩) hP hD hS hA [0, 1, 2, 3, 4, 5, 6, 7, 8, 9] [] [0, 1, 2, 3, 4, 5, 6, 7, 8, 9] rfl rfl rfl (by decide) (fun _ => rfl) rfl (fun u_33 H locs h_33 hP hD hS => ?_)
              obtain ⟨ca_33, tv_33⟩ := u_33
              dsimp only at hP hD
              refine lv_ldc2 (v := (-1)) hx hb hown (hts _ k_624) d_Model_translate_254 ?_
              exact rl (ca_33, tv_33) hx hb hr hlocks hP hD hS d_Model_translate_257 (by simp only [sp_Model_translate, h_33, if_neg c_2, if_pos c_4, if_pos c_9, if_pos c_13, if_neg c_22, if_pos c_30])
            · refine lv_iload hx hb d_Model_translate_217 (lv_at hl 0 rfl) ?_
              refine lv_if_eq (tgt := 233) hx hb d_Model_translate_219 (by decide) (fun h9 => absurd h9 (by decide)) (fun _ => ?_)
              refine lv_lload hx hb d_Model_translate_222 (lv_at hl 2 rfl) ?_
              refine lv_ldc2 (v := 1023) hx hb hown (hts _ k_779) d_Model_translate_224 ?_
              refine lv_land hx hb d_Model_translate_227 ?_
              refine lv_lconst (v := 0) hx hb d_Model_translate_228 rfl ?_
              refine W.lcmp hx hb d_Model_translate_229 ?_
              refine lv_if_ne (tgt := 237) hx hb d_Model_translate_230 (by decide) (fun b_35 => ?_) (fun b_35 => ?_)
              · have c_35 : ¬ (((ush (sp_Model_ramWord (sp_Model_inRam n ((4096 * (((sp_Model_raw h 384 cs) &&& 4194303).toInt64)) + (4 * ((ush x0 22).toInt64)))) b) 10).toInt64) &&& 1023) = 0 := fun h9 => b_35 ((lg_cmp_eq _ _).mpr h9)
                refine lv_iconst (v := 0) hx hb d_Model_translate_237 rfl ?_
                refine lv_istore (lv' := [(12, .int 0), (11, .int 1), (9, .int 1), (6, .long ((ush (sp_Model_ramWord (sp_Model_inRam n ((4096 * (((sp_Model_raw h 384 cs) &&& 4194303).toInt64)) + (4 * ((ush x0 22).toInt64)))) b) 10).toInt64)), (10, .int 0), (8, .int (sp_Model_ramWord (sp_Model_inRam n ((4096 * (((sp_Model_raw h 384 cs) &&& 4194303).toInt64)) + (4 * ((ush x0 22).toInt64)))) b)), (4, .long (x0.toInt64 &&& 4294967295)), (3, .int (sp_Model_levelFor x1 h lv cs)), (0, .ref (a 0)), (1, .int x0), (2, .int x1)]) hx hb d_Model_translate_238 hl (by decide) rfl (fun ls hl => ?_)
                refine lv_iload hx hb d_Model_translate_240 (lv_at hl 0 rfl) ?_
                refine lv_if_ne (tgt := 258) hx hb d_Model_translate_242 (by decide) (fun h9 => absurd (by decide) h9) (fun _ => ?_)
                refine lv_aload_n hx hb d_Model_translate_245 rfl (lv_at hl 8 rfl) ?_
                refine lv_iload_n hx hb d_Model_translate_246 rfl (lv_at hl 10 rfl) ?_
                refine xi (wr := [((a 0), .inr (5, [.int (nI n), .ref (a 1), .ref (a 2), .ref (a 3), .ref (a 4), .ref (a 5), .ref (a 6), .ref (a 7), .ref (a 8), .long ti, .ref (a 9), .int np, .int h, .int ca, .int tv, .int nx])), ((a 1), .inl ((k 0), 16384, .inl b)), ((a 2), .inl ((k 1), 64, .inl x)), ((a 3), .inl ((k 2), 2, .inl pcs)), ((a 4), .inl ((k 3), 2, .inl lv)), ((a 5), .inl ((k 4), 8192, .inl cs)), ((a 6), .inl ((k 5), 2, .inl cl)), ((a 7), .inl ((k 6), 2, .inr (.inl cm))), ((a 8), .inl ((k 7), 2, .inl so)), ((a 9), .inl ((k 8), 256, .inl pu))]) (W2 := fun _ => wR a k n h ca tv nx pcs lv cs x b cl cm so ti pu np) (xS (rest := [.ref (a 0)]) ⟨hx, hb, hml, hown, hts⟩ (c_Model_pageFault x1) mw_Model_pageFault ms_Model_pageFault k_780 ⟨rfl, rfl, Nat.le_of_ble_eq_true rfl, Nat.le_of_ble_eq_true rfl⟩ hK hP hD hS hA hF [] [] rfl rfl rfl rfl hl.1 rfl (Nat.le_of_ble_eq_true rfl) d_Model_translate_247 ⟨Nat.zero_le _, Nat.zero_le _⟩) hP hD hS hA [] [0, 1, 2, 3, 4, 5, 6, 7, 8, 9] [0, 1, 2, 3, 4, 5, 6, 7, 8, 9] rfl rfl rfl (by decide) (fun _ => rfl) rfl (fun r_37 _ H locs h_37 hP hD hS => ?_)
                subst h_37
                refine lv_iload_n hx hb d_Model_translate_250 rfl (lv_at hl 9 rfl) ?_
                refine xv (wr := []) (W2 := fun u9 => wR a k n h u9.1 u9.2 nx pcs lv cs x b cl cm so ti pu np) (xV (rest := []) ⟨hx, hb, hml, hown, hts⟩ (c_Model_trap a k n (sp_Model_pageFault x1) x0 h ca tv nx pcs lv cs x b cl cm so ti pu np hn) mw_Model_trap mv_Model_trap k_763 ⟨rfl, rfl, Nat.le_of_ble_eq_true rfl, Nat.le_of_ble_eq_true rfl⟩ hK hP hD hS hA hF [0, 1, 2, 3, 4, 5, 6, 7, 8, 9] [0, 1, 2, 3, 4, 5, 6, 7, 8] rfl rfl rfl 0 5 rfl rfl rfl rfl hl.1 rfl (Nat.le_of_ble_eq_true rfl) d_Model_translate_251 ⟨Nat.zero_le _, Nat.zero_le _⟩) hP hD hS hA [0, 1, 2, 3, 4, 5, 6, 7, 8, 9] [] [0, 1, 2, 3, 4, 5, 6, 7, 8, 9] rfl rfl rfl (by decide) (fun _ => rfl) rfl (fun u_38 H locs h_38 hP hD hS => ?_)
                obtain ⟨ca_38, tv_38⟩ := u_38
                dsimp only at hP hD
                refine lv_ldc2 (v := (-1)) hx hb hown (hts _ k_624) d_Model_translate_254 ?_
                exact rl (ca_38, tv_38) hx hb hr hlocks hP hD hS d_Model_translate_257 (by simp only [sp_Model_translate, h_38, if_neg c_2, if_pos c_4, if_pos c_9, if_pos c_13, if_neg c_22, if_neg c_30, if_neg c_35])
              · have c_35 : (((ush (sp_Model_ramWord (sp_Model_inRam n ((4096 * (((sp_Model_raw h 384 cs) &&& 4194303).toInt64)) + (4 * ((ush x0 22).toInt64)))) b) 10).toInt64) &&& 1023) = 0 := (lg_cmp_eq _ _).mp b_35
                refine lv_iconst (v := 1) hx hb d_Model_translate_233 rfl ?_
                refine lv_goto (tgt := 238) hx hb d_Model_translate_234 (by decide) ?_
                refine lv_istore (lv' := [(12, .int 1), (11, .int 1), (9, .int 1), (6, .long ((ush (sp_Model_ramWord (sp_Model_inRam n ((4096 * (((sp_Model_raw h 384 cs) &&& 4194303).toInt64)) + (4 * ((ush x0 22).toInt64)))) b) 10).toInt64)), (10, .int 0), (8, .int (sp_Model_ramWord (sp_Model_inRam n ((4096 * (((sp_Model_raw h 384 cs) &&& 4194303).toInt64)) + (4 * ((ush x0 22).toInt64)))) b)), (4, .long (x0.toInt64 &&& 4294967295)), (3, .int (sp_Model_levelFor x1 h lv cs)), (0, .ref (a 0)), (1, .int x0), (2, .int x1)]) hx hb d_Model_translate_238 hl (by decide) rfl (fun ls hl => ?_)
                refine lv_iload hx hb d_Model_translate_240 (lv_at hl 0 rfl) ?_
                refine lv_if_ne (tgt := 258) hx hb d_Model_translate_242 (by decide) (fun _ => ?_) (fun h9 => absurd h9 (by decide))
                refine lv_ldc2 (v := 4096) hx hb hown (hts _ k_753) d_Model_translate_258 ?_
                refine lv_lload hx hb d_Model_translate_261 (lv_at hl 3 rfl) ?_
                refine lv_iload hx hb d_Model_translate_263 (lv_at hl 1 rfl) ?_
                refine lv_if_eq (tgt := 279) hx hb d_Model_translate_265 (by decide) (fun h9 => absurd h9 (by decide)) (fun _ => ?_)
                refine lv_iload_n hx hb d_Model_translate_268 rfl (lv_at hl 9 rfl) ?_
                refine lv_bipush (v := 12) hx hb d_Model_translate_269 rfl ?_
                refine y_ishr hx hb d_Model_translate_271 ?_
                refine lv_sipush (v := 1023) hx hb d_Model_translate_272 rfl ?_
                refine lv_iand hx hb d_Model_translate_275 ?_
                refine lv_goto (tgt := 280) hx hb d_Model_translate_276 (by decide) ?_
                refine lv_i2l hx hb d_Model_translate_280 rfl ?_
                refine lv_ladd hx hb d_Model_translate_281 ?_
                refine lv_lmul hx hb d_Model_translate_282 ?_
                refine lv_iload_n hx hb d_Model_translate_283 rfl (lv_at hl 9 rfl) ?_
                refine lv_sipush (v := 4095) hx hb d_Model_translate_284 rfl ?_
                refine lv_iand hx hb d_Model_translate_287 ?_
                refine lv_i2l hx hb d_Model_translate_288 rfl ?_
                refine lv_ladd hx hb d_Model_translate_289 ?_
                refine lv_lstore (lv' := [(13, .long ((4096 * (((ush (sp_Model_ramWord (sp_Model_inRam n ((4096 * (((sp_Model_raw h 384 cs) &&& 4194303).toInt64)) + (4 * ((ush x0 22).toInt64)))) b) 10).toInt64) + (((shr x0 12) &&& 1023).toInt64))) + ((x0 &&& 4095).toInt64))), (12, .int 1), (11, .int 1), (9, .int 1), (6, .long ((ush (sp_Model_ramWord (sp_Model_inRam n ((4096 * (((sp_Model_raw h 384 cs) &&& 4194303).toInt64)) + (4 * ((ush x0 22).toInt64)))) b) 10).toInt64)), (10, .int 0), (8, .int (sp_Model_ramWord (sp_Model_inRam n ((4096 * (((sp_Model_raw h 384 cs) &&& 4194303).toInt64)) + (4 * ((ush x0 22).toInt64)))) b)), (4, .long (x0.toInt64 &&& 4294967295)), (3, .int (sp_Model_levelFor x1 h lv cs)), (0, .ref (a 0)), (1, .int x0), (2, .int x1)]) hx hb d_Model_translate_290 hl (by decide) rfl (fun ls hl => ?_)
                refine lv_lload hx hb d_Model_translate_292 (lv_at hl 0 rfl) ?_
                refine lv_ldc2 (v := 4294967295) hx hb hown (hts _ k_751) d_Model_translate_294 ?_
                refine W.lcmp hx hb d_Model_translate_297 ?_
                refine lv_if_le (tgt := 314) hx hb d_Model_translate_298 (by decide) (fun b_41 => ?_) (fun b_41 => ?_)
                · have c_41 : ((4096 * (((ush (sp_Model_ramWord (sp_Model_inRam n ((4096 * (((sp_Model_raw h 384 cs) &&& 4194303).toInt64)) + (4 * ((ush x0 22).toInt64)))) b) 10).toInt64) + (((shr x0 12) &&& 1023).toInt64))) + ((x0 &&& 4095).toInt64)) ≤ 4294967295 := (lg_cmp_le _ _).mp b_41
                  refine lv_lload hx hb d_Model_translate_314 (lv_at hl 0 rfl) ?_
                  exact rl (ca, tv) hx hb hr hlocks hP hD hS d_Model_translate_316 (by simp only [sp_Model_translate, if_neg c_2, if_pos c_4, if_pos c_9, if_pos c_13, if_neg c_22, if_neg c_30, if_pos c_35, if_pos c_41])
                · have c_41 : ¬ ((4096 * (((ush (sp_Model_ramWord (sp_Model_inRam n ((4096 * (((sp_Model_raw h 384 cs) &&& 4194303).toInt64)) + (4 * ((ush x0 22).toInt64)))) b) 10).toInt64) + (((shr x0 12) &&& 1023).toInt64))) + ((x0 &&& 4095).toInt64)) ≤ 4294967295 := fun h9 => b_41 ((lg_cmp_le _ _).mpr h9)
                  refine lv_aload_n hx hb d_Model_translate_301 rfl (lv_at hl 9 rfl) ?_
                  refine lv_iload_n hx hb d_Model_translate_302 rfl (lv_at hl 11 rfl) ?_
                  refine xi (wr := [((a 0), .inr (5, [.int (nI n), .ref (a 1), .ref (a 2), .ref (a 3), .ref (a 4), .ref (a 5), .ref (a 6), .ref (a 7), .ref (a 8), .long ti, .ref (a 9), .int np, .int h, .int ca, .int tv, .int nx])), ((a 1), .inl ((k 0), 16384, .inl b)), ((a 2), .inl ((k 1), 64, .inl x)), ((a 3), .inl ((k 2), 2, .inl pcs)), ((a 4), .inl ((k 3), 2, .inl lv)), ((a 5), .inl ((k 4), 8192, .inl cs)), ((a 6), .inl ((k 5), 2, .inl cl)), ((a 7), .inl ((k 6), 2, .inr (.inl cm))), ((a 8), .inl ((k 7), 2, .inl so)), ((a 9), .inl ((k 8), 256, .inl pu))]) (W2 := fun _ => wR a k n h ca tv nx pcs lv cs x b cl cm so ti pu np) (xS (rest := [.ref (a 0)]) ⟨hx, hb, hml, hown, hts⟩ (c_Model_accessFault x1) mw_Model_accessFault ms_Model_accessFault k_760 ⟨rfl, rfl, Nat.le_of_ble_eq_true rfl, Nat.le_of_ble_eq_true rfl⟩ hK hP hD hS hA hF [] [] rfl rfl rfl rfl hl.1 rfl (Nat.le_of_ble_eq_true rfl) d_Model_translate_303 ⟨Nat.zero_le _, Nat.zero_le _⟩) hP hD hS hA [] [0, 1, 2, 3, 4, 5, 6, 7, 8, 9] [0, 1, 2, 3, 4, 5, 6, 7, 8, 9] rfl rfl rfl (by decide) (fun _ => rfl) rfl (fun r_42 _ H locs h_42 hP hD hS => ?_)
                  subst h_42
                  refine lv_iload_n hx hb d_Model_translate_306 rfl (lv_at hl 10 rfl) ?_
                  refine xv (wr := []) (W2 := fun u9 => wR a k n h u9.1 u9.2 nx pcs lv cs x b cl cm so ti pu np) (xV (rest := []) ⟨hx, hb, hml, hown, hts⟩ (c_Model_trap a k n (sp_Model_accessFault x1) x0 h ca tv nx pcs lv cs x b cl cm so ti pu np hn) mw_Model_trap mv_Model_trap k_763 ⟨rfl, rfl, Nat.le_of_ble_eq_true rfl, Nat.le_of_ble_eq_true rfl⟩ hK hP hD hS hA hF [0, 1, 2, 3, 4, 5, 6, 7, 8, 9] [0, 1, 2, 3, 4, 5, 6, 7, 8] rfl rfl rfl 0 5 rfl rfl rfl rfl hl.1 rfl (Nat.le_of_ble_eq_true rfl) d_Model_translate_307 ⟨Nat.zero_le _, Nat.zero_le _⟩) hP hD hS hA [0, 1, 2, 3, 4, 5, 6, 7, 8, 9] [] [0, 1, 2, 3, 4, 5, 6, 7, 8, 9] rfl rfl rfl (by decide) (fun _ => rfl) rfl (fun u_43 H locs h_43 hP hD hS => ?_)
                  obtain ⟨ca_43, tv_43⟩ := u_43
                  dsimp only at hP hD
                  refine lv_ldc2 (v := (-1)) hx hb hown (hts _ k_624) d_Model_translate_310 ?_
                  exact rl (ca_43, tv_43) hx hb hr hlocks hP hD hS d_Model_translate_313 (by simp only [sp_Model_translate, h_43, if_neg c_2, if_pos c_4, if_pos c_9, if_pos c_13, if_neg c_22, if_neg c_30, if_pos c_35, if_neg c_41])
          · refine lv_iconst (v := 1) hx hb d_Model_translate_156 rfl ?_
            refine lv_goto (tgt := 161) hx hb d_Model_translate_157 (by decide) ?_
            refine lv_istore (lv' := [(10, .int 1), (8, .int (sp_Model_ramWord (sp_Model_inRam n ((4096 * (((sp_Model_raw h 384 cs) &&& 4194303).toInt64)) + (4 * ((ush x0 22).toInt64)))) b)), (12, .int (sp_Model_inRam n ((4096 * (((sp_Model_raw h 384 cs) &&& 4194303).toInt64)) + (4 * ((ush x0 22).toInt64))))), (11, .int (ush x0 22)), (9, .int 0), (6, .long (((sp_Model_raw h 384 cs) &&& 4194303).toInt64)), (4, .long (x0.toInt64 &&& 4294967295)), (3, .int (sp_Model_levelFor x1 h lv cs)), (0, .ref (a 0)), (1, .int x0), (2, .int x1)]) hx hb d_Model_translate_161 hl (by decide) rfl (fun ls hl => ?_)
            refine lv_iload hx hb d_Model_translate_163 (lv_at hl 1 rfl) ?_
            refine lv_bipush (v := 10) hx hb d_Model_translate_165 rfl ?_
            refine lv_iushr (v := ush (sp_Model_ramWord (sp_Model_inRam n ((4096 * (((sp_Model_raw h 384 cs) &&& 4194303).toInt64)) + (4 * ((ush x0 22).toInt64)))) b) 10) hx hb d_Model_translate_167 rfl ?_
            refine lv_i2l hx hb d_Model_translate_168 rfl ?_
            refine lv_lstore (lv' := [(6, .long ((ush (sp_Model_ramWord (sp_Model_inRam n ((4096 * (((sp_Model_raw h 384 cs) &&& 4194303).toInt64)) + (4 * ((ush x0 22).toInt64)))) b) 10).toInt64)), (10, .int 1), (8, .int (sp_Model_ramWord (sp_Model_inRam n ((4096 * (((sp_Model_raw h 384 cs) &&& 4194303).toInt64)) + (4 * ((ush x0 22).toInt64)))) b)), (12, .int (sp_Model_inRam n ((4096 * (((sp_Model_raw h 384 cs) &&& 4194303).toInt64)) + (4 * ((ush x0 22).toInt64))))), (11, .int (ush x0 22)), (9, .int 0), (4, .long (x0.toInt64 &&& 4294967295)), (3, .int (sp_Model_levelFor x1 h lv cs)), (0, .ref (a 0)), (1, .int x0), (2, .int x1)]) hx hb d_Model_translate_169 hl (by decide) rfl (fun ls hl => ?_)
            refine lv_iinc (v := 1) (lv' := [(9, .int 1), (6, .long ((ush (sp_Model_ramWord (sp_Model_inRam n ((4096 * (((sp_Model_raw h 384 cs) &&& 4194303).toInt64)) + (4 * ((ush x0 22).toInt64)))) b) 10).toInt64)), (10, .int 1), (8, .int (sp_Model_ramWord (sp_Model_inRam n ((4096 * (((sp_Model_raw h 384 cs) &&& 4194303).toInt64)) + (4 * ((ush x0 22).toInt64)))) b)), (12, .int (sp_Model_inRam n ((4096 * (((sp_Model_raw h 384 cs) &&& 4194303).toInt64)) + (4 * ((ush x0 22).toInt64))))), (11, .int (ush x0 22)), (4, .long (x0.toInt64 &&& 4294967295)), (3, .int (sp_Model_levelFor x1 h lv cs)), (0, .ref (a 0)), (1, .int x0), (2, .int x1)]) hx hb d_Model_translate_171 hl (k := 5) rfl rfl (by decide) rfl (fun ls hl => ?_)
            refine lv_goto (tgt := 62) hx hb d_Model_translate_174 (by decide) ?_
            refine lv_iload hx hb d_Model_translate_62 (lv_at hl 2 rfl) ?_
            refine lv_if_eq (tgt := 177) hx hb d_Model_translate_64 (by decide) (fun h9 => absurd h9 (by decide)) (fun _ => ?_)
            refine lv_iload hx hb d_Model_translate_67 (lv_at hl 0 rfl) ?_
            refine lv_if_ne (tgt := 79) hx hb d_Model_translate_69 (by decide) (fun _ => ?_) (fun h9 => absurd h9 (by decide))
            refine lv_iload_n hx hb d_Model_translate_79 rfl (lv_at hl 9 rfl) ?_
            refine lv_bipush (v := 12) hx hb d_Model_translate_80 rfl ?_
            refine y_ishr hx hb d_Model_translate_82 ?_
            refine lv_sipush (v := 1023) hx hb d_Model_translate_83 rfl ?_
            refine lv_iand hx hb d_Model_translate_86 ?_
            refine lv_istore (lv' := [(11, .int ((shr x0 12) &&& 1023)), (9, .int 1), (6, .long ((ush (sp_Model_ramWord (sp_Model_inRam n ((4096 * (((sp_Model_raw h 384 cs) &&& 4194303).toInt64)) + (4 * ((ush x0 22).toInt64)))) b) 10).toInt64)), (10, .int 1), (8, .int (sp_Model_ramWord (sp_Model_inRam n ((4096 * (((sp_Model_raw h 384 cs) &&& 4194303).toInt64)) + (4 * ((ush x0 22).toInt64)))) b)), (12, .int (sp_Model_inRam n ((4096 * (((sp_Model_raw h 384 cs) &&& 4194303).toInt64)) + (4 * ((ush x0 22).toInt64))))), (4, .long (x0.toInt64 &&& 4294967295)), (3, .int (sp_Model_levelFor x1 h lv cs)), (0, .ref (a 0)), (1, .int x0), (2, .int x1)]) hx hb d_Model_translate_87 hl (by decide) rfl (fun ls hl => ?_)
            refine lv_aload_n hx hb d_Model_translate_89 rfl (lv_at hl 8 rfl) ?_
            refine lv_ldc2 (v := 4096) hx hb hown (hts _ k_753) d_Model_translate_90 ?_
            refine lv_lload hx hb d_Model_translate_93 (lv_at hl 2 rfl) ?_
            refine lv_lmul hx hb d_Model_translate_95 ?_
            refine lv_ldc2 (v := 4) hx hb hown (hts _ k_754) d_Model_translate_96 ?_
            refine lv_iload hx hb d_Model_translate_99 (lv_at hl 0 rfl) ?_
            refine lv_i2l hx hb d_Model_translate_101 rfl ?_
            refine lv_lmul hx hb d_Model_translate_102 ?_
            refine lv_ladd hx hb d_Model_translate_103 ?_
            refine xi (wr := []) (W2 := fun _ => wR a k n h ca tv nx pcs lv cs x b cl cm so ti pu np) (xV (rest := []) ⟨hx, hb, hml, hown, hts⟩ (c_Model_inRam a k n ((4096 * ((ush (sp_Model_ramWord (sp_Model_inRam n ((4096 * (((sp_Model_raw h 384 cs) &&& 4194303).toInt64)) + (4 * ((ush x0 22).toInt64)))) b) 10).toInt64)) + (4 * (((shr x0 12) &&& 1023).toInt64))) h ca tv nx pcs lv cs x b cl cm so ti pu np hn) mw_Model_inRam mv_Model_inRam k_755 ⟨rfl, rfl, Nat.le_of_ble_eq_true rfl, Nat.le_of_ble_eq_true rfl⟩ hK hP hD hS hA hF [0, 1, 2, 3, 4, 5, 6, 7, 8, 9] [0, 1, 2, 3, 4, 5, 6, 7, 8] rfl rfl rfl 0 5 rfl rfl rfl rfl hl.1 rfl (Nat.le_of_ble_eq_true rfl) d_Model_translate_104 ⟨Nat.zero_le _, Nat.zero_le _⟩) hP hD hS hA [0, 1, 2, 3, 4, 5, 6, 7, 8, 9] [] [0, 1, 2, 3, 4, 5, 6, 7, 8, 9] rfl rfl rfl (by decide) (fun _ => rfl) rfl (fun r_46 _ H locs h_46 hP hD hS => ?_)
            subst h_46
            refine lv_istore (lv' := [(12, .int (sp_Model_inRam n ((4096 * ((ush (sp_Model_ramWord (sp_Model_inRam n ((4096 * (((sp_Model_raw h 384 cs) &&& 4194303).toInt64)) + (4 * ((ush x0 22).toInt64)))) b) 10).toInt64)) + (4 * (((shr x0 12) &&& 1023).toInt64))))), (11, .int ((shr x0 12) &&& 1023)), (9, .int 1), (6, .long ((ush (sp_Model_ramWord (sp_Model_inRam n ((4096 * (((sp_Model_raw h 384 cs) &&& 4194303).toInt64)) + (4 * ((ush x0 22).toInt64)))) b) 10).toInt64)), (10, .int 1), (8, .int (sp_Model_ramWord (sp_Model_inRam n ((4096 * (((sp_Model_raw h 384 cs) &&& 4194303).toInt64)) + (4 * ((ush x0 22).toInt64)))) b)), (4, .long (x0.toInt64 &&& 4294967295)), (3, .int (sp_Model_levelFor x1 h lv cs)), (0, .ref (a 0)), (1, .int x0), (2, .int x1)]) hx hb d_Model_translate_107 hl (by decide) rfl (fun ls hl => ?_)
            refine lv_iload hx hb d_Model_translate_109 (lv_at hl 0 rfl) ?_
            refine lv_if_ge (tgt := 127) hx hb d_Model_translate_111 (by decide) (fun c_47 => ?_) (fun c_47 => ?_)
            · refine lv_aload_n hx hb d_Model_translate_127 rfl (lv_at hl 8 rfl) ?_
              refine lv_iload hx hb d_Model_translate_128 (lv_at hl 0 rfl) ?_
              refine xi (wr := []) (W2 := fun _ => wR a k n h ca tv nx pcs lv cs x b cl cm so ti pu np) (xV (rest := []) ⟨hx, hb, hml, hown, hts⟩ (c_Model_ramWord a k n (sp_Model_inRam n ((4096 * ((ush (sp_Model_ramWord (sp_Model_inRam n ((4096 * (((sp_Model_raw h 384 cs) &&& 4194303).toInt64)) + (4 * ((ush x0 22).toInt64)))) b) 10).toInt64)) + (4 * (((shr x0 12) &&& 1023).toInt64)))) h ca tv nx pcs lv cs x b cl cm so ti pu np hn (vpw_in hn c_47)) mw_Model_ramWord mv_Model_ramWord k_690 ⟨rfl, rfl, Nat.le_of_ble_eq_true rfl, Nat.le_of_ble_eq_true rfl⟩ hK hP hD hS hA hF [0, 1, 2, 3, 4, 5, 6, 7, 8, 9] [0, 1, 2, 3, 4, 5, 6, 7, 8] rfl rfl rfl 0 5 rfl rfl rfl rfl hl.1 rfl (Nat.le_of_ble_eq_true rfl) d_Model_translate_130 ⟨Nat.zero_le _, Nat.zero_le _⟩) hP hD hS hA [0, 1, 2, 3, 4, 5, 6, 7, 8, 9] [] [0, 1, 2, 3, 4, 5, 6, 7, 8, 9] rfl rfl rfl (by decide) (fun _ => rfl) rfl (fun r_48 _ H locs h_48 hP hD hS => ?_)
              subst h_48
              refine lv_istore (lv' := [(8, .int (sp_Model_ramWord (sp_Model_inRam n ((4096 * ((ush (sp_Model_ramWord (sp_Model_inRam n ((4096 * (((sp_Model_raw h 384 cs) &&& 4194303).toInt64)) + (4 * ((ush x0 22).toInt64)))) b) 10).toInt64)) + (4 * (((shr x0 12) &&& 1023).toInt64)))) b)), (12, .int (sp_Model_inRam n ((4096 * ((ush (sp_Model_ramWord (sp_Model_inRam n ((4096 * (((sp_Model_raw h 384 cs) &&& 4194303).toInt64)) + (4 * ((ush x0 22).toInt64)))) b) 10).toInt64)) + (4 * (((shr x0 12) &&& 1023).toInt64))))), (11, .int ((shr x0 12) &&& 1023)), (9, .int 1), (6, .long ((ush (sp_Model_ramWord (sp_Model_inRam n ((4096 * (((sp_Model_raw h 384 cs) &&& 4194303).toInt64)) + (4 * ((ush x0 22).toInt64)))) b) 10).toInt64)), (10, .int 1), (4, .long (x0.toInt64 &&& 4294967295)), (3, .int (sp_Model_levelFor x1 h lv cs)), (0, .ref (a 0)), (1, .int x0), (2, .int x1)]) hx hb d_Model_translate_133 hl (by decide) rfl (fun ls hl => ?_)
              refine lv_iload hx hb d_Model_translate_135 (lv_at hl 3 rfl) ?_
              refine lv_if_ne (tgt := 160) hx hb d_Model_translate_137 (by decide) (fun _ => ?_) (fun h9 => absurd h9 (by decide))
              refine lv_iconst (v := 0) hx hb d_Model_translate_160 rfl ?_
              refine lv_istore (lv' := [(10, .int 0), (8, .int (sp_Model_ramWord (sp_Model_inRam n ((4096 * ((ush (sp_Model_ramWord (sp_Model_inRam n ((4096 * (((sp_Model_raw h 384 cs) &&& 4194303).toInt64)) + (4 * ((ush x0 22).toInt64)))) b) 10).toInt64)) + (4 * (((shr x0 12) &&& 1023).toInt64)))) b)), (12, .int (sp_Model_inRam n ((4096 * ((ush (sp_Model_ramWord (sp_Model_inRam n ((4096 * (((sp_Model_raw h 384 cs) &&& 4194303).toInt64)) + (4 * ((ush x0 22).toInt64)))) b) 10).toInt64)) + (4 * (((shr x0 12) &&& 1023).toInt64))))), (11, .int ((shr x0 12) &&& 1023)), (9, .int 1), (6, .long ((ush (sp_Model_ramWord (sp_Model_inRam n ((4096 * (((sp_Model_raw h 384 cs) &&& 4194303).toInt64)) + (4 * ((ush x0 22).toInt64)))) b) 10).toInt64)), (4, .long (x0.toInt64 &&& 4294967295)), (3, .int (sp_Model_levelFor x1 h lv cs)), (0, .ref (a 0)), (1, .int x0), (2, .int x1)]) hx hb d_Model_translate_161 hl (by decide) rfl (fun ls hl => ?_)
              refine lv_iload hx hb d_Model_translate_163 (lv_at hl 1 rfl) ?_
              refine lv_bipush (v := 10) hx hb d_Model_translate_165 rfl ?_
              refine lv_iushr (v := ush (sp_Model_ramWord (sp_Model_inRam n ((4096 * ((ush (sp_Model_ramWord (sp_Model_inRam n ((4096 * (((sp_Model_raw h 384 cs) &&& 4194303).toInt64)) + (4 * ((ush x0 22).toInt64)))) b) 10).toInt64)) + (4 * (((shr x0 12) &&& 1023).toInt64)))) b) 10) hx hb d_Model_translate_167 rfl ?_
              refine lv_i2l hx hb d_Model_translate_168 rfl ?_
              refine lv_lstore (lv' := [(6, .long ((ush (sp_Model_ramWord (sp_Model_inRam n ((4096 * ((ush (sp_Model_ramWord (sp_Model_inRam n ((4096 * (((sp_Model_raw h 384 cs) &&& 4194303).toInt64)) + (4 * ((ush x0 22).toInt64)))) b) 10).toInt64)) + (4 * (((shr x0 12) &&& 1023).toInt64)))) b) 10).toInt64)), (10, .int 0), (8, .int (sp_Model_ramWord (sp_Model_inRam n ((4096 * ((ush (sp_Model_ramWord (sp_Model_inRam n ((4096 * (((sp_Model_raw h 384 cs) &&& 4194303).toInt64)) + (4 * ((ush x0 22).toInt64)))) b) 10).toInt64)) + (4 * (((shr x0 12) &&& 1023).toInt64)))) b)), (12, .int (sp_Model_inRam n ((4096 * ((ush (sp_Model_ramWord (sp_Model_inRam n ((4096 * (((sp_Model_raw h 384 cs) &&& 4194303).toInt64)) + (4 * ((ush x0 22).toInt64)))) b) 10).toInt64)) + (4 * (((shr x0 12) &&& 1023).toInt64))))), (11, .int ((shr x0 12) &&& 1023)), (9, .int 1), (4, .long (x0.toInt64 &&& 4294967295)), (3, .int (sp_Model_levelFor x1 h lv cs)), (0, .ref (a 0)), (1, .int x0), (2, .int x1)]) hx hb d_Model_translate_169 hl (by decide) rfl (fun ls hl => ?_)
              refine lv_iinc (v := 2) (lv' := [(9, .int 2), (6, .long ((ush (sp_Model_ramWord (sp_Model_inRam n ((4096 * ((ush (sp_Model_ramWord (sp_Model_inRam n ((4096 * (((sp_Model_raw h 384 cs) &&& 4194303).toInt64)) + (4 * ((ush x0 22).toInt64)))) b) 10).toInt64)) + (4 * (((shr x0 12) &&& 1023).toInt64)))) b) 10).toInt64)), (10, .int 0), (8, .int (sp_Model_ramWord (sp_Model_inRam n ((4096 * ((ush (sp_Model_ramWord (sp_Model_inRam n ((4096 * (((sp_Model_raw h 384 cs) &&& 4194303).toInt64)) + (4 * ((ush x0 22).toInt64)))) b) 10).toInt64)) + (4 * (((shr x0 12) &&& 1023).toInt64)))) b)), (12, .int (sp_Model_inRam n ((4096 * ((ush (sp_Model_ramWord (sp_Model_inRam n ((4096 * (((sp_Model_raw h 384 cs) &&& 4194303).toInt64)) + (4 * ((ush x0 22).toInt64)))) b) 10).toInt64)) + (4 * (((shr x0 12) &&& 1023).toInt64))))), (11, .int ((shr x0 12) &&& 1023)), (4, .long (x0.toInt64 &&& 4294967295)), (3, .int (sp_Model_levelFor x1 h lv cs)), (0, .ref (a 0)), (1, .int x0), (2, .int x1)]) hx hb d_Model_translate_171 hl (k := 5) rfl rfl (by decide) rfl (fun ls hl => ?_)
              refine lv_goto (tgt := 62) hx hb d_Model_translate_174 (by decide) ?_
              refine lv_iload hx hb d_Model_translate_62 (lv_at hl 2 rfl) ?_
              refine lv_if_eq (tgt := 177) hx hb d_Model_translate_64 (by decide) (fun _ => ?_) (fun h9 => absurd (by decide) h9)
              refine lv_iload hx hb d_Model_translate_177 (lv_at hl 0 rfl) ?_
              refine lv_iconst (v := 1) hx hb d_Model_translate_179 rfl ?_
              refine lv_icmp_ne (tgt := 187) hx hb d_Model_translate_180 (by decide) (fun _ => ?_) (fun h9 => absurd h9 (by decide))
              refine lv_iconst (v := 0) hx hb d_Model_translate_187 rfl ?_
              refine lv_istore (lv' := [(11, .int 0), (9, .int 2), (6, .long ((ush (sp_Model_ramWord (sp_Model_inRam n ((4096 * ((ush (sp_Model_ramWord (sp_Model_inRam n ((4096 * (((sp_Model_raw h 384 cs) &&& 4194303).toInt64)) + (4 * ((ush x0 22).toInt64)))) b) 10).toInt64)) + (4 * (((shr x0 12) &&& 1023).toInt64)))) b) 10).toInt64)), (10, .int 0), (8, .int (sp_Model_ramWord (sp_Model_inRam n ((4096 * ((ush (sp_Model_ramWord (sp_Model_inRam n ((4096 * (((sp_Model_raw h 384 cs) &&& 4194303).toInt64)) + (4 * ((ush x0 22).toInt64)))) b) 10).toInt64)) + (4 * (((shr x0 12) &&& 1023).toInt64)))) b)), (12, .int (sp_Model_inRam n ((4096 * ((ush (sp_Model_ramWord (sp_Model_inRam n ((4096 * (((sp_Model_raw h 384 cs) &&& 4194303).toInt64)) + (4 * ((ush x0 22).toInt64)))) b) 10).toInt64)) + (4 * (((shr x0 12) &&& 1023).toInt64))))), (4, .long (x0.toInt64 &&& 4294967295)), (3, .int (sp_Model_levelFor x1 h lv cs)), (0, .ref (a 0)), (1, .int x0), (2, .int x1)]) hx hb d_Model_translate_188 hl (by decide) rfl (fun ls hl => ?_)
              refine lv_iload hx hb d_Model_translate_190 (lv_at hl 4 rfl) ?_
              refine xi (wr := [((a 0), .inr (5, [.int (nI n), .ref (a 1), .ref (a 2), .ref (a 3), .ref (a 4), .ref (a 5), .ref (a 6), .ref (a 7), .ref (a 8), .long ti, .ref (a 9), .int np, .int h, .int ca, .int tv, .int nx])), ((a 1), .inl ((k 0), 16384, .inl b)), ((a 2), .inl ((k 1), 64, .inl x)), ((a 3), .inl ((k 2), 2, .inl pcs)), ((a 4), .inl ((k 3), 2, .inl lv)), ((a 5), .inl ((k 4), 8192, .inl cs)), ((a 6), .inl ((k 5), 2, .inl cl)), ((a 7), .inl ((k 6), 2, .inr (.inl cm))), ((a 8), .inl ((k 7), 2, .inl so)), ((a 9), .inl ((k 8), 256, .inl pu))]) (W2 := fun _ => wR a k n h ca tv nx pcs lv cs x b cl cm so ti pu np) (xS (rest := []) ⟨hx, hb, hml, hown, hts⟩ (c_Model_isBad (sp_Model_ramWord (sp_Model_inRam n ((4096 * ((ush (sp_Model_ramWord (sp_Model_inRam n ((4096 * (((sp_Model_raw h 384 cs) &&& 4194303).toInt64)) + (4 * ((ush x0 22).toInt64)))) b) 10).toInt64)) + (4 * (((shr x0 12) &&& 1023).toInt64)))) b)) mw_Model_isBad ms_Model_isBad k_767 ⟨rfl, rfl, Nat.le_of_ble_eq_true rfl, Nat.le_of_ble_eq_true rfl⟩ hK hP hD hS hA hF [] [] rfl rfl rfl rfl hl.1 rfl (Nat.le_of_ble_eq_true rfl) d_Model_translate_192 ⟨Nat.zero_le _, Nat.zero_le _⟩) hP hD hS hA [] [0, 1, 2, 3, 4, 5, 6, 7, 8, 9] [0, 1, 2, 3, 4, 5, 6, 7, 8, 9] rfl rfl rfl (by decide) (fun _ => rfl) rfl (fun r_52 _ H locs h_52 hP hD hS => ?_)
              obtain ⟨h_52, z_52⟩ := h_52
              subst h_52
              refine lv_if_ne (tgt := 237) hx hb d_Model_translate_195 (by decide) (fun c_53 => ?_) (fun c_53 => ?_)
              · refine lv_iconst (v := 0) hx hb d_Model_translate_237 rfl ?_
                refine lv_istore (lv' := [(12, .int 0), (11, .int 0), (9, .int 2), (6, .long ((ush (sp_Model_ramWord (sp_Model_inRam n ((4096 * ((ush (sp_Model_ramWord (sp_Model_inRam n ((4096 * (((sp_Model_raw h 384 cs) &&& 4194303).toInt64)) + (4 * ((ush x0 22).toInt64)))) b) 10).toInt64)) + (4 * (((shr x0 12) &&& 1023).toInt64)))) b) 10).toInt64)), (10, .int 0), (8, .int (sp_Model_ramWord (sp_Model_inRam n ((4096 * ((ush (sp_Model_ramWord (sp_Model_inRam n ((4096 * (((sp_Model_raw h 384 cs) &&& 4194303).toInt64)) + (4 * ((ush x0 22).toInt64)))) b) 10).toInt64)) + (4 * (((shr x0 12) &&& 1023).toInt64)))) b)), (4, .long (x0.toInt64 &&& 4294967295)), (3, .int (sp_Model_levelFor x1 h lv cs)), (0, .ref (a 0)), (1, .int x0), (2, .int x1)]) hx hb d_Model_translate_238 hl (by decide) rfl (fun ls hl => ?_)
                refine lv_iload hx hb d_Model_translate_240 (lv_at hl 0 rfl) ?_
                refine lv_if_ne (tgt := 258) hx hb d_Model_translate_242 (by decide) (fun h9 => absurd (by decide) h9) (fun _ => ?_)
                refine lv_aload_n hx hb d_Model_translate_245 rfl (lv_at hl 8 rfl) ?_
                refine lv_iload_n hx hb d_Model_translate_246 rfl (lv_at hl 10 rfl) ?_
                refine xi (wr := [((a 0), .inr (5, [.int (nI n), .ref (a 1), .ref (a 2), .ref (a 3), .ref (a 4), .ref (a 5), .ref (a 6), .ref (a 7), .ref (a 8), .long ti, .ref (a 9), .int np, .int h, .int ca, .int tv, .int nx])), ((a 1), .inl ((k 0), 16384, .inl b)), ((a 2), .inl ((k 1), 64, .inl x)), ((a 3), .inl ((k 2), 2, .inl pcs)), ((a 4), .inl ((k 3), 2, .inl lv)), ((a 5), .inl ((k 4), 8192, .inl cs)), ((a 6), .inl ((k 5), 2, .inl cl)), ((a 7), .inl ((k 6), 2, .inr (.inl cm))), ((a 8), .inl ((k 7), 2, .inl so)), ((a 9), .inl ((k 8), 256, .inl pu))]) (W2 := fun _ => wR a k n h ca tv nx pcs lv cs x b cl cm so ti pu np) (xS (rest := [.ref (a 0)]) ⟨hx, hb, hml, hown, hts⟩ (c_Model_pageFault x1) mw_Model_pageFault ms_Model_pageFault k_780 ⟨rfl, rfl, Nat.le_of_ble_eq_true rfl, Nat.le_of_ble_eq_true rfl⟩ hK hP hD hS hA hF [] [] rfl rfl rfl rfl hl.1 rfl (Nat.le_of_ble_eq_true rfl) d_Model_translate_247 ⟨Nat.zero_le _, Nat.zero_le _⟩) hP hD hS hA [] [0, 1, 2, 3, 4, 5, 6, 7, 8, 9] [0, 1, 2, 3, 4, 5, 6, 7, 8, 9] rfl rfl rfl (by decide) (fun _ => rfl) rfl (fun r_55 _ H locs h_55 hP hD hS => ?_)
                subst h_55
                refine lv_iload_n hx hb d_Model_translate_250 rfl (lv_at hl 9 rfl) ?_
                refine xv (wr := []) (W2 := fun u9 => wR a k n h u9.1 u9.2 nx pcs lv cs x b cl cm so ti pu np) (xV (rest := []) ⟨hx, hb, hml, hown, hts⟩ (c_Model_trap a k n (sp_Model_pageFault x1) x0 h ca tv nx pcs lv cs x b cl cm so ti pu np hn) mw_Model_trap mv_Model_trap k_763 ⟨rfl, rfl, Nat.le_of_ble_eq_true rfl, Nat.le_of_ble_eq_true rfl⟩ hK hP hD hS hA hF [0, 1, 2, 3, 4, 5, 6, 7, 8, 9] [0, 1, 2, 3, 4, 5, 6, 7, 8] rfl rfl rfl 0 5 rfl rfl rfl rfl hl.1 rfl (Nat.le_of_ble_eq_true rfl) d_Model_translate_251 ⟨Nat.zero_le _, Nat.zero_le _⟩) hP hD hS hA [0, 1, 2, 3, 4, 5, 6, 7, 8, 9] [] [0, 1, 2, 3, 4, 5, 6, 7, 8, 9] rfl rfl rfl (by decide) (fun _ => rfl) rfl (fun u_56 H locs h_56 hP hD hS => ?_)
                obtain ⟨ca_56, tv_56⟩ := u_56
                dsimp only at hP hD
                refine lv_ldc2 (v := (-1)) hx hb hown (hts _ k_624) d_Model_translate_254 ?_
                exact rl (ca_56, tv_56) hx hb hr hlocks hP hD hS d_Model_translate_257 (by simp only [sp_Model_translate, h_56, if_neg c_2, if_pos c_4, if_pos c_9, if_pos c_13, if_pos c_22, if_pos c_47, if_neg c_53])
              · refine lv_iload hx hb d_Model_translate_198 (lv_at hl 4 rfl) ?_
                refine xi (wr := [((a 0), .inr (5, [.int (nI n), .ref (a 1), .ref (a 2), .ref (a 3), .ref (a 4), .ref (a 5), .ref (a 6), .ref (a 7), .ref (a 8), .long ti, .ref (a 9), .int np, .int h, .int ca, .int tv, .int nx])), ((a 1), .inl ((k 0), 16384, .inl b)), ((a 2), .inl ((k 1), 64, .inl x)), ((a 3), .inl ((k 2), 2, .inl pcs)), ((a 4), .inl ((k 3), 2, .inl lv)), ((a 5), .inl ((k 4), 8192, .inl cs)), ((a 6), .inl ((k 5), 2, .inl cl)), ((a 7), .inl ((k 6), 2, .inr (.inl cm))), ((a 8), .inl ((k 7), 2, .inl so)), ((a 9), .inl ((k 8), 256, .inl pu))]) (W2 := fun _ => wR a k n h ca tv nx pcs lv cs x b cl cm so ti pu np) (xS (rest := []) ⟨hx, hb, hml, hown, hts⟩ (c_Model_isLeaf (sp_Model_ramWord (sp_Model_inRam n ((4096 * ((ush (sp_Model_ramWord (sp_Model_inRam n ((4096 * (((sp_Model_raw h 384 cs) &&& 4194303).toInt64)) + (4 * ((ush x0 22).toInt64)))) b) 10).toInt64)) + (4 * (((shr x0 12) &&& 1023).toInt64)))) b)) mw_Model_isLeaf ms_Model_isLeaf k_770 ⟨rfl, rfl, Nat.le_of_ble_eq_true rfl, Nat.le_of_ble_eq_true rfl⟩ hK hP hD hS hA hF [] [] rfl rfl rfl rfl hl.1 rfl (Nat.le_of_ble_eq_true rfl) d_Model_translate_200 ⟨Nat.zero_le _, Nat.zero_le _⟩) hP hD hS hA [] [0, 1, 2, 3, 4, 5, 6, 7, 8, 9] [0, 1, 2, 3, 4, 5, 6, 7, 8, 9] rfl rfl rfl (by decide) (fun _ => rfl) rfl (fun r_57 _ H locs h_57 hP hD hS => ?_)
                obtain ⟨h_57, z_57⟩ := h_57
                subst h_57
                refine lv_if_eq (tgt := 237) hx hb d_Model_translate_203 (by decide) (fun c_58 => ?_) (fun c_58 => ?_)
                · refine lv_iconst (v := 0) hx hb d_Model_translate_237 rfl ?_
                  refine lv_istore (lv' := [(12, .int 0), (11, .int 0), (9, .int 2), (6, .long ((ush (sp_Model_ramWord (sp_Model_inRam n ((4096 * ((ush (sp_Model_ramWord (sp_Model_inRam n ((4096 * (((sp_Model_raw h 384 cs) &&& 4194303).toInt64)) + (4 * ((ush x0 22).toInt64)))) b) 10).toInt64)) + (4 * (((shr x0 12) &&& 1023).toInt64)))) b) 10).toInt64)), (10, .int 0), (8, .int (sp_Model_ramWord (sp_Model_inRam n ((4096 * ((ush (sp_Model_ramWord (sp_Model_inRam n ((4096 * (((sp_Model_raw h 384 cs) &&& 4194303).toInt64)) + (4 * ((ush x0 22).toInt64)))) b) 10).toInt64)) + (4 * (((shr x0 12) &&& 1023).toInt64)))) b)), (4, .long (x0.toInt64 &&& 4294967295)), (3, .int (sp_Model_levelFor x1 h lv cs)), (0, .ref (a 0)), (1, .int x0), (2, .int x1)]) hx hb d_Model_translate_238 hl (by decide) rfl (fun ls hl => ?_)
                  refine lv_iload hx hb d_Model_translate_240 (lv_at hl 0 rfl) ?_
                  refine lv_if_ne (tgt := 258) hx hb d_Model_translate_242 (by decide) (fun h9 => absurd (by decide) h9) (fun _ => ?_)
                  refine lv_aload_n hx hb d_Model_translate_245 rfl (lv_at hl 8 rfl) ?_
                  refine lv_iload_n hx hb d_Model_translate_246 rfl (lv_at hl 10 rfl) ?_
                  refine xi (wr := [((a 0), .inr (5, [.int (nI n), .ref (a 1), .ref (a 2), .ref (a 3), .ref (a 4), .ref (a 5), .ref (a 6), .ref (a 7), .ref (a 8), .long ti, .ref (a 9), .int np, .int h, .int ca, .int tv, .int nx])), ((a 1), .inl ((k 0), 16384, .inl b)), ((a 2), .inl ((k 1), 64, .inl x)), ((a 3), .inl ((k 2), 2, .inl pcs)), ((a 4), .inl ((k 3), 2, .inl lv)), ((a 5), .inl ((k 4), 8192, .inl cs)), ((a 6), .inl ((k 5), 2, .inl cl)), ((a 7), .inl ((k 6), 2, .inr (.inl cm))), ((a 8), .inl ((k 7), 2, .inl so)), ((a 9), .inl ((k 8), 256, .inl pu))]) (W2 := fun _ => wR a k n h ca tv nx pcs lv cs x b cl cm so ti pu np) (xS (rest := [.ref (a 0)]) ⟨hx, hb, hml, hown, hts⟩ (c_Model_pageFault x1) mw_Model_pageFault ms_Model_pageFault k_780 ⟨rfl, rfl, Nat.le_of_ble_eq_true rfl, Nat.le_of_ble_eq_true rfl⟩ hK hP hD hS hA hF [] [] rfl rfl rfl rfl hl.1 rfl (Nat.le_of_ble_eq_true rfl) d_Model_translate_247 ⟨Nat.zero_le _, Nat.zero_le _⟩) hP hD hS hA [] [0, 1, 2, 3, 4, 5, 6, 7, 8, 9] [0, 1, 2, 3, 4, 5, 6, 7, 8, 9] rfl rfl rfl (by decide) (fun _ => rfl) rfl (fun r_60 _ H locs h_60 hP hD hS => ?_)
                  subst h_60
                  refine lv_iload_n hx hb d_Model_translate_250 rfl (lv_at hl 9 rfl) ?_
                  refine xv (wr := []) (W2 := fun u9 => wR a k n h u9.1 u9.2 nx pcs lv cs x b cl cm so ti pu np) (xV (rest := []) ⟨hx, hb, hml, hown, hts⟩ (c_Model_trap a k n (sp_Model_pageFault x1) x0 h ca tv nx pcs lv cs x b cl cm so ti pu np hn) mw_Model_trap mv_Model_trap k_763 ⟨rfl, rfl, Nat.le_of_ble_eq_true rfl, Nat.le_of_ble_eq_true rfl⟩ hK hP hD hS hA hF [0, 1, 2, 3, 4, 5, 6, 7, 8, 9] [0, 1, 2, 3, 4, 5, 6, 7, 8] rfl rfl rfl 0 5 rfl rfl rfl rfl hl.1 rfl (Nat.le_of_ble_eq_true rfl) d_Model_translate_251 ⟨Nat.zero_le _, Nat.zero_le _⟩) hP hD hS hA [0, 1, 2, 3, 4, 5, 6, 7, 8, 9] [] [0, 1, 2, 3, 4, 5, 6, 7, 8, 9] rfl rfl rfl (by decide) (fun _ => rfl) rfl (fun u_61 H locs h_61 hP hD hS => ?_)
                  obtain ⟨ca_61, tv_61⟩ := u_61
                  dsimp only at hP hD
                  refine lv_ldc2 (v := (-1)) hx hb hown (hts _ k_624) d_Model_translate_254 ?_
                  exact rl (ca_61, tv_61) hx hb hr hlocks hP hD hS d_Model_translate_257 (by simp only [sp_Model_translate, h_61, if_neg c_2, if_pos c_4, if_pos c_9, if_pos c_13, if_pos c_22, if_pos c_47, if_pos c_53, if_pos c_58])
                · refine lv_aload_n hx hb d_Model_translate_206 rfl (lv_at hl 8 rfl) ?_
                  refine lv_iload hx hb d_Model_translate_207 (lv_at hl 4 rfl) ?_
                  refine lv_iload_n hx hb d_Model_translate_209 rfl (lv_at hl 10 rfl) ?_
                  refine lv_iload_n hx hb d_Model_translate_210 rfl (lv_at hl 7 rfl) ?_
                  refine xi (wr := []) (W2 := fun _ => wR a k n h ca tv nx pcs lv cs x b cl cm so ti pu np) (xV (rest := []) ⟨hx, hb, hml, hown, hts⟩ (c_Model_lets a k n (sp_Model_ramWord (sp_Model_inRam n ((4096 * ((ush (sp_Model_ramWord (sp_Model_inRam n ((4096 * (((sp_Model_raw h 384 cs) &&& 4194303).toInt64)) + (4 * ((ush x0 22).toInt64)))) b) 10).toInt64)) + (4 * (((shr x0 12) &&& 1023).toInt64)))) b) x1 (sp_Model_levelFor x1 h lv cs) h ca tv nx pcs lv cs x b cl cm so ti pu np hn hh) mw_Model_lets mv_Model_lets k_773 ⟨rfl, rfl, Nat.le_of_ble_eq_true rfl, Nat.le_of_ble_eq_true rfl⟩ hK hP hD hS hA hF [0, 1, 2, 3, 4, 5, 6, 7, 8, 9] [0, 1, 2, 3, 4, 5, 6, 7, 8] rfl rfl rfl 0 5 rfl rfl rfl rfl hl.1 rfl (Nat.le_of_ble_eq_true rfl) d_Model_translate_211 ⟨Nat.zero_le _, Nat.zero_le _⟩) hP hD hS hA [0, 1, 2, 3, 4, 5, 6, 7, 8, 9] [] [0, 1, 2, 3, 4, 5, 6, 7, 8, 9] rfl rfl rfl (by decide) (fun _ => rfl) rfl (fun r_62 _ H locs h_62 hP hD hS => ?_)
                  obtain ⟨h_62, z_62⟩ := h_62
                  subst h_62
                  refine lv_if_eq (tgt := 237) hx hb d_Model_translate_214 (by decide) (fun c_63 => ?_) (fun c_63 => ?_)
                  · refine lv_iconst (v := 0) hx hb d_Model_translate_237 rfl ?_
                    refine lv_istore (lv' := [(12, .int 0), (11, .int 0), (9, .int 2), (6, .long ((ush (sp_Model_ramWord (sp_Model_inRam n ((4096 * ((ush (sp_Model_ramWord (sp_Model_inRam n ((4096 * (((sp_Model_raw h 384 cs) &&& 4194303).toInt64)) + (4 * ((ush x0 22).toInt64)))) b) 10).toInt64)) + (4 * (((shr x0 12) &&& 1023).toInt64)))) b) 10).toInt64)), (10, .int 0), (8, .int (sp_Model_ramWord (sp_Model_inRam n ((4096 * ((ush (sp_Model_ramWord (sp_Model_inRam n ((4096 * (((sp_Model_raw h 384 cs) &&& 4194303).toInt64)) + (4 * ((ush x0 22).toInt64)))) b) 10).toInt64)) + (4 * (((shr x0 12) &&& 1023).toInt64)))) b)), (4, .long (x0.toInt64 &&& 4294967295)), (3, .int (sp_Model_levelFor x1 h lv cs)), (0, .ref (a 0)), (1, .int x0), (2, .int x1)]) hx hb d_Model_translate_238 hl (by decide) rfl (fun ls hl => ?_)
                    refine lv_iload hx hb d_Model_translate_240 (lv_at hl 0 rfl) ?_
                    refine lv_if_ne (tgt := 258) hx hb d_Model_translate_242 (by decide) (fun h9 => absurd (by decide) h9) (fun _ => ?_)
                    refine lv_aload_n hx hb d_Model_translate_245 rfl (lv_at hl 8 rfl) ?_
                    refine lv_iload_n hx hb d_Model_translate_246 rfl (lv_at hl 10 rfl) ?_
                    refine xi (wr := [((a 0), .inr (5, [.int (nI n), .ref (a 1), .ref (a 2), .ref (a 3), .ref (a 4), .ref (a 5), .ref (a 6), .ref (a 7), .ref (a 8), .long ti, .ref (a 9), .int np, .int h, .int ca, .int tv, .int nx])), ((a 1), .inl ((k 0), 16384, .inl b)), ((a 2), .inl ((k 1), 64, .inl x)), ((a 3), .inl ((k 2), 2, .inl pcs)), ((a 4), .inl ((k 3), 2, .inl lv)), ((a 5), .inl ((k 4), 8192, .inl cs)), ((a 6), .inl ((k 5), 2, .inl cl)), ((a 7), .inl ((k 6), 2, .inr (.inl cm))), ((a 8), .inl ((k 7), 2, .inl so)), ((a 9), .inl ((k 8), 256, .inl pu))]) (W2 := fun _ => wR a k n h ca tv nx pcs lv cs x b cl cm so ti pu np) (xS (rest := [.ref (a 0)]) ⟨hx, hb, hml, hown, hts⟩ (c_Model_pageFault x1) mw_Model_pageFault ms_Model_pageFault k_780 ⟨rfl, rfl, Nat.le_of_ble_eq_true rfl, Nat.le_of_ble_eq_true rfl⟩ hK hP hD hS hA hF [] [] rfl rfl rfl rfl hl.1 rfl (Nat.le_of_ble_eq_true rfl) d_Model_translate_247 ⟨Nat.zero_le _, Nat.zero_le _⟩) hP hD hS hA [] [0, 1, 2, 3, 4, 5, 6, 7, 8, 9] [0, 1, 2, 3, 4, 5, 6, 7, 8, 9] rfl rfl rfl (by decide) (fun _ => rfl) rfl (fun r_65 _ H locs h_65 hP hD hS => ?_)
                    subst h_65
                    refine lv_iload_n hx hb d_Model_translate_250 rfl (lv_at hl 9 rfl) ?_
                    refine xv (wr := []) (W2 := fun u9 => wR a k n h u9.1 u9.2 nx pcs lv cs x b cl cm so ti pu np) (xV (rest := []) ⟨hx, hb, hml, hown, hts⟩ (c_Model_trap a k n (sp_Model_pageFault x1) x0 h ca tv nx pcs lv cs x b cl cm so ti pu np hn) mw_Model_trap mv_Model_trap k_763 ⟨rfl, rfl, Nat.le_of_ble_eq_true rfl, Nat.le_of_ble_eq_true rfl⟩ hK hP hD hS hA hF [0, 1, 2, 3, 4, 5, 6, 7, 8, 9] [0, 1, 2, 3, 4, 5, 6, 7, 8] rfl rfl rfl 0 5 rfl rfl rfl rfl hl.1 rfl (Nat.le_of_ble_eq_true rfl) d_Model_translate_251 ⟨Nat.zero_le _, Nat.zero_le _⟩) hP hD hS hA [0, 1, 2, 3, 4, 5, 6, 7, 8, 9] [] [0, 1, 2, 3, 4, 5, 6, 7, 8, 9] rfl rfl rfl (by decide) (fun _ => rfl) rfl (fun u_66 H locs h_66 hP hD hS => ?_)
                    obtain ⟨ca_66, tv_66⟩ := u_66
                    dsimp only at hP hD
                    refine lv_ldc2 (v := (-1)) hx hb hown (hts _ k_624) d_Model_translate_254 ?_
                    exact rl (ca_66, tv_66) hx hb hr hlocks hP hD hS d_Model_translate_257 (by simp only [sp_Model_translate, h_66, if_neg c_2, if_pos c_4, if_pos c_9, if_pos c_13, if_pos c_22, if_pos c_47, if_pos c_53, if_neg c_58, if_pos c_63])
                  · refine lv_iload hx hb d_Model_translate_217 (lv_at hl 0 rfl) ?_
                    refine lv_if_eq (tgt := 233) hx hb d_Model_translate_219 (by decide) (fun _ => ?_) (fun h9 => absurd (by decide) h9)
                    refine lv_iconst (v := 1) hx hb d_Model_translate_233 rfl ?_
                    refine lv_goto (tgt := 238) hx hb d_Model_translate_234 (by decide) ?_
                    refine lv_istore (lv' := [(12, .int 1), (11, .int 0), (9, .int 2), (6, .long ((ush (sp_Model_ramWord (sp_Model_inRam n ((4096 * ((ush (sp_Model_ramWord (sp_Model_inRam n ((4096 * (((sp_Model_raw h 384 cs) &&& 4194303).toInt64)) + (4 * ((ush x0 22).toInt64)))) b) 10).toInt64)) + (4 * (((shr x0 12) &&& 1023).toInt64)))) b) 10).toInt64)), (10, .int 0), (8, .int (sp_Model_ramWord (sp_Model_inRam n ((4096 * ((ush (sp_Model_ramWord (sp_Model_inRam n ((4096 * (((sp_Model_raw h 384 cs) &&& 4194303).toInt64)) + (4 * ((ush x0 22).toInt64)))) b) 10).toInt64)) + (4 * (((shr x0 12) &&& 1023).toInt64)))) b)), (4, .long (x0.toInt64 &&& 4294967295)), (3, .int (sp_Model_levelFor x1 h lv cs)), (0, .ref (a 0)), (1, .int x0), (2, .int x1)]) hx hb d_Model_translate_238 hl (by decide) rfl (fun ls hl => ?_)
                    refine lv_iload hx hb d_Model_translate_240 (lv_at hl 0 rfl) ?_
                    refine lv_if_ne (tgt := 258) hx hb d_Model_translate_242 (by decide) (fun _ => ?_) (fun h9 => absurd h9 (by decide))
                    refine lv_ldc2 (v := 4096) hx hb hown (hts _ k_753) d_Model_translate_258 ?_
                    refine lv_lload hx hb d_Model_translate_261 (lv_at hl 3 rfl) ?_
                    refine lv_iload hx hb d_Model_translate_263 (lv_at hl 1 rfl) ?_
                    refine lv_if_eq (tgt := 279) hx hb d_Model_translate_265 (by decide) (fun _ => ?_) (fun h9 => absurd (by decide) h9)
                    refine lv_iconst (v := 0) hx hb d_Model_translate_279 rfl ?_
                    refine lv_i2l hx hb d_Model_translate_280 rfl ?_
                    refine lv_ladd hx hb d_Model_translate_281 ?_
                    refine lv_lmul hx hb d_Model_translate_282 ?_
                    refine lv_iload_n hx hb d_Model_translate_283 rfl (lv_at hl 9 rfl) ?_
                    refine lv_sipush (v := 4095) hx hb d_Model_translate_284 rfl ?_
                    refine lv_iand hx hb d_Model_translate_287 ?_
                    refine lv_i2l hx hb d_Model_translate_288 rfl ?_
                    refine lv_ladd hx hb d_Model_translate_289 ?_
                    refine lv_lstore (lv' := [(13, .long ((4096 * (((ush (sp_Model_ramWord (sp_Model_inRam n ((4096 * ((ush (sp_Model_ramWord (sp_Model_inRam n ((4096 * (((sp_Model_raw h 384 cs) &&& 4194303).toInt64)) + (4 * ((ush x0 22).toInt64)))) b) 10).toInt64)) + (4 * (((shr x0 12) &&& 1023).toInt64)))) b) 10).toInt64) + ((0 : Int32).toInt64))) + ((x0 &&& 4095).toInt64))), (12, .int 1), (11, .int 0), (9, .int 2), (6, .long ((ush (sp_Model_ramWord (sp_Model_inRam n ((4096 * ((ush (sp_Model_ramWord (sp_Model_inRam n ((4096 * (((sp_Model_raw h 384 cs) &&& 4194303).toInt64)) + (4 * ((ush x0 22).toInt64)))) b) 10).toInt64)) + (4 * (((shr x0 12) &&& 1023).toInt64)))) b) 10).toInt64)), (10, .int 0), (8, .int (sp_Model_ramWord (sp_Model_inRam n ((4096 * ((ush (sp_Model_ramWord (sp_Model_inRam n ((4096 * (((sp_Model_raw h 384 cs) &&& 4194303).toInt64)) + (4 * ((ush x0 22).toInt64)))) b) 10).toInt64)) + (4 * (((shr x0 12) &&& 1023).toInt64)))) b)), (4, .long (x0.toInt64 &&& 4294967295)), (3, .int (sp_Model_levelFor x1 h lv cs)), (0, .ref (a 0)), (1, .int x0), (2, .int x1)]) hx hb d_Model_translate_290 hl (by decide) rfl (fun ls hl => ?_)
                    refine lv_lload hx hb d_Model_translate_292 (lv_at hl 0 rfl) ?_
                    refine lv_ldc2 (v := 4294967295) hx hb hown (hts _ k_751) d_Model_translate_294 ?_
                    refine W.lcmp hx hb d_Model_translate_297 ?_
                    refine lv_if_le (tgt := 314) hx hb d_Model_translate_298 (by decide) (fun b_70 => ?_) (fun b_70 => ?_)
                    · have c_70 : ((4096 * (((ush (sp_Model_ramWord (sp_Model_inRam n ((4096 * ((ush (sp_Model_ramWord (sp_Model_inRam n ((4096 * (((sp_Model_raw h 384 cs) &&& 4194303).toInt64)) + (4 * ((ush x0 22).toInt64)))) b) 10).toInt64)) + (4 * (((shr x0 12) &&& 1023).toInt64)))) b) 10).toInt64) + ((0 : Int32).toInt64))) + ((x0 &&& 4095).toInt64)) ≤ 4294967295 := (lg_cmp_le _ _).mp b_70
                      refine lv_lload hx hb d_Model_translate_314 (lv_at hl 0 rfl) ?_
                      exact rl (ca, tv) hx hb hr hlocks hP hD hS d_Model_translate_316 (by simp only [sp_Model_translate, if_neg c_2, if_pos c_4, if_pos c_9, if_pos c_13, if_pos c_22, if_pos c_47, if_pos c_53, if_neg c_58, if_neg c_63, if_pos c_70])
                    · have c_70 : ¬ ((4096 * (((ush (sp_Model_ramWord (sp_Model_inRam n ((4096 * ((ush (sp_Model_ramWord (sp_Model_inRam n ((4096 * (((sp_Model_raw h 384 cs) &&& 4194303).toInt64)) + (4 * ((ush x0 22).toInt64)))) b) 10).toInt64)) + (4 * (((shr x0 12) &&& 1023).toInt64)))) b) 10).toInt64) + ((0 : Int32).toInt64))) + ((x0 &&& 4095).toInt64)) ≤ 4294967295 := fun h9 => b_70 ((lg_cmp_le _ _).mpr h9)
                      refine lv_aload_n hx hb d_Model_translate_301 rfl (lv_at hl 9 rfl) ?_
                      refine lv_iload_n hx hb d_Model_translate_302 rfl (lv_at hl 11 rfl) ?_
                      refine xi (wr := [((a 0), .inr (5, [.int (nI n), .ref (a 1), .ref (a 2), .ref (a 3), .ref (a 4), .ref (a 5), .ref (a 6), .ref (a 7), .ref (a 8), .long ti, .ref (a 9), .int np, .int h, .int ca, .int tv, .int nx])), ((a 1), .inl ((k 0), 16384, .inl b)), ((a 2), .inl ((k 1), 64, .inl x)), ((a 3), .inl ((k 2), 2, .inl pcs)), ((a 4), .inl ((k 3), 2, .inl lv)), ((a 5), .inl ((k 4), 8192, .inl cs)), ((a 6), .inl ((k 5), 2, .inl cl)), ((a 7), .inl ((k 6), 2, .inr (.inl cm))), ((a 8), .inl ((k 7), 2, .inl so)), ((a 9), .inl ((k 8), 256, .inl pu))]) (W2 := fun _ => wR a k n h ca tv nx pcs lv cs x b cl cm so ti pu np) (xS (rest := [.ref (a 0)]) ⟨hx, hb, hml, hown, hts⟩ (c_Model_accessFault x1) mw_Model_accessFault ms_Model_accessFault k_760 ⟨rfl, rfl, Nat.le_of_ble_eq_true rfl, Nat.le_of_ble_eq_true rfl⟩ hK hP hD hS hA hF [] [] rfl rfl rfl rfl hl.1 rfl (Nat.le_of_ble_eq_true rfl) d_Model_translate_303 ⟨Nat.zero_le _, Nat.zero_le _⟩) hP hD hS hA [] [0, 1, 2, 3, 4, 5, 6, 7, 8, 9] [0, 1, 2, 3, 4, 5, 6, 7, 8, 9] rfl rfl rfl (by decide) (fun _ => rfl) rfl (fun r_71 _ H locs h_71 hP hD hS => ?_)
                      subst h_71
                      refine lv_iload_n hx hb d_Model_translate_306 rfl (lv_at hl 10 rfl) ?_
                      refine xv (wr := []) (W2 := fun u9 => wR a k n h u9.1 u9.2 nx pcs lv cs x b cl cm so ti pu np) (xV (rest := []) ⟨hx, hb, hml, hown, hts⟩ (c_Model_trap a k n (sp_Model_accessFault x1) x0 h ca tv nx pcs lv cs x b cl cm so ti pu np hn) mw_Model_trap mv_Model_trap k_763 ⟨rfl, rfl, Nat.le_of_ble_eq_true rfl, Nat.le_of_ble_eq_true rfl⟩ hK hP hD hS hA hF [0, 1, 2, 3, 4, 5, 6, 7, 8, 9] [0, 1, 2, 3, 4, 5, 6, 7, 8] rfl rfl rfl 0 5 rfl rfl rfl rfl hl.1 rfl (Nat.le_of_ble_eq_true rfl) d_Model_translate_307 ⟨Nat.zero_le _, Nat.zero_le _⟩) hP hD hS hA [0, 1, 2, 3, 4, 5, 6, 7, 8, 9] [] [0, 1, 2, 3, 4, 5, 6, 7, 8, 9] rfl rfl rfl (by decide) (fun _ => rfl) rfl (fun u_72 H locs h_72 hP hD hS => ?_)
                      obtain ⟨ca_72, tv_72⟩ := u_72
                      dsimp only at hP hD
                      refine lv_ldc2 (v := (-1)) hx hb hown (hts _ k_624) d_Model_translate_310 ?_
                      exact rl (ca_72, tv_72) hx hb hr hlocks hP hD hS d_Model_translate_313 (by simp only [sp_Model_translate, h_72, if_neg c_2, if_pos c_4, if_pos c_9, if_pos c_13, if_pos c_22, if_pos c_47, if_pos c_53, if_neg c_58, if_neg c_63, if_neg c_70])
            · refine lv_aload_n hx hb d_Model_translate_114 rfl (lv_at hl 8 rfl) ?_
              refine lv_iload_n hx hb d_Model_translate_115 rfl (lv_at hl 10 rfl) ?_
              refine xi (wr := [((a 0), .inr (5, [.int (nI n), .ref (a 1), .ref (a 2), .ref (a 3), .ref (a 4), .ref (a 5), .ref (a 6), .ref (a 7), .ref (a 8), .long ti, .ref (a 9), .int np, .int h, .int ca, .int tv, .int nx])), ((a 1), .inl ((k 0), 16384, .inl b)), ((a 2), .inl ((k 1), 64, .inl x)), ((a 3), .inl ((k 2), 2, .inl pcs)), ((a 4), .inl ((k 3), 2, .inl lv)), ((a 5), .inl ((k 4), 8192, .inl cs)), ((a 6), .inl ((k 5), 2, .inl cl)), ((a 7), .inl ((k 6), 2, .inr (.inl cm))), ((a 8), .inl ((k 7), 2, .inl so)), ((a 9), .inl ((k 8), 256, .inl pu))]) (W2 := fun _ => wR a k n h ca tv nx pcs lv cs x b cl cm so ti pu np) (xS (rest := [.ref (a 0)]) ⟨hx, hb, hml, hown, hts⟩ (c_Model_accessFault x1) mw_Model_accessFault ms_Model_accessFault k_760 ⟨rfl, rfl, Nat.le_of_ble_eq_true rfl, Nat.le_of_ble_eq_true rfl⟩ hK hP hD hS hA hF [] [] rfl rfl rfl rfl hl.1 rfl (Nat.le_of_ble_eq_true rfl) d_Model_translate_116 ⟨Nat.zero_le _, Nat.zero_le _⟩) hP hD hS hA [] [0, 1, 2, 3, 4, 5, 6, 7, 8, 9] [0, 1, 2, 3, 4, 5, 6, 7, 8, 9] rfl rfl rfl (by decide) (fun _ => rfl) rfl (fun r_73 _ H locs h_73 hP hD hS => ?_)
              subst h_73
              refine lv_iload_n hx hb d_Model_translate_119 rfl (lv_at hl 9 rfl) ?_
              refine xv (wr := []) (W2 := fun u9 => wR a k n h u9.1 u9.2 nx pcs lv cs x b cl cm so ti pu np) (xV (rest := []) ⟨hx, hb, hml, hown, hts⟩ (c_Model_trap a k n (sp_Model_accessFault x1) x0 h ca tv nx pcs lv cs x b cl cm so ti pu np hn) mw_Model_trap mv_Model_trap k_763 ⟨rfl, rfl, Nat.le_of_ble_eq_true rfl, Nat.le_of_ble_eq_true rfl⟩ hK hP hD hS hA hF [0, 1, 2, 3, 4, 5, 6, 7, 8, 9] [0, 1, 2, 3, 4, 5, 6, 7, 8] rfl rfl rfl 0 5 rfl rfl rfl rfl hl.1 rfl (Nat.le_of_ble_eq_true rfl) d_Model_translate_120 ⟨Nat.zero_le _, Nat.zero_le _⟩) hP hD hS hA [0, 1, 2, 3, 4, 5, 6, 7, 8, 9] [] [0, 1, 2, 3, 4, 5, 6, 7, 8, 9] rfl rfl rfl (by decide) (fun _ => rfl) rfl (fun u_74 H locs h_74 hP hD hS => ?_)
              obtain ⟨ca_74, tv_74⟩ := u_74
              dsimp only at hP hD
              refine lv_ldc2 (v := (-1)) hx hb hown (hts _ k_624) d_Model_translate_123 ?_
              exact rl (ca_74, tv_74) hx hb hr hlocks hP hD hS d_Model_translate_126 (by simp only [sp_Model_translate, h_74, if_neg c_2, if_pos c_4, if_pos c_9, if_pos c_13, if_pos c_22, if_neg c_47])
      · refine lv_aload_n hx hb d_Model_translate_114 rfl (lv_at hl 8 rfl) ?_
        refine lv_iload_n hx hb d_Model_translate_115 rfl (lv_at hl 10 rfl) ?_
        refine xi (wr := [((a 0), .inr (5, [.int (nI n), .ref (a 1), .ref (a 2), .ref (a 3), .ref (a 4), .ref (a 5), .ref (a 6), .ref (a 7), .ref (a 8), .long ti, .ref (a 9), .int np, .int h, .int ca, .int tv, .int nx])), ((a 1), .inl ((k 0), 16384, .inl b)), ((a 2), .inl ((k 1), 64, .inl x)), ((a 3), .inl ((k 2), 2, .inl pcs)), ((a 4), .inl ((k 3), 2, .inl lv)), ((a 5), .inl ((k 4), 8192, .inl cs)), ((a 6), .inl ((k 5), 2, .inl cl)), ((a 7), .inl ((k 6), 2, .inr (.inl cm))), ((a 8), .inl ((k 7), 2, .inl so)), ((a 9), .inl ((k 8), 256, .inl pu))]) (W2 := fun _ => wR a k n h ca tv nx pcs lv cs x b cl cm so ti pu np) (xS (rest := [.ref (a 0)]) ⟨hx, hb, hml, hown, hts⟩ (c_Model_accessFault x1) mw_Model_accessFault ms_Model_accessFault k_760 ⟨rfl, rfl, Nat.le_of_ble_eq_true rfl, Nat.le_of_ble_eq_true rfl⟩ hK hP hD hS hA hF [] [] rfl rfl rfl rfl hl.1 rfl (Nat.le_of_ble_eq_true rfl) d_Model_translate_116 ⟨Nat.zero_le _, Nat.zero_le _⟩) hP hD hS hA [] [0, 1, 2, 3, 4, 5, 6, 7, 8, 9] [0, 1, 2, 3, 4, 5, 6, 7, 8, 9] rfl rfl rfl (by decide) (fun _ => rfl) rfl (fun r_75 _ H locs h_75 hP hD hS => ?_)
        subst h_75
        refine lv_iload_n hx hb d_Model_translate_119 rfl (lv_at hl 9 rfl) ?_
        refine xv (wr := []) (W2 := fun u9 => wR a k n h u9.1 u9.2 nx pcs lv cs x b cl cm so ti pu np) (xV (rest := []) ⟨hx, hb, hml, hown, hts⟩ (c_Model_trap a k n (sp_Model_accessFault x1) x0 h ca tv nx pcs lv cs x b cl cm so ti pu np hn) mw_Model_trap mv_Model_trap k_763 ⟨rfl, rfl, Nat.le_of_ble_eq_true rfl, Nat.le_of_ble_eq_true rfl⟩ hK hP hD hS hA hF [0, 1, 2, 3, 4, 5, 6, 7, 8, 9] [0, 1, 2, 3, 4, 5, 6, 7, 8] rfl rfl rfl 0 5 rfl rfl rfl rfl hl.1 rfl (Nat.le_of_ble_eq_true rfl) d_Model_translate_120 ⟨Nat.zero_le _, Nat.zero_le _⟩) hP hD hS hA [0, 1, 2, 3, 4, 5, 6, 7, 8, 9] [] [0, 1, 2, 3, 4, 5, 6, 7, 8, 9] rfl rfl rfl (by decide) (fun _ => rfl) rfl (fun u_76 H locs h_76 hP hD hS => ?_)
        obtain ⟨ca_76, tv_76⟩ := u_76
        dsimp only at hP hD
        refine lv_ldc2 (v := (-1)) hx hb hown (hts _ k_624) d_Model_translate_123 ?_
        exact rl (ca_76, tv_76) hx hb hr hlocks hP hD hS d_Model_translate_126 (by simp only [sp_Model_translate, h_76, if_neg c_2, if_pos c_4, if_neg c_9])
    · refine lv_lload hx hb d_Model_translate_33 (lv_at hl 0 rfl) ?_
      exact rl (ca, tv) hx hb hr hlocks hP hD hS d_Model_translate_35 (by simp only [sp_Model_translate, if_neg c_2, if_neg c_4])
/-- a place keeps the address's rest -/
def trP (X : Nat) (q : Int64 × Int32 × Int32) : Prop := 0 ≤ q.1 → q.1.toBitVec.toNat % 4096 = X % 4096
theorem trP_n {X : Nat} {u : Int32 × Int32} : trP X ((-1), u) := fun h => absurd (show (0 : Int64) ≤ -1 from h) (by decide)
theorem bv_and (x m : Int32) (k : Nat) (hm : m.toBitVec.toNat = 2 ^ k - 1) : (x &&& m).toBitVec.toNat = x.toBitVec.toNat % 2 ^ k := by
  show (x.toBitVec &&& m.toBitVec).toNat = _
  rw [BitVec.toNat_and, hm, Nat.and_two_pow_sub_one_eq_mod]
theorem sx_small {x : Int32} (h : x.toBitVec.toNat < 2 ^ 31) : x.toInt64.toBitVec.toNat = x.toBitVec.toNat := by
  show (x.toBitVec.signExtend 64).toNat = _
  rw [BitVec.toNat_signExtend]
  have : x.toBitVec.msb = false := by
    rw [BitVec.msb_eq_decide]
    simp
    omega
  rw [this]
  simp
  omega
theorem sx_low (x : Int32) : (x.toInt64 &&& 4294967295).toBitVec.toNat = x.toBitVec.toNat := by
  show ((x.toBitVec.signExtend 64) &&& 4294967295#64).toNat = _
  rw [BitVec.toNat_and, show (4294967295#64).toNat = 2 ^ 32 - 1 from by decide, Nat.and_two_pow_sub_one_eq_mod, BitVec.toNat_signExtend]
  have hx : x.toBitVec.toNat < 2 ^ 32 := x.toBitVec.isLt
  have e1 : (x.toBitVec.setWidth 64).toNat = x.toBitVec.toNat := by rw [BitVec.toNat_setWidth]; omega
  rw [e1]
  split <;> omega
theorem trP_a {x : Int32} {u : Int32 × Int32} : trP x.toBitVec.toNat (x.toInt64 &&& 4294967295, u) := fun _ => by
  show (x.toInt64 &&& 4294967295).toBitVec.toNat % 4096 = _
  rw [sx_low]
theorem trP_p {x : Int32} {p : Int64} {u : Int32 × Int32} : trP x.toBitVec.toNat ((4096 * p) + ((x &&& 4095).toInt64), u) := fun _ => by
  show ((4096#64 * p.toBitVec) + (x &&& 4095).toInt64.toBitVec).toNat % 4096 = _
  have e0 := bv_and x 4095 12 (by decide)
  rw [BitVec.toNat_add, BitVec.toNat_mul, sx_small (by rw [e0]; omega), e0, show (4096#64).toNat = 4096 from rfl]
  omega
set_option maxHeartbeats 4000000 in
theorem tr_low (n : Nat) (x0 x1 h ca tv : Int32) (lv cs b : Nat → Int32) : trP x0.toBitVec.toNat (sp_Model_translate n x0 x1 h ca tv lv cs b) := by
  unfold sp_Model_translate
  dsimp only
  repeat' first
    | with_reducible exact trP_n
    | with_reducible exact trP_a
    | with_reducible exact trP_p
    | with_reducible refine ite_P (P := trP x0.toBitVec.toNat) (fun _ => ?_) (fun _ => ?_)
theorem ram_low {n : Nat} {r : Int64} {X : Nat} (hn : n ≤ 4096) (c : 0 ≤ sp_Model_inRam n r) (h : r.toBitVec.toNat % 4096 = X % 4096) : ∃ j, j < 4 * n ∧ sp_Model_inRam n r = nI j ∧ j % 4096 = X % 4096 := by
  obtain ⟨j, hj, ha, e⟩ := inRam_at hn c
  refine ⟨j, hj, e, ?_⟩
  rw [ha, lN_tn (by omega)] at h
  omega
theorem and0 {x m : Int32} (k : Nat) (hm : m.toBitVec.toNat = 2 ^ k - 1) (h : x &&& m = 0) : x.toBitVec.toNat % 2 ^ k = 0 := by
  rw [← bv_and x m k hm, h]
  rfl
theorem vpw_fetch {n : Nat} {h ca tv : Int32} {pcs lv cs b : Nat → Int32} {r : Int64} {u : Int32 × Int32} (hn : n ≤ 4096) (hpc : pcs h.toNatClampNeg &&& 3 = 0) (e : sp_Model_translate n (pcs h.toNatClampNeg) 0 h ca tv lv cs b = (r, u)) (c1 : 0 ≤ r) (c2 : 0 ≤ sp_Model_inRam n r) : vpw (sp_Model_inRam n r) := by
  have h1 := tr_low n (pcs h.toNatClampNeg) 0 h ca tv lv cs b
  rw [e] at h1
  obtain ⟨j, hj, e2, h2⟩ := ram_low hn c2 (h1 c1)
  have h3 := and0 2 (by decide) hpc
  rw [e2]
  exact vpw_nI (by omega)
