def sp_Alu_below (x0 : Int32) (x1 : Int32)  : Int32 :=
  if (x1 ^^^ (-2147483648)) ≤ (x0 ^^^ (-2147483648)) then
    0
  else
    1
set_option maxHeartbeats 4000000 in
set_option maxRecDepth 100000 in
theorem c_Alu_below {l : Launch} {D : va_G} {g : Nat → Nat}  (x0 : Int32) (x1 : Int32)   : CT l D g y_Alu_below b_Alu_below 2 (some .boolean) (rD 0) [.int x0, .int x1] ([]) ([]) (Qi D (fun (r : Int32) (_ : Unit) => sp_Alu_below x0 x1 = r ∧ (r = 0 ∨ r = 1)) (fun _ => [])) := by
  refine CT.of rfl (Nat.le_of_ble_eq_true rfl) (fun p e s m below meth c A ls hx hb hr hml hts hown hlocks hA hP hK hD hF hS hl => ?_)
  have hl : lv_has ls 2 [(0, .int x0), (1, .int x1)] := hl
  refine lv_iload_n hx hb d_Alu_below_0 rfl (lv_at hl 0 rfl) ?_
  refine lv_ldc (v := (-2147483648)) hx hb hown (hts _ k_228) d_Alu_below_1 ?_
  refine lv_ixor hx hb d_Alu_below_3 ?_
  refine lv_iload_n hx hb d_Alu_below_4 rfl (lv_at hl 1 rfl) ?_
  refine lv_ldc (v := (-2147483648)) hx hb hown (hts _ k_228) d_Alu_below_5 ?_
  refine lv_ixor hx hb d_Alu_below_7 ?_
  refine lv_icmp_ge (tgt := 15) hx hb d_Alu_below_8 (by decide) (fun c_1 => ?_) (fun c_1 => ?_)
  · refine lv_iconst (v := 0) hx hb d_Alu_below_15 rfl ?_
    exact rz () hx hb hr hlocks rfl hP hD hS d_Alu_below_16 ⟨by simp only [sp_Alu_below, if_pos c_1], Or.inl rfl⟩
  · refine lv_iconst (v := 1) hx hb d_Alu_below_11 rfl ?_
    refine lv_goto (tgt := 16) hx hb d_Alu_below_12 (by decide) ?_
    exact rz () hx hb hr hlocks rfl hP hD hS d_Alu_below_16 ⟨by simp only [sp_Alu_below, if_neg c_1], Or.inr rfl⟩
def sp_Fault_of (x0 : Int32)  : Int64 :=
  (-1) - x0.toInt64
set_option maxHeartbeats 4000000 in
set_option maxRecDepth 100000 in
theorem c_Fault_of {l : Launch} {D : va_G} {g : Nat → Nat}  (x0 : Int32)   : CT l D g y_Fault_of b_Fault_of 1 (some .long) (rD 0) [.int x0] ([]) ([]) (Ql D (fun (r : Int64) (_ : Unit) => sp_Fault_of x0 = r) (fun _ => [])) := by
  refine CT.of rfl (Nat.le_of_ble_eq_true rfl) (fun p e s m below meth c A ls hx hb hr hml hts hown hlocks hA hP hK hD hF hS hl => ?_)
  have hl : lv_has ls 1 [(0, .int x0)] := hl
  refine lv_ldc2 (v := (-1)) hx hb hown (hts _ k_267) d_Fault_of_0 ?_
  refine lv_iload_n hx hb d_Fault_of_3 rfl (lv_at hl 0 rfl) ?_
  refine lv_i2l hx hb d_Fault_of_4 rfl ?_
  refine lv_lsub hx hb d_Fault_of_5 ?_
  exact rl () hx hb hr hlocks hP hD hS d_Fault_of_6 (by simp only [sp_Fault_of])
def sp_Fault_causeOf (x0 : Int64)  : Int32 :=
  ((-1) - x0).toInt32
set_option maxHeartbeats 4000000 in
set_option maxRecDepth 100000 in
theorem c_Fault_causeOf {l : Launch} {D : va_G} {g : Nat → Nat}  (x0 : Int64)   : CT l D g y_Fault_causeOf b_Fault_causeOf 2 (some .int) (rD 0) [.long x0] ([]) ([]) (Qi D (fun (r : Int32) (_ : Unit) => sp_Fault_causeOf x0 = r) (fun _ => [])) := by
  refine CT.of rfl (Nat.le_of_ble_eq_true rfl) (fun p e s m below meth c A ls hx hb hr hml hts hown hlocks hA hP hK hD hF hS hl => ?_)
  have hl : lv_has ls 2 [(0, .long x0)] := hl
  refine lv_ldc2 (v := (-1)) hx hb hown (hts _ k_267) d_Fault_causeOf_0 ?_
  refine lv_lload_n hx hb d_Fault_causeOf_3 rfl (lv_at hl 0 rfl) ?_
  refine lv_lsub hx hb d_Fault_causeOf_4 ?_
  refine lv_l2i hx hb d_Fault_causeOf_5 rfl ?_
  exact ri () hx hb hr hlocks hP hD hS d_Fault_causeOf_6 (by simp only [sp_Fault_causeOf])
def sp_Field_f3 (x0 : Int32)  : Int32 :=
  (ush x0 12) &&& 7
set_option maxHeartbeats 4000000 in
set_option maxRecDepth 100000 in
theorem c_Field_f3 {l : Launch} {D : va_G} {g : Nat → Nat}  (x0 : Int32)   : CT l D g y_Field_f3 b_Field_f3 1 (some .int) (rD 0) [.int x0] ([]) ([]) (Qi D (fun (r : Int32) (_ : Unit) => sp_Field_f3 x0 = r) (fun _ => [])) := by
  refine CT.of rfl (Nat.le_of_ble_eq_true rfl) (fun p e s m below meth c A ls hx hb hr hml hts hown hlocks hA hP hK hD hF hS hl => ?_)
  have hl : lv_has ls 1 [(0, .int x0)] := hl
  refine lv_iload_n hx hb d_Field_f3_0 rfl (lv_at hl 0 rfl) ?_
  refine lv_bipush (v := 12) hx hb d_Field_f3_1 rfl ?_
  refine lv_iushr (v := ush x0 12) hx hb d_Field_f3_3 rfl ?_
  refine lv_bipush (v := 7) hx hb d_Field_f3_4 rfl ?_
  refine lv_iand hx hb d_Field_f3_6 ?_
  exact ri () hx hb hr hlocks hP hD hS d_Field_f3_7 (by simp only [sp_Field_f3])
def sp_Field_rs1 (x0 : Int32)  : Int32 :=
  (ush x0 15) &&& 31
set_option maxHeartbeats 4000000 in
set_option maxRecDepth 100000 in
theorem c_Field_rs1 {l : Launch} {D : va_G} {g : Nat → Nat}  (x0 : Int32)   : CT l D g y_Field_rs1 b_Field_rs1 1 (some .int) (rD 0) [.int x0] ([]) ([]) (Qi D (fun (r : Int32) (_ : Unit) => sp_Field_rs1 x0 = r) (fun _ => [])) := by
  refine CT.of rfl (Nat.le_of_ble_eq_true rfl) (fun p e s m below meth c A ls hx hb hr hml hts hown hlocks hA hP hK hD hF hS hl => ?_)
  have hl : lv_has ls 1 [(0, .int x0)] := hl
  refine lv_iload_n hx hb d_Field_rs1_0 rfl (lv_at hl 0 rfl) ?_
  refine lv_bipush (v := 15) hx hb d_Field_rs1_1 rfl ?_
  refine lv_iushr (v := ush x0 15) hx hb d_Field_rs1_3 rfl ?_
  refine lv_bipush (v := 31) hx hb d_Field_rs1_4 rfl ?_
  refine lv_iand hx hb d_Field_rs1_6 ?_
  exact ri () hx hb hr hlocks hP hD hS d_Field_rs1_7 (by simp only [sp_Field_rs1])
def sp_Field_immediate (x0 : Int32)  : Int32 :=
  shr x0 20
set_option maxHeartbeats 4000000 in
set_option maxRecDepth 100000 in
theorem c_Field_immediate {l : Launch} {D : va_G} {g : Nat → Nat}  (x0 : Int32)   : CT l D g y_Field_immediate b_Field_immediate 1 (some .int) (rD 0) [.int x0] ([]) ([]) (Qi D (fun (r : Int32) (_ : Unit) => sp_Field_immediate x0 = r) (fun _ => [])) := by
  refine CT.of rfl (Nat.le_of_ble_eq_true rfl) (fun p e s m below meth c A ls hx hb hr hml hts hown hlocks hA hP hK hD hF hS hl => ?_)
  have hl : lv_has ls 1 [(0, .int x0)] := hl
  refine lv_iload_n hx hb d_Field_immediate_0 rfl (lv_at hl 0 rfl) ?_
  refine lv_bipush (v := 20) hx hb d_Field_immediate_1 rfl ?_
  refine y_ishr hx hb d_Field_immediate_3 ?_
  exact ri () hx hb hr hlocks hP hD hS d_Field_immediate_4 (by simp only [sp_Field_immediate])
def sp_Field_rd (x0 : Int32)  : Int32 :=
  (ush x0 7) &&& 31
set_option maxHeartbeats 4000000 in
set_option maxRecDepth 100000 in
theorem c_Field_rd {l : Launch} {D : va_G} {g : Nat → Nat}  (x0 : Int32)   : CT l D g y_Field_rd b_Field_rd 1 (some .int) (rD 0) [.int x0] ([]) ([]) (Qi D (fun (r : Int32) (_ : Unit) => sp_Field_rd x0 = r) (fun _ => [])) := by
  refine CT.of rfl (Nat.le_of_ble_eq_true rfl) (fun p e s m below meth c A ls hx hb hr hml hts hown hlocks hA hP hK hD hF hS hl => ?_)
  have hl : lv_has ls 1 [(0, .int x0)] := hl
  refine lv_iload_n hx hb d_Field_rd_0 rfl (lv_at hl 0 rfl) ?_
  refine lv_bipush (v := 7) hx hb d_Field_rd_1 rfl ?_
  refine lv_iushr (v := ush x0 7) hx hb d_Field_rd_3 rfl ?_
  refine lv_bipush (v := 31) hx hb d_Field_rd_4 rfl ?_
  refine lv_iand hx hb d_Field_rd_6 ?_
  exact ri () hx hb hr hlocks hP hD hS d_Field_rd_7 (by simp only [sp_Field_rd])
def sp_Field_f7 (x0 : Int32)  : Int32 :=
  ush x0 25
set_option maxHeartbeats 4000000 in
set_option maxRecDepth 100000 in
theorem c_Field_f7 {l : Launch} {D : va_G} {g : Nat → Nat}  (x0 : Int32)   : CT l D g y_Field_f7 b_Field_f7 1 (some .int) (rD 0) [.int x0] ([]) ([]) (Qi D (fun (r : Int32) (_ : Unit) => sp_Field_f7 x0 = r) (fun _ => [])) := by
  refine CT.of rfl (Nat.le_of_ble_eq_true rfl) (fun p e s m below meth c A ls hx hb hr hml hts hown hlocks hA hP hK hD hF hS hl => ?_)
  have hl : lv_has ls 1 [(0, .int x0)] := hl
  refine lv_iload_n hx hb d_Field_f7_0 rfl (lv_at hl 0 rfl) ?_
  refine lv_bipush (v := 25) hx hb d_Field_f7_1 rfl ?_
  refine lv_iushr (v := ush x0 25) hx hb d_Field_f7_3 rfl ?_
  exact ri () hx hb hr hlocks hP hD hS d_Field_f7_4 (by simp only [sp_Field_f7])
def sp_Field_rs2 (x0 : Int32)  : Int32 :=
  (ush x0 20) &&& 31
set_option maxHeartbeats 4000000 in
set_option maxRecDepth 100000 in
theorem c_Field_rs2 {l : Launch} {D : va_G} {g : Nat → Nat}  (x0 : Int32)   : CT l D g y_Field_rs2 b_Field_rs2 1 (some .int) (rD 0) [.int x0] ([]) ([]) (Qi D (fun (r : Int32) (_ : Unit) => sp_Field_rs2 x0 = r) (fun _ => [])) := by
  refine CT.of rfl (Nat.le_of_ble_eq_true rfl) (fun p e s m below meth c A ls hx hb hr hml hts hown hlocks hA hP hK hD hF hS hl => ?_)
  have hl : lv_has ls 1 [(0, .int x0)] := hl
  refine lv_iload_n hx hb d_Field_rs2_0 rfl (lv_at hl 0 rfl) ?_
  refine lv_bipush (v := 20) hx hb d_Field_rs2_1 rfl ?_
  refine lv_iushr (v := ush x0 20) hx hb d_Field_rs2_3 rfl ?_
  refine lv_bipush (v := 31) hx hb d_Field_rs2_4 rfl ?_
  refine lv_iand hx hb d_Field_rs2_6 ?_
  exact ri () hx hb hr hlocks hP hD hS d_Field_rs2_7 (by simp only [sp_Field_rs2])
theorem vp_rd (w : Int32) : vp_in (sp_Field_rd w) 32 := pk_andIn _ 5 (by decide) (by decide)
theorem vp_rs1 (w : Int32) : vp_in (sp_Field_rs1 w) 32 := pk_andIn _ 5 (by decide) (by decide)
theorem vp_rs2 (w : Int32) : vp_in (sp_Field_rs2 w) 32 := pk_andIn _ 5 (by decide) (by decide)
def sp_Alu_plain (x0 : Int32) (x1 : Int32) (x2 : Int32)  : Int32 :=
  if x0 = 0 then
    x1 + x2
  else
    if x0 = 1 then
      shl x1 (x2 &&& 31)
    else
      if x0 = 2 then
        if x2 ≤ x1 then
          0
        else
          1
      else
        if x0 = 3 then
          if (sp_Alu_below x1 x2) = 0 then
            0
          else
            1
        else
          if x0 = 4 then
            x1 ^^^ x2
          else
            if x0 = 5 then
              ush x1 (x2 &&& 31)
            else
              if x0 = 6 then
                x1 ||| x2
              else
                x1 &&& x2
set_option maxHeartbeats 4000000 in
set_option maxRecDepth 100000 in
theorem c_Alu_plain {l : Launch} {D : va_G} {g : Nat → Nat}  (x0 : Int32) (x1 : Int32) (x2 : Int32)   : CT l D g y_Alu_plain b_Alu_plain 3 (some .int) (rD 1) [.int x0, .int x1, .int x2] ([]) ([]) (Qi D (fun (r : Int32) (_ : Unit) => sp_Alu_plain x0 x1 x2 = r) (fun _ => [])) := by
  refine CT.of rfl (Nat.le_of_ble_eq_true rfl) (fun p e s m below meth c A ls hx hb hr hml hts hown hlocks hA hP hK hD hF hS hl => ?_)
  have hl : lv_has ls 3 [(0, .int x0), (1, .int x1), (2, .int x2)] := hl
  refine lv_iload_n hx hb d_Alu_plain_0 rfl (lv_at hl 0 rfl) ?_
  by_cases c_1 : x0 = 0
  · refine lv_tableIn (off := 43) (tgt := 44) hx hb d_Alu_plain_1 (by rw [c_1]; decide) (by rw [c_1]; decide) (by rw [c_1]; rfl) (by decide) ?_
    refine lv_iload_n hx hb d_Alu_plain_44 rfl (lv_at hl 1 rfl) ?_
    refine lv_iload_n hx hb d_Alu_plain_45 rfl (lv_at hl 2 rfl) ?_
    refine lv_iadd hx hb d_Alu_plain_46 ?_
    exact ri () hx hb hr hlocks hP hD hS d_Alu_plain_47 (by simp only [sp_Alu_plain, if_pos c_1])
  · by_cases c_2 : x0 = 1
    · refine lv_tableIn (off := 47) (tgt := 48) hx hb d_Alu_plain_1 (by rw [c_2]; decide) (by rw [c_2]; decide) (by rw [c_2]; rfl) (by decide) ?_
      refine lv_iload_n hx hb d_Alu_plain_48 rfl (lv_at hl 1 rfl) ?_
      refine lv_iload_n hx hb d_Alu_plain_49 rfl (lv_at hl 2 rfl) ?_
      refine lv_bipush (v := 31) hx hb d_Alu_plain_50 rfl ?_
      refine lv_iand hx hb d_Alu_plain_52 ?_
      refine y_ishl hx hb d_Alu_plain_53 ?_
      exact ri () hx hb hr hlocks hP hD hS d_Alu_plain_54 (by simp only [sp_Alu_plain, if_neg c_1, if_pos c_2])
    · by_cases c_3 : x0 = 2
      · refine lv_tableIn (off := 54) (tgt := 55) hx hb d_Alu_plain_1 (by rw [c_3]; decide) (by rw [c_3]; decide) (by rw [c_3]; rfl) (by decide) ?_
        refine lv_iload_n hx hb d_Alu_plain_55 rfl (lv_at hl 1 rfl) ?_
        refine lv_iload_n hx hb d_Alu_plain_56 rfl (lv_at hl 2 rfl) ?_
        refine lv_icmp_ge (tgt := 64) hx hb d_Alu_plain_57 (by decide) (fun c_4 => ?_) (fun c_4 => ?_)
        · refine lv_iconst (v := 0) hx hb d_Alu_plain_64 rfl ?_
          exact ri () hx hb hr hlocks hP hD hS d_Alu_plain_65 (by simp only [sp_Alu_plain, if_neg c_1, if_neg c_2, if_pos c_3, if_pos c_4])
        · refine lv_iconst (v := 1) hx hb d_Alu_plain_60 rfl ?_
          refine lv_goto (tgt := 65) hx hb d_Alu_plain_61 (by decide) ?_
          exact ri () hx hb hr hlocks hP hD hS d_Alu_plain_65 (by simp only [sp_Alu_plain, if_neg c_1, if_neg c_2, if_pos c_3, if_neg c_4])
      · by_cases c_5 : x0 = 3
        · refine lv_tableIn (off := 65) (tgt := 66) hx hb d_Alu_plain_1 (by rw [c_5]; decide) (by rw [c_5]; decide) (by rw [c_5]; rfl) (by decide) ?_
          refine lv_iload_n hx hb d_Alu_plain_66 rfl (lv_at hl 1 rfl) ?_
          refine lv_iload_n hx hb d_Alu_plain_67 rfl (lv_at hl 2 rfl) ?_
          refine xi (wr := []) (W2 := fun _ => []) (xS (rest := []) ⟨hx, hb, hml, hown, hts⟩ (c_Alu_below x1 x2) mw_Alu_below ms_Alu_below k_407 ⟨rfl, rfl, Nat.le_of_ble_eq_true rfl, Nat.le_of_ble_eq_true rfl⟩ hK hP hD hS hA hF [] [] rfl rfl rfl rfl hl.1 rfl (Nat.le_of_ble_eq_true rfl) d_Alu_plain_68 ⟨Nat.zero_le _, Nat.zero_le _⟩) hP hD hS hA [] [] [] rfl rfl rfl (by decide) (fun _ => rfl) rfl (fun r_6 _ H locs h_6 hP hD hS => ?_)
          obtain ⟨h_6, z_6⟩ := h_6
          subst h_6
          refine lv_if_eq (tgt := 78) hx hb d_Alu_plain_71 (by decide) (fun c_7 => ?_) (fun c_7 => ?_)
          · refine lv_iconst (v := 0) hx hb d_Alu_plain_78 rfl ?_
            exact ri () hx hb hr hlocks hP hD hS d_Alu_plain_79 (by simp only [sp_Alu_plain, if_neg c_1, if_neg c_2, if_neg c_3, if_pos c_5, if_pos c_7])
          · refine lv_iconst (v := 1) hx hb d_Alu_plain_74 rfl ?_
            refine lv_goto (tgt := 79) hx hb d_Alu_plain_75 (by decide) ?_
            exact ri () hx hb hr hlocks hP hD hS d_Alu_plain_79 (by simp only [sp_Alu_plain, if_neg c_1, if_neg c_2, if_neg c_3, if_pos c_5, if_neg c_7])
        · by_cases c_8 : x0 = 4
          · refine lv_tableIn (off := 79) (tgt := 80) hx hb d_Alu_plain_1 (by rw [c_8]; decide) (by rw [c_8]; decide) (by rw [c_8]; rfl) (by decide) ?_
            refine lv_iload_n hx hb d_Alu_plain_80 rfl (lv_at hl 1 rfl) ?_
            refine lv_iload_n hx hb d_Alu_plain_81 rfl (lv_at hl 2 rfl) ?_
            refine lv_ixor hx hb d_Alu_plain_82 ?_
            exact ri () hx hb hr hlocks hP hD hS d_Alu_plain_83 (by simp only [sp_Alu_plain, if_neg c_1, if_neg c_2, if_neg c_3, if_neg c_5, if_pos c_8])
          · by_cases c_9 : x0 = 5
            · refine lv_tableIn (off := 83) (tgt := 84) hx hb d_Alu_plain_1 (by rw [c_9]; decide) (by rw [c_9]; decide) (by rw [c_9]; rfl) (by decide) ?_
              refine lv_iload_n hx hb d_Alu_plain_84 rfl (lv_at hl 1 rfl) ?_
              refine lv_iload_n hx hb d_Alu_plain_85 rfl (lv_at hl 2 rfl) ?_
              refine lv_bipush (v := 31) hx hb d_Alu_plain_86 rfl ?_
              refine lv_iand hx hb d_Alu_plain_88 ?_
              refine lv_iushr (v := ush x1 (x2 &&& 31)) hx hb d_Alu_plain_89 rfl ?_
              exact ri () hx hb hr hlocks hP hD hS d_Alu_plain_90 (by simp only [sp_Alu_plain, if_neg c_1, if_neg c_2, if_neg c_3, if_neg c_5, if_neg c_8, if_pos c_9])
            · by_cases c_10 : x0 = 6
              · refine lv_tableIn (off := 90) (tgt := 91) hx hb d_Alu_plain_1 (by rw [c_10]; decide) (by rw [c_10]; decide) (by rw [c_10]; rfl) (by decide) ?_
                refine lv_iload_n hx hb d_Alu_plain_91 rfl (lv_at hl 1 rfl) ?_
                refine lv_iload_n hx hb d_Alu_plain_92 rfl (lv_at hl 2 rfl) ?_
                refine lv_ior hx hb d_Alu_plain_93 ?_
                exact ri () hx hb hr hlocks hP hD hS d_Alu_plain_94 (by simp only [sp_Alu_plain, if_neg c_1, if_neg c_2, if_neg c_3, if_neg c_5, if_neg c_8, if_neg c_9, if_pos c_10])
              · refine lv_tableOut (tgt := 95) hx hb d_Alu_plain_1 (by have := lv_neT (a := 0) c_1 rfl; have := lv_neT (a := 1) c_2 rfl; have := lv_neT (a := 2) c_3 rfl; have := lv_neT (a := 3) c_5 rfl; have := lv_neT (a := 4) c_8 rfl; have := lv_neT (a := 5) c_9 rfl; have := lv_neT (a := 6) c_10 rfl; omega) (by decide) ?_
                refine lv_iload_n hx hb d_Alu_plain_95 rfl (lv_at hl 1 rfl) ?_
                refine lv_iload_n hx hb d_Alu_plain_96 rfl (lv_at hl 2 rfl) ?_
                refine lv_iand hx hb d_Alu_plain_97 ?_
                exact ri () hx hb hr hlocks hP hD hS d_Alu_plain_98 (by simp only [sp_Alu_plain, if_neg c_1, if_neg c_2, if_neg c_3, if_neg c_5, if_neg c_8, if_neg c_9, if_neg c_10])
def sp_Field_upper (x0 : Int32)  : Int32 :=
  x0 &&& (-4096)
set_option maxHeartbeats 4000000 in
set_option maxRecDepth 100000 in
theorem c_Field_upper {l : Launch} {D : va_G} {g : Nat → Nat}  (x0 : Int32)   : CT l D g y_Field_upper b_Field_upper 1 (some .int) (rD 0) [.int x0] ([]) ([]) (Qi D (fun (r : Int32) (_ : Unit) => sp_Field_upper x0 = r) (fun _ => [])) := by
  refine CT.of rfl (Nat.le_of_ble_eq_true rfl) (fun p e s m below meth c A ls hx hb hr hml hts hown hlocks hA hP hK hD hF hS hl => ?_)
  have hl : lv_has ls 1 [(0, .int x0)] := hl
  refine lv_iload_n hx hb d_Field_upper_0 rfl (lv_at hl 0 rfl) ?_
  refine lv_sipush (v := (-4096)) hx hb d_Field_upper_1 rfl ?_
  refine lv_iand hx hb d_Field_upper_4 ?_
  exact ri () hx hb hr hlocks hP hD hS d_Field_upper_5 (by simp only [sp_Field_upper])
def sp_Field_storeOffset (x0 : Int32)  : Int32 :=
  (shl (shr x0 25) 5) ||| (sp_Field_rd x0)
set_option maxHeartbeats 4000000 in
set_option maxRecDepth 100000 in
theorem c_Field_storeOffset {l : Launch} {D : va_G} {g : Nat → Nat}  (x0 : Int32)   : CT l D g y_Field_storeOffset b_Field_storeOffset 1 (some .int) (rD 1) [.int x0] ([]) ([]) (Qi D (fun (r : Int32) (_ : Unit) => sp_Field_storeOffset x0 = r) (fun _ => [])) := by
  refine CT.of rfl (Nat.le_of_ble_eq_true rfl) (fun p e s m below meth c A ls hx hb hr hml hts hown hlocks hA hP hK hD hF hS hl => ?_)
  have hl : lv_has ls 1 [(0, .int x0)] := hl
  refine lv_iload_n hx hb d_Field_storeOffset_0 rfl (lv_at hl 0 rfl) ?_
  refine lv_bipush (v := 25) hx hb d_Field_storeOffset_1 rfl ?_
  refine y_ishr hx hb d_Field_storeOffset_3 ?_
  refine lv_iconst (v := 5) hx hb d_Field_storeOffset_4 rfl ?_
  refine y_ishl hx hb d_Field_storeOffset_5 ?_
  refine lv_iload_n hx hb d_Field_storeOffset_6 rfl (lv_at hl 0 rfl) ?_
  refine xi (wr := []) (W2 := fun _ => []) (xS (rest := [.int (shl (shr x0 25) 5)]) ⟨hx, hb, hml, hown, hts⟩ (c_Field_rd x0) mw_Field_rd ms_Field_rd k_418 ⟨rfl, rfl, Nat.le_of_ble_eq_true rfl, Nat.le_of_ble_eq_true rfl⟩ hK hP hD hS hA hF [] [] rfl rfl rfl rfl hl.1 rfl (Nat.le_of_ble_eq_true rfl) d_Field_storeOffset_7 ⟨Nat.zero_le _, Nat.zero_le _⟩) hP hD hS hA [] [] [] rfl rfl rfl (by decide) (fun _ => rfl) rfl (fun r_1 _ H locs h_1 hP hD hS => ?_)
  subst h_1
  refine lv_ior hx hb d_Field_storeOffset_10 ?_
  exact ri () hx hb hr hlocks hP hD hS d_Field_storeOffset_11 (by simp only [sp_Field_storeOffset])
def sp_Alu_changed (x0 : Int32) (x1 : Int32) (x2 : Int32)  : Int32 :=
  if x0 = 0 then
    x1 + x2
  else
    if x0 = 1 then
      x2
    else
      if x0 = 2 then
        x2
      else
        if x0 = 3 then
          x2
        else
          if x0 = 4 then
            x1 ^^^ x2
          else
            if x0 = 5 then
              x2
            else
              if x0 = 6 then
                x2
              else
                if x0 = 7 then
                  x2
                else
                  if x0 = 8 then
                    x1 ||| x2
                  else
                    if x0 = 9 then
                      x2
                    else
                      if x0 = 10 then
                        x2
                      else
                        if x0 = 11 then
                          x2
                        else
                          if x0 = 12 then
                            x1 &&& x2
                          else
                            if x0 = 13 then
                              x2
                            else
                              if x0 = 14 then
                                x2
                              else
                                if x0 = 15 then
                                  x2
                                else
                                  if x0 = 16 then
                                    if x2 < x1 then x2 else x1
                                  else
                                    if x0 = 17 then
                                      x2
                                    else
                                      if x0 = 18 then
                                        x2
                                      else
                                        if x0 = 19 then
                                          x2
                                        else
                                          if x0 = 20 then
                                            if x1 < x2 then x2 else x1
                                          else
                                            if x0 = 21 then
                                              x2
                                            else
                                              if x0 = 22 then
                                                x2
                                              else
                                                if x0 = 23 then
                                                  x2
                                                else
                                                  if x0 = 24 then
                                                    if (sp_Alu_below x1 x2) = 0 then
                                                      x2
                                                    else
                                                      x1
                                                  else
                                                    if x0 = 25 then
                                                      x2
                                                    else
                                                      if x0 = 26 then
                                                        x2
                                                      else
                                                        if x0 = 27 then
                                                          x2
                                                        else
                                                          if x0 = 28 then
                                                            if (sp_Alu_below x1 x2) = 0 then
                                                              x1
                                                            else
                                                              x2
                                                          else
                                                            x2
set_option maxHeartbeats 4000000 in
set_option maxRecDepth 100000 in
theorem c_Alu_changed {l : Launch} {D : va_G} {g : Nat → Nat}  (x0 : Int32) (x1 : Int32) (x2 : Int32)   : CT l D g y_Alu_changed b_Alu_changed 3 (some .int) (rD 1) [.int x0, .int x1, .int x2] ([]) ([]) (Qi D (fun (r : Int32) (_ : Unit) => sp_Alu_changed x0 x1 x2 = r) (fun _ => [])) := by
  refine CT.of rfl (Nat.le_of_ble_eq_true rfl) (fun p e s m below meth c A ls hx hb hr hml hts hown hlocks hA hP hK hD hF hS hl => ?_)
  have hl : lv_has ls 3 [(0, .int x0), (1, .int x1), (2, .int x2)] := hl
  refine lv_iload_n hx hb d_Alu_changed_0 rfl (lv_at hl 0 rfl) ?_
  by_cases c_1 : x0 = 0
  · refine lv_tableIn (off := 131) (tgt := 132) hx hb d_Alu_changed_1 (by rw [c_1]; decide) (by rw [c_1]; decide) (by rw [c_1]; rfl) (by decide) ?_
    refine lv_iload_n hx hb d_Alu_changed_132 rfl (lv_at hl 1 rfl) ?_
    refine lv_iload_n hx hb d_Alu_changed_133 rfl (lv_at hl 2 rfl) ?_
    refine lv_iadd hx hb d_Alu_changed_134 ?_
    exact ri () hx hb hr hlocks hP hD hS d_Alu_changed_135 (by simp only [sp_Alu_changed, if_pos c_1])
  · by_cases c_2 : x0 = 1
    · refine lv_tableIn (off := 187) (tgt := 188) hx hb d_Alu_changed_1 (by rw [c_2]; decide) (by rw [c_2]; decide) (by rw [c_2]; rfl) (by decide) ?_
      refine lv_iload_n hx hb d_Alu_changed_188 rfl (lv_at hl 2 rfl) ?_
      exact ri () hx hb hr hlocks hP hD hS d_Alu_changed_189 (by simp only [sp_Alu_changed, if_neg c_1, if_pos c_2])
    · by_cases c_3 : x0 = 2
      · refine lv_tableIn (off := 187) (tgt := 188) hx hb d_Alu_changed_1 (by rw [c_3]; decide) (by rw [c_3]; decide) (by rw [c_3]; rfl) (by decide) ?_
        refine lv_iload_n hx hb d_Alu_changed_188 rfl (lv_at hl 2 rfl) ?_
        exact ri () hx hb hr hlocks hP hD hS d_Alu_changed_189 (by simp only [sp_Alu_changed, if_neg c_1, if_neg c_2, if_pos c_3])
      · by_cases c_4 : x0 = 3
        · refine lv_tableIn (off := 187) (tgt := 188) hx hb d_Alu_changed_1 (by rw [c_4]; decide) (by rw [c_4]; decide) (by rw [c_4]; rfl) (by decide) ?_
          refine lv_iload_n hx hb d_Alu_changed_188 rfl (lv_at hl 2 rfl) ?_
          exact ri () hx hb hr hlocks hP hD hS d_Alu_changed_189 (by simp only [sp_Alu_changed, if_neg c_1, if_neg c_2, if_neg c_3, if_pos c_4])
        · by_cases c_5 : x0 = 4
          · refine lv_tableIn (off := 135) (tgt := 136) hx hb d_Alu_changed_1 (by rw [c_5]; decide) (by rw [c_5]; decide) (by rw [c_5]; rfl) (by decide) ?_
            refine lv_iload_n hx hb d_Alu_changed_136 rfl (lv_at hl 1 rfl) ?_
            refine lv_iload_n hx hb d_Alu_changed_137 rfl (lv_at hl 2 rfl) ?_
            refine lv_ixor hx hb d_Alu_changed_138 ?_
            exact ri () hx hb hr hlocks hP hD hS d_Alu_changed_139 (by simp only [sp_Alu_changed, if_neg c_1, if_neg c_2, if_neg c_3, if_neg c_4, if_pos c_5])
          · by_cases c_6 : x0 = 5
            · refine lv_tableIn (off := 187) (tgt := 188) hx hb d_Alu_changed_1 (by rw [c_6]; decide) (by rw [c_6]; decide) (by rw [c_6]; rfl) (by decide) ?_
              refine lv_iload_n hx hb d_Alu_changed_188 rfl (lv_at hl 2 rfl) ?_
              exact ri () hx hb hr hlocks hP hD hS d_Alu_changed_189 (by simp only [sp_Alu_changed, if_neg c_1, if_neg c_2, if_neg c_3, if_neg c_4, if_neg c_5, if_pos c_6])
            · by_cases c_7 : x0 = 6
              · refine lv_tableIn (off := 187) (tgt := 188) hx hb d_Alu_changed_1 (by rw [c_7]; decide) (by rw [c_7]; decide) (by rw [c_7]; rfl) (by decide) ?_
                refine lv_iload_n hx hb d_Alu_changed_188 rfl (lv_at hl 2 rfl) ?_
                exact ri () hx hb hr hlocks hP hD hS d_Alu_changed_189 (by simp only [sp_Alu_changed, if_neg c_1, if_neg c_2, if_neg c_3, if_neg c_4, if_neg c_5, if_neg c_6, if_pos c_7])
              · by_cases c_8 : x0 = 7
                · refine lv_tableIn (off := 187) (tgt := 188) hx hb d_Alu_changed_1 (by rw [c_8]; decide) (by rw [c_8]; decide) (by rw [c_8]; rfl) (by decide) ?_
                  refine lv_iload_n hx hb d_Alu_changed_188 rfl (lv_at hl 2 rfl) ?_
                  exact ri () hx hb hr hlocks hP hD hS d_Alu_changed_189 (by simp only [sp_Alu_changed, if_neg c_1, if_neg c_2, if_neg c_3, if_neg c_4, if_neg c_5, if_neg c_6, if_neg c_7, if_pos c_8])
                · by_cases c_9 : x0 = 8
                  · refine lv_tableIn (off := 139) (tgt := 140) hx hb d_Alu_changed_1 (by rw [c_9]; decide) (by rw [c_9]; decide) (by rw [c_9]; rfl) (by decide) ?_
                    refine lv_iload_n hx hb d_Alu_changed_140 rfl (lv_at hl 1 rfl) ?_
                    refine lv_iload_n hx hb d_Alu_changed_141 rfl (lv_at hl 2 rfl) ?_
                    refine lv_ior hx hb d_Alu_changed_142 ?_
                    exact ri () hx hb hr hlocks hP hD hS d_Alu_changed_143 (by simp only [sp_Alu_changed, if_neg c_1, if_neg c_2, if_neg c_3, if_neg c_4, if_neg c_5, if_neg c_6, if_neg c_7, if_neg c_8, if_pos c_9])
                  · by_cases c_10 : x0 = 9
                    · refine lv_tableIn (off := 187) (tgt := 188) hx hb d_Alu_changed_1 (by rw [c_10]; decide) (by rw [c_10]; decide) (by rw [c_10]; rfl) (by decide) ?_
                      refine lv_iload_n hx hb d_Alu_changed_188 rfl (lv_at hl 2 rfl) ?_
                      exact ri () hx hb hr hlocks hP hD hS d_Alu_changed_189 (by simp only [sp_Alu_changed, if_neg c_1, if_neg c_2, if_neg c_3, if_neg c_4, if_neg c_5, if_neg c_6, if_neg c_7, if_neg c_8, if_neg c_9, if_pos c_10])
                    · by_cases c_11 : x0 = 10
                      · refine lv_tableIn (off := 187) (tgt := 188) hx hb d_Alu_changed_1 (by rw [c_11]; decide) (by rw [c_11]; decide) (by rw [c_11]; rfl) (by decide) ?_
                        refine lv_iload_n hx hb d_Alu_changed_188 rfl (lv_at hl 2 rfl) ?_
                        exact ri () hx hb hr hlocks hP hD hS d_Alu_changed_189 (by simp only [sp_Alu_changed, if_neg c_1, if_neg c_2, if_neg c_3, if_neg c_4, if_neg c_5, if_neg c_6, if_neg c_7, if_neg c_8, if_neg c_9, if_neg c_10, if_pos c_11])
                      · by_cases c_12 : x0 = 11
                        · refine lv_tableIn (off := 187) (tgt := 188) hx hb d_Alu_changed_1 (by rw [c_12]; decide) (by rw [c_12]; decide) (by rw [c_12]; rfl) (by decide) ?_
                          refine lv_iload_n hx hb d_Alu_changed_188 rfl (lv_at hl 2 rfl) ?_
                          exact ri () hx hb hr hlocks hP hD hS d_Alu_changed_189 (by simp only [sp_Alu_changed, if_neg c_1, if_neg c_2, if_neg c_3, if_neg c_4, if_neg c_5, if_neg c_6, if_neg c_7, if_neg c_8, if_neg c_9, if_neg c_10, if_neg c_11, if_pos c_12])
                        · by_cases c_13 : x0 = 12
                          · refine lv_tableIn (off := 143) (tgt := 144) hx hb d_Alu_changed_1 (by rw [c_13]; decide) (by rw [c_13]; decide) (by rw [c_13]; rfl) (by decide) ?_
                            refine lv_iload_n hx hb d_Alu_changed_144 rfl (lv_at hl 1 rfl) ?_
                            refine lv_iload_n hx hb d_Alu_changed_145 rfl (lv_at hl 2 rfl) ?_
                            refine lv_iand hx hb d_Alu_changed_146 ?_
                            exact ri () hx hb hr hlocks hP hD hS d_Alu_changed_147 (by simp only [sp_Alu_changed, if_neg c_1, if_neg c_2, if_neg c_3, if_neg c_4, if_neg c_5, if_neg c_6, if_neg c_7, if_neg c_8, if_neg c_9, if_neg c_10, if_neg c_11, if_neg c_12, if_pos c_13])
                          · by_cases c_14 : x0 = 13
                            · refine lv_tableIn (off := 187) (tgt := 188) hx hb d_Alu_changed_1 (by rw [c_14]; decide) (by rw [c_14]; decide) (by rw [c_14]; rfl) (by decide) ?_
                              refine lv_iload_n hx hb d_Alu_changed_188 rfl (lv_at hl 2 rfl) ?_
                              exact ri () hx hb hr hlocks hP hD hS d_Alu_changed_189 (by simp only [sp_Alu_changed, if_neg c_1, if_neg c_2, if_neg c_3, if_neg c_4, if_neg c_5, if_neg c_6, if_neg c_7, if_neg c_8, if_neg c_9, if_neg c_10, if_neg c_11, if_neg c_12, if_neg c_13, if_pos c_14])
                            · by_cases c_15 : x0 = 14
                              · refine lv_tableIn (off := 187) (tgt := 188) hx hb d_Alu_changed_1 (by rw [c_15]; decide) (by rw [c_15]; decide) (by rw [c_15]; rfl) (by decide) ?_
                                refine lv_iload_n hx hb d_Alu_changed_188 rfl (lv_at hl 2 rfl) ?_
                                exact ri () hx hb hr hlocks hP hD hS d_Alu_changed_189 (by simp only [sp_Alu_changed, if_neg c_1, if_neg c_2, if_neg c_3, if_neg c_4, if_neg c_5, if_neg c_6, if_neg c_7, if_neg c_8, if_neg c_9, if_neg c_10, if_neg c_11, if_neg c_12, if_neg c_13, if_neg c_14, if_pos c_15])
                              · by_cases c_16 : x0 = 15
                                · refine lv_tableIn (off := 187) (tgt := 188) hx hb d_Alu_changed_1 (by rw [c_16]; decide) (by rw [c_16]; decide) (by rw [c_16]; rfl) (by decide) ?_
                                  refine lv_iload_n hx hb d_Alu_changed_188 rfl (lv_at hl 2 rfl) ?_
                                  exact ri () hx hb hr hlocks hP hD hS d_Alu_changed_189 (by simp only [sp_Alu_changed, if_neg c_1, if_neg c_2, if_neg c_3, if_neg c_4, if_neg c_5, if_neg c_6, if_neg c_7, if_neg c_8, if_neg c_9, if_neg c_10, if_neg c_11, if_neg c_12, if_neg c_13, if_neg c_14, if_neg c_15, if_pos c_16])
                                · by_cases c_17 : x0 = 16
                                  · refine lv_tableIn (off := 147) (tgt := 148) hx hb d_Alu_changed_1 (by rw [c_17]; decide) (by rw [c_17]; decide) (by rw [c_17]; rfl) (by decide) ?_
                                    refine lv_iload_n hx hb d_Alu_changed_148 rfl (lv_at hl 1 rfl) ?_
                                    refine lv_iload_n hx hb d_Alu_changed_149 rfl (lv_at hl 2 rfl) ?_
                                    refine va_mmin hx hb (hml.trans hl.1.symm) hown (hts _ k_457) (hts _ k_25) (hts _ k_3) (hts _ k_26) (Nat.le_of_ble_eq_true rfl) (Nat.le_of_ble_eq_true rfl) (Nat.zero_le _) (Nat.zero_le _) d_Alu_changed_150 ?_
                                    exact ri () hx hb hr hlocks hP hD hS d_Alu_changed_153 (by simp only [sp_Alu_changed, if_neg c_1, if_neg c_2, if_neg c_3, if_neg c_4, if_neg c_5, if_neg c_6, if_neg c_7, if_neg c_8, if_neg c_9, if_neg c_10, if_neg c_11, if_neg c_12, if_neg c_13, if_neg c_14, if_neg c_15, if_neg c_16, if_pos c_17])
                                  · by_cases c_18 : x0 = 17
                                    · refine lv_tableIn (off := 187) (tgt := 188) hx hb d_Alu_changed_1 (by rw [c_18]; decide) (by rw [c_18]; decide) (by rw [c_18]; rfl) (by decide) ?_
                                      refine lv_iload_n hx hb d_Alu_changed_188 rfl (lv_at hl 2 rfl) ?_
                                      exact ri () hx hb hr hlocks hP hD hS d_Alu_changed_189 (by simp only [sp_Alu_changed, if_neg c_1, if_neg c_2, if_neg c_3, if_neg c_4, if_neg c_5, if_neg c_6, if_neg c_7, if_neg c_8, if_neg c_9, if_neg c_10, if_neg c_11, if_neg c_12, if_neg c_13, if_neg c_14, if_neg c_15, if_neg c_16, if_neg c_17, if_pos c_18])
                                    · by_cases c_19 : x0 = 18
                                      · refine lv_tableIn (off := 187) (tgt := 188) hx hb d_Alu_changed_1 (by rw [c_19]; decide) (by rw [c_19]; decide) (by rw [c_19]; rfl) (by decide) ?_
                                        refine lv_iload_n hx hb d_Alu_changed_188 rfl (lv_at hl 2 rfl) ?_
                                        exact ri () hx hb hr hlocks hP hD hS d_Alu_changed_189 (by simp only [sp_Alu_changed, if_neg c_1, if_neg c_2, if_neg c_3, if_neg c_4, if_neg c_5, if_neg c_6, if_neg c_7, if_neg c_8, if_neg c_9, if_neg c_10, if_neg c_11, if_neg c_12, if_neg c_13, if_neg c_14, if_neg c_15, if_neg c_16, if_neg c_17, if_neg c_18, if_pos c_19])
                                      · by_cases c_20 : x0 = 19
                                        · refine lv_tableIn (off := 187) (tgt := 188) hx hb d_Alu_changed_1 (by rw [c_20]; decide) (by rw [c_20]; decide) (by rw [c_20]; rfl) (by decide) ?_
                                          refine lv_iload_n hx hb d_Alu_changed_188 rfl (lv_at hl 2 rfl) ?_
                                          exact ri () hx hb hr hlocks hP hD hS d_Alu_changed_189 (by simp only [sp_Alu_changed, if_neg c_1, if_neg c_2, if_neg c_3, if_neg c_4, if_neg c_5, if_neg c_6, if_neg c_7, if_neg c_8, if_neg c_9, if_neg c_10, if_neg c_11, if_neg c_12, if_neg c_13, if_neg c_14, if_neg c_15, if_neg c_16, if_neg c_17, if_neg c_18, if_neg c_19, if_pos c_20])
                                        · by_cases c_21 : x0 = 20
                                          · refine lv_tableIn (off := 153) (tgt := 154) hx hb d_Alu_changed_1 (by rw [c_21]; decide) (by rw [c_21]; decide) (by rw [c_21]; rfl) (by decide) ?_
                                            refine lv_iload_n hx hb d_Alu_changed_154 rfl (lv_at hl 1 rfl) ?_
                                            refine lv_iload_n hx hb d_Alu_changed_155 rfl (lv_at hl 2 rfl) ?_
                                            refine va_mmax hx hb (hml.trans hl.1.symm) hown (hts _ k_458) (hts _ k_28) (hts _ k_3) (hts _ k_29) (Nat.le_of_ble_eq_true rfl) (Nat.le_of_ble_eq_true rfl) (Nat.zero_le _) (Nat.zero_le _) d_Alu_changed_156 ?_
                                            exact ri () hx hb hr hlocks hP hD hS d_Alu_changed_159 (by simp only [sp_Alu_changed, if_neg c_1, if_neg c_2, if_neg c_3, if_neg c_4, if_neg c_5, if_neg c_6, if_neg c_7, if_neg c_8, if_neg c_9, if_neg c_10, if_neg c_11, if_neg c_12, if_neg c_13, if_neg c_14, if_neg c_15, if_neg c_16, if_neg c_17, if_neg c_18, if_neg c_19, if_neg c_20, if_pos c_21])
                                          · by_cases c_22 : x0 = 21
                                            · refine lv_tableIn (off := 187) (tgt := 188) hx hb d_Alu_changed_1 (by rw [c_22]; decide) (by rw [c_22]; decide) (by rw [c_22]; rfl) (by decide) ?_
                                              refine lv_iload_n hx hb d_Alu_changed_188 rfl (lv_at hl 2 rfl) ?_
                                              exact ri () hx hb hr hlocks hP hD hS d_Alu_changed_189 (by simp only [sp_Alu_changed, if_neg c_1, if_neg c_2, if_neg c_3, if_neg c_4, if_neg c_5, if_neg c_6, if_neg c_7, if_neg c_8, if_neg c_9, if_neg c_10, if_neg c_11, if_neg c_12, if_neg c_13, if_neg c_14, if_neg c_15, if_neg c_16, if_neg c_17, if_neg c_18, if_neg c_19, if_neg c_20, if_neg c_21, if_pos c_22])
                                            · by_cases c_23 : x0 = 22
                                              · refine lv_tableIn (off := 187) (tgt := 188) hx hb d_Alu_changed_1 (by rw [c_23]; decide) (by rw [c_23]; decide) (by rw [c_23]; rfl) (by decide) ?_
                                                refine lv_iload_n hx hb d_Alu_changed_188 rfl (lv_at hl 2 rfl) ?_
                                                exact ri () hx hb hr hlocks hP hD hS d_Alu_changed_189 (by simp only [sp_Alu_changed, if_neg c_1, if_neg c_2, if_neg c_3, if_neg c_4, if_neg c_5, if_neg c_6, if_neg c_7, if_neg c_8, if_neg c_9, if_neg c_10, if_neg c_11, if_neg c_12, if_neg c_13, if_neg c_14, if_neg c_15, if_neg c_16, if_neg c_17, if_neg c_18, if_neg c_19, if_neg c_20, if_neg c_21, if_neg c_22, if_pos c_23])
                                              · by_cases c_24 : x0 = 23
                                                · refine lv_tableIn (off := 187) (tgt := 188) hx hb d_Alu_changed_1 (by rw [c_24]; decide) (by rw [c_24]; decide) (by rw [c_24]; rfl) (by decide) ?_
                                                  refine lv_iload_n hx hb d_Alu_changed_188 rfl (lv_at hl 2 rfl) ?_
                                                  exact ri () hx hb hr hlocks hP hD hS d_Alu_changed_189 (by simp only [sp_Alu_changed, if_neg c_1, if_neg c_2, if_neg c_3, if_neg c_4, if_neg c_5, if_neg c_6, if_neg c_7, if_neg c_8, if_neg c_9, if_neg c_10, if_neg c_11, if_neg c_12, if_neg c_13, if_neg c_14, if_neg c_15, if_neg c_16, if_neg c_17, if_neg c_18, if_neg c_19, if_neg c_20, if_neg c_21, if_neg c_22, if_neg c_23, if_pos c_24])
                                                · by_cases c_25 : x0 = 24
                                                  · refine lv_tableIn (off := 159) (tgt := 160) hx hb d_Alu_changed_1 (by rw [c_25]; decide) (by rw [c_25]; decide) (by rw [c_25]; rfl) (by decide) ?_
                                                    refine lv_iload_n hx hb d_Alu_changed_160 rfl (lv_at hl 1 rfl) ?_
                                                    refine lv_iload_n hx hb d_Alu_changed_161 rfl (lv_at hl 2 rfl) ?_
                                                    refine xi (wr := []) (W2 := fun _ => []) (xS (rest := []) ⟨hx, hb, hml, hown, hts⟩ (c_Alu_below x1 x2) mw_Alu_below ms_Alu_below k_407 ⟨rfl, rfl, Nat.le_of_ble_eq_true rfl, Nat.le_of_ble_eq_true rfl⟩ hK hP hD hS hA hF [] [] rfl rfl rfl rfl hl.1 rfl (Nat.le_of_ble_eq_true rfl) d_Alu_changed_162 ⟨Nat.zero_le _, Nat.zero_le _⟩) hP hD hS hA [] [] [] rfl rfl rfl (by decide) (fun _ => rfl) rfl (fun r_26 _ H locs h_26 hP hD hS => ?_)
                                                    obtain ⟨h_26, z_26⟩ := h_26
                                                    subst h_26
                                                    refine lv_if_eq (tgt := 172) hx hb d_Alu_changed_165 (by decide) (fun c_27 => ?_) (fun c_27 => ?_)
                                                    · refine lv_iload_n hx hb d_Alu_changed_172 rfl (lv_at hl 2 rfl) ?_
                                                      exact ri () hx hb hr hlocks hP hD hS d_Alu_changed_173 (by simp only [sp_Alu_changed, if_neg c_1, if_neg c_2, if_neg c_3, if_neg c_4, if_neg c_5, if_neg c_6, if_neg c_7, if_neg c_8, if_neg c_9, if_neg c_10, if_neg c_11, if_neg c_12, if_neg c_13, if_neg c_14, if_neg c_15, if_neg c_16, if_neg c_17, if_neg c_18, if_neg c_19, if_neg c_20, if_neg c_21, if_neg c_22, if_neg c_23, if_neg c_24, if_pos c_25, if_pos c_27])
                                                    · refine lv_iload_n hx hb d_Alu_changed_168 rfl (lv_at hl 1 rfl) ?_
                                                      refine lv_goto (tgt := 173) hx hb d_Alu_changed_169 (by decide) ?_
                                                      exact ri () hx hb hr hlocks hP hD hS d_Alu_changed_173 (by simp only [sp_Alu_changed, if_neg c_1, if_neg c_2, if_neg c_3, if_neg c_4, if_neg c_5, if_neg c_6, if_neg c_7, if_neg c_8, if_neg c_9, if_neg c_10, if_neg c_11, if_neg c_12, if_neg c_13, if_neg c_14, if_neg c_15, if_neg c_16, if_neg c_17, if_neg c_18, if_neg c_19, if_neg c_20, if_neg c_21, if_neg c_22, if_neg c_23, if_neg c_24, if_pos c_25, if_neg c_27])
                                                  · by_cases c_28 : x0 = 25
                                                    · refine lv_tableIn (off := 187) (tgt := 188) hx hb d_Alu_changed_1 (by rw [c_28]; decide) (by rw [c_28]; decide) (by rw [c_28]; rfl) (by decide) ?_
                                                      refine lv_iload_n hx hb d_Alu_changed_188 rfl (lv_at hl 2 rfl) ?_
                                                      exact ri () hx hb hr hlocks hP hD hS d_Alu_changed_189 (by simp only [sp_Alu_changed, if_neg c_1, if_neg c_2, if_neg c_3, if_neg c_4, if_neg c_5, if_neg c_6, if_neg c_7, if_neg c_8, if_neg c_9, if_neg c_10, if_neg c_11, if_neg c_12, if_neg c_13, if_neg c_14, if_neg c_15, if_neg c_16, if_neg c_17, if_neg c_18, if_neg c_19, if_neg c_20, if_neg c_21, if_neg c_22, if_neg c_23, if_neg c_24, if_neg c_25, if_pos c_28])
                                                    · by_cases c_29 : x0 = 26
                                                      · refine lv_tableIn (off := 187) (tgt := 188) hx hb d_Alu_changed_1 (by rw [c_29]; decide) (by rw [c_29]; decide) (by rw [c_29]; rfl) (by decide) ?_
                                                        refine lv_iload_n hx hb d_Alu_changed_188 rfl (lv_at hl 2 rfl) ?_
                                                        exact ri () hx hb hr hlocks hP hD hS d_Alu_changed_189 (by simp only [sp_Alu_changed, if_neg c_1, if_neg c_2, if_neg c_3, if_neg c_4, if_neg c_5, if_neg c_6, if_neg c_7, if_neg c_8, if_neg c_9, if_neg c_10, if_neg c_11, if_neg c_12, if_neg c_13, if_neg c_14, if_neg c_15, if_neg c_16, if_neg c_17, if_neg c_18, if_neg c_19, if_neg c_20, if_neg c_21, if_neg c_22, if_neg c_23, if_neg c_24, if_neg c_25, if_neg c_28, if_pos c_29])
                                                      · by_cases c_30 : x0 = 27
                                                        · refine lv_tableIn (off := 187) (tgt := 188) hx hb d_Alu_changed_1 (by rw [c_30]; decide) (by rw [c_30]; decide) (by rw [c_30]; rfl) (by decide) ?_
                                                          refine lv_iload_n hx hb d_Alu_changed_188 rfl (lv_at hl 2 rfl) ?_
                                                          exact ri () hx hb hr hlocks hP hD hS d_Alu_changed_189 (by simp only [sp_Alu_changed, if_neg c_1, if_neg c_2, if_neg c_3, if_neg c_4, if_neg c_5, if_neg c_6, if_neg c_7, if_neg c_8, if_neg c_9, if_neg c_10, if_neg c_11, if_neg c_12, if_neg c_13, if_neg c_14, if_neg c_15, if_neg c_16, if_neg c_17, if_neg c_18, if_neg c_19, if_neg c_20, if_neg c_21, if_neg c_22, if_neg c_23, if_neg c_24, if_neg c_25, if_neg c_28, if_neg c_29, if_pos c_30])
                                                        · by_cases c_31 : x0 = 28
                                                          · refine lv_tableIn (off := 173) (tgt := 174) hx hb d_Alu_changed_1 (by rw [c_31]; decide) (by rw [c_31]; decide) (by rw [c_31]; rfl) (by decide) ?_
                                                            refine lv_iload_n hx hb d_Alu_changed_174 rfl (lv_at hl 1 rfl) ?_
                                                            refine lv_iload_n hx hb d_Alu_changed_175 rfl (lv_at hl 2 rfl) ?_
                                                            refine xi (wr := []) (W2 := fun _ => []) (xS (rest := []) ⟨hx, hb, hml, hown, hts⟩ (c_Alu_below x1 x2) mw_Alu_below ms_Alu_below k_407 ⟨rfl, rfl, Nat.le_of_ble_eq_true rfl, Nat.le_of_ble_eq_true rfl⟩ hK hP hD hS hA hF [] [] rfl rfl rfl rfl hl.1 rfl (Nat.le_of_ble_eq_true rfl) d_Alu_changed_176 ⟨Nat.zero_le _, Nat.zero_le _⟩) hP hD hS hA [] [] [] rfl rfl rfl (by decide) (fun _ => rfl) rfl (fun r_32 _ H locs h_32 hP hD hS => ?_)
                                                            obtain ⟨h_32, z_32⟩ := h_32
                                                            subst h_32
                                                            refine lv_if_eq (tgt := 186) hx hb d_Alu_changed_179 (by decide) (fun c_33 => ?_) (fun c_33 => ?_)
                                                            · refine lv_iload_n hx hb d_Alu_changed_186 rfl (lv_at hl 1 rfl) ?_
                                                              exact ri () hx hb hr hlocks hP hD hS d_Alu_changed_187 (by simp only [sp_Alu_changed, if_neg c_1, if_neg c_2, if_neg c_3, if_neg c_4, if_neg c_5, if_neg c_6, if_neg c_7, if_neg c_8, if_neg c_9, if_neg c_10, if_neg c_11, if_neg c_12, if_neg c_13, if_neg c_14, if_neg c_15, if_neg c_16, if_neg c_17, if_neg c_18, if_neg c_19, if_neg c_20, if_neg c_21, if_neg c_22, if_neg c_23, if_neg c_24, if_neg c_25, if_neg c_28, if_neg c_29, if_neg c_30, if_pos c_31, if_pos c_33])
                                                            · refine lv_iload_n hx hb d_Alu_changed_182 rfl (lv_at hl 2 rfl) ?_
                                                              refine lv_goto (tgt := 187) hx hb d_Alu_changed_183 (by decide) ?_
                                                              exact ri () hx hb hr hlocks hP hD hS d_Alu_changed_187 (by simp only [sp_Alu_changed, if_neg c_1, if_neg c_2, if_neg c_3, if_neg c_4, if_neg c_5, if_neg c_6, if_neg c_7, if_neg c_8, if_neg c_9, if_neg c_10, if_neg c_11, if_neg c_12, if_neg c_13, if_neg c_14, if_neg c_15, if_neg c_16, if_neg c_17, if_neg c_18, if_neg c_19, if_neg c_20, if_neg c_21, if_neg c_22, if_neg c_23, if_neg c_24, if_neg c_25, if_neg c_28, if_neg c_29, if_neg c_30, if_pos c_31, if_neg c_33])
                                                          · refine lv_tableOut (tgt := 188) hx hb d_Alu_changed_1 (by have := lv_neT (a := 0) c_1 rfl; have := lv_neT (a := 1) c_2 rfl; have := lv_neT (a := 2) c_3 rfl; have := lv_neT (a := 3) c_4 rfl; have := lv_neT (a := 4) c_5 rfl; have := lv_neT (a := 5) c_6 rfl; have := lv_neT (a := 6) c_7 rfl; have := lv_neT (a := 7) c_8 rfl; have := lv_neT (a := 8) c_9 rfl; have := lv_neT (a := 9) c_10 rfl; have := lv_neT (a := 10) c_11 rfl; have := lv_neT (a := 11) c_12 rfl; have := lv_neT (a := 12) c_13 rfl; have := lv_neT (a := 13) c_14 rfl; have := lv_neT (a := 14) c_15 rfl; have := lv_neT (a := 15) c_16 rfl; have := lv_neT (a := 16) c_17 rfl; have := lv_neT (a := 17) c_18 rfl; have := lv_neT (a := 18) c_19 rfl; have := lv_neT (a := 19) c_20 rfl; have := lv_neT (a := 20) c_21 rfl; have := lv_neT (a := 21) c_22 rfl; have := lv_neT (a := 22) c_23 rfl; have := lv_neT (a := 23) c_24 rfl; have := lv_neT (a := 24) c_25 rfl; have := lv_neT (a := 25) c_28 rfl; have := lv_neT (a := 26) c_29 rfl; have := lv_neT (a := 27) c_30 rfl; have := lv_neT (a := 28) c_31 rfl; omega) (by decide) ?_
                                                            refine lv_iload_n hx hb d_Alu_changed_188 rfl (lv_at hl 2 rfl) ?_
                                                            exact ri () hx hb hr hlocks hP hD hS d_Alu_changed_189 (by simp only [sp_Alu_changed, if_neg c_1, if_neg c_2, if_neg c_3, if_neg c_4, if_neg c_5, if_neg c_6, if_neg c_7, if_neg c_8, if_neg c_9, if_neg c_10, if_neg c_11, if_neg c_12, if_neg c_13, if_neg c_14, if_neg c_15, if_neg c_16, if_neg c_17, if_neg c_18, if_neg c_19, if_neg c_20, if_neg c_21, if_neg c_22, if_neg c_23, if_neg c_24, if_neg c_25, if_neg c_28, if_neg c_29, if_neg c_30, if_neg c_31])
def sp_Alu_multiplied (x0 : Int32) (x1 : Int32) (x2 : Int32)  : Int32 :=
  if x0 = 1 then
    (lshr (x1.toInt64 * x2.toInt64) 32).toInt32
  else
    if x0 = 2 then
      (lshr (x1.toInt64 * (x2.toInt64 &&& 4294967295)) 32).toInt32
    else
      if x0 = 3 then
        (lshr ((x1.toInt64 &&& 4294967295) * (x2.toInt64 &&& 4294967295)) 32).toInt32
      else
        x1 * x2
set_option maxHeartbeats 4000000 in
set_option maxRecDepth 100000 in
theorem c_Alu_multiplied {l : Launch} {D : va_G} {g : Nat → Nat}  (x0 : Int32) (x1 : Int32) (x2 : Int32)   : CT l D g y_Alu_multiplied b_Alu_multiplied 3 (some .int) (rD 0) [.int x0, .int x1, .int x2] ([]) ([]) (Qi D (fun (r : Int32) (_ : Unit) => sp_Alu_multiplied x0 x1 x2 = r) (fun _ => [])) := by
  refine CT.of rfl (Nat.le_of_ble_eq_true rfl) (fun p e s m below meth c A ls hx hb hr hml hts hown hlocks hA hP hK hD hF hS hl => ?_)
  have hl : lv_has ls 3 [(0, .int x0), (1, .int x1), (2, .int x2)] := hl
  refine lv_iload_n hx hb d_Alu_multiplied_0 rfl (lv_at hl 0 rfl) ?_
  by_cases c_1 : x0 = 1
  · refine lv_tableIn (off := 27) (tgt := 28) hx hb d_Alu_multiplied_1 (by rw [c_1]; decide) (by rw [c_1]; decide) (by rw [c_1]; rfl) (by decide) ?_
    refine lv_iload_n hx hb d_Alu_multiplied_28 rfl (lv_at hl 1 rfl) ?_
    refine lv_i2l hx hb d_Alu_multiplied_29 rfl ?_
    refine lv_iload_n hx hb d_Alu_multiplied_30 rfl (lv_at hl 2 rfl) ?_
    refine lv_i2l hx hb d_Alu_multiplied_31 rfl ?_
    refine lv_lmul hx hb d_Alu_multiplied_32 ?_
    refine lv_bipush (v := 32) hx hb d_Alu_multiplied_33 rfl ?_
    refine lv_lshr (v := lshr (x1.toInt64 * x2.toInt64) 32) hx hb d_Alu_multiplied_35 rfl ?_
    refine lv_l2i hx hb d_Alu_multiplied_36 rfl ?_
    exact ri () hx hb hr hlocks hP hD hS d_Alu_multiplied_37 (by simp only [sp_Alu_multiplied, if_pos c_1])
  · by_cases c_2 : x0 = 2
    · refine lv_tableIn (off := 37) (tgt := 38) hx hb d_Alu_multiplied_1 (by rw [c_2]; decide) (by rw [c_2]; decide) (by rw [c_2]; rfl) (by decide) ?_
      refine lv_iload_n hx hb d_Alu_multiplied_38 rfl (lv_at hl 1 rfl) ?_
      refine lv_i2l hx hb d_Alu_multiplied_39 rfl ?_
      refine lv_iload_n hx hb d_Alu_multiplied_40 rfl (lv_at hl 2 rfl) ?_
      refine lv_i2l hx hb d_Alu_multiplied_41 rfl ?_
      refine lv_ldc2 (v := 4294967295) hx hb hown (hts _ k_466) d_Alu_multiplied_42 ?_
      refine lv_land hx hb d_Alu_multiplied_45 ?_
      refine lv_lmul hx hb d_Alu_multiplied_46 ?_
      refine lv_bipush (v := 32) hx hb d_Alu_multiplied_47 rfl ?_
      refine lv_lshr (v := lshr (x1.toInt64 * (x2.toInt64 &&& 4294967295)) 32) hx hb d_Alu_multiplied_49 rfl ?_
      refine lv_l2i hx hb d_Alu_multiplied_50 rfl ?_
      exact ri () hx hb hr hlocks hP hD hS d_Alu_multiplied_51 (by simp only [sp_Alu_multiplied, if_neg c_1, if_pos c_2])
    · by_cases c_3 : x0 = 3
      · refine lv_tableIn (off := 51) (tgt := 52) hx hb d_Alu_multiplied_1 (by rw [c_3]; decide) (by rw [c_3]; decide) (by rw [c_3]; rfl) (by decide) ?_
        refine lv_iload_n hx hb d_Alu_multiplied_52 rfl (lv_at hl 1 rfl) ?_
        refine lv_i2l hx hb d_Alu_multiplied_53 rfl ?_
        refine lv_ldc2 (v := 4294967295) hx hb hown (hts _ k_466) d_Alu_multiplied_54 ?_
        refine lv_land hx hb d_Alu_multiplied_57 ?_
        refine lv_iload_n hx hb d_Alu_multiplied_58 rfl (lv_at hl 2 rfl) ?_
        refine lv_i2l hx hb d_Alu_multiplied_59 rfl ?_
        refine lv_ldc2 (v := 4294967295) hx hb hown (hts _ k_466) d_Alu_multiplied_60 ?_
        refine lv_land hx hb d_Alu_multiplied_63 ?_
        refine lv_lmul hx hb d_Alu_multiplied_64 ?_
        refine lv_bipush (v := 32) hx hb d_Alu_multiplied_65 rfl ?_
        refine lv_lshr (v := lshr ((x1.toInt64 &&& 4294967295) * (x2.toInt64 &&& 4294967295)) 32) hx hb d_Alu_multiplied_67 rfl ?_
        refine lv_l2i hx hb d_Alu_multiplied_68 rfl ?_
        exact ri () hx hb hr hlocks hP hD hS d_Alu_multiplied_69 (by simp only [sp_Alu_multiplied, if_neg c_1, if_neg c_2, if_pos c_3])
      · refine lv_tableOut (tgt := 70) hx hb d_Alu_multiplied_1 (by have := lv_neT (a := 1) c_1 rfl; have := lv_neT (a := 2) c_2 rfl; have := lv_neT (a := 3) c_3 rfl; omega) (by decide) ?_
        refine lv_iload_n hx hb d_Alu_multiplied_70 rfl (lv_at hl 1 rfl) ?_
        refine lv_iload_n hx hb d_Alu_multiplied_71 rfl (lv_at hl 2 rfl) ?_
        refine lv_imul hx hb d_Alu_multiplied_72 ?_
        exact ri () hx hb hr hlocks hP hD hS d_Alu_multiplied_73 (by simp only [sp_Alu_multiplied, if_neg c_1, if_neg c_2, if_neg c_3])
def sp_Alu_divided (x0 : Int32) (x1 : Int32) (x2 : Int32)  : Int32 :=
  if x2 = 0 then
    if 6 ≤ x0 then
      x1
    else
      (-1)
  else
    if x0 = 4 then
      x1 / x2
    else
      if x0 = 5 then
        ((x1.toInt64 &&& 4294967295) / (x2.toInt64 &&& 4294967295)).toInt32
      else
        if x0 = 6 then
          x1 - x1 / x2 * x2
        else
          ((x1.toInt64 &&& 4294967295) - (x1.toInt64 &&& 4294967295) / (x2.toInt64 &&& 4294967295) * (x2.toInt64 &&& 4294967295)).toInt32
set_option maxHeartbeats 4000000 in
set_option maxRecDepth 100000 in
theorem c_Alu_divided {l : Launch} {D : va_G} {g : Nat → Nat}  (x0 : Int32) (x1 : Int32) (x2 : Int32)   : CT l D g y_Alu_divided b_Alu_divided 3 (some .int) (rD 0) [.int x0, .int x1, .int x2] ([]) ([]) (Qi D (fun (r : Int32) (_ : Unit) => sp_Alu_divided x0 x1 x2 = r) (fun _ => [])) := by
  refine CT.of rfl (Nat.le_of_ble_eq_true rfl) (fun p e s m below meth c A ls hx hb hr hml hts hown hlocks hA hP hK hD hF hS hl => ?_)
  have hl : lv_has ls 3 [(0, .int x0), (1, .int x1), (2, .int x2)] := hl
  refine lv_iload_n hx hb d_Alu_divided_0 rfl (lv_at hl 2 rfl) ?_
  refine lv_if_ne (tgt := 16) hx hb d_Alu_divided_1 (by decide) (fun c_1 => ?_) (fun c_1 => ?_)
  · refine lv_iload_n hx hb d_Alu_divided_16 rfl (lv_at hl 0 rfl) ?_
    by_cases c_2 : x0 = 4
    · refine lv_tableIn (off := 27) (tgt := 44) hx hb d_Alu_divided_17 (by rw [c_2]; decide) (by rw [c_2]; decide) (by rw [c_2]; rfl) (by decide) ?_
      refine lv_iload_n hx hb d_Alu_divided_44 rfl (lv_at hl 1 rfl) ?_
      refine lv_iload_n hx hb d_Alu_divided_45 rfl (lv_at hl 2 rfl) ?_
      refine lv_idiv hx hb d_Alu_divided_46 c_1 ?_
      exact ri () hx hb hr hlocks hP hD hS d_Alu_divided_47 (by simp only [sp_Alu_divided, if_neg c_1, if_pos c_2])
    · by_cases c_3 : x0 = 5
      · refine lv_tableIn (off := 31) (tgt := 48) hx hb d_Alu_divided_17 (by rw [c_3]; decide) (by rw [c_3]; decide) (by rw [c_3]; rfl) (by decide) ?_
        refine lv_iload_n hx hb d_Alu_divided_48 rfl (lv_at hl 1 rfl) ?_
        refine lv_i2l hx hb d_Alu_divided_49 rfl ?_
        refine lv_ldc2 (v := 4294967295) hx hb hown (hts _ k_466) d_Alu_divided_50 ?_
        refine lv_land hx hb d_Alu_divided_53 ?_
        refine lv_iload_n hx hb d_Alu_divided_54 rfl (lv_at hl 2 rfl) ?_
        refine lv_i2l hx hb d_Alu_divided_55 rfl ?_
        refine lv_ldc2 (v := 4294967295) hx hb hown (hts _ k_466) d_Alu_divided_56 ?_
        refine lv_land hx hb d_Alu_divided_59 ?_
        refine lv_ldiv hx hb d_Alu_divided_60 (lw_ne c_1) ?_
        refine lv_l2i hx hb d_Alu_divided_61 rfl ?_
        exact ri () hx hb hr hlocks hP hD hS d_Alu_divided_62 (by simp only [sp_Alu_divided, if_neg c_1, if_neg c_2, if_pos c_3])
      · by_cases c_4 : x0 = 6
        · refine lv_tableIn (off := 46) (tgt := 63) hx hb d_Alu_divided_17 (by rw [c_4]; decide) (by rw [c_4]; decide) (by rw [c_4]; rfl) (by decide) ?_
          refine lv_iload_n hx hb d_Alu_divided_63 rfl (lv_at hl 1 rfl) ?_
          refine lv_iload_n hx hb d_Alu_divided_64 rfl (lv_at hl 2 rfl) ?_
          refine lv_irem hx hb d_Alu_divided_65 c_1 ?_
          exact ri () hx hb hr hlocks hP hD hS d_Alu_divided_66 (by simp only [sp_Alu_divided, if_neg c_1, if_neg c_2, if_neg c_3, if_pos c_4])
        · refine lv_tableOut (tgt := 67) hx hb d_Alu_divided_17 (by have := lv_neT (a := 4) c_2 rfl; have := lv_neT (a := 5) c_3 rfl; have := lv_neT (a := 6) c_4 rfl; omega) (by decide) ?_
          refine lv_iload_n hx hb d_Alu_divided_67 rfl (lv_at hl 1 rfl) ?_
          refine lv_i2l hx hb d_Alu_divided_68 rfl ?_
          refine lv_ldc2 (v := 4294967295) hx hb hown (hts _ k_466) d_Alu_divided_69 ?_
          refine lv_land hx hb d_Alu_divided_72 ?_
          refine lv_iload_n hx hb d_Alu_divided_73 rfl (lv_at hl 2 rfl) ?_
          refine lv_i2l hx hb d_Alu_divided_74 rfl ?_
          refine lv_ldc2 (v := 4294967295) hx hb hown (hts _ k_466) d_Alu_divided_75 ?_
          refine lv_land hx hb d_Alu_divided_78 ?_
          refine lv_lrem hx hb d_Alu_divided_79 (lw_ne c_1) ?_
          refine lv_l2i hx hb d_Alu_divided_80 rfl ?_
          exact ri () hx hb hr hlocks hP hD hS d_Alu_divided_81 (by simp only [sp_Alu_divided, if_neg c_1, if_neg c_2, if_neg c_3, if_neg c_4])
  · refine lv_iload_n hx hb d_Alu_divided_4 rfl (lv_at hl 0 rfl) ?_
    refine lv_bipush (v := 6) hx hb d_Alu_divided_5 rfl ?_
    refine lv_icmp_ge (tgt := 14) hx hb d_Alu_divided_7 (by decide) (fun c_5 => ?_) (fun c_5 => ?_)
    · refine lv_iload_n hx hb d_Alu_divided_14 rfl (lv_at hl 1 rfl) ?_
      exact ri () hx hb hr hlocks hP hD hS d_Alu_divided_15 (by simp only [sp_Alu_divided, if_pos c_1, if_pos c_5])
    · refine lv_iconst (v := (-1)) hx hb d_Alu_divided_10 rfl ?_
      refine lv_goto (tgt := 15) hx hb d_Alu_divided_11 (by decide) ?_
      exact ri () hx hb hr hlocks hP hD hS d_Alu_divided_15 (by simp only [sp_Alu_divided, if_pos c_1, if_neg c_5])
def sp_Alu_branches (x0 : Int32) (x1 : Int32) (x2 : Int32)  : Int32 :=
  if x0 = 0 then
    if x1 = x2 then
      1
    else
      0
  else
    if x0 = 1 then
      if x1 = x2 then
        0
      else
        1
    else
      if x0 = 2 then
        if (sp_Alu_below x1 x2) = 0 then
          1
        else
          0
      else
        if x0 = 3 then
          if (sp_Alu_below x1 x2) = 0 then
            1
          else
            0
        else
          if x0 = 4 then
            if x2 ≤ x1 then
              0
            else
              1
          else
            if x0 = 5 then
              if x1 < x2 then
                0
              else
                1
            else
              if x0 = 6 then
                sp_Alu_below x1 x2
              else
                if (sp_Alu_below x1 x2) = 0 then
                  1
                else
                  0
set_option maxHeartbeats 4000000 in
set_option maxRecDepth 100000 in
theorem c_Alu_branches {l : Launch} {D : va_G} {g : Nat → Nat}  (x0 : Int32) (x1 : Int32) (x2 : Int32)   : CT l D g y_Alu_branches b_Alu_branches 3 (some .boolean) (rD 1) [.int x0, .int x1, .int x2] ([]) ([]) (Qi D (fun (r : Int32) (_ : Unit) => sp_Alu_branches x0 x1 x2 = r ∧ (r = 0 ∨ r = 1)) (fun _ => [])) := by
  refine CT.of rfl (Nat.le_of_ble_eq_true rfl) (fun p e s m below meth c A ls hx hb hr hml hts hown hlocks hA hP hK hD hF hS hl => ?_)
  have hl : lv_has ls 3 [(0, .int x0), (1, .int x1), (2, .int x2)] := hl
  refine lv_iload_n hx hb d_Alu_branches_0 rfl (lv_at hl 0 rfl) ?_
  by_cases c_1 : x0 = 0
  · refine lv_tableIn (off := 43) (tgt := 44) hx hb d_Alu_branches_1 (by rw [c_1]; decide) (by rw [c_1]; decide) (by rw [c_1]; rfl) (by decide) ?_
    refine lv_iload_n hx hb d_Alu_branches_44 rfl (lv_at hl 1 rfl) ?_
    refine lv_iload_n hx hb d_Alu_branches_45 rfl (lv_at hl 2 rfl) ?_
    refine lv_icmp_ne (tgt := 53) hx hb d_Alu_branches_46 (by decide) (fun c_2 => ?_) (fun c_2 => ?_)
    · refine lv_iconst (v := 0) hx hb d_Alu_branches_53 rfl ?_
      exact rz () hx hb hr hlocks rfl hP hD hS d_Alu_branches_54 ⟨by simp only [sp_Alu_branches, if_pos c_1, if_neg c_2], Or.inl rfl⟩
    · refine lv_iconst (v := 1) hx hb d_Alu_branches_49 rfl ?_
      refine lv_goto (tgt := 54) hx hb d_Alu_branches_50 (by decide) ?_
      exact rz () hx hb hr hlocks rfl hP hD hS d_Alu_branches_54 ⟨by simp only [sp_Alu_branches, if_pos c_1, if_pos c_2], Or.inr rfl⟩
  · by_cases c_3 : x0 = 1
    · refine lv_tableIn (off := 54) (tgt := 55) hx hb d_Alu_branches_1 (by rw [c_3]; decide) (by rw [c_3]; decide) (by rw [c_3]; rfl) (by decide) ?_
      refine lv_iload_n hx hb d_Alu_branches_55 rfl (lv_at hl 1 rfl) ?_
      refine lv_iload_n hx hb d_Alu_branches_56 rfl (lv_at hl 2 rfl) ?_
      refine lv_icmp_eq (tgt := 64) hx hb d_Alu_branches_57 (by decide) (fun c_4 => ?_) (fun c_4 => ?_)
      · refine lv_iconst (v := 0) hx hb d_Alu_branches_64 rfl ?_
        exact rz () hx hb hr hlocks rfl hP hD hS d_Alu_branches_65 ⟨by simp only [sp_Alu_branches, if_neg c_1, if_pos c_3, if_pos c_4], Or.inl rfl⟩
      · refine lv_iconst (v := 1) hx hb d_Alu_branches_60 rfl ?_
        refine lv_goto (tgt := 65) hx hb d_Alu_branches_61 (by decide) ?_
        exact rz () hx hb hr hlocks rfl hP hD hS d_Alu_branches_65 ⟨by simp only [sp_Alu_branches, if_neg c_1, if_pos c_3, if_neg c_4], Or.inr rfl⟩
    · by_cases c_5 : x0 = 2
      · refine lv_tableIn (off := 93) (tgt := 94) hx hb d_Alu_branches_1 (by rw [c_5]; decide) (by rw [c_5]; decide) (by rw [c_5]; rfl) (by decide) ?_
        refine lv_iload_n hx hb d_Alu_branches_94 rfl (lv_at hl 1 rfl) ?_
        refine lv_iload_n hx hb d_Alu_branches_95 rfl (lv_at hl 2 rfl) ?_
        refine xi (wr := []) (W2 := fun _ => []) (xS (rest := []) ⟨hx, hb, hml, hown, hts⟩ (c_Alu_below x1 x2) mw_Alu_below ms_Alu_below k_407 ⟨rfl, rfl, Nat.le_of_ble_eq_true rfl, Nat.le_of_ble_eq_true rfl⟩ hK hP hD hS hA hF [] [] rfl rfl rfl rfl hl.1 rfl (Nat.le_of_ble_eq_true rfl) d_Alu_branches_96 ⟨Nat.zero_le _, Nat.zero_le _⟩) hP hD hS hA [] [] [] rfl rfl rfl (by decide) (fun _ => rfl) rfl (fun r_6 _ H locs h_6 hP hD hS => ?_)
        obtain ⟨h_6, z_6⟩ := h_6
        subst h_6
        refine lv_if_ne (tgt := 106) hx hb d_Alu_branches_99 (by decide) (fun c_7 => ?_) (fun c_7 => ?_)
        · refine lv_iconst (v := 0) hx hb d_Alu_branches_106 rfl ?_
          exact rz () hx hb hr hlocks rfl hP hD hS d_Alu_branches_107 ⟨by simp only [sp_Alu_branches, if_neg c_1, if_neg c_3, if_pos c_5, if_neg c_7], Or.inl rfl⟩
        · refine lv_iconst (v := 1) hx hb d_Alu_branches_102 rfl ?_
          refine lv_goto (tgt := 107) hx hb d_Alu_branches_103 (by decide) ?_
          exact rz () hx hb hr hlocks rfl hP hD hS d_Alu_branches_107 ⟨by simp only [sp_Alu_branches, if_neg c_1, if_neg c_3, if_pos c_5, if_pos c_7], Or.inr rfl⟩
      · by_cases c_8 : x0 = 3
        · refine lv_tableIn (off := 93) (tgt := 94) hx hb d_Alu_branches_1 (by rw [c_8]; decide) (by rw [c_8]; decide) (by rw [c_8]; rfl) (by decide) ?_
          refine lv_iload_n hx hb d_Alu_branches_94 rfl (lv_at hl 1 rfl) ?_
          refine lv_iload_n hx hb d_Alu_branches_95 rfl (lv_at hl 2 rfl) ?_
          refine xi (wr := []) (W2 := fun _ => []) (xS (rest := []) ⟨hx, hb, hml, hown, hts⟩ (c_Alu_below x1 x2) mw_Alu_below ms_Alu_below k_407 ⟨rfl, rfl, Nat.le_of_ble_eq_true rfl, Nat.le_of_ble_eq_true rfl⟩ hK hP hD hS hA hF [] [] rfl rfl rfl rfl hl.1 rfl (Nat.le_of_ble_eq_true rfl) d_Alu_branches_96 ⟨Nat.zero_le _, Nat.zero_le _⟩) hP hD hS hA [] [] [] rfl rfl rfl (by decide) (fun _ => rfl) rfl (fun r_9 _ H locs h_9 hP hD hS => ?_)
          obtain ⟨h_9, z_9⟩ := h_9
          subst h_9
          refine lv_if_ne (tgt := 106) hx hb d_Alu_branches_99 (by decide) (fun c_10 => ?_) (fun c_10 => ?_)
          · refine lv_iconst (v := 0) hx hb d_Alu_branches_106 rfl ?_
            exact rz () hx hb hr hlocks rfl hP hD hS d_Alu_branches_107 ⟨by simp only [sp_Alu_branches, if_neg c_1, if_neg c_3, if_neg c_5, if_pos c_8, if_neg c_10], Or.inl rfl⟩
          · refine lv_iconst (v := 1) hx hb d_Alu_branches_102 rfl ?_
            refine lv_goto (tgt := 107) hx hb d_Alu_branches_103 (by decide) ?_
            exact rz () hx hb hr hlocks rfl hP hD hS d_Alu_branches_107 ⟨by simp only [sp_Alu_branches, if_neg c_1, if_neg c_3, if_neg c_5, if_pos c_8, if_pos c_10], Or.inr rfl⟩
        · by_cases c_11 : x0 = 4
          · refine lv_tableIn (off := 65) (tgt := 66) hx hb d_Alu_branches_1 (by rw [c_11]; decide) (by rw [c_11]; decide) (by rw [c_11]; rfl) (by decide) ?_
            refine lv_iload_n hx hb d_Alu_branches_66 rfl (lv_at hl 1 rfl) ?_
            refine lv_iload_n hx hb d_Alu_branches_67 rfl (lv_at hl 2 rfl) ?_
            refine lv_icmp_ge (tgt := 75) hx hb d_Alu_branches_68 (by decide) (fun c_12 => ?_) (fun c_12 => ?_)
            · refine lv_iconst (v := 0) hx hb d_Alu_branches_75 rfl ?_
              exact rz () hx hb hr hlocks rfl hP hD hS d_Alu_branches_76 ⟨by simp only [sp_Alu_branches, if_neg c_1, if_neg c_3, if_neg c_5, if_neg c_8, if_pos c_11, if_pos c_12], Or.inl rfl⟩
            · refine lv_iconst (v := 1) hx hb d_Alu_branches_71 rfl ?_
              refine lv_goto (tgt := 76) hx hb d_Alu_branches_72 (by decide) ?_
              exact rz () hx hb hr hlocks rfl hP hD hS d_Alu_branches_76 ⟨by simp only [sp_Alu_branches, if_neg c_1, if_neg c_3, if_neg c_5, if_neg c_8, if_pos c_11, if_neg c_12], Or.inr rfl⟩
          · by_cases c_13 : x0 = 5
            · refine lv_tableIn (off := 76) (tgt := 77) hx hb d_Alu_branches_1 (by rw [c_13]; decide) (by rw [c_13]; decide) (by rw [c_13]; rfl) (by decide) ?_
              refine lv_iload_n hx hb d_Alu_branches_77 rfl (lv_at hl 1 rfl) ?_
              refine lv_iload_n hx hb d_Alu_branches_78 rfl (lv_at hl 2 rfl) ?_
              refine lv_icmp_lt (tgt := 86) hx hb d_Alu_branches_79 (by decide) (fun c_14 => ?_) (fun c_14 => ?_)
              · refine lv_iconst (v := 0) hx hb d_Alu_branches_86 rfl ?_
                exact rz () hx hb hr hlocks rfl hP hD hS d_Alu_branches_87 ⟨by simp only [sp_Alu_branches, if_neg c_1, if_neg c_3, if_neg c_5, if_neg c_8, if_neg c_11, if_pos c_13, if_pos c_14], Or.inl rfl⟩
              · refine lv_iconst (v := 1) hx hb d_Alu_branches_82 rfl ?_
                refine lv_goto (tgt := 87) hx hb d_Alu_branches_83 (by decide) ?_
                exact rz () hx hb hr hlocks rfl hP hD hS d_Alu_branches_87 ⟨by simp only [sp_Alu_branches, if_neg c_1, if_neg c_3, if_neg c_5, if_neg c_8, if_neg c_11, if_pos c_13, if_neg c_14], Or.inr rfl⟩
            · by_cases c_15 : x0 = 6
              · refine lv_tableIn (off := 87) (tgt := 88) hx hb d_Alu_branches_1 (by rw [c_15]; decide) (by rw [c_15]; decide) (by rw [c_15]; rfl) (by decide) ?_
                refine lv_iload_n hx hb d_Alu_branches_88 rfl (lv_at hl 1 rfl) ?_
                refine lv_iload_n hx hb d_Alu_branches_89 rfl (lv_at hl 2 rfl) ?_
                refine xi (wr := []) (W2 := fun _ => []) (xS (rest := []) ⟨hx, hb, hml, hown, hts⟩ (c_Alu_below x1 x2) mw_Alu_below ms_Alu_below k_407 ⟨rfl, rfl, Nat.le_of_ble_eq_true rfl, Nat.le_of_ble_eq_true rfl⟩ hK hP hD hS hA hF [] [] rfl rfl rfl rfl hl.1 rfl (Nat.le_of_ble_eq_true rfl) d_Alu_branches_90 ⟨Nat.zero_le _, Nat.zero_le _⟩) hP hD hS hA [] [] [] rfl rfl rfl (by decide) (fun _ => rfl) rfl (fun r_16 _ H locs h_16 hP hD hS => ?_)
                obtain ⟨h_16, z_16⟩ := h_16
                subst h_16
                exact rz () hx hb hr hlocks (nz z_16) hP hD hS d_Alu_branches_93 ⟨by simp only [sp_Alu_branches, if_neg c_1, if_neg c_3, if_neg c_5, if_neg c_8, if_neg c_11, if_neg c_13, if_pos c_15], z_16⟩
              · refine lv_tableOut (tgt := 94) hx hb d_Alu_branches_1 (by have := lv_neT (a := 0) c_1 rfl; have := lv_neT (a := 1) c_3 rfl; have := lv_neT (a := 2) c_5 rfl; have := lv_neT (a := 3) c_8 rfl; have := lv_neT (a := 4) c_11 rfl; have := lv_neT (a := 5) c_13 rfl; have := lv_neT (a := 6) c_15 rfl; omega) (by decide) ?_
                refine lv_iload_n hx hb d_Alu_branches_94 rfl (lv_at hl 1 rfl) ?_
                refine lv_iload_n hx hb d_Alu_branches_95 rfl (lv_at hl 2 rfl) ?_
                refine xi (wr := []) (W2 := fun _ => []) (xS (rest := []) ⟨hx, hb, hml, hown, hts⟩ (c_Alu_below x1 x2) mw_Alu_below ms_Alu_below k_407 ⟨rfl, rfl, Nat.le_of_ble_eq_true rfl, Nat.le_of_ble_eq_true rfl⟩ hK hP hD hS hA hF [] [] rfl rfl rfl rfl hl.1 rfl (Nat.le_of_ble_eq_true rfl) d_Alu_branches_96 ⟨Nat.zero_le _, Nat.zero_le _⟩) hP hD hS hA [] [] [] rfl rfl rfl (by decide) (fun _ => rfl) rfl (fun r_17 _ H locs h_17 hP hD hS => ?_)
                obtain ⟨h_17, z_17⟩ := h_17
                subst h_17
                refine lv_if_ne (tgt := 106) hx hb d_Alu_branches_99 (by decide) (fun c_18 => ?_) (fun c_18 => ?_)
                · refine lv_iconst (v := 0) hx hb d_Alu_branches_106 rfl ?_
                  exact rz () hx hb hr hlocks rfl hP hD hS d_Alu_branches_107 ⟨by simp only [sp_Alu_branches, if_neg c_1, if_neg c_3, if_neg c_5, if_neg c_8, if_neg c_11, if_neg c_13, if_neg c_15, if_neg c_18], Or.inl rfl⟩
                · refine lv_iconst (v := 1) hx hb d_Alu_branches_102 rfl ?_
                  refine lv_goto (tgt := 107) hx hb d_Alu_branches_103 (by decide) ?_
                  exact rz () hx hb hr hlocks rfl hP hD hS d_Alu_branches_107 ⟨by simp only [sp_Alu_branches, if_neg c_1, if_neg c_3, if_neg c_5, if_neg c_8, if_neg c_11, if_neg c_13, if_neg c_15, if_pos c_18], Or.inr rfl⟩
def sp_Field_branchOffset (x0 : Int32)  : Int32 :=
  (((shl (shr x0 31) 12) ||| (shl ((ush x0 25) &&& 63) 5)) ||| (shl ((ush x0 8) &&& 15) 1)) ||| (shl ((ush x0 7) &&& 1) 11)
set_option maxHeartbeats 4000000 in
set_option maxRecDepth 100000 in
theorem c_Field_branchOffset {l : Launch} {D : va_G} {g : Nat → Nat}  (x0 : Int32)   : CT l D g y_Field_branchOffset b_Field_branchOffset 1 (some .int) (rD 0) [.int x0] ([]) ([]) (Qi D (fun (r : Int32) (_ : Unit) => sp_Field_branchOffset x0 = r) (fun _ => [])) := by
  refine CT.of rfl (Nat.le_of_ble_eq_true rfl) (fun p e s m below meth c A ls hx hb hr hml hts hown hlocks hA hP hK hD hF hS hl => ?_)
  have hl : lv_has ls 1 [(0, .int x0)] := hl
  refine lv_iload_n hx hb d_Field_branchOffset_0 rfl (lv_at hl 0 rfl) ?_
  refine lv_bipush (v := 31) hx hb d_Field_branchOffset_1 rfl ?_
  refine y_ishr hx hb d_Field_branchOffset_3 ?_
  refine lv_bipush (v := 12) hx hb d_Field_branchOffset_4 rfl ?_
  refine y_ishl hx hb d_Field_branchOffset_6 ?_
  refine lv_iload_n hx hb d_Field_branchOffset_7 rfl (lv_at hl 0 rfl) ?_
  refine lv_bipush (v := 25) hx hb d_Field_branchOffset_8 rfl ?_
  refine lv_iushr (v := ush x0 25) hx hb d_Field_branchOffset_10 rfl ?_
  refine lv_bipush (v := 63) hx hb d_Field_branchOffset_11 rfl ?_
  refine lv_iand hx hb d_Field_branchOffset_13 ?_
  refine lv_iconst (v := 5) hx hb d_Field_branchOffset_14 rfl ?_
  refine y_ishl hx hb d_Field_branchOffset_15 ?_
  refine lv_ior hx hb d_Field_branchOffset_16 ?_
  refine lv_iload_n hx hb d_Field_branchOffset_17 rfl (lv_at hl 0 rfl) ?_
  refine lv_bipush (v := 8) hx hb d_Field_branchOffset_18 rfl ?_
  refine lv_iushr (v := ush x0 8) hx hb d_Field_branchOffset_20 rfl ?_
  refine lv_bipush (v := 15) hx hb d_Field_branchOffset_21 rfl ?_
  refine lv_iand hx hb d_Field_branchOffset_23 ?_
  refine lv_iconst (v := 1) hx hb d_Field_branchOffset_24 rfl ?_
  refine y_ishl hx hb d_Field_branchOffset_25 ?_
  refine lv_ior hx hb d_Field_branchOffset_26 ?_
  refine lv_iload_n hx hb d_Field_branchOffset_27 rfl (lv_at hl 0 rfl) ?_
  refine lv_bipush (v := 7) hx hb d_Field_branchOffset_28 rfl ?_
  refine lv_iushr (v := ush x0 7) hx hb d_Field_branchOffset_30 rfl ?_
  refine lv_iconst (v := 1) hx hb d_Field_branchOffset_31 rfl ?_
  refine lv_iand hx hb d_Field_branchOffset_32 ?_
  refine lv_bipush (v := 11) hx hb d_Field_branchOffset_33 rfl ?_
  refine y_ishl hx hb d_Field_branchOffset_35 ?_
  refine lv_ior hx hb d_Field_branchOffset_36 ?_
  exact ri () hx hb hr hlocks hP hD hS d_Field_branchOffset_37 (by simp only [sp_Field_branchOffset])
def sp_Field_jumpOffset (x0 : Int32)  : Int32 :=
  (((shl (shr x0 31) 20) ||| (shl ((ush x0 21) &&& 1023) 1)) ||| (shl ((ush x0 20) &&& 1) 11)) ||| (x0 &&& 1044480)
set_option maxHeartbeats 4000000 in
set_option maxRecDepth 100000 in
theorem c_Field_jumpOffset {l : Launch} {D : va_G} {g : Nat → Nat}  (x0 : Int32)   : CT l D g y_Field_jumpOffset b_Field_jumpOffset 1 (some .int) (rD 0) [.int x0] ([]) ([]) (Qi D (fun (r : Int32) (_ : Unit) => sp_Field_jumpOffset x0 = r) (fun _ => [])) := by
  refine CT.of rfl (Nat.le_of_ble_eq_true rfl) (fun p e s m below meth c A ls hx hb hr hml hts hown hlocks hA hP hK hD hF hS hl => ?_)
  have hl : lv_has ls 1 [(0, .int x0)] := hl
  refine lv_iload_n hx hb d_Field_jumpOffset_0 rfl (lv_at hl 0 rfl) ?_
  refine lv_bipush (v := 31) hx hb d_Field_jumpOffset_1 rfl ?_
  refine y_ishr hx hb d_Field_jumpOffset_3 ?_
  refine lv_bipush (v := 20) hx hb d_Field_jumpOffset_4 rfl ?_
  refine y_ishl hx hb d_Field_jumpOffset_6 ?_
  refine lv_iload_n hx hb d_Field_jumpOffset_7 rfl (lv_at hl 0 rfl) ?_
  refine lv_bipush (v := 21) hx hb d_Field_jumpOffset_8 rfl ?_
  refine lv_iushr (v := ush x0 21) hx hb d_Field_jumpOffset_10 rfl ?_
  refine lv_sipush (v := 1023) hx hb d_Field_jumpOffset_11 rfl ?_
  refine lv_iand hx hb d_Field_jumpOffset_14 ?_
  refine lv_iconst (v := 1) hx hb d_Field_jumpOffset_15 rfl ?_
  refine y_ishl hx hb d_Field_jumpOffset_16 ?_
  refine lv_ior hx hb d_Field_jumpOffset_17 ?_
  refine lv_iload_n hx hb d_Field_jumpOffset_18 rfl (lv_at hl 0 rfl) ?_
  refine lv_bipush (v := 20) hx hb d_Field_jumpOffset_19 rfl ?_
  refine lv_iushr (v := ush x0 20) hx hb d_Field_jumpOffset_21 rfl ?_
  refine lv_iconst (v := 1) hx hb d_Field_jumpOffset_22 rfl ?_
  refine lv_iand hx hb d_Field_jumpOffset_23 ?_
  refine lv_bipush (v := 11) hx hb d_Field_jumpOffset_24 rfl ?_
  refine y_ishl hx hb d_Field_jumpOffset_26 ?_
  refine lv_ior hx hb d_Field_jumpOffset_27 ?_
  refine lv_iload_n hx hb d_Field_jumpOffset_28 rfl (lv_at hl 0 rfl) ?_
  refine lv_ldc (v := 1044480) hx hb hown (hts _ k_491) d_Field_jumpOffset_29 ?_
  refine lv_iand hx hb d_Field_jumpOffset_31 ?_
  refine lv_ior hx hb d_Field_jumpOffset_32 ?_
  exact ri () hx hb hr hlocks hP hD hS d_Field_jumpOffset_33 (by simp only [sp_Field_jumpOffset])
