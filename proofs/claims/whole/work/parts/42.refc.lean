def sp_Model_clint (x0 : Int64)  : Int32 :=
  if x0 = 33554432 then
    0
  else
    if x0 = 33554436 then
      1
    else
      if x0 < 33570816 then
        if x0 = 33603576 then
          6
        else
          if x0 = 33603580 then
            7
          else
            (-1)
      else
        if 33570828 < x0 then
          if x0 = 33603576 then
            6
          else
            if x0 = 33603580 then
              7
            else
              (-1)
        else
          if (x0 - x0 / 4 * 4) = 0 then
            2 + (((x0 - 33570816).toInt32) / 4)
          else
            if x0 = 33603576 then
              6
            else
              if x0 = 33603580 then
                7
              else
                (-1)
set_option maxHeartbeats 4000000 in
set_option maxRecDepth 100000 in
theorem c_Model_clint {l : Launch} {D : va_G} {g : Nat → Nat}  (x0 : Int64)   : CT l D g y_Model_clint b_Model_clint 2 (some .int) (rD 0) [.long x0] [] [] (Qi D (fun (r : Int32) (_ : Unit) => sp_Model_clint x0 = r) (fun _ => [])) := by
  refine CT.of rfl (Nat.le_of_ble_eq_true rfl) (fun p e s m below meth c A ls hx hb hr hml hts hown hlocks hA hP hK hD hF hS hl => ?_)
  have hl : lv_has ls 2 [(0, .long x0)] := hl
  refine lv_lload_n hx hb d_Model_clint_0 rfl (lv_at hl 0 rfl) ?_
  refine lv_ldc2 (v := 33554432) hx hb hown (hts _ k_828) d_Model_clint_1 ?_
  refine W.lcmp hx hb d_Model_clint_4 ?_
  refine lv_if_ne (tgt := 10) hx hb d_Model_clint_5 (by decide) (fun b_1 => ?_) (fun b_1 => ?_)
  · have c_1 : ¬ x0 = 33554432 := fun h9 => b_1 ((lg_cmp_eq _ _).mpr h9)
    refine lv_lload_n hx hb d_Model_clint_10 rfl (lv_at hl 0 rfl) ?_
    refine lv_ldc2 (v := 33554436) hx hb hown (hts _ k_829) d_Model_clint_11 ?_
    refine W.lcmp hx hb d_Model_clint_14 ?_
    refine lv_if_ne (tgt := 20) hx hb d_Model_clint_15 (by decide) (fun b_2 => ?_) (fun b_2 => ?_)
    · have c_2 : ¬ x0 = 33554436 := fun h9 => b_2 ((lg_cmp_eq _ _).mpr h9)
      refine lv_lload_n hx hb d_Model_clint_20 rfl (lv_at hl 0 rfl) ?_
      refine lv_ldc2 (v := 33570816) hx hb hown (hts _ k_830) d_Model_clint_21 ?_
      refine W.lcmp hx hb d_Model_clint_24 ?_
      refine lv_if_lt (tgt := 57) hx hb d_Model_clint_25 (by decide) (fun b_3 => ?_) (fun b_3 => ?_)
      · have c_3 : x0 < 33570816 := (lg_cmp_lt _ _).mp b_3
        refine lv_lload_n hx hb d_Model_clint_57 rfl (lv_at hl 0 rfl) ?_
        refine lv_ldc2 (v := 33603576) hx hb hown (hts _ k_832) d_Model_clint_58 ?_
        refine W.lcmp hx hb d_Model_clint_61 ?_
        refine lv_if_ne (tgt := 70) hx hb d_Model_clint_62 (by decide) (fun b_4 => ?_) (fun b_4 => ?_)
        · have c_4 : ¬ x0 = 33603576 := fun h9 => b_4 ((lg_cmp_eq _ _).mpr h9)
          refine lv_lload_n hx hb d_Model_clint_70 rfl (lv_at hl 0 rfl) ?_
          refine lv_ldc2 (v := 33603580) hx hb hown (hts _ k_833) d_Model_clint_71 ?_
          refine W.lcmp hx hb d_Model_clint_74 ?_
          refine lv_if_ne (tgt := 83) hx hb d_Model_clint_75 (by decide) (fun b_5 => ?_) (fun b_5 => ?_)
          · have c_5 : ¬ x0 = 33603580 := fun h9 => b_5 ((lg_cmp_eq _ _).mpr h9)
            refine lv_iconst (v := (-1)) hx hb d_Model_clint_83 rfl ?_
            exact ri () hx hb hr hlocks hP hD hS d_Model_clint_84 (by simp only [sp_Model_clint, if_neg c_1, if_neg c_2, if_pos c_3, if_neg c_4, if_neg c_5])
          · have c_5 : x0 = 33603580 := (lg_cmp_eq _ _).mp b_5
            refine lv_bipush (v := 7) hx hb d_Model_clint_78 rfl ?_
            refine lv_goto (tgt := 84) hx hb d_Model_clint_80 (by decide) ?_
            exact ri () hx hb hr hlocks hP hD hS d_Model_clint_84 (by simp only [sp_Model_clint, if_neg c_1, if_neg c_2, if_pos c_3, if_neg c_4, if_pos c_5])
        · have c_4 : x0 = 33603576 := (lg_cmp_eq _ _).mp b_4
          refine lv_bipush (v := 6) hx hb d_Model_clint_65 rfl ?_
          refine lv_goto (tgt := 84) hx hb d_Model_clint_67 (by decide) ?_
          exact ri () hx hb hr hlocks hP hD hS d_Model_clint_84 (by simp only [sp_Model_clint, if_neg c_1, if_neg c_2, if_pos c_3, if_pos c_4])
      · have c_3 : ¬ x0 < 33570816 := fun h9 => b_3 ((lg_cmp_lt _ _).mpr h9)
        refine lv_lload_n hx hb d_Model_clint_28 rfl (lv_at hl 0 rfl) ?_
        refine lv_ldc2 (v := 33570828) hx hb hown (hts _ k_831) d_Model_clint_29 ?_
        refine W.lcmp hx hb d_Model_clint_32 ?_
        refine lv_if_gt (tgt := 57) hx hb d_Model_clint_33 (by decide) (fun b_6 => ?_) (fun b_6 => ?_)
        · have c_6 : 33570828 < x0 := (lg_cmp_gt _ _).mp b_6
          refine lv_lload_n hx hb d_Model_clint_57 rfl (lv_at hl 0 rfl) ?_
          refine lv_ldc2 (v := 33603576) hx hb hown (hts _ k_832) d_Model_clint_58 ?_
          refine W.lcmp hx hb d_Model_clint_61 ?_
          refine lv_if_ne (tgt := 70) hx hb d_Model_clint_62 (by decide) (fun b_7 => ?_) (fun b_7 => ?_)
          · have c_7 : ¬ x0 = 33603576 := fun h9 => b_7 ((lg_cmp_eq _ _).mpr h9)
            refine lv_lload_n hx hb d_Model_clint_70 rfl (lv_at hl 0 rfl) ?_
            refine lv_ldc2 (v := 33603580) hx hb hown (hts _ k_833) d_Model_clint_71 ?_
            refine W.lcmp hx hb d_Model_clint_74 ?_
            refine lv_if_ne (tgt := 83) hx hb d_Model_clint_75 (by decide) (fun b_8 => ?_) (fun b_8 => ?_)
            · have c_8 : ¬ x0 = 33603580 := fun h9 => b_8 ((lg_cmp_eq _ _).mpr h9)
              refine lv_iconst (v := (-1)) hx hb d_Model_clint_83 rfl ?_
              exact ri () hx hb hr hlocks hP hD hS d_Model_clint_84 (by simp only [sp_Model_clint, if_neg c_1, if_neg c_2, if_neg c_3, if_pos c_6, if_neg c_7, if_neg c_8])
            · have c_8 : x0 = 33603580 := (lg_cmp_eq _ _).mp b_8
              refine lv_bipush (v := 7) hx hb d_Model_clint_78 rfl ?_
              refine lv_goto (tgt := 84) hx hb d_Model_clint_80 (by decide) ?_
              exact ri () hx hb hr hlocks hP hD hS d_Model_clint_84 (by simp only [sp_Model_clint, if_neg c_1, if_neg c_2, if_neg c_3, if_pos c_6, if_neg c_7, if_pos c_8])
          · have c_7 : x0 = 33603576 := (lg_cmp_eq _ _).mp b_7
            refine lv_bipush (v := 6) hx hb d_Model_clint_65 rfl ?_
            refine lv_goto (tgt := 84) hx hb d_Model_clint_67 (by decide) ?_
            exact ri () hx hb hr hlocks hP hD hS d_Model_clint_84 (by simp only [sp_Model_clint, if_neg c_1, if_neg c_2, if_neg c_3, if_pos c_6, if_pos c_7])
        · have c_6 : ¬ 33570828 < x0 := fun h9 => b_6 ((lg_cmp_gt _ _).mpr h9)
          refine lv_lload_n hx hb d_Model_clint_36 rfl (lv_at hl 0 rfl) ?_
          refine lv_ldc2 (v := 4) hx hb hown (hts _ k_754) d_Model_clint_37 ?_
          refine lv_lrem hx hb d_Model_clint_40 (by decide) ?_
          refine lv_lconst (v := 0) hx hb d_Model_clint_41 rfl ?_
          refine W.lcmp hx hb d_Model_clint_42 ?_
          refine lv_if_ne (tgt := 57) hx hb d_Model_clint_43 (by decide) (fun b_9 => ?_) (fun b_9 => ?_)
          · have c_9 : ¬ (x0 - x0 / 4 * 4) = 0 := fun h9 => b_9 ((lg_cmp_eq _ _).mpr h9)
            refine lv_lload_n hx hb d_Model_clint_57 rfl (lv_at hl 0 rfl) ?_
            refine lv_ldc2 (v := 33603576) hx hb hown (hts _ k_832) d_Model_clint_58 ?_
            refine W.lcmp hx hb d_Model_clint_61 ?_
            refine lv_if_ne (tgt := 70) hx hb d_Model_clint_62 (by decide) (fun b_10 => ?_) (fun b_10 => ?_)
            · have c_10 : ¬ x0 = 33603576 := fun h9 => b_10 ((lg_cmp_eq _ _).mpr h9)
              refine lv_lload_n hx hb d_Model_clint_70 rfl (lv_at hl 0 rfl) ?_
              refine lv_ldc2 (v := 33603580) hx hb hown (hts _ k_833) d_Model_clint_71 ?_
              refine W.lcmp hx hb d_Model_clint_74 ?_
              refine lv_if_ne (tgt := 83) hx hb d_Model_clint_75 (by decide) (fun b_11 => ?_) (fun b_11 => ?_)
              · have c_11 : ¬ x0 = 33603580 := fun h9 => b_11 ((lg_cmp_eq _ _).mpr h9)
                refine lv_iconst (v := (-1)) hx hb d_Model_clint_83 rfl ?_
                exact ri () hx hb hr hlocks hP hD hS d_Model_clint_84 (by simp only [sp_Model_clint, if_neg c_1, if_neg c_2, if_neg c_3, if_neg c_6, if_neg c_9, if_neg c_10, if_neg c_11])
              · have c_11 : x0 = 33603580 := (lg_cmp_eq _ _).mp b_11
                refine lv_bipush (v := 7) hx hb d_Model_clint_78 rfl ?_
                refine lv_goto (tgt := 84) hx hb d_Model_clint_80 (by decide) ?_
                exact ri () hx hb hr hlocks hP hD hS d_Model_clint_84 (by simp only [sp_Model_clint, if_neg c_1, if_neg c_2, if_neg c_3, if_neg c_6, if_neg c_9, if_neg c_10, if_pos c_11])
            · have c_10 : x0 = 33603576 := (lg_cmp_eq _ _).mp b_10
              refine lv_bipush (v := 6) hx hb d_Model_clint_65 rfl ?_
              refine lv_goto (tgt := 84) hx hb d_Model_clint_67 (by decide) ?_
              exact ri () hx hb hr hlocks hP hD hS d_Model_clint_84 (by simp only [sp_Model_clint, if_neg c_1, if_neg c_2, if_neg c_3, if_neg c_6, if_neg c_9, if_pos c_10])
          · have c_9 : (x0 - x0 / 4 * 4) = 0 := (lg_cmp_eq _ _).mp b_9
            refine lv_iconst (v := 2) hx hb d_Model_clint_46 rfl ?_
            refine lv_lload_n hx hb d_Model_clint_47 rfl (lv_at hl 0 rfl) ?_
            refine lv_ldc2 (v := 33570816) hx hb hown (hts _ k_830) d_Model_clint_48 ?_
            refine lv_lsub hx hb d_Model_clint_51 ?_
            refine lv_l2i hx hb d_Model_clint_52 rfl ?_
            refine lv_iconst (v := 4) hx hb d_Model_clint_53 rfl ?_
            refine lv_idiv hx hb d_Model_clint_54 (by decide) ?_
            refine lv_iadd hx hb d_Model_clint_55 ?_
            exact ri () hx hb hr hlocks hP hD hS d_Model_clint_56 (by simp only [sp_Model_clint, if_neg c_1, if_neg c_2, if_neg c_3, if_neg c_6, if_pos c_9])
    · have c_2 : x0 = 33554436 := (lg_cmp_eq _ _).mp b_2
      refine lv_iconst (v := 1) hx hb d_Model_clint_18 rfl ?_
      exact ri () hx hb hr hlocks hP hD hS d_Model_clint_19 (by simp only [sp_Model_clint, if_neg c_1, if_pos c_2])
  · have c_1 : x0 = 33554432 := (lg_cmp_eq _ _).mp b_1
    refine lv_iconst (v := 0) hx hb d_Model_clint_8 rfl ?_
    exact ri () hx hb hr hlocks hP hD hS d_Model_clint_9 (by simp only [sp_Model_clint, if_pos c_1])
theorem vp_clint {a : Int64} : 0 ≤ sp_Model_clint a → vp_in (sp_Model_clint a) 8 := by
  unfold sp_Model_clint
  have P (x : Int32) (hx : vp_in x 8) : 0 ≤ x → vp_in x 8 := fun _ => hx
  have N : 0 ≤ (-1 : Int32) → vp_in (-1) 8 := fun h => absurd h (by decide)
  repeat' first
    | with_reducible exact N
    | with_reducible refine ite_P (P := fun x : Int32 => 0 ≤ x → vp_in x 8) (fun _ => ?_) (fun _ => ?_)
    | (refine P _ ?_; unfold vp_in; decide)
  rename_i h1 h2 h3
  intro _
  have h0 : ¬ a < 0 := by
    rw [Int64.lt_iff_toInt_lt] at h1 ⊢
    have e1 : (33570816 : Int64).toInt = 33570816 := rfl
    have e2 : (0 : Int64).toInt = 0 := rfl
    omega
  obtain ⟨k, hk, rfl⟩ := pk_lOf h0
  rw [show (33570816 : Int64) = lN 33570816 from rfl] at h1 ⊢
  rw [show (33570828 : Int64) = lN 33570828 from rfl] at h2
  rw [pk_lLT hk (by decide)] at h1
  rw [pk_lLT (by decide) hk] at h2
  rw [lN_sub (by omega), lN_i, show (4 : Int32) = nI 4 from rfl, pk_div (by omega) (by decide) (by decide), show (2 : Int32) = nI 2 from rfl, nI_add]
  exact vp_in_nI (by omega) (by decide)
def sp_Model_clintWord (x0 : Int32) (cm : Nat → Int64) (so : Nat → Int32) (ti : Int64) : Int32 :=
  if 2 ≤ x0 then
    if x0 ≤ 5 then
      if (x0 - x0 / 2 * 2) = 0 then
        (cm (((x0 - 2) / 2).toNatClampNeg)).toInt32
      else
        (lshr (cm (((x0 - 2) / 2).toNatClampNeg)) 32).toInt32
    else
      if (x0 - x0 / 2 * 2) = 0 then
        ti.toInt32
      else
        (lshr ti 32).toInt32
  else
    so x0.toNatClampNeg
set_option maxHeartbeats 4000000 in
set_option maxRecDepth 100000 in
theorem c_Model_clintWord {l : Launch} {D : va_G} {g : Nat → Nat} (a : Nat → Nat) (k : Nat → ClassId) (n : Nat) (x0 : Int32) (h ca tv nx : Int32) (pcs lv cs x b cl : Nat → Int32) (cm : Nat → Int64) (so : Nat → Int32) (ti : Int64) (pu : Nat → Int32) (np : Int32) (hn : n ≤ 4096) (hk : vp_in x0 8) : CT l D g y_Model_clintWord b_Model_clintWord 4 (some .int) (rD 0) [.ref (a 0), .int x0] (wR a k n h ca tv nx pcs lv cs x b cl cm so ti pu np) (tyR k) (Qi D (fun (r : Int32) (_ : Unit) => sp_Model_clintWord x0 cm so ti = r) (fun _ => wR a k n h ca tv nx pcs lv cs x b cl cm so ti pu np)) := by
  refine CT.of rfl (Nat.le_of_ble_eq_true rfl) (fun p e s m below meth c A ls hx hb hr hml hts hown hlocks hA hP hK hD hF hS hl => ?_)
  have hl : lv_has ls 4 [(0, .ref (a 0)), (1, .int x0)] := hl
  refine lv_iload_n hx hb d_Model_clintWord_0 rfl (lv_at hl 1 rfl) ?_
  refine lv_iconst (v := 2) hx hb d_Model_clintWord_1 rfl ?_
  refine lv_icmp_ge (tgt := 12) hx hb d_Model_clintWord_2 (by decide) (fun c_1 => ?_) (fun c_1 => ?_)
  · refine lv_iload_n hx hb d_Model_clintWord_12 rfl (lv_at hl 1 rfl) ?_
    refine lv_iconst (v := 5) hx hb d_Model_clintWord_13 rfl ?_
    refine lv_icmp_le (tgt := 24) hx hb d_Model_clintWord_14 (by decide) (fun c_2 => ?_) (fun c_2 => ?_)
    · refine lv_aload_n hx hb d_Model_clintWord_24 rfl (lv_at hl 0 rfl) ?_
      refine va_get (D := D) (ci := 5) (v := .ref (a 7)) (C := R_Model) (T := F_Model) (N := 16) hx hb hts i_Model hown hK hP 0 rfl rfl 7 (by decide) (hts _ k_632) (fun _ h9 => h9) rfl d_Model_clintWord_25 ?_
      refine lv_iload_n hx hb d_Model_clintWord_28 rfl (lv_at hl 1 rfl) ?_
      refine lv_iconst (v := 2) hx hb d_Model_clintWord_29 rfl ?_
      refine lv_isub hx hb d_Model_clintWord_30 ?_
      refine lv_iconst (v := 2) hx hb d_Model_clintWord_31 rfl ?_
      refine lv_idiv hx hb d_Model_clintWord_32 (by decide) ?_
      refine y_lald (v := cm (((x0 - 2) / 2).toNatClampNeg)) hx hb hK hP 7 6 rfl rfl (vp_k6 hk c_1 c_2) rfl d_Model_clintWord_33 ?_
      refine lv_lstore_n (lv' := [(2, .long (cm (((x0 - 2) / 2).toNatClampNeg))), (0, .ref (a 0)), (1, .int x0)]) hx hb d_Model_clintWord_34 rfl hl (by decide) rfl (fun ls hl => ?_)
      refine lv_iload_n hx hb d_Model_clintWord_35 rfl (lv_at hl 2 rfl) ?_
      refine lv_iconst (v := 2) hx hb d_Model_clintWord_36 rfl ?_
      refine lv_irem hx hb d_Model_clintWord_37 (by decide) ?_
      refine lv_if_ne (tgt := 45) hx hb d_Model_clintWord_38 (by decide) (fun c_3 => ?_) (fun c_3 => ?_)
      · refine lv_lload_n hx hb d_Model_clintWord_45 rfl (lv_at hl 0 rfl) ?_
        refine lv_bipush (v := 32) hx hb d_Model_clintWord_46 rfl ?_
        refine lv_lshr (v := lshr (cm (((x0 - 2) / 2).toNatClampNeg)) 32) hx hb d_Model_clintWord_48 rfl ?_
        refine lv_l2i hx hb d_Model_clintWord_49 rfl ?_
        exact ri () hx hb hr hlocks hP hD hS d_Model_clintWord_50 (by simp only [sp_Model_clintWord, if_pos c_1, if_pos c_2, if_neg c_3])
      · refine lv_lload_n hx hb d_Model_clintWord_41 rfl (lv_at hl 0 rfl) ?_
        refine lv_goto (tgt := 49) hx hb d_Model_clintWord_42 (by decide) ?_
        refine lv_l2i hx hb d_Model_clintWord_49 rfl ?_
        exact ri () hx hb hr hlocks hP hD hS d_Model_clintWord_50 (by simp only [sp_Model_clintWord, if_pos c_1, if_pos c_2, if_pos c_3])
    · refine lv_aload_n hx hb d_Model_clintWord_17 rfl (lv_at hl 0 rfl) ?_
      refine va_get (D := D) (ci := 5) (v := .long ti) (C := R_Model) (T := F_Model) (N := 16) hx hb hts i_Model hown hK hP 0 rfl rfl 9 (by decide) (hts _ k_634) (fun _ h9 => h9) rfl d_Model_clintWord_18 ?_
      refine lv_goto (tgt := 34) hx hb d_Model_clintWord_21 (by decide) ?_
      refine lv_lstore_n (lv' := [(2, .long ti), (0, .ref (a 0)), (1, .int x0)]) hx hb d_Model_clintWord_34 rfl hl (by decide) rfl (fun ls hl => ?_)
      refine lv_iload_n hx hb d_Model_clintWord_35 rfl (lv_at hl 2 rfl) ?_
      refine lv_iconst (v := 2) hx hb d_Model_clintWord_36 rfl ?_
      refine lv_irem hx hb d_Model_clintWord_37 (by decide) ?_
      refine lv_if_ne (tgt := 45) hx hb d_Model_clintWord_38 (by decide) (fun c_4 => ?_) (fun c_4 => ?_)
      · refine lv_lload_n hx hb d_Model_clintWord_45 rfl (lv_at hl 0 rfl) ?_
        refine lv_bipush (v := 32) hx hb d_Model_clintWord_46 rfl ?_
        refine lv_lshr (v := lshr ti 32) hx hb d_Model_clintWord_48 rfl ?_
        refine lv_l2i hx hb d_Model_clintWord_49 rfl ?_
        exact ri () hx hb hr hlocks hP hD hS d_Model_clintWord_50 (by simp only [sp_Model_clintWord, if_pos c_1, if_neg c_2, if_neg c_4])
      · refine lv_lload_n hx hb d_Model_clintWord_41 rfl (lv_at hl 0 rfl) ?_
        refine lv_goto (tgt := 49) hx hb d_Model_clintWord_42 (by decide) ?_
        refine lv_l2i hx hb d_Model_clintWord_49 rfl ?_
        exact ri () hx hb hr hlocks hP hD hS d_Model_clintWord_50 (by simp only [sp_Model_clintWord, if_pos c_1, if_neg c_2, if_pos c_4])
  · refine lv_aload_n hx hb d_Model_clintWord_5 rfl (lv_at hl 0 rfl) ?_
    refine va_get (D := D) (ci := 5) (v := .ref (a 8)) (C := R_Model) (T := F_Model) (N := 16) hx hb hts i_Model hown hK hP 0 rfl rfl 8 (by decide) (hts _ k_633) (fun _ h9 => h9) rfl d_Model_clintWord_6 ?_
    refine lv_iload_n hx hb d_Model_clintWord_9 rfl (lv_at hl 1 rfl) ?_
    refine y_iald (v := so x0.toNatClampNeg) hx hb hK hP 8 7 rfl rfl (vp_k2 hk c_1) rfl d_Model_clintWord_10 ?_
    exact ri () hx hb hr hlocks hP hD hS d_Model_clintWord_11 (by simp only [sp_Model_clintWord, if_neg c_1])
def sp_Model_setClint (x0 : Int32) (x1 : Int32) (cm : Nat → Int64) (so : Nat → Int32) (ti : Int64) : (Nat → Int64) × (Nat → Int32) × Int64 :=
  if 2 ≤ x0 then
    if x0 ≤ 5 then
      if (x0 - x0 / 2 * 2) = 0 then
        ((vp_updL cm (((x0 - 2) / 2).toNatClampNeg) (((cm (((x0 - 2) / 2).toNatClampNeg)) &&& (-4294967296)) ||| (x1.toInt64 &&& 4294967295))), so, ti)
      else
        ((vp_updL cm (((x0 - 2) / 2).toNatClampNeg) (((cm (((x0 - 2) / 2).toNatClampNeg)) &&& 4294967295) ||| (lshl x1.toInt64 32))), so, ti)
    else
      if (x0 - x0 / 2 * 2) = 0 then
        (cm, so, (ti &&& (-4294967296)) ||| (x1.toInt64 &&& 4294967295))
      else
        (cm, so, (ti &&& 4294967295) ||| (lshl x1.toInt64 32))
  else
    (cm, (upd so x0.toNatClampNeg (x1 &&& 1)), ti)
set_option maxHeartbeats 4000000 in
set_option maxRecDepth 100000 in
theorem c_Model_setClint {l : Launch} {D : va_G} {g : Nat → Nat} (a : Nat → Nat) (k : Nat → ClassId) (n : Nat) (x0 : Int32) (x1 : Int32) (h ca tv nx : Int32) (pcs lv cs x b cl : Nat → Int32) (cm : Nat → Int64) (so : Nat → Int32) (ti : Int64) (pu : Nat → Int32) (np : Int32) (hn : n ≤ 4096) (hk : vp_in x0 8) : CT l D g y_Model_setClint b_Model_setClint 7 none (rD 0) [.ref (a 0), .int x0, .int x1] (wR a k n h ca tv nx pcs lv cs x b cl cm so ti pu np) (tyR k) (Qv D (fun (u : (Nat → Int64) × (Nat → Int32) × Int64) => sp_Model_setClint x0 x1 cm so ti = u) (fun u => wR a k n h ca tv nx pcs lv cs x b cl u.1 u.2.1 u.2.2 pu np)) := by
  refine CT.of rfl (Nat.le_of_ble_eq_true rfl) (fun p e s m below meth c A ls hx hb hr hml hts hown hlocks hA hP hK hD hF hS hl => ?_)
  have hl : lv_has ls 7 [(0, .ref (a 0)), (1, .int x0), (2, .int x1)] := hl
  refine lv_iload_n hx hb d_Model_setClint_0 rfl (lv_at hl 1 rfl) ?_
  refine lv_iconst (v := 2) hx hb d_Model_setClint_1 rfl ?_
  refine lv_icmp_ge (tgt := 15) hx hb d_Model_setClint_2 (by decide) (fun c_1 => ?_) (fun c_1 => ?_)
  · refine lv_iload_n hx hb d_Model_setClint_15 rfl (lv_at hl 1 rfl) ?_
    refine lv_iconst (v := 5) hx hb d_Model_setClint_16 rfl ?_
    refine lv_icmp_le (tgt := 27) hx hb d_Model_setClint_17 (by decide) (fun c_2 => ?_) (fun c_2 => ?_)
    · refine lv_aload_n hx hb d_Model_setClint_27 rfl (lv_at hl 0 rfl) ?_
      refine va_get (D := D) (ci := 5) (v := .ref (a 7)) (C := R_Model) (T := F_Model) (N := 16) hx hb hts i_Model hown hK hP 0 rfl rfl 7 (by decide) (hts _ k_632) (fun _ h9 => h9) rfl d_Model_setClint_28 ?_
      refine lv_iload_n hx hb d_Model_setClint_31 rfl (lv_at hl 1 rfl) ?_
      refine lv_iconst (v := 2) hx hb d_Model_setClint_32 rfl ?_
      refine lv_isub hx hb d_Model_setClint_33 ?_
      refine lv_iconst (v := 2) hx hb d_Model_setClint_34 rfl ?_
      refine lv_idiv hx hb d_Model_setClint_35 (by decide) ?_
      refine y_lald (v := cm (((x0 - 2) / 2).toNatClampNeg)) hx hb hK hP 7 6 rfl rfl (vp_k6 hk c_1 c_2) rfl d_Model_setClint_36 ?_
      refine lv_lstore_n (lv' := [(3, .long (cm (((x0 - 2) / 2).toNatClampNeg))), (0, .ref (a 0)), (1, .int x0), (2, .int x1)]) hx hb d_Model_setClint_37 rfl hl (by decide) rfl (fun ls hl => ?_)
      refine lv_iload_n hx hb d_Model_setClint_38 rfl (lv_at hl 2 rfl) ?_
      refine lv_iconst (v := 2) hx hb d_Model_setClint_39 rfl ?_
      refine lv_irem hx hb d_Model_setClint_40 (by decide) ?_
      refine lv_if_ne (tgt := 59) hx hb d_Model_setClint_41 (by decide) (fun c_3 => ?_) (fun c_3 => ?_)
      · refine lv_lload_n hx hb d_Model_setClint_59 rfl (lv_at hl 0 rfl) ?_
        refine lv_ldc2 (v := 4294967295) hx hb hown (hts _ k_751) d_Model_setClint_60 ?_
        refine lv_land hx hb d_Model_setClint_63 ?_
        refine lv_iload_n hx hb d_Model_setClint_64 rfl (lv_at hl 3 rfl) ?_
        refine lv_i2l hx hb d_Model_setClint_65 rfl ?_
        refine lv_bipush (v := 32) hx hb d_Model_setClint_66 rfl ?_
        refine lv_lshl (v := lshl x1.toInt64 32) hx hb d_Model_setClint_68 rfl ?_
        refine lv_lor hx hb d_Model_setClint_69 ?_
        refine lv_lstore (lv' := [(5, .long (((cm (((x0 - 2) / 2).toNatClampNeg)) &&& 4294967295) ||| (lshl x1.toInt64 32))), (3, .long (cm (((x0 - 2) / 2).toNatClampNeg))), (0, .ref (a 0)), (1, .int x0), (2, .int x1)]) hx hb d_Model_setClint_70 hl (by decide) rfl (fun ls hl => ?_)
        refine lv_iload_n hx hb d_Model_setClint_72 rfl (lv_at hl 3 rfl) ?_
        refine lv_iconst (v := 5) hx hb d_Model_setClint_73 rfl ?_
        refine lv_icmp_le (tgt := 86) hx hb d_Model_setClint_74 (by decide) (fun _ => ?_) (fun h9 => absurd c_2 h9)
        refine lv_aload_n hx hb d_Model_setClint_86 rfl (lv_at hl 2 rfl) ?_
        refine va_get (D := D) (ci := 5) (v := .ref (a 7)) (C := R_Model) (T := F_Model) (N := 16) hx hb hts i_Model hown hK hP 0 rfl rfl 7 (by decide) (hts _ k_632) (fun _ h9 => h9) rfl d_Model_setClint_87 ?_
        refine lv_iload_n hx hb d_Model_setClint_90 rfl (lv_at hl 3 rfl) ?_
        refine lv_iconst (v := 2) hx hb d_Model_setClint_91 rfl ?_
        refine lv_isub hx hb d_Model_setClint_92 ?_
        refine lv_iconst (v := 2) hx hb d_Model_setClint_93 rfl ?_
        refine lv_idiv hx hb d_Model_setClint_94 (by decide) ?_
        refine lv_lload hx hb d_Model_setClint_95 (lv_at hl 0 rfl) ?_
        refine y_last (ws' := wR a k n h ca tv nx pcs lv cs x b cl (vp_updL cm (((x0 - 2) / 2).toNatClampNeg) (((cm (((x0 - 2) / 2).toNatClampNeg)) &&& 4294967295) ||| (lshl x1.toInt64 32))) so ti pu np) hx hb hK hP hD hS 7 6 rfl rfl (vp_k6 hk c_1 c_2) d_Model_setClint_97 rfl (fun H locs hP hD hS => ?_)
        exact rv ((vp_updL cm (((x0 - 2) / 2).toNatClampNeg) (((cm (((x0 - 2) / 2).toNatClampNeg)) &&& 4294967295) ||| (lshl x1.toInt64 32))), so, ti) hx hb hr hlocks hP hD hS d_Model_setClint_98 (by simp only [sp_Model_setClint, if_pos c_1, if_pos c_2, if_neg c_3])
      · refine lv_lload_n hx hb d_Model_setClint_44 rfl (lv_at hl 0 rfl) ?_
        refine lv_ldc2 (v := (-4294967296)) hx hb hown (hts _ k_850) d_Model_setClint_45 ?_
        refine lv_land hx hb d_Model_setClint_48 ?_
        refine lv_iload_n hx hb d_Model_setClint_49 rfl (lv_at hl 3 rfl) ?_
        refine lv_i2l hx hb d_Model_setClint_50 rfl ?_
        refine lv_ldc2 (v := 4294967295) hx hb hown (hts _ k_751) d_Model_setClint_51 ?_
        refine lv_land hx hb d_Model_setClint_54 ?_
        refine lv_lor hx hb d_Model_setClint_55 ?_
        refine lv_goto (tgt := 70) hx hb d_Model_setClint_56 (by decide) ?_
        refine lv_lstore (lv' := [(5, .long (((cm (((x0 - 2) / 2).toNatClampNeg)) &&& (-4294967296)) ||| (x1.toInt64 &&& 4294967295))), (3, .long (cm (((x0 - 2) / 2).toNatClampNeg))), (0, .ref (a 0)), (1, .int x0), (2, .int x1)]) hx hb d_Model_setClint_70 hl (by decide) rfl (fun ls hl => ?_)
        refine lv_iload_n hx hb d_Model_setClint_72 rfl (lv_at hl 3 rfl) ?_
        refine lv_iconst (v := 5) hx hb d_Model_setClint_73 rfl ?_
        refine lv_icmp_le (tgt := 86) hx hb d_Model_setClint_74 (by decide) (fun _ => ?_) (fun h9 => absurd c_2 h9)
        refine lv_aload_n hx hb d_Model_setClint_86 rfl (lv_at hl 2 rfl) ?_
        refine va_get (D := D) (ci := 5) (v := .ref (a 7)) (C := R_Model) (T := F_Model) (N := 16) hx hb hts i_Model hown hK hP 0 rfl rfl 7 (by decide) (hts _ k_632) (fun _ h9 => h9) rfl d_Model_setClint_87 ?_
        refine lv_iload_n hx hb d_Model_setClint_90 rfl (lv_at hl 3 rfl) ?_
        refine lv_iconst (v := 2) hx hb d_Model_setClint_91 rfl ?_
        refine lv_isub hx hb d_Model_setClint_92 ?_
        refine lv_iconst (v := 2) hx hb d_Model_setClint_93 rfl ?_
        refine lv_idiv hx hb d_Model_setClint_94 (by decide) ?_
        refine lv_lload hx hb d_Model_setClint_95 (lv_at hl 0 rfl) ?_
        refine y_last (ws' := wR a k n h ca tv nx pcs lv cs x b cl (vp_updL cm (((x0 - 2) / 2).toNatClampNeg) (((cm (((x0 - 2) / 2).toNatClampNeg)) &&& (-4294967296)) ||| (x1.toInt64 &&& 4294967295))) so ti pu np) hx hb hK hP hD hS 7 6 rfl rfl (vp_k6 hk c_1 c_2) d_Model_setClint_97 rfl (fun H locs hP hD hS => ?_)
        exact rv ((vp_updL cm (((x0 - 2) / 2).toNatClampNeg) (((cm (((x0 - 2) / 2).toNatClampNeg)) &&& (-4294967296)) ||| (x1.toInt64 &&& 4294967295))), so, ti) hx hb hr hlocks hP hD hS d_Model_setClint_98 (by simp only [sp_Model_setClint, if_pos c_1, if_pos c_2, if_pos c_3])
    · refine lv_aload_n hx hb d_Model_setClint_20 rfl (lv_at hl 0 rfl) ?_
      refine va_get (D := D) (ci := 5) (v := .long ti) (C := R_Model) (T := F_Model) (N := 16) hx hb hts i_Model hown hK hP 0 rfl rfl 9 (by decide) (hts _ k_634) (fun _ h9 => h9) rfl d_Model_setClint_21 ?_
      refine lv_goto (tgt := 37) hx hb d_Model_setClint_24 (by decide) ?_
      refine lv_lstore_n (lv' := [(3, .long ti), (0, .ref (a 0)), (1, .int x0), (2, .int x1)]) hx hb d_Model_setClint_37 rfl hl (by decide) rfl (fun ls hl => ?_)
      refine lv_iload_n hx hb d_Model_setClint_38 rfl (lv_at hl 2 rfl) ?_
      refine lv_iconst (v := 2) hx hb d_Model_setClint_39 rfl ?_
      refine lv_irem hx hb d_Model_setClint_40 (by decide) ?_
      refine lv_if_ne (tgt := 59) hx hb d_Model_setClint_41 (by decide) (fun c_6 => ?_) (fun c_6 => ?_)
      · refine lv_lload_n hx hb d_Model_setClint_59 rfl (lv_at hl 0 rfl) ?_
        refine lv_ldc2 (v := 4294967295) hx hb hown (hts _ k_751) d_Model_setClint_60 ?_
        refine lv_land hx hb d_Model_setClint_63 ?_
        refine lv_iload_n hx hb d_Model_setClint_64 rfl (lv_at hl 3 rfl) ?_
        refine lv_i2l hx hb d_Model_setClint_65 rfl ?_
        refine lv_bipush (v := 32) hx hb d_Model_setClint_66 rfl ?_
        refine lv_lshl (v := lshl x1.toInt64 32) hx hb d_Model_setClint_68 rfl ?_
        refine lv_lor hx hb d_Model_setClint_69 ?_
        refine lv_lstore (lv' := [(5, .long ((ti &&& 4294967295) ||| (lshl x1.toInt64 32))), (3, .long ti), (0, .ref (a 0)), (1, .int x0), (2, .int x1)]) hx hb d_Model_setClint_70 hl (by decide) rfl (fun ls hl => ?_)
        refine lv_iload_n hx hb d_Model_setClint_72 rfl (lv_at hl 3 rfl) ?_
        refine lv_iconst (v := 5) hx hb d_Model_setClint_73 rfl ?_
        refine lv_icmp_le (tgt := 86) hx hb d_Model_setClint_74 (by decide) (fun h9 => absurd h9 c_2) (fun _ => ?_)
        refine lv_aload_n hx hb d_Model_setClint_77 rfl (lv_at hl 2 rfl) ?_
        refine lv_lload hx hb d_Model_setClint_78 (lv_at hl 0 rfl) ?_
        refine y_put (D := D) (ci := 5) (v := .long ((ti &&& 4294967295) ||| (lshl x1.toInt64 32))) (ty := .long) (C := R_Model) (T := F_Model) (N := 16) (ws' := wR a k n h ca tv nx pcs lv cs x b cl cm so ((ti &&& 4294967295) ||| (lshl x1.toInt64 32)) pu np) hx hb hts i_Model t_Model t_Model_ok n_Model hown hK hP hD hS 0 rfl rfl 9 (by decide) (hts _ k_634) (fun _ h9 => h9) rfl (by decide +kernel) rfl rfl (Nat.le_of_ble_eq_true rfl) d_Model_setClint_80 rfl (fun H locs hP hD hS => ?_)
        refine lv_goto (tgt := 98) hx hb d_Model_setClint_83 (by decide) ?_
        exact rv (cm, so, (ti &&& 4294967295) ||| (lshl x1.toInt64 32)) hx hb hr hlocks hP hD hS d_Model_setClint_98 (by simp only [sp_Model_setClint, if_pos c_1, if_neg c_2, if_neg c_6])
      · refine lv_lload_n hx hb d_Model_setClint_44 rfl (lv_at hl 0 rfl) ?_
        refine lv_ldc2 (v := (-4294967296)) hx hb hown (hts _ k_850) d_Model_setClint_45 ?_
        refine lv_land hx hb d_Model_setClint_48 ?_
        refine lv_iload_n hx hb d_Model_setClint_49 rfl (lv_at hl 3 rfl) ?_
        refine lv_i2l hx hb d_Model_setClint_50 rfl ?_
        refine lv_ldc2 (v := 4294967295) hx hb hown (hts _ k_751) d_Model_setClint_51 ?_
        refine lv_land hx hb d_Model_setClint_54 ?_
        refine lv_lor hx hb d_Model_setClint_55 ?_
        refine lv_goto (tgt := 70) hx hb d_Model_setClint_56 (by decide) ?_
        refine lv_lstore (lv' := [(5, .long ((ti &&& (-4294967296)) ||| (x1.toInt64 &&& 4294967295))), (3, .long ti), (0, .ref (a 0)), (1, .int x0), (2, .int x1)]) hx hb d_Model_setClint_70 hl (by decide) rfl (fun ls hl => ?_)
        refine lv_iload_n hx hb d_Model_setClint_72 rfl (lv_at hl 3 rfl) ?_
        refine lv_iconst (v := 5) hx hb d_Model_setClint_73 rfl ?_
        refine lv_icmp_le (tgt := 86) hx hb d_Model_setClint_74 (by decide) (fun h9 => absurd h9 c_2) (fun _ => ?_)
        refine lv_aload_n hx hb d_Model_setClint_77 rfl (lv_at hl 2 rfl) ?_
        refine lv_lload hx hb d_Model_setClint_78 (lv_at hl 0 rfl) ?_
        refine y_put (D := D) (ci := 5) (v := .long ((ti &&& (-4294967296)) ||| (x1.toInt64 &&& 4294967295))) (ty := .long) (C := R_Model) (T := F_Model) (N := 16) (ws' := wR a k n h ca tv nx pcs lv cs x b cl cm so ((ti &&& (-4294967296)) ||| (x1.toInt64 &&& 4294967295)) pu np) hx hb hts i_Model t_Model t_Model_ok n_Model hown hK hP hD hS 0 rfl rfl 9 (by decide) (hts _ k_634) (fun _ h9 => h9) rfl (by decide +kernel) rfl rfl (Nat.le_of_ble_eq_true rfl) d_Model_setClint_80 rfl (fun H locs hP hD hS => ?_)
        refine lv_goto (tgt := 98) hx hb d_Model_setClint_83 (by decide) ?_
        exact rv (cm, so, (ti &&& (-4294967296)) ||| (x1.toInt64 &&& 4294967295)) hx hb hr hlocks hP hD hS d_Model_setClint_98 (by simp only [sp_Model_setClint, if_pos c_1, if_neg c_2, if_pos c_6])
  · refine lv_aload_n hx hb d_Model_setClint_5 rfl (lv_at hl 0 rfl) ?_
    refine va_get (D := D) (ci := 5) (v := .ref (a 8)) (C := R_Model) (T := F_Model) (N := 16) hx hb hts i_Model hown hK hP 0 rfl rfl 8 (by decide) (hts _ k_633) (fun _ h9 => h9) rfl d_Model_setClint_6 ?_
    refine lv_iload_n hx hb d_Model_setClint_9 rfl (lv_at hl 1 rfl) ?_
    refine lv_iload_n hx hb d_Model_setClint_10 rfl (lv_at hl 2 rfl) ?_
    refine lv_iconst (v := 1) hx hb d_Model_setClint_11 rfl ?_
    refine lv_iand hx hb d_Model_setClint_12 ?_
    refine y_iast (ws' := wR a k n h ca tv nx pcs lv cs x b cl cm (upd so x0.toNatClampNeg (x1 &&& 1)) ti pu np) hx hb hK hP hD hS 8 7 rfl rfl (vp_k2 hk c_1) d_Model_setClint_13 rfl (fun H locs hP hD hS => ?_)
    exact rv (cm, (upd so x0.toNatClampNeg (x1 &&& 1)), ti) hx hb hr hlocks hP hD hS d_Model_setClint_14 (by simp only [sp_Model_setClint, if_neg c_1])
def sp_Model_place (n : Nat) (x0 : Int32) (x1 : Int32) (x2 : Int32) (h : Int32) (ca : Int32) (tv : Int32) (lv : Nat → Int32) (cs : Nat → Int32) (b : Nat → Int32) : Int64 × Int32 × Int32 :=
  if (x0 &&& (x1 - 1)) = 0 then
    let r_2 := (sp_Model_translate n x0 x2 h ca tv lv cs b).1
    let ca_2 := (sp_Model_translate n x0 x2 h ca tv lv cs b).2.1
    let tv_2 := (sp_Model_translate n x0 x2 h ca tv lv cs b).2.2
    (r_2, (ca_2, tv_2))
  else
    if x2 = 1 then
      let ca_5 := (sp_Model_trap 4 x0 ca tv).1
      let tv_5 := (sp_Model_trap 4 x0 ca tv).2
      ((-1), (ca_5, tv_5))
    else
      let ca_4 := (sp_Model_trap 6 x0 ca tv).1
      let tv_4 := (sp_Model_trap 6 x0 ca tv).2
      ((-1), (ca_4, tv_4))
set_option maxHeartbeats 4000000 in
set_option maxRecDepth 100000 in
theorem c_Model_place {l : Launch} {D : va_G} {g : Nat → Nat} (a : Nat → Nat) (k : Nat → ClassId) (n : Nat) (x0 : Int32) (x1 : Int32) (x2 : Int32) (h ca tv nx : Int32) (pcs lv cs x b cl : Nat → Int32) (cm : Nat → Int64) (so : Nat → Int32) (ti : Int64) (pu : Nat → Int32) (np : Int32) (hn : n ≤ 4096) (hh : h = 0 ∨ h = 1) : CT l D g y_Model_place b_Model_place 4 (some .long) (rD 4) [.ref (a 0), .int x0, .int x1, .int x2] (wR a k n h ca tv nx pcs lv cs x b cl cm so ti pu np) (tyR k) (Ql D (fun (r : Int64) (u : Int32 × Int32) => sp_Model_place n x0 x1 x2 h ca tv lv cs b = (r, u)) (fun u => wR a k n h u.1 u.2 nx pcs lv cs x b cl cm so ti pu np)) := by
  refine CT.of rfl (Nat.le_of_ble_eq_true rfl) (fun p e s m below meth c A ls hx hb hr hml hts hown hlocks hA hP hK hD hF hS hl => ?_)
  have hl : lv_has ls 4 [(0, .ref (a 0)), (1, .int x0), (2, .int x1), (3, .int x2)] := hl
  refine lv_iload_n hx hb d_Model_place_0 rfl (lv_at hl 1 rfl) ?_
  refine lv_iload_n hx hb d_Model_place_1 rfl (lv_at hl 2 rfl) ?_
  refine lv_iconst (v := 1) hx hb d_Model_place_2 rfl ?_
  refine lv_isub hx hb d_Model_place_3 ?_
  refine lv_iand hx hb d_Model_place_4 ?_
  refine lv_if_eq (tgt := 28) hx hb d_Model_place_5 (by decide) (fun c_1 => ?_) (fun c_1 => ?_)
  · refine lv_aload_n hx hb d_Model_place_28 rfl (lv_at hl 0 rfl) ?_
    refine lv_iload_n hx hb d_Model_place_29 rfl (lv_at hl 1 rfl) ?_
    refine lv_iload_n hx hb d_Model_place_30 rfl (lv_at hl 3 rfl) ?_
    refine xl (wr := []) (W2 := fun u9 => wR a k n h u9.1 u9.2 nx pcs lv cs x b cl cm so ti pu np) (xV (rest := []) ⟨hx, hb, hml, hown, hts⟩ (c_Model_translate a k n x0 x2 h ca tv nx pcs lv cs x b cl cm so ti pu np hn hh) mw_Model_translate mv_Model_translate k_742 ⟨rfl, rfl, Nat.le_of_ble_eq_true rfl, Nat.le_of_ble_eq_true rfl⟩ hK hP hD hS hA hF [0, 1, 2, 3, 4, 5, 6, 7, 8, 9] [0, 1, 2, 3, 4, 5, 6, 7, 8] rfl rfl rfl 0 5 rfl rfl rfl rfl hl.1 rfl (Nat.le_of_ble_eq_true rfl) d_Model_place_31 ⟨Nat.zero_le _, Nat.zero_le _⟩) hP hD hS hA [0, 1, 2, 3, 4, 5, 6, 7, 8, 9] [] [0, 1, 2, 3, 4, 5, 6, 7, 8, 9] rfl rfl rfl (by decide) (fun _ => rfl) rfl (fun r_2 u_2 H locs h_2 hP hD hS => ?_)
    obtain ⟨ca_2, tv_2⟩ := u_2
    dsimp only at hP hD
    exact rl (ca_2, tv_2) hx hb hr hlocks hP hD hS d_Model_place_34 (by simp only [sp_Model_place, h_2, if_pos c_1])
  · refine lv_aload_n hx hb d_Model_place_8 rfl (lv_at hl 0 rfl) ?_
    refine lv_iload_n hx hb d_Model_place_9 rfl (lv_at hl 3 rfl) ?_
    refine lv_iconst (v := 1) hx hb d_Model_place_10 rfl ?_
    refine lv_icmp_ne (tgt := 18) hx hb d_Model_place_11 (by decide) (fun c_3 => ?_) (fun c_3 => ?_)
    · refine lv_bipush (v := 6) hx hb d_Model_place_18 rfl ?_
      refine lv_iload_n hx hb d_Model_place_20 rfl (lv_at hl 1 rfl) ?_
      refine xv (wr := []) (W2 := fun u9 => wR a k n h u9.1 u9.2 nx pcs lv cs x b cl cm so ti pu np) (xV (rest := []) ⟨hx, hb, hml, hown, hts⟩ (c_Model_trap a k n 6 x0 h ca tv nx pcs lv cs x b cl cm so ti pu np hn) mw_Model_trap mv_Model_trap k_763 ⟨rfl, rfl, Nat.le_of_ble_eq_true rfl, Nat.le_of_ble_eq_true rfl⟩ hK hP hD hS hA hF [0, 1, 2, 3, 4, 5, 6, 7, 8, 9] [0, 1, 2, 3, 4, 5, 6, 7, 8] rfl rfl rfl 0 5 rfl rfl rfl rfl hl.1 rfl (Nat.le_of_ble_eq_true rfl) d_Model_place_21 ⟨Nat.zero_le _, Nat.zero_le _⟩) hP hD hS hA [0, 1, 2, 3, 4, 5, 6, 7, 8, 9] [] [0, 1, 2, 3, 4, 5, 6, 7, 8, 9] rfl rfl rfl (by decide) (fun _ => rfl) rfl (fun u_4 H locs h_4 hP hD hS => ?_)
      obtain ⟨ca_4, tv_4⟩ := u_4
      dsimp only at hP hD
      refine lv_ldc2 (v := (-1)) hx hb hown (hts _ k_624) d_Model_place_24 ?_
      exact rl (ca_4, tv_4) hx hb hr hlocks hP hD hS d_Model_place_27 (by simp only [sp_Model_place, h_4, if_neg c_1, if_neg c_3])
    · refine lv_iconst (v := 4) hx hb d_Model_place_14 rfl ?_
      refine lv_goto (tgt := 20) hx hb d_Model_place_15 (by decide) ?_
      refine lv_iload_n hx hb d_Model_place_20 rfl (lv_at hl 1 rfl) ?_
      refine xv (wr := []) (W2 := fun u9 => wR a k n h u9.1 u9.2 nx pcs lv cs x b cl cm so ti pu np) (xV (rest := []) ⟨hx, hb, hml, hown, hts⟩ (c_Model_trap a k n 4 x0 h ca tv nx pcs lv cs x b cl cm so ti pu np hn) mw_Model_trap mv_Model_trap k_763 ⟨rfl, rfl, Nat.le_of_ble_eq_true rfl, Nat.le_of_ble_eq_true rfl⟩ hK hP hD hS hA hF [0, 1, 2, 3, 4, 5, 6, 7, 8, 9] [0, 1, 2, 3, 4, 5, 6, 7, 8] rfl rfl rfl 0 5 rfl rfl rfl rfl hl.1 rfl (Nat.le_of_ble_eq_true rfl) d_Model_place_21 ⟨Nat.zero_le _, Nat.zero_le _⟩) hP hD hS hA [0, 1, 2, 3, 4, 5, 6, 7, 8, 9] [] [0, 1, 2, 3, 4, 5, 6, 7, 8, 9] rfl rfl rfl (by decide) (fun _ => rfl) rfl (fun u_5 H locs h_5 hP hD hS => ?_)
      obtain ⟨ca_5, tv_5⟩ := u_5
      dsimp only at hP hD
      refine lv_ldc2 (v := (-1)) hx hb hown (hts _ k_624) d_Model_place_24 ?_
      exact rl (ca_5, tv_5) hx hb hr hlocks hP hD hS d_Model_place_27 (by simp only [sp_Model_place, h_5, if_neg c_1, if_pos c_3])
theorem pl_low {n : Nat} {x0 N x2 h ca tv : Int32} {lv cs b : Nat → Int32} {r : Int64} {u : Int32 × Int32} (e : sp_Model_place n x0 N x2 h ca tv lv cs b = (r, u)) (c1 : 0 ≤ r) : (x0 &&& (N - 1)) = 0 ∧ r.toBitVec.toNat % 4096 = x0.toBitVec.toNat % 4096 := by
  unfold sp_Model_place at e
  dsimp only at e
  by_cases h1 : (x0 &&& (N - 1)) = 0
  · rw [if_pos h1] at e
    have h2 := tr_low n x0 x2 h ca tv lv cs b
    have e2 : (sp_Model_translate n x0 x2 h ca tv lv cs b).1 = r := congrArg Prod.fst e
    unfold trP at h2
    rw [e2] at h2
    exact ⟨h1, h2 c1⟩
  · rw [if_neg h1] at e
    exfalso
    by_cases h2 : x2 = 1
    · rw [if_pos h2] at e
      have e2 : (-1 : Int64) = r := congrArg Prod.fst e
      rw [← e2] at c1
      exact absurd c1 (by decide)
    · rw [if_neg h2] at e
      have e2 : (-1 : Int64) = r := congrArg Prod.fst e
      rw [← e2] at c1
      exact absurd c1 (by decide)
theorem pl_in {n : Nat} {x0 N x2 h ca tv : Int32} {lv cs b : Nat → Int32} {r : Int64} {u : Int32 × Int32} (hn : n ≤ 4096) (hN : N = 1 ∨ N = 2 ∨ N = 4) (e : sp_Model_place n x0 N x2 h ca tv lv cs b = (r, u)) (c1 : 0 ≤ r) (c2 : 0 ≤ sp_Model_inRam n r) : ∃ j, sp_Model_inRam n r = nI j ∧ j + N.toNatClampNeg ≤ 4 * n ∧ j < 4 * n ∧ j % N.toNatClampNeg = 0 := by
  obtain ⟨h1, h2⟩ := pl_low e c1
  obtain ⟨j, hj, e2, h3⟩ := ram_low hn c2 h2
  refine ⟨j, e2, ?_⟩
  rcases hN with rfl | rfl | rfl
  · have : (1 : Int32).toNatClampNeg = 1 := rfl
    rw [this]; omega
  · have h4 := and0 (m := 2 - 1) 1 (by decide) h1
    have : (2 : Int32).toNatClampNeg = 2 := rfl
    rw [this]; omega
  · have h4 := and0 (m := 4 - 1) 2 (by decide) h1
    have : (4 : Int32).toNatClampNeg = 4 := rfl
    rw [this]; omega
theorem vp_load {n : Nat} {x0 N x2 h ca tv : Int32} {lv cs b : Nat → Int32} {r : Int64} {u : Int32 × Int32} (hn : n ≤ 4096) (e : sp_Model_place n x0 N x2 h ca tv lv cs b = (r, u)) (c1 : 0 ≤ r) (c2 : 0 ≤ sp_Model_inRam n r) {k : Nat} (hk : (N = 1 ∨ N = 2 ∨ N = 4) ∧ k < N.toNatClampNeg) : vp_in (sp_Model_inRam n r + nI k) 16384 := by
  obtain ⟨j, e2, h1, -⟩ := pl_in hn hk.1 e c1 c2
  rw [e2]
  exact vp_add (by omega) (by decide)
theorem sb_store {n : Nat} {x0 N x2 h ca tv : Int32} {lv cs b : Nat → Int32} {r : Int64} {u : Int32 × Int32} (hn : n ≤ 4096) (e : sp_Model_place n x0 N x2 h ca tv lv cs b = (r, u)) (c1 : 0 ≤ r) (c2 : 0 ≤ sp_Model_inRam n r) (hN : N = 1 ∨ N = 2 ∨ N = 4) : ∀ k : Nat, k < N.toNatClampNeg → vp_in (sp_Model_inRam n r + nI k) 16384 :=
  fun _ hk => vp_load hn e c1 c2 ⟨hN, hk⟩
def sp_Model_load (n : Nat) (x0 : Int32) (x1 : Int32) (h : Int32) (ca : Int32) (tv : Int32) (lv : Nat → Int32) (cs : Nat → Int32) (b : Nat → Int32) (cm : Nat → Int64) (so : Nat → Int32) (ti : Int64) : Int32 × Int32 × Int32 :=
  if x1 = 1 then
    let r_1 := (sp_Model_place n x0 1 1 h ca tv lv cs b).1
    let ca_1 := (sp_Model_place n x0 1 1 h ca tv lv cs b).2.1
    let tv_1 := (sp_Model_place n x0 1 1 h ca tv lv cs b).2.2
    if 0 ≤ r_1 then
      if (sp_Model_inRam n r_1) < 0 then
        let ca_7 := (sp_Model_trap 5 x0 ca_1 tv_1).1
        let tv_7 := (sp_Model_trap 5 x0 ca_1 tv_1).2
        (0, (ca_7, tv_7))
      else
        ((shl 0 8) ||| (sp_Model_ramByte ((sp_Model_inRam n r_1) + 0) b), (ca_1, tv_1))
    else
      (0, (ca_1, tv_1))
  else
    if x1 = 2 then
      let r_1 := (sp_Model_place n x0 2 1 h ca tv lv cs b).1
      let ca_1 := (sp_Model_place n x0 2 1 h ca tv lv cs b).2.1
      let tv_1 := (sp_Model_place n x0 2 1 h ca tv lv cs b).2.2
      if 0 ≤ r_1 then
        if (sp_Model_inRam n r_1) < 0 then
          let ca_7 := (sp_Model_trap 5 x0 ca_1 tv_1).1
          let tv_7 := (sp_Model_trap 5 x0 ca_1 tv_1).2
          (0, (ca_7, tv_7))
        else
          ((shl ((shl 0 8) ||| (sp_Model_ramByte ((sp_Model_inRam n r_1) + 1) b)) 8) ||| (sp_Model_ramByte ((sp_Model_inRam n r_1) + 0) b), (ca_1, tv_1))
      else
        (0, (ca_1, tv_1))
    else
      let r_1 := (sp_Model_place n x0 4 1 h ca tv lv cs b).1
      let ca_1 := (sp_Model_place n x0 4 1 h ca tv lv cs b).2.1
      let tv_1 := (sp_Model_place n x0 4 1 h ca tv lv cs b).2.2
      if 0 ≤ r_1 then
        if (sp_Model_inRam n r_1) < 0 then
          if 0 ≤ (sp_Model_clint r_1) then
            (sp_Model_clintWord (sp_Model_clint r_1) cm so ti, (ca_1, tv_1))
          else
            let ca_10 := (sp_Model_trap 5 x0 ca_1 tv_1).1
            let tv_10 := (sp_Model_trap 5 x0 ca_1 tv_1).2
            (0, (ca_10, tv_10))
        else
          ((shl ((shl ((shl ((shl 0 8) ||| (sp_Model_ramByte ((sp_Model_inRam n r_1) + 3) b)) 8) ||| (sp_Model_ramByte ((sp_Model_inRam n r_1) + 2) b)) 8) ||| (sp_Model_ramByte ((sp_Model_inRam n r_1) + 1) b)) 8) ||| (sp_Model_ramByte ((sp_Model_inRam n r_1) + 0) b), (ca_1, tv_1))
      else
        (0, (ca_1, tv_1))
set_option maxHeartbeats 4000000 in
set_option maxRecDepth 100000 in
theorem c_Model_load {l : Launch} {D : va_G} {g : Nat → Nat} (a : Nat → Nat) (k : Nat → ClassId) (n : Nat) (x0 : Int32) (x1 : Int32) (h ca tv nx : Int32) (pcs lv cs x b cl : Nat → Int32) (cm : Nat → Int64) (so : Nat → Int32) (ti : Int64) (pu : Nat → Int32) (np : Int32) (hn : n ≤ 4096) (hh : h = 0 ∨ h = 1) (h3 : x1 = 1 ∨ x1 = 2 ∨ x1 = 4) : CT l D g y_Model_load b_Model_load 8 (some .int) (rD 5) [.ref (a 0), .int x0, .int x1] (wR a k n h ca tv nx pcs lv cs x b cl cm so ti pu np) (tyR k) (Qi D (fun (r : Int32) (u : Int32 × Int32) => sp_Model_load n x0 x1 h ca tv lv cs b cm so ti = (r, u)) (fun u => wR a k n h u.1 u.2 nx pcs lv cs x b cl cm so ti pu np)) := by
  rcases h3 with rfl | rfl | rfl
  · refine CT.of rfl (Nat.le_of_ble_eq_true rfl) (fun p e s m below meth c A ls hx hb hr hml hts hown hlocks hA hP hK hD hF hS hl => ?_)
    have hl : lv_has ls 8 [(0, .ref (a 0)), (1, .int x0), (2, .int 1)] := hl
    refine lv_aload_n hx hb d_Model_load_0 rfl (lv_at hl 0 rfl) ?_
    refine lv_iload_n hx hb d_Model_load_1 rfl (lv_at hl 1 rfl) ?_
    refine lv_iload_n hx hb d_Model_load_2 rfl (lv_at hl 2 rfl) ?_
    refine lv_iconst (v := 1) hx hb d_Model_load_3 rfl ?_
    refine xl (wr := []) (W2 := fun u9 => wR a k n h u9.1 u9.2 nx pcs lv cs x b cl cm so ti pu np) (xV (rest := []) ⟨hx, hb, hml, hown, hts⟩ (c_Model_place a k n x0 1 1 h ca tv nx pcs lv cs x b cl cm so ti pu np hn hh) mw_Model_place mv_Model_place k_821 ⟨rfl, rfl, Nat.le_of_ble_eq_true rfl, Nat.le_of_ble_eq_true rfl⟩ hK hP hD hS hA hF [0, 1, 2, 3, 4, 5, 6, 7, 8, 9] [0, 1, 2, 3, 4, 5, 6, 7, 8] rfl rfl rfl 0 5 rfl rfl rfl rfl hl.1 rfl (Nat.le_of_ble_eq_true rfl) d_Model_load_4 ⟨Nat.zero_le _, Nat.zero_le _⟩) hP hD hS hA [0, 1, 2, 3, 4, 5, 6, 7, 8, 9] [] [0, 1, 2, 3, 4, 5, 6, 7, 8, 9] rfl rfl rfl (by decide) (fun _ => rfl) rfl (fun r_1 u_1 H locs h_1 hP hD hS => ?_)
    obtain ⟨ca_1, tv_1⟩ := u_1
    dsimp only at hP hD
    refine lv_lstore_n (lv' := [(3, .long r_1), (0, .ref (a 0)), (1, .int x0), (2, .int 1)]) hx hb d_Model_load_7 rfl hl (by decide) rfl (fun ls hl => ?_)
    refine lv_lload_n hx hb d_Model_load_8 rfl (lv_at hl 0 rfl) ?_
    refine lv_lconst (v := 0) hx hb d_Model_load_9 rfl ?_
    refine W.lcmp hx hb d_Model_load_10 ?_
    refine lv_if_ge (tgt := 16) hx hb d_Model_load_11 (by decide) (fun b_2 => ?_) (fun b_2 => ?_)
    · have c_2 : 0 ≤ r_1 := (lg_cmp_ge _ _).mp b_2
      refine lv_aload_n hx hb d_Model_load_16 rfl (lv_at hl 1 rfl) ?_
      refine lv_lload_n hx hb d_Model_load_17 rfl (lv_at hl 0 rfl) ?_
      refine xi (wr := []) (W2 := fun _ => wR a k n h ca_1 tv_1 nx pcs lv cs x b cl cm so ti pu np) (xV (rest := []) ⟨hx, hb, hml, hown, hts⟩ (c_Model_inRam a k n r_1 h ca_1 tv_1 nx pcs lv cs x b cl cm so ti pu np hn) mw_Model_inRam mv_Model_inRam k_755 ⟨rfl, rfl, Nat.le_of_ble_eq_true rfl, Nat.le_of_ble_eq_true rfl⟩ hK hP hD hS hA hF [0, 1, 2, 3, 4, 5, 6, 7, 8, 9] [0, 1, 2, 3, 4, 5, 6, 7, 8] rfl rfl rfl 0 5 rfl rfl rfl rfl hl.1 rfl (Nat.le_of_ble_eq_true rfl) d_Model_load_18 ⟨Nat.zero_le _, Nat.zero_le _⟩) hP hD hS hA [0, 1, 2, 3, 4, 5, 6, 7, 8, 9] [] [0, 1, 2, 3, 4, 5, 6, 7, 8, 9] rfl rfl rfl (by decide) (fun _ => rfl) rfl (fun r_3 _ H locs h_3 hP hD hS => ?_)
      subst h_3
      refine lv_istore (lv' := [(5, .int (sp_Model_inRam n r_1)), (3, .long r_1), (0, .ref (a 0)), (1, .int x0), (2, .int 1)]) hx hb d_Model_load_21 hl (by decide) rfl (fun ls hl => ?_)
      refine lv_iload hx hb d_Model_load_23 (lv_at hl 0 rfl) ?_
      refine lv_if_lt (tgt := 67) hx hb d_Model_load_25 (by decide) (fun c_4 => ?_) (fun c_4 => ?_)
      · refine lv_iload_n hx hb d_Model_load_67 rfl (lv_at hl 4 rfl) ?_
        refine lv_iconst (v := 4) hx hb d_Model_load_68 rfl ?_
        refine lv_icmp_ne (tgt := 79) hx hb d_Model_load_69 (by decide) (fun _ => ?_) (fun h9 => absurd h9 (by decide))
        refine lv_iconst (v := (-1)) hx hb d_Model_load_79 rfl ?_
        refine lv_istore (lv' := [(6, .int (-1)), (5, .int (sp_Model_inRam n r_1)), (3, .long r_1), (0, .ref (a 0)), (1, .int x0), (2, .int 1)]) hx hb d_Model_load_80 hl (by decide) rfl (fun ls hl => ?_)
        refine lv_iload hx hb d_Model_load_82 (lv_at hl 0 rfl) ?_
        refine lv_if_ge (tgt := 93) hx hb d_Model_load_84 (by decide) (fun h9 => absurd h9 (by decide)) (fun _ => ?_)
        refine lv_aload_n hx hb d_Model_load_87 rfl (lv_at hl 3 rfl) ?_
        refine lv_iconst (v := 5) hx hb d_Model_load_88 rfl ?_
        refine lv_iload_n hx hb d_Model_load_89 rfl (lv_at hl 4 rfl) ?_
        refine xv (wr := []) (W2 := fun u9 => wR a k n h u9.1 u9.2 nx pcs lv cs x b cl cm so ti pu np) (xV (rest := []) ⟨hx, hb, hml, hown, hts⟩ (c_Model_trap a k n 5 x0 h ca_1 tv_1 nx pcs lv cs x b cl cm so ti pu np hn) mw_Model_trap mv_Model_trap k_763 ⟨rfl, rfl, Nat.le_of_ble_eq_true rfl, Nat.le_of_ble_eq_true rfl⟩ hK hP hD hS hA hF [0, 1, 2, 3, 4, 5, 6, 7, 8, 9] [0, 1, 2, 3, 4, 5, 6, 7, 8] rfl rfl rfl 0 5 rfl rfl rfl rfl hl.1 rfl (Nat.le_of_ble_eq_true rfl) d_Model_load_90 ⟨Nat.zero_le _, Nat.zero_le _⟩) hP hD hS hA [0, 1, 2, 3, 4, 5, 6, 7, 8, 9] [] [0, 1, 2, 3, 4, 5, 6, 7, 8, 9] rfl rfl rfl (by decide) (fun _ => rfl) rfl (fun u_7 H locs h_7 hP hD hS => ?_)
        obtain ⟨ca_7, tv_7⟩ := u_7
        dsimp only at hP hD
        refine lv_iload hx hb d_Model_load_93 (lv_at hl 0 rfl) ?_
        refine lv_if_ge (tgt := 102) hx hb d_Model_load_95 (by decide) (fun h9 => absurd h9 (by decide)) (fun _ => ?_)
        refine lv_iconst (v := 0) hx hb d_Model_load_98 rfl ?_
        refine lv_goto (tgt := 108) hx hb d_Model_load_99 (by decide) ?_
        exact ri (ca_7, tv_7) hx hb hr hlocks hP hD hS d_Model_load_108 (by simp only [sp_Model_load, h_1, h_7, if_pos (rfl : (1 : Int32) = 1), if_pos c_2, if_pos c_4, if_true, if_false])
      · refine lv_iconst (v := 0) hx hb d_Model_load_28 rfl ?_
        refine lv_istore (lv' := [(6, .int 0), (5, .int (sp_Model_inRam n r_1)), (3, .long r_1), (0, .ref (a 0)), (1, .int x0), (2, .int 1)]) hx hb d_Model_load_29 hl (by decide) rfl (fun ls hl => ?_)
        refine lv_iload_n hx hb d_Model_load_31 rfl (lv_at hl 5 rfl) ?_
        refine lv_iconst (v := 1) hx hb d_Model_load_32 rfl ?_
        refine lv_isub hx hb d_Model_load_33 ?_
        refine W.eq (g2 := F0 m 34 ls [.int 0]) rfl ?_
        refine lv_istore (lv' := [(7, .int 0), (6, .int 0), (5, .int (sp_Model_inRam n r_1)), (3, .long r_1), (0, .ref (a 0)), (1, .int x0), (2, .int 1)]) hx hb d_Model_load_34 hl (by decide) rfl (fun ls hl => ?_)
        refine lv_iload hx hb d_Model_load_36 (lv_at hl 0 rfl) ?_
        refine lv_if_lt (tgt := 64) hx hb d_Model_load_38 (by decide) (fun h9 => absurd h9 (by decide)) (fun _ => ?_)
        refine lv_iload hx hb d_Model_load_41 (lv_at hl 1 rfl) ?_
        refine lv_bipush (v := 8) hx hb d_Model_load_43 rfl ?_
        refine y_ishl hx hb d_Model_load_45 ?_
        refine lv_aload_n hx hb d_Model_load_46 rfl (lv_at hl 4 rfl) ?_
        refine lv_iload hx hb d_Model_load_47 (lv_at hl 2 rfl) ?_
        refine lv_iload hx hb d_Model_load_49 (lv_at hl 0 rfl) ?_
        refine lv_iadd hx hb d_Model_load_51 ?_
        refine xi (wr := []) (W2 := fun _ => wR a k n h ca_1 tv_1 nx pcs lv cs x b cl cm so ti pu np) (xV (rest := [.int (shl 0 8)]) ⟨hx, hb, hml, hown, hts⟩ (c_Model_ramByte a k n ((sp_Model_inRam n r_1) + 0) h ca_1 tv_1 nx pcs lv cs x b cl cm so ti pu np hn (vp_load hn h_1 c_2 (Int32.not_lt.mp c_4) (k := 0) (by decide))) mw_Model_ramByte mv_Model_ramByte k_694 ⟨rfl, rfl, Nat.le_of_ble_eq_true rfl, Nat.le_of_ble_eq_true rfl⟩ hK hP hD hS hA hF [0, 1, 2, 3, 4, 5, 6, 7, 8, 9] [0, 1, 2, 3, 4, 5, 6, 7, 8] rfl rfl rfl 0 5 rfl rfl rfl rfl hl.1 rfl (Nat.le_of_ble_eq_true rfl) d_Model_load_52 ⟨Nat.zero_le _, Nat.zero_le _⟩) hP hD hS hA [0, 1, 2, 3, 4, 5, 6, 7, 8, 9] [] [0, 1, 2, 3, 4, 5, 6, 7, 8, 9] rfl rfl rfl (by decide) (fun _ => rfl) rfl (fun r_10 _ H locs h_10 hP hD hS => ?_)
        subst h_10
        refine lv_ior hx hb d_Model_load_55 ?_
        refine lv_istore (lv' := [(6, .int ((shl 0 8) ||| (sp_Model_ramByte ((sp_Model_inRam n r_1) + 0) b))), (7, .int 0), (5, .int (sp_Model_inRam n r_1)), (3, .long r_1), (0, .ref (a 0)), (1, .int x0), (2, .int 1)]) hx hb d_Model_load_56 hl (by decide) rfl (fun ls hl => ?_)
        refine lv_iinc (v := (-1)) (lv' := [(7, .int (-1)), (6, .int ((shl 0 8) ||| (sp_Model_ramByte ((sp_Model_inRam n r_1) + 0) b))), (5, .int (sp_Model_inRam n r_1)), (3, .long r_1), (0, .ref (a 0)), (1, .int x0), (2, .int 1)]) hx hb d_Model_load_58 hl (k := 1) rfl rfl (by decide) rfl (fun ls hl => ?_)
        refine lv_goto (tgt := 36) hx hb d_Model_load_61 (by decide) ?_
        refine lv_iload hx hb d_Model_load_36 (lv_at hl 0 rfl) ?_
        refine lv_if_lt (tgt := 64) hx hb d_Model_load_38 (by decide) (fun _ => ?_) (fun h9 => absurd (by decide) h9)
        refine lv_iload hx hb d_Model_load_64 (lv_at hl 1 rfl) ?_
        exact ri (ca_1, tv_1) hx hb hr hlocks hP hD hS d_Model_load_66 (by simp only [sp_Model_load, h_1, if_pos (rfl : (1 : Int32) = 1), if_pos c_2, if_neg c_4, if_true, if_false])
    · have c_2 : ¬ 0 ≤ r_1 := fun h9 => b_2 ((lg_cmp_ge _ _).mpr h9)
      refine lv_iconst (v := 0) hx hb d_Model_load_14 rfl ?_
      exact ri (ca_1, tv_1) hx hb hr hlocks hP hD hS d_Model_load_15 (by simp only [sp_Model_load, h_1, if_pos (rfl : (1 : Int32) = 1), if_neg c_2, if_true, if_false])
  · refine CT.of rfl (Nat.le_of_ble_eq_true rfl) (fun p e s m below meth c A ls hx hb hr hml hts hown hlocks hA hP hK hD hF hS hl => ?_)
    have hl : lv_has ls 8 [(0, .ref (a 0)), (1, .int x0), (2, .int 2)] := hl
    refine lv_aload_n hx hb d_Model_load_0 rfl (lv_at hl 0 rfl) ?_
    refine lv_iload_n hx hb d_Model_load_1 rfl (lv_at hl 1 rfl) ?_
    refine lv_iload_n hx hb d_Model_load_2 rfl (lv_at hl 2 rfl) ?_
    refine lv_iconst (v := 1) hx hb d_Model_load_3 rfl ?_
    refine xl (wr := []) (W2 := fun u9 => wR a k n h u9.1 u9.2 nx pcs lv cs x b cl cm so ti pu np) (xV (rest := []) ⟨hx, hb, hml, hown, hts⟩ (c_Model_place a k n x0 2 1 h ca tv nx pcs lv cs x b cl cm so ti pu np hn hh) mw_Model_place mv_Model_place k_821 ⟨rfl, rfl, Nat.le_of_ble_eq_true rfl, Nat.le_of_ble_eq_true rfl⟩ hK hP hD hS hA hF [0, 1, 2, 3, 4, 5, 6, 7, 8, 9] [0, 1, 2, 3, 4, 5, 6, 7, 8] rfl rfl rfl 0 5 rfl rfl rfl rfl hl.1 rfl (Nat.le_of_ble_eq_true rfl) d_Model_load_4 ⟨Nat.zero_le _, Nat.zero_le _⟩) hP hD hS hA [0, 1, 2, 3, 4, 5, 6, 7, 8, 9] [] [0, 1, 2, 3, 4, 5, 6, 7, 8, 9] rfl rfl rfl (by decide) (fun _ => rfl) rfl (fun r_1 u_1 H locs h_1 hP hD hS => ?_)
    obtain ⟨ca_1, tv_1⟩ := u_1
    dsimp only at hP hD
    refine lv_lstore_n (lv' := [(3, .long r_1), (0, .ref (a 0)), (1, .int x0), (2, .int 2)]) hx hb d_Model_load_7 rfl hl (by decide) rfl (fun ls hl => ?_)
    refine lv_lload_n hx hb d_Model_load_8 rfl (lv_at hl 0 rfl) ?_
    refine lv_lconst (v := 0) hx hb d_Model_load_9 rfl ?_
    refine W.lcmp hx hb d_Model_load_10 ?_
    refine lv_if_ge (tgt := 16) hx hb d_Model_load_11 (by decide) (fun b_2 => ?_) (fun b_2 => ?_)
    · have c_2 : 0 ≤ r_1 := (lg_cmp_ge _ _).mp b_2
      refine lv_aload_n hx hb d_Model_load_16 rfl (lv_at hl 1 rfl) ?_
      refine lv_lload_n hx hb d_Model_load_17 rfl (lv_at hl 0 rfl) ?_
      refine xi (wr := []) (W2 := fun _ => wR a k n h ca_1 tv_1 nx pcs lv cs x b cl cm so ti pu np) (xV (rest := []) ⟨hx, hb, hml, hown, hts⟩ (c_Model_inRam a k n r_1 h ca_1 tv_1 nx pcs lv cs x b cl cm so ti pu np hn) mw_Model_inRam mv_Model_inRam k_755 ⟨rfl, rfl, Nat.le_of_ble_eq_true rfl, Nat.le_of_ble_eq_true rfl⟩ hK hP hD hS hA hF [0, 1, 2, 3, 4, 5, 6, 7, 8, 9] [0, 1, 2, 3, 4, 5, 6, 7, 8] rfl rfl rfl 0 5 rfl rfl rfl rfl hl.1 rfl (Nat.le_of_ble_eq_true rfl) d_Model_load_18 ⟨Nat.zero_le _, Nat.zero_le _⟩) hP hD hS hA [0, 1, 2, 3, 4, 5, 6, 7, 8, 9] [] [0, 1, 2, 3, 4, 5, 6, 7, 8, 9] rfl rfl rfl (by decide) (fun _ => rfl) rfl (fun r_3 _ H locs h_3 hP hD hS => ?_)
      subst h_3
      refine lv_istore (lv' := [(5, .int (sp_Model_inRam n r_1)), (3, .long r_1), (0, .ref (a 0)), (1, .int x0), (2, .int 2)]) hx hb d_Model_load_21 hl (by decide) rfl (fun ls hl => ?_)
      refine lv_iload hx hb d_Model_load_23 (lv_at hl 0 rfl) ?_
      refine lv_if_lt (tgt := 67) hx hb d_Model_load_25 (by decide) (fun c_4 => ?_) (fun c_4 => ?_)
      · refine lv_iload_n hx hb d_Model_load_67 rfl (lv_at hl 4 rfl) ?_
        refine lv_iconst (v := 4) hx hb d_Model_load_68 rfl ?_
        refine lv_icmp_ne (tgt := 79) hx hb d_Model_load_69 (by decide) (fun _ => ?_) (fun h9 => absurd h9 (by decide))
        refine lv_iconst (v := (-1)) hx hb d_Model_load_79 rfl ?_
        refine lv_istore (lv' := [(6, .int (-1)), (5, .int (sp_Model_inRam n r_1)), (3, .long r_1), (0, .ref (a 0)), (1, .int x0), (2, .int 2)]) hx hb d_Model_load_80 hl (by decide) rfl (fun ls hl => ?_)
        refine lv_iload hx hb d_Model_load_82 (lv_at hl 0 rfl) ?_
        refine lv_if_ge (tgt := 93) hx hb d_Model_load_84 (by decide) (fun h9 => absurd h9 (by decide)) (fun _ => ?_)
        refine lv_aload_n hx hb d_Model_load_87 rfl (lv_at hl 3 rfl) ?_
        refine lv_iconst (v := 5) hx hb d_Model_load_88 rfl ?_
        refine lv_iload_n hx hb d_Model_load_89 rfl (lv_at hl 4 rfl) ?_
        refine xv (wr := []) (W2 := fun u9 => wR a k n h u9.1 u9.2 nx pcs lv cs x b cl cm so ti pu np) (xV (rest := []) ⟨hx, hb, hml, hown, hts⟩ (c_Model_trap a k n 5 x0 h ca_1 tv_1 nx pcs lv cs x b cl cm so ti pu np hn) mw_Model_trap mv_Model_trap k_763 ⟨rfl, rfl, Nat.le_of_ble_eq_true rfl, Nat.le_of_ble_eq_true rfl⟩ hK hP hD hS hA hF [0, 1, 2, 3, 4, 5, 6, 7, 8, 9] [0, 1, 2, 3, 4, 5, 6, 7, 8] rfl rfl rfl 0 5 rfl rfl rfl rfl hl.1 rfl (Nat.le_of_ble_eq_true rfl) d_Model_load_90 ⟨Nat.zero_le _, Nat.zero_le _⟩) hP hD hS hA [0, 1, 2, 3, 4, 5, 6, 7, 8, 9] [] [0, 1, 2, 3, 4, 5, 6, 7, 8, 9] rfl rfl rfl (by decide) (fun _ => rfl) rfl (fun u_7 H locs h_7 hP hD hS => ?_)
        obtain ⟨ca_7, tv_7⟩ := u_7
        dsimp only at hP hD
        refine lv_iload hx hb d_Model_load_93 (lv_at hl 0 rfl) ?_
        refine lv_if_ge (tgt := 102) hx hb d_Model_load_95 (by decide) (fun h9 => absurd h9 (by decide)) (fun _ => ?_)
        refine lv_iconst (v := 0) hx hb d_Model_load_98 rfl ?_
        refine lv_goto (tgt := 108) hx hb d_Model_load_99 (by decide) ?_
        exact ri (ca_7, tv_7) hx hb hr hlocks hP hD hS d_Model_load_108 (by simp only [sp_Model_load, h_1, h_7, if_neg (by decide : ¬ (2 : Int32) = 1), if_pos (rfl : (2 : Int32) = 2), if_pos c_2, if_pos c_4, if_true, if_false])
      · refine lv_iconst (v := 0) hx hb d_Model_load_28 rfl ?_
        refine lv_istore (lv' := [(6, .int 0), (5, .int (sp_Model_inRam n r_1)), (3, .long r_1), (0, .ref (a 0)), (1, .int x0), (2, .int 2)]) hx hb d_Model_load_29 hl (by decide) rfl (fun ls hl => ?_)
        refine lv_iload_n hx hb d_Model_load_31 rfl (lv_at hl 5 rfl) ?_
        refine lv_iconst (v := 1) hx hb d_Model_load_32 rfl ?_
        refine lv_isub hx hb d_Model_load_33 ?_
        refine W.eq (g2 := F0 m 34 ls [.int 1]) rfl ?_
        refine lv_istore (lv' := [(7, .int 1), (6, .int 0), (5, .int (sp_Model_inRam n r_1)), (3, .long r_1), (0, .ref (a 0)), (1, .int x0), (2, .int 2)]) hx hb d_Model_load_34 hl (by decide) rfl (fun ls hl => ?_)
        refine lv_iload hx hb d_Model_load_36 (lv_at hl 0 rfl) ?_
        refine lv_if_lt (tgt := 64) hx hb d_Model_load_38 (by decide) (fun h9 => absurd h9 (by decide)) (fun _ => ?_)
        refine lv_iload hx hb d_Model_load_41 (lv_at hl 1 rfl) ?_
        refine lv_bipush (v := 8) hx hb d_Model_load_43 rfl ?_
        refine y_ishl hx hb d_Model_load_45 ?_
        refine lv_aload_n hx hb d_Model_load_46 rfl (lv_at hl 4 rfl) ?_
        refine lv_iload hx hb d_Model_load_47 (lv_at hl 2 rfl) ?_
        refine lv_iload hx hb d_Model_load_49 (lv_at hl 0 rfl) ?_
        refine lv_iadd hx hb d_Model_load_51 ?_
        refine xi (wr := []) (W2 := fun _ => wR a k n h ca_1 tv_1 nx pcs lv cs x b cl cm so ti pu np) (xV (rest := [.int (shl 0 8)]) ⟨hx, hb, hml, hown, hts⟩ (c_Model_ramByte a k n ((sp_Model_inRam n r_1) + 1) h ca_1 tv_1 nx pcs lv cs x b cl cm so ti pu np hn (vp_load hn h_1 c_2 (Int32.not_lt.mp c_4) (k := 1) (by decide))) mw_Model_ramByte mv_Model_ramByte k_694 ⟨rfl, rfl, Nat.le_of_ble_eq_true rfl, Nat.le_of_ble_eq_true rfl⟩ hK hP hD hS hA hF [0, 1, 2, 3, 4, 5, 6, 7, 8, 9] [0, 1, 2, 3, 4, 5, 6, 7, 8] rfl rfl rfl 0 5 rfl rfl rfl rfl hl.1 rfl (Nat.le_of_ble_eq_true rfl) d_Model_load_52 ⟨Nat.zero_le _, Nat.zero_le _⟩) hP hD hS hA [0, 1, 2, 3, 4, 5, 6, 7, 8, 9] [] [0, 1, 2, 3, 4, 5, 6, 7, 8, 9] rfl rfl rfl (by decide) (fun _ => rfl) rfl (fun r_10 _ H locs h_10 hP hD hS => ?_)
        subst h_10
        refine lv_ior hx hb d_Model_load_55 ?_
        refine lv_istore (lv' := [(6, .int ((shl 0 8) ||| (sp_Model_ramByte ((sp_Model_inRam n r_1) + 1) b))), (7, .int 1), (5, .int (sp_Model_inRam n r_1)), (3, .long r_1), (0, .ref (a 0)), (1, .int x0), (2, .int 2)]) hx hb d_Model_load_56 hl (by decide) rfl (fun ls hl => ?_)
        refine lv_iinc (v := 0) (lv' := [(7, .int 0), (6, .int ((shl 0 8) ||| (sp_Model_ramByte ((sp_Model_inRam n r_1) + 1) b))), (5, .int (sp_Model_inRam n r_1)), (3, .long r_1), (0, .ref (a 0)), (1, .int x0), (2, .int 2)]) hx hb d_Model_load_58 hl (k := 1) rfl rfl (by decide) rfl (fun ls hl => ?_)
        refine lv_goto (tgt := 36) hx hb d_Model_load_61 (by decide) ?_
        refine lv_iload hx hb d_Model_load_36 (lv_at hl 0 rfl) ?_
        refine lv_if_lt (tgt := 64) hx hb d_Model_load_38 (by decide) (fun h9 => absurd h9 (by decide)) (fun _ => ?_)
        refine lv_iload hx hb d_Model_load_41 (lv_at hl 1 rfl) ?_
        refine lv_bipush (v := 8) hx hb d_Model_load_43 rfl ?_
        refine y_ishl hx hb d_Model_load_45 ?_
        refine lv_aload_n hx hb d_Model_load_46 rfl (lv_at hl 4 rfl) ?_
        refine lv_iload hx hb d_Model_load_47 (lv_at hl 2 rfl) ?_
        refine lv_iload hx hb d_Model_load_49 (lv_at hl 0 rfl) ?_
        refine lv_iadd hx hb d_Model_load_51 ?_
        refine xi (wr := []) (W2 := fun _ => wR a k n h ca_1 tv_1 nx pcs lv cs x b cl cm so ti pu np) (xV (rest := [.int (shl ((shl 0 8) ||| (sp_Model_ramByte ((sp_Model_inRam n r_1) + 1) b)) 8)]) ⟨hx, hb, hml, hown, hts⟩ (c_Model_ramByte a k n ((sp_Model_inRam n r_1) + 0) h ca_1 tv_1 nx pcs lv cs x b cl cm so ti pu np hn (vp_load hn h_1 c_2 (Int32.not_lt.mp c_4) (k := 0) (by decide))) mw_Model_ramByte mv_Model_ramByte k_694 ⟨rfl, rfl, Nat.le_of_ble_eq_true rfl, Nat.le_of_ble_eq_true rfl⟩ hK hP hD hS hA hF [0, 1, 2, 3, 4, 5, 6, 7, 8, 9] [0, 1, 2, 3, 4, 5, 6, 7, 8] rfl rfl rfl 0 5 rfl rfl rfl rfl hl.1 rfl (Nat.le_of_ble_eq_true rfl) d_Model_load_52 ⟨Nat.zero_le _, Nat.zero_le _⟩) hP hD hS hA [0, 1, 2, 3, 4, 5, 6, 7, 8, 9] [] [0, 1, 2, 3, 4, 5, 6, 7, 8, 9] rfl rfl rfl (by decide) (fun _ => rfl) rfl (fun r_12 _ H locs h_12 hP hD hS => ?_)
        subst h_12
        refine lv_ior hx hb d_Model_load_55 ?_
        refine lv_istore (lv' := [(6, .int ((shl ((shl 0 8) ||| (sp_Model_ramByte ((sp_Model_inRam n r_1) + 1) b)) 8) ||| (sp_Model_ramByte ((sp_Model_inRam n r_1) + 0) b))), (7, .int 0), (5, .int (sp_Model_inRam n r_1)), (3, .long r_1), (0, .ref (a 0)), (1, .int x0), (2, .int 2)]) hx hb d_Model_load_56 hl (by decide) rfl (fun ls hl => ?_)
        refine lv_iinc (v := (-1)) (lv' := [(7, .int (-1)), (6, .int ((shl ((shl 0 8) ||| (sp_Model_ramByte ((sp_Model_inRam n r_1) + 1) b)) 8) ||| (sp_Model_ramByte ((sp_Model_inRam n r_1) + 0) b))), (5, .int (sp_Model_inRam n r_1)), (3, .long r_1), (0, .ref (a 0)), (1, .int x0), (2, .int 2)]) hx hb d_Model_load_58 hl (k := 1) rfl rfl (by decide) rfl (fun ls hl => ?_)
        refine lv_goto (tgt := 36) hx hb d_Model_load_61 (by decide) ?_
        refine lv_iload hx hb d_Model_load_36 (lv_at hl 0 rfl) ?_
        refine lv_if_lt (tgt := 64) hx hb d_Model_load_38 (by decide) (fun _ => ?_) (fun h9 => absurd (by decide) h9)
        refine lv_iload hx hb d_Model_load_64 (lv_at hl 1 rfl) ?_
        exact ri (ca_1, tv_1) hx hb hr hlocks hP hD hS d_Model_load_66 (by simp only [sp_Model_load, h_1, if_neg (by decide : ¬ (2 : Int32) = 1), if_pos (rfl : (2 : Int32) = 2), if_pos c_2, if_neg c_4, if_true, if_false])
    · have c_2 : ¬ 0 ≤ r_1 := fun h9 => b_2 ((lg_cmp_ge _ _).mpr h9)
      refine lv_iconst (v := 0) hx hb d_Model_load_14 rfl ?_
      exact ri (ca_1, tv_1) hx hb hr hlocks hP hD hS d_Model_load_15 (by simp only [sp_Model_load, h_1, if_neg (by decide : ¬ (2 : Int32) = 1), if_pos (rfl : (2 : Int32) = 2), if_neg c_2, if_true, if_false])
  · refine CT.of rfl (Nat.le_of_ble_eq_true rfl) (fun p e s m below meth c A ls hx hb hr hml hts hown hlocks hA hP hK hD hF hS hl => ?_)
    have hl : lv_has ls 8 [(0, .ref (a 0)), (1, .int x0), (2, .int 4)] := hl
    refine lv_aload_n hx hb d_Model_load_0 rfl (lv_at hl 0 rfl) ?_
    refine lv_iload_n hx hb d_Model_load_1 rfl (lv_at hl 1 rfl) ?_
    refine lv_iload_n hx hb d_Model_load_2 rfl (lv_at hl 2 rfl) ?_
    refine lv_iconst (v := 1) hx hb d_Model_load_3 rfl ?_
    refine xl (wr := []) (W2 := fun u9 => wR a k n h u9.1 u9.2 nx pcs lv cs x b cl cm so ti pu np) (xV (rest := []) ⟨hx, hb, hml, hown, hts⟩ (c_Model_place a k n x0 4 1 h ca tv nx pcs lv cs x b cl cm so ti pu np hn hh) mw_Model_place mv_Model_place k_821 ⟨rfl, rfl, Nat.le_of_ble_eq_true rfl, Nat.le_of_ble_eq_true rfl⟩ hK hP hD hS hA hF [0, 1, 2, 3, 4, 5, 6, 7, 8, 9] [0, 1, 2, 3, 4, 5, 6, 7, 8] rfl rfl rfl 0 5 rfl rfl rfl rfl hl.1 rfl (Nat.le_of_ble_eq_true rfl) d_Model_load_4 ⟨Nat.zero_le _, Nat.zero_le _⟩) hP hD hS hA [0, 1, 2, 3, 4, 5, 6, 7, 8, 9] [] [0, 1, 2, 3, 4, 5, 6, 7, 8, 9] rfl rfl rfl (by decide) (fun _ => rfl) rfl (fun r_1 u_1 H locs h_1 hP hD hS => ?_)
    obtain ⟨ca_1, tv_1⟩ := u_1
    dsimp only at hP hD
    refine lv_lstore_n (lv' := [(3, .long r_1), (0, .ref (a 0)), (1, .int x0), (2, .int 4)]) hx hb d_Model_load_7 rfl hl (by decide) rfl (fun ls hl => ?_)
    refine lv_lload_n hx hb d_Model_load_8 rfl (lv_at hl 0 rfl) ?_
    refine lv_lconst (v := 0) hx hb d_Model_load_9 rfl ?_
    refine W.lcmp hx hb d_Model_load_10 ?_
    refine lv_if_ge (tgt := 16) hx hb d_Model_load_11 (by decide) (fun b_2 => ?_) (fun b_2 => ?_)
    · have c_2 : 0 ≤ r_1 := (lg_cmp_ge _ _).mp b_2
      refine lv_aload_n hx hb d_Model_load_16 rfl (lv_at hl 1 rfl) ?_
      refine lv_lload_n hx hb d_Model_load_17 rfl (lv_at hl 0 rfl) ?_
      refine xi (wr := []) (W2 := fun _ => wR a k n h ca_1 tv_1 nx pcs lv cs x b cl cm so ti pu np) (xV (rest := []) ⟨hx, hb, hml, hown, hts⟩ (c_Model_inRam a k n r_1 h ca_1 tv_1 nx pcs lv cs x b cl cm so ti pu np hn) mw_Model_inRam mv_Model_inRam k_755 ⟨rfl, rfl, Nat.le_of_ble_eq_true rfl, Nat.le_of_ble_eq_true rfl⟩ hK hP hD hS hA hF [0, 1, 2, 3, 4, 5, 6, 7, 8, 9] [0, 1, 2, 3, 4, 5, 6, 7, 8] rfl rfl rfl 0 5 rfl rfl rfl rfl hl.1 rfl (Nat.le_of_ble_eq_true rfl) d_Model_load_18 ⟨Nat.zero_le _, Nat.zero_le _⟩) hP hD hS hA [0, 1, 2, 3, 4, 5, 6, 7, 8, 9] [] [0, 1, 2, 3, 4, 5, 6, 7, 8, 9] rfl rfl rfl (by decide) (fun _ => rfl) rfl (fun r_3 _ H locs h_3 hP hD hS => ?_)
      subst h_3
      refine lv_istore (lv' := [(5, .int (sp_Model_inRam n r_1)), (3, .long r_1), (0, .ref (a 0)), (1, .int x0), (2, .int 4)]) hx hb d_Model_load_21 hl (by decide) rfl (fun ls hl => ?_)
      refine lv_iload hx hb d_Model_load_23 (lv_at hl 0 rfl) ?_
      refine lv_if_lt (tgt := 67) hx hb d_Model_load_25 (by decide) (fun c_4 => ?_) (fun c_4 => ?_)
      · refine lv_iload_n hx hb d_Model_load_67 rfl (lv_at hl 4 rfl) ?_
        refine lv_iconst (v := 4) hx hb d_Model_load_68 rfl ?_
        refine lv_icmp_ne (tgt := 79) hx hb d_Model_load_69 (by decide) (fun h9 => absurd (by decide) h9) (fun _ => ?_)
        refine lv_lload_n hx hb d_Model_load_72 rfl (lv_at hl 1 rfl) ?_
        refine xi (wr := [((a 0), .inr (5, [.int (nI n), .ref (a 1), .ref (a 2), .ref (a 3), .ref (a 4), .ref (a 5), .ref (a 6), .ref (a 7), .ref (a 8), .long ti, .ref (a 9), .int np, .int h, .int ca_1, .int tv_1, .int nx])), ((a 1), .inl ((k 0), 16384, .inl b)), ((a 2), .inl ((k 1), 64, .inl x)), ((a 3), .inl ((k 2), 2, .inl pcs)), ((a 4), .inl ((k 3), 2, .inl lv)), ((a 5), .inl ((k 4), 8192, .inl cs)), ((a 6), .inl ((k 5), 2, .inl cl)), ((a 7), .inl ((k 6), 2, .inr (.inl cm))), ((a 8), .inl ((k 7), 2, .inl so)), ((a 9), .inl ((k 8), 256, .inl pu))]) (W2 := fun _ => wR a k n h ca_1 tv_1 nx pcs lv cs x b cl cm so ti pu np) (xS (rest := []) ⟨hx, hb, hml, hown, hts⟩ (c_Model_clint r_1) mw_Model_clint ms_Model_clint k_825 ⟨rfl, rfl, Nat.le_of_ble_eq_true rfl, Nat.le_of_ble_eq_true rfl⟩ hK hP hD hS hA hF [] [] rfl rfl rfl rfl hl.1 rfl (Nat.le_of_ble_eq_true rfl) d_Model_load_73 ⟨Nat.zero_le _, Nat.zero_le _⟩) hP hD hS hA [] [0, 1, 2, 3, 4, 5, 6, 7, 8, 9] [0, 1, 2, 3, 4, 5, 6, 7, 8, 9] rfl rfl rfl (by decide) (fun _ => rfl) rfl (fun r_6 _ H locs h_6 hP hD hS => ?_)
        subst h_6
        refine lv_goto (tgt := 80) hx hb d_Model_load_76 (by decide) ?_
        refine lv_istore (lv' := [(6, .int (sp_Model_clint r_1)), (5, .int (sp_Model_inRam n r_1)), (3, .long r_1), (0, .ref (a 0)), (1, .int x0), (2, .int 4)]) hx hb d_Model_load_80 hl (by decide) rfl (fun ls hl => ?_)
        refine lv_iload hx hb d_Model_load_82 (lv_at hl 0 rfl) ?_
        refine lv_if_ge (tgt := 93) hx hb d_Model_load_84 (by decide) (fun c_7 => ?_) (fun c_7 => ?_)
        · refine lv_iload hx hb d_Model_load_93 (lv_at hl 0 rfl) ?_
          refine lv_if_ge (tgt := 102) hx hb d_Model_load_95 (by decide) (fun _ => ?_) (fun h9 => absurd c_7 h9)
          refine lv_aload_n hx hb d_Model_load_102 rfl (lv_at hl 3 rfl) ?_
          refine lv_iload hx hb d_Model_load_103 (lv_at hl 0 rfl) ?_
          refine xi (wr := []) (W2 := fun _ => wR a k n h ca_1 tv_1 nx pcs lv cs x b cl cm so ti pu np) (xV (rest := []) ⟨hx, hb, hml, hown, hts⟩ (c_Model_clintWord a k n (sp_Model_clint r_1) h ca_1 tv_1 nx pcs lv cs x b cl cm so ti pu np hn (vp_clint c_7)) mw_Model_clintWord mv_Model_clintWord k_834 ⟨rfl, rfl, Nat.le_of_ble_eq_true rfl, Nat.le_of_ble_eq_true rfl⟩ hK hP hD hS hA hF [0, 1, 2, 3, 4, 5, 6, 7, 8, 9] [0, 1, 2, 3, 4, 5, 6, 7, 8] rfl rfl rfl 0 5 rfl rfl rfl rfl hl.1 rfl (Nat.le_of_ble_eq_true rfl) d_Model_load_105 ⟨Nat.zero_le _, Nat.zero_le _⟩) hP hD hS hA [0, 1, 2, 3, 4, 5, 6, 7, 8, 9] [] [0, 1, 2, 3, 4, 5, 6, 7, 8, 9] rfl rfl rfl (by decide) (fun _ => rfl) rfl (fun r_9 _ H locs h_9 hP hD hS => ?_)
          subst h_9
          exact ri (ca_1, tv_1) hx hb hr hlocks hP hD hS d_Model_load_108 (by simp only [sp_Model_load, h_1, if_neg (by decide : ¬ (4 : Int32) = 1), if_neg (by decide : ¬ (4 : Int32) = 2), if_pos c_2, if_pos c_4, if_pos c_7, if_true, if_false])
        · refine lv_aload_n hx hb d_Model_load_87 rfl (lv_at hl 3 rfl) ?_
          refine lv_iconst (v := 5) hx hb d_Model_load_88 rfl ?_
          refine lv_iload_n hx hb d_Model_load_89 rfl (lv_at hl 4 rfl) ?_
          refine xv (wr := []) (W2 := fun u9 => wR a k n h u9.1 u9.2 nx pcs lv cs x b cl cm so ti pu np) (xV (rest := []) ⟨hx, hb, hml, hown, hts⟩ (c_Model_trap a k n 5 x0 h ca_1 tv_1 nx pcs lv cs x b cl cm so ti pu np hn) mw_Model_trap mv_Model_trap k_763 ⟨rfl, rfl, Nat.le_of_ble_eq_true rfl, Nat.le_of_ble_eq_true rfl⟩ hK hP hD hS hA hF [0, 1, 2, 3, 4, 5, 6, 7, 8, 9] [0, 1, 2, 3, 4, 5, 6, 7, 8] rfl rfl rfl 0 5 rfl rfl rfl rfl hl.1 rfl (Nat.le_of_ble_eq_true rfl) d_Model_load_90 ⟨Nat.zero_le _, Nat.zero_le _⟩) hP hD hS hA [0, 1, 2, 3, 4, 5, 6, 7, 8, 9] [] [0, 1, 2, 3, 4, 5, 6, 7, 8, 9] rfl rfl rfl (by decide) (fun _ => rfl) rfl (fun u_10 H locs h_10 hP hD hS => ?_)
          obtain ⟨ca_10, tv_10⟩ := u_10
          dsimp only at hP hD
          refine lv_iload hx hb d_Model_load_93 (lv_at hl 0 rfl) ?_
          refine lv_if_ge (tgt := 102) hx hb d_Model_load_95 (by decide) (fun h9 => absurd h9 c_7) (fun _ => ?_)
          refine lv_iconst (v := 0) hx hb d_Model_load_98 rfl ?_
          refine lv_goto (tgt := 108) hx hb d_Model_load_99 (by decide) ?_
          exact ri (ca_10, tv_10) hx hb hr hlocks hP hD hS d_Model_load_108 (by simp only [sp_Model_load, h_1, h_10, if_neg (by decide : ¬ (4 : Int32) = 1), if_neg (by decide : ¬ (4 : Int32) = 2), if_pos c_2, if_pos c_4, if_neg c_7, if_true, if_false])
      · refine lv_iconst (v := 0) hx hb d_Model_load_28 rfl ?_
        refine lv_istore (lv' := [(6, .int 0), (5, .int (sp_Model_inRam n r_1)), (3, .long r_1), (0, .ref (a 0)), (1, .int x0), (2, .int 4)]) hx hb d_Model_load_29 hl (by decide) rfl (fun ls hl => ?_)
        refine lv_iload_n hx hb d_Model_load_31 rfl (lv_at hl 5 rfl) ?_
        refine lv_iconst (v := 1) hx hb d_Model_load_32 rfl ?_
        refine lv_isub hx hb d_Model_load_33 ?_
        refine W.eq (g2 := F0 m 34 ls [.int 3]) rfl ?_
        refine lv_istore (lv' := [(7, .int 3), (6, .int 0), (5, .int (sp_Model_inRam n r_1)), (3, .long r_1), (0, .ref (a 0)), (1, .int x0), (2, .int 4)]) hx hb d_Model_load_34 hl (by decide) rfl (fun ls hl => ?_)
        refine lv_iload hx hb d_Model_load_36 (lv_at hl 0 rfl) ?_
        refine lv_if_lt (tgt := 64) hx hb d_Model_load_38 (by decide) (fun h9 => absurd h9 (by decide)) (fun _ => ?_)
        refine lv_iload hx hb d_Model_load_41 (lv_at hl 1 rfl) ?_
        refine lv_bipush (v := 8) hx hb d_Model_load_43 rfl ?_
        refine y_ishl hx hb d_Model_load_45 ?_
        refine lv_aload_n hx hb d_Model_load_46 rfl (lv_at hl 4 rfl) ?_
        refine lv_iload hx hb d_Model_load_47 (lv_at hl 2 rfl) ?_
        refine lv_iload hx hb d_Model_load_49 (lv_at hl 0 rfl) ?_
        refine lv_iadd hx hb d_Model_load_51 ?_
        refine xi (wr := []) (W2 := fun _ => wR a k n h ca_1 tv_1 nx pcs lv cs x b cl cm so ti pu np) (xV (rest := [.int (shl 0 8)]) ⟨hx, hb, hml, hown, hts⟩ (c_Model_ramByte a k n ((sp_Model_inRam n r_1) + 3) h ca_1 tv_1 nx pcs lv cs x b cl cm so ti pu np hn (vp_load hn h_1 c_2 (Int32.not_lt.mp c_4) (k := 3) (by decide))) mw_Model_ramByte mv_Model_ramByte k_694 ⟨rfl, rfl, Nat.le_of_ble_eq_true rfl, Nat.le_of_ble_eq_true rfl⟩ hK hP hD hS hA hF [0, 1, 2, 3, 4, 5, 6, 7, 8, 9] [0, 1, 2, 3, 4, 5, 6, 7, 8] rfl rfl rfl 0 5 rfl rfl rfl rfl hl.1 rfl (Nat.le_of_ble_eq_true rfl) d_Model_load_52 ⟨Nat.zero_le _, Nat.zero_le _⟩) hP hD hS hA [0, 1, 2, 3, 4, 5, 6, 7, 8, 9] [] [0, 1, 2, 3, 4, 5, 6, 7, 8, 9] rfl rfl rfl (by decide) (fun _ => rfl) rfl (fun r_13 _ H locs h_13 hP hD hS => ?_)
        subst h_13
        refine lv_ior hx hb d_Model_load_55 ?_
        refine lv_istore (lv' := [(6, .int ((shl 0 8) ||| (sp_Model_ramByte ((sp_Model_inRam n r_1) + 3) b))), (7, .int 3), (5, .int (sp_Model_inRam n r_1)), (3, .long r_1), (0, .ref (a 0)), (1, .int x0), (2, .int 4)]) hx hb d_Model_load_56 hl (by decide) rfl (fun ls hl => ?_)
        refine lv_iinc (v := 2) (lv' := [(7, .int 2), (6, .int ((shl 0 8) ||| (sp_Model_ramByte ((sp_Model_inRam n r_1) + 3) b))), (5, .int (sp_Model_inRam n r_1)), (3, .long r_1), (0, .ref (a 0)), (1, .int x0), (2, .int 4)]) hx hb d_Model_load_58 hl (k := 1) rfl rfl (by decide) rfl (fun ls hl => ?_)
        refine lv_goto (tgt := 36) hx hb d_Model_load_61 (by decide) ?_
        refine lv_iload hx hb d_Model_load_36 (lv_at hl 0 rfl) ?_
        refine lv_if_lt (tgt := 64) hx hb d_Model_load_38 (by decide) (fun h9 => absurd h9 (by decide)) (fun _ => ?_)
        refine lv_iload hx hb d_Model_load_41 (lv_at hl 1 rfl) ?_
        refine lv_bipush (v := 8) hx hb d_Model_load_43 rfl ?_
        refine y_ishl hx hb d_Model_load_45 ?_
        refine lv_aload_n hx hb d_Model_load_46 rfl (lv_at hl 4 rfl) ?_
        refine lv_iload hx hb d_Model_load_47 (lv_at hl 2 rfl) ?_
        refine lv_iload hx hb d_Model_load_49 (lv_at hl 0 rfl) ?_
        refine lv_iadd hx hb d_Model_load_51 ?_
        refine xi (wr := []) (W2 := fun _ => wR a k n h ca_1 tv_1 nx pcs lv cs x b cl cm so ti pu np) (xV (rest := [.int (shl ((shl 0 8) ||| (sp_Model_ramByte ((sp_Model_inRam n r_1) + 3) b)) 8)]) ⟨hx, hb, hml, hown, hts⟩ (c_Model_ramByte a k n ((sp_Model_inRam n r_1) + 2) h ca_1 tv_1 nx pcs lv cs x b cl cm so ti pu np hn (vp_load hn h_1 c_2 (Int32.not_lt.mp c_4) (k := 2) (by decide))) mw_Model_ramByte mv_Model_ramByte k_694 ⟨rfl, rfl, Nat.le_of_ble_eq_true rfl, Nat.le_of_ble_eq_true rfl⟩ hK hP hD hS hA hF [0, 1, 2, 3, 4, 5, 6, 7, 8, 9] [0, 1, 2, 3, 4, 5, 6, 7, 8] rfl rfl rfl 0 5 rfl rfl rfl rfl hl.1 rfl (Nat.le_of_ble_eq_true rfl) d_Model_load_52 ⟨Nat.zero_le _, Nat.zero_le _⟩) hP hD hS hA [0, 1, 2, 3, 4, 5, 6, 7, 8, 9] [] [0, 1, 2, 3, 4, 5, 6, 7, 8, 9] rfl rfl rfl (by decide) (fun _ => rfl) rfl (fun r_15 _ H locs h_15 hP hD hS => ?_)
        subst h_15
        refine lv_ior hx hb d_Model_load_55 ?_
        refine lv_istore (lv' := [(6, .int ((shl ((shl 0 8) ||| (sp_Model_ramByte ((sp_Model_inRam n r_1) + 3) b)) 8) ||| (sp_Model_ramByte ((sp_Model_inRam n r_1) + 2) b))), (7, .int 2), (5, .int (sp_Model_inRam n r_1)), (3, .long r_1), (0, .ref (a 0)), (1, .int x0), (2, .int 4)]) hx hb d_Model_load_56 hl (by decide) rfl (fun ls hl => ?_)
        refine lv_iinc (v := 1) (lv' := [(7, .int 1), (6, .int ((shl ((shl 0 8) ||| (sp_Model_ramByte ((sp_Model_inRam n r_1) + 3) b)) 8) ||| (sp_Model_ramByte ((sp_Model_inRam n r_1) + 2) b))), (5, .int (sp_Model_inRam n r_1)), (3, .long r_1), (0, .ref (a 0)), (1, .int x0), (2, .int 4)]) hx hb d_Model_load_58 hl (k := 1) rfl rfl (by decide) rfl (fun ls hl => ?_)
        refine lv_goto (tgt := 36) hx hb d_Model_load_61 (by decide) ?_
        refine lv_iload hx hb d_Model_load_36 (lv_at hl 0 rfl) ?_
        refine lv_if_lt (tgt := 64) hx hb d_Model_load_38 (by decide) (fun h9 => absurd h9 (by decide)) (fun _ => ?_)
        refine lv_iload hx hb d_Model_load_41 (lv_at hl 1 rfl) ?_
        refine lv_bipush (v := 8) hx hb d_Model_load_43 rfl ?_
        refine y_ishl hx hb d_Model_load_45 ?_
        refine lv_aload_n hx hb d_Model_load_46 rfl (lv_at hl 4 rfl) ?_
        refine lv_iload hx hb d_Model_load_47 (lv_at hl 2 rfl) ?_
        refine lv_iload hx hb d_Model_load_49 (lv_at hl 0 rfl) ?_
        refine lv_iadd hx hb d_Model_load_51 ?_
        refine xi (wr := []) (W2 := fun _ => wR a k n h ca_1 tv_1 nx pcs lv cs x b cl cm so ti pu np) (xV (rest := [.int (shl ((shl ((shl 0 8) ||| (sp_Model_ramByte ((sp_Model_inRam n r_1) + 3) b)) 8) ||| (sp_Model_ramByte ((sp_Model_inRam n r_1) + 2) b)) 8)]) ⟨hx, hb, hml, hown, hts⟩ (c_Model_ramByte a k n ((sp_Model_inRam n r_1) + 1) h ca_1 tv_1 nx pcs lv cs x b cl cm so ti pu np hn (vp_load hn h_1 c_2 (Int32.not_lt.mp c_4) (k := 1) (by decide))) mw_Model_ramByte mv_Model_ramByte k_694 ⟨rfl, rfl, Nat.le_of_ble_eq_true rfl, Nat.le_of_ble_eq_true rfl⟩ hK hP hD hS hA hF [0, 1, 2, 3, 4, 5, 6, 7, 8, 9] [0, 1, 2, 3, 4, 5, 6, 7, 8] rfl rfl rfl 0 5 rfl rfl rfl rfl hl.1 rfl (Nat.le_of_ble_eq_true rfl) d_Model_load_52 ⟨Nat.zero_le _, Nat.zero_le _⟩) hP hD hS hA [0, 1, 2, 3, 4, 5, 6, 7, 8, 9] [] [0, 1, 2, 3, 4, 5, 6, 7, 8, 9] rfl rfl rfl (by decide) (fun _ => rfl) rfl (fun r_17 _ H locs h_17 hP hD hS => ?_)
        subst h_17
        refine lv_ior hx hb d_Model_load_55 ?_
        refine lv_istore (lv' := [(6, .int ((shl ((shl ((shl 0 8) ||| (sp_Model_ramByte ((sp_Model_inRam n r_1) + 3) b)) 8) ||| (sp_Model_ramByte ((sp_Model_inRam n r_1) + 2) b)) 8) ||| (sp_Model_ramByte ((sp_Model_inRam n r_1) + 1) b))), (7, .int 1), (5, .int (sp_Model_inRam n r_1)), (3, .long r_1), (0, .ref (a 0)), (1, .int x0), (2, .int 4)]) hx hb d_Model_load_56 hl (by decide) rfl (fun ls hl => ?_)
        refine lv_iinc (v := 0) (lv' := [(7, .int 0), (6, .int ((shl ((shl ((shl 0 8) ||| (sp_Model_ramByte ((sp_Model_inRam n r_1) + 3) b)) 8) ||| (sp_Model_ramByte ((sp_Model_inRam n r_1) + 2) b)) 8) ||| (sp_Model_ramByte ((sp_Model_inRam n r_1) + 1) b))), (5, .int (sp_Model_inRam n r_1)), (3, .long r_1), (0, .ref (a 0)), (1, .int x0), (2, .int 4)]) hx hb d_Model_load_58 hl (k := 1) rfl rfl (by decide) rfl (fun ls hl => ?_)
        refine lv_goto (tgt := 36) hx hb d_Model_load_61 (by decide) ?_
        refine lv_iload hx hb d_Model_load_36 (lv_at hl 0 rfl) ?_
        refine lv_if_lt (tgt := 64) hx hb d_Model_load_38 (by decide) (fun h9 => absurd h9 (by decide)) (fun _ => ?_)
        refine lv_iload hx hb d_Model_load_41 (lv_at hl 1 rfl) ?_
        refine lv_bipush (v := 8) hx hb d_Model_load_43 rfl ?_
        refine y_ishl hx hb d_Model_load_45 ?_
        refine lv_aload_n hx hb d_Model_load_46 rfl (lv_at hl 4 rfl) ?_
        refine lv_iload hx hb d_Model_load_47 (lv_at hl 2 rfl) ?_
        refine lv_iload hx hb d_Model_load_49 (lv_at hl 0 rfl) ?_
        refine lv_iadd hx hb d_Model_load_51 ?_
        refine xi (wr := []) (W2 := fun _ => wR a k n h ca_1 tv_1 nx pcs lv cs x b cl cm so ti pu np) (xV (rest := [.int (shl ((shl ((shl ((shl 0 8) ||| (sp_Model_ramByte ((sp_Model_inRam n r_1) + 3) b)) 8) ||| (sp_Model_ramByte ((sp_Model_inRam n r_1) + 2) b)) 8) ||| (sp_Model_ramByte ((sp_Model_inRam n r_1) + 1) b)) 8)]) ⟨hx, hb, hml, hown, hts⟩ (c_Model_ramByte a k n ((sp_Model_inRam n r_1) + 0) h ca_1 tv_1 nx pcs lv cs x b cl cm so ti pu np hn (vp_load hn h_1 c_2 (Int32.not_lt.mp c_4) (k := 0) (by decide))) mw_Model_ramByte mv_Model_ramByte k_694 ⟨rfl, rfl, Nat.le_of_ble_eq_true rfl, Nat.le_of_ble_eq_true rfl⟩ hK hP hD hS hA hF [0, 1, 2, 3, 4, 5, 6, 7, 8, 9] [0, 1, 2, 3, 4, 5, 6, 7, 8] rfl rfl rfl 0 5 rfl rfl rfl rfl hl.1 rfl (Nat.le_of_ble_eq_true rfl) d_Model_load_52 ⟨Nat.zero_le _, Nat.zero_le _⟩) hP hD hS hA [0, 1, 2, 3, 4, 5, 6, 7, 8, 9] [] [0, 1, 2, 3, 4, 5, 6, 7, 8, 9] rfl rfl rfl (by decide) (fun _ => rfl) rfl (fun r_19 _ H locs h_19 hP hD hS => ?_)
        subst h_19
        refine lv_ior hx hb d_Model_load_55 ?_
        refine lv_istore (lv' := [(6, .int ((shl ((shl ((shl ((shl 0 8) ||| (sp_Model_ramByte ((sp_Model_inRam n r_1) + 3) b)) 8) ||| (sp_Model_ramByte ((sp_Model_inRam n r_1) + 2) b)) 8) ||| (sp_Model_ramByte ((sp_Model_inRam n r_1) + 1) b)) 8) ||| (sp_Model_ramByte ((sp_Model_inRam n r_1) + 0) b))), (7, .int 0), (5, .int (sp_Model_inRam n r_1)), (3, .long r_1), (0, .ref (a 0)), (1, .int x0), (2, .int 4)]) hx hb d_Model_load_56 hl (by decide) rfl (fun ls hl => ?_)
        refine lv_iinc (v := (-1)) (lv' := [(7, .int (-1)), (6, .int ((shl ((shl ((shl ((shl 0 8) ||| (sp_Model_ramByte ((sp_Model_inRam n r_1) + 3) b)) 8) ||| (sp_Model_ramByte ((sp_Model_inRam n r_1) + 2) b)) 8) ||| (sp_Model_ramByte ((sp_Model_inRam n r_1) + 1) b)) 8) ||| (sp_Model_ramByte ((sp_Model_inRam n r_1) + 0) b))), (5, .int (sp_Model_inRam n r_1)), (3, .long r_1), (0, .ref (a 0)), (1, .int x0), (2, .int 4)]) hx hb d_Model_load_58 hl (k := 1) rfl rfl (by decide) rfl (fun ls hl => ?_)
        refine lv_goto (tgt := 36) hx hb d_Model_load_61 (by decide) ?_
        refine lv_iload hx hb d_Model_load_36 (lv_at hl 0 rfl) ?_
        refine lv_if_lt (tgt := 64) hx hb d_Model_load_38 (by decide) (fun _ => ?_) (fun h9 => absurd (by decide) h9)
        refine lv_iload hx hb d_Model_load_64 (lv_at hl 1 rfl) ?_
        exact ri (ca_1, tv_1) hx hb hr hlocks hP hD hS d_Model_load_66 (by simp only [sp_Model_load, h_1, if_neg (by decide : ¬ (4 : Int32) = 1), if_neg (by decide : ¬ (4 : Int32) = 2), if_pos c_2, if_neg c_4, if_true, if_false])
    · have c_2 : ¬ 0 ≤ r_1 := fun h9 => b_2 ((lg_cmp_ge _ _).mpr h9)
      refine lv_iconst (v := 0) hx hb d_Model_load_14 rfl ?_
      exact ri (ca_1, tv_1) hx hb hr hlocks hP hD hS d_Model_load_15 (by simp only [sp_Model_load, h_1, if_neg (by decide : ¬ (4 : Int32) = 1), if_neg (by decide : ¬ (4 : Int32) = 2), if_neg c_2, if_true, if_false])
def sp_Model_store (n : Nat) (x0 : Int32) (x1 : Int32) (x2 : Int32) (h : Int32) (ca : Int32) (tv : Int32) (lv : Nat → Int32) (cs : Nat → Int32) (b : Nat → Int32) (cl : Nat → Int32) (cm : Nat → Int64) (so : Nat → Int32) (ti : Int64) (pu : Nat → Int32) (np : Int32) : Int32 × Int32 × (Nat → Int32) × (Nat → Int32) × (Nat → Int64) × (Nat → Int32) × Int64 × (Nat → Int32) × Int32 :=
  if x1 = 1 then
    let r_1 := (sp_Model_place n x0 1 2 h ca tv lv cs b).1
    let ca_1 := (sp_Model_place n x0 1 2 h ca tv lv cs b).2.1
    let tv_1 := (sp_Model_place n x0 1 2 h ca tv lv cs b).2.2
    if 0 ≤ r_1 then
      if (sp_Model_inRam n r_1) < 0 then
        if r_1 = 268435456 then
          if 256 ≤ np then
            (ca_1, tv_1, b, cl, cm, so, ti, pu, np)
          else
            (ca_1, tv_1, b, cl, cm, so, ti, (upd pu np.toNatClampNeg (x2 &&& 255)), np + 1)
        else
          let ca_9 := (sp_Model_trap 7 x0 ca_1 tv_1).1
          let tv_9 := (sp_Model_trap 7 x0 ca_1 tv_1).2
          (ca_9, tv_9, b, cl, cm, so, ti, pu, np)
      else
        let b_11 := (sp_Model_setBytes (sp_Model_inRam n r_1) 1 x2 b)
        (ca_1, tv_1, b_11, (upd (upd cl 0 (-1)) 1 (-1)), cm, so, ti, pu, np)
    else
      (ca_1, tv_1, b, cl, cm, so, ti, pu, np)
  else
    if x1 = 2 then
      let r_1 := (sp_Model_place n x0 2 2 h ca tv lv cs b).1
      let ca_1 := (sp_Model_place n x0 2 2 h ca tv lv cs b).2.1
      let tv_1 := (sp_Model_place n x0 2 2 h ca tv lv cs b).2.2
      if 0 ≤ r_1 then
        if (sp_Model_inRam n r_1) < 0 then
          let ca_8 := (sp_Model_trap 7 x0 ca_1 tv_1).1
          let tv_8 := (sp_Model_trap 7 x0 ca_1 tv_1).2
          (ca_8, tv_8, b, cl, cm, so, ti, pu, np)
        else
          let b_9 := (sp_Model_setBytes (sp_Model_inRam n r_1) 2 x2 b)
          (ca_1, tv_1, b_9, (upd (upd cl 0 (-1)) 1 (-1)), cm, so, ti, pu, np)
      else
        (ca_1, tv_1, b, cl, cm, so, ti, pu, np)
    else
      let r_1 := (sp_Model_place n x0 4 2 h ca tv lv cs b).1
      let ca_1 := (sp_Model_place n x0 4 2 h ca tv lv cs b).2.1
      let tv_1 := (sp_Model_place n x0 4 2 h ca tv lv cs b).2.2
      if 0 ≤ r_1 then
        if (sp_Model_inRam n r_1) < 0 then
          if (sp_Model_clint r_1) < 0 then
            let ca_9 := (sp_Model_trap 7 x0 ca_1 tv_1).1
            let tv_9 := (sp_Model_trap 7 x0 ca_1 tv_1).2
            (ca_9, tv_9, b, cl, cm, so, ti, pu, np)
          else
            let cm_10 := (sp_Model_setClint (sp_Model_clint r_1) x2 cm so ti).1
            let so_10 := (sp_Model_setClint (sp_Model_clint r_1) x2 cm so ti).2.1
            let ti_10 := (sp_Model_setClint (sp_Model_clint r_1) x2 cm so ti).2.2
            (ca_1, tv_1, b, cl, cm_10, so_10, ti_10, pu, np)
        else
          let b_11 := (sp_Model_setBytes (sp_Model_inRam n r_1) 4 x2 b)
          (ca_1, tv_1, b_11, (upd (upd cl 0 (-1)) 1 (-1)), cm, so, ti, pu, np)
      else
        (ca_1, tv_1, b, cl, cm, so, ti, pu, np)
set_option maxHeartbeats 4000000 in
set_option maxRecDepth 100000 in
theorem c_Model_store {l : Launch} {D : va_G} {g : Nat → Nat} (a : Nat → Nat) (k : Nat → ClassId) (n : Nat) (x0 : Int32) (x1 : Int32) (x2 : Int32) (h ca tv nx : Int32) (pcs lv cs x b cl : Nat → Int32) (cm : Nat → Int64) (so : Nat → Int32) (ti : Int64) (pu : Nat → Int32) (np : Int32) (hn : n ≤ 4096) (hh : h = 0 ∨ h = 1) (hp : 0 ≤ np ∧ np ≤ 256) (h3 : x1 = 1 ∨ x1 = 2 ∨ x1 = 4) : CT l D g y_Model_store b_Model_store 8 none (rD 5) [.ref (a 0), .int x0, .int x1, .int x2] (wR a k n h ca tv nx pcs lv cs x b cl cm so ti pu np) (tyR k) (Qv D (fun (u : Int32 × Int32 × (Nat → Int32) × (Nat → Int32) × (Nat → Int64) × (Nat → Int32) × Int64 × (Nat → Int32) × Int32) => sp_Model_store n x0 x1 x2 h ca tv lv cs b cl cm so ti pu np = u) (fun u => wR a k n h u.1 u.2.1 nx pcs lv cs x u.2.2.1 u.2.2.2.1 u.2.2.2.2.1 u.2.2.2.2.2.1 u.2.2.2.2.2.2.1 u.2.2.2.2.2.2.2.1 u.2.2.2.2.2.2.2.2)) := by
  rcases h3 with rfl | rfl | rfl
  · refine CT.of rfl (Nat.le_of_ble_eq_true rfl) (fun p e s m below meth c A ls hx hb hr hml hts hown hlocks hA hP hK hD hF hS hl => ?_)
    have hl : lv_has ls 8 [(0, .ref (a 0)), (1, .int x0), (2, .int 1), (3, .int x2)] := hl
    refine lv_aload_n hx hb d_Model_store_0 rfl (lv_at hl 0 rfl) ?_
    refine lv_iload_n hx hb d_Model_store_1 rfl (lv_at hl 1 rfl) ?_
    refine lv_iload_n hx hb d_Model_store_2 rfl (lv_at hl 2 rfl) ?_
    refine lv_iconst (v := 2) hx hb d_Model_store_3 rfl ?_
    refine xl (wr := []) (W2 := fun u9 => wR a k n h u9.1 u9.2 nx pcs lv cs x b cl cm so ti pu np) (xV (rest := []) ⟨hx, hb, hml, hown, hts⟩ (c_Model_place a k n x0 1 2 h ca tv nx pcs lv cs x b cl cm so ti pu np hn hh) mw_Model_place mv_Model_place k_821 ⟨rfl, rfl, Nat.le_of_ble_eq_true rfl, Nat.le_of_ble_eq_true rfl⟩ hK hP hD hS hA hF [0, 1, 2, 3, 4, 5, 6, 7, 8, 9] [0, 1, 2, 3, 4, 5, 6, 7, 8] rfl rfl rfl 0 5 rfl rfl rfl rfl hl.1 rfl (Nat.le_of_ble_eq_true rfl) d_Model_store_4 ⟨Nat.zero_le _, Nat.zero_le _⟩) hP hD hS hA [0, 1, 2, 3, 4, 5, 6, 7, 8, 9] [] [0, 1, 2, 3, 4, 5, 6, 7, 8, 9] rfl rfl rfl (by decide) (fun _ => rfl) rfl (fun r_1 u_1 H locs h_1 hP hD hS => ?_)
    obtain ⟨ca_1, tv_1⟩ := u_1
    dsimp only at hP hD
    refine lv_lstore (lv' := [(4, .long r_1), (0, .ref (a 0)), (1, .int x0), (2, .int 1), (3, .int x2)]) hx hb d_Model_store_7 hl (by decide) rfl (fun ls hl => ?_)
    refine lv_lload hx hb d_Model_store_9 (lv_at hl 0 rfl) ?_
    refine lv_lconst (v := 0) hx hb d_Model_store_11 rfl ?_
    refine W.lcmp hx hb d_Model_store_12 ?_
    refine lv_if_ge (tgt := 17) hx hb d_Model_store_13 (by decide) (fun b_2 => ?_) (fun b_2 => ?_)
    · have c_2 : 0 ≤ r_1 := (lg_cmp_ge _ _).mp b_2
      refine lv_aload_n hx hb d_Model_store_17 rfl (lv_at hl 1 rfl) ?_
      refine lv_lload hx hb d_Model_store_18 (lv_at hl 0 rfl) ?_
      refine xi (wr := []) (W2 := fun _ => wR a k n h ca_1 tv_1 nx pcs lv cs x b cl cm so ti pu np) (xV (rest := []) ⟨hx, hb, hml, hown, hts⟩ (c_Model_inRam a k n r_1 h ca_1 tv_1 nx pcs lv cs x b cl cm so ti pu np hn) mw_Model_inRam mv_Model_inRam k_755 ⟨rfl, rfl, Nat.le_of_ble_eq_true rfl, Nat.le_of_ble_eq_true rfl⟩ hK hP hD hS hA hF [0, 1, 2, 3, 4, 5, 6, 7, 8, 9] [0, 1, 2, 3, 4, 5, 6, 7, 8] rfl rfl rfl 0 5 rfl rfl rfl rfl hl.1 rfl (Nat.le_of_ble_eq_true rfl) d_Model_store_20 ⟨Nat.zero_le _, Nat.zero_le _⟩) hP hD hS hA [0, 1, 2, 3, 4, 5, 6, 7, 8, 9] [] [0, 1, 2, 3, 4, 5, 6, 7, 8, 9] rfl rfl rfl (by decide) (fun _ => rfl) rfl (fun r_3 _ H locs h_3 hP hD hS => ?_)
      subst h_3
      refine lv_istore (lv' := [(6, .int (sp_Model_inRam n r_1)), (4, .long r_1), (0, .ref (a 0)), (1, .int x0), (2, .int 1), (3, .int x2)]) hx hb d_Model_store_23 hl (by decide) rfl (fun ls hl => ?_)
      refine lv_iload hx hb d_Model_store_25 (lv_at hl 0 rfl) ?_
      refine lv_if_lt (tgt := 53) hx hb d_Model_store_27 (by decide) (fun c_4 => ?_) (fun c_4 => ?_)
      · refine lv_iload_n hx hb d_Model_store_53 rfl (lv_at hl 4 rfl) ?_
        refine lv_iconst (v := 4) hx hb d_Model_store_54 rfl ?_
        refine lv_icmp_ne (tgt := 66) hx hb d_Model_store_55 (by decide) (fun _ => ?_) (fun h9 => absurd h9 (by decide))
        refine lv_iconst (v := (-1)) hx hb d_Model_store_66 rfl ?_
        refine lv_istore (lv' := [(7, .int (-1)), (6, .int (sp_Model_inRam n r_1)), (4, .long r_1), (0, .ref (a 0)), (1, .int x0), (2, .int 1), (3, .int x2)]) hx hb d_Model_store_67 hl (by decide) rfl (fun ls hl => ?_)
        refine lv_iload hx hb d_Model_store_69 (lv_at hl 0 rfl) ?_
        refine lv_if_lt (tgt := 84) hx hb d_Model_store_71 (by decide) (fun _ => ?_) (fun h9 => absurd (by decide) h9)
        refine lv_iload_n hx hb d_Model_store_84 rfl (lv_at hl 5 rfl) ?_
        refine lv_iconst (v := 1) hx hb d_Model_store_85 rfl ?_
        refine lv_icmp_ne (tgt := 135) hx hb d_Model_store_86 (by decide) (fun h9 => absurd (by decide) h9) (fun _ => ?_)
        refine lv_lload hx hb d_Model_store_89 (lv_at hl 2 rfl) ?_
        refine lv_ldc2 (v := 268435456) hx hb hown (hts _ k_851) d_Model_store_91 ?_
        refine W.lcmp hx hb d_Model_store_94 ?_
        refine lv_if_ne (tgt := 135) hx hb d_Model_store_95 (by decide) (fun b_8 => ?_) (fun b_8 => ?_)
        · have c_8 : ¬ r_1 = 268435456 := fun h9 => b_8 ((lg_cmp_eq _ _).mpr h9)
          refine lv_aload_n hx hb d_Model_store_135 rfl (lv_at hl 3 rfl) ?_
          refine lv_bipush (v := 7) hx hb d_Model_store_136 rfl ?_
          refine lv_iload_n hx hb d_Model_store_138 rfl (lv_at hl 4 rfl) ?_
          refine xv (wr := []) (W2 := fun u9 => wR a k n h u9.1 u9.2 nx pcs lv cs x b cl cm so ti pu np) (xV (rest := []) ⟨hx, hb, hml, hown, hts⟩ (c_Model_trap a k n 7 x0 h ca_1 tv_1 nx pcs lv cs x b cl cm so ti pu np hn) mw_Model_trap mv_Model_trap k_763 ⟨rfl, rfl, Nat.le_of_ble_eq_true rfl, Nat.le_of_ble_eq_true rfl⟩ hK hP hD hS hA hF [0, 1, 2, 3, 4, 5, 6, 7, 8, 9] [0, 1, 2, 3, 4, 5, 6, 7, 8] rfl rfl rfl 0 5 rfl rfl rfl rfl hl.1 rfl (Nat.le_of_ble_eq_true rfl) d_Model_store_139 ⟨Nat.zero_le _, Nat.zero_le _⟩) hP hD hS hA [0, 1, 2, 3, 4, 5, 6, 7, 8, 9] [] [0, 1, 2, 3, 4, 5, 6, 7, 8, 9] rfl rfl rfl (by decide) (fun _ => rfl) rfl (fun u_9 H locs h_9 hP hD hS => ?_)
          obtain ⟨ca_9, tv_9⟩ := u_9
          dsimp only at hP hD
          exact rv (ca_9, tv_9, b, cl, cm, so, ti, pu, np) hx hb hr hlocks hP hD hS d_Model_store_142 (by simp only [sp_Model_store, h_1, h_9, if_pos (rfl : (1 : Int32) = 1), if_pos c_2, if_pos c_4, if_neg c_8, if_true, if_false])
        · have c_8 : r_1 = 268435456 := (lg_cmp_eq _ _).mp b_8
          refine lv_aload_n hx hb d_Model_store_98 rfl (lv_at hl 3 rfl) ?_
          refine va_get (D := D) (ci := 5) (v := .int np) (C := R_Model) (T := F_Model) (N := 16) hx hb hts i_Model hown hK hP 0 rfl rfl 11 (by decide) (hts _ k_636) (fun _ h9 => h9) rfl d_Model_store_99 ?_
          refine lv_sipush (v := 256) hx hb d_Model_store_102 rfl ?_
          refine lv_icmp_ge (tgt := 142) hx hb d_Model_store_105 (by decide) (fun c_10 => ?_) (fun c_10 => ?_)
          · exact rv (ca_1, tv_1, b, cl, cm, so, ti, pu, np) hx hb hr hlocks hP hD hS d_Model_store_142 (by simp only [sp_Model_store, h_1, if_pos (rfl : (1 : Int32) = 1), if_pos c_2, if_pos c_4, if_pos c_8, if_pos c_10, if_true, if_false])
          · refine lv_aload_n hx hb d_Model_store_108 rfl (lv_at hl 3 rfl) ?_
            refine va_get (D := D) (ci := 5) (v := .ref (a 9)) (C := R_Model) (T := F_Model) (N := 16) hx hb hts i_Model hown hK hP 0 rfl rfl 10 (by decide) (hts _ k_635) (fun _ h9 => h9) rfl d_Model_store_109 ?_
            refine lv_aload_n hx hb d_Model_store_112 rfl (lv_at hl 3 rfl) ?_
            refine va_get (D := D) (ci := 5) (v := .int np) (C := R_Model) (T := F_Model) (N := 16) hx hb hts i_Model hown hK hP 0 rfl rfl 11 (by decide) (hts _ k_636) (fun _ h9 => h9) rfl d_Model_store_113 ?_
            refine lv_iload_n hx hb d_Model_store_116 rfl (lv_at hl 6 rfl) ?_
            refine lv_sipush (v := 255) hx hb d_Model_store_117 rfl ?_
            refine lv_iand hx hb d_Model_store_120 ?_
            refine y_iast (ws' := wR a k n h ca_1 tv_1 nx pcs lv cs x b cl cm so ti (upd pu np.toNatClampNeg (x2 &&& 255)) np) hx hb hK hP hD hS 9 8 rfl rfl (vp_np hp c_10) d_Model_store_121 rfl (fun H locs hP hD hS => ?_)
            refine lv_aload_n hx hb d_Model_store_122 rfl (lv_at hl 3 rfl) ?_
            refine lv_dup hx hb d_Model_store_123 rfl ?_
            refine va_get (D := D) (ci := 5) (v := .int np) (C := R_Model) (T := F_Model) (N := 16) hx hb hts i_Model hown hK hP 0 rfl rfl 11 (by decide) (hts _ k_636) (fun _ h9 => h9) rfl d_Model_store_124 ?_
            refine lv_iconst (v := 1) hx hb d_Model_store_127 rfl ?_
            refine lv_iadd hx hb d_Model_store_128 ?_
            refine y_put (D := D) (ci := 5) (v := .int (np + 1)) (ty := .int) (C := R_Model) (T := F_Model) (N := 16) (ws' := wR a k n h ca_1 tv_1 nx pcs lv cs x b cl cm so ti (upd pu np.toNatClampNeg (x2 &&& 255)) (np + 1)) hx hb hts i_Model t_Model t_Model_ok n_Model hown hK hP hD hS 0 rfl rfl 11 (by decide) (hts _ k_636) (fun _ h9 => h9) rfl (by decide +kernel) rfl rfl (Nat.le_of_ble_eq_true rfl) d_Model_store_129 rfl (fun H locs hP hD hS => ?_)
            refine lv_goto (tgt := 142) hx hb d_Model_store_132 (by decide) ?_
            exact rv (ca_1, tv_1, b, cl, cm, so, ti, (upd pu np.toNatClampNeg (x2 &&& 255)), np + 1) hx hb hr hlocks hP hD hS d_Model_store_142 (by simp only [sp_Model_store, h_1, if_pos (rfl : (1 : Int32) = 1), if_pos c_2, if_pos c_4, if_pos c_8, if_neg c_10, if_true, if_false])
      · refine lv_aload_n hx hb d_Model_store_30 rfl (lv_at hl 2 rfl) ?_
        refine lv_iload hx hb d_Model_store_31 (lv_at hl 0 rfl) ?_
        refine lv_iload_n hx hb d_Model_store_33 rfl (lv_at hl 4 rfl) ?_
        refine lv_iload_n hx hb d_Model_store_34 rfl (lv_at hl 5 rfl) ?_
        refine xv (wr := []) (W2 := fun u9 => wR a k n h ca_1 tv_1 nx pcs lv cs x u9 cl cm so ti pu np) (xV (rest := []) ⟨hx, hb, hml, hown, hts⟩ (c_Model_setBytes a k n (sp_Model_inRam n r_1) 1 x2 h ca_1 tv_1 nx pcs lv cs x b cl cm so ti pu np hn (Or.inl rfl) (sb_store hn h_1 c_2 (Int32.not_lt.mp c_4) (by decide))) mw_Model_setBytes mv_Model_setBytes k_682 ⟨rfl, rfl, Nat.le_of_ble_eq_true rfl, Nat.le_of_ble_eq_true rfl⟩ hK hP hD hS hA hF [0, 1, 2, 3, 4, 5, 6, 7, 8, 9] [0, 1, 2, 3, 4, 5, 6, 7, 8] rfl rfl rfl 0 5 rfl rfl rfl rfl hl.1 rfl (Nat.le_of_ble_eq_true rfl) d_Model_store_35 ⟨Nat.zero_le _, Nat.zero_le _⟩) hP hD hS hA [0, 1, 2, 3, 4, 5, 6, 7, 8, 9] [] [0, 1, 2, 3, 4, 5, 6, 7, 8, 9] rfl rfl rfl (by decide) (fun _ => rfl) rfl (fun u_11 H locs h_11 hP hD hS => ?_)
        obtain ⟨b_11, e_11⟩ : ∃ z, z = u_11 := ⟨_, rfl⟩
        subst e_11
        refine lv_aload_n hx hb d_Model_store_38 rfl (lv_at hl 2 rfl) ?_
        refine va_get (D := D) (ci := 5) (v := .ref (a 6)) (C := R_Model) (T := F_Model) (N := 16) hx hb hts i_Model hown hK hP 0 rfl rfl 6 (by decide) (hts _ k_631) (fun _ h9 => h9) rfl d_Model_store_39 ?_
        refine lv_iconst (v := 0) hx hb d_Model_store_42 rfl ?_
        refine lv_iconst (v := (-1)) hx hb d_Model_store_43 rfl ?_
        refine y_iast (ws' := wR a k n h ca_1 tv_1 nx pcs lv cs x b_11 (upd cl 0 (-1)) cm so ti pu np) hx hb hK hP hD hS 6 5 rfl rfl (by unfold vp_in; decide) d_Model_store_44 rfl (fun H locs hP hD hS => ?_)
        refine lv_aload_n hx hb d_Model_store_45 rfl (lv_at hl 2 rfl) ?_
        refine va_get (D := D) (ci := 5) (v := .ref (a 6)) (C := R_Model) (T := F_Model) (N := 16) hx hb hts i_Model hown hK hP 0 rfl rfl 6 (by decide) (hts _ k_631) (fun _ h9 => h9) rfl d_Model_store_46 ?_
        refine lv_iconst (v := 1) hx hb d_Model_store_49 rfl ?_
        refine lv_iconst (v := (-1)) hx hb d_Model_store_50 rfl ?_
        refine y_iast (ws' := wR a k n h ca_1 tv_1 nx pcs lv cs x b_11 (upd (upd cl 0 (-1)) 1 (-1)) cm so ti pu np) hx hb hK hP hD hS 6 5 rfl rfl (by unfold vp_in; decide) d_Model_store_51 rfl (fun H locs hP hD hS => ?_)
        exact rv (ca_1, tv_1, b_11, (upd (upd cl 0 (-1)) 1 (-1)), cm, so, ti, pu, np) hx hb hr hlocks hP hD hS d_Model_store_52 (by simp only [sp_Model_store, h_1, h_11, if_pos (rfl : (1 : Int32) = 1), if_pos c_2, if_neg c_4, if_true, if_false])
    · have c_2 : ¬ 0 ≤ r_1 := fun h9 => b_2 ((lg_cmp_ge _ _).mpr h9)
      exact rv (ca_1, tv_1, b, cl, cm, so, ti, pu, np) hx hb hr hlocks hP hD hS d_Model_store_16 (by simp only [sp_Model_store, h_1, if_pos (rfl : (1 : Int32) = 1), if_neg c_2, if_true, if_false])
  · refine CT.of rfl (Nat.le_of_ble_eq_true rfl) (fun p e s m below meth c A ls hx hb hr hml hts hown hlocks hA hP hK hD hF hS hl => ?_)
    have hl : lv_has ls 8 [(0, .ref (a 0)), (1, .int x0), (2, .int 2), (3, .int x2)] := hl
    refine lv_aload_n hx hb d_Model_store_0 rfl (lv_at hl 0 rfl) ?_
    refine lv_iload_n hx hb d_Model_store_1 rfl (lv_at hl 1 rfl) ?_
    refine lv_iload_n hx hb d_Model_store_2 rfl (lv_at hl 2 rfl) ?_
    refine lv_iconst (v := 2) hx hb d_Model_store_3 rfl ?_
    refine xl (wr := []) (W2 := fun u9 => wR a k n h u9.1 u9.2 nx pcs lv cs x b cl cm so ti pu np) (xV (rest := []) ⟨hx, hb, hml, hown, hts⟩ (c_Model_place a k n x0 2 2 h ca tv nx pcs lv cs x b cl cm so ti pu np hn hh) mw_Model_place mv_Model_place k_821 ⟨rfl, rfl, Nat.le_of_ble_eq_true rfl, Nat.le_of_ble_eq_true rfl⟩ hK hP hD hS hA hF [0, 1, 2, 3, 4, 5, 6, 7, 8, 9] [0, 1, 2, 3, 4, 5, 6, 7, 8] rfl rfl rfl 0 5 rfl rfl rfl rfl hl.1 rfl (Nat.le_of_ble_eq_true rfl) d_Model_store_4 ⟨Nat.zero_le _, Nat.zero_le _⟩) hP hD hS hA [0, 1, 2, 3, 4, 5, 6, 7, 8, 9] [] [0, 1, 2, 3, 4, 5, 6, 7, 8, 9] rfl rfl rfl (by decide) (fun _ => rfl) rfl (fun r_1 u_1 H locs h_1 hP hD hS => ?_)
    obtain ⟨ca_1, tv_1⟩ := u_1
    dsimp only at hP hD
    refine lv_lstore (lv' := [(4, .long r_1), (0, .ref (a 0)), (1, .int x0), (2, .int 2), (3, .int x2)]) hx hb d_Model_store_7 hl (by decide) rfl (fun ls hl => ?_)
    refine lv_lload hx hb d_Model_store_9 (lv_at hl 0 rfl) ?_
    refine lv_lconst (v := 0) hx hb d_Model_store_11 rfl ?_
    refine W.lcmp hx hb d_Model_store_12 ?_
    refine lv_if_ge (tgt := 17) hx hb d_Model_store_13 (by decide) (fun b_2 => ?_) (fun b_2 => ?_)
    · have c_2 : 0 ≤ r_1 := (lg_cmp_ge _ _).mp b_2
      refine lv_aload_n hx hb d_Model_store_17 rfl (lv_at hl 1 rfl) ?_
      refine lv_lload hx hb d_Model_store_18 (lv_at hl 0 rfl) ?_
      refine xi (wr := []) (W2 := fun _ => wR a k n h ca_1 tv_1 nx pcs lv cs x b cl cm so ti pu np) (xV (rest := []) ⟨hx, hb, hml, hown, hts⟩ (c_Model_inRam a k n r_1 h ca_1 tv_1 nx pcs lv cs x b cl cm so ti pu np hn) mw_Model_inRam mv_Model_inRam k_755 ⟨rfl, rfl, Nat.le_of_ble_eq_true rfl, Nat.le_of_ble_eq_true rfl⟩ hK hP hD hS hA hF [0, 1, 2, 3, 4, 5, 6, 7, 8, 9] [0, 1, 2, 3, 4, 5, 6, 7, 8] rfl rfl rfl 0 5 rfl rfl rfl rfl hl.1 rfl (Nat.le_of_ble_eq_true rfl) d_Model_store_20 ⟨Nat.zero_le _, Nat.zero_le _⟩) hP hD hS hA [0, 1, 2, 3, 4, 5, 6, 7, 8, 9] [] [0, 1, 2, 3, 4, 5, 6, 7, 8, 9] rfl rfl rfl (by decide) (fun _ => rfl) rfl (fun r_3 _ H locs h_3 hP hD hS => ?_)
      subst h_3
      refine lv_istore (lv' := [(6, .int (sp_Model_inRam n r_1)), (4, .long r_1), (0, .ref (a 0)), (1, .int x0), (2, .int 2), (3, .int x2)]) hx hb d_Model_store_23 hl (by decide) rfl (fun ls hl => ?_)
      refine lv_iload hx hb d_Model_store_25 (lv_at hl 0 rfl) ?_
      refine lv_if_lt (tgt := 53) hx hb d_Model_store_27 (by decide) (fun c_4 => ?_) (fun c_4 => ?_)
      · refine lv_iload_n hx hb d_Model_store_53 rfl (lv_at hl 4 rfl) ?_
        refine lv_iconst (v := 4) hx hb d_Model_store_54 rfl ?_
        refine lv_icmp_ne (tgt := 66) hx hb d_Model_store_55 (by decide) (fun _ => ?_) (fun h9 => absurd h9 (by decide))
        refine lv_iconst (v := (-1)) hx hb d_Model_store_66 rfl ?_
        refine lv_istore (lv' := [(7, .int (-1)), (6, .int (sp_Model_inRam n r_1)), (4, .long r_1), (0, .ref (a 0)), (1, .int x0), (2, .int 2), (3, .int x2)]) hx hb d_Model_store_67 hl (by decide) rfl (fun ls hl => ?_)
        refine lv_iload hx hb d_Model_store_69 (lv_at hl 0 rfl) ?_
        refine lv_if_lt (tgt := 84) hx hb d_Model_store_71 (by decide) (fun _ => ?_) (fun h9 => absurd (by decide) h9)
        refine lv_iload_n hx hb d_Model_store_84 rfl (lv_at hl 5 rfl) ?_
        refine lv_iconst (v := 1) hx hb d_Model_store_85 rfl ?_
        refine lv_icmp_ne (tgt := 135) hx hb d_Model_store_86 (by decide) (fun _ => ?_) (fun h9 => absurd h9 (by decide))
        refine lv_aload_n hx hb d_Model_store_135 rfl (lv_at hl 3 rfl) ?_
        refine lv_bipush (v := 7) hx hb d_Model_store_136 rfl ?_
        refine lv_iload_n hx hb d_Model_store_138 rfl (lv_at hl 4 rfl) ?_
        refine xv (wr := []) (W2 := fun u9 => wR a k n h u9.1 u9.2 nx pcs lv cs x b cl cm so ti pu np) (xV (rest := []) ⟨hx, hb, hml, hown, hts⟩ (c_Model_trap a k n 7 x0 h ca_1 tv_1 nx pcs lv cs x b cl cm so ti pu np hn) mw_Model_trap mv_Model_trap k_763 ⟨rfl, rfl, Nat.le_of_ble_eq_true rfl, Nat.le_of_ble_eq_true rfl⟩ hK hP hD hS hA hF [0, 1, 2, 3, 4, 5, 6, 7, 8, 9] [0, 1, 2, 3, 4, 5, 6, 7, 8] rfl rfl rfl 0 5 rfl rfl rfl rfl hl.1 rfl (Nat.le_of_ble_eq_true rfl) d_Model_store_139 ⟨Nat.zero_le _, Nat.zero_le _⟩) hP hD hS hA [0, 1, 2, 3, 4, 5, 6, 7, 8, 9] [] [0, 1, 2, 3, 4, 5, 6, 7, 8, 9] rfl rfl rfl (by decide) (fun _ => rfl) rfl (fun u_8 H locs h_8 hP hD hS => ?_)
        obtain ⟨ca_8, tv_8⟩ := u_8
        dsimp only at hP hD
        exact rv (ca_8, tv_8, b, cl, cm, so, ti, pu, np) hx hb hr hlocks hP hD hS d_Model_store_142 (by simp only [sp_Model_store, h_1, h_8, if_neg (by decide : ¬ (2 : Int32) = 1), if_pos (rfl : (2 : Int32) = 2), if_pos c_2, if_pos c_4, if_true, if_false])
      · refine lv_aload_n hx hb d_Model_store_30 rfl (lv_at hl 2 rfl) ?_
        refine lv_iload hx hb d_Model_store_31 (lv_at hl 0 rfl) ?_
        refine lv_iload_n hx hb d_Model_store_33 rfl (lv_at hl 4 rfl) ?_
        refine lv_iload_n hx hb d_Model_store_34 rfl (lv_at hl 5 rfl) ?_
        refine xv (wr := []) (W2 := fun u9 => wR a k n h ca_1 tv_1 nx pcs lv cs x u9 cl cm so ti pu np) (xV (rest := []) ⟨hx, hb, hml, hown, hts⟩ (c_Model_setBytes a k n (sp_Model_inRam n r_1) 2 x2 h ca_1 tv_1 nx pcs lv cs x b cl cm so ti pu np hn (Or.inr (Or.inl rfl)) (sb_store hn h_1 c_2 (Int32.not_lt.mp c_4) (by decide))) mw_Model_setBytes mv_Model_setBytes k_682 ⟨rfl, rfl, Nat.le_of_ble_eq_true rfl, Nat.le_of_ble_eq_true rfl⟩ hK hP hD hS hA hF [0, 1, 2, 3, 4, 5, 6, 7, 8, 9] [0, 1, 2, 3, 4, 5, 6, 7, 8] rfl rfl rfl 0 5 rfl rfl rfl rfl hl.1 rfl (Nat.le_of_ble_eq_true rfl) d_Model_store_35 ⟨Nat.zero_le _, Nat.zero_le _⟩) hP hD hS hA [0, 1, 2, 3, 4, 5, 6, 7, 8, 9] [] [0, 1, 2, 3, 4, 5, 6, 7, 8, 9] rfl rfl rfl (by decide) (fun _ => rfl) rfl (fun u_9 H locs h_9 hP hD hS => ?_)
        obtain ⟨b_9, e_9⟩ : ∃ z, z = u_9 := ⟨_, rfl⟩
        subst e_9
        refine lv_aload_n hx hb d_Model_store_38 rfl (lv_at hl 2 rfl) ?_
        refine va_get (D := D) (ci := 5) (v := .ref (a 6)) (C := R_Model) (T := F_Model) (N := 16) hx hb hts i_Model hown hK hP 0 rfl rfl 6 (by decide) (hts _ k_631) (fun _ h9 => h9) rfl d_Model_store_39 ?_
        refine lv_iconst (v := 0) hx hb d_Model_store_42 rfl ?_
        refine lv_iconst (v := (-1)) hx hb d_Model_store_43 rfl ?_
        refine y_iast (ws' := wR a k n h ca_1 tv_1 nx pcs lv cs x b_9 (upd cl 0 (-1)) cm so ti pu np) hx hb hK hP hD hS 6 5 rfl rfl (by unfold vp_in; decide) d_Model_store_44 rfl (fun H locs hP hD hS => ?_)
        refine lv_aload_n hx hb d_Model_store_45 rfl (lv_at hl 2 rfl) ?_
        refine va_get (D := D) (ci := 5) (v := .ref (a 6)) (C := R_Model) (T := F_Model) (N := 16) hx hb hts i_Model hown hK hP 0 rfl rfl 6 (by decide) (hts _ k_631) (fun _ h9 => h9) rfl d_Model_store_46 ?_
        refine lv_iconst (v := 1) hx hb d_Model_store_49 rfl ?_
        refine lv_iconst (v := (-1)) hx hb d_Model_store_50 rfl ?_
        refine y_iast (ws' := wR a k n h ca_1 tv_1 nx pcs lv cs x b_9 (upd (upd cl 0 (-1)) 1 (-1)) cm so ti pu np) hx hb hK hP hD hS 6 5 rfl rfl (by unfold vp_in; decide) d_Model_store_51 rfl (fun H locs hP hD hS => ?_)
        exact rv (ca_1, tv_1, b_9, (upd (upd cl 0 (-1)) 1 (-1)), cm, so, ti, pu, np) hx hb hr hlocks hP hD hS d_Model_store_52 (by simp only [sp_Model_store, h_1, h_9, if_neg (by decide : ¬ (2 : Int32) = 1), if_pos (rfl : (2 : Int32) = 2), if_pos c_2, if_neg c_4, if_true, if_false])
    · have c_2 : ¬ 0 ≤ r_1 := fun h9 => b_2 ((lg_cmp_ge _ _).mpr h9)
      exact rv (ca_1, tv_1, b, cl, cm, so, ti, pu, np) hx hb hr hlocks hP hD hS d_Model_store_16 (by simp only [sp_Model_store, h_1, if_neg (by decide : ¬ (2 : Int32) = 1), if_pos (rfl : (2 : Int32) = 2), if_neg c_2, if_true, if_false])
  · refine CT.of rfl (Nat.le_of_ble_eq_true rfl) (fun p e s m below meth c A ls hx hb hr hml hts hown hlocks hA hP hK hD hF hS hl => ?_)
    have hl : lv_has ls 8 [(0, .ref (a 0)), (1, .int x0), (2, .int 4), (3, .int x2)] := hl
    refine lv_aload_n hx hb d_Model_store_0 rfl (lv_at hl 0 rfl) ?_
    refine lv_iload_n hx hb d_Model_store_1 rfl (lv_at hl 1 rfl) ?_
    refine lv_iload_n hx hb d_Model_store_2 rfl (lv_at hl 2 rfl) ?_
    refine lv_iconst (v := 2) hx hb d_Model_store_3 rfl ?_
    refine xl (wr := []) (W2 := fun u9 => wR a k n h u9.1 u9.2 nx pcs lv cs x b cl cm so ti pu np) (xV (rest := []) ⟨hx, hb, hml, hown, hts⟩ (c_Model_place a k n x0 4 2 h ca tv nx pcs lv cs x b cl cm so ti pu np hn hh) mw_Model_place mv_Model_place k_821 ⟨rfl, rfl, Nat.le_of_ble_eq_true rfl, Nat.le_of_ble_eq_true rfl⟩ hK hP hD hS hA hF [0, 1, 2, 3, 4, 5, 6, 7, 8, 9] [0, 1, 2, 3, 4, 5, 6, 7, 8] rfl rfl rfl 0 5 rfl rfl rfl rfl hl.1 rfl (Nat.le_of_ble_eq_true rfl) d_Model_store_4 ⟨Nat.zero_le _, Nat.zero_le _⟩) hP hD hS hA [0, 1, 2, 3, 4, 5, 6, 7, 8, 9] [] [0, 1, 2, 3, 4, 5, 6, 7, 8, 9] rfl rfl rfl (by decide) (fun _ => rfl) rfl (fun r_1 u_1 H locs h_1 hP hD hS => ?_)
    obtain ⟨ca_1, tv_1⟩ := u_1
    dsimp only at hP hD
    refine lv_lstore (lv' := [(4, .long r_1), (0, .ref (a 0)), (1, .int x0), (2, .int 4), (3, .int x2)]) hx hb d_Model_store_7 hl (by decide) rfl (fun ls hl => ?_)
    refine lv_lload hx hb d_Model_store_9 (lv_at hl 0 rfl) ?_
    refine lv_lconst (v := 0) hx hb d_Model_store_11 rfl ?_
    refine W.lcmp hx hb d_Model_store_12 ?_
    refine lv_if_ge (tgt := 17) hx hb d_Model_store_13 (by decide) (fun b_2 => ?_) (fun b_2 => ?_)
    · have c_2 : 0 ≤ r_1 := (lg_cmp_ge _ _).mp b_2
      refine lv_aload_n hx hb d_Model_store_17 rfl (lv_at hl 1 rfl) ?_
      refine lv_lload hx hb d_Model_store_18 (lv_at hl 0 rfl) ?_
      refine xi (wr := []) (W2 := fun _ => wR a k n h ca_1 tv_1 nx pcs lv cs x b cl cm so ti pu np) (xV (rest := []) ⟨hx, hb, hml, hown, hts⟩ (c_Model_inRam a k n r_1 h ca_1 tv_1 nx pcs lv cs x b cl cm so ti pu np hn) mw_Model_inRam mv_Model_inRam k_755 ⟨rfl, rfl, Nat.le_of_ble_eq_true rfl, Nat.le_of_ble_eq_true rfl⟩ hK hP hD hS hA hF [0, 1, 2, 3, 4, 5, 6, 7, 8, 9] [0, 1, 2, 3, 4, 5, 6, 7, 8] rfl rfl rfl 0 5 rfl rfl rfl rfl hl.1 rfl (Nat.le_of_ble_eq_true rfl) d_Model_store_20 ⟨Nat.zero_le _, Nat.zero_le _⟩) hP hD hS hA [0, 1, 2, 3, 4, 5, 6, 7, 8, 9] [] [0, 1, 2, 3, 4, 5, 6, 7, 8, 9] rfl rfl rfl (by decide) (fun _ => rfl) rfl (fun r_3 _ H locs h_3 hP hD hS => ?_)
      subst h_3
      refine lv_istore (lv' := [(6, .int (sp_Model_inRam n r_1)), (4, .long r_1), (0, .ref (a 0)), (1, .int x0), (2, .int 4), (3, .int x2)]) hx hb d_Model_store_23 hl (by decide) rfl (fun ls hl => ?_)
      refine lv_iload hx hb d_Model_store_25 (lv_at hl 0 rfl) ?_
      refine lv_if_lt (tgt := 53) hx hb d_Model_store_27 (by decide) (fun c_4 => ?_) (fun c_4 => ?_)
      · refine lv_iload_n hx hb d_Model_store_53 rfl (lv_at hl 4 rfl) ?_
        refine lv_iconst (v := 4) hx hb d_Model_store_54 rfl ?_
        refine lv_icmp_ne (tgt := 66) hx hb d_Model_store_55 (by decide) (fun h9 => absurd (by decide) h9) (fun _ => ?_)
        refine lv_lload hx hb d_Model_store_58 (lv_at hl 1 rfl) ?_
        refine xi (wr := [((a 0), .inr (5, [.int (nI n), .ref (a 1), .ref (a 2), .ref (a 3), .ref (a 4), .ref (a 5), .ref (a 6), .ref (a 7), .ref (a 8), .long ti, .ref (a 9), .int np, .int h, .int ca_1, .int tv_1, .int nx])), ((a 1), .inl ((k 0), 16384, .inl b)), ((a 2), .inl ((k 1), 64, .inl x)), ((a 3), .inl ((k 2), 2, .inl pcs)), ((a 4), .inl ((k 3), 2, .inl lv)), ((a 5), .inl ((k 4), 8192, .inl cs)), ((a 6), .inl ((k 5), 2, .inl cl)), ((a 7), .inl ((k 6), 2, .inr (.inl cm))), ((a 8), .inl ((k 7), 2, .inl so)), ((a 9), .inl ((k 8), 256, .inl pu))]) (W2 := fun _ => wR a k n h ca_1 tv_1 nx pcs lv cs x b cl cm so ti pu np) (xS (rest := []) ⟨hx, hb, hml, hown, hts⟩ (c_Model_clint r_1) mw_Model_clint ms_Model_clint k_825 ⟨rfl, rfl, Nat.le_of_ble_eq_true rfl, Nat.le_of_ble_eq_true rfl⟩ hK hP hD hS hA hF [] [] rfl rfl rfl rfl hl.1 rfl (Nat.le_of_ble_eq_true rfl) d_Model_store_60 ⟨Nat.zero_le _, Nat.zero_le _⟩) hP hD hS hA [] [0, 1, 2, 3, 4, 5, 6, 7, 8, 9] [0, 1, 2, 3, 4, 5, 6, 7, 8, 9] rfl rfl rfl (by decide) (fun _ => rfl) rfl (fun r_6 _ H locs h_6 hP hD hS => ?_)
        subst h_6
        refine lv_goto (tgt := 67) hx hb d_Model_store_63 (by decide) ?_
        refine lv_istore (lv' := [(7, .int (sp_Model_clint r_1)), (6, .int (sp_Model_inRam n r_1)), (4, .long r_1), (0, .ref (a 0)), (1, .int x0), (2, .int 4), (3, .int x2)]) hx hb d_Model_store_67 hl (by decide) rfl (fun ls hl => ?_)
        refine lv_iload hx hb d_Model_store_69 (lv_at hl 0 rfl) ?_
        refine lv_if_lt (tgt := 84) hx hb d_Model_store_71 (by decide) (fun c_7 => ?_) (fun c_7 => ?_)
        · refine lv_iload_n hx hb d_Model_store_84 rfl (lv_at hl 5 rfl) ?_
          refine lv_iconst (v := 1) hx hb d_Model_store_85 rfl ?_
          refine lv_icmp_ne (tgt := 135) hx hb d_Model_store_86 (by decide) (fun _ => ?_) (fun h9 => absurd h9 (by decide))
          refine lv_aload_n hx hb d_Model_store_135 rfl (lv_at hl 3 rfl) ?_
          refine lv_bipush (v := 7) hx hb d_Model_store_136 rfl ?_
          refine lv_iload_n hx hb d_Model_store_138 rfl (lv_at hl 4 rfl) ?_
          refine xv (wr := []) (W2 := fun u9 => wR a k n h u9.1 u9.2 nx pcs lv cs x b cl cm so ti pu np) (xV (rest := []) ⟨hx, hb, hml, hown, hts⟩ (c_Model_trap a k n 7 x0 h ca_1 tv_1 nx pcs lv cs x b cl cm so ti pu np hn) mw_Model_trap mv_Model_trap k_763 ⟨rfl, rfl, Nat.le_of_ble_eq_true rfl, Nat.le_of_ble_eq_true rfl⟩ hK hP hD hS hA hF [0, 1, 2, 3, 4, 5, 6, 7, 8, 9] [0, 1, 2, 3, 4, 5, 6, 7, 8] rfl rfl rfl 0 5 rfl rfl rfl rfl hl.1 rfl (Nat.le_of_ble_eq_true rfl) d_Model_store_139 ⟨Nat.zero_le _, Nat.zero_le _⟩) hP hD hS hA [0, 1, 2, 3, 4, 5, 6, 7, 8, 9] [] [0, 1, 2, 3, 4, 5, 6, 7, 8, 9] rfl rfl rfl (by decide) (fun _ => rfl) rfl (fun u_9 H locs h_9 hP hD hS => ?_)
          obtain ⟨ca_9, tv_9⟩ := u_9
          dsimp only at hP hD
          exact rv (ca_9, tv_9, b, cl, cm, so, ti, pu, np) hx hb hr hlocks hP hD hS d_Model_store_142 (by simp only [sp_Model_store, h_1, h_9, if_neg (by decide : ¬ (4 : Int32) = 1), if_neg (by decide : ¬ (4 : Int32) = 2), if_pos c_2, if_pos c_4, if_pos c_7, if_true, if_false])
        · refine lv_aload_n hx hb d_Model_store_74 rfl (lv_at hl 3 rfl) ?_
          refine lv_iload hx hb d_Model_store_75 (lv_at hl 0 rfl) ?_
          refine lv_iload_n hx hb d_Model_store_77 rfl (lv_at hl 6 rfl) ?_
          refine xv (wr := []) (W2 := fun u9 => wR a k n h ca_1 tv_1 nx pcs lv cs x b cl u9.1 u9.2.1 u9.2.2 pu np) (xV (rest := []) ⟨hx, hb, hml, hown, hts⟩ (c_Model_setClint a k n (sp_Model_clint r_1) x2 h ca_1 tv_1 nx pcs lv cs x b cl cm so ti pu np hn (vp_clint (Int32.not_lt.mp c_7))) mw_Model_setClint mv_Model_setClint k_846 ⟨rfl, rfl, Nat.le_of_ble_eq_true rfl, Nat.le_of_ble_eq_true rfl⟩ hK hP hD hS hA hF [0, 1, 2, 3, 4, 5, 6, 7, 8, 9] [0, 1, 2, 3, 4, 5, 6, 7, 8] rfl rfl rfl 0 5 rfl rfl rfl rfl hl.1 rfl (Nat.le_of_ble_eq_true rfl) d_Model_store_78 ⟨Nat.zero_le _, Nat.zero_le _⟩) hP hD hS hA [0, 1, 2, 3, 4, 5, 6, 7, 8, 9] [] [0, 1, 2, 3, 4, 5, 6, 7, 8, 9] rfl rfl rfl (by decide) (fun _ => rfl) rfl (fun u_10 H locs h_10 hP hD hS => ?_)
          obtain ⟨cm_10, so_10, ti_10⟩ := u_10
          dsimp only at hP hD
          refine lv_goto (tgt := 142) hx hb d_Model_store_81 (by decide) ?_
          exact rv (ca_1, tv_1, b, cl, cm_10, so_10, ti_10, pu, np) hx hb hr hlocks hP hD hS d_Model_store_142 (by simp only [sp_Model_store, h_1, h_10, if_neg (by decide : ¬ (4 : Int32) = 1), if_neg (by decide : ¬ (4 : Int32) = 2), if_pos c_2, if_pos c_4, if_neg c_7, if_true, if_false])
      · refine lv_aload_n hx hb d_Model_store_30 rfl (lv_at hl 2 rfl) ?_
        refine lv_iload hx hb d_Model_store_31 (lv_at hl 0 rfl) ?_
        refine lv_iload_n hx hb d_Model_store_33 rfl (lv_at hl 4 rfl) ?_
        refine lv_iload_n hx hb d_Model_store_34 rfl (lv_at hl 5 rfl) ?_
        refine xv (wr := []) (W2 := fun u9 => wR a k n h ca_1 tv_1 nx pcs lv cs x u9 cl cm so ti pu np) (xV (rest := []) ⟨hx, hb, hml, hown, hts⟩ (c_Model_setBytes a k n (sp_Model_inRam n r_1) 4 x2 h ca_1 tv_1 nx pcs lv cs x b cl cm so ti pu np hn (Or.inr (Or.inr rfl)) (sb_store hn h_1 c_2 (Int32.not_lt.mp c_4) (by decide))) mw_Model_setBytes mv_Model_setBytes k_682 ⟨rfl, rfl, Nat.le_of_ble_eq_true rfl, Nat.le_of_ble_eq_true rfl⟩ hK hP hD hS hA hF [0, 1, 2, 3, 4, 5, 6, 7, 8, 9] [0, 1, 2, 3, 4, 5, 6, 7, 8] rfl rfl rfl 0 5 rfl rfl rfl rfl hl.1 rfl (Nat.le_of_ble_eq_true rfl) d_Model_store_35 ⟨Nat.zero_le _, Nat.zero_le _⟩) hP hD hS hA [0, 1, 2, 3, 4, 5, 6, 7, 8, 9] [] [0, 1, 2, 3, 4, 5, 6, 7, 8, 9] rfl rfl rfl (by decide) (fun _ => rfl) rfl (fun u_11 H locs h_11 hP hD hS => ?_)
        obtain ⟨b_11, e_11⟩ : ∃ z, z = u_11 := ⟨_, rfl⟩
        subst e_11
        refine lv_aload_n hx hb d_Model_store_38 rfl (lv_at hl 2 rfl) ?_
        refine va_get (D := D) (ci := 5) (v := .ref (a 6)) (C := R_Model) (T := F_Model) (N := 16) hx hb hts i_Model hown hK hP 0 rfl rfl 6 (by decide) (hts _ k_631) (fun _ h9 => h9) rfl d_Model_store_39 ?_
        refine lv_iconst (v := 0) hx hb d_Model_store_42 rfl ?_
        refine lv_iconst (v := (-1)) hx hb d_Model_store_43 rfl ?_
        refine y_iast (ws' := wR a k n h ca_1 tv_1 nx pcs lv cs x b_11 (upd cl 0 (-1)) cm so ti pu np) hx hb hK hP hD hS 6 5 rfl rfl (by unfold vp_in; decide) d_Model_store_44 rfl (fun H locs hP hD hS => ?_)
        refine lv_aload_n hx hb d_Model_store_45 rfl (lv_at hl 2 rfl) ?_
        refine va_get (D := D) (ci := 5) (v := .ref (a 6)) (C := R_Model) (T := F_Model) (N := 16) hx hb hts i_Model hown hK hP 0 rfl rfl 6 (by decide) (hts _ k_631) (fun _ h9 => h9) rfl d_Model_store_46 ?_
        refine lv_iconst (v := 1) hx hb d_Model_store_49 rfl ?_
        refine lv_iconst (v := (-1)) hx hb d_Model_store_50 rfl ?_
        refine y_iast (ws' := wR a k n h ca_1 tv_1 nx pcs lv cs x b_11 (upd (upd cl 0 (-1)) 1 (-1)) cm so ti pu np) hx hb hK hP hD hS 6 5 rfl rfl (by unfold vp_in; decide) d_Model_store_51 rfl (fun H locs hP hD hS => ?_)
        exact rv (ca_1, tv_1, b_11, (upd (upd cl 0 (-1)) 1 (-1)), cm, so, ti, pu, np) hx hb hr hlocks hP hD hS d_Model_store_52 (by simp only [sp_Model_store, h_1, h_11, if_neg (by decide : ¬ (4 : Int32) = 1), if_neg (by decide : ¬ (4 : Int32) = 2), if_pos c_2, if_neg c_4, if_true, if_false])
    · have c_2 : ¬ 0 ≤ r_1 := fun h9 => b_2 ((lg_cmp_ge _ _).mpr h9)
      exact rv (ca_1, tv_1, b, cl, cm, so, ti, pu, np) hx hb hr hlocks hP hD hS d_Model_store_16 (by simp only [sp_Model_store, h_1, if_neg (by decide : ¬ (4 : Int32) = 1), if_neg (by decide : ¬ (4 : Int32) = 2), if_neg c_2, if_true, if_false])
def sp_Model_claimed (n : Nat) (x0 : Int32) (x1 : Int32) (h : Int32) (ca : Int32) (tv : Int32) (lv : Nat → Int32) (cs : Nat → Int32) (b : Nat → Int32) : Int32 × Int32 × Int32 :=
  let r_1 := (sp_Model_place n x0 4 x1 h ca tv lv cs b).1
  let ca_1 := (sp_Model_place n x0 4 x1 h ca tv lv cs b).2.1
  let tv_1 := (sp_Model_place n x0 4 x1 h ca tv lv cs b).2.2
  if 0 ≤ r_1 then
    if 0 ≤ (sp_Model_inRam n r_1) then
      (sp_Model_inRam n r_1, (ca_1, tv_1))
    else
      let ca_6 := (sp_Model_trap (sp_Model_accessFault x1) x0 ca_1 tv_1).1
      let tv_6 := (sp_Model_trap (sp_Model_accessFault x1) x0 ca_1 tv_1).2
      (sp_Model_inRam n r_1, (ca_6, tv_6))
  else
    ((-1), (ca_1, tv_1))
set_option maxHeartbeats 4000000 in
set_option maxRecDepth 100000 in
theorem c_Model_claimed {l : Launch} {D : va_G} {g : Nat → Nat} (a : Nat → Nat) (k : Nat → ClassId) (n : Nat) (x0 : Int32) (x1 : Int32) (h ca tv nx : Int32) (pcs lv cs x b cl : Nat → Int32) (cm : Nat → Int64) (so : Nat → Int32) (ti : Int64) (pu : Nat → Int32) (np : Int32) (hn : n ≤ 4096) (hh : h = 0 ∨ h = 1) : CT l D g y_Model_claimed b_Model_claimed 6 (some .int) (rD 5) [.ref (a 0), .int x0, .int x1] (wR a k n h ca tv nx pcs lv cs x b cl cm so ti pu np) (tyR k) (Qi D (fun (r : Int32) (u : Int32 × Int32) => sp_Model_claimed n x0 x1 h ca tv lv cs b = (r, u)) (fun u => wR a k n h u.1 u.2 nx pcs lv cs x b cl cm so ti pu np)) := by
  refine CT.of rfl (Nat.le_of_ble_eq_true rfl) (fun p e s m below meth c A ls hx hb hr hml hts hown hlocks hA hP hK hD hF hS hl => ?_)
  have hl : lv_has ls 6 [(0, .ref (a 0)), (1, .int x0), (2, .int x1)] := hl
  refine lv_aload_n hx hb d_Model_claimed_0 rfl (lv_at hl 0 rfl) ?_
  refine lv_iload_n hx hb d_Model_claimed_1 rfl (lv_at hl 1 rfl) ?_
  refine lv_iconst (v := 4) hx hb d_Model_claimed_2 rfl ?_
  refine lv_iload_n hx hb d_Model_claimed_3 rfl (lv_at hl 2 rfl) ?_
  refine xl (wr := []) (W2 := fun u9 => wR a k n h u9.1 u9.2 nx pcs lv cs x b cl cm so ti pu np) (xV (rest := []) ⟨hx, hb, hml, hown, hts⟩ (c_Model_place a k n x0 4 x1 h ca tv nx pcs lv cs x b cl cm so ti pu np hn hh) mw_Model_place mv_Model_place k_821 ⟨rfl, rfl, Nat.le_of_ble_eq_true rfl, Nat.le_of_ble_eq_true rfl⟩ hK hP hD hS hA hF [0, 1, 2, 3, 4, 5, 6, 7, 8, 9] [0, 1, 2, 3, 4, 5, 6, 7, 8] rfl rfl rfl 0 5 rfl rfl rfl rfl hl.1 rfl (Nat.le_of_ble_eq_true rfl) d_Model_claimed_4 ⟨Nat.zero_le _, Nat.zero_le _⟩) hP hD hS hA [0, 1, 2, 3, 4, 5, 6, 7, 8, 9] [] [0, 1, 2, 3, 4, 5, 6, 7, 8, 9] rfl rfl rfl (by decide) (fun _ => rfl) rfl (fun r_1 u_1 H locs h_1 hP hD hS => ?_)
  obtain ⟨ca_1, tv_1⟩ := u_1
  dsimp only at hP hD
  refine lv_lstore_n (lv' := [(3, .long r_1), (0, .ref (a 0)), (1, .int x0), (2, .int x1)]) hx hb d_Model_claimed_7 rfl hl (by decide) rfl (fun ls hl => ?_)
  refine lv_lload_n hx hb d_Model_claimed_8 rfl (lv_at hl 0 rfl) ?_
  refine lv_lconst (v := 0) hx hb d_Model_claimed_9 rfl ?_
  refine W.lcmp hx hb d_Model_claimed_10 ?_
  refine lv_if_ge (tgt := 16) hx hb d_Model_claimed_11 (by decide) (fun b_2 => ?_) (fun b_2 => ?_)
  · have c_2 : 0 ≤ r_1 := (lg_cmp_ge _ _).mp b_2
    refine lv_aload_n hx hb d_Model_claimed_16 rfl (lv_at hl 1 rfl) ?_
    refine lv_lload_n hx hb d_Model_claimed_17 rfl (lv_at hl 0 rfl) ?_
    refine xi (wr := []) (W2 := fun _ => wR a k n h ca_1 tv_1 nx pcs lv cs x b cl cm so ti pu np) (xV (rest := []) ⟨hx, hb, hml, hown, hts⟩ (c_Model_inRam a k n r_1 h ca_1 tv_1 nx pcs lv cs x b cl cm so ti pu np hn) mw_Model_inRam mv_Model_inRam k_755 ⟨rfl, rfl, Nat.le_of_ble_eq_true rfl, Nat.le_of_ble_eq_true rfl⟩ hK hP hD hS hA hF [0, 1, 2, 3, 4, 5, 6, 7, 8, 9] [0, 1, 2, 3, 4, 5, 6, 7, 8] rfl rfl rfl 0 5 rfl rfl rfl rfl hl.1 rfl (Nat.le_of_ble_eq_true rfl) d_Model_claimed_18 ⟨Nat.zero_le _, Nat.zero_le _⟩) hP hD hS hA [0, 1, 2, 3, 4, 5, 6, 7, 8, 9] [] [0, 1, 2, 3, 4, 5, 6, 7, 8, 9] rfl rfl rfl (by decide) (fun _ => rfl) rfl (fun r_3 _ H locs h_3 hP hD hS => ?_)
    subst h_3
    refine lv_istore (lv' := [(5, .int (sp_Model_inRam n r_1)), (3, .long r_1), (0, .ref (a 0)), (1, .int x0), (2, .int x1)]) hx hb d_Model_claimed_21 hl (by decide) rfl (fun ls hl => ?_)
    refine lv_iload hx hb d_Model_claimed_23 (lv_at hl 0 rfl) ?_
    refine lv_if_ge (tgt := 37) hx hb d_Model_claimed_25 (by decide) (fun c_4 => ?_) (fun c_4 => ?_)
    · refine lv_iload hx hb d_Model_claimed_37 (lv_at hl 0 rfl) ?_
      exact ri (ca_1, tv_1) hx hb hr hlocks hP hD hS d_Model_claimed_39 (by simp only [sp_Model_claimed, h_1, if_pos c_2, if_pos c_4])
    · refine lv_aload_n hx hb d_Model_claimed_28 rfl (lv_at hl 2 rfl) ?_
      refine lv_iload_n hx hb d_Model_claimed_29 rfl (lv_at hl 4 rfl) ?_
      refine xi (wr := [((a 0), .inr (5, [.int (nI n), .ref (a 1), .ref (a 2), .ref (a 3), .ref (a 4), .ref (a 5), .ref (a 6), .ref (a 7), .ref (a 8), .long ti, .ref (a 9), .int np, .int h, .int ca_1, .int tv_1, .int nx])), ((a 1), .inl ((k 0), 16384, .inl b)), ((a 2), .inl ((k 1), 64, .inl x)), ((a 3), .inl ((k 2), 2, .inl pcs)), ((a 4), .inl ((k 3), 2, .inl lv)), ((a 5), .inl ((k 4), 8192, .inl cs)), ((a 6), .inl ((k 5), 2, .inl cl)), ((a 7), .inl ((k 6), 2, .inr (.inl cm))), ((a 8), .inl ((k 7), 2, .inl so)), ((a 9), .inl ((k 8), 256, .inl pu))]) (W2 := fun _ => wR a k n h ca_1 tv_1 nx pcs lv cs x b cl cm so ti pu np) (xS (rest := [.ref (a 0)]) ⟨hx, hb, hml, hown, hts⟩ (c_Model_accessFault x1) mw_Model_accessFault ms_Model_accessFault k_760 ⟨rfl, rfl, Nat.le_of_ble_eq_true rfl, Nat.le_of_ble_eq_true rfl⟩ hK hP hD hS hA hF [] [] rfl rfl rfl rfl hl.1 rfl (Nat.le_of_ble_eq_true rfl) d_Model_claimed_30 ⟨Nat.zero_le _, Nat.zero_le _⟩) hP hD hS hA [] [0, 1, 2, 3, 4, 5, 6, 7, 8, 9] [0, 1, 2, 3, 4, 5, 6, 7, 8, 9] rfl rfl rfl (by decide) (fun _ => rfl) rfl (fun r_5 _ H locs h_5 hP hD hS => ?_)
      subst h_5
      refine lv_iload_n hx hb d_Model_claimed_33 rfl (lv_at hl 3 rfl) ?_
      refine xv (wr := []) (W2 := fun u9 => wR a k n h u9.1 u9.2 nx pcs lv cs x b cl cm so ti pu np) (xV (rest := []) ⟨hx, hb, hml, hown, hts⟩ (c_Model_trap a k n (sp_Model_accessFault x1) x0 h ca_1 tv_1 nx pcs lv cs x b cl cm so ti pu np hn) mw_Model_trap mv_Model_trap k_763 ⟨rfl, rfl, Nat.le_of_ble_eq_true rfl, Nat.le_of_ble_eq_true rfl⟩ hK hP hD hS hA hF [0, 1, 2, 3, 4, 5, 6, 7, 8, 9] [0, 1, 2, 3, 4, 5, 6, 7, 8] rfl rfl rfl 0 5 rfl rfl rfl rfl hl.1 rfl (Nat.le_of_ble_eq_true rfl) d_Model_claimed_34 ⟨Nat.zero_le _, Nat.zero_le _⟩) hP hD hS hA [0, 1, 2, 3, 4, 5, 6, 7, 8, 9] [] [0, 1, 2, 3, 4, 5, 6, 7, 8, 9] rfl rfl rfl (by decide) (fun _ => rfl) rfl (fun u_6 H locs h_6 hP hD hS => ?_)
      obtain ⟨ca_6, tv_6⟩ := u_6
      dsimp only at hP hD
      refine lv_iload hx hb d_Model_claimed_37 (lv_at hl 0 rfl) ?_
      exact ri (ca_6, tv_6) hx hb hr hlocks hP hD hS d_Model_claimed_39 (by simp only [sp_Model_claimed, h_1, h_6, if_pos c_2, if_neg c_4])
  · have c_2 : ¬ 0 ≤ r_1 := fun h9 => b_2 ((lg_cmp_ge _ _).mpr h9)
    refine lv_iconst (v := (-1)) hx hb d_Model_claimed_14 rfl ?_
    exact ri (ca_1, tv_1) hx hb hr hlocks hP hD hS d_Model_claimed_15 (by simp only [sp_Model_claimed, h_1, if_neg c_2])
theorem cl_at {n : Nat} {x0 x1 h ca tv : Int32} {lv cs b : Nat → Int32} {r : Int32} {u : Int32 × Int32} (hn : n ≤ 4096) (e : sp_Model_claimed n x0 x1 h ca tv lv cs b = (r, u)) (c : 0 ≤ r) : ∃ j, r = nI j ∧ j + 4 ≤ 4 * n ∧ j % 4 = 0 := by
  unfold sp_Model_claimed at e
  dsimp only at e
  obtain ⟨q, hq⟩ : ∃ q, q = sp_Model_place n x0 4 x1 h ca tv lv cs b := ⟨_, rfl⟩
  rw [← hq] at e
  obtain ⟨q1, q2⟩ := q
  dsimp only at e
  by_cases h1 : 0 ≤ q1
  · rw [if_pos h1] at e
    by_cases h2 : 0 ≤ sp_Model_inRam n q1
    · rw [if_pos h2] at e
      have e2 : sp_Model_inRam n q1 = r := congrArg Prod.fst e
      obtain ⟨j, e3, h3, h4, h5⟩ := pl_in hn (Or.inr (Or.inr rfl)) hq.symm h1 h2
      have : (4 : Int32).toNatClampNeg = 4 := rfl
      rw [this] at h3 h5
      exact ⟨j, by rw [← e2]; exact e3, h3, h5⟩
    · rw [if_neg h2] at e
      have e2 : sp_Model_inRam n q1 = r := congrArg Prod.fst e
      rw [← e2] at c
      exact absurd c h2
  · rw [if_neg h1] at e
    have e2 : (-1 : Int32) = r := congrArg Prod.fst e
    rw [← e2] at c
    exact absurd c (by decide)
theorem vpw_claimed {n : Nat} {x0 x1 h ca tv : Int32} {lv cs b : Nat → Int32} {r : Int32} {u : Int32 × Int32} (hn : n ≤ 4096) (e : sp_Model_claimed n x0 x1 h ca tv lv cs b = (r, u)) (c : 0 ≤ r) : vpw r := by
  obtain ⟨j, rfl, h1, -⟩ := cl_at hn e c
  exact vpw_nI (by omega)
theorem sb_claimed {n : Nat} {x0 x1 h ca tv : Int32} {lv cs b : Nat → Int32} {r : Int32} {u : Int32 × Int32} (hn : n ≤ 4096) (e : sp_Model_claimed n x0 x1 h ca tv lv cs b = (r, u)) (c : 0 ≤ r) : ∀ k : Nat, k < (4 : Int32).toNatClampNeg → vp_in (r + nI k) 16384 := by
  obtain ⟨j, rfl, h1, -⟩ := cl_at hn e c
  intro k hk
  have : (4 : Int32).toNatClampNeg = 4 := rfl
  rw [this] at hk
  exact vp_add (by omega) (by decide)
def sp_Model_reg (x0 : Int32) (h : Int32) (x : Nat → Int32) : Int32 :=
  x (((32 * h) + x0).toNatClampNeg)
set_option maxHeartbeats 4000000 in
set_option maxRecDepth 100000 in
theorem c_Model_reg {l : Launch} {D : va_G} {g : Nat → Nat} (a : Nat → Nat) (k : Nat → ClassId) (n : Nat) (x0 : Int32) (h ca tv nx : Int32) (pcs lv cs x b cl : Nat → Int32) (cm : Nat → Int64) (so : Nat → Int32) (ti : Int64) (pu : Nat → Int32) (np : Int32) (hn : n ≤ 4096) (hh : h = 0 ∨ h = 1) (hk : vp_in x0 32) : CT l D g y_Model_reg b_Model_reg 2 (some .int) (rD 0) [.ref (a 0), .int x0] (wR a k n h ca tv nx pcs lv cs x b cl cm so ti pu np) (tyR k) (Qi D (fun (r : Int32) (_ : Unit) => sp_Model_reg x0 h x = r) (fun _ => wR a k n h ca tv nx pcs lv cs x b cl cm so ti pu np)) := by
  refine CT.of rfl (Nat.le_of_ble_eq_true rfl) (fun p e s m below meth c A ls hx hb hr hml hts hown hlocks hA hP hK hD hF hS hl => ?_)
  have hl : lv_has ls 2 [(0, .ref (a 0)), (1, .int x0)] := hl
  refine lv_aload_n hx hb d_Model_reg_0 rfl (lv_at hl 0 rfl) ?_
  refine va_get (D := D) (ci := 5) (v := .ref (a 2)) (C := R_Model) (T := F_Model) (N := 16) hx hb hts i_Model hown hK hP 0 rfl rfl 2 (by decide) (hts _ k_627) (fun _ h9 => h9) rfl d_Model_reg_1 ?_
  refine lv_bipush (v := 32) hx hb d_Model_reg_4 rfl ?_
  refine lv_aload_n hx hb d_Model_reg_6 rfl (lv_at hl 0 rfl) ?_
  refine va_get (D := D) (ci := 5) (v := .int h) (C := R_Model) (T := F_Model) (N := 16) hx hb hts i_Model hown hK hP 0 rfl rfl 12 (by decide) (hts _ k_637) (fun _ h9 => h9) rfl d_Model_reg_7 ?_
  refine lv_imul hx hb d_Model_reg_10 ?_
  refine lv_iload_n hx hb d_Model_reg_11 rfl (lv_at hl 1 rfl) ?_
  refine lv_iadd hx hb d_Model_reg_12 ?_
  refine y_iald (v := x (((32 * h) + x0).toNatClampNeg)) hx hb hK hP 2 1 rfl rfl (vp_x hh hk) rfl d_Model_reg_13 ?_
  exact ri () hx hb hr hlocks hP hD hS d_Model_reg_14 (by simp only [sp_Model_reg])
def sp_Model_setReg (x0 : Int32) (x1 : Int32) (h : Int32) (ca : Int32) (x : Nat → Int32) : Nat → Int32 :=
  if x0 ≤ 0 then
    x
  else
    if ca = (-1) then
      (upd x (((32 * h) + x0).toNatClampNeg) x1)
    else
      x
set_option maxHeartbeats 4000000 in
set_option maxRecDepth 100000 in
theorem c_Model_setReg {l : Launch} {D : va_G} {g : Nat → Nat} (a : Nat → Nat) (k : Nat → ClassId) (n : Nat) (x0 : Int32) (x1 : Int32) (h ca tv nx : Int32) (pcs lv cs x b cl : Nat → Int32) (cm : Nat → Int64) (so : Nat → Int32) (ti : Int64) (pu : Nat → Int32) (np : Int32) (hn : n ≤ 4096) (hh : h = 0 ∨ h = 1) (hk : vp_in x0 32) : CT l D g y_Model_setReg b_Model_setReg 3 none (rD 0) [.ref (a 0), .int x0, .int x1] (wR a k n h ca tv nx pcs lv cs x b cl cm so ti pu np) (tyR k) (Qv D (fun (u : Nat → Int32) => sp_Model_setReg x0 x1 h ca x = u) (fun u => wR a k n h ca tv nx pcs lv cs u b cl cm so ti pu np)) := by
  refine CT.of rfl (Nat.le_of_ble_eq_true rfl) (fun p e s m below meth c A ls hx hb hr hml hts hown hlocks hA hP hK hD hF hS hl => ?_)
  have hl : lv_has ls 3 [(0, .ref (a 0)), (1, .int x0), (2, .int x1)] := hl
  refine lv_iload_n hx hb d_Model_setReg_0 rfl (lv_at hl 1 rfl) ?_
  refine lv_if_le (tgt := 27) hx hb d_Model_setReg_1 (by decide) (fun c_1 => ?_) (fun c_1 => ?_)
  · exact rv x hx hb hr hlocks hP hD hS d_Model_setReg_27 (by simp only [sp_Model_setReg, if_pos c_1])
  · refine lv_aload_n hx hb d_Model_setReg_4 rfl (lv_at hl 0 rfl) ?_
    refine va_get (D := D) (ci := 5) (v := .int ca) (C := R_Model) (T := F_Model) (N := 16) hx hb hts i_Model hown hK hP 0 rfl rfl 13 (by decide) (hts _ k_638) (fun _ h9 => h9) rfl d_Model_setReg_5 ?_
    refine lv_iconst (v := (-1)) hx hb d_Model_setReg_8 rfl ?_
    refine lv_icmp_ne (tgt := 27) hx hb d_Model_setReg_9 (by decide) (fun c_2 => ?_) (fun c_2 => ?_)
    · exact rv x hx hb hr hlocks hP hD hS d_Model_setReg_27 (by simp only [sp_Model_setReg, if_neg c_1, if_neg c_2])
    · refine lv_aload_n hx hb d_Model_setReg_12 rfl (lv_at hl 0 rfl) ?_
      refine va_get (D := D) (ci := 5) (v := .ref (a 2)) (C := R_Model) (T := F_Model) (N := 16) hx hb hts i_Model hown hK hP 0 rfl rfl 2 (by decide) (hts _ k_627) (fun _ h9 => h9) rfl d_Model_setReg_13 ?_
      refine lv_bipush (v := 32) hx hb d_Model_setReg_16 rfl ?_
      refine lv_aload_n hx hb d_Model_setReg_18 rfl (lv_at hl 0 rfl) ?_
      refine va_get (D := D) (ci := 5) (v := .int h) (C := R_Model) (T := F_Model) (N := 16) hx hb hts i_Model hown hK hP 0 rfl rfl 12 (by decide) (hts _ k_637) (fun _ h9 => h9) rfl d_Model_setReg_19 ?_
      refine lv_imul hx hb d_Model_setReg_22 ?_
      refine lv_iload_n hx hb d_Model_setReg_23 rfl (lv_at hl 1 rfl) ?_
      refine lv_iadd hx hb d_Model_setReg_24 ?_
      refine lv_iload_n hx hb d_Model_setReg_25 rfl (lv_at hl 2 rfl) ?_
      refine y_iast (ws' := wR a k n h ca tv nx pcs lv cs (upd x (((32 * h) + x0).toNatClampNeg) x1) b cl cm so ti pu np) hx hb hK hP hD hS 2 1 rfl rfl (vp_x hh hk) d_Model_setReg_26 rfl (fun H locs hP hD hS => ?_)
      exact rv (upd x (((32 * h) + x0).toNatClampNeg) x1) hx hb hr hlocks hP hD hS d_Model_setReg_27 (by simp only [sp_Model_setReg, if_neg c_1, if_pos c_2])
def sp_Model_field (x0 : Int32) (x1 : Int32) (x2 : Int32)  : Int32 :=
  (ush x0 x1) &&& ((shl 1 x2) - 1)
set_option maxHeartbeats 4000000 in
set_option maxRecDepth 100000 in
theorem c_Model_field {l : Launch} {D : va_G} {g : Nat → Nat}  (x0 : Int32) (x1 : Int32) (x2 : Int32)   : CT l D g y_Model_field b_Model_field 3 (some .int) (rD 0) [.int x0, .int x1, .int x2] [] [] (Qi D (fun (r : Int32) (_ : Unit) => sp_Model_field x0 x1 x2 = r) (fun _ => [])) := by
  refine CT.of rfl (Nat.le_of_ble_eq_true rfl) (fun p e s m below meth c A ls hx hb hr hml hts hown hlocks hA hP hK hD hF hS hl => ?_)
  have hl : lv_has ls 3 [(0, .int x0), (1, .int x1), (2, .int x2)] := hl
  refine lv_iload_n hx hb d_Model_field_0 rfl (lv_at hl 0 rfl) ?_
  refine lv_iload_n hx hb d_Model_field_1 rfl (lv_at hl 1 rfl) ?_
  refine lv_iushr (v := ush x0 x1) hx hb d_Model_field_2 rfl ?_
  refine lv_iconst (v := 1) hx hb d_Model_field_3 rfl ?_
  refine lv_iload_n hx hb d_Model_field_4 rfl (lv_at hl 2 rfl) ?_
  refine y_ishl hx hb d_Model_field_5 ?_
  refine lv_iconst (v := 1) hx hb d_Model_field_6 rfl ?_
  refine lv_isub hx hb d_Model_field_7 ?_
  refine lv_iand hx hb d_Model_field_8 ?_
  exact ri () hx hb hr hlocks hP hD hS d_Model_field_9 (by simp only [sp_Model_field])
theorem vp_f5 (w low : Int32) : vp_in (sp_Model_field w low 5) 32 := pk_andIn _ 5 (by decide) (by decide)
theorem vp_f12 (w : Int32) : vp_in (sp_Model_field w 20 12) 4096 := pk_andIn _ 12 (by decide) (by decide)
theorem n124 {w : Int32} (c1 : ¬ sp_Model_field w 12 3 = 3) (c2 : sp_Model_field w 12 3 ≤ 5) : shl 1 (sp_Model_field w 12 3 &&& 3) = 1 ∨ shl 1 (sp_Model_field w 12 3 &&& 3) = 2 ∨ shl 1 (sp_Model_field w 12 3 &&& 3) = 4 := by
  obtain ⟨j, hj, e⟩ : ∃ j : Nat, j < 8 ∧ sp_Model_field w 12 3 = nI j := pk_andE _ 3 (by decide)
  rw [e] at c1 c2 ⊢
  have : j = 0 ∨ j = 1 ∨ j = 2 ∨ j = 3 ∨ j = 4 ∨ j = 5 ∨ j = 6 ∨ j = 7 := by omega
  rcases this with rfl | rfl | rfl | rfl | rfl | rfl | rfl | rfl <;> first | decide | exact absurd rfl c1 | exact absurd c2 (by decide)
theorem n124s {w : Int32} (c : sp_Model_field w 12 3 ≤ 2) : shl 1 (sp_Model_field w 12 3) = 1 ∨ shl 1 (sp_Model_field w 12 3) = 2 ∨ shl 1 (sp_Model_field w 12 3) = 4 := by
  obtain ⟨j, hj, e⟩ : ∃ j : Nat, j < 8 ∧ sp_Model_field w 12 3 = nI j := pk_andE _ 3 (by decide)
  rw [e] at c ⊢
  have : j = 0 ∨ j = 1 ∨ j = 2 ∨ j = 3 ∨ j = 4 ∨ j = 5 ∨ j = 6 ∨ j = 7 := by omega
  rcases this with rfl | rfl | rfl | rfl | rfl | rfl | rfl | rfl <;> first | decide | exact absurd c (by decide)
def sp_Model_go (x0 : Int32) (ca : Int32) (tv : Int32) (nx : Int32) : Int32 × Int32 × Int32 :=
  if (x0 &&& 3) = 0 then
    (ca, tv, x0)
  else
    let ca_2 := (sp_Model_trap 0 x0 ca tv).1
    let tv_2 := (sp_Model_trap 0 x0 ca tv).2
    (ca_2, tv_2, x0)
set_option maxHeartbeats 4000000 in
set_option maxRecDepth 100000 in
theorem c_Model_go {l : Launch} {D : va_G} {g : Nat → Nat} (a : Nat → Nat) (k : Nat → ClassId) (n : Nat) (x0 : Int32) (h ca tv nx : Int32) (pcs lv cs x b cl : Nat → Int32) (cm : Nat → Int64) (so : Nat → Int32) (ti : Int64) (pu : Nat → Int32) (np : Int32) (hn : n ≤ 4096) : CT l D g y_Model_go b_Model_go 2 none (rD 1) [.ref (a 0), .int x0] (wR a k n h ca tv nx pcs lv cs x b cl cm so ti pu np) (tyR k) (Qv D (fun (u : Int32 × Int32 × Int32) => sp_Model_go x0 ca tv nx = u) (fun u => wR a k n h u.1 u.2.1 u.2.2 pcs lv cs x b cl cm so ti pu np)) := by
  refine CT.of rfl (Nat.le_of_ble_eq_true rfl) (fun p e s m below meth c A ls hx hb hr hml hts hown hlocks hA hP hK hD hF hS hl => ?_)
  have hl : lv_has ls 2 [(0, .ref (a 0)), (1, .int x0)] := hl
  refine lv_iload_n hx hb d_Model_go_0 rfl (lv_at hl 1 rfl) ?_
  refine lv_iconst (v := 3) hx hb d_Model_go_1 rfl ?_
  refine lv_iand hx hb d_Model_go_2 ?_
  refine lv_if_eq (tgt := 12) hx hb d_Model_go_3 (by decide) (fun c_1 => ?_) (fun c_1 => ?_)
  · refine lv_aload_n hx hb d_Model_go_12 rfl (lv_at hl 0 rfl) ?_
    refine lv_iload_n hx hb d_Model_go_13 rfl (lv_at hl 1 rfl) ?_
    refine y_put (D := D) (ci := 5) (v := .int x0) (ty := .int) (C := R_Model) (T := F_Model) (N := 16) (ws' := wR a k n h ca tv x0 pcs lv cs x b cl cm so ti pu np) hx hb hts i_Model t_Model t_Model_ok n_Model hown hK hP hD hS 0 rfl rfl 15 (by decide) (hts _ k_640) (fun _ h9 => h9) rfl (by decide +kernel) rfl rfl (Nat.le_of_ble_eq_true rfl) d_Model_go_14 rfl (fun H locs hP hD hS => ?_)
    exact rv (ca, tv, x0) hx hb hr hlocks hP hD hS d_Model_go_17 (by simp only [sp_Model_go, if_pos c_1])
  · refine lv_aload_n hx hb d_Model_go_6 rfl (lv_at hl 0 rfl) ?_
    refine lv_iconst (v := 0) hx hb d_Model_go_7 rfl ?_
    refine lv_iload_n hx hb d_Model_go_8 rfl (lv_at hl 1 rfl) ?_
    refine xv (wr := []) (W2 := fun u9 => wR a k n h u9.1 u9.2 nx pcs lv cs x b cl cm so ti pu np) (xV (rest := []) ⟨hx, hb, hml, hown, hts⟩ (c_Model_trap a k n 0 x0 h ca tv nx pcs lv cs x b cl cm so ti pu np hn) mw_Model_trap mv_Model_trap k_763 ⟨rfl, rfl, Nat.le_of_ble_eq_true rfl, Nat.le_of_ble_eq_true rfl⟩ hK hP hD hS hA hF [0, 1, 2, 3, 4, 5, 6, 7, 8, 9] [0, 1, 2, 3, 4, 5, 6, 7, 8] rfl rfl rfl 0 5 rfl rfl rfl rfl hl.1 rfl (Nat.le_of_ble_eq_true rfl) d_Model_go_9 ⟨Nat.zero_le _, Nat.zero_le _⟩) hP hD hS hA [0, 1, 2, 3, 4, 5, 6, 7, 8, 9] [] [0, 1, 2, 3, 4, 5, 6, 7, 8, 9] rfl rfl rfl (by decide) (fun _ => rfl) rfl (fun u_2 H locs h_2 hP hD hS => ?_)
    obtain ⟨ca_2, tv_2⟩ := u_2
    dsimp only at hP hD
    refine lv_aload_n hx hb d_Model_go_12 rfl (lv_at hl 0 rfl) ?_
    refine lv_iload_n hx hb d_Model_go_13 rfl (lv_at hl 1 rfl) ?_
    refine y_put (D := D) (ci := 5) (v := .int x0) (ty := .int) (C := R_Model) (T := F_Model) (N := 16) (ws' := wR a k n h ca_2 tv_2 x0 pcs lv cs x b cl cm so ti pu np) hx hb hts i_Model t_Model t_Model_ok n_Model hown hK hP hD hS 0 rfl rfl 15 (by decide) (hts _ k_640) (fun _ h9 => h9) rfl (by decide +kernel) rfl rfl (Nat.le_of_ble_eq_true rfl) d_Model_go_14 rfl (fun H locs hP hD hS => ?_)
    exact rv (ca_2, tv_2, x0) hx hb hr hlocks hP hD hS d_Model_go_17 (by simp only [sp_Model_go, h_2, if_neg c_1])
def sp_Model_below (x0 : Int32) (x1 : Int32)  : Int32 :=
  if (x1 ^^^ (-2147483648)) ≤ (x0 ^^^ (-2147483648)) then
    0
  else
    1
set_option maxHeartbeats 4000000 in
set_option maxRecDepth 100000 in
theorem c_Model_below {l : Launch} {D : va_G} {g : Nat → Nat}  (x0 : Int32) (x1 : Int32)   : CT l D g y_Model_below b_Model_below 2 (some .boolean) (rD 0) [.int x0, .int x1] [] [] (Qi D (fun (r : Int32) (_ : Unit) => sp_Model_below x0 x1 = r ∧ (r = 0 ∨ r = 1)) (fun _ => [])) := by
  refine CT.of rfl (Nat.le_of_ble_eq_true rfl) (fun p e s m below meth c A ls hx hb hr hml hts hown hlocks hA hP hK hD hF hS hl => ?_)
  have hl : lv_has ls 2 [(0, .int x0), (1, .int x1)] := hl
  refine lv_iload_n hx hb d_Model_below_0 rfl (lv_at hl 0 rfl) ?_
  refine lv_ldc (v := (-2147483648)) hx hb hown (hts _ k_623) d_Model_below_1 ?_
  refine lv_ixor hx hb d_Model_below_3 ?_
  refine lv_iload_n hx hb d_Model_below_4 rfl (lv_at hl 1 rfl) ?_
  refine lv_ldc (v := (-2147483648)) hx hb hown (hts _ k_623) d_Model_below_5 ?_
  refine lv_ixor hx hb d_Model_below_7 ?_
  refine lv_icmp_ge (tgt := 15) hx hb d_Model_below_8 (by decide) (fun c_1 => ?_) (fun c_1 => ?_)
  · refine lv_iconst (v := 0) hx hb d_Model_below_15 rfl ?_
    exact rz () hx hb hr hlocks rfl hP hD hS d_Model_below_16 ⟨by simp only [sp_Model_below, if_pos c_1], Or.inl rfl⟩
  · refine lv_iconst (v := 1) hx hb d_Model_below_11 rfl ?_
    refine lv_goto (tgt := 16) hx hb d_Model_below_12 (by decide) ?_
    exact rz () hx hb hr hlocks rfl hP hD hS d_Model_below_16 ⟨by simp only [sp_Model_below, if_neg c_1], Or.inr rfl⟩
def sp_Model_jump (x0 : Int32) (h : Int32) (ca : Int32) (tv : Int32) (nx : Int32) (pcs : Nat → Int32) (x : Nat → Int32) : Int32 × Int32 × Int32 × (Nat → Int32) :=
  let ca_4 := (sp_Model_go ((pcs h.toNatClampNeg) + ((((shl (shr x0 31) 20) ||| (shl (sp_Model_field x0 12 8) 12)) ||| (shl (sp_Model_field x0 20 1) 11)) ||| (shl (sp_Model_field x0 21 10) 1))) ca tv nx).1
  let tv_4 := (sp_Model_go ((pcs h.toNatClampNeg) + ((((shl (shr x0 31) 20) ||| (shl (sp_Model_field x0 12 8) 12)) ||| (shl (sp_Model_field x0 20 1) 11)) ||| (shl (sp_Model_field x0 21 10) 1))) ca tv nx).2.1
  let nx_4 := (sp_Model_go ((pcs h.toNatClampNeg) + ((((shl (shr x0 31) 20) ||| (shl (sp_Model_field x0 12 8) 12)) ||| (shl (sp_Model_field x0 20 1) 11)) ||| (shl (sp_Model_field x0 21 10) 1))) ca tv nx).2.2
  let x_6 := (sp_Model_setReg (sp_Model_field x0 7 5) ((pcs h.toNatClampNeg) + 4) h ca_4 x)
  (ca_4, tv_4, nx_4, x_6)
set_option maxHeartbeats 4000000 in
set_option maxRecDepth 100000 in
theorem c_Model_jump {l : Launch} {D : va_G} {g : Nat → Nat} (a : Nat → Nat) (k : Nat → ClassId) (n : Nat) (x0 : Int32) (h ca tv nx : Int32) (pcs lv cs x b cl : Nat → Int32) (cm : Nat → Int64) (so : Nat → Int32) (ti : Int64) (pu : Nat → Int32) (np : Int32) (hn : n ≤ 4096) (hh : h = 0 ∨ h = 1) : CT l D g y_Model_jump b_Model_jump 3 none (rD 2) [.ref (a 0), .int x0] (wR a k n h ca tv nx pcs lv cs x b cl cm so ti pu np) (tyR k) (Qv D (fun (u : Int32 × Int32 × Int32 × (Nat → Int32)) => sp_Model_jump x0 h ca tv nx pcs x = u) (fun u => wR a k n h u.1 u.2.1 u.2.2.1 pcs lv cs u.2.2.2 b cl cm so ti pu np)) := by
  refine CT.of rfl (Nat.le_of_ble_eq_true rfl) (fun p e s m below meth c A ls hx hb hr hml hts hown hlocks hA hP hK hD hF hS hl => ?_)
  have hl : lv_has ls 3 [(0, .ref (a 0)), (1, .int x0)] := hl
  refine lv_aload_n hx hb d_Model_jump_0 rfl (lv_at hl 0 rfl) ?_
  refine va_get (D := D) (ci := 5) (v := .ref (a 3)) (C := R_Model) (T := F_Model) (N := 16) hx hb hts i_Model hown hK hP 0 rfl rfl 3 (by decide) (hts _ k_628) (fun _ h9 => h9) rfl d_Model_jump_1 ?_
  refine lv_aload_n hx hb d_Model_jump_4 rfl (lv_at hl 0 rfl) ?_
  refine va_get (D := D) (ci := 5) (v := .int h) (C := R_Model) (T := F_Model) (N := 16) hx hb hts i_Model hown hK hP 0 rfl rfl 12 (by decide) (hts _ k_637) (fun _ h9 => h9) rfl d_Model_jump_5 ?_
  refine y_iald (v := pcs h.toNatClampNeg) hx hb hK hP 3 2 rfl rfl (vp_01 hh (by decide)) rfl d_Model_jump_8 ?_
  refine lv_iload_n hx hb d_Model_jump_9 rfl (lv_at hl 1 rfl) ?_
  refine lv_bipush (v := 31) hx hb d_Model_jump_10 rfl ?_
  refine y_ishr hx hb d_Model_jump_12 ?_
  refine lv_bipush (v := 20) hx hb d_Model_jump_13 rfl ?_
  refine y_ishl hx hb d_Model_jump_15 ?_
  refine lv_iload_n hx hb d_Model_jump_16 rfl (lv_at hl 1 rfl) ?_
  refine lv_bipush (v := 12) hx hb d_Model_jump_17 rfl ?_
  refine lv_bipush (v := 8) hx hb d_Model_jump_19 rfl ?_
  refine xi (wr := [((a 0), .inr (5, [.int (nI n), .ref (a 1), .ref (a 2), .ref (a 3), .ref (a 4), .ref (a 5), .ref (a 6), .ref (a 7), .ref (a 8), .long ti, .ref (a 9), .int np, .int h, .int ca, .int tv, .int nx])), ((a 1), .inl ((k 0), 16384, .inl b)), ((a 2), .inl ((k 1), 64, .inl x)), ((a 3), .inl ((k 2), 2, .inl pcs)), ((a 4), .inl ((k 3), 2, .inl lv)), ((a 5), .inl ((k 4), 8192, .inl cs)), ((a 6), .inl ((k 5), 2, .inl cl)), ((a 7), .inl ((k 6), 2, .inr (.inl cm))), ((a 8), .inl ((k 7), 2, .inl so)), ((a 9), .inl ((k 8), 256, .inl pu))]) (W2 := fun _ => wR a k n h ca tv nx pcs lv cs x b cl cm so ti pu np) (xS (rest := [.int (shl (shr x0 31) 20), .int (pcs h.toNatClampNeg)]) ⟨hx, hb, hml, hown, hts⟩ (c_Model_field x0 12 8) mw_Model_field ms_Model_field k_787 ⟨rfl, rfl, Nat.le_of_ble_eq_true rfl, Nat.le_of_ble_eq_true rfl⟩ hK hP hD hS hA hF [] [] rfl rfl rfl rfl hl.1 rfl (Nat.le_of_ble_eq_true rfl) d_Model_jump_21 ⟨Nat.zero_le _, Nat.zero_le _⟩) hP hD hS hA [] [0, 1, 2, 3, 4, 5, 6, 7, 8, 9] [0, 1, 2, 3, 4, 5, 6, 7, 8, 9] rfl rfl rfl (by decide) (fun _ => rfl) rfl (fun r_1 _ H locs h_1 hP hD hS => ?_)
  subst h_1
  refine lv_bipush (v := 12) hx hb d_Model_jump_24 rfl ?_
  refine y_ishl hx hb d_Model_jump_26 ?_
  refine lv_ior hx hb d_Model_jump_27 ?_
  refine lv_iload_n hx hb d_Model_jump_28 rfl (lv_at hl 1 rfl) ?_
  refine lv_bipush (v := 20) hx hb d_Model_jump_29 rfl ?_
  refine lv_iconst (v := 1) hx hb d_Model_jump_31 rfl ?_
  refine xi (wr := [((a 0), .inr (5, [.int (nI n), .ref (a 1), .ref (a 2), .ref (a 3), .ref (a 4), .ref (a 5), .ref (a 6), .ref (a 7), .ref (a 8), .long ti, .ref (a 9), .int np, .int h, .int ca, .int tv, .int nx])), ((a 1), .inl ((k 0), 16384, .inl b)), ((a 2), .inl ((k 1), 64, .inl x)), ((a 3), .inl ((k 2), 2, .inl pcs)), ((a 4), .inl ((k 3), 2, .inl lv)), ((a 5), .inl ((k 4), 8192, .inl cs)), ((a 6), .inl ((k 5), 2, .inl cl)), ((a 7), .inl ((k 6), 2, .inr (.inl cm))), ((a 8), .inl ((k 7), 2, .inl so)), ((a 9), .inl ((k 8), 256, .inl pu))]) (W2 := fun _ => wR a k n h ca tv nx pcs lv cs x b cl cm so ti pu np) (xS (rest := [.int ((shl (shr x0 31) 20) ||| (shl (sp_Model_field x0 12 8) 12)), .int (pcs h.toNatClampNeg)]) ⟨hx, hb, hml, hown, hts⟩ (c_Model_field x0 20 1) mw_Model_field ms_Model_field k_787 ⟨rfl, rfl, Nat.le_of_ble_eq_true rfl, Nat.le_of_ble_eq_true rfl⟩ hK hP hD hS hA hF [] [] rfl rfl rfl rfl hl.1 rfl (Nat.le_of_ble_eq_true rfl) d_Model_jump_32 ⟨Nat.zero_le _, Nat.zero_le _⟩) hP hD hS hA [] [0, 1, 2, 3, 4, 5, 6, 7, 8, 9] [0, 1, 2, 3, 4, 5, 6, 7, 8, 9] rfl rfl rfl (by decide) (fun _ => rfl) rfl (fun r_2 _ H locs h_2 hP hD hS => ?_)
  subst h_2
  refine lv_bipush (v := 11) hx hb d_Model_jump_35 rfl ?_
  refine y_ishl hx hb d_Model_jump_37 ?_
  refine lv_ior hx hb d_Model_jump_38 ?_
  refine lv_iload_n hx hb d_Model_jump_39 rfl (lv_at hl 1 rfl) ?_
  refine lv_bipush (v := 21) hx hb d_Model_jump_40 rfl ?_
  refine lv_bipush (v := 10) hx hb d_Model_jump_42 rfl ?_
  refine xi (wr := [((a 0), .inr (5, [.int (nI n), .ref (a 1), .ref (a 2), .ref (a 3), .ref (a 4), .ref (a 5), .ref (a 6), .ref (a 7), .ref (a 8), .long ti, .ref (a 9), .int np, .int h, .int ca, .int tv, .int nx])), ((a 1), .inl ((k 0), 16384, .inl b)), ((a 2), .inl ((k 1), 64, .inl x)), ((a 3), .inl ((k 2), 2, .inl pcs)), ((a 4), .inl ((k 3), 2, .inl lv)), ((a 5), .inl ((k 4), 8192, .inl cs)), ((a 6), .inl ((k 5), 2, .inl cl)), ((a 7), .inl ((k 6), 2, .inr (.inl cm))), ((a 8), .inl ((k 7), 2, .inl so)), ((a 9), .inl ((k 8), 256, .inl pu))]) (W2 := fun _ => wR a k n h ca tv nx pcs lv cs x b cl cm so ti pu np) (xS (rest := [.int (((shl (shr x0 31) 20) ||| (shl (sp_Model_field x0 12 8) 12)) ||| (shl (sp_Model_field x0 20 1) 11)), .int (pcs h.toNatClampNeg)]) ⟨hx, hb, hml, hown, hts⟩ (c_Model_field x0 21 10) mw_Model_field ms_Model_field k_787 ⟨rfl, rfl, Nat.le_of_ble_eq_true rfl, Nat.le_of_ble_eq_true rfl⟩ hK hP hD hS hA hF [] [] rfl rfl rfl rfl hl.1 rfl (Nat.le_of_ble_eq_true rfl) d_Model_jump_44 ⟨Nat.zero_le _, Nat.zero_le _⟩) hP hD hS hA [] [0, 1, 2, 3, 4, 5, 6, 7, 8, 9] [0, 1, 2, 3, 4, 5, 6, 7, 8, 9] rfl rfl rfl (by decide) (fun _ => rfl) rfl (fun r_3 _ H locs h_3 hP hD hS => ?_)
  subst h_3
  refine lv_iconst (v := 1) hx hb d_Model_jump_47 rfl ?_
  refine y_ishl hx hb d_Model_jump_48 ?_
  refine lv_ior hx hb d_Model_jump_49 ?_
  refine lv_iadd hx hb d_Model_jump_50 ?_
  refine lv_istore_n (lv' := [(2, .int ((pcs h.toNatClampNeg) + ((((shl (shr x0 31) 20) ||| (shl (sp_Model_field x0 12 8) 12)) ||| (shl (sp_Model_field x0 20 1) 11)) ||| (shl (sp_Model_field x0 21 10) 1)))), (0, .ref (a 0)), (1, .int x0)]) hx hb d_Model_jump_51 rfl hl (by decide) rfl (fun ls hl => ?_)
  refine lv_aload_n hx hb d_Model_jump_52 rfl (lv_at hl 1 rfl) ?_
  refine lv_iload_n hx hb d_Model_jump_53 rfl (lv_at hl 0 rfl) ?_
  refine xv (wr := []) (W2 := fun u9 => wR a k n h u9.1 u9.2.1 u9.2.2 pcs lv cs x b cl cm so ti pu np) (xV (rest := []) ⟨hx, hb, hml, hown, hts⟩ (c_Model_go a k n ((pcs h.toNatClampNeg) + ((((shl (shr x0 31) 20) ||| (shl (sp_Model_field x0 12 8) 12)) ||| (shl (sp_Model_field x0 20 1) 11)) ||| (shl (sp_Model_field x0 21 10) 1))) h ca tv nx pcs lv cs x b cl cm so ti pu np hn) mw_Model_go mv_Model_go k_798 ⟨rfl, rfl, Nat.le_of_ble_eq_true rfl, Nat.le_of_ble_eq_true rfl⟩ hK hP hD hS hA hF [0, 1, 2, 3, 4, 5, 6, 7, 8, 9] [0, 1, 2, 3, 4, 5, 6, 7, 8] rfl rfl rfl 0 5 rfl rfl rfl rfl hl.1 rfl (Nat.le_of_ble_eq_true rfl) d_Model_jump_54 ⟨Nat.zero_le _, Nat.zero_le _⟩) hP hD hS hA [0, 1, 2, 3, 4, 5, 6, 7, 8, 9] [] [0, 1, 2, 3, 4, 5, 6, 7, 8, 9] rfl rfl rfl (by decide) (fun _ => rfl) rfl (fun u_4 H locs h_4 hP hD hS => ?_)
  obtain ⟨ca_4, tv_4, nx_4⟩ := u_4
  dsimp only at hP hD
  refine lv_aload_n hx hb d_Model_jump_57 rfl (lv_at hl 1 rfl) ?_
  refine lv_iload_n hx hb d_Model_jump_58 rfl (lv_at hl 2 rfl) ?_
  refine lv_bipush (v := 7) hx hb d_Model_jump_59 rfl ?_
  refine lv_iconst (v := 5) hx hb d_Model_jump_61 rfl ?_
  refine xi (wr := [((a 0), .inr (5, [.int (nI n), .ref (a 1), .ref (a 2), .ref (a 3), .ref (a 4), .ref (a 5), .ref (a 6), .ref (a 7), .ref (a 8), .long ti, .ref (a 9), .int np, .int h, .int ca_4, .int tv_4, .int nx_4])), ((a 1), .inl ((k 0), 16384, .inl b)), ((a 2), .inl ((k 1), 64, .inl x)), ((a 3), .inl ((k 2), 2, .inl pcs)), ((a 4), .inl ((k 3), 2, .inl lv)), ((a 5), .inl ((k 4), 8192, .inl cs)), ((a 6), .inl ((k 5), 2, .inl cl)), ((a 7), .inl ((k 6), 2, .inr (.inl cm))), ((a 8), .inl ((k 7), 2, .inl so)), ((a 9), .inl ((k 8), 256, .inl pu))]) (W2 := fun _ => wR a k n h ca_4 tv_4 nx_4 pcs lv cs x b cl cm so ti pu np) (xS (rest := [.ref (a 0)]) ⟨hx, hb, hml, hown, hts⟩ (c_Model_field x0 7 5) mw_Model_field ms_Model_field k_787 ⟨rfl, rfl, Nat.le_of_ble_eq_true rfl, Nat.le_of_ble_eq_true rfl⟩ hK hP hD hS hA hF [] [] rfl rfl rfl rfl hl.1 rfl (Nat.le_of_ble_eq_true rfl) d_Model_jump_62 ⟨Nat.zero_le _, Nat.zero_le _⟩) hP hD hS hA [] [0, 1, 2, 3, 4, 5, 6, 7, 8, 9] [0, 1, 2, 3, 4, 5, 6, 7, 8, 9] rfl rfl rfl (by decide) (fun _ => rfl) rfl (fun r_5 _ H locs h_5 hP hD hS => ?_)
  subst h_5
  refine lv_aload_n hx hb d_Model_jump_65 rfl (lv_at hl 1 rfl) ?_
  refine va_get (D := D) (ci := 5) (v := .ref (a 3)) (C := R_Model) (T := F_Model) (N := 16) hx hb hts i_Model hown hK hP 0 rfl rfl 3 (by decide) (hts _ k_628) (fun _ h9 => h9) rfl d_Model_jump_66 ?_
  refine lv_aload_n hx hb d_Model_jump_69 rfl (lv_at hl 1 rfl) ?_
  refine va_get (D := D) (ci := 5) (v := .int h) (C := R_Model) (T := F_Model) (N := 16) hx hb hts i_Model hown hK hP 0 rfl rfl 12 (by decide) (hts _ k_637) (fun _ h9 => h9) rfl d_Model_jump_70 ?_
  refine y_iald (v := pcs h.toNatClampNeg) hx hb hK hP 3 2 rfl rfl (vp_01 hh (by decide)) rfl d_Model_jump_73 ?_
  refine lv_iconst (v := 4) hx hb d_Model_jump_74 rfl ?_
  refine lv_iadd hx hb d_Model_jump_75 ?_
  refine xv (wr := []) (W2 := fun u9 => wR a k n h ca_4 tv_4 nx_4 pcs lv cs u9 b cl cm so ti pu np) (xV (rest := []) ⟨hx, hb, hml, hown, hts⟩ (c_Model_setReg a k n (sp_Model_field x0 7 5) ((pcs h.toNatClampNeg) + 4) h ca_4 tv_4 nx_4 pcs lv cs x b cl cm so ti pu np hn hh (vp_f5 _ _)) mw_Model_setReg mv_Model_setReg k_790 ⟨rfl, rfl, Nat.le_of_ble_eq_true rfl, Nat.le_of_ble_eq_true rfl⟩ hK hP hD hS hA hF [0, 1, 2, 3, 4, 5, 6, 7, 8, 9] [0, 1, 2, 3, 4, 5, 6, 7, 8] rfl rfl rfl 0 5 rfl rfl rfl rfl hl.1 rfl (Nat.le_of_ble_eq_true rfl) d_Model_jump_76 ⟨Nat.zero_le _, Nat.zero_le _⟩) hP hD hS hA [0, 1, 2, 3, 4, 5, 6, 7, 8, 9] [] [0, 1, 2, 3, 4, 5, 6, 7, 8, 9] rfl rfl rfl (by decide) (fun _ => rfl) rfl (fun u_6 H locs h_6 hP hD hS => ?_)
  obtain ⟨x_6, e_6⟩ : ∃ z, z = u_6 := ⟨_, rfl⟩
  subst e_6
  exact rv (ca_4, tv_4, nx_4, x_6) hx hb hr hlocks hP hD hS d_Model_jump_79 (by simp only [sp_Model_jump, h_4, h_6])
def sp_Model_branch (x0 : Int32) (h : Int32) (ca : Int32) (tv : Int32) (nx : Int32) (pcs : Nat → Int32) (x : Nat → Int32) : Int32 × Int32 × Int32 :=
  if (sp_Model_field x0 12 3) = 2 then
    let ca_7 := (sp_Model_trap 2 x0 ca tv).1
    let tv_7 := (sp_Model_trap 2 x0 ca tv).2
    (ca_7, tv_7, nx)
  else
    if (sp_Model_field x0 12 3) = 3 then
      let ca_53 := (sp_Model_trap 2 x0 ca tv).1
      let tv_53 := (sp_Model_trap 2 x0 ca tv).2
      (ca_53, tv_53, nx)
    else
      if 2 ≤ (sp_Model_field x0 12 3) then
        if 6 ≤ (sp_Model_field x0 12 3) then
          if ((sp_Model_field x0 12 3) &&& 1) = 1 then
            if (sp_Model_below (sp_Model_reg (sp_Model_field x0 15 5) h x) (sp_Model_reg (sp_Model_field x0 20 5) h x)) = 1 then
              (ca, tv, nx)
            else
              let ca_22 := (sp_Model_go ((pcs h.toNatClampNeg) + ((((shl (shr x0 31) 12) ||| (shl (sp_Model_field x0 7 1) 11)) ||| (shl (sp_Model_field x0 25 6) 5)) ||| (shl (sp_Model_field x0 8 4) 1))) ca tv nx).1
              let tv_22 := (sp_Model_go ((pcs h.toNatClampNeg) + ((((shl (shr x0 31) 12) ||| (shl (sp_Model_field x0 7 1) 11)) ||| (shl (sp_Model_field x0 25 6) 5)) ||| (shl (sp_Model_field x0 8 4) 1))) ca tv nx).2.1
              let nx_22 := (sp_Model_go ((pcs h.toNatClampNeg) + ((((shl (shr x0 31) 12) ||| (shl (sp_Model_field x0 7 1) 11)) ||| (shl (sp_Model_field x0 25 6) 5)) ||| (shl (sp_Model_field x0 8 4) 1))) ca tv nx).2.2
              (ca_22, tv_22, nx_22)
          else
            if (sp_Model_below (sp_Model_reg (sp_Model_field x0 15 5) h x) (sp_Model_reg (sp_Model_field x0 20 5) h x)) = 0 then
              (ca, tv, nx)
            else
              let ca_17 := (sp_Model_go ((pcs h.toNatClampNeg) + ((((shl (shr x0 31) 12) ||| (shl (sp_Model_field x0 7 1) 11)) ||| (shl (sp_Model_field x0 25 6) 5)) ||| (shl (sp_Model_field x0 8 4) 1))) ca tv nx).1
              let tv_17 := (sp_Model_go ((pcs h.toNatClampNeg) + ((((shl (shr x0 31) 12) ||| (shl (sp_Model_field x0 7 1) 11)) ||| (shl (sp_Model_field x0 25 6) 5)) ||| (shl (sp_Model_field x0 8 4) 1))) ca tv nx).2.1
              let nx_17 := (sp_Model_go ((pcs h.toNatClampNeg) + ((((shl (shr x0 31) 12) ||| (shl (sp_Model_field x0 7 1) 11)) ||| (shl (sp_Model_field x0 25 6) 5)) ||| (shl (sp_Model_field x0 8 4) 1))) ca tv nx).2.2
              (ca_17, tv_17, nx_17)
        else
          if (sp_Model_reg (sp_Model_field x0 20 5) h x) ≤ (sp_Model_reg (sp_Model_field x0 15 5) h x) then
            if ((sp_Model_field x0 12 3) &&& 1) = 1 then
              let ca_30 := (sp_Model_go ((pcs h.toNatClampNeg) + ((((shl (shr x0 31) 12) ||| (shl (sp_Model_field x0 7 1) 11)) ||| (shl (sp_Model_field x0 25 6) 5)) ||| (shl (sp_Model_field x0 8 4) 1))) ca tv nx).1
              let tv_30 := (sp_Model_go ((pcs h.toNatClampNeg) + ((((shl (shr x0 31) 12) ||| (shl (sp_Model_field x0 7 1) 11)) ||| (shl (sp_Model_field x0 25 6) 5)) ||| (shl (sp_Model_field x0 8 4) 1))) ca tv nx).2.1
              let nx_30 := (sp_Model_go ((pcs h.toNatClampNeg) + ((((shl (shr x0 31) 12) ||| (shl (sp_Model_field x0 7 1) 11)) ||| (shl (sp_Model_field x0 25 6) 5)) ||| (shl (sp_Model_field x0 8 4) 1))) ca tv nx).2.2
              (ca_30, tv_30, nx_30)
            else
              (ca, tv, nx)
          else
            if ((sp_Model_field x0 12 3) &&& 1) = 1 then
              (ca, tv, nx)
            else
              let ca_36 := (sp_Model_go ((pcs h.toNatClampNeg) + ((((shl (shr x0 31) 12) ||| (shl (sp_Model_field x0 7 1) 11)) ||| (shl (sp_Model_field x0 25 6) 5)) ||| (shl (sp_Model_field x0 8 4) 1))) ca tv nx).1
              let tv_36 := (sp_Model_go ((pcs h.toNatClampNeg) + ((((shl (shr x0 31) 12) ||| (shl (sp_Model_field x0 7 1) 11)) ||| (shl (sp_Model_field x0 25 6) 5)) ||| (shl (sp_Model_field x0 8 4) 1))) ca tv nx).2.1
              let nx_36 := (sp_Model_go ((pcs h.toNatClampNeg) + ((((shl (shr x0 31) 12) ||| (shl (sp_Model_field x0 7 1) 11)) ||| (shl (sp_Model_field x0 25 6) 5)) ||| (shl (sp_Model_field x0 8 4) 1))) ca tv nx).2.2
              (ca_36, tv_36, nx_36)
      else
        if (sp_Model_reg (sp_Model_field x0 15 5) h x) = (sp_Model_reg (sp_Model_field x0 20 5) h x) then
          if ((sp_Model_field x0 12 3) &&& 1) = 1 then
            (ca, tv, nx)
          else
            let ca_51 := (sp_Model_go ((pcs h.toNatClampNeg) + ((((shl (shr x0 31) 12) ||| (shl (sp_Model_field x0 7 1) 11)) ||| (shl (sp_Model_field x0 25 6) 5)) ||| (shl (sp_Model_field x0 8 4) 1))) ca tv nx).1
            let tv_51 := (sp_Model_go ((pcs h.toNatClampNeg) + ((((shl (shr x0 31) 12) ||| (shl (sp_Model_field x0 7 1) 11)) ||| (shl (sp_Model_field x0 25 6) 5)) ||| (shl (sp_Model_field x0 8 4) 1))) ca tv nx).2.1
            let nx_51 := (sp_Model_go ((pcs h.toNatClampNeg) + ((((shl (shr x0 31) 12) ||| (shl (sp_Model_field x0 7 1) 11)) ||| (shl (sp_Model_field x0 25 6) 5)) ||| (shl (sp_Model_field x0 8 4) 1))) ca tv nx).2.2
            (ca_51, tv_51, nx_51)
        else
          if ((sp_Model_field x0 12 3) &&& 1) = 1 then
            let ca_45 := (sp_Model_go ((pcs h.toNatClampNeg) + ((((shl (shr x0 31) 12) ||| (shl (sp_Model_field x0 7 1) 11)) ||| (shl (sp_Model_field x0 25 6) 5)) ||| (shl (sp_Model_field x0 8 4) 1))) ca tv nx).1
            let tv_45 := (sp_Model_go ((pcs h.toNatClampNeg) + ((((shl (shr x0 31) 12) ||| (shl (sp_Model_field x0 7 1) 11)) ||| (shl (sp_Model_field x0 25 6) 5)) ||| (shl (sp_Model_field x0 8 4) 1))) ca tv nx).2.1
            let nx_45 := (sp_Model_go ((pcs h.toNatClampNeg) + ((((shl (shr x0 31) 12) ||| (shl (sp_Model_field x0 7 1) 11)) ||| (shl (sp_Model_field x0 25 6) 5)) ||| (shl (sp_Model_field x0 8 4) 1))) ca tv nx).2.2
            (ca_45, tv_45, nx_45)
          else
            (ca, tv, nx)
set_option maxHeartbeats 4000000 in
set_option maxRecDepth 100000 in
theorem c_Model_branch {l : Launch} {D : va_G} {g : Nat → Nat} (a : Nat → Nat) (k : Nat → ClassId) (n : Nat) (x0 : Int32) (h ca tv nx : Int32) (pcs lv cs x b cl : Nat → Int32) (cm : Nat → Int64) (so : Nat → Int32) (ti : Int64) (pu : Nat → Int32) (np : Int32) (hn : n ≤ 4096) (hh : h = 0 ∨ h = 1) : CT l D g y_Model_branch b_Model_branch 6 none (rD 2) [.ref (a 0), .int x0] (wR a k n h ca tv nx pcs lv cs x b cl cm so ti pu np) (tyR k) (Qv D (fun (u : Int32 × Int32 × Int32) => sp_Model_branch x0 h ca tv nx pcs x = u) (fun u => wR a k n h u.1 u.2.1 u.2.2 pcs lv cs x b cl cm so ti pu np)) := by
  refine CT.of rfl (Nat.le_of_ble_eq_true rfl) (fun p e s m below meth c A ls hx hb hr hml hts hown hlocks hA hP hK hD hF hS hl => ?_)
  have hl : lv_has ls 6 [(0, .ref (a 0)), (1, .int x0)] := hl
  refine lv_aload_n hx hb d_Model_branch_0 rfl (lv_at hl 0 rfl) ?_
  refine lv_iload_n hx hb d_Model_branch_1 rfl (lv_at hl 1 rfl) ?_
  refine lv_bipush (v := 15) hx hb d_Model_branch_2 rfl ?_
  refine lv_iconst (v := 5) hx hb d_Model_branch_4 rfl ?_
  refine xi (wr := [((a 0), .inr (5, [.int (nI n), .ref (a 1), .ref (a 2), .ref (a 3), .ref (a 4), .ref (a 5), .ref (a 6), .ref (a 7), .ref (a 8), .long ti, .ref (a 9), .int np, .int h, .int ca, .int tv, .int nx])), ((a 1), .inl ((k 0), 16384, .inl b)), ((a 2), .inl ((k 1), 64, .inl x)), ((a 3), .inl ((k 2), 2, .inl pcs)), ((a 4), .inl ((k 3), 2, .inl lv)), ((a 5), .inl ((k 4), 8192, .inl cs)), ((a 6), .inl ((k 5), 2, .inl cl)), ((a 7), .inl ((k 6), 2, .inr (.inl cm))), ((a 8), .inl ((k 7), 2, .inl so)), ((a 9), .inl ((k 8), 256, .inl pu))]) (W2 := fun _ => wR a k n h ca tv nx pcs lv cs x b cl cm so ti pu np) (xS (rest := [.ref (a 0)]) ⟨hx, hb, hml, hown, hts⟩ (c_Model_field x0 15 5) mw_Model_field ms_Model_field k_787 ⟨rfl, rfl, Nat.le_of_ble_eq_true rfl, Nat.le_of_ble_eq_true rfl⟩ hK hP hD hS hA hF [] [] rfl rfl rfl rfl hl.1 rfl (Nat.le_of_ble_eq_true rfl) d_Model_branch_5 ⟨Nat.zero_le _, Nat.zero_le _⟩) hP hD hS hA [] [0, 1, 2, 3, 4, 5, 6, 7, 8, 9] [0, 1, 2, 3, 4, 5, 6, 7, 8, 9] rfl rfl rfl (by decide) (fun _ => rfl) rfl (fun r_1 _ H locs h_1 hP hD hS => ?_)
  subst h_1
  refine xi (wr := []) (W2 := fun _ => wR a k n h ca tv nx pcs lv cs x b cl cm so ti pu np) (xV (rest := []) ⟨hx, hb, hml, hown, hts⟩ (c_Model_reg a k n (sp_Model_field x0 15 5) h ca tv nx pcs lv cs x b cl cm so ti pu np hn hh (vp_f5 _ _)) mw_Model_reg mv_Model_reg k_802 ⟨rfl, rfl, Nat.le_of_ble_eq_true rfl, Nat.le_of_ble_eq_true rfl⟩ hK hP hD hS hA hF [0, 1, 2, 3, 4, 5, 6, 7, 8, 9] [0, 1, 2, 3, 4, 5, 6, 7, 8] rfl rfl rfl 0 5 rfl rfl rfl rfl hl.1 rfl (Nat.le_of_ble_eq_true rfl) d_Model_branch_8 ⟨Nat.zero_le _, Nat.zero_le _⟩) hP hD hS hA [0, 1, 2, 3, 4, 5, 6, 7, 8, 9] [] [0, 1, 2, 3, 4, 5, 6, 7, 8, 9] rfl rfl rfl (by decide) (fun _ => rfl) rfl (fun r_2 _ H locs h_2 hP hD hS => ?_)
  subst h_2
  refine lv_istore_n (lv' := [(2, .int (sp_Model_reg (sp_Model_field x0 15 5) h x)), (0, .ref (a 0)), (1, .int x0)]) hx hb d_Model_branch_11 rfl hl (by decide) rfl (fun ls hl => ?_)
  refine lv_aload_n hx hb d_Model_branch_12 rfl (lv_at hl 1 rfl) ?_
  refine lv_iload_n hx hb d_Model_branch_13 rfl (lv_at hl 2 rfl) ?_
  refine lv_bipush (v := 20) hx hb d_Model_branch_14 rfl ?_
  refine lv_iconst (v := 5) hx hb d_Model_branch_16 rfl ?_
  refine xi (wr := [((a 0), .inr (5, [.int (nI n), .ref (a 1), .ref (a 2), .ref (a 3), .ref (a 4), .ref (a 5), .ref (a 6), .ref (a 7), .ref (a 8), .long ti, .ref (a 9), .int np, .int h, .int ca, .int tv, .int nx])), ((a 1), .inl ((k 0), 16384, .inl b)), ((a 2), .inl ((k 1), 64, .inl x)), ((a 3), .inl ((k 2), 2, .inl pcs)), ((a 4), .inl ((k 3), 2, .inl lv)), ((a 5), .inl ((k 4), 8192, .inl cs)), ((a 6), .inl ((k 5), 2, .inl cl)), ((a 7), .inl ((k 6), 2, .inr (.inl cm))), ((a 8), .inl ((k 7), 2, .inl so)), ((a 9), .inl ((k 8), 256, .inl pu))]) (W2 := fun _ => wR a k n h ca tv nx pcs lv cs x b cl cm so ti pu np) (xS (rest := [.ref (a 0)]) ⟨hx, hb, hml, hown, hts⟩ (c_Model_field x0 20 5) mw_Model_field ms_Model_field k_787 ⟨rfl, rfl, Nat.le_of_ble_eq_true rfl, Nat.le_of_ble_eq_true rfl⟩ hK hP hD hS hA hF [] [] rfl rfl rfl rfl hl.1 rfl (Nat.le_of_ble_eq_true rfl) d_Model_branch_17 ⟨Nat.zero_le _, Nat.zero_le _⟩) hP hD hS hA [] [0, 1, 2, 3, 4, 5, 6, 7, 8, 9] [0, 1, 2, 3, 4, 5, 6, 7, 8, 9] rfl rfl rfl (by decide) (fun _ => rfl) rfl (fun r_3 _ H locs h_3 hP hD hS => ?_)
  subst h_3
  refine xi (wr := []) (W2 := fun _ => wR a k n h ca tv nx pcs lv cs x b cl cm so ti pu np) (xV (rest := []) ⟨hx, hb, hml, hown, hts⟩ (c_Model_reg a k n (sp_Model_field x0 20 5) h ca tv nx pcs lv cs x b cl cm so ti pu np hn hh (vp_f5 _ _)) mw_Model_reg mv_Model_reg k_802 ⟨rfl, rfl, Nat.le_of_ble_eq_true rfl, Nat.le_of_ble_eq_true rfl⟩ hK hP hD hS hA hF [0, 1, 2, 3, 4, 5, 6, 7, 8, 9] [0, 1, 2, 3, 4, 5, 6, 7, 8] rfl rfl rfl 0 5 rfl rfl rfl rfl hl.1 rfl (Nat.le_of_ble_eq_true rfl) d_Model_branch_20 ⟨Nat.zero_le _, Nat.zero_le _⟩) hP hD hS hA [0, 1, 2, 3, 4, 5, 6, 7, 8, 9] [] [0, 1, 2, 3, 4, 5, 6, 7, 8, 9] rfl rfl rfl (by decide) (fun _ => rfl) rfl (fun r_4 _ H locs h_4 hP hD hS => ?_)
  subst h_4
  refine lv_istore_n (lv' := [(3, .int (sp_Model_reg (sp_Model_field x0 20 5) h x)), (2, .int (sp_Model_reg (sp_Model_field x0 15 5) h x)), (0, .ref (a 0)), (1, .int x0)]) hx hb d_Model_branch_23 rfl hl (by decide) rfl (fun ls hl => ?_)
  refine lv_iload_n hx hb d_Model_branch_24 rfl (lv_at hl 3 rfl) ?_
  refine lv_bipush (v := 12) hx hb d_Model_branch_25 rfl ?_
  refine lv_iconst (v := 3) hx hb d_Model_branch_27 rfl ?_
  refine xi (wr := [((a 0), .inr (5, [.int (nI n), .ref (a 1), .ref (a 2), .ref (a 3), .ref (a 4), .ref (a 5), .ref (a 6), .ref (a 7), .ref (a 8), .long ti, .ref (a 9), .int np, .int h, .int ca, .int tv, .int nx])), ((a 1), .inl ((k 0), 16384, .inl b)), ((a 2), .inl ((k 1), 64, .inl x)), ((a 3), .inl ((k 2), 2, .inl pcs)), ((a 4), .inl ((k 3), 2, .inl lv)), ((a 5), .inl ((k 4), 8192, .inl cs)), ((a 6), .inl ((k 5), 2, .inl cl)), ((a 7), .inl ((k 6), 2, .inr (.inl cm))), ((a 8), .inl ((k 7), 2, .inl so)), ((a 9), .inl ((k 8), 256, .inl pu))]) (W2 := fun _ => wR a k n h ca tv nx pcs lv cs x b cl cm so ti pu np) (xS (rest := []) ⟨hx, hb, hml, hown, hts⟩ (c_Model_field x0 12 3) mw_Model_field ms_Model_field k_787 ⟨rfl, rfl, Nat.le_of_ble_eq_true rfl, Nat.le_of_ble_eq_true rfl⟩ hK hP hD hS hA hF [] [] rfl rfl rfl rfl hl.1 rfl (Nat.le_of_ble_eq_true rfl) d_Model_branch_28 ⟨Nat.zero_le _, Nat.zero_le _⟩) hP hD hS hA [] [0, 1, 2, 3, 4, 5, 6, 7, 8, 9] [0, 1, 2, 3, 4, 5, 6, 7, 8, 9] rfl rfl rfl (by decide) (fun _ => rfl) rfl (fun r_5 _ H locs h_5 hP hD hS => ?_)
  subst h_5
  refine lv_istore (lv' := [(4, .int (sp_Model_field x0 12 3)), (3, .int (sp_Model_reg (sp_Model_field x0 20 5) h x)), (2, .int (sp_Model_reg (sp_Model_field x0 15 5) h x)), (0, .ref (a 0)), (1, .int x0)]) hx hb d_Model_branch_31 hl (by decide) rfl (fun ls hl => ?_)
  refine lv_iload hx hb d_Model_branch_33 (lv_at hl 0 rfl) ?_
  refine lv_iconst (v := 2) hx hb d_Model_branch_35 rfl ?_
  refine lv_icmp_eq (tgt := 45) hx hb d_Model_branch_36 (by decide) (fun c_6 => ?_) (fun c_6 => ?_)
  · refine lv_aload_n hx hb d_Model_branch_45 rfl (lv_at hl 3 rfl) ?_
    refine lv_iconst (v := 2) hx hb d_Model_branch_46 rfl ?_
    refine lv_iload_n hx hb d_Model_branch_47 rfl (lv_at hl 4 rfl) ?_
    refine xv (wr := []) (W2 := fun u9 => wR a k n h u9.1 u9.2 nx pcs lv cs x b cl cm so ti pu np) (xV (rest := []) ⟨hx, hb, hml, hown, hts⟩ (c_Model_trap a k n 2 x0 h ca tv nx pcs lv cs x b cl cm so ti pu np hn) mw_Model_trap mv_Model_trap k_763 ⟨rfl, rfl, Nat.le_of_ble_eq_true rfl, Nat.le_of_ble_eq_true rfl⟩ hK hP hD hS hA hF [0, 1, 2, 3, 4, 5, 6, 7, 8, 9] [0, 1, 2, 3, 4, 5, 6, 7, 8] rfl rfl rfl 0 5 rfl rfl rfl rfl hl.1 rfl (Nat.le_of_ble_eq_true rfl) d_Model_branch_48 ⟨Nat.zero_le _, Nat.zero_le _⟩) hP hD hS hA [0, 1, 2, 3, 4, 5, 6, 7, 8, 9] [] [0, 1, 2, 3, 4, 5, 6, 7, 8, 9] rfl rfl rfl (by decide) (fun _ => rfl) rfl (fun u_7 H locs h_7 hP hD hS => ?_)
    obtain ⟨ca_7, tv_7⟩ := u_7
    dsimp only at hP hD
    exact rv (ca_7, tv_7, nx) hx hb hr hlocks hP hD hS d_Model_branch_51 (by simp only [sp_Model_branch, h_7, if_pos c_6])
  · refine lv_iload hx hb d_Model_branch_39 (lv_at hl 0 rfl) ?_
    refine lv_iconst (v := 3) hx hb d_Model_branch_41 rfl ?_
    refine lv_icmp_ne (tgt := 52) hx hb d_Model_branch_42 (by decide) (fun c_8 => ?_) (fun c_8 => ?_)
    · refine lv_iload hx hb d_Model_branch_52 (lv_at hl 0 rfl) ?_
      refine lv_iconst (v := 2) hx hb d_Model_branch_54 rfl ?_
      refine lv_icmp_ge (tgt := 71) hx hb d_Model_branch_55 (by decide) (fun c_9 => ?_) (fun c_9 => ?_)
      · refine lv_iload hx hb d_Model_branch_71 (lv_at hl 0 rfl) ?_
        refine lv_bipush (v := 6) hx hb d_Model_branch_73 rfl ?_
        refine lv_icmp_ge (tgt := 91) hx hb d_Model_branch_75 (by decide) (fun c_10 => ?_) (fun c_10 => ?_)
        · refine lv_iload_n hx hb d_Model_branch_91 rfl (lv_at hl 2 rfl) ?_
          refine lv_iload_n hx hb d_Model_branch_92 rfl (lv_at hl 1 rfl) ?_
          refine xi (wr := [((a 0), .inr (5, [.int (nI n), .ref (a 1), .ref (a 2), .ref (a 3), .ref (a 4), .ref (a 5), .ref (a 6), .ref (a 7), .ref (a 8), .long ti, .ref (a 9), .int np, .int h, .int ca, .int tv, .int nx])), ((a 1), .inl ((k 0), 16384, .inl b)), ((a 2), .inl ((k 1), 64, .inl x)), ((a 3), .inl ((k 2), 2, .inl pcs)), ((a 4), .inl ((k 3), 2, .inl lv)), ((a 5), .inl ((k 4), 8192, .inl cs)), ((a 6), .inl ((k 5), 2, .inl cl)), ((a 7), .inl ((k 6), 2, .inr (.inl cm))), ((a 8), .inl ((k 7), 2, .inl so)), ((a 9), .inl ((k 8), 256, .inl pu))]) (W2 := fun _ => wR a k n h ca tv nx pcs lv cs x b cl cm so ti pu np) (xS (rest := []) ⟨hx, hb, hml, hown, hts⟩ (c_Model_below (sp_Model_reg (sp_Model_field x0 15 5) h x) (sp_Model_reg (sp_Model_field x0 20 5) h x)) mw_Model_below ms_Model_below k_810 ⟨rfl, rfl, Nat.le_of_ble_eq_true rfl, Nat.le_of_ble_eq_true rfl⟩ hK hP hD hS hA hF [] [] rfl rfl rfl rfl hl.1 rfl (Nat.le_of_ble_eq_true rfl) d_Model_branch_93 ⟨Nat.zero_le _, Nat.zero_le _⟩) hP hD hS hA [] [0, 1, 2, 3, 4, 5, 6, 7, 8, 9] [0, 1, 2, 3, 4, 5, 6, 7, 8, 9] rfl rfl rfl (by decide) (fun _ => rfl) rfl (fun r_11 _ H locs h_11 hP hD hS => ?_)
          obtain ⟨h_11, z_11⟩ := h_11
          subst h_11
          refine lv_istore (lv' := [(5, .int (sp_Model_below (sp_Model_reg (sp_Model_field x0 15 5) h x) (sp_Model_reg (sp_Model_field x0 20 5) h x))), (4, .int (sp_Model_field x0 12 3)), (3, .int (sp_Model_reg (sp_Model_field x0 20 5) h x)), (2, .int (sp_Model_reg (sp_Model_field x0 15 5) h x)), (0, .ref (a 0)), (1, .int x0)]) hx hb d_Model_branch_96 hl (by decide) rfl (fun ls hl => ?_)
          refine lv_iload hx hb d_Model_branch_98 (lv_at hl 0 rfl) ?_
          refine lv_iload hx hb d_Model_branch_100 (lv_at hl 1 rfl) ?_
          refine lv_iconst (v := 1) hx hb d_Model_branch_102 rfl ?_
          refine lv_iand hx hb d_Model_branch_103 ?_
          refine lv_iconst (v := 1) hx hb d_Model_branch_104 rfl ?_
          refine lv_icmp_ne (tgt := 112) hx hb d_Model_branch_105 (by decide) (fun c_12 => ?_) (fun c_12 => ?_)
          · refine lv_iconst (v := 0) hx hb d_Model_branch_112 rfl ?_
            refine lv_icmp_ne (tgt := 117) hx hb d_Model_branch_113 (by decide) (fun c_13 => ?_) (fun c_13 => ?_)
            · refine lv_aload_n hx hb d_Model_branch_117 rfl (lv_at hl 4 rfl) ?_
              refine lv_aload_n hx hb d_Model_branch_118 rfl (lv_at hl 4 rfl) ?_
              refine va_get (D := D) (ci := 5) (v := .ref (a 3)) (C := R_Model) (T := F_Model) (N := 16) hx hb hts i_Model hown hK hP 0 rfl rfl 3 (by decide) (hts _ k_628) (fun _ h9 => h9) rfl d_Model_branch_119 ?_
              refine lv_aload_n hx hb d_Model_branch_122 rfl (lv_at hl 4 rfl) ?_
              refine va_get (D := D) (ci := 5) (v := .int h) (C := R_Model) (T := F_Model) (N := 16) hx hb hts i_Model hown hK hP 0 rfl rfl 12 (by decide) (hts _ k_637) (fun _ h9 => h9) rfl d_Model_branch_123 ?_
              refine y_iald (v := pcs h.toNatClampNeg) hx hb hK hP 3 2 rfl rfl (vp_01 hh (by decide)) rfl d_Model_branch_126 ?_
              refine lv_iload_n hx hb d_Model_branch_127 rfl (lv_at hl 5 rfl) ?_
              refine lv_bipush (v := 31) hx hb d_Model_branch_128 rfl ?_
              refine y_ishr hx hb d_Model_branch_130 ?_
              refine lv_bipush (v := 12) hx hb d_Model_branch_131 rfl ?_
              refine y_ishl hx hb d_Model_branch_133 ?_
              refine lv_iload_n hx hb d_Model_branch_134 rfl (lv_at hl 5 rfl) ?_
              refine lv_bipush (v := 7) hx hb d_Model_branch_135 rfl ?_
              refine lv_iconst (v := 1) hx hb d_Model_branch_137 rfl ?_
              refine xi (wr := [((a 0), .inr (5, [.int (nI n), .ref (a 1), .ref (a 2), .ref (a 3), .ref (a 4), .ref (a 5), .ref (a 6), .ref (a 7), .ref (a 8), .long ti, .ref (a 9), .int np, .int h, .int ca, .int tv, .int nx])), ((a 1), .inl ((k 0), 16384, .inl b)), ((a 2), .inl ((k 1), 64, .inl x)), ((a 3), .inl ((k 2), 2, .inl pcs)), ((a 4), .inl ((k 3), 2, .inl lv)), ((a 5), .inl ((k 4), 8192, .inl cs)), ((a 6), .inl ((k 5), 2, .inl cl)), ((a 7), .inl ((k 6), 2, .inr (.inl cm))), ((a 8), .inl ((k 7), 2, .inl so)), ((a 9), .inl ((k 8), 256, .inl pu))]) (W2 := fun _ => wR a k n h ca tv nx pcs lv cs x b cl cm so ti pu np) (xS (rest := [.int (shl (shr x0 31) 12), .int (pcs h.toNatClampNeg), .ref (a 0)]) ⟨hx, hb, hml, hown, hts⟩ (c_Model_field x0 7 1) mw_Model_field ms_Model_field k_787 ⟨rfl, rfl, Nat.le_of_ble_eq_true rfl, Nat.le_of_ble_eq_true rfl⟩ hK hP hD hS hA hF [] [] rfl rfl rfl rfl hl.1 rfl (Nat.le_of_ble_eq_true rfl) d_Model_branch_138 ⟨Nat.zero_le _, Nat.zero_le _⟩) hP hD hS hA [] [0, 1, 2, 3, 4, 5, 6, 7, 8, 9] [0, 1, 2, 3, 4, 5, 6, 7, 8, 9] rfl rfl rfl (by decide) (fun _ => rfl) rfl (fun r_14 _ H locs h_14 hP hD hS => ?_)
              subst h_14
              refine lv_bipush (v := 11) hx hb d_Model_branch_141 rfl ?_
              refine y_ishl hx hb d_Model_branch_143 ?_
              refine lv_ior hx hb d_Model_branch_144 ?_
              refine lv_iload_n hx hb d_Model_branch_145 rfl (lv_at hl 5 rfl) ?_
              refine lv_bipush (v := 25) hx hb d_Model_branch_146 rfl ?_
              refine lv_bipush (v := 6) hx hb d_Model_branch_148 rfl ?_
              refine xi (wr := [((a 0), .inr (5, [.int (nI n), .ref (a 1), .ref (a 2), .ref (a 3), .ref (a 4), .ref (a 5), .ref (a 6), .ref (a 7), .ref (a 8), .long ti, .ref (a 9), .int np, .int h, .int ca, .int tv, .int nx])), ((a 1), .inl ((k 0), 16384, .inl b)), ((a 2), .inl ((k 1), 64, .inl x)), ((a 3), .inl ((k 2), 2, .inl pcs)), ((a 4), .inl ((k 3), 2, .inl lv)), ((a 5), .inl ((k 4), 8192, .inl cs)), ((a 6), .inl ((k 5), 2, .inl cl)), ((a 7), .inl ((k 6), 2, .inr (.inl cm))), ((a 8), .inl ((k 7), 2, .inl so)), ((a 9), .inl ((k 8), 256, .inl pu))]) (W2 := fun _ => wR a k n h ca tv nx pcs lv cs x b cl cm so ti pu np) (xS (rest := [.int ((shl (shr x0 31) 12) ||| (shl (sp_Model_field x0 7 1) 11)), .int (pcs h.toNatClampNeg), .ref (a 0)]) ⟨hx, hb, hml, hown, hts⟩ (c_Model_field x0 25 6) mw_Model_field ms_Model_field k_787 ⟨rfl, rfl, Nat.le_of_ble_eq_true rfl, Nat.le_of_ble_eq_true rfl⟩ hK hP hD hS hA hF [] [] rfl rfl rfl rfl hl.1 rfl (Nat.le_of_ble_eq_true rfl) d_Model_branch_150 ⟨Nat.zero_le _, Nat.zero_le _⟩) hP hD hS hA [] [0, 1, 2, 3, 4, 5, 6, 7, 8, 9] [0, 1, 2, 3, 4, 5, 6, 7, 8, 9] rfl rfl rfl (by decide) (fun _ => rfl) rfl (fun r_15 _ H locs h_15 hP hD hS => ?_)
              subst h_15
              refine lv_iconst (v := 5) hx hb d_Model_branch_153 rfl ?_
              refine y_ishl hx hb d_Model_branch_154 ?_
              refine lv_ior hx hb d_Model_branch_155 ?_
              refine lv_iload_n hx hb d_Model_branch_156 rfl (lv_at hl 5 rfl) ?_
              refine lv_bipush (v := 8) hx hb d_Model_branch_157 rfl ?_
              refine lv_iconst (v := 4) hx hb d_Model_branch_159 rfl ?_
              refine xi (wr := [((a 0), .inr (5, [.int (nI n), .ref (a 1), .ref (a 2), .ref (a 3), .ref (a 4), .ref (a 5), .ref (a 6), .ref (a 7), .ref (a 8), .long ti, .ref (a 9), .int np, .int h, .int ca, .int tv, .int nx])), ((a 1), .inl ((k 0), 16384, .inl b)), ((a 2), .inl ((k 1), 64, .inl x)), ((a 3), .inl ((k 2), 2, .inl pcs)), ((a 4), .inl ((k 3), 2, .inl lv)), ((a 5), .inl ((k 4), 8192, .inl cs)), ((a 6), .inl ((k 5), 2, .inl cl)), ((a 7), .inl ((k 6), 2, .inr (.inl cm))), ((a 8), .inl ((k 7), 2, .inl so)), ((a 9), .inl ((k 8), 256, .inl pu))]) (W2 := fun _ => wR a k n h ca tv nx pcs lv cs x b cl cm so ti pu np) (xS (rest := [.int (((shl (shr x0 31) 12) ||| (shl (sp_Model_field x0 7 1) 11)) ||| (shl (sp_Model_field x0 25 6) 5)), .int (pcs h.toNatClampNeg), .ref (a 0)]) ⟨hx, hb, hml, hown, hts⟩ (c_Model_field x0 8 4) mw_Model_field ms_Model_field k_787 ⟨rfl, rfl, Nat.le_of_ble_eq_true rfl, Nat.le_of_ble_eq_true rfl⟩ hK hP hD hS hA hF [] [] rfl rfl rfl rfl hl.1 rfl (Nat.le_of_ble_eq_true rfl) d_Model_branch_160 ⟨Nat.zero_le _, Nat.zero_le _⟩) hP hD hS hA [] [0, 1, 2, 3, 4, 5, 6, 7, 8, 9] [0, 1, 2, 3, 4, 5, 6, 7, 8, 9] rfl rfl rfl (by decide) (fun _ => rfl) rfl (fun r_16 _ H locs h_16 hP hD hS => ?_)
              subst h_16
              refine lv_iconst (v := 1) hx hb d_Model_branch_163 rfl ?_
              refine y_ishl hx hb d_Model_branch_164 ?_
              refine lv_ior hx hb d_Model_branch_165 ?_
              refine lv_iadd hx hb d_Model_branch_166 ?_
              refine xv (wr := []) (W2 := fun u9 => wR a k n h u9.1 u9.2.1 u9.2.2 pcs lv cs x b cl cm so ti pu np) (xV (rest := []) ⟨hx, hb, hml, hown, hts⟩ (c_Model_go a k n ((pcs h.toNatClampNeg) + ((((shl (shr x0 31) 12) ||| (shl (sp_Model_field x0 7 1) 11)) ||| (shl (sp_Model_field x0 25 6) 5)) ||| (shl (sp_Model_field x0 8 4) 1))) h ca tv nx pcs lv cs x b cl cm so ti pu np hn) mw_Model_go mv_Model_go k_798 ⟨rfl, rfl, Nat.le_of_ble_eq_true rfl, Nat.le_of_ble_eq_true rfl⟩ hK hP hD hS hA hF [0, 1, 2, 3, 4, 5, 6, 7, 8, 9] [0, 1, 2, 3, 4, 5, 6, 7, 8] rfl rfl rfl 0 5 rfl rfl rfl rfl hl.1 rfl (Nat.le_of_ble_eq_true rfl) d_Model_branch_167 ⟨Nat.zero_le _, Nat.zero_le _⟩) hP hD hS hA [0, 1, 2, 3, 4, 5, 6, 7, 8, 9] [] [0, 1, 2, 3, 4, 5, 6, 7, 8, 9] rfl rfl rfl (by decide) (fun _ => rfl) rfl (fun u_17 H locs h_17 hP hD hS => ?_)
              obtain ⟨ca_17, tv_17, nx_17⟩ := u_17
              dsimp only at hP hD
              exact rv (ca_17, tv_17, nx_17) hx hb hr hlocks hP hD hS d_Model_branch_170 (by simp only [sp_Model_branch, h_17, if_neg c_6, if_neg c_8, if_pos c_9, if_pos c_10, if_neg c_12, if_neg c_13])
            · exact rv (ca, tv, nx) hx hb hr hlocks hP hD hS d_Model_branch_116 (by simp only [sp_Model_branch, if_neg c_6, if_neg c_8, if_pos c_9, if_pos c_10, if_neg c_12, if_pos c_13])
          · refine lv_iconst (v := 1) hx hb d_Model_branch_108 rfl ?_
            refine lv_goto (tgt := 113) hx hb d_Model_branch_109 (by decide) ?_
            refine lv_icmp_ne (tgt := 117) hx hb d_Model_branch_113 (by decide) (fun c_18 => ?_) (fun c_18 => ?_)
            · refine lv_aload_n hx hb d_Model_branch_117 rfl (lv_at hl 4 rfl) ?_
              refine lv_aload_n hx hb d_Model_branch_118 rfl (lv_at hl 4 rfl) ?_
              refine va_get (D := D) (ci := 5) (v := .ref (a 3)) (C := R_Model) (T := F_Model) (N := 16) hx hb hts i_Model hown hK hP 0 rfl rfl 3 (by decide) (hts _ k_628) (fun _ h9 => h9) rfl d_Model_branch_119 ?_
              refine lv_aload_n hx hb d_Model_branch_122 rfl (lv_at hl 4 rfl) ?_
              refine va_get (D := D) (ci := 5) (v := .int h) (C := R_Model) (T := F_Model) (N := 16) hx hb hts i_Model hown hK hP 0 rfl rfl 12 (by decide) (hts _ k_637) (fun _ h9 => h9) rfl d_Model_branch_123 ?_
              refine y_iald (v := pcs h.toNatClampNeg) hx hb hK hP 3 2 rfl rfl (vp_01 hh (by decide)) rfl d_Model_branch_126 ?_
              refine lv_iload_n hx hb d_Model_branch_127 rfl (lv_at hl 5 rfl) ?_
              refine lv_bipush (v := 31) hx hb d_Model_branch_128 rfl ?_
              refine y_ishr hx hb d_Model_branch_130 ?_
              refine lv_bipush (v := 12) hx hb d_Model_branch_131 rfl ?_
              refine y_ishl hx hb d_Model_branch_133 ?_
              refine lv_iload_n hx hb d_Model_branch_134 rfl (lv_at hl 5 rfl) ?_
              refine lv_bipush (v := 7) hx hb d_Model_branch_135 rfl ?_
              refine lv_iconst (v := 1) hx hb d_Model_branch_137 rfl ?_
              refine xi (wr := [((a 0), .inr (5, [.int (nI n), .ref (a 1), .ref (a 2), .ref (a 3), .ref (a 4), .ref (a 5), .ref (a 6), .ref (a 7), .ref (a 8), .long ti, .ref (a 9), .int np, .int h, .int ca, .int tv, .int nx])), ((a 1), .inl ((k 0), 16384, .inl b)), ((a 2), .inl ((k 1), 64, .inl x)), ((a 3), .inl ((k 2), 2, .inl pcs)), ((a 4), .inl ((k 3), 2, .inl lv)), ((a 5), .inl ((k 4), 8192, .inl cs)), ((a 6), .inl ((k 5), 2, .inl cl)), ((a 7), .inl ((k 6), 2, .inr (.inl cm))), ((a 8), .inl ((k 7), 2, .inl so)), ((a 9), .inl ((k 8), 256, .inl pu))]) (W2 := fun _ => wR a k n h ca tv nx pcs lv cs x b cl cm so ti pu np) (xS (rest := [.int (shl (shr x0 31) 12), .int (pcs h.toNatClampNeg), .ref (a 0)]) ⟨hx, hb, hml, hown, hts⟩ (c_Model_field x0 7 1) mw_Model_field ms_Model_field k_787 ⟨rfl, rfl, Nat.le_of_ble_eq_true rfl, Nat.le_of_ble_eq_true rfl⟩ hK hP hD hS hA hF [] [] rfl rfl rfl rfl hl.1 rfl (Nat.le_of_ble_eq_true rfl) d_Model_branch_138 ⟨Nat.zero_le _, Nat.zero_le _⟩) hP hD hS hA [] [0, 1, 2, 3, 4, 5, 6, 7, 8, 9] [0, 1, 2, 3, 4, 5, 6, 7, 8, 9] rfl rfl rfl (by decide) (fun _ => rfl) rfl (fun r_19 _ H locs h_19 hP hD hS => ?_)
              subst h_19
              refine lv_bipush (v := 11) hx hb d_Model_branch_141 rfl ?_
              refine y_ishl hx hb d_Model_branch_143 ?_
              refine lv_ior hx hb d_Model_branch_144 ?_
              refine lv_iload_n hx hb d_Model_branch_145 rfl (lv_at hl 5 rfl) ?_
              refine lv_bipush (v := 25) hx hb d_Model_branch_146 rfl ?_
              refine lv_bipush (v := 6) hx hb d_Model_branch_148 rfl ?_
              refine xi (wr := [((a 0), .inr (5, [.int (nI n), .ref (a 1), .ref (a 2), .ref (a 3), .ref (a 4), .ref (a 5), .ref (a 6), .ref (a 7), .ref (a 8), .long ti, .ref (a 9), .int np, .int h, .int ca, .int tv, .int nx])), ((a 1), .inl ((k 0), 16384, .inl b)), ((a 2), .inl ((k 1), 64, .inl x)), ((a 3), .inl ((k 2), 2, .inl pcs)), ((a 4), .inl ((k 3), 2, .inl lv)), ((a 5), .inl ((k 4), 8192, .inl cs)), ((a 6), .inl ((k 5), 2, .inl cl)), ((a 7), .inl ((k 6), 2, .inr (.inl cm))), ((a 8), .inl ((k 7), 2, .inl so)), ((a 9), .inl ((k 8), 256, .inl pu))]) (W2 := fun _ => wR a k n h ca tv nx pcs lv cs x b cl cm so ti pu np) (xS (rest := [.int ((shl (shr x0 31) 12) ||| (shl (sp_Model_field x0 7 1) 11)), .int (pcs h.toNatClampNeg), .ref (a 0)]) ⟨hx, hb, hml, hown, hts⟩ (c_Model_field x0 25 6) mw_Model_field ms_Model_field k_787 ⟨rfl, rfl, Nat.le_of_ble_eq_true rfl, Nat.le_of_ble_eq_true rfl⟩ hK hP hD hS hA hF [] [] rfl rfl rfl rfl hl.1 rfl (Nat.le_of_ble_eq_true rfl) d_Model_branch_150 ⟨Nat.zero_le _, Nat.zero_le _⟩) hP hD hS hA [] [0, 1, 2, 3, 4, 5, 6, 7, 8, 9] [0, 1, 2, 3, 4, 5, 6, 7, 8, 9] rfl rfl rfl (by decide) (fun _ => rfl) rfl (fun r_20 _ H locs h_20 hP hD hS => ?_)
              subst h_20
              refine lv_iconst (v := 5) hx hb d_Model_branch_153 rfl ?_
              refine y_ishl hx hb d_Model_branch_154 ?_
              refine lv_ior hx hb d_Model_branch_155 ?_
              refine lv_iload_n hx hb d_Model_branch_156 rfl (lv_at hl 5 rfl) ?_
              refine lv_bipush (v := 8) hx hb d_Model_branch_157 rfl ?_
              refine lv_iconst (v := 4) hx hb d_Model_branch_159 rfl ?_
              refine xi (wr := [((a 0), .inr (5, [.int (nI n), .ref (a 1), .ref (a 2), .ref (a 3), .ref (a 4), .ref (a 5), .ref (a 6), .ref (a 7), .ref (a 8), .long ti, .ref (a 9), .int np, .int h, .int ca, .int tv, .int nx])), ((a 1), .inl ((k 0), 16384, .inl b)), ((a 2), .inl ((k 1), 64, .inl x)), ((a 3), .inl ((k 2), 2, .inl pcs)), ((a 4), .inl ((k 3), 2, .inl lv)), ((a 5), .inl ((k 4), 8192, .inl cs)), ((a 6), .inl ((k 5), 2, .inl cl)), ((a 7), .inl ((k 6), 2, .inr (.inl cm))), ((a 8), .inl ((k 7), 2, .inl so)), ((a 9), .inl ((k 8), 256, .inl pu))]) (W2 := fun _ => wR a k n h ca tv nx pcs lv cs x b cl cm so ti pu np) (xS (rest := [.int (((shl (shr x0 31) 12) ||| (shl (sp_Model_field x0 7 1) 11)) ||| (shl (sp_Model_field x0 25 6) 5)), .int (pcs h.toNatClampNeg), .ref (a 0)]) ⟨hx, hb, hml, hown, hts⟩ (c_Model_field x0 8 4) mw_Model_field ms_Model_field k_787 ⟨rfl, rfl, Nat.le_of_ble_eq_true rfl, Nat.le_of_ble_eq_true rfl⟩ hK hP hD hS hA hF [] [] rfl rfl rfl rfl hl.1 rfl (Nat.le_of_ble_eq_true rfl) d_Model_branch_160 ⟨Nat.zero_le _, Nat.zero_le _⟩) hP hD hS hA [] [0, 1, 2, 3, 4, 5, 6, 7, 8, 9] [0, 1, 2, 3, 4, 5, 6, 7, 8, 9] rfl rfl rfl (by decide) (fun _ => rfl) rfl (fun r_21 _ H locs h_21 hP hD hS => ?_)
              subst h_21
              refine lv_iconst (v := 1) hx hb d_Model_branch_163 rfl ?_
              refine y_ishl hx hb d_Model_branch_164 ?_
              refine lv_ior hx hb d_Model_branch_165 ?_
              refine lv_iadd hx hb d_Model_branch_166 ?_
              refine xv (wr := []) (W2 := fun u9 => wR a k n h u9.1 u9.2.1 u9.2.2 pcs lv cs x b cl cm so ti pu np) (xV (rest := []) ⟨hx, hb, hml, hown, hts⟩ (c_Model_go a k n ((pcs h.toNatClampNeg) + ((((shl (shr x0 31) 12) ||| (shl (sp_Model_field x0 7 1) 11)) ||| (shl (sp_Model_field x0 25 6) 5)) ||| (shl (sp_Model_field x0 8 4) 1))) h ca tv nx pcs lv cs x b cl cm so ti pu np hn) mw_Model_go mv_Model_go k_798 ⟨rfl, rfl, Nat.le_of_ble_eq_true rfl, Nat.le_of_ble_eq_true rfl⟩ hK hP hD hS hA hF [0, 1, 2, 3, 4, 5, 6, 7, 8, 9] [0, 1, 2, 3, 4, 5, 6, 7, 8] rfl rfl rfl 0 5 rfl rfl rfl rfl hl.1 rfl (Nat.le_of_ble_eq_true rfl) d_Model_branch_167 ⟨Nat.zero_le _, Nat.zero_le _⟩) hP hD hS hA [0, 1, 2, 3, 4, 5, 6, 7, 8, 9] [] [0, 1, 2, 3, 4, 5, 6, 7, 8, 9] rfl rfl rfl (by decide) (fun _ => rfl) rfl (fun u_22 H locs h_22 hP hD hS => ?_)
              obtain ⟨ca_22, tv_22, nx_22⟩ := u_22
              dsimp only at hP hD
              exact rv (ca_22, tv_22, nx_22) hx hb hr hlocks hP hD hS d_Model_branch_170 (by simp only [sp_Model_branch, h_22, if_neg c_6, if_neg c_8, if_pos c_9, if_pos c_10, if_pos c_12, if_neg c_18])
            · exact rv (ca, tv, nx) hx hb hr hlocks hP hD hS d_Model_branch_116 (by simp only [sp_Model_branch, if_neg c_6, if_neg c_8, if_pos c_9, if_pos c_10, if_pos c_12, if_pos c_18])
        · refine lv_iload_n hx hb d_Model_branch_78 rfl (lv_at hl 2 rfl) ?_
          refine lv_iload_n hx hb d_Model_branch_79 rfl (lv_at hl 1 rfl) ?_
          refine lv_icmp_ge (tgt := 87) hx hb d_Model_branch_80 (by decide) (fun c_23 => ?_) (fun c_23 => ?_)
          · refine lv_iconst (v := 0) hx hb d_Model_branch_87 rfl ?_
            refine lv_goto (tgt := 96) hx hb d_Model_branch_88 (by decide) ?_
            refine lv_istore (lv' := [(5, .int 0), (4, .int (sp_Model_field x0 12 3)), (3, .int (sp_Model_reg (sp_Model_field x0 20 5) h x)), (2, .int (sp_Model_reg (sp_Model_field x0 15 5) h x)), (0, .ref (a 0)), (1, .int x0)]) hx hb d_Model_branch_96 hl (by decide) rfl (fun ls hl => ?_)
            refine lv_iload hx hb d_Model_branch_98 (lv_at hl 0 rfl) ?_
            refine lv_iload hx hb d_Model_branch_100 (lv_at hl 1 rfl) ?_
            refine lv_iconst (v := 1) hx hb d_Model_branch_102 rfl ?_
            refine lv_iand hx hb d_Model_branch_103 ?_
            refine lv_iconst (v := 1) hx hb d_Model_branch_104 rfl ?_
            refine lv_icmp_ne (tgt := 112) hx hb d_Model_branch_105 (by decide) (fun c_24 => ?_) (fun c_24 => ?_)
            · refine lv_iconst (v := 0) hx hb d_Model_branch_112 rfl ?_
              refine lv_icmp_ne (tgt := 117) hx hb d_Model_branch_113 (by decide) (fun h9 => absurd (by decide) h9) (fun _ => ?_)
              exact rv (ca, tv, nx) hx hb hr hlocks hP hD hS d_Model_branch_116 (by simp only [sp_Model_branch, if_neg c_6, if_neg c_8, if_pos c_9, if_neg c_10, if_pos c_23, if_neg c_24])
            · refine lv_iconst (v := 1) hx hb d_Model_branch_108 rfl ?_
              refine lv_goto (tgt := 113) hx hb d_Model_branch_109 (by decide) ?_
              refine lv_icmp_ne (tgt := 117) hx hb d_Model_branch_113 (by decide) (fun _ => ?_) (fun h9 => absurd h9 (by decide))
              refine lv_aload_n hx hb d_Model_branch_117 rfl (lv_at hl 4 rfl) ?_
              refine lv_aload_n hx hb d_Model_branch_118 rfl (lv_at hl 4 rfl) ?_
              refine va_get (D := D) (ci := 5) (v := .ref (a 3)) (C := R_Model) (T := F_Model) (N := 16) hx hb hts i_Model hown hK hP 0 rfl rfl 3 (by decide) (hts _ k_628) (fun _ h9 => h9) rfl d_Model_branch_119 ?_
              refine lv_aload_n hx hb d_Model_branch_122 rfl (lv_at hl 4 rfl) ?_
              refine va_get (D := D) (ci := 5) (v := .int h) (C := R_Model) (T := F_Model) (N := 16) hx hb hts i_Model hown hK hP 0 rfl rfl 12 (by decide) (hts _ k_637) (fun _ h9 => h9) rfl d_Model_branch_123 ?_
              refine y_iald (v := pcs h.toNatClampNeg) hx hb hK hP 3 2 rfl rfl (vp_01 hh (by decide)) rfl d_Model_branch_126 ?_
              refine lv_iload_n hx hb d_Model_branch_127 rfl (lv_at hl 5 rfl) ?_
              refine lv_bipush (v := 31) hx hb d_Model_branch_128 rfl ?_
              refine y_ishr hx hb d_Model_branch_130 ?_
              refine lv_bipush (v := 12) hx hb d_Model_branch_131 rfl ?_
              refine y_ishl hx hb d_Model_branch_133 ?_
              refine lv_iload_n hx hb d_Model_branch_134 rfl (lv_at hl 5 rfl) ?_
              refine lv_bipush (v := 7) hx hb d_Model_branch_135 rfl ?_
              refine lv_iconst (v := 1) hx hb d_Model_branch_137 rfl ?_
              refine xi (wr := [((a 0), .inr (5, [.int (nI n), .ref (a 1), .ref (a 2), .ref (a 3), .ref (a 4), .ref (a 5), .ref (a 6), .ref (a 7), .ref (a 8), .long ti, .ref (a 9), .int np, .int h, .int ca, .int tv, .int nx])), ((a 1), .inl ((k 0), 16384, .inl b)), ((a 2), .inl ((k 1), 64, .inl x)), ((a 3), .inl ((k 2), 2, .inl pcs)), ((a 4), .inl ((k 3), 2, .inl lv)), ((a 5), .inl ((k 4), 8192, .inl cs)), ((a 6), .inl ((k 5), 2, .inl cl)), ((a 7), .inl ((k 6), 2, .inr (.inl cm))), ((a 8), .inl ((k 7), 2, .inl so)), ((a 9), .inl ((k 8), 256, .inl pu))]) (W2 := fun _ => wR a k n h ca tv nx pcs lv cs x b cl cm so ti pu np) (xS (rest := [.int (shl (shr x0 31) 12), .int (pcs h.toNatClampNeg), .ref (a 0)]) ⟨hx, hb, hml, hown, hts⟩ (c_Model_field x0 7 1) mw_Model_field ms_Model_field k_787 ⟨rfl, rfl, Nat.le_of_ble_eq_true rfl, Nat.le_of_ble_eq_true rfl⟩ hK hP hD hS hA hF [] [] rfl rfl rfl rfl hl.1 rfl (Nat.le_of_ble_eq_true rfl) d_Model_branch_138 ⟨Nat.zero_le _, Nat.zero_le _⟩) hP hD hS hA [] [0, 1, 2, 3, 4, 5, 6, 7, 8, 9] [0, 1, 2, 3, 4, 5, 6, 7, 8, 9] rfl rfl rfl (by decide) (fun _ => rfl) rfl (fun r_27 _ H locs h_27 hP hD hS => ?_)
              subst h_27
              refine lv_bipush (v := 11) hx hb d_Model_branch_141 rfl ?_
              refine y_ishl hx hb d_Model_branch_143 ?_
              refine lv_ior hx hb d_Model_branch_144 ?_
              refine lv_iload_n hx hb d_Model_branch_145 rfl (lv_at hl 5 rfl) ?_
              refine lv_bipush (v := 25) hx hb d_Model_branch_146 rfl ?_
              refine lv_bipush (v := 6) hx hb d_Model_branch_148 rfl ?_
              refine xi (wr := [((a 0), .inr (5, [.int (nI n), .ref (a 1), .ref (a 2), .ref (a 3), .ref (a 4), .ref (a 5), .ref (a 6), .ref (a 7), .ref (a 8), .long ti, .ref (a 9), .int np, .int h, .int ca, .int tv, .int nx])), ((a 1), .inl ((k 0), 16384, .inl b)), ((a 2), .inl ((k 1), 64, .inl x)), ((a 3), .inl ((k 2), 2, .inl pcs)), ((a 4), .inl ((k 3), 2, .inl lv)), ((a 5), .inl ((k 4), 8192, .inl cs)), ((a 6), .inl ((k 5), 2, .inl cl)), ((a 7), .inl ((k 6), 2, .inr (.inl cm))), ((a 8), .inl ((k 7), 2, .inl so)), ((a 9), .inl ((k 8), 256, .inl pu))]) (W2 := fun _ => wR a k n h ca tv nx pcs lv cs x b cl cm so ti pu np) (xS (rest := [.int ((shl (shr x0 31) 12) ||| (shl (sp_Model_field x0 7 1) 11)), .int (pcs h.toNatClampNeg), .ref (a 0)]) ⟨hx, hb, hml, hown, hts⟩ (c_Model_field x0 25 6) mw_Model_field ms_Model_field k_787 ⟨rfl, rfl, Nat.le_of_ble_eq_true rfl, Nat.le_of_ble_eq_true rfl⟩ hK hP hD hS hA hF [] [] rfl rfl rfl rfl hl.1 rfl (Nat.le_of_ble_eq_true rfl) d_Model_branch_150 ⟨Nat.zero_le _, Nat.zero_le _⟩) hP hD hS hA [] [0, 1, 2, 3, 4, 5, 6, 7, 8, 9] [0, 1, 2, 3, 4, 5, 6, 7, 8, 9] rfl rfl rfl (by decide) (fun _ => rfl) rfl (fun r_28 _ H locs h_28 hP hD hS => ?_)
              subst h_28
              refine lv_iconst (v := 5) hx hb d_Model_branch_153 rfl ?_
              refine y_ishl hx hb d_Model_branch_154 ?_
              refine lv_ior hx hb d_Model_branch_155 ?_
              refine lv_iload_n hx hb d_Model_branch_156 rfl (lv_at hl 5 rfl) ?_
              refine lv_bipush (v := 8) hx hb d_Model_branch_157 rfl ?_
              refine lv_iconst (v := 4) hx hb d_Model_branch_159 rfl ?_
              refine xi (wr := [((a 0), .inr (5, [.int (nI n), .ref (a 1), .ref (a 2), .ref (a 3), .ref (a 4), .ref (a 5), .ref (a 6), .ref (a 7), .ref (a 8), .long ti, .ref (a 9), .int np, .int h, .int ca, .int tv, .int nx])), ((a 1), .inl ((k 0), 16384, .inl b)), ((a 2), .inl ((k 1), 64, .inl x)), ((a 3), .inl ((k 2), 2, .inl pcs)), ((a 4), .inl ((k 3), 2, .inl lv)), ((a 5), .inl ((k 4), 8192, .inl cs)), ((a 6), .inl ((k 5), 2, .inl cl)), ((a 7), .inl ((k 6), 2, .inr (.inl cm))), ((a 8), .inl ((k 7), 2, .inl so)), ((a 9), .inl ((k 8), 256, .inl pu))]) (W2 := fun _ => wR a k n h ca tv nx pcs lv cs x b cl cm so ti pu np) (xS (rest := [.int (((shl (shr x0 31) 12) ||| (shl (sp_Model_field x0 7 1) 11)) ||| (shl (sp_Model_field x0 25 6) 5)), .int (pcs h.toNatClampNeg), .ref (a 0)]) ⟨hx, hb, hml, hown, hts⟩ (c_Model_field x0 8 4) mw_Model_field ms_Model_field k_787 ⟨rfl, rfl, Nat.le_of_ble_eq_true rfl, Nat.le_of_ble_eq_true rfl⟩ hK hP hD hS hA hF [] [] rfl rfl rfl rfl hl.1 rfl (Nat.le_of_ble_eq_true rfl) d_Model_branch_160 ⟨Nat.zero_le _, Nat.zero_le _⟩) hP hD hS hA [] [0, 1, 2, 3, 4, 5, 6, 7, 8, 9] [0, 1, 2, 3, 4, 5, 6, 7, 8, 9] rfl rfl rfl (by decide) (fun _ => rfl) rfl (fun r_29 _ H locs h_29 hP hD hS => ?_)
              subst h_29
              refine lv_iconst (v := 1) hx hb d_Model_branch_163 rfl ?_
              refine y_ishl hx hb d_Model_branch_164 ?_
              refine lv_ior hx hb d_Model_branch_165 ?_
              refine lv_iadd hx hb d_Model_branch_166 ?_
              refine xv (wr := []) (W2 := fun u9 => wR a k n h u9.1 u9.2.1 u9.2.2 pcs lv cs x b cl cm so ti pu np) (xV (rest := []) ⟨hx, hb, hml, hown, hts⟩ (c_Model_go a k n ((pcs h.toNatClampNeg) + ((((shl (shr x0 31) 12) ||| (shl (sp_Model_field x0 7 1) 11)) ||| (shl (sp_Model_field x0 25 6) 5)) ||| (shl (sp_Model_field x0 8 4) 1))) h ca tv nx pcs lv cs x b cl cm so ti pu np hn) mw_Model_go mv_Model_go k_798 ⟨rfl, rfl, Nat.le_of_ble_eq_true rfl, Nat.le_of_ble_eq_true rfl⟩ hK hP hD hS hA hF [0, 1, 2, 3, 4, 5, 6, 7, 8, 9] [0, 1, 2, 3, 4, 5, 6, 7, 8] rfl rfl rfl 0 5 rfl rfl rfl rfl hl.1 rfl (Nat.le_of_ble_eq_true rfl) d_Model_branch_167 ⟨Nat.zero_le _, Nat.zero_le _⟩) hP hD hS hA [0, 1, 2, 3, 4, 5, 6, 7, 8, 9] [] [0, 1, 2, 3, 4, 5, 6, 7, 8, 9] rfl rfl rfl (by decide) (fun _ => rfl) rfl (fun u_30 H locs h_30 hP hD hS => ?_)
              obtain ⟨ca_30, tv_30, nx_30⟩ := u_30
              dsimp only at hP hD
              exact rv (ca_30, tv_30, nx_30) hx hb hr hlocks hP hD hS d_Model_branch_170 (by simp only [sp_Model_branch, h_30, if_neg c_6, if_neg c_8, if_pos c_9, if_neg c_10, if_pos c_23, if_pos c_24])
          · refine lv_iconst (v := 1) hx hb d_Model_branch_83 rfl ?_
            refine lv_goto (tgt := 96) hx hb d_Model_branch_84 (by decide) ?_
            refine lv_istore (lv' := [(5, .int 1), (4, .int (sp_Model_field x0 12 3)), (3, .int (sp_Model_reg (sp_Model_field x0 20 5) h x)), (2, .int (sp_Model_reg (sp_Model_field x0 15 5) h x)), (0, .ref (a 0)), (1, .int x0)]) hx hb d_Model_branch_96 hl (by decide) rfl (fun ls hl => ?_)
            refine lv_iload hx hb d_Model_branch_98 (lv_at hl 0 rfl) ?_
            refine lv_iload hx hb d_Model_branch_100 (lv_at hl 1 rfl) ?_
            refine lv_iconst (v := 1) hx hb d_Model_branch_102 rfl ?_
            refine lv_iand hx hb d_Model_branch_103 ?_
            refine lv_iconst (v := 1) hx hb d_Model_branch_104 rfl ?_
            refine lv_icmp_ne (tgt := 112) hx hb d_Model_branch_105 (by decide) (fun c_31 => ?_) (fun c_31 => ?_)
            · refine lv_iconst (v := 0) hx hb d_Model_branch_112 rfl ?_
              refine lv_icmp_ne (tgt := 117) hx hb d_Model_branch_113 (by decide) (fun _ => ?_) (fun h9 => absurd h9 (by decide))
              refine lv_aload_n hx hb d_Model_branch_117 rfl (lv_at hl 4 rfl) ?_
              refine lv_aload_n hx hb d_Model_branch_118 rfl (lv_at hl 4 rfl) ?_
              refine va_get (D := D) (ci := 5) (v := .ref (a 3)) (C := R_Model) (T := F_Model) (N := 16) hx hb hts i_Model hown hK hP 0 rfl rfl 3 (by decide) (hts _ k_628) (fun _ h9 => h9) rfl d_Model_branch_119 ?_
              refine lv_aload_n hx hb d_Model_branch_122 rfl (lv_at hl 4 rfl) ?_
              refine va_get (D := D) (ci := 5) (v := .int h) (C := R_Model) (T := F_Model) (N := 16) hx hb hts i_Model hown hK hP 0 rfl rfl 12 (by decide) (hts _ k_637) (fun _ h9 => h9) rfl d_Model_branch_123 ?_
              refine y_iald (v := pcs h.toNatClampNeg) hx hb hK hP 3 2 rfl rfl (vp_01 hh (by decide)) rfl d_Model_branch_126 ?_
              refine lv_iload_n hx hb d_Model_branch_127 rfl (lv_at hl 5 rfl) ?_
              refine lv_bipush (v := 31) hx hb d_Model_branch_128 rfl ?_
              refine y_ishr hx hb d_Model_branch_130 ?_
              refine lv_bipush (v := 12) hx hb d_Model_branch_131 rfl ?_
              refine y_ishl hx hb d_Model_branch_133 ?_
              refine lv_iload_n hx hb d_Model_branch_134 rfl (lv_at hl 5 rfl) ?_
              refine lv_bipush (v := 7) hx hb d_Model_branch_135 rfl ?_
              refine lv_iconst (v := 1) hx hb d_Model_branch_137 rfl ?_
              refine xi (wr := [((a 0), .inr (5, [.int (nI n), .ref (a 1), .ref (a 2), .ref (a 3), .ref (a 4), .ref (a 5), .ref (a 6), .ref (a 7), .ref (a 8), .long ti, .ref (a 9), .int np, .int h, .int ca, .int tv, .int nx])), ((a 1), .inl ((k 0), 16384, .inl b)), ((a 2), .inl ((k 1), 64, .inl x)), ((a 3), .inl ((k 2), 2, .inl pcs)), ((a 4), .inl ((k 3), 2, .inl lv)), ((a 5), .inl ((k 4), 8192, .inl cs)), ((a 6), .inl ((k 5), 2, .inl cl)), ((a 7), .inl ((k 6), 2, .inr (.inl cm))), ((a 8), .inl ((k 7), 2, .inl so)), ((a 9), .inl ((k 8), 256, .inl pu))]) (W2 := fun _ => wR a k n h ca tv nx pcs lv cs x b cl cm so ti pu np) (xS (rest := [.int (shl (shr x0 31) 12), .int (pcs h.toNatClampNeg), .ref (a 0)]) ⟨hx, hb, hml, hown, hts⟩ (c_Model_field x0 7 1) mw_Model_field ms_Model_field k_787 ⟨rfl, rfl, Nat.le_of_ble_eq_true rfl, Nat.le_of_ble_eq_true rfl⟩ hK hP hD hS hA hF [] [] rfl rfl rfl rfl hl.1 rfl (Nat.le_of_ble_eq_true rfl) d_Model_branch_138 ⟨Nat.zero_le _, Nat.zero_le _⟩) hP hD hS hA [] [0, 1, 2, 3, 4, 5, 6, 7, 8, 9] [0, 1, 2, 3, 4, 5, 6, 7, 8, 9] rfl rfl rfl (by decide) (fun _ => rfl) rfl (fun r_33 _ H locs h_33 hP hD hS => ?_)
              subst h_33
              refine lv_bipush (v := 11) hx hb d_Model_branch_141 rfl ?_
              refine y_ishl hx hb d_Model_branch_143 ?_
              refine lv_ior hx hb d_Model_branch_144 ?_
              refine lv_iload_n hx hb d_Model_branch_145 rfl (lv_at hl 5 rfl) ?_
              refine lv_bipush (v := 25) hx hb d_Model_branch_146 rfl ?_
              refine lv_bipush (v := 6) hx hb d_Model_branch_148 rfl ?_
              refine xi (wr := [((a 0), .inr (5, [.int (nI n), .ref (a 1), .ref (a 2), .ref (a 3), .ref (a 4), .ref (a 5), .ref (a 6), .ref (a 7), .ref (a 8), .long ti, .ref (a 9), .int np, .int h, .int ca, .int tv, .int nx])), ((a 1), .inl ((k 0), 16384, .inl b)), ((a 2), .inl ((k 1), 64, .inl x)), ((a 3), .inl ((k 2), 2, .inl pcs)), ((a 4), .inl ((k 3), 2, .inl lv)), ((a 5), .inl ((k 4), 8192, .inl cs)), ((a 6), .inl ((k 5), 2, .inl cl)), ((a 7), .inl ((k 6), 2, .inr (.inl cm))), ((a 8), .inl ((k 7), 2, .inl so)), ((a 9), .inl ((k 8), 256, .inl pu))]) (W2 := fun _ => wR a k n h ca tv nx pcs lv cs x b cl cm so ti pu np) (xS (rest := [.int ((shl (shr x0 31) 12) ||| (shl (sp_Model_field x0 7 1) 11)), .int (pcs h.toNatClampNeg), .ref (a 0)]) ⟨hx, hb, hml, hown, hts⟩ (c_Model_field x0 25 6) mw_Model_field ms_Model_field k_787 ⟨rfl, rfl, Nat.le_of_ble_eq_true rfl, Nat.le_of_ble_eq_true rfl⟩ hK hP hD hS hA hF [] [] rfl rfl rfl rfl hl.1 rfl (Nat.le_of_ble_eq_true rfl) d_Model_branch_150 ⟨Nat.zero_le _, Nat.zero_le _⟩) hP hD hS hA [] [0, 1, 2, 3, 4, 5, 6, 7, 8, 9] [0, 1, 2, 3, 4, 5, 6, 7, 8, 9] rfl rfl rfl (by decide) (fun _ => rfl) rfl (fun r_34 _ H locs h_34 hP hD hS => ?_)
              subst h_34
              refine lv_iconst (v := 5) hx hb d_Model_branch_153 rfl ?_
              refine y_ishl hx hb d_Model_branch_154 ?_
              refine lv_ior hx hb d_Model_branch_155 ?_
              refine lv_iload_n hx hb d_Model_branch_156 rfl (lv_at hl 5 rfl) ?_
              refine lv_bipush (v := 8) hx hb d_Model_branch_157 rfl ?_
              refine lv_iconst (v := 4) hx hb d_Model_branch_159 rfl ?_
              refine xi (wr := [((a 0), .inr (5, [.int (nI n), .ref (a 1), .ref (a 2), .ref (a 3), .ref (a 4), .ref (a 5), .ref (a 6), .ref (a 7), .ref (a 8), .long ti, .ref (a 9), .int np, .int h, .int ca, .int tv, .int nx])), ((a 1), .inl ((k 0), 16384, .inl b)), ((a 2), .inl ((k 1), 64, .inl x)), ((a 3), .inl ((k 2), 2, .inl pcs)), ((a 4), .inl ((k 3), 2, .inl lv)), ((a 5), .inl ((k 4), 8192, .inl cs)), ((a 6), .inl ((k 5), 2, .inl cl)), ((a 7), .inl ((k 6), 2, .inr (.inl cm))), ((a 8), .inl ((k 7), 2, .inl so)), ((a 9), .inl ((k 8), 256, .inl pu))]) (W2 := fun _ => wR a k n h ca tv nx pcs lv cs x b cl cm so ti pu np) (xS (rest := [.int (((shl (shr x0 31) 12) ||| (shl (sp_Model_field x0 7 1) 11)) ||| (shl (sp_Model_field x0 25 6) 5)), .int (pcs h.toNatClampNeg), .ref (a 0)]) ⟨hx, hb, hml, hown, hts⟩ (c_Model_field x0 8 4) mw_Model_field ms_Model_field k_787 ⟨rfl, rfl, Nat.le_of_ble_eq_true rfl, Nat.le_of_ble_eq_true rfl⟩ hK hP hD hS hA hF [] [] rfl rfl rfl rfl hl.1 rfl (Nat.le_of_ble_eq_true rfl) d_Model_branch_160 ⟨Nat.zero_le _, Nat.zero_le _⟩) hP hD hS hA [] [0, 1, 2, 3, 4, 5, 6, 7, 8, 9] [0, 1, 2, 3, 4, 5, 6, 7, 8, 9] rfl rfl rfl (by decide) (fun _ => rfl) rfl (fun r_35 _ H locs h_35 hP hD hS => ?_)
              subst h_35
              refine lv_iconst (v := 1) hx hb d_Model_branch_163 rfl ?_
              refine y_ishl hx hb d_Model_branch_164 ?_
              refine lv_ior hx hb d_Model_branch_165 ?_
              refine lv_iadd hx hb d_Model_branch_166 ?_
              refine xv (wr := []) (W2 := fun u9 => wR a k n h u9.1 u9.2.1 u9.2.2 pcs lv cs x b cl cm so ti pu np) (xV (rest := []) ⟨hx, hb, hml, hown, hts⟩ (c_Model_go a k n ((pcs h.toNatClampNeg) + ((((shl (shr x0 31) 12) ||| (shl (sp_Model_field x0 7 1) 11)) ||| (shl (sp_Model_field x0 25 6) 5)) ||| (shl (sp_Model_field x0 8 4) 1))) h ca tv nx pcs lv cs x b cl cm so ti pu np hn) mw_Model_go mv_Model_go k_798 ⟨rfl, rfl, Nat.le_of_ble_eq_true rfl, Nat.le_of_ble_eq_true rfl⟩ hK hP hD hS hA hF [0, 1, 2, 3, 4, 5, 6, 7, 8, 9] [0, 1, 2, 3, 4, 5, 6, 7, 8] rfl rfl rfl 0 5 rfl rfl rfl rfl hl.1 rfl (Nat.le_of_ble_eq_true rfl) d_Model_branch_167 ⟨Nat.zero_le _, Nat.zero_le _⟩) hP hD hS hA [0, 1, 2, 3, 4, 5, 6, 7, 8, 9] [] [0, 1, 2, 3, 4, 5, 6, 7, 8, 9] rfl rfl rfl (by decide) (fun _ => rfl) rfl (fun u_36 H locs h_36 hP hD hS => ?_)
              obtain ⟨ca_36, tv_36, nx_36⟩ := u_36
              dsimp only at hP hD
              exact rv (ca_36, tv_36, nx_36) hx hb hr hlocks hP hD hS d_Model_branch_170 (by simp only [sp_Model_branch, h_36, if_neg c_6, if_neg c_8, if_pos c_9, if_neg c_10, if_neg c_23, if_neg c_31])
            · refine lv_iconst (v := 1) hx hb d_Model_branch_108 rfl ?_
              refine lv_goto (tgt := 113) hx hb d_Model_branch_109 (by decide) ?_
              refine lv_icmp_ne (tgt := 117) hx hb d_Model_branch_113 (by decide) (fun h9 => absurd (by decide) h9) (fun _ => ?_)
              exact rv (ca, tv, nx) hx hb hr hlocks hP hD hS d_Model_branch_116 (by simp only [sp_Model_branch, if_neg c_6, if_neg c_8, if_pos c_9, if_neg c_10, if_neg c_23, if_pos c_31])
      · refine lv_iload_n hx hb d_Model_branch_58 rfl (lv_at hl 2 rfl) ?_
        refine lv_iload_n hx hb d_Model_branch_59 rfl (lv_at hl 1 rfl) ?_
        refine lv_icmp_ne (tgt := 67) hx hb d_Model_branch_60 (by decide) (fun c_38 => ?_) (fun c_38 => ?_)
        · refine lv_iconst (v := 0) hx hb d_Model_branch_67 rfl ?_
          refine lv_goto (tgt := 96) hx hb d_Model_branch_68 (by decide) ?_
          refine lv_istore (lv' := [(5, .int 0), (4, .int (sp_Model_field x0 12 3)), (3, .int (sp_Model_reg (sp_Model_field x0 20 5) h x)), (2, .int (sp_Model_reg (sp_Model_field x0 15 5) h x)), (0, .ref (a 0)), (1, .int x0)]) hx hb d_Model_branch_96 hl (by decide) rfl (fun ls hl => ?_)
          refine lv_iload hx hb d_Model_branch_98 (lv_at hl 0 rfl) ?_
          refine lv_iload hx hb d_Model_branch_100 (lv_at hl 1 rfl) ?_
          refine lv_iconst (v := 1) hx hb d_Model_branch_102 rfl ?_
          refine lv_iand hx hb d_Model_branch_103 ?_
          refine lv_iconst (v := 1) hx hb d_Model_branch_104 rfl ?_
          refine lv_icmp_ne (tgt := 112) hx hb d_Model_branch_105 (by decide) (fun c_39 => ?_) (fun c_39 => ?_)
          · refine lv_iconst (v := 0) hx hb d_Model_branch_112 rfl ?_
            refine lv_icmp_ne (tgt := 117) hx hb d_Model_branch_113 (by decide) (fun h9 => absurd (by decide) h9) (fun _ => ?_)
            exact rv (ca, tv, nx) hx hb hr hlocks hP hD hS d_Model_branch_116 (by simp only [sp_Model_branch, if_neg c_6, if_neg c_8, if_neg c_9, if_neg c_38, if_neg c_39])
          · refine lv_iconst (v := 1) hx hb d_Model_branch_108 rfl ?_
            refine lv_goto (tgt := 113) hx hb d_Model_branch_109 (by decide) ?_
            refine lv_icmp_ne (tgt := 117) hx hb d_Model_branch_113 (by decide) (fun _ => ?_) (fun h9 => absurd h9 (by decide))
            refine lv_aload_n hx hb d_Model_branch_117 rfl (lv_at hl 4 rfl) ?_
            refine lv_aload_n hx hb d_Model_branch_118 rfl (lv_at hl 4 rfl) ?_
            refine va_get (D := D) (ci := 5) (v := .ref (a 3)) (C := R_Model) (T := F_Model) (N := 16) hx hb hts i_Model hown hK hP 0 rfl rfl 3 (by decide) (hts _ k_628) (fun _ h9 => h9) rfl d_Model_branch_119 ?_
            refine lv_aload_n hx hb d_Model_branch_122 rfl (lv_at hl 4 rfl) ?_
            refine va_get (D := D) (ci := 5) (v := .int h) (C := R_Model) (T := F_Model) (N := 16) hx hb hts i_Model hown hK hP 0 rfl rfl 12 (by decide) (hts _ k_637) (fun _ h9 => h9) rfl d_Model_branch_123 ?_
            refine y_iald (v := pcs h.toNatClampNeg) hx hb hK hP 3 2 rfl rfl (vp_01 hh (by decide)) rfl d_Model_branch_126 ?_
            refine lv_iload_n hx hb d_Model_branch_127 rfl (lv_at hl 5 rfl) ?_
            refine lv_bipush (v := 31) hx hb d_Model_branch_128 rfl ?_
            refine y_ishr hx hb d_Model_branch_130 ?_
            refine lv_bipush (v := 12) hx hb d_Model_branch_131 rfl ?_
            refine y_ishl hx hb d_Model_branch_133 ?_
            refine lv_iload_n hx hb d_Model_branch_134 rfl (lv_at hl 5 rfl) ?_
            refine lv_bipush (v := 7) hx hb d_Model_branch_135 rfl ?_
            refine lv_iconst (v := 1) hx hb d_Model_branch_137 rfl ?_
            refine xi (wr := [((a 0), .inr (5, [.int (nI n), .ref (a 1), .ref (a 2), .ref (a 3), .ref (a 4), .ref (a 5), .ref (a 6), .ref (a 7), .ref (a 8), .long ti, .ref (a 9), .int np, .int h, .int ca, .int tv, .int nx])), ((a 1), .inl ((k 0), 16384, .inl b)), ((a 2), .inl ((k 1), 64, .inl x)), ((a 3), .inl ((k 2), 2, .inl pcs)), ((a 4), .inl ((k 3), 2, .inl lv)), ((a 5), .inl ((k 4), 8192, .inl cs)), ((a 6), .inl ((k 5), 2, .inl cl)), ((a 7), .inl ((k 6), 2, .inr (.inl cm))), ((a 8), .inl ((k 7), 2, .inl so)), ((a 9), .inl ((k 8), 256, .inl pu))]) (W2 := fun _ => wR a k n h ca tv nx pcs lv cs x b cl cm so ti pu np) (xS (rest := [.int (shl (shr x0 31) 12), .int (pcs h.toNatClampNeg), .ref (a 0)]) ⟨hx, hb, hml, hown, hts⟩ (c_Model_field x0 7 1) mw_Model_field ms_Model_field k_787 ⟨rfl, rfl, Nat.le_of_ble_eq_true rfl, Nat.le_of_ble_eq_true rfl⟩ hK hP hD hS hA hF [] [] rfl rfl rfl rfl hl.1 rfl (Nat.le_of_ble_eq_true rfl) d_Model_branch_138 ⟨Nat.zero_le _, Nat.zero_le _⟩) hP hD hS hA [] [0, 1, 2, 3, 4, 5, 6, 7, 8, 9] [0, 1, 2, 3, 4, 5, 6, 7, 8, 9] rfl rfl rfl (by decide) (fun _ => rfl) rfl (fun r_42 _ H locs h_42 hP hD hS => ?_)
            subst h_42
            refine lv_bipush (v := 11) hx hb d_Model_branch_141 rfl ?_
            refine y_ishl hx hb d_Model_branch_143 ?_
            refine lv_ior hx hb d_Model_branch_144 ?_
            refine lv_iload_n hx hb d_Model_branch_145 rfl (lv_at hl 5 rfl) ?_
            refine lv_bipush (v := 25) hx hb d_Model_branch_146 rfl ?_
            refine lv_bipush (v := 6) hx hb d_Model_branch_148 rfl ?_
            refine xi (wr := [((a 0), .inr (5, [.int (nI n), .ref (a 1), .ref (a 2), .ref (a 3), .ref (a 4), .ref (a 5), .ref (a 6), .ref (a 7), .ref (a 8), .long ti, .ref (a 9), .int np, .int h, .int ca, .int tv, .int nx])), ((a 1), .inl ((k 0), 16384, .inl b)), ((a 2), .inl ((k 1), 64, .inl x)), ((a 3), .inl ((k 2), 2, .inl pcs)), ((a 4), .inl ((k 3), 2, .inl lv)), ((a 5), .inl ((k 4), 8192, .inl cs)), ((a 6), .inl ((k 5), 2, .inl cl)), ((a 7), .inl ((k 6), 2, .inr (.inl cm))), ((a 8), .inl ((k 7), 2, .inl so)), ((a 9), .inl ((k 8), 256, .inl pu))]) (W2 := fun _ => wR a k n h ca tv nx pcs lv cs x b cl cm so ti pu np) (xS (rest := [.int ((shl (shr x0 31) 12) ||| (shl (sp_Model_field x0 7 1) 11)), .int (pcs h.toNatClampNeg), .ref (a 0)]) ⟨hx, hb, hml, hown, hts⟩ (c_Model_field x0 25 6) mw_Model_field ms_Model_field k_787 ⟨rfl, rfl, Nat.le_of_ble_eq_true rfl, Nat.le_of_ble_eq_true rfl⟩ hK hP hD hS hA hF [] [] rfl rfl rfl rfl hl.1 rfl (Nat.le_of_ble_eq_true rfl) d_Model_branch_150 ⟨Nat.zero_le _, Nat.zero_le _⟩) hP hD hS hA [] [0, 1, 2, 3, 4, 5, 6, 7, 8, 9] [0, 1, 2, 3, 4, 5, 6, 7, 8, 9] rfl rfl rfl (by decide) (fun _ => rfl) rfl (fun r_43 _ H locs h_43 hP hD hS => ?_)
            subst h_43
            refine lv_iconst (v := 5) hx hb d_Model_branch_153 rfl ?_
            refine y_ishl hx hb d_Model_branch_154 ?_
            refine lv_ior hx hb d_Model_branch_155 ?_
            refine lv_iload_n hx hb d_Model_branch_156 rfl (lv_at hl 5 rfl) ?_
            refine lv_bipush (v := 8) hx hb d_Model_branch_157 rfl ?_
            refine lv_iconst (v := 4) hx hb d_Model_branch_159 rfl ?_
            refine xi (wr := [((a 0), .inr (5, [.int (nI n), .ref (a 1), .ref (a 2), .ref (a 3), .ref (a 4), .ref (a 5), .ref (a 6), .ref (a 7), .ref (a 8), .long ti, .ref (a 9), .int np, .int h, .int ca, .int tv, .int nx])), ((a 1), .inl ((k 0), 16384, .inl b)), ((a 2), .inl ((k 1), 64, .inl x)), ((a 3), .inl ((k 2), 2, .inl pcs)), ((a 4), .inl ((k 3), 2, .inl lv)), ((a 5), .inl ((k 4), 8192, .inl cs)), ((a 6), .inl ((k 5), 2, .inl cl)), ((a 7), .inl ((k 6), 2, .inr (.inl cm))), ((a 8), .inl ((k 7), 2, .inl so)), ((a 9), .inl ((k 8), 256, .inl pu))]) (W2 := fun _ => wR a k n h ca tv nx pcs lv cs x b cl cm so ti pu np) (xS (rest := [.int (((shl (shr x0 31) 12) ||| (shl (sp_Model_field x0 7 1) 11)) ||| (shl (sp_Model_field x0 25 6) 5)), .int (pcs h.toNatClampNeg), .ref (a 0)]) ⟨hx, hb, hml, hown, hts⟩ (c_Model_field x0 8 4) mw_Model_field ms_Model_field k_787 ⟨rfl, rfl, Nat.le_of_ble_eq_true rfl, Nat.le_of_ble_eq_true rfl⟩ hK hP hD hS hA hF [] [] rfl rfl rfl rfl hl.1 rfl (Nat.le_of_ble_eq_true rfl) d_Model_branch_160 ⟨Nat.zero_le _, Nat.zero_le _⟩) hP hD hS hA [] [0, 1, 2, 3, 4, 5, 6, 7, 8, 9] [0, 1, 2, 3, 4, 5, 6, 7, 8, 9] rfl rfl rfl (by decide) (fun _ => rfl) rfl (fun r_44 _ H locs h_44 hP hD hS => ?_)
            subst h_44
            refine lv_iconst (v := 1) hx hb d_Model_branch_163 rfl ?_
            refine y_ishl hx hb d_Model_branch_164 ?_
            refine lv_ior hx hb d_Model_branch_165 ?_
            refine lv_iadd hx hb d_Model_branch_166 ?_
            refine xv (wr := []) (W2 := fun u9 => wR a k n h u9.1 u9.2.1 u9.2.2 pcs lv cs x b cl cm so ti pu np) (xV (rest := []) ⟨hx, hb, hml, hown, hts⟩ (c_Model_go a k n ((pcs h.toNatClampNeg) + ((((shl (shr x0 31) 12) ||| (shl (sp_Model_field x0 7 1) 11)) ||| (shl (sp_Model_field x0 25 6) 5)) ||| (shl (sp_Model_field x0 8 4) 1))) h ca tv nx pcs lv cs x b cl cm so ti pu np hn) mw_Model_go mv_Model_go k_798 ⟨rfl, rfl, Nat.le_of_ble_eq_true rfl, Nat.le_of_ble_eq_true rfl⟩ hK hP hD hS hA hF [0, 1, 2, 3, 4, 5, 6, 7, 8, 9] [0, 1, 2, 3, 4, 5, 6, 7, 8] rfl rfl rfl 0 5 rfl rfl rfl rfl hl.1 rfl (Nat.le_of_ble_eq_true rfl) d_Model_branch_167 ⟨Nat.zero_le _, Nat.zero_le _⟩) hP hD hS hA [0, 1, 2, 3, 4, 5, 6, 7, 8, 9] [] [0, 1, 2, 3, 4, 5, 6, 7, 8, 9] rfl rfl rfl (by decide) (fun _ => rfl) rfl (fun u_45 H locs h_45 hP hD hS => ?_)
            obtain ⟨ca_45, tv_45, nx_45⟩ := u_45
            dsimp only at hP hD
            exact rv (ca_45, tv_45, nx_45) hx hb hr hlocks hP hD hS d_Model_branch_170 (by simp only [sp_Model_branch, h_45, if_neg c_6, if_neg c_8, if_neg c_9, if_neg c_38, if_pos c_39])
        · refine lv_iconst (v := 1) hx hb d_Model_branch_63 rfl ?_
          refine lv_goto (tgt := 96) hx hb d_Model_branch_64 (by decide) ?_
          refine lv_istore (lv' := [(5, .int 1), (4, .int (sp_Model_field x0 12 3)), (3, .int (sp_Model_reg (sp_Model_field x0 20 5) h x)), (2, .int (sp_Model_reg (sp_Model_field x0 15 5) h x)), (0, .ref (a 0)), (1, .int x0)]) hx hb d_Model_branch_96 hl (by decide) rfl (fun ls hl => ?_)
          refine lv_iload hx hb d_Model_branch_98 (lv_at hl 0 rfl) ?_
          refine lv_iload hx hb d_Model_branch_100 (lv_at hl 1 rfl) ?_
          refine lv_iconst (v := 1) hx hb d_Model_branch_102 rfl ?_
          refine lv_iand hx hb d_Model_branch_103 ?_
          refine lv_iconst (v := 1) hx hb d_Model_branch_104 rfl ?_
          refine lv_icmp_ne (tgt := 112) hx hb d_Model_branch_105 (by decide) (fun c_46 => ?_) (fun c_46 => ?_)
          · refine lv_iconst (v := 0) hx hb d_Model_branch_112 rfl ?_
            refine lv_icmp_ne (tgt := 117) hx hb d_Model_branch_113 (by decide) (fun _ => ?_) (fun h9 => absurd h9 (by decide))
            refine lv_aload_n hx hb d_Model_branch_117 rfl (lv_at hl 4 rfl) ?_
            refine lv_aload_n hx hb d_Model_branch_118 rfl (lv_at hl 4 rfl) ?_
            refine va_get (D := D) (ci := 5) (v := .ref (a 3)) (C := R_Model) (T := F_Model) (N := 16) hx hb hts i_Model hown hK hP 0 rfl rfl 3 (by decide) (hts _ k_628) (fun _ h9 => h9) rfl d_Model_branch_119 ?_
            refine lv_aload_n hx hb d_Model_branch_122 rfl (lv_at hl 4 rfl) ?_
            refine va_get (D := D) (ci := 5) (v := .int h) (C := R_Model) (T := F_Model) (N := 16) hx hb hts i_Model hown hK hP 0 rfl rfl 12 (by decide) (hts _ k_637) (fun _ h9 => h9) rfl d_Model_branch_123 ?_
            refine y_iald (v := pcs h.toNatClampNeg) hx hb hK hP 3 2 rfl rfl (vp_01 hh (by decide)) rfl d_Model_branch_126 ?_
            refine lv_iload_n hx hb d_Model_branch_127 rfl (lv_at hl 5 rfl) ?_
            refine lv_bipush (v := 31) hx hb d_Model_branch_128 rfl ?_
            refine y_ishr hx hb d_Model_branch_130 ?_
            refine lv_bipush (v := 12) hx hb d_Model_branch_131 rfl ?_
            refine y_ishl hx hb d_Model_branch_133 ?_
            refine lv_iload_n hx hb d_Model_branch_134 rfl (lv_at hl 5 rfl) ?_
            refine lv_bipush (v := 7) hx hb d_Model_branch_135 rfl ?_
            refine lv_iconst (v := 1) hx hb d_Model_branch_137 rfl ?_
            refine xi (wr := [((a 0), .inr (5, [.int (nI n), .ref (a 1), .ref (a 2), .ref (a 3), .ref (a 4), .ref (a 5), .ref (a 6), .ref (a 7), .ref (a 8), .long ti, .ref (a 9), .int np, .int h, .int ca, .int tv, .int nx])), ((a 1), .inl ((k 0), 16384, .inl b)), ((a 2), .inl ((k 1), 64, .inl x)), ((a 3), .inl ((k 2), 2, .inl pcs)), ((a 4), .inl ((k 3), 2, .inl lv)), ((a 5), .inl ((k 4), 8192, .inl cs)), ((a 6), .inl ((k 5), 2, .inl cl)), ((a 7), .inl ((k 6), 2, .inr (.inl cm))), ((a 8), .inl ((k 7), 2, .inl so)), ((a 9), .inl ((k 8), 256, .inl pu))]) (W2 := fun _ => wR a k n h ca tv nx pcs lv cs x b cl cm so ti pu np) (xS (rest := [.int (shl (shr x0 31) 12), .int (pcs h.toNatClampNeg), .ref (a 0)]) ⟨hx, hb, hml, hown, hts⟩ (c_Model_field x0 7 1) mw_Model_field ms_Model_field k_787 ⟨rfl, rfl, Nat.le_of_ble_eq_true rfl, Nat.le_of_ble_eq_true rfl⟩ hK hP hD hS hA hF [] [] rfl rfl rfl rfl hl.1 rfl (Nat.le_of_ble_eq_true rfl) d_Model_branch_138 ⟨Nat.zero_le _, Nat.zero_le _⟩) hP hD hS hA [] [0, 1, 2, 3, 4, 5, 6, 7, 8, 9] [0, 1, 2, 3, 4, 5, 6, 7, 8, 9] rfl rfl rfl (by decide) (fun _ => rfl) rfl (fun r_48 _ H locs h_48 hP hD hS => ?_)
            subst h_48
            refine lv_bipush (v := 11) hx hb d_Model_branch_141 rfl ?_
            refine y_ishl hx hb d_Model_branch_143 ?_
            refine lv_ior hx hb d_Model_branch_144 ?_
            refine lv_iload_n hx hb d_Model_branch_145 rfl (lv_at hl 5 rfl) ?_
            refine lv_bipush (v := 25) hx hb d_Model_branch_146 rfl ?_
            refine lv_bipush (v := 6) hx hb d_Model_branch_148 rfl ?_
            refine xi (wr := [((a 0), .inr (5, [.int (nI n), .ref (a 1), .ref (a 2), .ref (a 3), .ref (a 4), .ref (a 5), .ref (a 6), .ref (a 7), .ref (a 8), .long ti, .ref (a 9), .int np, .int h, .int ca, .int tv, .int nx])), ((a 1), .inl ((k 0), 16384, .inl b)), ((a 2), .inl ((k 1), 64, .inl x)), ((a 3), .inl ((k 2), 2, .inl pcs)), ((a 4), .inl ((k 3), 2, .inl lv)), ((a 5), .inl ((k 4), 8192, .inl cs)), ((a 6), .inl ((k 5), 2, .inl cl)), ((a 7), .inl ((k 6), 2, .inr (.inl cm))), ((a 8), .inl ((k 7), 2, .inl so)), ((a 9), .inl ((k 8), 256, .inl pu))]) (W2 := fun _ => wR a k n h ca tv nx pcs lv cs x b cl cm so ti pu np) (xS (rest := [.int ((shl (shr x0 31) 12) ||| (shl (sp_Model_field x0 7 1) 11)), .int (pcs h.toNatClampNeg), .ref (a 0)]) ⟨hx, hb, hml, hown, hts⟩ (c_Model_field x0 25 6) mw_Model_field ms_Model_field k_787 ⟨rfl, rfl, Nat.le_of_ble_eq_true rfl, Nat.le_of_ble_eq_true rfl⟩ hK hP hD hS hA hF [] [] rfl rfl rfl rfl hl.1 rfl (Nat.le_of_ble_eq_true rfl) d_Model_branch_150 ⟨Nat.zero_le _, Nat.zero_le _⟩) hP hD hS hA [] [0, 1, 2, 3, 4, 5, 6, 7, 8, 9] [0, 1, 2, 3, 4, 5, 6, 7, 8, 9] rfl rfl rfl (by decide) (fun _ => rfl) rfl (fun r_49 _ H locs h_49 hP hD hS => ?_)
            subst h_49
            refine lv_iconst (v := 5) hx hb d_Model_branch_153 rfl ?_
            refine y_ishl hx hb d_Model_branch_154 ?_
            refine lv_ior hx hb d_Model_branch_155 ?_
            refine lv_iload_n hx hb d_Model_branch_156 rfl (lv_at hl 5 rfl) ?_
            refine lv_bipush (v := 8) hx hb d_Model_branch_157 rfl ?_
            refine lv_iconst (v := 4) hx hb d_Model_branch_159 rfl ?_
            refine xi (wr := [((a 0), .inr (5, [.int (nI n), .ref (a 1), .ref (a 2), .ref (a 3), .ref (a 4), .ref (a 5), .ref (a 6), .ref (a 7), .ref (a 8), .long ti, .ref (a 9), .int np, .int h, .int ca, .int tv, .int nx])), ((a 1), .inl ((k 0), 16384, .inl b)), ((a 2), .inl ((k 1), 64, .inl x)), ((a 3), .inl ((k 2), 2, .inl pcs)), ((a 4), .inl ((k 3), 2, .inl lv)), ((a 5), .inl ((k 4), 8192, .inl cs)), ((a 6), .inl ((k 5), 2, .inl cl)), ((a 7), .inl ((k 6), 2, .inr (.inl cm))), ((a 8), .inl ((k 7), 2, .inl so)), ((a 9), .inl ((k 8), 256, .inl pu))]) (W2 := fun _ => wR a k n h ca tv nx pcs lv cs x b cl cm so ti pu np) (xS (rest := [.int (((shl (shr x0 31) 12) ||| (shl (sp_Model_field x0 7 1) 11)) ||| (shl (sp_Model_field x0 25 6) 5)), .int (pcs h.toNatClampNeg), .ref (a 0)]) ⟨hx, hb, hml, hown, hts⟩ (c_Model_field x0 8 4) mw_Model_field ms_Model_field k_787 ⟨rfl, rfl, Nat.le_of_ble_eq_true rfl, Nat.le_of_ble_eq_true rfl⟩ hK hP hD hS hA hF [] [] rfl rfl rfl rfl hl.1 rfl (Nat.le_of_ble_eq_true rfl) d_Model_branch_160 ⟨Nat.zero_le _, Nat.zero_le _⟩) hP hD hS hA [] [0, 1, 2, 3, 4, 5, 6, 7, 8, 9] [0, 1, 2, 3, 4, 5, 6, 7, 8, 9] rfl rfl rfl (by decide) (fun _ => rfl) rfl (fun r_50 _ H locs h_50 hP hD hS => ?_)
            subst h_50
            refine lv_iconst (v := 1) hx hb d_Model_branch_163 rfl ?_
            refine y_ishl hx hb d_Model_branch_164 ?_
            refine lv_ior hx hb d_Model_branch_165 ?_
            refine lv_iadd hx hb d_Model_branch_166 ?_
            refine xv (wr := []) (W2 := fun u9 => wR a k n h u9.1 u9.2.1 u9.2.2 pcs lv cs x b cl cm so ti pu np) (xV (rest := []) ⟨hx, hb, hml, hown, hts⟩ (c_Model_go a k n ((pcs h.toNatClampNeg) + ((((shl (shr x0 31) 12) ||| (shl (sp_Model_field x0 7 1) 11)) ||| (shl (sp_Model_field x0 25 6) 5)) ||| (shl (sp_Model_field x0 8 4) 1))) h ca tv nx pcs lv cs x b cl cm so ti pu np hn) mw_Model_go mv_Model_go k_798 ⟨rfl, rfl, Nat.le_of_ble_eq_true rfl, Nat.le_of_ble_eq_true rfl⟩ hK hP hD hS hA hF [0, 1, 2, 3, 4, 5, 6, 7, 8, 9] [0, 1, 2, 3, 4, 5, 6, 7, 8] rfl rfl rfl 0 5 rfl rfl rfl rfl hl.1 rfl (Nat.le_of_ble_eq_true rfl) d_Model_branch_167 ⟨Nat.zero_le _, Nat.zero_le _⟩) hP hD hS hA [0, 1, 2, 3, 4, 5, 6, 7, 8, 9] [] [0, 1, 2, 3, 4, 5, 6, 7, 8, 9] rfl rfl rfl (by decide) (fun _ => rfl) rfl (fun u_51 H locs h_51 hP hD hS => ?_)
            obtain ⟨ca_51, tv_51, nx_51⟩ := u_51
            dsimp only at hP hD
            exact rv (ca_51, tv_51, nx_51) hx hb hr hlocks hP hD hS d_Model_branch_170 (by simp only [sp_Model_branch, h_51, if_neg c_6, if_neg c_8, if_neg c_9, if_pos c_38, if_neg c_46])
          · refine lv_iconst (v := 1) hx hb d_Model_branch_108 rfl ?_
            refine lv_goto (tgt := 113) hx hb d_Model_branch_109 (by decide) ?_
            refine lv_icmp_ne (tgt := 117) hx hb d_Model_branch_113 (by decide) (fun h9 => absurd (by decide) h9) (fun _ => ?_)
            exact rv (ca, tv, nx) hx hb hr hlocks hP hD hS d_Model_branch_116 (by simp only [sp_Model_branch, if_neg c_6, if_neg c_8, if_neg c_9, if_pos c_38, if_pos c_46])
    · refine lv_aload_n hx hb d_Model_branch_45 rfl (lv_at hl 3 rfl) ?_
      refine lv_iconst (v := 2) hx hb d_Model_branch_46 rfl ?_
      refine lv_iload_n hx hb d_Model_branch_47 rfl (lv_at hl 4 rfl) ?_
      refine xv (wr := []) (W2 := fun u9 => wR a k n h u9.1 u9.2 nx pcs lv cs x b cl cm so ti pu np) (xV (rest := []) ⟨hx, hb, hml, hown, hts⟩ (c_Model_trap a k n 2 x0 h ca tv nx pcs lv cs x b cl cm so ti pu np hn) mw_Model_trap mv_Model_trap k_763 ⟨rfl, rfl, Nat.le_of_ble_eq_true rfl, Nat.le_of_ble_eq_true rfl⟩ hK hP hD hS hA hF [0, 1, 2, 3, 4, 5, 6, 7, 8, 9] [0, 1, 2, 3, 4, 5, 6, 7, 8] rfl rfl rfl 0 5 rfl rfl rfl rfl hl.1 rfl (Nat.le_of_ble_eq_true rfl) d_Model_branch_48 ⟨Nat.zero_le _, Nat.zero_le _⟩) hP hD hS hA [0, 1, 2, 3, 4, 5, 6, 7, 8, 9] [] [0, 1, 2, 3, 4, 5, 6, 7, 8, 9] rfl rfl rfl (by decide) (fun _ => rfl) rfl (fun u_53 H locs h_53 hP hD hS => ?_)
      obtain ⟨ca_53, tv_53⟩ := u_53
      dsimp only at hP hD
      exact rv (ca_53, tv_53, nx) hx hb hr hlocks hP hD hS d_Model_branch_51 (by simp only [sp_Model_branch, h_53, if_neg c_6, if_pos c_8])
