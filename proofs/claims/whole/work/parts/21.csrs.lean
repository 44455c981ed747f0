def sp_Csrs_restart  (q : Nat → Int32) : Nat → Int32 :=
  (upd (upd (upd (upd (upd (upd (upd (upd (upd (upd (upd (upd (upd (upd (upd (upd q 1 0) 2 0) 3 0) 4 0) 5 0) 6 0) 7 0) 8 0) 9 0) 10 0) 11 0) 12 0) 13 0) 14 0) 15 0) 16 0)
set_option maxHeartbeats 4000000 in
set_option maxRecDepth 100000 in
theorem c_Csrs_restart {l : Launch} {D : va_G} {g : Nat → Nat} (h : Nat)  (q : Nat → Int32)  : CT l D g y_Csrs_restart b_Csrs_restart 1 none (rD 0) [.ref h] (wC h q) ([]) (Qv D (fun (u : Nat → Int32) => sp_Csrs_restart q = u) (fun u => wC h u)) := by
  refine CT.of rfl (Nat.le_of_ble_eq_true rfl) (fun p e s m below meth c A ls hx hb hr hml hts hown hlocks hA hP hK hD hF hS hl => ?_)
  have hl : lv_has ls 1 [(0, .ref h)] := hl
  refine lv_aload_n hx hb d_Csrs_restart_0 rfl (lv_at hl 0 rfl) ?_
  refine lv_iconst (v := 0) hx hb d_Csrs_restart_1 rfl ?_
  refine y_put (D := D) (ci := 3) (v := .int 0) (ty := .int) (C := R_Csrs) (T := F_Csrs) (N := 17) (ws' := wC h (upd q 1 0)) hx hb hts i_Csrs t_Csrs t_Csrs_ok n_Csrs hown hK hP hD hS 0 rfl rfl 1 (by decide) (hts _ k_89) (fun _ h9 => h9) rfl (by decide +kernel) rfl rfl (Nat.le_of_ble_eq_true rfl) d_Csrs_restart_2 rfl (fun H locs hP hD hS => ?_)
  refine lv_aload_n hx hb d_Csrs_restart_5 rfl (lv_at hl 0 rfl) ?_
  refine lv_iconst (v := 0) hx hb d_Csrs_restart_6 rfl ?_
  refine y_put (D := D) (ci := 3) (v := .int 0) (ty := .int) (C := R_Csrs) (T := F_Csrs) (N := 17) (ws' := wC h (upd (upd q 1 0) 2 0)) hx hb hts i_Csrs t_Csrs t_Csrs_ok n_Csrs hown hK hP hD hS 0 rfl rfl 2 (by decide) (hts _ k_91) (fun _ h9 => h9) rfl (by decide +kernel) rfl rfl (Nat.le_of_ble_eq_true rfl) d_Csrs_restart_7 rfl (fun H locs hP hD hS => ?_)
  refine lv_aload_n hx hb d_Csrs_restart_10 rfl (lv_at hl 0 rfl) ?_
  refine lv_iconst (v := 0) hx hb d_Csrs_restart_11 rfl ?_
  refine y_put (D := D) (ci := 3) (v := .int 0) (ty := .int) (C := R_Csrs) (T := F_Csrs) (N := 17) (ws' := wC h (upd (upd (upd q 1 0) 2 0) 3 0)) hx hb hts i_Csrs t_Csrs t_Csrs_ok n_Csrs hown hK hP hD hS 0 rfl rfl 3 (by decide) (hts _ k_92) (fun _ h9 => h9) rfl (by decide +kernel) rfl rfl (Nat.le_of_ble_eq_true rfl) d_Csrs_restart_12 rfl (fun H locs hP hD hS => ?_)
  refine lv_aload_n hx hb d_Csrs_restart_15 rfl (lv_at hl 0 rfl) ?_
  refine lv_iconst (v := 0) hx hb d_Csrs_restart_16 rfl ?_
  refine y_put (D := D) (ci := 3) (v := .int 0) (ty := .int) (C := R_Csrs) (T := F_Csrs) (N := 17) (ws' := wC h (upd (upd (upd (upd q 1 0) 2 0) 3 0) 4 0)) hx hb hts i_Csrs t_Csrs t_Csrs_ok n_Csrs hown hK hP hD hS 0 rfl rfl 4 (by decide) (hts _ k_93) (fun _ h9 => h9) rfl (by decide +kernel) rfl rfl (Nat.le_of_ble_eq_true rfl) d_Csrs_restart_17 rfl (fun H locs hP hD hS => ?_)
  refine lv_aload_n hx hb d_Csrs_restart_20 rfl (lv_at hl 0 rfl) ?_
  refine lv_iconst (v := 0) hx hb d_Csrs_restart_21 rfl ?_
  refine y_put (D := D) (ci := 3) (v := .int 0) (ty := .int) (C := R_Csrs) (T := F_Csrs) (N := 17) (ws' := wC h (upd (upd (upd (upd (upd q 1 0) 2 0) 3 0) 4 0) 5 0)) hx hb hts i_Csrs t_Csrs t_Csrs_ok n_Csrs hown hK hP hD hS 0 rfl rfl 5 (by decide) (hts _ k_94) (fun _ h9 => h9) rfl (by decide +kernel) rfl rfl (Nat.le_of_ble_eq_true rfl) d_Csrs_restart_22 rfl (fun H locs hP hD hS => ?_)
  refine lv_aload_n hx hb d_Csrs_restart_25 rfl (lv_at hl 0 rfl) ?_
  refine lv_iconst (v := 0) hx hb d_Csrs_restart_26 rfl ?_
  refine y_put (D := D) (ci := 3) (v := .int 0) (ty := .int) (C := R_Csrs) (T := F_Csrs) (N := 17) (ws' := wC h (upd (upd (upd (upd (upd (upd q 1 0) 2 0) 3 0) 4 0) 5 0) 6 0)) hx hb hts i_Csrs t_Csrs t_Csrs_ok n_Csrs hown hK hP hD hS 0 rfl rfl 6 (by decide) (hts _ k_95) (fun _ h9 => h9) rfl (by decide +kernel) rfl rfl (Nat.le_of_ble_eq_true rfl) d_Csrs_restart_27 rfl (fun H locs hP hD hS => ?_)
  refine lv_aload_n hx hb d_Csrs_restart_30 rfl (lv_at hl 0 rfl) ?_
  refine lv_iconst (v := 0) hx hb d_Csrs_restart_31 rfl ?_
  refine y_put (D := D) (ci := 3) (v := .int 0) (ty := .int) (C := R_Csrs) (T := F_Csrs) (N := 17) (ws' := wC h (upd (upd (upd (upd (upd (upd (upd q 1 0) 2 0) 3 0) 4 0) 5 0) 6 0) 7 0)) hx hb hts i_Csrs t_Csrs t_Csrs_ok n_Csrs hown hK hP hD hS 0 rfl rfl 7 (by decide) (hts _ k_97) (fun _ h9 => h9) rfl (by decide +kernel) rfl rfl (Nat.le_of_ble_eq_true rfl) d_Csrs_restart_32 rfl (fun H locs hP hD hS => ?_)
  refine lv_aload_n hx hb d_Csrs_restart_35 rfl (lv_at hl 0 rfl) ?_
  refine lv_iconst (v := 0) hx hb d_Csrs_restart_36 rfl ?_
  refine y_put (D := D) (ci := 3) (v := .int 0) (ty := .int) (C := R_Csrs) (T := F_Csrs) (N := 17) (ws' := wC h (upd (upd (upd (upd (upd (upd (upd (upd q 1 0) 2 0) 3 0) 4 0) 5 0) 6 0) 7 0) 8 0)) hx hb hts i_Csrs t_Csrs t_Csrs_ok n_Csrs hown hK hP hD hS 0 rfl rfl 8 (by decide) (hts _ k_98) (fun _ h9 => h9) rfl (by decide +kernel) rfl rfl (Nat.le_of_ble_eq_true rfl) d_Csrs_restart_37 rfl (fun H locs hP hD hS => ?_)
  refine lv_aload_n hx hb d_Csrs_restart_40 rfl (lv_at hl 0 rfl) ?_
  refine lv_iconst (v := 0) hx hb d_Csrs_restart_41 rfl ?_
  refine y_put (D := D) (ci := 3) (v := .int 0) (ty := .int) (C := R_Csrs) (T := F_Csrs) (N := 17) (ws' := wC h (upd (upd (upd (upd (upd (upd (upd (upd (upd q 1 0) 2 0) 3 0) 4 0) 5 0) 6 0) 7 0) 8 0) 9 0)) hx hb hts i_Csrs t_Csrs t_Csrs_ok n_Csrs hown hK hP hD hS 0 rfl rfl 9 (by decide) (hts _ k_99) (fun _ h9 => h9) rfl (by decide +kernel) rfl rfl (Nat.le_of_ble_eq_true rfl) d_Csrs_restart_42 rfl (fun H locs hP hD hS => ?_)
  refine lv_aload_n hx hb d_Csrs_restart_45 rfl (lv_at hl 0 rfl) ?_
  refine lv_iconst (v := 0) hx hb d_Csrs_restart_46 rfl ?_
  refine y_put (D := D) (ci := 3) (v := .int 0) (ty := .int) (C := R_Csrs) (T := F_Csrs) (N := 17) (ws' := wC h (upd (upd (upd (upd (upd (upd (upd (upd (upd (upd q 1 0) 2 0) 3 0) 4 0) 5 0) 6 0) 7 0) 8 0) 9 0) 10 0)) hx hb hts i_Csrs t_Csrs t_Csrs_ok n_Csrs hown hK hP hD hS 0 rfl rfl 10 (by decide) (hts _ k_100) (fun _ h9 => h9) rfl (by decide +kernel) rfl rfl (Nat.le_of_ble_eq_true rfl) d_Csrs_restart_47 rfl (fun H locs hP hD hS => ?_)
  refine lv_aload_n hx hb d_Csrs_restart_50 rfl (lv_at hl 0 rfl) ?_
  refine lv_iconst (v := 0) hx hb d_Csrs_restart_51 rfl ?_
  refine y_put (D := D) (ci := 3) (v := .int 0) (ty := .int) (C := R_Csrs) (T := F_Csrs) (N := 17) (ws' := wC h (upd (upd (upd (upd (upd (upd (upd (upd (upd (upd (upd q 1 0) 2 0) 3 0) 4 0) 5 0) 6 0) 7 0) 8 0) 9 0) 10 0) 11 0)) hx hb hts i_Csrs t_Csrs t_Csrs_ok n_Csrs hown hK hP hD hS 0 rfl rfl 11 (by decide) (hts _ k_101) (fun _ h9 => h9) rfl (by decide +kernel) rfl rfl (Nat.le_of_ble_eq_true rfl) d_Csrs_restart_52 rfl (fun H locs hP hD hS => ?_)
  refine lv_aload_n hx hb d_Csrs_restart_55 rfl (lv_at hl 0 rfl) ?_
  refine lv_iconst (v := 0) hx hb d_Csrs_restart_56 rfl ?_
  refine y_put (D := D) (ci := 3) (v := .int 0) (ty := .int) (C := R_Csrs) (T := F_Csrs) (N := 17) (ws' := wC h (upd (upd (upd (upd (upd (upd (upd (upd (upd (upd (upd (upd q 1 0) 2 0) 3 0) 4 0) 5 0) 6 0) 7 0) 8 0) 9 0) 10 0) 11 0) 12 0)) hx hb hts i_Csrs t_Csrs t_Csrs_ok n_Csrs hown hK hP hD hS 0 rfl rfl 12 (by decide) (hts _ k_102) (fun _ h9 => h9) rfl (by decide +kernel) rfl rfl (Nat.le_of_ble_eq_true rfl) d_Csrs_restart_57 rfl (fun H locs hP hD hS => ?_)
  refine lv_aload_n hx hb d_Csrs_restart_60 rfl (lv_at hl 0 rfl) ?_
  refine lv_iconst (v := 0) hx hb d_Csrs_restart_61 rfl ?_
  refine y_put (D := D) (ci := 3) (v := .int 0) (ty := .int) (C := R_Csrs) (T := F_Csrs) (N := 17) (ws' := wC h (upd (upd (upd (upd (upd (upd (upd (upd (upd (upd (upd (upd (upd q 1 0) 2 0) 3 0) 4 0) 5 0) 6 0) 7 0) 8 0) 9 0) 10 0) 11 0) 12 0) 13 0)) hx hb hts i_Csrs t_Csrs t_Csrs_ok n_Csrs hown hK hP hD hS 0 rfl rfl 13 (by decide) (hts _ k_104) (fun _ h9 => h9) rfl (by decide +kernel) rfl rfl (Nat.le_of_ble_eq_true rfl) d_Csrs_restart_62 rfl (fun H locs hP hD hS => ?_)
  refine lv_aload_n hx hb d_Csrs_restart_65 rfl (lv_at hl 0 rfl) ?_
  refine lv_iconst (v := 0) hx hb d_Csrs_restart_66 rfl ?_
  refine y_put (D := D) (ci := 3) (v := .int 0) (ty := .int) (C := R_Csrs) (T := F_Csrs) (N := 17) (ws' := wC h (upd (upd (upd (upd (upd (upd (upd (upd (upd (upd (upd (upd (upd (upd q 1 0) 2 0) 3 0) 4 0) 5 0) 6 0) 7 0) 8 0) 9 0) 10 0) 11 0) 12 0) 13 0) 14 0)) hx hb hts i_Csrs t_Csrs t_Csrs_ok n_Csrs hown hK hP hD hS 0 rfl rfl 14 (by decide) (hts _ k_105) (fun _ h9 => h9) rfl (by decide +kernel) rfl rfl (Nat.le_of_ble_eq_true rfl) d_Csrs_restart_67 rfl (fun H locs hP hD hS => ?_)
  refine lv_aload_n hx hb d_Csrs_restart_70 rfl (lv_at hl 0 rfl) ?_
  refine lv_iconst (v := 0) hx hb d_Csrs_restart_71 rfl ?_
  refine y_put (D := D) (ci := 3) (v := .int 0) (ty := .int) (C := R_Csrs) (T := F_Csrs) (N := 17) (ws' := wC h (upd (upd (upd (upd (upd (upd (upd (upd (upd (upd (upd (upd (upd (upd (upd q 1 0) 2 0) 3 0) 4 0) 5 0) 6 0) 7 0) 8 0) 9 0) 10 0) 11 0) 12 0) 13 0) 14 0) 15 0)) hx hb hts i_Csrs t_Csrs t_Csrs_ok n_Csrs hown hK hP hD hS 0 rfl rfl 15 (by decide) (hts _ k_106) (fun _ h9 => h9) rfl (by decide +kernel) rfl rfl (Nat.le_of_ble_eq_true rfl) d_Csrs_restart_72 rfl (fun H locs hP hD hS => ?_)
  refine lv_aload_n hx hb d_Csrs_restart_75 rfl (lv_at hl 0 rfl) ?_
  refine lv_iconst (v := 0) hx hb d_Csrs_restart_76 rfl ?_
  refine y_put (D := D) (ci := 3) (v := .int 0) (ty := .int) (C := R_Csrs) (T := F_Csrs) (N := 17) (ws' := wC h (upd (upd (upd (upd (upd (upd (upd (upd (upd (upd (upd (upd (upd (upd (upd (upd q 1 0) 2 0) 3 0) 4 0) 5 0) 6 0) 7 0) 8 0) 9 0) 10 0) 11 0) 12 0) 13 0) 14 0) 15 0) 16 0)) hx hb hts i_Csrs t_Csrs t_Csrs_ok n_Csrs hown hK hP hD hS 0 rfl rfl 16 (by decide) (hts _ k_107) (fun _ h9 => h9) rfl (by decide +kernel) rfl rfl (Nat.le_of_ble_eq_true rfl) d_Csrs_restart_77 rfl (fun H locs hP hD hS => ?_)
  exact rv (upd (upd (upd (upd (upd (upd (upd (upd (upd (upd (upd (upd (upd (upd (upd (upd q 1 0) 2 0) 3 0) 4 0) 5 0) 6 0) 7 0) 8 0) 9 0) 10 0) 11 0) 12 0) 13 0) 14 0) 15 0) 16 0) hx hb hr hlocks hP hD hS d_Csrs_restart_80 (by simp only [sp_Csrs_restart])
def sp_Csrs_has (x0 : Int32) (q : Nat → Int32) : Int32 :=
  if ((q 1) &&& x0) = 0 then
    0
  else
    1
set_option maxHeartbeats 4000000 in
set_option maxRecDepth 100000 in
theorem c_Csrs_has {l : Launch} {D : va_G} {g : Nat → Nat} (h : Nat) (x0 : Int32) (q : Nat → Int32)  : CT l D g y_Csrs_has b_Csrs_has 2 (some .boolean) (rD 0) [.ref h, .int x0] (wC h q) ([]) (Qi D (fun (r : Int32) (_ : Unit) => sp_Csrs_has x0 q = r ∧ (r = 0 ∨ r = 1)) (fun _ => wC h q)) := by
  refine CT.of rfl (Nat.le_of_ble_eq_true rfl) (fun p e s m below meth c A ls hx hb hr hml hts hown hlocks hA hP hK hD hF hS hl => ?_)
  have hl : lv_has ls 2 [(0, .ref h), (1, .int x0)] := hl
  refine lv_aload_n hx hb d_Csrs_has_0 rfl (lv_at hl 0 rfl) ?_
  refine va_get (D := D) (ci := 3) (v := .int (q 1)) (C := R_Csrs) (T := F_Csrs) (N := 17) hx hb hts i_Csrs hown hK hP 0 rfl rfl 1 (by decide) (hts _ k_89) (fun _ h9 => h9) rfl d_Csrs_has_1 ?_
  refine lv_iload_n hx hb d_Csrs_has_4 rfl (lv_at hl 1 rfl) ?_
  refine lv_iand hx hb d_Csrs_has_5 ?_
  refine lv_if_eq (tgt := 13) hx hb d_Csrs_has_6 (by decide) (fun c_1 => ?_) (fun c_1 => ?_)
  · refine lv_iconst (v := 0) hx hb d_Csrs_has_13 rfl ?_
    exact rz () hx hb hr hlocks rfl hP hD hS d_Csrs_has_14 ⟨by simp only [sp_Csrs_has, if_pos c_1], Or.inl rfl⟩
  · refine lv_iconst (v := 1) hx hb d_Csrs_has_9 rfl ?_
    refine lv_goto (tgt := 14) hx hb d_Csrs_has_10 (by decide) ?_
    exact rz () hx hb hr hlocks rfl hP hD hS d_Csrs_has_14 ⟨by simp only [sp_Csrs_has, if_neg c_1], Or.inr rfl⟩
def sp_Csrs_firstOf (x0 : Int32)  : Int32 :=
  if ((shr x0 3) &&& 1) = 0 then
    if ((shr x0 7) &&& 1) = 0 then
      if ((shr x0 9) &&& 1) = 0 then
        if ((shr x0 1) &&& 1) = 0 then
          if ((shr x0 5) &&& 1) = 0 then
            (-1)
          else
            5
        else
          1
      else
        9
    else
      7
  else
    3
set_option maxHeartbeats 4000000 in
set_option maxRecDepth 100000 in
theorem c_Csrs_firstOf {l : Launch} {D : va_G} {g : Nat → Nat}  (x0 : Int32)   : CT l D g y_Csrs_firstOf b_Csrs_firstOf 2 (some .int) (rD 0) [.int x0] ([]) ([]) (Qi D (fun (r : Int32) (_ : Unit) => sp_Csrs_firstOf x0 = r) (fun _ => [])) := by
  refine CT.of rfl (Nat.le_of_ble_eq_true rfl) (fun p e s m below meth c A ls hx hb hr hml hts hown hlocks hA hP hK hD hF hS hl => ?_)
  have hl : lv_has ls 2 [(0, .int x0)] := hl
  refine lv_iconst (v := 0) hx hb d_Csrs_firstOf_0 rfl ?_
  refine lv_istore_n (lv' := [(1, .int 0), (0, .int x0)]) hx hb d_Csrs_firstOf_1 rfl hl (by decide) rfl (fun ls hl => ?_)
  refine lv_iload_n hx hb d_Csrs_firstOf_2 rfl (lv_at hl 0 rfl) ?_
  refine va_gets hx hb hF.2.2.1 hS hown (hts _ k_240) (fun _ h9 => h9) d_Csrs_firstOf_3 ?_
  refine va_tlen (v := 5) hx hb hF.2.2.2 hS rfl d_Csrs_firstOf_6 ?_
  refine lv_icmp_ge (tgt := 34) hx hb d_Csrs_firstOf_7 (by decide) (fun h9 => absurd h9 (by decide)) (fun _ => ?_)
  refine lv_iload_n hx hb d_Csrs_firstOf_10 rfl (lv_at hl 1 rfl) ?_
  refine va_gets hx hb hF.2.2.1 hS hown (hts _ k_240) (fun _ h9 => h9) d_Csrs_firstOf_11 ?_
  refine lv_iload_n hx hb d_Csrs_firstOf_14 rfl (lv_at hl 0 rfl) ?_
  refine va_ti (v := .int 3) hx hb hF.2.2.2 hS (by unfold vp_in; decide) rfl d_Csrs_firstOf_15 ?_
  refine y_ishr hx hb d_Csrs_firstOf_16 ?_
  refine lv_iconst (v := 1) hx hb d_Csrs_firstOf_17 rfl ?_
  refine lv_iand hx hb d_Csrs_firstOf_18 ?_
  refine lv_if_eq (tgt := 28) hx hb d_Csrs_firstOf_19 (by decide) (fun c_2 => ?_) (fun c_2 => ?_)
  · refine lv_iinc (v := 1) (lv' := [(1, .int 1), (0, .int x0)]) hx hb d_Csrs_firstOf_28 hl (k := 0) rfl rfl (by decide) rfl (fun ls hl => ?_)
    refine lv_goto (tgt := 2) hx hb d_Csrs_firstOf_31 (by decide) ?_
    refine lv_iload_n hx hb d_Csrs_firstOf_2 rfl (lv_at hl 0 rfl) ?_
    refine va_gets hx hb hF.2.2.1 hS hown (hts _ k_240) (fun _ h9 => h9) d_Csrs_firstOf_3 ?_
    refine va_tlen (v := 5) hx hb hF.2.2.2 hS rfl d_Csrs_firstOf_6 ?_
    refine lv_icmp_ge (tgt := 34) hx hb d_Csrs_firstOf_7 (by decide) (fun h9 => absurd h9 (by decide)) (fun _ => ?_)
    refine lv_iload_n hx hb d_Csrs_firstOf_10 rfl (lv_at hl 1 rfl) ?_
    refine va_gets hx hb hF.2.2.1 hS hown (hts _ k_240) (fun _ h9 => h9) d_Csrs_firstOf_11 ?_
    refine lv_iload_n hx hb d_Csrs_firstOf_14 rfl (lv_at hl 0 rfl) ?_
    refine va_ti (v := .int 7) hx hb hF.2.2.2 hS (by unfold vp_in; decide) rfl d_Csrs_firstOf_15 ?_
    refine y_ishr hx hb d_Csrs_firstOf_16 ?_
    refine lv_iconst (v := 1) hx hb d_Csrs_firstOf_17 rfl ?_
    refine lv_iand hx hb d_Csrs_firstOf_18 ?_
    refine lv_if_eq (tgt := 28) hx hb d_Csrs_firstOf_19 (by decide) (fun c_4 => ?_) (fun c_4 => ?_)
    · refine lv_iinc (v := 2) (lv' := [(1, .int 2), (0, .int x0)]) hx hb d_Csrs_firstOf_28 hl (k := 0) rfl rfl (by decide) rfl (fun ls hl => ?_)
      refine lv_goto (tgt := 2) hx hb d_Csrs_firstOf_31 (by decide) ?_
      refine lv_iload_n hx hb d_Csrs_firstOf_2 rfl (lv_at hl 0 rfl) ?_
      refine va_gets hx hb hF.2.2.1 hS hown (hts _ k_240) (fun _ h9 => h9) d_Csrs_firstOf_3 ?_
      refine va_tlen (v := 5) hx hb hF.2.2.2 hS rfl d_Csrs_firstOf_6 ?_
      refine lv_icmp_ge (tgt := 34) hx hb d_Csrs_firstOf_7 (by decide) (fun h9 => absurd h9 (by decide)) (fun _ => ?_)
      refine lv_iload_n hx hb d_Csrs_firstOf_10 rfl (lv_at hl 1 rfl) ?_
      refine va_gets hx hb hF.2.2.1 hS hown (hts _ k_240) (fun _ h9 => h9) d_Csrs_firstOf_11 ?_
      refine lv_iload_n hx hb d_Csrs_firstOf_14 rfl (lv_at hl 0 rfl) ?_
      refine va_ti (v := .int 9) hx hb hF.2.2.2 hS (by unfold vp_in; decide) rfl d_Csrs_firstOf_15 ?_
      refine y_ishr hx hb d_Csrs_firstOf_16 ?_
      refine lv_iconst (v := 1) hx hb d_Csrs_firstOf_17 rfl ?_
      refine lv_iand hx hb d_Csrs_firstOf_18 ?_
      refine lv_if_eq (tgt := 28) hx hb d_Csrs_firstOf_19 (by decide) (fun c_6 => ?_) (fun c_6 => ?_)
      · refine lv_iinc (v := 3) (lv' := [(1, .int 3), (0, .int x0)]) hx hb d_Csrs_firstOf_28 hl (k := 0) rfl rfl (by decide) rfl (fun ls hl => ?_)
        refine lv_goto (tgt := 2) hx hb d_Csrs_firstOf_31 (by decide) ?_
        refine lv_iload_n hx hb d_Csrs_firstOf_2 rfl (lv_at hl 0 rfl) ?_
        refine va_gets hx hb hF.2.2.1 hS hown (hts _ k_240) (fun _ h9 => h9) d_Csrs_firstOf_3 ?_
        refine va_tlen (v := 5) hx hb hF.2.2.2 hS rfl d_Csrs_firstOf_6 ?_
        refine lv_icmp_ge (tgt := 34) hx hb d_Csrs_firstOf_7 (by decide) (fun h9 => absurd h9 (by decide)) (fun _ => ?_)
        refine lv_iload_n hx hb d_Csrs_firstOf_10 rfl (lv_at hl 1 rfl) ?_
        refine va_gets hx hb hF.2.2.1 hS hown (hts _ k_240) (fun _ h9 => h9) d_Csrs_firstOf_11 ?_
        refine lv_iload_n hx hb d_Csrs_firstOf_14 rfl (lv_at hl 0 rfl) ?_
        refine va_ti (v := .int 1) hx hb hF.2.2.2 hS (by unfold vp_in; decide) rfl d_Csrs_firstOf_15 ?_
        refine y_ishr hx hb d_Csrs_firstOf_16 ?_
        refine lv_iconst (v := 1) hx hb d_Csrs_firstOf_17 rfl ?_
        refine lv_iand hx hb d_Csrs_firstOf_18 ?_
        refine lv_if_eq (tgt := 28) hx hb d_Csrs_firstOf_19 (by decide) (fun c_8 => ?_) (fun c_8 => ?_)
        · refine lv_iinc (v := 4) (lv' := [(1, .int 4), (0, .int x0)]) hx hb d_Csrs_firstOf_28 hl (k := 0) rfl rfl (by decide) rfl (fun ls hl => ?_)
          refine lv_goto (tgt := 2) hx hb d_Csrs_firstOf_31 (by decide) ?_
          refine lv_iload_n hx hb d_Csrs_firstOf_2 rfl (lv_at hl 0 rfl) ?_
          refine va_gets hx hb hF.2.2.1 hS hown (hts _ k_240) (fun _ h9 => h9) d_Csrs_firstOf_3 ?_
          refine va_tlen (v := 5) hx hb hF.2.2.2 hS rfl d_Csrs_firstOf_6 ?_
          refine lv_icmp_ge (tgt := 34) hx hb d_Csrs_firstOf_7 (by decide) (fun h9 => absurd h9 (by decide)) (fun _ => ?_)
          refine lv_iload_n hx hb d_Csrs_firstOf_10 rfl (lv_at hl 1 rfl) ?_
          refine va_gets hx hb hF.2.2.1 hS hown (hts _ k_240) (fun _ h9 => h9) d_Csrs_firstOf_11 ?_
          refine lv_iload_n hx hb d_Csrs_firstOf_14 rfl (lv_at hl 0 rfl) ?_
          refine va_ti (v := .int 5) hx hb hF.2.2.2 hS (by unfold vp_in; decide) rfl d_Csrs_firstOf_15 ?_
          refine y_ishr hx hb d_Csrs_firstOf_16 ?_
          refine lv_iconst (v := 1) hx hb d_Csrs_firstOf_17 rfl ?_
          refine lv_iand hx hb d_Csrs_firstOf_18 ?_
          refine lv_if_eq (tgt := 28) hx hb d_Csrs_firstOf_19 (by decide) (fun c_10 => ?_) (fun c_10 => ?_)
          · refine lv_iinc (v := 5) (lv' := [(1, .int 5), (0, .int x0)]) hx hb d_Csrs_firstOf_28 hl (k := 0) rfl rfl (by decide) rfl (fun ls hl => ?_)
            refine lv_goto (tgt := 2) hx hb d_Csrs_firstOf_31 (by decide) ?_
            refine lv_iload_n hx hb d_Csrs_firstOf_2 rfl (lv_at hl 0 rfl) ?_
            refine va_gets hx hb hF.2.2.1 hS hown (hts _ k_240) (fun _ h9 => h9) d_Csrs_firstOf_3 ?_
            refine va_tlen (v := 5) hx hb hF.2.2.2 hS rfl d_Csrs_firstOf_6 ?_
            refine lv_icmp_ge (tgt := 34) hx hb d_Csrs_firstOf_7 (by decide) (fun _ => ?_) (fun h9 => absurd (by decide) h9)
            refine lv_iconst (v := (-1)) hx hb d_Csrs_firstOf_34 rfl ?_
            exact ri () hx hb hr hlocks hP hD hS d_Csrs_firstOf_35 (by simp only [sp_Csrs_firstOf, if_pos c_2, if_pos c_4, if_pos c_6, if_pos c_8, if_pos c_10])
          · refine va_gets hx hb hF.2.2.1 hS hown (hts _ k_240) (fun _ h9 => h9) d_Csrs_firstOf_22 ?_
            refine lv_iload_n hx hb d_Csrs_firstOf_25 rfl (lv_at hl 0 rfl) ?_
            refine va_ti (v := .int 5) hx hb hF.2.2.2 hS (by unfold vp_in; decide) rfl d_Csrs_firstOf_26 ?_
            exact ri () hx hb hr hlocks hP hD hS d_Csrs_firstOf_27 (by simp only [sp_Csrs_firstOf, if_pos c_2, if_pos c_4, if_pos c_6, if_pos c_8, if_neg c_10])
        · refine va_gets hx hb hF.2.2.1 hS hown (hts _ k_240) (fun _ h9 => h9) d_Csrs_firstOf_22 ?_
          refine lv_iload_n hx hb d_Csrs_firstOf_25 rfl (lv_at hl 0 rfl) ?_
          refine va_ti (v := .int 1) hx hb hF.2.2.2 hS (by unfold vp_in; decide) rfl d_Csrs_firstOf_26 ?_
          exact ri () hx hb hr hlocks hP hD hS d_Csrs_firstOf_27 (by simp only [sp_Csrs_firstOf, if_pos c_2, if_pos c_4, if_pos c_6, if_neg c_8])
      · refine va_gets hx hb hF.2.2.1 hS hown (hts _ k_240) (fun _ h9 => h9) d_Csrs_firstOf_22 ?_
        refine lv_iload_n hx hb d_Csrs_firstOf_25 rfl (lv_at hl 0 rfl) ?_
        refine va_ti (v := .int 9) hx hb hF.2.2.2 hS (by unfold vp_in; decide) rfl d_Csrs_firstOf_26 ?_
        exact ri () hx hb hr hlocks hP hD hS d_Csrs_firstOf_27 (by simp only [sp_Csrs_firstOf, if_pos c_2, if_pos c_4, if_neg c_6])
    · refine va_gets hx hb hF.2.2.1 hS hown (hts _ k_240) (fun _ h9 => h9) d_Csrs_firstOf_22 ?_
      refine lv_iload_n hx hb d_Csrs_firstOf_25 rfl (lv_at hl 0 rfl) ?_
      refine va_ti (v := .int 7) hx hb hF.2.2.2 hS (by unfold vp_in; decide) rfl d_Csrs_firstOf_26 ?_
      exact ri () hx hb hr hlocks hP hD hS d_Csrs_firstOf_27 (by simp only [sp_Csrs_firstOf, if_pos c_2, if_neg c_4])
  · refine va_gets hx hb hF.2.2.1 hS hown (hts _ k_240) (fun _ h9 => h9) d_Csrs_firstOf_22 ?_
    refine lv_iload_n hx hb d_Csrs_firstOf_25 rfl (lv_at hl 0 rfl) ?_
    refine va_ti (v := .int 3) hx hb hF.2.2.2 hS (by unfold vp_in; decide) rfl d_Csrs_firstOf_26 ?_
    exact ri () hx hb hr hlocks hP hD hS d_Csrs_firstOf_27 (by simp only [sp_Csrs_firstOf, if_neg c_2])
def sp_Csrs_dueInterrupt (x0 : Int32) (x1 : Int32) (q : Nat → Int32) : Int32 :=
  if ((((q 10) ||| x1) &&& (q 4)) &&& ((q 3) ^^^ (-1))) = 0 then
    if ((((q 10) ||| x1) &&& (q 4)) &&& (q 3)) = 0 then
      (-1)
    else
      if x0 < 1 then
        sp_Csrs_firstOf ((((q 10) ||| x1) &&& (q 4)) &&& (q 3))
      else
        if x0 = 1 then
          if (sp_Csrs_has 2 q) = 0 then
            (-1)
          else
            sp_Csrs_firstOf ((((q 10) ||| x1) &&& (q 4)) &&& (q 3))
        else
          (-1)
  else
    if x0 < 3 then
      sp_Csrs_firstOf ((((q 10) ||| x1) &&& (q 4)) &&& ((q 3) ^^^ (-1)))
    else
      if (sp_Csrs_has 8 q) = 0 then
        if ((((q 10) ||| x1) &&& (q 4)) &&& (q 3)) = 0 then
          (-1)
        else
          if x0 < 1 then
            sp_Csrs_firstOf ((((q 10) ||| x1) &&& (q 4)) &&& (q 3))
          else
            if x0 = 1 then
              if (sp_Csrs_has 2 q) = 0 then
                (-1)
              else
                sp_Csrs_firstOf ((((q 10) ||| x1) &&& (q 4)) &&& (q 3))
            else
              (-1)
      else
        sp_Csrs_firstOf ((((q 10) ||| x1) &&& (q 4)) &&& ((q 3) ^^^ (-1)))
set_option maxHeartbeats 4000000 in
set_option maxRecDepth 100000 in
theorem c_Csrs_dueInterrupt {l : Launch} {D : va_G} {g : Nat → Nat} (h : Nat) (x0 : Int32) (x1 : Int32) (q : Nat → Int32)  : CT l D g y_Csrs_dueInterrupt b_Csrs_dueInterrupt 6 (some .int) (rD 1) [.ref h, .int x0, .int x1] (wC h q) ([]) (Qi D (fun (r : Int32) (_ : Unit) => sp_Csrs_dueInterrupt x0 x1 q = r) (fun _ => wC h q)) := by
  refine CT.of rfl (Nat.le_of_ble_eq_true rfl) (fun p e s m below meth c A ls hx hb hr hml hts hown hlocks hA hP hK hD hF hS hl => ?_)
  have hl : lv_has ls 6 [(0, .ref h), (1, .int x0), (2, .int x1)] := hl
  refine lv_aload_n hx hb d_Csrs_dueInterrupt_0 rfl (lv_at hl 0 rfl) ?_
  refine va_get (D := D) (ci := 3) (v := .int (q 10)) (C := R_Csrs) (T := F_Csrs) (N := 17) hx hb hts i_Csrs hown hK hP 0 rfl rfl 10 (by decide) (hts _ k_100) (fun _ h9 => h9) rfl d_Csrs_dueInterrupt_1 ?_
  refine lv_iload_n hx hb d_Csrs_dueInterrupt_4 rfl (lv_at hl 2 rfl) ?_
  refine lv_ior hx hb d_Csrs_dueInterrupt_5 ?_
  refine lv_aload_n hx hb d_Csrs_dueInterrupt_6 rfl (lv_at hl 0 rfl) ?_
  refine va_get (D := D) (ci := 3) (v := .int (q 4)) (C := R_Csrs) (T := F_Csrs) (N := 17) hx hb hts i_Csrs hown hK hP 0 rfl rfl 4 (by decide) (hts _ k_93) (fun _ h9 => h9) rfl d_Csrs_dueInterrupt_7 ?_
  refine lv_iand hx hb d_Csrs_dueInterrupt_10 ?_
  refine lv_istore_n (lv' := [(3, .int (((q 10) ||| x1) &&& (q 4))), (0, .ref h), (1, .int x0), (2, .int x1)]) hx hb d_Csrs_dueInterrupt_11 rfl hl (by decide) rfl (fun ls hl => ?_)
  refine lv_iload_n hx hb d_Csrs_dueInterrupt_12 rfl (lv_at hl 0 rfl) ?_
  refine lv_aload_n hx hb d_Csrs_dueInterrupt_13 rfl (lv_at hl 1 rfl) ?_
  refine va_get (D := D) (ci := 3) (v := .int (q 3)) (C := R_Csrs) (T := F_Csrs) (N := 17) hx hb hts i_Csrs hown hK hP 0 rfl rfl 3 (by decide) (hts _ k_92) (fun _ h9 => h9) rfl d_Csrs_dueInterrupt_14 ?_
  refine lv_iconst (v := (-1)) hx hb d_Csrs_dueInterrupt_17 rfl ?_
  refine lv_ixor hx hb d_Csrs_dueInterrupt_18 ?_
  refine lv_iand hx hb d_Csrs_dueInterrupt_19 ?_
  refine lv_istore (lv' := [(4, .int ((((q 10) ||| x1) &&& (q 4)) &&& ((q 3) ^^^ (-1)))), (3, .int (((q 10) ||| x1) &&& (q 4))), (0, .ref h), (1, .int x0), (2, .int x1)]) hx hb d_Csrs_dueInterrupt_20 hl (by decide) rfl (fun ls hl => ?_)
  refine lv_iload hx hb d_Csrs_dueInterrupt_22 (lv_at hl 0 rfl) ?_
  refine lv_if_eq (tgt := 47) hx hb d_Csrs_dueInterrupt_24 (by decide) (fun c_1 => ?_) (fun c_1 => ?_)
  · refine lv_iload_n hx hb d_Csrs_dueInterrupt_47 rfl (lv_at hl 1 rfl) ?_
    refine lv_aload_n hx hb d_Csrs_dueInterrupt_48 rfl (lv_at hl 2 rfl) ?_
    refine va_get (D := D) (ci := 3) (v := .int (q 3)) (C := R_Csrs) (T := F_Csrs) (N := 17) hx hb hts i_Csrs hown hK hP 0 rfl rfl 3 (by decide) (hts _ k_92) (fun _ h9 => h9) rfl d_Csrs_dueInterrupt_49 ?_
    refine lv_iand hx hb d_Csrs_dueInterrupt_52 ?_
    refine lv_istore (lv' := [(5, .int ((((q 10) ||| x1) &&& (q 4)) &&& (q 3))), (4, .int ((((q 10) ||| x1) &&& (q 4)) &&& ((q 3) ^^^ (-1)))), (3, .int (((q 10) ||| x1) &&& (q 4))), (0, .ref h), (1, .int x0), (2, .int x1)]) hx hb d_Csrs_dueInterrupt_53 hl (by decide) rfl (fun ls hl => ?_)
    refine lv_iload hx hb d_Csrs_dueInterrupt_55 (lv_at hl 0 rfl) ?_
    refine lv_if_eq (tgt := 84) hx hb d_Csrs_dueInterrupt_57 (by decide) (fun c_2 => ?_) (fun c_2 => ?_)
    · refine lv_iconst (v := (-1)) hx hb d_Csrs_dueInterrupt_84 rfl ?_
      exact ri () hx hb hr hlocks hP hD hS d_Csrs_dueInterrupt_85 (by simp only [sp_Csrs_dueInterrupt, if_pos c_1, if_pos c_2])
    · refine lv_iload_n hx hb d_Csrs_dueInterrupt_60 rfl (lv_at hl 4 rfl) ?_
      refine lv_iconst (v := 1) hx hb d_Csrs_dueInterrupt_61 rfl ?_
      refine lv_icmp_lt (tgt := 78) hx hb d_Csrs_dueInterrupt_62 (by decide) (fun c_3 => ?_) (fun c_3 => ?_)
      · refine lv_iload hx hb d_Csrs_dueInterrupt_78 (lv_at hl 0 rfl) ?_
        refine xi (wr := [(h, .inr (3, csF q))]) (W2 := fun _ => wC h q) (xS (rest := []) ⟨hx, hb, hml, hown, hts⟩ (c_Csrs_firstOf ((((q 10) ||| x1) &&& (q 4)) &&& (q 3))) mw_Csrs_firstOf ms_Csrs_firstOf k_237 ⟨rfl, rfl, Nat.le_of_ble_eq_true rfl, Nat.le_of_ble_eq_true rfl⟩ hK hP hD hS hA hF [] [] rfl rfl rfl rfl hl.1 rfl (Nat.le_of_ble_eq_true rfl) d_Csrs_dueInterrupt_80 ⟨Nat.zero_le _, Nat.zero_le _⟩) hP hD hS hA [] [0] [0] rfl rfl rfl (by decide) (fun _ => rfl) rfl (fun r_4 _ H locs h_4 hP hD hS => ?_)
        subst h_4
        exact ri () hx hb hr hlocks hP hD hS d_Csrs_dueInterrupt_83 (by simp only [sp_Csrs_dueInterrupt, if_pos c_1, if_neg c_2, if_pos c_3])
      · refine lv_iload_n hx hb d_Csrs_dueInterrupt_65 rfl (lv_at hl 4 rfl) ?_
        refine lv_iconst (v := 1) hx hb d_Csrs_dueInterrupt_66 rfl ?_
        refine lv_icmp_ne (tgt := 84) hx hb d_Csrs_dueInterrupt_67 (by decide) (fun c_5 => ?_) (fun c_5 => ?_)
        · refine lv_iconst (v := (-1)) hx hb d_Csrs_dueInterrupt_84 rfl ?_
          exact ri () hx hb hr hlocks hP hD hS d_Csrs_dueInterrupt_85 (by simp only [sp_Csrs_dueInterrupt, if_pos c_1, if_neg c_2, if_neg c_3, if_neg c_5])
        · refine lv_aload_n hx hb d_Csrs_dueInterrupt_70 rfl (lv_at hl 3 rfl) ?_
          refine lv_iconst (v := 2) hx hb d_Csrs_dueInterrupt_71 rfl ?_
          refine xi (wr := []) (W2 := fun _ => wC h q) (xV (rest := []) ⟨hx, hb, hml, hown, hts⟩ (c_Csrs_has h 2 q) mw_Csrs_has mv_Csrs_has k_233 ⟨rfl, rfl, Nat.le_of_ble_eq_true rfl, Nat.le_of_ble_eq_true rfl⟩ hK hP hD hS hA hF [0] [] rfl rfl rfl 0 3 rfl rfl rfl rfl hl.1 rfl (Nat.le_of_ble_eq_true rfl) d_Csrs_dueInterrupt_72 ⟨Nat.zero_le _, Nat.zero_le _⟩) hP hD hS hA [0] [] [0] rfl rfl rfl (by decide) (fun _ => rfl) rfl (fun r_6 _ H locs h_6 hP hD hS => ?_)
          obtain ⟨h_6, z_6⟩ := h_6
          subst h_6
          refine lv_if_eq (tgt := 84) hx hb d_Csrs_dueInterrupt_75 (by decide) (fun c_7 => ?_) (fun c_7 => ?_)
          · refine lv_iconst (v := (-1)) hx hb d_Csrs_dueInterrupt_84 rfl ?_
            exact ri () hx hb hr hlocks hP hD hS d_Csrs_dueInterrupt_85 (by simp only [sp_Csrs_dueInterrupt, if_pos c_1, if_neg c_2, if_neg c_3, if_pos c_5, if_pos c_7])
          · refine lv_iload hx hb d_Csrs_dueInterrupt_78 (lv_at hl 0 rfl) ?_
            refine xi (wr := [(h, .inr (3, csF q))]) (W2 := fun _ => wC h q) (xS (rest := []) ⟨hx, hb, hml, hown, hts⟩ (c_Csrs_firstOf ((((q 10) ||| x1) &&& (q 4)) &&& (q 3))) mw_Csrs_firstOf ms_Csrs_firstOf k_237 ⟨rfl, rfl, Nat.le_of_ble_eq_true rfl, Nat.le_of_ble_eq_true rfl⟩ hK hP hD hS hA hF [] [] rfl rfl rfl rfl hl.1 rfl (Nat.le_of_ble_eq_true rfl) d_Csrs_dueInterrupt_80 ⟨Nat.zero_le _, Nat.zero_le _⟩) hP hD hS hA [] [0] [0] rfl rfl rfl (by decide) (fun _ => rfl) rfl (fun r_8 _ H locs h_8 hP hD hS => ?_)
            subst h_8
            exact ri () hx hb hr hlocks hP hD hS d_Csrs_dueInterrupt_83 (by simp only [sp_Csrs_dueInterrupt, if_pos c_1, if_neg c_2, if_neg c_3, if_pos c_5, if_neg c_7])
  · refine lv_iload_n hx hb d_Csrs_dueInterrupt_27 rfl (lv_at hl 3 rfl) ?_
    refine lv_iconst (v := 3) hx hb d_Csrs_dueInterrupt_28 rfl ?_
    refine lv_icmp_lt (tgt := 41) hx hb d_Csrs_dueInterrupt_29 (by decide) (fun c_9 => ?_) (fun c_9 => ?_)
    · refine lv_iload hx hb d_Csrs_dueInterrupt_41 (lv_at hl 0 rfl) ?_
      refine xi (wr := [(h, .inr (3, csF q))]) (W2 := fun _ => wC h q) (xS (rest := []) ⟨hx, hb, hml, hown, hts⟩ (c_Csrs_firstOf ((((q 10) ||| x1) &&& (q 4)) &&& ((q 3) ^^^ (-1)))) mw_Csrs_firstOf ms_Csrs_firstOf k_237 ⟨rfl, rfl, Nat.le_of_ble_eq_true rfl, Nat.le_of_ble_eq_true rfl⟩ hK hP hD hS hA hF [] [] rfl rfl rfl rfl hl.1 rfl (Nat.le_of_ble_eq_true rfl) d_Csrs_dueInterrupt_43 ⟨Nat.zero_le _, Nat.zero_le _⟩) hP hD hS hA [] [0] [0] rfl rfl rfl (by decide) (fun _ => rfl) rfl (fun r_10 _ H locs h_10 hP hD hS => ?_)
      subst h_10
      exact ri () hx hb hr hlocks hP hD hS d_Csrs_dueInterrupt_46 (by simp only [sp_Csrs_dueInterrupt, if_neg c_1, if_pos c_9])
    · refine lv_aload_n hx hb d_Csrs_dueInterrupt_32 rfl (lv_at hl 2 rfl) ?_
      refine lv_bipush (v := 8) hx hb d_Csrs_dueInterrupt_33 rfl ?_
      refine xi (wr := []) (W2 := fun _ => wC h q) (xV (rest := []) ⟨hx, hb, hml, hown, hts⟩ (c_Csrs_has h 8 q) mw_Csrs_has mv_Csrs_has k_233 ⟨rfl, rfl, Nat.le_of_ble_eq_true rfl, Nat.le_of_ble_eq_true rfl⟩ hK hP hD hS hA hF [0] [] rfl rfl rfl 0 3 rfl rfl rfl rfl hl.1 rfl (Nat.le_of_ble_eq_true rfl) d_Csrs_dueInterrupt_35 ⟨Nat.zero_le _, Nat.zero_le _⟩) hP hD hS hA [0] [] [0] rfl rfl rfl (by decide) (fun _ => rfl) rfl (fun r_11 _ H locs h_11 hP hD hS => ?_)
      obtain ⟨h_11, z_11⟩ := h_11
      subst h_11
      refine lv_if_eq (tgt := 47) hx hb d_Csrs_dueInterrupt_38 (by decide) (fun c_12 => ?_) (fun c_12 => ?_)
      · refine lv_iload_n hx hb d_Csrs_dueInterrupt_47 rfl (lv_at hl 1 rfl) ?_
        refine lv_aload_n hx hb d_Csrs_dueInterrupt_48 rfl (lv_at hl 2 rfl) ?_
        refine va_get (D := D) (ci := 3) (v := .int (q 3)) (C := R_Csrs) (T := F_Csrs) (N := 17) hx hb hts i_Csrs hown hK hP 0 rfl rfl 3 (by decide) (hts _ k_92) (fun _ h9 => h9) rfl d_Csrs_dueInterrupt_49 ?_
        refine lv_iand hx hb d_Csrs_dueInterrupt_52 ?_
        refine lv_istore (lv' := [(5, .int ((((q 10) ||| x1) &&& (q 4)) &&& (q 3))), (4, .int ((((q 10) ||| x1) &&& (q 4)) &&& ((q 3) ^^^ (-1)))), (3, .int (((q 10) ||| x1) &&& (q 4))), (0, .ref h), (1, .int x0), (2, .int x1)]) hx hb d_Csrs_dueInterrupt_53 hl (by decide) rfl (fun ls hl => ?_)
        refine lv_iload hx hb d_Csrs_dueInterrupt_55 (lv_at hl 0 rfl) ?_
        refine lv_if_eq (tgt := 84) hx hb d_Csrs_dueInterrupt_57 (by decide) (fun c_13 => ?_) (fun c_13 => ?_)
        · refine lv_iconst (v := (-1)) hx hb d_Csrs_dueInterrupt_84 rfl ?_
          exact ri () hx hb hr hlocks hP hD hS d_Csrs_dueInterrupt_85 (by simp only [sp_Csrs_dueInterrupt, if_neg c_1, if_neg c_9, if_pos c_12, if_pos c_13])
        · refine lv_iload_n hx hb d_Csrs_dueInterrupt_60 rfl (lv_at hl 4 rfl) ?_
          refine lv_iconst (v := 1) hx hb d_Csrs_dueInterrupt_61 rfl ?_
          refine lv_icmp_lt (tgt := 78) hx hb d_Csrs_dueInterrupt_62 (by decide) (fun c_14 => ?_) (fun c_14 => ?_)
          · refine lv_iload hx hb d_Csrs_dueInterrupt_78 (lv_at hl 0 rfl) ?_
            refine xi (wr := [(h, .inr (3, csF q))]) (W2 := fun _ => wC h q) (xS (rest := []) ⟨hx, hb, hml, hown, hts⟩ (c_Csrs_firstOf ((((q 10) ||| x1) &&& (q 4)) &&& (q 3))) mw_Csrs_firstOf ms_Csrs_firstOf k_237 ⟨rfl, rfl, Nat.le_of_ble_eq_true rfl, Nat.le_of_ble_eq_true rfl⟩ hK hP hD hS hA hF [] [] rfl rfl rfl rfl hl.1 rfl (Nat.le_of_ble_eq_true rfl) d_Csrs_dueInterrupt_80 ⟨Nat.zero_le _, Nat.zero_le _⟩) hP hD hS hA [] [0] [0] rfl rfl rfl (by decide) (fun _ => rfl) rfl (fun r_15 _ H locs h_15 hP hD hS => ?_)
            subst h_15
            exact ri () hx hb hr hlocks hP hD hS d_Csrs_dueInterrupt_83 (by simp only [sp_Csrs_dueInterrupt, if_neg c_1, if_neg c_9, if_pos c_12, if_neg c_13, if_pos c_14])
          · refine lv_iload_n hx hb d_Csrs_dueInterrupt_65 rfl (lv_at hl 4 rfl) ?_
            refine lv_iconst (v := 1) hx hb d_Csrs_dueInterrupt_66 rfl ?_
            refine lv_icmp_ne (tgt := 84) hx hb d_Csrs_dueInterrupt_67 (by decide) (fun c_16 => ?_) (fun c_16 => ?_)
            · refine lv_iconst (v := (-1)) hx hb d_Csrs_dueInterrupt_84 rfl ?_
              exact ri () hx hb hr hlocks hP hD hS d_Csrs_dueInterrupt_85 (by simp only [sp_Csrs_dueInterrupt, if_neg c_1, if_neg c_9, if_pos c_12, if_neg c_13, if_neg c_14, if_neg c_16])
            · refine lv_aload_n hx hb d_Csrs_dueInterrupt_70 rfl (lv_at hl 3 rfl) ?_
              refine lv_iconst (v := 2) hx hb d_Csrs_dueInterrupt_71 rfl ?_
              refine xi (wr := []) (W2 := fun _ => wC h q) (xV (rest := []) ⟨hx, hb, hml, hown, hts⟩ (c_Csrs_has h 2 q) mw_Csrs_has mv_Csrs_has k_233 ⟨rfl, rfl, Nat.le_of_ble_eq_true rfl, Nat.le_of_ble_eq_true rfl⟩ hK hP hD hS hA hF [0] [] rfl rfl rfl 0 3 rfl rfl rfl rfl hl.1 rfl (Nat.le_of_ble_eq_true rfl) d_Csrs_dueInterrupt_72 ⟨Nat.zero_le _, Nat.zero_le _⟩) hP hD hS hA [0] [] [0] rfl rfl rfl (by decide) (fun _ => rfl) rfl (fun r_17 _ H locs h_17 hP hD hS => ?_)
              obtain ⟨h_17, z_17⟩ := h_17
              subst h_17
              refine lv_if_eq (tgt := 84) hx hb d_Csrs_dueInterrupt_75 (by decide) (fun c_18 => ?_) (fun c_18 => ?_)
              · refine lv_iconst (v := (-1)) hx hb d_Csrs_dueInterrupt_84 rfl ?_
                exact ri () hx hb hr hlocks hP hD hS d_Csrs_dueInterrupt_85 (by simp only [sp_Csrs_dueInterrupt, if_neg c_1, if_neg c_9, if_pos c_12, if_neg c_13, if_neg c_14, if_pos c_16, if_pos c_18])
              · refine lv_iload hx hb d_Csrs_dueInterrupt_78 (lv_at hl 0 rfl) ?_
                refine xi (wr := [(h, .inr (3, csF q))]) (W2 := fun _ => wC h q) (xS (rest := []) ⟨hx, hb, hml, hown, hts⟩ (c_Csrs_firstOf ((((q 10) ||| x1) &&& (q 4)) &&& (q 3))) mw_Csrs_firstOf ms_Csrs_firstOf k_237 ⟨rfl, rfl, Nat.le_of_ble_eq_true rfl, Nat.le_of_ble_eq_true rfl⟩ hK hP hD hS hA hF [] [] rfl rfl rfl rfl hl.1 rfl (Nat.le_of_ble_eq_true rfl) d_Csrs_dueInterrupt_80 ⟨Nat.zero_le _, Nat.zero_le _⟩) hP hD hS hA [] [0] [0] rfl rfl rfl (by decide) (fun _ => rfl) rfl (fun r_19 _ H locs h_19 hP hD hS => ?_)
                subst h_19
                exact ri () hx hb hr hlocks hP hD hS d_Csrs_dueInterrupt_83 (by simp only [sp_Csrs_dueInterrupt, if_neg c_1, if_neg c_9, if_pos c_12, if_neg c_13, if_neg c_14, if_pos c_16, if_neg c_18])
      · refine lv_iload hx hb d_Csrs_dueInterrupt_41 (lv_at hl 0 rfl) ?_
        refine xi (wr := [(h, .inr (3, csF q))]) (W2 := fun _ => wC h q) (xS (rest := []) ⟨hx, hb, hml, hown, hts⟩ (c_Csrs_firstOf ((((q 10) ||| x1) &&& (q 4)) &&& ((q 3) ^^^ (-1)))) mw_Csrs_firstOf ms_Csrs_firstOf k_237 ⟨rfl, rfl, Nat.le_of_ble_eq_true rfl, Nat.le_of_ble_eq_true rfl⟩ hK hP hD hS hA hF [] [] rfl rfl rfl rfl hl.1 rfl (Nat.le_of_ble_eq_true rfl) d_Csrs_dueInterrupt_43 ⟨Nat.zero_le _, Nat.zero_le _⟩) hP hD hS hA [] [0] [0] rfl rfl rfl (by decide) (fun _ => rfl) rfl (fun r_20 _ H locs h_20 hP hD hS => ?_)
        subst h_20
        exact ri () hx hb hr hlocks hP hD hS d_Csrs_dueInterrupt_46 (by simp only [sp_Csrs_dueInterrupt, if_neg c_1, if_neg c_9, if_neg c_12])
def sp_Csrs_handsDownInterrupt (x0 : Int32) (q : Nat → Int32) : Int32 :=
  if ((shr (q 3) x0) &&& 1) = 0 then
    0
  else
    1
set_option maxHeartbeats 4000000 in
set_option maxRecDepth 100000 in
theorem c_Csrs_handsDownInterrupt {l : Launch} {D : va_G} {g : Nat → Nat} (h : Nat) (x0 : Int32) (q : Nat → Int32)  : CT l D g y_Csrs_handsDownInterrupt b_Csrs_handsDownInterrupt 2 (some .boolean) (rD 0) [.ref h, .int x0] (wC h q) ([]) (Qi D (fun (r : Int32) (_ : Unit) => sp_Csrs_handsDownInterrupt x0 q = r ∧ (r = 0 ∨ r = 1)) (fun _ => wC h q)) := by
  refine CT.of rfl (Nat.le_of_ble_eq_true rfl) (fun p e s m below meth c A ls hx hb hr hml hts hown hlocks hA hP hK hD hF hS hl => ?_)
  have hl : lv_has ls 2 [(0, .ref h), (1, .int x0)] := hl
  refine lv_aload_n hx hb d_Csrs_handsDownInterrupt_0 rfl (lv_at hl 0 rfl) ?_
  refine va_get (D := D) (ci := 3) (v := .int (q 3)) (C := R_Csrs) (T := F_Csrs) (N := 17) hx hb hts i_Csrs hown hK hP 0 rfl rfl 3 (by decide) (hts _ k_92) (fun _ h9 => h9) rfl d_Csrs_handsDownInterrupt_1 ?_
  refine lv_iload_n hx hb d_Csrs_handsDownInterrupt_4 rfl (lv_at hl 1 rfl) ?_
  refine y_ishr hx hb d_Csrs_handsDownInterrupt_5 ?_
  refine lv_iconst (v := 1) hx hb d_Csrs_handsDownInterrupt_6 rfl ?_
  refine lv_iand hx hb d_Csrs_handsDownInterrupt_7 ?_
  refine lv_if_eq (tgt := 15) hx hb d_Csrs_handsDownInterrupt_8 (by decide) (fun c_1 => ?_) (fun c_1 => ?_)
  · refine lv_iconst (v := 0) hx hb d_Csrs_handsDownInterrupt_15 rfl ?_
    exact rz () hx hb hr hlocks rfl hP hD hS d_Csrs_handsDownInterrupt_16 ⟨by simp only [sp_Csrs_handsDownInterrupt, if_pos c_1], Or.inl rfl⟩
  · refine lv_iconst (v := 1) hx hb d_Csrs_handsDownInterrupt_11 rfl ?_
    refine lv_goto (tgt := 16) hx hb d_Csrs_handsDownInterrupt_12 (by decide) ?_
    exact rz () hx hb hr hlocks rfl hP hD hS d_Csrs_handsDownInterrupt_16 ⟨by simp only [sp_Csrs_handsDownInterrupt, if_neg c_1], Or.inr rfl⟩
def sp_Csrs_enterSupervisor (x0 : Int32) (x1 : Int32) (x2 : Int32) (x3 : Int32) (q : Nat → Int32) : Int32 × (Nat → Int32) :=
  if (sp_Csrs_has 2 (upd (upd (upd q 12 x0) 14 x1) 15 x2)) = 0 then
    if x3 = 1 then
      (q 11, (upd (upd (upd (upd q 12 x0) 14 x1) 15 x2) 1 ((((q 1) &&& (-291)) ||| 0) ||| 256)))
    else
      (q 11, (upd (upd (upd (upd q 12 x0) 14 x1) 15 x2) 1 ((((q 1) &&& (-291)) ||| 0) ||| 0)))
  else
    if x3 = 1 then
      (q 11, (upd (upd (upd (upd q 12 x0) 14 x1) 15 x2) 1 ((((q 1) &&& (-291)) ||| 32) ||| 256)))
    else
      (q 11, (upd (upd (upd (upd q 12 x0) 14 x1) 15 x2) 1 ((((q 1) &&& (-291)) ||| 32) ||| 0)))
set_option maxHeartbeats 4000000 in
set_option maxRecDepth 100000 in
theorem c_Csrs_enterSupervisor {l : Launch} {D : va_G} {g : Nat → Nat} (h : Nat) (x0 : Int32) (x1 : Int32) (x2 : Int32) (x3 : Int32) (q : Nat → Int32)  : CT l D g y_Csrs_enterSupervisor b_Csrs_enterSupervisor 7 (some .int) (rD 1) [.ref h, .int x0, .int x1, .int x2, .int x3] (wC h q) ([]) (Qi D (fun (r : Int32) (u : Nat → Int32) => sp_Csrs_enterSupervisor x0 x1 x2 x3 q = (r, u)) (fun u => wC h u)) := by
  refine CT.of rfl (Nat.le_of_ble_eq_true rfl) (fun p e s m below meth c A ls hx hb hr hml hts hown hlocks hA hP hK hD hF hS hl => ?_)
  have hl : lv_has ls 7 [(0, .ref h), (1, .int x0), (2, .int x1), (3, .int x2), (4, .int x3)] := hl
  refine lv_aload_n hx hb d_Csrs_enterSupervisor_0 rfl (lv_at hl 0 rfl) ?_
  refine lv_iload_n hx hb d_Csrs_enterSupervisor_1 rfl (lv_at hl 1 rfl) ?_
  refine y_put (D := D) (ci := 3) (v := .int x0) (ty := .int) (C := R_Csrs) (T := F_Csrs) (N := 17) (ws' := wC h (upd q 12 x0)) hx hb hts i_Csrs t_Csrs t_Csrs_ok n_Csrs hown hK hP hD hS 0 rfl rfl 12 (by decide) (hts _ k_102) (fun _ h9 => h9) rfl (by decide +kernel) rfl rfl (Nat.le_of_ble_eq_true rfl) d_Csrs_enterSupervisor_2 rfl (fun H locs hP hD hS => ?_)
  refine lv_aload_n hx hb d_Csrs_enterSupervisor_5 rfl (lv_at hl 0 rfl) ?_
  refine lv_iload_n hx hb d_Csrs_enterSupervisor_6 rfl (lv_at hl 2 rfl) ?_
  refine y_put (D := D) (ci := 3) (v := .int x1) (ty := .int) (C := R_Csrs) (T := F_Csrs) (N := 17) (ws' := wC h (upd (upd q 12 x0) 14 x1)) hx hb hts i_Csrs t_Csrs t_Csrs_ok n_Csrs hown hK hP hD hS 0 rfl rfl 14 (by decide) (hts _ k_105) (fun _ h9 => h9) rfl (by decide +kernel) rfl rfl (Nat.le_of_ble_eq_true rfl) d_Csrs_enterSupervisor_7 rfl (fun H locs hP hD hS => ?_)
  refine lv_aload_n hx hb d_Csrs_enterSupervisor_10 rfl (lv_at hl 0 rfl) ?_
  refine lv_iload_n hx hb d_Csrs_enterSupervisor_11 rfl (lv_at hl 3 rfl) ?_
  refine y_put (D := D) (ci := 3) (v := .int x2) (ty := .int) (C := R_Csrs) (T := F_Csrs) (N := 17) (ws' := wC h (upd (upd (upd q 12 x0) 14 x1) 15 x2)) hx hb hts i_Csrs t_Csrs t_Csrs_ok n_Csrs hown hK hP hD hS 0 rfl rfl 15 (by decide) (hts _ k_106) (fun _ h9 => h9) rfl (by decide +kernel) rfl rfl (Nat.le_of_ble_eq_true rfl) d_Csrs_enterSupervisor_12 rfl (fun H locs hP hD hS => ?_)
  refine lv_aload_n hx hb d_Csrs_enterSupervisor_15 rfl (lv_at hl 0 rfl) ?_
  refine lv_iconst (v := 2) hx hb d_Csrs_enterSupervisor_16 rfl ?_
  refine xi (wr := []) (W2 := fun _ => wC h (upd (upd (upd q 12 x0) 14 x1) 15 x2)) (xV (rest := []) ⟨hx, hb, hml, hown, hts⟩ (c_Csrs_has h 2 (upd (upd (upd q 12 x0) 14 x1) 15 x2)) mw_Csrs_has mv_Csrs_has k_233 ⟨rfl, rfl, Nat.le_of_ble_eq_true rfl, Nat.le_of_ble_eq_true rfl⟩ hK hP hD hS hA hF [0] [] rfl rfl rfl 0 3 rfl rfl rfl rfl hl.1 rfl (Nat.le_of_ble_eq_true rfl) d_Csrs_enterSupervisor_17 ⟨Nat.zero_le _, Nat.zero_le _⟩) hP hD hS hA [0] [] [0] rfl rfl rfl (by decide) (fun _ => rfl) rfl (fun r_1 _ H locs h_1 hP hD hS => ?_)
  obtain ⟨h_1, z_1⟩ := h_1
  subst h_1
  refine lv_if_eq (tgt := 28) hx hb d_Csrs_enterSupervisor_20 (by decide) (fun c_2 => ?_) (fun c_2 => ?_)
  · refine lv_iconst (v := 0) hx hb d_Csrs_enterSupervisor_28 rfl ?_
    refine lv_istore (lv' := [(5, .int 0), (0, .ref h), (1, .int x0), (2, .int x1), (3, .int x2), (4, .int x3)]) hx hb d_Csrs_enterSupervisor_29 hl (by decide) rfl (fun ls hl => ?_)
    refine lv_iload hx hb d_Csrs_enterSupervisor_31 (lv_at hl 5 rfl) ?_
    refine lv_iconst (v := 1) hx hb d_Csrs_enterSupervisor_33 rfl ?_
    refine lv_icmp_ne (tgt := 43) hx hb d_Csrs_enterSupervisor_34 (by decide) (fun c_3 => ?_) (fun c_3 => ?_)
    · refine lv_iconst (v := 0) hx hb d_Csrs_enterSupervisor_43 rfl ?_
      refine lv_istore (lv' := [(6, .int 0), (5, .int 0), (0, .ref h), (1, .int x0), (2, .int x1), (3, .int x2), (4, .int x3)]) hx hb d_Csrs_enterSupervisor_44 hl (by decide) rfl (fun ls hl => ?_)
      refine lv_aload_n hx hb d_Csrs_enterSupervisor_46 rfl (lv_at hl 2 rfl) ?_
      refine lv_aload_n hx hb d_Csrs_enterSupervisor_47 rfl (lv_at hl 2 rfl) ?_
      refine va_get (D := D) (ci := 3) (v := .int (q 1)) (C := R_Csrs) (T := F_Csrs) (N := 17) hx hb hts i_Csrs hown hK hP 0 rfl rfl 1 (by decide) (hts _ k_89) (fun _ h9 => h9) rfl d_Csrs_enterSupervisor_48 ?_
      refine lv_sipush (v := (-291)) hx hb d_Csrs_enterSupervisor_51 rfl ?_
      refine lv_iand hx hb d_Csrs_enterSupervisor_54 ?_
      refine lv_iload hx hb d_Csrs_enterSupervisor_55 (lv_at hl 1 rfl) ?_
      refine lv_ior hx hb d_Csrs_enterSupervisor_57 ?_
      refine lv_iload hx hb d_Csrs_enterSupervisor_58 (lv_at hl 0 rfl) ?_
      refine lv_ior hx hb d_Csrs_enterSupervisor_60 ?_
      refine y_put (D := D) (ci := 3) (v := .int ((((q 1) &&& (-291)) ||| 0) ||| 0)) (ty := .int) (C := R_Csrs) (T := F_Csrs) (N := 17) (ws' := wC h (upd (upd (upd (upd q 12 x0) 14 x1) 15 x2) 1 ((((q 1) &&& (-291)) ||| 0) ||| 0))) hx hb hts i_Csrs t_Csrs t_Csrs_ok n_Csrs hown hK hP hD hS 0 rfl rfl 1 (by decide) (hts _ k_89) (fun _ h9 => h9) rfl (by decide +kernel) rfl rfl (Nat.le_of_ble_eq_true rfl) d_Csrs_enterSupervisor_61 rfl (fun H locs hP hD hS => ?_)
      refine lv_aload_n hx hb d_Csrs_enterSupervisor_64 rfl (lv_at hl 2 rfl) ?_
      refine va_get (D := D) (ci := 3) (v := .int (q 11)) (C := R_Csrs) (T := F_Csrs) (N := 17) hx hb hts i_Csrs hown hK hP 0 rfl rfl 11 (by decide) (hts _ k_101) (fun _ h9 => h9) rfl d_Csrs_enterSupervisor_65 ?_
      exact ri (upd (upd (upd (upd q 12 x0) 14 x1) 15 x2) 1 ((((q 1) &&& (-291)) ||| 0) ||| 0)) hx hb hr hlocks hP hD hS d_Csrs_enterSupervisor_68 (by simp only [sp_Csrs_enterSupervisor, if_pos c_2, if_neg c_3])
    · refine lv_sipush (v := 256) hx hb d_Csrs_enterSupervisor_37 rfl ?_
      refine lv_goto (tgt := 44) hx hb d_Csrs_enterSupervisor_40 (by decide) ?_
      refine lv_istore (lv' := [(6, .int 256), (5, .int 0), (0, .ref h), (1, .int x0), (2, .int x1), (3, .int x2), (4, .int x3)]) hx hb d_Csrs_enterSupervisor_44 hl (by decide) rfl (fun ls hl => ?_)
      refine lv_aload_n hx hb d_Csrs_enterSupervisor_46 rfl (lv_at hl 2 rfl) ?_
      refine lv_aload_n hx hb d_Csrs_enterSupervisor_47 rfl (lv_at hl 2 rfl) ?_
      refine va_get (D := D) (ci := 3) (v := .int (q 1)) (C := R_Csrs) (T := F_Csrs) (N := 17) hx hb hts i_Csrs hown hK hP 0 rfl rfl 1 (by decide) (hts _ k_89) (fun _ h9 => h9) rfl d_Csrs_enterSupervisor_48 ?_
      refine lv_sipush (v := (-291)) hx hb d_Csrs_enterSupervisor_51 rfl ?_
      refine lv_iand hx hb d_Csrs_enterSupervisor_54 ?_
      refine lv_iload hx hb d_Csrs_enterSupervisor_55 (lv_at hl 1 rfl) ?_
      refine lv_ior hx hb d_Csrs_enterSupervisor_57 ?_
      refine lv_iload hx hb d_Csrs_enterSupervisor_58 (lv_at hl 0 rfl) ?_
      refine lv_ior hx hb d_Csrs_enterSupervisor_60 ?_
      refine y_put (D := D) (ci := 3) (v := .int ((((q 1) &&& (-291)) ||| 0) ||| 256)) (ty := .int) (C := R_Csrs) (T := F_Csrs) (N := 17) (ws' := wC h (upd (upd (upd (upd q 12 x0) 14 x1) 15 x2) 1 ((((q 1) &&& (-291)) ||| 0) ||| 256))) hx hb hts i_Csrs t_Csrs t_Csrs_ok n_Csrs hown hK hP hD hS 0 rfl rfl 1 (by decide) (hts _ k_89) (fun _ h9 => h9) rfl (by decide +kernel) rfl rfl (Nat.le_of_ble_eq_true rfl) d_Csrs_enterSupervisor_61 rfl (fun H locs hP hD hS => ?_)
      refine lv_aload_n hx hb d_Csrs_enterSupervisor_64 rfl (lv_at hl 2 rfl) ?_
      refine va_get (D := D) (ci := 3) (v := .int (q 11)) (C := R_Csrs) (T := F_Csrs) (N := 17) hx hb hts i_Csrs hown hK hP 0 rfl rfl 11 (by decide) (hts _ k_101) (fun _ h9 => h9) rfl d_Csrs_enterSupervisor_65 ?_
      exact ri (upd (upd (upd (upd q 12 x0) 14 x1) 15 x2) 1 ((((q 1) &&& (-291)) ||| 0) ||| 256)) hx hb hr hlocks hP hD hS d_Csrs_enterSupervisor_68 (by simp only [sp_Csrs_enterSupervisor, if_pos c_2, if_pos c_3])
  · refine lv_bipush (v := 32) hx hb d_Csrs_enterSupervisor_23 rfl ?_
    refine lv_goto (tgt := 29) hx hb d_Csrs_enterSupervisor_25 (by decide) ?_
    refine lv_istore (lv' := [(5, .int 32), (0, .ref h), (1, .int x0), (2, .int x1), (3, .int x2), (4, .int x3)]) hx hb d_Csrs_enterSupervisor_29 hl (by decide) rfl (fun ls hl => ?_)
    refine lv_iload hx hb d_Csrs_enterSupervisor_31 (lv_at hl 5 rfl) ?_
    refine lv_iconst (v := 1) hx hb d_Csrs_enterSupervisor_33 rfl ?_
    refine lv_icmp_ne (tgt := 43) hx hb d_Csrs_enterSupervisor_34 (by decide) (fun c_4 => ?_) (fun c_4 => ?_)
    · refine lv_iconst (v := 0) hx hb d_Csrs_enterSupervisor_43 rfl ?_
      refine lv_istore (lv' := [(6, .int 0), (5, .int 32), (0, .ref h), (1, .int x0), (2, .int x1), (3, .int x2), (4, .int x3)]) hx hb d_Csrs_enterSupervisor_44 hl (by decide) rfl (fun ls hl => ?_)
      refine lv_aload_n hx hb d_Csrs_enterSupervisor_46 rfl (lv_at hl 2 rfl) ?_
      refine lv_aload_n hx hb d_Csrs_enterSupervisor_47 rfl (lv_at hl 2 rfl) ?_
      refine va_get (D := D) (ci := 3) (v := .int (q 1)) (C := R_Csrs) (T := F_Csrs) (N := 17) hx hb hts i_Csrs hown hK hP 0 rfl rfl 1 (by decide) (hts _ k_89) (fun _ h9 => h9) rfl d_Csrs_enterSupervisor_48 ?_
      refine lv_sipush (v := (-291)) hx hb d_Csrs_enterSupervisor_51 rfl ?_
      refine lv_iand hx hb d_Csrs_enterSupervisor_54 ?_
      refine lv_iload hx hb d_Csrs_enterSupervisor_55 (lv_at hl 1 rfl) ?_
      refine lv_ior hx hb d_Csrs_enterSupervisor_57 ?_
      refine lv_iload hx hb d_Csrs_enterSupervisor_58 (lv_at hl 0 rfl) ?_
      refine lv_ior hx hb d_Csrs_enterSupervisor_60 ?_
      refine y_put (D := D) (ci := 3) (v := .int ((((q 1) &&& (-291)) ||| 32) ||| 0)) (ty := .int) (C := R_Csrs) (T := F_Csrs) (N := 17) (ws' := wC h (upd (upd (upd (upd q 12 x0) 14 x1) 15 x2) 1 ((((q 1) &&& (-291)) ||| 32) ||| 0))) hx hb hts i_Csrs t_Csrs t_Csrs_ok n_Csrs hown hK hP hD hS 0 rfl rfl 1 (by decide) (hts _ k_89) (fun _ h9 => h9) rfl (by decide +kernel) rfl rfl (Nat.le_of_ble_eq_true rfl) d_Csrs_enterSupervisor_61 rfl (fun H locs hP hD hS => ?_)
      refine lv_aload_n hx hb d_Csrs_enterSupervisor_64 rfl (lv_at hl 2 rfl) ?_
      refine va_get (D := D) (ci := 3) (v := .int (q 11)) (C := R_Csrs) (T := F_Csrs) (N := 17) hx hb hts i_Csrs hown hK hP 0 rfl rfl 11 (by decide) (hts _ k_101) (fun _ h9 => h9) rfl d_Csrs_enterSupervisor_65 ?_
      exact ri (upd (upd (upd (upd q 12 x0) 14 x1) 15 x2) 1 ((((q 1) &&& (-291)) ||| 32) ||| 0)) hx hb hr hlocks hP hD hS d_Csrs_enterSupervisor_68 (by simp only [sp_Csrs_enterSupervisor, if_neg c_2, if_neg c_4])
    · refine lv_sipush (v := 256) hx hb d_Csrs_enterSupervisor_37 rfl ?_
      refine lv_goto (tgt := 44) hx hb d_Csrs_enterSupervisor_40 (by decide) ?_
      refine lv_istore (lv' := [(6, .int 256), (5, .int 32), (0, .ref h), (1, .int x0), (2, .int x1), (3, .int x2), (4, .int x3)]) hx hb d_Csrs_enterSupervisor_44 hl (by decide) rfl (fun ls hl => ?_)
      refine lv_aload_n hx hb d_Csrs_enterSupervisor_46 rfl (lv_at hl 2 rfl) ?_
      refine lv_aload_n hx hb d_Csrs_enterSupervisor_47 rfl (lv_at hl 2 rfl) ?_
      refine va_get (D := D) (ci := 3) (v := .int (q 1)) (C := R_Csrs) (T := F_Csrs) (N := 17) hx hb hts i_Csrs hown hK hP 0 rfl rfl 1 (by decide) (hts _ k_89) (fun _ h9 => h9) rfl d_Csrs_enterSupervisor_48 ?_
      refine lv_sipush (v := (-291)) hx hb d_Csrs_enterSupervisor_51 rfl ?_
      refine lv_iand hx hb d_Csrs_enterSupervisor_54 ?_
      refine lv_iload hx hb d_Csrs_enterSupervisor_55 (lv_at hl 1 rfl) ?_
      refine lv_ior hx hb d_Csrs_enterSupervisor_57 ?_
      refine lv_iload hx hb d_Csrs_enterSupervisor_58 (lv_at hl 0 rfl) ?_
      refine lv_ior hx hb d_Csrs_enterSupervisor_60 ?_
      refine y_put (D := D) (ci := 3) (v := .int ((((q 1) &&& (-291)) ||| 32) ||| 256)) (ty := .int) (C := R_Csrs) (T := F_Csrs) (N := 17) (ws' := wC h (upd (upd (upd (upd q 12 x0) 14 x1) 15 x2) 1 ((((q 1) &&& (-291)) ||| 32) ||| 256))) hx hb hts i_Csrs t_Csrs t_Csrs_ok n_Csrs hown hK hP hD hS 0 rfl rfl 1 (by decide) (hts _ k_89) (fun _ h9 => h9) rfl (by decide +kernel) rfl rfl (Nat.le_of_ble_eq_true rfl) d_Csrs_enterSupervisor_61 rfl (fun H locs hP hD hS => ?_)
      refine lv_aload_n hx hb d_Csrs_enterSupervisor_64 rfl (lv_at hl 2 rfl) ?_
      refine va_get (D := D) (ci := 3) (v := .int (q 11)) (C := R_Csrs) (T := F_Csrs) (N := 17) hx hb hts i_Csrs hown hK hP 0 rfl rfl 11 (by decide) (hts _ k_101) (fun _ h9 => h9) rfl d_Csrs_enterSupervisor_65 ?_
      exact ri (upd (upd (upd (upd q 12 x0) 14 x1) 15 x2) 1 ((((q 1) &&& (-291)) ||| 32) ||| 256)) hx hb hr hlocks hP hD hS d_Csrs_enterSupervisor_68 (by simp only [sp_Csrs_enterSupervisor, if_neg c_2, if_pos c_4])
def sp_Csrs_enterMachine (x0 : Int32) (x1 : Int32) (x2 : Int32) (x3 : Int32) (q : Nat → Int32) : Int32 × (Nat → Int32) :=
  if (sp_Csrs_has 8 (upd (upd (upd q 6 x0) 8 x1) 9 x2)) = 0 then
    (q 5, (upd (upd (upd (upd q 6 x0) 8 x1) 9 x2) 1 ((((q 1) &&& (-6281)) ||| 0) ||| (shl x3 11))))
  else
    (q 5, (upd (upd (upd (upd q 6 x0) 8 x1) 9 x2) 1 ((((q 1) &&& (-6281)) ||| 128) ||| (shl x3 11))))
set_option maxHeartbeats 4000000 in
set_option maxRecDepth 100000 in
theorem c_Csrs_enterMachine {l : Launch} {D : va_G} {g : Nat → Nat} (h : Nat) (x0 : Int32) (x1 : Int32) (x2 : Int32) (x3 : Int32) (q : Nat → Int32)  : CT l D g y_Csrs_enterMachine b_Csrs_enterMachine 6 (some .int) (rD 1) [.ref h, .int x0, .int x1, .int x2, .int x3] (wC h q) ([]) (Qi D (fun (r : Int32) (u : Nat → Int32) => sp_Csrs_enterMachine x0 x1 x2 x3 q = (r, u)) (fun u => wC h u)) := by
  refine CT.of rfl (Nat.le_of_ble_eq_true rfl) (fun p e s m below meth c A ls hx hb hr hml hts hown hlocks hA hP hK hD hF hS hl => ?_)
  have hl : lv_has ls 6 [(0, .ref h), (1, .int x0), (2, .int x1), (3, .int x2), (4, .int x3)] := hl
  refine lv_aload_n hx hb d_Csrs_enterMachine_0 rfl (lv_at hl 0 rfl) ?_
  refine lv_iload_n hx hb d_Csrs_enterMachine_1 rfl (lv_at hl 1 rfl) ?_
  refine y_put (D := D) (ci := 3) (v := .int x0) (ty := .int) (C := R_Csrs) (T := F_Csrs) (N := 17) (ws' := wC h (upd q 6 x0)) hx hb hts i_Csrs t_Csrs t_Csrs_ok n_Csrs hown hK hP hD hS 0 rfl rfl 6 (by decide) (hts _ k_95) (fun _ h9 => h9) rfl (by decide +kernel) rfl rfl (Nat.le_of_ble_eq_true rfl) d_Csrs_enterMachine_2 rfl (fun H locs hP hD hS => ?_)
  refine lv_aload_n hx hb d_Csrs_enterMachine_5 rfl (lv_at hl 0 rfl) ?_
  refine lv_iload_n hx hb d_Csrs_enterMachine_6 rfl (lv_at hl 2 rfl) ?_
  refine y_put (D := D) (ci := 3) (v := .int x1) (ty := .int) (C := R_Csrs) (T := F_Csrs) (N := 17) (ws' := wC h (upd (upd q 6 x0) 8 x1)) hx hb hts i_Csrs t_Csrs t_Csrs_ok n_Csrs hown hK hP hD hS 0 rfl rfl 8 (by decide) (hts _ k_98) (fun _ h9 => h9) rfl (by decide +kernel) rfl rfl (Nat.le_of_ble_eq_true rfl) d_Csrs_enterMachine_7 rfl (fun H locs hP hD hS => ?_)
  refine lv_aload_n hx hb d_Csrs_enterMachine_10 rfl (lv_at hl 0 rfl) ?_
  refine lv_iload_n hx hb d_Csrs_enterMachine_11 rfl (lv_at hl 3 rfl) ?_
  refine y_put (D := D) (ci := 3) (v := .int x2) (ty := .int) (C := R_Csrs) (T := F_Csrs) (N := 17) (ws' := wC h (upd (upd (upd q 6 x0) 8 x1) 9 x2)) hx hb hts i_Csrs t_Csrs t_Csrs_ok n_Csrs hown hK hP hD hS 0 rfl rfl 9 (by decide) (hts _ k_99) (fun _ h9 => h9) rfl (by decide +kernel) rfl rfl (Nat.le_of_ble_eq_true rfl) d_Csrs_enterMachine_12 rfl (fun H locs hP hD hS => ?_)
  refine lv_aload_n hx hb d_Csrs_enterMachine_15 rfl (lv_at hl 0 rfl) ?_
  refine lv_bipush (v := 8) hx hb d_Csrs_enterMachine_16 rfl ?_
  refine xi (wr := []) (W2 := fun _ => wC h (upd (upd (upd q 6 x0) 8 x1) 9 x2)) (xV (rest := []) ⟨hx, hb, hml, hown, hts⟩ (c_Csrs_has h 8 (upd (upd (upd q 6 x0) 8 x1) 9 x2)) mw_Csrs_has mv_Csrs_has k_233 ⟨rfl, rfl, Nat.le_of_ble_eq_true rfl, Nat.le_of_ble_eq_true rfl⟩ hK hP hD hS hA hF [0] [] rfl rfl rfl 0 3 rfl rfl rfl rfl hl.1 rfl (Nat.le_of_ble_eq_true rfl) d_Csrs_enterMachine_18 ⟨Nat.zero_le _, Nat.zero_le _⟩) hP hD hS hA [0] [] [0] rfl rfl rfl (by decide) (fun _ => rfl) rfl (fun r_1 _ H locs h_1 hP hD hS => ?_)
  obtain ⟨h_1, z_1⟩ := h_1
  subst h_1
  refine lv_if_eq (tgt := 30) hx hb d_Csrs_enterMachine_21 (by decide) (fun c_2 => ?_) (fun c_2 => ?_)
  · refine lv_iconst (v := 0) hx hb d_Csrs_enterMachine_30 rfl ?_
    refine lv_istore (lv' := [(5, .int 0), (0, .ref h), (1, .int x0), (2, .int x1), (3, .int x2), (4, .int x3)]) hx hb d_Csrs_enterMachine_31 hl (by decide) rfl (fun ls hl => ?_)
    refine lv_aload_n hx hb d_Csrs_enterMachine_33 rfl (lv_at hl 1 rfl) ?_
    refine lv_aload_n hx hb d_Csrs_enterMachine_34 rfl (lv_at hl 1 rfl) ?_
    refine va_get (D := D) (ci := 3) (v := .int (q 1)) (C := R_Csrs) (T := F_Csrs) (N := 17) hx hb hts i_Csrs hown hK hP 0 rfl rfl 1 (by decide) (hts _ k_89) (fun _ h9 => h9) rfl d_Csrs_enterMachine_35 ?_
    refine lv_sipush (v := (-6281)) hx hb d_Csrs_enterMachine_38 rfl ?_
    refine lv_iand hx hb d_Csrs_enterMachine_41 ?_
    refine lv_iload hx hb d_Csrs_enterMachine_42 (lv_at hl 0 rfl) ?_
    refine lv_ior hx hb d_Csrs_enterMachine_44 ?_
    refine lv_iload hx hb d_Csrs_enterMachine_45 (lv_at hl 5 rfl) ?_
    refine lv_bipush (v := 11) hx hb d_Csrs_enterMachine_47 rfl ?_
    refine y_ishl hx hb d_Csrs_enterMachine_49 ?_
    refine lv_ior hx hb d_Csrs_enterMachine_50 ?_
    refine y_put (D := D) (ci := 3) (v := .int ((((q 1) &&& (-6281)) ||| 0) ||| (shl x3 11))) (ty := .int) (C := R_Csrs) (T := F_Csrs) (N := 17) (ws' := wC h (upd (upd (upd (upd q 6 x0) 8 x1) 9 x2) 1 ((((q 1) &&& (-6281)) ||| 0) ||| (shl x3 11)))) hx hb hts i_Csrs t_Csrs t_Csrs_ok n_Csrs hown hK hP hD hS 0 rfl rfl 1 (by decide) (hts _ k_89) (fun _ h9 => h9) rfl (by decide +kernel) rfl rfl (Nat.le_of_ble_eq_true rfl) d_Csrs_enterMachine_51 rfl (fun H locs hP hD hS => ?_)
    refine lv_aload_n hx hb d_Csrs_enterMachine_54 rfl (lv_at hl 1 rfl) ?_
    refine va_get (D := D) (ci := 3) (v := .int (q 5)) (C := R_Csrs) (T := F_Csrs) (N := 17) hx hb hts i_Csrs hown hK hP 0 rfl rfl 5 (by decide) (hts _ k_94) (fun _ h9 => h9) rfl d_Csrs_enterMachine_55 ?_
    exact ri (upd (upd (upd (upd q 6 x0) 8 x1) 9 x2) 1 ((((q 1) &&& (-6281)) ||| 0) ||| (shl x3 11))) hx hb hr hlocks hP hD hS d_Csrs_enterMachine_58 (by simp only [sp_Csrs_enterMachine, if_pos c_2])
  · refine lv_sipush (v := 128) hx hb d_Csrs_enterMachine_24 rfl ?_
    refine lv_goto (tgt := 31) hx hb d_Csrs_enterMachine_27 (by decide) ?_
    refine lv_istore (lv' := [(5, .int 128), (0, .ref h), (1, .int x0), (2, .int x1), (3, .int x2), (4, .int x3)]) hx hb d_Csrs_enterMachine_31 hl (by decide) rfl (fun ls hl => ?_)
    refine lv_aload_n hx hb d_Csrs_enterMachine_33 rfl (lv_at hl 1 rfl) ?_
    refine lv_aload_n hx hb d_Csrs_enterMachine_34 rfl (lv_at hl 1 rfl) ?_
    refine va_get (D := D) (ci := 3) (v := .int (q 1)) (C := R_Csrs) (T := F_Csrs) (N := 17) hx hb hts i_Csrs hown hK hP 0 rfl rfl 1 (by decide) (hts _ k_89) (fun _ h9 => h9) rfl d_Csrs_enterMachine_35 ?_
    refine lv_sipush (v := (-6281)) hx hb d_Csrs_enterMachine_38 rfl ?_
    refine lv_iand hx hb d_Csrs_enterMachine_41 ?_
    refine lv_iload hx hb d_Csrs_enterMachine_42 (lv_at hl 0 rfl) ?_
    refine lv_ior hx hb d_Csrs_enterMachine_44 ?_
    refine lv_iload hx hb d_Csrs_enterMachine_45 (lv_at hl 5 rfl) ?_
    refine lv_bipush (v := 11) hx hb d_Csrs_enterMachine_47 rfl ?_
    refine y_ishl hx hb d_Csrs_enterMachine_49 ?_
    refine lv_ior hx hb d_Csrs_enterMachine_50 ?_
    refine y_put (D := D) (ci := 3) (v := .int ((((q 1) &&& (-6281)) ||| 128) ||| (shl x3 11))) (ty := .int) (C := R_Csrs) (T := F_Csrs) (N := 17) (ws' := wC h (upd (upd (upd (upd q 6 x0) 8 x1) 9 x2) 1 ((((q 1) &&& (-6281)) ||| 128) ||| (shl x3 11)))) hx hb hts i_Csrs t_Csrs t_Csrs_ok n_Csrs hown hK hP hD hS 0 rfl rfl 1 (by decide) (hts _ k_89) (fun _ h9 => h9) rfl (by decide +kernel) rfl rfl (Nat.le_of_ble_eq_true rfl) d_Csrs_enterMachine_51 rfl (fun H locs hP hD hS => ?_)
    refine lv_aload_n hx hb d_Csrs_enterMachine_54 rfl (lv_at hl 1 rfl) ?_
    refine va_get (D := D) (ci := 3) (v := .int (q 5)) (C := R_Csrs) (T := F_Csrs) (N := 17) hx hb hts i_Csrs hown hK hP 0 rfl rfl 5 (by decide) (hts _ k_94) (fun _ h9 => h9) rfl d_Csrs_enterMachine_55 ?_
    exact ri (upd (upd (upd (upd q 6 x0) 8 x1) 9 x2) 1 ((((q 1) &&& (-6281)) ||| 128) ||| (shl x3 11))) hx hb hr hlocks hP hD hS d_Csrs_enterMachine_58 (by simp only [sp_Csrs_enterMachine, if_neg c_2])
def sp_Csrs_levelBefore  (q : Nat → Int32) : Int32 :=
  shr ((q 1) &&& 6144) 11
set_option maxHeartbeats 4000000 in
set_option maxRecDepth 100000 in
theorem c_Csrs_levelBefore {l : Launch} {D : va_G} {g : Nat → Nat} (h : Nat)  (q : Nat → Int32)  : CT l D g y_Csrs_levelBefore b_Csrs_levelBefore 1 (some .int) (rD 0) [.ref h] (wC h q) ([]) (Qi D (fun (r : Int32) (_ : Unit) => sp_Csrs_levelBefore q = r) (fun _ => wC h q)) := by
  refine CT.of rfl (Nat.le_of_ble_eq_true rfl) (fun p e s m below meth c A ls hx hb hr hml hts hown hlocks hA hP hK hD hF hS hl => ?_)
  have hl : lv_has ls 1 [(0, .ref h)] := hl
  refine lv_aload_n hx hb d_Csrs_levelBefore_0 rfl (lv_at hl 0 rfl) ?_
  refine va_get (D := D) (ci := 3) (v := .int (q 1)) (C := R_Csrs) (T := F_Csrs) (N := 17) hx hb hts i_Csrs hown hK hP 0 rfl rfl 1 (by decide) (hts _ k_89) (fun _ h9 => h9) rfl d_Csrs_levelBefore_1 ?_
  refine lv_sipush (v := 6144) hx hb d_Csrs_levelBefore_4 rfl ?_
  refine lv_iand hx hb d_Csrs_levelBefore_7 ?_
  refine lv_bipush (v := 11) hx hb d_Csrs_levelBefore_8 rfl ?_
  refine y_ishr hx hb d_Csrs_levelBefore_10 ?_
  exact ri () hx hb hr hlocks hP hD hS d_Csrs_levelBefore_11 (by simp only [sp_Csrs_levelBefore])
def sp_Csrs_dataLevel (x0 : Int32) (q : Nat → Int32) : Int32 :=
  if x0 = 3 then
    if (sp_Csrs_has 131072 q) = 0 then
      x0
    else
      sp_Csrs_levelBefore q
  else
    x0
set_option maxHeartbeats 4000000 in
set_option maxRecDepth 100000 in
theorem c_Csrs_dataLevel {l : Launch} {D : va_G} {g : Nat → Nat} (h : Nat) (x0 : Int32) (q : Nat → Int32)  : CT l D g y_Csrs_dataLevel b_Csrs_dataLevel 2 (some .int) (rD 1) [.ref h, .int x0] (wC h q) ([]) (Qi D (fun (r : Int32) (_ : Unit) => sp_Csrs_dataLevel x0 q = r) (fun _ => wC h q)) := by
  refine CT.of rfl (Nat.le_of_ble_eq_true rfl) (fun p e s m below meth c A ls hx hb hr hml hts hown hlocks hA hP hK hD hF hS hl => ?_)
  have hl : lv_has ls 2 [(0, .ref h), (1, .int x0)] := hl
  refine lv_iload_n hx hb d_Csrs_dataLevel_0 rfl (lv_at hl 1 rfl) ?_
  refine lv_iconst (v := 3) hx hb d_Csrs_dataLevel_1 rfl ?_
  refine lv_icmp_ne (tgt := 21) hx hb d_Csrs_dataLevel_2 (by decide) (fun c_1 => ?_) (fun c_1 => ?_)
  · refine lv_iload_n hx hb d_Csrs_dataLevel_21 rfl (lv_at hl 1 rfl) ?_
    exact ri () hx hb hr hlocks hP hD hS d_Csrs_dataLevel_22 (by simp only [sp_Csrs_dataLevel, if_neg c_1])
  · refine lv_aload_n hx hb d_Csrs_dataLevel_5 rfl (lv_at hl 0 rfl) ?_
    refine lv_ldc (v := 131072) hx hb hown (hts _ k_272) d_Csrs_dataLevel_6 ?_
    refine xi (wr := []) (W2 := fun _ => wC h q) (xV (rest := []) ⟨hx, hb, hml, hown, hts⟩ (c_Csrs_has h 131072 q) mw_Csrs_has mv_Csrs_has k_233 ⟨rfl, rfl, Nat.le_of_ble_eq_true rfl, Nat.le_of_ble_eq_true rfl⟩ hK hP hD hS hA hF [0] [] rfl rfl rfl 0 3 rfl rfl rfl rfl hl.1 rfl (Nat.le_of_ble_eq_true rfl) d_Csrs_dataLevel_8 ⟨Nat.zero_le _, Nat.zero_le _⟩) hP hD hS hA [0] [] [0] rfl rfl rfl (by decide) (fun _ => rfl) rfl (fun r_2 _ H locs h_2 hP hD hS => ?_)
    obtain ⟨h_2, z_2⟩ := h_2
    subst h_2
    refine lv_if_eq (tgt := 21) hx hb d_Csrs_dataLevel_11 (by decide) (fun c_3 => ?_) (fun c_3 => ?_)
    · refine lv_iload_n hx hb d_Csrs_dataLevel_21 rfl (lv_at hl 1 rfl) ?_
      exact ri () hx hb hr hlocks hP hD hS d_Csrs_dataLevel_22 (by simp only [sp_Csrs_dataLevel, if_pos c_1, if_pos c_3])
    · refine lv_aload_n hx hb d_Csrs_dataLevel_14 rfl (lv_at hl 0 rfl) ?_
      refine xi (wr := []) (W2 := fun _ => wC h q) (xV (rest := []) ⟨hx, hb, hml, hown, hts⟩ (c_Csrs_levelBefore h q) mw_Csrs_levelBefore mv_Csrs_levelBefore k_273 ⟨rfl, rfl, Nat.le_of_ble_eq_true rfl, Nat.le_of_ble_eq_true rfl⟩ hK hP hD hS hA hF [0] [] rfl rfl rfl 0 3 rfl rfl rfl rfl hl.1 rfl (Nat.le_of_ble_eq_true rfl) d_Csrs_dataLevel_15 ⟨Nat.zero_le _, Nat.zero_le _⟩) hP hD hS hA [0] [] [0] rfl rfl rfl (by decide) (fun _ => rfl) rfl (fun r_4 _ H locs h_4 hP hD hS => ?_)
      subst h_4
      refine lv_goto (tgt := 22) hx hb d_Csrs_dataLevel_18 (by decide) ?_
      exact ri () hx hb hr hlocks hP hD hS d_Csrs_dataLevel_22 (by simp only [sp_Csrs_dataLevel, if_pos c_1, if_neg c_3])
def sp_Csrs_hasPages  (q : Nat → Int32) : Int32 :=
  if 0 ≤ (q 16) then
    0
  else
    1
set_option maxHeartbeats 4000000 in
set_option maxRecDepth 100000 in
theorem c_Csrs_hasPages {l : Launch} {D : va_G} {g : Nat → Nat} (h : Nat)  (q : Nat → Int32)  : CT l D g y_Csrs_hasPages b_Csrs_hasPages 1 (some .boolean) (rD 0) [.ref h] (wC h q) ([]) (Qi D (fun (r : Int32) (_ : Unit) => sp_Csrs_hasPages q = r ∧ (r = 0 ∨ r = 1)) (fun _ => wC h q)) := by
  refine CT.of rfl (Nat.le_of_ble_eq_true rfl) (fun p e s m below meth c A ls hx hb hr hml hts hown hlocks hA hP hK hD hF hS hl => ?_)
  have hl : lv_has ls 1 [(0, .ref h)] := hl
  refine lv_aload_n hx hb d_Csrs_hasPages_0 rfl (lv_at hl 0 rfl) ?_
  refine va_get (D := D) (ci := 3) (v := .int (q 16)) (C := R_Csrs) (T := F_Csrs) (N := 17) hx hb hts i_Csrs hown hK hP 0 rfl rfl 16 (by decide) (hts _ k_107) (fun _ h9 => h9) rfl d_Csrs_hasPages_1 ?_
  refine lv_if_ge (tgt := 11) hx hb d_Csrs_hasPages_4 (by decide) (fun c_1 => ?_) (fun c_1 => ?_)
  · refine lv_iconst (v := 0) hx hb d_Csrs_hasPages_11 rfl ?_
    exact rz () hx hb hr hlocks rfl hP hD hS d_Csrs_hasPages_12 ⟨by simp only [sp_Csrs_hasPages, if_pos c_1], Or.inl rfl⟩
  · refine lv_iconst (v := 1) hx hb d_Csrs_hasPages_7 rfl ?_
    refine lv_goto (tgt := 12) hx hb d_Csrs_hasPages_8 (by decide) ?_
    exact rz () hx hb hr hlocks rfl hP hD hS d_Csrs_hasPages_12 ⟨by simp only [sp_Csrs_hasPages, if_neg c_1], Or.inr rfl⟩
def sp_Csrs_rootPage  (q : Nat → Int32) : Int32 :=
  (q 16) &&& 4194303
set_option maxHeartbeats 4000000 in
set_option maxRecDepth 100000 in
theorem c_Csrs_rootPage {l : Launch} {D : va_G} {g : Nat → Nat} (h : Nat)  (q : Nat → Int32)  : CT l D g y_Csrs_rootPage b_Csrs_rootPage 1 (some .int) (rD 0) [.ref h] (wC h q) ([]) (Qi D (fun (r : Int32) (_ : Unit) => sp_Csrs_rootPage q = r) (fun _ => wC h q)) := by
  refine CT.of rfl (Nat.le_of_ble_eq_true rfl) (fun p e s m below meth c A ls hx hb hr hml hts hown hlocks hA hP hK hD hF hS hl => ?_)
  have hl : lv_has ls 1 [(0, .ref h)] := hl
  refine lv_aload_n hx hb d_Csrs_rootPage_0 rfl (lv_at hl 0 rfl) ?_
  refine va_get (D := D) (ci := 3) (v := .int (q 16)) (C := R_Csrs) (T := F_Csrs) (N := 17) hx hb hts i_Csrs hown hK hP 0 rfl rfl 16 (by decide) (hts _ k_107) (fun _ h9 => h9) rfl d_Csrs_rootPage_1 ?_
  refine lv_ldc (v := 4194303) hx hb hown (hts _ k_289) d_Csrs_rootPage_4 ?_
  refine lv_iand hx hb d_Csrs_rootPage_6 ?_
  exact ri () hx hb hr hlocks hP hD hS d_Csrs_rootPage_7 (by simp only [sp_Csrs_rootPage])
def sp_Csrs_leaveMachine  (q : Nat → Int32) : Int32 × (Nat → Int32) :=
  if (sp_Csrs_has 128 q) = 0 then
    if (sp_Csrs_levelBefore q) = 3 then
      (sp_Csrs_levelBefore q, (upd q 1 ((((q 1) &&& (-6153)) ||| 128) ||| 0)))
    else
      (sp_Csrs_levelBefore q, (upd q 1 ((((q 1) &&& (-137225)) ||| 128) ||| 0)))
  else
    if (sp_Csrs_levelBefore q) = 3 then
      (sp_Csrs_levelBefore q, (upd q 1 ((((q 1) &&& (-6153)) ||| 128) ||| 8)))
    else
      (sp_Csrs_levelBefore q, (upd q 1 ((((q 1) &&& (-137225)) ||| 128) ||| 8)))
set_option maxHeartbeats 4000000 in
set_option maxRecDepth 100000 in
theorem c_Csrs_leaveMachine {l : Launch} {D : va_G} {g : Nat → Nat} (h : Nat)  (q : Nat → Int32)  : CT l D g y_Csrs_leaveMachine b_Csrs_leaveMachine 4 (some .int) (rD 1) [.ref h] (wC h q) ([]) (Qi D (fun (r : Int32) (u : Nat → Int32) => sp_Csrs_leaveMachine q = (r, u)) (fun u => wC h u)) := by
  refine CT.of rfl (Nat.le_of_ble_eq_true rfl) (fun p e s m below meth c A ls hx hb hr hml hts hown hlocks hA hP hK hD hF hS hl => ?_)
  have hl : lv_has ls 4 [(0, .ref h)] := hl
  refine lv_aload_n hx hb d_Csrs_leaveMachine_0 rfl (lv_at hl 0 rfl) ?_
  refine xi (wr := []) (W2 := fun _ => wC h q) (xV (rest := []) ⟨hx, hb, hml, hown, hts⟩ (c_Csrs_levelBefore h q) mw_Csrs_levelBefore mv_Csrs_levelBefore k_273 ⟨rfl, rfl, Nat.le_of_ble_eq_true rfl, Nat.le_of_ble_eq_true rfl⟩ hK hP hD hS hA hF [0] [] rfl rfl rfl 0 3 rfl rfl rfl rfl hl.1 rfl (Nat.le_of_ble_eq_true rfl) d_Csrs_leaveMachine_1 ⟨Nat.zero_le _, Nat.zero_le _⟩) hP hD hS hA [0] [] [0] rfl rfl rfl (by decide) (fun _ => rfl) rfl (fun r_1 _ H locs h_1 hP hD hS => ?_)
  subst h_1
  refine lv_istore_n (lv' := [(1, .int (sp_Csrs_levelBefore q)), (0, .ref h)]) hx hb d_Csrs_leaveMachine_4 rfl hl (by decide) rfl (fun ls hl => ?_)
  refine lv_aload_n hx hb d_Csrs_leaveMachine_5 rfl (lv_at hl 1 rfl) ?_
  refine lv_sipush (v := 128) hx hb d_Csrs_leaveMachine_6 rfl ?_
  refine xi (wr := []) (W2 := fun _ => wC h q) (xV (rest := []) ⟨hx, hb, hml, hown, hts⟩ (c_Csrs_has h 128 q) mw_Csrs_has mv_Csrs_has k_233 ⟨rfl, rfl, Nat.le_of_ble_eq_true rfl, Nat.le_of_ble_eq_true rfl⟩ hK hP hD hS hA hF [0] [] rfl rfl rfl 0 3 rfl rfl rfl rfl hl.1 rfl (Nat.le_of_ble_eq_true rfl) d_Csrs_leaveMachine_9 ⟨Nat.zero_le _, Nat.zero_le _⟩) hP hD hS hA [0] [] [0] rfl rfl rfl (by decide) (fun _ => rfl) rfl (fun r_2 _ H locs h_2 hP hD hS => ?_)
  obtain ⟨h_2, z_2⟩ := h_2
  subst h_2
  refine lv_if_eq (tgt := 20) hx hb d_Csrs_leaveMachine_12 (by decide) (fun c_3 => ?_) (fun c_3 => ?_)
  · refine lv_iconst (v := 0) hx hb d_Csrs_leaveMachine_20 rfl ?_
    refine lv_istore_n (lv' := [(2, .int 0), (1, .int (sp_Csrs_levelBefore q)), (0, .ref h)]) hx hb d_Csrs_leaveMachine_21 rfl hl (by decide) rfl (fun ls hl => ?_)
    refine lv_iload_n hx hb d_Csrs_leaveMachine_22 rfl (lv_at hl 1 rfl) ?_
    refine lv_iconst (v := 3) hx hb d_Csrs_leaveMachine_23 rfl ?_
    refine lv_icmp_ne (tgt := 33) hx hb d_Csrs_leaveMachine_24 (by decide) (fun c_4 => ?_) (fun c_4 => ?_)
    · refine lv_ldc (v := 137224) hx hb hown (hts _ k_504) d_Csrs_leaveMachine_33 ?_
      refine lv_istore_n (lv' := [(3, .int 137224), (2, .int 0), (1, .int (sp_Csrs_levelBefore q)), (0, .ref h)]) hx hb d_Csrs_leaveMachine_35 rfl hl (by decide) rfl (fun ls hl => ?_)
      refine lv_aload_n hx hb d_Csrs_leaveMachine_36 rfl (lv_at hl 3 rfl) ?_
      refine lv_aload_n hx hb d_Csrs_leaveMachine_37 rfl (lv_at hl 3 rfl) ?_
      refine va_get (D := D) (ci := 3) (v := .int (q 1)) (C := R_Csrs) (T := F_Csrs) (N := 17) hx hb hts i_Csrs hown hK hP 0 rfl rfl 1 (by decide) (hts _ k_89) (fun _ h9 => h9) rfl d_Csrs_leaveMachine_38 ?_
      refine lv_iload_n hx hb d_Csrs_leaveMachine_41 rfl (lv_at hl 0 rfl) ?_
      refine lv_iconst (v := (-1)) hx hb d_Csrs_leaveMachine_42 rfl ?_
      refine lv_ixor hx hb d_Csrs_leaveMachine_43 ?_
      refine W.eq (g2 := F0 m 44 ls [.int (-137225), .int (q 1), .ref h]) rfl ?_
      refine lv_iand hx hb d_Csrs_leaveMachine_44 ?_
      refine lv_sipush (v := 128) hx hb d_Csrs_leaveMachine_45 rfl ?_
      refine lv_ior hx hb d_Csrs_leaveMachine_48 ?_
      refine lv_iload_n hx hb d_Csrs_leaveMachine_49 rfl (lv_at hl 1 rfl) ?_
      refine lv_ior hx hb d_Csrs_leaveMachine_50 ?_
      refine y_put (D := D) (ci := 3) (v := .int ((((q 1) &&& (-137225)) ||| 128) ||| 0)) (ty := .int) (C := R_Csrs) (T := F_Csrs) (N := 17) (ws' := wC h (upd q 1 ((((q 1) &&& (-137225)) ||| 128) ||| 0))) hx hb hts i_Csrs t_Csrs t_Csrs_ok n_Csrs hown hK hP hD hS 0 rfl rfl 1 (by decide) (hts _ k_89) (fun _ h9 => h9) rfl (by decide +kernel) rfl rfl (Nat.le_of_ble_eq_true rfl) d_Csrs_leaveMachine_51 rfl (fun H locs hP hD hS => ?_)
      refine lv_iload_n hx hb d_Csrs_leaveMachine_54 rfl (lv_at hl 2 rfl) ?_
      exact ri (upd q 1 ((((q 1) &&& (-137225)) ||| 128) ||| 0)) hx hb hr hlocks hP hD hS d_Csrs_leaveMachine_55 (by simp only [sp_Csrs_leaveMachine, if_pos c_3, if_neg c_4])
    · refine lv_sipush (v := 6152) hx hb d_Csrs_leaveMachine_27 rfl ?_
      refine lv_goto (tgt := 35) hx hb d_Csrs_leaveMachine_30 (by decide) ?_
      refine lv_istore_n (lv' := [(3, .int 6152), (2, .int 0), (1, .int (sp_Csrs_levelBefore q)), (0, .ref h)]) hx hb d_Csrs_leaveMachine_35 rfl hl (by decide) rfl (fun ls hl => ?_)
      refine lv_aload_n hx hb d_Csrs_leaveMachine_36 rfl (lv_at hl 3 rfl) ?_
      refine lv_aload_n hx hb d_Csrs_leaveMachine_37 rfl (lv_at hl 3 rfl) ?_
      refine va_get (D := D) (ci := 3) (v := .int (q 1)) (C := R_Csrs) (T := F_Csrs) (N := 17) hx hb hts i_Csrs hown hK hP 0 rfl rfl 1 (by decide) (hts _ k_89) (fun _ h9 => h9) rfl d_Csrs_leaveMachine_38 ?_
      refine lv_iload_n hx hb d_Csrs_leaveMachine_41 rfl (lv_at hl 0 rfl) ?_
      refine lv_iconst (v := (-1)) hx hb d_Csrs_leaveMachine_42 rfl ?_
      refine lv_ixor hx hb d_Csrs_leaveMachine_43 ?_
      refine W.eq (g2 := F0 m 44 ls [.int (-6153), .int (q 1), .ref h]) rfl ?_
      refine lv_iand hx hb d_Csrs_leaveMachine_44 ?_
      refine lv_sipush (v := 128) hx hb d_Csrs_leaveMachine_45 rfl ?_
      refine lv_ior hx hb d_Csrs_leaveMachine_48 ?_
      refine lv_iload_n hx hb d_Csrs_leaveMachine_49 rfl (lv_at hl 1 rfl) ?_
      refine lv_ior hx hb d_Csrs_leaveMachine_50 ?_
      refine y_put (D := D) (ci := 3) (v := .int ((((q 1) &&& (-6153)) ||| 128) ||| 0)) (ty := .int) (C := R_Csrs) (T := F_Csrs) (N := 17) (ws' := wC h (upd q 1 ((((q 1) &&& (-6153)) ||| 128) ||| 0))) hx hb hts i_Csrs t_Csrs t_Csrs_ok n_Csrs hown hK hP hD hS 0 rfl rfl 1 (by decide) (hts _ k_89) (fun _ h9 => h9) rfl (by decide +kernel) rfl rfl (Nat.le_of_ble_eq_true rfl) d_Csrs_leaveMachine_51 rfl (fun H locs hP hD hS => ?_)
      refine lv_iload_n hx hb d_Csrs_leaveMachine_54 rfl (lv_at hl 2 rfl) ?_
      exact ri (upd q 1 ((((q 1) &&& (-6153)) ||| 128) ||| 0)) hx hb hr hlocks hP hD hS d_Csrs_leaveMachine_55 (by simp only [sp_Csrs_leaveMachine, if_pos c_3, if_pos c_4])
  · refine lv_bipush (v := 8) hx hb d_Csrs_leaveMachine_15 rfl ?_
    refine lv_goto (tgt := 21) hx hb d_Csrs_leaveMachine_17 (by decide) ?_
    refine lv_istore_n (lv' := [(2, .int 8), (1, .int (sp_Csrs_levelBefore q)), (0, .ref h)]) hx hb d_Csrs_leaveMachine_21 rfl hl (by decide) rfl (fun ls hl => ?_)
    refine lv_iload_n hx hb d_Csrs_leaveMachine_22 rfl (lv_at hl 1 rfl) ?_
    refine lv_iconst (v := 3) hx hb d_Csrs_leaveMachine_23 rfl ?_
    refine lv_icmp_ne (tgt := 33) hx hb d_Csrs_leaveMachine_24 (by decide) (fun c_5 => ?_) (fun c_5 => ?_)
    · refine lv_ldc (v := 137224) hx hb hown (hts _ k_504) d_Csrs_leaveMachine_33 ?_
      refine lv_istore_n (lv' := [(3, .int 137224), (2, .int 8), (1, .int (sp_Csrs_levelBefore q)), (0, .ref h)]) hx hb d_Csrs_leaveMachine_35 rfl hl (by decide) rfl (fun ls hl => ?_)
      refine lv_aload_n hx hb d_Csrs_leaveMachine_36 rfl (lv_at hl 3 rfl) ?_
      refine lv_aload_n hx hb d_Csrs_leaveMachine_37 rfl (lv_at hl 3 rfl) ?_
      refine va_get (D := D) (ci := 3) (v := .int (q 1)) (C := R_Csrs) (T := F_Csrs) (N := 17) hx hb hts i_Csrs hown hK hP 0 rfl rfl 1 (by decide) (hts _ k_89) (fun _ h9 => h9) rfl d_Csrs_leaveMachine_38 ?_
      refine lv_iload_n hx hb d_Csrs_leaveMachine_41 rfl (lv_at hl 0 rfl) ?_
      refine lv_iconst (v := (-1)) hx hb d_Csrs_leaveMachine_42 rfl ?_
      refine lv_ixor hx hb d_Csrs_leaveMachine_43 ?_
      refine W.eq (g2 := F0 m 44 ls [.int (-137225), .int (q 1), .ref h]) rfl ?_
      refine lv_iand hx hb d_Csrs_leaveMachine_44 ?_
      refine lv_sipush (v := 128) hx hb d_Csrs_leaveMachine_45 rfl ?_
      refine lv_ior hx hb d_Csrs_leaveMachine_48 ?_
      refine lv_iload_n hx hb d_Csrs_leaveMachine_49 rfl (lv_at hl 1 rfl) ?_
      refine lv_ior hx hb d_Csrs_leaveMachine_50 ?_
      refine y_put (D := D) (ci := 3) (v := .int ((((q 1) &&& (-137225)) ||| 128) ||| 8)) (ty := .int) (C := R_Csrs) (T := F_Csrs) (N := 17) (ws' := wC h (upd q 1 ((((q 1) &&& (-137225)) ||| 128) ||| 8))) hx hb hts i_Csrs t_Csrs t_Csrs_ok n_Csrs hown hK hP hD hS 0 rfl rfl 1 (by decide) (hts _ k_89) (fun _ h9 => h9) rfl (by decide +kernel) rfl rfl (Nat.le_of_ble_eq_true rfl) d_Csrs_leaveMachine_51 rfl (fun H locs hP hD hS => ?_)
      refine lv_iload_n hx hb d_Csrs_leaveMachine_54 rfl (lv_at hl 2 rfl) ?_
      exact ri (upd q 1 ((((q 1) &&& (-137225)) ||| 128) ||| 8)) hx hb hr hlocks hP hD hS d_Csrs_leaveMachine_55 (by simp only [sp_Csrs_leaveMachine, if_neg c_3, if_neg c_5])
    · refine lv_sipush (v := 6152) hx hb d_Csrs_leaveMachine_27 rfl ?_
      refine lv_goto (tgt := 35) hx hb d_Csrs_leaveMachine_30 (by decide) ?_
      refine lv_istore_n (lv' := [(3, .int 6152), (2, .int 8), (1, .int (sp_Csrs_levelBefore q)), (0, .ref h)]) hx hb d_Csrs_leaveMachine_35 rfl hl (by decide) rfl (fun ls hl => ?_)
      refine lv_aload_n hx hb d_Csrs_leaveMachine_36 rfl (lv_at hl 3 rfl) ?_
      refine lv_aload_n hx hb d_Csrs_leaveMachine_37 rfl (lv_at hl 3 rfl) ?_
      refine va_get (D := D) (ci := 3) (v := .int (q 1)) (C := R_Csrs) (T := F_Csrs) (N := 17) hx hb hts i_Csrs hown hK hP 0 rfl rfl 1 (by decide) (hts _ k_89) (fun _ h9 => h9) rfl d_Csrs_leaveMachine_38 ?_
      refine lv_iload_n hx hb d_Csrs_leaveMachine_41 rfl (lv_at hl 0 rfl) ?_
      refine lv_iconst (v := (-1)) hx hb d_Csrs_leaveMachine_42 rfl ?_
      refine lv_ixor hx hb d_Csrs_leaveMachine_43 ?_
      refine W.eq (g2 := F0 m 44 ls [.int (-6153), .int (q 1), .ref h]) rfl ?_
      refine lv_iand hx hb d_Csrs_leaveMachine_44 ?_
      refine lv_sipush (v := 128) hx hb d_Csrs_leaveMachine_45 rfl ?_
      refine lv_ior hx hb d_Csrs_leaveMachine_48 ?_
      refine lv_iload_n hx hb d_Csrs_leaveMachine_49 rfl (lv_at hl 1 rfl) ?_
      refine lv_ior hx hb d_Csrs_leaveMachine_50 ?_
      refine y_put (D := D) (ci := 3) (v := .int ((((q 1) &&& (-6153)) ||| 128) ||| 8)) (ty := .int) (C := R_Csrs) (T := F_Csrs) (N := 17) (ws' := wC h (upd q 1 ((((q 1) &&& (-6153)) ||| 128) ||| 8))) hx hb hts i_Csrs t_Csrs t_Csrs_ok n_Csrs hown hK hP hD hS 0 rfl rfl 1 (by decide) (hts _ k_89) (fun _ h9 => h9) rfl (by decide +kernel) rfl rfl (Nat.le_of_ble_eq_true rfl) d_Csrs_leaveMachine_51 rfl (fun H locs hP hD hS => ?_)
      refine lv_iload_n hx hb d_Csrs_leaveMachine_54 rfl (lv_at hl 2 rfl) ?_
      exact ri (upd q 1 ((((q 1) &&& (-6153)) ||| 128) ||| 8)) hx hb hr hlocks hP hD hS d_Csrs_leaveMachine_55 (by simp only [sp_Csrs_leaveMachine, if_neg c_3, if_pos c_5])
def sp_Csrs_leaveSupervisor  (q : Nat → Int32) : Int32 × (Nat → Int32) :=
  if (sp_Csrs_has 256 q) = 0 then
    if (sp_Csrs_has 32 q) = 0 then
      (0, (upd q 1 ((((q 1) &&& (-131331)) ||| 32) ||| 0)))
    else
      (0, (upd q 1 ((((q 1) &&& (-131331)) ||| 32) ||| 2)))
  else
    if (sp_Csrs_has 32 q) = 0 then
      (1, (upd q 1 ((((q 1) &&& (-131331)) ||| 32) ||| 0)))
    else
      (1, (upd q 1 ((((q 1) &&& (-131331)) ||| 32) ||| 2)))
set_option maxHeartbeats 4000000 in
set_option maxRecDepth 100000 in
theorem c_Csrs_leaveSupervisor {l : Launch} {D : va_G} {g : Nat → Nat} (h : Nat)  (q : Nat → Int32)  : CT l D g y_Csrs_leaveSupervisor b_Csrs_leaveSupervisor 3 (some .int) (rD 1) [.ref h] (wC h q) ([]) (Qi D (fun (r : Int32) (u : Nat → Int32) => sp_Csrs_leaveSupervisor q = (r, u)) (fun u => wC h u)) := by
  refine CT.of rfl (Nat.le_of_ble_eq_true rfl) (fun p e s m below meth c A ls hx hb hr hml hts hown hlocks hA hP hK hD hF hS hl => ?_)
  have hl : lv_has ls 3 [(0, .ref h)] := hl
  refine lv_aload_n hx hb d_Csrs_leaveSupervisor_0 rfl (lv_at hl 0 rfl) ?_
  refine lv_sipush (v := 256) hx hb d_Csrs_leaveSupervisor_1 rfl ?_
  refine xi (wr := []) (W2 := fun _ => wC h q) (xV (rest := []) ⟨hx, hb, hml, hown, hts⟩ (c_Csrs_has h 256 q) mw_Csrs_has mv_Csrs_has k_233 ⟨rfl, rfl, Nat.le_of_ble_eq_true rfl, Nat.le_of_ble_eq_true rfl⟩ hK hP hD hS hA hF [0] [] rfl rfl rfl 0 3 rfl rfl rfl rfl hl.1 rfl (Nat.le_of_ble_eq_true rfl) d_Csrs_leaveSupervisor_4 ⟨Nat.zero_le _, Nat.zero_le _⟩) hP hD hS hA [0] [] [0] rfl rfl rfl (by decide) (fun _ => rfl) rfl (fun r_1 _ H locs h_1 hP hD hS => ?_)
  obtain ⟨h_1, z_1⟩ := h_1
  subst h_1
  refine lv_if_eq (tgt := 14) hx hb d_Csrs_leaveSupervisor_7 (by decide) (fun c_2 => ?_) (fun c_2 => ?_)
  · refine lv_iconst (v := 0) hx hb d_Csrs_leaveSupervisor_14 rfl ?_
    refine lv_istore_n (lv' := [(1, .int 0), (0, .ref h)]) hx hb d_Csrs_leaveSupervisor_15 rfl hl (by decide) rfl (fun ls hl => ?_)
    refine lv_aload_n hx hb d_Csrs_leaveSupervisor_16 rfl (lv_at hl 1 rfl) ?_
    refine lv_bipush (v := 32) hx hb d_Csrs_leaveSupervisor_17 rfl ?_
    refine xi (wr := []) (W2 := fun _ => wC h q) (xV (rest := []) ⟨hx, hb, hml, hown, hts⟩ (c_Csrs_has h 32 q) mw_Csrs_has mv_Csrs_has k_233 ⟨rfl, rfl, Nat.le_of_ble_eq_true rfl, Nat.le_of_ble_eq_true rfl⟩ hK hP hD hS hA hF [0] [] rfl rfl rfl 0 3 rfl rfl rfl rfl hl.1 rfl (Nat.le_of_ble_eq_true rfl) d_Csrs_leaveSupervisor_19 ⟨Nat.zero_le _, Nat.zero_le _⟩) hP hD hS hA [0] [] [0] rfl rfl rfl (by decide) (fun _ => rfl) rfl (fun r_3 _ H locs h_3 hP hD hS => ?_)
    obtain ⟨h_3, z_3⟩ := h_3
    subst h_3
    refine lv_if_eq (tgt := 29) hx hb d_Csrs_leaveSupervisor_22 (by decide) (fun c_4 => ?_) (fun c_4 => ?_)
    · refine lv_iconst (v := 0) hx hb d_Csrs_leaveSupervisor_29 rfl ?_
      refine lv_istore_n (lv' := [(2, .int 0), (1, .int 0), (0, .ref h)]) hx hb d_Csrs_leaveSupervisor_30 rfl hl (by decide) rfl (fun ls hl => ?_)
      refine lv_aload_n hx hb d_Csrs_leaveSupervisor_31 rfl (lv_at hl 2 rfl) ?_
      refine lv_aload_n hx hb d_Csrs_leaveSupervisor_32 rfl (lv_at hl 2 rfl) ?_
      refine va_get (D := D) (ci := 3) (v := .int (q 1)) (C := R_Csrs) (T := F_Csrs) (N := 17) hx hb hts i_Csrs hown hK hP 0 rfl rfl 1 (by decide) (hts _ k_89) (fun _ h9 => h9) rfl d_Csrs_leaveSupervisor_33 ?_
      refine lv_ldc (v := (-131331)) hx hb hown (hts _ k_513) d_Csrs_leaveSupervisor_36 ?_
      refine lv_iand hx hb d_Csrs_leaveSupervisor_38 ?_
      refine lv_bipush (v := 32) hx hb d_Csrs_leaveSupervisor_39 rfl ?_
      refine lv_ior hx hb d_Csrs_leaveSupervisor_41 ?_
      refine lv_iload_n hx hb d_Csrs_leaveSupervisor_42 rfl (lv_at hl 0 rfl) ?_
      refine lv_ior hx hb d_Csrs_leaveSupervisor_43 ?_
      refine y_put (D := D) (ci := 3) (v := .int ((((q 1) &&& (-131331)) ||| 32) ||| 0)) (ty := .int) (C := R_Csrs) (T := F_Csrs) (N := 17) (ws' := wC h (upd q 1 ((((q 1) &&& (-131331)) ||| 32) ||| 0))) hx hb hts i_Csrs t_Csrs t_Csrs_ok n_Csrs hown hK hP hD hS 0 rfl rfl 1 (by decide) (hts _ k_89) (fun _ h9 => h9) rfl (by decide +kernel) rfl rfl (Nat.le_of_ble_eq_true rfl) d_Csrs_leaveSupervisor_44 rfl (fun H locs hP hD hS => ?_)
      refine lv_iload_n hx hb d_Csrs_leaveSupervisor_47 rfl (lv_at hl 1 rfl) ?_
      exact ri (upd q 1 ((((q 1) &&& (-131331)) ||| 32) ||| 0)) hx hb hr hlocks hP hD hS d_Csrs_leaveSupervisor_48 (by simp only [sp_Csrs_leaveSupervisor, if_pos c_2, if_pos c_4])
    · refine lv_iconst (v := 2) hx hb d_Csrs_leaveSupervisor_25 rfl ?_
      refine lv_goto (tgt := 30) hx hb d_Csrs_leaveSupervisor_26 (by decide) ?_
      refine lv_istore_n (lv' := [(2, .int 2), (1, .int 0), (0, .ref h)]) hx hb d_Csrs_leaveSupervisor_30 rfl hl (by decide) rfl (fun ls hl => ?_)
      refine lv_aload_n hx hb d_Csrs_leaveSupervisor_31 rfl (lv_at hl 2 rfl) ?_
      refine lv_aload_n hx hb d_Csrs_leaveSupervisor_32 rfl (lv_at hl 2 rfl) ?_
      refine va_get (D := D) (ci := 3) (v := .int (q 1)) (C := R_Csrs) (T := F_Csrs) (N := 17) hx hb hts i_Csrs hown hK hP 0 rfl rfl 1 (by decide) (hts _ k_89) (fun _ h9 => h9) rfl d_Csrs_leaveSupervisor_33 ?_
      refine lv_ldc (v := (-131331)) hx hb hown (hts _ k_513) d_Csrs_leaveSupervisor_36 ?_
      refine lv_iand hx hb d_Csrs_leaveSupervisor_38 ?_
      refine lv_bipush (v := 32) hx hb d_Csrs_leaveSupervisor_39 rfl ?_
      refine lv_ior hx hb d_Csrs_leaveSupervisor_41 ?_
      refine lv_iload_n hx hb d_Csrs_leaveSupervisor_42 rfl (lv_at hl 0 rfl) ?_
      refine lv_ior hx hb d_Csrs_leaveSupervisor_43 ?_
      refine y_put (D := D) (ci := 3) (v := .int ((((q 1) &&& (-131331)) ||| 32) ||| 2)) (ty := .int) (C := R_Csrs) (T := F_Csrs) (N := 17) (ws' := wC h (upd q 1 ((((q 1) &&& (-131331)) ||| 32) ||| 2))) hx hb hts i_Csrs t_Csrs t_Csrs_ok n_Csrs hown hK hP hD hS 0 rfl rfl 1 (by decide) (hts _ k_89) (fun _ h9 => h9) rfl (by decide +kernel) rfl rfl (Nat.le_of_ble_eq_true rfl) d_Csrs_leaveSupervisor_44 rfl (fun H locs hP hD hS => ?_)
      refine lv_iload_n hx hb d_Csrs_leaveSupervisor_47 rfl (lv_at hl 1 rfl) ?_
      exact ri (upd q 1 ((((q 1) &&& (-131331)) ||| 32) ||| 2)) hx hb hr hlocks hP hD hS d_Csrs_leaveSupervisor_48 (by simp only [sp_Csrs_leaveSupervisor, if_pos c_2, if_neg c_4])
  · refine lv_iconst (v := 1) hx hb d_Csrs_leaveSupervisor_10 rfl ?_
    refine lv_goto (tgt := 15) hx hb d_Csrs_leaveSupervisor_11 (by decide) ?_
    refine lv_istore_n (lv' := [(1, .int 1), (0, .ref h)]) hx hb d_Csrs_leaveSupervisor_15 rfl hl (by decide) rfl (fun ls hl => ?_)
    refine lv_aload_n hx hb d_Csrs_leaveSupervisor_16 rfl (lv_at hl 1 rfl) ?_
    refine lv_bipush (v := 32) hx hb d_Csrs_leaveSupervisor_17 rfl ?_
    refine xi (wr := []) (W2 := fun _ => wC h q) (xV (rest := []) ⟨hx, hb, hml, hown, hts⟩ (c_Csrs_has h 32 q) mw_Csrs_has mv_Csrs_has k_233 ⟨rfl, rfl, Nat.le_of_ble_eq_true rfl, Nat.le_of_ble_eq_true rfl⟩ hK hP hD hS hA hF [0] [] rfl rfl rfl 0 3 rfl rfl rfl rfl hl.1 rfl (Nat.le_of_ble_eq_true rfl) d_Csrs_leaveSupervisor_19 ⟨Nat.zero_le _, Nat.zero_le _⟩) hP hD hS hA [0] [] [0] rfl rfl rfl (by decide) (fun _ => rfl) rfl (fun r_5 _ H locs h_5 hP hD hS => ?_)
    obtain ⟨h_5, z_5⟩ := h_5
    subst h_5
    refine lv_if_eq (tgt := 29) hx hb d_Csrs_leaveSupervisor_22 (by decide) (fun c_6 => ?_) (fun c_6 => ?_)
    · refine lv_iconst (v := 0) hx hb d_Csrs_leaveSupervisor_29 rfl ?_
      refine lv_istore_n (lv' := [(2, .int 0), (1, .int 1), (0, .ref h)]) hx hb d_Csrs_leaveSupervisor_30 rfl hl (by decide) rfl (fun ls hl => ?_)
      refine lv_aload_n hx hb d_Csrs_leaveSupervisor_31 rfl (lv_at hl 2 rfl) ?_
      refine lv_aload_n hx hb d_Csrs_leaveSupervisor_32 rfl (lv_at hl 2 rfl) ?_
      refine va_get (D := D) (ci := 3) (v := .int (q 1)) (C := R_Csrs) (T := F_Csrs) (N := 17) hx hb hts i_Csrs hown hK hP 0 rfl rfl 1 (by decide) (hts _ k_89) (fun _ h9 => h9) rfl d_Csrs_leaveSupervisor_33 ?_
      refine lv_ldc (v := (-131331)) hx hb hown (hts _ k_513) d_Csrs_leaveSupervisor_36 ?_
      refine lv_iand hx hb d_Csrs_leaveSupervisor_38 ?_
      refine lv_bipush (v := 32) hx hb d_Csrs_leaveSupervisor_39 rfl ?_
      refine lv_ior hx hb d_Csrs_leaveSupervisor_41 ?_
      refine lv_iload_n hx hb d_Csrs_leaveSupervisor_42 rfl (lv_at hl 0 rfl) ?_
      refine lv_ior hx hb d_Csrs_leaveSupervisor_43 ?_
      refine y_put (D := D) (ci := 3) (v := .int ((((q 1) &&& (-131331)) ||| 32) ||| 0)) (ty := .int) (C := R_Csrs) (T := F_Csrs) (N := 17) (ws' := wC h (upd q 1 ((((q 1) &&& (-131331)) ||| 32) ||| 0))) hx hb hts i_Csrs t_Csrs t_Csrs_ok n_Csrs hown hK hP hD hS 0 rfl rfl 1 (by decide) (hts _ k_89) (fun _ h9 => h9) rfl (by decide +kernel) rfl rfl (Nat.le_of_ble_eq_true rfl) d_Csrs_leaveSupervisor_44 rfl (fun H locs hP hD hS => ?_)
      refine lv_iload_n hx hb d_Csrs_leaveSupervisor_47 rfl (lv_at hl 1 rfl) ?_
      exact ri (upd q 1 ((((q 1) &&& (-131331)) ||| 32) ||| 0)) hx hb hr hlocks hP hD hS d_Csrs_leaveSupervisor_48 (by simp only [sp_Csrs_leaveSupervisor, if_neg c_2, if_pos c_6])
    · refine lv_iconst (v := 2) hx hb d_Csrs_leaveSupervisor_25 rfl ?_
      refine lv_goto (tgt := 30) hx hb d_Csrs_leaveSupervisor_26 (by decide) ?_
      refine lv_istore_n (lv' := [(2, .int 2), (1, .int 1), (0, .ref h)]) hx hb d_Csrs_leaveSupervisor_30 rfl hl (by decide) rfl (fun ls hl => ?_)
      refine lv_aload_n hx hb d_Csrs_leaveSupervisor_31 rfl (lv_at hl 2 rfl) ?_
      refine lv_aload_n hx hb d_Csrs_leaveSupervisor_32 rfl (lv_at hl 2 rfl) ?_
      refine va_get (D := D) (ci := 3) (v := .int (q 1)) (C := R_Csrs) (T := F_Csrs) (N := 17) hx hb hts i_Csrs hown hK hP 0 rfl rfl 1 (by decide) (hts _ k_89) (fun _ h9 => h9) rfl d_Csrs_leaveSupervisor_33 ?_
      refine lv_ldc (v := (-131331)) hx hb hown (hts _ k_513) d_Csrs_leaveSupervisor_36 ?_
      refine lv_iand hx hb d_Csrs_leaveSupervisor_38 ?_
      refine lv_bipush (v := 32) hx hb d_Csrs_leaveSupervisor_39 rfl ?_
      refine lv_ior hx hb d_Csrs_leaveSupervisor_41 ?_
      refine lv_iload_n hx hb d_Csrs_leaveSupervisor_42 rfl (lv_at hl 0 rfl) ?_
      refine lv_ior hx hb d_Csrs_leaveSupervisor_43 ?_
      refine y_put (D := D) (ci := 3) (v := .int ((((q 1) &&& (-131331)) ||| 32) ||| 2)) (ty := .int) (C := R_Csrs) (T := F_Csrs) (N := 17) (ws' := wC h (upd q 1 ((((q 1) &&& (-131331)) ||| 32) ||| 2))) hx hb hts i_Csrs t_Csrs t_Csrs_ok n_Csrs hown hK hP hD hS 0 rfl rfl 1 (by decide) (hts _ k_89) (fun _ h9 => h9) rfl (by decide +kernel) rfl rfl (Nat.le_of_ble_eq_true rfl) d_Csrs_leaveSupervisor_44 rfl (fun H locs hP hD hS => ?_)
      refine lv_iload_n hx hb d_Csrs_leaveSupervisor_47 rfl (lv_at hl 1 rfl) ?_
      exact ri (upd q 1 ((((q 1) &&& (-131331)) ||| 32) ||| 2)) hx hb hr hlocks hP hD hS d_Csrs_leaveSupervisor_48 (by simp only [sp_Csrs_leaveSupervisor, if_neg c_2, if_neg c_6])
def sp_Csrs_isTold (x0 : Int32)  : Int32 :=
  if x0 = 256 then
    1
  else
    if x0 = 260 then
      1
    else
      if x0 = 261 then
        1
      else
        if x0 = 320 then
          1
        else
          if x0 = 321 then
            1
          else
            if x0 = 322 then
              1
            else
              if x0 = 323 then
                1
              else
                if x0 = 324 then
                  1
                else
                  if x0 = 384 then
                    1
                  else
                    if x0 = 768 then
                      1
                    else
                      if x0 = 769 then
                        1
                      else
                        if x0 = 770 then
                          1
                        else
                          if x0 = 771 then
                            1
                          else
                            if x0 = 772 then
                              1
                            else
                              if x0 = 773 then
                                1
                              else
                                if x0 = 832 then
                                  1
                                else
                                  if x0 = 833 then
                                    1
                                  else
                                    if x0 = 834 then
                                      1
                                    else
                                      if x0 = 835 then
                                        1
                                      else
                                        if x0 = 836 then
                                          1
                                        else
                                          if x0 = 3857 then
                                            1
                                          else
                                            if x0 = 3858 then
                                              1
                                            else
                                              if x0 = 3859 then
                                                1
                                              else
                                                if x0 = 3860 then
                                                  1
                                                else
                                                  0
set_option maxHeartbeats 4000000 in
set_option maxRecDepth 100000 in
theorem c_Csrs_isTold {l : Launch} {D : va_G} {g : Nat → Nat}  (x0 : Int32)   : CT l D g y_Csrs_isTold b_Csrs_isTold 1 (some .boolean) (rD 0) [.int x0] ([]) ([]) (Qi D (fun (r : Int32) (_ : Unit) => sp_Csrs_isTold x0 = r ∧ (r = 0 ∨ r = 1)) (fun _ => [])) := by
  refine CT.of rfl (Nat.le_of_ble_eq_true rfl) (fun p e s m below meth c A ls hx hb hr hml hts hown hlocks hA hP hK hD hF hS hl => ?_)
  have hl : lv_has ls 1 [(0, .int x0)] := hl
  refine lv_iload_n hx hb d_Csrs_isTold_0 rfl (lv_at hl 0 rfl) ?_
  by_cases c_1 : x0 = 256
  · refine lv_lookup (off := 203) (tgt := 204) hx hb d_Csrs_isTold_1 rfl (by rw [c_1]; rfl) (by decide) ?_
    refine lv_iconst (v := 1) hx hb d_Csrs_isTold_204 rfl ?_
    exact rz () hx hb hr hlocks rfl hP hD hS d_Csrs_isTold_205 ⟨by simp only [sp_Csrs_isTold, if_pos c_1], Or.inr rfl⟩
  · by_cases c_2 : x0 = 260
    · refine lv_lookup (off := 203) (tgt := 204) hx hb d_Csrs_isTold_1 rfl (by rw [c_2]; rfl) (by decide) ?_
      refine lv_iconst (v := 1) hx hb d_Csrs_isTold_204 rfl ?_
      exact rz () hx hb hr hlocks rfl hP hD hS d_Csrs_isTold_205 ⟨by simp only [sp_Csrs_isTold, if_neg c_1, if_pos c_2], Or.inr rfl⟩
    · by_cases c_3 : x0 = 261
      · refine lv_lookup (off := 203) (tgt := 204) hx hb d_Csrs_isTold_1 rfl (by rw [c_3]; rfl) (by decide) ?_
        refine lv_iconst (v := 1) hx hb d_Csrs_isTold_204 rfl ?_
        exact rz () hx hb hr hlocks rfl hP hD hS d_Csrs_isTold_205 ⟨by simp only [sp_Csrs_isTold, if_neg c_1, if_neg c_2, if_pos c_3], Or.inr rfl⟩
      · by_cases c_4 : x0 = 320
        · refine lv_lookup (off := 203) (tgt := 204) hx hb d_Csrs_isTold_1 rfl (by rw [c_4]; rfl) (by decide) ?_
          refine lv_iconst (v := 1) hx hb d_Csrs_isTold_204 rfl ?_
          exact rz () hx hb hr hlocks rfl hP hD hS d_Csrs_isTold_205 ⟨by simp only [sp_Csrs_isTold, if_neg c_1, if_neg c_2, if_neg c_3, if_pos c_4], Or.inr rfl⟩
        · by_cases c_5 : x0 = 321
          · refine lv_lookup (off := 203) (tgt := 204) hx hb d_Csrs_isTold_1 rfl (by rw [c_5]; rfl) (by decide) ?_
            refine lv_iconst (v := 1) hx hb d_Csrs_isTold_204 rfl ?_
            exact rz () hx hb hr hlocks rfl hP hD hS d_Csrs_isTold_205 ⟨by simp only [sp_Csrs_isTold, if_neg c_1, if_neg c_2, if_neg c_3, if_neg c_4, if_pos c_5], Or.inr rfl⟩
          · by_cases c_6 : x0 = 322
            · refine lv_lookup (off := 203) (tgt := 204) hx hb d_Csrs_isTold_1 rfl (by rw [c_6]; rfl) (by decide) ?_
              refine lv_iconst (v := 1) hx hb d_Csrs_isTold_204 rfl ?_
              exact rz () hx hb hr hlocks rfl hP hD hS d_Csrs_isTold_205 ⟨by simp only [sp_Csrs_isTold, if_neg c_1, if_neg c_2, if_neg c_3, if_neg c_4, if_neg c_5, if_pos c_6], Or.inr rfl⟩
            · by_cases c_7 : x0 = 323
              · refine lv_lookup (off := 203) (tgt := 204) hx hb d_Csrs_isTold_1 rfl (by rw [c_7]; rfl) (by decide) ?_
                refine lv_iconst (v := 1) hx hb d_Csrs_isTold_204 rfl ?_
                exact rz () hx hb hr hlocks rfl hP hD hS d_Csrs_isTold_205 ⟨by simp only [sp_Csrs_isTold, if_neg c_1, if_neg c_2, if_neg c_3, if_neg c_4, if_neg c_5, if_neg c_6, if_pos c_7], Or.inr rfl⟩
              · by_cases c_8 : x0 = 324
                · refine lv_lookup (off := 203) (tgt := 204) hx hb d_Csrs_isTold_1 rfl (by rw [c_8]; rfl) (by decide) ?_
                  refine lv_iconst (v := 1) hx hb d_Csrs_isTold_204 rfl ?_
                  exact rz () hx hb hr hlocks rfl hP hD hS d_Csrs_isTold_205 ⟨by simp only [sp_Csrs_isTold, if_neg c_1, if_neg c_2, if_neg c_3, if_neg c_4, if_neg c_5, if_neg c_6, if_neg c_7, if_pos c_8], Or.inr rfl⟩
                · by_cases c_9 : x0 = 384
                  · refine lv_lookup (off := 203) (tgt := 204) hx hb d_Csrs_isTold_1 rfl (by rw [c_9]; rfl) (by decide) ?_
                    refine lv_iconst (v := 1) hx hb d_Csrs_isTold_204 rfl ?_
                    exact rz () hx hb hr hlocks rfl hP hD hS d_Csrs_isTold_205 ⟨by simp only [sp_Csrs_isTold, if_neg c_1, if_neg c_2, if_neg c_3, if_neg c_4, if_neg c_5, if_neg c_6, if_neg c_7, if_neg c_8, if_pos c_9], Or.inr rfl⟩
                  · by_cases c_10 : x0 = 768
                    · refine lv_lookup (off := 203) (tgt := 204) hx hb d_Csrs_isTold_1 rfl (by rw [c_10]; rfl) (by decide) ?_
                      refine lv_iconst (v := 1) hx hb d_Csrs_isTold_204 rfl ?_
                      exact rz () hx hb hr hlocks rfl hP hD hS d_Csrs_isTold_205 ⟨by simp only [sp_Csrs_isTold, if_neg c_1, if_neg c_2, if_neg c_3, if_neg c_4, if_neg c_5, if_neg c_6, if_neg c_7, if_neg c_8, if_neg c_9, if_pos c_10], Or.inr rfl⟩
                    · by_cases c_11 : x0 = 769
                      · refine lv_lookup (off := 203) (tgt := 204) hx hb d_Csrs_isTold_1 rfl (by rw [c_11]; rfl) (by decide) ?_
                        refine lv_iconst (v := 1) hx hb d_Csrs_isTold_204 rfl ?_
                        exact rz () hx hb hr hlocks rfl hP hD hS d_Csrs_isTold_205 ⟨by simp only [sp_Csrs_isTold, if_neg c_1, if_neg c_2, if_neg c_3, if_neg c_4, if_neg c_5, if_neg c_6, if_neg c_7, if_neg c_8, if_neg c_9, if_neg c_10, if_pos c_11], Or.inr rfl⟩
                      · by_cases c_12 : x0 = 770
                        · refine lv_lookup (off := 203) (tgt := 204) hx hb d_Csrs_isTold_1 rfl (by rw [c_12]; rfl) (by decide) ?_
                          refine lv_iconst (v := 1) hx hb d_Csrs_isTold_204 rfl ?_
                          exact rz () hx hb hr hlocks rfl hP hD hS d_Csrs_isTold_205 ⟨by simp only [sp_Csrs_isTold, if_neg c_1, if_neg c_2, if_neg c_3, if_neg c_4, if_neg c_5, if_neg c_6, if_neg c_7, if_neg c_8, if_neg c_9, if_neg c_10, if_neg c_11, if_pos c_12], Or.inr rfl⟩
                        · by_cases c_13 : x0 = 771
                          · refine lv_lookup (off := 203) (tgt := 204) hx hb d_Csrs_isTold_1 rfl (by rw [c_13]; rfl) (by decide) ?_
                            refine lv_iconst (v := 1) hx hb d_Csrs_isTold_204 rfl ?_
                            exact rz () hx hb hr hlocks rfl hP hD hS d_Csrs_isTold_205 ⟨by simp only [sp_Csrs_isTold, if_neg c_1, if_neg c_2, if_neg c_3, if_neg c_4, if_neg c_5, if_neg c_6, if_neg c_7, if_neg c_8, if_neg c_9, if_neg c_10, if_neg c_11, if_neg c_12, if_pos c_13], Or.inr rfl⟩
                          · by_cases c_14 : x0 = 772
                            · refine lv_lookup (off := 203) (tgt := 204) hx hb d_Csrs_isTold_1 rfl (by rw [c_14]; rfl) (by decide) ?_
                              refine lv_iconst (v := 1) hx hb d_Csrs_isTold_204 rfl ?_
                              exact rz () hx hb hr hlocks rfl hP hD hS d_Csrs_isTold_205 ⟨by simp only [sp_Csrs_isTold, if_neg c_1, if_neg c_2, if_neg c_3, if_neg c_4, if_neg c_5, if_neg c_6, if_neg c_7, if_neg c_8, if_neg c_9, if_neg c_10, if_neg c_11, if_neg c_12, if_neg c_13, if_pos c_14], Or.inr rfl⟩
                            · by_cases c_15 : x0 = 773
                              · refine lv_lookup (off := 203) (tgt := 204) hx hb d_Csrs_isTold_1 rfl (by rw [c_15]; rfl) (by decide) ?_
                                refine lv_iconst (v := 1) hx hb d_Csrs_isTold_204 rfl ?_
                                exact rz () hx hb hr hlocks rfl hP hD hS d_Csrs_isTold_205 ⟨by simp only [sp_Csrs_isTold, if_neg c_1, if_neg c_2, if_neg c_3, if_neg c_4, if_neg c_5, if_neg c_6, if_neg c_7, if_neg c_8, if_neg c_9, if_neg c_10, if_neg c_11, if_neg c_12, if_neg c_13, if_neg c_14, if_pos c_15], Or.inr rfl⟩
                              · by_cases c_16 : x0 = 832
                                · refine lv_lookup (off := 203) (tgt := 204) hx hb d_Csrs_isTold_1 rfl (by rw [c_16]; rfl) (by decide) ?_
                                  refine lv_iconst (v := 1) hx hb d_Csrs_isTold_204 rfl ?_
                                  exact rz () hx hb hr hlocks rfl hP hD hS d_Csrs_isTold_205 ⟨by simp only [sp_Csrs_isTold, if_neg c_1, if_neg c_2, if_neg c_3, if_neg c_4, if_neg c_5, if_neg c_6, if_neg c_7, if_neg c_8, if_neg c_9, if_neg c_10, if_neg c_11, if_neg c_12, if_neg c_13, if_neg c_14, if_neg c_15, if_pos c_16], Or.inr rfl⟩
                                · by_cases c_17 : x0 = 833
                                  · refine lv_lookup (off := 203) (tgt := 204) hx hb d_Csrs_isTold_1 rfl (by rw [c_17]; rfl) (by decide) ?_
                                    refine lv_iconst (v := 1) hx hb d_Csrs_isTold_204 rfl ?_
                                    exact rz () hx hb hr hlocks rfl hP hD hS d_Csrs_isTold_205 ⟨by simp only [sp_Csrs_isTold, if_neg c_1, if_neg c_2, if_neg c_3, if_neg c_4, if_neg c_5, if_neg c_6, if_neg c_7, if_neg c_8, if_neg c_9, if_neg c_10, if_neg c_11, if_neg c_12, if_neg c_13, if_neg c_14, if_neg c_15, if_neg c_16, if_pos c_17], Or.inr rfl⟩
                                  · by_cases c_18 : x0 = 834
                                    · refine lv_lookup (off := 203) (tgt := 204) hx hb d_Csrs_isTold_1 rfl (by rw [c_18]; rfl) (by decide) ?_
                                      refine lv_iconst (v := 1) hx hb d_Csrs_isTold_204 rfl ?_
                                      exact rz () hx hb hr hlocks rfl hP hD hS d_Csrs_isTold_205 ⟨by simp only [sp_Csrs_isTold, if_neg c_1, if_neg c_2, if_neg c_3, if_neg c_4, if_neg c_5, if_neg c_6, if_neg c_7, if_neg c_8, if_neg c_9, if_neg c_10, if_neg c_11, if_neg c_12, if_neg c_13, if_neg c_14, if_neg c_15, if_neg c_16, if_neg c_17, if_pos c_18], Or.inr rfl⟩
                                    · by_cases c_19 : x0 = 835
                                      · refine lv_lookup (off := 203) (tgt := 204) hx hb d_Csrs_isTold_1 rfl (by rw [c_19]; rfl) (by decide) ?_
                                        refine lv_iconst (v := 1) hx hb d_Csrs_isTold_204 rfl ?_
                                        exact rz () hx hb hr hlocks rfl hP hD hS d_Csrs_isTold_205 ⟨by simp only [sp_Csrs_isTold, if_neg c_1, if_neg c_2, if_neg c_3, if_neg c_4, if_neg c_5, if_neg c_6, if_neg c_7, if_neg c_8, if_neg c_9, if_neg c_10, if_neg c_11, if_neg c_12, if_neg c_13, if_neg c_14, if_neg c_15, if_neg c_16, if_neg c_17, if_neg c_18, if_pos c_19], Or.inr rfl⟩
                                      · by_cases c_20 : x0 = 836
                                        · refine lv_lookup (off := 203) (tgt := 204) hx hb d_Csrs_isTold_1 rfl (by rw [c_20]; rfl) (by decide) ?_
                                          refine lv_iconst (v := 1) hx hb d_Csrs_isTold_204 rfl ?_
                                          exact rz () hx hb hr hlocks rfl hP hD hS d_Csrs_isTold_205 ⟨by simp only [sp_Csrs_isTold, if_neg c_1, if_neg c_2, if_neg c_3, if_neg c_4, if_neg c_5, if_neg c_6, if_neg c_7, if_neg c_8, if_neg c_9, if_neg c_10, if_neg c_11, if_neg c_12, if_neg c_13, if_neg c_14, if_neg c_15, if_neg c_16, if_neg c_17, if_neg c_18, if_neg c_19, if_pos c_20], Or.inr rfl⟩
                                        · by_cases c_21 : x0 = 3857
                                          · refine lv_lookup (off := 203) (tgt := 204) hx hb d_Csrs_isTold_1 rfl (by rw [c_21]; rfl) (by decide) ?_
                                            refine lv_iconst (v := 1) hx hb d_Csrs_isTold_204 rfl ?_
                                            exact rz () hx hb hr hlocks rfl hP hD hS d_Csrs_isTold_205 ⟨by simp only [sp_Csrs_isTold, if_neg c_1, if_neg c_2, if_neg c_3, if_neg c_4, if_neg c_5, if_neg c_6, if_neg c_7, if_neg c_8, if_neg c_9, if_neg c_10, if_neg c_11, if_neg c_12, if_neg c_13, if_neg c_14, if_neg c_15, if_neg c_16, if_neg c_17, if_neg c_18, if_neg c_19, if_neg c_20, if_pos c_21], Or.inr rfl⟩
                                          · by_cases c_22 : x0 = 3858
                                            · refine lv_lookup (off := 203) (tgt := 204) hx hb d_Csrs_isTold_1 rfl (by rw [c_22]; rfl) (by decide) ?_
                                              refine lv_iconst (v := 1) hx hb d_Csrs_isTold_204 rfl ?_
                                              exact rz () hx hb hr hlocks rfl hP hD hS d_Csrs_isTold_205 ⟨by simp only [sp_Csrs_isTold, if_neg c_1, if_neg c_2, if_neg c_3, if_neg c_4, if_neg c_5, if_neg c_6, if_neg c_7, if_neg c_8, if_neg c_9, if_neg c_10, if_neg c_11, if_neg c_12, if_neg c_13, if_neg c_14, if_neg c_15, if_neg c_16, if_neg c_17, if_neg c_18, if_neg c_19, if_neg c_20, if_neg c_21, if_pos c_22], Or.inr rfl⟩
                                            · by_cases c_23 : x0 = 3859
                                              · refine lv_lookup (off := 203) (tgt := 204) hx hb d_Csrs_isTold_1 rfl (by rw [c_23]; rfl) (by decide) ?_
                                                refine lv_iconst (v := 1) hx hb d_Csrs_isTold_204 rfl ?_
                                                exact rz () hx hb hr hlocks rfl hP hD hS d_Csrs_isTold_205 ⟨by simp only [sp_Csrs_isTold, if_neg c_1, if_neg c_2, if_neg c_3, if_neg c_4, if_neg c_5, if_neg c_6, if_neg c_7, if_neg c_8, if_neg c_9, if_neg c_10, if_neg c_11, if_neg c_12, if_neg c_13, if_neg c_14, if_neg c_15, if_neg c_16, if_neg c_17, if_neg c_18, if_neg c_19, if_neg c_20, if_neg c_21, if_neg c_22, if_pos c_23], Or.inr rfl⟩
                                              · by_cases c_24 : x0 = 3860
                                                · refine lv_lookup (off := 203) (tgt := 204) hx hb d_Csrs_isTold_1 rfl (by rw [c_24]; rfl) (by decide) ?_
                                                  refine lv_iconst (v := 1) hx hb d_Csrs_isTold_204 rfl ?_
                                                  exact rz () hx hb hr hlocks rfl hP hD hS d_Csrs_isTold_205 ⟨by simp only [sp_Csrs_isTold, if_neg c_1, if_neg c_2, if_neg c_3, if_neg c_4, if_neg c_5, if_neg c_6, if_neg c_7, if_neg c_8, if_neg c_9, if_neg c_10, if_neg c_11, if_neg c_12, if_neg c_13, if_neg c_14, if_neg c_15, if_neg c_16, if_neg c_17, if_neg c_18, if_neg c_19, if_neg c_20, if_neg c_21, if_neg c_22, if_neg c_23, if_pos c_24], Or.inr rfl⟩
                                                · refine lv_lookup (off := 205) (tgt := 206) hx hb d_Csrs_isTold_1 rfl ((lv_osw (a := 256) c_1 rfl).trans ((lv_osw (a := 260) c_2 rfl).trans ((lv_osw (a := 261) c_3 rfl).trans ((lv_osw (a := 320) c_4 rfl).trans ((lv_osw (a := 321) c_5 rfl).trans ((lv_osw (a := 322) c_6 rfl).trans ((lv_osw (a := 323) c_7 rfl).trans ((lv_osw (a := 324) c_8 rfl).trans ((lv_osw (a := 384) c_9 rfl).trans ((lv_osw (a := 768) c_10 rfl).trans ((lv_osw (a := 769) c_11 rfl).trans ((lv_osw (a := 770) c_12 rfl).trans ((lv_osw (a := 771) c_13 rfl).trans ((lv_osw (a := 772) c_14 rfl).trans ((lv_osw (a := 773) c_15 rfl).trans ((lv_osw (a := 832) c_16 rfl).trans ((lv_osw (a := 833) c_17 rfl).trans ((lv_osw (a := 834) c_18 rfl).trans ((lv_osw (a := 835) c_19 rfl).trans ((lv_osw (a := 836) c_20 rfl).trans ((lv_osw (a := 3857) c_21 rfl).trans ((lv_osw (a := 3858) c_22 rfl).trans ((lv_osw (a := 3859) c_23 rfl).trans ((lv_osw (a := 3860) c_24 rfl).trans (rfl))))))))))))))))))))))))) (by decide) ?_
                                                  refine lv_iconst (v := 0) hx hb d_Csrs_isTold_206 rfl ?_
                                                  exact rz () hx hb hr hlocks rfl hP hD hS d_Csrs_isTold_207 ⟨by simp only [sp_Csrs_isTold, if_neg c_1, if_neg c_2, if_neg c_3, if_neg c_4, if_neg c_5, if_neg c_6, if_neg c_7, if_neg c_8, if_neg c_9, if_neg c_10, if_neg c_11, if_neg c_12, if_neg c_13, if_neg c_14, if_neg c_15, if_neg c_16, if_neg c_17, if_neg c_18, if_neg c_19, if_neg c_20, if_neg c_21, if_neg c_22, if_neg c_23, if_neg c_24], Or.inl rfl⟩
def sp_Csrs_isReadOnly (x0 : Int32)  : Int32 :=
  if (x0 &&& 3072) = 3072 then
    1
  else
    0
set_option maxHeartbeats 4000000 in
set_option maxRecDepth 100000 in
theorem c_Csrs_isReadOnly {l : Launch} {D : va_G} {g : Nat → Nat}  (x0 : Int32)   : CT l D g y_Csrs_isReadOnly b_Csrs_isReadOnly 1 (some .boolean) (rD 0) [.int x0] ([]) ([]) (Qi D (fun (r : Int32) (_ : Unit) => sp_Csrs_isReadOnly x0 = r ∧ (r = 0 ∨ r = 1)) (fun _ => [])) := by
  refine CT.of rfl (Nat.le_of_ble_eq_true rfl) (fun p e s m below meth c A ls hx hb hr hml hts hown hlocks hA hP hK hD hF hS hl => ?_)
  have hl : lv_has ls 1 [(0, .int x0)] := hl
  refine lv_iload_n hx hb d_Csrs_isReadOnly_0 rfl (lv_at hl 0 rfl) ?_
  refine lv_sipush (v := 3072) hx hb d_Csrs_isReadOnly_1 rfl ?_
  refine lv_iand hx hb d_Csrs_isReadOnly_4 ?_
  refine lv_sipush (v := 3072) hx hb d_Csrs_isReadOnly_5 rfl ?_
  refine lv_icmp_ne (tgt := 15) hx hb d_Csrs_isReadOnly_8 (by decide) (fun c_1 => ?_) (fun c_1 => ?_)
  · refine lv_iconst (v := 0) hx hb d_Csrs_isReadOnly_15 rfl ?_
    exact rz () hx hb hr hlocks rfl hP hD hS d_Csrs_isReadOnly_16 ⟨by simp only [sp_Csrs_isReadOnly, if_neg c_1], Or.inl rfl⟩
  · refine lv_iconst (v := 1) hx hb d_Csrs_isReadOnly_11 rfl ?_
    refine lv_goto (tgt := 16) hx hb d_Csrs_isReadOnly_12 (by decide) ?_
    exact rz () hx hb hr hlocks rfl hP hD hS d_Csrs_isReadOnly_16 ⟨by simp only [sp_Csrs_isReadOnly, if_pos c_1], Or.inr rfl⟩
def sp_Csrs_isAllowed (x0 : Int32) (x1 : Int32) (x2 : Int32)  : Int32 :=
  if (sp_Csrs_isTold x0) = 0 then
    0
  else
    if x1 < ((shr x0 8) &&& 3) then
      0
    else
      if x2 = 0 then
        1
      else
        if (sp_Csrs_isReadOnly x0) = 0 then
          1
        else
          0
set_option maxHeartbeats 4000000 in
set_option maxRecDepth 100000 in
theorem c_Csrs_isAllowed {l : Launch} {D : va_G} {g : Nat → Nat}  (x0 : Int32) (x1 : Int32) (x2 : Int32)   : CT l D g y_Csrs_isAllowed b_Csrs_isAllowed 3 (some .boolean) (rD 1) [.int x0, .int x1, .int x2] ([]) ([]) (Qi D (fun (r : Int32) (_ : Unit) => sp_Csrs_isAllowed x0 x1 x2 = r ∧ (r = 0 ∨ r = 1)) (fun _ => [])) := by
  refine CT.of rfl (Nat.le_of_ble_eq_true rfl) (fun p e s m below meth c A ls hx hb hr hml hts hown hlocks hA hP hK hD hF hS hl => ?_)
  have hl : lv_has ls 3 [(0, .int x0), (1, .int x1), (2, .int x2)] := hl
  refine lv_iload_n hx hb d_Csrs_isAllowed_0 rfl (lv_at hl 0 rfl) ?_
  refine xi (wr := []) (W2 := fun _ => []) (xS (rest := []) ⟨hx, hb, hml, hown, hts⟩ (c_Csrs_isTold x0) mw_Csrs_isTold ms_Csrs_isTold k_521 ⟨rfl, rfl, Nat.le_of_ble_eq_true rfl, Nat.le_of_ble_eq_true rfl⟩ hK hP hD hS hA hF [] [] rfl rfl rfl rfl hl.1 rfl (Nat.le_of_ble_eq_true rfl) d_Csrs_isAllowed_1 ⟨Nat.zero_le _, Nat.zero_le _⟩) hP hD hS hA [] [] [] rfl rfl rfl (by decide) (fun _ => rfl) rfl (fun r_1 _ H locs h_1 hP hD hS => ?_)
  obtain ⟨h_1, z_1⟩ := h_1
  subst h_1
  refine lv_if_eq (tgt := 32) hx hb d_Csrs_isAllowed_4 (by decide) (fun c_2 => ?_) (fun c_2 => ?_)
  · refine lv_iconst (v := 0) hx hb d_Csrs_isAllowed_32 rfl ?_
    exact rz () hx hb hr hlocks rfl hP hD hS d_Csrs_isAllowed_33 ⟨by simp only [sp_Csrs_isAllowed, if_pos c_2], Or.inl rfl⟩
  · refine lv_iload_n hx hb d_Csrs_isAllowed_7 rfl (lv_at hl 1 rfl) ?_
    refine lv_iload_n hx hb d_Csrs_isAllowed_8 rfl (lv_at hl 0 rfl) ?_
    refine lv_bipush (v := 8) hx hb d_Csrs_isAllowed_9 rfl ?_
    refine y_ishr hx hb d_Csrs_isAllowed_11 ?_
    refine lv_iconst (v := 3) hx hb d_Csrs_isAllowed_12 rfl ?_
    refine lv_iand hx hb d_Csrs_isAllowed_13 ?_
    refine lv_icmp_lt (tgt := 32) hx hb d_Csrs_isAllowed_14 (by decide) (fun c_3 => ?_) (fun c_3 => ?_)
    · refine lv_iconst (v := 0) hx hb d_Csrs_isAllowed_32 rfl ?_
      exact rz () hx hb hr hlocks rfl hP hD hS d_Csrs_isAllowed_33 ⟨by simp only [sp_Csrs_isAllowed, if_neg c_2, if_pos c_3], Or.inl rfl⟩
    · refine lv_iload_n hx hb d_Csrs_isAllowed_17 rfl (lv_at hl 2 rfl) ?_
      refine lv_if_eq (tgt := 28) hx hb d_Csrs_isAllowed_18 (by decide) (fun c_4 => ?_) (fun c_4 => ?_)
      · refine lv_iconst (v := 1) hx hb d_Csrs_isAllowed_28 rfl ?_
        refine lv_goto (tgt := 33) hx hb d_Csrs_isAllowed_29 (by decide) ?_
        exact rz () hx hb hr hlocks rfl hP hD hS d_Csrs_isAllowed_33 ⟨by simp only [sp_Csrs_isAllowed, if_neg c_2, if_neg c_3, if_pos c_4], Or.inr rfl⟩
      · refine lv_iload_n hx hb d_Csrs_isAllowed_21 rfl (lv_at hl 0 rfl) ?_
        refine xi (wr := []) (W2 := fun _ => []) (xS (rest := []) ⟨hx, hb, hml, hown, hts⟩ (c_Csrs_isReadOnly x0) mw_Csrs_isReadOnly ms_Csrs_isReadOnly k_524 ⟨rfl, rfl, Nat.le_of_ble_eq_true rfl, Nat.le_of_ble_eq_true rfl⟩ hK hP hD hS hA hF [] [] rfl rfl rfl rfl hl.1 rfl (Nat.le_of_ble_eq_true rfl) d_Csrs_isAllowed_22 ⟨Nat.zero_le _, Nat.zero_le _⟩) hP hD hS hA [] [] [] rfl rfl rfl (by decide) (fun _ => rfl) rfl (fun r_5 _ H locs h_5 hP hD hS => ?_)
        obtain ⟨h_5, z_5⟩ := h_5
        subst h_5
        refine lv_if_ne (tgt := 32) hx hb d_Csrs_isAllowed_25 (by decide) (fun c_6 => ?_) (fun c_6 => ?_)
        · refine lv_iconst (v := 0) hx hb d_Csrs_isAllowed_32 rfl ?_
          exact rz () hx hb hr hlocks rfl hP hD hS d_Csrs_isAllowed_33 ⟨by simp only [sp_Csrs_isAllowed, if_neg c_2, if_neg c_3, if_neg c_4, if_neg c_6], Or.inl rfl⟩
        · refine lv_iconst (v := 1) hx hb d_Csrs_isAllowed_28 rfl ?_
          refine lv_goto (tgt := 33) hx hb d_Csrs_isAllowed_29 (by decide) ?_
          exact rz () hx hb hr hlocks rfl hP hD hS d_Csrs_isAllowed_33 ⟨by simp only [sp_Csrs_isAllowed, if_neg c_2, if_neg c_3, if_neg c_4, if_pos c_6], Or.inr rfl⟩
def sp_Csrs_read (x0 : Int32) (x1 : Int32) (q : Nat → Int32) : Int32 :=
  if x0 = 256 then
    (q 1) &&& 786722
  else
    if x0 = 260 then
      (q 4) &&& (q 3)
    else
      if x0 = 261 then
        q 11
      else
        if x0 = 320 then
          q 13
        else
          if x0 = 321 then
            q 12
          else
            if x0 = 322 then
              q 14
            else
              if x0 = 323 then
                q 15
              else
                if x0 = 324 then
                  ((q 10) ||| x1) &&& (q 3)
                else
                  if x0 = 384 then
                    q 16
                  else
                    if x0 = 768 then
                      q 1
                    else
                      if x0 = 769 then
                        1075056897
                      else
                        if x0 = 770 then
                          q 2
                        else
                          if x0 = 771 then
                            q 3
                          else
                            if x0 = 772 then
                              q 4
                            else
                              if x0 = 773 then
                                q 5
                              else
                                if x0 = 832 then
                                  q 7
                                else
                                  if x0 = 833 then
                                    q 6
                                  else
                                    if x0 = 834 then
                                      q 8
                                    else
                                      if x0 = 835 then
                                        q 9
                                      else
                                        if x0 = 836 then
                                          (q 10) ||| x1
                                        else
                                          if x0 = 3860 then
                                            q 0
                                          else
                                            0
set_option maxHeartbeats 4000000 in
set_option maxRecDepth 100000 in
theorem c_Csrs_read {l : Launch} {D : va_G} {g : Nat → Nat} (h : Nat) (x0 : Int32) (x1 : Int32) (q : Nat → Int32)  : CT l D g y_Csrs_read b_Csrs_read 3 (some .int) (rD 0) [.ref h, .int x0, .int x1] (wC h q) ([]) (Qi D (fun (r : Int32) (_ : Unit) => sp_Csrs_read x0 x1 q = r) (fun _ => wC h q)) := by
  refine CT.of rfl (Nat.le_of_ble_eq_true rfl) (fun p e s m below meth c A ls hx hb hr hml hts hown hlocks hA hP hK hD hF hS hl => ?_)
  have hl : lv_has ls 3 [(0, .ref h), (1, .int x0), (2, .int x1)] := hl
  refine lv_iload_n hx hb d_Csrs_read_0 rfl (lv_at hl 1 rfl) ?_
  by_cases c_1 : x0 = 256
  · refine lv_lookup (off := 179) (tgt := 180) hx hb d_Csrs_read_1 rfl (by rw [c_1]; rfl) (by decide) ?_
    refine lv_aload_n hx hb d_Csrs_read_180 rfl (lv_at hl 0 rfl) ?_
    refine va_get (D := D) (ci := 3) (v := .int (q 1)) (C := R_Csrs) (T := F_Csrs) (N := 17) hx hb hts i_Csrs hown hK hP 0 rfl rfl 1 (by decide) (hts _ k_89) (fun _ h9 => h9) rfl d_Csrs_read_181 ?_
    refine lv_ldc (v := 786722) hx hb hown (hts _ k_531) d_Csrs_read_184 ?_
    refine lv_iand hx hb d_Csrs_read_186 ?_
    exact ri () hx hb hr hlocks hP hD hS d_Csrs_read_187 (by simp only [sp_Csrs_read, if_pos c_1])
  · by_cases c_2 : x0 = 260
    · refine lv_lookup (off := 187) (tgt := 188) hx hb d_Csrs_read_1 rfl (by rw [c_2]; rfl) (by decide) ?_
      refine lv_aload_n hx hb d_Csrs_read_188 rfl (lv_at hl 0 rfl) ?_
      refine va_get (D := D) (ci := 3) (v := .int (q 4)) (C := R_Csrs) (T := F_Csrs) (N := 17) hx hb hts i_Csrs hown hK hP 0 rfl rfl 4 (by decide) (hts _ k_93) (fun _ h9 => h9) rfl d_Csrs_read_189 ?_
      refine lv_aload_n hx hb d_Csrs_read_192 rfl (lv_at hl 0 rfl) ?_
      refine va_get (D := D) (ci := 3) (v := .int (q 3)) (C := R_Csrs) (T := F_Csrs) (N := 17) hx hb hts i_Csrs hown hK hP 0 rfl rfl 3 (by decide) (hts _ k_92) (fun _ h9 => h9) rfl d_Csrs_read_193 ?_
      refine lv_iand hx hb d_Csrs_read_196 ?_
      exact ri () hx hb hr hlocks hP hD hS d_Csrs_read_197 (by simp only [sp_Csrs_read, if_neg c_1, if_pos c_2])
    · by_cases c_3 : x0 = 261
      · refine lv_lookup (off := 197) (tgt := 198) hx hb d_Csrs_read_1 rfl (by rw [c_3]; rfl) (by decide) ?_
        refine lv_aload_n hx hb d_Csrs_read_198 rfl (lv_at hl 0 rfl) ?_
        refine va_get (D := D) (ci := 3) (v := .int (q 11)) (C := R_Csrs) (T := F_Csrs) (N := 17) hx hb hts i_Csrs hown hK hP 0 rfl rfl 11 (by decide) (hts _ k_101) (fun _ h9 => h9) rfl d_Csrs_read_199 ?_
        exact ri () hx hb hr hlocks hP hD hS d_Csrs_read_202 (by simp only [sp_Csrs_read, if_neg c_1, if_neg c_2, if_pos c_3])
      · by_cases c_4 : x0 = 320
        · refine lv_lookup (off := 202) (tgt := 203) hx hb d_Csrs_read_1 rfl (by rw [c_4]; rfl) (by decide) ?_
          refine lv_aload_n hx hb d_Csrs_read_203 rfl (lv_at hl 0 rfl) ?_
          refine va_get (D := D) (ci := 3) (v := .int (q 13)) (C := R_Csrs) (T := F_Csrs) (N := 17) hx hb hts i_Csrs hown hK hP 0 rfl rfl 13 (by decide) (hts _ k_104) (fun _ h9 => h9) rfl d_Csrs_read_204 ?_
          exact ri () hx hb hr hlocks hP hD hS d_Csrs_read_207 (by simp only [sp_Csrs_read, if_neg c_1, if_neg c_2, if_neg c_3, if_pos c_4])
        · by_cases c_5 : x0 = 321
          · refine lv_lookup (off := 207) (tgt := 208) hx hb d_Csrs_read_1 rfl (by rw [c_5]; rfl) (by decide) ?_
            refine lv_aload_n hx hb d_Csrs_read_208 rfl (lv_at hl 0 rfl) ?_
            refine va_get (D := D) (ci := 3) (v := .int (q 12)) (C := R_Csrs) (T := F_Csrs) (N := 17) hx hb hts i_Csrs hown hK hP 0 rfl rfl 12 (by decide) (hts _ k_102) (fun _ h9 => h9) rfl d_Csrs_read_209 ?_
            exact ri () hx hb hr hlocks hP hD hS d_Csrs_read_212 (by simp only [sp_Csrs_read, if_neg c_1, if_neg c_2, if_neg c_3, if_neg c_4, if_pos c_5])
          · by_cases c_6 : x0 = 322
            · refine lv_lookup (off := 212) (tgt := 213) hx hb d_Csrs_read_1 rfl (by rw [c_6]; rfl) (by decide) ?_
              refine lv_aload_n hx hb d_Csrs_read_213 rfl (lv_at hl 0 rfl) ?_
              refine va_get (D := D) (ci := 3) (v := .int (q 14)) (C := R_Csrs) (T := F_Csrs) (N := 17) hx hb hts i_Csrs hown hK hP 0 rfl rfl 14 (by decide) (hts _ k_105) (fun _ h9 => h9) rfl d_Csrs_read_214 ?_
              exact ri () hx hb hr hlocks hP hD hS d_Csrs_read_217 (by simp only [sp_Csrs_read, if_neg c_1, if_neg c_2, if_neg c_3, if_neg c_4, if_neg c_5, if_pos c_6])
            · by_cases c_7 : x0 = 323
              · refine lv_lookup (off := 217) (tgt := 218) hx hb d_Csrs_read_1 rfl (by rw [c_7]; rfl) (by decide) ?_
                refine lv_aload_n hx hb d_Csrs_read_218 rfl (lv_at hl 0 rfl) ?_
                refine va_get (D := D) (ci := 3) (v := .int (q 15)) (C := R_Csrs) (T := F_Csrs) (N := 17) hx hb hts i_Csrs hown hK hP 0 rfl rfl 15 (by decide) (hts _ k_106) (fun _ h9 => h9) rfl d_Csrs_read_219 ?_
                exact ri () hx hb hr hlocks hP hD hS d_Csrs_read_222 (by simp only [sp_Csrs_read, if_neg c_1, if_neg c_2, if_neg c_3, if_neg c_4, if_neg c_5, if_neg c_6, if_pos c_7])
              · by_cases c_8 : x0 = 324
                · refine lv_lookup (off := 222) (tgt := 223) hx hb d_Csrs_read_1 rfl (by rw [c_8]; rfl) (by decide) ?_
                  refine lv_aload_n hx hb d_Csrs_read_223 rfl (lv_at hl 0 rfl) ?_
                  refine va_get (D := D) (ci := 3) (v := .int (q 10)) (C := R_Csrs) (T := F_Csrs) (N := 17) hx hb hts i_Csrs hown hK hP 0 rfl rfl 10 (by decide) (hts _ k_100) (fun _ h9 => h9) rfl d_Csrs_read_224 ?_
                  refine lv_iload_n hx hb d_Csrs_read_227 rfl (lv_at hl 2 rfl) ?_
                  refine lv_ior hx hb d_Csrs_read_228 ?_
                  refine lv_aload_n hx hb d_Csrs_read_229 rfl (lv_at hl 0 rfl) ?_
                  refine va_get (D := D) (ci := 3) (v := .int (q 3)) (C := R_Csrs) (T := F_Csrs) (N := 17) hx hb hts i_Csrs hown hK hP 0 rfl rfl 3 (by decide) (hts _ k_92) (fun _ h9 => h9) rfl d_Csrs_read_230 ?_
                  refine lv_iand hx hb d_Csrs_read_233 ?_
                  exact ri () hx hb hr hlocks hP hD hS d_Csrs_read_234 (by simp only [sp_Csrs_read, if_neg c_1, if_neg c_2, if_neg c_3, if_neg c_4, if_neg c_5, if_neg c_6, if_neg c_7, if_pos c_8])
                · by_cases c_9 : x0 = 384
                  · refine lv_lookup (off := 234) (tgt := 235) hx hb d_Csrs_read_1 rfl (by rw [c_9]; rfl) (by decide) ?_
                    refine lv_aload_n hx hb d_Csrs_read_235 rfl (lv_at hl 0 rfl) ?_
                    refine va_get (D := D) (ci := 3) (v := .int (q 16)) (C := R_Csrs) (T := F_Csrs) (N := 17) hx hb hts i_Csrs hown hK hP 0 rfl rfl 16 (by decide) (hts _ k_107) (fun _ h9 => h9) rfl d_Csrs_read_236 ?_
                    exact ri () hx hb hr hlocks hP hD hS d_Csrs_read_239 (by simp only [sp_Csrs_read, if_neg c_1, if_neg c_2, if_neg c_3, if_neg c_4, if_neg c_5, if_neg c_6, if_neg c_7, if_neg c_8, if_pos c_9])
                  · by_cases c_10 : x0 = 768
                    · refine lv_lookup (off := 239) (tgt := 240) hx hb d_Csrs_read_1 rfl (by rw [c_10]; rfl) (by decide) ?_
                      refine lv_aload_n hx hb d_Csrs_read_240 rfl (lv_at hl 0 rfl) ?_
                      refine va_get (D := D) (ci := 3) (v := .int (q 1)) (C := R_Csrs) (T := F_Csrs) (N := 17) hx hb hts i_Csrs hown hK hP 0 rfl rfl 1 (by decide) (hts _ k_89) (fun _ h9 => h9) rfl d_Csrs_read_241 ?_
                      exact ri () hx hb hr hlocks hP hD hS d_Csrs_read_244 (by simp only [sp_Csrs_read, if_neg c_1, if_neg c_2, if_neg c_3, if_neg c_4, if_neg c_5, if_neg c_6, if_neg c_7, if_neg c_8, if_neg c_9, if_pos c_10])
                    · by_cases c_11 : x0 = 769
                      · refine lv_lookup (off := 244) (tgt := 245) hx hb d_Csrs_read_1 rfl (by rw [c_11]; rfl) (by decide) ?_
                        refine lv_ldc (v := 1075056897) hx hb hown (hts _ k_532) d_Csrs_read_245 ?_
                        exact ri () hx hb hr hlocks hP hD hS d_Csrs_read_247 (by simp only [sp_Csrs_read, if_neg c_1, if_neg c_2, if_neg c_3, if_neg c_4, if_neg c_5, if_neg c_6, if_neg c_7, if_neg c_8, if_neg c_9, if_neg c_10, if_pos c_11])
                      · by_cases c_12 : x0 = 770
                        · refine lv_lookup (off := 247) (tgt := 248) hx hb d_Csrs_read_1 rfl (by rw [c_12]; rfl) (by decide) ?_
                          refine lv_aload_n hx hb d_Csrs_read_248 rfl (lv_at hl 0 rfl) ?_
                          refine va_get (D := D) (ci := 3) (v := .int (q 2)) (C := R_Csrs) (T := F_Csrs) (N := 17) hx hb hts i_Csrs hown hK hP 0 rfl rfl 2 (by decide) (hts _ k_91) (fun _ h9 => h9) rfl d_Csrs_read_249 ?_
                          exact ri () hx hb hr hlocks hP hD hS d_Csrs_read_252 (by simp only [sp_Csrs_read, if_neg c_1, if_neg c_2, if_neg c_3, if_neg c_4, if_neg c_5, if_neg c_6, if_neg c_7, if_neg c_8, if_neg c_9, if_neg c_10, if_neg c_11, if_pos c_12])
                        · by_cases c_13 : x0 = 771
                          · refine lv_lookup (off := 252) (tgt := 253) hx hb d_Csrs_read_1 rfl (by rw [c_13]; rfl) (by decide) ?_
                            refine lv_aload_n hx hb d_Csrs_read_253 rfl (lv_at hl 0 rfl) ?_
                            refine va_get (D := D) (ci := 3) (v := .int (q 3)) (C := R_Csrs) (T := F_Csrs) (N := 17) hx hb hts i_Csrs hown hK hP 0 rfl rfl 3 (by decide) (hts _ k_92) (fun _ h9 => h9) rfl d_Csrs_read_254 ?_
                            exact ri () hx hb hr hlocks hP hD hS d_Csrs_read_257 (by simp only [sp_Csrs_read, if_neg c_1, if_neg c_2, if_neg c_3, if_neg c_4, if_neg c_5, if_neg c_6, if_neg c_7, if_neg c_8, if_neg c_9, if_neg c_10, if_neg c_11, if_neg c_12, if_pos c_13])
                          · by_cases c_14 : x0 = 772
                            · refine lv_lookup (off := 257) (tgt := 258) hx hb d_Csrs_read_1 rfl (by rw [c_14]; rfl) (by decide) ?_
                              refine lv_aload_n hx hb d_Csrs_read_258 rfl (lv_at hl 0 rfl) ?_
                              refine va_get (D := D) (ci := 3) (v := .int (q 4)) (C := R_Csrs) (T := F_Csrs) (N := 17) hx hb hts i_Csrs hown hK hP 0 rfl rfl 4 (by decide) (hts _ k_93) (fun _ h9 => h9) rfl d_Csrs_read_259 ?_
                              exact ri () hx hb hr hlocks hP hD hS d_Csrs_read_262 (by simp only [sp_Csrs_read, if_neg c_1, if_neg c_2, if_neg c_3, if_neg c_4, if_neg c_5, if_neg c_6, if_neg c_7, if_neg c_8, if_neg c_9, if_neg c_10, if_neg c_11, if_neg c_12, if_neg c_13, if_pos c_14])
                            · by_cases c_15 : x0 = 773
                              · refine lv_lookup (off := 262) (tgt := 263) hx hb d_Csrs_read_1 rfl (by rw [c_15]; rfl) (by decide) ?_
                                refine lv_aload_n hx hb d_Csrs_read_263 rfl (lv_at hl 0 rfl) ?_
                                refine va_get (D := D) (ci := 3) (v := .int (q 5)) (C := R_Csrs) (T := F_Csrs) (N := 17) hx hb hts i_Csrs hown hK hP 0 rfl rfl 5 (by decide) (hts _ k_94) (fun _ h9 => h9) rfl d_Csrs_read_264 ?_
                                exact ri () hx hb hr hlocks hP hD hS d_Csrs_read_267 (by simp only [sp_Csrs_read, if_neg c_1, if_neg c_2, if_neg c_3, if_neg c_4, if_neg c_5, if_neg c_6, if_neg c_7, if_neg c_8, if_neg c_9, if_neg c_10, if_neg c_11, if_neg c_12, if_neg c_13, if_neg c_14, if_pos c_15])
                              · by_cases c_16 : x0 = 832
                                · refine lv_lookup (off := 267) (tgt := 268) hx hb d_Csrs_read_1 rfl (by rw [c_16]; rfl) (by decide) ?_
                                  refine lv_aload_n hx hb d_Csrs_read_268 rfl (lv_at hl 0 rfl) ?_
                                  refine va_get (D := D) (ci := 3) (v := .int (q 7)) (C := R_Csrs) (T := F_Csrs) (N := 17) hx hb hts i_Csrs hown hK hP 0 rfl rfl 7 (by decide) (hts _ k_97) (fun _ h9 => h9) rfl d_Csrs_read_269 ?_
                                  exact ri () hx hb hr hlocks hP hD hS d_Csrs_read_272 (by simp only [sp_Csrs_read, if_neg c_1, if_neg c_2, if_neg c_3, if_neg c_4, if_neg c_5, if_neg c_6, if_neg c_7, if_neg c_8, if_neg c_9, if_neg c_10, if_neg c_11, if_neg c_12, if_neg c_13, if_neg c_14, if_neg c_15, if_pos c_16])
                                · by_cases c_17 : x0 = 833
                                  · refine lv_lookup (off := 272) (tgt := 273) hx hb d_Csrs_read_1 rfl (by rw [c_17]; rfl) (by decide) ?_
                                    refine lv_aload_n hx hb d_Csrs_read_273 rfl (lv_at hl 0 rfl) ?_
                                    refine va_get (D := D) (ci := 3) (v := .int (q 6)) (C := R_Csrs) (T := F_Csrs) (N := 17) hx hb hts i_Csrs hown hK hP 0 rfl rfl 6 (by decide) (hts _ k_95) (fun _ h9 => h9) rfl d_Csrs_read_274 ?_
                                    exact ri () hx hb hr hlocks hP hD hS d_Csrs_read_277 (by simp only [sp_Csrs_read, if_neg c_1, if_neg c_2, if_neg c_3, if_neg c_4, if_neg c_5, if_neg c_6, if_neg c_7, if_neg c_8, if_neg c_9, if_neg c_10, if_neg c_11, if_neg c_12, if_neg c_13, if_neg c_14, if_neg c_15, if_neg c_16, if_pos c_17])
                                  · by_cases c_18 : x0 = 834
                                    · refine lv_lookup (off := 277) (tgt := 278) hx hb d_Csrs_read_1 rfl (by rw [c_18]; rfl) (by decide) ?_
                                      refine lv_aload_n hx hb d_Csrs_read_278 rfl (lv_at hl 0 rfl) ?_
                                      refine va_get (D := D) (ci := 3) (v := .int (q 8)) (C := R_Csrs) (T := F_Csrs) (N := 17) hx hb hts i_Csrs hown hK hP 0 rfl rfl 8 (by decide) (hts _ k_98) (fun _ h9 => h9) rfl d_Csrs_read_279 ?_
                                      exact ri () hx hb hr hlocks hP hD hS d_Csrs_read_282 (by simp only [sp_Csrs_read, if_neg c_1, if_neg c_2, if_neg c_3, if_neg c_4, if_neg c_5, if_neg c_6, if_neg c_7, if_neg c_8, if_neg c_9, if_neg c_10, if_neg c_11, if_neg c_12, if_neg c_13, if_neg c_14, if_neg c_15, if_neg c_16, if_neg c_17, if_pos c_18])
                                    · by_cases c_19 : x0 = 835
                                      · refine lv_lookup (off := 282) (tgt := 283) hx hb d_Csrs_read_1 rfl (by rw [c_19]; rfl) (by decide) ?_
                                        refine lv_aload_n hx hb d_Csrs_read_283 rfl (lv_at hl 0 rfl) ?_
                                        refine va_get (D := D) (ci := 3) (v := .int (q 9)) (C := R_Csrs) (T := F_Csrs) (N := 17) hx hb hts i_Csrs hown hK hP 0 rfl rfl 9 (by decide) (hts _ k_99) (fun _ h9 => h9) rfl d_Csrs_read_284 ?_
                                        exact ri () hx hb hr hlocks hP hD hS d_Csrs_read_287 (by simp only [sp_Csrs_read, if_neg c_1, if_neg c_2, if_neg c_3, if_neg c_4, if_neg c_5, if_neg c_6, if_neg c_7, if_neg c_8, if_neg c_9, if_neg c_10, if_neg c_11, if_neg c_12, if_neg c_13, if_neg c_14, if_neg c_15, if_neg c_16, if_neg c_17, if_neg c_18, if_pos c_19])
                                      · by_cases c_20 : x0 = 836
                                        · refine lv_lookup (off := 287) (tgt := 288) hx hb d_Csrs_read_1 rfl (by rw [c_20]; rfl) (by decide) ?_
                                          refine lv_aload_n hx hb d_Csrs_read_288 rfl (lv_at hl 0 rfl) ?_
                                          refine va_get (D := D) (ci := 3) (v := .int (q 10)) (C := R_Csrs) (T := F_Csrs) (N := 17) hx hb hts i_Csrs hown hK hP 0 rfl rfl 10 (by decide) (hts _ k_100) (fun _ h9 => h9) rfl d_Csrs_read_289 ?_
                                          refine lv_iload_n hx hb d_Csrs_read_292 rfl (lv_at hl 2 rfl) ?_
                                          refine lv_ior hx hb d_Csrs_read_293 ?_
                                          exact ri () hx hb hr hlocks hP hD hS d_Csrs_read_294 (by simp only [sp_Csrs_read, if_neg c_1, if_neg c_2, if_neg c_3, if_neg c_4, if_neg c_5, if_neg c_6, if_neg c_7, if_neg c_8, if_neg c_9, if_neg c_10, if_neg c_11, if_neg c_12, if_neg c_13, if_neg c_14, if_neg c_15, if_neg c_16, if_neg c_17, if_neg c_18, if_neg c_19, if_pos c_20])
                                        · by_cases c_21 : x0 = 3860
                                          · refine lv_lookup (off := 294) (tgt := 295) hx hb d_Csrs_read_1 rfl (by rw [c_21]; rfl) (by decide) ?_
                                            refine lv_aload_n hx hb d_Csrs_read_295 rfl (lv_at hl 0 rfl) ?_
                                            refine va_get (D := D) (ci := 3) (v := .int (q 0)) (C := R_Csrs) (T := F_Csrs) (N := 17) hx hb hts i_Csrs hown hK hP 0 rfl rfl 0 (by decide) (hts _ k_88) (fun _ h9 => h9) rfl d_Csrs_read_296 ?_
                                            exact ri () hx hb hr hlocks hP hD hS d_Csrs_read_299 (by simp only [sp_Csrs_read, if_neg c_1, if_neg c_2, if_neg c_3, if_neg c_4, if_neg c_5, if_neg c_6, if_neg c_7, if_neg c_8, if_neg c_9, if_neg c_10, if_neg c_11, if_neg c_12, if_neg c_13, if_neg c_14, if_neg c_15, if_neg c_16, if_neg c_17, if_neg c_18, if_neg c_19, if_neg c_20, if_pos c_21])
                                          · refine lv_lookup (off := 299) (tgt := 300) hx hb d_Csrs_read_1 rfl ((lv_osw (a := 256) c_1 rfl).trans ((lv_osw (a := 260) c_2 rfl).trans ((lv_osw (a := 261) c_3 rfl).trans ((lv_osw (a := 320) c_4 rfl).trans ((lv_osw (a := 321) c_5 rfl).trans ((lv_osw (a := 322) c_6 rfl).trans ((lv_osw (a := 323) c_7 rfl).trans ((lv_osw (a := 324) c_8 rfl).trans ((lv_osw (a := 384) c_9 rfl).trans ((lv_osw (a := 768) c_10 rfl).trans ((lv_osw (a := 769) c_11 rfl).trans ((lv_osw (a := 770) c_12 rfl).trans ((lv_osw (a := 771) c_13 rfl).trans ((lv_osw (a := 772) c_14 rfl).trans ((lv_osw (a := 773) c_15 rfl).trans ((lv_osw (a := 832) c_16 rfl).trans ((lv_osw (a := 833) c_17 rfl).trans ((lv_osw (a := 834) c_18 rfl).trans ((lv_osw (a := 835) c_19 rfl).trans ((lv_osw (a := 836) c_20 rfl).trans ((lv_osw (a := 3860) c_21 rfl).trans (rfl)))))))))))))))))))))) (by decide) ?_
                                            refine lv_iconst (v := 0) hx hb d_Csrs_read_300 rfl ?_
                                            exact ri () hx hb hr hlocks hP hD hS d_Csrs_read_301 (by simp only [sp_Csrs_read, if_neg c_1, if_neg c_2, if_neg c_3, if_neg c_4, if_neg c_5, if_neg c_6, if_neg c_7, if_neg c_8, if_neg c_9, if_neg c_10, if_neg c_11, if_neg c_12, if_neg c_13, if_neg c_14, if_neg c_15, if_neg c_16, if_neg c_17, if_neg c_18, if_neg c_19, if_neg c_20, if_neg c_21])
def sp_Csrs_merged (x0 : Int32) (x1 : Int32) (x2 : Int32)  : Int32 :=
  (x0 &&& (x2 ^^^ (-1))) ||| (x1 &&& x2)
set_option maxHeartbeats 4000000 in
set_option maxRecDepth 100000 in
theorem c_Csrs_merged {l : Launch} {D : va_G} {g : Nat → Nat}  (x0 : Int32) (x1 : Int32) (x2 : Int32)   : CT l D g y_Csrs_merged b_Csrs_merged 3 (some .int) (rD 0) [.int x0, .int x1, .int x2] ([]) ([]) (Qi D (fun (r : Int32) (_ : Unit) => sp_Csrs_merged x0 x1 x2 = r) (fun _ => [])) := by
  refine CT.of rfl (Nat.le_of_ble_eq_true rfl) (fun p e s m below meth c A ls hx hb hr hml hts hown hlocks hA hP hK hD hF hS hl => ?_)
  have hl : lv_has ls 3 [(0, .int x0), (1, .int x1), (2, .int x2)] := hl
  refine lv_iload_n hx hb d_Csrs_merged_0 rfl (lv_at hl 0 rfl) ?_
  refine lv_iload_n hx hb d_Csrs_merged_1 rfl (lv_at hl 2 rfl) ?_
  refine lv_iconst (v := (-1)) hx hb d_Csrs_merged_2 rfl ?_
  refine lv_ixor hx hb d_Csrs_merged_3 ?_
  refine lv_iand hx hb d_Csrs_merged_4 ?_
  refine lv_iload_n hx hb d_Csrs_merged_5 rfl (lv_at hl 1 rfl) ?_
  refine lv_iload_n hx hb d_Csrs_merged_6 rfl (lv_at hl 2 rfl) ?_
  refine lv_iand hx hb d_Csrs_merged_7 ?_
  refine lv_ior hx hb d_Csrs_merged_8 ?_
  exact ri () hx hb hr hlocks hP hD hS d_Csrs_merged_9 (by simp only [sp_Csrs_merged])
def sp_Csrs_writeSupervisor (x0 : Int32) (x1 : Int32) (q : Nat → Int32) : Nat → Int32 :=
  if x0 = 256 then
    (upd q 1 (sp_Csrs_merged (q 1) x1 786722))
  else
    if x0 = 260 then
      (upd q 4 (sp_Csrs_merged (q 4) x1 (q 3)))
    else
      if x0 = 261 then
        (upd q 11 (x1 &&& (-4)))
      else
        if x0 = 320 then
          (upd q 13 x1)
        else
          if x0 = 321 then
            (upd q 12 (x1 &&& (-4)))
          else
            if x0 = 322 then
              (upd q 14 x1)
            else
              if x0 = 323 then
                (upd q 15 x1)
              else
                if x0 = 324 then
                  (upd q 10 (sp_Csrs_merged (q 10) x1 ((q 3) &&& 2)))
                else
                  if x0 = 384 then
                    (upd q 16 (x1 &&& (-2143289345)))
                  else
                    q
set_option maxHeartbeats 4000000 in
set_option maxRecDepth 100000 in
theorem c_Csrs_writeSupervisor {l : Launch} {D : va_G} {g : Nat → Nat} (h : Nat) (x0 : Int32) (x1 : Int32) (q : Nat → Int32)  : CT l D g y_Csrs_writeSupervisor b_Csrs_writeSupervisor 3 none (rD 1) [.ref h, .int x0, .int x1] (wC h q) ([]) (Qv D (fun (u : Nat → Int32) => sp_Csrs_writeSupervisor x0 x1 q = u) (fun u => wC h u)) := by
  refine CT.of rfl (Nat.le_of_ble_eq_true rfl) (fun p e s m below meth c A ls hx hb hr hml hts hown hlocks hA hP hK hD hF hS hl => ?_)
  have hl : lv_has ls 3 [(0, .ref h), (1, .int x0), (2, .int x1)] := hl
  refine lv_iload_n hx hb d_Csrs_writeSupervisor_0 rfl (lv_at hl 1 rfl) ?_
  by_cases c_1 : x0 = 256
  · refine lv_lookup (off := 83) (tgt := 84) hx hb d_Csrs_writeSupervisor_1 rfl (by rw [c_1]; rfl) (by decide) ?_
    refine lv_aload_n hx hb d_Csrs_writeSupervisor_84 rfl (lv_at hl 0 rfl) ?_
    refine lv_aload_n hx hb d_Csrs_writeSupervisor_85 rfl (lv_at hl 0 rfl) ?_
    refine va_get (D := D) (ci := 3) (v := .int (q 1)) (C := R_Csrs) (T := F_Csrs) (N := 17) hx hb hts i_Csrs hown hK hP 0 rfl rfl 1 (by decide) (hts _ k_89) (fun _ h9 => h9) rfl d_Csrs_writeSupervisor_86 ?_
    refine lv_iload_n hx hb d_Csrs_writeSupervisor_89 rfl (lv_at hl 2 rfl) ?_
    refine lv_ldc (v := 786722) hx hb hown (hts _ k_531) d_Csrs_writeSupervisor_90 ?_
    refine xi (wr := [(h, .inr (3, csF q))]) (W2 := fun _ => wC h q) (xS (rest := [.ref h]) ⟨hx, hb, hml, hown, hts⟩ (c_Csrs_merged (q 1) x1 786722) mw_Csrs_merged ms_Csrs_merged k_544 ⟨rfl, rfl, Nat.le_of_ble_eq_true rfl, Nat.le_of_ble_eq_true rfl⟩ hK hP hD hS hA hF [] [] rfl rfl rfl rfl hl.1 rfl (Nat.le_of_ble_eq_true rfl) d_Csrs_writeSupervisor_92 ⟨Nat.zero_le _, Nat.zero_le _⟩) hP hD hS hA [] [0] [0] rfl rfl rfl (by decide) (fun _ => rfl) rfl (fun r_2 _ H locs h_2 hP hD hS => ?_)
    subst h_2
    refine y_put (D := D) (ci := 3) (v := .int (sp_Csrs_merged (q 1) x1 786722)) (ty := .int) (C := R_Csrs) (T := F_Csrs) (N := 17) (ws' := wC h (upd q 1 (sp_Csrs_merged (q 1) x1 786722))) hx hb hts i_Csrs t_Csrs t_Csrs_ok n_Csrs hown hK hP hD hS 0 rfl rfl 1 (by decide) (hts _ k_89) (fun _ h9 => h9) rfl (by decide +kernel) rfl rfl (Nat.le_of_ble_eq_true rfl) d_Csrs_writeSupervisor_95 rfl (fun H locs hP hD hS => ?_)
    refine lv_goto (tgt := 198) hx hb d_Csrs_writeSupervisor_98 (by decide) ?_
    exact rv (upd q 1 (sp_Csrs_merged (q 1) x1 786722)) hx hb hr hlocks hP hD hS d_Csrs_writeSupervisor_198 (by simp only [sp_Csrs_writeSupervisor, if_pos c_1])
  · by_cases c_3 : x0 = 260
    · refine lv_lookup (off := 100) (tgt := 101) hx hb d_Csrs_writeSupervisor_1 rfl (by rw [c_3]; rfl) (by decide) ?_
      refine lv_aload_n hx hb d_Csrs_writeSupervisor_101 rfl (lv_at hl 0 rfl) ?_
      refine lv_aload_n hx hb d_Csrs_writeSupervisor_102 rfl (lv_at hl 0 rfl) ?_
      refine va_get (D := D) (ci := 3) (v := .int (q 4)) (C := R_Csrs) (T := F_Csrs) (N := 17) hx hb hts i_Csrs hown hK hP 0 rfl rfl 4 (by decide) (hts _ k_93) (fun _ h9 => h9) rfl d_Csrs_writeSupervisor_103 ?_
      refine lv_iload_n hx hb d_Csrs_writeSupervisor_106 rfl (lv_at hl 2 rfl) ?_
      refine lv_aload_n hx hb d_Csrs_writeSupervisor_107 rfl (lv_at hl 0 rfl) ?_
      refine va_get (D := D) (ci := 3) (v := .int (q 3)) (C := R_Csrs) (T := F_Csrs) (N := 17) hx hb hts i_Csrs hown hK hP 0 rfl rfl 3 (by decide) (hts _ k_92) (fun _ h9 => h9) rfl d_Csrs_writeSupervisor_108 ?_
      refine xi (wr := [(h, .inr (3, csF q))]) (W2 := fun _ => wC h q) (xS (rest := [.ref h]) ⟨hx, hb, hml, hown, hts⟩ (c_Csrs_merged (q 4) x1 (q 3)) mw_Csrs_merged ms_Csrs_merged k_544 ⟨rfl, rfl, Nat.le_of_ble_eq_true rfl, Nat.le_of_ble_eq_true rfl⟩ hK hP hD hS hA hF [] [] rfl rfl rfl rfl hl.1 rfl (Nat.le_of_ble_eq_true rfl) d_Csrs_writeSupervisor_111 ⟨Nat.zero_le _, Nat.zero_le _⟩) hP hD hS hA [] [0] [0] rfl rfl rfl (by decide) (fun _ => rfl) rfl (fun r_4 _ H locs h_4 hP hD hS => ?_)
      subst h_4
      refine y_put (D := D) (ci := 3) (v := .int (sp_Csrs_merged (q 4) x1 (q 3))) (ty := .int) (C := R_Csrs) (T := F_Csrs) (N := 17) (ws' := wC h (upd q 4 (sp_Csrs_merged (q 4) x1 (q 3)))) hx hb hts i_Csrs t_Csrs t_Csrs_ok n_Csrs hown hK hP hD hS 0 rfl rfl 4 (by decide) (hts _ k_93) (fun _ h9 => h9) rfl (by decide +kernel) rfl rfl (Nat.le_of_ble_eq_true rfl) d_Csrs_writeSupervisor_114 rfl (fun H locs hP hD hS => ?_)
      refine lv_goto (tgt := 198) hx hb d_Csrs_writeSupervisor_117 (by decide) ?_
      exact rv (upd q 4 (sp_Csrs_merged (q 4) x1 (q 3))) hx hb hr hlocks hP hD hS d_Csrs_writeSupervisor_198 (by simp only [sp_Csrs_writeSupervisor, if_neg c_1, if_pos c_3])
    · by_cases c_5 : x0 = 261
      · refine lv_lookup (off := 119) (tgt := 120) hx hb d_Csrs_writeSupervisor_1 rfl (by rw [c_5]; rfl) (by decide) ?_
        refine lv_aload_n hx hb d_Csrs_writeSupervisor_120 rfl (lv_at hl 0 rfl) ?_
        refine lv_iload_n hx hb d_Csrs_writeSupervisor_121 rfl (lv_at hl 2 rfl) ?_
        refine lv_bipush (v := (-4)) hx hb d_Csrs_writeSupervisor_122 rfl ?_
        refine lv_iand hx hb d_Csrs_writeSupervisor_124 ?_
        refine y_put (D := D) (ci := 3) (v := .int (x1 &&& (-4))) (ty := .int) (C := R_Csrs) (T := F_Csrs) (N := 17) (ws' := wC h (upd q 11 (x1 &&& (-4)))) hx hb hts i_Csrs t_Csrs t_Csrs_ok n_Csrs hown hK hP hD hS 0 rfl rfl 11 (by decide) (hts _ k_101) (fun _ h9 => h9) rfl (by decide +kernel) rfl rfl (Nat.le_of_ble_eq_true rfl) d_Csrs_writeSupervisor_125 rfl (fun H locs hP hD hS => ?_)
        refine lv_goto (tgt := 198) hx hb d_Csrs_writeSupervisor_128 (by decide) ?_
        exact rv (upd q 11 (x1 &&& (-4))) hx hb hr hlocks hP hD hS d_Csrs_writeSupervisor_198 (by simp only [sp_Csrs_writeSupervisor, if_neg c_1, if_neg c_3, if_pos c_5])
      · by_cases c_6 : x0 = 320
        · refine lv_lookup (off := 130) (tgt := 131) hx hb d_Csrs_writeSupervisor_1 rfl (by rw [c_6]; rfl) (by decide) ?_
          refine lv_aload_n hx hb d_Csrs_writeSupervisor_131 rfl (lv_at hl 0 rfl) ?_
          refine lv_iload_n hx hb d_Csrs_writeSupervisor_132 rfl (lv_at hl 2 rfl) ?_
          refine y_put (D := D) (ci := 3) (v := .int x1) (ty := .int) (C := R_Csrs) (T := F_Csrs) (N := 17) (ws' := wC h (upd q 13 x1)) hx hb hts i_Csrs t_Csrs t_Csrs_ok n_Csrs hown hK hP hD hS 0 rfl rfl 13 (by decide) (hts _ k_104) (fun _ h9 => h9) rfl (by decide +kernel) rfl rfl (Nat.le_of_ble_eq_true rfl) d_Csrs_writeSupervisor_133 rfl (fun H locs hP hD hS => ?_)
          refine lv_goto (tgt := 198) hx hb d_Csrs_writeSupervisor_136 (by decide) ?_
          exact rv (upd q 13 x1) hx hb hr hlocks hP hD hS d_Csrs_writeSupervisor_198 (by simp only [sp_Csrs_writeSupervisor, if_neg c_1, if_neg c_3, if_neg c_5, if_pos c_6])
        · by_cases c_7 : x0 = 321
          · refine lv_lookup (off := 138) (tgt := 139) hx hb d_Csrs_writeSupervisor_1 rfl (by rw [c_7]; rfl) (by decide) ?_
            refine lv_aload_n hx hb d_Csrs_writeSupervisor_139 rfl (lv_at hl 0 rfl) ?_
            refine lv_iload_n hx hb d_Csrs_writeSupervisor_140 rfl (lv_at hl 2 rfl) ?_
            refine lv_bipush (v := (-4)) hx hb d_Csrs_writeSupervisor_141 rfl ?_
            refine lv_iand hx hb d_Csrs_writeSupervisor_143 ?_
            refine y_put (D := D) (ci := 3) (v := .int (x1 &&& (-4))) (ty := .int) (C := R_Csrs) (T := F_Csrs) (N := 17) (ws' := wC h (upd q 12 (x1 &&& (-4)))) hx hb hts i_Csrs t_Csrs t_Csrs_ok n_Csrs hown hK hP hD hS 0 rfl rfl 12 (by decide) (hts _ k_102) (fun _ h9 => h9) rfl (by decide +kernel) rfl rfl (Nat.le_of_ble_eq_true rfl) d_Csrs_writeSupervisor_144 rfl (fun H locs hP hD hS => ?_)
            refine lv_goto (tgt := 198) hx hb d_Csrs_writeSupervisor_147 (by decide) ?_
            exact rv (upd q 12 (x1 &&& (-4))) hx hb hr hlocks hP hD hS d_Csrs_writeSupervisor_198 (by simp only [sp_Csrs_writeSupervisor, if_neg c_1, if_neg c_3, if_neg c_5, if_neg c_6, if_pos c_7])
          · by_cases c_8 : x0 = 322
            · refine lv_lookup (off := 149) (tgt := 150) hx hb d_Csrs_writeSupervisor_1 rfl (by rw [c_8]; rfl) (by decide) ?_
              refine lv_aload_n hx hb d_Csrs_writeSupervisor_150 rfl (lv_at hl 0 rfl) ?_
              refine lv_iload_n hx hb d_Csrs_writeSupervisor_151 rfl (lv_at hl 2 rfl) ?_
              refine y_put (D := D) (ci := 3) (v := .int x1) (ty := .int) (C := R_Csrs) (T := F_Csrs) (N := 17) (ws' := wC h (upd q 14 x1)) hx hb hts i_Csrs t_Csrs t_Csrs_ok n_Csrs hown hK hP hD hS 0 rfl rfl 14 (by decide) (hts _ k_105) (fun _ h9 => h9) rfl (by decide +kernel) rfl rfl (Nat.le_of_ble_eq_true rfl) d_Csrs_writeSupervisor_152 rfl (fun H locs hP hD hS => ?_)
              refine lv_goto (tgt := 198) hx hb d_Csrs_writeSupervisor_155 (by decide) ?_
              exact rv (upd q 14 x1) hx hb hr hlocks hP hD hS d_Csrs_writeSupervisor_198 (by simp only [sp_Csrs_writeSupervisor, if_neg c_1, if_neg c_3, if_neg c_5, if_neg c_6, if_neg c_7, if_pos c_8])
            · by_cases c_9 : x0 = 323
              · refine lv_lookup (off := 157) (tgt := 158) hx hb d_Csrs_writeSupervisor_1 rfl (by rw [c_9]; rfl) (by decide) ?_
                refine lv_aload_n hx hb d_Csrs_writeSupervisor_158 rfl (lv_at hl 0 rfl) ?_
                refine lv_iload_n hx hb d_Csrs_writeSupervisor_159 rfl (lv_at hl 2 rfl) ?_
                refine y_put (D := D) (ci := 3) (v := .int x1) (ty := .int) (C := R_Csrs) (T := F_Csrs) (N := 17) (ws' := wC h (upd q 15 x1)) hx hb hts i_Csrs t_Csrs t_Csrs_ok n_Csrs hown hK hP hD hS 0 rfl rfl 15 (by decide) (hts _ k_106) (fun _ h9 => h9) rfl (by decide +kernel) rfl rfl (Nat.le_of_ble_eq_true rfl) d_Csrs_writeSupervisor_160 rfl (fun H locs hP hD hS => ?_)
                refine lv_goto (tgt := 198) hx hb d_Csrs_writeSupervisor_163 (by decide) ?_
                exact rv (upd q 15 x1) hx hb hr hlocks hP hD hS d_Csrs_writeSupervisor_198 (by simp only [sp_Csrs_writeSupervisor, if_neg c_1, if_neg c_3, if_neg c_5, if_neg c_6, if_neg c_7, if_neg c_8, if_pos c_9])
              · by_cases c_10 : x0 = 324
                · refine lv_lookup (off := 165) (tgt := 166) hx hb d_Csrs_writeSupervisor_1 rfl (by rw [c_10]; rfl) (by decide) ?_
                  refine lv_aload_n hx hb d_Csrs_writeSupervisor_166 rfl (lv_at hl 0 rfl) ?_
                  refine lv_aload_n hx hb d_Csrs_writeSupervisor_167 rfl (lv_at hl 0 rfl) ?_
                  refine va_get (D := D) (ci := 3) (v := .int (q 10)) (C := R_Csrs) (T := F_Csrs) (N := 17) hx hb hts i_Csrs hown hK hP 0 rfl rfl 10 (by decide) (hts _ k_100) (fun _ h9 => h9) rfl d_Csrs_writeSupervisor_168 ?_
                  refine lv_iload_n hx hb d_Csrs_writeSupervisor_171 rfl (lv_at hl 2 rfl) ?_
                  refine lv_aload_n hx hb d_Csrs_writeSupervisor_172 rfl (lv_at hl 0 rfl) ?_
                  refine va_get (D := D) (ci := 3) (v := .int (q 3)) (C := R_Csrs) (T := F_Csrs) (N := 17) hx hb hts i_Csrs hown hK hP 0 rfl rfl 3 (by decide) (hts _ k_92) (fun _ h9 => h9) rfl d_Csrs_writeSupervisor_173 ?_
                  refine lv_iconst (v := 2) hx hb d_Csrs_writeSupervisor_176 rfl ?_
                  refine lv_iand hx hb d_Csrs_writeSupervisor_177 ?_
                  refine xi (wr := [(h, .inr (3, csF q))]) (W2 := fun _ => wC h q) (xS (rest := [.ref h]) ⟨hx, hb, hml, hown, hts⟩ (c_Csrs_merged (q 10) x1 ((q 3) &&& 2)) mw_Csrs_merged ms_Csrs_merged k_544 ⟨rfl, rfl, Nat.le_of_ble_eq_true rfl, Nat.le_of_ble_eq_true rfl⟩ hK hP hD hS hA hF [] [] rfl rfl rfl rfl hl.1 rfl (Nat.le_of_ble_eq_true rfl) d_Csrs_writeSupervisor_178 ⟨Nat.zero_le _, Nat.zero_le _⟩) hP hD hS hA [] [0] [0] rfl rfl rfl (by decide) (fun _ => rfl) rfl (fun r_11 _ H locs h_11 hP hD hS => ?_)
                  subst h_11
                  refine y_put (D := D) (ci := 3) (v := .int (sp_Csrs_merged (q 10) x1 ((q 3) &&& 2))) (ty := .int) (C := R_Csrs) (T := F_Csrs) (N := 17) (ws' := wC h (upd q 10 (sp_Csrs_merged (q 10) x1 ((q 3) &&& 2)))) hx hb hts i_Csrs t_Csrs t_Csrs_ok n_Csrs hown hK hP hD hS 0 rfl rfl 10 (by decide) (hts _ k_100) (fun _ h9 => h9) rfl (by decide +kernel) rfl rfl (Nat.le_of_ble_eq_true rfl) d_Csrs_writeSupervisor_181 rfl (fun H locs hP hD hS => ?_)
                  refine lv_goto (tgt := 198) hx hb d_Csrs_writeSupervisor_184 (by decide) ?_
                  exact rv (upd q 10 (sp_Csrs_merged (q 10) x1 ((q 3) &&& 2))) hx hb hr hlocks hP hD hS d_Csrs_writeSupervisor_198 (by simp only [sp_Csrs_writeSupervisor, if_neg c_1, if_neg c_3, if_neg c_5, if_neg c_6, if_neg c_7, if_neg c_8, if_neg c_9, if_pos c_10])
                · by_cases c_12 : x0 = 384
                  · refine lv_lookup (off := 186) (tgt := 187) hx hb d_Csrs_writeSupervisor_1 rfl (by rw [c_12]; rfl) (by decide) ?_
                    refine lv_aload_n hx hb d_Csrs_writeSupervisor_187 rfl (lv_at hl 0 rfl) ?_
                    refine lv_iload_n hx hb d_Csrs_writeSupervisor_188 rfl (lv_at hl 2 rfl) ?_
                    refine lv_ldc (v := (-2143289345)) hx hb hown (hts _ k_547) d_Csrs_writeSupervisor_189 ?_
                    refine lv_iand hx hb d_Csrs_writeSupervisor_191 ?_
                    refine y_put (D := D) (ci := 3) (v := .int (x1 &&& (-2143289345))) (ty := .int) (C := R_Csrs) (T := F_Csrs) (N := 17) (ws' := wC h (upd q 16 (x1 &&& (-2143289345)))) hx hb hts i_Csrs t_Csrs t_Csrs_ok n_Csrs hown hK hP hD hS 0 rfl rfl 16 (by decide) (hts _ k_107) (fun _ h9 => h9) rfl (by decide +kernel) rfl rfl (Nat.le_of_ble_eq_true rfl) d_Csrs_writeSupervisor_192 rfl (fun H locs hP hD hS => ?_)
                    refine lv_goto (tgt := 198) hx hb d_Csrs_writeSupervisor_195 (by decide) ?_
                    exact rv (upd q 16 (x1 &&& (-2143289345))) hx hb hr hlocks hP hD hS d_Csrs_writeSupervisor_198 (by simp only [sp_Csrs_writeSupervisor, if_neg c_1, if_neg c_3, if_neg c_5, if_neg c_6, if_neg c_7, if_neg c_8, if_neg c_9, if_neg c_10, if_pos c_12])
                  · refine lv_lookup (off := 197) (tgt := 198) hx hb d_Csrs_writeSupervisor_1 rfl ((lv_osw (a := 256) c_1 rfl).trans ((lv_osw (a := 260) c_3 rfl).trans ((lv_osw (a := 261) c_5 rfl).trans ((lv_osw (a := 320) c_6 rfl).trans ((lv_osw (a := 321) c_7 rfl).trans ((lv_osw (a := 322) c_8 rfl).trans ((lv_osw (a := 323) c_9 rfl).trans ((lv_osw (a := 324) c_10 rfl).trans ((lv_osw (a := 384) c_12 rfl).trans (rfl)))))))))) (by decide) ?_
                    exact rv q hx hb hr hlocks hP hD hS d_Csrs_writeSupervisor_198 (by simp only [sp_Csrs_writeSupervisor, if_neg c_1, if_neg c_3, if_neg c_5, if_neg c_6, if_neg c_7, if_neg c_8, if_neg c_9, if_neg c_10, if_neg c_12])
def sp_Csrs_withoutLevelTwo (x0 : Int32)  : Int32 :=
  if (x0 &&& 6144) = 4096 then
    x0 &&& (-6145)
  else
    x0
set_option maxHeartbeats 4000000 in
set_option maxRecDepth 100000 in
theorem c_Csrs_withoutLevelTwo {l : Launch} {D : va_G} {g : Nat → Nat}  (x0 : Int32)   : CT l D g y_Csrs_withoutLevelTwo b_Csrs_withoutLevelTwo 1 (some .int) (rD 0) [.int x0] ([]) ([]) (Qi D (fun (r : Int32) (_ : Unit) => sp_Csrs_withoutLevelTwo x0 = r) (fun _ => [])) := by
  refine CT.of rfl (Nat.le_of_ble_eq_true rfl) (fun p e s m below meth c A ls hx hb hr hml hts hown hlocks hA hP hK hD hF hS hl => ?_)
  have hl : lv_has ls 1 [(0, .int x0)] := hl
  refine lv_iload_n hx hb d_Csrs_withoutLevelTwo_0 rfl (lv_at hl 0 rfl) ?_
  refine lv_sipush (v := 6144) hx hb d_Csrs_withoutLevelTwo_1 rfl ?_
  refine lv_iand hx hb d_Csrs_withoutLevelTwo_4 ?_
  refine lv_sipush (v := 4096) hx hb d_Csrs_withoutLevelTwo_5 rfl ?_
  refine lv_icmp_ne (tgt := 19) hx hb d_Csrs_withoutLevelTwo_8 (by decide) (fun c_1 => ?_) (fun c_1 => ?_)
  · refine lv_iload_n hx hb d_Csrs_withoutLevelTwo_19 rfl (lv_at hl 0 rfl) ?_
    exact ri () hx hb hr hlocks hP hD hS d_Csrs_withoutLevelTwo_20 (by simp only [sp_Csrs_withoutLevelTwo, if_neg c_1])
  · refine lv_iload_n hx hb d_Csrs_withoutLevelTwo_11 rfl (lv_at hl 0 rfl) ?_
    refine lv_sipush (v := (-6145)) hx hb d_Csrs_withoutLevelTwo_12 rfl ?_
    refine lv_iand hx hb d_Csrs_withoutLevelTwo_15 ?_
    refine lv_goto (tgt := 20) hx hb d_Csrs_withoutLevelTwo_16 (by decide) ?_
    exact ri () hx hb hr hlocks hP hD hS d_Csrs_withoutLevelTwo_20 (by simp only [sp_Csrs_withoutLevelTwo, if_pos c_1])
def sp_Csrs_writeMachine (x0 : Int32) (x1 : Int32) (q : Nat → Int32) : Nat → Int32 :=
  if x0 = 768 then
    (upd q 1 (sp_Csrs_withoutLevelTwo (x1 &&& 924074)))
  else
    if x0 = 770 then
      (upd q 2 (x1 &&& 46079))
    else
      if x0 = 771 then
        (upd q 3 (x1 &&& 546))
      else
        if x0 = 772 then
          (upd q 4 (x1 &&& 2730))
        else
          if x0 = 773 then
            (upd q 5 (x1 &&& (-4)))
          else
            if x0 = 832 then
              (upd q 7 x1)
            else
              if x0 = 833 then
                (upd q 6 (x1 &&& (-4)))
              else
                if x0 = 834 then
                  (upd q 8 x1)
                else
                  if x0 = 835 then
                    (upd q 9 x1)
                  else
                    if x0 = 836 then
                      (upd q 10 (x1 &&& 546))
                    else
                      q
set_option maxHeartbeats 4000000 in
set_option maxRecDepth 100000 in
theorem c_Csrs_writeMachine {l : Launch} {D : va_G} {g : Nat → Nat} (h : Nat) (x0 : Int32) (x1 : Int32) (q : Nat → Int32)  : CT l D g y_Csrs_writeMachine b_Csrs_writeMachine 3 none (rD 1) [.ref h, .int x0, .int x1] (wC h q) ([]) (Qv D (fun (u : Nat → Int32) => sp_Csrs_writeMachine x0 x1 q = u) (fun u => wC h u)) := by
  refine CT.of rfl (Nat.le_of_ble_eq_true rfl) (fun p e s m below meth c A ls hx hb hr hml hts hown hlocks hA hP hK hD hF hS hl => ?_)
  have hl : lv_has ls 3 [(0, .ref h), (1, .int x0), (2, .int x1)] := hl
  refine lv_iload_n hx hb d_Csrs_writeMachine_0 rfl (lv_at hl 1 rfl) ?_
  by_cases c_1 : x0 = 768
  · refine lv_lookup (off := 91) (tgt := 92) hx hb d_Csrs_writeMachine_1 rfl (by rw [c_1]; rfl) (by decide) ?_
    refine lv_aload_n hx hb d_Csrs_writeMachine_92 rfl (lv_at hl 0 rfl) ?_
    refine lv_iload_n hx hb d_Csrs_writeMachine_93 rfl (lv_at hl 2 rfl) ?_
    refine lv_ldc (v := 924074) hx hb hown (hts _ k_552) d_Csrs_writeMachine_94 ?_
    refine lv_iand hx hb d_Csrs_writeMachine_96 ?_
    refine xi (wr := [(h, .inr (3, csF q))]) (W2 := fun _ => wC h q) (xS (rest := [.ref h]) ⟨hx, hb, hml, hown, hts⟩ (c_Csrs_withoutLevelTwo (x1 &&& 924074)) mw_Csrs_withoutLevelTwo ms_Csrs_withoutLevelTwo k_553 ⟨rfl, rfl, Nat.le_of_ble_eq_true rfl, Nat.le_of_ble_eq_true rfl⟩ hK hP hD hS hA hF [] [] rfl rfl rfl rfl hl.1 rfl (Nat.le_of_ble_eq_true rfl) d_Csrs_writeMachine_97 ⟨Nat.zero_le _, Nat.zero_le _⟩) hP hD hS hA [] [0] [0] rfl rfl rfl (by decide) (fun _ => rfl) rfl (fun r_2 _ H locs h_2 hP hD hS => ?_)
    subst h_2
    refine y_put (D := D) (ci := 3) (v := .int (sp_Csrs_withoutLevelTwo (x1 &&& 924074))) (ty := .int) (C := R_Csrs) (T := F_Csrs) (N := 17) (ws' := wC h (upd q 1 (sp_Csrs_withoutLevelTwo (x1 &&& 924074)))) hx hb hts i_Csrs t_Csrs t_Csrs_ok n_Csrs hown hK hP hD hS 0 rfl rfl 1 (by decide) (hts _ k_89) (fun _ h9 => h9) rfl (by decide +kernel) rfl rfl (Nat.le_of_ble_eq_true rfl) d_Csrs_writeMachine_100 rfl (fun H locs hP hD hS => ?_)
    refine lv_goto (tgt := 199) hx hb d_Csrs_writeMachine_103 (by decide) ?_
    exact rv (upd q 1 (sp_Csrs_withoutLevelTwo (x1 &&& 924074))) hx hb hr hlocks hP hD hS d_Csrs_writeMachine_199 (by simp only [sp_Csrs_writeMachine, if_pos c_1])
  · by_cases c_3 : x0 = 770
    · refine lv_lookup (off := 105) (tgt := 106) hx hb d_Csrs_writeMachine_1 rfl (by rw [c_3]; rfl) (by decide) ?_
      refine lv_aload_n hx hb d_Csrs_writeMachine_106 rfl (lv_at hl 0 rfl) ?_
      refine lv_iload_n hx hb d_Csrs_writeMachine_107 rfl (lv_at hl 2 rfl) ?_
      refine lv_ldc (v := 46079) hx hb hown (hts _ k_556) d_Csrs_writeMachine_108 ?_
      refine lv_iand hx hb d_Csrs_writeMachine_110 ?_
      refine y_put (D := D) (ci := 3) (v := .int (x1 &&& 46079)) (ty := .int) (C := R_Csrs) (T := F_Csrs) (N := 17) (ws' := wC h (upd q 2 (x1 &&& 46079))) hx hb hts i_Csrs t_Csrs t_Csrs_ok n_Csrs hown hK hP hD hS 0 rfl rfl 2 (by decide) (hts _ k_91) (fun _ h9 => h9) rfl (by decide +kernel) rfl rfl (Nat.le_of_ble_eq_true rfl) d_Csrs_writeMachine_111 rfl (fun H locs hP hD hS => ?_)
      refine lv_goto (tgt := 199) hx hb d_Csrs_writeMachine_114 (by decide) ?_
      exact rv (upd q 2 (x1 &&& 46079)) hx hb hr hlocks hP hD hS d_Csrs_writeMachine_199 (by simp only [sp_Csrs_writeMachine, if_neg c_1, if_pos c_3])
    · by_cases c_4 : x0 = 771
      · refine lv_lookup (off := 116) (tgt := 117) hx hb d_Csrs_writeMachine_1 rfl (by rw [c_4]; rfl) (by decide) ?_
        refine lv_aload_n hx hb d_Csrs_writeMachine_117 rfl (lv_at hl 0 rfl) ?_
        refine lv_iload_n hx hb d_Csrs_writeMachine_118 rfl (lv_at hl 2 rfl) ?_
        refine lv_sipush (v := 546) hx hb d_Csrs_writeMachine_119 rfl ?_
        refine lv_iand hx hb d_Csrs_writeMachine_122 ?_
        refine y_put (D := D) (ci := 3) (v := .int (x1 &&& 546)) (ty := .int) (C := R_Csrs) (T := F_Csrs) (N := 17) (ws' := wC h (upd q 3 (x1 &&& 546))) hx hb hts i_Csrs t_Csrs t_Csrs_ok n_Csrs hown hK hP hD hS 0 rfl rfl 3 (by decide) (hts _ k_92) (fun _ h9 => h9) rfl (by decide +kernel) rfl rfl (Nat.le_of_ble_eq_true rfl) d_Csrs_writeMachine_123 rfl (fun H locs hP hD hS => ?_)
        refine lv_goto (tgt := 199) hx hb d_Csrs_writeMachine_126 (by decide) ?_
        exact rv (upd q 3 (x1 &&& 546)) hx hb hr hlocks hP hD hS d_Csrs_writeMachine_199 (by simp only [sp_Csrs_writeMachine, if_neg c_1, if_neg c_3, if_pos c_4])
      · by_cases c_5 : x0 = 772
        · refine lv_lookup (off := 128) (tgt := 129) hx hb d_Csrs_writeMachine_1 rfl (by rw [c_5]; rfl) (by decide) ?_
          refine lv_aload_n hx hb d_Csrs_writeMachine_129 rfl (lv_at hl 0 rfl) ?_
          refine lv_iload_n hx hb d_Csrs_writeMachine_130 rfl (lv_at hl 2 rfl) ?_
          refine lv_sipush (v := 2730) hx hb d_Csrs_writeMachine_131 rfl ?_
          refine lv_iand hx hb d_Csrs_writeMachine_134 ?_
          refine y_put (D := D) (ci := 3) (v := .int (x1 &&& 2730)) (ty := .int) (C := R_Csrs) (T := F_Csrs) (N := 17) (ws' := wC h (upd q 4 (x1 &&& 2730))) hx hb hts i_Csrs t_Csrs t_Csrs_ok n_Csrs hown hK hP hD hS 0 rfl rfl 4 (by decide) (hts _ k_93) (fun _ h9 => h9) rfl (by decide +kernel) rfl rfl (Nat.le_of_ble_eq_true rfl) d_Csrs_writeMachine_135 rfl (fun H locs hP hD hS => ?_)
          refine lv_goto (tgt := 199) hx hb d_Csrs_writeMachine_138 (by decide) ?_
          exact rv (upd q 4 (x1 &&& 2730)) hx hb hr hlocks hP hD hS d_Csrs_writeMachine_199 (by simp only [sp_Csrs_writeMachine, if_neg c_1, if_neg c_3, if_neg c_4, if_pos c_5])
        · by_cases c_6 : x0 = 773
          · refine lv_lookup (off := 140) (tgt := 141) hx hb d_Csrs_writeMachine_1 rfl (by rw [c_6]; rfl) (by decide) ?_
            refine lv_aload_n hx hb d_Csrs_writeMachine_141 rfl (lv_at hl 0 rfl) ?_
            refine lv_iload_n hx hb d_Csrs_writeMachine_142 rfl (lv_at hl 2 rfl) ?_
            refine lv_bipush (v := (-4)) hx hb d_Csrs_writeMachine_143 rfl ?_
            refine lv_iand hx hb d_Csrs_writeMachine_145 ?_
            refine y_put (D := D) (ci := 3) (v := .int (x1 &&& (-4))) (ty := .int) (C := R_Csrs) (T := F_Csrs) (N := 17) (ws' := wC h (upd q 5 (x1 &&& (-4)))) hx hb hts i_Csrs t_Csrs t_Csrs_ok n_Csrs hown hK hP hD hS 0 rfl rfl 5 (by decide) (hts _ k_94) (fun _ h9 => h9) rfl (by decide +kernel) rfl rfl (Nat.le_of_ble_eq_true rfl) d_Csrs_writeMachine_146 rfl (fun H locs hP hD hS => ?_)
            refine lv_goto (tgt := 199) hx hb d_Csrs_writeMachine_149 (by decide) ?_
            exact rv (upd q 5 (x1 &&& (-4))) hx hb hr hlocks hP hD hS d_Csrs_writeMachine_199 (by simp only [sp_Csrs_writeMachine, if_neg c_1, if_neg c_3, if_neg c_4, if_neg c_5, if_pos c_6])
          · by_cases c_7 : x0 = 832
            · refine lv_lookup (off := 151) (tgt := 152) hx hb d_Csrs_writeMachine_1 rfl (by rw [c_7]; rfl) (by decide) ?_
              refine lv_aload_n hx hb d_Csrs_writeMachine_152 rfl (lv_at hl 0 rfl) ?_
              refine lv_iload_n hx hb d_Csrs_writeMachine_153 rfl (lv_at hl 2 rfl) ?_
              refine y_put (D := D) (ci := 3) (v := .int x1) (ty := .int) (C := R_Csrs) (T := F_Csrs) (N := 17) (ws' := wC h (upd q 7 x1)) hx hb hts i_Csrs t_Csrs t_Csrs_ok n_Csrs hown hK hP hD hS 0 rfl rfl 7 (by decide) (hts _ k_97) (fun _ h9 => h9) rfl (by decide +kernel) rfl rfl (Nat.le_of_ble_eq_true rfl) d_Csrs_writeMachine_154 rfl (fun H locs hP hD hS => ?_)
              refine lv_goto (tgt := 199) hx hb d_Csrs_writeMachine_157 (by decide) ?_
              exact rv (upd q 7 x1) hx hb hr hlocks hP hD hS d_Csrs_writeMachine_199 (by simp only [sp_Csrs_writeMachine, if_neg c_1, if_neg c_3, if_neg c_4, if_neg c_5, if_neg c_6, if_pos c_7])
            · by_cases c_8 : x0 = 833
              · refine lv_lookup (off := 159) (tgt := 160) hx hb d_Csrs_writeMachine_1 rfl (by rw [c_8]; rfl) (by decide) ?_
                refine lv_aload_n hx hb d_Csrs_writeMachine_160 rfl (lv_at hl 0 rfl) ?_
                refine lv_iload_n hx hb d_Csrs_writeMachine_161 rfl (lv_at hl 2 rfl) ?_
                refine lv_bipush (v := (-4)) hx hb d_Csrs_writeMachine_162 rfl ?_
                refine lv_iand hx hb d_Csrs_writeMachine_164 ?_
                refine y_put (D := D) (ci := 3) (v := .int (x1 &&& (-4))) (ty := .int) (C := R_Csrs) (T := F_Csrs) (N := 17) (ws' := wC h (upd q 6 (x1 &&& (-4)))) hx hb hts i_Csrs t_Csrs t_Csrs_ok n_Csrs hown hK hP hD hS 0 rfl rfl 6 (by decide) (hts _ k_95) (fun _ h9 => h9) rfl (by decide +kernel) rfl rfl (Nat.le_of_ble_eq_true rfl) d_Csrs_writeMachine_165 rfl (fun H locs hP hD hS => ?_)
                refine lv_goto (tgt := 199) hx hb d_Csrs_writeMachine_168 (by decide) ?_
                exact rv (upd q 6 (x1 &&& (-4))) hx hb hr hlocks hP hD hS d_Csrs_writeMachine_199 (by simp only [sp_Csrs_writeMachine, if_neg c_1, if_neg c_3, if_neg c_4, if_neg c_5, if_neg c_6, if_neg c_7, if_pos c_8])
              · by_cases c_9 : x0 = 834
                · refine lv_lookup (off := 170) (tgt := 171) hx hb d_Csrs_writeMachine_1 rfl (by rw [c_9]; rfl) (by decide) ?_
                  refine lv_aload_n hx hb d_Csrs_writeMachine_171 rfl (lv_at hl 0 rfl) ?_
                  refine lv_iload_n hx hb d_Csrs_writeMachine_172 rfl (lv_at hl 2 rfl) ?_
                  refine y_put (D := D) (ci := 3) (v := .int x1) (ty := .int) (C := R_Csrs) (T := F_Csrs) (N := 17) (ws' := wC h (upd q 8 x1)) hx hb hts i_Csrs t_Csrs t_Csrs_ok n_Csrs hown hK hP hD hS 0 rfl rfl 8 (by decide) (hts _ k_98) (fun _ h9 => h9) rfl (by decide +kernel) rfl rfl (Nat.le_of_ble_eq_true rfl) d_Csrs_writeMachine_173 rfl (fun H locs hP hD hS => ?_)
                  refine lv_goto (tgt := 199) hx hb d_Csrs_writeMachine_176 (by decide) ?_
                  exact rv (upd q 8 x1) hx hb hr hlocks hP hD hS d_Csrs_writeMachine_199 (by simp only [sp_Csrs_writeMachine, if_neg c_1, if_neg c_3, if_neg c_4, if_neg c_5, if_neg c_6, if_neg c_7, if_neg c_8, if_pos c_9])
                · by_cases c_10 : x0 = 835
                  · refine lv_lookup (off := 178) (tgt := 179) hx hb d_Csrs_writeMachine_1 rfl (by rw [c_10]; rfl) (by decide) ?_
                    refine lv_aload_n hx hb d_Csrs_writeMachine_179 rfl (lv_at hl 0 rfl) ?_
                    refine lv_iload_n hx hb d_Csrs_writeMachine_180 rfl (lv_at hl 2 rfl) ?_
                    refine y_put (D := D) (ci := 3) (v := .int x1) (ty := .int) (C := R_Csrs) (T := F_Csrs) (N := 17) (ws' := wC h (upd q 9 x1)) hx hb hts i_Csrs t_Csrs t_Csrs_ok n_Csrs hown hK hP hD hS 0 rfl rfl 9 (by decide) (hts _ k_99) (fun _ h9 => h9) rfl (by decide +kernel) rfl rfl (Nat.le_of_ble_eq_true rfl) d_Csrs_writeMachine_181 rfl (fun H locs hP hD hS => ?_)
                    refine lv_goto (tgt := 199) hx hb d_Csrs_writeMachine_184 (by decide) ?_
                    exact rv (upd q 9 x1) hx hb hr hlocks hP hD hS d_Csrs_writeMachine_199 (by simp only [sp_Csrs_writeMachine, if_neg c_1, if_neg c_3, if_neg c_4, if_neg c_5, if_neg c_6, if_neg c_7, if_neg c_8, if_neg c_9, if_pos c_10])
                  · by_cases c_11 : x0 = 836
                    · refine lv_lookup (off := 186) (tgt := 187) hx hb d_Csrs_writeMachine_1 rfl (by rw [c_11]; rfl) (by decide) ?_
                      refine lv_aload_n hx hb d_Csrs_writeMachine_187 rfl (lv_at hl 0 rfl) ?_
                      refine lv_iload_n hx hb d_Csrs_writeMachine_188 rfl (lv_at hl 2 rfl) ?_
                      refine lv_sipush (v := 546) hx hb d_Csrs_writeMachine_189 rfl ?_
                      refine lv_iand hx hb d_Csrs_writeMachine_192 ?_
                      refine y_put (D := D) (ci := 3) (v := .int (x1 &&& 546)) (ty := .int) (C := R_Csrs) (T := F_Csrs) (N := 17) (ws' := wC h (upd q 10 (x1 &&& 546))) hx hb hts i_Csrs t_Csrs t_Csrs_ok n_Csrs hown hK hP hD hS 0 rfl rfl 10 (by decide) (hts _ k_100) (fun _ h9 => h9) rfl (by decide +kernel) rfl rfl (Nat.le_of_ble_eq_true rfl) d_Csrs_writeMachine_193 rfl (fun H locs hP hD hS => ?_)
                      refine lv_goto (tgt := 199) hx hb d_Csrs_writeMachine_196 (by decide) ?_
                      exact rv (upd q 10 (x1 &&& 546)) hx hb hr hlocks hP hD hS d_Csrs_writeMachine_199 (by simp only [sp_Csrs_writeMachine, if_neg c_1, if_neg c_3, if_neg c_4, if_neg c_5, if_neg c_6, if_neg c_7, if_neg c_8, if_neg c_9, if_neg c_10, if_pos c_11])
                    · refine lv_lookup (off := 198) (tgt := 199) hx hb d_Csrs_writeMachine_1 rfl ((lv_osw (a := 768) c_1 rfl).trans ((lv_osw (a := 770) c_3 rfl).trans ((lv_osw (a := 771) c_4 rfl).trans ((lv_osw (a := 772) c_5 rfl).trans ((lv_osw (a := 773) c_6 rfl).trans ((lv_osw (a := 832) c_7 rfl).trans ((lv_osw (a := 833) c_8 rfl).trans ((lv_osw (a := 834) c_9 rfl).trans ((lv_osw (a := 835) c_10 rfl).trans ((lv_osw (a := 836) c_11 rfl).trans (rfl))))))))))) (by decide) ?_
                      exact rv q hx hb hr hlocks hP hD hS d_Csrs_writeMachine_199 (by simp only [sp_Csrs_writeMachine, if_neg c_1, if_neg c_3, if_neg c_4, if_neg c_5, if_neg c_6, if_neg c_7, if_neg c_8, if_neg c_9, if_neg c_10, if_neg c_11])
def sp_Csrs_write (x0 : Int32) (x1 : Int32) (q : Nat → Int32) : Nat → Int32 :=
  if 768 ≤ x0 then
    let u_2 := sp_Csrs_writeMachine x0 x1 q
    u_2
  else
    let u_3 := sp_Csrs_writeSupervisor x0 x1 q
    u_3
set_option maxHeartbeats 4000000 in
set_option maxRecDepth 100000 in
theorem c_Csrs_write {l : Launch} {D : va_G} {g : Nat → Nat} (h : Nat) (x0 : Int32) (x1 : Int32) (q : Nat → Int32)  : CT l D g y_Csrs_write b_Csrs_write 3 none (rD 2) [.ref h, .int x0, .int x1] (wC h q) ([]) (Qv D (fun (u : Nat → Int32) => sp_Csrs_write x0 x1 q = u) (fun u => wC h u)) := by
  refine CT.of rfl (Nat.le_of_ble_eq_true rfl) (fun p e s m below meth c A ls hx hb hr hml hts hown hlocks hA hP hK hD hF hS hl => ?_)
  have hl : lv_has ls 3 [(0, .ref h), (1, .int x0), (2, .int x1)] := hl
  refine lv_iload_n hx hb d_Csrs_write_0 rfl (lv_at hl 1 rfl) ?_
  refine lv_sipush (v := 768) hx hb d_Csrs_write_1 rfl ?_
  refine lv_icmp_ge (tgt := 16) hx hb d_Csrs_write_4 (by decide) (fun c_1 => ?_) (fun c_1 => ?_)
  · refine lv_aload_n hx hb d_Csrs_write_16 rfl (lv_at hl 0 rfl) ?_
    refine lv_iload_n hx hb d_Csrs_write_17 rfl (lv_at hl 1 rfl) ?_
    refine lv_iload_n hx hb d_Csrs_write_18 rfl (lv_at hl 2 rfl) ?_
    refine xv (wr := []) (W2 := fun u9 => wC h u9) (xV (rest := []) ⟨hx, hb, hml, hown, hts⟩ (c_Csrs_writeMachine h x0 x1 q) mw_Csrs_writeMachine mv_Csrs_writeMachine k_548 ⟨rfl, rfl, Nat.le_of_ble_eq_true rfl, Nat.le_of_ble_eq_true rfl⟩ hK hP hD hS hA hF [0] [] rfl rfl rfl 0 3 rfl rfl rfl rfl hl.1 rfl (Nat.le_of_ble_eq_true rfl) d_Csrs_write_19 ⟨Nat.zero_le _, Nat.zero_le _⟩) hP hD hS hA [0] [] [0] rfl rfl rfl (by decide) (fun _ => rfl) rfl (fun u_2 H locs h_2 hP hD hS => ?_)
    exact rv u_2 hx hb hr hlocks hP hD hS d_Csrs_write_22 (by simp only [sp_Csrs_write, h_2, if_pos c_1])
  · refine lv_aload_n hx hb d_Csrs_write_7 rfl (lv_at hl 0 rfl) ?_
    refine lv_iload_n hx hb d_Csrs_write_8 rfl (lv_at hl 1 rfl) ?_
    refine lv_iload_n hx hb d_Csrs_write_9 rfl (lv_at hl 2 rfl) ?_
    refine xv (wr := []) (W2 := fun u9 => wC h u9) (xV (rest := []) ⟨hx, hb, hml, hown, hts⟩ (c_Csrs_writeSupervisor h x0 x1 q) mw_Csrs_writeSupervisor mv_Csrs_writeSupervisor k_540 ⟨rfl, rfl, Nat.le_of_ble_eq_true rfl, Nat.le_of_ble_eq_true rfl⟩ hK hP hD hS hA hF [0] [] rfl rfl rfl 0 3 rfl rfl rfl rfl hl.1 rfl (Nat.le_of_ble_eq_true rfl) d_Csrs_write_10 ⟨Nat.zero_le _, Nat.zero_le _⟩) hP hD hS hA [0] [] [0] rfl rfl rfl (by decide) (fun _ => rfl) rfl (fun u_3 H locs h_3 hP hD hS => ?_)
    refine lv_goto (tgt := 22) hx hb d_Csrs_write_13 (by decide) ?_
    exact rv u_3 hx hb hr hlocks hP hD hS d_Csrs_write_22 (by simp only [sp_Csrs_write, h_3, if_neg c_1])
def sp_Csrs_handsDownTrap (x0 : Int32) (q : Nat → Int32) : Int32 :=
  if ((shr (q 2) x0) &&& 1) = 0 then
    0
  else
    1
set_option maxHeartbeats 4000000 in
set_option maxRecDepth 100000 in
theorem c_Csrs_handsDownTrap {l : Launch} {D : va_G} {g : Nat → Nat} (h : Nat) (x0 : Int32) (q : Nat → Int32)  : CT l D g y_Csrs_handsDownTrap b_Csrs_handsDownTrap 2 (some .boolean) (rD 0) [.ref h, .int x0] (wC h q) ([]) (Qi D (fun (r : Int32) (_ : Unit) => sp_Csrs_handsDownTrap x0 q = r ∧ (r = 0 ∨ r = 1)) (fun _ => wC h q)) := by
  refine CT.of rfl (Nat.le_of_ble_eq_true rfl) (fun p e s m below meth c A ls hx hb hr hml hts hown hlocks hA hP hK hD hF hS hl => ?_)
  have hl : lv_has ls 2 [(0, .ref h), (1, .int x0)] := hl
  refine lv_aload_n hx hb d_Csrs_handsDownTrap_0 rfl (lv_at hl 0 rfl) ?_
  refine va_get (D := D) (ci := 3) (v := .int (q 2)) (C := R_Csrs) (T := F_Csrs) (N := 17) hx hb hts i_Csrs hown hK hP 0 rfl rfl 2 (by decide) (hts _ k_91) (fun _ h9 => h9) rfl d_Csrs_handsDownTrap_1 ?_
  refine lv_iload_n hx hb d_Csrs_handsDownTrap_4 rfl (lv_at hl 1 rfl) ?_
  refine y_ishr hx hb d_Csrs_handsDownTrap_5 ?_
  refine lv_iconst (v := 1) hx hb d_Csrs_handsDownTrap_6 rfl ?_
  refine lv_iand hx hb d_Csrs_handsDownTrap_7 ?_
  refine lv_if_eq (tgt := 15) hx hb d_Csrs_handsDownTrap_8 (by decide) (fun c_1 => ?_) (fun c_1 => ?_)
  · refine lv_iconst (v := 0) hx hb d_Csrs_handsDownTrap_15 rfl ?_
    exact rz () hx hb hr hlocks rfl hP hD hS d_Csrs_handsDownTrap_16 ⟨by simp only [sp_Csrs_handsDownTrap, if_pos c_1], Or.inl rfl⟩
  · refine lv_iconst (v := 1) hx hb d_Csrs_handsDownTrap_11 rfl ?_
    refine lv_goto (tgt := 16) hx hb d_Csrs_handsDownTrap_12 (by decide) ?_
    exact rz () hx hb hr hlocks rfl hP hD hS d_Csrs_handsDownTrap_16 ⟨by simp only [sp_Csrs_handsDownTrap, if_neg c_1], Or.inr rfl⟩
