def sp_Clint_restart  (w : Nat → Int32) : Nat → Int32 :=
  (upd (upd (upd (upd (upd (upd (upd (upd w 0 0) 1 0) 2 (-1)) 3 (-1)) 4 (-1)) 5 (-1)) 6 0) 7 0)
set_option maxHeartbeats 4000000 in
set_option maxRecDepth 100000 in
theorem c_Clint_restart {l : Launch} {D : va_G} {g : Nat → Nat} (a : Nat → Nat) (k : Nat → ClassId)  (w : Nat → Int32)  : CT l D g y_Clint_restart b_Clint_restart 2 none (rD 0) [.ref (a 1)] (wK a k w) ([(k 0, .int)]) (Qv D (fun (u : Nat → Int32) => sp_Clint_restart w = u) (fun u => wK a k u)) := by
  refine CT.of rfl (Nat.le_of_ble_eq_true rfl) (fun p e s m below meth c A ls hx hb hr hml hts hown hlocks hA hP hK hD hF hS hl => ?_)
  have hl : lv_has ls 2 [(0, .ref (a 1))] := hl
  refine lv_iconst (v := 0) hx hb d_Clint_restart_0 rfl ?_
  refine lv_istore_n (lv' := [(1, .int 0), (0, .ref (a 1))]) hx hb d_Clint_restart_1 rfl hl (by decide) rfl (fun ls hl => ?_)
  refine lv_iload_n hx hb d_Clint_restart_2 rfl (lv_at hl 0 rfl) ?_
  refine lv_aload_n hx hb d_Clint_restart_3 rfl (lv_at hl 1 rfl) ?_
  refine va_get (D := D) (ci := 2) (v := .ref (a 2)) (C := R_Clint) (T := F_Clint) (N := 1) hx hb hts i_Clint hown hK hP 0 rfl rfl 0 (by decide) (hts _ k_44) (fun _ h9 => h9) rfl d_Clint_restart_4 ?_
  refine va_alen (v := 8) hx hb hK hP 1 0 rfl rfl rfl d_Clint_restart_7 ?_
  refine lv_icmp_ge (tgt := 39) hx hb d_Clint_restart_8 (by decide) (fun h9 => absurd h9 (by decide)) (fun _ => ?_)
  refine lv_aload_n hx hb d_Clint_restart_11 rfl (lv_at hl 1 rfl) ?_
  refine va_get (D := D) (ci := 2) (v := .ref (a 2)) (C := R_Clint) (T := F_Clint) (N := 1) hx hb hts i_Clint hown hK hP 0 rfl rfl 0 (by decide) (hts _ k_44) (fun _ h9 => h9) rfl d_Clint_restart_12 ?_
  refine lv_iload_n hx hb d_Clint_restart_15 rfl (lv_at hl 0 rfl) ?_
  refine lv_iload_n hx hb d_Clint_restart_16 rfl (lv_at hl 0 rfl) ?_
  refine lv_iconst (v := 2) hx hb d_Clint_restart_17 rfl ?_
  refine lv_icmp_lt (tgt := 31) hx hb d_Clint_restart_18 (by decide) (fun _ => ?_) (fun h9 => absurd (by decide) h9)
  refine lv_iconst (v := 0) hx hb d_Clint_restart_31 rfl ?_
  refine y_iast (ws' := wK a k (upd w 0 0)) hx hb hK hP hD hS 1 0 rfl rfl (by unfold vp_in; decide) d_Clint_restart_32 rfl (fun H locs hP hD hS => ?_)
  refine lv_iinc (v := 1) (lv' := [(1, .int 1), (0, .ref (a 1))]) hx hb d_Clint_restart_33 hl (k := 0) rfl rfl (by decide) rfl (fun ls hl => ?_)
  refine lv_goto (tgt := 2) hx hb d_Clint_restart_36 (by decide) ?_
  refine lv_iload_n hx hb d_Clint_restart_2 rfl (lv_at hl 0 rfl) ?_
  refine lv_aload_n hx hb d_Clint_restart_3 rfl (lv_at hl 1 rfl) ?_
  refine va_get (D := D) (ci := 2) (v := .ref (a 2)) (C := R_Clint) (T := F_Clint) (N := 1) hx hb hts i_Clint hown hK hP 0 rfl rfl 0 (by decide) (hts _ k_44) (fun _ h9 => h9) rfl d_Clint_restart_4 ?_
  refine va_alen (v := 8) hx hb hK hP 1 0 rfl rfl rfl d_Clint_restart_7 ?_
  refine lv_icmp_ge (tgt := 39) hx hb d_Clint_restart_8 (by decide) (fun h9 => absurd h9 (by decide)) (fun _ => ?_)
  refine lv_aload_n hx hb d_Clint_restart_11 rfl (lv_at hl 1 rfl) ?_
  refine va_get (D := D) (ci := 2) (v := .ref (a 2)) (C := R_Clint) (T := F_Clint) (N := 1) hx hb hts i_Clint hown hK hP 0 rfl rfl 0 (by decide) (hts _ k_44) (fun _ h9 => h9) rfl d_Clint_restart_12 ?_
  refine lv_iload_n hx hb d_Clint_restart_15 rfl (lv_at hl 0 rfl) ?_
  refine lv_iload_n hx hb d_Clint_restart_16 rfl (lv_at hl 0 rfl) ?_
  refine lv_iconst (v := 2) hx hb d_Clint_restart_17 rfl ?_
  refine lv_icmp_lt (tgt := 31) hx hb d_Clint_restart_18 (by decide) (fun _ => ?_) (fun h9 => absurd (by decide) h9)
  refine lv_iconst (v := 0) hx hb d_Clint_restart_31 rfl ?_
  refine y_iast (ws' := wK a k (upd (upd w 0 0) 1 0)) hx hb hK hP hD hS 1 0 rfl rfl (by unfold vp_in; decide) d_Clint_restart_32 rfl (fun H locs hP hD hS => ?_)
  refine lv_iinc (v := 2) (lv' := [(1, .int 2), (0, .ref (a 1))]) hx hb d_Clint_restart_33 hl (k := 0) rfl rfl (by decide) rfl (fun ls hl => ?_)
  refine lv_goto (tgt := 2) hx hb d_Clint_restart_36 (by decide) ?_
  refine lv_iload_n hx hb d_Clint_restart_2 rfl (lv_at hl 0 rfl) ?_
  refine lv_aload_n hx hb d_Clint_restart_3 rfl (lv_at hl 1 rfl) ?_
  refine va_get (D := D) (ci := 2) (v := .ref (a 2)) (C := R_Clint) (T := F_Clint) (N := 1) hx hb hts i_Clint hown hK hP 0 rfl rfl 0 (by decide) (hts _ k_44) (fun _ h9 => h9) rfl d_Clint_restart_4 ?_
  refine va_alen (v := 8) hx hb hK hP 1 0 rfl rfl rfl d_Clint_restart_7 ?_
  refine lv_icmp_ge (tgt := 39) hx hb d_Clint_restart_8 (by decide) (fun h9 => absurd h9 (by decide)) (fun _ => ?_)
  refine lv_aload_n hx hb d_Clint_restart_11 rfl (lv_at hl 1 rfl) ?_
  refine va_get (D := D) (ci := 2) (v := .ref (a 2)) (C := R_Clint) (T := F_Clint) (N := 1) hx hb hts i_Clint hown hK hP 0 rfl rfl 0 (by decide) (hts _ k_44) (fun _ h9 => h9) rfl d_Clint_restart_12 ?_
  refine lv_iload_n hx hb d_Clint_restart_15 rfl (lv_at hl 0 rfl) ?_
  refine lv_iload_n hx hb d_Clint_restart_16 rfl (lv_at hl 0 rfl) ?_
  refine lv_iconst (v := 2) hx hb d_Clint_restart_17 rfl ?_
  refine lv_icmp_lt (tgt := 31) hx hb d_Clint_restart_18 (by decide) (fun h9 => absurd h9 (by decide)) (fun _ => ?_)
  refine lv_iload_n hx hb d_Clint_restart_21 rfl (lv_at hl 0 rfl) ?_
  refine lv_bipush (v := 6) hx hb d_Clint_restart_22 rfl ?_
  refine lv_icmp_ge (tgt := 31) hx hb d_Clint_restart_24 (by decide) (fun h9 => absurd h9 (by decide)) (fun _ => ?_)
  refine lv_iconst (v := (-1)) hx hb d_Clint_restart_27 rfl ?_
  refine lv_goto (tgt := 32) hx hb d_Clint_restart_28 (by decide) ?_
  refine y_iast (ws' := wK a k (upd (upd (upd w 0 0) 1 0) 2 (-1))) hx hb hK hP hD hS 1 0 rfl rfl (by unfold vp_in; decide) d_Clint_restart_32 rfl (fun H locs hP hD hS => ?_)
  refine lv_iinc (v := 3) (lv' := [(1, .int 3), (0, .ref (a 1))]) hx hb d_Clint_restart_33 hl (k := 0) rfl rfl (by decide) rfl (fun ls hl => ?_)
  refine lv_goto (tgt := 2) hx hb d_Clint_restart_36 (by decide) ?_
  refine lv_iload_n hx hb d_Clint_restart_2 rfl (lv_at hl 0 rfl) ?_
  refine lv_aload_n hx hb d_Clint_restart_3 rfl (lv_at hl 1 rfl) ?_
  refine va_get (D := D) (ci := 2) (v := .ref (a 2)) (C := R_Clint) (T := F_Clint) (N := 1) hx hb hts i_Clint hown hK hP 0 rfl rfl 0 (by decide) (hts _ k_44) (fun _ h9 => h9) rfl d_Clint_restart_4 ?_
  refine va_alen (v := 8) hx hb hK hP 1 0 rfl rfl rfl d_Clint_restart_7 ?_
  refine lv_icmp_ge (tgt := 39) hx hb d_Clint_restart_8 (by decide) (fun h9 => absurd h9 (by decide)) (fun _ => ?_)
  refine lv_aload_n hx hb d_Clint_restart_11 rfl (lv_at hl 1 rfl) ?_
  refine va_get (D := D) (ci := 2) (v := .ref (a 2)) (C := R_Clint) (T := F_Clint) (N := 1) hx hb hts i_Clint hown hK hP 0 rfl rfl 0 (by decide) (hts _ k_44) (fun _ h9 => h9) rfl d_Clint_restart_12 ?_
  refine lv_iload_n hx hb d_Clint_restart_15 rfl (lv_at hl 0 rfl) ?_
  refine lv_iload_n hx hb d_Clint_restart_16 rfl (lv_at hl 0 rfl) ?_
  refine lv_iconst (v := 2) hx hb d_Clint_restart_17 rfl ?_
  refine lv_icmp_lt (tgt := 31) hx hb d_Clint_restart_18 (by decide) (fun h9 => absurd h9 (by decide)) (fun _ => ?_)
  refine lv_iload_n hx hb d_Clint_restart_21 rfl (lv_at hl 0 rfl) ?_
  refine lv_bipush (v := 6) hx hb d_Clint_restart_22 rfl ?_
  refine lv_icmp_ge (tgt := 31) hx hb d_Clint_restart_24 (by decide) (fun h9 => absurd h9 (by decide)) (fun _ => ?_)
  refine lv_iconst (v := (-1)) hx hb d_Clint_restart_27 rfl ?_
  refine lv_goto (tgt := 32) hx hb d_Clint_restart_28 (by decide) ?_
  refine y_iast (ws' := wK a k (upd (upd (upd (upd w 0 0) 1 0) 2 (-1)) 3 (-1))) hx hb hK hP hD hS 1 0 rfl rfl (by unfold vp_in; decide) d_Clint_restart_32 rfl (fun H locs hP hD hS => ?_)
  refine lv_iinc (v := 4) (lv' := [(1, .int 4), (0, .ref (a 1))]) hx hb d_Clint_restart_33 hl (k := 0) rfl rfl (by decide) rfl (fun ls hl => ?_)
  refine lv_goto (tgt := 2) hx hb d_Clint_restart_36 (by decide) ?_
  refine lv_iload_n hx hb d_Clint_restart_2 rfl (lv_at hl 0 rfl) ?_
  refine lv_aload_n hx hb d_Clint_restart_3 rfl (lv_at hl 1 rfl) ?_
  refine va_get (D := D) (ci := 2) (v := .ref (a 2)) (C := R_Clint) (T := F_Clint) (N := 1) hx hb hts i_Clint hown hK hP 0 rfl rfl 0 (by decide) (hts _ k_44) (fun _ h9 => h9) rfl d_Clint_restart_4 ?_
  refine va_alen (v := 8) hx hb hK hP 1 0 rfl rfl rfl d_Clint_restart_7 ?_
  refine lv_icmp_ge (tgt := 39) hx hb d_Clint_restart_8 (by decide) (fun h9 => absurd h9 (by decide)) (fun _ => ?_)
  refine lv_aload_n hx hb d_Clint_restart_11 rfl (lv_at hl 1 rfl) ?_
  refine va_get (D := D) (ci := 2) (v := .ref (a 2)) (C := R_Clint) (T := F_Clint) (N := 1) hx hb hts i_Clint hown hK hP 0 rfl rfl 0 (by decide) (hts _ k_44) (fun _ h9 => h9) rfl d_Clint_restart_12 ?_
  refine lv_iload_n hx hb d_Clint_restart_15 rfl (lv_at hl 0 rfl) ?_
  refine lv_iload_n hx hb d_Clint_restart_16 rfl (lv_at hl 0 rfl) ?_
  refine lv_iconst (v := 2) hx hb d_Clint_restart_17 rfl ?_
  refine lv_icmp_lt (tgt := 31) hx hb d_Clint_restart_18 (by decide) (fun h9 => absurd h9 (by decide)) (fun _ => ?_)
  refine lv_iload_n hx hb d_Clint_restart_21 rfl (lv_at hl 0 rfl) ?_
  refine lv_bipush (v := 6) hx hb d_Clint_restart_22 rfl ?_
  refine lv_icmp_ge (tgt := 31) hx hb d_Clint_restart_24 (by decide) (fun h9 => absurd h9 (by decide)) (fun _ => ?_)
  refine lv_iconst (v := (-1)) hx hb d_Clint_restart_27 rfl ?_
  refine lv_goto (tgt := 32) hx hb d_Clint_restart_28 (by decide) ?_
  refine y_iast (ws' := wK a k (upd (upd (upd (upd (upd w 0 0) 1 0) 2 (-1)) 3 (-1)) 4 (-1))) hx hb hK hP hD hS 1 0 rfl rfl (by unfold vp_in; decide) d_Clint_restart_32 rfl (fun H locs hP hD hS => ?_)
  refine lv_iinc (v := 5) (lv' := [(1, .int 5), (0, .ref (a 1))]) hx hb d_Clint_restart_33 hl (k := 0) rfl rfl (by decide) rfl (fun ls hl => ?_)
  refine lv_goto (tgt := 2) hx hb d_Clint_restart_36 (by decide) ?_
  refine lv_iload_n hx hb d_Clint_restart_2 rfl (lv_at hl 0 rfl) ?_
  refine lv_aload_n hx hb d_Clint_restart_3 rfl (lv_at hl 1 rfl) ?_
  refine va_get (D := D) (ci := 2) (v := .ref (a 2)) (C := R_Clint) (T := F_Clint) (N := 1) hx hb hts i_Clint hown hK hP 0 rfl rfl 0 (by decide) (hts _ k_44) (fun _ h9 => h9) rfl d_Clint_restart_4 ?_
  refine va_alen (v := 8) hx hb hK hP 1 0 rfl rfl rfl d_Clint_restart_7 ?_
  refine lv_icmp_ge (tgt := 39) hx hb d_Clint_restart_8 (by decide) (fun h9 => absurd h9 (by decide)) (fun _ => ?_)
  refine lv_aload_n hx hb d_Clint_restart_11 rfl (lv_at hl 1 rfl) ?_
  refine va_get (D := D) (ci := 2) (v := .ref (a 2)) (C := R_Clint) (T := F_Clint) (N := 1) hx hb hts i_Clint hown hK hP 0 rfl rfl 0 (by decide) (hts _ k_44) (fun _ h9 => h9) rfl d_Clint_restart_12 ?_
  refine lv_iload_n hx hb d_Clint_restart_15 rfl (lv_at hl 0 rfl) ?_
  refine lv_iload_n hx hb d_Clint_restart_16 rfl (lv_at hl 0 rfl) ?_
  refine lv_iconst (v := 2) hx hb d_Clint_restart_17 rfl ?_
  refine lv_icmp_lt (tgt := 31) hx hb d_Clint_restart_18 (by decide) (fun h9 => absurd h9 (by decide)) (fun _ => ?_)
  refine lv_iload_n hx hb d_Clint_restart_21 rfl (lv_at hl 0 rfl) ?_
  refine lv_bipush (v := 6) hx hb d_Clint_restart_22 rfl ?_
  refine lv_icmp_ge (tgt := 31) hx hb d_Clint_restart_24 (by decide) (fun h9 => absurd h9 (by decide)) (fun _ => ?_)
  refine lv_iconst (v := (-1)) hx hb d_Clint_restart_27 rfl ?_
  refine lv_goto (tgt := 32) hx hb d_Clint_restart_28 (by decide) ?_
  refine y_iast (ws' := wK a k (upd (upd (upd (upd (upd (upd w 0 0) 1 0) 2 (-1)) 3 (-1)) 4 (-1)) 5 (-1))) hx hb hK hP hD hS 1 0 rfl rfl (by unfold vp_in; decide) d_Clint_restart_32 rfl (fun H locs hP hD hS => ?_)
  refine lv_iinc (v := 6) (lv' := [(1, .int 6), (0, .ref (a 1))]) hx hb d_Clint_restart_33 hl (k := 0) rfl rfl (by decide) rfl (fun ls hl => ?_)
  refine lv_goto (tgt := 2) hx hb d_Clint_restart_36 (by decide) ?_
  refine lv_iload_n hx hb d_Clint_restart_2 rfl (lv_at hl 0 rfl) ?_
  refine lv_aload_n hx hb d_Clint_restart_3 rfl (lv_at hl 1 rfl) ?_
  refine va_get (D := D) (ci := 2) (v := .ref (a 2)) (C := R_Clint) (T := F_Clint) (N := 1) hx hb hts i_Clint hown hK hP 0 rfl rfl 0 (by decide) (hts _ k_44) (fun _ h9 => h9) rfl d_Clint_restart_4 ?_
  refine va_alen (v := 8) hx hb hK hP 1 0 rfl rfl rfl d_Clint_restart_7 ?_
  refine lv_icmp_ge (tgt := 39) hx hb d_Clint_restart_8 (by decide) (fun h9 => absurd h9 (by decide)) (fun _ => ?_)
  refine lv_aload_n hx hb d_Clint_restart_11 rfl (lv_at hl 1 rfl) ?_
  refine va_get (D := D) (ci := 2) (v := .ref (a 2)) (C := R_Clint) (T := F_Clint) (N := 1) hx hb hts i_Clint hown hK hP 0 rfl rfl 0 (by decide) (hts _ k_44) (fun _ h9 => h9) rfl d_Clint_restart_12 ?_
  refine lv_iload_n hx hb d_Clint_restart_15 rfl (lv_at hl 0 rfl) ?_
  refine lv_iload_n hx hb d_Clint_restart_16 rfl (lv_at hl 0 rfl) ?_
  refine lv_iconst (v := 2) hx hb d_Clint_restart_17 rfl ?_
  refine lv_icmp_lt (tgt := 31) hx hb d_Clint_restart_18 (by decide) (fun h9 => absurd h9 (by decide)) (fun _ => ?_)
  refine lv_iload_n hx hb d_Clint_restart_21 rfl (lv_at hl 0 rfl) ?_
  refine lv_bipush (v := 6) hx hb d_Clint_restart_22 rfl ?_
  refine lv_icmp_ge (tgt := 31) hx hb d_Clint_restart_24 (by decide) (fun _ => ?_) (fun h9 => absurd (by decide) h9)
  refine lv_iconst (v := 0) hx hb d_Clint_restart_31 rfl ?_
  refine y_iast (ws' := wK a k (upd (upd (upd (upd (upd (upd (upd w 0 0) 1 0) 2 (-1)) 3 (-1)) 4 (-1)) 5 (-1)) 6 0)) hx hb hK hP hD hS 1 0 rfl rfl (by unfold vp_in; decide) d_Clint_restart_32 rfl (fun H locs hP hD hS => ?_)
  refine lv_iinc (v := 7) (lv' := [(1, .int 7), (0, .ref (a 1))]) hx hb d_Clint_restart_33 hl (k := 0) rfl rfl (by decide) rfl (fun ls hl => ?_)
  refine lv_goto (tgt := 2) hx hb d_Clint_restart_36 (by decide) ?_
  refine lv_iload_n hx hb d_Clint_restart_2 rfl (lv_at hl 0 rfl) ?_
  refine lv_aload_n hx hb d_Clint_restart_3 rfl (lv_at hl 1 rfl) ?_
  refine va_get (D := D) (ci := 2) (v := .ref (a 2)) (C := R_Clint) (T := F_Clint) (N := 1) hx hb hts i_Clint hown hK hP 0 rfl rfl 0 (by decide) (hts _ k_44) (fun _ h9 => h9) rfl d_Clint_restart_4 ?_
  refine va_alen (v := 8) hx hb hK hP 1 0 rfl rfl rfl d_Clint_restart_7 ?_
  refine lv_icmp_ge (tgt := 39) hx hb d_Clint_restart_8 (by decide) (fun h9 => absurd h9 (by decide)) (fun _ => ?_)
  refine lv_aload_n hx hb d_Clint_restart_11 rfl (lv_at hl 1 rfl) ?_
  refine va_get (D := D) (ci := 2) (v := .ref (a 2)) (C := R_Clint) (T := F_Clint) (N := 1) hx hb hts i_Clint hown hK hP 0 rfl rfl 0 (by decide) (hts _ k_44) (fun _ h9 => h9) rfl d_Clint_restart_12 ?_
  refine lv_iload_n hx hb d_Clint_restart_15 rfl (lv_at hl 0 rfl) ?_
  refine lv_iload_n hx hb d_Clint_restart_16 rfl (lv_at hl 0 rfl) ?_
  refine lv_iconst (v := 2) hx hb d_Clint_restart_17 rfl ?_
  refine lv_icmp_lt (tgt := 31) hx hb d_Clint_restart_18 (by decide) (fun h9 => absurd h9 (by decide)) (fun _ => ?_)
  refine lv_iload_n hx hb d_Clint_restart_21 rfl (lv_at hl 0 rfl) ?_
  refine lv_bipush (v := 6) hx hb d_Clint_restart_22 rfl ?_
  refine lv_icmp_ge (tgt := 31) hx hb d_Clint_restart_24 (by decide) (fun _ => ?_) (fun h9 => absurd (by decide) h9)
  refine lv_iconst (v := 0) hx hb d_Clint_restart_31 rfl ?_
  refine y_iast (ws' := wK a k (upd (upd (upd (upd (upd (upd (upd (upd w 0 0) 1 0) 2 (-1)) 3 (-1)) 4 (-1)) 5 (-1)) 6 0) 7 0)) hx hb hK hP hD hS 1 0 rfl rfl (by unfold vp_in; decide) d_Clint_restart_32 rfl (fun H locs hP hD hS => ?_)
  refine lv_iinc (v := 8) (lv' := [(1, .int 8), (0, .ref (a 1))]) hx hb d_Clint_restart_33 hl (k := 0) rfl rfl (by decide) rfl (fun ls hl => ?_)
  refine lv_goto (tgt := 2) hx hb d_Clint_restart_36 (by decide) ?_
  refine lv_iload_n hx hb d_Clint_restart_2 rfl (lv_at hl 0 rfl) ?_
  refine lv_aload_n hx hb d_Clint_restart_3 rfl (lv_at hl 1 rfl) ?_
  refine va_get (D := D) (ci := 2) (v := .ref (a 2)) (C := R_Clint) (T := F_Clint) (N := 1) hx hb hts i_Clint hown hK hP 0 rfl rfl 0 (by decide) (hts _ k_44) (fun _ h9 => h9) rfl d_Clint_restart_4 ?_
  refine va_alen (v := 8) hx hb hK hP 1 0 rfl rfl rfl d_Clint_restart_7 ?_
  refine lv_icmp_ge (tgt := 39) hx hb d_Clint_restart_8 (by decide) (fun _ => ?_) (fun h9 => absurd (by decide) h9)
  exact rv (upd (upd (upd (upd (upd (upd (upd (upd w 0 0) 1 0) 2 (-1)) 3 (-1)) 4 (-1)) 5 (-1)) 6 0) 7 0) hx hb hr hlocks hP hD hS d_Clint_restart_39 (by simp only [sp_Clint_restart])
def sp_Clint_isBelow (x0 : Int32) (x1 : Int32) (w : Nat → Int32) : Int32 :=
  if (w ((x0 + 1).toNatClampNeg)) = (w ((x1 + 1).toNatClampNeg)) then
    sp_Alu_below (w x0.toNatClampNeg) (w x1.toNatClampNeg)
  else
    sp_Alu_below (w ((x0 + 1).toNatClampNeg)) (w ((x1 + 1).toNatClampNeg))
set_option maxHeartbeats 4000000 in
set_option maxRecDepth 100000 in
theorem c_Clint_isBelow {l : Launch} {D : va_G} {g : Nat → Nat} (a : Nat → Nat) (k : Nat → ClassId) (x0 : Int32) (x1 : Int32) (w : Nat → Int32) (hs : vp_in x0 8 ∧ vp_in (x0 + 1) 8) (ho : vp_in x1 8 ∧ vp_in (x1 + 1) 8) : CT l D g y_Clint_isBelow b_Clint_isBelow 3 (some .boolean) (rD 1) [.ref (a 1), .int x0, .int x1] (wK a k w) ([(k 0, .int)]) (Qi D (fun (r : Int32) (_ : Unit) => sp_Clint_isBelow x0 x1 w = r ∧ (r = 0 ∨ r = 1)) (fun _ => wK a k w)) := by
  refine CT.of rfl (Nat.le_of_ble_eq_true rfl) (fun p e s m below meth c A ls hx hb hr hml hts hown hlocks hA hP hK hD hF hS hl => ?_)
  have hl : lv_has ls 3 [(0, .ref (a 1)), (1, .int x0), (2, .int x1)] := hl
  refine lv_aload_n hx hb d_Clint_isBelow_0 rfl (lv_at hl 0 rfl) ?_
  refine va_get (D := D) (ci := 2) (v := .ref (a 2)) (C := R_Clint) (T := F_Clint) (N := 1) hx hb hts i_Clint hown hK hP 0 rfl rfl 0 (by decide) (hts _ k_44) (fun _ h9 => h9) rfl d_Clint_isBelow_1 ?_
  refine lv_iload_n hx hb d_Clint_isBelow_4 rfl (lv_at hl 1 rfl) ?_
  refine lv_iconst (v := 1) hx hb d_Clint_isBelow_5 rfl ?_
  refine lv_iadd hx hb d_Clint_isBelow_6 ?_
  refine y_iald (v := w ((x0 + 1).toNatClampNeg)) hx hb hK hP 1 0 rfl rfl hs.2 rfl d_Clint_isBelow_7 ?_
  refine lv_aload_n hx hb d_Clint_isBelow_8 rfl (lv_at hl 0 rfl) ?_
  refine va_get (D := D) (ci := 2) (v := .ref (a 2)) (C := R_Clint) (T := F_Clint) (N := 1) hx hb hts i_Clint hown hK hP 0 rfl rfl 0 (by decide) (hts _ k_44) (fun _ h9 => h9) rfl d_Clint_isBelow_9 ?_
  refine lv_iload_n hx hb d_Clint_isBelow_12 rfl (lv_at hl 2 rfl) ?_
  refine lv_iconst (v := 1) hx hb d_Clint_isBelow_13 rfl ?_
  refine lv_iadd hx hb d_Clint_isBelow_14 ?_
  refine y_iald (v := w ((x1 + 1).toNatClampNeg)) hx hb hK hP 1 0 rfl rfl ho.2 rfl d_Clint_isBelow_15 ?_
  refine lv_icmp_eq (tgt := 39) hx hb d_Clint_isBelow_16 (by decide) (fun c_1 => ?_) (fun c_1 => ?_)
  · refine lv_aload_n hx hb d_Clint_isBelow_39 rfl (lv_at hl 0 rfl) ?_
    refine va_get (D := D) (ci := 2) (v := .ref (a 2)) (C := R_Clint) (T := F_Clint) (N := 1) hx hb hts i_Clint hown hK hP 0 rfl rfl 0 (by decide) (hts _ k_44) (fun _ h9 => h9) rfl d_Clint_isBelow_40 ?_
    refine lv_iload_n hx hb d_Clint_isBelow_43 rfl (lv_at hl 1 rfl) ?_
    refine y_iald (v := w x0.toNatClampNeg) hx hb hK hP 1 0 rfl rfl hs.1 rfl d_Clint_isBelow_44 ?_
    refine lv_aload_n hx hb d_Clint_isBelow_45 rfl (lv_at hl 0 rfl) ?_
    refine va_get (D := D) (ci := 2) (v := .ref (a 2)) (C := R_Clint) (T := F_Clint) (N := 1) hx hb hts i_Clint hown hK hP 0 rfl rfl 0 (by decide) (hts _ k_44) (fun _ h9 => h9) rfl d_Clint_isBelow_46 ?_
    refine lv_iload_n hx hb d_Clint_isBelow_49 rfl (lv_at hl 2 rfl) ?_
    refine y_iald (v := w x1.toNatClampNeg) hx hb hK hP 1 0 rfl rfl ho.1 rfl d_Clint_isBelow_50 ?_
    refine xi (wr := [((a 1), .inr (2, [.ref (a 2)])), ((a 2), .inl ((k 0), 8, .inl w))]) (W2 := fun _ => wK a k w) (xS (rest := []) ⟨hx, hb, hml, hown, hts⟩ (c_Alu_below (w x0.toNatClampNeg) (w x1.toNatClampNeg)) mw_Alu_below ms_Alu_below k_225 ⟨rfl, rfl, Nat.le_of_ble_eq_true rfl, Nat.le_of_ble_eq_true rfl⟩ hK hP hD hS hA hF [] [] rfl rfl rfl rfl hl.1 rfl (Nat.le_of_ble_eq_true rfl) d_Clint_isBelow_51 ⟨Nat.zero_le _, Nat.zero_le _⟩) hP hD hS hA [] [0, 1] [0, 1] rfl rfl rfl (by decide) (fun _ => rfl) rfl (fun r_2 _ H locs h_2 hP hD hS => ?_)
    obtain ⟨h_2, z_2⟩ := h_2
    subst h_2
    exact rz () hx hb hr hlocks (nz z_2) hP hD hS d_Clint_isBelow_54 ⟨by simp only [sp_Clint_isBelow, if_pos c_1], z_2⟩
  · refine lv_aload_n hx hb d_Clint_isBelow_19 rfl (lv_at hl 0 rfl) ?_
    refine va_get (D := D) (ci := 2) (v := .ref (a 2)) (C := R_Clint) (T := F_Clint) (N := 1) hx hb hts i_Clint hown hK hP 0 rfl rfl 0 (by decide) (hts _ k_44) (fun _ h9 => h9) rfl d_Clint_isBelow_20 ?_
    refine lv_iload_n hx hb d_Clint_isBelow_23 rfl (lv_at hl 1 rfl) ?_
    refine lv_iconst (v := 1) hx hb d_Clint_isBelow_24 rfl ?_
    refine lv_iadd hx hb d_Clint_isBelow_25 ?_
    refine y_iald (v := w ((x0 + 1).toNatClampNeg)) hx hb hK hP 1 0 rfl rfl hs.2 rfl d_Clint_isBelow_26 ?_
    refine lv_aload_n hx hb d_Clint_isBelow_27 rfl (lv_at hl 0 rfl) ?_
    refine va_get (D := D) (ci := 2) (v := .ref (a 2)) (C := R_Clint) (T := F_Clint) (N := 1) hx hb hts i_Clint hown hK hP 0 rfl rfl 0 (by decide) (hts _ k_44) (fun _ h9 => h9) rfl d_Clint_isBelow_28 ?_
    refine lv_iload_n hx hb d_Clint_isBelow_31 rfl (lv_at hl 2 rfl) ?_
    refine lv_iconst (v := 1) hx hb d_Clint_isBelow_32 rfl ?_
    refine lv_iadd hx hb d_Clint_isBelow_33 ?_
    refine y_iald (v := w ((x1 + 1).toNatClampNeg)) hx hb hK hP 1 0 rfl rfl ho.2 rfl d_Clint_isBelow_34 ?_
    refine xi (wr := [((a 1), .inr (2, [.ref (a 2)])), ((a 2), .inl ((k 0), 8, .inl w))]) (W2 := fun _ => wK a k w) (xS (rest := []) ⟨hx, hb, hml, hown, hts⟩ (c_Alu_below (w ((x0 + 1).toNatClampNeg)) (w ((x1 + 1).toNatClampNeg))) mw_Alu_below ms_Alu_below k_225 ⟨rfl, rfl, Nat.le_of_ble_eq_true rfl, Nat.le_of_ble_eq_true rfl⟩ hK hP hD hS hA hF [] [] rfl rfl rfl rfl hl.1 rfl (Nat.le_of_ble_eq_true rfl) d_Clint_isBelow_35 ⟨Nat.zero_le _, Nat.zero_le _⟩) hP hD hS hA [] [0, 1] [0, 1] rfl rfl rfl (by decide) (fun _ => rfl) rfl (fun r_3 _ H locs h_3 hP hD hS => ?_)
    obtain ⟨h_3, z_3⟩ := h_3
    subst h_3
    exact rz () hx hb hr hlocks (nz z_3) hP hD hS d_Clint_isBelow_38 ⟨by simp only [sp_Clint_isBelow, if_neg c_1], z_3⟩
def sp_Clint_lines (x0 : Int32) (w : Nat → Int32) : Int32 :=
  if (w x0.toNatClampNeg) = 0 then
    if (sp_Clint_isBelow 6 (2 + (2 * x0)) w) = 0 then
      128
    else
      0
  else
    if (sp_Clint_isBelow 6 (2 + (2 * x0)) w) = 0 then
      136
    else
      8
set_option maxHeartbeats 4000000 in
set_option maxRecDepth 100000 in
theorem c_Clint_lines {l : Launch} {D : va_G} {g : Nat → Nat} (a : Nat → Nat) (k : Nat → ClassId) (x0 : Int32) (w : Nat → Int32) (hid : x0 = 0 ∨ x0 = 1) : CT l D g y_Clint_lines b_Clint_lines 4 (some .int) (rD 2) [.ref (a 1), .int x0] (wK a k w) ([(k 0, .int)]) (Qi D (fun (r : Int32) (_ : Unit) => sp_Clint_lines x0 w = r) (fun _ => wK a k w)) := by
  refine CT.of rfl (Nat.le_of_ble_eq_true rfl) (fun p e s m below meth c A ls hx hb hr hml hts hown hlocks hA hP hK hD hF hS hl => ?_)
  have hl : lv_has ls 4 [(0, .ref (a 1)), (1, .int x0)] := hl
  refine lv_aload_n hx hb d_Clint_lines_0 rfl (lv_at hl 0 rfl) ?_
  refine va_get (D := D) (ci := 2) (v := .ref (a 2)) (C := R_Clint) (T := F_Clint) (N := 1) hx hb hts i_Clint hown hK hP 0 rfl rfl 0 (by decide) (hts _ k_44) (fun _ h9 => h9) rfl d_Clint_lines_1 ?_
  refine lv_iload_n hx hb d_Clint_lines_4 rfl (lv_at hl 1 rfl) ?_
  refine y_iald (v := w x0.toNatClampNeg) hx hb hK hP 1 0 rfl rfl (vp_01 hid (by decide)) rfl d_Clint_lines_5 ?_
  refine lv_if_eq (tgt := 14) hx hb d_Clint_lines_6 (by decide) (fun c_1 => ?_) (fun c_1 => ?_)
  · refine lv_iconst (v := 0) hx hb d_Clint_lines_14 rfl ?_
    refine lv_istore_n (lv' := [(2, .int 0), (0, .ref (a 1)), (1, .int x0)]) hx hb d_Clint_lines_15 rfl hl (by decide) rfl (fun ls hl => ?_)
    refine lv_aload_n hx hb d_Clint_lines_16 rfl (lv_at hl 1 rfl) ?_
    refine lv_bipush (v := 6) hx hb d_Clint_lines_17 rfl ?_
    refine lv_iconst (v := 2) hx hb d_Clint_lines_19 rfl ?_
    refine lv_iconst (v := 2) hx hb d_Clint_lines_20 rfl ?_
    refine lv_iload_n hx hb d_Clint_lines_21 rfl (lv_at hl 2 rfl) ?_
    refine lv_imul hx hb d_Clint_lines_22 ?_
    refine lv_iadd hx hb d_Clint_lines_23 ?_
    refine xi (wr := []) (W2 := fun _ => wK a k w) (xV (rest := []) ⟨hx, hb, hml, hown, hts⟩ (c_Clint_isBelow a k 6 (2 + (2 * x0)) w ⟨by unfold vp_in; decide, by unfold vp_in; decide⟩ (vp_cmp hid)) mw_Clint_isBelow mv_Clint_isBelow k_221 ⟨rfl, rfl, Nat.le_of_ble_eq_true rfl, Nat.le_of_ble_eq_true rfl⟩ hK hP hD hS hA hF [0, 1] [0] rfl rfl rfl 0 2 rfl rfl rfl rfl hl.1 rfl (Nat.le_of_ble_eq_true rfl) d_Clint_lines_24 ⟨Nat.zero_le _, Nat.zero_le _⟩) hP hD hS hA [0, 1] [] [0, 1] rfl rfl rfl (by decide) (fun _ => rfl) rfl (fun r_2 _ H locs h_2 hP hD hS => ?_)
    obtain ⟨h_2, z_2⟩ := h_2
    subst h_2
    refine lv_istore_n (lv' := [(3, .int (sp_Clint_isBelow 6 (2 + (2 * x0)) w)), (2, .int 0), (0, .ref (a 1)), (1, .int x0)]) hx hb d_Clint_lines_27 rfl hl (by decide) rfl (fun ls hl => ?_)
    refine lv_iload_n hx hb d_Clint_lines_28 rfl (lv_at hl 0 rfl) ?_
    refine lv_if_eq (tgt := 36) hx hb d_Clint_lines_29 (by decide) (fun c_3 => ?_) (fun c_3 => ?_)
    · refine lv_iload_n hx hb d_Clint_lines_36 rfl (lv_at hl 1 rfl) ?_
      refine lv_sipush (v := 128) hx hb d_Clint_lines_37 rfl ?_
      refine lv_ior hx hb d_Clint_lines_40 ?_
      refine W.eq (g2 := F0 m 41 ls [.int 128]) rfl ?_
      exact ri () hx hb hr hlocks hP hD hS d_Clint_lines_41 (by simp only [sp_Clint_lines, if_pos c_1, if_pos c_3])
    · refine lv_iload_n hx hb d_Clint_lines_32 rfl (lv_at hl 1 rfl) ?_
      refine lv_goto (tgt := 41) hx hb d_Clint_lines_33 (by decide) ?_
      exact ri () hx hb hr hlocks hP hD hS d_Clint_lines_41 (by simp only [sp_Clint_lines, if_pos c_1, if_neg c_3])
  · refine lv_bipush (v := 8) hx hb d_Clint_lines_9 rfl ?_
    refine lv_goto (tgt := 15) hx hb d_Clint_lines_11 (by decide) ?_
    refine lv_istore_n (lv' := [(2, .int 8), (0, .ref (a 1)), (1, .int x0)]) hx hb d_Clint_lines_15 rfl hl (by decide) rfl (fun ls hl => ?_)
    refine lv_aload_n hx hb d_Clint_lines_16 rfl (lv_at hl 1 rfl) ?_
    refine lv_bipush (v := 6) hx hb d_Clint_lines_17 rfl ?_
    refine lv_iconst (v := 2) hx hb d_Clint_lines_19 rfl ?_
    refine lv_iconst (v := 2) hx hb d_Clint_lines_20 rfl ?_
    refine lv_iload_n hx hb d_Clint_lines_21 rfl (lv_at hl 2 rfl) ?_
    refine lv_imul hx hb d_Clint_lines_22 ?_
    refine lv_iadd hx hb d_Clint_lines_23 ?_
    refine xi (wr := []) (W2 := fun _ => wK a k w) (xV (rest := []) ⟨hx, hb, hml, hown, hts⟩ (c_Clint_isBelow a k 6 (2 + (2 * x0)) w ⟨by unfold vp_in; decide, by unfold vp_in; decide⟩ (vp_cmp hid)) mw_Clint_isBelow mv_Clint_isBelow k_221 ⟨rfl, rfl, Nat.le_of_ble_eq_true rfl, Nat.le_of_ble_eq_true rfl⟩ hK hP hD hS hA hF [0, 1] [0] rfl rfl rfl 0 2 rfl rfl rfl rfl hl.1 rfl (Nat.le_of_ble_eq_true rfl) d_Clint_lines_24 ⟨Nat.zero_le _, Nat.zero_le _⟩) hP hD hS hA [0, 1] [] [0, 1] rfl rfl rfl (by decide) (fun _ => rfl) rfl (fun r_4 _ H locs h_4 hP hD hS => ?_)
    obtain ⟨h_4, z_4⟩ := h_4
    subst h_4
    refine lv_istore_n (lv' := [(3, .int (sp_Clint_isBelow 6 (2 + (2 * x0)) w)), (2, .int 8), (0, .ref (a 1)), (1, .int x0)]) hx hb d_Clint_lines_27 rfl hl (by decide) rfl (fun ls hl => ?_)
    refine lv_iload_n hx hb d_Clint_lines_28 rfl (lv_at hl 0 rfl) ?_
    refine lv_if_eq (tgt := 36) hx hb d_Clint_lines_29 (by decide) (fun c_5 => ?_) (fun c_5 => ?_)
    · refine lv_iload_n hx hb d_Clint_lines_36 rfl (lv_at hl 1 rfl) ?_
      refine lv_sipush (v := 128) hx hb d_Clint_lines_37 rfl ?_
      refine lv_ior hx hb d_Clint_lines_40 ?_
      refine W.eq (g2 := F0 m 41 ls [.int 136]) rfl ?_
      exact ri () hx hb hr hlocks hP hD hS d_Clint_lines_41 (by simp only [sp_Clint_lines, if_neg c_1, if_pos c_5])
    · refine lv_iload_n hx hb d_Clint_lines_32 rfl (lv_at hl 1 rfl) ?_
      refine lv_goto (tgt := 41) hx hb d_Clint_lines_33 (by decide) ?_
      exact ri () hx hb hr hlocks hP hD hS d_Clint_lines_41 (by simp only [sp_Clint_lines, if_neg c_1, if_neg c_5])
def sp_Clint_slotAt (x0 : Int64)  : Int32 :=
  if x0 < 33554432 then
    if x0 < 33570816 then
      if x0 < 33603576 then
        (-1)
      else
        if 33603584 ≤ x0 then
          (-1)
        else
          6 + (shr ((x0 - 33603576).toInt32) 2)
    else
      if 33570832 ≤ x0 then
        if x0 < 33603576 then
          (-1)
        else
          if 33603584 ≤ x0 then
            (-1)
          else
            6 + (shr ((x0 - 33603576).toInt32) 2)
      else
        2 + (shr ((x0 - 33570816).toInt32) 2)
  else
    if 33554440 ≤ x0 then
      if x0 < 33570816 then
        if x0 < 33603576 then
          (-1)
        else
          if 33603584 ≤ x0 then
            (-1)
          else
            6 + (shr ((x0 - 33603576).toInt32) 2)
      else
        if 33570832 ≤ x0 then
          if x0 < 33603576 then
            (-1)
          else
            if 33603584 ≤ x0 then
              (-1)
            else
              6 + (shr ((x0 - 33603576).toInt32) 2)
        else
          2 + (shr ((x0 - 33570816).toInt32) 2)
    else
      shr ((x0 - 33554432).toInt32) 2
set_option maxHeartbeats 4000000 in
set_option maxRecDepth 100000 in
theorem c_Clint_slotAt {l : Launch} {D : va_G} {g : Nat → Nat}  (x0 : Int64)   : CT l D g y_Clint_slotAt b_Clint_slotAt 2 (some .int) (rD 0) [.long x0] ([]) ([]) (Qi D (fun (r : Int32) (_ : Unit) => sp_Clint_slotAt x0 = r) (fun _ => [])) := by
  refine CT.of rfl (Nat.le_of_ble_eq_true rfl) (fun p e s m below meth c A ls hx hb hr hml hts hown hlocks hA hP hK hD hF hS hl => ?_)
  have hl : lv_has ls 2 [(0, .long x0)] := hl
  refine lv_lload_n hx hb d_Clint_slotAt_0 rfl (lv_at hl 0 rfl) ?_
  refine lv_ldc2 (v := 33554432) hx hb hown (hts _ k_326) d_Clint_slotAt_1 ?_
  refine W.lcmp hx hb d_Clint_slotAt_4 ?_
  refine lv_if_lt (tgt := 25) hx hb d_Clint_slotAt_5 (by decide) (fun b_1 => ?_) (fun b_1 => ?_)
  · have c_1 : x0 < 33554432 := (lg_cmp_lt _ _).mp b_1
    refine lv_lload_n hx hb d_Clint_slotAt_25 rfl (lv_at hl 0 rfl) ?_
    refine lv_ldc2 (v := 33570816) hx hb hown (hts _ k_328) d_Clint_slotAt_26 ?_
    refine W.lcmp hx hb d_Clint_slotAt_29 ?_
    refine lv_if_lt (tgt := 52) hx hb d_Clint_slotAt_30 (by decide) (fun b_2 => ?_) (fun b_2 => ?_)
    · have c_2 : x0 < 33570816 := (lg_cmp_lt _ _).mp b_2
      refine lv_lload_n hx hb d_Clint_slotAt_52 rfl (lv_at hl 0 rfl) ?_
      refine lv_ldc2 (v := 33603576) hx hb hown (hts _ k_330) d_Clint_slotAt_53 ?_
      refine W.lcmp hx hb d_Clint_slotAt_56 ?_
      refine lv_if_lt (tgt := 80) hx hb d_Clint_slotAt_57 (by decide) (fun b_3 => ?_) (fun b_3 => ?_)
      · have c_3 : x0 < 33603576 := (lg_cmp_lt _ _).mp b_3
        refine lv_iconst (v := (-1)) hx hb d_Clint_slotAt_80 rfl ?_
        exact ri () hx hb hr hlocks hP hD hS d_Clint_slotAt_81 (by simp only [sp_Clint_slotAt, if_pos c_1, if_pos c_2, if_pos c_3])
      · have c_3 : ¬ x0 < 33603576 := fun h9 => b_3 ((lg_cmp_lt _ _).mpr h9)
        refine lv_lload_n hx hb d_Clint_slotAt_60 rfl (lv_at hl 0 rfl) ?_
        refine lv_ldc2 (v := 33603584) hx hb hown (hts _ k_331) d_Clint_slotAt_61 ?_
        refine W.lcmp hx hb d_Clint_slotAt_64 ?_
        refine lv_if_ge (tgt := 80) hx hb d_Clint_slotAt_65 (by decide) (fun b_4 => ?_) (fun b_4 => ?_)
        · have c_4 : 33603584 ≤ x0 := (lg_cmp_ge _ _).mp b_4
          refine lv_iconst (v := (-1)) hx hb d_Clint_slotAt_80 rfl ?_
          exact ri () hx hb hr hlocks hP hD hS d_Clint_slotAt_81 (by simp only [sp_Clint_slotAt, if_pos c_1, if_pos c_2, if_neg c_3, if_pos c_4])
        · have c_4 : ¬ 33603584 ≤ x0 := fun h9 => b_4 ((lg_cmp_ge _ _).mpr h9)
          refine lv_bipush (v := 6) hx hb d_Clint_slotAt_68 rfl ?_
          refine lv_lload_n hx hb d_Clint_slotAt_70 rfl (lv_at hl 0 rfl) ?_
          refine lv_ldc2 (v := 33603576) hx hb hown (hts _ k_330) d_Clint_slotAt_71 ?_
          refine lv_lsub hx hb d_Clint_slotAt_74 ?_
          refine lv_l2i hx hb d_Clint_slotAt_75 rfl ?_
          refine lv_iconst (v := 2) hx hb d_Clint_slotAt_76 rfl ?_
          refine y_ishr hx hb d_Clint_slotAt_77 ?_
          refine lv_iadd hx hb d_Clint_slotAt_78 ?_
          exact ri () hx hb hr hlocks hP hD hS d_Clint_slotAt_79 (by simp only [sp_Clint_slotAt, if_pos c_1, if_pos c_2, if_neg c_3, if_neg c_4])
    · have c_2 : ¬ x0 < 33570816 := fun h9 => b_2 ((lg_cmp_lt _ _).mpr h9)
      refine lv_lload_n hx hb d_Clint_slotAt_33 rfl (lv_at hl 0 rfl) ?_
      refine lv_ldc2 (v := 33570832) hx hb hown (hts _ k_329) d_Clint_slotAt_34 ?_
      refine W.lcmp hx hb d_Clint_slotAt_37 ?_
      refine lv_if_ge (tgt := 52) hx hb d_Clint_slotAt_38 (by decide) (fun b_5 => ?_) (fun b_5 => ?_)
      · have c_5 : 33570832 ≤ x0 := (lg_cmp_ge _ _).mp b_5
        refine lv_lload_n hx hb d_Clint_slotAt_52 rfl (lv_at hl 0 rfl) ?_
        refine lv_ldc2 (v := 33603576) hx hb hown (hts _ k_330) d_Clint_slotAt_53 ?_
        refine W.lcmp hx hb d_Clint_slotAt_56 ?_
        refine lv_if_lt (tgt := 80) hx hb d_Clint_slotAt_57 (by decide) (fun b_6 => ?_) (fun b_6 => ?_)
        · have c_6 : x0 < 33603576 := (lg_cmp_lt _ _).mp b_6
          refine lv_iconst (v := (-1)) hx hb d_Clint_slotAt_80 rfl ?_
          exact ri () hx hb hr hlocks hP hD hS d_Clint_slotAt_81 (by simp only [sp_Clint_slotAt, if_pos c_1, if_neg c_2, if_pos c_5, if_pos c_6])
        · have c_6 : ¬ x0 < 33603576 := fun h9 => b_6 ((lg_cmp_lt _ _).mpr h9)
          refine lv_lload_n hx hb d_Clint_slotAt_60 rfl (lv_at hl 0 rfl) ?_
          refine lv_ldc2 (v := 33603584) hx hb hown (hts _ k_331) d_Clint_slotAt_61 ?_
          refine W.lcmp hx hb d_Clint_slotAt_64 ?_
          refine lv_if_ge (tgt := 80) hx hb d_Clint_slotAt_65 (by decide) (fun b_7 => ?_) (fun b_7 => ?_)
          · have c_7 : 33603584 ≤ x0 := (lg_cmp_ge _ _).mp b_7
            refine lv_iconst (v := (-1)) hx hb d_Clint_slotAt_80 rfl ?_
            exact ri () hx hb hr hlocks hP hD hS d_Clint_slotAt_81 (by simp only [sp_Clint_slotAt, if_pos c_1, if_neg c_2, if_pos c_5, if_neg c_6, if_pos c_7])
          · have c_7 : ¬ 33603584 ≤ x0 := fun h9 => b_7 ((lg_cmp_ge _ _).mpr h9)
            refine lv_bipush (v := 6) hx hb d_Clint_slotAt_68 rfl ?_
            refine lv_lload_n hx hb d_Clint_slotAt_70 rfl (lv_at hl 0 rfl) ?_
            refine lv_ldc2 (v := 33603576) hx hb hown (hts _ k_330) d_Clint_slotAt_71 ?_
            refine lv_lsub hx hb d_Clint_slotAt_74 ?_
            refine lv_l2i hx hb d_Clint_slotAt_75 rfl ?_
            refine lv_iconst (v := 2) hx hb d_Clint_slotAt_76 rfl ?_
            refine y_ishr hx hb d_Clint_slotAt_77 ?_
            refine lv_iadd hx hb d_Clint_slotAt_78 ?_
            exact ri () hx hb hr hlocks hP hD hS d_Clint_slotAt_79 (by simp only [sp_Clint_slotAt, if_pos c_1, if_neg c_2, if_pos c_5, if_neg c_6, if_neg c_7])
      · have c_5 : ¬ 33570832 ≤ x0 := fun h9 => b_5 ((lg_cmp_ge _ _).mpr h9)
        refine lv_iconst (v := 2) hx hb d_Clint_slotAt_41 rfl ?_
        refine lv_lload_n hx hb d_Clint_slotAt_42 rfl (lv_at hl 0 rfl) ?_
        refine lv_ldc2 (v := 33570816) hx hb hown (hts _ k_328) d_Clint_slotAt_43 ?_
        refine lv_lsub hx hb d_Clint_slotAt_46 ?_
        refine lv_l2i hx hb d_Clint_slotAt_47 rfl ?_
        refine lv_iconst (v := 2) hx hb d_Clint_slotAt_48 rfl ?_
        refine y_ishr hx hb d_Clint_slotAt_49 ?_
        refine lv_iadd hx hb d_Clint_slotAt_50 ?_
        exact ri () hx hb hr hlocks hP hD hS d_Clint_slotAt_51 (by simp only [sp_Clint_slotAt, if_pos c_1, if_neg c_2, if_neg c_5])
  · have c_1 : ¬ x0 < 33554432 := fun h9 => b_1 ((lg_cmp_lt _ _).mpr h9)
    refine lv_lload_n hx hb d_Clint_slotAt_8 rfl (lv_at hl 0 rfl) ?_
    refine lv_ldc2 (v := 33554440) hx hb hown (hts _ k_327) d_Clint_slotAt_9 ?_
    refine W.lcmp hx hb d_Clint_slotAt_12 ?_
    refine lv_if_ge (tgt := 25) hx hb d_Clint_slotAt_13 (by decide) (fun b_8 => ?_) (fun b_8 => ?_)
    · have c_8 : 33554440 ≤ x0 := (lg_cmp_ge _ _).mp b_8
      refine lv_lload_n hx hb d_Clint_slotAt_25 rfl (lv_at hl 0 rfl) ?_
      refine lv_ldc2 (v := 33570816) hx hb hown (hts _ k_328) d_Clint_slotAt_26 ?_
      refine W.lcmp hx hb d_Clint_slotAt_29 ?_
      refine lv_if_lt (tgt := 52) hx hb d_Clint_slotAt_30 (by decide) (fun b_9 => ?_) (fun b_9 => ?_)
      · have c_9 : x0 < 33570816 := (lg_cmp_lt _ _).mp b_9
        refine lv_lload_n hx hb d_Clint_slotAt_52 rfl (lv_at hl 0 rfl) ?_
        refine lv_ldc2 (v := 33603576) hx hb hown (hts _ k_330) d_Clint_slotAt_53 ?_
        refine W.lcmp hx hb d_Clint_slotAt_56 ?_
        refine lv_if_lt (tgt := 80) hx hb d_Clint_slotAt_57 (by decide) (fun b_10 => ?_) (fun b_10 => ?_)
        · have c_10 : x0 < 33603576 := (lg_cmp_lt _ _).mp b_10
          refine lv_iconst (v := (-1)) hx hb d_Clint_slotAt_80 rfl ?_
          exact ri () hx hb hr hlocks hP hD hS d_Clint_slotAt_81 (by simp only [sp_Clint_slotAt, if_neg c_1, if_pos c_8, if_pos c_9, if_pos c_10])
        · have c_10 : ¬ x0 < 33603576 := fun h9 => b_10 ((lg_cmp_lt _ _).mpr h9)
          refine lv_lload_n hx hb d_Clint_slotAt_60 rfl (lv_at hl 0 rfl) ?_
          refine lv_ldc2 (v := 33603584) hx hb hown (hts _ k_331) d_Clint_slotAt_61 ?_
          refine W.lcmp hx hb d_Clint_slotAt_64 ?_
          refine lv_if_ge (tgt := 80) hx hb d_Clint_slotAt_65 (by decide) (fun b_11 => ?_) (fun b_11 => ?_)
          · have c_11 : 33603584 ≤ x0 := (lg_cmp_ge _ _).mp b_11
            refine lv_iconst (v := (-1)) hx hb d_Clint_slotAt_80 rfl ?_
            exact ri () hx hb hr hlocks hP hD hS d_Clint_slotAt_81 (by simp only [sp_Clint_slotAt, if_neg c_1, if_pos c_8, if_pos c_9, if_neg c_10, if_pos c_11])
          · have c_11 : ¬ 33603584 ≤ x0 := fun h9 => b_11 ((lg_cmp_ge _ _).mpr h9)
            refine lv_bipush (v := 6) hx hb d_Clint_slotAt_68 rfl ?_
            refine lv_lload_n hx hb d_Clint_slotAt_70 rfl (lv_at hl 0 rfl) ?_
            refine lv_ldc2 (v := 33603576) hx hb hown (hts _ k_330) d_Clint_slotAt_71 ?_
            refine lv_lsub hx hb d_Clint_slotAt_74 ?_
            refine lv_l2i hx hb d_Clint_slotAt_75 rfl ?_
            refine lv_iconst (v := 2) hx hb d_Clint_slotAt_76 rfl ?_
            refine y_ishr hx hb d_Clint_slotAt_77 ?_
            refine lv_iadd hx hb d_Clint_slotAt_78 ?_
            exact ri () hx hb hr hlocks hP hD hS d_Clint_slotAt_79 (by simp only [sp_Clint_slotAt, if_neg c_1, if_pos c_8, if_pos c_9, if_neg c_10, if_neg c_11])
      · have c_9 : ¬ x0 < 33570816 := fun h9 => b_9 ((lg_cmp_lt _ _).mpr h9)
        refine lv_lload_n hx hb d_Clint_slotAt_33 rfl (lv_at hl 0 rfl) ?_
        refine lv_ldc2 (v := 33570832) hx hb hown (hts _ k_329) d_Clint_slotAt_34 ?_
        refine W.lcmp hx hb d_Clint_slotAt_37 ?_
        refine lv_if_ge (tgt := 52) hx hb d_Clint_slotAt_38 (by decide) (fun b_12 => ?_) (fun b_12 => ?_)
        · have c_12 : 33570832 ≤ x0 := (lg_cmp_ge _ _).mp b_12
          refine lv_lload_n hx hb d_Clint_slotAt_52 rfl (lv_at hl 0 rfl) ?_
          refine lv_ldc2 (v := 33603576) hx hb hown (hts _ k_330) d_Clint_slotAt_53 ?_
          refine W.lcmp hx hb d_Clint_slotAt_56 ?_
          refine lv_if_lt (tgt := 80) hx hb d_Clint_slotAt_57 (by decide) (fun b_13 => ?_) (fun b_13 => ?_)
          · have c_13 : x0 < 33603576 := (lg_cmp_lt _ _).mp b_13
            refine lv_iconst (v := (-1)) hx hb d_Clint_slotAt_80 rfl ?_
            exact ri () hx hb hr hlocks hP hD hS d_Clint_slotAt_81 (by simp only [sp_Clint_slotAt, if_neg c_1, if_pos c_8, if_neg c_9, if_pos c_12, if_pos c_13])
          · have c_13 : ¬ x0 < 33603576 := fun h9 => b_13 ((lg_cmp_lt _ _).mpr h9)
            refine lv_lload_n hx hb d_Clint_slotAt_60 rfl (lv_at hl 0 rfl) ?_
            refine lv_ldc2 (v := 33603584) hx hb hown (hts _ k_331) d_Clint_slotAt_61 ?_
            refine W.lcmp hx hb d_Clint_slotAt_64 ?_
            refine lv_if_ge (tgt := 80) hx hb d_Clint_slotAt_65 (by decide) (fun b_14 => ?_) (fun b_14 => ?_)
            · have c_14 : 33603584 ≤ x0 := (lg_cmp_ge _ _).mp b_14
              refine lv_iconst (v := (-1)) hx hb d_Clint_slotAt_80 rfl ?_
              exact ri () hx hb hr hlocks hP hD hS d_Clint_slotAt_81 (by simp only [sp_Clint_slotAt, if_neg c_1, if_pos c_8, if_neg c_9, if_pos c_12, if_neg c_13, if_pos c_14])
            · have c_14 : ¬ 33603584 ≤ x0 := fun h9 => b_14 ((lg_cmp_ge _ _).mpr h9)
              refine lv_bipush (v := 6) hx hb d_Clint_slotAt_68 rfl ?_
              refine lv_lload_n hx hb d_Clint_slotAt_70 rfl (lv_at hl 0 rfl) ?_
              refine lv_ldc2 (v := 33603576) hx hb hown (hts _ k_330) d_Clint_slotAt_71 ?_
              refine lv_lsub hx hb d_Clint_slotAt_74 ?_
              refine lv_l2i hx hb d_Clint_slotAt_75 rfl ?_
              refine lv_iconst (v := 2) hx hb d_Clint_slotAt_76 rfl ?_
              refine y_ishr hx hb d_Clint_slotAt_77 ?_
              refine lv_iadd hx hb d_Clint_slotAt_78 ?_
              exact ri () hx hb hr hlocks hP hD hS d_Clint_slotAt_79 (by simp only [sp_Clint_slotAt, if_neg c_1, if_pos c_8, if_neg c_9, if_pos c_12, if_neg c_13, if_neg c_14])
        · have c_12 : ¬ 33570832 ≤ x0 := fun h9 => b_12 ((lg_cmp_ge _ _).mpr h9)
          refine lv_iconst (v := 2) hx hb d_Clint_slotAt_41 rfl ?_
          refine lv_lload_n hx hb d_Clint_slotAt_42 rfl (lv_at hl 0 rfl) ?_
          refine lv_ldc2 (v := 33570816) hx hb hown (hts _ k_328) d_Clint_slotAt_43 ?_
          refine lv_lsub hx hb d_Clint_slotAt_46 ?_
          refine lv_l2i hx hb d_Clint_slotAt_47 rfl ?_
          refine lv_iconst (v := 2) hx hb d_Clint_slotAt_48 rfl ?_
          refine y_ishr hx hb d_Clint_slotAt_49 ?_
          refine lv_iadd hx hb d_Clint_slotAt_50 ?_
          exact ri () hx hb hr hlocks hP hD hS d_Clint_slotAt_51 (by simp only [sp_Clint_slotAt, if_neg c_1, if_pos c_8, if_neg c_9, if_neg c_12])
    · have c_8 : ¬ 33554440 ≤ x0 := fun h9 => b_8 ((lg_cmp_ge _ _).mpr h9)
      refine lv_lload_n hx hb d_Clint_slotAt_16 rfl (lv_at hl 0 rfl) ?_
      refine lv_ldc2 (v := 33554432) hx hb hown (hts _ k_326) d_Clint_slotAt_17 ?_
      refine lv_lsub hx hb d_Clint_slotAt_20 ?_
      refine lv_l2i hx hb d_Clint_slotAt_21 rfl ?_
      refine lv_iconst (v := 2) hx hb d_Clint_slotAt_22 rfl ?_
      refine y_ishr hx hb d_Clint_slotAt_23 ?_
      exact ri () hx hb hr hlocks hP hD hS d_Clint_slotAt_24 (by simp only [sp_Clint_slotAt, if_neg c_1, if_neg c_8])
theorem sl_of {x : Int64} {c m : Nat} (C : Int64) (hC : C = lN c) (hc : c < 2 ^ 40) (h1 : ¬ x < C) (E : Int64) (hE : E = lN (c + m)) (hm : m ≤ 16) (h2 : ¬ E ≤ x) : ∃ j, j < m ∧ x = lN (c + j) ∧ (shr (x - C).toInt32 2) = nI (j / 4) := by
  unfold shr
  subst hC hE
  have h0 : ¬ x < 0 := by
    rw [Int64.lt_iff_toInt_lt] at h1 ⊢
    rw [pk_lT (by omega)] at h1
    have : (0 : Int64).toInt = 0 := rfl
    omega
  obtain ⟨k, hk, rfl⟩ := pk_lOf h0
  rw [pk_lLT hk (by omega)] at h1
  rw [pk_lLE (by omega) hk] at h2
  refine ⟨k - c, by omega, by rw [show c + (k - c) = k from by omega], ?_⟩
  rw [lN_sub (by omega), lN_i, pk_shrN (by omega) _ 2 (by decide)]
theorem vp_slotd (x0 : Int64) : sp_Clint_slotAt x0 = (-1) ∨ vp_in (sp_Clint_slotAt x0) 8 := by
  unfold sp_Clint_slotAt
  repeat' split
  all_goals first
    | exact Or.inl rfl
    | (right
       obtain ⟨j, hj, -, e⟩ := sl_of (x := x0) (c := 33603576) (m := 8) 33603576 rfl (by decide) (by assumption) 33603584 rfl (by decide) (by assumption)
       rw [e, show (6 : Int32) = nI 6 from rfl, nI_add]
       exact vp_in_nI (by omega) (by decide))
    | (right
       obtain ⟨j, hj, -, e⟩ := sl_of (x := x0) (c := 33570816) (m := 16) 33570816 rfl (by decide) (by assumption) 33570832 rfl (by decide) (by assumption)
       rw [e, show (2 : Int32) = nI 2 from rfl, nI_add]
       exact vp_in_nI (by omega) (by decide))
    | (right
       obtain ⟨j, hj, -, e⟩ := sl_of (x := x0) (c := 33554432) (m := 8) 33554432 rfl (by decide) (by assumption) 33554440 rfl (by decide) (by assumption)
       rw [e]
       exact vp_in_nI (by omega) (by decide))
theorem vp_slot {x0 : Int64} (h : ¬ sp_Clint_slotAt x0 = (-1)) : vp_in (sp_Clint_slotAt x0) 8 := (vp_slotd x0).resolve_left h
def sp_Clint_store (x0 : Int64) (x1 : Int32) (w : Nat → Int32) : Nat → Int32 :=
  if (sp_Clint_slotAt x0) = (-1) then
    w
  else
    if 2 ≤ (sp_Clint_slotAt x0) then
      (upd w ((sp_Clint_slotAt x0).toNatClampNeg) x1)
    else
      (upd w ((sp_Clint_slotAt x0).toNatClampNeg) (x1 &&& 1))
set_option maxHeartbeats 4000000 in
set_option maxRecDepth 100000 in
theorem c_Clint_store {l : Launch} {D : va_G} {g : Nat → Nat} (a : Nat → Nat) (k : Nat → ClassId) (x0 : Int64) (x1 : Int32) (w : Nat → Int32)  : CT l D g y_Clint_store b_Clint_store 5 none (rD 1) [.ref (a 1), .long x0, .int x1] (wK a k w) ([(k 0, .int)]) (Qv D (fun (u : Nat → Int32) => sp_Clint_store x0 x1 w = u) (fun u => wK a k u)) := by
  refine CT.of rfl (Nat.le_of_ble_eq_true rfl) (fun p e s m below meth c A ls hx hb hr hml hts hown hlocks hA hP hK hD hF hS hl => ?_)
  have hl : lv_has ls 5 [(0, .ref (a 1)), (1, .long x0), (3, .int x1)] := hl
  refine lv_lload_n hx hb d_Clint_store_0 rfl (lv_at hl 1 rfl) ?_
  refine xi (wr := [((a 1), .inr (2, [.ref (a 2)])), ((a 2), .inl ((k 0), 8, .inl w))]) (W2 := fun _ => wK a k w) (xS (rest := []) ⟨hx, hb, hml, hown, hts⟩ (c_Clint_slotAt x0) mw_Clint_slotAt ms_Clint_slotAt k_433 ⟨rfl, rfl, Nat.le_of_ble_eq_true rfl, Nat.le_of_ble_eq_true rfl⟩ hK hP hD hS hA hF [] [] rfl rfl rfl rfl hl.1 rfl (Nat.le_of_ble_eq_true rfl) d_Clint_store_1 ⟨Nat.zero_le _, Nat.zero_le _⟩) hP hD hS hA [] [0, 1] [0, 1] rfl rfl rfl (by decide) (fun _ => rfl) rfl (fun r_1 _ H locs h_1 hP hD hS => ?_)
  subst h_1
  refine lv_istore (lv' := [(4, .int (sp_Clint_slotAt x0)), (0, .ref (a 1)), (1, .long x0), (3, .int x1)]) hx hb d_Clint_store_4 hl (by decide) rfl (fun ls hl => ?_)
  refine lv_iload hx hb d_Clint_store_6 (lv_at hl 0 rfl) ?_
  refine lv_iconst (v := (-1)) hx hb d_Clint_store_8 rfl ?_
  refine lv_icmp_eq (tgt := 32) hx hb d_Clint_store_9 (by decide) (fun c_2 => ?_) (fun c_2 => ?_)
  · exact rv w hx hb hr hlocks hP hD hS d_Clint_store_32 (by simp only [sp_Clint_store, if_pos c_2])
  · refine lv_aload_n hx hb d_Clint_store_12 rfl (lv_at hl 1 rfl) ?_
    refine va_get (D := D) (ci := 2) (v := .ref (a 2)) (C := R_Clint) (T := F_Clint) (N := 1) hx hb hts i_Clint hown hK hP 0 rfl rfl 0 (by decide) (hts _ k_44) (fun _ h9 => h9) rfl d_Clint_store_13 ?_
    refine lv_iload hx hb d_Clint_store_16 (lv_at hl 0 rfl) ?_
    refine lv_iload hx hb d_Clint_store_18 (lv_at hl 0 rfl) ?_
    refine lv_iconst (v := 2) hx hb d_Clint_store_20 rfl ?_
    refine lv_icmp_ge (tgt := 30) hx hb d_Clint_store_21 (by decide) (fun c_3 => ?_) (fun c_3 => ?_)
    · refine lv_iload_n hx hb d_Clint_store_30 rfl (lv_at hl 3 rfl) ?_
      refine y_iast (ws' := wK a k (upd w ((sp_Clint_slotAt x0).toNatClampNeg) x1)) hx hb hK hP hD hS 1 0 rfl rfl (vp_slot c_2) d_Clint_store_31 rfl (fun H locs hP hD hS => ?_)
      exact rv (upd w ((sp_Clint_slotAt x0).toNatClampNeg) x1) hx hb hr hlocks hP hD hS d_Clint_store_32 (by simp only [sp_Clint_store, if_neg c_2, if_pos c_3])
    · refine lv_iload_n hx hb d_Clint_store_24 rfl (lv_at hl 3 rfl) ?_
      refine lv_iconst (v := 1) hx hb d_Clint_store_25 rfl ?_
      refine lv_iand hx hb d_Clint_store_26 ?_
      refine lv_goto (tgt := 31) hx hb d_Clint_store_27 (by decide) ?_
      refine y_iast (ws' := wK a k (upd w ((sp_Clint_slotAt x0).toNatClampNeg) (x1 &&& 1))) hx hb hK hP hD hS 1 0 rfl rfl (vp_slot c_2) d_Clint_store_31 rfl (fun H locs hP hD hS => ?_)
      exact rv (upd w ((sp_Clint_slotAt x0).toNatClampNeg) (x1 &&& 1)) hx hb hr hlocks hP hD hS d_Clint_store_32 (by simp only [sp_Clint_store, if_neg c_2, if_neg c_3])
def sp_Clint_advance  (w : Nat → Int32) : Nat → Int32 :=
  if ((w 6) + 1) = 0 then
    (upd (upd w 6 ((w 6) + 1)) 7 ((w 7) + 1))
  else
    (upd w 6 ((w 6) + 1))
set_option maxHeartbeats 4000000 in
set_option maxRecDepth 100000 in
theorem c_Clint_advance {l : Launch} {D : va_G} {g : Nat → Nat} (a : Nat → Nat) (k : Nat → ClassId)  (w : Nat → Int32)  : CT l D g y_Clint_advance b_Clint_advance 1 none (rD 0) [.ref (a 1)] (wK a k w) ([(k 0, .int)]) (Qv D (fun (u : Nat → Int32) => sp_Clint_advance w = u) (fun u => wK a k u)) := by
  refine CT.of rfl (Nat.le_of_ble_eq_true rfl) (fun p e s m below meth c A ls hx hb hr hml hts hown hlocks hA hP hK hD hF hS hl => ?_)
  have hl : lv_has ls 1 [(0, .ref (a 1))] := hl
  refine lv_aload_n hx hb d_Clint_advance_0 rfl (lv_at hl 0 rfl) ?_
  refine va_get (D := D) (ci := 2) (v := .ref (a 2)) (C := R_Clint) (T := F_Clint) (N := 1) hx hb hts i_Clint hown hK hP 0 rfl rfl 0 (by decide) (hts _ k_44) (fun _ h9 => h9) rfl d_Clint_advance_1 ?_
  refine lv_bipush (v := 6) hx hb d_Clint_advance_4 rfl ?_
  refine lv_dup2_11 hx hb d_Clint_advance_6 rfl rfl ?_
  refine y_iald (v := w 6) hx hb hK hP 1 0 rfl rfl (by unfold vp_in; decide) rfl d_Clint_advance_7 ?_
  refine lv_iconst (v := 1) hx hb d_Clint_advance_8 rfl ?_
  refine lv_iadd hx hb d_Clint_advance_9 ?_
  refine y_iast (ws' := wK a k (upd w 6 ((w 6) + 1))) hx hb hK hP hD hS 1 0 rfl rfl (by unfold vp_in; decide) d_Clint_advance_10 rfl (fun H locs hP hD hS => ?_)
  refine lv_aload_n hx hb d_Clint_advance_11 rfl (lv_at hl 0 rfl) ?_
  refine va_get (D := D) (ci := 2) (v := .ref (a 2)) (C := R_Clint) (T := F_Clint) (N := 1) hx hb hts i_Clint hown hK hP 0 rfl rfl 0 (by decide) (hts _ k_44) (fun _ h9 => h9) rfl d_Clint_advance_12 ?_
  refine lv_bipush (v := 6) hx hb d_Clint_advance_15 rfl ?_
  refine y_iald (v := (w 6) + 1) hx hb hK hP 1 0 rfl rfl (by unfold vp_in; decide) rfl d_Clint_advance_17 ?_
  refine lv_if_ne (tgt := 32) hx hb d_Clint_advance_18 (by decide) (fun c_1 => ?_) (fun c_1 => ?_)
  · exact rv (upd w 6 ((w 6) + 1)) hx hb hr hlocks hP hD hS d_Clint_advance_32 (by simp only [sp_Clint_advance, if_neg c_1])
  · refine lv_aload_n hx hb d_Clint_advance_21 rfl (lv_at hl 0 rfl) ?_
    refine va_get (D := D) (ci := 2) (v := .ref (a 2)) (C := R_Clint) (T := F_Clint) (N := 1) hx hb hts i_Clint hown hK hP 0 rfl rfl 0 (by decide) (hts _ k_44) (fun _ h9 => h9) rfl d_Clint_advance_22 ?_
    refine lv_bipush (v := 7) hx hb d_Clint_advance_25 rfl ?_
    refine lv_dup2_11 hx hb d_Clint_advance_27 rfl rfl ?_
    refine y_iald (v := w 7) hx hb hK hP 1 0 rfl rfl (by unfold vp_in; decide) rfl d_Clint_advance_28 ?_
    refine lv_iconst (v := 1) hx hb d_Clint_advance_29 rfl ?_
    refine lv_iadd hx hb d_Clint_advance_30 ?_
    refine y_iast (ws' := wK a k (upd (upd w 6 ((w 6) + 1)) 7 ((w 7) + 1))) hx hb hK hP hD hS 1 0 rfl rfl (by unfold vp_in; decide) d_Clint_advance_31 rfl (fun H locs hP hD hS => ?_)
    exact rv (upd (upd w 6 ((w 6) + 1)) 7 ((w 7) + 1)) hx hb hr hlocks hP hD hS d_Clint_advance_32 (by simp only [sp_Clint_advance, if_pos c_1])
