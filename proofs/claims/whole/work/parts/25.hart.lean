def sp_Hart_restart (n : Nat) (id : Int32)  (σ : TH) : TH :=
  let u_34 := sp_Csrs_restart σ.2.2.2.2.2
  (σ.1, (upd (upd (upd (upd (upd (upd (upd (upd (upd (upd (upd (upd (upd (upd (upd (upd (upd (upd (upd (upd (upd (upd (upd (upd (upd (upd (upd (upd (upd (upd (upd (upd σ.2.1 0 0) 1 0) 2 0) 3 0) 4 0) 5 0) 6 0) 7 0) 8 0) 9 0) 10 0) 11 0) 12 0) 13 0) 14 0) 15 0) 16 0) 17 0) 18 0) 19 0) 20 0) 21 0) 22 0) 23 0) 24 0) 25 0) 26 0) 27 0) 28 0) 29 0) 30 0) 31 0), (-2147483648), 3, σ.2.2.2.2.1, u_34)
set_option maxHeartbeats 4000000 in
set_option maxRecDepth 100000 in
theorem c_Hart_restart {l : Launch} {D : va_G} {g : Nat → Nat} (a : Nat → Nat) (k : Nat → ClassId) (n : Nat) (id : Int32)  (σ : TH) (hn : n ≤ 4096) (hid : id = 0 ∨ id = 1) : CT l D g y_Hart_restart b_Hart_restart 2 none (rD 1) [.ref (a 6)] (wH a k n id σ) (tyH k) (Qv D (fun (u : TH) => sp_Hart_restart n id σ = u) (fun u => wH a k n id u)) := by
  refine CT.of rfl (Nat.le_of_ble_eq_true rfl) (fun p e s m below meth c A ls hx hb hr hml hts hown hlocks hA hP hK hD hF hS hl => ?_)
  have hl : lv_has ls 2 [(0, .ref (a 6))] := hl
  refine lv_iconst (v := 0) hx hb d_Hart_restart_0 rfl ?_
  refine lv_istore_n (lv' := [(1, .int 0), (0, .ref (a 6))]) hx hb d_Hart_restart_1 rfl hl (by decide) rfl (fun ls hl => ?_)
  refine lv_iload_n hx hb d_Hart_restart_2 rfl (lv_at hl 0 rfl) ?_
  refine lv_aload_n hx hb d_Hart_restart_3 rfl (lv_at hl 1 rfl) ?_
  refine va_get (D := D) (ci := 4) (v := .ref (a 7)) (C := R_Hart) (T := F_Hart) (N := 6) hx hb hts i_Hart hown hK hP 6 rfl rfl 1 (by decide) (hts _ k_144) (fun _ h9 => h9) rfl d_Hart_restart_4 ?_
  refine va_alen (v := 32) hx hb hK hP 7 4 rfl rfl rfl d_Hart_restart_7 ?_
  refine lv_icmp_ge (tgt := 24) hx hb d_Hart_restart_8 (by decide) (fun h9 => absurd h9 (by decide)) (fun _ => ?_)
  refine lv_aload_n hx hb d_Hart_restart_11 rfl (lv_at hl 1 rfl) ?_
  refine va_get (D := D) (ci := 4) (v := .ref (a 7)) (C := R_Hart) (T := F_Hart) (N := 6) hx hb hts i_Hart hown hK hP 6 rfl rfl 1 (by decide) (hts _ k_144) (fun _ h9 => h9) rfl d_Hart_restart_12 ?_
  refine lv_iload_n hx hb d_Hart_restart_15 rfl (lv_at hl 0 rfl) ?_
  refine lv_iconst (v := 0) hx hb d_Hart_restart_16 rfl ?_
  refine y_iast (ws' := wH a k n id (σ.1, (upd σ.2.1 0 0), σ.2.2.1, σ.2.2.2.1, σ.2.2.2.2.1, σ.2.2.2.2.2)) hx hb hK hP hD hS 7 4 rfl rfl (by unfold vp_in; decide) d_Hart_restart_17 rfl (fun H locs hP hD hS => ?_)
  refine lv_iinc (v := 1) (lv' := [(1, .int 1), (0, .ref (a 6))]) hx hb d_Hart_restart_18 hl (k := 0) rfl rfl (by decide) rfl (fun ls hl => ?_)
  refine lv_goto (tgt := 2) hx hb d_Hart_restart_21 (by decide) ?_
  refine lv_iload_n hx hb d_Hart_restart_2 rfl (lv_at hl 0 rfl) ?_
  refine lv_aload_n hx hb d_Hart_restart_3 rfl (lv_at hl 1 rfl) ?_
  refine va_get (D := D) (ci := 4) (v := .ref (a 7)) (C := R_Hart) (T := F_Hart) (N := 6) hx hb hts i_Hart hown hK hP 6 rfl rfl 1 (by decide) (hts _ k_144) (fun _ h9 => h9) rfl d_Hart_restart_4 ?_
  refine va_alen (v := 32) hx hb hK hP 7 4 rfl rfl rfl d_Hart_restart_7 ?_
  refine lv_icmp_ge (tgt := 24) hx hb d_Hart_restart_8 (by decide) (fun h9 => absurd h9 (by decide)) (fun _ => ?_)
  refine lv_aload_n hx hb d_Hart_restart_11 rfl (lv_at hl 1 rfl) ?_
  refine va_get (D := D) (ci := 4) (v := .ref (a 7)) (C := R_Hart) (T := F_Hart) (N := 6) hx hb hts i_Hart hown hK hP 6 rfl rfl 1 (by decide) (hts _ k_144) (fun _ h9 => h9) rfl d_Hart_restart_12 ?_
  refine lv_iload_n hx hb d_Hart_restart_15 rfl (lv_at hl 0 rfl) ?_
  refine lv_iconst (v := 0) hx hb d_Hart_restart_16 rfl ?_
  refine y_iast (ws' := wH a k n id (σ.1, (upd (upd σ.2.1 0 0) 1 0), σ.2.2.1, σ.2.2.2.1, σ.2.2.2.2.1, σ.2.2.2.2.2)) hx hb hK hP hD hS 7 4 rfl rfl (by unfold vp_in; decide) d_Hart_restart_17 rfl (fun H locs hP hD hS => ?_)
  refine lv_iinc (v := 2) (lv' := [(1, .int 2), (0, .ref (a 6))]) hx hb d_Hart_restart_18 hl (k := 0) rfl rfl (by decide) rfl (fun ls hl => ?_)
  refine lv_goto (tgt := 2) hx hb d_Hart_restart_21 (by decide) ?_
  refine lv_iload_n hx hb d_Hart_restart_2 rfl (lv_at hl 0 rfl) ?_
  refine lv_aload_n hx hb d_Hart_restart_3 rfl (lv_at hl 1 rfl) ?_
  refine va_get (D := D) (ci := 4) (v := .ref (a 7)) (C := R_Hart) (T := F_Hart) (N := 6) hx hb hts i_Hart hown hK hP 6 rfl rfl 1 (by decide) (hts _ k_144) (fun _ h9 => h9) rfl d_Hart_restart_4 ?_
  refine va_alen (v := 32) hx hb hK hP 7 4 rfl rfl rfl d_Hart_restart_7 ?_
  refine lv_icmp_ge (tgt := 24) hx hb d_Hart_restart_8 (by decide) (fun h9 => absurd h9 (by decide)) (fun _ => ?_)
  refine lv_aload_n hx hb d_Hart_restart_11 rfl (lv_at hl 1 rfl) ?_
  refine va_get (D := D) (ci := 4) (v := .ref (a 7)) (C := R_Hart) (T := F_Hart) (N := 6) hx hb hts i_Hart hown hK hP 6 rfl rfl 1 (by decide) (hts _ k_144) (fun _ h9 => h9) rfl d_Hart_restart_12 ?_
  refine lv_iload_n hx hb d_Hart_restart_15 rfl (lv_at hl 0 rfl) ?_
  refine lv_iconst (v := 0) hx hb d_Hart_restart_16 rfl ?_
  refine y_iast (ws' := wH a k n id (σ.1, (upd (upd (upd σ.2.1 0 0) 1 0) 2 0), σ.2.2.1, σ.2.2.2.1, σ.2.2.2.2.1, σ.2.2.2.2.2)) hx hb hK hP hD hS 7 4 rfl rfl (by unfold vp_in; decide) d_Hart_restart_17 rfl (fun H locs hP hD hS => ?_)
  refine lv_iinc (v := 3) (lv' := [(1, .int 3), (0, .ref (a 6))]) hx hb d_Hart_restart_18 hl (k := 0) rfl rfl (by decide) rfl (fun ls hl => ?_)
  refine lv_goto (tgt := 2) hx hb d_Hart_restart_21 (by decide) ?_
  refine lv_iload_n hx hb d_Hart_restart_2 rfl (lv_at hl 0 rfl) ?_
  refine lv_aload_n hx hb d_Hart_restart_3 rfl (lv_at hl 1 rfl) ?_
  refine va_get (D := D) (ci := 4) (v := .ref (a 7)) (C := R_Hart) (T := F_Hart) (N := 6) hx hb hts i_Hart hown hK hP 6 rfl rfl 1 (by decide) (hts _ k_144) (fun _ h9 => h9) rfl d_Hart_restart_4 ?_
  refine va_alen (v := 32) hx hb hK hP 7 4 rfl rfl rfl d_Hart_restart_7 ?_
  refine lv_icmp_ge (tgt := 24) hx hb d_Hart_restart_8 (by decide) (fun h9 => absurd h9 (by decide)) (fun _ => ?_)
  refine lv_aload_n hx hb d_Hart_restart_11 rfl (lv_at hl 1 rfl) ?_
  refine va_get (D := D) (ci := 4) (v := .ref (a 7)) (C := R_Hart) (T := F_Hart) (N := 6) hx hb hts i_Hart hown hK hP 6 rfl rfl 1 (by decide) (hts _ k_144) (fun _ h9 => h9) rfl d_Hart_restart_12 ?_
  refine lv_iload_n hx hb d_Hart_restart_15 rfl (lv_at hl 0 rfl) ?_
  refine lv_iconst (v := 0) hx hb d_Hart_restart_16 rfl ?_
  refine y_iast (ws' := wH a k n id (σ.1, (upd (upd (upd (upd σ.2.1 0 0) 1 0) 2 0) 3 0), σ.2.2.1, σ.2.2.2.1, σ.2.2.2.2.1, σ.2.2.2.2.2)) hx hb hK hP hD hS 7 4 rfl rfl (by unfold vp_in; decide) d_Hart_restart_17 rfl (fun H locs hP hD hS => ?_)
  refine lv_iinc (v := 4) (lv' := [(1, .int 4), (0, .ref (a 6))]) hx hb d_Hart_restart_18 hl (k := 0) rfl rfl (by decide) rfl (fun ls hl => ?_)
  refine lv_goto (tgt := 2) hx hb d_Hart_restart_21 (by decide) ?_
  refine lv_iload_n hx hb d_Hart_restart_2 rfl (lv_at hl 0 rfl) ?_
  refine lv_aload_n hx hb d_Hart_restart_3 rfl (lv_at hl 1 rfl) ?_
  refine va_get (D := D) (ci := 4) (v := .ref (a 7)) (C := R_Hart) (T := F_Hart) (N := 6) hx hb hts i_Hart hown hK hP 6 rfl rfl 1 (by decide) (hts _ k_144) (fun _ h9 => h9) rfl d_Hart_restart_4 ?_
  refine va_alen (v := 32) hx hb hK hP 7 4 rfl rfl rfl d_Hart_restart_7 ?_
  refine lv_icmp_ge (tgt := 24) hx hb d_Hart_restart_8 (by decide) (fun h9 => absurd h9 (by decide)) (fun _ => ?_)
  refine lv_aload_n hx hb d_Hart_restart_11 rfl (lv_at hl 1 rfl) ?_
  refine va_get (D := D) (ci := 4) (v := .ref (a 7)) (C := R_Hart) (T := F_Hart) (N := 6) hx hb hts i_Hart hown hK hP 6 rfl rfl 1 (by decide) (hts _ k_144) (fun _ h9 => h9) rfl d_Hart_restart_12 ?_
  refine lv_iload_n hx hb d_Hart_restart_15 rfl (lv_at hl 0 rfl) ?_
  refine lv_iconst (v := 0) hx hb d_Hart_restart_16 rfl ?_
  refine y_iast (ws' := wH a k n id (σ.1, (upd (upd (upd (upd (upd σ.2.1 0 0) 1 0) 2 0) 3 0) 4 0), σ.2.2.1, σ.2.2.2.1, σ.2.2.2.2.1, σ.2.2.2.2.2)) hx hb hK hP hD hS 7 4 rfl rfl (by unfold vp_in; decide) d_Hart_restart_17 rfl (fun H locs hP hD hS => ?_)
  refine lv_iinc (v := 5) (lv' := [(1, .int 5), (0, .ref (a 6))]) hx hb d_Hart_restart_18 hl (k := 0) rfl rfl (by decide) rfl (fun ls hl => ?_)
  refine lv_goto (tgt := 2) hx hb d_Hart_restart_21 (by decide) ?_
  refine lv_iload_n hx hb d_Hart_restart_2 rfl (lv_at hl 0 rfl) ?_
  refine lv_aload_n hx hb d_Hart_restart_3 rfl (lv_at hl 1 rfl) ?_
  refine va_get (D := D) (ci := 4) (v := .ref (a 7)) (C := R_Hart) (T := F_Hart) (N := 6) hx hb hts i_Hart hown hK hP 6 rfl rfl 1 (by decide) (hts _ k_144) (fun _ h9 => h9) rfl d_Hart_restart_4 ?_
  refine va_alen (v := 32) hx hb hK hP 7 4 rfl rfl rfl d_Hart_restart_7 ?_
  refine lv_icmp_ge (tgt := 24) hx hb d_Hart_restart_8 (by decide) (fun h9 => absurd h9 (by decide)) (fun _ => ?_)
  refine lv_aload_n hx hb d_Hart_restart_11 rfl (lv_at hl 1 rfl) ?_
  refine va_get (D := D) (ci := 4) (v := .ref (a 7)) (C := R_Hart) (T := F_Hart) (N := 6) hx hb hts i_Hart hown hK hP 6 rfl rfl 1 (by decide) (hts _ k_144) (fun _ h9 => h9) rfl d_Hart_restart_12 ?_
  refine lv_iload_n hx hb d_Hart_restart_15 rfl (lv_at hl 0 rfl) ?_
  refine lv_iconst (v := 0) hx hb d_Hart_restart_16 rfl ?_
  refine y_iast (ws' := wH a k n id (σ.1, (upd (upd (upd (upd (upd (upd σ.2.1 0 0) 1 0) 2 0) 3 0) 4 0) 5 0), σ.2.2.1, σ.2.2.2.1, σ.2.2.2.2.1, σ.2.2.2.2.2)) hx hb hK hP hD hS 7 4 rfl rfl (by unfold vp_in; decide) d_Hart_restart_17 rfl (fun H locs hP hD hS => ?_)
  refine lv_iinc (v := 6) (lv' := [(1, .int 6), (0, .ref (a 6))]) hx hb d_Hart_restart_18 hl (k := 0) rfl rfl (by decide) rfl (fun ls hl => ?_)
  refine lv_goto (tgt := 2) hx hb d_Hart_restart_21 (by decide) ?_
  refine lv_iload_n hx hb d_Hart_restart_2 rfl (lv_at hl 0 rfl) ?_
  refine lv_aload_n hx hb d_Hart_restart_3 rfl (lv_at hl 1 rfl) ?_
  refine va_get (D := D) (ci := 4) (v := .ref (a 7)) (C := R_Hart) (T := F_Hart) (N := 6) hx hb hts i_Hart hown hK hP 6 rfl rfl 1 (by decide) (hts _ k_144) (fun _ h9 => h9) rfl d_Hart_restart_4 ?_
  refine va_alen (v := 32) hx hb hK hP 7 4 rfl rfl rfl d_Hart_restart_7 ?_
  refine lv_icmp_ge (tgt := 24) hx hb d_Hart_restart_8 (by decide) (fun h9 => absurd h9 (by decide)) (fun _ => ?_)
  refine lv_aload_n hx hb d_Hart_restart_11 rfl (lv_at hl 1 rfl) ?_
  refine va_get (D := D) (ci := 4) (v := .ref (a 7)) (C := R_Hart) (T := F_Hart) (N := 6) hx hb hts i_Hart hown hK hP 6 rfl rfl 1 (by decide) (hts _ k_144) (fun _ h9 => h9) rfl d_Hart_restart_12 ?_
  refine lv_iload_n hx hb d_Hart_restart_15 rfl (lv_at hl 0 rfl) ?_
  refine lv_iconst (v := 0) hx hb d_Hart_restart_16 rfl ?_
  refine y_iast (ws' := wH a k n id (σ.1, (upd (upd (upd (upd (upd (upd (upd σ.2.1 0 0) 1 0) 2 0) 3 0) 4 0) 5 0) 6 0), σ.2.2.1, σ.2.2.2.1, σ.2.2.2.2.1, σ.2.2.2.2.2)) hx hb hK hP hD hS 7 4 rfl rfl (by unfold vp_in; decide) d_Hart_restart_17 rfl (fun H locs hP hD hS => ?_)
  refine lv_iinc (v := 7) (lv' := [(1, .int 7), (0, .ref (a 6))]) hx hb d_Hart_restart_18 hl (k := 0) rfl rfl (by decide) rfl (fun ls hl => ?_)
  refine lv_goto (tgt := 2) hx hb d_Hart_restart_21 (by decide) ?_
  refine lv_iload_n hx hb d_Hart_restart_2 rfl (lv_at hl 0 rfl) ?_
  refine lv_aload_n hx hb d_Hart_restart_3 rfl (lv_at hl 1 rfl) ?_
  refine va_get (D := D) (ci := 4) (v := .ref (a 7)) (C := R_Hart) (T := F_Hart) (N := 6) hx hb hts i_Hart hown hK hP 6 rfl rfl 1 (by decide) (hts _ k_144) (fun _ h9 => h9) rfl d_Hart_restart_4 ?_
  refine va_alen (v := 32) hx hb hK hP 7 4 rfl rfl rfl d_Hart_restart_7 ?_
  refine lv_icmp_ge (tgt := 24) hx hb d_Hart_restart_8 (by decide) (fun h9 => absurd h9 (by decide)) (fun _ => ?_)
  refine lv_aload_n hx hb d_Hart_restart_11 rfl (lv_at hl 1 rfl) ?_
  refine va_get (D := D) (ci := 4) (v := .ref (a 7)) (C := R_Hart) (T := F_Hart) (N := 6) hx hb hts i_Hart hown hK hP 6 rfl rfl 1 (by decide) (hts _ k_144) (fun _ h9 => h9) rfl d_Hart_restart_12 ?_
  refine lv_iload_n hx hb d_Hart_restart_15 rfl (lv_at hl 0 rfl) ?_
  refine lv_iconst (v := 0) hx hb d_Hart_restart_16 rfl ?_
  refine y_iast (ws' := wH a k n id (σ.1, (upd (upd (upd (upd (upd (upd (upd (upd σ.2.1 0 0) 1 0) 2 0) 3 0) 4 0) 5 0) 6 0) 7 0), σ.2.2.1, σ.2.2.2.1, σ.2.2.2.2.1, σ.2.2.2.2.2)) hx hb hK hP hD hS 7 4 rfl rfl (by unfold vp_in; decide) d_Hart_restart_17 rfl (fun H locs hP hD hS => ?_)
  refine lv_iinc (v := 8) (lv' := [(1, .int 8), (0, .ref (a 6))]) hx hb d_Hart_restart_18 hl (k := 0) rfl rfl (by decide) rfl (fun ls hl => ?_)
  refine lv_goto (tgt := 2) hx hb d_Hart_restart_21 (by decide) ?_
  refine lv_iload_n hx hb d_Hart_restart_2 rfl (lv_at hl 0 rfl) ?_
  refine lv_aload_n hx hb d_Hart_restart_3 rfl (lv_at hl 1 rfl) ?_
  refine va_get (D := D) (ci := 4) (v := .ref (a 7)) (C := R_Hart) (T := F_Hart) (N := 6) hx hb hts i_Hart hown hK hP 6 rfl rfl 1 (by decide) (hts _ k_144) (fun _ h9 => h9) rfl d_Hart_restart_4 ?_
  refine va_alen (v := 32) hx hb hK hP 7 4 rfl rfl rfl d_Hart_restart_7 ?_
  refine lv_icmp_ge (tgt := 24) hx hb d_Hart_restart_8 (by decide) (fun h9 => absurd h9 (by decide)) (fun _ => ?_)
  refine lv_aload_n hx hb d_Hart_restart_11 rfl (lv_at hl 1 rfl) ?_
  refine va_get (D := D) (ci := 4) (v := .ref (a 7)) (C := R_Hart) (T := F_Hart) (N := 6) hx hb hts i_Hart hown hK hP 6 rfl rfl 1 (by decide) (hts _ k_144) (fun _ h9 => h9) rfl d_Hart_restart_12 ?_
  refine lv_iload_n hx hb d_Hart_restart_15 rfl (lv_at hl 0 rfl) ?_
  refine lv_iconst (v := 0) hx hb d_Hart_restart_16 rfl ?_
  refine y_iast (ws' := wH a k n id (σ.1, (upd (upd (upd (upd (upd (upd (upd (upd (upd σ.2.1 0 0) 1 0) 2 0) 3 0) 4 0) 5 0) 6 0) 7 0) 8 0), σ.2.2.1, σ.2.2.2.1, σ.2.2.2.2.1, σ.2.2.2.2.2)) hx hb hK hP hD hS 7 4 rfl rfl (by unfold vp_in; decide) d_Hart_restart_17 rfl (fun H locs hP hD hS => ?_)
  refine lv_iinc (v := 9) (lv' := [(1, .int 9), (0, .ref (a 6))]) hx hb d_Hart_restart_18 hl (k := 0) rfl rfl (by decide) rfl (fun ls hl => ?_)
  refine lv_goto (tgt := 2) hx hb d_Hart_restart_21 (by decide) ?_
  refine lv_iload_n hx hb d_Hart_restart_2 rfl (lv_at hl 0 rfl) ?_
  refine lv_aload_n hx hb d_Hart_restart_3 rfl (lv_at hl 1 rfl) ?_
  refine va_get (D := D) (ci := 4) (v := .ref (a 7)) (C := R_Hart) (T := F_Hart) (N := 6) hx hb hts i_Hart hown hK hP 6 rfl rfl 1 (by decide) (hts _ k_144) (fun _ h9 => h9) rfl d_Hart_restart_4 ?_
  refine va_alen (v := 32) hx hb hK hP 7 4 rfl rfl rfl d_Hart_restart_7 ?_
  refine lv_icmp_ge (tgt := 24) hx hb d_Hart_restart_8 (by decide) (fun h9 => absurd h9 (by decide)) (fun _ => ?_)
  refine lv_aload_n hx hb d_Hart_restart_11 rfl (lv_at hl 1 rfl) ?_
  refine va_get (D := D) (ci := 4) (v := .ref (a 7)) (C := R_Hart) (T := F_Hart) (N := 6) hx hb hts i_Hart hown hK hP 6 rfl rfl 1 (by decide) (hts _ k_144) (fun _ h9 => h9) rfl d_Hart_restart_12 ?_
  refine lv_iload_n hx hb d_Hart_restart_15 rfl (lv_at hl 0 rfl) ?_
  refine lv_iconst (v := 0) hx hb d_Hart_restart_16 rfl ?_
  refine y_iast (ws' := wH a k n id (σ.1, (upd (upd (upd (upd (upd (upd (upd (upd (upd (upd σ.2.1 0 0) 1 0) 2 0) 3 0) 4 0) 5 0) 6 0) 7 0) 8 0) 9 0), σ.2.2.1, σ.2.2.2.1, σ.2.2.2.2.1, σ.2.2.2.2.2)) hx hb hK hP hD hS 7 4 rfl rfl (by unfold vp_in; decide) d_Hart_restart_17 rfl (fun H locs hP hD hS => ?_)
  refine lv_iinc (v := 10) (lv' := [(1, .int 10), (0, .ref (a 6))]) hx hb d_Hart_restart_18 hl (k := 0) rfl rfl (by decide) rfl (fun ls hl => ?_)
  refine lv_goto (tgt := 2) hx hb d_Hart_restart_21 (by decide) ?_
  refine lv_iload_n hx hb d_Hart_restart_2 rfl (lv_at hl 0 rfl) ?_
  refine lv_aload_n hx hb d_Hart_restart_3 rfl (lv_at hl 1 rfl) ?_
  refine va_get (D := D) (ci := 4) (v := .ref (a 7)) (C := R_Hart) (T := F_Hart) (N := 6) hx hb hts i_Hart hown hK hP 6 rfl rfl 1 (by decide) (hts _ k_144) (fun _ h9 => h9) rfl d_Hart_restart_4 ?_
  refine va_alen (v := 32) hx hb hK hP 7 4 rfl rfl rfl d_Hart_restart_7 ?_
  refine lv_icmp_ge (tgt := 24) hx hb d_Hart_restart_8 (by decide) (fun h9 => absurd h9 (by decide)) (fun _ => ?_)
  refine lv_aload_n hx hb d_Hart_restart_11 rfl (lv_at hl 1 rfl) ?_
  refine va_get (D := D) (ci := 4) (v := .ref (a 7)) (C := R_Hart) (T := F_Hart) (N := 6) hx hb hts i_Hart hown hK hP 6 rfl rfl 1 (by decide) (hts _ k_144) (fun _ h9 => h9) rfl d_Hart_restart_12 ?_
  refine lv_iload_n hx hb d_Hart_restart_15 rfl (lv_at hl 0 rfl) ?_
  refine lv_iconst (v := 0) hx hb d_Hart_restart_16 rfl ?_
  refine y_iast (ws' := wH a k n id (σ.1, (upd (upd (upd (upd (upd (upd (upd (upd (upd (upd (upd σ.2.1 0 0) 1 0) 2 0) 3 0) 4 0) 5 0) 6 0) 7 0) 8 0) 9 0) 10 0), σ.2.2.1, σ.2.2.2.1, σ.2.2.2.2.1, σ.2.2.2.2.2)) hx hb hK hP hD hS 7 4 rfl rfl (by unfold vp_in; decide) d_Hart_restart_17 rfl (fun H locs hP hD hS => ?_)
  refine lv_iinc (v := 11) (lv' := [(1, .int 11), (0, .ref (a 6))]) hx hb d_Hart_restart_18 hl (k := 0) rfl rfl (by decide) rfl (fun ls hl => ?_)
  refine lv_goto (tgt := 2) hx hb d_Hart_restart_21 (by decide) ?_
  refine lv_iload_n hx hb d_Hart_restart_2 rfl (lv_at hl 0 rfl) ?_
  refine lv_aload_n hx hb d_Hart_restart_3 rfl (lv_at hl 1 rfl) ?_
  refine va_get (D := D) (ci := 4) (v := .ref (a 7)) (C := R_Hart) (T := F_Hart) (N := 6) hx hb hts i_Hart hown hK hP 6 rfl rfl 1 (by decide) (hts _ k_144) (fun _ h9 => h9) rfl d_Hart_restart_4 ?_
  refine va_alen (v := 32) hx hb hK hP 7 4 rfl rfl rfl d_Hart_restart_7 ?_
  refine lv_icmp_ge (tgt := 24) hx hb d_Hart_restart_8 (by decide) (fun h9 => absurd h9 (by decide)) (fun _ => ?_)
  refine lv_aload_n hx hb d_Hart_restart_11 rfl (lv_at hl 1 rfl) ?_
  refine va_get (D := D) (ci := 4) (v := .ref (a 7)) (C := R_Hart) (T := F_Hart) (N := 6) hx hb hts i_Hart hown hK hP 6 rfl rfl 1 (by decide) (hts _ k_144) (fun _ h9 => h9) rfl d_Hart_restart_12 ?_
  refine lv_iload_n hx hb d_Hart_restart_15 rfl (lv_at hl 0 rfl) ?_
  refine lv_iconst (v := 0) hx hb d_Hart_restart_16 rfl ?_
  refine y_iast (ws' := wH a k n id (σ.1, (upd (upd (upd (upd (upd (upd (upd (upd (upd (upd (upd (upd σ.2.1 0 0) 1 0) 2 0) 3 0) 4 0) 5 0) 6 0) 7 0) 8 0) 9 0) 10 0) 11 0), σ.2.2.1, σ.2.2.2.1, σ.2.2.2.2.1, σ.2.2.2.2.2)) hx hb hK hP hD hS 7 4 rfl rfl (by unfold vp_in; decide) d_Hart_restart_17 rfl (fun H locs hP hD hS => ?_)
  refine lv_iinc (v := 12) (lv' := [(1, .int 12), (0, .ref (a 6))]) hx hb d_Hart_restart_18 hl (k := 0) rfl rfl (by decide) rfl (fun ls hl => ?_)
  refine lv_goto (tgt := 2) hx hb d_Hart_restart_21 (by decide) ?_
  refine lv_iload_n hx hb d_Hart_restart_2 rfl (lv_at hl 0 rfl) ?_
  refine lv_aload_n hx hb d_Hart_restart_3 rfl (lv_at hl 1 rfl) ?_
  refine va_get (D := D) (ci := 4) (v := .ref (a 7)) (C := R_Hart) (T := F_Hart) (N := 6) hx hb hts i_Hart hown hK hP 6 rfl rfl 1 (by decide) (hts _ k_144) (fun _ h9 => h9) rfl d_Hart_restart_4 ?_
  refine va_alen (v := 32) hx hb hK hP 7 4 rfl rfl rfl d_Hart_restart_7 ?_
  refine lv_icmp_ge (tgt := 24) hx hb d_Hart_restart_8 (by decide) (fun h9 => absurd h9 (by decide)) (fun _ => ?_)
  refine lv_aload_n hx hb d_Hart_restart_11 rfl (lv_at hl 1 rfl) ?_
  refine va_get (D := D) (ci := 4) (v := .ref (a 7)) (C := R_Hart) (T := F_Hart) (N := 6) hx hb hts i_Hart hown hK hP 6 rfl rfl 1 (by decide) (hts _ k_144) (fun _ h9 => h9) rfl d_Hart_restart_12 ?_
  refine lv_iload_n hx hb d_Hart_restart_15 rfl (lv_at hl 0 rfl) ?_
  refine lv_iconst (v := 0) hx hb d_Hart_restart_16 rfl ?_
  refine y_iast (ws' := wH a k n id (σ.1, (upd (upd (upd (upd (upd (upd (upd (upd (upd (upd (upd (upd (upd σ.2.1 0 0) 1 0) 2 0) 3 0) 4 0) 5 0) 6 0) 7 0) 8 0) 9 0) 10 0) 11 0) 12 0), σ.2.2.1, σ.2.2.2.1, σ.2.2.2.2.1, σ.2.2.2.2.2)) hx hb hK hP hD hS 7 4 rfl rfl (by unfold vp_in; decide) d_Hart_restart_17 rfl (fun H locs hP hD hS => ?_)
  refine lv_iinc (v := 13) (lv' := [(1, .int 13), (0, .ref (a 6))]) hx hb d_Hart_restart_18 hl (k := 0) rfl rfl (by decide) rfl (fun ls hl => ?_)
  refine lv_goto (tgt := 2) hx hb d_Hart_restart_21 (by decide) ?_
  refine lv_iload_n hx hb d_Hart_restart_2 rfl (lv_at hl 0 rfl) ?_
  refine lv_aload_n hx hb d_Hart_restart_3 rfl (lv_at hl 1 rfl) ?_
  refine va_get (D := D) (ci := 4) (v := .ref (a 7)) (C := R_Hart) (T := F_Hart) (N := 6) hx hb hts i_Hart hown hK hP 6 rfl rfl 1 (by decide) (hts _ k_144) (fun _ h9 => h9) rfl d_Hart_restart_4 ?_
  refine va_alen (v := 32) hx hb hK hP 7 4 rfl rfl rfl d_Hart_restart_7 ?_
  refine lv_icmp_ge (tgt := 24) hx hb d_Hart_restart_8 (by decide) (fun h9 => absurd h9 (by decide)) (fun _ => ?_)
  refine lv_aload_n hx hb d_Hart_restart_11 rfl (lv_at hl 1 rfl) ?_
  refine va_get (D := D) (ci := 4) (v := .ref (a 7)) (C := R_Hart) (T := F_Hart) (N := 6) hx hb hts i_Hart hown hK hP 6 rfl rfl 1 (by decide) (hts _ k_144) (fun _ h9 => h9) rfl d_Hart_restart_12 ?_
  refine lv_iload_n hx hb d_Hart_restart_15 rfl (lv_at hl 0 rfl) ?_
  refine lv_iconst (v := 0) hx hb d_Hart_restart_16 rfl ?_
  refine y_iast (ws' := wH a k n id (σ.1, (upd (upd (upd (upd (upd (upd (upd (upd (upd (upd (upd (upd (upd (upd σ.2.1 0 0) 1 0) 2 0) 3 0) 4 0) 5 0) 6 0) 7 0) 8 0) 9 0) 10 0) 11 0) 12 0) 13 0), σ.2.2.1, σ.2.2.2.1, σ.2.2.2.2.1, σ.2.2.2.2.2)) hx hb hK hP hD hS 7 4 rfl rfl (by unfold vp_in; decide) d_Hart_restart_17 rfl (fun H locs hP hD hS => ?_)
  refine lv_iinc (v := 14) (lv' := [(1, .int 14), (0, .ref (a 6))]) hx hb d_Hart_restart_18 hl (k := 0) rfl rfl (by decide) rfl (fun ls hl => ?_)
  refine lv_goto (tgt := 2) hx hb d_Hart_restart_21 (by decide) ?_
  refine lv_iload_n hx hb d_Hart_restart_2 rfl (lv_at hl 0 rfl) ?_
  refine lv_aload_n hx hb d_Hart_restart_3 rfl (lv_at hl 1 rfl) ?_
  refine va_get (D := D) (ci := 4) (v := .ref (a 7)) (C := R_Hart) (T := F_Hart) (N := 6) hx hb hts i_Hart hown hK hP 6 rfl rfl 1 (by decide) (hts _ k_144) (fun _ h9 => h9) rfl d_Hart_restart_4 ?_
  refine va_alen (v := 32) hx hb hK hP 7 4 rfl rfl rfl d_Hart_restart_7 ?_
  refine lv_icmp_ge (tgt := 24) hx hb d_Hart_restart_8 (by decide) (fun h9 => absurd h9 (by decide)) (fun _ => ?_)
  refine lv_aload_n hx hb d_Hart_restart_11 rfl (lv_at hl 1 rfl) ?_
  refine va_get (D := D) (ci := 4) (v := .ref (a 7)) (C := R_Hart) (T := F_Hart) (N := 6) hx hb hts i_Hart hown hK hP 6 rfl rfl 1 (by decide) (hts _ k_144) (fun _ h9 => h9) rfl d_Hart_restart_12 ?_
  refine lv_iload_n hx hb d_Hart_restart_15 rfl (lv_at hl 0 rfl) ?_
  refine lv_iconst (v := 0) hx hb d_Hart_restart_16 rfl ?_
  refine y_iast (ws' := wH a k n id (σ.1, (upd (upd (upd (upd (upd (upd (upd (upd (upd (upd (upd (upd (upd (upd (upd σ.2.1 0 0) 1 0) 2 0) 3 0) 4 0) 5 0) 6 0) 7 0) 8 0) 9 0) 10 0) 11 0) 12 0) 13 0) 14 0), σ.2.2.1, σ.2.2.2.1, σ.2.2.2.2.1, σ.2.2.2.2.2)) hx hb hK hP hD hS 7 4 rfl rfl (by unfold vp_in; decide) d_Hart_restart_17 rfl (fun H locs hP hD hS => ?_)
  refine lv_iinc (v := 15) (lv' := [(1, .int 15), (0, .ref (a 6))]) hx hb d_Hart_restart_18 hl (k := 0) rfl rfl (by decide) rfl (fun ls hl => ?_)
  refine lv_goto (tgt := 2) hx hb d_Hart_restart_21 (by decide) ?_
  refine lv_iload_n hx hb d_Hart_restart_2 rfl (lv_at hl 0 rfl) ?_
  refine lv_aload_n hx hb d_Hart_restart_3 rfl (lv_at hl 1 rfl) ?_
  refine va_get (D := D) (ci := 4) (v := .ref (a 7)) (C := R_Hart) (T := F_Hart) (N := 6) hx hb hts i_Hart hown hK hP 6 rfl rfl 1 (by decide) (hts _ k_144) (fun _ h9 => h9) rfl d_Hart_restart_4 ?_
  refine va_alen (v := 32) hx hb hK hP 7 4 rfl rfl rfl d_Hart_restart_7 ?_
  refine lv_icmp_ge (tgt := 24) hx hb d_Hart_restart_8 (by decide) (fun h9 => absurd h9 (by decide)) (fun _ => ?_)
  refine lv_aload_n hx hb d_Hart_restart_11 rfl (lv_at hl 1 rfl) ?_
  refine va_get (D := D) (ci := 4) (v := .ref (a 7)) (C := R_Hart) (T := F_Hart) (N := 6) hx hb hts i_Hart hown hK hP 6 rfl rfl 1 (by decide) (hts _ k_144) (fun _ h9 => h9) rfl d_Hart_restart_12 ?_
  refine lv_iload_n hx hb d_Hart_restart_15 rfl (lv_at hl 0 rfl) ?_
  refine lv_iconst (v := 0) hx hb d_Hart_restart_16 rfl ?_
  refine y_iast (ws' := wH a k n id (σ.1, (upd (upd (upd (upd (upd (upd (upd (upd (upd (upd (upd (upd (upd (upd (upd (upd σ.2.1 0 0) 1 0) 2 0) 3 0) 4 0) 5 0) 6 0) 7 0) 8 0) 9 0) 10 0) 11 0) 12 0) 13 0) 14 0) 15 0), σ.2.2.1, σ.2.2.2.1, σ.2.2.2.2.1, σ.2.2.2.2.2)) hx hb hK hP hD hS 7 4 rfl rfl (by unfold vp_in; decide) d_Hart_restart_17 rfl (fun H locs hP hD hS => ?_)
  refine lv_iinc (v := 16) (lv' := [(1, .int 16), (0, .ref (a 6))]) hx hb d_Hart_restart_18 hl (k := 0) rfl rfl (by decide) rfl (fun ls hl => ?_)
  refine lv_goto (tgt := 2) hx hb d_Hart_restart_21 (by decide) ?_
  refine lv_iload_n hx hb d_Hart_restart_2 rfl (lv_at hl 0 rfl) ?_
  refine lv_aload_n hx hb d_Hart_restart_3 rfl (lv_at hl 1 rfl) ?_
  refine va_get (D := D) (ci := 4) (v := .ref (a 7)) (C := R_Hart) (T := F_Hart) (N := 6) hx hb hts i_Hart hown hK hP 6 rfl rfl 1 (by decide) (hts _ k_144) (fun _ h9 => h9) rfl d_Hart_restart_4 ?_
  refine va_alen (v := 32) hx hb hK hP 7 4 rfl rfl rfl d_Hart_restart_7 ?_
  refine lv_icmp_ge (tgt := 24) hx hb d_Hart_restart_8 (by decide) (fun h9 => absurd h9 (by decide)) (fun _ => ?_)
  refine lv_aload_n hx hb d_Hart_restart_11 rfl (lv_at hl 1 rfl) ?_
  refine va_get (D := D) (ci := 4) (v := .ref (a 7)) (C := R_Hart) (T := F_Hart) (N := 6) hx hb hts i_Hart hown hK hP 6 rfl rfl 1 (by decide) (hts _ k_144) (fun _ h9 => h9) rfl d_Hart_restart_12 ?_
  refine lv_iload_n hx hb d_Hart_restart_15 rfl (lv_at hl 0 rfl) ?_
  refine lv_iconst (v := 0) hx hb d_Hart_restart_16 rfl ?_
  refine y_iast (ws' := wH a k n id (σ.1, (upd (upd (upd (upd (upd (upd (upd (upd (upd (upd (upd (upd (upd (upd (upd (upd (upd σ.2.1 0 0) 1 0) 2 0) 3 0) 4 0) 5 0) 6 0) 7 0) 8 0) 9 0) 10 0) 11 0) 12 0) 13 0) 14 0) 15 0) 16 0), σ.2.2.1, σ.2.2.2.1, σ.2.2.2.2.1, σ.2.2.2.2.2)) hx hb hK hP hD hS 7 4 rfl rfl (by unfold vp_in; decide) d_Hart_restart_17 rfl (fun H locs hP hD hS => ?_)
  refine lv_iinc (v := 17) (lv' := [(1, .int 17), (0, .ref (a 6))]) hx hb d_Hart_restart_18 hl (k := 0) rfl rfl (by decide) rfl (fun ls hl => ?_)
  refine lv_goto (tgt := 2) hx hb d_Hart_restart_21 (by decide) ?_
  refine lv_iload_n hx hb d_Hart_restart_2 rfl (lv_at hl 0 rfl) ?_
  refine lv_aload_n hx hb d_Hart_restart_3 rfl (lv_at hl 1 rfl) ?_
  refine va_get (D := D) (ci := 4) (v := .ref (a 7)) (C := R_Hart) (T := F_Hart) (N := 6) hx hb hts i_Hart hown hK hP 6 rfl rfl 1 (by decide) (hts _ k_144) (fun _ h9 => h9) rfl d_Hart_restart_4 ?_
  refine va_alen (v := 32) hx hb hK hP 7 4 rfl rfl rfl d_Hart_restart_7 ?_
  refine lv_icmp_ge (tgt := 24) hx hb d_Hart_restart_8 (by decide) (fun h9 => absurd h9 (by decide)) (fun _ => ?_)
  refine lv_aload_n hx hb d_Hart_restart_11 rfl (lv_at hl 1 rfl) ?_
  refine va_get (D := D) (ci := 4) (v := .ref (a 7)) (C := R_Hart) (T := F_Hart) (N := 6) hx hb hts i_Hart hown hK hP 6 rfl rfl 1 (by decide) (hts _ k_144) (fun _ h9 => h9) rfl d_Hart_restart_12 ?_
  refine lv_iload_n hx hb d_Hart_restart_15 rfl (lv_at hl 0 rfl) ?_
  refine lv_iconst (v := 0) hx hb d_Hart_restart_16 rfl ?_
  refine y_iast (ws' := wH a k n id (σ.1, (upd (upd (upd (upd (upd (upd (upd (upd (upd (upd (upd (upd (upd (upd (upd (upd (upd (upd σ.2.1 0 0) 1 0) 2 0) 3 0) 4 0) 5 0) 6 0) 7 0) 8 0) 9 0) 10 0) 11 0) 12 0) 13 0) 14 0) 15 0) 16 0) 17 0), σ.2.2.1, σ.2.2.2.1, σ.2.2.2.2.1, σ.2.2.2.2.2)) hx hb hK hP hD hS 7 4 rfl rfl (by unfold vp_in; decide) d_Hart_restart_17 rfl (fun H locs hP hD hS => ?_)
  refine lv_iinc (v := 18) (lv' := [(1, .int 18), (0, .ref (a 6))]) hx hb d_Hart_restart_18 hl (k := 0) rfl rfl (by decide) rfl (fun ls hl => ?_)
  refine lv_goto (tgt := 2) hx hb d_Hart_restart_21 (by decide) ?_
  refine lv_iload_n hx hb d_Hart_restart_2 rfl (lv_at hl 0 rfl) ?_
  refine lv_aload_n hx hb d_Hart_restart_3 rfl (lv_at hl 1 rfl) ?_
  refine va_get (D := D) (ci := 4) (v := .ref (a 7)) (C := R_Hart) (T := F_Hart) (N := 6) hx hb hts i_Hart hown hK hP 6 rfl rfl 1 (by decide) (hts _ k_144) (fun _ h9 => h9) rfl d_Hart_restart_4 ?_
  refine va_alen (v := 32) hx hb hK hP 7 4 rfl rfl rfl d_Hart_restart_7 ?_
  refine lv_icmp_ge (tgt := 24) hx hb d_Hart_restart_8 (by decide) (fun h9 => absurd h9 (by decide)) (fun _ => ?_)
  refine lv_aload_n hx hb d_Hart_restart_11 rfl (lv_at hl 1 rfl) ?_
  refine va_get (D := D) (ci := 4) (v := .ref (a 7)) (C := R_Hart) (T := F_Hart) (N := 6) hx hb hts i_Hart hown hK hP 6 rfl rfl 1 (by decide) (hts _ k_144) (fun _ h9 => h9) rfl d_Hart_restart_12 ?_
  refine lv_iload_n hx hb d_Hart_restart_15 rfl (lv_at hl 0 rfl) ?_
  refine lv_iconst (v := 0) hx hb d_Hart_restart_16 rfl ?_
  refine y_iast (ws' := wH a k n id (σ.1, (upd (upd (upd (upd (upd (upd (upd (upd (upd (upd (upd (upd (upd (upd (upd (upd (upd (upd (upd σ.2.1 0 0) 1 0) 2 0) 3 0) 4 0) 5 0) 6 0) 7 0) 8 0) 9 0) 10 0) 11 0) 12 0) 13 0) 14 0) 15 0) 16 0) 17 0) 18 0), σ.2.2.1, σ.2.2.2.1, σ.2.2.2.2.1, σ.2.2.2.2.2)) hx hb hK hP hD hS 7 4 rfl rfl (by unfold vp_in; decide) d_Hart_restart_17 rfl (fun H locs hP hD hS => ?_)
  refine lv_iinc (v := 19) (lv' := [(1, .int 19), (0, .ref (a 6))]) hx hb d_Hart_restart_18 hl (k := 0) rfl rfl (by decide) rfl (fun ls hl => ?_)
  refine lv_goto (tgt := 2) hx hb d_Hart_restart_21 (by decide) ?_
  refine lv_iload_n hx hb d_Hart_restart_2 rfl (lv_at hl 0 rfl) ?_
  refine lv_aload_n hx hb d_Hart_restart_3 rfl (lv_at hl 1 rfl) ?_
  refine va_get (D := D) (ci := 4) (v := .ref (a 7)) (C := R_Hart) (T := F_Hart) (N := 6) hx hb hts i_Hart hown hK hP 6 rfl rfl 1 (by decide) (hts _ k_144) (fun _ h9 => h9) rfl d_Hart_restart_4 ?_
  refine va_alen (v := 32) hx hb hK hP 7 4 rfl rfl rfl d_Hart_restart_7 ?_
  refine lv_icmp_ge (tgt := 24) hx hb d_Hart_restart_8 (by decide) (fun h9 => absurd h9 (by decide)) (fun _ => ?_)
  refine lv_aload_n hx hb d_Hart_restart_11 rfl (lv_at hl 1 rfl) ?_
  refine va_get (D := D) (ci := 4) (v := .ref (a 7)) (C := R_Hart) (T := F_Hart) (N := 6) hx hb hts i_Hart hown hK hP 6 rfl rfl 1 (by decide) (hts _ k_144) (fun _ h9 => h9) rfl d_Hart_restart_12 ?_
  refine lv_iload_n hx hb d_Hart_restart_15 rfl (lv_at hl 0 rfl) ?_
  refine lv_iconst (v := 0) hx hb d_Hart_restart_16 rfl ?_
  refine y_iast (ws' := wH a k n id (σ.1, (upd (upd (upd (upd (upd (upd (upd (upd (upd (upd (upd (upd (upd (upd (upd (upd (upd (upd (upd (upd σ.2.1 0 0) 1 0) 2 0) 3 0) 4 0) 5 0) 6 0) 7 0) 8 0) 9 0) 10 0) 11 0) 12 0) 13 0) 14 0) 15 0) 16 0) 17 0) 18 0) 19 0), σ.2.2.1, σ.2.2.2.1, σ.2.2.2.2.1, σ.2.2.2.2.2)) hx hb hK hP hD hS 7 4 rfl rfl (by unfold vp_in; decide) d_Hart_restart_17 rfl (fun H locs hP hD hS => ?_)
  refine lv_iinc (v := 20) (lv' := [(1, .int 20), (0, .ref (a 6))]) hx hb d_Hart_restart_18 hl (k := 0) rfl rfl (by decide) rfl (fun ls hl => ?_)
  refine lv_goto (tgt := 2) hx hb d_Hart_restart_21 (by decide) ?_
  refine lv_iload_n hx hb d_Hart_restart_2 rfl (lv_at hl 0 rfl) ?_
  refine lv_aload_n hx hb d_Hart_restart_3 rfl (lv_at hl 1 rfl) ?_
  refine va_get (D := D) (ci := 4) (v := .ref (a 7)) (C := R_Hart) (T := F_Hart) (N := 6) hx hb hts i_Hart hown hK hP 6 rfl rfl 1 (by decide) (hts _ k_144) (fun _ h9 => h9) rfl d_Hart_restart_4 ?_
  refine va_alen (v := 32) hx hb hK hP 7 4 rfl rfl rfl d_Hart_restart_7 ?_
  refine lv_icmp_ge (tgt := 24) hx hb d_Hart_restart_8 (by decide) (fun h9 => absurd h9 (by decide)) (fun _ => ?_)
  refine lv_aload_n hx hb d_Hart_restart_11 rfl (lv_at hl 1 rfl) ?_
  refine va_get (D := D) (ci := 4) (v := .ref (a 7)) (C := R_Hart) (T := F_Hart) (N := 6) hx hb hts i_Hart hown hK hP 6 rfl rfl 1 (by decide) (hts _ k_144) (fun _ h9 => h9) rfl d_Hart_restart_12 ?_
  refine lv_iload_n hx hb d_Hart_restart_15 rfl (lv_at hl 0 rfl) ?_
  refine lv_iconst (v := 0) hx hb d_Hart_restart_16 rfl ?_
  refine y_iast (ws' := wH a k n id (σ.1, (upd (upd (upd (upd (upd (upd (upd (upd (upd (upd (upd (upd (upd (upd (upd (upd (upd (upd (upd (upd (upd σ.2.1 0 0) 1 0) 2 0) 3 0) 4 0) 5 0) 6 0) 7 0) 8 0) 9 0) 10 0) 11 0) 12 0) 13 0) 14 0) 15 0) 16 0) 17 0) 18 0) 19 0) 20 0), σ.2.2.1, σ.2.2.2.1, σ.2.2.2.2.1, σ.2.2.2.2.2)) hx hb hK hP hD hS 7 4 rfl rfl (by unfold vp_in; decide) d_Hart_restart_17 rfl (fun H locs hP hD hS => ?_)
  refine lv_iinc (v := 21) (lv' := [(1, .int 21), (0, .ref (a 6))]) hx hb d_Hart_restart_18 hl (k := 0) rfl rfl (by decide) rfl (fun ls hl => ?_)
  refine lv_goto (tgt := 2) hx hb d_Hart_restart_21 (by decide) ?_
  refine lv_iload_n hx hb d_Hart_restart_2 rfl (lv_at hl 0 rfl) ?_
  refine lv_aload_n hx hb d_Hart_restart_3 rfl (lv_at hl 1 rfl) ?_
  refine va_get (D := D) (ci := 4) (v := .ref (a 7)) (C := R_Hart) (T := F_Hart) (N := 6) hx hb hts i_Hart hown hK hP 6 rfl rfl 1 (by decide) (hts _ k_144) (fun _ h9 => h9) rfl d_Hart_restart_4 ?_
  refine va_alen (v := 32) hx hb hK hP 7 4 rfl rfl rfl d_Hart_restart_7 ?_
  refine lv_icmp_ge (tgt := 24) hx hb d_Hart_restart_8 (by decide) (fun h9 => absurd h9 (by decide)) (fun _ => ?_)
  refine lv_aload_n hx hb d_Hart_restart_11 rfl (lv_at hl 1 rfl) ?_
  refine va_get (D := D) (ci := 4) (v := .ref (a 7)) (C := R_Hart) (T := F_Hart) (N := 6) hx hb hts i_Hart hown hK hP 6 rfl rfl 1 (by decide) (hts _ k_144) (fun _ h9 => h9) rfl d_Hart_restart_12 ?_
  refine lv_iload_n hx hb d_Hart_restart_15 rfl (lv_at hl 0 rfl) ?_
  refine lv_iconst (v := 0) hx hb d_Hart_restart_16 rfl ?_
  refine y_iast (ws' := wH a k n id (σ.1, (upd (upd (upd (upd (upd (upd (upd (upd (upd (upd (upd (upd (upd (upd (upd (upd (upd (upd (upd (upd (upd (upd σ.2.1 0 0) 1 0) 2 0) 3 0) 4 0) 5 0) 6 0) 7 0) 8 0) 9 0) 10 0) 11 0) 12 0) 13 0) 14 0) 15 0) 16 0) 17 0) 18 0) 19 0) 20 0) 21 0), σ.2.2.1, σ.2.2.2.1, σ.2.2.2.2.1, σ.2.2.2.2.2)) hx hb hK hP hD hS 7 4 rfl rfl (by unfold vp_in; decide) d_Hart_restart_17 rfl (fun H locs hP hD hS => ?_)
  refine lv_iinc (v := 22) (lv' := [(1, .int 22), (0, .ref (a 6))]) hx hb d_Hart_restart_18 hl (k := 0) rfl rfl (by decide) rfl (fun ls hl => ?_)
  refine lv_goto (tgt := 2) hx hb d_Hart_restart_21 (by decide) ?_
  refine lv_iload_n hx hb d_Hart_restart_2 rfl (lv_at hl 0 rfl) ?_
  refine lv_aload_n hx hb d_Hart_restart_3 rfl (lv_at hl 1 rfl) ?_
  refine va_get (D := D) (ci := 4) (v := .ref (a 7)) (C := R_Hart) (T := F_Hart) (N := 6) hx hb hts i_Hart hown hK hP 6 rfl rfl 1 (by decide) (hts _ k_144) (fun _ h9 => h9) rfl d_Hart_restart_4 ?_
  refine va_alen (v := 32) hx hb hK hP 7 4 rfl rfl rfl d_Hart_restart_7 ?_
  refine lv_icmp_ge (tgt := 24) hx hb d_Hart_restart_8 (by decide) (fun h9 => absurd h9 (by decide)) (fun _ => ?_)
  refine lv_aload_n hx hb d_Hart_restart_11 rfl (lv_at hl 1 rfl) ?_
  refine va_get (D := D) (ci := 4) (v := .ref (a 7)) (C := R_Hart) (T := F_Hart) (N := 6) hx hb hts i_Hart hown hK hP 6 rfl rfl 1 (by decide) (hts _ k_144) (fun _ h9 => h9) rfl d_Hart_restart_12 ?_
  refine lv_iload_n hx hb d_Hart_restart_15 rfl (lv_at hl 0 rfl) ?_
  refine lv_iconst (v := 0) hx hb d_Hart_restart_16 rfl ?_
  refine y_iast (ws' := wH a k n id (σ.1, (upd (upd (upd (upd (upd (upd (upd (upd (upd (upd (upd (upd (upd (upd (upd (upd (upd (upd (upd (upd (upd (upd (upd σ.2.1 0 0) 1 0) 2 0) 3 0) 4 0) 5 0) 6 0) 7 0) 8 0) 9 0) 10 0) 11 0) 12 0) 13 0) 14 0) 15 0) 16 0) 17 0) 18 0) 19 0) 20 0) 21 0) 22 0), σ.2.2.1, σ.2.2.2.1, σ.2.2.2.2.1, σ.2.2.2.2.2)) hx hb hK hP hD hS 7 4 rfl rfl (by unfold vp_in; decide) d_Hart_restart_17 rfl (fun H locs hP hD hS => ?_)
  refine lv_iinc (v := 23) (lv' := [(1, .int 23), (0, .ref (a 6))]) hx hb d_Hart_restart_18 hl (k := 0) rfl rfl (by decide) rfl (fun ls hl => ?_)
  refine lv_goto (tgt := 2) hx hb d_Hart_restart_21 (by decide) ?_
  refine lv_iload_n hx hb d_Hart_restart_2 rfl (lv_at hl 0 rfl) ?_
  refine lv_aload_n hx hb d_Hart_restart_3 rfl (lv_at hl 1 rfl) ?_
  refine va_get (D := D) (ci := 4) (v := .ref (a 7)) (C := R_Hart) (T := F_Hart) (N := 6) hx hb hts i_Hart hown hK hP 6 rfl rfl 1 (by decide) (hts _ k_144) (fun _ h9 => h9) rfl d_Hart_restart_4 ?_
  refine va_alen (v := 32) hx hb hK hP 7 4 rfl rfl rfl d_Hart_restart_7 ?_
  refine lv_icmp_ge (tgt := 24) hx hb d_Hart_restart_8 (by decide) (fun h9 => absurd h9 (by decide)) (fun _ => ?_)
  refine lv_aload_n hx hb d_Hart_restart_11 rfl (lv_at hl 1 rfl) ?_
  refine va_get (D := D) (ci := 4) (v := .ref (a 7)) (C := R_Hart) (T := F_Hart) (N := 6) hx hb hts i_Hart hown hK hP 6 rfl rfl 1 (by decide) (hts _ k_144) (fun _ h9 => h9) rfl d_Hart_restart_12 ?_
  refine lv_iload_n hx hb d_Hart_restart_15 rfl (lv_at hl 0 rfl) ?_
  refine lv_iconst (v := 0) hx hb d_Hart_restart_16 rfl ?_
  refine y_iast (ws' := wH a k n id (σ.1, (upd (upd (upd (upd (upd (upd (upd (upd (upd (upd (upd (upd (upd (upd (upd (upd (upd (upd (upd (upd (upd (upd (upd (upd σ.2.1 0 0) 1 0) 2 0) 3 0) 4 0) 5 0) 6 0) 7 0) 8 0) 9 0) 10 0) 11 0) 12 0) 13 0) 14 0) 15 0) 16 0) 17 0) 18 0) 19 0) 20 0) 21 0) 22 0) 23 0), σ.2.2.1, σ.2.2.2.1, σ.2.2.2.2.1, σ.2.2.2.2.2)) hx hb hK hP hD hS 7 4 rfl rfl (by unfold vp_in; decide) d_Hart_restart_17 rfl (fun H locs hP hD hS => ?_)
  refine lv_iinc (v := 24) (lv' := [(1, .int 24), (0, .ref (a 6))]) hx hb d_Hart_restart_18 hl (k := 0) rfl rfl (by decide) rfl (fun ls hl => ?_)
  refine lv_goto (tgt := 2) hx hb d_Hart_restart_21 (by decide) ?_
  refine lv_iload_n hx hb d_Hart_restart_2 rfl (lv_at hl 0 rfl) ?_
  refine lv_aload_n hx hb d_Hart_restart_3 rfl (lv_at hl 1 rfl) ?_
  refine va_get (D := D) (ci := 4) (v := .ref (a 7)) (C := R_Hart) (T := F_Hart) (N := 6) hx hb hts i_Hart hown hK hP 6 rfl rfl 1 (by decide) (hts _ k_144) (fun _ h9 => h9) rfl d_Hart_restart_4 ?_
  refine va_alen (v := 32) hx hb hK hP 7 4 rfl rfl rfl d_Hart_restart_7 ?_
  refine lv_icmp_ge (tgt := 24) hx hb d_Hart_restart_8 (by decide) (fun h9 => absurd h9 (by decide)) (fun _ => ?_)
  refine lv_aload_n hx hb d_Hart_restart_11 rfl (lv_at hl 1 rfl) ?_
  refine va_get (D := D) (ci := 4) (v := .ref (a 7)) (C := R_Hart) (T := F_Hart) (N := 6) hx hb hts i_Hart hown hK hP 6 rfl rfl 1 (by decide) (hts _ k_144) (fun _ h9 => h9) rfl d_Hart_restart_12 ?_
  refine lv_iload_n hx hb d_Hart_restart_15 rfl (lv_at hl 0 rfl) ?_
  refine lv_iconst (v := 0) hx hb d_Hart_restart_16 rfl ?_
  refine y_iast (ws' := wH a k n id (σ.1, (upd (upd (upd (upd (upd (upd (upd (upd (upd (upd (upd (upd (upd (upd (upd (upd (upd (upd (upd (upd (upd (upd (upd (upd (upd σ.2.1 0 0) 1 0) 2 0) 3 0) 4 0) 5 0) 6 0) 7 0) 8 0) 9 0) 10 0) 11 0) 12 0) 13 0) 14 0) 15 0) 16 0) 17 0) 18 0) 19 0) 20 0) 21 0) 22 0) 23 0) 24 0), σ.2.2.1, σ.2.2.2.1, σ.2.2.2.2.1, σ.2.2.2.2.2)) hx hb hK hP hD hS 7 4 rfl rfl (by unfold vp_in; decide) d_Hart_restart_17 rfl (fun H locs hP hD hS => ?_)
  refine lv_iinc (v := 25) (lv' := [(1, .int 25), (0, .ref (a 6))]) hx hb d_Hart_restart_18 hl (k := 0) rfl rfl (by decide) rfl (fun ls hl => ?_)
  refine lv_goto (tgt := 2) hx hb d_Hart_restart_21 (by decide) ?_
  refine lv_iload_n hx hb d_Hart_restart_2 rfl (lv_at hl 0 rfl) ?_
  refine lv_aload_n hx hb d_Hart_restart_3 rfl (lv_at hl 1 rfl) ?_
  refine va_get (D := D) (ci := 4) (v := .ref (a 7)) (C := R_Hart) (T := F_Hart) (N := 6) hx hb hts i_Hart hown hK hP 6 rfl rfl 1 (by decide) (hts _ k_144) (fun _ h9 => h9) rfl d_Hart_restart_4 ?_
  refine va_alen (v := 32) hx hb hK hP 7 4 rfl rfl rfl d_Hart_restart_7 ?_
  refine lv_icmp_ge (tgt := 24) hx hb d_Hart_restart_8 (by decide) (fun h9 => absurd h9 (by decide)) (fun _ => ?_)
  refine lv_aload_n hx hb d_Hart_restart_11 rfl (lv_at hl 1 rfl) ?_
  refine va_get (D := D) (ci := 4) (v := .ref (a 7)) (C := R_Hart) (T := F_Hart) (N := 6) hx hb hts i_Hart hown hK hP 6 rfl rfl 1 (by decide) (hts _ k_144) (fun _ h9 => h9) rfl d_Hart_restart_12 ?_
  refine lv_iload_n hx hb d_Hart_restart_15 rfl (lv_at hl 0 rfl) ?_
  refine lv_iconst (v := 0) hx hb d_Hart_restart_16 rfl ?_
  refine y_iast (ws' := wH a k n id (σ.1, (upd (upd (upd (upd (upd (upd (upd (upd (upd (upd (upd (upd (upd (upd (upd (upd (upd (upd (upd (upd (upd (upd (upd (upd (upd (upd σ.2.1 0 0) 1 0) 2 0) 3 0) 4 0) 5 0) 6 0) 7 0) 8 0) 9 0) 10 0) 11 0) 12 0) 13 0) 14 0) 15 0) 16 0) 17 0) 18 0) 19 0) 20 0) 21 0) 22 0) 23 0) 24 0) 25 0), σ.2.2.1, σ.2.2.2.1, σ.2.2.2.2.1, σ.2.2.2.2.2)) hx hb hK hP hD hS 7 4 rfl rfl (by unfold vp_in; decide) d_Hart_restart_17 rfl (fun H locs hP hD hS => ?_)
  refine lv_iinc (v := 26) (lv' := [(1, .int 26), (0, .ref (a 6))]) hx hb d_Hart_restart_18 hl (k := 0) rfl rfl (by decide) rfl (fun ls hl => ?_)
  refine lv_goto (tgt := 2) hx hb d_Hart_restart_21 (by decide) ?_
  refine lv_iload_n hx hb d_Hart_restart_2 rfl (lv_at hl 0 rfl) ?_
  refine lv_aload_n hx hb d_Hart_restart_3 rfl (lv_at hl 1 rfl) ?_
  refine va_get (D := D) (ci := 4) (v := .ref (a 7)) (C := R_Hart) (T := F_Hart) (N := 6) hx hb hts i_Hart hown hK hP 6 rfl rfl 1 (by decide) (hts _ k_144) (fun _ h9 => h9) rfl d_Hart_restart_4 ?_
  refine va_alen (v := 32) hx hb hK hP 7 4 rfl rfl rfl d_Hart_restart_7 ?_
  refine lv_icmp_ge (tgt := 24) hx hb d_Hart_restart_8 (by decide) (fun h9 => absurd h9 (by decide)) (fun _ => ?_)
  refine lv_aload_n hx hb d_Hart_restart_11 rfl (lv_at hl 1 rfl) ?_
  refine va_get (D := D) (ci := 4) (v := .ref (a 7)) (C := R_Hart) (T := F_Hart) (N := 6) hx hb hts i_Hart hown hK hP 6 rfl rfl 1 (by decide) (hts _ k_144) (fun _ h9 => h9) rfl d_Hart_restart_12 ?_
  refine lv_iload_n hx hb d_Hart_restart_15 rfl (lv_at hl 0 rfl) ?_
  refine lv_iconst (v := 0) hx hb d_Hart_restart_16 rfl ?_
  refine y_iast (ws' := wH a k n id (σ.1, (upd (upd (upd (upd (upd (upd (upd (upd (upd (upd (upd (upd (upd (upd (upd (upd (upd (upd (upd (upd (upd (upd (upd (upd (upd (upd (upd σ.2.1 0 0) 1 0) 2 0) 3 0) 4 0) 5 0) 6 0) 7 0) 8 0) 9 0) 10 0) 11 0) 12 0) 13 0) 14 0) 15 0) 16 0) 17 0) 18 0) 19 0) 20 0) 21 0) 22 0) 23 0) 24 0) 25 0) 26 0), σ.2.2.1, σ.2.2.2.1, σ.2.2.2.2.1, σ.2.2.2.2.2)) hx hb hK hP hD hS 7 4 rfl rfl (by unfold vp_in; decide) d_Hart_restart_17 rfl (fun H locs hP hD hS => ?_)
  refine lv_iinc (v := 27) (lv' := [(1, .int 27), (0, .ref (a 6))]) hx hb d_Hart_restart_18 hl (k := 0) rfl rfl (by decide) rfl (fun ls hl => ?_)
  refine lv_goto (tgt := 2) hx hb d_Hart_restart_21 (by decide) ?_
  refine lv_iload_n hx hb d_Hart_restart_2 rfl (lv_at hl 0 rfl) ?_
  refine lv_aload_n hx hb d_Hart_restart_3 rfl (lv_at hl 1 rfl) ?_
  refine va_get (D := D) (ci := 4) (v := .ref (a 7)) (C := R_Hart) (T := F_Hart) (N := 6) hx hb hts i_Hart hown hK hP 6 rfl rfl 1 (by decide) (hts _ k_144) (fun _ h9 => h9) rfl d_Hart_restart_4 ?_
  refine va_alen (v := 32) hx hb hK hP 7 4 rfl rfl rfl d_Hart_restart_7 ?_
  refine lv_icmp_ge (tgt := 24) hx hb d_Hart_restart_8 (by decide) (fun h9 => absurd h9 (by decide)) (fun _ => ?_)
  refine lv_aload_n hx hb d_Hart_restart_11 rfl (lv_at hl 1 rfl) ?_
  refine va_get (D := D) (ci := 4) (v := .ref (a 7)) (C := R_Hart) (T := F_Hart) (N := 6) hx hb hts i_Hart hown hK hP 6 rfl rfl 1 (by decide) (hts _ k_144) (fun _ h9 => h9) rfl d_Hart_restart_12 ?_
  refine lv_iload_n hx hb d_Hart_restart_15 rfl (lv_at hl 0 rfl) ?_
  refine lv_iconst (v := 0) hx hb d_Hart_restart_16 rfl ?_
  refine y_iast (ws' := wH a k n id (σ.1, (upd (upd (upd (upd (upd (upd (upd (upd (upd (upd (upd (upd (upd (upd (upd (upd (upd (upd (upd (upd (upd (upd (upd (upd (upd (upd (upd (upd σ.2.1 0 0) 1 0) 2 0) 3 0) 4 0) 5 0) 6 0) 7 0) 8 0) 9 0) 10 0) 11 0) 12 0) 13 0) 14 0) 15 0) 16 0) 17 0) 18 0) 19 0) 20 0) 21 0) 22 0) 23 0) 24 0) 25 0) 26 0) 27 0), σ.2.2.1, σ.2.2.2.1, σ.2.2.2.2.1, σ.2.2.2.2.2)) hx hb hK hP hD hS 7 4 rfl rfl (by unfold vp_in; decide) d_Hart_restart_17 rfl (fun H locs hP hD hS => ?_)
  refine lv_iinc (v := 28) (lv' := [(1, .int 28), (0, .ref (a 6))]) hx hb d_Hart_restart_18 hl (k := 0) rfl rfl (by decide) rfl (fun ls hl => ?_)
  refine lv_goto (tgt := 2) hx hb d_Hart_restart_21 (by decide) ?_
  refine lv_iload_n hx hb d_Hart_restart_2 rfl (lv_at hl 0 rfl) ?_
  refine lv_aload_n hx hb d_Hart_restart_3 rfl (lv_at hl 1 rfl) ?_
  refine va_get (D := D) (ci := 4) (v := .ref (a 7)) (C := R_Hart) (T := F_Hart) (N := 6) hx hb hts i_Hart hown hK hP 6 rfl rfl 1 (by decide) (hts _ k_144) (fun _ h9 => h9) rfl d_Hart_restart_4 ?_
  refine va_alen (v := 32) hx hb hK hP 7 4 rfl rfl rfl d_Hart_restart_7 ?_
  refine lv_icmp_ge (tgt := 24) hx hb d_Hart_restart_8 (by decide) (fun h9 => absurd h9 (by decide)) (fun _ => ?_)
  refine lv_aload_n hx hb d_Hart_restart_11 rfl (lv_at hl 1 rfl) ?_
  refine va_get (D := D) (ci := 4) (v := .ref (a 7)) (C := R_Hart) (T := F_Hart) (N := 6) hx hb hts i_Hart hown hK hP 6 rfl rfl 1 (by decide) (hts _ k_144) (fun _ h9 => h9) rfl d_Hart_restart_12 ?_
  refine lv_iload_n hx hb d_Hart_restart_15 rfl (lv_at hl 0 rfl) ?_
  refine lv_iconst (v := 0) hx hb d_Hart_restart_16 rfl ?_
  refine y_iast (ws' := wH a k n id (σ.1, (upd (upd (upd (upd (upd (upd (upd (upd (upd (upd (upd (upd (upd (upd (upd (upd (upd (upd (upd (upd (upd (upd (upd (upd (upd (upd (upd (upd (upd σ.2.1 0 0) 1 0) 2 0) 3 0) 4 0) 5 0) 6 0) 7 0) 8 0) 9 0) 10 0) 11 0) 12 0) 13 0) 14 0) 15 0) 16 0) 17 0) 18 0) 19 0) 20 0) 21 0) 22 0) 23 0) 24 0) 25 0) 26 0) 27 0) 28 0), σ.2.2.1, σ.2.2.2.1, σ.2.2.2.2.1, σ.2.2.2.2.2)) hx hb hK hP hD hS 7 4 rfl rfl (by unfold vp_in; decide) d_Hart_restart_17 rfl (fun H locs hP hD hS => ?_)
  refine lv_iinc (v := 29) (lv' := [(1, .int 29), (0, .ref (a 6))]) hx hb d_Hart_restart_18 hl (k := 0) rfl rfl (by decide) rfl (fun ls hl => ?_)
  refine lv_goto (tgt := 2) hx hb d_Hart_restart_21 (by decide) ?_
  refine lv_iload_n hx hb d_Hart_restart_2 rfl (lv_at hl 0 rfl) ?_
  refine lv_aload_n hx hb d_Hart_restart_3 rfl (lv_at hl 1 rfl) ?_
  refine va_get (D := D) (ci := 4) (v := .ref (a 7)) (C := R_Hart) (T := F_Hart) (N := 6) hx hb hts i_Hart hown hK hP 6 rfl rfl 1 (by decide) (hts _ k_144) (fun _ h9 => h9) rfl d_Hart_restart_4 ?_
  refine va_alen (v := 32) hx hb hK hP 7 4 rfl rfl rfl d_Hart_restart_7 ?_
  refine lv_icmp_ge (tgt := 24) hx hb d_Hart_restart_8 (by decide) (fun h9 => absurd h9 (by decide)) (fun _ => ?_)
  refine lv_aload_n hx hb d_Hart_restart_11 rfl (lv_at hl 1 rfl) ?_
  refine va_get (D := D) (ci := 4) (v := .ref (a 7)) (C := R_Hart) (T := F_Hart) (N := 6) hx hb hts i_Hart hown hK hP 6 rfl rfl 1 (by decide) (hts _ k_144) (fun _ h9 => h9) rfl d_Hart_restart_12 ?_
  refine lv_iload_n hx hb d_Hart_restart_15 rfl (lv_at hl 0 rfl) ?_
  refine lv_iconst (v := 0) hx hb d_Hart_restart_16 rfl ?_
  refine y_iast (ws' := wH a k n id (σ.1, (upd (upd (upd (upd (upd (upd (upd (upd (upd (upd (upd (upd (upd (upd (upd (upd (upd (upd (upd (upd (upd (upd (upd (upd (upd (upd (upd (upd (upd (upd σ.2.1 0 0) 1 0) 2 0) 3 0) 4 0) 5 0) 6 0) 7 0) 8 0) 9 0) 10 0) 11 0) 12 0) 13 0) 14 0) 15 0) 16 0) 17 0) 18 0) 19 0) 20 0) 21 0) 22 0) 23 0) 24 0) 25 0) 26 0) 27 0) 28 0) 29 0), σ.2.2.1, σ.2.2.2.1, σ.2.2.2.2.1, σ.2.2.2.2.2)) hx hb hK hP hD hS 7 4 rfl rfl (by unfold vp_in; decide) d_Hart_restart_17 rfl (fun H locs hP hD hS => ?_)
  refine lv_iinc (v := 30) (lv' := [(1, .int 30), (0, .ref (a 6))]) hx hb d_Hart_restart_18 hl (k := 0) rfl rfl (by decide) rfl (fun ls hl => ?_)
  refine lv_goto (tgt := 2) hx hb d_Hart_restart_21 (by decide) ?_
  refine lv_iload_n hx hb d_Hart_restart_2 rfl (lv_at hl 0 rfl) ?_
  refine lv_aload_n hx hb d_Hart_restart_3 rfl (lv_at hl 1 rfl) ?_
  refine va_get (D := D) (ci := 4) (v := .ref (a 7)) (C := R_Hart) (T := F_Hart) (N := 6) hx hb hts i_Hart hown hK hP 6 rfl rfl 1 (by decide) (hts _ k_144) (fun _ h9 => h9) rfl d_Hart_restart_4 ?_
  refine va_alen (v := 32) hx hb hK hP 7 4 rfl rfl rfl d_Hart_restart_7 ?_
  refine lv_icmp_ge (tgt := 24) hx hb d_Hart_restart_8 (by decide) (fun h9 => absurd h9 (by decide)) (fun _ => ?_)
  refine lv_aload_n hx hb d_Hart_restart_11 rfl (lv_at hl 1 rfl) ?_
  refine va_get (D := D) (ci := 4) (v := .ref (a 7)) (C := R_Hart) (T := F_Hart) (N := 6) hx hb hts i_Hart hown hK hP 6 rfl rfl 1 (by decide) (hts _ k_144) (fun _ h9 => h9) rfl d_Hart_restart_12 ?_
  refine lv_iload_n hx hb d_Hart_restart_15 rfl (lv_at hl 0 rfl) ?_
  refine lv_iconst (v := 0) hx hb d_Hart_restart_16 rfl ?_
  refine y_iast (ws' := wH a k n id (σ.1, (upd (upd (upd (upd (upd (upd (upd (upd (upd (upd (upd (upd (upd (upd (upd (upd (upd (upd (upd (upd (upd (upd (upd (upd (upd (upd (upd (upd (upd (upd (upd σ.2.1 0 0) 1 0) 2 0) 3 0) 4 0) 5 0) 6 0) 7 0) 8 0) 9 0) 10 0) 11 0) 12 0) 13 0) 14 0) 15 0) 16 0) 17 0) 18 0) 19 0) 20 0) 21 0) 22 0) 23 0) 24 0) 25 0) 26 0) 27 0) 28 0) 29 0) 30 0), σ.2.2.1, σ.2.2.2.1, σ.2.2.2.2.1, σ.2.2.2.2.2)) hx hb hK hP hD hS 7 4 rfl rfl (by unfold vp_in; decide) d_Hart_restart_17 rfl (fun H locs hP hD hS => ?_)
  refine lv_iinc (v := 31) (lv' := [(1, .int 31), (0, .ref (a 6))]) hx hb d_Hart_restart_18 hl (k := 0) rfl rfl (by decide) rfl (fun ls hl => ?_)
  refine lv_goto (tgt := 2) hx hb d_Hart_restart_21 (by decide) ?_
  refine lv_iload_n hx hb d_Hart_restart_2 rfl (lv_at hl 0 rfl) ?_
  refine lv_aload_n hx hb d_Hart_restart_3 rfl (lv_at hl 1 rfl) ?_
  refine va_get (D := D) (ci := 4) (v := .ref (a 7)) (C := R_Hart) (T := F_Hart) (N := 6) hx hb hts i_Hart hown hK hP 6 rfl rfl 1 (by decide) (hts _ k_144) (fun _ h9 => h9) rfl d_Hart_restart_4 ?_
  refine va_alen (v := 32) hx hb hK hP 7 4 rfl rfl rfl d_Hart_restart_7 ?_
  refine lv_icmp_ge (tgt := 24) hx hb d_Hart_restart_8 (by decide) (fun h9 => absurd h9 (by decide)) (fun _ => ?_)
  refine lv_aload_n hx hb d_Hart_restart_11 rfl (lv_at hl 1 rfl) ?_
  refine va_get (D := D) (ci := 4) (v := .ref (a 7)) (C := R_Hart) (T := F_Hart) (N := 6) hx hb hts i_Hart hown hK hP 6 rfl rfl 1 (by decide) (hts _ k_144) (fun _ h9 => h9) rfl d_Hart_restart_12 ?_
  refine lv_iload_n hx hb d_Hart_restart_15 rfl (lv_at hl 0 rfl) ?_
  refine lv_iconst (v := 0) hx hb d_Hart_restart_16 rfl ?_
  refine y_iast (ws' := wH a k n id (σ.1, (upd (upd (upd (upd (upd (upd (upd (upd (upd (upd (upd (upd (upd (upd (upd (upd (upd (upd (upd (upd (upd (upd (upd (upd (upd (upd (upd (upd (upd (upd (upd (upd σ.2.1 0 0) 1 0) 2 0) 3 0) 4 0) 5 0) 6 0) 7 0) 8 0) 9 0) 10 0) 11 0) 12 0) 13 0) 14 0) 15 0) 16 0) 17 0) 18 0) 19 0) 20 0) 21 0) 22 0) 23 0) 24 0) 25 0) 26 0) 27 0) 28 0) 29 0) 30 0) 31 0), σ.2.2.1, σ.2.2.2.1, σ.2.2.2.2.1, σ.2.2.2.2.2)) hx hb hK hP hD hS 7 4 rfl rfl (by unfold vp_in; decide) d_Hart_restart_17 rfl (fun H locs hP hD hS => ?_)
  refine lv_iinc (v := 32) (lv' := [(1, .int 32), (0, .ref (a 6))]) hx hb d_Hart_restart_18 hl (k := 0) rfl rfl (by decide) rfl (fun ls hl => ?_)
  refine lv_goto (tgt := 2) hx hb d_Hart_restart_21 (by decide) ?_
  refine lv_iload_n hx hb d_Hart_restart_2 rfl (lv_at hl 0 rfl) ?_
  refine lv_aload_n hx hb d_Hart_restart_3 rfl (lv_at hl 1 rfl) ?_
  refine va_get (D := D) (ci := 4) (v := .ref (a 7)) (C := R_Hart) (T := F_Hart) (N := 6) hx hb hts i_Hart hown hK hP 6 rfl rfl 1 (by decide) (hts _ k_144) (fun _ h9 => h9) rfl d_Hart_restart_4 ?_
  refine va_alen (v := 32) hx hb hK hP 7 4 rfl rfl rfl d_Hart_restart_7 ?_
  refine lv_icmp_ge (tgt := 24) hx hb d_Hart_restart_8 (by decide) (fun _ => ?_) (fun h9 => absurd (by decide) h9)
  refine lv_aload_n hx hb d_Hart_restart_24 rfl (lv_at hl 1 rfl) ?_
  refine va_get (D := D) (ci := 4) (v := .ref (a 8)) (C := R_Hart) (T := F_Hart) (N := 6) hx hb hts i_Hart hown hK hP 6 rfl rfl 2 (by decide) (hts _ k_146) (fun _ h9 => h9) rfl d_Hart_restart_25 ?_
  refine xv (wr := [((a 0), .inr (1, [.ref (a 3), .ref (a 1), .ref (a 4), .int σ.1.2.2.2.1, .ref (a 5)])), ((a 1), .inr (2, [.ref (a 2)])), ((a 2), .inl ((k 0), 8, .inl σ.1.1)), ((a 3), .inl ((k 1), n, .inl σ.1.2.1)), ((a 4), .inl ((k 2), 256, .inl σ.1.2.2.1)), ((a 5), .inl ((k 3), 2, .inr (.inl σ.1.2.2.2.2))), ((a 6), .inr (4, [.int id, .ref (a 7), .ref (a 8), .int σ.2.2.1, .int σ.2.2.2.1, .int σ.2.2.2.2.1])), ((a 7), .inl ((k 4), 32, .inl (upd (upd (upd (upd (upd (upd (upd (upd (upd (upd (upd (upd (upd (upd (upd (upd (upd (upd (upd (upd (upd (upd (upd (upd (upd (upd (upd (upd (upd (upd (upd (upd σ.2.1 0 0) 1 0) 2 0) 3 0) 4 0) 5 0) 6 0) 7 0) 8 0) 9 0) 10 0) 11 0) 12 0) 13 0) 14 0) 15 0) 16 0) 17 0) 18 0) 19 0) 20 0) 21 0) 22 0) 23 0) 24 0) 25 0) 26 0) 27 0) 28 0) 29 0) 30 0) 31 0)))]) (W2 := fun u9 => wH a k n id (σ.1, (upd (upd (upd (upd (upd (upd (upd (upd (upd (upd (upd (upd (upd (upd (upd (upd (upd (upd (upd (upd (upd (upd (upd (upd (upd (upd (upd (upd (upd (upd (upd (upd σ.2.1 0 0) 1 0) 2 0) 3 0) 4 0) 5 0) 6 0) 7 0) 8 0) 9 0) 10 0) 11 0) 12 0) 13 0) 14 0) 15 0) 16 0) 17 0) 18 0) 19 0) 20 0) 21 0) 22 0) 23 0) 24 0) 25 0) 26 0) 27 0) 28 0) 29 0) 30 0) 31 0), σ.2.2.1, σ.2.2.2.1, σ.2.2.2.2.1, u9)) (xV (rest := []) ⟨hx, hb, hml, hown, hts⟩ (c_Csrs_restart (a 8) σ.2.2.2.2.2) mw_Csrs_restart mv_Csrs_restart k_190 ⟨rfl, rfl, Nat.le_of_ble_eq_true rfl, Nat.le_of_ble_eq_true rfl⟩ hK hP hD hS hA hF [8] [] rfl rfl rfl 8 3 rfl rfl rfl rfl hl.1 rfl (Nat.le_of_ble_eq_true rfl) d_Hart_restart_28 ⟨Nat.zero_le _, Nat.zero_le _⟩) hP hD hS hA [8] [0, 1, 2, 3, 4, 5, 6, 7] [0, 1, 2, 3, 4, 5, 6, 7, 8] rfl rfl rfl (by decide) (fun _ => rfl) rfl (fun u_34 H locs h_34 hP hD hS => ?_)
  refine lv_aload_n hx hb d_Hart_restart_31 rfl (lv_at hl 1 rfl) ?_
  refine lv_ldc (v := (-2147483648)) hx hb hown (hts _ k_81) d_Hart_restart_32 ?_
  refine y_put (D := D) (ci := 4) (v := .int (-2147483648)) (ty := .int) (C := R_Hart) (T := F_Hart) (N := 6) (ws' := wH a k n id (σ.1, (upd (upd (upd (upd (upd (upd (upd (upd (upd (upd (upd (upd (upd (upd (upd (upd (upd (upd (upd (upd (upd (upd (upd (upd (upd (upd (upd (upd (upd (upd (upd (upd σ.2.1 0 0) 1 0) 2 0) 3 0) 4 0) 5 0) 6 0) 7 0) 8 0) 9 0) 10 0) 11 0) 12 0) 13 0) 14 0) 15 0) 16 0) 17 0) 18 0) 19 0) 20 0) 21 0) 22 0) 23 0) 24 0) 25 0) 26 0) 27 0) 28 0) 29 0) 30 0) 31 0), (-2147483648), σ.2.2.2.1, σ.2.2.2.2.1, u_34)) hx hb hts i_Hart t_Hart t_Hart_ok n_Hart hown hK hP hD hS 6 rfl rfl 3 (by decide) (hts _ k_148) (fun _ h9 => h9) rfl (by decide +kernel) rfl rfl (Nat.le_of_ble_eq_true rfl) d_Hart_restart_34 rfl (fun H locs hP hD hS => ?_)
  refine lv_aload_n hx hb d_Hart_restart_37 rfl (lv_at hl 1 rfl) ?_
  refine lv_iconst (v := 3) hx hb d_Hart_restart_38 rfl ?_
  refine y_put (D := D) (ci := 4) (v := .int 3) (ty := .int) (C := R_Hart) (T := F_Hart) (N := 6) (ws' := wH a k n id (σ.1, (upd (upd (upd (upd (upd (upd (upd (upd (upd (upd (upd (upd (upd (upd (upd (upd (upd (upd (upd (upd (upd (upd (upd (upd (upd (upd (upd (upd (upd (upd (upd (upd σ.2.1 0 0) 1 0) 2 0) 3 0) 4 0) 5 0) 6 0) 7 0) 8 0) 9 0) 10 0) 11 0) 12 0) 13 0) 14 0) 15 0) 16 0) 17 0) 18 0) 19 0) 20 0) 21 0) 22 0) 23 0) 24 0) 25 0) 26 0) 27 0) 28 0) 29 0) 30 0) 31 0), (-2147483648), 3, σ.2.2.2.2.1, u_34)) hx hb hts i_Hart t_Hart t_Hart_ok n_Hart hown hK hP hD hS 6 rfl rfl 4 (by decide) (hts _ k_150) (fun _ h9 => h9) rfl (by decide +kernel) rfl rfl (Nat.le_of_ble_eq_true rfl) d_Hart_restart_39 rfl (fun H locs hP hD hS => ?_)
  exact rv (σ.1, (upd (upd (upd (upd (upd (upd (upd (upd (upd (upd (upd (upd (upd (upd (upd (upd (upd (upd (upd (upd (upd (upd (upd (upd (upd (upd (upd (upd (upd (upd (upd (upd σ.2.1 0 0) 1 0) 2 0) 3 0) 4 0) 5 0) 6 0) 7 0) 8 0) 9 0) 10 0) 11 0) 12 0) 13 0) 14 0) 15 0) 16 0) 17 0) 18 0) 19 0) 20 0) 21 0) 22 0) 23 0) 24 0) 25 0) 26 0) 27 0) 28 0) 29 0) 30 0) 31 0), (-2147483648), 3, σ.2.2.2.2.1, u_34) hx hb hr hlocks hP hD hS d_Hart_restart_42 (by simp only [sp_Hart_restart, h_34])
def sp_Hart_take (n : Nat) (id : Int32) (x0 : Int32) (x1 : Int32) (x2 : Int32) (σ : TH) : TH :=
  if x2 = 0 then
    let r_2 := (sp_Csrs_enterMachine σ.2.2.1 x0 x1 σ.2.2.2.1 σ.2.2.2.2.2).1
    let u_2 := (sp_Csrs_enterMachine σ.2.2.1 x0 x1 σ.2.2.2.1 σ.2.2.2.2.2).2
    (σ.1, σ.2.1, r_2, 3, σ.2.2.2.2.1, u_2)
  else
    let r_3 := (sp_Csrs_enterSupervisor σ.2.2.1 x0 x1 σ.2.2.2.1 σ.2.2.2.2.2).1
    let u_3 := (sp_Csrs_enterSupervisor σ.2.2.1 x0 x1 σ.2.2.2.1 σ.2.2.2.2.2).2
    (σ.1, σ.2.1, r_3, 1, σ.2.2.2.2.1, u_3)
set_option maxHeartbeats 4000000 in
set_option maxRecDepth 100000 in
theorem c_Hart_take {l : Launch} {D : va_G} {g : Nat → Nat} (a : Nat → Nat) (k : Nat → ClassId) (n : Nat) (id : Int32) (x0 : Int32) (x1 : Int32) (x2 : Int32) (σ : TH) (hn : n ≤ 4096) (hid : id = 0 ∨ id = 1) : CT l D g y_Hart_take b_Hart_take 4 none (rD 2) [.ref (a 6), .int x0, .int x1, .int x2] (wH a k n id σ) (tyH k) (Qv D (fun (u : TH) => sp_Hart_take n id x0 x1 x2 σ = u) (fun u => wH a k n id u)) := by
  refine CT.of rfl (Nat.le_of_ble_eq_true rfl) (fun p e s m below meth c A ls hx hb hr hml hts hown hlocks hA hP hK hD hF hS hl => ?_)
  have hl : lv_has ls 4 [(0, .ref (a 6)), (1, .int x0), (2, .int x1), (3, .int x2)] := hl
  refine lv_iload_n hx hb d_Hart_take_0 rfl (lv_at hl 3 rfl) ?_
  refine lv_if_eq (tgt := 33) hx hb d_Hart_take_1 (by decide) (fun c_1 => ?_) (fun c_1 => ?_)
  · refine lv_aload_n hx hb d_Hart_take_33 rfl (lv_at hl 0 rfl) ?_
    refine lv_aload_n hx hb d_Hart_take_34 rfl (lv_at hl 0 rfl) ?_
    refine va_get (D := D) (ci := 4) (v := .ref (a 8)) (C := R_Hart) (T := F_Hart) (N := 6) hx hb hts i_Hart hown hK hP 6 rfl rfl 2 (by decide) (hts _ k_146) (fun _ h9 => h9) rfl d_Hart_take_35 ?_
    refine lv_aload_n hx hb d_Hart_take_38 rfl (lv_at hl 0 rfl) ?_
    refine va_get (D := D) (ci := 4) (v := .int σ.2.2.1) (C := R_Hart) (T := F_Hart) (N := 6) hx hb hts i_Hart hown hK hP 6 rfl rfl 3 (by decide) (hts _ k_148) (fun _ h9 => h9) rfl d_Hart_take_39 ?_
    refine lv_iload_n hx hb d_Hart_take_42 rfl (lv_at hl 1 rfl) ?_
    refine lv_iload_n hx hb d_Hart_take_43 rfl (lv_at hl 2 rfl) ?_
    refine lv_aload_n hx hb d_Hart_take_44 rfl (lv_at hl 0 rfl) ?_
    refine va_get (D := D) (ci := 4) (v := .int σ.2.2.2.1) (C := R_Hart) (T := F_Hart) (N := 6) hx hb hts i_Hart hown hK hP 6 rfl rfl 4 (by decide) (hts _ k_150) (fun _ h9 => h9) rfl d_Hart_take_45 ?_
    refine xi (wr := [((a 0), .inr (1, [.ref (a 3), .ref (a 1), .ref (a 4), .int σ.1.2.2.2.1, .ref (a 5)])), ((a 1), .inr (2, [.ref (a 2)])), ((a 2), .inl ((k 0), 8, .inl σ.1.1)), ((a 3), .inl ((k 1), n, .inl σ.1.2.1)), ((a 4), .inl ((k 2), 256, .inl σ.1.2.2.1)), ((a 5), .inl ((k 3), 2, .inr (.inl σ.1.2.2.2.2))), ((a 6), .inr (4, [.int id, .ref (a 7), .ref (a 8), .int σ.2.2.1, .int σ.2.2.2.1, .int σ.2.2.2.2.1])), ((a 7), .inl ((k 4), 32, .inl σ.2.1))]) (W2 := fun u9 => wH a k n id (σ.1, σ.2.1, σ.2.2.1, σ.2.2.2.1, σ.2.2.2.2.1, u9)) (xV (rest := [.ref (a 6)]) ⟨hx, hb, hml, hown, hts⟩ (c_Csrs_enterMachine (a 8) σ.2.2.1 x0 x1 σ.2.2.2.1 σ.2.2.2.2.2) mw_Csrs_enterMachine mv_Csrs_enterMachine k_254 ⟨rfl, rfl, Nat.le_of_ble_eq_true rfl, Nat.le_of_ble_eq_true rfl⟩ hK hP hD hS hA hF [8] [] rfl rfl rfl 8 3 rfl rfl rfl rfl hl.1 rfl (Nat.le_of_ble_eq_true rfl) d_Hart_take_48 ⟨Nat.zero_le _, Nat.zero_le _⟩) hP hD hS hA [8] [0, 1, 2, 3, 4, 5, 6, 7] [0, 1, 2, 3, 4, 5, 6, 7, 8] rfl rfl rfl (by decide) (fun _ => rfl) rfl (fun r_2 u_2 H locs h_2 hP hD hS => ?_)
    refine y_put (D := D) (ci := 4) (v := .int r_2) (ty := .int) (C := R_Hart) (T := F_Hart) (N := 6) (ws' := wH a k n id (σ.1, σ.2.1, r_2, σ.2.2.2.1, σ.2.2.2.2.1, u_2)) hx hb hts i_Hart t_Hart t_Hart_ok n_Hart hown hK hP hD hS 6 rfl rfl 3 (by decide) (hts _ k_148) (fun _ h9 => h9) rfl (by decide +kernel) rfl rfl (Nat.le_of_ble_eq_true rfl) d_Hart_take_51 rfl (fun H locs hP hD hS => ?_)
    refine lv_aload_n hx hb d_Hart_take_54 rfl (lv_at hl 0 rfl) ?_
    refine lv_iconst (v := 3) hx hb d_Hart_take_55 rfl ?_
    refine y_put (D := D) (ci := 4) (v := .int 3) (ty := .int) (C := R_Hart) (T := F_Hart) (N := 6) (ws' := wH a k n id (σ.1, σ.2.1, r_2, 3, σ.2.2.2.2.1, u_2)) hx hb hts i_Hart t_Hart t_Hart_ok n_Hart hown hK hP hD hS 6 rfl rfl 4 (by decide) (hts _ k_150) (fun _ h9 => h9) rfl (by decide +kernel) rfl rfl (Nat.le_of_ble_eq_true rfl) d_Hart_take_56 rfl (fun H locs hP hD hS => ?_)
    exact rv (σ.1, σ.2.1, r_2, 3, σ.2.2.2.2.1, u_2) hx hb hr hlocks hP hD hS d_Hart_take_59 (by simp only [sp_Hart_take, h_2, if_pos c_1])
  · refine lv_aload_n hx hb d_Hart_take_4 rfl (lv_at hl 0 rfl) ?_
    refine lv_aload_n hx hb d_Hart_take_5 rfl (lv_at hl 0 rfl) ?_
    refine va_get (D := D) (ci := 4) (v := .ref (a 8)) (C := R_Hart) (T := F_Hart) (N := 6) hx hb hts i_Hart hown hK hP 6 rfl rfl 2 (by decide) (hts _ k_146) (fun _ h9 => h9) rfl d_Hart_take_6 ?_
    refine lv_aload_n hx hb d_Hart_take_9 rfl (lv_at hl 0 rfl) ?_
    refine va_get (D := D) (ci := 4) (v := .int σ.2.2.1) (C := R_Hart) (T := F_Hart) (N := 6) hx hb hts i_Hart hown hK hP 6 rfl rfl 3 (by decide) (hts _ k_148) (fun _ h9 => h9) rfl d_Hart_take_10 ?_
    refine lv_iload_n hx hb d_Hart_take_13 rfl (lv_at hl 1 rfl) ?_
    refine lv_iload_n hx hb d_Hart_take_14 rfl (lv_at hl 2 rfl) ?_
    refine lv_aload_n hx hb d_Hart_take_15 rfl (lv_at hl 0 rfl) ?_
    refine va_get (D := D) (ci := 4) (v := .int σ.2.2.2.1) (C := R_Hart) (T := F_Hart) (N := 6) hx hb hts i_Hart hown hK hP 6 rfl rfl 4 (by decide) (hts _ k_150) (fun _ h9 => h9) rfl d_Hart_take_16 ?_
    refine xi (wr := [((a 0), .inr (1, [.ref (a 3), .ref (a 1), .ref (a 4), .int σ.1.2.2.2.1, .ref (a 5)])), ((a 1), .inr (2, [.ref (a 2)])), ((a 2), .inl ((k 0), 8, .inl σ.1.1)), ((a 3), .inl ((k 1), n, .inl σ.1.2.1)), ((a 4), .inl ((k 2), 256, .inl σ.1.2.2.1)), ((a 5), .inl ((k 3), 2, .inr (.inl σ.1.2.2.2.2))), ((a 6), .inr (4, [.int id, .ref (a 7), .ref (a 8), .int σ.2.2.1, .int σ.2.2.2.1, .int σ.2.2.2.2.1])), ((a 7), .inl ((k 4), 32, .inl σ.2.1))]) (W2 := fun u9 => wH a k n id (σ.1, σ.2.1, σ.2.2.1, σ.2.2.2.1, σ.2.2.2.2.1, u9)) (xV (rest := [.ref (a 6)]) ⟨hx, hb, hml, hown, hts⟩ (c_Csrs_enterSupervisor (a 8) σ.2.2.1 x0 x1 σ.2.2.2.1 σ.2.2.2.2.2) mw_Csrs_enterSupervisor mv_Csrs_enterSupervisor k_250 ⟨rfl, rfl, Nat.le_of_ble_eq_true rfl, Nat.le_of_ble_eq_true rfl⟩ hK hP hD hS hA hF [8] [] rfl rfl rfl 8 3 rfl rfl rfl rfl hl.1 rfl (Nat.le_of_ble_eq_true rfl) d_Hart_take_19 ⟨Nat.zero_le _, Nat.zero_le _⟩) hP hD hS hA [8] [0, 1, 2, 3, 4, 5, 6, 7] [0, 1, 2, 3, 4, 5, 6, 7, 8] rfl rfl rfl (by decide) (fun _ => rfl) rfl (fun r_3 u_3 H locs h_3 hP hD hS => ?_)
    refine y_put (D := D) (ci := 4) (v := .int r_3) (ty := .int) (C := R_Hart) (T := F_Hart) (N := 6) (ws' := wH a k n id (σ.1, σ.2.1, r_3, σ.2.2.2.1, σ.2.2.2.2.1, u_3)) hx hb hts i_Hart t_Hart t_Hart_ok n_Hart hown hK hP hD hS 6 rfl rfl 3 (by decide) (hts _ k_148) (fun _ h9 => h9) rfl (by decide +kernel) rfl rfl (Nat.le_of_ble_eq_true rfl) d_Hart_take_22 rfl (fun H locs hP hD hS => ?_)
    refine lv_aload_n hx hb d_Hart_take_25 rfl (lv_at hl 0 rfl) ?_
    refine lv_iconst (v := 1) hx hb d_Hart_take_26 rfl ?_
    refine y_put (D := D) (ci := 4) (v := .int 1) (ty := .int) (C := R_Hart) (T := F_Hart) (N := 6) (ws' := wH a k n id (σ.1, σ.2.1, r_3, 1, σ.2.2.2.2.1, u_3)) hx hb hts i_Hart t_Hart t_Hart_ok n_Hart hown hK hP hD hS 6 rfl rfl 4 (by decide) (hts _ k_150) (fun _ h9 => h9) rfl (by decide +kernel) rfl rfl (Nat.le_of_ble_eq_true rfl) d_Hart_take_27 rfl (fun H locs hP hD hS => ?_)
    refine lv_goto (tgt := 59) hx hb d_Hart_take_30 (by decide) ?_
    exact rv (σ.1, σ.2.1, r_3, 1, σ.2.2.2.2.1, u_3) hx hb hr hlocks hP hD hS d_Hart_take_59 (by simp only [sp_Hart_take, h_3, if_neg c_1])
def sp_Hart_locate (n : Nat) (id : Int32) (x0 : Int32) (x1 : Int32) (i : Nat) (σ : TH) : Int64 :=
  if (x0 &&& (x1 - 1)) = 0 then
    if i = 0 then
      if 3 ≤ σ.2.2.2.1 then
        if (x0.toInt64 &&& 4294967295) < 0 then
          x0.toInt64 &&& 4294967295
        else
          if (sp_Memory_allows n (x0.toInt64 &&& 4294967295) x1 i σ.1) = 0 then
            sp_Fault_of (aF_accessFault.getD i 0)
          else
            x0.toInt64 &&& 4294967295
      else
        if (sp_Csrs_hasPages σ.2.2.2.2.2) = 0 then
          if (x0.toInt64 &&& 4294967295) < 0 then
            x0.toInt64 &&& 4294967295
          else
            if (sp_Memory_allows n (x0.toInt64 &&& 4294967295) x1 i σ.1) = 0 then
              sp_Fault_of (aF_accessFault.getD i 0)
            else
              x0.toInt64 &&& 4294967295
        else
          if (sp_Pages_placeOf n id x0 i σ.2.2.2.1 σ) < 0 then
            sp_Pages_placeOf n id x0 i σ.2.2.2.1 σ
          else
            if (sp_Memory_allows n (sp_Pages_placeOf n id x0 i σ.2.2.2.1 σ) x1 i σ.1) = 0 then
              sp_Fault_of (aF_accessFault.getD i 0)
            else
              sp_Pages_placeOf n id x0 i σ.2.2.2.1 σ
    else
      if 3 ≤ (sp_Csrs_dataLevel σ.2.2.2.1 σ.2.2.2.2.2) then
        if (x0.toInt64 &&& 4294967295) < 0 then
          x0.toInt64 &&& 4294967295
        else
          if (sp_Memory_allows n (x0.toInt64 &&& 4294967295) x1 i σ.1) = 0 then
            sp_Fault_of (aF_accessFault.getD i 0)
          else
            x0.toInt64 &&& 4294967295
      else
        if (sp_Csrs_hasPages σ.2.2.2.2.2) = 0 then
          if (x0.toInt64 &&& 4294967295) < 0 then
            x0.toInt64 &&& 4294967295
          else
            if (sp_Memory_allows n (x0.toInt64 &&& 4294967295) x1 i σ.1) = 0 then
              sp_Fault_of (aF_accessFault.getD i 0)
            else
              x0.toInt64 &&& 4294967295
        else
          if (sp_Pages_placeOf n id x0 i (sp_Csrs_dataLevel σ.2.2.2.1 σ.2.2.2.2.2) σ) < 0 then
            sp_Pages_placeOf n id x0 i (sp_Csrs_dataLevel σ.2.2.2.1 σ.2.2.2.2.2) σ
          else
            if (sp_Memory_allows n (sp_Pages_placeOf n id x0 i (sp_Csrs_dataLevel σ.2.2.2.1 σ.2.2.2.2.2) σ) x1 i σ.1) = 0 then
              sp_Fault_of (aF_accessFault.getD i 0)
            else
              sp_Pages_placeOf n id x0 i (sp_Csrs_dataLevel σ.2.2.2.1 σ.2.2.2.2.2) σ
  else
    sp_Fault_of (aF_misaligned.getD i 0)
set_option maxHeartbeats 4000000 in
set_option maxRecDepth 100000 in
theorem c_Hart_locate {l : Launch} {D : va_G} {g : Nat → Nat} (a : Nat → Nat) (k : Nat → ClassId) (n : Nat) (id : Int32) (x0 : Int32) (x1 : Int32) (i : Nat) (σ : TH) (hn : n ≤ 4096) (hid : id = 0 ∨ id = 1) (hi : i < 5) : CT l D g y_Hart_locate b_Hart_locate 8 (some .long) (rD 3) [.ref (a 6), .int x0, .int x1, .ref (g (i + 1)), .ref (a 0)] (wH a k n id σ) (tyH k) (Ql D (fun (r : Int64) (_ : Unit) => sp_Hart_locate n id x0 x1 i σ = r) (fun _ => wH a k n id σ)) := by
  refine CT.of rfl (Nat.le_of_ble_eq_true rfl) (fun p e s m below meth c A ls hx hb hr hml hts hown hlocks hA hP hK hD hF hS hl => ?_)
  have hl : lv_has ls 8 [(0, .ref (a 6)), (1, .int x0), (2, .int x1), (3, .ref (g (i + 1))), (4, .ref (a 0))] := hl
  refine lv_iload_n hx hb d_Hart_locate_0 rfl (lv_at hl 1 rfl) ?_
  refine lv_iload_n hx hb d_Hart_locate_1 rfl (lv_at hl 2 rfl) ?_
  refine lv_iconst (v := 1) hx hb d_Hart_locate_2 rfl ?_
  refine lv_isub hx hb d_Hart_locate_3 ?_
  refine lv_iand hx hb d_Hart_locate_4 ?_
  refine lv_if_eq (tgt := 16) hx hb d_Hart_locate_5 (by decide) (fun c_1 => ?_) (fun c_1 => ?_)
  · refine lv_aload_n hx hb d_Hart_locate_16 rfl (lv_at hl 3 rfl) ?_
    refine va_gets hx hb (hF.2.1.1 0 (by decide)).1 hS hown (hts _ k_258) (fun _ h9 => h9) d_Hart_locate_17 ?_
    refine lv_acmp_ne (rx := some (g (i + 1))) (ry := some (g (0 + 1))) (tgt := 30) hx hb d_Hart_locate_20 (by decide) (fun b_2 => ?_) (fun b_2 => ?_)
    · have c_2 : ¬ i = 0 := fun h9 => b_2 (by rw [h9])
      refine lv_aload_n hx hb d_Hart_locate_30 rfl (lv_at hl 0 rfl) ?_
      refine va_get (D := D) (ci := 4) (v := .ref (a 8)) (C := R_Hart) (T := F_Hart) (N := 6) hx hb hts i_Hart hown hK hP 6 rfl rfl 2 (by decide) (hts _ k_146) (fun _ h9 => h9) rfl d_Hart_locate_31 ?_
      refine lv_aload_n hx hb d_Hart_locate_34 rfl (lv_at hl 0 rfl) ?_
      refine va_get (D := D) (ci := 4) (v := .int σ.2.2.2.1) (C := R_Hart) (T := F_Hart) (N := 6) hx hb hts i_Hart hown hK hP 6 rfl rfl 4 (by decide) (hts _ k_150) (fun _ h9 => h9) rfl d_Hart_locate_35 ?_
      refine xi (wr := [((a 0), .inr (1, [.ref (a 3), .ref (a 1), .ref (a 4), .int σ.1.2.2.2.1, .ref (a 5)])), ((a 1), .inr (2, [.ref (a 2)])), ((a 2), .inl ((k 0), 8, .inl σ.1.1)), ((a 3), .inl ((k 1), n, .inl σ.1.2.1)), ((a 4), .inl ((k 2), 256, .inl σ.1.2.2.1)), ((a 5), .inl ((k 3), 2, .inr (.inl σ.1.2.2.2.2))), ((a 6), .inr (4, [.int id, .ref (a 7), .ref (a 8), .int σ.2.2.1, .int σ.2.2.2.1, .int σ.2.2.2.2.1])), ((a 7), .inl ((k 4), 32, .inl σ.2.1))]) (W2 := fun _ => wH a k n id σ) (xV (rest := []) ⟨hx, hb, hml, hown, hts⟩ (c_Csrs_dataLevel (a 8) σ.2.2.2.1 σ.2.2.2.2.2) mw_Csrs_dataLevel mv_Csrs_dataLevel k_268 ⟨rfl, rfl, Nat.le_of_ble_eq_true rfl, Nat.le_of_ble_eq_true rfl⟩ hK hP hD hS hA hF [8] [] rfl rfl rfl 8 3 rfl rfl rfl rfl hl.1 rfl (Nat.le_of_ble_eq_true rfl) d_Hart_locate_38 ⟨Nat.zero_le _, Nat.zero_le _⟩) hP hD hS hA [8] [0, 1, 2, 3, 4, 5, 6, 7] [0, 1, 2, 3, 4, 5, 6, 7, 8] rfl rfl rfl (by decide) (fun _ => rfl) rfl (fun r_3 _ H locs h_3 hP hD hS => ?_)
      subst h_3
      refine lv_istore (lv' := [(5, .int (sp_Csrs_dataLevel σ.2.2.2.1 σ.2.2.2.2.2)), (0, .ref (a 6)), (1, .int x0), (2, .int x1), (3, .ref (g (i + 1))), (4, .ref (a 0))]) hx hb d_Hart_locate_41 hl (by decide) rfl (fun ls hl => ?_)
      refine lv_iload_n hx hb d_Hart_locate_43 rfl (lv_at hl 2 rfl) ?_
      refine lv_i2l hx hb d_Hart_locate_44 rfl ?_
      refine lv_ldc2 (v := 4294967295) hx hb hown (hts _ k_277) d_Hart_locate_45 ?_
      refine lv_land hx hb d_Hart_locate_48 ?_
      refine lv_lstore (lv' := [(6, .long (x0.toInt64 &&& 4294967295)), (5, .int (sp_Csrs_dataLevel σ.2.2.2.1 σ.2.2.2.2.2)), (0, .ref (a 6)), (1, .int x0), (2, .int x1), (3, .ref (g (i + 1))), (4, .ref (a 0))]) hx hb d_Hart_locate_49 hl (by decide) rfl (fun ls hl => ?_)
      refine lv_iload hx hb d_Hart_locate_51 (lv_at hl 1 rfl) ?_
      refine lv_iconst (v := 3) hx hb d_Hart_locate_53 rfl ?_
      refine lv_icmp_ge (tgt := 82) hx hb d_Hart_locate_54 (by decide) (fun c_4 => ?_) (fun c_4 => ?_)
      · refine lv_lload hx hb d_Hart_locate_82 (lv_at hl 0 rfl) ?_
        refine lv_lconst (v := 0) hx hb d_Hart_locate_84 rfl ?_
        refine W.lcmp hx hb d_Hart_locate_85 ?_
        refine lv_if_lt (tgt := 101) hx hb d_Hart_locate_86 (by decide) (fun b_5 => ?_) (fun b_5 => ?_)
        · have c_5 : (x0.toInt64 &&& 4294967295) < 0 := (lg_cmp_lt _ _).mp b_5
          refine lv_lload hx hb d_Hart_locate_101 (lv_at hl 0 rfl) ?_
          exact rl () hx hb hr hlocks hP hD hS d_Hart_locate_103 (by simp only [sp_Hart_locate, if_pos c_1, if_neg c_2, if_pos c_4, if_pos c_5])
        · have c_5 : ¬ (x0.toInt64 &&& 4294967295) < 0 := fun h9 => b_5 ((lg_cmp_lt _ _).mpr h9)
          refine lv_aload hx hb d_Hart_locate_89 (lv_at hl 6 rfl) ?_
          refine lv_lload hx hb d_Hart_locate_91 (lv_at hl 0 rfl) ?_
          refine lv_iload_n hx hb d_Hart_locate_93 rfl (lv_at hl 4 rfl) ?_
          refine lv_aload_n hx hb d_Hart_locate_94 rfl (lv_at hl 5 rfl) ?_
          refine xi (wr := [((a 6), .inr (4, [.int id, .ref (a 7), .ref (a 8), .int σ.2.2.1, .int σ.2.2.2.1, .int σ.2.2.2.2.1])), ((a 7), .inl ((k 4), 32, .inl σ.2.1)), ((a 8), .inr (3, csF σ.2.2.2.2.2))]) (W2 := fun _ => wH a k n id σ) (xV (rest := []) ⟨hx, hb, hml, hown, hts⟩ (c_Memory_allows a k n (x0.toInt64 &&& 4294967295) x1 i σ.1 hn hi) mw_Memory_allows mv_Memory_allows k_318 ⟨rfl, rfl, Nat.le_of_ble_eq_true rfl, Nat.le_of_ble_eq_true rfl⟩ hK hP hD hS hA hF [0, 1, 2, 3, 4, 5] [0, 1, 2, 3] rfl rfl rfl 0 1 rfl rfl rfl rfl hl.1 rfl (Nat.le_of_ble_eq_true rfl) d_Hart_locate_95 ⟨Nat.zero_le _, Nat.zero_le _⟩) hP hD hS hA [0, 1, 2, 3, 4, 5] [6, 7, 8] [3, 4, 5, 6, 7, 8, 0, 1, 2] rfl rfl rfl (by decide) (fun _ => rfl) rfl (fun r_6 _ H locs h_6 hP hD hS => ?_)
          obtain ⟨h_6, z_6⟩ := h_6
          subst h_6
          refine lv_if_eq (tgt := 104) hx hb d_Hart_locate_98 (by decide) (fun c_7 => ?_) (fun c_7 => ?_)
          · refine lv_aload_n hx hb d_Hart_locate_104 rfl (lv_at hl 5 rfl) ?_
            refine va_getE (E := R_Access) (nm := nmA) (F := FlA) (ad := fun i => g (i + 1)) (i := i) (q := q_accessFault) hx hb hF.2.1 hi hS hown (List.mem_of_getElem? (i := 1) rfl) (hts _ k_944) (fun _ h9 => h9) d_Hart_locate_105 ?_
            refine W.eq (g2 := F0 m 108 ls [.int (aF_accessFault.getD i 0)]) rfl ?_
            refine xl (wr := [((a 0), .inr (1, [.ref (a 3), .ref (a 1), .ref (a 4), .int σ.1.2.2.2.1, .ref (a 5)])), ((a 1), .inr (2, [.ref (a 2)])), ((a 2), .inl ((k 0), 8, .inl σ.1.1)), ((a 3), .inl ((k 1), n, .inl σ.1.2.1)), ((a 4), .inl ((k 2), 256, .inl σ.1.2.2.1)), ((a 5), .inl ((k 3), 2, .inr (.inl σ.1.2.2.2.2))), ((a 6), .inr (4, [.int id, .ref (a 7), .ref (a 8), .int σ.2.2.1, .int σ.2.2.2.1, .int σ.2.2.2.2.1])), ((a 7), .inl ((k 4), 32, .inl σ.2.1)), ((a 8), .inr (3, csF σ.2.2.2.2.2))]) (W2 := fun _ => wH a k n id σ) (xS (rest := []) ⟨hx, hb, hml, hown, hts⟩ (c_Fault_of (aF_accessFault.getD i 0)) mw_Fault_of ms_Fault_of k_264 ⟨rfl, rfl, Nat.le_of_ble_eq_true rfl, Nat.le_of_ble_eq_true rfl⟩ hK hP hD hS hA hF [] [] rfl rfl rfl rfl hl.1 rfl (Nat.le_of_ble_eq_true rfl) d_Hart_locate_108 ⟨Nat.zero_le _, Nat.zero_le _⟩) hP hD hS hA [] [0, 1, 2, 3, 4, 5, 6, 7, 8] [0, 1, 2, 3, 4, 5, 6, 7, 8] rfl rfl rfl (by decide) (fun _ => rfl) rfl (fun r_8 _ H locs h_8 hP hD hS => ?_)
            subst h_8
            exact rl () hx hb hr hlocks hP hD hS d_Hart_locate_111 (by simp only [sp_Hart_locate, if_pos c_1, if_neg c_2, if_pos c_4, if_neg c_5, if_pos c_7])
          · refine lv_lload hx hb d_Hart_locate_101 (lv_at hl 0 rfl) ?_
            exact rl () hx hb hr hlocks hP hD hS d_Hart_locate_103 (by simp only [sp_Hart_locate, if_pos c_1, if_neg c_2, if_pos c_4, if_neg c_5, if_neg c_7])
      · refine lv_aload_n hx hb d_Hart_locate_57 rfl (lv_at hl 2 rfl) ?_
        refine va_get (D := D) (ci := 4) (v := .ref (a 8)) (C := R_Hart) (T := F_Hart) (N := 6) hx hb hts i_Hart hown hK hP 6 rfl rfl 2 (by decide) (hts _ k_146) (fun _ h9 => h9) rfl d_Hart_locate_58 ?_
        refine xi (wr := [((a 0), .inr (1, [.ref (a 3), .ref (a 1), .ref (a 4), .int σ.1.2.2.2.1, .ref (a 5)])), ((a 1), .inr (2, [.ref (a 2)])), ((a 2), .inl ((k 0), 8, .inl σ.1.1)), ((a 3), .inl ((k 1), n, .inl σ.1.2.1)), ((a 4), .inl ((k 2), 256, .inl σ.1.2.2.1)), ((a 5), .inl ((k 3), 2, .inr (.inl σ.1.2.2.2.2))), ((a 6), .inr (4, [.int id, .ref (a 7), .ref (a 8), .int σ.2.2.1, .int σ.2.2.2.1, .int σ.2.2.2.2.1])), ((a 7), .inl ((k 4), 32, .inl σ.2.1))]) (W2 := fun _ => wH a k n id σ) (xV (rest := []) ⟨hx, hb, hml, hown, hts⟩ (c_Csrs_hasPages (a 8) σ.2.2.2.2.2) mw_Csrs_hasPages mv_Csrs_hasPages k_278 ⟨rfl, rfl, Nat.le_of_ble_eq_true rfl, Nat.le_of_ble_eq_true rfl⟩ hK hP hD hS hA hF [8] [] rfl rfl rfl 8 3 rfl rfl rfl rfl hl.1 rfl (Nat.le_of_ble_eq_true rfl) d_Hart_locate_61 ⟨Nat.zero_le _, Nat.zero_le _⟩) hP hD hS hA [8] [0, 1, 2, 3, 4, 5, 6, 7] [0, 1, 2, 3, 4, 5, 6, 7, 8] rfl rfl rfl (by decide) (fun _ => rfl) rfl (fun r_9 _ H locs h_9 hP hD hS => ?_)
        obtain ⟨h_9, z_9⟩ := h_9
        subst h_9
        refine lv_if_eq (tgt := 82) hx hb d_Hart_locate_64 (by decide) (fun c_10 => ?_) (fun c_10 => ?_)
        · refine lv_lload hx hb d_Hart_locate_82 (lv_at hl 0 rfl) ?_
          refine lv_lconst (v := 0) hx hb d_Hart_locate_84 rfl ?_
          refine W.lcmp hx hb d_Hart_locate_85 ?_
          refine lv_if_lt (tgt := 101) hx hb d_Hart_locate_86 (by decide) (fun b_11 => ?_) (fun b_11 => ?_)
          · have c_11 : (x0.toInt64 &&& 4294967295) < 0 := (lg_cmp_lt _ _).mp b_11
            refine lv_lload hx hb d_Hart_locate_101 (lv_at hl 0 rfl) ?_
            exact rl () hx hb hr hlocks hP hD hS d_Hart_locate_103 (by simp only [sp_Hart_locate, if_pos c_1, if_neg c_2, if_neg c_4, if_pos c_10, if_pos c_11])
          · have c_11 : ¬ (x0.toInt64 &&& 4294967295) < 0 := fun h9 => b_11 ((lg_cmp_lt _ _).mpr h9)
            refine lv_aload hx hb d_Hart_locate_89 (lv_at hl 6 rfl) ?_
            refine lv_lload hx hb d_Hart_locate_91 (lv_at hl 0 rfl) ?_
            refine lv_iload_n hx hb d_Hart_locate_93 rfl (lv_at hl 4 rfl) ?_
            refine lv_aload_n hx hb d_Hart_locate_94 rfl (lv_at hl 5 rfl) ?_
            refine xi (wr := [((a 6), .inr (4, [.int id, .ref (a 7), .ref (a 8), .int σ.2.2.1, .int σ.2.2.2.1, .int σ.2.2.2.2.1])), ((a 7), .inl ((k 4), 32, .inl σ.2.1)), ((a 8), .inr (3, csF σ.2.2.2.2.2))]) (W2 := fun _ => wH a k n id σ) (xV (rest := []) ⟨hx, hb, hml, hown, hts⟩ (c_Memory_allows a k n (x0.toInt64 &&& 4294967295) x1 i σ.1 hn hi) mw_Memory_allows mv_Memory_allows k_318 ⟨rfl, rfl, Nat.le_of_ble_eq_true rfl, Nat.le_of_ble_eq_true rfl⟩ hK hP hD hS hA hF [0, 1, 2, 3, 4, 5] [0, 1, 2, 3] rfl rfl rfl 0 1 rfl rfl rfl rfl hl.1 rfl (Nat.le_of_ble_eq_true rfl) d_Hart_locate_95 ⟨Nat.zero_le _, Nat.zero_le _⟩) hP hD hS hA [0, 1, 2, 3, 4, 5] [6, 7, 8] [3, 4, 5, 6, 7, 8, 0, 1, 2] rfl rfl rfl (by decide) (fun _ => rfl) rfl (fun r_12 _ H locs h_12 hP hD hS => ?_)
            obtain ⟨h_12, z_12⟩ := h_12
            subst h_12
            refine lv_if_eq (tgt := 104) hx hb d_Hart_locate_98 (by decide) (fun c_13 => ?_) (fun c_13 => ?_)
            · refine lv_aload_n hx hb d_Hart_locate_104 rfl (lv_at hl 5 rfl) ?_
              refine va_getE (E := R_Access) (nm := nmA) (F := FlA) (ad := fun i => g (i + 1)) (i := i) (q := q_accessFault) hx hb hF.2.1 hi hS hown (List.mem_of_getElem? (i := 1) rfl) (hts _ k_944) (fun _ h9 => h9) d_Hart_locate_105 ?_
              refine W.eq (g2 := F0 m 108 ls [.int (aF_accessFault.getD i 0)]) rfl ?_
              refine xl (wr := [((a 0), .inr (1, [.ref (a 3), .ref (a 1), .ref (a 4), .int σ.1.2.2.2.1, .ref (a 5)])), ((a 1), .inr (2, [.ref (a 2)])), ((a 2), .inl ((k 0), 8, .inl σ.1.1)), ((a 3), .inl ((k 1), n, .inl σ.1.2.1)), ((a 4), .inl ((k 2), 256, .inl σ.1.2.2.1)), ((a 5), .inl ((k 3), 2, .inr (.inl σ.1.2.2.2.2))), ((a 6), .inr (4, [.int id, .ref (a 7), .ref (a 8), .int σ.2.2.1, .int σ.2.2.2.1, .int σ.2.2.2.2.1])), ((a 7), .inl ((k 4), 32, .inl σ.2.1)), ((a 8), .inr (3, csF σ.2.2.2.2.2))]) (W2 := fun _ => wH a k n id σ) (xS (rest := []) ⟨hx, hb, hml, hown, hts⟩ (c_Fault_of (aF_accessFault.getD i 0)) mw_Fault_of ms_Fault_of k_264 ⟨rfl, rfl, Nat.le_of_ble_eq_true rfl, Nat.le_of_ble_eq_true rfl⟩ hK hP hD hS hA hF [] [] rfl rfl rfl rfl hl.1 rfl (Nat.le_of_ble_eq_true rfl) d_Hart_locate_108 ⟨Nat.zero_le _, Nat.zero_le _⟩) hP hD hS hA [] [0, 1, 2, 3, 4, 5, 6, 7, 8] [0, 1, 2, 3, 4, 5, 6, 7, 8] rfl rfl rfl (by decide) (fun _ => rfl) rfl (fun r_14 _ H locs h_14 hP hD hS => ?_)
              subst h_14
              exact rl () hx hb hr hlocks hP hD hS d_Hart_locate_111 (by simp only [sp_Hart_locate, if_pos c_1, if_neg c_2, if_neg c_4, if_pos c_10, if_neg c_11, if_pos c_13])
            · refine lv_lload hx hb d_Hart_locate_101 (lv_at hl 0 rfl) ?_
              exact rl () hx hb hr hlocks hP hD hS d_Hart_locate_103 (by simp only [sp_Hart_locate, if_pos c_1, if_neg c_2, if_neg c_4, if_pos c_10, if_neg c_11, if_neg c_13])
        · refine lv_iload_n hx hb d_Hart_locate_67 rfl (lv_at hl 3 rfl) ?_
          refine lv_aload_n hx hb d_Hart_locate_68 rfl (lv_at hl 5 rfl) ?_
          refine lv_iload hx hb d_Hart_locate_69 (lv_at hl 1 rfl) ?_
          refine lv_aload_n hx hb d_Hart_locate_71 rfl (lv_at hl 2 rfl) ?_
          refine va_get (D := D) (ci := 4) (v := .ref (a 8)) (C := R_Hart) (T := F_Hart) (N := 6) hx hb hts i_Hart hown hK hP 6 rfl rfl 2 (by decide) (hts _ k_146) (fun _ h9 => h9) rfl d_Hart_locate_72 ?_
          refine lv_aload hx hb d_Hart_locate_75 (lv_at hl 6 rfl) ?_
          refine xl (wr := []) (W2 := fun _ => wH a k n id σ) (xS (rest := []) ⟨hx, hb, hml, hown, hts⟩ (c_Pages_placeOf a k n id x0 i (sp_Csrs_dataLevel σ.2.2.2.1 σ.2.2.2.2.2) σ hn hid hi) mw_Pages_placeOf ms_Pages_placeOf k_282 ⟨rfl, rfl, Nat.le_of_ble_eq_true rfl, Nat.le_of_ble_eq_true rfl⟩ hK hP hD hS hA hF [0, 1, 2, 3, 4, 5, 6, 7, 8] [0, 1, 2, 3, 4] rfl rfl rfl rfl hl.1 rfl (Nat.le_of_ble_eq_true rfl) d_Hart_locate_77 ⟨Nat.zero_le _, Nat.zero_le _⟩) hP hD hS hA [0, 1, 2, 3, 4, 5, 6, 7, 8] [] [0, 1, 2, 3, 4, 5, 6, 7, 8] rfl rfl rfl (by decide) (fun _ => rfl) rfl (fun r_15 _ H locs h_15 hP hD hS => ?_)
          subst h_15
          refine lv_lstore (lv' := [(6, .long (sp_Pages_placeOf n id x0 i (sp_Csrs_dataLevel σ.2.2.2.1 σ.2.2.2.2.2) σ)), (5, .int (sp_Csrs_dataLevel σ.2.2.2.1 σ.2.2.2.2.2)), (0, .ref (a 6)), (1, .int x0), (2, .int x1), (3, .ref (g (i + 1))), (4, .ref (a 0))]) hx hb d_Hart_locate_80 hl (by decide) rfl (fun ls hl => ?_)
          refine lv_lload hx hb d_Hart_locate_82 (lv_at hl 0 rfl) ?_
          refine lv_lconst (v := 0) hx hb d_Hart_locate_84 rfl ?_
          refine W.lcmp hx hb d_Hart_locate_85 ?_
          refine lv_if_lt (tgt := 101) hx hb d_Hart_locate_86 (by decide) (fun b_16 => ?_) (fun b_16 => ?_)
          · have c_16 : (sp_Pages_placeOf n id x0 i (sp_Csrs_dataLevel σ.2.2.2.1 σ.2.2.2.2.2) σ) < 0 := (lg_cmp_lt _ _).mp b_16
            refine lv_lload hx hb d_Hart_locate_101 (lv_at hl 0 rfl) ?_
            exact rl () hx hb hr hlocks hP hD hS d_Hart_locate_103 (by simp only [sp_Hart_locate, if_pos c_1, if_neg c_2, if_neg c_4, if_neg c_10, if_pos c_16])
          · have c_16 : ¬ (sp_Pages_placeOf n id x0 i (sp_Csrs_dataLevel σ.2.2.2.1 σ.2.2.2.2.2) σ) < 0 := fun h9 => b_16 ((lg_cmp_lt _ _).mpr h9)
            refine lv_aload hx hb d_Hart_locate_89 (lv_at hl 6 rfl) ?_
            refine lv_lload hx hb d_Hart_locate_91 (lv_at hl 0 rfl) ?_
            refine lv_iload_n hx hb d_Hart_locate_93 rfl (lv_at hl 4 rfl) ?_
            refine lv_aload_n hx hb d_Hart_locate_94 rfl (lv_at hl 5 rfl) ?_
            refine xi (wr := [((a 6), .inr (4, [.int id, .ref (a 7), .ref (a 8), .int σ.2.2.1, .int σ.2.2.2.1, .int σ.2.2.2.2.1])), ((a 7), .inl ((k 4), 32, .inl σ.2.1)), ((a 8), .inr (3, csF σ.2.2.2.2.2))]) (W2 := fun _ => wH a k n id σ) (xV (rest := []) ⟨hx, hb, hml, hown, hts⟩ (c_Memory_allows a k n (sp_Pages_placeOf n id x0 i (sp_Csrs_dataLevel σ.2.2.2.1 σ.2.2.2.2.2) σ) x1 i σ.1 hn hi) mw_Memory_allows mv_Memory_allows k_318 ⟨rfl, rfl, Nat.le_of_ble_eq_true rfl, Nat.le_of_ble_eq_true rfl⟩ hK hP hD hS hA hF [0, 1, 2, 3, 4, 5] [0, 1, 2, 3] rfl rfl rfl 0 1 rfl rfl rfl rfl hl.1 rfl (Nat.le_of_ble_eq_true rfl) d_Hart_locate_95 ⟨Nat.zero_le _, Nat.zero_le _⟩) hP hD hS hA [0, 1, 2, 3, 4, 5] [6, 7, 8] [3, 4, 5, 6, 7, 8, 0, 1, 2] rfl rfl rfl (by decide) (fun _ => rfl) rfl (fun r_17 _ H locs h_17 hP hD hS => ?_)
            obtain ⟨h_17, z_17⟩ := h_17
            subst h_17
            refine lv_if_eq (tgt := 104) hx hb d_Hart_locate_98 (by decide) (fun c_18 => ?_) (fun c_18 => ?_)
            · refine lv_aload_n hx hb d_Hart_locate_104 rfl (lv_at hl 5 rfl) ?_
              refine va_getE (E := R_Access) (nm := nmA) (F := FlA) (ad := fun i => g (i + 1)) (i := i) (q := q_accessFault) hx hb hF.2.1 hi hS hown (List.mem_of_getElem? (i := 1) rfl) (hts _ k_944) (fun _ h9 => h9) d_Hart_locate_105 ?_
              refine W.eq (g2 := F0 m 108 ls [.int (aF_accessFault.getD i 0)]) rfl ?_
              refine xl (wr := [((a 0), .inr (1, [.ref (a 3), .ref (a 1), .ref (a 4), .int σ.1.2.2.2.1, .ref (a 5)])), ((a 1), .inr (2, [.ref (a 2)])), ((a 2), .inl ((k 0), 8, .inl σ.1.1)), ((a 3), .inl ((k 1), n, .inl σ.1.2.1)), ((a 4), .inl ((k 2), 256, .inl σ.1.2.2.1)), ((a 5), .inl ((k 3), 2, .inr (.inl σ.1.2.2.2.2))), ((a 6), .inr (4, [.int id, .ref (a 7), .ref (a 8), .int σ.2.2.1, .int σ.2.2.2.1, .int σ.2.2.2.2.1])), ((a 7), .inl ((k 4), 32, .inl σ.2.1)), ((a 8), .inr (3, csF σ.2.2.2.2.2))]) (W2 := fun _ => wH a k n id σ) (xS (rest := []) ⟨hx, hb, hml, hown, hts⟩ (c_Fault_of (aF_accessFault.getD i 0)) mw_Fault_of ms_Fault_of k_264 ⟨rfl, rfl, Nat.le_of_ble_eq_true rfl, Nat.le_of_ble_eq_true rfl⟩ hK hP hD hS hA hF [] [] rfl rfl rfl rfl hl.1 rfl (Nat.le_of_ble_eq_true rfl) d_Hart_locate_108 ⟨Nat.zero_le _, Nat.zero_le _⟩) hP hD hS hA [] [0, 1, 2, 3, 4, 5, 6, 7, 8] [0, 1, 2, 3, 4, 5, 6, 7, 8] rfl rfl rfl (by decide) (fun _ => rfl) rfl (fun r_19 _ H locs h_19 hP hD hS => ?_)
              subst h_19
              exact rl () hx hb hr hlocks hP hD hS d_Hart_locate_111 (by simp only [sp_Hart_locate, if_pos c_1, if_neg c_2, if_neg c_4, if_neg c_10, if_neg c_16, if_pos c_18])
            · refine lv_lload hx hb d_Hart_locate_101 (lv_at hl 0 rfl) ?_
              exact rl () hx hb hr hlocks hP hD hS d_Hart_locate_103 (by simp only [sp_Hart_locate, if_pos c_1, if_neg c_2, if_neg c_4, if_neg c_10, if_neg c_16, if_neg c_18])
    · have c_2 : i = 0 := hF.2.1.2 _ _ hi (by decide) (Option.some.inj b_2)
      refine lv_aload_n hx hb d_Hart_locate_23 rfl (lv_at hl 0 rfl) ?_
      refine va_get (D := D) (ci := 4) (v := .int σ.2.2.2.1) (C := R_Hart) (T := F_Hart) (N := 6) hx hb hts i_Hart hown hK hP 6 rfl rfl 4 (by decide) (hts _ k_150) (fun _ h9 => h9) rfl d_Hart_locate_24 ?_
      refine lv_goto (tgt := 41) hx hb d_Hart_locate_27 (by decide) ?_
      refine lv_istore (lv' := [(5, .int σ.2.2.2.1), (0, .ref (a 6)), (1, .int x0), (2, .int x1), (3, .ref (g (i + 1))), (4, .ref (a 0))]) hx hb d_Hart_locate_41 hl (by decide) rfl (fun ls hl => ?_)
      refine lv_iload_n hx hb d_Hart_locate_43 rfl (lv_at hl 2 rfl) ?_
      refine lv_i2l hx hb d_Hart_locate_44 rfl ?_
      refine lv_ldc2 (v := 4294967295) hx hb hown (hts _ k_277) d_Hart_locate_45 ?_
      refine lv_land hx hb d_Hart_locate_48 ?_
      refine lv_lstore (lv' := [(6, .long (x0.toInt64 &&& 4294967295)), (5, .int σ.2.2.2.1), (0, .ref (a 6)), (1, .int x0), (2, .int x1), (3, .ref (g (i + 1))), (4, .ref (a 0))]) hx hb d_Hart_locate_49 hl (by decide) rfl (fun ls hl => ?_)
      refine lv_iload hx hb d_Hart_locate_51 (lv_at hl 1 rfl) ?_
      refine lv_iconst (v := 3) hx hb d_Hart_locate_53 rfl ?_
      refine lv_icmp_ge (tgt := 82) hx hb d_Hart_locate_54 (by decide) (fun c_20 => ?_) (fun c_20 => ?_)
      · refine lv_lload hx hb d_Hart_locate_82 (lv_at hl 0 rfl) ?_
        refine lv_lconst (v := 0) hx hb d_Hart_locate_84 rfl ?_
        refine W.lcmp hx hb d_Hart_locate_85 ?_
        refine lv_if_lt (tgt := 101) hx hb d_Hart_locate_86 (by decide) (fun b_21 => ?_) (fun b_21 => ?_)
        · have c_21 : (x0.toInt64 &&& 4294967295) < 0 := (lg_cmp_lt _ _).mp b_21
          refine lv_lload hx hb d_Hart_locate_101 (lv_at hl 0 rfl) ?_
          exact rl () hx hb hr hlocks hP hD hS d_Hart_locate_103 (by simp only [sp_Hart_locate, if_pos c_1, if_pos c_2, if_pos c_20, if_pos c_21])
        · have c_21 : ¬ (x0.toInt64 &&& 4294967295) < 0 := fun h9 => b_21 ((lg_cmp_lt _ _).mpr h9)
          refine lv_aload hx hb d_Hart_locate_89 (lv_at hl 6 rfl) ?_
          refine lv_lload hx hb d_Hart_locate_91 (lv_at hl 0 rfl) ?_
          refine lv_iload_n hx hb d_Hart_locate_93 rfl (lv_at hl 4 rfl) ?_
          refine lv_aload_n hx hb d_Hart_locate_94 rfl (lv_at hl 5 rfl) ?_
          refine xi (wr := [((a 6), .inr (4, [.int id, .ref (a 7), .ref (a 8), .int σ.2.2.1, .int σ.2.2.2.1, .int σ.2.2.2.2.1])), ((a 7), .inl ((k 4), 32, .inl σ.2.1)), ((a 8), .inr (3, csF σ.2.2.2.2.2))]) (W2 := fun _ => wH a k n id σ) (xV (rest := []) ⟨hx, hb, hml, hown, hts⟩ (c_Memory_allows a k n (x0.toInt64 &&& 4294967295) x1 i σ.1 hn hi) mw_Memory_allows mv_Memory_allows k_318 ⟨rfl, rfl, Nat.le_of_ble_eq_true rfl, Nat.le_of_ble_eq_true rfl⟩ hK hP hD hS hA hF [0, 1, 2, 3, 4, 5] [0, 1, 2, 3] rfl rfl rfl 0 1 rfl rfl rfl rfl hl.1 rfl (Nat.le_of_ble_eq_true rfl) d_Hart_locate_95 ⟨Nat.zero_le _, Nat.zero_le _⟩) hP hD hS hA [0, 1, 2, 3, 4, 5] [6, 7, 8] [3, 4, 5, 6, 7, 8, 0, 1, 2] rfl rfl rfl (by decide) (fun _ => rfl) rfl (fun r_22 _ H locs h_22 hP hD hS => ?_)
          obtain ⟨h_22, z_22⟩ := h_22
          subst h_22
          refine lv_if_eq (tgt := 104) hx hb d_Hart_locate_98 (by decide) (fun c_23 => ?_) (fun c_23 => ?_)
          · refine lv_aload_n hx hb d_Hart_locate_104 rfl (lv_at hl 5 rfl) ?_
            refine va_getE (E := R_Access) (nm := nmA) (F := FlA) (ad := fun i => g (i + 1)) (i := i) (q := q_accessFault) hx hb hF.2.1 hi hS hown (List.mem_of_getElem? (i := 1) rfl) (hts _ k_944) (fun _ h9 => h9) d_Hart_locate_105 ?_
            refine W.eq (g2 := F0 m 108 ls [.int (aF_accessFault.getD i 0)]) rfl ?_
            refine xl (wr := [((a 0), .inr (1, [.ref (a 3), .ref (a 1), .ref (a 4), .int σ.1.2.2.2.1, .ref (a 5)])), ((a 1), .inr (2, [.ref (a 2)])), ((a 2), .inl ((k 0), 8, .inl σ.1.1)), ((a 3), .inl ((k 1), n, .inl σ.1.2.1)), ((a 4), .inl ((k 2), 256, .inl σ.1.2.2.1)), ((a 5), .inl ((k 3), 2, .inr (.inl σ.1.2.2.2.2))), ((a 6), .inr (4, [.int id, .ref (a 7), .ref (a 8), .int σ.2.2.1, .int σ.2.2.2.1, .int σ.2.2.2.2.1])), ((a 7), .inl ((k 4), 32, .inl σ.2.1)), ((a 8), .inr (3, csF σ.2.2.2.2.2))]) (W2 := fun _ => wH a k n id σ) (xS (rest := []) ⟨hx, hb, hml, hown, hts⟩ (c_Fault_of (aF_accessFault.getD i 0)) mw_Fault_of ms_Fault_of k_264 ⟨rfl, rfl, Nat.le_of_ble_eq_true rfl, Nat.le_of_ble_eq_true rfl⟩ hK hP hD hS hA hF [] [] rfl rfl rfl rfl hl.1 rfl (Nat.le_of_ble_eq_true rfl) d_Hart_locate_108 ⟨Nat.zero_le _, Nat.zero_le _⟩) hP hD hS hA [] [0, 1, 2, 3, 4, 5, 6, 7, 8] [0, 1, 2, 3, 4, 5, 6, 7, 8] rfl rfl rfl (by decide) (fun _ => rfl) rfl (fun r_24 _ H locs h_24 hP hD hS => ?_)
            subst h_24
            exact rl () hx hb hr hlocks hP hD hS d_Hart_locate_111 (by simp only [sp_Hart_locate, if_pos c_1, if_pos c_2, if_pos c_20, if_neg c_21, if_pos c_23])
          · refine lv_lload hx hb d_Hart_locate_101 (lv_at hl 0 rfl) ?_
            exact rl () hx hb hr hlocks hP hD hS d_Hart_locate_103 (by simp only [sp_Hart_locate, if_pos c_1, if_pos c_2, if_pos c_20, if_neg c_21, if_neg c_23])
      · refine lv_aload_n hx hb d_Hart_locate_57 rfl (lv_at hl 2 rfl) ?_
        refine va_get (D := D) (ci := 4) (v := .ref (a 8)) (C := R_Hart) (T := F_Hart) (N := 6) hx hb hts i_Hart hown hK hP 6 rfl rfl 2 (by decide) (hts _ k_146) (fun _ h9 => h9) rfl d_Hart_locate_58 ?_
        refine xi (wr := [((a 0), .inr (1, [.ref (a 3), .ref (a 1), .ref (a 4), .int σ.1.2.2.2.1, .ref (a 5)])), ((a 1), .inr (2, [.ref (a 2)])), ((a 2), .inl ((k 0), 8, .inl σ.1.1)), ((a 3), .inl ((k 1), n, .inl σ.1.2.1)), ((a 4), .inl ((k 2), 256, .inl σ.1.2.2.1)), ((a 5), .inl ((k 3), 2, .inr (.inl σ.1.2.2.2.2))), ((a 6), .inr (4, [.int id, .ref (a 7), .ref (a 8), .int σ.2.2.1, .int σ.2.2.2.1, .int σ.2.2.2.2.1])), ((a 7), .inl ((k 4), 32, .inl σ.2.1))]) (W2 := fun _ => wH a k n id σ) (xV (rest := []) ⟨hx, hb, hml, hown, hts⟩ (c_Csrs_hasPages (a 8) σ.2.2.2.2.2) mw_Csrs_hasPages mv_Csrs_hasPages k_278 ⟨rfl, rfl, Nat.le_of_ble_eq_true rfl, Nat.le_of_ble_eq_true rfl⟩ hK hP hD hS hA hF [8] [] rfl rfl rfl 8 3 rfl rfl rfl rfl hl.1 rfl (Nat.le_of_ble_eq_true rfl) d_Hart_locate_61 ⟨Nat.zero_le _, Nat.zero_le _⟩) hP hD hS hA [8] [0, 1, 2, 3, 4, 5, 6, 7] [0, 1, 2, 3, 4, 5, 6, 7, 8] rfl rfl rfl (by decide) (fun _ => rfl) rfl (fun r_25 _ H locs h_25 hP hD hS => ?_)
        obtain ⟨h_25, z_25⟩ := h_25
        subst h_25
        refine lv_if_eq (tgt := 82) hx hb d_Hart_locate_64 (by decide) (fun c_26 => ?_) (fun c_26 => ?_)
        · refine lv_lload hx hb d_Hart_locate_82 (lv_at hl 0 rfl) ?_
          refine lv_lconst (v := 0) hx hb d_Hart_locate_84 rfl ?_
          refine W.lcmp hx hb d_Hart_locate_85 ?_
          refine lv_if_lt (tgt := 101) hx hb d_Hart_locate_86 (by decide) (fun b_27 => ?_) (fun b_27 => ?_)
          · have c_27 : (x0.toInt64 &&& 4294967295) < 0 := (lg_cmp_lt _ _).mp b_27
            refine lv_lload hx hb d_Hart_locate_101 (lv_at hl 0 rfl) ?_
            exact rl () hx hb hr hlocks hP hD hS d_Hart_locate_103 (by simp only [sp_Hart_locate, if_pos c_1, if_pos c_2, if_neg c_20, if_pos c_26, if_pos c_27])
          · have c_27 : ¬ (x0.toInt64 &&& 4294967295) < 0 := fun h9 => b_27 ((lg_cmp_lt _ _).mpr h9)
            refine lv_aload hx hb d_Hart_locate_89 (lv_at hl 6 rfl) ?_
            refine lv_lload hx hb d_Hart_locate_91 (lv_at hl 0 rfl) ?_
            refine lv_iload_n hx hb d_Hart_locate_93 rfl (lv_at hl 4 rfl) ?_
            refine lv_aload_n hx hb d_Hart_locate_94 rfl (lv_at hl 5 rfl) ?_
            refine xi (wr := [((a 6), .inr (4, [.int id, .ref (a 7), .ref (a 8), .int σ.2.2.1, .int σ.2.2.2.1, .int σ.2.2.2.2.1])), ((a 7), .inl ((k 4), 32, .inl σ.2.1)), ((a 8), .inr (3, csF σ.2.2.2.2.2))]) (W2 := fun _ => wH a k n id σ) (xV (rest := []) ⟨hx, hb, hml, hown, hts⟩ (c_Memory_allows a k n (x0.toInt64 &&& 4294967295) x1 i σ.1 hn hi) mw_Memory_allows mv_Memory_allows k_318 ⟨rfl, rfl, Nat.le_of_ble_eq_true rfl, Nat.le_of_ble_eq_true rfl⟩ hK hP hD hS hA hF [0, 1, 2, 3, 4, 5] [0, 1, 2, 3] rfl rfl rfl 0 1 rfl rfl rfl rfl hl.1 rfl (Nat.le_of_ble_eq_true rfl) d_Hart_locate_95 ⟨Nat.zero_le _, Nat.zero_le _⟩) hP hD hS hA [0, 1, 2, 3, 4, 5] [6, 7, 8] [3, 4, 5, 6, 7, 8, 0, 1, 2] rfl rfl rfl (by decide) (fun _ => rfl) rfl (fun r_28 _ H locs h_28 hP hD hS => ?_)
            obtain ⟨h_28, z_28⟩ := h_28
            subst h_28
            refine lv_if_eq (tgt := 104) hx hb d_Hart_locate_98 (by decide) (fun c_29 => ?_) (fun c_29 => ?_)
            · refine lv_aload_n hx hb d_Hart_locate_104 rfl (lv_at hl 5 rfl) ?_
              refine va_getE (E := R_Access) (nm := nmA) (F := FlA) (ad := fun i => g (i + 1)) (i := i) (q := q_accessFault) hx hb hF.2.1 hi hS hown (List.mem_of_getElem? (i := 1) rfl) (hts _ k_944) (fun _ h9 => h9) d_Hart_locate_105 ?_
              refine W.eq (g2 := F0 m 108 ls [.int (aF_accessFault.getD i 0)]) rfl ?_
              refine xl (wr := [((a 0), .inr (1, [.ref (a 3), .ref (a 1), .ref (a 4), .int σ.1.2.2.2.1, .ref (a 5)])), ((a 1), .inr (2, [.ref (a 2)])), ((a 2), .inl ((k 0), 8, .inl σ.1.1)), ((a 3), .inl ((k 1), n, .inl σ.1.2.1)), ((a 4), .inl ((k 2), 256, .inl σ.1.2.2.1)), ((a 5), .inl ((k 3), 2, .inr (.inl σ.1.2.2.2.2))), ((a 6), .inr (4, [.int id, .ref (a 7), .ref (a 8), .int σ.2.2.1, .int σ.2.2.2.1, .int σ.2.2.2.2.1])), ((a 7), .inl ((k 4), 32, .inl σ.2.1)), ((a 8), .inr (3, csF σ.2.2.2.2.2))]) (W2 := fun _ => wH a k n id σ) (xS (rest := []) ⟨hx, hb, hml, hown, hts⟩ (c_Fault_of (aF_accessFault.getD i 0)) mw_Fault_of ms_Fault_of k_264 ⟨rfl, rfl, Nat.le_of_ble_eq_true rfl, Nat.le_of_ble_eq_true rfl⟩ hK hP hD hS hA hF [] [] rfl rfl rfl rfl hl.1 rfl (Nat.le_of_ble_eq_true rfl) d_Hart_locate_108 ⟨Nat.zero_le _, Nat.zero_le _⟩) hP hD hS hA [] [0, 1, 2, 3, 4, 5, 6, 7, 8] [0, 1, 2, 3, 4, 5, 6, 7, 8] rfl rfl rfl (by decide) (fun _ => rfl) rfl (fun r_30 _ H locs h_30 hP hD hS => ?_)
              subst h_30
              exact rl () hx hb hr hlocks hP hD hS d_Hart_locate_111 (by simp only [sp_Hart_locate, if_pos c_1, if_pos c_2, if_neg c_20, if_pos c_26, if_neg c_27, if_pos c_29])
            · refine lv_lload hx hb d_Hart_locate_101 (lv_at hl 0 rfl) ?_
              exact rl () hx hb hr hlocks hP hD hS d_Hart_locate_103 (by simp only [sp_Hart_locate, if_pos c_1, if_pos c_2, if_neg c_20, if_pos c_26, if_neg c_27, if_neg c_29])
        · refine lv_iload_n hx hb d_Hart_locate_67 rfl (lv_at hl 3 rfl) ?_
          refine lv_aload_n hx hb d_Hart_locate_68 rfl (lv_at hl 5 rfl) ?_
          refine lv_iload hx hb d_Hart_locate_69 (lv_at hl 1 rfl) ?_
          refine lv_aload_n hx hb d_Hart_locate_71 rfl (lv_at hl 2 rfl) ?_
          refine va_get (D := D) (ci := 4) (v := .ref (a 8)) (C := R_Hart) (T := F_Hart) (N := 6) hx hb hts i_Hart hown hK hP 6 rfl rfl 2 (by decide) (hts _ k_146) (fun _ h9 => h9) rfl d_Hart_locate_72 ?_
          refine lv_aload hx hb d_Hart_locate_75 (lv_at hl 6 rfl) ?_
          refine xl (wr := []) (W2 := fun _ => wH a k n id σ) (xS (rest := []) ⟨hx, hb, hml, hown, hts⟩ (c_Pages_placeOf a k n id x0 i σ.2.2.2.1 σ hn hid hi) mw_Pages_placeOf ms_Pages_placeOf k_282 ⟨rfl, rfl, Nat.le_of_ble_eq_true rfl, Nat.le_of_ble_eq_true rfl⟩ hK hP hD hS hA hF [0, 1, 2, 3, 4, 5, 6, 7, 8] [0, 1, 2, 3, 4] rfl rfl rfl rfl hl.1 rfl (Nat.le_of_ble_eq_true rfl) d_Hart_locate_77 ⟨Nat.zero_le _, Nat.zero_le _⟩) hP hD hS hA [0, 1, 2, 3, 4, 5, 6, 7, 8] [] [0, 1, 2, 3, 4, 5, 6, 7, 8] rfl rfl rfl (by decide) (fun _ => rfl) rfl (fun r_31 _ H locs h_31 hP hD hS => ?_)
          subst h_31
          refine lv_lstore (lv' := [(6, .long (sp_Pages_placeOf n id x0 i σ.2.2.2.1 σ)), (5, .int σ.2.2.2.1), (0, .ref (a 6)), (1, .int x0), (2, .int x1), (3, .ref (g (i + 1))), (4, .ref (a 0))]) hx hb d_Hart_locate_80 hl (by decide) rfl (fun ls hl => ?_)
          refine lv_lload hx hb d_Hart_locate_82 (lv_at hl 0 rfl) ?_
          refine lv_lconst (v := 0) hx hb d_Hart_locate_84 rfl ?_
          refine W.lcmp hx hb d_Hart_locate_85 ?_
          refine lv_if_lt (tgt := 101) hx hb d_Hart_locate_86 (by decide) (fun b_32 => ?_) (fun b_32 => ?_)
          · have c_32 : (sp_Pages_placeOf n id x0 i σ.2.2.2.1 σ) < 0 := (lg_cmp_lt _ _).mp b_32
            refine lv_lload hx hb d_Hart_locate_101 (lv_at hl 0 rfl) ?_
            exact rl () hx hb hr hlocks hP hD hS d_Hart_locate_103 (by simp only [sp_Hart_locate, if_pos c_1, if_pos c_2, if_neg c_20, if_neg c_26, if_pos c_32])
          · have c_32 : ¬ (sp_Pages_placeOf n id x0 i σ.2.2.2.1 σ) < 0 := fun h9 => b_32 ((lg_cmp_lt _ _).mpr h9)
            refine lv_aload hx hb d_Hart_locate_89 (lv_at hl 6 rfl) ?_
            refine lv_lload hx hb d_Hart_locate_91 (lv_at hl 0 rfl) ?_
            refine lv_iload_n hx hb d_Hart_locate_93 rfl (lv_at hl 4 rfl) ?_
            refine lv_aload_n hx hb d_Hart_locate_94 rfl (lv_at hl 5 rfl) ?_
            refine xi (wr := [((a 6), .inr (4, [.int id, .ref (a 7), .ref (a 8), .int σ.2.2.1, .int σ.2.2.2.1, .int σ.2.2.2.2.1])), ((a 7), .inl ((k 4), 32, .inl σ.2.1)), ((a 8), .inr (3, csF σ.2.2.2.2.2))]) (W2 := fun _ => wH a k n id σ) (xV (rest := []) ⟨hx, hb, hml, hown, hts⟩ (c_Memory_allows a k n (sp_Pages_placeOf n id x0 i σ.2.2.2.1 σ) x1 i σ.1 hn hi) mw_Memory_allows mv_Memory_allows k_318 ⟨rfl, rfl, Nat.le_of_ble_eq_true rfl, Nat.le_of_ble_eq_true rfl⟩ hK hP hD hS hA hF [0, 1, 2, 3, 4, 5] [0, 1, 2, 3] rfl rfl rfl 0 1 rfl rfl rfl rfl hl.1 rfl (Nat.le_of_ble_eq_true rfl) d_Hart_locate_95 ⟨Nat.zero_le _, Nat.zero_le _⟩) hP hD hS hA [0, 1, 2, 3, 4, 5] [6, 7, 8] [3, 4, 5, 6, 7, 8, 0, 1, 2] rfl rfl rfl (by decide) (fun _ => rfl) rfl (fun r_33 _ H locs h_33 hP hD hS => ?_)
            obtain ⟨h_33, z_33⟩ := h_33
            subst h_33
            refine lv_if_eq (tgt := 104) hx hb d_Hart_locate_98 (by decide) (fun c_34 => ?_) (fun c_34 => ?_)
            · refine lv_aload_n hx hb d_Hart_locate_104 rfl (lv_at hl 5 rfl) ?_
              refine va_getE (E := R_Access) (nm := nmA) (F := FlA) (ad := fun i => g (i + 1)) (i := i) (q := q_accessFault) hx hb hF.2.1 hi hS hown (List.mem_of_getElem? (i := 1) rfl) (hts _ k_944) (fun _ h9 => h9) d_Hart_locate_105 ?_
              refine W.eq (g2 := F0 m 108 ls [.int (aF_accessFault.getD i 0)]) rfl ?_
              refine xl (wr := [((a 0), .inr (1, [.ref (a 3), .ref (a 1), .ref (a 4), .int σ.1.2.2.2.1, .ref (a 5)])), ((a 1), .inr (2, [.ref (a 2)])), ((a 2), .inl ((k 0), 8, .inl σ.1.1)), ((a 3), .inl ((k 1), n, .inl σ.1.2.1)), ((a 4), .inl ((k 2), 256, .inl σ.1.2.2.1)), ((a 5), .inl ((k 3), 2, .inr (.inl σ.1.2.2.2.2))), ((a 6), .inr (4, [.int id, .ref (a 7), .ref (a 8), .int σ.2.2.1, .int σ.2.2.2.1, .int σ.2.2.2.2.1])), ((a 7), .inl ((k 4), 32, .inl σ.2.1)), ((a 8), .inr (3, csF σ.2.2.2.2.2))]) (W2 := fun _ => wH a k n id σ) (xS (rest := []) ⟨hx, hb, hml, hown, hts⟩ (c_Fault_of (aF_accessFault.getD i 0)) mw_Fault_of ms_Fault_of k_264 ⟨rfl, rfl, Nat.le_of_ble_eq_true rfl, Nat.le_of_ble_eq_true rfl⟩ hK hP hD hS hA hF [] [] rfl rfl rfl rfl hl.1 rfl (Nat.le_of_ble_eq_true rfl) d_Hart_locate_108 ⟨Nat.zero_le _, Nat.zero_le _⟩) hP hD hS hA [] [0, 1, 2, 3, 4, 5, 6, 7, 8] [0, 1, 2, 3, 4, 5, 6, 7, 8] rfl rfl rfl (by decide) (fun _ => rfl) rfl (fun r_35 _ H locs h_35 hP hD hS => ?_)
              subst h_35
              exact rl () hx hb hr hlocks hP hD hS d_Hart_locate_111 (by simp only [sp_Hart_locate, if_pos c_1, if_pos c_2, if_neg c_20, if_neg c_26, if_neg c_32, if_pos c_34])
            · refine lv_lload hx hb d_Hart_locate_101 (lv_at hl 0 rfl) ?_
              exact rl () hx hb hr hlocks hP hD hS d_Hart_locate_103 (by simp only [sp_Hart_locate, if_pos c_1, if_pos c_2, if_neg c_20, if_neg c_26, if_neg c_32, if_neg c_34])
  · refine lv_aload_n hx hb d_Hart_locate_8 rfl (lv_at hl 3 rfl) ?_
    refine va_getE (E := R_Access) (nm := nmA) (F := FlA) (ad := fun i => g (i + 1)) (i := i) (q := q_misaligned) hx hb hF.2.1 hi hS hown (List.mem_of_getElem? (i := 0) rfl) (hts _ k_938) (fun _ h9 => h9) d_Hart_locate_9 ?_
    refine W.eq (g2 := F0 m 12 ls [.int (aF_misaligned.getD i 0)]) rfl ?_
    refine xl (wr := [((a 0), .inr (1, [.ref (a 3), .ref (a 1), .ref (a 4), .int σ.1.2.2.2.1, .ref (a 5)])), ((a 1), .inr (2, [.ref (a 2)])), ((a 2), .inl ((k 0), 8, .inl σ.1.1)), ((a 3), .inl ((k 1), n, .inl σ.1.2.1)), ((a 4), .inl ((k 2), 256, .inl σ.1.2.2.1)), ((a 5), .inl ((k 3), 2, .inr (.inl σ.1.2.2.2.2))), ((a 6), .inr (4, [.int id, .ref (a 7), .ref (a 8), .int σ.2.2.1, .int σ.2.2.2.1, .int σ.2.2.2.2.1])), ((a 7), .inl ((k 4), 32, .inl σ.2.1)), ((a 8), .inr (3, csF σ.2.2.2.2.2))]) (W2 := fun _ => wH a k n id σ) (xS (rest := []) ⟨hx, hb, hml, hown, hts⟩ (c_Fault_of (aF_misaligned.getD i 0)) mw_Fault_of ms_Fault_of k_264 ⟨rfl, rfl, Nat.le_of_ble_eq_true rfl, Nat.le_of_ble_eq_true rfl⟩ hK hP hD hS hA hF [] [] rfl rfl rfl rfl hl.1 rfl (Nat.le_of_ble_eq_true rfl) d_Hart_locate_12 ⟨Nat.zero_le _, Nat.zero_le _⟩) hP hD hS hA [] [0, 1, 2, 3, 4, 5, 6, 7, 8] [0, 1, 2, 3, 4, 5, 6, 7, 8] rfl rfl rfl (by decide) (fun _ => rfl) rfl (fun r_36 _ H locs h_36 hP hD hS => ?_)
    subst h_36
    exact rl () hx hb hr hlocks hP hD hS d_Hart_locate_15 (by simp only [sp_Hart_locate, if_neg c_1])
theorem allows_ram {n : Nat} {p : Int64} {x1 : Int32} {M : TM} (h : ¬ sp_Memory_allows n p x1 0 M = 0) : ¬ sp_Memory_isRam n p M = 0 := by
  intro q
  apply h
  unfold sp_Memory_allows
  rw [if_pos q, if_neg (by decide)]
theorem fo_neg1 : sp_Fault_of (aF_accessFault.getD 0 0) < 0 := by decide
theorem fo_neg0 : sp_Fault_of (aF_misaligned.getD 0 0) < 0 := by decide
theorem fin_ram {n : Nat} {p : Int64} {M : TM} {x : Int64} (e : x = if p < 0 then p else if sp_Memory_allows n p 4 0 M = 0 then sp_Fault_of (aF_accessFault.getD 0 0) else p) : x < 0 ∨ ¬ sp_Memory_isRam n x M = 0 := by
  subst e
  by_cases h : p < 0
  · rw [if_pos h]
    exact Or.inl h
  · rw [if_neg h]
    by_cases h2 : sp_Memory_allows n p 4 0 M = 0
    · rw [if_pos h2]
      exact Or.inl fo_neg1
    · rw [if_neg h2]
      exact Or.inr (allows_ram h2)
theorem fetch_ram {n : Nat} {id pc : Int32} {σ : TH} : sp_Hart_locate n id pc 4 0 σ < 0 ∨ ¬ sp_Memory_isRam n (sp_Hart_locate n id pc 4 0 σ) σ.1 = 0 := by
  by_cases h1 : pc &&& (4 - 1) = 0
  · by_cases h2 : 3 ≤ σ.2.2.2.1
    · exact fin_ram (by rw [sp_Hart_locate, if_pos h1, if_pos (rfl : (0 : Nat) = 0), if_pos h2])
    · by_cases h3 : sp_Csrs_hasPages σ.2.2.2.2.2 = 0
      · exact fin_ram (by rw [sp_Hart_locate, if_pos h1, if_pos (rfl : (0 : Nat) = 0), if_neg h2, if_pos h3])
      · exact fin_ram (by rw [sp_Hart_locate, if_pos h1, if_pos (rfl : (0 : Nat) = 0), if_neg h2, if_neg h3])
  · left
    rw [sp_Hart_locate, if_neg h1]
    exact fo_neg0
theorem vp_fetch {n : Nat} {id pc : Int32} {σ : TH} (hn : n ≤ 4096) (h : 0 ≤ sp_Hart_locate n id pc 4 0 σ) : vp_in (sp_Memory_indexOf (sp_Hart_locate n id pc 4 0 σ)) n := by
  rcases fetch_ram (n := n) (id := id) (pc := pc) (σ := σ) with q | q
  · exact absurd h (Int64.not_le.mpr q)
  · exact vp_ram hn q
def sp_Hart_trap (n : Nat) (id : Int32) (x0 : Int32) (x1 : Int32) (σ : TH) : Int32 × TH :=
  (1 + x0, (σ.1, σ.2.1, σ.2.2.1, σ.2.2.2.1, x1, σ.2.2.2.2.2))
set_option maxHeartbeats 4000000 in
set_option maxRecDepth 100000 in
theorem c_Hart_trap {l : Launch} {D : va_G} {g : Nat → Nat} (a : Nat → Nat) (k : Nat → ClassId) (n : Nat) (id : Int32) (x0 : Int32) (x1 : Int32) (σ : TH) (hn : n ≤ 4096) (hid : id = 0 ∨ id = 1) : CT l D g y_Hart_trap b_Hart_trap 3 (some .int) (rD 0) [.ref (a 6), .int x0, .int x1] (wH a k n id σ) (tyH k) (Qi D (fun (r : Int32) (u : TH) => sp_Hart_trap n id x0 x1 σ = (r, u)) (fun u => wH a k n id u)) := by
  refine CT.of rfl (Nat.le_of_ble_eq_true rfl) (fun p e s m below meth c A ls hx hb hr hml hts hown hlocks hA hP hK hD hF hS hl => ?_)
  have hl : lv_has ls 3 [(0, .ref (a 6)), (1, .int x0), (2, .int x1)] := hl
  refine lv_aload_n hx hb d_Hart_trap_0 rfl (lv_at hl 0 rfl) ?_
  refine lv_iload_n hx hb d_Hart_trap_1 rfl (lv_at hl 2 rfl) ?_
  refine y_put (D := D) (ci := 4) (v := .int x1) (ty := .int) (C := R_Hart) (T := F_Hart) (N := 6) (ws' := wH a k n id (σ.1, σ.2.1, σ.2.2.1, σ.2.2.2.1, x1, σ.2.2.2.2.2)) hx hb hts i_Hart t_Hart t_Hart_ok n_Hart hown hK hP hD hS 6 rfl rfl 5 (by decide) (hts _ k_152) (fun _ h9 => h9) rfl (by decide +kernel) rfl rfl (Nat.le_of_ble_eq_true rfl) d_Hart_trap_2 rfl (fun H locs hP hD hS => ?_)
  refine lv_iconst (v := 1) hx hb d_Hart_trap_5 rfl ?_
  refine lv_iload_n hx hb d_Hart_trap_6 rfl (lv_at hl 1 rfl) ?_
  refine lv_iadd hx hb d_Hart_trap_7 ?_
  exact ri (σ.1, σ.2.1, σ.2.2.1, σ.2.2.2.1, x1, σ.2.2.2.2.2) hx hb hr hlocks hP hD hS d_Hart_trap_8 (by simp only [sp_Hart_trap])
def sp_Hart_fault (n : Nat) (id : Int32) (x0 : Int64) (x1 : Int32) (σ : TH) : Int32 × TH :=
  let r_2 := (sp_Hart_trap n id (sp_Fault_causeOf x0) x1 σ).1
  let u_2 := (sp_Hart_trap n id (sp_Fault_causeOf x0) x1 σ).2
  (r_2, u_2)
set_option maxHeartbeats 4000000 in
set_option maxRecDepth 100000 in
theorem c_Hart_fault {l : Launch} {D : va_G} {g : Nat → Nat} (a : Nat → Nat) (k : Nat → ClassId) (n : Nat) (id : Int32) (x0 : Int64) (x1 : Int32) (σ : TH) (hn : n ≤ 4096) (hid : id = 0 ∨ id = 1) : CT l D g y_Hart_fault b_Hart_fault 4 (some .int) (rD 1) [.ref (a 6), .long x0, .int x1] (wH a k n id σ) (tyH k) (Qi D (fun (r : Int32) (u : TH) => sp_Hart_fault n id x0 x1 σ = (r, u)) (fun u => wH a k n id u)) := by
  refine CT.of rfl (Nat.le_of_ble_eq_true rfl) (fun p e s m below meth c A ls hx hb hr hml hts hown hlocks hA hP hK hD hF hS hl => ?_)
  have hl : lv_has ls 4 [(0, .ref (a 6)), (1, .long x0), (3, .int x1)] := hl
  refine lv_aload_n hx hb d_Hart_fault_0 rfl (lv_at hl 0 rfl) ?_
  refine lv_lload_n hx hb d_Hart_fault_1 rfl (lv_at hl 1 rfl) ?_
  refine xi (wr := [((a 0), .inr (1, [.ref (a 3), .ref (a 1), .ref (a 4), .int σ.1.2.2.2.1, .ref (a 5)])), ((a 1), .inr (2, [.ref (a 2)])), ((a 2), .inl ((k 0), 8, .inl σ.1.1)), ((a 3), .inl ((k 1), n, .inl σ.1.2.1)), ((a 4), .inl ((k 2), 256, .inl σ.1.2.2.1)), ((a 5), .inl ((k 3), 2, .inr (.inl σ.1.2.2.2.2))), ((a 6), .inr (4, [.int id, .ref (a 7), .ref (a 8), .int σ.2.2.1, .int σ.2.2.2.1, .int σ.2.2.2.2.1])), ((a 7), .inl ((k 4), 32, .inl σ.2.1)), ((a 8), .inr (3, csF σ.2.2.2.2.2))]) (W2 := fun _ => wH a k n id σ) (xS (rest := [.ref (a 6)]) ⟨hx, hb, hml, hown, hts⟩ (c_Fault_causeOf x0) mw_Fault_causeOf ms_Fault_causeOf k_337 ⟨rfl, rfl, Nat.le_of_ble_eq_true rfl, Nat.le_of_ble_eq_true rfl⟩ hK hP hD hS hA hF [] [] rfl rfl rfl rfl hl.1 rfl (Nat.le_of_ble_eq_true rfl) d_Hart_fault_2 ⟨Nat.zero_le _, Nat.zero_le _⟩) hP hD hS hA [] [0, 1, 2, 3, 4, 5, 6, 7, 8] [0, 1, 2, 3, 4, 5, 6, 7, 8] rfl rfl rfl (by decide) (fun _ => rfl) rfl (fun r_1 _ H locs h_1 hP hD hS => ?_)
  subst h_1
  refine lv_iload_n hx hb d_Hart_fault_5 rfl (lv_at hl 2 rfl) ?_
  refine xi (wr := []) (W2 := fun u9 => wH a k n id u9) (xV (rest := []) ⟨hx, hb, hml, hown, hts⟩ (c_Hart_trap a k n id (sp_Fault_causeOf x0) x1 σ hn hid) mw_Hart_trap mv_Hart_trap k_340 ⟨rfl, rfl, Nat.le_of_ble_eq_true rfl, Nat.le_of_ble_eq_true rfl⟩ hK hP hD hS hA hF [0, 1, 2, 3, 4, 5, 6, 7, 8] [0, 1, 2, 3, 4] rfl rfl rfl 6 4 rfl rfl rfl rfl hl.1 rfl (Nat.le_of_ble_eq_true rfl) d_Hart_fault_6 ⟨Nat.zero_le _, Nat.zero_le _⟩) hP hD hS hA [0, 1, 2, 3, 4, 5, 6, 7, 8] [] [0, 1, 2, 3, 4, 5, 6, 7, 8] rfl rfl rfl (by decide) (fun _ => rfl) rfl (fun r_2 u_2 H locs h_2 hP hD hS => ?_)
  exact ri u_2 hx hb hr hlocks hP hD hS d_Hart_fault_9 (by simp only [sp_Hart_fault, h_2])
def sp_Hart_illegal (n : Nat) (id : Int32) (x0 : Int32) (σ : TH) : Int32 × TH :=
  let r_1 := (sp_Hart_trap n id 2 x0 σ).1
  let u_1 := (sp_Hart_trap n id 2 x0 σ).2
  (r_1, u_1)
set_option maxHeartbeats 4000000 in
set_option maxRecDepth 100000 in
theorem c_Hart_illegal {l : Launch} {D : va_G} {g : Nat → Nat} (a : Nat → Nat) (k : Nat → ClassId) (n : Nat) (id : Int32) (x0 : Int32) (σ : TH) (hn : n ≤ 4096) (hid : id = 0 ∨ id = 1) : CT l D g y_Hart_illegal b_Hart_illegal 2 (some .int) (rD 1) [.ref (a 6), .int x0] (wH a k n id σ) (tyH k) (Qi D (fun (r : Int32) (u : TH) => sp_Hart_illegal n id x0 σ = (r, u)) (fun u => wH a k n id u)) := by
  refine CT.of rfl (Nat.le_of_ble_eq_true rfl) (fun p e s m below meth c A ls hx hb hr hml hts hown hlocks hA hP hK hD hF hS hl => ?_)
  have hl : lv_has ls 2 [(0, .ref (a 6)), (1, .int x0)] := hl
  refine lv_aload_n hx hb d_Hart_illegal_0 rfl (lv_at hl 0 rfl) ?_
  refine lv_iconst (v := 2) hx hb d_Hart_illegal_1 rfl ?_
  refine lv_iload_n hx hb d_Hart_illegal_2 rfl (lv_at hl 1 rfl) ?_
  refine xi (wr := []) (W2 := fun u9 => wH a k n id u9) (xV (rest := []) ⟨hx, hb, hml, hown, hts⟩ (c_Hart_trap a k n id 2 x0 σ hn hid) mw_Hart_trap mv_Hart_trap k_340 ⟨rfl, rfl, Nat.le_of_ble_eq_true rfl, Nat.le_of_ble_eq_true rfl⟩ hK hP hD hS hA hF [0, 1, 2, 3, 4, 5, 6, 7, 8] [0, 1, 2, 3, 4] rfl rfl rfl 6 4 rfl rfl rfl rfl hl.1 rfl (Nat.le_of_ble_eq_true rfl) d_Hart_illegal_3 ⟨Nat.zero_le _, Nat.zero_le _⟩) hP hD hS hA [0, 1, 2, 3, 4, 5, 6, 7, 8] [] [0, 1, 2, 3, 4, 5, 6, 7, 8] rfl rfl rfl (by decide) (fun _ => rfl) rfl (fun r_1 u_1 H locs h_1 hP hD hS => ?_)
  exact ri u_1 hx hb hr hlocks hP hD hS d_Hart_illegal_6 (by simp only [sp_Hart_illegal, h_1])
def sp_Hart_write (n : Nat) (id : Int32) (x0 : Int32) (x1 : Int32) (σ : TH) : TH :=
  if x0 = 0 then
    σ
  else
    (σ.1, (upd σ.2.1 x0.toNatClampNeg x1), σ.2.2.1, σ.2.2.2.1, σ.2.2.2.2.1, σ.2.2.2.2.2)
set_option maxHeartbeats 4000000 in
set_option maxRecDepth 100000 in
theorem c_Hart_write {l : Launch} {D : va_G} {g : Nat → Nat} (a : Nat → Nat) (k : Nat → ClassId) (n : Nat) (id : Int32) (x0 : Int32) (x1 : Int32) (σ : TH) (hn : n ≤ 4096) (hid : id = 0 ∨ id = 1) (hj : vp_in x0 32) : CT l D g y_Hart_write b_Hart_write 3 none (rD 0) [.ref (a 6), .int x0, .int x1] (wH a k n id σ) (tyH k) (Qv D (fun (u : TH) => sp_Hart_write n id x0 x1 σ = u) (fun u => wH a k n id u)) := by
  refine CT.of rfl (Nat.le_of_ble_eq_true rfl) (fun p e s m below meth c A ls hx hb hr hml hts hown hlocks hA hP hK hD hF hS hl => ?_)
  have hl : lv_has ls 3 [(0, .ref (a 6)), (1, .int x0), (2, .int x1)] := hl
  refine lv_iload_n hx hb d_Hart_write_0 rfl (lv_at hl 1 rfl) ?_
  refine lv_if_eq (tgt := 11) hx hb d_Hart_write_1 (by decide) (fun c_1 => ?_) (fun c_1 => ?_)
  · exact rv σ hx hb hr hlocks hP hD hS d_Hart_write_11 (by simp only [sp_Hart_write, if_pos c_1])
  · refine lv_aload_n hx hb d_Hart_write_4 rfl (lv_at hl 0 rfl) ?_
    refine va_get (D := D) (ci := 4) (v := .ref (a 7)) (C := R_Hart) (T := F_Hart) (N := 6) hx hb hts i_Hart hown hK hP 6 rfl rfl 1 (by decide) (hts _ k_144) (fun _ h9 => h9) rfl d_Hart_write_5 ?_
    refine lv_iload_n hx hb d_Hart_write_8 rfl (lv_at hl 1 rfl) ?_
    refine lv_iload_n hx hb d_Hart_write_9 rfl (lv_at hl 2 rfl) ?_
    refine y_iast (ws' := wH a k n id (σ.1, (upd σ.2.1 x0.toNatClampNeg x1), σ.2.2.1, σ.2.2.2.1, σ.2.2.2.2.1, σ.2.2.2.2.2)) hx hb hK hP hD hS 7 4 rfl rfl hj d_Hart_write_10 rfl (fun H locs hP hD hS => ?_)
    exact rv (σ.1, (upd σ.2.1 x0.toNatClampNeg x1), σ.2.2.1, σ.2.2.2.1, σ.2.2.2.2.1, σ.2.2.2.2.2) hx hb hr hlocks hP hD hS d_Hart_write_11 (by simp only [sp_Hart_write, if_neg c_1])
def sp_Hart_goOn (n : Nat) (id : Int32)  (σ : TH) : Int32 × TH :=
  (0, (σ.1, σ.2.1, σ.2.2.1 + 4, σ.2.2.2.1, σ.2.2.2.2.1, σ.2.2.2.2.2))
set_option maxHeartbeats 4000000 in
set_option maxRecDepth 100000 in
theorem c_Hart_goOn {l : Launch} {D : va_G} {g : Nat → Nat} (a : Nat → Nat) (k : Nat → ClassId) (n : Nat) (id : Int32)  (σ : TH) (hn : n ≤ 4096) (hid : id = 0 ∨ id = 1) : CT l D g y_Hart_goOn b_Hart_goOn 1 (some .int) (rD 0) [.ref (a 6)] (wH a k n id σ) (tyH k) (Qi D (fun (r : Int32) (u : TH) => sp_Hart_goOn n id σ = (r, u)) (fun u => wH a k n id u)) := by
  refine CT.of rfl (Nat.le_of_ble_eq_true rfl) (fun p e s m below meth c A ls hx hb hr hml hts hown hlocks hA hP hK hD hF hS hl => ?_)
  have hl : lv_has ls 1 [(0, .ref (a 6))] := hl
  refine lv_aload_n hx hb d_Hart_goOn_0 rfl (lv_at hl 0 rfl) ?_
  refine lv_dup hx hb d_Hart_goOn_1 rfl ?_
  refine va_get (D := D) (ci := 4) (v := .int σ.2.2.1) (C := R_Hart) (T := F_Hart) (N := 6) hx hb hts i_Hart hown hK hP 6 rfl rfl 3 (by decide) (hts _ k_148) (fun _ h9 => h9) rfl d_Hart_goOn_2 ?_
  refine lv_iconst (v := 4) hx hb d_Hart_goOn_5 rfl ?_
  refine lv_iadd hx hb d_Hart_goOn_6 ?_
  refine y_put (D := D) (ci := 4) (v := .int (σ.2.2.1 + 4)) (ty := .int) (C := R_Hart) (T := F_Hart) (N := 6) (ws' := wH a k n id (σ.1, σ.2.1, σ.2.2.1 + 4, σ.2.2.2.1, σ.2.2.2.2.1, σ.2.2.2.2.2)) hx hb hts i_Hart t_Hart t_Hart_ok n_Hart hown hK hP hD hS 6 rfl rfl 3 (by decide) (hts _ k_148) (fun _ h9 => h9) rfl (by decide +kernel) rfl rfl (Nat.le_of_ble_eq_true rfl) d_Hart_goOn_7 rfl (fun H locs hP hD hS => ?_)
  refine lv_iconst (v := 0) hx hb d_Hart_goOn_10 rfl ?_
  exact ri (σ.1, σ.2.1, σ.2.2.1 + 4, σ.2.2.2.1, σ.2.2.2.2.1, σ.2.2.2.2.2) hx hb hr hlocks hP hD hS d_Hart_goOn_11 (by simp only [sp_Hart_goOn])
def sp_Hart_finish (n : Nat) (id : Int32) (x0 : Int32) (x1 : Int32) (σ : TH) : Int32 × TH :=
  let u_2 := sp_Hart_write n id (sp_Field_rd x0) x1 σ
  let r_3 := (sp_Hart_goOn n id u_2).1
  let u_3 := (sp_Hart_goOn n id u_2).2
  (r_3, u_3)
set_option maxHeartbeats 4000000 in
set_option maxRecDepth 100000 in
theorem c_Hart_finish {l : Launch} {D : va_G} {g : Nat → Nat} (a : Nat → Nat) (k : Nat → ClassId) (n : Nat) (id : Int32) (x0 : Int32) (x1 : Int32) (σ : TH) (hn : n ≤ 4096) (hid : id = 0 ∨ id = 1) : CT l D g y_Hart_finish b_Hart_finish 3 (some .int) (rD 1) [.ref (a 6), .int x0, .int x1] (wH a k n id σ) (tyH k) (Qi D (fun (r : Int32) (u : TH) => sp_Hart_finish n id x0 x1 σ = (r, u)) (fun u => wH a k n id u)) := by
  refine CT.of rfl (Nat.le_of_ble_eq_true rfl) (fun p e s m below meth c A ls hx hb hr hml hts hown hlocks hA hP hK hD hF hS hl => ?_)
  have hl : lv_has ls 3 [(0, .ref (a 6)), (1, .int x0), (2, .int x1)] := hl
  refine lv_aload_n hx hb d_Hart_finish_0 rfl (lv_at hl 0 rfl) ?_
  refine lv_iload_n hx hb d_Hart_finish_1 rfl (lv_at hl 1 rfl) ?_
  refine xi (wr := [((a 0), .inr (1, [.ref (a 3), .ref (a 1), .ref (a 4), .int σ.1.2.2.2.1, .ref (a 5)])), ((a 1), .inr (2, [.ref (a 2)])), ((a 2), .inl ((k 0), 8, .inl σ.1.1)), ((a 3), .inl ((k 1), n, .inl σ.1.2.1)), ((a 4), .inl ((k 2), 256, .inl σ.1.2.2.1)), ((a 5), .inl ((k 3), 2, .inr (.inl σ.1.2.2.2.2))), ((a 6), .inr (4, [.int id, .ref (a 7), .ref (a 8), .int σ.2.2.1, .int σ.2.2.2.1, .int σ.2.2.2.2.1])), ((a 7), .inl ((k 4), 32, .inl σ.2.1)), ((a 8), .inr (3, csF σ.2.2.2.2.2))]) (W2 := fun _ => wH a k n id σ) (xS (rest := [.ref (a 6)]) ⟨hx, hb, hml, hown, hts⟩ (c_Field_rd x0) mw_Field_rd ms_Field_rd k_383 ⟨rfl, rfl, Nat.le_of_ble_eq_true rfl, Nat.le_of_ble_eq_true rfl⟩ hK hP hD hS hA hF [] [] rfl rfl rfl rfl hl.1 rfl (Nat.le_of_ble_eq_true rfl) d_Hart_finish_2 ⟨Nat.zero_le _, Nat.zero_le _⟩) hP hD hS hA [] [0, 1, 2, 3, 4, 5, 6, 7, 8] [0, 1, 2, 3, 4, 5, 6, 7, 8] rfl rfl rfl (by decide) (fun _ => rfl) rfl (fun r_1 _ H locs h_1 hP hD hS => ?_)
  subst h_1
  refine lv_iload_n hx hb d_Hart_finish_5 rfl (lv_at hl 2 rfl) ?_
  refine xv (wr := []) (W2 := fun u9 => wH a k n id u9) (xV (rest := []) ⟨hx, hb, hml, hown, hts⟩ (c_Hart_write a k n id (sp_Field_rd x0) x1 σ hn hid (vp_rd _)) mw_Hart_write mv_Hart_write k_386 ⟨rfl, rfl, Nat.le_of_ble_eq_true rfl, Nat.le_of_ble_eq_true rfl⟩ hK hP hD hS hA hF [0, 1, 2, 3, 4, 5, 6, 7, 8] [0, 1, 2, 3, 4] rfl rfl rfl 6 4 rfl rfl rfl rfl hl.1 rfl (Nat.le_of_ble_eq_true rfl) d_Hart_finish_6 ⟨Nat.zero_le _, Nat.zero_le _⟩) hP hD hS hA [0, 1, 2, 3, 4, 5, 6, 7, 8] [] [0, 1, 2, 3, 4, 5, 6, 7, 8] rfl rfl rfl (by decide) (fun _ => rfl) rfl (fun u_2 H locs h_2 hP hD hS => ?_)
  refine lv_aload_n hx hb d_Hart_finish_9 rfl (lv_at hl 0 rfl) ?_
  refine xi (wr := []) (W2 := fun u9 => wH a k n id u9) (xV (rest := []) ⟨hx, hb, hml, hown, hts⟩ (c_Hart_goOn a k n id u_2 hn hid) mw_Hart_goOn mv_Hart_goOn k_390 ⟨rfl, rfl, Nat.le_of_ble_eq_true rfl, Nat.le_of_ble_eq_true rfl⟩ hK hP hD hS hA hF [0, 1, 2, 3, 4, 5, 6, 7, 8] [0, 1, 2, 3, 4] rfl rfl rfl 6 4 rfl rfl rfl rfl hl.1 rfl (Nat.le_of_ble_eq_true rfl) d_Hart_finish_10 ⟨Nat.zero_le _, Nat.zero_le _⟩) hP hD hS hA [0, 1, 2, 3, 4, 5, 6, 7, 8] [] [0, 1, 2, 3, 4, 5, 6, 7, 8] rfl rfl rfl (by decide) (fun _ => rfl) rfl (fun r_3 u_3 H locs h_3 hP hD hS => ?_)
  exact ri u_3 hx hb hr hlocks hP hD hS d_Hart_finish_13 (by simp only [sp_Hart_finish, h_2, h_3])
def sp_Hart_load (n : Nat) (id : Int32) (x0 : Int32) (σ : TH) : Int32 × TH :=
  if (sp_Field_f3 x0) = 3 then
    let r_3 := (sp_Hart_illegal n id x0 σ).1
    let u_3 := (sp_Hart_illegal n id x0 σ).2
    (r_3, u_3)
  else
    if (sp_Field_f3 x0) ≤ 5 then
      if 0 ≤ (sp_Hart_locate n id ((σ.2.1 ((sp_Field_rs1 x0).toNatClampNeg)) + (sp_Field_immediate x0)) (shl 1 ((sp_Field_f3 x0) &&& 3)) 1 σ) then
        if (sp_Field_f3 x0) = 0 then
          let r_14 := (sp_Hart_finish n id x0 ((sp_Memory_load n (sp_Hart_locate n id ((σ.2.1 ((sp_Field_rs1 x0).toNatClampNeg)) + (sp_Field_immediate x0)) (shl 1 ((sp_Field_f3 x0) &&& 3)) 1 σ) (shl 1 ((sp_Field_f3 x0) &&& 3)) σ.1).toInt8.toInt32) σ).1
          let u_14 := (sp_Hart_finish n id x0 ((sp_Memory_load n (sp_Hart_locate n id ((σ.2.1 ((sp_Field_rs1 x0).toNatClampNeg)) + (sp_Field_immediate x0)) (shl 1 ((sp_Field_f3 x0) &&& 3)) 1 σ) (shl 1 ((sp_Field_f3 x0) &&& 3)) σ.1).toInt8.toInt32) σ).2
          (r_14, u_14)
        else
          if (sp_Field_f3 x0) = 1 then
            let r_13 := (sp_Hart_finish n id x0 ((sp_Memory_load n (sp_Hart_locate n id ((σ.2.1 ((sp_Field_rs1 x0).toNatClampNeg)) + (sp_Field_immediate x0)) (shl 1 ((sp_Field_f3 x0) &&& 3)) 1 σ) (shl 1 ((sp_Field_f3 x0) &&& 3)) σ.1).toInt16.toInt32) σ).1
            let u_13 := (sp_Hart_finish n id x0 ((sp_Memory_load n (sp_Hart_locate n id ((σ.2.1 ((sp_Field_rs1 x0).toNatClampNeg)) + (sp_Field_immediate x0)) (shl 1 ((sp_Field_f3 x0) &&& 3)) 1 σ) (shl 1 ((sp_Field_f3 x0) &&& 3)) σ.1).toInt16.toInt32) σ).2
            (r_13, u_13)
          else
            let r_12 := (sp_Hart_finish n id x0 (sp_Memory_load n (sp_Hart_locate n id ((σ.2.1 ((sp_Field_rs1 x0).toNatClampNeg)) + (sp_Field_immediate x0)) (shl 1 ((sp_Field_f3 x0) &&& 3)) 1 σ) (shl 1 ((sp_Field_f3 x0) &&& 3)) σ.1) σ).1
            let u_12 := (sp_Hart_finish n id x0 (sp_Memory_load n (sp_Hart_locate n id ((σ.2.1 ((sp_Field_rs1 x0).toNatClampNeg)) + (sp_Field_immediate x0)) (shl 1 ((sp_Field_f3 x0) &&& 3)) 1 σ) (shl 1 ((sp_Field_f3 x0) &&& 3)) σ.1) σ).2
            (r_12, u_12)
      else
        let r_15 := (sp_Hart_fault n id (sp_Hart_locate n id ((σ.2.1 ((sp_Field_rs1 x0).toNatClampNeg)) + (sp_Field_immediate x0)) (shl 1 ((sp_Field_f3 x0) &&& 3)) 1 σ) ((σ.2.1 ((sp_Field_rs1 x0).toNatClampNeg)) + (sp_Field_immediate x0)) σ).1
        let u_15 := (sp_Hart_fault n id (sp_Hart_locate n id ((σ.2.1 ((sp_Field_rs1 x0).toNatClampNeg)) + (sp_Field_immediate x0)) (shl 1 ((sp_Field_f3 x0) &&& 3)) 1 σ) ((σ.2.1 ((sp_Field_rs1 x0).toNatClampNeg)) + (sp_Field_immediate x0)) σ).2
        (r_15, u_15)
    else
      let r_16 := (sp_Hart_illegal n id x0 σ).1
      let u_16 := (sp_Hart_illegal n id x0 σ).2
      (r_16, u_16)
set_option maxHeartbeats 4000000 in
set_option maxRecDepth 100000 in
theorem c_Hart_load {l : Launch} {D : va_G} {g : Nat → Nat} (a : Nat → Nat) (k : Nat → ClassId) (n : Nat) (id : Int32) (x0 : Int32) (σ : TH) (hn : n ≤ 4096) (hid : id = 0 ∨ id = 1) : CT l D g y_Hart_load b_Hart_load 9 (some .int) (rD 4) [.ref (a 6), .int x0, .ref (a 0)] (wH a k n id σ) (tyH k) (Qi D (fun (r : Int32) (u : TH) => sp_Hart_load n id x0 σ = (r, u)) (fun u => wH a k n id u)) := by
  refine CT.of rfl (Nat.le_of_ble_eq_true rfl) (fun p e s m below meth c A ls hx hb hr hml hts hown hlocks hA hP hK hD hF hS hl => ?_)
  have hl : lv_has ls 9 [(0, .ref (a 6)), (1, .int x0), (2, .ref (a 0))] := hl
  refine lv_iload_n hx hb d_Hart_load_0 rfl (lv_at hl 1 rfl) ?_
  refine xi (wr := [((a 0), .inr (1, [.ref (a 3), .ref (a 1), .ref (a 4), .int σ.1.2.2.2.1, .ref (a 5)])), ((a 1), .inr (2, [.ref (a 2)])), ((a 2), .inl ((k 0), 8, .inl σ.1.1)), ((a 3), .inl ((k 1), n, .inl σ.1.2.1)), ((a 4), .inl ((k 2), 256, .inl σ.1.2.2.1)), ((a 5), .inl ((k 3), 2, .inr (.inl σ.1.2.2.2.2))), ((a 6), .inr (4, [.int id, .ref (a 7), .ref (a 8), .int σ.2.2.1, .int σ.2.2.2.1, .int σ.2.2.2.2.1])), ((a 7), .inl ((k 4), 32, .inl σ.2.1)), ((a 8), .inr (3, csF σ.2.2.2.2.2))]) (W2 := fun _ => wH a k n id σ) (xS (rest := []) ⟨hx, hb, hml, hown, hts⟩ (c_Field_f3 x0) mw_Field_f3 ms_Field_f3 k_353 ⟨rfl, rfl, Nat.le_of_ble_eq_true rfl, Nat.le_of_ble_eq_true rfl⟩ hK hP hD hS hA hF [] [] rfl rfl rfl rfl hl.1 rfl (Nat.le_of_ble_eq_true rfl) d_Hart_load_1 ⟨Nat.zero_le _, Nat.zero_le _⟩) hP hD hS hA [] [0, 1, 2, 3, 4, 5, 6, 7, 8] [0, 1, 2, 3, 4, 5, 6, 7, 8] rfl rfl rfl (by decide) (fun _ => rfl) rfl (fun r_1 _ H locs h_1 hP hD hS => ?_)
  subst h_1
  refine lv_istore_n (lv' := [(3, .int (sp_Field_f3 x0)), (0, .ref (a 6)), (1, .int x0), (2, .ref (a 0))]) hx hb d_Hart_load_4 rfl hl (by decide) rfl (fun ls hl => ?_)
  refine lv_iload_n hx hb d_Hart_load_5 rfl (lv_at hl 0 rfl) ?_
  refine lv_iconst (v := 3) hx hb d_Hart_load_6 rfl ?_
  refine lv_icmp_eq (tgt := 15) hx hb d_Hart_load_7 (by decide) (fun c_2 => ?_) (fun c_2 => ?_)
  · refine lv_aload_n hx hb d_Hart_load_15 rfl (lv_at hl 1 rfl) ?_
    refine lv_iload_n hx hb d_Hart_load_16 rfl (lv_at hl 2 rfl) ?_
    refine xi (wr := []) (W2 := fun u9 => wH a k n id u9) (xV (rest := []) ⟨hx, hb, hml, hown, hts⟩ (c_Hart_illegal a k n id x0 σ hn hid) mw_Hart_illegal mv_Hart_illegal k_356 ⟨rfl, rfl, Nat.le_of_ble_eq_true rfl, Nat.le_of_ble_eq_true rfl⟩ hK hP hD hS hA hF [0, 1, 2, 3, 4, 5, 6, 7, 8] [0, 1, 2, 3, 4] rfl rfl rfl 6 4 rfl rfl rfl rfl hl.1 rfl (Nat.le_of_ble_eq_true rfl) d_Hart_load_17 ⟨Nat.zero_le _, Nat.zero_le _⟩) hP hD hS hA [0, 1, 2, 3, 4, 5, 6, 7, 8] [] [0, 1, 2, 3, 4, 5, 6, 7, 8] rfl rfl rfl (by decide) (fun _ => rfl) rfl (fun r_3 u_3 H locs h_3 hP hD hS => ?_)
    exact ri u_3 hx hb hr hlocks hP hD hS d_Hart_load_20 (by simp only [sp_Hart_load, h_3, if_pos c_2])
  · refine lv_iload_n hx hb d_Hart_load_10 rfl (lv_at hl 0 rfl) ?_
    refine lv_iconst (v := 5) hx hb d_Hart_load_11 rfl ?_
    refine lv_icmp_le (tgt := 21) hx hb d_Hart_load_12 (by decide) (fun c_4 => ?_) (fun c_4 => ?_)
    · refine lv_iconst (v := 1) hx hb d_Hart_load_21 rfl ?_
      refine lv_iload_n hx hb d_Hart_load_22 rfl (lv_at hl 0 rfl) ?_
      refine lv_iconst (v := 3) hx hb d_Hart_load_23 rfl ?_
      refine lv_iand hx hb d_Hart_load_24 ?_
      refine y_ishl hx hb d_Hart_load_25 ?_
      refine lv_istore (lv' := [(4, .int (shl 1 ((sp_Field_f3 x0) &&& 3))), (3, .int (sp_Field_f3 x0)), (0, .ref (a 6)), (1, .int x0), (2, .ref (a 0))]) hx hb d_Hart_load_26 hl (by decide) rfl (fun ls hl => ?_)
      refine lv_aload_n hx hb d_Hart_load_28 rfl (lv_at hl 2 rfl) ?_
      refine va_get (D := D) (ci := 4) (v := .ref (a 7)) (C := R_Hart) (T := F_Hart) (N := 6) hx hb hts i_Hart hown hK hP 6 rfl rfl 1 (by decide) (hts _ k_144) (fun _ h9 => h9) rfl d_Hart_load_29 ?_
      refine lv_iload_n hx hb d_Hart_load_32 rfl (lv_at hl 3 rfl) ?_
      refine xi (wr := [((a 0), .inr (1, [.ref (a 3), .ref (a 1), .ref (a 4), .int σ.1.2.2.2.1, .ref (a 5)])), ((a 1), .inr (2, [.ref (a 2)])), ((a 2), .inl ((k 0), 8, .inl σ.1.1)), ((a 3), .inl ((k 1), n, .inl σ.1.2.1)), ((a 4), .inl ((k 2), 256, .inl σ.1.2.2.1)), ((a 5), .inl ((k 3), 2, .inr (.inl σ.1.2.2.2.2))), ((a 6), .inr (4, [.int id, .ref (a 7), .ref (a 8), .int σ.2.2.1, .int σ.2.2.2.1, .int σ.2.2.2.2.1])), ((a 7), .inl ((k 4), 32, .inl σ.2.1)), ((a 8), .inr (3, csF σ.2.2.2.2.2))]) (W2 := fun _ => wH a k n id σ) (xS (rest := [.ref (a 7)]) ⟨hx, hb, hml, hown, hts⟩ (c_Field_rs1 x0) mw_Field_rs1 ms_Field_rs1 k_360 ⟨rfl, rfl, Nat.le_of_ble_eq_true rfl, Nat.le_of_ble_eq_true rfl⟩ hK hP hD hS hA hF [] [] rfl rfl rfl rfl hl.1 rfl (Nat.le_of_ble_eq_true rfl) d_Hart_load_33 ⟨Nat.zero_le _, Nat.zero_le _⟩) hP hD hS hA [] [0, 1, 2, 3, 4, 5, 6, 7, 8] [0, 1, 2, 3, 4, 5, 6, 7, 8] rfl rfl rfl (by decide) (fun _ => rfl) rfl (fun r_5 _ H locs h_5 hP hD hS => ?_)
      subst h_5
      refine y_iald (v := σ.2.1 ((sp_Field_rs1 x0).toNatClampNeg)) hx hb hK hP 7 4 rfl rfl (vp_rs1 _) rfl d_Hart_load_36 ?_
      refine lv_iload_n hx hb d_Hart_load_37 rfl (lv_at hl 3 rfl) ?_
      refine xi (wr := [((a 0), .inr (1, [.ref (a 3), .ref (a 1), .ref (a 4), .int σ.1.2.2.2.1, .ref (a 5)])), ((a 1), .inr (2, [.ref (a 2)])), ((a 2), .inl ((k 0), 8, .inl σ.1.1)), ((a 3), .inl ((k 1), n, .inl σ.1.2.1)), ((a 4), .inl ((k 2), 256, .inl σ.1.2.2.1)), ((a 5), .inl ((k 3), 2, .inr (.inl σ.1.2.2.2.2))), ((a 6), .inr (4, [.int id, .ref (a 7), .ref (a 8), .int σ.2.2.1, .int σ.2.2.2.1, .int σ.2.2.2.2.1])), ((a 7), .inl ((k 4), 32, .inl σ.2.1)), ((a 8), .inr (3, csF σ.2.2.2.2.2))]) (W2 := fun _ => wH a k n id σ) (xS (rest := [.int (σ.2.1 ((sp_Field_rs1 x0).toNatClampNeg))]) ⟨hx, hb, hml, hown, hts⟩ (c_Field_immediate x0) mw_Field_immediate ms_Field_immediate k_363 ⟨rfl, rfl, Nat.le_of_ble_eq_true rfl, Nat.le_of_ble_eq_true rfl⟩ hK hP hD hS hA hF [] [] rfl rfl rfl rfl hl.1 rfl (Nat.le_of_ble_eq_true rfl) d_Hart_load_38 ⟨Nat.zero_le _, Nat.zero_le _⟩) hP hD hS hA [] [0, 1, 2, 3, 4, 5, 6, 7, 8] [0, 1, 2, 3, 4, 5, 6, 7, 8] rfl rfl rfl (by decide) (fun _ => rfl) rfl (fun r_6 _ H locs h_6 hP hD hS => ?_)
      subst h_6
      refine lv_iadd hx hb d_Hart_load_41 ?_
      refine lv_istore (lv' := [(5, .int ((σ.2.1 ((sp_Field_rs1 x0).toNatClampNeg)) + (sp_Field_immediate x0))), (4, .int (shl 1 ((sp_Field_f3 x0) &&& 3))), (3, .int (sp_Field_f3 x0)), (0, .ref (a 6)), (1, .int x0), (2, .ref (a 0))]) hx hb d_Hart_load_42 hl (by decide) rfl (fun ls hl => ?_)
      refine lv_aload_n hx hb d_Hart_load_44 rfl (lv_at hl 3 rfl) ?_
      refine lv_iload hx hb d_Hart_load_45 (lv_at hl 0 rfl) ?_
      refine lv_iload hx hb d_Hart_load_47 (lv_at hl 1 rfl) ?_
      refine va_gets hx hb (hF.2.1.1 1 (by decide)).1 hS hown (hts _ k_366) (fun _ h9 => h9) d_Hart_load_49 ?_
      refine lv_aload_n hx hb d_Hart_load_52 rfl (lv_at hl 5 rfl) ?_
      refine xl (wr := []) (W2 := fun _ => wH a k n id σ) (xV (rest := []) ⟨hx, hb, hml, hown, hts⟩ (c_Hart_locate a k n id ((σ.2.1 ((sp_Field_rs1 x0).toNatClampNeg)) + (sp_Field_immediate x0)) (shl 1 ((sp_Field_f3 x0) &&& 3)) 1 σ hn hid (by decide)) mw_Hart_locate mv_Hart_locate k_260 ⟨rfl, rfl, Nat.le_of_ble_eq_true rfl, Nat.le_of_ble_eq_true rfl⟩ hK hP hD hS hA hF [0, 1, 2, 3, 4, 5, 6, 7, 8] [0, 1, 2, 3, 4] rfl rfl rfl 6 4 rfl rfl rfl rfl hl.1 rfl (Nat.le_of_ble_eq_true rfl) d_Hart_load_53 ⟨Nat.zero_le _, Nat.zero_le _⟩) hP hD hS hA [0, 1, 2, 3, 4, 5, 6, 7, 8] [] [0, 1, 2, 3, 4, 5, 6, 7, 8] rfl rfl rfl (by decide) (fun _ => rfl) rfl (fun r_7 _ H locs h_7 hP hD hS => ?_)
      subst h_7
      refine lv_lstore (lv' := [(6, .long (sp_Hart_locate n id ((σ.2.1 ((sp_Field_rs1 x0).toNatClampNeg)) + (sp_Field_immediate x0)) (shl 1 ((sp_Field_f3 x0) &&& 3)) 1 σ)), (5, .int ((σ.2.1 ((sp_Field_rs1 x0).toNatClampNeg)) + (sp_Field_immediate x0))), (4, .int (shl 1 ((sp_Field_f3 x0) &&& 3))), (3, .int (sp_Field_f3 x0)), (0, .ref (a 6)), (1, .int x0), (2, .ref (a 0))]) hx hb d_Hart_load_56 hl (by decide) rfl (fun ls hl => ?_)
      refine lv_lload hx hb d_Hart_load_58 (lv_at hl 0 rfl) ?_
      refine lv_lconst (v := 0) hx hb d_Hart_load_60 rfl ?_
      refine W.lcmp hx hb d_Hart_load_61 ?_
      refine lv_if_ge (tgt := 74) hx hb d_Hart_load_62 (by decide) (fun b_8 => ?_) (fun b_8 => ?_)
      · have c_8 : 0 ≤ (sp_Hart_locate n id ((σ.2.1 ((sp_Field_rs1 x0).toNatClampNeg)) + (sp_Field_immediate x0)) (shl 1 ((sp_Field_f3 x0) &&& 3)) 1 σ) := (lg_cmp_ge _ _).mp b_8
        refine lv_aload_n hx hb d_Hart_load_74 rfl (lv_at hl 6 rfl) ?_
        refine lv_lload hx hb d_Hart_load_75 (lv_at hl 0 rfl) ?_
        refine lv_iload hx hb d_Hart_load_77 (lv_at hl 2 rfl) ?_
        refine xi (wr := [((a 6), .inr (4, [.int id, .ref (a 7), .ref (a 8), .int σ.2.2.1, .int σ.2.2.2.1, .int σ.2.2.2.2.1])), ((a 7), .inl ((k 4), 32, .inl σ.2.1)), ((a 8), .inr (3, csF σ.2.2.2.2.2))]) (W2 := fun _ => wH a k n id σ) (xV (rest := []) ⟨hx, hb, hml, hown, hts⟩ (c_Memory_load a k n (sp_Hart_locate n id ((σ.2.1 ((sp_Field_rs1 x0).toNatClampNeg)) + (sp_Field_immediate x0)) (shl 1 ((sp_Field_f3 x0) &&& 3)) 1 σ) (shl 1 ((sp_Field_f3 x0) &&& 3)) σ.1 hn) mw_Memory_load mv_Memory_load k_368 ⟨rfl, rfl, Nat.le_of_ble_eq_true rfl, Nat.le_of_ble_eq_true rfl⟩ hK hP hD hS hA hF [0, 1, 2, 3, 4, 5] [0, 1, 2, 3] rfl rfl rfl 0 1 rfl rfl rfl rfl hl.1 rfl (Nat.le_of_ble_eq_true rfl) d_Hart_load_79 ⟨Nat.zero_le _, Nat.zero_le _⟩) hP hD hS hA [0, 1, 2, 3, 4, 5] [6, 7, 8] [3, 4, 5, 6, 7, 8, 0, 1, 2] rfl rfl rfl (by decide) (fun _ => rfl) rfl (fun r_9 _ H locs h_9 hP hD hS => ?_)
        subst h_9
        refine lv_istore (lv' := [(8, .int (sp_Memory_load n (sp_Hart_locate n id ((σ.2.1 ((sp_Field_rs1 x0).toNatClampNeg)) + (sp_Field_immediate x0)) (shl 1 ((sp_Field_f3 x0) &&& 3)) 1 σ) (shl 1 ((sp_Field_f3 x0) &&& 3)) σ.1)), (6, .long (sp_Hart_locate n id ((σ.2.1 ((sp_Field_rs1 x0).toNatClampNeg)) + (sp_Field_immediate x0)) (shl 1 ((sp_Field_f3 x0) &&& 3)) 1 σ)), (5, .int ((σ.2.1 ((sp_Field_rs1 x0).toNatClampNeg)) + (sp_Field_immediate x0))), (4, .int (shl 1 ((sp_Field_f3 x0) &&& 3))), (3, .int (sp_Field_f3 x0)), (0, .ref (a 6)), (1, .int x0), (2, .ref (a 0))]) hx hb d_Hart_load_82 hl (by decide) rfl (fun ls hl => ?_)
        refine lv_iload_n hx hb d_Hart_load_84 rfl (lv_at hl 4 rfl) ?_
        refine lv_if_ne (tgt := 96) hx hb d_Hart_load_85 (by decide) (fun c_10 => ?_) (fun c_10 => ?_)
        · refine lv_iload_n hx hb d_Hart_load_96 rfl (lv_at hl 4 rfl) ?_
          refine lv_iconst (v := 1) hx hb d_Hart_load_97 rfl ?_
          refine lv_icmp_ne (tgt := 106) hx hb d_Hart_load_98 (by decide) (fun c_11 => ?_) (fun c_11 => ?_)
          · refine lv_aload_n hx hb d_Hart_load_106 rfl (lv_at hl 5 rfl) ?_
            refine lv_iload_n hx hb d_Hart_load_107 rfl (lv_at hl 6 rfl) ?_
            refine lv_iload hx hb d_Hart_load_108 (lv_at hl 0 rfl) ?_
            refine xi (wr := []) (W2 := fun u9 => wH a k n id u9) (xV (rest := []) ⟨hx, hb, hml, hown, hts⟩ (c_Hart_finish a k n id x0 (sp_Memory_load n (sp_Hart_locate n id ((σ.2.1 ((sp_Field_rs1 x0).toNatClampNeg)) + (sp_Field_immediate x0)) (shl 1 ((sp_Field_f3 x0) &&& 3)) 1 σ) (shl 1 ((sp_Field_f3 x0) &&& 3)) σ.1) σ hn hid) mw_Hart_finish mv_Hart_finish k_379 ⟨rfl, rfl, Nat.le_of_ble_eq_true rfl, Nat.le_of_ble_eq_true rfl⟩ hK hP hD hS hA hF [0, 1, 2, 3, 4, 5, 6, 7, 8] [0, 1, 2, 3, 4] rfl rfl rfl 6 4 rfl rfl rfl rfl hl.1 rfl (Nat.le_of_ble_eq_true rfl) d_Hart_load_110 ⟨Nat.zero_le _, Nat.zero_le _⟩) hP hD hS hA [0, 1, 2, 3, 4, 5, 6, 7, 8] [] [0, 1, 2, 3, 4, 5, 6, 7, 8] rfl rfl rfl (by decide) (fun _ => rfl) rfl (fun r_12 u_12 H locs h_12 hP hD hS => ?_)
            exact ri u_12 hx hb hr hlocks hP hD hS d_Hart_load_113 (by simp only [sp_Hart_load, h_12, if_neg c_2, if_pos c_4, if_pos c_8, if_neg c_10, if_neg c_11])
          · refine lv_iload hx hb d_Hart_load_101 (lv_at hl 0 rfl) ?_
            refine lv_i2s hx hb d_Hart_load_103 rfl ?_
            refine lv_istore (lv' := [(8, .int ((sp_Memory_load n (sp_Hart_locate n id ((σ.2.1 ((sp_Field_rs1 x0).toNatClampNeg)) + (sp_Field_immediate x0)) (shl 1 ((sp_Field_f3 x0) &&& 3)) 1 σ) (shl 1 ((sp_Field_f3 x0) &&& 3)) σ.1).toInt16.toInt32)), (6, .long (sp_Hart_locate n id ((σ.2.1 ((sp_Field_rs1 x0).toNatClampNeg)) + (sp_Field_immediate x0)) (shl 1 ((sp_Field_f3 x0) &&& 3)) 1 σ)), (5, .int ((σ.2.1 ((sp_Field_rs1 x0).toNatClampNeg)) + (sp_Field_immediate x0))), (4, .int (shl 1 ((sp_Field_f3 x0) &&& 3))), (3, .int (sp_Field_f3 x0)), (0, .ref (a 6)), (1, .int x0), (2, .ref (a 0))]) hx hb d_Hart_load_104 hl (by decide) rfl (fun ls hl => ?_)
            refine lv_aload_n hx hb d_Hart_load_106 rfl (lv_at hl 5 rfl) ?_
            refine lv_iload_n hx hb d_Hart_load_107 rfl (lv_at hl 6 rfl) ?_
            refine lv_iload hx hb d_Hart_load_108 (lv_at hl 0 rfl) ?_
            refine xi (wr := []) (W2 := fun u9 => wH a k n id u9) (xV (rest := []) ⟨hx, hb, hml, hown, hts⟩ (c_Hart_finish a k n id x0 ((sp_Memory_load n (sp_Hart_locate n id ((σ.2.1 ((sp_Field_rs1 x0).toNatClampNeg)) + (sp_Field_immediate x0)) (shl 1 ((sp_Field_f3 x0) &&& 3)) 1 σ) (shl 1 ((sp_Field_f3 x0) &&& 3)) σ.1).toInt16.toInt32) σ hn hid) mw_Hart_finish mv_Hart_finish k_379 ⟨rfl, rfl, Nat.le_of_ble_eq_true rfl, Nat.le_of_ble_eq_true rfl⟩ hK hP hD hS hA hF [0, 1, 2, 3, 4, 5, 6, 7, 8] [0, 1, 2, 3, 4] rfl rfl rfl 6 4 rfl rfl rfl rfl hl.1 rfl (Nat.le_of_ble_eq_true rfl) d_Hart_load_110 ⟨Nat.zero_le _, Nat.zero_le _⟩) hP hD hS hA [0, 1, 2, 3, 4, 5, 6, 7, 8] [] [0, 1, 2, 3, 4, 5, 6, 7, 8] rfl rfl rfl (by decide) (fun _ => rfl) rfl (fun r_13 u_13 H locs h_13 hP hD hS => ?_)
            exact ri u_13 hx hb hr hlocks hP hD hS d_Hart_load_113 (by simp only [sp_Hart_load, h_13, if_neg c_2, if_pos c_4, if_pos c_8, if_neg c_10, if_pos c_11])
        · refine lv_iload hx hb d_Hart_load_88 (lv_at hl 0 rfl) ?_
          refine lv_i2b hx hb d_Hart_load_90 rfl ?_
          refine lv_istore (lv' := [(8, .int ((sp_Memory_load n (sp_Hart_locate n id ((σ.2.1 ((sp_Field_rs1 x0).toNatClampNeg)) + (sp_Field_immediate x0)) (shl 1 ((sp_Field_f3 x0) &&& 3)) 1 σ) (shl 1 ((sp_Field_f3 x0) &&& 3)) σ.1).toInt8.toInt32)), (6, .long (sp_Hart_locate n id ((σ.2.1 ((sp_Field_rs1 x0).toNatClampNeg)) + (sp_Field_immediate x0)) (shl 1 ((sp_Field_f3 x0) &&& 3)) 1 σ)), (5, .int ((σ.2.1 ((sp_Field_rs1 x0).toNatClampNeg)) + (sp_Field_immediate x0))), (4, .int (shl 1 ((sp_Field_f3 x0) &&& 3))), (3, .int (sp_Field_f3 x0)), (0, .ref (a 6)), (1, .int x0), (2, .ref (a 0))]) hx hb d_Hart_load_91 hl (by decide) rfl (fun ls hl => ?_)
          refine lv_goto (tgt := 106) hx hb d_Hart_load_93 (by decide) ?_
          refine lv_aload_n hx hb d_Hart_load_106 rfl (lv_at hl 5 rfl) ?_
          refine lv_iload_n hx hb d_Hart_load_107 rfl (lv_at hl 6 rfl) ?_
          refine lv_iload hx hb d_Hart_load_108 (lv_at hl 0 rfl) ?_
          refine xi (wr := []) (W2 := fun u9 => wH a k n id u9) (xV (rest := []) ⟨hx, hb, hml, hown, hts⟩ (c_Hart_finish a k n id x0 ((sp_Memory_load n (sp_Hart_locate n id ((σ.2.1 ((sp_Field_rs1 x0).toNatClampNeg)) + (sp_Field_immediate x0)) (shl 1 ((sp_Field_f3 x0) &&& 3)) 1 σ) (shl 1 ((sp_Field_f3 x0) &&& 3)) σ.1).toInt8.toInt32) σ hn hid) mw_Hart_finish mv_Hart_finish k_379 ⟨rfl, rfl, Nat.le_of_ble_eq_true rfl, Nat.le_of_ble_eq_true rfl⟩ hK hP hD hS hA hF [0, 1, 2, 3, 4, 5, 6, 7, 8] [0, 1, 2, 3, 4] rfl rfl rfl 6 4 rfl rfl rfl rfl hl.1 rfl (Nat.le_of_ble_eq_true rfl) d_Hart_load_110 ⟨Nat.zero_le _, Nat.zero_le _⟩) hP hD hS hA [0, 1, 2, 3, 4, 5, 6, 7, 8] [] [0, 1, 2, 3, 4, 5, 6, 7, 8] rfl rfl rfl (by decide) (fun _ => rfl) rfl (fun r_14 u_14 H locs h_14 hP hD hS => ?_)
          exact ri u_14 hx hb hr hlocks hP hD hS d_Hart_load_113 (by simp only [sp_Hart_load, h_14, if_neg c_2, if_pos c_4, if_pos c_8, if_pos c_10])
      · have c_8 : ¬ 0 ≤ (sp_Hart_locate n id ((σ.2.1 ((sp_Field_rs1 x0).toNatClampNeg)) + (sp_Field_immediate x0)) (shl 1 ((sp_Field_f3 x0) &&& 3)) 1 σ) := fun h9 => b_8 ((lg_cmp_ge _ _).mpr h9)
        refine lv_aload_n hx hb d_Hart_load_65 rfl (lv_at hl 4 rfl) ?_
        refine lv_lload hx hb d_Hart_load_66 (lv_at hl 0 rfl) ?_
        refine lv_iload hx hb d_Hart_load_68 (lv_at hl 1 rfl) ?_
        refine xi (wr := []) (W2 := fun u9 => wH a k n id u9) (xV (rest := []) ⟨hx, hb, hml, hown, hts⟩ (c_Hart_fault a k n id (sp_Hart_locate n id ((σ.2.1 ((sp_Field_rs1 x0).toNatClampNeg)) + (sp_Field_immediate x0)) (shl 1 ((sp_Field_f3 x0) &&& 3)) 1 σ) ((σ.2.1 ((sp_Field_rs1 x0).toNatClampNeg)) + (sp_Field_immediate x0)) σ hn hid) mw_Hart_fault mv_Hart_fault k_333 ⟨rfl, rfl, Nat.le_of_ble_eq_true rfl, Nat.le_of_ble_eq_true rfl⟩ hK hP hD hS hA hF [0, 1, 2, 3, 4, 5, 6, 7, 8] [0, 1, 2, 3, 4] rfl rfl rfl 6 4 rfl rfl rfl rfl hl.1 rfl (Nat.le_of_ble_eq_true rfl) d_Hart_load_70 ⟨Nat.zero_le _, Nat.zero_le _⟩) hP hD hS hA [0, 1, 2, 3, 4, 5, 6, 7, 8] [] [0, 1, 2, 3, 4, 5, 6, 7, 8] rfl rfl rfl (by decide) (fun _ => rfl) rfl (fun r_15 u_15 H locs h_15 hP hD hS => ?_)
        exact ri u_15 hx hb hr hlocks hP hD hS d_Hart_load_73 (by simp only [sp_Hart_load, h_15, if_neg c_2, if_pos c_4, if_neg c_8])
    · refine lv_aload_n hx hb d_Hart_load_15 rfl (lv_at hl 1 rfl) ?_
      refine lv_iload_n hx hb d_Hart_load_16 rfl (lv_at hl 2 rfl) ?_
      refine xi (wr := []) (W2 := fun u9 => wH a k n id u9) (xV (rest := []) ⟨hx, hb, hml, hown, hts⟩ (c_Hart_illegal a k n id x0 σ hn hid) mw_Hart_illegal mv_Hart_illegal k_356 ⟨rfl, rfl, Nat.le_of_ble_eq_true rfl, Nat.le_of_ble_eq_true rfl⟩ hK hP hD hS hA hF [0, 1, 2, 3, 4, 5, 6, 7, 8] [0, 1, 2, 3, 4] rfl rfl rfl 6 4 rfl rfl rfl rfl hl.1 rfl (Nat.le_of_ble_eq_true rfl) d_Hart_load_17 ⟨Nat.zero_le _, Nat.zero_le _⟩) hP hD hS hA [0, 1, 2, 3, 4, 5, 6, 7, 8] [] [0, 1, 2, 3, 4, 5, 6, 7, 8] rfl rfl rfl (by decide) (fun _ => rfl) rfl (fun r_16 u_16 H locs h_16 hP hD hS => ?_)
      exact ri u_16 hx hb hr hlocks hP hD hS d_Hart_load_20 (by simp only [sp_Hart_load, h_16, if_neg c_2, if_neg c_4])
def sp_Hart_computeWithImmediate (n : Nat) (id : Int32) (x0 : Int32) (σ : TH) : Int32 × TH :=
  if (sp_Field_f3 x0) = 5 then
    if (sp_Field_f7 x0) = 32 then
      let r_29 := (sp_Hart_finish n id x0 (shr (σ.2.1 ((sp_Field_rs1 x0).toNatClampNeg)) (sp_Field_rs2 x0)) σ).1
      let u_29 := (sp_Hart_finish n id x0 (shr (σ.2.1 ((sp_Field_rs1 x0).toNatClampNeg)) (sp_Field_rs2 x0)) σ).2
      (r_29, u_29)
    else
      if (sp_Field_f3 x0) = 1 then
        if (sp_Field_f7 x0) = 0 then
          let r_20 := (sp_Hart_finish n id x0 (sp_Alu_plain (sp_Field_f3 x0) (σ.2.1 ((sp_Field_rs1 x0).toNatClampNeg)) (sp_Field_immediate x0)) σ).1
          let u_20 := (sp_Hart_finish n id x0 (sp_Alu_plain (sp_Field_f3 x0) (σ.2.1 ((sp_Field_rs1 x0).toNatClampNeg)) (sp_Field_immediate x0)) σ).2
          (r_20, u_20)
        else
          let r_21 := (sp_Hart_illegal n id x0 σ).1
          let u_21 := (sp_Hart_illegal n id x0 σ).2
          (r_21, u_21)
      else
        if (sp_Field_f7 x0) = 0 then
          let r_26 := (sp_Hart_finish n id x0 (sp_Alu_plain (sp_Field_f3 x0) (σ.2.1 ((sp_Field_rs1 x0).toNatClampNeg)) (sp_Field_immediate x0)) σ).1
          let u_26 := (sp_Hart_finish n id x0 (sp_Alu_plain (sp_Field_f3 x0) (σ.2.1 ((sp_Field_rs1 x0).toNatClampNeg)) (sp_Field_immediate x0)) σ).2
          (r_26, u_26)
        else
          let r_27 := (sp_Hart_illegal n id x0 σ).1
          let u_27 := (sp_Hart_illegal n id x0 σ).2
          (r_27, u_27)
  else
    if (sp_Field_f3 x0) = 1 then
      if (sp_Field_f7 x0) = 0 then
        let r_9 := (sp_Hart_finish n id x0 (sp_Alu_plain (sp_Field_f3 x0) (σ.2.1 ((sp_Field_rs1 x0).toNatClampNeg)) (sp_Field_immediate x0)) σ).1
        let u_9 := (sp_Hart_finish n id x0 (sp_Alu_plain (sp_Field_f3 x0) (σ.2.1 ((sp_Field_rs1 x0).toNatClampNeg)) (sp_Field_immediate x0)) σ).2
        (r_9, u_9)
      else
        let r_10 := (sp_Hart_illegal n id x0 σ).1
        let u_10 := (sp_Hart_illegal n id x0 σ).2
        (r_10, u_10)
    else
      let r_14 := (sp_Hart_finish n id x0 (sp_Alu_plain (sp_Field_f3 x0) (σ.2.1 ((sp_Field_rs1 x0).toNatClampNeg)) (sp_Field_immediate x0)) σ).1
      let u_14 := (sp_Hart_finish n id x0 (sp_Alu_plain (sp_Field_f3 x0) (σ.2.1 ((sp_Field_rs1 x0).toNatClampNeg)) (sp_Field_immediate x0)) σ).2
      (r_14, u_14)
set_option maxHeartbeats 4000000 in
set_option maxRecDepth 100000 in
theorem c_Hart_computeWithImmediate {l : Launch} {D : va_G} {g : Nat → Nat} (a : Nat → Nat) (k : Nat → ClassId) (n : Nat) (id : Int32) (x0 : Int32) (σ : TH) (hn : n ≤ 4096) (hid : id = 0 ∨ id = 1) : CT l D g y_Hart_computeWithImmediate b_Hart_computeWithImmediate 5 (some .int) (rD 2) [.ref (a 6), .int x0] (wH a k n id σ) (tyH k) (Qi D (fun (r : Int32) (u : TH) => sp_Hart_computeWithImmediate n id x0 σ = (r, u)) (fun u => wH a k n id u)) := by
  refine CT.of rfl (Nat.le_of_ble_eq_true rfl) (fun p e s m below meth c A ls hx hb hr hml hts hown hlocks hA hP hK hD hF hS hl => ?_)
  have hl : lv_has ls 5 [(0, .ref (a 6)), (1, .int x0)] := hl
  refine lv_iload_n hx hb d_Hart_computeWithImmediate_0 rfl (lv_at hl 1 rfl) ?_
  refine xi (wr := [((a 0), .inr (1, [.ref (a 3), .ref (a 1), .ref (a 4), .int σ.1.2.2.2.1, .ref (a 5)])), ((a 1), .inr (2, [.ref (a 2)])), ((a 2), .inl ((k 0), 8, .inl σ.1.1)), ((a 3), .inl ((k 1), n, .inl σ.1.2.1)), ((a 4), .inl ((k 2), 256, .inl σ.1.2.2.1)), ((a 5), .inl ((k 3), 2, .inr (.inl σ.1.2.2.2.2))), ((a 6), .inr (4, [.int id, .ref (a 7), .ref (a 8), .int σ.2.2.1, .int σ.2.2.2.1, .int σ.2.2.2.2.1])), ((a 7), .inl ((k 4), 32, .inl σ.2.1)), ((a 8), .inr (3, csF σ.2.2.2.2.2))]) (W2 := fun _ => wH a k n id σ) (xS (rest := []) ⟨hx, hb, hml, hown, hts⟩ (c_Field_f3 x0) mw_Field_f3 ms_Field_f3 k_353 ⟨rfl, rfl, Nat.le_of_ble_eq_true rfl, Nat.le_of_ble_eq_true rfl⟩ hK hP hD hS hA hF [] [] rfl rfl rfl rfl hl.1 rfl (Nat.le_of_ble_eq_true rfl) d_Hart_computeWithImmediate_1 ⟨Nat.zero_le _, Nat.zero_le _⟩) hP hD hS hA [] [0, 1, 2, 3, 4, 5, 6, 7, 8] [0, 1, 2, 3, 4, 5, 6, 7, 8] rfl rfl rfl (by decide) (fun _ => rfl) rfl (fun r_1 _ H locs h_1 hP hD hS => ?_)
  subst h_1
  refine lv_istore_n (lv' := [(2, .int (sp_Field_f3 x0)), (0, .ref (a 6)), (1, .int x0)]) hx hb d_Hart_computeWithImmediate_4 rfl hl (by decide) rfl (fun ls hl => ?_)
  refine lv_iload_n hx hb d_Hart_computeWithImmediate_5 rfl (lv_at hl 2 rfl) ?_
  refine xi (wr := [((a 0), .inr (1, [.ref (a 3), .ref (a 1), .ref (a 4), .int σ.1.2.2.2.1, .ref (a 5)])), ((a 1), .inr (2, [.ref (a 2)])), ((a 2), .inl ((k 0), 8, .inl σ.1.1)), ((a 3), .inl ((k 1), n, .inl σ.1.2.1)), ((a 4), .inl ((k 2), 256, .inl σ.1.2.2.1)), ((a 5), .inl ((k 3), 2, .inr (.inl σ.1.2.2.2.2))), ((a 6), .inr (4, [.int id, .ref (a 7), .ref (a 8), .int σ.2.2.1, .int σ.2.2.2.1, .int σ.2.2.2.2.1])), ((a 7), .inl ((k 4), 32, .inl σ.2.1)), ((a 8), .inr (3, csF σ.2.2.2.2.2))]) (W2 := fun _ => wH a k n id σ) (xS (rest := []) ⟨hx, hb, hml, hown, hts⟩ (c_Field_f7 x0) mw_Field_f7 ms_Field_f7 k_398 ⟨rfl, rfl, Nat.le_of_ble_eq_true rfl, Nat.le_of_ble_eq_true rfl⟩ hK hP hD hS hA hF [] [] rfl rfl rfl rfl hl.1 rfl (Nat.le_of_ble_eq_true rfl) d_Hart_computeWithImmediate_6 ⟨Nat.zero_le _, Nat.zero_le _⟩) hP hD hS hA [] [0, 1, 2, 3, 4, 5, 6, 7, 8] [0, 1, 2, 3, 4, 5, 6, 7, 8] rfl rfl rfl (by decide) (fun _ => rfl) rfl (fun r_2 _ H locs h_2 hP hD hS => ?_)
  subst h_2
  refine lv_istore_n (lv' := [(3, .int (sp_Field_f7 x0)), (2, .int (sp_Field_f3 x0)), (0, .ref (a 6)), (1, .int x0)]) hx hb d_Hart_computeWithImmediate_9 rfl hl (by decide) rfl (fun ls hl => ?_)
  refine lv_aload_n hx hb d_Hart_computeWithImmediate_10 rfl (lv_at hl 2 rfl) ?_
  refine va_get (D := D) (ci := 4) (v := .ref (a 7)) (C := R_Hart) (T := F_Hart) (N := 6) hx hb hts i_Hart hown hK hP 6 rfl rfl 1 (by decide) (hts _ k_144) (fun _ h9 => h9) rfl d_Hart_computeWithImmediate_11 ?_
  refine lv_iload_n hx hb d_Hart_computeWithImmediate_14 rfl (lv_at hl 3 rfl) ?_
  refine xi (wr := [((a 0), .inr (1, [.ref (a 3), .ref (a 1), .ref (a 4), .int σ.1.2.2.2.1, .ref (a 5)])), ((a 1), .inr (2, [.ref (a 2)])), ((a 2), .inl ((k 0), 8, .inl σ.1.1)), ((a 3), .inl ((k 1), n, .inl σ.1.2.1)), ((a 4), .inl ((k 2), 256, .inl σ.1.2.2.1)), ((a 5), .inl ((k 3), 2, .inr (.inl σ.1.2.2.2.2))), ((a 6), .inr (4, [.int id, .ref (a 7), .ref (a 8), .int σ.2.2.1, .int σ.2.2.2.1, .int σ.2.2.2.2.1])), ((a 7), .inl ((k 4), 32, .inl σ.2.1)), ((a 8), .inr (3, csF σ.2.2.2.2.2))]) (W2 := fun _ => wH a k n id σ) (xS (rest := [.ref (a 7)]) ⟨hx, hb, hml, hown, hts⟩ (c_Field_rs1 x0) mw_Field_rs1 ms_Field_rs1 k_360 ⟨rfl, rfl, Nat.le_of_ble_eq_true rfl, Nat.le_of_ble_eq_true rfl⟩ hK hP hD hS hA hF [] [] rfl rfl rfl rfl hl.1 rfl (Nat.le_of_ble_eq_true rfl) d_Hart_computeWithImmediate_15 ⟨Nat.zero_le _, Nat.zero_le _⟩) hP hD hS hA [] [0, 1, 2, 3, 4, 5, 6, 7, 8] [0, 1, 2, 3, 4, 5, 6, 7, 8] rfl rfl rfl (by decide) (fun _ => rfl) rfl (fun r_3 _ H locs h_3 hP hD hS => ?_)
  subst h_3
  refine y_iald (v := σ.2.1 ((sp_Field_rs1 x0).toNatClampNeg)) hx hb hK hP 7 4 rfl rfl (vp_rs1 _) rfl d_Hart_computeWithImmediate_18 ?_
  refine lv_istore (lv' := [(4, .int (σ.2.1 ((sp_Field_rs1 x0).toNatClampNeg))), (3, .int (sp_Field_f7 x0)), (2, .int (sp_Field_f3 x0)), (0, .ref (a 6)), (1, .int x0)]) hx hb d_Hart_computeWithImmediate_19 hl (by decide) rfl (fun ls hl => ?_)
  refine lv_iload_n hx hb d_Hart_computeWithImmediate_21 rfl (lv_at hl 2 rfl) ?_
  refine lv_iconst (v := 5) hx hb d_Hart_computeWithImmediate_22 rfl ?_
  refine lv_icmp_ne (tgt := 45) hx hb d_Hart_computeWithImmediate_23 (by decide) (fun c_4 => ?_) (fun c_4 => ?_)
  · refine lv_iload_n hx hb d_Hart_computeWithImmediate_45 rfl (lv_at hl 2 rfl) ?_
    refine lv_iconst (v := 1) hx hb d_Hart_computeWithImmediate_46 rfl ?_
    refine lv_icmp_eq (tgt := 55) hx hb d_Hart_computeWithImmediate_47 (by decide) (fun c_5 => ?_) (fun c_5 => ?_)
    · refine lv_iload_n hx hb d_Hart_computeWithImmediate_55 rfl (lv_at hl 1 rfl) ?_
      refine lv_if_eq (tgt := 65) hx hb d_Hart_computeWithImmediate_56 (by decide) (fun c_6 => ?_) (fun c_6 => ?_)
      · refine lv_aload_n hx hb d_Hart_computeWithImmediate_65 rfl (lv_at hl 3 rfl) ?_
        refine lv_iload_n hx hb d_Hart_computeWithImmediate_66 rfl (lv_at hl 4 rfl) ?_
        refine lv_iload_n hx hb d_Hart_computeWithImmediate_67 rfl (lv_at hl 2 rfl) ?_
        refine lv_iload hx hb d_Hart_computeWithImmediate_68 (lv_at hl 0 rfl) ?_
        refine lv_iload_n hx hb d_Hart_computeWithImmediate_70 rfl (lv_at hl 4 rfl) ?_
        refine xi (wr := [((a 0), .inr (1, [.ref (a 3), .ref (a 1), .ref (a 4), .int σ.1.2.2.2.1, .ref (a 5)])), ((a 1), .inr (2, [.ref (a 2)])), ((a 2), .inl ((k 0), 8, .inl σ.1.1)), ((a 3), .inl ((k 1), n, .inl σ.1.2.1)), ((a 4), .inl ((k 2), 256, .inl σ.1.2.2.1)), ((a 5), .inl ((k 3), 2, .inr (.inl σ.1.2.2.2.2))), ((a 6), .inr (4, [.int id, .ref (a 7), .ref (a 8), .int σ.2.2.1, .int σ.2.2.2.1, .int σ.2.2.2.2.1])), ((a 7), .inl ((k 4), 32, .inl σ.2.1)), ((a 8), .inr (3, csF σ.2.2.2.2.2))]) (W2 := fun _ => wH a k n id σ) (xS (rest := [.int (σ.2.1 ((sp_Field_rs1 x0).toNatClampNeg)), .int (sp_Field_f3 x0), .int x0, .ref (a 6)]) ⟨hx, hb, hml, hown, hts⟩ (c_Field_immediate x0) mw_Field_immediate ms_Field_immediate k_363 ⟨rfl, rfl, Nat.le_of_ble_eq_true rfl, Nat.le_of_ble_eq_true rfl⟩ hK hP hD hS hA hF [] [] rfl rfl rfl rfl hl.1 rfl (Nat.le_of_ble_eq_true rfl) d_Hart_computeWithImmediate_71 ⟨Nat.zero_le _, Nat.zero_le _⟩) hP hD hS hA [] [0, 1, 2, 3, 4, 5, 6, 7, 8] [0, 1, 2, 3, 4, 5, 6, 7, 8] rfl rfl rfl (by decide) (fun _ => rfl) rfl (fun r_7 _ H locs h_7 hP hD hS => ?_)
        subst h_7
        refine xi (wr := [((a 0), .inr (1, [.ref (a 3), .ref (a 1), .ref (a 4), .int σ.1.2.2.2.1, .ref (a 5)])), ((a 1), .inr (2, [.ref (a 2)])), ((a 2), .inl ((k 0), 8, .inl σ.1.1)), ((a 3), .inl ((k 1), n, .inl σ.1.2.1)), ((a 4), .inl ((k 2), 256, .inl σ.1.2.2.1)), ((a 5), .inl ((k 3), 2, .inr (.inl σ.1.2.2.2.2))), ((a 6), .inr (4, [.int id, .ref (a 7), .ref (a 8), .int σ.2.2.1, .int σ.2.2.2.1, .int σ.2.2.2.2.1])), ((a 7), .inl ((k 4), 32, .inl σ.2.1)), ((a 8), .inr (3, csF σ.2.2.2.2.2))]) (W2 := fun _ => wH a k n id σ) (xS (rest := [.int x0, .ref (a 6)]) ⟨hx, hb, hml, hown, hts⟩ (c_Alu_plain (sp_Field_f3 x0) (σ.2.1 ((sp_Field_rs1 x0).toNatClampNeg)) (sp_Field_immediate x0)) mw_Alu_plain ms_Alu_plain k_404 ⟨rfl, rfl, Nat.le_of_ble_eq_true rfl, Nat.le_of_ble_eq_true rfl⟩ hK hP hD hS hA hF [] [] rfl rfl rfl rfl hl.1 rfl (Nat.le_of_ble_eq_true rfl) d_Hart_computeWithImmediate_74 ⟨Nat.zero_le _, Nat.zero_le _⟩) hP hD hS hA [] [0, 1, 2, 3, 4, 5, 6, 7, 8] [0, 1, 2, 3, 4, 5, 6, 7, 8] rfl rfl rfl (by decide) (fun _ => rfl) rfl (fun r_8 _ H locs h_8 hP hD hS => ?_)
        subst h_8
        refine xi (wr := []) (W2 := fun u9 => wH a k n id u9) (xV (rest := []) ⟨hx, hb, hml, hown, hts⟩ (c_Hart_finish a k n id x0 (sp_Alu_plain (sp_Field_f3 x0) (σ.2.1 ((sp_Field_rs1 x0).toNatClampNeg)) (sp_Field_immediate x0)) σ hn hid) mw_Hart_finish mv_Hart_finish k_379 ⟨rfl, rfl, Nat.le_of_ble_eq_true rfl, Nat.le_of_ble_eq_true rfl⟩ hK hP hD hS hA hF [0, 1, 2, 3, 4, 5, 6, 7, 8] [0, 1, 2, 3, 4] rfl rfl rfl 6 4 rfl rfl rfl rfl hl.1 rfl (Nat.le_of_ble_eq_true rfl) d_Hart_computeWithImmediate_77 ⟨Nat.zero_le _, Nat.zero_le _⟩) hP hD hS hA [0, 1, 2, 3, 4, 5, 6, 7, 8] [] [0, 1, 2, 3, 4, 5, 6, 7, 8] rfl rfl rfl (by decide) (fun _ => rfl) rfl (fun r_9 u_9 H locs h_9 hP hD hS => ?_)
        exact ri u_9 hx hb hr hlocks hP hD hS d_Hart_computeWithImmediate_80 (by simp only [sp_Hart_computeWithImmediate, h_9, if_neg c_4, if_pos c_5, if_pos c_6])
      · refine lv_aload_n hx hb d_Hart_computeWithImmediate_59 rfl (lv_at hl 3 rfl) ?_
        refine lv_iload_n hx hb d_Hart_computeWithImmediate_60 rfl (lv_at hl 4 rfl) ?_
        refine xi (wr := []) (W2 := fun u9 => wH a k n id u9) (xV (rest := []) ⟨hx, hb, hml, hown, hts⟩ (c_Hart_illegal a k n id x0 σ hn hid) mw_Hart_illegal mv_Hart_illegal k_356 ⟨rfl, rfl, Nat.le_of_ble_eq_true rfl, Nat.le_of_ble_eq_true rfl⟩ hK hP hD hS hA hF [0, 1, 2, 3, 4, 5, 6, 7, 8] [0, 1, 2, 3, 4] rfl rfl rfl 6 4 rfl rfl rfl rfl hl.1 rfl (Nat.le_of_ble_eq_true rfl) d_Hart_computeWithImmediate_61 ⟨Nat.zero_le _, Nat.zero_le _⟩) hP hD hS hA [0, 1, 2, 3, 4, 5, 6, 7, 8] [] [0, 1, 2, 3, 4, 5, 6, 7, 8] rfl rfl rfl (by decide) (fun _ => rfl) rfl (fun r_10 u_10 H locs h_10 hP hD hS => ?_)
        exact ri u_10 hx hb hr hlocks hP hD hS d_Hart_computeWithImmediate_64 (by simp only [sp_Hart_computeWithImmediate, h_10, if_neg c_4, if_pos c_5, if_neg c_6])
    · refine lv_iload_n hx hb d_Hart_computeWithImmediate_50 rfl (lv_at hl 2 rfl) ?_
      refine lv_iconst (v := 5) hx hb d_Hart_computeWithImmediate_51 rfl ?_
      refine lv_icmp_ne (tgt := 65) hx hb d_Hart_computeWithImmediate_52 (by decide) (fun _ => ?_) (fun h9 => absurd h9 c_4)
      refine lv_aload_n hx hb d_Hart_computeWithImmediate_65 rfl (lv_at hl 3 rfl) ?_
      refine lv_iload_n hx hb d_Hart_computeWithImmediate_66 rfl (lv_at hl 4 rfl) ?_
      refine lv_iload_n hx hb d_Hart_computeWithImmediate_67 rfl (lv_at hl 2 rfl) ?_
      refine lv_iload hx hb d_Hart_computeWithImmediate_68 (lv_at hl 0 rfl) ?_
      refine lv_iload_n hx hb d_Hart_computeWithImmediate_70 rfl (lv_at hl 4 rfl) ?_
      refine xi (wr := [((a 0), .inr (1, [.ref (a 3), .ref (a 1), .ref (a 4), .int σ.1.2.2.2.1, .ref (a 5)])), ((a 1), .inr (2, [.ref (a 2)])), ((a 2), .inl ((k 0), 8, .inl σ.1.1)), ((a 3), .inl ((k 1), n, .inl σ.1.2.1)), ((a 4), .inl ((k 2), 256, .inl σ.1.2.2.1)), ((a 5), .inl ((k 3), 2, .inr (.inl σ.1.2.2.2.2))), ((a 6), .inr (4, [.int id, .ref (a 7), .ref (a 8), .int σ.2.2.1, .int σ.2.2.2.1, .int σ.2.2.2.2.1])), ((a 7), .inl ((k 4), 32, .inl σ.2.1)), ((a 8), .inr (3, csF σ.2.2.2.2.2))]) (W2 := fun _ => wH a k n id σ) (xS (rest := [.int (σ.2.1 ((sp_Field_rs1 x0).toNatClampNeg)), .int (sp_Field_f3 x0), .int x0, .ref (a 6)]) ⟨hx, hb, hml, hown, hts⟩ (c_Field_immediate x0) mw_Field_immediate ms_Field_immediate k_363 ⟨rfl, rfl, Nat.le_of_ble_eq_true rfl, Nat.le_of_ble_eq_true rfl⟩ hK hP hD hS hA hF [] [] rfl rfl rfl rfl hl.1 rfl (Nat.le_of_ble_eq_true rfl) d_Hart_computeWithImmediate_71 ⟨Nat.zero_le _, Nat.zero_le _⟩) hP hD hS hA [] [0, 1, 2, 3, 4, 5, 6, 7, 8] [0, 1, 2, 3, 4, 5, 6, 7, 8] rfl rfl rfl (by decide) (fun _ => rfl) rfl (fun r_12 _ H locs h_12 hP hD hS => ?_)
      subst h_12
      refine xi (wr := [((a 0), .inr (1, [.ref (a 3), .ref (a 1), .ref (a 4), .int σ.1.2.2.2.1, .ref (a 5)])), ((a 1), .inr (2, [.ref (a 2)])), ((a 2), .inl ((k 0), 8, .inl σ.1.1)), ((a 3), .inl ((k 1), n, .inl σ.1.2.1)), ((a 4), .inl ((k 2), 256, .inl σ.1.2.2.1)), ((a 5), .inl ((k 3), 2, .inr (.inl σ.1.2.2.2.2))), ((a 6), .inr (4, [.int id, .ref (a 7), .ref (a 8), .int σ.2.2.1, .int σ.2.2.2.1, .int σ.2.2.2.2.1])), ((a 7), .inl ((k 4), 32, .inl σ.2.1)), ((a 8), .inr (3, csF σ.2.2.2.2.2))]) (W2 := fun _ => wH a k n id σ) (xS (rest := [.int x0, .ref (a 6)]) ⟨hx, hb, hml, hown, hts⟩ (c_Alu_plain (sp_Field_f3 x0) (σ.2.1 ((sp_Field_rs1 x0).toNatClampNeg)) (sp_Field_immediate x0)) mw_Alu_plain ms_Alu_plain k_404 ⟨rfl, rfl, Nat.le_of_ble_eq_true rfl, Nat.le_of_ble_eq_true rfl⟩ hK hP hD hS hA hF [] [] rfl rfl rfl rfl hl.1 rfl (Nat.le_of_ble_eq_true rfl) d_Hart_computeWithImmediate_74 ⟨Nat.zero_le _, Nat.zero_le _⟩) hP hD hS hA [] [0, 1, 2, 3, 4, 5, 6, 7, 8] [0, 1, 2, 3, 4, 5, 6, 7, 8] rfl rfl rfl (by decide) (fun _ => rfl) rfl (fun r_13 _ H locs h_13 hP hD hS => ?_)
      subst h_13
      refine xi (wr := []) (W2 := fun u9 => wH a k n id u9) (xV (rest := []) ⟨hx, hb, hml, hown, hts⟩ (c_Hart_finish a k n id x0 (sp_Alu_plain (sp_Field_f3 x0) (σ.2.1 ((sp_Field_rs1 x0).toNatClampNeg)) (sp_Field_immediate x0)) σ hn hid) mw_Hart_finish mv_Hart_finish k_379 ⟨rfl, rfl, Nat.le_of_ble_eq_true rfl, Nat.le_of_ble_eq_true rfl⟩ hK hP hD hS hA hF [0, 1, 2, 3, 4, 5, 6, 7, 8] [0, 1, 2, 3, 4] rfl rfl rfl 6 4 rfl rfl rfl rfl hl.1 rfl (Nat.le_of_ble_eq_true rfl) d_Hart_computeWithImmediate_77 ⟨Nat.zero_le _, Nat.zero_le _⟩) hP hD hS hA [0, 1, 2, 3, 4, 5, 6, 7, 8] [] [0, 1, 2, 3, 4, 5, 6, 7, 8] rfl rfl rfl (by decide) (fun _ => rfl) rfl (fun r_14 u_14 H locs h_14 hP hD hS => ?_)
      exact ri u_14 hx hb hr hlocks hP hD hS d_Hart_computeWithImmediate_80 (by simp only [sp_Hart_computeWithImmediate, h_14, if_neg c_4, if_neg c_5])
  · refine lv_iload_n hx hb d_Hart_computeWithImmediate_26 rfl (lv_at hl 1 rfl) ?_
    refine lv_bipush (v := 32) hx hb d_Hart_computeWithImmediate_27 rfl ?_
    refine lv_icmp_ne (tgt := 45) hx hb d_Hart_computeWithImmediate_29 (by decide) (fun c_15 => ?_) (fun c_15 => ?_)
    · refine lv_iload_n hx hb d_Hart_computeWithImmediate_45 rfl (lv_at hl 2 rfl) ?_
      refine lv_iconst (v := 1) hx hb d_Hart_computeWithImmediate_46 rfl ?_
      refine lv_icmp_eq (tgt := 55) hx hb d_Hart_computeWithImmediate_47 (by decide) (fun c_16 => ?_) (fun c_16 => ?_)
      · refine lv_iload_n hx hb d_Hart_computeWithImmediate_55 rfl (lv_at hl 1 rfl) ?_
        refine lv_if_eq (tgt := 65) hx hb d_Hart_computeWithImmediate_56 (by decide) (fun c_17 => ?_) (fun c_17 => ?_)
        · refine lv_aload_n hx hb d_Hart_computeWithImmediate_65 rfl (lv_at hl 3 rfl) ?_
          refine lv_iload_n hx hb d_Hart_computeWithImmediate_66 rfl (lv_at hl 4 rfl) ?_
          refine lv_iload_n hx hb d_Hart_computeWithImmediate_67 rfl (lv_at hl 2 rfl) ?_
          refine lv_iload hx hb d_Hart_computeWithImmediate_68 (lv_at hl 0 rfl) ?_
          refine lv_iload_n hx hb d_Hart_computeWithImmediate_70 rfl (lv_at hl 4 rfl) ?_
          refine xi (wr := [((a 0), .inr (1, [.ref (a 3), .ref (a 1), .ref (a 4), .int σ.1.2.2.2.1, .ref (a 5)])), ((a 1), .inr (2, [.ref (a 2)])), ((a 2), .inl ((k 0), 8, .inl σ.1.1)), ((a 3), .inl ((k 1), n, .inl σ.1.2.1)), ((a 4), .inl ((k 2), 256, .inl σ.1.2.2.1)), ((a 5), .inl ((k 3), 2, .inr (.inl σ.1.2.2.2.2))), ((a 6), .inr (4, [.int id, .ref (a 7), .ref (a 8), .int σ.2.2.1, .int σ.2.2.2.1, .int σ.2.2.2.2.1])), ((a 7), .inl ((k 4), 32, .inl σ.2.1)), ((a 8), .inr (3, csF σ.2.2.2.2.2))]) (W2 := fun _ => wH a k n id σ) (xS (rest := [.int (σ.2.1 ((sp_Field_rs1 x0).toNatClampNeg)), .int (sp_Field_f3 x0), .int x0, .ref (a 6)]) ⟨hx, hb, hml, hown, hts⟩ (c_Field_immediate x0) mw_Field_immediate ms_Field_immediate k_363 ⟨rfl, rfl, Nat.le_of_ble_eq_true rfl, Nat.le_of_ble_eq_true rfl⟩ hK hP hD hS hA hF [] [] rfl rfl rfl rfl hl.1 rfl (Nat.le_of_ble_eq_true rfl) d_Hart_computeWithImmediate_71 ⟨Nat.zero_le _, Nat.zero_le _⟩) hP hD hS hA [] [0, 1, 2, 3, 4, 5, 6, 7, 8] [0, 1, 2, 3, 4, 5, 6, 7, 8] rfl rfl rfl (by decide) (fun _ => rfl) rfl (fun r_18 _ H locs h_18 hP hD hS => ?_)
          subst h_18
          refine xi (wr := [((a 0), .inr (1, [.ref (a 3), .ref (a 1), .ref (a 4), .int σ.1.2.2.2.1, .ref (a 5)])), ((a 1), .inr (2, [.ref (a 2)])), ((a 2), .inl ((k 0), 8, .inl σ.1.1)), ((a 3), .inl ((k 1), n, .inl σ.1.2.1)), ((a 4), .inl ((k 2), 256, .inl σ.1.2.2.1)), ((a 5), .inl ((k 3), 2, .inr (.inl σ.1.2.2.2.2))), ((a 6), .inr (4, [.int id, .ref (a 7), .ref (a 8), .int σ.2.2.1, .int σ.2.2.2.1, .int σ.2.2.2.2.1])), ((a 7), .inl ((k 4), 32, .inl σ.2.1)), ((a 8), .inr (3, csF σ.2.2.2.2.2))]) (W2 := fun _ => wH a k n id σ) (xS (rest := [.int x0, .ref (a 6)]) ⟨hx, hb, hml, hown, hts⟩ (c_Alu_plain (sp_Field_f3 x0) (σ.2.1 ((sp_Field_rs1 x0).toNatClampNeg)) (sp_Field_immediate x0)) mw_Alu_plain ms_Alu_plain k_404 ⟨rfl, rfl, Nat.le_of_ble_eq_true rfl, Nat.le_of_ble_eq_true rfl⟩ hK hP hD hS hA hF [] [] rfl rfl rfl rfl hl.1 rfl (Nat.le_of_ble_eq_true rfl) d_Hart_computeWithImmediate_74 ⟨Nat.zero_le _, Nat.zero_le _⟩) hP hD hS hA [] [0, 1, 2, 3, 4, 5, 6, 7, 8] [0, 1, 2, 3, 4, 5, 6, 7, 8] rfl rfl rfl (by decide) (fun _ => rfl) rfl (fun r_19 _ H locs h_19 hP hD hS => ?_)
          subst h_19
          refine xi (wr := []) (W2 := fun u9 => wH a k n id u9) (xV (rest := []) ⟨hx, hb, hml, hown, hts⟩ (c_Hart_finish a k n id x0 (sp_Alu_plain (sp_Field_f3 x0) (σ.2.1 ((sp_Field_rs1 x0).toNatClampNeg)) (sp_Field_immediate x0)) σ hn hid) mw_Hart_finish mv_Hart_finish k_379 ⟨rfl, rfl, Nat.le_of_ble_eq_true rfl, Nat.le_of_ble_eq_true rfl⟩ hK hP hD hS hA hF [0, 1, 2, 3, 4, 5, 6, 7, 8] [0, 1, 2, 3, 4] rfl rfl rfl 6 4 rfl rfl rfl rfl hl.1 rfl (Nat.le_of_ble_eq_true rfl) d_Hart_computeWithImmediate_77 ⟨Nat.zero_le _, Nat.zero_le _⟩) hP hD hS hA [0, 1, 2, 3, 4, 5, 6, 7, 8] [] [0, 1, 2, 3, 4, 5, 6, 7, 8] rfl rfl rfl (by decide) (fun _ => rfl) rfl (fun r_20 u_20 H locs h_20 hP hD hS => ?_)
          exact ri u_20 hx hb hr hlocks hP hD hS d_Hart_computeWithImmediate_80 (by simp only [sp_Hart_computeWithImmediate, h_20, if_pos c_4, if_neg c_15, if_pos c_16, if_pos c_17])
        · refine lv_aload_n hx hb d_Hart_computeWithImmediate_59 rfl (lv_at hl 3 rfl) ?_
          refine lv_iload_n hx hb d_Hart_computeWithImmediate_60 rfl (lv_at hl 4 rfl) ?_
          refine xi (wr := []) (W2 := fun u9 => wH a k n id u9) (xV (rest := []) ⟨hx, hb, hml, hown, hts⟩ (c_Hart_illegal a k n id x0 σ hn hid) mw_Hart_illegal mv_Hart_illegal k_356 ⟨rfl, rfl, Nat.le_of_ble_eq_true rfl, Nat.le_of_ble_eq_true rfl⟩ hK hP hD hS hA hF [0, 1, 2, 3, 4, 5, 6, 7, 8] [0, 1, 2, 3, 4] rfl rfl rfl 6 4 rfl rfl rfl rfl hl.1 rfl (Nat.le_of_ble_eq_true rfl) d_Hart_computeWithImmediate_61 ⟨Nat.zero_le _, Nat.zero_le _⟩) hP hD hS hA [0, 1, 2, 3, 4, 5, 6, 7, 8] [] [0, 1, 2, 3, 4, 5, 6, 7, 8] rfl rfl rfl (by decide) (fun _ => rfl) rfl (fun r_21 u_21 H locs h_21 hP hD hS => ?_)
          exact ri u_21 hx hb hr hlocks hP hD hS d_Hart_computeWithImmediate_64 (by simp only [sp_Hart_computeWithImmediate, h_21, if_pos c_4, if_neg c_15, if_pos c_16, if_neg c_17])
      · refine lv_iload_n hx hb d_Hart_computeWithImmediate_50 rfl (lv_at hl 2 rfl) ?_
        refine lv_iconst (v := 5) hx hb d_Hart_computeWithImmediate_51 rfl ?_
        refine lv_icmp_ne (tgt := 65) hx hb d_Hart_computeWithImmediate_52 (by decide) (fun h9 => absurd c_4 h9) (fun _ => ?_)
        refine lv_iload_n hx hb d_Hart_computeWithImmediate_55 rfl (lv_at hl 1 rfl) ?_
        refine lv_if_eq (tgt := 65) hx hb d_Hart_computeWithImmediate_56 (by decide) (fun c_23 => ?_) (fun c_23 => ?_)
        · refine lv_aload_n hx hb d_Hart_computeWithImmediate_65 rfl (lv_at hl 3 rfl) ?_
          refine lv_iload_n hx hb d_Hart_computeWithImmediate_66 rfl (lv_at hl 4 rfl) ?_
          refine lv_iload_n hx hb d_Hart_computeWithImmediate_67 rfl (lv_at hl 2 rfl) ?_
          refine lv_iload hx hb d_Hart_computeWithImmediate_68 (lv_at hl 0 rfl) ?_
          refine lv_iload_n hx hb d_Hart_computeWithImmediate_70 rfl (lv_at hl 4 rfl) ?_
          refine xi (wr := [((a 0), .inr (1, [.ref (a 3), .ref (a 1), .ref (a 4), .int σ.1.2.2.2.1, .ref (a 5)])), ((a 1), .inr (2, [.ref (a 2)])), ((a 2), .inl ((k 0), 8, .inl σ.1.1)), ((a 3), .inl ((k 1), n, .inl σ.1.2.1)), ((a 4), .inl ((k 2), 256, .inl σ.1.2.2.1)), ((a 5), .inl ((k 3), 2, .inr (.inl σ.1.2.2.2.2))), ((a 6), .inr (4, [.int id, .ref (a 7), .ref (a 8), .int σ.2.2.1, .int σ.2.2.2.1, .int σ.2.2.2.2.1])), ((a 7), .inl ((k 4), 32, .inl σ.2.1)), ((a 8), .inr (3, csF σ.2.2.2.2.2))]) (W2 := fun _ => wH a k n id σ) (xS (rest := [.int (σ.2.1 ((sp_Field_rs1 x0).toNatClampNeg)), .int (sp_Field_f3 x0), .int x0, .ref (a 6)]) ⟨hx, hb, hml, hown, hts⟩ (c_Field_immediate x0) mw_Field_immediate ms_Field_immediate k_363 ⟨rfl, rfl, Nat.le_of_ble_eq_true rfl, Nat.le_of_ble_eq_true rfl⟩ hK hP hD hS hA hF [] [] rfl rfl rfl rfl hl.1 rfl (Nat.le_of_ble_eq_true rfl) d_Hart_computeWithImmediate_71 ⟨Nat.zero_le _, Nat.zero_le _⟩) hP hD hS hA [] [0, 1, 2, 3, 4, 5, 6, 7, 8] [0, 1, 2, 3, 4, 5, 6, 7, 8] rfl rfl rfl (by decide) (fun _ => rfl) rfl (fun r_24 _ H locs h_24 hP hD hS => ?_)
          subst h_24
          refine xi (wr := [((a 0), .inr (1, [.ref (a 3), .ref (a 1), .ref (a 4), .int σ.1.2.2.2.1, .ref (a 5)])), ((a 1), .inr (2, [.ref (a 2)])), ((a 2), .inl ((k 0), 8, .inl σ.1.1)), ((a 3), .inl ((k 1), n, .inl σ.1.2.1)), ((a 4), .inl ((k 2), 256, .inl σ.1.2.2.1)), ((a 5), .inl ((k 3), 2, .inr (.inl σ.1.2.2.2.2))), ((a 6), .inr (4, [.int id, .ref (a 7), .ref (a 8), .int σ.2.2.1, .int σ.2.2.2.1, .int σ.2.2.2.2.1])), ((a 7), .inl ((k 4), 32, .inl σ.2.1)), ((a 8), .inr (3, csF σ.2.2.2.2.2))]) (W2 := fun _ => wH a k n id σ) (xS (rest := [.int x0, .ref (a 6)]) ⟨hx, hb, hml, hown, hts⟩ (c_Alu_plain (sp_Field_f3 x0) (σ.2.1 ((sp_Field_rs1 x0).toNatClampNeg)) (sp_Field_immediate x0)) mw_Alu_plain ms_Alu_plain k_404 ⟨rfl, rfl, Nat.le_of_ble_eq_true rfl, Nat.le_of_ble_eq_true rfl⟩ hK hP hD hS hA hF [] [] rfl rfl rfl rfl hl.1 rfl (Nat.le_of_ble_eq_true rfl) d_Hart_computeWithImmediate_74 ⟨Nat.zero_le _, Nat.zero_le _⟩) hP hD hS hA [] [0, 1, 2, 3, 4, 5, 6, 7, 8] [0, 1, 2, 3, 4, 5, 6, 7, 8] rfl rfl rfl (by decide) (fun _ => rfl) rfl (fun r_25 _ H locs h_25 hP hD hS => ?_)
          subst h_25
          refine xi (wr := []) (W2 := fun u9 => wH a k n id u9) (xV (rest := []) ⟨hx, hb, hml, hown, hts⟩ (c_Hart_finish a k n id x0 (sp_Alu_plain (sp_Field_f3 x0) (σ.2.1 ((sp_Field_rs1 x0).toNatClampNeg)) (sp_Field_immediate x0)) σ hn hid) mw_Hart_finish mv_Hart_finish k_379 ⟨rfl, rfl, Nat.le_of_ble_eq_true rfl, Nat.le_of_ble_eq_true rfl⟩ hK hP hD hS hA hF [0, 1, 2, 3, 4, 5, 6, 7, 8] [0, 1, 2, 3, 4] rfl rfl rfl 6 4 rfl rfl rfl rfl hl.1 rfl (Nat.le_of_ble_eq_true rfl) d_Hart_computeWithImmediate_77 ⟨Nat.zero_le _, Nat.zero_le _⟩) hP hD hS hA [0, 1, 2, 3, 4, 5, 6, 7, 8] [] [0, 1, 2, 3, 4, 5, 6, 7, 8] rfl rfl rfl (by decide) (fun _ => rfl) rfl (fun r_26 u_26 H locs h_26 hP hD hS => ?_)
          exact ri u_26 hx hb hr hlocks hP hD hS d_Hart_computeWithImmediate_80 (by simp only [sp_Hart_computeWithImmediate, h_26, if_pos c_4, if_neg c_15, if_neg c_16, if_pos c_23])
        · refine lv_aload_n hx hb d_Hart_computeWithImmediate_59 rfl (lv_at hl 3 rfl) ?_
          refine lv_iload_n hx hb d_Hart_computeWithImmediate_60 rfl (lv_at hl 4 rfl) ?_
          refine xi (wr := []) (W2 := fun u9 => wH a k n id u9) (xV (rest := []) ⟨hx, hb, hml, hown, hts⟩ (c_Hart_illegal a k n id x0 σ hn hid) mw_Hart_illegal mv_Hart_illegal k_356 ⟨rfl, rfl, Nat.le_of_ble_eq_true rfl, Nat.le_of_ble_eq_true rfl⟩ hK hP hD hS hA hF [0, 1, 2, 3, 4, 5, 6, 7, 8] [0, 1, 2, 3, 4] rfl rfl rfl 6 4 rfl rfl rfl rfl hl.1 rfl (Nat.le_of_ble_eq_true rfl) d_Hart_computeWithImmediate_61 ⟨Nat.zero_le _, Nat.zero_le _⟩) hP hD hS hA [0, 1, 2, 3, 4, 5, 6, 7, 8] [] [0, 1, 2, 3, 4, 5, 6, 7, 8] rfl rfl rfl (by decide) (fun _ => rfl) rfl (fun r_27 u_27 H locs h_27 hP hD hS => ?_)
          exact ri u_27 hx hb hr hlocks hP hD hS d_Hart_computeWithImmediate_64 (by simp only [sp_Hart_computeWithImmediate, h_27, if_pos c_4, if_neg c_15, if_neg c_16, if_neg c_23])
    · refine lv_aload_n hx hb d_Hart_computeWithImmediate_32 rfl (lv_at hl 3 rfl) ?_
      refine lv_iload_n hx hb d_Hart_computeWithImmediate_33 rfl (lv_at hl 4 rfl) ?_
      refine lv_iload hx hb d_Hart_computeWithImmediate_34 (lv_at hl 0 rfl) ?_
      refine lv_iload_n hx hb d_Hart_computeWithImmediate_36 rfl (lv_at hl 4 rfl) ?_
      refine xi (wr := [((a 0), .inr (1, [.ref (a 3), .ref (a 1), .ref (a 4), .int σ.1.2.2.2.1, .ref (a 5)])), ((a 1), .inr (2, [.ref (a 2)])), ((a 2), .inl ((k 0), 8, .inl σ.1.1)), ((a 3), .inl ((k 1), n, .inl σ.1.2.1)), ((a 4), .inl ((k 2), 256, .inl σ.1.2.2.1)), ((a 5), .inl ((k 3), 2, .inr (.inl σ.1.2.2.2.2))), ((a 6), .inr (4, [.int id, .ref (a 7), .ref (a 8), .int σ.2.2.1, .int σ.2.2.2.1, .int σ.2.2.2.2.1])), ((a 7), .inl ((k 4), 32, .inl σ.2.1)), ((a 8), .inr (3, csF σ.2.2.2.2.2))]) (W2 := fun _ => wH a k n id σ) (xS (rest := [.int (σ.2.1 ((sp_Field_rs1 x0).toNatClampNeg)), .int x0, .ref (a 6)]) ⟨hx, hb, hml, hown, hts⟩ (c_Field_rs2 x0) mw_Field_rs2 ms_Field_rs2 k_401 ⟨rfl, rfl, Nat.le_of_ble_eq_true rfl, Nat.le_of_ble_eq_true rfl⟩ hK hP hD hS hA hF [] [] rfl rfl rfl rfl hl.1 rfl (Nat.le_of_ble_eq_true rfl) d_Hart_computeWithImmediate_37 ⟨Nat.zero_le _, Nat.zero_le _⟩) hP hD hS hA [] [0, 1, 2, 3, 4, 5, 6, 7, 8] [0, 1, 2, 3, 4, 5, 6, 7, 8] rfl rfl rfl (by decide) (fun _ => rfl) rfl (fun r_28 _ H locs h_28 hP hD hS => ?_)
      subst h_28
      refine y_ishr hx hb d_Hart_computeWithImmediate_40 ?_
      refine xi (wr := []) (W2 := fun u9 => wH a k n id u9) (xV (rest := []) ⟨hx, hb, hml, hown, hts⟩ (c_Hart_finish a k n id x0 (shr (σ.2.1 ((sp_Field_rs1 x0).toNatClampNeg)) (sp_Field_rs2 x0)) σ hn hid) mw_Hart_finish mv_Hart_finish k_379 ⟨rfl, rfl, Nat.le_of_ble_eq_true rfl, Nat.le_of_ble_eq_true rfl⟩ hK hP hD hS hA hF [0, 1, 2, 3, 4, 5, 6, 7, 8] [0, 1, 2, 3, 4] rfl rfl rfl 6 4 rfl rfl rfl rfl hl.1 rfl (Nat.le_of_ble_eq_true rfl) d_Hart_computeWithImmediate_41 ⟨Nat.zero_le _, Nat.zero_le _⟩) hP hD hS hA [0, 1, 2, 3, 4, 5, 6, 7, 8] [] [0, 1, 2, 3, 4, 5, 6, 7, 8] rfl rfl rfl (by decide) (fun _ => rfl) rfl (fun r_29 u_29 H locs h_29 hP hD hS => ?_)
      exact ri u_29 hx hb hr hlocks hP hD hS d_Hart_computeWithImmediate_44 (by simp only [sp_Hart_computeWithImmediate, h_29, if_pos c_4, if_pos c_15])
def sp_Hart_store (n : Nat) (id : Int32) (x0 : Int32) (σ : TH) : Int32 × TH :=
  if (sp_Field_f3 x0) ≤ 2 then
    if 0 ≤ (sp_Hart_locate n id ((σ.2.1 ((sp_Field_rs1 x0).toNatClampNeg)) + (sp_Field_storeOffset x0)) (shl 1 (sp_Field_f3 x0)) 2 σ) then
      let u_8 := sp_Memory_store n (sp_Hart_locate n id ((σ.2.1 ((sp_Field_rs1 x0).toNatClampNeg)) + (sp_Field_storeOffset x0)) (shl 1 (sp_Field_f3 x0)) 2 σ) (shl 1 (sp_Field_f3 x0)) (σ.2.1 ((sp_Field_rs2 x0).toNatClampNeg)) σ.1
      let r_9 := (sp_Hart_goOn n id (u_8, σ.2.1, σ.2.2.1, σ.2.2.2.1, σ.2.2.2.2.1, σ.2.2.2.2.2)).1
      let u_9 := (sp_Hart_goOn n id (u_8, σ.2.1, σ.2.2.1, σ.2.2.2.1, σ.2.2.2.2.1, σ.2.2.2.2.2)).2
      (r_9, u_9)
    else
      let r_10 := (sp_Hart_fault n id (sp_Hart_locate n id ((σ.2.1 ((sp_Field_rs1 x0).toNatClampNeg)) + (sp_Field_storeOffset x0)) (shl 1 (sp_Field_f3 x0)) 2 σ) ((σ.2.1 ((sp_Field_rs1 x0).toNatClampNeg)) + (sp_Field_storeOffset x0)) σ).1
      let u_10 := (sp_Hart_fault n id (sp_Hart_locate n id ((σ.2.1 ((sp_Field_rs1 x0).toNatClampNeg)) + (sp_Field_storeOffset x0)) (shl 1 (sp_Field_f3 x0)) 2 σ) ((σ.2.1 ((sp_Field_rs1 x0).toNatClampNeg)) + (sp_Field_storeOffset x0)) σ).2
      (r_10, u_10)
  else
    let r_11 := (sp_Hart_illegal n id x0 σ).1
    let u_11 := (sp_Hart_illegal n id x0 σ).2
    (r_11, u_11)
set_option maxHeartbeats 4000000 in
set_option maxRecDepth 100000 in
theorem c_Hart_store {l : Launch} {D : va_G} {g : Nat → Nat} (a : Nat → Nat) (k : Nat → ClassId) (n : Nat) (id : Int32) (x0 : Int32) (σ : TH) (hn : n ≤ 4096) (hid : id = 0 ∨ id = 1) (hp : 0 ≤ σ.1.2.2.2.1) : CT l D g y_Hart_store b_Hart_store 8 (some .int) (rD 4) [.ref (a 6), .int x0, .ref (a 0)] (wH a k n id σ) (tyH k) (Qi D (fun (r : Int32) (u : TH) => sp_Hart_store n id x0 σ = (r, u)) (fun u => wH a k n id u)) := by
  refine CT.of rfl (Nat.le_of_ble_eq_true rfl) (fun p e s m below meth c A ls hx hb hr hml hts hown hlocks hA hP hK hD hF hS hl => ?_)
  have hl : lv_has ls 8 [(0, .ref (a 6)), (1, .int x0), (2, .ref (a 0))] := hl
  refine lv_iload_n hx hb d_Hart_store_0 rfl (lv_at hl 1 rfl) ?_
  refine xi (wr := [((a 0), .inr (1, [.ref (a 3), .ref (a 1), .ref (a 4), .int σ.1.2.2.2.1, .ref (a 5)])), ((a 1), .inr (2, [.ref (a 2)])), ((a 2), .inl ((k 0), 8, .inl σ.1.1)), ((a 3), .inl ((k 1), n, .inl σ.1.2.1)), ((a 4), .inl ((k 2), 256, .inl σ.1.2.2.1)), ((a 5), .inl ((k 3), 2, .inr (.inl σ.1.2.2.2.2))), ((a 6), .inr (4, [.int id, .ref (a 7), .ref (a 8), .int σ.2.2.1, .int σ.2.2.2.1, .int σ.2.2.2.2.1])), ((a 7), .inl ((k 4), 32, .inl σ.2.1)), ((a 8), .inr (3, csF σ.2.2.2.2.2))]) (W2 := fun _ => wH a k n id σ) (xS (rest := []) ⟨hx, hb, hml, hown, hts⟩ (c_Field_f3 x0) mw_Field_f3 ms_Field_f3 k_353 ⟨rfl, rfl, Nat.le_of_ble_eq_true rfl, Nat.le_of_ble_eq_true rfl⟩ hK hP hD hS hA hF [] [] rfl rfl rfl rfl hl.1 rfl (Nat.le_of_ble_eq_true rfl) d_Hart_store_1 ⟨Nat.zero_le _, Nat.zero_le _⟩) hP hD hS hA [] [0, 1, 2, 3, 4, 5, 6, 7, 8] [0, 1, 2, 3, 4, 5, 6, 7, 8] rfl rfl rfl (by decide) (fun _ => rfl) rfl (fun r_1 _ H locs h_1 hP hD hS => ?_)
  subst h_1
  refine lv_istore_n (lv' := [(3, .int (sp_Field_f3 x0)), (0, .ref (a 6)), (1, .int x0), (2, .ref (a 0))]) hx hb d_Hart_store_4 rfl hl (by decide) rfl (fun ls hl => ?_)
  refine lv_iload_n hx hb d_Hart_store_5 rfl (lv_at hl 0 rfl) ?_
  refine lv_iconst (v := 2) hx hb d_Hart_store_6 rfl ?_
  refine lv_icmp_le (tgt := 16) hx hb d_Hart_store_7 (by decide) (fun c_2 => ?_) (fun c_2 => ?_)
  · refine lv_iconst (v := 1) hx hb d_Hart_store_16 rfl ?_
    refine lv_iload_n hx hb d_Hart_store_17 rfl (lv_at hl 0 rfl) ?_
    refine y_ishl hx hb d_Hart_store_18 ?_
    refine lv_istore (lv' := [(4, .int (shl 1 (sp_Field_f3 x0))), (3, .int (sp_Field_f3 x0)), (0, .ref (a 6)), (1, .int x0), (2, .ref (a 0))]) hx hb d_Hart_store_19 hl (by decide) rfl (fun ls hl => ?_)
    refine lv_aload_n hx hb d_Hart_store_21 rfl (lv_at hl 2 rfl) ?_
    refine va_get (D := D) (ci := 4) (v := .ref (a 7)) (C := R_Hart) (T := F_Hart) (N := 6) hx hb hts i_Hart hown hK hP 6 rfl rfl 1 (by decide) (hts _ k_144) (fun _ h9 => h9) rfl d_Hart_store_22 ?_
    refine lv_iload_n hx hb d_Hart_store_25 rfl (lv_at hl 3 rfl) ?_
    refine xi (wr := [((a 0), .inr (1, [.ref (a 3), .ref (a 1), .ref (a 4), .int σ.1.2.2.2.1, .ref (a 5)])), ((a 1), .inr (2, [.ref (a 2)])), ((a 2), .inl ((k 0), 8, .inl σ.1.1)), ((a 3), .inl ((k 1), n, .inl σ.1.2.1)), ((a 4), .inl ((k 2), 256, .inl σ.1.2.2.1)), ((a 5), .inl ((k 3), 2, .inr (.inl σ.1.2.2.2.2))), ((a 6), .inr (4, [.int id, .ref (a 7), .ref (a 8), .int σ.2.2.1, .int σ.2.2.2.1, .int σ.2.2.2.2.1])), ((a 7), .inl ((k 4), 32, .inl σ.2.1)), ((a 8), .inr (3, csF σ.2.2.2.2.2))]) (W2 := fun _ => wH a k n id σ) (xS (rest := [.ref (a 7)]) ⟨hx, hb, hml, hown, hts⟩ (c_Field_rs1 x0) mw_Field_rs1 ms_Field_rs1 k_360 ⟨rfl, rfl, Nat.le_of_ble_eq_true rfl, Nat.le_of_ble_eq_true rfl⟩ hK hP hD hS hA hF [] [] rfl rfl rfl rfl hl.1 rfl (Nat.le_of_ble_eq_true rfl) d_Hart_store_26 ⟨Nat.zero_le _, Nat.zero_le _⟩) hP hD hS hA [] [0, 1, 2, 3, 4, 5, 6, 7, 8] [0, 1, 2, 3, 4, 5, 6, 7, 8] rfl rfl rfl (by decide) (fun _ => rfl) rfl (fun r_3 _ H locs h_3 hP hD hS => ?_)
    subst h_3
    refine y_iald (v := σ.2.1 ((sp_Field_rs1 x0).toNatClampNeg)) hx hb hK hP 7 4 rfl rfl (vp_rs1 _) rfl d_Hart_store_29 ?_
    refine lv_iload_n hx hb d_Hart_store_30 rfl (lv_at hl 3 rfl) ?_
    refine xi (wr := [((a 0), .inr (1, [.ref (a 3), .ref (a 1), .ref (a 4), .int σ.1.2.2.2.1, .ref (a 5)])), ((a 1), .inr (2, [.ref (a 2)])), ((a 2), .inl ((k 0), 8, .inl σ.1.1)), ((a 3), .inl ((k 1), n, .inl σ.1.2.1)), ((a 4), .inl ((k 2), 256, .inl σ.1.2.2.1)), ((a 5), .inl ((k 3), 2, .inr (.inl σ.1.2.2.2.2))), ((a 6), .inr (4, [.int id, .ref (a 7), .ref (a 8), .int σ.2.2.1, .int σ.2.2.2.1, .int σ.2.2.2.2.1])), ((a 7), .inl ((k 4), 32, .inl σ.2.1)), ((a 8), .inr (3, csF σ.2.2.2.2.2))]) (W2 := fun _ => wH a k n id σ) (xS (rest := [.int (σ.2.1 ((sp_Field_rs1 x0).toNatClampNeg))]) ⟨hx, hb, hml, hown, hts⟩ (c_Field_storeOffset x0) mw_Field_storeOffset ms_Field_storeOffset k_415 ⟨rfl, rfl, Nat.le_of_ble_eq_true rfl, Nat.le_of_ble_eq_true rfl⟩ hK hP hD hS hA hF [] [] rfl rfl rfl rfl hl.1 rfl (Nat.le_of_ble_eq_true rfl) d_Hart_store_31 ⟨Nat.zero_le _, Nat.zero_le _⟩) hP hD hS hA [] [0, 1, 2, 3, 4, 5, 6, 7, 8] [0, 1, 2, 3, 4, 5, 6, 7, 8] rfl rfl rfl (by decide) (fun _ => rfl) rfl (fun r_4 _ H locs h_4 hP hD hS => ?_)
    subst h_4
    refine lv_iadd hx hb d_Hart_store_34 ?_
    refine lv_istore (lv' := [(5, .int ((σ.2.1 ((sp_Field_rs1 x0).toNatClampNeg)) + (sp_Field_storeOffset x0))), (4, .int (shl 1 (sp_Field_f3 x0))), (3, .int (sp_Field_f3 x0)), (0, .ref (a 6)), (1, .int x0), (2, .ref (a 0))]) hx hb d_Hart_store_35 hl (by decide) rfl (fun ls hl => ?_)
    refine lv_aload_n hx hb d_Hart_store_37 rfl (lv_at hl 3 rfl) ?_
    refine lv_iload hx hb d_Hart_store_38 (lv_at hl 0 rfl) ?_
    refine lv_iload hx hb d_Hart_store_40 (lv_at hl 1 rfl) ?_
    refine va_gets hx hb (hF.2.1.1 2 (by decide)).1 hS hown (hts _ k_419) (fun _ h9 => h9) d_Hart_store_42 ?_
    refine lv_aload_n hx hb d_Hart_store_45 rfl (lv_at hl 5 rfl) ?_
    refine xl (wr := []) (W2 := fun _ => wH a k n id σ) (xV (rest := []) ⟨hx, hb, hml, hown, hts⟩ (c_Hart_locate a k n id ((σ.2.1 ((sp_Field_rs1 x0).toNatClampNeg)) + (sp_Field_storeOffset x0)) (shl 1 (sp_Field_f3 x0)) 2 σ hn hid (by decide)) mw_Hart_locate mv_Hart_locate k_260 ⟨rfl, rfl, Nat.le_of_ble_eq_true rfl, Nat.le_of_ble_eq_true rfl⟩ hK hP hD hS hA hF [0, 1, 2, 3, 4, 5, 6, 7, 8] [0, 1, 2, 3, 4] rfl rfl rfl 6 4 rfl rfl rfl rfl hl.1 rfl (Nat.le_of_ble_eq_true rfl) d_Hart_store_46 ⟨Nat.zero_le _, Nat.zero_le _⟩) hP hD hS hA [0, 1, 2, 3, 4, 5, 6, 7, 8] [] [0, 1, 2, 3, 4, 5, 6, 7, 8] rfl rfl rfl (by decide) (fun _ => rfl) rfl (fun r_5 _ H locs h_5 hP hD hS => ?_)
    subst h_5
    refine lv_lstore (lv' := [(6, .long (sp_Hart_locate n id ((σ.2.1 ((sp_Field_rs1 x0).toNatClampNeg)) + (sp_Field_storeOffset x0)) (shl 1 (sp_Field_f3 x0)) 2 σ)), (5, .int ((σ.2.1 ((sp_Field_rs1 x0).toNatClampNeg)) + (sp_Field_storeOffset x0))), (4, .int (shl 1 (sp_Field_f3 x0))), (3, .int (sp_Field_f3 x0)), (0, .ref (a 6)), (1, .int x0), (2, .ref (a 0))]) hx hb d_Hart_store_49 hl (by decide) rfl (fun ls hl => ?_)
    refine lv_lload hx hb d_Hart_store_51 (lv_at hl 0 rfl) ?_
    refine lv_lconst (v := 0) hx hb d_Hart_store_53 rfl ?_
    refine W.lcmp hx hb d_Hart_store_54 ?_
    refine lv_if_ge (tgt := 67) hx hb d_Hart_store_55 (by decide) (fun b_6 => ?_) (fun b_6 => ?_)
    · have c_6 : 0 ≤ (sp_Hart_locate n id ((σ.2.1 ((sp_Field_rs1 x0).toNatClampNeg)) + (sp_Field_storeOffset x0)) (shl 1 (sp_Field_f3 x0)) 2 σ) := (lg_cmp_ge _ _).mp b_6
      refine lv_aload_n hx hb d_Hart_store_67 rfl (lv_at hl 6 rfl) ?_
      refine lv_lload hx hb d_Hart_store_68 (lv_at hl 0 rfl) ?_
      refine lv_iload hx hb d_Hart_store_70 (lv_at hl 2 rfl) ?_
      refine lv_aload_n hx hb d_Hart_store_72 rfl (lv_at hl 4 rfl) ?_
      refine va_get (D := D) (ci := 4) (v := .ref (a 7)) (C := R_Hart) (T := F_Hart) (N := 6) hx hb hts i_Hart hown hK hP 6 rfl rfl 1 (by decide) (hts _ k_144) (fun _ h9 => h9) rfl d_Hart_store_73 ?_
      refine lv_iload_n hx hb d_Hart_store_76 rfl (lv_at hl 5 rfl) ?_
      refine xi (wr := [((a 0), .inr (1, [.ref (a 3), .ref (a 1), .ref (a 4), .int σ.1.2.2.2.1, .ref (a 5)])), ((a 1), .inr (2, [.ref (a 2)])), ((a 2), .inl ((k 0), 8, .inl σ.1.1)), ((a 3), .inl ((k 1), n, .inl σ.1.2.1)), ((a 4), .inl ((k 2), 256, .inl σ.1.2.2.1)), ((a 5), .inl ((k 3), 2, .inr (.inl σ.1.2.2.2.2))), ((a 6), .inr (4, [.int id, .ref (a 7), .ref (a 8), .int σ.2.2.1, .int σ.2.2.2.1, .int σ.2.2.2.2.1])), ((a 7), .inl ((k 4), 32, .inl σ.2.1)), ((a 8), .inr (3, csF σ.2.2.2.2.2))]) (W2 := fun _ => wH a k n id σ) (xS (rest := [.ref (a 7), .int (shl 1 (sp_Field_f3 x0)), .long (sp_Hart_locate n id ((σ.2.1 ((sp_Field_rs1 x0).toNatClampNeg)) + (sp_Field_storeOffset x0)) (shl 1 (sp_Field_f3 x0)) 2 σ), .ref (a 0)]) ⟨hx, hb, hml, hown, hts⟩ (c_Field_rs2 x0) mw_Field_rs2 ms_Field_rs2 k_401 ⟨rfl, rfl, Nat.le_of_ble_eq_true rfl, Nat.le_of_ble_eq_true rfl⟩ hK hP hD hS hA hF [] [] rfl rfl rfl rfl hl.1 rfl (Nat.le_of_ble_eq_true rfl) d_Hart_store_77 ⟨Nat.zero_le _, Nat.zero_le _⟩) hP hD hS hA [] [0, 1, 2, 3, 4, 5, 6, 7, 8] [0, 1, 2, 3, 4, 5, 6, 7, 8] rfl rfl rfl (by decide) (fun _ => rfl) rfl (fun r_7 _ H locs h_7 hP hD hS => ?_)
      subst h_7
      refine y_iald (v := σ.2.1 ((sp_Field_rs2 x0).toNatClampNeg)) hx hb hK hP 7 4 rfl rfl (vp_rs2 _) rfl d_Hart_store_80 ?_
      refine xv (wr := [((a 6), .inr (4, [.int id, .ref (a 7), .ref (a 8), .int σ.2.2.1, .int σ.2.2.2.1, .int σ.2.2.2.2.1])), ((a 7), .inl ((k 4), 32, .inl σ.2.1)), ((a 8), .inr (3, csF σ.2.2.2.2.2))]) (W2 := fun u9 => wH a k n id (u9, σ.2.1, σ.2.2.1, σ.2.2.2.1, σ.2.2.2.2.1, σ.2.2.2.2.2)) (xV (rest := []) ⟨hx, hb, hml, hown, hts⟩ (c_Memory_store a k n (sp_Hart_locate n id ((σ.2.1 ((sp_Field_rs1 x0).toNatClampNeg)) + (sp_Field_storeOffset x0)) (shl 1 (sp_Field_f3 x0)) 2 σ) (shl 1 (sp_Field_f3 x0)) (σ.2.1 ((sp_Field_rs2 x0).toNatClampNeg)) σ.1 hn hp) mw_Memory_store mv_Memory_store k_421 ⟨rfl, rfl, Nat.le_of_ble_eq_true rfl, Nat.le_of_ble_eq_true rfl⟩ hK hP hD hS hA hF [0, 1, 2, 3, 4, 5] [0, 1, 2, 3] rfl rfl rfl 0 1 rfl rfl rfl rfl hl.1 rfl (Nat.le_of_ble_eq_true rfl) d_Hart_store_81 ⟨Nat.zero_le _, Nat.zero_le _⟩) hP hD hS hA [0, 1, 2, 3, 4, 5] [6, 7, 8] [3, 4, 5, 6, 7, 8, 0, 1, 2] rfl rfl rfl (by decide) (fun _ => rfl) rfl (fun u_8 H locs h_8 hP hD hS => ?_)
      refine lv_aload_n hx hb d_Hart_store_84 rfl (lv_at hl 4 rfl) ?_
      refine xi (wr := []) (W2 := fun u9 => wH a k n id u9) (xV (rest := []) ⟨hx, hb, hml, hown, hts⟩ (c_Hart_goOn a k n id (u_8, σ.2.1, σ.2.2.1, σ.2.2.2.1, σ.2.2.2.2.1, σ.2.2.2.2.2) hn hid) mw_Hart_goOn mv_Hart_goOn k_390 ⟨rfl, rfl, Nat.le_of_ble_eq_true rfl, Nat.le_of_ble_eq_true rfl⟩ hK hP hD hS hA hF [0, 1, 2, 3, 4, 5, 6, 7, 8] [0, 1, 2, 3, 4] rfl rfl rfl 6 4 rfl rfl rfl rfl hl.1 rfl (Nat.le_of_ble_eq_true rfl) d_Hart_store_85 ⟨Nat.zero_le _, Nat.zero_le _⟩) hP hD hS hA [0, 1, 2, 3, 4, 5, 6, 7, 8] [] [0, 1, 2, 3, 4, 5, 6, 7, 8] rfl rfl rfl (by decide) (fun _ => rfl) rfl (fun r_9 u_9 H locs h_9 hP hD hS => ?_)
      exact ri u_9 hx hb hr hlocks hP hD hS d_Hart_store_88 (by simp only [sp_Hart_store, h_8, h_9, if_pos c_2, if_pos c_6])
    · have c_6 : ¬ 0 ≤ (sp_Hart_locate n id ((σ.2.1 ((sp_Field_rs1 x0).toNatClampNeg)) + (sp_Field_storeOffset x0)) (shl 1 (sp_Field_f3 x0)) 2 σ) := fun h9 => b_6 ((lg_cmp_ge _ _).mpr h9)
      refine lv_aload_n hx hb d_Hart_store_58 rfl (lv_at hl 4 rfl) ?_
      refine lv_lload hx hb d_Hart_store_59 (lv_at hl 0 rfl) ?_
      refine lv_iload hx hb d_Hart_store_61 (lv_at hl 1 rfl) ?_
      refine xi (wr := []) (W2 := fun u9 => wH a k n id u9) (xV (rest := []) ⟨hx, hb, hml, hown, hts⟩ (c_Hart_fault a k n id (sp_Hart_locate n id ((σ.2.1 ((sp_Field_rs1 x0).toNatClampNeg)) + (sp_Field_storeOffset x0)) (shl 1 (sp_Field_f3 x0)) 2 σ) ((σ.2.1 ((sp_Field_rs1 x0).toNatClampNeg)) + (sp_Field_storeOffset x0)) σ hn hid) mw_Hart_fault mv_Hart_fault k_333 ⟨rfl, rfl, Nat.le_of_ble_eq_true rfl, Nat.le_of_ble_eq_true rfl⟩ hK hP hD hS hA hF [0, 1, 2, 3, 4, 5, 6, 7, 8] [0, 1, 2, 3, 4] rfl rfl rfl 6 4 rfl rfl rfl rfl hl.1 rfl (Nat.le_of_ble_eq_true rfl) d_Hart_store_63 ⟨Nat.zero_le _, Nat.zero_le _⟩) hP hD hS hA [0, 1, 2, 3, 4, 5, 6, 7, 8] [] [0, 1, 2, 3, 4, 5, 6, 7, 8] rfl rfl rfl (by decide) (fun _ => rfl) rfl (fun r_10 u_10 H locs h_10 hP hD hS => ?_)
      exact ri u_10 hx hb hr hlocks hP hD hS d_Hart_store_66 (by simp only [sp_Hart_store, h_10, if_pos c_2, if_neg c_6])
  · refine lv_aload_n hx hb d_Hart_store_10 rfl (lv_at hl 1 rfl) ?_
    refine lv_iload_n hx hb d_Hart_store_11 rfl (lv_at hl 2 rfl) ?_
    refine xi (wr := []) (W2 := fun u9 => wH a k n id u9) (xV (rest := []) ⟨hx, hb, hml, hown, hts⟩ (c_Hart_illegal a k n id x0 σ hn hid) mw_Hart_illegal mv_Hart_illegal k_356 ⟨rfl, rfl, Nat.le_of_ble_eq_true rfl, Nat.le_of_ble_eq_true rfl⟩ hK hP hD hS hA hF [0, 1, 2, 3, 4, 5, 6, 7, 8] [0, 1, 2, 3, 4] rfl rfl rfl 6 4 rfl rfl rfl rfl hl.1 rfl (Nat.le_of_ble_eq_true rfl) d_Hart_store_12 ⟨Nat.zero_le _, Nat.zero_le _⟩) hP hD hS hA [0, 1, 2, 3, 4, 5, 6, 7, 8] [] [0, 1, 2, 3, 4, 5, 6, 7, 8] rfl rfl rfl (by decide) (fun _ => rfl) rfl (fun r_11 u_11 H locs h_11 hP hD hS => ?_)
    exact ri u_11 hx hb hr hlocks hP hD hS d_Hart_store_15 (by simp only [sp_Hart_store, h_11, if_neg c_2])
def sp_Hart_isChange (x0 : Int32) (x1 : Int32)  : Int32 :=
  if x0 = 2 then
    if x1 = 0 then
      1
    else
      0
  else
    if x0 < 4 then
      1
    else
      if (x0 &&& 3) = 0 then
        1
      else
        0
set_option maxHeartbeats 4000000 in
set_option maxRecDepth 100000 in
theorem c_Hart_isChange {l : Launch} {D : va_G} {g : Nat → Nat}  (x0 : Int32) (x1 : Int32)   : CT l D g y_Hart_isChange b_Hart_isChange 2 (some .boolean) (rD 0) [.int x0, .int x1] ([]) ([]) (Qi D (fun (r : Int32) (_ : Unit) => sp_Hart_isChange x0 x1 = r ∧ (r = 0 ∨ r = 1)) (fun _ => [])) := by
  refine CT.of rfl (Nat.le_of_ble_eq_true rfl) (fun p e s m below meth c A ls hx hb hr hml hts hown hlocks hA hP hK hD hF hS hl => ?_)
  have hl : lv_has ls 2 [(0, .int x0), (1, .int x1)] := hl
  refine lv_iload_n hx hb d_Hart_isChange_0 rfl (lv_at hl 0 rfl) ?_
  refine lv_iconst (v := 2) hx hb d_Hart_isChange_1 rfl ?_
  refine lv_icmp_ne (tgt := 15) hx hb d_Hart_isChange_2 (by decide) (fun c_1 => ?_) (fun c_1 => ?_)
  · refine lv_iload_n hx hb d_Hart_isChange_15 rfl (lv_at hl 0 rfl) ?_
    refine lv_iconst (v := 4) hx hb d_Hart_isChange_16 rfl ?_
    refine lv_icmp_lt (tgt := 26) hx hb d_Hart_isChange_17 (by decide) (fun c_2 => ?_) (fun c_2 => ?_)
    · refine lv_iconst (v := 1) hx hb d_Hart_isChange_26 rfl ?_
      refine lv_goto (tgt := 31) hx hb d_Hart_isChange_27 (by decide) ?_
      exact rz () hx hb hr hlocks rfl hP hD hS d_Hart_isChange_31 ⟨by simp only [sp_Hart_isChange, if_neg c_1, if_pos c_2], Or.inr rfl⟩
    · refine lv_iload_n hx hb d_Hart_isChange_20 rfl (lv_at hl 0 rfl) ?_
      refine lv_iconst (v := 3) hx hb d_Hart_isChange_21 rfl ?_
      refine lv_iand hx hb d_Hart_isChange_22 ?_
      refine lv_if_ne (tgt := 30) hx hb d_Hart_isChange_23 (by decide) (fun c_3 => ?_) (fun c_3 => ?_)
      · refine lv_iconst (v := 0) hx hb d_Hart_isChange_30 rfl ?_
        exact rz () hx hb hr hlocks rfl hP hD hS d_Hart_isChange_31 ⟨by simp only [sp_Hart_isChange, if_neg c_1, if_neg c_2, if_neg c_3], Or.inl rfl⟩
      · refine lv_iconst (v := 1) hx hb d_Hart_isChange_26 rfl ?_
        refine lv_goto (tgt := 31) hx hb d_Hart_isChange_27 (by decide) ?_
        exact rz () hx hb hr hlocks rfl hP hD hS d_Hart_isChange_31 ⟨by simp only [sp_Hart_isChange, if_neg c_1, if_neg c_2, if_pos c_3], Or.inr rfl⟩
  · refine lv_iload_n hx hb d_Hart_isChange_5 rfl (lv_at hl 1 rfl) ?_
    refine lv_if_ne (tgt := 13) hx hb d_Hart_isChange_6 (by decide) (fun c_4 => ?_) (fun c_4 => ?_)
    · refine lv_iconst (v := 0) hx hb d_Hart_isChange_13 rfl ?_
      exact rz () hx hb hr hlocks rfl hP hD hS d_Hart_isChange_14 ⟨by simp only [sp_Hart_isChange, if_pos c_1, if_neg c_4], Or.inl rfl⟩
    · refine lv_iconst (v := 1) hx hb d_Hart_isChange_9 rfl ?_
      refine lv_goto (tgt := 14) hx hb d_Hart_isChange_10 (by decide) ?_
      exact rz () hx hb hr hlocks rfl hP hD hS d_Hart_isChange_14 ⟨by simp only [sp_Hart_isChange, if_pos c_1, if_pos c_4], Or.inr rfl⟩
def sp_Hart_changeAtOnce (n : Nat) (id : Int32) (x0 : Int32) (σ : TH) : Int32 × TH :=
  if (sp_Field_f3 x0) = 2 then
    if (sp_Hart_isChange (ush x0 27) (sp_Field_rs2 x0)) = 0 then
      let r_35 := (sp_Hart_illegal n id x0 σ).1
      let u_35 := (sp_Hart_illegal n id x0 σ).2
      (r_35, u_35)
    else
      if (ush x0 27) = 2 then
        if 0 ≤ (sp_Hart_locate n id (σ.2.1 ((sp_Field_rs1 x0).toNatClampNeg)) 4 3 σ) then
          if (ush x0 27) = 3 then
            let r_30 := (sp_Memory_storeIfClaimed n id (sp_Hart_locate n id (σ.2.1 ((sp_Field_rs1 x0).toNatClampNeg)) 4 3 σ) (σ.2.1 ((sp_Field_rs2 x0).toNatClampNeg)) σ.1).1
            let u_30 := (sp_Memory_storeIfClaimed n id (sp_Hart_locate n id (σ.2.1 ((sp_Field_rs1 x0).toNatClampNeg)) 4 3 σ) (σ.2.1 ((sp_Field_rs2 x0).toNatClampNeg)) σ.1).2
            if r_30 = 0 then
              let r_32 := (sp_Hart_finish n id x0 1 (u_30, σ.2.1, σ.2.2.1, σ.2.2.2.1, σ.2.2.2.2.1, σ.2.2.2.2.2)).1
              let u_32 := (sp_Hart_finish n id x0 1 (u_30, σ.2.1, σ.2.2.1, σ.2.2.2.1, σ.2.2.2.2.1, σ.2.2.2.2.2)).2
              (r_32, u_32)
            else
              let r_33 := (sp_Hart_finish n id x0 0 (u_30, σ.2.1, σ.2.2.1, σ.2.2.2.1, σ.2.2.2.2.1, σ.2.2.2.2.2)).1
              let u_33 := (sp_Hart_finish n id x0 0 (u_30, σ.2.1, σ.2.2.1, σ.2.2.2.1, σ.2.2.2.2.1, σ.2.2.2.2.2)).2
              (r_33, u_33)
          else
            let u_28 := sp_Memory_claim n id (sp_Hart_locate n id (σ.2.1 ((sp_Field_rs1 x0).toNatClampNeg)) 4 3 σ) σ.1
            let r_29 := (sp_Hart_finish n id x0 (sp_Memory_load n (sp_Hart_locate n id (σ.2.1 ((sp_Field_rs1 x0).toNatClampNeg)) 4 3 σ) 4 σ.1) (u_28, σ.2.1, σ.2.2.1, σ.2.2.2.1, σ.2.2.2.2.1, σ.2.2.2.2.2)).1
            let u_29 := (sp_Hart_finish n id x0 (sp_Memory_load n (sp_Hart_locate n id (σ.2.1 ((sp_Field_rs1 x0).toNatClampNeg)) 4 3 σ) 4 σ.1) (u_28, σ.2.1, σ.2.2.1, σ.2.2.2.1, σ.2.2.2.2.1, σ.2.2.2.2.2)).2
            (r_29, u_29)
        else
          let r_34 := (sp_Hart_fault n id (sp_Hart_locate n id (σ.2.1 ((sp_Field_rs1 x0).toNatClampNeg)) 4 3 σ) (σ.2.1 ((sp_Field_rs1 x0).toNatClampNeg)) σ).1
          let u_34 := (sp_Hart_fault n id (sp_Hart_locate n id (σ.2.1 ((sp_Field_rs1 x0).toNatClampNeg)) 4 3 σ) (σ.2.1 ((sp_Field_rs1 x0).toNatClampNeg)) σ).2
          (r_34, u_34)
      else
        if 0 ≤ (sp_Hart_locate n id (σ.2.1 ((sp_Field_rs1 x0).toNatClampNeg)) 4 4 σ) then
          if (ush x0 27) = 3 then
            let r_18 := (sp_Memory_storeIfClaimed n id (sp_Hart_locate n id (σ.2.1 ((sp_Field_rs1 x0).toNatClampNeg)) 4 4 σ) (σ.2.1 ((sp_Field_rs2 x0).toNatClampNeg)) σ.1).1
            let u_18 := (sp_Memory_storeIfClaimed n id (sp_Hart_locate n id (σ.2.1 ((sp_Field_rs1 x0).toNatClampNeg)) 4 4 σ) (σ.2.1 ((sp_Field_rs2 x0).toNatClampNeg)) σ.1).2
            if r_18 = 0 then
              let r_20 := (sp_Hart_finish n id x0 1 (u_18, σ.2.1, σ.2.2.1, σ.2.2.2.1, σ.2.2.2.2.1, σ.2.2.2.2.2)).1
              let u_20 := (sp_Hart_finish n id x0 1 (u_18, σ.2.1, σ.2.2.1, σ.2.2.2.1, σ.2.2.2.2.1, σ.2.2.2.2.2)).2
              (r_20, u_20)
            else
              let r_21 := (sp_Hart_finish n id x0 0 (u_18, σ.2.1, σ.2.2.1, σ.2.2.2.1, σ.2.2.2.2.1, σ.2.2.2.2.2)).1
              let u_21 := (sp_Hart_finish n id x0 0 (u_18, σ.2.1, σ.2.2.1, σ.2.2.2.1, σ.2.2.2.2.1, σ.2.2.2.2.2)).2
              (r_21, u_21)
          else
            let u_16 := sp_Memory_store n (sp_Hart_locate n id (σ.2.1 ((sp_Field_rs1 x0).toNatClampNeg)) 4 4 σ) 4 (sp_Alu_changed (ush x0 27) (sp_Memory_load n (sp_Hart_locate n id (σ.2.1 ((sp_Field_rs1 x0).toNatClampNeg)) 4 4 σ) 4 σ.1) (σ.2.1 ((sp_Field_rs2 x0).toNatClampNeg))) σ.1
            let r_17 := (sp_Hart_finish n id x0 (sp_Memory_load n (sp_Hart_locate n id (σ.2.1 ((sp_Field_rs1 x0).toNatClampNeg)) 4 4 σ) 4 σ.1) (u_16, σ.2.1, σ.2.2.1, σ.2.2.2.1, σ.2.2.2.2.1, σ.2.2.2.2.2)).1
            let u_17 := (sp_Hart_finish n id x0 (sp_Memory_load n (sp_Hart_locate n id (σ.2.1 ((sp_Field_rs1 x0).toNatClampNeg)) 4 4 σ) 4 σ.1) (u_16, σ.2.1, σ.2.2.1, σ.2.2.2.1, σ.2.2.2.2.1, σ.2.2.2.2.2)).2
            (r_17, u_17)
        else
          let r_22 := (sp_Hart_fault n id (sp_Hart_locate n id (σ.2.1 ((sp_Field_rs1 x0).toNatClampNeg)) 4 4 σ) (σ.2.1 ((sp_Field_rs1 x0).toNatClampNeg)) σ).1
          let u_22 := (sp_Hart_fault n id (sp_Hart_locate n id (σ.2.1 ((sp_Field_rs1 x0).toNatClampNeg)) 4 4 σ) (σ.2.1 ((sp_Field_rs1 x0).toNatClampNeg)) σ).2
          (r_22, u_22)
  else
    let r_3 := (sp_Hart_illegal n id x0 σ).1
    let u_3 := (sp_Hart_illegal n id x0 σ).2
    (r_3, u_3)
set_option maxHeartbeats 4000000 in
set_option maxRecDepth 100000 in
theorem c_Hart_changeAtOnce {l : Launch} {D : va_G} {g : Nat → Nat} (a : Nat → Nat) (k : Nat → ClassId) (n : Nat) (id : Int32) (x0 : Int32) (σ : TH) (hn : n ≤ 4096) (hid : id = 0 ∨ id = 1) (hp : 0 ≤ σ.1.2.2.2.1) : CT l D g y_Hart_changeAtOnce b_Hart_changeAtOnce 9 (some .int) (rD 4) [.ref (a 6), .int x0, .ref (a 0)] (wH a k n id σ) (tyH k) (Qi D (fun (r : Int32) (u : TH) => sp_Hart_changeAtOnce n id x0 σ = (r, u)) (fun u => wH a k n id u)) := by
  refine CT.of rfl (Nat.le_of_ble_eq_true rfl) (fun p e s m below meth c A ls hx hb hr hml hts hown hlocks hA hP hK hD hF hS hl => ?_)
  have hl : lv_has ls 9 [(0, .ref (a 6)), (1, .int x0), (2, .ref (a 0))] := hl
  refine lv_iload_n hx hb d_Hart_changeAtOnce_0 rfl (lv_at hl 1 rfl) ?_
  refine lv_bipush (v := 27) hx hb d_Hart_changeAtOnce_1 rfl ?_
  refine lv_iushr (v := ush x0 27) hx hb d_Hart_changeAtOnce_3 rfl ?_
  refine lv_istore_n (lv' := [(3, .int (ush x0 27)), (0, .ref (a 6)), (1, .int x0), (2, .ref (a 0))]) hx hb d_Hart_changeAtOnce_4 rfl hl (by decide) rfl (fun ls hl => ?_)
  refine lv_iload_n hx hb d_Hart_changeAtOnce_5 rfl (lv_at hl 2 rfl) ?_
  refine xi (wr := [((a 0), .inr (1, [.ref (a 3), .ref (a 1), .ref (a 4), .int σ.1.2.2.2.1, .ref (a 5)])), ((a 1), .inr (2, [.ref (a 2)])), ((a 2), .inl ((k 0), 8, .inl σ.1.1)), ((a 3), .inl ((k 1), n, .inl σ.1.2.1)), ((a 4), .inl ((k 2), 256, .inl σ.1.2.2.1)), ((a 5), .inl ((k 3), 2, .inr (.inl σ.1.2.2.2.2))), ((a 6), .inr (4, [.int id, .ref (a 7), .ref (a 8), .int σ.2.2.1, .int σ.2.2.2.1, .int σ.2.2.2.2.1])), ((a 7), .inl ((k 4), 32, .inl σ.2.1)), ((a 8), .inr (3, csF σ.2.2.2.2.2))]) (W2 := fun _ => wH a k n id σ) (xS (rest := []) ⟨hx, hb, hml, hown, hts⟩ (c_Field_f3 x0) mw_Field_f3 ms_Field_f3 k_353 ⟨rfl, rfl, Nat.le_of_ble_eq_true rfl, Nat.le_of_ble_eq_true rfl⟩ hK hP hD hS hA hF [] [] rfl rfl rfl rfl hl.1 rfl (Nat.le_of_ble_eq_true rfl) d_Hart_changeAtOnce_6 ⟨Nat.zero_le _, Nat.zero_le _⟩) hP hD hS hA [] [0, 1, 2, 3, 4, 5, 6, 7, 8] [0, 1, 2, 3, 4, 5, 6, 7, 8] rfl rfl rfl (by decide) (fun _ => rfl) rfl (fun r_1 _ H locs h_1 hP hD hS => ?_)
  subst h_1
  refine lv_iconst (v := 2) hx hb d_Hart_changeAtOnce_9 rfl ?_
  refine lv_icmp_ne (tgt := 24) hx hb d_Hart_changeAtOnce_10 (by decide) (fun c_2 => ?_) (fun c_2 => ?_)
  · refine lv_aload_n hx hb d_Hart_changeAtOnce_24 rfl (lv_at hl 1 rfl) ?_
    refine lv_iload_n hx hb d_Hart_changeAtOnce_25 rfl (lv_at hl 2 rfl) ?_
    refine xi (wr := []) (W2 := fun u9 => wH a k n id u9) (xV (rest := []) ⟨hx, hb, hml, hown, hts⟩ (c_Hart_illegal a k n id x0 σ hn hid) mw_Hart_illegal mv_Hart_illegal k_356 ⟨rfl, rfl, Nat.le_of_ble_eq_true rfl, Nat.le_of_ble_eq_true rfl⟩ hK hP hD hS hA hF [0, 1, 2, 3, 4, 5, 6, 7, 8] [0, 1, 2, 3, 4] rfl rfl rfl 6 4 rfl rfl rfl rfl hl.1 rfl (Nat.le_of_ble_eq_true rfl) d_Hart_changeAtOnce_26 ⟨Nat.zero_le _, Nat.zero_le _⟩) hP hD hS hA [0, 1, 2, 3, 4, 5, 6, 7, 8] [] [0, 1, 2, 3, 4, 5, 6, 7, 8] rfl rfl rfl (by decide) (fun _ => rfl) rfl (fun r_3 u_3 H locs h_3 hP hD hS => ?_)
    exact ri u_3 hx hb hr hlocks hP hD hS d_Hart_changeAtOnce_29 (by simp only [sp_Hart_changeAtOnce, h_3, if_neg c_2])
  · refine lv_iload_n hx hb d_Hart_changeAtOnce_13 rfl (lv_at hl 0 rfl) ?_
    refine lv_iload_n hx hb d_Hart_changeAtOnce_14 rfl (lv_at hl 2 rfl) ?_
    refine xi (wr := [((a 0), .inr (1, [.ref (a 3), .ref (a 1), .ref (a 4), .int σ.1.2.2.2.1, .ref (a 5)])), ((a 1), .inr (2, [.ref (a 2)])), ((a 2), .inl ((k 0), 8, .inl σ.1.1)), ((a 3), .inl ((k 1), n, .inl σ.1.2.1)), ((a 4), .inl ((k 2), 256, .inl σ.1.2.2.1)), ((a 5), .inl ((k 3), 2, .inr (.inl σ.1.2.2.2.2))), ((a 6), .inr (4, [.int id, .ref (a 7), .ref (a 8), .int σ.2.2.1, .int σ.2.2.2.1, .int σ.2.2.2.2.1])), ((a 7), .inl ((k 4), 32, .inl σ.2.1)), ((a 8), .inr (3, csF σ.2.2.2.2.2))]) (W2 := fun _ => wH a k n id σ) (xS (rest := [.int (ush x0 27)]) ⟨hx, hb, hml, hown, hts⟩ (c_Field_rs2 x0) mw_Field_rs2 ms_Field_rs2 k_401 ⟨rfl, rfl, Nat.le_of_ble_eq_true rfl, Nat.le_of_ble_eq_true rfl⟩ hK hP hD hS hA hF [] [] rfl rfl rfl rfl hl.1 rfl (Nat.le_of_ble_eq_true rfl) d_Hart_changeAtOnce_15 ⟨Nat.zero_le _, Nat.zero_le _⟩) hP hD hS hA [] [0, 1, 2, 3, 4, 5, 6, 7, 8] [0, 1, 2, 3, 4, 5, 6, 7, 8] rfl rfl rfl (by decide) (fun _ => rfl) rfl (fun r_4 _ H locs h_4 hP hD hS => ?_)
    subst h_4
    refine xi (wr := [((a 0), .inr (1, [.ref (a 3), .ref (a 1), .ref (a 4), .int σ.1.2.2.2.1, .ref (a 5)])), ((a 1), .inr (2, [.ref (a 2)])), ((a 2), .inl ((k 0), 8, .inl σ.1.1)), ((a 3), .inl ((k 1), n, .inl σ.1.2.1)), ((a 4), .inl ((k 2), 256, .inl σ.1.2.2.1)), ((a 5), .inl ((k 3), 2, .inr (.inl σ.1.2.2.2.2))), ((a 6), .inr (4, [.int id, .ref (a 7), .ref (a 8), .int σ.2.2.1, .int σ.2.2.2.1, .int σ.2.2.2.2.1])), ((a 7), .inl ((k 4), 32, .inl σ.2.1)), ((a 8), .inr (3, csF σ.2.2.2.2.2))]) (W2 := fun _ => wH a k n id σ) (xS (rest := []) ⟨hx, hb, hml, hown, hts⟩ (c_Hart_isChange (ush x0 27) (sp_Field_rs2 x0)) mw_Hart_isChange ms_Hart_isChange k_438 ⟨rfl, rfl, Nat.le_of_ble_eq_true rfl, Nat.le_of_ble_eq_true rfl⟩ hK hP hD hS hA hF [] [] rfl rfl rfl rfl hl.1 rfl (Nat.le_of_ble_eq_true rfl) d_Hart_changeAtOnce_18 ⟨Nat.zero_le _, Nat.zero_le _⟩) hP hD hS hA [] [0, 1, 2, 3, 4, 5, 6, 7, 8] [0, 1, 2, 3, 4, 5, 6, 7, 8] rfl rfl rfl (by decide) (fun _ => rfl) rfl (fun r_5 _ H locs h_5 hP hD hS => ?_)
    obtain ⟨h_5, z_5⟩ := h_5
    subst h_5
    refine lv_if_ne (tgt := 30) hx hb d_Hart_changeAtOnce_21 (by decide) (fun c_6 => ?_) (fun c_6 => ?_)
    · refine lv_aload_n hx hb d_Hart_changeAtOnce_30 rfl (lv_at hl 1 rfl) ?_
      refine va_get (D := D) (ci := 4) (v := .ref (a 7)) (C := R_Hart) (T := F_Hart) (N := 6) hx hb hts i_Hart hown hK hP 6 rfl rfl 1 (by decide) (hts _ k_144) (fun _ h9 => h9) rfl d_Hart_changeAtOnce_31 ?_
      refine lv_iload_n hx hb d_Hart_changeAtOnce_34 rfl (lv_at hl 2 rfl) ?_
      refine xi (wr := [((a 0), .inr (1, [.ref (a 3), .ref (a 1), .ref (a 4), .int σ.1.2.2.2.1, .ref (a 5)])), ((a 1), .inr (2, [.ref (a 2)])), ((a 2), .inl ((k 0), 8, .inl σ.1.1)), ((a 3), .inl ((k 1), n, .inl σ.1.2.1)), ((a 4), .inl ((k 2), 256, .inl σ.1.2.2.1)), ((a 5), .inl ((k 3), 2, .inr (.inl σ.1.2.2.2.2))), ((a 6), .inr (4, [.int id, .ref (a 7), .ref (a 8), .int σ.2.2.1, .int σ.2.2.2.1, .int σ.2.2.2.2.1])), ((a 7), .inl ((k 4), 32, .inl σ.2.1)), ((a 8), .inr (3, csF σ.2.2.2.2.2))]) (W2 := fun _ => wH a k n id σ) (xS (rest := [.ref (a 7)]) ⟨hx, hb, hml, hown, hts⟩ (c_Field_rs1 x0) mw_Field_rs1 ms_Field_rs1 k_360 ⟨rfl, rfl, Nat.le_of_ble_eq_true rfl, Nat.le_of_ble_eq_true rfl⟩ hK hP hD hS hA hF [] [] rfl rfl rfl rfl hl.1 rfl (Nat.le_of_ble_eq_true rfl) d_Hart_changeAtOnce_35 ⟨Nat.zero_le _, Nat.zero_le _⟩) hP hD hS hA [] [0, 1, 2, 3, 4, 5, 6, 7, 8] [0, 1, 2, 3, 4, 5, 6, 7, 8] rfl rfl rfl (by decide) (fun _ => rfl) rfl (fun r_7 _ H locs h_7 hP hD hS => ?_)
      subst h_7
      refine y_iald (v := σ.2.1 ((sp_Field_rs1 x0).toNatClampNeg)) hx hb hK hP 7 4 rfl rfl (vp_rs1 _) rfl d_Hart_changeAtOnce_38 ?_
      refine lv_istore (lv' := [(4, .int (σ.2.1 ((sp_Field_rs1 x0).toNatClampNeg))), (3, .int (ush x0 27)), (0, .ref (a 6)), (1, .int x0), (2, .ref (a 0))]) hx hb d_Hart_changeAtOnce_39 hl (by decide) rfl (fun ls hl => ?_)
      refine lv_aload_n hx hb d_Hart_changeAtOnce_41 rfl (lv_at hl 2 rfl) ?_
      refine va_get (D := D) (ci := 4) (v := .ref (a 7)) (C := R_Hart) (T := F_Hart) (N := 6) hx hb hts i_Hart hown hK hP 6 rfl rfl 1 (by decide) (hts _ k_144) (fun _ h9 => h9) rfl d_Hart_changeAtOnce_42 ?_
      refine lv_iload_n hx hb d_Hart_changeAtOnce_45 rfl (lv_at hl 3 rfl) ?_
      refine xi (wr := [((a 0), .inr (1, [.ref (a 3), .ref (a 1), .ref (a 4), .int σ.1.2.2.2.1, .ref (a 5)])), ((a 1), .inr (2, [.ref (a 2)])), ((a 2), .inl ((k 0), 8, .inl σ.1.1)), ((a 3), .inl ((k 1), n, .inl σ.1.2.1)), ((a 4), .inl ((k 2), 256, .inl σ.1.2.2.1)), ((a 5), .inl ((k 3), 2, .inr (.inl σ.1.2.2.2.2))), ((a 6), .inr (4, [.int id, .ref (a 7), .ref (a 8), .int σ.2.2.1, .int σ.2.2.2.1, .int σ.2.2.2.2.1])), ((a 7), .inl ((k 4), 32, .inl σ.2.1)), ((a 8), .inr (3, csF σ.2.2.2.2.2))]) (W2 := fun _ => wH a k n id σ) (xS (rest := [.ref (a 7)]) ⟨hx, hb, hml, hown, hts⟩ (c_Field_rs2 x0) mw_Field_rs2 ms_Field_rs2 k_401 ⟨rfl, rfl, Nat.le_of_ble_eq_true rfl, Nat.le_of_ble_eq_true rfl⟩ hK hP hD hS hA hF [] [] rfl rfl rfl rfl hl.1 rfl (Nat.le_of_ble_eq_true rfl) d_Hart_changeAtOnce_46 ⟨Nat.zero_le _, Nat.zero_le _⟩) hP hD hS hA [] [0, 1, 2, 3, 4, 5, 6, 7, 8] [0, 1, 2, 3, 4, 5, 6, 7, 8] rfl rfl rfl (by decide) (fun _ => rfl) rfl (fun r_8 _ H locs h_8 hP hD hS => ?_)
      subst h_8
      refine y_iald (v := σ.2.1 ((sp_Field_rs2 x0).toNatClampNeg)) hx hb hK hP 7 4 rfl rfl (vp_rs2 _) rfl d_Hart_changeAtOnce_49 ?_
      refine lv_istore (lv' := [(5, .int (σ.2.1 ((sp_Field_rs2 x0).toNatClampNeg))), (4, .int (σ.2.1 ((sp_Field_rs1 x0).toNatClampNeg))), (3, .int (ush x0 27)), (0, .ref (a 6)), (1, .int x0), (2, .ref (a 0))]) hx hb d_Hart_changeAtOnce_50 hl (by decide) rfl (fun ls hl => ?_)
      refine lv_aload_n hx hb d_Hart_changeAtOnce_52 rfl (lv_at hl 3 rfl) ?_
      refine lv_iload hx hb d_Hart_changeAtOnce_53 (lv_at hl 1 rfl) ?_
      refine lv_iconst (v := 4) hx hb d_Hart_changeAtOnce_55 rfl ?_
      refine lv_iload_n hx hb d_Hart_changeAtOnce_56 rfl (lv_at hl 2 rfl) ?_
      refine lv_iconst (v := 2) hx hb d_Hart_changeAtOnce_57 rfl ?_
      refine lv_icmp_ne (tgt := 67) hx hb d_Hart_changeAtOnce_58 (by decide) (fun c_9 => ?_) (fun c_9 => ?_)
      · refine va_gets hx hb (hF.2.1.1 4 (by decide)).1 hS hown (hts _ k_443) (fun _ h9 => h9) d_Hart_changeAtOnce_67 ?_
        refine lv_aload_n hx hb d_Hart_changeAtOnce_70 rfl (lv_at hl 5 rfl) ?_
        refine xl (wr := []) (W2 := fun _ => wH a k n id σ) (xV (rest := []) ⟨hx, hb, hml, hown, hts⟩ (c_Hart_locate a k n id (σ.2.1 ((sp_Field_rs1 x0).toNatClampNeg)) 4 4 σ hn hid (by decide)) mw_Hart_locate mv_Hart_locate k_260 ⟨rfl, rfl, Nat.le_of_ble_eq_true rfl, Nat.le_of_ble_eq_true rfl⟩ hK hP hD hS hA hF [0, 1, 2, 3, 4, 5, 6, 7, 8] [0, 1, 2, 3, 4] rfl rfl rfl 6 4 rfl rfl rfl rfl hl.1 rfl (Nat.le_of_ble_eq_true rfl) d_Hart_changeAtOnce_71 ⟨Nat.zero_le _, Nat.zero_le _⟩) hP hD hS hA [0, 1, 2, 3, 4, 5, 6, 7, 8] [] [0, 1, 2, 3, 4, 5, 6, 7, 8] rfl rfl rfl (by decide) (fun _ => rfl) rfl (fun r_10 _ H locs h_10 hP hD hS => ?_)
        subst h_10
        refine lv_lstore (lv' := [(6, .long (sp_Hart_locate n id (σ.2.1 ((sp_Field_rs1 x0).toNatClampNeg)) 4 4 σ)), (5, .int (σ.2.1 ((sp_Field_rs2 x0).toNatClampNeg))), (4, .int (σ.2.1 ((sp_Field_rs1 x0).toNatClampNeg))), (3, .int (ush x0 27)), (0, .ref (a 6)), (1, .int x0), (2, .ref (a 0))]) hx hb d_Hart_changeAtOnce_74 hl (by decide) rfl (fun ls hl => ?_)
        refine lv_lload hx hb d_Hart_changeAtOnce_76 (lv_at hl 0 rfl) ?_
        refine lv_lconst (v := 0) hx hb d_Hart_changeAtOnce_78 rfl ?_
        refine W.lcmp hx hb d_Hart_changeAtOnce_79 ?_
        refine lv_if_ge (tgt := 92) hx hb d_Hart_changeAtOnce_80 (by decide) (fun b_11 => ?_) (fun b_11 => ?_)
        · have c_11 : 0 ≤ (sp_Hart_locate n id (σ.2.1 ((sp_Field_rs1 x0).toNatClampNeg)) 4 4 σ) := (lg_cmp_ge _ _).mp b_11
          refine lv_iload_n hx hb d_Hart_changeAtOnce_92 rfl (lv_at hl 3 rfl) ?_
          refine lv_iconst (v := 3) hx hb d_Hart_changeAtOnce_93 rfl ?_
          refine lv_icmp_ne (tgt := 123) hx hb d_Hart_changeAtOnce_94 (by decide) (fun c_12 => ?_) (fun c_12 => ?_)
          · refine lv_aload_n hx hb d_Hart_changeAtOnce_123 rfl (lv_at hl 6 rfl) ?_
            refine lv_lload hx hb d_Hart_changeAtOnce_124 (lv_at hl 0 rfl) ?_
            refine lv_iconst (v := 4) hx hb d_Hart_changeAtOnce_126 rfl ?_
            refine xi (wr := [((a 6), .inr (4, [.int id, .ref (a 7), .ref (a 8), .int σ.2.2.1, .int σ.2.2.2.1, .int σ.2.2.2.2.1])), ((a 7), .inl ((k 4), 32, .inl σ.2.1)), ((a 8), .inr (3, csF σ.2.2.2.2.2))]) (W2 := fun _ => wH a k n id σ) (xV (rest := []) ⟨hx, hb, hml, hown, hts⟩ (c_Memory_load a k n (sp_Hart_locate n id (σ.2.1 ((sp_Field_rs1 x0).toNatClampNeg)) 4 4 σ) 4 σ.1 hn) mw_Memory_load mv_Memory_load k_368 ⟨rfl, rfl, Nat.le_of_ble_eq_true rfl, Nat.le_of_ble_eq_true rfl⟩ hK hP hD hS hA hF [0, 1, 2, 3, 4, 5] [0, 1, 2, 3] rfl rfl rfl 0 1 rfl rfl rfl rfl hl.1 rfl (Nat.le_of_ble_eq_true rfl) d_Hart_changeAtOnce_127 ⟨Nat.zero_le _, Nat.zero_le _⟩) hP hD hS hA [0, 1, 2, 3, 4, 5] [6, 7, 8] [3, 4, 5, 6, 7, 8, 0, 1, 2] rfl rfl rfl (by decide) (fun _ => rfl) rfl (fun r_13 _ H locs h_13 hP hD hS => ?_)
            subst h_13
            refine lv_istore (lv' := [(8, .int (sp_Memory_load n (sp_Hart_locate n id (σ.2.1 ((sp_Field_rs1 x0).toNatClampNeg)) 4 4 σ) 4 σ.1)), (6, .long (sp_Hart_locate n id (σ.2.1 ((sp_Field_rs1 x0).toNatClampNeg)) 4 4 σ)), (5, .int (σ.2.1 ((sp_Field_rs2 x0).toNatClampNeg))), (4, .int (σ.2.1 ((sp_Field_rs1 x0).toNatClampNeg))), (3, .int (ush x0 27)), (0, .ref (a 6)), (1, .int x0), (2, .ref (a 0))]) hx hb d_Hart_changeAtOnce_130 hl (by decide) rfl (fun ls hl => ?_)
            refine lv_iload_n hx hb d_Hart_changeAtOnce_132 rfl (lv_at hl 4 rfl) ?_
            refine lv_iconst (v := 2) hx hb d_Hart_changeAtOnce_133 rfl ?_
            refine lv_icmp_ne (tgt := 150) hx hb d_Hart_changeAtOnce_134 (by decide) (fun _ => ?_) (fun h9 => absurd h9 c_9)
            refine lv_aload_n hx hb d_Hart_changeAtOnce_150 rfl (lv_at hl 7 rfl) ?_
            refine lv_lload hx hb d_Hart_changeAtOnce_151 (lv_at hl 1 rfl) ?_
            refine lv_iconst (v := 4) hx hb d_Hart_changeAtOnce_153 rfl ?_
            refine lv_iload_n hx hb d_Hart_changeAtOnce_154 rfl (lv_at hl 4 rfl) ?_
            refine lv_iload hx hb d_Hart_changeAtOnce_155 (lv_at hl 0 rfl) ?_
            refine lv_iload hx hb d_Hart_changeAtOnce_157 (lv_at hl 2 rfl) ?_
            refine xi (wr := [((a 0), .inr (1, [.ref (a 3), .ref (a 1), .ref (a 4), .int σ.1.2.2.2.1, .ref (a 5)])), ((a 1), .inr (2, [.ref (a 2)])), ((a 2), .inl ((k 0), 8, .inl σ.1.1)), ((a 3), .inl ((k 1), n, .inl σ.1.2.1)), ((a 4), .inl ((k 2), 256, .inl σ.1.2.2.1)), ((a 5), .inl ((k 3), 2, .inr (.inl σ.1.2.2.2.2))), ((a 6), .inr (4, [.int id, .ref (a 7), .ref (a 8), .int σ.2.2.1, .int σ.2.2.2.1, .int σ.2.2.2.2.1])), ((a 7), .inl ((k 4), 32, .inl σ.2.1)), ((a 8), .inr (3, csF σ.2.2.2.2.2))]) (W2 := fun _ => wH a k n id σ) (xS (rest := [.int 4, .long (sp_Hart_locate n id (σ.2.1 ((sp_Field_rs1 x0).toNatClampNeg)) 4 4 σ), .ref (a 0)]) ⟨hx, hb, hml, hown, hts⟩ (c_Alu_changed (ush x0 27) (sp_Memory_load n (sp_Hart_locate n id (σ.2.1 ((sp_Field_rs1 x0).toNatClampNeg)) 4 4 σ) 4 σ.1) (σ.2.1 ((sp_Field_rs2 x0).toNatClampNeg))) mw_Alu_changed ms_Alu_changed k_454 ⟨rfl, rfl, Nat.le_of_ble_eq_true rfl, Nat.le_of_ble_eq_true rfl⟩ hK hP hD hS hA hF [] [] rfl rfl rfl rfl hl.1 rfl (Nat.le_of_ble_eq_true rfl) d_Hart_changeAtOnce_159 ⟨Nat.zero_le _, Nat.zero_le _⟩) hP hD hS hA [] [0, 1, 2, 3, 4, 5, 6, 7, 8] [0, 1, 2, 3, 4, 5, 6, 7, 8] rfl rfl rfl (by decide) (fun _ => rfl) rfl (fun r_15 _ H locs h_15 hP hD hS => ?_)
            subst h_15
            refine xv (wr := [((a 6), .inr (4, [.int id, .ref (a 7), .ref (a 8), .int σ.2.2.1, .int σ.2.2.2.1, .int σ.2.2.2.2.1])), ((a 7), .inl ((k 4), 32, .inl σ.2.1)), ((a 8), .inr (3, csF σ.2.2.2.2.2))]) (W2 := fun u9 => wH a k n id (u9, σ.2.1, σ.2.2.1, σ.2.2.2.1, σ.2.2.2.2.1, σ.2.2.2.2.2)) (xV (rest := []) ⟨hx, hb, hml, hown, hts⟩ (c_Memory_store a k n (sp_Hart_locate n id (σ.2.1 ((sp_Field_rs1 x0).toNatClampNeg)) 4 4 σ) 4 (sp_Alu_changed (ush x0 27) (sp_Memory_load n (sp_Hart_locate n id (σ.2.1 ((sp_Field_rs1 x0).toNatClampNeg)) 4 4 σ) 4 σ.1) (σ.2.1 ((sp_Field_rs2 x0).toNatClampNeg))) σ.1 hn hp) mw_Memory_store mv_Memory_store k_421 ⟨rfl, rfl, Nat.le_of_ble_eq_true rfl, Nat.le_of_ble_eq_true rfl⟩ hK hP hD hS hA hF [0, 1, 2, 3, 4, 5] [0, 1, 2, 3] rfl rfl rfl 0 1 rfl rfl rfl rfl hl.1 rfl (Nat.le_of_ble_eq_true rfl) d_Hart_changeAtOnce_162 ⟨Nat.zero_le _, Nat.zero_le _⟩) hP hD hS hA [0, 1, 2, 3, 4, 5] [6, 7, 8] [3, 4, 5, 6, 7, 8, 0, 1, 2] rfl rfl rfl (by decide) (fun _ => rfl) rfl (fun u_16 H locs h_16 hP hD hS => ?_)
            refine lv_aload_n hx hb d_Hart_changeAtOnce_165 rfl (lv_at hl 5 rfl) ?_
            refine lv_iload_n hx hb d_Hart_changeAtOnce_166 rfl (lv_at hl 6 rfl) ?_
            refine lv_iload hx hb d_Hart_changeAtOnce_167 (lv_at hl 0 rfl) ?_
            refine xi (wr := []) (W2 := fun u9 => wH a k n id u9) (xV (rest := []) ⟨hx, hb, hml, hown, hts⟩ (c_Hart_finish a k n id x0 (sp_Memory_load n (sp_Hart_locate n id (σ.2.1 ((sp_Field_rs1 x0).toNatClampNeg)) 4 4 σ) 4 σ.1) (u_16, σ.2.1, σ.2.2.1, σ.2.2.2.1, σ.2.2.2.2.1, σ.2.2.2.2.2) hn hid) mw_Hart_finish mv_Hart_finish k_379 ⟨rfl, rfl, Nat.le_of_ble_eq_true rfl, Nat.le_of_ble_eq_true rfl⟩ hK hP hD hS hA hF [0, 1, 2, 3, 4, 5, 6, 7, 8] [0, 1, 2, 3, 4] rfl rfl rfl 6 4 rfl rfl rfl rfl hl.1 rfl (Nat.le_of_ble_eq_true rfl) d_Hart_changeAtOnce_169 ⟨Nat.zero_le _, Nat.zero_le _⟩) hP hD hS hA [0, 1, 2, 3, 4, 5, 6, 7, 8] [] [0, 1, 2, 3, 4, 5, 6, 7, 8] rfl rfl rfl (by decide) (fun _ => rfl) rfl (fun r_17 u_17 H locs h_17 hP hD hS => ?_)
            exact ri u_17 hx hb hr hlocks hP hD hS d_Hart_changeAtOnce_172 (by simp only [sp_Hart_changeAtOnce, h_16, h_17, if_pos c_2, if_neg c_6, if_neg c_9, if_pos c_11, if_neg c_12])
          · refine lv_aload_n hx hb d_Hart_changeAtOnce_97 rfl (lv_at hl 4 rfl) ?_
            refine lv_iload_n hx hb d_Hart_changeAtOnce_98 rfl (lv_at hl 5 rfl) ?_
            refine lv_aload_n hx hb d_Hart_changeAtOnce_99 rfl (lv_at hl 6 rfl) ?_
            refine lv_aload_n hx hb d_Hart_changeAtOnce_100 rfl (lv_at hl 4 rfl) ?_
            refine va_get (D := D) (ci := 4) (v := .int id) (C := R_Hart) (T := F_Hart) (N := 6) hx hb hts i_Hart hown hK hP 6 rfl rfl 0 (by decide) (hts _ k_143) (fun _ h9 => h9) rfl d_Hart_changeAtOnce_101 ?_
            refine lv_lload hx hb d_Hart_changeAtOnce_104 (lv_at hl 0 rfl) ?_
            refine lv_iload hx hb d_Hart_changeAtOnce_106 (lv_at hl 1 rfl) ?_
            refine xi (wr := [((a 6), .inr (4, [.int id, .ref (a 7), .ref (a 8), .int σ.2.2.1, .int σ.2.2.2.1, .int σ.2.2.2.2.1])), ((a 7), .inl ((k 4), 32, .inl σ.2.1)), ((a 8), .inr (3, csF σ.2.2.2.2.2))]) (W2 := fun u9 => wH a k n id (u9, σ.2.1, σ.2.2.1, σ.2.2.2.1, σ.2.2.2.2.1, σ.2.2.2.2.2)) (xV (rest := [.int x0, .ref (a 6)]) ⟨hx, hb, hml, hown, hts⟩ (c_Memory_storeIfClaimed a k n id (sp_Hart_locate n id (σ.2.1 ((sp_Field_rs1 x0).toNatClampNeg)) 4 4 σ) (σ.2.1 ((sp_Field_rs2 x0).toNatClampNeg)) σ.1 hn hid hp) mw_Memory_storeIfClaimed mv_Memory_storeIfClaimed k_445 ⟨rfl, rfl, Nat.le_of_ble_eq_true rfl, Nat.le_of_ble_eq_true rfl⟩ hK hP hD hS hA hF [0, 1, 2, 3, 4, 5] [0, 1, 2, 3] rfl rfl rfl 0 1 rfl rfl rfl rfl hl.1 rfl (Nat.le_of_ble_eq_true rfl) d_Hart_changeAtOnce_108 ⟨Nat.zero_le _, Nat.zero_le _⟩) hP hD hS hA [0, 1, 2, 3, 4, 5] [6, 7, 8] [3, 4, 5, 6, 7, 8, 0, 1, 2] rfl rfl rfl (by decide) (fun _ => rfl) rfl (fun r_18 u_18 H locs h_18 hP hD hS => ?_)
            obtain ⟨h_18, z_18⟩ := h_18
            refine lv_if_eq (tgt := 118) hx hb d_Hart_changeAtOnce_111 (by decide) (fun c_19 => ?_) (fun c_19 => ?_)
            · refine lv_iconst (v := 1) hx hb d_Hart_changeAtOnce_118 rfl ?_
              refine xi (wr := []) (W2 := fun u9 => wH a k n id u9) (xV (rest := []) ⟨hx, hb, hml, hown, hts⟩ (c_Hart_finish a k n id x0 1 (u_18, σ.2.1, σ.2.2.1, σ.2.2.2.1, σ.2.2.2.2.1, σ.2.2.2.2.2) hn hid) mw_Hart_finish mv_Hart_finish k_379 ⟨rfl, rfl, Nat.le_of_ble_eq_true rfl, Nat.le_of_ble_eq_true rfl⟩ hK hP hD hS hA hF [0, 1, 2, 3, 4, 5, 6, 7, 8] [0, 1, 2, 3, 4] rfl rfl rfl 6 4 rfl rfl rfl rfl hl.1 rfl (Nat.le_of_ble_eq_true rfl) d_Hart_changeAtOnce_119 ⟨Nat.zero_le _, Nat.zero_le _⟩) hP hD hS hA [0, 1, 2, 3, 4, 5, 6, 7, 8] [] [0, 1, 2, 3, 4, 5, 6, 7, 8] rfl rfl rfl (by decide) (fun _ => rfl) rfl (fun r_20 u_20 H locs h_20 hP hD hS => ?_)
              exact ri u_20 hx hb hr hlocks hP hD hS d_Hart_changeAtOnce_122 (by simp only [sp_Hart_changeAtOnce, h_18, h_20, if_pos c_2, if_neg c_6, if_neg c_9, if_pos c_11, if_pos c_12, if_pos c_19])
            · refine lv_iconst (v := 0) hx hb d_Hart_changeAtOnce_114 rfl ?_
              refine lv_goto (tgt := 119) hx hb d_Hart_changeAtOnce_115 (by decide) ?_
              refine xi (wr := []) (W2 := fun u9 => wH a k n id u9) (xV (rest := []) ⟨hx, hb, hml, hown, hts⟩ (c_Hart_finish a k n id x0 0 (u_18, σ.2.1, σ.2.2.1, σ.2.2.2.1, σ.2.2.2.2.1, σ.2.2.2.2.2) hn hid) mw_Hart_finish mv_Hart_finish k_379 ⟨rfl, rfl, Nat.le_of_ble_eq_true rfl, Nat.le_of_ble_eq_true rfl⟩ hK hP hD hS hA hF [0, 1, 2, 3, 4, 5, 6, 7, 8] [0, 1, 2, 3, 4] rfl rfl rfl 6 4 rfl rfl rfl rfl hl.1 rfl (Nat.le_of_ble_eq_true rfl) d_Hart_changeAtOnce_119 ⟨Nat.zero_le _, Nat.zero_le _⟩) hP hD hS hA [0, 1, 2, 3, 4, 5, 6, 7, 8] [] [0, 1, 2, 3, 4, 5, 6, 7, 8] rfl rfl rfl (by decide) (fun _ => rfl) rfl (fun r_21 u_21 H locs h_21 hP hD hS => ?_)
              exact ri u_21 hx hb hr hlocks hP hD hS d_Hart_changeAtOnce_122 (by simp only [sp_Hart_changeAtOnce, h_18, h_21, if_pos c_2, if_neg c_6, if_neg c_9, if_pos c_11, if_pos c_12, if_neg c_19])
        · have c_11 : ¬ 0 ≤ (sp_Hart_locate n id (σ.2.1 ((sp_Field_rs1 x0).toNatClampNeg)) 4 4 σ) := fun h9 => b_11 ((lg_cmp_ge _ _).mpr h9)
          refine lv_aload_n hx hb d_Hart_changeAtOnce_83 rfl (lv_at hl 4 rfl) ?_
          refine lv_lload hx hb d_Hart_changeAtOnce_84 (lv_at hl 0 rfl) ?_
          refine lv_iload hx hb d_Hart_changeAtOnce_86 (lv_at hl 2 rfl) ?_
          refine xi (wr := []) (W2 := fun u9 => wH a k n id u9) (xV (rest := []) ⟨hx, hb, hml, hown, hts⟩ (c_Hart_fault a k n id (sp_Hart_locate n id (σ.2.1 ((sp_Field_rs1 x0).toNatClampNeg)) 4 4 σ) (σ.2.1 ((sp_Field_rs1 x0).toNatClampNeg)) σ hn hid) mw_Hart_fault mv_Hart_fault k_333 ⟨rfl, rfl, Nat.le_of_ble_eq_true rfl, Nat.le_of_ble_eq_true rfl⟩ hK hP hD hS hA hF [0, 1, 2, 3, 4, 5, 6, 7, 8] [0, 1, 2, 3, 4] rfl rfl rfl 6 4 rfl rfl rfl rfl hl.1 rfl (Nat.le_of_ble_eq_true rfl) d_Hart_changeAtOnce_88 ⟨Nat.zero_le _, Nat.zero_le _⟩) hP hD hS hA [0, 1, 2, 3, 4, 5, 6, 7, 8] [] [0, 1, 2, 3, 4, 5, 6, 7, 8] rfl rfl rfl (by decide) (fun _ => rfl) rfl (fun r_22 u_22 H locs h_22 hP hD hS => ?_)
          exact ri u_22 hx hb hr hlocks hP hD hS d_Hart_changeAtOnce_91 (by simp only [sp_Hart_changeAtOnce, h_22, if_pos c_2, if_neg c_6, if_neg c_9, if_neg c_11])
      · refine va_gets hx hb (hF.2.1.1 3 (by decide)).1 hS hown (hts _ k_441) (fun _ h9 => h9) d_Hart_changeAtOnce_61 ?_
        refine lv_goto (tgt := 70) hx hb d_Hart_changeAtOnce_64 (by decide) ?_
        refine lv_aload_n hx hb d_Hart_changeAtOnce_70 rfl (lv_at hl 5 rfl) ?_
        refine xl (wr := []) (W2 := fun _ => wH a k n id σ) (xV (rest := []) ⟨hx, hb, hml, hown, hts⟩ (c_Hart_locate a k n id (σ.2.1 ((sp_Field_rs1 x0).toNatClampNeg)) 4 3 σ hn hid (by decide)) mw_Hart_locate mv_Hart_locate k_260 ⟨rfl, rfl, Nat.le_of_ble_eq_true rfl, Nat.le_of_ble_eq_true rfl⟩ hK hP hD hS hA hF [0, 1, 2, 3, 4, 5, 6, 7, 8] [0, 1, 2, 3, 4] rfl rfl rfl 6 4 rfl rfl rfl rfl hl.1 rfl (Nat.le_of_ble_eq_true rfl) d_Hart_changeAtOnce_71 ⟨Nat.zero_le _, Nat.zero_le _⟩) hP hD hS hA [0, 1, 2, 3, 4, 5, 6, 7, 8] [] [0, 1, 2, 3, 4, 5, 6, 7, 8] rfl rfl rfl (by decide) (fun _ => rfl) rfl (fun r_23 _ H locs h_23 hP hD hS => ?_)
        subst h_23
        refine lv_lstore (lv' := [(6, .long (sp_Hart_locate n id (σ.2.1 ((sp_Field_rs1 x0).toNatClampNeg)) 4 3 σ)), (5, .int (σ.2.1 ((sp_Field_rs2 x0).toNatClampNeg))), (4, .int (σ.2.1 ((sp_Field_rs1 x0).toNatClampNeg))), (3, .int (ush x0 27)), (0, .ref (a 6)), (1, .int x0), (2, .ref (a 0))]) hx hb d_Hart_changeAtOnce_74 hl (by decide) rfl (fun ls hl => ?_)
        refine lv_lload hx hb d_Hart_changeAtOnce_76 (lv_at hl 0 rfl) ?_
        refine lv_lconst (v := 0) hx hb d_Hart_changeAtOnce_78 rfl ?_
        refine W.lcmp hx hb d_Hart_changeAtOnce_79 ?_
        refine lv_if_ge (tgt := 92) hx hb d_Hart_changeAtOnce_80 (by decide) (fun b_24 => ?_) (fun b_24 => ?_)
        · have c_24 : 0 ≤ (sp_Hart_locate n id (σ.2.1 ((sp_Field_rs1 x0).toNatClampNeg)) 4 3 σ) := (lg_cmp_ge _ _).mp b_24
          refine lv_iload_n hx hb d_Hart_changeAtOnce_92 rfl (lv_at hl 3 rfl) ?_
          refine lv_iconst (v := 3) hx hb d_Hart_changeAtOnce_93 rfl ?_
          refine lv_icmp_ne (tgt := 123) hx hb d_Hart_changeAtOnce_94 (by decide) (fun c_25 => ?_) (fun c_25 => ?_)
          · refine lv_aload_n hx hb d_Hart_changeAtOnce_123 rfl (lv_at hl 6 rfl) ?_
            refine lv_lload hx hb d_Hart_changeAtOnce_124 (lv_at hl 0 rfl) ?_
            refine lv_iconst (v := 4) hx hb d_Hart_changeAtOnce_126 rfl ?_
            refine xi (wr := [((a 6), .inr (4, [.int id, .ref (a 7), .ref (a 8), .int σ.2.2.1, .int σ.2.2.2.1, .int σ.2.2.2.2.1])), ((a 7), .inl ((k 4), 32, .inl σ.2.1)), ((a 8), .inr (3, csF σ.2.2.2.2.2))]) (W2 := fun _ => wH a k n id σ) (xV (rest := []) ⟨hx, hb, hml, hown, hts⟩ (c_Memory_load a k n (sp_Hart_locate n id (σ.2.1 ((sp_Field_rs1 x0).toNatClampNeg)) 4 3 σ) 4 σ.1 hn) mw_Memory_load mv_Memory_load k_368 ⟨rfl, rfl, Nat.le_of_ble_eq_true rfl, Nat.le_of_ble_eq_true rfl⟩ hK hP hD hS hA hF [0, 1, 2, 3, 4, 5] [0, 1, 2, 3] rfl rfl rfl 0 1 rfl rfl rfl rfl hl.1 rfl (Nat.le_of_ble_eq_true rfl) d_Hart_changeAtOnce_127 ⟨Nat.zero_le _, Nat.zero_le _⟩) hP hD hS hA [0, 1, 2, 3, 4, 5] [6, 7, 8] [3, 4, 5, 6, 7, 8, 0, 1, 2] rfl rfl rfl (by decide) (fun _ => rfl) rfl (fun r_26 _ H locs h_26 hP hD hS => ?_)
            subst h_26
            refine lv_istore (lv' := [(8, .int (sp_Memory_load n (sp_Hart_locate n id (σ.2.1 ((sp_Field_rs1 x0).toNatClampNeg)) 4 3 σ) 4 σ.1)), (6, .long (sp_Hart_locate n id (σ.2.1 ((sp_Field_rs1 x0).toNatClampNeg)) 4 3 σ)), (5, .int (σ.2.1 ((sp_Field_rs2 x0).toNatClampNeg))), (4, .int (σ.2.1 ((sp_Field_rs1 x0).toNatClampNeg))), (3, .int (ush x0 27)), (0, .ref (a 6)), (1, .int x0), (2, .ref (a 0))]) hx hb d_Hart_changeAtOnce_130 hl (by decide) rfl (fun ls hl => ?_)
            refine lv_iload_n hx hb d_Hart_changeAtOnce_132 rfl (lv_at hl 4 rfl) ?_
            refine lv_iconst (v := 2) hx hb d_Hart_changeAtOnce_133 rfl ?_
            refine lv_icmp_ne (tgt := 150) hx hb d_Hart_changeAtOnce_134 (by decide) (fun h9 => absurd c_9 h9) (fun _ => ?_)
            refine lv_aload_n hx hb d_Hart_changeAtOnce_137 rfl (lv_at hl 7 rfl) ?_
            refine lv_aload_n hx hb d_Hart_changeAtOnce_138 rfl (lv_at hl 5 rfl) ?_
            refine va_get (D := D) (ci := 4) (v := .int id) (C := R_Hart) (T := F_Hart) (N := 6) hx hb hts i_Hart hown hK hP 6 rfl rfl 0 (by decide) (hts _ k_143) (fun _ h9 => h9) rfl d_Hart_changeAtOnce_139 ?_
            refine lv_lload hx hb d_Hart_changeAtOnce_142 (lv_at hl 1 rfl) ?_
            refine xv (wr := [((a 6), .inr (4, [.int id, .ref (a 7), .ref (a 8), .int σ.2.2.1, .int σ.2.2.2.1, .int σ.2.2.2.2.1])), ((a 7), .inl ((k 4), 32, .inl σ.2.1)), ((a 8), .inr (3, csF σ.2.2.2.2.2))]) (W2 := fun u9 => wH a k n id (u9, σ.2.1, σ.2.2.1, σ.2.2.2.1, σ.2.2.2.2.1, σ.2.2.2.2.2)) (xV (rest := []) ⟨hx, hb, hml, hown, hts⟩ (c_Memory_claim a k n id (sp_Hart_locate n id (σ.2.1 ((sp_Field_rs1 x0).toNatClampNeg)) 4 3 σ) σ.1 hn hid) mw_Memory_claim mv_Memory_claim k_450 ⟨rfl, rfl, Nat.le_of_ble_eq_true rfl, Nat.le_of_ble_eq_true rfl⟩ hK hP hD hS hA hF [0, 1, 2, 3, 4, 5] [0, 1, 2, 3] rfl rfl rfl 0 1 rfl rfl rfl rfl hl.1 rfl (Nat.le_of_ble_eq_true rfl) d_Hart_changeAtOnce_144 ⟨Nat.zero_le _, Nat.zero_le _⟩) hP hD hS hA [0, 1, 2, 3, 4, 5] [6, 7, 8] [3, 4, 5, 6, 7, 8, 0, 1, 2] rfl rfl rfl (by decide) (fun _ => rfl) rfl (fun u_28 H locs h_28 hP hD hS => ?_)
            refine lv_goto (tgt := 165) hx hb d_Hart_changeAtOnce_147 (by decide) ?_
            refine lv_aload_n hx hb d_Hart_changeAtOnce_165 rfl (lv_at hl 5 rfl) ?_
            refine lv_iload_n hx hb d_Hart_changeAtOnce_166 rfl (lv_at hl 6 rfl) ?_
            refine lv_iload hx hb d_Hart_changeAtOnce_167 (lv_at hl 0 rfl) ?_
            refine xi (wr := []) (W2 := fun u9 => wH a k n id u9) (xV (rest := []) ⟨hx, hb, hml, hown, hts⟩ (c_Hart_finish a k n id x0 (sp_Memory_load n (sp_Hart_locate n id (σ.2.1 ((sp_Field_rs1 x0).toNatClampNeg)) 4 3 σ) 4 σ.1) (u_28, σ.2.1, σ.2.2.1, σ.2.2.2.1, σ.2.2.2.2.1, σ.2.2.2.2.2) hn hid) mw_Hart_finish mv_Hart_finish k_379 ⟨rfl, rfl, Nat.le_of_ble_eq_true rfl, Nat.le_of_ble_eq_true rfl⟩ hK hP hD hS hA hF [0, 1, 2, 3, 4, 5, 6, 7, 8] [0, 1, 2, 3, 4] rfl rfl rfl 6 4 rfl rfl rfl rfl hl.1 rfl (Nat.le_of_ble_eq_true rfl) d_Hart_changeAtOnce_169 ⟨Nat.zero_le _, Nat.zero_le _⟩) hP hD hS hA [0, 1, 2, 3, 4, 5, 6, 7, 8] [] [0, 1, 2, 3, 4, 5, 6, 7, 8] rfl rfl rfl (by decide) (fun _ => rfl) rfl (fun r_29 u_29 H locs h_29 hP hD hS => ?_)
            exact ri u_29 hx hb hr hlocks hP hD hS d_Hart_changeAtOnce_172 (by simp only [sp_Hart_changeAtOnce, h_28, h_29, if_pos c_2, if_neg c_6, if_pos c_9, if_pos c_24, if_neg c_25])
          · refine lv_aload_n hx hb d_Hart_changeAtOnce_97 rfl (lv_at hl 4 rfl) ?_
            refine lv_iload_n hx hb d_Hart_changeAtOnce_98 rfl (lv_at hl 5 rfl) ?_
            refine lv_aload_n hx hb d_Hart_changeAtOnce_99 rfl (lv_at hl 6 rfl) ?_
            refine lv_aload_n hx hb d_Hart_changeAtOnce_100 rfl (lv_at hl 4 rfl) ?_
            refine va_get (D := D) (ci := 4) (v := .int id) (C := R_Hart) (T := F_Hart) (N := 6) hx hb hts i_Hart hown hK hP 6 rfl rfl 0 (by decide) (hts _ k_143) (fun _ h9 => h9) rfl d_Hart_changeAtOnce_101 ?_
            refine lv_lload hx hb d_Hart_changeAtOnce_104 (lv_at hl 0 rfl) ?_
            refine lv_iload hx hb d_Hart_changeAtOnce_106 (lv_at hl 1 rfl) ?_
            refine xi (wr := [((a 6), .inr (4, [.int id, .ref (a 7), .ref (a 8), .int σ.2.2.1, .int σ.2.2.2.1, .int σ.2.2.2.2.1])), ((a 7), .inl ((k 4), 32, .inl σ.2.1)), ((a 8), .inr (3, csF σ.2.2.2.2.2))]) (W2 := fun u9 => wH a k n id (u9, σ.2.1, σ.2.2.1, σ.2.2.2.1, σ.2.2.2.2.1, σ.2.2.2.2.2)) (xV (rest := [.int x0, .ref (a 6)]) ⟨hx, hb, hml, hown, hts⟩ (c_Memory_storeIfClaimed a k n id (sp_Hart_locate n id (σ.2.1 ((sp_Field_rs1 x0).toNatClampNeg)) 4 3 σ) (σ.2.1 ((sp_Field_rs2 x0).toNatClampNeg)) σ.1 hn hid hp) mw_Memory_storeIfClaimed mv_Memory_storeIfClaimed k_445 ⟨rfl, rfl, Nat.le_of_ble_eq_true rfl, Nat.le_of_ble_eq_true rfl⟩ hK hP hD hS hA hF [0, 1, 2, 3, 4, 5] [0, 1, 2, 3] rfl rfl rfl 0 1 rfl rfl rfl rfl hl.1 rfl (Nat.le_of_ble_eq_true rfl) d_Hart_changeAtOnce_108 ⟨Nat.zero_le _, Nat.zero_le _⟩) hP hD hS hA [0, 1, 2, 3, 4, 5] [6, 7, 8] [3, 4, 5, 6, 7, 8, 0, 1, 2] rfl rfl rfl (by decide) (fun _ => rfl) rfl (fun r_30 u_30 H locs h_30 hP hD hS => ?_)
            obtain ⟨h_30, z_30⟩ := h_30
            refine lv_if_eq (tgt := 118) hx hb d_Hart_changeAtOnce_111 (by decide) (fun c_31 => ?_) (fun c_31 => ?_)
            · refine lv_iconst (v := 1) hx hb d_Hart_changeAtOnce_118 rfl ?_
              refine xi (wr := []) (W2 := fun u9 => wH a k n id u9) (xV (rest := []) ⟨hx, hb, hml, hown, hts⟩ (c_Hart_finish a k n id x0 1 (u_30, σ.2.1, σ.2.2.1, σ.2.2.2.1, σ.2.2.2.2.1, σ.2.2.2.2.2) hn hid) mw_Hart_finish mv_Hart_finish k_379 ⟨rfl, rfl, Nat.le_of_ble_eq_true rfl, Nat.le_of_ble_eq_true rfl⟩ hK hP hD hS hA hF [0, 1, 2, 3, 4, 5, 6, 7, 8] [0, 1, 2, 3, 4] rfl rfl rfl 6 4 rfl rfl rfl rfl hl.1 rfl (Nat.le_of_ble_eq_true rfl) d_Hart_changeAtOnce_119 ⟨Nat.zero_le _, Nat.zero_le _⟩) hP hD hS hA [0, 1, 2, 3, 4, 5, 6, 7, 8] [] [0, 1, 2, 3, 4, 5, 6, 7, 8] rfl rfl rfl (by decide) (fun _ => rfl) rfl (fun r_32 u_32 H locs h_32 hP hD hS => ?_)
              exact ri u_32 hx hb hr hlocks hP hD hS d_Hart_changeAtOnce_122 (by simp only [sp_Hart_changeAtOnce, h_30, h_32, if_pos c_2, if_neg c_6, if_pos c_9, if_pos c_24, if_pos c_25, if_pos c_31])
            · refine lv_iconst (v := 0) hx hb d_Hart_changeAtOnce_114 rfl ?_
              refine lv_goto (tgt := 119) hx hb d_Hart_changeAtOnce_115 (by decide) ?_
              refine xi (wr := []) (W2 := fun u9 => wH a k n id u9) (xV (rest := []) ⟨hx, hb, hml, hown, hts⟩ (c_Hart_finish a k n id x0 0 (u_30, σ.2.1, σ.2.2.1, σ.2.2.2.1, σ.2.2.2.2.1, σ.2.2.2.2.2) hn hid) mw_Hart_finish mv_Hart_finish k_379 ⟨rfl, rfl, Nat.le_of_ble_eq_true rfl, Nat.le_of_ble_eq_true rfl⟩ hK hP hD hS hA hF [0, 1, 2, 3, 4, 5, 6, 7, 8] [0, 1, 2, 3, 4] rfl rfl rfl 6 4 rfl rfl rfl rfl hl.1 rfl (Nat.le_of_ble_eq_true rfl) d_Hart_changeAtOnce_119 ⟨Nat.zero_le _, Nat.zero_le _⟩) hP hD hS hA [0, 1, 2, 3, 4, 5, 6, 7, 8] [] [0, 1, 2, 3, 4, 5, 6, 7, 8] rfl rfl rfl (by decide) (fun _ => rfl) rfl (fun r_33 u_33 H locs h_33 hP hD hS => ?_)
              exact ri u_33 hx hb hr hlocks hP hD hS d_Hart_changeAtOnce_122 (by simp only [sp_Hart_changeAtOnce, h_30, h_33, if_pos c_2, if_neg c_6, if_pos c_9, if_pos c_24, if_pos c_25, if_neg c_31])
        · have c_24 : ¬ 0 ≤ (sp_Hart_locate n id (σ.2.1 ((sp_Field_rs1 x0).toNatClampNeg)) 4 3 σ) := fun h9 => b_24 ((lg_cmp_ge _ _).mpr h9)
          refine lv_aload_n hx hb d_Hart_changeAtOnce_83 rfl (lv_at hl 4 rfl) ?_
          refine lv_lload hx hb d_Hart_changeAtOnce_84 (lv_at hl 0 rfl) ?_
          refine lv_iload hx hb d_Hart_changeAtOnce_86 (lv_at hl 2 rfl) ?_
          refine xi (wr := []) (W2 := fun u9 => wH a k n id u9) (xV (rest := []) ⟨hx, hb, hml, hown, hts⟩ (c_Hart_fault a k n id (sp_Hart_locate n id (σ.2.1 ((sp_Field_rs1 x0).toNatClampNeg)) 4 3 σ) (σ.2.1 ((sp_Field_rs1 x0).toNatClampNeg)) σ hn hid) mw_Hart_fault mv_Hart_fault k_333 ⟨rfl, rfl, Nat.le_of_ble_eq_true rfl, Nat.le_of_ble_eq_true rfl⟩ hK hP hD hS hA hF [0, 1, 2, 3, 4, 5, 6, 7, 8] [0, 1, 2, 3, 4] rfl rfl rfl 6 4 rfl rfl rfl rfl hl.1 rfl (Nat.le_of_ble_eq_true rfl) d_Hart_changeAtOnce_88 ⟨Nat.zero_le _, Nat.zero_le _⟩) hP hD hS hA [0, 1, 2, 3, 4, 5, 6, 7, 8] [] [0, 1, 2, 3, 4, 5, 6, 7, 8] rfl rfl rfl (by decide) (fun _ => rfl) rfl (fun r_34 u_34 H locs h_34 hP hD hS => ?_)
          exact ri u_34 hx hb hr hlocks hP hD hS d_Hart_changeAtOnce_91 (by simp only [sp_Hart_changeAtOnce, h_34, if_pos c_2, if_neg c_6, if_pos c_9, if_neg c_24])
    · refine lv_aload_n hx hb d_Hart_changeAtOnce_24 rfl (lv_at hl 1 rfl) ?_
      refine lv_iload_n hx hb d_Hart_changeAtOnce_25 rfl (lv_at hl 2 rfl) ?_
      refine xi (wr := []) (W2 := fun u9 => wH a k n id u9) (xV (rest := []) ⟨hx, hb, hml, hown, hts⟩ (c_Hart_illegal a k n id x0 σ hn hid) mw_Hart_illegal mv_Hart_illegal k_356 ⟨rfl, rfl, Nat.le_of_ble_eq_true rfl, Nat.le_of_ble_eq_true rfl⟩ hK hP hD hS hA hF [0, 1, 2, 3, 4, 5, 6, 7, 8] [0, 1, 2, 3, 4] rfl rfl rfl 6 4 rfl rfl rfl rfl hl.1 rfl (Nat.le_of_ble_eq_true rfl) d_Hart_changeAtOnce_26 ⟨Nat.zero_le _, Nat.zero_le _⟩) hP hD hS hA [0, 1, 2, 3, 4, 5, 6, 7, 8] [] [0, 1, 2, 3, 4, 5, 6, 7, 8] rfl rfl rfl (by decide) (fun _ => rfl) rfl (fun r_35 u_35 H locs h_35 hP hD hS => ?_)
      exact ri u_35 hx hb hr hlocks hP hD hS d_Hart_changeAtOnce_29 (by simp only [sp_Hart_changeAtOnce, h_35, if_pos c_2, if_pos c_6])
def sp_Hart_compute (n : Nat) (id : Int32) (x0 : Int32) (σ : TH) : Int32 × TH :=
  if (sp_Field_f7 x0) = 0 then
    let r_22 := (sp_Hart_finish n id x0 (sp_Alu_plain (sp_Field_f3 x0) (σ.2.1 ((sp_Field_rs1 x0).toNatClampNeg)) (σ.2.1 ((sp_Field_rs2 x0).toNatClampNeg))) σ).1
    let u_22 := (sp_Hart_finish n id x0 (sp_Alu_plain (sp_Field_f3 x0) (σ.2.1 ((sp_Field_rs1 x0).toNatClampNeg)) (σ.2.1 ((sp_Field_rs2 x0).toNatClampNeg))) σ).2
    (r_22, u_22)
  else
    if (sp_Field_f7 x0) = 1 then
      if 4 ≤ (sp_Field_f3 x0) then
        let r_18 := (sp_Hart_finish n id x0 (sp_Alu_divided (sp_Field_f3 x0) (σ.2.1 ((sp_Field_rs1 x0).toNatClampNeg)) (σ.2.1 ((sp_Field_rs2 x0).toNatClampNeg))) σ).1
        let u_18 := (sp_Hart_finish n id x0 (sp_Alu_divided (sp_Field_f3 x0) (σ.2.1 ((sp_Field_rs1 x0).toNatClampNeg)) (σ.2.1 ((sp_Field_rs2 x0).toNatClampNeg))) σ).2
        (r_18, u_18)
      else
        let r_20 := (sp_Hart_finish n id x0 (sp_Alu_multiplied (sp_Field_f3 x0) (σ.2.1 ((sp_Field_rs1 x0).toNatClampNeg)) (σ.2.1 ((sp_Field_rs2 x0).toNatClampNeg))) σ).1
        let u_20 := (sp_Hart_finish n id x0 (sp_Alu_multiplied (sp_Field_f3 x0) (σ.2.1 ((sp_Field_rs1 x0).toNatClampNeg)) (σ.2.1 ((sp_Field_rs2 x0).toNatClampNeg))) σ).2
        (r_20, u_20)
    else
      if (sp_Field_f7 x0) = 32 then
        if (sp_Field_f3 x0) = 0 then
          let r_15 := (sp_Hart_finish n id x0 ((σ.2.1 ((sp_Field_rs1 x0).toNatClampNeg)) - (σ.2.1 ((sp_Field_rs2 x0).toNatClampNeg))) σ).1
          let u_15 := (sp_Hart_finish n id x0 ((σ.2.1 ((sp_Field_rs1 x0).toNatClampNeg)) - (σ.2.1 ((sp_Field_rs2 x0).toNatClampNeg))) σ).2
          (r_15, u_15)
        else
          if (sp_Field_f3 x0) = 5 then
            let r_14 := (sp_Hart_finish n id x0 (shr (σ.2.1 ((sp_Field_rs1 x0).toNatClampNeg)) ((σ.2.1 ((sp_Field_rs2 x0).toNatClampNeg)) &&& 31)) σ).1
            let u_14 := (sp_Hart_finish n id x0 (shr (σ.2.1 ((sp_Field_rs1 x0).toNatClampNeg)) ((σ.2.1 ((sp_Field_rs2 x0).toNatClampNeg)) &&& 31)) σ).2
            (r_14, u_14)
          else
            let r_13 := (sp_Hart_illegal n id x0 σ).1
            let u_13 := (sp_Hart_illegal n id x0 σ).2
            (r_13, u_13)
      else
        let r_9 := (sp_Hart_illegal n id x0 σ).1
        let u_9 := (sp_Hart_illegal n id x0 σ).2
        (r_9, u_9)
set_option maxHeartbeats 4000000 in
set_option maxRecDepth 100000 in
theorem c_Hart_compute {l : Launch} {D : va_G} {g : Nat → Nat} (a : Nat → Nat) (k : Nat → ClassId) (n : Nat) (id : Int32) (x0 : Int32) (σ : TH) (hn : n ≤ 4096) (hid : id = 0 ∨ id = 1) : CT l D g y_Hart_compute b_Hart_compute 6 (some .int) (rD 2) [.ref (a 6), .int x0] (wH a k n id σ) (tyH k) (Qi D (fun (r : Int32) (u : TH) => sp_Hart_compute n id x0 σ = (r, u)) (fun u => wH a k n id u)) := by
  refine CT.of rfl (Nat.le_of_ble_eq_true rfl) (fun p e s m below meth c A ls hx hb hr hml hts hown hlocks hA hP hK hD hF hS hl => ?_)
  have hl : lv_has ls 6 [(0, .ref (a 6)), (1, .int x0)] := hl
  refine lv_iload_n hx hb d_Hart_compute_0 rfl (lv_at hl 1 rfl) ?_
  refine xi (wr := [((a 0), .inr (1, [.ref (a 3), .ref (a 1), .ref (a 4), .int σ.1.2.2.2.1, .ref (a 5)])), ((a 1), .inr (2, [.ref (a 2)])), ((a 2), .inl ((k 0), 8, .inl σ.1.1)), ((a 3), .inl ((k 1), n, .inl σ.1.2.1)), ((a 4), .inl ((k 2), 256, .inl σ.1.2.2.1)), ((a 5), .inl ((k 3), 2, .inr (.inl σ.1.2.2.2.2))), ((a 6), .inr (4, [.int id, .ref (a 7), .ref (a 8), .int σ.2.2.1, .int σ.2.2.2.1, .int σ.2.2.2.2.1])), ((a 7), .inl ((k 4), 32, .inl σ.2.1)), ((a 8), .inr (3, csF σ.2.2.2.2.2))]) (W2 := fun _ => wH a k n id σ) (xS (rest := []) ⟨hx, hb, hml, hown, hts⟩ (c_Field_f3 x0) mw_Field_f3 ms_Field_f3 k_353 ⟨rfl, rfl, Nat.le_of_ble_eq_true rfl, Nat.le_of_ble_eq_true rfl⟩ hK hP hD hS hA hF [] [] rfl rfl rfl rfl hl.1 rfl (Nat.le_of_ble_eq_true rfl) d_Hart_compute_1 ⟨Nat.zero_le _, Nat.zero_le _⟩) hP hD hS hA [] [0, 1, 2, 3, 4, 5, 6, 7, 8] [0, 1, 2, 3, 4, 5, 6, 7, 8] rfl rfl rfl (by decide) (fun _ => rfl) rfl (fun r_1 _ H locs h_1 hP hD hS => ?_)
  subst h_1
  refine lv_istore_n (lv' := [(2, .int (sp_Field_f3 x0)), (0, .ref (a 6)), (1, .int x0)]) hx hb d_Hart_compute_4 rfl hl (by decide) rfl (fun ls hl => ?_)
  refine lv_iload_n hx hb d_Hart_compute_5 rfl (lv_at hl 2 rfl) ?_
  refine xi (wr := [((a 0), .inr (1, [.ref (a 3), .ref (a 1), .ref (a 4), .int σ.1.2.2.2.1, .ref (a 5)])), ((a 1), .inr (2, [.ref (a 2)])), ((a 2), .inl ((k 0), 8, .inl σ.1.1)), ((a 3), .inl ((k 1), n, .inl σ.1.2.1)), ((a 4), .inl ((k 2), 256, .inl σ.1.2.2.1)), ((a 5), .inl ((k 3), 2, .inr (.inl σ.1.2.2.2.2))), ((a 6), .inr (4, [.int id, .ref (a 7), .ref (a 8), .int σ.2.2.1, .int σ.2.2.2.1, .int σ.2.2.2.2.1])), ((a 7), .inl ((k 4), 32, .inl σ.2.1)), ((a 8), .inr (3, csF σ.2.2.2.2.2))]) (W2 := fun _ => wH a k n id σ) (xS (rest := []) ⟨hx, hb, hml, hown, hts⟩ (c_Field_f7 x0) mw_Field_f7 ms_Field_f7 k_398 ⟨rfl, rfl, Nat.le_of_ble_eq_true rfl, Nat.le_of_ble_eq_true rfl⟩ hK hP hD hS hA hF [] [] rfl rfl rfl rfl hl.1 rfl (Nat.le_of_ble_eq_true rfl) d_Hart_compute_6 ⟨Nat.zero_le _, Nat.zero_le _⟩) hP hD hS hA [] [0, 1, 2, 3, 4, 5, 6, 7, 8] [0, 1, 2, 3, 4, 5, 6, 7, 8] rfl rfl rfl (by decide) (fun _ => rfl) rfl (fun r_2 _ H locs h_2 hP hD hS => ?_)
  subst h_2
  refine lv_istore_n (lv' := [(3, .int (sp_Field_f7 x0)), (2, .int (sp_Field_f3 x0)), (0, .ref (a 6)), (1, .int x0)]) hx hb d_Hart_compute_9 rfl hl (by decide) rfl (fun ls hl => ?_)
  refine lv_aload_n hx hb d_Hart_compute_10 rfl (lv_at hl 2 rfl) ?_
  refine va_get (D := D) (ci := 4) (v := .ref (a 7)) (C := R_Hart) (T := F_Hart) (N := 6) hx hb hts i_Hart hown hK hP 6 rfl rfl 1 (by decide) (hts _ k_144) (fun _ h9 => h9) rfl d_Hart_compute_11 ?_
  refine lv_iload_n hx hb d_Hart_compute_14 rfl (lv_at hl 3 rfl) ?_
  refine xi (wr := [((a 0), .inr (1, [.ref (a 3), .ref (a 1), .ref (a 4), .int σ.1.2.2.2.1, .ref (a 5)])), ((a 1), .inr (2, [.ref (a 2)])), ((a 2), .inl ((k 0), 8, .inl σ.1.1)), ((a 3), .inl ((k 1), n, .inl σ.1.2.1)), ((a 4), .inl ((k 2), 256, .inl σ.1.2.2.1)), ((a 5), .inl ((k 3), 2, .inr (.inl σ.1.2.2.2.2))), ((a 6), .inr (4, [.int id, .ref (a 7), .ref (a 8), .int σ.2.2.1, .int σ.2.2.2.1, .int σ.2.2.2.2.1])), ((a 7), .inl ((k 4), 32, .inl σ.2.1)), ((a 8), .inr (3, csF σ.2.2.2.2.2))]) (W2 := fun _ => wH a k n id σ) (xS (rest := [.ref (a 7)]) ⟨hx, hb, hml, hown, hts⟩ (c_Field_rs1 x0) mw_Field_rs1 ms_Field_rs1 k_360 ⟨rfl, rfl, Nat.le_of_ble_eq_true rfl, Nat.le_of_ble_eq_true rfl⟩ hK hP hD hS hA hF [] [] rfl rfl rfl rfl hl.1 rfl (Nat.le_of_ble_eq_true rfl) d_Hart_compute_15 ⟨Nat.zero_le _, Nat.zero_le _⟩) hP hD hS hA [] [0, 1, 2, 3, 4, 5, 6, 7, 8] [0, 1, 2, 3, 4, 5, 6, 7, 8] rfl rfl rfl (by decide) (fun _ => rfl) rfl (fun r_3 _ H locs h_3 hP hD hS => ?_)
  subst h_3
  refine y_iald (v := σ.2.1 ((sp_Field_rs1 x0).toNatClampNeg)) hx hb hK hP 7 4 rfl rfl (vp_rs1 _) rfl d_Hart_compute_18 ?_
  refine lv_istore (lv' := [(4, .int (σ.2.1 ((sp_Field_rs1 x0).toNatClampNeg))), (3, .int (sp_Field_f7 x0)), (2, .int (sp_Field_f3 x0)), (0, .ref (a 6)), (1, .int x0)]) hx hb d_Hart_compute_19 hl (by decide) rfl (fun ls hl => ?_)
  refine lv_aload_n hx hb d_Hart_compute_21 rfl (lv_at hl 3 rfl) ?_
  refine va_get (D := D) (ci := 4) (v := .ref (a 7)) (C := R_Hart) (T := F_Hart) (N := 6) hx hb hts i_Hart hown hK hP 6 rfl rfl 1 (by decide) (hts _ k_144) (fun _ h9 => h9) rfl d_Hart_compute_22 ?_
  refine lv_iload_n hx hb d_Hart_compute_25 rfl (lv_at hl 4 rfl) ?_
  refine xi (wr := [((a 0), .inr (1, [.ref (a 3), .ref (a 1), .ref (a 4), .int σ.1.2.2.2.1, .ref (a 5)])), ((a 1), .inr (2, [.ref (a 2)])), ((a 2), .inl ((k 0), 8, .inl σ.1.1)), ((a 3), .inl ((k 1), n, .inl σ.1.2.1)), ((a 4), .inl ((k 2), 256, .inl σ.1.2.2.1)), ((a 5), .inl ((k 3), 2, .inr (.inl σ.1.2.2.2.2))), ((a 6), .inr (4, [.int id, .ref (a 7), .ref (a 8), .int σ.2.2.1, .int σ.2.2.2.1, .int σ.2.2.2.2.1])), ((a 7), .inl ((k 4), 32, .inl σ.2.1)), ((a 8), .inr (3, csF σ.2.2.2.2.2))]) (W2 := fun _ => wH a k n id σ) (xS (rest := [.ref (a 7)]) ⟨hx, hb, hml, hown, hts⟩ (c_Field_rs2 x0) mw_Field_rs2 ms_Field_rs2 k_401 ⟨rfl, rfl, Nat.le_of_ble_eq_true rfl, Nat.le_of_ble_eq_true rfl⟩ hK hP hD hS hA hF [] [] rfl rfl rfl rfl hl.1 rfl (Nat.le_of_ble_eq_true rfl) d_Hart_compute_26 ⟨Nat.zero_le _, Nat.zero_le _⟩) hP hD hS hA [] [0, 1, 2, 3, 4, 5, 6, 7, 8] [0, 1, 2, 3, 4, 5, 6, 7, 8] rfl rfl rfl (by decide) (fun _ => rfl) rfl (fun r_4 _ H locs h_4 hP hD hS => ?_)
  subst h_4
  refine y_iald (v := σ.2.1 ((sp_Field_rs2 x0).toNatClampNeg)) hx hb hK hP 7 4 rfl rfl (vp_rs2 _) rfl d_Hart_compute_29 ?_
  refine lv_istore (lv' := [(5, .int (σ.2.1 ((sp_Field_rs2 x0).toNatClampNeg))), (4, .int (σ.2.1 ((sp_Field_rs1 x0).toNatClampNeg))), (3, .int (sp_Field_f7 x0)), (2, .int (sp_Field_f3 x0)), (0, .ref (a 6)), (1, .int x0)]) hx hb d_Hart_compute_30 hl (by decide) rfl (fun ls hl => ?_)
  refine lv_iload_n hx hb d_Hart_compute_32 rfl (lv_at hl 2 rfl) ?_
  refine lv_if_ne (tgt := 50) hx hb d_Hart_compute_33 (by decide) (fun c_5 => ?_) (fun c_5 => ?_)
  · refine lv_iload_n hx hb d_Hart_compute_50 rfl (lv_at hl 2 rfl) ?_
    refine lv_iconst (v := 1) hx hb d_Hart_compute_51 rfl ?_
    refine lv_icmp_ne (tgt := 85) hx hb d_Hart_compute_52 (by decide) (fun c_6 => ?_) (fun c_6 => ?_)
    · refine lv_iload_n hx hb d_Hart_compute_85 rfl (lv_at hl 2 rfl) ?_
      refine lv_bipush (v := 32) hx hb d_Hart_compute_86 rfl ?_
      refine lv_icmp_ne (tgt := 106) hx hb d_Hart_compute_88 (by decide) (fun c_7 => ?_) (fun c_7 => ?_)
      · refine lv_iload_n hx hb d_Hart_compute_106 rfl (lv_at hl 2 rfl) ?_
        refine lv_bipush (v := 32) hx hb d_Hart_compute_107 rfl ?_
        refine lv_icmp_ne (tgt := 131) hx hb d_Hart_compute_109 (by decide) (fun _ => ?_) (fun h9 => absurd h9 c_7)
        refine lv_aload_n hx hb d_Hart_compute_131 rfl (lv_at hl 4 rfl) ?_
        refine lv_iload_n hx hb d_Hart_compute_132 rfl (lv_at hl 5 rfl) ?_
        refine xi (wr := []) (W2 := fun u9 => wH a k n id u9) (xV (rest := []) ⟨hx, hb, hml, hown, hts⟩ (c_Hart_illegal a k n id x0 σ hn hid) mw_Hart_illegal mv_Hart_illegal k_356 ⟨rfl, rfl, Nat.le_of_ble_eq_true rfl, Nat.le_of_ble_eq_true rfl⟩ hK hP hD hS hA hF [0, 1, 2, 3, 4, 5, 6, 7, 8] [0, 1, 2, 3, 4] rfl rfl rfl 6 4 rfl rfl rfl rfl hl.1 rfl (Nat.le_of_ble_eq_true rfl) d_Hart_compute_133 ⟨Nat.zero_le _, Nat.zero_le _⟩) hP hD hS hA [0, 1, 2, 3, 4, 5, 6, 7, 8] [] [0, 1, 2, 3, 4, 5, 6, 7, 8] rfl rfl rfl (by decide) (fun _ => rfl) rfl (fun r_9 u_9 H locs h_9 hP hD hS => ?_)
        exact ri u_9 hx hb hr hlocks hP hD hS d_Hart_compute_136 (by simp only [sp_Hart_compute, h_9, if_neg c_5, if_neg c_6, if_neg c_7])
      · refine lv_iload_n hx hb d_Hart_compute_91 rfl (lv_at hl 3 rfl) ?_
        refine lv_if_ne (tgt := 106) hx hb d_Hart_compute_92 (by decide) (fun c_10 => ?_) (fun c_10 => ?_)
        · refine lv_iload_n hx hb d_Hart_compute_106 rfl (lv_at hl 2 rfl) ?_
          refine lv_bipush (v := 32) hx hb d_Hart_compute_107 rfl ?_
          refine lv_icmp_ne (tgt := 131) hx hb d_Hart_compute_109 (by decide) (fun h9 => absurd c_7 h9) (fun _ => ?_)
          refine lv_iload_n hx hb d_Hart_compute_112 rfl (lv_at hl 3 rfl) ?_
          refine lv_iconst (v := 5) hx hb d_Hart_compute_113 rfl ?_
          refine lv_icmp_ne (tgt := 131) hx hb d_Hart_compute_114 (by decide) (fun c_12 => ?_) (fun c_12 => ?_)
          · refine lv_aload_n hx hb d_Hart_compute_131 rfl (lv_at hl 4 rfl) ?_
            refine lv_iload_n hx hb d_Hart_compute_132 rfl (lv_at hl 5 rfl) ?_
            refine xi (wr := []) (W2 := fun u9 => wH a k n id u9) (xV (rest := []) ⟨hx, hb, hml, hown, hts⟩ (c_Hart_illegal a k n id x0 σ hn hid) mw_Hart_illegal mv_Hart_illegal k_356 ⟨rfl, rfl, Nat.le_of_ble_eq_true rfl, Nat.le_of_ble_eq_true rfl⟩ hK hP hD hS hA hF [0, 1, 2, 3, 4, 5, 6, 7, 8] [0, 1, 2, 3, 4] rfl rfl rfl 6 4 rfl rfl rfl rfl hl.1 rfl (Nat.le_of_ble_eq_true rfl) d_Hart_compute_133 ⟨Nat.zero_le _, Nat.zero_le _⟩) hP hD hS hA [0, 1, 2, 3, 4, 5, 6, 7, 8] [] [0, 1, 2, 3, 4, 5, 6, 7, 8] rfl rfl rfl (by decide) (fun _ => rfl) rfl (fun r_13 u_13 H locs h_13 hP hD hS => ?_)
            exact ri u_13 hx hb hr hlocks hP hD hS d_Hart_compute_136 (by simp only [sp_Hart_compute, h_13, if_neg c_5, if_neg c_6, if_pos c_7, if_neg c_10, if_neg c_12])
          · refine lv_aload_n hx hb d_Hart_compute_117 rfl (lv_at hl 4 rfl) ?_
            refine lv_iload_n hx hb d_Hart_compute_118 rfl (lv_at hl 5 rfl) ?_
            refine lv_iload hx hb d_Hart_compute_119 (lv_at hl 1 rfl) ?_
            refine lv_iload hx hb d_Hart_compute_121 (lv_at hl 0 rfl) ?_
            refine lv_bipush (v := 31) hx hb d_Hart_compute_123 rfl ?_
            refine lv_iand hx hb d_Hart_compute_125 ?_
            refine y_ishr hx hb d_Hart_compute_126 ?_
            refine xi (wr := []) (W2 := fun u9 => wH a k n id u9) (xV (rest := []) ⟨hx, hb, hml, hown, hts⟩ (c_Hart_finish a k n id x0 (shr (σ.2.1 ((sp_Field_rs1 x0).toNatClampNeg)) ((σ.2.1 ((sp_Field_rs2 x0).toNatClampNeg)) &&& 31)) σ hn hid) mw_Hart_finish mv_Hart_finish k_379 ⟨rfl, rfl, Nat.le_of_ble_eq_true rfl, Nat.le_of_ble_eq_true rfl⟩ hK hP hD hS hA hF [0, 1, 2, 3, 4, 5, 6, 7, 8] [0, 1, 2, 3, 4] rfl rfl rfl 6 4 rfl rfl rfl rfl hl.1 rfl (Nat.le_of_ble_eq_true rfl) d_Hart_compute_127 ⟨Nat.zero_le _, Nat.zero_le _⟩) hP hD hS hA [0, 1, 2, 3, 4, 5, 6, 7, 8] [] [0, 1, 2, 3, 4, 5, 6, 7, 8] rfl rfl rfl (by decide) (fun _ => rfl) rfl (fun r_14 u_14 H locs h_14 hP hD hS => ?_)
            exact ri u_14 hx hb hr hlocks hP hD hS d_Hart_compute_130 (by simp only [sp_Hart_compute, h_14, if_neg c_5, if_neg c_6, if_pos c_7, if_neg c_10, if_pos c_12])
        · refine lv_aload_n hx hb d_Hart_compute_95 rfl (lv_at hl 4 rfl) ?_
          refine lv_iload_n hx hb d_Hart_compute_96 rfl (lv_at hl 5 rfl) ?_
          refine lv_iload hx hb d_Hart_compute_97 (lv_at hl 1 rfl) ?_
          refine lv_iload hx hb d_Hart_compute_99 (lv_at hl 0 rfl) ?_
          refine lv_isub hx hb d_Hart_compute_101 ?_
          refine xi (wr := []) (W2 := fun u9 => wH a k n id u9) (xV (rest := []) ⟨hx, hb, hml, hown, hts⟩ (c_Hart_finish a k n id x0 ((σ.2.1 ((sp_Field_rs1 x0).toNatClampNeg)) - (σ.2.1 ((sp_Field_rs2 x0).toNatClampNeg))) σ hn hid) mw_Hart_finish mv_Hart_finish k_379 ⟨rfl, rfl, Nat.le_of_ble_eq_true rfl, Nat.le_of_ble_eq_true rfl⟩ hK hP hD hS hA hF [0, 1, 2, 3, 4, 5, 6, 7, 8] [0, 1, 2, 3, 4] rfl rfl rfl 6 4 rfl rfl rfl rfl hl.1 rfl (Nat.le_of_ble_eq_true rfl) d_Hart_compute_102 ⟨Nat.zero_le _, Nat.zero_le _⟩) hP hD hS hA [0, 1, 2, 3, 4, 5, 6, 7, 8] [] [0, 1, 2, 3, 4, 5, 6, 7, 8] rfl rfl rfl (by decide) (fun _ => rfl) rfl (fun r_15 u_15 H locs h_15 hP hD hS => ?_)
          exact ri u_15 hx hb hr hlocks hP hD hS d_Hart_compute_105 (by simp only [sp_Hart_compute, h_15, if_neg c_5, if_neg c_6, if_pos c_7, if_pos c_10])
    · refine lv_aload_n hx hb d_Hart_compute_55 rfl (lv_at hl 4 rfl) ?_
      refine lv_iload_n hx hb d_Hart_compute_56 rfl (lv_at hl 5 rfl) ?_
      refine lv_iload_n hx hb d_Hart_compute_57 rfl (lv_at hl 3 rfl) ?_
      refine lv_iconst (v := 4) hx hb d_Hart_compute_58 rfl ?_
      refine lv_icmp_ge (tgt := 73) hx hb d_Hart_compute_59 (by decide) (fun c_16 => ?_) (fun c_16 => ?_)
      · refine lv_iload_n hx hb d_Hart_compute_73 rfl (lv_at hl 3 rfl) ?_
        refine lv_iload hx hb d_Hart_compute_74 (lv_at hl 1 rfl) ?_
        refine lv_iload hx hb d_Hart_compute_76 (lv_at hl 0 rfl) ?_
        refine xi (wr := [((a 0), .inr (1, [.ref (a 3), .ref (a 1), .ref (a 4), .int σ.1.2.2.2.1, .ref (a 5)])), ((a 1), .inr (2, [.ref (a 2)])), ((a 2), .inl ((k 0), 8, .inl σ.1.1)), ((a 3), .inl ((k 1), n, .inl σ.1.2.1)), ((a 4), .inl ((k 2), 256, .inl σ.1.2.2.1)), ((a 5), .inl ((k 3), 2, .inr (.inl σ.1.2.2.2.2))), ((a 6), .inr (4, [.int id, .ref (a 7), .ref (a 8), .int σ.2.2.1, .int σ.2.2.2.1, .int σ.2.2.2.2.1])), ((a 7), .inl ((k 4), 32, .inl σ.2.1)), ((a 8), .inr (3, csF σ.2.2.2.2.2))]) (W2 := fun _ => wH a k n id σ) (xS (rest := [.int x0, .ref (a 6)]) ⟨hx, hb, hml, hown, hts⟩ (c_Alu_divided (sp_Field_f3 x0) (σ.2.1 ((sp_Field_rs1 x0).toNatClampNeg)) (σ.2.1 ((sp_Field_rs2 x0).toNatClampNeg))) mw_Alu_divided ms_Alu_divided k_467 ⟨rfl, rfl, Nat.le_of_ble_eq_true rfl, Nat.le_of_ble_eq_true rfl⟩ hK hP hD hS hA hF [] [] rfl rfl rfl rfl hl.1 rfl (Nat.le_of_ble_eq_true rfl) d_Hart_compute_78 ⟨Nat.zero_le _, Nat.zero_le _⟩) hP hD hS hA [] [0, 1, 2, 3, 4, 5, 6, 7, 8] [0, 1, 2, 3, 4, 5, 6, 7, 8] rfl rfl rfl (by decide) (fun _ => rfl) rfl (fun r_17 _ H locs h_17 hP hD hS => ?_)
        subst h_17
        refine xi (wr := []) (W2 := fun u9 => wH a k n id u9) (xV (rest := []) ⟨hx, hb, hml, hown, hts⟩ (c_Hart_finish a k n id x0 (sp_Alu_divided (sp_Field_f3 x0) (σ.2.1 ((sp_Field_rs1 x0).toNatClampNeg)) (σ.2.1 ((sp_Field_rs2 x0).toNatClampNeg))) σ hn hid) mw_Hart_finish mv_Hart_finish k_379 ⟨rfl, rfl, Nat.le_of_ble_eq_true rfl, Nat.le_of_ble_eq_true rfl⟩ hK hP hD hS hA hF [0, 1, 2, 3, 4, 5, 6, 7, 8] [0, 1, 2, 3, 4] rfl rfl rfl 6 4 rfl rfl rfl rfl hl.1 rfl (Nat.le_of_ble_eq_true rfl) d_Hart_compute_81 ⟨Nat.zero_le _, Nat.zero_le _⟩) hP hD hS hA [0, 1, 2, 3, 4, 5, 6, 7, 8] [] [0, 1, 2, 3, 4, 5, 6, 7, 8] rfl rfl rfl (by decide) (fun _ => rfl) rfl (fun r_18 u_18 H locs h_18 hP hD hS => ?_)
        exact ri u_18 hx hb hr hlocks hP hD hS d_Hart_compute_84 (by simp only [sp_Hart_compute, h_18, if_neg c_5, if_pos c_6, if_pos c_16])
      · refine lv_iload_n hx hb d_Hart_compute_62 rfl (lv_at hl 3 rfl) ?_
        refine lv_iload hx hb d_Hart_compute_63 (lv_at hl 1 rfl) ?_
        refine lv_iload hx hb d_Hart_compute_65 (lv_at hl 0 rfl) ?_
        refine xi (wr := [((a 0), .inr (1, [.ref (a 3), .ref (a 1), .ref (a 4), .int σ.1.2.2.2.1, .ref (a 5)])), ((a 1), .inr (2, [.ref (a 2)])), ((a 2), .inl ((k 0), 8, .inl σ.1.1)), ((a 3), .inl ((k 1), n, .inl σ.1.2.1)), ((a 4), .inl ((k 2), 256, .inl σ.1.2.2.1)), ((a 5), .inl ((k 3), 2, .inr (.inl σ.1.2.2.2.2))), ((a 6), .inr (4, [.int id, .ref (a 7), .ref (a 8), .int σ.2.2.1, .int σ.2.2.2.1, .int σ.2.2.2.2.1])), ((a 7), .inl ((k 4), 32, .inl σ.2.1)), ((a 8), .inr (3, csF σ.2.2.2.2.2))]) (W2 := fun _ => wH a k n id σ) (xS (rest := [.int x0, .ref (a 6)]) ⟨hx, hb, hml, hown, hts⟩ (c_Alu_multiplied (sp_Field_f3 x0) (σ.2.1 ((sp_Field_rs1 x0).toNatClampNeg)) (σ.2.1 ((sp_Field_rs2 x0).toNatClampNeg))) mw_Alu_multiplied ms_Alu_multiplied k_463 ⟨rfl, rfl, Nat.le_of_ble_eq_true rfl, Nat.le_of_ble_eq_true rfl⟩ hK hP hD hS hA hF [] [] rfl rfl rfl rfl hl.1 rfl (Nat.le_of_ble_eq_true rfl) d_Hart_compute_67 ⟨Nat.zero_le _, Nat.zero_le _⟩) hP hD hS hA [] [0, 1, 2, 3, 4, 5, 6, 7, 8] [0, 1, 2, 3, 4, 5, 6, 7, 8] rfl rfl rfl (by decide) (fun _ => rfl) rfl (fun r_19 _ H locs h_19 hP hD hS => ?_)
        subst h_19
        refine lv_goto (tgt := 81) hx hb d_Hart_compute_70 (by decide) ?_
        refine xi (wr := []) (W2 := fun u9 => wH a k n id u9) (xV (rest := []) ⟨hx, hb, hml, hown, hts⟩ (c_Hart_finish a k n id x0 (sp_Alu_multiplied (sp_Field_f3 x0) (σ.2.1 ((sp_Field_rs1 x0).toNatClampNeg)) (σ.2.1 ((sp_Field_rs2 x0).toNatClampNeg))) σ hn hid) mw_Hart_finish mv_Hart_finish k_379 ⟨rfl, rfl, Nat.le_of_ble_eq_true rfl, Nat.le_of_ble_eq_true rfl⟩ hK hP hD hS hA hF [0, 1, 2, 3, 4, 5, 6, 7, 8] [0, 1, 2, 3, 4] rfl rfl rfl 6 4 rfl rfl rfl rfl hl.1 rfl (Nat.le_of_ble_eq_true rfl) d_Hart_compute_81 ⟨Nat.zero_le _, Nat.zero_le _⟩) hP hD hS hA [0, 1, 2, 3, 4, 5, 6, 7, 8] [] [0, 1, 2, 3, 4, 5, 6, 7, 8] rfl rfl rfl (by decide) (fun _ => rfl) rfl (fun r_20 u_20 H locs h_20 hP hD hS => ?_)
        exact ri u_20 hx hb hr hlocks hP hD hS d_Hart_compute_84 (by simp only [sp_Hart_compute, h_20, if_neg c_5, if_pos c_6, if_neg c_16])
  · refine lv_aload_n hx hb d_Hart_compute_36 rfl (lv_at hl 4 rfl) ?_
    refine lv_iload_n hx hb d_Hart_compute_37 rfl (lv_at hl 5 rfl) ?_
    refine lv_iload_n hx hb d_Hart_compute_38 rfl (lv_at hl 3 rfl) ?_
    refine lv_iload hx hb d_Hart_compute_39 (lv_at hl 1 rfl) ?_
    refine lv_iload hx hb d_Hart_compute_41 (lv_at hl 0 rfl) ?_
    refine xi (wr := [((a 0), .inr (1, [.ref (a 3), .ref (a 1), .ref (a 4), .int σ.1.2.2.2.1, .ref (a 5)])), ((a 1), .inr (2, [.ref (a 2)])), ((a 2), .inl ((k 0), 8, .inl σ.1.1)), ((a 3), .inl ((k 1), n, .inl σ.1.2.1)), ((a 4), .inl ((k 2), 256, .inl σ.1.2.2.1)), ((a 5), .inl ((k 3), 2, .inr (.inl σ.1.2.2.2.2))), ((a 6), .inr (4, [.int id, .ref (a 7), .ref (a 8), .int σ.2.2.1, .int σ.2.2.2.1, .int σ.2.2.2.2.1])), ((a 7), .inl ((k 4), 32, .inl σ.2.1)), ((a 8), .inr (3, csF σ.2.2.2.2.2))]) (W2 := fun _ => wH a k n id σ) (xS (rest := [.int x0, .ref (a 6)]) ⟨hx, hb, hml, hown, hts⟩ (c_Alu_plain (sp_Field_f3 x0) (σ.2.1 ((sp_Field_rs1 x0).toNatClampNeg)) (σ.2.1 ((sp_Field_rs2 x0).toNatClampNeg))) mw_Alu_plain ms_Alu_plain k_404 ⟨rfl, rfl, Nat.le_of_ble_eq_true rfl, Nat.le_of_ble_eq_true rfl⟩ hK hP hD hS hA hF [] [] rfl rfl rfl rfl hl.1 rfl (Nat.le_of_ble_eq_true rfl) d_Hart_compute_43 ⟨Nat.zero_le _, Nat.zero_le _⟩) hP hD hS hA [] [0, 1, 2, 3, 4, 5, 6, 7, 8] [0, 1, 2, 3, 4, 5, 6, 7, 8] rfl rfl rfl (by decide) (fun _ => rfl) rfl (fun r_21 _ H locs h_21 hP hD hS => ?_)
    subst h_21
    refine xi (wr := []) (W2 := fun u9 => wH a k n id u9) (xV (rest := []) ⟨hx, hb, hml, hown, hts⟩ (c_Hart_finish a k n id x0 (sp_Alu_plain (sp_Field_f3 x0) (σ.2.1 ((sp_Field_rs1 x0).toNatClampNeg)) (σ.2.1 ((sp_Field_rs2 x0).toNatClampNeg))) σ hn hid) mw_Hart_finish mv_Hart_finish k_379 ⟨rfl, rfl, Nat.le_of_ble_eq_true rfl, Nat.le_of_ble_eq_true rfl⟩ hK hP hD hS hA hF [0, 1, 2, 3, 4, 5, 6, 7, 8] [0, 1, 2, 3, 4] rfl rfl rfl 6 4 rfl rfl rfl rfl hl.1 rfl (Nat.le_of_ble_eq_true rfl) d_Hart_compute_46 ⟨Nat.zero_le _, Nat.zero_le _⟩) hP hD hS hA [0, 1, 2, 3, 4, 5, 6, 7, 8] [] [0, 1, 2, 3, 4, 5, 6, 7, 8] rfl rfl rfl (by decide) (fun _ => rfl) rfl (fun r_22 u_22 H locs h_22 hP hD hS => ?_)
    exact ri u_22 hx hb hr hlocks hP hD hS d_Hart_compute_49 (by simp only [sp_Hart_compute, h_22, if_pos c_5])
def sp_Hart_branch (n : Nat) (id : Int32) (x0 : Int32) (σ : TH) : Int32 × TH :=
  if (sp_Field_f3 x0) = 2 then
    let r_3 := (sp_Hart_illegal n id x0 σ).1
    let u_3 := (sp_Hart_illegal n id x0 σ).2
    (r_3, u_3)
  else
    if (sp_Field_f3 x0) = 3 then
      let r_13 := (sp_Hart_illegal n id x0 σ).1
      let u_13 := (sp_Hart_illegal n id x0 σ).2
      (r_13, u_13)
    else
      if (sp_Alu_branches (sp_Field_f3 x0) (σ.2.1 ((sp_Field_rs1 x0).toNatClampNeg)) (σ.2.1 ((sp_Field_rs2 x0).toNatClampNeg))) = 0 then
        let r_12 := (sp_Hart_goOn n id σ).1
        let u_12 := (sp_Hart_goOn n id σ).2
        (r_12, u_12)
      else
        if ((σ.2.2.1 + (sp_Field_branchOffset x0)) &&& 3) = 0 then
          (0, (σ.1, σ.2.1, σ.2.2.1 + (sp_Field_branchOffset x0), σ.2.2.2.1, σ.2.2.2.2.1, σ.2.2.2.2.2))
        else
          let r_11 := (sp_Hart_trap n id 0 (σ.2.2.1 + (sp_Field_branchOffset x0)) σ).1
          let u_11 := (sp_Hart_trap n id 0 (σ.2.2.1 + (sp_Field_branchOffset x0)) σ).2
          (r_11, u_11)
set_option maxHeartbeats 4000000 in
set_option maxRecDepth 100000 in
theorem c_Hart_branch {l : Launch} {D : va_G} {g : Nat → Nat} (a : Nat → Nat) (k : Nat → ClassId) (n : Nat) (id : Int32) (x0 : Int32) (σ : TH) (hn : n ≤ 4096) (hid : id = 0 ∨ id = 1) : CT l D g y_Hart_branch b_Hart_branch 4 (some .int) (rD 2) [.ref (a 6), .int x0] (wH a k n id σ) (tyH k) (Qi D (fun (r : Int32) (u : TH) => sp_Hart_branch n id x0 σ = (r, u)) (fun u => wH a k n id u)) := by
  refine CT.of rfl (Nat.le_of_ble_eq_true rfl) (fun p e s m below meth c A ls hx hb hr hml hts hown hlocks hA hP hK hD hF hS hl => ?_)
  have hl : lv_has ls 4 [(0, .ref (a 6)), (1, .int x0)] := hl
  refine lv_iload_n hx hb d_Hart_branch_0 rfl (lv_at hl 1 rfl) ?_
  refine xi (wr := [((a 0), .inr (1, [.ref (a 3), .ref (a 1), .ref (a 4), .int σ.1.2.2.2.1, .ref (a 5)])), ((a 1), .inr (2, [.ref (a 2)])), ((a 2), .inl ((k 0), 8, .inl σ.1.1)), ((a 3), .inl ((k 1), n, .inl σ.1.2.1)), ((a 4), .inl ((k 2), 256, .inl σ.1.2.2.1)), ((a 5), .inl ((k 3), 2, .inr (.inl σ.1.2.2.2.2))), ((a 6), .inr (4, [.int id, .ref (a 7), .ref (a 8), .int σ.2.2.1, .int σ.2.2.2.1, .int σ.2.2.2.2.1])), ((a 7), .inl ((k 4), 32, .inl σ.2.1)), ((a 8), .inr (3, csF σ.2.2.2.2.2))]) (W2 := fun _ => wH a k n id σ) (xS (rest := []) ⟨hx, hb, hml, hown, hts⟩ (c_Field_f3 x0) mw_Field_f3 ms_Field_f3 k_353 ⟨rfl, rfl, Nat.le_of_ble_eq_true rfl, Nat.le_of_ble_eq_true rfl⟩ hK hP hD hS hA hF [] [] rfl rfl rfl rfl hl.1 rfl (Nat.le_of_ble_eq_true rfl) d_Hart_branch_1 ⟨Nat.zero_le _, Nat.zero_le _⟩) hP hD hS hA [] [0, 1, 2, 3, 4, 5, 6, 7, 8] [0, 1, 2, 3, 4, 5, 6, 7, 8] rfl rfl rfl (by decide) (fun _ => rfl) rfl (fun r_1 _ H locs h_1 hP hD hS => ?_)
  subst h_1
  refine lv_istore_n (lv' := [(2, .int (sp_Field_f3 x0)), (0, .ref (a 6)), (1, .int x0)]) hx hb d_Hart_branch_4 rfl hl (by decide) rfl (fun ls hl => ?_)
  refine lv_iload_n hx hb d_Hart_branch_5 rfl (lv_at hl 0 rfl) ?_
  refine lv_iconst (v := 2) hx hb d_Hart_branch_6 rfl ?_
  refine lv_icmp_eq (tgt := 15) hx hb d_Hart_branch_7 (by decide) (fun c_2 => ?_) (fun c_2 => ?_)
  · refine lv_aload_n hx hb d_Hart_branch_15 rfl (lv_at hl 1 rfl) ?_
    refine lv_iload_n hx hb d_Hart_branch_16 rfl (lv_at hl 2 rfl) ?_
    refine xi (wr := []) (W2 := fun u9 => wH a k n id u9) (xV (rest := []) ⟨hx, hb, hml, hown, hts⟩ (c_Hart_illegal a k n id x0 σ hn hid) mw_Hart_illegal mv_Hart_illegal k_356 ⟨rfl, rfl, Nat.le_of_ble_eq_true rfl, Nat.le_of_ble_eq_true rfl⟩ hK hP hD hS hA hF [0, 1, 2, 3, 4, 5, 6, 7, 8] [0, 1, 2, 3, 4] rfl rfl rfl 6 4 rfl rfl rfl rfl hl.1 rfl (Nat.le_of_ble_eq_true rfl) d_Hart_branch_17 ⟨Nat.zero_le _, Nat.zero_le _⟩) hP hD hS hA [0, 1, 2, 3, 4, 5, 6, 7, 8] [] [0, 1, 2, 3, 4, 5, 6, 7, 8] rfl rfl rfl (by decide) (fun _ => rfl) rfl (fun r_3 u_3 H locs h_3 hP hD hS => ?_)
    exact ri u_3 hx hb hr hlocks hP hD hS d_Hart_branch_20 (by simp only [sp_Hart_branch, h_3, if_pos c_2])
  · refine lv_iload_n hx hb d_Hart_branch_10 rfl (lv_at hl 0 rfl) ?_
    refine lv_iconst (v := 3) hx hb d_Hart_branch_11 rfl ?_
    refine lv_icmp_ne (tgt := 21) hx hb d_Hart_branch_12 (by decide) (fun c_4 => ?_) (fun c_4 => ?_)
    · refine lv_iload_n hx hb d_Hart_branch_21 rfl (lv_at hl 0 rfl) ?_
      refine lv_aload_n hx hb d_Hart_branch_22 rfl (lv_at hl 1 rfl) ?_
      refine va_get (D := D) (ci := 4) (v := .ref (a 7)) (C := R_Hart) (T := F_Hart) (N := 6) hx hb hts i_Hart hown hK hP 6 rfl rfl 1 (by decide) (hts _ k_144) (fun _ h9 => h9) rfl d_Hart_branch_23 ?_
      refine lv_iload_n hx hb d_Hart_branch_26 rfl (lv_at hl 2 rfl) ?_
      refine xi (wr := [((a 0), .inr (1, [.ref (a 3), .ref (a 1), .ref (a 4), .int σ.1.2.2.2.1, .ref (a 5)])), ((a 1), .inr (2, [.ref (a 2)])), ((a 2), .inl ((k 0), 8, .inl σ.1.1)), ((a 3), .inl ((k 1), n, .inl σ.1.2.1)), ((a 4), .inl ((k 2), 256, .inl σ.1.2.2.1)), ((a 5), .inl ((k 3), 2, .inr (.inl σ.1.2.2.2.2))), ((a 6), .inr (4, [.int id, .ref (a 7), .ref (a 8), .int σ.2.2.1, .int σ.2.2.2.1, .int σ.2.2.2.2.1])), ((a 7), .inl ((k 4), 32, .inl σ.2.1)), ((a 8), .inr (3, csF σ.2.2.2.2.2))]) (W2 := fun _ => wH a k n id σ) (xS (rest := [.ref (a 7), .int (sp_Field_f3 x0)]) ⟨hx, hb, hml, hown, hts⟩ (c_Field_rs1 x0) mw_Field_rs1 ms_Field_rs1 k_360 ⟨rfl, rfl, Nat.le_of_ble_eq_true rfl, Nat.le_of_ble_eq_true rfl⟩ hK hP hD hS hA hF [] [] rfl rfl rfl rfl hl.1 rfl (Nat.le_of_ble_eq_true rfl) d_Hart_branch_27 ⟨Nat.zero_le _, Nat.zero_le _⟩) hP hD hS hA [] [0, 1, 2, 3, 4, 5, 6, 7, 8] [0, 1, 2, 3, 4, 5, 6, 7, 8] rfl rfl rfl (by decide) (fun _ => rfl) rfl (fun r_5 _ H locs h_5 hP hD hS => ?_)
      subst h_5
      refine y_iald (v := σ.2.1 ((sp_Field_rs1 x0).toNatClampNeg)) hx hb hK hP 7 4 rfl rfl (vp_rs1 _) rfl d_Hart_branch_30 ?_
      refine lv_aload_n hx hb d_Hart_branch_31 rfl (lv_at hl 1 rfl) ?_
      refine va_get (D := D) (ci := 4) (v := .ref (a 7)) (C := R_Hart) (T := F_Hart) (N := 6) hx hb hts i_Hart hown hK hP 6 rfl rfl 1 (by decide) (hts _ k_144) (fun _ h9 => h9) rfl d_Hart_branch_32 ?_
      refine lv_iload_n hx hb d_Hart_branch_35 rfl (lv_at hl 2 rfl) ?_
      refine xi (wr := [((a 0), .inr (1, [.ref (a 3), .ref (a 1), .ref (a 4), .int σ.1.2.2.2.1, .ref (a 5)])), ((a 1), .inr (2, [.ref (a 2)])), ((a 2), .inl ((k 0), 8, .inl σ.1.1)), ((a 3), .inl ((k 1), n, .inl σ.1.2.1)), ((a 4), .inl ((k 2), 256, .inl σ.1.2.2.1)), ((a 5), .inl ((k 3), 2, .inr (.inl σ.1.2.2.2.2))), ((a 6), .inr (4, [.int id, .ref (a 7), .ref (a 8), .int σ.2.2.1, .int σ.2.2.2.1, .int σ.2.2.2.2.1])), ((a 7), .inl ((k 4), 32, .inl σ.2.1)), ((a 8), .inr (3, csF σ.2.2.2.2.2))]) (W2 := fun _ => wH a k n id σ) (xS (rest := [.ref (a 7), .int (σ.2.1 ((sp_Field_rs1 x0).toNatClampNeg)), .int (sp_Field_f3 x0)]) ⟨hx, hb, hml, hown, hts⟩ (c_Field_rs2 x0) mw_Field_rs2 ms_Field_rs2 k_401 ⟨rfl, rfl, Nat.le_of_ble_eq_true rfl, Nat.le_of_ble_eq_true rfl⟩ hK hP hD hS hA hF [] [] rfl rfl rfl rfl hl.1 rfl (Nat.le_of_ble_eq_true rfl) d_Hart_branch_36 ⟨Nat.zero_le _, Nat.zero_le _⟩) hP hD hS hA [] [0, 1, 2, 3, 4, 5, 6, 7, 8] [0, 1, 2, 3, 4, 5, 6, 7, 8] rfl rfl rfl (by decide) (fun _ => rfl) rfl (fun r_6 _ H locs h_6 hP hD hS => ?_)
      subst h_6
      refine y_iald (v := σ.2.1 ((sp_Field_rs2 x0).toNatClampNeg)) hx hb hK hP 7 4 rfl rfl (vp_rs2 _) rfl d_Hart_branch_39 ?_
      refine xi (wr := [((a 0), .inr (1, [.ref (a 3), .ref (a 1), .ref (a 4), .int σ.1.2.2.2.1, .ref (a 5)])), ((a 1), .inr (2, [.ref (a 2)])), ((a 2), .inl ((k 0), 8, .inl σ.1.1)), ((a 3), .inl ((k 1), n, .inl σ.1.2.1)), ((a 4), .inl ((k 2), 256, .inl σ.1.2.2.1)), ((a 5), .inl ((k 3), 2, .inr (.inl σ.1.2.2.2.2))), ((a 6), .inr (4, [.int id, .ref (a 7), .ref (a 8), .int σ.2.2.1, .int σ.2.2.2.1, .int σ.2.2.2.2.1])), ((a 7), .inl ((k 4), 32, .inl σ.2.1)), ((a 8), .inr (3, csF σ.2.2.2.2.2))]) (W2 := fun _ => wH a k n id σ) (xS (rest := []) ⟨hx, hb, hml, hown, hts⟩ (c_Alu_branches (sp_Field_f3 x0) (σ.2.1 ((sp_Field_rs1 x0).toNatClampNeg)) (σ.2.1 ((sp_Field_rs2 x0).toNatClampNeg))) mw_Alu_branches ms_Alu_branches k_474 ⟨rfl, rfl, Nat.le_of_ble_eq_true rfl, Nat.le_of_ble_eq_true rfl⟩ hK hP hD hS hA hF [] [] rfl rfl rfl rfl hl.1 rfl (Nat.le_of_ble_eq_true rfl) d_Hart_branch_40 ⟨Nat.zero_le _, Nat.zero_le _⟩) hP hD hS hA [] [0, 1, 2, 3, 4, 5, 6, 7, 8] [0, 1, 2, 3, 4, 5, 6, 7, 8] rfl rfl rfl (by decide) (fun _ => rfl) rfl (fun r_7 _ H locs h_7 hP hD hS => ?_)
      obtain ⟨h_7, z_7⟩ := h_7
      subst h_7
      refine lv_if_ne (tgt := 51) hx hb d_Hart_branch_43 (by decide) (fun c_8 => ?_) (fun c_8 => ?_)
      · refine lv_aload_n hx hb d_Hart_branch_51 rfl (lv_at hl 1 rfl) ?_
        refine va_get (D := D) (ci := 4) (v := .int σ.2.2.1) (C := R_Hart) (T := F_Hart) (N := 6) hx hb hts i_Hart hown hK hP 6 rfl rfl 3 (by decide) (hts _ k_148) (fun _ h9 => h9) rfl d_Hart_branch_52 ?_
        refine lv_iload_n hx hb d_Hart_branch_55 rfl (lv_at hl 2 rfl) ?_
        refine xi (wr := [((a 0), .inr (1, [.ref (a 3), .ref (a 1), .ref (a 4), .int σ.1.2.2.2.1, .ref (a 5)])), ((a 1), .inr (2, [.ref (a 2)])), ((a 2), .inl ((k 0), 8, .inl σ.1.1)), ((a 3), .inl ((k 1), n, .inl σ.1.2.1)), ((a 4), .inl ((k 2), 256, .inl σ.1.2.2.1)), ((a 5), .inl ((k 3), 2, .inr (.inl σ.1.2.2.2.2))), ((a 6), .inr (4, [.int id, .ref (a 7), .ref (a 8), .int σ.2.2.1, .int σ.2.2.2.1, .int σ.2.2.2.2.1])), ((a 7), .inl ((k 4), 32, .inl σ.2.1)), ((a 8), .inr (3, csF σ.2.2.2.2.2))]) (W2 := fun _ => wH a k n id σ) (xS (rest := [.int σ.2.2.1]) ⟨hx, hb, hml, hown, hts⟩ (c_Field_branchOffset x0) mw_Field_branchOffset ms_Field_branchOffset k_477 ⟨rfl, rfl, Nat.le_of_ble_eq_true rfl, Nat.le_of_ble_eq_true rfl⟩ hK hP hD hS hA hF [] [] rfl rfl rfl rfl hl.1 rfl (Nat.le_of_ble_eq_true rfl) d_Hart_branch_56 ⟨Nat.zero_le _, Nat.zero_le _⟩) hP hD hS hA [] [0, 1, 2, 3, 4, 5, 6, 7, 8] [0, 1, 2, 3, 4, 5, 6, 7, 8] rfl rfl rfl (by decide) (fun _ => rfl) rfl (fun r_9 _ H locs h_9 hP hD hS => ?_)
        subst h_9
        refine lv_iadd hx hb d_Hart_branch_59 ?_
        refine lv_istore_n (lv' := [(3, .int (σ.2.2.1 + (sp_Field_branchOffset x0))), (2, .int (sp_Field_f3 x0)), (0, .ref (a 6)), (1, .int x0)]) hx hb d_Hart_branch_60 rfl hl (by decide) rfl (fun ls hl => ?_)
        refine lv_iload_n hx hb d_Hart_branch_61 rfl (lv_at hl 0 rfl) ?_
        refine lv_iconst (v := 3) hx hb d_Hart_branch_62 rfl ?_
        refine lv_iand hx hb d_Hart_branch_63 ?_
        refine lv_if_eq (tgt := 74) hx hb d_Hart_branch_64 (by decide) (fun c_10 => ?_) (fun c_10 => ?_)
        · refine lv_aload_n hx hb d_Hart_branch_74 rfl (lv_at hl 2 rfl) ?_
          refine lv_iload_n hx hb d_Hart_branch_75 rfl (lv_at hl 0 rfl) ?_
          refine y_put (D := D) (ci := 4) (v := .int (σ.2.2.1 + (sp_Field_branchOffset x0))) (ty := .int) (C := R_Hart) (T := F_Hart) (N := 6) (ws' := wH a k n id (σ.1, σ.2.1, σ.2.2.1 + (sp_Field_branchOffset x0), σ.2.2.2.1, σ.2.2.2.2.1, σ.2.2.2.2.2)) hx hb hts i_Hart t_Hart t_Hart_ok n_Hart hown hK hP hD hS 6 rfl rfl 3 (by decide) (hts _ k_148) (fun _ h9 => h9) rfl (by decide +kernel) rfl rfl (Nat.le_of_ble_eq_true rfl) d_Hart_branch_76 rfl (fun H locs hP hD hS => ?_)
          refine lv_iconst (v := 0) hx hb d_Hart_branch_79 rfl ?_
          exact ri (σ.1, σ.2.1, σ.2.2.1 + (sp_Field_branchOffset x0), σ.2.2.2.1, σ.2.2.2.2.1, σ.2.2.2.2.2) hx hb hr hlocks hP hD hS d_Hart_branch_80 (by simp only [sp_Hart_branch, if_neg c_2, if_neg c_4, if_neg c_8, if_pos c_10])
        · refine lv_aload_n hx hb d_Hart_branch_67 rfl (lv_at hl 2 rfl) ?_
          refine lv_iconst (v := 0) hx hb d_Hart_branch_68 rfl ?_
          refine lv_iload_n hx hb d_Hart_branch_69 rfl (lv_at hl 0 rfl) ?_
          refine xi (wr := []) (W2 := fun u9 => wH a k n id u9) (xV (rest := []) ⟨hx, hb, hml, hown, hts⟩ (c_Hart_trap a k n id 0 (σ.2.2.1 + (sp_Field_branchOffset x0)) σ hn hid) mw_Hart_trap mv_Hart_trap k_340 ⟨rfl, rfl, Nat.le_of_ble_eq_true rfl, Nat.le_of_ble_eq_true rfl⟩ hK hP hD hS hA hF [0, 1, 2, 3, 4, 5, 6, 7, 8] [0, 1, 2, 3, 4] rfl rfl rfl 6 4 rfl rfl rfl rfl hl.1 rfl (Nat.le_of_ble_eq_true rfl) d_Hart_branch_70 ⟨Nat.zero_le _, Nat.zero_le _⟩) hP hD hS hA [0, 1, 2, 3, 4, 5, 6, 7, 8] [] [0, 1, 2, 3, 4, 5, 6, 7, 8] rfl rfl rfl (by decide) (fun _ => rfl) rfl (fun r_11 u_11 H locs h_11 hP hD hS => ?_)
          exact ri u_11 hx hb hr hlocks hP hD hS d_Hart_branch_73 (by simp only [sp_Hart_branch, h_11, if_neg c_2, if_neg c_4, if_neg c_8, if_neg c_10])
      · refine lv_aload_n hx hb d_Hart_branch_46 rfl (lv_at hl 1 rfl) ?_
        refine xi (wr := []) (W2 := fun u9 => wH a k n id u9) (xV (rest := []) ⟨hx, hb, hml, hown, hts⟩ (c_Hart_goOn a k n id σ hn hid) mw_Hart_goOn mv_Hart_goOn k_390 ⟨rfl, rfl, Nat.le_of_ble_eq_true rfl, Nat.le_of_ble_eq_true rfl⟩ hK hP hD hS hA hF [0, 1, 2, 3, 4, 5, 6, 7, 8] [0, 1, 2, 3, 4] rfl rfl rfl 6 4 rfl rfl rfl rfl hl.1 rfl (Nat.le_of_ble_eq_true rfl) d_Hart_branch_47 ⟨Nat.zero_le _, Nat.zero_le _⟩) hP hD hS hA [0, 1, 2, 3, 4, 5, 6, 7, 8] [] [0, 1, 2, 3, 4, 5, 6, 7, 8] rfl rfl rfl (by decide) (fun _ => rfl) rfl (fun r_12 u_12 H locs h_12 hP hD hS => ?_)
        exact ri u_12 hx hb hr hlocks hP hD hS d_Hart_branch_50 (by simp only [sp_Hart_branch, h_12, if_neg c_2, if_neg c_4, if_pos c_8])
    · refine lv_aload_n hx hb d_Hart_branch_15 rfl (lv_at hl 1 rfl) ?_
      refine lv_iload_n hx hb d_Hart_branch_16 rfl (lv_at hl 2 rfl) ?_
      refine xi (wr := []) (W2 := fun u9 => wH a k n id u9) (xV (rest := []) ⟨hx, hb, hml, hown, hts⟩ (c_Hart_illegal a k n id x0 σ hn hid) mw_Hart_illegal mv_Hart_illegal k_356 ⟨rfl, rfl, Nat.le_of_ble_eq_true rfl, Nat.le_of_ble_eq_true rfl⟩ hK hP hD hS hA hF [0, 1, 2, 3, 4, 5, 6, 7, 8] [0, 1, 2, 3, 4] rfl rfl rfl 6 4 rfl rfl rfl rfl hl.1 rfl (Nat.le_of_ble_eq_true rfl) d_Hart_branch_17 ⟨Nat.zero_le _, Nat.zero_le _⟩) hP hD hS hA [0, 1, 2, 3, 4, 5, 6, 7, 8] [] [0, 1, 2, 3, 4, 5, 6, 7, 8] rfl rfl rfl (by decide) (fun _ => rfl) rfl (fun r_13 u_13 H locs h_13 hP hD hS => ?_)
      exact ri u_13 hx hb hr hlocks hP hD hS d_Hart_branch_20 (by simp only [sp_Hart_branch, h_13, if_neg c_2, if_pos c_4])
def sp_Hart_jump (n : Nat) (id : Int32) (x0 : Int32) (x1 : Int32) (σ : TH) : Int32 × TH :=
  if (x1 &&& 3) = 0 then
    let u_3 := sp_Hart_write n id (sp_Field_rd x0) (σ.2.2.1 + 4) σ
    (0, (u_3.1, u_3.2.1, x1, u_3.2.2.2.1, u_3.2.2.2.2.1, u_3.2.2.2.2.2))
  else
    let r_4 := (sp_Hart_trap n id 0 x1 σ).1
    let u_4 := (sp_Hart_trap n id 0 x1 σ).2
    (r_4, u_4)
set_option maxHeartbeats 4000000 in
set_option maxRecDepth 100000 in
theorem c_Hart_jump {l : Launch} {D : va_G} {g : Nat → Nat} (a : Nat → Nat) (k : Nat → ClassId) (n : Nat) (id : Int32) (x0 : Int32) (x1 : Int32) (σ : TH) (hn : n ≤ 4096) (hid : id = 0 ∨ id = 1) : CT l D g y_Hart_jump b_Hart_jump 3 (some .int) (rD 1) [.ref (a 6), .int x0, .int x1] (wH a k n id σ) (tyH k) (Qi D (fun (r : Int32) (u : TH) => sp_Hart_jump n id x0 x1 σ = (r, u)) (fun u => wH a k n id u)) := by
  refine CT.of rfl (Nat.le_of_ble_eq_true rfl) (fun p e s m below meth c A ls hx hb hr hml hts hown hlocks hA hP hK hD hF hS hl => ?_)
  have hl : lv_has ls 3 [(0, .ref (a 6)), (1, .int x0), (2, .int x1)] := hl
  refine lv_iload_n hx hb d_Hart_jump_0 rfl (lv_at hl 2 rfl) ?_
  refine lv_iconst (v := 3) hx hb d_Hart_jump_1 rfl ?_
  refine lv_iand hx hb d_Hart_jump_2 ?_
  refine lv_if_eq (tgt := 13) hx hb d_Hart_jump_3 (by decide) (fun c_1 => ?_) (fun c_1 => ?_)
  · refine lv_aload_n hx hb d_Hart_jump_13 rfl (lv_at hl 0 rfl) ?_
    refine lv_iload_n hx hb d_Hart_jump_14 rfl (lv_at hl 1 rfl) ?_
    refine xi (wr := [((a 0), .inr (1, [.ref (a 3), .ref (a 1), .ref (a 4), .int σ.1.2.2.2.1, .ref (a 5)])), ((a 1), .inr (2, [.ref (a 2)])), ((a 2), .inl ((k 0), 8, .inl σ.1.1)), ((a 3), .inl ((k 1), n, .inl σ.1.2.1)), ((a 4), .inl ((k 2), 256, .inl σ.1.2.2.1)), ((a 5), .inl ((k 3), 2, .inr (.inl σ.1.2.2.2.2))), ((a 6), .inr (4, [.int id, .ref (a 7), .ref (a 8), .int σ.2.2.1, .int σ.2.2.2.1, .int σ.2.2.2.2.1])), ((a 7), .inl ((k 4), 32, .inl σ.2.1)), ((a 8), .inr (3, csF σ.2.2.2.2.2))]) (W2 := fun _ => wH a k n id σ) (xS (rest := [.ref (a 6)]) ⟨hx, hb, hml, hown, hts⟩ (c_Field_rd x0) mw_Field_rd ms_Field_rd k_383 ⟨rfl, rfl, Nat.le_of_ble_eq_true rfl, Nat.le_of_ble_eq_true rfl⟩ hK hP hD hS hA hF [] [] rfl rfl rfl rfl hl.1 rfl (Nat.le_of_ble_eq_true rfl) d_Hart_jump_15 ⟨Nat.zero_le _, Nat.zero_le _⟩) hP hD hS hA [] [0, 1, 2, 3, 4, 5, 6, 7, 8] [0, 1, 2, 3, 4, 5, 6, 7, 8] rfl rfl rfl (by decide) (fun _ => rfl) rfl (fun r_2 _ H locs h_2 hP hD hS => ?_)
    subst h_2
    refine lv_aload_n hx hb d_Hart_jump_18 rfl (lv_at hl 0 rfl) ?_
    refine va_get (D := D) (ci := 4) (v := .int σ.2.2.1) (C := R_Hart) (T := F_Hart) (N := 6) hx hb hts i_Hart hown hK hP 6 rfl rfl 3 (by decide) (hts _ k_148) (fun _ h9 => h9) rfl d_Hart_jump_19 ?_
    refine lv_iconst (v := 4) hx hb d_Hart_jump_22 rfl ?_
    refine lv_iadd hx hb d_Hart_jump_23 ?_
    refine xv (wr := []) (W2 := fun u9 => wH a k n id u9) (xV (rest := []) ⟨hx, hb, hml, hown, hts⟩ (c_Hart_write a k n id (sp_Field_rd x0) (σ.2.2.1 + 4) σ hn hid (vp_rd _)) mw_Hart_write mv_Hart_write k_386 ⟨rfl, rfl, Nat.le_of_ble_eq_true rfl, Nat.le_of_ble_eq_true rfl⟩ hK hP hD hS hA hF [0, 1, 2, 3, 4, 5, 6, 7, 8] [0, 1, 2, 3, 4] rfl rfl rfl 6 4 rfl rfl rfl rfl hl.1 rfl (Nat.le_of_ble_eq_true rfl) d_Hart_jump_24 ⟨Nat.zero_le _, Nat.zero_le _⟩) hP hD hS hA [0, 1, 2, 3, 4, 5, 6, 7, 8] [] [0, 1, 2, 3, 4, 5, 6, 7, 8] rfl rfl rfl (by decide) (fun _ => rfl) rfl (fun u_3 H locs h_3 hP hD hS => ?_)
    refine lv_aload_n hx hb d_Hart_jump_27 rfl (lv_at hl 0 rfl) ?_
    refine lv_iload_n hx hb d_Hart_jump_28 rfl (lv_at hl 2 rfl) ?_
    refine y_put (D := D) (ci := 4) (v := .int x1) (ty := .int) (C := R_Hart) (T := F_Hart) (N := 6) (ws' := wH a k n id (u_3.1, u_3.2.1, x1, u_3.2.2.2.1, u_3.2.2.2.2.1, u_3.2.2.2.2.2)) hx hb hts i_Hart t_Hart t_Hart_ok n_Hart hown hK hP hD hS 6 rfl rfl 3 (by decide) (hts _ k_148) (fun _ h9 => h9) rfl (by decide +kernel) rfl rfl (Nat.le_of_ble_eq_true rfl) d_Hart_jump_29 rfl (fun H locs hP hD hS => ?_)
    refine lv_iconst (v := 0) hx hb d_Hart_jump_32 rfl ?_
    exact ri (u_3.1, u_3.2.1, x1, u_3.2.2.2.1, u_3.2.2.2.2.1, u_3.2.2.2.2.2) hx hb hr hlocks hP hD hS d_Hart_jump_33 (by simp only [sp_Hart_jump, h_3, if_pos c_1])
  · refine lv_aload_n hx hb d_Hart_jump_6 rfl (lv_at hl 0 rfl) ?_
    refine lv_iconst (v := 0) hx hb d_Hart_jump_7 rfl ?_
    refine lv_iload_n hx hb d_Hart_jump_8 rfl (lv_at hl 2 rfl) ?_
    refine xi (wr := []) (W2 := fun u9 => wH a k n id u9) (xV (rest := []) ⟨hx, hb, hml, hown, hts⟩ (c_Hart_trap a k n id 0 x1 σ hn hid) mw_Hart_trap mv_Hart_trap k_340 ⟨rfl, rfl, Nat.le_of_ble_eq_true rfl, Nat.le_of_ble_eq_true rfl⟩ hK hP hD hS hA hF [0, 1, 2, 3, 4, 5, 6, 7, 8] [0, 1, 2, 3, 4] rfl rfl rfl 6 4 rfl rfl rfl rfl hl.1 rfl (Nat.le_of_ble_eq_true rfl) d_Hart_jump_9 ⟨Nat.zero_le _, Nat.zero_le _⟩) hP hD hS hA [0, 1, 2, 3, 4, 5, 6, 7, 8] [] [0, 1, 2, 3, 4, 5, 6, 7, 8] rfl rfl rfl (by decide) (fun _ => rfl) rfl (fun r_4 u_4 H locs h_4 hP hD hS => ?_)
    exact ri u_4 hx hb hr hlocks hP hD hS d_Hart_jump_12 (by simp only [sp_Hart_jump, h_4, if_neg c_1])
def sp_Hart_jumpByRegister (n : Nat) (id : Int32) (x0 : Int32) (σ : TH) : Int32 × TH :=
  if (sp_Field_f3 x0) = 0 then
    let r_5 := (sp_Hart_jump n id x0 (((σ.2.1 ((sp_Field_rs1 x0).toNatClampNeg)) + (sp_Field_immediate x0)) &&& (-2)) σ).1
    let u_5 := (sp_Hart_jump n id x0 (((σ.2.1 ((sp_Field_rs1 x0).toNatClampNeg)) + (sp_Field_immediate x0)) &&& (-2)) σ).2
    (r_5, u_5)
  else
    let r_6 := (sp_Hart_illegal n id x0 σ).1
    let u_6 := (sp_Hart_illegal n id x0 σ).2
    (r_6, u_6)
set_option maxHeartbeats 4000000 in
set_option maxRecDepth 100000 in
theorem c_Hart_jumpByRegister {l : Launch} {D : va_G} {g : Nat → Nat} (a : Nat → Nat) (k : Nat → ClassId) (n : Nat) (id : Int32) (x0 : Int32) (σ : TH) (hn : n ≤ 4096) (hid : id = 0 ∨ id = 1) : CT l D g y_Hart_jumpByRegister b_Hart_jumpByRegister 2 (some .int) (rD 2) [.ref (a 6), .int x0] (wH a k n id σ) (tyH k) (Qi D (fun (r : Int32) (u : TH) => sp_Hart_jumpByRegister n id x0 σ = (r, u)) (fun u => wH a k n id u)) := by
  refine CT.of rfl (Nat.le_of_ble_eq_true rfl) (fun p e s m below meth c A ls hx hb hr hml hts hown hlocks hA hP hK hD hF hS hl => ?_)
  have hl : lv_has ls 2 [(0, .ref (a 6)), (1, .int x0)] := hl
  refine lv_iload_n hx hb d_Hart_jumpByRegister_0 rfl (lv_at hl 1 rfl) ?_
  refine xi (wr := [((a 0), .inr (1, [.ref (a 3), .ref (a 1), .ref (a 4), .int σ.1.2.2.2.1, .ref (a 5)])), ((a 1), .inr (2, [.ref (a 2)])), ((a 2), .inl ((k 0), 8, .inl σ.1.1)), ((a 3), .inl ((k 1), n, .inl σ.1.2.1)), ((a 4), .inl ((k 2), 256, .inl σ.1.2.2.1)), ((a 5), .inl ((k 3), 2, .inr (.inl σ.1.2.2.2.2))), ((a 6), .inr (4, [.int id, .ref (a 7), .ref (a 8), .int σ.2.2.1, .int σ.2.2.2.1, .int σ.2.2.2.2.1])), ((a 7), .inl ((k 4), 32, .inl σ.2.1)), ((a 8), .inr (3, csF σ.2.2.2.2.2))]) (W2 := fun _ => wH a k n id σ) (xS (rest := []) ⟨hx, hb, hml, hown, hts⟩ (c_Field_f3 x0) mw_Field_f3 ms_Field_f3 k_353 ⟨rfl, rfl, Nat.le_of_ble_eq_true rfl, Nat.le_of_ble_eq_true rfl⟩ hK hP hD hS hA hF [] [] rfl rfl rfl rfl hl.1 rfl (Nat.le_of_ble_eq_true rfl) d_Hart_jumpByRegister_1 ⟨Nat.zero_le _, Nat.zero_le _⟩) hP hD hS hA [] [0, 1, 2, 3, 4, 5, 6, 7, 8] [0, 1, 2, 3, 4, 5, 6, 7, 8] rfl rfl rfl (by decide) (fun _ => rfl) rfl (fun r_1 _ H locs h_1 hP hD hS => ?_)
  subst h_1
  refine lv_if_eq (tgt := 13) hx hb d_Hart_jumpByRegister_4 (by decide) (fun c_2 => ?_) (fun c_2 => ?_)
  · refine lv_aload_n hx hb d_Hart_jumpByRegister_13 rfl (lv_at hl 0 rfl) ?_
    refine lv_iload_n hx hb d_Hart_jumpByRegister_14 rfl (lv_at hl 1 rfl) ?_
    refine lv_aload_n hx hb d_Hart_jumpByRegister_15 rfl (lv_at hl 0 rfl) ?_
    refine va_get (D := D) (ci := 4) (v := .ref (a 7)) (C := R_Hart) (T := F_Hart) (N := 6) hx hb hts i_Hart hown hK hP 6 rfl rfl 1 (by decide) (hts _ k_144) (fun _ h9 => h9) rfl d_Hart_jumpByRegister_16 ?_
    refine lv_iload_n hx hb d_Hart_jumpByRegister_19 rfl (lv_at hl 1 rfl) ?_
    refine xi (wr := [((a 0), .inr (1, [.ref (a 3), .ref (a 1), .ref (a 4), .int σ.1.2.2.2.1, .ref (a 5)])), ((a 1), .inr (2, [.ref (a 2)])), ((a 2), .inl ((k 0), 8, .inl σ.1.1)), ((a 3), .inl ((k 1), n, .inl σ.1.2.1)), ((a 4), .inl ((k 2), 256, .inl σ.1.2.2.1)), ((a 5), .inl ((k 3), 2, .inr (.inl σ.1.2.2.2.2))), ((a 6), .inr (4, [.int id, .ref (a 7), .ref (a 8), .int σ.2.2.1, .int σ.2.2.2.1, .int σ.2.2.2.2.1])), ((a 7), .inl ((k 4), 32, .inl σ.2.1)), ((a 8), .inr (3, csF σ.2.2.2.2.2))]) (W2 := fun _ => wH a k n id σ) (xS (rest := [.ref (a 7), .int x0, .ref (a 6)]) ⟨hx, hb, hml, hown, hts⟩ (c_Field_rs1 x0) mw_Field_rs1 ms_Field_rs1 k_360 ⟨rfl, rfl, Nat.le_of_ble_eq_true rfl, Nat.le_of_ble_eq_true rfl⟩ hK hP hD hS hA hF [] [] rfl rfl rfl rfl hl.1 rfl (Nat.le_of_ble_eq_true rfl) d_Hart_jumpByRegister_20 ⟨Nat.zero_le _, Nat.zero_le _⟩) hP hD hS hA [] [0, 1, 2, 3, 4, 5, 6, 7, 8] [0, 1, 2, 3, 4, 5, 6, 7, 8] rfl rfl rfl (by decide) (fun _ => rfl) rfl (fun r_3 _ H locs h_3 hP hD hS => ?_)
    subst h_3
    refine y_iald (v := σ.2.1 ((sp_Field_rs1 x0).toNatClampNeg)) hx hb hK hP 7 4 rfl rfl (vp_rs1 _) rfl d_Hart_jumpByRegister_23 ?_
    refine lv_iload_n hx hb d_Hart_jumpByRegister_24 rfl (lv_at hl 1 rfl) ?_
    refine xi (wr := [((a 0), .inr (1, [.ref (a 3), .ref (a 1), .ref (a 4), .int σ.1.2.2.2.1, .ref (a 5)])), ((a 1), .inr (2, [.ref (a 2)])), ((a 2), .inl ((k 0), 8, .inl σ.1.1)), ((a 3), .inl ((k 1), n, .inl σ.1.2.1)), ((a 4), .inl ((k 2), 256, .inl σ.1.2.2.1)), ((a 5), .inl ((k 3), 2, .inr (.inl σ.1.2.2.2.2))), ((a 6), .inr (4, [.int id, .ref (a 7), .ref (a 8), .int σ.2.2.1, .int σ.2.2.2.1, .int σ.2.2.2.2.1])), ((a 7), .inl ((k 4), 32, .inl σ.2.1)), ((a 8), .inr (3, csF σ.2.2.2.2.2))]) (W2 := fun _ => wH a k n id σ) (xS (rest := [.int (σ.2.1 ((sp_Field_rs1 x0).toNatClampNeg)), .int x0, .ref (a 6)]) ⟨hx, hb, hml, hown, hts⟩ (c_Field_immediate x0) mw_Field_immediate ms_Field_immediate k_363 ⟨rfl, rfl, Nat.le_of_ble_eq_true rfl, Nat.le_of_ble_eq_true rfl⟩ hK hP hD hS hA hF [] [] rfl rfl rfl rfl hl.1 rfl (Nat.le_of_ble_eq_true rfl) d_Hart_jumpByRegister_25 ⟨Nat.zero_le _, Nat.zero_le _⟩) hP hD hS hA [] [0, 1, 2, 3, 4, 5, 6, 7, 8] [0, 1, 2, 3, 4, 5, 6, 7, 8] rfl rfl rfl (by decide) (fun _ => rfl) rfl (fun r_4 _ H locs h_4 hP hD hS => ?_)
    subst h_4
    refine lv_iadd hx hb d_Hart_jumpByRegister_28 ?_
    refine lv_bipush (v := (-2)) hx hb d_Hart_jumpByRegister_29 rfl ?_
    refine lv_iand hx hb d_Hart_jumpByRegister_31 ?_
    refine xi (wr := []) (W2 := fun u9 => wH a k n id u9) (xV (rest := []) ⟨hx, hb, hml, hown, hts⟩ (c_Hart_jump a k n id x0 (((σ.2.1 ((sp_Field_rs1 x0).toNatClampNeg)) + (sp_Field_immediate x0)) &&& (-2)) σ hn hid) mw_Hart_jump mv_Hart_jump k_484 ⟨rfl, rfl, Nat.le_of_ble_eq_true rfl, Nat.le_of_ble_eq_true rfl⟩ hK hP hD hS hA hF [0, 1, 2, 3, 4, 5, 6, 7, 8] [0, 1, 2, 3, 4] rfl rfl rfl 6 4 rfl rfl rfl rfl hl.1 rfl (Nat.le_of_ble_eq_true rfl) d_Hart_jumpByRegister_32 ⟨Nat.zero_le _, Nat.zero_le _⟩) hP hD hS hA [0, 1, 2, 3, 4, 5, 6, 7, 8] [] [0, 1, 2, 3, 4, 5, 6, 7, 8] rfl rfl rfl (by decide) (fun _ => rfl) rfl (fun r_5 u_5 H locs h_5 hP hD hS => ?_)
    exact ri u_5 hx hb hr hlocks hP hD hS d_Hart_jumpByRegister_35 (by simp only [sp_Hart_jumpByRegister, h_5, if_pos c_2])
  · refine lv_aload_n hx hb d_Hart_jumpByRegister_7 rfl (lv_at hl 0 rfl) ?_
    refine lv_iload_n hx hb d_Hart_jumpByRegister_8 rfl (lv_at hl 1 rfl) ?_
    refine xi (wr := []) (W2 := fun u9 => wH a k n id u9) (xV (rest := []) ⟨hx, hb, hml, hown, hts⟩ (c_Hart_illegal a k n id x0 σ hn hid) mw_Hart_illegal mv_Hart_illegal k_356 ⟨rfl, rfl, Nat.le_of_ble_eq_true rfl, Nat.le_of_ble_eq_true rfl⟩ hK hP hD hS hA hF [0, 1, 2, 3, 4, 5, 6, 7, 8] [0, 1, 2, 3, 4] rfl rfl rfl 6 4 rfl rfl rfl rfl hl.1 rfl (Nat.le_of_ble_eq_true rfl) d_Hart_jumpByRegister_9 ⟨Nat.zero_le _, Nat.zero_le _⟩) hP hD hS hA [0, 1, 2, 3, 4, 5, 6, 7, 8] [] [0, 1, 2, 3, 4, 5, 6, 7, 8] rfl rfl rfl (by decide) (fun _ => rfl) rfl (fun r_6 u_6 H locs h_6 hP hD hS => ?_)
    exact ri u_6 hx hb hr hlocks hP hD hS d_Hart_jumpByRegister_12 (by simp only [sp_Hart_jumpByRegister, h_6, if_neg c_2])
def sp_Hart_returnFromMachine (n : Nat) (id : Int32)  (σ : TH) : Int32 × TH :=
  let r_1 := (sp_Csrs_leaveMachine σ.2.2.2.2.2).1
  let u_1 := (sp_Csrs_leaveMachine σ.2.2.2.2.2).2
  (0, (σ.1, σ.2.1, u_1 6, r_1, σ.2.2.2.2.1, u_1))
set_option maxHeartbeats 4000000 in
set_option maxRecDepth 100000 in
theorem c_Hart_returnFromMachine {l : Launch} {D : va_G} {g : Nat → Nat} (a : Nat → Nat) (k : Nat → ClassId) (n : Nat) (id : Int32)  (σ : TH) (hn : n ≤ 4096) (hid : id = 0 ∨ id = 1) : CT l D g y_Hart_returnFromMachine b_Hart_returnFromMachine 1 (some .int) (rD 2) [.ref (a 6)] (wH a k n id σ) (tyH k) (Qi D (fun (r : Int32) (u : TH) => sp_Hart_returnFromMachine n id σ = (r, u)) (fun u => wH a k n id u)) := by
  refine CT.of rfl (Nat.le_of_ble_eq_true rfl) (fun p e s m below meth c A ls hx hb hr hml hts hown hlocks hA hP hK hD hF hS hl => ?_)
  have hl : lv_has ls 1 [(0, .ref (a 6))] := hl
  refine lv_aload_n hx hb d_Hart_returnFromMachine_0 rfl (lv_at hl 0 rfl) ?_
  refine lv_aload_n hx hb d_Hart_returnFromMachine_1 rfl (lv_at hl 0 rfl) ?_
  refine va_get (D := D) (ci := 4) (v := .ref (a 8)) (C := R_Hart) (T := F_Hart) (N := 6) hx hb hts i_Hart hown hK hP 6 rfl rfl 2 (by decide) (hts _ k_146) (fun _ h9 => h9) rfl d_Hart_returnFromMachine_2 ?_
  refine xi (wr := [((a 0), .inr (1, [.ref (a 3), .ref (a 1), .ref (a 4), .int σ.1.2.2.2.1, .ref (a 5)])), ((a 1), .inr (2, [.ref (a 2)])), ((a 2), .inl ((k 0), 8, .inl σ.1.1)), ((a 3), .inl ((k 1), n, .inl σ.1.2.1)), ((a 4), .inl ((k 2), 256, .inl σ.1.2.2.1)), ((a 5), .inl ((k 3), 2, .inr (.inl σ.1.2.2.2.2))), ((a 6), .inr (4, [.int id, .ref (a 7), .ref (a 8), .int σ.2.2.1, .int σ.2.2.2.1, .int σ.2.2.2.2.1])), ((a 7), .inl ((k 4), 32, .inl σ.2.1))]) (W2 := fun u9 => wH a k n id (σ.1, σ.2.1, σ.2.2.1, σ.2.2.2.1, σ.2.2.2.2.1, u9)) (xV (rest := [.ref (a 6)]) ⟨hx, hb, hml, hown, hts⟩ (c_Csrs_leaveMachine (a 8) σ.2.2.2.2.2) mw_Csrs_leaveMachine mv_Csrs_leaveMachine k_500 ⟨rfl, rfl, Nat.le_of_ble_eq_true rfl, Nat.le_of_ble_eq_true rfl⟩ hK hP hD hS hA hF [8] [] rfl rfl rfl 8 3 rfl rfl rfl rfl hl.1 rfl (Nat.le_of_ble_eq_true rfl) d_Hart_returnFromMachine_5 ⟨Nat.zero_le _, Nat.zero_le _⟩) hP hD hS hA [8] [0, 1, 2, 3, 4, 5, 6, 7] [0, 1, 2, 3, 4, 5, 6, 7, 8] rfl rfl rfl (by decide) (fun _ => rfl) rfl (fun r_1 u_1 H locs h_1 hP hD hS => ?_)
  refine y_put (D := D) (ci := 4) (v := .int r_1) (ty := .int) (C := R_Hart) (T := F_Hart) (N := 6) (ws' := wH a k n id (σ.1, σ.2.1, σ.2.2.1, r_1, σ.2.2.2.2.1, u_1)) hx hb hts i_Hart t_Hart t_Hart_ok n_Hart hown hK hP hD hS 6 rfl rfl 4 (by decide) (hts _ k_150) (fun _ h9 => h9) rfl (by decide +kernel) rfl rfl (Nat.le_of_ble_eq_true rfl) d_Hart_returnFromMachine_8 rfl (fun H locs hP hD hS => ?_)
  refine lv_aload_n hx hb d_Hart_returnFromMachine_11 rfl (lv_at hl 0 rfl) ?_
  refine lv_aload_n hx hb d_Hart_returnFromMachine_12 rfl (lv_at hl 0 rfl) ?_
  refine va_get (D := D) (ci := 4) (v := .ref (a 8)) (C := R_Hart) (T := F_Hart) (N := 6) hx hb hts i_Hart hown hK hP 6 rfl rfl 2 (by decide) (hts _ k_146) (fun _ h9 => h9) rfl d_Hart_returnFromMachine_13 ?_
  refine va_getN (D := D) (ci := 3) (v := .int (u_1 6)) (C := R_Csrs) (T := F_Csrs) (N := 17) hx hb hts i_Csrs hown hK hP 8 rfl rfl 6 (by decide) (va_Nw.use rfl (hF.1 _ kn_96 rfl)) (fun _ h9 => h9) rfl d_Hart_returnFromMachine_16 ?_
  refine y_put (D := D) (ci := 4) (v := .int (u_1 6)) (ty := .int) (C := R_Hart) (T := F_Hart) (N := 6) (ws' := wH a k n id (σ.1, σ.2.1, u_1 6, r_1, σ.2.2.2.2.1, u_1)) hx hb hts i_Hart t_Hart t_Hart_ok n_Hart hown hK hP hD hS 6 rfl rfl 3 (by decide) (hts _ k_148) (fun _ h9 => h9) rfl (by decide +kernel) rfl rfl (Nat.le_of_ble_eq_true rfl) d_Hart_returnFromMachine_19 rfl (fun H locs hP hD hS => ?_)
  refine lv_iconst (v := 0) hx hb d_Hart_returnFromMachine_22 rfl ?_
  exact ri (σ.1, σ.2.1, u_1 6, r_1, σ.2.2.2.2.1, u_1) hx hb hr hlocks hP hD hS d_Hart_returnFromMachine_23 (by simp only [sp_Hart_returnFromMachine, h_1])
def sp_Hart_returnFromSupervisor (n : Nat) (id : Int32)  (σ : TH) : Int32 × TH :=
  let r_1 := (sp_Csrs_leaveSupervisor σ.2.2.2.2.2).1
  let u_1 := (sp_Csrs_leaveSupervisor σ.2.2.2.2.2).2
  (0, (σ.1, σ.2.1, u_1 12, r_1, σ.2.2.2.2.1, u_1))
set_option maxHeartbeats 4000000 in
set_option maxRecDepth 100000 in
theorem c_Hart_returnFromSupervisor {l : Launch} {D : va_G} {g : Nat → Nat} (a : Nat → Nat) (k : Nat → ClassId) (n : Nat) (id : Int32)  (σ : TH) (hn : n ≤ 4096) (hid : id = 0 ∨ id = 1) : CT l D g y_Hart_returnFromSupervisor b_Hart_returnFromSupervisor 1 (some .int) (rD 2) [.ref (a 6)] (wH a k n id σ) (tyH k) (Qi D (fun (r : Int32) (u : TH) => sp_Hart_returnFromSupervisor n id σ = (r, u)) (fun u => wH a k n id u)) := by
  refine CT.of rfl (Nat.le_of_ble_eq_true rfl) (fun p e s m below meth c A ls hx hb hr hml hts hown hlocks hA hP hK hD hF hS hl => ?_)
  have hl : lv_has ls 1 [(0, .ref (a 6))] := hl
  refine lv_aload_n hx hb d_Hart_returnFromSupervisor_0 rfl (lv_at hl 0 rfl) ?_
  refine lv_aload_n hx hb d_Hart_returnFromSupervisor_1 rfl (lv_at hl 0 rfl) ?_
  refine va_get (D := D) (ci := 4) (v := .ref (a 8)) (C := R_Hart) (T := F_Hart) (N := 6) hx hb hts i_Hart hown hK hP 6 rfl rfl 2 (by decide) (hts _ k_146) (fun _ h9 => h9) rfl d_Hart_returnFromSupervisor_2 ?_
  refine xi (wr := [((a 0), .inr (1, [.ref (a 3), .ref (a 1), .ref (a 4), .int σ.1.2.2.2.1, .ref (a 5)])), ((a 1), .inr (2, [.ref (a 2)])), ((a 2), .inl ((k 0), 8, .inl σ.1.1)), ((a 3), .inl ((k 1), n, .inl σ.1.2.1)), ((a 4), .inl ((k 2), 256, .inl σ.1.2.2.1)), ((a 5), .inl ((k 3), 2, .inr (.inl σ.1.2.2.2.2))), ((a 6), .inr (4, [.int id, .ref (a 7), .ref (a 8), .int σ.2.2.1, .int σ.2.2.2.1, .int σ.2.2.2.2.1])), ((a 7), .inl ((k 4), 32, .inl σ.2.1))]) (W2 := fun u9 => wH a k n id (σ.1, σ.2.1, σ.2.2.1, σ.2.2.2.1, σ.2.2.2.2.1, u9)) (xV (rest := [.ref (a 6)]) ⟨hx, hb, hml, hown, hts⟩ (c_Csrs_leaveSupervisor (a 8) σ.2.2.2.2.2) mw_Csrs_leaveSupervisor mv_Csrs_leaveSupervisor k_509 ⟨rfl, rfl, Nat.le_of_ble_eq_true rfl, Nat.le_of_ble_eq_true rfl⟩ hK hP hD hS hA hF [8] [] rfl rfl rfl 8 3 rfl rfl rfl rfl hl.1 rfl (Nat.le_of_ble_eq_true rfl) d_Hart_returnFromSupervisor_5 ⟨Nat.zero_le _, Nat.zero_le _⟩) hP hD hS hA [8] [0, 1, 2, 3, 4, 5, 6, 7] [0, 1, 2, 3, 4, 5, 6, 7, 8] rfl rfl rfl (by decide) (fun _ => rfl) rfl (fun r_1 u_1 H locs h_1 hP hD hS => ?_)
  refine y_put (D := D) (ci := 4) (v := .int r_1) (ty := .int) (C := R_Hart) (T := F_Hart) (N := 6) (ws' := wH a k n id (σ.1, σ.2.1, σ.2.2.1, r_1, σ.2.2.2.2.1, u_1)) hx hb hts i_Hart t_Hart t_Hart_ok n_Hart hown hK hP hD hS 6 rfl rfl 4 (by decide) (hts _ k_150) (fun _ h9 => h9) rfl (by decide +kernel) rfl rfl (Nat.le_of_ble_eq_true rfl) d_Hart_returnFromSupervisor_8 rfl (fun H locs hP hD hS => ?_)
  refine lv_aload_n hx hb d_Hart_returnFromSupervisor_11 rfl (lv_at hl 0 rfl) ?_
  refine lv_aload_n hx hb d_Hart_returnFromSupervisor_12 rfl (lv_at hl 0 rfl) ?_
  refine va_get (D := D) (ci := 4) (v := .ref (a 8)) (C := R_Hart) (T := F_Hart) (N := 6) hx hb hts i_Hart hown hK hP 6 rfl rfl 2 (by decide) (hts _ k_146) (fun _ h9 => h9) rfl d_Hart_returnFromSupervisor_13 ?_
  refine va_getN (D := D) (ci := 3) (v := .int (u_1 12)) (C := R_Csrs) (T := F_Csrs) (N := 17) hx hb hts i_Csrs hown hK hP 8 rfl rfl 12 (by decide) (va_Nw.use rfl (hF.1 _ kn_103 rfl)) (fun _ h9 => h9) rfl d_Hart_returnFromSupervisor_16 ?_
  refine y_put (D := D) (ci := 4) (v := .int (u_1 12)) (ty := .int) (C := R_Hart) (T := F_Hart) (N := 6) (ws' := wH a k n id (σ.1, σ.2.1, u_1 12, r_1, σ.2.2.2.2.1, u_1)) hx hb hts i_Hart t_Hart t_Hart_ok n_Hart hown hK hP hD hS 6 rfl rfl 3 (by decide) (hts _ k_148) (fun _ h9 => h9) rfl (by decide +kernel) rfl rfl (Nat.le_of_ble_eq_true rfl) d_Hart_returnFromSupervisor_19 rfl (fun H locs hP hD hS => ?_)
  refine lv_iconst (v := 0) hx hb d_Hart_returnFromSupervisor_22 rfl ?_
  exact ri (σ.1, σ.2.1, u_1 12, r_1, σ.2.2.2.2.1, u_1) hx hb hr hlocks hP hD hS d_Hart_returnFromSupervisor_23 (by simp only [sp_Hart_returnFromSupervisor, h_1])
def sp_Hart_callSystem (n : Nat) (id : Int32) (x0 : Int32) (σ : TH) : Int32 × TH :=
  if x0 = 115 then
    let r_2 := (sp_Hart_trap n id (8 + σ.2.2.2.1) 0 σ).1
    let u_2 := (sp_Hart_trap n id (8 + σ.2.2.2.1) 0 σ).2
    (r_2, u_2)
  else
    if x0 = 1048691 then
      let r_4 := (sp_Hart_trap n id 3 σ.2.2.1 σ).1
      let u_4 := (sp_Hart_trap n id 3 σ.2.2.1 σ).2
      (r_4, u_4)
    else
      if x0 = 270532723 then
        if σ.2.2.2.1 < 1 then
          let r_7 := (sp_Hart_illegal n id x0 σ).1
          let u_7 := (sp_Hart_illegal n id x0 σ).2
          (r_7, u_7)
        else
          let r_8 := (sp_Hart_returnFromSupervisor n id σ).1
          let u_8 := (sp_Hart_returnFromSupervisor n id σ).2
          (r_8, u_8)
      else
        if x0 = 273678451 then
          let r_10 := (sp_Hart_goOn n id σ).1
          let u_10 := (sp_Hart_goOn n id σ).2
          (r_10, u_10)
        else
          if x0 = 807403635 then
            if σ.2.2.2.1 = 3 then
              let r_14 := (sp_Hart_returnFromMachine n id σ).1
              let u_14 := (sp_Hart_returnFromMachine n id σ).2
              (r_14, u_14)
            else
              let r_13 := (sp_Hart_illegal n id x0 σ).1
              let u_13 := (sp_Hart_illegal n id x0 σ).2
              (r_13, u_13)
          else
            if (sp_Field_f7 x0) = 9 then
              if (sp_Field_rd x0) = 0 then
                if σ.2.2.2.1 < 1 then
                  let r_25 := (sp_Hart_illegal n id x0 σ).1
                  let u_25 := (sp_Hart_illegal n id x0 σ).2
                  (r_25, u_25)
                else
                  let r_26 := (sp_Hart_goOn n id σ).1
                  let u_26 := (sp_Hart_goOn n id σ).2
                  (r_26, u_26)
              else
                let r_22 := (sp_Hart_illegal n id x0 σ).1
                let u_22 := (sp_Hart_illegal n id x0 σ).2
                (r_22, u_22)
            else
              let r_18 := (sp_Hart_illegal n id x0 σ).1
              let u_18 := (sp_Hart_illegal n id x0 σ).2
              (r_18, u_18)
set_option maxHeartbeats 4000000 in
set_option maxRecDepth 100000 in
theorem c_Hart_callSystem {l : Launch} {D : va_G} {g : Nat → Nat} (a : Nat → Nat) (k : Nat → ClassId) (n : Nat) (id : Int32) (x0 : Int32) (σ : TH) (hn : n ≤ 4096) (hid : id = 0 ∨ id = 1) : CT l D g y_Hart_callSystem b_Hart_callSystem 3 (some .int) (rD 3) [.ref (a 6), .int x0] (wH a k n id σ) (tyH k) (Qi D (fun (r : Int32) (u : TH) => sp_Hart_callSystem n id x0 σ = (r, u)) (fun u => wH a k n id u)) := by
  refine CT.of rfl (Nat.le_of_ble_eq_true rfl) (fun p e s m below meth c A ls hx hb hr hml hts hown hlocks hA hP hK hD hF hS hl => ?_)
  have hl : lv_has ls 3 [(0, .ref (a 6)), (1, .int x0)] := hl
  refine lv_iload_n hx hb d_Hart_callSystem_0 rfl (lv_at hl 1 rfl) ?_
  by_cases c_1 : x0 = 115
  · refine lv_lookup (off := 51) (tgt := 52) hx hb d_Hart_callSystem_1 rfl (by rw [c_1]; rfl) (by decide) ?_
    refine lv_aload_n hx hb d_Hart_callSystem_52 rfl (lv_at hl 0 rfl) ?_
    refine lv_bipush (v := 8) hx hb d_Hart_callSystem_53 rfl ?_
    refine lv_aload_n hx hb d_Hart_callSystem_55 rfl (lv_at hl 0 rfl) ?_
    refine va_get (D := D) (ci := 4) (v := .int σ.2.2.2.1) (C := R_Hart) (T := F_Hart) (N := 6) hx hb hts i_Hart hown hK hP 6 rfl rfl 4 (by decide) (hts _ k_150) (fun _ h9 => h9) rfl d_Hart_callSystem_56 ?_
    refine lv_iadd hx hb d_Hart_callSystem_59 ?_
    refine lv_iconst (v := 0) hx hb d_Hart_callSystem_60 rfl ?_
    refine xi (wr := []) (W2 := fun u9 => wH a k n id u9) (xV (rest := []) ⟨hx, hb, hml, hown, hts⟩ (c_Hart_trap a k n id (8 + σ.2.2.2.1) 0 σ hn hid) mw_Hart_trap mv_Hart_trap k_340 ⟨rfl, rfl, Nat.le_of_ble_eq_true rfl, Nat.le_of_ble_eq_true rfl⟩ hK hP hD hS hA hF [0, 1, 2, 3, 4, 5, 6, 7, 8] [0, 1, 2, 3, 4] rfl rfl rfl 6 4 rfl rfl rfl rfl hl.1 rfl (Nat.le_of_ble_eq_true rfl) d_Hart_callSystem_61 ⟨Nat.zero_le _, Nat.zero_le _⟩) hP hD hS hA [0, 1, 2, 3, 4, 5, 6, 7, 8] [] [0, 1, 2, 3, 4, 5, 6, 7, 8] rfl rfl rfl (by decide) (fun _ => rfl) rfl (fun r_2 u_2 H locs h_2 hP hD hS => ?_)
    exact ri u_2 hx hb hr hlocks hP hD hS d_Hart_callSystem_64 (by simp only [sp_Hart_callSystem, h_2, if_pos c_1])
  · by_cases c_3 : x0 = 1048691
    · refine lv_lookup (off := 64) (tgt := 65) hx hb d_Hart_callSystem_1 rfl (by rw [c_3]; rfl) (by decide) ?_
      refine lv_aload_n hx hb d_Hart_callSystem_65 rfl (lv_at hl 0 rfl) ?_
      refine lv_iconst (v := 3) hx hb d_Hart_callSystem_66 rfl ?_
      refine lv_aload_n hx hb d_Hart_callSystem_67 rfl (lv_at hl 0 rfl) ?_
      refine va_get (D := D) (ci := 4) (v := .int σ.2.2.1) (C := R_Hart) (T := F_Hart) (N := 6) hx hb hts i_Hart hown hK hP 6 rfl rfl 3 (by decide) (hts _ k_148) (fun _ h9 => h9) rfl d_Hart_callSystem_68 ?_
      refine xi (wr := []) (W2 := fun u9 => wH a k n id u9) (xV (rest := []) ⟨hx, hb, hml, hown, hts⟩ (c_Hart_trap a k n id 3 σ.2.2.1 σ hn hid) mw_Hart_trap mv_Hart_trap k_340 ⟨rfl, rfl, Nat.le_of_ble_eq_true rfl, Nat.le_of_ble_eq_true rfl⟩ hK hP hD hS hA hF [0, 1, 2, 3, 4, 5, 6, 7, 8] [0, 1, 2, 3, 4] rfl rfl rfl 6 4 rfl rfl rfl rfl hl.1 rfl (Nat.le_of_ble_eq_true rfl) d_Hart_callSystem_71 ⟨Nat.zero_le _, Nat.zero_le _⟩) hP hD hS hA [0, 1, 2, 3, 4, 5, 6, 7, 8] [] [0, 1, 2, 3, 4, 5, 6, 7, 8] rfl rfl rfl (by decide) (fun _ => rfl) rfl (fun r_4 u_4 H locs h_4 hP hD hS => ?_)
      exact ri u_4 hx hb hr hlocks hP hD hS d_Hart_callSystem_74 (by simp only [sp_Hart_callSystem, h_4, if_neg c_1, if_pos c_3])
    · by_cases c_5 : x0 = 270532723
      · refine lv_lookup (off := 100) (tgt := 101) hx hb d_Hart_callSystem_1 rfl (by rw [c_5]; rfl) (by decide) ?_
        refine lv_aload_n hx hb d_Hart_callSystem_101 rfl (lv_at hl 0 rfl) ?_
        refine va_get (D := D) (ci := 4) (v := .int σ.2.2.2.1) (C := R_Hart) (T := F_Hart) (N := 6) hx hb hts i_Hart hown hK hP 6 rfl rfl 4 (by decide) (hts _ k_150) (fun _ h9 => h9) rfl d_Hart_callSystem_102 ?_
        refine lv_iconst (v := 1) hx hb d_Hart_callSystem_105 rfl ?_
        refine lv_icmp_lt (tgt := 116) hx hb d_Hart_callSystem_106 (by decide) (fun c_6 => ?_) (fun c_6 => ?_)
        · refine lv_aload_n hx hb d_Hart_callSystem_116 rfl (lv_at hl 0 rfl) ?_
          refine lv_iload_n hx hb d_Hart_callSystem_117 rfl (lv_at hl 1 rfl) ?_
          refine xi (wr := []) (W2 := fun u9 => wH a k n id u9) (xV (rest := []) ⟨hx, hb, hml, hown, hts⟩ (c_Hart_illegal a k n id x0 σ hn hid) mw_Hart_illegal mv_Hart_illegal k_356 ⟨rfl, rfl, Nat.le_of_ble_eq_true rfl, Nat.le_of_ble_eq_true rfl⟩ hK hP hD hS hA hF [0, 1, 2, 3, 4, 5, 6, 7, 8] [0, 1, 2, 3, 4] rfl rfl rfl 6 4 rfl rfl rfl rfl hl.1 rfl (Nat.le_of_ble_eq_true rfl) d_Hart_callSystem_118 ⟨Nat.zero_le _, Nat.zero_le _⟩) hP hD hS hA [0, 1, 2, 3, 4, 5, 6, 7, 8] [] [0, 1, 2, 3, 4, 5, 6, 7, 8] rfl rfl rfl (by decide) (fun _ => rfl) rfl (fun r_7 u_7 H locs h_7 hP hD hS => ?_)
          exact ri u_7 hx hb hr hlocks hP hD hS d_Hart_callSystem_121 (by simp only [sp_Hart_callSystem, h_7, if_neg c_1, if_neg c_3, if_pos c_5, if_pos c_6])
        · refine lv_aload_n hx hb d_Hart_callSystem_109 rfl (lv_at hl 0 rfl) ?_
          refine xi (wr := []) (W2 := fun u9 => wH a k n id u9) (xV (rest := []) ⟨hx, hb, hml, hown, hts⟩ (c_Hart_returnFromSupervisor a k n id σ hn hid) mw_Hart_returnFromSupervisor mv_Hart_returnFromSupervisor k_505 ⟨rfl, rfl, Nat.le_of_ble_eq_true rfl, Nat.le_of_ble_eq_true rfl⟩ hK hP hD hS hA hF [0, 1, 2, 3, 4, 5, 6, 7, 8] [0, 1, 2, 3, 4] rfl rfl rfl 6 4 rfl rfl rfl rfl hl.1 rfl (Nat.le_of_ble_eq_true rfl) d_Hart_callSystem_110 ⟨Nat.zero_le _, Nat.zero_le _⟩) hP hD hS hA [0, 1, 2, 3, 4, 5, 6, 7, 8] [] [0, 1, 2, 3, 4, 5, 6, 7, 8] rfl rfl rfl (by decide) (fun _ => rfl) rfl (fun r_8 u_8 H locs h_8 hP hD hS => ?_)
          refine lv_goto (tgt := 121) hx hb d_Hart_callSystem_113 (by decide) ?_
          exact ri u_8 hx hb hr hlocks hP hD hS d_Hart_callSystem_121 (by simp only [sp_Hart_callSystem, h_8, if_neg c_1, if_neg c_3, if_pos c_5, if_neg c_6])
      · by_cases c_9 : x0 = 273678451
        · refine lv_lookup (off := 74) (tgt := 75) hx hb d_Hart_callSystem_1 rfl (by rw [c_9]; rfl) (by decide) ?_
          refine lv_aload_n hx hb d_Hart_callSystem_75 rfl (lv_at hl 0 rfl) ?_
          refine xi (wr := []) (W2 := fun u9 => wH a k n id u9) (xV (rest := []) ⟨hx, hb, hml, hown, hts⟩ (c_Hart_goOn a k n id σ hn hid) mw_Hart_goOn mv_Hart_goOn k_390 ⟨rfl, rfl, Nat.le_of_ble_eq_true rfl, Nat.le_of_ble_eq_true rfl⟩ hK hP hD hS hA hF [0, 1, 2, 3, 4, 5, 6, 7, 8] [0, 1, 2, 3, 4] rfl rfl rfl 6 4 rfl rfl rfl rfl hl.1 rfl (Nat.le_of_ble_eq_true rfl) d_Hart_callSystem_76 ⟨Nat.zero_le _, Nat.zero_le _⟩) hP hD hS hA [0, 1, 2, 3, 4, 5, 6, 7, 8] [] [0, 1, 2, 3, 4, 5, 6, 7, 8] rfl rfl rfl (by decide) (fun _ => rfl) rfl (fun r_10 u_10 H locs h_10 hP hD hS => ?_)
          exact ri u_10 hx hb hr hlocks hP hD hS d_Hart_callSystem_79 (by simp only [sp_Hart_callSystem, h_10, if_neg c_1, if_neg c_3, if_neg c_5, if_pos c_9])
        · by_cases c_11 : x0 = 807403635
          · refine lv_lookup (off := 79) (tgt := 80) hx hb d_Hart_callSystem_1 rfl (by rw [c_11]; rfl) (by decide) ?_
            refine lv_aload_n hx hb d_Hart_callSystem_80 rfl (lv_at hl 0 rfl) ?_
            refine va_get (D := D) (ci := 4) (v := .int σ.2.2.2.1) (C := R_Hart) (T := F_Hart) (N := 6) hx hb hts i_Hart hown hK hP 6 rfl rfl 4 (by decide) (hts _ k_150) (fun _ h9 => h9) rfl d_Hart_callSystem_81 ?_
            refine lv_iconst (v := 3) hx hb d_Hart_callSystem_84 rfl ?_
            refine lv_icmp_ne (tgt := 95) hx hb d_Hart_callSystem_85 (by decide) (fun c_12 => ?_) (fun c_12 => ?_)
            · refine lv_aload_n hx hb d_Hart_callSystem_95 rfl (lv_at hl 0 rfl) ?_
              refine lv_iload_n hx hb d_Hart_callSystem_96 rfl (lv_at hl 1 rfl) ?_
              refine xi (wr := []) (W2 := fun u9 => wH a k n id u9) (xV (rest := []) ⟨hx, hb, hml, hown, hts⟩ (c_Hart_illegal a k n id x0 σ hn hid) mw_Hart_illegal mv_Hart_illegal k_356 ⟨rfl, rfl, Nat.le_of_ble_eq_true rfl, Nat.le_of_ble_eq_true rfl⟩ hK hP hD hS hA hF [0, 1, 2, 3, 4, 5, 6, 7, 8] [0, 1, 2, 3, 4] rfl rfl rfl 6 4 rfl rfl rfl rfl hl.1 rfl (Nat.le_of_ble_eq_true rfl) d_Hart_callSystem_97 ⟨Nat.zero_le _, Nat.zero_le _⟩) hP hD hS hA [0, 1, 2, 3, 4, 5, 6, 7, 8] [] [0, 1, 2, 3, 4, 5, 6, 7, 8] rfl rfl rfl (by decide) (fun _ => rfl) rfl (fun r_13 u_13 H locs h_13 hP hD hS => ?_)
              exact ri u_13 hx hb hr hlocks hP hD hS d_Hart_callSystem_100 (by simp only [sp_Hart_callSystem, h_13, if_neg c_1, if_neg c_3, if_neg c_5, if_neg c_9, if_pos c_11, if_neg c_12])
            · refine lv_aload_n hx hb d_Hart_callSystem_88 rfl (lv_at hl 0 rfl) ?_
              refine xi (wr := []) (W2 := fun u9 => wH a k n id u9) (xV (rest := []) ⟨hx, hb, hml, hown, hts⟩ (c_Hart_returnFromMachine a k n id σ hn hid) mw_Hart_returnFromMachine mv_Hart_returnFromMachine k_496 ⟨rfl, rfl, Nat.le_of_ble_eq_true rfl, Nat.le_of_ble_eq_true rfl⟩ hK hP hD hS hA hF [0, 1, 2, 3, 4, 5, 6, 7, 8] [0, 1, 2, 3, 4] rfl rfl rfl 6 4 rfl rfl rfl rfl hl.1 rfl (Nat.le_of_ble_eq_true rfl) d_Hart_callSystem_89 ⟨Nat.zero_le _, Nat.zero_le _⟩) hP hD hS hA [0, 1, 2, 3, 4, 5, 6, 7, 8] [] [0, 1, 2, 3, 4, 5, 6, 7, 8] rfl rfl rfl (by decide) (fun _ => rfl) rfl (fun r_14 u_14 H locs h_14 hP hD hS => ?_)
              refine lv_goto (tgt := 100) hx hb d_Hart_callSystem_92 (by decide) ?_
              exact ri u_14 hx hb hr hlocks hP hD hS d_Hart_callSystem_100 (by simp only [sp_Hart_callSystem, h_14, if_neg c_1, if_neg c_3, if_neg c_5, if_neg c_9, if_pos c_11, if_pos c_12])
          · refine lv_lookup (off := 121) (tgt := 122) hx hb d_Hart_callSystem_1 rfl ((lv_osw (a := 115) c_1 rfl).trans ((lv_osw (a := 1048691) c_3 rfl).trans ((lv_osw (a := 270532723) c_5 rfl).trans ((lv_osw (a := 273678451) c_9 rfl).trans ((lv_osw (a := 807403635) c_11 rfl).trans (rfl)))))) (by decide) ?_
            refine lv_iload_n hx hb d_Hart_callSystem_122 rfl (lv_at hl 1 rfl) ?_
            refine xi (wr := [((a 0), .inr (1, [.ref (a 3), .ref (a 1), .ref (a 4), .int σ.1.2.2.2.1, .ref (a 5)])), ((a 1), .inr (2, [.ref (a 2)])), ((a 2), .inl ((k 0), 8, .inl σ.1.1)), ((a 3), .inl ((k 1), n, .inl σ.1.2.1)), ((a 4), .inl ((k 2), 256, .inl σ.1.2.2.1)), ((a 5), .inl ((k 3), 2, .inr (.inl σ.1.2.2.2.2))), ((a 6), .inr (4, [.int id, .ref (a 7), .ref (a 8), .int σ.2.2.1, .int σ.2.2.2.1, .int σ.2.2.2.2.1])), ((a 7), .inl ((k 4), 32, .inl σ.2.1)), ((a 8), .inr (3, csF σ.2.2.2.2.2))]) (W2 := fun _ => wH a k n id σ) (xS (rest := []) ⟨hx, hb, hml, hown, hts⟩ (c_Field_f7 x0) mw_Field_f7 ms_Field_f7 k_398 ⟨rfl, rfl, Nat.le_of_ble_eq_true rfl, Nat.le_of_ble_eq_true rfl⟩ hK hP hD hS hA hF [] [] rfl rfl rfl rfl hl.1 rfl (Nat.le_of_ble_eq_true rfl) d_Hart_callSystem_123 ⟨Nat.zero_le _, Nat.zero_le _⟩) hP hD hS hA [] [0, 1, 2, 3, 4, 5, 6, 7, 8] [0, 1, 2, 3, 4, 5, 6, 7, 8] rfl rfl rfl (by decide) (fun _ => rfl) rfl (fun r_15 _ H locs h_15 hP hD hS => ?_)
            subst h_15
            refine lv_bipush (v := 9) hx hb d_Hart_callSystem_126 rfl ?_
            refine lv_icmp_ne (tgt := 142) hx hb d_Hart_callSystem_128 (by decide) (fun c_16 => ?_) (fun c_16 => ?_)
            · refine lv_iconst (v := 0) hx hb d_Hart_callSystem_142 rfl ?_
              refine lv_istore_n (lv' := [(2, .int 0), (0, .ref (a 6)), (1, .int x0)]) hx hb d_Hart_callSystem_143 rfl hl (by decide) rfl (fun ls hl => ?_)
              refine lv_iload_n hx hb d_Hart_callSystem_144 rfl (lv_at hl 0 rfl) ?_
              refine lv_if_eq (tgt := 163) hx hb d_Hart_callSystem_145 (by decide) (fun _ => ?_) (fun h9 => absurd (by decide) h9)
              refine lv_aload_n hx hb d_Hart_callSystem_163 rfl (lv_at hl 1 rfl) ?_
              refine lv_iload_n hx hb d_Hart_callSystem_164 rfl (lv_at hl 2 rfl) ?_
              refine xi (wr := []) (W2 := fun u9 => wH a k n id u9) (xV (rest := []) ⟨hx, hb, hml, hown, hts⟩ (c_Hart_illegal a k n id x0 σ hn hid) mw_Hart_illegal mv_Hart_illegal k_356 ⟨rfl, rfl, Nat.le_of_ble_eq_true rfl, Nat.le_of_ble_eq_true rfl⟩ hK hP hD hS hA hF [0, 1, 2, 3, 4, 5, 6, 7, 8] [0, 1, 2, 3, 4] rfl rfl rfl 6 4 rfl rfl rfl rfl hl.1 rfl (Nat.le_of_ble_eq_true rfl) d_Hart_callSystem_165 ⟨Nat.zero_le _, Nat.zero_le _⟩) hP hD hS hA [0, 1, 2, 3, 4, 5, 6, 7, 8] [] [0, 1, 2, 3, 4, 5, 6, 7, 8] rfl rfl rfl (by decide) (fun _ => rfl) rfl (fun r_18 u_18 H locs h_18 hP hD hS => ?_)
              exact ri u_18 hx hb hr hlocks hP hD hS d_Hart_callSystem_168 (by simp only [sp_Hart_callSystem, h_18, if_neg c_1, if_neg c_3, if_neg c_5, if_neg c_9, if_neg c_11, if_neg c_16])
            · refine lv_iload_n hx hb d_Hart_callSystem_131 rfl (lv_at hl 1 rfl) ?_
              refine xi (wr := [((a 0), .inr (1, [.ref (a 3), .ref (a 1), .ref (a 4), .int σ.1.2.2.2.1, .ref (a 5)])), ((a 1), .inr (2, [.ref (a 2)])), ((a 2), .inl ((k 0), 8, .inl σ.1.1)), ((a 3), .inl ((k 1), n, .inl σ.1.2.1)), ((a 4), .inl ((k 2), 256, .inl σ.1.2.2.1)), ((a 5), .inl ((k 3), 2, .inr (.inl σ.1.2.2.2.2))), ((a 6), .inr (4, [.int id, .ref (a 7), .ref (a 8), .int σ.2.2.1, .int σ.2.2.2.1, .int σ.2.2.2.2.1])), ((a 7), .inl ((k 4), 32, .inl σ.2.1)), ((a 8), .inr (3, csF σ.2.2.2.2.2))]) (W2 := fun _ => wH a k n id σ) (xS (rest := []) ⟨hx, hb, hml, hown, hts⟩ (c_Field_rd x0) mw_Field_rd ms_Field_rd k_383 ⟨rfl, rfl, Nat.le_of_ble_eq_true rfl, Nat.le_of_ble_eq_true rfl⟩ hK hP hD hS hA hF [] [] rfl rfl rfl rfl hl.1 rfl (Nat.le_of_ble_eq_true rfl) d_Hart_callSystem_132 ⟨Nat.zero_le _, Nat.zero_le _⟩) hP hD hS hA [] [0, 1, 2, 3, 4, 5, 6, 7, 8] [0, 1, 2, 3, 4, 5, 6, 7, 8] rfl rfl rfl (by decide) (fun _ => rfl) rfl (fun r_19 _ H locs h_19 hP hD hS => ?_)
              subst h_19
              refine lv_if_ne (tgt := 142) hx hb d_Hart_callSystem_135 (by decide) (fun c_20 => ?_) (fun c_20 => ?_)
              · refine lv_iconst (v := 0) hx hb d_Hart_callSystem_142 rfl ?_
                refine lv_istore_n (lv' := [(2, .int 0), (0, .ref (a 6)), (1, .int x0)]) hx hb d_Hart_callSystem_143 rfl hl (by decide) rfl (fun ls hl => ?_)
                refine lv_iload_n hx hb d_Hart_callSystem_144 rfl (lv_at hl 0 rfl) ?_
                refine lv_if_eq (tgt := 163) hx hb d_Hart_callSystem_145 (by decide) (fun _ => ?_) (fun h9 => absurd (by decide) h9)
                refine lv_aload_n hx hb d_Hart_callSystem_163 rfl (lv_at hl 1 rfl) ?_
                refine lv_iload_n hx hb d_Hart_callSystem_164 rfl (lv_at hl 2 rfl) ?_
                refine xi (wr := []) (W2 := fun u9 => wH a k n id u9) (xV (rest := []) ⟨hx, hb, hml, hown, hts⟩ (c_Hart_illegal a k n id x0 σ hn hid) mw_Hart_illegal mv_Hart_illegal k_356 ⟨rfl, rfl, Nat.le_of_ble_eq_true rfl, Nat.le_of_ble_eq_true rfl⟩ hK hP hD hS hA hF [0, 1, 2, 3, 4, 5, 6, 7, 8] [0, 1, 2, 3, 4] rfl rfl rfl 6 4 rfl rfl rfl rfl hl.1 rfl (Nat.le_of_ble_eq_true rfl) d_Hart_callSystem_165 ⟨Nat.zero_le _, Nat.zero_le _⟩) hP hD hS hA [0, 1, 2, 3, 4, 5, 6, 7, 8] [] [0, 1, 2, 3, 4, 5, 6, 7, 8] rfl rfl rfl (by decide) (fun _ => rfl) rfl (fun r_22 u_22 H locs h_22 hP hD hS => ?_)
                exact ri u_22 hx hb hr hlocks hP hD hS d_Hart_callSystem_168 (by simp only [sp_Hart_callSystem, h_22, if_neg c_1, if_neg c_3, if_neg c_5, if_neg c_9, if_neg c_11, if_pos c_16, if_neg c_20])
              · refine lv_iconst (v := 1) hx hb d_Hart_callSystem_138 rfl ?_
                refine lv_goto (tgt := 143) hx hb d_Hart_callSystem_139 (by decide) ?_
                refine lv_istore_n (lv' := [(2, .int 1), (0, .ref (a 6)), (1, .int x0)]) hx hb d_Hart_callSystem_143 rfl hl (by decide) rfl (fun ls hl => ?_)
                refine lv_iload_n hx hb d_Hart_callSystem_144 rfl (lv_at hl 0 rfl) ?_
                refine lv_if_eq (tgt := 163) hx hb d_Hart_callSystem_145 (by decide) (fun h9 => absurd h9 (by decide)) (fun _ => ?_)
                refine lv_aload_n hx hb d_Hart_callSystem_148 rfl (lv_at hl 1 rfl) ?_
                refine va_get (D := D) (ci := 4) (v := .int σ.2.2.2.1) (C := R_Hart) (T := F_Hart) (N := 6) hx hb hts i_Hart hown hK hP 6 rfl rfl 4 (by decide) (hts _ k_150) (fun _ h9 => h9) rfl d_Hart_callSystem_149 ?_
                refine lv_iconst (v := 1) hx hb d_Hart_callSystem_152 rfl ?_
                refine lv_icmp_lt (tgt := 163) hx hb d_Hart_callSystem_153 (by decide) (fun c_24 => ?_) (fun c_24 => ?_)
                · refine lv_aload_n hx hb d_Hart_callSystem_163 rfl (lv_at hl 1 rfl) ?_
                  refine lv_iload_n hx hb d_Hart_callSystem_164 rfl (lv_at hl 2 rfl) ?_
                  refine xi (wr := []) (W2 := fun u9 => wH a k n id u9) (xV (rest := []) ⟨hx, hb, hml, hown, hts⟩ (c_Hart_illegal a k n id x0 σ hn hid) mw_Hart_illegal mv_Hart_illegal k_356 ⟨rfl, rfl, Nat.le_of_ble_eq_true rfl, Nat.le_of_ble_eq_true rfl⟩ hK hP hD hS hA hF [0, 1, 2, 3, 4, 5, 6, 7, 8] [0, 1, 2, 3, 4] rfl rfl rfl 6 4 rfl rfl rfl rfl hl.1 rfl (Nat.le_of_ble_eq_true rfl) d_Hart_callSystem_165 ⟨Nat.zero_le _, Nat.zero_le _⟩) hP hD hS hA [0, 1, 2, 3, 4, 5, 6, 7, 8] [] [0, 1, 2, 3, 4, 5, 6, 7, 8] rfl rfl rfl (by decide) (fun _ => rfl) rfl (fun r_25 u_25 H locs h_25 hP hD hS => ?_)
                  exact ri u_25 hx hb hr hlocks hP hD hS d_Hart_callSystem_168 (by simp only [sp_Hart_callSystem, h_25, if_neg c_1, if_neg c_3, if_neg c_5, if_neg c_9, if_neg c_11, if_pos c_16, if_pos c_20, if_pos c_24])
                · refine lv_aload_n hx hb d_Hart_callSystem_156 rfl (lv_at hl 1 rfl) ?_
                  refine xi (wr := []) (W2 := fun u9 => wH a k n id u9) (xV (rest := []) ⟨hx, hb, hml, hown, hts⟩ (c_Hart_goOn a k n id σ hn hid) mw_Hart_goOn mv_Hart_goOn k_390 ⟨rfl, rfl, Nat.le_of_ble_eq_true rfl, Nat.le_of_ble_eq_true rfl⟩ hK hP hD hS hA hF [0, 1, 2, 3, 4, 5, 6, 7, 8] [0, 1, 2, 3, 4] rfl rfl rfl 6 4 rfl rfl rfl rfl hl.1 rfl (Nat.le_of_ble_eq_true rfl) d_Hart_callSystem_157 ⟨Nat.zero_le _, Nat.zero_le _⟩) hP hD hS hA [0, 1, 2, 3, 4, 5, 6, 7, 8] [] [0, 1, 2, 3, 4, 5, 6, 7, 8] rfl rfl rfl (by decide) (fun _ => rfl) rfl (fun r_26 u_26 H locs h_26 hP hD hS => ?_)
                  refine lv_goto (tgt := 168) hx hb d_Hart_callSystem_160 (by decide) ?_
                  exact ri u_26 hx hb hr hlocks hP hD hS d_Hart_callSystem_168 (by simp only [sp_Hart_callSystem, h_26, if_neg c_1, if_neg c_3, if_neg c_5, if_neg c_9, if_neg c_11, if_pos c_16, if_pos c_20, if_neg c_24])
def sp_Hart_mixed (x0 : Int32) (x1 : Int32) (x2 : Int32)  : Int32 :=
  if x0 = 1 then
    x2
  else
    if x0 = 2 then
      x1 ||| x2
    else
      x1 &&& (x2 ^^^ (-1))
set_option maxHeartbeats 4000000 in
set_option maxRecDepth 100000 in
theorem c_Hart_mixed {l : Launch} {D : va_G} {g : Nat → Nat}  (x0 : Int32) (x1 : Int32) (x2 : Int32)   : CT l D g y_Hart_mixed b_Hart_mixed 3 (some .int) (rD 0) [.int x0, .int x1, .int x2] ([]) ([]) (Qi D (fun (r : Int32) (_ : Unit) => sp_Hart_mixed x0 x1 x2 = r) (fun _ => [])) := by
  refine CT.of rfl (Nat.le_of_ble_eq_true rfl) (fun p e s m below meth c A ls hx hb hr hml hts hown hlocks hA hP hK hD hF hS hl => ?_)
  have hl : lv_has ls 3 [(0, .int x0), (1, .int x1), (2, .int x2)] := hl
  refine lv_iload_n hx hb d_Hart_mixed_0 rfl (lv_at hl 0 rfl) ?_
  by_cases c_1 : x0 = 1
  · refine lv_lookup (off := 27) (tgt := 28) hx hb d_Hart_mixed_1 rfl (by rw [c_1]; rfl) (by decide) ?_
    refine lv_iload_n hx hb d_Hart_mixed_28 rfl (lv_at hl 2 rfl) ?_
    exact ri () hx hb hr hlocks hP hD hS d_Hart_mixed_29 (by simp only [sp_Hart_mixed, if_pos c_1])
  · by_cases c_2 : x0 = 2
    · refine lv_lookup (off := 29) (tgt := 30) hx hb d_Hart_mixed_1 rfl (by rw [c_2]; rfl) (by decide) ?_
      refine lv_iload_n hx hb d_Hart_mixed_30 rfl (lv_at hl 1 rfl) ?_
      refine lv_iload_n hx hb d_Hart_mixed_31 rfl (lv_at hl 2 rfl) ?_
      refine lv_ior hx hb d_Hart_mixed_32 ?_
      exact ri () hx hb hr hlocks hP hD hS d_Hart_mixed_33 (by simp only [sp_Hart_mixed, if_neg c_1, if_pos c_2])
    · refine lv_lookup (off := 33) (tgt := 34) hx hb d_Hart_mixed_1 rfl ((lv_osw (a := 1) c_1 rfl).trans ((lv_osw (a := 2) c_2 rfl).trans (rfl))) (by decide) ?_
      refine lv_iload_n hx hb d_Hart_mixed_34 rfl (lv_at hl 1 rfl) ?_
      refine lv_iload_n hx hb d_Hart_mixed_35 rfl (lv_at hl 2 rfl) ?_
      refine lv_iconst (v := (-1)) hx hb d_Hart_mixed_36 rfl ?_
      refine lv_ixor hx hb d_Hart_mixed_37 ?_
      refine lv_iand hx hb d_Hart_mixed_38 ?_
      exact ri () hx hb hr hlocks hP hD hS d_Hart_mixed_39 (by simp only [sp_Hart_mixed, if_neg c_1, if_neg c_2])
def sp_Hart_exchange (n : Nat) (id : Int32) (x0 : Int32) (σ : TH) : Int32 × TH :=
  if ((sp_Field_f3 x0) &&& 3) = 1 then
    if ((sp_Field_f3 x0) &&& 3) = 0 then
      let r_5 := (sp_Hart_illegal n id x0 σ).1
      let u_5 := (sp_Hart_illegal n id x0 σ).2
      (r_5, u_5)
    else
      if (sp_Csrs_isAllowed (ush x0 20) σ.2.2.2.1 1) = 0 then
        let r_21 := (sp_Hart_illegal n id x0 σ).1
        let u_21 := (sp_Hart_illegal n id x0 σ).2
        (r_21, u_21)
      else
        if (sp_Field_f3 x0) ≤ 4 then
          let u_13 := sp_Csrs_write (ush x0 20) (sp_Hart_mixed ((sp_Field_f3 x0) &&& 3) (sp_Csrs_read (ush x0 20) (sp_Clint_lines id σ.1.1) σ.2.2.2.2.2) (σ.2.1 ((sp_Field_rs1 x0).toNatClampNeg))) σ.2.2.2.2.2
          let r_14 := (sp_Hart_finish n id x0 (sp_Csrs_read (ush x0 20) (sp_Clint_lines id σ.1.1) σ.2.2.2.2.2) (σ.1, σ.2.1, σ.2.2.1, σ.2.2.2.1, σ.2.2.2.2.1, u_13)).1
          let u_14 := (sp_Hart_finish n id x0 (sp_Csrs_read (ush x0 20) (sp_Clint_lines id σ.1.1) σ.2.2.2.2.2) (σ.1, σ.2.1, σ.2.2.1, σ.2.2.2.1, σ.2.2.2.2.1, u_13)).2
          (r_14, u_14)
        else
          let u_19 := sp_Csrs_write (ush x0 20) (sp_Hart_mixed ((sp_Field_f3 x0) &&& 3) (sp_Csrs_read (ush x0 20) (sp_Clint_lines id σ.1.1) σ.2.2.2.2.2) (sp_Field_rs1 x0)) σ.2.2.2.2.2
          let r_20 := (sp_Hart_finish n id x0 (sp_Csrs_read (ush x0 20) (sp_Clint_lines id σ.1.1) σ.2.2.2.2.2) (σ.1, σ.2.1, σ.2.2.1, σ.2.2.2.1, σ.2.2.2.2.1, u_19)).1
          let u_20 := (sp_Hart_finish n id x0 (sp_Csrs_read (ush x0 20) (sp_Clint_lines id σ.1.1) σ.2.2.2.2.2) (σ.1, σ.2.1, σ.2.2.1, σ.2.2.2.1, σ.2.2.2.2.1, u_19)).2
          (r_20, u_20)
  else
    if (sp_Field_rs1 x0) = 0 then
      if ((sp_Field_f3 x0) &&& 3) = 0 then
        let r_24 := (sp_Hart_illegal n id x0 σ).1
        let u_24 := (sp_Hart_illegal n id x0 σ).2
        (r_24, u_24)
      else
        if (sp_Csrs_isAllowed (ush x0 20) σ.2.2.2.1 0) = 0 then
          let r_36 := (sp_Hart_illegal n id x0 σ).1
          let u_36 := (sp_Hart_illegal n id x0 σ).2
          (r_36, u_36)
        else
          if (sp_Field_f3 x0) ≤ 4 then
            let r_31 := (sp_Hart_finish n id x0 (sp_Csrs_read (ush x0 20) (sp_Clint_lines id σ.1.1) σ.2.2.2.2.2) σ).1
            let u_31 := (sp_Hart_finish n id x0 (sp_Csrs_read (ush x0 20) (sp_Clint_lines id σ.1.1) σ.2.2.2.2.2) σ).2
            (r_31, u_31)
          else
            let r_35 := (sp_Hart_finish n id x0 (sp_Csrs_read (ush x0 20) (sp_Clint_lines id σ.1.1) σ.2.2.2.2.2) σ).1
            let u_35 := (sp_Hart_finish n id x0 (sp_Csrs_read (ush x0 20) (sp_Clint_lines id σ.1.1) σ.2.2.2.2.2) σ).2
            (r_35, u_35)
    else
      if ((sp_Field_f3 x0) &&& 3) = 0 then
        let r_38 := (sp_Hart_illegal n id x0 σ).1
        let u_38 := (sp_Hart_illegal n id x0 σ).2
        (r_38, u_38)
      else
        if (sp_Csrs_isAllowed (ush x0 20) σ.2.2.2.1 1) = 0 then
          let r_54 := (sp_Hart_illegal n id x0 σ).1
          let u_54 := (sp_Hart_illegal n id x0 σ).2
          (r_54, u_54)
        else
          if (sp_Field_f3 x0) ≤ 4 then
            let u_46 := sp_Csrs_write (ush x0 20) (sp_Hart_mixed ((sp_Field_f3 x0) &&& 3) (sp_Csrs_read (ush x0 20) (sp_Clint_lines id σ.1.1) σ.2.2.2.2.2) (σ.2.1 ((sp_Field_rs1 x0).toNatClampNeg))) σ.2.2.2.2.2
            let r_47 := (sp_Hart_finish n id x0 (sp_Csrs_read (ush x0 20) (sp_Clint_lines id σ.1.1) σ.2.2.2.2.2) (σ.1, σ.2.1, σ.2.2.1, σ.2.2.2.1, σ.2.2.2.2.1, u_46)).1
            let u_47 := (sp_Hart_finish n id x0 (sp_Csrs_read (ush x0 20) (sp_Clint_lines id σ.1.1) σ.2.2.2.2.2) (σ.1, σ.2.1, σ.2.2.1, σ.2.2.2.1, σ.2.2.2.2.1, u_46)).2
            (r_47, u_47)
          else
            let u_52 := sp_Csrs_write (ush x0 20) (sp_Hart_mixed ((sp_Field_f3 x0) &&& 3) (sp_Csrs_read (ush x0 20) (sp_Clint_lines id σ.1.1) σ.2.2.2.2.2) (sp_Field_rs1 x0)) σ.2.2.2.2.2
            let r_53 := (sp_Hart_finish n id x0 (sp_Csrs_read (ush x0 20) (sp_Clint_lines id σ.1.1) σ.2.2.2.2.2) (σ.1, σ.2.1, σ.2.2.1, σ.2.2.2.1, σ.2.2.2.2.1, u_52)).1
            let u_53 := (sp_Hart_finish n id x0 (sp_Csrs_read (ush x0 20) (sp_Clint_lines id σ.1.1) σ.2.2.2.2.2) (σ.1, σ.2.1, σ.2.2.1, σ.2.2.2.1, σ.2.2.2.2.1, u_52)).2
            (r_53, u_53)
set_option maxHeartbeats 4000000 in
set_option maxRecDepth 100000 in
theorem c_Hart_exchange {l : Launch} {D : va_G} {g : Nat → Nat} (a : Nat → Nat) (k : Nat → ClassId) (n : Nat) (id : Int32) (x0 : Int32) (σ : TH) (hn : n ≤ 4096) (hid : id = 0 ∨ id = 1) : CT l D g y_Hart_exchange b_Hart_exchange 10 (some .int) (rD 3) [.ref (a 6), .int x0, .ref (a 0)] (wH a k n id σ) (tyH k) (Qi D (fun (r : Int32) (u : TH) => sp_Hart_exchange n id x0 σ = (r, u)) (fun u => wH a k n id u)) := by
  refine CT.of rfl (Nat.le_of_ble_eq_true rfl) (fun p e s m below meth c A ls hx hb hr hml hts hown hlocks hA hP hK hD hF hS hl => ?_)
  have hl : lv_has ls 10 [(0, .ref (a 6)), (1, .int x0), (2, .ref (a 0))] := hl
  refine lv_iload_n hx hb d_Hart_exchange_0 rfl (lv_at hl 1 rfl) ?_
  refine xi (wr := [((a 0), .inr (1, [.ref (a 3), .ref (a 1), .ref (a 4), .int σ.1.2.2.2.1, .ref (a 5)])), ((a 1), .inr (2, [.ref (a 2)])), ((a 2), .inl ((k 0), 8, .inl σ.1.1)), ((a 3), .inl ((k 1), n, .inl σ.1.2.1)), ((a 4), .inl ((k 2), 256, .inl σ.1.2.2.1)), ((a 5), .inl ((k 3), 2, .inr (.inl σ.1.2.2.2.2))), ((a 6), .inr (4, [.int id, .ref (a 7), .ref (a 8), .int σ.2.2.1, .int σ.2.2.2.1, .int σ.2.2.2.2.1])), ((a 7), .inl ((k 4), 32, .inl σ.2.1)), ((a 8), .inr (3, csF σ.2.2.2.2.2))]) (W2 := fun _ => wH a k n id σ) (xS (rest := []) ⟨hx, hb, hml, hown, hts⟩ (c_Field_f3 x0) mw_Field_f3 ms_Field_f3 k_353 ⟨rfl, rfl, Nat.le_of_ble_eq_true rfl, Nat.le_of_ble_eq_true rfl⟩ hK hP hD hS hA hF [] [] rfl rfl rfl rfl hl.1 rfl (Nat.le_of_ble_eq_true rfl) d_Hart_exchange_1 ⟨Nat.zero_le _, Nat.zero_le _⟩) hP hD hS hA [] [0, 1, 2, 3, 4, 5, 6, 7, 8] [0, 1, 2, 3, 4, 5, 6, 7, 8] rfl rfl rfl (by decide) (fun _ => rfl) rfl (fun r_1 _ H locs h_1 hP hD hS => ?_)
  subst h_1
  refine lv_istore_n (lv' := [(3, .int (sp_Field_f3 x0)), (0, .ref (a 6)), (1, .int x0), (2, .ref (a 0))]) hx hb d_Hart_exchange_4 rfl hl (by decide) rfl (fun ls hl => ?_)
  refine lv_iload_n hx hb d_Hart_exchange_5 rfl (lv_at hl 2 rfl) ?_
  refine xi (wr := [((a 0), .inr (1, [.ref (a 3), .ref (a 1), .ref (a 4), .int σ.1.2.2.2.1, .ref (a 5)])), ((a 1), .inr (2, [.ref (a 2)])), ((a 2), .inl ((k 0), 8, .inl σ.1.1)), ((a 3), .inl ((k 1), n, .inl σ.1.2.1)), ((a 4), .inl ((k 2), 256, .inl σ.1.2.2.1)), ((a 5), .inl ((k 3), 2, .inr (.inl σ.1.2.2.2.2))), ((a 6), .inr (4, [.int id, .ref (a 7), .ref (a 8), .int σ.2.2.1, .int σ.2.2.2.1, .int σ.2.2.2.2.1])), ((a 7), .inl ((k 4), 32, .inl σ.2.1)), ((a 8), .inr (3, csF σ.2.2.2.2.2))]) (W2 := fun _ => wH a k n id σ) (xS (rest := []) ⟨hx, hb, hml, hown, hts⟩ (c_Field_rs1 x0) mw_Field_rs1 ms_Field_rs1 k_360 ⟨rfl, rfl, Nat.le_of_ble_eq_true rfl, Nat.le_of_ble_eq_true rfl⟩ hK hP hD hS hA hF [] [] rfl rfl rfl rfl hl.1 rfl (Nat.le_of_ble_eq_true rfl) d_Hart_exchange_6 ⟨Nat.zero_le _, Nat.zero_le _⟩) hP hD hS hA [] [0, 1, 2, 3, 4, 5, 6, 7, 8] [0, 1, 2, 3, 4, 5, 6, 7, 8] rfl rfl rfl (by decide) (fun _ => rfl) rfl (fun r_2 _ H locs h_2 hP hD hS => ?_)
  subst h_2
  refine lv_istore (lv' := [(4, .int (sp_Field_rs1 x0)), (3, .int (sp_Field_f3 x0)), (0, .ref (a 6)), (1, .int x0), (2, .ref (a 0))]) hx hb d_Hart_exchange_9 hl (by decide) rfl (fun ls hl => ?_)
  refine lv_iload_n hx hb d_Hart_exchange_11 rfl (lv_at hl 3 rfl) ?_
  refine lv_bipush (v := 20) hx hb d_Hart_exchange_12 rfl ?_
  refine lv_iushr (v := ush x0 20) hx hb d_Hart_exchange_14 rfl ?_
  refine lv_istore (lv' := [(5, .int (ush x0 20)), (4, .int (sp_Field_rs1 x0)), (3, .int (sp_Field_f3 x0)), (0, .ref (a 6)), (1, .int x0), (2, .ref (a 0))]) hx hb d_Hart_exchange_15 hl (by decide) rfl (fun ls hl => ?_)
  refine lv_iload_n hx hb d_Hart_exchange_17 rfl (lv_at hl 2 rfl) ?_
  refine lv_iconst (v := 3) hx hb d_Hart_exchange_18 rfl ?_
  refine lv_iand hx hb d_Hart_exchange_19 ?_
  refine lv_istore (lv' := [(6, .int ((sp_Field_f3 x0) &&& 3)), (5, .int (ush x0 20)), (4, .int (sp_Field_rs1 x0)), (3, .int (sp_Field_f3 x0)), (0, .ref (a 6)), (1, .int x0), (2, .ref (a 0))]) hx hb d_Hart_exchange_20 hl (by decide) rfl (fun ls hl => ?_)
  refine lv_iload hx hb d_Hart_exchange_22 (lv_at hl 0 rfl) ?_
  refine lv_iconst (v := 1) hx hb d_Hart_exchange_24 rfl ?_
  refine lv_icmp_eq (tgt := 33) hx hb d_Hart_exchange_25 (by decide) (fun c_3 => ?_) (fun c_3 => ?_)
  · refine lv_iconst (v := 1) hx hb d_Hart_exchange_33 rfl ?_
    refine lv_goto (tgt := 38) hx hb d_Hart_exchange_34 (by decide) ?_
    refine lv_istore (lv' := [(7, .int 1), (6, .int ((sp_Field_f3 x0) &&& 3)), (5, .int (ush x0 20)), (4, .int (sp_Field_rs1 x0)), (3, .int (sp_Field_f3 x0)), (0, .ref (a 6)), (1, .int x0), (2, .ref (a 0))]) hx hb d_Hart_exchange_38 hl (by decide) rfl (fun ls hl => ?_)
    refine lv_iload hx hb d_Hart_exchange_40 (lv_at hl 1 rfl) ?_
    refine lv_if_eq (tgt := 59) hx hb d_Hart_exchange_42 (by decide) (fun c_4 => ?_) (fun c_4 => ?_)
    · refine lv_aload_n hx hb d_Hart_exchange_59 rfl (lv_at hl 5 rfl) ?_
      refine lv_iload_n hx hb d_Hart_exchange_60 rfl (lv_at hl 6 rfl) ?_
      refine xi (wr := []) (W2 := fun u9 => wH a k n id u9) (xV (rest := []) ⟨hx, hb, hml, hown, hts⟩ (c_Hart_illegal a k n id x0 σ hn hid) mw_Hart_illegal mv_Hart_illegal k_356 ⟨rfl, rfl, Nat.le_of_ble_eq_true rfl, Nat.le_of_ble_eq_true rfl⟩ hK hP hD hS hA hF [0, 1, 2, 3, 4, 5, 6, 7, 8] [0, 1, 2, 3, 4] rfl rfl rfl 6 4 rfl rfl rfl rfl hl.1 rfl (Nat.le_of_ble_eq_true rfl) d_Hart_exchange_61 ⟨Nat.zero_le _, Nat.zero_le _⟩) hP hD hS hA [0, 1, 2, 3, 4, 5, 6, 7, 8] [] [0, 1, 2, 3, 4, 5, 6, 7, 8] rfl rfl rfl (by decide) (fun _ => rfl) rfl (fun r_5 u_5 H locs h_5 hP hD hS => ?_)
      exact ri u_5 hx hb hr hlocks hP hD hS d_Hart_exchange_64 (by simp only [sp_Hart_exchange, h_5, if_pos c_3, if_pos c_4])
    · refine lv_iload hx hb d_Hart_exchange_45 (lv_at hl 2 rfl) ?_
      refine lv_aload_n hx hb d_Hart_exchange_47 rfl (lv_at hl 5 rfl) ?_
      refine va_get (D := D) (ci := 4) (v := .int σ.2.2.2.1) (C := R_Hart) (T := F_Hart) (N := 6) hx hb hts i_Hart hown hK hP 6 rfl rfl 4 (by decide) (hts _ k_150) (fun _ h9 => h9) rfl d_Hart_exchange_48 ?_
      refine lv_iload hx hb d_Hart_exchange_51 (lv_at hl 0 rfl) ?_
      refine xi (wr := [((a 0), .inr (1, [.ref (a 3), .ref (a 1), .ref (a 4), .int σ.1.2.2.2.1, .ref (a 5)])), ((a 1), .inr (2, [.ref (a 2)])), ((a 2), .inl ((k 0), 8, .inl σ.1.1)), ((a 3), .inl ((k 1), n, .inl σ.1.2.1)), ((a 4), .inl ((k 2), 256, .inl σ.1.2.2.1)), ((a 5), .inl ((k 3), 2, .inr (.inl σ.1.2.2.2.2))), ((a 6), .inr (4, [.int id, .ref (a 7), .ref (a 8), .int σ.2.2.1, .int σ.2.2.2.1, .int σ.2.2.2.2.1])), ((a 7), .inl ((k 4), 32, .inl σ.2.1)), ((a 8), .inr (3, csF σ.2.2.2.2.2))]) (W2 := fun _ => wH a k n id σ) (xS (rest := []) ⟨hx, hb, hml, hown, hts⟩ (c_Csrs_isAllowed (ush x0 20) σ.2.2.2.1 1) mw_Csrs_isAllowed ms_Csrs_isAllowed k_518 ⟨rfl, rfl, Nat.le_of_ble_eq_true rfl, Nat.le_of_ble_eq_true rfl⟩ hK hP hD hS hA hF [] [] rfl rfl rfl rfl hl.1 rfl (Nat.le_of_ble_eq_true rfl) d_Hart_exchange_53 ⟨Nat.zero_le _, Nat.zero_le _⟩) hP hD hS hA [] [0, 1, 2, 3, 4, 5, 6, 7, 8] [0, 1, 2, 3, 4, 5, 6, 7, 8] rfl rfl rfl (by decide) (fun _ => rfl) rfl (fun r_6 _ H locs h_6 hP hD hS => ?_)
      obtain ⟨h_6, z_6⟩ := h_6
      subst h_6
      refine lv_if_ne (tgt := 65) hx hb d_Hart_exchange_56 (by decide) (fun c_7 => ?_) (fun c_7 => ?_)
      · refine lv_iload_n hx hb d_Hart_exchange_65 rfl (lv_at hl 4 rfl) ?_
        refine lv_iconst (v := 4) hx hb d_Hart_exchange_66 rfl ?_
        refine lv_icmp_le (tgt := 75) hx hb d_Hart_exchange_67 (by decide) (fun c_8 => ?_) (fun c_8 => ?_)
        · refine lv_aload_n hx hb d_Hart_exchange_75 rfl (lv_at hl 5 rfl) ?_
          refine va_get (D := D) (ci := 4) (v := .ref (a 7)) (C := R_Hart) (T := F_Hart) (N := 6) hx hb hts i_Hart hown hK hP 6 rfl rfl 1 (by decide) (hts _ k_144) (fun _ h9 => h9) rfl d_Hart_exchange_76 ?_
          refine lv_iload hx hb d_Hart_exchange_79 (lv_at hl 3 rfl) ?_
          refine y_iald (v := σ.2.1 ((sp_Field_rs1 x0).toNatClampNeg)) hx hb hK hP 7 4 rfl rfl (vp_rs1 _) rfl d_Hart_exchange_81 ?_
          refine lv_istore (lv' := [(8, .int (σ.2.1 ((sp_Field_rs1 x0).toNatClampNeg))), (7, .int 1), (6, .int ((sp_Field_f3 x0) &&& 3)), (5, .int (ush x0 20)), (4, .int (sp_Field_rs1 x0)), (3, .int (sp_Field_f3 x0)), (0, .ref (a 6)), (1, .int x0), (2, .ref (a 0))]) hx hb d_Hart_exchange_82 hl (by decide) rfl (fun ls hl => ?_)
          refine lv_aload_n hx hb d_Hart_exchange_84 rfl (lv_at hl 6 rfl) ?_
          refine va_get (D := D) (ci := 4) (v := .ref (a 8)) (C := R_Hart) (T := F_Hart) (N := 6) hx hb hts i_Hart hown hK hP 6 rfl rfl 2 (by decide) (hts _ k_146) (fun _ h9 => h9) rfl d_Hart_exchange_85 ?_
          refine lv_iload hx hb d_Hart_exchange_88 (lv_at hl 3 rfl) ?_
          refine lv_aload_n hx hb d_Hart_exchange_90 rfl (lv_at hl 8 rfl) ?_
          refine va_get (D := D) (ci := 1) (v := .ref (a 1)) (C := R_Memory) (T := F_Memory) (N := 5) hx hb hts i_Memory hown hK hP 0 rfl rfl 1 (by decide) (hts _ k_54) (fun _ h9 => h9) rfl d_Hart_exchange_91 ?_
          refine lv_aload_n hx hb d_Hart_exchange_94 rfl (lv_at hl 6 rfl) ?_
          refine va_get (D := D) (ci := 4) (v := .int id) (C := R_Hart) (T := F_Hart) (N := 6) hx hb hts i_Hart hown hK hP 6 rfl rfl 0 (by decide) (hts _ k_143) (fun _ h9 => h9) rfl d_Hart_exchange_95 ?_
          refine xi (wr := [((a 0), .inr (1, [.ref (a 3), .ref (a 1), .ref (a 4), .int σ.1.2.2.2.1, .ref (a 5)])), ((a 3), .inl ((k 1), n, .inl σ.1.2.1)), ((a 4), .inl ((k 2), 256, .inl σ.1.2.2.1)), ((a 5), .inl ((k 3), 2, .inr (.inl σ.1.2.2.2.2))), ((a 6), .inr (4, [.int id, .ref (a 7), .ref (a 8), .int σ.2.2.1, .int σ.2.2.2.1, .int σ.2.2.2.2.1])), ((a 7), .inl ((k 4), 32, .inl σ.2.1)), ((a 8), .inr (3, csF σ.2.2.2.2.2))]) (W2 := fun _ => wH a k n id σ) (xV (rest := [.int (ush x0 20), .ref (a 8)]) ⟨hx, hb, hml, hown, hts⟩ (c_Clint_lines a k id σ.1.1 hid) mw_Clint_lines mv_Clint_lines k_217 ⟨rfl, rfl, Nat.le_of_ble_eq_true rfl, Nat.le_of_ble_eq_true rfl⟩ hK hP hD hS hA hF [1, 2] [0] rfl rfl rfl 1 2 rfl rfl rfl rfl hl.1 rfl (Nat.le_of_ble_eq_true rfl) d_Hart_exchange_98 ⟨Nat.zero_le _, Nat.zero_le _⟩) hP hD hS hA [1, 2] [0, 3, 4, 5, 6, 7, 8] [0, 7, 8, 1, 2, 3, 4, 5, 6] rfl rfl rfl (by decide) (fun _ => rfl) rfl (fun r_9 _ H locs h_9 hP hD hS => ?_)
          subst h_9
          refine xi (wr := [((a 0), .inr (1, [.ref (a 3), .ref (a 1), .ref (a 4), .int σ.1.2.2.2.1, .ref (a 5)])), ((a 1), .inr (2, [.ref (a 2)])), ((a 2), .inl ((k 0), 8, .inl σ.1.1)), ((a 3), .inl ((k 1), n, .inl σ.1.2.1)), ((a 4), .inl ((k 2), 256, .inl σ.1.2.2.1)), ((a 5), .inl ((k 3), 2, .inr (.inl σ.1.2.2.2.2))), ((a 6), .inr (4, [.int id, .ref (a 7), .ref (a 8), .int σ.2.2.1, .int σ.2.2.2.1, .int σ.2.2.2.2.1])), ((a 7), .inl ((k 4), 32, .inl σ.2.1))]) (W2 := fun _ => wH a k n id σ) (xV (rest := []) ⟨hx, hb, hml, hown, hts⟩ (c_Csrs_read (a 8) (ush x0 20) (sp_Clint_lines id σ.1.1) σ.2.2.2.2.2) mw_Csrs_read mv_Csrs_read k_527 ⟨rfl, rfl, Nat.le_of_ble_eq_true rfl, Nat.le_of_ble_eq_true rfl⟩ hK hP hD hS hA hF [8] [] rfl rfl rfl 8 3 rfl rfl rfl rfl hl.1 rfl (Nat.le_of_ble_eq_true rfl) d_Hart_exchange_101 ⟨Nat.zero_le _, Nat.zero_le _⟩) hP hD hS hA [8] [0, 1, 2, 3, 4, 5, 6, 7] [0, 1, 2, 3, 4, 5, 6, 7, 8] rfl rfl rfl (by decide) (fun _ => rfl) rfl (fun r_10 _ H locs h_10 hP hD hS => ?_)
          subst h_10
          refine lv_istore (lv' := [(9, .int (sp_Csrs_read (ush x0 20) (sp_Clint_lines id σ.1.1) σ.2.2.2.2.2)), (8, .int (σ.2.1 ((sp_Field_rs1 x0).toNatClampNeg))), (7, .int 1), (6, .int ((sp_Field_f3 x0) &&& 3)), (5, .int (ush x0 20)), (4, .int (sp_Field_rs1 x0)), (3, .int (sp_Field_f3 x0)), (0, .ref (a 6)), (1, .int x0), (2, .ref (a 0))]) hx hb d_Hart_exchange_104 hl (by decide) rfl (fun ls hl => ?_)
          refine lv_iload hx hb d_Hart_exchange_106 (lv_at hl 2 rfl) ?_
          refine lv_if_eq (tgt := 129) hx hb d_Hart_exchange_108 (by decide) (fun h9 => absurd h9 (by decide)) (fun _ => ?_)
          refine lv_aload_n hx hb d_Hart_exchange_111 rfl (lv_at hl 7 rfl) ?_
          refine va_get (D := D) (ci := 4) (v := .ref (a 8)) (C := R_Hart) (T := F_Hart) (N := 6) hx hb hts i_Hart hown hK hP 6 rfl rfl 2 (by decide) (hts _ k_146) (fun _ h9 => h9) rfl d_Hart_exchange_112 ?_
          refine lv_iload hx hb d_Hart_exchange_115 (lv_at hl 4 rfl) ?_
          refine lv_iload hx hb d_Hart_exchange_117 (lv_at hl 3 rfl) ?_
          refine lv_iload hx hb d_Hart_exchange_119 (lv_at hl 0 rfl) ?_
          refine lv_iload hx hb d_Hart_exchange_121 (lv_at hl 1 rfl) ?_
          refine xi (wr := [((a 0), .inr (1, [.ref (a 3), .ref (a 1), .ref (a 4), .int σ.1.2.2.2.1, .ref (a 5)])), ((a 1), .inr (2, [.ref (a 2)])), ((a 2), .inl ((k 0), 8, .inl σ.1.1)), ((a 3), .inl ((k 1), n, .inl σ.1.2.1)), ((a 4), .inl ((k 2), 256, .inl σ.1.2.2.1)), ((a 5), .inl ((k 3), 2, .inr (.inl σ.1.2.2.2.2))), ((a 6), .inr (4, [.int id, .ref (a 7), .ref (a 8), .int σ.2.2.1, .int σ.2.2.2.1, .int σ.2.2.2.2.1])), ((a 7), .inl ((k 4), 32, .inl σ.2.1)), ((a 8), .inr (3, csF σ.2.2.2.2.2))]) (W2 := fun _ => wH a k n id σ) (xS (rest := [.int (ush x0 20), .ref (a 8)]) ⟨hx, hb, hml, hown, hts⟩ (c_Hart_mixed ((sp_Field_f3 x0) &&& 3) (sp_Csrs_read (ush x0 20) (sp_Clint_lines id σ.1.1) σ.2.2.2.2.2) (σ.2.1 ((sp_Field_rs1 x0).toNatClampNeg))) mw_Hart_mixed ms_Hart_mixed k_533 ⟨rfl, rfl, Nat.le_of_ble_eq_true rfl, Nat.le_of_ble_eq_true rfl⟩ hK hP hD hS hA hF [] [] rfl rfl rfl rfl hl.1 rfl (Nat.le_of_ble_eq_true rfl) d_Hart_exchange_123 ⟨Nat.zero_le _, Nat.zero_le _⟩) hP hD hS hA [] [0, 1, 2, 3, 4, 5, 6, 7, 8] [0, 1, 2, 3, 4, 5, 6, 7, 8] rfl rfl rfl (by decide) (fun _ => rfl) rfl (fun r_12 _ H locs h_12 hP hD hS => ?_)
          subst h_12
          refine xv (wr := [((a 0), .inr (1, [.ref (a 3), .ref (a 1), .ref (a 4), .int σ.1.2.2.2.1, .ref (a 5)])), ((a 1), .inr (2, [.ref (a 2)])), ((a 2), .inl ((k 0), 8, .inl σ.1.1)), ((a 3), .inl ((k 1), n, .inl σ.1.2.1)), ((a 4), .inl ((k 2), 256, .inl σ.1.2.2.1)), ((a 5), .inl ((k 3), 2, .inr (.inl σ.1.2.2.2.2))), ((a 6), .inr (4, [.int id, .ref (a 7), .ref (a 8), .int σ.2.2.1, .int σ.2.2.2.1, .int σ.2.2.2.2.1])), ((a 7), .inl ((k 4), 32, .inl σ.2.1))]) (W2 := fun u9 => wH a k n id (σ.1, σ.2.1, σ.2.2.1, σ.2.2.2.1, σ.2.2.2.2.1, u9)) (xV (rest := []) ⟨hx, hb, hml, hown, hts⟩ (c_Csrs_write (a 8) (ush x0 20) (sp_Hart_mixed ((sp_Field_f3 x0) &&& 3) (sp_Csrs_read (ush x0 20) (sp_Clint_lines id σ.1.1) σ.2.2.2.2.2) (σ.2.1 ((sp_Field_rs1 x0).toNatClampNeg))) σ.2.2.2.2.2) mw_Csrs_write mv_Csrs_write k_536 ⟨rfl, rfl, Nat.le_of_ble_eq_true rfl, Nat.le_of_ble_eq_true rfl⟩ hK hP hD hS hA hF [8] [] rfl rfl rfl 8 3 rfl rfl rfl rfl hl.1 rfl (Nat.le_of_ble_eq_true rfl) d_Hart_exchange_126 ⟨Nat.zero_le _, Nat.zero_le _⟩) hP hD hS hA [8] [0, 1, 2, 3, 4, 5, 6, 7] [0, 1, 2, 3, 4, 5, 6, 7, 8] rfl rfl rfl (by decide) (fun _ => rfl) rfl (fun u_13 H locs h_13 hP hD hS => ?_)
          refine lv_aload_n hx hb d_Hart_exchange_129 rfl (lv_at hl 7 rfl) ?_
          refine lv_iload_n hx hb d_Hart_exchange_130 rfl (lv_at hl 8 rfl) ?_
          refine lv_iload hx hb d_Hart_exchange_131 (lv_at hl 0 rfl) ?_
          refine xi (wr := []) (W2 := fun u9 => wH a k n id u9) (xV (rest := []) ⟨hx, hb, hml, hown, hts⟩ (c_Hart_finish a k n id x0 (sp_Csrs_read (ush x0 20) (sp_Clint_lines id σ.1.1) σ.2.2.2.2.2) (σ.1, σ.2.1, σ.2.2.1, σ.2.2.2.1, σ.2.2.2.2.1, u_13) hn hid) mw_Hart_finish mv_Hart_finish k_379 ⟨rfl, rfl, Nat.le_of_ble_eq_true rfl, Nat.le_of_ble_eq_true rfl⟩ hK hP hD hS hA hF [0, 1, 2, 3, 4, 5, 6, 7, 8] [0, 1, 2, 3, 4] rfl rfl rfl 6 4 rfl rfl rfl rfl hl.1 rfl (Nat.le_of_ble_eq_true rfl) d_Hart_exchange_133 ⟨Nat.zero_le _, Nat.zero_le _⟩) hP hD hS hA [0, 1, 2, 3, 4, 5, 6, 7, 8] [] [0, 1, 2, 3, 4, 5, 6, 7, 8] rfl rfl rfl (by decide) (fun _ => rfl) rfl (fun r_14 u_14 H locs h_14 hP hD hS => ?_)
          exact ri u_14 hx hb hr hlocks hP hD hS d_Hart_exchange_136 (by simp only [sp_Hart_exchange, h_13, h_14, if_pos c_3, if_neg c_4, if_neg c_7, if_pos c_8])
        · refine lv_iload hx hb d_Hart_exchange_70 (lv_at hl 3 rfl) ?_
          refine lv_goto (tgt := 82) hx hb d_Hart_exchange_72 (by decide) ?_
          refine lv_istore (lv' := [(8, .int (sp_Field_rs1 x0)), (7, .int 1), (6, .int ((sp_Field_f3 x0) &&& 3)), (5, .int (ush x0 20)), (4, .int (sp_Field_rs1 x0)), (3, .int (sp_Field_f3 x0)), (0, .ref (a 6)), (1, .int x0), (2, .ref (a 0))]) hx hb d_Hart_exchange_82 hl (by decide) rfl (fun ls hl => ?_)
          refine lv_aload_n hx hb d_Hart_exchange_84 rfl (lv_at hl 6 rfl) ?_
          refine va_get (D := D) (ci := 4) (v := .ref (a 8)) (C := R_Hart) (T := F_Hart) (N := 6) hx hb hts i_Hart hown hK hP 6 rfl rfl 2 (by decide) (hts _ k_146) (fun _ h9 => h9) rfl d_Hart_exchange_85 ?_
          refine lv_iload hx hb d_Hart_exchange_88 (lv_at hl 3 rfl) ?_
          refine lv_aload_n hx hb d_Hart_exchange_90 rfl (lv_at hl 8 rfl) ?_
          refine va_get (D := D) (ci := 1) (v := .ref (a 1)) (C := R_Memory) (T := F_Memory) (N := 5) hx hb hts i_Memory hown hK hP 0 rfl rfl 1 (by decide) (hts _ k_54) (fun _ h9 => h9) rfl d_Hart_exchange_91 ?_
          refine lv_aload_n hx hb d_Hart_exchange_94 rfl (lv_at hl 6 rfl) ?_
          refine va_get (D := D) (ci := 4) (v := .int id) (C := R_Hart) (T := F_Hart) (N := 6) hx hb hts i_Hart hown hK hP 6 rfl rfl 0 (by decide) (hts _ k_143) (fun _ h9 => h9) rfl d_Hart_exchange_95 ?_
          refine xi (wr := [((a 0), .inr (1, [.ref (a 3), .ref (a 1), .ref (a 4), .int σ.1.2.2.2.1, .ref (a 5)])), ((a 3), .inl ((k 1), n, .inl σ.1.2.1)), ((a 4), .inl ((k 2), 256, .inl σ.1.2.2.1)), ((a 5), .inl ((k 3), 2, .inr (.inl σ.1.2.2.2.2))), ((a 6), .inr (4, [.int id, .ref (a 7), .ref (a 8), .int σ.2.2.1, .int σ.2.2.2.1, .int σ.2.2.2.2.1])), ((a 7), .inl ((k 4), 32, .inl σ.2.1)), ((a 8), .inr (3, csF σ.2.2.2.2.2))]) (W2 := fun _ => wH a k n id σ) (xV (rest := [.int (ush x0 20), .ref (a 8)]) ⟨hx, hb, hml, hown, hts⟩ (c_Clint_lines a k id σ.1.1 hid) mw_Clint_lines mv_Clint_lines k_217 ⟨rfl, rfl, Nat.le_of_ble_eq_true rfl, Nat.le_of_ble_eq_true rfl⟩ hK hP hD hS hA hF [1, 2] [0] rfl rfl rfl 1 2 rfl rfl rfl rfl hl.1 rfl (Nat.le_of_ble_eq_true rfl) d_Hart_exchange_98 ⟨Nat.zero_le _, Nat.zero_le _⟩) hP hD hS hA [1, 2] [0, 3, 4, 5, 6, 7, 8] [0, 7, 8, 1, 2, 3, 4, 5, 6] rfl rfl rfl (by decide) (fun _ => rfl) rfl (fun r_15 _ H locs h_15 hP hD hS => ?_)
          subst h_15
          refine xi (wr := [((a 0), .inr (1, [.ref (a 3), .ref (a 1), .ref (a 4), .int σ.1.2.2.2.1, .ref (a 5)])), ((a 1), .inr (2, [.ref (a 2)])), ((a 2), .inl ((k 0), 8, .inl σ.1.1)), ((a 3), .inl ((k 1), n, .inl σ.1.2.1)), ((a 4), .inl ((k 2), 256, .inl σ.1.2.2.1)), ((a 5), .inl ((k 3), 2, .inr (.inl σ.1.2.2.2.2))), ((a 6), .inr (4, [.int id, .ref (a 7), .ref (a 8), .int σ.2.2.1, .int σ.2.2.2.1, .int σ.2.2.2.2.1])), ((a 7), .inl ((k 4), 32, .inl σ.2.1))]) (W2 := fun _ => wH a k n id σ) (xV (rest := []) ⟨hx, hb, hml, hown, hts⟩ (c_Csrs_read (a 8) (ush x0 20) (sp_Clint_lines id σ.1.1) σ.2.2.2.2.2) mw_Csrs_read mv_Csrs_read k_527 ⟨rfl, rfl, Nat.le_of_ble_eq_true rfl, Nat.le_of_ble_eq_true rfl⟩ hK hP hD hS hA hF [8] [] rfl rfl rfl 8 3 rfl rfl rfl rfl hl.1 rfl (Nat.le_of_ble_eq_true rfl) d_Hart_exchange_101 ⟨Nat.zero_le _, Nat.zero_le _⟩) hP hD hS hA [8] [0, 1, 2, 3, 4, 5, 6, 7] [0, 1, 2, 3, 4, 5, 6, 7, 8] rfl rfl rfl (by decide) (fun _ => rfl) rfl (fun r_16 _ H locs h_16 hP hD hS => ?_)
          subst h_16
          refine lv_istore (lv' := [(9, .int (sp_Csrs_read (ush x0 20) (sp_Clint_lines id σ.1.1) σ.2.2.2.2.2)), (8, .int (sp_Field_rs1 x0)), (7, .int 1), (6, .int ((sp_Field_f3 x0) &&& 3)), (5, .int (ush x0 20)), (4, .int (sp_Field_rs1 x0)), (3, .int (sp_Field_f3 x0)), (0, .ref (a 6)), (1, .int x0), (2, .ref (a 0))]) hx hb d_Hart_exchange_104 hl (by decide) rfl (fun ls hl => ?_)
          refine lv_iload hx hb d_Hart_exchange_106 (lv_at hl 2 rfl) ?_
          refine lv_if_eq (tgt := 129) hx hb d_Hart_exchange_108 (by decide) (fun h9 => absurd h9 (by decide)) (fun _ => ?_)
          refine lv_aload_n hx hb d_Hart_exchange_111 rfl (lv_at hl 7 rfl) ?_
          refine va_get (D := D) (ci := 4) (v := .ref (a 8)) (C := R_Hart) (T := F_Hart) (N := 6) hx hb hts i_Hart hown hK hP 6 rfl rfl 2 (by decide) (hts _ k_146) (fun _ h9 => h9) rfl d_Hart_exchange_112 ?_
          refine lv_iload hx hb d_Hart_exchange_115 (lv_at hl 4 rfl) ?_
          refine lv_iload hx hb d_Hart_exchange_117 (lv_at hl 3 rfl) ?_
          refine lv_iload hx hb d_Hart_exchange_119 (lv_at hl 0 rfl) ?_
          refine lv_iload hx hb d_Hart_exchange_121 (lv_at hl 1 rfl) ?_
          refine xi (wr := [((a 0), .inr (1, [.ref (a 3), .ref (a 1), .ref (a 4), .int σ.1.2.2.2.1, .ref (a 5)])), ((a 1), .inr (2, [.ref (a 2)])), ((a 2), .inl ((k 0), 8, .inl σ.1.1)), ((a 3), .inl ((k 1), n, .inl σ.1.2.1)), ((a 4), .inl ((k 2), 256, .inl σ.1.2.2.1)), ((a 5), .inl ((k 3), 2, .inr (.inl σ.1.2.2.2.2))), ((a 6), .inr (4, [.int id, .ref (a 7), .ref (a 8), .int σ.2.2.1, .int σ.2.2.2.1, .int σ.2.2.2.2.1])), ((a 7), .inl ((k 4), 32, .inl σ.2.1)), ((a 8), .inr (3, csF σ.2.2.2.2.2))]) (W2 := fun _ => wH a k n id σ) (xS (rest := [.int (ush x0 20), .ref (a 8)]) ⟨hx, hb, hml, hown, hts⟩ (c_Hart_mixed ((sp_Field_f3 x0) &&& 3) (sp_Csrs_read (ush x0 20) (sp_Clint_lines id σ.1.1) σ.2.2.2.2.2) (sp_Field_rs1 x0)) mw_Hart_mixed ms_Hart_mixed k_533 ⟨rfl, rfl, Nat.le_of_ble_eq_true rfl, Nat.le_of_ble_eq_true rfl⟩ hK hP hD hS hA hF [] [] rfl rfl rfl rfl hl.1 rfl (Nat.le_of_ble_eq_true rfl) d_Hart_exchange_123 ⟨Nat.zero_le _, Nat.zero_le _⟩) hP hD hS hA [] [0, 1, 2, 3, 4, 5, 6, 7, 8] [0, 1, 2, 3, 4, 5, 6, 7, 8] rfl rfl rfl (by decide) (fun _ => rfl) rfl (fun r_18 _ H locs h_18 hP hD hS => ?_)
          subst h_18
          refine xv (wr := [((a 0), .inr (1, [.ref (a 3), .ref (a 1), .ref (a 4), .int σ.1.2.2.2.1, .ref (a 5)])), ((a 1), .inr (2, [.ref (a 2)])), ((a 2), .inl ((k 0), 8, .inl σ.1.1)), ((a 3), .inl ((k 1), n, .inl σ.1.2.1)), ((a 4), .inl ((k 2), 256, .inl σ.1.2.2.1)), ((a 5), .inl ((k 3), 2, .inr (.inl σ.1.2.2.2.2))), ((a 6), .inr (4, [.int id, .ref (a 7), .ref (a 8), .int σ.2.2.1, .int σ.2.2.2.1, .int σ.2.2.2.2.1])), ((a 7), .inl ((k 4), 32, .inl σ.2.1))]) (W2 := fun u9 => wH a k n id (σ.1, σ.2.1, σ.2.2.1, σ.2.2.2.1, σ.2.2.2.2.1, u9)) (xV (rest := []) ⟨hx, hb, hml, hown, hts⟩ (c_Csrs_write (a 8) (ush x0 20) (sp_Hart_mixed ((sp_Field_f3 x0) &&& 3) (sp_Csrs_read (ush x0 20) (sp_Clint_lines id σ.1.1) σ.2.2.2.2.2) (sp_Field_rs1 x0)) σ.2.2.2.2.2) mw_Csrs_write mv_Csrs_write k_536 ⟨rfl, rfl, Nat.le_of_ble_eq_true rfl, Nat.le_of_ble_eq_true rfl⟩ hK hP hD hS hA hF [8] [] rfl rfl rfl 8 3 rfl rfl rfl rfl hl.1 rfl (Nat.le_of_ble_eq_true rfl) d_Hart_exchange_126 ⟨Nat.zero_le _, Nat.zero_le _⟩) hP hD hS hA [8] [0, 1, 2, 3, 4, 5, 6, 7] [0, 1, 2, 3, 4, 5, 6, 7, 8] rfl rfl rfl (by decide) (fun _ => rfl) rfl (fun u_19 H locs h_19 hP hD hS => ?_)
          refine lv_aload_n hx hb d_Hart_exchange_129 rfl (lv_at hl 7 rfl) ?_
          refine lv_iload_n hx hb d_Hart_exchange_130 rfl (lv_at hl 8 rfl) ?_
          refine lv_iload hx hb d_Hart_exchange_131 (lv_at hl 0 rfl) ?_
          refine xi (wr := []) (W2 := fun u9 => wH a k n id u9) (xV (rest := []) ⟨hx, hb, hml, hown, hts⟩ (c_Hart_finish a k n id x0 (sp_Csrs_read (ush x0 20) (sp_Clint_lines id σ.1.1) σ.2.2.2.2.2) (σ.1, σ.2.1, σ.2.2.1, σ.2.2.2.1, σ.2.2.2.2.1, u_19) hn hid) mw_Hart_finish mv_Hart_finish k_379 ⟨rfl, rfl, Nat.le_of_ble_eq_true rfl, Nat.le_of_ble_eq_true rfl⟩ hK hP hD hS hA hF [0, 1, 2, 3, 4, 5, 6, 7, 8] [0, 1, 2, 3, 4] rfl rfl rfl 6 4 rfl rfl rfl rfl hl.1 rfl (Nat.le_of_ble_eq_true rfl) d_Hart_exchange_133 ⟨Nat.zero_le _, Nat.zero_le _⟩) hP hD hS hA [0, 1, 2, 3, 4, 5, 6, 7, 8] [] [0, 1, 2, 3, 4, 5, 6, 7, 8] rfl rfl rfl (by decide) (fun _ => rfl) rfl (fun r_20 u_20 H locs h_20 hP hD hS => ?_)
          exact ri u_20 hx hb hr hlocks hP hD hS d_Hart_exchange_136 (by simp only [sp_Hart_exchange, h_19, h_20, if_pos c_3, if_neg c_4, if_neg c_7, if_neg c_8])
      · refine lv_aload_n hx hb d_Hart_exchange_59 rfl (lv_at hl 5 rfl) ?_
        refine lv_iload_n hx hb d_Hart_exchange_60 rfl (lv_at hl 6 rfl) ?_
        refine xi (wr := []) (W2 := fun u9 => wH a k n id u9) (xV (rest := []) ⟨hx, hb, hml, hown, hts⟩ (c_Hart_illegal a k n id x0 σ hn hid) mw_Hart_illegal mv_Hart_illegal k_356 ⟨rfl, rfl, Nat.le_of_ble_eq_true rfl, Nat.le_of_ble_eq_true rfl⟩ hK hP hD hS hA hF [0, 1, 2, 3, 4, 5, 6, 7, 8] [0, 1, 2, 3, 4] rfl rfl rfl 6 4 rfl rfl rfl rfl hl.1 rfl (Nat.le_of_ble_eq_true rfl) d_Hart_exchange_61 ⟨Nat.zero_le _, Nat.zero_le _⟩) hP hD hS hA [0, 1, 2, 3, 4, 5, 6, 7, 8] [] [0, 1, 2, 3, 4, 5, 6, 7, 8] rfl rfl rfl (by decide) (fun _ => rfl) rfl (fun r_21 u_21 H locs h_21 hP hD hS => ?_)
        exact ri u_21 hx hb hr hlocks hP hD hS d_Hart_exchange_64 (by simp only [sp_Hart_exchange, h_21, if_pos c_3, if_neg c_4, if_pos c_7])
  · refine lv_iload hx hb d_Hart_exchange_28 (lv_at hl 2 rfl) ?_
    refine lv_if_eq (tgt := 37) hx hb d_Hart_exchange_30 (by decide) (fun c_22 => ?_) (fun c_22 => ?_)
    · refine lv_iconst (v := 0) hx hb d_Hart_exchange_37 rfl ?_
      refine lv_istore (lv' := [(7, .int 0), (6, .int ((sp_Field_f3 x0) &&& 3)), (5, .int (ush x0 20)), (4, .int (sp_Field_rs1 x0)), (3, .int (sp_Field_f3 x0)), (0, .ref (a 6)), (1, .int x0), (2, .ref (a 0))]) hx hb d_Hart_exchange_38 hl (by decide) rfl (fun ls hl => ?_)
      refine lv_iload hx hb d_Hart_exchange_40 (lv_at hl 1 rfl) ?_
      refine lv_if_eq (tgt := 59) hx hb d_Hart_exchange_42 (by decide) (fun c_23 => ?_) (fun c_23 => ?_)
      · refine lv_aload_n hx hb d_Hart_exchange_59 rfl (lv_at hl 5 rfl) ?_
        refine lv_iload_n hx hb d_Hart_exchange_60 rfl (lv_at hl 6 rfl) ?_
        refine xi (wr := []) (W2 := fun u9 => wH a k n id u9) (xV (rest := []) ⟨hx, hb, hml, hown, hts⟩ (c_Hart_illegal a k n id x0 σ hn hid) mw_Hart_illegal mv_Hart_illegal k_356 ⟨rfl, rfl, Nat.le_of_ble_eq_true rfl, Nat.le_of_ble_eq_true rfl⟩ hK hP hD hS hA hF [0, 1, 2, 3, 4, 5, 6, 7, 8] [0, 1, 2, 3, 4] rfl rfl rfl 6 4 rfl rfl rfl rfl hl.1 rfl (Nat.le_of_ble_eq_true rfl) d_Hart_exchange_61 ⟨Nat.zero_le _, Nat.zero_le _⟩) hP hD hS hA [0, 1, 2, 3, 4, 5, 6, 7, 8] [] [0, 1, 2, 3, 4, 5, 6, 7, 8] rfl rfl rfl (by decide) (fun _ => rfl) rfl (fun r_24 u_24 H locs h_24 hP hD hS => ?_)
        exact ri u_24 hx hb hr hlocks hP hD hS d_Hart_exchange_64 (by simp only [sp_Hart_exchange, h_24, if_neg c_3, if_pos c_22, if_pos c_23])
      · refine lv_iload hx hb d_Hart_exchange_45 (lv_at hl 2 rfl) ?_
        refine lv_aload_n hx hb d_Hart_exchange_47 rfl (lv_at hl 5 rfl) ?_
        refine va_get (D := D) (ci := 4) (v := .int σ.2.2.2.1) (C := R_Hart) (T := F_Hart) (N := 6) hx hb hts i_Hart hown hK hP 6 rfl rfl 4 (by decide) (hts _ k_150) (fun _ h9 => h9) rfl d_Hart_exchange_48 ?_
        refine lv_iload hx hb d_Hart_exchange_51 (lv_at hl 0 rfl) ?_
        refine xi (wr := [((a 0), .inr (1, [.ref (a 3), .ref (a 1), .ref (a 4), .int σ.1.2.2.2.1, .ref (a 5)])), ((a 1), .inr (2, [.ref (a 2)])), ((a 2), .inl ((k 0), 8, .inl σ.1.1)), ((a 3), .inl ((k 1), n, .inl σ.1.2.1)), ((a 4), .inl ((k 2), 256, .inl σ.1.2.2.1)), ((a 5), .inl ((k 3), 2, .inr (.inl σ.1.2.2.2.2))), ((a 6), .inr (4, [.int id, .ref (a 7), .ref (a 8), .int σ.2.2.1, .int σ.2.2.2.1, .int σ.2.2.2.2.1])), ((a 7), .inl ((k 4), 32, .inl σ.2.1)), ((a 8), .inr (3, csF σ.2.2.2.2.2))]) (W2 := fun _ => wH a k n id σ) (xS (rest := []) ⟨hx, hb, hml, hown, hts⟩ (c_Csrs_isAllowed (ush x0 20) σ.2.2.2.1 0) mw_Csrs_isAllowed ms_Csrs_isAllowed k_518 ⟨rfl, rfl, Nat.le_of_ble_eq_true rfl, Nat.le_of_ble_eq_true rfl⟩ hK hP hD hS hA hF [] [] rfl rfl rfl rfl hl.1 rfl (Nat.le_of_ble_eq_true rfl) d_Hart_exchange_53 ⟨Nat.zero_le _, Nat.zero_le _⟩) hP hD hS hA [] [0, 1, 2, 3, 4, 5, 6, 7, 8] [0, 1, 2, 3, 4, 5, 6, 7, 8] rfl rfl rfl (by decide) (fun _ => rfl) rfl (fun r_25 _ H locs h_25 hP hD hS => ?_)
        obtain ⟨h_25, z_25⟩ := h_25
        subst h_25
        refine lv_if_ne (tgt := 65) hx hb d_Hart_exchange_56 (by decide) (fun c_26 => ?_) (fun c_26 => ?_)
        · refine lv_iload_n hx hb d_Hart_exchange_65 rfl (lv_at hl 4 rfl) ?_
          refine lv_iconst (v := 4) hx hb d_Hart_exchange_66 rfl ?_
          refine lv_icmp_le (tgt := 75) hx hb d_Hart_exchange_67 (by decide) (fun c_27 => ?_) (fun c_27 => ?_)
          · refine lv_aload_n hx hb d_Hart_exchange_75 rfl (lv_at hl 5 rfl) ?_
            refine va_get (D := D) (ci := 4) (v := .ref (a 7)) (C := R_Hart) (T := F_Hart) (N := 6) hx hb hts i_Hart hown hK hP 6 rfl rfl 1 (by decide) (hts _ k_144) (fun _ h9 => h9) rfl d_Hart_exchange_76 ?_
            refine lv_iload hx hb d_Hart_exchange_79 (lv_at hl 3 rfl) ?_
            refine y_iald (v := σ.2.1 ((sp_Field_rs1 x0).toNatClampNeg)) hx hb hK hP 7 4 rfl rfl (vp_rs1 _) rfl d_Hart_exchange_81 ?_
            refine lv_istore (lv' := [(8, .int (σ.2.1 ((sp_Field_rs1 x0).toNatClampNeg))), (7, .int 0), (6, .int ((sp_Field_f3 x0) &&& 3)), (5, .int (ush x0 20)), (4, .int (sp_Field_rs1 x0)), (3, .int (sp_Field_f3 x0)), (0, .ref (a 6)), (1, .int x0), (2, .ref (a 0))]) hx hb d_Hart_exchange_82 hl (by decide) rfl (fun ls hl => ?_)
            refine lv_aload_n hx hb d_Hart_exchange_84 rfl (lv_at hl 6 rfl) ?_
            refine va_get (D := D) (ci := 4) (v := .ref (a 8)) (C := R_Hart) (T := F_Hart) (N := 6) hx hb hts i_Hart hown hK hP 6 rfl rfl 2 (by decide) (hts _ k_146) (fun _ h9 => h9) rfl d_Hart_exchange_85 ?_
            refine lv_iload hx hb d_Hart_exchange_88 (lv_at hl 3 rfl) ?_
            refine lv_aload_n hx hb d_Hart_exchange_90 rfl (lv_at hl 8 rfl) ?_
            refine va_get (D := D) (ci := 1) (v := .ref (a 1)) (C := R_Memory) (T := F_Memory) (N := 5) hx hb hts i_Memory hown hK hP 0 rfl rfl 1 (by decide) (hts _ k_54) (fun _ h9 => h9) rfl d_Hart_exchange_91 ?_
            refine lv_aload_n hx hb d_Hart_exchange_94 rfl (lv_at hl 6 rfl) ?_
            refine va_get (D := D) (ci := 4) (v := .int id) (C := R_Hart) (T := F_Hart) (N := 6) hx hb hts i_Hart hown hK hP 6 rfl rfl 0 (by decide) (hts _ k_143) (fun _ h9 => h9) rfl d_Hart_exchange_95 ?_
            refine xi (wr := [((a 0), .inr (1, [.ref (a 3), .ref (a 1), .ref (a 4), .int σ.1.2.2.2.1, .ref (a 5)])), ((a 3), .inl ((k 1), n, .inl σ.1.2.1)), ((a 4), .inl ((k 2), 256, .inl σ.1.2.2.1)), ((a 5), .inl ((k 3), 2, .inr (.inl σ.1.2.2.2.2))), ((a 6), .inr (4, [.int id, .ref (a 7), .ref (a 8), .int σ.2.2.1, .int σ.2.2.2.1, .int σ.2.2.2.2.1])), ((a 7), .inl ((k 4), 32, .inl σ.2.1)), ((a 8), .inr (3, csF σ.2.2.2.2.2))]) (W2 := fun _ => wH a k n id σ) (xV (rest := [.int (ush x0 20), .ref (a 8)]) ⟨hx, hb, hml, hown, hts⟩ (c_Clint_lines a k id σ.1.1 hid) mw_Clint_lines mv_Clint_lines k_217 ⟨rfl, rfl, Nat.le_of_ble_eq_true rfl, Nat.le_of_ble_eq_true rfl⟩ hK hP hD hS hA hF [1, 2] [0] rfl rfl rfl 1 2 rfl rfl rfl rfl hl.1 rfl (Nat.le_of_ble_eq_true rfl) d_Hart_exchange_98 ⟨Nat.zero_le _, Nat.zero_le _⟩) hP hD hS hA [1, 2] [0, 3, 4, 5, 6, 7, 8] [0, 7, 8, 1, 2, 3, 4, 5, 6] rfl rfl rfl (by decide) (fun _ => rfl) rfl (fun r_28 _ H locs h_28 hP hD hS => ?_)
            subst h_28
            refine xi (wr := [((a 0), .inr (1, [.ref (a 3), .ref (a 1), .ref (a 4), .int σ.1.2.2.2.1, .ref (a 5)])), ((a 1), .inr (2, [.ref (a 2)])), ((a 2), .inl ((k 0), 8, .inl σ.1.1)), ((a 3), .inl ((k 1), n, .inl σ.1.2.1)), ((a 4), .inl ((k 2), 256, .inl σ.1.2.2.1)), ((a 5), .inl ((k 3), 2, .inr (.inl σ.1.2.2.2.2))), ((a 6), .inr (4, [.int id, .ref (a 7), .ref (a 8), .int σ.2.2.1, .int σ.2.2.2.1, .int σ.2.2.2.2.1])), ((a 7), .inl ((k 4), 32, .inl σ.2.1))]) (W2 := fun _ => wH a k n id σ) (xV (rest := []) ⟨hx, hb, hml, hown, hts⟩ (c_Csrs_read (a 8) (ush x0 20) (sp_Clint_lines id σ.1.1) σ.2.2.2.2.2) mw_Csrs_read mv_Csrs_read k_527 ⟨rfl, rfl, Nat.le_of_ble_eq_true rfl, Nat.le_of_ble_eq_true rfl⟩ hK hP hD hS hA hF [8] [] rfl rfl rfl 8 3 rfl rfl rfl rfl hl.1 rfl (Nat.le_of_ble_eq_true rfl) d_Hart_exchange_101 ⟨Nat.zero_le _, Nat.zero_le _⟩) hP hD hS hA [8] [0, 1, 2, 3, 4, 5, 6, 7] [0, 1, 2, 3, 4, 5, 6, 7, 8] rfl rfl rfl (by decide) (fun _ => rfl) rfl (fun r_29 _ H locs h_29 hP hD hS => ?_)
            subst h_29
            refine lv_istore (lv' := [(9, .int (sp_Csrs_read (ush x0 20) (sp_Clint_lines id σ.1.1) σ.2.2.2.2.2)), (8, .int (σ.2.1 ((sp_Field_rs1 x0).toNatClampNeg))), (7, .int 0), (6, .int ((sp_Field_f3 x0) &&& 3)), (5, .int (ush x0 20)), (4, .int (sp_Field_rs1 x0)), (3, .int (sp_Field_f3 x0)), (0, .ref (a 6)), (1, .int x0), (2, .ref (a 0))]) hx hb d_Hart_exchange_104 hl (by decide) rfl (fun ls hl => ?_)
            refine lv_iload hx hb d_Hart_exchange_106 (lv_at hl 2 rfl) ?_
            refine lv_if_eq (tgt := 129) hx hb d_Hart_exchange_108 (by decide) (fun _ => ?_) (fun h9 => absurd (by decide) h9)
            refine lv_aload_n hx hb d_Hart_exchange_129 rfl (lv_at hl 7 rfl) ?_
            refine lv_iload_n hx hb d_Hart_exchange_130 rfl (lv_at hl 8 rfl) ?_
            refine lv_iload hx hb d_Hart_exchange_131 (lv_at hl 0 rfl) ?_
            refine xi (wr := []) (W2 := fun u9 => wH a k n id u9) (xV (rest := []) ⟨hx, hb, hml, hown, hts⟩ (c_Hart_finish a k n id x0 (sp_Csrs_read (ush x0 20) (sp_Clint_lines id σ.1.1) σ.2.2.2.2.2) σ hn hid) mw_Hart_finish mv_Hart_finish k_379 ⟨rfl, rfl, Nat.le_of_ble_eq_true rfl, Nat.le_of_ble_eq_true rfl⟩ hK hP hD hS hA hF [0, 1, 2, 3, 4, 5, 6, 7, 8] [0, 1, 2, 3, 4] rfl rfl rfl 6 4 rfl rfl rfl rfl hl.1 rfl (Nat.le_of_ble_eq_true rfl) d_Hart_exchange_133 ⟨Nat.zero_le _, Nat.zero_le _⟩) hP hD hS hA [0, 1, 2, 3, 4, 5, 6, 7, 8] [] [0, 1, 2, 3, 4, 5, 6, 7, 8] rfl rfl rfl (by decide) (fun _ => rfl) rfl (fun r_31 u_31 H locs h_31 hP hD hS => ?_)
            exact ri u_31 hx hb hr hlocks hP hD hS d_Hart_exchange_136 (by simp only [sp_Hart_exchange, h_31, if_neg c_3, if_pos c_22, if_neg c_23, if_neg c_26, if_pos c_27])
          · refine lv_iload hx hb d_Hart_exchange_70 (lv_at hl 3 rfl) ?_
            refine lv_goto (tgt := 82) hx hb d_Hart_exchange_72 (by decide) ?_
            refine lv_istore (lv' := [(8, .int (sp_Field_rs1 x0)), (7, .int 0), (6, .int ((sp_Field_f3 x0) &&& 3)), (5, .int (ush x0 20)), (4, .int (sp_Field_rs1 x0)), (3, .int (sp_Field_f3 x0)), (0, .ref (a 6)), (1, .int x0), (2, .ref (a 0))]) hx hb d_Hart_exchange_82 hl (by decide) rfl (fun ls hl => ?_)
            refine lv_aload_n hx hb d_Hart_exchange_84 rfl (lv_at hl 6 rfl) ?_
            refine va_get (D := D) (ci := 4) (v := .ref (a 8)) (C := R_Hart) (T := F_Hart) (N := 6) hx hb hts i_Hart hown hK hP 6 rfl rfl 2 (by decide) (hts _ k_146) (fun _ h9 => h9) rfl d_Hart_exchange_85 ?_
            refine lv_iload hx hb d_Hart_exchange_88 (lv_at hl 3 rfl) ?_
            refine lv_aload_n hx hb d_Hart_exchange_90 rfl (lv_at hl 8 rfl) ?_
            refine va_get (D := D) (ci := 1) (v := .ref (a 1)) (C := R_Memory) (T := F_Memory) (N := 5) hx hb hts i_Memory hown hK hP 0 rfl rfl 1 (by decide) (hts _ k_54) (fun _ h9 => h9) rfl d_Hart_exchange_91 ?_
            refine lv_aload_n hx hb d_Hart_exchange_94 rfl (lv_at hl 6 rfl) ?_
            refine va_get (D := D) (ci := 4) (v := .int id) (C := R_Hart) (T := F_Hart) (N := 6) hx hb hts i_Hart hown hK hP 6 rfl rfl 0 (by decide) (hts _ k_143) (fun _ h9 => h9) rfl d_Hart_exchange_95 ?_
            refine xi (wr := [((a 0), .inr (1, [.ref (a 3), .ref (a 1), .ref (a 4), .int σ.1.2.2.2.1, .ref (a 5)])), ((a 3), .inl ((k 1), n, .inl σ.1.2.1)), ((a 4), .inl ((k 2), 256, .inl σ.1.2.2.1)), ((a 5), .inl ((k 3), 2, .inr (.inl σ.1.2.2.2.2))), ((a 6), .inr (4, [.int id, .ref (a 7), .ref (a 8), .int σ.2.2.1, .int σ.2.2.2.1, .int σ.2.2.2.2.1])), ((a 7), .inl ((k 4), 32, .inl σ.2.1)), ((a 8), .inr (3, csF σ.2.2.2.2.2))]) (W2 := fun _ => wH a k n id σ) (xV (rest := [.int (ush x0 20), .ref (a 8)]) ⟨hx, hb, hml, hown, hts⟩ (c_Clint_lines a k id σ.1.1 hid) mw_Clint_lines mv_Clint_lines k_217 ⟨rfl, rfl, Nat.le_of_ble_eq_true rfl, Nat.le_of_ble_eq_true rfl⟩ hK hP hD hS hA hF [1, 2] [0] rfl rfl rfl 1 2 rfl rfl rfl rfl hl.1 rfl (Nat.le_of_ble_eq_true rfl) d_Hart_exchange_98 ⟨Nat.zero_le _, Nat.zero_le _⟩) hP hD hS hA [1, 2] [0, 3, 4, 5, 6, 7, 8] [0, 7, 8, 1, 2, 3, 4, 5, 6] rfl rfl rfl (by decide) (fun _ => rfl) rfl (fun r_32 _ H locs h_32 hP hD hS => ?_)
            subst h_32
            refine xi (wr := [((a 0), .inr (1, [.ref (a 3), .ref (a 1), .ref (a 4), .int σ.1.2.2.2.1, .ref (a 5)])), ((a 1), .inr (2, [.ref (a 2)])), ((a 2), .inl ((k 0), 8, .inl σ.1.1)), ((a 3), .inl ((k 1), n, .inl σ.1.2.1)), ((a 4), .inl ((k 2), 256, .inl σ.1.2.2.1)), ((a 5), .inl ((k 3), 2, .inr (.inl σ.1.2.2.2.2))), ((a 6), .inr (4, [.int id, .ref (a 7), .ref (a 8), .int σ.2.2.1, .int σ.2.2.2.1, .int σ.2.2.2.2.1])), ((a 7), .inl ((k 4), 32, .inl σ.2.1))]) (W2 := fun _ => wH a k n id σ) (xV (rest := []) ⟨hx, hb, hml, hown, hts⟩ (c_Csrs_read (a 8) (ush x0 20) (sp_Clint_lines id σ.1.1) σ.2.2.2.2.2) mw_Csrs_read mv_Csrs_read k_527 ⟨rfl, rfl, Nat.le_of_ble_eq_true rfl, Nat.le_of_ble_eq_true rfl⟩ hK hP hD hS hA hF [8] [] rfl rfl rfl 8 3 rfl rfl rfl rfl hl.1 rfl (Nat.le_of_ble_eq_true rfl) d_Hart_exchange_101 ⟨Nat.zero_le _, Nat.zero_le _⟩) hP hD hS hA [8] [0, 1, 2, 3, 4, 5, 6, 7] [0, 1, 2, 3, 4, 5, 6, 7, 8] rfl rfl rfl (by decide) (fun _ => rfl) rfl (fun r_33 _ H locs h_33 hP hD hS => ?_)
            subst h_33
            refine lv_istore (lv' := [(9, .int (sp_Csrs_read (ush x0 20) (sp_Clint_lines id σ.1.1) σ.2.2.2.2.2)), (8, .int (sp_Field_rs1 x0)), (7, .int 0), (6, .int ((sp_Field_f3 x0) &&& 3)), (5, .int (ush x0 20)), (4, .int (sp_Field_rs1 x0)), (3, .int (sp_Field_f3 x0)), (0, .ref (a 6)), (1, .int x0), (2, .ref (a 0))]) hx hb d_Hart_exchange_104 hl (by decide) rfl (fun ls hl => ?_)
            refine lv_iload hx hb d_Hart_exchange_106 (lv_at hl 2 rfl) ?_
            refine lv_if_eq (tgt := 129) hx hb d_Hart_exchange_108 (by decide) (fun _ => ?_) (fun h9 => absurd (by decide) h9)
            refine lv_aload_n hx hb d_Hart_exchange_129 rfl (lv_at hl 7 rfl) ?_
            refine lv_iload_n hx hb d_Hart_exchange_130 rfl (lv_at hl 8 rfl) ?_
            refine lv_iload hx hb d_Hart_exchange_131 (lv_at hl 0 rfl) ?_
            refine xi (wr := []) (W2 := fun u9 => wH a k n id u9) (xV (rest := []) ⟨hx, hb, hml, hown, hts⟩ (c_Hart_finish a k n id x0 (sp_Csrs_read (ush x0 20) (sp_Clint_lines id σ.1.1) σ.2.2.2.2.2) σ hn hid) mw_Hart_finish mv_Hart_finish k_379 ⟨rfl, rfl, Nat.le_of_ble_eq_true rfl, Nat.le_of_ble_eq_true rfl⟩ hK hP hD hS hA hF [0, 1, 2, 3, 4, 5, 6, 7, 8] [0, 1, 2, 3, 4] rfl rfl rfl 6 4 rfl rfl rfl rfl hl.1 rfl (Nat.le_of_ble_eq_true rfl) d_Hart_exchange_133 ⟨Nat.zero_le _, Nat.zero_le _⟩) hP hD hS hA [0, 1, 2, 3, 4, 5, 6, 7, 8] [] [0, 1, 2, 3, 4, 5, 6, 7, 8] rfl rfl rfl (by decide) (fun _ => rfl) rfl (fun r_35 u_35 H locs h_35 hP hD hS => ?_)
            exact ri u_35 hx hb hr hlocks hP hD hS d_Hart_exchange_136 (by simp only [sp_Hart_exchange, h_35, if_neg c_3, if_pos c_22, if_neg c_23, if_neg c_26, if_neg c_27])
        · refine lv_aload_n hx hb d_Hart_exchange_59 rfl (lv_at hl 5 rfl) ?_
          refine lv_iload_n hx hb d_Hart_exchange_60 rfl (lv_at hl 6 rfl) ?_
          refine xi (wr := []) (W2 := fun u9 => wH a k n id u9) (xV (rest := []) ⟨hx, hb, hml, hown, hts⟩ (c_Hart_illegal a k n id x0 σ hn hid) mw_Hart_illegal mv_Hart_illegal k_356 ⟨rfl, rfl, Nat.le_of_ble_eq_true rfl, Nat.le_of_ble_eq_true rfl⟩ hK hP hD hS hA hF [0, 1, 2, 3, 4, 5, 6, 7, 8] [0, 1, 2, 3, 4] rfl rfl rfl 6 4 rfl rfl rfl rfl hl.1 rfl (Nat.le_of_ble_eq_true rfl) d_Hart_exchange_61 ⟨Nat.zero_le _, Nat.zero_le _⟩) hP hD hS hA [0, 1, 2, 3, 4, 5, 6, 7, 8] [] [0, 1, 2, 3, 4, 5, 6, 7, 8] rfl rfl rfl (by decide) (fun _ => rfl) rfl (fun r_36 u_36 H locs h_36 hP hD hS => ?_)
          exact ri u_36 hx hb hr hlocks hP hD hS d_Hart_exchange_64 (by simp only [sp_Hart_exchange, h_36, if_neg c_3, if_pos c_22, if_neg c_23, if_pos c_26])
    · refine lv_iconst (v := 1) hx hb d_Hart_exchange_33 rfl ?_
      refine lv_goto (tgt := 38) hx hb d_Hart_exchange_34 (by decide) ?_
      refine lv_istore (lv' := [(7, .int 1), (6, .int ((sp_Field_f3 x0) &&& 3)), (5, .int (ush x0 20)), (4, .int (sp_Field_rs1 x0)), (3, .int (sp_Field_f3 x0)), (0, .ref (a 6)), (1, .int x0), (2, .ref (a 0))]) hx hb d_Hart_exchange_38 hl (by decide) rfl (fun ls hl => ?_)
      refine lv_iload hx hb d_Hart_exchange_40 (lv_at hl 1 rfl) ?_
      refine lv_if_eq (tgt := 59) hx hb d_Hart_exchange_42 (by decide) (fun c_37 => ?_) (fun c_37 => ?_)
      · refine lv_aload_n hx hb d_Hart_exchange_59 rfl (lv_at hl 5 rfl) ?_
        refine lv_iload_n hx hb d_Hart_exchange_60 rfl (lv_at hl 6 rfl) ?_
        refine xi (wr := []) (W2 := fun u9 => wH a k n id u9) (xV (rest := []) ⟨hx, hb, hml, hown, hts⟩ (c_Hart_illegal a k n id x0 σ hn hid) mw_Hart_illegal mv_Hart_illegal k_356 ⟨rfl, rfl, Nat.le_of_ble_eq_true rfl, Nat.le_of_ble_eq_true rfl⟩ hK hP hD hS hA hF [0, 1, 2, 3, 4, 5, 6, 7, 8] [0, 1, 2, 3, 4] rfl rfl rfl 6 4 rfl rfl rfl rfl hl.1 rfl (Nat.le_of_ble_eq_true rfl) d_Hart_exchange_61 ⟨Nat.zero_le _, Nat.zero_le _⟩) hP hD hS hA [0, 1, 2, 3, 4, 5, 6, 7, 8] [] [0, 1, 2, 3, 4, 5, 6, 7, 8] rfl rfl rfl (by decide) (fun _ => rfl) rfl (fun r_38 u_38 H locs h_38 hP hD hS => ?_)
        exact ri u_38 hx hb hr hlocks hP hD hS d_Hart_exchange_64 (by simp only [sp_Hart_exchange, h_38, if_neg c_3, if_neg c_22, if_pos c_37])
      · refine lv_iload hx hb d_Hart_exchange_45 (lv_at hl 2 rfl) ?_
        refine lv_aload_n hx hb d_Hart_exchange_47 rfl (lv_at hl 5 rfl) ?_
        refine va_get (D := D) (ci := 4) (v := .int σ.2.2.2.1) (C := R_Hart) (T := F_Hart) (N := 6) hx hb hts i_Hart hown hK hP 6 rfl rfl 4 (by decide) (hts _ k_150) (fun _ h9 => h9) rfl d_Hart_exchange_48 ?_
        refine lv_iload hx hb d_Hart_exchange_51 (lv_at hl 0 rfl) ?_
        refine xi (wr := [((a 0), .inr (1, [.ref (a 3), .ref (a 1), .ref (a 4), .int σ.1.2.2.2.1, .ref (a 5)])), ((a 1), .inr (2, [.ref (a 2)])), ((a 2), .inl ((k 0), 8, .inl σ.1.1)), ((a 3), .inl ((k 1), n, .inl σ.1.2.1)), ((a 4), .inl ((k 2), 256, .inl σ.1.2.2.1)), ((a 5), .inl ((k 3), 2, .inr (.inl σ.1.2.2.2.2))), ((a 6), .inr (4, [.int id, .ref (a 7), .ref (a 8), .int σ.2.2.1, .int σ.2.2.2.1, .int σ.2.2.2.2.1])), ((a 7), .inl ((k 4), 32, .inl σ.2.1)), ((a 8), .inr (3, csF σ.2.2.2.2.2))]) (W2 := fun _ => wH a k n id σ) (xS (rest := []) ⟨hx, hb, hml, hown, hts⟩ (c_Csrs_isAllowed (ush x0 20) σ.2.2.2.1 1) mw_Csrs_isAllowed ms_Csrs_isAllowed k_518 ⟨rfl, rfl, Nat.le_of_ble_eq_true rfl, Nat.le_of_ble_eq_true rfl⟩ hK hP hD hS hA hF [] [] rfl rfl rfl rfl hl.1 rfl (Nat.le_of_ble_eq_true rfl) d_Hart_exchange_53 ⟨Nat.zero_le _, Nat.zero_le _⟩) hP hD hS hA [] [0, 1, 2, 3, 4, 5, 6, 7, 8] [0, 1, 2, 3, 4, 5, 6, 7, 8] rfl rfl rfl (by decide) (fun _ => rfl) rfl (fun r_39 _ H locs h_39 hP hD hS => ?_)
        obtain ⟨h_39, z_39⟩ := h_39
        subst h_39
        refine lv_if_ne (tgt := 65) hx hb d_Hart_exchange_56 (by decide) (fun c_40 => ?_) (fun c_40 => ?_)
        · refine lv_iload_n hx hb d_Hart_exchange_65 rfl (lv_at hl 4 rfl) ?_
          refine lv_iconst (v := 4) hx hb d_Hart_exchange_66 rfl ?_
          refine lv_icmp_le (tgt := 75) hx hb d_Hart_exchange_67 (by decide) (fun c_41 => ?_) (fun c_41 => ?_)
          · refine lv_aload_n hx hb d_Hart_exchange_75 rfl (lv_at hl 5 rfl) ?_
            refine va_get (D := D) (ci := 4) (v := .ref (a 7)) (C := R_Hart) (T := F_Hart) (N := 6) hx hb hts i_Hart hown hK hP 6 rfl rfl 1 (by decide) (hts _ k_144) (fun _ h9 => h9) rfl d_Hart_exchange_76 ?_
            refine lv_iload hx hb d_Hart_exchange_79 (lv_at hl 3 rfl) ?_
            refine y_iald (v := σ.2.1 ((sp_Field_rs1 x0).toNatClampNeg)) hx hb hK hP 7 4 rfl rfl (vp_rs1 _) rfl d_Hart_exchange_81 ?_
            refine lv_istore (lv' := [(8, .int (σ.2.1 ((sp_Field_rs1 x0).toNatClampNeg))), (7, .int 1), (6, .int ((sp_Field_f3 x0) &&& 3)), (5, .int (ush x0 20)), (4, .int (sp_Field_rs1 x0)), (3, .int (sp_Field_f3 x0)), (0, .ref (a 6)), (1, .int x0), (2, .ref (a 0))]) hx hb d_Hart_exchange_82 hl (by decide) rfl (fun ls hl => ?_)
            refine lv_aload_n hx hb d_Hart_exchange_84 rfl (lv_at hl 6 rfl) ?_
            refine va_get (D := D) (ci := 4) (v := .ref (a 8)) (C := R_Hart) (T := F_Hart) (N := 6) hx hb hts i_Hart hown hK hP 6 rfl rfl 2 (by decide) (hts _ k_146) (fun _ h9 => h9) rfl d_Hart_exchange_85 ?_
            refine lv_iload hx hb d_Hart_exchange_88 (lv_at hl 3 rfl) ?_
            refine lv_aload_n hx hb d_Hart_exchange_90 rfl (lv_at hl 8 rfl) ?_
            refine va_get (D := D) (ci := 1) (v := .ref (a 1)) (C := R_Memory) (T := F_Memory) (N := 5) hx hb hts i_Memory hown hK hP 0 rfl rfl 1 (by decide) (hts _ k_54) (fun _ h9 => h9) rfl d_Hart_exchange_91 ?_
            refine lv_aload_n hx hb d_Hart_exchange_94 rfl (lv_at hl 6 rfl) ?_
            refine va_get (D := D) (ci := 4) (v := .int id) (C := R_Hart) (T := F_Hart) (N := 6) hx hb hts i_Hart hown hK hP 6 rfl rfl 0 (by decide) (hts _ k_143) (fun _ h9 => h9) rfl d_Hart_exchange_95 ?_
            refine xi (wr := [((a 0), .inr (1, [.ref (a 3), .ref (a 1), .ref (a 4), .int σ.1.2.2.2.1, .ref (a 5)])), ((a 3), .inl ((k 1), n, .inl σ.1.2.1)), ((a 4), .inl ((k 2), 256, .inl σ.1.2.2.1)), ((a 5), .inl ((k 3), 2, .inr (.inl σ.1.2.2.2.2))), ((a 6), .inr (4, [.int id, .ref (a 7), .ref (a 8), .int σ.2.2.1, .int σ.2.2.2.1, .int σ.2.2.2.2.1])), ((a 7), .inl ((k 4), 32, .inl σ.2.1)), ((a 8), .inr (3, csF σ.2.2.2.2.2))]) (W2 := fun _ => wH a k n id σ) (xV (rest := [.int (ush x0 20), .ref (a 8)]) ⟨hx, hb, hml, hown, hts⟩ (c_Clint_lines a k id σ.1.1 hid) mw_Clint_lines mv_Clint_lines k_217 ⟨rfl, rfl, Nat.le_of_ble_eq_true rfl, Nat.le_of_ble_eq_true rfl⟩ hK hP hD hS hA hF [1, 2] [0] rfl rfl rfl 1 2 rfl rfl rfl rfl hl.1 rfl (Nat.le_of_ble_eq_true rfl) d_Hart_exchange_98 ⟨Nat.zero_le _, Nat.zero_le _⟩) hP hD hS hA [1, 2] [0, 3, 4, 5, 6, 7, 8] [0, 7, 8, 1, 2, 3, 4, 5, 6] rfl rfl rfl (by decide) (fun _ => rfl) rfl (fun r_42 _ H locs h_42 hP hD hS => ?_)
            subst h_42
            refine xi (wr := [((a 0), .inr (1, [.ref (a 3), .ref (a 1), .ref (a 4), .int σ.1.2.2.2.1, .ref (a 5)])), ((a 1), .inr (2, [.ref (a 2)])), ((a 2), .inl ((k 0), 8, .inl σ.1.1)), ((a 3), .inl ((k 1), n, .inl σ.1.2.1)), ((a 4), .inl ((k 2), 256, .inl σ.1.2.2.1)), ((a 5), .inl ((k 3), 2, .inr (.inl σ.1.2.2.2.2))), ((a 6), .inr (4, [.int id, .ref (a 7), .ref (a 8), .int σ.2.2.1, .int σ.2.2.2.1, .int σ.2.2.2.2.1])), ((a 7), .inl ((k 4), 32, .inl σ.2.1))]) (W2 := fun _ => wH a k n id σ) (xV (rest := []) ⟨hx, hb, hml, hown, hts⟩ (c_Csrs_read (a 8) (ush x0 20) (sp_Clint_lines id σ.1.1) σ.2.2.2.2.2) mw_Csrs_read mv_Csrs_read k_527 ⟨rfl, rfl, Nat.le_of_ble_eq_true rfl, Nat.le_of_ble_eq_true rfl⟩ hK hP hD hS hA hF [8] [] rfl rfl rfl 8 3 rfl rfl rfl rfl hl.1 rfl (Nat.le_of_ble_eq_true rfl) d_Hart_exchange_101 ⟨Nat.zero_le _, Nat.zero_le _⟩) hP hD hS hA [8] [0, 1, 2, 3, 4, 5, 6, 7] [0, 1, 2, 3, 4, 5, 6, 7, 8] rfl rfl rfl (by decide) (fun _ => rfl) rfl (fun r_43 _ H locs h_43 hP hD hS => ?_)
            subst h_43
            refine lv_istore (lv' := [(9, .int (sp_Csrs_read (ush x0 20) (sp_Clint_lines id σ.1.1) σ.2.2.2.2.2)), (8, .int (σ.2.1 ((sp_Field_rs1 x0).toNatClampNeg))), (7, .int 1), (6, .int ((sp_Field_f3 x0) &&& 3)), (5, .int (ush x0 20)), (4, .int (sp_Field_rs1 x0)), (3, .int (sp_Field_f3 x0)), (0, .ref (a 6)), (1, .int x0), (2, .ref (a 0))]) hx hb d_Hart_exchange_104 hl (by decide) rfl (fun ls hl => ?_)
            refine lv_iload hx hb d_Hart_exchange_106 (lv_at hl 2 rfl) ?_
            refine lv_if_eq (tgt := 129) hx hb d_Hart_exchange_108 (by decide) (fun h9 => absurd h9 (by decide)) (fun _ => ?_)
            refine lv_aload_n hx hb d_Hart_exchange_111 rfl (lv_at hl 7 rfl) ?_
            refine va_get (D := D) (ci := 4) (v := .ref (a 8)) (C := R_Hart) (T := F_Hart) (N := 6) hx hb hts i_Hart hown hK hP 6 rfl rfl 2 (by decide) (hts _ k_146) (fun _ h9 => h9) rfl d_Hart_exchange_112 ?_
            refine lv_iload hx hb d_Hart_exchange_115 (lv_at hl 4 rfl) ?_
            refine lv_iload hx hb d_Hart_exchange_117 (lv_at hl 3 rfl) ?_
            refine lv_iload hx hb d_Hart_exchange_119 (lv_at hl 0 rfl) ?_
            refine lv_iload hx hb d_Hart_exchange_121 (lv_at hl 1 rfl) ?_
            refine xi (wr := [((a 0), .inr (1, [.ref (a 3), .ref (a 1), .ref (a 4), .int σ.1.2.2.2.1, .ref (a 5)])), ((a 1), .inr (2, [.ref (a 2)])), ((a 2), .inl ((k 0), 8, .inl σ.1.1)), ((a 3), .inl ((k 1), n, .inl σ.1.2.1)), ((a 4), .inl ((k 2), 256, .inl σ.1.2.2.1)), ((a 5), .inl ((k 3), 2, .inr (.inl σ.1.2.2.2.2))), ((a 6), .inr (4, [.int id, .ref (a 7), .ref (a 8), .int σ.2.2.1, .int σ.2.2.2.1, .int σ.2.2.2.2.1])), ((a 7), .inl ((k 4), 32, .inl σ.2.1)), ((a 8), .inr (3, csF σ.2.2.2.2.2))]) (W2 := fun _ => wH a k n id σ) (xS (rest := [.int (ush x0 20), .ref (a 8)]) ⟨hx, hb, hml, hown, hts⟩ (c_Hart_mixed ((sp_Field_f3 x0) &&& 3) (sp_Csrs_read (ush x0 20) (sp_Clint_lines id σ.1.1) σ.2.2.2.2.2) (σ.2.1 ((sp_Field_rs1 x0).toNatClampNeg))) mw_Hart_mixed ms_Hart_mixed k_533 ⟨rfl, rfl, Nat.le_of_ble_eq_true rfl, Nat.le_of_ble_eq_true rfl⟩ hK hP hD hS hA hF [] [] rfl rfl rfl rfl hl.1 rfl (Nat.le_of_ble_eq_true rfl) d_Hart_exchange_123 ⟨Nat.zero_le _, Nat.zero_le _⟩) hP hD hS hA [] [0, 1, 2, 3, 4, 5, 6, 7, 8] [0, 1, 2, 3, 4, 5, 6, 7, 8] rfl rfl rfl (by decide) (fun _ => rfl) rfl (fun r_45 _ H locs h_45 hP hD hS => ?_)
            subst h_45
            refine xv (wr := [((a 0), .inr (1, [.ref (a 3), .ref (a 1), .ref (a 4), .int σ.1.2.2.2.1, .ref (a 5)])), ((a 1), .inr (2, [.ref (a 2)])), ((a 2), .inl ((k 0), 8, .inl σ.1.1)), ((a 3), .inl ((k 1), n, .inl σ.1.2.1)), ((a 4), .inl ((k 2), 256, .inl σ.1.2.2.1)), ((a 5), .inl ((k 3), 2, .inr (.inl σ.1.2.2.2.2))), ((a 6), .inr (4, [.int id, .ref (a 7), .ref (a 8), .int σ.2.2.1, .int σ.2.2.2.1, .int σ.2.2.2.2.1])), ((a 7), .inl ((k 4), 32, .inl σ.2.1))]) (W2 := fun u9 => wH a k n id (σ.1, σ.2.1, σ.2.2.1, σ.2.2.2.1, σ.2.2.2.2.1, u9)) (xV (rest := []) ⟨hx, hb, hml, hown, hts⟩ (c_Csrs_write (a 8) (ush x0 20) (sp_Hart_mixed ((sp_Field_f3 x0) &&& 3) (sp_Csrs_read (ush x0 20) (sp_Clint_lines id σ.1.1) σ.2.2.2.2.2) (σ.2.1 ((sp_Field_rs1 x0).toNatClampNeg))) σ.2.2.2.2.2) mw_Csrs_write mv_Csrs_write k_536 ⟨rfl, rfl, Nat.le_of_ble_eq_true rfl, Nat.le_of_ble_eq_true rfl⟩ hK hP hD hS hA hF [8] [] rfl rfl rfl 8 3 rfl rfl rfl rfl hl.1 rfl (Nat.le_of_ble_eq_true rfl) d_Hart_exchange_126 ⟨Nat.zero_le _, Nat.zero_le _⟩) hP hD hS hA [8] [0, 1, 2, 3, 4, 5, 6, 7] [0, 1, 2, 3, 4, 5, 6, 7, 8] rfl rfl rfl (by decide) (fun _ => rfl) rfl (fun u_46 H locs h_46 hP hD hS => ?_)
            refine lv_aload_n hx hb d_Hart_exchange_129 rfl (lv_at hl 7 rfl) ?_
            refine lv_iload_n hx hb d_Hart_exchange_130 rfl (lv_at hl 8 rfl) ?_
            refine lv_iload hx hb d_Hart_exchange_131 (lv_at hl 0 rfl) ?_
            refine xi (wr := []) (W2 := fun u9 => wH a k n id u9) (xV (rest := []) ⟨hx, hb, hml, hown, hts⟩ (c_Hart_finish a k n id x0 (sp_Csrs_read (ush x0 20) (sp_Clint_lines id σ.1.1) σ.2.2.2.2.2) (σ.1, σ.2.1, σ.2.2.1, σ.2.2.2.1, σ.2.2.2.2.1, u_46) hn hid) mw_Hart_finish mv_Hart_finish k_379 ⟨rfl, rfl, Nat.le_of_ble_eq_true rfl, Nat.le_of_ble_eq_true rfl⟩ hK hP hD hS hA hF [0, 1, 2, 3, 4, 5, 6, 7, 8] [0, 1, 2, 3, 4] rfl rfl rfl 6 4 rfl rfl rfl rfl hl.1 rfl (Nat.le_of_ble_eq_true rfl) d_Hart_exchange_133 ⟨Nat.zero_le _, Nat.zero_le _⟩) hP hD hS hA [0, 1, 2, 3, 4, 5, 6, 7, 8] [] [0, 1, 2, 3, 4, 5, 6, 7, 8] rfl rfl rfl (by decide) (fun _ => rfl) rfl (fun r_47 u_47 H locs h_47 hP hD hS => ?_)
            exact ri u_47 hx hb hr hlocks hP hD hS d_Hart_exchange_136 (by simp only [sp_Hart_exchange, h_46, h_47, if_neg c_3, if_neg c_22, if_neg c_37, if_neg c_40, if_pos c_41])
          · refine lv_iload hx hb d_Hart_exchange_70 (lv_at hl 3 rfl) ?_
            refine lv_goto (tgt := 82) hx hb d_Hart_exchange_72 (by decide) ?_
            refine lv_istore (lv' := [(8, .int (sp_Field_rs1 x0)), (7, .int 1), (6, .int ((sp_Field_f3 x0) &&& 3)), (5, .int (ush x0 20)), (4, .int (sp_Field_rs1 x0)), (3, .int (sp_Field_f3 x0)), (0, .ref (a 6)), (1, .int x0), (2, .ref (a 0))]) hx hb d_Hart_exchange_82 hl (by decide) rfl (fun ls hl => ?_)
            refine lv_aload_n hx hb d_Hart_exchange_84 rfl (lv_at hl 6 rfl) ?_
            refine va_get (D := D) (ci := 4) (v := .ref (a 8)) (C := R_Hart) (T := F_Hart) (N := 6) hx hb hts i_Hart hown hK hP 6 rfl rfl 2 (by decide) (hts _ k_146) (fun _ h9 => h9) rfl d_Hart_exchange_85 ?_
            refine lv_iload hx hb d_Hart_exchange_88 (lv_at hl 3 rfl) ?_
            refine lv_aload_n hx hb d_Hart_exchange_90 rfl (lv_at hl 8 rfl) ?_
            refine va_get (D := D) (ci := 1) (v := .ref (a 1)) (C := R_Memory) (T := F_Memory) (N := 5) hx hb hts i_Memory hown hK hP 0 rfl rfl 1 (by decide) (hts _ k_54) (fun _ h9 => h9) rfl d_Hart_exchange_91 ?_
            refine lv_aload_n hx hb d_Hart_exchange_94 rfl (lv_at hl 6 rfl) ?_
            refine va_get (D := D) (ci := 4) (v := .int id) (C := R_Hart) (T := F_Hart) (N := 6) hx hb hts i_Hart hown hK hP 6 rfl rfl 0 (by decide) (hts _ k_143) (fun _ h9 => h9) rfl d_Hart_exchange_95 ?_
            refine xi (wr := [((a 0), .inr (1, [.ref (a 3), .ref (a 1), .ref (a 4), .int σ.1.2.2.2.1, .ref (a 5)])), ((a 3), .inl ((k 1), n, .inl σ.1.2.1)), ((a 4), .inl ((k 2), 256, .inl σ.1.2.2.1)), ((a 5), .inl ((k 3), 2, .inr (.inl σ.1.2.2.2.2))), ((a 6), .inr (4, [.int id, .ref (a 7), .ref (a 8), .int σ.2.2.1, .int σ.2.2.2.1, .int σ.2.2.2.2.1])), ((a 7), .inl ((k 4), 32, .inl σ.2.1)), ((a 8), .inr (3, csF σ.2.2.2.2.2))]) (W2 := fun _ => wH a k n id σ) (xV (rest := [.int (ush x0 20), .ref (a 8)]) ⟨hx, hb, hml, hown, hts⟩ (c_Clint_lines a k id σ.1.1 hid) mw_Clint_lines mv_Clint_lines k_217 ⟨rfl, rfl, Nat.le_of_ble_eq_true rfl, Nat.le_of_ble_eq_true rfl⟩ hK hP hD hS hA hF [1, 2] [0] rfl rfl rfl 1 2 rfl rfl rfl rfl hl.1 rfl (Nat.le_of_ble_eq_true rfl) d_Hart_exchange_98 ⟨Nat.zero_le _, Nat.zero_le _⟩) hP hD hS hA [1, 2] [0, 3, 4, 5, 6, 7, 8] [0, 7, 8, 1, 2, 3, 4, 5, 6] rfl rfl rfl (by decide) (fun _ => rfl) rfl (fun r_48 _ H locs h_48 hP hD hS => ?_)
            subst h_48
            refine xi (wr := [((a 0), .inr (1, [.ref (a 3), .ref (a 1), .ref (a 4), .int σ.1.2.2.2.1, .ref (a 5)])), ((a 1), .inr (2, [.ref (a 2)])), ((a 2), .inl ((k 0), 8, .inl σ.1.1)), ((a 3), .inl ((k 1), n, .inl σ.1.2.1)), ((a 4), .inl ((k 2), 256, .inl σ.1.2.2.1)), ((a 5), .inl ((k 3), 2, .inr (.inl σ.1.2.2.2.2))), ((a 6), .inr (4, [.int id, .ref (a 7), .ref (a 8), .int σ.2.2.1, .int σ.2.2.2.1, .int σ.2.2.2.2.1])), ((a 7), .inl ((k 4), 32, .inl σ.2.1))]) (W2 := fun _ => wH a k n id σ) (xV (rest := []) ⟨hx, hb, hml, hown, hts⟩ (c_Csrs_read (a 8) (ush x0 20) (sp_Clint_lines id σ.1.1) σ.2.2.2.2.2) mw_Csrs_read mv_Csrs_read k_527 ⟨rfl, rfl, Nat.le_of_ble_eq_true rfl, Nat.le_of_ble_eq_true rfl⟩ hK hP hD hS hA hF [8] [] rfl rfl rfl 8 3 rfl rfl rfl rfl hl.1 rfl (Nat.le_of_ble_eq_true rfl) d_Hart_exchange_101 ⟨Nat.zero_le _, Nat.zero_le _⟩) hP hD hS hA [8] [0, 1, 2, 3, 4, 5, 6, 7] [0, 1, 2, 3, 4, 5, 6, 7, 8] rfl rfl rfl (by decide) (fun _ => rfl) rfl (fun r_49 _ H locs h_49 hP hD hS => ?_)
            subst h_49
            refine lv_istore (lv' := [(9, .int (sp_Csrs_read (ush x0 20) (sp_Clint_lines id σ.1.1) σ.2.2.2.2.2)), (8, .int (sp_Field_rs1 x0)), (7, .int 1), (6, .int ((sp_Field_f3 x0) &&& 3)), (5, .int (ush x0 20)), (4, .int (sp_Field_rs1 x0)), (3, .int (sp_Field_f3 x0)), (0, .ref (a 6)), (1, .int x0), (2, .ref (a 0))]) hx hb d_Hart_exchange_104 hl (by decide) rfl (fun ls hl => ?_)
            refine lv_iload hx hb d_Hart_exchange_106 (lv_at hl 2 rfl) ?_
            refine lv_if_eq (tgt := 129) hx hb d_Hart_exchange_108 (by decide) (fun h9 => absurd h9 (by decide)) (fun _ => ?_)
            refine lv_aload_n hx hb d_Hart_exchange_111 rfl (lv_at hl 7 rfl) ?_
            refine va_get (D := D) (ci := 4) (v := .ref (a 8)) (C := R_Hart) (T := F_Hart) (N := 6) hx hb hts i_Hart hown hK hP 6 rfl rfl 2 (by decide) (hts _ k_146) (fun _ h9 => h9) rfl d_Hart_exchange_112 ?_
            refine lv_iload hx hb d_Hart_exchange_115 (lv_at hl 4 rfl) ?_
            refine lv_iload hx hb d_Hart_exchange_117 (lv_at hl 3 rfl) ?_
            refine lv_iload hx hb d_Hart_exchange_119 (lv_at hl 0 rfl) ?_
            refine lv_iload hx hb d_Hart_exchange_121 (lv_at hl 1 rfl) ?_
            refine xi (wr := [((a 0), .inr (1, [.ref (a 3), .ref (a 1), .ref (a 4), .int σ.1.2.2.2.1, .ref (a 5)])), ((a 1), .inr (2, [.ref (a 2)])), ((a 2), .inl ((k 0), 8, .inl σ.1.1)), ((a 3), .inl ((k 1), n, .inl σ.1.2.1)), ((a 4), .inl ((k 2), 256, .inl σ.1.2.2.1)), ((a 5), .inl ((k 3), 2, .inr (.inl σ.1.2.2.2.2))), ((a 6), .inr (4, [.int id, .ref (a 7), .ref (a 8), .int σ.2.2.1, .int σ.2.2.2.1, .int σ.2.2.2.2.1])), ((a 7), .inl ((k 4), 32, .inl σ.2.1)), ((a 8), .inr (3, csF σ.2.2.2.2.2))]) (W2 := fun _ => wH a k n id σ) (xS (rest := [.int (ush x0 20), .ref (a 8)]) ⟨hx, hb, hml, hown, hts⟩ (c_Hart_mixed ((sp_Field_f3 x0) &&& 3) (sp_Csrs_read (ush x0 20) (sp_Clint_lines id σ.1.1) σ.2.2.2.2.2) (sp_Field_rs1 x0)) mw_Hart_mixed ms_Hart_mixed k_533 ⟨rfl, rfl, Nat.le_of_ble_eq_true rfl, Nat.le_of_ble_eq_true rfl⟩ hK hP hD hS hA hF [] [] rfl rfl rfl rfl hl.1 rfl (Nat.le_of_ble_eq_true rfl) d_Hart_exchange_123 ⟨Nat.zero_le _, Nat.zero_le _⟩) hP hD hS hA [] [0, 1, 2, 3, 4, 5, 6, 7, 8] [0, 1, 2, 3, 4, 5, 6, 7, 8] rfl rfl rfl (by decide) (fun _ => rfl) rfl (fun r_51 _ H locs h_51 hP hD hS => ?_)
            subst h_51
            refine xv (wr := [((a 0), .inr (1, [.ref (a 3), .ref (a 1), .ref (a 4), .int σ.1.2.2.2.1, .ref (a 5)])), ((a 1), .inr (2, [.ref (a 2)])), ((a 2), .inl ((k 0), 8, .inl σ.1.1)), ((a 3), .inl ((k 1), n, .inl σ.1.2.1)), ((a 4), .inl ((k 2), 256, .inl σ.1.2.2.1)), ((a 5), .inl ((k 3), 2, .inr (.inl σ.1.2.2.2.2))), ((a 6), .inr (4, [.int id, .ref (a 7), .ref (a 8), .int σ.2.2.1, .int σ.2.2.2.1, .int σ.2.2.2.2.1])), ((a 7), .inl ((k 4), 32, .inl σ.2.1))]) (W2 := fun u9 => wH a k n id (σ.1, σ.2.1, σ.2.2.1, σ.2.2.2.1, σ.2.2.2.2.1, u9)) (xV (rest := []) ⟨hx, hb, hml, hown, hts⟩ (c_Csrs_write (a 8) (ush x0 20) (sp_Hart_mixed ((sp_Field_f3 x0) &&& 3) (sp_Csrs_read (ush x0 20) (sp_Clint_lines id σ.1.1) σ.2.2.2.2.2) (sp_Field_rs1 x0)) σ.2.2.2.2.2) mw_Csrs_write mv_Csrs_write k_536 ⟨rfl, rfl, Nat.le_of_ble_eq_true rfl, Nat.le_of_ble_eq_true rfl⟩ hK hP hD hS hA hF [8] [] rfl rfl rfl 8 3 rfl rfl rfl rfl hl.1 rfl (Nat.le_of_ble_eq_true rfl) d_Hart_exchange_126 ⟨Nat.zero_le _, Nat.zero_le _⟩) hP hD hS hA [8] [0, 1, 2, 3, 4, 5, 6, 7] [0, 1, 2, 3, 4, 5, 6, 7, 8] rfl rfl rfl (by decide) (fun _ => rfl) rfl (fun u_52 H locs h_52 hP hD hS => ?_)
            refine lv_aload_n hx hb d_Hart_exchange_129 rfl (lv_at hl 7 rfl) ?_
            refine lv_iload_n hx hb d_Hart_exchange_130 rfl (lv_at hl 8 rfl) ?_
            refine lv_iload hx hb d_Hart_exchange_131 (lv_at hl 0 rfl) ?_
            refine xi (wr := []) (W2 := fun u9 => wH a k n id u9) (xV (rest := []) ⟨hx, hb, hml, hown, hts⟩ (c_Hart_finish a k n id x0 (sp_Csrs_read (ush x0 20) (sp_Clint_lines id σ.1.1) σ.2.2.2.2.2) (σ.1, σ.2.1, σ.2.2.1, σ.2.2.2.1, σ.2.2.2.2.1, u_52) hn hid) mw_Hart_finish mv_Hart_finish k_379 ⟨rfl, rfl, Nat.le_of_ble_eq_true rfl, Nat.le_of_ble_eq_true rfl⟩ hK hP hD hS hA hF [0, 1, 2, 3, 4, 5, 6, 7, 8] [0, 1, 2, 3, 4] rfl rfl rfl 6 4 rfl rfl rfl rfl hl.1 rfl (Nat.le_of_ble_eq_true rfl) d_Hart_exchange_133 ⟨Nat.zero_le _, Nat.zero_le _⟩) hP hD hS hA [0, 1, 2, 3, 4, 5, 6, 7, 8] [] [0, 1, 2, 3, 4, 5, 6, 7, 8] rfl rfl rfl (by decide) (fun _ => rfl) rfl (fun r_53 u_53 H locs h_53 hP hD hS => ?_)
            exact ri u_53 hx hb hr hlocks hP hD hS d_Hart_exchange_136 (by simp only [sp_Hart_exchange, h_52, h_53, if_neg c_3, if_neg c_22, if_neg c_37, if_neg c_40, if_neg c_41])
        · refine lv_aload_n hx hb d_Hart_exchange_59 rfl (lv_at hl 5 rfl) ?_
          refine lv_iload_n hx hb d_Hart_exchange_60 rfl (lv_at hl 6 rfl) ?_
          refine xi (wr := []) (W2 := fun u9 => wH a k n id u9) (xV (rest := []) ⟨hx, hb, hml, hown, hts⟩ (c_Hart_illegal a k n id x0 σ hn hid) mw_Hart_illegal mv_Hart_illegal k_356 ⟨rfl, rfl, Nat.le_of_ble_eq_true rfl, Nat.le_of_ble_eq_true rfl⟩ hK hP hD hS hA hF [0, 1, 2, 3, 4, 5, 6, 7, 8] [0, 1, 2, 3, 4] rfl rfl rfl 6 4 rfl rfl rfl rfl hl.1 rfl (Nat.le_of_ble_eq_true rfl) d_Hart_exchange_61 ⟨Nat.zero_le _, Nat.zero_le _⟩) hP hD hS hA [0, 1, 2, 3, 4, 5, 6, 7, 8] [] [0, 1, 2, 3, 4, 5, 6, 7, 8] rfl rfl rfl (by decide) (fun _ => rfl) rfl (fun r_54 u_54 H locs h_54 hP hD hS => ?_)
          exact ri u_54 hx hb hr hlocks hP hD hS d_Hart_exchange_64 (by simp only [sp_Hart_exchange, h_54, if_neg c_3, if_neg c_22, if_neg c_37, if_pos c_40])
def sp_Hart_execute (n : Nat) (id : Int32) (x0 : Int32) (σ : TH) : Int32 × TH :=
  if (x0 &&& 127) = 3 then
    let r_2 := (sp_Hart_load n id x0 σ).1
    let u_2 := (sp_Hart_load n id x0 σ).2
    (r_2, u_2)
  else
    if (x0 &&& 127) = 15 then
      let r_4 := (sp_Hart_goOn n id σ).1
      let u_4 := (sp_Hart_goOn n id σ).2
      (r_4, u_4)
    else
      if (x0 &&& 127) = 19 then
        let r_6 := (sp_Hart_computeWithImmediate n id x0 σ).1
        let u_6 := (sp_Hart_computeWithImmediate n id x0 σ).2
        (r_6, u_6)
      else
        if (x0 &&& 127) = 23 then
          let r_9 := (sp_Hart_finish n id x0 (σ.2.2.1 + (sp_Field_upper x0)) σ).1
          let u_9 := (sp_Hart_finish n id x0 (σ.2.2.1 + (sp_Field_upper x0)) σ).2
          (r_9, u_9)
        else
          if (x0 &&& 127) = 35 then
            let r_11 := (sp_Hart_store n id x0 σ).1
            let u_11 := (sp_Hart_store n id x0 σ).2
            (r_11, u_11)
          else
            if (x0 &&& 127) = 47 then
              let r_13 := (sp_Hart_changeAtOnce n id x0 σ).1
              let u_13 := (sp_Hart_changeAtOnce n id x0 σ).2
              (r_13, u_13)
            else
              if (x0 &&& 127) = 51 then
                let r_15 := (sp_Hart_compute n id x0 σ).1
                let u_15 := (sp_Hart_compute n id x0 σ).2
                (r_15, u_15)
              else
                if (x0 &&& 127) = 55 then
                  let r_18 := (sp_Hart_finish n id x0 (sp_Field_upper x0) σ).1
                  let u_18 := (sp_Hart_finish n id x0 (sp_Field_upper x0) σ).2
                  (r_18, u_18)
                else
                  if (x0 &&& 127) = 99 then
                    let r_20 := (sp_Hart_branch n id x0 σ).1
                    let u_20 := (sp_Hart_branch n id x0 σ).2
                    (r_20, u_20)
                  else
                    if (x0 &&& 127) = 103 then
                      let r_22 := (sp_Hart_jumpByRegister n id x0 σ).1
                      let u_22 := (sp_Hart_jumpByRegister n id x0 σ).2
                      (r_22, u_22)
                    else
                      if (x0 &&& 127) = 111 then
                        let r_25 := (sp_Hart_jump n id x0 (σ.2.2.1 + (sp_Field_jumpOffset x0)) σ).1
                        let u_25 := (sp_Hart_jump n id x0 (σ.2.2.1 + (sp_Field_jumpOffset x0)) σ).2
                        (r_25, u_25)
                      else
                        if (x0 &&& 127) = 115 then
                          if (sp_Field_f3 x0) = 0 then
                            let r_30 := (sp_Hart_callSystem n id x0 σ).1
                            let u_30 := (sp_Hart_callSystem n id x0 σ).2
                            (r_30, u_30)
                          else
                            let r_29 := (sp_Hart_exchange n id x0 σ).1
                            let u_29 := (sp_Hart_exchange n id x0 σ).2
                            (r_29, u_29)
                        else
                          let r_31 := (sp_Hart_illegal n id x0 σ).1
                          let u_31 := (sp_Hart_illegal n id x0 σ).2
                          (r_31, u_31)
set_option maxHeartbeats 4000000 in
set_option maxRecDepth 100000 in
theorem c_Hart_execute {l : Launch} {D : va_G} {g : Nat → Nat} (a : Nat → Nat) (k : Nat → ClassId) (n : Nat) (id : Int32) (x0 : Int32) (σ : TH) (hn : n ≤ 4096) (hid : id = 0 ∨ id = 1) (hp : 0 ≤ σ.1.2.2.2.1) : CT l D g y_Hart_execute b_Hart_execute 3 (some .int) (rD 5) [.ref (a 6), .int x0, .ref (a 0)] (wH a k n id σ) (tyH k) (Qi D (fun (r : Int32) (u : TH) => sp_Hart_execute n id x0 σ = (r, u)) (fun u => wH a k n id u)) := by
  refine CT.of rfl (Nat.le_of_ble_eq_true rfl) (fun p e s m below meth c A ls hx hb hr hml hts hown hlocks hA hP hK hD hF hS hl => ?_)
  have hl : lv_has ls 3 [(0, .ref (a 6)), (1, .int x0), (2, .ref (a 0))] := hl
  refine lv_iload_n hx hb d_Hart_execute_0 rfl (lv_at hl 1 rfl) ?_
  refine lv_bipush (v := 127) hx hb d_Hart_execute_1 rfl ?_
  refine lv_iand hx hb d_Hart_execute_3 ?_
  by_cases c_1 : (x0 &&& 127) = 3
  · refine lv_lookup (off := 108) (tgt := 112) hx hb d_Hart_execute_4 rfl (by rw [c_1]; rfl) (by decide) ?_
    refine lv_aload_n hx hb d_Hart_execute_112 rfl (lv_at hl 0 rfl) ?_
    refine lv_iload_n hx hb d_Hart_execute_113 rfl (lv_at hl 1 rfl) ?_
    refine lv_aload_n hx hb d_Hart_execute_114 rfl (lv_at hl 2 rfl) ?_
    refine xi (wr := []) (W2 := fun u9 => wH a k n id u9) (xV (rest := []) ⟨hx, hb, hml, hown, hts⟩ (c_Hart_load a k n id x0 σ hn hid) mw_Hart_load mv_Hart_load k_349 ⟨rfl, rfl, Nat.le_of_ble_eq_true rfl, Nat.le_of_ble_eq_true rfl⟩ hK hP hD hS hA hF [0, 1, 2, 3, 4, 5, 6, 7, 8] [0, 1, 2, 3, 4] rfl rfl rfl 6 4 rfl rfl rfl rfl hl.1 rfl (Nat.le_of_ble_eq_true rfl) d_Hart_execute_115 ⟨Nat.zero_le _, Nat.zero_le _⟩) hP hD hS hA [0, 1, 2, 3, 4, 5, 6, 7, 8] [] [0, 1, 2, 3, 4, 5, 6, 7, 8] rfl rfl rfl (by decide) (fun _ => rfl) rfl (fun r_2 u_2 H locs h_2 hP hD hS => ?_)
    exact ri u_2 hx hb hr hlocks hP hD hS d_Hart_execute_118 (by simp only [sp_Hart_execute, h_2, if_pos c_1])
  · by_cases c_3 : (x0 &&& 127) = 15
    · refine lv_lookup (off := 115) (tgt := 119) hx hb d_Hart_execute_4 rfl (by rw [c_3]; rfl) (by decide) ?_
      refine lv_aload_n hx hb d_Hart_execute_119 rfl (lv_at hl 0 rfl) ?_
      refine xi (wr := []) (W2 := fun u9 => wH a k n id u9) (xV (rest := []) ⟨hx, hb, hml, hown, hts⟩ (c_Hart_goOn a k n id σ hn hid) mw_Hart_goOn mv_Hart_goOn k_390 ⟨rfl, rfl, Nat.le_of_ble_eq_true rfl, Nat.le_of_ble_eq_true rfl⟩ hK hP hD hS hA hF [0, 1, 2, 3, 4, 5, 6, 7, 8] [0, 1, 2, 3, 4] rfl rfl rfl 6 4 rfl rfl rfl rfl hl.1 rfl (Nat.le_of_ble_eq_true rfl) d_Hart_execute_120 ⟨Nat.zero_le _, Nat.zero_le _⟩) hP hD hS hA [0, 1, 2, 3, 4, 5, 6, 7, 8] [] [0, 1, 2, 3, 4, 5, 6, 7, 8] rfl rfl rfl (by decide) (fun _ => rfl) rfl (fun r_4 u_4 H locs h_4 hP hD hS => ?_)
      exact ri u_4 hx hb hr hlocks hP hD hS d_Hart_execute_123 (by simp only [sp_Hart_execute, h_4, if_neg c_1, if_pos c_3])
    · by_cases c_5 : (x0 &&& 127) = 19
      · refine lv_lookup (off := 120) (tgt := 124) hx hb d_Hart_execute_4 rfl (by rw [c_5]; rfl) (by decide) ?_
        refine lv_aload_n hx hb d_Hart_execute_124 rfl (lv_at hl 0 rfl) ?_
        refine lv_iload_n hx hb d_Hart_execute_125 rfl (lv_at hl 1 rfl) ?_
        refine xi (wr := []) (W2 := fun u9 => wH a k n id u9) (xV (rest := []) ⟨hx, hb, hml, hown, hts⟩ (c_Hart_computeWithImmediate a k n id x0 σ hn hid) mw_Hart_computeWithImmediate mv_Hart_computeWithImmediate k_394 ⟨rfl, rfl, Nat.le_of_ble_eq_true rfl, Nat.le_of_ble_eq_true rfl⟩ hK hP hD hS hA hF [0, 1, 2, 3, 4, 5, 6, 7, 8] [0, 1, 2, 3, 4] rfl rfl rfl 6 4 rfl rfl rfl rfl hl.1 rfl (Nat.le_of_ble_eq_true rfl) d_Hart_execute_126 ⟨Nat.zero_le _, Nat.zero_le _⟩) hP hD hS hA [0, 1, 2, 3, 4, 5, 6, 7, 8] [] [0, 1, 2, 3, 4, 5, 6, 7, 8] rfl rfl rfl (by decide) (fun _ => rfl) rfl (fun r_6 u_6 H locs h_6 hP hD hS => ?_)
        exact ri u_6 hx hb hr hlocks hP hD hS d_Hart_execute_129 (by simp only [sp_Hart_execute, h_6, if_neg c_1, if_neg c_3, if_pos c_5])
      · by_cases c_7 : (x0 &&& 127) = 23
        · refine lv_lookup (off := 126) (tgt := 130) hx hb d_Hart_execute_4 rfl (by rw [c_7]; rfl) (by decide) ?_
          refine lv_aload_n hx hb d_Hart_execute_130 rfl (lv_at hl 0 rfl) ?_
          refine lv_iload_n hx hb d_Hart_execute_131 rfl (lv_at hl 1 rfl) ?_
          refine lv_aload_n hx hb d_Hart_execute_132 rfl (lv_at hl 0 rfl) ?_
          refine va_get (D := D) (ci := 4) (v := .int σ.2.2.1) (C := R_Hart) (T := F_Hart) (N := 6) hx hb hts i_Hart hown hK hP 6 rfl rfl 3 (by decide) (hts _ k_148) (fun _ h9 => h9) rfl d_Hart_execute_133 ?_
          refine lv_iload_n hx hb d_Hart_execute_136 rfl (lv_at hl 1 rfl) ?_
          refine xi (wr := [((a 0), .inr (1, [.ref (a 3), .ref (a 1), .ref (a 4), .int σ.1.2.2.2.1, .ref (a 5)])), ((a 1), .inr (2, [.ref (a 2)])), ((a 2), .inl ((k 0), 8, .inl σ.1.1)), ((a 3), .inl ((k 1), n, .inl σ.1.2.1)), ((a 4), .inl ((k 2), 256, .inl σ.1.2.2.1)), ((a 5), .inl ((k 3), 2, .inr (.inl σ.1.2.2.2.2))), ((a 6), .inr (4, [.int id, .ref (a 7), .ref (a 8), .int σ.2.2.1, .int σ.2.2.2.1, .int σ.2.2.2.2.1])), ((a 7), .inl ((k 4), 32, .inl σ.2.1)), ((a 8), .inr (3, csF σ.2.2.2.2.2))]) (W2 := fun _ => wH a k n id σ) (xS (rest := [.int σ.2.2.1, .int x0, .ref (a 6)]) ⟨hx, hb, hml, hown, hts⟩ (c_Field_upper x0) mw_Field_upper ms_Field_upper k_408 ⟨rfl, rfl, Nat.le_of_ble_eq_true rfl, Nat.le_of_ble_eq_true rfl⟩ hK hP hD hS hA hF [] [] rfl rfl rfl rfl hl.1 rfl (Nat.le_of_ble_eq_true rfl) d_Hart_execute_137 ⟨Nat.zero_le _, Nat.zero_le _⟩) hP hD hS hA [] [0, 1, 2, 3, 4, 5, 6, 7, 8] [0, 1, 2, 3, 4, 5, 6, 7, 8] rfl rfl rfl (by decide) (fun _ => rfl) rfl (fun r_8 _ H locs h_8 hP hD hS => ?_)
          subst h_8
          refine lv_iadd hx hb d_Hart_execute_140 ?_
          refine xi (wr := []) (W2 := fun u9 => wH a k n id u9) (xV (rest := []) ⟨hx, hb, hml, hown, hts⟩ (c_Hart_finish a k n id x0 (σ.2.2.1 + (sp_Field_upper x0)) σ hn hid) mw_Hart_finish mv_Hart_finish k_379 ⟨rfl, rfl, Nat.le_of_ble_eq_true rfl, Nat.le_of_ble_eq_true rfl⟩ hK hP hD hS hA hF [0, 1, 2, 3, 4, 5, 6, 7, 8] [0, 1, 2, 3, 4] rfl rfl rfl 6 4 rfl rfl rfl rfl hl.1 rfl (Nat.le_of_ble_eq_true rfl) d_Hart_execute_141 ⟨Nat.zero_le _, Nat.zero_le _⟩) hP hD hS hA [0, 1, 2, 3, 4, 5, 6, 7, 8] [] [0, 1, 2, 3, 4, 5, 6, 7, 8] rfl rfl rfl (by decide) (fun _ => rfl) rfl (fun r_9 u_9 H locs h_9 hP hD hS => ?_)
          exact ri u_9 hx hb hr hlocks hP hD hS d_Hart_execute_144 (by simp only [sp_Hart_execute, h_9, if_neg c_1, if_neg c_3, if_neg c_5, if_pos c_7])
        · by_cases c_10 : (x0 &&& 127) = 35
          · refine lv_lookup (off := 141) (tgt := 145) hx hb d_Hart_execute_4 rfl (by rw [c_10]; rfl) (by decide) ?_
            refine lv_aload_n hx hb d_Hart_execute_145 rfl (lv_at hl 0 rfl) ?_
            refine lv_iload_n hx hb d_Hart_execute_146 rfl (lv_at hl 1 rfl) ?_
            refine lv_aload_n hx hb d_Hart_execute_147 rfl (lv_at hl 2 rfl) ?_
            refine xi (wr := []) (W2 := fun u9 => wH a k n id u9) (xV (rest := []) ⟨hx, hb, hml, hown, hts⟩ (c_Hart_store a k n id x0 σ hn hid hp) mw_Hart_store mv_Hart_store k_411 ⟨rfl, rfl, Nat.le_of_ble_eq_true rfl, Nat.le_of_ble_eq_true rfl⟩ hK hP hD hS hA hF [0, 1, 2, 3, 4, 5, 6, 7, 8] [0, 1, 2, 3, 4] rfl rfl rfl 6 4 rfl rfl rfl rfl hl.1 rfl (Nat.le_of_ble_eq_true rfl) d_Hart_execute_148 ⟨Nat.zero_le _, Nat.zero_le _⟩) hP hD hS hA [0, 1, 2, 3, 4, 5, 6, 7, 8] [] [0, 1, 2, 3, 4, 5, 6, 7, 8] rfl rfl rfl (by decide) (fun _ => rfl) rfl (fun r_11 u_11 H locs h_11 hP hD hS => ?_)
            exact ri u_11 hx hb hr hlocks hP hD hS d_Hart_execute_151 (by simp only [sp_Hart_execute, h_11, if_neg c_1, if_neg c_3, if_neg c_5, if_neg c_7, if_pos c_10])
          · by_cases c_12 : (x0 &&& 127) = 47
            · refine lv_lookup (off := 148) (tgt := 152) hx hb d_Hart_execute_4 rfl (by rw [c_12]; rfl) (by decide) ?_
              refine lv_aload_n hx hb d_Hart_execute_152 rfl (lv_at hl 0 rfl) ?_
              refine lv_iload_n hx hb d_Hart_execute_153 rfl (lv_at hl 1 rfl) ?_
              refine lv_aload_n hx hb d_Hart_execute_154 rfl (lv_at hl 2 rfl) ?_
              refine xi (wr := []) (W2 := fun u9 => wH a k n id u9) (xV (rest := []) ⟨hx, hb, hml, hown, hts⟩ (c_Hart_changeAtOnce a k n id x0 σ hn hid hp) mw_Hart_changeAtOnce mv_Hart_changeAtOnce k_434 ⟨rfl, rfl, Nat.le_of_ble_eq_true rfl, Nat.le_of_ble_eq_true rfl⟩ hK hP hD hS hA hF [0, 1, 2, 3, 4, 5, 6, 7, 8] [0, 1, 2, 3, 4] rfl rfl rfl 6 4 rfl rfl rfl rfl hl.1 rfl (Nat.le_of_ble_eq_true rfl) d_Hart_execute_155 ⟨Nat.zero_le _, Nat.zero_le _⟩) hP hD hS hA [0, 1, 2, 3, 4, 5, 6, 7, 8] [] [0, 1, 2, 3, 4, 5, 6, 7, 8] rfl rfl rfl (by decide) (fun _ => rfl) rfl (fun r_13 u_13 H locs h_13 hP hD hS => ?_)
              exact ri u_13 hx hb hr hlocks hP hD hS d_Hart_execute_158 (by simp only [sp_Hart_execute, h_13, if_neg c_1, if_neg c_3, if_neg c_5, if_neg c_7, if_neg c_10, if_pos c_12])
            · by_cases c_14 : (x0 &&& 127) = 51
              · refine lv_lookup (off := 155) (tgt := 159) hx hb d_Hart_execute_4 rfl (by rw [c_14]; rfl) (by decide) ?_
                refine lv_aload_n hx hb d_Hart_execute_159 rfl (lv_at hl 0 rfl) ?_
                refine lv_iload_n hx hb d_Hart_execute_160 rfl (lv_at hl 1 rfl) ?_
                refine xi (wr := []) (W2 := fun u9 => wH a k n id u9) (xV (rest := []) ⟨hx, hb, hml, hown, hts⟩ (c_Hart_compute a k n id x0 σ hn hid) mw_Hart_compute mv_Hart_compute k_459 ⟨rfl, rfl, Nat.le_of_ble_eq_true rfl, Nat.le_of_ble_eq_true rfl⟩ hK hP hD hS hA hF [0, 1, 2, 3, 4, 5, 6, 7, 8] [0, 1, 2, 3, 4] rfl rfl rfl 6 4 rfl rfl rfl rfl hl.1 rfl (Nat.le_of_ble_eq_true rfl) d_Hart_execute_161 ⟨Nat.zero_le _, Nat.zero_le _⟩) hP hD hS hA [0, 1, 2, 3, 4, 5, 6, 7, 8] [] [0, 1, 2, 3, 4, 5, 6, 7, 8] rfl rfl rfl (by decide) (fun _ => rfl) rfl (fun r_15 u_15 H locs h_15 hP hD hS => ?_)
                exact ri u_15 hx hb hr hlocks hP hD hS d_Hart_execute_164 (by simp only [sp_Hart_execute, h_15, if_neg c_1, if_neg c_3, if_neg c_5, if_neg c_7, if_neg c_10, if_neg c_12, if_pos c_14])
              · by_cases c_16 : (x0 &&& 127) = 55
                · refine lv_lookup (off := 161) (tgt := 165) hx hb d_Hart_execute_4 rfl (by rw [c_16]; rfl) (by decide) ?_
                  refine lv_aload_n hx hb d_Hart_execute_165 rfl (lv_at hl 0 rfl) ?_
                  refine lv_iload_n hx hb d_Hart_execute_166 rfl (lv_at hl 1 rfl) ?_
                  refine lv_iload_n hx hb d_Hart_execute_167 rfl (lv_at hl 1 rfl) ?_
                  refine xi (wr := [((a 0), .inr (1, [.ref (a 3), .ref (a 1), .ref (a 4), .int σ.1.2.2.2.1, .ref (a 5)])), ((a 1), .inr (2, [.ref (a 2)])), ((a 2), .inl ((k 0), 8, .inl σ.1.1)), ((a 3), .inl ((k 1), n, .inl σ.1.2.1)), ((a 4), .inl ((k 2), 256, .inl σ.1.2.2.1)), ((a 5), .inl ((k 3), 2, .inr (.inl σ.1.2.2.2.2))), ((a 6), .inr (4, [.int id, .ref (a 7), .ref (a 8), .int σ.2.2.1, .int σ.2.2.2.1, .int σ.2.2.2.2.1])), ((a 7), .inl ((k 4), 32, .inl σ.2.1)), ((a 8), .inr (3, csF σ.2.2.2.2.2))]) (W2 := fun _ => wH a k n id σ) (xS (rest := [.int x0, .ref (a 6)]) ⟨hx, hb, hml, hown, hts⟩ (c_Field_upper x0) mw_Field_upper ms_Field_upper k_408 ⟨rfl, rfl, Nat.le_of_ble_eq_true rfl, Nat.le_of_ble_eq_true rfl⟩ hK hP hD hS hA hF [] [] rfl rfl rfl rfl hl.1 rfl (Nat.le_of_ble_eq_true rfl) d_Hart_execute_168 ⟨Nat.zero_le _, Nat.zero_le _⟩) hP hD hS hA [] [0, 1, 2, 3, 4, 5, 6, 7, 8] [0, 1, 2, 3, 4, 5, 6, 7, 8] rfl rfl rfl (by decide) (fun _ => rfl) rfl (fun r_17 _ H locs h_17 hP hD hS => ?_)
                  subst h_17
                  refine xi (wr := []) (W2 := fun u9 => wH a k n id u9) (xV (rest := []) ⟨hx, hb, hml, hown, hts⟩ (c_Hart_finish a k n id x0 (sp_Field_upper x0) σ hn hid) mw_Hart_finish mv_Hart_finish k_379 ⟨rfl, rfl, Nat.le_of_ble_eq_true rfl, Nat.le_of_ble_eq_true rfl⟩ hK hP hD hS hA hF [0, 1, 2, 3, 4, 5, 6, 7, 8] [0, 1, 2, 3, 4] rfl rfl rfl 6 4 rfl rfl rfl rfl hl.1 rfl (Nat.le_of_ble_eq_true rfl) d_Hart_execute_171 ⟨Nat.zero_le _, Nat.zero_le _⟩) hP hD hS hA [0, 1, 2, 3, 4, 5, 6, 7, 8] [] [0, 1, 2, 3, 4, 5, 6, 7, 8] rfl rfl rfl (by decide) (fun _ => rfl) rfl (fun r_18 u_18 H locs h_18 hP hD hS => ?_)
                  exact ri u_18 hx hb hr hlocks hP hD hS d_Hart_execute_174 (by simp only [sp_Hart_execute, h_18, if_neg c_1, if_neg c_3, if_neg c_5, if_neg c_7, if_neg c_10, if_neg c_12, if_neg c_14, if_pos c_16])
                · by_cases c_19 : (x0 &&& 127) = 99
                  · refine lv_lookup (off := 171) (tgt := 175) hx hb d_Hart_execute_4 rfl (by rw [c_19]; rfl) (by decide) ?_
                    refine lv_aload_n hx hb d_Hart_execute_175 rfl (lv_at hl 0 rfl) ?_
                    refine lv_iload_n hx hb d_Hart_execute_176 rfl (lv_at hl 1 rfl) ?_
                    refine xi (wr := []) (W2 := fun u9 => wH a k n id u9) (xV (rest := []) ⟨hx, hb, hml, hown, hts⟩ (c_Hart_branch a k n id x0 σ hn hid) mw_Hart_branch mv_Hart_branch k_470 ⟨rfl, rfl, Nat.le_of_ble_eq_true rfl, Nat.le_of_ble_eq_true rfl⟩ hK hP hD hS hA hF [0, 1, 2, 3, 4, 5, 6, 7, 8] [0, 1, 2, 3, 4] rfl rfl rfl 6 4 rfl rfl rfl rfl hl.1 rfl (Nat.le_of_ble_eq_true rfl) d_Hart_execute_177 ⟨Nat.zero_le _, Nat.zero_le _⟩) hP hD hS hA [0, 1, 2, 3, 4, 5, 6, 7, 8] [] [0, 1, 2, 3, 4, 5, 6, 7, 8] rfl rfl rfl (by decide) (fun _ => rfl) rfl (fun r_20 u_20 H locs h_20 hP hD hS => ?_)
                    exact ri u_20 hx hb hr hlocks hP hD hS d_Hart_execute_180 (by simp only [sp_Hart_execute, h_20, if_neg c_1, if_neg c_3, if_neg c_5, if_neg c_7, if_neg c_10, if_neg c_12, if_neg c_14, if_neg c_16, if_pos c_19])
                  · by_cases c_21 : (x0 &&& 127) = 103
                    · refine lv_lookup (off := 177) (tgt := 181) hx hb d_Hart_execute_4 rfl (by rw [c_21]; rfl) (by decide) ?_
                      refine lv_aload_n hx hb d_Hart_execute_181 rfl (lv_at hl 0 rfl) ?_
                      refine lv_iload_n hx hb d_Hart_execute_182 rfl (lv_at hl 1 rfl) ?_
                      refine xi (wr := []) (W2 := fun u9 => wH a k n id u9) (xV (rest := []) ⟨hx, hb, hml, hown, hts⟩ (c_Hart_jumpByRegister a k n id x0 σ hn hid) mw_Hart_jumpByRegister mv_Hart_jumpByRegister k_480 ⟨rfl, rfl, Nat.le_of_ble_eq_true rfl, Nat.le_of_ble_eq_true rfl⟩ hK hP hD hS hA hF [0, 1, 2, 3, 4, 5, 6, 7, 8] [0, 1, 2, 3, 4] rfl rfl rfl 6 4 rfl rfl rfl rfl hl.1 rfl (Nat.le_of_ble_eq_true rfl) d_Hart_execute_183 ⟨Nat.zero_le _, Nat.zero_le _⟩) hP hD hS hA [0, 1, 2, 3, 4, 5, 6, 7, 8] [] [0, 1, 2, 3, 4, 5, 6, 7, 8] rfl rfl rfl (by decide) (fun _ => rfl) rfl (fun r_22 u_22 H locs h_22 hP hD hS => ?_)
                      exact ri u_22 hx hb hr hlocks hP hD hS d_Hart_execute_186 (by simp only [sp_Hart_execute, h_22, if_neg c_1, if_neg c_3, if_neg c_5, if_neg c_7, if_neg c_10, if_neg c_12, if_neg c_14, if_neg c_16, if_neg c_19, if_pos c_21])
                    · by_cases c_23 : (x0 &&& 127) = 111
                      · refine lv_lookup (off := 183) (tgt := 187) hx hb d_Hart_execute_4 rfl (by rw [c_23]; rfl) (by decide) ?_
                        refine lv_aload_n hx hb d_Hart_execute_187 rfl (lv_at hl 0 rfl) ?_
                        refine lv_iload_n hx hb d_Hart_execute_188 rfl (lv_at hl 1 rfl) ?_
                        refine lv_aload_n hx hb d_Hart_execute_189 rfl (lv_at hl 0 rfl) ?_
                        refine va_get (D := D) (ci := 4) (v := .int σ.2.2.1) (C := R_Hart) (T := F_Hart) (N := 6) hx hb hts i_Hart hown hK hP 6 rfl rfl 3 (by decide) (hts _ k_148) (fun _ h9 => h9) rfl d_Hart_execute_190 ?_
                        refine lv_iload_n hx hb d_Hart_execute_193 rfl (lv_at hl 1 rfl) ?_
                        refine xi (wr := [((a 0), .inr (1, [.ref (a 3), .ref (a 1), .ref (a 4), .int σ.1.2.2.2.1, .ref (a 5)])), ((a 1), .inr (2, [.ref (a 2)])), ((a 2), .inl ((k 0), 8, .inl σ.1.1)), ((a 3), .inl ((k 1), n, .inl σ.1.2.1)), ((a 4), .inl ((k 2), 256, .inl σ.1.2.2.1)), ((a 5), .inl ((k 3), 2, .inr (.inl σ.1.2.2.2.2))), ((a 6), .inr (4, [.int id, .ref (a 7), .ref (a 8), .int σ.2.2.1, .int σ.2.2.2.1, .int σ.2.2.2.2.1])), ((a 7), .inl ((k 4), 32, .inl σ.2.1)), ((a 8), .inr (3, csF σ.2.2.2.2.2))]) (W2 := fun _ => wH a k n id σ) (xS (rest := [.int σ.2.2.1, .int x0, .ref (a 6)]) ⟨hx, hb, hml, hown, hts⟩ (c_Field_jumpOffset x0) mw_Field_jumpOffset ms_Field_jumpOffset k_488 ⟨rfl, rfl, Nat.le_of_ble_eq_true rfl, Nat.le_of_ble_eq_true rfl⟩ hK hP hD hS hA hF [] [] rfl rfl rfl rfl hl.1 rfl (Nat.le_of_ble_eq_true rfl) d_Hart_execute_194 ⟨Nat.zero_le _, Nat.zero_le _⟩) hP hD hS hA [] [0, 1, 2, 3, 4, 5, 6, 7, 8] [0, 1, 2, 3, 4, 5, 6, 7, 8] rfl rfl rfl (by decide) (fun _ => rfl) rfl (fun r_24 _ H locs h_24 hP hD hS => ?_)
                        subst h_24
                        refine lv_iadd hx hb d_Hart_execute_197 ?_
                        refine xi (wr := []) (W2 := fun u9 => wH a k n id u9) (xV (rest := []) ⟨hx, hb, hml, hown, hts⟩ (c_Hart_jump a k n id x0 (σ.2.2.1 + (sp_Field_jumpOffset x0)) σ hn hid) mw_Hart_jump mv_Hart_jump k_484 ⟨rfl, rfl, Nat.le_of_ble_eq_true rfl, Nat.le_of_ble_eq_true rfl⟩ hK hP hD hS hA hF [0, 1, 2, 3, 4, 5, 6, 7, 8] [0, 1, 2, 3, 4] rfl rfl rfl 6 4 rfl rfl rfl rfl hl.1 rfl (Nat.le_of_ble_eq_true rfl) d_Hart_execute_198 ⟨Nat.zero_le _, Nat.zero_le _⟩) hP hD hS hA [0, 1, 2, 3, 4, 5, 6, 7, 8] [] [0, 1, 2, 3, 4, 5, 6, 7, 8] rfl rfl rfl (by decide) (fun _ => rfl) rfl (fun r_25 u_25 H locs h_25 hP hD hS => ?_)
                        exact ri u_25 hx hb hr hlocks hP hD hS d_Hart_execute_201 (by simp only [sp_Hart_execute, h_25, if_neg c_1, if_neg c_3, if_neg c_5, if_neg c_7, if_neg c_10, if_neg c_12, if_neg c_14, if_neg c_16, if_neg c_19, if_neg c_21, if_pos c_23])
                      · by_cases c_26 : (x0 &&& 127) = 115
                        · refine lv_lookup (off := 198) (tgt := 202) hx hb d_Hart_execute_4 rfl (by rw [c_26]; rfl) (by decide) ?_
                          refine lv_iload_n hx hb d_Hart_execute_202 rfl (lv_at hl 1 rfl) ?_
                          refine xi (wr := [((a 0), .inr (1, [.ref (a 3), .ref (a 1), .ref (a 4), .int σ.1.2.2.2.1, .ref (a 5)])), ((a 1), .inr (2, [.ref (a 2)])), ((a 2), .inl ((k 0), 8, .inl σ.1.1)), ((a 3), .inl ((k 1), n, .inl σ.1.2.1)), ((a 4), .inl ((k 2), 256, .inl σ.1.2.2.1)), ((a 5), .inl ((k 3), 2, .inr (.inl σ.1.2.2.2.2))), ((a 6), .inr (4, [.int id, .ref (a 7), .ref (a 8), .int σ.2.2.1, .int σ.2.2.2.1, .int σ.2.2.2.2.1])), ((a 7), .inl ((k 4), 32, .inl σ.2.1)), ((a 8), .inr (3, csF σ.2.2.2.2.2))]) (W2 := fun _ => wH a k n id σ) (xS (rest := []) ⟨hx, hb, hml, hown, hts⟩ (c_Field_f3 x0) mw_Field_f3 ms_Field_f3 k_353 ⟨rfl, rfl, Nat.le_of_ble_eq_true rfl, Nat.le_of_ble_eq_true rfl⟩ hK hP hD hS hA hF [] [] rfl rfl rfl rfl hl.1 rfl (Nat.le_of_ble_eq_true rfl) d_Hart_execute_203 ⟨Nat.zero_le _, Nat.zero_le _⟩) hP hD hS hA [] [0, 1, 2, 3, 4, 5, 6, 7, 8] [0, 1, 2, 3, 4, 5, 6, 7, 8] rfl rfl rfl (by decide) (fun _ => rfl) rfl (fun r_27 _ H locs h_27 hP hD hS => ?_)
                          subst h_27
                          refine lv_if_ne (tgt := 217) hx hb d_Hart_execute_206 (by decide) (fun c_28 => ?_) (fun c_28 => ?_)
                          · refine lv_aload_n hx hb d_Hart_execute_217 rfl (lv_at hl 0 rfl) ?_
                            refine lv_iload_n hx hb d_Hart_execute_218 rfl (lv_at hl 1 rfl) ?_
                            refine lv_aload_n hx hb d_Hart_execute_219 rfl (lv_at hl 2 rfl) ?_
                            refine xi (wr := []) (W2 := fun u9 => wH a k n id u9) (xV (rest := []) ⟨hx, hb, hml, hown, hts⟩ (c_Hart_exchange a k n id x0 σ hn hid) mw_Hart_exchange mv_Hart_exchange k_514 ⟨rfl, rfl, Nat.le_of_ble_eq_true rfl, Nat.le_of_ble_eq_true rfl⟩ hK hP hD hS hA hF [0, 1, 2, 3, 4, 5, 6, 7, 8] [0, 1, 2, 3, 4] rfl rfl rfl 6 4 rfl rfl rfl rfl hl.1 rfl (Nat.le_of_ble_eq_true rfl) d_Hart_execute_220 ⟨Nat.zero_le _, Nat.zero_le _⟩) hP hD hS hA [0, 1, 2, 3, 4, 5, 6, 7, 8] [] [0, 1, 2, 3, 4, 5, 6, 7, 8] rfl rfl rfl (by decide) (fun _ => rfl) rfl (fun r_29 u_29 H locs h_29 hP hD hS => ?_)
                            exact ri u_29 hx hb hr hlocks hP hD hS d_Hart_execute_223 (by simp only [sp_Hart_execute, h_29, if_neg c_1, if_neg c_3, if_neg c_5, if_neg c_7, if_neg c_10, if_neg c_12, if_neg c_14, if_neg c_16, if_neg c_19, if_neg c_21, if_neg c_23, if_pos c_26, if_neg c_28])
                          · refine lv_aload_n hx hb d_Hart_execute_209 rfl (lv_at hl 0 rfl) ?_
                            refine lv_iload_n hx hb d_Hart_execute_210 rfl (lv_at hl 1 rfl) ?_
                            refine xi (wr := []) (W2 := fun u9 => wH a k n id u9) (xV (rest := []) ⟨hx, hb, hml, hown, hts⟩ (c_Hart_callSystem a k n id x0 σ hn hid) mw_Hart_callSystem mv_Hart_callSystem k_492 ⟨rfl, rfl, Nat.le_of_ble_eq_true rfl, Nat.le_of_ble_eq_true rfl⟩ hK hP hD hS hA hF [0, 1, 2, 3, 4, 5, 6, 7, 8] [0, 1, 2, 3, 4] rfl rfl rfl 6 4 rfl rfl rfl rfl hl.1 rfl (Nat.le_of_ble_eq_true rfl) d_Hart_execute_211 ⟨Nat.zero_le _, Nat.zero_le _⟩) hP hD hS hA [0, 1, 2, 3, 4, 5, 6, 7, 8] [] [0, 1, 2, 3, 4, 5, 6, 7, 8] rfl rfl rfl (by decide) (fun _ => rfl) rfl (fun r_30 u_30 H locs h_30 hP hD hS => ?_)
                            refine lv_goto (tgt := 223) hx hb d_Hart_execute_214 (by decide) ?_
                            exact ri u_30 hx hb hr hlocks hP hD hS d_Hart_execute_223 (by simp only [sp_Hart_execute, h_30, if_neg c_1, if_neg c_3, if_neg c_5, if_neg c_7, if_neg c_10, if_neg c_12, if_neg c_14, if_neg c_16, if_neg c_19, if_neg c_21, if_neg c_23, if_pos c_26, if_pos c_28])
                        · refine lv_lookup (off := 220) (tgt := 224) hx hb d_Hart_execute_4 rfl ((lv_osw (a := 3) c_1 rfl).trans ((lv_osw (a := 15) c_3 rfl).trans ((lv_osw (a := 19) c_5 rfl).trans ((lv_osw (a := 23) c_7 rfl).trans ((lv_osw (a := 35) c_10 rfl).trans ((lv_osw (a := 47) c_12 rfl).trans ((lv_osw (a := 51) c_14 rfl).trans ((lv_osw (a := 55) c_16 rfl).trans ((lv_osw (a := 99) c_19 rfl).trans ((lv_osw (a := 103) c_21 rfl).trans ((lv_osw (a := 111) c_23 rfl).trans ((lv_osw (a := 115) c_26 rfl).trans (rfl))))))))))))) (by decide) ?_
                          refine lv_aload_n hx hb d_Hart_execute_224 rfl (lv_at hl 0 rfl) ?_
                          refine lv_iload_n hx hb d_Hart_execute_225 rfl (lv_at hl 1 rfl) ?_
                          refine xi (wr := []) (W2 := fun u9 => wH a k n id u9) (xV (rest := []) ⟨hx, hb, hml, hown, hts⟩ (c_Hart_illegal a k n id x0 σ hn hid) mw_Hart_illegal mv_Hart_illegal k_356 ⟨rfl, rfl, Nat.le_of_ble_eq_true rfl, Nat.le_of_ble_eq_true rfl⟩ hK hP hD hS hA hF [0, 1, 2, 3, 4, 5, 6, 7, 8] [0, 1, 2, 3, 4] rfl rfl rfl 6 4 rfl rfl rfl rfl hl.1 rfl (Nat.le_of_ble_eq_true rfl) d_Hart_execute_226 ⟨Nat.zero_le _, Nat.zero_le _⟩) hP hD hS hA [0, 1, 2, 3, 4, 5, 6, 7, 8] [] [0, 1, 2, 3, 4, 5, 6, 7, 8] rfl rfl rfl (by decide) (fun _ => rfl) rfl (fun r_31 u_31 H locs h_31 hP hD hS => ?_)
                          exact ri u_31 hx hb hr hlocks hP hD hS d_Hart_execute_229 (by simp only [sp_Hart_execute, h_31, if_neg c_1, if_neg c_3, if_neg c_5, if_neg c_7, if_neg c_10, if_neg c_12, if_neg c_14, if_neg c_16, if_neg c_19, if_neg c_21, if_neg c_23, if_neg c_26])
def sp_Hart_run (n : Nat) (id : Int32)  (σ : TH) : Int32 × TH :=
  if (sp_Csrs_dueInterrupt σ.2.2.2.1 (sp_Clint_lines id σ.1.1) σ.2.2.2.2.2) = (-1) then
    if 0 ≤ (sp_Hart_locate n id σ.2.2.1 4 0 σ) then
      let r_7 := (sp_Hart_execute n id (sp_Memory_wordAt n (sp_Hart_locate n id σ.2.2.1 4 0 σ) σ.1) σ).1
      let u_7 := (sp_Hart_execute n id (sp_Memory_wordAt n (sp_Hart_locate n id σ.2.2.1 4 0 σ) σ.1) σ).2
      if r_7 = 0 then
        (r_7, u_7)
      else
        if 3 ≤ u_7.2.2.2.1 then
          let u_10 := sp_Hart_take n id (r_7 - 1) u_7.2.2.2.2.1 0 u_7
          (r_7, u_10)
        else
          if (sp_Csrs_handsDownTrap (r_7 - 1) u_7.2.2.2.2.2) = 0 then
            let u_13 := sp_Hart_take n id (r_7 - 1) u_7.2.2.2.2.1 0 u_7
            (r_7, u_13)
          else
            let u_14 := sp_Hart_take n id (r_7 - 1) u_7.2.2.2.2.1 1 u_7
            (r_7, u_14)
    else
      let r_15 := (sp_Hart_fault n id (sp_Hart_locate n id σ.2.2.1 4 0 σ) σ.2.2.1 σ).1
      let u_15 := (sp_Hart_fault n id (sp_Hart_locate n id σ.2.2.1 4 0 σ) σ.2.2.1 σ).2
      if r_15 = 0 then
        (r_15, u_15)
      else
        if 3 ≤ u_15.2.2.2.1 then
          let u_18 := sp_Hart_take n id (r_15 - 1) u_15.2.2.2.2.1 0 u_15
          (r_15, u_18)
        else
          if (sp_Csrs_handsDownTrap (r_15 - 1) u_15.2.2.2.2.2) = 0 then
            let u_21 := sp_Hart_take n id (r_15 - 1) u_15.2.2.2.2.1 0 u_15
            (r_15, u_21)
          else
            let u_22 := sp_Hart_take n id (r_15 - 1) u_15.2.2.2.2.1 1 u_15
            (r_15, u_22)
  else
    let u_24 := sp_Hart_take n id ((-2147483648) ||| (sp_Csrs_dueInterrupt σ.2.2.2.1 (sp_Clint_lines id σ.1.1) σ.2.2.2.2.2)) 0 (sp_Csrs_handsDownInterrupt (sp_Csrs_dueInterrupt σ.2.2.2.1 (sp_Clint_lines id σ.1.1) σ.2.2.2.2.2) σ.2.2.2.2.2) σ
    (64 + (sp_Csrs_dueInterrupt σ.2.2.2.1 (sp_Clint_lines id σ.1.1) σ.2.2.2.2.2), u_24)
set_option maxHeartbeats 4000000 in
set_option maxRecDepth 100000 in
theorem c_Hart_run {l : Launch} {D : va_G} {g : Nat → Nat} (a : Nat → Nat) (k : Nat → ClassId) (n : Nat) (id : Int32)  (σ : TH) (hn : n ≤ 4096) (hid : id = 0 ∨ id = 1) (hp : 0 ≤ σ.1.2.2.2.1) : CT l D g y_Hart_run b_Hart_run 7 (some .int) (rD 6) [.ref (a 6), .ref (a 0)] (wH a k n id σ) (tyH k) (Qi D (fun (r : Int32) (u : TH) => sp_Hart_run n id σ = (r, u)) (fun u => wH a k n id u)) := by
  refine CT.of rfl (Nat.le_of_ble_eq_true rfl) (fun p e s m below meth c A ls hx hb hr hml hts hown hlocks hA hP hK hD hF hS hl => ?_)
  have hl : lv_has ls 7 [(0, .ref (a 6)), (1, .ref (a 0))] := hl
  refine lv_aload_n hx hb d_Hart_run_0 rfl (lv_at hl 0 rfl) ?_
  refine va_get (D := D) (ci := 4) (v := .ref (a 8)) (C := R_Hart) (T := F_Hart) (N := 6) hx hb hts i_Hart hown hK hP 6 rfl rfl 2 (by decide) (hts _ k_146) (fun _ h9 => h9) rfl d_Hart_run_1 ?_
  refine lv_aload_n hx hb d_Hart_run_4 rfl (lv_at hl 0 rfl) ?_
  refine va_get (D := D) (ci := 4) (v := .int σ.2.2.2.1) (C := R_Hart) (T := F_Hart) (N := 6) hx hb hts i_Hart hown hK hP 6 rfl rfl 4 (by decide) (hts _ k_150) (fun _ h9 => h9) rfl d_Hart_run_5 ?_
  refine lv_aload_n hx hb d_Hart_run_8 rfl (lv_at hl 1 rfl) ?_
  refine va_get (D := D) (ci := 1) (v := .ref (a 1)) (C := R_Memory) (T := F_Memory) (N := 5) hx hb hts i_Memory hown hK hP 0 rfl rfl 1 (by decide) (hts _ k_54) (fun _ h9 => h9) rfl d_Hart_run_9 ?_
  refine lv_aload_n hx hb d_Hart_run_12 rfl (lv_at hl 0 rfl) ?_
  refine va_get (D := D) (ci := 4) (v := .int id) (C := R_Hart) (T := F_Hart) (N := 6) hx hb hts i_Hart hown hK hP 6 rfl rfl 0 (by decide) (hts _ k_143) (fun _ h9 => h9) rfl d_Hart_run_13 ?_
  refine xi (wr := [((a 0), .inr (1, [.ref (a 3), .ref (a 1), .ref (a 4), .int σ.1.2.2.2.1, .ref (a 5)])), ((a 3), .inl ((k 1), n, .inl σ.1.2.1)), ((a 4), .inl ((k 2), 256, .inl σ.1.2.2.1)), ((a 5), .inl ((k 3), 2, .inr (.inl σ.1.2.2.2.2))), ((a 6), .inr (4, [.int id, .ref (a 7), .ref (a 8), .int σ.2.2.1, .int σ.2.2.2.1, .int σ.2.2.2.2.1])), ((a 7), .inl ((k 4), 32, .inl σ.2.1)), ((a 8), .inr (3, csF σ.2.2.2.2.2))]) (W2 := fun _ => wH a k n id σ) (xV (rest := [.int σ.2.2.2.1, .ref (a 8)]) ⟨hx, hb, hml, hown, hts⟩ (c_Clint_lines a k id σ.1.1 hid) mw_Clint_lines mv_Clint_lines k_217 ⟨rfl, rfl, Nat.le_of_ble_eq_true rfl, Nat.le_of_ble_eq_true rfl⟩ hK hP hD hS hA hF [1, 2] [0] rfl rfl rfl 1 2 rfl rfl rfl rfl hl.1 rfl (Nat.le_of_ble_eq_true rfl) d_Hart_run_16 ⟨Nat.zero_le _, Nat.zero_le _⟩) hP hD hS hA [1, 2] [0, 3, 4, 5, 6, 7, 8] [0, 7, 8, 1, 2, 3, 4, 5, 6] rfl rfl rfl (by decide) (fun _ => rfl) rfl (fun r_1 _ H locs h_1 hP hD hS => ?_)
  subst h_1
  refine xi (wr := [((a 0), .inr (1, [.ref (a 3), .ref (a 1), .ref (a 4), .int σ.1.2.2.2.1, .ref (a 5)])), ((a 1), .inr (2, [.ref (a 2)])), ((a 2), .inl ((k 0), 8, .inl σ.1.1)), ((a 3), .inl ((k 1), n, .inl σ.1.2.1)), ((a 4), .inl ((k 2), 256, .inl σ.1.2.2.1)), ((a 5), .inl ((k 3), 2, .inr (.inl σ.1.2.2.2.2))), ((a 6), .inr (4, [.int id, .ref (a 7), .ref (a 8), .int σ.2.2.1, .int σ.2.2.2.1, .int σ.2.2.2.2.1])), ((a 7), .inl ((k 4), 32, .inl σ.2.1))]) (W2 := fun _ => wH a k n id σ) (xV (rest := []) ⟨hx, hb, hml, hown, hts⟩ (c_Csrs_dueInterrupt (a 8) σ.2.2.2.1 (sp_Clint_lines id σ.1.1) σ.2.2.2.2.2) mw_Csrs_dueInterrupt mv_Csrs_dueInterrupt k_229 ⟨rfl, rfl, Nat.le_of_ble_eq_true rfl, Nat.le_of_ble_eq_true rfl⟩ hK hP hD hS hA hF [8] [] rfl rfl rfl 8 3 rfl rfl rfl rfl hl.1 rfl (Nat.le_of_ble_eq_true rfl) d_Hart_run_19 ⟨Nat.zero_le _, Nat.zero_le _⟩) hP hD hS hA [8] [0, 1, 2, 3, 4, 5, 6, 7] [0, 1, 2, 3, 4, 5, 6, 7, 8] rfl rfl rfl (by decide) (fun _ => rfl) rfl (fun r_2 _ H locs h_2 hP hD hS => ?_)
  subst h_2
  refine lv_istore_n (lv' := [(2, .int (sp_Csrs_dueInterrupt σ.2.2.2.1 (sp_Clint_lines id σ.1.1) σ.2.2.2.2.2)), (0, .ref (a 6)), (1, .ref (a 0))]) hx hb d_Hart_run_22 rfl hl (by decide) rfl (fun ls hl => ?_)
  refine lv_iload_n hx hb d_Hart_run_23 rfl (lv_at hl 0 rfl) ?_
  refine lv_iconst (v := (-1)) hx hb d_Hart_run_24 rfl ?_
  refine lv_icmp_eq (tgt := 50) hx hb d_Hart_run_25 (by decide) (fun c_3 => ?_) (fun c_3 => ?_)
  · refine lv_aload_n hx hb d_Hart_run_50 rfl (lv_at hl 1 rfl) ?_
    refine lv_aload_n hx hb d_Hart_run_51 rfl (lv_at hl 1 rfl) ?_
    refine va_get (D := D) (ci := 4) (v := .int σ.2.2.1) (C := R_Hart) (T := F_Hart) (N := 6) hx hb hts i_Hart hown hK hP 6 rfl rfl 3 (by decide) (hts _ k_148) (fun _ h9 => h9) rfl d_Hart_run_52 ?_
    refine lv_iconst (v := 4) hx hb d_Hart_run_55 rfl ?_
    refine va_gets hx hb (hF.2.1.1 0 (by decide)).1 hS hown (hts _ k_258) (fun _ h9 => h9) d_Hart_run_56 ?_
    refine lv_aload_n hx hb d_Hart_run_59 rfl (lv_at hl 2 rfl) ?_
    refine xl (wr := []) (W2 := fun _ => wH a k n id σ) (xV (rest := []) ⟨hx, hb, hml, hown, hts⟩ (c_Hart_locate a k n id σ.2.2.1 4 0 σ hn hid (by decide)) mw_Hart_locate mv_Hart_locate k_260 ⟨rfl, rfl, Nat.le_of_ble_eq_true rfl, Nat.le_of_ble_eq_true rfl⟩ hK hP hD hS hA hF [0, 1, 2, 3, 4, 5, 6, 7, 8] [0, 1, 2, 3, 4] rfl rfl rfl 6 4 rfl rfl rfl rfl hl.1 rfl (Nat.le_of_ble_eq_true rfl) d_Hart_run_60 ⟨Nat.zero_le _, Nat.zero_le _⟩) hP hD hS hA [0, 1, 2, 3, 4, 5, 6, 7, 8] [] [0, 1, 2, 3, 4, 5, 6, 7, 8] rfl rfl rfl (by decide) (fun _ => rfl) rfl (fun r_4 _ H locs h_4 hP hD hS => ?_)
    subst h_4
    refine lv_lstore_n (lv' := [(3, .long (sp_Hart_locate n id σ.2.2.1 4 0 σ)), (2, .int (sp_Csrs_dueInterrupt σ.2.2.2.1 (sp_Clint_lines id σ.1.1) σ.2.2.2.2.2)), (0, .ref (a 6)), (1, .ref (a 0))]) hx hb d_Hart_run_63 rfl hl (by decide) rfl (fun ls hl => ?_)
    refine lv_lload_n hx hb d_Hart_run_64 rfl (lv_at hl 0 rfl) ?_
    refine lv_lconst (v := 0) hx hb d_Hart_run_65 rfl ?_
    refine W.lcmp hx hb d_Hart_run_66 ?_
    refine lv_if_ge (tgt := 82) hx hb d_Hart_run_67 (by decide) (fun b_5 => ?_) (fun b_5 => ?_)
    · have c_5 : 0 ≤ (sp_Hart_locate n id σ.2.2.1 4 0 σ) := (lg_cmp_ge _ _).mp b_5
      refine lv_aload_n hx hb d_Hart_run_82 rfl (lv_at hl 2 rfl) ?_
      refine lv_aload_n hx hb d_Hart_run_83 rfl (lv_at hl 3 rfl) ?_
      refine lv_lload_n hx hb d_Hart_run_84 rfl (lv_at hl 0 rfl) ?_
      refine xi (wr := [((a 6), .inr (4, [.int id, .ref (a 7), .ref (a 8), .int σ.2.2.1, .int σ.2.2.2.1, .int σ.2.2.2.2.1])), ((a 7), .inl ((k 4), 32, .inl σ.2.1)), ((a 8), .inr (3, csF σ.2.2.2.2.2))]) (W2 := fun _ => wH a k n id σ) (xV (rest := [.ref (a 6)]) ⟨hx, hb, hml, hown, hts⟩ (c_Memory_wordAt a k n (sp_Hart_locate n id σ.2.2.1 4 0 σ) σ.1 hn (vp_fetch hn c_5)) mw_Memory_wordAt mv_Memory_wordAt k_344 ⟨rfl, rfl, Nat.le_of_ble_eq_true rfl, Nat.le_of_ble_eq_true rfl⟩ hK hP hD hS hA hF [0, 1, 2, 3, 4, 5] [0, 1, 2, 3] rfl rfl rfl 0 1 rfl rfl rfl rfl hl.1 rfl (Nat.le_of_ble_eq_true rfl) d_Hart_run_85 ⟨Nat.zero_le _, Nat.zero_le _⟩) hP hD hS hA [0, 1, 2, 3, 4, 5] [6, 7, 8] [3, 4, 5, 6, 7, 8, 0, 1, 2] rfl rfl rfl (by decide) (fun _ => rfl) rfl (fun r_6 _ H locs h_6 hP hD hS => ?_)
      subst h_6
      refine lv_aload_n hx hb d_Hart_run_88 rfl (lv_at hl 3 rfl) ?_
      refine xi (wr := []) (W2 := fun u9 => wH a k n id u9) (xV (rest := []) ⟨hx, hb, hml, hown, hts⟩ (c_Hart_execute a k n id (sp_Memory_wordAt n (sp_Hart_locate n id σ.2.2.1 4 0 σ) σ.1) σ hn hid hp) mw_Hart_execute mv_Hart_execute k_345 ⟨rfl, rfl, Nat.le_of_ble_eq_true rfl, Nat.le_of_ble_eq_true rfl⟩ hK hP hD hS hA hF [0, 1, 2, 3, 4, 5, 6, 7, 8] [0, 1, 2, 3, 4] rfl rfl rfl 6 4 rfl rfl rfl rfl hl.1 rfl (Nat.le_of_ble_eq_true rfl) d_Hart_run_89 ⟨Nat.zero_le _, Nat.zero_le _⟩) hP hD hS hA [0, 1, 2, 3, 4, 5, 6, 7, 8] [] [0, 1, 2, 3, 4, 5, 6, 7, 8] rfl rfl rfl (by decide) (fun _ => rfl) rfl (fun r_7 u_7 H locs h_7 hP hD hS => ?_)
      refine lv_istore (lv' := [(5, .int r_7), (3, .long (sp_Hart_locate n id σ.2.2.1 4 0 σ)), (2, .int (sp_Csrs_dueInterrupt σ.2.2.2.1 (sp_Clint_lines id σ.1.1) σ.2.2.2.2.2)), (0, .ref (a 6)), (1, .ref (a 0))]) hx hb d_Hart_run_92 hl (by decide) rfl (fun ls hl => ?_)
      refine lv_iload hx hb d_Hart_run_94 (lv_at hl 0 rfl) ?_
      refine lv_if_eq (tgt := 140) hx hb d_Hart_run_96 (by decide) (fun c_8 => ?_) (fun c_8 => ?_)
      · refine lv_iload hx hb d_Hart_run_140 (lv_at hl 0 rfl) ?_
        exact ri u_7 hx hb hr hlocks hP hD hS d_Hart_run_142 (by simp only [sp_Hart_run, h_7, if_pos c_3, if_pos c_5, if_pos c_8])
      · refine lv_iload hx hb d_Hart_run_99 (lv_at hl 0 rfl) ?_
        refine lv_iconst (v := 1) hx hb d_Hart_run_101 rfl ?_
        refine lv_isub hx hb d_Hart_run_102 ?_
        refine lv_istore (lv' := [(6, .int (r_7 - 1)), (5, .int r_7), (3, .long (sp_Hart_locate n id σ.2.2.1 4 0 σ)), (2, .int (sp_Csrs_dueInterrupt σ.2.2.2.1 (sp_Clint_lines id σ.1.1) σ.2.2.2.2.2)), (0, .ref (a 6)), (1, .ref (a 0))]) hx hb d_Hart_run_103 hl (by decide) rfl (fun ls hl => ?_)
        refine lv_aload_n hx hb d_Hart_run_105 rfl (lv_at hl 4 rfl) ?_
        refine lv_iload hx hb d_Hart_run_106 (lv_at hl 0 rfl) ?_
        refine lv_aload_n hx hb d_Hart_run_108 rfl (lv_at hl 4 rfl) ?_
        refine va_get (D := D) (ci := 4) (v := .int u_7.2.2.2.2.1) (C := R_Hart) (T := F_Hart) (N := 6) hx hb hts i_Hart hown hK hP 6 rfl rfl 5 (by decide) (hts _ k_152) (fun _ h9 => h9) rfl d_Hart_run_109 ?_
        refine lv_aload_n hx hb d_Hart_run_112 rfl (lv_at hl 4 rfl) ?_
        refine va_get (D := D) (ci := 4) (v := .int u_7.2.2.2.1) (C := R_Hart) (T := F_Hart) (N := 6) hx hb hts i_Hart hown hK hP 6 rfl rfl 4 (by decide) (hts _ k_150) (fun _ h9 => h9) rfl d_Hart_run_113 ?_
        refine lv_iconst (v := 3) hx hb d_Hart_run_116 rfl ?_
        refine lv_icmp_ge (tgt := 136) hx hb d_Hart_run_117 (by decide) (fun c_9 => ?_) (fun c_9 => ?_)
        · refine lv_iconst (v := 0) hx hb d_Hart_run_136 rfl ?_
          refine xv (wr := []) (W2 := fun u9 => wH a k n id u9) (xV (rest := []) ⟨hx, hb, hml, hown, hts⟩ (c_Hart_take a k n id (r_7 - 1) u_7.2.2.2.2.1 0 u_7 hn hid) mw_Hart_take mv_Hart_take k_246 ⟨rfl, rfl, Nat.le_of_ble_eq_true rfl, Nat.le_of_ble_eq_true rfl⟩ hK hP hD hS hA hF [0, 1, 2, 3, 4, 5, 6, 7, 8] [0, 1, 2, 3, 4] rfl rfl rfl 6 4 rfl rfl rfl rfl hl.1 rfl (Nat.le_of_ble_eq_true rfl) d_Hart_run_137 ⟨Nat.zero_le _, Nat.zero_le _⟩) hP hD hS hA [0, 1, 2, 3, 4, 5, 6, 7, 8] [] [0, 1, 2, 3, 4, 5, 6, 7, 8] rfl rfl rfl (by decide) (fun _ => rfl) rfl (fun u_10 H locs h_10 hP hD hS => ?_)
          refine lv_iload hx hb d_Hart_run_140 (lv_at hl 1 rfl) ?_
          exact ri u_10 hx hb hr hlocks hP hD hS d_Hart_run_142 (by simp only [sp_Hart_run, h_7, h_10, if_pos c_3, if_pos c_5, if_neg c_8, if_pos c_9])
        · refine lv_aload_n hx hb d_Hart_run_120 rfl (lv_at hl 4 rfl) ?_
          refine va_get (D := D) (ci := 4) (v := .ref (a 8)) (C := R_Hart) (T := F_Hart) (N := 6) hx hb hts i_Hart hown hK hP 6 rfl rfl 2 (by decide) (hts _ k_146) (fun _ h9 => h9) rfl d_Hart_run_121 ?_
          refine lv_iload hx hb d_Hart_run_124 (lv_at hl 0 rfl) ?_
          refine xi (wr := [((a 0), .inr (1, [.ref (a 3), .ref (a 1), .ref (a 4), .int u_7.1.2.2.2.1, .ref (a 5)])), ((a 1), .inr (2, [.ref (a 2)])), ((a 2), .inl ((k 0), 8, .inl u_7.1.1)), ((a 3), .inl ((k 1), n, .inl u_7.1.2.1)), ((a 4), .inl ((k 2), 256, .inl u_7.1.2.2.1)), ((a 5), .inl ((k 3), 2, .inr (.inl u_7.1.2.2.2.2))), ((a 6), .inr (4, [.int id, .ref (a 7), .ref (a 8), .int u_7.2.2.1, .int u_7.2.2.2.1, .int u_7.2.2.2.2.1])), ((a 7), .inl ((k 4), 32, .inl u_7.2.1))]) (W2 := fun _ => wH a k n id u_7) (xV (rest := [.int u_7.2.2.2.2.1, .int (r_7 - 1), .ref (a 6)]) ⟨hx, hb, hml, hown, hts⟩ (c_Csrs_handsDownTrap (a 8) (r_7 - 1) u_7.2.2.2.2.2) mw_Csrs_handsDownTrap mv_Csrs_handsDownTrap k_557 ⟨rfl, rfl, Nat.le_of_ble_eq_true rfl, Nat.le_of_ble_eq_true rfl⟩ hK hP hD hS hA hF [8] [] rfl rfl rfl 8 3 rfl rfl rfl rfl hl.1 rfl (Nat.le_of_ble_eq_true rfl) d_Hart_run_126 ⟨Nat.zero_le _, Nat.zero_le _⟩) hP hD hS hA [8] [0, 1, 2, 3, 4, 5, 6, 7] [0, 1, 2, 3, 4, 5, 6, 7, 8] rfl rfl rfl (by decide) (fun _ => rfl) rfl (fun r_11 _ H locs h_11 hP hD hS => ?_)
          obtain ⟨h_11, z_11⟩ := h_11
          subst h_11
          refine lv_if_eq (tgt := 136) hx hb d_Hart_run_129 (by decide) (fun c_12 => ?_) (fun c_12 => ?_)
          · refine lv_iconst (v := 0) hx hb d_Hart_run_136 rfl ?_
            refine xv (wr := []) (W2 := fun u9 => wH a k n id u9) (xV (rest := []) ⟨hx, hb, hml, hown, hts⟩ (c_Hart_take a k n id (r_7 - 1) u_7.2.2.2.2.1 0 u_7 hn hid) mw_Hart_take mv_Hart_take k_246 ⟨rfl, rfl, Nat.le_of_ble_eq_true rfl, Nat.le_of_ble_eq_true rfl⟩ hK hP hD hS hA hF [0, 1, 2, 3, 4, 5, 6, 7, 8] [0, 1, 2, 3, 4] rfl rfl rfl 6 4 rfl rfl rfl rfl hl.1 rfl (Nat.le_of_ble_eq_true rfl) d_Hart_run_137 ⟨Nat.zero_le _, Nat.zero_le _⟩) hP hD hS hA [0, 1, 2, 3, 4, 5, 6, 7, 8] [] [0, 1, 2, 3, 4, 5, 6, 7, 8] rfl rfl rfl (by decide) (fun _ => rfl) rfl (fun u_13 H locs h_13 hP hD hS => ?_)
            refine lv_iload hx hb d_Hart_run_140 (lv_at hl 1 rfl) ?_
            exact ri u_13 hx hb hr hlocks hP hD hS d_Hart_run_142 (by simp only [sp_Hart_run, h_7, h_13, if_pos c_3, if_pos c_5, if_neg c_8, if_neg c_9, if_pos c_12])
          · refine lv_iconst (v := 1) hx hb d_Hart_run_132 rfl ?_
            refine lv_goto (tgt := 137) hx hb d_Hart_run_133 (by decide) ?_
            refine xv (wr := []) (W2 := fun u9 => wH a k n id u9) (xV (rest := []) ⟨hx, hb, hml, hown, hts⟩ (c_Hart_take a k n id (r_7 - 1) u_7.2.2.2.2.1 1 u_7 hn hid) mw_Hart_take mv_Hart_take k_246 ⟨rfl, rfl, Nat.le_of_ble_eq_true rfl, Nat.le_of_ble_eq_true rfl⟩ hK hP hD hS hA hF [0, 1, 2, 3, 4, 5, 6, 7, 8] [0, 1, 2, 3, 4] rfl rfl rfl 6 4 rfl rfl rfl rfl hl.1 rfl (Nat.le_of_ble_eq_true rfl) d_Hart_run_137 ⟨Nat.zero_le _, Nat.zero_le _⟩) hP hD hS hA [0, 1, 2, 3, 4, 5, 6, 7, 8] [] [0, 1, 2, 3, 4, 5, 6, 7, 8] rfl rfl rfl (by decide) (fun _ => rfl) rfl (fun u_14 H locs h_14 hP hD hS => ?_)
            refine lv_iload hx hb d_Hart_run_140 (lv_at hl 1 rfl) ?_
            exact ri u_14 hx hb hr hlocks hP hD hS d_Hart_run_142 (by simp only [sp_Hart_run, h_7, h_14, if_pos c_3, if_pos c_5, if_neg c_8, if_neg c_9, if_neg c_12])
    · have c_5 : ¬ 0 ≤ (sp_Hart_locate n id σ.2.2.1 4 0 σ) := fun h9 => b_5 ((lg_cmp_ge _ _).mpr h9)
      refine lv_aload_n hx hb d_Hart_run_70 rfl (lv_at hl 2 rfl) ?_
      refine lv_lload_n hx hb d_Hart_run_71 rfl (lv_at hl 0 rfl) ?_
      refine lv_aload_n hx hb d_Hart_run_72 rfl (lv_at hl 2 rfl) ?_
      refine va_get (D := D) (ci := 4) (v := .int σ.2.2.1) (C := R_Hart) (T := F_Hart) (N := 6) hx hb hts i_Hart hown hK hP 6 rfl rfl 3 (by decide) (hts _ k_148) (fun _ h9 => h9) rfl d_Hart_run_73 ?_
      refine xi (wr := []) (W2 := fun u9 => wH a k n id u9) (xV (rest := []) ⟨hx, hb, hml, hown, hts⟩ (c_Hart_fault a k n id (sp_Hart_locate n id σ.2.2.1 4 0 σ) σ.2.2.1 σ hn hid) mw_Hart_fault mv_Hart_fault k_333 ⟨rfl, rfl, Nat.le_of_ble_eq_true rfl, Nat.le_of_ble_eq_true rfl⟩ hK hP hD hS hA hF [0, 1, 2, 3, 4, 5, 6, 7, 8] [0, 1, 2, 3, 4] rfl rfl rfl 6 4 rfl rfl rfl rfl hl.1 rfl (Nat.le_of_ble_eq_true rfl) d_Hart_run_76 ⟨Nat.zero_le _, Nat.zero_le _⟩) hP hD hS hA [0, 1, 2, 3, 4, 5, 6, 7, 8] [] [0, 1, 2, 3, 4, 5, 6, 7, 8] rfl rfl rfl (by decide) (fun _ => rfl) rfl (fun r_15 u_15 H locs h_15 hP hD hS => ?_)
      refine lv_goto (tgt := 92) hx hb d_Hart_run_79 (by decide) ?_
      refine lv_istore (lv' := [(5, .int r_15), (3, .long (sp_Hart_locate n id σ.2.2.1 4 0 σ)), (2, .int (sp_Csrs_dueInterrupt σ.2.2.2.1 (sp_Clint_lines id σ.1.1) σ.2.2.2.2.2)), (0, .ref (a 6)), (1, .ref (a 0))]) hx hb d_Hart_run_92 hl (by decide) rfl (fun ls hl => ?_)
      refine lv_iload hx hb d_Hart_run_94 (lv_at hl 0 rfl) ?_
      refine lv_if_eq (tgt := 140) hx hb d_Hart_run_96 (by decide) (fun c_16 => ?_) (fun c_16 => ?_)
      · refine lv_iload hx hb d_Hart_run_140 (lv_at hl 0 rfl) ?_
        exact ri u_15 hx hb hr hlocks hP hD hS d_Hart_run_142 (by simp only [sp_Hart_run, h_15, if_pos c_3, if_neg c_5, if_pos c_16])
      · refine lv_iload hx hb d_Hart_run_99 (lv_at hl 0 rfl) ?_
        refine lv_iconst (v := 1) hx hb d_Hart_run_101 rfl ?_
        refine lv_isub hx hb d_Hart_run_102 ?_
        refine lv_istore (lv' := [(6, .int (r_15 - 1)), (5, .int r_15), (3, .long (sp_Hart_locate n id σ.2.2.1 4 0 σ)), (2, .int (sp_Csrs_dueInterrupt σ.2.2.2.1 (sp_Clint_lines id σ.1.1) σ.2.2.2.2.2)), (0, .ref (a 6)), (1, .ref (a 0))]) hx hb d_Hart_run_103 hl (by decide) rfl (fun ls hl => ?_)
        refine lv_aload_n hx hb d_Hart_run_105 rfl (lv_at hl 4 rfl) ?_
        refine lv_iload hx hb d_Hart_run_106 (lv_at hl 0 rfl) ?_
        refine lv_aload_n hx hb d_Hart_run_108 rfl (lv_at hl 4 rfl) ?_
        refine va_get (D := D) (ci := 4) (v := .int u_15.2.2.2.2.1) (C := R_Hart) (T := F_Hart) (N := 6) hx hb hts i_Hart hown hK hP 6 rfl rfl 5 (by decide) (hts _ k_152) (fun _ h9 => h9) rfl d_Hart_run_109 ?_
        refine lv_aload_n hx hb d_Hart_run_112 rfl (lv_at hl 4 rfl) ?_
        refine va_get (D := D) (ci := 4) (v := .int u_15.2.2.2.1) (C := R_Hart) (T := F_Hart) (N := 6) hx hb hts i_Hart hown hK hP 6 rfl rfl 4 (by decide) (hts _ k_150) (fun _ h9 => h9) rfl d_Hart_run_113 ?_
        refine lv_iconst (v := 3) hx hb d_Hart_run_116 rfl ?_
        refine lv_icmp_ge (tgt := 136) hx hb d_Hart_run_117 (by decide) (fun c_17 => ?_) (fun c_17 => ?_)
        · refine lv_iconst (v := 0) hx hb d_Hart_run_136 rfl ?_
          refine xv (wr := []) (W2 := fun u9 => wH a k n id u9) (xV (rest := []) ⟨hx, hb, hml, hown, hts⟩ (c_Hart_take a k n id (r_15 - 1) u_15.2.2.2.2.1 0 u_15 hn hid) mw_Hart_take mv_Hart_take k_246 ⟨rfl, rfl, Nat.le_of_ble_eq_true rfl, Nat.le_of_ble_eq_true rfl⟩ hK hP hD hS hA hF [0, 1, 2, 3, 4, 5, 6, 7, 8] [0, 1, 2, 3, 4] rfl rfl rfl 6 4 rfl rfl rfl rfl hl.1 rfl (Nat.le_of_ble_eq_true rfl) d_Hart_run_137 ⟨Nat.zero_le _, Nat.zero_le _⟩) hP hD hS hA [0, 1, 2, 3, 4, 5, 6, 7, 8] [] [0, 1, 2, 3, 4, 5, 6, 7, 8] rfl rfl rfl (by decide) (fun _ => rfl) rfl (fun u_18 H locs h_18 hP hD hS => ?_)
          refine lv_iload hx hb d_Hart_run_140 (lv_at hl 1 rfl) ?_
          exact ri u_18 hx hb hr hlocks hP hD hS d_Hart_run_142 (by simp only [sp_Hart_run, h_15, h_18, if_pos c_3, if_neg c_5, if_neg c_16, if_pos c_17])
        · refine lv_aload_n hx hb d_Hart_run_120 rfl (lv_at hl 4 rfl) ?_
          refine va_get (D := D) (ci := 4) (v := .ref (a 8)) (C := R_Hart) (T := F_Hart) (N := 6) hx hb hts i_Hart hown hK hP 6 rfl rfl 2 (by decide) (hts _ k_146) (fun _ h9 => h9) rfl d_Hart_run_121 ?_
          refine lv_iload hx hb d_Hart_run_124 (lv_at hl 0 rfl) ?_
          refine xi (wr := [((a 0), .inr (1, [.ref (a 3), .ref (a 1), .ref (a 4), .int u_15.1.2.2.2.1, .ref (a 5)])), ((a 1), .inr (2, [.ref (a 2)])), ((a 2), .inl ((k 0), 8, .inl u_15.1.1)), ((a 3), .inl ((k 1), n, .inl u_15.1.2.1)), ((a 4), .inl ((k 2), 256, .inl u_15.1.2.2.1)), ((a 5), .inl ((k 3), 2, .inr (.inl u_15.1.2.2.2.2))), ((a 6), .inr (4, [.int id, .ref (a 7), .ref (a 8), .int u_15.2.2.1, .int u_15.2.2.2.1, .int u_15.2.2.2.2.1])), ((a 7), .inl ((k 4), 32, .inl u_15.2.1))]) (W2 := fun _ => wH a k n id u_15) (xV (rest := [.int u_15.2.2.2.2.1, .int (r_15 - 1), .ref (a 6)]) ⟨hx, hb, hml, hown, hts⟩ (c_Csrs_handsDownTrap (a 8) (r_15 - 1) u_15.2.2.2.2.2) mw_Csrs_handsDownTrap mv_Csrs_handsDownTrap k_557 ⟨rfl, rfl, Nat.le_of_ble_eq_true rfl, Nat.le_of_ble_eq_true rfl⟩ hK hP hD hS hA hF [8] [] rfl rfl rfl 8 3 rfl rfl rfl rfl hl.1 rfl (Nat.le_of_ble_eq_true rfl) d_Hart_run_126 ⟨Nat.zero_le _, Nat.zero_le _⟩) hP hD hS hA [8] [0, 1, 2, 3, 4, 5, 6, 7] [0, 1, 2, 3, 4, 5, 6, 7, 8] rfl rfl rfl (by decide) (fun _ => rfl) rfl (fun r_19 _ H locs h_19 hP hD hS => ?_)
          obtain ⟨h_19, z_19⟩ := h_19
          subst h_19
          refine lv_if_eq (tgt := 136) hx hb d_Hart_run_129 (by decide) (fun c_20 => ?_) (fun c_20 => ?_)
          · refine lv_iconst (v := 0) hx hb d_Hart_run_136 rfl ?_
            refine xv (wr := []) (W2 := fun u9 => wH a k n id u9) (xV (rest := []) ⟨hx, hb, hml, hown, hts⟩ (c_Hart_take a k n id (r_15 - 1) u_15.2.2.2.2.1 0 u_15 hn hid) mw_Hart_take mv_Hart_take k_246 ⟨rfl, rfl, Nat.le_of_ble_eq_true rfl, Nat.le_of_ble_eq_true rfl⟩ hK hP hD hS hA hF [0, 1, 2, 3, 4, 5, 6, 7, 8] [0, 1, 2, 3, 4] rfl rfl rfl 6 4 rfl rfl rfl rfl hl.1 rfl (Nat.le_of_ble_eq_true rfl) d_Hart_run_137 ⟨Nat.zero_le _, Nat.zero_le _⟩) hP hD hS hA [0, 1, 2, 3, 4, 5, 6, 7, 8] [] [0, 1, 2, 3, 4, 5, 6, 7, 8] rfl rfl rfl (by decide) (fun _ => rfl) rfl (fun u_21 H locs h_21 hP hD hS => ?_)
            refine lv_iload hx hb d_Hart_run_140 (lv_at hl 1 rfl) ?_
            exact ri u_21 hx hb hr hlocks hP hD hS d_Hart_run_142 (by simp only [sp_Hart_run, h_15, h_21, if_pos c_3, if_neg c_5, if_neg c_16, if_neg c_17, if_pos c_20])
          · refine lv_iconst (v := 1) hx hb d_Hart_run_132 rfl ?_
            refine lv_goto (tgt := 137) hx hb d_Hart_run_133 (by decide) ?_
            refine xv (wr := []) (W2 := fun u9 => wH a k n id u9) (xV (rest := []) ⟨hx, hb, hml, hown, hts⟩ (c_Hart_take a k n id (r_15 - 1) u_15.2.2.2.2.1 1 u_15 hn hid) mw_Hart_take mv_Hart_take k_246 ⟨rfl, rfl, Nat.le_of_ble_eq_true rfl, Nat.le_of_ble_eq_true rfl⟩ hK hP hD hS hA hF [0, 1, 2, 3, 4, 5, 6, 7, 8] [0, 1, 2, 3, 4] rfl rfl rfl 6 4 rfl rfl rfl rfl hl.1 rfl (Nat.le_of_ble_eq_true rfl) d_Hart_run_137 ⟨Nat.zero_le _, Nat.zero_le _⟩) hP hD hS hA [0, 1, 2, 3, 4, 5, 6, 7, 8] [] [0, 1, 2, 3, 4, 5, 6, 7, 8] rfl rfl rfl (by decide) (fun _ => rfl) rfl (fun u_22 H locs h_22 hP hD hS => ?_)
            refine lv_iload hx hb d_Hart_run_140 (lv_at hl 1 rfl) ?_
            exact ri u_22 hx hb hr hlocks hP hD hS d_Hart_run_142 (by simp only [sp_Hart_run, h_15, h_22, if_pos c_3, if_neg c_5, if_neg c_16, if_neg c_17, if_neg c_20])
  · refine lv_aload_n hx hb d_Hart_run_28 rfl (lv_at hl 1 rfl) ?_
    refine lv_ldc (v := (-2147483648)) hx hb hown (hts _ k_81) d_Hart_run_29 ?_
    refine lv_iload_n hx hb d_Hart_run_31 rfl (lv_at hl 0 rfl) ?_
    refine lv_ior hx hb d_Hart_run_32 ?_
    refine lv_iconst (v := 0) hx hb d_Hart_run_33 rfl ?_
    refine lv_aload_n hx hb d_Hart_run_34 rfl (lv_at hl 1 rfl) ?_
    refine va_get (D := D) (ci := 4) (v := .ref (a 8)) (C := R_Hart) (T := F_Hart) (N := 6) hx hb hts i_Hart hown hK hP 6 rfl rfl 2 (by decide) (hts _ k_146) (fun _ h9 => h9) rfl d_Hart_run_35 ?_
    refine lv_iload_n hx hb d_Hart_run_38 rfl (lv_at hl 0 rfl) ?_
    refine xi (wr := [((a 0), .inr (1, [.ref (a 3), .ref (a 1), .ref (a 4), .int σ.1.2.2.2.1, .ref (a 5)])), ((a 1), .inr (2, [.ref (a 2)])), ((a 2), .inl ((k 0), 8, .inl σ.1.1)), ((a 3), .inl ((k 1), n, .inl σ.1.2.1)), ((a 4), .inl ((k 2), 256, .inl σ.1.2.2.1)), ((a 5), .inl ((k 3), 2, .inr (.inl σ.1.2.2.2.2))), ((a 6), .inr (4, [.int id, .ref (a 7), .ref (a 8), .int σ.2.2.1, .int σ.2.2.2.1, .int σ.2.2.2.2.1])), ((a 7), .inl ((k 4), 32, .inl σ.2.1))]) (W2 := fun _ => wH a k n id σ) (xV (rest := [.int 0, .int ((-2147483648) ||| (sp_Csrs_dueInterrupt σ.2.2.2.1 (sp_Clint_lines id σ.1.1) σ.2.2.2.2.2)), .ref (a 6)]) ⟨hx, hb, hml, hown, hts⟩ (c_Csrs_handsDownInterrupt (a 8) (sp_Csrs_dueInterrupt σ.2.2.2.1 (sp_Clint_lines id σ.1.1) σ.2.2.2.2.2) σ.2.2.2.2.2) mw_Csrs_handsDownInterrupt mv_Csrs_handsDownInterrupt k_242 ⟨rfl, rfl, Nat.le_of_ble_eq_true rfl, Nat.le_of_ble_eq_true rfl⟩ hK hP hD hS hA hF [8] [] rfl rfl rfl 8 3 rfl rfl rfl rfl hl.1 rfl (Nat.le_of_ble_eq_true rfl) d_Hart_run_39 ⟨Nat.zero_le _, Nat.zero_le _⟩) hP hD hS hA [8] [0, 1, 2, 3, 4, 5, 6, 7] [0, 1, 2, 3, 4, 5, 6, 7, 8] rfl rfl rfl (by decide) (fun _ => rfl) rfl (fun r_23 _ H locs h_23 hP hD hS => ?_)
    obtain ⟨h_23, z_23⟩ := h_23
    subst h_23
    refine xv (wr := []) (W2 := fun u9 => wH a k n id u9) (xV (rest := []) ⟨hx, hb, hml, hown, hts⟩ (c_Hart_take a k n id ((-2147483648) ||| (sp_Csrs_dueInterrupt σ.2.2.2.1 (sp_Clint_lines id σ.1.1) σ.2.2.2.2.2)) 0 (sp_Csrs_handsDownInterrupt (sp_Csrs_dueInterrupt σ.2.2.2.1 (sp_Clint_lines id σ.1.1) σ.2.2.2.2.2) σ.2.2.2.2.2) σ hn hid) mw_Hart_take mv_Hart_take k_246 ⟨rfl, rfl, Nat.le_of_ble_eq_true rfl, Nat.le_of_ble_eq_true rfl⟩ hK hP hD hS hA hF [0, 1, 2, 3, 4, 5, 6, 7, 8] [0, 1, 2, 3, 4] rfl rfl rfl 6 4 rfl rfl rfl rfl hl.1 rfl (Nat.le_of_ble_eq_true rfl) d_Hart_run_42 ⟨Nat.zero_le _, Nat.zero_le _⟩) hP hD hS hA [0, 1, 2, 3, 4, 5, 6, 7, 8] [] [0, 1, 2, 3, 4, 5, 6, 7, 8] rfl rfl rfl (by decide) (fun _ => rfl) rfl (fun u_24 H locs h_24 hP hD hS => ?_)
    refine lv_bipush (v := 64) hx hb d_Hart_run_45 rfl ?_
    refine lv_iload_n hx hb d_Hart_run_47 rfl (lv_at hl 0 rfl) ?_
    refine lv_iadd hx hb d_Hart_run_48 ?_
    exact ri u_24 hx hb hr hlocks hP hD hS d_Hart_run_49 (by simp only [sp_Hart_run, h_24, if_neg c_3])
