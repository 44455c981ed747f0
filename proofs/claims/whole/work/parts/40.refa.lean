def sp_Model_ramByte (x0 : Int32) (b : Nat → Int32) : Int32 :=
  (b x0.toNatClampNeg) &&& 255
set_option maxHeartbeats 4000000 in
set_option maxRecDepth 100000 in
theorem c_Model_ramByte {l : Launch} {D : va_G} {g : Nat → Nat} (a : Nat → Nat) (k : Nat → ClassId) (n : Nat) (x0 : Int32) (h ca tv nx : Int32) (pcs lv cs x b cl : Nat → Int32) (cm : Nat → Int64) (so : Nat → Int32) (ti : Int64) (pu : Nat → Int32) (np : Int32) (hn : n ≤ 4096) (hi0 : vp_in x0 16384) : CT l D g y_Model_ramByte b_Model_ramByte 2 (some .int) (rD 0) [.ref (a 0), .int x0] (wR a k n h ca tv nx pcs lv cs x b cl cm so ti pu np) (tyR k) (Qi D (fun (r : Int32) (_ : Unit) => sp_Model_ramByte x0 b = r) (fun _ => wR a k n h ca tv nx pcs lv cs x b cl cm so ti pu np)) := by
  refine CT.of rfl (Nat.le_of_ble_eq_true rfl) (fun p e s m below meth c A ls hx hb hr hml hts hown hlocks hA hP hK hD hF hS hl => ?_)
  have hl : lv_has ls 2 [(0, .ref (a 0)), (1, .int x0)] := hl
  refine lv_aload_n hx hb d_Model_ramByte_0 rfl (lv_at hl 0 rfl) ?_
  refine va_get (D := D) (ci := 5) (v := .ref (a 1)) (C := R_Model) (T := F_Model) (N := 16) hx hb hts i_Model hown hK hP 0 rfl rfl 1 (by decide) (hts _ k_626) (fun _ h9 => h9) rfl d_Model_ramByte_1 ?_
  refine lv_iload_n hx hb d_Model_ramByte_4 rfl (lv_at hl 1 rfl) ?_
  refine y_bald (v := b x0.toNatClampNeg) hx hb hK hP 1 0 rfl rfl hi0 rfl d_Model_ramByte_5 ?_
  refine lv_sipush (v := 255) hx hb d_Model_ramByte_6 rfl ?_
  refine lv_iand hx hb d_Model_ramByte_9 ?_
  exact ri () hx hb hr hlocks hP hD hS d_Model_ramByte_10 (by simp only [sp_Model_ramByte])
def sp_Model_ramWord (x0 : Int32) (b : Nat → Int32) : Int32 :=
  (((sp_Model_ramByte x0 b) ||| (shl (sp_Model_ramByte (x0 + 1) b) 8)) ||| (shl (sp_Model_ramByte (x0 + 2) b) 16)) ||| (shl (sp_Model_ramByte (x0 + 3) b) 24)
set_option maxHeartbeats 4000000 in
set_option maxRecDepth 100000 in
theorem c_Model_ramWord {l : Launch} {D : va_G} {g : Nat → Nat} (a : Nat → Nat) (k : Nat → ClassId) (n : Nat) (x0 : Int32) (h ca tv nx : Int32) (pcs lv cs x b cl : Nat → Int32) (cm : Nat → Int64) (so : Nat → Int32) (ti : Int64) (pu : Nat → Int32) (np : Int32) (hn : n ≤ 4096) (hv : vpw x0) : CT l D g y_Model_ramWord b_Model_ramWord 2 (some .int) (rD 1) [.ref (a 0), .int x0] (wR a k n h ca tv nx pcs lv cs x b cl cm so ti pu np) (tyR k) (Qi D (fun (r : Int32) (_ : Unit) => sp_Model_ramWord x0 b = r) (fun _ => wR a k n h ca tv nx pcs lv cs x b cl cm so ti pu np)) := by
  refine CT.of rfl (Nat.le_of_ble_eq_true rfl) (fun p e s m below meth c A ls hx hb hr hml hts hown hlocks hA hP hK hD hF hS hl => ?_)
  have hl : lv_has ls 2 [(0, .ref (a 0)), (1, .int x0)] := hl
  refine lv_aload_n hx hb d_Model_ramWord_0 rfl (lv_at hl 0 rfl) ?_
  refine lv_iload_n hx hb d_Model_ramWord_1 rfl (lv_at hl 1 rfl) ?_
  refine xi (wr := []) (W2 := fun _ => wR a k n h ca tv nx pcs lv cs x b cl cm so ti pu np) (xV (rest := []) ⟨hx, hb, hml, hown, hts⟩ (c_Model_ramByte a k n x0 h ca tv nx pcs lv cs x b cl cm so ti pu np hn hv.1) mw_Model_ramByte mv_Model_ramByte k_694 ⟨rfl, rfl, Nat.le_of_ble_eq_true rfl, Nat.le_of_ble_eq_true rfl⟩ hK hP hD hS hA hF [0, 1, 2, 3, 4, 5, 6, 7, 8, 9] [0, 1, 2, 3, 4, 5, 6, 7, 8] rfl rfl rfl 0 5 rfl rfl rfl rfl hl.1 rfl (Nat.le_of_ble_eq_true rfl) d_Model_ramWord_2 ⟨Nat.zero_le _, Nat.zero_le _⟩) hP hD hS hA [0, 1, 2, 3, 4, 5, 6, 7, 8, 9] [] [0, 1, 2, 3, 4, 5, 6, 7, 8, 9] rfl rfl rfl (by decide) (fun _ => rfl) rfl (fun r_1 _ H locs h_1 hP hD hS => ?_)
  subst h_1
  refine lv_aload_n hx hb d_Model_ramWord_5 rfl (lv_at hl 0 rfl) ?_
  refine lv_iload_n hx hb d_Model_ramWord_6 rfl (lv_at hl 1 rfl) ?_
  refine lv_iconst (v := 1) hx hb d_Model_ramWord_7 rfl ?_
  refine lv_iadd hx hb d_Model_ramWord_8 ?_
  refine xi (wr := []) (W2 := fun _ => wR a k n h ca tv nx pcs lv cs x b cl cm so ti pu np) (xV (rest := [.int (sp_Model_ramByte x0 b)]) ⟨hx, hb, hml, hown, hts⟩ (c_Model_ramByte a k n (x0 + 1) h ca tv nx pcs lv cs x b cl cm so ti pu np hn hv.2.1) mw_Model_ramByte mv_Model_ramByte k_694 ⟨rfl, rfl, Nat.le_of_ble_eq_true rfl, Nat.le_of_ble_eq_true rfl⟩ hK hP hD hS hA hF [0, 1, 2, 3, 4, 5, 6, 7, 8, 9] [0, 1, 2, 3, 4, 5, 6, 7, 8] rfl rfl rfl 0 5 rfl rfl rfl rfl hl.1 rfl (Nat.le_of_ble_eq_true rfl) d_Model_ramWord_9 ⟨Nat.zero_le _, Nat.zero_le _⟩) hP hD hS hA [0, 1, 2, 3, 4, 5, 6, 7, 8, 9] [] [0, 1, 2, 3, 4, 5, 6, 7, 8, 9] rfl rfl rfl (by decide) (fun _ => rfl) rfl (fun r_2 _ H locs h_2 hP hD hS => ?_)
  subst h_2
  refine lv_bipush (v := 8) hx hb d_Model_ramWord_12 rfl ?_
  refine y_ishl hx hb d_Model_ramWord_14 ?_
  refine lv_ior hx hb d_Model_ramWord_15 ?_
  refine lv_aload_n hx hb d_Model_ramWord_16 rfl (lv_at hl 0 rfl) ?_
  refine lv_iload_n hx hb d_Model_ramWord_17 rfl (lv_at hl 1 rfl) ?_
  refine lv_iconst (v := 2) hx hb d_Model_ramWord_18 rfl ?_
  refine lv_iadd hx hb d_Model_ramWord_19 ?_
  refine xi (wr := []) (W2 := fun _ => wR a k n h ca tv nx pcs lv cs x b cl cm so ti pu np) (xV (rest := [.int ((sp_Model_ramByte x0 b) ||| (shl (sp_Model_ramByte (x0 + 1) b) 8))]) ⟨hx, hb, hml, hown, hts⟩ (c_Model_ramByte a k n (x0 + 2) h ca tv nx pcs lv cs x b cl cm so ti pu np hn hv.2.2.1) mw_Model_ramByte mv_Model_ramByte k_694 ⟨rfl, rfl, Nat.le_of_ble_eq_true rfl, Nat.le_of_ble_eq_true rfl⟩ hK hP hD hS hA hF [0, 1, 2, 3, 4, 5, 6, 7, 8, 9] [0, 1, 2, 3, 4, 5, 6, 7, 8] rfl rfl rfl 0 5 rfl rfl rfl rfl hl.1 rfl (Nat.le_of_ble_eq_true rfl) d_Model_ramWord_20 ⟨Nat.zero_le _, Nat.zero_le _⟩) hP hD hS hA [0, 1, 2, 3, 4, 5, 6, 7, 8, 9] [] [0, 1, 2, 3, 4, 5, 6, 7, 8, 9] rfl rfl rfl (by decide) (fun _ => rfl) rfl (fun r_3 _ H locs h_3 hP hD hS => ?_)
  subst h_3
  refine lv_bipush (v := 16) hx hb d_Model_ramWord_23 rfl ?_
  refine y_ishl hx hb d_Model_ramWord_25 ?_
  refine lv_ior hx hb d_Model_ramWord_26 ?_
  refine lv_aload_n hx hb d_Model_ramWord_27 rfl (lv_at hl 0 rfl) ?_
  refine lv_iload_n hx hb d_Model_ramWord_28 rfl (lv_at hl 1 rfl) ?_
  refine lv_iconst (v := 3) hx hb d_Model_ramWord_29 rfl ?_
  refine lv_iadd hx hb d_Model_ramWord_30 ?_
  refine xi (wr := []) (W2 := fun _ => wR a k n h ca tv nx pcs lv cs x b cl cm so ti pu np) (xV (rest := [.int (((sp_Model_ramByte x0 b) ||| (shl (sp_Model_ramByte (x0 + 1) b) 8)) ||| (shl (sp_Model_ramByte (x0 + 2) b) 16))]) ⟨hx, hb, hml, hown, hts⟩ (c_Model_ramByte a k n (x0 + 3) h ca tv nx pcs lv cs x b cl cm so ti pu np hn hv.2.2.2) mw_Model_ramByte mv_Model_ramByte k_694 ⟨rfl, rfl, Nat.le_of_ble_eq_true rfl, Nat.le_of_ble_eq_true rfl⟩ hK hP hD hS hA hF [0, 1, 2, 3, 4, 5, 6, 7, 8, 9] [0, 1, 2, 3, 4, 5, 6, 7, 8] rfl rfl rfl 0 5 rfl rfl rfl rfl hl.1 rfl (Nat.le_of_ble_eq_true rfl) d_Model_ramWord_31 ⟨Nat.zero_le _, Nat.zero_le _⟩) hP hD hS hA [0, 1, 2, 3, 4, 5, 6, 7, 8, 9] [] [0, 1, 2, 3, 4, 5, 6, 7, 8, 9] rfl rfl rfl (by decide) (fun _ => rfl) rfl (fun r_4 _ H locs h_4 hP hD hS => ?_)
  subst h_4
  refine lv_bipush (v := 24) hx hb d_Model_ramWord_34 rfl ?_
  refine y_ishl hx hb d_Model_ramWord_36 ?_
  refine lv_ior hx hb d_Model_ramWord_37 ?_
  exact ri () hx hb hr hlocks hP hD hS d_Model_ramWord_38 (by simp only [sp_Model_ramWord])
def sp_Model_setBytes (x0 : Int32) (x1 : Int32) (x2 : Int32) (b : Nat → Int32) : Nat → Int32 :=
  if x1 = 1 then
    (upd b ((x0 + 0).toNatClampNeg) (vp_nar .byte ((shr x2 0).toInt8.toInt32)))
  else
    if x1 = 2 then
      (upd (upd b ((x0 + 0).toNatClampNeg) (vp_nar .byte ((shr x2 0).toInt8.toInt32))) ((x0 + 1).toNatClampNeg) (vp_nar .byte ((shr x2 8).toInt8.toInt32)))
    else
      (upd (upd (upd (upd b ((x0 + 0).toNatClampNeg) (vp_nar .byte ((shr x2 0).toInt8.toInt32))) ((x0 + 1).toNatClampNeg) (vp_nar .byte ((shr x2 8).toInt8.toInt32))) ((x0 + 2).toNatClampNeg) (vp_nar .byte ((shr x2 16).toInt8.toInt32))) ((x0 + 3).toNatClampNeg) (vp_nar .byte ((shr x2 24).toInt8.toInt32)))
set_option maxHeartbeats 4000000 in
set_option maxRecDepth 100000 in
theorem c_Model_setBytes {l : Launch} {D : va_G} {g : Nat → Nat} (a : Nat → Nat) (k : Nat → ClassId) (n : Nat) (x0 : Int32) (x1 : Int32) (x2 : Int32) (h ca tv nx : Int32) (pcs lv cs x b cl : Nat → Int32) (cm : Nat → Int64) (so : Nat → Int32) (ti : Int64) (pu : Nat → Int32) (np : Int32) (hn : n ≤ 4096) (h3 : x1 = 1 ∨ x1 = 2 ∨ x1 = 4) (hbb : ∀ k : Nat, k < x1.toNatClampNeg → vp_in (x0 + nI k) 16384) : CT l D g y_Model_setBytes b_Model_setBytes 5 none (rD 0) [.ref (a 0), .int x0, .int x1, .int x2] (wR a k n h ca tv nx pcs lv cs x b cl cm so ti pu np) (tyR k) (Qv D (fun (u : Nat → Int32) => sp_Model_setBytes x0 x1 x2 b = u) (fun u => wR a k n h ca tv nx pcs lv cs x u cl cm so ti pu np)) := by
  rcases h3 with rfl | rfl | rfl
  · refine CT.of rfl (Nat.le_of_ble_eq_true rfl) (fun p e s m below meth c A ls hx hb hr hml hts hown hlocks hA hP hK hD hF hS hl => ?_)
    have hl : lv_has ls 5 [(0, .ref (a 0)), (1, .int x0), (2, .int 1), (3, .int x2)] := hl
    refine lv_iconst (v := 0) hx hb d_Model_setBytes_0 rfl ?_
    refine lv_istore (lv' := [(4, .int 0), (0, .ref (a 0)), (1, .int x0), (2, .int 1), (3, .int x2)]) hx hb d_Model_setBytes_1 hl (by decide) rfl (fun ls hl => ?_)
    refine lv_iload hx hb d_Model_setBytes_3 (lv_at hl 0 rfl) ?_
    refine lv_iload_n hx hb d_Model_setBytes_5 rfl (lv_at hl 3 rfl) ?_
    refine lv_icmp_ge (tgt := 32) hx hb d_Model_setBytes_6 (by decide) (fun h9 => absurd h9 (by decide)) (fun _ => ?_)
    refine lv_aload_n hx hb d_Model_setBytes_9 rfl (lv_at hl 1 rfl) ?_
    refine va_get (D := D) (ci := 5) (v := .ref (a 1)) (C := R_Model) (T := F_Model) (N := 16) hx hb hts i_Model hown hK hP 0 rfl rfl 1 (by decide) (hts _ k_626) (fun _ h9 => h9) rfl d_Model_setBytes_10 ?_
    refine lv_iload_n hx hb d_Model_setBytes_13 rfl (lv_at hl 2 rfl) ?_
    refine lv_iload hx hb d_Model_setBytes_14 (lv_at hl 0 rfl) ?_
    refine lv_iadd hx hb d_Model_setBytes_16 ?_
    refine lv_iload_n hx hb d_Model_setBytes_17 rfl (lv_at hl 4 rfl) ?_
    refine lv_bipush (v := 8) hx hb d_Model_setBytes_18 rfl ?_
    refine lv_iload hx hb d_Model_setBytes_20 (lv_at hl 0 rfl) ?_
    refine lv_imul hx hb d_Model_setBytes_22 ?_
    refine W.eq (g2 := F0 m 23 ls [.int 0, .int x2, .int (x0 + 0), .ref (a 1)]) rfl ?_
    refine y_ishr hx hb d_Model_setBytes_23 ?_
    refine lv_i2b hx hb d_Model_setBytes_24 rfl ?_
    refine y_bast (ws' := wR a k n h ca tv nx pcs lv cs x (upd b ((x0 + 0).toNatClampNeg) (vp_nar .byte ((shr x2 0).toInt8.toInt32))) cl cm so ti pu np) hx hb hK hP hD hS 1 0 rfl rfl (hbb 0 (by decide)) d_Model_setBytes_25 rfl (fun H locs hP hD hS => ?_)
    refine lv_iinc (v := 1) (lv' := [(4, .int 1), (0, .ref (a 0)), (1, .int x0), (2, .int 1), (3, .int x2)]) hx hb d_Model_setBytes_26 hl (k := 0) rfl rfl (by decide) rfl (fun ls hl => ?_)
    refine lv_goto (tgt := 3) hx hb d_Model_setBytes_29 (by decide) ?_
    refine lv_iload hx hb d_Model_setBytes_3 (lv_at hl 0 rfl) ?_
    refine lv_iload_n hx hb d_Model_setBytes_5 rfl (lv_at hl 3 rfl) ?_
    refine lv_icmp_ge (tgt := 32) hx hb d_Model_setBytes_6 (by decide) (fun _ => ?_) (fun h9 => absurd (by decide) h9)
    exact rv (upd b ((x0 + 0).toNatClampNeg) (vp_nar .byte ((shr x2 0).toInt8.toInt32))) hx hb hr hlocks hP hD hS d_Model_setBytes_32 (by simp only [sp_Model_setBytes, if_pos (rfl : (1 : Int32) = 1), if_true, if_false])
  · refine CT.of rfl (Nat.le_of_ble_eq_true rfl) (fun p e s m below meth c A ls hx hb hr hml hts hown hlocks hA hP hK hD hF hS hl => ?_)
    have hl : lv_has ls 5 [(0, .ref (a 0)), (1, .int x0), (2, .int 2), (3, .int x2)] := hl
    refine lv_iconst (v := 0) hx hb d_Model_setBytes_0 rfl ?_
    refine lv_istore (lv' := [(4, .int 0), (0, .ref (a 0)), (1, .int x0), (2, .int 2), (3, .int x2)]) hx hb d_Model_setBytes_1 hl (by decide) rfl (fun ls hl => ?_)
    refine lv_iload hx hb d_Model_setBytes_3 (lv_at hl 0 rfl) ?_
    refine lv_iload_n hx hb d_Model_setBytes_5 rfl (lv_at hl 3 rfl) ?_
    refine lv_icmp_ge (tgt := 32) hx hb d_Model_setBytes_6 (by decide) (fun h9 => absurd h9 (by decide)) (fun _ => ?_)
    refine lv_aload_n hx hb d_Model_setBytes_9 rfl (lv_at hl 1 rfl) ?_
    refine va_get (D := D) (ci := 5) (v := .ref (a 1)) (C := R_Model) (T := F_Model) (N := 16) hx hb hts i_Model hown hK hP 0 rfl rfl 1 (by decide) (hts _ k_626) (fun _ h9 => h9) rfl d_Model_setBytes_10 ?_
    refine lv_iload_n hx hb d_Model_setBytes_13 rfl (lv_at hl 2 rfl) ?_
    refine lv_iload hx hb d_Model_setBytes_14 (lv_at hl 0 rfl) ?_
    refine lv_iadd hx hb d_Model_setBytes_16 ?_
    refine lv_iload_n hx hb d_Model_setBytes_17 rfl (lv_at hl 4 rfl) ?_
    refine lv_bipush (v := 8) hx hb d_Model_setBytes_18 rfl ?_
    refine lv_iload hx hb d_Model_setBytes_20 (lv_at hl 0 rfl) ?_
    refine lv_imul hx hb d_Model_setBytes_22 ?_
    refine W.eq (g2 := F0 m 23 ls [.int 0, .int x2, .int (x0 + 0), .ref (a 1)]) rfl ?_
    refine y_ishr hx hb d_Model_setBytes_23 ?_
    refine lv_i2b hx hb d_Model_setBytes_24 rfl ?_
    refine y_bast (ws' := wR a k n h ca tv nx pcs lv cs x (upd b ((x0 + 0).toNatClampNeg) (vp_nar .byte ((shr x2 0).toInt8.toInt32))) cl cm so ti pu np) hx hb hK hP hD hS 1 0 rfl rfl (hbb 0 (by decide)) d_Model_setBytes_25 rfl (fun H locs hP hD hS => ?_)
    refine lv_iinc (v := 1) (lv' := [(4, .int 1), (0, .ref (a 0)), (1, .int x0), (2, .int 2), (3, .int x2)]) hx hb d_Model_setBytes_26 hl (k := 0) rfl rfl (by decide) rfl (fun ls hl => ?_)
    refine lv_goto (tgt := 3) hx hb d_Model_setBytes_29 (by decide) ?_
    refine lv_iload hx hb d_Model_setBytes_3 (lv_at hl 0 rfl) ?_
    refine lv_iload_n hx hb d_Model_setBytes_5 rfl (lv_at hl 3 rfl) ?_
    refine lv_icmp_ge (tgt := 32) hx hb d_Model_setBytes_6 (by decide) (fun h9 => absurd h9 (by decide)) (fun _ => ?_)
    refine lv_aload_n hx hb d_Model_setBytes_9 rfl (lv_at hl 1 rfl) ?_
    refine va_get (D := D) (ci := 5) (v := .ref (a 1)) (C := R_Model) (T := F_Model) (N := 16) hx hb hts i_Model hown hK hP 0 rfl rfl 1 (by decide) (hts _ k_626) (fun _ h9 => h9) rfl d_Model_setBytes_10 ?_
    refine lv_iload_n hx hb d_Model_setBytes_13 rfl (lv_at hl 2 rfl) ?_
    refine lv_iload hx hb d_Model_setBytes_14 (lv_at hl 0 rfl) ?_
    refine lv_iadd hx hb d_Model_setBytes_16 ?_
    refine lv_iload_n hx hb d_Model_setBytes_17 rfl (lv_at hl 4 rfl) ?_
    refine lv_bipush (v := 8) hx hb d_Model_setBytes_18 rfl ?_
    refine lv_iload hx hb d_Model_setBytes_20 (lv_at hl 0 rfl) ?_
    refine lv_imul hx hb d_Model_setBytes_22 ?_
    refine W.eq (g2 := F0 m 23 ls [.int 8, .int x2, .int (x0 + 1), .ref (a 1)]) rfl ?_
    refine y_ishr hx hb d_Model_setBytes_23 ?_
    refine lv_i2b hx hb d_Model_setBytes_24 rfl ?_
    refine y_bast (ws' := wR a k n h ca tv nx pcs lv cs x (upd (upd b ((x0 + 0).toNatClampNeg) (vp_nar .byte ((shr x2 0).toInt8.toInt32))) ((x0 + 1).toNatClampNeg) (vp_nar .byte ((shr x2 8).toInt8.toInt32))) cl cm so ti pu np) hx hb hK hP hD hS 1 0 rfl rfl (hbb 1 (by decide)) d_Model_setBytes_25 rfl (fun H locs hP hD hS => ?_)
    refine lv_iinc (v := 2) (lv' := [(4, .int 2), (0, .ref (a 0)), (1, .int x0), (2, .int 2), (3, .int x2)]) hx hb d_Model_setBytes_26 hl (k := 0) rfl rfl (by decide) rfl (fun ls hl => ?_)
    refine lv_goto (tgt := 3) hx hb d_Model_setBytes_29 (by decide) ?_
    refine lv_iload hx hb d_Model_setBytes_3 (lv_at hl 0 rfl) ?_
    refine lv_iload_n hx hb d_Model_setBytes_5 rfl (lv_at hl 3 rfl) ?_
    refine lv_icmp_ge (tgt := 32) hx hb d_Model_setBytes_6 (by decide) (fun _ => ?_) (fun h9 => absurd (by decide) h9)
    exact rv (upd (upd b ((x0 + 0).toNatClampNeg) (vp_nar .byte ((shr x2 0).toInt8.toInt32))) ((x0 + 1).toNatClampNeg) (vp_nar .byte ((shr x2 8).toInt8.toInt32))) hx hb hr hlocks hP hD hS d_Model_setBytes_32 (by simp only [sp_Model_setBytes, if_neg (by decide : ¬ (2 : Int32) = 1), if_pos (rfl : (2 : Int32) = 2), if_true, if_false])
  · refine CT.of rfl (Nat.le_of_ble_eq_true rfl) (fun p e s m below meth c A ls hx hb hr hml hts hown hlocks hA hP hK hD hF hS hl => ?_)
    have hl : lv_has ls 5 [(0, .ref (a 0)), (1, .int x0), (2, .int 4), (3, .int x2)] := hl
    refine lv_iconst (v := 0) hx hb d_Model_setBytes_0 rfl ?_
    refine lv_istore (lv' := [(4, .int 0), (0, .ref (a 0)), (1, .int x0), (2, .int 4), (3, .int x2)]) hx hb d_Model_setBytes_1 hl (by decide) rfl (fun ls hl => ?_)
    refine lv_iload hx hb d_Model_setBytes_3 (lv_at hl 0 rfl) ?_
    refine lv_iload_n hx hb d_Model_setBytes_5 rfl (lv_at hl 3 rfl) ?_
    refine lv_icmp_ge (tgt := 32) hx hb d_Model_setBytes_6 (by decide) (fun h9 => absurd h9 (by decide)) (fun _ => ?_)
    refine lv_aload_n hx hb d_Model_setBytes_9 rfl (lv_at hl 1 rfl) ?_
    refine va_get (D := D) (ci := 5) (v := .ref (a 1)) (C := R_Model) (T := F_Model) (N := 16) hx hb hts i_Model hown hK hP 0 rfl rfl 1 (by decide) (hts _ k_626) (fun _ h9 => h9) rfl d_Model_setBytes_10 ?_
    refine lv_iload_n hx hb d_Model_setBytes_13 rfl (lv_at hl 2 rfl) ?_
    refine lv_iload hx hb d_Model_setBytes_14 (lv_at hl 0 rfl) ?_
    refine lv_iadd hx hb d_Model_setBytes_16 ?_
    refine lv_iload_n hx hb d_Model_setBytes_17 rfl (lv_at hl 4 rfl) ?_
    refine lv_bipush (v := 8) hx hb d_Model_setBytes_18 rfl ?_
    refine lv_iload hx hb d_Model_setBytes_20 (lv_at hl 0 rfl) ?_
    refine lv_imul hx hb d_Model_setBytes_22 ?_
    refine W.eq (g2 := F0 m 23 ls [.int 0, .int x2, .int (x0 + 0), .ref (a 1)]) rfl ?_
    refine y_ishr hx hb d_Model_setBytes_23 ?_
    refine lv_i2b hx hb d_Model_setBytes_24 rfl ?_
    refine y_bast (ws' := wR a k n h ca tv nx pcs lv cs x (upd b ((x0 + 0).toNatClampNeg) (vp_nar .byte ((shr x2 0).toInt8.toInt32))) cl cm so ti pu np) hx hb hK hP hD hS 1 0 rfl rfl (hbb 0 (by decide)) d_Model_setBytes_25 rfl (fun H locs hP hD hS => ?_)
    refine lv_iinc (v := 1) (lv' := [(4, .int 1), (0, .ref (a 0)), (1, .int x0), (2, .int 4), (3, .int x2)]) hx hb d_Model_setBytes_26 hl (k := 0) rfl rfl (by decide) rfl (fun ls hl => ?_)
    refine lv_goto (tgt := 3) hx hb d_Model_setBytes_29 (by decide) ?_
    refine lv_iload hx hb d_Model_setBytes_3 (lv_at hl 0 rfl) ?_
    refine lv_iload_n hx hb d_Model_setBytes_5 rfl (lv_at hl 3 rfl) ?_
    refine lv_icmp_ge (tgt := 32) hx hb d_Model_setBytes_6 (by decide) (fun h9 => absurd h9 (by decide)) (fun _ => ?_)
    refine lv_aload_n hx hb d_Model_setBytes_9 rfl (lv_at hl 1 rfl) ?_
    refine va_get (D := D) (ci := 5) (v := .ref (a 1)) (C := R_Model) (T := F_Model) (N := 16) hx hb hts i_Model hown hK hP 0 rfl rfl 1 (by decide) (hts _ k_626) (fun _ h9 => h9) rfl d_Model_setBytes_10 ?_
    refine lv_iload_n hx hb d_Model_setBytes_13 rfl (lv_at hl 2 rfl) ?_
    refine lv_iload hx hb d_Model_setBytes_14 (lv_at hl 0 rfl) ?_
    refine lv_iadd hx hb d_Model_setBytes_16 ?_
    refine lv_iload_n hx hb d_Model_setBytes_17 rfl (lv_at hl 4 rfl) ?_
    refine lv_bipush (v := 8) hx hb d_Model_setBytes_18 rfl ?_
    refine lv_iload hx hb d_Model_setBytes_20 (lv_at hl 0 rfl) ?_
    refine lv_imul hx hb d_Model_setBytes_22 ?_
    refine W.eq (g2 := F0 m 23 ls [.int 8, .int x2, .int (x0 + 1), .ref (a 1)]) rfl ?_
    refine y_ishr hx hb d_Model_setBytes_23 ?_
    refine lv_i2b hx hb d_Model_setBytes_24 rfl ?_
    refine y_bast (ws' := wR a k n h ca tv nx pcs lv cs x (upd (upd b ((x0 + 0).toNatClampNeg) (vp_nar .byte ((shr x2 0).toInt8.toInt32))) ((x0 + 1).toNatClampNeg) (vp_nar .byte ((shr x2 8).toInt8.toInt32))) cl cm so ti pu np) hx hb hK hP hD hS 1 0 rfl rfl (hbb 1 (by decide)) d_Model_setBytes_25 rfl (fun H locs hP hD hS => ?_)
    refine lv_iinc (v := 2) (lv' := [(4, .int 2), (0, .ref (a 0)), (1, .int x0), (2, .int 4), (3, .int x2)]) hx hb d_Model_setBytes_26 hl (k := 0) rfl rfl (by decide) rfl (fun ls hl => ?_)
    refine lv_goto (tgt := 3) hx hb d_Model_setBytes_29 (by decide) ?_
    refine lv_iload hx hb d_Model_setBytes_3 (lv_at hl 0 rfl) ?_
    refine lv_iload_n hx hb d_Model_setBytes_5 rfl (lv_at hl 3 rfl) ?_
    refine lv_icmp_ge (tgt := 32) hx hb d_Model_setBytes_6 (by decide) (fun h9 => absurd h9 (by decide)) (fun _ => ?_)
    refine lv_aload_n hx hb d_Model_setBytes_9 rfl (lv_at hl 1 rfl) ?_
    refine va_get (D := D) (ci := 5) (v := .ref (a 1)) (C := R_Model) (T := F_Model) (N := 16) hx hb hts i_Model hown hK hP 0 rfl rfl 1 (by decide) (hts _ k_626) (fun _ h9 => h9) rfl d_Model_setBytes_10 ?_
    refine lv_iload_n hx hb d_Model_setBytes_13 rfl (lv_at hl 2 rfl) ?_
    refine lv_iload hx hb d_Model_setBytes_14 (lv_at hl 0 rfl) ?_
    refine lv_iadd hx hb d_Model_setBytes_16 ?_
    refine lv_iload_n hx hb d_Model_setBytes_17 rfl (lv_at hl 4 rfl) ?_
    refine lv_bipush (v := 8) hx hb d_Model_setBytes_18 rfl ?_
    refine lv_iload hx hb d_Model_setBytes_20 (lv_at hl 0 rfl) ?_
    refine lv_imul hx hb d_Model_setBytes_22 ?_
    refine W.eq (g2 := F0 m 23 ls [.int 16, .int x2, .int (x0 + 2), .ref (a 1)]) rfl ?_
    refine y_ishr hx hb d_Model_setBytes_23 ?_
    refine lv_i2b hx hb d_Model_setBytes_24 rfl ?_
    refine y_bast (ws' := wR a k n h ca tv nx pcs lv cs x (upd (upd (upd b ((x0 + 0).toNatClampNeg) (vp_nar .byte ((shr x2 0).toInt8.toInt32))) ((x0 + 1).toNatClampNeg) (vp_nar .byte ((shr x2 8).toInt8.toInt32))) ((x0 + 2).toNatClampNeg) (vp_nar .byte ((shr x2 16).toInt8.toInt32))) cl cm so ti pu np) hx hb hK hP hD hS 1 0 rfl rfl (hbb 2 (by decide)) d_Model_setBytes_25 rfl (fun H locs hP hD hS => ?_)
    refine lv_iinc (v := 3) (lv' := [(4, .int 3), (0, .ref (a 0)), (1, .int x0), (2, .int 4), (3, .int x2)]) hx hb d_Model_setBytes_26 hl (k := 0) rfl rfl (by decide) rfl (fun ls hl => ?_)
    refine lv_goto (tgt := 3) hx hb d_Model_setBytes_29 (by decide) ?_
    refine lv_iload hx hb d_Model_setBytes_3 (lv_at hl 0 rfl) ?_
    refine lv_iload_n hx hb d_Model_setBytes_5 rfl (lv_at hl 3 rfl) ?_
    refine lv_icmp_ge (tgt := 32) hx hb d_Model_setBytes_6 (by decide) (fun h9 => absurd h9 (by decide)) (fun _ => ?_)
    refine lv_aload_n hx hb d_Model_setBytes_9 rfl (lv_at hl 1 rfl) ?_
    refine va_get (D := D) (ci := 5) (v := .ref (a 1)) (C := R_Model) (T := F_Model) (N := 16) hx hb hts i_Model hown hK hP 0 rfl rfl 1 (by decide) (hts _ k_626) (fun _ h9 => h9) rfl d_Model_setBytes_10 ?_
    refine lv_iload_n hx hb d_Model_setBytes_13 rfl (lv_at hl 2 rfl) ?_
    refine lv_iload hx hb d_Model_setBytes_14 (lv_at hl 0 rfl) ?_
    refine lv_iadd hx hb d_Model_setBytes_16 ?_
    refine lv_iload_n hx hb d_Model_setBytes_17 rfl (lv_at hl 4 rfl) ?_
    refine lv_bipush (v := 8) hx hb d_Model_setBytes_18 rfl ?_
    refine lv_iload hx hb d_Model_setBytes_20 (lv_at hl 0 rfl) ?_
    refine lv_imul hx hb d_Model_setBytes_22 ?_
    refine W.eq (g2 := F0 m 23 ls [.int 24, .int x2, .int (x0 + 3), .ref (a 1)]) rfl ?_
    refine y_ishr hx hb d_Model_setBytes_23 ?_
    refine lv_i2b hx hb d_Model_setBytes_24 rfl ?_
    refine y_bast (ws' := wR a k n h ca tv nx pcs lv cs x (upd (upd (upd (upd b ((x0 + 0).toNatClampNeg) (vp_nar .byte ((shr x2 0).toInt8.toInt32))) ((x0 + 1).toNatClampNeg) (vp_nar .byte ((shr x2 8).toInt8.toInt32))) ((x0 + 2).toNatClampNeg) (vp_nar .byte ((shr x2 16).toInt8.toInt32))) ((x0 + 3).toNatClampNeg) (vp_nar .byte ((shr x2 24).toInt8.toInt32))) cl cm so ti pu np) hx hb hK hP hD hS 1 0 rfl rfl (hbb 3 (by decide)) d_Model_setBytes_25 rfl (fun H locs hP hD hS => ?_)
    refine lv_iinc (v := 4) (lv' := [(4, .int 4), (0, .ref (a 0)), (1, .int x0), (2, .int 4), (3, .int x2)]) hx hb d_Model_setBytes_26 hl (k := 0) rfl rfl (by decide) rfl (fun ls hl => ?_)
    refine lv_goto (tgt := 3) hx hb d_Model_setBytes_29 (by decide) ?_
    refine lv_iload hx hb d_Model_setBytes_3 (lv_at hl 0 rfl) ?_
    refine lv_iload_n hx hb d_Model_setBytes_5 rfl (lv_at hl 3 rfl) ?_
    refine lv_icmp_ge (tgt := 32) hx hb d_Model_setBytes_6 (by decide) (fun _ => ?_) (fun h9 => absurd (by decide) h9)
    exact rv (upd (upd (upd (upd b ((x0 + 0).toNatClampNeg) (vp_nar .byte ((shr x2 0).toInt8.toInt32))) ((x0 + 1).toNatClampNeg) (vp_nar .byte ((shr x2 8).toInt8.toInt32))) ((x0 + 2).toNatClampNeg) (vp_nar .byte ((shr x2 16).toInt8.toInt32))) ((x0 + 3).toNatClampNeg) (vp_nar .byte ((shr x2 24).toInt8.toInt32))) hx hb hr hlocks hP hD hS d_Model_setBytes_32 (by simp only [sp_Model_setBytes, if_neg (by decide : ¬ (4 : Int32) = 1), if_neg (by decide : ¬ (4 : Int32) = 2), if_true, if_false])
def sp_Model_inRam (n : Nat) (x0 : Int64)  : Int32 :=
  if (x0 - 2147483648) < 0 then
    (-1)
  else
    if (4 * ((nI n).toInt64)) ≤ (x0 - 2147483648) then
      (-1)
    else
      (x0 - 2147483648).toInt32
set_option maxHeartbeats 4000000 in
set_option maxRecDepth 100000 in
theorem c_Model_inRam {l : Launch} {D : va_G} {g : Nat → Nat} (a : Nat → Nat) (k : Nat → ClassId) (n : Nat) (x0 : Int64) (h ca tv nx : Int32) (pcs lv cs x b cl : Nat → Int32) (cm : Nat → Int64) (so : Nat → Int32) (ti : Int64) (pu : Nat → Int32) (np : Int32) (hn : n ≤ 4096) : CT l D g y_Model_inRam b_Model_inRam 5 (some .int) (rD 0) [.ref (a 0), .long x0] (wR a k n h ca tv nx pcs lv cs x b cl cm so ti pu np) (tyR k) (Qi D (fun (r : Int32) (_ : Unit) => sp_Model_inRam n x0 = r) (fun _ => wR a k n h ca tv nx pcs lv cs x b cl cm so ti pu np)) := by
  refine CT.of rfl (Nat.le_of_ble_eq_true rfl) (fun p e s m below meth c A ls hx hb hr hml hts hown hlocks hA hP hK hD hF hS hl => ?_)
  have hl : lv_has ls 5 [(0, .ref (a 0)), (1, .long x0)] := hl
  refine lv_lload_n hx hb d_Model_inRam_0 rfl (lv_at hl 1 rfl) ?_
  refine lv_ldc2 (v := 2147483648) hx hb hown (hts _ k_759) d_Model_inRam_1 ?_
  refine lv_lsub hx hb d_Model_inRam_4 ?_
  refine lv_lstore_n (lv' := [(3, .long (x0 - 2147483648)), (0, .ref (a 0)), (1, .long x0)]) hx hb d_Model_inRam_5 rfl hl (by decide) rfl (fun ls hl => ?_)
  refine lv_lload_n hx hb d_Model_inRam_6 rfl (lv_at hl 0 rfl) ?_
  refine lv_lconst (v := 0) hx hb d_Model_inRam_7 rfl ?_
  refine W.lcmp hx hb d_Model_inRam_8 ?_
  refine lv_if_lt (tgt := 31) hx hb d_Model_inRam_9 (by decide) (fun b_1 => ?_) (fun b_1 => ?_)
  · have c_1 : (x0 - 2147483648) < 0 := (lg_cmp_lt _ _).mp b_1
    refine lv_iconst (v := (-1)) hx hb d_Model_inRam_31 rfl ?_
    exact ri () hx hb hr hlocks hP hD hS d_Model_inRam_32 (by simp only [sp_Model_inRam, if_pos c_1])
  · have c_1 : ¬ (x0 - 2147483648) < 0 := fun h9 => b_1 ((lg_cmp_lt _ _).mpr h9)
    refine lv_lload_n hx hb d_Model_inRam_12 rfl (lv_at hl 0 rfl) ?_
    refine lv_ldc2 (v := 4) hx hb hown (hts _ k_754) d_Model_inRam_13 ?_
    refine lv_aload_n hx hb d_Model_inRam_16 rfl (lv_at hl 1 rfl) ?_
    refine va_get (D := D) (ci := 5) (v := .int (nI n)) (C := R_Model) (T := F_Model) (N := 16) hx hb hts i_Model hown hK hP 0 rfl rfl 0 (by decide) (hts _ k_625) (fun _ h9 => h9) rfl d_Model_inRam_17 ?_
    refine lv_i2l hx hb d_Model_inRam_20 rfl ?_
    refine lv_lmul hx hb d_Model_inRam_21 ?_
    refine W.lcmp hx hb d_Model_inRam_22 ?_
    refine lv_if_ge (tgt := 31) hx hb d_Model_inRam_23 (by decide) (fun b_2 => ?_) (fun b_2 => ?_)
    · have c_2 : (4 * ((nI n).toInt64)) ≤ (x0 - 2147483648) := (lg_cmp_ge _ _).mp b_2
      refine lv_iconst (v := (-1)) hx hb d_Model_inRam_31 rfl ?_
      exact ri () hx hb hr hlocks hP hD hS d_Model_inRam_32 (by simp only [sp_Model_inRam, if_neg c_1, if_pos c_2])
    · have c_2 : ¬ (4 * ((nI n).toInt64)) ≤ (x0 - 2147483648) := fun h9 => b_2 ((lg_cmp_ge _ _).mpr h9)
      refine lv_lload_n hx hb d_Model_inRam_26 rfl (lv_at hl 0 rfl) ?_
      refine lv_l2i hx hb d_Model_inRam_27 rfl ?_
      refine lv_goto (tgt := 32) hx hb d_Model_inRam_28 (by decide) ?_
      exact ri () hx hb hr hlocks hP hD hS d_Model_inRam_32 (by simp only [sp_Model_inRam, if_neg c_1, if_neg c_2])
theorem inRam_at {n : Nat} {a : Int64} (hn : n ≤ 4096) (c : 0 ≤ sp_Model_inRam n a) : ∃ j, j < 4 * n ∧ a = lN (2147483648 + j) ∧ sp_Model_inRam n a = nI j := by
  unfold sp_Model_inRam at c ⊢
  by_cases h1 : (a - 2147483648) < 0
  · rw [if_pos h1] at c; exact absurd c (by decide)
  · rw [if_neg h1] at c ⊢
    by_cases h2 : (4 * ((nI n).toInt64)) ≤ (a - 2147483648)
    · rw [if_pos h2] at c; exact absurd c (by decide)
    · rw [if_neg h2] at c ⊢
      obtain ⟨k, hk, e⟩ := pk_lOf h1
      rw [e] at h2 ⊢
      rw [nI_l (by omega), show (4 : Int64) = lN 4 from rfl, lN_mul, pk_lLE (by omega) hk] at h2
      refine ⟨k, by omega, ?_, lN_i k⟩
      have e2 : a = (a - 2147483648) + 2147483648 := (Int64.sub_add_cancel a _).symm
      rw [e2, e, show (2147483648 : Int64) = lN 2147483648 from rfl, lN_add, Nat.add_comm]
theorem vpw_in {n : Nat} {p q : Int64} (hn : n ≤ 4096) (c : 0 ≤ sp_Model_inRam n ((4096 * p) + (4 * q))) : vpw (sp_Model_inRam n ((4096 * p) + (4 * q))) := by
  obtain ⟨j, hj, ha, e⟩ := inRam_at hn c
  rw [e]
  have h1 : ((4096 * p) + (4 * q)).toBitVec.toNat % 4 = (lN (2147483648 + j)).toBitVec.toNat % 4 := by rw [ha]
  have h2 : ((4096 * p) + (4 * q)).toBitVec.toNat % 4 = 0 := by
    show ((4096#64 * p.toBitVec) + (4#64 * q.toBitVec)).toNat % 4 = 0
    rw [BitVec.toNat_add, BitVec.toNat_mul, BitVec.toNat_mul]
    have e1 : (4096#64).toNat = 4096 := rfl
    have e2 : (4#64).toNat = 4 := rfl
    rw [e1, e2]
    omega
  rw [h2, lN_tn (by omega)] at h1
  exact vpw_nI (by omega)
def sp_Model_poke (n : Nat) (x0 : Int32) (x1 : Int32) (b : Nat → Int32) : Int32 × (Nat → Int32) :=
  if x0 < 0 then
    (0, b)
  else
    if x0 < (nI n) then
      let b_3 := (sp_Model_setBytes (4 * x0) 4 x1 b)
      (1, b_3)
    else
      (0, b)
set_option maxHeartbeats 4000000 in
set_option maxRecDepth 100000 in
theorem c_Model_poke {l : Launch} {D : va_G} {g : Nat → Nat} (a : Nat → Nat) (k : Nat → ClassId) (n : Nat) (x0 : Int32) (x1 : Int32) (h ca tv nx : Int32) (pcs lv cs x b cl : Nat → Int32) (cm : Nat → Int64) (so : Nat → Int32) (ti : Int64) (pu : Nat → Int32) (np : Int32) (hn : n ≤ 4096) : CT l D g y_Model_poke b_Model_poke 3 (some .boolean) (rD 1) [.ref (a 0), .int x0, .int x1] (wR a k n h ca tv nx pcs lv cs x b cl cm so ti pu np) (tyR k) (Qi D (fun (r : Int32) (u : Nat → Int32) => sp_Model_poke n x0 x1 b = (r, u) ∧ (r = 0 ∨ r = 1)) (fun u => wR a k n h ca tv nx pcs lv cs x u cl cm so ti pu np)) := by
  refine CT.of rfl (Nat.le_of_ble_eq_true rfl) (fun p e s m below meth c A ls hx hb hr hml hts hown hlocks hA hP hK hD hF hS hl => ?_)
  have hl : lv_has ls 3 [(0, .ref (a 0)), (1, .int x0), (2, .int x1)] := hl
  refine lv_iload_n hx hb d_Model_poke_0 rfl (lv_at hl 1 rfl) ?_
  refine lv_if_lt (tgt := 12) hx hb d_Model_poke_1 (by decide) (fun c_1 => ?_) (fun c_1 => ?_)
  · refine lv_iconst (v := 0) hx hb d_Model_poke_12 rfl ?_
    exact rz b hx hb hr hlocks rfl hP hD hS d_Model_poke_13 ⟨by simp only [sp_Model_poke, if_pos c_1], Or.inl rfl⟩
  · refine lv_iload_n hx hb d_Model_poke_4 rfl (lv_at hl 1 rfl) ?_
    refine lv_aload_n hx hb d_Model_poke_5 rfl (lv_at hl 0 rfl) ?_
    refine va_get (D := D) (ci := 5) (v := .int (nI n)) (C := R_Model) (T := F_Model) (N := 16) hx hb hts i_Model hown hK hP 0 rfl rfl 0 (by decide) (hts _ k_625) (fun _ h9 => h9) rfl d_Model_poke_6 ?_
    refine lv_icmp_lt (tgt := 14) hx hb d_Model_poke_9 (by decide) (fun c_2 => ?_) (fun c_2 => ?_)
    · refine lv_aload_n hx hb d_Model_poke_14 rfl (lv_at hl 0 rfl) ?_
      refine lv_iconst (v := 4) hx hb d_Model_poke_15 rfl ?_
      refine lv_iload_n hx hb d_Model_poke_16 rfl (lv_at hl 1 rfl) ?_
      refine lv_imul hx hb d_Model_poke_17 ?_
      refine lv_iconst (v := 4) hx hb d_Model_poke_18 rfl ?_
      refine lv_iload_n hx hb d_Model_poke_19 rfl (lv_at hl 2 rfl) ?_
      refine xv (wr := []) (W2 := fun u9 => wR a k n h ca tv nx pcs lv cs x u9 cl cm so ti pu np) (xV (rest := []) ⟨hx, hb, hml, hown, hts⟩ (c_Model_setBytes a k n (4 * x0) 4 x1 h ca tv nx pcs lv cs x b cl cm so ti pu np hn (Or.inr (Or.inr rfl)) (sb_poke hn c_1 c_2)) mw_Model_setBytes mv_Model_setBytes k_682 ⟨rfl, rfl, Nat.le_of_ble_eq_true rfl, Nat.le_of_ble_eq_true rfl⟩ hK hP hD hS hA hF [0, 1, 2, 3, 4, 5, 6, 7, 8, 9] [0, 1, 2, 3, 4, 5, 6, 7, 8] rfl rfl rfl 0 5 rfl rfl rfl rfl hl.1 rfl (Nat.le_of_ble_eq_true rfl) d_Model_poke_20 ⟨Nat.zero_le _, Nat.zero_le _⟩) hP hD hS hA [0, 1, 2, 3, 4, 5, 6, 7, 8, 9] [] [0, 1, 2, 3, 4, 5, 6, 7, 8, 9] rfl rfl rfl (by decide) (fun _ => rfl) rfl (fun u_3 H locs h_3 hP hD hS => ?_)
      obtain ⟨b_3, e_3⟩ : ∃ z, z = u_3 := ⟨_, rfl⟩
      subst e_3
      refine lv_iconst (v := 1) hx hb d_Model_poke_23 rfl ?_
      exact rz b_3 hx hb hr hlocks rfl hP hD hS d_Model_poke_24 ⟨by simp only [sp_Model_poke, h_3, if_neg c_1, if_pos c_2], Or.inr rfl⟩
    · refine lv_iconst (v := 0) hx hb d_Model_poke_12 rfl ?_
      exact rz b hx hb hr hlocks rfl hP hD hS d_Model_poke_13 ⟨by simp only [sp_Model_poke, if_neg c_1, if_neg c_2], Or.inl rfl⟩
def sp_Model_peek (n : Nat) (x0 : Int32) (b : Nat → Int32) : Int32 :=
  if x0 < 0 then
    0
  else
    if x0 < (nI n) then
      sp_Model_ramWord (4 * x0) b
    else
      0
set_option maxHeartbeats 4000000 in
set_option maxRecDepth 100000 in
theorem c_Model_peek {l : Launch} {D : va_G} {g : Nat → Nat} (a : Nat → Nat) (k : Nat → ClassId) (n : Nat) (x0 : Int32) (h ca tv nx : Int32) (pcs lv cs x b cl : Nat → Int32) (cm : Nat → Int64) (so : Nat → Int32) (ti : Int64) (pu : Nat → Int32) (np : Int32) (hn : n ≤ 4096) : CT l D g y_Model_peek b_Model_peek 2 (some .int) (rD 2) [.ref (a 0), .int x0] (wR a k n h ca tv nx pcs lv cs x b cl cm so ti pu np) (tyR k) (Qi D (fun (r : Int32) (_ : Unit) => sp_Model_peek n x0 b = r) (fun _ => wR a k n h ca tv nx pcs lv cs x b cl cm so ti pu np)) := by
  refine CT.of rfl (Nat.le_of_ble_eq_true rfl) (fun p e s m below meth c A ls hx hb hr hml hts hown hlocks hA hP hK hD hF hS hl => ?_)
  have hl : lv_has ls 2 [(0, .ref (a 0)), (1, .int x0)] := hl
  refine lv_iload_n hx hb d_Model_peek_0 rfl (lv_at hl 1 rfl) ?_
  refine lv_if_lt (tgt := 12) hx hb d_Model_peek_1 (by decide) (fun c_1 => ?_) (fun c_1 => ?_)
  · refine lv_iconst (v := 0) hx hb d_Model_peek_12 rfl ?_
    refine lv_goto (tgt := 23) hx hb d_Model_peek_13 (by decide) ?_
    exact ri () hx hb hr hlocks hP hD hS d_Model_peek_23 (by simp only [sp_Model_peek, if_pos c_1])
  · refine lv_iload_n hx hb d_Model_peek_4 rfl (lv_at hl 1 rfl) ?_
    refine lv_aload_n hx hb d_Model_peek_5 rfl (lv_at hl 0 rfl) ?_
    refine va_get (D := D) (ci := 5) (v := .int (nI n)) (C := R_Model) (T := F_Model) (N := 16) hx hb hts i_Model hown hK hP 0 rfl rfl 0 (by decide) (hts _ k_625) (fun _ h9 => h9) rfl d_Model_peek_6 ?_
    refine lv_icmp_lt (tgt := 16) hx hb d_Model_peek_9 (by decide) (fun c_2 => ?_) (fun c_2 => ?_)
    · refine lv_aload_n hx hb d_Model_peek_16 rfl (lv_at hl 0 rfl) ?_
      refine lv_iconst (v := 4) hx hb d_Model_peek_17 rfl ?_
      refine lv_iload_n hx hb d_Model_peek_18 rfl (lv_at hl 1 rfl) ?_
      refine lv_imul hx hb d_Model_peek_19 ?_
      refine xi (wr := []) (W2 := fun _ => wR a k n h ca tv nx pcs lv cs x b cl cm so ti pu np) (xV (rest := []) ⟨hx, hb, hml, hown, hts⟩ (c_Model_ramWord a k n (4 * x0) h ca tv nx pcs lv cs x b cl cm so ti pu np hn (vpw_k hn c_1 c_2)) mw_Model_ramWord mv_Model_ramWord k_690 ⟨rfl, rfl, Nat.le_of_ble_eq_true rfl, Nat.le_of_ble_eq_true rfl⟩ hK hP hD hS hA hF [0, 1, 2, 3, 4, 5, 6, 7, 8, 9] [0, 1, 2, 3, 4, 5, 6, 7, 8] rfl rfl rfl 0 5 rfl rfl rfl rfl hl.1 rfl (Nat.le_of_ble_eq_true rfl) d_Model_peek_20 ⟨Nat.zero_le _, Nat.zero_le _⟩) hP hD hS hA [0, 1, 2, 3, 4, 5, 6, 7, 8, 9] [] [0, 1, 2, 3, 4, 5, 6, 7, 8, 9] rfl rfl rfl (by decide) (fun _ => rfl) rfl (fun r_3 _ H locs h_3 hP hD hS => ?_)
      subst h_3
      exact ri () hx hb hr hlocks hP hD hS d_Model_peek_23 (by simp only [sp_Model_peek, if_neg c_1, if_pos c_2])
    · refine lv_iconst (v := 0) hx hb d_Model_peek_12 rfl ?_
      refine lv_goto (tgt := 23) hx hb d_Model_peek_13 (by decide) ?_
      exact ri () hx hb hr hlocks hP hD hS d_Model_peek_23 (by simp only [sp_Model_peek, if_neg c_1, if_neg c_2])
def sp_Model_isCsr (x0 : Int32)  : Int32 :=
  if x0 < 768 then
    if x0 < 832 then
      if x0 < 3857 then
        if x0 = 256 then
          1
        else
          if x0 = 260 then
            1
          else
            if x0 = 261 then
              1
            else
              if x0 < 320 then
                if x0 = 384 then
                  1
                else
                  0
              else
                if x0 ≤ 324 then
                  1
                else
                  if x0 = 384 then
                    1
                  else
                    0
      else
        if 3860 < x0 then
          if x0 = 256 then
            1
          else
            if x0 = 260 then
              1
            else
              if x0 = 261 then
                1
              else
                if x0 < 320 then
                  if x0 = 384 then
                    1
                  else
                    0
                else
                  if x0 ≤ 324 then
                    1
                  else
                    if x0 = 384 then
                      1
                    else
                      0
        else
          1
    else
      if x0 ≤ 836 then
        1
      else
        if x0 < 3857 then
          if x0 = 256 then
            1
          else
            if x0 = 260 then
              1
            else
              if x0 = 261 then
                1
              else
                if x0 < 320 then
                  if x0 = 384 then
                    1
                  else
                    0
                else
                  if x0 ≤ 324 then
                    1
                  else
                    if x0 = 384 then
                      1
                    else
                      0
        else
          if 3860 < x0 then
            if x0 = 256 then
              1
            else
              if x0 = 260 then
                1
              else
                if x0 = 261 then
                  1
                else
                  if x0 < 320 then
                    if x0 = 384 then
                      1
                    else
                      0
                  else
                    if x0 ≤ 324 then
                      1
                    else
                      if x0 = 384 then
                        1
                      else
                        0
          else
            1
  else
    if x0 ≤ 773 then
      1
    else
      if x0 < 832 then
        if x0 < 3857 then
          if x0 = 256 then
            1
          else
            if x0 = 260 then
              1
            else
              if x0 = 261 then
                1
              else
                if x0 < 320 then
                  if x0 = 384 then
                    1
                  else
                    0
                else
                  if x0 ≤ 324 then
                    1
                  else
                    if x0 = 384 then
                      1
                    else
                      0
        else
          if 3860 < x0 then
            if x0 = 256 then
              1
            else
              if x0 = 260 then
                1
              else
                if x0 = 261 then
                  1
                else
                  if x0 < 320 then
                    if x0 = 384 then
                      1
                    else
                      0
                  else
                    if x0 ≤ 324 then
                      1
                    else
                      if x0 = 384 then
                        1
                      else
                        0
          else
            1
      else
        if x0 ≤ 836 then
          1
        else
          if x0 < 3857 then
            if x0 = 256 then
              1
            else
              if x0 = 260 then
                1
              else
                if x0 = 261 then
                  1
                else
                  if x0 < 320 then
                    if x0 = 384 then
                      1
                    else
                      0
                  else
                    if x0 ≤ 324 then
                      1
                    else
                      if x0 = 384 then
                        1
                      else
                        0
          else
            if 3860 < x0 then
              if x0 = 256 then
                1
              else
                if x0 = 260 then
                  1
                else
                  if x0 = 261 then
                    1
                  else
                    if x0 < 320 then
                      if x0 = 384 then
                        1
                      else
                        0
                    else
                      if x0 ≤ 324 then
                        1
                      else
                        if x0 = 384 then
                          1
                        else
                          0
            else
              1
set_option maxHeartbeats 4000000 in
set_option maxRecDepth 100000 in
theorem c_Model_isCsr {l : Launch} {D : va_G} {g : Nat → Nat}  (x0 : Int32)   : CT l D g y_Model_isCsr b_Model_isCsr 2 (some .boolean) (rD 0) [.int x0] [] [] (Qi D (fun (r : Int32) (_ : Unit) => sp_Model_isCsr x0 = r ∧ (r = 0 ∨ r = 1)) (fun _ => [])) := by
  refine CT.of rfl (Nat.le_of_ble_eq_true rfl) (fun p e s m below meth c A ls hx hb hr hml hts hown hlocks hA hP hK hD hF hS hl => ?_)
  have hl : lv_has ls 2 [(0, .int x0)] := hl
  refine lv_iload_n hx hb d_Model_isCsr_0 rfl (lv_at hl 0 rfl) ?_
  refine lv_sipush (v := 768) hx hb d_Model_isCsr_1 rfl ?_
  refine lv_icmp_lt (tgt := 14) hx hb d_Model_isCsr_4 (by decide) (fun c_1 => ?_) (fun c_1 => ?_)
  · refine lv_iload_n hx hb d_Model_isCsr_14 rfl (lv_at hl 0 rfl) ?_
    refine lv_sipush (v := 832) hx hb d_Model_isCsr_15 rfl ?_
    refine lv_icmp_lt (tgt := 28) hx hb d_Model_isCsr_18 (by decide) (fun c_2 => ?_) (fun c_2 => ?_)
    · refine lv_iload_n hx hb d_Model_isCsr_28 rfl (lv_at hl 0 rfl) ?_
      refine lv_sipush (v := 3857) hx hb d_Model_isCsr_29 rfl ?_
      refine lv_icmp_lt (tgt := 46) hx hb d_Model_isCsr_32 (by decide) (fun c_3 => ?_) (fun c_3 => ?_)
      · refine lv_iconst (v := 0) hx hb d_Model_isCsr_46 rfl ?_
        refine lv_istore_n (lv' := [(1, .int 0), (0, .int x0)]) hx hb d_Model_isCsr_47 rfl hl (by decide) rfl (fun ls hl => ?_)
        refine lv_iload_n hx hb d_Model_isCsr_48 rfl (lv_at hl 0 rfl) ?_
        refine lv_if_ne (tgt := 94) hx hb d_Model_isCsr_49 (by decide) (fun h9 => absurd (by decide) h9) (fun _ => ?_)
        refine lv_iload_n hx hb d_Model_isCsr_52 rfl (lv_at hl 1 rfl) ?_
        refine lv_sipush (v := 256) hx hb d_Model_isCsr_53 rfl ?_
        refine lv_icmp_eq (tgt := 94) hx hb d_Model_isCsr_56 (by decide) (fun c_5 => ?_) (fun c_5 => ?_)
        · refine lv_iconst (v := 1) hx hb d_Model_isCsr_94 rfl ?_
          refine lv_goto (tgt := 99) hx hb d_Model_isCsr_95 (by decide) ?_
          exact rz () hx hb hr hlocks rfl hP hD hS d_Model_isCsr_99 ⟨by simp only [sp_Model_isCsr, if_pos c_1, if_pos c_2, if_pos c_3, if_pos c_5], Or.inr rfl⟩
        · refine lv_iload_n hx hb d_Model_isCsr_59 rfl (lv_at hl 1 rfl) ?_
          refine lv_sipush (v := 260) hx hb d_Model_isCsr_60 rfl ?_
          refine lv_icmp_eq (tgt := 94) hx hb d_Model_isCsr_63 (by decide) (fun c_6 => ?_) (fun c_6 => ?_)
          · refine lv_iconst (v := 1) hx hb d_Model_isCsr_94 rfl ?_
            refine lv_goto (tgt := 99) hx hb d_Model_isCsr_95 (by decide) ?_
            exact rz () hx hb hr hlocks rfl hP hD hS d_Model_isCsr_99 ⟨by simp only [sp_Model_isCsr, if_pos c_1, if_pos c_2, if_pos c_3, if_neg c_5, if_pos c_6], Or.inr rfl⟩
          · refine lv_iload_n hx hb d_Model_isCsr_66 rfl (lv_at hl 1 rfl) ?_
            refine lv_sipush (v := 261) hx hb d_Model_isCsr_67 rfl ?_
            refine lv_icmp_eq (tgt := 94) hx hb d_Model_isCsr_70 (by decide) (fun c_7 => ?_) (fun c_7 => ?_)
            · refine lv_iconst (v := 1) hx hb d_Model_isCsr_94 rfl ?_
              refine lv_goto (tgt := 99) hx hb d_Model_isCsr_95 (by decide) ?_
              exact rz () hx hb hr hlocks rfl hP hD hS d_Model_isCsr_99 ⟨by simp only [sp_Model_isCsr, if_pos c_1, if_pos c_2, if_pos c_3, if_neg c_5, if_neg c_6, if_pos c_7], Or.inr rfl⟩
            · refine lv_iload_n hx hb d_Model_isCsr_73 rfl (lv_at hl 1 rfl) ?_
              refine lv_sipush (v := 320) hx hb d_Model_isCsr_74 rfl ?_
              refine lv_icmp_lt (tgt := 87) hx hb d_Model_isCsr_77 (by decide) (fun c_8 => ?_) (fun c_8 => ?_)
              · refine lv_iload_n hx hb d_Model_isCsr_87 rfl (lv_at hl 1 rfl) ?_
                refine lv_sipush (v := 384) hx hb d_Model_isCsr_88 rfl ?_
                refine lv_icmp_ne (tgt := 98) hx hb d_Model_isCsr_91 (by decide) (fun c_9 => ?_) (fun c_9 => ?_)
                · refine lv_iconst (v := 0) hx hb d_Model_isCsr_98 rfl ?_
                  exact rz () hx hb hr hlocks rfl hP hD hS d_Model_isCsr_99 ⟨by simp only [sp_Model_isCsr, if_pos c_1, if_pos c_2, if_pos c_3, if_neg c_5, if_neg c_6, if_neg c_7, if_pos c_8, if_neg c_9], Or.inl rfl⟩
                · refine lv_iconst (v := 1) hx hb d_Model_isCsr_94 rfl ?_
                  refine lv_goto (tgt := 99) hx hb d_Model_isCsr_95 (by decide) ?_
                  exact rz () hx hb hr hlocks rfl hP hD hS d_Model_isCsr_99 ⟨by simp only [sp_Model_isCsr, if_pos c_1, if_pos c_2, if_pos c_3, if_neg c_5, if_neg c_6, if_neg c_7, if_pos c_8, if_pos c_9], Or.inr rfl⟩
              · refine lv_iload_n hx hb d_Model_isCsr_80 rfl (lv_at hl 1 rfl) ?_
                refine lv_sipush (v := 324) hx hb d_Model_isCsr_81 rfl ?_
                refine lv_icmp_le (tgt := 94) hx hb d_Model_isCsr_84 (by decide) (fun c_10 => ?_) (fun c_10 => ?_)
                · refine lv_iconst (v := 1) hx hb d_Model_isCsr_94 rfl ?_
                  refine lv_goto (tgt := 99) hx hb d_Model_isCsr_95 (by decide) ?_
                  exact rz () hx hb hr hlocks rfl hP hD hS d_Model_isCsr_99 ⟨by simp only [sp_Model_isCsr, if_pos c_1, if_pos c_2, if_pos c_3, if_neg c_5, if_neg c_6, if_neg c_7, if_neg c_8, if_pos c_10], Or.inr rfl⟩
                · refine lv_iload_n hx hb d_Model_isCsr_87 rfl (lv_at hl 1 rfl) ?_
                  refine lv_sipush (v := 384) hx hb d_Model_isCsr_88 rfl ?_
                  refine lv_icmp_ne (tgt := 98) hx hb d_Model_isCsr_91 (by decide) (fun c_11 => ?_) (fun c_11 => ?_)
                  · refine lv_iconst (v := 0) hx hb d_Model_isCsr_98 rfl ?_
                    exact rz () hx hb hr hlocks rfl hP hD hS d_Model_isCsr_99 ⟨by simp only [sp_Model_isCsr, if_pos c_1, if_pos c_2, if_pos c_3, if_neg c_5, if_neg c_6, if_neg c_7, if_neg c_8, if_neg c_10, if_neg c_11], Or.inl rfl⟩
                  · refine lv_iconst (v := 1) hx hb d_Model_isCsr_94 rfl ?_
                    refine lv_goto (tgt := 99) hx hb d_Model_isCsr_95 (by decide) ?_
                    exact rz () hx hb hr hlocks rfl hP hD hS d_Model_isCsr_99 ⟨by simp only [sp_Model_isCsr, if_pos c_1, if_pos c_2, if_pos c_3, if_neg c_5, if_neg c_6, if_neg c_7, if_neg c_8, if_neg c_10, if_pos c_11], Or.inr rfl⟩
      · refine lv_iload_n hx hb d_Model_isCsr_35 rfl (lv_at hl 0 rfl) ?_
        refine lv_sipush (v := 3860) hx hb d_Model_isCsr_36 rfl ?_
        refine lv_icmp_gt (tgt := 46) hx hb d_Model_isCsr_39 (by decide) (fun c_12 => ?_) (fun c_12 => ?_)
        · refine lv_iconst (v := 0) hx hb d_Model_isCsr_46 rfl ?_
          refine lv_istore_n (lv' := [(1, .int 0), (0, .int x0)]) hx hb d_Model_isCsr_47 rfl hl (by decide) rfl (fun ls hl => ?_)
          refine lv_iload_n hx hb d_Model_isCsr_48 rfl (lv_at hl 0 rfl) ?_
          refine lv_if_ne (tgt := 94) hx hb d_Model_isCsr_49 (by decide) (fun h9 => absurd (by decide) h9) (fun _ => ?_)
          refine lv_iload_n hx hb d_Model_isCsr_52 rfl (lv_at hl 1 rfl) ?_
          refine lv_sipush (v := 256) hx hb d_Model_isCsr_53 rfl ?_
          refine lv_icmp_eq (tgt := 94) hx hb d_Model_isCsr_56 (by decide) (fun c_14 => ?_) (fun c_14 => ?_)
          · refine lv_iconst (v := 1) hx hb d_Model_isCsr_94 rfl ?_
            refine lv_goto (tgt := 99) hx hb d_Model_isCsr_95 (by decide) ?_
            exact rz () hx hb hr hlocks rfl hP hD hS d_Model_isCsr_99 ⟨by simp only [sp_Model_isCsr, if_pos c_1, if_pos c_2, if_neg c_3, if_pos c_12, if_pos c_14], Or.inr rfl⟩
          · refine lv_iload_n hx hb d_Model_isCsr_59 rfl (lv_at hl 1 rfl) ?_
            refine lv_sipush (v := 260) hx hb d_Model_isCsr_60 rfl ?_
            refine lv_icmp_eq (tgt := 94) hx hb d_Model_isCsr_63 (by decide) (fun c_15 => ?_) (fun c_15 => ?_)
            · refine lv_iconst (v := 1) hx hb d_Model_isCsr_94 rfl ?_
              refine lv_goto (tgt := 99) hx hb d_Model_isCsr_95 (by decide) ?_
              exact rz () hx hb hr hlocks rfl hP hD hS d_Model_isCsr_99 ⟨by simp only [sp_Model_isCsr, if_pos c_1, if_pos c_2, if_neg c_3, if_pos c_12, if_neg c_14, if_pos c_15], Or.inr rfl⟩
            · refine lv_iload_n hx hb d_Model_isCsr_66 rfl (lv_at hl 1 rfl) ?_
              refine lv_sipush (v := 261) hx hb d_Model_isCsr_67 rfl ?_
              refine lv_icmp_eq (tgt := 94) hx hb d_Model_isCsr_70 (by decide) (fun c_16 => ?_) (fun c_16 => ?_)
              · refine lv_iconst (v := 1) hx hb d_Model_isCsr_94 rfl ?_
                refine lv_goto (tgt := 99) hx hb d_Model_isCsr_95 (by decide) ?_
                exact rz () hx hb hr hlocks rfl hP hD hS d_Model_isCsr_99 ⟨by simp only [sp_Model_isCsr, if_pos c_1, if_pos c_2, if_neg c_3, if_pos c_12, if_neg c_14, if_neg c_15, if_pos c_16], Or.inr rfl⟩
              · refine lv_iload_n hx hb d_Model_isCsr_73 rfl (lv_at hl 1 rfl) ?_
                refine lv_sipush (v := 320) hx hb d_Model_isCsr_74 rfl ?_
                refine lv_icmp_lt (tgt := 87) hx hb d_Model_isCsr_77 (by decide) (fun c_17 => ?_) (fun c_17 => ?_)
                · refine lv_iload_n hx hb d_Model_isCsr_87 rfl (lv_at hl 1 rfl) ?_
                  refine lv_sipush (v := 384) hx hb d_Model_isCsr_88 rfl ?_
                  refine lv_icmp_ne (tgt := 98) hx hb d_Model_isCsr_91 (by decide) (fun c_18 => ?_) (fun c_18 => ?_)
                  · refine lv_iconst (v := 0) hx hb d_Model_isCsr_98 rfl ?_
                    exact rz () hx hb hr hlocks rfl hP hD hS d_Model_isCsr_99 ⟨by simp only [sp_Model_isCsr, if_pos c_1, if_pos c_2, if_neg c_3, if_pos c_12, if_neg c_14, if_neg c_15, if_neg c_16, if_pos c_17, if_neg c_18], Or.inl rfl⟩
                  · refine lv_iconst (v := 1) hx hb d_Model_isCsr_94 rfl ?_
                    refine lv_goto (tgt := 99) hx hb d_Model_isCsr_95 (by decide) ?_
                    exact rz () hx hb hr hlocks rfl hP hD hS d_Model_isCsr_99 ⟨by simp only [sp_Model_isCsr, if_pos c_1, if_pos c_2, if_neg c_3, if_pos c_12, if_neg c_14, if_neg c_15, if_neg c_16, if_pos c_17, if_pos c_18], Or.inr rfl⟩
                · refine lv_iload_n hx hb d_Model_isCsr_80 rfl (lv_at hl 1 rfl) ?_
                  refine lv_sipush (v := 324) hx hb d_Model_isCsr_81 rfl ?_
                  refine lv_icmp_le (tgt := 94) hx hb d_Model_isCsr_84 (by decide) (fun c_19 => ?_) (fun c_19 => ?_)
                  · refine lv_iconst (v := 1) hx hb d_Model_isCsr_94 rfl ?_
                    refine lv_goto (tgt := 99) hx hb d_Model_isCsr_95 (by decide) ?_
                    exact rz () hx hb hr hlocks rfl hP hD hS d_Model_isCsr_99 ⟨by simp only [sp_Model_isCsr, if_pos c_1, if_pos c_2, if_neg c_3, if_pos c_12, if_neg c_14, if_neg c_15, if_neg c_16, if_neg c_17, if_pos c_19], Or.inr rfl⟩
                  · refine lv_iload_n hx hb d_Model_isCsr_87 rfl (lv_at hl 1 rfl) ?_
                    refine lv_sipush (v := 384) hx hb d_Model_isCsr_88 rfl ?_
                    refine lv_icmp_ne (tgt := 98) hx hb d_Model_isCsr_91 (by decide) (fun c_20 => ?_) (fun c_20 => ?_)
                    · refine lv_iconst (v := 0) hx hb d_Model_isCsr_98 rfl ?_
                      exact rz () hx hb hr hlocks rfl hP hD hS d_Model_isCsr_99 ⟨by simp only [sp_Model_isCsr, if_pos c_1, if_pos c_2, if_neg c_3, if_pos c_12, if_neg c_14, if_neg c_15, if_neg c_16, if_neg c_17, if_neg c_19, if_neg c_20], Or.inl rfl⟩
                    · refine lv_iconst (v := 1) hx hb d_Model_isCsr_94 rfl ?_
                      refine lv_goto (tgt := 99) hx hb d_Model_isCsr_95 (by decide) ?_
                      exact rz () hx hb hr hlocks rfl hP hD hS d_Model_isCsr_99 ⟨by simp only [sp_Model_isCsr, if_pos c_1, if_pos c_2, if_neg c_3, if_pos c_12, if_neg c_14, if_neg c_15, if_neg c_16, if_neg c_17, if_neg c_19, if_pos c_20], Or.inr rfl⟩
        · refine lv_iconst (v := 1) hx hb d_Model_isCsr_42 rfl ?_
          refine lv_goto (tgt := 47) hx hb d_Model_isCsr_43 (by decide) ?_
          refine lv_istore_n (lv' := [(1, .int 1), (0, .int x0)]) hx hb d_Model_isCsr_47 rfl hl (by decide) rfl (fun ls hl => ?_)
          refine lv_iload_n hx hb d_Model_isCsr_48 rfl (lv_at hl 0 rfl) ?_
          refine lv_if_ne (tgt := 94) hx hb d_Model_isCsr_49 (by decide) (fun _ => ?_) (fun h9 => absurd h9 (by decide))
          refine lv_iconst (v := 1) hx hb d_Model_isCsr_94 rfl ?_
          refine lv_goto (tgt := 99) hx hb d_Model_isCsr_95 (by decide) ?_
          exact rz () hx hb hr hlocks rfl hP hD hS d_Model_isCsr_99 ⟨by simp only [sp_Model_isCsr, if_pos c_1, if_pos c_2, if_neg c_3, if_neg c_12], Or.inr rfl⟩
    · refine lv_iload_n hx hb d_Model_isCsr_21 rfl (lv_at hl 0 rfl) ?_
      refine lv_sipush (v := 836) hx hb d_Model_isCsr_22 rfl ?_
      refine lv_icmp_le (tgt := 42) hx hb d_Model_isCsr_25 (by decide) (fun c_22 => ?_) (fun c_22 => ?_)
      · refine lv_iconst (v := 1) hx hb d_Model_isCsr_42 rfl ?_
        refine lv_goto (tgt := 47) hx hb d_Model_isCsr_43 (by decide) ?_
        refine lv_istore_n (lv' := [(1, .int 1), (0, .int x0)]) hx hb d_Model_isCsr_47 rfl hl (by decide) rfl (fun ls hl => ?_)
        refine lv_iload_n hx hb d_Model_isCsr_48 rfl (lv_at hl 0 rfl) ?_
        refine lv_if_ne (tgt := 94) hx hb d_Model_isCsr_49 (by decide) (fun _ => ?_) (fun h9 => absurd h9 (by decide))
        refine lv_iconst (v := 1) hx hb d_Model_isCsr_94 rfl ?_
        refine lv_goto (tgt := 99) hx hb d_Model_isCsr_95 (by decide) ?_
        exact rz () hx hb hr hlocks rfl hP hD hS d_Model_isCsr_99 ⟨by simp only [sp_Model_isCsr, if_pos c_1, if_neg c_2, if_pos c_22], Or.inr rfl⟩
      · refine lv_iload_n hx hb d_Model_isCsr_28 rfl (lv_at hl 0 rfl) ?_
        refine lv_sipush (v := 3857) hx hb d_Model_isCsr_29 rfl ?_
        refine lv_icmp_lt (tgt := 46) hx hb d_Model_isCsr_32 (by decide) (fun c_24 => ?_) (fun c_24 => ?_)
        · refine lv_iconst (v := 0) hx hb d_Model_isCsr_46 rfl ?_
          refine lv_istore_n (lv' := [(1, .int 0), (0, .int x0)]) hx hb d_Model_isCsr_47 rfl hl (by decide) rfl (fun ls hl => ?_)
          refine lv_iload_n hx hb d_Model_isCsr_48 rfl (lv_at hl 0 rfl) ?_
          refine lv_if_ne (tgt := 94) hx hb d_Model_isCsr_49 (by decide) (fun h9 => absurd (by decide) h9) (fun _ => ?_)
          refine lv_iload_n hx hb d_Model_isCsr_52 rfl (lv_at hl 1 rfl) ?_
          refine lv_sipush (v := 256) hx hb d_Model_isCsr_53 rfl ?_
          refine lv_icmp_eq (tgt := 94) hx hb d_Model_isCsr_56 (by decide) (fun c_26 => ?_) (fun c_26 => ?_)
          · refine lv_iconst (v := 1) hx hb d_Model_isCsr_94 rfl ?_
            refine lv_goto (tgt := 99) hx hb d_Model_isCsr_95 (by decide) ?_
            exact rz () hx hb hr hlocks rfl hP hD hS d_Model_isCsr_99 ⟨by simp only [sp_Model_isCsr, if_pos c_1, if_neg c_2, if_neg c_22, if_pos c_24, if_pos c_26], Or.inr rfl⟩
          · refine lv_iload_n hx hb d_Model_isCsr_59 rfl (lv_at hl 1 rfl) ?_
            refine lv_sipush (v := 260) hx hb d_Model_isCsr_60 rfl ?_
            refine lv_icmp_eq (tgt := 94) hx hb d_Model_isCsr_63 (by decide) (fun c_27 => ?_) (fun c_27 => ?_)
            · refine lv_iconst (v := 1) hx hb d_Model_isCsr_94 rfl ?_
              refine lv_goto (tgt := 99) hx hb d_Model_isCsr_95 (by decide) ?_
              exact rz () hx hb hr hlocks rfl hP hD hS d_Model_isCsr_99 ⟨by simp only [sp_Model_isCsr, if_pos c_1, if_neg c_2, if_neg c_22, if_pos c_24, if_neg c_26, if_pos c_27], Or.inr rfl⟩
            · refine lv_iload_n hx hb d_Model_isCsr_66 rfl (lv_at hl 1 rfl) ?_
              refine lv_sipush (v := 261) hx hb d_Model_isCsr_67 rfl ?_
              refine lv_icmp_eq (tgt := 94) hx hb d_Model_isCsr_70 (by decide) (fun c_28 => ?_) (fun c_28 => ?_)
              · refine lv_iconst (v := 1) hx hb d_Model_isCsr_94 rfl ?_
                refine lv_goto (tgt := 99) hx hb d_Model_isCsr_95 (by decide) ?_
                exact rz () hx hb hr hlocks rfl hP hD hS d_Model_isCsr_99 ⟨by simp only [sp_Model_isCsr, if_pos c_1, if_neg c_2, if_neg c_22, if_pos c_24, if_neg c_26, if_neg c_27, if_pos c_28], Or.inr rfl⟩
              · refine lv_iload_n hx hb d_Model_isCsr_73 rfl (lv_at hl 1 rfl) ?_
                refine lv_sipush (v := 320) hx hb d_Model_isCsr_74 rfl ?_
                refine lv_icmp_lt (tgt := 87) hx hb d_Model_isCsr_77 (by decide) (fun c_29 => ?_) (fun c_29 => ?_)
                · refine lv_iload_n hx hb d_Model_isCsr_87 rfl (lv_at hl 1 rfl) ?_
                  refine lv_sipush (v := 384) hx hb d_Model_isCsr_88 rfl ?_
                  refine lv_icmp_ne (tgt := 98) hx hb d_Model_isCsr_91 (by decide) (fun c_30 => ?_) (fun c_30 => ?_)
                  · refine lv_iconst (v := 0) hx hb d_Model_isCsr_98 rfl ?_
                    exact rz () hx hb hr hlocks rfl hP hD hS d_Model_isCsr_99 ⟨by simp only [sp_Model_isCsr, if_pos c_1, if_neg c_2, if_neg c_22, if_pos c_24, if_neg c_26, if_neg c_27, if_neg c_28, if_pos c_29, if_neg c_30], Or.inl rfl⟩
                  · refine lv_iconst (v := 1) hx hb d_Model_isCsr_94 rfl ?_
                    refine lv_goto (tgt := 99) hx hb d_Model_isCsr_95 (by decide) ?_
                    exact rz () hx hb hr hlocks rfl hP hD hS d_Model_isCsr_99 ⟨by simp only [sp_Model_isCsr, if_pos c_1, if_neg c_2, if_neg c_22, if_pos c_24, if_neg c_26, if_neg c_27, if_neg c_28, if_pos c_29, if_pos c_30], Or.inr rfl⟩
                · refine lv_iload_n hx hb d_Model_isCsr_80 rfl (lv_at hl 1 rfl) ?_
                  refine lv_sipush (v := 324) hx hb d_Model_isCsr_81 rfl ?_
                  refine lv_icmp_le (tgt := 94) hx hb d_Model_isCsr_84 (by decide) (fun c_31 => ?_) (fun c_31 => ?_)
                  · refine lv_iconst (v := 1) hx hb d_Model_isCsr_94 rfl ?_
                    refine lv_goto (tgt := 99) hx hb d_Model_isCsr_95 (by decide) ?_
                    exact rz () hx hb hr hlocks rfl hP hD hS d_Model_isCsr_99 ⟨by simp only [sp_Model_isCsr, if_pos c_1, if_neg c_2, if_neg c_22, if_pos c_24, if_neg c_26, if_neg c_27, if_neg c_28, if_neg c_29, if_pos c_31], Or.inr rfl⟩
                  · refine lv_iload_n hx hb d_Model_isCsr_87 rfl (lv_at hl 1 rfl) ?_
                    refine lv_sipush (v := 384) hx hb d_Model_isCsr_88 rfl ?_
                    refine lv_icmp_ne (tgt := 98) hx hb d_Model_isCsr_91 (by decide) (fun c_32 => ?_) (fun c_32 => ?_)
                    · refine lv_iconst (v := 0) hx hb d_Model_isCsr_98 rfl ?_
                      exact rz () hx hb hr hlocks rfl hP hD hS d_Model_isCsr_99 ⟨by simp only [sp_Model_isCsr, if_pos c_1, if_neg c_2, if_neg c_22, if_pos c_24, if_neg c_26, if_neg c_27, if_neg c_28, if_neg c_29, if_neg c_31, if_neg c_32], Or.inl rfl⟩
                    · refine lv_iconst (v := 1) hx hb d_Model_isCsr_94 rfl ?_
                      refine lv_goto (tgt := 99) hx hb d_Model_isCsr_95 (by decide) ?_
                      exact rz () hx hb hr hlocks rfl hP hD hS d_Model_isCsr_99 ⟨by simp only [sp_Model_isCsr, if_pos c_1, if_neg c_2, if_neg c_22, if_pos c_24, if_neg c_26, if_neg c_27, if_neg c_28, if_neg c_29, if_neg c_31, if_pos c_32], Or.inr rfl⟩
        · refine lv_iload_n hx hb d_Model_isCsr_35 rfl (lv_at hl 0 rfl) ?_
          refine lv_sipush (v := 3860) hx hb d_Model_isCsr_36 rfl ?_
          refine lv_icmp_gt (tgt := 46) hx hb d_Model_isCsr_39 (by decide) (fun c_33 => ?_) (fun c_33 => ?_)
          · refine lv_iconst (v := 0) hx hb d_Model_isCsr_46 rfl ?_
            refine lv_istore_n (lv' := [(1, .int 0), (0, .int x0)]) hx hb d_Model_isCsr_47 rfl hl (by decide) rfl (fun ls hl => ?_)
            refine lv_iload_n hx hb d_Model_isCsr_48 rfl (lv_at hl 0 rfl) ?_
            refine lv_if_ne (tgt := 94) hx hb d_Model_isCsr_49 (by decide) (fun h9 => absurd (by decide) h9) (fun _ => ?_)
            refine lv_iload_n hx hb d_Model_isCsr_52 rfl (lv_at hl 1 rfl) ?_
            refine lv_sipush (v := 256) hx hb d_Model_isCsr_53 rfl ?_
            refine lv_icmp_eq (tgt := 94) hx hb d_Model_isCsr_56 (by decide) (fun c_35 => ?_) (fun c_35 => ?_)
            · refine lv_iconst (v := 1) hx hb d_Model_isCsr_94 rfl ?_
              refine lv_goto (tgt := 99) hx hb d_Model_isCsr_95 (by decide) ?_
              exact rz () hx hb hr hlocks rfl hP hD hS d_Model_isCsr_99 ⟨by simp only [sp_Model_isCsr, if_pos c_1, if_neg c_2, if_neg c_22, if_neg c_24, if_pos c_33, if_pos c_35], Or.inr rfl⟩
            · refine lv_iload_n hx hb d_Model_isCsr_59 rfl (lv_at hl 1 rfl) ?_
              refine lv_sipush (v := 260) hx hb d_Model_isCsr_60 rfl ?_
              refine lv_icmp_eq (tgt := 94) hx hb d_Model_isCsr_63 (by decide) (fun c_36 => ?_) (fun c_36 => ?_)
              · refine lv_iconst (v := 1) hx hb d_Model_isCsr_94 rfl ?_
                refine lv_goto (tgt := 99) hx hb d_Model_isCsr_95 (by decide) ?_
                exact rz () hx hb hr hlocks rfl hP hD hS d_Model_isCsr_99 ⟨by simp only [sp_Model_isCsr, if_pos c_1, if_neg c_2, if_neg c_22, if_neg c_24, if_pos c_33, if_neg c_35, if_pos c_36], Or.inr rfl⟩
              · refine lv_iload_n hx hb d_Model_isCsr_66 rfl (lv_at hl 1 rfl) ?_
                refine lv_sipush (v := 261) hx hb d_Model_isCsr_67 rfl ?_
                refine lv_icmp_eq (tgt := 94) hx hb d_Model_isCsr_70 (by decide) (fun c_37 => ?_) (fun c_37 => ?_)
                · refine lv_iconst (v := 1) hx hb d_Model_isCsr_94 rfl ?_
                  refine lv_goto (tgt := 99) hx hb d_Model_isCsr_95 (by decide) ?_
                  exact rz () hx hb hr hlocks rfl hP hD hS d_Model_isCsr_99 ⟨by simp only [sp_Model_isCsr, if_pos c_1, if_neg c_2, if_neg c_22, if_neg c_24, if_pos c_33, if_neg c_35, if_neg c_36, if_pos c_37], Or.inr rfl⟩
                · refine lv_iload_n hx hb d_Model_isCsr_73 rfl (lv_at hl 1 rfl) ?_
                  refine lv_sipush (v := 320) hx hb d_Model_isCsr_74 rfl ?_
                  refine lv_icmp_lt (tgt := 87) hx hb d_Model_isCsr_77 (by decide) (fun c_38 => ?_) (fun c_38 => ?_)
                  · refine lv_iload_n hx hb d_Model_isCsr_87 rfl (lv_at hl 1 rfl) ?_
                    refine lv_sipush (v := 384) hx hb d_Model_isCsr_88 rfl ?_
                    refine lv_icmp_ne (tgt := 98) hx hb d_Model_isCsr_91 (by decide) (fun c_39 => ?_) (fun c_39 => ?_)
                    · refine lv_iconst (v := 0) hx hb d_Model_isCsr_98 rfl ?_
                      exact rz () hx hb hr hlocks rfl hP hD hS d_Model_isCsr_99 ⟨by simp only [sp_Model_isCsr, if_pos c_1, if_neg c_2, if_neg c_22, if_neg c_24, if_pos c_33, if_neg c_35, if_neg c_36, if_neg c_37, if_pos c_38, if_neg c_39], Or.inl rfl⟩
                    · refine lv_iconst (v := 1) hx hb d_Model_isCsr_94 rfl ?_
                      refine lv_goto (tgt := 99) hx hb d_Model_isCsr_95 (by decide) ?_
                      exact rz () hx hb hr hlocks rfl hP hD hS d_Model_isCsr_99 ⟨by simp only [sp_Model_isCsr, if_pos c_1, if_neg c_2, if_neg c_22, if_neg c_24, if_pos c_33, if_neg c_35, if_neg c_36, if_neg c_37, if_pos c_38, if_pos c_39], Or.inr rfl⟩
                  · refine lv_iload_n hx hb d_Model_isCsr_80 rfl (lv_at hl 1 rfl) ?_
                    refine lv_sipush (v := 324) hx hb d_Model_isCsr_81 rfl ?_
                    refine lv_icmp_le (tgt := 94) hx hb d_Model_isCsr_84 (by decide) (fun c_40 => ?_) (fun c_40 => ?_)
                    · refine lv_iconst (v := 1) hx hb d_Model_isCsr_94 rfl ?_
                      refine lv_goto (tgt := 99) hx hb d_Model_isCsr_95 (by decide) ?_
                      exact rz () hx hb hr hlocks rfl hP hD hS d_Model_isCsr_99 ⟨by simp only [sp_Model_isCsr, if_pos c_1, if_neg c_2, if_neg c_22, if_neg c_24, if_pos c_33, if_neg c_35, if_neg c_36, if_neg c_37, if_neg c_38, if_pos c_40], Or.inr rfl⟩
                    · refine lv_iload_n hx hb d_Model_isCsr_87 rfl (lv_at hl 1 rfl) ?_
                      refine lv_sipush (v := 384) hx hb d_Model_isCsr_88 rfl ?_
                      refine lv_icmp_ne (tgt := 98) hx hb d_Model_isCsr_91 (by decide) (fun c_41 => ?_) (fun c_41 => ?_)
                      · refine lv_iconst (v := 0) hx hb d_Model_isCsr_98 rfl ?_
                        exact rz () hx hb hr hlocks rfl hP hD hS d_Model_isCsr_99 ⟨by simp only [sp_Model_isCsr, if_pos c_1, if_neg c_2, if_neg c_22, if_neg c_24, if_pos c_33, if_neg c_35, if_neg c_36, if_neg c_37, if_neg c_38, if_neg c_40, if_neg c_41], Or.inl rfl⟩
                      · refine lv_iconst (v := 1) hx hb d_Model_isCsr_94 rfl ?_
                        refine lv_goto (tgt := 99) hx hb d_Model_isCsr_95 (by decide) ?_
                        exact rz () hx hb hr hlocks rfl hP hD hS d_Model_isCsr_99 ⟨by simp only [sp_Model_isCsr, if_pos c_1, if_neg c_2, if_neg c_22, if_neg c_24, if_pos c_33, if_neg c_35, if_neg c_36, if_neg c_37, if_neg c_38, if_neg c_40, if_pos c_41], Or.inr rfl⟩
          · refine lv_iconst (v := 1) hx hb d_Model_isCsr_42 rfl ?_
            refine lv_goto (tgt := 47) hx hb d_Model_isCsr_43 (by decide) ?_
            refine lv_istore_n (lv' := [(1, .int 1), (0, .int x0)]) hx hb d_Model_isCsr_47 rfl hl (by decide) rfl (fun ls hl => ?_)
            refine lv_iload_n hx hb d_Model_isCsr_48 rfl (lv_at hl 0 rfl) ?_
            refine lv_if_ne (tgt := 94) hx hb d_Model_isCsr_49 (by decide) (fun _ => ?_) (fun h9 => absurd h9 (by decide))
            refine lv_iconst (v := 1) hx hb d_Model_isCsr_94 rfl ?_
            refine lv_goto (tgt := 99) hx hb d_Model_isCsr_95 (by decide) ?_
            exact rz () hx hb hr hlocks rfl hP hD hS d_Model_isCsr_99 ⟨by simp only [sp_Model_isCsr, if_pos c_1, if_neg c_2, if_neg c_22, if_neg c_24, if_neg c_33], Or.inr rfl⟩
  · refine lv_iload_n hx hb d_Model_isCsr_7 rfl (lv_at hl 0 rfl) ?_
    refine lv_sipush (v := 773) hx hb d_Model_isCsr_8 rfl ?_
    refine lv_icmp_le (tgt := 42) hx hb d_Model_isCsr_11 (by decide) (fun c_43 => ?_) (fun c_43 => ?_)
    · refine lv_iconst (v := 1) hx hb d_Model_isCsr_42 rfl ?_
      refine lv_goto (tgt := 47) hx hb d_Model_isCsr_43 (by decide) ?_
      refine lv_istore_n (lv' := [(1, .int 1), (0, .int x0)]) hx hb d_Model_isCsr_47 rfl hl (by decide) rfl (fun ls hl => ?_)
      refine lv_iload_n hx hb d_Model_isCsr_48 rfl (lv_at hl 0 rfl) ?_
      refine lv_if_ne (tgt := 94) hx hb d_Model_isCsr_49 (by decide) (fun _ => ?_) (fun h9 => absurd h9 (by decide))
      refine lv_iconst (v := 1) hx hb d_Model_isCsr_94 rfl ?_
      refine lv_goto (tgt := 99) hx hb d_Model_isCsr_95 (by decide) ?_
      exact rz () hx hb hr hlocks rfl hP hD hS d_Model_isCsr_99 ⟨by simp only [sp_Model_isCsr, if_neg c_1, if_pos c_43], Or.inr rfl⟩
    · refine lv_iload_n hx hb d_Model_isCsr_14 rfl (lv_at hl 0 rfl) ?_
      refine lv_sipush (v := 832) hx hb d_Model_isCsr_15 rfl ?_
      refine lv_icmp_lt (tgt := 28) hx hb d_Model_isCsr_18 (by decide) (fun c_45 => ?_) (fun c_45 => ?_)
      · refine lv_iload_n hx hb d_Model_isCsr_28 rfl (lv_at hl 0 rfl) ?_
        refine lv_sipush (v := 3857) hx hb d_Model_isCsr_29 rfl ?_
        refine lv_icmp_lt (tgt := 46) hx hb d_Model_isCsr_32 (by decide) (fun c_46 => ?_) (fun c_46 => ?_)
        · refine lv_iconst (v := 0) hx hb d_Model_isCsr_46 rfl ?_
          refine lv_istore_n (lv' := [(1, .int 0), (0, .int x0)]) hx hb d_Model_isCsr_47 rfl hl (by decide) rfl (fun ls hl => ?_)
          refine lv_iload_n hx hb d_Model_isCsr_48 rfl (lv_at hl 0 rfl) ?_
          refine lv_if_ne (tgt := 94) hx hb d_Model_isCsr_49 (by decide) (fun h9 => absurd (by decide) h9) (fun _ => ?_)
          refine lv_iload_n hx hb d_Model_isCsr_52 rfl (lv_at hl 1 rfl) ?_
          refine lv_sipush (v := 256) hx hb d_Model_isCsr_53 rfl ?_
          refine lv_icmp_eq (tgt := 94) hx hb d_Model_isCsr_56 (by decide) (fun c_48 => ?_) (fun c_48 => ?_)
          · refine lv_iconst (v := 1) hx hb d_Model_isCsr_94 rfl ?_
            refine lv_goto (tgt := 99) hx hb d_Model_isCsr_95 (by decide) ?_
            exact rz () hx hb hr hlocks rfl hP hD hS d_Model_isCsr_99 ⟨by simp only [sp_Model_isCsr, if_neg c_1, if_neg c_43, if_pos c_45, if_pos c_46, if_pos c_48], Or.inr rfl⟩
          · refine lv_iload_n hx hb d_Model_isCsr_59 rfl (lv_at hl 1 rfl) ?_
            refine lv_sipush (v := 260) hx hb d_Model_isCsr_60 rfl ?_
            refine lv_icmp_eq (tgt := 94) hx hb d_Model_isCsr_63 (by decide) (fun c_49 => ?_) (fun c_49 => ?_)
            · refine lv_iconst (v := 1) hx hb d_Model_isCsr_94 rfl ?_
              refine lv_goto (tgt := 99) hx hb d_Model_isCsr_95 (by decide) ?_
              exact rz () hx hb hr hlocks rfl hP hD hS d_Model_isCsr_99 ⟨by simp only [sp_Model_isCsr, if_neg c_1, if_neg c_43, if_pos c_45, if_pos c_46, if_neg c_48, if_pos c_49], Or.inr rfl⟩
            · refine lv_iload_n hx hb d_Model_isCsr_66 rfl (lv_at hl 1 rfl) ?_
              refine lv_sipush (v := 261) hx hb d_Model_isCsr_67 rfl ?_
              refine lv_icmp_eq (tgt := 94) hx hb d_Model_isCsr_70 (by decide) (fun c_50 => ?_) (fun c_50 => ?_)
              · refine lv_iconst (v := 1) hx hb d_Model_isCsr_94 rfl ?_
                refine lv_goto (tgt := 99) hx hb d_Model_isCsr_95 (by decide) ?_
                exact rz () hx hb hr hlocks rfl hP hD hS d_Model_isCsr_99 ⟨by simp only [sp_Model_isCsr, if_neg c_1, if_neg c_43, if_pos c_45, if_pos c_46, if_neg c_48, if_neg c_49, if_pos c_50], Or.inr rfl⟩
              · refine lv_iload_n hx hb d_Model_isCsr_73 rfl (lv_at hl 1 rfl) ?_
                refine lv_sipush (v := 320) hx hb d_Model_isCsr_74 rfl ?_
                refine lv_icmp_lt (tgt := 87) hx hb d_Model_isCsr_77 (by decide) (fun c_51 => ?_) (fun c_51 => ?_)
                · refine lv_iload_n hx hb d_Model_isCsr_87 rfl (lv_at hl 1 rfl) ?_
                  refine lv_sipush (v := 384) hx hb d_Model_isCsr_88 rfl ?_
                  refine lv_icmp_ne (tgt := 98) hx hb d_Model_isCsr_91 (by decide) (fun c_52 => ?_) (fun c_52 => ?_)
                  · refine lv_iconst (v := 0) hx hb d_Model_isCsr_98 rfl ?_
                    exact rz () hx hb hr hlocks rfl hP hD hS d_Model_isCsr_99 ⟨by simp only [sp_Model_isCsr, if_neg c_1, if_neg c_43, if_pos c_45, if_pos c_46, if_neg c_48, if_neg c_49, if_neg c_50, if_pos c_51, if_neg c_52], Or.inl rfl⟩
                  · refine lv_iconst (v := 1) hx hb d_Model_isCsr_94 rfl ?_
                    refine lv_goto (tgt := 99) hx hb d_Model_isCsr_95 (by decide) ?_
                    exact rz () hx hb hr hlocks rfl hP hD hS d_Model_isCsr_99 ⟨by simp only [sp_Model_isCsr, if_neg c_1, if_neg c_43, if_pos c_45, if_pos c_46, if_neg c_48, if_neg c_49, if_neg c_50, if_pos c_51, if_pos c_52], Or.inr rfl⟩
                · refine lv_iload_n hx hb d_Model_isCsr_80 rfl (lv_at hl 1 rfl) ?_
                  refine lv_sipush (v := 324) hx hb d_Model_isCsr_81 rfl ?_
                  refine lv_icmp_le (tgt := 94) hx hb d_Model_isCsr_84 (by decide) (fun c_53 => ?_) (fun c_53 => ?_)
                  · refine lv_iconst (v := 1) hx hb d_Model_isCsr_94 rfl ?_
                    refine lv_goto (tgt := 99) hx hb d_Model_isCsr_95 (by decide) ?_
                    exact rz () hx hb hr hlocks rfl hP hD hS d_Model_isCsr_99 ⟨by simp only [sp_Model_isCsr, if_neg c_1, if_neg c_43, if_pos c_45, if_pos c_46, if_neg c_48, if_neg c_49, if_neg c_50, if_neg c_51, if_pos c_53], Or.inr rfl⟩
                  · refine lv_iload_n hx hb d_Model_isCsr_87 rfl (lv_at hl 1 rfl) ?_
                    refine lv_sipush (v := 384) hx hb d_Model_isCsr_88 rfl ?_
                    refine lv_icmp_ne (tgt := 98) hx hb d_Model_isCsr_91 (by decide) (fun c_54 => ?_) (fun c_54 => ?_)
                    · refine lv_iconst (v := 0) hx hb d_Model_isCsr_98 rfl ?_
                      exact rz () hx hb hr hlocks rfl hP hD hS d_Model_isCsr_99 ⟨by simp only [sp_Model_isCsr, if_neg c_1, if_neg c_43, if_pos c_45, if_pos c_46, if_neg c_48, if_neg c_49, if_neg c_50, if_neg c_51, if_neg c_53, if_neg c_54], Or.inl rfl⟩
                    · refine lv_iconst (v := 1) hx hb d_Model_isCsr_94 rfl ?_
                      refine lv_goto (tgt := 99) hx hb d_Model_isCsr_95 (by decide) ?_
                      exact rz () hx hb hr hlocks rfl hP hD hS d_Model_isCsr_99 ⟨by simp only [sp_Model_isCsr, if_neg c_1, if_neg c_43, if_pos c_45, if_pos c_46, if_neg c_48, if_neg c_49, if_neg c_50, if_neg c_51, if_neg c_53, if_pos c_54], Or.inr rfl⟩
        · refine lv_iload_n hx hb d_Model_isCsr_35 rfl (lv_at hl 0 rfl) ?_
          refine lv_sipush (v := 3860) hx hb d_Model_isCsr_36 rfl ?_
          refine lv_icmp_gt (tgt := 46) hx hb d_Model_isCsr_39 (by decide) (fun c_55 => ?_) (fun c_55 => ?_)
          · refine lv_iconst (v := 0) hx hb d_Model_isCsr_46 rfl ?_
            refine lv_istore_n (lv' := [(1, .int 0), (0, .int x0)]) hx hb d_Model_isCsr_47 rfl hl (by decide) rfl (fun ls hl => ?_)
            refine lv_iload_n hx hb d_Model_isCsr_48 rfl (lv_at hl 0 rfl) ?_
            refine lv_if_ne (tgt := 94) hx hb d_Model_isCsr_49 (by decide) (fun h9 => absurd (by decide) h9) (fun _ => ?_)
            refine lv_iload_n hx hb d_Model_isCsr_52 rfl (lv_at hl 1 rfl) ?_
            refine lv_sipush (v := 256) hx hb d_Model_isCsr_53 rfl ?_
            refine lv_icmp_eq (tgt := 94) hx hb d_Model_isCsr_56 (by decide) (fun c_57 => ?_) (fun c_57 => ?_)
            · refine lv_iconst (v := 1) hx hb d_Model_isCsr_94 rfl ?_
              refine lv_goto (tgt := 99) hx hb d_Model_isCsr_95 (by decide) ?_
              exact rz () hx hb hr hlocks rfl hP hD hS d_Model_isCsr_99 ⟨by simp only [sp_Model_isCsr, if_neg c_1, if_neg c_43, if_pos c_45, if_neg c_46, if_pos c_55, if_pos c_57], Or.inr rfl⟩
            · refine lv_iload_n hx hb d_Model_isCsr_59 rfl (lv_at hl 1 rfl) ?_
              refine lv_sipush (v := 260) hx hb d_Model_isCsr_60 rfl ?_
              refine lv_icmp_eq (tgt := 94) hx hb d_Model_isCsr_63 (by decide) (fun c_58 => ?_) (fun c_58 => ?_)
              · refine lv_iconst (v := 1) hx hb d_Model_isCsr_94 rfl ?_
                refine lv_goto (tgt := 99) hx hb d_Model_isCsr_95 (by decide) ?_
                exact rz () hx hb hr hlocks rfl hP hD hS d_Model_isCsr_99 ⟨by simp only [sp_Model_isCsr, if_neg c_1, if_neg c_43, if_pos c_45, if_neg c_46, if_pos c_55, if_neg c_57, if_pos c_58], Or.inr rfl⟩
              · refine lv_iload_n hx hb d_Model_isCsr_66 rfl (lv_at hl 1 rfl) ?_
                refine lv_sipush (v := 261) hx hb d_Model_isCsr_67 rfl ?_
                refine lv_icmp_eq (tgt := 94) hx hb d_Model_isCsr_70 (by decide) (fun c_59 => ?_) (fun c_59 => ?_)
                · refine lv_iconst (v := 1) hx hb d_Model_isCsr_94 rfl ?_
                  refine lv_goto (tgt := 99) hx hb d_Model_isCsr_95 (by decide) ?_
                  exact rz () hx hb hr hlocks rfl hP hD hS d_Model_isCsr_99 ⟨by simp only [sp_Model_isCsr, if_neg c_1, if_neg c_43, if_pos c_45, if_neg c_46, if_pos c_55, if_neg c_57, if_neg c_58, if_pos c_59], Or.inr rfl⟩
                · refine lv_iload_n hx hb d_Model_isCsr_73 rfl (lv_at hl 1 rfl) ?_
                  refine lv_sipush (v := 320) hx hb d_Model_isCsr_74 rfl ?_
                  refine lv_icmp_lt (tgt := 87) hx hb d_Model_isCsr_77 (by decide) (fun c_60 => ?_) (fun c_60 => ?_)
                  · refine lv_iload_n hx hb d_Model_isCsr_87 rfl (lv_at hl 1 rfl) ?_
                    refine lv_sipush (v := 384) hx hb d_Model_isCsr_88 rfl ?_
                    refine lv_icmp_ne (tgt := 98) hx hb d_Model_isCsr_91 (by decide) (fun c_61 => ?_) (fun c_61 => ?_)
                    · refine lv_iconst (v := 0) hx hb d_Model_isCsr_98 rfl ?_
                      exact rz () hx hb hr hlocks rfl hP hD hS d_Model_isCsr_99 ⟨by simp only [sp_Model_isCsr, if_neg c_1, if_neg c_43, if_pos c_45, if_neg c_46, if_pos c_55, if_neg c_57, if_neg c_58, if_neg c_59, if_pos c_60, if_neg c_61], Or.inl rfl⟩
                    · refine lv_iconst (v := 1) hx hb d_Model_isCsr_94 rfl ?_
                      refine lv_goto (tgt := 99) hx hb d_Model_isCsr_95 (by decide) ?_
                      exact rz () hx hb hr hlocks rfl hP hD hS d_Model_isCsr_99 ⟨by simp only [sp_Model_isCsr, if_neg c_1, if_neg c_43, if_pos c_45, if_neg c_46, if_pos c_55, if_neg c_57, if_neg c_58, if_neg c_59, if_pos c_60, if_pos c_61], Or.inr rfl⟩
                  · refine lv_iload_n hx hb d_Model_isCsr_80 rfl (lv_at hl 1 rfl) ?_
                    refine lv_sipush (v := 324) hx hb d_Model_isCsr_81 rfl ?_
                    refine lv_icmp_le (tgt := 94) hx hb d_Model_isCsr_84 (by decide) (fun c_62 => ?_) (fun c_62 => ?_)
                    · refine lv_iconst (v := 1) hx hb d_Model_isCsr_94 rfl ?_
                      refine lv_goto (tgt := 99) hx hb d_Model_isCsr_95 (by decide) ?_
                      exact rz () hx hb hr hlocks rfl hP hD hS d_Model_isCsr_99 ⟨by simp only [sp_Model_isCsr, if_neg c_1, if_neg c_43, if_pos c_45, if_neg c_46, if_pos c_55, if_neg c_57, if_neg c_58, if_neg c_59, if_neg c_60, if_pos c_62], Or.inr rfl⟩
                    · refine lv_iload_n hx hb d_Model_isCsr_87 rfl (lv_at hl 1 rfl) ?_
                      refine lv_sipush (v := 384) hx hb d_Model_isCsr_88 rfl ?_
                      refine lv_icmp_ne (tgt := 98) hx hb d_Model_isCsr_91 (by decide) (fun c_63 => ?_) (fun c_63 => ?_)
                      · refine lv_iconst (v := 0) hx hb d_Model_isCsr_98 rfl ?_
                        exact rz () hx hb hr hlocks rfl hP hD hS d_Model_isCsr_99 ⟨by simp only [sp_Model_isCsr, if_neg c_1, if_neg c_43, if_pos c_45, if_neg c_46, if_pos c_55, if_neg c_57, if_neg c_58, if_neg c_59, if_neg c_60, if_neg c_62, if_neg c_63], Or.inl rfl⟩
                      · refine lv_iconst (v := 1) hx hb d_Model_isCsr_94 rfl ?_
                        refine lv_goto (tgt := 99) hx hb d_Model_isCsr_95 (by decide) ?_
                        exact rz () hx hb hr hlocks rfl hP hD hS d_Model_isCsr_99 ⟨by simp only [sp_Model_isCsr, if_neg c_1, if_neg c_43, if_pos c_45, if_neg c_46, if_pos c_55, if_neg c_57, if_neg c_58, if_neg c_59, if_neg c_60, if_neg c_62, if_pos c_63], Or.inr rfl⟩
          · refine lv_iconst (v := 1) hx hb d_Model_isCsr_42 rfl ?_
            refine lv_goto (tgt := 47) hx hb d_Model_isCsr_43 (by decide) ?_
            refine lv_istore_n (lv' := [(1, .int 1), (0, .int x0)]) hx hb d_Model_isCsr_47 rfl hl (by decide) rfl (fun ls hl => ?_)
            refine lv_iload_n hx hb d_Model_isCsr_48 rfl (lv_at hl 0 rfl) ?_
            refine lv_if_ne (tgt := 94) hx hb d_Model_isCsr_49 (by decide) (fun _ => ?_) (fun h9 => absurd h9 (by decide))
            refine lv_iconst (v := 1) hx hb d_Model_isCsr_94 rfl ?_
            refine lv_goto (tgt := 99) hx hb d_Model_isCsr_95 (by decide) ?_
            exact rz () hx hb hr hlocks rfl hP hD hS d_Model_isCsr_99 ⟨by simp only [sp_Model_isCsr, if_neg c_1, if_neg c_43, if_pos c_45, if_neg c_46, if_neg c_55], Or.inr rfl⟩
      · refine lv_iload_n hx hb d_Model_isCsr_21 rfl (lv_at hl 0 rfl) ?_
        refine lv_sipush (v := 836) hx hb d_Model_isCsr_22 rfl ?_
        refine lv_icmp_le (tgt := 42) hx hb d_Model_isCsr_25 (by decide) (fun c_65 => ?_) (fun c_65 => ?_)
        · refine lv_iconst (v := 1) hx hb d_Model_isCsr_42 rfl ?_
          refine lv_goto (tgt := 47) hx hb d_Model_isCsr_43 (by decide) ?_
          refine lv_istore_n (lv' := [(1, .int 1), (0, .int x0)]) hx hb d_Model_isCsr_47 rfl hl (by decide) rfl (fun ls hl => ?_)
          refine lv_iload_n hx hb d_Model_isCsr_48 rfl (lv_at hl 0 rfl) ?_
          refine lv_if_ne (tgt := 94) hx hb d_Model_isCsr_49 (by decide) (fun _ => ?_) (fun h9 => absurd h9 (by decide))
          refine lv_iconst (v := 1) hx hb d_Model_isCsr_94 rfl ?_
          refine lv_goto (tgt := 99) hx hb d_Model_isCsr_95 (by decide) ?_
          exact rz () hx hb hr hlocks rfl hP hD hS d_Model_isCsr_99 ⟨by simp only [sp_Model_isCsr, if_neg c_1, if_neg c_43, if_neg c_45, if_pos c_65], Or.inr rfl⟩
        · refine lv_iload_n hx hb d_Model_isCsr_28 rfl (lv_at hl 0 rfl) ?_
          refine lv_sipush (v := 3857) hx hb d_Model_isCsr_29 rfl ?_
          refine lv_icmp_lt (tgt := 46) hx hb d_Model_isCsr_32 (by decide) (fun c_67 => ?_) (fun c_67 => ?_)
          · refine lv_iconst (v := 0) hx hb d_Model_isCsr_46 rfl ?_
            refine lv_istore_n (lv' := [(1, .int 0), (0, .int x0)]) hx hb d_Model_isCsr_47 rfl hl (by decide) rfl (fun ls hl => ?_)
            refine lv_iload_n hx hb d_Model_isCsr_48 rfl (lv_at hl 0 rfl) ?_
            refine lv_if_ne (tgt := 94) hx hb d_Model_isCsr_49 (by decide) (fun h9 => absurd (by decide) h9) (fun _ => ?_)
            refine lv_iload_n hx hb d_Model_isCsr_52 rfl (lv_at hl 1 rfl) ?_
            refine lv_sipush (v := 256) hx hb d_Model_isCsr_53 rfl ?_
            refine lv_icmp_eq (tgt := 94) hx hb d_Model_isCsr_56 (by decide) (fun c_69 => ?_) (fun c_69 => ?_)
            · refine lv_iconst (v := 1) hx hb d_Model_isCsr_94 rfl ?_
              refine lv_goto (tgt := 99) hx hb d_Model_isCsr_95 (by decide) ?_
              exact rz () hx hb hr hlocks rfl hP hD hS d_Model_isCsr_99 ⟨by simp only [sp_Model_isCsr, if_neg c_1, if_neg c_43, if_neg c_45, if_neg c_65, if_pos c_67, if_pos c_69], Or.inr rfl⟩
            · refine lv_iload_n hx hb d_Model_isCsr_59 rfl (lv_at hl 1 rfl) ?_
              refine lv_sipush (v := 260) hx hb d_Model_isCsr_60 rfl ?_
              refine lv_icmp_eq (tgt := 94) hx hb d_Model_isCsr_63 (by decide) (fun c_70 => ?_) (fun c_70 => ?_)
              · refine lv_iconst (v := 1) hx hb d_Model_isCsr_94 rfl ?_
                refine lv_goto (tgt := 99) hx hb d_Model_isCsr_95 (by decide) ?_
                exact rz () hx hb hr hlocks rfl hP hD hS d_Model_isCsr_99 ⟨by simp only [sp_Model_isCsr, if_neg c_1, if_neg c_43, if_neg c_45, if_neg c_65, if_pos c_67, if_neg c_69, if_pos c_70], Or.inr rfl⟩
              · refine lv_iload_n hx hb d_Model_isCsr_66 rfl (lv_at hl 1 rfl) ?_
                refine lv_sipush (v := 261) hx hb d_Model_isCsr_67 rfl ?_
                refine lv_icmp_eq (tgt := 94) hx hb d_Model_isCsr_70 (by decide) (fun c_71 => ?_) (fun c_71 => ?_)
                · refine lv_iconst (v := 1) hx hb d_Model_isCsr_94 rfl ?_
                  refine lv_goto (tgt := 99) hx hb d_Model_isCsr_95 (by decide) ?_
                  exact rz () hx hb hr hlocks rfl hP hD hS d_Model_isCsr_99 ⟨by simp only [sp_Model_isCsr, if_neg c_1, if_neg c_43, if_neg c_45, if_neg c_65, if_pos c_67, if_neg c_69, if_neg c_70, if_pos c_71], Or.inr rfl⟩
                · refine lv_iload_n hx hb d_Model_isCsr_73 rfl (lv_at hl 1 rfl) ?_
                  refine lv_sipush (v := 320) hx hb d_Model_isCsr_74 rfl ?_
                  refine lv_icmp_lt (tgt := 87) hx hb d_Model_isCsr_77 (by decide) (fun c_72 => ?_) (fun c_72 => ?_)
                  · refine lv_iload_n hx hb d_Model_isCsr_87 rfl (lv_at hl 1 rfl) ?_
                    refine lv_sipush (v := 384) hx hb d_Model_isCsr_88 rfl ?_
                    refine lv_icmp_ne (tgt := 98) hx hb d_Model_isCsr_91 (by decide) (fun c_73 => ?_) (fun c_73 => ?_)
                    · refine lv_iconst (v := 0) hx hb d_Model_isCsr_98 rfl ?_
                      exact rz () hx hb hr hlocks rfl hP hD hS d_Model_isCsr_99 ⟨by simp only [sp_Model_isCsr, if_neg c_1, if_neg c_43, if_neg c_45, if_neg c_65, if_pos c_67, if_neg c_69, if_neg c_70, if_neg c_71, if_pos c_72, if_neg c_73], Or.inl rfl⟩
                    · refine lv_iconst (v := 1) hx hb d_Model_isCsr_94 rfl ?_
                      refine lv_goto (tgt := 99) hx hb d_Model_isCsr_95 (by decide) ?_
                      exact rz () hx hb hr hlocks rfl hP hD hS d_Model_isCsr_99 ⟨by simp only [sp_Model_isCsr, if_neg c_1, if_neg c_43, if_neg c_45, if_neg c_65, if_pos c_67, if_neg c_69, if_neg c_70, if_neg c_71, if_pos c_72, if_pos c_73], Or.inr rfl⟩
                  · refine lv_iload_n hx hb d_Model_isCsr_80 rfl (lv_at hl 1 rfl) ?_
                    refine lv_sipush (v := 324) hx hb d_Model_isCsr_81 rfl ?_
                    refine lv_icmp_le (tgt := 94) hx hb d_Model_isCsr_84 (by decide) (fun c_74 => ?_) (fun c_74 => ?_)
                    · refine lv_iconst (v := 1) hx hb d_Model_isCsr_94 rfl ?_
                      refine lv_goto (tgt := 99) hx hb d_Model_isCsr_95 (by decide) ?_
                      exact rz () hx hb hr hlocks rfl hP hD hS d_Model_isCsr_99 ⟨by simp only [sp_Model_isCsr, if_neg c_1, if_neg c_43, if_neg c_45, if_neg c_65, if_pos c_67, if_neg c_69, if_neg c_70, if_neg c_71, if_neg c_72, if_pos c_74], Or.inr rfl⟩
                    · refine lv_iload_n hx hb d_Model_isCsr_87 rfl (lv_at hl 1 rfl) ?_
                      refine lv_sipush (v := 384) hx hb d_Model_isCsr_88 rfl ?_
                      refine lv_icmp_ne (tgt := 98) hx hb d_Model_isCsr_91 (by decide) (fun c_75 => ?_) (fun c_75 => ?_)
                      · refine lv_iconst (v := 0) hx hb d_Model_isCsr_98 rfl ?_
                        exact rz () hx hb hr hlocks rfl hP hD hS d_Model_isCsr_99 ⟨by simp only [sp_Model_isCsr, if_neg c_1, if_neg c_43, if_neg c_45, if_neg c_65, if_pos c_67, if_neg c_69, if_neg c_70, if_neg c_71, if_neg c_72, if_neg c_74, if_neg c_75], Or.inl rfl⟩
                      · refine lv_iconst (v := 1) hx hb d_Model_isCsr_94 rfl ?_
                        refine lv_goto (tgt := 99) hx hb d_Model_isCsr_95 (by decide) ?_
                        exact rz () hx hb hr hlocks rfl hP hD hS d_Model_isCsr_99 ⟨by simp only [sp_Model_isCsr, if_neg c_1, if_neg c_43, if_neg c_45, if_neg c_65, if_pos c_67, if_neg c_69, if_neg c_70, if_neg c_71, if_neg c_72, if_neg c_74, if_pos c_75], Or.inr rfl⟩
          · refine lv_iload_n hx hb d_Model_isCsr_35 rfl (lv_at hl 0 rfl) ?_
            refine lv_sipush (v := 3860) hx hb d_Model_isCsr_36 rfl ?_
            refine lv_icmp_gt (tgt := 46) hx hb d_Model_isCsr_39 (by decide) (fun c_76 => ?_) (fun c_76 => ?_)
            · refine lv_iconst (v := 0) hx hb d_Model_isCsr_46 rfl ?_
              refine lv_istore_n (lv' := [(1, .int 0), (0, .int x0)]) hx hb d_Model_isCsr_47 rfl hl (by decide) rfl (fun ls hl => ?_)
              refine lv_iload_n hx hb d_Model_isCsr_48 rfl (lv_at hl 0 rfl) ?_
              refine lv_if_ne (tgt := 94) hx hb d_Model_isCsr_49 (by decide) (fun h9 => absurd (by decide) h9) (fun _ => ?_)
              refine lv_iload_n hx hb d_Model_isCsr_52 rfl (lv_at hl 1 rfl) ?_
              refine lv_sipush (v := 256) hx hb d_Model_isCsr_53 rfl ?_
              refine lv_icmp_eq (tgt := 94) hx hb d_Model_isCsr_56 (by decide) (fun c_78 => ?_) (fun c_78 => ?_)
              · refine lv_iconst (v := 1) hx hb d_Model_isCsr_94 rfl ?_
                refine lv_goto (tgt := 99) hx hb d_Model_isCsr_95 (by decide) ?_
                exact rz () hx hb hr hlocks rfl hP hD hS d_Model_isCsr_99 ⟨by simp only [sp_Model_isCsr, if_neg c_1, if_neg c_43, if_neg c_45, if_neg c_65, if_neg c_67, if_pos c_76, if_pos c_78], Or.inr rfl⟩
              · refine lv_iload_n hx hb d_Model_isCsr_59 rfl (lv_at hl 1 rfl) ?_
                refine lv_sipush (v := 260) hx hb d_Model_isCsr_60 rfl ?_
                refine lv_icmp_eq (tgt := 94) hx hb d_Model_isCsr_63 (by decide) (fun c_79 => ?_) (fun c_79 => ?_)
                · refine lv_iconst (v := 1) hx hb d_Model_isCsr_94 rfl ?_
                  refine lv_goto (tgt := 99) hx hb d_Model_isCsr_95 (by decide) ?_
                  exact rz () hx hb hr hlocks rfl hP hD hS d_Model_isCsr_99 ⟨by simp only [sp_Model_isCsr, if_neg c_1, if_neg c_43, if_neg c_45, if_neg c_65, if_neg c_67, if_pos c_76, if_neg c_78, if_pos c_79], Or.inr rfl⟩
                · refine lv_iload_n hx hb d_Model_isCsr_66 rfl (lv_at hl 1 rfl) ?_
                  refine lv_sipush (v := 261) hx hb d_Model_isCsr_67 rfl ?_
                  refine lv_icmp_eq (tgt := 94) hx hb d_Model_isCsr_70 (by decide) (fun c_80 => ?_) (fun c_80 => ?_)
                  · refine lv_iconst (v := 1) hx hb d_Model_isCsr_94 rfl ?_
                    refine lv_goto (tgt := 99) hx hb d_Model_isCsr_95 (by decide) ?_
                    exact rz () hx hb hr hlocks rfl hP hD hS d_Model_isCsr_99 ⟨by simp only [sp_Model_isCsr, if_neg c_1, if_neg c_43, if_neg c_45, if_neg c_65, if_neg c_67, if_pos c_76, if_neg c_78, if_neg c_79, if_pos c_80], Or.inr rfl⟩
                  · refine lv_iload_n hx hb d_Model_isCsr_73 rfl (lv_at hl 1 rfl) ?_
                    refine lv_sipush (v := 320) hx hb d_Model_isCsr_74 rfl ?_
                    refine lv_icmp_lt (tgt := 87) hx hb d_Model_isCsr_77 (by decide) (fun c_81 => ?_) (fun c_81 => ?_)
                    · refine lv_iload_n hx hb d_Model_isCsr_87 rfl (lv_at hl 1 rfl) ?_
                      refine lv_sipush (v := 384) hx hb d_Model_isCsr_88 rfl ?_
                      refine lv_icmp_ne (tgt := 98) hx hb d_Model_isCsr_91 (by decide) (fun c_82 => ?_) (fun c_82 => ?_)
                      · refine lv_iconst (v := 0) hx hb d_Model_isCsr_98 rfl ?_
                        exact rz () hx hb hr hlocks rfl hP hD hS d_Model_isCsr_99 ⟨by simp only [sp_Model_isCsr, if_neg c_1, if_neg c_43, if_neg c_45, if_neg c_65, if_neg c_67, if_pos c_76, if_neg c_78, if_neg c_79, if_neg c_80, if_pos c_81, if_neg c_82], Or.inl rfl⟩
                      · refine lv_iconst (v := 1) hx hb d_Model_isCsr_94 rfl ?_
                        refine lv_goto (tgt := 99) hx hb d_Model_isCsr_95 (by decide) ?_
                        exact rz () hx hb hr hlocks rfl hP hD hS d_Model_isCsr_99 ⟨by simp only [sp_Model_isCsr, if_neg c_1, if_neg c_43, if_neg c_45, if_neg c_65, if_neg c_67, if_pos c_76, if_neg c_78, if_neg c_79, if_neg c_80, if_pos c_81, if_pos c_82], Or.inr rfl⟩
                    · refine lv_iload_n hx hb d_Model_isCsr_80 rfl (lv_at hl 1 rfl) ?_
                      refine lv_sipush (v := 324) hx hb d_Model_isCsr_81 rfl ?_
                      refine lv_icmp_le (tgt := 94) hx hb d_Model_isCsr_84 (by decide) (fun c_83 => ?_) (fun c_83 => ?_)
                      · refine lv_iconst (v := 1) hx hb d_Model_isCsr_94 rfl ?_
                        refine lv_goto (tgt := 99) hx hb d_Model_isCsr_95 (by decide) ?_
                        exact rz () hx hb hr hlocks rfl hP hD hS d_Model_isCsr_99 ⟨by simp only [sp_Model_isCsr, if_neg c_1, if_neg c_43, if_neg c_45, if_neg c_65, if_neg c_67, if_pos c_76, if_neg c_78, if_neg c_79, if_neg c_80, if_neg c_81, if_pos c_83], Or.inr rfl⟩
                      · refine lv_iload_n hx hb d_Model_isCsr_87 rfl (lv_at hl 1 rfl) ?_
                        refine lv_sipush (v := 384) hx hb d_Model_isCsr_88 rfl ?_
                        refine lv_icmp_ne (tgt := 98) hx hb d_Model_isCsr_91 (by decide) (fun c_84 => ?_) (fun c_84 => ?_)
                        · refine lv_iconst (v := 0) hx hb d_Model_isCsr_98 rfl ?_
                          exact rz () hx hb hr hlocks rfl hP hD hS d_Model_isCsr_99 ⟨by simp only [sp_Model_isCsr, if_neg c_1, if_neg c_43, if_neg c_45, if_neg c_65, if_neg c_67, if_pos c_76, if_neg c_78, if_neg c_79, if_neg c_80, if_neg c_81, if_neg c_83, if_neg c_84], Or.inl rfl⟩
                        · refine lv_iconst (v := 1) hx hb d_Model_isCsr_94 rfl ?_
                          refine lv_goto (tgt := 99) hx hb d_Model_isCsr_95 (by decide) ?_
                          exact rz () hx hb hr hlocks rfl hP hD hS d_Model_isCsr_99 ⟨by simp only [sp_Model_isCsr, if_neg c_1, if_neg c_43, if_neg c_45, if_neg c_65, if_neg c_67, if_pos c_76, if_neg c_78, if_neg c_79, if_neg c_80, if_neg c_81, if_neg c_83, if_pos c_84], Or.inr rfl⟩
            · refine lv_iconst (v := 1) hx hb d_Model_isCsr_42 rfl ?_
              refine lv_goto (tgt := 47) hx hb d_Model_isCsr_43 (by decide) ?_
              refine lv_istore_n (lv' := [(1, .int 1), (0, .int x0)]) hx hb d_Model_isCsr_47 rfl hl (by decide) rfl (fun ls hl => ?_)
              refine lv_iload_n hx hb d_Model_isCsr_48 rfl (lv_at hl 0 rfl) ?_
              refine lv_if_ne (tgt := 94) hx hb d_Model_isCsr_49 (by decide) (fun _ => ?_) (fun h9 => absurd h9 (by decide))
              refine lv_iconst (v := 1) hx hb d_Model_isCsr_94 rfl ?_
              refine lv_goto (tgt := 99) hx hb d_Model_isCsr_95 (by decide) ?_
              exact rz () hx hb hr hlocks rfl hP hD hS d_Model_isCsr_99 ⟨by simp only [sp_Model_isCsr, if_neg c_1, if_neg c_43, if_neg c_45, if_neg c_65, if_neg c_67, if_neg c_76], Or.inr rfl⟩
set_option maxHeartbeats 4000000 in
theorem isCsr_big {x : Int32} (h : ¬ (0 ≤ x.toInt ∧ x.toInt < 4096)) : sp_Model_isCsr x = 0 := by
  have ne : ∀ (k : Int32), 0 ≤ k.toInt ∧ k.toInt < 4096 → ¬ x = k := fun k hk e => h (by rw [e]; exact hk)
  have hle : ∀ (k : Int32), 0 ≤ k.toInt ∧ k.toInt < 4096 → (x.toInt < 0 → ¬ k ≤ x) ∧ (0 ≤ x.toInt → ¬ x ≤ k) := fun k hk => ⟨fun q z => by rw [Int32.le_iff_toInt_le] at z; omega, fun q z => by rw [Int32.le_iff_toInt_le] at z; omega⟩
  have hlt : ∀ (k : Int32), 0 ≤ k.toInt ∧ k.toInt < 4096 → (x.toInt < 0 → x < k) ∧ (0 ≤ x.toInt → ¬ x < k) := fun k hk => ⟨fun q => by rw [Int32.lt_iff_toInt_lt]; omega, fun q z => by rw [Int32.lt_iff_toInt_lt] at z; omega⟩
  have hgt : ∀ (k : Int32), 0 ≤ k.toInt ∧ k.toInt < 4096 → (0 ≤ x.toInt → k < x) := fun k hk q => by rw [Int32.lt_iff_toInt_lt]; omega
  by_cases q : x.toInt < 0
  · have a1 := (hlt 768 (by decide)).1 q
    have a2 := (hlt 832 (by decide)).1 q
    have a3 := (hlt 3857 (by decide)).1 q
    have a4 := (hlt 320 (by decide)).1 q
    have b1 := ne 256 (by decide)
    have b2 := ne 260 (by decide)
    have b3 := ne 261 (by decide)
    have b4 := ne 384 (by decide)
    simp only [sp_Model_isCsr, if_pos a1, if_pos a2, if_pos a3, if_pos a4, if_neg b1, if_neg b2, if_neg b3, if_neg b4]
  · have q : 0 ≤ x.toInt := by omega
    have a1 := (hlt 768 (by decide)).2 q
    have a2 := (hlt 832 (by decide)).2 q
    have a3 := (hlt 3857 (by decide)).2 q
    have a4 := (hlt 320 (by decide)).2 q
    have g1 := (hle 773 (by decide)).2 q
    have g2 := (hle 836 (by decide)).2 q
    have g4 := (hle 324 (by decide)).2 q
    have g3 := hgt 3860 (by decide) q
    have b1 := ne 256 (by decide)
    have b2 := ne 260 (by decide)
    have b3 := ne 261 (by decide)
    have b4 := ne 384 (by decide)
    simp only [sp_Model_isCsr, if_neg a1, if_neg a2, if_neg a3, if_neg a4, if_neg g1, if_neg g2, if_neg g4, if_pos g3, if_neg b1, if_neg b2, if_neg b3, if_neg b4]
theorem vp_isCsr {x : Int32} (c : ¬ sp_Model_isCsr x = 0) : vp_in x 4096 := by
  rw [vp_in_iff]
  by_cases h : 0 ≤ x.toInt ∧ x.toInt < 4096
  · exact h
  · exact absurd (isCsr_big h) c
def sp_Model_sstatusBits   : Int32 :=
  786722
set_option maxHeartbeats 4000000 in
set_option maxRecDepth 100000 in
theorem c_Model_sstatusBits {l : Launch} {D : va_G} {g : Nat → Nat}     : CT l D g y_Model_sstatusBits b_Model_sstatusBits 0 (some .int) (rD 0) [] [] [] (Qi D (fun (r : Int32) (_ : Unit) => sp_Model_sstatusBits = r) (fun _ => [])) := by
  refine CT.of rfl (Nat.le_of_ble_eq_true rfl) (fun p e s m below meth c A ls hx hb hr hml hts hown hlocks hA hP hK hD hF hS hl => ?_)
  have hl : lv_has ls 0 [] := hl
  refine lv_ldc (v := 786722) hx hb hown (hts _ k_722) d_Model_sstatusBits_0 ?_
  exact ri () hx hb hr hlocks hP hD hS d_Model_sstatusBits_2 (by simp only [sp_Model_sstatusBits])
def sp_Model_raw (x0 : Int32) (x1 : Int32) (cs : Nat → Int32) : Int32 :=
  cs (((4096 * x0) + x1).toNatClampNeg)
set_option maxHeartbeats 4000000 in
set_option maxRecDepth 100000 in
theorem c_Model_raw {l : Launch} {D : va_G} {g : Nat → Nat} (a : Nat → Nat) (k : Nat → ClassId) (n : Nat) (x0 : Int32) (x1 : Int32) (h ca tv nx : Int32) (pcs lv cs x b cl : Nat → Int32) (cm : Nat → Int64) (so : Nat → Int32) (ti : Int64) (pu : Nat → Int32) (np : Int32) (hn : n ≤ 4096) (hc : vp_in (4096 * x0 + x1) 8192) : CT l D g y_Model_raw b_Model_raw 3 (some .int) (rD 0) [.ref (a 0), .int x0, .int x1] (wR a k n h ca tv nx pcs lv cs x b cl cm so ti pu np) (tyR k) (Qi D (fun (r : Int32) (_ : Unit) => sp_Model_raw x0 x1 cs = r) (fun _ => wR a k n h ca tv nx pcs lv cs x b cl cm so ti pu np)) := by
  refine CT.of rfl (Nat.le_of_ble_eq_true rfl) (fun p e s m below meth c A ls hx hb hr hml hts hown hlocks hA hP hK hD hF hS hl => ?_)
  have hl : lv_has ls 3 [(0, .ref (a 0)), (1, .int x0), (2, .int x1)] := hl
  refine lv_aload_n hx hb d_Model_raw_0 rfl (lv_at hl 0 rfl) ?_
  refine va_get (D := D) (ci := 5) (v := .ref (a 5)) (C := R_Model) (T := F_Model) (N := 16) hx hb hts i_Model hown hK hP 0 rfl rfl 5 (by decide) (hts _ k_630) (fun _ h9 => h9) rfl d_Model_raw_1 ?_
  refine lv_sipush (v := 4096) hx hb d_Model_raw_4 rfl ?_
  refine lv_iload_n hx hb d_Model_raw_7 rfl (lv_at hl 1 rfl) ?_
  refine lv_imul hx hb d_Model_raw_8 ?_
  refine lv_iload_n hx hb d_Model_raw_9 rfl (lv_at hl 2 rfl) ?_
  refine lv_iadd hx hb d_Model_raw_10 ?_
  refine y_iald (v := cs (((4096 * x0) + x1).toNatClampNeg)) hx hb hK hP 5 4 rfl rfl hc rfl d_Model_raw_11 ?_
  exact ri () hx hb hr hlocks hP hD hS d_Model_raw_12 (by simp only [sp_Model_raw])
def sp_Model_read (x0 : Int32) (x1 : Int32) (cs : Nat → Int32) (cm : Nat → Int64) (so : Nat → Int32) (ti : Int64) : Int32 :=
  if (ti + (-9223372036854775808)) < ((cm x0.toNatClampNeg) + (-9223372036854775808)) then
    if (so x0.toNatClampNeg) = 1 then
      if x1 = 256 then
        (sp_Model_raw x0 768 cs) &&& sp_Model_sstatusBits
      else
        if x1 = 260 then
          (sp_Model_raw x0 772 cs) &&& (sp_Model_raw x0 771 cs)
        else
          if x1 = 324 then
            (((sp_Model_raw x0 836 cs) ||| 8) ||| 0) &&& (sp_Model_raw x0 771 cs)
          else
            if x1 = 769 then
              1075056897
            else
              if x1 = 836 then
                ((sp_Model_raw x0 836 cs) ||| 8) ||| 0
              else
                if x1 = 3860 then
                  x0
                else
                  sp_Model_raw x0 x1 cs
    else
      if x1 = 256 then
        (sp_Model_raw x0 768 cs) &&& sp_Model_sstatusBits
      else
        if x1 = 260 then
          (sp_Model_raw x0 772 cs) &&& (sp_Model_raw x0 771 cs)
        else
          if x1 = 324 then
            (((sp_Model_raw x0 836 cs) ||| 0) ||| 0) &&& (sp_Model_raw x0 771 cs)
          else
            if x1 = 769 then
              1075056897
            else
              if x1 = 836 then
                ((sp_Model_raw x0 836 cs) ||| 0) ||| 0
              else
                if x1 = 3860 then
                  x0
                else
                  sp_Model_raw x0 x1 cs
  else
    if (so x0.toNatClampNeg) = 1 then
      if x1 = 256 then
        (sp_Model_raw x0 768 cs) &&& sp_Model_sstatusBits
      else
        if x1 = 260 then
          (sp_Model_raw x0 772 cs) &&& (sp_Model_raw x0 771 cs)
        else
          if x1 = 324 then
            (((sp_Model_raw x0 836 cs) ||| 8) ||| 128) &&& (sp_Model_raw x0 771 cs)
          else
            if x1 = 769 then
              1075056897
            else
              if x1 = 836 then
                ((sp_Model_raw x0 836 cs) ||| 8) ||| 128
              else
                if x1 = 3860 then
                  x0
                else
                  sp_Model_raw x0 x1 cs
    else
      if x1 = 256 then
        (sp_Model_raw x0 768 cs) &&& sp_Model_sstatusBits
      else
        if x1 = 260 then
          (sp_Model_raw x0 772 cs) &&& (sp_Model_raw x0 771 cs)
        else
          if x1 = 324 then
            (((sp_Model_raw x0 836 cs) ||| 0) ||| 128) &&& (sp_Model_raw x0 771 cs)
          else
            if x1 = 769 then
              1075056897
            else
              if x1 = 836 then
                ((sp_Model_raw x0 836 cs) ||| 0) ||| 128
              else
                if x1 = 3860 then
                  x0
                else
                  sp_Model_raw x0 x1 cs
set_option maxHeartbeats 4000000 in
set_option maxRecDepth 100000 in
theorem c_Model_read {l : Launch} {D : va_G} {g : Nat → Nat} (a : Nat → Nat) (k : Nat → ClassId) (n : Nat) (x0 : Int32) (x1 : Int32) (h ca tv nx : Int32) (pcs lv cs x b cl : Nat → Int32) (cm : Nat → Int64) (so : Nat → Int32) (ti : Int64) (pu : Nat → Int32) (np : Int32) (hn : n ≤ 4096) (h0 : x0 = 0 ∨ x0 = 1) (hnn : vp_in x1 4096) : CT l D g y_Model_read b_Model_read 5 (some .int) (rD 1) [.ref (a 0), .int x0, .int x1] (wR a k n h ca tv nx pcs lv cs x b cl cm so ti pu np) (tyR k) (Qi D (fun (r : Int32) (_ : Unit) => sp_Model_read x0 x1 cs cm so ti = r) (fun _ => wR a k n h ca tv nx pcs lv cs x b cl cm so ti pu np)) := by
  refine CT.of rfl (Nat.le_of_ble_eq_true rfl) (fun p e s m below meth c A ls hx hb hr hml hts hown hlocks hA hP hK hD hF hS hl => ?_)
  have hl : lv_has ls 5 [(0, .ref (a 0)), (1, .int x0), (2, .int x1)] := hl
  refine lv_aload_n hx hb d_Model_read_0 rfl (lv_at hl 0 rfl) ?_
  refine va_get (D := D) (ci := 5) (v := .long ti) (C := R_Model) (T := F_Model) (N := 16) hx hb hts i_Model hown hK hP 0 rfl rfl 9 (by decide) (hts _ k_634) (fun _ h9 => h9) rfl d_Model_read_1 ?_
  refine lv_ldc2 (v := (-9223372036854775808)) hx hb hown (hts _ k_713) d_Model_read_4 ?_
  refine lv_ladd hx hb d_Model_read_7 ?_
  refine lv_aload_n hx hb d_Model_read_8 rfl (lv_at hl 0 rfl) ?_
  refine va_get (D := D) (ci := 5) (v := .ref (a 7)) (C := R_Model) (T := F_Model) (N := 16) hx hb hts i_Model hown hK hP 0 rfl rfl 7 (by decide) (hts _ k_632) (fun _ h9 => h9) rfl d_Model_read_9 ?_
  refine lv_iload_n hx hb d_Model_read_12 rfl (lv_at hl 1 rfl) ?_
  refine y_lald (v := cm x0.toNatClampNeg) hx hb hK hP 7 6 rfl rfl (vp_01 h0 (by decide)) rfl d_Model_read_13 ?_
  refine lv_ldc2 (v := (-9223372036854775808)) hx hb hown (hts _ k_713) d_Model_read_14 ?_
  refine lv_ladd hx hb d_Model_read_17 ?_
  refine W.lcmp hx hb d_Model_read_18 ?_
  refine lv_if_lt (tgt := 26) hx hb d_Model_read_19 (by decide) (fun b_1 => ?_) (fun b_1 => ?_)
  · have c_1 : (ti + (-9223372036854775808)) < ((cm x0.toNatClampNeg) + (-9223372036854775808)) := (lg_cmp_lt _ _).mp b_1
    refine lv_iconst (v := 0) hx hb d_Model_read_26 rfl ?_
    refine lv_istore_n (lv' := [(3, .int 0), (0, .ref (a 0)), (1, .int x0), (2, .int x1)]) hx hb d_Model_read_27 rfl hl (by decide) rfl (fun ls hl => ?_)
    refine lv_aload_n hx hb d_Model_read_28 rfl (lv_at hl 1 rfl) ?_
    refine lv_iload_n hx hb d_Model_read_29 rfl (lv_at hl 2 rfl) ?_
    refine lv_sipush (v := 836) hx hb d_Model_read_30 rfl ?_
    refine xi (wr := []) (W2 := fun _ => wR a k n h ca tv nx pcs lv cs x b cl cm so ti pu np) (xV (rest := []) ⟨hx, hb, hml, hown, hts⟩ (c_Model_raw a k n x0 836 h ca tv nx pcs lv cs x b cl cm so ti pu np hn (vp_csr h0 (by unfold vp_in; decide))) mw_Model_raw mv_Model_raw k_714 ⟨rfl, rfl, Nat.le_of_ble_eq_true rfl, Nat.le_of_ble_eq_true rfl⟩ hK hP hD hS hA hF [0, 1, 2, 3, 4, 5, 6, 7, 8, 9] [0, 1, 2, 3, 4, 5, 6, 7, 8] rfl rfl rfl 0 5 rfl rfl rfl rfl hl.1 rfl (Nat.le_of_ble_eq_true rfl) d_Model_read_33 ⟨Nat.zero_le _, Nat.zero_le _⟩) hP hD hS hA [0, 1, 2, 3, 4, 5, 6, 7, 8, 9] [] [0, 1, 2, 3, 4, 5, 6, 7, 8, 9] rfl rfl rfl (by decide) (fun _ => rfl) rfl (fun r_2 _ H locs h_2 hP hD hS => ?_)
    subst h_2
    refine lv_aload_n hx hb d_Model_read_36 rfl (lv_at hl 1 rfl) ?_
    refine va_get (D := D) (ci := 5) (v := .ref (a 8)) (C := R_Model) (T := F_Model) (N := 16) hx hb hts i_Model hown hK hP 0 rfl rfl 8 (by decide) (hts _ k_633) (fun _ h9 => h9) rfl d_Model_read_37 ?_
    refine lv_iload_n hx hb d_Model_read_40 rfl (lv_at hl 2 rfl) ?_
    refine y_iald (v := so x0.toNatClampNeg) hx hb hK hP 8 7 rfl rfl (vp_01 h0 (by decide)) rfl d_Model_read_41 ?_
    refine lv_iconst (v := 1) hx hb d_Model_read_42 rfl ?_
    refine lv_icmp_ne (tgt := 51) hx hb d_Model_read_43 (by decide) (fun c_3 => ?_) (fun c_3 => ?_)
    · refine lv_iconst (v := 0) hx hb d_Model_read_51 rfl ?_
      refine lv_ior hx hb d_Model_read_52 ?_
      refine lv_iload_n hx hb d_Model_read_53 rfl (lv_at hl 0 rfl) ?_
      refine lv_if_eq (tgt := 63) hx hb d_Model_read_54 (by decide) (fun _ => ?_) (fun h9 => absurd (by decide) h9)
      refine lv_iconst (v := 0) hx hb d_Model_read_63 rfl ?_
      refine lv_ior hx hb d_Model_read_64 ?_
      refine lv_istore (lv' := [(4, .int (((sp_Model_raw x0 836 cs) ||| 0) ||| 0)), (3, .int 0), (0, .ref (a 0)), (1, .int x0), (2, .int x1)]) hx hb d_Model_read_65 hl (by decide) rfl (fun ls hl => ?_)
      refine lv_iload_n hx hb d_Model_read_67 rfl (lv_at hl 4 rfl) ?_
      by_cases c_5 : x1 = 256
      · refine lv_lookup (off := 68) (tgt := 136) hx hb d_Model_read_68 rfl (by rw [c_5]; rfl) (by decide) ?_
        refine lv_aload_n hx hb d_Model_read_136 rfl (lv_at hl 2 rfl) ?_
        refine lv_iload_n hx hb d_Model_read_137 rfl (lv_at hl 3 rfl) ?_
        refine lv_sipush (v := 768) hx hb d_Model_read_138 rfl ?_
        refine xi (wr := []) (W2 := fun _ => wR a k n h ca tv nx pcs lv cs x b cl cm so ti pu np) (xV (rest := []) ⟨hx, hb, hml, hown, hts⟩ (c_Model_raw a k n x0 768 h ca tv nx pcs lv cs x b cl cm so ti pu np hn (vp_csr h0 (by unfold vp_in; decide))) mw_Model_raw mv_Model_raw k_714 ⟨rfl, rfl, Nat.le_of_ble_eq_true rfl, Nat.le_of_ble_eq_true rfl⟩ hK hP hD hS hA hF [0, 1, 2, 3, 4, 5, 6, 7, 8, 9] [0, 1, 2, 3, 4, 5, 6, 7, 8] rfl rfl rfl 0 5 rfl rfl rfl rfl hl.1 rfl (Nat.le_of_ble_eq_true rfl) d_Model_read_141 ⟨Nat.zero_le _, Nat.zero_le _⟩) hP hD hS hA [0, 1, 2, 3, 4, 5, 6, 7, 8, 9] [] [0, 1, 2, 3, 4, 5, 6, 7, 8, 9] rfl rfl rfl (by decide) (fun _ => rfl) rfl (fun r_6 _ H locs h_6 hP hD hS => ?_)
        subst h_6
        refine xi (wr := [((a 0), .inr (5, [.int (nI n), .ref (a 1), .ref (a 2), .ref (a 3), .ref (a 4), .ref (a 5), .ref (a 6), .ref (a 7), .ref (a 8), .long ti, .ref (a 9), .int np, .int h, .int ca, .int tv, .int nx])), ((a 1), .inl ((k 0), 16384, .inl b)), ((a 2), .inl ((k 1), 64, .inl x)), ((a 3), .inl ((k 2), 2, .inl pcs)), ((a 4), .inl ((k 3), 2, .inl lv)), ((a 5), .inl ((k 4), 8192, .inl cs)), ((a 6), .inl ((k 5), 2, .inl cl)), ((a 7), .inl ((k 6), 2, .inr (.inl cm))), ((a 8), .inl ((k 7), 2, .inl so)), ((a 9), .inl ((k 8), 256, .inl pu))]) (W2 := fun _ => wR a k n h ca tv nx pcs lv cs x b cl cm so ti pu np) (xS (rest := [.int (sp_Model_raw x0 768 cs)]) ⟨hx, hb, hml, hown, hts⟩ c_Model_sstatusBits mw_Model_sstatusBits ms_Model_sstatusBits k_719 ⟨rfl, rfl, Nat.le_of_ble_eq_true rfl, Nat.le_of_ble_eq_true rfl⟩ hK hP hD hS hA hF [] [] rfl rfl rfl rfl hl.1 rfl (Nat.le_of_ble_eq_true rfl) d_Model_read_144 ⟨Nat.zero_le _, Nat.zero_le _⟩) hP hD hS hA [] [0, 1, 2, 3, 4, 5, 6, 7, 8, 9] [0, 1, 2, 3, 4, 5, 6, 7, 8, 9] rfl rfl rfl (by decide) (fun _ => rfl) rfl (fun r_7 _ H locs h_7 hP hD hS => ?_)
        subst h_7
        refine lv_iand hx hb d_Model_read_147 ?_
        exact ri () hx hb hr hlocks hP hD hS d_Model_read_148 (by simp only [sp_Model_read, if_pos c_1, if_neg c_3, if_pos c_5])
      · by_cases c_8 : x1 = 260
        · refine lv_lookup (off := 81) (tgt := 149) hx hb d_Model_read_68 rfl (by rw [c_8]; rfl) (by decide) ?_
          refine lv_aload_n hx hb d_Model_read_149 rfl (lv_at hl 2 rfl) ?_
          refine lv_iload_n hx hb d_Model_read_150 rfl (lv_at hl 3 rfl) ?_
          refine lv_sipush (v := 772) hx hb d_Model_read_151 rfl ?_
          refine xi (wr := []) (W2 := fun _ => wR a k n h ca tv nx pcs lv cs x b cl cm so ti pu np) (xV (rest := []) ⟨hx, hb, hml, hown, hts⟩ (c_Model_raw a k n x0 772 h ca tv nx pcs lv cs x b cl cm so ti pu np hn (vp_csr h0 (by unfold vp_in; decide))) mw_Model_raw mv_Model_raw k_714 ⟨rfl, rfl, Nat.le_of_ble_eq_true rfl, Nat.le_of_ble_eq_true rfl⟩ hK hP hD hS hA hF [0, 1, 2, 3, 4, 5, 6, 7, 8, 9] [0, 1, 2, 3, 4, 5, 6, 7, 8] rfl rfl rfl 0 5 rfl rfl rfl rfl hl.1 rfl (Nat.le_of_ble_eq_true rfl) d_Model_read_154 ⟨Nat.zero_le _, Nat.zero_le _⟩) hP hD hS hA [0, 1, 2, 3, 4, 5, 6, 7, 8, 9] [] [0, 1, 2, 3, 4, 5, 6, 7, 8, 9] rfl rfl rfl (by decide) (fun _ => rfl) rfl (fun r_9 _ H locs h_9 hP hD hS => ?_)
          subst h_9
          refine lv_aload_n hx hb d_Model_read_157 rfl (lv_at hl 2 rfl) ?_
          refine lv_iload_n hx hb d_Model_read_158 rfl (lv_at hl 3 rfl) ?_
          refine lv_sipush (v := 771) hx hb d_Model_read_159 rfl ?_
          refine xi (wr := []) (W2 := fun _ => wR a k n h ca tv nx pcs lv cs x b cl cm so ti pu np) (xV (rest := [.int (sp_Model_raw x0 772 cs)]) ⟨hx, hb, hml, hown, hts⟩ (c_Model_raw a k n x0 771 h ca tv nx pcs lv cs x b cl cm so ti pu np hn (vp_csr h0 (by unfold vp_in; decide))) mw_Model_raw mv_Model_raw k_714 ⟨rfl, rfl, Nat.le_of_ble_eq_true rfl, Nat.le_of_ble_eq_true rfl⟩ hK hP hD hS hA hF [0, 1, 2, 3, 4, 5, 6, 7, 8, 9] [0, 1, 2, 3, 4, 5, 6, 7, 8] rfl rfl rfl 0 5 rfl rfl rfl rfl hl.1 rfl (Nat.le_of_ble_eq_true rfl) d_Model_read_162 ⟨Nat.zero_le _, Nat.zero_le _⟩) hP hD hS hA [0, 1, 2, 3, 4, 5, 6, 7, 8, 9] [] [0, 1, 2, 3, 4, 5, 6, 7, 8, 9] rfl rfl rfl (by decide) (fun _ => rfl) rfl (fun r_10 _ H locs h_10 hP hD hS => ?_)
          subst h_10
          refine lv_iand hx hb d_Model_read_165 ?_
          exact ri () hx hb hr hlocks hP hD hS d_Model_read_166 (by simp only [sp_Model_read, if_pos c_1, if_neg c_3, if_neg c_5, if_pos c_8])
        · by_cases c_11 : x1 = 324
          · refine lv_lookup (off := 99) (tgt := 167) hx hb d_Model_read_68 rfl (by rw [c_11]; rfl) (by decide) ?_
            refine lv_iload hx hb d_Model_read_167 (lv_at hl 0 rfl) ?_
            refine lv_aload_n hx hb d_Model_read_169 rfl (lv_at hl 2 rfl) ?_
            refine lv_iload_n hx hb d_Model_read_170 rfl (lv_at hl 3 rfl) ?_
            refine lv_sipush (v := 771) hx hb d_Model_read_171 rfl ?_
            refine xi (wr := []) (W2 := fun _ => wR a k n h ca tv nx pcs lv cs x b cl cm so ti pu np) (xV (rest := [.int (((sp_Model_raw x0 836 cs) ||| 0) ||| 0)]) ⟨hx, hb, hml, hown, hts⟩ (c_Model_raw a k n x0 771 h ca tv nx pcs lv cs x b cl cm so ti pu np hn (vp_csr h0 (by unfold vp_in; decide))) mw_Model_raw mv_Model_raw k_714 ⟨rfl, rfl, Nat.le_of_ble_eq_true rfl, Nat.le_of_ble_eq_true rfl⟩ hK hP hD hS hA hF [0, 1, 2, 3, 4, 5, 6, 7, 8, 9] [0, 1, 2, 3, 4, 5, 6, 7, 8] rfl rfl rfl 0 5 rfl rfl rfl rfl hl.1 rfl (Nat.le_of_ble_eq_true rfl) d_Model_read_174 ⟨Nat.zero_le _, Nat.zero_le _⟩) hP hD hS hA [0, 1, 2, 3, 4, 5, 6, 7, 8, 9] [] [0, 1, 2, 3, 4, 5, 6, 7, 8, 9] rfl rfl rfl (by decide) (fun _ => rfl) rfl (fun r_12 _ H locs h_12 hP hD hS => ?_)
            subst h_12
            refine lv_iand hx hb d_Model_read_177 ?_
            exact ri () hx hb hr hlocks hP hD hS d_Model_read_178 (by simp only [sp_Model_read, if_pos c_1, if_neg c_3, if_neg c_5, if_neg c_8, if_pos c_11])
          · by_cases c_13 : x1 = 769
            · refine lv_lookup (off := 60) (tgt := 128) hx hb d_Model_read_68 rfl (by rw [c_13]; rfl) (by decide) ?_
              refine lv_ldc (v := 1075056897) hx hb hown (hts _ k_718) d_Model_read_128 ?_
              exact ri () hx hb hr hlocks hP hD hS d_Model_read_130 (by simp only [sp_Model_read, if_pos c_1, if_neg c_3, if_neg c_5, if_neg c_8, if_neg c_11, if_pos c_13])
            · by_cases c_14 : x1 = 836
              · refine lv_lookup (off := 65) (tgt := 133) hx hb d_Model_read_68 rfl (by rw [c_14]; rfl) (by decide) ?_
                refine lv_iload hx hb d_Model_read_133 (lv_at hl 0 rfl) ?_
                exact ri () hx hb hr hlocks hP hD hS d_Model_read_135 (by simp only [sp_Model_read, if_pos c_1, if_neg c_3, if_neg c_5, if_neg c_8, if_neg c_11, if_neg c_13, if_pos c_14])
              · by_cases c_15 : x1 = 3860
                · refine lv_lookup (off := 63) (tgt := 131) hx hb d_Model_read_68 rfl (by rw [c_15]; rfl) (by decide) ?_
                  refine lv_iload_n hx hb d_Model_read_131 rfl (lv_at hl 3 rfl) ?_
                  exact ri () hx hb hr hlocks hP hD hS d_Model_read_132 (by simp only [sp_Model_read, if_pos c_1, if_neg c_3, if_neg c_5, if_neg c_8, if_neg c_11, if_neg c_13, if_neg c_14, if_pos c_15])
                · refine lv_lookup (off := 111) (tgt := 179) hx hb d_Model_read_68 rfl ((lv_osw (a := 256) c_5 rfl).trans ((lv_osw (a := 260) c_8 rfl).trans ((lv_osw (a := 324) c_11 rfl).trans ((lv_osw (a := 769) c_13 rfl).trans ((lv_osw (a := 836) c_14 rfl).trans ((lv_osw (a := 3860) c_15 rfl).trans (rfl))))))) (by decide) ?_
                  refine lv_aload_n hx hb d_Model_read_179 rfl (lv_at hl 2 rfl) ?_
                  refine lv_iload_n hx hb d_Model_read_180 rfl (lv_at hl 3 rfl) ?_
                  refine lv_iload_n hx hb d_Model_read_181 rfl (lv_at hl 4 rfl) ?_
                  refine xi (wr := []) (W2 := fun _ => wR a k n h ca tv nx pcs lv cs x b cl cm so ti pu np) (xV (rest := []) ⟨hx, hb, hml, hown, hts⟩ (c_Model_raw a k n x0 x1 h ca tv nx pcs lv cs x b cl cm so ti pu np hn (vp_csr h0 hnn)) mw_Model_raw mv_Model_raw k_714 ⟨rfl, rfl, Nat.le_of_ble_eq_true rfl, Nat.le_of_ble_eq_true rfl⟩ hK hP hD hS hA hF [0, 1, 2, 3, 4, 5, 6, 7, 8, 9] [0, 1, 2, 3, 4, 5, 6, 7, 8] rfl rfl rfl 0 5 rfl rfl rfl rfl hl.1 rfl (Nat.le_of_ble_eq_true rfl) d_Model_read_182 ⟨Nat.zero_le _, Nat.zero_le _⟩) hP hD hS hA [0, 1, 2, 3, 4, 5, 6, 7, 8, 9] [] [0, 1, 2, 3, 4, 5, 6, 7, 8, 9] rfl rfl rfl (by decide) (fun _ => rfl) rfl (fun r_16 _ H locs h_16 hP hD hS => ?_)
                  subst h_16
                  exact ri () hx hb hr hlocks hP hD hS d_Model_read_185 (by simp only [sp_Model_read, if_pos c_1, if_neg c_3, if_neg c_5, if_neg c_8, if_neg c_11, if_neg c_13, if_neg c_14, if_neg c_15])
    · refine lv_bipush (v := 8) hx hb d_Model_read_46 rfl ?_
      refine lv_goto (tgt := 52) hx hb d_Model_read_48 (by decide) ?_
      refine lv_ior hx hb d_Model_read_52 ?_
      refine lv_iload_n hx hb d_Model_read_53 rfl (lv_at hl 0 rfl) ?_
      refine lv_if_eq (tgt := 63) hx hb d_Model_read_54 (by decide) (fun _ => ?_) (fun h9 => absurd (by decide) h9)
      refine lv_iconst (v := 0) hx hb d_Model_read_63 rfl ?_
      refine lv_ior hx hb d_Model_read_64 ?_
      refine lv_istore (lv' := [(4, .int (((sp_Model_raw x0 836 cs) ||| 8) ||| 0)), (3, .int 0), (0, .ref (a 0)), (1, .int x0), (2, .int x1)]) hx hb d_Model_read_65 hl (by decide) rfl (fun ls hl => ?_)
      refine lv_iload_n hx hb d_Model_read_67 rfl (lv_at hl 4 rfl) ?_
      by_cases c_18 : x1 = 256
      · refine lv_lookup (off := 68) (tgt := 136) hx hb d_Model_read_68 rfl (by rw [c_18]; rfl) (by decide) ?_
        refine lv_aload_n hx hb d_Model_read_136 rfl (lv_at hl 2 rfl) ?_
        refine lv_iload_n hx hb d_Model_read_137 rfl (lv_at hl 3 rfl) ?_
        refine lv_sipush (v := 768) hx hb d_Model_read_138 rfl ?_
        refine xi (wr := []) (W2 := fun _ => wR a k n h ca tv nx pcs lv cs x b cl cm so ti pu np) (xV (rest := []) ⟨hx, hb, hml, hown, hts⟩ (c_Model_raw a k n x0 768 h ca tv nx pcs lv cs x b cl cm so ti pu np hn (vp_csr h0 (by unfold vp_in; decide))) mw_Model_raw mv_Model_raw k_714 ⟨rfl, rfl, Nat.le_of_ble_eq_true rfl, Nat.le_of_ble_eq_true rfl⟩ hK hP hD hS hA hF [0, 1, 2, 3, 4, 5, 6, 7, 8, 9] [0, 1, 2, 3, 4, 5, 6, 7, 8] rfl rfl rfl 0 5 rfl rfl rfl rfl hl.1 rfl (Nat.le_of_ble_eq_true rfl) d_Model_read_141 ⟨Nat.zero_le _, Nat.zero_le _⟩) hP hD hS hA [0, 1, 2, 3, 4, 5, 6, 7, 8, 9] [] [0, 1, 2, 3, 4, 5, 6, 7, 8, 9] rfl rfl rfl (by decide) (fun _ => rfl) rfl (fun r_19 _ H locs h_19 hP hD hS => ?_)
        subst h_19
        refine xi (wr := [((a 0), .inr (5, [.int (nI n), .ref (a 1), .ref (a 2), .ref (a 3), .ref (a 4), .ref (a 5), .ref (a 6), .ref (a 7), .ref (a 8), .long ti, .ref (a 9), .int np, .int h, .int ca, .int tv, .int nx])), ((a 1), .inl ((k 0), 16384, .inl b)), ((a 2), .inl ((k 1), 64, .inl x)), ((a 3), .inl ((k 2), 2, .inl pcs)), ((a 4), .inl ((k 3), 2, .inl lv)), ((a 5), .inl ((k 4), 8192, .inl cs)), ((a 6), .inl ((k 5), 2, .inl cl)), ((a 7), .inl ((k 6), 2, .inr (.inl cm))), ((a 8), .inl ((k 7), 2, .inl so)), ((a 9), .inl ((k 8), 256, .inl pu))]) (W2 := fun _ => wR a k n h ca tv nx pcs lv cs x b cl cm so ti pu np) (xS (rest := [.int (sp_Model_raw x0 768 cs)]) ⟨hx, hb, hml, hown, hts⟩ c_Model_sstatusBits mw_Model_sstatusBits ms_Model_sstatusBits k_719 ⟨rfl, rfl, Nat.le_of_ble_eq_true rfl, Nat.le_of_ble_eq_true rfl⟩ hK hP hD hS hA hF [] [] rfl rfl rfl rfl hl.1 rfl (Nat.le_of_ble_eq_true rfl) d_Model_read_144 ⟨Nat.zero_le _, Nat.zero_le _⟩) hP hD hS hA [] [0, 1, 2, 3, 4, 5, 6, 7, 8, 9] [0, 1, 2, 3, 4, 5, 6, 7, 8, 9] rfl rfl rfl (by decide) (fun _ => rfl) rfl (fun r_20 _ H locs h_20 hP hD hS => ?_)
        subst h_20
        refine lv_iand hx hb d_Model_read_147 ?_
        exact ri () hx hb hr hlocks hP hD hS d_Model_read_148 (by simp only [sp_Model_read, if_pos c_1, if_pos c_3, if_pos c_18])
      · by_cases c_21 : x1 = 260
        · refine lv_lookup (off := 81) (tgt := 149) hx hb d_Model_read_68 rfl (by rw [c_21]; rfl) (by decide) ?_
          refine lv_aload_n hx hb d_Model_read_149 rfl (lv_at hl 2 rfl) ?_
          refine lv_iload_n hx hb d_Model_read_150 rfl (lv_at hl 3 rfl) ?_
          refine lv_sipush (v := 772) hx hb d_Model_read_151 rfl ?_
          refine xi (wr := []) (W2 := fun _ => wR a k n h ca tv nx pcs lv cs x b cl cm so ti pu np) (xV (rest := []) ⟨hx, hb, hml, hown, hts⟩ (c_Model_raw a k n x0 772 h ca tv nx pcs lv cs x b cl cm so ti pu np hn (vp_csr h0 (by unfold vp_in; decide))) mw_Model_raw mv_Model_raw k_714 ⟨rfl, rfl, Nat.le_of_ble_eq_true rfl, Nat.le_of_ble_eq_true rfl⟩ hK hP hD hS hA hF [0, 1, 2, 3, 4, 5, 6, 7, 8, 9] [0, 1, 2, 3, 4, 5, 6, 7, 8] rfl rfl rfl 0 5 rfl rfl rfl rfl hl.1 rfl (Nat.le_of_ble_eq_true rfl) d_Model_read_154 ⟨Nat.zero_le _, Nat.zero_le _⟩) hP hD hS hA [0, 1, 2, 3, 4, 5, 6, 7, 8, 9] [] [0, 1, 2, 3, 4, 5, 6, 7, 8, 9] rfl rfl rfl (by decide) (fun _ => rfl) rfl (fun r_22 _ H locs h_22 hP hD hS => ?_)
          subst h_22
          refine lv_aload_n hx hb d_Model_read_157 rfl (lv_at hl 2 rfl) ?_
          refine lv_iload_n hx hb d_Model_read_158 rfl (lv_at hl 3 rfl) ?_
          refine lv_sipush (v := 771) hx hb d_Model_read_159 rfl ?_
          refine xi (wr := []) (W2 := fun _ => wR a k n h ca tv nx pcs lv cs x b cl cm so ti pu np) (xV (rest := [.int (sp_Model_raw x0 772 cs)]) ⟨hx, hb, hml, hown, hts⟩ (c_Model_raw a k n x0 771 h ca tv nx pcs lv cs x b cl cm so ti pu np hn (vp_csr h0 (by unfold vp_in; decide))) mw_Model_raw mv_Model_raw k_714 ⟨rfl, rfl, Nat.le_of_ble_eq_true rfl, Nat.le_of_ble_eq_true rfl⟩ hK hP hD hS hA hF [0, 1, 2, 3, 4, 5, 6, 7, 8, 9] [0, 1, 2, 3, 4, 5, 6, 7, 8] rfl rfl rfl 0 5 rfl rfl rfl rfl hl.1 rfl (Nat.le_of_ble_eq_true rfl) d_Model_read_162 ⟨Nat.zero_le _, Nat.zero_le _⟩) hP hD hS hA [0, 1, 2, 3, 4, 5, 6, 7, 8, 9] [] [0, 1, 2, 3, 4, 5, 6, 7, 8, 9] rfl rfl rfl (by decide) (fun _ => rfl) rfl (fun r_23 _ H locs h_23 hP hD hS => ?_)
          subst h_23
          refine lv_iand hx hb d_Model_read_165 ?_
          exact ri () hx hb hr hlocks hP hD hS d_Model_read_166 (by simp only [sp_Model_read, if_pos c_1, if_pos c_3, if_neg c_18, if_pos c_21])
        · by_cases c_24 : x1 = 324
          · refine lv_lookup (off := 99) (tgt := 167) hx hb d_Model_read_68 rfl (by rw [c_24]; rfl) (by decide) ?_
            refine lv_iload hx hb d_Model_read_167 (lv_at hl 0 rfl) ?_
            refine lv_aload_n hx hb d_Model_read_169 rfl (lv_at hl 2 rfl) ?_
            refine lv_iload_n hx hb d_Model_read_170 rfl (lv_at hl 3 rfl) ?_
            refine lv_sipush (v := 771) hx hb d_Model_read_171 rfl ?_
            refine xi (wr := []) (W2 := fun _ => wR a k n h ca tv nx pcs lv cs x b cl cm so ti pu np) (xV (rest := [.int (((sp_Model_raw x0 836 cs) ||| 8) ||| 0)]) ⟨hx, hb, hml, hown, hts⟩ (c_Model_raw a k n x0 771 h ca tv nx pcs lv cs x b cl cm so ti pu np hn (vp_csr h0 (by unfold vp_in; decide))) mw_Model_raw mv_Model_raw k_714 ⟨rfl, rfl, Nat.le_of_ble_eq_true rfl, Nat.le_of_ble_eq_true rfl⟩ hK hP hD hS hA hF [0, 1, 2, 3, 4, 5, 6, 7, 8, 9] [0, 1, 2, 3, 4, 5, 6, 7, 8] rfl rfl rfl 0 5 rfl rfl rfl rfl hl.1 rfl (Nat.le_of_ble_eq_true rfl) d_Model_read_174 ⟨Nat.zero_le _, Nat.zero_le _⟩) hP hD hS hA [0, 1, 2, 3, 4, 5, 6, 7, 8, 9] [] [0, 1, 2, 3, 4, 5, 6, 7, 8, 9] rfl rfl rfl (by decide) (fun _ => rfl) rfl (fun r_25 _ H locs h_25 hP hD hS => ?_)
            subst h_25
            refine lv_iand hx hb d_Model_read_177 ?_
            exact ri () hx hb hr hlocks hP hD hS d_Model_read_178 (by simp only [sp_Model_read, if_pos c_1, if_pos c_3, if_neg c_18, if_neg c_21, if_pos c_24])
          · by_cases c_26 : x1 = 769
            · refine lv_lookup (off := 60) (tgt := 128) hx hb d_Model_read_68 rfl (by rw [c_26]; rfl) (by decide) ?_
              refine lv_ldc (v := 1075056897) hx hb hown (hts _ k_718) d_Model_read_128 ?_
              exact ri () hx hb hr hlocks hP hD hS d_Model_read_130 (by simp only [sp_Model_read, if_pos c_1, if_pos c_3, if_neg c_18, if_neg c_21, if_neg c_24, if_pos c_26])
            · by_cases c_27 : x1 = 836
              · refine lv_lookup (off := 65) (tgt := 133) hx hb d_Model_read_68 rfl (by rw [c_27]; rfl) (by decide) ?_
                refine lv_iload hx hb d_Model_read_133 (lv_at hl 0 rfl) ?_
                exact ri () hx hb hr hlocks hP hD hS d_Model_read_135 (by simp only [sp_Model_read, if_pos c_1, if_pos c_3, if_neg c_18, if_neg c_21, if_neg c_24, if_neg c_26, if_pos c_27])
              · by_cases c_28 : x1 = 3860
                · refine lv_lookup (off := 63) (tgt := 131) hx hb d_Model_read_68 rfl (by rw [c_28]; rfl) (by decide) ?_
                  refine lv_iload_n hx hb d_Model_read_131 rfl (lv_at hl 3 rfl) ?_
                  exact ri () hx hb hr hlocks hP hD hS d_Model_read_132 (by simp only [sp_Model_read, if_pos c_1, if_pos c_3, if_neg c_18, if_neg c_21, if_neg c_24, if_neg c_26, if_neg c_27, if_pos c_28])
                · refine lv_lookup (off := 111) (tgt := 179) hx hb d_Model_read_68 rfl ((lv_osw (a := 256) c_18 rfl).trans ((lv_osw (a := 260) c_21 rfl).trans ((lv_osw (a := 324) c_24 rfl).trans ((lv_osw (a := 769) c_26 rfl).trans ((lv_osw (a := 836) c_27 rfl).trans ((lv_osw (a := 3860) c_28 rfl).trans (rfl))))))) (by decide) ?_
                  refine lv_aload_n hx hb d_Model_read_179 rfl (lv_at hl 2 rfl) ?_
                  refine lv_iload_n hx hb d_Model_read_180 rfl (lv_at hl 3 rfl) ?_
                  refine lv_iload_n hx hb d_Model_read_181 rfl (lv_at hl 4 rfl) ?_
                  refine xi (wr := []) (W2 := fun _ => wR a k n h ca tv nx pcs lv cs x b cl cm so ti pu np) (xV (rest := []) ⟨hx, hb, hml, hown, hts⟩ (c_Model_raw a k n x0 x1 h ca tv nx pcs lv cs x b cl cm so ti pu np hn (vp_csr h0 hnn)) mw_Model_raw mv_Model_raw k_714 ⟨rfl, rfl, Nat.le_of_ble_eq_true rfl, Nat.le_of_ble_eq_true rfl⟩ hK hP hD hS hA hF [0, 1, 2, 3, 4, 5, 6, 7, 8, 9] [0, 1, 2, 3, 4, 5, 6, 7, 8] rfl rfl rfl 0 5 rfl rfl rfl rfl hl.1 rfl (Nat.le_of_ble_eq_true rfl) d_Model_read_182 ⟨Nat.zero_le _, Nat.zero_le _⟩) hP hD hS hA [0, 1, 2, 3, 4, 5, 6, 7, 8, 9] [] [0, 1, 2, 3, 4, 5, 6, 7, 8, 9] rfl rfl rfl (by decide) (fun _ => rfl) rfl (fun r_29 _ H locs h_29 hP hD hS => ?_)
                  subst h_29
                  exact ri () hx hb hr hlocks hP hD hS d_Model_read_185 (by simp only [sp_Model_read, if_pos c_1, if_pos c_3, if_neg c_18, if_neg c_21, if_neg c_24, if_neg c_26, if_neg c_27, if_neg c_28])
  · have c_1 : ¬ (ti + (-9223372036854775808)) < ((cm x0.toNatClampNeg) + (-9223372036854775808)) := fun h9 => b_1 ((lg_cmp_lt _ _).mpr h9)
    refine lv_iconst (v := 1) hx hb d_Model_read_22 rfl ?_
    refine lv_goto (tgt := 27) hx hb d_Model_read_23 (by decide) ?_
    refine lv_istore_n (lv' := [(3, .int 1), (0, .ref (a 0)), (1, .int x0), (2, .int x1)]) hx hb d_Model_read_27 rfl hl (by decide) rfl (fun ls hl => ?_)
    refine lv_aload_n hx hb d_Model_read_28 rfl (lv_at hl 1 rfl) ?_
    refine lv_iload_n hx hb d_Model_read_29 rfl (lv_at hl 2 rfl) ?_
    refine lv_sipush (v := 836) hx hb d_Model_read_30 rfl ?_
    refine xi (wr := []) (W2 := fun _ => wR a k n h ca tv nx pcs lv cs x b cl cm so ti pu np) (xV (rest := []) ⟨hx, hb, hml, hown, hts⟩ (c_Model_raw a k n x0 836 h ca tv nx pcs lv cs x b cl cm so ti pu np hn (vp_csr h0 (by unfold vp_in; decide))) mw_Model_raw mv_Model_raw k_714 ⟨rfl, rfl, Nat.le_of_ble_eq_true rfl, Nat.le_of_ble_eq_true rfl⟩ hK hP hD hS hA hF [0, 1, 2, 3, 4, 5, 6, 7, 8, 9] [0, 1, 2, 3, 4, 5, 6, 7, 8] rfl rfl rfl 0 5 rfl rfl rfl rfl hl.1 rfl (Nat.le_of_ble_eq_true rfl) d_Model_read_33 ⟨Nat.zero_le _, Nat.zero_le _⟩) hP hD hS hA [0, 1, 2, 3, 4, 5, 6, 7, 8, 9] [] [0, 1, 2, 3, 4, 5, 6, 7, 8, 9] rfl rfl rfl (by decide) (fun _ => rfl) rfl (fun r_30 _ H locs h_30 hP hD hS => ?_)
    subst h_30
    refine lv_aload_n hx hb d_Model_read_36 rfl (lv_at hl 1 rfl) ?_
    refine va_get (D := D) (ci := 5) (v := .ref (a 8)) (C := R_Model) (T := F_Model) (N := 16) hx hb hts i_Model hown hK hP 0 rfl rfl 8 (by decide) (hts _ k_633) (fun _ h9 => h9) rfl d_Model_read_37 ?_
    refine lv_iload_n hx hb d_Model_read_40 rfl (lv_at hl 2 rfl) ?_
    refine y_iald (v := so x0.toNatClampNeg) hx hb hK hP 8 7 rfl rfl (vp_01 h0 (by decide)) rfl d_Model_read_41 ?_
    refine lv_iconst (v := 1) hx hb d_Model_read_42 rfl ?_
    refine lv_icmp_ne (tgt := 51) hx hb d_Model_read_43 (by decide) (fun c_31 => ?_) (fun c_31 => ?_)
    · refine lv_iconst (v := 0) hx hb d_Model_read_51 rfl ?_
      refine lv_ior hx hb d_Model_read_52 ?_
      refine lv_iload_n hx hb d_Model_read_53 rfl (lv_at hl 0 rfl) ?_
      refine lv_if_eq (tgt := 63) hx hb d_Model_read_54 (by decide) (fun h9 => absurd h9 (by decide)) (fun _ => ?_)
      refine lv_sipush (v := 128) hx hb d_Model_read_57 rfl ?_
      refine lv_goto (tgt := 64) hx hb d_Model_read_60 (by decide) ?_
      refine lv_ior hx hb d_Model_read_64 ?_
      refine lv_istore (lv' := [(4, .int (((sp_Model_raw x0 836 cs) ||| 0) ||| 128)), (3, .int 1), (0, .ref (a 0)), (1, .int x0), (2, .int x1)]) hx hb d_Model_read_65 hl (by decide) rfl (fun ls hl => ?_)
      refine lv_iload_n hx hb d_Model_read_67 rfl (lv_at hl 4 rfl) ?_
      by_cases c_33 : x1 = 256
      · refine lv_lookup (off := 68) (tgt := 136) hx hb d_Model_read_68 rfl (by rw [c_33]; rfl) (by decide) ?_
        refine lv_aload_n hx hb d_Model_read_136 rfl (lv_at hl 2 rfl) ?_
        refine lv_iload_n hx hb d_Model_read_137 rfl (lv_at hl 3 rfl) ?_
        refine lv_sipush (v := 768) hx hb d_Model_read_138 rfl ?_
        refine xi (wr := []) (W2 := fun _ => wR a k n h ca tv nx pcs lv cs x b cl cm so ti pu np) (xV (rest := []) ⟨hx, hb, hml, hown, hts⟩ (c_Model_raw a k n x0 768 h ca tv nx pcs lv cs x b cl cm so ti pu np hn (vp_csr h0 (by unfold vp_in; decide))) mw_Model_raw mv_Model_raw k_714 ⟨rfl, rfl, Nat.le_of_ble_eq_true rfl, Nat.le_of_ble_eq_true rfl⟩ hK hP hD hS hA hF [0, 1, 2, 3, 4, 5, 6, 7, 8, 9] [0, 1, 2, 3, 4, 5, 6, 7, 8] rfl rfl rfl 0 5 rfl rfl rfl rfl hl.1 rfl (Nat.le_of_ble_eq_true rfl) d_Model_read_141 ⟨Nat.zero_le _, Nat.zero_le _⟩) hP hD hS hA [0, 1, 2, 3, 4, 5, 6, 7, 8, 9] [] [0, 1, 2, 3, 4, 5, 6, 7, 8, 9] rfl rfl rfl (by decide) (fun _ => rfl) rfl (fun r_34 _ H locs h_34 hP hD hS => ?_)
        subst h_34
        refine xi (wr := [((a 0), .inr (5, [.int (nI n), .ref (a 1), .ref (a 2), .ref (a 3), .ref (a 4), .ref (a 5), .ref (a 6), .ref (a 7), .ref (a 8), .long ti, .ref (a 9), .int np, .int h, .int ca, .int tv, .int nx])), ((a 1), .inl ((k 0), 16384, .inl b)), ((a 2), .inl ((k 1), 64, .inl x)), ((a 3), .inl ((k 2), 2, .inl pcs)), ((a 4), .inl ((k 3), 2, .inl lv)), ((a 5), .inl ((k 4), 8192, .inl cs)), ((a 6), .inl ((k 5), 2, .inl cl)), ((a 7), .inl ((k 6), 2, .inr (.inl cm))), ((a 8), .inl ((k 7), 2, .inl so)), ((a 9), .inl ((k 8), 256, .inl pu))]) (W2 := fun _ => wR a k n h ca tv nx pcs lv cs x b cl cm so ti pu np) (xS (rest := [.int (sp_Model_raw x0 768 cs)]) ⟨hx, hb, hml, hown, hts⟩ c_Model_sstatusBits mw_Model_sstatusBits ms_Model_sstatusBits k_719 ⟨rfl, rfl, Nat.le_of_ble_eq_true rfl, Nat.le_of_ble_eq_true rfl⟩ hK hP hD hS hA hF [] [] rfl rfl rfl rfl hl.1 rfl (Nat.le_of_ble_eq_true rfl) d_Model_read_144 ⟨Nat.zero_le _, Nat.zero_le _⟩) hP hD hS hA [] [0, 1, 2, 3, 4, 5, 6, 7, 8, 9] [0, 1, 2, 3, 4, 5, 6, 7, 8, 9] rfl rfl rfl (by decide) (fun _ => rfl) rfl (fun r_35 _ H locs h_35 hP hD hS => ?_)
        subst h_35
        refine lv_iand hx hb d_Model_read_147 ?_
        exact ri () hx hb hr hlocks hP hD hS d_Model_read_148 (by simp only [sp_Model_read, if_neg c_1, if_neg c_31, if_pos c_33])
      · by_cases c_36 : x1 = 260
        · refine lv_lookup (off := 81) (tgt := 149) hx hb d_Model_read_68 rfl (by rw [c_36]; rfl) (by decide) ?_
          refine lv_aload_n hx hb d_Model_read_149 rfl (lv_at hl 2 rfl) ?_
          refine lv_iload_n hx hb d_Model_read_150 rfl (lv_at hl 3 rfl) ?_
          refine lv_sipush (v := 772) hx hb d_Model_read_151 rfl ?_
          refine xi (wr := []) (W2 := fun _ => wR a k n h ca tv nx pcs lv cs x b cl cm so ti pu np) (xV (rest := []) ⟨hx, hb, hml, hown, hts⟩ (c_Model_raw a k n x0 772 h ca tv nx pcs lv cs x b cl cm so ti pu np hn (vp_csr h0 (by unfold vp_in; decide))) mw_Model_raw mv_Model_raw k_714 ⟨rfl, rfl, Nat.le_of_ble_eq_true rfl, Nat.le_of_ble_eq_true rfl⟩ hK hP hD hS hA hF [0, 1, 2, 3, 4, 5, 6, 7, 8, 9] [0, 1, 2, 3, 4, 5, 6, 7, 8] rfl rfl rfl 0 5 rfl rfl rfl rfl hl.1 rfl (Nat.le_of_ble_eq_true rfl) d_Model_read_154 ⟨Nat.zero_le _, Nat.zero_le _⟩) hP hD hS hA [0, 1, 2, 3, 4, 5, 6, 7, 8, 9] [] [0, 1, 2, 3, 4, 5, 6, 7, 8, 9] rfl rfl rfl (by decide) (fun _ => rfl) rfl (fun r_37 _ H locs h_37 hP hD hS => ?_)
          subst h_37
          refine lv_aload_n hx hb d_Model_read_157 rfl (lv_at hl 2 rfl) ?_
          refine lv_iload_n hx hb d_Model_read_158 rfl (lv_at hl 3 rfl) ?_
          refine lv_sipush (v := 771) hx hb d_Model_read_159 rfl ?_
          refine xi (wr := []) (W2 := fun _ => wR a k n h ca tv nx pcs lv cs x b cl cm so ti pu np) (xV (rest := [.int (sp_Model_raw x0 772 cs)]) ⟨hx, hb, hml, hown, hts⟩ (c_Model_raw a k n x0 771 h ca tv nx pcs lv cs x b cl cm so ti pu np hn (vp_csr h0 (by unfold vp_in; decide))) mw_Model_raw mv_Model_raw k_714 ⟨rfl, rfl, Nat.le_of_ble_eq_true rfl, Nat.le_of_ble_eq_true rfl⟩ hK hP hD hS hA hF [0, 1, 2, 3, 4, 5, 6, 7, 8, 9] [0, 1, 2, 3, 4, 5, 6, 7, 8] rfl rfl rfl 0 5 rfl rfl rfl rfl hl.1 rfl (Nat.le_of_ble_eq_true rfl) d_Model_read_162 ⟨Nat.zero_le _, Nat.zero_le _⟩) hP hD hS hA [0, 1, 2, 3, 4, 5, 6, 7, 8, 9] [] [0, 1, 2, 3, 4, 5, 6, 7, 8, 9] rfl rfl rfl (by decide) (fun _ => rfl) rfl (fun r_38 _ H locs h_38 hP hD hS => ?_)
          subst h_38
          refine lv_iand hx hb d_Model_read_165 ?_
          exact ri () hx hb hr hlocks hP hD hS d_Model_read_166 (by simp only [sp_Model_read, if_neg c_1, if_neg c_31, if_neg c_33, if_pos c_36])
        · by_cases c_39 : x1 = 324
          · refine lv_lookup (off := 99) (tgt := 167) hx hb d_Model_read_68 rfl (by rw [c_39]; rfl) (by decide) ?_
            refine lv_iload hx hb d_Model_read_167 (lv_at hl 0 rfl) ?_
            refine lv_aload_n hx hb d_Model_read_169 rfl (lv_at hl 2 rfl) ?_
            refine lv_iload_n hx hb d_Model_read_170 rfl (lv_at hl 3 rfl) ?_
            refine lv_sipush (v := 771) hx hb d_Model_read_171 rfl ?_
            refine xi (wr := []) (W2 := fun _ => wR a k n h ca tv nx pcs lv cs x b cl cm so ti pu np) (xV (rest := [.int (((sp_Model_raw x0 836 cs) ||| 0) ||| 128)]) ⟨hx, hb, hml, hown, hts⟩ (c_Model_raw a k n x0 771 h ca tv nx pcs lv cs x b cl cm so ti pu np hn (vp_csr h0 (by unfold vp_in; decide))) mw_Model_raw mv_Model_raw k_714 ⟨rfl, rfl, Nat.le_of_ble_eq_true rfl, Nat.le_of_ble_eq_true rfl⟩ hK hP hD hS hA hF [0, 1, 2, 3, 4, 5, 6, 7, 8, 9] [0, 1, 2, 3, 4, 5, 6, 7, 8] rfl rfl rfl 0 5 rfl rfl rfl rfl hl.1 rfl (Nat.le_of_ble_eq_true rfl) d_Model_read_174 ⟨Nat.zero_le _, Nat.zero_le _⟩) hP hD hS hA [0, 1, 2, 3, 4, 5, 6, 7, 8, 9] [] [0, 1, 2, 3, 4, 5, 6, 7, 8, 9] rfl rfl rfl (by decide) (fun _ => rfl) rfl (fun r_40 _ H locs h_40 hP hD hS => ?_)
            subst h_40
            refine lv_iand hx hb d_Model_read_177 ?_
            exact ri () hx hb hr hlocks hP hD hS d_Model_read_178 (by simp only [sp_Model_read, if_neg c_1, if_neg c_31, if_neg c_33, if_neg c_36, if_pos c_39])
          · by_cases c_41 : x1 = 769
            · refine lv_lookup (off := 60) (tgt := 128) hx hb d_Model_read_68 rfl (by rw [c_41]; rfl) (by decide) ?_
              refine lv_ldc (v := 1075056897) hx hb hown (hts _ k_718) d_Model_read_128 ?_
              exact ri () hx hb hr hlocks hP hD hS d_Model_read_130 (by simp only [sp_Model_read, if_neg c_1, if_neg c_31, if_neg c_33, if_neg c_36, if_neg c_39, if_pos c_41])
            · by_cases c_42 : x1 = 836
              · refine lv_lookup (off := 65) (tgt := 133) hx hb d_Model_read_68 rfl (by rw [c_42]; rfl) (by decide) ?_
                refine lv_iload hx hb d_Model_read_133 (lv_at hl 0 rfl) ?_
                exact ri () hx hb hr hlocks hP hD hS d_Model_read_135 (by simp only [sp_Model_read, if_neg c_1, if_neg c_31, if_neg c_33, if_neg c_36, if_neg c_39, if_neg c_41, if_pos c_42])
              · by_cases c_43 : x1 = 3860
                · refine lv_lookup (off := 63) (tgt := 131) hx hb d_Model_read_68 rfl (by rw [c_43]; rfl) (by decide) ?_
                  refine lv_iload_n hx hb d_Model_read_131 rfl (lv_at hl 3 rfl) ?_
                  exact ri () hx hb hr hlocks hP hD hS d_Model_read_132 (by simp only [sp_Model_read, if_neg c_1, if_neg c_31, if_neg c_33, if_neg c_36, if_neg c_39, if_neg c_41, if_neg c_42, if_pos c_43])
                · refine lv_lookup (off := 111) (tgt := 179) hx hb d_Model_read_68 rfl ((lv_osw (a := 256) c_33 rfl).trans ((lv_osw (a := 260) c_36 rfl).trans ((lv_osw (a := 324) c_39 rfl).trans ((lv_osw (a := 769) c_41 rfl).trans ((lv_osw (a := 836) c_42 rfl).trans ((lv_osw (a := 3860) c_43 rfl).trans (rfl))))))) (by decide) ?_
                  refine lv_aload_n hx hb d_Model_read_179 rfl (lv_at hl 2 rfl) ?_
                  refine lv_iload_n hx hb d_Model_read_180 rfl (lv_at hl 3 rfl) ?_
                  refine lv_iload_n hx hb d_Model_read_181 rfl (lv_at hl 4 rfl) ?_
                  refine xi (wr := []) (W2 := fun _ => wR a k n h ca tv nx pcs lv cs x b cl cm so ti pu np) (xV (rest := []) ⟨hx, hb, hml, hown, hts⟩ (c_Model_raw a k n x0 x1 h ca tv nx pcs lv cs x b cl cm so ti pu np hn (vp_csr h0 hnn)) mw_Model_raw mv_Model_raw k_714 ⟨rfl, rfl, Nat.le_of_ble_eq_true rfl, Nat.le_of_ble_eq_true rfl⟩ hK hP hD hS hA hF [0, 1, 2, 3, 4, 5, 6, 7, 8, 9] [0, 1, 2, 3, 4, 5, 6, 7, 8] rfl rfl rfl 0 5 rfl rfl rfl rfl hl.1 rfl (Nat.le_of_ble_eq_true rfl) d_Model_read_182 ⟨Nat.zero_le _, Nat.zero_le _⟩) hP hD hS hA [0, 1, 2, 3, 4, 5, 6, 7, 8, 9] [] [0, 1, 2, 3, 4, 5, 6, 7, 8, 9] rfl rfl rfl (by decide) (fun _ => rfl) rfl (fun r_44 _ H locs h_44 hP hD hS => ?_)
                  subst h_44
                  exact ri () hx hb hr hlocks hP hD hS d_Model_read_185 (by simp only [sp_Model_read, if_neg c_1, if_neg c_31, if_neg c_33, if_neg c_36, if_neg c_39, if_neg c_41, if_neg c_42, if_neg c_43])
    · refine lv_bipush (v := 8) hx hb d_Model_read_46 rfl ?_
      refine lv_goto (tgt := 52) hx hb d_Model_read_48 (by decide) ?_
      refine lv_ior hx hb d_Model_read_52 ?_
      refine lv_iload_n hx hb d_Model_read_53 rfl (lv_at hl 0 rfl) ?_
      refine lv_if_eq (tgt := 63) hx hb d_Model_read_54 (by decide) (fun h9 => absurd h9 (by decide)) (fun _ => ?_)
      refine lv_sipush (v := 128) hx hb d_Model_read_57 rfl ?_
      refine lv_goto (tgt := 64) hx hb d_Model_read_60 (by decide) ?_
      refine lv_ior hx hb d_Model_read_64 ?_
      refine lv_istore (lv' := [(4, .int (((sp_Model_raw x0 836 cs) ||| 8) ||| 128)), (3, .int 1), (0, .ref (a 0)), (1, .int x0), (2, .int x1)]) hx hb d_Model_read_65 hl (by decide) rfl (fun ls hl => ?_)
      refine lv_iload_n hx hb d_Model_read_67 rfl (lv_at hl 4 rfl) ?_
      by_cases c_46 : x1 = 256
      · refine lv_lookup (off := 68) (tgt := 136) hx hb d_Model_read_68 rfl (by rw [c_46]; rfl) (by decide) ?_
        refine lv_aload_n hx hb d_Model_read_136 rfl (lv_at hl 2 rfl) ?_
        refine lv_iload_n hx hb d_Model_read_137 rfl (lv_at hl 3 rfl) ?_
        refine lv_sipush (v := 768) hx hb d_Model_read_138 rfl ?_
        refine xi (wr := []) (W2 := fun _ => wR a k n h ca tv nx pcs lv cs x b cl cm so ti pu np) (xV (rest := []) ⟨hx, hb, hml, hown, hts⟩ (c_Model_raw a k n x0 768 h ca tv nx pcs lv cs x b cl cm so ti pu np hn (vp_csr h0 (by unfold vp_in; decide))) mw_Model_raw mv_Model_raw k_714 ⟨rfl, rfl, Nat.le_of_ble_eq_true rfl, Nat.le_of_ble_eq_true rfl⟩ hK hP hD hS hA hF [0, 1, 2, 3, 4, 5, 6, 7, 8, 9] [0, 1, 2, 3, 4, 5, 6, 7, 8] rfl rfl rfl 0 5 rfl rfl rfl rfl hl.1 rfl (Nat.le_of_ble_eq_true rfl) d_Model_read_141 ⟨Nat.zero_le _, Nat.zero_le _⟩) hP hD hS hA [0, 1, 2, 3, 4, 5, 6, 7, 8, 9] [] [0, 1, 2, 3, 4, 5, 6, 7, 8, 9] rfl rfl rfl (by decide) (fun _ => rfl) rfl (fun r_47 _ H locs h_47 hP hD hS => ?_)
        subst h_47
        refine xi (wr := [((a 0), .inr (5, [.int (nI n), .ref (a 1), .ref (a 2), .ref (a 3), .ref (a 4), .ref (a 5), .ref (a 6), .ref (a 7), .ref (a 8), .long ti, .ref (a 9), .int np, .int h, .int ca, .int tv, .int nx])), ((a 1), .inl ((k 0), 16384, .inl b)), ((a 2), .inl ((k 1), 64, .inl x)), ((a 3), .inl ((k 2), 2, .inl pcs)), ((a 4), .inl ((k 3), 2, .inl lv)), ((a 5), .inl ((k 4), 8192, .inl cs)), ((a 6), .inl ((k 5), 2, .inl cl)), ((a 7), .inl ((k 6), 2, .inr (.inl cm))), ((a 8), .inl ((k 7), 2, .inl so)), ((a 9), .inl ((k 8), 256, .inl pu))]) (W2 := fun _ => wR a k n h ca tv nx pcs lv cs x b cl cm so ti pu np) (xS (rest := [.int (sp_Model_raw x0 768 cs)]) ⟨hx, hb, hml, hown, hts⟩ c_Model_sstatusBits mw_Model_sstatusBits ms_Model_sstatusBits k_719 ⟨rfl, rfl, Nat.le_of_ble_eq_true rfl, Nat.le_of_ble_eq_true rfl⟩ hK hP hD hS hA hF [] [] rfl rfl rfl rfl hl.1 rfl (Nat.le_of_ble_eq_true rfl) d_Model_read_144 ⟨Nat.zero_le _, Nat.zero_le _⟩) hP hD hS hA [] [0, 1, 2, 3, 4, 5, 6, 7, 8, 9] [0, 1, 2, 3, 4, 5, 6, 7, 8, 9] rfl rfl rfl (by decide) (fun _ => rfl) rfl (fun r_48 _ H locs h_48 hP hD hS => ?_)
        subst h_48
        refine lv_iand hx hb d_Model_read_147 ?_
        exact ri () hx hb hr hlocks hP hD hS d_Model_read_148 (by simp only [sp_Model_read, if_neg c_1, if_pos c_31, if_pos c_46])
      · by_cases c_49 : x1 = 260
        · refine lv_lookup (off := 81) (tgt := 149) hx hb d_Model_read_68 rfl (by rw [c_49]; rfl) (by decide) ?_
          refine lv_aload_n hx hb d_Model_read_149 rfl (lv_at hl 2 rfl) ?_
          refine lv_iload_n hx hb d_Model_read_150 rfl (lv_at hl 3 rfl) ?_
          refine lv_sipush (v := 772) hx hb d_Model_read_151 rfl ?_
          refine xi (wr := []) (W2 := fun _ => wR a k n h ca tv nx pcs lv cs x b cl cm so ti pu np) (xV (rest := []) ⟨hx, hb, hml, hown, hts⟩ (c_Model_raw a k n x0 772 h ca tv nx pcs lv cs x b cl cm so ti pu np hn (vp_csr h0 (by unfold vp_in; decide))) mw_Model_raw mv_Model_raw k_714 ⟨rfl, rfl, Nat.le_of_ble_eq_true rfl, Nat.le_of_ble_eq_true rfl⟩ hK hP hD hS hA hF [0, 1, 2, 3, 4, 5, 6, 7, 8, 9] [0, 1, 2, 3, 4, 5, 6, 7, 8] rfl rfl rfl 0 5 rfl rfl rfl rfl hl.1 rfl (Nat.le_of_ble_eq_true rfl) d_Model_read_154 ⟨Nat.zero_le _, Nat.zero_le _⟩) hP hD hS hA [0, 1, 2, 3, 4, 5, 6, 7, 8, 9] [] [0, 1, 2, 3, 4, 5, 6, 7, 8, 9] rfl rfl rfl (by decide) (fun _ => rfl) rfl (fun r_50 _ H locs h_50 hP hD hS => ?_)
          subst h_50
          refine lv_aload_n hx hb d_Model_read_157 rfl (lv_at hl 2 rfl) ?_
          refine lv_iload_n hx hb d_Model_read_158 rfl (lv_at hl 3 rfl) ?_
          refine lv_sipush (v := 771) hx hb d_Model_read_159 rfl ?_
          refine xi (wr := []) (W2 := fun _ => wR a k n h ca tv nx pcs lv cs x b cl cm so ti pu np) (xV (rest := [.int (sp_Model_raw x0 772 cs)]) ⟨hx, hb, hml, hown, hts⟩ (c_Model_raw a k n x0 771 h ca tv nx pcs lv cs x b cl cm so ti pu np hn (vp_csr h0 (by unfold vp_in; decide))) mw_Model_raw mv_Model_raw k_714 ⟨rfl, rfl, Nat.le_of_ble_eq_true rfl, Nat.le_of_ble_eq_true rfl⟩ hK hP hD hS hA hF [0, 1, 2, 3, 4, 5, 6, 7, 8, 9] [0, 1, 2, 3, 4, 5, 6, 7, 8] rfl rfl rfl 0 5 rfl rfl rfl rfl hl.1 rfl (Nat.le_of_ble_eq_true rfl) d_Model_read_162 ⟨Nat.zero_le _, Nat.zero_le _⟩) hP hD hS hA [0, 1, 2, 3, 4, 5, 6, 7, 8, 9] [] [0, 1, 2, 3, 4, 5, 6, 7, 8, 9] rfl rfl rfl (by decide) (fun _ => rfl) rfl (fun r_51 _ H locs h_51 hP hD hS => ?_)
          subst h_51
          refine lv_iand hx hb d_Model_read_165 ?_
          exact ri () hx hb hr hlocks hP hD hS d_Model_read_166 (by simp only [sp_Model_read, if_neg c_1, if_pos c_31, if_neg c_46, if_pos c_49])
        · by_cases c_52 : x1 = 324
          · refine lv_lookup (off := 99) (tgt := 167) hx hb d_Model_read_68 rfl (by rw [c_52]; rfl) (by decide) ?_
            refine lv_iload hx hb d_Model_read_167 (lv_at hl 0 rfl) ?_
            refine lv_aload_n hx hb d_Model_read_169 rfl (lv_at hl 2 rfl) ?_
            refine lv_iload_n hx hb d_Model_read_170 rfl (lv_at hl 3 rfl) ?_
            refine lv_sipush (v := 771) hx hb d_Model_read_171 rfl ?_
            refine xi (wr := []) (W2 := fun _ => wR a k n h ca tv nx pcs lv cs x b cl cm so ti pu np) (xV (rest := [.int (((sp_Model_raw x0 836 cs) ||| 8) ||| 128)]) ⟨hx, hb, hml, hown, hts⟩ (c_Model_raw a k n x0 771 h ca tv nx pcs lv cs x b cl cm so ti pu np hn (vp_csr h0 (by unfold vp_in; decide))) mw_Model_raw mv_Model_raw k_714 ⟨rfl, rfl, Nat.le_of_ble_eq_true rfl, Nat.le_of_ble_eq_true rfl⟩ hK hP hD hS hA hF [0, 1, 2, 3, 4, 5, 6, 7, 8, 9] [0, 1, 2, 3, 4, 5, 6, 7, 8] rfl rfl rfl 0 5 rfl rfl rfl rfl hl.1 rfl (Nat.le_of_ble_eq_true rfl) d_Model_read_174 ⟨Nat.zero_le _, Nat.zero_le _⟩) hP hD hS hA [0, 1, 2, 3, 4, 5, 6, 7, 8, 9] [] [0, 1, 2, 3, 4, 5, 6, 7, 8, 9] rfl rfl rfl (by decide) (fun _ => rfl) rfl (fun r_53 _ H locs h_53 hP hD hS => ?_)
            subst h_53
            refine lv_iand hx hb d_Model_read_177 ?_
            exact ri () hx hb hr hlocks hP hD hS d_Model_read_178 (by simp only [sp_Model_read, if_neg c_1, if_pos c_31, if_neg c_46, if_neg c_49, if_pos c_52])
          · by_cases c_54 : x1 = 769
            · refine lv_lookup (off := 60) (tgt := 128) hx hb d_Model_read_68 rfl (by rw [c_54]; rfl) (by decide) ?_
              refine lv_ldc (v := 1075056897) hx hb hown (hts _ k_718) d_Model_read_128 ?_
              exact ri () hx hb hr hlocks hP hD hS d_Model_read_130 (by simp only [sp_Model_read, if_neg c_1, if_pos c_31, if_neg c_46, if_neg c_49, if_neg c_52, if_pos c_54])
            · by_cases c_55 : x1 = 836
              · refine lv_lookup (off := 65) (tgt := 133) hx hb d_Model_read_68 rfl (by rw [c_55]; rfl) (by decide) ?_
                refine lv_iload hx hb d_Model_read_133 (lv_at hl 0 rfl) ?_
                exact ri () hx hb hr hlocks hP hD hS d_Model_read_135 (by simp only [sp_Model_read, if_neg c_1, if_pos c_31, if_neg c_46, if_neg c_49, if_neg c_52, if_neg c_54, if_pos c_55])
              · by_cases c_56 : x1 = 3860
                · refine lv_lookup (off := 63) (tgt := 131) hx hb d_Model_read_68 rfl (by rw [c_56]; rfl) (by decide) ?_
                  refine lv_iload_n hx hb d_Model_read_131 rfl (lv_at hl 3 rfl) ?_
                  exact ri () hx hb hr hlocks hP hD hS d_Model_read_132 (by simp only [sp_Model_read, if_neg c_1, if_pos c_31, if_neg c_46, if_neg c_49, if_neg c_52, if_neg c_54, if_neg c_55, if_pos c_56])
                · refine lv_lookup (off := 111) (tgt := 179) hx hb d_Model_read_68 rfl ((lv_osw (a := 256) c_46 rfl).trans ((lv_osw (a := 260) c_49 rfl).trans ((lv_osw (a := 324) c_52 rfl).trans ((lv_osw (a := 769) c_54 rfl).trans ((lv_osw (a := 836) c_55 rfl).trans ((lv_osw (a := 3860) c_56 rfl).trans (rfl))))))) (by decide) ?_
                  refine lv_aload_n hx hb d_Model_read_179 rfl (lv_at hl 2 rfl) ?_
                  refine lv_iload_n hx hb d_Model_read_180 rfl (lv_at hl 3 rfl) ?_
                  refine lv_iload_n hx hb d_Model_read_181 rfl (lv_at hl 4 rfl) ?_
                  refine xi (wr := []) (W2 := fun _ => wR a k n h ca tv nx pcs lv cs x b cl cm so ti pu np) (xV (rest := []) ⟨hx, hb, hml, hown, hts⟩ (c_Model_raw a k n x0 x1 h ca tv nx pcs lv cs x b cl cm so ti pu np hn (vp_csr h0 hnn)) mw_Model_raw mv_Model_raw k_714 ⟨rfl, rfl, Nat.le_of_ble_eq_true rfl, Nat.le_of_ble_eq_true rfl⟩ hK hP hD hS hA hF [0, 1, 2, 3, 4, 5, 6, 7, 8, 9] [0, 1, 2, 3, 4, 5, 6, 7, 8] rfl rfl rfl 0 5 rfl rfl rfl rfl hl.1 rfl (Nat.le_of_ble_eq_true rfl) d_Model_read_182 ⟨Nat.zero_le _, Nat.zero_le _⟩) hP hD hS hA [0, 1, 2, 3, 4, 5, 6, 7, 8, 9] [] [0, 1, 2, 3, 4, 5, 6, 7, 8, 9] rfl rfl rfl (by decide) (fun _ => rfl) rfl (fun r_57 _ H locs h_57 hP hD hS => ?_)
                  subst h_57
                  exact ri () hx hb hr hlocks hP hD hS d_Model_read_185 (by simp only [sp_Model_read, if_neg c_1, if_pos c_31, if_neg c_46, if_neg c_49, if_neg c_52, if_neg c_54, if_neg c_55, if_neg c_56])
def sp_Model_keep (x0 : Int32) (x1 : Int32) (x2 : Int32) (x3 : Int32) (cs : Nat → Int32) : Nat → Int32 :=
  (upd cs (((4096 * x0) + x1).toNatClampNeg) (((sp_Model_raw x0 x1 cs) &&& (x3 ^^^ (-1))) ||| (x2 &&& x3)))
set_option maxHeartbeats 4000000 in
set_option maxRecDepth 100000 in
theorem c_Model_keep {l : Launch} {D : va_G} {g : Nat → Nat} (a : Nat → Nat) (k : Nat → ClassId) (n : Nat) (x0 : Int32) (x1 : Int32) (x2 : Int32) (x3 : Int32) (h ca tv nx : Int32) (pcs lv cs x b cl : Nat → Int32) (cm : Nat → Int64) (so : Nat → Int32) (ti : Int64) (pu : Nat → Int32) (np : Int32) (hn : n ≤ 4096) (hc : vp_in (4096 * x0 + x1) 8192) : CT l D g y_Model_keep b_Model_keep 5 none (rD 1) [.ref (a 0), .int x0, .int x1, .int x2, .int x3] (wR a k n h ca tv nx pcs lv cs x b cl cm so ti pu np) (tyR k) (Qv D (fun (u : Nat → Int32) => sp_Model_keep x0 x1 x2 x3 cs = u) (fun u => wR a k n h ca tv nx pcs lv u x b cl cm so ti pu np)) := by
  refine CT.of rfl (Nat.le_of_ble_eq_true rfl) (fun p e s m below meth c A ls hx hb hr hml hts hown hlocks hA hP hK hD hF hS hl => ?_)
  have hl : lv_has ls 5 [(0, .ref (a 0)), (1, .int x0), (2, .int x1), (3, .int x2), (4, .int x3)] := hl
  refine lv_aload_n hx hb d_Model_keep_0 rfl (lv_at hl 0 rfl) ?_
  refine va_get (D := D) (ci := 5) (v := .ref (a 5)) (C := R_Model) (T := F_Model) (N := 16) hx hb hts i_Model hown hK hP 0 rfl rfl 5 (by decide) (hts _ k_630) (fun _ h9 => h9) rfl d_Model_keep_1 ?_
  refine lv_sipush (v := 4096) hx hb d_Model_keep_4 rfl ?_
  refine lv_iload_n hx hb d_Model_keep_7 rfl (lv_at hl 1 rfl) ?_
  refine lv_imul hx hb d_Model_keep_8 ?_
  refine lv_iload_n hx hb d_Model_keep_9 rfl (lv_at hl 2 rfl) ?_
  refine lv_iadd hx hb d_Model_keep_10 ?_
  refine lv_aload_n hx hb d_Model_keep_11 rfl (lv_at hl 0 rfl) ?_
  refine lv_iload_n hx hb d_Model_keep_12 rfl (lv_at hl 1 rfl) ?_
  refine lv_iload_n hx hb d_Model_keep_13 rfl (lv_at hl 2 rfl) ?_
  refine xi (wr := []) (W2 := fun _ => wR a k n h ca tv nx pcs lv cs x b cl cm so ti pu np) (xV (rest := [.int ((4096 * x0) + x1), .ref (a 5)]) ⟨hx, hb, hml, hown, hts⟩ (c_Model_raw a k n x0 x1 h ca tv nx pcs lv cs x b cl cm so ti pu np hn hc) mw_Model_raw mv_Model_raw k_714 ⟨rfl, rfl, Nat.le_of_ble_eq_true rfl, Nat.le_of_ble_eq_true rfl⟩ hK hP hD hS hA hF [0, 1, 2, 3, 4, 5, 6, 7, 8, 9] [0, 1, 2, 3, 4, 5, 6, 7, 8] rfl rfl rfl 0 5 rfl rfl rfl rfl hl.1 rfl (Nat.le_of_ble_eq_true rfl) d_Model_keep_14 ⟨Nat.zero_le _, Nat.zero_le _⟩) hP hD hS hA [0, 1, 2, 3, 4, 5, 6, 7, 8, 9] [] [0, 1, 2, 3, 4, 5, 6, 7, 8, 9] rfl rfl rfl (by decide) (fun _ => rfl) rfl (fun r_1 _ H locs h_1 hP hD hS => ?_)
  subst h_1
  refine lv_iload hx hb d_Model_keep_17 (lv_at hl 4 rfl) ?_
  refine lv_iconst (v := (-1)) hx hb d_Model_keep_19 rfl ?_
  refine lv_ixor hx hb d_Model_keep_20 ?_
  refine lv_iand hx hb d_Model_keep_21 ?_
  refine lv_iload_n hx hb d_Model_keep_22 rfl (lv_at hl 3 rfl) ?_
  refine lv_iload hx hb d_Model_keep_23 (lv_at hl 4 rfl) ?_
  refine lv_iand hx hb d_Model_keep_25 ?_
  refine lv_ior hx hb d_Model_keep_26 ?_
  refine y_iast (ws' := wR a k n h ca tv nx pcs lv (upd cs (((4096 * x0) + x1).toNatClampNeg) (((sp_Model_raw x0 x1 cs) &&& (x3 ^^^ (-1))) ||| (x2 &&& x3))) x b cl cm so ti pu np) hx hb hK hP hD hS 5 4 rfl rfl hc d_Model_keep_27 rfl (fun H locs hP hD hS => ?_)
  exact rv (upd cs (((4096 * x0) + x1).toNatClampNeg) (((sp_Model_raw x0 x1 cs) &&& (x3 ^^^ (-1))) ||| (x2 &&& x3))) hx hb hr hlocks hP hD hS d_Model_keep_28 (by simp only [sp_Model_keep])
def sp_Model_write (x0 : Int32) (x1 : Int32) (x2 : Int32) (cs : Nat → Int32) : Nat → Int32 :=
  if x1 = 256 then
    let cs_4 := (sp_Model_keep x0 768 x2 sp_Model_sstatusBits cs)
    cs_4
  else
    if x1 = 260 then
      let cs_6 := (sp_Model_keep x0 772 x2 (sp_Model_raw x0 771 cs) cs)
      cs_6
    else
      if x1 = 261 then
        let cs_8 := (sp_Model_keep x0 x1 x2 (-4) cs)
        cs_8
      else
        if x1 = 321 then
          let cs_10 := (sp_Model_keep x0 x1 x2 (-4) cs)
          cs_10
        else
          if x1 = 324 then
            let cs_12 := (sp_Model_keep x0 836 x2 ((sp_Model_raw x0 771 cs) &&& 2) cs)
            cs_12
          else
            if x1 = 384 then
              let cs_14 := (sp_Model_keep x0 x1 x2 (-2143289345) cs)
              cs_14
            else
              if x1 = 768 then
                if ((shr x2 11) &&& 3) = 2 then
                  let cs_20 := (sp_Model_keep x0 x1 (x2 &&& (-6145)) ((((sp_Model_sstatusBits ||| 8) ||| 128) ||| 6144) ||| 131072) cs)
                  cs_20
                else
                  let cs_18 := (sp_Model_keep x0 x1 x2 ((((sp_Model_sstatusBits ||| 8) ||| 128) ||| 6144) ||| 131072) cs)
                  cs_18
              else
                if x1 = 769 then
                  cs
                else
                  if x1 = 770 then
                    let cs_23 := (sp_Model_keep x0 x1 x2 46079 cs)
                    cs_23
                  else
                    if x1 = 771 then
                      let cs_25 := (sp_Model_keep x0 x1 x2 546 cs)
                      cs_25
                    else
                      if x1 = 772 then
                        let cs_27 := (sp_Model_keep x0 x1 x2 2730 cs)
                        cs_27
                      else
                        if x1 = 773 then
                          let cs_29 := (sp_Model_keep x0 x1 x2 (-4) cs)
                          cs_29
                        else
                          if x1 = 833 then
                            let cs_31 := (sp_Model_keep x0 x1 x2 (-4) cs)
                            cs_31
                          else
                            if x1 = 836 then
                              let cs_33 := (sp_Model_keep x0 x1 x2 546 cs)
                              cs_33
                            else
                              let cs_34 := (sp_Model_keep x0 x1 x2 (-1) cs)
                              cs_34
set_option maxHeartbeats 4000000 in
set_option maxRecDepth 100000 in
theorem c_Model_write {l : Launch} {D : va_G} {g : Nat → Nat} (a : Nat → Nat) (k : Nat → ClassId) (n : Nat) (x0 : Int32) (x1 : Int32) (x2 : Int32) (h ca tv nx : Int32) (pcs lv cs x b cl : Nat → Int32) (cm : Nat → Int64) (so : Nat → Int32) (ti : Int64) (pu : Nat → Int32) (np : Int32) (hn : n ≤ 4096) (h0 : x0 = 0 ∨ x0 = 1) (hnn : vp_in x1 4096) : CT l D g y_Model_write b_Model_write 5 none (rD 2) [.ref (a 0), .int x0, .int x1, .int x2] (wR a k n h ca tv nx pcs lv cs x b cl cm so ti pu np) (tyR k) (Qv D (fun (u : Nat → Int32) => sp_Model_write x0 x1 x2 cs = u) (fun u => wR a k n h ca tv nx pcs lv u x b cl cm so ti pu np)) := by
  refine CT.of rfl (Nat.le_of_ble_eq_true rfl) (fun p e s m below meth c A ls hx hb hr hml hts hown hlocks hA hP hK hD hF hS hl => ?_)
  have hl : lv_has ls 5 [(0, .ref (a 0)), (1, .int x0), (2, .int x1), (3, .int x2)] := hl
  refine lv_aload_n hx hb d_Model_write_0 rfl (lv_at hl 0 rfl) ?_
  refine lv_iload_n hx hb d_Model_write_1 rfl (lv_at hl 1 rfl) ?_
  refine lv_sipush (v := 771) hx hb d_Model_write_2 rfl ?_
  refine xi (wr := []) (W2 := fun _ => wR a k n h ca tv nx pcs lv cs x b cl cm so ti pu np) (xV (rest := []) ⟨hx, hb, hml, hown, hts⟩ (c_Model_raw a k n x0 771 h ca tv nx pcs lv cs x b cl cm so ti pu np hn (vp_csr h0 (by unfold vp_in; decide))) mw_Model_raw mv_Model_raw k_714 ⟨rfl, rfl, Nat.le_of_ble_eq_true rfl, Nat.le_of_ble_eq_true rfl⟩ hK hP hD hS hA hF [0, 1, 2, 3, 4, 5, 6, 7, 8, 9] [0, 1, 2, 3, 4, 5, 6, 7, 8] rfl rfl rfl 0 5 rfl rfl rfl rfl hl.1 rfl (Nat.le_of_ble_eq_true rfl) d_Model_write_5 ⟨Nat.zero_le _, Nat.zero_le _⟩) hP hD hS hA [0, 1, 2, 3, 4, 5, 6, 7, 8, 9] [] [0, 1, 2, 3, 4, 5, 6, 7, 8, 9] rfl rfl rfl (by decide) (fun _ => rfl) rfl (fun r_1 _ H locs h_1 hP hD hS => ?_)
  subst h_1
  refine lv_istore (lv' := [(4, .int (sp_Model_raw x0 771 cs)), (0, .ref (a 0)), (1, .int x0), (2, .int x1), (3, .int x2)]) hx hb d_Model_write_8 hl (by decide) rfl (fun ls hl => ?_)
  refine lv_iload_n hx hb d_Model_write_10 rfl (lv_at hl 3 rfl) ?_
  by_cases c_2 : x1 = 256
  · refine lv_lookup (off := 206) (tgt := 217) hx hb d_Model_write_11 rfl (by rw [c_2]; rfl) (by decide) ?_
    refine lv_aload_n hx hb d_Model_write_217 rfl (lv_at hl 1 rfl) ?_
    refine lv_iload_n hx hb d_Model_write_218 rfl (lv_at hl 2 rfl) ?_
    refine lv_sipush (v := 768) hx hb d_Model_write_219 rfl ?_
    refine lv_iload_n hx hb d_Model_write_222 rfl (lv_at hl 4 rfl) ?_
    refine xi (wr := [((a 0), .inr (5, [.int (nI n), .ref (a 1), .ref (a 2), .ref (a 3), .ref (a 4), .ref (a 5), .ref (a 6), .ref (a 7), .ref (a 8), .long ti, .ref (a 9), .int np, .int h, .int ca, .int tv, .int nx])), ((a 1), .inl ((k 0), 16384, .inl b)), ((a 2), .inl ((k 1), 64, .inl x)), ((a 3), .inl ((k 2), 2, .inl pcs)), ((a 4), .inl ((k 3), 2, .inl lv)), ((a 5), .inl ((k 4), 8192, .inl cs)), ((a 6), .inl ((k 5), 2, .inl cl)), ((a 7), .inl ((k 6), 2, .inr (.inl cm))), ((a 8), .inl ((k 7), 2, .inl so)), ((a 9), .inl ((k 8), 256, .inl pu))]) (W2 := fun _ => wR a k n h ca tv nx pcs lv cs x b cl cm so ti pu np) (xS (rest := [.int x2, .int 768, .int x0, .ref (a 0)]) ⟨hx, hb, hml, hown, hts⟩ c_Model_sstatusBits mw_Model_sstatusBits ms_Model_sstatusBits k_719 ⟨rfl, rfl, Nat.le_of_ble_eq_true rfl, Nat.le_of_ble_eq_true rfl⟩ hK hP hD hS hA hF [] [] rfl rfl rfl rfl hl.1 rfl (Nat.le_of_ble_eq_true rfl) d_Model_write_223 ⟨Nat.zero_le _, Nat.zero_le _⟩) hP hD hS hA [] [0, 1, 2, 3, 4, 5, 6, 7, 8, 9] [0, 1, 2, 3, 4, 5, 6, 7, 8, 9] rfl rfl rfl (by decide) (fun _ => rfl) rfl (fun r_3 _ H locs h_3 hP hD hS => ?_)
    subst h_3
    refine xv (wr := []) (W2 := fun u9 => wR a k n h ca tv nx pcs lv u9 x b cl cm so ti pu np) (xV (rest := []) ⟨hx, hb, hml, hown, hts⟩ (c_Model_keep a k n x0 768 x2 sp_Model_sstatusBits h ca tv nx pcs lv cs x b cl cm so ti pu np hn (vp_csr h0 (by unfold vp_in; decide))) mw_Model_keep mv_Model_keep k_734 ⟨rfl, rfl, Nat.le_of_ble_eq_true rfl, Nat.le_of_ble_eq_true rfl⟩ hK hP hD hS hA hF [0, 1, 2, 3, 4, 5, 6, 7, 8, 9] [0, 1, 2, 3, 4, 5, 6, 7, 8] rfl rfl rfl 0 5 rfl rfl rfl rfl hl.1 rfl (Nat.le_of_ble_eq_true rfl) d_Model_write_226 ⟨Nat.zero_le _, Nat.zero_le _⟩) hP hD hS hA [0, 1, 2, 3, 4, 5, 6, 7, 8, 9] [] [0, 1, 2, 3, 4, 5, 6, 7, 8, 9] rfl rfl rfl (by decide) (fun _ => rfl) rfl (fun u_4 H locs h_4 hP hD hS => ?_)
    obtain ⟨cs_4, e_4⟩ : ∃ z, z = u_4 := ⟨_, rfl⟩
    subst e_4
    exact rv cs_4 hx hb hr hlocks hP hD hS d_Model_write_229 (by simp only [sp_Model_write, h_4, if_pos c_2])
  · by_cases c_5 : x1 = 260
    · refine lv_lookup (off := 219) (tgt := 230) hx hb d_Model_write_11 rfl (by rw [c_5]; rfl) (by decide) ?_
      refine lv_aload_n hx hb d_Model_write_230 rfl (lv_at hl 1 rfl) ?_
      refine lv_iload_n hx hb d_Model_write_231 rfl (lv_at hl 2 rfl) ?_
      refine lv_sipush (v := 772) hx hb d_Model_write_232 rfl ?_
      refine lv_iload_n hx hb d_Model_write_235 rfl (lv_at hl 4 rfl) ?_
      refine lv_iload hx hb d_Model_write_236 (lv_at hl 0 rfl) ?_
      refine xv (wr := []) (W2 := fun u9 => wR a k n h ca tv nx pcs lv u9 x b cl cm so ti pu np) (xV (rest := []) ⟨hx, hb, hml, hown, hts⟩ (c_Model_keep a k n x0 772 x2 (sp_Model_raw x0 771 cs) h ca tv nx pcs lv cs x b cl cm so ti pu np hn (vp_csr h0 (by unfold vp_in; decide))) mw_Model_keep mv_Model_keep k_734 ⟨rfl, rfl, Nat.le_of_ble_eq_true rfl, Nat.le_of_ble_eq_true rfl⟩ hK hP hD hS hA hF [0, 1, 2, 3, 4, 5, 6, 7, 8, 9] [0, 1, 2, 3, 4, 5, 6, 7, 8] rfl rfl rfl 0 5 rfl rfl rfl rfl hl.1 rfl (Nat.le_of_ble_eq_true rfl) d_Model_write_238 ⟨Nat.zero_le _, Nat.zero_le _⟩) hP hD hS hA [0, 1, 2, 3, 4, 5, 6, 7, 8, 9] [] [0, 1, 2, 3, 4, 5, 6, 7, 8, 9] rfl rfl rfl (by decide) (fun _ => rfl) rfl (fun u_6 H locs h_6 hP hD hS => ?_)
      obtain ⟨cs_6, e_6⟩ : ∃ z, z = u_6 := ⟨_, rfl⟩
      subst e_6
      exact rv cs_6 hx hb hr hlocks hP hD hS d_Model_write_241 (by simp only [sp_Model_write, h_6, if_neg c_2, if_pos c_5])
    · by_cases c_7 : x1 = 261
      · refine lv_lookup (off := 196) (tgt := 207) hx hb d_Model_write_11 rfl (by rw [c_7]; rfl) (by decide) ?_
        refine lv_aload_n hx hb d_Model_write_207 rfl (lv_at hl 1 rfl) ?_
        refine lv_iload_n hx hb d_Model_write_208 rfl (lv_at hl 2 rfl) ?_
        refine lv_iload_n hx hb d_Model_write_209 rfl (lv_at hl 3 rfl) ?_
        refine lv_iload_n hx hb d_Model_write_210 rfl (lv_at hl 4 rfl) ?_
        refine lv_bipush (v := (-4)) hx hb d_Model_write_211 rfl ?_
        refine xv (wr := []) (W2 := fun u9 => wR a k n h ca tv nx pcs lv u9 x b cl cm so ti pu np) (xV (rest := []) ⟨hx, hb, hml, hown, hts⟩ (c_Model_keep a k n x0 x1 x2 (-4) h ca tv nx pcs lv cs x b cl cm so ti pu np hn (vp_csr h0 hnn)) mw_Model_keep mv_Model_keep k_734 ⟨rfl, rfl, Nat.le_of_ble_eq_true rfl, Nat.le_of_ble_eq_true rfl⟩ hK hP hD hS hA hF [0, 1, 2, 3, 4, 5, 6, 7, 8, 9] [0, 1, 2, 3, 4, 5, 6, 7, 8] rfl rfl rfl 0 5 rfl rfl rfl rfl hl.1 rfl (Nat.le_of_ble_eq_true rfl) d_Model_write_213 ⟨Nat.zero_le _, Nat.zero_le _⟩) hP hD hS hA [0, 1, 2, 3, 4, 5, 6, 7, 8, 9] [] [0, 1, 2, 3, 4, 5, 6, 7, 8, 9] rfl rfl rfl (by decide) (fun _ => rfl) rfl (fun u_8 H locs h_8 hP hD hS => ?_)
        obtain ⟨cs_8, e_8⟩ : ∃ z, z = u_8 := ⟨_, rfl⟩
        subst e_8
        exact rv cs_8 hx hb hr hlocks hP hD hS d_Model_write_216 (by simp only [sp_Model_write, h_8, if_neg c_2, if_neg c_5, if_pos c_7])
      · by_cases c_9 : x1 = 321
        · refine lv_lookup (off := 196) (tgt := 207) hx hb d_Model_write_11 rfl (by rw [c_9]; rfl) (by decide) ?_
          refine lv_aload_n hx hb d_Model_write_207 rfl (lv_at hl 1 rfl) ?_
          refine lv_iload_n hx hb d_Model_write_208 rfl (lv_at hl 2 rfl) ?_
          refine lv_iload_n hx hb d_Model_write_209 rfl (lv_at hl 3 rfl) ?_
          refine lv_iload_n hx hb d_Model_write_210 rfl (lv_at hl 4 rfl) ?_
          refine lv_bipush (v := (-4)) hx hb d_Model_write_211 rfl ?_
          refine xv (wr := []) (W2 := fun u9 => wR a k n h ca tv nx pcs lv u9 x b cl cm so ti pu np) (xV (rest := []) ⟨hx, hb, hml, hown, hts⟩ (c_Model_keep a k n x0 x1 x2 (-4) h ca tv nx pcs lv cs x b cl cm so ti pu np hn (vp_csr h0 hnn)) mw_Model_keep mv_Model_keep k_734 ⟨rfl, rfl, Nat.le_of_ble_eq_true rfl, Nat.le_of_ble_eq_true rfl⟩ hK hP hD hS hA hF [0, 1, 2, 3, 4, 5, 6, 7, 8, 9] [0, 1, 2, 3, 4, 5, 6, 7, 8] rfl rfl rfl 0 5 rfl rfl rfl rfl hl.1 rfl (Nat.le_of_ble_eq_true rfl) d_Model_write_213 ⟨Nat.zero_le _, Nat.zero_le _⟩) hP hD hS hA [0, 1, 2, 3, 4, 5, 6, 7, 8, 9] [] [0, 1, 2, 3, 4, 5, 6, 7, 8, 9] rfl rfl rfl (by decide) (fun _ => rfl) rfl (fun u_10 H locs h_10 hP hD hS => ?_)
          obtain ⟨cs_10, e_10⟩ : ∃ z, z = u_10 := ⟨_, rfl⟩
          subst e_10
          exact rv cs_10 hx hb hr hlocks hP hD hS d_Model_write_216 (by simp only [sp_Model_write, h_10, if_neg c_2, if_neg c_5, if_neg c_7, if_pos c_9])
        · by_cases c_11 : x1 = 324
          · refine lv_lookup (off := 231) (tgt := 242) hx hb d_Model_write_11 rfl (by rw [c_11]; rfl) (by decide) ?_
            refine lv_aload_n hx hb d_Model_write_242 rfl (lv_at hl 1 rfl) ?_
            refine lv_iload_n hx hb d_Model_write_243 rfl (lv_at hl 2 rfl) ?_
            refine lv_sipush (v := 836) hx hb d_Model_write_244 rfl ?_
            refine lv_iload_n hx hb d_Model_write_247 rfl (lv_at hl 4 rfl) ?_
            refine lv_iload hx hb d_Model_write_248 (lv_at hl 0 rfl) ?_
            refine lv_iconst (v := 2) hx hb d_Model_write_250 rfl ?_
            refine lv_iand hx hb d_Model_write_251 ?_
            refine xv (wr := []) (W2 := fun u9 => wR a k n h ca tv nx pcs lv u9 x b cl cm so ti pu np) (xV (rest := []) ⟨hx, hb, hml, hown, hts⟩ (c_Model_keep a k n x0 836 x2 ((sp_Model_raw x0 771 cs) &&& 2) h ca tv nx pcs lv cs x b cl cm so ti pu np hn (vp_csr h0 (by unfold vp_in; decide))) mw_Model_keep mv_Model_keep k_734 ⟨rfl, rfl, Nat.le_of_ble_eq_true rfl, Nat.le_of_ble_eq_true rfl⟩ hK hP hD hS hA hF [0, 1, 2, 3, 4, 5, 6, 7, 8, 9] [0, 1, 2, 3, 4, 5, 6, 7, 8] rfl rfl rfl 0 5 rfl rfl rfl rfl hl.1 rfl (Nat.le_of_ble_eq_true rfl) d_Model_write_252 ⟨Nat.zero_le _, Nat.zero_le _⟩) hP hD hS hA [0, 1, 2, 3, 4, 5, 6, 7, 8, 9] [] [0, 1, 2, 3, 4, 5, 6, 7, 8, 9] rfl rfl rfl (by decide) (fun _ => rfl) rfl (fun u_12 H locs h_12 hP hD hS => ?_)
            obtain ⟨cs_12, e_12⟩ : ∃ z, z = u_12 := ⟨_, rfl⟩
            subst e_12
            exact rv cs_12 hx hb hr hlocks hP hD hS d_Model_write_255 (by simp only [sp_Model_write, h_12, if_neg c_2, if_neg c_5, if_neg c_7, if_neg c_9, if_pos c_11])
          · by_cases c_13 : x1 = 384
            · refine lv_lookup (off := 245) (tgt := 256) hx hb d_Model_write_11 rfl (by rw [c_13]; rfl) (by decide) ?_
              refine lv_aload_n hx hb d_Model_write_256 rfl (lv_at hl 1 rfl) ?_
              refine lv_iload_n hx hb d_Model_write_257 rfl (lv_at hl 2 rfl) ?_
              refine lv_iload_n hx hb d_Model_write_258 rfl (lv_at hl 3 rfl) ?_
              refine lv_iload_n hx hb d_Model_write_259 rfl (lv_at hl 4 rfl) ?_
              refine lv_ldc (v := (-2143289345)) hx hb hown (hts _ k_901) d_Model_write_260 ?_
              refine xv (wr := []) (W2 := fun u9 => wR a k n h ca tv nx pcs lv u9 x b cl cm so ti pu np) (xV (rest := []) ⟨hx, hb, hml, hown, hts⟩ (c_Model_keep a k n x0 x1 x2 (-2143289345) h ca tv nx pcs lv cs x b cl cm so ti pu np hn (vp_csr h0 hnn)) mw_Model_keep mv_Model_keep k_734 ⟨rfl, rfl, Nat.le_of_ble_eq_true rfl, Nat.le_of_ble_eq_true rfl⟩ hK hP hD hS hA hF [0, 1, 2, 3, 4, 5, 6, 7, 8, 9] [0, 1, 2, 3, 4, 5, 6, 7, 8] rfl rfl rfl 0 5 rfl rfl rfl rfl hl.1 rfl (Nat.le_of_ble_eq_true rfl) d_Model_write_262 ⟨Nat.zero_le _, Nat.zero_le _⟩) hP hD hS hA [0, 1, 2, 3, 4, 5, 6, 7, 8, 9] [] [0, 1, 2, 3, 4, 5, 6, 7, 8, 9] rfl rfl rfl (by decide) (fun _ => rfl) rfl (fun u_14 H locs h_14 hP hD hS => ?_)
              obtain ⟨cs_14, e_14⟩ : ∃ z, z = u_14 := ⟨_, rfl⟩
              subst e_14
              exact rv cs_14 hx hb hr hlocks hP hD hS d_Model_write_265 (by simp only [sp_Model_write, h_14, if_neg c_2, if_neg c_5, if_neg c_7, if_neg c_9, if_neg c_11, if_pos c_13])
            · by_cases c_15 : x1 = 768
              · refine lv_lookup (off := 121) (tgt := 132) hx hb d_Model_write_11 rfl (by rw [c_15]; rfl) (by decide) ?_
                refine lv_aload_n hx hb d_Model_write_132 rfl (lv_at hl 1 rfl) ?_
                refine lv_iload_n hx hb d_Model_write_133 rfl (lv_at hl 2 rfl) ?_
                refine lv_iload_n hx hb d_Model_write_134 rfl (lv_at hl 3 rfl) ?_
                refine lv_iload_n hx hb d_Model_write_135 rfl (lv_at hl 4 rfl) ?_
                refine lv_bipush (v := 11) hx hb d_Model_write_136 rfl ?_
                refine y_ishr hx hb d_Model_write_138 ?_
                refine lv_iconst (v := 3) hx hb d_Model_write_139 rfl ?_
                refine lv_iand hx hb d_Model_write_140 ?_
                refine lv_iconst (v := 2) hx hb d_Model_write_141 rfl ?_
                refine lv_icmp_ne (tgt := 153) hx hb d_Model_write_142 (by decide) (fun c_16 => ?_) (fun c_16 => ?_)
                · refine lv_iload_n hx hb d_Model_write_153 rfl (lv_at hl 4 rfl) ?_
                  refine xi (wr := [((a 0), .inr (5, [.int (nI n), .ref (a 1), .ref (a 2), .ref (a 3), .ref (a 4), .ref (a 5), .ref (a 6), .ref (a 7), .ref (a 8), .long ti, .ref (a 9), .int np, .int h, .int ca, .int tv, .int nx])), ((a 1), .inl ((k 0), 16384, .inl b)), ((a 2), .inl ((k 1), 64, .inl x)), ((a 3), .inl ((k 2), 2, .inl pcs)), ((a 4), .inl ((k 3), 2, .inl lv)), ((a 5), .inl ((k 4), 8192, .inl cs)), ((a 6), .inl ((k 5), 2, .inl cl)), ((a 7), .inl ((k 6), 2, .inr (.inl cm))), ((a 8), .inl ((k 7), 2, .inl so)), ((a 9), .inl ((k 8), 256, .inl pu))]) (W2 := fun _ => wR a k n h ca tv nx pcs lv cs x b cl cm so ti pu np) (xS (rest := [.int x2, .int x1, .int x0, .ref (a 0)]) ⟨hx, hb, hml, hown, hts⟩ c_Model_sstatusBits mw_Model_sstatusBits ms_Model_sstatusBits k_719 ⟨rfl, rfl, Nat.le_of_ble_eq_true rfl, Nat.le_of_ble_eq_true rfl⟩ hK hP hD hS hA hF [] [] rfl rfl rfl rfl hl.1 rfl (Nat.le_of_ble_eq_true rfl) d_Model_write_154 ⟨Nat.zero_le _, Nat.zero_le _⟩) hP hD hS hA [] [0, 1, 2, 3, 4, 5, 6, 7, 8, 9] [0, 1, 2, 3, 4, 5, 6, 7, 8, 9] rfl rfl rfl (by decide) (fun _ => rfl) rfl (fun r_17 _ H locs h_17 hP hD hS => ?_)
                  subst h_17
                  refine lv_bipush (v := 8) hx hb d_Model_write_157 rfl ?_
                  refine lv_ior hx hb d_Model_write_159 ?_
                  refine lv_sipush (v := 128) hx hb d_Model_write_160 rfl ?_
                  refine lv_ior hx hb d_Model_write_163 ?_
                  refine lv_sipush (v := 6144) hx hb d_Model_write_164 rfl ?_
                  refine lv_ior hx hb d_Model_write_167 ?_
                  refine lv_ldc (v := 131072) hx hb hown (hts _ k_750) d_Model_write_168 ?_
                  refine lv_ior hx hb d_Model_write_170 ?_
                  refine xv (wr := []) (W2 := fun u9 => wR a k n h ca tv nx pcs lv u9 x b cl cm so ti pu np) (xV (rest := []) ⟨hx, hb, hml, hown, hts⟩ (c_Model_keep a k n x0 x1 x2 ((((sp_Model_sstatusBits ||| 8) ||| 128) ||| 6144) ||| 131072) h ca tv nx pcs lv cs x b cl cm so ti pu np hn (vp_csr h0 hnn)) mw_Model_keep mv_Model_keep k_734 ⟨rfl, rfl, Nat.le_of_ble_eq_true rfl, Nat.le_of_ble_eq_true rfl⟩ hK hP hD hS hA hF [0, 1, 2, 3, 4, 5, 6, 7, 8, 9] [0, 1, 2, 3, 4, 5, 6, 7, 8] rfl rfl rfl 0 5 rfl rfl rfl rfl hl.1 rfl (Nat.le_of_ble_eq_true rfl) d_Model_write_171 ⟨Nat.zero_le _, Nat.zero_le _⟩) hP hD hS hA [0, 1, 2, 3, 4, 5, 6, 7, 8, 9] [] [0, 1, 2, 3, 4, 5, 6, 7, 8, 9] rfl rfl rfl (by decide) (fun _ => rfl) rfl (fun u_18 H locs h_18 hP hD hS => ?_)
                  obtain ⟨cs_18, e_18⟩ : ∃ z, z = u_18 := ⟨_, rfl⟩
                  subst e_18
                  exact rv cs_18 hx hb hr hlocks hP hD hS d_Model_write_174 (by simp only [sp_Model_write, h_18, if_neg c_2, if_neg c_5, if_neg c_7, if_neg c_9, if_neg c_11, if_neg c_13, if_pos c_15, if_neg c_16])
                · refine lv_iload_n hx hb d_Model_write_145 rfl (lv_at hl 4 rfl) ?_
                  refine lv_sipush (v := (-6145)) hx hb d_Model_write_146 rfl ?_
                  refine lv_iand hx hb d_Model_write_149 ?_
                  refine lv_goto (tgt := 154) hx hb d_Model_write_150 (by decide) ?_
                  refine xi (wr := [((a 0), .inr (5, [.int (nI n), .ref (a 1), .ref (a 2), .ref (a 3), .ref (a 4), .ref (a 5), .ref (a 6), .ref (a 7), .ref (a 8), .long ti, .ref (a 9), .int np, .int h, .int ca, .int tv, .int nx])), ((a 1), .inl ((k 0), 16384, .inl b)), ((a 2), .inl ((k 1), 64, .inl x)), ((a 3), .inl ((k 2), 2, .inl pcs)), ((a 4), .inl ((k 3), 2, .inl lv)), ((a 5), .inl ((k 4), 8192, .inl cs)), ((a 6), .inl ((k 5), 2, .inl cl)), ((a 7), .inl ((k 6), 2, .inr (.inl cm))), ((a 8), .inl ((k 7), 2, .inl so)), ((a 9), .inl ((k 8), 256, .inl pu))]) (W2 := fun _ => wR a k n h ca tv nx pcs lv cs x b cl cm so ti pu np) (xS (rest := [.int (x2 &&& (-6145)), .int x1, .int x0, .ref (a 0)]) ⟨hx, hb, hml, hown, hts⟩ c_Model_sstatusBits mw_Model_sstatusBits ms_Model_sstatusBits k_719 ⟨rfl, rfl, Nat.le_of_ble_eq_true rfl, Nat.le_of_ble_eq_true rfl⟩ hK hP hD hS hA hF [] [] rfl rfl rfl rfl hl.1 rfl (Nat.le_of_ble_eq_true rfl) d_Model_write_154 ⟨Nat.zero_le _, Nat.zero_le _⟩) hP hD hS hA [] [0, 1, 2, 3, 4, 5, 6, 7, 8, 9] [0, 1, 2, 3, 4, 5, 6, 7, 8, 9] rfl rfl rfl (by decide) (fun _ => rfl) rfl (fun r_19 _ H locs h_19 hP hD hS => ?_)
                  subst h_19
                  refine lv_bipush (v := 8) hx hb d_Model_write_157 rfl ?_
                  refine lv_ior hx hb d_Model_write_159 ?_
                  refine lv_sipush (v := 128) hx hb d_Model_write_160 rfl ?_
                  refine lv_ior hx hb d_Model_write_163 ?_
                  refine lv_sipush (v := 6144) hx hb d_Model_write_164 rfl ?_
                  refine lv_ior hx hb d_Model_write_167 ?_
                  refine lv_ldc (v := 131072) hx hb hown (hts _ k_750) d_Model_write_168 ?_
                  refine lv_ior hx hb d_Model_write_170 ?_
                  refine xv (wr := []) (W2 := fun u9 => wR a k n h ca tv nx pcs lv u9 x b cl cm so ti pu np) (xV (rest := []) ⟨hx, hb, hml, hown, hts⟩ (c_Model_keep a k n x0 x1 (x2 &&& (-6145)) ((((sp_Model_sstatusBits ||| 8) ||| 128) ||| 6144) ||| 131072) h ca tv nx pcs lv cs x b cl cm so ti pu np hn (vp_csr h0 hnn)) mw_Model_keep mv_Model_keep k_734 ⟨rfl, rfl, Nat.le_of_ble_eq_true rfl, Nat.le_of_ble_eq_true rfl⟩ hK hP hD hS hA hF [0, 1, 2, 3, 4, 5, 6, 7, 8, 9] [0, 1, 2, 3, 4, 5, 6, 7, 8] rfl rfl rfl 0 5 rfl rfl rfl rfl hl.1 rfl (Nat.le_of_ble_eq_true rfl) d_Model_write_171 ⟨Nat.zero_le _, Nat.zero_le _⟩) hP hD hS hA [0, 1, 2, 3, 4, 5, 6, 7, 8, 9] [] [0, 1, 2, 3, 4, 5, 6, 7, 8, 9] rfl rfl rfl (by decide) (fun _ => rfl) rfl (fun u_20 H locs h_20 hP hD hS => ?_)
                  obtain ⟨cs_20, e_20⟩ : ∃ z, z = u_20 := ⟨_, rfl⟩
                  subst e_20
                  exact rv cs_20 hx hb hr hlocks hP hD hS d_Model_write_174 (by simp only [sp_Model_write, h_20, if_neg c_2, if_neg c_5, if_neg c_7, if_neg c_9, if_neg c_11, if_neg c_13, if_pos c_15, if_pos c_16])
              · by_cases c_21 : x1 = 769
                · refine lv_lookup (off := 255) (tgt := 266) hx hb d_Model_write_11 rfl (by rw [c_21]; rfl) (by decide) ?_
                  exact rv cs hx hb hr hlocks hP hD hS d_Model_write_266 (by simp only [sp_Model_write, if_neg c_2, if_neg c_5, if_neg c_7, if_neg c_9, if_neg c_11, if_neg c_13, if_neg c_15, if_pos c_21])
                · by_cases c_22 : x1 = 770
                  · refine lv_lookup (off := 164) (tgt := 175) hx hb d_Model_write_11 rfl (by rw [c_22]; rfl) (by decide) ?_
                    refine lv_aload_n hx hb d_Model_write_175 rfl (lv_at hl 1 rfl) ?_
                    refine lv_iload_n hx hb d_Model_write_176 rfl (lv_at hl 2 rfl) ?_
                    refine lv_iload_n hx hb d_Model_write_177 rfl (lv_at hl 3 rfl) ?_
                    refine lv_iload_n hx hb d_Model_write_178 rfl (lv_at hl 4 rfl) ?_
                    refine lv_ldc (v := 46079) hx hb hown (hts _ k_900) d_Model_write_179 ?_
                    refine xv (wr := []) (W2 := fun u9 => wR a k n h ca tv nx pcs lv u9 x b cl cm so ti pu np) (xV (rest := []) ⟨hx, hb, hml, hown, hts⟩ (c_Model_keep a k n x0 x1 x2 46079 h ca tv nx pcs lv cs x b cl cm so ti pu np hn (vp_csr h0 hnn)) mw_Model_keep mv_Model_keep k_734 ⟨rfl, rfl, Nat.le_of_ble_eq_true rfl, Nat.le_of_ble_eq_true rfl⟩ hK hP hD hS hA hF [0, 1, 2, 3, 4, 5, 6, 7, 8, 9] [0, 1, 2, 3, 4, 5, 6, 7, 8] rfl rfl rfl 0 5 rfl rfl rfl rfl hl.1 rfl (Nat.le_of_ble_eq_true rfl) d_Model_write_181 ⟨Nat.zero_le _, Nat.zero_le _⟩) hP hD hS hA [0, 1, 2, 3, 4, 5, 6, 7, 8, 9] [] [0, 1, 2, 3, 4, 5, 6, 7, 8, 9] rfl rfl rfl (by decide) (fun _ => rfl) rfl (fun u_23 H locs h_23 hP hD hS => ?_)
                    obtain ⟨cs_23, e_23⟩ : ∃ z, z = u_23 := ⟨_, rfl⟩
                    subst e_23
                    exact rv cs_23 hx hb hr hlocks hP hD hS d_Model_write_184 (by simp only [sp_Model_write, h_23, if_neg c_2, if_neg c_5, if_neg c_7, if_neg c_9, if_neg c_11, if_neg c_13, if_neg c_15, if_neg c_21, if_pos c_22])
                  · by_cases c_24 : x1 = 771
                    · refine lv_lookup (off := 174) (tgt := 185) hx hb d_Model_write_11 rfl (by rw [c_24]; rfl) (by decide) ?_
                      refine lv_aload_n hx hb d_Model_write_185 rfl (lv_at hl 1 rfl) ?_
                      refine lv_iload_n hx hb d_Model_write_186 rfl (lv_at hl 2 rfl) ?_
                      refine lv_iload_n hx hb d_Model_write_187 rfl (lv_at hl 3 rfl) ?_
                      refine lv_iload_n hx hb d_Model_write_188 rfl (lv_at hl 4 rfl) ?_
                      refine lv_sipush (v := 546) hx hb d_Model_write_189 rfl ?_
                      refine xv (wr := []) (W2 := fun u9 => wR a k n h ca tv nx pcs lv u9 x b cl cm so ti pu np) (xV (rest := []) ⟨hx, hb, hml, hown, hts⟩ (c_Model_keep a k n x0 x1 x2 546 h ca tv nx pcs lv cs x b cl cm so ti pu np hn (vp_csr h0 hnn)) mw_Model_keep mv_Model_keep k_734 ⟨rfl, rfl, Nat.le_of_ble_eq_true rfl, Nat.le_of_ble_eq_true rfl⟩ hK hP hD hS hA hF [0, 1, 2, 3, 4, 5, 6, 7, 8, 9] [0, 1, 2, 3, 4, 5, 6, 7, 8] rfl rfl rfl 0 5 rfl rfl rfl rfl hl.1 rfl (Nat.le_of_ble_eq_true rfl) d_Model_write_192 ⟨Nat.zero_le _, Nat.zero_le _⟩) hP hD hS hA [0, 1, 2, 3, 4, 5, 6, 7, 8, 9] [] [0, 1, 2, 3, 4, 5, 6, 7, 8, 9] rfl rfl rfl (by decide) (fun _ => rfl) rfl (fun u_25 H locs h_25 hP hD hS => ?_)
                      obtain ⟨cs_25, e_25⟩ : ∃ z, z = u_25 := ⟨_, rfl⟩
                      subst e_25
                      exact rv cs_25 hx hb hr hlocks hP hD hS d_Model_write_195 (by simp only [sp_Model_write, h_25, if_neg c_2, if_neg c_5, if_neg c_7, if_neg c_9, if_neg c_11, if_neg c_13, if_neg c_15, if_neg c_21, if_neg c_22, if_pos c_24])
                    · by_cases c_26 : x1 = 772
                      · refine lv_lookup (off := 185) (tgt := 196) hx hb d_Model_write_11 rfl (by rw [c_26]; rfl) (by decide) ?_
                        refine lv_aload_n hx hb d_Model_write_196 rfl (lv_at hl 1 rfl) ?_
                        refine lv_iload_n hx hb d_Model_write_197 rfl (lv_at hl 2 rfl) ?_
                        refine lv_iload_n hx hb d_Model_write_198 rfl (lv_at hl 3 rfl) ?_
                        refine lv_iload_n hx hb d_Model_write_199 rfl (lv_at hl 4 rfl) ?_
                        refine lv_sipush (v := 2730) hx hb d_Model_write_200 rfl ?_
                        refine xv (wr := []) (W2 := fun u9 => wR a k n h ca tv nx pcs lv u9 x b cl cm so ti pu np) (xV (rest := []) ⟨hx, hb, hml, hown, hts⟩ (c_Model_keep a k n x0 x1 x2 2730 h ca tv nx pcs lv cs x b cl cm so ti pu np hn (vp_csr h0 hnn)) mw_Model_keep mv_Model_keep k_734 ⟨rfl, rfl, Nat.le_of_ble_eq_true rfl, Nat.le_of_ble_eq_true rfl⟩ hK hP hD hS hA hF [0, 1, 2, 3, 4, 5, 6, 7, 8, 9] [0, 1, 2, 3, 4, 5, 6, 7, 8] rfl rfl rfl 0 5 rfl rfl rfl rfl hl.1 rfl (Nat.le_of_ble_eq_true rfl) d_Model_write_203 ⟨Nat.zero_le _, Nat.zero_le _⟩) hP hD hS hA [0, 1, 2, 3, 4, 5, 6, 7, 8, 9] [] [0, 1, 2, 3, 4, 5, 6, 7, 8, 9] rfl rfl rfl (by decide) (fun _ => rfl) rfl (fun u_27 H locs h_27 hP hD hS => ?_)
                        obtain ⟨cs_27, e_27⟩ : ∃ z, z = u_27 := ⟨_, rfl⟩
                        subst e_27
                        exact rv cs_27 hx hb hr hlocks hP hD hS d_Model_write_206 (by simp only [sp_Model_write, h_27, if_neg c_2, if_neg c_5, if_neg c_7, if_neg c_9, if_neg c_11, if_neg c_13, if_neg c_15, if_neg c_21, if_neg c_22, if_neg c_24, if_pos c_26])
                      · by_cases c_28 : x1 = 773
                        · refine lv_lookup (off := 196) (tgt := 207) hx hb d_Model_write_11 rfl (by rw [c_28]; rfl) (by decide) ?_
                          refine lv_aload_n hx hb d_Model_write_207 rfl (lv_at hl 1 rfl) ?_
                          refine lv_iload_n hx hb d_Model_write_208 rfl (lv_at hl 2 rfl) ?_
                          refine lv_iload_n hx hb d_Model_write_209 rfl (lv_at hl 3 rfl) ?_
                          refine lv_iload_n hx hb d_Model_write_210 rfl (lv_at hl 4 rfl) ?_
                          refine lv_bipush (v := (-4)) hx hb d_Model_write_211 rfl ?_
                          refine xv (wr := []) (W2 := fun u9 => wR a k n h ca tv nx pcs lv u9 x b cl cm so ti pu np) (xV (rest := []) ⟨hx, hb, hml, hown, hts⟩ (c_Model_keep a k n x0 x1 x2 (-4) h ca tv nx pcs lv cs x b cl cm so ti pu np hn (vp_csr h0 hnn)) mw_Model_keep mv_Model_keep k_734 ⟨rfl, rfl, Nat.le_of_ble_eq_true rfl, Nat.le_of_ble_eq_true rfl⟩ hK hP hD hS hA hF [0, 1, 2, 3, 4, 5, 6, 7, 8, 9] [0, 1, 2, 3, 4, 5, 6, 7, 8] rfl rfl rfl 0 5 rfl rfl rfl rfl hl.1 rfl (Nat.le_of_ble_eq_true rfl) d_Model_write_213 ⟨Nat.zero_le _, Nat.zero_le _⟩) hP hD hS hA [0, 1, 2, 3, 4, 5, 6, 7, 8, 9] [] [0, 1, 2, 3, 4, 5, 6, 7, 8, 9] rfl rfl rfl (by decide) (fun _ => rfl) rfl (fun u_29 H locs h_29 hP hD hS => ?_)
                          obtain ⟨cs_29, e_29⟩ : ∃ z, z = u_29 := ⟨_, rfl⟩
                          subst e_29
                          exact rv cs_29 hx hb hr hlocks hP hD hS d_Model_write_216 (by simp only [sp_Model_write, h_29, if_neg c_2, if_neg c_5, if_neg c_7, if_neg c_9, if_neg c_11, if_neg c_13, if_neg c_15, if_neg c_21, if_neg c_22, if_neg c_24, if_neg c_26, if_pos c_28])
                        · by_cases c_30 : x1 = 833
                          · refine lv_lookup (off := 196) (tgt := 207) hx hb d_Model_write_11 rfl (by rw [c_30]; rfl) (by decide) ?_
                            refine lv_aload_n hx hb d_Model_write_207 rfl (lv_at hl 1 rfl) ?_
                            refine lv_iload_n hx hb d_Model_write_208 rfl (lv_at hl 2 rfl) ?_
                            refine lv_iload_n hx hb d_Model_write_209 rfl (lv_at hl 3 rfl) ?_
                            refine lv_iload_n hx hb d_Model_write_210 rfl (lv_at hl 4 rfl) ?_
                            refine lv_bipush (v := (-4)) hx hb d_Model_write_211 rfl ?_
                            refine xv (wr := []) (W2 := fun u9 => wR a k n h ca tv nx pcs lv u9 x b cl cm so ti pu np) (xV (rest := []) ⟨hx, hb, hml, hown, hts⟩ (c_Model_keep a k n x0 x1 x2 (-4) h ca tv nx pcs lv cs x b cl cm so ti pu np hn (vp_csr h0 hnn)) mw_Model_keep mv_Model_keep k_734 ⟨rfl, rfl, Nat.le_of_ble_eq_true rfl, Nat.le_of_ble_eq_true rfl⟩ hK hP hD hS hA hF [0, 1, 2, 3, 4, 5, 6, 7, 8, 9] [0, 1, 2, 3, 4, 5, 6, 7, 8] rfl rfl rfl 0 5 rfl rfl rfl rfl hl.1 rfl (Nat.le_of_ble_eq_true rfl) d_Model_write_213 ⟨Nat.zero_le _, Nat.zero_le _⟩) hP hD hS hA [0, 1, 2, 3, 4, 5, 6, 7, 8, 9] [] [0, 1, 2, 3, 4, 5, 6, 7, 8, 9] rfl rfl rfl (by decide) (fun _ => rfl) rfl (fun u_31 H locs h_31 hP hD hS => ?_)
                            obtain ⟨cs_31, e_31⟩ : ∃ z, z = u_31 := ⟨_, rfl⟩
                            subst e_31
                            exact rv cs_31 hx hb hr hlocks hP hD hS d_Model_write_216 (by simp only [sp_Model_write, h_31, if_neg c_2, if_neg c_5, if_neg c_7, if_neg c_9, if_neg c_11, if_neg c_13, if_neg c_15, if_neg c_21, if_neg c_22, if_neg c_24, if_neg c_26, if_neg c_28, if_pos c_30])
                          · by_cases c_32 : x1 = 836
                            · refine lv_lookup (off := 174) (tgt := 185) hx hb d_Model_write_11 rfl (by rw [c_32]; rfl) (by decide) ?_
                              refine lv_aload_n hx hb d_Model_write_185 rfl (lv_at hl 1 rfl) ?_
                              refine lv_iload_n hx hb d_Model_write_186 rfl (lv_at hl 2 rfl) ?_
                              refine lv_iload_n hx hb d_Model_write_187 rfl (lv_at hl 3 rfl) ?_
                              refine lv_iload_n hx hb d_Model_write_188 rfl (lv_at hl 4 rfl) ?_
                              refine lv_sipush (v := 546) hx hb d_Model_write_189 rfl ?_
                              refine xv (wr := []) (W2 := fun u9 => wR a k n h ca tv nx pcs lv u9 x b cl cm so ti pu np) (xV (rest := []) ⟨hx, hb, hml, hown, hts⟩ (c_Model_keep a k n x0 x1 x2 546 h ca tv nx pcs lv cs x b cl cm so ti pu np hn (vp_csr h0 hnn)) mw_Model_keep mv_Model_keep k_734 ⟨rfl, rfl, Nat.le_of_ble_eq_true rfl, Nat.le_of_ble_eq_true rfl⟩ hK hP hD hS hA hF [0, 1, 2, 3, 4, 5, 6, 7, 8, 9] [0, 1, 2, 3, 4, 5, 6, 7, 8] rfl rfl rfl 0 5 rfl rfl rfl rfl hl.1 rfl (Nat.le_of_ble_eq_true rfl) d_Model_write_192 ⟨Nat.zero_le _, Nat.zero_le _⟩) hP hD hS hA [0, 1, 2, 3, 4, 5, 6, 7, 8, 9] [] [0, 1, 2, 3, 4, 5, 6, 7, 8, 9] rfl rfl rfl (by decide) (fun _ => rfl) rfl (fun u_33 H locs h_33 hP hD hS => ?_)
                              obtain ⟨cs_33, e_33⟩ : ∃ z, z = u_33 := ⟨_, rfl⟩
                              subst e_33
                              exact rv cs_33 hx hb hr hlocks hP hD hS d_Model_write_195 (by simp only [sp_Model_write, h_33, if_neg c_2, if_neg c_5, if_neg c_7, if_neg c_9, if_neg c_11, if_neg c_13, if_neg c_15, if_neg c_21, if_neg c_22, if_neg c_24, if_neg c_26, if_neg c_28, if_neg c_30, if_pos c_32])
                            · refine lv_lookup (off := 256) (tgt := 267) hx hb d_Model_write_11 rfl ((lv_osw (a := 256) c_2 rfl).trans ((lv_osw (a := 260) c_5 rfl).trans ((lv_osw (a := 261) c_7 rfl).trans ((lv_osw (a := 321) c_9 rfl).trans ((lv_osw (a := 324) c_11 rfl).trans ((lv_osw (a := 384) c_13 rfl).trans ((lv_osw (a := 768) c_15 rfl).trans ((lv_osw (a := 769) c_21 rfl).trans ((lv_osw (a := 770) c_22 rfl).trans ((lv_osw (a := 771) c_24 rfl).trans ((lv_osw (a := 772) c_26 rfl).trans ((lv_osw (a := 773) c_28 rfl).trans ((lv_osw (a := 833) c_30 rfl).trans ((lv_osw (a := 836) c_32 rfl).trans (rfl))))))))))))))) (by decide) ?_
                              refine lv_aload_n hx hb d_Model_write_267 rfl (lv_at hl 1 rfl) ?_
                              refine lv_iload_n hx hb d_Model_write_268 rfl (lv_at hl 2 rfl) ?_
                              refine lv_iload_n hx hb d_Model_write_269 rfl (lv_at hl 3 rfl) ?_
                              refine lv_iload_n hx hb d_Model_write_270 rfl (lv_at hl 4 rfl) ?_
                              refine lv_iconst (v := (-1)) hx hb d_Model_write_271 rfl ?_
                              refine xv (wr := []) (W2 := fun u9 => wR a k n h ca tv nx pcs lv u9 x b cl cm so ti pu np) (xV (rest := []) ⟨hx, hb, hml, hown, hts⟩ (c_Model_keep a k n x0 x1 x2 (-1) h ca tv nx pcs lv cs x b cl cm so ti pu np hn (vp_csr h0 hnn)) mw_Model_keep mv_Model_keep k_734 ⟨rfl, rfl, Nat.le_of_ble_eq_true rfl, Nat.le_of_ble_eq_true rfl⟩ hK hP hD hS hA hF [0, 1, 2, 3, 4, 5, 6, 7, 8, 9] [0, 1, 2, 3, 4, 5, 6, 7, 8] rfl rfl rfl 0 5 rfl rfl rfl rfl hl.1 rfl (Nat.le_of_ble_eq_true rfl) d_Model_write_272 ⟨Nat.zero_le _, Nat.zero_le _⟩) hP hD hS hA [0, 1, 2, 3, 4, 5, 6, 7, 8, 9] [] [0, 1, 2, 3, 4, 5, 6, 7, 8, 9] rfl rfl rfl (by decide) (fun _ => rfl) rfl (fun u_34 H locs h_34 hP hD hS => ?_)
                              obtain ⟨cs_34, e_34⟩ : ∃ z, z = u_34 := ⟨_, rfl⟩
                              subst e_34
                              exact rv cs_34 hx hb hr hlocks hP hD hS d_Model_write_275 (by simp only [sp_Model_write, h_34, if_neg c_2, if_neg c_5, if_neg c_7, if_neg c_9, if_neg c_11, if_neg c_13, if_neg c_15, if_neg c_21, if_neg c_22, if_neg c_24, if_neg c_26, if_neg c_28, if_neg c_30, if_neg c_32])
def sp_Model_has (x0 : Int32) (h : Int32) (cs : Nat → Int32) : Int32 :=
  if ((sp_Model_raw h 768 cs) &&& x0) = 0 then
    0
  else
    1
set_option maxHeartbeats 4000000 in
set_option maxRecDepth 100000 in
theorem c_Model_has {l : Launch} {D : va_G} {g : Nat → Nat} (a : Nat → Nat) (k : Nat → ClassId) (n : Nat) (x0 : Int32) (h ca tv nx : Int32) (pcs lv cs x b cl : Nat → Int32) (cm : Nat → Int64) (so : Nat → Int32) (ti : Int64) (pu : Nat → Int32) (np : Int32) (hn : n ≤ 4096) (hh : h = 0 ∨ h = 1) : CT l D g y_Model_has b_Model_has 2 (some .boolean) (rD 1) [.ref (a 0), .int x0] (wR a k n h ca tv nx pcs lv cs x b cl cm so ti pu np) (tyR k) (Qi D (fun (r : Int32) (_ : Unit) => sp_Model_has x0 h cs = r ∧ (r = 0 ∨ r = 1)) (fun _ => wR a k n h ca tv nx pcs lv cs x b cl cm so ti pu np)) := by
  refine CT.of rfl (Nat.le_of_ble_eq_true rfl) (fun p e s m below meth c A ls hx hb hr hml hts hown hlocks hA hP hK hD hF hS hl => ?_)
  have hl : lv_has ls 2 [(0, .ref (a 0)), (1, .int x0)] := hl
  refine lv_aload_n hx hb d_Model_has_0 rfl (lv_at hl 0 rfl) ?_
  refine lv_aload_n hx hb d_Model_has_1 rfl (lv_at hl 0 rfl) ?_
  refine va_get (D := D) (ci := 5) (v := .int h) (C := R_Model) (T := F_Model) (N := 16) hx hb hts i_Model hown hK hP 0 rfl rfl 12 (by decide) (hts _ k_637) (fun _ h9 => h9) rfl d_Model_has_2 ?_
  refine lv_sipush (v := 768) hx hb d_Model_has_5 rfl ?_
  refine xi (wr := []) (W2 := fun _ => wR a k n h ca tv nx pcs lv cs x b cl cm so ti pu np) (xV (rest := []) ⟨hx, hb, hml, hown, hts⟩ (c_Model_raw a k n h 768 h ca tv nx pcs lv cs x b cl cm so ti pu np hn (vp_csr hh (by unfold vp_in; decide))) mw_Model_raw mv_Model_raw k_714 ⟨rfl, rfl, Nat.le_of_ble_eq_true rfl, Nat.le_of_ble_eq_true rfl⟩ hK hP hD hS hA hF [0, 1, 2, 3, 4, 5, 6, 7, 8, 9] [0, 1, 2, 3, 4, 5, 6, 7, 8] rfl rfl rfl 0 5 rfl rfl rfl rfl hl.1 rfl (Nat.le_of_ble_eq_true rfl) d_Model_has_8 ⟨Nat.zero_le _, Nat.zero_le _⟩) hP hD hS hA [0, 1, 2, 3, 4, 5, 6, 7, 8, 9] [] [0, 1, 2, 3, 4, 5, 6, 7, 8, 9] rfl rfl rfl (by decide) (fun _ => rfl) rfl (fun r_1 _ H locs h_1 hP hD hS => ?_)
  subst h_1
  refine lv_iload_n hx hb d_Model_has_11 rfl (lv_at hl 1 rfl) ?_
  refine lv_iand hx hb d_Model_has_12 ?_
  refine lv_if_eq (tgt := 20) hx hb d_Model_has_13 (by decide) (fun c_2 => ?_) (fun c_2 => ?_)
  · refine lv_iconst (v := 0) hx hb d_Model_has_20 rfl ?_
    exact rz () hx hb hr hlocks rfl hP hD hS d_Model_has_21 ⟨by simp only [sp_Model_has, if_pos c_2], Or.inl rfl⟩
  · refine lv_iconst (v := 1) hx hb d_Model_has_16 rfl ?_
    refine lv_goto (tgt := 21) hx hb d_Model_has_17 (by decide) ?_
    exact rz () hx hb hr hlocks rfl hP hD hS d_Model_has_21 ⟨by simp only [sp_Model_has, if_neg c_2], Or.inr rfl⟩
def sp_Model_trap (x0 : Int32) (x1 : Int32) (ca : Int32) (tv : Int32) : Int32 × Int32 :=
  if ca = (-1) then
    (x0, x1)
  else
    (ca, tv)
set_option maxHeartbeats 4000000 in
set_option maxRecDepth 100000 in
theorem c_Model_trap {l : Launch} {D : va_G} {g : Nat → Nat} (a : Nat → Nat) (k : Nat → ClassId) (n : Nat) (x0 : Int32) (x1 : Int32) (h ca tv nx : Int32) (pcs lv cs x b cl : Nat → Int32) (cm : Nat → Int64) (so : Nat → Int32) (ti : Int64) (pu : Nat → Int32) (np : Int32) (hn : n ≤ 4096) : CT l D g y_Model_trap b_Model_trap 3 none (rD 0) [.ref (a 0), .int x0, .int x1] (wR a k n h ca tv nx pcs lv cs x b cl cm so ti pu np) (tyR k) (Qv D (fun (u : Int32 × Int32) => sp_Model_trap x0 x1 ca tv = u) (fun u => wR a k n h u.1 u.2 nx pcs lv cs x b cl cm so ti pu np)) := by
  refine CT.of rfl (Nat.le_of_ble_eq_true rfl) (fun p e s m below meth c A ls hx hb hr hml hts hown hlocks hA hP hK hD hF hS hl => ?_)
  have hl : lv_has ls 3 [(0, .ref (a 0)), (1, .int x0), (2, .int x1)] := hl
  refine lv_aload_n hx hb d_Model_trap_0 rfl (lv_at hl 0 rfl) ?_
  refine va_get (D := D) (ci := 5) (v := .int ca) (C := R_Model) (T := F_Model) (N := 16) hx hb hts i_Model hown hK hP 0 rfl rfl 13 (by decide) (hts _ k_638) (fun _ h9 => h9) rfl d_Model_trap_1 ?_
  refine lv_iconst (v := (-1)) hx hb d_Model_trap_4 rfl ?_
  refine lv_icmp_eq (tgt := 9) hx hb d_Model_trap_5 (by decide) (fun c_1 => ?_) (fun c_1 => ?_)
  · refine lv_aload_n hx hb d_Model_trap_9 rfl (lv_at hl 0 rfl) ?_
    refine lv_iload_n hx hb d_Model_trap_10 rfl (lv_at hl 1 rfl) ?_
    refine y_put (D := D) (ci := 5) (v := .int x0) (ty := .int) (C := R_Model) (T := F_Model) (N := 16) (ws' := wR a k n h x0 tv nx pcs lv cs x b cl cm so ti pu np) hx hb hts i_Model t_Model t_Model_ok n_Model hown hK hP hD hS 0 rfl rfl 13 (by decide) (hts _ k_638) (fun _ h9 => h9) rfl (by decide +kernel) rfl rfl (Nat.le_of_ble_eq_true rfl) d_Model_trap_11 rfl (fun H locs hP hD hS => ?_)
    refine lv_aload_n hx hb d_Model_trap_14 rfl (lv_at hl 0 rfl) ?_
    refine lv_iload_n hx hb d_Model_trap_15 rfl (lv_at hl 2 rfl) ?_
    refine y_put (D := D) (ci := 5) (v := .int x1) (ty := .int) (C := R_Model) (T := F_Model) (N := 16) (ws' := wR a k n h x0 x1 nx pcs lv cs x b cl cm so ti pu np) hx hb hts i_Model t_Model t_Model_ok n_Model hown hK hP hD hS 0 rfl rfl 14 (by decide) (hts _ k_639) (fun _ h9 => h9) rfl (by decide +kernel) rfl rfl (Nat.le_of_ble_eq_true rfl) d_Model_trap_16 rfl (fun H locs hP hD hS => ?_)
    exact rv (x0, x1) hx hb hr hlocks hP hD hS d_Model_trap_19 (by simp only [sp_Model_trap, if_pos c_1])
  · exact rv (ca, tv) hx hb hr hlocks hP hD hS d_Model_trap_8 (by simp only [sp_Model_trap, if_neg c_1])
def sp_Model_take (x0 : Int32) (x1 : Int32) (x2 : Int32) (h : Int32) (pcs : Nat → Int32) (lv : Nat → Int32) (cs : Nat → Int32) (cl : Nat → Int32) : (Nat → Int32) × (Nat → Int32) × (Nat → Int32) × (Nat → Int32) :=
  if x2 = 0 then
    let cs_3 := (sp_Model_keep h 833 (pcs h.toNatClampNeg) (-1) cs)
    let cs_4 := (sp_Model_keep h 834 x0 (-1) cs_3)
    let cs_5 := (sp_Model_keep h 835 x1 (-1) cs_4)
    let cs_8 := (sp_Model_keep h 768 ((shl (lv h.toNatClampNeg) 11) ||| (shl ((shr (sp_Model_raw h 768 cs) 3) &&& 1) 7)) 6280 cs_5)
    ((upd pcs h.toNatClampNeg (sp_Model_raw h 773 cs_8)), (upd lv h.toNatClampNeg 3), cs_8, (upd (upd cl 0 (-1)) 1 (-1)))
  else
    let cs_12 := (sp_Model_keep h 321 (pcs h.toNatClampNeg) (-1) cs)
    let cs_13 := (sp_Model_keep h 322 x0 (-1) cs_12)
    let cs_14 := (sp_Model_keep h 323 x1 (-1) cs_13)
    if (lv h.toNatClampNeg) = 1 then
      let cs_22 := (sp_Model_keep h 768 (256 ||| (shl ((shr (sp_Model_raw h 768 cs) 1) &&& 1) 5)) 290 cs_14)
      ((upd pcs h.toNatClampNeg (sp_Model_raw h 261 cs_22)), (upd lv h.toNatClampNeg 1), cs_22, (upd (upd cl 0 (-1)) 1 (-1)))
    else
      let cs_18 := (sp_Model_keep h 768 (0 ||| (shl ((shr (sp_Model_raw h 768 cs) 1) &&& 1) 5)) 290 cs_14)
      ((upd pcs h.toNatClampNeg (sp_Model_raw h 261 cs_18)), (upd lv h.toNatClampNeg 1), cs_18, (upd (upd cl 0 (-1)) 1 (-1)))
set_option maxHeartbeats 4000000 in
set_option maxRecDepth 100000 in
theorem c_Model_take {l : Launch} {D : va_G} {g : Nat → Nat} (a : Nat → Nat) (k : Nat → ClassId) (n : Nat) (x0 : Int32) (x1 : Int32) (x2 : Int32) (h ca tv nx : Int32) (pcs lv cs x b cl : Nat → Int32) (cm : Nat → Int64) (so : Nat → Int32) (ti : Int64) (pu : Nat → Int32) (np : Int32) (hn : n ≤ 4096) (hh : h = 0 ∨ h = 1) : CT l D g y_Model_take b_Model_take 7 none (rD 2) [.ref (a 0), .int x0, .int x1, .int x2] (wR a k n h ca tv nx pcs lv cs x b cl cm so ti pu np) (tyR k) (Qv D (fun (u : (Nat → Int32) × (Nat → Int32) × (Nat → Int32) × (Nat → Int32)) => sp_Model_take x0 x1 x2 h pcs lv cs cl = u) (fun u => wR a k n h ca tv nx u.1 u.2.1 u.2.2.1 x b u.2.2.2 cm so ti pu np)) := by
  refine CT.of rfl (Nat.le_of_ble_eq_true rfl) (fun p e s m below meth c A ls hx hb hr hml hts hown hlocks hA hP hK hD hF hS hl => ?_)
  have hl : lv_has ls 7 [(0, .ref (a 0)), (1, .int x0), (2, .int x1), (3, .int x2)] := hl
  refine lv_aload_n hx hb d_Model_take_0 rfl (lv_at hl 0 rfl) ?_
  refine lv_aload_n hx hb d_Model_take_1 rfl (lv_at hl 0 rfl) ?_
  refine va_get (D := D) (ci := 5) (v := .int h) (C := R_Model) (T := F_Model) (N := 16) hx hb hts i_Model hown hK hP 0 rfl rfl 12 (by decide) (hts _ k_637) (fun _ h9 => h9) rfl d_Model_take_2 ?_
  refine lv_sipush (v := 768) hx hb d_Model_take_5 rfl ?_
  refine xi (wr := []) (W2 := fun _ => wR a k n h ca tv nx pcs lv cs x b cl cm so ti pu np) (xV (rest := []) ⟨hx, hb, hml, hown, hts⟩ (c_Model_raw a k n h 768 h ca tv nx pcs lv cs x b cl cm so ti pu np hn (vp_csr hh (by unfold vp_in; decide))) mw_Model_raw mv_Model_raw k_714 ⟨rfl, rfl, Nat.le_of_ble_eq_true rfl, Nat.le_of_ble_eq_true rfl⟩ hK hP hD hS hA hF [0, 1, 2, 3, 4, 5, 6, 7, 8, 9] [0, 1, 2, 3, 4, 5, 6, 7, 8] rfl rfl rfl 0 5 rfl rfl rfl rfl hl.1 rfl (Nat.le_of_ble_eq_true rfl) d_Model_take_8 ⟨Nat.zero_le _, Nat.zero_le _⟩) hP hD hS hA [0, 1, 2, 3, 4, 5, 6, 7, 8, 9] [] [0, 1, 2, 3, 4, 5, 6, 7, 8, 9] rfl rfl rfl (by decide) (fun _ => rfl) rfl (fun r_1 _ H locs h_1 hP hD hS => ?_)
  subst h_1
  refine lv_istore (lv' := [(4, .int (sp_Model_raw h 768 cs)), (0, .ref (a 0)), (1, .int x0), (2, .int x1), (3, .int x2)]) hx hb d_Model_take_11 hl (by decide) rfl (fun ls hl => ?_)
  refine lv_iload_n hx hb d_Model_take_13 rfl (lv_at hl 4 rfl) ?_
  refine lv_if_eq (tgt := 23) hx hb d_Model_take_14 (by decide) (fun c_2 => ?_) (fun c_2 => ?_)
  · refine lv_sipush (v := 832) hx hb d_Model_take_23 rfl ?_
    refine lv_istore (lv' := [(5, .int 832), (4, .int (sp_Model_raw h 768 cs)), (0, .ref (a 0)), (1, .int x0), (2, .int x1), (3, .int x2)]) hx hb d_Model_take_26 hl (by decide) rfl (fun ls hl => ?_)
    refine lv_aload_n hx hb d_Model_take_28 rfl (lv_at hl 2 rfl) ?_
    refine lv_aload_n hx hb d_Model_take_29 rfl (lv_at hl 2 rfl) ?_
    refine va_get (D := D) (ci := 5) (v := .int h) (C := R_Model) (T := F_Model) (N := 16) hx hb hts i_Model hown hK hP 0 rfl rfl 12 (by decide) (hts _ k_637) (fun _ h9 => h9) rfl d_Model_take_30 ?_
    refine lv_iload hx hb d_Model_take_33 (lv_at hl 0 rfl) ?_
    refine lv_iconst (v := 1) hx hb d_Model_take_35 rfl ?_
    refine lv_iadd hx hb d_Model_take_36 ?_
    refine W.eq (g2 := F0 m 37 ls [.int 833, .int h, .ref (a 0)]) rfl ?_
    refine lv_aload_n hx hb d_Model_take_37 rfl (lv_at hl 2 rfl) ?_
    refine va_get (D := D) (ci := 5) (v := .ref (a 3)) (C := R_Model) (T := F_Model) (N := 16) hx hb hts i_Model hown hK hP 0 rfl rfl 3 (by decide) (hts _ k_628) (fun _ h9 => h9) rfl d_Model_take_38 ?_
    refine lv_aload_n hx hb d_Model_take_41 rfl (lv_at hl 2 rfl) ?_
    refine va_get (D := D) (ci := 5) (v := .int h) (C := R_Model) (T := F_Model) (N := 16) hx hb hts i_Model hown hK hP 0 rfl rfl 12 (by decide) (hts _ k_637) (fun _ h9 => h9) rfl d_Model_take_42 ?_
    refine y_iald (v := pcs h.toNatClampNeg) hx hb hK hP 3 2 rfl rfl (vp_01 hh (by decide)) rfl d_Model_take_45 ?_
    refine lv_iconst (v := (-1)) hx hb d_Model_take_46 rfl ?_
    refine xv (wr := []) (W2 := fun u9 => wR a k n h ca tv nx pcs lv u9 x b cl cm so ti pu np) (xV (rest := []) ⟨hx, hb, hml, hown, hts⟩ (c_Model_keep a k n h 833 (pcs h.toNatClampNeg) (-1) h ca tv nx pcs lv cs x b cl cm so ti pu np hn (vp_csr hh (by unfold vp_in; decide))) mw_Model_keep mv_Model_keep k_734 ⟨rfl, rfl, Nat.le_of_ble_eq_true rfl, Nat.le_of_ble_eq_true rfl⟩ hK hP hD hS hA hF [0, 1, 2, 3, 4, 5, 6, 7, 8, 9] [0, 1, 2, 3, 4, 5, 6, 7, 8] rfl rfl rfl 0 5 rfl rfl rfl rfl hl.1 rfl (Nat.le_of_ble_eq_true rfl) d_Model_take_47 ⟨Nat.zero_le _, Nat.zero_le _⟩) hP hD hS hA [0, 1, 2, 3, 4, 5, 6, 7, 8, 9] [] [0, 1, 2, 3, 4, 5, 6, 7, 8, 9] rfl rfl rfl (by decide) (fun _ => rfl) rfl (fun u_3 H locs h_3 hP hD hS => ?_)
    obtain ⟨cs_3, e_3⟩ : ∃ z, z = u_3 := ⟨_, rfl⟩
    subst e_3
    refine lv_aload_n hx hb d_Model_take_50 rfl (lv_at hl 2 rfl) ?_
    refine lv_aload_n hx hb d_Model_take_51 rfl (lv_at hl 2 rfl) ?_
    refine va_get (D := D) (ci := 5) (v := .int h) (C := R_Model) (T := F_Model) (N := 16) hx hb hts i_Model hown hK hP 0 rfl rfl 12 (by decide) (hts _ k_637) (fun _ h9 => h9) rfl d_Model_take_52 ?_
    refine lv_iload hx hb d_Model_take_55 (lv_at hl 0 rfl) ?_
    refine lv_iconst (v := 2) hx hb d_Model_take_57 rfl ?_
    refine lv_iadd hx hb d_Model_take_58 ?_
    refine W.eq (g2 := F0 m 59 ls [.int 834, .int h, .ref (a 0)]) rfl ?_
    refine lv_iload_n hx hb d_Model_take_59 rfl (lv_at hl 3 rfl) ?_
    refine lv_iconst (v := (-1)) hx hb d_Model_take_60 rfl ?_
    refine xv (wr := []) (W2 := fun u9 => wR a k n h ca tv nx pcs lv u9 x b cl cm so ti pu np) (xV (rest := []) ⟨hx, hb, hml, hown, hts⟩ (c_Model_keep a k n h 834 x0 (-1) h ca tv nx pcs lv cs_3 x b cl cm so ti pu np hn (vp_csr hh (by unfold vp_in; decide))) mw_Model_keep mv_Model_keep k_734 ⟨rfl, rfl, Nat.le_of_ble_eq_true rfl, Nat.le_of_ble_eq_true rfl⟩ hK hP hD hS hA hF [0, 1, 2, 3, 4, 5, 6, 7, 8, 9] [0, 1, 2, 3, 4, 5, 6, 7, 8] rfl rfl rfl 0 5 rfl rfl rfl rfl hl.1 rfl (Nat.le_of_ble_eq_true rfl) d_Model_take_61 ⟨Nat.zero_le _, Nat.zero_le _⟩) hP hD hS hA [0, 1, 2, 3, 4, 5, 6, 7, 8, 9] [] [0, 1, 2, 3, 4, 5, 6, 7, 8, 9] rfl rfl rfl (by decide) (fun _ => rfl) rfl (fun u_4 H locs h_4 hP hD hS => ?_)
    obtain ⟨cs_4, e_4⟩ : ∃ z, z = u_4 := ⟨_, rfl⟩
    subst e_4
    refine lv_aload_n hx hb d_Model_take_64 rfl (lv_at hl 2 rfl) ?_
    refine lv_aload_n hx hb d_Model_take_65 rfl (lv_at hl 2 rfl) ?_
    refine va_get (D := D) (ci := 5) (v := .int h) (C := R_Model) (T := F_Model) (N := 16) hx hb hts i_Model hown hK hP 0 rfl rfl 12 (by decide) (hts _ k_637) (fun _ h9 => h9) rfl d_Model_take_66 ?_
    refine lv_iload hx hb d_Model_take_69 (lv_at hl 0 rfl) ?_
    refine lv_iconst (v := 3) hx hb d_Model_take_71 rfl ?_
    refine lv_iadd hx hb d_Model_take_72 ?_
    refine W.eq (g2 := F0 m 73 ls [.int 835, .int h, .ref (a 0)]) rfl ?_
    refine lv_iload_n hx hb d_Model_take_73 rfl (lv_at hl 4 rfl) ?_
    refine lv_iconst (v := (-1)) hx hb d_Model_take_74 rfl ?_
    refine xv (wr := []) (W2 := fun u9 => wR a k n h ca tv nx pcs lv u9 x b cl cm so ti pu np) (xV (rest := []) ⟨hx, hb, hml, hown, hts⟩ (c_Model_keep a k n h 835 x1 (-1) h ca tv nx pcs lv cs_4 x b cl cm so ti pu np hn (vp_csr hh (by unfold vp_in; decide))) mw_Model_keep mv_Model_keep k_734 ⟨rfl, rfl, Nat.le_of_ble_eq_true rfl, Nat.le_of_ble_eq_true rfl⟩ hK hP hD hS hA hF [0, 1, 2, 3, 4, 5, 6, 7, 8, 9] [0, 1, 2, 3, 4, 5, 6, 7, 8] rfl rfl rfl 0 5 rfl rfl rfl rfl hl.1 rfl (Nat.le_of_ble_eq_true rfl) d_Model_take_75 ⟨Nat.zero_le _, Nat.zero_le _⟩) hP hD hS hA [0, 1, 2, 3, 4, 5, 6, 7, 8, 9] [] [0, 1, 2, 3, 4, 5, 6, 7, 8, 9] rfl rfl rfl (by decide) (fun _ => rfl) rfl (fun u_5 H locs h_5 hP hD hS => ?_)
    obtain ⟨cs_5, e_5⟩ : ∃ z, z = u_5 := ⟨_, rfl⟩
    subst e_5
    refine lv_iload_n hx hb d_Model_take_78 rfl (lv_at hl 5 rfl) ?_
    refine lv_if_eq (tgt := 91) hx hb d_Model_take_79 (by decide) (fun _ => ?_) (fun h9 => absurd c_2 h9)
    refine lv_iload hx hb d_Model_take_91 (lv_at hl 1 rfl) ?_
    refine lv_iconst (v := 3) hx hb d_Model_take_93 rfl ?_
    refine y_ishr hx hb d_Model_take_94 ?_
    refine lv_iconst (v := 1) hx hb d_Model_take_95 rfl ?_
    refine lv_iand hx hb d_Model_take_96 ?_
    refine lv_istore (lv' := [(6, .int ((shr (sp_Model_raw h 768 cs) 3) &&& 1)), (5, .int 832), (4, .int (sp_Model_raw h 768 cs)), (0, .ref (a 0)), (1, .int x0), (2, .int x1), (3, .int x2)]) hx hb d_Model_take_97 hl (by decide) rfl (fun ls hl => ?_)
    refine lv_iload_n hx hb d_Model_take_99 rfl (lv_at hl 6 rfl) ?_
    refine lv_if_eq (tgt := 145) hx hb d_Model_take_100 (by decide) (fun _ => ?_) (fun h9 => absurd c_2 h9)
    refine lv_aload_n hx hb d_Model_take_145 rfl (lv_at hl 3 rfl) ?_
    refine lv_aload_n hx hb d_Model_take_146 rfl (lv_at hl 3 rfl) ?_
    refine va_get (D := D) (ci := 5) (v := .int h) (C := R_Model) (T := F_Model) (N := 16) hx hb hts i_Model hown hK hP 0 rfl rfl 12 (by decide) (hts _ k_637) (fun _ h9 => h9) rfl d_Model_take_147 ?_
    refine lv_sipush (v := 768) hx hb d_Model_take_150 rfl ?_
    refine lv_aload_n hx hb d_Model_take_153 rfl (lv_at hl 3 rfl) ?_
    refine va_get (D := D) (ci := 5) (v := .ref (a 4)) (C := R_Model) (T := F_Model) (N := 16) hx hb hts i_Model hown hK hP 0 rfl rfl 4 (by decide) (hts _ k_629) (fun _ h9 => h9) rfl d_Model_take_154 ?_
    refine lv_aload_n hx hb d_Model_take_157 rfl (lv_at hl 3 rfl) ?_
    refine va_get (D := D) (ci := 5) (v := .int h) (C := R_Model) (T := F_Model) (N := 16) hx hb hts i_Model hown hK hP 0 rfl rfl 12 (by decide) (hts _ k_637) (fun _ h9 => h9) rfl d_Model_take_158 ?_
    refine y_iald (v := lv h.toNatClampNeg) hx hb hK hP 4 3 rfl rfl (vp_01 hh (by decide)) rfl d_Model_take_161 ?_
    refine lv_bipush (v := 11) hx hb d_Model_take_162 rfl ?_
    refine y_ishl hx hb d_Model_take_164 ?_
    refine lv_iload hx hb d_Model_take_165 (lv_at hl 0 rfl) ?_
    refine lv_bipush (v := 7) hx hb d_Model_take_167 rfl ?_
    refine y_ishl hx hb d_Model_take_169 ?_
    refine lv_ior hx hb d_Model_take_170 ?_
    refine lv_sipush (v := 6280) hx hb d_Model_take_171 rfl ?_
    refine xv (wr := []) (W2 := fun u9 => wR a k n h ca tv nx pcs lv u9 x b cl cm so ti pu np) (xV (rest := []) ⟨hx, hb, hml, hown, hts⟩ (c_Model_keep a k n h 768 ((shl (lv h.toNatClampNeg) 11) ||| (shl ((shr (sp_Model_raw h 768 cs) 3) &&& 1) 7)) 6280 h ca tv nx pcs lv cs_5 x b cl cm so ti pu np hn (vp_csr hh (by unfold vp_in; decide))) mw_Model_keep mv_Model_keep k_734 ⟨rfl, rfl, Nat.le_of_ble_eq_true rfl, Nat.le_of_ble_eq_true rfl⟩ hK hP hD hS hA hF [0, 1, 2, 3, 4, 5, 6, 7, 8, 9] [0, 1, 2, 3, 4, 5, 6, 7, 8] rfl rfl rfl 0 5 rfl rfl rfl rfl hl.1 rfl (Nat.le_of_ble_eq_true rfl) d_Model_take_174 ⟨Nat.zero_le _, Nat.zero_le _⟩) hP hD hS hA [0, 1, 2, 3, 4, 5, 6, 7, 8, 9] [] [0, 1, 2, 3, 4, 5, 6, 7, 8, 9] rfl rfl rfl (by decide) (fun _ => rfl) rfl (fun u_8 H locs h_8 hP hD hS => ?_)
    obtain ⟨cs_8, e_8⟩ : ∃ z, z = u_8 := ⟨_, rfl⟩
    subst e_8
    refine lv_aload_n hx hb d_Model_take_177 rfl (lv_at hl 3 rfl) ?_
    refine va_get (D := D) (ci := 5) (v := .ref (a 3)) (C := R_Model) (T := F_Model) (N := 16) hx hb hts i_Model hown hK hP 0 rfl rfl 3 (by decide) (hts _ k_628) (fun _ h9 => h9) rfl d_Model_take_178 ?_
    refine lv_aload_n hx hb d_Model_take_181 rfl (lv_at hl 3 rfl) ?_
    refine va_get (D := D) (ci := 5) (v := .int h) (C := R_Model) (T := F_Model) (N := 16) hx hb hts i_Model hown hK hP 0 rfl rfl 12 (by decide) (hts _ k_637) (fun _ h9 => h9) rfl d_Model_take_182 ?_
    refine lv_aload_n hx hb d_Model_take_185 rfl (lv_at hl 3 rfl) ?_
    refine lv_aload_n hx hb d_Model_take_186 rfl (lv_at hl 3 rfl) ?_
    refine va_get (D := D) (ci := 5) (v := .int h) (C := R_Model) (T := F_Model) (N := 16) hx hb hts i_Model hown hK hP 0 rfl rfl 12 (by decide) (hts _ k_637) (fun _ h9 => h9) rfl d_Model_take_187 ?_
    refine lv_iload_n hx hb d_Model_take_190 rfl (lv_at hl 6 rfl) ?_
    refine lv_if_eq (tgt := 200) hx hb d_Model_take_191 (by decide) (fun _ => ?_) (fun h9 => absurd c_2 h9)
    refine lv_sipush (v := 773) hx hb d_Model_take_200 rfl ?_
    refine xi (wr := []) (W2 := fun _ => wR a k n h ca tv nx pcs lv cs_8 x b cl cm so ti pu np) (xV (rest := [.int h, .ref (a 3)]) ⟨hx, hb, hml, hown, hts⟩ (c_Model_raw a k n h 773 h ca tv nx pcs lv cs_8 x b cl cm so ti pu np hn (vp_csr hh (by unfold vp_in; decide))) mw_Model_raw mv_Model_raw k_714 ⟨rfl, rfl, Nat.le_of_ble_eq_true rfl, Nat.le_of_ble_eq_true rfl⟩ hK hP hD hS hA hF [0, 1, 2, 3, 4, 5, 6, 7, 8, 9] [0, 1, 2, 3, 4, 5, 6, 7, 8] rfl rfl rfl 0 5 rfl rfl rfl rfl hl.1 rfl (Nat.le_of_ble_eq_true rfl) d_Model_take_203 ⟨Nat.zero_le _, Nat.zero_le _⟩) hP hD hS hA [0, 1, 2, 3, 4, 5, 6, 7, 8, 9] [] [0, 1, 2, 3, 4, 5, 6, 7, 8, 9] rfl rfl rfl (by decide) (fun _ => rfl) rfl (fun r_10 _ H locs h_10 hP hD hS => ?_)
    subst h_10
    refine y_iast (ws' := wR a k n h ca tv nx (upd pcs h.toNatClampNeg (sp_Model_raw h 773 cs_8)) lv cs_8 x b cl cm so ti pu np) hx hb hK hP hD hS 3 2 rfl rfl (vp_01 hh (by decide)) d_Model_take_206 rfl (fun H locs hP hD hS => ?_)
    refine lv_aload_n hx hb d_Model_take_207 rfl (lv_at hl 3 rfl) ?_
    refine va_get (D := D) (ci := 5) (v := .ref (a 4)) (C := R_Model) (T := F_Model) (N := 16) hx hb hts i_Model hown hK hP 0 rfl rfl 4 (by decide) (hts _ k_629) (fun _ h9 => h9) rfl d_Model_take_208 ?_
    refine lv_aload_n hx hb d_Model_take_211 rfl (lv_at hl 3 rfl) ?_
    refine va_get (D := D) (ci := 5) (v := .int h) (C := R_Model) (T := F_Model) (N := 16) hx hb hts i_Model hown hK hP 0 rfl rfl 12 (by decide) (hts _ k_637) (fun _ h9 => h9) rfl d_Model_take_212 ?_
    refine lv_iload_n hx hb d_Model_take_215 rfl (lv_at hl 6 rfl) ?_
    refine lv_if_eq (tgt := 223) hx hb d_Model_take_216 (by decide) (fun _ => ?_) (fun h9 => absurd c_2 h9)
    refine lv_iconst (v := 3) hx hb d_Model_take_223 rfl ?_
    refine y_iast (ws' := wR a k n h ca tv nx (upd pcs h.toNatClampNeg (sp_Model_raw h 773 cs_8)) (upd lv h.toNatClampNeg 3) cs_8 x b cl cm so ti pu np) hx hb hK hP hD hS 4 3 rfl rfl (vp_01 hh (by decide)) d_Model_take_224 rfl (fun H locs hP hD hS => ?_)
    refine lv_aload_n hx hb d_Model_take_225 rfl (lv_at hl 3 rfl) ?_
    refine va_get (D := D) (ci := 5) (v := .ref (a 6)) (C := R_Model) (T := F_Model) (N := 16) hx hb hts i_Model hown hK hP 0 rfl rfl 6 (by decide) (hts _ k_631) (fun _ h9 => h9) rfl d_Model_take_226 ?_
    refine lv_iconst (v := 0) hx hb d_Model_take_229 rfl ?_
    refine lv_iconst (v := (-1)) hx hb d_Model_take_230 rfl ?_
    refine y_iast (ws' := wR a k n h ca tv nx (upd pcs h.toNatClampNeg (sp_Model_raw h 773 cs_8)) (upd lv h.toNatClampNeg 3) cs_8 x b (upd cl 0 (-1)) cm so ti pu np) hx hb hK hP hD hS 6 5 rfl rfl (by unfold vp_in; decide) d_Model_take_231 rfl (fun H locs hP hD hS => ?_)
    refine lv_aload_n hx hb d_Model_take_232 rfl (lv_at hl 3 rfl) ?_
    refine va_get (D := D) (ci := 5) (v := .ref (a 6)) (C := R_Model) (T := F_Model) (N := 16) hx hb hts i_Model hown hK hP 0 rfl rfl 6 (by decide) (hts _ k_631) (fun _ h9 => h9) rfl d_Model_take_233 ?_
    refine lv_iconst (v := 1) hx hb d_Model_take_236 rfl ?_
    refine lv_iconst (v := (-1)) hx hb d_Model_take_237 rfl ?_
    refine y_iast (ws' := wR a k n h ca tv nx (upd pcs h.toNatClampNeg (sp_Model_raw h 773 cs_8)) (upd lv h.toNatClampNeg 3) cs_8 x b (upd (upd cl 0 (-1)) 1 (-1)) cm so ti pu np) hx hb hK hP hD hS 6 5 rfl rfl (by unfold vp_in; decide) d_Model_take_238 rfl (fun H locs hP hD hS => ?_)
    exact rv ((upd pcs h.toNatClampNeg (sp_Model_raw h 773 cs_8)), (upd lv h.toNatClampNeg 3), cs_8, (upd (upd cl 0 (-1)) 1 (-1))) hx hb hr hlocks hP hD hS d_Model_take_239 (by simp only [sp_Model_take, h_3, h_4, h_5, h_8, if_pos c_2])
  · refine lv_sipush (v := 320) hx hb d_Model_take_17 rfl ?_
    refine lv_goto (tgt := 26) hx hb d_Model_take_20 (by decide) ?_
    refine lv_istore (lv' := [(5, .int 320), (4, .int (sp_Model_raw h 768 cs)), (0, .ref (a 0)), (1, .int x0), (2, .int x1), (3, .int x2)]) hx hb d_Model_take_26 hl (by decide) rfl (fun ls hl => ?_)
    refine lv_aload_n hx hb d_Model_take_28 rfl (lv_at hl 2 rfl) ?_
    refine lv_aload_n hx hb d_Model_take_29 rfl (lv_at hl 2 rfl) ?_
    refine va_get (D := D) (ci := 5) (v := .int h) (C := R_Model) (T := F_Model) (N := 16) hx hb hts i_Model hown hK hP 0 rfl rfl 12 (by decide) (hts _ k_637) (fun _ h9 => h9) rfl d_Model_take_30 ?_
    refine lv_iload hx hb d_Model_take_33 (lv_at hl 0 rfl) ?_
    refine lv_iconst (v := 1) hx hb d_Model_take_35 rfl ?_
    refine lv_iadd hx hb d_Model_take_36 ?_
    refine W.eq (g2 := F0 m 37 ls [.int 321, .int h, .ref (a 0)]) rfl ?_
    refine lv_aload_n hx hb d_Model_take_37 rfl (lv_at hl 2 rfl) ?_
    refine va_get (D := D) (ci := 5) (v := .ref (a 3)) (C := R_Model) (T := F_Model) (N := 16) hx hb hts i_Model hown hK hP 0 rfl rfl 3 (by decide) (hts _ k_628) (fun _ h9 => h9) rfl d_Model_take_38 ?_
    refine lv_aload_n hx hb d_Model_take_41 rfl (lv_at hl 2 rfl) ?_
    refine va_get (D := D) (ci := 5) (v := .int h) (C := R_Model) (T := F_Model) (N := 16) hx hb hts i_Model hown hK hP 0 rfl rfl 12 (by decide) (hts _ k_637) (fun _ h9 => h9) rfl d_Model_take_42 ?_
    refine y_iald (v := pcs h.toNatClampNeg) hx hb hK hP 3 2 rfl rfl (vp_01 hh (by decide)) rfl d_Model_take_45 ?_
    refine lv_iconst (v := (-1)) hx hb d_Model_take_46 rfl ?_
    refine xv (wr := []) (W2 := fun u9 => wR a k n h ca tv nx pcs lv u9 x b cl cm so ti pu np) (xV (rest := []) ⟨hx, hb, hml, hown, hts⟩ (c_Model_keep a k n h 321 (pcs h.toNatClampNeg) (-1) h ca tv nx pcs lv cs x b cl cm so ti pu np hn (vp_csr hh (by unfold vp_in; decide))) mw_Model_keep mv_Model_keep k_734 ⟨rfl, rfl, Nat.le_of_ble_eq_true rfl, Nat.le_of_ble_eq_true rfl⟩ hK hP hD hS hA hF [0, 1, 2, 3, 4, 5, 6, 7, 8, 9] [0, 1, 2, 3, 4, 5, 6, 7, 8] rfl rfl rfl 0 5 rfl rfl rfl rfl hl.1 rfl (Nat.le_of_ble_eq_true rfl) d_Model_take_47 ⟨Nat.zero_le _, Nat.zero_le _⟩) hP hD hS hA [0, 1, 2, 3, 4, 5, 6, 7, 8, 9] [] [0, 1, 2, 3, 4, 5, 6, 7, 8, 9] rfl rfl rfl (by decide) (fun _ => rfl) rfl (fun u_12 H locs h_12 hP hD hS => ?_)
    obtain ⟨cs_12, e_12⟩ : ∃ z, z = u_12 := ⟨_, rfl⟩
    subst e_12
    refine lv_aload_n hx hb d_Model_take_50 rfl (lv_at hl 2 rfl) ?_
    refine lv_aload_n hx hb d_Model_take_51 rfl (lv_at hl 2 rfl) ?_
    refine va_get (D := D) (ci := 5) (v := .int h) (C := R_Model) (T := F_Model) (N := 16) hx hb hts i_Model hown hK hP 0 rfl rfl 12 (by decide) (hts _ k_637) (fun _ h9 => h9) rfl d_Model_take_52 ?_
    refine lv_iload hx hb d_Model_take_55 (lv_at hl 0 rfl) ?_
    refine lv_iconst (v := 2) hx hb d_Model_take_57 rfl ?_
    refine lv_iadd hx hb d_Model_take_58 ?_
    refine W.eq (g2 := F0 m 59 ls [.int 322, .int h, .ref (a 0)]) rfl ?_
    refine lv_iload_n hx hb d_Model_take_59 rfl (lv_at hl 3 rfl) ?_
    refine lv_iconst (v := (-1)) hx hb d_Model_take_60 rfl ?_
    refine xv (wr := []) (W2 := fun u9 => wR a k n h ca tv nx pcs lv u9 x b cl cm so ti pu np) (xV (rest := []) ⟨hx, hb, hml, hown, hts⟩ (c_Model_keep a k n h 322 x0 (-1) h ca tv nx pcs lv cs_12 x b cl cm so ti pu np hn (vp_csr hh (by unfold vp_in; decide))) mw_Model_keep mv_Model_keep k_734 ⟨rfl, rfl, Nat.le_of_ble_eq_true rfl, Nat.le_of_ble_eq_true rfl⟩ hK hP hD hS hA hF [0, 1, 2, 3, 4, 5, 6, 7, 8, 9] [0, 1, 2, 3, 4, 5, 6, 7, 8] rfl rfl rfl 0 5 rfl rfl rfl rfl hl.1 rfl (Nat.le_of_ble_eq_true rfl) d_Model_take_61 ⟨Nat.zero_le _, Nat.zero_le _⟩) hP hD hS hA [0, 1, 2, 3, 4, 5, 6, 7, 8, 9] [] [0, 1, 2, 3, 4, 5, 6, 7, 8, 9] rfl rfl rfl (by decide) (fun _ => rfl) rfl (fun u_13 H locs h_13 hP hD hS => ?_)
    obtain ⟨cs_13, e_13⟩ : ∃ z, z = u_13 := ⟨_, rfl⟩
    subst e_13
    refine lv_aload_n hx hb d_Model_take_64 rfl (lv_at hl 2 rfl) ?_
    refine lv_aload_n hx hb d_Model_take_65 rfl (lv_at hl 2 rfl) ?_
    refine va_get (D := D) (ci := 5) (v := .int h) (C := R_Model) (T := F_Model) (N := 16) hx hb hts i_Model hown hK hP 0 rfl rfl 12 (by decide) (hts _ k_637) (fun _ h9 => h9) rfl d_Model_take_66 ?_
    refine lv_iload hx hb d_Model_take_69 (lv_at hl 0 rfl) ?_
    refine lv_iconst (v := 3) hx hb d_Model_take_71 rfl ?_
    refine lv_iadd hx hb d_Model_take_72 ?_
    refine W.eq (g2 := F0 m 73 ls [.int 323, .int h, .ref (a 0)]) rfl ?_
    refine lv_iload_n hx hb d_Model_take_73 rfl (lv_at hl 4 rfl) ?_
    refine lv_iconst (v := (-1)) hx hb d_Model_take_74 rfl ?_
    refine xv (wr := []) (W2 := fun u9 => wR a k n h ca tv nx pcs lv u9 x b cl cm so ti pu np) (xV (rest := []) ⟨hx, hb, hml, hown, hts⟩ (c_Model_keep a k n h 323 x1 (-1) h ca tv nx pcs lv cs_13 x b cl cm so ti pu np hn (vp_csr hh (by unfold vp_in; decide))) mw_Model_keep mv_Model_keep k_734 ⟨rfl, rfl, Nat.le_of_ble_eq_true rfl, Nat.le_of_ble_eq_true rfl⟩ hK hP hD hS hA hF [0, 1, 2, 3, 4, 5, 6, 7, 8, 9] [0, 1, 2, 3, 4, 5, 6, 7, 8] rfl rfl rfl 0 5 rfl rfl rfl rfl hl.1 rfl (Nat.le_of_ble_eq_true rfl) d_Model_take_75 ⟨Nat.zero_le _, Nat.zero_le _⟩) hP hD hS hA [0, 1, 2, 3, 4, 5, 6, 7, 8, 9] [] [0, 1, 2, 3, 4, 5, 6, 7, 8, 9] rfl rfl rfl (by decide) (fun _ => rfl) rfl (fun u_14 H locs h_14 hP hD hS => ?_)
    obtain ⟨cs_14, e_14⟩ : ∃ z, z = u_14 := ⟨_, rfl⟩
    subst e_14
    refine lv_iload_n hx hb d_Model_take_78 rfl (lv_at hl 5 rfl) ?_
    refine lv_if_eq (tgt := 91) hx hb d_Model_take_79 (by decide) (fun h9 => absurd h9 c_2) (fun _ => ?_)
    refine lv_iload hx hb d_Model_take_82 (lv_at hl 1 rfl) ?_
    refine lv_iconst (v := 1) hx hb d_Model_take_84 rfl ?_
    refine y_ishr hx hb d_Model_take_85 ?_
    refine lv_iconst (v := 1) hx hb d_Model_take_86 rfl ?_
    refine lv_iand hx hb d_Model_take_87 ?_
    refine lv_goto (tgt := 97) hx hb d_Model_take_88 (by decide) ?_
    refine lv_istore (lv' := [(6, .int ((shr (sp_Model_raw h 768 cs) 1) &&& 1)), (5, .int 320), (4, .int (sp_Model_raw h 768 cs)), (0, .ref (a 0)), (1, .int x0), (2, .int x1), (3, .int x2)]) hx hb d_Model_take_97 hl (by decide) rfl (fun ls hl => ?_)
    refine lv_iload_n hx hb d_Model_take_99 rfl (lv_at hl 6 rfl) ?_
    refine lv_if_eq (tgt := 145) hx hb d_Model_take_100 (by decide) (fun h9 => absurd h9 c_2) (fun _ => ?_)
    refine lv_aload_n hx hb d_Model_take_103 rfl (lv_at hl 3 rfl) ?_
    refine lv_aload_n hx hb d_Model_take_104 rfl (lv_at hl 3 rfl) ?_
    refine va_get (D := D) (ci := 5) (v := .int h) (C := R_Model) (T := F_Model) (N := 16) hx hb hts i_Model hown hK hP 0 rfl rfl 12 (by decide) (hts _ k_637) (fun _ h9 => h9) rfl d_Model_take_105 ?_
    refine lv_sipush (v := 768) hx hb d_Model_take_108 rfl ?_
    refine lv_aload_n hx hb d_Model_take_111 rfl (lv_at hl 3 rfl) ?_
    refine va_get (D := D) (ci := 5) (v := .ref (a 4)) (C := R_Model) (T := F_Model) (N := 16) hx hb hts i_Model hown hK hP 0 rfl rfl 4 (by decide) (hts _ k_629) (fun _ h9 => h9) rfl d_Model_take_112 ?_
    refine lv_aload_n hx hb d_Model_take_115 rfl (lv_at hl 3 rfl) ?_
    refine va_get (D := D) (ci := 5) (v := .int h) (C := R_Model) (T := F_Model) (N := 16) hx hb hts i_Model hown hK hP 0 rfl rfl 12 (by decide) (hts _ k_637) (fun _ h9 => h9) rfl d_Model_take_116 ?_
    refine y_iald (v := lv h.toNatClampNeg) hx hb hK hP 4 3 rfl rfl (vp_01 hh (by decide)) rfl d_Model_take_119 ?_
    refine lv_iconst (v := 1) hx hb d_Model_take_120 rfl ?_
    refine lv_icmp_ne (tgt := 130) hx hb d_Model_take_121 (by decide) (fun c_17 => ?_) (fun c_17 => ?_)
    · refine lv_iconst (v := 0) hx hb d_Model_take_130 rfl ?_
      refine lv_iload hx hb d_Model_take_131 (lv_at hl 0 rfl) ?_
      refine lv_iconst (v := 5) hx hb d_Model_take_133 rfl ?_
      refine y_ishl hx hb d_Model_take_134 ?_
      refine lv_ior hx hb d_Model_take_135 ?_
      refine lv_sipush (v := 290) hx hb d_Model_take_136 rfl ?_
      refine xv (wr := []) (W2 := fun u9 => wR a k n h ca tv nx pcs lv u9 x b cl cm so ti pu np) (xV (rest := []) ⟨hx, hb, hml, hown, hts⟩ (c_Model_keep a k n h 768 (0 ||| (shl ((shr (sp_Model_raw h 768 cs) 1) &&& 1) 5)) 290 h ca tv nx pcs lv cs_14 x b cl cm so ti pu np hn (vp_csr hh (by unfold vp_in; decide))) mw_Model_keep mv_Model_keep k_734 ⟨rfl, rfl, Nat.le_of_ble_eq_true rfl, Nat.le_of_ble_eq_true rfl⟩ hK hP hD hS hA hF [0, 1, 2, 3, 4, 5, 6, 7, 8, 9] [0, 1, 2, 3, 4, 5, 6, 7, 8] rfl rfl rfl 0 5 rfl rfl rfl rfl hl.1 rfl (Nat.le_of_ble_eq_true rfl) d_Model_take_139 ⟨Nat.zero_le _, Nat.zero_le _⟩) hP hD hS hA [0, 1, 2, 3, 4, 5, 6, 7, 8, 9] [] [0, 1, 2, 3, 4, 5, 6, 7, 8, 9] rfl rfl rfl (by decide) (fun _ => rfl) rfl (fun u_18 H locs h_18 hP hD hS => ?_)
      obtain ⟨cs_18, e_18⟩ : ∃ z, z = u_18 := ⟨_, rfl⟩
      subst e_18
      refine lv_goto (tgt := 177) hx hb d_Model_take_142 (by decide) ?_
      refine lv_aload_n hx hb d_Model_take_177 rfl (lv_at hl 3 rfl) ?_
      refine va_get (D := D) (ci := 5) (v := .ref (a 3)) (C := R_Model) (T := F_Model) (N := 16) hx hb hts i_Model hown hK hP 0 rfl rfl 3 (by decide) (hts _ k_628) (fun _ h9 => h9) rfl d_Model_take_178 ?_
      refine lv_aload_n hx hb d_Model_take_181 rfl (lv_at hl 3 rfl) ?_
      refine va_get (D := D) (ci := 5) (v := .int h) (C := R_Model) (T := F_Model) (N := 16) hx hb hts i_Model hown hK hP 0 rfl rfl 12 (by decide) (hts _ k_637) (fun _ h9 => h9) rfl d_Model_take_182 ?_
      refine lv_aload_n hx hb d_Model_take_185 rfl (lv_at hl 3 rfl) ?_
      refine lv_aload_n hx hb d_Model_take_186 rfl (lv_at hl 3 rfl) ?_
      refine va_get (D := D) (ci := 5) (v := .int h) (C := R_Model) (T := F_Model) (N := 16) hx hb hts i_Model hown hK hP 0 rfl rfl 12 (by decide) (hts _ k_637) (fun _ h9 => h9) rfl d_Model_take_187 ?_
      refine lv_iload_n hx hb d_Model_take_190 rfl (lv_at hl 6 rfl) ?_
      refine lv_if_eq (tgt := 200) hx hb d_Model_take_191 (by decide) (fun h9 => absurd h9 c_2) (fun _ => ?_)
      refine lv_sipush (v := 261) hx hb d_Model_take_194 rfl ?_
      refine lv_goto (tgt := 203) hx hb d_Model_take_197 (by decide) ?_
      refine xi (wr := []) (W2 := fun _ => wR a k n h ca tv nx pcs lv cs_18 x b cl cm so ti pu np) (xV (rest := [.int h, .ref (a 3)]) ⟨hx, hb, hml, hown, hts⟩ (c_Model_raw a k n h 261 h ca tv nx pcs lv cs_18 x b cl cm so ti pu np hn (vp_csr hh (by unfold vp_in; decide))) mw_Model_raw mv_Model_raw k_714 ⟨rfl, rfl, Nat.le_of_ble_eq_true rfl, Nat.le_of_ble_eq_true rfl⟩ hK hP hD hS hA hF [0, 1, 2, 3, 4, 5, 6, 7, 8, 9] [0, 1, 2, 3, 4, 5, 6, 7, 8] rfl rfl rfl 0 5 rfl rfl rfl rfl hl.1 rfl (Nat.le_of_ble_eq_true rfl) d_Model_take_203 ⟨Nat.zero_le _, Nat.zero_le _⟩) hP hD hS hA [0, 1, 2, 3, 4, 5, 6, 7, 8, 9] [] [0, 1, 2, 3, 4, 5, 6, 7, 8, 9] rfl rfl rfl (by decide) (fun _ => rfl) rfl (fun r_20 _ H locs h_20 hP hD hS => ?_)
      subst h_20
      refine y_iast (ws' := wR a k n h ca tv nx (upd pcs h.toNatClampNeg (sp_Model_raw h 261 cs_18)) lv cs_18 x b cl cm so ti pu np) hx hb hK hP hD hS 3 2 rfl rfl (vp_01 hh (by decide)) d_Model_take_206 rfl (fun H locs hP hD hS => ?_)
      refine lv_aload_n hx hb d_Model_take_207 rfl (lv_at hl 3 rfl) ?_
      refine va_get (D := D) (ci := 5) (v := .ref (a 4)) (C := R_Model) (T := F_Model) (N := 16) hx hb hts i_Model hown hK hP 0 rfl rfl 4 (by decide) (hts _ k_629) (fun _ h9 => h9) rfl d_Model_take_208 ?_
      refine lv_aload_n hx hb d_Model_take_211 rfl (lv_at hl 3 rfl) ?_
      refine va_get (D := D) (ci := 5) (v := .int h) (C := R_Model) (T := F_Model) (N := 16) hx hb hts i_Model hown hK hP 0 rfl rfl 12 (by decide) (hts _ k_637) (fun _ h9 => h9) rfl d_Model_take_212 ?_
      refine lv_iload_n hx hb d_Model_take_215 rfl (lv_at hl 6 rfl) ?_
      refine lv_if_eq (tgt := 223) hx hb d_Model_take_216 (by decide) (fun h9 => absurd h9 c_2) (fun _ => ?_)
      refine lv_iconst (v := 1) hx hb d_Model_take_219 rfl ?_
      refine lv_goto (tgt := 224) hx hb d_Model_take_220 (by decide) ?_
      refine y_iast (ws' := wR a k n h ca tv nx (upd pcs h.toNatClampNeg (sp_Model_raw h 261 cs_18)) (upd lv h.toNatClampNeg 1) cs_18 x b cl cm so ti pu np) hx hb hK hP hD hS 4 3 rfl rfl (vp_01 hh (by decide)) d_Model_take_224 rfl (fun H locs hP hD hS => ?_)
      refine lv_aload_n hx hb d_Model_take_225 rfl (lv_at hl 3 rfl) ?_
      refine va_get (D := D) (ci := 5) (v := .ref (a 6)) (C := R_Model) (T := F_Model) (N := 16) hx hb hts i_Model hown hK hP 0 rfl rfl 6 (by decide) (hts _ k_631) (fun _ h9 => h9) rfl d_Model_take_226 ?_
      refine lv_iconst (v := 0) hx hb d_Model_take_229 rfl ?_
      refine lv_iconst (v := (-1)) hx hb d_Model_take_230 rfl ?_
      refine y_iast (ws' := wR a k n h ca tv nx (upd pcs h.toNatClampNeg (sp_Model_raw h 261 cs_18)) (upd lv h.toNatClampNeg 1) cs_18 x b (upd cl 0 (-1)) cm so ti pu np) hx hb hK hP hD hS 6 5 rfl rfl (by unfold vp_in; decide) d_Model_take_231 rfl (fun H locs hP hD hS => ?_)
      refine lv_aload_n hx hb d_Model_take_232 rfl (lv_at hl 3 rfl) ?_
      refine va_get (D := D) (ci := 5) (v := .ref (a 6)) (C := R_Model) (T := F_Model) (N := 16) hx hb hts i_Model hown hK hP 0 rfl rfl 6 (by decide) (hts _ k_631) (fun _ h9 => h9) rfl d_Model_take_233 ?_
      refine lv_iconst (v := 1) hx hb d_Model_take_236 rfl ?_
      refine lv_iconst (v := (-1)) hx hb d_Model_take_237 rfl ?_
      refine y_iast (ws' := wR a k n h ca tv nx (upd pcs h.toNatClampNeg (sp_Model_raw h 261 cs_18)) (upd lv h.toNatClampNeg 1) cs_18 x b (upd (upd cl 0 (-1)) 1 (-1)) cm so ti pu np) hx hb hK hP hD hS 6 5 rfl rfl (by unfold vp_in; decide) d_Model_take_238 rfl (fun H locs hP hD hS => ?_)
      exact rv ((upd pcs h.toNatClampNeg (sp_Model_raw h 261 cs_18)), (upd lv h.toNatClampNeg 1), cs_18, (upd (upd cl 0 (-1)) 1 (-1))) hx hb hr hlocks hP hD hS d_Model_take_239 (by simp only [sp_Model_take, h_12, h_13, h_14, h_18, if_neg c_2, if_neg c_17])
    · refine lv_sipush (v := 256) hx hb d_Model_take_124 rfl ?_
      refine lv_goto (tgt := 131) hx hb d_Model_take_127 (by decide) ?_
      refine lv_iload hx hb d_Model_take_131 (lv_at hl 0 rfl) ?_
      refine lv_iconst (v := 5) hx hb d_Model_take_133 rfl ?_
      refine y_ishl hx hb d_Model_take_134 ?_
      refine lv_ior hx hb d_Model_take_135 ?_
      refine lv_sipush (v := 290) hx hb d_Model_take_136 rfl ?_
      refine xv (wr := []) (W2 := fun u9 => wR a k n h ca tv nx pcs lv u9 x b cl cm so ti pu np) (xV (rest := []) ⟨hx, hb, hml, hown, hts⟩ (c_Model_keep a k n h 768 (256 ||| (shl ((shr (sp_Model_raw h 768 cs) 1) &&& 1) 5)) 290 h ca tv nx pcs lv cs_14 x b cl cm so ti pu np hn (vp_csr hh (by unfold vp_in; decide))) mw_Model_keep mv_Model_keep k_734 ⟨rfl, rfl, Nat.le_of_ble_eq_true rfl, Nat.le_of_ble_eq_true rfl⟩ hK hP hD hS hA hF [0, 1, 2, 3, 4, 5, 6, 7, 8, 9] [0, 1, 2, 3, 4, 5, 6, 7, 8] rfl rfl rfl 0 5 rfl rfl rfl rfl hl.1 rfl (Nat.le_of_ble_eq_true rfl) d_Model_take_139 ⟨Nat.zero_le _, Nat.zero_le _⟩) hP hD hS hA [0, 1, 2, 3, 4, 5, 6, 7, 8, 9] [] [0, 1, 2, 3, 4, 5, 6, 7, 8, 9] rfl rfl rfl (by decide) (fun _ => rfl) rfl (fun u_22 H locs h_22 hP hD hS => ?_)
      obtain ⟨cs_22, e_22⟩ : ∃ z, z = u_22 := ⟨_, rfl⟩
      subst e_22
      refine lv_goto (tgt := 177) hx hb d_Model_take_142 (by decide) ?_
      refine lv_aload_n hx hb d_Model_take_177 rfl (lv_at hl 3 rfl) ?_
      refine va_get (D := D) (ci := 5) (v := .ref (a 3)) (C := R_Model) (T := F_Model) (N := 16) hx hb hts i_Model hown hK hP 0 rfl rfl 3 (by decide) (hts _ k_628) (fun _ h9 => h9) rfl d_Model_take_178 ?_
      refine lv_aload_n hx hb d_Model_take_181 rfl (lv_at hl 3 rfl) ?_
      refine va_get (D := D) (ci := 5) (v := .int h) (C := R_Model) (T := F_Model) (N := 16) hx hb hts i_Model hown hK hP 0 rfl rfl 12 (by decide) (hts _ k_637) (fun _ h9 => h9) rfl d_Model_take_182 ?_
      refine lv_aload_n hx hb d_Model_take_185 rfl (lv_at hl 3 rfl) ?_
      refine lv_aload_n hx hb d_Model_take_186 rfl (lv_at hl 3 rfl) ?_
      refine va_get (D := D) (ci := 5) (v := .int h) (C := R_Model) (T := F_Model) (N := 16) hx hb hts i_Model hown hK hP 0 rfl rfl 12 (by decide) (hts _ k_637) (fun _ h9 => h9) rfl d_Model_take_187 ?_
      refine lv_iload_n hx hb d_Model_take_190 rfl (lv_at hl 6 rfl) ?_
      refine lv_if_eq (tgt := 200) hx hb d_Model_take_191 (by decide) (fun h9 => absurd h9 c_2) (fun _ => ?_)
      refine lv_sipush (v := 261) hx hb d_Model_take_194 rfl ?_
      refine lv_goto (tgt := 203) hx hb d_Model_take_197 (by decide) ?_
      refine xi (wr := []) (W2 := fun _ => wR a k n h ca tv nx pcs lv cs_22 x b cl cm so ti pu np) (xV (rest := [.int h, .ref (a 3)]) ⟨hx, hb, hml, hown, hts⟩ (c_Model_raw a k n h 261 h ca tv nx pcs lv cs_22 x b cl cm so ti pu np hn (vp_csr hh (by unfold vp_in; decide))) mw_Model_raw mv_Model_raw k_714 ⟨rfl, rfl, Nat.le_of_ble_eq_true rfl, Nat.le_of_ble_eq_true rfl⟩ hK hP hD hS hA hF [0, 1, 2, 3, 4, 5, 6, 7, 8, 9] [0, 1, 2, 3, 4, 5, 6, 7, 8] rfl rfl rfl 0 5 rfl rfl rfl rfl hl.1 rfl (Nat.le_of_ble_eq_true rfl) d_Model_take_203 ⟨Nat.zero_le _, Nat.zero_le _⟩) hP hD hS hA [0, 1, 2, 3, 4, 5, 6, 7, 8, 9] [] [0, 1, 2, 3, 4, 5, 6, 7, 8, 9] rfl rfl rfl (by decide) (fun _ => rfl) rfl (fun r_24 _ H locs h_24 hP hD hS => ?_)
      subst h_24
      refine y_iast (ws' := wR a k n h ca tv nx (upd pcs h.toNatClampNeg (sp_Model_raw h 261 cs_22)) lv cs_22 x b cl cm so ti pu np) hx hb hK hP hD hS 3 2 rfl rfl (vp_01 hh (by decide)) d_Model_take_206 rfl (fun H locs hP hD hS => ?_)
      refine lv_aload_n hx hb d_Model_take_207 rfl (lv_at hl 3 rfl) ?_
      refine va_get (D := D) (ci := 5) (v := .ref (a 4)) (C := R_Model) (T := F_Model) (N := 16) hx hb hts i_Model hown hK hP 0 rfl rfl 4 (by decide) (hts _ k_629) (fun _ h9 => h9) rfl d_Model_take_208 ?_
      refine lv_aload_n hx hb d_Model_take_211 rfl (lv_at hl 3 rfl) ?_
      refine va_get (D := D) (ci := 5) (v := .int h) (C := R_Model) (T := F_Model) (N := 16) hx hb hts i_Model hown hK hP 0 rfl rfl 12 (by decide) (hts _ k_637) (fun _ h9 => h9) rfl d_Model_take_212 ?_
      refine lv_iload_n hx hb d_Model_take_215 rfl (lv_at hl 6 rfl) ?_
      refine lv_if_eq (tgt := 223) hx hb d_Model_take_216 (by decide) (fun h9 => absurd h9 c_2) (fun _ => ?_)
      refine lv_iconst (v := 1) hx hb d_Model_take_219 rfl ?_
      refine lv_goto (tgt := 224) hx hb d_Model_take_220 (by decide) ?_
      refine y_iast (ws' := wR a k n h ca tv nx (upd pcs h.toNatClampNeg (sp_Model_raw h 261 cs_22)) (upd lv h.toNatClampNeg 1) cs_22 x b cl cm so ti pu np) hx hb hK hP hD hS 4 3 rfl rfl (vp_01 hh (by decide)) d_Model_take_224 rfl (fun H locs hP hD hS => ?_)
      refine lv_aload_n hx hb d_Model_take_225 rfl (lv_at hl 3 rfl) ?_
      refine va_get (D := D) (ci := 5) (v := .ref (a 6)) (C := R_Model) (T := F_Model) (N := 16) hx hb hts i_Model hown hK hP 0 rfl rfl 6 (by decide) (hts _ k_631) (fun _ h9 => h9) rfl d_Model_take_226 ?_
      refine lv_iconst (v := 0) hx hb d_Model_take_229 rfl ?_
      refine lv_iconst (v := (-1)) hx hb d_Model_take_230 rfl ?_
      refine y_iast (ws' := wR a k n h ca tv nx (upd pcs h.toNatClampNeg (sp_Model_raw h 261 cs_22)) (upd lv h.toNatClampNeg 1) cs_22 x b (upd cl 0 (-1)) cm so ti pu np) hx hb hK hP hD hS 6 5 rfl rfl (by unfold vp_in; decide) d_Model_take_231 rfl (fun H locs hP hD hS => ?_)
      refine lv_aload_n hx hb d_Model_take_232 rfl (lv_at hl 3 rfl) ?_
      refine va_get (D := D) (ci := 5) (v := .ref (a 6)) (C := R_Model) (T := F_Model) (N := 16) hx hb hts i_Model hown hK hP 0 rfl rfl 6 (by decide) (hts _ k_631) (fun _ h9 => h9) rfl d_Model_take_233 ?_
      refine lv_iconst (v := 1) hx hb d_Model_take_236 rfl ?_
      refine lv_iconst (v := (-1)) hx hb d_Model_take_237 rfl ?_
      refine y_iast (ws' := wR a k n h ca tv nx (upd pcs h.toNatClampNeg (sp_Model_raw h 261 cs_22)) (upd lv h.toNatClampNeg 1) cs_22 x b (upd (upd cl 0 (-1)) 1 (-1)) cm so ti pu np) hx hb hK hP hD hS 6 5 rfl rfl (by unfold vp_in; decide) d_Model_take_238 rfl (fun H locs hP hD hS => ?_)
      exact rv ((upd pcs h.toNatClampNeg (sp_Model_raw h 261 cs_22)), (upd lv h.toNatClampNeg 1), cs_22, (upd (upd cl 0 (-1)) 1 (-1))) hx hb hr hlocks hP hD hS d_Model_take_239 (by simp only [sp_Model_take, h_12, h_13, h_14, h_22, if_neg c_2, if_pos c_17])
def sp_Model_firstOf (x0 : Int32)  : Int32 :=
  if (x0 &&& 8) = 0 then
    if (x0 &&& 128) = 0 then
      if (x0 &&& 512) = 0 then
        if (x0 &&& 2) = 0 then
          if (x0 &&& 32) = 0 then
            (-1)
          else
            5
        else
          1
      else
        9
    else
      7
  else
    3
set_option maxHeartbeats 4000000 in
set_option maxRecDepth 100000 in
theorem c_Model_firstOf {l : Launch} {D : va_G} {g : Nat → Nat}  (x0 : Int32)   : CT l D g y_Model_firstOf b_Model_firstOf 1 (some .int) (rD 0) [.int x0] [] [] (Qi D (fun (r : Int32) (_ : Unit) => sp_Model_firstOf x0 = r) (fun _ => [])) := by
  refine CT.of rfl (Nat.le_of_ble_eq_true rfl) (fun p e s m below meth c A ls hx hb hr hml hts hown hlocks hA hP hK hD hF hS hl => ?_)
  have hl : lv_has ls 1 [(0, .int x0)] := hl
  refine lv_iload_n hx hb d_Model_firstOf_0 rfl (lv_at hl 0 rfl) ?_
  refine lv_bipush (v := 8) hx hb d_Model_firstOf_1 rfl ?_
  refine lv_iand hx hb d_Model_firstOf_3 ?_
  refine lv_if_eq (tgt := 9) hx hb d_Model_firstOf_4 (by decide) (fun c_1 => ?_) (fun c_1 => ?_)
  · refine lv_iload_n hx hb d_Model_firstOf_9 rfl (lv_at hl 0 rfl) ?_
    refine lv_sipush (v := 128) hx hb d_Model_firstOf_10 rfl ?_
    refine lv_iand hx hb d_Model_firstOf_13 ?_
    refine lv_if_eq (tgt := 20) hx hb d_Model_firstOf_14 (by decide) (fun c_2 => ?_) (fun c_2 => ?_)
    · refine lv_iload_n hx hb d_Model_firstOf_20 rfl (lv_at hl 0 rfl) ?_
      refine lv_sipush (v := 512) hx hb d_Model_firstOf_21 rfl ?_
      refine lv_iand hx hb d_Model_firstOf_24 ?_
      refine lv_if_eq (tgt := 31) hx hb d_Model_firstOf_25 (by decide) (fun c_3 => ?_) (fun c_3 => ?_)
      · refine lv_iload_n hx hb d_Model_firstOf_31 rfl (lv_at hl 0 rfl) ?_
        refine lv_iconst (v := 2) hx hb d_Model_firstOf_32 rfl ?_
        refine lv_iand hx hb d_Model_firstOf_33 ?_
        refine lv_if_eq (tgt := 39) hx hb d_Model_firstOf_34 (by decide) (fun c_4 => ?_) (fun c_4 => ?_)
        · refine lv_iload_n hx hb d_Model_firstOf_39 rfl (lv_at hl 0 rfl) ?_
          refine lv_bipush (v := 32) hx hb d_Model_firstOf_40 rfl ?_
          refine lv_iand hx hb d_Model_firstOf_42 ?_
          refine lv_if_eq (tgt := 50) hx hb d_Model_firstOf_43 (by decide) (fun c_5 => ?_) (fun c_5 => ?_)
          · refine lv_iconst (v := (-1)) hx hb d_Model_firstOf_50 rfl ?_
            exact ri () hx hb hr hlocks hP hD hS d_Model_firstOf_51 (by simp only [sp_Model_firstOf, if_pos c_1, if_pos c_2, if_pos c_3, if_pos c_4, if_pos c_5])
          · refine lv_iconst (v := 5) hx hb d_Model_firstOf_46 rfl ?_
            refine lv_goto (tgt := 51) hx hb d_Model_firstOf_47 (by decide) ?_
            exact ri () hx hb hr hlocks hP hD hS d_Model_firstOf_51 (by simp only [sp_Model_firstOf, if_pos c_1, if_pos c_2, if_pos c_3, if_pos c_4, if_neg c_5])
        · refine lv_iconst (v := 1) hx hb d_Model_firstOf_37 rfl ?_
          exact ri () hx hb hr hlocks hP hD hS d_Model_firstOf_38 (by simp only [sp_Model_firstOf, if_pos c_1, if_pos c_2, if_pos c_3, if_neg c_4])
      · refine lv_bipush (v := 9) hx hb d_Model_firstOf_28 rfl ?_
        exact ri () hx hb hr hlocks hP hD hS d_Model_firstOf_30 (by simp only [sp_Model_firstOf, if_pos c_1, if_pos c_2, if_neg c_3])
    · refine lv_bipush (v := 7) hx hb d_Model_firstOf_17 rfl ?_
      exact ri () hx hb hr hlocks hP hD hS d_Model_firstOf_19 (by simp only [sp_Model_firstOf, if_pos c_1, if_neg c_2])
  · refine lv_iconst (v := 3) hx hb d_Model_firstOf_7 rfl ?_
    exact ri () hx hb hr hlocks hP hD hS d_Model_firstOf_8 (by simp only [sp_Model_firstOf, if_neg c_1])
def sp_Model_interrupt  (h : Int32) (pcs : Nat → Int32) (lv : Nat → Int32) (cs : Nat → Int32) (cl : Nat → Int32) (cm : Nat → Int64) (so : Nat → Int32) (ti : Int64) : Int32 × (Nat → Int32) × (Nat → Int32) × (Nat → Int32) × (Nat → Int32) :=
  if (sp_Model_firstOf (((sp_Model_read h 836 cs cm so ti) &&& (sp_Model_raw h 772 cs)) &&& ((sp_Model_raw h 771 cs) ^^^ (-1)))) < 0 then
    if (sp_Model_firstOf (((sp_Model_read h 836 cs cm so ti) &&& (sp_Model_raw h 772 cs)) &&& (sp_Model_raw h 771 cs))) < 0 then
      ((-1), (pcs, lv, cs, cl))
    else
      if 1 < (lv h.toNatClampNeg) then
        ((-1), (pcs, lv, cs, cl))
      else
        if (lv h.toNatClampNeg) = 1 then
          if (sp_Model_has 2 h cs) = 0 then
            ((-1), (pcs, lv, cs, cl))
          else
            let pcs_14 := (sp_Model_take ((sp_Model_firstOf (((sp_Model_read h 836 cs cm so ti) &&& (sp_Model_raw h 772 cs)) &&& (sp_Model_raw h 771 cs))) ||| (-2147483648)) 0 1 h pcs lv cs cl).1
            let lv_14 := (sp_Model_take ((sp_Model_firstOf (((sp_Model_read h 836 cs cm so ti) &&& (sp_Model_raw h 772 cs)) &&& (sp_Model_raw h 771 cs))) ||| (-2147483648)) 0 1 h pcs lv cs cl).2.1
            let cs_14 := (sp_Model_take ((sp_Model_firstOf (((sp_Model_read h 836 cs cm so ti) &&& (sp_Model_raw h 772 cs)) &&& (sp_Model_raw h 771 cs))) ||| (-2147483648)) 0 1 h pcs lv cs cl).2.2.1
            let cl_14 := (sp_Model_take ((sp_Model_firstOf (((sp_Model_read h 836 cs cm so ti) &&& (sp_Model_raw h 772 cs)) &&& (sp_Model_raw h 771 cs))) ||| (-2147483648)) 0 1 h pcs lv cs cl).2.2.2
            (sp_Model_firstOf (((sp_Model_read h 836 cs cm so ti) &&& (sp_Model_raw h 772 cs)) &&& (sp_Model_raw h 771 cs)), (pcs_14, lv_14, cs_14, cl_14))
        else
          let pcs_11 := (sp_Model_take ((sp_Model_firstOf (((sp_Model_read h 836 cs cm so ti) &&& (sp_Model_raw h 772 cs)) &&& (sp_Model_raw h 771 cs))) ||| (-2147483648)) 0 1 h pcs lv cs cl).1
          let lv_11 := (sp_Model_take ((sp_Model_firstOf (((sp_Model_read h 836 cs cm so ti) &&& (sp_Model_raw h 772 cs)) &&& (sp_Model_raw h 771 cs))) ||| (-2147483648)) 0 1 h pcs lv cs cl).2.1
          let cs_11 := (sp_Model_take ((sp_Model_firstOf (((sp_Model_read h 836 cs cm so ti) &&& (sp_Model_raw h 772 cs)) &&& (sp_Model_raw h 771 cs))) ||| (-2147483648)) 0 1 h pcs lv cs cl).2.2.1
          let cl_11 := (sp_Model_take ((sp_Model_firstOf (((sp_Model_read h 836 cs cm so ti) &&& (sp_Model_raw h 772 cs)) &&& (sp_Model_raw h 771 cs))) ||| (-2147483648)) 0 1 h pcs lv cs cl).2.2.2
          (sp_Model_firstOf (((sp_Model_read h 836 cs cm so ti) &&& (sp_Model_raw h 772 cs)) &&& (sp_Model_raw h 771 cs)), (pcs_11, lv_11, cs_11, cl_11))
  else
    if (lv h.toNatClampNeg) < 3 then
      let pcs_16 := (sp_Model_take ((sp_Model_firstOf (((sp_Model_read h 836 cs cm so ti) &&& (sp_Model_raw h 772 cs)) &&& ((sp_Model_raw h 771 cs) ^^^ (-1)))) ||| (-2147483648)) 0 0 h pcs lv cs cl).1
      let lv_16 := (sp_Model_take ((sp_Model_firstOf (((sp_Model_read h 836 cs cm so ti) &&& (sp_Model_raw h 772 cs)) &&& ((sp_Model_raw h 771 cs) ^^^ (-1)))) ||| (-2147483648)) 0 0 h pcs lv cs cl).2.1
      let cs_16 := (sp_Model_take ((sp_Model_firstOf (((sp_Model_read h 836 cs cm so ti) &&& (sp_Model_raw h 772 cs)) &&& ((sp_Model_raw h 771 cs) ^^^ (-1)))) ||| (-2147483648)) 0 0 h pcs lv cs cl).2.2.1
      let cl_16 := (sp_Model_take ((sp_Model_firstOf (((sp_Model_read h 836 cs cm so ti) &&& (sp_Model_raw h 772 cs)) &&& ((sp_Model_raw h 771 cs) ^^^ (-1)))) ||| (-2147483648)) 0 0 h pcs lv cs cl).2.2.2
      (sp_Model_firstOf (((sp_Model_read h 836 cs cm so ti) &&& (sp_Model_raw h 772 cs)) &&& ((sp_Model_raw h 771 cs) ^^^ (-1))), (pcs_16, lv_16, cs_16, cl_16))
    else
      if (sp_Model_has 8 h cs) = 0 then
        if (sp_Model_firstOf (((sp_Model_read h 836 cs cm so ti) &&& (sp_Model_raw h 772 cs)) &&& (sp_Model_raw h 771 cs))) < 0 then
          ((-1), (pcs, lv, cs, cl))
        else
          if 1 < (lv h.toNatClampNeg) then
            ((-1), (pcs, lv, cs, cl))
          else
            if (lv h.toNatClampNeg) = 1 then
              if (sp_Model_has 2 h cs) = 0 then
                ((-1), (pcs, lv, cs, cl))
              else
                let pcs_27 := (sp_Model_take ((sp_Model_firstOf (((sp_Model_read h 836 cs cm so ti) &&& (sp_Model_raw h 772 cs)) &&& (sp_Model_raw h 771 cs))) ||| (-2147483648)) 0 1 h pcs lv cs cl).1
                let lv_27 := (sp_Model_take ((sp_Model_firstOf (((sp_Model_read h 836 cs cm so ti) &&& (sp_Model_raw h 772 cs)) &&& (sp_Model_raw h 771 cs))) ||| (-2147483648)) 0 1 h pcs lv cs cl).2.1
                let cs_27 := (sp_Model_take ((sp_Model_firstOf (((sp_Model_read h 836 cs cm so ti) &&& (sp_Model_raw h 772 cs)) &&& (sp_Model_raw h 771 cs))) ||| (-2147483648)) 0 1 h pcs lv cs cl).2.2.1
                let cl_27 := (sp_Model_take ((sp_Model_firstOf (((sp_Model_read h 836 cs cm so ti) &&& (sp_Model_raw h 772 cs)) &&& (sp_Model_raw h 771 cs))) ||| (-2147483648)) 0 1 h pcs lv cs cl).2.2.2
                (sp_Model_firstOf (((sp_Model_read h 836 cs cm so ti) &&& (sp_Model_raw h 772 cs)) &&& (sp_Model_raw h 771 cs)), (pcs_27, lv_27, cs_27, cl_27))
            else
              let pcs_24 := (sp_Model_take ((sp_Model_firstOf (((sp_Model_read h 836 cs cm so ti) &&& (sp_Model_raw h 772 cs)) &&& (sp_Model_raw h 771 cs))) ||| (-2147483648)) 0 1 h pcs lv cs cl).1
              let lv_24 := (sp_Model_take ((sp_Model_firstOf (((sp_Model_read h 836 cs cm so ti) &&& (sp_Model_raw h 772 cs)) &&& (sp_Model_raw h 771 cs))) ||| (-2147483648)) 0 1 h pcs lv cs cl).2.1
              let cs_24 := (sp_Model_take ((sp_Model_firstOf (((sp_Model_read h 836 cs cm so ti) &&& (sp_Model_raw h 772 cs)) &&& (sp_Model_raw h 771 cs))) ||| (-2147483648)) 0 1 h pcs lv cs cl).2.2.1
              let cl_24 := (sp_Model_take ((sp_Model_firstOf (((sp_Model_read h 836 cs cm so ti) &&& (sp_Model_raw h 772 cs)) &&& (sp_Model_raw h 771 cs))) ||| (-2147483648)) 0 1 h pcs lv cs cl).2.2.2
              (sp_Model_firstOf (((sp_Model_read h 836 cs cm so ti) &&& (sp_Model_raw h 772 cs)) &&& (sp_Model_raw h 771 cs)), (pcs_24, lv_24, cs_24, cl_24))
      else
        let pcs_28 := (sp_Model_take ((sp_Model_firstOf (((sp_Model_read h 836 cs cm so ti) &&& (sp_Model_raw h 772 cs)) &&& ((sp_Model_raw h 771 cs) ^^^ (-1)))) ||| (-2147483648)) 0 0 h pcs lv cs cl).1
        let lv_28 := (sp_Model_take ((sp_Model_firstOf (((sp_Model_read h 836 cs cm so ti) &&& (sp_Model_raw h 772 cs)) &&& ((sp_Model_raw h 771 cs) ^^^ (-1)))) ||| (-2147483648)) 0 0 h pcs lv cs cl).2.1
        let cs_28 := (sp_Model_take ((sp_Model_firstOf (((sp_Model_read h 836 cs cm so ti) &&& (sp_Model_raw h 772 cs)) &&& ((sp_Model_raw h 771 cs) ^^^ (-1)))) ||| (-2147483648)) 0 0 h pcs lv cs cl).2.2.1
        let cl_28 := (sp_Model_take ((sp_Model_firstOf (((sp_Model_read h 836 cs cm so ti) &&& (sp_Model_raw h 772 cs)) &&& ((sp_Model_raw h 771 cs) ^^^ (-1)))) ||| (-2147483648)) 0 0 h pcs lv cs cl).2.2.2
        (sp_Model_firstOf (((sp_Model_read h 836 cs cm so ti) &&& (sp_Model_raw h 772 cs)) &&& ((sp_Model_raw h 771 cs) ^^^ (-1))), (pcs_28, lv_28, cs_28, cl_28))
set_option maxHeartbeats 4000000 in
set_option maxRecDepth 100000 in
theorem c_Model_interrupt {l : Launch} {D : va_G} {g : Nat → Nat} (a : Nat → Nat) (k : Nat → ClassId) (n : Nat)  (h ca tv nx : Int32) (pcs lv cs x b cl : Nat → Int32) (cm : Nat → Int64) (so : Nat → Int32) (ti : Int64) (pu : Nat → Int32) (np : Int32) (hn : n ≤ 4096) (hh : h = 0 ∨ h = 1) : CT l D g y_Model_interrupt b_Model_interrupt 4 (some .int) (rD 3) [.ref (a 0)] (wR a k n h ca tv nx pcs lv cs x b cl cm so ti pu np) (tyR k) (Qi D (fun (r : Int32) (u : (Nat → Int32) × (Nat → Int32) × (Nat → Int32) × (Nat → Int32)) => sp_Model_interrupt h pcs lv cs cl cm so ti = (r, u)) (fun u => wR a k n h ca tv nx u.1 u.2.1 u.2.2.1 x b u.2.2.2 cm so ti pu np)) := by
  refine CT.of rfl (Nat.le_of_ble_eq_true rfl) (fun p e s m below meth c A ls hx hb hr hml hts hown hlocks hA hP hK hD hF hS hl => ?_)
  have hl : lv_has ls 4 [(0, .ref (a 0))] := hl
  refine lv_aload_n hx hb d_Model_interrupt_0 rfl (lv_at hl 0 rfl) ?_
  refine lv_aload_n hx hb d_Model_interrupt_1 rfl (lv_at hl 0 rfl) ?_
  refine va_get (D := D) (ci := 5) (v := .int h) (C := R_Model) (T := F_Model) (N := 16) hx hb hts i_Model hown hK hP 0 rfl rfl 12 (by decide) (hts _ k_637) (fun _ h9 => h9) rfl d_Model_interrupt_2 ?_
  refine lv_sipush (v := 836) hx hb d_Model_interrupt_5 rfl ?_
  refine xi (wr := []) (W2 := fun _ => wR a k n h ca tv nx pcs lv cs x b cl cm so ti pu np) (xV (rest := []) ⟨hx, hb, hml, hown, hts⟩ (c_Model_read a k n h 836 h ca tv nx pcs lv cs x b cl cm so ti pu np hn hh (by unfold vp_in; decide)) mw_Model_read mv_Model_read k_709 ⟨rfl, rfl, Nat.le_of_ble_eq_true rfl, Nat.le_of_ble_eq_true rfl⟩ hK hP hD hS hA hF [0, 1, 2, 3, 4, 5, 6, 7, 8, 9] [0, 1, 2, 3, 4, 5, 6, 7, 8] rfl rfl rfl 0 5 rfl rfl rfl rfl hl.1 rfl (Nat.le_of_ble_eq_true rfl) d_Model_interrupt_8 ⟨Nat.zero_le _, Nat.zero_le _⟩) hP hD hS hA [0, 1, 2, 3, 4, 5, 6, 7, 8, 9] [] [0, 1, 2, 3, 4, 5, 6, 7, 8, 9] rfl rfl rfl (by decide) (fun _ => rfl) rfl (fun r_1 _ H locs h_1 hP hD hS => ?_)
  subst h_1
  refine lv_aload_n hx hb d_Model_interrupt_11 rfl (lv_at hl 0 rfl) ?_
  refine lv_aload_n hx hb d_Model_interrupt_12 rfl (lv_at hl 0 rfl) ?_
  refine va_get (D := D) (ci := 5) (v := .int h) (C := R_Model) (T := F_Model) (N := 16) hx hb hts i_Model hown hK hP 0 rfl rfl 12 (by decide) (hts _ k_637) (fun _ h9 => h9) rfl d_Model_interrupt_13 ?_
  refine lv_sipush (v := 772) hx hb d_Model_interrupt_16 rfl ?_
  refine xi (wr := []) (W2 := fun _ => wR a k n h ca tv nx pcs lv cs x b cl cm so ti pu np) (xV (rest := [.int (sp_Model_read h 836 cs cm so ti)]) ⟨hx, hb, hml, hown, hts⟩ (c_Model_raw a k n h 772 h ca tv nx pcs lv cs x b cl cm so ti pu np hn (vp_csr hh (by unfold vp_in; decide))) mw_Model_raw mv_Model_raw k_714 ⟨rfl, rfl, Nat.le_of_ble_eq_true rfl, Nat.le_of_ble_eq_true rfl⟩ hK hP hD hS hA hF [0, 1, 2, 3, 4, 5, 6, 7, 8, 9] [0, 1, 2, 3, 4, 5, 6, 7, 8] rfl rfl rfl 0 5 rfl rfl rfl rfl hl.1 rfl (Nat.le_of_ble_eq_true rfl) d_Model_interrupt_19 ⟨Nat.zero_le _, Nat.zero_le _⟩) hP hD hS hA [0, 1, 2, 3, 4, 5, 6, 7, 8, 9] [] [0, 1, 2, 3, 4, 5, 6, 7, 8, 9] rfl rfl rfl (by decide) (fun _ => rfl) rfl (fun r_2 _ H locs h_2 hP hD hS => ?_)
  subst h_2
  refine lv_iand hx hb d_Model_interrupt_22 ?_
  refine lv_istore_n (lv' := [(1, .int ((sp_Model_read h 836 cs cm so ti) &&& (sp_Model_raw h 772 cs))), (0, .ref (a 0))]) hx hb d_Model_interrupt_23 rfl hl (by decide) rfl (fun ls hl => ?_)
  refine lv_iload_n hx hb d_Model_interrupt_24 rfl (lv_at hl 0 rfl) ?_
  refine lv_aload_n hx hb d_Model_interrupt_25 rfl (lv_at hl 1 rfl) ?_
  refine lv_aload_n hx hb d_Model_interrupt_26 rfl (lv_at hl 1 rfl) ?_
  refine va_get (D := D) (ci := 5) (v := .int h) (C := R_Model) (T := F_Model) (N := 16) hx hb hts i_Model hown hK hP 0 rfl rfl 12 (by decide) (hts _ k_637) (fun _ h9 => h9) rfl d_Model_interrupt_27 ?_
  refine lv_sipush (v := 771) hx hb d_Model_interrupt_30 rfl ?_
  refine xi (wr := []) (W2 := fun _ => wR a k n h ca tv nx pcs lv cs x b cl cm so ti pu np) (xV (rest := [.int ((sp_Model_read h 836 cs cm so ti) &&& (sp_Model_raw h 772 cs))]) ⟨hx, hb, hml, hown, hts⟩ (c_Model_raw a k n h 771 h ca tv nx pcs lv cs x b cl cm so ti pu np hn (vp_csr hh (by unfold vp_in; decide))) mw_Model_raw mv_Model_raw k_714 ⟨rfl, rfl, Nat.le_of_ble_eq_true rfl, Nat.le_of_ble_eq_true rfl⟩ hK hP hD hS hA hF [0, 1, 2, 3, 4, 5, 6, 7, 8, 9] [0, 1, 2, 3, 4, 5, 6, 7, 8] rfl rfl rfl 0 5 rfl rfl rfl rfl hl.1 rfl (Nat.le_of_ble_eq_true rfl) d_Model_interrupt_33 ⟨Nat.zero_le _, Nat.zero_le _⟩) hP hD hS hA [0, 1, 2, 3, 4, 5, 6, 7, 8, 9] [] [0, 1, 2, 3, 4, 5, 6, 7, 8, 9] rfl rfl rfl (by decide) (fun _ => rfl) rfl (fun r_3 _ H locs h_3 hP hD hS => ?_)
  subst h_3
  refine lv_iconst (v := (-1)) hx hb d_Model_interrupt_36 rfl ?_
  refine lv_ixor hx hb d_Model_interrupt_37 ?_
  refine lv_iand hx hb d_Model_interrupt_38 ?_
  refine xi (wr := [((a 0), .inr (5, [.int (nI n), .ref (a 1), .ref (a 2), .ref (a 3), .ref (a 4), .ref (a 5), .ref (a 6), .ref (a 7), .ref (a 8), .long ti, .ref (a 9), .int np, .int h, .int ca, .int tv, .int nx])), ((a 1), .inl ((k 0), 16384, .inl b)), ((a 2), .inl ((k 1), 64, .inl x)), ((a 3), .inl ((k 2), 2, .inl pcs)), ((a 4), .inl ((k 3), 2, .inl lv)), ((a 5), .inl ((k 4), 8192, .inl cs)), ((a 6), .inl ((k 5), 2, .inl cl)), ((a 7), .inl ((k 6), 2, .inr (.inl cm))), ((a 8), .inl ((k 7), 2, .inl so)), ((a 9), .inl ((k 8), 256, .inl pu))]) (W2 := fun _ => wR a k n h ca tv nx pcs lv cs x b cl cm so ti pu np) (xS (rest := []) ⟨hx, hb, hml, hown, hts⟩ (c_Model_firstOf (((sp_Model_read h 836 cs cm so ti) &&& (sp_Model_raw h 772 cs)) &&& ((sp_Model_raw h 771 cs) ^^^ (-1)))) mw_Model_firstOf ms_Model_firstOf k_723 ⟨rfl, rfl, Nat.le_of_ble_eq_true rfl, Nat.le_of_ble_eq_true rfl⟩ hK hP hD hS hA hF [] [] rfl rfl rfl rfl hl.1 rfl (Nat.le_of_ble_eq_true rfl) d_Model_interrupt_39 ⟨Nat.zero_le _, Nat.zero_le _⟩) hP hD hS hA [] [0, 1, 2, 3, 4, 5, 6, 7, 8, 9] [0, 1, 2, 3, 4, 5, 6, 7, 8, 9] rfl rfl rfl (by decide) (fun _ => rfl) rfl (fun r_4 _ H locs h_4 hP hD hS => ?_)
  subst h_4
  refine lv_istore_n (lv' := [(2, .int (sp_Model_firstOf (((sp_Model_read h 836 cs cm so ti) &&& (sp_Model_raw h 772 cs)) &&& ((sp_Model_raw h 771 cs) ^^^ (-1))))), (1, .int ((sp_Model_read h 836 cs cm so ti) &&& (sp_Model_raw h 772 cs))), (0, .ref (a 0))]) hx hb d_Model_interrupt_42 rfl hl (by decide) rfl (fun ls hl => ?_)
  refine lv_iload_n hx hb d_Model_interrupt_43 rfl (lv_at hl 0 rfl) ?_
  refine lv_if_lt (tgt := 81) hx hb d_Model_interrupt_44 (by decide) (fun c_5 => ?_) (fun c_5 => ?_)
  · refine lv_iload_n hx hb d_Model_interrupt_81 rfl (lv_at hl 1 rfl) ?_
    refine lv_aload_n hx hb d_Model_interrupt_82 rfl (lv_at hl 2 rfl) ?_
    refine lv_aload_n hx hb d_Model_interrupt_83 rfl (lv_at hl 2 rfl) ?_
    refine va_get (D := D) (ci := 5) (v := .int h) (C := R_Model) (T := F_Model) (N := 16) hx hb hts i_Model hown hK hP 0 rfl rfl 12 (by decide) (hts _ k_637) (fun _ h9 => h9) rfl d_Model_interrupt_84 ?_
    refine lv_sipush (v := 771) hx hb d_Model_interrupt_87 rfl ?_
    refine xi (wr := []) (W2 := fun _ => wR a k n h ca tv nx pcs lv cs x b cl cm so ti pu np) (xV (rest := [.int ((sp_Model_read h 836 cs cm so ti) &&& (sp_Model_raw h 772 cs))]) ⟨hx, hb, hml, hown, hts⟩ (c_Model_raw a k n h 771 h ca tv nx pcs lv cs x b cl cm so ti pu np hn (vp_csr hh (by unfold vp_in; decide))) mw_Model_raw mv_Model_raw k_714 ⟨rfl, rfl, Nat.le_of_ble_eq_true rfl, Nat.le_of_ble_eq_true rfl⟩ hK hP hD hS hA hF [0, 1, 2, 3, 4, 5, 6, 7, 8, 9] [0, 1, 2, 3, 4, 5, 6, 7, 8] rfl rfl rfl 0 5 rfl rfl rfl rfl hl.1 rfl (Nat.le_of_ble_eq_true rfl) d_Model_interrupt_90 ⟨Nat.zero_le _, Nat.zero_le _⟩) hP hD hS hA [0, 1, 2, 3, 4, 5, 6, 7, 8, 9] [] [0, 1, 2, 3, 4, 5, 6, 7, 8, 9] rfl rfl rfl (by decide) (fun _ => rfl) rfl (fun r_6 _ H locs h_6 hP hD hS => ?_)
    subst h_6
    refine lv_iand hx hb d_Model_interrupt_93 ?_
    refine xi (wr := [((a 0), .inr (5, [.int (nI n), .ref (a 1), .ref (a 2), .ref (a 3), .ref (a 4), .ref (a 5), .ref (a 6), .ref (a 7), .ref (a 8), .long ti, .ref (a 9), .int np, .int h, .int ca, .int tv, .int nx])), ((a 1), .inl ((k 0), 16384, .inl b)), ((a 2), .inl ((k 1), 64, .inl x)), ((a 3), .inl ((k 2), 2, .inl pcs)), ((a 4), .inl ((k 3), 2, .inl lv)), ((a 5), .inl ((k 4), 8192, .inl cs)), ((a 6), .inl ((k 5), 2, .inl cl)), ((a 7), .inl ((k 6), 2, .inr (.inl cm))), ((a 8), .inl ((k 7), 2, .inl so)), ((a 9), .inl ((k 8), 256, .inl pu))]) (W2 := fun _ => wR a k n h ca tv nx pcs lv cs x b cl cm so ti pu np) (xS (rest := []) ⟨hx, hb, hml, hown, hts⟩ (c_Model_firstOf (((sp_Model_read h 836 cs cm so ti) &&& (sp_Model_raw h 772 cs)) &&& (sp_Model_raw h 771 cs))) mw_Model_firstOf ms_Model_firstOf k_723 ⟨rfl, rfl, Nat.le_of_ble_eq_true rfl, Nat.le_of_ble_eq_true rfl⟩ hK hP hD hS hA hF [] [] rfl rfl rfl rfl hl.1 rfl (Nat.le_of_ble_eq_true rfl) d_Model_interrupt_94 ⟨Nat.zero_le _, Nat.zero_le _⟩) hP hD hS hA [] [0, 1, 2, 3, 4, 5, 6, 7, 8, 9] [0, 1, 2, 3, 4, 5, 6, 7, 8, 9] rfl rfl rfl (by decide) (fun _ => rfl) rfl (fun r_7 _ H locs h_7 hP hD hS => ?_)
    subst h_7
    refine lv_istore_n (lv' := [(3, .int (sp_Model_firstOf (((sp_Model_read h 836 cs cm so ti) &&& (sp_Model_raw h 772 cs)) &&& (sp_Model_raw h 771 cs)))), (2, .int (sp_Model_firstOf (((sp_Model_read h 836 cs cm so ti) &&& (sp_Model_raw h 772 cs)) &&& ((sp_Model_raw h 771 cs) ^^^ (-1))))), (1, .int ((sp_Model_read h 836 cs cm so ti) &&& (sp_Model_raw h 772 cs))), (0, .ref (a 0))]) hx hb d_Model_interrupt_97 rfl hl (by decide) rfl (fun ls hl => ?_)
    refine lv_iload_n hx hb d_Model_interrupt_98 rfl (lv_at hl 0 rfl) ?_
    refine lv_if_lt (tgt := 136) hx hb d_Model_interrupt_99 (by decide) (fun c_8 => ?_) (fun c_8 => ?_)
    · refine lv_iconst (v := (-1)) hx hb d_Model_interrupt_136 rfl ?_
      exact ri (pcs, lv, cs, cl) hx hb hr hlocks hP hD hS d_Model_interrupt_137 (by simp only [sp_Model_interrupt, if_pos c_5, if_pos c_8])
    · refine lv_aload_n hx hb d_Model_interrupt_102 rfl (lv_at hl 3 rfl) ?_
      refine va_get (D := D) (ci := 5) (v := .ref (a 4)) (C := R_Model) (T := F_Model) (N := 16) hx hb hts i_Model hown hK hP 0 rfl rfl 4 (by decide) (hts _ k_629) (fun _ h9 => h9) rfl d_Model_interrupt_103 ?_
      refine lv_aload_n hx hb d_Model_interrupt_106 rfl (lv_at hl 3 rfl) ?_
      refine va_get (D := D) (ci := 5) (v := .int h) (C := R_Model) (T := F_Model) (N := 16) hx hb hts i_Model hown hK hP 0 rfl rfl 12 (by decide) (hts _ k_637) (fun _ h9 => h9) rfl d_Model_interrupt_107 ?_
      refine y_iald (v := lv h.toNatClampNeg) hx hb hK hP 4 3 rfl rfl (vp_01 hh (by decide)) rfl d_Model_interrupt_110 ?_
      refine lv_iconst (v := 1) hx hb d_Model_interrupt_111 rfl ?_
      refine lv_icmp_gt (tgt := 136) hx hb d_Model_interrupt_112 (by decide) (fun c_9 => ?_) (fun c_9 => ?_)
      · refine lv_iconst (v := (-1)) hx hb d_Model_interrupt_136 rfl ?_
        exact ri (pcs, lv, cs, cl) hx hb hr hlocks hP hD hS d_Model_interrupt_137 (by simp only [sp_Model_interrupt, if_pos c_5, if_neg c_8, if_pos c_9])
      · refine lv_aload_n hx hb d_Model_interrupt_115 rfl (lv_at hl 3 rfl) ?_
        refine va_get (D := D) (ci := 5) (v := .ref (a 4)) (C := R_Model) (T := F_Model) (N := 16) hx hb hts i_Model hown hK hP 0 rfl rfl 4 (by decide) (hts _ k_629) (fun _ h9 => h9) rfl d_Model_interrupt_116 ?_
        refine lv_aload_n hx hb d_Model_interrupt_119 rfl (lv_at hl 3 rfl) ?_
        refine va_get (D := D) (ci := 5) (v := .int h) (C := R_Model) (T := F_Model) (N := 16) hx hb hts i_Model hown hK hP 0 rfl rfl 12 (by decide) (hts _ k_637) (fun _ h9 => h9) rfl d_Model_interrupt_120 ?_
        refine y_iald (v := lv h.toNatClampNeg) hx hb hK hP 4 3 rfl rfl (vp_01 hh (by decide)) rfl d_Model_interrupt_123 ?_
        refine lv_iconst (v := 1) hx hb d_Model_interrupt_124 rfl ?_
        refine lv_icmp_ne (tgt := 138) hx hb d_Model_interrupt_125 (by decide) (fun c_10 => ?_) (fun c_10 => ?_)
        · refine lv_aload_n hx hb d_Model_interrupt_138 rfl (lv_at hl 3 rfl) ?_
          refine lv_iload_n hx hb d_Model_interrupt_139 rfl (lv_at hl 0 rfl) ?_
          refine lv_ldc (v := (-2147483648)) hx hb hown (hts _ k_623) d_Model_interrupt_140 ?_
          refine lv_ior hx hb d_Model_interrupt_142 ?_
          refine lv_iconst (v := 0) hx hb d_Model_interrupt_143 rfl ?_
          refine lv_iconst (v := 1) hx hb d_Model_interrupt_144 rfl ?_
          refine xv (wr := []) (W2 := fun u9 => wR a k n h ca tv nx u9.1 u9.2.1 u9.2.2.1 x b u9.2.2.2 cm so ti pu np) (xV (rest := []) ⟨hx, hb, hml, hown, hts⟩ (c_Model_take a k n ((sp_Model_firstOf (((sp_Model_read h 836 cs cm so ti) &&& (sp_Model_raw h 772 cs)) &&& (sp_Model_raw h 771 cs))) ||| (-2147483648)) 0 1 h ca tv nx pcs lv cs x b cl cm so ti pu np hn hh) mw_Model_take mv_Model_take k_730 ⟨rfl, rfl, Nat.le_of_ble_eq_true rfl, Nat.le_of_ble_eq_true rfl⟩ hK hP hD hS hA hF [0, 1, 2, 3, 4, 5, 6, 7, 8, 9] [0, 1, 2, 3, 4, 5, 6, 7, 8] rfl rfl rfl 0 5 rfl rfl rfl rfl hl.1 rfl (Nat.le_of_ble_eq_true rfl) d_Model_interrupt_145 ⟨Nat.zero_le _, Nat.zero_le _⟩) hP hD hS hA [0, 1, 2, 3, 4, 5, 6, 7, 8, 9] [] [0, 1, 2, 3, 4, 5, 6, 7, 8, 9] rfl rfl rfl (by decide) (fun _ => rfl) rfl (fun u_11 H locs h_11 hP hD hS => ?_)
          obtain ⟨pcs_11, lv_11, cs_11, cl_11⟩ := u_11
          dsimp only at hP hD
          refine lv_iload_n hx hb d_Model_interrupt_148 rfl (lv_at hl 0 rfl) ?_
          exact ri (pcs_11, lv_11, cs_11, cl_11) hx hb hr hlocks hP hD hS d_Model_interrupt_149 (by simp only [sp_Model_interrupt, h_11, if_pos c_5, if_neg c_8, if_neg c_9, if_neg c_10])
        · refine lv_aload_n hx hb d_Model_interrupt_128 rfl (lv_at hl 3 rfl) ?_
          refine lv_iconst (v := 2) hx hb d_Model_interrupt_129 rfl ?_
          refine xi (wr := []) (W2 := fun _ => wR a k n h ca tv nx pcs lv cs x b cl cm so ti pu np) (xV (rest := []) ⟨hx, hb, hml, hown, hts⟩ (c_Model_has a k n 2 h ca tv nx pcs lv cs x b cl cm so ti pu np hn hh) mw_Model_has mv_Model_has k_726 ⟨rfl, rfl, Nat.le_of_ble_eq_true rfl, Nat.le_of_ble_eq_true rfl⟩ hK hP hD hS hA hF [0, 1, 2, 3, 4, 5, 6, 7, 8, 9] [0, 1, 2, 3, 4, 5, 6, 7, 8] rfl rfl rfl 0 5 rfl rfl rfl rfl hl.1 rfl (Nat.le_of_ble_eq_true rfl) d_Model_interrupt_130 ⟨Nat.zero_le _, Nat.zero_le _⟩) hP hD hS hA [0, 1, 2, 3, 4, 5, 6, 7, 8, 9] [] [0, 1, 2, 3, 4, 5, 6, 7, 8, 9] rfl rfl rfl (by decide) (fun _ => rfl) rfl (fun r_12 _ H locs h_12 hP hD hS => ?_)
          obtain ⟨h_12, z_12⟩ := h_12
          subst h_12
          refine lv_if_ne (tgt := 138) hx hb d_Model_interrupt_133 (by decide) (fun c_13 => ?_) (fun c_13 => ?_)
          · refine lv_aload_n hx hb d_Model_interrupt_138 rfl (lv_at hl 3 rfl) ?_
            refine lv_iload_n hx hb d_Model_interrupt_139 rfl (lv_at hl 0 rfl) ?_
            refine lv_ldc (v := (-2147483648)) hx hb hown (hts _ k_623) d_Model_interrupt_140 ?_
            refine lv_ior hx hb d_Model_interrupt_142 ?_
            refine lv_iconst (v := 0) hx hb d_Model_interrupt_143 rfl ?_
            refine lv_iconst (v := 1) hx hb d_Model_interrupt_144 rfl ?_
            refine xv (wr := []) (W2 := fun u9 => wR a k n h ca tv nx u9.1 u9.2.1 u9.2.2.1 x b u9.2.2.2 cm so ti pu np) (xV (rest := []) ⟨hx, hb, hml, hown, hts⟩ (c_Model_take a k n ((sp_Model_firstOf (((sp_Model_read h 836 cs cm so ti) &&& (sp_Model_raw h 772 cs)) &&& (sp_Model_raw h 771 cs))) ||| (-2147483648)) 0 1 h ca tv nx pcs lv cs x b cl cm so ti pu np hn hh) mw_Model_take mv_Model_take k_730 ⟨rfl, rfl, Nat.le_of_ble_eq_true rfl, Nat.le_of_ble_eq_true rfl⟩ hK hP hD hS hA hF [0, 1, 2, 3, 4, 5, 6, 7, 8, 9] [0, 1, 2, 3, 4, 5, 6, 7, 8] rfl rfl rfl 0 5 rfl rfl rfl rfl hl.1 rfl (Nat.le_of_ble_eq_true rfl) d_Model_interrupt_145 ⟨Nat.zero_le _, Nat.zero_le _⟩) hP hD hS hA [0, 1, 2, 3, 4, 5, 6, 7, 8, 9] [] [0, 1, 2, 3, 4, 5, 6, 7, 8, 9] rfl rfl rfl (by decide) (fun _ => rfl) rfl (fun u_14 H locs h_14 hP hD hS => ?_)
            obtain ⟨pcs_14, lv_14, cs_14, cl_14⟩ := u_14
            dsimp only at hP hD
            refine lv_iload_n hx hb d_Model_interrupt_148 rfl (lv_at hl 0 rfl) ?_
            exact ri (pcs_14, lv_14, cs_14, cl_14) hx hb hr hlocks hP hD hS d_Model_interrupt_149 (by simp only [sp_Model_interrupt, h_14, if_pos c_5, if_neg c_8, if_neg c_9, if_pos c_10, if_neg c_13])
          · refine lv_iconst (v := (-1)) hx hb d_Model_interrupt_136 rfl ?_
            exact ri (pcs, lv, cs, cl) hx hb hr hlocks hP hD hS d_Model_interrupt_137 (by simp only [sp_Model_interrupt, if_pos c_5, if_neg c_8, if_neg c_9, if_pos c_10, if_pos c_13])
  · refine lv_aload_n hx hb d_Model_interrupt_47 rfl (lv_at hl 2 rfl) ?_
    refine va_get (D := D) (ci := 5) (v := .ref (a 4)) (C := R_Model) (T := F_Model) (N := 16) hx hb hts i_Model hown hK hP 0 rfl rfl 4 (by decide) (hts _ k_629) (fun _ h9 => h9) rfl d_Model_interrupt_48 ?_
    refine lv_aload_n hx hb d_Model_interrupt_51 rfl (lv_at hl 2 rfl) ?_
    refine va_get (D := D) (ci := 5) (v := .int h) (C := R_Model) (T := F_Model) (N := 16) hx hb hts i_Model hown hK hP 0 rfl rfl 12 (by decide) (hts _ k_637) (fun _ h9 => h9) rfl d_Model_interrupt_52 ?_
    refine y_iald (v := lv h.toNatClampNeg) hx hb hK hP 4 3 rfl rfl (vp_01 hh (by decide)) rfl d_Model_interrupt_55 ?_
    refine lv_iconst (v := 3) hx hb d_Model_interrupt_56 rfl ?_
    refine lv_icmp_lt (tgt := 69) hx hb d_Model_interrupt_57 (by decide) (fun c_15 => ?_) (fun c_15 => ?_)
    · refine lv_aload_n hx hb d_Model_interrupt_69 rfl (lv_at hl 2 rfl) ?_
      refine lv_iload_n hx hb d_Model_interrupt_70 rfl (lv_at hl 0 rfl) ?_
      refine lv_ldc (v := (-2147483648)) hx hb hown (hts _ k_623) d_Model_interrupt_71 ?_
      refine lv_ior hx hb d_Model_interrupt_73 ?_
      refine lv_iconst (v := 0) hx hb d_Model_interrupt_74 rfl ?_
      refine lv_iconst (v := 0) hx hb d_Model_interrupt_75 rfl ?_
      refine xv (wr := []) (W2 := fun u9 => wR a k n h ca tv nx u9.1 u9.2.1 u9.2.2.1 x b u9.2.2.2 cm so ti pu np) (xV (rest := []) ⟨hx, hb, hml, hown, hts⟩ (c_Model_take a k n ((sp_Model_firstOf (((sp_Model_read h 836 cs cm so ti) &&& (sp_Model_raw h 772 cs)) &&& ((sp_Model_raw h 771 cs) ^^^ (-1)))) ||| (-2147483648)) 0 0 h ca tv nx pcs lv cs x b cl cm so ti pu np hn hh) mw_Model_take mv_Model_take k_730 ⟨rfl, rfl, Nat.le_of_ble_eq_true rfl, Nat.le_of_ble_eq_true rfl⟩ hK hP hD hS hA hF [0, 1, 2, 3, 4, 5, 6, 7, 8, 9] [0, 1, 2, 3, 4, 5, 6, 7, 8] rfl rfl rfl 0 5 rfl rfl rfl rfl hl.1 rfl (Nat.le_of_ble_eq_true rfl) d_Model_interrupt_76 ⟨Nat.zero_le _, Nat.zero_le _⟩) hP hD hS hA [0, 1, 2, 3, 4, 5, 6, 7, 8, 9] [] [0, 1, 2, 3, 4, 5, 6, 7, 8, 9] rfl rfl rfl (by decide) (fun _ => rfl) rfl (fun u_16 H locs h_16 hP hD hS => ?_)
      obtain ⟨pcs_16, lv_16, cs_16, cl_16⟩ := u_16
      dsimp only at hP hD
      refine lv_iload_n hx hb d_Model_interrupt_79 rfl (lv_at hl 0 rfl) ?_
      exact ri (pcs_16, lv_16, cs_16, cl_16) hx hb hr hlocks hP hD hS d_Model_interrupt_80 (by simp only [sp_Model_interrupt, h_16, if_neg c_5, if_pos c_15])
    · refine lv_aload_n hx hb d_Model_interrupt_60 rfl (lv_at hl 2 rfl) ?_
      refine lv_bipush (v := 8) hx hb d_Model_interrupt_61 rfl ?_
      refine xi (wr := []) (W2 := fun _ => wR a k n h ca tv nx pcs lv cs x b cl cm so ti pu np) (xV (rest := []) ⟨hx, hb, hml, hown, hts⟩ (c_Model_has a k n 8 h ca tv nx pcs lv cs x b cl cm so ti pu np hn hh) mw_Model_has mv_Model_has k_726 ⟨rfl, rfl, Nat.le_of_ble_eq_true rfl, Nat.le_of_ble_eq_true rfl⟩ hK hP hD hS hA hF [0, 1, 2, 3, 4, 5, 6, 7, 8, 9] [0, 1, 2, 3, 4, 5, 6, 7, 8] rfl rfl rfl 0 5 rfl rfl rfl rfl hl.1 rfl (Nat.le_of_ble_eq_true rfl) d_Model_interrupt_63 ⟨Nat.zero_le _, Nat.zero_le _⟩) hP hD hS hA [0, 1, 2, 3, 4, 5, 6, 7, 8, 9] [] [0, 1, 2, 3, 4, 5, 6, 7, 8, 9] rfl rfl rfl (by decide) (fun _ => rfl) rfl (fun r_17 _ H locs h_17 hP hD hS => ?_)
      obtain ⟨h_17, z_17⟩ := h_17
      subst h_17
      refine lv_if_eq (tgt := 81) hx hb d_Model_interrupt_66 (by decide) (fun c_18 => ?_) (fun c_18 => ?_)
      · refine lv_iload_n hx hb d_Model_interrupt_81 rfl (lv_at hl 1 rfl) ?_
        refine lv_aload_n hx hb d_Model_interrupt_82 rfl (lv_at hl 2 rfl) ?_
        refine lv_aload_n hx hb d_Model_interrupt_83 rfl (lv_at hl 2 rfl) ?_
        refine va_get (D := D) (ci := 5) (v := .int h) (C := R_Model) (T := F_Model) (N := 16) hx hb hts i_Model hown hK hP 0 rfl rfl 12 (by decide) (hts _ k_637) (fun _ h9 => h9) rfl d_Model_interrupt_84 ?_
        refine lv_sipush (v := 771) hx hb d_Model_interrupt_87 rfl ?_
        refine xi (wr := []) (W2 := fun _ => wR a k n h ca tv nx pcs lv cs x b cl cm so ti pu np) (xV (rest := [.int ((sp_Model_read h 836 cs cm so ti) &&& (sp_Model_raw h 772 cs))]) ⟨hx, hb, hml, hown, hts⟩ (c_Model_raw a k n h 771 h ca tv nx pcs lv cs x b cl cm so ti pu np hn (vp_csr hh (by unfold vp_in; decide))) mw_Model_raw mv_Model_raw k_714 ⟨rfl, rfl, Nat.le_of_ble_eq_true rfl, Nat.le_of_ble_eq_true rfl⟩ hK hP hD hS hA hF [0, 1, 2, 3, 4, 5, 6, 7, 8, 9] [0, 1, 2, 3, 4, 5, 6, 7, 8] rfl rfl rfl 0 5 rfl rfl rfl rfl hl.1 rfl (Nat.le_of_ble_eq_true rfl) d_Model_interrupt_90 ⟨Nat.zero_le _, Nat.zero_le _⟩) hP hD hS hA [0, 1, 2, 3, 4, 5, 6, 7, 8, 9] [] [0, 1, 2, 3, 4, 5, 6, 7, 8, 9] rfl rfl rfl (by decide) (fun _ => rfl) rfl (fun r_19 _ H locs h_19 hP hD hS => ?_)
        subst h_19
        refine lv_iand hx hb d_Model_interrupt_93 ?_
        refine xi (wr := [((a 0), .inr (5, [.int (nI n), .ref (a 1), .ref (a 2), .ref (a 3), .ref (a 4), .ref (a 5), .ref (a 6), .ref (a 7), .ref (a 8), .long ti, .ref (a 9), .int np, .int h, .int ca, .int tv, .int nx])), ((a 1), .inl ((k 0), 16384, .inl b)), ((a 2), .inl ((k 1), 64, .inl x)), ((a 3), .inl ((k 2), 2, .inl pcs)), ((a 4), .inl ((k 3), 2, .inl lv)), ((a 5), .inl ((k 4), 8192, .inl cs)), ((a 6), .inl ((k 5), 2, .inl cl)), ((a 7), .inl ((k 6), 2, .inr (.inl cm))), ((a 8), .inl ((k 7), 2, .inl so)), ((a 9), .inl ((k 8), 256, .inl pu))]) (W2 := fun _ => wR a k n h ca tv nx pcs lv cs x b cl cm so ti pu np) (xS (rest := []) ⟨hx, hb, hml, hown, hts⟩ (c_Model_firstOf (((sp_Model_read h 836 cs cm so ti) &&& (sp_Model_raw h 772 cs)) &&& (sp_Model_raw h 771 cs))) mw_Model_firstOf ms_Model_firstOf k_723 ⟨rfl, rfl, Nat.le_of_ble_eq_true rfl, Nat.le_of_ble_eq_true rfl⟩ hK hP hD hS hA hF [] [] rfl rfl rfl rfl hl.1 rfl (Nat.le_of_ble_eq_true rfl) d_Model_interrupt_94 ⟨Nat.zero_le _, Nat.zero_le _⟩) hP hD hS hA [] [0, 1, 2, 3, 4, 5, 6, 7, 8, 9] [0, 1, 2, 3, 4, 5, 6, 7, 8, 9] rfl rfl rfl (by decide) (fun _ => rfl) rfl (fun r_20 _ H locs h_20 hP hD hS => ?_)
        subst h_20
        refine lv_istore_n (lv' := [(3, .int (sp_Model_firstOf (((sp_Model_read h 836 cs cm so ti) &&& (sp_Model_raw h 772 cs)) &&& (sp_Model_raw h 771 cs)))), (2, .int (sp_Model_firstOf (((sp_Model_read h 836 cs cm so ti) &&& (sp_Model_raw h 772 cs)) &&& ((sp_Model_raw h 771 cs) ^^^ (-1))))), (1, .int ((sp_Model_read h 836 cs cm so ti) &&& (sp_Model_raw h 772 cs))), (0, .ref (a 0))]) hx hb d_Model_interrupt_97 rfl hl (by decide) rfl (fun ls hl => ?_)
        refine lv_iload_n hx hb d_Model_interrupt_98 rfl (lv_at hl 0 rfl) ?_
        refine lv_if_lt (tgt := 136) hx hb d_Model_interrupt_99 (by decide) (fun c_21 => ?_) (fun c_21 => ?_)
        · refine lv_iconst (v := (-1)) hx hb d_Model_interrupt_136 rfl ?_
          exact ri (pcs, lv, cs, cl) hx hb hr hlocks hP hD hS d_Model_interrupt_137 (by simp only [sp_Model_interrupt, if_neg c_5, if_neg c_15, if_pos c_18, if_pos c_21])
        · refine lv_aload_n hx hb d_Model_interrupt_102 rfl (lv_at hl 3 rfl) ?_
          refine va_get (D := D) (ci := 5) (v := .ref (a 4)) (C := R_Model) (T := F_Model) (N := 16) hx hb hts i_Model hown hK hP 0 rfl rfl 4 (by decide) (hts _ k_629) (fun _ h9 => h9) rfl d_Model_interrupt_103 ?_
          refine lv_aload_n hx hb d_Model_interrupt_106 rfl (lv_at hl 3 rfl) ?_
          refine va_get (D := D) (ci := 5) (v := .int h) (C := R_Model) (T := F_Model) (N := 16) hx hb hts i_Model hown hK hP 0 rfl rfl 12 (by decide) (hts _ k_637) (fun _ h9 => h9) rfl d_Model_interrupt_107 ?_
          refine y_iald (v := lv h.toNatClampNeg) hx hb hK hP 4 3 rfl rfl (vp_01 hh (by decide)) rfl d_Model_interrupt_110 ?_
          refine lv_iconst (v := 1) hx hb d_Model_interrupt_111 rfl ?_
          refine lv_icmp_gt (tgt := 136) hx hb d_Model_interrupt_112 (by decide) (fun c_22 => ?_) (fun c_22 => ?_)
          · refine lv_iconst (v := (-1)) hx hb d_Model_interrupt_136 rfl ?_
            exact ri (pcs, lv, cs, cl) hx hb hr hlocks hP hD hS d_Model_interrupt_137 (by simp only [sp_Model_interrupt, if_neg c_5, if_neg c_15, if_pos c_18, if_neg c_21, if_pos c_22])
          · refine lv_aload_n hx hb d_Model_interrupt_115 rfl (lv_at hl 3 rfl) ?_
            refine va_get (D := D) (ci := 5) (v := .ref (a 4)) (C := R_Model) (T := F_Model) (N := 16) hx hb hts i_Model hown hK hP 0 rfl rfl 4 (by decide) (hts _ k_629) (fun _ h9 => h9) rfl d_Model_interrupt_116 ?_
            refine lv_aload_n hx hb d_Model_interrupt_119 rfl (lv_at hl 3 rfl) ?_
            refine va_get (D := D) (ci := 5) (v := .int h) (C := R_Model) (T := F_Model) (N := 16) hx hb hts i_Model hown hK hP 0 rfl rfl 12 (by decide) (hts _ k_637) (fun _ h9 => h9) rfl d_Model_interrupt_120 ?_
            refine y_iald (v := lv h.toNatClampNeg) hx hb hK hP 4 3 rfl rfl (vp_01 hh (by decide)) rfl d_Model_interrupt_123 ?_
            refine lv_iconst (v := 1) hx hb d_Model_interrupt_124 rfl ?_
            refine lv_icmp_ne (tgt := 138) hx hb d_Model_interrupt_125 (by decide) (fun c_23 => ?_) (fun c_23 => ?_)
            · refine lv_aload_n hx hb d_Model_interrupt_138 rfl (lv_at hl 3 rfl) ?_
              refine lv_iload_n hx hb d_Model_interrupt_139 rfl (lv_at hl 0 rfl) ?_
              refine lv_ldc (v := (-2147483648)) hx hb hown (hts _ k_623) d_Model_interrupt_140 ?_
              refine lv_ior hx hb d_Model_interrupt_142 ?_
              refine lv_iconst (v := 0) hx hb d_Model_interrupt_143 rfl ?_
              refine lv_iconst (v := 1) hx hb d_Model_interrupt_144 rfl ?_
              refine xv (wr := []) (W2 := fun u9 => wR a k n h ca tv nx u9.1 u9.2.1 u9.2.2.1 x b u9.2.2.2 cm so ti pu np) (xV (rest := []) ⟨hx, hb, hml, hown, hts⟩ (c_Model_take a k n ((sp_Model_firstOf (((sp_Model_read h 836 cs cm so ti) &&& (sp_Model_raw h 772 cs)) &&& (sp_Model_raw h 771 cs))) ||| (-2147483648)) 0 1 h ca tv nx pcs lv cs x b cl cm so ti pu np hn hh) mw_Model_take mv_Model_take k_730 ⟨rfl, rfl, Nat.le_of_ble_eq_true rfl, Nat.le_of_ble_eq_true rfl⟩ hK hP hD hS hA hF [0, 1, 2, 3, 4, 5, 6, 7, 8, 9] [0, 1, 2, 3, 4, 5, 6, 7, 8] rfl rfl rfl 0 5 rfl rfl rfl rfl hl.1 rfl (Nat.le_of_ble_eq_true rfl) d_Model_interrupt_145 ⟨Nat.zero_le _, Nat.zero_le _⟩) hP hD hS hA [0, 1, 2, 3, 4, 5, 6, 7, 8, 9] [] [0, 1, 2, 3, 4, 5, 6, 7, 8, 9] rfl rfl rfl (by decide) (fun _ => rfl) rfl (fun u_24 H locs h_24 hP hD hS => ?_)
              obtain ⟨pcs_24, lv_24, cs_24, cl_24⟩ := u_24
              dsimp only at hP hD
              refine lv_iload_n hx hb d_Model_interrupt_148 rfl (lv_at hl 0 rfl) ?_
              exact ri (pcs_24, lv_24, cs_24, cl_24) hx hb hr hlocks hP hD hS d_Model_interrupt_149 (by simp only [sp_Model_interrupt, h_24, if_neg c_5, if_neg c_15, if_pos c_18, if_neg c_21, if_neg c_22, if_neg c_23])
            · refine lv_aload_n hx hb d_Model_interrupt_128 rfl (lv_at hl 3 rfl) ?_
              refine lv_iconst (v := 2) hx hb d_Model_interrupt_129 rfl ?_
              refine xi (wr := []) (W2 := fun _ => wR a k n h ca tv nx pcs lv cs x b cl cm so ti pu np) (xV (rest := []) ⟨hx, hb, hml, hown, hts⟩ (c_Model_has a k n 2 h ca tv nx pcs lv cs x b cl cm so ti pu np hn hh) mw_Model_has mv_Model_has k_726 ⟨rfl, rfl, Nat.le_of_ble_eq_true rfl, Nat.le_of_ble_eq_true rfl⟩ hK hP hD hS hA hF [0, 1, 2, 3, 4, 5, 6, 7, 8, 9] [0, 1, 2, 3, 4, 5, 6, 7, 8] rfl rfl rfl 0 5 rfl rfl rfl rfl hl.1 rfl (Nat.le_of_ble_eq_true rfl) d_Model_interrupt_130 ⟨Nat.zero_le _, Nat.zero_le _⟩) hP hD hS hA [0, 1, 2, 3, 4, 5, 6, 7, 8, 9] [] [0, 1, 2, 3, 4, 5, 6, 7, 8, 9] rfl rfl rfl (by decide) (fun _ => rfl) rfl (fun r_25 _ H locs h_25 hP hD hS => ?_)
              obtain ⟨h_25, z_25⟩ := h_25
              subst h_25
              refine lv_if_ne (tgt := 138) hx hb d_Model_interrupt_133 (by decide) (fun c_26 => ?_) (fun c_26 => ?_)
              · refine lv_aload_n hx hb d_Model_interrupt_138 rfl (lv_at hl 3 rfl) ?_
                refine lv_iload_n hx hb d_Model_interrupt_139 rfl (lv_at hl 0 rfl) ?_
                refine lv_ldc (v := (-2147483648)) hx hb hown (hts _ k_623) d_Model_interrupt_140 ?_
                refine lv_ior hx hb d_Model_interrupt_142 ?_
                refine lv_iconst (v := 0) hx hb d_Model_interrupt_143 rfl ?_
                refine lv_iconst (v := 1) hx hb d_Model_interrupt_144 rfl ?_
                refine xv (wr := []) (W2 := fun u9 => wR a k n h ca tv nx u9.1 u9.2.1 u9.2.2.1 x b u9.2.2.2 cm so ti pu np) (xV (rest := []) ⟨hx, hb, hml, hown, hts⟩ (c_Model_take a k n ((sp_Model_firstOf (((sp_Model_read h 836 cs cm so ti) &&& (sp_Model_raw h 772 cs)) &&& (sp_Model_raw h 771 cs))) ||| (-2147483648)) 0 1 h ca tv nx pcs lv cs x b cl cm so ti pu np hn hh) mw_Model_take mv_Model_take k_730 ⟨rfl, rfl, Nat.le_of_ble_eq_true rfl, Nat.le_of_ble_eq_true rfl⟩ hK hP hD hS hA hF [0, 1, 2, 3, 4, 5, 6, 7, 8, 9] [0, 1, 2, 3, 4, 5, 6, 7, 8] rfl rfl rfl 0 5 rfl rfl rfl rfl hl.1 rfl (Nat.le_of_ble_eq_true rfl) d_Model_interrupt_145 ⟨Nat.zero_le _, Nat.zero_le _⟩) hP hD hS hA [0, 1, 2, 3, 4, 5, 6, 7, 8, 9] [] [0, 1, 2, 3, 4, 5, 6, 7, 8, 9] rfl rfl rfl (by decide) (fun _ => rfl) rfl (fun u_27 H locs h_27 hP hD hS => ?_)
                obtain ⟨pcs_27, lv_27, cs_27, cl_27⟩ := u_27
                dsimp only at hP hD
                refine lv_iload_n hx hb d_Model_interrupt_148 rfl (lv_at hl 0 rfl) ?_
                exact ri (pcs_27, lv_27, cs_27, cl_27) hx hb hr hlocks hP hD hS d_Model_interrupt_149 (by simp only [sp_Model_interrupt, h_27, if_neg c_5, if_neg c_15, if_pos c_18, if_neg c_21, if_neg c_22, if_pos c_23, if_neg c_26])
              · refine lv_iconst (v := (-1)) hx hb d_Model_interrupt_136 rfl ?_
                exact ri (pcs, lv, cs, cl) hx hb hr hlocks hP hD hS d_Model_interrupt_137 (by simp only [sp_Model_interrupt, if_neg c_5, if_neg c_15, if_pos c_18, if_neg c_21, if_neg c_22, if_pos c_23, if_pos c_26])
      · refine lv_aload_n hx hb d_Model_interrupt_69 rfl (lv_at hl 2 rfl) ?_
        refine lv_iload_n hx hb d_Model_interrupt_70 rfl (lv_at hl 0 rfl) ?_
        refine lv_ldc (v := (-2147483648)) hx hb hown (hts _ k_623) d_Model_interrupt_71 ?_
        refine lv_ior hx hb d_Model_interrupt_73 ?_
        refine lv_iconst (v := 0) hx hb d_Model_interrupt_74 rfl ?_
        refine lv_iconst (v := 0) hx hb d_Model_interrupt_75 rfl ?_
        refine xv (wr := []) (W2 := fun u9 => wR a k n h ca tv nx u9.1 u9.2.1 u9.2.2.1 x b u9.2.2.2 cm so ti pu np) (xV (rest := []) ⟨hx, hb, hml, hown, hts⟩ (c_Model_take a k n ((sp_Model_firstOf (((sp_Model_read h 836 cs cm so ti) &&& (sp_Model_raw h 772 cs)) &&& ((sp_Model_raw h 771 cs) ^^^ (-1)))) ||| (-2147483648)) 0 0 h ca tv nx pcs lv cs x b cl cm so ti pu np hn hh) mw_Model_take mv_Model_take k_730 ⟨rfl, rfl, Nat.le_of_ble_eq_true rfl, Nat.le_of_ble_eq_true rfl⟩ hK hP hD hS hA hF [0, 1, 2, 3, 4, 5, 6, 7, 8, 9] [0, 1, 2, 3, 4, 5, 6, 7, 8] rfl rfl rfl 0 5 rfl rfl rfl rfl hl.1 rfl (Nat.le_of_ble_eq_true rfl) d_Model_interrupt_76 ⟨Nat.zero_le _, Nat.zero_le _⟩) hP hD hS hA [0, 1, 2, 3, 4, 5, 6, 7, 8, 9] [] [0, 1, 2, 3, 4, 5, 6, 7, 8, 9] rfl rfl rfl (by decide) (fun _ => rfl) rfl (fun u_28 H locs h_28 hP hD hS => ?_)
        obtain ⟨pcs_28, lv_28, cs_28, cl_28⟩ := u_28
        dsimp only at hP hD
        refine lv_iload_n hx hb d_Model_interrupt_79 rfl (lv_at hl 0 rfl) ?_
        exact ri (pcs_28, lv_28, cs_28, cl_28) hx hb hr hlocks hP hD hS d_Model_interrupt_80 (by simp only [sp_Model_interrupt, h_28, if_neg c_5, if_neg c_15, if_neg c_18])
def inP (pcs : Nat → Int32) (q : Int32 × (Nat → Int32) × (Nat → Int32) × (Nat → Int32) × (Nat → Int32)) : Prop := q.1 < 0 → q.2.1 = pcs
theorem int_same (h : Int32) (pcs lv cs cl : Nat → Int32) (cm : Nat → Int64) (so : Nat → Int32) (ti : Int64) : inP pcs (sp_Model_interrupt h pcs lv cs cl cm so ti) := by
  unfold sp_Model_interrupt
  dsimp only
  refine ite_P (P := inP pcs) (fun _ => ?_) (fun c1 => ?_)
  · refine ite_P (P := inP pcs) (fun _ _ => rfl) (fun c1 => ?_)
    refine ite_P (P := inP pcs) (fun _ _ => rfl) (fun _ => ?_)
    refine ite_P (P := inP pcs) (fun _ => ?_) (fun _ q => absurd q c1)
    refine ite_P (P := inP pcs) (fun _ _ => rfl) (fun _ q => absurd q c1)
  · refine ite_P (P := inP pcs) (fun _ q => absurd q c1) (fun _ => ?_)
    refine ite_P (P := inP pcs) (fun _ => ?_) (fun _ q => absurd q c1)
    refine ite_P (P := inP pcs) (fun _ _ => rfl) (fun c1 => ?_)
    refine ite_P (P := inP pcs) (fun _ _ => rfl) (fun _ => ?_)
    refine ite_P (P := inP pcs) (fun _ => ?_) (fun _ q => absurd q c1)
    refine ite_P (P := inP pcs) (fun _ _ => rfl) (fun _ q => absurd q c1)
theorem int_pc {x0 : Int32} {pcs lv cs cl : Nat → Int32} {cm : Nat → Int64} {so : Nat → Int32} {ti : Int64} {r : Int32} {pcs1 : Nat → Int32} {u : (Nat → Int32) × (Nat → Int32) × (Nat → Int32)} (h01 : x0 = 0 ∨ x0 = 1) (hpc : ∀ j : Nat, j < 2 → pcs j &&& 3 = 0) (e : sp_Model_interrupt x0 pcs lv cs cl cm so ti = (r, pcs1, u)) (c : r < 0) : pcs1 x0.toNatClampNeg &&& 3 = 0 := by
  have h1 := int_same x0 pcs lv cs cl cm so ti
  rw [e] at h1
  have h2 : pcs1 = pcs := h1 c
  rw [h2]
  rcases h01 with rfl | rfl
  · exact hpc 0 (by decide)
  · exact hpc 1 (by decide)
