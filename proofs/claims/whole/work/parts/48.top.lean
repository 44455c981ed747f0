-- ===== the world of TwinHart itself =====
abbrev HS : Type := (Nat → Int32) × Int32 × Int32 × Int32 × (Nat → Int32)
abbrev TT : Type := TM × HS × HS
abbrev hxA (a c : Nat → Nat) : Nat → Nat := fun i => if i < 6 then a i else c i
abbrev hxK (a c : Nat → ClassId) : Nat → ClassId := fun i => if i < 4 then a i else c i
abbrev hsF (c d : Nat → Nat) : Nat → Option Nat := va_up (va_up (fun _ => none) 0 (some (c 6))) 1 (some (d 6))
abbrev wT (t hs : Nat) (kh : ClassId) (a c d : Nat → Nat) (k kc kd : Nat → ClassId) (n : Nat) (σ : TT) : va_W := [(t, .inr (0, [.ref (a 0), .ref hs])), (hs, .inl (kh, 2, .inr (.inr (.inr (.inr (hsF c d)))))), (a 0, .inr (1, [.ref (a 3), .ref (a 1), .ref (a 4), .int σ.1.2.2.2.1, .ref (a 5)])), (a 1, .inr (2, [.ref (a 2)])), (a 2, .inl (k 0, 8, .inl σ.1.1)), (a 3, .inl (k 1, n, .inl σ.1.2.1)), (a 4, .inl (k 2, 256, .inl σ.1.2.2.1)), (a 5, .inl (k 3, 2, .inr (.inl σ.1.2.2.2.2))), (c 6, .inr (4, [.int 0, .ref (c 7), .ref (c 8), .int σ.2.1.2.1, .int σ.2.1.2.2.1, .int σ.2.1.2.2.2.1])), (c 7, .inl (kc 4, 32, .inl σ.2.1.1)), (c 8, .inr (3, csF σ.2.1.2.2.2.2)), (d 6, .inr (4, [.int 1, .ref (d 7), .ref (d 8), .int σ.2.2.2.1, .int σ.2.2.2.2.1, .int σ.2.2.2.2.2.1])), (d 7, .inl (kd 4, 32, .inl σ.2.2.1)), (d 8, .inr (3, csF σ.2.2.2.2.2.2))]
abbrev tyT (k kc kd : Nat → ClassId) (kh : ClassId) : List (ClassId × FieldType) := [(k 0, .int), (k 1, .int), (k 2, .byte), (k 3, .long), (kc 4, .int), (kd 4, .int), (kh, .object R_Hart)]
theorem vp_has {n : Nat} {x0 : Int32} {M : TM} (hn : n ≤ 4096) (h : ¬ sp_Memory_hasWord n x0 M = 0) : vp_in x0 n := by
  unfold sp_Memory_hasWord at h
  by_cases h1 : x0 < 0
  · rw [if_pos h1] at h; exact absurd rfl h
  · rw [if_neg h1] at h
    by_cases h2 : nI n ≤ x0
    · rw [if_pos h2] at h; exact absurd rfl h
    · obtain ⟨j, hj, rfl⟩ := nI_of h1
      rw [nI_leI (by omega) hj] at h2
      exact vp_in_nI (by omega) (by omega)
def sp_TwinHart_isHart (x0 : Int32)  : Int32 :=
  if x0 = 0 then
    1
  else
    if x0 = 1 then
      1
    else
      0
set_option maxHeartbeats 4000000 in
set_option maxRecDepth 100000 in
theorem c_TwinHart_isHart {l : Launch} {D : va_G} {g : Nat → Nat}  (x0 : Int32)   : CT l D g y_TwinHart_isHart b_TwinHart_isHart 1 (some .boolean) (rD 0) [.int x0] ([]) ([]) (Qi D (fun (r : Int32) (_ : Unit) => sp_TwinHart_isHart x0 = r ∧ (r = 0 ∨ r = 1)) (fun _ => [])) := by
  refine CT.of rfl (Nat.le_of_ble_eq_true rfl) (fun p e s m below meth c A ls hx hb hr hml hts hown hlocks hA hP hK hD hF hS hl => ?_)
  have hl : lv_has ls 1 [(0, .int x0)] := hl
  refine lv_iload_n hx hb d_TwinHart_isHart_0 rfl (lv_at hl 0 rfl) ?_
  refine lv_if_eq (tgt := 9) hx hb d_TwinHart_isHart_1 (by decide) (fun c_1 => ?_) (fun c_1 => ?_)
  · refine lv_iconst (v := 1) hx hb d_TwinHart_isHart_9 rfl ?_
    refine lv_goto (tgt := 14) hx hb d_TwinHart_isHart_10 (by decide) ?_
    exact rz () hx hb hr hlocks rfl hP hD hS d_TwinHart_isHart_14 ⟨by simp only [sp_TwinHart_isHart, if_pos c_1], Or.inr rfl⟩
  · refine lv_iload_n hx hb d_TwinHart_isHart_4 rfl (lv_at hl 0 rfl) ?_
    refine lv_iconst (v := 1) hx hb d_TwinHart_isHart_5 rfl ?_
    refine lv_icmp_ne (tgt := 13) hx hb d_TwinHart_isHart_6 (by decide) (fun c_2 => ?_) (fun c_2 => ?_)
    · refine lv_iconst (v := 0) hx hb d_TwinHart_isHart_13 rfl ?_
      exact rz () hx hb hr hlocks rfl hP hD hS d_TwinHart_isHart_14 ⟨by simp only [sp_TwinHart_isHart, if_neg c_1, if_neg c_2], Or.inl rfl⟩
    · refine lv_iconst (v := 1) hx hb d_TwinHart_isHart_9 rfl ?_
      refine lv_goto (tgt := 14) hx hb d_TwinHart_isHart_10 (by decide) ?_
      exact rz () hx hb hr hlocks rfl hP hD hS d_TwinHart_isHart_14 ⟨by simp only [sp_TwinHart_isHart, if_neg c_1, if_pos c_2], Or.inr rfl⟩
def sp_TwinHart_isRegister (x0 : Int32)  : Int32 :=
  if x0 < 0 then
    0
  else
    if 32 ≤ x0 then
      0
    else
      1
set_option maxHeartbeats 4000000 in
set_option maxRecDepth 100000 in
theorem c_TwinHart_isRegister {l : Launch} {D : va_G} {g : Nat → Nat}  (x0 : Int32)   : CT l D g y_TwinHart_isRegister b_TwinHart_isRegister 1 (some .boolean) (rD 0) [.int x0] ([]) ([]) (Qi D (fun (r : Int32) (_ : Unit) => sp_TwinHart_isRegister x0 = r ∧ (r = 0 ∨ r = 1)) (fun _ => [])) := by
  refine CT.of rfl (Nat.le_of_ble_eq_true rfl) (fun p e s m below meth c A ls hx hb hr hml hts hown hlocks hA hP hK hD hF hS hl => ?_)
  have hl : lv_has ls 1 [(0, .int x0)] := hl
  refine lv_iload_n hx hb d_TwinHart_isRegister_0 rfl (lv_at hl 0 rfl) ?_
  refine lv_if_lt (tgt := 14) hx hb d_TwinHart_isRegister_1 (by decide) (fun c_1 => ?_) (fun c_1 => ?_)
  · refine lv_iconst (v := 0) hx hb d_TwinHart_isRegister_14 rfl ?_
    exact rz () hx hb hr hlocks rfl hP hD hS d_TwinHart_isRegister_15 ⟨by simp only [sp_TwinHart_isRegister, if_pos c_1], Or.inl rfl⟩
  · refine lv_iload_n hx hb d_TwinHart_isRegister_4 rfl (lv_at hl 0 rfl) ?_
    refine lv_bipush (v := 32) hx hb d_TwinHart_isRegister_5 rfl ?_
    refine lv_icmp_ge (tgt := 14) hx hb d_TwinHart_isRegister_7 (by decide) (fun c_2 => ?_) (fun c_2 => ?_)
    · refine lv_iconst (v := 0) hx hb d_TwinHart_isRegister_14 rfl ?_
      exact rz () hx hb hr hlocks rfl hP hD hS d_TwinHart_isRegister_15 ⟨by simp only [sp_TwinHart_isRegister, if_neg c_1, if_pos c_2], Or.inl rfl⟩
    · refine lv_iconst (v := 1) hx hb d_TwinHart_isRegister_10 rfl ?_
      refine lv_goto (tgt := 15) hx hb d_TwinHart_isRegister_11 (by decide) ?_
      exact rz () hx hb hr hlocks rfl hP hD hS d_TwinHart_isRegister_15 ⟨by simp only [sp_TwinHart_isRegister, if_neg c_1, if_neg c_2], Or.inr rfl⟩
theorem hart3 (x0 : Int32) : x0 = 0 ∨ x0 = 1 ∨ (¬ x0 = 0 ∧ ¬ x0 = 1 ∧ sp_TwinHart_isHart x0 = 0) := by
  by_cases h0 : x0 = 0
  · exact Or.inl h0
  · by_cases h1 : x0 = 1
    · exact Or.inr (Or.inl h1)
    · exact Or.inr (Or.inr ⟨h0, h1, by simp only [sp_TwinHart_isHart, if_neg h0, if_neg h1]⟩)
theorem vp_isReg {x : Int32} (h : ¬ sp_TwinHart_isRegister x = 0) : vp_in x 32 := by
  unfold sp_TwinHart_isRegister at h
  by_cases h1 : x < 0
  · rw [if_pos h1] at h; exact absurd rfl h
  · rw [if_neg h1] at h
    by_cases h2 : 32 ≤ x
    · rw [if_pos h2] at h; exact absurd rfl h
    · exact vp_32 h1 h2
def sp_TwinHart_reset (n : Nat)  (σ : TT) : TT :=
  let u_1 := sp_Memory_restart n σ.1
  let u_2 := sp_Hart_restart n 0 (u_1, σ.2.1)
  let u_3 := sp_Hart_restart n 1 (u_2.1, σ.2.2)
  (u_3.1, u_2.2, u_3.2)
set_option maxHeartbeats 4000000 in
set_option maxRecDepth 100000 in
theorem c_TwinHart_reset {l : Launch} {D : va_G} {g : Nat → Nat} (t hs : Nat) (kh : ClassId) (a f d : Nat → Nat) (k kf kd : Nat → ClassId) (n : Nat)  (σ : TT) (hn : n ≤ 4096) : CT l D g y_TwinHart_reset b_TwinHart_reset 1 none (rD 2) [.ref t] (wT t hs kh a f d k kf kd n σ) (tyT k kf kd kh) (Qv D (fun (u : TT) => sp_TwinHart_reset n σ = u) (fun u => wT t hs kh a f d k kf kd n u)) := by
  refine CT.of rfl (Nat.le_of_ble_eq_true rfl) (fun p e s m below meth c A ls hx hb hr hml hts hown hlocks hA hP hK hD hF hS hl => ?_)
  have hl : lv_has ls 1 [(0, .ref t)] := hl
  refine lv_aload_n hx hb d_TwinHart_reset_0 rfl (lv_at hl 0 rfl) ?_
  refine va_get (D := D) (ci := 0) (v := .ref (a 0)) (C := R_TwinHart) (T := F_TwinHart) (N := 2) hx hb hts i_TwinHart hown hK hP 0 rfl rfl 0 (by decide) (hts _ k_166) (fun _ h9 => h9) rfl d_TwinHart_reset_1 ?_
  refine xv (wr := [(t, .inr (0, [.ref (a 0), .ref hs])), (hs, .inl (kh, 2, .inr (.inr (.inr (.inr (hsF f d)))))), ((f 6), .inr (4, [.int 0, .ref (f 7), .ref (f 8), .int σ.2.1.2.1, .int σ.2.1.2.2.1, .int σ.2.1.2.2.2.1])), ((f 7), .inl ((kf 4), 32, .inl σ.2.1.1)), ((f 8), .inr (3, csF σ.2.1.2.2.2.2)), ((d 6), .inr (4, [.int 1, .ref (d 7), .ref (d 8), .int σ.2.2.2.1, .int σ.2.2.2.2.1, .int σ.2.2.2.2.2.1])), ((d 7), .inl ((kd 4), 32, .inl σ.2.2.1)), ((d 8), .inr (3, csF σ.2.2.2.2.2.2))]) (W2 := fun u9 => wT t hs kh a f d k kf kd n (u9, σ.2.1, σ.2.2)) (xV (rest := []) ⟨hx, hb, hml, hown, hts⟩ (c_Memory_restart a k n σ.1 hn) mw_Memory_restart mv_Memory_restart k_177 ⟨rfl, rfl, Nat.le_of_ble_eq_true rfl, Nat.le_of_ble_eq_true rfl⟩ hK hP hD hS hA hF [2, 3, 4, 5, 6, 7] [0, 1, 2, 3] rfl rfl rfl 2 1 rfl rfl rfl rfl hl.1 rfl (Nat.le_of_ble_eq_true rfl) d_TwinHart_reset_4 ⟨Nat.zero_le _, Nat.zero_le _⟩) hP hD hS hA [2, 3, 4, 5, 6, 7] [0, 1, 8, 9, 10, 11, 12, 13] [0, 1, 8, 9, 10, 11, 12, 13, 2, 3, 4, 5, 6, 7] rfl rfl rfl (by decide) (fun _ => rfl) rfl (fun u_1 H locs h_1 hP hD hS => ?_)
  refine lv_aload_n hx hb d_TwinHart_reset_7 rfl (lv_at hl 0 rfl) ?_
  refine va_get (D := D) (ci := 0) (v := .ref hs) (C := R_TwinHart) (T := F_TwinHart) (N := 2) hx hb hts i_TwinHart hown hK hP 0 rfl rfl 1 (by decide) (hts _ k_167) (fun _ h9 => h9) rfl d_TwinHart_reset_8 ?_
  refine lv_iconst (v := 0) hx hb d_TwinHart_reset_11 rfl ?_
  refine va_aldq (C := R_Hart) hx hb hK hP 1 6 rfl rfl (by unfold vp_in; decide) d_TwinHart_reset_12 ?_
  refine W.eq (g2 := F0 m 13 ls [.ref (f 6)]) rfl ?_
  refine xv (wr := [(t, .inr (0, [.ref (a 0), .ref hs])), (hs, .inl (kh, 2, .inr (.inr (.inr (.inr (hsF f d)))))), ((d 6), .inr (4, [.int 1, .ref (d 7), .ref (d 8), .int σ.2.2.2.1, .int σ.2.2.2.2.1, .int σ.2.2.2.2.2.1])), ((d 7), .inl ((kd 4), 32, .inl σ.2.2.1)), ((d 8), .inr (3, csF σ.2.2.2.2.2.2))]) (W2 := fun u9 => wT t hs kh a f d k kf kd n (u9.1, u9.2, σ.2.2)) (xV (rest := []) ⟨hx, hb, hml, hown, hts⟩ (c_Hart_restart (hxA a f) (hxK k kf) n 0 (u_1, σ.2.1) hn (Or.inl rfl)) mw_Hart_restart mv_Hart_restart k_186 ⟨rfl, rfl, Nat.le_of_ble_eq_true rfl, Nat.le_of_ble_eq_true rfl⟩ hK hP hD hS hA hF [2, 3, 4, 5, 6, 7, 8, 9, 10] [0, 1, 2, 3, 4] rfl rfl rfl 8 4 rfl rfl rfl rfl hl.1 rfl (Nat.le_of_ble_eq_true rfl) d_TwinHart_reset_13 ⟨Nat.zero_le _, Nat.zero_le _⟩) hP hD hS hA [2, 3, 4, 5, 6, 7, 8, 9, 10] [0, 1, 11, 12, 13] [0, 1, 5, 6, 7, 8, 9, 10, 11, 12, 13, 2, 3, 4] rfl rfl rfl (by decide) (fun _ => rfl) rfl (fun u_2 H locs h_2 hP hD hS => ?_)
  refine lv_aload_n hx hb d_TwinHart_reset_16 rfl (lv_at hl 0 rfl) ?_
  refine va_get (D := D) (ci := 0) (v := .ref hs) (C := R_TwinHart) (T := F_TwinHart) (N := 2) hx hb hts i_TwinHart hown hK hP 0 rfl rfl 1 (by decide) (hts _ k_167) (fun _ h9 => h9) rfl d_TwinHart_reset_17 ?_
  refine lv_iconst (v := 1) hx hb d_TwinHart_reset_20 rfl ?_
  refine va_aldq (C := R_Hart) hx hb hK hP 1 6 rfl rfl (by unfold vp_in; decide) d_TwinHart_reset_21 ?_
  refine W.eq (g2 := F0 m 22 ls [.ref (d 6)]) rfl ?_
  refine xv (wr := [(t, .inr (0, [.ref (a 0), .ref hs])), (hs, .inl (kh, 2, .inr (.inr (.inr (.inr (hsF f d)))))), ((f 6), .inr (4, [.int 0, .ref (f 7), .ref (f 8), .int u_2.2.2.1, .int u_2.2.2.2.1, .int u_2.2.2.2.2.1])), ((f 7), .inl ((kf 4), 32, .inl u_2.2.1)), ((f 8), .inr (3, csF u_2.2.2.2.2.2))]) (W2 := fun u9 => wT t hs kh a f d k kf kd n (u9.1, u_2.2, u9.2)) (xV (rest := []) ⟨hx, hb, hml, hown, hts⟩ (c_Hart_restart (hxA a d) (hxK k kd) n 1 (u_2.1, σ.2.2) hn (Or.inr rfl)) mw_Hart_restart mv_Hart_restart k_186 ⟨rfl, rfl, Nat.le_of_ble_eq_true rfl, Nat.le_of_ble_eq_true rfl⟩ hK hP hD hS hA hF [2, 3, 4, 5, 6, 7, 11, 12, 13] [0, 1, 2, 3, 5] rfl rfl rfl 11 4 rfl rfl rfl rfl hl.1 rfl (Nat.le_of_ble_eq_true rfl) d_TwinHart_reset_22 ⟨Nat.zero_le _, Nat.zero_le _⟩) hP hD hS hA [2, 3, 4, 5, 6, 7, 11, 12, 13] [0, 1, 8, 9, 10] [0, 1, 5, 6, 7, 8, 9, 10, 2, 3, 4, 11, 12, 13] rfl rfl rfl (by decide) (fun _ => rfl) rfl (fun u_3 H locs h_3 hP hD hS => ?_)
  exact rv (u_3.1, u_2.2, u_3.2) hx hb hr hlocks hP hD hS d_TwinHart_reset_25 (by simp only [sp_TwinHart_reset, h_1, h_2, h_3])
def sp_TwinHart_poke (n : Nat) (x0 : Int32) (x1 : Int32) (σ : TT) : Int32 × TT :=
  if (sp_Memory_hasWord n x0 σ.1) = 0 then
    (0, σ)
  else
    (1, ((σ.1.1, (upd σ.1.2.1 x0.toNatClampNeg x1), σ.1.2.2.1, σ.1.2.2.2.1, σ.1.2.2.2.2), σ.2.1, σ.2.2))
set_option maxHeartbeats 4000000 in
set_option maxRecDepth 100000 in
theorem c_TwinHart_poke {l : Launch} {D : va_G} {g : Nat → Nat} (t hs : Nat) (kh : ClassId) (a f d : Nat → Nat) (k kf kd : Nat → ClassId) (n : Nat) (x0 : Int32) (x1 : Int32) (σ : TT) (hn : n ≤ 4096) : CT l D g y_TwinHart_poke b_TwinHart_poke 3 (some .boolean) (rD 1) [.ref t, .int x0, .int x1] (wT t hs kh a f d k kf kd n σ) (tyT k kf kd kh) (Qi D (fun (r : Int32) (u : TT) => sp_TwinHart_poke n x0 x1 σ = (r, u) ∧ (r = 0 ∨ r = 1)) (fun u => wT t hs kh a f d k kf kd n u)) := by
  refine CT.of rfl (Nat.le_of_ble_eq_true rfl) (fun p e s m below meth c A ls hx hb hr hml hts hown hlocks hA hP hK hD hF hS hl => ?_)
  have hl : lv_has ls 3 [(0, .ref t), (1, .int x0), (2, .int x1)] := hl
  refine lv_aload_n hx hb d_TwinHart_poke_0 rfl (lv_at hl 0 rfl) ?_
  refine va_get (D := D) (ci := 0) (v := .ref (a 0)) (C := R_TwinHart) (T := F_TwinHart) (N := 2) hx hb hts i_TwinHart hown hK hP 0 rfl rfl 0 (by decide) (hts _ k_166) (fun _ h9 => h9) rfl d_TwinHart_poke_1 ?_
  refine lv_iload_n hx hb d_TwinHart_poke_4 rfl (lv_at hl 1 rfl) ?_
  refine xi (wr := [(t, .inr (0, [.ref (a 0), .ref hs])), (hs, .inl (kh, 2, .inr (.inr (.inr (.inr (hsF f d)))))), ((f 6), .inr (4, [.int 0, .ref (f 7), .ref (f 8), .int σ.2.1.2.1, .int σ.2.1.2.2.1, .int σ.2.1.2.2.2.1])), ((f 7), .inl ((kf 4), 32, .inl σ.2.1.1)), ((f 8), .inr (3, csF σ.2.1.2.2.2.2)), ((d 6), .inr (4, [.int 1, .ref (d 7), .ref (d 8), .int σ.2.2.2.1, .int σ.2.2.2.2.1, .int σ.2.2.2.2.2.1])), ((d 7), .inl ((kd 4), 32, .inl σ.2.2.1)), ((d 8), .inr (3, csF σ.2.2.2.2.2.2))]) (W2 := fun _ => wT t hs kh a f d k kf kd n σ) (xV (rest := []) ⟨hx, hb, hml, hown, hts⟩ (c_Memory_hasWord a k n x0 σ.1 hn) mw_Memory_hasWord mv_Memory_hasWord k_198 ⟨rfl, rfl, Nat.le_of_ble_eq_true rfl, Nat.le_of_ble_eq_true rfl⟩ hK hP hD hS hA hF [2, 3, 4, 5, 6, 7] [0, 1, 2, 3] rfl rfl rfl 2 1 rfl rfl rfl rfl hl.1 rfl (Nat.le_of_ble_eq_true rfl) d_TwinHart_poke_5 ⟨Nat.zero_le _, Nat.zero_le _⟩) hP hD hS hA [2, 3, 4, 5, 6, 7] [0, 1, 8, 9, 10, 11, 12, 13] [0, 1, 8, 9, 10, 11, 12, 13, 2, 3, 4, 5, 6, 7] rfl rfl rfl (by decide) (fun _ => rfl) rfl (fun r_1 _ H locs h_1 hP hD hS => ?_)
  obtain ⟨h_1, z_1⟩ := h_1
  subst h_1
  refine lv_if_ne (tgt := 13) hx hb d_TwinHart_poke_8 (by decide) (fun c_2 => ?_) (fun c_2 => ?_)
  · refine lv_aload_n hx hb d_TwinHart_poke_13 rfl (lv_at hl 0 rfl) ?_
    refine va_get (D := D) (ci := 0) (v := .ref (a 0)) (C := R_TwinHart) (T := F_TwinHart) (N := 2) hx hb hts i_TwinHart hown hK hP 0 rfl rfl 0 (by decide) (hts _ k_166) (fun _ h9 => h9) rfl d_TwinHart_poke_14 ?_
    refine va_get (D := D) (ci := 1) (v := .ref (a 3)) (C := R_Memory) (T := F_Memory) (N := 5) hx hb hts i_Memory hown hK hP 2 rfl rfl 0 (by decide) (hts _ k_52) (fun _ h9 => h9) rfl d_TwinHart_poke_17 ?_
    refine lv_iload_n hx hb d_TwinHart_poke_20 rfl (lv_at hl 1 rfl) ?_
    refine lv_iload_n hx hb d_TwinHart_poke_21 rfl (lv_at hl 2 rfl) ?_
    refine y_iast (ws' := wT t hs kh a f d k kf kd n ((σ.1.1, (upd σ.1.2.1 x0.toNatClampNeg x1), σ.1.2.2.1, σ.1.2.2.2.1, σ.1.2.2.2.2), σ.2.1, σ.2.2)) hx hb hK hP hD hS 5 1 rfl rfl (vp_has hn c_2) d_TwinHart_poke_22 rfl (fun H locs hP hD hS => ?_)
    refine lv_iconst (v := 1) hx hb d_TwinHart_poke_23 rfl ?_
    exact rz ((σ.1.1, (upd σ.1.2.1 x0.toNatClampNeg x1), σ.1.2.2.1, σ.1.2.2.2.1, σ.1.2.2.2.2), σ.2.1, σ.2.2) hx hb hr hlocks rfl hP hD hS d_TwinHart_poke_24 ⟨by simp only [sp_TwinHart_poke, if_neg c_2], Or.inr rfl⟩
  · refine lv_iconst (v := 0) hx hb d_TwinHart_poke_11 rfl ?_
    exact rz σ hx hb hr hlocks rfl hP hD hS d_TwinHart_poke_12 ⟨by simp only [sp_TwinHart_poke, if_pos c_2], Or.inl rfl⟩
def sp_TwinHart_peek (n : Nat) (x0 : Int32) (σ : TT) : Int32 :=
  if (sp_Memory_hasWord n x0 σ.1) = 0 then
    0
  else
    σ.1.2.1 x0.toNatClampNeg
set_option maxHeartbeats 4000000 in
set_option maxRecDepth 100000 in
theorem c_TwinHart_peek {l : Launch} {D : va_G} {g : Nat → Nat} (t hs : Nat) (kh : ClassId) (a f d : Nat → Nat) (k kf kd : Nat → ClassId) (n : Nat) (x0 : Int32) (σ : TT) (hn : n ≤ 4096) : CT l D g y_TwinHart_peek b_TwinHart_peek 2 (some .int) (rD 1) [.ref t, .int x0] (wT t hs kh a f d k kf kd n σ) (tyT k kf kd kh) (Qi D (fun (r : Int32) (_ : Unit) => sp_TwinHart_peek n x0 σ = r) (fun _ => wT t hs kh a f d k kf kd n σ)) := by
  refine CT.of rfl (Nat.le_of_ble_eq_true rfl) (fun p e s m below meth c A ls hx hb hr hml hts hown hlocks hA hP hK hD hF hS hl => ?_)
  have hl : lv_has ls 2 [(0, .ref t), (1, .int x0)] := hl
  refine lv_aload_n hx hb d_TwinHart_peek_0 rfl (lv_at hl 0 rfl) ?_
  refine va_get (D := D) (ci := 0) (v := .ref (a 0)) (C := R_TwinHart) (T := F_TwinHart) (N := 2) hx hb hts i_TwinHart hown hK hP 0 rfl rfl 0 (by decide) (hts _ k_166) (fun _ h9 => h9) rfl d_TwinHart_peek_1 ?_
  refine lv_iload_n hx hb d_TwinHart_peek_4 rfl (lv_at hl 1 rfl) ?_
  refine xi (wr := [(t, .inr (0, [.ref (a 0), .ref hs])), (hs, .inl (kh, 2, .inr (.inr (.inr (.inr (hsF f d)))))), ((f 6), .inr (4, [.int 0, .ref (f 7), .ref (f 8), .int σ.2.1.2.1, .int σ.2.1.2.2.1, .int σ.2.1.2.2.2.1])), ((f 7), .inl ((kf 4), 32, .inl σ.2.1.1)), ((f 8), .inr (3, csF σ.2.1.2.2.2.2)), ((d 6), .inr (4, [.int 1, .ref (d 7), .ref (d 8), .int σ.2.2.2.1, .int σ.2.2.2.2.1, .int σ.2.2.2.2.2.1])), ((d 7), .inl ((kd 4), 32, .inl σ.2.2.1)), ((d 8), .inr (3, csF σ.2.2.2.2.2.2))]) (W2 := fun _ => wT t hs kh a f d k kf kd n σ) (xV (rest := []) ⟨hx, hb, hml, hown, hts⟩ (c_Memory_hasWord a k n x0 σ.1 hn) mw_Memory_hasWord mv_Memory_hasWord k_198 ⟨rfl, rfl, Nat.le_of_ble_eq_true rfl, Nat.le_of_ble_eq_true rfl⟩ hK hP hD hS hA hF [2, 3, 4, 5, 6, 7] [0, 1, 2, 3] rfl rfl rfl 2 1 rfl rfl rfl rfl hl.1 rfl (Nat.le_of_ble_eq_true rfl) d_TwinHart_peek_5 ⟨Nat.zero_le _, Nat.zero_le _⟩) hP hD hS hA [2, 3, 4, 5, 6, 7] [0, 1, 8, 9, 10, 11, 12, 13] [0, 1, 8, 9, 10, 11, 12, 13, 2, 3, 4, 5, 6, 7] rfl rfl rfl (by decide) (fun _ => rfl) rfl (fun r_1 _ H locs h_1 hP hD hS => ?_)
  obtain ⟨h_1, z_1⟩ := h_1
  subst h_1
  refine lv_if_eq (tgt := 23) hx hb d_TwinHart_peek_8 (by decide) (fun c_2 => ?_) (fun c_2 => ?_)
  · refine lv_iconst (v := 0) hx hb d_TwinHart_peek_23 rfl ?_
    exact ri () hx hb hr hlocks hP hD hS d_TwinHart_peek_24 (by simp only [sp_TwinHart_peek, if_pos c_2])
  · refine lv_aload_n hx hb d_TwinHart_peek_11 rfl (lv_at hl 0 rfl) ?_
    refine va_get (D := D) (ci := 0) (v := .ref (a 0)) (C := R_TwinHart) (T := F_TwinHart) (N := 2) hx hb hts i_TwinHart hown hK hP 0 rfl rfl 0 (by decide) (hts _ k_166) (fun _ h9 => h9) rfl d_TwinHart_peek_12 ?_
    refine va_get (D := D) (ci := 1) (v := .ref (a 3)) (C := R_Memory) (T := F_Memory) (N := 5) hx hb hts i_Memory hown hK hP 2 rfl rfl 0 (by decide) (hts _ k_52) (fun _ h9 => h9) rfl d_TwinHart_peek_15 ?_
    refine lv_iload_n hx hb d_TwinHart_peek_18 rfl (lv_at hl 1 rfl) ?_
    refine y_iald (v := σ.1.2.1 x0.toNatClampNeg) hx hb hK hP 5 1 rfl rfl (vp_has hn c_2) rfl d_TwinHart_peek_19 ?_
    refine lv_goto (tgt := 24) hx hb d_TwinHart_peek_20 (by decide) ?_
    exact ri () hx hb hr hlocks hP hD hS d_TwinHart_peek_24 (by simp only [sp_TwinHart_peek, if_neg c_2])
def sp_TwinHart_step (n : Nat) (x0 : Int32) (σ : TT) : Int32 × TT :=
  if x0 = 0 then
    let r_3 := (sp_Hart_run n 0 (σ.1, σ.2.1)).1
    let u_3 := (sp_Hart_run n 0 (σ.1, σ.2.1)).2
    if r_3 = 0 then
      (r_3, (u_3.1, u_3.2, σ.2.2))
    else
      let u_5 := sp_Memory_dropClaims n u_3.1
      (r_3, (u_5, u_3.2, σ.2.2))
  else
    if x0 = 1 then
      let r_3 := (sp_Hart_run n 1 (σ.1, σ.2.2)).1
      let u_3 := (sp_Hart_run n 1 (σ.1, σ.2.2)).2
      if r_3 = 0 then
        (r_3, (u_3.1, σ.2.1, u_3.2))
      else
        let u_5 := sp_Memory_dropClaims n u_3.1
        (r_3, (u_5, σ.2.1, u_3.2))
    else
      ((-1), σ)
set_option maxHeartbeats 4000000 in
set_option maxRecDepth 100000 in
theorem c_TwinHart_step {l : Launch} {D : va_G} {g : Nat → Nat} (t hs : Nat) (kh : ClassId) (a f d : Nat → Nat) (k kf kd : Nat → ClassId) (n : Nat) (x0 : Int32) (σ : TT) (hn : n ≤ 4096) (hp : 0 ≤ σ.1.2.2.2.1) : CT l D g y_TwinHart_step b_TwinHart_step 3 (some .int) (rD 7) [.ref t, .int x0] (wT t hs kh a f d k kf kd n σ) (tyT k kf kd kh) (Qi D (fun (r : Int32) (u : TT) => sp_TwinHart_step n x0 σ = (r, u)) (fun u => wT t hs kh a f d k kf kd n u)) := by
  rcases hart3 x0 with rfl | rfl | ⟨q_0, q_1, q_2⟩
  · refine CT.of rfl (Nat.le_of_ble_eq_true rfl) (fun p e s m below meth c A ls hx hb hr hml hts hown hlocks hA hP hK hD hF hS hl => ?_)
    have hl : lv_has ls 3 [(0, .ref t), (1, .int 0)] := hl
    refine lv_iload_n hx hb d_TwinHart_step_0 rfl (lv_at hl 1 rfl) ?_
    refine xi (wr := [(t, .inr (0, [.ref (a 0), .ref hs])), (hs, .inl (kh, 2, .inr (.inr (.inr (.inr (hsF f d)))))), ((a 0), .inr (1, [.ref (a 3), .ref (a 1), .ref (a 4), .int σ.1.2.2.2.1, .ref (a 5)])), ((a 1), .inr (2, [.ref (a 2)])), ((a 2), .inl ((k 0), 8, .inl σ.1.1)), ((a 3), .inl ((k 1), n, .inl σ.1.2.1)), ((a 4), .inl ((k 2), 256, .inl σ.1.2.2.1)), ((a 5), .inl ((k 3), 2, .inr (.inl σ.1.2.2.2.2))), ((f 6), .inr (4, [.int 0, .ref (f 7), .ref (f 8), .int σ.2.1.2.1, .int σ.2.1.2.2.1, .int σ.2.1.2.2.2.1])), ((f 7), .inl ((kf 4), 32, .inl σ.2.1.1)), ((f 8), .inr (3, csF σ.2.1.2.2.2.2)), ((d 6), .inr (4, [.int 1, .ref (d 7), .ref (d 8), .int σ.2.2.2.1, .int σ.2.2.2.2.1, .int σ.2.2.2.2.2.1])), ((d 7), .inl ((kd 4), 32, .inl σ.2.2.1)), ((d 8), .inr (3, csF σ.2.2.2.2.2.2))]) (W2 := fun _ => wT t hs kh a f d k kf kd n σ) (xS (rest := []) ⟨hx, hb, hml, hown, hts⟩ (c_TwinHart_isHart 0) mw_TwinHart_isHart ms_TwinHart_isHart k_210 ⟨rfl, rfl, Nat.le_of_ble_eq_true rfl, Nat.le_of_ble_eq_true rfl⟩ hK hP hD hS hA hF [] [] rfl rfl rfl rfl hl.1 rfl (Nat.le_of_ble_eq_true rfl) d_TwinHart_step_1 ⟨Nat.zero_le _, Nat.zero_le _⟩) hP hD hS hA [] [0, 1, 2, 3, 4, 5, 6, 7, 8, 9, 10, 11, 12, 13] [0, 1, 2, 3, 4, 5, 6, 7, 8, 9, 10, 11, 12, 13] rfl rfl rfl (by decide) (fun _ => rfl) rfl (fun r_1 _ H locs h_1 hP hD hS => ?_)
    obtain ⟨h_1, z_1⟩ := h_1
    subst h_1
    refine W.eq (g2 := F0 m 4 ls [.int 1]) rfl ?_
    refine lv_if_ne (tgt := 9) hx hb d_TwinHart_step_4 (by decide) (fun _ => ?_) (fun h9 => absurd h9 (by decide))
    refine lv_aload_n hx hb d_TwinHart_step_9 rfl (lv_at hl 0 rfl) ?_
    refine va_get (D := D) (ci := 0) (v := .ref hs) (C := R_TwinHart) (T := F_TwinHart) (N := 2) hx hb hts i_TwinHart hown hK hP 0 rfl rfl 1 (by decide) (hts _ k_167) (fun _ h9 => h9) rfl d_TwinHart_step_10 ?_
    refine lv_iload_n hx hb d_TwinHart_step_13 rfl (lv_at hl 1 rfl) ?_
    refine va_aldq (C := R_Hart) hx hb hK hP 1 6 rfl rfl (by unfold vp_in; decide) d_TwinHart_step_14 ?_
    refine W.eq (g2 := F0 m 15 ls [.ref (f 6)]) rfl ?_
    refine lv_aload_n hx hb d_TwinHart_step_15 rfl (lv_at hl 0 rfl) ?_
    refine va_get (D := D) (ci := 0) (v := .ref (a 0)) (C := R_TwinHart) (T := F_TwinHart) (N := 2) hx hb hts i_TwinHart hown hK hP 0 rfl rfl 0 (by decide) (hts _ k_166) (fun _ h9 => h9) rfl d_TwinHart_step_16 ?_
    refine xi (wr := [(t, .inr (0, [.ref (a 0), .ref hs])), (hs, .inl (kh, 2, .inr (.inr (.inr (.inr (hsF f d)))))), ((d 6), .inr (4, [.int 1, .ref (d 7), .ref (d 8), .int σ.2.2.2.1, .int σ.2.2.2.2.1, .int σ.2.2.2.2.2.1])), ((d 7), .inl ((kd 4), 32, .inl σ.2.2.1)), ((d 8), .inr (3, csF σ.2.2.2.2.2.2))]) (W2 := fun u9 => wT t hs kh a f d k kf kd n (u9.1, u9.2, σ.2.2)) (xV (rest := []) ⟨hx, hb, hml, hown, hts⟩ (c_Hart_run (hxA a f) (hxK k kf) n 0 (σ.1, σ.2.1) hn (Or.inl rfl) hp) mw_Hart_run mv_Hart_run k_213 ⟨rfl, rfl, Nat.le_of_ble_eq_true rfl, Nat.le_of_ble_eq_true rfl⟩ hK hP hD hS hA hF [2, 3, 4, 5, 6, 7, 8, 9, 10] [0, 1, 2, 3, 4] rfl rfl rfl 8 4 rfl rfl rfl rfl hl.1 rfl (Nat.le_of_ble_eq_true rfl) d_TwinHart_step_19 ⟨Nat.zero_le _, Nat.zero_le _⟩) hP hD hS hA [2, 3, 4, 5, 6, 7, 8, 9, 10] [0, 1, 11, 12, 13] [0, 1, 5, 6, 7, 8, 9, 10, 11, 12, 13, 2, 3, 4] rfl rfl rfl (by decide) (fun _ => rfl) rfl (fun r_3 u_3 H locs h_3 hP hD hS => ?_)
    refine lv_istore_n (lv' := [(2, .int r_3), (0, .ref t), (1, .int 0)]) hx hb d_TwinHart_step_22 rfl hl (by decide) rfl (fun ls hl => ?_)
    refine lv_iload_n hx hb d_TwinHart_step_23 rfl (lv_at hl 0 rfl) ?_
    refine lv_if_eq (tgt := 34) hx hb d_TwinHart_step_24 (by decide) (fun c_4 => ?_) (fun c_4 => ?_)
    · refine lv_iload_n hx hb d_TwinHart_step_34 rfl (lv_at hl 0 rfl) ?_
      exact ri (u_3.1, u_3.2, σ.2.2) hx hb hr hlocks hP hD hS d_TwinHart_step_35 (by simp only [sp_TwinHart_step, h_3, if_pos (rfl : (0 : Int32) = 0), if_pos c_4, if_true, if_false])
    · refine lv_aload_n hx hb d_TwinHart_step_27 rfl (lv_at hl 1 rfl) ?_
      refine va_get (D := D) (ci := 0) (v := .ref (a 0)) (C := R_TwinHart) (T := F_TwinHart) (N := 2) hx hb hts i_TwinHart hown hK hP 0 rfl rfl 0 (by decide) (hts _ k_166) (fun _ h9 => h9) rfl d_TwinHart_step_28 ?_
      refine xv (wr := [(t, .inr (0, [.ref (a 0), .ref hs])), (hs, .inl (kh, 2, .inr (.inr (.inr (.inr (hsF f d)))))), ((f 6), .inr (4, [.int 0, .ref (f 7), .ref (f 8), .int u_3.2.2.1, .int u_3.2.2.2.1, .int u_3.2.2.2.2.1])), ((f 7), .inl ((kf 4), 32, .inl u_3.2.1)), ((f 8), .inr (3, csF u_3.2.2.2.2.2)), ((d 6), .inr (4, [.int 1, .ref (d 7), .ref (d 8), .int σ.2.2.2.1, .int σ.2.2.2.2.1, .int σ.2.2.2.2.2.1])), ((d 7), .inl ((kd 4), 32, .inl σ.2.2.1)), ((d 8), .inr (3, csF σ.2.2.2.2.2.2))]) (W2 := fun u9 => wT t hs kh a f d k kf kd n (u9, u_3.2, σ.2.2)) (xV (rest := []) ⟨hx, hb, hml, hown, hts⟩ (c_Memory_dropClaims a k n u_3.1 hn) mw_Memory_dropClaims mv_Memory_dropClaims k_561 ⟨rfl, rfl, Nat.le_of_ble_eq_true rfl, Nat.le_of_ble_eq_true rfl⟩ hK hP hD hS hA hF [2, 3, 4, 5, 6, 7] [0, 1, 2, 3] rfl rfl rfl 2 1 rfl rfl rfl rfl hl.1 rfl (Nat.le_of_ble_eq_true rfl) d_TwinHart_step_31 ⟨Nat.zero_le _, Nat.zero_le _⟩) hP hD hS hA [2, 3, 4, 5, 6, 7] [0, 1, 8, 9, 10, 11, 12, 13] [0, 1, 8, 9, 10, 11, 12, 13, 2, 3, 4, 5, 6, 7] rfl rfl rfl (by decide) (fun _ => rfl) rfl (fun u_5 H locs h_5 hP hD hS => ?_)
      refine lv_iload_n hx hb d_TwinHart_step_34 rfl (lv_at hl 0 rfl) ?_
      exact ri (u_5, u_3.2, σ.2.2) hx hb hr hlocks hP hD hS d_TwinHart_step_35 (by simp only [sp_TwinHart_step, h_3, h_5, if_pos (rfl : (0 : Int32) = 0), if_neg c_4, if_true, if_false])
  · refine CT.of rfl (Nat.le_of_ble_eq_true rfl) (fun p e s m below meth c A ls hx hb hr hml hts hown hlocks hA hP hK hD hF hS hl => ?_)
    have hl : lv_has ls 3 [(0, .ref t), (1, .int 1)] := hl
    refine lv_iload_n hx hb d_TwinHart_step_0 rfl (lv_at hl 1 rfl) ?_
    refine xi (wr := [(t, .inr (0, [.ref (a 0), .ref hs])), (hs, .inl (kh, 2, .inr (.inr (.inr (.inr (hsF f d)))))), ((a 0), .inr (1, [.ref (a 3), .ref (a 1), .ref (a 4), .int σ.1.2.2.2.1, .ref (a 5)])), ((a 1), .inr (2, [.ref (a 2)])), ((a 2), .inl ((k 0), 8, .inl σ.1.1)), ((a 3), .inl ((k 1), n, .inl σ.1.2.1)), ((a 4), .inl ((k 2), 256, .inl σ.1.2.2.1)), ((a 5), .inl ((k 3), 2, .inr (.inl σ.1.2.2.2.2))), ((f 6), .inr (4, [.int 0, .ref (f 7), .ref (f 8), .int σ.2.1.2.1, .int σ.2.1.2.2.1, .int σ.2.1.2.2.2.1])), ((f 7), .inl ((kf 4), 32, .inl σ.2.1.1)), ((f 8), .inr (3, csF σ.2.1.2.2.2.2)), ((d 6), .inr (4, [.int 1, .ref (d 7), .ref (d 8), .int σ.2.2.2.1, .int σ.2.2.2.2.1, .int σ.2.2.2.2.2.1])), ((d 7), .inl ((kd 4), 32, .inl σ.2.2.1)), ((d 8), .inr (3, csF σ.2.2.2.2.2.2))]) (W2 := fun _ => wT t hs kh a f d k kf kd n σ) (xS (rest := []) ⟨hx, hb, hml, hown, hts⟩ (c_TwinHart_isHart 1) mw_TwinHart_isHart ms_TwinHart_isHart k_210 ⟨rfl, rfl, Nat.le_of_ble_eq_true rfl, Nat.le_of_ble_eq_true rfl⟩ hK hP hD hS hA hF [] [] rfl rfl rfl rfl hl.1 rfl (Nat.le_of_ble_eq_true rfl) d_TwinHart_step_1 ⟨Nat.zero_le _, Nat.zero_le _⟩) hP hD hS hA [] [0, 1, 2, 3, 4, 5, 6, 7, 8, 9, 10, 11, 12, 13] [0, 1, 2, 3, 4, 5, 6, 7, 8, 9, 10, 11, 12, 13] rfl rfl rfl (by decide) (fun _ => rfl) rfl (fun r_1 _ H locs h_1 hP hD hS => ?_)
    obtain ⟨h_1, z_1⟩ := h_1
    subst h_1
    refine W.eq (g2 := F0 m 4 ls [.int 1]) rfl ?_
    refine lv_if_ne (tgt := 9) hx hb d_TwinHart_step_4 (by decide) (fun _ => ?_) (fun h9 => absurd h9 (by decide))
    refine lv_aload_n hx hb d_TwinHart_step_9 rfl (lv_at hl 0 rfl) ?_
    refine va_get (D := D) (ci := 0) (v := .ref hs) (C := R_TwinHart) (T := F_TwinHart) (N := 2) hx hb hts i_TwinHart hown hK hP 0 rfl rfl 1 (by decide) (hts _ k_167) (fun _ h9 => h9) rfl d_TwinHart_step_10 ?_
    refine lv_iload_n hx hb d_TwinHart_step_13 rfl (lv_at hl 1 rfl) ?_
    refine va_aldq (C := R_Hart) hx hb hK hP 1 6 rfl rfl (by unfold vp_in; decide) d_TwinHart_step_14 ?_
    refine W.eq (g2 := F0 m 15 ls [.ref (d 6)]) rfl ?_
    refine lv_aload_n hx hb d_TwinHart_step_15 rfl (lv_at hl 0 rfl) ?_
    refine va_get (D := D) (ci := 0) (v := .ref (a 0)) (C := R_TwinHart) (T := F_TwinHart) (N := 2) hx hb hts i_TwinHart hown hK hP 0 rfl rfl 0 (by decide) (hts _ k_166) (fun _ h9 => h9) rfl d_TwinHart_step_16 ?_
    refine xi (wr := [(t, .inr (0, [.ref (a 0), .ref hs])), (hs, .inl (kh, 2, .inr (.inr (.inr (.inr (hsF f d)))))), ((f 6), .inr (4, [.int 0, .ref (f 7), .ref (f 8), .int σ.2.1.2.1, .int σ.2.1.2.2.1, .int σ.2.1.2.2.2.1])), ((f 7), .inl ((kf 4), 32, .inl σ.2.1.1)), ((f 8), .inr (3, csF σ.2.1.2.2.2.2))]) (W2 := fun u9 => wT t hs kh a f d k kf kd n (u9.1, σ.2.1, u9.2)) (xV (rest := []) ⟨hx, hb, hml, hown, hts⟩ (c_Hart_run (hxA a d) (hxK k kd) n 1 (σ.1, σ.2.2) hn (Or.inr rfl) hp) mw_Hart_run mv_Hart_run k_213 ⟨rfl, rfl, Nat.le_of_ble_eq_true rfl, Nat.le_of_ble_eq_true rfl⟩ hK hP hD hS hA hF [2, 3, 4, 5, 6, 7, 11, 12, 13] [0, 1, 2, 3, 5] rfl rfl rfl 11 4 rfl rfl rfl rfl hl.1 rfl (Nat.le_of_ble_eq_true rfl) d_TwinHart_step_19 ⟨Nat.zero_le _, Nat.zero_le _⟩) hP hD hS hA [2, 3, 4, 5, 6, 7, 11, 12, 13] [0, 1, 8, 9, 10] [0, 1, 5, 6, 7, 8, 9, 10, 2, 3, 4, 11, 12, 13] rfl rfl rfl (by decide) (fun _ => rfl) rfl (fun r_3 u_3 H locs h_3 hP hD hS => ?_)
    refine lv_istore_n (lv' := [(2, .int r_3), (0, .ref t), (1, .int 1)]) hx hb d_TwinHart_step_22 rfl hl (by decide) rfl (fun ls hl => ?_)
    refine lv_iload_n hx hb d_TwinHart_step_23 rfl (lv_at hl 0 rfl) ?_
    refine lv_if_eq (tgt := 34) hx hb d_TwinHart_step_24 (by decide) (fun c_4 => ?_) (fun c_4 => ?_)
    · refine lv_iload_n hx hb d_TwinHart_step_34 rfl (lv_at hl 0 rfl) ?_
      exact ri (u_3.1, σ.2.1, u_3.2) hx hb hr hlocks hP hD hS d_TwinHart_step_35 (by simp only [sp_TwinHart_step, h_3, if_neg (by decide : ¬ (1 : Int32) = 0), if_pos (rfl : (1 : Int32) = 1), if_pos c_4, if_true, if_false])
    · refine lv_aload_n hx hb d_TwinHart_step_27 rfl (lv_at hl 1 rfl) ?_
      refine va_get (D := D) (ci := 0) (v := .ref (a 0)) (C := R_TwinHart) (T := F_TwinHart) (N := 2) hx hb hts i_TwinHart hown hK hP 0 rfl rfl 0 (by decide) (hts _ k_166) (fun _ h9 => h9) rfl d_TwinHart_step_28 ?_
      refine xv (wr := [(t, .inr (0, [.ref (a 0), .ref hs])), (hs, .inl (kh, 2, .inr (.inr (.inr (.inr (hsF f d)))))), ((f 6), .inr (4, [.int 0, .ref (f 7), .ref (f 8), .int σ.2.1.2.1, .int σ.2.1.2.2.1, .int σ.2.1.2.2.2.1])), ((f 7), .inl ((kf 4), 32, .inl σ.2.1.1)), ((f 8), .inr (3, csF σ.2.1.2.2.2.2)), ((d 6), .inr (4, [.int 1, .ref (d 7), .ref (d 8), .int u_3.2.2.1, .int u_3.2.2.2.1, .int u_3.2.2.2.2.1])), ((d 7), .inl ((kd 4), 32, .inl u_3.2.1)), ((d 8), .inr (3, csF u_3.2.2.2.2.2))]) (W2 := fun u9 => wT t hs kh a f d k kf kd n (u9, σ.2.1, u_3.2)) (xV (rest := []) ⟨hx, hb, hml, hown, hts⟩ (c_Memory_dropClaims a k n u_3.1 hn) mw_Memory_dropClaims mv_Memory_dropClaims k_561 ⟨rfl, rfl, Nat.le_of_ble_eq_true rfl, Nat.le_of_ble_eq_true rfl⟩ hK hP hD hS hA hF [2, 3, 4, 5, 6, 7] [0, 1, 2, 3] rfl rfl rfl 2 1 rfl rfl rfl rfl hl.1 rfl (Nat.le_of_ble_eq_true rfl) d_TwinHart_step_31 ⟨Nat.zero_le _, Nat.zero_le _⟩) hP hD hS hA [2, 3, 4, 5, 6, 7] [0, 1, 8, 9, 10, 11, 12, 13] [0, 1, 8, 9, 10, 11, 12, 13, 2, 3, 4, 5, 6, 7] rfl rfl rfl (by decide) (fun _ => rfl) rfl (fun u_5 H locs h_5 hP hD hS => ?_)
      refine lv_iload_n hx hb d_TwinHart_step_34 rfl (lv_at hl 0 rfl) ?_
      exact ri (u_5, σ.2.1, u_3.2) hx hb hr hlocks hP hD hS d_TwinHart_step_35 (by simp only [sp_TwinHart_step, h_3, h_5, if_neg (by decide : ¬ (1 : Int32) = 0), if_pos (rfl : (1 : Int32) = 1), if_neg c_4, if_true, if_false])
  · refine CT.of rfl (Nat.le_of_ble_eq_true rfl) (fun p e s m below meth c A ls hx hb hr hml hts hown hlocks hA hP hK hD hF hS hl => ?_)
    have hl : lv_has ls 3 [(0, .ref t), (1, .int x0)] := hl
    refine lv_iload_n hx hb d_TwinHart_step_0 rfl (lv_at hl 1 rfl) ?_
    refine xi (wr := [(t, .inr (0, [.ref (a 0), .ref hs])), (hs, .inl (kh, 2, .inr (.inr (.inr (.inr (hsF f d)))))), ((a 0), .inr (1, [.ref (a 3), .ref (a 1), .ref (a 4), .int σ.1.2.2.2.1, .ref (a 5)])), ((a 1), .inr (2, [.ref (a 2)])), ((a 2), .inl ((k 0), 8, .inl σ.1.1)), ((a 3), .inl ((k 1), n, .inl σ.1.2.1)), ((a 4), .inl ((k 2), 256, .inl σ.1.2.2.1)), ((a 5), .inl ((k 3), 2, .inr (.inl σ.1.2.2.2.2))), ((f 6), .inr (4, [.int 0, .ref (f 7), .ref (f 8), .int σ.2.1.2.1, .int σ.2.1.2.2.1, .int σ.2.1.2.2.2.1])), ((f 7), .inl ((kf 4), 32, .inl σ.2.1.1)), ((f 8), .inr (3, csF σ.2.1.2.2.2.2)), ((d 6), .inr (4, [.int 1, .ref (d 7), .ref (d 8), .int σ.2.2.2.1, .int σ.2.2.2.2.1, .int σ.2.2.2.2.2.1])), ((d 7), .inl ((kd 4), 32, .inl σ.2.2.1)), ((d 8), .inr (3, csF σ.2.2.2.2.2.2))]) (W2 := fun _ => wT t hs kh a f d k kf kd n σ) (xS (rest := []) ⟨hx, hb, hml, hown, hts⟩ (c_TwinHart_isHart x0) mw_TwinHart_isHart ms_TwinHart_isHart k_210 ⟨rfl, rfl, Nat.le_of_ble_eq_true rfl, Nat.le_of_ble_eq_true rfl⟩ hK hP hD hS hA hF [] [] rfl rfl rfl rfl hl.1 rfl (Nat.le_of_ble_eq_true rfl) d_TwinHart_step_1 ⟨Nat.zero_le _, Nat.zero_le _⟩) hP hD hS hA [] [0, 1, 2, 3, 4, 5, 6, 7, 8, 9, 10, 11, 12, 13] [0, 1, 2, 3, 4, 5, 6, 7, 8, 9, 10, 11, 12, 13] rfl rfl rfl (by decide) (fun _ => rfl) rfl (fun r_1 _ H locs h_1 hP hD hS => ?_)
    obtain ⟨h_1, z_1⟩ := h_1
    subst h_1
    refine lv_if_ne (tgt := 9) hx hb d_TwinHart_step_4 (by decide) (fun h9 => absurd q_2 h9) (fun _ => ?_)
    refine lv_iconst (v := (-1)) hx hb d_TwinHart_step_7 rfl ?_
    exact ri σ hx hb hr hlocks hP hD hS d_TwinHart_step_8 (by simp only [sp_TwinHart_step, if_neg q_0, if_neg q_1, if_pos q_2, if_true, if_false])
def sp_TwinHart_tick (n : Nat)  (σ : TT) : TT :=
  let u_1 := sp_Clint_advance σ.1.1
  ((u_1, σ.1.2.1, σ.1.2.2.1, σ.1.2.2.2.1, σ.1.2.2.2.2), σ.2.1, σ.2.2)
set_option maxHeartbeats 4000000 in
set_option maxRecDepth 100000 in
theorem c_TwinHart_tick {l : Launch} {D : va_G} {g : Nat → Nat} (t hs : Nat) (kh : ClassId) (a f d : Nat → Nat) (k kf kd : Nat → ClassId) (n : Nat)  (σ : TT) (hn : n ≤ 4096) : CT l D g y_TwinHart_tick b_TwinHart_tick 1 none (rD 1) [.ref t] (wT t hs kh a f d k kf kd n σ) (tyT k kf kd kh) (Qv D (fun (u : TT) => sp_TwinHart_tick n σ = u) (fun u => wT t hs kh a f d k kf kd n u)) := by
  refine CT.of rfl (Nat.le_of_ble_eq_true rfl) (fun p e s m below meth c A ls hx hb hr hml hts hown hlocks hA hP hK hD hF hS hl => ?_)
  have hl : lv_has ls 1 [(0, .ref t)] := hl
  refine lv_aload_n hx hb d_TwinHart_tick_0 rfl (lv_at hl 0 rfl) ?_
  refine va_get (D := D) (ci := 0) (v := .ref (a 0)) (C := R_TwinHart) (T := F_TwinHart) (N := 2) hx hb hts i_TwinHart hown hK hP 0 rfl rfl 0 (by decide) (hts _ k_166) (fun _ h9 => h9) rfl d_TwinHart_tick_1 ?_
  refine va_get (D := D) (ci := 1) (v := .ref (a 1)) (C := R_Memory) (T := F_Memory) (N := 5) hx hb hts i_Memory hown hK hP 2 rfl rfl 1 (by decide) (hts _ k_55) (fun _ h9 => h9) rfl d_TwinHart_tick_4 ?_
  refine xv (wr := [(t, .inr (0, [.ref (a 0), .ref hs])), (hs, .inl (kh, 2, .inr (.inr (.inr (.inr (hsF f d)))))), ((a 0), .inr (1, [.ref (a 3), .ref (a 1), .ref (a 4), .int σ.1.2.2.2.1, .ref (a 5)])), ((a 3), .inl ((k 1), n, .inl σ.1.2.1)), ((a 4), .inl ((k 2), 256, .inl σ.1.2.2.1)), ((a 5), .inl ((k 3), 2, .inr (.inl σ.1.2.2.2.2))), ((f 6), .inr (4, [.int 0, .ref (f 7), .ref (f 8), .int σ.2.1.2.1, .int σ.2.1.2.2.1, .int σ.2.1.2.2.2.1])), ((f 7), .inl ((kf 4), 32, .inl σ.2.1.1)), ((f 8), .inr (3, csF σ.2.1.2.2.2.2)), ((d 6), .inr (4, [.int 1, .ref (d 7), .ref (d 8), .int σ.2.2.2.1, .int σ.2.2.2.2.1, .int σ.2.2.2.2.2.1])), ((d 7), .inl ((kd 4), 32, .inl σ.2.2.1)), ((d 8), .inr (3, csF σ.2.2.2.2.2.2))]) (W2 := fun u9 => wT t hs kh a f d k kf kd n ((u9, σ.1.2.1, σ.1.2.2.1, σ.1.2.2.2.1, σ.1.2.2.2.2), σ.2.1, σ.2.2)) (xV (rest := []) ⟨hx, hb, hml, hown, hts⟩ (c_Clint_advance a k σ.1.1) mw_Clint_advance mv_Clint_advance k_566 ⟨rfl, rfl, Nat.le_of_ble_eq_true rfl, Nat.le_of_ble_eq_true rfl⟩ hK hP hD hS hA hF [3, 4] [0] rfl rfl rfl 3 2 rfl rfl rfl rfl hl.1 rfl (Nat.le_of_ble_eq_true rfl) d_TwinHart_tick_7 ⟨Nat.zero_le _, Nat.zero_le _⟩) hP hD hS hA [3, 4] [0, 1, 2, 5, 6, 7, 8, 9, 10, 11, 12, 13] [0, 1, 2, 12, 13, 3, 4, 5, 6, 7, 8, 9, 10, 11] rfl rfl rfl (by decide) (fun _ => rfl) rfl (fun u_1 H locs h_1 hP hD hS => ?_)
  exact rv ((u_1, σ.1.2.1, σ.1.2.2.1, σ.1.2.2.2.1, σ.1.2.2.2.2), σ.2.1, σ.2.2) hx hb hr hlocks hP hD hS d_TwinHart_tick_10 (by simp only [sp_TwinHart_tick, h_1])
def sp_TwinHart_register (n : Nat) (x0 : Int32) (x1 : Int32) (σ : TT) : Int32 :=
  if x0 = 0 then
    if (sp_TwinHart_isRegister x1) = 0 then
      0
    else
      σ.2.1.1 x1.toNatClampNeg
  else
    if x0 = 1 then
      if (sp_TwinHart_isRegister x1) = 0 then
        0
      else
        σ.2.2.1 x1.toNatClampNeg
    else
      0
set_option maxHeartbeats 4000000 in
set_option maxRecDepth 100000 in
theorem c_TwinHart_register {l : Launch} {D : va_G} {g : Nat → Nat} (t hs : Nat) (kh : ClassId) (a f d : Nat → Nat) (k kf kd : Nat → ClassId) (n : Nat) (x0 : Int32) (x1 : Int32) (σ : TT) (hn : n ≤ 4096) : CT l D g y_TwinHart_register b_TwinHart_register 3 (some .int) (rD 1) [.ref t, .int x0, .int x1] (wT t hs kh a f d k kf kd n σ) (tyT k kf kd kh) (Qi D (fun (r : Int32) (_ : Unit) => sp_TwinHart_register n x0 x1 σ = r) (fun _ => wT t hs kh a f d k kf kd n σ)) := by
  rcases hart3 x0 with rfl | rfl | ⟨q_0, q_1, q_2⟩
  · refine CT.of rfl (Nat.le_of_ble_eq_true rfl) (fun p e s m below meth c A ls hx hb hr hml hts hown hlocks hA hP hK hD hF hS hl => ?_)
    have hl : lv_has ls 3 [(0, .ref t), (1, .int 0), (2, .int x1)] := hl
    refine lv_iload_n hx hb d_TwinHart_register_0 rfl (lv_at hl 1 rfl) ?_
    refine xi (wr := [(t, .inr (0, [.ref (a 0), .ref hs])), (hs, .inl (kh, 2, .inr (.inr (.inr (.inr (hsF f d)))))), ((a 0), .inr (1, [.ref (a 3), .ref (a 1), .ref (a 4), .int σ.1.2.2.2.1, .ref (a 5)])), ((a 1), .inr (2, [.ref (a 2)])), ((a 2), .inl ((k 0), 8, .inl σ.1.1)), ((a 3), .inl ((k 1), n, .inl σ.1.2.1)), ((a 4), .inl ((k 2), 256, .inl σ.1.2.2.1)), ((a 5), .inl ((k 3), 2, .inr (.inl σ.1.2.2.2.2))), ((f 6), .inr (4, [.int 0, .ref (f 7), .ref (f 8), .int σ.2.1.2.1, .int σ.2.1.2.2.1, .int σ.2.1.2.2.2.1])), ((f 7), .inl ((kf 4), 32, .inl σ.2.1.1)), ((f 8), .inr (3, csF σ.2.1.2.2.2.2)), ((d 6), .inr (4, [.int 1, .ref (d 7), .ref (d 8), .int σ.2.2.2.1, .int σ.2.2.2.2.1, .int σ.2.2.2.2.2.1])), ((d 7), .inl ((kd 4), 32, .inl σ.2.2.1)), ((d 8), .inr (3, csF σ.2.2.2.2.2.2))]) (W2 := fun _ => wT t hs kh a f d k kf kd n σ) (xS (rest := []) ⟨hx, hb, hml, hown, hts⟩ (c_TwinHart_isHart 0) mw_TwinHart_isHart ms_TwinHart_isHart k_210 ⟨rfl, rfl, Nat.le_of_ble_eq_true rfl, Nat.le_of_ble_eq_true rfl⟩ hK hP hD hS hA hF [] [] rfl rfl rfl rfl hl.1 rfl (Nat.le_of_ble_eq_true rfl) d_TwinHart_register_1 ⟨Nat.zero_le _, Nat.zero_le _⟩) hP hD hS hA [] [0, 1, 2, 3, 4, 5, 6, 7, 8, 9, 10, 11, 12, 13] [0, 1, 2, 3, 4, 5, 6, 7, 8, 9, 10, 11, 12, 13] rfl rfl rfl (by decide) (fun _ => rfl) rfl (fun r_1 _ H locs h_1 hP hD hS => ?_)
    obtain ⟨h_1, z_1⟩ := h_1
    subst h_1
    refine W.eq (g2 := F0 m 4 ls [.int 1]) rfl ?_
    refine lv_if_eq (tgt := 28) hx hb d_TwinHart_register_4 (by decide) (fun h9 => absurd h9 (by decide)) (fun _ => ?_)
    refine lv_iload_n hx hb d_TwinHart_register_7 rfl (lv_at hl 2 rfl) ?_
    refine xi (wr := [(t, .inr (0, [.ref (a 0), .ref hs])), (hs, .inl (kh, 2, .inr (.inr (.inr (.inr (hsF f d)))))), ((a 0), .inr (1, [.ref (a 3), .ref (a 1), .ref (a 4), .int σ.1.2.2.2.1, .ref (a 5)])), ((a 1), .inr (2, [.ref (a 2)])), ((a 2), .inl ((k 0), 8, .inl σ.1.1)), ((a 3), .inl ((k 1), n, .inl σ.1.2.1)), ((a 4), .inl ((k 2), 256, .inl σ.1.2.2.1)), ((a 5), .inl ((k 3), 2, .inr (.inl σ.1.2.2.2.2))), ((f 6), .inr (4, [.int 0, .ref (f 7), .ref (f 8), .int σ.2.1.2.1, .int σ.2.1.2.2.1, .int σ.2.1.2.2.2.1])), ((f 7), .inl ((kf 4), 32, .inl σ.2.1.1)), ((f 8), .inr (3, csF σ.2.1.2.2.2.2)), ((d 6), .inr (4, [.int 1, .ref (d 7), .ref (d 8), .int σ.2.2.2.1, .int σ.2.2.2.2.1, .int σ.2.2.2.2.2.1])), ((d 7), .inl ((kd 4), 32, .inl σ.2.2.1)), ((d 8), .inr (3, csF σ.2.2.2.2.2.2))]) (W2 := fun _ => wT t hs kh a f d k kf kd n σ) (xS (rest := []) ⟨hx, hb, hml, hown, hts⟩ (c_TwinHart_isRegister x1) mw_TwinHart_isRegister ms_TwinHart_isRegister k_574 ⟨rfl, rfl, Nat.le_of_ble_eq_true rfl, Nat.le_of_ble_eq_true rfl⟩ hK hP hD hS hA hF [] [] rfl rfl rfl rfl hl.1 rfl (Nat.le_of_ble_eq_true rfl) d_TwinHart_register_8 ⟨Nat.zero_le _, Nat.zero_le _⟩) hP hD hS hA [] [0, 1, 2, 3, 4, 5, 6, 7, 8, 9, 10, 11, 12, 13] [0, 1, 2, 3, 4, 5, 6, 7, 8, 9, 10, 11, 12, 13] rfl rfl rfl (by decide) (fun _ => rfl) rfl (fun r_3 _ H locs h_3 hP hD hS => ?_)
    obtain ⟨h_3, z_3⟩ := h_3
    subst h_3
    refine lv_if_eq (tgt := 28) hx hb d_TwinHart_register_11 (by decide) (fun c_4 => ?_) (fun c_4 => ?_)
    · refine lv_iconst (v := 0) hx hb d_TwinHart_register_28 rfl ?_
      exact ri () hx hb hr hlocks hP hD hS d_TwinHart_register_29 (by simp only [sp_TwinHart_register, if_pos (rfl : (0 : Int32) = 0), if_pos c_4, if_true, if_false])
    · refine lv_aload_n hx hb d_TwinHart_register_14 rfl (lv_at hl 0 rfl) ?_
      refine va_get (D := D) (ci := 0) (v := .ref hs) (C := R_TwinHart) (T := F_TwinHart) (N := 2) hx hb hts i_TwinHart hown hK hP 0 rfl rfl 1 (by decide) (hts _ k_167) (fun _ h9 => h9) rfl d_TwinHart_register_15 ?_
      refine lv_iload_n hx hb d_TwinHart_register_18 rfl (lv_at hl 1 rfl) ?_
      refine va_aldq (C := R_Hart) hx hb hK hP 1 6 rfl rfl (by unfold vp_in; decide) d_TwinHart_register_19 ?_
      refine W.eq (g2 := F0 m 20 ls [.ref (f 6)]) rfl ?_
      refine va_get (D := D) (ci := 4) (v := .ref (f 7)) (C := R_Hart) (T := F_Hart) (N := 6) hx hb hts i_Hart hown hK hP 8 rfl rfl 1 (by decide) (hts _ k_145) (fun _ h9 => h9) rfl d_TwinHart_register_20 ?_
      refine lv_iload_n hx hb d_TwinHart_register_23 rfl (lv_at hl 2 rfl) ?_
      refine y_iald (v := σ.2.1.1 x1.toNatClampNeg) hx hb hK hP 9 4 rfl rfl (vp_isReg c_4) rfl d_TwinHart_register_24 ?_
      refine lv_goto (tgt := 29) hx hb d_TwinHart_register_25 (by decide) ?_
      exact ri () hx hb hr hlocks hP hD hS d_TwinHart_register_29 (by simp only [sp_TwinHart_register, if_pos (rfl : (0 : Int32) = 0), if_neg c_4, if_true, if_false])
  · refine CT.of rfl (Nat.le_of_ble_eq_true rfl) (fun p e s m below meth c A ls hx hb hr hml hts hown hlocks hA hP hK hD hF hS hl => ?_)
    have hl : lv_has ls 3 [(0, .ref t), (1, .int 1), (2, .int x1)] := hl
    refine lv_iload_n hx hb d_TwinHart_register_0 rfl (lv_at hl 1 rfl) ?_
    refine xi (wr := [(t, .inr (0, [.ref (a 0), .ref hs])), (hs, .inl (kh, 2, .inr (.inr (.inr (.inr (hsF f d)))))), ((a 0), .inr (1, [.ref (a 3), .ref (a 1), .ref (a 4), .int σ.1.2.2.2.1, .ref (a 5)])), ((a 1), .inr (2, [.ref (a 2)])), ((a 2), .inl ((k 0), 8, .inl σ.1.1)), ((a 3), .inl ((k 1), n, .inl σ.1.2.1)), ((a 4), .inl ((k 2), 256, .inl σ.1.2.2.1)), ((a 5), .inl ((k 3), 2, .inr (.inl σ.1.2.2.2.2))), ((f 6), .inr (4, [.int 0, .ref (f 7), .ref (f 8), .int σ.2.1.2.1, .int σ.2.1.2.2.1, .int σ.2.1.2.2.2.1])), ((f 7), .inl ((kf 4), 32, .inl σ.2.1.1)), ((f 8), .inr (3, csF σ.2.1.2.2.2.2)), ((d 6), .inr (4, [.int 1, .ref (d 7), .ref (d 8), .int σ.2.2.2.1, .int σ.2.2.2.2.1, .int σ.2.2.2.2.2.1])), ((d 7), .inl ((kd 4), 32, .inl σ.2.2.1)), ((d 8), .inr (3, csF σ.2.2.2.2.2.2))]) (W2 := fun _ => wT t hs kh a f d k kf kd n σ) (xS (rest := []) ⟨hx, hb, hml, hown, hts⟩ (c_TwinHart_isHart 1) mw_TwinHart_isHart ms_TwinHart_isHart k_210 ⟨rfl, rfl, Nat.le_of_ble_eq_true rfl, Nat.le_of_ble_eq_true rfl⟩ hK hP hD hS hA hF [] [] rfl rfl rfl rfl hl.1 rfl (Nat.le_of_ble_eq_true rfl) d_TwinHart_register_1 ⟨Nat.zero_le _, Nat.zero_le _⟩) hP hD hS hA [] [0, 1, 2, 3, 4, 5, 6, 7, 8, 9, 10, 11, 12, 13] [0, 1, 2, 3, 4, 5, 6, 7, 8, 9, 10, 11, 12, 13] rfl rfl rfl (by decide) (fun _ => rfl) rfl (fun r_1 _ H locs h_1 hP hD hS => ?_)
    obtain ⟨h_1, z_1⟩ := h_1
    subst h_1
    refine W.eq (g2 := F0 m 4 ls [.int 1]) rfl ?_
    refine lv_if_eq (tgt := 28) hx hb d_TwinHart_register_4 (by decide) (fun h9 => absurd h9 (by decide)) (fun _ => ?_)
    refine lv_iload_n hx hb d_TwinHart_register_7 rfl (lv_at hl 2 rfl) ?_
    refine xi (wr := [(t, .inr (0, [.ref (a 0), .ref hs])), (hs, .inl (kh, 2, .inr (.inr (.inr (.inr (hsF f d)))))), ((a 0), .inr (1, [.ref (a 3), .ref (a 1), .ref (a 4), .int σ.1.2.2.2.1, .ref (a 5)])), ((a 1), .inr (2, [.ref (a 2)])), ((a 2), .inl ((k 0), 8, .inl σ.1.1)), ((a 3), .inl ((k 1), n, .inl σ.1.2.1)), ((a 4), .inl ((k 2), 256, .inl σ.1.2.2.1)), ((a 5), .inl ((k 3), 2, .inr (.inl σ.1.2.2.2.2))), ((f 6), .inr (4, [.int 0, .ref (f 7), .ref (f 8), .int σ.2.1.2.1, .int σ.2.1.2.2.1, .int σ.2.1.2.2.2.1])), ((f 7), .inl ((kf 4), 32, .inl σ.2.1.1)), ((f 8), .inr (3, csF σ.2.1.2.2.2.2)), ((d 6), .inr (4, [.int 1, .ref (d 7), .ref (d 8), .int σ.2.2.2.1, .int σ.2.2.2.2.1, .int σ.2.2.2.2.2.1])), ((d 7), .inl ((kd 4), 32, .inl σ.2.2.1)), ((d 8), .inr (3, csF σ.2.2.2.2.2.2))]) (W2 := fun _ => wT t hs kh a f d k kf kd n σ) (xS (rest := []) ⟨hx, hb, hml, hown, hts⟩ (c_TwinHart_isRegister x1) mw_TwinHart_isRegister ms_TwinHart_isRegister k_574 ⟨rfl, rfl, Nat.le_of_ble_eq_true rfl, Nat.le_of_ble_eq_true rfl⟩ hK hP hD hS hA hF [] [] rfl rfl rfl rfl hl.1 rfl (Nat.le_of_ble_eq_true rfl) d_TwinHart_register_8 ⟨Nat.zero_le _, Nat.zero_le _⟩) hP hD hS hA [] [0, 1, 2, 3, 4, 5, 6, 7, 8, 9, 10, 11, 12, 13] [0, 1, 2, 3, 4, 5, 6, 7, 8, 9, 10, 11, 12, 13] rfl rfl rfl (by decide) (fun _ => rfl) rfl (fun r_3 _ H locs h_3 hP hD hS => ?_)
    obtain ⟨h_3, z_3⟩ := h_3
    subst h_3
    refine lv_if_eq (tgt := 28) hx hb d_TwinHart_register_11 (by decide) (fun c_4 => ?_) (fun c_4 => ?_)
    · refine lv_iconst (v := 0) hx hb d_TwinHart_register_28 rfl ?_
      exact ri () hx hb hr hlocks hP hD hS d_TwinHart_register_29 (by simp only [sp_TwinHart_register, if_neg (by decide : ¬ (1 : Int32) = 0), if_pos (rfl : (1 : Int32) = 1), if_pos c_4, if_true, if_false])
    · refine lv_aload_n hx hb d_TwinHart_register_14 rfl (lv_at hl 0 rfl) ?_
      refine va_get (D := D) (ci := 0) (v := .ref hs) (C := R_TwinHart) (T := F_TwinHart) (N := 2) hx hb hts i_TwinHart hown hK hP 0 rfl rfl 1 (by decide) (hts _ k_167) (fun _ h9 => h9) rfl d_TwinHart_register_15 ?_
      refine lv_iload_n hx hb d_TwinHart_register_18 rfl (lv_at hl 1 rfl) ?_
      refine va_aldq (C := R_Hart) hx hb hK hP 1 6 rfl rfl (by unfold vp_in; decide) d_TwinHart_register_19 ?_
      refine W.eq (g2 := F0 m 20 ls [.ref (d 6)]) rfl ?_
      refine va_get (D := D) (ci := 4) (v := .ref (d 7)) (C := R_Hart) (T := F_Hart) (N := 6) hx hb hts i_Hart hown hK hP 11 rfl rfl 1 (by decide) (hts _ k_145) (fun _ h9 => h9) rfl d_TwinHart_register_20 ?_
      refine lv_iload_n hx hb d_TwinHart_register_23 rfl (lv_at hl 2 rfl) ?_
      refine y_iald (v := σ.2.2.1 x1.toNatClampNeg) hx hb hK hP 12 5 rfl rfl (vp_isReg c_4) rfl d_TwinHart_register_24 ?_
      refine lv_goto (tgt := 29) hx hb d_TwinHart_register_25 (by decide) ?_
      exact ri () hx hb hr hlocks hP hD hS d_TwinHart_register_29 (by simp only [sp_TwinHart_register, if_neg (by decide : ¬ (1 : Int32) = 0), if_pos (rfl : (1 : Int32) = 1), if_neg c_4, if_true, if_false])
  · refine CT.of rfl (Nat.le_of_ble_eq_true rfl) (fun p e s m below meth c A ls hx hb hr hml hts hown hlocks hA hP hK hD hF hS hl => ?_)
    have hl : lv_has ls 3 [(0, .ref t), (1, .int x0), (2, .int x1)] := hl
    refine lv_iload_n hx hb d_TwinHart_register_0 rfl (lv_at hl 1 rfl) ?_
    refine xi (wr := [(t, .inr (0, [.ref (a 0), .ref hs])), (hs, .inl (kh, 2, .inr (.inr (.inr (.inr (hsF f d)))))), ((a 0), .inr (1, [.ref (a 3), .ref (a 1), .ref (a 4), .int σ.1.2.2.2.1, .ref (a 5)])), ((a 1), .inr (2, [.ref (a 2)])), ((a 2), .inl ((k 0), 8, .inl σ.1.1)), ((a 3), .inl ((k 1), n, .inl σ.1.2.1)), ((a 4), .inl ((k 2), 256, .inl σ.1.2.2.1)), ((a 5), .inl ((k 3), 2, .inr (.inl σ.1.2.2.2.2))), ((f 6), .inr (4, [.int 0, .ref (f 7), .ref (f 8), .int σ.2.1.2.1, .int σ.2.1.2.2.1, .int σ.2.1.2.2.2.1])), ((f 7), .inl ((kf 4), 32, .inl σ.2.1.1)), ((f 8), .inr (3, csF σ.2.1.2.2.2.2)), ((d 6), .inr (4, [.int 1, .ref (d 7), .ref (d 8), .int σ.2.2.2.1, .int σ.2.2.2.2.1, .int σ.2.2.2.2.2.1])), ((d 7), .inl ((kd 4), 32, .inl σ.2.2.1)), ((d 8), .inr (3, csF σ.2.2.2.2.2.2))]) (W2 := fun _ => wT t hs kh a f d k kf kd n σ) (xS (rest := []) ⟨hx, hb, hml, hown, hts⟩ (c_TwinHart_isHart x0) mw_TwinHart_isHart ms_TwinHart_isHart k_210 ⟨rfl, rfl, Nat.le_of_ble_eq_true rfl, Nat.le_of_ble_eq_true rfl⟩ hK hP hD hS hA hF [] [] rfl rfl rfl rfl hl.1 rfl (Nat.le_of_ble_eq_true rfl) d_TwinHart_register_1 ⟨Nat.zero_le _, Nat.zero_le _⟩) hP hD hS hA [] [0, 1, 2, 3, 4, 5, 6, 7, 8, 9, 10, 11, 12, 13] [0, 1, 2, 3, 4, 5, 6, 7, 8, 9, 10, 11, 12, 13] rfl rfl rfl (by decide) (fun _ => rfl) rfl (fun r_1 _ H locs h_1 hP hD hS => ?_)
    obtain ⟨h_1, z_1⟩ := h_1
    subst h_1
    refine lv_if_eq (tgt := 28) hx hb d_TwinHart_register_4 (by decide) (fun _ => ?_) (fun h9 => absurd q_2 h9)
    refine lv_iconst (v := 0) hx hb d_TwinHart_register_28 rfl ?_
    exact ri () hx hb hr hlocks hP hD hS d_TwinHart_register_29 (by simp only [sp_TwinHart_register, if_neg q_0, if_neg q_1, if_pos q_2, if_true, if_false])
def sp_TwinHart_set (n : Nat) (x0 : Int32) (x1 : Int32) (x2 : Int32) (σ : TT) : Int32 × TT :=
  if x0 = 0 then
    if (sp_TwinHart_isRegister x1) = 0 then
      (0, σ)
    else
      if x1 = 0 then
        (0, σ)
      else
        (1, (σ.1, ((upd σ.2.1.1 x1.toNatClampNeg x2), σ.2.1.2.1, σ.2.1.2.2.1, σ.2.1.2.2.2.1, σ.2.1.2.2.2.2), σ.2.2))
  else
    if x0 = 1 then
      if (sp_TwinHart_isRegister x1) = 0 then
        (0, σ)
      else
        if x1 = 0 then
          (0, σ)
        else
          (1, (σ.1, σ.2.1, ((upd σ.2.2.1 x1.toNatClampNeg x2), σ.2.2.2.1, σ.2.2.2.2.1, σ.2.2.2.2.2.1, σ.2.2.2.2.2.2)))
    else
      (0, σ)
set_option maxHeartbeats 4000000 in
set_option maxRecDepth 100000 in
theorem c_TwinHart_set {l : Launch} {D : va_G} {g : Nat → Nat} (t hs : Nat) (kh : ClassId) (a f d : Nat → Nat) (k kf kd : Nat → ClassId) (n : Nat) (x0 : Int32) (x1 : Int32) (x2 : Int32) (σ : TT) (hn : n ≤ 4096) : CT l D g y_TwinHart_set b_TwinHart_set 4 (some .boolean) (rD 1) [.ref t, .int x0, .int x1, .int x2] (wT t hs kh a f d k kf kd n σ) (tyT k kf kd kh) (Qi D (fun (r : Int32) (u : TT) => sp_TwinHart_set n x0 x1 x2 σ = (r, u) ∧ (r = 0 ∨ r = 1)) (fun u => wT t hs kh a f d k kf kd n u)) := by
  rcases hart3 x0 with rfl | rfl | ⟨q_0, q_1, q_2⟩
  · refine CT.of rfl (Nat.le_of_ble_eq_true rfl) (fun p e s m below meth c A ls hx hb hr hml hts hown hlocks hA hP hK hD hF hS hl => ?_)
    have hl : lv_has ls 4 [(0, .ref t), (1, .int 0), (2, .int x1), (3, .int x2)] := hl
    refine lv_iload_n hx hb d_TwinHart_set_0 rfl (lv_at hl 1 rfl) ?_
    refine xi (wr := [(t, .inr (0, [.ref (a 0), .ref hs])), (hs, .inl (kh, 2, .inr (.inr (.inr (.inr (hsF f d)))))), ((a 0), .inr (1, [.ref (a 3), .ref (a 1), .ref (a 4), .int σ.1.2.2.2.1, .ref (a 5)])), ((a 1), .inr (2, [.ref (a 2)])), ((a 2), .inl ((k 0), 8, .inl σ.1.1)), ((a 3), .inl ((k 1), n, .inl σ.1.2.1)), ((a 4), .inl ((k 2), 256, .inl σ.1.2.2.1)), ((a 5), .inl ((k 3), 2, .inr (.inl σ.1.2.2.2.2))), ((f 6), .inr (4, [.int 0, .ref (f 7), .ref (f 8), .int σ.2.1.2.1, .int σ.2.1.2.2.1, .int σ.2.1.2.2.2.1])), ((f 7), .inl ((kf 4), 32, .inl σ.2.1.1)), ((f 8), .inr (3, csF σ.2.1.2.2.2.2)), ((d 6), .inr (4, [.int 1, .ref (d 7), .ref (d 8), .int σ.2.2.2.1, .int σ.2.2.2.2.1, .int σ.2.2.2.2.2.1])), ((d 7), .inl ((kd 4), 32, .inl σ.2.2.1)), ((d 8), .inr (3, csF σ.2.2.2.2.2.2))]) (W2 := fun _ => wT t hs kh a f d k kf kd n σ) (xS (rest := []) ⟨hx, hb, hml, hown, hts⟩ (c_TwinHart_isHart 0) mw_TwinHart_isHart ms_TwinHart_isHart k_210 ⟨rfl, rfl, Nat.le_of_ble_eq_true rfl, Nat.le_of_ble_eq_true rfl⟩ hK hP hD hS hA hF [] [] rfl rfl rfl rfl hl.1 rfl (Nat.le_of_ble_eq_true rfl) d_TwinHart_set_1 ⟨Nat.zero_le _, Nat.zero_le _⟩) hP hD hS hA [] [0, 1, 2, 3, 4, 5, 6, 7, 8, 9, 10, 11, 12, 13] [0, 1, 2, 3, 4, 5, 6, 7, 8, 9, 10, 11, 12, 13] rfl rfl rfl (by decide) (fun _ => rfl) rfl (fun r_1 _ H locs h_1 hP hD hS => ?_)
    obtain ⟨h_1, z_1⟩ := h_1
    subst h_1
    refine W.eq (g2 := F0 m 4 ls [.int 1]) rfl ?_
    refine lv_if_eq (tgt := 18) hx hb d_TwinHart_set_4 (by decide) (fun h9 => absurd h9 (by decide)) (fun _ => ?_)
    refine lv_iload_n hx hb d_TwinHart_set_7 rfl (lv_at hl 2 rfl) ?_
    refine xi (wr := [(t, .inr (0, [.ref (a 0), .ref hs])), (hs, .inl (kh, 2, .inr (.inr (.inr (.inr (hsF f d)))))), ((a 0), .inr (1, [.ref (a 3), .ref (a 1), .ref (a 4), .int σ.1.2.2.2.1, .ref (a 5)])), ((a 1), .inr (2, [.ref (a 2)])), ((a 2), .inl ((k 0), 8, .inl σ.1.1)), ((a 3), .inl ((k 1), n, .inl σ.1.2.1)), ((a 4), .inl ((k 2), 256, .inl σ.1.2.2.1)), ((a 5), .inl ((k 3), 2, .inr (.inl σ.1.2.2.2.2))), ((f 6), .inr (4, [.int 0, .ref (f 7), .ref (f 8), .int σ.2.1.2.1, .int σ.2.1.2.2.1, .int σ.2.1.2.2.2.1])), ((f 7), .inl ((kf 4), 32, .inl σ.2.1.1)), ((f 8), .inr (3, csF σ.2.1.2.2.2.2)), ((d 6), .inr (4, [.int 1, .ref (d 7), .ref (d 8), .int σ.2.2.2.1, .int σ.2.2.2.2.1, .int σ.2.2.2.2.2.1])), ((d 7), .inl ((kd 4), 32, .inl σ.2.2.1)), ((d 8), .inr (3, csF σ.2.2.2.2.2.2))]) (W2 := fun _ => wT t hs kh a f d k kf kd n σ) (xS (rest := []) ⟨hx, hb, hml, hown, hts⟩ (c_TwinHart_isRegister x1) mw_TwinHart_isRegister ms_TwinHart_isRegister k_574 ⟨rfl, rfl, Nat.le_of_ble_eq_true rfl, Nat.le_of_ble_eq_true rfl⟩ hK hP hD hS hA hF [] [] rfl rfl rfl rfl hl.1 rfl (Nat.le_of_ble_eq_true rfl) d_TwinHart_set_8 ⟨Nat.zero_le _, Nat.zero_le _⟩) hP hD hS hA [] [0, 1, 2, 3, 4, 5, 6, 7, 8, 9, 10, 11, 12, 13] [0, 1, 2, 3, 4, 5, 6, 7, 8, 9, 10, 11, 12, 13] rfl rfl rfl (by decide) (fun _ => rfl) rfl (fun r_3 _ H locs h_3 hP hD hS => ?_)
    obtain ⟨h_3, z_3⟩ := h_3
    subst h_3
    refine lv_if_eq (tgt := 18) hx hb d_TwinHart_set_11 (by decide) (fun c_4 => ?_) (fun c_4 => ?_)
    · refine lv_iconst (v := 0) hx hb d_TwinHart_set_18 rfl ?_
      exact rz σ hx hb hr hlocks rfl hP hD hS d_TwinHart_set_19 ⟨by simp only [sp_TwinHart_set, if_pos (rfl : (0 : Int32) = 0), if_pos c_4, if_true, if_false], Or.inl rfl⟩
    · refine lv_iload_n hx hb d_TwinHart_set_14 rfl (lv_at hl 2 rfl) ?_
      refine lv_if_ne (tgt := 20) hx hb d_TwinHart_set_15 (by decide) (fun c_5 => ?_) (fun c_5 => ?_)
      · refine lv_aload_n hx hb d_TwinHart_set_20 rfl (lv_at hl 0 rfl) ?_
        refine va_get (D := D) (ci := 0) (v := .ref hs) (C := R_TwinHart) (T := F_TwinHart) (N := 2) hx hb hts i_TwinHart hown hK hP 0 rfl rfl 1 (by decide) (hts _ k_167) (fun _ h9 => h9) rfl d_TwinHart_set_21 ?_
        refine lv_iload_n hx hb d_TwinHart_set_24 rfl (lv_at hl 1 rfl) ?_
        refine va_aldq (C := R_Hart) hx hb hK hP 1 6 rfl rfl (by unfold vp_in; decide) d_TwinHart_set_25 ?_
        refine W.eq (g2 := F0 m 26 ls [.ref (f 6)]) rfl ?_
        refine va_get (D := D) (ci := 4) (v := .ref (f 7)) (C := R_Hart) (T := F_Hart) (N := 6) hx hb hts i_Hart hown hK hP 8 rfl rfl 1 (by decide) (hts _ k_145) (fun _ h9 => h9) rfl d_TwinHart_set_26 ?_
        refine lv_iload_n hx hb d_TwinHart_set_29 rfl (lv_at hl 2 rfl) ?_
        refine lv_iload_n hx hb d_TwinHart_set_30 rfl (lv_at hl 3 rfl) ?_
        refine y_iast (ws' := wT t hs kh a f d k kf kd n (σ.1, ((upd σ.2.1.1 x1.toNatClampNeg x2), σ.2.1.2.1, σ.2.1.2.2.1, σ.2.1.2.2.2.1, σ.2.1.2.2.2.2), σ.2.2)) hx hb hK hP hD hS 9 4 rfl rfl (vp_isReg c_4) d_TwinHart_set_31 rfl (fun H locs hP hD hS => ?_)
        refine lv_iconst (v := 1) hx hb d_TwinHart_set_32 rfl ?_
        exact rz (σ.1, ((upd σ.2.1.1 x1.toNatClampNeg x2), σ.2.1.2.1, σ.2.1.2.2.1, σ.2.1.2.2.2.1, σ.2.1.2.2.2.2), σ.2.2) hx hb hr hlocks rfl hP hD hS d_TwinHart_set_33 ⟨by simp only [sp_TwinHart_set, if_pos (rfl : (0 : Int32) = 0), if_neg c_4, if_neg c_5, if_true, if_false], Or.inr rfl⟩
      · refine lv_iconst (v := 0) hx hb d_TwinHart_set_18 rfl ?_
        exact rz σ hx hb hr hlocks rfl hP hD hS d_TwinHart_set_19 ⟨by simp only [sp_TwinHart_set, if_pos (rfl : (0 : Int32) = 0), if_neg c_4, if_pos c_5, if_true, if_false], Or.inl rfl⟩
  · refine CT.of rfl (Nat.le_of_ble_eq_true rfl) (fun p e s m below meth c A ls hx hb hr hml hts hown hlocks hA hP hK hD hF hS hl => ?_)
    have hl : lv_has ls 4 [(0, .ref t), (1, .int 1), (2, .int x1), (3, .int x2)] := hl
    refine lv_iload_n hx hb d_TwinHart_set_0 rfl (lv_at hl 1 rfl) ?_
    refine xi (wr := [(t, .inr (0, [.ref (a 0), .ref hs])), (hs, .inl (kh, 2, .inr (.inr (.inr (.inr (hsF f d)))))), ((a 0), .inr (1, [.ref (a 3), .ref (a 1), .ref (a 4), .int σ.1.2.2.2.1, .ref (a 5)])), ((a 1), .inr (2, [.ref (a 2)])), ((a 2), .inl ((k 0), 8, .inl σ.1.1)), ((a 3), .inl ((k 1), n, .inl σ.1.2.1)), ((a 4), .inl ((k 2), 256, .inl σ.1.2.2.1)), ((a 5), .inl ((k 3), 2, .inr (.inl σ.1.2.2.2.2))), ((f 6), .inr (4, [.int 0, .ref (f 7), .ref (f 8), .int σ.2.1.2.1, .int σ.2.1.2.2.1, .int σ.2.1.2.2.2.1])), ((f 7), .inl ((kf 4), 32, .inl σ.2.1.1)), ((f 8), .inr (3, csF σ.2.1.2.2.2.2)), ((d 6), .inr (4, [.int 1, .ref (d 7), .ref (d 8), .int σ.2.2.2.1, .int σ.2.2.2.2.1, .int σ.2.2.2.2.2.1])), ((d 7), .inl ((kd 4), 32, .inl σ.2.2.1)), ((d 8), .inr (3, csF σ.2.2.2.2.2.2))]) (W2 := fun _ => wT t hs kh a f d k kf kd n σ) (xS (rest := []) ⟨hx, hb, hml, hown, hts⟩ (c_TwinHart_isHart 1) mw_TwinHart_isHart ms_TwinHart_isHart k_210 ⟨rfl, rfl, Nat.le_of_ble_eq_true rfl, Nat.le_of_ble_eq_true rfl⟩ hK hP hD hS hA hF [] [] rfl rfl rfl rfl hl.1 rfl (Nat.le_of_ble_eq_true rfl) d_TwinHart_set_1 ⟨Nat.zero_le _, Nat.zero_le _⟩) hP hD hS hA [] [0, 1, 2, 3, 4, 5, 6, 7, 8, 9, 10, 11, 12, 13] [0, 1, 2, 3, 4, 5, 6, 7, 8, 9, 10, 11, 12, 13] rfl rfl rfl (by decide) (fun _ => rfl) rfl (fun r_1 _ H locs h_1 hP hD hS => ?_)
    obtain ⟨h_1, z_1⟩ := h_1
    subst h_1
    refine W.eq (g2 := F0 m 4 ls [.int 1]) rfl ?_
    refine lv_if_eq (tgt := 18) hx hb d_TwinHart_set_4 (by decide) (fun h9 => absurd h9 (by decide)) (fun _ => ?_)
    refine lv_iload_n hx hb d_TwinHart_set_7 rfl (lv_at hl 2 rfl) ?_
    refine xi (wr := [(t, .inr (0, [.ref (a 0), .ref hs])), (hs, .inl (kh, 2, .inr (.inr (.inr (.inr (hsF f d)))))), ((a 0), .inr (1, [.ref (a 3), .ref (a 1), .ref (a 4), .int σ.1.2.2.2.1, .ref (a 5)])), ((a 1), .inr (2, [.ref (a 2)])), ((a 2), .inl ((k 0), 8, .inl σ.1.1)), ((a 3), .inl ((k 1), n, .inl σ.1.2.1)), ((a 4), .inl ((k 2), 256, .inl σ.1.2.2.1)), ((a 5), .inl ((k 3), 2, .inr (.inl σ.1.2.2.2.2))), ((f 6), .inr (4, [.int 0, .ref (f 7), .ref (f 8), .int σ.2.1.2.1, .int σ.2.1.2.2.1, .int σ.2.1.2.2.2.1])), ((f 7), .inl ((kf 4), 32, .inl σ.2.1.1)), ((f 8), .inr (3, csF σ.2.1.2.2.2.2)), ((d 6), .inr (4, [.int 1, .ref (d 7), .ref (d 8), .int σ.2.2.2.1, .int σ.2.2.2.2.1, .int σ.2.2.2.2.2.1])), ((d 7), .inl ((kd 4), 32, .inl σ.2.2.1)), ((d 8), .inr (3, csF σ.2.2.2.2.2.2))]) (W2 := fun _ => wT t hs kh a f d k kf kd n σ) (xS (rest := []) ⟨hx, hb, hml, hown, hts⟩ (c_TwinHart_isRegister x1) mw_TwinHart_isRegister ms_TwinHart_isRegister k_574 ⟨rfl, rfl, Nat.le_of_ble_eq_true rfl, Nat.le_of_ble_eq_true rfl⟩ hK hP hD hS hA hF [] [] rfl rfl rfl rfl hl.1 rfl (Nat.le_of_ble_eq_true rfl) d_TwinHart_set_8 ⟨Nat.zero_le _, Nat.zero_le _⟩) hP hD hS hA [] [0, 1, 2, 3, 4, 5, 6, 7, 8, 9, 10, 11, 12, 13] [0, 1, 2, 3, 4, 5, 6, 7, 8, 9, 10, 11, 12, 13] rfl rfl rfl (by decide) (fun _ => rfl) rfl (fun r_3 _ H locs h_3 hP hD hS => ?_)
    obtain ⟨h_3, z_3⟩ := h_3
    subst h_3
    refine lv_if_eq (tgt := 18) hx hb d_TwinHart_set_11 (by decide) (fun c_4 => ?_) (fun c_4 => ?_)
    · refine lv_iconst (v := 0) hx hb d_TwinHart_set_18 rfl ?_
      exact rz σ hx hb hr hlocks rfl hP hD hS d_TwinHart_set_19 ⟨by simp only [sp_TwinHart_set, if_neg (by decide : ¬ (1 : Int32) = 0), if_pos (rfl : (1 : Int32) = 1), if_pos c_4, if_true, if_false], Or.inl rfl⟩
    · refine lv_iload_n hx hb d_TwinHart_set_14 rfl (lv_at hl 2 rfl) ?_
      refine lv_if_ne (tgt := 20) hx hb d_TwinHart_set_15 (by decide) (fun c_5 => ?_) (fun c_5 => ?_)
      · refine lv_aload_n hx hb d_TwinHart_set_20 rfl (lv_at hl 0 rfl) ?_
        refine va_get (D := D) (ci := 0) (v := .ref hs) (C := R_TwinHart) (T := F_TwinHart) (N := 2) hx hb hts i_TwinHart hown hK hP 0 rfl rfl 1 (by decide) (hts _ k_167) (fun _ h9 => h9) rfl d_TwinHart_set_21 ?_
        refine lv_iload_n hx hb d_TwinHart_set_24 rfl (lv_at hl 1 rfl) ?_
        refine va_aldq (C := R_Hart) hx hb hK hP 1 6 rfl rfl (by unfold vp_in; decide) d_TwinHart_set_25 ?_
        refine W.eq (g2 := F0 m 26 ls [.ref (d 6)]) rfl ?_
        refine va_get (D := D) (ci := 4) (v := .ref (d 7)) (C := R_Hart) (T := F_Hart) (N := 6) hx hb hts i_Hart hown hK hP 11 rfl rfl 1 (by decide) (hts _ k_145) (fun _ h9 => h9) rfl d_TwinHart_set_26 ?_
        refine lv_iload_n hx hb d_TwinHart_set_29 rfl (lv_at hl 2 rfl) ?_
        refine lv_iload_n hx hb d_TwinHart_set_30 rfl (lv_at hl 3 rfl) ?_
        refine y_iast (ws' := wT t hs kh a f d k kf kd n (σ.1, σ.2.1, ((upd σ.2.2.1 x1.toNatClampNeg x2), σ.2.2.2.1, σ.2.2.2.2.1, σ.2.2.2.2.2.1, σ.2.2.2.2.2.2))) hx hb hK hP hD hS 12 5 rfl rfl (vp_isReg c_4) d_TwinHart_set_31 rfl (fun H locs hP hD hS => ?_)
        refine lv_iconst (v := 1) hx hb d_TwinHart_set_32 rfl ?_
        exact rz (σ.1, σ.2.1, ((upd σ.2.2.1 x1.toNatClampNeg x2), σ.2.2.2.1, σ.2.2.2.2.1, σ.2.2.2.2.2.1, σ.2.2.2.2.2.2)) hx hb hr hlocks rfl hP hD hS d_TwinHart_set_33 ⟨by simp only [sp_TwinHart_set, if_neg (by decide : ¬ (1 : Int32) = 0), if_pos (rfl : (1 : Int32) = 1), if_neg c_4, if_neg c_5, if_true, if_false], Or.inr rfl⟩
      · refine lv_iconst (v := 0) hx hb d_TwinHart_set_18 rfl ?_
        exact rz σ hx hb hr hlocks rfl hP hD hS d_TwinHart_set_19 ⟨by simp only [sp_TwinHart_set, if_neg (by decide : ¬ (1 : Int32) = 0), if_pos (rfl : (1 : Int32) = 1), if_neg c_4, if_pos c_5, if_true, if_false], Or.inl rfl⟩
  · refine CT.of rfl (Nat.le_of_ble_eq_true rfl) (fun p e s m below meth c A ls hx hb hr hml hts hown hlocks hA hP hK hD hF hS hl => ?_)
    have hl : lv_has ls 4 [(0, .ref t), (1, .int x0), (2, .int x1), (3, .int x2)] := hl
    refine lv_iload_n hx hb d_TwinHart_set_0 rfl (lv_at hl 1 rfl) ?_
    refine xi (wr := [(t, .inr (0, [.ref (a 0), .ref hs])), (hs, .inl (kh, 2, .inr (.inr (.inr (.inr (hsF f d)))))), ((a 0), .inr (1, [.ref (a 3), .ref (a 1), .ref (a 4), .int σ.1.2.2.2.1, .ref (a 5)])), ((a 1), .inr (2, [.ref (a 2)])), ((a 2), .inl ((k 0), 8, .inl σ.1.1)), ((a 3), .inl ((k 1), n, .inl σ.1.2.1)), ((a 4), .inl ((k 2), 256, .inl σ.1.2.2.1)), ((a 5), .inl ((k 3), 2, .inr (.inl σ.1.2.2.2.2))), ((f 6), .inr (4, [.int 0, .ref (f 7), .ref (f 8), .int σ.2.1.2.1, .int σ.2.1.2.2.1, .int σ.2.1.2.2.2.1])), ((f 7), .inl ((kf 4), 32, .inl σ.2.1.1)), ((f 8), .inr (3, csF σ.2.1.2.2.2.2)), ((d 6), .inr (4, [.int 1, .ref (d 7), .ref (d 8), .int σ.2.2.2.1, .int σ.2.2.2.2.1, .int σ.2.2.2.2.2.1])), ((d 7), .inl ((kd 4), 32, .inl σ.2.2.1)), ((d 8), .inr (3, csF σ.2.2.2.2.2.2))]) (W2 := fun _ => wT t hs kh a f d k kf kd n σ) (xS (rest := []) ⟨hx, hb, hml, hown, hts⟩ (c_TwinHart_isHart x0) mw_TwinHart_isHart ms_TwinHart_isHart k_210 ⟨rfl, rfl, Nat.le_of_ble_eq_true rfl, Nat.le_of_ble_eq_true rfl⟩ hK hP hD hS hA hF [] [] rfl rfl rfl rfl hl.1 rfl (Nat.le_of_ble_eq_true rfl) d_TwinHart_set_1 ⟨Nat.zero_le _, Nat.zero_le _⟩) hP hD hS hA [] [0, 1, 2, 3, 4, 5, 6, 7, 8, 9, 10, 11, 12, 13] [0, 1, 2, 3, 4, 5, 6, 7, 8, 9, 10, 11, 12, 13] rfl rfl rfl (by decide) (fun _ => rfl) rfl (fun r_1 _ H locs h_1 hP hD hS => ?_)
    obtain ⟨h_1, z_1⟩ := h_1
    subst h_1
    refine lv_if_eq (tgt := 18) hx hb d_TwinHart_set_4 (by decide) (fun _ => ?_) (fun h9 => absurd q_2 h9)
    refine lv_iconst (v := 0) hx hb d_TwinHart_set_18 rfl ?_
    exact rz σ hx hb hr hlocks rfl hP hD hS d_TwinHart_set_19 ⟨by simp only [sp_TwinHart_set, if_neg q_0, if_neg q_1, if_pos q_2, if_true, if_false], Or.inl rfl⟩
def sp_TwinHart_pc (n : Nat) (x0 : Int32) (σ : TT) : Int32 :=
  if x0 = 0 then
    σ.2.1.2.1
  else
    if x0 = 1 then
      σ.2.2.2.1
    else
      0
set_option maxHeartbeats 4000000 in
set_option maxRecDepth 100000 in
theorem c_TwinHart_pc {l : Launch} {D : va_G} {g : Nat → Nat} (t hs : Nat) (kh : ClassId) (a f d : Nat → Nat) (k kf kd : Nat → ClassId) (n : Nat) (x0 : Int32) (σ : TT) (hn : n ≤ 4096) : CT l D g y_TwinHart_pc b_TwinHart_pc 2 (some .int) (rD 1) [.ref t, .int x0] (wT t hs kh a f d k kf kd n σ) (tyT k kf kd kh) (Qi D (fun (r : Int32) (_ : Unit) => sp_TwinHart_pc n x0 σ = r) (fun _ => wT t hs kh a f d k kf kd n σ)) := by
  rcases hart3 x0 with rfl | rfl | ⟨q_0, q_1, q_2⟩
  · refine CT.of rfl (Nat.le_of_ble_eq_true rfl) (fun p e s m below meth c A ls hx hb hr hml hts hown hlocks hA hP hK hD hF hS hl => ?_)
    have hl : lv_has ls 2 [(0, .ref t), (1, .int 0)] := hl
    refine lv_iload_n hx hb d_TwinHart_pc_0 rfl (lv_at hl 1 rfl) ?_
    refine xi (wr := [(t, .inr (0, [.ref (a 0), .ref hs])), (hs, .inl (kh, 2, .inr (.inr (.inr (.inr (hsF f d)))))), ((a 0), .inr (1, [.ref (a 3), .ref (a 1), .ref (a 4), .int σ.1.2.2.2.1, .ref (a 5)])), ((a 1), .inr (2, [.ref (a 2)])), ((a 2), .inl ((k 0), 8, .inl σ.1.1)), ((a 3), .inl ((k 1), n, .inl σ.1.2.1)), ((a 4), .inl ((k 2), 256, .inl σ.1.2.2.1)), ((a 5), .inl ((k 3), 2, .inr (.inl σ.1.2.2.2.2))), ((f 6), .inr (4, [.int 0, .ref (f 7), .ref (f 8), .int σ.2.1.2.1, .int σ.2.1.2.2.1, .int σ.2.1.2.2.2.1])), ((f 7), .inl ((kf 4), 32, .inl σ.2.1.1)), ((f 8), .inr (3, csF σ.2.1.2.2.2.2)), ((d 6), .inr (4, [.int 1, .ref (d 7), .ref (d 8), .int σ.2.2.2.1, .int σ.2.2.2.2.1, .int σ.2.2.2.2.2.1])), ((d 7), .inl ((kd 4), 32, .inl σ.2.2.1)), ((d 8), .inr (3, csF σ.2.2.2.2.2.2))]) (W2 := fun _ => wT t hs kh a f d k kf kd n σ) (xS (rest := []) ⟨hx, hb, hml, hown, hts⟩ (c_TwinHart_isHart 0) mw_TwinHart_isHart ms_TwinHart_isHart k_210 ⟨rfl, rfl, Nat.le_of_ble_eq_true rfl, Nat.le_of_ble_eq_true rfl⟩ hK hP hD hS hA hF [] [] rfl rfl rfl rfl hl.1 rfl (Nat.le_of_ble_eq_true rfl) d_TwinHart_pc_1 ⟨Nat.zero_le _, Nat.zero_le _⟩) hP hD hS hA [] [0, 1, 2, 3, 4, 5, 6, 7, 8, 9, 10, 11, 12, 13] [0, 1, 2, 3, 4, 5, 6, 7, 8, 9, 10, 11, 12, 13] rfl rfl rfl (by decide) (fun _ => rfl) rfl (fun r_1 _ H locs h_1 hP hD hS => ?_)
    obtain ⟨h_1, z_1⟩ := h_1
    subst h_1
    refine W.eq (g2 := F0 m 4 ls [.int 1]) rfl ?_
    refine lv_if_eq (tgt := 19) hx hb d_TwinHart_pc_4 (by decide) (fun h9 => absurd h9 (by decide)) (fun _ => ?_)
    refine lv_aload_n hx hb d_TwinHart_pc_7 rfl (lv_at hl 0 rfl) ?_
    refine va_get (D := D) (ci := 0) (v := .ref hs) (C := R_TwinHart) (T := F_TwinHart) (N := 2) hx hb hts i_TwinHart hown hK hP 0 rfl rfl 1 (by decide) (hts _ k_167) (fun _ h9 => h9) rfl d_TwinHart_pc_8 ?_
    refine lv_iload_n hx hb d_TwinHart_pc_11 rfl (lv_at hl 1 rfl) ?_
    refine va_aldq (C := R_Hart) hx hb hK hP 1 6 rfl rfl (by unfold vp_in; decide) d_TwinHart_pc_12 ?_
    refine W.eq (g2 := F0 m 13 ls [.ref (f 6)]) rfl ?_
    refine va_get (D := D) (ci := 4) (v := .int σ.2.1.2.1) (C := R_Hart) (T := F_Hart) (N := 6) hx hb hts i_Hart hown hK hP 8 rfl rfl 3 (by decide) (hts _ k_149) (fun _ h9 => h9) rfl d_TwinHart_pc_13 ?_
    refine lv_goto (tgt := 20) hx hb d_TwinHart_pc_16 (by decide) ?_
    exact ri () hx hb hr hlocks hP hD hS d_TwinHart_pc_20 (by simp only [sp_TwinHart_pc, if_pos (rfl : (0 : Int32) = 0), if_true, if_false])
  · refine CT.of rfl (Nat.le_of_ble_eq_true rfl) (fun p e s m below meth c A ls hx hb hr hml hts hown hlocks hA hP hK hD hF hS hl => ?_)
    have hl : lv_has ls 2 [(0, .ref t), (1, .int 1)] := hl
    refine lv_iload_n hx hb d_TwinHart_pc_0 rfl (lv_at hl 1 rfl) ?_
    refine xi (wr := [(t, .inr (0, [.ref (a 0), .ref hs])), (hs, .inl (kh, 2, .inr (.inr (.inr (.inr (hsF f d)))))), ((a 0), .inr (1, [.ref (a 3), .ref (a 1), .ref (a 4), .int σ.1.2.2.2.1, .ref (a 5)])), ((a 1), .inr (2, [.ref (a 2)])), ((a 2), .inl ((k 0), 8, .inl σ.1.1)), ((a 3), .inl ((k 1), n, .inl σ.1.2.1)), ((a 4), .inl ((k 2), 256, .inl σ.1.2.2.1)), ((a 5), .inl ((k 3), 2, .inr (.inl σ.1.2.2.2.2))), ((f 6), .inr (4, [.int 0, .ref (f 7), .ref (f 8), .int σ.2.1.2.1, .int σ.2.1.2.2.1, .int σ.2.1.2.2.2.1])), ((f 7), .inl ((kf 4), 32, .inl σ.2.1.1)), ((f 8), .inr (3, csF σ.2.1.2.2.2.2)), ((d 6), .inr (4, [.int 1, .ref (d 7), .ref (d 8), .int σ.2.2.2.1, .int σ.2.2.2.2.1, .int σ.2.2.2.2.2.1])), ((d 7), .inl ((kd 4), 32, .inl σ.2.2.1)), ((d 8), .inr (3, csF σ.2.2.2.2.2.2))]) (W2 := fun _ => wT t hs kh a f d k kf kd n σ) (xS (rest := []) ⟨hx, hb, hml, hown, hts⟩ (c_TwinHart_isHart 1) mw_TwinHart_isHart ms_TwinHart_isHart k_210 ⟨rfl, rfl, Nat.le_of_ble_eq_true rfl, Nat.le_of_ble_eq_true rfl⟩ hK hP hD hS hA hF [] [] rfl rfl rfl rfl hl.1 rfl (Nat.le_of_ble_eq_true rfl) d_TwinHart_pc_1 ⟨Nat.zero_le _, Nat.zero_le _⟩) hP hD hS hA [] [0, 1, 2, 3, 4, 5, 6, 7, 8, 9, 10, 11, 12, 13] [0, 1, 2, 3, 4, 5, 6, 7, 8, 9, 10, 11, 12, 13] rfl rfl rfl (by decide) (fun _ => rfl) rfl (fun r_1 _ H locs h_1 hP hD hS => ?_)
    obtain ⟨h_1, z_1⟩ := h_1
    subst h_1
    refine W.eq (g2 := F0 m 4 ls [.int 1]) rfl ?_
    refine lv_if_eq (tgt := 19) hx hb d_TwinHart_pc_4 (by decide) (fun h9 => absurd h9 (by decide)) (fun _ => ?_)
    refine lv_aload_n hx hb d_TwinHart_pc_7 rfl (lv_at hl 0 rfl) ?_
    refine va_get (D := D) (ci := 0) (v := .ref hs) (C := R_TwinHart) (T := F_TwinHart) (N := 2) hx hb hts i_TwinHart hown hK hP 0 rfl rfl 1 (by decide) (hts _ k_167) (fun _ h9 => h9) rfl d_TwinHart_pc_8 ?_
    refine lv_iload_n hx hb d_TwinHart_pc_11 rfl (lv_at hl 1 rfl) ?_
    refine va_aldq (C := R_Hart) hx hb hK hP 1 6 rfl rfl (by unfold vp_in; decide) d_TwinHart_pc_12 ?_
    refine W.eq (g2 := F0 m 13 ls [.ref (d 6)]) rfl ?_
    refine va_get (D := D) (ci := 4) (v := .int σ.2.2.2.1) (C := R_Hart) (T := F_Hart) (N := 6) hx hb hts i_Hart hown hK hP 11 rfl rfl 3 (by decide) (hts _ k_149) (fun _ h9 => h9) rfl d_TwinHart_pc_13 ?_
    refine lv_goto (tgt := 20) hx hb d_TwinHart_pc_16 (by decide) ?_
    exact ri () hx hb hr hlocks hP hD hS d_TwinHart_pc_20 (by simp only [sp_TwinHart_pc, if_neg (by decide : ¬ (1 : Int32) = 0), if_pos (rfl : (1 : Int32) = 1), if_true, if_false])
  · refine CT.of rfl (Nat.le_of_ble_eq_true rfl) (fun p e s m below meth c A ls hx hb hr hml hts hown hlocks hA hP hK hD hF hS hl => ?_)
    have hl : lv_has ls 2 [(0, .ref t), (1, .int x0)] := hl
    refine lv_iload_n hx hb d_TwinHart_pc_0 rfl (lv_at hl 1 rfl) ?_
    refine xi (wr := [(t, .inr (0, [.ref (a 0), .ref hs])), (hs, .inl (kh, 2, .inr (.inr (.inr (.inr (hsF f d)))))), ((a 0), .inr (1, [.ref (a 3), .ref (a 1), .ref (a 4), .int σ.1.2.2.2.1, .ref (a 5)])), ((a 1), .inr (2, [.ref (a 2)])), ((a 2), .inl ((k 0), 8, .inl σ.1.1)), ((a 3), .inl ((k 1), n, .inl σ.1.2.1)), ((a 4), .inl ((k 2), 256, .inl σ.1.2.2.1)), ((a 5), .inl ((k 3), 2, .inr (.inl σ.1.2.2.2.2))), ((f 6), .inr (4, [.int 0, .ref (f 7), .ref (f 8), .int σ.2.1.2.1, .int σ.2.1.2.2.1, .int σ.2.1.2.2.2.1])), ((f 7), .inl ((kf 4), 32, .inl σ.2.1.1)), ((f 8), .inr (3, csF σ.2.1.2.2.2.2)), ((d 6), .inr (4, [.int 1, .ref (d 7), .ref (d 8), .int σ.2.2.2.1, .int σ.2.2.2.2.1, .int σ.2.2.2.2.2.1])), ((d 7), .inl ((kd 4), 32, .inl σ.2.2.1)), ((d 8), .inr (3, csF σ.2.2.2.2.2.2))]) (W2 := fun _ => wT t hs kh a f d k kf kd n σ) (xS (rest := []) ⟨hx, hb, hml, hown, hts⟩ (c_TwinHart_isHart x0) mw_TwinHart_isHart ms_TwinHart_isHart k_210 ⟨rfl, rfl, Nat.le_of_ble_eq_true rfl, Nat.le_of_ble_eq_true rfl⟩ hK hP hD hS hA hF [] [] rfl rfl rfl rfl hl.1 rfl (Nat.le_of_ble_eq_true rfl) d_TwinHart_pc_1 ⟨Nat.zero_le _, Nat.zero_le _⟩) hP hD hS hA [] [0, 1, 2, 3, 4, 5, 6, 7, 8, 9, 10, 11, 12, 13] [0, 1, 2, 3, 4, 5, 6, 7, 8, 9, 10, 11, 12, 13] rfl rfl rfl (by decide) (fun _ => rfl) rfl (fun r_1 _ H locs h_1 hP hD hS => ?_)
    obtain ⟨h_1, z_1⟩ := h_1
    subst h_1
    refine lv_if_eq (tgt := 19) hx hb d_TwinHart_pc_4 (by decide) (fun _ => ?_) (fun h9 => absurd q_2 h9)
    refine lv_iconst (v := 0) hx hb d_TwinHart_pc_19 rfl ?_
    exact ri () hx hb hr hlocks hP hD hS d_TwinHart_pc_20 (by simp only [sp_TwinHart_pc, if_neg q_0, if_neg q_1, if_pos q_2, if_true, if_false])
def sp_TwinHart_csr (n : Nat) (x0 : Int32) (x1 : Int32) (σ : TT) : Int32 :=
  if x0 = 0 then
    sp_Csrs_read x1 (sp_Clint_lines 0 σ.1.1) σ.2.1.2.2.2.2
  else
    if x0 = 1 then
      sp_Csrs_read x1 (sp_Clint_lines 1 σ.1.1) σ.2.2.2.2.2.2
    else
      0
set_option maxHeartbeats 4000000 in
set_option maxRecDepth 100000 in
theorem c_TwinHart_csr {l : Launch} {D : va_G} {g : Nat → Nat} (t hs : Nat) (kh : ClassId) (a f d : Nat → Nat) (k kf kd : Nat → ClassId) (n : Nat) (x0 : Int32) (x1 : Int32) (σ : TT) (hn : n ≤ 4096) : CT l D g y_TwinHart_csr b_TwinHart_csr 3 (some .int) (rD 3) [.ref t, .int x0, .int x1] (wT t hs kh a f d k kf kd n σ) (tyT k kf kd kh) (Qi D (fun (r : Int32) (_ : Unit) => sp_TwinHart_csr n x0 x1 σ = r) (fun _ => wT t hs kh a f d k kf kd n σ)) := by
  rcases hart3 x0 with rfl | rfl | ⟨q_0, q_1, q_2⟩
  · refine CT.of rfl (Nat.le_of_ble_eq_true rfl) (fun p e s m below meth c A ls hx hb hr hml hts hown hlocks hA hP hK hD hF hS hl => ?_)
    have hl : lv_has ls 3 [(0, .ref t), (1, .int 0), (2, .int x1)] := hl
    refine lv_iload_n hx hb d_TwinHart_csr_0 rfl (lv_at hl 1 rfl) ?_
    refine xi (wr := [(t, .inr (0, [.ref (a 0), .ref hs])), (hs, .inl (kh, 2, .inr (.inr (.inr (.inr (hsF f d)))))), ((a 0), .inr (1, [.ref (a 3), .ref (a 1), .ref (a 4), .int σ.1.2.2.2.1, .ref (a 5)])), ((a 1), .inr (2, [.ref (a 2)])), ((a 2), .inl ((k 0), 8, .inl σ.1.1)), ((a 3), .inl ((k 1), n, .inl σ.1.2.1)), ((a 4), .inl ((k 2), 256, .inl σ.1.2.2.1)), ((a 5), .inl ((k 3), 2, .inr (.inl σ.1.2.2.2.2))), ((f 6), .inr (4, [.int 0, .ref (f 7), .ref (f 8), .int σ.2.1.2.1, .int σ.2.1.2.2.1, .int σ.2.1.2.2.2.1])), ((f 7), .inl ((kf 4), 32, .inl σ.2.1.1)), ((f 8), .inr (3, csF σ.2.1.2.2.2.2)), ((d 6), .inr (4, [.int 1, .ref (d 7), .ref (d 8), .int σ.2.2.2.1, .int σ.2.2.2.2.1, .int σ.2.2.2.2.2.1])), ((d 7), .inl ((kd 4), 32, .inl σ.2.2.1)), ((d 8), .inr (3, csF σ.2.2.2.2.2.2))]) (W2 := fun _ => wT t hs kh a f d k kf kd n σ) (xS (rest := []) ⟨hx, hb, hml, hown, hts⟩ (c_TwinHart_isHart 0) mw_TwinHart_isHart ms_TwinHart_isHart k_210 ⟨rfl, rfl, Nat.le_of_ble_eq_true rfl, Nat.le_of_ble_eq_true rfl⟩ hK hP hD hS hA hF [] [] rfl rfl rfl rfl hl.1 rfl (Nat.le_of_ble_eq_true rfl) d_TwinHart_csr_1 ⟨Nat.zero_le _, Nat.zero_le _⟩) hP hD hS hA [] [0, 1, 2, 3, 4, 5, 6, 7, 8, 9, 10, 11, 12, 13] [0, 1, 2, 3, 4, 5, 6, 7, 8, 9, 10, 11, 12, 13] rfl rfl rfl (by decide) (fun _ => rfl) rfl (fun r_1 _ H locs h_1 hP hD hS => ?_)
    obtain ⟨h_1, z_1⟩ := h_1
    subst h_1
    refine W.eq (g2 := F0 m 4 ls [.int 1]) rfl ?_
    refine lv_if_eq (tgt := 34) hx hb d_TwinHart_csr_4 (by decide) (fun h9 => absurd h9 (by decide)) (fun _ => ?_)
    refine lv_aload_n hx hb d_TwinHart_csr_7 rfl (lv_at hl 0 rfl) ?_
    refine va_get (D := D) (ci := 0) (v := .ref hs) (C := R_TwinHart) (T := F_TwinHart) (N := 2) hx hb hts i_TwinHart hown hK hP 0 rfl rfl 1 (by decide) (hts _ k_167) (fun _ h9 => h9) rfl d_TwinHart_csr_8 ?_
    refine lv_iload_n hx hb d_TwinHart_csr_11 rfl (lv_at hl 1 rfl) ?_
    refine va_aldq (C := R_Hart) hx hb hK hP 1 6 rfl rfl (by unfold vp_in; decide) d_TwinHart_csr_12 ?_
    refine W.eq (g2 := F0 m 13 ls [.ref (f 6)]) rfl ?_
    refine va_get (D := D) (ci := 4) (v := .ref (f 8)) (C := R_Hart) (T := F_Hart) (N := 6) hx hb hts i_Hart hown hK hP 8 rfl rfl 2 (by decide) (hts _ k_147) (fun _ h9 => h9) rfl d_TwinHart_csr_13 ?_
    refine lv_iload_n hx hb d_TwinHart_csr_16 rfl (lv_at hl 2 rfl) ?_
    refine lv_aload_n hx hb d_TwinHart_csr_17 rfl (lv_at hl 0 rfl) ?_
    refine va_get (D := D) (ci := 0) (v := .ref (a 0)) (C := R_TwinHart) (T := F_TwinHart) (N := 2) hx hb hts i_TwinHart hown hK hP 0 rfl rfl 0 (by decide) (hts _ k_166) (fun _ h9 => h9) rfl d_TwinHart_csr_18 ?_
    refine va_get (D := D) (ci := 1) (v := .ref (a 1)) (C := R_Memory) (T := F_Memory) (N := 5) hx hb hts i_Memory hown hK hP 2 rfl rfl 1 (by decide) (hts _ k_55) (fun _ h9 => h9) rfl d_TwinHart_csr_21 ?_
    refine lv_iload_n hx hb d_TwinHart_csr_24 rfl (lv_at hl 1 rfl) ?_
    refine xi (wr := [(t, .inr (0, [.ref (a 0), .ref hs])), (hs, .inl (kh, 2, .inr (.inr (.inr (.inr (hsF f d)))))), ((a 0), .inr (1, [.ref (a 3), .ref (a 1), .ref (a 4), .int σ.1.2.2.2.1, .ref (a 5)])), ((a 3), .inl ((k 1), n, .inl σ.1.2.1)), ((a 4), .inl ((k 2), 256, .inl σ.1.2.2.1)), ((a 5), .inl ((k 3), 2, .inr (.inl σ.1.2.2.2.2))), ((f 6), .inr (4, [.int 0, .ref (f 7), .ref (f 8), .int σ.2.1.2.1, .int σ.2.1.2.2.1, .int σ.2.1.2.2.2.1])), ((f 7), .inl ((kf 4), 32, .inl σ.2.1.1)), ((f 8), .inr (3, csF σ.2.1.2.2.2.2)), ((d 6), .inr (4, [.int 1, .ref (d 7), .ref (d 8), .int σ.2.2.2.1, .int σ.2.2.2.2.1, .int σ.2.2.2.2.2.1])), ((d 7), .inl ((kd 4), 32, .inl σ.2.2.1)), ((d 8), .inr (3, csF σ.2.2.2.2.2.2))]) (W2 := fun _ => wT t hs kh a f d k kf kd n σ) (xV (rest := [.int x1, .ref (f 8)]) ⟨hx, hb, hml, hown, hts⟩ (c_Clint_lines a k 0 σ.1.1 (Or.inl rfl)) mw_Clint_lines mv_Clint_lines k_589 ⟨rfl, rfl, Nat.le_of_ble_eq_true rfl, Nat.le_of_ble_eq_true rfl⟩ hK hP hD hS hA hF [3, 4] [0] rfl rfl rfl 3 2 rfl rfl rfl rfl hl.1 rfl (Nat.le_of_ble_eq_true rfl) d_TwinHart_csr_25 ⟨Nat.zero_le _, Nat.zero_le _⟩) hP hD hS hA [3, 4] [0, 1, 2, 5, 6, 7, 8, 9, 10, 11, 12, 13] [0, 1, 2, 12, 13, 3, 4, 5, 6, 7, 8, 9, 10, 11] rfl rfl rfl (by decide) (fun _ => rfl) rfl (fun r_3 _ H locs h_3 hP hD hS => ?_)
    subst h_3
    refine xi (wr := [(t, .inr (0, [.ref (a 0), .ref hs])), (hs, .inl (kh, 2, .inr (.inr (.inr (.inr (hsF f d)))))), ((a 0), .inr (1, [.ref (a 3), .ref (a 1), .ref (a 4), .int σ.1.2.2.2.1, .ref (a 5)])), ((a 1), .inr (2, [.ref (a 2)])), ((a 2), .inl ((k 0), 8, .inl σ.1.1)), ((a 3), .inl ((k 1), n, .inl σ.1.2.1)), ((a 4), .inl ((k 2), 256, .inl σ.1.2.2.1)), ((a 5), .inl ((k 3), 2, .inr (.inl σ.1.2.2.2.2))), ((f 6), .inr (4, [.int 0, .ref (f 7), .ref (f 8), .int σ.2.1.2.1, .int σ.2.1.2.2.1, .int σ.2.1.2.2.2.1])), ((f 7), .inl ((kf 4), 32, .inl σ.2.1.1)), ((d 6), .inr (4, [.int 1, .ref (d 7), .ref (d 8), .int σ.2.2.2.1, .int σ.2.2.2.2.1, .int σ.2.2.2.2.2.1])), ((d 7), .inl ((kd 4), 32, .inl σ.2.2.1)), ((d 8), .inr (3, csF σ.2.2.2.2.2.2))]) (W2 := fun _ => wT t hs kh a f d k kf kd n σ) (xV (rest := []) ⟨hx, hb, hml, hown, hts⟩ (c_Csrs_read (f 8) x1 (sp_Clint_lines 0 σ.1.1) σ.2.1.2.2.2.2) mw_Csrs_read mv_Csrs_read k_590 ⟨rfl, rfl, Nat.le_of_ble_eq_true rfl, Nat.le_of_ble_eq_true rfl⟩ hK hP hD hS hA hF [10] [] rfl rfl rfl 10 3 rfl rfl rfl rfl hl.1 rfl (Nat.le_of_ble_eq_true rfl) d_TwinHart_csr_28 ⟨Nat.zero_le _, Nat.zero_le _⟩) hP hD hS hA [10] [0, 1, 2, 3, 4, 5, 6, 7, 8, 9, 11, 12, 13] [0, 1, 2, 3, 4, 5, 6, 7, 8, 9, 13, 10, 11, 12] rfl rfl rfl (by decide) (fun _ => rfl) rfl (fun r_4 _ H locs h_4 hP hD hS => ?_)
    subst h_4
    refine lv_goto (tgt := 35) hx hb d_TwinHart_csr_31 (by decide) ?_
    exact ri () hx hb hr hlocks hP hD hS d_TwinHart_csr_35 (by simp only [sp_TwinHart_csr, if_pos (rfl : (0 : Int32) = 0), if_true, if_false])
  · refine CT.of rfl (Nat.le_of_ble_eq_true rfl) (fun p e s m below meth c A ls hx hb hr hml hts hown hlocks hA hP hK hD hF hS hl => ?_)
    have hl : lv_has ls 3 [(0, .ref t), (1, .int 1), (2, .int x1)] := hl
    refine lv_iload_n hx hb d_TwinHart_csr_0 rfl (lv_at hl 1 rfl) ?_
    refine xi (wr := [(t, .inr (0, [.ref (a 0), .ref hs])), (hs, .inl (kh, 2, .inr (.inr (.inr (.inr (hsF f d)))))), ((a 0), .inr (1, [.ref (a 3), .ref (a 1), .ref (a 4), .int σ.1.2.2.2.1, .ref (a 5)])), ((a 1), .inr (2, [.ref (a 2)])), ((a 2), .inl ((k 0), 8, .inl σ.1.1)), ((a 3), .inl ((k 1), n, .inl σ.1.2.1)), ((a 4), .inl ((k 2), 256, .inl σ.1.2.2.1)), ((a 5), .inl ((k 3), 2, .inr (.inl σ.1.2.2.2.2))), ((f 6), .inr (4, [.int 0, .ref (f 7), .ref (f 8), .int σ.2.1.2.1, .int σ.2.1.2.2.1, .int σ.2.1.2.2.2.1])), ((f 7), .inl ((kf 4), 32, .inl σ.2.1.1)), ((f 8), .inr (3, csF σ.2.1.2.2.2.2)), ((d 6), .inr (4, [.int 1, .ref (d 7), .ref (d 8), .int σ.2.2.2.1, .int σ.2.2.2.2.1, .int σ.2.2.2.2.2.1])), ((d 7), .inl ((kd 4), 32, .inl σ.2.2.1)), ((d 8), .inr (3, csF σ.2.2.2.2.2.2))]) (W2 := fun _ => wT t hs kh a f d k kf kd n σ) (xS (rest := []) ⟨hx, hb, hml, hown, hts⟩ (c_TwinHart_isHart 1) mw_TwinHart_isHart ms_TwinHart_isHart k_210 ⟨rfl, rfl, Nat.le_of_ble_eq_true rfl, Nat.le_of_ble_eq_true rfl⟩ hK hP hD hS hA hF [] [] rfl rfl rfl rfl hl.1 rfl (Nat.le_of_ble_eq_true rfl) d_TwinHart_csr_1 ⟨Nat.zero_le _, Nat.zero_le _⟩) hP hD hS hA [] [0, 1, 2, 3, 4, 5, 6, 7, 8, 9, 10, 11, 12, 13] [0, 1, 2, 3, 4, 5, 6, 7, 8, 9, 10, 11, 12, 13] rfl rfl rfl (by decide) (fun _ => rfl) rfl (fun r_1 _ H locs h_1 hP hD hS => ?_)
    obtain ⟨h_1, z_1⟩ := h_1
    subst h_1
    refine W.eq (g2 := F0 m 4 ls [.int 1]) rfl ?_
    refine lv_if_eq (tgt := 34) hx hb d_TwinHart_csr_4 (by decide) (fun h9 => absurd h9 (by decide)) (fun _ => ?_)
    refine lv_aload_n hx hb d_TwinHart_csr_7 rfl (lv_at hl 0 rfl) ?_
    refine va_get (D := D) (ci := 0) (v := .ref hs) (C := R_TwinHart) (T := F_TwinHart) (N := 2) hx hb hts i_TwinHart hown hK hP 0 rfl rfl 1 (by decide) (hts _ k_167) (fun _ h9 => h9) rfl d_TwinHart_csr_8 ?_
    refine lv_iload_n hx hb d_TwinHart_csr_11 rfl (lv_at hl 1 rfl) ?_
    refine va_aldq (C := R_Hart) hx hb hK hP 1 6 rfl rfl (by unfold vp_in; decide) d_TwinHart_csr_12 ?_
    refine W.eq (g2 := F0 m 13 ls [.ref (d 6)]) rfl ?_
    refine va_get (D := D) (ci := 4) (v := .ref (d 8)) (C := R_Hart) (T := F_Hart) (N := 6) hx hb hts i_Hart hown hK hP 11 rfl rfl 2 (by decide) (hts _ k_147) (fun _ h9 => h9) rfl d_TwinHart_csr_13 ?_
    refine lv_iload_n hx hb d_TwinHart_csr_16 rfl (lv_at hl 2 rfl) ?_
    refine lv_aload_n hx hb d_TwinHart_csr_17 rfl (lv_at hl 0 rfl) ?_
    refine va_get (D := D) (ci := 0) (v := .ref (a 0)) (C := R_TwinHart) (T := F_TwinHart) (N := 2) hx hb hts i_TwinHart hown hK hP 0 rfl rfl 0 (by decide) (hts _ k_166) (fun _ h9 => h9) rfl d_TwinHart_csr_18 ?_
    refine va_get (D := D) (ci := 1) (v := .ref (a 1)) (C := R_Memory) (T := F_Memory) (N := 5) hx hb hts i_Memory hown hK hP 2 rfl rfl 1 (by decide) (hts _ k_55) (fun _ h9 => h9) rfl d_TwinHart_csr_21 ?_
    refine lv_iload_n hx hb d_TwinHart_csr_24 rfl (lv_at hl 1 rfl) ?_
    refine xi (wr := [(t, .inr (0, [.ref (a 0), .ref hs])), (hs, .inl (kh, 2, .inr (.inr (.inr (.inr (hsF f d)))))), ((a 0), .inr (1, [.ref (a 3), .ref (a 1), .ref (a 4), .int σ.1.2.2.2.1, .ref (a 5)])), ((a 3), .inl ((k 1), n, .inl σ.1.2.1)), ((a 4), .inl ((k 2), 256, .inl σ.1.2.2.1)), ((a 5), .inl ((k 3), 2, .inr (.inl σ.1.2.2.2.2))), ((f 6), .inr (4, [.int 0, .ref (f 7), .ref (f 8), .int σ.2.1.2.1, .int σ.2.1.2.2.1, .int σ.2.1.2.2.2.1])), ((f 7), .inl ((kf 4), 32, .inl σ.2.1.1)), ((f 8), .inr (3, csF σ.2.1.2.2.2.2)), ((d 6), .inr (4, [.int 1, .ref (d 7), .ref (d 8), .int σ.2.2.2.1, .int σ.2.2.2.2.1, .int σ.2.2.2.2.2.1])), ((d 7), .inl ((kd 4), 32, .inl σ.2.2.1)), ((d 8), .inr (3, csF σ.2.2.2.2.2.2))]) (W2 := fun _ => wT t hs kh a f d k kf kd n σ) (xV (rest := [.int x1, .ref (d 8)]) ⟨hx, hb, hml, hown, hts⟩ (c_Clint_lines a k 1 σ.1.1 (Or.inr rfl)) mw_Clint_lines mv_Clint_lines k_589 ⟨rfl, rfl, Nat.le_of_ble_eq_true rfl, Nat.le_of_ble_eq_true rfl⟩ hK hP hD hS hA hF [3, 4] [0] rfl rfl rfl 3 2 rfl rfl rfl rfl hl.1 rfl (Nat.le_of_ble_eq_true rfl) d_TwinHart_csr_25 ⟨Nat.zero_le _, Nat.zero_le _⟩) hP hD hS hA [3, 4] [0, 1, 2, 5, 6, 7, 8, 9, 10, 11, 12, 13] [0, 1, 2, 12, 13, 3, 4, 5, 6, 7, 8, 9, 10, 11] rfl rfl rfl (by decide) (fun _ => rfl) rfl (fun r_3 _ H locs h_3 hP hD hS => ?_)
    subst h_3
    refine xi (wr := [(t, .inr (0, [.ref (a 0), .ref hs])), (hs, .inl (kh, 2, .inr (.inr (.inr (.inr (hsF f d)))))), ((a 0), .inr (1, [.ref (a 3), .ref (a 1), .ref (a 4), .int σ.1.2.2.2.1, .ref (a 5)])), ((a 1), .inr (2, [.ref (a 2)])), ((a 2), .inl ((k 0), 8, .inl σ.1.1)), ((a 3), .inl ((k 1), n, .inl σ.1.2.1)), ((a 4), .inl ((k 2), 256, .inl σ.1.2.2.1)), ((a 5), .inl ((k 3), 2, .inr (.inl σ.1.2.2.2.2))), ((f 6), .inr (4, [.int 0, .ref (f 7), .ref (f 8), .int σ.2.1.2.1, .int σ.2.1.2.2.1, .int σ.2.1.2.2.2.1])), ((f 7), .inl ((kf 4), 32, .inl σ.2.1.1)), ((f 8), .inr (3, csF σ.2.1.2.2.2.2)), ((d 6), .inr (4, [.int 1, .ref (d 7), .ref (d 8), .int σ.2.2.2.1, .int σ.2.2.2.2.1, .int σ.2.2.2.2.2.1])), ((d 7), .inl ((kd 4), 32, .inl σ.2.2.1))]) (W2 := fun _ => wT t hs kh a f d k kf kd n σ) (xV (rest := []) ⟨hx, hb, hml, hown, hts⟩ (c_Csrs_read (d 8) x1 (sp_Clint_lines 1 σ.1.1) σ.2.2.2.2.2.2) mw_Csrs_read mv_Csrs_read k_590 ⟨rfl, rfl, Nat.le_of_ble_eq_true rfl, Nat.le_of_ble_eq_true rfl⟩ hK hP hD hS hA hF [13] [] rfl rfl rfl 13 3 rfl rfl rfl rfl hl.1 rfl (Nat.le_of_ble_eq_true rfl) d_TwinHart_csr_28 ⟨Nat.zero_le _, Nat.zero_le _⟩) hP hD hS hA [13] [0, 1, 2, 3, 4, 5, 6, 7, 8, 9, 10, 11, 12] [0, 1, 2, 3, 4, 5, 6, 7, 8, 9, 10, 11, 12, 13] rfl rfl rfl (by decide) (fun _ => rfl) rfl (fun r_4 _ H locs h_4 hP hD hS => ?_)
    subst h_4
    refine lv_goto (tgt := 35) hx hb d_TwinHart_csr_31 (by decide) ?_
    exact ri () hx hb hr hlocks hP hD hS d_TwinHart_csr_35 (by simp only [sp_TwinHart_csr, if_neg (by decide : ¬ (1 : Int32) = 0), if_pos (rfl : (1 : Int32) = 1), if_true, if_false])
  · refine CT.of rfl (Nat.le_of_ble_eq_true rfl) (fun p e s m below meth c A ls hx hb hr hml hts hown hlocks hA hP hK hD hF hS hl => ?_)
    have hl : lv_has ls 3 [(0, .ref t), (1, .int x0), (2, .int x1)] := hl
    refine lv_iload_n hx hb d_TwinHart_csr_0 rfl (lv_at hl 1 rfl) ?_
    refine xi (wr := [(t, .inr (0, [.ref (a 0), .ref hs])), (hs, .inl (kh, 2, .inr (.inr (.inr (.inr (hsF f d)))))), ((a 0), .inr (1, [.ref (a 3), .ref (a 1), .ref (a 4), .int σ.1.2.2.2.1, .ref (a 5)])), ((a 1), .inr (2, [.ref (a 2)])), ((a 2), .inl ((k 0), 8, .inl σ.1.1)), ((a 3), .inl ((k 1), n, .inl σ.1.2.1)), ((a 4), .inl ((k 2), 256, .inl σ.1.2.2.1)), ((a 5), .inl ((k 3), 2, .inr (.inl σ.1.2.2.2.2))), ((f 6), .inr (4, [.int 0, .ref (f 7), .ref (f 8), .int σ.2.1.2.1, .int σ.2.1.2.2.1, .int σ.2.1.2.2.2.1])), ((f 7), .inl ((kf 4), 32, .inl σ.2.1.1)), ((f 8), .inr (3, csF σ.2.1.2.2.2.2)), ((d 6), .inr (4, [.int 1, .ref (d 7), .ref (d 8), .int σ.2.2.2.1, .int σ.2.2.2.2.1, .int σ.2.2.2.2.2.1])), ((d 7), .inl ((kd 4), 32, .inl σ.2.2.1)), ((d 8), .inr (3, csF σ.2.2.2.2.2.2))]) (W2 := fun _ => wT t hs kh a f d k kf kd n σ) (xS (rest := []) ⟨hx, hb, hml, hown, hts⟩ (c_TwinHart_isHart x0) mw_TwinHart_isHart ms_TwinHart_isHart k_210 ⟨rfl, rfl, Nat.le_of_ble_eq_true rfl, Nat.le_of_ble_eq_true rfl⟩ hK hP hD hS hA hF [] [] rfl rfl rfl rfl hl.1 rfl (Nat.le_of_ble_eq_true rfl) d_TwinHart_csr_1 ⟨Nat.zero_le _, Nat.zero_le _⟩) hP hD hS hA [] [0, 1, 2, 3, 4, 5, 6, 7, 8, 9, 10, 11, 12, 13] [0, 1, 2, 3, 4, 5, 6, 7, 8, 9, 10, 11, 12, 13] rfl rfl rfl (by decide) (fun _ => rfl) rfl (fun r_1 _ H locs h_1 hP hD hS => ?_)
    obtain ⟨h_1, z_1⟩ := h_1
    subst h_1
    refine lv_if_eq (tgt := 34) hx hb d_TwinHart_csr_4 (by decide) (fun _ => ?_) (fun h9 => absurd q_2 h9)
    refine lv_iconst (v := 0) hx hb d_TwinHart_csr_34 rfl ?_
    exact ri () hx hb hr hlocks hP hD hS d_TwinHart_csr_35 (by simp only [sp_TwinHart_csr, if_neg q_0, if_neg q_1, if_pos q_2, if_true, if_false])
def sp_TwinHart_put (n : Nat) (x0 : Int32) (x1 : Int32) (x2 : Int32) (σ : TT) : Int32 × TT :=
  if x0 = 0 then
    if (sp_Csrs_isTold x1) = 0 then
      (0, σ)
    else
      if (sp_Csrs_isReadOnly x1) = 0 then
        let u_7 := sp_Csrs_write x1 x2 σ.2.1.2.2.2.2
        (1, (σ.1, (σ.2.1.1, σ.2.1.2.1, σ.2.1.2.2.1, σ.2.1.2.2.2.1, u_7), σ.2.2))
      else
        (0, σ)
  else
    if x0 = 1 then
      if (sp_Csrs_isTold x1) = 0 then
        (0, σ)
      else
        if (sp_Csrs_isReadOnly x1) = 0 then
          let u_7 := sp_Csrs_write x1 x2 σ.2.2.2.2.2.2
          (1, (σ.1, σ.2.1, (σ.2.2.1, σ.2.2.2.1, σ.2.2.2.2.1, σ.2.2.2.2.2.1, u_7)))
        else
          (0, σ)
    else
      (0, σ)
set_option maxHeartbeats 4000000 in
set_option maxRecDepth 100000 in
theorem c_TwinHart_put {l : Launch} {D : va_G} {g : Nat → Nat} (t hs : Nat) (kh : ClassId) (a f d : Nat → Nat) (k kf kd : Nat → ClassId) (n : Nat) (x0 : Int32) (x1 : Int32) (x2 : Int32) (σ : TT) (hn : n ≤ 4096) : CT l D g y_TwinHart_put b_TwinHart_put 4 (some .boolean) (rD 3) [.ref t, .int x0, .int x1, .int x2] (wT t hs kh a f d k kf kd n σ) (tyT k kf kd kh) (Qi D (fun (r : Int32) (u : TT) => sp_TwinHart_put n x0 x1 x2 σ = (r, u) ∧ (r = 0 ∨ r = 1)) (fun u => wT t hs kh a f d k kf kd n u)) := by
  rcases hart3 x0 with rfl | rfl | ⟨q_0, q_1, q_2⟩
  · refine CT.of rfl (Nat.le_of_ble_eq_true rfl) (fun p e s m below meth c A ls hx hb hr hml hts hown hlocks hA hP hK hD hF hS hl => ?_)
    have hl : lv_has ls 4 [(0, .ref t), (1, .int 0), (2, .int x1), (3, .int x2)] := hl
    refine lv_iload_n hx hb d_TwinHart_put_0 rfl (lv_at hl 1 rfl) ?_
    refine xi (wr := [(t, .inr (0, [.ref (a 0), .ref hs])), (hs, .inl (kh, 2, .inr (.inr (.inr (.inr (hsF f d)))))), ((a 0), .inr (1, [.ref (a 3), .ref (a 1), .ref (a 4), .int σ.1.2.2.2.1, .ref (a 5)])), ((a 1), .inr (2, [.ref (a 2)])), ((a 2), .inl ((k 0), 8, .inl σ.1.1)), ((a 3), .inl ((k 1), n, .inl σ.1.2.1)), ((a 4), .inl ((k 2), 256, .inl σ.1.2.2.1)), ((a 5), .inl ((k 3), 2, .inr (.inl σ.1.2.2.2.2))), ((f 6), .inr (4, [.int 0, .ref (f 7), .ref (f 8), .int σ.2.1.2.1, .int σ.2.1.2.2.1, .int σ.2.1.2.2.2.1])), ((f 7), .inl ((kf 4), 32, .inl σ.2.1.1)), ((f 8), .inr (3, csF σ.2.1.2.2.2.2)), ((d 6), .inr (4, [.int 1, .ref (d 7), .ref (d 8), .int σ.2.2.2.1, .int σ.2.2.2.2.1, .int σ.2.2.2.2.2.1])), ((d 7), .inl ((kd 4), 32, .inl σ.2.2.1)), ((d 8), .inr (3, csF σ.2.2.2.2.2.2))]) (W2 := fun _ => wT t hs kh a f d k kf kd n σ) (xS (rest := []) ⟨hx, hb, hml, hown, hts⟩ (c_TwinHart_isHart 0) mw_TwinHart_isHart ms_TwinHart_isHart k_210 ⟨rfl, rfl, Nat.le_of_ble_eq_true rfl, Nat.le_of_ble_eq_true rfl⟩ hK hP hD hS hA hF [] [] rfl rfl rfl rfl hl.1 rfl (Nat.le_of_ble_eq_true rfl) d_TwinHart_put_1 ⟨Nat.zero_le _, Nat.zero_le _⟩) hP hD hS hA [] [0, 1, 2, 3, 4, 5, 6, 7, 8, 9, 10, 11, 12, 13] [0, 1, 2, 3, 4, 5, 6, 7, 8, 9, 10, 11, 12, 13] rfl rfl rfl (by decide) (fun _ => rfl) rfl (fun r_1 _ H locs h_1 hP hD hS => ?_)
    obtain ⟨h_1, z_1⟩ := h_1
    subst h_1
    refine W.eq (g2 := F0 m 4 ls [.int 1]) rfl ?_
    refine lv_if_eq (tgt := 21) hx hb d_TwinHart_put_4 (by decide) (fun h9 => absurd h9 (by decide)) (fun _ => ?_)
    refine lv_iload_n hx hb d_TwinHart_put_7 rfl (lv_at hl 2 rfl) ?_
    refine xi (wr := [(t, .inr (0, [.ref (a 0), .ref hs])), (hs, .inl (kh, 2, .inr (.inr (.inr (.inr (hsF f d)))))), ((a 0), .inr (1, [.ref (a 3), .ref (a 1), .ref (a 4), .int σ.1.2.2.2.1, .ref (a 5)])), ((a 1), .inr (2, [.ref (a 2)])), ((a 2), .inl ((k 0), 8, .inl σ.1.1)), ((a 3), .inl ((k 1), n, .inl σ.1.2.1)), ((a 4), .inl ((k 2), 256, .inl σ.1.2.2.1)), ((a 5), .inl ((k 3), 2, .inr (.inl σ.1.2.2.2.2))), ((f 6), .inr (4, [.int 0, .ref (f 7), .ref (f 8), .int σ.2.1.2.1, .int σ.2.1.2.2.1, .int σ.2.1.2.2.2.1])), ((f 7), .inl ((kf 4), 32, .inl σ.2.1.1)), ((f 8), .inr (3, csF σ.2.1.2.2.2.2)), ((d 6), .inr (4, [.int 1, .ref (d 7), .ref (d 8), .int σ.2.2.2.1, .int σ.2.2.2.2.1, .int σ.2.2.2.2.2.1])), ((d 7), .inl ((kd 4), 32, .inl σ.2.2.1)), ((d 8), .inr (3, csF σ.2.2.2.2.2.2))]) (W2 := fun _ => wT t hs kh a f d k kf kd n σ) (xS (rest := []) ⟨hx, hb, hml, hown, hts⟩ (c_Csrs_isTold x1) mw_Csrs_isTold ms_Csrs_isTold k_595 ⟨rfl, rfl, Nat.le_of_ble_eq_true rfl, Nat.le_of_ble_eq_true rfl⟩ hK hP hD hS hA hF [] [] rfl rfl rfl rfl hl.1 rfl (Nat.le_of_ble_eq_true rfl) d_TwinHart_put_8 ⟨Nat.zero_le _, Nat.zero_le _⟩) hP hD hS hA [] [0, 1, 2, 3, 4, 5, 6, 7, 8, 9, 10, 11, 12, 13] [0, 1, 2, 3, 4, 5, 6, 7, 8, 9, 10, 11, 12, 13] rfl rfl rfl (by decide) (fun _ => rfl) rfl (fun r_3 _ H locs h_3 hP hD hS => ?_)
    obtain ⟨h_3, z_3⟩ := h_3
    subst h_3
    refine lv_if_eq (tgt := 21) hx hb d_TwinHart_put_11 (by decide) (fun c_4 => ?_) (fun c_4 => ?_)
    · refine lv_iconst (v := 0) hx hb d_TwinHart_put_21 rfl ?_
      exact rz σ hx hb hr hlocks rfl hP hD hS d_TwinHart_put_22 ⟨by simp only [sp_TwinHart_put, if_pos (rfl : (0 : Int32) = 0), if_pos c_4, if_true, if_false], Or.inl rfl⟩
    · refine lv_iload_n hx hb d_TwinHart_put_14 rfl (lv_at hl 2 rfl) ?_
      refine xi (wr := [(t, .inr (0, [.ref (a 0), .ref hs])), (hs, .inl (kh, 2, .inr (.inr (.inr (.inr (hsF f d)))))), ((a 0), .inr (1, [.ref (a 3), .ref (a 1), .ref (a 4), .int σ.1.2.2.2.1, .ref (a 5)])), ((a 1), .inr (2, [.ref (a 2)])), ((a 2), .inl ((k 0), 8, .inl σ.1.1)), ((a 3), .inl ((k 1), n, .inl σ.1.2.1)), ((a 4), .inl ((k 2), 256, .inl σ.1.2.2.1)), ((a 5), .inl ((k 3), 2, .inr (.inl σ.1.2.2.2.2))), ((f 6), .inr (4, [.int 0, .ref (f 7), .ref (f 8), .int σ.2.1.2.1, .int σ.2.1.2.2.1, .int σ.2.1.2.2.2.1])), ((f 7), .inl ((kf 4), 32, .inl σ.2.1.1)), ((f 8), .inr (3, csF σ.2.1.2.2.2.2)), ((d 6), .inr (4, [.int 1, .ref (d 7), .ref (d 8), .int σ.2.2.2.1, .int σ.2.2.2.2.1, .int σ.2.2.2.2.2.1])), ((d 7), .inl ((kd 4), 32, .inl σ.2.2.1)), ((d 8), .inr (3, csF σ.2.2.2.2.2.2))]) (W2 := fun _ => wT t hs kh a f d k kf kd n σ) (xS (rest := []) ⟨hx, hb, hml, hown, hts⟩ (c_Csrs_isReadOnly x1) mw_Csrs_isReadOnly ms_Csrs_isReadOnly k_596 ⟨rfl, rfl, Nat.le_of_ble_eq_true rfl, Nat.le_of_ble_eq_true rfl⟩ hK hP hD hS hA hF [] [] rfl rfl rfl rfl hl.1 rfl (Nat.le_of_ble_eq_true rfl) d_TwinHart_put_15 ⟨Nat.zero_le _, Nat.zero_le _⟩) hP hD hS hA [] [0, 1, 2, 3, 4, 5, 6, 7, 8, 9, 10, 11, 12, 13] [0, 1, 2, 3, 4, 5, 6, 7, 8, 9, 10, 11, 12, 13] rfl rfl rfl (by decide) (fun _ => rfl) rfl (fun r_5 _ H locs h_5 hP hD hS => ?_)
      obtain ⟨h_5, z_5⟩ := h_5
      subst h_5
      refine lv_if_eq (tgt := 23) hx hb d_TwinHart_put_18 (by decide) (fun c_6 => ?_) (fun c_6 => ?_)
      · refine lv_aload_n hx hb d_TwinHart_put_23 rfl (lv_at hl 0 rfl) ?_
        refine va_get (D := D) (ci := 0) (v := .ref hs) (C := R_TwinHart) (T := F_TwinHart) (N := 2) hx hb hts i_TwinHart hown hK hP 0 rfl rfl 1 (by decide) (hts _ k_167) (fun _ h9 => h9) rfl d_TwinHart_put_24 ?_
        refine lv_iload_n hx hb d_TwinHart_put_27 rfl (lv_at hl 1 rfl) ?_
        refine va_aldq (C := R_Hart) hx hb hK hP 1 6 rfl rfl (by unfold vp_in; decide) d_TwinHart_put_28 ?_
        refine W.eq (g2 := F0 m 29 ls [.ref (f 6)]) rfl ?_
        refine va_get (D := D) (ci := 4) (v := .ref (f 8)) (C := R_Hart) (T := F_Hart) (N := 6) hx hb hts i_Hart hown hK hP 8 rfl rfl 2 (by decide) (hts _ k_147) (fun _ h9 => h9) rfl d_TwinHart_put_29 ?_
        refine lv_iload_n hx hb d_TwinHart_put_32 rfl (lv_at hl 2 rfl) ?_
        refine lv_iload_n hx hb d_TwinHart_put_33 rfl (lv_at hl 3 rfl) ?_
        refine xv (wr := [(t, .inr (0, [.ref (a 0), .ref hs])), (hs, .inl (kh, 2, .inr (.inr (.inr (.inr (hsF f d)))))), ((a 0), .inr (1, [.ref (a 3), .ref (a 1), .ref (a 4), .int σ.1.2.2.2.1, .ref (a 5)])), ((a 1), .inr (2, [.ref (a 2)])), ((a 2), .inl ((k 0), 8, .inl σ.1.1)), ((a 3), .inl ((k 1), n, .inl σ.1.2.1)), ((a 4), .inl ((k 2), 256, .inl σ.1.2.2.1)), ((a 5), .inl ((k 3), 2, .inr (.inl σ.1.2.2.2.2))), ((f 6), .inr (4, [.int 0, .ref (f 7), .ref (f 8), .int σ.2.1.2.1, .int σ.2.1.2.2.1, .int σ.2.1.2.2.2.1])), ((f 7), .inl ((kf 4), 32, .inl σ.2.1.1)), ((d 6), .inr (4, [.int 1, .ref (d 7), .ref (d 8), .int σ.2.2.2.1, .int σ.2.2.2.2.1, .int σ.2.2.2.2.2.1])), ((d 7), .inl ((kd 4), 32, .inl σ.2.2.1)), ((d 8), .inr (3, csF σ.2.2.2.2.2.2))]) (W2 := fun u9 => wT t hs kh a f d k kf kd n (σ.1, (σ.2.1.1, σ.2.1.2.1, σ.2.1.2.2.1, σ.2.1.2.2.2.1, u9), σ.2.2)) (xV (rest := []) ⟨hx, hb, hml, hown, hts⟩ (c_Csrs_write (f 8) x1 x2 σ.2.1.2.2.2.2) mw_Csrs_write mv_Csrs_write k_597 ⟨rfl, rfl, Nat.le_of_ble_eq_true rfl, Nat.le_of_ble_eq_true rfl⟩ hK hP hD hS hA hF [10] [] rfl rfl rfl 10 3 rfl rfl rfl rfl hl.1 rfl (Nat.le_of_ble_eq_true rfl) d_TwinHart_put_34 ⟨Nat.zero_le _, Nat.zero_le _⟩) hP hD hS hA [10] [0, 1, 2, 3, 4, 5, 6, 7, 8, 9, 11, 12, 13] [0, 1, 2, 3, 4, 5, 6, 7, 8, 9, 13, 10, 11, 12] rfl rfl rfl (by decide) (fun _ => rfl) rfl (fun u_7 H locs h_7 hP hD hS => ?_)
        refine lv_iconst (v := 1) hx hb d_TwinHart_put_37 rfl ?_
        exact rz (σ.1, (σ.2.1.1, σ.2.1.2.1, σ.2.1.2.2.1, σ.2.1.2.2.2.1, u_7), σ.2.2) hx hb hr hlocks rfl hP hD hS d_TwinHart_put_38 ⟨by simp only [sp_TwinHart_put, h_7, if_pos (rfl : (0 : Int32) = 0), if_neg c_4, if_pos c_6, if_true, if_false], Or.inr rfl⟩
      · refine lv_iconst (v := 0) hx hb d_TwinHart_put_21 rfl ?_
        exact rz σ hx hb hr hlocks rfl hP hD hS d_TwinHart_put_22 ⟨by simp only [sp_TwinHart_put, if_pos (rfl : (0 : Int32) = 0), if_neg c_4, if_neg c_6, if_true, if_false], Or.inl rfl⟩
  · refine CT.of rfl (Nat.le_of_ble_eq_true rfl) (fun p e s m below meth c A ls hx hb hr hml hts hown hlocks hA hP hK hD hF hS hl => ?_)
    have hl : lv_has ls 4 [(0, .ref t), (1, .int 1), (2, .int x1), (3, .int x2)] := hl
    refine lv_iload_n hx hb d_TwinHart_put_0 rfl (lv_at hl 1 rfl) ?_
    refine xi (wr := [(t, .inr (0, [.ref (a 0), .ref hs])), (hs, .inl (kh, 2, .inr (.inr (.inr (.inr (hsF f d)))))), ((a 0), .inr (1, [.ref (a 3), .ref (a 1), .ref (a 4), .int σ.1.2.2.2.1, .ref (a 5)])), ((a 1), .inr (2, [.ref (a 2)])), ((a 2), .inl ((k 0), 8, .inl σ.1.1)), ((a 3), .inl ((k 1), n, .inl σ.1.2.1)), ((a 4), .inl ((k 2), 256, .inl σ.1.2.2.1)), ((a 5), .inl ((k 3), 2, .inr (.inl σ.1.2.2.2.2))), ((f 6), .inr (4, [.int 0, .ref (f 7), .ref (f 8), .int σ.2.1.2.1, .int σ.2.1.2.2.1, .int σ.2.1.2.2.2.1])), ((f 7), .inl ((kf 4), 32, .inl σ.2.1.1)), ((f 8), .inr (3, csF σ.2.1.2.2.2.2)), ((d 6), .inr (4, [.int 1, .ref (d 7), .ref (d 8), .int σ.2.2.2.1, .int σ.2.2.2.2.1, .int σ.2.2.2.2.2.1])), ((d 7), .inl ((kd 4), 32, .inl σ.2.2.1)), ((d 8), .inr (3, csF σ.2.2.2.2.2.2))]) (W2 := fun _ => wT t hs kh a f d k kf kd n σ) (xS (rest := []) ⟨hx, hb, hml, hown, hts⟩ (c_TwinHart_isHart 1) mw_TwinHart_isHart ms_TwinHart_isHart k_210 ⟨rfl, rfl, Nat.le_of_ble_eq_true rfl, Nat.le_of_ble_eq_true rfl⟩ hK hP hD hS hA hF [] [] rfl rfl rfl rfl hl.1 rfl (Nat.le_of_ble_eq_true rfl) d_TwinHart_put_1 ⟨Nat.zero_le _, Nat.zero_le _⟩) hP hD hS hA [] [0, 1, 2, 3, 4, 5, 6, 7, 8, 9, 10, 11, 12, 13] [0, 1, 2, 3, 4, 5, 6, 7, 8, 9, 10, 11, 12, 13] rfl rfl rfl (by decide) (fun _ => rfl) rfl (fun r_1 _ H locs h_1 hP hD hS => ?_)
    obtain ⟨h_1, z_1⟩ := h_1
    subst h_1
    refine W.eq (g2 := F0 m 4 ls [.int 1]) rfl ?_
    refine lv_if_eq (tgt := 21) hx hb d_TwinHart_put_4 (by decide) (fun h9 => absurd h9 (by decide)) (fun _ => ?_)
    refine lv_iload_n hx hb d_TwinHart_put_7 rfl (lv_at hl 2 rfl) ?_
    refine xi (wr := [(t, .inr (0, [.ref (a 0), .ref hs])), (hs, .inl (kh, 2, .inr (.inr (.inr (.inr (hsF f d)))))), ((a 0), .inr (1, [.ref (a 3), .ref (a 1), .ref (a 4), .int σ.1.2.2.2.1, .ref (a 5)])), ((a 1), .inr (2, [.ref (a 2)])), ((a 2), .inl ((k 0), 8, .inl σ.1.1)), ((a 3), .inl ((k 1), n, .inl σ.1.2.1)), ((a 4), .inl ((k 2), 256, .inl σ.1.2.2.1)), ((a 5), .inl ((k 3), 2, .inr (.inl σ.1.2.2.2.2))), ((f 6), .inr (4, [.int 0, .ref (f 7), .ref (f 8), .int σ.2.1.2.1, .int σ.2.1.2.2.1, .int σ.2.1.2.2.2.1])), ((f 7), .inl ((kf 4), 32, .inl σ.2.1.1)), ((f 8), .inr (3, csF σ.2.1.2.2.2.2)), ((d 6), .inr (4, [.int 1, .ref (d 7), .ref (d 8), .int σ.2.2.2.1, .int σ.2.2.2.2.1, .int σ.2.2.2.2.2.1])), ((d 7), .inl ((kd 4), 32, .inl σ.2.2.1)), ((d 8), .inr (3, csF σ.2.2.2.2.2.2))]) (W2 := fun _ => wT t hs kh a f d k kf kd n σ) (xS (rest := []) ⟨hx, hb, hml, hown, hts⟩ (c_Csrs_isTold x1) mw_Csrs_isTold ms_Csrs_isTold k_595 ⟨rfl, rfl, Nat.le_of_ble_eq_true rfl, Nat.le_of_ble_eq_true rfl⟩ hK hP hD hS hA hF [] [] rfl rfl rfl rfl hl.1 rfl (Nat.le_of_ble_eq_true rfl) d_TwinHart_put_8 ⟨Nat.zero_le _, Nat.zero_le _⟩) hP hD hS hA [] [0, 1, 2, 3, 4, 5, 6, 7, 8, 9, 10, 11, 12, 13] [0, 1, 2, 3, 4, 5, 6, 7, 8, 9, 10, 11, 12, 13] rfl rfl rfl (by decide) (fun _ => rfl) rfl (fun r_3 _ H locs h_3 hP hD hS => ?_)
    obtain ⟨h_3, z_3⟩ := h_3
    subst h_3
    refine lv_if_eq (tgt := 21) hx hb d_TwinHart_put_11 (by decide) (fun c_4 => ?_) (fun c_4 => ?_)
    · refine lv_iconst (v := 0) hx hb d_TwinHart_put_21 rfl ?_
      exact rz σ hx hb hr hlocks rfl hP hD hS d_TwinHart_put_22 ⟨by simp only [sp_TwinHart_put, if_neg (by decide : ¬ (1 : Int32) = 0), if_pos (rfl : (1 : Int32) = 1), if_pos c_4, if_true, if_false], Or.inl rfl⟩
    · refine lv_iload_n hx hb d_TwinHart_put_14 rfl (lv_at hl 2 rfl) ?_
      refine xi (wr := [(t, .inr (0, [.ref (a 0), .ref hs])), (hs, .inl (kh, 2, .inr (.inr (.inr (.inr (hsF f d)))))), ((a 0), .inr (1, [.ref (a 3), .ref (a 1), .ref (a 4), .int σ.1.2.2.2.1, .ref (a 5)])), ((a 1), .inr (2, [.ref (a 2)])), ((a 2), .inl ((k 0), 8, .inl σ.1.1)), ((a 3), .inl ((k 1), n, .inl σ.1.2.1)), ((a 4), .inl ((k 2), 256, .inl σ.1.2.2.1)), ((a 5), .inl ((k 3), 2, .inr (.inl σ.1.2.2.2.2))), ((f 6), .inr (4, [.int 0, .ref (f 7), .ref (f 8), .int σ.2.1.2.1, .int σ.2.1.2.2.1, .int σ.2.1.2.2.2.1])), ((f 7), .inl ((kf 4), 32, .inl σ.2.1.1)), ((f 8), .inr (3, csF σ.2.1.2.2.2.2)), ((d 6), .inr (4, [.int 1, .ref (d 7), .ref (d 8), .int σ.2.2.2.1, .int σ.2.2.2.2.1, .int σ.2.2.2.2.2.1])), ((d 7), .inl ((kd 4), 32, .inl σ.2.2.1)), ((d 8), .inr (3, csF σ.2.2.2.2.2.2))]) (W2 := fun _ => wT t hs kh a f d k kf kd n σ) (xS (rest := []) ⟨hx, hb, hml, hown, hts⟩ (c_Csrs_isReadOnly x1) mw_Csrs_isReadOnly ms_Csrs_isReadOnly k_596 ⟨rfl, rfl, Nat.le_of_ble_eq_true rfl, Nat.le_of_ble_eq_true rfl⟩ hK hP hD hS hA hF [] [] rfl rfl rfl rfl hl.1 rfl (Nat.le_of_ble_eq_true rfl) d_TwinHart_put_15 ⟨Nat.zero_le _, Nat.zero_le _⟩) hP hD hS hA [] [0, 1, 2, 3, 4, 5, 6, 7, 8, 9, 10, 11, 12, 13] [0, 1, 2, 3, 4, 5, 6, 7, 8, 9, 10, 11, 12, 13] rfl rfl rfl (by decide) (fun _ => rfl) rfl (fun r_5 _ H locs h_5 hP hD hS => ?_)
      obtain ⟨h_5, z_5⟩ := h_5
      subst h_5
      refine lv_if_eq (tgt := 23) hx hb d_TwinHart_put_18 (by decide) (fun c_6 => ?_) (fun c_6 => ?_)
      · refine lv_aload_n hx hb d_TwinHart_put_23 rfl (lv_at hl 0 rfl) ?_
        refine va_get (D := D) (ci := 0) (v := .ref hs) (C := R_TwinHart) (T := F_TwinHart) (N := 2) hx hb hts i_TwinHart hown hK hP 0 rfl rfl 1 (by decide) (hts _ k_167) (fun _ h9 => h9) rfl d_TwinHart_put_24 ?_
        refine lv_iload_n hx hb d_TwinHart_put_27 rfl (lv_at hl 1 rfl) ?_
        refine va_aldq (C := R_Hart) hx hb hK hP 1 6 rfl rfl (by unfold vp_in; decide) d_TwinHart_put_28 ?_
        refine W.eq (g2 := F0 m 29 ls [.ref (d 6)]) rfl ?_
        refine va_get (D := D) (ci := 4) (v := .ref (d 8)) (C := R_Hart) (T := F_Hart) (N := 6) hx hb hts i_Hart hown hK hP 11 rfl rfl 2 (by decide) (hts _ k_147) (fun _ h9 => h9) rfl d_TwinHart_put_29 ?_
        refine lv_iload_n hx hb d_TwinHart_put_32 rfl (lv_at hl 2 rfl) ?_
        refine lv_iload_n hx hb d_TwinHart_put_33 rfl (lv_at hl 3 rfl) ?_
        refine xv (wr := [(t, .inr (0, [.ref (a 0), .ref hs])), (hs, .inl (kh, 2, .inr (.inr (.inr (.inr (hsF f d)))))), ((a 0), .inr (1, [.ref (a 3), .ref (a 1), .ref (a 4), .int σ.1.2.2.2.1, .ref (a 5)])), ((a 1), .inr (2, [.ref (a 2)])), ((a 2), .inl ((k 0), 8, .inl σ.1.1)), ((a 3), .inl ((k 1), n, .inl σ.1.2.1)), ((a 4), .inl ((k 2), 256, .inl σ.1.2.2.1)), ((a 5), .inl ((k 3), 2, .inr (.inl σ.1.2.2.2.2))), ((f 6), .inr (4, [.int 0, .ref (f 7), .ref (f 8), .int σ.2.1.2.1, .int σ.2.1.2.2.1, .int σ.2.1.2.2.2.1])), ((f 7), .inl ((kf 4), 32, .inl σ.2.1.1)), ((f 8), .inr (3, csF σ.2.1.2.2.2.2)), ((d 6), .inr (4, [.int 1, .ref (d 7), .ref (d 8), .int σ.2.2.2.1, .int σ.2.2.2.2.1, .int σ.2.2.2.2.2.1])), ((d 7), .inl ((kd 4), 32, .inl σ.2.2.1))]) (W2 := fun u9 => wT t hs kh a f d k kf kd n (σ.1, σ.2.1, (σ.2.2.1, σ.2.2.2.1, σ.2.2.2.2.1, σ.2.2.2.2.2.1, u9))) (xV (rest := []) ⟨hx, hb, hml, hown, hts⟩ (c_Csrs_write (d 8) x1 x2 σ.2.2.2.2.2.2) mw_Csrs_write mv_Csrs_write k_597 ⟨rfl, rfl, Nat.le_of_ble_eq_true rfl, Nat.le_of_ble_eq_true rfl⟩ hK hP hD hS hA hF [13] [] rfl rfl rfl 13 3 rfl rfl rfl rfl hl.1 rfl (Nat.le_of_ble_eq_true rfl) d_TwinHart_put_34 ⟨Nat.zero_le _, Nat.zero_le _⟩) hP hD hS hA [13] [0, 1, 2, 3, 4, 5, 6, 7, 8, 9, 10, 11, 12] [0, 1, 2, 3, 4, 5, 6, 7, 8, 9, 10, 11, 12, 13] rfl rfl rfl (by decide) (fun _ => rfl) rfl (fun u_7 H locs h_7 hP hD hS => ?_)
        refine lv_iconst (v := 1) hx hb d_TwinHart_put_37 rfl ?_
        exact rz (σ.1, σ.2.1, (σ.2.2.1, σ.2.2.2.1, σ.2.2.2.2.1, σ.2.2.2.2.2.1, u_7)) hx hb hr hlocks rfl hP hD hS d_TwinHart_put_38 ⟨by simp only [sp_TwinHart_put, h_7, if_neg (by decide : ¬ (1 : Int32) = 0), if_pos (rfl : (1 : Int32) = 1), if_neg c_4, if_pos c_6, if_true, if_false], Or.inr rfl⟩
      · refine lv_iconst (v := 0) hx hb d_TwinHart_put_21 rfl ?_
        exact rz σ hx hb hr hlocks rfl hP hD hS d_TwinHart_put_22 ⟨by simp only [sp_TwinHart_put, if_neg (by decide : ¬ (1 : Int32) = 0), if_pos (rfl : (1 : Int32) = 1), if_neg c_4, if_neg c_6, if_true, if_false], Or.inl rfl⟩
  · refine CT.of rfl (Nat.le_of_ble_eq_true rfl) (fun p e s m below meth c A ls hx hb hr hml hts hown hlocks hA hP hK hD hF hS hl => ?_)
    have hl : lv_has ls 4 [(0, .ref t), (1, .int x0), (2, .int x1), (3, .int x2)] := hl
    refine lv_iload_n hx hb d_TwinHart_put_0 rfl (lv_at hl 1 rfl) ?_
    refine xi (wr := [(t, .inr (0, [.ref (a 0), .ref hs])), (hs, .inl (kh, 2, .inr (.inr (.inr (.inr (hsF f d)))))), ((a 0), .inr (1, [.ref (a 3), .ref (a 1), .ref (a 4), .int σ.1.2.2.2.1, .ref (a 5)])), ((a 1), .inr (2, [.ref (a 2)])), ((a 2), .inl ((k 0), 8, .inl σ.1.1)), ((a 3), .inl ((k 1), n, .inl σ.1.2.1)), ((a 4), .inl ((k 2), 256, .inl σ.1.2.2.1)), ((a 5), .inl ((k 3), 2, .inr (.inl σ.1.2.2.2.2))), ((f 6), .inr (4, [.int 0, .ref (f 7), .ref (f 8), .int σ.2.1.2.1, .int σ.2.1.2.2.1, .int σ.2.1.2.2.2.1])), ((f 7), .inl ((kf 4), 32, .inl σ.2.1.1)), ((f 8), .inr (3, csF σ.2.1.2.2.2.2)), ((d 6), .inr (4, [.int 1, .ref (d 7), .ref (d 8), .int σ.2.2.2.1, .int σ.2.2.2.2.1, .int σ.2.2.2.2.2.1])), ((d 7), .inl ((kd 4), 32, .inl σ.2.2.1)), ((d 8), .inr (3, csF σ.2.2.2.2.2.2))]) (W2 := fun _ => wT t hs kh a f d k kf kd n σ) (xS (rest := []) ⟨hx, hb, hml, hown, hts⟩ (c_TwinHart_isHart x0) mw_TwinHart_isHart ms_TwinHart_isHart k_210 ⟨rfl, rfl, Nat.le_of_ble_eq_true rfl, Nat.le_of_ble_eq_true rfl⟩ hK hP hD hS hA hF [] [] rfl rfl rfl rfl hl.1 rfl (Nat.le_of_ble_eq_true rfl) d_TwinHart_put_1 ⟨Nat.zero_le _, Nat.zero_le _⟩) hP hD hS hA [] [0, 1, 2, 3, 4, 5, 6, 7, 8, 9, 10, 11, 12, 13] [0, 1, 2, 3, 4, 5, 6, 7, 8, 9, 10, 11, 12, 13] rfl rfl rfl (by decide) (fun _ => rfl) rfl (fun r_1 _ H locs h_1 hP hD hS => ?_)
    obtain ⟨h_1, z_1⟩ := h_1
    subst h_1
    refine lv_if_eq (tgt := 21) hx hb d_TwinHart_put_4 (by decide) (fun _ => ?_) (fun h9 => absurd q_2 h9)
    refine lv_iconst (v := 0) hx hb d_TwinHart_put_21 rfl ?_
    exact rz σ hx hb hr hlocks rfl hP hD hS d_TwinHart_put_22 ⟨by simp only [sp_TwinHart_put, if_neg q_0, if_neg q_1, if_pos q_2, if_true, if_false], Or.inl rfl⟩
def sp_TwinHart_level (n : Nat) (x0 : Int32) (σ : TT) : Int32 :=
  if x0 = 0 then
    σ.2.1.2.2.1
  else
    if x0 = 1 then
      σ.2.2.2.2.1
    else
      (-1)
set_option maxHeartbeats 4000000 in
set_option maxRecDepth 100000 in
theorem c_TwinHart_level {l : Launch} {D : va_G} {g : Nat → Nat} (t hs : Nat) (kh : ClassId) (a f d : Nat → Nat) (k kf kd : Nat → ClassId) (n : Nat) (x0 : Int32) (σ : TT) (hn : n ≤ 4096) : CT l D g y_TwinHart_level b_TwinHart_level 2 (some .int) (rD 1) [.ref t, .int x0] (wT t hs kh a f d k kf kd n σ) (tyT k kf kd kh) (Qi D (fun (r : Int32) (_ : Unit) => sp_TwinHart_level n x0 σ = r) (fun _ => wT t hs kh a f d k kf kd n σ)) := by
  rcases hart3 x0 with rfl | rfl | ⟨q_0, q_1, q_2⟩
  · refine CT.of rfl (Nat.le_of_ble_eq_true rfl) (fun p e s m below meth c A ls hx hb hr hml hts hown hlocks hA hP hK hD hF hS hl => ?_)
    have hl : lv_has ls 2 [(0, .ref t), (1, .int 0)] := hl
    refine lv_iload_n hx hb d_TwinHart_level_0 rfl (lv_at hl 1 rfl) ?_
    refine xi (wr := [(t, .inr (0, [.ref (a 0), .ref hs])), (hs, .inl (kh, 2, .inr (.inr (.inr (.inr (hsF f d)))))), ((a 0), .inr (1, [.ref (a 3), .ref (a 1), .ref (a 4), .int σ.1.2.2.2.1, .ref (a 5)])), ((a 1), .inr (2, [.ref (a 2)])), ((a 2), .inl ((k 0), 8, .inl σ.1.1)), ((a 3), .inl ((k 1), n, .inl σ.1.2.1)), ((a 4), .inl ((k 2), 256, .inl σ.1.2.2.1)), ((a 5), .inl ((k 3), 2, .inr (.inl σ.1.2.2.2.2))), ((f 6), .inr (4, [.int 0, .ref (f 7), .ref (f 8), .int σ.2.1.2.1, .int σ.2.1.2.2.1, .int σ.2.1.2.2.2.1])), ((f 7), .inl ((kf 4), 32, .inl σ.2.1.1)), ((f 8), .inr (3, csF σ.2.1.2.2.2.2)), ((d 6), .inr (4, [.int 1, .ref (d 7), .ref (d 8), .int σ.2.2.2.1, .int σ.2.2.2.2.1, .int σ.2.2.2.2.2.1])), ((d 7), .inl ((kd 4), 32, .inl σ.2.2.1)), ((d 8), .inr (3, csF σ.2.2.2.2.2.2))]) (W2 := fun _ => wT t hs kh a f d k kf kd n σ) (xS (rest := []) ⟨hx, hb, hml, hown, hts⟩ (c_TwinHart_isHart 0) mw_TwinHart_isHart ms_TwinHart_isHart k_210 ⟨rfl, rfl, Nat.le_of_ble_eq_true rfl, Nat.le_of_ble_eq_true rfl⟩ hK hP hD hS hA hF [] [] rfl rfl rfl rfl hl.1 rfl (Nat.le_of_ble_eq_true rfl) d_TwinHart_level_1 ⟨Nat.zero_le _, Nat.zero_le _⟩) hP hD hS hA [] [0, 1, 2, 3, 4, 5, 6, 7, 8, 9, 10, 11, 12, 13] [0, 1, 2, 3, 4, 5, 6, 7, 8, 9, 10, 11, 12, 13] rfl rfl rfl (by decide) (fun _ => rfl) rfl (fun r_1 _ H locs h_1 hP hD hS => ?_)
    obtain ⟨h_1, z_1⟩ := h_1
    subst h_1
    refine W.eq (g2 := F0 m 4 ls [.int 1]) rfl ?_
    refine lv_if_eq (tgt := 19) hx hb d_TwinHart_level_4 (by decide) (fun h9 => absurd h9 (by decide)) (fun _ => ?_)
    refine lv_aload_n hx hb d_TwinHart_level_7 rfl (lv_at hl 0 rfl) ?_
    refine va_get (D := D) (ci := 0) (v := .ref hs) (C := R_TwinHart) (T := F_TwinHart) (N := 2) hx hb hts i_TwinHart hown hK hP 0 rfl rfl 1 (by decide) (hts _ k_167) (fun _ h9 => h9) rfl d_TwinHart_level_8 ?_
    refine lv_iload_n hx hb d_TwinHart_level_11 rfl (lv_at hl 1 rfl) ?_
    refine va_aldq (C := R_Hart) hx hb hK hP 1 6 rfl rfl (by unfold vp_in; decide) d_TwinHart_level_12 ?_
    refine W.eq (g2 := F0 m 13 ls [.ref (f 6)]) rfl ?_
    refine va_get (D := D) (ci := 4) (v := .int σ.2.1.2.2.1) (C := R_Hart) (T := F_Hart) (N := 6) hx hb hts i_Hart hown hK hP 8 rfl rfl 4 (by decide) (hts _ k_151) (fun _ h9 => h9) rfl d_TwinHart_level_13 ?_
    refine lv_goto (tgt := 20) hx hb d_TwinHart_level_16 (by decide) ?_
    exact ri () hx hb hr hlocks hP hD hS d_TwinHart_level_20 (by simp only [sp_TwinHart_level, if_pos (rfl : (0 : Int32) = 0), if_true, if_false])
  · refine CT.of rfl (Nat.le_of_ble_eq_true rfl) (fun p e s m below meth c A ls hx hb hr hml hts hown hlocks hA hP hK hD hF hS hl => ?_)
    have hl : lv_has ls 2 [(0, .ref t), (1, .int 1)] := hl
    refine lv_iload_n hx hb d_TwinHart_level_0 rfl (lv_at hl 1 rfl) ?_
    refine xi (wr := [(t, .inr (0, [.ref (a 0), .ref hs])), (hs, .inl (kh, 2, .inr (.inr (.inr (.inr (hsF f d)))))), ((a 0), .inr (1, [.ref (a 3), .ref (a 1), .ref (a 4), .int σ.1.2.2.2.1, .ref (a 5)])), ((a 1), .inr (2, [.ref (a 2)])), ((a 2), .inl ((k 0), 8, .inl σ.1.1)), ((a 3), .inl ((k 1), n, .inl σ.1.2.1)), ((a 4), .inl ((k 2), 256, .inl σ.1.2.2.1)), ((a 5), .inl ((k 3), 2, .inr (.inl σ.1.2.2.2.2))), ((f 6), .inr (4, [.int 0, .ref (f 7), .ref (f 8), .int σ.2.1.2.1, .int σ.2.1.2.2.1, .int σ.2.1.2.2.2.1])), ((f 7), .inl ((kf 4), 32, .inl σ.2.1.1)), ((f 8), .inr (3, csF σ.2.1.2.2.2.2)), ((d 6), .inr (4, [.int 1, .ref (d 7), .ref (d 8), .int σ.2.2.2.1, .int σ.2.2.2.2.1, .int σ.2.2.2.2.2.1])), ((d 7), .inl ((kd 4), 32, .inl σ.2.2.1)), ((d 8), .inr (3, csF σ.2.2.2.2.2.2))]) (W2 := fun _ => wT t hs kh a f d k kf kd n σ) (xS (rest := []) ⟨hx, hb, hml, hown, hts⟩ (c_TwinHart_isHart 1) mw_TwinHart_isHart ms_TwinHart_isHart k_210 ⟨rfl, rfl, Nat.le_of_ble_eq_true rfl, Nat.le_of_ble_eq_true rfl⟩ hK hP hD hS hA hF [] [] rfl rfl rfl rfl hl.1 rfl (Nat.le_of_ble_eq_true rfl) d_TwinHart_level_1 ⟨Nat.zero_le _, Nat.zero_le _⟩) hP hD hS hA [] [0, 1, 2, 3, 4, 5, 6, 7, 8, 9, 10, 11, 12, 13] [0, 1, 2, 3, 4, 5, 6, 7, 8, 9, 10, 11, 12, 13] rfl rfl rfl (by decide) (fun _ => rfl) rfl (fun r_1 _ H locs h_1 hP hD hS => ?_)
    obtain ⟨h_1, z_1⟩ := h_1
    subst h_1
    refine W.eq (g2 := F0 m 4 ls [.int 1]) rfl ?_
    refine lv_if_eq (tgt := 19) hx hb d_TwinHart_level_4 (by decide) (fun h9 => absurd h9 (by decide)) (fun _ => ?_)
    refine lv_aload_n hx hb d_TwinHart_level_7 rfl (lv_at hl 0 rfl) ?_
    refine va_get (D := D) (ci := 0) (v := .ref hs) (C := R_TwinHart) (T := F_TwinHart) (N := 2) hx hb hts i_TwinHart hown hK hP 0 rfl rfl 1 (by decide) (hts _ k_167) (fun _ h9 => h9) rfl d_TwinHart_level_8 ?_
    refine lv_iload_n hx hb d_TwinHart_level_11 rfl (lv_at hl 1 rfl) ?_
    refine va_aldq (C := R_Hart) hx hb hK hP 1 6 rfl rfl (by unfold vp_in; decide) d_TwinHart_level_12 ?_
    refine W.eq (g2 := F0 m 13 ls [.ref (d 6)]) rfl ?_
    refine va_get (D := D) (ci := 4) (v := .int σ.2.2.2.2.1) (C := R_Hart) (T := F_Hart) (N := 6) hx hb hts i_Hart hown hK hP 11 rfl rfl 4 (by decide) (hts _ k_151) (fun _ h9 => h9) rfl d_TwinHart_level_13 ?_
    refine lv_goto (tgt := 20) hx hb d_TwinHart_level_16 (by decide) ?_
    exact ri () hx hb hr hlocks hP hD hS d_TwinHart_level_20 (by simp only [sp_TwinHart_level, if_neg (by decide : ¬ (1 : Int32) = 0), if_pos (rfl : (1 : Int32) = 1), if_true, if_false])
  · refine CT.of rfl (Nat.le_of_ble_eq_true rfl) (fun p e s m below meth c A ls hx hb hr hml hts hown hlocks hA hP hK hD hF hS hl => ?_)
    have hl : lv_has ls 2 [(0, .ref t), (1, .int x0)] := hl
    refine lv_iload_n hx hb d_TwinHart_level_0 rfl (lv_at hl 1 rfl) ?_
    refine xi (wr := [(t, .inr (0, [.ref (a 0), .ref hs])), (hs, .inl (kh, 2, .inr (.inr (.inr (.inr (hsF f d)))))), ((a 0), .inr (1, [.ref (a 3), .ref (a 1), .ref (a 4), .int σ.1.2.2.2.1, .ref (a 5)])), ((a 1), .inr (2, [.ref (a 2)])), ((a 2), .inl ((k 0), 8, .inl σ.1.1)), ((a 3), .inl ((k 1), n, .inl σ.1.2.1)), ((a 4), .inl ((k 2), 256, .inl σ.1.2.2.1)), ((a 5), .inl ((k 3), 2, .inr (.inl σ.1.2.2.2.2))), ((f 6), .inr (4, [.int 0, .ref (f 7), .ref (f 8), .int σ.2.1.2.1, .int σ.2.1.2.2.1, .int σ.2.1.2.2.2.1])), ((f 7), .inl ((kf 4), 32, .inl σ.2.1.1)), ((f 8), .inr (3, csF σ.2.1.2.2.2.2)), ((d 6), .inr (4, [.int 1, .ref (d 7), .ref (d 8), .int σ.2.2.2.1, .int σ.2.2.2.2.1, .int σ.2.2.2.2.2.1])), ((d 7), .inl ((kd 4), 32, .inl σ.2.2.1)), ((d 8), .inr (3, csF σ.2.2.2.2.2.2))]) (W2 := fun _ => wT t hs kh a f d k kf kd n σ) (xS (rest := []) ⟨hx, hb, hml, hown, hts⟩ (c_TwinHart_isHart x0) mw_TwinHart_isHart ms_TwinHart_isHart k_210 ⟨rfl, rfl, Nat.le_of_ble_eq_true rfl, Nat.le_of_ble_eq_true rfl⟩ hK hP hD hS hA hF [] [] rfl rfl rfl rfl hl.1 rfl (Nat.le_of_ble_eq_true rfl) d_TwinHart_level_1 ⟨Nat.zero_le _, Nat.zero_le _⟩) hP hD hS hA [] [0, 1, 2, 3, 4, 5, 6, 7, 8, 9, 10, 11, 12, 13] [0, 1, 2, 3, 4, 5, 6, 7, 8, 9, 10, 11, 12, 13] rfl rfl rfl (by decide) (fun _ => rfl) rfl (fun r_1 _ H locs h_1 hP hD hS => ?_)
    obtain ⟨h_1, z_1⟩ := h_1
    subst h_1
    refine lv_if_eq (tgt := 19) hx hb d_TwinHart_level_4 (by decide) (fun _ => ?_) (fun h9 => absurd q_2 h9)
    refine lv_iconst (v := (-1)) hx hb d_TwinHart_level_19 rfl ?_
    exact ri () hx hb hr hlocks hP hD hS d_TwinHart_level_20 (by simp only [sp_TwinHart_level, if_neg q_0, if_neg q_1, if_pos q_2, if_true, if_false])
def sp_TwinHart_size (n : Nat)  (σ : TT) : Int32 :=
  σ.1.2.2.2.1
set_option maxHeartbeats 4000000 in
set_option maxRecDepth 100000 in
theorem c_TwinHart_size {l : Launch} {D : va_G} {g : Nat → Nat} (t hs : Nat) (kh : ClassId) (a f d : Nat → Nat) (k kf kd : Nat → ClassId) (n : Nat)  (σ : TT) (hn : n ≤ 4096) : CT l D g y_TwinHart_size b_TwinHart_size 1 (some .int) (rD 0) [.ref t] (wT t hs kh a f d k kf kd n σ) (tyT k kf kd kh) (Qi D (fun (r : Int32) (_ : Unit) => sp_TwinHart_size n σ = r) (fun _ => wT t hs kh a f d k kf kd n σ)) := by
  refine CT.of rfl (Nat.le_of_ble_eq_true rfl) (fun p e s m below meth c A ls hx hb hr hml hts hown hlocks hA hP hK hD hF hS hl => ?_)
  have hl : lv_has ls 1 [(0, .ref t)] := hl
  refine lv_aload_n hx hb d_TwinHart_size_0 rfl (lv_at hl 0 rfl) ?_
  refine va_get (D := D) (ci := 0) (v := .ref (a 0)) (C := R_TwinHart) (T := F_TwinHart) (N := 2) hx hb hts i_TwinHart hown hK hP 0 rfl rfl 0 (by decide) (hts _ k_166) (fun _ h9 => h9) rfl d_TwinHart_size_1 ?_
  refine va_get (D := D) (ci := 1) (v := .int σ.1.2.2.2.1) (C := R_Memory) (T := F_Memory) (N := 5) hx hb hts i_Memory hown hK hP 2 rfl rfl 3 (by decide) (hts _ k_59) (fun _ h9 => h9) rfl d_TwinHart_size_4 ?_
  exact ri () hx hb hr hlocks hP hD hS d_TwinHart_size_7 (by simp only [sp_TwinHart_size])
def sp_TwinHart_out (n : Nat) (x0 : Int32) (σ : TT) : Int32 :=
  if x0 < 0 then
    (-1)
  else
    if σ.1.2.2.2.1 ≤ x0 then
      (-1)
    else
      (σ.1.2.2.1 x0.toNatClampNeg) &&& 255
set_option maxHeartbeats 4000000 in
set_option maxRecDepth 100000 in
theorem c_TwinHart_out {l : Launch} {D : va_G} {g : Nat → Nat} (t hs : Nat) (kh : ClassId) (a f d : Nat → Nat) (k kf kd : Nat → ClassId) (n : Nat) (x0 : Int32) (σ : TT) (hn : n ≤ 4096) (hp : 0 ≤ σ.1.2.2.2.1 ∧ σ.1.2.2.2.1 ≤ 256) : CT l D g y_TwinHart_out b_TwinHart_out 2 (some .int) (rD 0) [.ref t, .int x0] (wT t hs kh a f d k kf kd n σ) (tyT k kf kd kh) (Qi D (fun (r : Int32) (_ : Unit) => sp_TwinHart_out n x0 σ = r) (fun _ => wT t hs kh a f d k kf kd n σ)) := by
  refine CT.of rfl (Nat.le_of_ble_eq_true rfl) (fun p e s m below meth c A ls hx hb hr hml hts hown hlocks hA hP hK hD hF hS hl => ?_)
  have hl : lv_has ls 2 [(0, .ref t), (1, .int x0)] := hl
  refine lv_iload_n hx hb d_TwinHart_out_0 rfl (lv_at hl 1 rfl) ?_
  refine lv_if_lt (tgt := 31) hx hb d_TwinHart_out_1 (by decide) (fun c_1 => ?_) (fun c_1 => ?_)
  · refine lv_iconst (v := (-1)) hx hb d_TwinHart_out_31 rfl ?_
    exact ri () hx hb hr hlocks hP hD hS d_TwinHart_out_32 (by simp only [sp_TwinHart_out, if_pos c_1])
  · refine lv_iload_n hx hb d_TwinHart_out_4 rfl (lv_at hl 1 rfl) ?_
    refine lv_aload_n hx hb d_TwinHart_out_5 rfl (lv_at hl 0 rfl) ?_
    refine va_get (D := D) (ci := 0) (v := .ref (a 0)) (C := R_TwinHart) (T := F_TwinHart) (N := 2) hx hb hts i_TwinHart hown hK hP 0 rfl rfl 0 (by decide) (hts _ k_166) (fun _ h9 => h9) rfl d_TwinHart_out_6 ?_
    refine va_get (D := D) (ci := 1) (v := .int σ.1.2.2.2.1) (C := R_Memory) (T := F_Memory) (N := 5) hx hb hts i_Memory hown hK hP 2 rfl rfl 3 (by decide) (hts _ k_59) (fun _ h9 => h9) rfl d_TwinHart_out_9 ?_
    refine lv_icmp_ge (tgt := 31) hx hb d_TwinHart_out_12 (by decide) (fun c_2 => ?_) (fun c_2 => ?_)
    · refine lv_iconst (v := (-1)) hx hb d_TwinHart_out_31 rfl ?_
      exact ri () hx hb hr hlocks hP hD hS d_TwinHart_out_32 (by simp only [sp_TwinHart_out, if_neg c_1, if_pos c_2])
    · refine lv_aload_n hx hb d_TwinHart_out_15 rfl (lv_at hl 0 rfl) ?_
      refine va_get (D := D) (ci := 0) (v := .ref (a 0)) (C := R_TwinHart) (T := F_TwinHart) (N := 2) hx hb hts i_TwinHart hown hK hP 0 rfl rfl 0 (by decide) (hts _ k_166) (fun _ h9 => h9) rfl d_TwinHart_out_16 ?_
      refine va_get (D := D) (ci := 1) (v := .ref (a 4)) (C := R_Memory) (T := F_Memory) (N := 5) hx hb hts i_Memory hown hK hP 2 rfl rfl 2 (by decide) (hts _ k_57) (fun _ h9 => h9) rfl d_TwinHart_out_19 ?_
      refine lv_iload_n hx hb d_TwinHart_out_22 rfl (lv_at hl 1 rfl) ?_
      refine y_bald (v := σ.1.2.2.1 x0.toNatClampNeg) hx hb hK hP 6 2 rfl rfl (vp_out hp c_1 c_2) rfl d_TwinHart_out_23 ?_
      refine lv_sipush (v := 255) hx hb d_TwinHart_out_24 rfl ?_
      refine lv_iand hx hb d_TwinHart_out_27 ?_
      refine lv_goto (tgt := 32) hx hb d_TwinHart_out_28 (by decide) ?_
      exact ri () hx hb hr hlocks hP hD hS d_TwinHart_out_32 (by simp only [sp_TwinHart_out, if_neg c_1, if_neg c_2])
