theorem kbg_x : (.fieldLink R_Model 13 "TwinHartModel" "x" "[I" : Cond) ∈ tb := tb_m 627 (by decide +kernel) rfl
theorem kbg_c : (.fieldLink R_Model 23 "TwinHartModel" "csrs" "[I" : Cond) ∈ tb := tb_m 630 (by decide +kernel) rfl
theorem mw_Model_begin : MW y_Model_begin b_Model_begin 2 none 0 := ⟨tb_m 622 (by decide +kernel) rfl, tb_m 7 (by decide +kernel) rfl, by decide +kernel, by decide +kernel, by decide +kernel⟩
theorem mv_Model_begin : MWV y_Model_begin := ⟨tb_m 621 (by decide +kernel) rfl, tb_p 27 (by decide +kernel) rfl⟩
theorem mw_Model_reset : MW y_Model_reset b_Model_reset 1 none 0 := ⟨tb_m 677 (by decide +kernel) rfl, tb_m 7 (by decide +kernel) rfl, by decide +kernel, by decide +kernel, by decide +kernel⟩
theorem mv_Model_reset : MWV y_Model_reset := ⟨tb_m 675 (by decide +kernel) rfl, tb_m 676 (by decide +kernel) rfl⟩
theorem kbg_r : (.methodLink R_Model 43 y_Model_begin : Cond) ∈ tb := tb_m 619 (by decide +kernel) rfl
theorem d_Model_begin_0 : decode b_Model_begin 0 = .ok (.iconst 0, 1) := by decide +kernel
theorem d_Model_begin_1 : decode b_Model_begin 1 = .ok (.istore_n 1, 1) := by decide +kernel
theorem d_Model_begin_2 : decode b_Model_begin 2 = .ok (.iload_n 1, 1) := by decide +kernel
theorem d_Model_begin_3 : decode b_Model_begin 3 = .ok (.bipush 64, 2) := by decide +kernel
theorem d_Model_begin_5 : decode b_Model_begin 5 = .ok (.if_icmp .ge 16, 3) := by decide +kernel
theorem d_Model_begin_8 : decode b_Model_begin 8 = .ok (.aload_n 0, 1) := by decide +kernel
theorem d_Model_begin_9 : decode b_Model_begin 9 = .ok (.getfield 13, 3) := by decide +kernel
theorem d_Model_begin_12 : decode b_Model_begin 12 = .ok (.iload_n 1, 1) := by decide +kernel
theorem d_Model_begin_13 : decode b_Model_begin 13 = .ok (.iconst 0, 1) := by decide +kernel
theorem d_Model_begin_14 : decode b_Model_begin 14 = .ok (.iastore, 1) := by decide +kernel
theorem d_Model_begin_15 : decode b_Model_begin 15 = .ok (.iinc 1 1, 3) := by decide +kernel
theorem d_Model_begin_18 : decode b_Model_begin 18 = .ok (.goto (-16), 3) := by decide +kernel
theorem d_Model_begin_21 : decode b_Model_begin 21 = .ok (.iconst 0, 1) := by decide +kernel
theorem d_Model_begin_22 : decode b_Model_begin 22 = .ok (.istore_n 1, 1) := by decide +kernel
theorem d_Model_begin_23 : decode b_Model_begin 23 = .ok (.iload_n 1, 1) := by decide +kernel
theorem d_Model_begin_24 : decode b_Model_begin 24 = .ok (.sipush 8192, 3) := by decide +kernel
theorem d_Model_begin_27 : decode b_Model_begin 27 = .ok (.if_icmp .ge 16, 3) := by decide +kernel
theorem d_Model_begin_30 : decode b_Model_begin 30 = .ok (.aload_n 0, 1) := by decide +kernel
theorem d_Model_begin_31 : decode b_Model_begin 31 = .ok (.getfield 23, 3) := by decide +kernel
theorem d_Model_begin_34 : decode b_Model_begin 34 = .ok (.iload_n 1, 1) := by decide +kernel
theorem d_Model_begin_35 : decode b_Model_begin 35 = .ok (.iconst 0, 1) := by decide +kernel
theorem d_Model_begin_36 : decode b_Model_begin 36 = .ok (.iastore, 1) := by decide +kernel
theorem d_Model_begin_37 : decode b_Model_begin 37 = .ok (.iinc 1 1, 3) := by decide +kernel
theorem d_Model_begin_40 : decode b_Model_begin 40 = .ok (.goto (-17), 3) := by decide +kernel
theorem d_Model_begin_43 : decode b_Model_begin 43 = .ok (.iconst 0, 1) := by decide +kernel
theorem d_Model_begin_44 : decode b_Model_begin 44 = .ok (.istore_n 1, 1) := by decide +kernel
theorem d_Model_begin_45 : decode b_Model_begin 45 = .ok (.iload_n 1, 1) := by decide +kernel
theorem d_Model_begin_46 : decode b_Model_begin 46 = .ok (.iconst 2, 1) := by decide +kernel
theorem d_Model_begin_47 : decode b_Model_begin 47 = .ok (.if_icmp .ge 47, 3) := by decide +kernel
theorem d_Model_begin_50 : decode b_Model_begin 50 = .ok (.aload_n 0, 1) := by decide +kernel
theorem d_Model_begin_51 : decode b_Model_begin 51 = .ok (.getfield 17, 3) := by decide +kernel
theorem d_Model_begin_54 : decode b_Model_begin 54 = .ok (.iload_n 1, 1) := by decide +kernel
theorem d_Model_begin_55 : decode b_Model_begin 55 = .ok (.ldc 46, 2) := by decide +kernel
theorem d_Model_begin_57 : decode b_Model_begin 57 = .ok (.iastore, 1) := by decide +kernel
theorem d_Model_begin_58 : decode b_Model_begin 58 = .ok (.aload_n 0, 1) := by decide +kernel
theorem d_Model_begin_59 : decode b_Model_begin 59 = .ok (.getfield 20, 3) := by decide +kernel
theorem d_Model_begin_62 : decode b_Model_begin 62 = .ok (.iload_n 1, 1) := by decide +kernel
theorem d_Model_begin_63 : decode b_Model_begin 63 = .ok (.iconst 3, 1) := by decide +kernel
theorem d_Model_begin_64 : decode b_Model_begin 64 = .ok (.iastore, 1) := by decide +kernel
theorem d_Model_begin_65 : decode b_Model_begin 65 = .ok (.aload_n 0, 1) := by decide +kernel
theorem d_Model_begin_66 : decode b_Model_begin 66 = .ok (.getfield 26, 3) := by decide +kernel
theorem d_Model_begin_69 : decode b_Model_begin 69 = .ok (.iload_n 1, 1) := by decide +kernel
theorem d_Model_begin_70 : decode b_Model_begin 70 = .ok (.iconst (-1), 1) := by decide +kernel
theorem d_Model_begin_71 : decode b_Model_begin 71 = .ok (.iastore, 1) := by decide +kernel
theorem d_Model_begin_72 : decode b_Model_begin 72 = .ok (.aload_n 0, 1) := by decide +kernel
theorem d_Model_begin_73 : decode b_Model_begin 73 = .ok (.getfield 29, 3) := by decide +kernel
theorem d_Model_begin_76 : decode b_Model_begin 76 = .ok (.iload_n 1, 1) := by decide +kernel
theorem d_Model_begin_77 : decode b_Model_begin 77 = .ok (.ldc2_w 47, 3) := by decide +kernel
theorem d_Model_begin_80 : decode b_Model_begin 80 = .ok (.lastore, 1) := by decide +kernel
theorem d_Model_begin_81 : decode b_Model_begin 81 = .ok (.aload_n 0, 1) := by decide +kernel
theorem d_Model_begin_82 : decode b_Model_begin 82 = .ok (.getfield 33, 3) := by decide +kernel
theorem d_Model_begin_85 : decode b_Model_begin 85 = .ok (.iload_n 1, 1) := by decide +kernel
theorem d_Model_begin_86 : decode b_Model_begin 86 = .ok (.iconst 0, 1) := by decide +kernel
theorem d_Model_begin_87 : decode b_Model_begin 87 = .ok (.iastore, 1) := by decide +kernel
theorem d_Model_begin_88 : decode b_Model_begin 88 = .ok (.iinc 1 1, 3) := by decide +kernel
theorem d_Model_begin_91 : decode b_Model_begin 91 = .ok (.goto (-46), 3) := by decide +kernel
theorem d_Model_begin_94 : decode b_Model_begin 94 = .ok (.aload_n 0, 1) := by decide +kernel
theorem d_Model_begin_95 : decode b_Model_begin 95 = .ok (.lconst 0, 1) := by decide +kernel
theorem d_Model_begin_96 : decode b_Model_begin 96 = .ok (.putfield 49, 3) := by decide +kernel
theorem d_Model_begin_99 : decode b_Model_begin 99 = .ok (.return_, 1) := by decide +kernel
theorem d_Model_reset_0 : decode b_Model_reset 0 = .ok (.aload_n 0, 1) := by decide +kernel
theorem d_Model_reset_1 : decode b_Model_reset 1 = .ok (.invokevirtual 43, 3) := by decide +kernel
theorem d_Model_reset_4 : decode b_Model_reset 4 = .ok (.return_, 1) := by decide +kernel
-- ===== the reference's start: two long loops, one of two turns =====
section Begin
variable {p : Program} {l : Launch} {e : Env} {R : Room} {s : State} {m : MethodId} {args : Array Value} {below : List Frame} {meth : Method} {c : Code} {cells slots : Nat} {Q : State → Prop} {D : va_G} {A : Nat → Prop}
theorem bg_x (hx : p.tables.exec = Jvm.exec) (hb : c.code = b_Model_begin) (hts : ∀ w ∈ tb, w.before args s = true) (hown : s.vm.findClass y_Model_begin.cls = some m.cls) (a : Nat → Nat) (k : Nat → ClassId) (n : Nat) (h ca tv nx : Int32) (pcs lv cs b cl : Nat → Int32) (cm : Nat → Int64) (so : Nat → Int32) (ti : Int64) (pu : Nat → Int32) (np : Int32) (hK : va_K D classes (tyR k) s)
    (K : ∀ (x : Nat → Int32) (H : Heap) (locs : List Loc) (ls : Array Slot), (∀ j, j < 64 → x j = 0) → va_P D classes (wR a k n h ca tv nx pcs lv cs x b cl cm so ti pu np) H → va_D A (wR a k n h ca tv nx pcs lv cs x b cl cm so ti pu np) → va_S A s.heap H locs → lv_has ls 2 [(1, .int (nI 64)), (0, .ref (a 0))] → W p l e R s m args below meth c H locs cells slots Q (F0 m 21 ls [])) :
    ∀ (q i : Nat), i + q = 64 → ∀ (x : Nat → Int32), (∀ j, j < i → x j = 0) → ∀ (H : Heap) (locs : List Loc) (ls : Array Slot), va_P D classes (wR a k n h ca tv nx pcs lv cs x b cl cm so ti pu np) H → va_D A (wR a k n h ca tv nx pcs lv cs x b cl cm so ti pu np) → va_S A s.heap H locs → lv_has ls 2 [(1, .int (nI i)), (0, .ref (a 0))] → W p l e R s m args below meth c H locs cells slots Q (F0 m 2 ls []) := by
  intro q
  induction q with
  | zero =>
    intro i hi x hz H locs ls hP hD hS hl
    have : i = 64 := by omega
    subst this
    refine lv_iload_n hx hb d_Model_begin_2 rfl (lv_at hl 0 rfl) ?_
    refine lv_bipush (v := 64) hx hb d_Model_begin_3 rfl ?_
    refine lv_icmp_ge (tgt := 21) hx hb d_Model_begin_5 (by decide) (fun _ => ?_) (fun h9 => absurd (by decide) h9)
    exact K x H locs ls hz hP hD hS hl
  | succ q ih =>
    intro i hi x hz H locs ls hP hD hS hl
    refine lv_iload_n hx hb d_Model_begin_2 rfl (lv_at hl 0 rfl) ?_
    refine lv_bipush (v := 64) hx hb d_Model_begin_3 rfl ?_
    refine lv_icmp_ge (tgt := 21) hx hb d_Model_begin_5 (by decide) (fun h9 => absurd ((nI_leI (a := 64) (by decide) (by omega)).mp h9) (by omega)) (fun _ => ?_)
    refine lv_aload_n hx hb d_Model_begin_8 rfl (lv_at hl 1 rfl) ?_
    refine va_get (D := D) (ci := 5) (v := .ref (a 2)) (C := R_Model) (T := F_Model) (N := 16) hx hb hts i_Model hown hK hP 0 rfl rfl 2 (by decide) (hts _ kbg_x) (fun _ h9 => h9) rfl d_Model_begin_9 ?_
    refine lv_iload_n hx hb d_Model_begin_12 rfl (lv_at hl 0 rfl) ?_
    refine lv_iconst (v := 0) hx hb d_Model_begin_13 rfl ?_
    refine y_iast (ws' := wR a k n h ca tv nx pcs lv cs (upd x (nI i).toNatClampNeg 0) b cl cm so ti pu np) hx hb hK hP hD hS 2 1 rfl rfl (vp_in_nI (by omega) (by decide)) d_Model_begin_14 rfl (fun H locs hP hD hS => ?_)
    refine lv_iinc (v := nI (i + 1)) (lv' := [(1, .int (nI (i + 1))), (0, .ref (a 0))]) hx hb d_Model_begin_15 hl (k := 0) rfl (nI_1 i) (by decide) rfl (fun ls hl => ?_)
    refine lv_goto (tgt := 2) hx hb d_Model_begin_18 (by decide) ?_
    refine ih (i + 1) (by omega) _ ?_ _ _ _ hP hD hS hl
    intro j hj
    rw [nI_clamp (by omega)]
    by_cases e : j = i
    · rw [e]; exact pk_us
    · rw [pk_un e]; exact hz j (by omega)
theorem bg_c (hx : p.tables.exec = Jvm.exec) (hb : c.code = b_Model_begin) (hts : ∀ w ∈ tb, w.before args s = true) (hown : s.vm.findClass y_Model_begin.cls = some m.cls) (a : Nat → Nat) (k : Nat → ClassId) (n : Nat) (h ca tv nx : Int32) (pcs lv x b cl : Nat → Int32) (cm : Nat → Int64) (so : Nat → Int32) (ti : Int64) (pu : Nat → Int32) (np : Int32) (hK : va_K D classes (tyR k) s)
    (K : ∀ (cs : Nat → Int32) (H : Heap) (locs : List Loc) (ls : Array Slot), (∀ j, j < 8192 → cs j = 0) → va_P D classes (wR a k n h ca tv nx pcs lv cs x b cl cm so ti pu np) H → va_D A (wR a k n h ca tv nx pcs lv cs x b cl cm so ti pu np) → va_S A s.heap H locs → lv_has ls 2 [(1, .int (nI 8192)), (0, .ref (a 0))] → W p l e R s m args below meth c H locs cells slots Q (F0 m 43 ls [])) :
    ∀ (q i : Nat), i + q = 8192 → ∀ (cs : Nat → Int32), (∀ j, j < i → cs j = 0) → ∀ (H : Heap) (locs : List Loc) (ls : Array Slot), va_P D classes (wR a k n h ca tv nx pcs lv cs x b cl cm so ti pu np) H → va_D A (wR a k n h ca tv nx pcs lv cs x b cl cm so ti pu np) → va_S A s.heap H locs → lv_has ls 2 [(1, .int (nI i)), (0, .ref (a 0))] → W p l e R s m args below meth c H locs cells slots Q (F0 m 23 ls []) := by
  intro q
  induction q with
  | zero =>
    intro i hi cs hz H locs ls hP hD hS hl
    have : i = 8192 := by omega
    subst this
    refine lv_iload_n hx hb d_Model_begin_23 rfl (lv_at hl 0 rfl) ?_
    refine lv_sipush (v := 8192) hx hb d_Model_begin_24 rfl ?_
    refine lv_icmp_ge (tgt := 43) hx hb d_Model_begin_27 (by decide) (fun _ => ?_) (fun h9 => absurd (by decide) h9)
    exact K cs H locs ls hz hP hD hS hl
  | succ q ih =>
    intro i hi cs hz H locs ls hP hD hS hl
    refine lv_iload_n hx hb d_Model_begin_23 rfl (lv_at hl 0 rfl) ?_
    refine lv_sipush (v := 8192) hx hb d_Model_begin_24 rfl ?_
    refine lv_icmp_ge (tgt := 43) hx hb d_Model_begin_27 (by decide) (fun h9 => absurd ((nI_leI (a := 8192) (by decide) (by omega)).mp h9) (by omega)) (fun _ => ?_)
    refine lv_aload_n hx hb d_Model_begin_30 rfl (lv_at hl 1 rfl) ?_
    refine va_get (D := D) (ci := 5) (v := .ref (a 5)) (C := R_Model) (T := F_Model) (N := 16) hx hb hts i_Model hown hK hP 0 rfl rfl 5 (by decide) (hts _ kbg_c) (fun _ h9 => h9) rfl d_Model_begin_31 ?_
    refine lv_iload_n hx hb d_Model_begin_34 rfl (lv_at hl 0 rfl) ?_
    refine lv_iconst (v := 0) hx hb d_Model_begin_35 rfl ?_
    refine y_iast (ws' := wR a k n h ca tv nx pcs lv (upd cs (nI i).toNatClampNeg 0) x b cl cm so ti pu np) hx hb hK hP hD hS 5 4 rfl rfl (vp_in_nI (by omega) (by decide)) d_Model_begin_36 rfl (fun H locs hP hD hS => ?_)
    refine lv_iinc (v := nI (i + 1)) (lv' := [(1, .int (nI (i + 1))), (0, .ref (a 0))]) hx hb d_Model_begin_37 hl (k := 0) rfl (nI_1 i) (by decide) rfl (fun ls hl => ?_)
    refine lv_goto (tgt := 23) hx hb d_Model_begin_40 (by decide) ?_
    refine ih (i + 1) (by omega) _ ?_ _ _ _ hP hD hS hl
    intro j hj
    rw [nI_clamp (by omega)]
    by_cases e : j = i
    · rw [e]; exact pk_us
    · rw [pk_un e]; exact hz j (by omega)
end Begin
abbrev bgT : Type := (Nat → Int32) × (Nat → Int32) × (Nat → Int32) × (Nat → Int32) × (Nat → Int32) × (Nat → Int64) × (Nat → Int32) × Int64
/-- behind begin: x, cs, pcs, lv, cl, cm, so, ti -/
def bgP (pcs lv cl so : Nat → Int32) (cm : Nat → Int64) (u : bgT) : Prop := (∀ j, j < 64 → u.1 j = 0) ∧ (∀ j, j < 8192 → u.2.1 j = 0) ∧ u.2.2.1 = upd (upd pcs 0 (-2147483648)) 1 (-2147483648) ∧ u.2.2.2.1 = upd (upd lv 0 3) 1 3 ∧ u.2.2.2.2.1 = upd (upd cl 0 (-1)) 1 (-1) ∧ u.2.2.2.2.2.1 = vp_updL (vp_updL cm 0 (-1)) 1 (-1) ∧ u.2.2.2.2.2.2.1 = upd (upd so 0 0) 1 0 ∧ u.2.2.2.2.2.2.2 = 0
abbrev bgW (a : Nat → Nat) (k : Nat → ClassId) (n : Nat) (h ca tv nx : Int32) (b pu : Nat → Int32) (np : Int32) (u : bgT) : va_W := wR a k n h ca tv nx u.2.2.1 u.2.2.2.1 u.2.1 u.1 b u.2.2.2.2.1 u.2.2.2.2.2.1 u.2.2.2.2.2.2.1 u.2.2.2.2.2.2.2 pu np
set_option maxHeartbeats 4000000 in
set_option maxRecDepth 100000 in
theorem c_Model_begin {l : Launch} {D : va_G} {g : Nat → Nat} (a : Nat → Nat) (k : Nat → ClassId) (n : Nat) (h ca tv nx : Int32) (pcs lv cs x b cl : Nat → Int32) (cm : Nat → Int64) (so : Nat → Int32) (ti : Int64) (pu : Nat → Int32) (np : Int32) : CT l D g y_Model_begin b_Model_begin 2 none (rD 0) [.ref (a 0)] (wR a k n h ca tv nx pcs lv cs x b cl cm so ti pu np) (tyR k) (Qv D (bgP pcs lv cl so cm) (bgW a k n h ca tv nx b pu np)) := by
  refine CT.of rfl (Nat.le_of_ble_eq_true rfl) (fun p e s m below meth c A ls hx hb hr hml hts hown hlocks hA hP hK hD hF hS hl => ?_)
  have hl : lv_has ls 2 [(0, .ref (a 0))] := hl
  refine lv_iconst (v := 0) hx hb d_Model_begin_0 rfl ?_
  refine lv_istore_n (lv' := [(1, .int 0), (0, .ref (a 0))]) hx hb d_Model_begin_1 rfl hl (by decide) rfl (fun ls hl => ?_)
  refine bg_x hx hb hts hown a k n h ca tv nx pcs lv cs b cl cm so ti pu np hK ?_ 64 0 rfl x (fun j h9 => absurd h9 (Nat.not_lt_zero j)) _ _ ls hP hD hS hl
  intro x9 H locs ls hz1 hP hD hS hl
  refine lv_iconst (v := 0) hx hb d_Model_begin_21 rfl ?_
  refine lv_istore_n (lv' := [(1, .int 0), (0, .ref (a 0))]) hx hb d_Model_begin_22 rfl hl (by decide) rfl (fun ls hl => ?_)
  refine bg_c hx hb hts hown a k n h ca tv nx pcs lv x9 b cl cm so ti pu np hK ?_ 8192 0 rfl cs (fun j h9 => absurd h9 (Nat.not_lt_zero j)) _ _ ls hP hD hS hl
  intro cs9 H locs ls hz2 hP hD hS hl
  refine lv_iconst (v := 0) hx hb d_Model_begin_43 rfl ?_
  refine lv_istore_n (lv' := [(1, .int 0), (0, .ref (a 0))]) hx hb d_Model_begin_44 rfl hl (by decide) rfl (fun ls hl => ?_)
  refine lv_iload_n hx hb d_Model_begin_45 rfl (lv_at hl 0 rfl) ?_
  refine lv_iconst (v := 2) hx hb d_Model_begin_46 rfl ?_
  refine lv_icmp_ge (tgt := 94) hx hb d_Model_begin_47 (by decide) (fun h9 => absurd h9 (by decide)) (fun _ => ?_)
  refine lv_aload_n hx hb d_Model_begin_50 rfl (lv_at hl 1 rfl) ?_
  refine va_get (D := D) (ci := 5) (v := .ref (a 3)) (C := R_Model) (T := F_Model) (N := 16) hx hb hts i_Model hown hK hP 0 rfl rfl 3 (by decide) (hts _ k_628) (fun _ h9 => h9) rfl d_Model_begin_51 ?_
  refine lv_iload_n hx hb d_Model_begin_54 rfl (lv_at hl 0 rfl) ?_
  refine lv_ldc (v := (-2147483648)) hx hb hown (hts _ k_623) d_Model_begin_55 ?_
  refine y_iast (ws' := wR a k n h ca tv nx (upd pcs 0 (-2147483648)) lv cs9 x9 b cl cm so ti pu np) hx hb hK hP hD hS 3 2 rfl rfl (by unfold vp_in; decide) d_Model_begin_57 rfl (fun H locs hP hD hS => ?_)
  refine lv_aload_n hx hb d_Model_begin_58 rfl (lv_at hl 1 rfl) ?_
  refine va_get (D := D) (ci := 5) (v := .ref (a 4)) (C := R_Model) (T := F_Model) (N := 16) hx hb hts i_Model hown hK hP 0 rfl rfl 4 (by decide) (hts _ k_629) (fun _ h9 => h9) rfl d_Model_begin_59 ?_
  refine lv_iload_n hx hb d_Model_begin_62 rfl (lv_at hl 0 rfl) ?_
  refine lv_iconst (v := 3) hx hb d_Model_begin_63 rfl ?_
  refine y_iast (ws' := wR a k n h ca tv nx (upd pcs 0 (-2147483648)) (upd lv 0 3) cs9 x9 b cl cm so ti pu np) hx hb hK hP hD hS 4 3 rfl rfl (by unfold vp_in; decide) d_Model_begin_64 rfl (fun H locs hP hD hS => ?_)
  refine lv_aload_n hx hb d_Model_begin_65 rfl (lv_at hl 1 rfl) ?_
  refine va_get (D := D) (ci := 5) (v := .ref (a 6)) (C := R_Model) (T := F_Model) (N := 16) hx hb hts i_Model hown hK hP 0 rfl rfl 6 (by decide) (hts _ k_631) (fun _ h9 => h9) rfl d_Model_begin_66 ?_
  refine lv_iload_n hx hb d_Model_begin_69 rfl (lv_at hl 0 rfl) ?_
  refine lv_iconst (v := (-1)) hx hb d_Model_begin_70 rfl ?_
  refine y_iast (ws' := wR a k n h ca tv nx (upd pcs 0 (-2147483648)) (upd lv 0 3) cs9 x9 b (upd cl 0 (-1)) cm so ti pu np) hx hb hK hP hD hS 6 5 rfl rfl (by unfold vp_in; decide) d_Model_begin_71 rfl (fun H locs hP hD hS => ?_)
  refine lv_aload_n hx hb d_Model_begin_72 rfl (lv_at hl 1 rfl) ?_
  refine va_get (D := D) (ci := 5) (v := .ref (a 7)) (C := R_Model) (T := F_Model) (N := 16) hx hb hts i_Model hown hK hP 0 rfl rfl 7 (by decide) (hts _ k_632) (fun _ h9 => h9) rfl d_Model_begin_73 ?_
  refine lv_iload_n hx hb d_Model_begin_76 rfl (lv_at hl 0 rfl) ?_
  refine lv_ldc2 (v := (-1)) hx hb hown (hts _ k_624) d_Model_begin_77 ?_
  refine y_last (ws' := wR a k n h ca tv nx (upd pcs 0 (-2147483648)) (upd lv 0 3) cs9 x9 b (upd cl 0 (-1)) (vp_updL cm 0 (-1)) so ti pu np) hx hb hK hP hD hS 7 6 rfl rfl (by unfold vp_in; decide) d_Model_begin_80 rfl (fun H locs hP hD hS => ?_)
  refine lv_aload_n hx hb d_Model_begin_81 rfl (lv_at hl 1 rfl) ?_
  refine va_get (D := D) (ci := 5) (v := .ref (a 8)) (C := R_Model) (T := F_Model) (N := 16) hx hb hts i_Model hown hK hP 0 rfl rfl 8 (by decide) (hts _ k_633) (fun _ h9 => h9) rfl d_Model_begin_82 ?_
  refine lv_iload_n hx hb d_Model_begin_85 rfl (lv_at hl 0 rfl) ?_
  refine lv_iconst (v := 0) hx hb d_Model_begin_86 rfl ?_
  refine y_iast (ws' := wR a k n h ca tv nx (upd pcs 0 (-2147483648)) (upd lv 0 3) cs9 x9 b (upd cl 0 (-1)) (vp_updL cm 0 (-1)) (upd so 0 0) ti pu np) hx hb hK hP hD hS 8 7 rfl rfl (by unfold vp_in; decide) d_Model_begin_87 rfl (fun H locs hP hD hS => ?_)
  refine lv_iinc (v := 1) (lv' := [(1, .int 1), (0, .ref (a 0))]) hx hb d_Model_begin_88 hl (k := 0) rfl rfl (by decide) rfl (fun ls hl => ?_)
  refine lv_goto (tgt := 45) hx hb d_Model_begin_91 (by decide) ?_
  refine lv_iload_n hx hb d_Model_begin_45 rfl (lv_at hl 0 rfl) ?_
  refine lv_iconst (v := 2) hx hb d_Model_begin_46 rfl ?_
  refine lv_icmp_ge (tgt := 94) hx hb d_Model_begin_47 (by decide) (fun h9 => absurd h9 (by decide)) (fun _ => ?_)
  refine lv_aload_n hx hb d_Model_begin_50 rfl (lv_at hl 1 rfl) ?_
  refine va_get (D := D) (ci := 5) (v := .ref (a 3)) (C := R_Model) (T := F_Model) (N := 16) hx hb hts i_Model hown hK hP 0 rfl rfl 3 (by decide) (hts _ k_628) (fun _ h9 => h9) rfl d_Model_begin_51 ?_
  refine lv_iload_n hx hb d_Model_begin_54 rfl (lv_at hl 0 rfl) ?_
  refine lv_ldc (v := (-2147483648)) hx hb hown (hts _ k_623) d_Model_begin_55 ?_
  refine y_iast (ws' := wR a k n h ca tv nx (upd (upd pcs 0 (-2147483648)) 1 (-2147483648)) (upd lv 0 3) cs9 x9 b (upd cl 0 (-1)) (vp_updL cm 0 (-1)) (upd so 0 0) ti pu np) hx hb hK hP hD hS 3 2 rfl rfl (by unfold vp_in; decide) d_Model_begin_57 rfl (fun H locs hP hD hS => ?_)
  refine lv_aload_n hx hb d_Model_begin_58 rfl (lv_at hl 1 rfl) ?_
  refine va_get (D := D) (ci := 5) (v := .ref (a 4)) (C := R_Model) (T := F_Model) (N := 16) hx hb hts i_Model hown hK hP 0 rfl rfl 4 (by decide) (hts _ k_629) (fun _ h9 => h9) rfl d_Model_begin_59 ?_
  refine lv_iload_n hx hb d_Model_begin_62 rfl (lv_at hl 0 rfl) ?_
  refine lv_iconst (v := 3) hx hb d_Model_begin_63 rfl ?_
  refine y_iast (ws' := wR a k n h ca tv nx (upd (upd pcs 0 (-2147483648)) 1 (-2147483648)) (upd (upd lv 0 3) 1 3) cs9 x9 b (upd cl 0 (-1)) (vp_updL cm 0 (-1)) (upd so 0 0) ti pu np) hx hb hK hP hD hS 4 3 rfl rfl (by unfold vp_in; decide) d_Model_begin_64 rfl (fun H locs hP hD hS => ?_)
  refine lv_aload_n hx hb d_Model_begin_65 rfl (lv_at hl 1 rfl) ?_
  refine va_get (D := D) (ci := 5) (v := .ref (a 6)) (C := R_Model) (T := F_Model) (N := 16) hx hb hts i_Model hown hK hP 0 rfl rfl 6 (by decide) (hts _ k_631) (fun _ h9 => h9) rfl d_Model_begin_66 ?_
  refine lv_iload_n hx hb d_Model_begin_69 rfl (lv_at hl 0 rfl) ?_
  refine lv_iconst (v := (-1)) hx hb d_Model_begin_70 rfl ?_
  refine y_iast (ws' := wR a k n h ca tv nx (upd (upd pcs 0 (-2147483648)) 1 (-2147483648)) (upd (upd lv 0 3) 1 3) cs9 x9 b (upd (upd cl 0 (-1)) 1 (-1)) (vp_updL cm 0 (-1)) (upd so 0 0) ti pu np) hx hb hK hP hD hS 6 5 rfl rfl (by unfold vp_in; decide) d_Model_begin_71 rfl (fun H locs hP hD hS => ?_)
  refine lv_aload_n hx hb d_Model_begin_72 rfl (lv_at hl 1 rfl) ?_
  refine va_get (D := D) (ci := 5) (v := .ref (a 7)) (C := R_Model) (T := F_Model) (N := 16) hx hb hts i_Model hown hK hP 0 rfl rfl 7 (by decide) (hts _ k_632) (fun _ h9 => h9) rfl d_Model_begin_73 ?_
  refine lv_iload_n hx hb d_Model_begin_76 rfl (lv_at hl 0 rfl) ?_
  refine lv_ldc2 (v := (-1)) hx hb hown (hts _ k_624) d_Model_begin_77 ?_
  refine y_last (ws' := wR a k n h ca tv nx (upd (upd pcs 0 (-2147483648)) 1 (-2147483648)) (upd (upd lv 0 3) 1 3) cs9 x9 b (upd (upd cl 0 (-1)) 1 (-1)) (vp_updL (vp_updL cm 0 (-1)) 1 (-1)) (upd so 0 0) ti pu np) hx hb hK hP hD hS 7 6 rfl rfl (by unfold vp_in; decide) d_Model_begin_80 rfl (fun H locs hP hD hS => ?_)
  refine lv_aload_n hx hb d_Model_begin_81 rfl (lv_at hl 1 rfl) ?_
  refine va_get (D := D) (ci := 5) (v := .ref (a 8)) (C := R_Model) (T := F_Model) (N := 16) hx hb hts i_Model hown hK hP 0 rfl rfl 8 (by decide) (hts _ k_633) (fun _ h9 => h9) rfl d_Model_begin_82 ?_
  refine lv_iload_n hx hb d_Model_begin_85 rfl (lv_at hl 0 rfl) ?_
  refine lv_iconst (v := 0) hx hb d_Model_begin_86 rfl ?_
  refine y_iast (ws' := wR a k n h ca tv nx (upd (upd pcs 0 (-2147483648)) 1 (-2147483648)) (upd (upd lv 0 3) 1 3) cs9 x9 b (upd (upd cl 0 (-1)) 1 (-1)) (vp_updL (vp_updL cm 0 (-1)) 1 (-1)) (upd (upd so 0 0) 1 0) ti pu np) hx hb hK hP hD hS 8 7 rfl rfl (by unfold vp_in; decide) d_Model_begin_87 rfl (fun H locs hP hD hS => ?_)
  refine lv_iinc (v := 2) (lv' := [(1, .int 2), (0, .ref (a 0))]) hx hb d_Model_begin_88 hl (k := 0) rfl rfl (by decide) rfl (fun ls hl => ?_)
  refine lv_goto (tgt := 45) hx hb d_Model_begin_91 (by decide) ?_
  refine lv_iload_n hx hb d_Model_begin_45 rfl (lv_at hl 0 rfl) ?_
  refine lv_iconst (v := 2) hx hb d_Model_begin_46 rfl ?_
  refine lv_icmp_ge (tgt := 94) hx hb d_Model_begin_47 (by decide) (fun _ => ?_) (fun h9 => absurd (by decide) h9)
  refine lv_aload_n hx hb d_Model_begin_94 rfl (lv_at hl 1 rfl) ?_
  refine lv_lconst (v := 0) hx hb d_Model_begin_95 rfl ?_
  refine y_put (D := D) (ci := 5) (v := .long 0) (ty := .long) (C := R_Model) (T := F_Model) (N := 16) (ws' := wR a k n h ca tv nx (upd (upd pcs 0 (-2147483648)) 1 (-2147483648)) (upd (upd lv 0 3) 1 3) cs9 x9 b (upd (upd cl 0 (-1)) 1 (-1)) (vp_updL (vp_updL cm 0 (-1)) 1 (-1)) (upd (upd so 0 0) 1 0) 0 pu np) hx hb hts i_Model t_Model t_Model_ok n_Model hown hK hP hD hS 0 rfl rfl 9 (by decide) (hts _ k_634) (fun _ h9 => h9) rfl (by decide +kernel) rfl rfl (Nat.le_of_ble_eq_true rfl) d_Model_begin_96 rfl (fun H locs hP hD hS => ?_)
  exact rv (x9, cs9, (upd (upd pcs 0 (-2147483648)) 1 (-2147483648)), (upd (upd lv 0 3) 1 3), (upd (upd cl 0 (-1)) 1 (-1)), (vp_updL (vp_updL cm 0 (-1)) 1 (-1)), (upd (upd so 0 0) 1 0), 0) hx hb hr hlocks hP hD hS d_Model_begin_99 ⟨hz1, hz2, rfl, rfl, rfl, rfl, rfl, rfl⟩
set_option maxHeartbeats 4000000 in
set_option maxRecDepth 100000 in
theorem c_Model_reset {l : Launch} {D : va_G} {g : Nat → Nat} (a : Nat → Nat) (k : Nat → ClassId) (n : Nat) (h ca tv nx : Int32) (pcs lv cs x b cl : Nat → Int32) (cm : Nat → Int64) (so : Nat → Int32) (ti : Int64) (pu : Nat → Int32) (np : Int32) : CT l D g y_Model_reset b_Model_reset 1 none (rD 1) [.ref (a 0)] (wR a k n h ca tv nx pcs lv cs x b cl cm so ti pu np) (tyR k) (Qv D (bgP pcs lv cl so cm) (bgW a k n h ca tv nx b pu np)) := by
  refine CT.of rfl (Nat.le_of_ble_eq_true rfl) (fun p e s m below meth c A ls hx hb hr hml hts hown hlocks hA hP hK hD hF hS hl => ?_)
  have hl : lv_has ls 1 [(0, .ref (a 0))] := hl
  refine lv_aload_n hx hb d_Model_reset_0 rfl (lv_at hl 0 rfl) ?_
  refine xv (wr := []) (W2 := bgW a k n h ca tv nx b pu np) (xV (rest := []) ⟨hx, hb, hml, hown, hts⟩ (c_Model_begin a k n h ca tv nx pcs lv cs x b cl cm so ti pu np) mw_Model_begin mv_Model_begin kbg_r ⟨rfl, rfl, Nat.le_of_ble_eq_true rfl, Nat.le_of_ble_eq_true rfl⟩ hK hP hD hS hA hF [0, 1, 2, 3, 4, 5, 6, 7, 8, 9] [0, 1, 2, 3, 4, 5, 6, 7, 8] rfl rfl rfl 0 5 rfl rfl rfl rfl hl.1 rfl (Nat.le_of_ble_eq_true rfl) d_Model_reset_1 ⟨Nat.zero_le _, Nat.zero_le _⟩) hP hD hS hA [0, 1, 2, 3, 4, 5, 6, 7, 8, 9] [] [0, 1, 2, 3, 4, 5, 6, 7, 8, 9] rfl rfl rfl (by decide) (fun _ => rfl) rfl (fun u_1 H locs h_1 hP hD hS => ?_)
  exact rv u_1 hx hb hr hlocks hP hD hS d_Model_reset_4 h_1
