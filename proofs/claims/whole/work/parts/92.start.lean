-- ===== YOUR PART BEGINS =====
set_option maxHeartbeats 4000000 in
set_option maxRecDepth 100000 in
/-- from the entry, for every script of at most 2049 ints, the law comes to its end with true -/
theorem whole_start {p : Program} {e : Env} {s : State} {m : MethodId} {below : List Frame} {meth : Method} {c : Code} (l : Launch) {b L : Nat} {xs : Nat → Int32} (hL : L ≤ 2049) (C0 : lw_At p s m meth c b L xs) : W p l e room_1 s m #[Value.ref b] below meth c s.heap [] 0 0 (lw_Z below #[Value.ref b] s) (entryFrame m ([Value.ref b] : List Value).toArray 4) := by
  have C1 := C0
  obtain ⟨hx, hb, hr, hml, hown, htb, hX, hbl, hlocks, hgv⟩ := C0
  have hts : ∀ w ∈ tb, w.before #[Value.ref b] s = true := fun w h => htb w (tb_sub h)
  obtain ⟨g, hF⟩ := st_SF htb hgv
  obtain ⟨D, hK⟩ := st_K hts
  have hAO : va_AO R_Hart s := va_AO.of (htb _ kao)
  have hA : ∀ q : Nat, s.heap.size ≤ q → (fun q : Nat => s.heap.size ≤ q) q := fun _ h => h
  have hS : va_S (fun q : Nat => s.heap.size ≤ q) s.heap s.heap [] := va_S.rf
  have hP : va_P D classes [] s.heap := fun k q h => by simp at h
  have hD : va_D (fun q : Nat => s.heap.size ≤ q) [] := ⟨fun i j p q h => by simp at h, fun k q h => by simp at h⟩
  have hl := lv_entry ([.ref b]) (n := 4) (Nat.le_of_ble_eq_true rfl)
  rw [lg_entry_eq]
  generalize (lg_sl ([.ref b]) ++ List.replicate (4 - (lg_sl ([.ref b])).length) Slot.unset).toArray = ls at hl ⊢
  have hl : lv_has ls 4 [(0, .ref b)] := hl
  refine va_new (D := D) (ci := 0) (fs := [.null, .null]) (C := R_TwinHart) (T := F_TwinHart) (N := 2) hx hb hts i_TwinHart t_TwinHart t_TwinHart_ok hown (hts _ k_14) (hts _ kn_0) (hts _ k_1) hK hP hD hS hA rfl (by decide +kernel) (Nat.le_of_ble_eq_true rfl) (Nat.le_of_ble_eq_true rfl) d_law_0 (fun t H hP hD hS => ?_)
  have hP : va_P D classes [(t, .inr (0, [.null, .null]))] H := hP
  have hD : va_D (fun q : Nat => s.heap.size ≤ q) [(t, .inr (0, [.null, .null]))] := hD
  refine lv_dup hx hb d_law_3 rfl ?_
  refine lv_aload_n hx hb d_law_4 rfl (lv_at hl 0 rfl) ?_
  refine lv_iconst (v := 0) hx hb d_law_5 rfl ?_
  refine x_cell hx hb hml hown hts hX hbl hP hD hS hl.1 (Nat.le_of_ble_eq_true rfl) kc_cell d_law_6 ⟨Nat.le_of_ble_eq_true rfl, Nat.le_of_ble_eq_true rfl⟩ (fun H locs hP hS => ?_)
  refine xI (wr := []) (rest := [.ref t]) ⟨hx, hb, hml, hown, hts⟩ (c_TwinHart_init t (cellv L xs)) mw_TwinHart_init mi_TwinHart_init rfl kc_ti ⟨Nat.le_of_ble_eq_true rfl, Nat.le_of_ble_eq_true rfl⟩ (fun U hW => va_AO.moved hW.alike hAO) (fun _ U g1 mk h => va_AO.moved (u := U) (U := U.calling g1 mk _) (Vm.Alike.refl U.vm) h) hK hP hD hS hA hF [0] [] rfl rfl rfl rfl (by decide) rfl hl.1 rfl (Nat.le_of_ble_eq_true rfl) d_law_9 ⟨Nat.le_of_ble_eq_true rfl, Nat.le_of_ble_eq_true rfl⟩ (fun u H locs _ hK hP hD hS => ?_)
  obtain ⟨hs, kh, a, f, d, k, kf, kd⟩ := u
  have hP : va_P D classes (wT t hs kh a f d k kf kd (nW (cellv L xs)) top0) H := hP
  have hD : va_D (fun q : Nat => s.heap.size ≤ q) (wT t hs kh a f d k kf kd (nW (cellv L xs)) top0) := hD
  have hK : va_K D classes (tyT k kf kd kh) s := hK
  refine lv_astore_n (lv' := [(1, .ref t), (0, .ref b)]) hx hb d_law_12 rfl hl (by decide) rfl (fun ls hl => ?_)
  refine va_new (D := D) (ci := 5) (fs := [.int 0, .null, .null, .null, .null, .null, .null, .null, .null, .long 0, .null, .int 0, .int 0, .int 0, .int 0, .int 0]) (C := R_Model) (T := F_Model) (N := 16) hx hb hts i_Model t_Model t_Model_ok hown (hts _ k_613) (hts _ kn_5) (hts _ k_7) hK hP hD hS hA rfl (by decide +kernel) (Nat.le_of_ble_eq_true rfl) (Nat.le_of_ble_eq_true rfl) d_law_13 (fun q2 H hP hD hS => ?_)
  refine lv_dup hx hb d_law_16 rfl ?_
  refine lv_aload_n hx hb d_law_17 rfl (lv_at hl 1 rfl) ?_
  refine lv_iconst (v := 0) hx hb d_law_18 rfl ?_
  refine x_cell hx hb hml hown hts hX hbl hP hD hS hl.1 (Nat.le_of_ble_eq_true rfl) kc_cell d_law_19 ⟨Nat.le_of_ble_eq_true rfl, Nat.le_of_ble_eq_true rfl⟩ (fun H locs hP hS => ?_)
  refine xI (wr := wT t hs kh a f d k kf kd (nW (cellv L xs)) top0) (rest := [.ref q2]) ⟨hx, hb, hml, hown, hts⟩ (c_Model_init q2 (cellv L xs)) mw_Model_init mi_Model_init rfl kc_mi ⟨Nat.le_of_ble_eq_true rfl, Nat.le_of_ble_eq_true rfl⟩ (fun _ _ => trivial) (fun _ _ _ _ _ => trivial) hK hP hD hS hA hF [14] [0, 1, 2, 3, 4, 5, 6, 7, 8, 9, 10, 11, 12, 13] rfl rfl rfl rfl (by decide) rfl hl.1 rfl (Nat.le_of_ble_eq_true rfl) d_law_22 ⟨Nat.le_of_ble_eq_true rfl, Nat.le_of_ble_eq_true rfl⟩ (fun u H locs h_u hK hP hD hS => ?_)
  obtain ⟨a2, k2, w⟩ := u
  obtain ⟨ea, hbg⟩ := h_u
  dsimp only at ea hbg
  refine lv_astore_n (lv' := [(2, .ref q2), (1, .ref t), (0, .ref b)]) hx hb d_law_25 rfl hl (by decide) rfl (fun ls hl => ?_)
  refine lv_iconst (v := 1) hx hb d_law_26 rfl ?_
  refine lv_istore_n (lv' := [(3, .int 1), (2, .ref q2), (1, .ref t), (0, .ref b)]) hx hb d_law_27 rfl hl (by decide) rfl (fun ls hl => ?_)
  rw [← ea] at hl
  refine W.widen (k := 600000) (n := 7302250) (Nat.le_of_ble_eq_true rfl) (Nat.le_of_ble_eq_true rfl) ?_
  exact law_loop (D := D) (g := g) hL C1 hts t hs kh a f d k kf kd (nW (cellv L xs)) a2 k2 (nW_ge _) (nW_le _) hK hF (L + 1) 1 (by omega) (by omega) (by omega) top0 0 0 0 0 _ _ _ _ _ _ _ _ _ _ _ H locs ls (E_start hbg) hP hD hS hl
