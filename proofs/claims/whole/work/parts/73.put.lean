-- ===== CSR: writing =====
def okv (k : Nat) (v : Int32) : Prop := (k = 1 → v &&& (-924075) = 0 ∧ ¬ v &&& 6144 = 4096) ∧ (k = 2 → v &&& (-46080) = 0) ∧ (k = 3 → v &&& (-547) = 0) ∧ (k = 4 → v &&& (-2731) = 0) ∧ (k = 5 → v &&& 3 = 0) ∧ (k = 6 → v &&& 3 = 0) ∧ (k = 10 → v &&& (-547) = 0) ∧ (k = 11 → v &&& 3 = 0) ∧ (k = 12 → v &&& 3 = 0) ∧ (k = 16 → v &&& 2143289344 = 0)
theorem ok_iff (q : Nat → Int32) : CsrOk q ↔ ∀ k, okv k (q k) := by
  constructor
  · intro h k
    obtain ⟨a1, a1', a2, a3, a4, a5, a6, a10, a11, a12, a16⟩ := h
    exact ⟨fun e => by rw [e]; exact ⟨a1, a1'⟩, fun e => by rw [e]; exact a2, fun e => by rw [e]; exact a3, fun e => by rw [e]; exact a4, fun e => by rw [e]; exact a5, fun e => by rw [e]; exact a6, fun e => by rw [e]; exact a10, fun e => by rw [e]; exact a11, fun e => by rw [e]; exact a12, fun e => by rw [e]; exact a16⟩
  · intro h
    exact ⟨((h 1).1 rfl).1, ((h 1).1 rfl).2, (h 2).2.1 rfl, (h 3).2.2.1 rfl, (h 4).2.2.2.1 rfl, (h 5).2.2.2.2.1 rfl, (h 6).2.2.2.2.2.1 rfl, (h 10).2.2.2.2.2.2.1 rfl, (h 11).2.2.2.2.2.2.2.1 rfl, (h 12).2.2.2.2.2.2.2.2.1 rfl, (h 16).2.2.2.2.2.2.2.2.2 rfl⟩
theorem ok_upd {q : Nat → Int32} (h : CsrOk q) {k : Nat} {v : Int32} (hv : okv k v) : CsrOk (upd q k v) := by
  rw [ok_iff] at h ⊢
  intro j
  by_cases e : j = k
  · rw [e, pk_us]; exact hv
  · rw [pk_un e]; exact h j
theorem map_inj : ∀ e ∈ csrMap, ∀ e2 ∈ csrMap, (e.1 = e2.1 → e.2 = e2.2) ∧ (e.2 = e2.2 → e.1 = e2.1) := by decide
theorem map_ro : ∀ e ∈ csrMap, ¬ e.1 = 0xF11 ∧ ¬ e.1 = 0xF12 ∧ ¬ e.1 = 0xF13 := by decide
/-- one CSR is written on both sides -/
theorem CsrR_upd {id : Nat} {q cs : Nat → Int32} (h : CsrR id q cs) {k i : Nat} (he : (k, i) ∈ csrMap) (v : Int32) : CsrR id (upd q i v) (upd cs (4096 * id + k) v) := by
  obtain ⟨c0, c1, c2, c3, c4⟩ := h
  obtain ⟨m1, m2, m3⟩ := map_in _ he
  obtain ⟨r1, r2, r3⟩ := map_ro _ he
  dsimp only at m1 m2 m3 r1 r2 r3
  refine ⟨by rw [pk_un (by omega)]; exact c0, fun e h9 => ?_, by rw [pk_un (by omega)]; exact c2, by rw [pk_un (by omega)]; exact c3, by rw [pk_un (by omega)]; exact c4⟩
  obtain ⟨j1, j2⟩ := map_inj e h9 (k, i) he
  dsimp only at j1 j2
  by_cases e1 : e.1 = k
  · rw [e1, pk_us, j1 e1, pk_us]
  · rw [pk_un (by omega), pk_un (fun z => e1 (j2 z))]; exact c1 e h9
theorem CsrR_other {id : Nat} {q cs cs2 : Nat → Int32} (h : CsrR id q cs) (hs : ∀ i, 4096 * id ≤ i → i < 4096 * id + 4096 → cs2 i = cs i) : CsrR id q cs2 := by
  obtain ⟨c0, c1, c2, c3, c4⟩ := h
  refine ⟨c0, fun e h9 => ?_, by rw [hs _ (by omega) (by omega)]; exact c2, by rw [hs _ (by omega) (by omega)]; exact c3, by rw [hs _ (by omega) (by omega)]; exact c4⟩
  obtain ⟨m1, -, -⟩ := map_in e h9
  rw [hs _ (by omega) (by omega)]
  exact c1 e h9
theorem kv {a v m m' : Int32} (hm : m ^^^ (-1) = m') (h : a &&& m' = 0) : (a &&& (m ^^^ (-1))) ||| (v &&& m) = v &&& m := by rw [hm, h, Int32.zero_or]
theorem kv1 (a v : Int32) : (a &&& ((-1) ^^^ (-1))) ||| (v &&& (-1)) = v := by
  rw [show ((-1 : Int32) ^^^ (-1)) = 0 from by decide, Int32.and_zero, Int32.zero_or]
  exact Int32.and_neg_one
theorem om {m m' : Int32} (h : m &&& m' = 0) (v : Int32) : (v &&& m) &&& m' = 0 := by rw [Int32.and_assoc, h, Int32.and_zero]
theorem sub_of {a m m' : Int32} (hm : m ^^^ (-1) = m') (h : a &&& m' = 0) : a = a &&& m := by
  apply b_ext
  intro i hi
  have h1 := congrArg (fun z => bt z i) h
  simp only [← hm, b_and, b_xor, b_m1 i hi, b_0] at h1
  rw [b_and]
  revert h1
  cases bt a i <;> cases bt m i <;> simp
theorem eq_bits {x y : Int32} (h : x = y) (i : Nat) : bt x i = bt y i := by rw [h]
/-- the conjunction of what one writing gives -/
def WrR (id : Nat) (q cs q2 cs2 : Nat → Int32) : Prop := CsrR id q2 cs2 ∧ CsrOk q2 ∧ (∀ i, (i < 4096 * id ∨ 4096 * id + 4096 ≤ i) → cs2 i = cs i)
theorem wr1 {id : Nat} {q cs : Nat → Int32} (h : CsrR id q cs) (ho : CsrOk q) {k i : Nat} (he : (k, i) ∈ csrMap) {v : Int32} (hv : okv i v) : WrR id q cs (upd q i v) (upd cs (4096 * id + k) v) := by
  obtain ⟨m1, -, -⟩ := map_in _ he
  dsimp only at m1
  exact ⟨CsrR_upd h he v, ok_upd ho hv, fun j hj => pk_un (by omega)⟩
theorem wr0 {id : Nat} {q cs : Nat → Int32} (h : CsrR id q cs) (ho : CsrOk q) : WrR id q cs q cs := ⟨h, ho, fun _ _ => rfl⟩
theorem ss_ok (a v : Int32) : (((a &&& 924074) &&& (786722 ^^^ (-1))) ||| (v &&& 786722)) &&& (-924075) = 0 := by
  apply b_ext
  intro i hi
  rcases lt32 hi with rfl | rfl | rfl | rfl | rfl | rfl | rfl | rfl | rfl | rfl | rfl | rfl | rfl | rfl | rfl | rfl | rfl | rfl | rfl | rfl | rfl | rfl | rfl | rfl | rfl | rfl | rfl | rfl | rfl | rfl | rfl | rfl <;> simp [b_or, b_and, b_xor, b_i8, b_i16, bc_924074, bc_786722, bc_m924075, bc_m1, bc_0, b_not, bsl_0, bus_0, bsr_0, bsl_1, bus_1, bsr_1, bsl_2, bus_2, bsr_2, bsl_3, bus_3, bsr_3, bsl_4, bus_4, bsr_4, bsl_5, bus_5, bsr_5, bsl_6, bus_6, bsr_6, bsl_7, bus_7, bsr_7, bsl_8, bus_8, bsr_8, bsl_9, bus_9, bsr_9, bsl_10, bus_10, bsr_10, bsl_11, bus_11, bsr_11, bsl_12, bus_12, bsr_12, bsl_13, bus_13, bsr_13, bsl_14, bus_14, bsr_14, bsl_15, bus_15, bsr_15, bsl_16, bus_16, bsr_16, bsl_17, bus_17, bsr_17, bsl_18, bus_18, bsr_18, bsl_19, bus_19, bsr_19, bsl_20, bus_20, bsr_20, bsl_21, bus_21, bsr_21, bsl_22, bus_22, bsr_22, bsl_23, bus_23, bsr_23, bsl_24, bus_24, bsr_24, bsl_25, bus_25, bsr_25, bsl_26, bus_26, bsr_26, bsl_27, bus_27, bsr_27, bsl_28, bus_28, bsr_28, bsl_29, bus_29, bsr_29, bsl_30, bus_30, bsr_30, bsl_31, bus_31, bsr_31]
theorem ss_mpp (a v : Int32) : ((a &&& (786722 ^^^ (-1))) ||| (v &&& 786722)) &&& 6144 = a &&& 6144 := by
  apply b_ext
  intro i hi
  rcases lt32 hi with rfl | rfl | rfl | rfl | rfl | rfl | rfl | rfl | rfl | rfl | rfl | rfl | rfl | rfl | rfl | rfl | rfl | rfl | rfl | rfl | rfl | rfl | rfl | rfl | rfl | rfl | rfl | rfl | rfl | rfl | rfl | rfl <;> simp [b_or, b_and, b_xor, b_i8, b_i16, bc_786722, bc_6144, bc_m1, b_not, bsl_0, bus_0, bsr_0, bsl_1, bus_1, bsr_1, bsl_2, bus_2, bsr_2, bsl_3, bus_3, bsr_3, bsl_4, bus_4, bsr_4, bsl_5, bus_5, bsr_5, bsl_6, bus_6, bsr_6, bsl_7, bus_7, bsr_7, bsl_8, bus_8, bsr_8, bsl_9, bus_9, bsr_9, bsl_10, bus_10, bsr_10, bsl_11, bus_11, bsr_11, bsl_12, bus_12, bsr_12, bsl_13, bus_13, bsr_13, bsl_14, bus_14, bsr_14, bsl_15, bus_15, bsr_15, bsl_16, bus_16, bsr_16, bsl_17, bus_17, bsr_17, bsl_18, bus_18, bsr_18, bsl_19, bus_19, bsr_19, bsl_20, bus_20, bsr_20, bsl_21, bus_21, bsr_21, bsl_22, bus_22, bsr_22, bsl_23, bus_23, bsr_23, bsl_24, bus_24, bsr_24, bsl_25, bus_25, bsr_25, bsl_26, bus_26, bsr_26, bsl_27, bus_27, bsr_27, bsl_28, bus_28, bsr_28, bsl_29, bus_29, bsr_29, bsl_30, bus_30, bsr_30, bsl_31, bus_31, bsr_31]
theorem sie_ok (a d v : Int32) : (((a &&& 2730) &&& ((d &&& 546) ^^^ (-1))) ||| (v &&& (d &&& 546))) &&& (-2731) = 0 := by
  apply b_ext
  intro i hi
  rcases lt32 hi with rfl | rfl | rfl | rfl | rfl | rfl | rfl | rfl | rfl | rfl | rfl | rfl | rfl | rfl | rfl | rfl | rfl | rfl | rfl | rfl | rfl | rfl | rfl | rfl | rfl | rfl | rfl | rfl | rfl | rfl | rfl | rfl <;> simp [b_or, b_and, b_xor, b_i8, b_i16, bc_2730, bc_546, bc_m2731, bc_m1, bc_0, b_not, bsl_0, bus_0, bsr_0, bsl_1, bus_1, bsr_1, bsl_2, bus_2, bsr_2, bsl_3, bus_3, bsr_3, bsl_4, bus_4, bsr_4, bsl_5, bus_5, bsr_5, bsl_6, bus_6, bsr_6, bsl_7, bus_7, bsr_7, bsl_8, bus_8, bsr_8, bsl_9, bus_9, bsr_9, bsl_10, bus_10, bsr_10, bsl_11, bus_11, bsr_11, bsl_12, bus_12, bsr_12, bsl_13, bus_13, bsr_13, bsl_14, bus_14, bsr_14, bsl_15, bus_15, bsr_15, bsl_16, bus_16, bsr_16, bsl_17, bus_17, bsr_17, bsl_18, bus_18, bsr_18, bsl_19, bus_19, bsr_19, bsl_20, bus_20, bsr_20, bsl_21, bus_21, bsr_21, bsl_22, bus_22, bsr_22, bsl_23, bus_23, bsr_23, bsl_24, bus_24, bsr_24, bsl_25, bus_25, bsr_25, bsl_26, bus_26, bsr_26, bsl_27, bus_27, bsr_27, bsl_28, bus_28, bsr_28, bsl_29, bus_29, bsr_29, bsl_30, bus_30, bsr_30, bsl_31, bus_31, bsr_31]
theorem sip_ok (a d v : Int32) : (((a &&& 546) &&& ((d &&& 2) ^^^ (-1))) ||| (v &&& (d &&& 2))) &&& (-547) = 0 := by
  apply b_ext
  intro i hi
  rcases lt32 hi with rfl | rfl | rfl | rfl | rfl | rfl | rfl | rfl | rfl | rfl | rfl | rfl | rfl | rfl | rfl | rfl | rfl | rfl | rfl | rfl | rfl | rfl | rfl | rfl | rfl | rfl | rfl | rfl | rfl | rfl | rfl | rfl <;> simp [b_or, b_and, b_xor, b_i8, b_i16, bc_2, bc_546, bc_m547, bc_m1, bc_0, b_not, bsl_0, bus_0, bsr_0, bsl_1, bus_1, bsr_1, bsl_2, bus_2, bsr_2, bsl_3, bus_3, bsr_3, bsl_4, bus_4, bsr_4, bsl_5, bus_5, bsr_5, bsl_6, bus_6, bsr_6, bsl_7, bus_7, bsr_7, bsl_8, bus_8, bsr_8, bsl_9, bus_9, bsr_9, bsl_10, bus_10, bsr_10, bsl_11, bus_11, bsr_11, bsl_12, bus_12, bsr_12, bsl_13, bus_13, bsr_13, bsl_14, bus_14, bsr_14, bsl_15, bus_15, bsr_15, bsl_16, bus_16, bsr_16, bsl_17, bus_17, bsr_17, bsl_18, bus_18, bsr_18, bsl_19, bus_19, bsr_19, bsl_20, bus_20, bsr_20, bsl_21, bus_21, bsr_21, bsl_22, bus_22, bsr_22, bsl_23, bus_23, bsr_23, bsl_24, bus_24, bsr_24, bsl_25, bus_25, bsr_25, bsl_26, bus_26, bsr_26, bsl_27, bus_27, bsr_27, bsl_28, bus_28, bsr_28, bsl_29, bus_29, bsr_29, bsl_30, bus_30, bsr_30, bsl_31, bus_31, bsr_31]
theorem mpp_and (v : Int32) : (v &&& 924074) &&& 6144 = v &&& 6144 := by
  apply b_ext
  intro i hi
  rcases lt32 hi with rfl | rfl | rfl | rfl | rfl | rfl | rfl | rfl | rfl | rfl | rfl | rfl | rfl | rfl | rfl | rfl | rfl | rfl | rfl | rfl | rfl | rfl | rfl | rfl | rfl | rfl | rfl | rfl | rfl | rfl | rfl | rfl <;> simp [b_or, b_and, b_xor, b_i8, b_i16, bc_924074, bc_6144, bsl_0, bus_0, bsr_0, bsl_1, bus_1, bsr_1, bsl_2, bus_2, bsr_2, bsl_3, bus_3, bsr_3, bsl_4, bus_4, bsr_4, bsl_5, bus_5, bsr_5, bsl_6, bus_6, bsr_6, bsl_7, bus_7, bsr_7, bsl_8, bus_8, bsr_8, bsl_9, bus_9, bsr_9, bsl_10, bus_10, bsr_10, bsl_11, bus_11, bsr_11, bsl_12, bus_12, bsr_12, bsl_13, bus_13, bsr_13, bsl_14, bus_14, bsr_14, bsl_15, bus_15, bsr_15, bsl_16, bus_16, bsr_16, bsl_17, bus_17, bsr_17, bsl_18, bus_18, bsr_18, bsl_19, bus_19, bsr_19, bsl_20, bus_20, bsr_20, bsl_21, bus_21, bsr_21, bsl_22, bus_22, bsr_22, bsl_23, bus_23, bsr_23, bsl_24, bus_24, bsr_24, bsl_25, bus_25, bsr_25, bsl_26, bus_26, bsr_26, bsl_27, bus_27, bsr_27, bsl_28, bus_28, bsr_28, bsl_29, bus_29, bsr_29, bsl_30, bus_30, bsr_30, bsl_31, bus_31, bsr_31]
theorem mpp_e (v : Int32) : (v &&& 6144) = shl ((shr v 11) &&& 3) 11 := by
  apply b_ext
  intro i hi
  rcases lt32 hi with rfl | rfl | rfl | rfl | rfl | rfl | rfl | rfl | rfl | rfl | rfl | rfl | rfl | rfl | rfl | rfl | rfl | rfl | rfl | rfl | rfl | rfl | rfl | rfl | rfl | rfl | rfl | rfl | rfl | rfl | rfl | rfl <;> simp [b_or, b_and, b_xor, b_i8, b_i16, bc_6144, bc_3, bsl_0, bus_0, bsr_0, bsl_1, bus_1, bsr_1, bsl_2, bus_2, bsr_2, bsl_3, bus_3, bsr_3, bsl_4, bus_4, bsr_4, bsl_5, bus_5, bsr_5, bsl_6, bus_6, bsr_6, bsl_7, bus_7, bsr_7, bsl_8, bus_8, bsr_8, bsl_9, bus_9, bsr_9, bsl_10, bus_10, bsr_10, bsl_11, bus_11, bsr_11, bsl_12, bus_12, bsr_12, bsl_13, bus_13, bsr_13, bsl_14, bus_14, bsr_14, bsl_15, bus_15, bsr_15, bsl_16, bus_16, bsr_16, bsl_17, bus_17, bsr_17, bsl_18, bus_18, bsr_18, bsl_19, bus_19, bsr_19, bsl_20, bus_20, bsr_20, bsl_21, bus_21, bsr_21, bsl_22, bus_22, bsr_22, bsl_23, bus_23, bsr_23, bsl_24, bus_24, bsr_24, bsl_25, bus_25, bsr_25, bsl_26, bus_26, bsr_26, bsl_27, bus_27, bsr_27, bsl_28, bus_28, bsr_28, bsl_29, bus_29, bsr_29, bsl_30, bus_30, bsr_30, bsl_31, bus_31, bsr_31]
theorem mpp_iff (v : Int32) : ((shr v 11) &&& 3) = 2 ↔ (v &&& 6144) = 4096 := by
  have e := mpp_e v
  obtain ⟨j, hj, e2⟩ : ∃ j : Nat, j < 4 ∧ (shr v 11) &&& 3 = nI j := pk_andE _ 2 (by decide)
  rw [e, e2]
  have : j = 0 ∨ j = 1 ∨ j = 2 ∨ j = 3 := by omega
  rcases this with rfl | rfl | rfl | rfl <;> decide
theorem not_m (m : Int32) (m' : Int32) (h : m ^^^ (-1) = m' := by decide) : m ^^^ (-1) = m' := h
theorem ok_none {k : Nat} (h : ¬ (k = 1 ∨ k = 2 ∨ k = 3 ∨ k = 4 ∨ k = 5 ∨ k = 6 ∨ k = 10 ∨ k = 11 ∨ k = 12 ∨ k = 16)) (v : Int32) : okv k v := ⟨fun e => absurd e (by omega), fun e => absurd e (by omega), fun e => absurd e (by omega), fun e => absurd e (by omega), fun e => absurd e (by omega), fun e => absurd e (by omega), fun e => absurd e (by omega), fun e => absurd e (by omega), fun e => absurd e (by omega), fun e => absurd e (by omega)⟩
theorem okv_1 {v : Int32} (h : v &&& (-924075) = 0 ∧ ¬ v &&& 6144 = 4096) : okv 1 v := ⟨fun _ => h, fun e => absurd e (by decide), fun e => absurd e (by decide), fun e => absurd e (by decide), fun e => absurd e (by decide), fun e => absurd e (by decide), fun e => absurd e (by decide), fun e => absurd e (by decide), fun e => absurd e (by decide), fun e => absurd e (by decide)⟩
theorem okv_2 {v : Int32} (h : v &&& (-46080) = 0) : okv 2 v := ⟨fun e => absurd e (by decide), fun _ => h, fun e => absurd e (by decide), fun e => absurd e (by decide), fun e => absurd e (by decide), fun e => absurd e (by decide), fun e => absurd e (by decide), fun e => absurd e (by decide), fun e => absurd e (by decide), fun e => absurd e (by decide)⟩
theorem okv_3 {v : Int32} (h : v &&& (-547) = 0) : okv 3 v := ⟨fun e => absurd e (by decide), fun e => absurd e (by decide), fun _ => h, fun e => absurd e (by decide), fun e => absurd e (by decide), fun e => absurd e (by decide), fun e => absurd e (by decide), fun e => absurd e (by decide), fun e => absurd e (by decide), fun e => absurd e (by decide)⟩
theorem okv_4 {v : Int32} (h : v &&& (-2731) = 0) : okv 4 v := ⟨fun e => absurd e (by decide), fun e => absurd e (by decide), fun e => absurd e (by decide), fun _ => h, fun e => absurd e (by decide), fun e => absurd e (by decide), fun e => absurd e (by decide), fun e => absurd e (by decide), fun e => absurd e (by decide), fun e => absurd e (by decide)⟩
theorem okv_5 {v : Int32} (h : v &&& 3 = 0) : okv 5 v := ⟨fun e => absurd e (by decide), fun e => absurd e (by decide), fun e => absurd e (by decide), fun e => absurd e (by decide), fun _ => h, fun e => absurd e (by decide), fun e => absurd e (by decide), fun e => absurd e (by decide), fun e => absurd e (by decide), fun e => absurd e (by decide)⟩
theorem okv_6 {v : Int32} (h : v &&& 3 = 0) : okv 6 v := ⟨fun e => absurd e (by decide), fun e => absurd e (by decide), fun e => absurd e (by decide), fun e => absurd e (by decide), fun e => absurd e (by decide), fun _ => h, fun e => absurd e (by decide), fun e => absurd e (by decide), fun e => absurd e (by decide), fun e => absurd e (by decide)⟩
theorem okv_10 {v : Int32} (h : v &&& (-547) = 0) : okv 10 v := ⟨fun e => absurd e (by decide), fun e => absurd e (by decide), fun e => absurd e (by decide), fun e => absurd e (by decide), fun e => absurd e (by decide), fun e => absurd e (by decide), fun _ => h, fun e => absurd e (by decide), fun e => absurd e (by decide), fun e => absurd e (by decide)⟩
theorem okv_11 {v : Int32} (h : v &&& 3 = 0) : okv 11 v := ⟨fun e => absurd e (by decide), fun e => absurd e (by decide), fun e => absurd e (by decide), fun e => absurd e (by decide), fun e => absurd e (by decide), fun e => absurd e (by decide), fun e => absurd e (by decide), fun _ => h, fun e => absurd e (by decide), fun e => absurd e (by decide)⟩
theorem okv_12 {v : Int32} (h : v &&& 3 = 0) : okv 12 v := ⟨fun e => absurd e (by decide), fun e => absurd e (by decide), fun e => absurd e (by decide), fun e => absurd e (by decide), fun e => absurd e (by decide), fun e => absurd e (by decide), fun e => absurd e (by decide), fun e => absurd e (by decide), fun _ => h, fun e => absurd e (by decide)⟩
theorem okv_16 {v : Int32} (h : v &&& 2143289344 = 0) : okv 16 v := ⟨fun e => absurd e (by decide), fun e => absurd e (by decide), fun e => absurd e (by decide), fun e => absurd e (by decide), fun e => absurd e (by decide), fun e => absurd e (by decide), fun e => absurd e (by decide), fun e => absurd e (by decide), fun e => absurd e (by decide), fun _ => h⟩
set_option maxHeartbeats 4000000 in
set_option maxRecDepth 100000 in
theorem write_eq {id : Nat} (hid : id = 0 ∨ id = 1) {q cs : Nat → Int32} (hC : CsrR id q cs) (hO : CsrOk q) {N : Int32} (hN : ¬ sp_Csrs_isTold N = 0) (hr : sp_Csrs_isReadOnly N = 0) (v : Int32) : WrR id q cs (sp_Csrs_write N v q) (sp_Model_write (nI id) N v cs) := by
  have hC2 := hC
  have hO2 := hO
  obtain ⟨c0, c1, c2, c3, c4⟩ := hC2
  obtain ⟨a1, a1', a2, a3, a4, a5, a6, a10, a11, a12, a16⟩ := hO2
  rcases told_cases hN with rfl | rfl | rfl | rfl | rfl | rfl | rfl | rfl | rfl | rfl | rfl | rfl | rfl | rfl | rfl | rfl | rfl | rfl | rfl | rfl | rfl | rfl | rfl | rfl
  · have e1 : sp_Csrs_write 256 v q = upd q 1 ((q 1 &&& (786722 ^^^ (-1))) ||| (v &&& 786722)) := rfl
    have e2 : sp_Model_write (nI id) 256 v cs = sp_Model_keep (nI id) (nI 768) v 786722 cs := rfl
    rw [e1, e2, keep_at cs v _ hid (by decide), c1 (768, 1) (by decide)]
    refine wr1 hC hO (k := 768) (i := 1) (by decide) (okv_1 ⟨?_, ?_⟩)
    · have z := ss_ok (q 1) v
      rw [← sub_of (m := 924074) (m' := -924075) (by decide) a1] at z
      exact z
    · rw [ss_mpp]; exact a1'
  · have e1 : sp_Csrs_write 260 v q = upd q 4 ((q 4 &&& (q 3 ^^^ (-1))) ||| (v &&& q 3)) := rfl
    have e2 : sp_Model_write (nI id) 260 v cs = sp_Model_keep (nI id) (nI 772) v (sp_Model_raw (nI id) (nI 771) cs) cs := rfl
    rw [e1, e2, keep_at cs v _ hid (by decide), raw_at cs hid (by decide), c1 (772, 4) (by decide), c1 (771, 3) (by decide)]
    refine wr1 hC hO (k := 772) (i := 4) (by decide) (okv_4 ?_)
    have z := sie_ok (q 4) (q 3) v
    rw [← sub_of (m := 2730) (m' := -2731) (by decide) a4, ← sub_of (m := 546) (m' := -547) (by decide) a3] at z
    exact z
  · have e1 : sp_Csrs_write 261 v q = upd q 11 (v &&& (-4)) := rfl
    have e2 : sp_Model_write (nI id) 261 v cs = sp_Model_keep (nI id) (nI 261) v (-4) cs := rfl
    rw [e1, e2, keep_at cs v _ hid (by decide), c1 (261, 11) (by decide), kv (m' := 3) (by decide) a11]
    exact wr1 hC hO (k := 261) (i := 11) (by decide) (okv_11 (om (by decide) v))
  · have e1 : sp_Csrs_write 320 v q = upd q 13 v := rfl
    have e2 : sp_Model_write (nI id) 320 v cs = sp_Model_keep (nI id) (nI 320) v (-1) cs := rfl
    rw [e1, e2, keep_at cs v _ hid (by decide), kv1]
    exact wr1 hC hO (k := 320) (i := 13) (by decide) (ok_none (by decide) v)
  · have e1 : sp_Csrs_write 321 v q = upd q 12 (v &&& (-4)) := rfl
    have e2 : sp_Model_write (nI id) 321 v cs = sp_Model_keep (nI id) (nI 321) v (-4) cs := rfl
    rw [e1, e2, keep_at cs v _ hid (by decide), c1 (321, 12) (by decide), kv (m' := 3) (by decide) a12]
    exact wr1 hC hO (k := 321) (i := 12) (by decide) (okv_12 (om (by decide) v))
  · have e1 : sp_Csrs_write 322 v q = upd q 14 v := rfl
    have e2 : sp_Model_write (nI id) 322 v cs = sp_Model_keep (nI id) (nI 322) v (-1) cs := rfl
    rw [e1, e2, keep_at cs v _ hid (by decide), kv1]
    exact wr1 hC hO (k := 322) (i := 14) (by decide) (ok_none (by decide) v)
  · have e1 : sp_Csrs_write 323 v q = upd q 15 v := rfl
    have e2 : sp_Model_write (nI id) 323 v cs = sp_Model_keep (nI id) (nI 323) v (-1) cs := rfl
    rw [e1, e2, keep_at cs v _ hid (by decide), kv1]
    exact wr1 hC hO (k := 323) (i := 15) (by decide) (ok_none (by decide) v)
  · have e1 : sp_Csrs_write 324 v q = upd q 10 ((q 10 &&& ((q 3 &&& 2) ^^^ (-1))) ||| (v &&& (q 3 &&& 2))) := rfl
    have e2 : sp_Model_write (nI id) 324 v cs = sp_Model_keep (nI id) (nI 836) v ((sp_Model_raw (nI id) (nI 771) cs) &&& 2) cs := rfl
    rw [e1, e2, keep_at cs v _ hid (by decide), raw_at cs hid (by decide), c1 (836, 10) (by decide), c1 (771, 3) (by decide)]
    refine wr1 hC hO (k := 836) (i := 10) (by decide) (okv_10 ?_)
    have z := sip_ok (q 10) (q 3) v
    rw [← sub_of (m := 546) (m' := -547) (by decide) a10] at z
    exact z
  · have e1 : sp_Csrs_write 384 v q = upd q 16 (v &&& (-2143289345)) := rfl
    have e2 : sp_Model_write (nI id) 384 v cs = sp_Model_keep (nI id) (nI 384) v (-2143289345) cs := rfl
    rw [e1, e2, keep_at cs v _ hid (by decide), c1 (384, 16) (by decide), kv (m' := 2143289344) (by decide) a16]
    exact wr1 hC hO (k := 384) (i := 16) (by decide) (okv_16 (om (by decide) v))
  · have e1 : sp_Csrs_write 768 v q = upd q 1 (sp_Csrs_withoutLevelTwo (v &&& 924074)) := rfl
    rw [e1]
    unfold sp_Csrs_withoutLevelTwo
    rw [mpp_and]
    by_cases c : (v &&& 6144) = 4096
    · have e2 : sp_Model_write (nI id) 768 v cs = sp_Model_keep (nI id) (nI 768) (v &&& (-6145)) 924074 cs := by
        have e3 : sp_Model_write (nI id) 768 v cs = if ((shr v 11) &&& 3) = 2 then sp_Model_keep (nI id) (nI 768) (v &&& (-6145)) 924074 cs else sp_Model_keep (nI id) (nI 768) v 924074 cs := rfl
        rw [e3, if_pos ((mpp_iff v).mpr c)]
      rw [if_pos c, e2, keep_at cs _ _ hid (by decide), c1 (768, 1) (by decide), kv (m' := -924075) (by decide) a1, show (v &&& (-6145)) &&& 924074 = (v &&& 924074) &&& (-6145) from by rw [Int32.and_assoc, Int32.and_comm (-6145), ← Int32.and_assoc]]
      refine wr1 hC hO (k := 768) (i := 1) (by decide) (okv_1 ⟨?_, ?_⟩)
      · rw [Int32.and_assoc, Int32.and_assoc, show ((924074 : Int32) &&& ((-6145) &&& (-924075))) = 0 from by decide, Int32.and_zero]
      · rw [Int32.and_assoc, show ((-6145 : Int32) &&& 6144) = 0 from by decide, Int32.and_zero]; decide
    · have e2 : sp_Model_write (nI id) 768 v cs = sp_Model_keep (nI id) (nI 768) v 924074 cs := by
        have e3 : sp_Model_write (nI id) 768 v cs = if ((shr v 11) &&& 3) = 2 then sp_Model_keep (nI id) (nI 768) (v &&& (-6145)) 924074 cs else sp_Model_keep (nI id) (nI 768) v 924074 cs := rfl
        rw [e3, if_neg (fun z => c ((mpp_iff v).mp z))]
      rw [if_neg c, e2, keep_at cs v _ hid (by decide), c1 (768, 1) (by decide), kv (m' := -924075) (by decide) a1]
      refine wr1 hC hO (k := 768) (i := 1) (by decide) (okv_1 ⟨om (by decide) v, ?_⟩)
      rw [mpp_and]; exact c
  · exact wr0 hC hO
  · have e1 : sp_Csrs_write 770 v q = upd q 2 (v &&& 46079) := rfl
    have e2 : sp_Model_write (nI id) 770 v cs = sp_Model_keep (nI id) (nI 770) v 46079 cs := rfl
    rw [e1, e2, keep_at cs v _ hid (by decide), c1 (770, 2) (by decide), kv (m' := -46080) (by decide) a2]
    exact wr1 hC hO (k := 770) (i := 2) (by decide) (okv_2 (om (by decide) v))
  · have e1 : sp_Csrs_write 771 v q = upd q 3 (v &&& 546) := rfl
    have e2 : sp_Model_write (nI id) 771 v cs = sp_Model_keep (nI id) (nI 771) v 546 cs := rfl
    rw [e1, e2, keep_at cs v _ hid (by decide), c1 (771, 3) (by decide), kv (m' := -547) (by decide) a3]
    exact wr1 hC hO (k := 771) (i := 3) (by decide) (okv_3 (om (by decide) v))
  · have e1 : sp_Csrs_write 772 v q = upd q 4 (v &&& 2730) := rfl
    have e2 : sp_Model_write (nI id) 772 v cs = sp_Model_keep (nI id) (nI 772) v 2730 cs := rfl
    rw [e1, e2, keep_at cs v _ hid (by decide), c1 (772, 4) (by decide), kv (m' := -2731) (by decide) a4]
    exact wr1 hC hO (k := 772) (i := 4) (by decide) (okv_4 (om (by decide) v))
  · have e1 : sp_Csrs_write 773 v q = upd q 5 (v &&& (-4)) := rfl
    have e2 : sp_Model_write (nI id) 773 v cs = sp_Model_keep (nI id) (nI 773) v (-4) cs := rfl
    rw [e1, e2, keep_at cs v _ hid (by decide), c1 (773, 5) (by decide), kv (m' := 3) (by decide) a5]
    exact wr1 hC hO (k := 773) (i := 5) (by decide) (okv_5 (om (by decide) v))
  · have e1 : sp_Csrs_write 832 v q = upd q 7 v := rfl
    have e2 : sp_Model_write (nI id) 832 v cs = sp_Model_keep (nI id) (nI 832) v (-1) cs := rfl
    rw [e1, e2, keep_at cs v _ hid (by decide), kv1]
    exact wr1 hC hO (k := 832) (i := 7) (by decide) (ok_none (by decide) v)
  · have e1 : sp_Csrs_write 833 v q = upd q 6 (v &&& (-4)) := rfl
    have e2 : sp_Model_write (nI id) 833 v cs = sp_Model_keep (nI id) (nI 833) v (-4) cs := rfl
    rw [e1, e2, keep_at cs v _ hid (by decide), c1 (833, 6) (by decide), kv (m' := 3) (by decide) a6]
    exact wr1 hC hO (k := 833) (i := 6) (by decide) (okv_6 (om (by decide) v))
  · have e1 : sp_Csrs_write 834 v q = upd q 8 v := rfl
    have e2 : sp_Model_write (nI id) 834 v cs = sp_Model_keep (nI id) (nI 834) v (-1) cs := rfl
    rw [e1, e2, keep_at cs v _ hid (by decide), kv1]
    exact wr1 hC hO (k := 834) (i := 8) (by decide) (ok_none (by decide) v)
  · have e1 : sp_Csrs_write 835 v q = upd q 9 v := rfl
    have e2 : sp_Model_write (nI id) 835 v cs = sp_Model_keep (nI id) (nI 835) v (-1) cs := rfl
    rw [e1, e2, keep_at cs v _ hid (by decide), kv1]
    exact wr1 hC hO (k := 835) (i := 9) (by decide) (ok_none (by decide) v)
  · have e1 : sp_Csrs_write 836 v q = upd q 10 (v &&& 546) := rfl
    have e2 : sp_Model_write (nI id) 836 v cs = sp_Model_keep (nI id) (nI 836) v 546 cs := rfl
    rw [e1, e2, keep_at cs v _ hid (by decide), c1 (836, 10) (by decide), kv (m' := -547) (by decide) a10]
    exact wr1 hC hO (k := 836) (i := 10) (by decide) (okv_10 (om (by decide) v))
  · exact absurd hr (by decide)
  · exact absurd hr (by decide)
  · exact absurd hr (by decide)
  · exact absurd hr (by decide)
theorem ro_eq {x : Int32} (h : ¬ sp_Csrs_isTold x = 0) : (sp_Csrs_isReadOnly x = 0 ↔ ¬ shr x 10 = 3) := by
  rcases told_cases h with rfl | rfl | rfl | rfl | rfl | rfl | rfl | rfl | rfl | rfl | rfl | rfl | rfl | rfl | rfl | rfl | rfl | rfl | rfl | rfl | rfl | rfl | rfl | rfl <;> decide
/-- a hart's CSR are written: the rest stays -/
theorem HartR_csr {id : Nat} {s : HS} {pcs lv cs x cs2 q2 : Nat → Int32} (h : HartR id s pcs lv cs x) (hw : WrR id s.2.2.2.2 cs q2 cs2) : HartR id (s.1, s.2.1, s.2.2.1, s.2.2.2.1, q2) pcs lv cs2 x := by
  obtain ⟨h1, h2, h3, h4, h5, h6, h7⟩ := h
  exact ⟨h1, h2, h3, hw.1, hw.2.1, h6, h7⟩
theorem HartR_cso {id : Nat} {s : HS} {pcs lv cs x cs2 : Nat → Int32} (h : HartR id s pcs lv cs x) (hs : ∀ i, 4096 * id ≤ i → i < 4096 * id + 4096 → cs2 i = cs i) : HartR id s pcs lv cs2 x := by
  obtain ⟨h1, h2, h3, h4, h5, h6, h7⟩ := h
  exact ⟨h1, h2, h3, CsrR_other h4 hs, h5, h6, h7⟩
section EqsP
variable {n : Nat} {σ : TT} {pcs lv cs x b cl : Nat → Int32} {cm : Nat → Int64} {so : Nat → Int32} {ti : Int64} {pu : Nat → Int32} {np : Int32} {x0 x1 x2 r1 r2 : Int32} {u1 : TT}
theorem E_put {u2 : Nat → Int32} (hn : n ≤ 4096) (hn1 : 16 ≤ n) (hR : Rel n σ pcs lv cs x b cl cm so ti pu np) (h1 : sp_TwinHart_put n x0 x1 x2 σ = (r1, u1)) (h2 : sp_Model_put x0 x1 x2 cs = (r2, u2)) : r1 = r2 ∧ Rel n u1 pcs lv u2 x b cl cm so ti pu np := by
  unfold sp_TwinHart_put at h1
  unfold sp_Model_put at h2
  dsimp only at h1 h2
  by_cases e0 : x0 = 0
  · subst e0
    rw [if_pos rfl] at h1
    rw [if_neg ih_0] at h2
    by_cases q : sp_Csrs_isTold x1 = 0
    · rw [if_pos q] at h1
      rw [if_pos ((told_eq x1).mp q)] at h2
      obtain ⟨rfl, rfl⟩ := Prod.mk.inj h1
      obtain ⟨rfl, rfl⟩ := Prod.mk.inj h2
      exact ⟨rfl, hR⟩
    · rw [if_neg q] at h1
      rw [if_neg (fun z => q ((told_eq x1).mpr z))] at h2
      by_cases w : sp_Csrs_isReadOnly x1 = 0
      · rw [if_pos w] at h1
        rw [if_neg ((ro_eq q).mp w)] at h2
        obtain ⟨rfl, rfl⟩ := Prod.mk.inj h1
        obtain ⟨rfl, rfl⟩ := Prod.mk.inj h2
        have hw := write_eq (Or.inl rfl) hR.2.1.2.2.2.1 hR.2.1.2.2.2.2.1 q w x2
        exact ⟨rfl, hR.1, HartR_csr hR.2.1 hw, HartR_cso hR.2.2 (fun i a1 a2 => hw.2.2 i (Or.inr (by omega)))⟩
      · rw [if_neg w] at h1
        rw [if_pos (Classical.not_not.mp (fun z => w ((ro_eq q).mpr z)))] at h2
        obtain ⟨rfl, rfl⟩ := Prod.mk.inj h1
        obtain ⟨rfl, rfl⟩ := Prod.mk.inj h2
        exact ⟨rfl, hR⟩
  · rw [if_neg e0] at h1
    by_cases e1 : x0 = 1
    · subst e1
      rw [if_pos rfl] at h1
      rw [if_neg ih_1] at h2
      by_cases q : sp_Csrs_isTold x1 = 0
      · rw [if_pos q] at h1
        rw [if_pos ((told_eq x1).mp q)] at h2
        obtain ⟨rfl, rfl⟩ := Prod.mk.inj h1
        obtain ⟨rfl, rfl⟩ := Prod.mk.inj h2
        exact ⟨rfl, hR⟩
      · rw [if_neg q] at h1
        rw [if_neg (fun z => q ((told_eq x1).mpr z))] at h2
        by_cases w : sp_Csrs_isReadOnly x1 = 0
        · rw [if_pos w] at h1
          rw [if_neg ((ro_eq q).mp w)] at h2
          obtain ⟨rfl, rfl⟩ := Prod.mk.inj h1
          obtain ⟨rfl, rfl⟩ := Prod.mk.inj h2
          have hw := write_eq (Or.inr rfl) hR.2.2.2.2.2.1 hR.2.2.2.2.2.2.1 q w x2
          exact ⟨rfl, hR.1, HartR_cso hR.2.1 (fun i a1 a2 => hw.2.2 i (Or.inl (by omega))), HartR_csr hR.2.2 hw⟩
        · rw [if_neg w] at h1
          rw [if_pos (Classical.not_not.mp (fun z => w ((ro_eq q).mpr z)))] at h2
          obtain ⟨rfl, rfl⟩ := Prod.mk.inj h1
          obtain ⟨rfl, rfl⟩ := Prod.mk.inj h2
          exact ⟨rfl, hR⟩
    · rw [if_neg e1] at h1
      rw [if_pos (ih_no e0 e1)] at h2
      obtain ⟨rfl, rfl⟩ := Prod.mk.inj h1
      obtain ⟨rfl, rfl⟩ := Prod.mk.inj h2
      exact ⟨rfl, hR⟩
end EqsP
