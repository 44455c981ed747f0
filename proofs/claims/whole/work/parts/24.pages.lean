def sp_Pages_entryPlace (x0 : Int32) (x1 : Int32)  : Int64 :=
  (lshl x0.toInt64 12) + (4 * x1.toInt64)
set_option maxHeartbeats 4000000 in
set_option maxRecDepth 100000 in
theorem c_Pages_entryPlace {l : Launch} {D : va_G} {g : Nat → Nat}  (x0 : Int32) (x1 : Int32)   : CT l D g y_Pages_entryPlace b_Pages_entryPlace 2 (some .long) (rD 0) [.int x0, .int x1] ([]) ([]) (Ql D (fun (r : Int64) (_ : Unit) => sp_Pages_entryPlace x0 x1 = r) (fun _ => [])) := by
  refine CT.of rfl (Nat.le_of_ble_eq_true rfl) (fun p e s m below meth c A ls hx hb hr hml hts hown hlocks hA hP hK hD hF hS hl => ?_)
  have hl : lv_has ls 2 [(0, .int x0), (1, .int x1)] := hl
  refine lv_iload_n hx hb d_Pages_entryPlace_0 rfl (lv_at hl 0 rfl) ?_
  refine lv_i2l hx hb d_Pages_entryPlace_1 rfl ?_
  refine lv_bipush (v := 12) hx hb d_Pages_entryPlace_2 rfl ?_
  refine lv_lshl (v := lshl x0.toInt64 12) hx hb d_Pages_entryPlace_4 rfl ?_
  refine lv_ldc2 (v := 4) hx hb hown (hts _ k_293) d_Pages_entryPlace_5 ?_
  refine lv_iload_n hx hb d_Pages_entryPlace_8 rfl (lv_at hl 1 rfl) ?_
  refine lv_i2l hx hb d_Pages_entryPlace_9 rfl ?_
  refine lv_lmul hx hb d_Pages_entryPlace_10 ?_
  refine lv_ladd hx hb d_Pages_entryPlace_11 ?_
  exact rl () hx hb hr hlocks hP hD hS d_Pages_entryPlace_12 (by simp only [sp_Pages_entryPlace])
def sp_Pages_isPage (x0 : Int32)  : Int32 :=
  if (x0 &&& 6) = 4 then
    if (x0 &&& 1) = 0 then
      0
    else
      if (x0 &&& 10) = 0 then
        0
      else
        0
  else
    if (x0 &&& 1) = 0 then
      0
    else
      if (x0 &&& 10) = 0 then
        0
      else
        1
set_option maxHeartbeats 4000000 in
set_option maxRecDepth 100000 in
theorem c_Pages_isPage {l : Launch} {D : va_G} {g : Nat → Nat}  (x0 : Int32)   : CT l D g y_Pages_isPage b_Pages_isPage 2 (some .boolean) (rD 0) [.int x0] ([]) ([]) (Qi D (fun (r : Int32) (_ : Unit) => sp_Pages_isPage x0 = r ∧ (r = 0 ∨ r = 1)) (fun _ => [])) := by
  refine CT.of rfl (Nat.le_of_ble_eq_true rfl) (fun p e s m below meth c A ls hx hb hr hml hts hown hlocks hA hP hK hD hF hS hl => ?_)
  have hl : lv_has ls 2 [(0, .int x0)] := hl
  refine lv_iload_n hx hb d_Pages_isPage_0 rfl (lv_at hl 0 rfl) ?_
  refine lv_bipush (v := 6) hx hb d_Pages_isPage_1 rfl ?_
  refine lv_iand hx hb d_Pages_isPage_3 ?_
  refine lv_iconst (v := 4) hx hb d_Pages_isPage_4 rfl ?_
  refine lv_icmp_ne (tgt := 12) hx hb d_Pages_isPage_5 (by decide) (fun c_1 => ?_) (fun c_1 => ?_)
  · refine lv_iconst (v := 0) hx hb d_Pages_isPage_12 rfl ?_
    refine lv_istore_n (lv' := [(1, .int 0), (0, .int x0)]) hx hb d_Pages_isPage_13 rfl hl (by decide) rfl (fun ls hl => ?_)
    refine lv_iload_n hx hb d_Pages_isPage_14 rfl (lv_at hl 1 rfl) ?_
    refine lv_iconst (v := 1) hx hb d_Pages_isPage_15 rfl ?_
    refine lv_iand hx hb d_Pages_isPage_16 ?_
    refine lv_if_eq (tgt := 35) hx hb d_Pages_isPage_17 (by decide) (fun c_2 => ?_) (fun c_2 => ?_)
    · refine lv_iconst (v := 0) hx hb d_Pages_isPage_35 rfl ?_
      exact rz () hx hb hr hlocks rfl hP hD hS d_Pages_isPage_36 ⟨by simp only [sp_Pages_isPage, if_neg c_1, if_pos c_2], Or.inl rfl⟩
    · refine lv_iload_n hx hb d_Pages_isPage_20 rfl (lv_at hl 1 rfl) ?_
      refine lv_bipush (v := 10) hx hb d_Pages_isPage_21 rfl ?_
      refine lv_iand hx hb d_Pages_isPage_23 ?_
      refine lv_if_eq (tgt := 35) hx hb d_Pages_isPage_24 (by decide) (fun c_3 => ?_) (fun c_3 => ?_)
      · refine lv_iconst (v := 0) hx hb d_Pages_isPage_35 rfl ?_
        exact rz () hx hb hr hlocks rfl hP hD hS d_Pages_isPage_36 ⟨by simp only [sp_Pages_isPage, if_neg c_1, if_neg c_2, if_pos c_3], Or.inl rfl⟩
      · refine lv_iload_n hx hb d_Pages_isPage_27 rfl (lv_at hl 0 rfl) ?_
        refine lv_if_ne (tgt := 35) hx hb d_Pages_isPage_28 (by decide) (fun h9 => absurd (by decide) h9) (fun _ => ?_)
        refine lv_iconst (v := 1) hx hb d_Pages_isPage_31 rfl ?_
        refine lv_goto (tgt := 36) hx hb d_Pages_isPage_32 (by decide) ?_
        exact rz () hx hb hr hlocks rfl hP hD hS d_Pages_isPage_36 ⟨by simp only [sp_Pages_isPage, if_neg c_1, if_neg c_2, if_neg c_3], Or.inr rfl⟩
  · refine lv_iconst (v := 1) hx hb d_Pages_isPage_8 rfl ?_
    refine lv_goto (tgt := 13) hx hb d_Pages_isPage_9 (by decide) ?_
    refine lv_istore_n (lv' := [(1, .int 1), (0, .int x0)]) hx hb d_Pages_isPage_13 rfl hl (by decide) rfl (fun ls hl => ?_)
    refine lv_iload_n hx hb d_Pages_isPage_14 rfl (lv_at hl 1 rfl) ?_
    refine lv_iconst (v := 1) hx hb d_Pages_isPage_15 rfl ?_
    refine lv_iand hx hb d_Pages_isPage_16 ?_
    refine lv_if_eq (tgt := 35) hx hb d_Pages_isPage_17 (by decide) (fun c_5 => ?_) (fun c_5 => ?_)
    · refine lv_iconst (v := 0) hx hb d_Pages_isPage_35 rfl ?_
      exact rz () hx hb hr hlocks rfl hP hD hS d_Pages_isPage_36 ⟨by simp only [sp_Pages_isPage, if_pos c_1, if_pos c_5], Or.inl rfl⟩
    · refine lv_iload_n hx hb d_Pages_isPage_20 rfl (lv_at hl 1 rfl) ?_
      refine lv_bipush (v := 10) hx hb d_Pages_isPage_21 rfl ?_
      refine lv_iand hx hb d_Pages_isPage_23 ?_
      refine lv_if_eq (tgt := 35) hx hb d_Pages_isPage_24 (by decide) (fun c_6 => ?_) (fun c_6 => ?_)
      · refine lv_iconst (v := 0) hx hb d_Pages_isPage_35 rfl ?_
        exact rz () hx hb hr hlocks rfl hP hD hS d_Pages_isPage_36 ⟨by simp only [sp_Pages_isPage, if_pos c_1, if_neg c_5, if_pos c_6], Or.inl rfl⟩
      · refine lv_iload_n hx hb d_Pages_isPage_27 rfl (lv_at hl 0 rfl) ?_
        refine lv_if_ne (tgt := 35) hx hb d_Pages_isPage_28 (by decide) (fun _ => ?_) (fun h9 => absurd h9 (by decide))
        refine lv_iconst (v := 0) hx hb d_Pages_isPage_35 rfl ?_
        exact rz () hx hb hr hlocks rfl hP hD hS d_Pages_isPage_36 ⟨by simp only [sp_Pages_isPage, if_pos c_1, if_neg c_5, if_neg c_6], Or.inl rfl⟩
def sp_Pages_admits (x0 : Int32) (i : Nat) (x2 : Int32) (x3 : Int32)  : Int32 :=
  if (x0 &&& 16) = 0 then
    if x2 = 0 then
      0
    else
      if i = 0 then
        if x2 = 1 then
          if (aF_stores.getD i 0) = 0 then
            if (x0 &&& 64) = 64 then
              if (x0 &&& 8) = 0 then
                0
              else
                1
            else
              0
          else
            if (x0 &&& 196) = 196 then
              if (x0 &&& 8) = 0 then
                0
              else
                1
            else
              0
        else
          if (aF_stores.getD i 0) = 0 then
            if (x0 &&& 64) = 64 then
              if (x0 &&& 8) = 0 then
                0
              else
                1
            else
              0
          else
            if (x0 &&& 196) = 196 then
              if (x0 &&& 8) = 0 then
                0
              else
                1
            else
              0
      else
        if (x3 &&& 262144) = 0 then
          if x2 = 1 then
            if (aF_stores.getD i 0) = 0 then
              if (x0 &&& 64) = 64 then
                if (x3 &&& 524288) = 0 then
                  if (x0 &&& 2) = 0 then
                    0
                  else
                    1
                else
                  if (x0 &&& 10) = 0 then
                    0
                  else
                    1
              else
                0
            else
              if (x0 &&& 196) = 196 then
                if (x3 &&& 524288) = 0 then
                  1
                else
                  1
              else
                0
          else
            if (aF_stores.getD i 0) = 0 then
              if (x0 &&& 64) = 64 then
                if (x3 &&& 524288) = 0 then
                  if (x0 &&& 2) = 0 then
                    0
                  else
                    1
                else
                  if (x0 &&& 10) = 0 then
                    0
                  else
                    1
              else
                0
            else
              if (x0 &&& 196) = 196 then
                if (x3 &&& 524288) = 0 then
                  1
                else
                  1
              else
                0
        else
          if x2 = 1 then
            if (aF_stores.getD i 0) = 0 then
              if (x0 &&& 64) = 64 then
                if (x3 &&& 524288) = 0 then
                  if (x0 &&& 2) = 0 then
                    0
                  else
                    1
                else
                  if (x0 &&& 10) = 0 then
                    0
                  else
                    1
              else
                0
            else
              if (x0 &&& 196) = 196 then
                if (x3 &&& 524288) = 0 then
                  1
                else
                  1
              else
                0
          else
            if (aF_stores.getD i 0) = 0 then
              if (x0 &&& 64) = 64 then
                if (x3 &&& 524288) = 0 then
                  if (x0 &&& 2) = 0 then
                    0
                  else
                    1
                else
                  if (x0 &&& 10) = 0 then
                    0
                  else
                    1
              else
                0
            else
              if (x0 &&& 196) = 196 then
                if (x3 &&& 524288) = 0 then
                  1
                else
                  1
              else
                0
  else
    if x2 = 0 then
      if i = 0 then
        if x2 = 1 then
          0
        else
          if (aF_stores.getD i 0) = 0 then
            if (x0 &&& 64) = 64 then
              if (x0 &&& 8) = 0 then
                0
              else
                1
            else
              0
          else
            if (x0 &&& 196) = 196 then
              if (x0 &&& 8) = 0 then
                0
              else
                1
            else
              0
      else
        if (x3 &&& 262144) = 0 then
          if x2 = 1 then
            0
          else
            if (aF_stores.getD i 0) = 0 then
              if (x0 &&& 64) = 64 then
                if (x3 &&& 524288) = 0 then
                  if (x0 &&& 2) = 0 then
                    0
                  else
                    1
                else
                  if (x0 &&& 10) = 0 then
                    0
                  else
                    1
              else
                0
            else
              if (x0 &&& 196) = 196 then
                if (x3 &&& 524288) = 0 then
                  1
                else
                  1
              else
                0
        else
          if x2 = 1 then
            if (aF_stores.getD i 0) = 0 then
              if (x0 &&& 64) = 64 then
                if (x3 &&& 524288) = 0 then
                  if (x0 &&& 2) = 0 then
                    0
                  else
                    1
                else
                  if (x0 &&& 10) = 0 then
                    0
                  else
                    1
              else
                0
            else
              if (x0 &&& 196) = 196 then
                if (x3 &&& 524288) = 0 then
                  1
                else
                  1
              else
                0
          else
            if (aF_stores.getD i 0) = 0 then
              if (x0 &&& 64) = 64 then
                if (x3 &&& 524288) = 0 then
                  if (x0 &&& 2) = 0 then
                    0
                  else
                    1
                else
                  if (x0 &&& 10) = 0 then
                    0
                  else
                    1
              else
                0
            else
              if (x0 &&& 196) = 196 then
                if (x3 &&& 524288) = 0 then
                  1
                else
                  1
              else
                0
    else
      if i = 0 then
        if x2 = 1 then
          0
        else
          if (aF_stores.getD i 0) = 0 then
            if (x0 &&& 64) = 64 then
              if (x0 &&& 8) = 0 then
                0
              else
                1
            else
              0
          else
            if (x0 &&& 196) = 196 then
              if (x0 &&& 8) = 0 then
                0
              else
                1
            else
              0
      else
        if (x3 &&& 262144) = 0 then
          if x2 = 1 then
            0
          else
            if (aF_stores.getD i 0) = 0 then
              if (x0 &&& 64) = 64 then
                if (x3 &&& 524288) = 0 then
                  if (x0 &&& 2) = 0 then
                    0
                  else
                    1
                else
                  if (x0 &&& 10) = 0 then
                    0
                  else
                    1
              else
                0
            else
              if (x0 &&& 196) = 196 then
                if (x3 &&& 524288) = 0 then
                  1
                else
                  1
              else
                0
        else
          if x2 = 1 then
            if (aF_stores.getD i 0) = 0 then
              if (x0 &&& 64) = 64 then
                if (x3 &&& 524288) = 0 then
                  if (x0 &&& 2) = 0 then
                    0
                  else
                    1
                else
                  if (x0 &&& 10) = 0 then
                    0
                  else
                    1
              else
                0
            else
              if (x0 &&& 196) = 196 then
                if (x3 &&& 524288) = 0 then
                  1
                else
                  1
              else
                0
          else
            if (aF_stores.getD i 0) = 0 then
              if (x0 &&& 64) = 64 then
                if (x3 &&& 524288) = 0 then
                  if (x0 &&& 2) = 0 then
                    0
                  else
                    1
                else
                  if (x0 &&& 10) = 0 then
                    0
                  else
                    1
              else
                0
            else
              if (x0 &&& 196) = 196 then
                if (x3 &&& 524288) = 0 then
                  1
                else
                  1
              else
                0
set_option maxHeartbeats 4000000 in
set_option maxRecDepth 100000 in
theorem c_Pages_admits {l : Launch} {D : va_G} {g : Nat → Nat}  (x0 : Int32) (i : Nat) (x2 : Int32) (x3 : Int32)  (hi : i < 5) : CT l D g y_Pages_admits b_Pages_admits 8 (some .boolean) (rD 0) [.int x0, .ref (g (i + 1)), .int x2, .int x3] ([]) ([]) (Qi D (fun (r : Int32) (_ : Unit) => sp_Pages_admits x0 i x2 x3 = r ∧ (r = 0 ∨ r = 1)) (fun _ => [])) := by
  refine CT.of rfl (Nat.le_of_ble_eq_true rfl) (fun p e s m below meth c A ls hx hb hr hml hts hown hlocks hA hP hK hD hF hS hl => ?_)
  have hl : lv_has ls 8 [(0, .int x0), (1, .ref (g (i + 1))), (2, .int x2), (3, .int x3)] := hl
  refine lv_iload_n hx hb d_Pages_admits_0 rfl (lv_at hl 0 rfl) ?_
  refine lv_bipush (v := 16) hx hb d_Pages_admits_1 rfl ?_
  refine lv_iand hx hb d_Pages_admits_3 ?_
  refine lv_if_eq (tgt := 11) hx hb d_Pages_admits_4 (by decide) (fun c_1 => ?_) (fun c_1 => ?_)
  · refine lv_iconst (v := 0) hx hb d_Pages_admits_11 rfl ?_
    refine lv_istore (lv' := [(4, .int 0), (0, .int x0), (1, .ref (g (i + 1))), (2, .int x2), (3, .int x3)]) hx hb d_Pages_admits_12 hl (by decide) rfl (fun ls hl => ?_)
    refine lv_iload_n hx hb d_Pages_admits_14 rfl (lv_at hl 3 rfl) ?_
    refine lv_if_ne (tgt := 25) hx hb d_Pages_admits_15 (by decide) (fun c_2 => ?_) (fun c_2 => ?_)
    · refine lv_aload_n hx hb d_Pages_admits_25 rfl (lv_at hl 2 rfl) ?_
      refine va_gets hx hb (hF.2.1.1 0 (by decide)).1 hS hown (hts _ k_314) (fun _ h9 => h9) d_Pages_admits_26 ?_
      refine lv_acmp_eq (rx := some (g (i + 1))) (ry := some (g (0 + 1))) (tgt := 43) hx hb d_Pages_admits_29 (by decide) (fun b_3 => ?_) (fun b_3 => ?_)
      · have c_3 : i = 0 := hF.2.1.2 _ _ hi (by decide) (Option.some.inj b_3)
        refine lv_iconst (v := 0) hx hb d_Pages_admits_43 rfl ?_
        refine lv_istore (lv' := [(5, .int 0), (4, .int 0), (0, .int x0), (1, .ref (g (i + 1))), (2, .int x2), (3, .int x3)]) hx hb d_Pages_admits_44 hl (by decide) rfl (fun ls hl => ?_)
        refine lv_iload_n hx hb d_Pages_admits_46 rfl (lv_at hl 4 rfl) ?_
        refine lv_iconst (v := 1) hx hb d_Pages_admits_47 rfl ?_
        refine lv_icmp_ne (tgt := 63) hx hb d_Pages_admits_48 (by decide) (fun c_4 => ?_) (fun c_4 => ?_)
        · refine lv_aload_n hx hb d_Pages_admits_63 rfl (lv_at hl 3 rfl) ?_
          refine va_getE (E := R_Access) (nm := nmA) (F := FlA) (ad := fun i => g (i + 1)) (i := i) (q := q_stores) hx hb hF.2.1 hi hS hown (List.mem_of_getElem? (i := 4) rfl) (hts _ k_941) (fun _ h9 => h9) d_Pages_admits_64 ?_
          refine W.eq (g2 := F0 m 67 ls [.int (aF_stores.getD i 0)]) rfl ?_
          refine lv_if_eq (tgt := 76) hx hb d_Pages_admits_67 (by decide) (fun c_5 => ?_) (fun c_5 => ?_)
          · refine lv_bipush (v := 64) hx hb d_Pages_admits_76 rfl ?_
            refine lv_istore (lv' := [(6, .int 64), (5, .int 0), (4, .int 0), (0, .int x0), (1, .ref (g (i + 1))), (2, .int x2), (3, .int x3)]) hx hb d_Pages_admits_78 hl (by decide) rfl (fun ls hl => ?_)
            refine lv_iload_n hx hb d_Pages_admits_80 rfl (lv_at hl 3 rfl) ?_
            refine lv_iload hx hb d_Pages_admits_81 (lv_at hl 0 rfl) ?_
            refine lv_iand hx hb d_Pages_admits_83 ?_
            refine lv_iload hx hb d_Pages_admits_84 (lv_at hl 0 rfl) ?_
            refine lv_icmp_eq (tgt := 91) hx hb d_Pages_admits_86 (by decide) (fun c_6 => ?_) (fun c_6 => ?_)
            · refine lv_aload_n hx hb d_Pages_admits_91 rfl (lv_at hl 4 rfl) ?_
              refine va_gets hx hb (hF.2.1.1 0 (by decide)).1 hS hown (hts _ k_314) (fun _ h9 => h9) d_Pages_admits_92 ?_
              refine lv_acmp_ne (rx := some (g (i + 1))) (ry := some (g (0 + 1))) (tgt := 111) hx hb d_Pages_admits_95 (by decide) (fun h9 => absurd (by rw [c_3]) h9) (fun _ => ?_)
              refine lv_iload_n hx hb d_Pages_admits_98 rfl (lv_at hl 3 rfl) ?_
              refine lv_bipush (v := 8) hx hb d_Pages_admits_99 rfl ?_
              refine lv_iand hx hb d_Pages_admits_101 ?_
              refine lv_if_eq (tgt := 109) hx hb d_Pages_admits_102 (by decide) (fun c_8 => ?_) (fun c_8 => ?_)
              · refine lv_iconst (v := 0) hx hb d_Pages_admits_109 rfl ?_
                exact rz () hx hb hr hlocks rfl hP hD hS d_Pages_admits_110 ⟨by simp only [sp_Pages_admits, if_pos c_1, if_neg c_2, if_pos c_3, if_neg c_4, if_pos c_5, if_pos c_6, if_pos c_8], Or.inl rfl⟩
              · refine lv_iconst (v := 1) hx hb d_Pages_admits_105 rfl ?_
                refine lv_goto (tgt := 110) hx hb d_Pages_admits_106 (by decide) ?_
                exact rz () hx hb hr hlocks rfl hP hD hS d_Pages_admits_110 ⟨by simp only [sp_Pages_admits, if_pos c_1, if_neg c_2, if_pos c_3, if_neg c_4, if_pos c_5, if_pos c_6, if_neg c_8], Or.inr rfl⟩
            · refine lv_iconst (v := 0) hx hb d_Pages_admits_89 rfl ?_
              exact rz () hx hb hr hlocks rfl hP hD hS d_Pages_admits_90 ⟨by simp only [sp_Pages_admits, if_pos c_1, if_neg c_2, if_pos c_3, if_neg c_4, if_pos c_5, if_neg c_6], Or.inl rfl⟩
          · refine lv_sipush (v := 196) hx hb d_Pages_admits_70 rfl ?_
            refine lv_goto (tgt := 78) hx hb d_Pages_admits_73 (by decide) ?_
            refine lv_istore (lv' := [(6, .int 196), (5, .int 0), (4, .int 0), (0, .int x0), (1, .ref (g (i + 1))), (2, .int x2), (3, .int x3)]) hx hb d_Pages_admits_78 hl (by decide) rfl (fun ls hl => ?_)
            refine lv_iload_n hx hb d_Pages_admits_80 rfl (lv_at hl 3 rfl) ?_
            refine lv_iload hx hb d_Pages_admits_81 (lv_at hl 0 rfl) ?_
            refine lv_iand hx hb d_Pages_admits_83 ?_
            refine lv_iload hx hb d_Pages_admits_84 (lv_at hl 0 rfl) ?_
            refine lv_icmp_eq (tgt := 91) hx hb d_Pages_admits_86 (by decide) (fun c_9 => ?_) (fun c_9 => ?_)
            · refine lv_aload_n hx hb d_Pages_admits_91 rfl (lv_at hl 4 rfl) ?_
              refine va_gets hx hb (hF.2.1.1 0 (by decide)).1 hS hown (hts _ k_314) (fun _ h9 => h9) d_Pages_admits_92 ?_
              refine lv_acmp_ne (rx := some (g (i + 1))) (ry := some (g (0 + 1))) (tgt := 111) hx hb d_Pages_admits_95 (by decide) (fun h9 => absurd (by rw [c_3]) h9) (fun _ => ?_)
              refine lv_iload_n hx hb d_Pages_admits_98 rfl (lv_at hl 3 rfl) ?_
              refine lv_bipush (v := 8) hx hb d_Pages_admits_99 rfl ?_
              refine lv_iand hx hb d_Pages_admits_101 ?_
              refine lv_if_eq (tgt := 109) hx hb d_Pages_admits_102 (by decide) (fun c_11 => ?_) (fun c_11 => ?_)
              · refine lv_iconst (v := 0) hx hb d_Pages_admits_109 rfl ?_
                exact rz () hx hb hr hlocks rfl hP hD hS d_Pages_admits_110 ⟨by simp only [sp_Pages_admits, if_pos c_1, if_neg c_2, if_pos c_3, if_neg c_4, if_neg c_5, if_pos c_9, if_pos c_11], Or.inl rfl⟩
              · refine lv_iconst (v := 1) hx hb d_Pages_admits_105 rfl ?_
                refine lv_goto (tgt := 110) hx hb d_Pages_admits_106 (by decide) ?_
                exact rz () hx hb hr hlocks rfl hP hD hS d_Pages_admits_110 ⟨by simp only [sp_Pages_admits, if_pos c_1, if_neg c_2, if_pos c_3, if_neg c_4, if_neg c_5, if_pos c_9, if_neg c_11], Or.inr rfl⟩
            · refine lv_iconst (v := 0) hx hb d_Pages_admits_89 rfl ?_
              exact rz () hx hb hr hlocks rfl hP hD hS d_Pages_admits_90 ⟨by simp only [sp_Pages_admits, if_pos c_1, if_neg c_2, if_pos c_3, if_neg c_4, if_neg c_5, if_neg c_9], Or.inl rfl⟩
        · refine lv_iload hx hb d_Pages_admits_51 (lv_at hl 1 rfl) ?_
          refine lv_if_eq (tgt := 63) hx hb d_Pages_admits_53 (by decide) (fun _ => ?_) (fun h9 => absurd (by decide) h9)
          refine lv_aload_n hx hb d_Pages_admits_63 rfl (lv_at hl 3 rfl) ?_
          refine va_getE (E := R_Access) (nm := nmA) (F := FlA) (ad := fun i => g (i + 1)) (i := i) (q := q_stores) hx hb hF.2.1 hi hS hown (List.mem_of_getElem? (i := 4) rfl) (hts _ k_941) (fun _ h9 => h9) d_Pages_admits_64 ?_
          refine W.eq (g2 := F0 m 67 ls [.int (aF_stores.getD i 0)]) rfl ?_
          refine lv_if_eq (tgt := 76) hx hb d_Pages_admits_67 (by decide) (fun c_13 => ?_) (fun c_13 => ?_)
          · refine lv_bipush (v := 64) hx hb d_Pages_admits_76 rfl ?_
            refine lv_istore (lv' := [(6, .int 64), (5, .int 0), (4, .int 0), (0, .int x0), (1, .ref (g (i + 1))), (2, .int x2), (3, .int x3)]) hx hb d_Pages_admits_78 hl (by decide) rfl (fun ls hl => ?_)
            refine lv_iload_n hx hb d_Pages_admits_80 rfl (lv_at hl 3 rfl) ?_
            refine lv_iload hx hb d_Pages_admits_81 (lv_at hl 0 rfl) ?_
            refine lv_iand hx hb d_Pages_admits_83 ?_
            refine lv_iload hx hb d_Pages_admits_84 (lv_at hl 0 rfl) ?_
            refine lv_icmp_eq (tgt := 91) hx hb d_Pages_admits_86 (by decide) (fun c_14 => ?_) (fun c_14 => ?_)
            · refine lv_aload_n hx hb d_Pages_admits_91 rfl (lv_at hl 4 rfl) ?_
              refine va_gets hx hb (hF.2.1.1 0 (by decide)).1 hS hown (hts _ k_314) (fun _ h9 => h9) d_Pages_admits_92 ?_
              refine lv_acmp_ne (rx := some (g (i + 1))) (ry := some (g (0 + 1))) (tgt := 111) hx hb d_Pages_admits_95 (by decide) (fun h9 => absurd (by rw [c_3]) h9) (fun _ => ?_)
              refine lv_iload_n hx hb d_Pages_admits_98 rfl (lv_at hl 3 rfl) ?_
              refine lv_bipush (v := 8) hx hb d_Pages_admits_99 rfl ?_
              refine lv_iand hx hb d_Pages_admits_101 ?_
              refine lv_if_eq (tgt := 109) hx hb d_Pages_admits_102 (by decide) (fun c_16 => ?_) (fun c_16 => ?_)
              · refine lv_iconst (v := 0) hx hb d_Pages_admits_109 rfl ?_
                exact rz () hx hb hr hlocks rfl hP hD hS d_Pages_admits_110 ⟨by simp only [sp_Pages_admits, if_pos c_1, if_neg c_2, if_pos c_3, if_pos c_4, if_pos c_13, if_pos c_14, if_pos c_16], Or.inl rfl⟩
              · refine lv_iconst (v := 1) hx hb d_Pages_admits_105 rfl ?_
                refine lv_goto (tgt := 110) hx hb d_Pages_admits_106 (by decide) ?_
                exact rz () hx hb hr hlocks rfl hP hD hS d_Pages_admits_110 ⟨by simp only [sp_Pages_admits, if_pos c_1, if_neg c_2, if_pos c_3, if_pos c_4, if_pos c_13, if_pos c_14, if_neg c_16], Or.inr rfl⟩
            · refine lv_iconst (v := 0) hx hb d_Pages_admits_89 rfl ?_
              exact rz () hx hb hr hlocks rfl hP hD hS d_Pages_admits_90 ⟨by simp only [sp_Pages_admits, if_pos c_1, if_neg c_2, if_pos c_3, if_pos c_4, if_pos c_13, if_neg c_14], Or.inl rfl⟩
          · refine lv_sipush (v := 196) hx hb d_Pages_admits_70 rfl ?_
            refine lv_goto (tgt := 78) hx hb d_Pages_admits_73 (by decide) ?_
            refine lv_istore (lv' := [(6, .int 196), (5, .int 0), (4, .int 0), (0, .int x0), (1, .ref (g (i + 1))), (2, .int x2), (3, .int x3)]) hx hb d_Pages_admits_78 hl (by decide) rfl (fun ls hl => ?_)
            refine lv_iload_n hx hb d_Pages_admits_80 rfl (lv_at hl 3 rfl) ?_
            refine lv_iload hx hb d_Pages_admits_81 (lv_at hl 0 rfl) ?_
            refine lv_iand hx hb d_Pages_admits_83 ?_
            refine lv_iload hx hb d_Pages_admits_84 (lv_at hl 0 rfl) ?_
            refine lv_icmp_eq (tgt := 91) hx hb d_Pages_admits_86 (by decide) (fun c_17 => ?_) (fun c_17 => ?_)
            · refine lv_aload_n hx hb d_Pages_admits_91 rfl (lv_at hl 4 rfl) ?_
              refine va_gets hx hb (hF.2.1.1 0 (by decide)).1 hS hown (hts _ k_314) (fun _ h9 => h9) d_Pages_admits_92 ?_
              refine lv_acmp_ne (rx := some (g (i + 1))) (ry := some (g (0 + 1))) (tgt := 111) hx hb d_Pages_admits_95 (by decide) (fun h9 => absurd (by rw [c_3]) h9) (fun _ => ?_)
              refine lv_iload_n hx hb d_Pages_admits_98 rfl (lv_at hl 3 rfl) ?_
              refine lv_bipush (v := 8) hx hb d_Pages_admits_99 rfl ?_
              refine lv_iand hx hb d_Pages_admits_101 ?_
              refine lv_if_eq (tgt := 109) hx hb d_Pages_admits_102 (by decide) (fun c_19 => ?_) (fun c_19 => ?_)
              · refine lv_iconst (v := 0) hx hb d_Pages_admits_109 rfl ?_
                exact rz () hx hb hr hlocks rfl hP hD hS d_Pages_admits_110 ⟨by simp only [sp_Pages_admits, if_pos c_1, if_neg c_2, if_pos c_3, if_pos c_4, if_neg c_13, if_pos c_17, if_pos c_19], Or.inl rfl⟩
              · refine lv_iconst (v := 1) hx hb d_Pages_admits_105 rfl ?_
                refine lv_goto (tgt := 110) hx hb d_Pages_admits_106 (by decide) ?_
                exact rz () hx hb hr hlocks rfl hP hD hS d_Pages_admits_110 ⟨by simp only [sp_Pages_admits, if_pos c_1, if_neg c_2, if_pos c_3, if_pos c_4, if_neg c_13, if_pos c_17, if_neg c_19], Or.inr rfl⟩
            · refine lv_iconst (v := 0) hx hb d_Pages_admits_89 rfl ?_
              exact rz () hx hb hr hlocks rfl hP hD hS d_Pages_admits_90 ⟨by simp only [sp_Pages_admits, if_pos c_1, if_neg c_2, if_pos c_3, if_pos c_4, if_neg c_13, if_neg c_17], Or.inl rfl⟩
      · have c_3 : ¬ i = 0 := fun h9 => b_3 (by rw [h9])
        refine lv_iload_n hx hb d_Pages_admits_32 rfl (lv_at hl 4 rfl) ?_
        refine lv_ldc (v := 262144) hx hb hown (hts _ k_315) d_Pages_admits_33 ?_
        refine lv_iand hx hb d_Pages_admits_35 ?_
        refine lv_if_eq (tgt := 43) hx hb d_Pages_admits_36 (by decide) (fun c_20 => ?_) (fun c_20 => ?_)
        · refine lv_iconst (v := 0) hx hb d_Pages_admits_43 rfl ?_
          refine lv_istore (lv' := [(5, .int 0), (4, .int 0), (0, .int x0), (1, .ref (g (i + 1))), (2, .int x2), (3, .int x3)]) hx hb d_Pages_admits_44 hl (by decide) rfl (fun ls hl => ?_)
          refine lv_iload_n hx hb d_Pages_admits_46 rfl (lv_at hl 4 rfl) ?_
          refine lv_iconst (v := 1) hx hb d_Pages_admits_47 rfl ?_
          refine lv_icmp_ne (tgt := 63) hx hb d_Pages_admits_48 (by decide) (fun c_21 => ?_) (fun c_21 => ?_)
          · refine lv_aload_n hx hb d_Pages_admits_63 rfl (lv_at hl 3 rfl) ?_
            refine va_getE (E := R_Access) (nm := nmA) (F := FlA) (ad := fun i => g (i + 1)) (i := i) (q := q_stores) hx hb hF.2.1 hi hS hown (List.mem_of_getElem? (i := 4) rfl) (hts _ k_941) (fun _ h9 => h9) d_Pages_admits_64 ?_
            refine W.eq (g2 := F0 m 67 ls [.int (aF_stores.getD i 0)]) rfl ?_
            refine lv_if_eq (tgt := 76) hx hb d_Pages_admits_67 (by decide) (fun c_22 => ?_) (fun c_22 => ?_)
            · refine lv_bipush (v := 64) hx hb d_Pages_admits_76 rfl ?_
              refine lv_istore (lv' := [(6, .int 64), (5, .int 0), (4, .int 0), (0, .int x0), (1, .ref (g (i + 1))), (2, .int x2), (3, .int x3)]) hx hb d_Pages_admits_78 hl (by decide) rfl (fun ls hl => ?_)
              refine lv_iload_n hx hb d_Pages_admits_80 rfl (lv_at hl 3 rfl) ?_
              refine lv_iload hx hb d_Pages_admits_81 (lv_at hl 0 rfl) ?_
              refine lv_iand hx hb d_Pages_admits_83 ?_
              refine lv_iload hx hb d_Pages_admits_84 (lv_at hl 0 rfl) ?_
              refine lv_icmp_eq (tgt := 91) hx hb d_Pages_admits_86 (by decide) (fun c_23 => ?_) (fun c_23 => ?_)
              · refine lv_aload_n hx hb d_Pages_admits_91 rfl (lv_at hl 4 rfl) ?_
                refine va_gets hx hb (hF.2.1.1 0 (by decide)).1 hS hown (hts _ k_314) (fun _ h9 => h9) d_Pages_admits_92 ?_
                refine lv_acmp_ne (rx := some (g (i + 1))) (ry := some (g (0 + 1))) (tgt := 111) hx hb d_Pages_admits_95 (by decide) (fun _ => ?_) (fun h9 => absurd (hF.2.1.2 _ _ hi (by decide) (Option.some.inj h9)) c_3)
                refine lv_iload_n hx hb d_Pages_admits_111 rfl (lv_at hl 6 rfl) ?_
                refine lv_ldc (v := 524288) hx hb hown (hts _ k_316) d_Pages_admits_112 ?_
                refine lv_iand hx hb d_Pages_admits_114 ?_
                refine lv_if_eq (tgt := 123) hx hb d_Pages_admits_115 (by decide) (fun c_25 => ?_) (fun c_25 => ?_)
                · refine lv_iconst (v := 2) hx hb d_Pages_admits_123 rfl ?_
                  refine lv_istore (lv' := [(7, .int 2), (6, .int 64), (5, .int 0), (4, .int 0), (0, .int x0), (1, .ref (g (i + 1))), (2, .int x2), (3, .int x3)]) hx hb d_Pages_admits_124 hl (by decide) rfl (fun ls hl => ?_)
                  refine lv_aload_n hx hb d_Pages_admits_126 rfl (lv_at hl 5 rfl) ?_
                  refine va_getE (E := R_Access) (nm := nmA) (F := FlA) (ad := fun i => g (i + 1)) (i := i) (q := q_stores) hx hb hF.2.1 hi hS hown (List.mem_of_getElem? (i := 4) rfl) (hts _ k_941) (fun _ h9 => h9) d_Pages_admits_127 ?_
                  refine W.eq (g2 := F0 m 130 ls [.int (aF_stores.getD i 0)]) rfl ?_
                  refine lv_if_ne (tgt := 140) hx hb d_Pages_admits_130 (by decide) (fun h9 => absurd c_22 h9) (fun _ => ?_)
                  refine lv_iload_n hx hb d_Pages_admits_133 rfl (lv_at hl 4 rfl) ?_
                  refine lv_iload hx hb d_Pages_admits_134 (lv_at hl 0 rfl) ?_
                  refine lv_iand hx hb d_Pages_admits_136 ?_
                  refine lv_if_eq (tgt := 144) hx hb d_Pages_admits_137 (by decide) (fun c_27 => ?_) (fun c_27 => ?_)
                  · refine lv_iconst (v := 0) hx hb d_Pages_admits_144 rfl ?_
                    exact rz () hx hb hr hlocks rfl hP hD hS d_Pages_admits_145 ⟨by simp only [sp_Pages_admits, if_pos c_1, if_neg c_2, if_neg c_3, if_pos c_20, if_neg c_21, if_pos c_22, if_pos c_23, if_pos c_25, if_pos c_27], Or.inl rfl⟩
                  · refine lv_iconst (v := 1) hx hb d_Pages_admits_140 rfl ?_
                    refine lv_goto (tgt := 145) hx hb d_Pages_admits_141 (by decide) ?_
                    exact rz () hx hb hr hlocks rfl hP hD hS d_Pages_admits_145 ⟨by simp only [sp_Pages_admits, if_pos c_1, if_neg c_2, if_neg c_3, if_pos c_20, if_neg c_21, if_pos c_22, if_pos c_23, if_pos c_25, if_neg c_27], Or.inr rfl⟩
                · refine lv_bipush (v := 10) hx hb d_Pages_admits_118 rfl ?_
                  refine lv_goto (tgt := 124) hx hb d_Pages_admits_120 (by decide) ?_
                  refine lv_istore (lv' := [(7, .int 10), (6, .int 64), (5, .int 0), (4, .int 0), (0, .int x0), (1, .ref (g (i + 1))), (2, .int x2), (3, .int x3)]) hx hb d_Pages_admits_124 hl (by decide) rfl (fun ls hl => ?_)
                  refine lv_aload_n hx hb d_Pages_admits_126 rfl (lv_at hl 5 rfl) ?_
                  refine va_getE (E := R_Access) (nm := nmA) (F := FlA) (ad := fun i => g (i + 1)) (i := i) (q := q_stores) hx hb hF.2.1 hi hS hown (List.mem_of_getElem? (i := 4) rfl) (hts _ k_941) (fun _ h9 => h9) d_Pages_admits_127 ?_
                  refine W.eq (g2 := F0 m 130 ls [.int (aF_stores.getD i 0)]) rfl ?_
                  refine lv_if_ne (tgt := 140) hx hb d_Pages_admits_130 (by decide) (fun h9 => absurd c_22 h9) (fun _ => ?_)
                  refine lv_iload_n hx hb d_Pages_admits_133 rfl (lv_at hl 4 rfl) ?_
                  refine lv_iload hx hb d_Pages_admits_134 (lv_at hl 0 rfl) ?_
                  refine lv_iand hx hb d_Pages_admits_136 ?_
                  refine lv_if_eq (tgt := 144) hx hb d_Pages_admits_137 (by decide) (fun c_29 => ?_) (fun c_29 => ?_)
                  · refine lv_iconst (v := 0) hx hb d_Pages_admits_144 rfl ?_
                    exact rz () hx hb hr hlocks rfl hP hD hS d_Pages_admits_145 ⟨by simp only [sp_Pages_admits, if_pos c_1, if_neg c_2, if_neg c_3, if_pos c_20, if_neg c_21, if_pos c_22, if_pos c_23, if_neg c_25, if_pos c_29], Or.inl rfl⟩
                  · refine lv_iconst (v := 1) hx hb d_Pages_admits_140 rfl ?_
                    refine lv_goto (tgt := 145) hx hb d_Pages_admits_141 (by decide) ?_
                    exact rz () hx hb hr hlocks rfl hP hD hS d_Pages_admits_145 ⟨by simp only [sp_Pages_admits, if_pos c_1, if_neg c_2, if_neg c_3, if_pos c_20, if_neg c_21, if_pos c_22, if_pos c_23, if_neg c_25, if_neg c_29], Or.inr rfl⟩
              · refine lv_iconst (v := 0) hx hb d_Pages_admits_89 rfl ?_
                exact rz () hx hb hr hlocks rfl hP hD hS d_Pages_admits_90 ⟨by simp only [sp_Pages_admits, if_pos c_1, if_neg c_2, if_neg c_3, if_pos c_20, if_neg c_21, if_pos c_22, if_neg c_23], Or.inl rfl⟩
            · refine lv_sipush (v := 196) hx hb d_Pages_admits_70 rfl ?_
              refine lv_goto (tgt := 78) hx hb d_Pages_admits_73 (by decide) ?_
              refine lv_istore (lv' := [(6, .int 196), (5, .int 0), (4, .int 0), (0, .int x0), (1, .ref (g (i + 1))), (2, .int x2), (3, .int x3)]) hx hb d_Pages_admits_78 hl (by decide) rfl (fun ls hl => ?_)
              refine lv_iload_n hx hb d_Pages_admits_80 rfl (lv_at hl 3 rfl) ?_
              refine lv_iload hx hb d_Pages_admits_81 (lv_at hl 0 rfl) ?_
              refine lv_iand hx hb d_Pages_admits_83 ?_
              refine lv_iload hx hb d_Pages_admits_84 (lv_at hl 0 rfl) ?_
              refine lv_icmp_eq (tgt := 91) hx hb d_Pages_admits_86 (by decide) (fun c_30 => ?_) (fun c_30 => ?_)
              · refine lv_aload_n hx hb d_Pages_admits_91 rfl (lv_at hl 4 rfl) ?_
                refine va_gets hx hb (hF.2.1.1 0 (by decide)).1 hS hown (hts _ k_314) (fun _ h9 => h9) d_Pages_admits_92 ?_
                refine lv_acmp_ne (rx := some (g (i + 1))) (ry := some (g (0 + 1))) (tgt := 111) hx hb d_Pages_admits_95 (by decide) (fun _ => ?_) (fun h9 => absurd (hF.2.1.2 _ _ hi (by decide) (Option.some.inj h9)) c_3)
                refine lv_iload_n hx hb d_Pages_admits_111 rfl (lv_at hl 6 rfl) ?_
                refine lv_ldc (v := 524288) hx hb hown (hts _ k_316) d_Pages_admits_112 ?_
                refine lv_iand hx hb d_Pages_admits_114 ?_
                refine lv_if_eq (tgt := 123) hx hb d_Pages_admits_115 (by decide) (fun c_32 => ?_) (fun c_32 => ?_)
                · refine lv_iconst (v := 2) hx hb d_Pages_admits_123 rfl ?_
                  refine lv_istore (lv' := [(7, .int 2), (6, .int 196), (5, .int 0), (4, .int 0), (0, .int x0), (1, .ref (g (i + 1))), (2, .int x2), (3, .int x3)]) hx hb d_Pages_admits_124 hl (by decide) rfl (fun ls hl => ?_)
                  refine lv_aload_n hx hb d_Pages_admits_126 rfl (lv_at hl 5 rfl) ?_
                  refine va_getE (E := R_Access) (nm := nmA) (F := FlA) (ad := fun i => g (i + 1)) (i := i) (q := q_stores) hx hb hF.2.1 hi hS hown (List.mem_of_getElem? (i := 4) rfl) (hts _ k_941) (fun _ h9 => h9) d_Pages_admits_127 ?_
                  refine W.eq (g2 := F0 m 130 ls [.int (aF_stores.getD i 0)]) rfl ?_
                  refine lv_if_ne (tgt := 140) hx hb d_Pages_admits_130 (by decide) (fun _ => ?_) (fun h9 => absurd h9 c_22)
                  refine lv_iconst (v := 1) hx hb d_Pages_admits_140 rfl ?_
                  refine lv_goto (tgt := 145) hx hb d_Pages_admits_141 (by decide) ?_
                  exact rz () hx hb hr hlocks rfl hP hD hS d_Pages_admits_145 ⟨by simp only [sp_Pages_admits, if_pos c_1, if_neg c_2, if_neg c_3, if_pos c_20, if_neg c_21, if_neg c_22, if_pos c_30, if_pos c_32], Or.inr rfl⟩
                · refine lv_bipush (v := 10) hx hb d_Pages_admits_118 rfl ?_
                  refine lv_goto (tgt := 124) hx hb d_Pages_admits_120 (by decide) ?_
                  refine lv_istore (lv' := [(7, .int 10), (6, .int 196), (5, .int 0), (4, .int 0), (0, .int x0), (1, .ref (g (i + 1))), (2, .int x2), (3, .int x3)]) hx hb d_Pages_admits_124 hl (by decide) rfl (fun ls hl => ?_)
                  refine lv_aload_n hx hb d_Pages_admits_126 rfl (lv_at hl 5 rfl) ?_
                  refine va_getE (E := R_Access) (nm := nmA) (F := FlA) (ad := fun i => g (i + 1)) (i := i) (q := q_stores) hx hb hF.2.1 hi hS hown (List.mem_of_getElem? (i := 4) rfl) (hts _ k_941) (fun _ h9 => h9) d_Pages_admits_127 ?_
                  refine W.eq (g2 := F0 m 130 ls [.int (aF_stores.getD i 0)]) rfl ?_
                  refine lv_if_ne (tgt := 140) hx hb d_Pages_admits_130 (by decide) (fun _ => ?_) (fun h9 => absurd h9 c_22)
                  refine lv_iconst (v := 1) hx hb d_Pages_admits_140 rfl ?_
                  refine lv_goto (tgt := 145) hx hb d_Pages_admits_141 (by decide) ?_
                  exact rz () hx hb hr hlocks rfl hP hD hS d_Pages_admits_145 ⟨by simp only [sp_Pages_admits, if_pos c_1, if_neg c_2, if_neg c_3, if_pos c_20, if_neg c_21, if_neg c_22, if_pos c_30, if_neg c_32], Or.inr rfl⟩
              · refine lv_iconst (v := 0) hx hb d_Pages_admits_89 rfl ?_
                exact rz () hx hb hr hlocks rfl hP hD hS d_Pages_admits_90 ⟨by simp only [sp_Pages_admits, if_pos c_1, if_neg c_2, if_neg c_3, if_pos c_20, if_neg c_21, if_neg c_22, if_neg c_30], Or.inl rfl⟩
          · refine lv_iload hx hb d_Pages_admits_51 (lv_at hl 1 rfl) ?_
            refine lv_if_eq (tgt := 63) hx hb d_Pages_admits_53 (by decide) (fun _ => ?_) (fun h9 => absurd (by decide) h9)
            refine lv_aload_n hx hb d_Pages_admits_63 rfl (lv_at hl 3 rfl) ?_
            refine va_getE (E := R_Access) (nm := nmA) (F := FlA) (ad := fun i => g (i + 1)) (i := i) (q := q_stores) hx hb hF.2.1 hi hS hown (List.mem_of_getElem? (i := 4) rfl) (hts _ k_941) (fun _ h9 => h9) d_Pages_admits_64 ?_
            refine W.eq (g2 := F0 m 67 ls [.int (aF_stores.getD i 0)]) rfl ?_
            refine lv_if_eq (tgt := 76) hx hb d_Pages_admits_67 (by decide) (fun c_36 => ?_) (fun c_36 => ?_)
            · refine lv_bipush (v := 64) hx hb d_Pages_admits_76 rfl ?_
              refine lv_istore (lv' := [(6, .int 64), (5, .int 0), (4, .int 0), (0, .int x0), (1, .ref (g (i + 1))), (2, .int x2), (3, .int x3)]) hx hb d_Pages_admits_78 hl (by decide) rfl (fun ls hl => ?_)
              refine lv_iload_n hx hb d_Pages_admits_80 rfl (lv_at hl 3 rfl) ?_
              refine lv_iload hx hb d_Pages_admits_81 (lv_at hl 0 rfl) ?_
              refine lv_iand hx hb d_Pages_admits_83 ?_
              refine lv_iload hx hb d_Pages_admits_84 (lv_at hl 0 rfl) ?_
              refine lv_icmp_eq (tgt := 91) hx hb d_Pages_admits_86 (by decide) (fun c_37 => ?_) (fun c_37 => ?_)
              · refine lv_aload_n hx hb d_Pages_admits_91 rfl (lv_at hl 4 rfl) ?_
                refine va_gets hx hb (hF.2.1.1 0 (by decide)).1 hS hown (hts _ k_314) (fun _ h9 => h9) d_Pages_admits_92 ?_
                refine lv_acmp_ne (rx := some (g (i + 1))) (ry := some (g (0 + 1))) (tgt := 111) hx hb d_Pages_admits_95 (by decide) (fun _ => ?_) (fun h9 => absurd (hF.2.1.2 _ _ hi (by decide) (Option.some.inj h9)) c_3)
                refine lv_iload_n hx hb d_Pages_admits_111 rfl (lv_at hl 6 rfl) ?_
                refine lv_ldc (v := 524288) hx hb hown (hts _ k_316) d_Pages_admits_112 ?_
                refine lv_iand hx hb d_Pages_admits_114 ?_
                refine lv_if_eq (tgt := 123) hx hb d_Pages_admits_115 (by decide) (fun c_39 => ?_) (fun c_39 => ?_)
                · refine lv_iconst (v := 2) hx hb d_Pages_admits_123 rfl ?_
                  refine lv_istore (lv' := [(7, .int 2), (6, .int 64), (5, .int 0), (4, .int 0), (0, .int x0), (1, .ref (g (i + 1))), (2, .int x2), (3, .int x3)]) hx hb d_Pages_admits_124 hl (by decide) rfl (fun ls hl => ?_)
                  refine lv_aload_n hx hb d_Pages_admits_126 rfl (lv_at hl 5 rfl) ?_
                  refine va_getE (E := R_Access) (nm := nmA) (F := FlA) (ad := fun i => g (i + 1)) (i := i) (q := q_stores) hx hb hF.2.1 hi hS hown (List.mem_of_getElem? (i := 4) rfl) (hts _ k_941) (fun _ h9 => h9) d_Pages_admits_127 ?_
                  refine W.eq (g2 := F0 m 130 ls [.int (aF_stores.getD i 0)]) rfl ?_
                  refine lv_if_ne (tgt := 140) hx hb d_Pages_admits_130 (by decide) (fun h9 => absurd c_36 h9) (fun _ => ?_)
                  refine lv_iload_n hx hb d_Pages_admits_133 rfl (lv_at hl 4 rfl) ?_
                  refine lv_iload hx hb d_Pages_admits_134 (lv_at hl 0 rfl) ?_
                  refine lv_iand hx hb d_Pages_admits_136 ?_
                  refine lv_if_eq (tgt := 144) hx hb d_Pages_admits_137 (by decide) (fun c_41 => ?_) (fun c_41 => ?_)
                  · refine lv_iconst (v := 0) hx hb d_Pages_admits_144 rfl ?_
                    exact rz () hx hb hr hlocks rfl hP hD hS d_Pages_admits_145 ⟨by simp only [sp_Pages_admits, if_pos c_1, if_neg c_2, if_neg c_3, if_pos c_20, if_pos c_21, if_pos c_36, if_pos c_37, if_pos c_39, if_pos c_41], Or.inl rfl⟩
                  · refine lv_iconst (v := 1) hx hb d_Pages_admits_140 rfl ?_
                    refine lv_goto (tgt := 145) hx hb d_Pages_admits_141 (by decide) ?_
                    exact rz () hx hb hr hlocks rfl hP hD hS d_Pages_admits_145 ⟨by simp only [sp_Pages_admits, if_pos c_1, if_neg c_2, if_neg c_3, if_pos c_20, if_pos c_21, if_pos c_36, if_pos c_37, if_pos c_39, if_neg c_41], Or.inr rfl⟩
                · refine lv_bipush (v := 10) hx hb d_Pages_admits_118 rfl ?_
                  refine lv_goto (tgt := 124) hx hb d_Pages_admits_120 (by decide) ?_
                  refine lv_istore (lv' := [(7, .int 10), (6, .int 64), (5, .int 0), (4, .int 0), (0, .int x0), (1, .ref (g (i + 1))), (2, .int x2), (3, .int x3)]) hx hb d_Pages_admits_124 hl (by decide) rfl (fun ls hl => ?_)
                  refine lv_aload_n hx hb d_Pages_admits_126 rfl (lv_at hl 5 rfl) ?_
                  refine va_getE (E := R_Access) (nm := nmA) (F := FlA) (ad := fun i => g (i + 1)) (i := i) (q := q_stores) hx hb hF.2.1 hi hS hown (List.mem_of_getElem? (i := 4) rfl) (hts _ k_941) (fun _ h9 => h9) d_Pages_admits_127 ?_
                  refine W.eq (g2 := F0 m 130 ls [.int (aF_stores.getD i 0)]) rfl ?_
                  refine lv_if_ne (tgt := 140) hx hb d_Pages_admits_130 (by decide) (fun h9 => absurd c_36 h9) (fun _ => ?_)
                  refine lv_iload_n hx hb d_Pages_admits_133 rfl (lv_at hl 4 rfl) ?_
                  refine lv_iload hx hb d_Pages_admits_134 (lv_at hl 0 rfl) ?_
                  refine lv_iand hx hb d_Pages_admits_136 ?_
                  refine lv_if_eq (tgt := 144) hx hb d_Pages_admits_137 (by decide) (fun c_43 => ?_) (fun c_43 => ?_)
                  · refine lv_iconst (v := 0) hx hb d_Pages_admits_144 rfl ?_
                    exact rz () hx hb hr hlocks rfl hP hD hS d_Pages_admits_145 ⟨by simp only [sp_Pages_admits, if_pos c_1, if_neg c_2, if_neg c_3, if_pos c_20, if_pos c_21, if_pos c_36, if_pos c_37, if_neg c_39, if_pos c_43], Or.inl rfl⟩
                  · refine lv_iconst (v := 1) hx hb d_Pages_admits_140 rfl ?_
                    refine lv_goto (tgt := 145) hx hb d_Pages_admits_141 (by decide) ?_
                    exact rz () hx hb hr hlocks rfl hP hD hS d_Pages_admits_145 ⟨by simp only [sp_Pages_admits, if_pos c_1, if_neg c_2, if_neg c_3, if_pos c_20, if_pos c_21, if_pos c_36, if_pos c_37, if_neg c_39, if_neg c_43], Or.inr rfl⟩
              · refine lv_iconst (v := 0) hx hb d_Pages_admits_89 rfl ?_
                exact rz () hx hb hr hlocks rfl hP hD hS d_Pages_admits_90 ⟨by simp only [sp_Pages_admits, if_pos c_1, if_neg c_2, if_neg c_3, if_pos c_20, if_pos c_21, if_pos c_36, if_neg c_37], Or.inl rfl⟩
            · refine lv_sipush (v := 196) hx hb d_Pages_admits_70 rfl ?_
              refine lv_goto (tgt := 78) hx hb d_Pages_admits_73 (by decide) ?_
              refine lv_istore (lv' := [(6, .int 196), (5, .int 0), (4, .int 0), (0, .int x0), (1, .ref (g (i + 1))), (2, .int x2), (3, .int x3)]) hx hb d_Pages_admits_78 hl (by decide) rfl (fun ls hl => ?_)
              refine lv_iload_n hx hb d_Pages_admits_80 rfl (lv_at hl 3 rfl) ?_
              refine lv_iload hx hb d_Pages_admits_81 (lv_at hl 0 rfl) ?_
              refine lv_iand hx hb d_Pages_admits_83 ?_
              refine lv_iload hx hb d_Pages_admits_84 (lv_at hl 0 rfl) ?_
              refine lv_icmp_eq (tgt := 91) hx hb d_Pages_admits_86 (by decide) (fun c_44 => ?_) (fun c_44 => ?_)
              · refine lv_aload_n hx hb d_Pages_admits_91 rfl (lv_at hl 4 rfl) ?_
                refine va_gets hx hb (hF.2.1.1 0 (by decide)).1 hS hown (hts _ k_314) (fun _ h9 => h9) d_Pages_admits_92 ?_
                refine lv_acmp_ne (rx := some (g (i + 1))) (ry := some (g (0 + 1))) (tgt := 111) hx hb d_Pages_admits_95 (by decide) (fun _ => ?_) (fun h9 => absurd (hF.2.1.2 _ _ hi (by decide) (Option.some.inj h9)) c_3)
                refine lv_iload_n hx hb d_Pages_admits_111 rfl (lv_at hl 6 rfl) ?_
                refine lv_ldc (v := 524288) hx hb hown (hts _ k_316) d_Pages_admits_112 ?_
                refine lv_iand hx hb d_Pages_admits_114 ?_
                refine lv_if_eq (tgt := 123) hx hb d_Pages_admits_115 (by decide) (fun c_46 => ?_) (fun c_46 => ?_)
                · refine lv_iconst (v := 2) hx hb d_Pages_admits_123 rfl ?_
                  refine lv_istore (lv' := [(7, .int 2), (6, .int 196), (5, .int 0), (4, .int 0), (0, .int x0), (1, .ref (g (i + 1))), (2, .int x2), (3, .int x3)]) hx hb d_Pages_admits_124 hl (by decide) rfl (fun ls hl => ?_)
                  refine lv_aload_n hx hb d_Pages_admits_126 rfl (lv_at hl 5 rfl) ?_
                  refine va_getE (E := R_Access) (nm := nmA) (F := FlA) (ad := fun i => g (i + 1)) (i := i) (q := q_stores) hx hb hF.2.1 hi hS hown (List.mem_of_getElem? (i := 4) rfl) (hts _ k_941) (fun _ h9 => h9) d_Pages_admits_127 ?_
                  refine W.eq (g2 := F0 m 130 ls [.int (aF_stores.getD i 0)]) rfl ?_
                  refine lv_if_ne (tgt := 140) hx hb d_Pages_admits_130 (by decide) (fun _ => ?_) (fun h9 => absurd h9 c_36)
                  refine lv_iconst (v := 1) hx hb d_Pages_admits_140 rfl ?_
                  refine lv_goto (tgt := 145) hx hb d_Pages_admits_141 (by decide) ?_
                  exact rz () hx hb hr hlocks rfl hP hD hS d_Pages_admits_145 ⟨by simp only [sp_Pages_admits, if_pos c_1, if_neg c_2, if_neg c_3, if_pos c_20, if_pos c_21, if_neg c_36, if_pos c_44, if_pos c_46], Or.inr rfl⟩
                · refine lv_bipush (v := 10) hx hb d_Pages_admits_118 rfl ?_
                  refine lv_goto (tgt := 124) hx hb d_Pages_admits_120 (by decide) ?_
                  refine lv_istore (lv' := [(7, .int 10), (6, .int 196), (5, .int 0), (4, .int 0), (0, .int x0), (1, .ref (g (i + 1))), (2, .int x2), (3, .int x3)]) hx hb d_Pages_admits_124 hl (by decide) rfl (fun ls hl => ?_)
                  refine lv_aload_n hx hb d_Pages_admits_126 rfl (lv_at hl 5 rfl) ?_
                  refine va_getE (E := R_Access) (nm := nmA) (F := FlA) (ad := fun i => g (i + 1)) (i := i) (q := q_stores) hx hb hF.2.1 hi hS hown (List.mem_of_getElem? (i := 4) rfl) (hts _ k_941) (fun _ h9 => h9) d_Pages_admits_127 ?_
                  refine W.eq (g2 := F0 m 130 ls [.int (aF_stores.getD i 0)]) rfl ?_
                  refine lv_if_ne (tgt := 140) hx hb d_Pages_admits_130 (by decide) (fun _ => ?_) (fun h9 => absurd h9 c_36)
                  refine lv_iconst (v := 1) hx hb d_Pages_admits_140 rfl ?_
                  refine lv_goto (tgt := 145) hx hb d_Pages_admits_141 (by decide) ?_
                  exact rz () hx hb hr hlocks rfl hP hD hS d_Pages_admits_145 ⟨by simp only [sp_Pages_admits, if_pos c_1, if_neg c_2, if_neg c_3, if_pos c_20, if_pos c_21, if_neg c_36, if_pos c_44, if_neg c_46], Or.inr rfl⟩
              · refine lv_iconst (v := 0) hx hb d_Pages_admits_89 rfl ?_
                exact rz () hx hb hr hlocks rfl hP hD hS d_Pages_admits_90 ⟨by simp only [sp_Pages_admits, if_pos c_1, if_neg c_2, if_neg c_3, if_pos c_20, if_pos c_21, if_neg c_36, if_neg c_44], Or.inl rfl⟩
        · refine lv_iconst (v := 1) hx hb d_Pages_admits_39 rfl ?_
          refine lv_goto (tgt := 44) hx hb d_Pages_admits_40 (by decide) ?_
          refine lv_istore (lv' := [(5, .int 1), (4, .int 0), (0, .int x0), (1, .ref (g (i + 1))), (2, .int x2), (3, .int x3)]) hx hb d_Pages_admits_44 hl (by decide) rfl (fun ls hl => ?_)
          refine lv_iload_n hx hb d_Pages_admits_46 rfl (lv_at hl 4 rfl) ?_
          refine lv_iconst (v := 1) hx hb d_Pages_admits_47 rfl ?_
          refine lv_icmp_ne (tgt := 63) hx hb d_Pages_admits_48 (by decide) (fun c_49 => ?_) (fun c_49 => ?_)
          · refine lv_aload_n hx hb d_Pages_admits_63 rfl (lv_at hl 3 rfl) ?_
            refine va_getE (E := R_Access) (nm := nmA) (F := FlA) (ad := fun i => g (i + 1)) (i := i) (q := q_stores) hx hb hF.2.1 hi hS hown (List.mem_of_getElem? (i := 4) rfl) (hts _ k_941) (fun _ h9 => h9) d_Pages_admits_64 ?_
            refine W.eq (g2 := F0 m 67 ls [.int (aF_stores.getD i 0)]) rfl ?_
            refine lv_if_eq (tgt := 76) hx hb d_Pages_admits_67 (by decide) (fun c_50 => ?_) (fun c_50 => ?_)
            · refine lv_bipush (v := 64) hx hb d_Pages_admits_76 rfl ?_
              refine lv_istore (lv' := [(6, .int 64), (5, .int 1), (4, .int 0), (0, .int x0), (1, .ref (g (i + 1))), (2, .int x2), (3, .int x3)]) hx hb d_Pages_admits_78 hl (by decide) rfl (fun ls hl => ?_)
              refine lv_iload_n hx hb d_Pages_admits_80 rfl (lv_at hl 3 rfl) ?_
              refine lv_iload hx hb d_Pages_admits_81 (lv_at hl 0 rfl) ?_
              refine lv_iand hx hb d_Pages_admits_83 ?_
              refine lv_iload hx hb d_Pages_admits_84 (lv_at hl 0 rfl) ?_
              refine lv_icmp_eq (tgt := 91) hx hb d_Pages_admits_86 (by decide) (fun c_51 => ?_) (fun c_51 => ?_)
              · refine lv_aload_n hx hb d_Pages_admits_91 rfl (lv_at hl 4 rfl) ?_
                refine va_gets hx hb (hF.2.1.1 0 (by decide)).1 hS hown (hts _ k_314) (fun _ h9 => h9) d_Pages_admits_92 ?_
                refine lv_acmp_ne (rx := some (g (i + 1))) (ry := some (g (0 + 1))) (tgt := 111) hx hb d_Pages_admits_95 (by decide) (fun _ => ?_) (fun h9 => absurd (hF.2.1.2 _ _ hi (by decide) (Option.some.inj h9)) c_3)
                refine lv_iload_n hx hb d_Pages_admits_111 rfl (lv_at hl 6 rfl) ?_
                refine lv_ldc (v := 524288) hx hb hown (hts _ k_316) d_Pages_admits_112 ?_
                refine lv_iand hx hb d_Pages_admits_114 ?_
                refine lv_if_eq (tgt := 123) hx hb d_Pages_admits_115 (by decide) (fun c_53 => ?_) (fun c_53 => ?_)
                · refine lv_iconst (v := 2) hx hb d_Pages_admits_123 rfl ?_
                  refine lv_istore (lv' := [(7, .int 2), (6, .int 64), (5, .int 1), (4, .int 0), (0, .int x0), (1, .ref (g (i + 1))), (2, .int x2), (3, .int x3)]) hx hb d_Pages_admits_124 hl (by decide) rfl (fun ls hl => ?_)
                  refine lv_aload_n hx hb d_Pages_admits_126 rfl (lv_at hl 5 rfl) ?_
                  refine va_getE (E := R_Access) (nm := nmA) (F := FlA) (ad := fun i => g (i + 1)) (i := i) (q := q_stores) hx hb hF.2.1 hi hS hown (List.mem_of_getElem? (i := 4) rfl) (hts _ k_941) (fun _ h9 => h9) d_Pages_admits_127 ?_
                  refine W.eq (g2 := F0 m 130 ls [.int (aF_stores.getD i 0)]) rfl ?_
                  refine lv_if_ne (tgt := 140) hx hb d_Pages_admits_130 (by decide) (fun h9 => absurd c_50 h9) (fun _ => ?_)
                  refine lv_iload_n hx hb d_Pages_admits_133 rfl (lv_at hl 4 rfl) ?_
                  refine lv_iload hx hb d_Pages_admits_134 (lv_at hl 0 rfl) ?_
                  refine lv_iand hx hb d_Pages_admits_136 ?_
                  refine lv_if_eq (tgt := 144) hx hb d_Pages_admits_137 (by decide) (fun c_55 => ?_) (fun c_55 => ?_)
                  · refine lv_iconst (v := 0) hx hb d_Pages_admits_144 rfl ?_
                    exact rz () hx hb hr hlocks rfl hP hD hS d_Pages_admits_145 ⟨by simp only [sp_Pages_admits, if_pos c_1, if_neg c_2, if_neg c_3, if_neg c_20, if_neg c_49, if_pos c_50, if_pos c_51, if_pos c_53, if_pos c_55], Or.inl rfl⟩
                  · refine lv_iconst (v := 1) hx hb d_Pages_admits_140 rfl ?_
                    refine lv_goto (tgt := 145) hx hb d_Pages_admits_141 (by decide) ?_
                    exact rz () hx hb hr hlocks rfl hP hD hS d_Pages_admits_145 ⟨by simp only [sp_Pages_admits, if_pos c_1, if_neg c_2, if_neg c_3, if_neg c_20, if_neg c_49, if_pos c_50, if_pos c_51, if_pos c_53, if_neg c_55], Or.inr rfl⟩
                · refine lv_bipush (v := 10) hx hb d_Pages_admits_118 rfl ?_
                  refine lv_goto (tgt := 124) hx hb d_Pages_admits_120 (by decide) ?_
                  refine lv_istore (lv' := [(7, .int 10), (6, .int 64), (5, .int 1), (4, .int 0), (0, .int x0), (1, .ref (g (i + 1))), (2, .int x2), (3, .int x3)]) hx hb d_Pages_admits_124 hl (by decide) rfl (fun ls hl => ?_)
                  refine lv_aload_n hx hb d_Pages_admits_126 rfl (lv_at hl 5 rfl) ?_
                  refine va_getE (E := R_Access) (nm := nmA) (F := FlA) (ad := fun i => g (i + 1)) (i := i) (q := q_stores) hx hb hF.2.1 hi hS hown (List.mem_of_getElem? (i := 4) rfl) (hts _ k_941) (fun _ h9 => h9) d_Pages_admits_127 ?_
                  refine W.eq (g2 := F0 m 130 ls [.int (aF_stores.getD i 0)]) rfl ?_
                  refine lv_if_ne (tgt := 140) hx hb d_Pages_admits_130 (by decide) (fun h9 => absurd c_50 h9) (fun _ => ?_)
                  refine lv_iload_n hx hb d_Pages_admits_133 rfl (lv_at hl 4 rfl) ?_
                  refine lv_iload hx hb d_Pages_admits_134 (lv_at hl 0 rfl) ?_
                  refine lv_iand hx hb d_Pages_admits_136 ?_
                  refine lv_if_eq (tgt := 144) hx hb d_Pages_admits_137 (by decide) (fun c_57 => ?_) (fun c_57 => ?_)
                  · refine lv_iconst (v := 0) hx hb d_Pages_admits_144 rfl ?_
                    exact rz () hx hb hr hlocks rfl hP hD hS d_Pages_admits_145 ⟨by simp only [sp_Pages_admits, if_pos c_1, if_neg c_2, if_neg c_3, if_neg c_20, if_neg c_49, if_pos c_50, if_pos c_51, if_neg c_53, if_pos c_57], Or.inl rfl⟩
                  · refine lv_iconst (v := 1) hx hb d_Pages_admits_140 rfl ?_
                    refine lv_goto (tgt := 145) hx hb d_Pages_admits_141 (by decide) ?_
                    exact rz () hx hb hr hlocks rfl hP hD hS d_Pages_admits_145 ⟨by simp only [sp_Pages_admits, if_pos c_1, if_neg c_2, if_neg c_3, if_neg c_20, if_neg c_49, if_pos c_50, if_pos c_51, if_neg c_53, if_neg c_57], Or.inr rfl⟩
              · refine lv_iconst (v := 0) hx hb d_Pages_admits_89 rfl ?_
                exact rz () hx hb hr hlocks rfl hP hD hS d_Pages_admits_90 ⟨by simp only [sp_Pages_admits, if_pos c_1, if_neg c_2, if_neg c_3, if_neg c_20, if_neg c_49, if_pos c_50, if_neg c_51], Or.inl rfl⟩
            · refine lv_sipush (v := 196) hx hb d_Pages_admits_70 rfl ?_
              refine lv_goto (tgt := 78) hx hb d_Pages_admits_73 (by decide) ?_
              refine lv_istore (lv' := [(6, .int 196), (5, .int 1), (4, .int 0), (0, .int x0), (1, .ref (g (i + 1))), (2, .int x2), (3, .int x3)]) hx hb d_Pages_admits_78 hl (by decide) rfl (fun ls hl => ?_)
              refine lv_iload_n hx hb d_Pages_admits_80 rfl (lv_at hl 3 rfl) ?_
              refine lv_iload hx hb d_Pages_admits_81 (lv_at hl 0 rfl) ?_
              refine lv_iand hx hb d_Pages_admits_83 ?_
              refine lv_iload hx hb d_Pages_admits_84 (lv_at hl 0 rfl) ?_
              refine lv_icmp_eq (tgt := 91) hx hb d_Pages_admits_86 (by decide) (fun c_58 => ?_) (fun c_58 => ?_)
              · refine lv_aload_n hx hb d_Pages_admits_91 rfl (lv_at hl 4 rfl) ?_
                refine va_gets hx hb (hF.2.1.1 0 (by decide)).1 hS hown (hts _ k_314) (fun _ h9 => h9) d_Pages_admits_92 ?_
                refine lv_acmp_ne (rx := some (g (i + 1))) (ry := some (g (0 + 1))) (tgt := 111) hx hb d_Pages_admits_95 (by decide) (fun _ => ?_) (fun h9 => absurd (hF.2.1.2 _ _ hi (by decide) (Option.some.inj h9)) c_3)
                refine lv_iload_n hx hb d_Pages_admits_111 rfl (lv_at hl 6 rfl) ?_
                refine lv_ldc (v := 524288) hx hb hown (hts _ k_316) d_Pages_admits_112 ?_
                refine lv_iand hx hb d_Pages_admits_114 ?_
                refine lv_if_eq (tgt := 123) hx hb d_Pages_admits_115 (by decide) (fun c_60 => ?_) (fun c_60 => ?_)
                · refine lv_iconst (v := 2) hx hb d_Pages_admits_123 rfl ?_
                  refine lv_istore (lv' := [(7, .int 2), (6, .int 196), (5, .int 1), (4, .int 0), (0, .int x0), (1, .ref (g (i + 1))), (2, .int x2), (3, .int x3)]) hx hb d_Pages_admits_124 hl (by decide) rfl (fun ls hl => ?_)
                  refine lv_aload_n hx hb d_Pages_admits_126 rfl (lv_at hl 5 rfl) ?_
                  refine va_getE (E := R_Access) (nm := nmA) (F := FlA) (ad := fun i => g (i + 1)) (i := i) (q := q_stores) hx hb hF.2.1 hi hS hown (List.mem_of_getElem? (i := 4) rfl) (hts _ k_941) (fun _ h9 => h9) d_Pages_admits_127 ?_
                  refine W.eq (g2 := F0 m 130 ls [.int (aF_stores.getD i 0)]) rfl ?_
                  refine lv_if_ne (tgt := 140) hx hb d_Pages_admits_130 (by decide) (fun _ => ?_) (fun h9 => absurd h9 c_50)
                  refine lv_iconst (v := 1) hx hb d_Pages_admits_140 rfl ?_
                  refine lv_goto (tgt := 145) hx hb d_Pages_admits_141 (by decide) ?_
                  exact rz () hx hb hr hlocks rfl hP hD hS d_Pages_admits_145 ⟨by simp only [sp_Pages_admits, if_pos c_1, if_neg c_2, if_neg c_3, if_neg c_20, if_neg c_49, if_neg c_50, if_pos c_58, if_pos c_60], Or.inr rfl⟩
                · refine lv_bipush (v := 10) hx hb d_Pages_admits_118 rfl ?_
                  refine lv_goto (tgt := 124) hx hb d_Pages_admits_120 (by decide) ?_
                  refine lv_istore (lv' := [(7, .int 10), (6, .int 196), (5, .int 1), (4, .int 0), (0, .int x0), (1, .ref (g (i + 1))), (2, .int x2), (3, .int x3)]) hx hb d_Pages_admits_124 hl (by decide) rfl (fun ls hl => ?_)
                  refine lv_aload_n hx hb d_Pages_admits_126 rfl (lv_at hl 5 rfl) ?_
                  refine va_getE (E := R_Access) (nm := nmA) (F := FlA) (ad := fun i => g (i + 1)) (i := i) (q := q_stores) hx hb hF.2.1 hi hS hown (List.mem_of_getElem? (i := 4) rfl) (hts _ k_941) (fun _ h9 => h9) d_Pages_admits_127 ?_
                  refine W.eq (g2 := F0 m 130 ls [.int (aF_stores.getD i 0)]) rfl ?_
                  refine lv_if_ne (tgt := 140) hx hb d_Pages_admits_130 (by decide) (fun _ => ?_) (fun h9 => absurd h9 c_50)
                  refine lv_iconst (v := 1) hx hb d_Pages_admits_140 rfl ?_
                  refine lv_goto (tgt := 145) hx hb d_Pages_admits_141 (by decide) ?_
                  exact rz () hx hb hr hlocks rfl hP hD hS d_Pages_admits_145 ⟨by simp only [sp_Pages_admits, if_pos c_1, if_neg c_2, if_neg c_3, if_neg c_20, if_neg c_49, if_neg c_50, if_pos c_58, if_neg c_60], Or.inr rfl⟩
              · refine lv_iconst (v := 0) hx hb d_Pages_admits_89 rfl ?_
                exact rz () hx hb hr hlocks rfl hP hD hS d_Pages_admits_90 ⟨by simp only [sp_Pages_admits, if_pos c_1, if_neg c_2, if_neg c_3, if_neg c_20, if_neg c_49, if_neg c_50, if_neg c_58], Or.inl rfl⟩
          · refine lv_iload hx hb d_Pages_admits_51 (lv_at hl 1 rfl) ?_
            refine lv_if_eq (tgt := 63) hx hb d_Pages_admits_53 (by decide) (fun _ => ?_) (fun h9 => absurd (by decide) h9)
            refine lv_aload_n hx hb d_Pages_admits_63 rfl (lv_at hl 3 rfl) ?_
            refine va_getE (E := R_Access) (nm := nmA) (F := FlA) (ad := fun i => g (i + 1)) (i := i) (q := q_stores) hx hb hF.2.1 hi hS hown (List.mem_of_getElem? (i := 4) rfl) (hts _ k_941) (fun _ h9 => h9) d_Pages_admits_64 ?_
            refine W.eq (g2 := F0 m 67 ls [.int (aF_stores.getD i 0)]) rfl ?_
            refine lv_if_eq (tgt := 76) hx hb d_Pages_admits_67 (by decide) (fun c_64 => ?_) (fun c_64 => ?_)
            · refine lv_bipush (v := 64) hx hb d_Pages_admits_76 rfl ?_
              refine lv_istore (lv' := [(6, .int 64), (5, .int 1), (4, .int 0), (0, .int x0), (1, .ref (g (i + 1))), (2, .int x2), (3, .int x3)]) hx hb d_Pages_admits_78 hl (by decide) rfl (fun ls hl => ?_)
              refine lv_iload_n hx hb d_Pages_admits_80 rfl (lv_at hl 3 rfl) ?_
              refine lv_iload hx hb d_Pages_admits_81 (lv_at hl 0 rfl) ?_
              refine lv_iand hx hb d_Pages_admits_83 ?_
              refine lv_iload hx hb d_Pages_admits_84 (lv_at hl 0 rfl) ?_
              refine lv_icmp_eq (tgt := 91) hx hb d_Pages_admits_86 (by decide) (fun c_65 => ?_) (fun c_65 => ?_)
              · refine lv_aload_n hx hb d_Pages_admits_91 rfl (lv_at hl 4 rfl) ?_
                refine va_gets hx hb (hF.2.1.1 0 (by decide)).1 hS hown (hts _ k_314) (fun _ h9 => h9) d_Pages_admits_92 ?_
                refine lv_acmp_ne (rx := some (g (i + 1))) (ry := some (g (0 + 1))) (tgt := 111) hx hb d_Pages_admits_95 (by decide) (fun _ => ?_) (fun h9 => absurd (hF.2.1.2 _ _ hi (by decide) (Option.some.inj h9)) c_3)
                refine lv_iload_n hx hb d_Pages_admits_111 rfl (lv_at hl 6 rfl) ?_
                refine lv_ldc (v := 524288) hx hb hown (hts _ k_316) d_Pages_admits_112 ?_
                refine lv_iand hx hb d_Pages_admits_114 ?_
                refine lv_if_eq (tgt := 123) hx hb d_Pages_admits_115 (by decide) (fun c_67 => ?_) (fun c_67 => ?_)
                · refine lv_iconst (v := 2) hx hb d_Pages_admits_123 rfl ?_
                  refine lv_istore (lv' := [(7, .int 2), (6, .int 64), (5, .int 1), (4, .int 0), (0, .int x0), (1, .ref (g (i + 1))), (2, .int x2), (3, .int x3)]) hx hb d_Pages_admits_124 hl (by decide) rfl (fun ls hl => ?_)
                  refine lv_aload_n hx hb d_Pages_admits_126 rfl (lv_at hl 5 rfl) ?_
                  refine va_getE (E := R_Access) (nm := nmA) (F := FlA) (ad := fun i => g (i + 1)) (i := i) (q := q_stores) hx hb hF.2.1 hi hS hown (List.mem_of_getElem? (i := 4) rfl) (hts _ k_941) (fun _ h9 => h9) d_Pages_admits_127 ?_
                  refine W.eq (g2 := F0 m 130 ls [.int (aF_stores.getD i 0)]) rfl ?_
                  refine lv_if_ne (tgt := 140) hx hb d_Pages_admits_130 (by decide) (fun h9 => absurd c_64 h9) (fun _ => ?_)
                  refine lv_iload_n hx hb d_Pages_admits_133 rfl (lv_at hl 4 rfl) ?_
                  refine lv_iload hx hb d_Pages_admits_134 (lv_at hl 0 rfl) ?_
                  refine lv_iand hx hb d_Pages_admits_136 ?_
                  refine lv_if_eq (tgt := 144) hx hb d_Pages_admits_137 (by decide) (fun c_69 => ?_) (fun c_69 => ?_)
                  · refine lv_iconst (v := 0) hx hb d_Pages_admits_144 rfl ?_
                    exact rz () hx hb hr hlocks rfl hP hD hS d_Pages_admits_145 ⟨by simp only [sp_Pages_admits, if_pos c_1, if_neg c_2, if_neg c_3, if_neg c_20, if_pos c_49, if_pos c_64, if_pos c_65, if_pos c_67, if_pos c_69], Or.inl rfl⟩
                  · refine lv_iconst (v := 1) hx hb d_Pages_admits_140 rfl ?_
                    refine lv_goto (tgt := 145) hx hb d_Pages_admits_141 (by decide) ?_
                    exact rz () hx hb hr hlocks rfl hP hD hS d_Pages_admits_145 ⟨by simp only [sp_Pages_admits, if_pos c_1, if_neg c_2, if_neg c_3, if_neg c_20, if_pos c_49, if_pos c_64, if_pos c_65, if_pos c_67, if_neg c_69], Or.inr rfl⟩
                · refine lv_bipush (v := 10) hx hb d_Pages_admits_118 rfl ?_
                  refine lv_goto (tgt := 124) hx hb d_Pages_admits_120 (by decide) ?_
                  refine lv_istore (lv' := [(7, .int 10), (6, .int 64), (5, .int 1), (4, .int 0), (0, .int x0), (1, .ref (g (i + 1))), (2, .int x2), (3, .int x3)]) hx hb d_Pages_admits_124 hl (by decide) rfl (fun ls hl => ?_)
                  refine lv_aload_n hx hb d_Pages_admits_126 rfl (lv_at hl 5 rfl) ?_
                  refine va_getE (E := R_Access) (nm := nmA) (F := FlA) (ad := fun i => g (i + 1)) (i := i) (q := q_stores) hx hb hF.2.1 hi hS hown (List.mem_of_getElem? (i := 4) rfl) (hts _ k_941) (fun _ h9 => h9) d_Pages_admits_127 ?_
                  refine W.eq (g2 := F0 m 130 ls [.int (aF_stores.getD i 0)]) rfl ?_
                  refine lv_if_ne (tgt := 140) hx hb d_Pages_admits_130 (by decide) (fun h9 => absurd c_64 h9) (fun _ => ?_)
                  refine lv_iload_n hx hb d_Pages_admits_133 rfl (lv_at hl 4 rfl) ?_
                  refine lv_iload hx hb d_Pages_admits_134 (lv_at hl 0 rfl) ?_
                  refine lv_iand hx hb d_Pages_admits_136 ?_
                  refine lv_if_eq (tgt := 144) hx hb d_Pages_admits_137 (by decide) (fun c_71 => ?_) (fun c_71 => ?_)
                  · refine lv_iconst (v := 0) hx hb d_Pages_admits_144 rfl ?_
                    exact rz () hx hb hr hlocks rfl hP hD hS d_Pages_admits_145 ⟨by simp only [sp_Pages_admits, if_pos c_1, if_neg c_2, if_neg c_3, if_neg c_20, if_pos c_49, if_pos c_64, if_pos c_65, if_neg c_67, if_pos c_71], Or.inl rfl⟩
                  · refine lv_iconst (v := 1) hx hb d_Pages_admits_140 rfl ?_
                    refine lv_goto (tgt := 145) hx hb d_Pages_admits_141 (by decide) ?_
                    exact rz () hx hb hr hlocks rfl hP hD hS d_Pages_admits_145 ⟨by simp only [sp_Pages_admits, if_pos c_1, if_neg c_2, if_neg c_3, if_neg c_20, if_pos c_49, if_pos c_64, if_pos c_65, if_neg c_67, if_neg c_71], Or.inr rfl⟩
              · refine lv_iconst (v := 0) hx hb d_Pages_admits_89 rfl ?_
                exact rz () hx hb hr hlocks rfl hP hD hS d_Pages_admits_90 ⟨by simp only [sp_Pages_admits, if_pos c_1, if_neg c_2, if_neg c_3, if_neg c_20, if_pos c_49, if_pos c_64, if_neg c_65], Or.inl rfl⟩
            · refine lv_sipush (v := 196) hx hb d_Pages_admits_70 rfl ?_
              refine lv_goto (tgt := 78) hx hb d_Pages_admits_73 (by decide) ?_
              refine lv_istore (lv' := [(6, .int 196), (5, .int 1), (4, .int 0), (0, .int x0), (1, .ref (g (i + 1))), (2, .int x2), (3, .int x3)]) hx hb d_Pages_admits_78 hl (by decide) rfl (fun ls hl => ?_)
              refine lv_iload_n hx hb d_Pages_admits_80 rfl (lv_at hl 3 rfl) ?_
              refine lv_iload hx hb d_Pages_admits_81 (lv_at hl 0 rfl) ?_
              refine lv_iand hx hb d_Pages_admits_83 ?_
              refine lv_iload hx hb d_Pages_admits_84 (lv_at hl 0 rfl) ?_
              refine lv_icmp_eq (tgt := 91) hx hb d_Pages_admits_86 (by decide) (fun c_72 => ?_) (fun c_72 => ?_)
              · refine lv_aload_n hx hb d_Pages_admits_91 rfl (lv_at hl 4 rfl) ?_
                refine va_gets hx hb (hF.2.1.1 0 (by decide)).1 hS hown (hts _ k_314) (fun _ h9 => h9) d_Pages_admits_92 ?_
                refine lv_acmp_ne (rx := some (g (i + 1))) (ry := some (g (0 + 1))) (tgt := 111) hx hb d_Pages_admits_95 (by decide) (fun _ => ?_) (fun h9 => absurd (hF.2.1.2 _ _ hi (by decide) (Option.some.inj h9)) c_3)
                refine lv_iload_n hx hb d_Pages_admits_111 rfl (lv_at hl 6 rfl) ?_
                refine lv_ldc (v := 524288) hx hb hown (hts _ k_316) d_Pages_admits_112 ?_
                refine lv_iand hx hb d_Pages_admits_114 ?_
                refine lv_if_eq (tgt := 123) hx hb d_Pages_admits_115 (by decide) (fun c_74 => ?_) (fun c_74 => ?_)
                · refine lv_iconst (v := 2) hx hb d_Pages_admits_123 rfl ?_
                  refine lv_istore (lv' := [(7, .int 2), (6, .int 196), (5, .int 1), (4, .int 0), (0, .int x0), (1, .ref (g (i + 1))), (2, .int x2), (3, .int x3)]) hx hb d_Pages_admits_124 hl (by decide) rfl (fun ls hl => ?_)
                  refine lv_aload_n hx hb d_Pages_admits_126 rfl (lv_at hl 5 rfl) ?_
                  refine va_getE (E := R_Access) (nm := nmA) (F := FlA) (ad := fun i => g (i + 1)) (i := i) (q := q_stores) hx hb hF.2.1 hi hS hown (List.mem_of_getElem? (i := 4) rfl) (hts _ k_941) (fun _ h9 => h9) d_Pages_admits_127 ?_
                  refine W.eq (g2 := F0 m 130 ls [.int (aF_stores.getD i 0)]) rfl ?_
                  refine lv_if_ne (tgt := 140) hx hb d_Pages_admits_130 (by decide) (fun _ => ?_) (fun h9 => absurd h9 c_64)
                  refine lv_iconst (v := 1) hx hb d_Pages_admits_140 rfl ?_
                  refine lv_goto (tgt := 145) hx hb d_Pages_admits_141 (by decide) ?_
                  exact rz () hx hb hr hlocks rfl hP hD hS d_Pages_admits_145 ⟨by simp only [sp_Pages_admits, if_pos c_1, if_neg c_2, if_neg c_3, if_neg c_20, if_pos c_49, if_neg c_64, if_pos c_72, if_pos c_74], Or.inr rfl⟩
                · refine lv_bipush (v := 10) hx hb d_Pages_admits_118 rfl ?_
                  refine lv_goto (tgt := 124) hx hb d_Pages_admits_120 (by decide) ?_
                  refine lv_istore (lv' := [(7, .int 10), (6, .int 196), (5, .int 1), (4, .int 0), (0, .int x0), (1, .ref (g (i + 1))), (2, .int x2), (3, .int x3)]) hx hb d_Pages_admits_124 hl (by decide) rfl (fun ls hl => ?_)
                  refine lv_aload_n hx hb d_Pages_admits_126 rfl (lv_at hl 5 rfl) ?_
                  refine va_getE (E := R_Access) (nm := nmA) (F := FlA) (ad := fun i => g (i + 1)) (i := i) (q := q_stores) hx hb hF.2.1 hi hS hown (List.mem_of_getElem? (i := 4) rfl) (hts _ k_941) (fun _ h9 => h9) d_Pages_admits_127 ?_
                  refine W.eq (g2 := F0 m 130 ls [.int (aF_stores.getD i 0)]) rfl ?_
                  refine lv_if_ne (tgt := 140) hx hb d_Pages_admits_130 (by decide) (fun _ => ?_) (fun h9 => absurd h9 c_64)
                  refine lv_iconst (v := 1) hx hb d_Pages_admits_140 rfl ?_
                  refine lv_goto (tgt := 145) hx hb d_Pages_admits_141 (by decide) ?_
                  exact rz () hx hb hr hlocks rfl hP hD hS d_Pages_admits_145 ⟨by simp only [sp_Pages_admits, if_pos c_1, if_neg c_2, if_neg c_3, if_neg c_20, if_pos c_49, if_neg c_64, if_pos c_72, if_neg c_74], Or.inr rfl⟩
              · refine lv_iconst (v := 0) hx hb d_Pages_admits_89 rfl ?_
                exact rz () hx hb hr hlocks rfl hP hD hS d_Pages_admits_90 ⟨by simp only [sp_Pages_admits, if_pos c_1, if_neg c_2, if_neg c_3, if_neg c_20, if_pos c_49, if_neg c_64, if_neg c_72], Or.inl rfl⟩
    · refine lv_iload hx hb d_Pages_admits_18 (lv_at hl 0 rfl) ?_
      refine lv_if_ne (tgt := 25) hx hb d_Pages_admits_20 (by decide) (fun h9 => absurd (by decide) h9) (fun _ => ?_)
      refine lv_iconst (v := 0) hx hb d_Pages_admits_23 rfl ?_
      exact rz () hx hb hr hlocks rfl hP hD hS d_Pages_admits_24 ⟨by simp only [sp_Pages_admits, if_pos c_1, if_pos c_2], Or.inl rfl⟩
  · refine lv_iconst (v := 1) hx hb d_Pages_admits_7 rfl ?_
    refine lv_goto (tgt := 12) hx hb d_Pages_admits_8 (by decide) ?_
    refine lv_istore (lv' := [(4, .int 1), (0, .int x0), (1, .ref (g (i + 1))), (2, .int x2), (3, .int x3)]) hx hb d_Pages_admits_12 hl (by decide) rfl (fun ls hl => ?_)
    refine lv_iload_n hx hb d_Pages_admits_14 rfl (lv_at hl 3 rfl) ?_
    refine lv_if_ne (tgt := 25) hx hb d_Pages_admits_15 (by decide) (fun c_78 => ?_) (fun c_78 => ?_)
    · refine lv_aload_n hx hb d_Pages_admits_25 rfl (lv_at hl 2 rfl) ?_
      refine va_gets hx hb (hF.2.1.1 0 (by decide)).1 hS hown (hts _ k_314) (fun _ h9 => h9) d_Pages_admits_26 ?_
      refine lv_acmp_eq (rx := some (g (i + 1))) (ry := some (g (0 + 1))) (tgt := 43) hx hb d_Pages_admits_29 (by decide) (fun b_79 => ?_) (fun b_79 => ?_)
      · have c_79 : i = 0 := hF.2.1.2 _ _ hi (by decide) (Option.some.inj b_79)
        refine lv_iconst (v := 0) hx hb d_Pages_admits_43 rfl ?_
        refine lv_istore (lv' := [(5, .int 0), (4, .int 1), (0, .int x0), (1, .ref (g (i + 1))), (2, .int x2), (3, .int x3)]) hx hb d_Pages_admits_44 hl (by decide) rfl (fun ls hl => ?_)
        refine lv_iload_n hx hb d_Pages_admits_46 rfl (lv_at hl 4 rfl) ?_
        refine lv_iconst (v := 1) hx hb d_Pages_admits_47 rfl ?_
        refine lv_icmp_ne (tgt := 63) hx hb d_Pages_admits_48 (by decide) (fun c_80 => ?_) (fun c_80 => ?_)
        · refine lv_aload_n hx hb d_Pages_admits_63 rfl (lv_at hl 3 rfl) ?_
          refine va_getE (E := R_Access) (nm := nmA) (F := FlA) (ad := fun i => g (i + 1)) (i := i) (q := q_stores) hx hb hF.2.1 hi hS hown (List.mem_of_getElem? (i := 4) rfl) (hts _ k_941) (fun _ h9 => h9) d_Pages_admits_64 ?_
          refine W.eq (g2 := F0 m 67 ls [.int (aF_stores.getD i 0)]) rfl ?_
          refine lv_if_eq (tgt := 76) hx hb d_Pages_admits_67 (by decide) (fun c_81 => ?_) (fun c_81 => ?_)
          · refine lv_bipush (v := 64) hx hb d_Pages_admits_76 rfl ?_
            refine lv_istore (lv' := [(6, .int 64), (5, .int 0), (4, .int 1), (0, .int x0), (1, .ref (g (i + 1))), (2, .int x2), (3, .int x3)]) hx hb d_Pages_admits_78 hl (by decide) rfl (fun ls hl => ?_)
            refine lv_iload_n hx hb d_Pages_admits_80 rfl (lv_at hl 3 rfl) ?_
            refine lv_iload hx hb d_Pages_admits_81 (lv_at hl 0 rfl) ?_
            refine lv_iand hx hb d_Pages_admits_83 ?_
            refine lv_iload hx hb d_Pages_admits_84 (lv_at hl 0 rfl) ?_
            refine lv_icmp_eq (tgt := 91) hx hb d_Pages_admits_86 (by decide) (fun c_82 => ?_) (fun c_82 => ?_)
            · refine lv_aload_n hx hb d_Pages_admits_91 rfl (lv_at hl 4 rfl) ?_
              refine va_gets hx hb (hF.2.1.1 0 (by decide)).1 hS hown (hts _ k_314) (fun _ h9 => h9) d_Pages_admits_92 ?_
              refine lv_acmp_ne (rx := some (g (i + 1))) (ry := some (g (0 + 1))) (tgt := 111) hx hb d_Pages_admits_95 (by decide) (fun h9 => absurd (by rw [c_79]) h9) (fun _ => ?_)
              refine lv_iload_n hx hb d_Pages_admits_98 rfl (lv_at hl 3 rfl) ?_
              refine lv_bipush (v := 8) hx hb d_Pages_admits_99 rfl ?_
              refine lv_iand hx hb d_Pages_admits_101 ?_
              refine lv_if_eq (tgt := 109) hx hb d_Pages_admits_102 (by decide) (fun c_84 => ?_) (fun c_84 => ?_)
              · refine lv_iconst (v := 0) hx hb d_Pages_admits_109 rfl ?_
                exact rz () hx hb hr hlocks rfl hP hD hS d_Pages_admits_110 ⟨by simp only [sp_Pages_admits, if_neg c_1, if_neg c_78, if_pos c_79, if_neg c_80, if_pos c_81, if_pos c_82, if_pos c_84], Or.inl rfl⟩
              · refine lv_iconst (v := 1) hx hb d_Pages_admits_105 rfl ?_
                refine lv_goto (tgt := 110) hx hb d_Pages_admits_106 (by decide) ?_
                exact rz () hx hb hr hlocks rfl hP hD hS d_Pages_admits_110 ⟨by simp only [sp_Pages_admits, if_neg c_1, if_neg c_78, if_pos c_79, if_neg c_80, if_pos c_81, if_pos c_82, if_neg c_84], Or.inr rfl⟩
            · refine lv_iconst (v := 0) hx hb d_Pages_admits_89 rfl ?_
              exact rz () hx hb hr hlocks rfl hP hD hS d_Pages_admits_90 ⟨by simp only [sp_Pages_admits, if_neg c_1, if_neg c_78, if_pos c_79, if_neg c_80, if_pos c_81, if_neg c_82], Or.inl rfl⟩
          · refine lv_sipush (v := 196) hx hb d_Pages_admits_70 rfl ?_
            refine lv_goto (tgt := 78) hx hb d_Pages_admits_73 (by decide) ?_
            refine lv_istore (lv' := [(6, .int 196), (5, .int 0), (4, .int 1), (0, .int x0), (1, .ref (g (i + 1))), (2, .int x2), (3, .int x3)]) hx hb d_Pages_admits_78 hl (by decide) rfl (fun ls hl => ?_)
            refine lv_iload_n hx hb d_Pages_admits_80 rfl (lv_at hl 3 rfl) ?_
            refine lv_iload hx hb d_Pages_admits_81 (lv_at hl 0 rfl) ?_
            refine lv_iand hx hb d_Pages_admits_83 ?_
            refine lv_iload hx hb d_Pages_admits_84 (lv_at hl 0 rfl) ?_
            refine lv_icmp_eq (tgt := 91) hx hb d_Pages_admits_86 (by decide) (fun c_85 => ?_) (fun c_85 => ?_)
            · refine lv_aload_n hx hb d_Pages_admits_91 rfl (lv_at hl 4 rfl) ?_
              refine va_gets hx hb (hF.2.1.1 0 (by decide)).1 hS hown (hts _ k_314) (fun _ h9 => h9) d_Pages_admits_92 ?_
              refine lv_acmp_ne (rx := some (g (i + 1))) (ry := some (g (0 + 1))) (tgt := 111) hx hb d_Pages_admits_95 (by decide) (fun h9 => absurd (by rw [c_79]) h9) (fun _ => ?_)
              refine lv_iload_n hx hb d_Pages_admits_98 rfl (lv_at hl 3 rfl) ?_
              refine lv_bipush (v := 8) hx hb d_Pages_admits_99 rfl ?_
              refine lv_iand hx hb d_Pages_admits_101 ?_
              refine lv_if_eq (tgt := 109) hx hb d_Pages_admits_102 (by decide) (fun c_87 => ?_) (fun c_87 => ?_)
              · refine lv_iconst (v := 0) hx hb d_Pages_admits_109 rfl ?_
                exact rz () hx hb hr hlocks rfl hP hD hS d_Pages_admits_110 ⟨by simp only [sp_Pages_admits, if_neg c_1, if_neg c_78, if_pos c_79, if_neg c_80, if_neg c_81, if_pos c_85, if_pos c_87], Or.inl rfl⟩
              · refine lv_iconst (v := 1) hx hb d_Pages_admits_105 rfl ?_
                refine lv_goto (tgt := 110) hx hb d_Pages_admits_106 (by decide) ?_
                exact rz () hx hb hr hlocks rfl hP hD hS d_Pages_admits_110 ⟨by simp only [sp_Pages_admits, if_neg c_1, if_neg c_78, if_pos c_79, if_neg c_80, if_neg c_81, if_pos c_85, if_neg c_87], Or.inr rfl⟩
            · refine lv_iconst (v := 0) hx hb d_Pages_admits_89 rfl ?_
              exact rz () hx hb hr hlocks rfl hP hD hS d_Pages_admits_90 ⟨by simp only [sp_Pages_admits, if_neg c_1, if_neg c_78, if_pos c_79, if_neg c_80, if_neg c_81, if_neg c_85], Or.inl rfl⟩
        · refine lv_iload hx hb d_Pages_admits_51 (lv_at hl 1 rfl) ?_
          refine lv_if_eq (tgt := 63) hx hb d_Pages_admits_53 (by decide) (fun h9 => absurd h9 (by decide)) (fun _ => ?_)
          refine lv_iload hx hb d_Pages_admits_56 (lv_at hl 0 rfl) ?_
          refine lv_if_ne (tgt := 63) hx hb d_Pages_admits_58 (by decide) (fun h9 => absurd (by decide) h9) (fun _ => ?_)
          refine lv_iconst (v := 0) hx hb d_Pages_admits_61 rfl ?_
          exact rz () hx hb hr hlocks rfl hP hD hS d_Pages_admits_62 ⟨by simp only [sp_Pages_admits, if_neg c_1, if_neg c_78, if_pos c_79, if_pos c_80], Or.inl rfl⟩
      · have c_79 : ¬ i = 0 := fun h9 => b_79 (by rw [h9])
        refine lv_iload_n hx hb d_Pages_admits_32 rfl (lv_at hl 4 rfl) ?_
        refine lv_ldc (v := 262144) hx hb hown (hts _ k_315) d_Pages_admits_33 ?_
        refine lv_iand hx hb d_Pages_admits_35 ?_
        refine lv_if_eq (tgt := 43) hx hb d_Pages_admits_36 (by decide) (fun c_90 => ?_) (fun c_90 => ?_)
        · refine lv_iconst (v := 0) hx hb d_Pages_admits_43 rfl ?_
          refine lv_istore (lv' := [(5, .int 0), (4, .int 1), (0, .int x0), (1, .ref (g (i + 1))), (2, .int x2), (3, .int x3)]) hx hb d_Pages_admits_44 hl (by decide) rfl (fun ls hl => ?_)
          refine lv_iload_n hx hb d_Pages_admits_46 rfl (lv_at hl 4 rfl) ?_
          refine lv_iconst (v := 1) hx hb d_Pages_admits_47 rfl ?_
          refine lv_icmp_ne (tgt := 63) hx hb d_Pages_admits_48 (by decide) (fun c_91 => ?_) (fun c_91 => ?_)
          · refine lv_aload_n hx hb d_Pages_admits_63 rfl (lv_at hl 3 rfl) ?_
            refine va_getE (E := R_Access) (nm := nmA) (F := FlA) (ad := fun i => g (i + 1)) (i := i) (q := q_stores) hx hb hF.2.1 hi hS hown (List.mem_of_getElem? (i := 4) rfl) (hts _ k_941) (fun _ h9 => h9) d_Pages_admits_64 ?_
            refine W.eq (g2 := F0 m 67 ls [.int (aF_stores.getD i 0)]) rfl ?_
            refine lv_if_eq (tgt := 76) hx hb d_Pages_admits_67 (by decide) (fun c_92 => ?_) (fun c_92 => ?_)
            · refine lv_bipush (v := 64) hx hb d_Pages_admits_76 rfl ?_
              refine lv_istore (lv' := [(6, .int 64), (5, .int 0), (4, .int 1), (0, .int x0), (1, .ref (g (i + 1))), (2, .int x2), (3, .int x3)]) hx hb d_Pages_admits_78 hl (by decide) rfl (fun ls hl => ?_)
              refine lv_iload_n hx hb d_Pages_admits_80 rfl (lv_at hl 3 rfl) ?_
              refine lv_iload hx hb d_Pages_admits_81 (lv_at hl 0 rfl) ?_
              refine lv_iand hx hb d_Pages_admits_83 ?_
              refine lv_iload hx hb d_Pages_admits_84 (lv_at hl 0 rfl) ?_
              refine lv_icmp_eq (tgt := 91) hx hb d_Pages_admits_86 (by decide) (fun c_93 => ?_) (fun c_93 => ?_)
              · refine lv_aload_n hx hb d_Pages_admits_91 rfl (lv_at hl 4 rfl) ?_
                refine va_gets hx hb (hF.2.1.1 0 (by decide)).1 hS hown (hts _ k_314) (fun _ h9 => h9) d_Pages_admits_92 ?_
                refine lv_acmp_ne (rx := some (g (i + 1))) (ry := some (g (0 + 1))) (tgt := 111) hx hb d_Pages_admits_95 (by decide) (fun _ => ?_) (fun h9 => absurd (hF.2.1.2 _ _ hi (by decide) (Option.some.inj h9)) c_79)
                refine lv_iload_n hx hb d_Pages_admits_111 rfl (lv_at hl 6 rfl) ?_
                refine lv_ldc (v := 524288) hx hb hown (hts _ k_316) d_Pages_admits_112 ?_
                refine lv_iand hx hb d_Pages_admits_114 ?_
                refine lv_if_eq (tgt := 123) hx hb d_Pages_admits_115 (by decide) (fun c_95 => ?_) (fun c_95 => ?_)
                · refine lv_iconst (v := 2) hx hb d_Pages_admits_123 rfl ?_
                  refine lv_istore (lv' := [(7, .int 2), (6, .int 64), (5, .int 0), (4, .int 1), (0, .int x0), (1, .ref (g (i + 1))), (2, .int x2), (3, .int x3)]) hx hb d_Pages_admits_124 hl (by decide) rfl (fun ls hl => ?_)
                  refine lv_aload_n hx hb d_Pages_admits_126 rfl (lv_at hl 5 rfl) ?_
                  refine va_getE (E := R_Access) (nm := nmA) (F := FlA) (ad := fun i => g (i + 1)) (i := i) (q := q_stores) hx hb hF.2.1 hi hS hown (List.mem_of_getElem? (i := 4) rfl) (hts _ k_941) (fun _ h9 => h9) d_Pages_admits_127 ?_
                  refine W.eq (g2 := F0 m 130 ls [.int (aF_stores.getD i 0)]) rfl ?_
                  refine lv_if_ne (tgt := 140) hx hb d_Pages_admits_130 (by decide) (fun h9 => absurd c_92 h9) (fun _ => ?_)
                  refine lv_iload_n hx hb d_Pages_admits_133 rfl (lv_at hl 4 rfl) ?_
                  refine lv_iload hx hb d_Pages_admits_134 (lv_at hl 0 rfl) ?_
                  refine lv_iand hx hb d_Pages_admits_136 ?_
                  refine lv_if_eq (tgt := 144) hx hb d_Pages_admits_137 (by decide) (fun c_97 => ?_) (fun c_97 => ?_)
                  · refine lv_iconst (v := 0) hx hb d_Pages_admits_144 rfl ?_
                    exact rz () hx hb hr hlocks rfl hP hD hS d_Pages_admits_145 ⟨by simp only [sp_Pages_admits, if_neg c_1, if_neg c_78, if_neg c_79, if_pos c_90, if_neg c_91, if_pos c_92, if_pos c_93, if_pos c_95, if_pos c_97], Or.inl rfl⟩
                  · refine lv_iconst (v := 1) hx hb d_Pages_admits_140 rfl ?_
                    refine lv_goto (tgt := 145) hx hb d_Pages_admits_141 (by decide) ?_
                    exact rz () hx hb hr hlocks rfl hP hD hS d_Pages_admits_145 ⟨by simp only [sp_Pages_admits, if_neg c_1, if_neg c_78, if_neg c_79, if_pos c_90, if_neg c_91, if_pos c_92, if_pos c_93, if_pos c_95, if_neg c_97], Or.inr rfl⟩
                · refine lv_bipush (v := 10) hx hb d_Pages_admits_118 rfl ?_
                  refine lv_goto (tgt := 124) hx hb d_Pages_admits_120 (by decide) ?_
                  refine lv_istore (lv' := [(7, .int 10), (6, .int 64), (5, .int 0), (4, .int 1), (0, .int x0), (1, .ref (g (i + 1))), (2, .int x2), (3, .int x3)]) hx hb d_Pages_admits_124 hl (by decide) rfl (fun ls hl => ?_)
                  refine lv_aload_n hx hb d_Pages_admits_126 rfl (lv_at hl 5 rfl) ?_
                  refine va_getE (E := R_Access) (nm := nmA) (F := FlA) (ad := fun i => g (i + 1)) (i := i) (q := q_stores) hx hb hF.2.1 hi hS hown (List.mem_of_getElem? (i := 4) rfl) (hts _ k_941) (fun _ h9 => h9) d_Pages_admits_127 ?_
                  refine W.eq (g2 := F0 m 130 ls [.int (aF_stores.getD i 0)]) rfl ?_
                  refine lv_if_ne (tgt := 140) hx hb d_Pages_admits_130 (by decide) (fun h9 => absurd c_92 h9) (fun _ => ?_)
                  refine lv_iload_n hx hb d_Pages_admits_133 rfl (lv_at hl 4 rfl) ?_
                  refine lv_iload hx hb d_Pages_admits_134 (lv_at hl 0 rfl) ?_
                  refine lv_iand hx hb d_Pages_admits_136 ?_
                  refine lv_if_eq (tgt := 144) hx hb d_Pages_admits_137 (by decide) (fun c_99 => ?_) (fun c_99 => ?_)
                  · refine lv_iconst (v := 0) hx hb d_Pages_admits_144 rfl ?_
                    exact rz () hx hb hr hlocks rfl hP hD hS d_Pages_admits_145 ⟨by simp only [sp_Pages_admits, if_neg c_1, if_neg c_78, if_neg c_79, if_pos c_90, if_neg c_91, if_pos c_92, if_pos c_93, if_neg c_95, if_pos c_99], Or.inl rfl⟩
                  · refine lv_iconst (v := 1) hx hb d_Pages_admits_140 rfl ?_
                    refine lv_goto (tgt := 145) hx hb d_Pages_admits_141 (by decide) ?_
                    exact rz () hx hb hr hlocks rfl hP hD hS d_Pages_admits_145 ⟨by simp only [sp_Pages_admits, if_neg c_1, if_neg c_78, if_neg c_79, if_pos c_90, if_neg c_91, if_pos c_92, if_pos c_93, if_neg c_95, if_neg c_99], Or.inr rfl⟩
              · refine lv_iconst (v := 0) hx hb d_Pages_admits_89 rfl ?_
                exact rz () hx hb hr hlocks rfl hP hD hS d_Pages_admits_90 ⟨by simp only [sp_Pages_admits, if_neg c_1, if_neg c_78, if_neg c_79, if_pos c_90, if_neg c_91, if_pos c_92, if_neg c_93], Or.inl rfl⟩
            · refine lv_sipush (v := 196) hx hb d_Pages_admits_70 rfl ?_
              refine lv_goto (tgt := 78) hx hb d_Pages_admits_73 (by decide) ?_
              refine lv_istore (lv' := [(6, .int 196), (5, .int 0), (4, .int 1), (0, .int x0), (1, .ref (g (i + 1))), (2, .int x2), (3, .int x3)]) hx hb d_Pages_admits_78 hl (by decide) rfl (fun ls hl => ?_)
              refine lv_iload_n hx hb d_Pages_admits_80 rfl (lv_at hl 3 rfl) ?_
              refine lv_iload hx hb d_Pages_admits_81 (lv_at hl 0 rfl) ?_
              refine lv_iand hx hb d_Pages_admits_83 ?_
              refine lv_iload hx hb d_Pages_admits_84 (lv_at hl 0 rfl) ?_
              refine lv_icmp_eq (tgt := 91) hx hb d_Pages_admits_86 (by decide) (fun c_100 => ?_) (fun c_100 => ?_)
              · refine lv_aload_n hx hb d_Pages_admits_91 rfl (lv_at hl 4 rfl) ?_
                refine va_gets hx hb (hF.2.1.1 0 (by decide)).1 hS hown (hts _ k_314) (fun _ h9 => h9) d_Pages_admits_92 ?_
                refine lv_acmp_ne (rx := some (g (i + 1))) (ry := some (g (0 + 1))) (tgt := 111) hx hb d_Pages_admits_95 (by decide) (fun _ => ?_) (fun h9 => absurd (hF.2.1.2 _ _ hi (by decide) (Option.some.inj h9)) c_79)
                refine lv_iload_n hx hb d_Pages_admits_111 rfl (lv_at hl 6 rfl) ?_
                refine lv_ldc (v := 524288) hx hb hown (hts _ k_316) d_Pages_admits_112 ?_
                refine lv_iand hx hb d_Pages_admits_114 ?_
                refine lv_if_eq (tgt := 123) hx hb d_Pages_admits_115 (by decide) (fun c_102 => ?_) (fun c_102 => ?_)
                · refine lv_iconst (v := 2) hx hb d_Pages_admits_123 rfl ?_
                  refine lv_istore (lv' := [(7, .int 2), (6, .int 196), (5, .int 0), (4, .int 1), (0, .int x0), (1, .ref (g (i + 1))), (2, .int x2), (3, .int x3)]) hx hb d_Pages_admits_124 hl (by decide) rfl (fun ls hl => ?_)
                  refine lv_aload_n hx hb d_Pages_admits_126 rfl (lv_at hl 5 rfl) ?_
                  refine va_getE (E := R_Access) (nm := nmA) (F := FlA) (ad := fun i => g (i + 1)) (i := i) (q := q_stores) hx hb hF.2.1 hi hS hown (List.mem_of_getElem? (i := 4) rfl) (hts _ k_941) (fun _ h9 => h9) d_Pages_admits_127 ?_
                  refine W.eq (g2 := F0 m 130 ls [.int (aF_stores.getD i 0)]) rfl ?_
                  refine lv_if_ne (tgt := 140) hx hb d_Pages_admits_130 (by decide) (fun _ => ?_) (fun h9 => absurd h9 c_92)
                  refine lv_iconst (v := 1) hx hb d_Pages_admits_140 rfl ?_
                  refine lv_goto (tgt := 145) hx hb d_Pages_admits_141 (by decide) ?_
                  exact rz () hx hb hr hlocks rfl hP hD hS d_Pages_admits_145 ⟨by simp only [sp_Pages_admits, if_neg c_1, if_neg c_78, if_neg c_79, if_pos c_90, if_neg c_91, if_neg c_92, if_pos c_100, if_pos c_102], Or.inr rfl⟩
                · refine lv_bipush (v := 10) hx hb d_Pages_admits_118 rfl ?_
                  refine lv_goto (tgt := 124) hx hb d_Pages_admits_120 (by decide) ?_
                  refine lv_istore (lv' := [(7, .int 10), (6, .int 196), (5, .int 0), (4, .int 1), (0, .int x0), (1, .ref (g (i + 1))), (2, .int x2), (3, .int x3)]) hx hb d_Pages_admits_124 hl (by decide) rfl (fun ls hl => ?_)
                  refine lv_aload_n hx hb d_Pages_admits_126 rfl (lv_at hl 5 rfl) ?_
                  refine va_getE (E := R_Access) (nm := nmA) (F := FlA) (ad := fun i => g (i + 1)) (i := i) (q := q_stores) hx hb hF.2.1 hi hS hown (List.mem_of_getElem? (i := 4) rfl) (hts _ k_941) (fun _ h9 => h9) d_Pages_admits_127 ?_
                  refine W.eq (g2 := F0 m 130 ls [.int (aF_stores.getD i 0)]) rfl ?_
                  refine lv_if_ne (tgt := 140) hx hb d_Pages_admits_130 (by decide) (fun _ => ?_) (fun h9 => absurd h9 c_92)
                  refine lv_iconst (v := 1) hx hb d_Pages_admits_140 rfl ?_
                  refine lv_goto (tgt := 145) hx hb d_Pages_admits_141 (by decide) ?_
                  exact rz () hx hb hr hlocks rfl hP hD hS d_Pages_admits_145 ⟨by simp only [sp_Pages_admits, if_neg c_1, if_neg c_78, if_neg c_79, if_pos c_90, if_neg c_91, if_neg c_92, if_pos c_100, if_neg c_102], Or.inr rfl⟩
              · refine lv_iconst (v := 0) hx hb d_Pages_admits_89 rfl ?_
                exact rz () hx hb hr hlocks rfl hP hD hS d_Pages_admits_90 ⟨by simp only [sp_Pages_admits, if_neg c_1, if_neg c_78, if_neg c_79, if_pos c_90, if_neg c_91, if_neg c_92, if_neg c_100], Or.inl rfl⟩
          · refine lv_iload hx hb d_Pages_admits_51 (lv_at hl 1 rfl) ?_
            refine lv_if_eq (tgt := 63) hx hb d_Pages_admits_53 (by decide) (fun h9 => absurd h9 (by decide)) (fun _ => ?_)
            refine lv_iload hx hb d_Pages_admits_56 (lv_at hl 0 rfl) ?_
            refine lv_if_ne (tgt := 63) hx hb d_Pages_admits_58 (by decide) (fun h9 => absurd (by decide) h9) (fun _ => ?_)
            refine lv_iconst (v := 0) hx hb d_Pages_admits_61 rfl ?_
            exact rz () hx hb hr hlocks rfl hP hD hS d_Pages_admits_62 ⟨by simp only [sp_Pages_admits, if_neg c_1, if_neg c_78, if_neg c_79, if_pos c_90, if_pos c_91], Or.inl rfl⟩
        · refine lv_iconst (v := 1) hx hb d_Pages_admits_39 rfl ?_
          refine lv_goto (tgt := 44) hx hb d_Pages_admits_40 (by decide) ?_
          refine lv_istore (lv' := [(5, .int 1), (4, .int 1), (0, .int x0), (1, .ref (g (i + 1))), (2, .int x2), (3, .int x3)]) hx hb d_Pages_admits_44 hl (by decide) rfl (fun ls hl => ?_)
          refine lv_iload_n hx hb d_Pages_admits_46 rfl (lv_at hl 4 rfl) ?_
          refine lv_iconst (v := 1) hx hb d_Pages_admits_47 rfl ?_
          refine lv_icmp_ne (tgt := 63) hx hb d_Pages_admits_48 (by decide) (fun c_107 => ?_) (fun c_107 => ?_)
          · refine lv_aload_n hx hb d_Pages_admits_63 rfl (lv_at hl 3 rfl) ?_
            refine va_getE (E := R_Access) (nm := nmA) (F := FlA) (ad := fun i => g (i + 1)) (i := i) (q := q_stores) hx hb hF.2.1 hi hS hown (List.mem_of_getElem? (i := 4) rfl) (hts _ k_941) (fun _ h9 => h9) d_Pages_admits_64 ?_
            refine W.eq (g2 := F0 m 67 ls [.int (aF_stores.getD i 0)]) rfl ?_
            refine lv_if_eq (tgt := 76) hx hb d_Pages_admits_67 (by decide) (fun c_108 => ?_) (fun c_108 => ?_)
            · refine lv_bipush (v := 64) hx hb d_Pages_admits_76 rfl ?_
              refine lv_istore (lv' := [(6, .int 64), (5, .int 1), (4, .int 1), (0, .int x0), (1, .ref (g (i + 1))), (2, .int x2), (3, .int x3)]) hx hb d_Pages_admits_78 hl (by decide) rfl (fun ls hl => ?_)
              refine lv_iload_n hx hb d_Pages_admits_80 rfl (lv_at hl 3 rfl) ?_
              refine lv_iload hx hb d_Pages_admits_81 (lv_at hl 0 rfl) ?_
              refine lv_iand hx hb d_Pages_admits_83 ?_
              refine lv_iload hx hb d_Pages_admits_84 (lv_at hl 0 rfl) ?_
              refine lv_icmp_eq (tgt := 91) hx hb d_Pages_admits_86 (by decide) (fun c_109 => ?_) (fun c_109 => ?_)
              · refine lv_aload_n hx hb d_Pages_admits_91 rfl (lv_at hl 4 rfl) ?_
                refine va_gets hx hb (hF.2.1.1 0 (by decide)).1 hS hown (hts _ k_314) (fun _ h9 => h9) d_Pages_admits_92 ?_
                refine lv_acmp_ne (rx := some (g (i + 1))) (ry := some (g (0 + 1))) (tgt := 111) hx hb d_Pages_admits_95 (by decide) (fun _ => ?_) (fun h9 => absurd (hF.2.1.2 _ _ hi (by decide) (Option.some.inj h9)) c_79)
                refine lv_iload_n hx hb d_Pages_admits_111 rfl (lv_at hl 6 rfl) ?_
                refine lv_ldc (v := 524288) hx hb hown (hts _ k_316) d_Pages_admits_112 ?_
                refine lv_iand hx hb d_Pages_admits_114 ?_
                refine lv_if_eq (tgt := 123) hx hb d_Pages_admits_115 (by decide) (fun c_111 => ?_) (fun c_111 => ?_)
                · refine lv_iconst (v := 2) hx hb d_Pages_admits_123 rfl ?_
                  refine lv_istore (lv' := [(7, .int 2), (6, .int 64), (5, .int 1), (4, .int 1), (0, .int x0), (1, .ref (g (i + 1))), (2, .int x2), (3, .int x3)]) hx hb d_Pages_admits_124 hl (by decide) rfl (fun ls hl => ?_)
                  refine lv_aload_n hx hb d_Pages_admits_126 rfl (lv_at hl 5 rfl) ?_
                  refine va_getE (E := R_Access) (nm := nmA) (F := FlA) (ad := fun i => g (i + 1)) (i := i) (q := q_stores) hx hb hF.2.1 hi hS hown (List.mem_of_getElem? (i := 4) rfl) (hts _ k_941) (fun _ h9 => h9) d_Pages_admits_127 ?_
                  refine W.eq (g2 := F0 m 130 ls [.int (aF_stores.getD i 0)]) rfl ?_
                  refine lv_if_ne (tgt := 140) hx hb d_Pages_admits_130 (by decide) (fun h9 => absurd c_108 h9) (fun _ => ?_)
                  refine lv_iload_n hx hb d_Pages_admits_133 rfl (lv_at hl 4 rfl) ?_
                  refine lv_iload hx hb d_Pages_admits_134 (lv_at hl 0 rfl) ?_
                  refine lv_iand hx hb d_Pages_admits_136 ?_
                  refine lv_if_eq (tgt := 144) hx hb d_Pages_admits_137 (by decide) (fun c_113 => ?_) (fun c_113 => ?_)
                  · refine lv_iconst (v := 0) hx hb d_Pages_admits_144 rfl ?_
                    exact rz () hx hb hr hlocks rfl hP hD hS d_Pages_admits_145 ⟨by simp only [sp_Pages_admits, if_neg c_1, if_neg c_78, if_neg c_79, if_neg c_90, if_neg c_107, if_pos c_108, if_pos c_109, if_pos c_111, if_pos c_113], Or.inl rfl⟩
                  · refine lv_iconst (v := 1) hx hb d_Pages_admits_140 rfl ?_
                    refine lv_goto (tgt := 145) hx hb d_Pages_admits_141 (by decide) ?_
                    exact rz () hx hb hr hlocks rfl hP hD hS d_Pages_admits_145 ⟨by simp only [sp_Pages_admits, if_neg c_1, if_neg c_78, if_neg c_79, if_neg c_90, if_neg c_107, if_pos c_108, if_pos c_109, if_pos c_111, if_neg c_113], Or.inr rfl⟩
                · refine lv_bipush (v := 10) hx hb d_Pages_admits_118 rfl ?_
                  refine lv_goto (tgt := 124) hx hb d_Pages_admits_120 (by decide) ?_
                  refine lv_istore (lv' := [(7, .int 10), (6, .int 64), (5, .int 1), (4, .int 1), (0, .int x0), (1, .ref (g (i + 1))), (2, .int x2), (3, .int x3)]) hx hb d_Pages_admits_124 hl (by decide) rfl (fun ls hl => ?_)
                  refine lv_aload_n hx hb d_Pages_admits_126 rfl (lv_at hl 5 rfl) ?_
                  refine va_getE (E := R_Access) (nm := nmA) (F := FlA) (ad := fun i => g (i + 1)) (i := i) (q := q_stores) hx hb hF.2.1 hi hS hown (List.mem_of_getElem? (i := 4) rfl) (hts _ k_941) (fun _ h9 => h9) d_Pages_admits_127 ?_
                  refine W.eq (g2 := F0 m 130 ls [.int (aF_stores.getD i 0)]) rfl ?_
                  refine lv_if_ne (tgt := 140) hx hb d_Pages_admits_130 (by decide) (fun h9 => absurd c_108 h9) (fun _ => ?_)
                  refine lv_iload_n hx hb d_Pages_admits_133 rfl (lv_at hl 4 rfl) ?_
                  refine lv_iload hx hb d_Pages_admits_134 (lv_at hl 0 rfl) ?_
                  refine lv_iand hx hb d_Pages_admits_136 ?_
                  refine lv_if_eq (tgt := 144) hx hb d_Pages_admits_137 (by decide) (fun c_115 => ?_) (fun c_115 => ?_)
                  · refine lv_iconst (v := 0) hx hb d_Pages_admits_144 rfl ?_
                    exact rz () hx hb hr hlocks rfl hP hD hS d_Pages_admits_145 ⟨by simp only [sp_Pages_admits, if_neg c_1, if_neg c_78, if_neg c_79, if_neg c_90, if_neg c_107, if_pos c_108, if_pos c_109, if_neg c_111, if_pos c_115], Or.inl rfl⟩
                  · refine lv_iconst (v := 1) hx hb d_Pages_admits_140 rfl ?_
                    refine lv_goto (tgt := 145) hx hb d_Pages_admits_141 (by decide) ?_
                    exact rz () hx hb hr hlocks rfl hP hD hS d_Pages_admits_145 ⟨by simp only [sp_Pages_admits, if_neg c_1, if_neg c_78, if_neg c_79, if_neg c_90, if_neg c_107, if_pos c_108, if_pos c_109, if_neg c_111, if_neg c_115], Or.inr rfl⟩
              · refine lv_iconst (v := 0) hx hb d_Pages_admits_89 rfl ?_
                exact rz () hx hb hr hlocks rfl hP hD hS d_Pages_admits_90 ⟨by simp only [sp_Pages_admits, if_neg c_1, if_neg c_78, if_neg c_79, if_neg c_90, if_neg c_107, if_pos c_108, if_neg c_109], Or.inl rfl⟩
            · refine lv_sipush (v := 196) hx hb d_Pages_admits_70 rfl ?_
              refine lv_goto (tgt := 78) hx hb d_Pages_admits_73 (by decide) ?_
              refine lv_istore (lv' := [(6, .int 196), (5, .int 1), (4, .int 1), (0, .int x0), (1, .ref (g (i + 1))), (2, .int x2), (3, .int x3)]) hx hb d_Pages_admits_78 hl (by decide) rfl (fun ls hl => ?_)
              refine lv_iload_n hx hb d_Pages_admits_80 rfl (lv_at hl 3 rfl) ?_
              refine lv_iload hx hb d_Pages_admits_81 (lv_at hl 0 rfl) ?_
              refine lv_iand hx hb d_Pages_admits_83 ?_
              refine lv_iload hx hb d_Pages_admits_84 (lv_at hl 0 rfl) ?_
              refine lv_icmp_eq (tgt := 91) hx hb d_Pages_admits_86 (by decide) (fun c_116 => ?_) (fun c_116 => ?_)
              · refine lv_aload_n hx hb d_Pages_admits_91 rfl (lv_at hl 4 rfl) ?_
                refine va_gets hx hb (hF.2.1.1 0 (by decide)).1 hS hown (hts _ k_314) (fun _ h9 => h9) d_Pages_admits_92 ?_
                refine lv_acmp_ne (rx := some (g (i + 1))) (ry := some (g (0 + 1))) (tgt := 111) hx hb d_Pages_admits_95 (by decide) (fun _ => ?_) (fun h9 => absurd (hF.2.1.2 _ _ hi (by decide) (Option.some.inj h9)) c_79)
                refine lv_iload_n hx hb d_Pages_admits_111 rfl (lv_at hl 6 rfl) ?_
                refine lv_ldc (v := 524288) hx hb hown (hts _ k_316) d_Pages_admits_112 ?_
                refine lv_iand hx hb d_Pages_admits_114 ?_
                refine lv_if_eq (tgt := 123) hx hb d_Pages_admits_115 (by decide) (fun c_118 => ?_) (fun c_118 => ?_)
                · refine lv_iconst (v := 2) hx hb d_Pages_admits_123 rfl ?_
                  refine lv_istore (lv' := [(7, .int 2), (6, .int 196), (5, .int 1), (4, .int 1), (0, .int x0), (1, .ref (g (i + 1))), (2, .int x2), (3, .int x3)]) hx hb d_Pages_admits_124 hl (by decide) rfl (fun ls hl => ?_)
                  refine lv_aload_n hx hb d_Pages_admits_126 rfl (lv_at hl 5 rfl) ?_
                  refine va_getE (E := R_Access) (nm := nmA) (F := FlA) (ad := fun i => g (i + 1)) (i := i) (q := q_stores) hx hb hF.2.1 hi hS hown (List.mem_of_getElem? (i := 4) rfl) (hts _ k_941) (fun _ h9 => h9) d_Pages_admits_127 ?_
                  refine W.eq (g2 := F0 m 130 ls [.int (aF_stores.getD i 0)]) rfl ?_
                  refine lv_if_ne (tgt := 140) hx hb d_Pages_admits_130 (by decide) (fun _ => ?_) (fun h9 => absurd h9 c_108)
                  refine lv_iconst (v := 1) hx hb d_Pages_admits_140 rfl ?_
                  refine lv_goto (tgt := 145) hx hb d_Pages_admits_141 (by decide) ?_
                  exact rz () hx hb hr hlocks rfl hP hD hS d_Pages_admits_145 ⟨by simp only [sp_Pages_admits, if_neg c_1, if_neg c_78, if_neg c_79, if_neg c_90, if_neg c_107, if_neg c_108, if_pos c_116, if_pos c_118], Or.inr rfl⟩
                · refine lv_bipush (v := 10) hx hb d_Pages_admits_118 rfl ?_
                  refine lv_goto (tgt := 124) hx hb d_Pages_admits_120 (by decide) ?_
                  refine lv_istore (lv' := [(7, .int 10), (6, .int 196), (5, .int 1), (4, .int 1), (0, .int x0), (1, .ref (g (i + 1))), (2, .int x2), (3, .int x3)]) hx hb d_Pages_admits_124 hl (by decide) rfl (fun ls hl => ?_)
                  refine lv_aload_n hx hb d_Pages_admits_126 rfl (lv_at hl 5 rfl) ?_
                  refine va_getE (E := R_Access) (nm := nmA) (F := FlA) (ad := fun i => g (i + 1)) (i := i) (q := q_stores) hx hb hF.2.1 hi hS hown (List.mem_of_getElem? (i := 4) rfl) (hts _ k_941) (fun _ h9 => h9) d_Pages_admits_127 ?_
                  refine W.eq (g2 := F0 m 130 ls [.int (aF_stores.getD i 0)]) rfl ?_
                  refine lv_if_ne (tgt := 140) hx hb d_Pages_admits_130 (by decide) (fun _ => ?_) (fun h9 => absurd h9 c_108)
                  refine lv_iconst (v := 1) hx hb d_Pages_admits_140 rfl ?_
                  refine lv_goto (tgt := 145) hx hb d_Pages_admits_141 (by decide) ?_
                  exact rz () hx hb hr hlocks rfl hP hD hS d_Pages_admits_145 ⟨by simp only [sp_Pages_admits, if_neg c_1, if_neg c_78, if_neg c_79, if_neg c_90, if_neg c_107, if_neg c_108, if_pos c_116, if_neg c_118], Or.inr rfl⟩
              · refine lv_iconst (v := 0) hx hb d_Pages_admits_89 rfl ?_
                exact rz () hx hb hr hlocks rfl hP hD hS d_Pages_admits_90 ⟨by simp only [sp_Pages_admits, if_neg c_1, if_neg c_78, if_neg c_79, if_neg c_90, if_neg c_107, if_neg c_108, if_neg c_116], Or.inl rfl⟩
          · refine lv_iload hx hb d_Pages_admits_51 (lv_at hl 1 rfl) ?_
            refine lv_if_eq (tgt := 63) hx hb d_Pages_admits_53 (by decide) (fun h9 => absurd h9 (by decide)) (fun _ => ?_)
            refine lv_iload hx hb d_Pages_admits_56 (lv_at hl 0 rfl) ?_
            refine lv_if_ne (tgt := 63) hx hb d_Pages_admits_58 (by decide) (fun _ => ?_) (fun h9 => absurd h9 (by decide))
            refine lv_aload_n hx hb d_Pages_admits_63 rfl (lv_at hl 3 rfl) ?_
            refine va_getE (E := R_Access) (nm := nmA) (F := FlA) (ad := fun i => g (i + 1)) (i := i) (q := q_stores) hx hb hF.2.1 hi hS hown (List.mem_of_getElem? (i := 4) rfl) (hts _ k_941) (fun _ h9 => h9) d_Pages_admits_64 ?_
            refine W.eq (g2 := F0 m 67 ls [.int (aF_stores.getD i 0)]) rfl ?_
            refine lv_if_eq (tgt := 76) hx hb d_Pages_admits_67 (by decide) (fun c_123 => ?_) (fun c_123 => ?_)
            · refine lv_bipush (v := 64) hx hb d_Pages_admits_76 rfl ?_
              refine lv_istore (lv' := [(6, .int 64), (5, .int 1), (4, .int 1), (0, .int x0), (1, .ref (g (i + 1))), (2, .int x2), (3, .int x3)]) hx hb d_Pages_admits_78 hl (by decide) rfl (fun ls hl => ?_)
              refine lv_iload_n hx hb d_Pages_admits_80 rfl (lv_at hl 3 rfl) ?_
              refine lv_iload hx hb d_Pages_admits_81 (lv_at hl 0 rfl) ?_
              refine lv_iand hx hb d_Pages_admits_83 ?_
              refine lv_iload hx hb d_Pages_admits_84 (lv_at hl 0 rfl) ?_
              refine lv_icmp_eq (tgt := 91) hx hb d_Pages_admits_86 (by decide) (fun c_124 => ?_) (fun c_124 => ?_)
              · refine lv_aload_n hx hb d_Pages_admits_91 rfl (lv_at hl 4 rfl) ?_
                refine va_gets hx hb (hF.2.1.1 0 (by decide)).1 hS hown (hts _ k_314) (fun _ h9 => h9) d_Pages_admits_92 ?_
                refine lv_acmp_ne (rx := some (g (i + 1))) (ry := some (g (0 + 1))) (tgt := 111) hx hb d_Pages_admits_95 (by decide) (fun _ => ?_) (fun h9 => absurd (hF.2.1.2 _ _ hi (by decide) (Option.some.inj h9)) c_79)
                refine lv_iload_n hx hb d_Pages_admits_111 rfl (lv_at hl 6 rfl) ?_
                refine lv_ldc (v := 524288) hx hb hown (hts _ k_316) d_Pages_admits_112 ?_
                refine lv_iand hx hb d_Pages_admits_114 ?_
                refine lv_if_eq (tgt := 123) hx hb d_Pages_admits_115 (by decide) (fun c_126 => ?_) (fun c_126 => ?_)
                · refine lv_iconst (v := 2) hx hb d_Pages_admits_123 rfl ?_
                  refine lv_istore (lv' := [(7, .int 2), (6, .int 64), (5, .int 1), (4, .int 1), (0, .int x0), (1, .ref (g (i + 1))), (2, .int x2), (3, .int x3)]) hx hb d_Pages_admits_124 hl (by decide) rfl (fun ls hl => ?_)
                  refine lv_aload_n hx hb d_Pages_admits_126 rfl (lv_at hl 5 rfl) ?_
                  refine va_getE (E := R_Access) (nm := nmA) (F := FlA) (ad := fun i => g (i + 1)) (i := i) (q := q_stores) hx hb hF.2.1 hi hS hown (List.mem_of_getElem? (i := 4) rfl) (hts _ k_941) (fun _ h9 => h9) d_Pages_admits_127 ?_
                  refine W.eq (g2 := F0 m 130 ls [.int (aF_stores.getD i 0)]) rfl ?_
                  refine lv_if_ne (tgt := 140) hx hb d_Pages_admits_130 (by decide) (fun h9 => absurd c_123 h9) (fun _ => ?_)
                  refine lv_iload_n hx hb d_Pages_admits_133 rfl (lv_at hl 4 rfl) ?_
                  refine lv_iload hx hb d_Pages_admits_134 (lv_at hl 0 rfl) ?_
                  refine lv_iand hx hb d_Pages_admits_136 ?_
                  refine lv_if_eq (tgt := 144) hx hb d_Pages_admits_137 (by decide) (fun c_128 => ?_) (fun c_128 => ?_)
                  · refine lv_iconst (v := 0) hx hb d_Pages_admits_144 rfl ?_
                    exact rz () hx hb hr hlocks rfl hP hD hS d_Pages_admits_145 ⟨by simp only [sp_Pages_admits, if_neg c_1, if_neg c_78, if_neg c_79, if_neg c_90, if_pos c_107, if_pos c_123, if_pos c_124, if_pos c_126, if_pos c_128], Or.inl rfl⟩
                  · refine lv_iconst (v := 1) hx hb d_Pages_admits_140 rfl ?_
                    refine lv_goto (tgt := 145) hx hb d_Pages_admits_141 (by decide) ?_
                    exact rz () hx hb hr hlocks rfl hP hD hS d_Pages_admits_145 ⟨by simp only [sp_Pages_admits, if_neg c_1, if_neg c_78, if_neg c_79, if_neg c_90, if_pos c_107, if_pos c_123, if_pos c_124, if_pos c_126, if_neg c_128], Or.inr rfl⟩
                · refine lv_bipush (v := 10) hx hb d_Pages_admits_118 rfl ?_
                  refine lv_goto (tgt := 124) hx hb d_Pages_admits_120 (by decide) ?_
                  refine lv_istore (lv' := [(7, .int 10), (6, .int 64), (5, .int 1), (4, .int 1), (0, .int x0), (1, .ref (g (i + 1))), (2, .int x2), (3, .int x3)]) hx hb d_Pages_admits_124 hl (by decide) rfl (fun ls hl => ?_)
                  refine lv_aload_n hx hb d_Pages_admits_126 rfl (lv_at hl 5 rfl) ?_
                  refine va_getE (E := R_Access) (nm := nmA) (F := FlA) (ad := fun i => g (i + 1)) (i := i) (q := q_stores) hx hb hF.2.1 hi hS hown (List.mem_of_getElem? (i := 4) rfl) (hts _ k_941) (fun _ h9 => h9) d_Pages_admits_127 ?_
                  refine W.eq (g2 := F0 m 130 ls [.int (aF_stores.getD i 0)]) rfl ?_
                  refine lv_if_ne (tgt := 140) hx hb d_Pages_admits_130 (by decide) (fun h9 => absurd c_123 h9) (fun _ => ?_)
                  refine lv_iload_n hx hb d_Pages_admits_133 rfl (lv_at hl 4 rfl) ?_
                  refine lv_iload hx hb d_Pages_admits_134 (lv_at hl 0 rfl) ?_
                  refine lv_iand hx hb d_Pages_admits_136 ?_
                  refine lv_if_eq (tgt := 144) hx hb d_Pages_admits_137 (by decide) (fun c_130 => ?_) (fun c_130 => ?_)
                  · refine lv_iconst (v := 0) hx hb d_Pages_admits_144 rfl ?_
                    exact rz () hx hb hr hlocks rfl hP hD hS d_Pages_admits_145 ⟨by simp only [sp_Pages_admits, if_neg c_1, if_neg c_78, if_neg c_79, if_neg c_90, if_pos c_107, if_pos c_123, if_pos c_124, if_neg c_126, if_pos c_130], Or.inl rfl⟩
                  · refine lv_iconst (v := 1) hx hb d_Pages_admits_140 rfl ?_
                    refine lv_goto (tgt := 145) hx hb d_Pages_admits_141 (by decide) ?_
                    exact rz () hx hb hr hlocks rfl hP hD hS d_Pages_admits_145 ⟨by simp only [sp_Pages_admits, if_neg c_1, if_neg c_78, if_neg c_79, if_neg c_90, if_pos c_107, if_pos c_123, if_pos c_124, if_neg c_126, if_neg c_130], Or.inr rfl⟩
              · refine lv_iconst (v := 0) hx hb d_Pages_admits_89 rfl ?_
                exact rz () hx hb hr hlocks rfl hP hD hS d_Pages_admits_90 ⟨by simp only [sp_Pages_admits, if_neg c_1, if_neg c_78, if_neg c_79, if_neg c_90, if_pos c_107, if_pos c_123, if_neg c_124], Or.inl rfl⟩
            · refine lv_sipush (v := 196) hx hb d_Pages_admits_70 rfl ?_
              refine lv_goto (tgt := 78) hx hb d_Pages_admits_73 (by decide) ?_
              refine lv_istore (lv' := [(6, .int 196), (5, .int 1), (4, .int 1), (0, .int x0), (1, .ref (g (i + 1))), (2, .int x2), (3, .int x3)]) hx hb d_Pages_admits_78 hl (by decide) rfl (fun ls hl => ?_)
              refine lv_iload_n hx hb d_Pages_admits_80 rfl (lv_at hl 3 rfl) ?_
              refine lv_iload hx hb d_Pages_admits_81 (lv_at hl 0 rfl) ?_
              refine lv_iand hx hb d_Pages_admits_83 ?_
              refine lv_iload hx hb d_Pages_admits_84 (lv_at hl 0 rfl) ?_
              refine lv_icmp_eq (tgt := 91) hx hb d_Pages_admits_86 (by decide) (fun c_131 => ?_) (fun c_131 => ?_)
              · refine lv_aload_n hx hb d_Pages_admits_91 rfl (lv_at hl 4 rfl) ?_
                refine va_gets hx hb (hF.2.1.1 0 (by decide)).1 hS hown (hts _ k_314) (fun _ h9 => h9) d_Pages_admits_92 ?_
                refine lv_acmp_ne (rx := some (g (i + 1))) (ry := some (g (0 + 1))) (tgt := 111) hx hb d_Pages_admits_95 (by decide) (fun _ => ?_) (fun h9 => absurd (hF.2.1.2 _ _ hi (by decide) (Option.some.inj h9)) c_79)
                refine lv_iload_n hx hb d_Pages_admits_111 rfl (lv_at hl 6 rfl) ?_
                refine lv_ldc (v := 524288) hx hb hown (hts _ k_316) d_Pages_admits_112 ?_
                refine lv_iand hx hb d_Pages_admits_114 ?_
                refine lv_if_eq (tgt := 123) hx hb d_Pages_admits_115 (by decide) (fun c_133 => ?_) (fun c_133 => ?_)
                · refine lv_iconst (v := 2) hx hb d_Pages_admits_123 rfl ?_
                  refine lv_istore (lv' := [(7, .int 2), (6, .int 196), (5, .int 1), (4, .int 1), (0, .int x0), (1, .ref (g (i + 1))), (2, .int x2), (3, .int x3)]) hx hb d_Pages_admits_124 hl (by decide) rfl (fun ls hl => ?_)
                  refine lv_aload_n hx hb d_Pages_admits_126 rfl (lv_at hl 5 rfl) ?_
                  refine va_getE (E := R_Access) (nm := nmA) (F := FlA) (ad := fun i => g (i + 1)) (i := i) (q := q_stores) hx hb hF.2.1 hi hS hown (List.mem_of_getElem? (i := 4) rfl) (hts _ k_941) (fun _ h9 => h9) d_Pages_admits_127 ?_
                  refine W.eq (g2 := F0 m 130 ls [.int (aF_stores.getD i 0)]) rfl ?_
                  refine lv_if_ne (tgt := 140) hx hb d_Pages_admits_130 (by decide) (fun _ => ?_) (fun h9 => absurd h9 c_123)
                  refine lv_iconst (v := 1) hx hb d_Pages_admits_140 rfl ?_
                  refine lv_goto (tgt := 145) hx hb d_Pages_admits_141 (by decide) ?_
                  exact rz () hx hb hr hlocks rfl hP hD hS d_Pages_admits_145 ⟨by simp only [sp_Pages_admits, if_neg c_1, if_neg c_78, if_neg c_79, if_neg c_90, if_pos c_107, if_neg c_123, if_pos c_131, if_pos c_133], Or.inr rfl⟩
                · refine lv_bipush (v := 10) hx hb d_Pages_admits_118 rfl ?_
                  refine lv_goto (tgt := 124) hx hb d_Pages_admits_120 (by decide) ?_
                  refine lv_istore (lv' := [(7, .int 10), (6, .int 196), (5, .int 1), (4, .int 1), (0, .int x0), (1, .ref (g (i + 1))), (2, .int x2), (3, .int x3)]) hx hb d_Pages_admits_124 hl (by decide) rfl (fun ls hl => ?_)
                  refine lv_aload_n hx hb d_Pages_admits_126 rfl (lv_at hl 5 rfl) ?_
                  refine va_getE (E := R_Access) (nm := nmA) (F := FlA) (ad := fun i => g (i + 1)) (i := i) (q := q_stores) hx hb hF.2.1 hi hS hown (List.mem_of_getElem? (i := 4) rfl) (hts _ k_941) (fun _ h9 => h9) d_Pages_admits_127 ?_
                  refine W.eq (g2 := F0 m 130 ls [.int (aF_stores.getD i 0)]) rfl ?_
                  refine lv_if_ne (tgt := 140) hx hb d_Pages_admits_130 (by decide) (fun _ => ?_) (fun h9 => absurd h9 c_123)
                  refine lv_iconst (v := 1) hx hb d_Pages_admits_140 rfl ?_
                  refine lv_goto (tgt := 145) hx hb d_Pages_admits_141 (by decide) ?_
                  exact rz () hx hb hr hlocks rfl hP hD hS d_Pages_admits_145 ⟨by simp only [sp_Pages_admits, if_neg c_1, if_neg c_78, if_neg c_79, if_neg c_90, if_pos c_107, if_neg c_123, if_pos c_131, if_neg c_133], Or.inr rfl⟩
              · refine lv_iconst (v := 0) hx hb d_Pages_admits_89 rfl ?_
                exact rz () hx hb hr hlocks rfl hP hD hS d_Pages_admits_90 ⟨by simp only [sp_Pages_admits, if_neg c_1, if_neg c_78, if_neg c_79, if_neg c_90, if_pos c_107, if_neg c_123, if_neg c_131], Or.inl rfl⟩
    · refine lv_iload hx hb d_Pages_admits_18 (lv_at hl 0 rfl) ?_
      refine lv_if_ne (tgt := 25) hx hb d_Pages_admits_20 (by decide) (fun _ => ?_) (fun h9 => absurd h9 (by decide))
      refine lv_aload_n hx hb d_Pages_admits_25 rfl (lv_at hl 2 rfl) ?_
      refine va_gets hx hb (hF.2.1.1 0 (by decide)).1 hS hown (hts _ k_314) (fun _ h9 => h9) d_Pages_admits_26 ?_
      refine lv_acmp_eq (rx := some (g (i + 1))) (ry := some (g (0 + 1))) (tgt := 43) hx hb d_Pages_admits_29 (by decide) (fun b_137 => ?_) (fun b_137 => ?_)
      · have c_137 : i = 0 := hF.2.1.2 _ _ hi (by decide) (Option.some.inj b_137)
        refine lv_iconst (v := 0) hx hb d_Pages_admits_43 rfl ?_
        refine lv_istore (lv' := [(5, .int 0), (4, .int 1), (0, .int x0), (1, .ref (g (i + 1))), (2, .int x2), (3, .int x3)]) hx hb d_Pages_admits_44 hl (by decide) rfl (fun ls hl => ?_)
        refine lv_iload_n hx hb d_Pages_admits_46 rfl (lv_at hl 4 rfl) ?_
        refine lv_iconst (v := 1) hx hb d_Pages_admits_47 rfl ?_
        refine lv_icmp_ne (tgt := 63) hx hb d_Pages_admits_48 (by decide) (fun c_138 => ?_) (fun c_138 => ?_)
        · refine lv_aload_n hx hb d_Pages_admits_63 rfl (lv_at hl 3 rfl) ?_
          refine va_getE (E := R_Access) (nm := nmA) (F := FlA) (ad := fun i => g (i + 1)) (i := i) (q := q_stores) hx hb hF.2.1 hi hS hown (List.mem_of_getElem? (i := 4) rfl) (hts _ k_941) (fun _ h9 => h9) d_Pages_admits_64 ?_
          refine W.eq (g2 := F0 m 67 ls [.int (aF_stores.getD i 0)]) rfl ?_
          refine lv_if_eq (tgt := 76) hx hb d_Pages_admits_67 (by decide) (fun c_139 => ?_) (fun c_139 => ?_)
          · refine lv_bipush (v := 64) hx hb d_Pages_admits_76 rfl ?_
            refine lv_istore (lv' := [(6, .int 64), (5, .int 0), (4, .int 1), (0, .int x0), (1, .ref (g (i + 1))), (2, .int x2), (3, .int x3)]) hx hb d_Pages_admits_78 hl (by decide) rfl (fun ls hl => ?_)
            refine lv_iload_n hx hb d_Pages_admits_80 rfl (lv_at hl 3 rfl) ?_
            refine lv_iload hx hb d_Pages_admits_81 (lv_at hl 0 rfl) ?_
            refine lv_iand hx hb d_Pages_admits_83 ?_
            refine lv_iload hx hb d_Pages_admits_84 (lv_at hl 0 rfl) ?_
            refine lv_icmp_eq (tgt := 91) hx hb d_Pages_admits_86 (by decide) (fun c_140 => ?_) (fun c_140 => ?_)
            · refine lv_aload_n hx hb d_Pages_admits_91 rfl (lv_at hl 4 rfl) ?_
              refine va_gets hx hb (hF.2.1.1 0 (by decide)).1 hS hown (hts _ k_314) (fun _ h9 => h9) d_Pages_admits_92 ?_
              refine lv_acmp_ne (rx := some (g (i + 1))) (ry := some (g (0 + 1))) (tgt := 111) hx hb d_Pages_admits_95 (by decide) (fun h9 => absurd (by rw [c_137]) h9) (fun _ => ?_)
              refine lv_iload_n hx hb d_Pages_admits_98 rfl (lv_at hl 3 rfl) ?_
              refine lv_bipush (v := 8) hx hb d_Pages_admits_99 rfl ?_
              refine lv_iand hx hb d_Pages_admits_101 ?_
              refine lv_if_eq (tgt := 109) hx hb d_Pages_admits_102 (by decide) (fun c_142 => ?_) (fun c_142 => ?_)
              · refine lv_iconst (v := 0) hx hb d_Pages_admits_109 rfl ?_
                exact rz () hx hb hr hlocks rfl hP hD hS d_Pages_admits_110 ⟨by simp only [sp_Pages_admits, if_neg c_1, if_pos c_78, if_pos c_137, if_neg c_138, if_pos c_139, if_pos c_140, if_pos c_142], Or.inl rfl⟩
              · refine lv_iconst (v := 1) hx hb d_Pages_admits_105 rfl ?_
                refine lv_goto (tgt := 110) hx hb d_Pages_admits_106 (by decide) ?_
                exact rz () hx hb hr hlocks rfl hP hD hS d_Pages_admits_110 ⟨by simp only [sp_Pages_admits, if_neg c_1, if_pos c_78, if_pos c_137, if_neg c_138, if_pos c_139, if_pos c_140, if_neg c_142], Or.inr rfl⟩
            · refine lv_iconst (v := 0) hx hb d_Pages_admits_89 rfl ?_
              exact rz () hx hb hr hlocks rfl hP hD hS d_Pages_admits_90 ⟨by simp only [sp_Pages_admits, if_neg c_1, if_pos c_78, if_pos c_137, if_neg c_138, if_pos c_139, if_neg c_140], Or.inl rfl⟩
          · refine lv_sipush (v := 196) hx hb d_Pages_admits_70 rfl ?_
            refine lv_goto (tgt := 78) hx hb d_Pages_admits_73 (by decide) ?_
            refine lv_istore (lv' := [(6, .int 196), (5, .int 0), (4, .int 1), (0, .int x0), (1, .ref (g (i + 1))), (2, .int x2), (3, .int x3)]) hx hb d_Pages_admits_78 hl (by decide) rfl (fun ls hl => ?_)
            refine lv_iload_n hx hb d_Pages_admits_80 rfl (lv_at hl 3 rfl) ?_
            refine lv_iload hx hb d_Pages_admits_81 (lv_at hl 0 rfl) ?_
            refine lv_iand hx hb d_Pages_admits_83 ?_
            refine lv_iload hx hb d_Pages_admits_84 (lv_at hl 0 rfl) ?_
            refine lv_icmp_eq (tgt := 91) hx hb d_Pages_admits_86 (by decide) (fun c_143 => ?_) (fun c_143 => ?_)
            · refine lv_aload_n hx hb d_Pages_admits_91 rfl (lv_at hl 4 rfl) ?_
              refine va_gets hx hb (hF.2.1.1 0 (by decide)).1 hS hown (hts _ k_314) (fun _ h9 => h9) d_Pages_admits_92 ?_
              refine lv_acmp_ne (rx := some (g (i + 1))) (ry := some (g (0 + 1))) (tgt := 111) hx hb d_Pages_admits_95 (by decide) (fun h9 => absurd (by rw [c_137]) h9) (fun _ => ?_)
              refine lv_iload_n hx hb d_Pages_admits_98 rfl (lv_at hl 3 rfl) ?_
              refine lv_bipush (v := 8) hx hb d_Pages_admits_99 rfl ?_
              refine lv_iand hx hb d_Pages_admits_101 ?_
              refine lv_if_eq (tgt := 109) hx hb d_Pages_admits_102 (by decide) (fun c_145 => ?_) (fun c_145 => ?_)
              · refine lv_iconst (v := 0) hx hb d_Pages_admits_109 rfl ?_
                exact rz () hx hb hr hlocks rfl hP hD hS d_Pages_admits_110 ⟨by simp only [sp_Pages_admits, if_neg c_1, if_pos c_78, if_pos c_137, if_neg c_138, if_neg c_139, if_pos c_143, if_pos c_145], Or.inl rfl⟩
              · refine lv_iconst (v := 1) hx hb d_Pages_admits_105 rfl ?_
                refine lv_goto (tgt := 110) hx hb d_Pages_admits_106 (by decide) ?_
                exact rz () hx hb hr hlocks rfl hP hD hS d_Pages_admits_110 ⟨by simp only [sp_Pages_admits, if_neg c_1, if_pos c_78, if_pos c_137, if_neg c_138, if_neg c_139, if_pos c_143, if_neg c_145], Or.inr rfl⟩
            · refine lv_iconst (v := 0) hx hb d_Pages_admits_89 rfl ?_
              exact rz () hx hb hr hlocks rfl hP hD hS d_Pages_admits_90 ⟨by simp only [sp_Pages_admits, if_neg c_1, if_pos c_78, if_pos c_137, if_neg c_138, if_neg c_139, if_neg c_143], Or.inl rfl⟩
        · refine lv_iload hx hb d_Pages_admits_51 (lv_at hl 1 rfl) ?_
          refine lv_if_eq (tgt := 63) hx hb d_Pages_admits_53 (by decide) (fun h9 => absurd h9 (by decide)) (fun _ => ?_)
          refine lv_iload hx hb d_Pages_admits_56 (lv_at hl 0 rfl) ?_
          refine lv_if_ne (tgt := 63) hx hb d_Pages_admits_58 (by decide) (fun h9 => absurd (by decide) h9) (fun _ => ?_)
          refine lv_iconst (v := 0) hx hb d_Pages_admits_61 rfl ?_
          exact rz () hx hb hr hlocks rfl hP hD hS d_Pages_admits_62 ⟨by simp only [sp_Pages_admits, if_neg c_1, if_pos c_78, if_pos c_137, if_pos c_138], Or.inl rfl⟩
      · have c_137 : ¬ i = 0 := fun h9 => b_137 (by rw [h9])
        refine lv_iload_n hx hb d_Pages_admits_32 rfl (lv_at hl 4 rfl) ?_
        refine lv_ldc (v := 262144) hx hb hown (hts _ k_315) d_Pages_admits_33 ?_
        refine lv_iand hx hb d_Pages_admits_35 ?_
        refine lv_if_eq (tgt := 43) hx hb d_Pages_admits_36 (by decide) (fun c_148 => ?_) (fun c_148 => ?_)
        · refine lv_iconst (v := 0) hx hb d_Pages_admits_43 rfl ?_
          refine lv_istore (lv' := [(5, .int 0), (4, .int 1), (0, .int x0), (1, .ref (g (i + 1))), (2, .int x2), (3, .int x3)]) hx hb d_Pages_admits_44 hl (by decide) rfl (fun ls hl => ?_)
          refine lv_iload_n hx hb d_Pages_admits_46 rfl (lv_at hl 4 rfl) ?_
          refine lv_iconst (v := 1) hx hb d_Pages_admits_47 rfl ?_
          refine lv_icmp_ne (tgt := 63) hx hb d_Pages_admits_48 (by decide) (fun c_149 => ?_) (fun c_149 => ?_)
          · refine lv_aload_n hx hb d_Pages_admits_63 rfl (lv_at hl 3 rfl) ?_
            refine va_getE (E := R_Access) (nm := nmA) (F := FlA) (ad := fun i => g (i + 1)) (i := i) (q := q_stores) hx hb hF.2.1 hi hS hown (List.mem_of_getElem? (i := 4) rfl) (hts _ k_941) (fun _ h9 => h9) d_Pages_admits_64 ?_
            refine W.eq (g2 := F0 m 67 ls [.int (aF_stores.getD i 0)]) rfl ?_
            refine lv_if_eq (tgt := 76) hx hb d_Pages_admits_67 (by decide) (fun c_150 => ?_) (fun c_150 => ?_)
            · refine lv_bipush (v := 64) hx hb d_Pages_admits_76 rfl ?_
              refine lv_istore (lv' := [(6, .int 64), (5, .int 0), (4, .int 1), (0, .int x0), (1, .ref (g (i + 1))), (2, .int x2), (3, .int x3)]) hx hb d_Pages_admits_78 hl (by decide) rfl (fun ls hl => ?_)
              refine lv_iload_n hx hb d_Pages_admits_80 rfl (lv_at hl 3 rfl) ?_
              refine lv_iload hx hb d_Pages_admits_81 (lv_at hl 0 rfl) ?_
              refine lv_iand hx hb d_Pages_admits_83 ?_
              refine lv_iload hx hb d_Pages_admits_84 (lv_at hl 0 rfl) ?_
              refine lv_icmp_eq (tgt := 91) hx hb d_Pages_admits_86 (by decide) (fun c_151 => ?_) (fun c_151 => ?_)
              · refine lv_aload_n hx hb d_Pages_admits_91 rfl (lv_at hl 4 rfl) ?_
                refine va_gets hx hb (hF.2.1.1 0 (by decide)).1 hS hown (hts _ k_314) (fun _ h9 => h9) d_Pages_admits_92 ?_
                refine lv_acmp_ne (rx := some (g (i + 1))) (ry := some (g (0 + 1))) (tgt := 111) hx hb d_Pages_admits_95 (by decide) (fun _ => ?_) (fun h9 => absurd (hF.2.1.2 _ _ hi (by decide) (Option.some.inj h9)) c_137)
                refine lv_iload_n hx hb d_Pages_admits_111 rfl (lv_at hl 6 rfl) ?_
                refine lv_ldc (v := 524288) hx hb hown (hts _ k_316) d_Pages_admits_112 ?_
                refine lv_iand hx hb d_Pages_admits_114 ?_
                refine lv_if_eq (tgt := 123) hx hb d_Pages_admits_115 (by decide) (fun c_153 => ?_) (fun c_153 => ?_)
                · refine lv_iconst (v := 2) hx hb d_Pages_admits_123 rfl ?_
                  refine lv_istore (lv' := [(7, .int 2), (6, .int 64), (5, .int 0), (4, .int 1), (0, .int x0), (1, .ref (g (i + 1))), (2, .int x2), (3, .int x3)]) hx hb d_Pages_admits_124 hl (by decide) rfl (fun ls hl => ?_)
                  refine lv_aload_n hx hb d_Pages_admits_126 rfl (lv_at hl 5 rfl) ?_
                  refine va_getE (E := R_Access) (nm := nmA) (F := FlA) (ad := fun i => g (i + 1)) (i := i) (q := q_stores) hx hb hF.2.1 hi hS hown (List.mem_of_getElem? (i := 4) rfl) (hts _ k_941) (fun _ h9 => h9) d_Pages_admits_127 ?_
                  refine W.eq (g2 := F0 m 130 ls [.int (aF_stores.getD i 0)]) rfl ?_
                  refine lv_if_ne (tgt := 140) hx hb d_Pages_admits_130 (by decide) (fun h9 => absurd c_150 h9) (fun _ => ?_)
                  refine lv_iload_n hx hb d_Pages_admits_133 rfl (lv_at hl 4 rfl) ?_
                  refine lv_iload hx hb d_Pages_admits_134 (lv_at hl 0 rfl) ?_
                  refine lv_iand hx hb d_Pages_admits_136 ?_
                  refine lv_if_eq (tgt := 144) hx hb d_Pages_admits_137 (by decide) (fun c_155 => ?_) (fun c_155 => ?_)
                  · refine lv_iconst (v := 0) hx hb d_Pages_admits_144 rfl ?_
                    exact rz () hx hb hr hlocks rfl hP hD hS d_Pages_admits_145 ⟨by simp only [sp_Pages_admits, if_neg c_1, if_pos c_78, if_neg c_137, if_pos c_148, if_neg c_149, if_pos c_150, if_pos c_151, if_pos c_153, if_pos c_155], Or.inl rfl⟩
                  · refine lv_iconst (v := 1) hx hb d_Pages_admits_140 rfl ?_
                    refine lv_goto (tgt := 145) hx hb d_Pages_admits_141 (by decide) ?_
                    exact rz () hx hb hr hlocks rfl hP hD hS d_Pages_admits_145 ⟨by simp only [sp_Pages_admits, if_neg c_1, if_pos c_78, if_neg c_137, if_pos c_148, if_neg c_149, if_pos c_150, if_pos c_151, if_pos c_153, if_neg c_155], Or.inr rfl⟩
                · refine lv_bipush (v := 10) hx hb d_Pages_admits_118 rfl ?_
                  refine lv_goto (tgt := 124) hx hb d_Pages_admits_120 (by decide) ?_
                  refine lv_istore (lv' := [(7, .int 10), (6, .int 64), (5, .int 0), (4, .int 1), (0, .int x0), (1, .ref (g (i + 1))), (2, .int x2), (3, .int x3)]) hx hb d_Pages_admits_124 hl (by decide) rfl (fun ls hl => ?_)
                  refine lv_aload_n hx hb d_Pages_admits_126 rfl (lv_at hl 5 rfl) ?_
                  refine va_getE (E := R_Access) (nm := nmA) (F := FlA) (ad := fun i => g (i + 1)) (i := i) (q := q_stores) hx hb hF.2.1 hi hS hown (List.mem_of_getElem? (i := 4) rfl) (hts _ k_941) (fun _ h9 => h9) d_Pages_admits_127 ?_
                  refine W.eq (g2 := F0 m 130 ls [.int (aF_stores.getD i 0)]) rfl ?_
                  refine lv_if_ne (tgt := 140) hx hb d_Pages_admits_130 (by decide) (fun h9 => absurd c_150 h9) (fun _ => ?_)
                  refine lv_iload_n hx hb d_Pages_admits_133 rfl (lv_at hl 4 rfl) ?_
                  refine lv_iload hx hb d_Pages_admits_134 (lv_at hl 0 rfl) ?_
                  refine lv_iand hx hb d_Pages_admits_136 ?_
                  refine lv_if_eq (tgt := 144) hx hb d_Pages_admits_137 (by decide) (fun c_157 => ?_) (fun c_157 => ?_)
                  · refine lv_iconst (v := 0) hx hb d_Pages_admits_144 rfl ?_
                    exact rz () hx hb hr hlocks rfl hP hD hS d_Pages_admits_145 ⟨by simp only [sp_Pages_admits, if_neg c_1, if_pos c_78, if_neg c_137, if_pos c_148, if_neg c_149, if_pos c_150, if_pos c_151, if_neg c_153, if_pos c_157], Or.inl rfl⟩
                  · refine lv_iconst (v := 1) hx hb d_Pages_admits_140 rfl ?_
                    refine lv_goto (tgt := 145) hx hb d_Pages_admits_141 (by decide) ?_
                    exact rz () hx hb hr hlocks rfl hP hD hS d_Pages_admits_145 ⟨by simp only [sp_Pages_admits, if_neg c_1, if_pos c_78, if_neg c_137, if_pos c_148, if_neg c_149, if_pos c_150, if_pos c_151, if_neg c_153, if_neg c_157], Or.inr rfl⟩
              · refine lv_iconst (v := 0) hx hb d_Pages_admits_89 rfl ?_
                exact rz () hx hb hr hlocks rfl hP hD hS d_Pages_admits_90 ⟨by simp only [sp_Pages_admits, if_neg c_1, if_pos c_78, if_neg c_137, if_pos c_148, if_neg c_149, if_pos c_150, if_neg c_151], Or.inl rfl⟩
            · refine lv_sipush (v := 196) hx hb d_Pages_admits_70 rfl ?_
              refine lv_goto (tgt := 78) hx hb d_Pages_admits_73 (by decide) ?_
              refine lv_istore (lv' := [(6, .int 196), (5, .int 0), (4, .int 1), (0, .int x0), (1, .ref (g (i + 1))), (2, .int x2), (3, .int x3)]) hx hb d_Pages_admits_78 hl (by decide) rfl (fun ls hl => ?_)
              refine lv_iload_n hx hb d_Pages_admits_80 rfl (lv_at hl 3 rfl) ?_
              refine lv_iload hx hb d_Pages_admits_81 (lv_at hl 0 rfl) ?_
              refine lv_iand hx hb d_Pages_admits_83 ?_
              refine lv_iload hx hb d_Pages_admits_84 (lv_at hl 0 rfl) ?_
              refine lv_icmp_eq (tgt := 91) hx hb d_Pages_admits_86 (by decide) (fun c_158 => ?_) (fun c_158 => ?_)
              · refine lv_aload_n hx hb d_Pages_admits_91 rfl (lv_at hl 4 rfl) ?_
                refine va_gets hx hb (hF.2.1.1 0 (by decide)).1 hS hown (hts _ k_314) (fun _ h9 => h9) d_Pages_admits_92 ?_
                refine lv_acmp_ne (rx := some (g (i + 1))) (ry := some (g (0 + 1))) (tgt := 111) hx hb d_Pages_admits_95 (by decide) (fun _ => ?_) (fun h9 => absurd (hF.2.1.2 _ _ hi (by decide) (Option.some.inj h9)) c_137)
                refine lv_iload_n hx hb d_Pages_admits_111 rfl (lv_at hl 6 rfl) ?_
                refine lv_ldc (v := 524288) hx hb hown (hts _ k_316) d_Pages_admits_112 ?_
                refine lv_iand hx hb d_Pages_admits_114 ?_
                refine lv_if_eq (tgt := 123) hx hb d_Pages_admits_115 (by decide) (fun c_160 => ?_) (fun c_160 => ?_)
                · refine lv_iconst (v := 2) hx hb d_Pages_admits_123 rfl ?_
                  refine lv_istore (lv' := [(7, .int 2), (6, .int 196), (5, .int 0), (4, .int 1), (0, .int x0), (1, .ref (g (i + 1))), (2, .int x2), (3, .int x3)]) hx hb d_Pages_admits_124 hl (by decide) rfl (fun ls hl => ?_)
                  refine lv_aload_n hx hb d_Pages_admits_126 rfl (lv_at hl 5 rfl) ?_
                  refine va_getE (E := R_Access) (nm := nmA) (F := FlA) (ad := fun i => g (i + 1)) (i := i) (q := q_stores) hx hb hF.2.1 hi hS hown (List.mem_of_getElem? (i := 4) rfl) (hts _ k_941) (fun _ h9 => h9) d_Pages_admits_127 ?_
                  refine W.eq (g2 := F0 m 130 ls [.int (aF_stores.getD i 0)]) rfl ?_
                  refine lv_if_ne (tgt := 140) hx hb d_Pages_admits_130 (by decide) (fun _ => ?_) (fun h9 => absurd h9 c_150)
                  refine lv_iconst (v := 1) hx hb d_Pages_admits_140 rfl ?_
                  refine lv_goto (tgt := 145) hx hb d_Pages_admits_141 (by decide) ?_
                  exact rz () hx hb hr hlocks rfl hP hD hS d_Pages_admits_145 ⟨by simp only [sp_Pages_admits, if_neg c_1, if_pos c_78, if_neg c_137, if_pos c_148, if_neg c_149, if_neg c_150, if_pos c_158, if_pos c_160], Or.inr rfl⟩
                · refine lv_bipush (v := 10) hx hb d_Pages_admits_118 rfl ?_
                  refine lv_goto (tgt := 124) hx hb d_Pages_admits_120 (by decide) ?_
                  refine lv_istore (lv' := [(7, .int 10), (6, .int 196), (5, .int 0), (4, .int 1), (0, .int x0), (1, .ref (g (i + 1))), (2, .int x2), (3, .int x3)]) hx hb d_Pages_admits_124 hl (by decide) rfl (fun ls hl => ?_)
                  refine lv_aload_n hx hb d_Pages_admits_126 rfl (lv_at hl 5 rfl) ?_
                  refine va_getE (E := R_Access) (nm := nmA) (F := FlA) (ad := fun i => g (i + 1)) (i := i) (q := q_stores) hx hb hF.2.1 hi hS hown (List.mem_of_getElem? (i := 4) rfl) (hts _ k_941) (fun _ h9 => h9) d_Pages_admits_127 ?_
                  refine W.eq (g2 := F0 m 130 ls [.int (aF_stores.getD i 0)]) rfl ?_
                  refine lv_if_ne (tgt := 140) hx hb d_Pages_admits_130 (by decide) (fun _ => ?_) (fun h9 => absurd h9 c_150)
                  refine lv_iconst (v := 1) hx hb d_Pages_admits_140 rfl ?_
                  refine lv_goto (tgt := 145) hx hb d_Pages_admits_141 (by decide) ?_
                  exact rz () hx hb hr hlocks rfl hP hD hS d_Pages_admits_145 ⟨by simp only [sp_Pages_admits, if_neg c_1, if_pos c_78, if_neg c_137, if_pos c_148, if_neg c_149, if_neg c_150, if_pos c_158, if_neg c_160], Or.inr rfl⟩
              · refine lv_iconst (v := 0) hx hb d_Pages_admits_89 rfl ?_
                exact rz () hx hb hr hlocks rfl hP hD hS d_Pages_admits_90 ⟨by simp only [sp_Pages_admits, if_neg c_1, if_pos c_78, if_neg c_137, if_pos c_148, if_neg c_149, if_neg c_150, if_neg c_158], Or.inl rfl⟩
          · refine lv_iload hx hb d_Pages_admits_51 (lv_at hl 1 rfl) ?_
            refine lv_if_eq (tgt := 63) hx hb d_Pages_admits_53 (by decide) (fun h9 => absurd h9 (by decide)) (fun _ => ?_)
            refine lv_iload hx hb d_Pages_admits_56 (lv_at hl 0 rfl) ?_
            refine lv_if_ne (tgt := 63) hx hb d_Pages_admits_58 (by decide) (fun h9 => absurd (by decide) h9) (fun _ => ?_)
            refine lv_iconst (v := 0) hx hb d_Pages_admits_61 rfl ?_
            exact rz () hx hb hr hlocks rfl hP hD hS d_Pages_admits_62 ⟨by simp only [sp_Pages_admits, if_neg c_1, if_pos c_78, if_neg c_137, if_pos c_148, if_pos c_149], Or.inl rfl⟩
        · refine lv_iconst (v := 1) hx hb d_Pages_admits_39 rfl ?_
          refine lv_goto (tgt := 44) hx hb d_Pages_admits_40 (by decide) ?_
          refine lv_istore (lv' := [(5, .int 1), (4, .int 1), (0, .int x0), (1, .ref (g (i + 1))), (2, .int x2), (3, .int x3)]) hx hb d_Pages_admits_44 hl (by decide) rfl (fun ls hl => ?_)
          refine lv_iload_n hx hb d_Pages_admits_46 rfl (lv_at hl 4 rfl) ?_
          refine lv_iconst (v := 1) hx hb d_Pages_admits_47 rfl ?_
          refine lv_icmp_ne (tgt := 63) hx hb d_Pages_admits_48 (by decide) (fun c_165 => ?_) (fun c_165 => ?_)
          · refine lv_aload_n hx hb d_Pages_admits_63 rfl (lv_at hl 3 rfl) ?_
            refine va_getE (E := R_Access) (nm := nmA) (F := FlA) (ad := fun i => g (i + 1)) (i := i) (q := q_stores) hx hb hF.2.1 hi hS hown (List.mem_of_getElem? (i := 4) rfl) (hts _ k_941) (fun _ h9 => h9) d_Pages_admits_64 ?_
            refine W.eq (g2 := F0 m 67 ls [.int (aF_stores.getD i 0)]) rfl ?_
            refine lv_if_eq (tgt := 76) hx hb d_Pages_admits_67 (by decide) (fun c_166 => ?_) (fun c_166 => ?_)
            · refine lv_bipush (v := 64) hx hb d_Pages_admits_76 rfl ?_
              refine lv_istore (lv' := [(6, .int 64), (5, .int 1), (4, .int 1), (0, .int x0), (1, .ref (g (i + 1))), (2, .int x2), (3, .int x3)]) hx hb d_Pages_admits_78 hl (by decide) rfl (fun ls hl => ?_)
              refine lv_iload_n hx hb d_Pages_admits_80 rfl (lv_at hl 3 rfl) ?_
              refine lv_iload hx hb d_Pages_admits_81 (lv_at hl 0 rfl) ?_
              refine lv_iand hx hb d_Pages_admits_83 ?_
              refine lv_iload hx hb d_Pages_admits_84 (lv_at hl 0 rfl) ?_
              refine lv_icmp_eq (tgt := 91) hx hb d_Pages_admits_86 (by decide) (fun c_167 => ?_) (fun c_167 => ?_)
              · refine lv_aload_n hx hb d_Pages_admits_91 rfl (lv_at hl 4 rfl) ?_
                refine va_gets hx hb (hF.2.1.1 0 (by decide)).1 hS hown (hts _ k_314) (fun _ h9 => h9) d_Pages_admits_92 ?_
                refine lv_acmp_ne (rx := some (g (i + 1))) (ry := some (g (0 + 1))) (tgt := 111) hx hb d_Pages_admits_95 (by decide) (fun _ => ?_) (fun h9 => absurd (hF.2.1.2 _ _ hi (by decide) (Option.some.inj h9)) c_137)
                refine lv_iload_n hx hb d_Pages_admits_111 rfl (lv_at hl 6 rfl) ?_
                refine lv_ldc (v := 524288) hx hb hown (hts _ k_316) d_Pages_admits_112 ?_
                refine lv_iand hx hb d_Pages_admits_114 ?_
                refine lv_if_eq (tgt := 123) hx hb d_Pages_admits_115 (by decide) (fun c_169 => ?_) (fun c_169 => ?_)
                · refine lv_iconst (v := 2) hx hb d_Pages_admits_123 rfl ?_
                  refine lv_istore (lv' := [(7, .int 2), (6, .int 64), (5, .int 1), (4, .int 1), (0, .int x0), (1, .ref (g (i + 1))), (2, .int x2), (3, .int x3)]) hx hb d_Pages_admits_124 hl (by decide) rfl (fun ls hl => ?_)
                  refine lv_aload_n hx hb d_Pages_admits_126 rfl (lv_at hl 5 rfl) ?_
                  refine va_getE (E := R_Access) (nm := nmA) (F := FlA) (ad := fun i => g (i + 1)) (i := i) (q := q_stores) hx hb hF.2.1 hi hS hown (List.mem_of_getElem? (i := 4) rfl) (hts _ k_941) (fun _ h9 => h9) d_Pages_admits_127 ?_
                  refine W.eq (g2 := F0 m 130 ls [.int (aF_stores.getD i 0)]) rfl ?_
                  refine lv_if_ne (tgt := 140) hx hb d_Pages_admits_130 (by decide) (fun h9 => absurd c_166 h9) (fun _ => ?_)
                  refine lv_iload_n hx hb d_Pages_admits_133 rfl (lv_at hl 4 rfl) ?_
                  refine lv_iload hx hb d_Pages_admits_134 (lv_at hl 0 rfl) ?_
                  refine lv_iand hx hb d_Pages_admits_136 ?_
                  refine lv_if_eq (tgt := 144) hx hb d_Pages_admits_137 (by decide) (fun c_171 => ?_) (fun c_171 => ?_)
                  · refine lv_iconst (v := 0) hx hb d_Pages_admits_144 rfl ?_
                    exact rz () hx hb hr hlocks rfl hP hD hS d_Pages_admits_145 ⟨by simp only [sp_Pages_admits, if_neg c_1, if_pos c_78, if_neg c_137, if_neg c_148, if_neg c_165, if_pos c_166, if_pos c_167, if_pos c_169, if_pos c_171], Or.inl rfl⟩
                  · refine lv_iconst (v := 1) hx hb d_Pages_admits_140 rfl ?_
                    refine lv_goto (tgt := 145) hx hb d_Pages_admits_141 (by decide) ?_
                    exact rz () hx hb hr hlocks rfl hP hD hS d_Pages_admits_145 ⟨by simp only [sp_Pages_admits, if_neg c_1, if_pos c_78, if_neg c_137, if_neg c_148, if_neg c_165, if_pos c_166, if_pos c_167, if_pos c_169, if_neg c_171], Or.inr rfl⟩
                · refine lv_bipush (v := 10) hx hb d_Pages_admits_118 rfl ?_
                  refine lv_goto (tgt := 124) hx hb d_Pages_admits_120 (by decide) ?_
                  refine lv_istore (lv' := [(7, .int 10), (6, .int 64), (5, .int 1), (4, .int 1), (0, .int x0), (1, .ref (g (i + 1))), (2, .int x2), (3, .int x3)]) hx hb d_Pages_admits_124 hl (by decide) rfl (fun ls hl => ?_)
                  refine lv_aload_n hx hb d_Pages_admits_126 rfl (lv_at hl 5 rfl) ?_
                  refine va_getE (E := R_Access) (nm := nmA) (F := FlA) (ad := fun i => g (i + 1)) (i := i) (q := q_stores) hx hb hF.2.1 hi hS hown (List.mem_of_getElem? (i := 4) rfl) (hts _ k_941) (fun _ h9 => h9) d_Pages_admits_127 ?_
                  refine W.eq (g2 := F0 m 130 ls [.int (aF_stores.getD i 0)]) rfl ?_
                  refine lv_if_ne (tgt := 140) hx hb d_Pages_admits_130 (by decide) (fun h9 => absurd c_166 h9) (fun _ => ?_)
                  refine lv_iload_n hx hb d_Pages_admits_133 rfl (lv_at hl 4 rfl) ?_
                  refine lv_iload hx hb d_Pages_admits_134 (lv_at hl 0 rfl) ?_
                  refine lv_iand hx hb d_Pages_admits_136 ?_
                  refine lv_if_eq (tgt := 144) hx hb d_Pages_admits_137 (by decide) (fun c_173 => ?_) (fun c_173 => ?_)
                  · refine lv_iconst (v := 0) hx hb d_Pages_admits_144 rfl ?_
                    exact rz () hx hb hr hlocks rfl hP hD hS d_Pages_admits_145 ⟨by simp only [sp_Pages_admits, if_neg c_1, if_pos c_78, if_neg c_137, if_neg c_148, if_neg c_165, if_pos c_166, if_pos c_167, if_neg c_169, if_pos c_173], Or.inl rfl⟩
                  · refine lv_iconst (v := 1) hx hb d_Pages_admits_140 rfl ?_
                    refine lv_goto (tgt := 145) hx hb d_Pages_admits_141 (by decide) ?_
                    exact rz () hx hb hr hlocks rfl hP hD hS d_Pages_admits_145 ⟨by simp only [sp_Pages_admits, if_neg c_1, if_pos c_78, if_neg c_137, if_neg c_148, if_neg c_165, if_pos c_166, if_pos c_167, if_neg c_169, if_neg c_173], Or.inr rfl⟩
              · refine lv_iconst (v := 0) hx hb d_Pages_admits_89 rfl ?_
                exact rz () hx hb hr hlocks rfl hP hD hS d_Pages_admits_90 ⟨by simp only [sp_Pages_admits, if_neg c_1, if_pos c_78, if_neg c_137, if_neg c_148, if_neg c_165, if_pos c_166, if_neg c_167], Or.inl rfl⟩
            · refine lv_sipush (v := 196) hx hb d_Pages_admits_70 rfl ?_
              refine lv_goto (tgt := 78) hx hb d_Pages_admits_73 (by decide) ?_
              refine lv_istore (lv' := [(6, .int 196), (5, .int 1), (4, .int 1), (0, .int x0), (1, .ref (g (i + 1))), (2, .int x2), (3, .int x3)]) hx hb d_Pages_admits_78 hl (by decide) rfl (fun ls hl => ?_)
              refine lv_iload_n hx hb d_Pages_admits_80 rfl (lv_at hl 3 rfl) ?_
              refine lv_iload hx hb d_Pages_admits_81 (lv_at hl 0 rfl) ?_
              refine lv_iand hx hb d_Pages_admits_83 ?_
              refine lv_iload hx hb d_Pages_admits_84 (lv_at hl 0 rfl) ?_
              refine lv_icmp_eq (tgt := 91) hx hb d_Pages_admits_86 (by decide) (fun c_174 => ?_) (fun c_174 => ?_)
              · refine lv_aload_n hx hb d_Pages_admits_91 rfl (lv_at hl 4 rfl) ?_
                refine va_gets hx hb (hF.2.1.1 0 (by decide)).1 hS hown (hts _ k_314) (fun _ h9 => h9) d_Pages_admits_92 ?_
                refine lv_acmp_ne (rx := some (g (i + 1))) (ry := some (g (0 + 1))) (tgt := 111) hx hb d_Pages_admits_95 (by decide) (fun _ => ?_) (fun h9 => absurd (hF.2.1.2 _ _ hi (by decide) (Option.some.inj h9)) c_137)
                refine lv_iload_n hx hb d_Pages_admits_111 rfl (lv_at hl 6 rfl) ?_
                refine lv_ldc (v := 524288) hx hb hown (hts _ k_316) d_Pages_admits_112 ?_
                refine lv_iand hx hb d_Pages_admits_114 ?_
                refine lv_if_eq (tgt := 123) hx hb d_Pages_admits_115 (by decide) (fun c_176 => ?_) (fun c_176 => ?_)
                · refine lv_iconst (v := 2) hx hb d_Pages_admits_123 rfl ?_
                  refine lv_istore (lv' := [(7, .int 2), (6, .int 196), (5, .int 1), (4, .int 1), (0, .int x0), (1, .ref (g (i + 1))), (2, .int x2), (3, .int x3)]) hx hb d_Pages_admits_124 hl (by decide) rfl (fun ls hl => ?_)
                  refine lv_aload_n hx hb d_Pages_admits_126 rfl (lv_at hl 5 rfl) ?_
                  refine va_getE (E := R_Access) (nm := nmA) (F := FlA) (ad := fun i => g (i + 1)) (i := i) (q := q_stores) hx hb hF.2.1 hi hS hown (List.mem_of_getElem? (i := 4) rfl) (hts _ k_941) (fun _ h9 => h9) d_Pages_admits_127 ?_
                  refine W.eq (g2 := F0 m 130 ls [.int (aF_stores.getD i 0)]) rfl ?_
                  refine lv_if_ne (tgt := 140) hx hb d_Pages_admits_130 (by decide) (fun _ => ?_) (fun h9 => absurd h9 c_166)
                  refine lv_iconst (v := 1) hx hb d_Pages_admits_140 rfl ?_
                  refine lv_goto (tgt := 145) hx hb d_Pages_admits_141 (by decide) ?_
                  exact rz () hx hb hr hlocks rfl hP hD hS d_Pages_admits_145 ⟨by simp only [sp_Pages_admits, if_neg c_1, if_pos c_78, if_neg c_137, if_neg c_148, if_neg c_165, if_neg c_166, if_pos c_174, if_pos c_176], Or.inr rfl⟩
                · refine lv_bipush (v := 10) hx hb d_Pages_admits_118 rfl ?_
                  refine lv_goto (tgt := 124) hx hb d_Pages_admits_120 (by decide) ?_
                  refine lv_istore (lv' := [(7, .int 10), (6, .int 196), (5, .int 1), (4, .int 1), (0, .int x0), (1, .ref (g (i + 1))), (2, .int x2), (3, .int x3)]) hx hb d_Pages_admits_124 hl (by decide) rfl (fun ls hl => ?_)
                  refine lv_aload_n hx hb d_Pages_admits_126 rfl (lv_at hl 5 rfl) ?_
                  refine va_getE (E := R_Access) (nm := nmA) (F := FlA) (ad := fun i => g (i + 1)) (i := i) (q := q_stores) hx hb hF.2.1 hi hS hown (List.mem_of_getElem? (i := 4) rfl) (hts _ k_941) (fun _ h9 => h9) d_Pages_admits_127 ?_
                  refine W.eq (g2 := F0 m 130 ls [.int (aF_stores.getD i 0)]) rfl ?_
                  refine lv_if_ne (tgt := 140) hx hb d_Pages_admits_130 (by decide) (fun _ => ?_) (fun h9 => absurd h9 c_166)
                  refine lv_iconst (v := 1) hx hb d_Pages_admits_140 rfl ?_
                  refine lv_goto (tgt := 145) hx hb d_Pages_admits_141 (by decide) ?_
                  exact rz () hx hb hr hlocks rfl hP hD hS d_Pages_admits_145 ⟨by simp only [sp_Pages_admits, if_neg c_1, if_pos c_78, if_neg c_137, if_neg c_148, if_neg c_165, if_neg c_166, if_pos c_174, if_neg c_176], Or.inr rfl⟩
              · refine lv_iconst (v := 0) hx hb d_Pages_admits_89 rfl ?_
                exact rz () hx hb hr hlocks rfl hP hD hS d_Pages_admits_90 ⟨by simp only [sp_Pages_admits, if_neg c_1, if_pos c_78, if_neg c_137, if_neg c_148, if_neg c_165, if_neg c_166, if_neg c_174], Or.inl rfl⟩
          · refine lv_iload hx hb d_Pages_admits_51 (lv_at hl 1 rfl) ?_
            refine lv_if_eq (tgt := 63) hx hb d_Pages_admits_53 (by decide) (fun h9 => absurd h9 (by decide)) (fun _ => ?_)
            refine lv_iload hx hb d_Pages_admits_56 (lv_at hl 0 rfl) ?_
            refine lv_if_ne (tgt := 63) hx hb d_Pages_admits_58 (by decide) (fun _ => ?_) (fun h9 => absurd h9 (by decide))
            refine lv_aload_n hx hb d_Pages_admits_63 rfl (lv_at hl 3 rfl) ?_
            refine va_getE (E := R_Access) (nm := nmA) (F := FlA) (ad := fun i => g (i + 1)) (i := i) (q := q_stores) hx hb hF.2.1 hi hS hown (List.mem_of_getElem? (i := 4) rfl) (hts _ k_941) (fun _ h9 => h9) d_Pages_admits_64 ?_
            refine W.eq (g2 := F0 m 67 ls [.int (aF_stores.getD i 0)]) rfl ?_
            refine lv_if_eq (tgt := 76) hx hb d_Pages_admits_67 (by decide) (fun c_181 => ?_) (fun c_181 => ?_)
            · refine lv_bipush (v := 64) hx hb d_Pages_admits_76 rfl ?_
              refine lv_istore (lv' := [(6, .int 64), (5, .int 1), (4, .int 1), (0, .int x0), (1, .ref (g (i + 1))), (2, .int x2), (3, .int x3)]) hx hb d_Pages_admits_78 hl (by decide) rfl (fun ls hl => ?_)
              refine lv_iload_n hx hb d_Pages_admits_80 rfl (lv_at hl 3 rfl) ?_
              refine lv_iload hx hb d_Pages_admits_81 (lv_at hl 0 rfl) ?_
              refine lv_iand hx hb d_Pages_admits_83 ?_
              refine lv_iload hx hb d_Pages_admits_84 (lv_at hl 0 rfl) ?_
              refine lv_icmp_eq (tgt := 91) hx hb d_Pages_admits_86 (by decide) (fun c_182 => ?_) (fun c_182 => ?_)
              · refine lv_aload_n hx hb d_Pages_admits_91 rfl (lv_at hl 4 rfl) ?_
                refine va_gets hx hb (hF.2.1.1 0 (by decide)).1 hS hown (hts _ k_314) (fun _ h9 => h9) d_Pages_admits_92 ?_
                refine lv_acmp_ne (rx := some (g (i + 1))) (ry := some (g (0 + 1))) (tgt := 111) hx hb d_Pages_admits_95 (by decide) (fun _ => ?_) (fun h9 => absurd (hF.2.1.2 _ _ hi (by decide) (Option.some.inj h9)) c_137)
                refine lv_iload_n hx hb d_Pages_admits_111 rfl (lv_at hl 6 rfl) ?_
                refine lv_ldc (v := 524288) hx hb hown (hts _ k_316) d_Pages_admits_112 ?_
                refine lv_iand hx hb d_Pages_admits_114 ?_
                refine lv_if_eq (tgt := 123) hx hb d_Pages_admits_115 (by decide) (fun c_184 => ?_) (fun c_184 => ?_)
                · refine lv_iconst (v := 2) hx hb d_Pages_admits_123 rfl ?_
                  refine lv_istore (lv' := [(7, .int 2), (6, .int 64), (5, .int 1), (4, .int 1), (0, .int x0), (1, .ref (g (i + 1))), (2, .int x2), (3, .int x3)]) hx hb d_Pages_admits_124 hl (by decide) rfl (fun ls hl => ?_)
                  refine lv_aload_n hx hb d_Pages_admits_126 rfl (lv_at hl 5 rfl) ?_
                  refine va_getE (E := R_Access) (nm := nmA) (F := FlA) (ad := fun i => g (i + 1)) (i := i) (q := q_stores) hx hb hF.2.1 hi hS hown (List.mem_of_getElem? (i := 4) rfl) (hts _ k_941) (fun _ h9 => h9) d_Pages_admits_127 ?_
                  refine W.eq (g2 := F0 m 130 ls [.int (aF_stores.getD i 0)]) rfl ?_
                  refine lv_if_ne (tgt := 140) hx hb d_Pages_admits_130 (by decide) (fun h9 => absurd c_181 h9) (fun _ => ?_)
                  refine lv_iload_n hx hb d_Pages_admits_133 rfl (lv_at hl 4 rfl) ?_
                  refine lv_iload hx hb d_Pages_admits_134 (lv_at hl 0 rfl) ?_
                  refine lv_iand hx hb d_Pages_admits_136 ?_
                  refine lv_if_eq (tgt := 144) hx hb d_Pages_admits_137 (by decide) (fun c_186 => ?_) (fun c_186 => ?_)
                  · refine lv_iconst (v := 0) hx hb d_Pages_admits_144 rfl ?_
                    exact rz () hx hb hr hlocks rfl hP hD hS d_Pages_admits_145 ⟨by simp only [sp_Pages_admits, if_neg c_1, if_pos c_78, if_neg c_137, if_neg c_148, if_pos c_165, if_pos c_181, if_pos c_182, if_pos c_184, if_pos c_186], Or.inl rfl⟩
                  · refine lv_iconst (v := 1) hx hb d_Pages_admits_140 rfl ?_
                    refine lv_goto (tgt := 145) hx hb d_Pages_admits_141 (by decide) ?_
                    exact rz () hx hb hr hlocks rfl hP hD hS d_Pages_admits_145 ⟨by simp only [sp_Pages_admits, if_neg c_1, if_pos c_78, if_neg c_137, if_neg c_148, if_pos c_165, if_pos c_181, if_pos c_182, if_pos c_184, if_neg c_186], Or.inr rfl⟩
                · refine lv_bipush (v := 10) hx hb d_Pages_admits_118 rfl ?_
                  refine lv_goto (tgt := 124) hx hb d_Pages_admits_120 (by decide) ?_
                  refine lv_istore (lv' := [(7, .int 10), (6, .int 64), (5, .int 1), (4, .int 1), (0, .int x0), (1, .ref (g (i + 1))), (2, .int x2), (3, .int x3)]) hx hb d_Pages_admits_124 hl (by decide) rfl (fun ls hl => ?_)
                  refine lv_aload_n hx hb d_Pages_admits_126 rfl (lv_at hl 5 rfl) ?_
                  refine va_getE (E := R_Access) (nm := nmA) (F := FlA) (ad := fun i => g (i + 1)) (i := i) (q := q_stores) hx hb hF.2.1 hi hS hown (List.mem_of_getElem? (i := 4) rfl) (hts _ k_941) (fun _ h9 => h9) d_Pages_admits_127 ?_
                  refine W.eq (g2 := F0 m 130 ls [.int (aF_stores.getD i 0)]) rfl ?_
                  refine lv_if_ne (tgt := 140) hx hb d_Pages_admits_130 (by decide) (fun h9 => absurd c_181 h9) (fun _ => ?_)
                  refine lv_iload_n hx hb d_Pages_admits_133 rfl (lv_at hl 4 rfl) ?_
                  refine lv_iload hx hb d_Pages_admits_134 (lv_at hl 0 rfl) ?_
                  refine lv_iand hx hb d_Pages_admits_136 ?_
                  refine lv_if_eq (tgt := 144) hx hb d_Pages_admits_137 (by decide) (fun c_188 => ?_) (fun c_188 => ?_)
                  · refine lv_iconst (v := 0) hx hb d_Pages_admits_144 rfl ?_
                    exact rz () hx hb hr hlocks rfl hP hD hS d_Pages_admits_145 ⟨by simp only [sp_Pages_admits, if_neg c_1, if_pos c_78, if_neg c_137, if_neg c_148, if_pos c_165, if_pos c_181, if_pos c_182, if_neg c_184, if_pos c_188], Or.inl rfl⟩
                  · refine lv_iconst (v := 1) hx hb d_Pages_admits_140 rfl ?_
                    refine lv_goto (tgt := 145) hx hb d_Pages_admits_141 (by decide) ?_
                    exact rz () hx hb hr hlocks rfl hP hD hS d_Pages_admits_145 ⟨by simp only [sp_Pages_admits, if_neg c_1, if_pos c_78, if_neg c_137, if_neg c_148, if_pos c_165, if_pos c_181, if_pos c_182, if_neg c_184, if_neg c_188], Or.inr rfl⟩
              · refine lv_iconst (v := 0) hx hb d_Pages_admits_89 rfl ?_
                exact rz () hx hb hr hlocks rfl hP hD hS d_Pages_admits_90 ⟨by simp only [sp_Pages_admits, if_neg c_1, if_pos c_78, if_neg c_137, if_neg c_148, if_pos c_165, if_pos c_181, if_neg c_182], Or.inl rfl⟩
            · refine lv_sipush (v := 196) hx hb d_Pages_admits_70 rfl ?_
              refine lv_goto (tgt := 78) hx hb d_Pages_admits_73 (by decide) ?_
              refine lv_istore (lv' := [(6, .int 196), (5, .int 1), (4, .int 1), (0, .int x0), (1, .ref (g (i + 1))), (2, .int x2), (3, .int x3)]) hx hb d_Pages_admits_78 hl (by decide) rfl (fun ls hl => ?_)
              refine lv_iload_n hx hb d_Pages_admits_80 rfl (lv_at hl 3 rfl) ?_
              refine lv_iload hx hb d_Pages_admits_81 (lv_at hl 0 rfl) ?_
              refine lv_iand hx hb d_Pages_admits_83 ?_
              refine lv_iload hx hb d_Pages_admits_84 (lv_at hl 0 rfl) ?_
              refine lv_icmp_eq (tgt := 91) hx hb d_Pages_admits_86 (by decide) (fun c_189 => ?_) (fun c_189 => ?_)
              · refine lv_aload_n hx hb d_Pages_admits_91 rfl (lv_at hl 4 rfl) ?_
                refine va_gets hx hb (hF.2.1.1 0 (by decide)).1 hS hown (hts _ k_314) (fun _ h9 => h9) d_Pages_admits_92 ?_
                refine lv_acmp_ne (rx := some (g (i + 1))) (ry := some (g (0 + 1))) (tgt := 111) hx hb d_Pages_admits_95 (by decide) (fun _ => ?_) (fun h9 => absurd (hF.2.1.2 _ _ hi (by decide) (Option.some.inj h9)) c_137)
                refine lv_iload_n hx hb d_Pages_admits_111 rfl (lv_at hl 6 rfl) ?_
                refine lv_ldc (v := 524288) hx hb hown (hts _ k_316) d_Pages_admits_112 ?_
                refine lv_iand hx hb d_Pages_admits_114 ?_
                refine lv_if_eq (tgt := 123) hx hb d_Pages_admits_115 (by decide) (fun c_191 => ?_) (fun c_191 => ?_)
                · refine lv_iconst (v := 2) hx hb d_Pages_admits_123 rfl ?_
                  refine lv_istore (lv' := [(7, .int 2), (6, .int 196), (5, .int 1), (4, .int 1), (0, .int x0), (1, .ref (g (i + 1))), (2, .int x2), (3, .int x3)]) hx hb d_Pages_admits_124 hl (by decide) rfl (fun ls hl => ?_)
                  refine lv_aload_n hx hb d_Pages_admits_126 rfl (lv_at hl 5 rfl) ?_
                  refine va_getE (E := R_Access) (nm := nmA) (F := FlA) (ad := fun i => g (i + 1)) (i := i) (q := q_stores) hx hb hF.2.1 hi hS hown (List.mem_of_getElem? (i := 4) rfl) (hts _ k_941) (fun _ h9 => h9) d_Pages_admits_127 ?_
                  refine W.eq (g2 := F0 m 130 ls [.int (aF_stores.getD i 0)]) rfl ?_
                  refine lv_if_ne (tgt := 140) hx hb d_Pages_admits_130 (by decide) (fun _ => ?_) (fun h9 => absurd h9 c_181)
                  refine lv_iconst (v := 1) hx hb d_Pages_admits_140 rfl ?_
                  refine lv_goto (tgt := 145) hx hb d_Pages_admits_141 (by decide) ?_
                  exact rz () hx hb hr hlocks rfl hP hD hS d_Pages_admits_145 ⟨by simp only [sp_Pages_admits, if_neg c_1, if_pos c_78, if_neg c_137, if_neg c_148, if_pos c_165, if_neg c_181, if_pos c_189, if_pos c_191], Or.inr rfl⟩
                · refine lv_bipush (v := 10) hx hb d_Pages_admits_118 rfl ?_
                  refine lv_goto (tgt := 124) hx hb d_Pages_admits_120 (by decide) ?_
                  refine lv_istore (lv' := [(7, .int 10), (6, .int 196), (5, .int 1), (4, .int 1), (0, .int x0), (1, .ref (g (i + 1))), (2, .int x2), (3, .int x3)]) hx hb d_Pages_admits_124 hl (by decide) rfl (fun ls hl => ?_)
                  refine lv_aload_n hx hb d_Pages_admits_126 rfl (lv_at hl 5 rfl) ?_
                  refine va_getE (E := R_Access) (nm := nmA) (F := FlA) (ad := fun i => g (i + 1)) (i := i) (q := q_stores) hx hb hF.2.1 hi hS hown (List.mem_of_getElem? (i := 4) rfl) (hts _ k_941) (fun _ h9 => h9) d_Pages_admits_127 ?_
                  refine W.eq (g2 := F0 m 130 ls [.int (aF_stores.getD i 0)]) rfl ?_
                  refine lv_if_ne (tgt := 140) hx hb d_Pages_admits_130 (by decide) (fun _ => ?_) (fun h9 => absurd h9 c_181)
                  refine lv_iconst (v := 1) hx hb d_Pages_admits_140 rfl ?_
                  refine lv_goto (tgt := 145) hx hb d_Pages_admits_141 (by decide) ?_
                  exact rz () hx hb hr hlocks rfl hP hD hS d_Pages_admits_145 ⟨by simp only [sp_Pages_admits, if_neg c_1, if_pos c_78, if_neg c_137, if_neg c_148, if_pos c_165, if_neg c_181, if_pos c_189, if_neg c_191], Or.inr rfl⟩
              · refine lv_iconst (v := 0) hx hb d_Pages_admits_89 rfl ?_
                exact rz () hx hb hr hlocks rfl hP hD hS d_Pages_admits_90 ⟨by simp only [sp_Pages_admits, if_neg c_1, if_pos c_78, if_neg c_137, if_neg c_148, if_pos c_165, if_neg c_181, if_neg c_189], Or.inl rfl⟩
def sp_Pages_placeOf (n : Nat) (id : Int32) (x0 : Int32) (i : Nat) (x2 : Int32) (σ : TH) : Int64 :=
  if (sp_Memory_isRam n (sp_Pages_entryPlace (sp_Csrs_rootPage σ.2.2.2.2.2) (ush x0 22)) σ.1) = 0 then
    sp_Fault_of (aF_accessFault.getD i 0)
  else
    if ((sp_Memory_wordAt n (sp_Pages_entryPlace (sp_Csrs_rootPage σ.2.2.2.2.2) (ush x0 22)) σ.1) &&& 15) = 1 then
      if (sp_Memory_isRam n (sp_Pages_entryPlace (ush (sp_Memory_wordAt n (sp_Pages_entryPlace (sp_Csrs_rootPage σ.2.2.2.2.2) (ush x0 22)) σ.1) 10) ((ush x0 12) &&& 1023)) σ.1) = 0 then
        sp_Fault_of (aF_accessFault.getD i 0)
      else
        if (sp_Pages_isPage (sp_Memory_wordAt n (sp_Pages_entryPlace (ush (sp_Memory_wordAt n (sp_Pages_entryPlace (sp_Csrs_rootPage σ.2.2.2.2.2) (ush x0 22)) σ.1) 10) ((ush x0 12) &&& 1023)) σ.1)) = 0 then
          sp_Fault_of (aF_pageFault.getD i 0)
        else
          if (sp_Pages_admits (sp_Memory_wordAt n (sp_Pages_entryPlace (ush (sp_Memory_wordAt n (sp_Pages_entryPlace (sp_Csrs_rootPage σ.2.2.2.2.2) (ush x0 22)) σ.1) 10) ((ush x0 12) &&& 1023)) σ.1) i x2 (σ.2.2.2.2.2 1)) = 0 then
            sp_Fault_of (aF_pageFault.getD i 0)
          else
            if ((lshl (((ush (sp_Memory_wordAt n (sp_Pages_entryPlace (ush (sp_Memory_wordAt n (sp_Pages_entryPlace (sp_Csrs_rootPage σ.2.2.2.2.2) (ush x0 22)) σ.1) 10) ((ush x0 12) &&& 1023)) σ.1) 10).toInt64) + ((0 : Int32).toInt64)) 12) + ((x0 &&& 4095).toInt64)) ≤ 4294967295 then
              (lshl (((ush (sp_Memory_wordAt n (sp_Pages_entryPlace (ush (sp_Memory_wordAt n (sp_Pages_entryPlace (sp_Csrs_rootPage σ.2.2.2.2.2) (ush x0 22)) σ.1) 10) ((ush x0 12) &&& 1023)) σ.1) 10).toInt64) + ((0 : Int32).toInt64)) 12) + ((x0 &&& 4095).toInt64)
            else
              sp_Fault_of (aF_accessFault.getD i 0)
    else
      if ((ush (sp_Memory_wordAt n (sp_Pages_entryPlace (sp_Csrs_rootPage σ.2.2.2.2.2) (ush x0 22)) σ.1) 10) &&& 1023) = 0 then
        if (sp_Pages_isPage (sp_Memory_wordAt n (sp_Pages_entryPlace (sp_Csrs_rootPage σ.2.2.2.2.2) (ush x0 22)) σ.1)) = 0 then
          sp_Fault_of (aF_pageFault.getD i 0)
        else
          if (sp_Pages_admits (sp_Memory_wordAt n (sp_Pages_entryPlace (sp_Csrs_rootPage σ.2.2.2.2.2) (ush x0 22)) σ.1) i x2 (σ.2.2.2.2.2 1)) = 0 then
            sp_Fault_of (aF_pageFault.getD i 0)
          else
            if ((lshl (((ush (sp_Memory_wordAt n (sp_Pages_entryPlace (sp_Csrs_rootPage σ.2.2.2.2.2) (ush x0 22)) σ.1) 10).toInt64) + (((ush x0 12) &&& 1023).toInt64)) 12) + ((x0 &&& 4095).toInt64)) ≤ 4294967295 then
              (lshl (((ush (sp_Memory_wordAt n (sp_Pages_entryPlace (sp_Csrs_rootPage σ.2.2.2.2.2) (ush x0 22)) σ.1) 10).toInt64) + (((ush x0 12) &&& 1023).toInt64)) 12) + ((x0 &&& 4095).toInt64)
            else
              sp_Fault_of (aF_accessFault.getD i 0)
      else
        sp_Fault_of (aF_pageFault.getD i 0)
set_option maxHeartbeats 4000000 in
set_option maxRecDepth 100000 in
theorem c_Pages_placeOf {l : Launch} {D : va_G} {g : Nat → Nat} (a : Nat → Nat) (k : Nat → ClassId) (n : Nat) (id : Int32) (x0 : Int32) (i : Nat) (x2 : Int32) (σ : TH) (hn : n ≤ 4096) (hid : id = 0 ∨ id = 1) (hi : i < 5) : CT l D g y_Pages_placeOf b_Pages_placeOf 12 (some .long) (rD 2) [.int x0, .ref (g (i + 1)), .int x2, .ref (a 8), .ref (a 0)] (wH a k n id σ) (tyH k) (Ql D (fun (r : Int64) (_ : Unit) => sp_Pages_placeOf n id x0 i x2 σ = r) (fun _ => wH a k n id σ)) := by
  refine CT.of rfl (Nat.le_of_ble_eq_true rfl) (fun p e s m below meth c A ls hx hb hr hml hts hown hlocks hA hP hK hD hF hS hl => ?_)
  have hl : lv_has ls 12 [(0, .int x0), (1, .ref (g (i + 1))), (2, .int x2), (3, .ref (a 8)), (4, .ref (a 0))] := hl
  refine lv_iload_n hx hb d_Pages_placeOf_0 rfl (lv_at hl 0 rfl) ?_
  refine lv_bipush (v := 12) hx hb d_Pages_placeOf_1 rfl ?_
  refine lv_iushr (v := ush x0 12) hx hb d_Pages_placeOf_3 rfl ?_
  refine lv_sipush (v := 1023) hx hb d_Pages_placeOf_4 rfl ?_
  refine lv_iand hx hb d_Pages_placeOf_7 ?_
  refine lv_istore (lv' := [(5, .int ((ush x0 12) &&& 1023)), (0, .int x0), (1, .ref (g (i + 1))), (2, .int x2), (3, .ref (a 8)), (4, .ref (a 0))]) hx hb d_Pages_placeOf_8 hl (by decide) rfl (fun ls hl => ?_)
  refine lv_aload_n hx hb d_Pages_placeOf_10 rfl (lv_at hl 4 rfl) ?_
  refine xi (wr := [((a 0), .inr (1, [.ref (a 3), .ref (a 1), .ref (a 4), .int σ.1.2.2.2.1, .ref (a 5)])), ((a 1), .inr (2, [.ref (a 2)])), ((a 2), .inl ((k 0), 8, .inl σ.1.1)), ((a 3), .inl ((k 1), n, .inl σ.1.2.1)), ((a 4), .inl ((k 2), 256, .inl σ.1.2.2.1)), ((a 5), .inl ((k 3), 2, .inr (.inl σ.1.2.2.2.2))), ((a 6), .inr (4, [.int id, .ref (a 7), .ref (a 8), .int σ.2.2.1, .int σ.2.2.2.1, .int σ.2.2.2.2.1])), ((a 7), .inl ((k 4), 32, .inl σ.2.1))]) (W2 := fun _ => wH a k n id σ) (xV (rest := []) ⟨hx, hb, hml, hown, hts⟩ (c_Csrs_rootPage (a 8) σ.2.2.2.2.2) mw_Csrs_rootPage mv_Csrs_rootPage k_285 ⟨rfl, rfl, Nat.le_of_ble_eq_true rfl, Nat.le_of_ble_eq_true rfl⟩ hK hP hD hS hA hF [8] [] rfl rfl rfl 8 3 rfl rfl rfl rfl hl.1 rfl (Nat.le_of_ble_eq_true rfl) d_Pages_placeOf_11 ⟨Nat.zero_le _, Nat.zero_le _⟩) hP hD hS hA [8] [0, 1, 2, 3, 4, 5, 6, 7] [0, 1, 2, 3, 4, 5, 6, 7, 8] rfl rfl rfl (by decide) (fun _ => rfl) rfl (fun r_1 _ H locs h_1 hP hD hS => ?_)
  subst h_1
  refine lv_iload_n hx hb d_Pages_placeOf_14 rfl (lv_at hl 1 rfl) ?_
  refine lv_bipush (v := 22) hx hb d_Pages_placeOf_15 rfl ?_
  refine lv_iushr (v := ush x0 22) hx hb d_Pages_placeOf_17 rfl ?_
  refine xl (wr := [((a 0), .inr (1, [.ref (a 3), .ref (a 1), .ref (a 4), .int σ.1.2.2.2.1, .ref (a 5)])), ((a 1), .inr (2, [.ref (a 2)])), ((a 2), .inl ((k 0), 8, .inl σ.1.1)), ((a 3), .inl ((k 1), n, .inl σ.1.2.1)), ((a 4), .inl ((k 2), 256, .inl σ.1.2.2.1)), ((a 5), .inl ((k 3), 2, .inr (.inl σ.1.2.2.2.2))), ((a 6), .inr (4, [.int id, .ref (a 7), .ref (a 8), .int σ.2.2.1, .int σ.2.2.2.1, .int σ.2.2.2.2.1])), ((a 7), .inl ((k 4), 32, .inl σ.2.1)), ((a 8), .inr (3, csF σ.2.2.2.2.2))]) (W2 := fun _ => wH a k n id σ) (xS (rest := []) ⟨hx, hb, hml, hown, hts⟩ (c_Pages_entryPlace (sp_Csrs_rootPage σ.2.2.2.2.2) (ush x0 22)) mw_Pages_entryPlace ms_Pages_entryPlace k_290 ⟨rfl, rfl, Nat.le_of_ble_eq_true rfl, Nat.le_of_ble_eq_true rfl⟩ hK hP hD hS hA hF [] [] rfl rfl rfl rfl hl.1 rfl (Nat.le_of_ble_eq_true rfl) d_Pages_placeOf_18 ⟨Nat.zero_le _, Nat.zero_le _⟩) hP hD hS hA [] [0, 1, 2, 3, 4, 5, 6, 7, 8] [0, 1, 2, 3, 4, 5, 6, 7, 8] rfl rfl rfl (by decide) (fun _ => rfl) rfl (fun r_2 _ H locs h_2 hP hD hS => ?_)
  subst h_2
  refine lv_lstore (lv' := [(6, .long (sp_Pages_entryPlace (sp_Csrs_rootPage σ.2.2.2.2.2) (ush x0 22))), (5, .int ((ush x0 12) &&& 1023)), (0, .int x0), (1, .ref (g (i + 1))), (2, .int x2), (3, .ref (a 8)), (4, .ref (a 0))]) hx hb d_Pages_placeOf_21 hl (by decide) rfl (fun ls hl => ?_)
  refine lv_aload hx hb d_Pages_placeOf_23 (lv_at hl 6 rfl) ?_
  refine lv_lload hx hb d_Pages_placeOf_25 (lv_at hl 0 rfl) ?_
  refine xi (wr := [((a 6), .inr (4, [.int id, .ref (a 7), .ref (a 8), .int σ.2.2.1, .int σ.2.2.2.1, .int σ.2.2.2.2.1])), ((a 7), .inl ((k 4), 32, .inl σ.2.1)), ((a 8), .inr (3, csF σ.2.2.2.2.2))]) (W2 := fun _ => wH a k n id σ) (xV (rest := []) ⟨hx, hb, hml, hown, hts⟩ (c_Memory_isRam a k n (sp_Pages_entryPlace (sp_Csrs_rootPage σ.2.2.2.2.2) (ush x0 22)) σ.1 hn) mw_Memory_isRam mv_Memory_isRam k_294 ⟨rfl, rfl, Nat.le_of_ble_eq_true rfl, Nat.le_of_ble_eq_true rfl⟩ hK hP hD hS hA hF [0, 1, 2, 3, 4, 5] [0, 1, 2, 3] rfl rfl rfl 0 1 rfl rfl rfl rfl hl.1 rfl (Nat.le_of_ble_eq_true rfl) d_Pages_placeOf_27 ⟨Nat.zero_le _, Nat.zero_le _⟩) hP hD hS hA [0, 1, 2, 3, 4, 5] [6, 7, 8] [3, 4, 5, 6, 7, 8, 0, 1, 2] rfl rfl rfl (by decide) (fun _ => rfl) rfl (fun r_3 _ H locs h_3 hP hD hS => ?_)
  obtain ⟨h_3, z_3⟩ := h_3
  subst h_3
  refine lv_if_ne (tgt := 41) hx hb d_Pages_placeOf_30 (by decide) (fun c_4 => ?_) (fun c_4 => ?_)
  · refine lv_aload hx hb d_Pages_placeOf_41 (lv_at hl 6 rfl) ?_
    refine lv_lload hx hb d_Pages_placeOf_43 (lv_at hl 0 rfl) ?_
    refine xi (wr := [((a 6), .inr (4, [.int id, .ref (a 7), .ref (a 8), .int σ.2.2.1, .int σ.2.2.2.1, .int σ.2.2.2.2.1])), ((a 7), .inl ((k 4), 32, .inl σ.2.1)), ((a 8), .inr (3, csF σ.2.2.2.2.2))]) (W2 := fun _ => wH a k n id σ) (xV (rest := []) ⟨hx, hb, hml, hown, hts⟩ (c_Memory_wordAt a k n (sp_Pages_entryPlace (sp_Csrs_rootPage σ.2.2.2.2.2) (ush x0 22)) σ.1 hn (vp_ram hn c_4)) mw_Memory_wordAt mv_Memory_wordAt k_301 ⟨rfl, rfl, Nat.le_of_ble_eq_true rfl, Nat.le_of_ble_eq_true rfl⟩ hK hP hD hS hA hF [0, 1, 2, 3, 4, 5] [0, 1, 2, 3] rfl rfl rfl 0 1 rfl rfl rfl rfl hl.1 rfl (Nat.le_of_ble_eq_true rfl) d_Pages_placeOf_45 ⟨Nat.zero_le _, Nat.zero_le _⟩) hP hD hS hA [0, 1, 2, 3, 4, 5] [6, 7, 8] [3, 4, 5, 6, 7, 8, 0, 1, 2] rfl rfl rfl (by decide) (fun _ => rfl) rfl (fun r_5 _ H locs h_5 hP hD hS => ?_)
    subst h_5
    refine lv_istore (lv' := [(8, .int (sp_Memory_wordAt n (sp_Pages_entryPlace (sp_Csrs_rootPage σ.2.2.2.2.2) (ush x0 22)) σ.1)), (6, .long (sp_Pages_entryPlace (sp_Csrs_rootPage σ.2.2.2.2.2) (ush x0 22))), (5, .int ((ush x0 12) &&& 1023)), (0, .int x0), (1, .ref (g (i + 1))), (2, .int x2), (3, .ref (a 8)), (4, .ref (a 0))]) hx hb d_Pages_placeOf_48 hl (by decide) rfl (fun ls hl => ?_)
    refine lv_iload hx hb d_Pages_placeOf_50 (lv_at hl 2 rfl) ?_
    refine lv_istore (lv' := [(9, .int ((ush x0 12) &&& 1023)), (8, .int (sp_Memory_wordAt n (sp_Pages_entryPlace (sp_Csrs_rootPage σ.2.2.2.2.2) (ush x0 22)) σ.1)), (6, .long (sp_Pages_entryPlace (sp_Csrs_rootPage σ.2.2.2.2.2) (ush x0 22))), (5, .int ((ush x0 12) &&& 1023)), (0, .int x0), (1, .ref (g (i + 1))), (2, .int x2), (3, .ref (a 8)), (4, .ref (a 0))]) hx hb d_Pages_placeOf_52 hl (by decide) rfl (fun ls hl => ?_)
    refine lv_iload hx hb d_Pages_placeOf_54 (lv_at hl 1 rfl) ?_
    refine lv_bipush (v := 15) hx hb d_Pages_placeOf_56 rfl ?_
    refine lv_iand hx hb d_Pages_placeOf_58 ?_
    refine lv_iconst (v := 1) hx hb d_Pages_placeOf_59 rfl ?_
    refine lv_icmp_ne (tgt := 108) hx hb d_Pages_placeOf_60 (by decide) (fun c_6 => ?_) (fun c_6 => ?_)
    · refine lv_iload hx hb d_Pages_placeOf_108 (lv_at hl 1 rfl) ?_
      refine lv_bipush (v := 10) hx hb d_Pages_placeOf_110 rfl ?_
      refine lv_iushr (v := ush (sp_Memory_wordAt n (sp_Pages_entryPlace (sp_Csrs_rootPage σ.2.2.2.2.2) (ush x0 22)) σ.1) 10) hx hb d_Pages_placeOf_112 rfl ?_
      refine lv_sipush (v := 1023) hx hb d_Pages_placeOf_113 rfl ?_
      refine lv_iand hx hb d_Pages_placeOf_116 ?_
      refine lv_if_eq (tgt := 128) hx hb d_Pages_placeOf_117 (by decide) (fun c_7 => ?_) (fun c_7 => ?_)
      · refine lv_iload hx hb d_Pages_placeOf_128 (lv_at hl 1 rfl) ?_
        refine xi (wr := [((a 0), .inr (1, [.ref (a 3), .ref (a 1), .ref (a 4), .int σ.1.2.2.2.1, .ref (a 5)])), ((a 1), .inr (2, [.ref (a 2)])), ((a 2), .inl ((k 0), 8, .inl σ.1.1)), ((a 3), .inl ((k 1), n, .inl σ.1.2.1)), ((a 4), .inl ((k 2), 256, .inl σ.1.2.2.1)), ((a 5), .inl ((k 3), 2, .inr (.inl σ.1.2.2.2.2))), ((a 6), .inr (4, [.int id, .ref (a 7), .ref (a 8), .int σ.2.2.1, .int σ.2.2.2.1, .int σ.2.2.2.2.1])), ((a 7), .inl ((k 4), 32, .inl σ.2.1)), ((a 8), .inr (3, csF σ.2.2.2.2.2))]) (W2 := fun _ => wH a k n id σ) (xS (rest := []) ⟨hx, hb, hml, hown, hts⟩ (c_Pages_isPage (sp_Memory_wordAt n (sp_Pages_entryPlace (sp_Csrs_rootPage σ.2.2.2.2.2) (ush x0 22)) σ.1)) mw_Pages_isPage ms_Pages_isPage k_308 ⟨rfl, rfl, Nat.le_of_ble_eq_true rfl, Nat.le_of_ble_eq_true rfl⟩ hK hP hD hS hA hF [] [] rfl rfl rfl rfl hl.1 rfl (Nat.le_of_ble_eq_true rfl) d_Pages_placeOf_130 ⟨Nat.zero_le _, Nat.zero_le _⟩) hP hD hS hA [] [0, 1, 2, 3, 4, 5, 6, 7, 8] [0, 1, 2, 3, 4, 5, 6, 7, 8] rfl rfl rfl (by decide) (fun _ => rfl) rfl (fun r_8 _ H locs h_8 hP hD hS => ?_)
        obtain ⟨h_8, z_8⟩ := h_8
        subst h_8
        refine lv_if_eq (tgt := 150) hx hb d_Pages_placeOf_133 (by decide) (fun c_9 => ?_) (fun c_9 => ?_)
        · refine lv_aload_n hx hb d_Pages_placeOf_150 rfl (lv_at hl 5 rfl) ?_
          refine va_getE (E := R_Access) (nm := nmA) (F := FlA) (ad := fun i => g (i + 1)) (i := i) (q := q_pageFault) hx hb hF.2.1 hi hS hown (List.mem_of_getElem? (i := 2) rfl) (hts _ k_940) (fun _ h9 => h9) d_Pages_placeOf_151 ?_
          refine W.eq (g2 := F0 m 154 ls [.int (aF_pageFault.getD i 0)]) rfl ?_
          refine xl (wr := [((a 0), .inr (1, [.ref (a 3), .ref (a 1), .ref (a 4), .int σ.1.2.2.2.1, .ref (a 5)])), ((a 1), .inr (2, [.ref (a 2)])), ((a 2), .inl ((k 0), 8, .inl σ.1.1)), ((a 3), .inl ((k 1), n, .inl σ.1.2.1)), ((a 4), .inl ((k 2), 256, .inl σ.1.2.2.1)), ((a 5), .inl ((k 3), 2, .inr (.inl σ.1.2.2.2.2))), ((a 6), .inr (4, [.int id, .ref (a 7), .ref (a 8), .int σ.2.2.1, .int σ.2.2.2.1, .int σ.2.2.2.2.1])), ((a 7), .inl ((k 4), 32, .inl σ.2.1)), ((a 8), .inr (3, csF σ.2.2.2.2.2))]) (W2 := fun _ => wH a k n id σ) (xS (rest := []) ⟨hx, hb, hml, hown, hts⟩ (c_Fault_of (aF_pageFault.getD i 0)) mw_Fault_of ms_Fault_of k_300 ⟨rfl, rfl, Nat.le_of_ble_eq_true rfl, Nat.le_of_ble_eq_true rfl⟩ hK hP hD hS hA hF [] [] rfl rfl rfl rfl hl.1 rfl (Nat.le_of_ble_eq_true rfl) d_Pages_placeOf_154 ⟨Nat.zero_le _, Nat.zero_le _⟩) hP hD hS hA [] [0, 1, 2, 3, 4, 5, 6, 7, 8] [0, 1, 2, 3, 4, 5, 6, 7, 8] rfl rfl rfl (by decide) (fun _ => rfl) rfl (fun r_10 _ H locs h_10 hP hD hS => ?_)
          subst h_10
          exact rl () hx hb hr hlocks hP hD hS d_Pages_placeOf_157 (by simp only [sp_Pages_placeOf, if_neg c_4, if_neg c_6, if_pos c_7, if_pos c_9])
        · refine lv_iload hx hb d_Pages_placeOf_136 (lv_at hl 1 rfl) ?_
          refine lv_aload_n hx hb d_Pages_placeOf_138 rfl (lv_at hl 5 rfl) ?_
          refine lv_iload_n hx hb d_Pages_placeOf_139 rfl (lv_at hl 6 rfl) ?_
          refine lv_aload_n hx hb d_Pages_placeOf_140 rfl (lv_at hl 7 rfl) ?_
          refine va_getN (D := D) (ci := 3) (v := .int (σ.2.2.2.2.2 1)) (C := R_Csrs) (T := F_Csrs) (N := 17) hx hb hts i_Csrs hown hK hP 8 rfl rfl 1 (by decide) (va_Nw.use rfl (hF.1 _ kn_90 rfl)) (fun _ h9 => h9) rfl d_Pages_placeOf_141 ?_
          refine xi (wr := [((a 0), .inr (1, [.ref (a 3), .ref (a 1), .ref (a 4), .int σ.1.2.2.2.1, .ref (a 5)])), ((a 1), .inr (2, [.ref (a 2)])), ((a 2), .inl ((k 0), 8, .inl σ.1.1)), ((a 3), .inl ((k 1), n, .inl σ.1.2.1)), ((a 4), .inl ((k 2), 256, .inl σ.1.2.2.1)), ((a 5), .inl ((k 3), 2, .inr (.inl σ.1.2.2.2.2))), ((a 6), .inr (4, [.int id, .ref (a 7), .ref (a 8), .int σ.2.2.1, .int σ.2.2.2.1, .int σ.2.2.2.2.1])), ((a 7), .inl ((k 4), 32, .inl σ.2.1)), ((a 8), .inr (3, csF σ.2.2.2.2.2))]) (W2 := fun _ => wH a k n id σ) (xS (rest := []) ⟨hx, hb, hml, hown, hts⟩ (c_Pages_admits (sp_Memory_wordAt n (sp_Pages_entryPlace (sp_Csrs_rootPage σ.2.2.2.2.2) (ush x0 22)) σ.1) i x2 (σ.2.2.2.2.2 1) hi) mw_Pages_admits ms_Pages_admits k_311 ⟨rfl, rfl, Nat.le_of_ble_eq_true rfl, Nat.le_of_ble_eq_true rfl⟩ hK hP hD hS hA hF [] [] rfl rfl rfl rfl hl.1 rfl (Nat.le_of_ble_eq_true rfl) d_Pages_placeOf_144 ⟨Nat.zero_le _, Nat.zero_le _⟩) hP hD hS hA [] [0, 1, 2, 3, 4, 5, 6, 7, 8] [0, 1, 2, 3, 4, 5, 6, 7, 8] rfl rfl rfl (by decide) (fun _ => rfl) rfl (fun r_11 _ H locs h_11 hP hD hS => ?_)
          obtain ⟨h_11, z_11⟩ := h_11
          subst h_11
          refine lv_if_ne (tgt := 158) hx hb d_Pages_placeOf_147 (by decide) (fun c_12 => ?_) (fun c_12 => ?_)
          · refine lv_iload hx hb d_Pages_placeOf_158 (lv_at hl 1 rfl) ?_
            refine lv_bipush (v := 10) hx hb d_Pages_placeOf_160 rfl ?_
            refine lv_iushr (v := ush (sp_Memory_wordAt n (sp_Pages_entryPlace (sp_Csrs_rootPage σ.2.2.2.2.2) (ush x0 22)) σ.1) 10) hx hb d_Pages_placeOf_162 rfl ?_
            refine lv_i2l hx hb d_Pages_placeOf_163 rfl ?_
            refine lv_iload hx hb d_Pages_placeOf_164 (lv_at hl 0 rfl) ?_
            refine lv_i2l hx hb d_Pages_placeOf_166 rfl ?_
            refine lv_ladd hx hb d_Pages_placeOf_167 ?_
            refine lv_bipush (v := 12) hx hb d_Pages_placeOf_168 rfl ?_
            refine lv_lshl (v := lshl (((ush (sp_Memory_wordAt n (sp_Pages_entryPlace (sp_Csrs_rootPage σ.2.2.2.2.2) (ush x0 22)) σ.1) 10).toInt64) + (((ush x0 12) &&& 1023).toInt64)) 12) hx hb d_Pages_placeOf_170 rfl ?_
            refine lv_iload_n hx hb d_Pages_placeOf_171 rfl (lv_at hl 4 rfl) ?_
            refine lv_sipush (v := 4095) hx hb d_Pages_placeOf_172 rfl ?_
            refine lv_iand hx hb d_Pages_placeOf_175 ?_
            refine lv_i2l hx hb d_Pages_placeOf_176 rfl ?_
            refine lv_ladd hx hb d_Pages_placeOf_177 ?_
            refine lv_lstore (lv' := [(10, .long ((lshl (((ush (sp_Memory_wordAt n (sp_Pages_entryPlace (sp_Csrs_rootPage σ.2.2.2.2.2) (ush x0 22)) σ.1) 10).toInt64) + (((ush x0 12) &&& 1023).toInt64)) 12) + ((x0 &&& 4095).toInt64))), (9, .int ((ush x0 12) &&& 1023)), (8, .int (sp_Memory_wordAt n (sp_Pages_entryPlace (sp_Csrs_rootPage σ.2.2.2.2.2) (ush x0 22)) σ.1)), (6, .long (sp_Pages_entryPlace (sp_Csrs_rootPage σ.2.2.2.2.2) (ush x0 22))), (5, .int ((ush x0 12) &&& 1023)), (0, .int x0), (1, .ref (g (i + 1))), (2, .int x2), (3, .ref (a 8)), (4, .ref (a 0))]) hx hb d_Pages_placeOf_178 hl (by decide) rfl (fun ls hl => ?_)
            refine lv_lload hx hb d_Pages_placeOf_180 (lv_at hl 0 rfl) ?_
            refine lv_ldc2 (v := 4294967295) hx hb hown (hts _ k_317) d_Pages_placeOf_182 ?_
            refine W.lcmp hx hb d_Pages_placeOf_185 ?_
            refine lv_if_le (tgt := 199) hx hb d_Pages_placeOf_186 (by decide) (fun b_13 => ?_) (fun b_13 => ?_)
            · have c_13 : ((lshl (((ush (sp_Memory_wordAt n (sp_Pages_entryPlace (sp_Csrs_rootPage σ.2.2.2.2.2) (ush x0 22)) σ.1) 10).toInt64) + (((ush x0 12) &&& 1023).toInt64)) 12) + ((x0 &&& 4095).toInt64)) ≤ 4294967295 := (lg_cmp_le _ _).mp b_13
              refine lv_lload hx hb d_Pages_placeOf_199 (lv_at hl 0 rfl) ?_
              exact rl () hx hb hr hlocks hP hD hS d_Pages_placeOf_201 (by simp only [sp_Pages_placeOf, if_neg c_4, if_neg c_6, if_pos c_7, if_neg c_9, if_neg c_12, if_pos c_13])
            · have c_13 : ¬ ((lshl (((ush (sp_Memory_wordAt n (sp_Pages_entryPlace (sp_Csrs_rootPage σ.2.2.2.2.2) (ush x0 22)) σ.1) 10).toInt64) + (((ush x0 12) &&& 1023).toInt64)) 12) + ((x0 &&& 4095).toInt64)) ≤ 4294967295 := fun h9 => b_13 ((lg_cmp_le _ _).mpr h9)
              refine lv_aload_n hx hb d_Pages_placeOf_189 rfl (lv_at hl 6 rfl) ?_
              refine va_getE (E := R_Access) (nm := nmA) (F := FlA) (ad := fun i => g (i + 1)) (i := i) (q := q_accessFault) hx hb hF.2.1 hi hS hown (List.mem_of_getElem? (i := 1) rfl) (hts _ k_939) (fun _ h9 => h9) d_Pages_placeOf_190 ?_
              refine W.eq (g2 := F0 m 193 ls [.int (aF_accessFault.getD i 0)]) rfl ?_
              refine xl (wr := [((a 0), .inr (1, [.ref (a 3), .ref (a 1), .ref (a 4), .int σ.1.2.2.2.1, .ref (a 5)])), ((a 1), .inr (2, [.ref (a 2)])), ((a 2), .inl ((k 0), 8, .inl σ.1.1)), ((a 3), .inl ((k 1), n, .inl σ.1.2.1)), ((a 4), .inl ((k 2), 256, .inl σ.1.2.2.1)), ((a 5), .inl ((k 3), 2, .inr (.inl σ.1.2.2.2.2))), ((a 6), .inr (4, [.int id, .ref (a 7), .ref (a 8), .int σ.2.2.1, .int σ.2.2.2.1, .int σ.2.2.2.2.1])), ((a 7), .inl ((k 4), 32, .inl σ.2.1)), ((a 8), .inr (3, csF σ.2.2.2.2.2))]) (W2 := fun _ => wH a k n id σ) (xS (rest := []) ⟨hx, hb, hml, hown, hts⟩ (c_Fault_of (aF_accessFault.getD i 0)) mw_Fault_of ms_Fault_of k_300 ⟨rfl, rfl, Nat.le_of_ble_eq_true rfl, Nat.le_of_ble_eq_true rfl⟩ hK hP hD hS hA hF [] [] rfl rfl rfl rfl hl.1 rfl (Nat.le_of_ble_eq_true rfl) d_Pages_placeOf_193 ⟨Nat.zero_le _, Nat.zero_le _⟩) hP hD hS hA [] [0, 1, 2, 3, 4, 5, 6, 7, 8] [0, 1, 2, 3, 4, 5, 6, 7, 8] rfl rfl rfl (by decide) (fun _ => rfl) rfl (fun r_14 _ H locs h_14 hP hD hS => ?_)
              subst h_14
              refine lv_goto (tgt := 201) hx hb d_Pages_placeOf_196 (by decide) ?_
              exact rl () hx hb hr hlocks hP hD hS d_Pages_placeOf_201 (by simp only [sp_Pages_placeOf, if_neg c_4, if_neg c_6, if_pos c_7, if_neg c_9, if_neg c_12, if_neg c_13])
          · refine lv_aload_n hx hb d_Pages_placeOf_150 rfl (lv_at hl 5 rfl) ?_
            refine va_getE (E := R_Access) (nm := nmA) (F := FlA) (ad := fun i => g (i + 1)) (i := i) (q := q_pageFault) hx hb hF.2.1 hi hS hown (List.mem_of_getElem? (i := 2) rfl) (hts _ k_940) (fun _ h9 => h9) d_Pages_placeOf_151 ?_
            refine W.eq (g2 := F0 m 154 ls [.int (aF_pageFault.getD i 0)]) rfl ?_
            refine xl (wr := [((a 0), .inr (1, [.ref (a 3), .ref (a 1), .ref (a 4), .int σ.1.2.2.2.1, .ref (a 5)])), ((a 1), .inr (2, [.ref (a 2)])), ((a 2), .inl ((k 0), 8, .inl σ.1.1)), ((a 3), .inl ((k 1), n, .inl σ.1.2.1)), ((a 4), .inl ((k 2), 256, .inl σ.1.2.2.1)), ((a 5), .inl ((k 3), 2, .inr (.inl σ.1.2.2.2.2))), ((a 6), .inr (4, [.int id, .ref (a 7), .ref (a 8), .int σ.2.2.1, .int σ.2.2.2.1, .int σ.2.2.2.2.1])), ((a 7), .inl ((k 4), 32, .inl σ.2.1)), ((a 8), .inr (3, csF σ.2.2.2.2.2))]) (W2 := fun _ => wH a k n id σ) (xS (rest := []) ⟨hx, hb, hml, hown, hts⟩ (c_Fault_of (aF_pageFault.getD i 0)) mw_Fault_of ms_Fault_of k_300 ⟨rfl, rfl, Nat.le_of_ble_eq_true rfl, Nat.le_of_ble_eq_true rfl⟩ hK hP hD hS hA hF [] [] rfl rfl rfl rfl hl.1 rfl (Nat.le_of_ble_eq_true rfl) d_Pages_placeOf_154 ⟨Nat.zero_le _, Nat.zero_le _⟩) hP hD hS hA [] [0, 1, 2, 3, 4, 5, 6, 7, 8] [0, 1, 2, 3, 4, 5, 6, 7, 8] rfl rfl rfl (by decide) (fun _ => rfl) rfl (fun r_15 _ H locs h_15 hP hD hS => ?_)
            subst h_15
            exact rl () hx hb hr hlocks hP hD hS d_Pages_placeOf_157 (by simp only [sp_Pages_placeOf, if_neg c_4, if_neg c_6, if_pos c_7, if_neg c_9, if_pos c_12])
      · refine lv_aload_n hx hb d_Pages_placeOf_120 rfl (lv_at hl 5 rfl) ?_
        refine va_getE (E := R_Access) (nm := nmA) (F := FlA) (ad := fun i => g (i + 1)) (i := i) (q := q_pageFault) hx hb hF.2.1 hi hS hown (List.mem_of_getElem? (i := 2) rfl) (hts _ k_940) (fun _ h9 => h9) d_Pages_placeOf_121 ?_
        refine W.eq (g2 := F0 m 124 ls [.int (aF_pageFault.getD i 0)]) rfl ?_
        refine xl (wr := [((a 0), .inr (1, [.ref (a 3), .ref (a 1), .ref (a 4), .int σ.1.2.2.2.1, .ref (a 5)])), ((a 1), .inr (2, [.ref (a 2)])), ((a 2), .inl ((k 0), 8, .inl σ.1.1)), ((a 3), .inl ((k 1), n, .inl σ.1.2.1)), ((a 4), .inl ((k 2), 256, .inl σ.1.2.2.1)), ((a 5), .inl ((k 3), 2, .inr (.inl σ.1.2.2.2.2))), ((a 6), .inr (4, [.int id, .ref (a 7), .ref (a 8), .int σ.2.2.1, .int σ.2.2.2.1, .int σ.2.2.2.2.1])), ((a 7), .inl ((k 4), 32, .inl σ.2.1)), ((a 8), .inr (3, csF σ.2.2.2.2.2))]) (W2 := fun _ => wH a k n id σ) (xS (rest := []) ⟨hx, hb, hml, hown, hts⟩ (c_Fault_of (aF_pageFault.getD i 0)) mw_Fault_of ms_Fault_of k_300 ⟨rfl, rfl, Nat.le_of_ble_eq_true rfl, Nat.le_of_ble_eq_true rfl⟩ hK hP hD hS hA hF [] [] rfl rfl rfl rfl hl.1 rfl (Nat.le_of_ble_eq_true rfl) d_Pages_placeOf_124 ⟨Nat.zero_le _, Nat.zero_le _⟩) hP hD hS hA [] [0, 1, 2, 3, 4, 5, 6, 7, 8] [0, 1, 2, 3, 4, 5, 6, 7, 8] rfl rfl rfl (by decide) (fun _ => rfl) rfl (fun r_16 _ H locs h_16 hP hD hS => ?_)
        subst h_16
        exact rl () hx hb hr hlocks hP hD hS d_Pages_placeOf_127 (by simp only [sp_Pages_placeOf, if_neg c_4, if_neg c_6, if_neg c_7])
    · refine lv_iload hx hb d_Pages_placeOf_63 (lv_at hl 1 rfl) ?_
      refine lv_bipush (v := 10) hx hb d_Pages_placeOf_65 rfl ?_
      refine lv_iushr (v := ush (sp_Memory_wordAt n (sp_Pages_entryPlace (sp_Csrs_rootPage σ.2.2.2.2.2) (ush x0 22)) σ.1) 10) hx hb d_Pages_placeOf_67 rfl ?_
      refine lv_iload hx hb d_Pages_placeOf_68 (lv_at hl 3 rfl) ?_
      refine xl (wr := [((a 0), .inr (1, [.ref (a 3), .ref (a 1), .ref (a 4), .int σ.1.2.2.2.1, .ref (a 5)])), ((a 1), .inr (2, [.ref (a 2)])), ((a 2), .inl ((k 0), 8, .inl σ.1.1)), ((a 3), .inl ((k 1), n, .inl σ.1.2.1)), ((a 4), .inl ((k 2), 256, .inl σ.1.2.2.1)), ((a 5), .inl ((k 3), 2, .inr (.inl σ.1.2.2.2.2))), ((a 6), .inr (4, [.int id, .ref (a 7), .ref (a 8), .int σ.2.2.1, .int σ.2.2.2.1, .int σ.2.2.2.2.1])), ((a 7), .inl ((k 4), 32, .inl σ.2.1)), ((a 8), .inr (3, csF σ.2.2.2.2.2))]) (W2 := fun _ => wH a k n id σ) (xS (rest := []) ⟨hx, hb, hml, hown, hts⟩ (c_Pages_entryPlace (ush (sp_Memory_wordAt n (sp_Pages_entryPlace (sp_Csrs_rootPage σ.2.2.2.2.2) (ush x0 22)) σ.1) 10) ((ush x0 12) &&& 1023)) mw_Pages_entryPlace ms_Pages_entryPlace k_290 ⟨rfl, rfl, Nat.le_of_ble_eq_true rfl, Nat.le_of_ble_eq_true rfl⟩ hK hP hD hS hA hF [] [] rfl rfl rfl rfl hl.1 rfl (Nat.le_of_ble_eq_true rfl) d_Pages_placeOf_70 ⟨Nat.zero_le _, Nat.zero_le _⟩) hP hD hS hA [] [0, 1, 2, 3, 4, 5, 6, 7, 8] [0, 1, 2, 3, 4, 5, 6, 7, 8] rfl rfl rfl (by decide) (fun _ => rfl) rfl (fun r_17 _ H locs h_17 hP hD hS => ?_)
      subst h_17
      refine lv_lstore (lv' := [(6, .long (sp_Pages_entryPlace (ush (sp_Memory_wordAt n (sp_Pages_entryPlace (sp_Csrs_rootPage σ.2.2.2.2.2) (ush x0 22)) σ.1) 10) ((ush x0 12) &&& 1023))), (9, .int ((ush x0 12) &&& 1023)), (8, .int (sp_Memory_wordAt n (sp_Pages_entryPlace (sp_Csrs_rootPage σ.2.2.2.2.2) (ush x0 22)) σ.1)), (5, .int ((ush x0 12) &&& 1023)), (0, .int x0), (1, .ref (g (i + 1))), (2, .int x2), (3, .ref (a 8)), (4, .ref (a 0))]) hx hb d_Pages_placeOf_73 hl (by decide) rfl (fun ls hl => ?_)
      refine lv_aload hx hb d_Pages_placeOf_75 (lv_at hl 8 rfl) ?_
      refine lv_lload hx hb d_Pages_placeOf_77 (lv_at hl 0 rfl) ?_
      refine xi (wr := [((a 6), .inr (4, [.int id, .ref (a 7), .ref (a 8), .int σ.2.2.1, .int σ.2.2.2.1, .int σ.2.2.2.2.1])), ((a 7), .inl ((k 4), 32, .inl σ.2.1)), ((a 8), .inr (3, csF σ.2.2.2.2.2))]) (W2 := fun _ => wH a k n id σ) (xV (rest := []) ⟨hx, hb, hml, hown, hts⟩ (c_Memory_isRam a k n (sp_Pages_entryPlace (ush (sp_Memory_wordAt n (sp_Pages_entryPlace (sp_Csrs_rootPage σ.2.2.2.2.2) (ush x0 22)) σ.1) 10) ((ush x0 12) &&& 1023)) σ.1 hn) mw_Memory_isRam mv_Memory_isRam k_294 ⟨rfl, rfl, Nat.le_of_ble_eq_true rfl, Nat.le_of_ble_eq_true rfl⟩ hK hP hD hS hA hF [0, 1, 2, 3, 4, 5] [0, 1, 2, 3] rfl rfl rfl 0 1 rfl rfl rfl rfl hl.1 rfl (Nat.le_of_ble_eq_true rfl) d_Pages_placeOf_79 ⟨Nat.zero_le _, Nat.zero_le _⟩) hP hD hS hA [0, 1, 2, 3, 4, 5] [6, 7, 8] [3, 4, 5, 6, 7, 8, 0, 1, 2] rfl rfl rfl (by decide) (fun _ => rfl) rfl (fun r_18 _ H locs h_18 hP hD hS => ?_)
      obtain ⟨h_18, z_18⟩ := h_18
      subst h_18
      refine lv_if_ne (tgt := 93) hx hb d_Pages_placeOf_82 (by decide) (fun c_19 => ?_) (fun c_19 => ?_)
      · refine lv_aload hx hb d_Pages_placeOf_93 (lv_at hl 8 rfl) ?_
        refine lv_lload hx hb d_Pages_placeOf_95 (lv_at hl 0 rfl) ?_
        refine xi (wr := [((a 6), .inr (4, [.int id, .ref (a 7), .ref (a 8), .int σ.2.2.1, .int σ.2.2.2.1, .int σ.2.2.2.2.1])), ((a 7), .inl ((k 4), 32, .inl σ.2.1)), ((a 8), .inr (3, csF σ.2.2.2.2.2))]) (W2 := fun _ => wH a k n id σ) (xV (rest := []) ⟨hx, hb, hml, hown, hts⟩ (c_Memory_wordAt a k n (sp_Pages_entryPlace (ush (sp_Memory_wordAt n (sp_Pages_entryPlace (sp_Csrs_rootPage σ.2.2.2.2.2) (ush x0 22)) σ.1) 10) ((ush x0 12) &&& 1023)) σ.1 hn (vp_ram hn c_19)) mw_Memory_wordAt mv_Memory_wordAt k_301 ⟨rfl, rfl, Nat.le_of_ble_eq_true rfl, Nat.le_of_ble_eq_true rfl⟩ hK hP hD hS hA hF [0, 1, 2, 3, 4, 5] [0, 1, 2, 3] rfl rfl rfl 0 1 rfl rfl rfl rfl hl.1 rfl (Nat.le_of_ble_eq_true rfl) d_Pages_placeOf_97 ⟨Nat.zero_le _, Nat.zero_le _⟩) hP hD hS hA [0, 1, 2, 3, 4, 5] [6, 7, 8] [3, 4, 5, 6, 7, 8, 0, 1, 2] rfl rfl rfl (by decide) (fun _ => rfl) rfl (fun r_20 _ H locs h_20 hP hD hS => ?_)
        subst h_20
        refine lv_istore (lv' := [(8, .int (sp_Memory_wordAt n (sp_Pages_entryPlace (ush (sp_Memory_wordAt n (sp_Pages_entryPlace (sp_Csrs_rootPage σ.2.2.2.2.2) (ush x0 22)) σ.1) 10) ((ush x0 12) &&& 1023)) σ.1)), (6, .long (sp_Pages_entryPlace (ush (sp_Memory_wordAt n (sp_Pages_entryPlace (sp_Csrs_rootPage σ.2.2.2.2.2) (ush x0 22)) σ.1) 10) ((ush x0 12) &&& 1023))), (9, .int ((ush x0 12) &&& 1023)), (5, .int ((ush x0 12) &&& 1023)), (0, .int x0), (1, .ref (g (i + 1))), (2, .int x2), (3, .ref (a 8)), (4, .ref (a 0))]) hx hb d_Pages_placeOf_100 hl (by decide) rfl (fun ls hl => ?_)
        refine lv_iconst (v := 0) hx hb d_Pages_placeOf_102 rfl ?_
        refine lv_istore (lv' := [(9, .int 0), (8, .int (sp_Memory_wordAt n (sp_Pages_entryPlace (ush (sp_Memory_wordAt n (sp_Pages_entryPlace (sp_Csrs_rootPage σ.2.2.2.2.2) (ush x0 22)) σ.1) 10) ((ush x0 12) &&& 1023)) σ.1)), (6, .long (sp_Pages_entryPlace (ush (sp_Memory_wordAt n (sp_Pages_entryPlace (sp_Csrs_rootPage σ.2.2.2.2.2) (ush x0 22)) σ.1) 10) ((ush x0 12) &&& 1023))), (5, .int ((ush x0 12) &&& 1023)), (0, .int x0), (1, .ref (g (i + 1))), (2, .int x2), (3, .ref (a 8)), (4, .ref (a 0))]) hx hb d_Pages_placeOf_103 hl (by decide) rfl (fun ls hl => ?_)
        refine lv_goto (tgt := 128) hx hb d_Pages_placeOf_105 (by decide) ?_
        refine lv_iload hx hb d_Pages_placeOf_128 (lv_at hl 1 rfl) ?_
        refine xi (wr := [((a 0), .inr (1, [.ref (a 3), .ref (a 1), .ref (a 4), .int σ.1.2.2.2.1, .ref (a 5)])), ((a 1), .inr (2, [.ref (a 2)])), ((a 2), .inl ((k 0), 8, .inl σ.1.1)), ((a 3), .inl ((k 1), n, .inl σ.1.2.1)), ((a 4), .inl ((k 2), 256, .inl σ.1.2.2.1)), ((a 5), .inl ((k 3), 2, .inr (.inl σ.1.2.2.2.2))), ((a 6), .inr (4, [.int id, .ref (a 7), .ref (a 8), .int σ.2.2.1, .int σ.2.2.2.1, .int σ.2.2.2.2.1])), ((a 7), .inl ((k 4), 32, .inl σ.2.1)), ((a 8), .inr (3, csF σ.2.2.2.2.2))]) (W2 := fun _ => wH a k n id σ) (xS (rest := []) ⟨hx, hb, hml, hown, hts⟩ (c_Pages_isPage (sp_Memory_wordAt n (sp_Pages_entryPlace (ush (sp_Memory_wordAt n (sp_Pages_entryPlace (sp_Csrs_rootPage σ.2.2.2.2.2) (ush x0 22)) σ.1) 10) ((ush x0 12) &&& 1023)) σ.1)) mw_Pages_isPage ms_Pages_isPage k_308 ⟨rfl, rfl, Nat.le_of_ble_eq_true rfl, Nat.le_of_ble_eq_true rfl⟩ hK hP hD hS hA hF [] [] rfl rfl rfl rfl hl.1 rfl (Nat.le_of_ble_eq_true rfl) d_Pages_placeOf_130 ⟨Nat.zero_le _, Nat.zero_le _⟩) hP hD hS hA [] [0, 1, 2, 3, 4, 5, 6, 7, 8] [0, 1, 2, 3, 4, 5, 6, 7, 8] rfl rfl rfl (by decide) (fun _ => rfl) rfl (fun r_21 _ H locs h_21 hP hD hS => ?_)
        obtain ⟨h_21, z_21⟩ := h_21
        subst h_21
        refine lv_if_eq (tgt := 150) hx hb d_Pages_placeOf_133 (by decide) (fun c_22 => ?_) (fun c_22 => ?_)
        · refine lv_aload_n hx hb d_Pages_placeOf_150 rfl (lv_at hl 5 rfl) ?_
          refine va_getE (E := R_Access) (nm := nmA) (F := FlA) (ad := fun i => g (i + 1)) (i := i) (q := q_pageFault) hx hb hF.2.1 hi hS hown (List.mem_of_getElem? (i := 2) rfl) (hts _ k_940) (fun _ h9 => h9) d_Pages_placeOf_151 ?_
          refine W.eq (g2 := F0 m 154 ls [.int (aF_pageFault.getD i 0)]) rfl ?_
          refine xl (wr := [((a 0), .inr (1, [.ref (a 3), .ref (a 1), .ref (a 4), .int σ.1.2.2.2.1, .ref (a 5)])), ((a 1), .inr (2, [.ref (a 2)])), ((a 2), .inl ((k 0), 8, .inl σ.1.1)), ((a 3), .inl ((k 1), n, .inl σ.1.2.1)), ((a 4), .inl ((k 2), 256, .inl σ.1.2.2.1)), ((a 5), .inl ((k 3), 2, .inr (.inl σ.1.2.2.2.2))), ((a 6), .inr (4, [.int id, .ref (a 7), .ref (a 8), .int σ.2.2.1, .int σ.2.2.2.1, .int σ.2.2.2.2.1])), ((a 7), .inl ((k 4), 32, .inl σ.2.1)), ((a 8), .inr (3, csF σ.2.2.2.2.2))]) (W2 := fun _ => wH a k n id σ) (xS (rest := []) ⟨hx, hb, hml, hown, hts⟩ (c_Fault_of (aF_pageFault.getD i 0)) mw_Fault_of ms_Fault_of k_300 ⟨rfl, rfl, Nat.le_of_ble_eq_true rfl, Nat.le_of_ble_eq_true rfl⟩ hK hP hD hS hA hF [] [] rfl rfl rfl rfl hl.1 rfl (Nat.le_of_ble_eq_true rfl) d_Pages_placeOf_154 ⟨Nat.zero_le _, Nat.zero_le _⟩) hP hD hS hA [] [0, 1, 2, 3, 4, 5, 6, 7, 8] [0, 1, 2, 3, 4, 5, 6, 7, 8] rfl rfl rfl (by decide) (fun _ => rfl) rfl (fun r_23 _ H locs h_23 hP hD hS => ?_)
          subst h_23
          exact rl () hx hb hr hlocks hP hD hS d_Pages_placeOf_157 (by simp only [sp_Pages_placeOf, if_neg c_4, if_pos c_6, if_neg c_19, if_pos c_22])
        · refine lv_iload hx hb d_Pages_placeOf_136 (lv_at hl 1 rfl) ?_
          refine lv_aload_n hx hb d_Pages_placeOf_138 rfl (lv_at hl 5 rfl) ?_
          refine lv_iload_n hx hb d_Pages_placeOf_139 rfl (lv_at hl 6 rfl) ?_
          refine lv_aload_n hx hb d_Pages_placeOf_140 rfl (lv_at hl 7 rfl) ?_
          refine va_getN (D := D) (ci := 3) (v := .int (σ.2.2.2.2.2 1)) (C := R_Csrs) (T := F_Csrs) (N := 17) hx hb hts i_Csrs hown hK hP 8 rfl rfl 1 (by decide) (va_Nw.use rfl (hF.1 _ kn_90 rfl)) (fun _ h9 => h9) rfl d_Pages_placeOf_141 ?_
          refine xi (wr := [((a 0), .inr (1, [.ref (a 3), .ref (a 1), .ref (a 4), .int σ.1.2.2.2.1, .ref (a 5)])), ((a 1), .inr (2, [.ref (a 2)])), ((a 2), .inl ((k 0), 8, .inl σ.1.1)), ((a 3), .inl ((k 1), n, .inl σ.1.2.1)), ((a 4), .inl ((k 2), 256, .inl σ.1.2.2.1)), ((a 5), .inl ((k 3), 2, .inr (.inl σ.1.2.2.2.2))), ((a 6), .inr (4, [.int id, .ref (a 7), .ref (a 8), .int σ.2.2.1, .int σ.2.2.2.1, .int σ.2.2.2.2.1])), ((a 7), .inl ((k 4), 32, .inl σ.2.1)), ((a 8), .inr (3, csF σ.2.2.2.2.2))]) (W2 := fun _ => wH a k n id σ) (xS (rest := []) ⟨hx, hb, hml, hown, hts⟩ (c_Pages_admits (sp_Memory_wordAt n (sp_Pages_entryPlace (ush (sp_Memory_wordAt n (sp_Pages_entryPlace (sp_Csrs_rootPage σ.2.2.2.2.2) (ush x0 22)) σ.1) 10) ((ush x0 12) &&& 1023)) σ.1) i x2 (σ.2.2.2.2.2 1) hi) mw_Pages_admits ms_Pages_admits k_311 ⟨rfl, rfl, Nat.le_of_ble_eq_true rfl, Nat.le_of_ble_eq_true rfl⟩ hK hP hD hS hA hF [] [] rfl rfl rfl rfl hl.1 rfl (Nat.le_of_ble_eq_true rfl) d_Pages_placeOf_144 ⟨Nat.zero_le _, Nat.zero_le _⟩) hP hD hS hA [] [0, 1, 2, 3, 4, 5, 6, 7, 8] [0, 1, 2, 3, 4, 5, 6, 7, 8] rfl rfl rfl (by decide) (fun _ => rfl) rfl (fun r_24 _ H locs h_24 hP hD hS => ?_)
          obtain ⟨h_24, z_24⟩ := h_24
          subst h_24
          refine lv_if_ne (tgt := 158) hx hb d_Pages_placeOf_147 (by decide) (fun c_25 => ?_) (fun c_25 => ?_)
          · refine lv_iload hx hb d_Pages_placeOf_158 (lv_at hl 1 rfl) ?_
            refine lv_bipush (v := 10) hx hb d_Pages_placeOf_160 rfl ?_
            refine lv_iushr (v := ush (sp_Memory_wordAt n (sp_Pages_entryPlace (ush (sp_Memory_wordAt n (sp_Pages_entryPlace (sp_Csrs_rootPage σ.2.2.2.2.2) (ush x0 22)) σ.1) 10) ((ush x0 12) &&& 1023)) σ.1) 10) hx hb d_Pages_placeOf_162 rfl ?_
            refine lv_i2l hx hb d_Pages_placeOf_163 rfl ?_
            refine lv_iload hx hb d_Pages_placeOf_164 (lv_at hl 0 rfl) ?_
            refine lv_i2l hx hb d_Pages_placeOf_166 rfl ?_
            refine lv_ladd hx hb d_Pages_placeOf_167 ?_
            refine lv_bipush (v := 12) hx hb d_Pages_placeOf_168 rfl ?_
            refine lv_lshl (v := lshl (((ush (sp_Memory_wordAt n (sp_Pages_entryPlace (ush (sp_Memory_wordAt n (sp_Pages_entryPlace (sp_Csrs_rootPage σ.2.2.2.2.2) (ush x0 22)) σ.1) 10) ((ush x0 12) &&& 1023)) σ.1) 10).toInt64) + ((0 : Int32).toInt64)) 12) hx hb d_Pages_placeOf_170 rfl ?_
            refine lv_iload_n hx hb d_Pages_placeOf_171 rfl (lv_at hl 4 rfl) ?_
            refine lv_sipush (v := 4095) hx hb d_Pages_placeOf_172 rfl ?_
            refine lv_iand hx hb d_Pages_placeOf_175 ?_
            refine lv_i2l hx hb d_Pages_placeOf_176 rfl ?_
            refine lv_ladd hx hb d_Pages_placeOf_177 ?_
            refine lv_lstore (lv' := [(10, .long ((lshl (((ush (sp_Memory_wordAt n (sp_Pages_entryPlace (ush (sp_Memory_wordAt n (sp_Pages_entryPlace (sp_Csrs_rootPage σ.2.2.2.2.2) (ush x0 22)) σ.1) 10) ((ush x0 12) &&& 1023)) σ.1) 10).toInt64) + ((0 : Int32).toInt64)) 12) + ((x0 &&& 4095).toInt64))), (9, .int 0), (8, .int (sp_Memory_wordAt n (sp_Pages_entryPlace (ush (sp_Memory_wordAt n (sp_Pages_entryPlace (sp_Csrs_rootPage σ.2.2.2.2.2) (ush x0 22)) σ.1) 10) ((ush x0 12) &&& 1023)) σ.1)), (6, .long (sp_Pages_entryPlace (ush (sp_Memory_wordAt n (sp_Pages_entryPlace (sp_Csrs_rootPage σ.2.2.2.2.2) (ush x0 22)) σ.1) 10) ((ush x0 12) &&& 1023))), (5, .int ((ush x0 12) &&& 1023)), (0, .int x0), (1, .ref (g (i + 1))), (2, .int x2), (3, .ref (a 8)), (4, .ref (a 0))]) hx hb d_Pages_placeOf_178 hl (by decide) rfl (fun ls hl => ?_)
            refine lv_lload hx hb d_Pages_placeOf_180 (lv_at hl 0 rfl) ?_
            refine lv_ldc2 (v := 4294967295) hx hb hown (hts _ k_317) d_Pages_placeOf_182 ?_
            refine W.lcmp hx hb d_Pages_placeOf_185 ?_
            refine lv_if_le (tgt := 199) hx hb d_Pages_placeOf_186 (by decide) (fun b_26 => ?_) (fun b_26 => ?_)
            · have c_26 : ((lshl (((ush (sp_Memory_wordAt n (sp_Pages_entryPlace (ush (sp_Memory_wordAt n (sp_Pages_entryPlace (sp_Csrs_rootPage σ.2.2.2.2.2) (ush x0 22)) σ.1) 10) ((ush x0 12) &&& 1023)) σ.1) 10).toInt64) + ((0 : Int32).toInt64)) 12) + ((x0 &&& 4095).toInt64)) ≤ 4294967295 := (lg_cmp_le _ _).mp b_26
              refine lv_lload hx hb d_Pages_placeOf_199 (lv_at hl 0 rfl) ?_
              exact rl () hx hb hr hlocks hP hD hS d_Pages_placeOf_201 (by simp only [sp_Pages_placeOf, if_neg c_4, if_pos c_6, if_neg c_19, if_neg c_22, if_neg c_25, if_pos c_26])
            · have c_26 : ¬ ((lshl (((ush (sp_Memory_wordAt n (sp_Pages_entryPlace (ush (sp_Memory_wordAt n (sp_Pages_entryPlace (sp_Csrs_rootPage σ.2.2.2.2.2) (ush x0 22)) σ.1) 10) ((ush x0 12) &&& 1023)) σ.1) 10).toInt64) + ((0 : Int32).toInt64)) 12) + ((x0 &&& 4095).toInt64)) ≤ 4294967295 := fun h9 => b_26 ((lg_cmp_le _ _).mpr h9)
              refine lv_aload_n hx hb d_Pages_placeOf_189 rfl (lv_at hl 6 rfl) ?_
              refine va_getE (E := R_Access) (nm := nmA) (F := FlA) (ad := fun i => g (i + 1)) (i := i) (q := q_accessFault) hx hb hF.2.1 hi hS hown (List.mem_of_getElem? (i := 1) rfl) (hts _ k_939) (fun _ h9 => h9) d_Pages_placeOf_190 ?_
              refine W.eq (g2 := F0 m 193 ls [.int (aF_accessFault.getD i 0)]) rfl ?_
              refine xl (wr := [((a 0), .inr (1, [.ref (a 3), .ref (a 1), .ref (a 4), .int σ.1.2.2.2.1, .ref (a 5)])), ((a 1), .inr (2, [.ref (a 2)])), ((a 2), .inl ((k 0), 8, .inl σ.1.1)), ((a 3), .inl ((k 1), n, .inl σ.1.2.1)), ((a 4), .inl ((k 2), 256, .inl σ.1.2.2.1)), ((a 5), .inl ((k 3), 2, .inr (.inl σ.1.2.2.2.2))), ((a 6), .inr (4, [.int id, .ref (a 7), .ref (a 8), .int σ.2.2.1, .int σ.2.2.2.1, .int σ.2.2.2.2.1])), ((a 7), .inl ((k 4), 32, .inl σ.2.1)), ((a 8), .inr (3, csF σ.2.2.2.2.2))]) (W2 := fun _ => wH a k n id σ) (xS (rest := []) ⟨hx, hb, hml, hown, hts⟩ (c_Fault_of (aF_accessFault.getD i 0)) mw_Fault_of ms_Fault_of k_300 ⟨rfl, rfl, Nat.le_of_ble_eq_true rfl, Nat.le_of_ble_eq_true rfl⟩ hK hP hD hS hA hF [] [] rfl rfl rfl rfl hl.1 rfl (Nat.le_of_ble_eq_true rfl) d_Pages_placeOf_193 ⟨Nat.zero_le _, Nat.zero_le _⟩) hP hD hS hA [] [0, 1, 2, 3, 4, 5, 6, 7, 8] [0, 1, 2, 3, 4, 5, 6, 7, 8] rfl rfl rfl (by decide) (fun _ => rfl) rfl (fun r_27 _ H locs h_27 hP hD hS => ?_)
              subst h_27
              refine lv_goto (tgt := 201) hx hb d_Pages_placeOf_196 (by decide) ?_
              exact rl () hx hb hr hlocks hP hD hS d_Pages_placeOf_201 (by simp only [sp_Pages_placeOf, if_neg c_4, if_pos c_6, if_neg c_19, if_neg c_22, if_neg c_25, if_neg c_26])
          · refine lv_aload_n hx hb d_Pages_placeOf_150 rfl (lv_at hl 5 rfl) ?_
            refine va_getE (E := R_Access) (nm := nmA) (F := FlA) (ad := fun i => g (i + 1)) (i := i) (q := q_pageFault) hx hb hF.2.1 hi hS hown (List.mem_of_getElem? (i := 2) rfl) (hts _ k_940) (fun _ h9 => h9) d_Pages_placeOf_151 ?_
            refine W.eq (g2 := F0 m 154 ls [.int (aF_pageFault.getD i 0)]) rfl ?_
            refine xl (wr := [((a 0), .inr (1, [.ref (a 3), .ref (a 1), .ref (a 4), .int σ.1.2.2.2.1, .ref (a 5)])), ((a 1), .inr (2, [.ref (a 2)])), ((a 2), .inl ((k 0), 8, .inl σ.1.1)), ((a 3), .inl ((k 1), n, .inl σ.1.2.1)), ((a 4), .inl ((k 2), 256, .inl σ.1.2.2.1)), ((a 5), .inl ((k 3), 2, .inr (.inl σ.1.2.2.2.2))), ((a 6), .inr (4, [.int id, .ref (a 7), .ref (a 8), .int σ.2.2.1, .int σ.2.2.2.1, .int σ.2.2.2.2.1])), ((a 7), .inl ((k 4), 32, .inl σ.2.1)), ((a 8), .inr (3, csF σ.2.2.2.2.2))]) (W2 := fun _ => wH a k n id σ) (xS (rest := []) ⟨hx, hb, hml, hown, hts⟩ (c_Fault_of (aF_pageFault.getD i 0)) mw_Fault_of ms_Fault_of k_300 ⟨rfl, rfl, Nat.le_of_ble_eq_true rfl, Nat.le_of_ble_eq_true rfl⟩ hK hP hD hS hA hF [] [] rfl rfl rfl rfl hl.1 rfl (Nat.le_of_ble_eq_true rfl) d_Pages_placeOf_154 ⟨Nat.zero_le _, Nat.zero_le _⟩) hP hD hS hA [] [0, 1, 2, 3, 4, 5, 6, 7, 8] [0, 1, 2, 3, 4, 5, 6, 7, 8] rfl rfl rfl (by decide) (fun _ => rfl) rfl (fun r_28 _ H locs h_28 hP hD hS => ?_)
            subst h_28
            exact rl () hx hb hr hlocks hP hD hS d_Pages_placeOf_157 (by simp only [sp_Pages_placeOf, if_neg c_4, if_pos c_6, if_neg c_19, if_neg c_22, if_pos c_25])
      · refine lv_aload_n hx hb d_Pages_placeOf_85 rfl (lv_at hl 5 rfl) ?_
        refine va_getE (E := R_Access) (nm := nmA) (F := FlA) (ad := fun i => g (i + 1)) (i := i) (q := q_accessFault) hx hb hF.2.1 hi hS hown (List.mem_of_getElem? (i := 1) rfl) (hts _ k_939) (fun _ h9 => h9) d_Pages_placeOf_86 ?_
        refine W.eq (g2 := F0 m 89 ls [.int (aF_accessFault.getD i 0)]) rfl ?_
        refine xl (wr := [((a 0), .inr (1, [.ref (a 3), .ref (a 1), .ref (a 4), .int σ.1.2.2.2.1, .ref (a 5)])), ((a 1), .inr (2, [.ref (a 2)])), ((a 2), .inl ((k 0), 8, .inl σ.1.1)), ((a 3), .inl ((k 1), n, .inl σ.1.2.1)), ((a 4), .inl ((k 2), 256, .inl σ.1.2.2.1)), ((a 5), .inl ((k 3), 2, .inr (.inl σ.1.2.2.2.2))), ((a 6), .inr (4, [.int id, .ref (a 7), .ref (a 8), .int σ.2.2.1, .int σ.2.2.2.1, .int σ.2.2.2.2.1])), ((a 7), .inl ((k 4), 32, .inl σ.2.1)), ((a 8), .inr (3, csF σ.2.2.2.2.2))]) (W2 := fun _ => wH a k n id σ) (xS (rest := []) ⟨hx, hb, hml, hown, hts⟩ (c_Fault_of (aF_accessFault.getD i 0)) mw_Fault_of ms_Fault_of k_300 ⟨rfl, rfl, Nat.le_of_ble_eq_true rfl, Nat.le_of_ble_eq_true rfl⟩ hK hP hD hS hA hF [] [] rfl rfl rfl rfl hl.1 rfl (Nat.le_of_ble_eq_true rfl) d_Pages_placeOf_89 ⟨Nat.zero_le _, Nat.zero_le _⟩) hP hD hS hA [] [0, 1, 2, 3, 4, 5, 6, 7, 8] [0, 1, 2, 3, 4, 5, 6, 7, 8] rfl rfl rfl (by decide) (fun _ => rfl) rfl (fun r_29 _ H locs h_29 hP hD hS => ?_)
        subst h_29
        exact rl () hx hb hr hlocks hP hD hS d_Pages_placeOf_92 (by simp only [sp_Pages_placeOf, if_neg c_4, if_pos c_6, if_pos c_19])
  · refine lv_aload_n hx hb d_Pages_placeOf_33 rfl (lv_at hl 3 rfl) ?_
    refine va_getE (E := R_Access) (nm := nmA) (F := FlA) (ad := fun i => g (i + 1)) (i := i) (q := q_accessFault) hx hb hF.2.1 hi hS hown (List.mem_of_getElem? (i := 1) rfl) (hts _ k_939) (fun _ h9 => h9) d_Pages_placeOf_34 ?_
    refine W.eq (g2 := F0 m 37 ls [.int (aF_accessFault.getD i 0)]) rfl ?_
    refine xl (wr := [((a 0), .inr (1, [.ref (a 3), .ref (a 1), .ref (a 4), .int σ.1.2.2.2.1, .ref (a 5)])), ((a 1), .inr (2, [.ref (a 2)])), ((a 2), .inl ((k 0), 8, .inl σ.1.1)), ((a 3), .inl ((k 1), n, .inl σ.1.2.1)), ((a 4), .inl ((k 2), 256, .inl σ.1.2.2.1)), ((a 5), .inl ((k 3), 2, .inr (.inl σ.1.2.2.2.2))), ((a 6), .inr (4, [.int id, .ref (a 7), .ref (a 8), .int σ.2.2.1, .int σ.2.2.2.1, .int σ.2.2.2.2.1])), ((a 7), .inl ((k 4), 32, .inl σ.2.1)), ((a 8), .inr (3, csF σ.2.2.2.2.2))]) (W2 := fun _ => wH a k n id σ) (xS (rest := []) ⟨hx, hb, hml, hown, hts⟩ (c_Fault_of (aF_accessFault.getD i 0)) mw_Fault_of ms_Fault_of k_300 ⟨rfl, rfl, Nat.le_of_ble_eq_true rfl, Nat.le_of_ble_eq_true rfl⟩ hK hP hD hS hA hF [] [] rfl rfl rfl rfl hl.1 rfl (Nat.le_of_ble_eq_true rfl) d_Pages_placeOf_37 ⟨Nat.zero_le _, Nat.zero_le _⟩) hP hD hS hA [] [0, 1, 2, 3, 4, 5, 6, 7, 8] [0, 1, 2, 3, 4, 5, 6, 7, 8] rfl rfl rfl (by decide) (fun _ => rfl) rfl (fun r_30 _ H locs h_30 hP hD hS => ?_)
    subst h_30
    exact rl () hx hb hr hlocks hP hD hS d_Pages_placeOf_40 (by simp only [sp_Pages_placeOf, if_pos c_4])
