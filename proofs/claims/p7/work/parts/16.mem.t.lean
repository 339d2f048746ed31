set_option maxHeartbeats 4000000 in
set_option maxRecDepth 100000 in
theorem s_Mem_holds (l : Launch) (K : mx_K) (h0 : Nat) (a : Int64) (b : Int32) (sz : Nat) : mx_I l y_Mem_holds b_Mem_holds 4 .boolean { frames := 1, cells := 0, slots := 0, locals := 20 } K [.ref h0, .long a, .int b] [] sz (fun (r : Int32) (u : Unit) => r = mx_holds a b) (fun u : Unit => []) := by
  refine mx_of (by decide) (Nat.le_of_ble_eq_true rfl) ?_
  intro p e s m below meth c A ls H locs hAe F hr hlk hin hsz hP hD hS hl
  rw [hAe]
  have hl : lv_has ls 4 [(0, .ref h0), (1, .long a), (3, .int b)] := hl
  obtain ⟨hx, hb, hml, hown, hT, hK, hN, hE, hA⟩ := id F
  refine lv_lload_n hx hb d_Mem_holds_0 rfl (lv_at hl 1 rfl) ?_
  refine lv_lconst (v := 0) hx hb d_Mem_holds_1 (by decide) ?_
  refine W.lcmp hx hb d_Mem_holds_2 ?_
  refine lv_if_lt (tgt := 21) hx hb d_Mem_holds_3 (by decide) (fun h3 => ?_) (fun h3 => ?_)
  · refine lv_iconst (v := 0) hx hb d_Mem_holds_21 (by decide) ?_
    exact mx_ri F hr hlk (by decide) hP hD hS () [] rfl (by decide) (by
        simp only [lg_cmp_lt] at h3
        unfold mx_holds
        exact (if_neg (fun q => q.1 h3)).symm) (by decide) (by decide) d_Mem_holds_22
  · refine lv_lload_n hx hb d_Mem_holds_6 rfl (lv_at hl 1 rfl) ?_
    refine lv_sipush (v := 4096) hx hb d_Mem_holds_7 (by decide) ?_
    refine lv_iload_n hx hb d_Mem_holds_10 rfl (lv_at hl 2 rfl) ?_
    refine lv_isub hx hb d_Mem_holds_11 ?_
    refine lv_i2l (v := ((4096 : Int32) - b).toInt64) hx hb d_Mem_holds_12 rfl ?_
    refine W.lcmp hx hb d_Mem_holds_13 ?_
    refine lv_if_gt (tgt := 21) hx hb d_Mem_holds_14 (by decide) (fun h14 => ?_) (fun h14 => ?_)
    · refine lv_iconst (v := 0) hx hb d_Mem_holds_21 (by decide) ?_
      exact mx_ri F hr hlk (by decide) hP hD hS () [] rfl (by decide) (by
          simp only [lg_cmp_lt] at h3
          simp only [lg_cmp_gt] at h14
          unfold mx_holds
          exact (if_neg (fun q => q.2 h14)).symm) (by decide) (by decide) d_Mem_holds_22
    · refine lv_iconst (v := 1) hx hb d_Mem_holds_17 (by decide) ?_
      refine lv_goto (tgt := 22) hx hb d_Mem_holds_18 (by decide) ?_
      exact mx_ri F hr hlk (by decide) hP hD hS () [] rfl (by decide) (by
          simp only [lg_cmp_lt] at h3
          simp only [lg_cmp_gt] at h14
          unfold mx_holds
          rw [if_pos ⟨h3, h14⟩]) (by decide) (by decide) d_Mem_holds_22
set_option maxHeartbeats 4000000 in
set_option maxRecDepth 100000 in
theorem s_Mem_shift (l : Launch) (K : mx_K) (a : Int64) (b : Int32) (sz : Nat) : mx_I l y_Mem_shift b_Mem_shift 3 .int { frames := 1, cells := 0, slots := 0, locals := 20 } K [.long a, .int b] [] sz (fun (r : Int32) (u : Unit) => True) (fun u : Unit => []) := by
  refine mx_of (by decide) (Nat.le_of_ble_eq_true rfl) ?_
  intro p e s m below meth c A ls H locs hAe F hr hlk hin hsz hP hD hS hl
  rw [hAe]
  have hl : lv_has ls 3 [(0, .long a), (2, .int b)] := hl
  obtain ⟨hx, hb, hml, hown, hT, hK, hN, hE, hA⟩ := id F
  refine lv_bipush (v := 64) hx hb d_Mem_shift_0 (by decide) ?_
  refine lv_bipush (v := 8) hx hb d_Mem_shift_2 (by decide) ?_
  refine lv_iload_n hx hb d_Mem_shift_4 rfl (lv_at hl 1 rfl) ?_
  refine lv_imul hx hb d_Mem_shift_5 ?_
  refine lv_isub hx hb d_Mem_shift_6 ?_
  refine lv_bipush (v := 8) hx hb d_Mem_shift_7 (by decide) ?_
  refine lv_lload_n hx hb d_Mem_shift_9 rfl (lv_at hl 0 rfl) ?_
  refine lv_ldc2 (v := 7) hx hb hown (hT _ k_611) d_Mem_shift_10 ?_
  refine lv_land hx hb d_Mem_shift_13 ?_
  refine lv_iload_n hx hb d_Mem_shift_14 rfl (lv_at hl 1 rfl) ?_
  refine lv_ineg hx hb d_Mem_shift_15 ?_
  refine lv_i2l (v := (-b).toInt64) hx hb d_Mem_shift_16 rfl ?_
  refine lv_land hx hb d_Mem_shift_17 ?_
  refine lv_l2i (v := ((a &&& (7 : Int64)) &&& ((-b).toInt64)).toInt32) hx hb d_Mem_shift_18 rfl ?_
  refine lv_imul hx hb d_Mem_shift_19 ?_
  refine lv_isub hx hb d_Mem_shift_20 ?_
  exact mx_ri F hr hlk rfl hP hD hS () [] rfl (by decide) trivial (by decide) (by decide) d_Mem_shift_21
set_option maxHeartbeats 4000000 in
set_option maxRecDepth 100000 in
theorem s_Mem_mask (l : Launch) (K : mx_K) (b : Int32) (sz : Nat) : mx_L l y_Mem_mask b_Mem_mask 1 { frames := 1, cells := 0, slots := 0, locals := 20 } K [.int b] [] sz (fun (r : Int64) (u : Unit) => True) (fun u : Unit => []) := by
  refine mx_of (by decide) (Nat.le_of_ble_eq_true rfl) ?_
  intro p e s m below meth c A ls H locs hAe F hr hlk hin hsz hP hD hS hl
  rw [hAe]
  have hl : lv_has ls 1 [(0, .int b)] := hl
  obtain ⟨hx, hb, hml, hown, hT, hK, hN, hE, hA⟩ := id F
  refine lv_ldc2 (v := (-1)) hx hb hown (hT _ k_615) d_Mem_mask_0 ?_
  refine lv_bipush (v := 64) hx hb d_Mem_mask_3 (by decide) ?_
  refine lv_bipush (v := 8) hx hb d_Mem_mask_5 (by decide) ?_
  refine lv_iload_n hx hb d_Mem_mask_7 rfl (lv_at hl 0 rfl) ?_
  refine lv_imul hx hb d_Mem_mask_8 ?_
  refine lv_isub hx hb d_Mem_mask_9 ?_
  refine lv_lushr (v := ((-1 : Int64).toUInt64 >>> (((64 : Int32) - ((8 : Int32) * b)).toInt64.toUInt64 &&& Int64.toUInt64 63)).toInt64) hx hb d_Mem_mask_10 rfl ?_
  exact mx_rl F hr hlk hP hD hS () [] rfl (by decide) trivial (by decide) (by decide) d_Mem_mask_11
set_option maxHeartbeats 4000000 in
set_option maxRecDepth 100000 in
theorem s_Mem_read (l : Launch) (K : mx_K) (h0 : Nat) (a : Int64) (z : Nat) (q : Nat) (f : Nat → Int64) (sz : Nat) (hz1 : 1 ≤ z) (hz8 : z ≤ 8) : mx_L l y_Mem_read b_Mem_read 4 { frames := 2, cells := 0, slots := 0, locals := 43 } K [.ref h0, .long a, .int (nI z)] [(h0, .inr (1, [.ref q])), (q, .inl (K.2.1.1, 512, .inr (.inl f)))] sz (fun (r : Int64) (u : Unit) => True) (fun u : Unit => [(h0, .inr (1, [.ref q])), (q, .inl (K.2.1.1, 512, .inr (.inl f)))]) := by
  refine mx_of (by decide) (Nat.le_of_ble_eq_true rfl) ?_
  intro p e s m below meth c A ls H locs hAe F hr hlk hin hsz hP hD hS hl
  rw [hAe]
  have hl : lv_has ls 4 [(0, .ref h0), (1, .long a), (3, .int (nI z))] := hl
  obtain ⟨hx, hb, hml, hown, hT, hK, hN, hE, hA⟩ := id F
  refine lv_aload_n hx hb d_Mem_read_0 rfl (lv_at hl 0 rfl) ?_
  refine lv_lload_n hx hb d_Mem_read_1 rfl (lv_at hl 1 rfl) ?_
  refine lv_iload_n hx hb d_Mem_read_2 rfl (lv_at hl 2 rfl) ?_
  refine mx_ci (wr := [(h0, .inr (1, [.ref q])), (q, .inl (K.2.1.1, 512, .inr (.inl f)))]) F (mx_runV (As := [.long a, .int (nI z)]) (rest := []) (n := 2) F (s_Mem_holds l K h0 a (nI z) H.size) k_607 (Or.inl k_604) k_605 k_606 k_2 p_Mem_holds rfl rfl hP hD hS [] rfl (by decide) (va_recv (q := (R_Mem, T_Mem, 1)) (ci := 1) (q0 := 0) hK hP rfl rfl) rfl hl.1 rfl (Nat.le_of_ble_eq_true rfl) ⟨by decide, by decide⟩ ⟨by decide, by decide⟩ d_Mem_read_3) hP hD hS [] [0, 1] rfl rfl (by decide) (by decide) (fun r_2 _ H locs hq_1 hP hD hS => ?_)
  obtain rfl : r_2 = mx_holds a (nI z) := hq_1
  have hP : va_P K.1 mx_cl [(h0, .inr (1, [.ref q])), (q, .inl (K.2.1.1, 512, .inr (.inl f)))] H := hP
  have hD : va_D A [(h0, .inr (1, [.ref q])), (q, .inl (K.2.1.1, 512, .inr (.inl f)))] := hD
  refine W.cs (cells' := 0) (slots' := 0) rfl rfl ?_
  refine lv_if_ne (tgt := 11) hx hb d_Mem_read_6 (by decide) (fun h6 => ?_) (fun h6 => ?_)
  · obtain ⟨k, hk, rfl⟩ := mx_holds_ofL (n := z) (by omega) h6
    refine lv_aload_n hx hb d_Mem_read_11 rfl (lv_at hl 0 rfl) ?_
    refine va_get (D := K.1) (ci := 1) (v := .ref q) (C := R_Mem) (T := T_Mem) (N := 1) hx hb hT in_Mem hown hK hP 0 rfl rfl 0 (by decide) (hT _ k_36) (fun _ h9 => h9) rfl d_Mem_read_12 ?_
    refine lv_lload_n hx hb d_Mem_read_15 rfl (lv_at hl 1 rfl) ?_
    refine lv_iconst (v := 3) hx hb d_Mem_read_16 (by decide) ?_
    refine lv_lshr (v := lN (k / 8)) hx hb d_Mem_read_17 (mx_sh3 (by omega)) ?_
    refine lv_l2i (v := nI (k / 8)) hx hb d_Mem_read_18 (lN_i _) ?_
    refine va_lald hx hb hK hP 1 0 rfl rfl (i := nI (k / 8)) (vp_in_nI (n := k / 8) (N := 512) (by omega) (by decide)) d_Mem_read_19 ?_
    refine lv_topl (fun z_3 ez_3 => ?_)
    refine lv_lload_n hx hb d_Mem_read_20 rfl (lv_at hl 1 rfl) ?_
    refine lv_iload_n hx hb d_Mem_read_21 rfl (lv_at hl 2 rfl) ?_
    refine mx_ci (wr := [(h0, .inr (1, [.ref q])), (q, .inl (K.2.1.1, 512, .inr (.inl f)))]) F (mx_runS (As := [.long (lN k), .int (nI z)]) (rest := [.long z_3]) (n := 2) F (s_Mem_shift l K (lN k) (nI z) H.size) k_610 (Or.inl k_608) k_609 k_2 p_Mem_shift rfl rfl hP hD hS [] rfl (by decide)  rfl hl.1 rfl (Nat.le_of_ble_eq_true rfl) ⟨by decide, by decide⟩ ⟨by decide, by decide⟩ d_Mem_read_22) hP hD hS [] [0, 1] rfl rfl (by decide) (by decide) (fun r_5 _ H locs hq_4 hP hD hS => ?_)
    have hP : va_P K.1 mx_cl [(h0, .inr (1, [.ref q])), (q, .inl (K.2.1.1, 512, .inr (.inl f)))] H := hP
    have hD : va_D A [(h0, .inr (1, [.ref q])), (q, .inl (K.2.1.1, 512, .inr (.inl f)))] := hD
    refine W.cs (cells' := 0) (slots' := 0) rfl rfl ?_
    refine lv_lushr (v := (z_3.toUInt64 >>> (r_5.toInt64.toUInt64 &&& Int64.toUInt64 63)).toInt64) hx hb d_Mem_read_25 rfl ?_
    refine lv_iload_n hx hb d_Mem_read_26 rfl (lv_at hl 2 rfl) ?_
    refine mx_cj (wr := [(h0, .inr (1, [.ref q])), (q, .inl (K.2.1.1, 512, .inr (.inl f)))]) F (mx_runS (As := [.int (nI z)]) (rest := [.long ((z_3.toUInt64 >>> (r_5.toInt64.toUInt64 &&& Int64.toUInt64 63)).toInt64)]) (n := 1) F (s_Mem_mask l K (nI z) H.size) k_614 (Or.inl k_612) k_613 k_2 p_Mem_mask rfl rfl hP hD hS [] rfl (by decide)  rfl hl.1 rfl (Nat.le_of_ble_eq_true rfl) ⟨by decide, by decide⟩ ⟨by decide, by decide⟩ d_Mem_read_27) hP hD hS [] [0, 1] rfl rfl (by decide) (by decide) (fun r_7 _ H locs hq_6 hP hD hS => ?_)
    have hP : va_P K.1 mx_cl [(h0, .inr (1, [.ref q])), (q, .inl (K.2.1.1, 512, .inr (.inl f)))] H := hP
    have hD : va_D A [(h0, .inr (1, [.ref q])), (q, .inl (K.2.1.1, 512, .inr (.inl f)))] := hD
    refine W.cs (cells' := 0) (slots' := 0) rfl rfl ?_
    refine lv_land hx hb d_Mem_read_30 ?_
    exact mx_rl F hr hlk hP hD hS () [0, 1] rfl (by decide) trivial (by decide) (by decide) d_Mem_read_31
  · refine lv_lconst (v := 0) hx hb d_Mem_read_9 (by decide) ?_
    exact mx_rl F hr hlk hP hD hS () [0, 1] rfl (by decide) trivial (by decide) (by decide) d_Mem_read_10
set_option maxHeartbeats 4000000 in
set_option maxRecDepth 100000 in
theorem s_Mem_write (l : Launch) (K : mx_K) (h0 : Nat) (a : Int64) (z : Nat) (v : Int64) (q : Nat) (f : Nat → Int64) (sz : Nat) (hz1 : 1 ≤ z) (hz8 : z ≤ 8) : mx_V l y_Mem_write b_Mem_write 8 { frames := 2, cells := 0, slots := 0, locals := 43 } K [.ref h0, .long a, .int (nI z), .long v] [(h0, .inr (1, [.ref q])), (q, .inl (K.2.1.1, 512, .inr (.inl f)))] sz (fun u : va_W => ∃ (f2 : Nat → Int64), u = [(h0, .inr (1, [.ref q])), (q, .inl (K.2.1.1, 512, .inr (.inl f2)))]) (fun u : va_W => u) := by
  refine mx_of (by decide) (Nat.le_of_ble_eq_true rfl) ?_
  intro p e s m below meth c A ls H locs hAe F hr hlk hin hsz hP hD hS hl
  rw [hAe]
  have hl : lv_has ls 8 [(0, .ref h0), (1, .long a), (3, .int (nI z)), (4, .long v)] := hl
  obtain ⟨hx, hb, hml, hown, hT, hK, hN, hE, hA⟩ := id F
  refine lv_aload_n hx hb d_Mem_write_0 rfl (lv_at hl 0 rfl) ?_
  refine lv_lload_n hx hb d_Mem_write_1 rfl (lv_at hl 1 rfl) ?_
  refine lv_iload_n hx hb d_Mem_write_2 rfl (lv_at hl 2 rfl) ?_
  refine mx_ci (wr := [(h0, .inr (1, [.ref q])), (q, .inl (K.2.1.1, 512, .inr (.inl f)))]) F (mx_runV (As := [.long a, .int (nI z)]) (rest := []) (n := 2) F (s_Mem_holds l K h0 a (nI z) H.size) k_607 (Or.inl k_604) k_605 k_606 k_2 p_Mem_holds rfl rfl hP hD hS [] rfl (by decide) (va_recv (q := (R_Mem, T_Mem, 1)) (ci := 1) (q0 := 0) hK hP rfl rfl) rfl hl.1 rfl (Nat.le_of_ble_eq_true rfl) ⟨by decide, by decide⟩ ⟨by decide, by decide⟩ d_Mem_write_3) hP hD hS [] [0, 1] rfl rfl (by decide) (by decide) (fun r_2 _ H locs hq_1 hP hD hS => ?_)
  obtain rfl : r_2 = mx_holds a (nI z) := hq_1
  have hP : va_P K.1 mx_cl [(h0, .inr (1, [.ref q])), (q, .inl (K.2.1.1, 512, .inr (.inl f)))] H := hP
  have hD : va_D A [(h0, .inr (1, [.ref q])), (q, .inl (K.2.1.1, 512, .inr (.inl f)))] := hD
  refine W.cs (cells' := 0) (slots' := 0) rfl rfl ?_
  refine lv_if_ne (tgt := 10) hx hb d_Mem_write_6 (by decide) (fun h6 => ?_) (fun h6 => ?_)
  · obtain ⟨k, hk, rfl⟩ := mx_holds_ofL (n := z) (by omega) h6
    refine lv_lload_n hx hb d_Mem_write_10 rfl (lv_at hl 1 rfl) ?_
    refine lv_iconst (v := 3) hx hb d_Mem_write_11 (by decide) ?_
    refine lv_lshr (v := lN (k / 8)) hx hb d_Mem_write_12 (mx_sh3 (by omega)) ?_
    refine lv_l2i (v := nI (k / 8)) hx hb d_Mem_write_13 (lN_i _) ?_
    refine lv_istore (lv' := [(6, .int (nI (k / 8))), (0, .ref h0), (1, .long (lN k)), (3, .int (nI z)), (4, .long v)]) hx hb d_Mem_write_14 hl (by decide) rfl (fun ls hl => ?_)
    refine lv_lload_n hx hb d_Mem_write_16 rfl (lv_at hl 2 rfl) ?_
    refine lv_iload_n hx hb d_Mem_write_17 rfl (lv_at hl 3 rfl) ?_
    refine mx_ci (wr := [(h0, .inr (1, [.ref q])), (q, .inl (K.2.1.1, 512, .inr (.inl f)))]) F (mx_runS (As := [.long (lN k), .int (nI z)]) (rest := []) (n := 2) F (s_Mem_shift l K (lN k) (nI z) H.size) k_610 (Or.inl k_608) k_609 k_2 p_Mem_shift rfl rfl hP hD hS [] rfl (by decide)  rfl hl.1 rfl (Nat.le_of_ble_eq_true rfl) ⟨by decide, by decide⟩ ⟨by decide, by decide⟩ d_Mem_write_18) hP hD hS [] [0, 1] rfl rfl (by decide) (by decide) (fun r_4 _ H locs hq_3 hP hD hS => ?_)
    have hP : va_P K.1 mx_cl [(h0, .inr (1, [.ref q])), (q, .inl (K.2.1.1, 512, .inr (.inl f)))] H := hP
    have hD : va_D A [(h0, .inr (1, [.ref q])), (q, .inl (K.2.1.1, 512, .inr (.inl f)))] := hD
    refine W.cs (cells' := 0) (slots' := 0) rfl rfl ?_
    refine lv_istore (lv' := [(7, .int r_4), (6, .int (nI (k / 8))), (0, .ref h0), (1, .long (lN k)), (3, .int (nI z)), (4, .long v)]) hx hb d_Mem_write_21 hl (by decide) rfl (fun ls hl => ?_)
    refine lv_aload_n hx hb d_Mem_write_23 rfl (lv_at hl 2 rfl) ?_
    refine va_get (D := K.1) (ci := 1) (v := .ref q) (C := R_Mem) (T := T_Mem) (N := 1) hx hb hT in_Mem hown hK hP 0 rfl rfl 0 (by decide) (hT _ k_36) (fun _ h9 => h9) rfl d_Mem_write_24 ?_
    refine lv_iload hx hb d_Mem_write_27 (lv_at hl 1 rfl) ?_
    refine lv_aload_n hx hb d_Mem_write_29 rfl (lv_at hl 2 rfl) ?_
    refine va_get (D := K.1) (ci := 1) (v := .ref q) (C := R_Mem) (T := T_Mem) (N := 1) hx hb hT in_Mem hown hK hP 0 rfl rfl 0 (by decide) (hT _ k_36) (fun _ h9 => h9) rfl d_Mem_write_30 ?_
    refine lv_iload hx hb d_Mem_write_33 (lv_at hl 1 rfl) ?_
    refine va_lald hx hb hK hP 1 0 rfl rfl (i := nI (k / 8)) (vp_in_nI (n := k / 8) (N := 512) (by omega) (by decide)) d_Mem_write_35 ?_
    refine lv_topl (fun z_5 ez_5 => ?_)
    refine lv_iload_n hx hb d_Mem_write_36 rfl (lv_at hl 4 rfl) ?_
    refine mx_cj (wr := [(h0, .inr (1, [.ref q])), (q, .inl (K.2.1.1, 512, .inr (.inl f)))]) F (mx_runS (As := [.int (nI z)]) (rest := [.long z_5, .int (nI (k / 8)), .ref q]) (n := 1) F (s_Mem_mask l K (nI z) H.size) k_614 (Or.inl k_612) k_613 k_2 p_Mem_mask rfl rfl hP hD hS [] rfl (by decide)  rfl hl.1 rfl (Nat.le_of_ble_eq_true rfl) ⟨by decide, by decide⟩ ⟨by decide, by decide⟩ d_Mem_write_37) hP hD hS [] [0, 1] rfl rfl (by decide) (by decide) (fun r_7 _ H locs hq_6 hP hD hS => ?_)
    have hP : va_P K.1 mx_cl [(h0, .inr (1, [.ref q])), (q, .inl (K.2.1.1, 512, .inr (.inl f)))] H := hP
    have hD : va_D A [(h0, .inr (1, [.ref q])), (q, .inl (K.2.1.1, 512, .inr (.inl f)))] := hD
    refine W.cs (cells' := 0) (slots' := 0) rfl rfl ?_
    refine lv_iload hx hb d_Mem_write_40 (lv_at hl 0 rfl) ?_
    refine lv_lshl (v := r_7 <<< (r_4.toInt64 &&& 63)) hx hb d_Mem_write_42 rfl ?_
    refine lv_ldc2 (v := (-1)) hx hb hown (hT _ k_615) d_Mem_write_43 ?_
    refine lv_lxor hx hb d_Mem_write_46 ?_
    refine lv_land hx hb d_Mem_write_47 ?_
    refine lv_lload hx hb d_Mem_write_48 (lv_at hl 5 rfl) ?_
    refine lv_iload_n hx hb d_Mem_write_50 rfl (lv_at hl 4 rfl) ?_
    refine mx_cj (wr := [(h0, .inr (1, [.ref q])), (q, .inl (K.2.1.1, 512, .inr (.inl f)))]) F (mx_runS (As := [.int (nI z)]) (rest := [.long v, .long (z_5 &&& ((r_7 <<< (r_4.toInt64 &&& 63)) ^^^ (-1 : Int64))), .int (nI (k / 8)), .ref q]) (n := 1) F (s_Mem_mask l K (nI z) H.size) k_614 (Or.inl k_612) k_613 k_2 p_Mem_mask rfl rfl hP hD hS [] rfl (by decide)  rfl hl.1 rfl (Nat.le_of_ble_eq_true rfl) ⟨by decide, by decide⟩ ⟨by decide, by decide⟩ d_Mem_write_51) hP hD hS [] [0, 1] rfl rfl (by decide) (by decide) (fun r_9 _ H locs hq_8 hP hD hS => ?_)
    have hP : va_P K.1 mx_cl [(h0, .inr (1, [.ref q])), (q, .inl (K.2.1.1, 512, .inr (.inl f)))] H := hP
    have hD : va_D A [(h0, .inr (1, [.ref q])), (q, .inl (K.2.1.1, 512, .inr (.inl f)))] := hD
    refine W.cs (cells' := 0) (slots' := 0) rfl rfl ?_
    refine lv_land hx hb d_Mem_write_54 ?_
    refine lv_iload hx hb d_Mem_write_55 (lv_at hl 0 rfl) ?_
    refine lv_lshl (v := (v &&& r_9) <<< (r_4.toInt64 &&& 63)) hx hb d_Mem_write_57 rfl ?_
    refine lv_lor hx hb d_Mem_write_58 ?_
    refine va_last hx hb hK hP hD hS 1 0 rfl rfl (i := nI (k / 8)) (x := (z_5 &&& ((r_7 <<< (r_4.toInt64 &&& 63)) ^^^ (-1 : Int64))) ||| ((v &&& r_9) <<< (r_4.toInt64 &&& 63))) (vp_in_nI (n := k / 8) (N := 512) (by omega) (by decide)) d_Mem_write_59 (fun H locs hP hD hS => ?_)
    have hP : va_P K.1 mx_cl [(h0, .inr (1, [.ref q])), (q, .inl (K.2.1.1, 512, .inr (.inl (vp_updL f (nI (k / 8)).toNatClampNeg ((z_5 &&& ((r_7 <<< (r_4.toInt64 &&& 63)) ^^^ (-1 : Int64))) ||| ((v &&& r_9) <<< (r_4.toInt64 &&& 63)))))))] H := hP
    have hD : va_D A [(h0, .inr (1, [.ref q])), (q, .inl (K.2.1.1, 512, .inr (.inl (vp_updL f (nI (k / 8)).toNatClampNeg ((z_5 &&& ((r_7 <<< (r_4.toInt64 &&& 63)) ^^^ (-1 : Int64))) ||| ((v &&& r_9) <<< (r_4.toInt64 &&& 63)))))))] := hD
    generalize ef_10 : vp_updL f (nI (k / 8)).toNatClampNeg ((z_5 &&& ((r_7 <<< (r_4.toInt64 &&& 63)) ^^^ (-1 : Int64))) ||| ((v &&& r_9) <<< (r_4.toInt64 &&& 63))) = f_10 at hP hD
    exact mx_rv F hr hlk hP hD hS [(h0, .inr (1, [.ref q])), (q, .inl (K.2.1.1, 512, .inr (.inl f_10)))] [0, 1] rfl (by decide) ⟨f_10, rfl⟩ (by decide) (by decide) d_Mem_write_60
  · exact mx_rv F hr hlk hP hD hS [(h0, .inr (1, [.ref q])), (q, .inl (K.2.1.1, 512, .inr (.inl f)))] [0, 1] rfl (by decide) ⟨f, rfl⟩ (by decide) (by decide) d_Mem_write_9
set_option maxHeartbeats 4000000 in
set_option maxRecDepth 100000 in
theorem s_Mem_instruction_b5 {p : Program} {l : Launch} {e : Env} {R : Room} {s : State} {m : MethodId} {args : Array Value} {below : List Frame} {meth : Method} {c : Code} {K : mx_K} {A : Nat → Prop} (h0 : Nat) (a : Int64) (q : Nat) (f : Nat → Int64) (F : mx_F p s m args c b_Mem_instruction 5 "LittleMix$Memory" K A) (hr : meth.sig.returnType = some .int) (hlk : meth.locks = false) (hRf : 3 ≤ R.frames) (hRl : 66 ≤ R.locals)
    : ∀ n : Nat, ∀ (v3 : Int32) (n4 : Nat) (ls : Array Slot) (H : Heap) (locs : List Loc), 4 - n4 < n → (n4 ≤ 4) → lv_has ls 5 [(0, .ref h0), (1, .long a), (3, .int v3), (4, .int (nI n4))] → va_P K.1 mx_cl [(h0, .inr (1, [.ref q])), (q, .inl (K.2.1.1, 512, .inr (.inl f)))] H → va_D A [(h0, .inr (1, [.ref q])), (q, .inl (K.2.1.1, 512, .inr (.inl f)))] → va_S A s.heap H locs → W p l e R s m args below meth c H locs 0 0 (MQ below (va_Qi (fun (r : Int32) (u : Unit) => True) (mx_B K A (fun u : Unit => [(h0, .inr (1, [.ref q])), (q, .inl (K.2.1.1, 512, .inr (.inl f)))])) A) args s 0 0 A) (F0 m 5 ls []) := by
  obtain ⟨hx, hb, hml, hown, hT, hK, hN, hE, hA⟩ := id F
  intro n
  induction n with
  | zero =>
    intro v3 n4 ls H locs hmu h4 hl hP hD hS
    exact absurd hmu (Nat.not_lt_zero _)
  | succ n ih =>
    intro v3 n4 ls H locs hmu h4 hl hP hD hS
    refine lv_iload hx hb d_Mem_instruction_5 (lv_at hl 3 rfl) ?_
    refine lv_iconst (v := 4) hx hb d_Mem_instruction_7 (by decide) ?_
    refine lv_icmp_ge (tgt := 34) hx hb d_Mem_instruction_8 (by decide) (fun h_1 => ?_) (fun h_1 => ?_)
    · have h_1n := mx_fLe (a := 4) (b := n4) (by omega) (by omega) h_1
      refine lv_iload_n hx hb d_Mem_instruction_34 rfl (lv_at hl 2 rfl) ?_
      exact mx_ri F hr hlk rfl hP hD hS () [0, 1] rfl (by decide) trivial (by decide) (by decide) d_Mem_instruction_35
    · have h_1n := mx_fNle (a := 4) (b := n4) (by omega) (by omega) h_1
      refine lv_iload_n hx hb d_Mem_instruction_11 rfl (lv_at hl 2 rfl) ?_
      refine lv_bipush (v := 8) hx hb d_Mem_instruction_12 (by decide) ?_
      refine lv_ishl hx hb d_Mem_instruction_14 ?_
      refine lv_aload_n hx hb d_Mem_instruction_15 rfl (lv_at hl 0 rfl) ?_
      refine lv_lload_n hx hb d_Mem_instruction_16 rfl (lv_at hl 1 rfl) ?_
      refine lv_iload hx hb d_Mem_instruction_17 (lv_at hl 3 rfl) ?_
      refine lv_i2l (v := (nI n4).toInt64) hx hb d_Mem_instruction_19 rfl ?_
      refine lv_ladd hx hb d_Mem_instruction_20 ?_
      refine lv_iconst (v := 1) hx hb d_Mem_instruction_21 (by decide) ?_
      refine mx_cj (wr := []) F (mx_runV (As := [.long (a + ((nI n4).toInt64)), .int 1]) (rest := [.int (v3 <<< ((8 : Int32) &&& 31))]) (n := 2) F (s_Mem_read l K h0 (a + ((nI n4).toInt64)) 1 q f H.size (by decide) (by decide)) k_726 (Or.inl k_758) k_724 k_725 k_2 p_Mem_read rfl rfl hP hD hS [0, 1] rfl (by decide) (va_recv (q := (R_Mem, T_Mem, 1)) (ci := 1) (q0 := 0) hK hP rfl rfl) rfl hl.1 rfl (Nat.le_of_ble_eq_true rfl) ⟨Nat.le_trans (m := 3) (by decide) hRf, Nat.le_trans (m := 66) (by decide) hRl⟩ ⟨Nat.zero_le _, Nat.zero_le _⟩ d_Mem_instruction_22) hP hD hS [0, 1] [] rfl rfl (by decide) (by decide) (fun r_3 _ H locs hq_2 hP hD hS => ?_)
      have hP : va_P K.1 mx_cl [(h0, .inr (1, [.ref q])), (q, .inl (K.2.1.1, 512, .inr (.inl f)))] H := hP
      have hD : va_D A [(h0, .inr (1, [.ref q])), (q, .inl (K.2.1.1, 512, .inr (.inl f)))] := hD
      refine W.cs (cells' := 0) (slots' := 0) rfl rfl ?_
      refine lv_l2i (v := r_3.toInt32) hx hb d_Mem_instruction_25 rfl ?_
      refine lv_ior hx hb d_Mem_instruction_26 ?_
      refine lv_topi (fun z_4 ez_4 => ?_)
      refine lv_istore_n (lv' := [(3, .int z_4), (0, .ref h0), (1, .long a), (4, .int (nI n4))]) hx hb d_Mem_instruction_27 rfl hl (by decide) rfl (fun ls hl => ?_)
      refine lv_iinc (lv' := [(4, .int (nI (n4 + 1))), (3, .int z_4), (0, .ref h0), (1, .long a)]) (v := nI (n4 + 1)) (k := 3) hx hb d_Mem_instruction_28 hl rfl (mx_inc n4) (by decide) rfl (fun ls hl => ?_)
      refine lv_goto (tgt := 5) hx hb d_Mem_instruction_31 (by decide) ?_
      exact ih z_4 (n4 + 1) _ _ _ (by omega) (by first | assumption | omega | exact mx_ch_0) (lv_sub hl [2, 3, 1, 0] rfl) hP hD hS
set_option maxHeartbeats 4000000 in
set_option maxRecDepth 100000 in
theorem s_Mem_instruction (l : Launch) (K : mx_K) (h0 : Nat) (a : Int64) (q : Nat) (f : Nat → Int64) (sz : Nat) : mx_I l y_Mem_instruction b_Mem_instruction 5 .int { frames := 3, cells := 0, slots := 0, locals := 66 } K [.ref h0, .long a] [(h0, .inr (1, [.ref q])), (q, .inl (K.2.1.1, 512, .inr (.inl f)))] sz (fun (r : Int32) (u : Unit) => True) (fun u : Unit => [(h0, .inr (1, [.ref q])), (q, .inl (K.2.1.1, 512, .inr (.inl f)))]) := by
  refine mx_of (by decide) (Nat.le_of_ble_eq_true rfl) ?_
  intro p e s m below meth c A ls H locs hAe F hr hlk hin hsz hP hD hS hl
  rw [hAe]
  have hl : lv_has ls 5 [(0, .ref h0), (1, .long a)] := hl
  obtain ⟨hx, hb, hml, hown, hT, hK, hN, hE, hA⟩ := id F
  refine lv_iconst (v := 0) hx hb d_Mem_instruction_0 (by decide) ?_
  refine lv_istore_n (lv' := [(3, .int 0), (0, .ref h0), (1, .long a)]) hx hb d_Mem_instruction_1 rfl hl (by decide) rfl (fun ls hl => ?_)
  refine lv_iconst (v := 0) hx hb d_Mem_instruction_2 (by decide) ?_
  refine lv_istore (lv' := [(4, .int 0), (3, .int 0), (0, .ref h0), (1, .long a)]) hx hb d_Mem_instruction_3 hl (by decide) rfl (fun ls hl => ?_)
  exact s_Mem_instruction_b5 h0 a q f F hr hlk (by decide) (by decide) (4 - 0 + 1) (0 : Int32) 0 _ _ _ (by omega) (by first | assumption | omega | exact mx_ch_0) (lv_sub hl [2, 3, 1, 0] rfl) hP hD hS
set_option maxHeartbeats 4000000 in
set_option maxRecDepth 100000 in
theorem s_Mem_clear_b2 {p : Program} {l : Launch} {e : Env} {R : Room} {s : State} {m : MethodId} {args : Array Value} {below : List Frame} {meth : Method} {c : Code} {K : mx_K} {A : Nat → Prop} (h0 : Nat) (q : Nat) (f : Nat → Int64) (F : mx_F p s m args c b_Mem_clear 2 "LittleMix$Memory" K A) (hr : meth.sig.returnType = none) (hlk : meth.locks = false) (hRf : 1 ≤ R.frames) (hRl : 20 ≤ R.locals)
    : ∀ n : Nat, ∀ (n1 : Nat) (f_q : Nat → Int64) (ls : Array Slot) (H : Heap) (locs : List Loc), 512 - n1 < n → (n1 ≤ 512) → lv_has ls 2 [(0, .ref h0), (1, .int (nI n1))] → va_P K.1 mx_cl [(h0, .inr (1, [.ref q])), (q, .inl (K.2.1.1, 512, .inr (.inl f_q)))] H → va_D A [(h0, .inr (1, [.ref q])), (q, .inl (K.2.1.1, 512, .inr (.inl f_q)))] → va_S A s.heap H locs → W p l e R s m args below meth c H locs 0 0 (MQ below (va_Qv (fun u : va_W => ∃ (f2 : Nat → Int64), u = [(h0, .inr (1, [.ref q])), (q, .inl (K.2.1.1, 512, .inr (.inl f2)))]) (mx_B K A (fun u : va_W => u)) A) args s 0 0 A) (F0 m 2 ls []) := by
  obtain ⟨hx, hb, hml, hown, hT, hK, hN, hE, hA⟩ := id F
  intro n
  induction n with
  | zero =>
    intro n1 f_q ls H locs hmu h1 hl hP hD hS
    exact absurd hmu (Nat.not_lt_zero _)
  | succ n ih =>
    intro n1 f_q ls H locs hmu h1 hl hP hD hS
    refine lv_iload_n hx hb d_Mem_clear_2 rfl (lv_at hl 1 rfl) ?_
    refine lv_aload_n hx hb d_Mem_clear_3 rfl (lv_at hl 0 rfl) ?_
    refine va_get (D := K.1) (ci := 1) (v := .ref q) (C := R_Mem) (T := T_Mem) (N := 1) hx hb hT in_Mem hown hK hP 0 rfl rfl 0 (by decide) (hT _ k_36) (fun _ h9 => h9) rfl d_Mem_clear_4 ?_
    refine va_alen (v := 512) hx hb hK hP 1 0 rfl rfl rfl d_Mem_clear_7 ?_
    refine lv_icmp_ge (tgt := 24) hx hb d_Mem_clear_8 (by decide) (fun h_1 => ?_) (fun h_1 => ?_)
    · have h_1n := mx_fLe (a := 512) (b := n1) (by omega) (by omega) h_1
      exact mx_rv F hr hlk hP hD hS [(h0, .inr (1, [.ref q])), (q, .inl (K.2.1.1, 512, .inr (.inl f_q)))] [0, 1] rfl (by decide) ⟨f_q, rfl⟩ (by decide) (by decide) d_Mem_clear_24
    · have h_1n := mx_fNle (a := 512) (b := n1) (by omega) (by omega) h_1
      refine lv_aload_n hx hb d_Mem_clear_11 rfl (lv_at hl 0 rfl) ?_
      refine va_get (D := K.1) (ci := 1) (v := .ref q) (C := R_Mem) (T := T_Mem) (N := 1) hx hb hT in_Mem hown hK hP 0 rfl rfl 0 (by decide) (hT _ k_36) (fun _ h9 => h9) rfl d_Mem_clear_12 ?_
      refine lv_iload_n hx hb d_Mem_clear_15 rfl (lv_at hl 1 rfl) ?_
      refine lv_lconst (v := 0) hx hb d_Mem_clear_16 (by decide) ?_
      refine va_last hx hb hK hP hD hS 1 0 rfl rfl (i := nI n1) (x := 0) (vp_in_nI (n := n1) (N := 512) (by omega) (by decide)) d_Mem_clear_17 (fun H locs hP hD hS => ?_)
      have hP : va_P K.1 mx_cl [(h0, .inr (1, [.ref q])), (q, .inl (K.2.1.1, 512, .inr (.inl (vp_updL f_q (nI n1).toNatClampNeg 0))))] H := hP
      have hD : va_D A [(h0, .inr (1, [.ref q])), (q, .inl (K.2.1.1, 512, .inr (.inl (vp_updL f_q (nI n1).toNatClampNeg 0))))] := hD
      generalize ef_2 : vp_updL f_q (nI n1).toNatClampNeg 0 = f_2 at hP hD
      refine lv_iinc (lv' := [(1, .int (nI (n1 + 1))), (0, .ref h0)]) (v := nI (n1 + 1)) (k := 1) hx hb d_Mem_clear_18 hl rfl (mx_inc n1) (by decide) rfl (fun ls hl => ?_)
      refine lv_goto (tgt := 2) hx hb d_Mem_clear_21 (by decide) ?_
      exact ih (n1 + 1) f_2 _ _ _ (by omega) (by first | assumption | omega | exact mx_ch_0) (lv_sub hl [1, 0] rfl) hP hD hS
set_option maxHeartbeats 4000000 in
set_option maxRecDepth 100000 in
theorem s_Mem_clear (l : Launch) (K : mx_K) (h0 : Nat) (q : Nat) (f : Nat → Int64) (sz : Nat) : mx_V l y_Mem_clear b_Mem_clear 2 { frames := 1, cells := 0, slots := 0, locals := 20 } K [.ref h0] [(h0, .inr (1, [.ref q])), (q, .inl (K.2.1.1, 512, .inr (.inl f)))] sz (fun u : va_W => ∃ (f2 : Nat → Int64), u = [(h0, .inr (1, [.ref q])), (q, .inl (K.2.1.1, 512, .inr (.inl f2)))]) (fun u : va_W => u) := by
  refine mx_of (by decide) (Nat.le_of_ble_eq_true rfl) ?_
  intro p e s m below meth c A ls H locs hAe F hr hlk hin hsz hP hD hS hl
  rw [hAe]
  have hl : lv_has ls 2 [(0, .ref h0)] := hl
  obtain ⟨hx, hb, hml, hown, hT, hK, hN, hE, hA⟩ := id F
  refine lv_iconst (v := 0) hx hb d_Mem_clear_0 (by decide) ?_
  refine lv_istore_n (lv' := [(1, .int 0), (0, .ref h0)]) hx hb d_Mem_clear_1 rfl hl (by decide) rfl (fun ls hl => ?_)
  exact s_Mem_clear_b2 h0 q f F hr hlk (by decide) (by decide) (512 - 0 + 1) 0 f _ _ _ (by omega) (by first | assumption | omega | exact mx_ch_0) (lv_sub hl [1, 0] rfl) hP hD hS
set_option maxHeartbeats 4000000 in
set_option maxRecDepth 100000 in
theorem s_Mem_become (l : Launch) (K : mx_K) (h0 : Nat) (h1 : Nat) (q : Nat) (f : Nat → Int64) (q1 : Nat) (f1 : Nat → Int64) (sz : Nat) : mx_V l y_Mem_become b_Mem_become 2 { frames := 1, cells := 0, slots := 0, locals := 80 } K [.ref h0, .ref h1] [(h0, .inr (1, [.ref q])), (q, .inl (K.2.1.1, 512, .inr (.inl f))), (h1, .inr (1, [.ref q1])), (q1, .inl (K.2.1.1, 512, .inr (.inl f1)))] sz (fun u : va_W => ∃ (f2 : Nat → Int64), u = [(h0, .inr (1, [.ref q])), (q, .inl (K.2.1.1, 512, .inr (.inl f2))), (h1, .inr (1, [.ref q1])), (q1, .inl (K.2.1.1, 512, .inr (.inl f1)))]) (fun u : va_W => u) := by
  refine mx_of (by decide) (Nat.le_of_ble_eq_true rfl) ?_
  intro p e s m below meth c A ls H locs hAe F hr hlk hin hsz hP hD hS hl
  rw [hAe]
  have hl : lv_has ls 2 [(0, .ref h0), (1, .ref h1)] := hl
  obtain ⟨hx, hb, hml, hown, hT, hK, hN, hE, hA⟩ := id F
  refine lv_aload_n hx hb d_Mem_become_0 rfl (lv_at hl 1 rfl) ?_
  refine va_get (D := K.1) (ci := 1) (v := .ref q1) (C := R_Mem) (T := T_Mem) (N := 1) hx hb hT in_Mem hown hK hP 2 rfl rfl 0 (by decide) (hT _ k_36) (fun _ h9 => h9) rfl d_Mem_become_1 ?_
  refine lv_iconst (v := 0) hx hb d_Mem_become_4 (by decide) ?_
  refine lv_aload_n hx hb d_Mem_become_5 rfl (lv_at hl 0 rfl) ?_
  refine va_get (D := K.1) (ci := 1) (v := .ref q) (C := R_Mem) (T := T_Mem) (N := 1) hx hb hT in_Mem hown hK hP 0 rfl rfl 0 (by decide) (hT _ k_36) (fun _ h9 => h9) rfl d_Mem_become_6 ?_
  refine lv_iconst (v := 0) hx hb d_Mem_become_9 (by decide) ?_
  refine lv_aload_n hx hb d_Mem_become_10 rfl (lv_at hl 0 rfl) ?_
  refine va_get (D := K.1) (ci := 1) (v := .ref q) (C := R_Mem) (T := T_Mem) (N := 1) hx hb hT in_Mem hown hK hP 0 rfl rfl 0 (by decide) (hT _ k_36) (fun _ h9 => h9) rfl d_Mem_become_11 ?_
  refine va_alen (v := 512) hx hb hK hP 1 0 rfl rfl rfl d_Mem_become_14 ?_
  refine va_copyl hx hb (by rw [hml]; exact hl.1.symm) hown (hT _ k_690) (hT _ k_692) (hT _ k_691) (hT _ k_19) hK hP hD hS 3 1 0 0 rfl rfl rfl rfl rfl (nI_pos (n := 0) (by omega)) (nI_pos (n := 0) (by omega)) (nI_pos (n := 512) (by omega)) (mx_cp (a := 0) (n := 512) (by omega) (by omega) (by omega)) (mx_cp (a := 0) (n := 512) (by omega) (by omega) (by omega)) (fun _ _ => rfl) (by decide) (Nat.le_of_ble_eq_true rfl) d_Mem_become_15 (fun H locs hP hD hS => ?_)
  have hP : va_P K.1 mx_cl [(h0, .inr (1, [.ref q])), (q, .inl (K.2.1.1, 512, .inr (.inl (va_cpy f1 f (nI 0).toNatClampNeg (nI 0).toNatClampNeg (nI 512).toNatClampNeg)))), (h1, .inr (1, [.ref q1])), (q1, .inl (K.2.1.1, 512, .inr (.inl f1)))] H := hP
  have hD : va_D A [(h0, .inr (1, [.ref q])), (q, .inl (K.2.1.1, 512, .inr (.inl (va_cpy f1 f (nI 0).toNatClampNeg (nI 0).toNatClampNeg (nI 512).toNatClampNeg)))), (h1, .inr (1, [.ref q1])), (q1, .inl (K.2.1.1, 512, .inr (.inl f1)))] := hD
  generalize ef_1 : va_cpy f1 f (nI 0).toNatClampNeg (nI 0).toNatClampNeg (nI 512).toNatClampNeg = f_1 at hP hD
  exact mx_rv F hr hlk hP hD hS [(h0, .inr (1, [.ref q])), (q, .inl (K.2.1.1, 512, .inr (.inl f_1))), (h1, .inr (1, [.ref q1])), (q1, .inl (K.2.1.1, 512, .inr (.inl f1)))] [0, 1, 2, 3] rfl (by decide) ⟨f_1, rfl⟩ (by decide) (by decide) d_Mem_become_18
