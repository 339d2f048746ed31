set_option maxHeartbeats 4000000 in
set_option maxRecDepth 100000 in
theorem s_Math_max (l : Launch) (K : mx_K) (a : Int32) (b : Int32) (sz : Nat) : mx_I l y_Math_max b_Math_max 2 .int { frames := 1, cells := 0, slots := 0, locals := 20 } K [.int a, .int b] [] sz (fun (r : Int32) (u : Unit) => r = mx_max a b) (fun u : Unit => []) := by
  refine mx_ofF (by decide +kernel) (Nat.le_of_ble_eq_true rfl) ?_
  intro p e s m below meth c A ls H locs hAe F hr hlk hin hsz hP hD hS hl
  rw [hAe]
  have hl : lv_has ls 2 [(0, .int a), (1, .int b)] := hl
  obtain ⟨hx, hb, hml, hown, hT, hK, hN, hE, hA⟩ := id F
  refine lv_iload_n hx hb d_Math_max_0 rfl (lv_at hl 0 rfl) ?_
  refine lv_iload_n hx hb d_Math_max_1 rfl (lv_at hl 1 rfl) ?_
  refine lv_icmp_lt (tgt := 9) hx hb d_Math_max_2 (by decide) (fun h2 => ?_) (fun h2 => ?_)
  · refine lv_iload_n hx hb d_Math_max_9 rfl (lv_at hl 1 rfl) ?_
    exact mx_ri F hr hlk rfl hP hD hS () [] rfl (by decide) ((if_pos h2).symm) (by decide) (by decide) d_Math_max_10
  · refine lv_iload_n hx hb d_Math_max_5 rfl (lv_at hl 0 rfl) ?_
    refine lv_goto (tgt := 10) hx hb d_Math_max_6 (by decide) ?_
    exact mx_ri F hr hlk rfl hP hD hS () [] rfl (by decide) ((if_neg h2).symm) (by decide) (by decide) d_Math_max_10
set_option maxHeartbeats 4000000 in
set_option maxRecDepth 100000 in
theorem s_Math_min (l : Launch) (K : mx_K) (a : Int32) (b : Int32) (sz : Nat) : mx_I l y_Math_min b_Math_min 2 .int { frames := 1, cells := 0, slots := 0, locals := 20 } K [.int a, .int b] [] sz (fun (r : Int32) (u : Unit) => r = mx_min a b) (fun u : Unit => []) := by
  refine mx_ofF (by decide +kernel) (Nat.le_of_ble_eq_true rfl) ?_
  intro p e s m below meth c A ls H locs hAe F hr hlk hin hsz hP hD hS hl
  rw [hAe]
  have hl : lv_has ls 2 [(0, .int a), (1, .int b)] := hl
  obtain ⟨hx, hb, hml, hown, hT, hK, hN, hE, hA⟩ := id F
  refine lv_iload_n hx hb d_Math_min_0 rfl (lv_at hl 0 rfl) ?_
  refine lv_iload_n hx hb d_Math_min_1 rfl (lv_at hl 1 rfl) ?_
  refine lv_icmp_gt (tgt := 9) hx hb d_Math_min_2 (by decide) (fun h2 => ?_) (fun h2 => ?_)
  · refine lv_iload_n hx hb d_Math_min_9 rfl (lv_at hl 1 rfl) ?_
    exact mx_ri F hr hlk rfl hP hD hS () [] rfl (by decide) ((if_pos h2).symm) (by decide) (by decide) d_Math_min_10
  · refine lv_iload_n hx hb d_Math_min_5 rfl (lv_at hl 0 rfl) ?_
    refine lv_goto (tgt := 10) hx hb d_Math_min_6 (by decide) ?_
    exact mx_ri F hr hlk rfl hP hD hS () [] rfl (by decide) ((if_neg h2).symm) (by decide) (by decide) d_Math_min_10
set_option maxHeartbeats 4000000 in
set_option maxRecDepth 100000 in
theorem s_Math_floorMod (l : Launch) (K : mx_K) (a : Int64) (b : Int64) (sz : Nat) (h0 : ¬ b = 0) : mx_L l y_Math_floorMod b_Math_floorMod 6 { frames := 1, cells := 0, slots := 0, locals := 20 } K [.long a, .long b] [] sz (fun (r : Int64) (u : Unit) => True) (fun u : Unit => []) := by
  refine mx_ofF (by decide +kernel) (Nat.le_of_ble_eq_true rfl) ?_
  intro p e s m below meth c A ls H locs hAe F hr hlk hin hsz hP hD hS hl
  rw [hAe]
  have hl : lv_has ls 6 [(0, .long a), (2, .long b)] := hl
  obtain ⟨hx, hb, hml, hown, hT, hK, hN, hE, hA⟩ := id F
  refine lv_lload_n hx hb d_Math_floorMod_0 rfl (lv_at hl 0 rfl) ?_
  refine lv_lload_n hx hb d_Math_floorMod_1 rfl (lv_at hl 1 rfl) ?_
  refine lv_lrem hx hb d_Math_floorMod_2 h0 ?_
  refine lv_topl (fun z_1 ez_1 => ?_)
  refine lv_lstore (lv' := [(4, .long z_1), (0, .long a), (2, .long b)]) hx hb d_Math_floorMod_3 hl (by decide) rfl (fun ls hl => ?_)
  refine lv_lload_n hx hb d_Math_floorMod_5 rfl (lv_at hl 1 rfl) ?_
  refine lv_lload_n hx hb d_Math_floorMod_6 rfl (lv_at hl 2 rfl) ?_
  refine lv_lxor hx hb d_Math_floorMod_7 ?_
  refine lv_lconst (v := 0) hx hb d_Math_floorMod_8 (by decide) ?_
  refine W.lcmp hx hb d_Math_floorMod_9 ?_
  refine lv_if_ge (tgt := 25) hx hb d_Math_floorMod_10 (by decide) (fun h_2 => ?_) (fun h_2 => ?_)
  · refine lv_lload hx hb d_Math_floorMod_25 (lv_at hl 0 rfl) ?_
    exact mx_rl F hr hlk hP hD hS () [] rfl (by decide) trivial (by decide) (by decide) d_Math_floorMod_27
  · refine lv_lload hx hb d_Math_floorMod_13 (lv_at hl 0 rfl) ?_
    refine lv_lconst (v := 0) hx hb d_Math_floorMod_15 (by decide) ?_
    refine W.lcmp hx hb d_Math_floorMod_16 ?_
    refine lv_if_eq (tgt := 25) hx hb d_Math_floorMod_17 (by decide) (fun h_3 => ?_) (fun h_3 => ?_)
    · refine lv_lload hx hb d_Math_floorMod_25 (lv_at hl 0 rfl) ?_
      exact mx_rl F hr hlk hP hD hS () [] rfl (by decide) trivial (by decide) (by decide) d_Math_floorMod_27
    · refine lv_lload hx hb d_Math_floorMod_20 (lv_at hl 0 rfl) ?_
      refine lv_lload_n hx hb d_Math_floorMod_22 rfl (lv_at hl 2 rfl) ?_
      refine lv_ladd hx hb d_Math_floorMod_23 ?_
      exact mx_rl F hr hlk hP hD hS () [] rfl (by decide) trivial (by decide) (by decide) d_Math_floorMod_24
set_option maxHeartbeats 4000000 in
set_option maxRecDepth 100000 in
theorem s_Math_floorDiv (l : Launch) (K : mx_K) (a : Int64) (b : Int64) (sz : Nat) (h0 : ¬ b = 0) : mx_L l y_Math_floorDiv b_Math_floorDiv 6 { frames := 1, cells := 0, slots := 0, locals := 20 } K [.long a, .long b] [] sz (fun (r : Int64) (u : Unit) => True) (fun u : Unit => []) := by
  refine mx_ofF (by decide +kernel) (Nat.le_of_ble_eq_true rfl) ?_
  intro p e s m below meth c A ls H locs hAe F hr hlk hin hsz hP hD hS hl
  rw [hAe]
  have hl : lv_has ls 6 [(0, .long a), (2, .long b)] := hl
  obtain ⟨hx, hb, hml, hown, hT, hK, hN, hE, hA⟩ := id F
  refine lv_lload_n hx hb d_Math_floorDiv_0 rfl (lv_at hl 0 rfl) ?_
  refine lv_lload_n hx hb d_Math_floorDiv_1 rfl (lv_at hl 1 rfl) ?_
  refine lv_ldiv hx hb d_Math_floorDiv_2 h0 ?_
  refine lv_topl (fun z_1 ez_1 => ?_)
  refine lv_lstore (lv' := [(4, .long z_1), (0, .long a), (2, .long b)]) hx hb d_Math_floorDiv_3 hl (by decide) rfl (fun ls hl => ?_)
  refine lv_lload_n hx hb d_Math_floorDiv_5 rfl (lv_at hl 1 rfl) ?_
  refine lv_lload_n hx hb d_Math_floorDiv_6 rfl (lv_at hl 2 rfl) ?_
  refine lv_lxor hx hb d_Math_floorDiv_7 ?_
  refine lv_lconst (v := 0) hx hb d_Math_floorDiv_8 (by decide) ?_
  refine W.lcmp hx hb d_Math_floorDiv_9 ?_
  refine lv_if_ge (tgt := 27) hx hb d_Math_floorDiv_10 (by decide) (fun h_2 => ?_) (fun h_2 => ?_)
  · refine lv_lload hx hb d_Math_floorDiv_27 (lv_at hl 0 rfl) ?_
    exact mx_rl F hr hlk hP hD hS () [] rfl (by decide) trivial (by decide) (by decide) d_Math_floorDiv_29
  · refine lv_lload hx hb d_Math_floorDiv_13 (lv_at hl 0 rfl) ?_
    refine lv_lload_n hx hb d_Math_floorDiv_15 rfl (lv_at hl 2 rfl) ?_
    refine lv_lmul hx hb d_Math_floorDiv_16 ?_
    refine lv_lload_n hx hb d_Math_floorDiv_17 rfl (lv_at hl 1 rfl) ?_
    refine W.lcmp hx hb d_Math_floorDiv_18 ?_
    refine lv_if_eq (tgt := 27) hx hb d_Math_floorDiv_19 (by decide) (fun h_3 => ?_) (fun h_3 => ?_)
    · refine lv_lload hx hb d_Math_floorDiv_27 (lv_at hl 0 rfl) ?_
      exact mx_rl F hr hlk hP hD hS () [] rfl (by decide) trivial (by decide) (by decide) d_Math_floorDiv_29
    · refine lv_lload hx hb d_Math_floorDiv_22 (lv_at hl 0 rfl) ?_
      refine lv_lconst (v := 1) hx hb d_Math_floorDiv_24 (by decide) ?_
      refine lv_lsub hx hb d_Math_floorDiv_25 ?_
      exact mx_rl F hr hlk hP hD hS () [] rfl (by decide) trivial (by decide) (by decide) d_Math_floorDiv_26
set_option maxHeartbeats 4000000 in
set_option maxRecDepth 100000 in
theorem s_Long_compare (l : Launch) (K : mx_K) (a : Int64) (b : Int64) (sz : Nat) : mx_I l y_Long_compare b_Long_compare 4 .int { frames := 1, cells := 0, slots := 0, locals := 20 } K [.long a, .long b] [] sz (fun (r : Int32) (u : Unit) => True) (fun u : Unit => []) := by
  refine mx_of (by decide) (Nat.le_of_ble_eq_true rfl) ?_
  intro p e s m below meth c A ls H locs hAe F hr hlk hin hsz hP hD hS hl
  rw [hAe]
  have hl : lv_has ls 4 [(0, .long a), (2, .long b)] := hl
  obtain ⟨hx, hb, hml, hown, hT, hK, hN, hE, hA⟩ := id F
  refine lv_lload_n hx hb d_Long_compare_0 rfl (lv_at hl 0 rfl) ?_
  refine lv_lload_n hx hb d_Long_compare_1 rfl (lv_at hl 1 rfl) ?_
  refine W.lcmp hx hb d_Long_compare_2 ?_
  refine lv_if_ge (tgt := 10) hx hb d_Long_compare_3 (by decide) (fun h_1 => ?_) (fun h_1 => ?_)
  · refine lv_lload_n hx hb d_Long_compare_10 rfl (lv_at hl 0 rfl) ?_
    refine lv_lload_n hx hb d_Long_compare_11 rfl (lv_at hl 1 rfl) ?_
    refine W.lcmp hx hb d_Long_compare_12 ?_
    refine lv_if_ne (tgt := 20) hx hb d_Long_compare_13 (by decide) (fun h_2 => ?_) (fun h_2 => ?_)
    · refine lv_iconst (v := 1) hx hb d_Long_compare_20 (by decide) ?_
      exact mx_ri F hr hlk rfl hP hD hS () [] rfl (by decide) trivial (by decide) (by decide) d_Long_compare_21
    · refine lv_iconst (v := 0) hx hb d_Long_compare_16 (by decide) ?_
      refine lv_goto (tgt := 21) hx hb d_Long_compare_17 (by decide) ?_
      exact mx_ri F hr hlk rfl hP hD hS () [] rfl (by decide) trivial (by decide) (by decide) d_Long_compare_21
  · refine lv_iconst (v := (-1)) hx hb d_Long_compare_6 (by decide) ?_
    refine lv_goto (tgt := 21) hx hb d_Long_compare_7 (by decide) ?_
    exact mx_ri F hr hlk rfl hP hD hS () [] rfl (by decide) trivial (by decide) (by decide) d_Long_compare_21
set_option maxHeartbeats 4000000 in
set_option maxRecDepth 100000 in
theorem s_Long_bitCount (l : Launch) (K : mx_K) (a : Int64) (sz : Nat) : mx_I l y_Long_bitCount b_Long_bitCount 2 .int { frames := 1, cells := 0, slots := 0, locals := 20 } K [.long a] [] sz (fun (r : Int32) (u : Unit) => True) (fun u : Unit => []) := by
  refine mx_of (by decide) (Nat.le_of_ble_eq_true rfl) ?_
  intro p e s m below meth c A ls H locs hAe F hr hlk hin hsz hP hD hS hl
  rw [hAe]
  have hl : lv_has ls 2 [(0, .long a)] := hl
  obtain ⟨hx, hb, hml, hown, hT, hK, hN, hE, hA⟩ := id F
  refine lv_lload_n hx hb d_Long_bitCount_0 rfl (lv_at hl 0 rfl) ?_
  refine lv_lload_n hx hb d_Long_bitCount_1 rfl (lv_at hl 0 rfl) ?_
  refine lv_iconst (v := 1) hx hb d_Long_bitCount_2 (by decide) ?_
  refine lv_lushr (v := (a.toUInt64 >>> ((1 : Int32).toInt64.toUInt64 &&& Int64.toUInt64 63)).toInt64) hx hb d_Long_bitCount_3 rfl ?_
  refine lv_ldc2 (v := 6148914691236517205) hx hb hown (hT _ k_925) d_Long_bitCount_4 ?_
  refine lv_land hx hb d_Long_bitCount_7 ?_
  refine lv_lsub hx hb d_Long_bitCount_8 ?_
  refine lv_topl (fun z_1 ez_1 => ?_)
  refine lv_lstore_n (lv' := [(0, .long z_1)]) hx hb d_Long_bitCount_9 rfl hl (by decide) rfl (fun ls hl => ?_)
  refine lv_lload_n hx hb d_Long_bitCount_10 rfl (lv_at hl 0 rfl) ?_
  refine lv_ldc2 (v := 3689348814741910323) hx hb hown (hT _ k_926) d_Long_bitCount_11 ?_
  refine lv_land hx hb d_Long_bitCount_14 ?_
  refine lv_lload_n hx hb d_Long_bitCount_15 rfl (lv_at hl 0 rfl) ?_
  refine lv_iconst (v := 2) hx hb d_Long_bitCount_16 (by decide) ?_
  refine lv_lushr (v := (z_1.toUInt64 >>> ((2 : Int32).toInt64.toUInt64 &&& Int64.toUInt64 63)).toInt64) hx hb d_Long_bitCount_17 rfl ?_
  refine lv_ldc2 (v := 3689348814741910323) hx hb hown (hT _ k_926) d_Long_bitCount_18 ?_
  refine lv_land hx hb d_Long_bitCount_21 ?_
  refine lv_ladd hx hb d_Long_bitCount_22 ?_
  refine lv_topl (fun z_2 ez_2 => ?_)
  refine lv_lstore_n (lv' := [(0, .long z_2)]) hx hb d_Long_bitCount_23 rfl hl (by decide) rfl (fun ls hl => ?_)
  refine lv_lload_n hx hb d_Long_bitCount_24 rfl (lv_at hl 0 rfl) ?_
  refine lv_lload_n hx hb d_Long_bitCount_25 rfl (lv_at hl 0 rfl) ?_
  refine lv_iconst (v := 4) hx hb d_Long_bitCount_26 (by decide) ?_
  refine lv_lushr (v := (z_2.toUInt64 >>> ((4 : Int32).toInt64.toUInt64 &&& Int64.toUInt64 63)).toInt64) hx hb d_Long_bitCount_27 rfl ?_
  refine lv_ladd hx hb d_Long_bitCount_28 ?_
  refine lv_ldc2 (v := 1085102592571150095) hx hb hown (hT _ k_927) d_Long_bitCount_29 ?_
  refine lv_land hx hb d_Long_bitCount_32 ?_
  refine lv_topl (fun z_3 ez_3 => ?_)
  refine lv_lstore_n (lv' := [(0, .long z_3)]) hx hb d_Long_bitCount_33 rfl hl (by decide) rfl (fun ls hl => ?_)
  refine lv_lload_n hx hb d_Long_bitCount_34 rfl (lv_at hl 0 rfl) ?_
  refine lv_lload_n hx hb d_Long_bitCount_35 rfl (lv_at hl 0 rfl) ?_
  refine lv_bipush (v := 8) hx hb d_Long_bitCount_36 (by decide) ?_
  refine lv_lushr (v := (z_3.toUInt64 >>> ((8 : Int32).toInt64.toUInt64 &&& Int64.toUInt64 63)).toInt64) hx hb d_Long_bitCount_38 rfl ?_
  refine lv_ladd hx hb d_Long_bitCount_39 ?_
  refine lv_topl (fun z_4 ez_4 => ?_)
  refine lv_lstore_n (lv' := [(0, .long z_4)]) hx hb d_Long_bitCount_40 rfl hl (by decide) rfl (fun ls hl => ?_)
  refine lv_lload_n hx hb d_Long_bitCount_41 rfl (lv_at hl 0 rfl) ?_
  refine lv_lload_n hx hb d_Long_bitCount_42 rfl (lv_at hl 0 rfl) ?_
  refine lv_bipush (v := 16) hx hb d_Long_bitCount_43 (by decide) ?_
  refine lv_lushr (v := (z_4.toUInt64 >>> ((16 : Int32).toInt64.toUInt64 &&& Int64.toUInt64 63)).toInt64) hx hb d_Long_bitCount_45 rfl ?_
  refine lv_ladd hx hb d_Long_bitCount_46 ?_
  refine lv_topl (fun z_5 ez_5 => ?_)
  refine lv_lstore_n (lv' := [(0, .long z_5)]) hx hb d_Long_bitCount_47 rfl hl (by decide) rfl (fun ls hl => ?_)
  refine lv_lload_n hx hb d_Long_bitCount_48 rfl (lv_at hl 0 rfl) ?_
  refine lv_lload_n hx hb d_Long_bitCount_49 rfl (lv_at hl 0 rfl) ?_
  refine lv_bipush (v := 32) hx hb d_Long_bitCount_50 (by decide) ?_
  refine lv_lushr (v := (z_5.toUInt64 >>> ((32 : Int32).toInt64.toUInt64 &&& Int64.toUInt64 63)).toInt64) hx hb d_Long_bitCount_52 rfl ?_
  refine lv_ladd hx hb d_Long_bitCount_53 ?_
  refine lv_topl (fun z_6 ez_6 => ?_)
  refine lv_lstore_n (lv' := [(0, .long z_6)]) hx hb d_Long_bitCount_54 rfl hl (by decide) rfl (fun ls hl => ?_)
  refine lv_lload_n hx hb d_Long_bitCount_55 rfl (lv_at hl 0 rfl) ?_
  refine lv_l2i (v := z_6.toInt32) hx hb d_Long_bitCount_56 rfl ?_
  refine lv_bipush (v := 127) hx hb d_Long_bitCount_57 (by decide) ?_
  refine lv_iand hx hb d_Long_bitCount_59 ?_
  exact mx_ri F hr hlk rfl hP hD hS () [] rfl (by decide) trivial (by decide) (by decide) d_Long_bitCount_60
set_option maxHeartbeats 4000000 in
set_option maxRecDepth 100000 in
theorem s_Long_compareUnsigned (l : Launch) (K : mx_K) (a : Int64) (b : Int64) (sz : Nat) : mx_I l y_Long_compareUnsigned b_Long_compareUnsigned 4 .int { frames := 2, cells := 0, slots := 0, locals := 43 } K [.long a, .long b] [] sz (fun (r : Int32) (u : Unit) => True) (fun u : Unit => []) := by
  refine mx_of (by decide) (Nat.le_of_ble_eq_true rfl) ?_
  intro p e s m below meth c A ls H locs hAe F hr hlk hin hsz hP hD hS hl
  rw [hAe]
  have hl : lv_has ls 4 [(0, .long a), (2, .long b)] := hl
  obtain ⟨hx, hb, hml, hown, hT, hK, hN, hE, hA⟩ := id F
  refine lv_lload_n hx hb d_Long_compareUnsigned_0 rfl (lv_at hl 0 rfl) ?_
  refine lv_ldc2 (v := (-9223372036854775808)) hx hb hown (hT _ k_1335) d_Long_compareUnsigned_1 ?_
  refine lv_ladd hx hb d_Long_compareUnsigned_4 ?_
  refine lv_lload_n hx hb d_Long_compareUnsigned_5 rfl (lv_at hl 1 rfl) ?_
  refine lv_ldc2 (v := (-9223372036854775808)) hx hb hown (hT _ k_1335) d_Long_compareUnsigned_6 ?_
  refine lv_ladd hx hb d_Long_compareUnsigned_9 ?_
  refine mx_ci (wr := []) F (mx_runS (As := [.long (a + (-9223372036854775808 : Int64)), .long (b + (-9223372036854775808 : Int64))]) (rest := []) (n := 2) F (s_Long_compare l K (a + (-9223372036854775808 : Int64)) (b + (-9223372036854775808 : Int64)) H.size) k_897 (Or.inl k_1336) k_896 k_21 p_Long_compare rfl rfl hP hD hS [] rfl (by decide)  rfl hl.1 rfl (Nat.le_of_ble_eq_true rfl) ⟨by decide, by decide⟩ ⟨by decide, by decide⟩ d_Long_compareUnsigned_10) hP hD hS [] [] rfl rfl (by decide) (by decide) (fun r_2 _ H locs hq_1 hP hD hS => ?_)
  have hP : va_P K.1 mx_cl [] H := hP
  have hD : va_D A [] := hD
  refine W.cs (cells' := 0) (slots' := 0) rfl rfl ?_
  exact mx_ri F hr hlk rfl hP hD hS () [] rfl (by decide) trivial (by decide) (by decide) d_Long_compareUnsigned_13
set_option maxHeartbeats 4000000 in
set_option maxRecDepth 100000 in
theorem s_Lat_canEncode (l : Launch) (K : mx_K) (a : Int32) (sz : Nat) : mx_I l y_StringLatin1_canEncode b_StringLatin1_canEncode 1 .boolean { frames := 1, cells := 0, slots := 0, locals := 20 } K [.int a] [] sz (fun (r : Int32) (u : Unit) => r = 0 ∨ r = 1) (fun u : Unit => []) := by
  refine mx_of (by decide) (Nat.le_of_ble_eq_true rfl) ?_
  intro p e s m below meth c A ls H locs hAe F hr hlk hin hsz hP hD hS hl
  rw [hAe]
  have hl : lv_has ls 1 [(0, .int a)] := hl
  obtain ⟨hx, hb, hml, hown, hT, hK, hN, hE, hA⟩ := id F
  refine lv_iload_n hx hb d_StringLatin1_canEncode_0 rfl (lv_at hl 0 rfl) ?_
  refine lv_if_lt (tgt := 15) hx hb d_StringLatin1_canEncode_1 (by decide) (fun h_1 => ?_) (fun h_1 => ?_)
  · refine lv_iconst (v := 0) hx hb d_StringLatin1_canEncode_15 (by decide) ?_
    exact mx_ri F hr hlk (by decide) hP hD hS () [] rfl (by decide) (Or.inl rfl) (by decide) (by decide) d_StringLatin1_canEncode_16
  · refine lv_iload_n hx hb d_StringLatin1_canEncode_4 rfl (lv_at hl 0 rfl) ?_
    refine lv_sipush (v := 255) hx hb d_StringLatin1_canEncode_5 (by decide) ?_
    refine lv_icmp_gt (tgt := 15) hx hb d_StringLatin1_canEncode_8 (by decide) (fun h_2 => ?_) (fun h_2 => ?_)
    · refine lv_iconst (v := 0) hx hb d_StringLatin1_canEncode_15 (by decide) ?_
      exact mx_ri F hr hlk (by decide) hP hD hS () [] rfl (by decide) (Or.inl rfl) (by decide) (by decide) d_StringLatin1_canEncode_16
    · refine lv_iconst (v := 1) hx hb d_StringLatin1_canEncode_11 (by decide) ?_
      refine lv_goto (tgt := 16) hx hb d_StringLatin1_canEncode_12 (by decide) ?_
      exact mx_ri F hr hlk (by decide) hP hD hS () [] rfl (by decide) (Or.inr rfl) (by decide) (by decide) d_StringLatin1_canEncode_16
set_option maxHeartbeats 4000000 in
set_option maxRecDepth 100000 in
theorem s_Lat_indexOfChar_b7 {p : Program} {l : Launch} {e : Env} {R : Room} {s : State} {m : MethodId} {args : Array Value} {below : List Frame} {meth : Method} {c : Code} {K : mx_K} {A : Nat → Prop} (sn : Nat) (a : Int32) (n3 : Nat) (hsn : sn < mx_nS) (hn3 : n3 = mx_len.getD sn 0) (hll : mx_len.getD sn 0 < 2 ^ 31) (F : mx_F p s m args c b_StringLatin1_indexOfChar 6 "java/lang/StringLatin1" K A) (hr : meth.sig.returnType = some .int) (hlk : meth.locks = false) (hRf : 1 ≤ R.frames) (hRl : 20 ≤ R.locals)
    : ∀ n : Nat, ∀ (v4 : Int32) (n5 : Nat) (ls : Array Slot) (H : Heap) (locs : List Loc), mx_len.getD sn 0 - n5 < n → (n5 ≤ mx_len.getD sn 0) → lv_has ls 6 [(0, .ref (K.2.2.2 sn)), (1, .int a), (2, .int 0), (3, .int (nI n3)), (4, .int v4), (5, .int (nI n5))] → va_P K.1 mx_cl [] H → va_D A [] → va_S A s.heap H locs → W p l e R s m args below meth c H locs 0 0 (MQ below (va_Qi (fun (r : Int32) (u : Unit) => r = -1 ∨ ∃ k : Nat, k < mx_len.getD sn 0 ∧ r = nI k) (mx_B K A (fun u : Unit => [])) A) args s 0 0 A) (F0 m 7 ls []) := by
  obtain ⟨hx, hb, hml, hown, hT, hK, hN, hE, hA⟩ := id F
  intro n
  induction n with
  | zero =>
    intro v4 n5 ls H locs hmu h5 hl hP hD hS
    exact absurd hmu (Nat.not_lt_zero _)
  | succ n ih =>
    intro v4 n5 ls H locs hmu h5 hl hP hD hS
    refine lv_iload hx hb d_StringLatin1_indexOfChar_7 (lv_at hl 5 rfl) ?_
    refine lv_iload_n hx hb d_StringLatin1_indexOfChar_9 rfl (lv_at hl 3 rfl) ?_
    refine lv_icmp_ge (tgt := 31) hx hb d_StringLatin1_indexOfChar_10 (by decide) (fun h_1 => ?_) (fun h_1 => ?_)
    · have h_1n := mx_fLe (a := n3) (b := n5) (by omega) (by omega) h_1
      refine lv_iconst (v := (-1)) hx hb d_StringLatin1_indexOfChar_31 (by decide) ?_
      exact mx_ri F hr hlk rfl hP hD hS () [] rfl (by decide) (Or.inl rfl) (by decide) (by decide) d_StringLatin1_indexOfChar_32
    · have h_1n := mx_fNle (a := n3) (b := n5) (by omega) (by omega) h_1
      refine lv_aload_n hx hb d_StringLatin1_indexOfChar_13 rfl (lv_at hl 0 rfl) ?_
      refine lv_iload hx hb d_StringLatin1_indexOfChar_14 (lv_at hl 5 rfl) ?_
      refine va_tb hx hb (hE.1 sn hsn).2.2.2 hS (i := nI n5) (vp_in_nI (by omega) (by omega)) rfl d_StringLatin1_indexOfChar_16 ?_
      refine lv_topi (fun z_2 ez_2 => ?_)
      refine lv_iload hx hb d_StringLatin1_indexOfChar_17 (lv_at hl 4 rfl) ?_
      refine lv_icmp_ne (tgt := 25) hx hb d_StringLatin1_indexOfChar_19 (by decide) (fun h_3 => ?_) (fun h_3 => ?_)
      · refine lv_iinc (lv' := [(5, .int (nI (n5 + 1))), (0, .ref (K.2.2.2 sn)), (1, .int a), (2, .int 0), (3, .int (nI n3)), (4, .int v4)]) (v := nI (n5 + 1)) (k := 5) hx hb d_StringLatin1_indexOfChar_25 hl rfl (mx_inc n5) (by decide) rfl (fun ls hl => ?_)
        refine lv_goto (tgt := 7) hx hb d_StringLatin1_indexOfChar_28 (by decide) ?_
        exact ih v4 (n5 + 1) _ _ _ (by omega) (by first | assumption | omega | exact mx_ch_0) (lv_sub hl [1, 2, 3, 4, 5, 0] rfl) hP hD hS
      · refine lv_iload hx hb d_StringLatin1_indexOfChar_22 (lv_at hl 5 rfl) ?_
        exact mx_ri F hr hlk rfl hP hD hS () [] rfl (by decide) (Or.inr ⟨_, (by omega), rfl⟩) (by decide) (by decide) d_StringLatin1_indexOfChar_24
set_option maxHeartbeats 4000000 in
set_option maxRecDepth 100000 in
theorem s_Lat_indexOfChar (l : Launch) (K : mx_K) (sn : Nat) (a : Int32) (n3 : Nat) (sz : Nat) (hsn : sn < mx_nS) (hn3 : n3 = mx_len.getD sn 0) (hll : mx_len.getD sn 0 < 2 ^ 31) : mx_I l y_StringLatin1_indexOfChar b_StringLatin1_indexOfChar 6 .int { frames := 1, cells := 0, slots := 0, locals := 20 } K [.ref (K.2.2.2 sn), .int a, .int 0, .int (nI n3)] [] sz (fun (r : Int32) (u : Unit) => r = -1 ∨ ∃ k : Nat, k < mx_len.getD sn 0 ∧ r = nI k) (fun u : Unit => []) := by
  refine mx_of (by decide) (Nat.le_of_ble_eq_true rfl) ?_
  intro p e s m below meth c A ls H locs hAe F hr hlk hin hsz hP hD hS hl
  rw [hAe]
  have hl : lv_has ls 6 [(0, .ref (K.2.2.2 sn)), (1, .int a), (2, .int 0), (3, .int (nI n3))] := hl
  obtain ⟨hx, hb, hml, hown, hT, hK, hN, hE, hA⟩ := id F
  refine lv_iload_n hx hb d_StringLatin1_indexOfChar_0 rfl (lv_at hl 1 rfl) ?_
  refine lv_i2b (v := a.toInt8.toInt32) hx hb d_StringLatin1_indexOfChar_1 rfl ?_
  refine lv_istore (lv' := [(4, .int a.toInt8.toInt32), (0, .ref (K.2.2.2 sn)), (1, .int a), (2, .int 0), (3, .int (nI n3))]) hx hb d_StringLatin1_indexOfChar_2 hl (by decide) rfl (fun ls hl => ?_)
  refine lv_iload_n hx hb d_StringLatin1_indexOfChar_4 rfl (lv_at hl 3 rfl) ?_
  refine lv_istore (lv' := [(5, .int 0), (4, .int a.toInt8.toInt32), (0, .ref (K.2.2.2 sn)), (1, .int a), (2, .int 0), (3, .int (nI n3))]) hx hb d_StringLatin1_indexOfChar_5 hl (by decide) rfl (fun ls hl => ?_)
  exact s_Lat_indexOfChar_b7 sn a n3 hsn hn3 hll F hr hlk (by decide) (by decide) (mx_len.getD sn 0 - 0 + 1) a.toInt8.toInt32 0 _ _ _ (by omega) (by first | assumption | omega | exact mx_ch_0) (lv_sub hl [2, 3, 4, 5, 1, 0] rfl) hP hD hS
set_option maxHeartbeats 4000000 in
set_option maxRecDepth 100000 in
theorem s_Lat_indexOf (l : Launch) (K : mx_K) (sn : Nat) (a : Int32) (sz : Nat) (hsn : sn < mx_nS) (hll : mx_len.getD sn 0 < 2 ^ 31) : mx_I l y_StringLatin1_indexOf b_StringLatin1_indexOf 4 .int { frames := 2, cells := 0, slots := 0, locals := 45 } K [.ref (K.2.2.2 sn), .int a, .int 0, .int (nI (mx_len.getD sn 0))] [] sz (fun (r : Int32) (u : Unit) => r = -1 ∨ ∃ k : Nat, k < mx_len.getD sn 0 ∧ r = nI k) (fun u : Unit => []) := by
  refine mx_of (by decide) (Nat.le_of_ble_eq_true rfl) ?_
  intro p e s m below meth c A ls H locs hAe F hr hlk hin hsz hP hD hS hl
  rw [hAe]
  have hl : lv_has ls 4 [(0, .ref (K.2.2.2 sn)), (1, .int a), (2, .int 0), (3, .int (nI (mx_len.getD sn 0)))] := hl
  obtain ⟨hx, hb, hml, hown, hT, hK, hN, hE, hA⟩ := id F
  refine lv_iload_n hx hb d_StringLatin1_indexOf_0 rfl (lv_at hl 1 rfl) ?_
  refine mx_ci (wr := []) F (mx_runS (As := [.int a]) (rest := []) (n := 1) F (s_Lat_canEncode l K a H.size) k_504 (Or.inl k_502) k_503 k_10 p_StringLatin1_canEncode rfl rfl hP hD hS [] rfl (by decide)  rfl hl.1 rfl (Nat.le_of_ble_eq_true rfl) ⟨by decide, by decide⟩ ⟨by decide, by decide⟩ d_StringLatin1_indexOf_1) hP hD hS [] [] rfl rfl (by decide) (by decide) (fun r_2 _ H locs hq_1 hP hD hS => ?_)
  obtain ⟨rb_3, hrb_3, rfl⟩ := mx_bool hq_1
  have hP : va_P K.1 mx_cl [] H := hP
  have hD : va_D A [] := hD
  refine W.cs (cells' := 0) (slots' := 0) rfl rfl ?_
  refine lv_if_ne (tgt := 9) hx hb d_StringLatin1_indexOf_4 (by decide) (fun h_4 => ?_) (fun h_4 => ?_)
  · have h_4n := mx_fNe (a := rb_3) (b := 0) (by omega) (by omega) h_4
    refine lv_iload_n hx hb d_StringLatin1_indexOf_9 rfl (lv_at hl 2 rfl) ?_
    refine lv_iconst (v := 0) hx hb d_StringLatin1_indexOf_10 (by decide) ?_
    refine mx_ci (wr := []) F (mx_runS (As := [.int 0, .int 0]) (rest := []) (n := 2) F (s_Math_max l K 0 0 H.size) k_507 (Or.inl k_505) k_506 k_17 p_Math_max rfl rfl hP hD hS [] rfl (by decide)  rfl hl.1 rfl (Nat.le_of_ble_eq_true rfl) ⟨by decide, by decide⟩ ⟨by decide, by decide⟩ d_StringLatin1_indexOf_11) hP hD hS [] [] rfl rfl (by decide) (by decide) (fun r_6 _ H locs hq_5 hP hD hS => ?_)
    obtain rfl : r_6 = mx_max 0 0 := hq_5
    have hP : va_P K.1 mx_cl [] H := hP
    have hD : va_D A [] := hD
    refine W.cs (cells' := 0) (slots' := 0) rfl rfl ?_
    refine lv_topi (fun z_7 ez_7 => ?_)
    obtain rfl : z_7 = 0 := ez_7.trans (by decide)
    refine lv_istore_n (lv' := [(2, .int 0), (0, .ref (K.2.2.2 sn)), (1, .int a), (3, .int (nI (mx_len.getD sn 0)))]) hx hb d_StringLatin1_indexOf_14 rfl hl (by decide) rfl (fun ls hl => ?_)
    refine lv_iload_n hx hb d_StringLatin1_indexOf_15 rfl (lv_at hl 3 rfl) ?_
    refine lv_aload_n hx hb d_StringLatin1_indexOf_16 rfl (lv_at hl 1 rfl) ?_
    refine va_tlen (v := nI (mx_len.getD sn 0)) hx hb (hE.1 sn hsn).2.2.2 hS rfl d_StringLatin1_indexOf_17 ?_
    refine mx_ci (wr := []) F (mx_runS (As := [.int (nI (mx_len.getD sn 0)), .int (nI (mx_len.getD sn 0))]) (rest := []) (n := 2) F (s_Math_min l K (nI (mx_len.getD sn 0)) (nI (mx_len.getD sn 0)) H.size) k_510 (Or.inl k_508) k_509 k_17 p_Math_min rfl rfl hP hD hS [] rfl (by decide)  rfl hl.1 rfl (Nat.le_of_ble_eq_true rfl) ⟨by decide, by decide⟩ ⟨by decide, by decide⟩ d_StringLatin1_indexOf_18) hP hD hS [] [] rfl rfl (by decide) (by decide) (fun r_9 _ H locs hq_8 hP hD hS => ?_)
    obtain rfl : r_9 = mx_min (nI (mx_len.getD sn 0)) (nI (mx_len.getD sn 0)) := hq_8
    have hP : va_P K.1 mx_cl [] H := hP
    have hD : va_D A [] := hD
    refine W.cs (cells' := 0) (slots' := 0) rfl rfl ?_
    refine lv_topi (fun z_10 ez_10 => ?_)
    obtain rfl : z_10 = nI (mx_len.getD sn 0) := ez_10.trans (mx_minS _)
    refine lv_istore_n (lv' := [(3, .int (nI (mx_len.getD sn 0))), (2, .int 0), (0, .ref (K.2.2.2 sn)), (1, .int a)]) hx hb d_StringLatin1_indexOf_21 rfl hl (by decide) rfl (fun ls hl => ?_)
    refine lv_iload_n hx hb d_StringLatin1_indexOf_22 rfl (lv_at hl 1 rfl) ?_
    refine lv_iload_n hx hb d_StringLatin1_indexOf_23 rfl (lv_at hl 0 rfl) ?_
    refine lv_icmp_lt (tgt := 29) hx hb d_StringLatin1_indexOf_24 (by decide) (fun h_11 => ?_) (fun h_11 => ?_)
    · have h_11n := mx_fLt (a := 0) (b := (mx_len.getD sn 0)) (by omega) (by omega) h_11
      refine lv_aload_n hx hb d_StringLatin1_indexOf_29 rfl (lv_at hl 2 rfl) ?_
      refine lv_iload_n hx hb d_StringLatin1_indexOf_30 rfl (lv_at hl 3 rfl) ?_
      refine lv_iload_n hx hb d_StringLatin1_indexOf_31 rfl (lv_at hl 1 rfl) ?_
      refine lv_iload_n hx hb d_StringLatin1_indexOf_32 rfl (lv_at hl 0 rfl) ?_
      refine mx_ci (wr := []) F (mx_runS (As := [.ref (K.2.2.2 sn), .int a, .int 0, .int (nI (mx_len.getD sn 0))]) (rest := []) (n := 4) F (s_Lat_indexOfChar l K sn a (mx_len.getD sn 0) H.size hsn rfl hll) k_513 (Or.inl k_511) k_512 k_10 p_StringLatin1_indexOfChar rfl rfl hP hD hS [] rfl (by decide)  rfl hl.1 rfl (Nat.le_of_ble_eq_true rfl) ⟨by decide, by decide⟩ ⟨by decide, by decide⟩ d_StringLatin1_indexOf_33) hP hD hS [] [] rfl rfl (by decide) (by decide) (fun r_13 _ H locs hq_12 hP hD hS => ?_)
      have hP : va_P K.1 mx_cl [] H := hP
      have hD : va_D A [] := hD
      refine W.cs (cells' := 0) (slots' := 0) rfl rfl ?_
      exact mx_ri F hr hlk rfl hP hD hS () [] rfl (by decide) hq_12 (by decide) (by decide) d_StringLatin1_indexOf_36
    · have h_11n := mx_fNlt (a := 0) (b := (mx_len.getD sn 0)) (by omega) (by omega) h_11
      refine lv_iconst (v := (-1)) hx hb d_StringLatin1_indexOf_27 (by decide) ?_
      exact mx_ri F hr hlk rfl hP hD hS () [] rfl (by decide) (Or.inl rfl) (by decide) (by decide) d_StringLatin1_indexOf_28
  · have h_4n := mx_fEq (a := rb_3) (b := 0) (by omega) (by omega) h_4
    refine lv_iconst (v := (-1)) hx hb d_StringLatin1_indexOf_7 (by decide) ?_
    exact mx_ri F hr hlk rfl hP hD hS () [] rfl (by decide) (Or.inl rfl) (by decide) (by decide) d_StringLatin1_indexOf_8
set_option maxHeartbeats 4000000 in
set_option maxRecDepth 100000 in
theorem s_Str_indexOf2 (l : Launch) (K : mx_K) (sn : Nat) (a : Int32) (sz : Nat) (hsn : sn < mx_nS) : mx_I l y_String_indexOf_2 b_String_indexOf_2 3 .int { frames := 3, cells := 0, slots := 0, locals := 68 } K [.ref (K.2.2.1 sn), .int a, .int 0] [] sz (fun (r : Int32) (u : Unit) => r = -1 ∨ ∃ k : Nat, k < mx_len.getD sn 0 ∧ r = nI k) (fun u : Unit => []) := by
  refine mx_of (by decide) (Nat.le_of_ble_eq_true rfl) ?_
  intro p e s m below meth c A ls H locs hAe F hr hlk hin hsz hP hD hS hl
  rw [hAe]
  have hl : lv_has ls 3 [(0, .ref (K.2.2.1 sn)), (1, .int a), (2, .int 0)] := hl
  obtain ⟨hx, hb, hml, hown, hT, hK, hN, hE, hA⟩ := id F
  refine lv_aload_n hx hb d_String_indexOf_2_0 rfl (lv_at hl 0 rfl) ?_
  refine mx_ci (wr := []) F (mx_runV (As := []) (rest := []) (n := 0) F (c_Str_isLatin1 l K sn H.size hsn) k_168 (Or.inl k_165) k_166 k_167 k_9 p_String_isLatin1 rfl rfl hP hD hS [] rfl (by decide) (mx_recvS hE hsn hS) rfl hl.1 rfl (Nat.le_of_ble_eq_true rfl) ⟨by decide, by decide⟩ ⟨by decide, by decide⟩ d_String_indexOf_2_1) hP hD hS [] [] rfl rfl (by decide) (by decide) (fun r_2 _ H locs hq_1 hP hD hS => ?_)
  obtain rfl : r_2 = 1 := hq_1
  have hP : va_P K.1 mx_cl [] H := hP
  have hD : va_D A [] := hD
  refine W.cs (cells' := 0) (slots' := 0) rfl rfl ?_
  refine lv_if_eq (tgt := 23) hx hb d_String_indexOf_2_4 (by decide) (fun h => absurd h (by decide)) (fun _ => ?_)
  refine lv_aload_n hx hb d_String_indexOf_2_7 rfl (lv_at hl 0 rfl) ?_
  refine vk_getf hx hb (hE.1 sn hsn).2.2.1 hS hown (hT _ k_1423) (fun _ h9 => h9) d_String_indexOf_2_8 ?_
  refine lv_iload_n hx hb d_String_indexOf_2_11 rfl (lv_at hl 1 rfl) ?_
  refine lv_iload_n hx hb d_String_indexOf_2_12 rfl (lv_at hl 2 rfl) ?_
  refine lv_aload_n hx hb d_String_indexOf_2_13 rfl (lv_at hl 0 rfl) ?_
  refine mx_ci (wr := []) F (mx_runV (As := []) (rest := [.int 0, .int a, .ref (K.2.2.2 sn)]) (n := 0) F (c_Str_length l K sn H.size hsn) k_154 (Or.inl k_498) k_152 k_153 k_9 p_String_length rfl rfl hP hD hS [] rfl (by decide) (mx_recvS hE hsn hS) rfl hl.1 rfl (Nat.le_of_ble_eq_true rfl) ⟨by decide, by decide⟩ ⟨by decide, by decide⟩ d_String_indexOf_2_14) hP hD hS [] [] rfl rfl (by decide) (by decide) (fun r_5 _ H locs hq_4 hP hD hS => ?_)
  obtain rfl : r_5 = nI (mx_len.getD sn 0) := hq_4
  have hP : va_P K.1 mx_cl [] H := hP
  have hD : va_D A [] := hD
  refine W.cs (cells' := 0) (slots' := 0) rfl rfl ?_
  refine mx_ci (wr := []) F (mx_runS (As := [.ref (K.2.2.2 sn), .int a, .int 0, .int (nI (mx_len.getD sn 0))]) (rest := []) (n := 4) F (s_Lat_indexOf l K sn a H.size hsn (mx_len_lt sn hsn)) k_501 (Or.inl k_499) k_500 k_10 p_StringLatin1_indexOf rfl rfl hP hD hS [] rfl (by decide)  rfl hl.1 rfl (Nat.le_of_ble_eq_true rfl) ⟨by decide, by decide⟩ ⟨by decide, by decide⟩ d_String_indexOf_2_17) hP hD hS [] [] rfl rfl (by decide) (by decide) (fun r_7 _ H locs hq_6 hP hD hS => ?_)
  have hP : va_P K.1 mx_cl [] H := hP
  have hD : va_D A [] := hD
  refine W.cs (cells' := 0) (slots' := 0) rfl rfl ?_
  refine lv_goto (tgt := 36) hx hb d_String_indexOf_2_20 (by decide) ?_
  exact mx_ri F hr hlk rfl hP hD hS () [] rfl (by decide) hq_6 (by decide) (by decide) d_String_indexOf_2_36
set_option maxHeartbeats 4000000 in
set_option maxRecDepth 100000 in
theorem s_Str_indexOf (l : Launch) (K : mx_K) (sn : Nat) (a : Int32) (sz : Nat) (hsn : sn < mx_nS) : mx_I l y_String_indexOf_1 b_String_indexOf_1 2 .int { frames := 4, cells := 0, slots := 0, locals := 90 } K [.ref (K.2.2.1 sn), .int a] [] sz (fun (r : Int32) (u : Unit) => r = -1 ∨ ∃ k : Nat, k < mx_len.getD sn 0 ∧ r = nI k) (fun u : Unit => []) := by
  refine mx_of (by decide) (Nat.le_of_ble_eq_true rfl) ?_
  intro p e s m below meth c A ls H locs hAe F hr hlk hin hsz hP hD hS hl
  rw [hAe]
  have hl : lv_has ls 2 [(0, .ref (K.2.2.1 sn)), (1, .int a)] := hl
  obtain ⟨hx, hb, hml, hown, hT, hK, hN, hE, hA⟩ := id F
  refine lv_aload_n hx hb d_String_indexOf_1_0 rfl (lv_at hl 0 rfl) ?_
  refine lv_iload_n hx hb d_String_indexOf_1_1 rfl (lv_at hl 1 rfl) ?_
  refine lv_iconst (v := 0) hx hb d_String_indexOf_1_2 (by decide) ?_
  refine mx_ci (wr := []) F (mx_runV (As := [.int a, .int 0]) (rest := []) (n := 2) F (s_Str_indexOf2 l K sn a H.size hsn) k_497 (Or.inl k_494) k_495 k_496 k_9 p_String_indexOf_2 rfl rfl hP hD hS [] rfl (by decide) (mx_recvS hE hsn hS) rfl hl.1 rfl (Nat.le_of_ble_eq_true rfl) ⟨by decide, by decide⟩ ⟨by decide, by decide⟩ d_String_indexOf_1_3) hP hD hS [] [] rfl rfl (by decide) (by decide) (fun r_2 _ H locs hq_1 hP hD hS => ?_)
  have hP : va_P K.1 mx_cl [] H := hP
  have hD : va_D A [] := hD
  refine W.cs (cells' := 0) (slots' := 0) rfl rfl ?_
  exact mx_ri F hr hlk rfl hP hD hS () [] rfl (by decide) hq_1 (by decide) (by decide) d_String_indexOf_1_6
