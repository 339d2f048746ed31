set_option maxHeartbeats 4000000 in
set_option maxRecDepth 100000 in
theorem s_Mix_illAt (l : Launch) (K : mx_K) (x : Nat) (t : Nat) (me : Nat) (rg : Nat) (sm : Nat) (ma : Nat) (a1l : Int32) (a1p : Int32) (a1f : Int32) (lb : Nat) (li : Nat) (su : Nat) (od : Nat) (an : Nat) (im : Nat) (ln0 : Nat) (a1d : Nat) (sz : Nat) : mx_I l y_Mix_illAt b_Mix_illAt 1 .int { frames := 1, cells := 0, slots := 0, locals := 20 } K [.ref x] [(x, .inr (0, [.int (nI ln0), .ref t, .ref me, .ref rg, .ref sm, .ref ma])), (sm, .inr (8, [.int (nI a1d), .int a1l, .int a1p, .int a1f, .ref lb, .ref li, .ref su, .ref od, .ref an, .ref im]))] sz (fun (r : Int32) (u : Unit) => True) (fun u : Unit => [(x, .inr (0, [.int (nI ln0), .ref t, .ref me, .ref rg, .ref sm, .ref ma])), (sm, .inr (8, [.int (nI a1d), .int a1l, .int a1p, .int a1f, .ref lb, .ref li, .ref su, .ref od, .ref an, .ref im]))]) := by
  refine mx_of (by decide) (Nat.le_of_ble_eq_true rfl) ?_
  intro p e s m below meth c A ls H locs hAe F hr hlk hin hsz hP hD hS hl
  rw [hAe]
  have hl : lv_has ls 1 [(0, .ref x)] := hl
  obtain ⟨hx, hb, hml, hown, hT, hK, hN, hE, hA⟩ := id F
  refine lv_aload_n hx hb d_Mix_illAt_0 rfl (lv_at hl 0 rfl) ?_
  refine va_get (D := K.1) (ci := 0) (v := .ref sm) (C := R_Mix) (T := T_Mix) (N := 6) hx hb hT in_Mix hown hK hP 0 rfl rfl 4 (by decide) (hT _ k_384) (fun _ h9 => h9) rfl d_Mix_illAt_1 ?_
  refine va_getN (D := K.1) (ci := 8) (v := .int a1l) (C := R_Asm) (T := T_Asm) (N := 10) hx hb hT in_Asm hown hK hP 1 rfl rfl 1 (by decide) (va_Nw.use rfl (hN _ k_297)) (fun _ h9 => h9) rfl d_Mix_illAt_4 ?_
  exact mx_ri F hr hlk rfl hP hD hS () [0, 1] rfl (by decide) trivial (by decide) (by decide) d_Mix_illAt_7
set_option maxHeartbeats 4000000 in
set_option maxRecDepth 100000 in
theorem s_Mix_label (l : Launch) (K : mx_K) (x : Nat) (k : Int32) (t : Nat) (me : Nat) (rg : Nat) (sm : Nat) (ma : Nat) (a1l : Int32) (a1p : Int32) (a1f : Int32) (lb : Nat) (li : Nat) (su : Nat) (od : Nat) (an : Nat) (im : Nat) (fa : Nat → Int64) (ln0 : Nat) (a1d : Nat) (sz : Nat) (had : a1d ≤ 40) : mx_L l y_Mix_label b_Mix_label 2 { frames := 2, cells := 0, slots := 0, locals := 41 } K [.ref x, .int k] [(x, .inr (0, [.int (nI ln0), .ref t, .ref me, .ref rg, .ref sm, .ref ma])), (sm, .inr (8, [.int (nI a1d), .int a1l, .int a1p, .int a1f, .ref lb, .ref li, .ref su, .ref od, .ref an, .ref im])), (an, .inl (K.2.1.1, 40, .inr (.inl fa)))] sz (fun (r : Int64) (u : Unit) => True) (fun u : Unit => [(x, .inr (0, [.int (nI ln0), .ref t, .ref me, .ref rg, .ref sm, .ref ma])), (sm, .inr (8, [.int (nI a1d), .int a1l, .int a1p, .int a1f, .ref lb, .ref li, .ref su, .ref od, .ref an, .ref im])), (an, .inl (K.2.1.1, 40, .inr (.inl fa)))]) := by
  refine mx_of (by decide) (Nat.le_of_ble_eq_true rfl) ?_
  intro p e s m below meth c A ls H locs hAe F hr hlk hin hsz hP hD hS hl
  rw [hAe]
  have hl : lv_has ls 2 [(0, .ref x), (1, .int k)] := hl
  obtain ⟨hx, hb, hml, hown, hT, hK, hN, hE, hA⟩ := id F
  refine lv_aload_n hx hb d_Mix_label_0 rfl (lv_at hl 0 rfl) ?_
  refine va_get (D := K.1) (ci := 0) (v := .ref sm) (C := R_Mix) (T := T_Mix) (N := 6) hx hb hT in_Mix hown hK hP 0 rfl rfl 4 (by decide) (hT _ k_384) (fun _ h9 => h9) rfl d_Mix_label_1 ?_
  refine lv_iload_n hx hb d_Mix_label_4 rfl (lv_at hl 1 rfl) ?_
  refine mx_cj (wr := [(x, .inr (0, [.int (nI ln0), .ref t, .ref me, .ref rg, .ref sm, .ref ma]))]) F (mx_runV (As := [.int k]) (rest := []) (n := 1) F (s_Asm_answer l K sm k a1l a1p a1f lb li su od an im fa a1d H.size (by first | assumption | omega | exact mx_ch_0)) k_716 (Or.inl k_713) k_714 k_715 k_4 p_Asm_answer rfl rfl hP hD hS [1, 2] rfl (by decide) (va_recv (q := (R_Asm, T_Asm, 10)) (ci := 8) (q0 := 1) hK hP rfl rfl) rfl hl.1 rfl (Nat.le_of_ble_eq_true rfl) ⟨by decide, by decide⟩ ⟨by decide, by decide⟩ d_Mix_label_5) hP hD hS [1, 2] [0] rfl rfl (by decide) (by decide) (fun r_2 _ H locs hq_1 hP hD hS => ?_)
  have hP : va_P K.1 mx_cl [(x, .inr (0, [.int (nI ln0), .ref t, .ref me, .ref rg, .ref sm, .ref ma])), (sm, .inr (8, [.int (nI a1d), .int a1l, .int a1p, .int a1f, .ref lb, .ref li, .ref su, .ref od, .ref an, .ref im])), (an, .inl (K.2.1.1, 40, .inr (.inl fa)))] H := hP
  have hD : va_D A [(x, .inr (0, [.int (nI ln0), .ref t, .ref me, .ref rg, .ref sm, .ref ma])), (sm, .inr (8, [.int (nI a1d), .int a1l, .int a1p, .int a1f, .ref lb, .ref li, .ref su, .ref od, .ref an, .ref im])), (an, .inl (K.2.1.1, 40, .inr (.inl fa)))] := hD
  refine W.cs (cells' := 0) (slots' := 0) rfl rfl ?_
  exact mx_rl F hr hlk hP hD hS () [0, 1, 2] rfl (by decide) trivial (by decide) (by decide) d_Mix_label_8
set_option maxHeartbeats 4000000 in
set_option maxRecDepth 100000 in
theorem s_Mix_byteAt (l : Launch) (K : mx_K) (x : Nat) (pl : Int32) (t : Nat) (me : Nat) (rg : Nat) (sm : Nat) (ma : Nat) (mo : Nat) (fm : Nat → Int64) (ln0 : Nat) (sz : Nat) : mx_I l y_Mix_byteAt b_Mix_byteAt 2 .int { frames := 3, cells := 0, slots := 0, locals := 66 } K [.ref x, .int pl] [(x, .inr (0, [.int (nI ln0), .ref t, .ref me, .ref rg, .ref sm, .ref ma])), (me, .inr (1, [.ref mo])), (mo, .inl (K.2.1.1, 512, .inr (.inl fm)))] sz (fun (r : Int32) (u : Unit) => True) (fun u : Unit => [(x, .inr (0, [.int (nI ln0), .ref t, .ref me, .ref rg, .ref sm, .ref ma])), (me, .inr (1, [.ref mo])), (mo, .inl (K.2.1.1, 512, .inr (.inl fm)))]) := by
  refine mx_of (by decide) (Nat.le_of_ble_eq_true rfl) ?_
  intro p e s m below meth c A ls H locs hAe F hr hlk hin hsz hP hD hS hl
  rw [hAe]
  have hl : lv_has ls 2 [(0, .ref x), (1, .int pl)] := hl
  obtain ⟨hx, hb, hml, hown, hT, hK, hN, hE, hA⟩ := id F
  refine lv_aload_n hx hb d_Mix_byteAt_0 rfl (lv_at hl 0 rfl) ?_
  refine va_get (D := K.1) (ci := 0) (v := .ref me) (C := R_Mix) (T := T_Mix) (N := 6) hx hb hT in_Mix hown hK hP 0 rfl rfl 2 (by decide) (hT _ k_382) (fun _ h9 => h9) rfl d_Mix_byteAt_1 ?_
  refine lv_iload_n hx hb d_Mix_byteAt_4 rfl (lv_at hl 1 rfl) ?_
  refine lv_i2l (v := pl.toInt64) hx hb d_Mix_byteAt_5 rfl ?_
  refine lv_iconst (v := 1) hx hb d_Mix_byteAt_6 (by decide) ?_
  refine mx_ci (wr := [(x, .inr (0, [.int (nI ln0), .ref t, .ref me, .ref rg, .ref sm, .ref ma])), (me, .inr (1, [.ref mo])), (mo, .inl (K.2.1.1, 512, .inr (.inl fm)))]) F (mx_runV (As := [.long pl.toInt64, .int 1]) (rest := []) (n := 2) F (s_Mem_holds l K me pl.toInt64 1 H.size) k_607 (Or.inl k_722) k_605 k_606 k_2 p_Mem_holds rfl rfl hP hD hS [] rfl (by decide) (va_recv (q := (R_Mem, T_Mem, 1)) (ci := 1) (q0 := 1) hK hP rfl rfl) rfl hl.1 rfl (Nat.le_of_ble_eq_true rfl) ⟨by decide, by decide⟩ ⟨by decide, by decide⟩ d_Mix_byteAt_7) hP hD hS [] [0, 1, 2] rfl rfl (by decide) (by decide) (fun r_2 _ H locs hq_1 hP hD hS => ?_)
  obtain rfl : r_2 = mx_holds pl.toInt64 1 := hq_1
  have hP : va_P K.1 mx_cl [(x, .inr (0, [.int (nI ln0), .ref t, .ref me, .ref rg, .ref sm, .ref ma])), (me, .inr (1, [.ref mo])), (mo, .inl (K.2.1.1, 512, .inr (.inl fm)))] H := hP
  have hD : va_D A [(x, .inr (0, [.int (nI ln0), .ref t, .ref me, .ref rg, .ref sm, .ref ma])), (me, .inr (1, [.ref mo])), (mo, .inl (K.2.1.1, 512, .inr (.inl fm)))] := hD
  refine W.cs (cells' := 0) (slots' := 0) rfl rfl ?_
  refine lv_if_eq (tgt := 27) hx hb d_Mix_byteAt_10 (by decide) (fun h_3 => ?_) (fun h_3 => ?_)
  · refine lv_iconst (v := (-1)) hx hb d_Mix_byteAt_27 (by decide) ?_
    exact mx_ri F hr hlk rfl hP hD hS () [0, 1, 2] rfl (by decide) trivial (by decide) (by decide) d_Mix_byteAt_28
  · refine lv_aload_n hx hb d_Mix_byteAt_13 rfl (lv_at hl 0 rfl) ?_
    refine va_get (D := K.1) (ci := 0) (v := .ref me) (C := R_Mix) (T := T_Mix) (N := 6) hx hb hT in_Mix hown hK hP 0 rfl rfl 2 (by decide) (hT _ k_382) (fun _ h9 => h9) rfl d_Mix_byteAt_14 ?_
    refine lv_iload_n hx hb d_Mix_byteAt_17 rfl (lv_at hl 1 rfl) ?_
    refine lv_i2l (v := pl.toInt64) hx hb d_Mix_byteAt_18 rfl ?_
    refine lv_iconst (v := 1) hx hb d_Mix_byteAt_19 (by decide) ?_
    refine mx_cj (wr := [(x, .inr (0, [.int (nI ln0), .ref t, .ref me, .ref rg, .ref sm, .ref ma]))]) F (mx_runV (As := [.long pl.toInt64, .int 1]) (rest := []) (n := 2) F (s_Mem_read l K me pl.toInt64 1 mo fm H.size (by first | assumption | omega | exact mx_ch_0) (by first | assumption | omega | exact mx_ch_0)) k_726 (Or.inl k_723) k_724 k_725 k_2 p_Mem_read rfl rfl hP hD hS [1, 2] rfl (by decide) (va_recv (q := (R_Mem, T_Mem, 1)) (ci := 1) (q0 := 1) hK hP rfl rfl) rfl hl.1 rfl (Nat.le_of_ble_eq_true rfl) ⟨by decide, by decide⟩ ⟨by decide, by decide⟩ d_Mix_byteAt_20) hP hD hS [1, 2] [0] rfl rfl (by decide) (by decide) (fun r_5 _ H locs hq_4 hP hD hS => ?_)
    have hP : va_P K.1 mx_cl [(x, .inr (0, [.int (nI ln0), .ref t, .ref me, .ref rg, .ref sm, .ref ma])), (me, .inr (1, [.ref mo])), (mo, .inl (K.2.1.1, 512, .inr (.inl fm)))] H := hP
    have hD : va_D A [(x, .inr (0, [.int (nI ln0), .ref t, .ref me, .ref rg, .ref sm, .ref ma])), (me, .inr (1, [.ref mo])), (mo, .inl (K.2.1.1, 512, .inr (.inl fm)))] := hD
    refine W.cs (cells' := 0) (slots' := 0) rfl rfl ?_
    refine lv_l2i (v := r_5.toInt32) hx hb d_Mix_byteAt_23 rfl ?_
    refine lv_goto (tgt := 28) hx hb d_Mix_byteAt_24 (by decide) ?_
    exact mx_ri F hr hlk rfl hP hD hS () [0, 1, 2] rfl (by decide) trivial (by decide) (by decide) d_Mix_byteAt_28
set_option maxHeartbeats 4000000 in
set_option maxRecDepth 100000 in
theorem s_Mix_store (l : Launch) (K : mx_K) (x : Nat) (pl : Int32) (hi : Int32) (lo_ : Int32) (t : Nat) (me : Nat) (rg : Nat) (sm : Nat) (ma : Nat) (mo : Nat) (fm : Nat → Int64) (ln0 : Nat) (sz : Nat) : mx_I l y_Mix_store b_Mix_store 4 .boolean { frames := 3, cells := 0, slots := 0, locals := 70 } K [.ref x, .int pl, .int hi, .int lo_] [(x, .inr (0, [.int (nI ln0), .ref t, .ref me, .ref rg, .ref sm, .ref ma])), (me, .inr (1, [.ref mo])), (mo, .inl (K.2.1.1, 512, .inr (.inl fm)))] sz (fun (r : Int32) (u : va_W) => (r = mx_store pl) ∧ (∃ (fm2 : Nat → Int64), u = [(x, .inr (0, [.int (nI ln0), .ref t, .ref me, .ref rg, .ref sm, .ref ma])), (me, .inr (1, [.ref mo])), (mo, .inl (K.2.1.1, 512, .inr (.inl fm2)))])) (fun u : va_W => u) := by
  refine mx_of (by decide) (Nat.le_of_ble_eq_true rfl) ?_
  intro p e s m below meth c A ls H locs hAe F hr hlk hin hsz hP hD hS hl
  rw [hAe]
  have hl : lv_has ls 4 [(0, .ref x), (1, .int pl), (2, .int hi), (3, .int lo_)] := hl
  obtain ⟨hx, hb, hml, hown, hT, hK, hN, hE, hA⟩ := id F
  refine lv_aload_n hx hb d_Mix_store_0 rfl (lv_at hl 0 rfl) ?_
  refine va_get (D := K.1) (ci := 0) (v := .ref me) (C := R_Mix) (T := T_Mix) (N := 6) hx hb hT in_Mix hown hK hP 0 rfl rfl 2 (by decide) (hT _ k_382) (fun _ h9 => h9) rfl d_Mix_store_1 ?_
  refine lv_iload_n hx hb d_Mix_store_4 rfl (lv_at hl 1 rfl) ?_
  refine lv_i2l (v := pl.toInt64) hx hb d_Mix_store_5 rfl ?_
  refine lv_bipush (v := 8) hx hb d_Mix_store_6 (by decide) ?_
  refine mx_ci (wr := [(x, .inr (0, [.int (nI ln0), .ref t, .ref me, .ref rg, .ref sm, .ref ma])), (me, .inr (1, [.ref mo])), (mo, .inl (K.2.1.1, 512, .inr (.inl fm)))]) F (mx_runV (As := [.long pl.toInt64, .int 8]) (rest := []) (n := 2) F (s_Mem_holds l K me pl.toInt64 8 H.size) k_607 (Or.inl k_722) k_605 k_606 k_2 p_Mem_holds rfl rfl hP hD hS [] rfl (by decide) (va_recv (q := (R_Mem, T_Mem, 1)) (ci := 1) (q0 := 1) hK hP rfl rfl) rfl hl.1 rfl (Nat.le_of_ble_eq_true rfl) ⟨by decide, by decide⟩ ⟨by decide, by decide⟩ d_Mix_store_8) hP hD hS [] [0, 1, 2] rfl rfl (by decide) (by decide) (fun r_2 _ H locs hq_1 hP hD hS => ?_)
  obtain rfl : r_2 = mx_holds pl.toInt64 8 := hq_1
  have hP : va_P K.1 mx_cl [(x, .inr (0, [.int (nI ln0), .ref t, .ref me, .ref rg, .ref sm, .ref ma])), (me, .inr (1, [.ref mo])), (mo, .inl (K.2.1.1, 512, .inr (.inl fm)))] H := hP
  have hD : va_D A [(x, .inr (0, [.int (nI ln0), .ref t, .ref me, .ref rg, .ref sm, .ref ma])), (me, .inr (1, [.ref mo])), (mo, .inl (K.2.1.1, 512, .inr (.inl fm)))] := hD
  refine W.cs (cells' := 0) (slots' := 0) rfl rfl ?_
  refine lv_if_eq (tgt := 21) hx hb d_Mix_store_11 (by decide) (fun h11 => ?_) (fun h11 => ?_)
  · refine lv_iconst (v := 0) hx hb d_Mix_store_21 (by decide) ?_
    exact mx_ri F hr hlk (by decide) hP hD hS [(x, .inr (0, [.int (nI ln0), .ref t, .ref me, .ref rg, .ref sm, .ref ma])), (me, .inr (1, [.ref mo])), (mo, .inl (K.2.1.1, 512, .inr (.inl fm)))] [0, 1, 2] rfl (by decide) ⟨(mx_store_out h11), ⟨fm, rfl⟩⟩ (by decide) (by decide) d_Mix_store_22
  · obtain ⟨k, hk, rfl⟩ := mx_holds_of (n := 8) (by decide) h11
    refine lv_iload_n hx hb d_Mix_store_14 rfl (lv_at hl 1 rfl) ?_
    refine lv_bipush (v := 7) hx hb d_Mix_store_15 (by decide) ?_
    refine lv_iand hx hb d_Mix_store_17 ?_
    refine lv_topi (fun z_3 ez_3 => ?_)
    obtain rfl : z_3 = (nI k) &&& (7 : Int32) := ez_3.trans rfl
    refine lv_if_eq (tgt := 23) hx hb d_Mix_store_18 (by decide) (fun h18 => ?_) (fun h18 => ?_)
    · refine lv_aload_n hx hb d_Mix_store_23 rfl (lv_at hl 0 rfl) ?_
      refine va_get (D := K.1) (ci := 0) (v := .ref me) (C := R_Mix) (T := T_Mix) (N := 6) hx hb hT in_Mix hown hK hP 0 rfl rfl 2 (by decide) (hT _ k_382) (fun _ h9 => h9) rfl d_Mix_store_24 ?_
      refine lv_iload_n hx hb d_Mix_store_27 rfl (lv_at hl 1 rfl) ?_
      refine lv_i2l (v := (nI k).toInt64) hx hb d_Mix_store_28 rfl ?_
      refine lv_bipush (v := 8) hx hb d_Mix_store_29 (by decide) ?_
      refine lv_iload_n hx hb d_Mix_store_31 rfl (lv_at hl 2 rfl) ?_
      refine lv_i2l (v := hi.toInt64) hx hb d_Mix_store_32 rfl ?_
      refine lv_bipush (v := 32) hx hb d_Mix_store_33 (by decide) ?_
      refine lv_lshl (v := hi.toInt64 <<< ((32 : Int32).toInt64 &&& 63)) hx hb d_Mix_store_35 rfl ?_
      refine lv_iload_n hx hb d_Mix_store_36 rfl (lv_at hl 3 rfl) ?_
      refine lv_i2l (v := lo_.toInt64) hx hb d_Mix_store_37 rfl ?_
      refine lv_ldc2 (v := 4294967295) hx hb hown (hT _ k_731) d_Mix_store_38 ?_
      refine lv_land hx hb d_Mix_store_41 ?_
      refine lv_lor hx hb d_Mix_store_42 ?_
      refine mx_cv (wr := [(x, .inr (0, [.int (nI ln0), .ref t, .ref me, .ref rg, .ref sm, .ref ma]))]) F (mx_runV (As := [.long ((nI k).toInt64), .int 8, .long ((hi.toInt64 <<< ((32 : Int32).toInt64 &&& 63)) ||| (lo_.toInt64 &&& (4294967295 : Int64)))]) (rest := []) (n := 3) F (s_Mem_write l K me ((nI k).toInt64) 8 ((hi.toInt64 <<< ((32 : Int32).toInt64 &&& 63)) ||| (lo_.toInt64 &&& (4294967295 : Int64))) mo fm H.size (by decide) (by decide)) k_603 (Or.inl k_732) k_601 k_602 k_2 p_Mem_write rfl rfl hP hD hS [1, 2] rfl (by decide) (va_recv (q := (R_Mem, T_Mem, 1)) (ci := 1) (q0 := 1) hK hP rfl rfl) rfl hl.1 rfl (Nat.le_of_ble_eq_true rfl) ⟨by decide, by decide⟩ ⟨by decide, by decide⟩ d_Mix_store_43) hP hD hS [1, 2] [0] rfl rfl (by decide) (by decide) (fun u_5 H locs hq_4 hP hD hS => ?_)
      obtain ⟨w_7, rfl⟩ := hq_4
      have hP : va_P K.1 mx_cl [(x, .inr (0, [.int (nI ln0), .ref t, .ref me, .ref rg, .ref sm, .ref ma])), (me, .inr (1, [.ref mo])), (mo, .inl (K.2.1.1, 512, .inr (.inl w_7)))] H := hP
      have hD : va_D A [(x, .inr (0, [.int (nI ln0), .ref t, .ref me, .ref rg, .ref sm, .ref ma])), (me, .inr (1, [.ref mo])), (mo, .inl (K.2.1.1, 512, .inr (.inl w_7)))] := hD
      refine W.cs (cells' := 0) (slots' := 0) rfl rfl ?_
      refine lv_iconst (v := 1) hx hb d_Mix_store_46 (by decide) ?_
      exact mx_ri F hr hlk (by decide) hP hD hS [(x, .inr (0, [.int (nI ln0), .ref t, .ref me, .ref rg, .ref sm, .ref ma])), (me, .inr (1, [.ref mo])), (mo, .inl (K.2.1.1, 512, .inr (.inl w_7)))] [0, 1, 2] rfl (by decide) ⟨(mx_store_in hk h18), ⟨w_7, rfl⟩⟩ (by decide) (by decide) d_Mix_store_47
    · refine lv_iconst (v := 0) hx hb d_Mix_store_21 (by decide) ?_
      exact mx_ri F hr hlk (by decide) hP hD hS [(x, .inr (0, [.int (nI ln0), .ref t, .ref me, .ref rg, .ref sm, .ref ma])), (me, .inr (1, [.ref mo])), (mo, .inl (K.2.1.1, 512, .inr (.inl fm)))] [0, 1, 2] rfl (by decide) ⟨(mx_store_odd hk h18), ⟨fm, rfl⟩⟩ (by decide) (by decide) d_Mix_store_22
set_option maxHeartbeats 4000000 in
set_option maxRecDepth 100000 in
theorem s_Mix_back (l : Launch) (K : mx_K) (x : Nat) (t : Nat) (me : Nat) (rg : Nat) (sm : Nat) (ma : Nat) (a_at : Int64) (a_stop : Int32) (a_oops : Int32) (a_mems : Int32) (a_word : Int32) (a_op : Int32) (a_y : Int32) (a_z : Int32) (a_left : Int64) (a_right : Int64) (a_next : Int64) (a_cost : Int32) (a_event : Int32) (mo : Nat) (fm : Nat → Int64) (ge : Nat) (sp : Nat) (sk : Nat) (fg : Nat → Int64) (fp : Nat → Int64) (fk : Nat → Int64) (ln0 : Nat) (d : Nat) (lo : Nat) (gl : Nat) (ax : Nat) (sz : Nat) (hd : d ≤ 300) (hlo : lo ≤ gl) (hgl : gl ≤ 255) (hch : mx_ch fk d) (hax : ax ≤ 255) : mx_V l y_Mix_back b_Mix_back 1 { frames := 4, cells := 0, slots := 0, locals := 84 } K [.ref x] [(x, .inr (0, [.int (nI ln0), .ref t, .ref me, .ref rg, .ref sm, .ref ma])), (ma, .inr (9, [.long a_at, .int a_stop, .int a_oops, .int a_mems, .int a_word, .int a_op, .int (nI ax), .int a_y, .int a_z, .long a_left, .long a_right, .long a_next, .int a_cost, .int a_event, .ref me, .ref rg])), (me, .inr (1, [.ref mo])), (mo, .inl (K.2.1.1, 512, .inr (.inl fm))), (rg, .inr (2, [.int (nI d), .int (nI lo), .int (nI gl), .ref ge, .ref sp, .ref sk])), (ge, .inl (K.2.1.1, 256, .inr (.inl fg))), (sp, .inl (K.2.1.1, 28, .inr (.inl fp))), (sk, .inl (K.2.1.1, 300, .inr (.inl fk)))] sz (fun u : va_W => ∃ (b_at : Int64) (b_stop : Int32) (b_oops : Int32) (b_mems : Int32) (b_word : Int32) (b_op : Int32) (b_y : Int32) (b_z : Int32) (b_left : Int64) (b_right : Int64) (b_next : Int64) (b_cost : Int32) (b_event : Int32) (bx : Nat) (fm2 : Nat → Int64) (d2 : Nat) (lo2 : Nat) (gl2 : Nat) (fg2 : Nat → Int64) (fp2 : Nat → Int64) (fk2 : Nat → Int64), (d2 ≤ 300) ∧ (lo2 ≤ gl2) ∧ (gl2 ≤ 255) ∧ (mx_ch fk2 d2) ∧ (bx ≤ 255) ∧ u = [(x, .inr (0, [.int (nI ln0), .ref t, .ref me, .ref rg, .ref sm, .ref ma])), (ma, .inr (9, [.long b_at, .int b_stop, .int b_oops, .int b_mems, .int b_word, .int b_op, .int (nI bx), .int b_y, .int b_z, .long b_left, .long b_right, .long b_next, .int b_cost, .int b_event, .ref me, .ref rg])), (me, .inr (1, [.ref mo])), (mo, .inl (K.2.1.1, 512, .inr (.inl fm2))), (rg, .inr (2, [.int (nI d2), .int (nI lo2), .int (nI gl2), .ref ge, .ref sp, .ref sk])), (ge, .inl (K.2.1.1, 256, .inr (.inl fg2))), (sp, .inl (K.2.1.1, 28, .inr (.inl fp2))), (sk, .inl (K.2.1.1, 300, .inr (.inl fk2)))]) (fun u : va_W => u) := by
  refine mx_of (by decide) (Nat.le_of_ble_eq_true rfl) ?_
  intro p e s m below meth c A ls H locs hAe F hr hlk hin hsz hP hD hS hl
  rw [hAe]
  have hl : lv_has ls 1 [(0, .ref x)] := hl
  obtain ⟨hx, hb, hml, hown, hT, hK, hN, hE, hA⟩ := id F
  refine lv_aload_n hx hb d_Mix_back_0 rfl (lv_at hl 0 rfl) ?_
  refine va_get (D := K.1) (ci := 0) (v := .ref ma) (C := R_Mix) (T := T_Mix) (N := 6) hx hb hT in_Mix hown hK hP 0 rfl rfl 5 (by decide) (hT _ k_385) (fun _ h9 => h9) rfl d_Mix_back_1 ?_
  refine mx_cv (wr := [(x, .inr (0, [.int (nI ln0), .ref t, .ref me, .ref rg, .ref sm, .ref ma]))]) F (mx_runV (As := []) (rest := []) (n := 0) F (s_Mac_setBack l K ma a_at a_stop a_oops a_mems a_word a_op a_y a_z a_left a_right a_next a_cost a_event me rg mo fm ge sp sk fg fp fk d lo gl ax H.size (by first | assumption | omega | exact mx_ch_0) (by first | assumption | omega | exact mx_ch_0) (by first | assumption | omega | exact mx_ch_0) (by first | assumption | omega | exact mx_ch_0) (by first | assumption | omega | exact mx_ch_0)) k_696 (Or.inl k_693) k_694 k_695 k_14 p_Mac_setBack rfl rfl hP hD hS [1, 2, 3, 4, 5, 6, 7] rfl (by decide) (va_recv (q := (R_Mac, T_Mac, 16)) (ci := 9) (q0 := 1) hK hP rfl rfl) rfl hl.1 rfl (Nat.le_of_ble_eq_true rfl) ⟨by decide, by decide⟩ ⟨by decide, by decide⟩ d_Mix_back_4) hP hD hS [1, 2, 3, 4, 5, 6, 7] [0] rfl rfl (by decide) (by decide) (fun u_2 H locs hq_1 hP hD hS => ?_)
  obtain ⟨w_4, w_5, w_6, w_7, w_8, w_9, w_10, w_11, w_12, w_13, w_14, w_15, w_16, w_17, w_18, w_19, w_20, w_21, w_22, w_23, w_24, hf_25, hf_26, hf_27, hf_28, hf_29, rfl⟩ := hq_1
  have hP : va_P K.1 mx_cl [(x, .inr (0, [.int (nI ln0), .ref t, .ref me, .ref rg, .ref sm, .ref ma])), (ma, .inr (9, [.long w_4, .int w_5, .int w_6, .int w_7, .int w_8, .int w_9, .int (nI w_17), .int w_10, .int w_11, .long w_12, .long w_13, .long w_14, .int w_15, .int w_16, .ref me, .ref rg])), (me, .inr (1, [.ref mo])), (mo, .inl (K.2.1.1, 512, .inr (.inl w_18))), (rg, .inr (2, [.int (nI w_19), .int (nI w_20), .int (nI w_21), .ref ge, .ref sp, .ref sk])), (ge, .inl (K.2.1.1, 256, .inr (.inl w_22))), (sp, .inl (K.2.1.1, 28, .inr (.inl w_23))), (sk, .inl (K.2.1.1, 300, .inr (.inl w_24)))] H := hP
  have hD : va_D A [(x, .inr (0, [.int (nI ln0), .ref t, .ref me, .ref rg, .ref sm, .ref ma])), (ma, .inr (9, [.long w_4, .int w_5, .int w_6, .int w_7, .int w_8, .int w_9, .int (nI w_17), .int w_10, .int w_11, .long w_12, .long w_13, .long w_14, .int w_15, .int w_16, .ref me, .ref rg])), (me, .inr (1, [.ref mo])), (mo, .inl (K.2.1.1, 512, .inr (.inl w_18))), (rg, .inr (2, [.int (nI w_19), .int (nI w_20), .int (nI w_21), .ref ge, .ref sp, .ref sk])), (ge, .inl (K.2.1.1, 256, .inr (.inl w_22))), (sp, .inl (K.2.1.1, 28, .inr (.inl w_23))), (sk, .inl (K.2.1.1, 300, .inr (.inl w_24)))] := hD
  refine W.cs (cells' := 0) (slots' := 0) rfl rfl ?_
  exact mx_rv F hr hlk hP hD hS [(x, .inr (0, [.int (nI ln0), .ref t, .ref me, .ref rg, .ref sm, .ref ma])), (ma, .inr (9, [.long w_4, .int w_5, .int w_6, .int w_7, .int w_8, .int w_9, .int (nI w_17), .int w_10, .int w_11, .long w_12, .long w_13, .long w_14, .int w_15, .int w_16, .ref me, .ref rg])), (me, .inr (1, [.ref mo])), (mo, .inl (K.2.1.1, 512, .inr (.inl w_18))), (rg, .inr (2, [.int (nI w_19), .int (nI w_20), .int (nI w_21), .ref ge, .ref sp, .ref sk])), (ge, .inl (K.2.1.1, 256, .inr (.inl w_22))), (sp, .inl (K.2.1.1, 28, .inr (.inl w_23))), (sk, .inl (K.2.1.1, 300, .inr (.inl w_24)))] [0, 1, 2, 3, 4, 5, 6, 7] rfl (by decide) ⟨w_4, w_5, w_6, w_7, w_8, w_9, w_10, w_11, w_12, w_13, w_14, w_15, w_16, w_17, w_18, w_19, w_20, w_21, w_22, w_23, w_24, (by first | assumption | omega | exact mx_ch_0), (by first | assumption | omega | exact mx_ch_0), (by first | assumption | omega | exact mx_ch_0), (by first | assumption | omega | exact mx_ch_0), (by first | assumption | omega | exact mx_ch_0), rfl⟩ (by decide) (by decide) d_Mix_back_7
set_option maxHeartbeats 4000000 in
set_option maxRecDepth 100000 in
theorem s_Mix_run (l : Launch) (K : mx_K) (x : Nat) (n0 : Int32) (t : Nat) (me : Nat) (rg : Nat) (sm : Nat) (ma : Nat) (a_at : Int64) (a_stop : Int32) (a_oops : Int32) (a_mems : Int32) (a_word : Int32) (a_op : Int32) (a_y : Int32) (a_z : Int32) (a_left : Int64) (a_right : Int64) (a_next : Int64) (a_cost : Int32) (a_event : Int32) (mo : Nat) (fm : Nat → Int64) (ge : Nat) (sp : Nat) (sk : Nat) (fg : Nat → Int64) (fp : Nat → Int64) (fk : Nat → Int64) (ln0 : Nat) (d : Nat) (lo : Nat) (gl : Nat) (ax : Nat) (sz : Nat) (hd : d ≤ 300) (hlo : lo ≤ gl) (hgl : gl ≤ 255) (hch : mx_ch fk d) (hax : ax ≤ 255) : mx_I l y_Mix_run b_Mix_run 2 .int { frames := 8, cells := 0, slots := 0, locals := 209 } K [.ref x, .int n0] [(x, .inr (0, [.int (nI ln0), .ref t, .ref me, .ref rg, .ref sm, .ref ma])), (ma, .inr (9, [.long a_at, .int a_stop, .int a_oops, .int a_mems, .int a_word, .int a_op, .int (nI ax), .int a_y, .int a_z, .long a_left, .long a_right, .long a_next, .int a_cost, .int a_event, .ref me, .ref rg])), (me, .inr (1, [.ref mo])), (mo, .inl (K.2.1.1, 512, .inr (.inl fm))), (rg, .inr (2, [.int (nI d), .int (nI lo), .int (nI gl), .ref ge, .ref sp, .ref sk])), (ge, .inl (K.2.1.1, 256, .inr (.inl fg))), (sp, .inl (K.2.1.1, 28, .inr (.inl fp))), (sk, .inl (K.2.1.1, 300, .inr (.inl fk)))] sz (fun (r : Int32) (u : va_W) => ∃ (b_at : Int64) (b_stop : Int32) (b_oops : Int32) (b_mems : Int32) (b_word : Int32) (b_op : Int32) (b_y : Int32) (b_z : Int32) (b_left : Int64) (b_right : Int64) (b_next : Int64) (b_cost : Int32) (b_event : Int32) (bx : Nat) (fm2 : Nat → Int64) (d2 : Nat) (lo2 : Nat) (gl2 : Nat) (fg2 : Nat → Int64) (fp2 : Nat → Int64) (fk2 : Nat → Int64), (d2 ≤ 300) ∧ (lo2 ≤ gl2) ∧ (gl2 ≤ 255) ∧ (mx_ch fk2 d2) ∧ (bx ≤ 255) ∧ u = [(x, .inr (0, [.int (nI ln0), .ref t, .ref me, .ref rg, .ref sm, .ref ma])), (ma, .inr (9, [.long b_at, .int b_stop, .int b_oops, .int b_mems, .int b_word, .int b_op, .int (nI bx), .int b_y, .int b_z, .long b_left, .long b_right, .long b_next, .int b_cost, .int b_event, .ref me, .ref rg])), (me, .inr (1, [.ref mo])), (mo, .inl (K.2.1.1, 512, .inr (.inl fm2))), (rg, .inr (2, [.int (nI d2), .int (nI lo2), .int (nI gl2), .ref ge, .ref sp, .ref sk])), (ge, .inl (K.2.1.1, 256, .inr (.inl fg2))), (sp, .inl (K.2.1.1, 28, .inr (.inl fp2))), (sk, .inl (K.2.1.1, 300, .inr (.inl fk2)))]) (fun u : va_W => u) := by
  refine mx_of (by decide) (Nat.le_of_ble_eq_true rfl) ?_
  intro p e s m below meth c A ls H locs hAe F hr hlk hin hsz hP hD hS hl
  rw [hAe]
  have hl : lv_has ls 2 [(0, .ref x), (1, .int n0)] := hl
  obtain ⟨hx, hb, hml, hown, hT, hK, hN, hE, hA⟩ := id F
  refine lv_iload_n hx hb d_Mix_run_0 rfl (lv_at hl 1 rfl) ?_
  refine lv_if_lt (tgt := 11) hx hb d_Mix_run_1 (by decide) (fun h1 => ?_) (fun h1 => ?_)
  · refine lv_iconst (v := 0) hx hb d_Mix_run_11 (by decide) ?_
    refine lv_goto (tgt := 23) hx hb d_Mix_run_12 (by decide) ?_
    exact mx_ri F hr hlk rfl hP hD hS [(x, .inr (0, [.int (nI ln0), .ref t, .ref me, .ref rg, .ref sm, .ref ma])), (ma, .inr (9, [.long a_at, .int a_stop, .int a_oops, .int a_mems, .int a_word, .int a_op, .int (nI ax), .int a_y, .int a_z, .long a_left, .long a_right, .long a_next, .int a_cost, .int a_event, .ref me, .ref rg])), (me, .inr (1, [.ref mo])), (mo, .inl (K.2.1.1, 512, .inr (.inl fm))), (rg, .inr (2, [.int (nI d), .int (nI lo), .int (nI gl), .ref ge, .ref sp, .ref sk])), (ge, .inl (K.2.1.1, 256, .inr (.inl fg))), (sp, .inl (K.2.1.1, 28, .inr (.inl fp))), (sk, .inl (K.2.1.1, 300, .inr (.inl fk)))] [0, 1, 2, 3, 4, 5, 6, 7] rfl (by decide) ⟨a_at, a_stop, a_oops, a_mems, a_word, a_op, a_y, a_z, a_left, a_right, a_next, a_cost, a_event, ax, fm, d, lo, gl, fg, fp, fk, (by first | assumption | omega | exact mx_ch_0), (by first | assumption | omega | exact mx_ch_0), (by first | assumption | omega | exact mx_ch_0), (by first | assumption | omega | exact mx_ch_0), (by first | assumption | omega | exact mx_ch_0), rfl⟩ (by decide) (by decide) d_Mix_run_23
  · refine lv_iload_n hx hb d_Mix_run_4 rfl (lv_at hl 1 rfl) ?_
    refine lv_sipush (v := 5000) hx hb d_Mix_run_5 (by decide) ?_
    refine lv_icmp_le (tgt := 15) hx hb d_Mix_run_8 (by decide) (fun h8 => ?_) (fun h8 => ?_)
    · obtain ⟨kn, hkn, rfl⟩ := mx_upto (n := 5000) (by decide) h1 (Int32.not_lt.mpr h8)
      refine lv_aload_n hx hb d_Mix_run_15 rfl (lv_at hl 0 rfl) ?_
      refine va_get (D := K.1) (ci := 0) (v := .ref ma) (C := R_Mix) (T := T_Mix) (N := 6) hx hb hT in_Mix hown hK hP 0 rfl rfl 5 (by decide) (hT _ k_385) (fun _ h9 => h9) rfl d_Mix_run_16 ?_
      refine lv_iload_n hx hb d_Mix_run_19 rfl (lv_at hl 1 rfl) ?_
      refine mx_ci (wr := [(x, .inr (0, [.int (nI ln0), .ref t, .ref me, .ref rg, .ref sm, .ref ma]))]) F (mx_runV (As := [.int (nI kn)]) (rest := []) (n := 1) F (s_Mac_go l K ma kn a_at a_stop a_oops a_mems a_word a_op a_y a_z a_left a_right a_next a_cost a_event me rg mo fm ge sp sk fg fp fk d lo gl ax H.size (by first | assumption | omega | exact mx_ch_0) (by first | assumption | omega | exact mx_ch_0) (by first | assumption | omega | exact mx_ch_0) (by first | assumption | omega | exact mx_ch_0) (by first | assumption | omega | exact mx_ch_0) (by first | assumption | omega | exact mx_ch_0)) k_744 (Or.inl k_741) k_742 k_743 k_14 p_Mac_go rfl rfl hP hD hS [1, 2, 3, 4, 5, 6, 7] rfl (by decide) (va_recv (q := (R_Mac, T_Mac, 16)) (ci := 9) (q0 := 1) hK hP rfl rfl) rfl hl.1 rfl (Nat.le_of_ble_eq_true rfl) ⟨by decide, by decide⟩ ⟨by decide, by decide⟩ d_Mix_run_20) hP hD hS [1, 2, 3, 4, 5, 6, 7] [0] rfl rfl (by decide) (by decide) (fun r_3 u_2 H locs hq_1 hP hD hS => ?_)
      obtain ⟨w_4, w_5, w_6, w_7, w_8, w_9, w_10, w_11, w_12, w_13, w_14, w_15, w_16, w_17, w_18, w_19, w_20, w_21, w_22, w_23, w_24, hf_25, hf_26, hf_27, hf_28, hf_29, rfl⟩ := hq_1
      have hP : va_P K.1 mx_cl [(x, .inr (0, [.int (nI ln0), .ref t, .ref me, .ref rg, .ref sm, .ref ma])), (ma, .inr (9, [.long w_4, .int w_5, .int w_6, .int w_7, .int w_8, .int w_9, .int (nI w_17), .int w_10, .int w_11, .long w_12, .long w_13, .long w_14, .int w_15, .int w_16, .ref me, .ref rg])), (me, .inr (1, [.ref mo])), (mo, .inl (K.2.1.1, 512, .inr (.inl w_18))), (rg, .inr (2, [.int (nI w_19), .int (nI w_20), .int (nI w_21), .ref ge, .ref sp, .ref sk])), (ge, .inl (K.2.1.1, 256, .inr (.inl w_22))), (sp, .inl (K.2.1.1, 28, .inr (.inl w_23))), (sk, .inl (K.2.1.1, 300, .inr (.inl w_24)))] H := hP
      have hD : va_D A [(x, .inr (0, [.int (nI ln0), .ref t, .ref me, .ref rg, .ref sm, .ref ma])), (ma, .inr (9, [.long w_4, .int w_5, .int w_6, .int w_7, .int w_8, .int w_9, .int (nI w_17), .int w_10, .int w_11, .long w_12, .long w_13, .long w_14, .int w_15, .int w_16, .ref me, .ref rg])), (me, .inr (1, [.ref mo])), (mo, .inl (K.2.1.1, 512, .inr (.inl w_18))), (rg, .inr (2, [.int (nI w_19), .int (nI w_20), .int (nI w_21), .ref ge, .ref sp, .ref sk])), (ge, .inl (K.2.1.1, 256, .inr (.inl w_22))), (sp, .inl (K.2.1.1, 28, .inr (.inl w_23))), (sk, .inl (K.2.1.1, 300, .inr (.inl w_24)))] := hD
      refine W.cs (cells' := 0) (slots' := 0) rfl rfl ?_
      exact mx_ri F hr hlk rfl hP hD hS [(x, .inr (0, [.int (nI ln0), .ref t, .ref me, .ref rg, .ref sm, .ref ma])), (ma, .inr (9, [.long w_4, .int w_5, .int w_6, .int w_7, .int w_8, .int w_9, .int (nI w_17), .int w_10, .int w_11, .long w_12, .long w_13, .long w_14, .int w_15, .int w_16, .ref me, .ref rg])), (me, .inr (1, [.ref mo])), (mo, .inl (K.2.1.1, 512, .inr (.inl w_18))), (rg, .inr (2, [.int (nI w_19), .int (nI w_20), .int (nI w_21), .ref ge, .ref sp, .ref sk])), (ge, .inl (K.2.1.1, 256, .inr (.inl w_22))), (sp, .inl (K.2.1.1, 28, .inr (.inl w_23))), (sk, .inl (K.2.1.1, 300, .inr (.inl w_24)))] [0, 1, 2, 3, 4, 5, 6, 7] rfl (by decide) ⟨w_4, w_5, w_6, w_7, w_8, w_9, w_10, w_11, w_12, w_13, w_14, w_15, w_16, w_17, w_18, w_19, w_20, w_21, w_22, w_23, w_24, (by first | assumption | omega | exact mx_ch_0), (by first | assumption | omega | exact mx_ch_0), (by first | assumption | omega | exact mx_ch_0), (by first | assumption | omega | exact mx_ch_0), (by first | assumption | omega | exact mx_ch_0), rfl⟩ (by decide) (by decide) d_Mix_run_23
    · refine lv_iconst (v := 0) hx hb d_Mix_run_11 (by decide) ?_
      refine lv_goto (tgt := 23) hx hb d_Mix_run_12 (by decide) ?_
      exact mx_ri F hr hlk rfl hP hD hS [(x, .inr (0, [.int (nI ln0), .ref t, .ref me, .ref rg, .ref sm, .ref ma])), (ma, .inr (9, [.long a_at, .int a_stop, .int a_oops, .int a_mems, .int a_word, .int a_op, .int (nI ax), .int a_y, .int a_z, .long a_left, .long a_right, .long a_next, .int a_cost, .int a_event, .ref me, .ref rg])), (me, .inr (1, [.ref mo])), (mo, .inl (K.2.1.1, 512, .inr (.inl fm))), (rg, .inr (2, [.int (nI d), .int (nI lo), .int (nI gl), .ref ge, .ref sp, .ref sk])), (ge, .inl (K.2.1.1, 256, .inr (.inl fg))), (sp, .inl (K.2.1.1, 28, .inr (.inl fp))), (sk, .inl (K.2.1.1, 300, .inr (.inl fk)))] [0, 1, 2, 3, 4, 5, 6, 7] rfl (by decide) ⟨a_at, a_stop, a_oops, a_mems, a_word, a_op, a_y, a_z, a_left, a_right, a_next, a_cost, a_event, ax, fm, d, lo, gl, fg, fp, fk, (by first | assumption | omega | exact mx_ch_0), (by first | assumption | omega | exact mx_ch_0), (by first | assumption | omega | exact mx_ch_0), (by first | assumption | omega | exact mx_ch_0), (by first | assumption | omega | exact mx_ch_0), rfl⟩ (by decide) (by decide) d_Mix_run_23
set_option maxHeartbeats 4000000 in
set_option maxRecDepth 100000 in
theorem s_Mix_stopped (l : Launch) (K : mx_K) (x : Nat) (t : Nat) (me : Nat) (rg : Nat) (sm : Nat) (ma : Nat) (a_at : Int64) (a_stop : Int32) (a_oops : Int32) (a_mems : Int32) (a_word : Int32) (a_op : Int32) (a_y : Int32) (a_z : Int32) (a_left : Int64) (a_right : Int64) (a_next : Int64) (a_cost : Int32) (a_event : Int32) (ln0 : Nat) (ax : Nat) (sz : Nat) : mx_I l y_Mix_stopped b_Mix_stopped 1 .int { frames := 1, cells := 0, slots := 0, locals := 20 } K [.ref x] [(x, .inr (0, [.int (nI ln0), .ref t, .ref me, .ref rg, .ref sm, .ref ma])), (ma, .inr (9, [.long a_at, .int a_stop, .int a_oops, .int a_mems, .int a_word, .int a_op, .int (nI ax), .int a_y, .int a_z, .long a_left, .long a_right, .long a_next, .int a_cost, .int a_event, .ref me, .ref rg]))] sz (fun (r : Int32) (u : Unit) => True) (fun u : Unit => [(x, .inr (0, [.int (nI ln0), .ref t, .ref me, .ref rg, .ref sm, .ref ma])), (ma, .inr (9, [.long a_at, .int a_stop, .int a_oops, .int a_mems, .int a_word, .int a_op, .int (nI ax), .int a_y, .int a_z, .long a_left, .long a_right, .long a_next, .int a_cost, .int a_event, .ref me, .ref rg]))]) := by
  refine mx_of (by decide) (Nat.le_of_ble_eq_true rfl) ?_
  intro p e s m below meth c A ls H locs hAe F hr hlk hin hsz hP hD hS hl
  rw [hAe]
  have hl : lv_has ls 1 [(0, .ref x)] := hl
  obtain ⟨hx, hb, hml, hown, hT, hK, hN, hE, hA⟩ := id F
  refine lv_aload_n hx hb d_Mix_stopped_0 rfl (lv_at hl 0 rfl) ?_
  refine va_get (D := K.1) (ci := 0) (v := .ref ma) (C := R_Mix) (T := T_Mix) (N := 6) hx hb hT in_Mix hown hK hP 0 rfl rfl 5 (by decide) (hT _ k_385) (fun _ h9 => h9) rfl d_Mix_stopped_1 ?_
  refine va_getN (D := K.1) (ci := 9) (v := .int a_stop) (C := R_Mac) (T := T_Mac) (N := 16) hx hb hT in_Mac hown hK hP 1 rfl rfl 1 (by decide) (va_Nw.use rfl (hN _ k_333)) (fun _ h9 => h9) rfl d_Mix_stopped_4 ?_
  exact mx_ri F hr hlk rfl hP hD hS () [0, 1] rfl (by decide) trivial (by decide) (by decide) d_Mix_stopped_7
set_option maxHeartbeats 4000000 in
set_option maxRecDepth 100000 in
theorem s_Mix_register (l : Launch) (K : mx_K) (x : Nat) (k : Int32) (t : Nat) (me : Nat) (rg : Nat) (sm : Nat) (ma : Nat) (ge : Nat) (sp : Nat) (sk : Nat) (fg : Nat → Int64) (ln0 : Nat) (d : Nat) (lo : Nat) (gl : Nat) (sz : Nat) : mx_L l y_Mix_register b_Mix_register 2 { frames := 2, cells := 0, slots := 0, locals := 41 } K [.ref x, .int k] [(x, .inr (0, [.int (nI ln0), .ref t, .ref me, .ref rg, .ref sm, .ref ma])), (rg, .inr (2, [.int (nI d), .int (nI lo), .int (nI gl), .ref ge, .ref sp, .ref sk])), (ge, .inl (K.2.1.1, 256, .inr (.inl fg)))] sz (fun (r : Int64) (u : Unit) => True) (fun u : Unit => [(x, .inr (0, [.int (nI ln0), .ref t, .ref me, .ref rg, .ref sm, .ref ma])), (rg, .inr (2, [.int (nI d), .int (nI lo), .int (nI gl), .ref ge, .ref sp, .ref sk])), (ge, .inl (K.2.1.1, 256, .inr (.inl fg)))]) := by
  refine mx_of (by decide) (Nat.le_of_ble_eq_true rfl) ?_
  intro p e s m below meth c A ls H locs hAe F hr hlk hin hsz hP hD hS hl
  rw [hAe]
  have hl : lv_has ls 2 [(0, .ref x), (1, .int k)] := hl
  obtain ⟨hx, hb, hml, hown, hT, hK, hN, hE, hA⟩ := id F
  refine lv_aload_n hx hb d_Mix_register_0 rfl (lv_at hl 0 rfl) ?_
  refine va_get (D := K.1) (ci := 0) (v := .ref rg) (C := R_Mix) (T := T_Mix) (N := 6) hx hb hT in_Mix hown hK hP 0 rfl rfl 3 (by decide) (hT _ k_383) (fun _ h9 => h9) rfl d_Mix_register_1 ?_
  refine lv_iload_n hx hb d_Mix_register_4 rfl (lv_at hl 1 rfl) ?_
  refine mx_cj (wr := [(x, .inr (0, [.int (nI ln0), .ref t, .ref me, .ref rg, .ref sm, .ref ma]))]) F (mx_runV (As := [.int k]) (rest := []) (n := 1) F (s_Reg_read l K rg k ge sp sk fg d lo gl H.size) k_762 (Or.inl k_953) k_760 k_761 k_3 p_Reg_read rfl rfl hP hD hS [1, 2] rfl (by decide) (va_recv (q := (R_Reg, T_Reg, 6)) (ci := 2) (q0 := 1) hK hP rfl rfl) rfl hl.1 rfl (Nat.le_of_ble_eq_true rfl) ⟨by decide, by decide⟩ ⟨by decide, by decide⟩ d_Mix_register_5) hP hD hS [1, 2] [0] rfl rfl (by decide) (by decide) (fun r_2 _ H locs hq_1 hP hD hS => ?_)
  have hP : va_P K.1 mx_cl [(x, .inr (0, [.int (nI ln0), .ref t, .ref me, .ref rg, .ref sm, .ref ma])), (rg, .inr (2, [.int (nI d), .int (nI lo), .int (nI gl), .ref ge, .ref sp, .ref sk])), (ge, .inl (K.2.1.1, 256, .inr (.inl fg)))] H := hP
  have hD : va_D A [(x, .inr (0, [.int (nI ln0), .ref t, .ref me, .ref rg, .ref sm, .ref ma])), (rg, .inr (2, [.int (nI d), .int (nI lo), .int (nI gl), .ref ge, .ref sp, .ref sk])), (ge, .inl (K.2.1.1, 256, .inr (.inl fg)))] := hD
  refine W.cs (cells' := 0) (slots' := 0) rfl rfl ?_
  exact mx_rl F hr hlk hP hD hS () [0, 1, 2] rfl (by decide) trivial (by decide) (by decide) d_Mix_register_8
set_option maxHeartbeats 4000000 in
set_option maxRecDepth 100000 in
theorem s_Mix_special (l : Launch) (K : mx_K) (x : Nat) (k : Int32) (t : Nat) (me : Nat) (rg : Nat) (sm : Nat) (ma : Nat) (ge : Nat) (sp : Nat) (sk : Nat) (fp : Nat → Int64) (ln0 : Nat) (d : Nat) (lo : Nat) (gl : Nat) (sz : Nat) : mx_L l y_Mix_special b_Mix_special 2 { frames := 2, cells := 0, slots := 0, locals := 41 } K [.ref x, .int k] [(x, .inr (0, [.int (nI ln0), .ref t, .ref me, .ref rg, .ref sm, .ref ma])), (rg, .inr (2, [.int (nI d), .int (nI lo), .int (nI gl), .ref ge, .ref sp, .ref sk])), (sp, .inl (K.2.1.1, 28, .inr (.inl fp)))] sz (fun (r : Int64) (u : Unit) => True) (fun u : Unit => [(x, .inr (0, [.int (nI ln0), .ref t, .ref me, .ref rg, .ref sm, .ref ma])), (rg, .inr (2, [.int (nI d), .int (nI lo), .int (nI gl), .ref ge, .ref sp, .ref sk])), (sp, .inl (K.2.1.1, 28, .inr (.inl fp)))]) := by
  refine mx_of (by decide) (Nat.le_of_ble_eq_true rfl) ?_
  intro p e s m below meth c A ls H locs hAe F hr hlk hin hsz hP hD hS hl
  rw [hAe]
  have hl : lv_has ls 2 [(0, .ref x), (1, .int k)] := hl
  obtain ⟨hx, hb, hml, hown, hT, hK, hN, hE, hA⟩ := id F
  refine lv_aload_n hx hb d_Mix_special_0 rfl (lv_at hl 0 rfl) ?_
  refine va_get (D := K.1) (ci := 0) (v := .ref rg) (C := R_Mix) (T := T_Mix) (N := 6) hx hb hT in_Mix hown hK hP 0 rfl rfl 3 (by decide) (hT _ k_383) (fun _ h9 => h9) rfl d_Mix_special_1 ?_
  refine lv_iload_n hx hb d_Mix_special_4 rfl (lv_at hl 1 rfl) ?_
  refine mx_cj (wr := [(x, .inr (0, [.int (nI ln0), .ref t, .ref me, .ref rg, .ref sm, .ref ma]))]) F (mx_runV (As := [.int k]) (rest := []) (n := 1) F (s_Reg_get l K rg k ge sp sk fp d lo gl H.size) k_841 (Or.inl k_958) k_839 k_840 k_3 p_Reg_get rfl rfl hP hD hS [1, 2] rfl (by decide) (va_recv (q := (R_Reg, T_Reg, 6)) (ci := 2) (q0 := 1) hK hP rfl rfl) rfl hl.1 rfl (Nat.le_of_ble_eq_true rfl) ⟨by decide, by decide⟩ ⟨by decide, by decide⟩ d_Mix_special_5) hP hD hS [1, 2] [0] rfl rfl (by decide) (by decide) (fun r_2 _ H locs hq_1 hP hD hS => ?_)
  have hP : va_P K.1 mx_cl [(x, .inr (0, [.int (nI ln0), .ref t, .ref me, .ref rg, .ref sm, .ref ma])), (rg, .inr (2, [.int (nI d), .int (nI lo), .int (nI gl), .ref ge, .ref sp, .ref sk])), (sp, .inl (K.2.1.1, 28, .inr (.inl fp)))] H := hP
  have hD : va_D A [(x, .inr (0, [.int (nI ln0), .ref t, .ref me, .ref rg, .ref sm, .ref ma])), (rg, .inr (2, [.int (nI d), .int (nI lo), .int (nI gl), .ref ge, .ref sp, .ref sk])), (sp, .inl (K.2.1.1, 28, .inr (.inl fp)))] := hD
  refine W.cs (cells' := 0) (slots' := 0) rfl rfl ?_
  exact mx_rl F hr hlk hP hD hS () [0, 1, 2] rfl (by decide) trivial (by decide) (by decide) d_Mix_special_8
set_option maxHeartbeats 4000000 in
set_option maxRecDepth 100000 in
theorem s_Mix_place (l : Launch) (K : mx_K) (x : Nat) (t : Nat) (me : Nat) (rg : Nat) (sm : Nat) (ma : Nat) (a_at : Int64) (a_stop : Int32) (a_oops : Int32) (a_mems : Int32) (a_word : Int32) (a_op : Int32) (a_y : Int32) (a_z : Int32) (a_left : Int64) (a_right : Int64) (a_next : Int64) (a_cost : Int32) (a_event : Int32) (ln0 : Nat) (ax : Nat) (sz : Nat) : mx_L l y_Mix_place b_Mix_place 1 { frames := 1, cells := 0, slots := 0, locals := 20 } K [.ref x] [(x, .inr (0, [.int (nI ln0), .ref t, .ref me, .ref rg, .ref sm, .ref ma])), (ma, .inr (9, [.long a_at, .int a_stop, .int a_oops, .int a_mems, .int a_word, .int a_op, .int (nI ax), .int a_y, .int a_z, .long a_left, .long a_right, .long a_next, .int a_cost, .int a_event, .ref me, .ref rg]))] sz (fun (r : Int64) (u : Unit) => True) (fun u : Unit => [(x, .inr (0, [.int (nI ln0), .ref t, .ref me, .ref rg, .ref sm, .ref ma])), (ma, .inr (9, [.long a_at, .int a_stop, .int a_oops, .int a_mems, .int a_word, .int a_op, .int (nI ax), .int a_y, .int a_z, .long a_left, .long a_right, .long a_next, .int a_cost, .int a_event, .ref me, .ref rg]))]) := by
  refine mx_of (by decide) (Nat.le_of_ble_eq_true rfl) ?_
  intro p e s m below meth c A ls H locs hAe F hr hlk hin hsz hP hD hS hl
  rw [hAe]
  have hl : lv_has ls 1 [(0, .ref x)] := hl
  obtain ⟨hx, hb, hml, hown, hT, hK, hN, hE, hA⟩ := id F
  refine lv_aload_n hx hb d_Mix_place_0 rfl (lv_at hl 0 rfl) ?_
  refine va_get (D := K.1) (ci := 0) (v := .ref ma) (C := R_Mix) (T := T_Mix) (N := 6) hx hb hT in_Mix hown hK hP 0 rfl rfl 5 (by decide) (hT _ k_385) (fun _ h9 => h9) rfl d_Mix_place_1 ?_
  refine va_getN (D := K.1) (ci := 9) (v := .long a_at) (C := R_Mac) (T := T_Mac) (N := 16) hx hb hT in_Mac hown hK hP 1 rfl rfl 0 (by decide) (va_Nw.use rfl (hN _ k_331)) (fun _ h9 => h9) rfl d_Mix_place_4 ?_
  exact mx_rl F hr hlk hP hD hS () [0, 1] rfl (by decide) trivial (by decide) (by decide) d_Mix_place_7
set_option maxHeartbeats 4000000 in
set_option maxRecDepth 100000 in
theorem s_Mix_taken (l : Launch) (K : mx_K) (x : Nat) (w : Int32) (t : Nat) (me : Nat) (rg : Nat) (sm : Nat) (ma : Nat) (a_at : Int64) (a_stop : Int32) (a_oops : Int32) (a_mems : Int32) (a_word : Int32) (a_op : Int32) (a_y : Int32) (a_z : Int32) (a_left : Int64) (a_right : Int64) (a_next : Int64) (a_cost : Int32) (a_event : Int32) (ge : Nat) (sp : Nat) (sk : Nat) (ln0 : Nat) (d : Nat) (lo : Nat) (gl : Nat) (ax : Nat) (sz : Nat) : mx_I l y_Mix_taken b_Mix_taken 2 .int { frames := 1, cells := 0, slots := 0, locals := 20 } K [.ref x, .int w] [(x, .inr (0, [.int (nI ln0), .ref t, .ref me, .ref rg, .ref sm, .ref ma])), (ma, .inr (9, [.long a_at, .int a_stop, .int a_oops, .int a_mems, .int a_word, .int a_op, .int (nI ax), .int a_y, .int a_z, .long a_left, .long a_right, .long a_next, .int a_cost, .int a_event, .ref me, .ref rg])), (rg, .inr (2, [.int (nI d), .int (nI lo), .int (nI gl), .ref ge, .ref sp, .ref sk]))] sz (fun (r : Int32) (u : Unit) => True) (fun u : Unit => [(x, .inr (0, [.int (nI ln0), .ref t, .ref me, .ref rg, .ref sm, .ref ma])), (ma, .inr (9, [.long a_at, .int a_stop, .int a_oops, .int a_mems, .int a_word, .int a_op, .int (nI ax), .int a_y, .int a_z, .long a_left, .long a_right, .long a_next, .int a_cost, .int a_event, .ref me, .ref rg])), (rg, .inr (2, [.int (nI d), .int (nI lo), .int (nI gl), .ref ge, .ref sp, .ref sk]))]) := by
  refine mx_of (by decide) (Nat.le_of_ble_eq_true rfl) ?_
  intro p e s m below meth c A ls H locs hAe F hr hlk hin hsz hP hD hS hl
  rw [hAe]
  have hl : lv_has ls 2 [(0, .ref x), (1, .int w)] := hl
  obtain ⟨hx, hb, hml, hown, hT, hK, hN, hE, hA⟩ := id F
  refine lv_iload_n hx hb d_Mix_taken_0 rfl (lv_at hl 1 rfl) ?_
  refine lv_topi (fun z_1 ez_1 => ?_)
  by_cases h_2 : z_1 = 0
  · rw [h_2]
    refine lv_tableIn (off := 27) (tgt := 28) hx hb d_Mix_taken_1 (by decide) (by decide) (by decide) (by decide) ?_
    refine lv_aload_n hx hb d_Mix_taken_28 rfl (lv_at hl 0 rfl) ?_
    refine va_get (D := K.1) (ci := 0) (v := .ref ma) (C := R_Mix) (T := T_Mix) (N := 6) hx hb hT in_Mix hown hK hP 0 rfl rfl 5 (by decide) (hT _ k_385) (fun _ h9 => h9) rfl d_Mix_taken_29 ?_
    refine va_getN (D := K.1) (ci := 9) (v := .int a_oops) (C := R_Mac) (T := T_Mac) (N := 16) hx hb hT in_Mac hown hK hP 1 rfl rfl 2 (by decide) (va_Nw.use rfl (hN _ k_335)) (fun _ h9 => h9) rfl d_Mix_taken_32 ?_
    exact mx_ri F hr hlk rfl hP hD hS () [0, 1, 2] rfl (by decide) trivial (by decide) (by decide) d_Mix_taken_35
  by_cases h_3 : z_1 = 1
  · rw [h_3]
    refine lv_tableIn (off := 35) (tgt := 36) hx hb d_Mix_taken_1 (by decide) (by decide) (by decide) (by decide) ?_
    refine lv_aload_n hx hb d_Mix_taken_36 rfl (lv_at hl 0 rfl) ?_
    refine va_get (D := K.1) (ci := 0) (v := .ref ma) (C := R_Mix) (T := T_Mix) (N := 6) hx hb hT in_Mix hown hK hP 0 rfl rfl 5 (by decide) (hT _ k_385) (fun _ h9 => h9) rfl d_Mix_taken_37 ?_
    refine va_getN (D := K.1) (ci := 9) (v := .int a_mems) (C := R_Mac) (T := T_Mac) (N := 16) hx hb hT in_Mac hown hK hP 1 rfl rfl 3 (by decide) (va_Nw.use rfl (hN _ k_337)) (fun _ h9 => h9) rfl d_Mix_taken_40 ?_
    exact mx_ri F hr hlk rfl hP hD hS () [0, 1, 2] rfl (by decide) trivial (by decide) (by decide) d_Mix_taken_43
  by_cases h_4 : z_1 = 2
  · rw [h_4]
    refine lv_tableIn (off := 43) (tgt := 44) hx hb d_Mix_taken_1 (by decide) (by decide) (by decide) (by decide) ?_
    refine lv_aload_n hx hb d_Mix_taken_44 rfl (lv_at hl 0 rfl) ?_
    refine va_get (D := K.1) (ci := 0) (v := .ref rg) (C := R_Mix) (T := T_Mix) (N := 6) hx hb hT in_Mix hown hK hP 0 rfl rfl 3 (by decide) (hT _ k_383) (fun _ h9 => h9) rfl d_Mix_taken_45 ?_
    refine va_getN (D := K.1) (ci := 2) (v := .int (nI d)) (C := R_Reg) (T := T_Reg) (N := 6) hx hb hT in_Reg hown hK hP 2 rfl rfl 0 (by decide) (va_Nw.use rfl (hN _ k_52)) (fun _ h9 => h9) rfl d_Mix_taken_48 ?_
    exact mx_ri F hr hlk rfl hP hD hS () [0, 1, 2] rfl (by decide) trivial (by decide) (by decide) d_Mix_taken_51
  have h_2t := lv_neT h_2 (show ((0 : Int32)).toInt = 0 by decide)
  have h_3t := lv_neT h_3 (show ((1 : Int32)).toInt = 1 by decide)
  have h_4t := lv_neT h_4 (show ((2 : Int32)).toInt = 2 by decide)
  refine lv_tableOut (tgt := 52) hx hb d_Mix_taken_1 (by omega) (by decide) ?_
  refine lv_iconst (v := (-1)) hx hb d_Mix_taken_52 (by decide) ?_
  exact mx_ri F hr hlk rfl hP hD hS () [0, 1, 2] rfl (by decide) trivial (by decide) (by decide) d_Mix_taken_53
