set_option maxHeartbeats 4000000 in
set_option maxRecDepth 100000 in
theorem c_Mod_illAt (l : Launch) (K : mx_K) (zm : Nat) (mt : Nat) (mx : Nat) (mla : Nat) (mll : Nat) (mli : Nat) (mlr : Nat) (mk : Nat) (mm : Nat) (md : Nat) (mr : Nat) (ms : Nat) (mst : Nat) (mas : Nat) (sz : Nat) : mx_I l y_Mod_illAt b_Mod_illAt 1 .int { frames := 0, cells := 0, slots := 0, locals := 0 } K [.ref zm] [(zm, .inr (10, [.int 0, .int 0, .int 0, .int (-1), .int 0, .int 0, .int 0, .int 0, .int 255, .int 0, .int 0, .int 0, .long 256, .long 0, .int 0, .int 0, .long 0, .int 0, .int 0, .int 0, .int 0, .int 0, .int 0, .int 0, .int 0, .long 0, .long 0, .int 0, .long 0, .long 0, .long 0, .ref mt, .ref mx, .ref mla, .ref mll, .ref mli, .ref mlr, .ref mk, .ref mm, .ref md, .ref mr, .ref ms, .ref mst, .ref mas]))] sz (fun (r : Int32) (u : Unit) => r = -1) (fun u : Unit => []) := by
  refine mx_of (by decide) (Nat.le_of_ble_eq_true rfl) ?_
  intro p e s m below meth c A ls H locs hAe F hr hlk hin hsz hP hD hS hl
  rw [hAe]
  have hl : lv_has ls 1 [(0, .ref zm)] := hl
  obtain ⟨hx, hb, hml, hown, hT, hK, hN, hE, hA⟩ := id F
  refine lv_aload_n hx hb d_Mod_illAt_0 rfl (lv_at hl 0 rfl) ?_
  refine lv_iconst (v := 0) hx hb d_Mod_illAt_1 (by decide) ?_
  refine va_put (D := K.1) (ci := 10) (v := .int 0) (ty := .int) (C := R_Mod) (T := T_Mod) (N := 44) hx hb hT in_Mod t_Mod t_Mod_ok n_Mod hown hK hP hD hS 0 rfl rfl 0 (by decide) (hT _ k_978) (fun _ h9 => h9) rfl (by decide +kernel) rfl rfl (Nat.le_of_ble_eq_true rfl) d_Mod_illAt_2 (fun H locs hP hD hS => ?_)
  have hP : va_P K.1 mx_cl [(zm, .inr (10, [.int 0, .int 0, .int 0, .int (-1), .int 0, .int 0, .int 0, .int 0, .int 255, .int 0, .int 0, .int 0, .long 256, .long 0, .int 0, .int 0, .long 0, .int 0, .int 0, .int 0, .int 0, .int 0, .int 0, .int 0, .int 0, .long 0, .long 0, .int 0, .long 0, .long 0, .long 0, .ref mt, .ref mx, .ref mla, .ref mll, .ref mli, .ref mlr, .ref mk, .ref mm, .ref md, .ref mr, .ref ms, .ref mst, .ref mas]))] H := hP
  have hD : va_D A [(zm, .inr (10, [.int 0, .int 0, .int 0, .int (-1), .int 0, .int 0, .int 0, .int 0, .int 255, .int 0, .int 0, .int 0, .long 256, .long 0, .int 0, .int 0, .long 0, .int 0, .int 0, .int 0, .int 0, .int 0, .int 0, .int 0, .int 0, .long 0, .long 0, .int 0, .long 0, .long 0, .long 0, .ref mt, .ref mx, .ref mla, .ref mll, .ref mli, .ref mlr, .ref mk, .ref mm, .ref md, .ref mr, .ref ms, .ref mst, .ref mas]))] := hD
  refine lv_aload_n hx hb d_Mod_illAt_5 rfl (lv_at hl 0 rfl) ?_
  refine va_get (D := K.1) (ci := 10) (v := .int (-1)) (C := R_Mod) (T := T_Mod) (N := 44) hx hb hT in_Mod hown hK hP 0 rfl rfl 3 (by decide) (hT _ k_983) (fun _ h9 => h9) rfl d_Mod_illAt_6 ?_
  exact mx_ri F hr hlk rfl hP hD hS () [] rfl (by decide) rfl (by decide) (by decide) d_Mod_illAt_9
set_option maxHeartbeats 4000000 in
set_option maxRecDepth 100000 in
theorem c_Mod_label (l : Launch) (K : mx_K) (zm : Nat) (k : Int32) (mt : Nat) (mx : Nat) (mla : Nat) (mll : Nat) (mli : Nat) (mlr : Nat) (mk : Nat) (mm : Nat) (md : Nat) (mr : Nat) (ms : Nat) (mst : Nat) (mas : Nat) (sz : Nat) : mx_L l y_Mod_label b_Mod_label 2 { frames := 0, cells := 0, slots := 0, locals := 0 } K [.ref zm, .int k] [(zm, .inr (10, [.int 0, .int 0, .int 0, .int (-1), .int 0, .int 0, .int 0, .int 0, .int 255, .int 0, .int 0, .int 0, .long 256, .long 0, .int 0, .int 0, .long 0, .int 0, .int 0, .int 0, .int 0, .int 0, .int 0, .int 0, .int 0, .long 0, .long 0, .int 0, .long 0, .long 0, .long 0, .ref mt, .ref mx, .ref mla, .ref mll, .ref mli, .ref mlr, .ref mk, .ref mm, .ref md, .ref mr, .ref ms, .ref mst, .ref mas]))] sz (fun (r : Int64) (u : Unit) => r = -1) (fun u : Unit => []) := by
  refine mx_of (by decide) (Nat.le_of_ble_eq_true rfl) ?_
  intro p e s m below meth c A ls H locs hAe F hr hlk hin hsz hP hD hS hl
  rw [hAe]
  have hl : lv_has ls 2 [(0, .ref zm), (1, .int k)] := hl
  obtain ⟨hx, hb, hml, hown, hT, hK, hN, hE, hA⟩ := id F
  refine lv_aload_n hx hb d_Mod_label_0 rfl (lv_at hl 0 rfl) ?_
  refine lv_iconst (v := 0) hx hb d_Mod_label_1 (by decide) ?_
  refine va_put (D := K.1) (ci := 10) (v := .int 0) (ty := .int) (C := R_Mod) (T := T_Mod) (N := 44) hx hb hT in_Mod t_Mod t_Mod_ok n_Mod hown hK hP hD hS 0 rfl rfl 0 (by decide) (hT _ k_978) (fun _ h9 => h9) rfl (by decide +kernel) rfl rfl (Nat.le_of_ble_eq_true rfl) d_Mod_label_2 (fun H locs hP hD hS => ?_)
  have hP : va_P K.1 mx_cl [(zm, .inr (10, [.int 0, .int 0, .int 0, .int (-1), .int 0, .int 0, .int 0, .int 0, .int 255, .int 0, .int 0, .int 0, .long 256, .long 0, .int 0, .int 0, .long 0, .int 0, .int 0, .int 0, .int 0, .int 0, .int 0, .int 0, .int 0, .long 0, .long 0, .int 0, .long 0, .long 0, .long 0, .ref mt, .ref mx, .ref mla, .ref mll, .ref mli, .ref mlr, .ref mk, .ref mm, .ref md, .ref mr, .ref ms, .ref mst, .ref mas]))] H := hP
  have hD : va_D A [(zm, .inr (10, [.int 0, .int 0, .int 0, .int (-1), .int 0, .int 0, .int 0, .int 0, .int 255, .int 0, .int 0, .int 0, .long 256, .long 0, .int 0, .int 0, .long 0, .int 0, .int 0, .int 0, .int 0, .int 0, .int 0, .int 0, .int 0, .long 0, .long 0, .int 0, .long 0, .long 0, .long 0, .ref mt, .ref mx, .ref mla, .ref mll, .ref mli, .ref mlr, .ref mk, .ref mm, .ref md, .ref mr, .ref ms, .ref mst, .ref mas]))] := hD
  refine lv_iload_n hx hb d_Mod_label_5 rfl (lv_at hl 1 rfl) ?_
  refine lv_if_lt (tgt := 17) hx hb d_Mod_label_6 (by decide) (fun h6 => ?_) (fun h6 => ?_)
  · refine lv_ldc2 (v := (-1)) hx hb hown (hT _ k_1271) d_Mod_label_17 ?_
    refine lv_goto (tgt := 29) hx hb d_Mod_label_20 (by decide) ?_
    exact mx_rl F hr hlk hP hD hS () [] rfl (by decide) rfl (by decide) (by decide) d_Mod_label_29
  · refine lv_iload_n hx hb d_Mod_label_9 rfl (lv_at hl 1 rfl) ?_
    refine lv_aload_n hx hb d_Mod_label_10 rfl (lv_at hl 0 rfl) ?_
    refine va_get (D := K.1) (ci := 10) (v := .int 0) (C := R_Mod) (T := T_Mod) (N := 44) hx hb hT in_Mod hown hK hP 0 rfl rfl 5 (by decide) (hT _ k_990) (fun _ h9 => h9) rfl d_Mod_label_11 ?_
    refine lv_icmp_lt (tgt := 23) hx hb d_Mod_label_14 (by decide) (fun h => absurd h h6) (fun h1 => ?_)
    refine lv_ldc2 (v := (-1)) hx hb hown (hT _ k_1271) d_Mod_label_17 ?_
    refine lv_goto (tgt := 29) hx hb d_Mod_label_20 (by decide) ?_
    exact mx_rl F hr hlk hP hD hS () [] rfl (by decide) rfl (by decide) (by decide) d_Mod_label_29
set_option maxHeartbeats 4000000 in
set_option maxRecDepth 100000 in
theorem c_Mod_byteAt (l : Launch) (K : mx_K) (zm : Nat) (pl : Int32) (mt : Nat) (mx : Nat) (mla : Nat) (mll : Nat) (mli : Nat) (mlr : Nat) (mk : Nat) (mm : Nat) (md : Nat) (mr : Nat) (ms : Nat) (mst : Nat) (mas : Nat) (sz : Nat) : mx_I l y_Mod_byteAt b_Mod_byteAt 2 .int { frames := 0, cells := 0, slots := 0, locals := 0 } K [.ref zm, .int pl] [(zm, .inr (10, [.int 0, .int 0, .int 0, .int (-1), .int 0, .int 0, .int 0, .int 0, .int 255, .int 0, .int 0, .int 0, .long 256, .long 0, .int 0, .int 0, .long 0, .int 0, .int 0, .int 0, .int 0, .int 0, .int 0, .int 0, .int 0, .long 0, .long 0, .int 0, .long 0, .long 0, .long 0, .ref mt, .ref mx, .ref mla, .ref mll, .ref mli, .ref mlr, .ref mk, .ref mm, .ref md, .ref mr, .ref ms, .ref mst, .ref mas])), (mm, .inl (K.2.1.2.1, 4096, .inl (fun _ => 0)))] sz (fun (r : Int32) (u : Unit) => r = mx_byte pl) (fun u : Unit => []) := by
  refine mx_of (by decide) (Nat.le_of_ble_eq_true rfl) ?_
  intro p e s m below meth c A ls H locs hAe F hr hlk hin hsz hP hD hS hl
  rw [hAe]
  have hl : lv_has ls 2 [(0, .ref zm), (1, .int pl)] := hl
  obtain ⟨hx, hb, hml, hown, hT, hK, hN, hE, hA⟩ := id F
  refine lv_aload_n hx hb d_Mod_byteAt_0 rfl (lv_at hl 0 rfl) ?_
  refine lv_iconst (v := 0) hx hb d_Mod_byteAt_1 (by decide) ?_
  refine va_put (D := K.1) (ci := 10) (v := .int 0) (ty := .int) (C := R_Mod) (T := T_Mod) (N := 44) hx hb hT in_Mod t_Mod t_Mod_ok n_Mod hown hK hP hD hS 0 rfl rfl 0 (by decide) (hT _ k_978) (fun _ h9 => h9) rfl (by decide +kernel) rfl rfl (Nat.le_of_ble_eq_true rfl) d_Mod_byteAt_2 (fun H locs hP hD hS => ?_)
  have hP : va_P K.1 mx_cl [(zm, .inr (10, [.int 0, .int 0, .int 0, .int (-1), .int 0, .int 0, .int 0, .int 0, .int 255, .int 0, .int 0, .int 0, .long 256, .long 0, .int 0, .int 0, .long 0, .int 0, .int 0, .int 0, .int 0, .int 0, .int 0, .int 0, .int 0, .long 0, .long 0, .int 0, .long 0, .long 0, .long 0, .ref mt, .ref mx, .ref mla, .ref mll, .ref mli, .ref mlr, .ref mk, .ref mm, .ref md, .ref mr, .ref ms, .ref mst, .ref mas])), (mm, .inl (K.2.1.2.1, 4096, .inl (fun _ => 0)))] H := hP
  have hD : va_D A [(zm, .inr (10, [.int 0, .int 0, .int 0, .int (-1), .int 0, .int 0, .int 0, .int 0, .int 255, .int 0, .int 0, .int 0, .long 256, .long 0, .int 0, .int 0, .long 0, .int 0, .int 0, .int 0, .int 0, .int 0, .int 0, .int 0, .int 0, .long 0, .long 0, .int 0, .long 0, .long 0, .long 0, .ref mt, .ref mx, .ref mla, .ref mll, .ref mli, .ref mlr, .ref mk, .ref mm, .ref md, .ref mr, .ref ms, .ref mst, .ref mas])), (mm, .inl (K.2.1.2.1, 4096, .inl (fun _ => 0)))] := hD
  refine lv_iload_n hx hb d_Mod_byteAt_5 rfl (lv_at hl 1 rfl) ?_
  refine lv_if_lt (tgt := 16) hx hb d_Mod_byteAt_6 (by decide) (fun h6 => ?_) (fun h6 => ?_)
  · refine lv_iconst (v := (-1)) hx hb d_Mod_byteAt_16 (by decide) ?_
    refine lv_goto (tgt := 26) hx hb d_Mod_byteAt_17 (by decide) ?_
    exact mx_ri F hr hlk rfl hP hD hS () [] rfl (by decide) (mx_byte_o1 h6) (by decide) (by decide) d_Mod_byteAt_26
  · refine lv_iload_n hx hb d_Mod_byteAt_9 rfl (lv_at hl 1 rfl) ?_
    refine lv_sipush (v := 4096) hx hb d_Mod_byteAt_10 (by decide) ?_
    refine lv_icmp_lt (tgt := 20) hx hb d_Mod_byteAt_13 (by decide) (fun h13 => ?_) (fun h13 => ?_)
    · refine lv_aload_n hx hb d_Mod_byteAt_20 rfl (lv_at hl 0 rfl) ?_
      refine va_get (D := K.1) (ci := 10) (v := .ref mm) (C := R_Mod) (T := T_Mod) (N := 44) hx hb hT in_Mod hown hK hP 0 rfl rfl 38 (by decide) (hT _ k_991) (fun _ h9 => h9) rfl d_Mod_byteAt_21 ?_
      refine lv_iload_n hx hb d_Mod_byteAt_24 rfl (lv_at hl 1 rfl) ?_
      refine va_iald hx hb hK hP 1 1 rfl rfl (i := pl) (mx_in (N := 4096) h6 (Int32.not_le.mpr h13) (by decide)) d_Mod_byteAt_25 ?_
      refine lv_topi (fun z1 ez1 => ?_)
      obtain rfl : z1 = 0 := ez1.trans rfl
      exact mx_ri F hr hlk rfl hP hD hS () [] rfl (by decide) (mx_byte_in2 h6 h13) (by decide) (by decide) d_Mod_byteAt_26
    · refine lv_iconst (v := (-1)) hx hb d_Mod_byteAt_16 (by decide) ?_
      refine lv_goto (tgt := 26) hx hb d_Mod_byteAt_17 (by decide) ?_
      exact mx_ri F hr hlk rfl hP hD hS () [] rfl (by decide) (mx_byte_o2 h13) (by decide) (by decide) d_Mod_byteAt_26
set_option maxHeartbeats 4000000 in
set_option maxRecDepth 100000 in
theorem c_Mod_store (l : Launch) (K : mx_K) (zm : Nat) (pl : Int32) (hi : Int32) (lo : Int32) (mt : Nat) (mx : Nat) (mla : Nat) (mll : Nat) (mli : Nat) (mlr : Nat) (mk : Nat) (mm : Nat) (md : Nat) (mr : Nat) (ms : Nat) (mst : Nat) (mas : Nat) (sz : Nat) : mx_I l y_Mod_store b_Mod_store 5 .boolean { frames := 0, cells := 0, slots := 0, locals := 0 } K [.ref zm, .int pl, .int hi, .int lo] [(zm, .inr (10, [.int 0, .int 0, .int 0, .int (-1), .int 0, .int 0, .int 0, .int 0, .int 255, .int 0, .int 0, .int 0, .long 256, .long 0, .int 0, .int 0, .long 0, .int 0, .int 0, .int 0, .int 0, .int 0, .int 0, .int 0, .int 0, .long 0, .long 0, .int 0, .long 0, .long 0, .long 0, .ref mt, .ref mx, .ref mla, .ref mll, .ref mli, .ref mlr, .ref mk, .ref mm, .ref md, .ref mr, .ref ms, .ref mst, .ref mas])), (mm, .inl (K.2.1.2.1, 4096, .inl (fun _ => 0)))] sz (fun (r : Int32) (u : Unit) => r = mx_store pl) (fun u : Unit => []) := by
  refine mx_of (by decide) (Nat.le_of_ble_eq_true rfl) ?_
  intro p e s m below meth c A ls H locs hAe F hr hlk hin hsz hP hD hS hl
  rw [hAe]
  have hl : lv_has ls 5 [(0, .ref zm), (1, .int pl), (2, .int hi), (3, .int lo)] := hl
  obtain ⟨hx, hb, hml, hown, hT, hK, hN, hE, hA⟩ := id F
  refine lv_aload_n hx hb d_Mod_store_0 rfl (lv_at hl 0 rfl) ?_
  refine lv_iconst (v := 0) hx hb d_Mod_store_1 (by decide) ?_
  refine va_put (D := K.1) (ci := 10) (v := .int 0) (ty := .int) (C := R_Mod) (T := T_Mod) (N := 44) hx hb hT in_Mod t_Mod t_Mod_ok n_Mod hown hK hP hD hS 0 rfl rfl 0 (by decide) (hT _ k_978) (fun _ h9 => h9) rfl (by decide +kernel) rfl rfl (Nat.le_of_ble_eq_true rfl) d_Mod_store_2 (fun H locs hP hD hS => ?_)
  have hP : va_P K.1 mx_cl [(zm, .inr (10, [.int 0, .int 0, .int 0, .int (-1), .int 0, .int 0, .int 0, .int 0, .int 255, .int 0, .int 0, .int 0, .long 256, .long 0, .int 0, .int 0, .long 0, .int 0, .int 0, .int 0, .int 0, .int 0, .int 0, .int 0, .int 0, .long 0, .long 0, .int 0, .long 0, .long 0, .long 0, .ref mt, .ref mx, .ref mla, .ref mll, .ref mli, .ref mlr, .ref mk, .ref mm, .ref md, .ref mr, .ref ms, .ref mst, .ref mas])), (mm, .inl (K.2.1.2.1, 4096, .inl (fun _ => 0)))] H := hP
  have hD : va_D A [(zm, .inr (10, [.int 0, .int 0, .int 0, .int (-1), .int 0, .int 0, .int 0, .int 0, .int 255, .int 0, .int 0, .int 0, .long 256, .long 0, .int 0, .int 0, .long 0, .int 0, .int 0, .int 0, .int 0, .int 0, .int 0, .int 0, .int 0, .long 0, .long 0, .int 0, .long 0, .long 0, .long 0, .ref mt, .ref mx, .ref mla, .ref mll, .ref mli, .ref mlr, .ref mk, .ref mm, .ref md, .ref mr, .ref ms, .ref mst, .ref mas])), (mm, .inl (K.2.1.2.1, 4096, .inl (fun _ => 0)))] := hD
  refine lv_iload_n hx hb d_Mod_store_5 rfl (lv_at hl 1 rfl) ?_
  refine lv_if_lt (tgt := 23) hx hb d_Mod_store_6 (by decide) (fun h6 => ?_) (fun h6 => ?_)
  · refine lv_iconst (v := 0) hx hb d_Mod_store_23 (by decide) ?_
    exact mx_ri F hr hlk (by decide) hP hD hS () [] rfl (by decide) (mx_store_o1 h6) (by decide) (by decide) d_Mod_store_24
  · refine lv_iload_n hx hb d_Mod_store_9 rfl (lv_at hl 1 rfl) ?_
    refine lv_sipush (v := 4088) hx hb d_Mod_store_10 (by decide) ?_
    refine lv_icmp_gt (tgt := 23) hx hb d_Mod_store_13 (by decide) (fun h13 => ?_) (fun h13 => ?_)
    · refine lv_iconst (v := 0) hx hb d_Mod_store_23 (by decide) ?_
      exact mx_ri F hr hlk (by decide) hP hD hS () [] rfl (by decide) (mx_store_o2 h13) (by decide) (by decide) d_Mod_store_24
    · obtain ⟨k, hk, rfl⟩ := mx_upto (n := 4088) (by decide) h6 h13
      refine lv_iload_n hx hb d_Mod_store_16 rfl (lv_at hl 1 rfl) ?_
      refine lv_bipush (v := 8) hx hb d_Mod_store_17 (by decide) ?_
      refine lv_irem hx hb d_Mod_store_19 (by decide) ?_
      refine lv_if_eq (tgt := 25) hx hb d_Mod_store_20 (by decide) (fun h20 => ?_) (fun h20 => ?_)
      · refine lv_iconst (v := 0) hx hb d_Mod_store_25 (by decide) ?_
        refine lv_istore (lv' := [(4, .int 0), (0, .ref zm), (1, .int (nI k)), (2, .int hi), (3, .int lo)]) hx hb d_Mod_store_26 hl (by decide) rfl (fun ls hl => ?_)
        refine lv_iload hx hb d_Mod_store_28 (lv_at hl 0 rfl) ?_
        refine lv_iconst (v := 4) hx hb d_Mod_store_30 (by decide) ?_
        refine lv_icmp_ge (tgt := 88) hx hb d_Mod_store_31 (by decide) (fun h => absurd h (by decide)) (fun _ => ?_)
        refine lv_aload_n hx hb d_Mod_store_34 rfl (lv_at hl 1 rfl) ?_
        refine va_get (D := K.1) (ci := 10) (v := .ref mm) (C := R_Mod) (T := T_Mod) (N := 44) hx hb hT in_Mod hown hK hP 0 rfl rfl 38 (by decide) (hT _ k_991) (fun _ h9 => h9) rfl d_Mod_store_35 ?_
        refine lv_iload_n hx hb d_Mod_store_38 rfl (lv_at hl 2 rfl) ?_
        refine lv_iload hx hb d_Mod_store_39 (lv_at hl 0 rfl) ?_
        refine lv_iadd hx hb d_Mod_store_41 ?_
        refine lv_topi (fun z2 ez2 => ?_)
        obtain rfl : z2 = nI (k + 0) := ez2.trans (nI_add k 0)
        refine lv_iload_n hx hb d_Mod_store_42 rfl (lv_at hl 3 rfl) ?_
        refine lv_bipush (v := 24) hx hb d_Mod_store_43 (by decide) ?_
        refine lv_bipush (v := 8) hx hb d_Mod_store_45 (by decide) ?_
        refine lv_iload hx hb d_Mod_store_47 (lv_at hl 0 rfl) ?_
        refine lv_imul hx hb d_Mod_store_49 ?_
        refine lv_topi (fun z3 ez3 => ?_)
        obtain rfl : z3 = 0 := ez3.trans (by decide)
        refine lv_isub hx hb d_Mod_store_50 ?_
        refine lv_topi (fun z4 ez4 => ?_)
        obtain rfl : z4 = 24 := ez4.trans (by decide)
        refine lv_ishr hx hb d_Mod_store_51 ?_
        refine lv_sipush (v := 255) hx hb d_Mod_store_52 (by decide) ?_
        refine lv_iand hx hb d_Mod_store_55 ?_
        refine va_iast hx hb hK hP hD hS 1 1 rfl rfl (i := nI (k + 0)) (x := (hi >>> ((24 : Int32) &&& 31)) &&& (255 : Int32)) (vp_in_nI (n := (k + 0)) (N := 4096) (by omega) (by decide)) d_Mod_store_56 (fun H locs hP hD hS => ?_)
        have hP : va_P K.1 mx_cl [(zm, .inr (10, [.int 0, .int 0, .int 0, .int (-1), .int 0, .int 0, .int 0, .int 0, .int 255, .int 0, .int 0, .int 0, .long 256, .long 0, .int 0, .int 0, .long 0, .int 0, .int 0, .int 0, .int 0, .int 0, .int 0, .int 0, .int 0, .long 0, .long 0, .int 0, .long 0, .long 0, .long 0, .ref mt, .ref mx, .ref mla, .ref mll, .ref mli, .ref mlr, .ref mk, .ref mm, .ref md, .ref mr, .ref ms, .ref mst, .ref mas])), (mm, .inl (K.2.1.2.1, 4096, .inl (upd (fun _ => 0) (nI (k + 0)).toNatClampNeg ((hi >>> ((24 : Int32) &&& 31)) &&& (255 : Int32)))))] H := hP
        have hD : va_D A [(zm, .inr (10, [.int 0, .int 0, .int 0, .int (-1), .int 0, .int 0, .int 0, .int 0, .int 255, .int 0, .int 0, .int 0, .long 256, .long 0, .int 0, .int 0, .long 0, .int 0, .int 0, .int 0, .int 0, .int 0, .int 0, .int 0, .int 0, .long 0, .long 0, .int 0, .long 0, .long 0, .long 0, .ref mt, .ref mx, .ref mla, .ref mll, .ref mli, .ref mlr, .ref mk, .ref mm, .ref md, .ref mr, .ref ms, .ref mst, .ref mas])), (mm, .inl (K.2.1.2.1, 4096, .inl (upd (fun _ => 0) (nI (k + 0)).toNatClampNeg ((hi >>> ((24 : Int32) &&& 31)) &&& (255 : Int32)))))] := hD
        generalize ef5 : upd (fun _ => 0) (nI (k + 0)).toNatClampNeg ((hi >>> ((24 : Int32) &&& 31)) &&& (255 : Int32)) = f5 at hP hD
        refine lv_aload_n hx hb d_Mod_store_57 rfl (lv_at hl 1 rfl) ?_
        refine va_get (D := K.1) (ci := 10) (v := .ref mm) (C := R_Mod) (T := T_Mod) (N := 44) hx hb hT in_Mod hown hK hP 0 rfl rfl 38 (by decide) (hT _ k_991) (fun _ h9 => h9) rfl d_Mod_store_58 ?_
        refine lv_iload_n hx hb d_Mod_store_61 rfl (lv_at hl 2 rfl) ?_
        refine lv_iconst (v := 4) hx hb d_Mod_store_62 (by decide) ?_
        refine lv_iadd hx hb d_Mod_store_63 ?_
        refine lv_topi (fun z6 ez6 => ?_)
        obtain rfl : z6 = nI (k + 4) := ez6.trans (nI_add k 4)
        refine lv_iload hx hb d_Mod_store_64 (lv_at hl 0 rfl) ?_
        refine lv_iadd hx hb d_Mod_store_66 ?_
        refine lv_topi (fun z7 ez7 => ?_)
        obtain rfl : z7 = nI ((k + 4) + 0) := ez7.trans (nI_add (k + 4) 0)
        refine lv_iload_n hx hb d_Mod_store_67 rfl (lv_at hl 4 rfl) ?_
        refine lv_bipush (v := 24) hx hb d_Mod_store_68 (by decide) ?_
        refine lv_bipush (v := 8) hx hb d_Mod_store_70 (by decide) ?_
        refine lv_iload hx hb d_Mod_store_72 (lv_at hl 0 rfl) ?_
        refine lv_imul hx hb d_Mod_store_74 ?_
        refine lv_topi (fun z8 ez8 => ?_)
        obtain rfl : z8 = 0 := ez8.trans (by decide)
        refine lv_isub hx hb d_Mod_store_75 ?_
        refine lv_topi (fun z9 ez9 => ?_)
        obtain rfl : z9 = 24 := ez9.trans (by decide)
        refine lv_ishr hx hb d_Mod_store_76 ?_
        refine lv_sipush (v := 255) hx hb d_Mod_store_77 (by decide) ?_
        refine lv_iand hx hb d_Mod_store_80 ?_
        refine va_iast hx hb hK hP hD hS 1 1 rfl rfl (i := nI ((k + 4) + 0)) (x := (lo >>> ((24 : Int32) &&& 31)) &&& (255 : Int32)) (vp_in_nI (n := ((k + 4) + 0)) (N := 4096) (by omega) (by decide)) d_Mod_store_81 (fun H locs hP hD hS => ?_)
        have hP : va_P K.1 mx_cl [(zm, .inr (10, [.int 0, .int 0, .int 0, .int (-1), .int 0, .int 0, .int 0, .int 0, .int 255, .int 0, .int 0, .int 0, .long 256, .long 0, .int 0, .int 0, .long 0, .int 0, .int 0, .int 0, .int 0, .int 0, .int 0, .int 0, .int 0, .long 0, .long 0, .int 0, .long 0, .long 0, .long 0, .ref mt, .ref mx, .ref mla, .ref mll, .ref mli, .ref mlr, .ref mk, .ref mm, .ref md, .ref mr, .ref ms, .ref mst, .ref mas])), (mm, .inl (K.2.1.2.1, 4096, .inl (upd f5 (nI ((k + 4) + 0)).toNatClampNeg ((lo >>> ((24 : Int32) &&& 31)) &&& (255 : Int32)))))] H := hP
        have hD : va_D A [(zm, .inr (10, [.int 0, .int 0, .int 0, .int (-1), .int 0, .int 0, .int 0, .int 0, .int 255, .int 0, .int 0, .int 0, .long 256, .long 0, .int 0, .int 0, .long 0, .int 0, .int 0, .int 0, .int 0, .int 0, .int 0, .int 0, .int 0, .long 0, .long 0, .int 0, .long 0, .long 0, .long 0, .ref mt, .ref mx, .ref mla, .ref mll, .ref mli, .ref mlr, .ref mk, .ref mm, .ref md, .ref mr, .ref ms, .ref mst, .ref mas])), (mm, .inl (K.2.1.2.1, 4096, .inl (upd f5 (nI ((k + 4) + 0)).toNatClampNeg ((lo >>> ((24 : Int32) &&& 31)) &&& (255 : Int32)))))] := hD
        generalize ef10 : upd f5 (nI ((k + 4) + 0)).toNatClampNeg ((lo >>> ((24 : Int32) &&& 31)) &&& (255 : Int32)) = f10 at hP hD
        refine lv_iinc (lv' := [(4, .int 1), (0, .ref zm), (1, .int (nI k)), (2, .int hi), (3, .int lo)]) (v := 1) (k := 0) hx hb d_Mod_store_82 hl rfl (by decide) (by decide) rfl (fun ls hl => ?_)
        refine lv_goto (tgt := 28) hx hb d_Mod_store_85 (by decide) ?_
        refine lv_iload hx hb d_Mod_store_28 (lv_at hl 0 rfl) ?_
        refine lv_iconst (v := 4) hx hb d_Mod_store_30 (by decide) ?_
        refine lv_icmp_ge (tgt := 88) hx hb d_Mod_store_31 (by decide) (fun h => absurd h (by decide)) (fun _ => ?_)
        refine lv_aload_n hx hb d_Mod_store_34 rfl (lv_at hl 1 rfl) ?_
        refine va_get (D := K.1) (ci := 10) (v := .ref mm) (C := R_Mod) (T := T_Mod) (N := 44) hx hb hT in_Mod hown hK hP 0 rfl rfl 38 (by decide) (hT _ k_991) (fun _ h9 => h9) rfl d_Mod_store_35 ?_
        refine lv_iload_n hx hb d_Mod_store_38 rfl (lv_at hl 2 rfl) ?_
        refine lv_iload hx hb d_Mod_store_39 (lv_at hl 0 rfl) ?_
        refine lv_iadd hx hb d_Mod_store_41 ?_
        refine lv_topi (fun z12 ez12 => ?_)
        obtain rfl : z12 = nI (k + 1) := ez12.trans (nI_add k 1)
        refine lv_iload_n hx hb d_Mod_store_42 rfl (lv_at hl 3 rfl) ?_
        refine lv_bipush (v := 24) hx hb d_Mod_store_43 (by decide) ?_
        refine lv_bipush (v := 8) hx hb d_Mod_store_45 (by decide) ?_
        refine lv_iload hx hb d_Mod_store_47 (lv_at hl 0 rfl) ?_
        refine lv_imul hx hb d_Mod_store_49 ?_
        refine lv_topi (fun z13 ez13 => ?_)
        obtain rfl : z13 = 8 := ez13.trans (by decide)
        refine lv_isub hx hb d_Mod_store_50 ?_
        refine lv_topi (fun z14 ez14 => ?_)
        obtain rfl : z14 = 16 := ez14.trans (by decide)
        refine lv_ishr hx hb d_Mod_store_51 ?_
        refine lv_sipush (v := 255) hx hb d_Mod_store_52 (by decide) ?_
        refine lv_iand hx hb d_Mod_store_55 ?_
        refine va_iast hx hb hK hP hD hS 1 1 rfl rfl (i := nI (k + 1)) (x := (hi >>> ((16 : Int32) &&& 31)) &&& (255 : Int32)) (vp_in_nI (n := (k + 1)) (N := 4096) (by omega) (by decide)) d_Mod_store_56 (fun H locs hP hD hS => ?_)
        have hP : va_P K.1 mx_cl [(zm, .inr (10, [.int 0, .int 0, .int 0, .int (-1), .int 0, .int 0, .int 0, .int 0, .int 255, .int 0, .int 0, .int 0, .long 256, .long 0, .int 0, .int 0, .long 0, .int 0, .int 0, .int 0, .int 0, .int 0, .int 0, .int 0, .int 0, .long 0, .long 0, .int 0, .long 0, .long 0, .long 0, .ref mt, .ref mx, .ref mla, .ref mll, .ref mli, .ref mlr, .ref mk, .ref mm, .ref md, .ref mr, .ref ms, .ref mst, .ref mas])), (mm, .inl (K.2.1.2.1, 4096, .inl (upd f10 (nI (k + 1)).toNatClampNeg ((hi >>> ((16 : Int32) &&& 31)) &&& (255 : Int32)))))] H := hP
        have hD : va_D A [(zm, .inr (10, [.int 0, .int 0, .int 0, .int (-1), .int 0, .int 0, .int 0, .int 0, .int 255, .int 0, .int 0, .int 0, .long 256, .long 0, .int 0, .int 0, .long 0, .int 0, .int 0, .int 0, .int 0, .int 0, .int 0, .int 0, .int 0, .long 0, .long 0, .int 0, .long 0, .long 0, .long 0, .ref mt, .ref mx, .ref mla, .ref mll, .ref mli, .ref mlr, .ref mk, .ref mm, .ref md, .ref mr, .ref ms, .ref mst, .ref mas])), (mm, .inl (K.2.1.2.1, 4096, .inl (upd f10 (nI (k + 1)).toNatClampNeg ((hi >>> ((16 : Int32) &&& 31)) &&& (255 : Int32)))))] := hD
        generalize ef15 : upd f10 (nI (k + 1)).toNatClampNeg ((hi >>> ((16 : Int32) &&& 31)) &&& (255 : Int32)) = f15 at hP hD
        refine lv_aload_n hx hb d_Mod_store_57 rfl (lv_at hl 1 rfl) ?_
        refine va_get (D := K.1) (ci := 10) (v := .ref mm) (C := R_Mod) (T := T_Mod) (N := 44) hx hb hT in_Mod hown hK hP 0 rfl rfl 38 (by decide) (hT _ k_991) (fun _ h9 => h9) rfl d_Mod_store_58 ?_
        refine lv_iload_n hx hb d_Mod_store_61 rfl (lv_at hl 2 rfl) ?_
        refine lv_iconst (v := 4) hx hb d_Mod_store_62 (by decide) ?_
        refine lv_iadd hx hb d_Mod_store_63 ?_
        refine lv_topi (fun z16 ez16 => ?_)
        obtain rfl : z16 = nI (k + 4) := ez16.trans (nI_add k 4)
        refine lv_iload hx hb d_Mod_store_64 (lv_at hl 0 rfl) ?_
        refine lv_iadd hx hb d_Mod_store_66 ?_
        refine lv_topi (fun z17 ez17 => ?_)
        obtain rfl : z17 = nI ((k + 4) + 1) := ez17.trans (nI_add (k + 4) 1)
        refine lv_iload_n hx hb d_Mod_store_67 rfl (lv_at hl 4 rfl) ?_
        refine lv_bipush (v := 24) hx hb d_Mod_store_68 (by decide) ?_
        refine lv_bipush (v := 8) hx hb d_Mod_store_70 (by decide) ?_
        refine lv_iload hx hb d_Mod_store_72 (lv_at hl 0 rfl) ?_
        refine lv_imul hx hb d_Mod_store_74 ?_
        refine lv_topi (fun z18 ez18 => ?_)
        obtain rfl : z18 = 8 := ez18.trans (by decide)
        refine lv_isub hx hb d_Mod_store_75 ?_
        refine lv_topi (fun z19 ez19 => ?_)
        obtain rfl : z19 = 16 := ez19.trans (by decide)
        refine lv_ishr hx hb d_Mod_store_76 ?_
        refine lv_sipush (v := 255) hx hb d_Mod_store_77 (by decide) ?_
        refine lv_iand hx hb d_Mod_store_80 ?_
        refine va_iast hx hb hK hP hD hS 1 1 rfl rfl (i := nI ((k + 4) + 1)) (x := (lo >>> ((16 : Int32) &&& 31)) &&& (255 : Int32)) (vp_in_nI (n := ((k + 4) + 1)) (N := 4096) (by omega) (by decide)) d_Mod_store_81 (fun H locs hP hD hS => ?_)
        have hP : va_P K.1 mx_cl [(zm, .inr (10, [.int 0, .int 0, .int 0, .int (-1), .int 0, .int 0, .int 0, .int 0, .int 255, .int 0, .int 0, .int 0, .long 256, .long 0, .int 0, .int 0, .long 0, .int 0, .int 0, .int 0, .int 0, .int 0, .int 0, .int 0, .int 0, .long 0, .long 0, .int 0, .long 0, .long 0, .long 0, .ref mt, .ref mx, .ref mla, .ref mll, .ref mli, .ref mlr, .ref mk, .ref mm, .ref md, .ref mr, .ref ms, .ref mst, .ref mas])), (mm, .inl (K.2.1.2.1, 4096, .inl (upd f15 (nI ((k + 4) + 1)).toNatClampNeg ((lo >>> ((16 : Int32) &&& 31)) &&& (255 : Int32)))))] H := hP
        have hD : va_D A [(zm, .inr (10, [.int 0, .int 0, .int 0, .int (-1), .int 0, .int 0, .int 0, .int 0, .int 255, .int 0, .int 0, .int 0, .long 256, .long 0, .int 0, .int 0, .long 0, .int 0, .int 0, .int 0, .int 0, .int 0, .int 0, .int 0, .int 0, .long 0, .long 0, .int 0, .long 0, .long 0, .long 0, .ref mt, .ref mx, .ref mla, .ref mll, .ref mli, .ref mlr, .ref mk, .ref mm, .ref md, .ref mr, .ref ms, .ref mst, .ref mas])), (mm, .inl (K.2.1.2.1, 4096, .inl (upd f15 (nI ((k + 4) + 1)).toNatClampNeg ((lo >>> ((16 : Int32) &&& 31)) &&& (255 : Int32)))))] := hD
        generalize ef20 : upd f15 (nI ((k + 4) + 1)).toNatClampNeg ((lo >>> ((16 : Int32) &&& 31)) &&& (255 : Int32)) = f20 at hP hD
        refine lv_iinc (lv' := [(4, .int 2), (0, .ref zm), (1, .int (nI k)), (2, .int hi), (3, .int lo)]) (v := 2) (k := 0) hx hb d_Mod_store_82 hl rfl (by decide) (by decide) rfl (fun ls hl => ?_)
        refine lv_goto (tgt := 28) hx hb d_Mod_store_85 (by decide) ?_
        refine lv_iload hx hb d_Mod_store_28 (lv_at hl 0 rfl) ?_
        refine lv_iconst (v := 4) hx hb d_Mod_store_30 (by decide) ?_
        refine lv_icmp_ge (tgt := 88) hx hb d_Mod_store_31 (by decide) (fun h => absurd h (by decide)) (fun _ => ?_)
        refine lv_aload_n hx hb d_Mod_store_34 rfl (lv_at hl 1 rfl) ?_
        refine va_get (D := K.1) (ci := 10) (v := .ref mm) (C := R_Mod) (T := T_Mod) (N := 44) hx hb hT in_Mod hown hK hP 0 rfl rfl 38 (by decide) (hT _ k_991) (fun _ h9 => h9) rfl d_Mod_store_35 ?_
        refine lv_iload_n hx hb d_Mod_store_38 rfl (lv_at hl 2 rfl) ?_
        refine lv_iload hx hb d_Mod_store_39 (lv_at hl 0 rfl) ?_
        refine lv_iadd hx hb d_Mod_store_41 ?_
        refine lv_topi (fun z22 ez22 => ?_)
        obtain rfl : z22 = nI (k + 2) := ez22.trans (nI_add k 2)
        refine lv_iload_n hx hb d_Mod_store_42 rfl (lv_at hl 3 rfl) ?_
        refine lv_bipush (v := 24) hx hb d_Mod_store_43 (by decide) ?_
        refine lv_bipush (v := 8) hx hb d_Mod_store_45 (by decide) ?_
        refine lv_iload hx hb d_Mod_store_47 (lv_at hl 0 rfl) ?_
        refine lv_imul hx hb d_Mod_store_49 ?_
        refine lv_topi (fun z23 ez23 => ?_)
        obtain rfl : z23 = 16 := ez23.trans (by decide)
        refine lv_isub hx hb d_Mod_store_50 ?_
        refine lv_topi (fun z24 ez24 => ?_)
        obtain rfl : z24 = 8 := ez24.trans (by decide)
        refine lv_ishr hx hb d_Mod_store_51 ?_
        refine lv_sipush (v := 255) hx hb d_Mod_store_52 (by decide) ?_
        refine lv_iand hx hb d_Mod_store_55 ?_
        refine va_iast hx hb hK hP hD hS 1 1 rfl rfl (i := nI (k + 2)) (x := (hi >>> ((8 : Int32) &&& 31)) &&& (255 : Int32)) (vp_in_nI (n := (k + 2)) (N := 4096) (by omega) (by decide)) d_Mod_store_56 (fun H locs hP hD hS => ?_)
        have hP : va_P K.1 mx_cl [(zm, .inr (10, [.int 0, .int 0, .int 0, .int (-1), .int 0, .int 0, .int 0, .int 0, .int 255, .int 0, .int 0, .int 0, .long 256, .long 0, .int 0, .int 0, .long 0, .int 0, .int 0, .int 0, .int 0, .int 0, .int 0, .int 0, .int 0, .long 0, .long 0, .int 0, .long 0, .long 0, .long 0, .ref mt, .ref mx, .ref mla, .ref mll, .ref mli, .ref mlr, .ref mk, .ref mm, .ref md, .ref mr, .ref ms, .ref mst, .ref mas])), (mm, .inl (K.2.1.2.1, 4096, .inl (upd f20 (nI (k + 2)).toNatClampNeg ((hi >>> ((8 : Int32) &&& 31)) &&& (255 : Int32)))))] H := hP
        have hD : va_D A [(zm, .inr (10, [.int 0, .int 0, .int 0, .int (-1), .int 0, .int 0, .int 0, .int 0, .int 255, .int 0, .int 0, .int 0, .long 256, .long 0, .int 0, .int 0, .long 0, .int 0, .int 0, .int 0, .int 0, .int 0, .int 0, .int 0, .int 0, .long 0, .long 0, .int 0, .long 0, .long 0, .long 0, .ref mt, .ref mx, .ref mla, .ref mll, .ref mli, .ref mlr, .ref mk, .ref mm, .ref md, .ref mr, .ref ms, .ref mst, .ref mas])), (mm, .inl (K.2.1.2.1, 4096, .inl (upd f20 (nI (k + 2)).toNatClampNeg ((hi >>> ((8 : Int32) &&& 31)) &&& (255 : Int32)))))] := hD
        generalize ef25 : upd f20 (nI (k + 2)).toNatClampNeg ((hi >>> ((8 : Int32) &&& 31)) &&& (255 : Int32)) = f25 at hP hD
        refine lv_aload_n hx hb d_Mod_store_57 rfl (lv_at hl 1 rfl) ?_
        refine va_get (D := K.1) (ci := 10) (v := .ref mm) (C := R_Mod) (T := T_Mod) (N := 44) hx hb hT in_Mod hown hK hP 0 rfl rfl 38 (by decide) (hT _ k_991) (fun _ h9 => h9) rfl d_Mod_store_58 ?_
        refine lv_iload_n hx hb d_Mod_store_61 rfl (lv_at hl 2 rfl) ?_
        refine lv_iconst (v := 4) hx hb d_Mod_store_62 (by decide) ?_
        refine lv_iadd hx hb d_Mod_store_63 ?_
        refine lv_topi (fun z26 ez26 => ?_)
        obtain rfl : z26 = nI (k + 4) := ez26.trans (nI_add k 4)
        refine lv_iload hx hb d_Mod_store_64 (lv_at hl 0 rfl) ?_
        refine lv_iadd hx hb d_Mod_store_66 ?_
        refine lv_topi (fun z27 ez27 => ?_)
        obtain rfl : z27 = nI ((k + 4) + 2) := ez27.trans (nI_add (k + 4) 2)
        refine lv_iload_n hx hb d_Mod_store_67 rfl (lv_at hl 4 rfl) ?_
        refine lv_bipush (v := 24) hx hb d_Mod_store_68 (by decide) ?_
        refine lv_bipush (v := 8) hx hb d_Mod_store_70 (by decide) ?_
        refine lv_iload hx hb d_Mod_store_72 (lv_at hl 0 rfl) ?_
        refine lv_imul hx hb d_Mod_store_74 ?_
        refine lv_topi (fun z28 ez28 => ?_)
        obtain rfl : z28 = 16 := ez28.trans (by decide)
        refine lv_isub hx hb d_Mod_store_75 ?_
        refine lv_topi (fun z29 ez29 => ?_)
        obtain rfl : z29 = 8 := ez29.trans (by decide)
        refine lv_ishr hx hb d_Mod_store_76 ?_
        refine lv_sipush (v := 255) hx hb d_Mod_store_77 (by decide) ?_
        refine lv_iand hx hb d_Mod_store_80 ?_
        refine va_iast hx hb hK hP hD hS 1 1 rfl rfl (i := nI ((k + 4) + 2)) (x := (lo >>> ((8 : Int32) &&& 31)) &&& (255 : Int32)) (vp_in_nI (n := ((k + 4) + 2)) (N := 4096) (by omega) (by decide)) d_Mod_store_81 (fun H locs hP hD hS => ?_)
        have hP : va_P K.1 mx_cl [(zm, .inr (10, [.int 0, .int 0, .int 0, .int (-1), .int 0, .int 0, .int 0, .int 0, .int 255, .int 0, .int 0, .int 0, .long 256, .long 0, .int 0, .int 0, .long 0, .int 0, .int 0, .int 0, .int 0, .int 0, .int 0, .int 0, .int 0, .long 0, .long 0, .int 0, .long 0, .long 0, .long 0, .ref mt, .ref mx, .ref mla, .ref mll, .ref mli, .ref mlr, .ref mk, .ref mm, .ref md, .ref mr, .ref ms, .ref mst, .ref mas])), (mm, .inl (K.2.1.2.1, 4096, .inl (upd f25 (nI ((k + 4) + 2)).toNatClampNeg ((lo >>> ((8 : Int32) &&& 31)) &&& (255 : Int32)))))] H := hP
        have hD : va_D A [(zm, .inr (10, [.int 0, .int 0, .int 0, .int (-1), .int 0, .int 0, .int 0, .int 0, .int 255, .int 0, .int 0, .int 0, .long 256, .long 0, .int 0, .int 0, .long 0, .int 0, .int 0, .int 0, .int 0, .int 0, .int 0, .int 0, .int 0, .long 0, .long 0, .int 0, .long 0, .long 0, .long 0, .ref mt, .ref mx, .ref mla, .ref mll, .ref mli, .ref mlr, .ref mk, .ref mm, .ref md, .ref mr, .ref ms, .ref mst, .ref mas])), (mm, .inl (K.2.1.2.1, 4096, .inl (upd f25 (nI ((k + 4) + 2)).toNatClampNeg ((lo >>> ((8 : Int32) &&& 31)) &&& (255 : Int32)))))] := hD
        generalize ef30 : upd f25 (nI ((k + 4) + 2)).toNatClampNeg ((lo >>> ((8 : Int32) &&& 31)) &&& (255 : Int32)) = f30 at hP hD
        refine lv_iinc (lv' := [(4, .int 3), (0, .ref zm), (1, .int (nI k)), (2, .int hi), (3, .int lo)]) (v := 3) (k := 0) hx hb d_Mod_store_82 hl rfl (by decide) (by decide) rfl (fun ls hl => ?_)
        refine lv_goto (tgt := 28) hx hb d_Mod_store_85 (by decide) ?_
        refine lv_iload hx hb d_Mod_store_28 (lv_at hl 0 rfl) ?_
        refine lv_iconst (v := 4) hx hb d_Mod_store_30 (by decide) ?_
        refine lv_icmp_ge (tgt := 88) hx hb d_Mod_store_31 (by decide) (fun h => absurd h (by decide)) (fun _ => ?_)
        refine lv_aload_n hx hb d_Mod_store_34 rfl (lv_at hl 1 rfl) ?_
        refine va_get (D := K.1) (ci := 10) (v := .ref mm) (C := R_Mod) (T := T_Mod) (N := 44) hx hb hT in_Mod hown hK hP 0 rfl rfl 38 (by decide) (hT _ k_991) (fun _ h9 => h9) rfl d_Mod_store_35 ?_
        refine lv_iload_n hx hb d_Mod_store_38 rfl (lv_at hl 2 rfl) ?_
        refine lv_iload hx hb d_Mod_store_39 (lv_at hl 0 rfl) ?_
        refine lv_iadd hx hb d_Mod_store_41 ?_
        refine lv_topi (fun z32 ez32 => ?_)
        obtain rfl : z32 = nI (k + 3) := ez32.trans (nI_add k 3)
        refine lv_iload_n hx hb d_Mod_store_42 rfl (lv_at hl 3 rfl) ?_
        refine lv_bipush (v := 24) hx hb d_Mod_store_43 (by decide) ?_
        refine lv_bipush (v := 8) hx hb d_Mod_store_45 (by decide) ?_
        refine lv_iload hx hb d_Mod_store_47 (lv_at hl 0 rfl) ?_
        refine lv_imul hx hb d_Mod_store_49 ?_
        refine lv_topi (fun z33 ez33 => ?_)
        obtain rfl : z33 = 24 := ez33.trans (by decide)
        refine lv_isub hx hb d_Mod_store_50 ?_
        refine lv_topi (fun z34 ez34 => ?_)
        obtain rfl : z34 = 0 := ez34.trans (by decide)
        refine lv_ishr hx hb d_Mod_store_51 ?_
        refine lv_sipush (v := 255) hx hb d_Mod_store_52 (by decide) ?_
        refine lv_iand hx hb d_Mod_store_55 ?_
        refine va_iast hx hb hK hP hD hS 1 1 rfl rfl (i := nI (k + 3)) (x := (hi >>> ((0 : Int32) &&& 31)) &&& (255 : Int32)) (vp_in_nI (n := (k + 3)) (N := 4096) (by omega) (by decide)) d_Mod_store_56 (fun H locs hP hD hS => ?_)
        have hP : va_P K.1 mx_cl [(zm, .inr (10, [.int 0, .int 0, .int 0, .int (-1), .int 0, .int 0, .int 0, .int 0, .int 255, .int 0, .int 0, .int 0, .long 256, .long 0, .int 0, .int 0, .long 0, .int 0, .int 0, .int 0, .int 0, .int 0, .int 0, .int 0, .int 0, .long 0, .long 0, .int 0, .long 0, .long 0, .long 0, .ref mt, .ref mx, .ref mla, .ref mll, .ref mli, .ref mlr, .ref mk, .ref mm, .ref md, .ref mr, .ref ms, .ref mst, .ref mas])), (mm, .inl (K.2.1.2.1, 4096, .inl (upd f30 (nI (k + 3)).toNatClampNeg ((hi >>> ((0 : Int32) &&& 31)) &&& (255 : Int32)))))] H := hP
        have hD : va_D A [(zm, .inr (10, [.int 0, .int 0, .int 0, .int (-1), .int 0, .int 0, .int 0, .int 0, .int 255, .int 0, .int 0, .int 0, .long 256, .long 0, .int 0, .int 0, .long 0, .int 0, .int 0, .int 0, .int 0, .int 0, .int 0, .int 0, .int 0, .long 0, .long 0, .int 0, .long 0, .long 0, .long 0, .ref mt, .ref mx, .ref mla, .ref mll, .ref mli, .ref mlr, .ref mk, .ref mm, .ref md, .ref mr, .ref ms, .ref mst, .ref mas])), (mm, .inl (K.2.1.2.1, 4096, .inl (upd f30 (nI (k + 3)).toNatClampNeg ((hi >>> ((0 : Int32) &&& 31)) &&& (255 : Int32)))))] := hD
        generalize ef35 : upd f30 (nI (k + 3)).toNatClampNeg ((hi >>> ((0 : Int32) &&& 31)) &&& (255 : Int32)) = f35 at hP hD
        refine lv_aload_n hx hb d_Mod_store_57 rfl (lv_at hl 1 rfl) ?_
        refine va_get (D := K.1) (ci := 10) (v := .ref mm) (C := R_Mod) (T := T_Mod) (N := 44) hx hb hT in_Mod hown hK hP 0 rfl rfl 38 (by decide) (hT _ k_991) (fun _ h9 => h9) rfl d_Mod_store_58 ?_
        refine lv_iload_n hx hb d_Mod_store_61 rfl (lv_at hl 2 rfl) ?_
        refine lv_iconst (v := 4) hx hb d_Mod_store_62 (by decide) ?_
        refine lv_iadd hx hb d_Mod_store_63 ?_
        refine lv_topi (fun z36 ez36 => ?_)
        obtain rfl : z36 = nI (k + 4) := ez36.trans (nI_add k 4)
        refine lv_iload hx hb d_Mod_store_64 (lv_at hl 0 rfl) ?_
        refine lv_iadd hx hb d_Mod_store_66 ?_
        refine lv_topi (fun z37 ez37 => ?_)
        obtain rfl : z37 = nI ((k + 4) + 3) := ez37.trans (nI_add (k + 4) 3)
        refine lv_iload_n hx hb d_Mod_store_67 rfl (lv_at hl 4 rfl) ?_
        refine lv_bipush (v := 24) hx hb d_Mod_store_68 (by decide) ?_
        refine lv_bipush (v := 8) hx hb d_Mod_store_70 (by decide) ?_
        refine lv_iload hx hb d_Mod_store_72 (lv_at hl 0 rfl) ?_
        refine lv_imul hx hb d_Mod_store_74 ?_
        refine lv_topi (fun z38 ez38 => ?_)
        obtain rfl : z38 = 24 := ez38.trans (by decide)
        refine lv_isub hx hb d_Mod_store_75 ?_
        refine lv_topi (fun z39 ez39 => ?_)
        obtain rfl : z39 = 0 := ez39.trans (by decide)
        refine lv_ishr hx hb d_Mod_store_76 ?_
        refine lv_sipush (v := 255) hx hb d_Mod_store_77 (by decide) ?_
        refine lv_iand hx hb d_Mod_store_80 ?_
        refine va_iast hx hb hK hP hD hS 1 1 rfl rfl (i := nI ((k + 4) + 3)) (x := (lo >>> ((0 : Int32) &&& 31)) &&& (255 : Int32)) (vp_in_nI (n := ((k + 4) + 3)) (N := 4096) (by omega) (by decide)) d_Mod_store_81 (fun H locs hP hD hS => ?_)
        have hP : va_P K.1 mx_cl [(zm, .inr (10, [.int 0, .int 0, .int 0, .int (-1), .int 0, .int 0, .int 0, .int 0, .int 255, .int 0, .int 0, .int 0, .long 256, .long 0, .int 0, .int 0, .long 0, .int 0, .int 0, .int 0, .int 0, .int 0, .int 0, .int 0, .int 0, .long 0, .long 0, .int 0, .long 0, .long 0, .long 0, .ref mt, .ref mx, .ref mla, .ref mll, .ref mli, .ref mlr, .ref mk, .ref mm, .ref md, .ref mr, .ref ms, .ref mst, .ref mas])), (mm, .inl (K.2.1.2.1, 4096, .inl (upd f35 (nI ((k + 4) + 3)).toNatClampNeg ((lo >>> ((0 : Int32) &&& 31)) &&& (255 : Int32)))))] H := hP
        have hD : va_D A [(zm, .inr (10, [.int 0, .int 0, .int 0, .int (-1), .int 0, .int 0, .int 0, .int 0, .int 255, .int 0, .int 0, .int 0, .long 256, .long 0, .int 0, .int 0, .long 0, .int 0, .int 0, .int 0, .int 0, .int 0, .int 0, .int 0, .int 0, .long 0, .long 0, .int 0, .long 0, .long 0, .long 0, .ref mt, .ref mx, .ref mla, .ref mll, .ref mli, .ref mlr, .ref mk, .ref mm, .ref md, .ref mr, .ref ms, .ref mst, .ref mas])), (mm, .inl (K.2.1.2.1, 4096, .inl (upd f35 (nI ((k + 4) + 3)).toNatClampNeg ((lo >>> ((0 : Int32) &&& 31)) &&& (255 : Int32)))))] := hD
        generalize ef40 : upd f35 (nI ((k + 4) + 3)).toNatClampNeg ((lo >>> ((0 : Int32) &&& 31)) &&& (255 : Int32)) = f40 at hP hD
        refine lv_iinc (lv' := [(4, .int 4), (0, .ref zm), (1, .int (nI k)), (2, .int hi), (3, .int lo)]) (v := 4) (k := 0) hx hb d_Mod_store_82 hl rfl (by decide) (by decide) rfl (fun ls hl => ?_)
        refine lv_goto (tgt := 28) hx hb d_Mod_store_85 (by decide) ?_
        refine lv_iload hx hb d_Mod_store_28 (lv_at hl 0 rfl) ?_
        refine lv_iconst (v := 4) hx hb d_Mod_store_30 (by decide) ?_
        refine lv_icmp_ge (tgt := 88) hx hb d_Mod_store_31 (by decide) (fun _ => ?_) (fun h => absurd h (by decide))
        refine lv_iconst (v := 1) hx hb d_Mod_store_88 (by decide) ?_
        exact mx_ri F hr hlk (by decide) hP hD hS () [] rfl (by decide) (mx_store_in2 hk h20) (by decide) (by decide) d_Mod_store_89
      · refine lv_iconst (v := 0) hx hb d_Mod_store_23 (by decide) ?_
        exact mx_ri F hr hlk (by decide) hP hD hS () [] rfl (by decide) (mx_store_o3 hk h20) (by decide) (by decide) d_Mod_store_24
set_option maxHeartbeats 4000000 in
set_option maxRecDepth 100000 in
theorem c_Mod_back (l : Launch) (K : mx_K) (zm : Nat) (mt : Nat) (mx : Nat) (mla : Nat) (mll : Nat) (mli : Nat) (mlr : Nat) (mk : Nat) (mm : Nat) (md : Nat) (mr : Nat) (ms : Nat) (mst : Nat) (mas : Nat) (sz : Nat) : mx_V l y_Mod_back b_Mod_back 1 { frames := 2, cells := 0, slots := 0, locals := 41 } K [.ref zm] [(zm, .inr (10, [.int 0, .int 0, .int 0, .int (-1), .int 0, .int 0, .int 0, .int 0, .int 255, .int 0, .int 0, .int 0, .long 256, .long 0, .int 0, .int 0, .long 0, .int 0, .int 0, .int 0, .int 0, .int 0, .int 0, .int 0, .int 0, .long 0, .long 0, .int 0, .long 0, .long 0, .long 0, .ref mt, .ref mx, .ref mla, .ref mll, .ref mli, .ref mlr, .ref mk, .ref mm, .ref md, .ref mr, .ref ms, .ref mst, .ref mas])), (mr, .inl (K.2.1.1, 256, .inr (.inl (fun _ => 0)))), (ms, .inl (K.2.1.1, 32, .inr (.inl (fun _ => 0))))] sz (fun u : Unit => True) (fun u : Unit => []) := by
  refine mx_of (by decide) (Nat.le_of_ble_eq_true rfl) ?_
  intro p e s m below meth c A ls H locs hAe F hr hlk hin hsz hP hD hS hl
  rw [hAe]
  have hl : lv_has ls 1 [(0, .ref zm)] := hl
  obtain ⟨hx, hb, hml, hown, hT, hK, hN, hE, hA⟩ := id F
  refine lv_aload_n hx hb d_Mod_back_0 rfl (lv_at hl 0 rfl) ?_
  refine lv_iconst (v := 0) hx hb d_Mod_back_1 (by decide) ?_
  refine va_put (D := K.1) (ci := 10) (v := .int 0) (ty := .int) (C := R_Mod) (T := T_Mod) (N := 44) hx hb hT in_Mod t_Mod t_Mod_ok n_Mod hown hK hP hD hS 0 rfl rfl 0 (by decide) (hT _ k_978) (fun _ h9 => h9) rfl (by decide +kernel) rfl rfl (Nat.le_of_ble_eq_true rfl) d_Mod_back_2 (fun H locs hP hD hS => ?_)
  have hP : va_P K.1 mx_cl [(zm, .inr (10, [.int 0, .int 0, .int 0, .int (-1), .int 0, .int 0, .int 0, .int 0, .int 255, .int 0, .int 0, .int 0, .long 256, .long 0, .int 0, .int 0, .long 0, .int 0, .int 0, .int 0, .int 0, .int 0, .int 0, .int 0, .int 0, .long 0, .long 0, .int 0, .long 0, .long 0, .long 0, .ref mt, .ref mx, .ref mla, .ref mll, .ref mli, .ref mlr, .ref mk, .ref mm, .ref md, .ref mr, .ref ms, .ref mst, .ref mas])), (mr, .inl (K.2.1.1, 256, .inr (.inl (fun _ => 0)))), (ms, .inl (K.2.1.1, 32, .inr (.inl (fun _ => 0))))] H := hP
  have hD : va_D A [(zm, .inr (10, [.int 0, .int 0, .int 0, .int (-1), .int 0, .int 0, .int 0, .int 0, .int 255, .int 0, .int 0, .int 0, .long 256, .long 0, .int 0, .int 0, .long 0, .int 0, .int 0, .int 0, .int 0, .int 0, .int 0, .int 0, .int 0, .long 0, .long 0, .int 0, .long 0, .long 0, .long 0, .ref mt, .ref mx, .ref mla, .ref mll, .ref mli, .ref mlr, .ref mk, .ref mm, .ref md, .ref mr, .ref ms, .ref mst, .ref mas])), (mr, .inl (K.2.1.1, 256, .inr (.inl (fun _ => 0)))), (ms, .inl (K.2.1.1, 32, .inr (.inl (fun _ => 0))))] := hD
  refine lv_aload_n hx hb d_Mod_back_5 rfl (lv_at hl 0 rfl) ?_
  refine mx_cv (wr := []) F (mx_runV (As := []) (rest := []) (n := 0) F (c_Mod_setBack l K zm 0 0 0 (-1) 0 0 0 0 255 0 0 0 256 0 0 0 0 0 0 0 0 0 0 0 0 0 0 0 0 0 0 mt mx mla mll mli mlr mk mm md mr ms mst mas H.size) k_976 (Or.inl k_973) k_975 s_Mod_setBack k_15 p_Mod_setBack rfl rfl hP hD hS [0, 1, 2] rfl (by decide) (va_recv (q := (R_Mod, T_Mod, 44)) (ci := 10) (q0 := 0) hK hP rfl rfl) rfl hl.1 rfl (Nat.le_of_ble_eq_true rfl) ⟨by decide, by decide⟩ ⟨by decide, by decide⟩ d_Mod_back_6) hP hD hS [0, 1, 2] [] rfl rfl (by decide) (by decide) (fun _ H locs hq1 hP hD hS => ?_)
  have hP : va_P K.1 mx_cl [(zm, .inr (10, [.int 0, .int 0, .int 0, .int (-1), .int 0, .int 0, .int 0, .int 0, .int 255, .int 0, .int 0, .int 0, .long 256, .long 0, .int 0, .int 0, .long 0, .int 0, .int 0, .int 0, .int 0, .int 0, .int 0, .int 0, .int 0, .long 0, .long 0, .int 0, .long 0, .long 0, .long 0, .ref mt, .ref mx, .ref mla, .ref mll, .ref mli, .ref mlr, .ref mk, .ref mm, .ref md, .ref mr, .ref ms, .ref mst, .ref mas])), (mr, .inl (K.2.1.1, 256, .inr (.inl (fun _ => 0)))), (ms, .inl (K.2.1.1, 32, .inr (.inl (fun _ => 0))))] H := hP
  have hD : va_D A [(zm, .inr (10, [.int 0, .int 0, .int 0, .int (-1), .int 0, .int 0, .int 0, .int 0, .int 255, .int 0, .int 0, .int 0, .long 256, .long 0, .int 0, .int 0, .long 0, .int 0, .int 0, .int 0, .int 0, .int 0, .int 0, .int 0, .int 0, .long 0, .long 0, .int 0, .long 0, .long 0, .long 0, .ref mt, .ref mx, .ref mla, .ref mll, .ref mli, .ref mlr, .ref mk, .ref mm, .ref md, .ref mr, .ref ms, .ref mst, .ref mas])), (mr, .inl (K.2.1.1, 256, .inr (.inl (fun _ => 0)))), (ms, .inl (K.2.1.1, 32, .inr (.inl (fun _ => 0))))] := hD
  refine W.cs (cells' := 0) (slots' := 0) rfl rfl ?_
  exact mx_rv F hr hlk hP hD hS () [] rfl (by decide) trivial (by decide) (by decide) d_Mod_back_9
