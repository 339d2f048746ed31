set_option maxHeartbeats 4000000 in
set_option maxRecDepth 100000 in
theorem c_Mix_punch (l : Launch) (K : mx_K) (x : Nat) (v : Int32) (t : Nat) (me : Nat) (rg : Nat) (sm : Nat) (ma : Nat) (f : Nat → Int32) (n : Nat) (sz : Nat) (hn : n ≤ 1596) : mx_V l y_Mix_punch b_Mix_punch 3 { frames := 0, cells := 0, slots := 0, locals := 0 } K [.ref x, .int v] [(x, .inr (0, [.int (nI n), .ref t, .ref me, .ref rg, .ref sm, .ref ma])), (t, .inl (K.2.1.2.2.1, 1600, .inl f))] sz (fun u : (Nat → Int32) => True) (fun u : (Nat → Int32) => [(x, .inr (0, [.int (nI (n + 1 + 1 + 1 + 1)), .ref t, .ref me, .ref rg, .ref sm, .ref ma])), (t, .inl (K.2.1.2.2.1, 1600, .inl u))]) := by
  refine mx_of (by decide) (Nat.le_of_ble_eq_true rfl) ?_
  intro p e s m below meth c A ls H locs hAe F hr hlk hin hsz hP hD hS hl
  rw [hAe]
  have hl : lv_has ls 3 [(0, .ref x), (1, .int v)] := hl
  obtain ⟨hx, hb, hml, hown, hT, hK, hN, hE, hA⟩ := id F
  refine lv_bipush (v := 24) hx hb d_Mix_punch_0 (by decide) ?_
  refine lv_istore_n (lv' := [(2, .int 24), (0, .ref x), (1, .int v)]) hx hb d_Mix_punch_2 rfl hl (by decide) rfl (fun ls hl => ?_)
  refine lv_iload_n hx hb d_Mix_punch_3 rfl (lv_at hl 0 rfl) ?_
  refine lv_if_lt (tgt := 52) hx hb d_Mix_punch_4 (by decide) (fun h => absurd h (by decide)) (fun _ => ?_)
  refine lv_aload_n hx hb d_Mix_punch_7 rfl (lv_at hl 1 rfl) ?_
  refine va_get (D := K.1) (ci := 0) (v := .int (nI n)) (C := R_Mix) (T := T_Mix) (N := 6) hx hb hT in_Mix hown hK hP 0 rfl rfl 0 (by decide) (hT _ k_386) (fun _ h9 => h9) rfl d_Mix_punch_8 ?_
  refine lv_aload_n hx hb d_Mix_punch_11 rfl (lv_at hl 1 rfl) ?_
  refine va_get (D := K.1) (ci := 0) (v := .ref t) (C := R_Mix) (T := T_Mix) (N := 6) hx hb hT in_Mix hown hK hP 0 rfl rfl 1 (by decide) (hT _ k_381) (fun _ h9 => h9) rfl d_Mix_punch_12 ?_
  refine va_alen (v := 1600) hx hb hK hP 1 2 rfl rfl rfl d_Mix_punch_15 ?_
  refine lv_icmp_ge (tgt := 46) hx hb d_Mix_punch_16 (by decide) (fun h => absurd h (nI_ge (a := n) (b := 1600) (by omega) (by omega))) (fun h2 => ?_)
  refine lv_aload_n hx hb d_Mix_punch_19 rfl (lv_at hl 1 rfl) ?_
  refine va_get (D := K.1) (ci := 0) (v := .ref t) (C := R_Mix) (T := T_Mix) (N := 6) hx hb hT in_Mix hown hK hP 0 rfl rfl 1 (by decide) (hT _ k_381) (fun _ h9 => h9) rfl d_Mix_punch_20 ?_
  refine lv_aload_n hx hb d_Mix_punch_23 rfl (lv_at hl 1 rfl) ?_
  refine va_get (D := K.1) (ci := 0) (v := .int (nI n)) (C := R_Mix) (T := T_Mix) (N := 6) hx hb hT in_Mix hown hK hP 0 rfl rfl 0 (by decide) (hT _ k_386) (fun _ h9 => h9) rfl d_Mix_punch_24 ?_
  refine lv_iload_n hx hb d_Mix_punch_27 rfl (lv_at hl 2 rfl) ?_
  refine lv_iload_n hx hb d_Mix_punch_28 rfl (lv_at hl 0 rfl) ?_
  refine lv_iushr (v := (v.toUInt32 >>> ((24 : Int32).toUInt32 &&& Int32.toUInt32 31)).toInt32) hx hb d_Mix_punch_29 rfl ?_
  refine lv_sipush (v := 255) hx hb d_Mix_punch_30 (by decide) ?_
  refine lv_iand hx hb d_Mix_punch_33 ?_
  refine lv_i2c (v := ((((v.toUInt32 >>> ((24 : Int32).toUInt32 &&& Int32.toUInt32 31)).toInt32) &&& (255 : Int32)).toUInt32 % 65536).toInt32) hx hb d_Mix_punch_34 rfl ?_
  refine va_cast hx hb hK hP hD hS 1 2 rfl rfl (i := nI n) (x := ((((v.toUInt32 >>> ((24 : Int32).toUInt32 &&& Int32.toUInt32 31)).toInt32) &&& (255 : Int32)).toUInt32 % 65536).toInt32) (vp_in_nI (n := n) (N := 1600) (by omega) (by decide)) d_Mix_punch_35 (fun H locs hP hD hS => ?_)
  have hP : va_P K.1 mx_cl [(x, .inr (0, [.int (nI n), .ref t, .ref me, .ref rg, .ref sm, .ref ma])), (t, .inl (K.2.1.2.2.1, 1600, .inl (upd f (nI n).toNatClampNeg (vp_nar .char (((((v.toUInt32 >>> ((24 : Int32).toUInt32 &&& Int32.toUInt32 31)).toInt32) &&& (255 : Int32)).toUInt32 % 65536).toInt32)))))] H := hP
  have hD : va_D A [(x, .inr (0, [.int (nI n), .ref t, .ref me, .ref rg, .ref sm, .ref ma])), (t, .inl (K.2.1.2.2.1, 1600, .inl (upd f (nI n).toNatClampNeg (vp_nar .char (((((v.toUInt32 >>> ((24 : Int32).toUInt32 &&& Int32.toUInt32 31)).toInt32) &&& (255 : Int32)).toUInt32 % 65536).toInt32)))))] := hD
  generalize ef3 : upd f (nI n).toNatClampNeg (vp_nar .char (((((v.toUInt32 >>> ((24 : Int32).toUInt32 &&& Int32.toUInt32 31)).toInt32) &&& (255 : Int32)).toUInt32 % 65536).toInt32)) = f3 at hP hD
  refine lv_aload_n hx hb d_Mix_punch_36 rfl (lv_at hl 1 rfl) ?_
  refine lv_dup hx hb d_Mix_punch_37 rfl ?_
  refine va_get (D := K.1) (ci := 0) (v := .int (nI n)) (C := R_Mix) (T := T_Mix) (N := 6) hx hb hT in_Mix hown hK hP 0 rfl rfl 0 (by decide) (hT _ k_386) (fun _ h9 => h9) rfl d_Mix_punch_38 ?_
  refine lv_iconst (v := 1) hx hb d_Mix_punch_41 (by decide) ?_
  refine lv_iadd hx hb d_Mix_punch_42 ?_
  refine lv_topi (fun z4 ez4 => ?_)
  obtain rfl : z4 = nI (n + 1) := ez4.trans (nI_add n 1)
  refine va_put (D := K.1) (ci := 0) (v := .int (nI (n + 1))) (ty := .int) (C := R_Mix) (T := T_Mix) (N := 6) hx hb hT in_Mix t_Mix t_Mix_ok n_Mix hown hK hP hD hS 0 rfl rfl 0 (by decide) (hT _ k_386) (fun _ h9 => h9) rfl (by decide +kernel) rfl rfl (Nat.le_of_ble_eq_true rfl) d_Mix_punch_43 (fun H locs hP hD hS => ?_)
  have hP : va_P K.1 mx_cl [(x, .inr (0, [.int (nI (n + 1)), .ref t, .ref me, .ref rg, .ref sm, .ref ma])), (t, .inl (K.2.1.2.2.1, 1600, .inl f3))] H := hP
  have hD : va_D A [(x, .inr (0, [.int (nI (n + 1)), .ref t, .ref me, .ref rg, .ref sm, .ref ma])), (t, .inl (K.2.1.2.2.1, 1600, .inl f3))] := hD
  refine lv_iinc (lv' := [(2, .int 16), (0, .ref x), (1, .int v)]) (v := 16) (k := 0) hx hb d_Mix_punch_46 hl rfl (by decide) (by decide) rfl (fun ls hl => ?_)
  refine lv_goto (tgt := 3) hx hb d_Mix_punch_49 (by decide) ?_
  refine lv_iload_n hx hb d_Mix_punch_3 rfl (lv_at hl 0 rfl) ?_
  refine lv_if_lt (tgt := 52) hx hb d_Mix_punch_4 (by decide) (fun h => absurd h (by decide)) (fun _ => ?_)
  refine lv_aload_n hx hb d_Mix_punch_7 rfl (lv_at hl 1 rfl) ?_
  refine va_get (D := K.1) (ci := 0) (v := .int (nI (n + 1))) (C := R_Mix) (T := T_Mix) (N := 6) hx hb hT in_Mix hown hK hP 0 rfl rfl 0 (by decide) (hT _ k_386) (fun _ h9 => h9) rfl d_Mix_punch_8 ?_
  refine lv_aload_n hx hb d_Mix_punch_11 rfl (lv_at hl 1 rfl) ?_
  refine va_get (D := K.1) (ci := 0) (v := .ref t) (C := R_Mix) (T := T_Mix) (N := 6) hx hb hT in_Mix hown hK hP 0 rfl rfl 1 (by decide) (hT _ k_381) (fun _ h9 => h9) rfl d_Mix_punch_12 ?_
  refine va_alen (v := 1600) hx hb hK hP 1 2 rfl rfl rfl d_Mix_punch_15 ?_
  refine lv_icmp_ge (tgt := 46) hx hb d_Mix_punch_16 (by decide) (fun h => absurd h (nI_ge (a := (n + 1)) (b := 1600) (by omega) (by omega))) (fun h6 => ?_)
  refine lv_aload_n hx hb d_Mix_punch_19 rfl (lv_at hl 1 rfl) ?_
  refine va_get (D := K.1) (ci := 0) (v := .ref t) (C := R_Mix) (T := T_Mix) (N := 6) hx hb hT in_Mix hown hK hP 0 rfl rfl 1 (by decide) (hT _ k_381) (fun _ h9 => h9) rfl d_Mix_punch_20 ?_
  refine lv_aload_n hx hb d_Mix_punch_23 rfl (lv_at hl 1 rfl) ?_
  refine va_get (D := K.1) (ci := 0) (v := .int (nI (n + 1))) (C := R_Mix) (T := T_Mix) (N := 6) hx hb hT in_Mix hown hK hP 0 rfl rfl 0 (by decide) (hT _ k_386) (fun _ h9 => h9) rfl d_Mix_punch_24 ?_
  refine lv_iload_n hx hb d_Mix_punch_27 rfl (lv_at hl 2 rfl) ?_
  refine lv_iload_n hx hb d_Mix_punch_28 rfl (lv_at hl 0 rfl) ?_
  refine lv_iushr (v := (v.toUInt32 >>> ((16 : Int32).toUInt32 &&& Int32.toUInt32 31)).toInt32) hx hb d_Mix_punch_29 rfl ?_
  refine lv_sipush (v := 255) hx hb d_Mix_punch_30 (by decide) ?_
  refine lv_iand hx hb d_Mix_punch_33 ?_
  refine lv_i2c (v := ((((v.toUInt32 >>> ((16 : Int32).toUInt32 &&& Int32.toUInt32 31)).toInt32) &&& (255 : Int32)).toUInt32 % 65536).toInt32) hx hb d_Mix_punch_34 rfl ?_
  refine va_cast hx hb hK hP hD hS 1 2 rfl rfl (i := nI (n + 1)) (x := ((((v.toUInt32 >>> ((16 : Int32).toUInt32 &&& Int32.toUInt32 31)).toInt32) &&& (255 : Int32)).toUInt32 % 65536).toInt32) (vp_in_nI (n := (n + 1)) (N := 1600) (by omega) (by decide)) d_Mix_punch_35 (fun H locs hP hD hS => ?_)
  have hP : va_P K.1 mx_cl [(x, .inr (0, [.int (nI (n + 1)), .ref t, .ref me, .ref rg, .ref sm, .ref ma])), (t, .inl (K.2.1.2.2.1, 1600, .inl (upd f3 (nI (n + 1)).toNatClampNeg (vp_nar .char (((((v.toUInt32 >>> ((16 : Int32).toUInt32 &&& Int32.toUInt32 31)).toInt32) &&& (255 : Int32)).toUInt32 % 65536).toInt32)))))] H := hP
  have hD : va_D A [(x, .inr (0, [.int (nI (n + 1)), .ref t, .ref me, .ref rg, .ref sm, .ref ma])), (t, .inl (K.2.1.2.2.1, 1600, .inl (upd f3 (nI (n + 1)).toNatClampNeg (vp_nar .char (((((v.toUInt32 >>> ((16 : Int32).toUInt32 &&& Int32.toUInt32 31)).toInt32) &&& (255 : Int32)).toUInt32 % 65536).toInt32)))))] := hD
  generalize ef7 : upd f3 (nI (n + 1)).toNatClampNeg (vp_nar .char (((((v.toUInt32 >>> ((16 : Int32).toUInt32 &&& Int32.toUInt32 31)).toInt32) &&& (255 : Int32)).toUInt32 % 65536).toInt32)) = f7 at hP hD
  refine lv_aload_n hx hb d_Mix_punch_36 rfl (lv_at hl 1 rfl) ?_
  refine lv_dup hx hb d_Mix_punch_37 rfl ?_
  refine va_get (D := K.1) (ci := 0) (v := .int (nI (n + 1))) (C := R_Mix) (T := T_Mix) (N := 6) hx hb hT in_Mix hown hK hP 0 rfl rfl 0 (by decide) (hT _ k_386) (fun _ h9 => h9) rfl d_Mix_punch_38 ?_
  refine lv_iconst (v := 1) hx hb d_Mix_punch_41 (by decide) ?_
  refine lv_iadd hx hb d_Mix_punch_42 ?_
  refine lv_topi (fun z8 ez8 => ?_)
  obtain rfl : z8 = nI ((n + 1) + 1) := ez8.trans (nI_add (n + 1) 1)
  refine va_put (D := K.1) (ci := 0) (v := .int (nI ((n + 1) + 1))) (ty := .int) (C := R_Mix) (T := T_Mix) (N := 6) hx hb hT in_Mix t_Mix t_Mix_ok n_Mix hown hK hP hD hS 0 rfl rfl 0 (by decide) (hT _ k_386) (fun _ h9 => h9) rfl (by decide +kernel) rfl rfl (Nat.le_of_ble_eq_true rfl) d_Mix_punch_43 (fun H locs hP hD hS => ?_)
  have hP : va_P K.1 mx_cl [(x, .inr (0, [.int (nI ((n + 1) + 1)), .ref t, .ref me, .ref rg, .ref sm, .ref ma])), (t, .inl (K.2.1.2.2.1, 1600, .inl f7))] H := hP
  have hD : va_D A [(x, .inr (0, [.int (nI ((n + 1) + 1)), .ref t, .ref me, .ref rg, .ref sm, .ref ma])), (t, .inl (K.2.1.2.2.1, 1600, .inl f7))] := hD
  refine lv_iinc (lv' := [(2, .int 8), (0, .ref x), (1, .int v)]) (v := 8) (k := 0) hx hb d_Mix_punch_46 hl rfl (by decide) (by decide) rfl (fun ls hl => ?_)
  refine lv_goto (tgt := 3) hx hb d_Mix_punch_49 (by decide) ?_
  refine lv_iload_n hx hb d_Mix_punch_3 rfl (lv_at hl 0 rfl) ?_
  refine lv_if_lt (tgt := 52) hx hb d_Mix_punch_4 (by decide) (fun h => absurd h (by decide)) (fun _ => ?_)
  refine lv_aload_n hx hb d_Mix_punch_7 rfl (lv_at hl 1 rfl) ?_
  refine va_get (D := K.1) (ci := 0) (v := .int (nI ((n + 1) + 1))) (C := R_Mix) (T := T_Mix) (N := 6) hx hb hT in_Mix hown hK hP 0 rfl rfl 0 (by decide) (hT _ k_386) (fun _ h9 => h9) rfl d_Mix_punch_8 ?_
  refine lv_aload_n hx hb d_Mix_punch_11 rfl (lv_at hl 1 rfl) ?_
  refine va_get (D := K.1) (ci := 0) (v := .ref t) (C := R_Mix) (T := T_Mix) (N := 6) hx hb hT in_Mix hown hK hP 0 rfl rfl 1 (by decide) (hT _ k_381) (fun _ h9 => h9) rfl d_Mix_punch_12 ?_
  refine va_alen (v := 1600) hx hb hK hP 1 2 rfl rfl rfl d_Mix_punch_15 ?_
  refine lv_icmp_ge (tgt := 46) hx hb d_Mix_punch_16 (by decide) (fun h => absurd h (nI_ge (a := ((n + 1) + 1)) (b := 1600) (by omega) (by omega))) (fun h10 => ?_)
  refine lv_aload_n hx hb d_Mix_punch_19 rfl (lv_at hl 1 rfl) ?_
  refine va_get (D := K.1) (ci := 0) (v := .ref t) (C := R_Mix) (T := T_Mix) (N := 6) hx hb hT in_Mix hown hK hP 0 rfl rfl 1 (by decide) (hT _ k_381) (fun _ h9 => h9) rfl d_Mix_punch_20 ?_
  refine lv_aload_n hx hb d_Mix_punch_23 rfl (lv_at hl 1 rfl) ?_
  refine va_get (D := K.1) (ci := 0) (v := .int (nI ((n + 1) + 1))) (C := R_Mix) (T := T_Mix) (N := 6) hx hb hT in_Mix hown hK hP 0 rfl rfl 0 (by decide) (hT _ k_386) (fun _ h9 => h9) rfl d_Mix_punch_24 ?_
  refine lv_iload_n hx hb d_Mix_punch_27 rfl (lv_at hl 2 rfl) ?_
  refine lv_iload_n hx hb d_Mix_punch_28 rfl (lv_at hl 0 rfl) ?_
  refine lv_iushr (v := (v.toUInt32 >>> ((8 : Int32).toUInt32 &&& Int32.toUInt32 31)).toInt32) hx hb d_Mix_punch_29 rfl ?_
  refine lv_sipush (v := 255) hx hb d_Mix_punch_30 (by decide) ?_
  refine lv_iand hx hb d_Mix_punch_33 ?_
  refine lv_i2c (v := ((((v.toUInt32 >>> ((8 : Int32).toUInt32 &&& Int32.toUInt32 31)).toInt32) &&& (255 : Int32)).toUInt32 % 65536).toInt32) hx hb d_Mix_punch_34 rfl ?_
  refine va_cast hx hb hK hP hD hS 1 2 rfl rfl (i := nI ((n + 1) + 1)) (x := ((((v.toUInt32 >>> ((8 : Int32).toUInt32 &&& Int32.toUInt32 31)).toInt32) &&& (255 : Int32)).toUInt32 % 65536).toInt32) (vp_in_nI (n := ((n + 1) + 1)) (N := 1600) (by omega) (by decide)) d_Mix_punch_35 (fun H locs hP hD hS => ?_)
  have hP : va_P K.1 mx_cl [(x, .inr (0, [.int (nI ((n + 1) + 1)), .ref t, .ref me, .ref rg, .ref sm, .ref ma])), (t, .inl (K.2.1.2.2.1, 1600, .inl (upd f7 (nI ((n + 1) + 1)).toNatClampNeg (vp_nar .char (((((v.toUInt32 >>> ((8 : Int32).toUInt32 &&& Int32.toUInt32 31)).toInt32) &&& (255 : Int32)).toUInt32 % 65536).toInt32)))))] H := hP
  have hD : va_D A [(x, .inr (0, [.int (nI ((n + 1) + 1)), .ref t, .ref me, .ref rg, .ref sm, .ref ma])), (t, .inl (K.2.1.2.2.1, 1600, .inl (upd f7 (nI ((n + 1) + 1)).toNatClampNeg (vp_nar .char (((((v.toUInt32 >>> ((8 : Int32).toUInt32 &&& Int32.toUInt32 31)).toInt32) &&& (255 : Int32)).toUInt32 % 65536).toInt32)))))] := hD
  generalize ef11 : upd f7 (nI ((n + 1) + 1)).toNatClampNeg (vp_nar .char (((((v.toUInt32 >>> ((8 : Int32).toUInt32 &&& Int32.toUInt32 31)).toInt32) &&& (255 : Int32)).toUInt32 % 65536).toInt32)) = f11 at hP hD
  refine lv_aload_n hx hb d_Mix_punch_36 rfl (lv_at hl 1 rfl) ?_
  refine lv_dup hx hb d_Mix_punch_37 rfl ?_
  refine va_get (D := K.1) (ci := 0) (v := .int (nI ((n + 1) + 1))) (C := R_Mix) (T := T_Mix) (N := 6) hx hb hT in_Mix hown hK hP 0 rfl rfl 0 (by decide) (hT _ k_386) (fun _ h9 => h9) rfl d_Mix_punch_38 ?_
  refine lv_iconst (v := 1) hx hb d_Mix_punch_41 (by decide) ?_
  refine lv_iadd hx hb d_Mix_punch_42 ?_
  refine lv_topi (fun z12 ez12 => ?_)
  obtain rfl : z12 = nI (((n + 1) + 1) + 1) := ez12.trans (nI_add ((n + 1) + 1) 1)
  refine va_put (D := K.1) (ci := 0) (v := .int (nI (((n + 1) + 1) + 1))) (ty := .int) (C := R_Mix) (T := T_Mix) (N := 6) hx hb hT in_Mix t_Mix t_Mix_ok n_Mix hown hK hP hD hS 0 rfl rfl 0 (by decide) (hT _ k_386) (fun _ h9 => h9) rfl (by decide +kernel) rfl rfl (Nat.le_of_ble_eq_true rfl) d_Mix_punch_43 (fun H locs hP hD hS => ?_)
  have hP : va_P K.1 mx_cl [(x, .inr (0, [.int (nI (((n + 1) + 1) + 1)), .ref t, .ref me, .ref rg, .ref sm, .ref ma])), (t, .inl (K.2.1.2.2.1, 1600, .inl f11))] H := hP
  have hD : va_D A [(x, .inr (0, [.int (nI (((n + 1) + 1) + 1)), .ref t, .ref me, .ref rg, .ref sm, .ref ma])), (t, .inl (K.2.1.2.2.1, 1600, .inl f11))] := hD
  refine lv_iinc (lv' := [(2, .int 0), (0, .ref x), (1, .int v)]) (v := 0) (k := 0) hx hb d_Mix_punch_46 hl rfl (by decide) (by decide) rfl (fun ls hl => ?_)
  refine lv_goto (tgt := 3) hx hb d_Mix_punch_49 (by decide) ?_
  refine lv_iload_n hx hb d_Mix_punch_3 rfl (lv_at hl 0 rfl) ?_
  refine lv_if_lt (tgt := 52) hx hb d_Mix_punch_4 (by decide) (fun h => absurd h (by decide)) (fun _ => ?_)
  refine lv_aload_n hx hb d_Mix_punch_7 rfl (lv_at hl 1 rfl) ?_
  refine va_get (D := K.1) (ci := 0) (v := .int (nI (((n + 1) + 1) + 1))) (C := R_Mix) (T := T_Mix) (N := 6) hx hb hT in_Mix hown hK hP 0 rfl rfl 0 (by decide) (hT _ k_386) (fun _ h9 => h9) rfl d_Mix_punch_8 ?_
  refine lv_aload_n hx hb d_Mix_punch_11 rfl (lv_at hl 1 rfl) ?_
  refine va_get (D := K.1) (ci := 0) (v := .ref t) (C := R_Mix) (T := T_Mix) (N := 6) hx hb hT in_Mix hown hK hP 0 rfl rfl 1 (by decide) (hT _ k_381) (fun _ h9 => h9) rfl d_Mix_punch_12 ?_
  refine va_alen (v := 1600) hx hb hK hP 1 2 rfl rfl rfl d_Mix_punch_15 ?_
  refine lv_icmp_ge (tgt := 46) hx hb d_Mix_punch_16 (by decide) (fun h => absurd h (nI_ge (a := (((n + 1) + 1) + 1)) (b := 1600) (by omega) (by omega))) (fun h14 => ?_)
  refine lv_aload_n hx hb d_Mix_punch_19 rfl (lv_at hl 1 rfl) ?_
  refine va_get (D := K.1) (ci := 0) (v := .ref t) (C := R_Mix) (T := T_Mix) (N := 6) hx hb hT in_Mix hown hK hP 0 rfl rfl 1 (by decide) (hT _ k_381) (fun _ h9 => h9) rfl d_Mix_punch_20 ?_
  refine lv_aload_n hx hb d_Mix_punch_23 rfl (lv_at hl 1 rfl) ?_
  refine va_get (D := K.1) (ci := 0) (v := .int (nI (((n + 1) + 1) + 1))) (C := R_Mix) (T := T_Mix) (N := 6) hx hb hT in_Mix hown hK hP 0 rfl rfl 0 (by decide) (hT _ k_386) (fun _ h9 => h9) rfl d_Mix_punch_24 ?_
  refine lv_iload_n hx hb d_Mix_punch_27 rfl (lv_at hl 2 rfl) ?_
  refine lv_iload_n hx hb d_Mix_punch_28 rfl (lv_at hl 0 rfl) ?_
  refine lv_iushr (v := (v.toUInt32 >>> ((0 : Int32).toUInt32 &&& Int32.toUInt32 31)).toInt32) hx hb d_Mix_punch_29 rfl ?_
  refine lv_sipush (v := 255) hx hb d_Mix_punch_30 (by decide) ?_
  refine lv_iand hx hb d_Mix_punch_33 ?_
  refine lv_i2c (v := ((((v.toUInt32 >>> ((0 : Int32).toUInt32 &&& Int32.toUInt32 31)).toInt32) &&& (255 : Int32)).toUInt32 % 65536).toInt32) hx hb d_Mix_punch_34 rfl ?_
  refine va_cast hx hb hK hP hD hS 1 2 rfl rfl (i := nI (((n + 1) + 1) + 1)) (x := ((((v.toUInt32 >>> ((0 : Int32).toUInt32 &&& Int32.toUInt32 31)).toInt32) &&& (255 : Int32)).toUInt32 % 65536).toInt32) (vp_in_nI (n := (((n + 1) + 1) + 1)) (N := 1600) (by omega) (by decide)) d_Mix_punch_35 (fun H locs hP hD hS => ?_)
  have hP : va_P K.1 mx_cl [(x, .inr (0, [.int (nI (((n + 1) + 1) + 1)), .ref t, .ref me, .ref rg, .ref sm, .ref ma])), (t, .inl (K.2.1.2.2.1, 1600, .inl (upd f11 (nI (((n + 1) + 1) + 1)).toNatClampNeg (vp_nar .char (((((v.toUInt32 >>> ((0 : Int32).toUInt32 &&& Int32.toUInt32 31)).toInt32) &&& (255 : Int32)).toUInt32 % 65536).toInt32)))))] H := hP
  have hD : va_D A [(x, .inr (0, [.int (nI (((n + 1) + 1) + 1)), .ref t, .ref me, .ref rg, .ref sm, .ref ma])), (t, .inl (K.2.1.2.2.1, 1600, .inl (upd f11 (nI (((n + 1) + 1) + 1)).toNatClampNeg (vp_nar .char (((((v.toUInt32 >>> ((0 : Int32).toUInt32 &&& Int32.toUInt32 31)).toInt32) &&& (255 : Int32)).toUInt32 % 65536).toInt32)))))] := hD
  generalize ef15 : upd f11 (nI (((n + 1) + 1) + 1)).toNatClampNeg (vp_nar .char (((((v.toUInt32 >>> ((0 : Int32).toUInt32 &&& Int32.toUInt32 31)).toInt32) &&& (255 : Int32)).toUInt32 % 65536).toInt32)) = f15 at hP hD
  refine lv_aload_n hx hb d_Mix_punch_36 rfl (lv_at hl 1 rfl) ?_
  refine lv_dup hx hb d_Mix_punch_37 rfl ?_
  refine va_get (D := K.1) (ci := 0) (v := .int (nI (((n + 1) + 1) + 1))) (C := R_Mix) (T := T_Mix) (N := 6) hx hb hT in_Mix hown hK hP 0 rfl rfl 0 (by decide) (hT _ k_386) (fun _ h9 => h9) rfl d_Mix_punch_38 ?_
  refine lv_iconst (v := 1) hx hb d_Mix_punch_41 (by decide) ?_
  refine lv_iadd hx hb d_Mix_punch_42 ?_
  refine lv_topi (fun z16 ez16 => ?_)
  obtain rfl : z16 = nI ((((n + 1) + 1) + 1) + 1) := ez16.trans (nI_add (((n + 1) + 1) + 1) 1)
  refine va_put (D := K.1) (ci := 0) (v := .int (nI ((((n + 1) + 1) + 1) + 1))) (ty := .int) (C := R_Mix) (T := T_Mix) (N := 6) hx hb hT in_Mix t_Mix t_Mix_ok n_Mix hown hK hP hD hS 0 rfl rfl 0 (by decide) (hT _ k_386) (fun _ h9 => h9) rfl (by decide +kernel) rfl rfl (Nat.le_of_ble_eq_true rfl) d_Mix_punch_43 (fun H locs hP hD hS => ?_)
  have hP : va_P K.1 mx_cl [(x, .inr (0, [.int (nI ((((n + 1) + 1) + 1) + 1)), .ref t, .ref me, .ref rg, .ref sm, .ref ma])), (t, .inl (K.2.1.2.2.1, 1600, .inl f15))] H := hP
  have hD : va_D A [(x, .inr (0, [.int (nI ((((n + 1) + 1) + 1) + 1)), .ref t, .ref me, .ref rg, .ref sm, .ref ma])), (t, .inl (K.2.1.2.2.1, 1600, .inl f15))] := hD
  refine lv_iinc (lv' := [(2, .int (-8)), (0, .ref x), (1, .int v)]) (v := (-8)) (k := 0) hx hb d_Mix_punch_46 hl rfl (by decide) (by decide) rfl (fun ls hl => ?_)
  refine lv_goto (tgt := 3) hx hb d_Mix_punch_49 (by decide) ?_
  refine lv_iload_n hx hb d_Mix_punch_3 rfl (lv_at hl 0 rfl) ?_
  refine lv_if_lt (tgt := 52) hx hb d_Mix_punch_4 (by decide) (fun _ => ?_) (fun h => absurd h (by decide))
  exact mx_rv F hr hlk hP hD hS (f15) [0, 1] rfl (by decide) trivial (by decide) (by decide) d_Mix_punch_52
set_option maxHeartbeats 4000000 in
set_option maxRecDepth 100000 in
theorem c_Mix_feed (l : Launch) (K : mx_K) (x : Nat) (a1 : Int32) (a2 : Int32) (a3 : Int32) (a4 : Int32) (a5 : Int32) (t : Nat) (me : Nat) (rg : Nat) (sm : Nat) (ma : Nat) (sz : Nat) : mx_I l y_Mix_feed b_Mix_feed 6 .boolean { frames := 1, cells := 0, slots := 0, locals := 22 } K [.ref x, .int a1, .int a2, .int a3, .int a4, .int a5] [(x, .inr (0, [.int 0, .ref t, .ref me, .ref rg, .ref sm, .ref ma])), (t, .inl (K.2.1.2.2.1, 1600, .inl (fun _ => 0)))] sz (fun (r : Int32) (u : Unit) => r = 1) (fun u : Unit => []) := by
  refine mx_of (by decide) (Nat.le_of_ble_eq_true rfl) ?_
  intro p e s m below meth c A ls H locs hAe F hr hlk hin hsz hP hD hS hl
  rw [hAe]
  have hl : lv_has ls 6 [(0, .ref x), (1, .int a1), (2, .int a2), (3, .int a3), (4, .int a4), (5, .int a5)] := hl
  obtain ⟨hx, hb, hml, hown, hT, hK, hN, hE, hA⟩ := id F
  refine lv_aload_n hx hb d_Mix_feed_0 rfl (lv_at hl 0 rfl) ?_
  refine va_get (D := K.1) (ci := 0) (v := .int 0) (C := R_Mix) (T := T_Mix) (N := 6) hx hb hT in_Mix hown hK hP 0 rfl rfl 0 (by decide) (hT _ k_386) (fun _ h9 => h9) rfl d_Mix_feed_1 ?_
  refine lv_sipush (v := 1580) hx hb d_Mix_feed_4 (by decide) ?_
  refine lv_icmp_le (tgt := 12) hx hb d_Mix_feed_7 (by decide) (fun _ => ?_) (fun h => absurd h (by decide))
  refine lv_aload_n hx hb d_Mix_feed_12 rfl (lv_at hl 0 rfl) ?_
  refine lv_iload_n hx hb d_Mix_feed_13 rfl (lv_at hl 1 rfl) ?_
  refine mx_cv (wr := []) F (mx_runV (As := [.int a1]) (rest := []) (n := 1) F (c_Mix_punch l K x a1 t me rg sm ma (fun _ => 0) 0 H.size (by omega)) k_407 (Or.inl k_404) k_406 s_Mix_punch k_1 p_Mix_punch rfl rfl hP hD hS [0, 1] rfl (by decide) (va_recv (q := (R_Mix, T_Mix, 6)) (ci := 0) (q0 := 0) hK hP rfl rfl) rfl hl.1 rfl (Nat.le_of_ble_eq_true rfl) ⟨by decide, by decide⟩ ⟨by decide, by decide⟩ d_Mix_feed_14) hP hD hS [0, 1] [] rfl rfl (by decide) (by decide) (fun u3 H locs hq2 hP hD hS => ?_)
  obtain ⟨q5, rfl⟩ : ∃ z, z = u3 := ⟨_, rfl⟩
  have hP : va_P K.1 mx_cl [(x, .inr (0, [.int (nI (0 + 1 + 1 + 1 + 1)), .ref t, .ref me, .ref rg, .ref sm, .ref ma])), (t, .inl (K.2.1.2.2.1, 1600, .inl q5))] H := hP
  have hD : va_D A [(x, .inr (0, [.int (nI (0 + 1 + 1 + 1 + 1)), .ref t, .ref me, .ref rg, .ref sm, .ref ma])), (t, .inl (K.2.1.2.2.1, 1600, .inl q5))] := hD
  refine W.cs (cells' := 0) (slots' := 0) rfl rfl ?_
  refine lv_aload_n hx hb d_Mix_feed_17 rfl (lv_at hl 0 rfl) ?_
  refine lv_iload_n hx hb d_Mix_feed_18 rfl (lv_at hl 2 rfl) ?_
  refine mx_cv (wr := []) F (mx_runV (As := [.int a2]) (rest := []) (n := 1) F (c_Mix_punch l K x a2 t me rg sm ma q5 (0 + 1 + 1 + 1 + 1) H.size (by omega)) k_407 (Or.inl k_404) k_406 s_Mix_punch k_1 p_Mix_punch rfl rfl hP hD hS [0, 1] rfl (by decide) (va_recv (q := (R_Mix, T_Mix, 6)) (ci := 0) (q0 := 0) hK hP rfl rfl) rfl hl.1 rfl (Nat.le_of_ble_eq_true rfl) ⟨by decide, by decide⟩ ⟨by decide, by decide⟩ d_Mix_feed_19) hP hD hS [0, 1] [] rfl rfl (by decide) (by decide) (fun u7 H locs hq6 hP hD hS => ?_)
  obtain ⟨q9, rfl⟩ : ∃ z, z = u7 := ⟨_, rfl⟩
  have hP : va_P K.1 mx_cl [(x, .inr (0, [.int (nI ((0 + 1 + 1 + 1 + 1) + 1 + 1 + 1 + 1)), .ref t, .ref me, .ref rg, .ref sm, .ref ma])), (t, .inl (K.2.1.2.2.1, 1600, .inl q9))] H := hP
  have hD : va_D A [(x, .inr (0, [.int (nI ((0 + 1 + 1 + 1 + 1) + 1 + 1 + 1 + 1)), .ref t, .ref me, .ref rg, .ref sm, .ref ma])), (t, .inl (K.2.1.2.2.1, 1600, .inl q9))] := hD
  refine W.cs (cells' := 0) (slots' := 0) rfl rfl ?_
  refine lv_aload_n hx hb d_Mix_feed_22 rfl (lv_at hl 0 rfl) ?_
  refine lv_iload_n hx hb d_Mix_feed_23 rfl (lv_at hl 3 rfl) ?_
  refine mx_cv (wr := []) F (mx_runV (As := [.int a3]) (rest := []) (n := 1) F (c_Mix_punch l K x a3 t me rg sm ma q9 ((0 + 1 + 1 + 1 + 1) + 1 + 1 + 1 + 1) H.size (by omega)) k_407 (Or.inl k_404) k_406 s_Mix_punch k_1 p_Mix_punch rfl rfl hP hD hS [0, 1] rfl (by decide) (va_recv (q := (R_Mix, T_Mix, 6)) (ci := 0) (q0 := 0) hK hP rfl rfl) rfl hl.1 rfl (Nat.le_of_ble_eq_true rfl) ⟨by decide, by decide⟩ ⟨by decide, by decide⟩ d_Mix_feed_24) hP hD hS [0, 1] [] rfl rfl (by decide) (by decide) (fun u11 H locs hq10 hP hD hS => ?_)
  obtain ⟨q13, rfl⟩ : ∃ z, z = u11 := ⟨_, rfl⟩
  have hP : va_P K.1 mx_cl [(x, .inr (0, [.int (nI (((0 + 1 + 1 + 1 + 1) + 1 + 1 + 1 + 1) + 1 + 1 + 1 + 1)), .ref t, .ref me, .ref rg, .ref sm, .ref ma])), (t, .inl (K.2.1.2.2.1, 1600, .inl q13))] H := hP
  have hD : va_D A [(x, .inr (0, [.int (nI (((0 + 1 + 1 + 1 + 1) + 1 + 1 + 1 + 1) + 1 + 1 + 1 + 1)), .ref t, .ref me, .ref rg, .ref sm, .ref ma])), (t, .inl (K.2.1.2.2.1, 1600, .inl q13))] := hD
  refine W.cs (cells' := 0) (slots' := 0) rfl rfl ?_
  refine lv_aload_n hx hb d_Mix_feed_27 rfl (lv_at hl 0 rfl) ?_
  refine lv_iload hx hb d_Mix_feed_28 (lv_at hl 4 rfl) ?_
  refine mx_cv (wr := []) F (mx_runV (As := [.int a4]) (rest := []) (n := 1) F (c_Mix_punch l K x a4 t me rg sm ma q13 (((0 + 1 + 1 + 1 + 1) + 1 + 1 + 1 + 1) + 1 + 1 + 1 + 1) H.size (by omega)) k_407 (Or.inl k_404) k_406 s_Mix_punch k_1 p_Mix_punch rfl rfl hP hD hS [0, 1] rfl (by decide) (va_recv (q := (R_Mix, T_Mix, 6)) (ci := 0) (q0 := 0) hK hP rfl rfl) rfl hl.1 rfl (Nat.le_of_ble_eq_true rfl) ⟨by decide, by decide⟩ ⟨by decide, by decide⟩ d_Mix_feed_30) hP hD hS [0, 1] [] rfl rfl (by decide) (by decide) (fun u15 H locs hq14 hP hD hS => ?_)
  obtain ⟨q17, rfl⟩ : ∃ z, z = u15 := ⟨_, rfl⟩
  have hP : va_P K.1 mx_cl [(x, .inr (0, [.int (nI ((((0 + 1 + 1 + 1 + 1) + 1 + 1 + 1 + 1) + 1 + 1 + 1 + 1) + 1 + 1 + 1 + 1)), .ref t, .ref me, .ref rg, .ref sm, .ref ma])), (t, .inl (K.2.1.2.2.1, 1600, .inl q17))] H := hP
  have hD : va_D A [(x, .inr (0, [.int (nI ((((0 + 1 + 1 + 1 + 1) + 1 + 1 + 1 + 1) + 1 + 1 + 1 + 1) + 1 + 1 + 1 + 1)), .ref t, .ref me, .ref rg, .ref sm, .ref ma])), (t, .inl (K.2.1.2.2.1, 1600, .inl q17))] := hD
  refine W.cs (cells' := 0) (slots' := 0) rfl rfl ?_
  refine lv_aload_n hx hb d_Mix_feed_33 rfl (lv_at hl 0 rfl) ?_
  refine lv_iload hx hb d_Mix_feed_34 (lv_at hl 5 rfl) ?_
  refine mx_cv (wr := []) F (mx_runV (As := [.int a5]) (rest := []) (n := 1) F (c_Mix_punch l K x a5 t me rg sm ma q17 ((((0 + 1 + 1 + 1 + 1) + 1 + 1 + 1 + 1) + 1 + 1 + 1 + 1) + 1 + 1 + 1 + 1) H.size (by omega)) k_407 (Or.inl k_404) k_406 s_Mix_punch k_1 p_Mix_punch rfl rfl hP hD hS [0, 1] rfl (by decide) (va_recv (q := (R_Mix, T_Mix, 6)) (ci := 0) (q0 := 0) hK hP rfl rfl) rfl hl.1 rfl (Nat.le_of_ble_eq_true rfl) ⟨by decide, by decide⟩ ⟨by decide, by decide⟩ d_Mix_feed_36) hP hD hS [0, 1] [] rfl rfl (by decide) (by decide) (fun u19 H locs hq18 hP hD hS => ?_)
  obtain ⟨q21, rfl⟩ : ∃ z, z = u19 := ⟨_, rfl⟩
  have hP : va_P K.1 mx_cl [(x, .inr (0, [.int (nI (((((0 + 1 + 1 + 1 + 1) + 1 + 1 + 1 + 1) + 1 + 1 + 1 + 1) + 1 + 1 + 1 + 1) + 1 + 1 + 1 + 1)), .ref t, .ref me, .ref rg, .ref sm, .ref ma])), (t, .inl (K.2.1.2.2.1, 1600, .inl q21))] H := hP
  have hD : va_D A [(x, .inr (0, [.int (nI (((((0 + 1 + 1 + 1 + 1) + 1 + 1 + 1 + 1) + 1 + 1 + 1 + 1) + 1 + 1 + 1 + 1) + 1 + 1 + 1 + 1)), .ref t, .ref me, .ref rg, .ref sm, .ref ma])), (t, .inl (K.2.1.2.2.1, 1600, .inl q21))] := hD
  refine W.cs (cells' := 0) (slots' := 0) rfl rfl ?_
  refine lv_iconst (v := 1) hx hb d_Mix_feed_39 (by decide) ?_
  exact mx_ri F hr hlk (by decide) hP hD hS () [] rfl (by decide) rfl (by decide) (by decide) d_Mix_feed_40
set_option maxHeartbeats 4000000 in
set_option maxRecDepth 100000 in
theorem c_Mix_assemble (l : Launch) (K : mx_K) (x : Nat) (n : Int32) (t : Nat) (me : Nat) (rg : Nat) (sm : Nat) (ma : Nat) (lb : Nat) (li : Nat) (su : Nat) (od : Nat) (an : Nat) (im : Nat) (la : Nat) (lz : Nat) (lv : Nat) (lr : Nat) (io : Nat) (mo : Nat) (ge : Nat) (sp : Nat) (sk : Nat) (sz : Nat) : mx_I l y_Mix_assemble b_Mix_assemble 2 .int { frames := 4, cells := 0, slots := 0, locals := 101 } K [.ref x, .int n] [(x, .inr (0, [.int 0, .ref t, .ref me, .ref rg, .ref sm, .ref ma])), (sm, .inr (8, [.int 0, .int (-1), .int 0, .int 0, .ref lb, .ref li, .ref su, .ref od, .ref an, .ref im])), (lb, .inr (5, [.int 0, .ref t, .ref la, .ref lz, .ref lv, .ref lr])), (im, .inr (1, [.ref io])), (io, .inl (K.2.1.1, 512, .inr (.inl (fun _ => 0)))), (me, .inr (1, [.ref mo])), (mo, .inl (K.2.1.1, 512, .inr (.inl (fun _ => 0)))), (ma, .inr (9, [.long 256, .int 0, .int 0, .int 0, .int 0, .int 0, .int 0, .int 0, .int 0, .long 0, .long 0, .long 0, .int 0, .int 0, .ref me, .ref rg])), (rg, .inr (2, [.int 0, .int 0, .int 255, .ref ge, .ref sp, .ref sk])), (ge, .inl (K.2.1.1, 256, .inr (.inl (fun _ => 0)))), (sp, .inl (K.2.1.1, 28, .inr (.inl (fun _ => 0))))] sz (fun (r : Int32) (u : Unit) => r = mx_asm n) (fun u : Unit => []) := by
  refine mx_of (by decide) (Nat.le_of_ble_eq_true rfl) ?_
  intro p e s m below meth c A ls H locs hAe F hr hlk hin hsz hP hD hS hl
  rw [hAe]
  have hl : lv_has ls 2 [(0, .ref x), (1, .int n)] := hl
  obtain ⟨hx, hb, hml, hown, hT, hK, hN, hE, hA⟩ := id F
  refine lv_iload_n hx hb d_Mix_assemble_0 rfl (lv_at hl 1 rfl) ?_
  refine lv_if_lt (tgt := 12) hx hb d_Mix_assemble_1 (by decide) (fun h1 => ?_) (fun h1 => ?_)
  · refine lv_iconst (v := (-1)) hx hb d_Mix_assemble_12 (by decide) ?_
    exact mx_ri F hr hlk rfl hP hD hS () [] rfl (by decide) (mx_asm_lt h1) (by decide) (by decide) d_Mix_assemble_13
  · refine lv_iload_n hx hb d_Mix_assemble_4 rfl (lv_at hl 1 rfl) ?_
    refine lv_aload_n hx hb d_Mix_assemble_5 rfl (lv_at hl 0 rfl) ?_
    refine va_get (D := K.1) (ci := 0) (v := .int 0) (C := R_Mix) (T := T_Mix) (N := 6) hx hb hT in_Mix hown hK hP 0 rfl rfl 0 (by decide) (hT _ k_386) (fun _ h9 => h9) rfl d_Mix_assemble_6 ?_
    refine lv_icmp_le (tgt := 14) hx hb d_Mix_assemble_9 (by decide) (fun h9 => ?_) (fun h9 => ?_)
    · have hn0 : n = 0 := mx_n0 h1 h9
      subst hn0
      refine lv_aload_n hx hb d_Mix_assemble_14 rfl (lv_at hl 0 rfl) ?_
      refine lv_iconst (v := 0) hx hb d_Mix_assemble_15 (by decide) ?_
      refine va_put (D := K.1) (ci := 0) (v := .int 0) (ty := .int) (C := R_Mix) (T := T_Mix) (N := 6) hx hb hT in_Mix t_Mix t_Mix_ok n_Mix hown hK hP hD hS 0 rfl rfl 0 (by decide) (hT _ k_386) (fun _ h9 => h9) rfl (by decide +kernel) rfl rfl (Nat.le_of_ble_eq_true rfl) d_Mix_assemble_16 (fun H locs hP hD hS => ?_)
      have hP : va_P K.1 mx_cl [(x, .inr (0, [.int 0, .ref t, .ref me, .ref rg, .ref sm, .ref ma])), (sm, .inr (8, [.int 0, .int (-1), .int 0, .int 0, .ref lb, .ref li, .ref su, .ref od, .ref an, .ref im])), (lb, .inr (5, [.int 0, .ref t, .ref la, .ref lz, .ref lv, .ref lr])), (im, .inr (1, [.ref io])), (io, .inl (K.2.1.1, 512, .inr (.inl (fun _ => 0)))), (me, .inr (1, [.ref mo])), (mo, .inl (K.2.1.1, 512, .inr (.inl (fun _ => 0)))), (ma, .inr (9, [.long 256, .int 0, .int 0, .int 0, .int 0, .int 0, .int 0, .int 0, .int 0, .long 0, .long 0, .long 0, .int 0, .int 0, .ref me, .ref rg])), (rg, .inr (2, [.int 0, .int 0, .int 255, .ref ge, .ref sp, .ref sk])), (ge, .inl (K.2.1.1, 256, .inr (.inl (fun _ => 0)))), (sp, .inl (K.2.1.1, 28, .inr (.inl (fun _ => 0))))] H := hP
      have hD : va_D A [(x, .inr (0, [.int 0, .ref t, .ref me, .ref rg, .ref sm, .ref ma])), (sm, .inr (8, [.int 0, .int (-1), .int 0, .int 0, .ref lb, .ref li, .ref su, .ref od, .ref an, .ref im])), (lb, .inr (5, [.int 0, .ref t, .ref la, .ref lz, .ref lv, .ref lr])), (im, .inr (1, [.ref io])), (io, .inl (K.2.1.1, 512, .inr (.inl (fun _ => 0)))), (me, .inr (1, [.ref mo])), (mo, .inl (K.2.1.1, 512, .inr (.inl (fun _ => 0)))), (ma, .inr (9, [.long 256, .int 0, .int 0, .int 0, .int 0, .int 0, .int 0, .int 0, .int 0, .long 0, .long 0, .long 0, .int 0, .int 0, .ref me, .ref rg])), (rg, .inr (2, [.int 0, .int 0, .int 255, .ref ge, .ref sp, .ref sk])), (ge, .inl (K.2.1.1, 256, .inr (.inl (fun _ => 0)))), (sp, .inl (K.2.1.1, 28, .inr (.inl (fun _ => 0))))] := hD
      refine lv_aload_n hx hb d_Mix_assemble_19 rfl (lv_at hl 0 rfl) ?_
      refine va_get (D := K.1) (ci := 0) (v := .ref sm) (C := R_Mix) (T := T_Mix) (N := 6) hx hb hT in_Mix hown hK hP 0 rfl rfl 4 (by decide) (hT _ k_384) (fun _ h9 => h9) rfl d_Mix_assemble_20 ?_
      refine lv_iload_n hx hb d_Mix_assemble_23 rfl (lv_at hl 1 rfl) ?_
      refine mx_ci (wr := [(x, .inr (0, [.int 0, .ref t, .ref me, .ref rg, .ref sm, .ref ma])), (me, .inr (1, [.ref mo])), (mo, .inl (K.2.1.1, 512, .inr (.inl (fun _ => 0)))), (ma, .inr (9, [.long 256, .int 0, .int 0, .int 0, .int 0, .int 0, .int 0, .int 0, .int 0, .long 0, .long 0, .long 0, .int 0, .int 0, .ref me, .ref rg])), (rg, .inr (2, [.int 0, .int 0, .int 255, .ref ge, .ref sp, .ref sk])), (ge, .inl (K.2.1.1, 256, .inr (.inl (fun _ => 0)))), (sp, .inl (K.2.1.1, 28, .inr (.inl (fun _ => 0))))]) F (mx_runV (As := [.int 0]) (rest := []) (n := 1) F (c_Asm_translate l K sm lb li su od an im t la lz lv lr io H.size) k_415 (Or.inl k_412) k_413 k_414 k_4 p_Asm_translate rfl rfl hP hD hS [1, 2, 3, 4] rfl (by decide) (va_recv (q := (R_Asm, T_Asm, 10)) (ci := 8) (q0 := 1) hK hP rfl rfl) rfl hl.1 rfl (Nat.le_of_ble_eq_true rfl) ⟨by decide, by decide⟩ ⟨by decide, by decide⟩ d_Mix_assemble_24) hP hD hS [1, 2, 3, 4] [0, 5, 6, 7, 8, 9, 10] rfl rfl (by decide) (by decide) (fun r2 _ H locs hq1 hP hD hS => ?_)
      obtain rfl : r2 = 1 := hq1
      have hP : va_P K.1 mx_cl [(x, .inr (0, [.int 0, .ref t, .ref me, .ref rg, .ref sm, .ref ma])), (me, .inr (1, [.ref mo])), (mo, .inl (K.2.1.1, 512, .inr (.inl (fun _ => 0)))), (ma, .inr (9, [.long 256, .int 0, .int 0, .int 0, .int 0, .int 0, .int 0, .int 0, .int 0, .long 0, .long 0, .long 0, .int 0, .int 0, .ref me, .ref rg])), (rg, .inr (2, [.int 0, .int 0, .int 255, .ref ge, .ref sp, .ref sk])), (ge, .inl (K.2.1.1, 256, .inr (.inl (fun _ => 0)))), (sp, .inl (K.2.1.1, 28, .inr (.inl (fun _ => 0)))), (sm, .inr (8, [.int 0, .int (-1), .int 256, .int 0, .ref lb, .ref li, .ref su, .ref od, .ref an, .ref im])), (im, .inr (1, [.ref io])), (io, .inl (K.2.1.1, 512, .inr (.inl (fun _ => 0))))] H := hP
      have hD : va_D A [(x, .inr (0, [.int 0, .ref t, .ref me, .ref rg, .ref sm, .ref ma])), (me, .inr (1, [.ref mo])), (mo, .inl (K.2.1.1, 512, .inr (.inl (fun _ => 0)))), (ma, .inr (9, [.long 256, .int 0, .int 0, .int 0, .int 0, .int 0, .int 0, .int 0, .int 0, .long 0, .long 0, .long 0, .int 0, .int 0, .ref me, .ref rg])), (rg, .inr (2, [.int 0, .int 0, .int 255, .ref ge, .ref sp, .ref sk])), (ge, .inl (K.2.1.1, 256, .inr (.inl (fun _ => 0)))), (sp, .inl (K.2.1.1, 28, .inr (.inl (fun _ => 0)))), (sm, .inr (8, [.int 0, .int (-1), .int 256, .int 0, .ref lb, .ref li, .ref su, .ref od, .ref an, .ref im])), (im, .inr (1, [.ref io])), (io, .inl (K.2.1.1, 512, .inr (.inl (fun _ => 0))))] := hD
      refine W.cs (cells' := 0) (slots' := 0) rfl rfl ?_
      refine lv_if_ne (tgt := 32) hx hb d_Mix_assemble_27 (by decide) (fun _ => ?_) (fun h => absurd h (by decide))
      refine lv_aload_n hx hb d_Mix_assemble_32 rfl (lv_at hl 0 rfl) ?_
      refine va_get (D := K.1) (ci := 0) (v := .ref me) (C := R_Mix) (T := T_Mix) (N := 6) hx hb hT in_Mix hown hK hP 0 rfl rfl 2 (by decide) (hT _ k_382) (fun _ h9 => h9) rfl d_Mix_assemble_33 ?_
      refine lv_aload_n hx hb d_Mix_assemble_36 rfl (lv_at hl 0 rfl) ?_
      refine va_get (D := K.1) (ci := 0) (v := .ref sm) (C := R_Mix) (T := T_Mix) (N := 6) hx hb hT in_Mix hown hK hP 0 rfl rfl 4 (by decide) (hT _ k_384) (fun _ h9 => h9) rfl d_Mix_assemble_37 ?_
      refine va_getN (D := K.1) (ci := 8) (v := .ref im) (C := R_Asm) (T := T_Asm) (N := 10) hx hb hT in_Asm hown hK hP 7 rfl rfl 9 (by decide) (va_Nw.use rfl (hN _ k_294)) (fun _ h9 => h9) rfl d_Mix_assemble_40 ?_
      refine mx_cv (wr := [(x, .inr (0, [.int 0, .ref t, .ref me, .ref rg, .ref sm, .ref ma])), (ma, .inr (9, [.long 256, .int 0, .int 0, .int 0, .int 0, .int 0, .int 0, .int 0, .int 0, .long 0, .long 0, .long 0, .int 0, .int 0, .ref me, .ref rg])), (rg, .inr (2, [.int 0, .int 0, .int 255, .ref ge, .ref sp, .ref sk])), (ge, .inl (K.2.1.1, 256, .inr (.inl (fun _ => 0)))), (sp, .inl (K.2.1.1, 28, .inr (.inl (fun _ => 0)))), (sm, .inr (8, [.int 0, .int (-1), .int 256, .int 0, .ref lb, .ref li, .ref su, .ref od, .ref an, .ref im]))]) F (mx_runV (As := [.ref im]) (rest := []) (n := 1) F (c_Mem_become l K me im mo (fun _ => 0) io (fun _ => 0) H.size) k_689 (Or.inl k_686) k_687 k_688 k_2 p_Mem_become rfl rfl hP hD hS [1, 2, 8, 9] rfl (by decide) (va_recv (q := (R_Mem, T_Mem, 1)) (ci := 1) (q0 := 1) hK hP rfl rfl) rfl hl.1 rfl (Nat.le_of_ble_eq_true rfl) ⟨by decide, by decide⟩ ⟨by decide, by decide⟩ d_Mix_assemble_43) hP hD hS [1, 2, 8, 9] [0, 3, 4, 5, 6, 7] rfl rfl (by decide) (by decide) (fun _ H locs hq4 hP hD hS => ?_)
      have hP : va_P K.1 mx_cl [(x, .inr (0, [.int 0, .ref t, .ref me, .ref rg, .ref sm, .ref ma])), (ma, .inr (9, [.long 256, .int 0, .int 0, .int 0, .int 0, .int 0, .int 0, .int 0, .int 0, .long 0, .long 0, .long 0, .int 0, .int 0, .ref me, .ref rg])), (rg, .inr (2, [.int 0, .int 0, .int 255, .ref ge, .ref sp, .ref sk])), (ge, .inl (K.2.1.1, 256, .inr (.inl (fun _ => 0)))), (sp, .inl (K.2.1.1, 28, .inr (.inl (fun _ => 0)))), (sm, .inr (8, [.int 0, .int (-1), .int 256, .int 0, .ref lb, .ref li, .ref su, .ref od, .ref an, .ref im]))] H := hP
      have hD : va_D A [(x, .inr (0, [.int 0, .ref t, .ref me, .ref rg, .ref sm, .ref ma])), (ma, .inr (9, [.long 256, .int 0, .int 0, .int 0, .int 0, .int 0, .int 0, .int 0, .int 0, .long 0, .long 0, .long 0, .int 0, .int 0, .ref me, .ref rg])), (rg, .inr (2, [.int 0, .int 0, .int 255, .ref ge, .ref sp, .ref sk])), (ge, .inl (K.2.1.1, 256, .inr (.inl (fun _ => 0)))), (sp, .inl (K.2.1.1, 28, .inr (.inl (fun _ => 0)))), (sm, .inr (8, [.int 0, .int (-1), .int 256, .int 0, .ref lb, .ref li, .ref su, .ref od, .ref an, .ref im]))] := hD
      refine W.cs (cells' := 0) (slots' := 0) rfl rfl ?_
      refine lv_aload_n hx hb d_Mix_assemble_46 rfl (lv_at hl 0 rfl) ?_
      refine va_get (D := K.1) (ci := 0) (v := .ref ma) (C := R_Mix) (T := T_Mix) (N := 6) hx hb hT in_Mix hown hK hP 0 rfl rfl 5 (by decide) (hT _ k_385) (fun _ h9 => h9) rfl d_Mix_assemble_47 ?_
      refine mx_cv (wr := [(x, .inr (0, [.int 0, .ref t, .ref me, .ref rg, .ref sm, .ref ma])), (sm, .inr (8, [.int 0, .int (-1), .int 256, .int 0, .ref lb, .ref li, .ref su, .ref od, .ref an, .ref im]))]) F (mx_runV (As := []) (rest := []) (n := 0) F (c_Mac_setBack l K ma me rg ge sp sk H.size) k_696 (Or.inl k_693) k_694 k_695 k_14 p_Mac_setBack rfl rfl hP hD hS [1, 2, 3, 4] rfl (by decide) (va_recv (q := (R_Mac, T_Mac, 16)) (ci := 9) (q0 := 1) hK hP rfl rfl) rfl hl.1 rfl (Nat.le_of_ble_eq_true rfl) ⟨by decide, by decide⟩ ⟨by decide, by decide⟩ d_Mix_assemble_50) hP hD hS [1, 2, 3, 4] [0, 5] rfl rfl (by decide) (by decide) (fun _ H locs hq6 hP hD hS => ?_)
      have hP : va_P K.1 mx_cl [(x, .inr (0, [.int 0, .ref t, .ref me, .ref rg, .ref sm, .ref ma])), (sm, .inr (8, [.int 0, .int (-1), .int 256, .int 0, .ref lb, .ref li, .ref su, .ref od, .ref an, .ref im]))] H := hP
      have hD : va_D A [(x, .inr (0, [.int 0, .ref t, .ref me, .ref rg, .ref sm, .ref ma])), (sm, .inr (8, [.int 0, .int (-1), .int 256, .int 0, .ref lb, .ref li, .ref su, .ref od, .ref an, .ref im]))] := hD
      refine W.cs (cells' := 0) (slots' := 0) rfl rfl ?_
      refine lv_iconst (v := 0) hx hb d_Mix_assemble_53 (by decide) ?_
      exact mx_ri F hr hlk rfl hP hD hS () [] rfl (by decide) mx_asm_0 (by decide) (by decide) d_Mix_assemble_54
    · refine lv_iconst (v := (-1)) hx hb d_Mix_assemble_12 (by decide) ?_
      exact mx_ri F hr hlk rfl hP hD hS () [] rfl (by decide) (mx_asm_gt h9) (by decide) (by decide) d_Mix_assemble_13
set_option maxHeartbeats 4000000 in
set_option maxRecDepth 100000 in
theorem c_Mix_illAt (l : Launch) (K : mx_K) (x : Nat) (t : Nat) (me : Nat) (rg : Nat) (sm : Nat) (ma : Nat) (lb : Nat) (li : Nat) (su : Nat) (od : Nat) (an : Nat) (im : Nat) (sz : Nat) : mx_I l y_Mix_illAt b_Mix_illAt 1 .int { frames := 0, cells := 0, slots := 0, locals := 0 } K [.ref x] [(x, .inr (0, [.int 0, .ref t, .ref me, .ref rg, .ref sm, .ref ma])), (sm, .inr (8, [.int 0, .int (-1), .int 0, .int 0, .ref lb, .ref li, .ref su, .ref od, .ref an, .ref im]))] sz (fun (r : Int32) (u : Unit) => r = -1) (fun u : Unit => []) := by
  refine mx_of (by decide) (Nat.le_of_ble_eq_true rfl) ?_
  intro p e s m below meth c A ls H locs hAe F hr hlk hin hsz hP hD hS hl
  rw [hAe]
  have hl : lv_has ls 1 [(0, .ref x)] := hl
  obtain ⟨hx, hb, hml, hown, hT, hK, hN, hE, hA⟩ := id F
  refine lv_aload_n hx hb d_Mix_illAt_0 rfl (lv_at hl 0 rfl) ?_
  refine va_get (D := K.1) (ci := 0) (v := .ref sm) (C := R_Mix) (T := T_Mix) (N := 6) hx hb hT in_Mix hown hK hP 0 rfl rfl 4 (by decide) (hT _ k_384) (fun _ h9 => h9) rfl d_Mix_illAt_1 ?_
  refine va_getN (D := K.1) (ci := 8) (v := .int (-1)) (C := R_Asm) (T := T_Asm) (N := 10) hx hb hT in_Asm hown hK hP 1 rfl rfl 1 (by decide) (va_Nw.use rfl (hN _ k_297)) (fun _ h9 => h9) rfl d_Mix_illAt_4 ?_
  exact mx_ri F hr hlk rfl hP hD hS () [] rfl (by decide) rfl (by decide) (by decide) d_Mix_illAt_7
set_option maxHeartbeats 4000000 in
set_option maxRecDepth 100000 in
theorem c_Mix_label (l : Launch) (K : mx_K) (x : Nat) (k : Int32) (t : Nat) (me : Nat) (rg : Nat) (sm : Nat) (ma : Nat) (lb : Nat) (li : Nat) (su : Nat) (od : Nat) (an : Nat) (im : Nat) (sz : Nat) : mx_L l y_Mix_label b_Mix_label 2 { frames := 1, cells := 0, slots := 0, locals := 21 } K [.ref x, .int k] [(x, .inr (0, [.int 0, .ref t, .ref me, .ref rg, .ref sm, .ref ma])), (sm, .inr (8, [.int 0, .int (-1), .int 0, .int 0, .ref lb, .ref li, .ref su, .ref od, .ref an, .ref im]))] sz (fun (r : Int64) (u : Unit) => r = -1) (fun u : Unit => []) := by
  refine mx_of (by decide) (Nat.le_of_ble_eq_true rfl) ?_
  intro p e s m below meth c A ls H locs hAe F hr hlk hin hsz hP hD hS hl
  rw [hAe]
  have hl : lv_has ls 2 [(0, .ref x), (1, .int k)] := hl
  obtain ⟨hx, hb, hml, hown, hT, hK, hN, hE, hA⟩ := id F
  refine lv_aload_n hx hb d_Mix_label_0 rfl (lv_at hl 0 rfl) ?_
  refine va_get (D := K.1) (ci := 0) (v := .ref sm) (C := R_Mix) (T := T_Mix) (N := 6) hx hb hT in_Mix hown hK hP 0 rfl rfl 4 (by decide) (hT _ k_384) (fun _ h9 => h9) rfl d_Mix_label_1 ?_
  refine lv_iload_n hx hb d_Mix_label_4 rfl (lv_at hl 1 rfl) ?_
  refine mx_cj (wr := [(x, .inr (0, [.int 0, .ref t, .ref me, .ref rg, .ref sm, .ref ma]))]) F (mx_runV (As := [.int k]) (rest := []) (n := 1) F (c_Asm_answer l K sm k lb li su od an im H.size) k_716 (Or.inl k_713) k_714 k_715 k_4 p_Asm_answer rfl rfl hP hD hS [1] rfl (by decide) (va_recv (q := (R_Asm, T_Asm, 10)) (ci := 8) (q0 := 1) hK hP rfl rfl) rfl hl.1 rfl (Nat.le_of_ble_eq_true rfl) ⟨by decide, by decide⟩ ⟨by decide, by decide⟩ d_Mix_label_5) hP hD hS [1] [0] rfl rfl (by decide) (by decide) (fun r2 _ H locs hq1 hP hD hS => ?_)
  obtain rfl : r2 = (-1) := hq1
  have hP : va_P K.1 mx_cl [(x, .inr (0, [.int 0, .ref t, .ref me, .ref rg, .ref sm, .ref ma]))] H := hP
  have hD : va_D A [(x, .inr (0, [.int 0, .ref t, .ref me, .ref rg, .ref sm, .ref ma]))] := hD
  refine W.cs (cells' := 0) (slots' := 0) rfl rfl ?_
  exact mx_rl F hr hlk hP hD hS () [] rfl (by decide) rfl (by decide) (by decide) d_Mix_label_8
set_option maxHeartbeats 4000000 in
set_option maxRecDepth 100000 in
theorem c_Mix_byteAt (l : Launch) (K : mx_K) (x : Nat) (pl : Int32) (t : Nat) (me : Nat) (rg : Nat) (sm : Nat) (ma : Nat) (mo : Nat) (sz : Nat) : mx_I l y_Mix_byteAt b_Mix_byteAt 2 .int { frames := 2, cells := 0, slots := 0, locals := 46 } K [.ref x, .int pl] [(x, .inr (0, [.int 0, .ref t, .ref me, .ref rg, .ref sm, .ref ma])), (me, .inr (1, [.ref mo])), (mo, .inl (K.2.1.1, 512, .inr (.inl (fun _ => 0))))] sz (fun (r : Int32) (u : Unit) => r = mx_byte pl) (fun u : Unit => []) := by
  refine mx_of (by decide) (Nat.le_of_ble_eq_true rfl) ?_
  intro p e s m below meth c A ls H locs hAe F hr hlk hin hsz hP hD hS hl
  rw [hAe]
  have hl : lv_has ls 2 [(0, .ref x), (1, .int pl)] := hl
  obtain ⟨hx, hb, hml, hown, hT, hK, hN, hE, hA⟩ := id F
  refine lv_aload_n hx hb d_Mix_byteAt_0 rfl (lv_at hl 0 rfl) ?_
  refine va_get (D := K.1) (ci := 0) (v := .ref me) (C := R_Mix) (T := T_Mix) (N := 6) hx hb hT in_Mix hown hK hP 0 rfl rfl 2 (by decide) (hT _ k_382) (fun _ h9 => h9) rfl d_Mix_byteAt_1 ?_
  refine lv_iload_n hx hb d_Mix_byteAt_4 rfl (lv_at hl 1 rfl) ?_
  refine lv_i2l (v := pl.toInt64) hx hb d_Mix_byteAt_5 rfl ?_
  refine lv_iconst (v := 1) hx hb d_Mix_byteAt_6 (by decide) ?_
  refine mx_ci (wr := [(x, .inr (0, [.int 0, .ref t, .ref me, .ref rg, .ref sm, .ref ma])), (me, .inr (1, [.ref mo])), (mo, .inl (K.2.1.1, 512, .inr (.inl (fun _ => 0))))]) F (mx_runV (As := [.long pl.toInt64, .int 1]) (rest := []) (n := 2) F (c_Mem_holds l K me pl.toInt64 1 H.size) k_607 (Or.inl k_722) k_605 k_606 k_2 p_Mem_holds rfl rfl hP hD hS [] rfl (by decide) (va_recv (q := (R_Mem, T_Mem, 1)) (ci := 1) (q0 := 1) hK hP rfl rfl) rfl hl.1 rfl (Nat.le_of_ble_eq_true rfl) ⟨by decide, by decide⟩ ⟨by decide, by decide⟩ d_Mix_byteAt_7) hP hD hS [] [0, 1, 2] rfl rfl (by decide) (by decide) (fun r2 _ H locs hq1 hP hD hS => ?_)
  obtain rfl : r2 = mx_holds pl.toInt64 1 := hq1
  have hP : va_P K.1 mx_cl [(x, .inr (0, [.int 0, .ref t, .ref me, .ref rg, .ref sm, .ref ma])), (me, .inr (1, [.ref mo])), (mo, .inl (K.2.1.1, 512, .inr (.inl (fun _ => 0))))] H := hP
  have hD : va_D A [(x, .inr (0, [.int 0, .ref t, .ref me, .ref rg, .ref sm, .ref ma])), (me, .inr (1, [.ref mo])), (mo, .inl (K.2.1.1, 512, .inr (.inl (fun _ => 0))))] := hD
  refine W.cs (cells' := 0) (slots' := 0) rfl rfl ?_
  refine lv_if_eq (tgt := 27) hx hb d_Mix_byteAt_10 (by decide) (fun h10 => ?_) (fun h10 => ?_)
  · refine lv_iconst (v := (-1)) hx hb d_Mix_byteAt_27 (by decide) ?_
    exact mx_ri F hr hlk rfl hP hD hS () [] rfl (by decide) (mx_byte_out h10) (by decide) (by decide) d_Mix_byteAt_28
  · obtain ⟨k, hk, rfl⟩ := mx_holds_of (n := 1) (by decide) h10
    refine lv_aload_n hx hb d_Mix_byteAt_13 rfl (lv_at hl 0 rfl) ?_
    refine va_get (D := K.1) (ci := 0) (v := .ref me) (C := R_Mix) (T := T_Mix) (N := 6) hx hb hT in_Mix hown hK hP 0 rfl rfl 2 (by decide) (hT _ k_382) (fun _ h9 => h9) rfl d_Mix_byteAt_14 ?_
    refine lv_iload_n hx hb d_Mix_byteAt_17 rfl (lv_at hl 1 rfl) ?_
    refine lv_i2l (v := lN k) hx hb d_Mix_byteAt_18 (nI_l (by omega)) ?_
    refine lv_iconst (v := 1) hx hb d_Mix_byteAt_19 (by decide) ?_
    refine mx_cj (wr := [(x, .inr (0, [.int 0, .ref t, .ref me, .ref rg, .ref sm, .ref ma]))]) F (mx_runV (As := [.long (lN k), .int 1]) (rest := []) (n := 2) F (c_Mem_read l K me k mo H.size (by omega)) k_726 (Or.inl k_723) k_724 k_725 k_2 p_Mem_read rfl rfl hP hD hS [1, 2] rfl (by decide) (va_recv (q := (R_Mem, T_Mem, 1)) (ci := 1) (q0 := 1) hK hP rfl rfl) rfl hl.1 rfl (Nat.le_of_ble_eq_true rfl) ⟨by decide, by decide⟩ ⟨by decide, by decide⟩ d_Mix_byteAt_20) hP hD hS [1, 2] [0] rfl rfl (by decide) (by decide) (fun r4 _ H locs hq3 hP hD hS => ?_)
    obtain rfl : r4 = 0 := hq3
    have hP : va_P K.1 mx_cl [(x, .inr (0, [.int 0, .ref t, .ref me, .ref rg, .ref sm, .ref ma])), (me, .inr (1, [.ref mo])), (mo, .inl (K.2.1.1, 512, .inr (.inl (fun _ => 0))))] H := hP
    have hD : va_D A [(x, .inr (0, [.int 0, .ref t, .ref me, .ref rg, .ref sm, .ref ma])), (me, .inr (1, [.ref mo])), (mo, .inl (K.2.1.1, 512, .inr (.inl (fun _ => 0))))] := hD
    refine W.cs (cells' := 0) (slots' := 0) rfl rfl ?_
    refine lv_l2i (v := 0) hx hb d_Mix_byteAt_23 (by decide) ?_
    refine lv_goto (tgt := 28) hx hb d_Mix_byteAt_24 (by decide) ?_
    exact mx_ri F hr hlk rfl hP hD hS () [] rfl (by decide) (mx_byte_in (by omega)) (by decide) (by decide) d_Mix_byteAt_28
set_option maxHeartbeats 4000000 in
set_option maxRecDepth 100000 in
theorem c_Mix_store (l : Launch) (K : mx_K) (x : Nat) (pl : Int32) (hi : Int32) (lo : Int32) (t : Nat) (me : Nat) (rg : Nat) (sm : Nat) (ma : Nat) (mo : Nat) (sz : Nat) : mx_I l y_Mix_store b_Mix_store 4 .boolean { frames := 2, cells := 0, slots := 0, locals := 50 } K [.ref x, .int pl, .int hi, .int lo] [(x, .inr (0, [.int 0, .ref t, .ref me, .ref rg, .ref sm, .ref ma])), (me, .inr (1, [.ref mo])), (mo, .inl (K.2.1.1, 512, .inr (.inl (fun _ => 0))))] sz (fun (r : Int32) (u : Unit) => r = mx_store pl) (fun u : Unit => []) := by
  refine mx_of (by decide) (Nat.le_of_ble_eq_true rfl) ?_
  intro p e s m below meth c A ls H locs hAe F hr hlk hin hsz hP hD hS hl
  rw [hAe]
  have hl : lv_has ls 4 [(0, .ref x), (1, .int pl), (2, .int hi), (3, .int lo)] := hl
  obtain ⟨hx, hb, hml, hown, hT, hK, hN, hE, hA⟩ := id F
  refine lv_aload_n hx hb d_Mix_store_0 rfl (lv_at hl 0 rfl) ?_
  refine va_get (D := K.1) (ci := 0) (v := .ref me) (C := R_Mix) (T := T_Mix) (N := 6) hx hb hT in_Mix hown hK hP 0 rfl rfl 2 (by decide) (hT _ k_382) (fun _ h9 => h9) rfl d_Mix_store_1 ?_
  refine lv_iload_n hx hb d_Mix_store_4 rfl (lv_at hl 1 rfl) ?_
  refine lv_i2l (v := pl.toInt64) hx hb d_Mix_store_5 rfl ?_
  refine lv_bipush (v := 8) hx hb d_Mix_store_6 (by decide) ?_
  refine mx_ci (wr := [(x, .inr (0, [.int 0, .ref t, .ref me, .ref rg, .ref sm, .ref ma])), (me, .inr (1, [.ref mo])), (mo, .inl (K.2.1.1, 512, .inr (.inl (fun _ => 0))))]) F (mx_runV (As := [.long pl.toInt64, .int 8]) (rest := []) (n := 2) F (c_Mem_holds l K me pl.toInt64 8 H.size) k_607 (Or.inl k_722) k_605 k_606 k_2 p_Mem_holds rfl rfl hP hD hS [] rfl (by decide) (va_recv (q := (R_Mem, T_Mem, 1)) (ci := 1) (q0 := 1) hK hP rfl rfl) rfl hl.1 rfl (Nat.le_of_ble_eq_true rfl) ⟨by decide, by decide⟩ ⟨by decide, by decide⟩ d_Mix_store_8) hP hD hS [] [0, 1, 2] rfl rfl (by decide) (by decide) (fun r2 _ H locs hq1 hP hD hS => ?_)
  obtain rfl : r2 = mx_holds pl.toInt64 8 := hq1
  have hP : va_P K.1 mx_cl [(x, .inr (0, [.int 0, .ref t, .ref me, .ref rg, .ref sm, .ref ma])), (me, .inr (1, [.ref mo])), (mo, .inl (K.2.1.1, 512, .inr (.inl (fun _ => 0))))] H := hP
  have hD : va_D A [(x, .inr (0, [.int 0, .ref t, .ref me, .ref rg, .ref sm, .ref ma])), (me, .inr (1, [.ref mo])), (mo, .inl (K.2.1.1, 512, .inr (.inl (fun _ => 0))))] := hD
  refine W.cs (cells' := 0) (slots' := 0) rfl rfl ?_
  refine lv_if_eq (tgt := 21) hx hb d_Mix_store_11 (by decide) (fun h11 => ?_) (fun h11 => ?_)
  · refine lv_iconst (v := 0) hx hb d_Mix_store_21 (by decide) ?_
    exact mx_ri F hr hlk (by decide) hP hD hS () [] rfl (by decide) (mx_store_out h11) (by decide) (by decide) d_Mix_store_22
  · obtain ⟨k, hk, rfl⟩ := mx_holds_of (n := 8) (by decide) h11
    refine lv_iload_n hx hb d_Mix_store_14 rfl (lv_at hl 1 rfl) ?_
    refine lv_bipush (v := 7) hx hb d_Mix_store_15 (by decide) ?_
    refine lv_iand hx hb d_Mix_store_17 ?_
    refine lv_if_eq (tgt := 23) hx hb d_Mix_store_18 (by decide) (fun h18 => ?_) (fun h18 => ?_)
    · refine lv_aload_n hx hb d_Mix_store_23 rfl (lv_at hl 0 rfl) ?_
      refine va_get (D := K.1) (ci := 0) (v := .ref me) (C := R_Mix) (T := T_Mix) (N := 6) hx hb hT in_Mix hown hK hP 0 rfl rfl 2 (by decide) (hT _ k_382) (fun _ h9 => h9) rfl d_Mix_store_24 ?_
      refine lv_iload_n hx hb d_Mix_store_27 rfl (lv_at hl 1 rfl) ?_
      refine lv_i2l (v := lN k) hx hb d_Mix_store_28 (nI_l (by omega)) ?_
      refine lv_bipush (v := 8) hx hb d_Mix_store_29 (by decide) ?_
      refine lv_iload_n hx hb d_Mix_store_31 rfl (lv_at hl 2 rfl) ?_
      refine lv_i2l (v := hi.toInt64) hx hb d_Mix_store_32 rfl ?_
      refine lv_bipush (v := 32) hx hb d_Mix_store_33 (by decide) ?_
      refine lv_lshl (v := hi.toInt64 <<< ((32 : Int32).toInt64 &&& 63)) hx hb d_Mix_store_35 rfl ?_
      refine lv_iload_n hx hb d_Mix_store_36 rfl (lv_at hl 3 rfl) ?_
      refine lv_i2l (v := lo.toInt64) hx hb d_Mix_store_37 rfl ?_
      refine lv_ldc2 (v := 4294967295) hx hb hown (hT _ k_731) d_Mix_store_38 ?_
      refine lv_land hx hb d_Mix_store_41 ?_
      refine lv_lor hx hb d_Mix_store_42 ?_
      refine mx_cv (wr := [(x, .inr (0, [.int 0, .ref t, .ref me, .ref rg, .ref sm, .ref ma]))]) F (mx_runV (As := [.long (lN k), .int 8, .long ((hi.toInt64 <<< ((32 : Int32).toInt64 &&& 63)) ||| (lo.toInt64 &&& (4294967295 : Int64)))]) (rest := []) (n := 3) F (c_Mem_write l K me k ((hi.toInt64 <<< ((32 : Int32).toInt64 &&& 63)) ||| (lo.toInt64 &&& (4294967295 : Int64))) mo (fun _ => 0) H.size (by omega)) k_603 (Or.inl k_732) k_601 k_602 k_2 p_Mem_write rfl rfl hP hD hS [1, 2] rfl (by decide) (va_recv (q := (R_Mem, T_Mem, 1)) (ci := 1) (q0 := 1) hK hP rfl rfl) rfl hl.1 rfl (Nat.le_of_ble_eq_true rfl) ⟨by decide, by decide⟩ ⟨by decide, by decide⟩ d_Mix_store_43) hP hD hS [1, 2] [0] rfl rfl (by decide) (by decide) (fun _ H locs hq3 hP hD hS => ?_)
      have hP : va_P K.1 mx_cl [(x, .inr (0, [.int 0, .ref t, .ref me, .ref rg, .ref sm, .ref ma]))] H := hP
      have hD : va_D A [(x, .inr (0, [.int 0, .ref t, .ref me, .ref rg, .ref sm, .ref ma]))] := hD
      refine W.cs (cells' := 0) (slots' := 0) rfl rfl ?_
      refine lv_iconst (v := 1) hx hb d_Mix_store_46 (by decide) ?_
      exact mx_ri F hr hlk (by decide) hP hD hS () [] rfl (by decide) (mx_store_in hk h18) (by decide) (by decide) d_Mix_store_47
    · refine lv_iconst (v := 0) hx hb d_Mix_store_21 (by decide) ?_
      exact mx_ri F hr hlk (by decide) hP hD hS () [] rfl (by decide) (mx_store_odd hk h18) (by decide) (by decide) d_Mix_store_22
set_option maxHeartbeats 4000000 in
set_option maxRecDepth 100000 in
theorem c_Mix_back (l : Launch) (K : mx_K) (x : Nat) (t : Nat) (me : Nat) (rg : Nat) (sm : Nat) (ma : Nat) (ge : Nat) (sp : Nat) (sk : Nat) (sz : Nat) : mx_V l y_Mix_back b_Mix_back 1 { frames := 4, cells := 0, slots := 0, locals := 84 } K [.ref x] [(x, .inr (0, [.int 0, .ref t, .ref me, .ref rg, .ref sm, .ref ma])), (ma, .inr (9, [.long 256, .int 0, .int 0, .int 0, .int 0, .int 0, .int 0, .int 0, .int 0, .long 0, .long 0, .long 0, .int 0, .int 0, .ref me, .ref rg])), (rg, .inr (2, [.int 0, .int 0, .int 255, .ref ge, .ref sp, .ref sk])), (ge, .inl (K.2.1.1, 256, .inr (.inl (fun _ => 0)))), (sp, .inl (K.2.1.1, 28, .inr (.inl (fun _ => 0))))] sz (fun u : Unit => True) (fun u : Unit => []) := by
  refine mx_of (by decide) (Nat.le_of_ble_eq_true rfl) ?_
  intro p e s m below meth c A ls H locs hAe F hr hlk hin hsz hP hD hS hl
  rw [hAe]
  have hl : lv_has ls 1 [(0, .ref x)] := hl
  obtain ⟨hx, hb, hml, hown, hT, hK, hN, hE, hA⟩ := id F
  refine lv_aload_n hx hb d_Mix_back_0 rfl (lv_at hl 0 rfl) ?_
  refine va_get (D := K.1) (ci := 0) (v := .ref ma) (C := R_Mix) (T := T_Mix) (N := 6) hx hb hT in_Mix hown hK hP 0 rfl rfl 5 (by decide) (hT _ k_385) (fun _ h9 => h9) rfl d_Mix_back_1 ?_
  refine mx_cv (wr := [(x, .inr (0, [.int 0, .ref t, .ref me, .ref rg, .ref sm, .ref ma]))]) F (mx_runV (As := []) (rest := []) (n := 0) F (c_Mac_setBack l K ma me rg ge sp sk H.size) k_696 (Or.inl k_693) k_694 k_695 k_14 p_Mac_setBack rfl rfl hP hD hS [1, 2, 3, 4] rfl (by decide) (va_recv (q := (R_Mac, T_Mac, 16)) (ci := 9) (q0 := 1) hK hP rfl rfl) rfl hl.1 rfl (Nat.le_of_ble_eq_true rfl) ⟨by decide, by decide⟩ ⟨by decide, by decide⟩ d_Mix_back_4) hP hD hS [1, 2, 3, 4] [0] rfl rfl (by decide) (by decide) (fun _ H locs hq1 hP hD hS => ?_)
  have hP : va_P K.1 mx_cl [(x, .inr (0, [.int 0, .ref t, .ref me, .ref rg, .ref sm, .ref ma]))] H := hP
  have hD : va_D A [(x, .inr (0, [.int 0, .ref t, .ref me, .ref rg, .ref sm, .ref ma]))] := hD
  refine W.cs (cells' := 0) (slots' := 0) rfl rfl ?_
  exact mx_rv F hr hlk hP hD hS () [] rfl (by decide) trivial (by decide) (by decide) d_Mix_back_7
set_option maxHeartbeats 4000000 in
set_option maxRecDepth 100000 in
theorem c_Mix_run (l : Launch) (K : mx_K) (x : Nat) (n : Int32) (t : Nat) (me : Nat) (rg : Nat) (sm : Nat) (ma : Nat) (mo : Nat) (ge : Nat) (sp : Nat) (sk : Nat) (sz : Nat) : mx_I l y_Mix_run b_Mix_run 2 .int { frames := 6, cells := 0, slots := 0, locals := 133 } K [.ref x, .int n] [(x, .inr (0, [.int 0, .ref t, .ref me, .ref rg, .ref sm, .ref ma])), (ma, .inr (9, [.long 256, .int 0, .int 0, .int 0, .int 0, .int 0, .int 0, .int 0, .int 0, .long 0, .long 0, .long 0, .int 0, .int 0, .ref me, .ref rg])), (me, .inr (1, [.ref mo])), (mo, .inl (K.2.1.1, 512, .inr (.inl (fun _ => 0)))), (rg, .inr (2, [.int 0, .int 0, .int 255, .ref ge, .ref sp, .ref sk])), (ge, .inl (K.2.1.1, 256, .inr (.inl (fun _ => 0))))] sz (fun (r : Int32) (u : Unit) => r = 0) (fun u : Unit => []) := by
  refine mx_of (by decide) (Nat.le_of_ble_eq_true rfl) ?_
  intro p e s m below meth c A ls H locs hAe F hr hlk hin hsz hP hD hS hl
  rw [hAe]
  have hl : lv_has ls 2 [(0, .ref x), (1, .int n)] := hl
  obtain ⟨hx, hb, hml, hown, hT, hK, hN, hE, hA⟩ := id F
  refine lv_iload_n hx hb d_Mix_run_0 rfl (lv_at hl 1 rfl) ?_
  refine lv_if_lt (tgt := 11) hx hb d_Mix_run_1 (by decide) (fun h1 => ?_) (fun h1 => ?_)
  · refine lv_iconst (v := 0) hx hb d_Mix_run_11 (by decide) ?_
    refine lv_goto (tgt := 23) hx hb d_Mix_run_12 (by decide) ?_
    exact mx_ri F hr hlk rfl hP hD hS () [] rfl (by decide) rfl (by decide) (by decide) d_Mix_run_23
  · refine lv_iload_n hx hb d_Mix_run_4 rfl (lv_at hl 1 rfl) ?_
    refine lv_sipush (v := 5000) hx hb d_Mix_run_5 (by decide) ?_
    refine lv_icmp_le (tgt := 15) hx hb d_Mix_run_8 (by decide) (fun h2 => ?_) (fun h2 => ?_)
    · refine lv_aload_n hx hb d_Mix_run_15 rfl (lv_at hl 0 rfl) ?_
      refine va_get (D := K.1) (ci := 0) (v := .ref ma) (C := R_Mix) (T := T_Mix) (N := 6) hx hb hT in_Mix hown hK hP 0 rfl rfl 5 (by decide) (hT _ k_385) (fun _ h9 => h9) rfl d_Mix_run_16 ?_
      refine lv_iload_n hx hb d_Mix_run_19 rfl (lv_at hl 1 rfl) ?_
      refine mx_ci (wr := [(x, .inr (0, [.int 0, .ref t, .ref me, .ref rg, .ref sm, .ref ma]))]) F (mx_runV (As := [.int n]) (rest := []) (n := 1) F (c_Mac_go l K ma n me rg mo ge sp sk H.size) k_744 (Or.inl k_741) k_742 k_743 k_14 p_Mac_go rfl rfl hP hD hS [1, 2, 3, 4, 5] rfl (by decide) (va_recv (q := (R_Mac, T_Mac, 16)) (ci := 9) (q0 := 1) hK hP rfl rfl) rfl hl.1 rfl (Nat.le_of_ble_eq_true rfl) ⟨by decide, by decide⟩ ⟨by decide, by decide⟩ d_Mix_run_20) hP hD hS [1, 2, 3, 4, 5] [0] rfl rfl (by decide) (by decide) (fun r4 _ H locs hq3 hP hD hS => ?_)
      obtain rfl : r4 = 0 := hq3
      have hP : va_P K.1 mx_cl [(x, .inr (0, [.int 0, .ref t, .ref me, .ref rg, .ref sm, .ref ma]))] H := hP
      have hD : va_D A [(x, .inr (0, [.int 0, .ref t, .ref me, .ref rg, .ref sm, .ref ma]))] := hD
      refine W.cs (cells' := 0) (slots' := 0) rfl rfl ?_
      exact mx_ri F hr hlk rfl hP hD hS () [] rfl (by decide) rfl (by decide) (by decide) d_Mix_run_23
    · refine lv_iconst (v := 0) hx hb d_Mix_run_11 (by decide) ?_
      refine lv_goto (tgt := 23) hx hb d_Mix_run_12 (by decide) ?_
      exact mx_ri F hr hlk rfl hP hD hS () [] rfl (by decide) rfl (by decide) (by decide) d_Mix_run_23
set_option maxHeartbeats 4000000 in
set_option maxRecDepth 100000 in
theorem c_Mix_stopped (l : Launch) (K : mx_K) (x : Nat) (t : Nat) (me : Nat) (rg : Nat) (sm : Nat) (ma : Nat) (sz : Nat) : mx_I l y_Mix_stopped b_Mix_stopped 1 .int { frames := 0, cells := 0, slots := 0, locals := 0 } K [.ref x] [(x, .inr (0, [.int 0, .ref t, .ref me, .ref rg, .ref sm, .ref ma])), (ma, .inr (9, [.long 256, .int 0, .int 0, .int 0, .int 0, .int 0, .int 0, .int 0, .int 0, .long 0, .long 0, .long 0, .int 0, .int 0, .ref me, .ref rg]))] sz (fun (r : Int32) (u : Unit) => r = 0) (fun u : Unit => []) := by
  refine mx_of (by decide) (Nat.le_of_ble_eq_true rfl) ?_
  intro p e s m below meth c A ls H locs hAe F hr hlk hin hsz hP hD hS hl
  rw [hAe]
  have hl : lv_has ls 1 [(0, .ref x)] := hl
  obtain ⟨hx, hb, hml, hown, hT, hK, hN, hE, hA⟩ := id F
  refine lv_aload_n hx hb d_Mix_stopped_0 rfl (lv_at hl 0 rfl) ?_
  refine va_get (D := K.1) (ci := 0) (v := .ref ma) (C := R_Mix) (T := T_Mix) (N := 6) hx hb hT in_Mix hown hK hP 0 rfl rfl 5 (by decide) (hT _ k_385) (fun _ h9 => h9) rfl d_Mix_stopped_1 ?_
  refine va_getN (D := K.1) (ci := 9) (v := .int 0) (C := R_Mac) (T := T_Mac) (N := 16) hx hb hT in_Mac hown hK hP 1 rfl rfl 1 (by decide) (va_Nw.use rfl (hN _ k_333)) (fun _ h9 => h9) rfl d_Mix_stopped_4 ?_
  exact mx_ri F hr hlk rfl hP hD hS () [] rfl (by decide) rfl (by decide) (by decide) d_Mix_stopped_7
set_option maxHeartbeats 4000000 in
set_option maxRecDepth 100000 in
theorem c_Mix_register (l : Launch) (K : mx_K) (x : Nat) (k : Int32) (t : Nat) (me : Nat) (rg : Nat) (sm : Nat) (ma : Nat) (ge : Nat) (sp : Nat) (sk : Nat) (sz : Nat) : mx_L l y_Mix_register b_Mix_register 2 { frames := 1, cells := 0, slots := 0, locals := 21 } K [.ref x, .int k] [(x, .inr (0, [.int 0, .ref t, .ref me, .ref rg, .ref sm, .ref ma])), (rg, .inr (2, [.int 0, .int 0, .int 255, .ref ge, .ref sp, .ref sk])), (ge, .inl (K.2.1.1, 256, .inr (.inl (fun _ => 0))))] sz (fun (r : Int64) (u : Unit) => r = 0) (fun u : Unit => []) := by
  refine mx_of (by decide) (Nat.le_of_ble_eq_true rfl) ?_
  intro p e s m below meth c A ls H locs hAe F hr hlk hin hsz hP hD hS hl
  rw [hAe]
  have hl : lv_has ls 2 [(0, .ref x), (1, .int k)] := hl
  obtain ⟨hx, hb, hml, hown, hT, hK, hN, hE, hA⟩ := id F
  refine lv_aload_n hx hb d_Mix_register_0 rfl (lv_at hl 0 rfl) ?_
  refine va_get (D := K.1) (ci := 0) (v := .ref rg) (C := R_Mix) (T := T_Mix) (N := 6) hx hb hT in_Mix hown hK hP 0 rfl rfl 3 (by decide) (hT _ k_383) (fun _ h9 => h9) rfl d_Mix_register_1 ?_
  refine lv_iload_n hx hb d_Mix_register_4 rfl (lv_at hl 1 rfl) ?_
  refine mx_cj (wr := [(x, .inr (0, [.int 0, .ref t, .ref me, .ref rg, .ref sm, .ref ma]))]) F (mx_runV (As := [.int k]) (rest := []) (n := 1) F (c_Reg_read l K rg k ge sp sk H.size) k_762 (Or.inl k_953) k_760 k_761 k_3 p_Reg_read rfl rfl hP hD hS [1, 2] rfl (by decide) (va_recv (q := (R_Reg, T_Reg, 6)) (ci := 2) (q0 := 1) hK hP rfl rfl) rfl hl.1 rfl (Nat.le_of_ble_eq_true rfl) ⟨by decide, by decide⟩ ⟨by decide, by decide⟩ d_Mix_register_5) hP hD hS [1, 2] [0] rfl rfl (by decide) (by decide) (fun r2 _ H locs hq1 hP hD hS => ?_)
  obtain rfl : r2 = 0 := hq1
  have hP : va_P K.1 mx_cl [(x, .inr (0, [.int 0, .ref t, .ref me, .ref rg, .ref sm, .ref ma])), (rg, .inr (2, [.int 0, .int 0, .int 255, .ref ge, .ref sp, .ref sk])), (ge, .inl (K.2.1.1, 256, .inr (.inl (fun _ => 0))))] H := hP
  have hD : va_D A [(x, .inr (0, [.int 0, .ref t, .ref me, .ref rg, .ref sm, .ref ma])), (rg, .inr (2, [.int 0, .int 0, .int 255, .ref ge, .ref sp, .ref sk])), (ge, .inl (K.2.1.1, 256, .inr (.inl (fun _ => 0))))] := hD
  refine W.cs (cells' := 0) (slots' := 0) rfl rfl ?_
  exact mx_rl F hr hlk hP hD hS () [] rfl (by decide) rfl (by decide) (by decide) d_Mix_register_8
set_option maxHeartbeats 4000000 in
set_option maxRecDepth 100000 in
theorem c_Mix_special (l : Launch) (K : mx_K) (x : Nat) (k : Int32) (t : Nat) (me : Nat) (rg : Nat) (sm : Nat) (ma : Nat) (ge : Nat) (sp : Nat) (sk : Nat) (sz : Nat) : mx_L l y_Mix_special b_Mix_special 2 { frames := 1, cells := 0, slots := 0, locals := 21 } K [.ref x, .int k] [(x, .inr (0, [.int 0, .ref t, .ref me, .ref rg, .ref sm, .ref ma])), (rg, .inr (2, [.int 0, .int 0, .int 255, .ref ge, .ref sp, .ref sk])), (sp, .inl (K.2.1.1, 28, .inr (.inl (fun _ => 0))))] sz (fun (r : Int64) (u : Unit) => r = mx_spec k) (fun u : Unit => []) := by
  refine mx_of (by decide) (Nat.le_of_ble_eq_true rfl) ?_
  intro p e s m below meth c A ls H locs hAe F hr hlk hin hsz hP hD hS hl
  rw [hAe]
  have hl : lv_has ls 2 [(0, .ref x), (1, .int k)] := hl
  obtain ⟨hx, hb, hml, hown, hT, hK, hN, hE, hA⟩ := id F
  refine lv_aload_n hx hb d_Mix_special_0 rfl (lv_at hl 0 rfl) ?_
  refine va_get (D := K.1) (ci := 0) (v := .ref rg) (C := R_Mix) (T := T_Mix) (N := 6) hx hb hT in_Mix hown hK hP 0 rfl rfl 3 (by decide) (hT _ k_383) (fun _ h9 => h9) rfl d_Mix_special_1 ?_
  refine lv_iload_n hx hb d_Mix_special_4 rfl (lv_at hl 1 rfl) ?_
  refine mx_cj (wr := [(x, .inr (0, [.int 0, .ref t, .ref me, .ref rg, .ref sm, .ref ma]))]) F (mx_runV (As := [.int k]) (rest := []) (n := 1) F (c_Reg_get l K rg k ge sp sk H.size) k_841 (Or.inl k_958) k_839 k_840 k_3 p_Reg_get rfl rfl hP hD hS [1, 2] rfl (by decide) (va_recv (q := (R_Reg, T_Reg, 6)) (ci := 2) (q0 := 1) hK hP rfl rfl) rfl hl.1 rfl (Nat.le_of_ble_eq_true rfl) ⟨by decide, by decide⟩ ⟨by decide, by decide⟩ d_Mix_special_5) hP hD hS [1, 2] [0] rfl rfl (by decide) (by decide) (fun r2 _ H locs hq1 hP hD hS => ?_)
  obtain rfl : r2 = mx_spec k := hq1
  have hP : va_P K.1 mx_cl [(x, .inr (0, [.int 0, .ref t, .ref me, .ref rg, .ref sm, .ref ma]))] H := hP
  have hD : va_D A [(x, .inr (0, [.int 0, .ref t, .ref me, .ref rg, .ref sm, .ref ma]))] := hD
  refine W.cs (cells' := 0) (slots' := 0) rfl rfl ?_
  exact mx_rl F hr hlk hP hD hS () [] rfl (by decide) rfl (by decide) (by decide) d_Mix_special_8
set_option maxHeartbeats 4000000 in
set_option maxRecDepth 100000 in
theorem c_Mix_place (l : Launch) (K : mx_K) (x : Nat) (t : Nat) (me : Nat) (rg : Nat) (sm : Nat) (ma : Nat) (sz : Nat) : mx_L l y_Mix_place b_Mix_place 1 { frames := 0, cells := 0, slots := 0, locals := 0 } K [.ref x] [(x, .inr (0, [.int 0, .ref t, .ref me, .ref rg, .ref sm, .ref ma])), (ma, .inr (9, [.long 256, .int 0, .int 0, .int 0, .int 0, .int 0, .int 0, .int 0, .int 0, .long 0, .long 0, .long 0, .int 0, .int 0, .ref me, .ref rg]))] sz (fun (r : Int64) (u : Unit) => r = 256) (fun u : Unit => []) := by
  refine mx_of (by decide) (Nat.le_of_ble_eq_true rfl) ?_
  intro p e s m below meth c A ls H locs hAe F hr hlk hin hsz hP hD hS hl
  rw [hAe]
  have hl : lv_has ls 1 [(0, .ref x)] := hl
  obtain ⟨hx, hb, hml, hown, hT, hK, hN, hE, hA⟩ := id F
  refine lv_aload_n hx hb d_Mix_place_0 rfl (lv_at hl 0 rfl) ?_
  refine va_get (D := K.1) (ci := 0) (v := .ref ma) (C := R_Mix) (T := T_Mix) (N := 6) hx hb hT in_Mix hown hK hP 0 rfl rfl 5 (by decide) (hT _ k_385) (fun _ h9 => h9) rfl d_Mix_place_1 ?_
  refine va_getN (D := K.1) (ci := 9) (v := .long 256) (C := R_Mac) (T := T_Mac) (N := 16) hx hb hT in_Mac hown hK hP 1 rfl rfl 0 (by decide) (va_Nw.use rfl (hN _ k_331)) (fun _ h9 => h9) rfl d_Mix_place_4 ?_
  exact mx_rl F hr hlk hP hD hS () [] rfl (by decide) rfl (by decide) (by decide) d_Mix_place_7
set_option maxHeartbeats 4000000 in
set_option maxRecDepth 100000 in
theorem c_Mix_taken (l : Launch) (K : mx_K) (x : Nat) (w : Int32) (t : Nat) (me : Nat) (rg : Nat) (sm : Nat) (ma : Nat) (ge : Nat) (sp : Nat) (sk : Nat) (sz : Nat) : mx_I l y_Mix_taken b_Mix_taken 2 .int { frames := 0, cells := 0, slots := 0, locals := 0 } K [.ref x, .int w] [(x, .inr (0, [.int 0, .ref t, .ref me, .ref rg, .ref sm, .ref ma])), (ma, .inr (9, [.long 256, .int 0, .int 0, .int 0, .int 0, .int 0, .int 0, .int 0, .int 0, .long 0, .long 0, .long 0, .int 0, .int 0, .ref me, .ref rg])), (rg, .inr (2, [.int 0, .int 0, .int 255, .ref ge, .ref sp, .ref sk]))] sz (fun (r : Int32) (u : Unit) => r = mx_take w) (fun u : Unit => []) := by
  refine mx_of (by decide) (Nat.le_of_ble_eq_true rfl) ?_
  intro p e s m below meth c A ls H locs hAe F hr hlk hin hsz hP hD hS hl
  rw [hAe]
  have hl : lv_has ls 2 [(0, .ref x), (1, .int w)] := hl
  obtain ⟨hx, hb, hml, hown, hT, hK, hN, hE, hA⟩ := id F
  refine lv_iload_n hx hb d_Mix_taken_0 rfl (lv_at hl 1 rfl) ?_
  rcases mx_take3 w with rfl | rfl | rfl | hw
  · refine lv_tableIn (off := 27) (tgt := 28) hx hb d_Mix_taken_1 (by decide) (by decide) (by decide) (by decide) ?_
    refine lv_aload_n hx hb d_Mix_taken_28 rfl (lv_at hl 0 rfl) ?_
    refine va_get (D := K.1) (ci := 0) (v := .ref ma) (C := R_Mix) (T := T_Mix) (N := 6) hx hb hT in_Mix hown hK hP 0 rfl rfl 5 (by decide) (hT _ k_385) (fun _ h9 => h9) rfl d_Mix_taken_29 ?_
    refine va_getN (D := K.1) (ci := 9) (v := .int 0) (C := R_Mac) (T := T_Mac) (N := 16) hx hb hT in_Mac hown hK hP 1 rfl rfl 2 (by decide) (va_Nw.use rfl (hN _ k_335)) (fun _ h9 => h9) rfl d_Mix_taken_32 ?_
    exact mx_ri F hr hlk rfl hP hD hS () [] rfl (by decide) rfl (by decide) (by decide) d_Mix_taken_35
  · refine lv_tableIn (off := 35) (tgt := 36) hx hb d_Mix_taken_1 (by decide) (by decide) (by decide) (by decide) ?_
    refine lv_aload_n hx hb d_Mix_taken_36 rfl (lv_at hl 0 rfl) ?_
    refine va_get (D := K.1) (ci := 0) (v := .ref ma) (C := R_Mix) (T := T_Mix) (N := 6) hx hb hT in_Mix hown hK hP 0 rfl rfl 5 (by decide) (hT _ k_385) (fun _ h9 => h9) rfl d_Mix_taken_37 ?_
    refine va_getN (D := K.1) (ci := 9) (v := .int 0) (C := R_Mac) (T := T_Mac) (N := 16) hx hb hT in_Mac hown hK hP 1 rfl rfl 3 (by decide) (va_Nw.use rfl (hN _ k_337)) (fun _ h9 => h9) rfl d_Mix_taken_40 ?_
    exact mx_ri F hr hlk rfl hP hD hS () [] rfl (by decide) rfl (by decide) (by decide) d_Mix_taken_43
  · refine lv_tableIn (off := 43) (tgt := 44) hx hb d_Mix_taken_1 (by decide) (by decide) (by decide) (by decide) ?_
    refine lv_aload_n hx hb d_Mix_taken_44 rfl (lv_at hl 0 rfl) ?_
    refine va_get (D := K.1) (ci := 0) (v := .ref rg) (C := R_Mix) (T := T_Mix) (N := 6) hx hb hT in_Mix hown hK hP 0 rfl rfl 3 (by decide) (hT _ k_383) (fun _ h9 => h9) rfl d_Mix_taken_45 ?_
    refine va_getN (D := K.1) (ci := 2) (v := .int 0) (C := R_Reg) (T := T_Reg) (N := 6) hx hb hT in_Reg hown hK hP 2 rfl rfl 0 (by decide) (va_Nw.use rfl (hN _ k_52)) (fun _ h9 => h9) rfl d_Mix_taken_48 ?_
    exact mx_ri F hr hlk rfl hP hD hS () [] rfl (by decide) rfl (by decide) (by decide) d_Mix_taken_51
  · refine lv_tableOut (tgt := 52) hx hb d_Mix_taken_1 hw.2 (by decide) ?_
    refine lv_iconst (v := (-1)) hx hb d_Mix_taken_52 (by decide) ?_
    exact mx_ri F hr hlk rfl hP hD hS () [] rfl (by decide) hw.1 (by decide) (by decide) d_Mix_taken_53
