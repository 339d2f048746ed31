set_option maxHeartbeats 4000000 in
set_option maxRecDepth 100000 in
theorem c_Mac_setBack (l : Launch) (K : mx_K) (ma : Nat) (me : Nat) (rg : Nat) (ge : Nat) (sp : Nat) (sk : Nat) (sz : Nat) : mx_V l y_Mac_setBack b_Mac_setBack 1 { frames := 3, cells := 0, slots := 0, locals := 64 } K [.ref ma] [(ma, .inr (9, [.long 256, .int 0, .int 0, .int 0, .int 0, .int 0, .int 0, .int 0, .int 0, .long 0, .long 0, .long 0, .int 0, .int 0, .ref me, .ref rg])), (rg, .inr (2, [.int 0, .int 0, .int 255, .ref ge, .ref sp, .ref sk])), (ge, .inl (K.2.1.1, 256, .inr (.inl (fun _ => 0)))), (sp, .inl (K.2.1.1, 28, .inr (.inl (fun _ => 0))))] sz (fun u : Unit => True) (fun u : Unit => []) := by
  refine mx_of (by decide) (Nat.le_of_ble_eq_true rfl) ?_
  intro p e s m below meth c A ls H locs hAe F hr hlk hin hsz hP hD hS hl
  rw [hAe]
  have hl : lv_has ls 1 [(0, .ref ma)] := hl
  obtain ⟨hx, hb, hml, hown, hT, hK, hN, hE, hA⟩ := id F
  refine lv_aload_n hx hb d_Mac_setBack_0 rfl (lv_at hl 0 rfl) ?_
  refine va_get (D := K.1) (ci := 9) (v := .ref rg) (C := R_Mac) (T := T_Mac) (N := 16) hx hb hT in_Mac hown hK hP 0 rfl rfl 15 (by decide) (hT _ k_329) (fun _ h9 => h9) rfl d_Mac_setBack_1 ?_
  refine mx_cv (wr := [(ma, .inr (9, [.long 256, .int 0, .int 0, .int 0, .int 0, .int 0, .int 0, .int 0, .int 0, .long 0, .long 0, .long 0, .int 0, .int 0, .ref me, .ref rg]))]) F (mx_runV (As := []) (rest := []) (n := 0) F (c_Reg_reset l K rg ge sp sk H.size) k_700 (Or.inl k_697) k_698 k_699 k_3 p_Reg_reset rfl rfl hP hD hS [1, 2, 3] rfl (by decide) (va_recv (q := (R_Reg, T_Reg, 6)) (ci := 2) (q0 := 1) hK hP rfl rfl) rfl hl.1 rfl (Nat.le_of_ble_eq_true rfl) ⟨by decide, by decide⟩ ⟨by decide, by decide⟩ d_Mac_setBack_4) hP hD hS [1, 2, 3] [0] rfl rfl (by decide) (by decide) (fun _ H locs hq1 hP hD hS => ?_)
  have hP : va_P K.1 mx_cl [(ma, .inr (9, [.long 256, .int 0, .int 0, .int 0, .int 0, .int 0, .int 0, .int 0, .int 0, .long 0, .long 0, .long 0, .int 0, .int 0, .ref me, .ref rg])), (rg, .inr (2, [.int 0, .int 0, .int 255, .ref ge, .ref sp, .ref sk])), (ge, .inl (K.2.1.1, 256, .inr (.inl (fun _ => 0)))), (sp, .inl (K.2.1.1, 28, .inr (.inl (fun _ => 0))))] H := hP
  have hD : va_D A [(ma, .inr (9, [.long 256, .int 0, .int 0, .int 0, .int 0, .int 0, .int 0, .int 0, .int 0, .long 0, .long 0, .long 0, .int 0, .int 0, .ref me, .ref rg])), (rg, .inr (2, [.int 0, .int 0, .int 255, .ref ge, .ref sp, .ref sk])), (ge, .inl (K.2.1.1, 256, .inr (.inl (fun _ => 0)))), (sp, .inl (K.2.1.1, 28, .inr (.inl (fun _ => 0))))] := hD
  refine W.cs (cells' := 0) (slots' := 0) rfl rfl ?_
  refine lv_aload_n hx hb d_Mac_setBack_7 rfl (lv_at hl 0 rfl) ?_
  refine lv_ldc2 (v := 256) hx hb hown (hT _ k_327) d_Mac_setBack_8 ?_
  refine va_put (D := K.1) (ci := 9) (v := .long 256) (ty := .long) (C := R_Mac) (T := T_Mac) (N := 16) hx hb hT in_Mac t_Mac t_Mac_ok n_Mac hown hK hP hD hS 0 rfl rfl 0 (by decide) (hT _ k_330) (fun _ h9 => h9) rfl (by decide +kernel) rfl rfl (Nat.le_of_ble_eq_true rfl) d_Mac_setBack_11 (fun H locs hP hD hS => ?_)
  have hP : va_P K.1 mx_cl [(ma, .inr (9, [.long 256, .int 0, .int 0, .int 0, .int 0, .int 0, .int 0, .int 0, .int 0, .long 0, .long 0, .long 0, .int 0, .int 0, .ref me, .ref rg])), (rg, .inr (2, [.int 0, .int 0, .int 255, .ref ge, .ref sp, .ref sk])), (ge, .inl (K.2.1.1, 256, .inr (.inl (fun _ => 0)))), (sp, .inl (K.2.1.1, 28, .inr (.inl (fun _ => 0))))] H := hP
  have hD : va_D A [(ma, .inr (9, [.long 256, .int 0, .int 0, .int 0, .int 0, .int 0, .int 0, .int 0, .int 0, .long 0, .long 0, .long 0, .int 0, .int 0, .ref me, .ref rg])), (rg, .inr (2, [.int 0, .int 0, .int 255, .ref ge, .ref sp, .ref sk])), (ge, .inl (K.2.1.1, 256, .inr (.inl (fun _ => 0)))), (sp, .inl (K.2.1.1, 28, .inr (.inl (fun _ => 0))))] := hD
  refine lv_aload_n hx hb d_Mac_setBack_14 rfl (lv_at hl 0 rfl) ?_
  refine lv_iconst (v := 0) hx hb d_Mac_setBack_15 (by decide) ?_
  refine va_put (D := K.1) (ci := 9) (v := .int 0) (ty := .int) (C := R_Mac) (T := T_Mac) (N := 16) hx hb hT in_Mac t_Mac t_Mac_ok n_Mac hown hK hP hD hS 0 rfl rfl 1 (by decide) (hT _ k_332) (fun _ h9 => h9) rfl (by decide +kernel) rfl rfl (Nat.le_of_ble_eq_true rfl) d_Mac_setBack_16 (fun H locs hP hD hS => ?_)
  have hP : va_P K.1 mx_cl [(ma, .inr (9, [.long 256, .int 0, .int 0, .int 0, .int 0, .int 0, .int 0, .int 0, .int 0, .long 0, .long 0, .long 0, .int 0, .int 0, .ref me, .ref rg])), (rg, .inr (2, [.int 0, .int 0, .int 255, .ref ge, .ref sp, .ref sk])), (ge, .inl (K.2.1.1, 256, .inr (.inl (fun _ => 0)))), (sp, .inl (K.2.1.1, 28, .inr (.inl (fun _ => 0))))] H := hP
  have hD : va_D A [(ma, .inr (9, [.long 256, .int 0, .int 0, .int 0, .int 0, .int 0, .int 0, .int 0, .int 0, .long 0, .long 0, .long 0, .int 0, .int 0, .ref me, .ref rg])), (rg, .inr (2, [.int 0, .int 0, .int 255, .ref ge, .ref sp, .ref sk])), (ge, .inl (K.2.1.1, 256, .inr (.inl (fun _ => 0)))), (sp, .inl (K.2.1.1, 28, .inr (.inl (fun _ => 0))))] := hD
  refine lv_aload_n hx hb d_Mac_setBack_19 rfl (lv_at hl 0 rfl) ?_
  refine lv_iconst (v := 0) hx hb d_Mac_setBack_20 (by decide) ?_
  refine va_put (D := K.1) (ci := 9) (v := .int 0) (ty := .int) (C := R_Mac) (T := T_Mac) (N := 16) hx hb hT in_Mac t_Mac t_Mac_ok n_Mac hown hK hP hD hS 0 rfl rfl 2 (by decide) (hT _ k_334) (fun _ h9 => h9) rfl (by decide +kernel) rfl rfl (Nat.le_of_ble_eq_true rfl) d_Mac_setBack_21 (fun H locs hP hD hS => ?_)
  have hP : va_P K.1 mx_cl [(ma, .inr (9, [.long 256, .int 0, .int 0, .int 0, .int 0, .int 0, .int 0, .int 0, .int 0, .long 0, .long 0, .long 0, .int 0, .int 0, .ref me, .ref rg])), (rg, .inr (2, [.int 0, .int 0, .int 255, .ref ge, .ref sp, .ref sk])), (ge, .inl (K.2.1.1, 256, .inr (.inl (fun _ => 0)))), (sp, .inl (K.2.1.1, 28, .inr (.inl (fun _ => 0))))] H := hP
  have hD : va_D A [(ma, .inr (9, [.long 256, .int 0, .int 0, .int 0, .int 0, .int 0, .int 0, .int 0, .int 0, .long 0, .long 0, .long 0, .int 0, .int 0, .ref me, .ref rg])), (rg, .inr (2, [.int 0, .int 0, .int 255, .ref ge, .ref sp, .ref sk])), (ge, .inl (K.2.1.1, 256, .inr (.inl (fun _ => 0)))), (sp, .inl (K.2.1.1, 28, .inr (.inl (fun _ => 0))))] := hD
  refine lv_aload_n hx hb d_Mac_setBack_24 rfl (lv_at hl 0 rfl) ?_
  refine lv_iconst (v := 0) hx hb d_Mac_setBack_25 (by decide) ?_
  refine va_put (D := K.1) (ci := 9) (v := .int 0) (ty := .int) (C := R_Mac) (T := T_Mac) (N := 16) hx hb hT in_Mac t_Mac t_Mac_ok n_Mac hown hK hP hD hS 0 rfl rfl 3 (by decide) (hT _ k_336) (fun _ h9 => h9) rfl (by decide +kernel) rfl rfl (Nat.le_of_ble_eq_true rfl) d_Mac_setBack_26 (fun H locs hP hD hS => ?_)
  have hP : va_P K.1 mx_cl [(ma, .inr (9, [.long 256, .int 0, .int 0, .int 0, .int 0, .int 0, .int 0, .int 0, .int 0, .long 0, .long 0, .long 0, .int 0, .int 0, .ref me, .ref rg])), (rg, .inr (2, [.int 0, .int 0, .int 255, .ref ge, .ref sp, .ref sk])), (ge, .inl (K.2.1.1, 256, .inr (.inl (fun _ => 0)))), (sp, .inl (K.2.1.1, 28, .inr (.inl (fun _ => 0))))] H := hP
  have hD : va_D A [(ma, .inr (9, [.long 256, .int 0, .int 0, .int 0, .int 0, .int 0, .int 0, .int 0, .int 0, .long 0, .long 0, .long 0, .int 0, .int 0, .ref me, .ref rg])), (rg, .inr (2, [.int 0, .int 0, .int 255, .ref ge, .ref sp, .ref sk])), (ge, .inl (K.2.1.1, 256, .inr (.inl (fun _ => 0)))), (sp, .inl (K.2.1.1, 28, .inr (.inl (fun _ => 0))))] := hD
  exact mx_rv F hr hlk hP hD hS () [] rfl (by decide) trivial (by decide) (by decide) d_Mac_setBack_29
set_option maxHeartbeats 4000000 in
set_option maxRecDepth 100000 in
theorem c_Mac_decode (l : Launch) (K : mx_K) (ma : Nat) (me : Nat) (rg : Nat) (mo : Nat) (ge : Nat) (sp : Nat) (sk : Nat) (sz : Nat) : mx_V l y_Mac_decode b_Mac_decode 1 { frames := 3, cells := 0, slots := 0, locals := 70 } K [.ref ma] [(ma, .inr (9, [.long 256, .int 0, .int 0, .int 0, .int 0, .int 0, .int 0, .int 0, .int 0, .long 0, .long 0, .long 0, .int 0, .int 0, .ref me, .ref rg])), (me, .inr (1, [.ref mo])), (mo, .inl (K.2.1.1, 512, .inr (.inl (fun _ => 0)))), (rg, .inr (2, [.int 0, .int 0, .int 255, .ref ge, .ref sp, .ref sk])), (ge, .inl (K.2.1.1, 256, .inr (.inl (fun _ => 0))))] sz (fun u : Unit => True) (fun u : Unit => [(ma, .inr (9, [.long 256, .int 0, .int 0, .int 0, .int 0, .int 0, .int 0, .int 0, .int 0, .long 0, .long 0, .long 260, .int 1, .int 0, .ref me, .ref rg]))]) := by
  refine mx_of (by decide) (Nat.le_of_ble_eq_true rfl) ?_
  intro p e s m below meth c A ls H locs hAe F hr hlk hin hsz hP hD hS hl
  rw [hAe]
  have hl : lv_has ls 1 [(0, .ref ma)] := hl
  obtain ⟨hx, hb, hml, hown, hT, hK, hN, hE, hA⟩ := id F
  refine lv_aload_n hx hb d_Mac_decode_0 rfl (lv_at hl 0 rfl) ?_
  refine lv_aload_n hx hb d_Mac_decode_1 rfl (lv_at hl 0 rfl) ?_
  refine va_get (D := K.1) (ci := 9) (v := .ref me) (C := R_Mac) (T := T_Mac) (N := 16) hx hb hT in_Mac hown hK hP 0 rfl rfl 14 (by decide) (hT _ k_328) (fun _ h9 => h9) rfl d_Mac_decode_2 ?_
  refine lv_aload_n hx hb d_Mac_decode_5 rfl (lv_at hl 0 rfl) ?_
  refine va_get (D := K.1) (ci := 9) (v := .long 256) (C := R_Mac) (T := T_Mac) (N := 16) hx hb hT in_Mac hown hK hP 0 rfl rfl 0 (by decide) (hT _ k_330) (fun _ h9 => h9) rfl d_Mac_decode_6 ?_
  refine mx_ci (wr := [(ma, .inr (9, [.long 256, .int 0, .int 0, .int 0, .int 0, .int 0, .int 0, .int 0, .int 0, .long 0, .long 0, .long 0, .int 0, .int 0, .ref me, .ref rg])), (rg, .inr (2, [.int 0, .int 0, .int 255, .ref ge, .ref sp, .ref sk])), (ge, .inl (K.2.1.1, 256, .inr (.inl (fun _ => 0))))]) F (mx_runV (As := [.long 256]) (rest := [.ref ma]) (n := 1) F (c_Mem_instruction l K me mo H.size) k_757 (Or.inl k_754) k_755 k_756 k_2 p_Mem_instruction rfl rfl hP hD hS [1, 2] rfl (by decide) (va_recv (q := (R_Mem, T_Mem, 1)) (ci := 1) (q0 := 1) hK hP rfl rfl) rfl hl.1 rfl (Nat.le_of_ble_eq_true rfl) ⟨by decide, by decide⟩ ⟨by decide, by decide⟩ d_Mac_decode_9) hP hD hS [1, 2] [0, 3, 4] rfl rfl (by decide) (by decide) (fun r2 _ H locs hq1 hP hD hS => ?_)
  obtain rfl : r2 = 0 := hq1
  have hP : va_P K.1 mx_cl [(ma, .inr (9, [.long 256, .int 0, .int 0, .int 0, .int 0, .int 0, .int 0, .int 0, .int 0, .long 0, .long 0, .long 0, .int 0, .int 0, .ref me, .ref rg])), (rg, .inr (2, [.int 0, .int 0, .int 255, .ref ge, .ref sp, .ref sk])), (ge, .inl (K.2.1.1, 256, .inr (.inl (fun _ => 0)))), (me, .inr (1, [.ref mo])), (mo, .inl (K.2.1.1, 512, .inr (.inl (fun _ => 0))))] H := hP
  have hD : va_D A [(ma, .inr (9, [.long 256, .int 0, .int 0, .int 0, .int 0, .int 0, .int 0, .int 0, .int 0, .long 0, .long 0, .long 0, .int 0, .int 0, .ref me, .ref rg])), (rg, .inr (2, [.int 0, .int 0, .int 255, .ref ge, .ref sp, .ref sk])), (ge, .inl (K.2.1.1, 256, .inr (.inl (fun _ => 0)))), (me, .inr (1, [.ref mo])), (mo, .inl (K.2.1.1, 512, .inr (.inl (fun _ => 0))))] := hD
  refine W.cs (cells' := 0) (slots' := 0) rfl rfl ?_
  refine va_put (D := K.1) (ci := 9) (v := .int 0) (ty := .int) (C := R_Mac) (T := T_Mac) (N := 16) hx hb hT in_Mac t_Mac t_Mac_ok n_Mac hown hK hP hD hS 0 rfl rfl 4 (by decide) (hT _ k_338) (fun _ h9 => h9) rfl (by decide +kernel) rfl rfl (Nat.le_of_ble_eq_true rfl) d_Mac_decode_12 (fun H locs hP hD hS => ?_)
  have hP : va_P K.1 mx_cl [(ma, .inr (9, [.long 256, .int 0, .int 0, .int 0, .int 0, .int 0, .int 0, .int 0, .int 0, .long 0, .long 0, .long 0, .int 0, .int 0, .ref me, .ref rg])), (rg, .inr (2, [.int 0, .int 0, .int 255, .ref ge, .ref sp, .ref sk])), (ge, .inl (K.2.1.1, 256, .inr (.inl (fun _ => 0)))), (me, .inr (1, [.ref mo])), (mo, .inl (K.2.1.1, 512, .inr (.inl (fun _ => 0))))] H := hP
  have hD : va_D A [(ma, .inr (9, [.long 256, .int 0, .int 0, .int 0, .int 0, .int 0, .int 0, .int 0, .int 0, .long 0, .long 0, .long 0, .int 0, .int 0, .ref me, .ref rg])), (rg, .inr (2, [.int 0, .int 0, .int 255, .ref ge, .ref sp, .ref sk])), (ge, .inl (K.2.1.1, 256, .inr (.inl (fun _ => 0)))), (me, .inr (1, [.ref mo])), (mo, .inl (K.2.1.1, 512, .inr (.inl (fun _ => 0))))] := hD
  refine lv_aload_n hx hb d_Mac_decode_15 rfl (lv_at hl 0 rfl) ?_
  refine lv_aload_n hx hb d_Mac_decode_16 rfl (lv_at hl 0 rfl) ?_
  refine va_get (D := K.1) (ci := 9) (v := .int 0) (C := R_Mac) (T := T_Mac) (N := 16) hx hb hT in_Mac hown hK hP 0 rfl rfl 4 (by decide) (hT _ k_338) (fun _ h9 => h9) rfl d_Mac_decode_17 ?_
  refine lv_bipush (v := 24) hx hb d_Mac_decode_20 (by decide) ?_
  refine lv_iushr (v := 0) hx hb d_Mac_decode_22 (by decide) ?_
  refine va_put (D := K.1) (ci := 9) (v := .int 0) (ty := .int) (C := R_Mac) (T := T_Mac) (N := 16) hx hb hT in_Mac t_Mac t_Mac_ok n_Mac hown hK hP hD hS 0 rfl rfl 5 (by decide) (hT _ k_339) (fun _ h9 => h9) rfl (by decide +kernel) rfl rfl (Nat.le_of_ble_eq_true rfl) d_Mac_decode_23 (fun H locs hP hD hS => ?_)
  have hP : va_P K.1 mx_cl [(ma, .inr (9, [.long 256, .int 0, .int 0, .int 0, .int 0, .int 0, .int 0, .int 0, .int 0, .long 0, .long 0, .long 0, .int 0, .int 0, .ref me, .ref rg])), (rg, .inr (2, [.int 0, .int 0, .int 255, .ref ge, .ref sp, .ref sk])), (ge, .inl (K.2.1.1, 256, .inr (.inl (fun _ => 0)))), (me, .inr (1, [.ref mo])), (mo, .inl (K.2.1.1, 512, .inr (.inl (fun _ => 0))))] H := hP
  have hD : va_D A [(ma, .inr (9, [.long 256, .int 0, .int 0, .int 0, .int 0, .int 0, .int 0, .int 0, .int 0, .long 0, .long 0, .long 0, .int 0, .int 0, .ref me, .ref rg])), (rg, .inr (2, [.int 0, .int 0, .int 255, .ref ge, .ref sp, .ref sk])), (ge, .inl (K.2.1.1, 256, .inr (.inl (fun _ => 0)))), (me, .inr (1, [.ref mo])), (mo, .inl (K.2.1.1, 512, .inr (.inl (fun _ => 0))))] := hD
  refine lv_aload_n hx hb d_Mac_decode_26 rfl (lv_at hl 0 rfl) ?_
  refine lv_aload_n hx hb d_Mac_decode_27 rfl (lv_at hl 0 rfl) ?_
  refine va_get (D := K.1) (ci := 9) (v := .int 0) (C := R_Mac) (T := T_Mac) (N := 16) hx hb hT in_Mac hown hK hP 0 rfl rfl 4 (by decide) (hT _ k_338) (fun _ h9 => h9) rfl d_Mac_decode_28 ?_
  refine lv_bipush (v := 16) hx hb d_Mac_decode_31 (by decide) ?_
  refine lv_iushr (v := 0) hx hb d_Mac_decode_33 (by decide) ?_
  refine lv_sipush (v := 255) hx hb d_Mac_decode_34 (by decide) ?_
  refine lv_iand hx hb d_Mac_decode_37 ?_
  refine lv_topi (fun z3 ez3 => ?_)
  obtain rfl : z3 = 0 := ez3.trans (by decide)
  refine va_put (D := K.1) (ci := 9) (v := .int 0) (ty := .int) (C := R_Mac) (T := T_Mac) (N := 16) hx hb hT in_Mac t_Mac t_Mac_ok n_Mac hown hK hP hD hS 0 rfl rfl 6 (by decide) (hT _ k_340) (fun _ h9 => h9) rfl (by decide +kernel) rfl rfl (Nat.le_of_ble_eq_true rfl) d_Mac_decode_38 (fun H locs hP hD hS => ?_)
  have hP : va_P K.1 mx_cl [(ma, .inr (9, [.long 256, .int 0, .int 0, .int 0, .int 0, .int 0, .int 0, .int 0, .int 0, .long 0, .long 0, .long 0, .int 0, .int 0, .ref me, .ref rg])), (rg, .inr (2, [.int 0, .int 0, .int 255, .ref ge, .ref sp, .ref sk])), (ge, .inl (K.2.1.1, 256, .inr (.inl (fun _ => 0)))), (me, .inr (1, [.ref mo])), (mo, .inl (K.2.1.1, 512, .inr (.inl (fun _ => 0))))] H := hP
  have hD : va_D A [(ma, .inr (9, [.long 256, .int 0, .int 0, .int 0, .int 0, .int 0, .int 0, .int 0, .int 0, .long 0, .long 0, .long 0, .int 0, .int 0, .ref me, .ref rg])), (rg, .inr (2, [.int 0, .int 0, .int 255, .ref ge, .ref sp, .ref sk])), (ge, .inl (K.2.1.1, 256, .inr (.inl (fun _ => 0)))), (me, .inr (1, [.ref mo])), (mo, .inl (K.2.1.1, 512, .inr (.inl (fun _ => 0))))] := hD
  refine lv_aload_n hx hb d_Mac_decode_41 rfl (lv_at hl 0 rfl) ?_
  refine lv_aload_n hx hb d_Mac_decode_42 rfl (lv_at hl 0 rfl) ?_
  refine va_get (D := K.1) (ci := 9) (v := .int 0) (C := R_Mac) (T := T_Mac) (N := 16) hx hb hT in_Mac hown hK hP 0 rfl rfl 4 (by decide) (hT _ k_338) (fun _ h9 => h9) rfl d_Mac_decode_43 ?_
  refine lv_bipush (v := 8) hx hb d_Mac_decode_46 (by decide) ?_
  refine lv_iushr (v := 0) hx hb d_Mac_decode_48 (by decide) ?_
  refine lv_sipush (v := 255) hx hb d_Mac_decode_49 (by decide) ?_
  refine lv_iand hx hb d_Mac_decode_52 ?_
  refine lv_topi (fun z4 ez4 => ?_)
  obtain rfl : z4 = 0 := ez4.trans (by decide)
  refine va_put (D := K.1) (ci := 9) (v := .int 0) (ty := .int) (C := R_Mac) (T := T_Mac) (N := 16) hx hb hT in_Mac t_Mac t_Mac_ok n_Mac hown hK hP hD hS 0 rfl rfl 7 (by decide) (hT _ k_341) (fun _ h9 => h9) rfl (by decide +kernel) rfl rfl (Nat.le_of_ble_eq_true rfl) d_Mac_decode_53 (fun H locs hP hD hS => ?_)
  have hP : va_P K.1 mx_cl [(ma, .inr (9, [.long 256, .int 0, .int 0, .int 0, .int 0, .int 0, .int 0, .int 0, .int 0, .long 0, .long 0, .long 0, .int 0, .int 0, .ref me, .ref rg])), (rg, .inr (2, [.int 0, .int 0, .int 255, .ref ge, .ref sp, .ref sk])), (ge, .inl (K.2.1.1, 256, .inr (.inl (fun _ => 0)))), (me, .inr (1, [.ref mo])), (mo, .inl (K.2.1.1, 512, .inr (.inl (fun _ => 0))))] H := hP
  have hD : va_D A [(ma, .inr (9, [.long 256, .int 0, .int 0, .int 0, .int 0, .int 0, .int 0, .int 0, .int 0, .long 0, .long 0, .long 0, .int 0, .int 0, .ref me, .ref rg])), (rg, .inr (2, [.int 0, .int 0, .int 255, .ref ge, .ref sp, .ref sk])), (ge, .inl (K.2.1.1, 256, .inr (.inl (fun _ => 0)))), (me, .inr (1, [.ref mo])), (mo, .inl (K.2.1.1, 512, .inr (.inl (fun _ => 0))))] := hD
  refine lv_aload_n hx hb d_Mac_decode_56 rfl (lv_at hl 0 rfl) ?_
  refine lv_aload_n hx hb d_Mac_decode_57 rfl (lv_at hl 0 rfl) ?_
  refine va_get (D := K.1) (ci := 9) (v := .int 0) (C := R_Mac) (T := T_Mac) (N := 16) hx hb hT in_Mac hown hK hP 0 rfl rfl 4 (by decide) (hT _ k_338) (fun _ h9 => h9) rfl d_Mac_decode_58 ?_
  refine lv_sipush (v := 255) hx hb d_Mac_decode_61 (by decide) ?_
  refine lv_iand hx hb d_Mac_decode_64 ?_
  refine lv_topi (fun z5 ez5 => ?_)
  obtain rfl : z5 = 0 := ez5.trans (by decide)
  refine va_put (D := K.1) (ci := 9) (v := .int 0) (ty := .int) (C := R_Mac) (T := T_Mac) (N := 16) hx hb hT in_Mac t_Mac t_Mac_ok n_Mac hown hK hP hD hS 0 rfl rfl 8 (by decide) (hT _ k_342) (fun _ h9 => h9) rfl (by decide +kernel) rfl rfl (Nat.le_of_ble_eq_true rfl) d_Mac_decode_65 (fun H locs hP hD hS => ?_)
  have hP : va_P K.1 mx_cl [(ma, .inr (9, [.long 256, .int 0, .int 0, .int 0, .int 0, .int 0, .int 0, .int 0, .int 0, .long 0, .long 0, .long 0, .int 0, .int 0, .ref me, .ref rg])), (rg, .inr (2, [.int 0, .int 0, .int 255, .ref ge, .ref sp, .ref sk])), (ge, .inl (K.2.1.1, 256, .inr (.inl (fun _ => 0)))), (me, .inr (1, [.ref mo])), (mo, .inl (K.2.1.1, 512, .inr (.inl (fun _ => 0))))] H := hP
  have hD : va_D A [(ma, .inr (9, [.long 256, .int 0, .int 0, .int 0, .int 0, .int 0, .int 0, .int 0, .int 0, .long 0, .long 0, .long 0, .int 0, .int 0, .ref me, .ref rg])), (rg, .inr (2, [.int 0, .int 0, .int 255, .ref ge, .ref sp, .ref sk])), (ge, .inl (K.2.1.1, 256, .inr (.inl (fun _ => 0)))), (me, .inr (1, [.ref mo])), (mo, .inl (K.2.1.1, 512, .inr (.inl (fun _ => 0))))] := hD
  refine lv_aload_n hx hb d_Mac_decode_68 rfl (lv_at hl 0 rfl) ?_
  refine lv_aload_n hx hb d_Mac_decode_69 rfl (lv_at hl 0 rfl) ?_
  refine va_get (D := K.1) (ci := 9) (v := .ref rg) (C := R_Mac) (T := T_Mac) (N := 16) hx hb hT in_Mac hown hK hP 0 rfl rfl 15 (by decide) (hT _ k_329) (fun _ h9 => h9) rfl d_Mac_decode_70 ?_
  refine lv_aload_n hx hb d_Mac_decode_73 rfl (lv_at hl 0 rfl) ?_
  refine va_get (D := K.1) (ci := 9) (v := .int 0) (C := R_Mac) (T := T_Mac) (N := 16) hx hb hT in_Mac hown hK hP 0 rfl rfl 7 (by decide) (hT _ k_341) (fun _ h9 => h9) rfl d_Mac_decode_74 ?_
  refine mx_cj (wr := [(ma, .inr (9, [.long 256, .int 0, .int 0, .int 0, .int 0, .int 0, .int 0, .int 0, .int 0, .long 0, .long 0, .long 0, .int 0, .int 0, .ref me, .ref rg])), (me, .inr (1, [.ref mo])), (mo, .inl (K.2.1.1, 512, .inr (.inl (fun _ => 0))))]) F (mx_runV (As := [.int 0]) (rest := [.ref ma]) (n := 1) F (c_Reg_read l K rg 0 ge sp sk H.size) k_762 (Or.inl k_759) k_760 k_761 k_3 p_Reg_read rfl rfl hP hD hS [1, 2] rfl (by decide) (va_recv (q := (R_Reg, T_Reg, 6)) (ci := 2) (q0 := 1) hK hP rfl rfl) rfl hl.1 rfl (Nat.le_of_ble_eq_true rfl) ⟨by decide, by decide⟩ ⟨by decide, by decide⟩ d_Mac_decode_77) hP hD hS [1, 2] [0, 3, 4] rfl rfl (by decide) (by decide) (fun r7 _ H locs hq6 hP hD hS => ?_)
  obtain rfl : r7 = 0 := hq6
  have hP : va_P K.1 mx_cl [(ma, .inr (9, [.long 256, .int 0, .int 0, .int 0, .int 0, .int 0, .int 0, .int 0, .int 0, .long 0, .long 0, .long 0, .int 0, .int 0, .ref me, .ref rg])), (me, .inr (1, [.ref mo])), (mo, .inl (K.2.1.1, 512, .inr (.inl (fun _ => 0)))), (rg, .inr (2, [.int 0, .int 0, .int 255, .ref ge, .ref sp, .ref sk])), (ge, .inl (K.2.1.1, 256, .inr (.inl (fun _ => 0))))] H := hP
  have hD : va_D A [(ma, .inr (9, [.long 256, .int 0, .int 0, .int 0, .int 0, .int 0, .int 0, .int 0, .int 0, .long 0, .long 0, .long 0, .int 0, .int 0, .ref me, .ref rg])), (me, .inr (1, [.ref mo])), (mo, .inl (K.2.1.1, 512, .inr (.inl (fun _ => 0)))), (rg, .inr (2, [.int 0, .int 0, .int 255, .ref ge, .ref sp, .ref sk])), (ge, .inl (K.2.1.1, 256, .inr (.inl (fun _ => 0))))] := hD
  refine W.cs (cells' := 0) (slots' := 0) rfl rfl ?_
  refine va_put (D := K.1) (ci := 9) (v := .long 0) (ty := .long) (C := R_Mac) (T := T_Mac) (N := 16) hx hb hT in_Mac t_Mac t_Mac_ok n_Mac hown hK hP hD hS 0 rfl rfl 9 (by decide) (hT _ k_343) (fun _ h9 => h9) rfl (by decide +kernel) rfl rfl (Nat.le_of_ble_eq_true rfl) d_Mac_decode_80 (fun H locs hP hD hS => ?_)
  have hP : va_P K.1 mx_cl [(ma, .inr (9, [.long 256, .int 0, .int 0, .int 0, .int 0, .int 0, .int 0, .int 0, .int 0, .long 0, .long 0, .long 0, .int 0, .int 0, .ref me, .ref rg])), (me, .inr (1, [.ref mo])), (mo, .inl (K.2.1.1, 512, .inr (.inl (fun _ => 0)))), (rg, .inr (2, [.int 0, .int 0, .int 255, .ref ge, .ref sp, .ref sk])), (ge, .inl (K.2.1.1, 256, .inr (.inl (fun _ => 0))))] H := hP
  have hD : va_D A [(ma, .inr (9, [.long 256, .int 0, .int 0, .int 0, .int 0, .int 0, .int 0, .int 0, .int 0, .long 0, .long 0, .long 0, .int 0, .int 0, .ref me, .ref rg])), (me, .inr (1, [.ref mo])), (mo, .inl (K.2.1.1, 512, .inr (.inl (fun _ => 0)))), (rg, .inr (2, [.int 0, .int 0, .int 255, .ref ge, .ref sp, .ref sk])), (ge, .inl (K.2.1.1, 256, .inr (.inl (fun _ => 0))))] := hD
  refine lv_aload_n hx hb d_Mac_decode_83 rfl (lv_at hl 0 rfl) ?_
  refine lv_aload_n hx hb d_Mac_decode_84 rfl (lv_at hl 0 rfl) ?_
  refine va_get (D := K.1) (ci := 9) (v := .int 0) (C := R_Mac) (T := T_Mac) (N := 16) hx hb hT in_Mac hown hK hP 0 rfl rfl 5 (by decide) (hT _ k_339) (fun _ h9 => h9) rfl d_Mac_decode_85 ?_
  refine lv_iconst (v := 1) hx hb d_Mac_decode_88 (by decide) ?_
  refine lv_iand hx hb d_Mac_decode_89 ?_
  refine lv_topi (fun z8 ez8 => ?_)
  obtain rfl : z8 = 0 := ez8.trans (by decide)
  refine lv_if_ne (tgt := 107) hx hb d_Mac_decode_90 (by decide) (fun h => absurd h (by decide)) (fun _ => ?_)
  refine lv_aload_n hx hb d_Mac_decode_93 rfl (lv_at hl 0 rfl) ?_
  refine va_get (D := K.1) (ci := 9) (v := .ref rg) (C := R_Mac) (T := T_Mac) (N := 16) hx hb hT in_Mac hown hK hP 0 rfl rfl 15 (by decide) (hT _ k_329) (fun _ h9 => h9) rfl d_Mac_decode_94 ?_
  refine lv_aload_n hx hb d_Mac_decode_97 rfl (lv_at hl 0 rfl) ?_
  refine va_get (D := K.1) (ci := 9) (v := .int 0) (C := R_Mac) (T := T_Mac) (N := 16) hx hb hT in_Mac hown hK hP 0 rfl rfl 8 (by decide) (hT _ k_342) (fun _ h9 => h9) rfl d_Mac_decode_98 ?_
  refine mx_cj (wr := [(ma, .inr (9, [.long 256, .int 0, .int 0, .int 0, .int 0, .int 0, .int 0, .int 0, .int 0, .long 0, .long 0, .long 0, .int 0, .int 0, .ref me, .ref rg])), (me, .inr (1, [.ref mo])), (mo, .inl (K.2.1.1, 512, .inr (.inl (fun _ => 0))))]) F (mx_runV (As := [.int 0]) (rest := [.ref ma]) (n := 1) F (c_Reg_read l K rg 0 ge sp sk H.size) k_762 (Or.inl k_759) k_760 k_761 k_3 p_Reg_read rfl rfl hP hD hS [3, 4] rfl (by decide) (va_recv (q := (R_Reg, T_Reg, 6)) (ci := 2) (q0 := 3) hK hP rfl rfl) rfl hl.1 rfl (Nat.le_of_ble_eq_true rfl) ⟨by decide, by decide⟩ ⟨by decide, by decide⟩ d_Mac_decode_101) hP hD hS [3, 4] [0, 1, 2] rfl rfl (by decide) (by decide) (fun r11 _ H locs hq10 hP hD hS => ?_)
  obtain rfl : r11 = 0 := hq10
  have hP : va_P K.1 mx_cl [(ma, .inr (9, [.long 256, .int 0, .int 0, .int 0, .int 0, .int 0, .int 0, .int 0, .int 0, .long 0, .long 0, .long 0, .int 0, .int 0, .ref me, .ref rg])), (me, .inr (1, [.ref mo])), (mo, .inl (K.2.1.1, 512, .inr (.inl (fun _ => 0)))), (rg, .inr (2, [.int 0, .int 0, .int 255, .ref ge, .ref sp, .ref sk])), (ge, .inl (K.2.1.1, 256, .inr (.inl (fun _ => 0))))] H := hP
  have hD : va_D A [(ma, .inr (9, [.long 256, .int 0, .int 0, .int 0, .int 0, .int 0, .int 0, .int 0, .int 0, .long 0, .long 0, .long 0, .int 0, .int 0, .ref me, .ref rg])), (me, .inr (1, [.ref mo])), (mo, .inl (K.2.1.1, 512, .inr (.inl (fun _ => 0)))), (rg, .inr (2, [.int 0, .int 0, .int 255, .ref ge, .ref sp, .ref sk])), (ge, .inl (K.2.1.1, 256, .inr (.inl (fun _ => 0))))] := hD
  refine W.cs (cells' := 0) (slots' := 0) rfl rfl ?_
  refine lv_goto (tgt := 112) hx hb d_Mac_decode_104 (by decide) ?_
  refine va_put (D := K.1) (ci := 9) (v := .long 0) (ty := .long) (C := R_Mac) (T := T_Mac) (N := 16) hx hb hT in_Mac t_Mac t_Mac_ok n_Mac hown hK hP hD hS 0 rfl rfl 10 (by decide) (hT _ k_344) (fun _ h9 => h9) rfl (by decide +kernel) rfl rfl (Nat.le_of_ble_eq_true rfl) d_Mac_decode_112 (fun H locs hP hD hS => ?_)
  have hP : va_P K.1 mx_cl [(ma, .inr (9, [.long 256, .int 0, .int 0, .int 0, .int 0, .int 0, .int 0, .int 0, .int 0, .long 0, .long 0, .long 0, .int 0, .int 0, .ref me, .ref rg])), (me, .inr (1, [.ref mo])), (mo, .inl (K.2.1.1, 512, .inr (.inl (fun _ => 0)))), (rg, .inr (2, [.int 0, .int 0, .int 255, .ref ge, .ref sp, .ref sk])), (ge, .inl (K.2.1.1, 256, .inr (.inl (fun _ => 0))))] H := hP
  have hD : va_D A [(ma, .inr (9, [.long 256, .int 0, .int 0, .int 0, .int 0, .int 0, .int 0, .int 0, .int 0, .long 0, .long 0, .long 0, .int 0, .int 0, .ref me, .ref rg])), (me, .inr (1, [.ref mo])), (mo, .inl (K.2.1.1, 512, .inr (.inl (fun _ => 0)))), (rg, .inr (2, [.int 0, .int 0, .int 255, .ref ge, .ref sp, .ref sk])), (ge, .inl (K.2.1.1, 256, .inr (.inl (fun _ => 0))))] := hD
  refine lv_aload_n hx hb d_Mac_decode_115 rfl (lv_at hl 0 rfl) ?_
  refine lv_aload_n hx hb d_Mac_decode_116 rfl (lv_at hl 0 rfl) ?_
  refine va_get (D := K.1) (ci := 9) (v := .long 256) (C := R_Mac) (T := T_Mac) (N := 16) hx hb hT in_Mac hown hK hP 0 rfl rfl 0 (by decide) (hT _ k_330) (fun _ h9 => h9) rfl d_Mac_decode_117 ?_
  refine lv_ldc2 (v := 4) hx hb hown (hT _ k_763) d_Mac_decode_120 ?_
  refine lv_ladd hx hb d_Mac_decode_123 ?_
  refine lv_topl (fun z12 ez12 => ?_)
  obtain rfl : z12 = 260 := ez12.trans (by decide)
  refine va_put (D := K.1) (ci := 9) (v := .long 260) (ty := .long) (C := R_Mac) (T := T_Mac) (N := 16) hx hb hT in_Mac t_Mac t_Mac_ok n_Mac hown hK hP hD hS 0 rfl rfl 11 (by decide) (hT _ k_345) (fun _ h9 => h9) rfl (by decide +kernel) rfl rfl (Nat.le_of_ble_eq_true rfl) d_Mac_decode_124 (fun H locs hP hD hS => ?_)
  have hP : va_P K.1 mx_cl [(ma, .inr (9, [.long 256, .int 0, .int 0, .int 0, .int 0, .int 0, .int 0, .int 0, .int 0, .long 0, .long 0, .long 260, .int 0, .int 0, .ref me, .ref rg])), (me, .inr (1, [.ref mo])), (mo, .inl (K.2.1.1, 512, .inr (.inl (fun _ => 0)))), (rg, .inr (2, [.int 0, .int 0, .int 255, .ref ge, .ref sp, .ref sk])), (ge, .inl (K.2.1.1, 256, .inr (.inl (fun _ => 0))))] H := hP
  have hD : va_D A [(ma, .inr (9, [.long 256, .int 0, .int 0, .int 0, .int 0, .int 0, .int 0, .int 0, .int 0, .long 0, .long 0, .long 260, .int 0, .int 0, .ref me, .ref rg])), (me, .inr (1, [.ref mo])), (mo, .inl (K.2.1.1, 512, .inr (.inl (fun _ => 0)))), (rg, .inr (2, [.int 0, .int 0, .int 255, .ref ge, .ref sp, .ref sk])), (ge, .inl (K.2.1.1, 256, .inr (.inl (fun _ => 0))))] := hD
  refine lv_aload_n hx hb d_Mac_decode_127 rfl (lv_at hl 0 rfl) ?_
  refine lv_iconst (v := 1) hx hb d_Mac_decode_128 (by decide) ?_
  refine va_put (D := K.1) (ci := 9) (v := .int 1) (ty := .int) (C := R_Mac) (T := T_Mac) (N := 16) hx hb hT in_Mac t_Mac t_Mac_ok n_Mac hown hK hP hD hS 0 rfl rfl 12 (by decide) (hT _ k_346) (fun _ h9 => h9) rfl (by decide +kernel) rfl rfl (Nat.le_of_ble_eq_true rfl) d_Mac_decode_129 (fun H locs hP hD hS => ?_)
  have hP : va_P K.1 mx_cl [(ma, .inr (9, [.long 256, .int 0, .int 0, .int 0, .int 0, .int 0, .int 0, .int 0, .int 0, .long 0, .long 0, .long 260, .int 1, .int 0, .ref me, .ref rg])), (me, .inr (1, [.ref mo])), (mo, .inl (K.2.1.1, 512, .inr (.inl (fun _ => 0)))), (rg, .inr (2, [.int 0, .int 0, .int 255, .ref ge, .ref sp, .ref sk])), (ge, .inl (K.2.1.1, 256, .inr (.inl (fun _ => 0))))] H := hP
  have hD : va_D A [(ma, .inr (9, [.long 256, .int 0, .int 0, .int 0, .int 0, .int 0, .int 0, .int 0, .int 0, .long 0, .long 0, .long 260, .int 1, .int 0, .ref me, .ref rg])), (me, .inr (1, [.ref mo])), (mo, .inl (K.2.1.1, 512, .inr (.inl (fun _ => 0)))), (rg, .inr (2, [.int 0, .int 0, .int 255, .ref ge, .ref sp, .ref sk])), (ge, .inl (K.2.1.1, 256, .inr (.inl (fun _ => 0))))] := hD
  refine lv_aload_n hx hb d_Mac_decode_132 rfl (lv_at hl 0 rfl) ?_
  refine lv_iconst (v := 0) hx hb d_Mac_decode_133 (by decide) ?_
  refine va_put (D := K.1) (ci := 9) (v := .int 0) (ty := .int) (C := R_Mac) (T := T_Mac) (N := 16) hx hb hT in_Mac t_Mac t_Mac_ok n_Mac hown hK hP hD hS 0 rfl rfl 13 (by decide) (hT _ k_347) (fun _ h9 => h9) rfl (by decide +kernel) rfl rfl (Nat.le_of_ble_eq_true rfl) d_Mac_decode_134 (fun H locs hP hD hS => ?_)
  have hP : va_P K.1 mx_cl [(ma, .inr (9, [.long 256, .int 0, .int 0, .int 0, .int 0, .int 0, .int 0, .int 0, .int 0, .long 0, .long 0, .long 260, .int 1, .int 0, .ref me, .ref rg])), (me, .inr (1, [.ref mo])), (mo, .inl (K.2.1.1, 512, .inr (.inl (fun _ => 0)))), (rg, .inr (2, [.int 0, .int 0, .int 255, .ref ge, .ref sp, .ref sk])), (ge, .inl (K.2.1.1, 256, .inr (.inl (fun _ => 0))))] H := hP
  have hD : va_D A [(ma, .inr (9, [.long 256, .int 0, .int 0, .int 0, .int 0, .int 0, .int 0, .int 0, .int 0, .long 0, .long 0, .long 260, .int 1, .int 0, .ref me, .ref rg])), (me, .inr (1, [.ref mo])), (mo, .inl (K.2.1.1, 512, .inr (.inl (fun _ => 0)))), (rg, .inr (2, [.int 0, .int 0, .int 255, .ref ge, .ref sp, .ref sk])), (ge, .inl (K.2.1.1, 256, .inr (.inl (fun _ => 0))))] := hD
  exact mx_rv F hr hlk hP hD hS () [0] rfl (by decide) trivial (by decide) (by decide) d_Mac_decode_137
set_option maxHeartbeats 4000000 in
set_option maxRecDepth 100000 in
theorem c_Mac_execute (l : Launch) (K : mx_K) (ma : Nat) (me : Nat) (rg : Nat) (sz : Nat) : mx_I l y_Mac_execute b_Mac_execute 1 .int { frames := 0, cells := 0, slots := 0, locals := 0 } K [.ref ma] [(ma, .inr (9, [.long 256, .int 0, .int 0, .int 0, .int 0, .int 0, .int 0, .int 0, .int 0, .long 0, .long 0, .long 260, .int 1, .int 0, .ref me, .ref rg]))] sz (fun (r : Int32) (u : Unit) => r = 5) (fun u : Unit => [(ma, .inr (9, [.long 256, .int 0, .int 0, .int 0, .int 0, .int 0, .int 0, .int 0, .int 0, .long 0, .long 0, .long 260, .int 1, .int 0, .ref me, .ref rg]))]) := by
  refine mx_of (by decide) (Nat.le_of_ble_eq_true rfl) ?_
  intro p e s m below meth c A ls H locs hAe F hr hlk hin hsz hP hD hS hl
  rw [hAe]
  have hl : lv_has ls 1 [(0, .ref ma)] := hl
  obtain ⟨hx, hb, hml, hown, hT, hK, hN, hE, hA⟩ := id F
  refine lv_aload_n hx hb d_Mac_execute_0 rfl (lv_at hl 0 rfl) ?_
  refine va_get (D := K.1) (ci := 9) (v := .int 0) (C := R_Mac) (T := T_Mac) (N := 16) hx hb hT in_Mac hown hK hP 0 rfl rfl 5 (by decide) (hT _ k_339) (fun _ h9 => h9) rfl d_Mac_execute_1 ?_
  refine lv_if_ne (tgt := 27) hx hb d_Mac_execute_4 (by decide) (fun h => absurd h (by decide)) (fun _ => ?_)
  refine lv_aload_n hx hb d_Mac_execute_7 rfl (lv_at hl 0 rfl) ?_
  refine va_get (D := K.1) (ci := 9) (v := .int 0) (C := R_Mac) (T := T_Mac) (N := 16) hx hb hT in_Mac hown hK hP 0 rfl rfl 6 (by decide) (hT _ k_340) (fun _ h9 => h9) rfl d_Mac_execute_8 ?_
  refine lv_if_ne (tgt := 25) hx hb d_Mac_execute_11 (by decide) (fun h => absurd h (by decide)) (fun _ => ?_)
  refine lv_aload_n hx hb d_Mac_execute_14 rfl (lv_at hl 0 rfl) ?_
  refine va_get (D := K.1) (ci := 9) (v := .int 0) (C := R_Mac) (T := T_Mac) (N := 16) hx hb hT in_Mac hown hK hP 0 rfl rfl 7 (by decide) (hT _ k_341) (fun _ h9 => h9) rfl d_Mac_execute_15 ?_
  refine lv_if_ne (tgt := 25) hx hb d_Mac_execute_18 (by decide) (fun h => absurd h (by decide)) (fun _ => ?_)
  refine lv_iconst (v := 5) hx hb d_Mac_execute_21 (by decide) ?_
  refine lv_goto (tgt := 26) hx hb d_Mac_execute_22 (by decide) ?_
  exact mx_ri F hr hlk rfl hP hD hS () [0] rfl (by decide) rfl (by decide) (by decide) d_Mac_execute_26
set_option maxHeartbeats 4000000 in
set_option maxRecDepth 100000 in
theorem c_Mac_step (l : Launch) (K : mx_K) (ma : Nat) (me : Nat) (rg : Nat) (mo : Nat) (ge : Nat) (sp : Nat) (sk : Nat) (sz : Nat) : mx_V l y_Mac_step b_Mac_step 1 { frames := 4, cells := 0, slots := 0, locals := 90 } K [.ref ma] [(ma, .inr (9, [.long 256, .int 0, .int 0, .int 0, .int 0, .int 0, .int 0, .int 0, .int 0, .long 0, .long 0, .long 0, .int 0, .int 0, .ref me, .ref rg])), (me, .inr (1, [.ref mo])), (mo, .inl (K.2.1.1, 512, .inr (.inl (fun _ => 0)))), (rg, .inr (2, [.int 0, .int 0, .int 255, .ref ge, .ref sp, .ref sk])), (ge, .inl (K.2.1.1, 256, .inr (.inl (fun _ => 0))))] sz (fun u : Unit => True) (fun u : Unit => [(ma, .inr (9, [.long 256, .int 5, .int 0, .int 0, .int 0, .int 0, .int 0, .int 0, .int 0, .long 0, .long 0, .long 260, .int 1, .int 0, .ref me, .ref rg]))]) := by
  refine mx_of (by decide) (Nat.le_of_ble_eq_true rfl) ?_
  intro p e s m below meth c A ls H locs hAe F hr hlk hin hsz hP hD hS hl
  rw [hAe]
  have hl : lv_has ls 1 [(0, .ref ma)] := hl
  obtain ⟨hx, hb, hml, hown, hT, hK, hN, hE, hA⟩ := id F
  refine lv_aload_n hx hb d_Mac_step_0 rfl (lv_at hl 0 rfl) ?_
  refine va_get (D := K.1) (ci := 9) (v := .ref me) (C := R_Mac) (T := T_Mac) (N := 16) hx hb hT in_Mac hown hK hP 0 rfl rfl 14 (by decide) (hT _ k_328) (fun _ h9 => h9) rfl d_Mac_step_1 ?_
  refine lv_aload_n hx hb d_Mac_step_4 rfl (lv_at hl 0 rfl) ?_
  refine va_get (D := K.1) (ci := 9) (v := .long 256) (C := R_Mac) (T := T_Mac) (N := 16) hx hb hT in_Mac hown hK hP 0 rfl rfl 0 (by decide) (hT _ k_330) (fun _ h9 => h9) rfl d_Mac_step_5 ?_
  refine lv_iconst (v := 4) hx hb d_Mac_step_8 (by decide) ?_
  refine mx_ci (wr := [(ma, .inr (9, [.long 256, .int 0, .int 0, .int 0, .int 0, .int 0, .int 0, .int 0, .int 0, .long 0, .long 0, .long 0, .int 0, .int 0, .ref me, .ref rg])), (me, .inr (1, [.ref mo])), (mo, .inl (K.2.1.1, 512, .inr (.inl (fun _ => 0)))), (rg, .inr (2, [.int 0, .int 0, .int 255, .ref ge, .ref sp, .ref sk])), (ge, .inl (K.2.1.1, 256, .inr (.inl (fun _ => 0))))]) F (mx_runV (As := [.long 256, .int 4]) (rest := []) (n := 2) F (c_Mem_holds l K me 256 4 H.size) k_607 (Or.inl k_749) k_605 k_606 k_2 p_Mem_holds rfl rfl hP hD hS [] rfl (by decide) (va_recv (q := (R_Mem, T_Mem, 1)) (ci := 1) (q0 := 1) hK hP rfl rfl) rfl hl.1 rfl (Nat.le_of_ble_eq_true rfl) ⟨by decide, by decide⟩ ⟨by decide, by decide⟩ d_Mac_step_9) hP hD hS [] [0, 1, 2, 3, 4] rfl rfl (by decide) (by decide) (fun r2 _ H locs hq1 hP hD hS => ?_)
  obtain rfl : r2 = mx_holds 256 4 := hq1
  have hP : va_P K.1 mx_cl [(ma, .inr (9, [.long 256, .int 0, .int 0, .int 0, .int 0, .int 0, .int 0, .int 0, .int 0, .long 0, .long 0, .long 0, .int 0, .int 0, .ref me, .ref rg])), (me, .inr (1, [.ref mo])), (mo, .inl (K.2.1.1, 512, .inr (.inl (fun _ => 0)))), (rg, .inr (2, [.int 0, .int 0, .int 255, .ref ge, .ref sp, .ref sk])), (ge, .inl (K.2.1.1, 256, .inr (.inl (fun _ => 0))))] H := hP
  have hD : va_D A [(ma, .inr (9, [.long 256, .int 0, .int 0, .int 0, .int 0, .int 0, .int 0, .int 0, .int 0, .long 0, .long 0, .long 0, .int 0, .int 0, .ref me, .ref rg])), (me, .inr (1, [.ref mo])), (mo, .inl (K.2.1.1, 512, .inr (.inl (fun _ => 0)))), (rg, .inr (2, [.int 0, .int 0, .int 255, .ref ge, .ref sp, .ref sk])), (ge, .inl (K.2.1.1, 256, .inr (.inl (fun _ => 0))))] := hD
  refine W.cs (cells' := 0) (slots' := 0) rfl rfl ?_
  refine lv_if_ne (tgt := 21) hx hb d_Mac_step_12 (by decide) (fun h3 => ?_) (fun h => absurd h (show ¬ mx_holds 256 4 = 0 from by decide))
  refine lv_aload_n hx hb d_Mac_step_21 rfl (lv_at hl 0 rfl) ?_
  refine mx_cv (wr := []) F (mx_runV (As := []) (rest := []) (n := 0) F (c_Mac_decode l K ma me rg mo ge sp sk H.size) k_753 (Or.inl k_750) k_752 s_Mac_decode k_14 p_Mac_decode rfl rfl hP hD hS [0, 1, 2, 3, 4] rfl (by decide) (va_recv (q := (R_Mac, T_Mac, 16)) (ci := 9) (q0 := 0) hK hP rfl rfl) rfl hl.1 rfl (Nat.le_of_ble_eq_true rfl) ⟨by decide, by decide⟩ ⟨by decide, by decide⟩ d_Mac_step_22) hP hD hS [0, 1, 2, 3, 4] [] rfl rfl (by decide) (by decide) (fun _ H locs hq4 hP hD hS => ?_)
  have hP : va_P K.1 mx_cl [(ma, .inr (9, [.long 256, .int 0, .int 0, .int 0, .int 0, .int 0, .int 0, .int 0, .int 0, .long 0, .long 0, .long 260, .int 1, .int 0, .ref me, .ref rg]))] H := hP
  have hD : va_D A [(ma, .inr (9, [.long 256, .int 0, .int 0, .int 0, .int 0, .int 0, .int 0, .int 0, .int 0, .long 0, .long 0, .long 260, .int 1, .int 0, .ref me, .ref rg]))] := hD
  refine W.cs (cells' := 0) (slots' := 0) rfl rfl ?_
  refine lv_aload_n hx hb d_Mac_step_25 rfl (lv_at hl 0 rfl) ?_
  refine lv_aload_n hx hb d_Mac_step_26 rfl (lv_at hl 0 rfl) ?_
  refine mx_ci (wr := []) F (mx_runV (As := []) (rest := [.ref ma]) (n := 0) F (c_Mac_execute l K ma me rg H.size) k_767 (Or.inl k_764) k_766 s_Mac_execute k_14 p_Mac_execute rfl rfl hP hD hS [0] rfl (by decide) (va_recv (q := (R_Mac, T_Mac, 16)) (ci := 9) (q0 := 0) hK hP rfl rfl) rfl hl.1 rfl (Nat.le_of_ble_eq_true rfl) ⟨by decide, by decide⟩ ⟨by decide, by decide⟩ d_Mac_step_27) hP hD hS [0] [] rfl rfl (by decide) (by decide) (fun r7 _ H locs hq6 hP hD hS => ?_)
  obtain rfl : r7 = 5 := hq6
  have hP : va_P K.1 mx_cl [(ma, .inr (9, [.long 256, .int 0, .int 0, .int 0, .int 0, .int 0, .int 0, .int 0, .int 0, .long 0, .long 0, .long 260, .int 1, .int 0, .ref me, .ref rg]))] H := hP
  have hD : va_D A [(ma, .inr (9, [.long 256, .int 0, .int 0, .int 0, .int 0, .int 0, .int 0, .int 0, .int 0, .long 0, .long 0, .long 260, .int 1, .int 0, .ref me, .ref rg]))] := hD
  refine W.cs (cells' := 0) (slots' := 0) rfl rfl ?_
  refine va_put (D := K.1) (ci := 9) (v := .int 5) (ty := .int) (C := R_Mac) (T := T_Mac) (N := 16) hx hb hT in_Mac t_Mac t_Mac_ok n_Mac hown hK hP hD hS 0 rfl rfl 1 (by decide) (hT _ k_332) (fun _ h9 => h9) rfl (by decide +kernel) rfl rfl (Nat.le_of_ble_eq_true rfl) d_Mac_step_30 (fun H locs hP hD hS => ?_)
  have hP : va_P K.1 mx_cl [(ma, .inr (9, [.long 256, .int 5, .int 0, .int 0, .int 0, .int 0, .int 0, .int 0, .int 0, .long 0, .long 0, .long 260, .int 1, .int 0, .ref me, .ref rg]))] H := hP
  have hD : va_D A [(ma, .inr (9, [.long 256, .int 5, .int 0, .int 0, .int 0, .int 0, .int 0, .int 0, .int 0, .long 0, .long 0, .long 260, .int 1, .int 0, .ref me, .ref rg]))] := hD
  refine lv_aload_n hx hb d_Mac_step_33 rfl (lv_at hl 0 rfl) ?_
  refine va_get (D := K.1) (ci := 9) (v := .int 5) (C := R_Mac) (T := T_Mac) (N := 16) hx hb hT in_Mac hown hK hP 0 rfl rfl 1 (by decide) (hT _ k_332) (fun _ h9 => h9) rfl d_Mac_step_34 ?_
  refine lv_if_eq (tgt := 41) hx hb d_Mac_step_37 (by decide) (fun h => absurd h (by decide)) (fun _ => ?_)
  exact mx_rv F hr hlk hP hD hS () [0] rfl (by decide) trivial (by decide) (by decide) d_Mac_step_40
set_option maxHeartbeats 4000000 in
set_option maxRecDepth 100000 in
theorem c_Mac_go (l : Launch) (K : mx_K) (ma : Nat) (n : Int32) (me : Nat) (rg : Nat) (mo : Nat) (ge : Nat) (sp : Nat) (sk : Nat) (sz : Nat) : mx_I l y_Mac_go b_Mac_go 4 .int { frames := 5, cells := 0, slots := 0, locals := 110 } K [.ref ma, .int n] [(ma, .inr (9, [.long 256, .int 0, .int 0, .int 0, .int 0, .int 0, .int 0, .int 0, .int 0, .long 0, .long 0, .long 0, .int 0, .int 0, .ref me, .ref rg])), (me, .inr (1, [.ref mo])), (mo, .inl (K.2.1.1, 512, .inr (.inl (fun _ => 0)))), (rg, .inr (2, [.int 0, .int 0, .int 255, .ref ge, .ref sp, .ref sk])), (ge, .inl (K.2.1.1, 256, .inr (.inl (fun _ => 0))))] sz (fun (r : Int32) (u : Unit) => r = 0) (fun u : Unit => []) := by
  refine mx_of (by decide) (Nat.le_of_ble_eq_true rfl) ?_
  intro p e s m below meth c A ls H locs hAe F hr hlk hin hsz hP hD hS hl
  rw [hAe]
  have hl : lv_has ls 4 [(0, .ref ma), (1, .int n)] := hl
  obtain ⟨hx, hb, hml, hown, hT, hK, hN, hE, hA⟩ := id F
  refine lv_iconst (v := 0) hx hb d_Mac_go_0 (by decide) ?_
  refine lv_istore_n (lv' := [(2, .int 0), (0, .ref ma), (1, .int n)]) hx hb d_Mac_go_1 rfl hl (by decide) rfl (fun ls hl => ?_)
  refine lv_iconst (v := 0) hx hb d_Mac_go_2 (by decide) ?_
  refine lv_istore_n (lv' := [(3, .int 0), (2, .int 0), (0, .ref ma), (1, .int n)]) hx hb d_Mac_go_3 rfl hl (by decide) rfl (fun ls hl => ?_)
  refine lv_iload_n hx hb d_Mac_go_4 rfl (lv_at hl 0 rfl) ?_
  refine lv_iload_n hx hb d_Mac_go_5 rfl (lv_at hl 3 rfl) ?_
  refine lv_icmp_ge (tgt := 36) hx hb d_Mac_go_6 (by decide) (fun h1 => ?_) (fun h1 => ?_)
  · refine lv_iload_n hx hb d_Mac_go_36 rfl (lv_at hl 1 rfl) ?_
    exact mx_ri F hr hlk rfl hP hD hS () [] rfl (by decide) rfl (by decide) (by decide) d_Mac_go_37
  · refine lv_aload_n hx hb d_Mac_go_9 rfl (lv_at hl 2 rfl) ?_
    refine va_get (D := K.1) (ci := 9) (v := .int 0) (C := R_Mac) (T := T_Mac) (N := 16) hx hb hT in_Mac hown hK hP 0 rfl rfl 1 (by decide) (hT _ k_332) (fun _ h9 => h9) rfl d_Mac_go_10 ?_
    refine lv_if_ne (tgt := 36) hx hb d_Mac_go_13 (by decide) (fun h => absurd h (by decide)) (fun _ => ?_)
    refine lv_aload_n hx hb d_Mac_go_16 rfl (lv_at hl 2 rfl) ?_
    refine mx_cv (wr := []) F (mx_runV (As := []) (rest := []) (n := 0) F (c_Mac_step l K ma me rg mo ge sp sk H.size) k_748 (Or.inl k_745) k_747 s_Mac_step k_14 p_Mac_step rfl rfl hP hD hS [0, 1, 2, 3, 4] rfl (by decide) (va_recv (q := (R_Mac, T_Mac, 16)) (ci := 9) (q0 := 0) hK hP rfl rfl) rfl hl.1 rfl (Nat.le_of_ble_eq_true rfl) ⟨by decide, by decide⟩ ⟨by decide, by decide⟩ d_Mac_go_17) hP hD hS [0, 1, 2, 3, 4] [] rfl rfl (by decide) (by decide) (fun _ H locs hq3 hP hD hS => ?_)
    have hP : va_P K.1 mx_cl [(ma, .inr (9, [.long 256, .int 5, .int 0, .int 0, .int 0, .int 0, .int 0, .int 0, .int 0, .long 0, .long 0, .long 260, .int 1, .int 0, .ref me, .ref rg]))] H := hP
    have hD : va_D A [(ma, .inr (9, [.long 256, .int 5, .int 0, .int 0, .int 0, .int 0, .int 0, .int 0, .int 0, .long 0, .long 0, .long 260, .int 1, .int 0, .ref me, .ref rg]))] := hD
    refine W.cs (cells' := 0) (slots' := 0) rfl rfl ?_
    refine lv_aload_n hx hb d_Mac_go_20 rfl (lv_at hl 2 rfl) ?_
    refine va_get (D := K.1) (ci := 9) (v := .int 5) (C := R_Mac) (T := T_Mac) (N := 16) hx hb hT in_Mac hown hK hP 0 rfl rfl 1 (by decide) (hT _ k_332) (fun _ h9 => h9) rfl d_Mac_go_21 ?_
    refine lv_if_ne (tgt := 30) hx hb d_Mac_go_24 (by decide) (fun _ => ?_) (fun h => absurd h (by decide))
    refine lv_iinc (lv' := [(3, .int 1), (2, .int 0), (0, .ref ma), (1, .int n)]) (v := 1) (k := 0) hx hb d_Mac_go_30 hl rfl (by decide) (by decide) rfl (fun ls hl => ?_)
    refine lv_goto (tgt := 4) hx hb d_Mac_go_33 (by decide) ?_
    refine lv_iload_n hx hb d_Mac_go_4 rfl (lv_at hl 0 rfl) ?_
    refine lv_iload_n hx hb d_Mac_go_5 rfl (lv_at hl 3 rfl) ?_
    refine lv_icmp_ge (tgt := 36) hx hb d_Mac_go_6 (by decide) (fun h6 => ?_) (fun h6 => ?_)
    · refine lv_iload_n hx hb d_Mac_go_36 rfl (lv_at hl 1 rfl) ?_
      exact mx_ri F hr hlk rfl hP hD hS () [] rfl (by decide) rfl (by decide) (by decide) d_Mac_go_37
    · refine lv_aload_n hx hb d_Mac_go_9 rfl (lv_at hl 2 rfl) ?_
      refine va_get (D := K.1) (ci := 9) (v := .int 5) (C := R_Mac) (T := T_Mac) (N := 16) hx hb hT in_Mac hown hK hP 0 rfl rfl 1 (by decide) (hT _ k_332) (fun _ h9 => h9) rfl d_Mac_go_10 ?_
      refine lv_if_ne (tgt := 36) hx hb d_Mac_go_13 (by decide) (fun _ => ?_) (fun h => absurd h (by decide))
      refine lv_iload_n hx hb d_Mac_go_36 rfl (lv_at hl 1 rfl) ?_
      exact mx_ri F hr hlk rfl hP hD hS () [] rfl (by decide) rfl (by decide) (by decide) d_Mac_go_37
