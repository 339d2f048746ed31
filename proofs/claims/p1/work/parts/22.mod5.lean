set_option maxHeartbeats 4000000 in
set_option maxRecDepth 100000 in
theorem c_Mod_isOp (l : Launch) (K : mx_K) (zm : Nat) (sz : Nat) : mx_I l y_Mod_isOp b_Mod_isOp 2 .boolean { frames := 0, cells := 0, slots := 0, locals := 0 } K [.ref zm, .int 0] [] sz (fun (r : Int32) (u : Unit) => r = 1) (fun u : Unit => []) := by
  refine mx_of (by decide) (Nat.le_of_ble_eq_true rfl) ?_
  intro p e s m below meth c A ls H locs hAe F hr hlk hin hsz hP hD hS hl
  rw [hAe]
  have hl : lv_has ls 2 [(0, .ref zm), (1, .int 0)] := hl
  obtain ⟨hx, hb, hml, hown, hT, hK, hN, hE, hA⟩ := id F
  refine lv_iload_n hx hb d_Mod_isOp_0 rfl (lv_at hl 1 rfl) ?_
  refine lv_if_eq (tgt := 66) hx hb d_Mod_isOp_1 (by decide) (fun _ => ?_) (fun h => absurd h (by decide))
  refine lv_iconst (v := 1) hx hb d_Mod_isOp_66 (by decide) ?_
  refine lv_goto (tgt := 71) hx hb d_Mod_isOp_67 (by decide) ?_
  exact mx_ri F hr hlk (by decide) hP hD hS () [] rfl (by decide) rfl (by decide) (by decide) d_Mod_isOp_71
set_option maxHeartbeats 4000000 in
set_option maxRecDepth 100000 in
theorem c_Mod_step (l : Launch) (K : mx_K) (zm : Nat) (mt : Nat) (mx : Nat) (mla : Nat) (mll : Nat) (mli : Nat) (mlr : Nat) (mk : Nat) (mm : Nat) (md : Nat) (mr : Nat) (ms : Nat) (mst : Nat) (mas : Nat) (sz : Nat) : mx_I l y_Mod_step b_Mod_step 15 .int { frames := 1, cells := 0, slots := 0, locals := 21 } K [.ref zm] [(zm, .inr (10, [.int 0, .int 0, .int 0, .int (-1), .int 0, .int 0, .int 0, .int 0, .int 255, .int 0, .int 0, .int 0, .long 256, .long 0, .int 0, .int 0, .long 0, .int 0, .int 0, .int 0, .int 0, .int 0, .int 0, .int 0, .int 0, .long 0, .long 0, .int 0, .long 0, .long 0, .long 0, .ref mt, .ref mx, .ref mla, .ref mll, .ref mli, .ref mlr, .ref mk, .ref mm, .ref md, .ref mr, .ref ms, .ref mst, .ref mas])), (mm, .inl (K.2.1.2.1, 4096, .inl (fun _ => 0)))] sz (fun (r : Int32) (u : Unit) => r = 5) (fun u : Unit => [(zm, .inr (10, [.int 0, .int 0, .int 0, .int (-1), .int 0, .int 0, .int 0, .int 0, .int 255, .int 0, .int 0, .int 0, .long 256, .long 0, .int 0, .int 0, .long 0, .int 0, .int 0, .int 0, .int 0, .int 0, .int 0, .int 0, .int 0, .long 0, .long 0, .int 0, .long 0, .long 0, .long 0, .ref mt, .ref mx, .ref mla, .ref mll, .ref mli, .ref mlr, .ref mk, .ref mm, .ref md, .ref mr, .ref ms, .ref mst, .ref mas]))]) := by
  refine mx_of (by decide) (Nat.le_of_ble_eq_true rfl) ?_
  intro p e s m below meth c A ls H locs hAe F hr hlk hin hsz hP hD hS hl
  rw [hAe]
  have hl : lv_has ls 15 [(0, .ref zm)] := hl
  obtain ⟨hx, hb, hml, hown, hT, hK, hN, hE, hA⟩ := id F
  refine lv_aload_n hx hb d_Mod_step_0 rfl (lv_at hl 0 rfl) ?_
  refine va_get (D := K.1) (ci := 10) (v := .long 256) (C := R_Mod) (T := T_Mod) (N := 44) hx hb hT in_Mod hown hK hP 0 rfl rfl 12 (by decide) (hT _ k_1003) (fun _ h9 => h9) rfl d_Mod_step_1 ?_
  refine lv_lconst (v := 0) hx hb d_Mod_step_4 (by decide) ?_
  refine W.lcmp hx hb d_Mod_step_5 ?_
  refine lv_if_lt (tgt := 20) hx hb d_Mod_step_6 (by decide) (fun h => absurd h (by decide)) (fun _ => ?_)
  refine lv_aload_n hx hb d_Mod_step_9 rfl (lv_at hl 0 rfl) ?_
  refine va_get (D := K.1) (ci := 10) (v := .long 256) (C := R_Mod) (T := T_Mod) (N := 44) hx hb hT in_Mod hown hK hP 0 rfl rfl 12 (by decide) (hT _ k_1003) (fun _ h9 => h9) rfl d_Mod_step_10 ?_
  refine lv_ldc2 (v := 4092) hx hb hown (hT _ k_1292) d_Mod_step_13 ?_
  refine W.lcmp hx hb d_Mod_step_16 ?_
  refine lv_if_le (tgt := 22) hx hb d_Mod_step_17 (by decide) (fun _ => ?_) (fun h => absurd h (by decide))
  refine lv_aload_n hx hb d_Mod_step_22 rfl (lv_at hl 0 rfl) ?_
  refine va_get (D := K.1) (ci := 10) (v := .long 256) (C := R_Mod) (T := T_Mod) (N := 44) hx hb hT in_Mod hown hK hP 0 rfl rfl 12 (by decide) (hT _ k_1003) (fun _ h9 => h9) rfl d_Mod_step_23 ?_
  refine lv_l2i (v := 256) hx hb d_Mod_step_26 (by decide) ?_
  refine lv_istore_n (lv' := [(1, .int 256), (0, .ref zm)]) hx hb d_Mod_step_27 rfl hl (by decide) rfl (fun ls hl => ?_)
  refine lv_aload_n hx hb d_Mod_step_28 rfl (lv_at hl 1 rfl) ?_
  refine va_get (D := K.1) (ci := 10) (v := .ref mm) (C := R_Mod) (T := T_Mod) (N := 44) hx hb hT in_Mod hown hK hP 0 rfl rfl 38 (by decide) (hT _ k_991) (fun _ h9 => h9) rfl d_Mod_step_29 ?_
  refine lv_iload_n hx hb d_Mod_step_32 rfl (lv_at hl 0 rfl) ?_
  refine va_iald hx hb hK hP 1 1 rfl rfl (i := 256) (vp_in_nI (n := 256) (N := 4096) (by decide) (by decide)) d_Mod_step_33 ?_
  refine lv_topi (fun z3 ez3 => ?_)
  obtain rfl : z3 = 0 := ez3.trans rfl
  refine lv_istore_n (lv' := [(2, .int 0), (1, .int 256), (0, .ref zm)]) hx hb d_Mod_step_34 rfl hl (by decide) rfl (fun ls hl => ?_)
  refine lv_aload_n hx hb d_Mod_step_35 rfl (lv_at hl 2 rfl) ?_
  refine va_get (D := K.1) (ci := 10) (v := .ref mm) (C := R_Mod) (T := T_Mod) (N := 44) hx hb hT in_Mod hown hK hP 0 rfl rfl 38 (by decide) (hT _ k_991) (fun _ h9 => h9) rfl d_Mod_step_36 ?_
  refine lv_iload_n hx hb d_Mod_step_39 rfl (lv_at hl 1 rfl) ?_
  refine lv_iconst (v := 1) hx hb d_Mod_step_40 (by decide) ?_
  refine lv_iadd hx hb d_Mod_step_41 ?_
  refine lv_topi (fun z4 ez4 => ?_)
  obtain rfl : z4 = 257 := ez4.trans (by decide)
  refine va_iald hx hb hK hP 1 1 rfl rfl (i := 257) (vp_in_nI (n := 257) (N := 4096) (by decide) (by decide)) d_Mod_step_42 ?_
  refine lv_topi (fun z5 ez5 => ?_)
  obtain rfl : z5 = 0 := ez5.trans rfl
  refine lv_istore_n (lv' := [(3, .int 0), (2, .int 0), (1, .int 256), (0, .ref zm)]) hx hb d_Mod_step_43 rfl hl (by decide) rfl (fun ls hl => ?_)
  refine lv_aload_n hx hb d_Mod_step_44 rfl (lv_at hl 3 rfl) ?_
  refine va_get (D := K.1) (ci := 10) (v := .ref mm) (C := R_Mod) (T := T_Mod) (N := 44) hx hb hT in_Mod hown hK hP 0 rfl rfl 38 (by decide) (hT _ k_991) (fun _ h9 => h9) rfl d_Mod_step_45 ?_
  refine lv_iload_n hx hb d_Mod_step_48 rfl (lv_at hl 2 rfl) ?_
  refine lv_iconst (v := 2) hx hb d_Mod_step_49 (by decide) ?_
  refine lv_iadd hx hb d_Mod_step_50 ?_
  refine lv_topi (fun z6 ez6 => ?_)
  obtain rfl : z6 = 258 := ez6.trans (by decide)
  refine va_iald hx hb hK hP 1 1 rfl rfl (i := 258) (vp_in_nI (n := 258) (N := 4096) (by decide) (by decide)) d_Mod_step_51 ?_
  refine lv_topi (fun z7 ez7 => ?_)
  obtain rfl : z7 = 0 := ez7.trans rfl
  refine lv_istore (lv' := [(4, .int 0), (3, .int 0), (2, .int 0), (1, .int 256), (0, .ref zm)]) hx hb d_Mod_step_52 hl (by decide) rfl (fun ls hl => ?_)
  refine lv_aload_n hx hb d_Mod_step_54 rfl (lv_at hl 4 rfl) ?_
  refine va_get (D := K.1) (ci := 10) (v := .ref mm) (C := R_Mod) (T := T_Mod) (N := 44) hx hb hT in_Mod hown hK hP 0 rfl rfl 38 (by decide) (hT _ k_991) (fun _ h9 => h9) rfl d_Mod_step_55 ?_
  refine lv_iload_n hx hb d_Mod_step_58 rfl (lv_at hl 3 rfl) ?_
  refine lv_iconst (v := 3) hx hb d_Mod_step_59 (by decide) ?_
  refine lv_iadd hx hb d_Mod_step_60 ?_
  refine lv_topi (fun z8 ez8 => ?_)
  obtain rfl : z8 = 259 := ez8.trans (by decide)
  refine va_iald hx hb hK hP 1 1 rfl rfl (i := 259) (vp_in_nI (n := 259) (N := 4096) (by decide) (by decide)) d_Mod_step_61 ?_
  refine lv_topi (fun z9 ez9 => ?_)
  obtain rfl : z9 = 0 := ez9.trans rfl
  refine lv_istore (lv' := [(5, .int 0), (4, .int 0), (3, .int 0), (2, .int 0), (1, .int 256), (0, .ref zm)]) hx hb d_Mod_step_62 hl (by decide) rfl (fun ls hl => ?_)
  refine lv_aload_n hx hb d_Mod_step_64 rfl (lv_at hl 5 rfl) ?_
  refine lv_iload_n hx hb d_Mod_step_65 rfl (lv_at hl 3 rfl) ?_
  refine mx_ci (wr := [(zm, .inr (10, [.int 0, .int 0, .int 0, .int (-1), .int 0, .int 0, .int 0, .int 0, .int 255, .int 0, .int 0, .int 0, .long 256, .long 0, .int 0, .int 0, .long 0, .int 0, .int 0, .int 0, .int 0, .int 0, .int 0, .int 0, .int 0, .long 0, .long 0, .int 0, .long 0, .long 0, .long 0, .ref mt, .ref mx, .ref mla, .ref mll, .ref mli, .ref mlr, .ref mk, .ref mm, .ref md, .ref mr, .ref ms, .ref mst, .ref mas])), (mm, .inl (K.2.1.2.1, 4096, .inl (fun _ => 0)))]) F (mx_runV (As := [.int 0]) (rest := []) (n := 1) F (c_Mod_isOp l K zm H.size) k_1296 (Or.inl k_1293) k_1295 s_Mod_isOp k_15 p_Mod_isOp rfl rfl hP hD hS [] rfl (by decide) (va_recv (q := (R_Mod, T_Mod, 44)) (ci := 10) (q0 := 0) hK hP rfl rfl) rfl hl.1 rfl (Nat.le_of_ble_eq_true rfl) ⟨by decide, by decide⟩ ⟨by decide, by decide⟩ d_Mod_step_66) hP hD hS [] [0, 1] rfl rfl (by decide) (by decide) (fun r11 _ H locs hq10 hP hD hS => ?_)
  obtain rfl : r11 = 1 := hq10
  have hP : va_P K.1 mx_cl [(zm, .inr (10, [.int 0, .int 0, .int 0, .int (-1), .int 0, .int 0, .int 0, .int 0, .int 255, .int 0, .int 0, .int 0, .long 256, .long 0, .int 0, .int 0, .long 0, .int 0, .int 0, .int 0, .int 0, .int 0, .int 0, .int 0, .int 0, .long 0, .long 0, .int 0, .long 0, .long 0, .long 0, .ref mt, .ref mx, .ref mla, .ref mll, .ref mli, .ref mlr, .ref mk, .ref mm, .ref md, .ref mr, .ref ms, .ref mst, .ref mas])), (mm, .inl (K.2.1.2.1, 4096, .inl (fun _ => 0)))] H := hP
  have hD : va_D A [(zm, .inr (10, [.int 0, .int 0, .int 0, .int (-1), .int 0, .int 0, .int 0, .int 0, .int 255, .int 0, .int 0, .int 0, .long 256, .long 0, .int 0, .int 0, .long 0, .int 0, .int 0, .int 0, .int 0, .int 0, .int 0, .int 0, .int 0, .long 0, .long 0, .int 0, .long 0, .long 0, .long 0, .ref mt, .ref mx, .ref mla, .ref mll, .ref mli, .ref mlr, .ref mk, .ref mm, .ref md, .ref mr, .ref ms, .ref mst, .ref mas])), (mm, .inl (K.2.1.2.1, 4096, .inl (fun _ => 0)))] := hD
  refine W.cs (cells' := 0) (slots' := 0) rfl rfl ?_
  refine lv_if_ne (tgt := 74) hx hb d_Mod_step_69 (by decide) (fun _ => ?_) (fun h => absurd h (by decide))
  refine lv_iload_n hx hb d_Mod_step_74 rfl (lv_at hl 3 rfl) ?_
  refine lv_sipush (v := 246) hx hb d_Mod_step_75 (by decide) ?_
  refine lv_icmp_eq (tgt := 88) hx hb d_Mod_step_78 (by decide) (fun h => absurd h (by decide)) (fun _ => ?_)
  refine lv_iload_n hx hb d_Mod_step_81 rfl (lv_at hl 3 rfl) ?_
  refine lv_sipush (v := 247) hx hb d_Mod_step_82 (by decide) ?_
  refine lv_icmp_ne (tgt := 96) hx hb d_Mod_step_85 (by decide) (fun _ => ?_) (fun h => absurd h (by decide))
  refine lv_iload_n hx hb d_Mod_step_96 rfl (lv_at hl 3 rfl) ?_
  refine lv_sipush (v := 254) hx hb d_Mod_step_97 (by decide) ?_
  refine lv_icmp_ne (tgt := 114) hx hb d_Mod_step_100 (by decide) (fun _ => ?_) (fun h => absurd h (by decide))
  refine lv_iload_n hx hb d_Mod_step_114 rfl (lv_at hl 3 rfl) ?_
  refine lv_if_ne (tgt := 129) hx hb d_Mod_step_115 (by decide) (fun h => absurd h (by decide)) (fun _ => ?_)
  refine lv_iload_n hx hb d_Mod_step_118 rfl (lv_at hl 2 rfl) ?_
  refine lv_if_ne (tgt := 129) hx hb d_Mod_step_119 (by decide) (fun h => absurd h (by decide)) (fun _ => ?_)
  refine lv_iload hx hb d_Mod_step_122 (lv_at hl 1 rfl) ?_
  refine lv_if_ne (tgt := 129) hx hb d_Mod_step_124 (by decide) (fun h => absurd h (by decide)) (fun _ => ?_)
  refine lv_iconst (v := 5) hx hb d_Mod_step_127 (by decide) ?_
  exact mx_ri F hr hlk rfl hP hD hS () [0] rfl (by decide) rfl (by decide) (by decide) d_Mod_step_128
set_option maxHeartbeats 4000000 in
set_option maxRecDepth 100000 in
theorem c_Mod_run (l : Launch) (K : mx_K) (zm : Nat) (n : Int32) (mt : Nat) (mx : Nat) (mla : Nat) (mll : Nat) (mli : Nat) (mlr : Nat) (mk : Nat) (mm : Nat) (md : Nat) (mr : Nat) (ms : Nat) (mst : Nat) (mas : Nat) (sz : Nat) : mx_I l y_Mod_run b_Mod_run 3 .int { frames := 2, cells := 0, slots := 0, locals := 55 } K [.ref zm, .int n] [(zm, .inr (10, [.int 0, .int 0, .int 0, .int (-1), .int 0, .int 0, .int 0, .int 0, .int 255, .int 0, .int 0, .int 0, .long 256, .long 0, .int 0, .int 0, .long 0, .int 0, .int 0, .int 0, .int 0, .int 0, .int 0, .int 0, .int 0, .long 0, .long 0, .int 0, .long 0, .long 0, .long 0, .ref mt, .ref mx, .ref mla, .ref mll, .ref mli, .ref mlr, .ref mk, .ref mm, .ref md, .ref mr, .ref ms, .ref mst, .ref mas])), (mm, .inl (K.2.1.2.1, 4096, .inl (fun _ => 0)))] sz (fun (r : Int32) (u : Unit) => r = 0) (fun u : Unit => []) := by
  refine mx_of (by decide) (Nat.le_of_ble_eq_true rfl) ?_
  intro p e s m below meth c A ls H locs hAe F hr hlk hin hsz hP hD hS hl
  rw [hAe]
  have hl : lv_has ls 3 [(0, .ref zm), (1, .int n)] := hl
  obtain ⟨hx, hb, hml, hown, hT, hK, hN, hE, hA⟩ := id F
  refine lv_aload_n hx hb d_Mod_run_0 rfl (lv_at hl 0 rfl) ?_
  refine lv_iconst (v := 0) hx hb d_Mod_run_1 (by decide) ?_
  refine va_put (D := K.1) (ci := 10) (v := .int 0) (ty := .int) (C := R_Mod) (T := T_Mod) (N := 44) hx hb hT in_Mod t_Mod t_Mod_ok n_Mod hown hK hP hD hS 0 rfl rfl 0 (by decide) (hT _ k_978) (fun _ h9 => h9) rfl (by decide +kernel) rfl rfl (Nat.le_of_ble_eq_true rfl) d_Mod_run_2 (fun H locs hP hD hS => ?_)
  have hP : va_P K.1 mx_cl [(zm, .inr (10, [.int 0, .int 0, .int 0, .int (-1), .int 0, .int 0, .int 0, .int 0, .int 255, .int 0, .int 0, .int 0, .long 256, .long 0, .int 0, .int 0, .long 0, .int 0, .int 0, .int 0, .int 0, .int 0, .int 0, .int 0, .int 0, .long 0, .long 0, .int 0, .long 0, .long 0, .long 0, .ref mt, .ref mx, .ref mla, .ref mll, .ref mli, .ref mlr, .ref mk, .ref mm, .ref md, .ref mr, .ref ms, .ref mst, .ref mas])), (mm, .inl (K.2.1.2.1, 4096, .inl (fun _ => 0)))] H := hP
  have hD : va_D A [(zm, .inr (10, [.int 0, .int 0, .int 0, .int (-1), .int 0, .int 0, .int 0, .int 0, .int 255, .int 0, .int 0, .int 0, .long 256, .long 0, .int 0, .int 0, .long 0, .int 0, .int 0, .int 0, .int 0, .int 0, .int 0, .int 0, .int 0, .long 0, .long 0, .int 0, .long 0, .long 0, .long 0, .ref mt, .ref mx, .ref mla, .ref mll, .ref mli, .ref mlr, .ref mk, .ref mm, .ref md, .ref mr, .ref ms, .ref mst, .ref mas])), (mm, .inl (K.2.1.2.1, 4096, .inl (fun _ => 0)))] := hD
  refine lv_iload_n hx hb d_Mod_run_5 rfl (lv_at hl 1 rfl) ?_
  refine lv_if_lt (tgt := 16) hx hb d_Mod_run_6 (by decide) (fun h1 => ?_) (fun h1 => ?_)
  · refine lv_iconst (v := 0) hx hb d_Mod_run_16 (by decide) ?_
    exact mx_ri F hr hlk rfl hP hD hS () [] rfl (by decide) rfl (by decide) (by decide) d_Mod_run_17
  · refine lv_iload_n hx hb d_Mod_run_9 rfl (lv_at hl 1 rfl) ?_
    refine lv_sipush (v := 5000) hx hb d_Mod_run_10 (by decide) ?_
    refine lv_icmp_le (tgt := 18) hx hb d_Mod_run_13 (by decide) (fun h2 => ?_) (fun h2 => ?_)
    · refine lv_iconst (v := 0) hx hb d_Mod_run_18 (by decide) ?_
      refine lv_istore_n (lv' := [(2, .int 0), (0, .ref zm), (1, .int n)]) hx hb d_Mod_run_19 rfl hl (by decide) rfl (fun ls hl => ?_)
      refine lv_iload_n hx hb d_Mod_run_20 rfl (lv_at hl 0 rfl) ?_
      refine lv_iload_n hx hb d_Mod_run_21 rfl (lv_at hl 2 rfl) ?_
      refine lv_icmp_ge (tgt := 53) hx hb d_Mod_run_22 (by decide) (fun h3 => ?_) (fun h3 => ?_)
      · refine lv_iload_n hx hb d_Mod_run_53 rfl (lv_at hl 0 rfl) ?_
        exact mx_ri F hr hlk rfl hP hD hS () [] rfl (by decide) rfl (by decide) (by decide) d_Mod_run_54
      · refine lv_aload_n hx hb d_Mod_run_25 rfl (lv_at hl 1 rfl) ?_
        refine va_get (D := K.1) (ci := 10) (v := .int 0) (C := R_Mod) (T := T_Mod) (N := 44) hx hb hT in_Mod hown hK hP 0 rfl rfl 11 (by decide) (hT _ k_1002) (fun _ h9 => h9) rfl d_Mod_run_26 ?_
        refine lv_if_ne (tgt := 53) hx hb d_Mod_run_29 (by decide) (fun h => absurd h (by decide)) (fun _ => ?_)
        refine lv_aload_n hx hb d_Mod_run_32 rfl (lv_at hl 1 rfl) ?_
        refine lv_aload_n hx hb d_Mod_run_33 rfl (lv_at hl 1 rfl) ?_
        refine mx_ci (wr := []) F (mx_runV (As := []) (rest := [.ref zm]) (n := 0) F (c_Mod_step l K zm mt mx mla mll mli mlr mk mm md mr ms mst mas H.size) k_1291 (Or.inl k_1288) k_1290 s_Mod_step k_15 p_Mod_step rfl rfl hP hD hS [0, 1] rfl (by decide) (va_recv (q := (R_Mod, T_Mod, 44)) (ci := 10) (q0 := 0) hK hP rfl rfl) rfl hl.1 rfl (Nat.le_of_ble_eq_true rfl) ⟨by decide, by decide⟩ ⟨by decide, by decide⟩ d_Mod_run_34) hP hD hS [0, 1] [] rfl rfl (by decide) (by decide) (fun r6 _ H locs hq5 hP hD hS => ?_)
        obtain rfl : r6 = 5 := hq5
        have hP : va_P K.1 mx_cl [(zm, .inr (10, [.int 0, .int 0, .int 0, .int (-1), .int 0, .int 0, .int 0, .int 0, .int 255, .int 0, .int 0, .int 0, .long 256, .long 0, .int 0, .int 0, .long 0, .int 0, .int 0, .int 0, .int 0, .int 0, .int 0, .int 0, .int 0, .long 0, .long 0, .int 0, .long 0, .long 0, .long 0, .ref mt, .ref mx, .ref mla, .ref mll, .ref mli, .ref mlr, .ref mk, .ref mm, .ref md, .ref mr, .ref ms, .ref mst, .ref mas]))] H := hP
        have hD : va_D A [(zm, .inr (10, [.int 0, .int 0, .int 0, .int (-1), .int 0, .int 0, .int 0, .int 0, .int 255, .int 0, .int 0, .int 0, .long 256, .long 0, .int 0, .int 0, .long 0, .int 0, .int 0, .int 0, .int 0, .int 0, .int 0, .int 0, .int 0, .long 0, .long 0, .int 0, .long 0, .long 0, .long 0, .ref mt, .ref mx, .ref mla, .ref mll, .ref mli, .ref mlr, .ref mk, .ref mm, .ref md, .ref mr, .ref ms, .ref mst, .ref mas]))] := hD
        refine W.cs (cells' := 0) (slots' := 0) rfl rfl ?_
        refine va_put (D := K.1) (ci := 10) (v := .int 5) (ty := .int) (C := R_Mod) (T := T_Mod) (N := 44) hx hb hT in_Mod t_Mod t_Mod_ok n_Mod hown hK hP hD hS 0 rfl rfl 11 (by decide) (hT _ k_1002) (fun _ h9 => h9) rfl (by decide +kernel) rfl rfl (Nat.le_of_ble_eq_true rfl) d_Mod_run_37 (fun H locs hP hD hS => ?_)
        have hP : va_P K.1 mx_cl [(zm, .inr (10, [.int 0, .int 0, .int 0, .int (-1), .int 0, .int 0, .int 0, .int 0, .int 255, .int 0, .int 0, .int 5, .long 256, .long 0, .int 0, .int 0, .long 0, .int 0, .int 0, .int 0, .int 0, .int 0, .int 0, .int 0, .int 0, .long 0, .long 0, .int 0, .long 0, .long 0, .long 0, .ref mt, .ref mx, .ref mla, .ref mll, .ref mli, .ref mlr, .ref mk, .ref mm, .ref md, .ref mr, .ref ms, .ref mst, .ref mas]))] H := hP
        have hD : va_D A [(zm, .inr (10, [.int 0, .int 0, .int 0, .int (-1), .int 0, .int 0, .int 0, .int 0, .int 255, .int 0, .int 0, .int 5, .long 256, .long 0, .int 0, .int 0, .long 0, .int 0, .int 0, .int 0, .int 0, .int 0, .int 0, .int 0, .int 0, .long 0, .long 0, .int 0, .long 0, .long 0, .long 0, .ref mt, .ref mx, .ref mla, .ref mll, .ref mli, .ref mlr, .ref mk, .ref mm, .ref md, .ref mr, .ref ms, .ref mst, .ref mas]))] := hD
        refine lv_aload_n hx hb d_Mod_run_40 rfl (lv_at hl 1 rfl) ?_
        refine va_get (D := K.1) (ci := 10) (v := .int 5) (C := R_Mod) (T := T_Mod) (N := 44) hx hb hT in_Mod hown hK hP 0 rfl rfl 11 (by decide) (hT _ k_1002) (fun _ h9 => h9) rfl d_Mod_run_41 ?_
        refine lv_if_ne (tgt := 20) hx hb d_Mod_run_44 (by decide) (fun _ => ?_) (fun h => absurd h (by decide))
        refine lv_iload_n hx hb d_Mod_run_20 rfl (lv_at hl 0 rfl) ?_
        refine lv_iload_n hx hb d_Mod_run_21 rfl (lv_at hl 2 rfl) ?_
        refine lv_icmp_ge (tgt := 53) hx hb d_Mod_run_22 (by decide) (fun h8 => ?_) (fun h8 => ?_)
        · refine lv_iload_n hx hb d_Mod_run_53 rfl (lv_at hl 0 rfl) ?_
          exact mx_ri F hr hlk rfl hP hD hS () [] rfl (by decide) rfl (by decide) (by decide) d_Mod_run_54
        · refine lv_aload_n hx hb d_Mod_run_25 rfl (lv_at hl 1 rfl) ?_
          refine va_get (D := K.1) (ci := 10) (v := .int 5) (C := R_Mod) (T := T_Mod) (N := 44) hx hb hT in_Mod hown hK hP 0 rfl rfl 11 (by decide) (hT _ k_1002) (fun _ h9 => h9) rfl d_Mod_run_26 ?_
          refine lv_if_ne (tgt := 53) hx hb d_Mod_run_29 (by decide) (fun _ => ?_) (fun h => absurd h (by decide))
          refine lv_iload_n hx hb d_Mod_run_53 rfl (lv_at hl 0 rfl) ?_
          exact mx_ri F hr hlk rfl hP hD hS () [] rfl (by decide) rfl (by decide) (by decide) d_Mod_run_54
    · refine lv_iconst (v := 0) hx hb d_Mod_run_16 (by decide) ?_
      exact mx_ri F hr hlk rfl hP hD hS () [] rfl (by decide) rfl (by decide) (by decide) d_Mod_run_17
set_option maxHeartbeats 4000000 in
set_option maxRecDepth 100000 in
theorem c_Mod_stopped (l : Launch) (K : mx_K) (zm : Nat) (mt : Nat) (mx : Nat) (mla : Nat) (mll : Nat) (mli : Nat) (mlr : Nat) (mk : Nat) (mm : Nat) (md : Nat) (mr : Nat) (ms : Nat) (mst : Nat) (mas : Nat) (sz : Nat) : mx_I l y_Mod_stopped b_Mod_stopped 1 .int { frames := 0, cells := 0, slots := 0, locals := 0 } K [.ref zm] [(zm, .inr (10, [.int 0, .int 0, .int 0, .int (-1), .int 0, .int 0, .int 0, .int 0, .int 255, .int 0, .int 0, .int 0, .long 256, .long 0, .int 0, .int 0, .long 0, .int 0, .int 0, .int 0, .int 0, .int 0, .int 0, .int 0, .int 0, .long 0, .long 0, .int 0, .long 0, .long 0, .long 0, .ref mt, .ref mx, .ref mla, .ref mll, .ref mli, .ref mlr, .ref mk, .ref mm, .ref md, .ref mr, .ref ms, .ref mst, .ref mas]))] sz (fun (r : Int32) (u : Unit) => r = 0) (fun u : Unit => []) := by
  refine mx_of (by decide) (Nat.le_of_ble_eq_true rfl) ?_
  intro p e s m below meth c A ls H locs hAe F hr hlk hin hsz hP hD hS hl
  rw [hAe]
  have hl : lv_has ls 1 [(0, .ref zm)] := hl
  obtain ⟨hx, hb, hml, hown, hT, hK, hN, hE, hA⟩ := id F
  refine lv_aload_n hx hb d_Mod_stopped_0 rfl (lv_at hl 0 rfl) ?_
  refine lv_iconst (v := 0) hx hb d_Mod_stopped_1 (by decide) ?_
  refine va_put (D := K.1) (ci := 10) (v := .int 0) (ty := .int) (C := R_Mod) (T := T_Mod) (N := 44) hx hb hT in_Mod t_Mod t_Mod_ok n_Mod hown hK hP hD hS 0 rfl rfl 0 (by decide) (hT _ k_978) (fun _ h9 => h9) rfl (by decide +kernel) rfl rfl (Nat.le_of_ble_eq_true rfl) d_Mod_stopped_2 (fun H locs hP hD hS => ?_)
  have hP : va_P K.1 mx_cl [(zm, .inr (10, [.int 0, .int 0, .int 0, .int (-1), .int 0, .int 0, .int 0, .int 0, .int 255, .int 0, .int 0, .int 0, .long 256, .long 0, .int 0, .int 0, .long 0, .int 0, .int 0, .int 0, .int 0, .int 0, .int 0, .int 0, .int 0, .long 0, .long 0, .int 0, .long 0, .long 0, .long 0, .ref mt, .ref mx, .ref mla, .ref mll, .ref mli, .ref mlr, .ref mk, .ref mm, .ref md, .ref mr, .ref ms, .ref mst, .ref mas]))] H := hP
  have hD : va_D A [(zm, .inr (10, [.int 0, .int 0, .int 0, .int (-1), .int 0, .int 0, .int 0, .int 0, .int 255, .int 0, .int 0, .int 0, .long 256, .long 0, .int 0, .int 0, .long 0, .int 0, .int 0, .int 0, .int 0, .int 0, .int 0, .int 0, .int 0, .long 0, .long 0, .int 0, .long 0, .long 0, .long 0, .ref mt, .ref mx, .ref mla, .ref mll, .ref mli, .ref mlr, .ref mk, .ref mm, .ref md, .ref mr, .ref ms, .ref mst, .ref mas]))] := hD
  refine lv_aload_n hx hb d_Mod_stopped_5 rfl (lv_at hl 0 rfl) ?_
  refine va_get (D := K.1) (ci := 10) (v := .int 0) (C := R_Mod) (T := T_Mod) (N := 44) hx hb hT in_Mod hown hK hP 0 rfl rfl 11 (by decide) (hT _ k_1002) (fun _ h9 => h9) rfl d_Mod_stopped_6 ?_
  exact mx_ri F hr hlk rfl hP hD hS () [] rfl (by decide) rfl (by decide) (by decide) d_Mod_stopped_9
set_option maxHeartbeats 4000000 in
set_option maxRecDepth 100000 in
theorem c_Mod_get (l : Launch) (K : mx_K) (zm : Nat) (k : Int32) (mt : Nat) (mx : Nat) (mla : Nat) (mll : Nat) (mli : Nat) (mlr : Nat) (mk : Nat) (mm : Nat) (md : Nat) (mr : Nat) (ms : Nat) (mst : Nat) (mas : Nat) (sz : Nat) (h0 : ¬ k < 0) (h1 : ¬ 255 < k) : mx_L l y_Mod_get b_Mod_get 2 { frames := 0, cells := 0, slots := 0, locals := 0 } K [.ref zm, .int k] [(zm, .inr (10, [.int 0, .int 0, .int 0, .int (-1), .int 0, .int 0, .int 0, .int 0, .int 255, .int 0, .int 0, .int 0, .long 256, .long 0, .int 0, .int 0, .long 0, .int 0, .int 0, .int 0, .int 0, .int 0, .int 0, .int 0, .int 0, .long 0, .long 0, .int 0, .long 0, .long 0, .long 0, .ref mt, .ref mx, .ref mla, .ref mll, .ref mli, .ref mlr, .ref mk, .ref mm, .ref md, .ref mr, .ref ms, .ref mst, .ref mas])), (mr, .inl (K.2.1.1, 256, .inr (.inl (fun _ => 0))))] sz (fun (r : Int64) (u : Unit) => r = 0) (fun u : Unit => []) := by
  refine mx_of (by decide) (Nat.le_of_ble_eq_true rfl) ?_
  intro p e s m below meth c A ls H locs hAe F hr hlk hin hsz hP hD hS hl
  rw [hAe]
  have hl : lv_has ls 2 [(0, .ref zm), (1, .int k)] := hl
  obtain ⟨hx, hb, hml, hown, hT, hK, hN, hE, hA⟩ := id F
  refine lv_iload_n hx hb d_Mod_get_0 rfl (lv_at hl 1 rfl) ?_
  refine lv_aload_n hx hb d_Mod_get_1 rfl (lv_at hl 0 rfl) ?_
  refine va_get (D := K.1) (ci := 10) (v := .int 255) (C := R_Mod) (T := T_Mod) (N := 44) hx hb hT in_Mod hown hK hP 0 rfl rfl 8 (by decide) (hT _ k_999) (fun _ h9 => h9) rfl d_Mod_get_2 ?_
  refine lv_icmp_ge (tgt := 16) hx hb d_Mod_get_5 (by decide) (fun h5 => ?_) (fun h5 => ?_)
  · refine lv_aload_n hx hb d_Mod_get_16 rfl (lv_at hl 0 rfl) ?_
    refine va_get (D := K.1) (ci := 10) (v := .ref mr) (C := R_Mod) (T := T_Mod) (N := 44) hx hb hT in_Mod hown hK hP 0 rfl rfl 40 (by decide) (hT _ k_993) (fun _ h9 => h9) rfl d_Mod_get_17 ?_
    refine lv_iload_n hx hb d_Mod_get_20 rfl (lv_at hl 1 rfl) ?_
    refine va_lald hx hb hK hP 1 0 rfl rfl (i := k) (mx_in (N := 256) h0 (mx_lt (a := 255) h1) (by decide)) d_Mod_get_21 ?_
    refine lv_topl (fun z1 ez1 => ?_)
    obtain rfl : z1 = 0 := ez1.trans rfl
    refine lv_goto (tgt := 26) hx hb d_Mod_get_22 (by decide) ?_
    exact mx_rl F hr hlk hP hD hS () [] rfl (by decide) rfl (by decide) (by decide) d_Mod_get_26
  · refine lv_iload_n hx hb d_Mod_get_8 rfl (lv_at hl 1 rfl) ?_
    refine lv_aload_n hx hb d_Mod_get_9 rfl (lv_at hl 0 rfl) ?_
    refine va_get (D := K.1) (ci := 10) (v := .int 0) (C := R_Mod) (T := T_Mod) (N := 44) hx hb hT in_Mod hown hK hP 0 rfl rfl 7 (by decide) (hT _ k_998) (fun _ h9 => h9) rfl d_Mod_get_10 ?_
    refine lv_icmp_ge (tgt := 25) hx hb d_Mod_get_13 (by decide) (fun h2 => ?_) (fun h => absurd (Int32.not_lt.mp h0) h)
    refine lv_lconst (v := 0) hx hb d_Mod_get_25 (by decide) ?_
    exact mx_rl F hr hlk hP hD hS () [] rfl (by decide) rfl (by decide) (by decide) d_Mod_get_26
set_option maxHeartbeats 4000000 in
set_option maxRecDepth 100000 in
theorem c_Mod_register (l : Launch) (K : mx_K) (zm : Nat) (k : Int32) (mt : Nat) (mx : Nat) (mla : Nat) (mll : Nat) (mli : Nat) (mlr : Nat) (mk : Nat) (mm : Nat) (md : Nat) (mr : Nat) (ms : Nat) (mst : Nat) (mas : Nat) (sz : Nat) : mx_L l y_Mod_register b_Mod_register 2 { frames := 1, cells := 0, slots := 0, locals := 21 } K [.ref zm, .int k] [(zm, .inr (10, [.int 0, .int 0, .int 0, .int (-1), .int 0, .int 0, .int 0, .int 0, .int 255, .int 0, .int 0, .int 0, .long 256, .long 0, .int 0, .int 0, .long 0, .int 0, .int 0, .int 0, .int 0, .int 0, .int 0, .int 0, .int 0, .long 0, .long 0, .int 0, .long 0, .long 0, .long 0, .ref mt, .ref mx, .ref mla, .ref mll, .ref mli, .ref mlr, .ref mk, .ref mm, .ref md, .ref mr, .ref ms, .ref mst, .ref mas])), (mr, .inl (K.2.1.1, 256, .inr (.inl (fun _ => 0))))] sz (fun (r : Int64) (u : Unit) => r = 0) (fun u : Unit => []) := by
  refine mx_of (by decide) (Nat.le_of_ble_eq_true rfl) ?_
  intro p e s m below meth c A ls H locs hAe F hr hlk hin hsz hP hD hS hl
  rw [hAe]
  have hl : lv_has ls 2 [(0, .ref zm), (1, .int k)] := hl
  obtain ⟨hx, hb, hml, hown, hT, hK, hN, hE, hA⟩ := id F
  refine lv_aload_n hx hb d_Mod_register_0 rfl (lv_at hl 0 rfl) ?_
  refine lv_iconst (v := 0) hx hb d_Mod_register_1 (by decide) ?_
  refine va_put (D := K.1) (ci := 10) (v := .int 0) (ty := .int) (C := R_Mod) (T := T_Mod) (N := 44) hx hb hT in_Mod t_Mod t_Mod_ok n_Mod hown hK hP hD hS 0 rfl rfl 0 (by decide) (hT _ k_978) (fun _ h9 => h9) rfl (by decide +kernel) rfl rfl (Nat.le_of_ble_eq_true rfl) d_Mod_register_2 (fun H locs hP hD hS => ?_)
  have hP : va_P K.1 mx_cl [(zm, .inr (10, [.int 0, .int 0, .int 0, .int (-1), .int 0, .int 0, .int 0, .int 0, .int 255, .int 0, .int 0, .int 0, .long 256, .long 0, .int 0, .int 0, .long 0, .int 0, .int 0, .int 0, .int 0, .int 0, .int 0, .int 0, .int 0, .long 0, .long 0, .int 0, .long 0, .long 0, .long 0, .ref mt, .ref mx, .ref mla, .ref mll, .ref mli, .ref mlr, .ref mk, .ref mm, .ref md, .ref mr, .ref ms, .ref mst, .ref mas])), (mr, .inl (K.2.1.1, 256, .inr (.inl (fun _ => 0))))] H := hP
  have hD : va_D A [(zm, .inr (10, [.int 0, .int 0, .int 0, .int (-1), .int 0, .int 0, .int 0, .int 0, .int 255, .int 0, .int 0, .int 0, .long 256, .long 0, .int 0, .int 0, .long 0, .int 0, .int 0, .int 0, .int 0, .int 0, .int 0, .int 0, .int 0, .long 0, .long 0, .int 0, .long 0, .long 0, .long 0, .ref mt, .ref mx, .ref mla, .ref mll, .ref mli, .ref mlr, .ref mk, .ref mm, .ref md, .ref mr, .ref ms, .ref mst, .ref mas])), (mr, .inl (K.2.1.1, 256, .inr (.inl (fun _ => 0))))] := hD
  refine lv_iload_n hx hb d_Mod_register_5 rfl (lv_at hl 1 rfl) ?_
  refine lv_if_lt (tgt := 16) hx hb d_Mod_register_6 (by decide) (fun h6 => ?_) (fun h6 => ?_)
  · refine lv_lconst (v := 0) hx hb d_Mod_register_16 (by decide) ?_
    refine lv_goto (tgt := 25) hx hb d_Mod_register_17 (by decide) ?_
    exact mx_rl F hr hlk hP hD hS () [] rfl (by decide) rfl (by decide) (by decide) d_Mod_register_25
  · refine lv_iload_n hx hb d_Mod_register_9 rfl (lv_at hl 1 rfl) ?_
    refine lv_sipush (v := 255) hx hb d_Mod_register_10 (by decide) ?_
    refine lv_icmp_le (tgt := 20) hx hb d_Mod_register_13 (by decide) (fun h13 => ?_) (fun h13 => ?_)
    · refine lv_aload_n hx hb d_Mod_register_20 rfl (lv_at hl 0 rfl) ?_
      refine lv_iload_n hx hb d_Mod_register_21 rfl (lv_at hl 1 rfl) ?_
      refine mx_cj (wr := []) F (mx_runV (As := [.int k]) (rest := []) (n := 1) F (c_Mod_get l K zm k mt mx mla mll mli mlr mk mm md mr ms mst mas H.size h6 (Int32.not_lt.mpr h13)) k_1300 (Or.inl k_1297) k_1299 s_Mod_get k_15 p_Mod_get rfl rfl hP hD hS [0, 1] rfl (by decide) (va_recv (q := (R_Mod, T_Mod, 44)) (ci := 10) (q0 := 0) hK hP rfl rfl) rfl hl.1 rfl (Nat.le_of_ble_eq_true rfl) ⟨by decide, by decide⟩ ⟨by decide, by decide⟩ d_Mod_register_22) hP hD hS [0, 1] [] rfl rfl (by decide) (by decide) (fun r2 _ H locs hq1 hP hD hS => ?_)
      obtain rfl : r2 = 0 := hq1
      have hP : va_P K.1 mx_cl [] H := hP
      have hD : va_D A [] := hD
      refine W.cs (cells' := 0) (slots' := 0) rfl rfl ?_
      exact mx_rl F hr hlk hP hD hS () [] rfl (by decide) rfl (by decide) (by decide) d_Mod_register_25
    · refine lv_lconst (v := 0) hx hb d_Mod_register_16 (by decide) ?_
      refine lv_goto (tgt := 25) hx hb d_Mod_register_17 (by decide) ?_
      exact mx_rl F hr hlk hP hD hS () [] rfl (by decide) rfl (by decide) (by decide) d_Mod_register_25
set_option maxHeartbeats 4000000 in
set_option maxRecDepth 100000 in
theorem c_Mod_isSpecial (l : Launch) (K : mx_K) (a : Int64) (sz : Nat) : mx_I l y_Mod_isSpecial b_Mod_isSpecial 2 .boolean { frames := 0, cells := 0, slots := 0, locals := 0 } K [.long a] [] sz (fun (r : Int32) (u : Unit) => (r = 1 ∧ 0 ≤ a.toInt ∧ a.toInt < 28) ∨ (r = 0 ∧ ¬ a.toInt = 19)) (fun u : Unit => []) := by
  refine mx_of (by decide) (Nat.le_of_ble_eq_true rfl) ?_
  intro p e s m below meth c A ls H locs hAe F hr hlk hin hsz hP hD hS hl
  rw [hAe]
  have hl : lv_has ls 2 [(0, .long a)] := hl
  obtain ⟨hx, hb, hml, hown, hT, hK, hN, hE, hA⟩ := id F
  refine lv_lload_n hx hb d_Mod_isSpecial_0 rfl (lv_at hl 0 rfl) ?_
  refine lv_lconst (v := 0) hx hb d_Mod_isSpecial_1 (by decide) ?_
  refine W.lcmp hx hb d_Mod_isSpecial_2 ?_
  refine lv_if_eq (tgt := 60) hx hb d_Mod_isSpecial_3 (by decide) (fun h3 => ?_) (fun h3 => ?_)
  · refine lv_iconst (v := 1) hx hb d_Mod_isSpecial_60 (by decide) ?_
    refine lv_goto (tgt := 65) hx hb d_Mod_isSpecial_61 (by decide) ?_
    exact mx_ri F hr hlk (by decide) hP hD hS () [] rfl (by decide) (by
        simp only [lg_cmp_eq, lg_cmp_lt, lg_cmp_le, lg_cmp_ge, Int64.lt_iff_toInt_lt, Int64.le_iff_toInt_le, ← Int64.toInt_inj, mx_t0, mx_t1, mx_t2, mx_t7, mx_t18, mx_t22, mx_t23, mx_t28] at h3
        exact Or.inl ⟨rfl, by omega, by omega⟩) (by decide) (by decide) d_Mod_isSpecial_65
  · refine lv_lload_n hx hb d_Mod_isSpecial_6 rfl (lv_at hl 0 rfl) ?_
    refine lv_lconst (v := 1) hx hb d_Mod_isSpecial_7 (by decide) ?_
    refine W.lcmp hx hb d_Mod_isSpecial_8 ?_
    refine lv_if_eq (tgt := 60) hx hb d_Mod_isSpecial_9 (by decide) (fun h9 => ?_) (fun h9 => ?_)
    · refine lv_iconst (v := 1) hx hb d_Mod_isSpecial_60 (by decide) ?_
      refine lv_goto (tgt := 65) hx hb d_Mod_isSpecial_61 (by decide) ?_
      exact mx_ri F hr hlk (by decide) hP hD hS () [] rfl (by decide) (by
          simp only [lg_cmp_eq, lg_cmp_lt, lg_cmp_le, lg_cmp_ge, Int64.lt_iff_toInt_lt, Int64.le_iff_toInt_le, ← Int64.toInt_inj, mx_t0, mx_t1, mx_t2, mx_t7, mx_t18, mx_t22, mx_t23, mx_t28] at h3 h9
          exact Or.inl ⟨rfl, by omega, by omega⟩) (by decide) (by decide) d_Mod_isSpecial_65
    · refine lv_lload_n hx hb d_Mod_isSpecial_12 rfl (lv_at hl 0 rfl) ?_
      refine lv_ldc2 (v := 2) hx hb hown (hT _ k_1253) d_Mod_isSpecial_13 ?_
      refine W.lcmp hx hb d_Mod_isSpecial_16 ?_
      refine lv_if_le (tgt := 28) hx hb d_Mod_isSpecial_17 (by decide) (fun h17 => ?_) (fun h17 => ?_)
      · refine lv_lload_n hx hb d_Mod_isSpecial_28 rfl (lv_at hl 0 rfl) ?_
        refine lv_ldc2 (v := 18) hx hb hown (hT _ k_1255) d_Mod_isSpecial_29 ?_
        refine W.lcmp hx hb d_Mod_isSpecial_32 ?_
        refine lv_if_le (tgt := 44) hx hb d_Mod_isSpecial_33 (by decide) (fun h33 => ?_) (fun h33 => ?_)
        · refine lv_lload_n hx hb d_Mod_isSpecial_44 rfl (lv_at hl 0 rfl) ?_
          refine lv_ldc2 (v := 23) hx hb hown (hT _ k_1257) d_Mod_isSpecial_45 ?_
          refine W.lcmp hx hb d_Mod_isSpecial_48 ?_
          refine lv_if_le (tgt := 64) hx hb d_Mod_isSpecial_49 (by decide) (fun h49 => ?_) (fun h49 => ?_)
          · refine lv_iconst (v := 0) hx hb d_Mod_isSpecial_64 (by decide) ?_
            exact mx_ri F hr hlk (by decide) hP hD hS () [] rfl (by decide) (by
                simp only [lg_cmp_eq, lg_cmp_lt, lg_cmp_le, lg_cmp_ge, Int64.lt_iff_toInt_lt, Int64.le_iff_toInt_le, ← Int64.toInt_inj, mx_t0, mx_t1, mx_t2, mx_t7, mx_t18, mx_t22, mx_t23, mx_t28] at h3 h9 h17 h33 h49
                exact Or.inr ⟨rfl, by omega⟩) (by decide) (by decide) d_Mod_isSpecial_65
          · refine lv_lload_n hx hb d_Mod_isSpecial_52 rfl (lv_at hl 0 rfl) ?_
            refine lv_ldc2 (v := 28) hx hb hown (hT _ k_1258) d_Mod_isSpecial_53 ?_
            refine W.lcmp hx hb d_Mod_isSpecial_56 ?_
            refine lv_if_ge (tgt := 64) hx hb d_Mod_isSpecial_57 (by decide) (fun h57 => ?_) (fun h57 => ?_)
            · refine lv_iconst (v := 0) hx hb d_Mod_isSpecial_64 (by decide) ?_
              exact mx_ri F hr hlk (by decide) hP hD hS () [] rfl (by decide) (by
                  simp only [lg_cmp_eq, lg_cmp_lt, lg_cmp_le, lg_cmp_ge, Int64.lt_iff_toInt_lt, Int64.le_iff_toInt_le, ← Int64.toInt_inj, mx_t0, mx_t1, mx_t2, mx_t7, mx_t18, mx_t22, mx_t23, mx_t28] at h3 h9 h17 h33 h49 h57
                  exact Or.inr ⟨rfl, by omega⟩) (by decide) (by decide) d_Mod_isSpecial_65
            · refine lv_iconst (v := 1) hx hb d_Mod_isSpecial_60 (by decide) ?_
              refine lv_goto (tgt := 65) hx hb d_Mod_isSpecial_61 (by decide) ?_
              exact mx_ri F hr hlk (by decide) hP hD hS () [] rfl (by decide) (by
                  simp only [lg_cmp_eq, lg_cmp_lt, lg_cmp_le, lg_cmp_ge, Int64.lt_iff_toInt_lt, Int64.le_iff_toInt_le, ← Int64.toInt_inj, mx_t0, mx_t1, mx_t2, mx_t7, mx_t18, mx_t22, mx_t23, mx_t28] at h3 h9 h17 h33 h49 h57
                  exact Or.inl ⟨rfl, by omega, by omega⟩) (by decide) (by decide) d_Mod_isSpecial_65
        · refine lv_lload_n hx hb d_Mod_isSpecial_36 rfl (lv_at hl 0 rfl) ?_
          refine lv_ldc2 (v := 22) hx hb hown (hT _ k_1256) d_Mod_isSpecial_37 ?_
          refine W.lcmp hx hb d_Mod_isSpecial_40 ?_
          refine lv_if_lt (tgt := 60) hx hb d_Mod_isSpecial_41 (by decide) (fun h41 => ?_) (fun h41 => ?_)
          · refine lv_iconst (v := 1) hx hb d_Mod_isSpecial_60 (by decide) ?_
            refine lv_goto (tgt := 65) hx hb d_Mod_isSpecial_61 (by decide) ?_
            exact mx_ri F hr hlk (by decide) hP hD hS () [] rfl (by decide) (by
                simp only [lg_cmp_eq, lg_cmp_lt, lg_cmp_le, lg_cmp_ge, Int64.lt_iff_toInt_lt, Int64.le_iff_toInt_le, ← Int64.toInt_inj, mx_t0, mx_t1, mx_t2, mx_t7, mx_t18, mx_t22, mx_t23, mx_t28] at h3 h9 h17 h33 h41
                exact Or.inl ⟨rfl, by omega, by omega⟩) (by decide) (by decide) d_Mod_isSpecial_65
          · refine lv_lload_n hx hb d_Mod_isSpecial_44 rfl (lv_at hl 0 rfl) ?_
            refine lv_ldc2 (v := 23) hx hb hown (hT _ k_1257) d_Mod_isSpecial_45 ?_
            refine W.lcmp hx hb d_Mod_isSpecial_48 ?_
            refine lv_if_le (tgt := 64) hx hb d_Mod_isSpecial_49 (by decide) (fun h49 => ?_) (fun h49 => ?_)
            · refine lv_iconst (v := 0) hx hb d_Mod_isSpecial_64 (by decide) ?_
              exact mx_ri F hr hlk (by decide) hP hD hS () [] rfl (by decide) (by
                  simp only [lg_cmp_eq, lg_cmp_lt, lg_cmp_le, lg_cmp_ge, Int64.lt_iff_toInt_lt, Int64.le_iff_toInt_le, ← Int64.toInt_inj, mx_t0, mx_t1, mx_t2, mx_t7, mx_t18, mx_t22, mx_t23, mx_t28] at h3 h9 h17 h33 h41 h49
                  exact Or.inr ⟨rfl, by omega⟩) (by decide) (by decide) d_Mod_isSpecial_65
            · refine lv_lload_n hx hb d_Mod_isSpecial_52 rfl (lv_at hl 0 rfl) ?_
              refine lv_ldc2 (v := 28) hx hb hown (hT _ k_1258) d_Mod_isSpecial_53 ?_
              refine W.lcmp hx hb d_Mod_isSpecial_56 ?_
              refine lv_if_ge (tgt := 64) hx hb d_Mod_isSpecial_57 (by decide) (fun h57 => ?_) (fun h57 => ?_)
              · refine lv_iconst (v := 0) hx hb d_Mod_isSpecial_64 (by decide) ?_
                exact mx_ri F hr hlk (by decide) hP hD hS () [] rfl (by decide) (by
                    simp only [lg_cmp_eq, lg_cmp_lt, lg_cmp_le, lg_cmp_ge, Int64.lt_iff_toInt_lt, Int64.le_iff_toInt_le, ← Int64.toInt_inj, mx_t0, mx_t1, mx_t2, mx_t7, mx_t18, mx_t22, mx_t23, mx_t28] at h3 h9 h17 h33 h41 h49 h57
                    exact Or.inr ⟨rfl, by omega⟩) (by decide) (by decide) d_Mod_isSpecial_65
              · refine lv_iconst (v := 1) hx hb d_Mod_isSpecial_60 (by decide) ?_
                refine lv_goto (tgt := 65) hx hb d_Mod_isSpecial_61 (by decide) ?_
                exact mx_ri F hr hlk (by decide) hP hD hS () [] rfl (by decide) (by
                    simp only [lg_cmp_eq, lg_cmp_lt, lg_cmp_le, lg_cmp_ge, Int64.lt_iff_toInt_lt, Int64.le_iff_toInt_le, ← Int64.toInt_inj, mx_t0, mx_t1, mx_t2, mx_t7, mx_t18, mx_t22, mx_t23, mx_t28] at h3 h9 h17 h33 h41 h49 h57
                    exact Or.inl ⟨rfl, by omega, by omega⟩) (by decide) (by decide) d_Mod_isSpecial_65
      · refine lv_lload_n hx hb d_Mod_isSpecial_20 rfl (lv_at hl 0 rfl) ?_
        refine lv_ldc2 (v := 7) hx hb hown (hT _ k_1254) d_Mod_isSpecial_21 ?_
        refine W.lcmp hx hb d_Mod_isSpecial_24 ?_
        refine lv_if_lt (tgt := 60) hx hb d_Mod_isSpecial_25 (by decide) (fun h25 => ?_) (fun h25 => ?_)
        · refine lv_iconst (v := 1) hx hb d_Mod_isSpecial_60 (by decide) ?_
          refine lv_goto (tgt := 65) hx hb d_Mod_isSpecial_61 (by decide) ?_
          exact mx_ri F hr hlk (by decide) hP hD hS () [] rfl (by decide) (by
              simp only [lg_cmp_eq, lg_cmp_lt, lg_cmp_le, lg_cmp_ge, Int64.lt_iff_toInt_lt, Int64.le_iff_toInt_le, ← Int64.toInt_inj, mx_t0, mx_t1, mx_t2, mx_t7, mx_t18, mx_t22, mx_t23, mx_t28] at h3 h9 h17 h25
              exact Or.inl ⟨rfl, by omega, by omega⟩) (by decide) (by decide) d_Mod_isSpecial_65
        · refine lv_lload_n hx hb d_Mod_isSpecial_28 rfl (lv_at hl 0 rfl) ?_
          refine lv_ldc2 (v := 18) hx hb hown (hT _ k_1255) d_Mod_isSpecial_29 ?_
          refine W.lcmp hx hb d_Mod_isSpecial_32 ?_
          refine lv_if_le (tgt := 44) hx hb d_Mod_isSpecial_33 (by decide) (fun h33 => ?_) (fun h33 => ?_)
          · refine lv_lload_n hx hb d_Mod_isSpecial_44 rfl (lv_at hl 0 rfl) ?_
            refine lv_ldc2 (v := 23) hx hb hown (hT _ k_1257) d_Mod_isSpecial_45 ?_
            refine W.lcmp hx hb d_Mod_isSpecial_48 ?_
            refine lv_if_le (tgt := 64) hx hb d_Mod_isSpecial_49 (by decide) (fun h49 => ?_) (fun h49 => ?_)
            · refine lv_iconst (v := 0) hx hb d_Mod_isSpecial_64 (by decide) ?_
              exact mx_ri F hr hlk (by decide) hP hD hS () [] rfl (by decide) (by
                  simp only [lg_cmp_eq, lg_cmp_lt, lg_cmp_le, lg_cmp_ge, Int64.lt_iff_toInt_lt, Int64.le_iff_toInt_le, ← Int64.toInt_inj, mx_t0, mx_t1, mx_t2, mx_t7, mx_t18, mx_t22, mx_t23, mx_t28] at h3 h9 h17 h25 h33 h49
                  exact Or.inr ⟨rfl, by omega⟩) (by decide) (by decide) d_Mod_isSpecial_65
            · refine lv_lload_n hx hb d_Mod_isSpecial_52 rfl (lv_at hl 0 rfl) ?_
              refine lv_ldc2 (v := 28) hx hb hown (hT _ k_1258) d_Mod_isSpecial_53 ?_
              refine W.lcmp hx hb d_Mod_isSpecial_56 ?_
              refine lv_if_ge (tgt := 64) hx hb d_Mod_isSpecial_57 (by decide) (fun h57 => ?_) (fun h57 => ?_)
              · refine lv_iconst (v := 0) hx hb d_Mod_isSpecial_64 (by decide) ?_
                exact mx_ri F hr hlk (by decide) hP hD hS () [] rfl (by decide) (by
                    simp only [lg_cmp_eq, lg_cmp_lt, lg_cmp_le, lg_cmp_ge, Int64.lt_iff_toInt_lt, Int64.le_iff_toInt_le, ← Int64.toInt_inj, mx_t0, mx_t1, mx_t2, mx_t7, mx_t18, mx_t22, mx_t23, mx_t28] at h3 h9 h17 h25 h33 h49 h57
                    exact Or.inr ⟨rfl, by omega⟩) (by decide) (by decide) d_Mod_isSpecial_65
              · refine lv_iconst (v := 1) hx hb d_Mod_isSpecial_60 (by decide) ?_
                refine lv_goto (tgt := 65) hx hb d_Mod_isSpecial_61 (by decide) ?_
                exact mx_ri F hr hlk (by decide) hP hD hS () [] rfl (by decide) (by
                    simp only [lg_cmp_eq, lg_cmp_lt, lg_cmp_le, lg_cmp_ge, Int64.lt_iff_toInt_lt, Int64.le_iff_toInt_le, ← Int64.toInt_inj, mx_t0, mx_t1, mx_t2, mx_t7, mx_t18, mx_t22, mx_t23, mx_t28] at h3 h9 h17 h25 h33 h49 h57
                    exact Or.inl ⟨rfl, by omega, by omega⟩) (by decide) (by decide) d_Mod_isSpecial_65
          · refine lv_lload_n hx hb d_Mod_isSpecial_36 rfl (lv_at hl 0 rfl) ?_
            refine lv_ldc2 (v := 22) hx hb hown (hT _ k_1256) d_Mod_isSpecial_37 ?_
            refine W.lcmp hx hb d_Mod_isSpecial_40 ?_
            refine lv_if_lt (tgt := 60) hx hb d_Mod_isSpecial_41 (by decide) (fun h41 => ?_) (fun h41 => ?_)
            · refine lv_iconst (v := 1) hx hb d_Mod_isSpecial_60 (by decide) ?_
              refine lv_goto (tgt := 65) hx hb d_Mod_isSpecial_61 (by decide) ?_
              exact mx_ri F hr hlk (by decide) hP hD hS () [] rfl (by decide) (by
                  simp only [lg_cmp_eq, lg_cmp_lt, lg_cmp_le, lg_cmp_ge, Int64.lt_iff_toInt_lt, Int64.le_iff_toInt_le, ← Int64.toInt_inj, mx_t0, mx_t1, mx_t2, mx_t7, mx_t18, mx_t22, mx_t23, mx_t28] at h3 h9 h17 h25 h33 h41
                  exact Or.inl ⟨rfl, by omega, by omega⟩) (by decide) (by decide) d_Mod_isSpecial_65
            · refine lv_lload_n hx hb d_Mod_isSpecial_44 rfl (lv_at hl 0 rfl) ?_
              refine lv_ldc2 (v := 23) hx hb hown (hT _ k_1257) d_Mod_isSpecial_45 ?_
              refine W.lcmp hx hb d_Mod_isSpecial_48 ?_
              refine lv_if_le (tgt := 64) hx hb d_Mod_isSpecial_49 (by decide) (fun h49 => ?_) (fun h49 => ?_)
              · refine lv_iconst (v := 0) hx hb d_Mod_isSpecial_64 (by decide) ?_
                exact mx_ri F hr hlk (by decide) hP hD hS () [] rfl (by decide) (by
                    simp only [lg_cmp_eq, lg_cmp_lt, lg_cmp_le, lg_cmp_ge, Int64.lt_iff_toInt_lt, Int64.le_iff_toInt_le, ← Int64.toInt_inj, mx_t0, mx_t1, mx_t2, mx_t7, mx_t18, mx_t22, mx_t23, mx_t28] at h3 h9 h17 h25 h33 h41 h49
                    exact Or.inr ⟨rfl, by omega⟩) (by decide) (by decide) d_Mod_isSpecial_65
              · refine lv_lload_n hx hb d_Mod_isSpecial_52 rfl (lv_at hl 0 rfl) ?_
                refine lv_ldc2 (v := 28) hx hb hown (hT _ k_1258) d_Mod_isSpecial_53 ?_
                refine W.lcmp hx hb d_Mod_isSpecial_56 ?_
                refine lv_if_ge (tgt := 64) hx hb d_Mod_isSpecial_57 (by decide) (fun h57 => ?_) (fun h57 => ?_)
                · refine lv_iconst (v := 0) hx hb d_Mod_isSpecial_64 (by decide) ?_
                  exact mx_ri F hr hlk (by decide) hP hD hS () [] rfl (by decide) (by
                      simp only [lg_cmp_eq, lg_cmp_lt, lg_cmp_le, lg_cmp_ge, Int64.lt_iff_toInt_lt, Int64.le_iff_toInt_le, ← Int64.toInt_inj, mx_t0, mx_t1, mx_t2, mx_t7, mx_t18, mx_t22, mx_t23, mx_t28] at h3 h9 h17 h25 h33 h41 h49 h57
                      exact Or.inr ⟨rfl, by omega⟩) (by decide) (by decide) d_Mod_isSpecial_65
                · refine lv_iconst (v := 1) hx hb d_Mod_isSpecial_60 (by decide) ?_
                  refine lv_goto (tgt := 65) hx hb d_Mod_isSpecial_61 (by decide) ?_
                  exact mx_ri F hr hlk (by decide) hP hD hS () [] rfl (by decide) (by
                      simp only [lg_cmp_eq, lg_cmp_lt, lg_cmp_le, lg_cmp_ge, Int64.lt_iff_toInt_lt, Int64.le_iff_toInt_le, ← Int64.toInt_inj, mx_t0, mx_t1, mx_t2, mx_t7, mx_t18, mx_t22, mx_t23, mx_t28] at h3 h9 h17 h25 h33 h41 h49 h57
                      exact Or.inl ⟨rfl, by omega, by omega⟩) (by decide) (by decide) d_Mod_isSpecial_65
set_option maxHeartbeats 4000000 in
set_option maxRecDepth 100000 in
theorem c_Mod_getSpecial (l : Launch) (K : mx_K) (zm : Nat) (k : Int32) (mt : Nat) (mx : Nat) (mla : Nat) (mll : Nat) (mli : Nat) (mlr : Nat) (mk : Nat) (mm : Nat) (md : Nat) (mr : Nat) (ms : Nat) (mst : Nat) (mas : Nat) (sz : Nat) (h0 : 0 ≤ k.toInt ∧ k.toInt < 28) : mx_L l y_Mod_getSpecial b_Mod_getSpecial 2 { frames := 0, cells := 0, slots := 0, locals := 0 } K [.ref zm, .int k] [(zm, .inr (10, [.int 0, .int 0, .int 0, .int (-1), .int 0, .int 0, .int 0, .int 0, .int 255, .int 0, .int 0, .int 0, .long 256, .long 0, .int 0, .int 0, .long 0, .int 0, .int 0, .int 0, .int 0, .int 0, .int 0, .int 0, .int 0, .long 0, .long 0, .int 0, .long 0, .long 0, .long 0, .ref mt, .ref mx, .ref mla, .ref mll, .ref mli, .ref mlr, .ref mk, .ref mm, .ref md, .ref mr, .ref ms, .ref mst, .ref mas])), (ms, .inl (K.2.1.1, 32, .inr (.inl (fun _ => 0))))] sz (fun (r : Int64) (u : Unit) => r = mx_spec k) (fun u : Unit => []) := by
  refine mx_of (by decide) (Nat.le_of_ble_eq_true rfl) ?_
  intro p e s m below meth c A ls H locs hAe F hr hlk hin hsz hP hD hS hl
  rw [hAe]
  have hl : lv_has ls 2 [(0, .ref zm), (1, .int k)] := hl
  obtain ⟨hx, hb, hml, hown, hT, hK, hN, hE, hA⟩ := id F
  refine lv_iload_n hx hb d_Mod_getSpecial_0 rfl (lv_at hl 1 rfl) ?_
  refine lv_bipush (v := 19) hx hb d_Mod_getSpecial_1 (by decide) ?_
  refine lv_icmp_ne (tgt := 14) hx hb d_Mod_getSpecial_3 (by decide) (fun h3 => ?_) (fun h3 => ?_)
  · refine lv_iload_n hx hb d_Mod_getSpecial_14 rfl (lv_at hl 1 rfl) ?_
    refine lv_bipush (v := 20) hx hb d_Mod_getSpecial_15 (by decide) ?_
    refine lv_icmp_ne (tgt := 28) hx hb d_Mod_getSpecial_17 (by decide) (fun h17 => ?_) (fun h17 => ?_)
    · refine lv_aload_n hx hb d_Mod_getSpecial_28 rfl (lv_at hl 0 rfl) ?_
      refine va_get (D := K.1) (ci := 10) (v := .ref ms) (C := R_Mod) (T := T_Mod) (N := 44) hx hb hT in_Mod hown hK hP 0 rfl rfl 41 (by decide) (hT _ k_994) (fun _ h9 => h9) rfl d_Mod_getSpecial_29 ?_
      refine lv_iload_n hx hb d_Mod_getSpecial_32 rfl (lv_at hl 1 rfl) ?_
      refine va_lald hx hb hK hP 1 0 rfl rfl (i := k) (mx_inT (N := 32) h0.1 (by omega)) d_Mod_getSpecial_33 ?_
      refine lv_topl (fun z1 ez1 => ?_)
      obtain rfl : z1 = 0 := ez1.trans rfl
      exact mx_rl F hr hlk hP hD hS () [] rfl (by decide) (mx_spec_no h3) (by decide) (by decide) d_Mod_getSpecial_34
    · refine lv_aload_n hx hb d_Mod_getSpecial_20 rfl (lv_at hl 0 rfl) ?_
      refine va_get (D := K.1) (ci := 10) (v := .int 0) (C := R_Mod) (T := T_Mod) (N := 44) hx hb hT in_Mod hown hK hP 0 rfl rfl 7 (by decide) (hT _ k_998) (fun _ h9 => h9) rfl d_Mod_getSpecial_21 ?_
      refine lv_i2l (v := 0) hx hb d_Mod_getSpecial_24 (by decide) ?_
      refine lv_goto (tgt := 34) hx hb d_Mod_getSpecial_25 (by decide) ?_
      exact mx_rl F hr hlk hP hD hS () [] rfl (by decide) (mx_spec_no h3) (by decide) (by decide) d_Mod_getSpecial_34
  · refine lv_aload_n hx hb d_Mod_getSpecial_6 rfl (lv_at hl 0 rfl) ?_
    refine va_get (D := K.1) (ci := 10) (v := .int 255) (C := R_Mod) (T := T_Mod) (N := 44) hx hb hT in_Mod hown hK hP 0 rfl rfl 8 (by decide) (hT _ k_999) (fun _ h9 => h9) rfl d_Mod_getSpecial_7 ?_
    refine lv_i2l (v := 255) hx hb d_Mod_getSpecial_10 (by decide) ?_
    refine lv_goto (tgt := 34) hx hb d_Mod_getSpecial_11 (by decide) ?_
    exact mx_rl F hr hlk hP hD hS () [] rfl (by decide) (mx_spec_19 h3) (by decide) (by decide) d_Mod_getSpecial_34
set_option maxHeartbeats 4000000 in
set_option maxRecDepth 100000 in
theorem c_Mod_special (l : Launch) (K : mx_K) (zm : Nat) (k : Int32) (mt : Nat) (mx : Nat) (mla : Nat) (mll : Nat) (mli : Nat) (mlr : Nat) (mk : Nat) (mm : Nat) (md : Nat) (mr : Nat) (ms : Nat) (mst : Nat) (mas : Nat) (sz : Nat) : mx_L l y_Mod_special b_Mod_special 2 { frames := 1, cells := 0, slots := 0, locals := 21 } K [.ref zm, .int k] [(zm, .inr (10, [.int 0, .int 0, .int 0, .int (-1), .int 0, .int 0, .int 0, .int 0, .int 255, .int 0, .int 0, .int 0, .long 256, .long 0, .int 0, .int 0, .long 0, .int 0, .int 0, .int 0, .int 0, .int 0, .int 0, .int 0, .int 0, .long 0, .long 0, .int 0, .long 0, .long 0, .long 0, .ref mt, .ref mx, .ref mla, .ref mll, .ref mli, .ref mlr, .ref mk, .ref mm, .ref md, .ref mr, .ref ms, .ref mst, .ref mas])), (ms, .inl (K.2.1.1, 32, .inr (.inl (fun _ => 0))))] sz (fun (r : Int64) (u : Unit) => r = mx_spec k) (fun u : Unit => []) := by
  refine mx_of (by decide) (Nat.le_of_ble_eq_true rfl) ?_
  intro p e s m below meth c A ls H locs hAe F hr hlk hin hsz hP hD hS hl
  rw [hAe]
  have hl : lv_has ls 2 [(0, .ref zm), (1, .int k)] := hl
  obtain ⟨hx, hb, hml, hown, hT, hK, hN, hE, hA⟩ := id F
  refine lv_aload_n hx hb d_Mod_special_0 rfl (lv_at hl 0 rfl) ?_
  refine lv_iconst (v := 0) hx hb d_Mod_special_1 (by decide) ?_
  refine va_put (D := K.1) (ci := 10) (v := .int 0) (ty := .int) (C := R_Mod) (T := T_Mod) (N := 44) hx hb hT in_Mod t_Mod t_Mod_ok n_Mod hown hK hP hD hS 0 rfl rfl 0 (by decide) (hT _ k_978) (fun _ h9 => h9) rfl (by decide +kernel) rfl rfl (Nat.le_of_ble_eq_true rfl) d_Mod_special_2 (fun H locs hP hD hS => ?_)
  have hP : va_P K.1 mx_cl [(zm, .inr (10, [.int 0, .int 0, .int 0, .int (-1), .int 0, .int 0, .int 0, .int 0, .int 255, .int 0, .int 0, .int 0, .long 256, .long 0, .int 0, .int 0, .long 0, .int 0, .int 0, .int 0, .int 0, .int 0, .int 0, .int 0, .int 0, .long 0, .long 0, .int 0, .long 0, .long 0, .long 0, .ref mt, .ref mx, .ref mla, .ref mll, .ref mli, .ref mlr, .ref mk, .ref mm, .ref md, .ref mr, .ref ms, .ref mst, .ref mas])), (ms, .inl (K.2.1.1, 32, .inr (.inl (fun _ => 0))))] H := hP
  have hD : va_D A [(zm, .inr (10, [.int 0, .int 0, .int 0, .int (-1), .int 0, .int 0, .int 0, .int 0, .int 255, .int 0, .int 0, .int 0, .long 256, .long 0, .int 0, .int 0, .long 0, .int 0, .int 0, .int 0, .int 0, .int 0, .int 0, .int 0, .int 0, .long 0, .long 0, .int 0, .long 0, .long 0, .long 0, .ref mt, .ref mx, .ref mla, .ref mll, .ref mli, .ref mlr, .ref mk, .ref mm, .ref md, .ref mr, .ref ms, .ref mst, .ref mas])), (ms, .inl (K.2.1.1, 32, .inr (.inl (fun _ => 0))))] := hD
  refine lv_iload_n hx hb d_Mod_special_5 rfl (lv_at hl 1 rfl) ?_
  refine lv_i2l (v := k.toInt64) hx hb d_Mod_special_6 rfl ?_
  refine mx_ci (wr := [(zm, .inr (10, [.int 0, .int 0, .int 0, .int (-1), .int 0, .int 0, .int 0, .int 0, .int 255, .int 0, .int 0, .int 0, .long 256, .long 0, .int 0, .int 0, .long 0, .int 0, .int 0, .int 0, .int 0, .int 0, .int 0, .int 0, .int 0, .long 0, .long 0, .int 0, .long 0, .long 0, .long 0, .ref mt, .ref mx, .ref mla, .ref mll, .ref mli, .ref mlr, .ref mk, .ref mm, .ref md, .ref mr, .ref ms, .ref mst, .ref mas])), (ms, .inl (K.2.1.1, 32, .inr (.inl (fun _ => 0))))]) F (mx_runS (As := [.long k.toInt64]) (rest := []) (n := 1) F (c_Mod_isSpecial l K k.toInt64 H.size) k_1252 (Or.inl k_1250) k_1251 k_15 p_Mod_isSpecial rfl rfl hP hD hS [] rfl (by decide)  rfl hl.1 rfl (Nat.le_of_ble_eq_true rfl) ⟨by decide, by decide⟩ ⟨by decide, by decide⟩ d_Mod_special_7) hP hD hS [] [0, 1] rfl rfl (by decide) (by decide) (fun r2 _ H locs hq1 hP hD hS => ?_)
  have hP : va_P K.1 mx_cl [(zm, .inr (10, [.int 0, .int 0, .int 0, .int (-1), .int 0, .int 0, .int 0, .int 0, .int 255, .int 0, .int 0, .int 0, .long 256, .long 0, .int 0, .int 0, .long 0, .int 0, .int 0, .int 0, .int 0, .int 0, .int 0, .int 0, .int 0, .long 0, .long 0, .int 0, .long 0, .long 0, .long 0, .ref mt, .ref mx, .ref mla, .ref mll, .ref mli, .ref mlr, .ref mk, .ref mm, .ref md, .ref mr, .ref ms, .ref mst, .ref mas])), (ms, .inl (K.2.1.1, 32, .inr (.inl (fun _ => 0))))] H := hP
  have hD : va_D A [(zm, .inr (10, [.int 0, .int 0, .int 0, .int (-1), .int 0, .int 0, .int 0, .int 0, .int 255, .int 0, .int 0, .int 0, .long 256, .long 0, .int 0, .int 0, .long 0, .int 0, .int 0, .int 0, .int 0, .int 0, .int 0, .int 0, .int 0, .long 0, .long 0, .int 0, .long 0, .long 0, .long 0, .ref mt, .ref mx, .ref mla, .ref mll, .ref mli, .ref mlr, .ref mk, .ref mm, .ref md, .ref mr, .ref ms, .ref mst, .ref mas])), (ms, .inl (K.2.1.1, 32, .inr (.inl (fun _ => 0))))] := hD
  refine W.cs (cells' := 0) (slots' := 0) rfl rfl ?_
  have hqs := hq1
  refine lv_if_eq (tgt := 21) hx hb d_Mod_special_10 (by decide) (fun h10 => ?_) (fun h10 => ?_)
  · have hk := mx_sp0 hqs h10
    refine lv_lconst (v := 0) hx hb d_Mod_special_21 (by decide) ?_
    exact mx_rl F hr hlk hP hD hS () [] rfl (by decide) (mx_spec_no hk) (by decide) (by decide) d_Mod_special_22
  · have hk := mx_sp1 hqs h10
    refine lv_aload_n hx hb d_Mod_special_13 rfl (lv_at hl 0 rfl) ?_
    refine lv_iload_n hx hb d_Mod_special_14 rfl (lv_at hl 1 rfl) ?_
    refine mx_cj (wr := []) F (mx_runV (As := [.int k]) (rest := []) (n := 1) F (c_Mod_getSpecial l K zm k mt mx mla mll mli mlr mk mm md mr ms mst mas H.size hk) k_1397 (Or.inl k_1394) k_1396 s_Mod_getSpecial k_15 p_Mod_getSpecial rfl rfl hP hD hS [0, 1] rfl (by decide) (va_recv (q := (R_Mod, T_Mod, 44)) (ci := 10) (q0 := 0) hK hP rfl rfl) rfl hl.1 rfl (Nat.le_of_ble_eq_true rfl) ⟨by decide, by decide⟩ ⟨by decide, by decide⟩ d_Mod_special_15) hP hD hS [0, 1] [] rfl rfl (by decide) (by decide) (fun r4 _ H locs hq3 hP hD hS => ?_)
    obtain rfl : r4 = mx_spec k := hq3
    have hP : va_P K.1 mx_cl [] H := hP
    have hD : va_D A [] := hD
    refine W.cs (cells' := 0) (slots' := 0) rfl rfl ?_
    refine lv_goto (tgt := 22) hx hb d_Mod_special_18 (by decide) ?_
    exact mx_rl F hr hlk hP hD hS () [] rfl (by decide) rfl (by decide) (by decide) d_Mod_special_22
set_option maxHeartbeats 4000000 in
set_option maxRecDepth 100000 in
theorem c_Mod_place (l : Launch) (K : mx_K) (zm : Nat) (mt : Nat) (mx : Nat) (mla : Nat) (mll : Nat) (mli : Nat) (mlr : Nat) (mk : Nat) (mm : Nat) (md : Nat) (mr : Nat) (ms : Nat) (mst : Nat) (mas : Nat) (sz : Nat) : mx_L l y_Mod_place b_Mod_place 1 { frames := 0, cells := 0, slots := 0, locals := 0 } K [.ref zm] [(zm, .inr (10, [.int 0, .int 0, .int 0, .int (-1), .int 0, .int 0, .int 0, .int 0, .int 255, .int 0, .int 0, .int 0, .long 256, .long 0, .int 0, .int 0, .long 0, .int 0, .int 0, .int 0, .int 0, .int 0, .int 0, .int 0, .int 0, .long 0, .long 0, .int 0, .long 0, .long 0, .long 0, .ref mt, .ref mx, .ref mla, .ref mll, .ref mli, .ref mlr, .ref mk, .ref mm, .ref md, .ref mr, .ref ms, .ref mst, .ref mas]))] sz (fun (r : Int64) (u : Unit) => r = 256) (fun u : Unit => []) := by
  refine mx_of (by decide) (Nat.le_of_ble_eq_true rfl) ?_
  intro p e s m below meth c A ls H locs hAe F hr hlk hin hsz hP hD hS hl
  rw [hAe]
  have hl : lv_has ls 1 [(0, .ref zm)] := hl
  obtain ⟨hx, hb, hml, hown, hT, hK, hN, hE, hA⟩ := id F
  refine lv_aload_n hx hb d_Mod_place_0 rfl (lv_at hl 0 rfl) ?_
  refine lv_iconst (v := 0) hx hb d_Mod_place_1 (by decide) ?_
  refine va_put (D := K.1) (ci := 10) (v := .int 0) (ty := .int) (C := R_Mod) (T := T_Mod) (N := 44) hx hb hT in_Mod t_Mod t_Mod_ok n_Mod hown hK hP hD hS 0 rfl rfl 0 (by decide) (hT _ k_978) (fun _ h9 => h9) rfl (by decide +kernel) rfl rfl (Nat.le_of_ble_eq_true rfl) d_Mod_place_2 (fun H locs hP hD hS => ?_)
  have hP : va_P K.1 mx_cl [(zm, .inr (10, [.int 0, .int 0, .int 0, .int (-1), .int 0, .int 0, .int 0, .int 0, .int 255, .int 0, .int 0, .int 0, .long 256, .long 0, .int 0, .int 0, .long 0, .int 0, .int 0, .int 0, .int 0, .int 0, .int 0, .int 0, .int 0, .long 0, .long 0, .int 0, .long 0, .long 0, .long 0, .ref mt, .ref mx, .ref mla, .ref mll, .ref mli, .ref mlr, .ref mk, .ref mm, .ref md, .ref mr, .ref ms, .ref mst, .ref mas]))] H := hP
  have hD : va_D A [(zm, .inr (10, [.int 0, .int 0, .int 0, .int (-1), .int 0, .int 0, .int 0, .int 0, .int 255, .int 0, .int 0, .int 0, .long 256, .long 0, .int 0, .int 0, .long 0, .int 0, .int 0, .int 0, .int 0, .int 0, .int 0, .int 0, .int 0, .long 0, .long 0, .int 0, .long 0, .long 0, .long 0, .ref mt, .ref mx, .ref mla, .ref mll, .ref mli, .ref mlr, .ref mk, .ref mm, .ref md, .ref mr, .ref ms, .ref mst, .ref mas]))] := hD
  refine lv_aload_n hx hb d_Mod_place_5 rfl (lv_at hl 0 rfl) ?_
  refine va_get (D := K.1) (ci := 10) (v := .long 256) (C := R_Mod) (T := T_Mod) (N := 44) hx hb hT in_Mod hown hK hP 0 rfl rfl 12 (by decide) (hT _ k_1003) (fun _ h9 => h9) rfl d_Mod_place_6 ?_
  exact mx_rl F hr hlk hP hD hS () [] rfl (by decide) rfl (by decide) (by decide) d_Mod_place_9
set_option maxHeartbeats 4000000 in
set_option maxRecDepth 100000 in
theorem c_Mod_taken (l : Launch) (K : mx_K) (zm : Nat) (w : Int32) (mt : Nat) (mx : Nat) (mla : Nat) (mll : Nat) (mli : Nat) (mlr : Nat) (mk : Nat) (mm : Nat) (md : Nat) (mr : Nat) (ms : Nat) (mst : Nat) (mas : Nat) (sz : Nat) : mx_I l y_Mod_taken b_Mod_taken 2 .int { frames := 0, cells := 0, slots := 0, locals := 0 } K [.ref zm, .int w] [(zm, .inr (10, [.int 0, .int 0, .int 0, .int (-1), .int 0, .int 0, .int 0, .int 0, .int 255, .int 0, .int 0, .int 0, .long 256, .long 0, .int 0, .int 0, .long 0, .int 0, .int 0, .int 0, .int 0, .int 0, .int 0, .int 0, .int 0, .long 0, .long 0, .int 0, .long 0, .long 0, .long 0, .ref mt, .ref mx, .ref mla, .ref mll, .ref mli, .ref mlr, .ref mk, .ref mm, .ref md, .ref mr, .ref ms, .ref mst, .ref mas]))] sz (fun (r : Int32) (u : Unit) => r = mx_take w) (fun u : Unit => []) := by
  refine mx_of (by decide) (Nat.le_of_ble_eq_true rfl) ?_
  intro p e s m below meth c A ls H locs hAe F hr hlk hin hsz hP hD hS hl
  rw [hAe]
  have hl : lv_has ls 2 [(0, .ref zm), (1, .int w)] := hl
  obtain ⟨hx, hb, hml, hown, hT, hK, hN, hE, hA⟩ := id F
  refine lv_aload_n hx hb d_Mod_taken_0 rfl (lv_at hl 0 rfl) ?_
  refine lv_iconst (v := 0) hx hb d_Mod_taken_1 (by decide) ?_
  refine va_put (D := K.1) (ci := 10) (v := .int 0) (ty := .int) (C := R_Mod) (T := T_Mod) (N := 44) hx hb hT in_Mod t_Mod t_Mod_ok n_Mod hown hK hP hD hS 0 rfl rfl 0 (by decide) (hT _ k_978) (fun _ h9 => h9) rfl (by decide +kernel) rfl rfl (Nat.le_of_ble_eq_true rfl) d_Mod_taken_2 (fun H locs hP hD hS => ?_)
  have hP : va_P K.1 mx_cl [(zm, .inr (10, [.int 0, .int 0, .int 0, .int (-1), .int 0, .int 0, .int 0, .int 0, .int 255, .int 0, .int 0, .int 0, .long 256, .long 0, .int 0, .int 0, .long 0, .int 0, .int 0, .int 0, .int 0, .int 0, .int 0, .int 0, .int 0, .long 0, .long 0, .int 0, .long 0, .long 0, .long 0, .ref mt, .ref mx, .ref mla, .ref mll, .ref mli, .ref mlr, .ref mk, .ref mm, .ref md, .ref mr, .ref ms, .ref mst, .ref mas]))] H := hP
  have hD : va_D A [(zm, .inr (10, [.int 0, .int 0, .int 0, .int (-1), .int 0, .int 0, .int 0, .int 0, .int 255, .int 0, .int 0, .int 0, .long 256, .long 0, .int 0, .int 0, .long 0, .int 0, .int 0, .int 0, .int 0, .int 0, .int 0, .int 0, .int 0, .long 0, .long 0, .int 0, .long 0, .long 0, .long 0, .ref mt, .ref mx, .ref mla, .ref mll, .ref mli, .ref mlr, .ref mk, .ref mm, .ref md, .ref mr, .ref ms, .ref mst, .ref mas]))] := hD
  refine lv_iload_n hx hb d_Mod_taken_5 rfl (lv_at hl 1 rfl) ?_
  refine lv_if_ne (tgt := 16) hx hb d_Mod_taken_6 (by decide) (fun h6 => ?_) (fun h6 => ?_)
  · refine lv_iload_n hx hb d_Mod_taken_16 rfl (lv_at hl 1 rfl) ?_
    refine lv_iconst (v := 1) hx hb d_Mod_taken_17 (by decide) ?_
    refine lv_icmp_ne (tgt := 28) hx hb d_Mod_taken_18 (by decide) (fun h18 => ?_) (fun h18 => ?_)
    · refine lv_iload_n hx hb d_Mod_taken_28 rfl (lv_at hl 1 rfl) ?_
      refine lv_iconst (v := 2) hx hb d_Mod_taken_29 (by decide) ?_
      refine lv_icmp_ne (tgt := 40) hx hb d_Mod_taken_30 (by decide) (fun h30 => ?_) (fun h30 => ?_)
      · refine lv_iconst (v := (-1)) hx hb d_Mod_taken_40 (by decide) ?_
        exact mx_ri F hr hlk rfl hP hD hS () [] rfl (by decide) ((if_neg (fun q => q.elim h6 (fun q => q.elim h18 h30))).symm) (by decide) (by decide) d_Mod_taken_41
      · refine lv_aload_n hx hb d_Mod_taken_33 rfl (lv_at hl 0 rfl) ?_
        refine va_get (D := K.1) (ci := 10) (v := .int 0) (C := R_Mod) (T := T_Mod) (N := 44) hx hb hT in_Mod hown hK hP 0 rfl rfl 6 (by decide) (hT _ k_997) (fun _ h9 => h9) rfl d_Mod_taken_34 ?_
        refine lv_goto (tgt := 41) hx hb d_Mod_taken_37 (by decide) ?_
        exact mx_ri F hr hlk rfl hP hD hS () [] rfl (by decide) ((if_pos (Or.inr (Or.inr h30))).symm) (by decide) (by decide) d_Mod_taken_41
    · refine lv_aload_n hx hb d_Mod_taken_21 rfl (lv_at hl 0 rfl) ?_
      refine va_get (D := K.1) (ci := 10) (v := .int 0) (C := R_Mod) (T := T_Mod) (N := 44) hx hb hT in_Mod hown hK hP 0 rfl rfl 10 (by decide) (hT _ k_1001) (fun _ h9 => h9) rfl d_Mod_taken_22 ?_
      refine lv_goto (tgt := 41) hx hb d_Mod_taken_25 (by decide) ?_
      exact mx_ri F hr hlk rfl hP hD hS () [] rfl (by decide) ((if_pos (Or.inr (Or.inl h18))).symm) (by decide) (by decide) d_Mod_taken_41
  · refine lv_aload_n hx hb d_Mod_taken_9 rfl (lv_at hl 0 rfl) ?_
    refine va_get (D := K.1) (ci := 10) (v := .int 0) (C := R_Mod) (T := T_Mod) (N := 44) hx hb hT in_Mod hown hK hP 0 rfl rfl 9 (by decide) (hT _ k_1000) (fun _ h9 => h9) rfl d_Mod_taken_10 ?_
    refine lv_goto (tgt := 41) hx hb d_Mod_taken_13 (by decide) ?_
    exact mx_ri F hr hlk rfl hP hD hS () [] rfl (by decide) ((if_pos (Or.inl h6)).symm) (by decide) (by decide) d_Mod_taken_41
