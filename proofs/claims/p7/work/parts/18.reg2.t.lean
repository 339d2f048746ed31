set_option maxHeartbeats 4000000 in
set_option maxRecDepth 100000 in
theorem s_Reg_put (l : Launch) (K : mx_K) (rg : Nat) (k : Int32) (w : Int64) (ge : Nat) (sp : Nat) (sk : Nat) (fg : Nat → Int64) (fp : Nat → Int64) (d : Nat) (lo : Nat) (gl : Nat) (sz : Nat) (hlo : lo ≤ gl) (hgl : gl ≤ 255) : mx_V l y_Reg_put b_Reg_put 4 { frames := 2, cells := 0, slots := 0, locals := 43 } K [.ref rg, .int k, .long w] [(rg, .inr (2, [.int (nI d), .int (nI lo), .int (nI gl), .ref ge, .ref sp, .ref sk])), (ge, .inl (K.2.1.1, 256, .inr (.inl fg))), (sp, .inl (K.2.1.1, 28, .inr (.inl fp)))] sz (fun u : va_W => ∃ (lo2 : Nat) (gl2 : Nat) (fg2 : Nat → Int64) (fp2 : Nat → Int64), (lo2 ≤ gl2) ∧ (gl2 ≤ 255) ∧ u = [(rg, .inr (2, [.int (nI d), .int (nI lo2), .int (nI gl2), .ref ge, .ref sp, .ref sk])), (ge, .inl (K.2.1.1, 256, .inr (.inl fg2))), (sp, .inl (K.2.1.1, 28, .inr (.inl fp2)))]) (fun u : va_W => u) := by
  refine mx_of (by decide) (Nat.le_of_ble_eq_true rfl) ?_
  intro p e s m below meth c A ls H locs hAe F hr hlk hin hsz hP hD hS hl
  rw [hAe]
  have hl : lv_has ls 4 [(0, .ref rg), (1, .int k), (2, .long w)] := hl
  obtain ⟨hx, hb, hml, hown, hT, hK, hN, hE, hA⟩ := id F
  refine lv_iload_n hx hb d_Reg_put_0 rfl (lv_at hl 1 rfl) ?_
  refine lv_bipush (v := 19) hx hb d_Reg_put_1 (by decide) ?_
  refine lv_icmp_ne (tgt := 51) hx hb d_Reg_put_3 (by decide) (fun h_1 => ?_) (fun h_1 => ?_)
  · refine lv_iload_n hx hb d_Reg_put_51 rfl (lv_at hl 1 rfl) ?_
    refine lv_bipush (v := 20) hx hb d_Reg_put_52 (by decide) ?_
    refine lv_icmp_ne (tgt := 92) hx hb d_Reg_put_54 (by decide) (fun h_2 => ?_) (fun h_2 => ?_)
    · refine lv_aload_n hx hb d_Reg_put_92 rfl (lv_at hl 0 rfl) ?_
      refine lv_iload_n hx hb d_Reg_put_93 rfl (lv_at hl 1 rfl) ?_
      refine lv_iload_n hx hb d_Reg_put_94 rfl (lv_at hl 1 rfl) ?_
      refine lv_bipush (v := 21) hx hb d_Reg_put_95 (by decide) ?_
      refine lv_icmp_ne (tgt := 108) hx hb d_Reg_put_97 (by decide) (fun h_3 => ?_) (fun h_3 => ?_)
      · refine lv_lload_n hx hb d_Reg_put_108 rfl (lv_at hl 2 rfl) ?_
        refine mx_cv (wr := [(ge, .inl (K.2.1.1, 256, .inr (.inl fg)))]) F (mx_runV (As := [.int k, .long w]) (rest := []) (n := 2) F (s_Reg_set l K rg k w ge sp sk fp d lo gl H.size) k_809 (Or.inl k_828) k_807 k_808 k_3 p_Reg_set rfl rfl hP hD hS [0, 2] rfl (by decide) (va_recv (q := (R_Reg, T_Reg, 6)) (ci := 2) (q0 := 0) hK hP rfl rfl) rfl hl.1 rfl (Nat.le_of_ble_eq_true rfl) ⟨by decide, by decide⟩ ⟨by decide, by decide⟩ d_Reg_put_109) hP hD hS [0, 2] [1] rfl rfl (by decide) (by decide) (fun u_5 H locs hq_4 hP hD hS => ?_)
        obtain ⟨w_7, rfl⟩ := hq_4
        have hP : va_P K.1 mx_cl [(ge, .inl (K.2.1.1, 256, .inr (.inl fg))), (rg, .inr (2, [.int (nI d), .int (nI lo), .int (nI gl), .ref ge, .ref sp, .ref sk])), (sp, .inl (K.2.1.1, 28, .inr (.inl w_7)))] H := hP
        have hD : va_D A [(ge, .inl (K.2.1.1, 256, .inr (.inl fg))), (rg, .inr (2, [.int (nI d), .int (nI lo), .int (nI gl), .ref ge, .ref sp, .ref sk])), (sp, .inl (K.2.1.1, 28, .inr (.inl w_7)))] := hD
        refine W.cs (cells' := 0) (slots' := 0) rfl rfl ?_
        exact mx_rv F hr hlk hP hD hS [(rg, .inr (2, [.int (nI d), .int (nI lo), .int (nI gl), .ref ge, .ref sp, .ref sk])), (ge, .inl (K.2.1.1, 256, .inr (.inl fg))), (sp, .inl (K.2.1.1, 28, .inr (.inl w_7)))] [1, 0, 2] rfl (by decide) ⟨lo, gl, fg, w_7, (by first | assumption | omega | exact mx_ch_0), (by first | assumption | omega | exact mx_ch_0), rfl⟩ (by decide) (by decide) d_Reg_put_112
      · refine lv_lload_n hx hb d_Reg_put_100 rfl (lv_at hl 2 rfl) ?_
        refine lv_ldc2 (v := 262143) hx hb hown (hT _ k_827) d_Reg_put_101 ?_
        refine lv_land hx hb d_Reg_put_104 ?_
        refine lv_goto (tgt := 109) hx hb d_Reg_put_105 (by decide) ?_
        refine mx_cv (wr := [(ge, .inl (K.2.1.1, 256, .inr (.inl fg)))]) F (mx_runV (As := [.int k, .long (w &&& (262143 : Int64))]) (rest := []) (n := 2) F (s_Reg_set l K rg k (w &&& (262143 : Int64)) ge sp sk fp d lo gl H.size) k_809 (Or.inl k_828) k_807 k_808 k_3 p_Reg_set rfl rfl hP hD hS [0, 2] rfl (by decide) (va_recv (q := (R_Reg, T_Reg, 6)) (ci := 2) (q0 := 0) hK hP rfl rfl) rfl hl.1 rfl (Nat.le_of_ble_eq_true rfl) ⟨by decide, by decide⟩ ⟨by decide, by decide⟩ d_Reg_put_109) hP hD hS [0, 2] [1] rfl rfl (by decide) (by decide) (fun u_10 H locs hq_9 hP hD hS => ?_)
        obtain ⟨w_12, rfl⟩ := hq_9
        have hP : va_P K.1 mx_cl [(ge, .inl (K.2.1.1, 256, .inr (.inl fg))), (rg, .inr (2, [.int (nI d), .int (nI lo), .int (nI gl), .ref ge, .ref sp, .ref sk])), (sp, .inl (K.2.1.1, 28, .inr (.inl w_12)))] H := hP
        have hD : va_D A [(ge, .inl (K.2.1.1, 256, .inr (.inl fg))), (rg, .inr (2, [.int (nI d), .int (nI lo), .int (nI gl), .ref ge, .ref sp, .ref sk])), (sp, .inl (K.2.1.1, 28, .inr (.inl w_12)))] := hD
        refine W.cs (cells' := 0) (slots' := 0) rfl rfl ?_
        exact mx_rv F hr hlk hP hD hS [(rg, .inr (2, [.int (nI d), .int (nI lo), .int (nI gl), .ref ge, .ref sp, .ref sk])), (ge, .inl (K.2.1.1, 256, .inr (.inl fg))), (sp, .inl (K.2.1.1, 28, .inr (.inl w_12)))] [1, 0, 2] rfl (by decide) ⟨lo, gl, fg, w_12, (by first | assumption | omega | exact mx_ch_0), (by first | assumption | omega | exact mx_ch_0), rfl⟩ (by decide) (by decide) d_Reg_put_112
    · refine lv_lload_n hx hb d_Reg_put_57 rfl (lv_at hl 2 rfl) ?_
      refine lv_lconst (v := 0) hx hb d_Reg_put_58 (by decide) ?_
      refine W.lcmp hx hb d_Reg_put_59 ?_
      refine lv_if_lt (tgt := 112) hx hb d_Reg_put_60 (by decide) (fun h60 => ?_) (fun h60 => ?_)
      · exact mx_rv F hr hlk hP hD hS [(rg, .inr (2, [.int (nI d), .int (nI lo), .int (nI gl), .ref ge, .ref sp, .ref sk])), (ge, .inl (K.2.1.1, 256, .inr (.inl fg))), (sp, .inl (K.2.1.1, 28, .inr (.inl fp)))] [0, 1, 2] rfl (by decide) ⟨lo, gl, fg, fp, (by first | assumption | omega | exact mx_ch_0), (by first | assumption | omega | exact mx_ch_0), rfl⟩ (by decide) (by decide) d_Reg_put_112
      · refine lv_lload_n hx hb d_Reg_put_63 rfl (lv_at hl 2 rfl) ?_
        refine lv_aload_n hx hb d_Reg_put_64 rfl (lv_at hl 0 rfl) ?_
        refine va_get (D := K.1) (ci := 2) (v := .int (nI lo)) (C := R_Reg) (T := T_Reg) (N := 6) hx hb hT in_Reg hown hK hP 0 rfl rfl 1 (by decide) (hT _ k_53) (fun _ h9 => h9) rfl d_Reg_put_65 ?_
        refine lv_i2l (v := (nI lo).toInt64) hx hb d_Reg_put_68 rfl ?_
        refine W.lcmp hx hb d_Reg_put_69 ?_
        refine lv_if_ge (tgt := 112) hx hb d_Reg_put_70 (by decide) (fun h70 => ?_) (fun h70 => ?_)
        · exact mx_rv F hr hlk hP hD hS [(rg, .inr (2, [.int (nI d), .int (nI lo), .int (nI gl), .ref ge, .ref sp, .ref sk])), (ge, .inl (K.2.1.1, 256, .inr (.inl fg))), (sp, .inl (K.2.1.1, 28, .inr (.inl fp)))] [0, 1, 2] rfl (by decide) ⟨lo, gl, fg, fp, (by first | assumption | omega | exact mx_ch_0), (by first | assumption | omega | exact mx_ch_0), rfl⟩ (by decide) (by decide) d_Reg_put_112
        · rw [nI_l (by omega)] at h70
          obtain ⟨v, hv2, rfl⟩ := mx_rngL (b := lo) (by omega) h60 h70
          refine lv_aload_n hx hb d_Reg_put_73 rfl (lv_at hl 0 rfl) ?_
          refine lv_lload_n hx hb d_Reg_put_74 rfl (lv_at hl 2 rfl) ?_
          refine lv_l2i (v := nI v) hx hb d_Reg_put_75 (lN_i _) ?_
          refine lv_aload_n hx hb d_Reg_put_76 rfl (lv_at hl 0 rfl) ?_
          refine va_get (D := K.1) (ci := 2) (v := .int (nI lo)) (C := R_Reg) (T := T_Reg) (N := 6) hx hb hT in_Reg hown hK hP 0 rfl rfl 1 (by decide) (hT _ k_53) (fun _ h9 => h9) rfl d_Reg_put_77 ?_
          refine mx_cv (wr := [(sp, .inl (K.2.1.1, 28, .inr (.inl fp)))]) F (mx_runV (As := [.int (nI v), .int (nI lo)]) (rest := []) (n := 2) F (s_Reg_clearFrom l K rg v (nI lo) ge sp sk fg d lo gl H.size (by omega)) k_704 (Or.inl k_701) k_703 sl_Reg_clearFrom k_3 p_Reg_clearFrom rfl rfl hP hD hS [0, 1] rfl (by decide) (va_recv (q := (R_Reg, T_Reg, 6)) (ci := 2) (q0 := 0) hK hP rfl rfl) rfl hl.1 rfl (Nat.le_of_ble_eq_true rfl) ⟨by decide, by decide⟩ ⟨by decide, by decide⟩ d_Reg_put_80) hP hD hS [0, 1] [2] rfl rfl (by decide) (by decide) (fun u_15 H locs hq_14 hP hD hS => ?_)
          obtain ⟨w_17, rfl⟩ := hq_14
          have hP : va_P K.1 mx_cl [(sp, .inl (K.2.1.1, 28, .inr (.inl fp))), (rg, .inr (2, [.int (nI d), .int (nI lo), .int (nI gl), .ref ge, .ref sp, .ref sk])), (ge, .inl (K.2.1.1, 256, .inr (.inl w_17)))] H := hP
          have hD : va_D A [(sp, .inl (K.2.1.1, 28, .inr (.inl fp))), (rg, .inr (2, [.int (nI d), .int (nI lo), .int (nI gl), .ref ge, .ref sp, .ref sk])), (ge, .inl (K.2.1.1, 256, .inr (.inl w_17)))] := hD
          refine W.cs (cells' := 0) (slots' := 0) rfl rfl ?_
          refine lv_aload_n hx hb d_Reg_put_83 rfl (lv_at hl 0 rfl) ?_
          refine lv_lload_n hx hb d_Reg_put_84 rfl (lv_at hl 2 rfl) ?_
          refine lv_l2i (v := nI v) hx hb d_Reg_put_85 (lN_i _) ?_
          refine va_put (D := K.1) (ci := 2) (v := .int (nI v)) (ty := .int) (C := R_Reg) (T := T_Reg) (N := 6) hx hb hT in_Reg t_Reg t_Reg_ok n_Reg hown hK hP hD hS 1 rfl rfl 1 (by decide) (hT _ k_53) (fun _ h9 => h9) rfl (by decide +kernel) rfl rfl (Nat.le_of_ble_eq_true rfl) d_Reg_put_86 (fun H locs hP hD hS => ?_)
          have hP : va_P K.1 mx_cl [(sp, .inl (K.2.1.1, 28, .inr (.inl fp))), (rg, .inr (2, [.int (nI d), .int (nI v), .int (nI gl), .ref ge, .ref sp, .ref sk])), (ge, .inl (K.2.1.1, 256, .inr (.inl w_17)))] H := hP
          have hD : va_D A [(sp, .inl (K.2.1.1, 28, .inr (.inl fp))), (rg, .inr (2, [.int (nI d), .int (nI v), .int (nI gl), .ref ge, .ref sp, .ref sk])), (ge, .inl (K.2.1.1, 256, .inr (.inl w_17)))] := hD
          refine lv_goto (tgt := 112) hx hb d_Reg_put_89 (by decide) ?_
          exact mx_rv F hr hlk hP hD hS [(rg, .inr (2, [.int (nI d), .int (nI v), .int (nI gl), .ref ge, .ref sp, .ref sk])), (ge, .inl (K.2.1.1, 256, .inr (.inl w_17))), (sp, .inl (K.2.1.1, 28, .inr (.inl fp)))] [1, 2, 0] rfl (by decide) ⟨v, gl, w_17, fp, (by first | assumption | omega | exact mx_ch_0), (by first | assumption | omega | exact mx_ch_0), rfl⟩ (by decide) (by decide) d_Reg_put_112
  · refine lv_lload_n hx hb d_Reg_put_6 rfl (lv_at hl 2 rfl) ?_
    refine lv_ldc2 (v := 32) hx hb hown (hT _ k_825) d_Reg_put_7 ?_
    refine W.lcmp hx hb d_Reg_put_10 ?_
    refine lv_if_lt (tgt := 112) hx hb d_Reg_put_11 (by decide) (fun h11 => ?_) (fun h11 => ?_)
    · exact mx_rv F hr hlk hP hD hS [(rg, .inr (2, [.int (nI d), .int (nI lo), .int (nI gl), .ref ge, .ref sp, .ref sk])), (ge, .inl (K.2.1.1, 256, .inr (.inl fg))), (sp, .inl (K.2.1.1, 28, .inr (.inl fp)))] [0, 1, 2] rfl (by decide) ⟨lo, gl, fg, fp, (by first | assumption | omega | exact mx_ch_0), (by first | assumption | omega | exact mx_ch_0), rfl⟩ (by decide) (by decide) d_Reg_put_112
    · refine lv_lload_n hx hb d_Reg_put_14 rfl (lv_at hl 2 rfl) ?_
      refine lv_ldc2 (v := 255) hx hb hown (hT _ k_826) d_Reg_put_15 ?_
      refine W.lcmp hx hb d_Reg_put_18 ?_
      refine lv_if_gt (tgt := 112) hx hb d_Reg_put_19 (by decide) (fun h19 => ?_) (fun h19 => ?_)
      · exact mx_rv F hr hlk hP hD hS [(rg, .inr (2, [.int (nI d), .int (nI lo), .int (nI gl), .ref ge, .ref sp, .ref sk])), (ge, .inl (K.2.1.1, 256, .inr (.inl fg))), (sp, .inl (K.2.1.1, 28, .inr (.inl fp)))] [0, 1, 2] rfl (by decide) ⟨lo, gl, fg, fp, (by first | assumption | omega | exact mx_ch_0), (by first | assumption | omega | exact mx_ch_0), rfl⟩ (by decide) (by decide) d_Reg_put_112
      · refine lv_lload_n hx hb d_Reg_put_22 rfl (lv_at hl 2 rfl) ?_
        refine lv_aload_n hx hb d_Reg_put_23 rfl (lv_at hl 0 rfl) ?_
        refine va_get (D := K.1) (ci := 2) (v := .int (nI lo)) (C := R_Reg) (T := T_Reg) (N := 6) hx hb hT in_Reg hown hK hP 0 rfl rfl 1 (by decide) (hT _ k_53) (fun _ h9 => h9) rfl d_Reg_put_24 ?_
        refine lv_i2l (v := (nI lo).toInt64) hx hb d_Reg_put_27 rfl ?_
        refine W.lcmp hx hb d_Reg_put_28 ?_
        refine lv_if_lt (tgt := 112) hx hb d_Reg_put_29 (by decide) (fun h29 => ?_) (fun h29 => ?_)
        · exact mx_rv F hr hlk hP hD hS [(rg, .inr (2, [.int (nI d), .int (nI lo), .int (nI gl), .ref ge, .ref sp, .ref sk])), (ge, .inl (K.2.1.1, 256, .inr (.inl fg))), (sp, .inl (K.2.1.1, 28, .inr (.inl fp)))] [0, 1, 2] rfl (by decide) ⟨lo, gl, fg, fp, (by first | assumption | omega | exact mx_ch_0), (by first | assumption | omega | exact mx_ch_0), rfl⟩ (by decide) (by decide) d_Reg_put_112
        · obtain ⟨v, hv1, hv2, rfl⟩ := mx_rng (a := 32) (b := 255) (by decide) (by decide) h11 h19
          have hv3 : lo ≤ v := by
            rw [nI_l (by omega), lg_cmp_lt, pk_lLT (by omega) (by omega)] at h29
            omega
          refine lv_aload_n hx hb d_Reg_put_32 rfl (lv_at hl 0 rfl) ?_
          refine lv_aload_n hx hb d_Reg_put_33 rfl (lv_at hl 0 rfl) ?_
          refine va_get (D := K.1) (ci := 2) (v := .int (nI gl)) (C := R_Reg) (T := T_Reg) (N := 6) hx hb hT in_Reg hown hK hP 0 rfl rfl 2 (by decide) (hT _ k_54) (fun _ h9 => h9) rfl d_Reg_put_34 ?_
          refine lv_lload_n hx hb d_Reg_put_37 rfl (lv_at hl 2 rfl) ?_
          refine lv_l2i (v := nI v) hx hb d_Reg_put_38 (lN_i _) ?_
          refine mx_cv (wr := [(sp, .inl (K.2.1.1, 28, .inr (.inl fp)))]) F (mx_runV (As := [.int (nI gl), .int (nI v)]) (rest := []) (n := 2) F (s_Reg_clearFrom l K rg gl (nI v) ge sp sk fg d lo gl H.size (by omega)) k_704 (Or.inl k_701) k_703 sl_Reg_clearFrom k_3 p_Reg_clearFrom rfl rfl hP hD hS [0, 1] rfl (by decide) (va_recv (q := (R_Reg, T_Reg, 6)) (ci := 2) (q0 := 0) hK hP rfl rfl) rfl hl.1 rfl (Nat.le_of_ble_eq_true rfl) ⟨by decide, by decide⟩ ⟨by decide, by decide⟩ d_Reg_put_39) hP hD hS [0, 1] [2] rfl rfl (by decide) (by decide) (fun u_20 H locs hq_19 hP hD hS => ?_)
          obtain ⟨w_22, rfl⟩ := hq_19
          have hP : va_P K.1 mx_cl [(sp, .inl (K.2.1.1, 28, .inr (.inl fp))), (rg, .inr (2, [.int (nI d), .int (nI lo), .int (nI gl), .ref ge, .ref sp, .ref sk])), (ge, .inl (K.2.1.1, 256, .inr (.inl w_22)))] H := hP
          have hD : va_D A [(sp, .inl (K.2.1.1, 28, .inr (.inl fp))), (rg, .inr (2, [.int (nI d), .int (nI lo), .int (nI gl), .ref ge, .ref sp, .ref sk])), (ge, .inl (K.2.1.1, 256, .inr (.inl w_22)))] := hD
          refine W.cs (cells' := 0) (slots' := 0) rfl rfl ?_
          refine lv_aload_n hx hb d_Reg_put_42 rfl (lv_at hl 0 rfl) ?_
          refine lv_lload_n hx hb d_Reg_put_43 rfl (lv_at hl 2 rfl) ?_
          refine lv_l2i (v := nI v) hx hb d_Reg_put_44 (lN_i _) ?_
          refine va_put (D := K.1) (ci := 2) (v := .int (nI v)) (ty := .int) (C := R_Reg) (T := T_Reg) (N := 6) hx hb hT in_Reg t_Reg t_Reg_ok n_Reg hown hK hP hD hS 1 rfl rfl 2 (by decide) (hT _ k_54) (fun _ h9 => h9) rfl (by decide +kernel) rfl rfl (Nat.le_of_ble_eq_true rfl) d_Reg_put_45 (fun H locs hP hD hS => ?_)
          have hP : va_P K.1 mx_cl [(sp, .inl (K.2.1.1, 28, .inr (.inl fp))), (rg, .inr (2, [.int (nI d), .int (nI lo), .int (nI v), .ref ge, .ref sp, .ref sk])), (ge, .inl (K.2.1.1, 256, .inr (.inl w_22)))] H := hP
          have hD : va_D A [(sp, .inl (K.2.1.1, 28, .inr (.inl fp))), (rg, .inr (2, [.int (nI d), .int (nI lo), .int (nI v), .ref ge, .ref sp, .ref sk])), (ge, .inl (K.2.1.1, 256, .inr (.inl w_22)))] := hD
          refine lv_goto (tgt := 112) hx hb d_Reg_put_48 (by decide) ?_
          exact mx_rv F hr hlk hP hD hS [(rg, .inr (2, [.int (nI d), .int (nI lo), .int (nI v), .ref ge, .ref sp, .ref sk])), (ge, .inl (K.2.1.1, 256, .inr (.inl w_22))), (sp, .inl (K.2.1.1, 28, .inr (.inl fp)))] [1, 2, 0] rfl (by decide) ⟨lo, v, w_22, fp, (by first | assumption | omega | exact mx_ch_0), (by first | assumption | omega | exact mx_ch_0), rfl⟩ (by decide) (by decide) d_Reg_put_112
set_option maxHeartbeats 4000000 in
set_option maxRecDepth 100000 in
theorem s_Reg_push (l : Launch) (K : mx_K) (rg : Nat) (x : Nat) (ge : Nat) (sp : Nat) (sk : Nat) (fg : Nat → Int64) (fp : Nat → Int64) (fk : Nat → Int64) (d : Nat) (lo : Nat) (gl : Nat) (sz : Nat) (hd : d ≤ 300) (hlo : lo ≤ gl) (hgl : gl ≤ 255) (hch : mx_ch fk d) (hx : x ≤ 255) : mx_I l y_Reg_push b_Reg_push 4 .boolean { frames := 2, cells := 0, slots := 0, locals := 80 } K [.ref rg, .int (nI x)] [(rg, .inr (2, [.int (nI d), .int (nI lo), .int (nI gl), .ref ge, .ref sp, .ref sk])), (ge, .inl (K.2.1.1, 256, .inr (.inl fg))), (sp, .inl (K.2.1.1, 28, .inr (.inl fp))), (sk, .inl (K.2.1.1, 300, .inr (.inl fk)))] sz (fun (r : Int32) (u : va_W) => (r = 0 ∨ r = 1) ∧ (∃ (d2 : Nat) (lo2 : Nat) (gl2 : Nat) (fg2 : Nat → Int64) (fp2 : Nat → Int64) (fk2 : Nat → Int64), (d2 ≤ 300) ∧ (lo2 ≤ gl2) ∧ (gl2 ≤ 255) ∧ (mx_ch fk2 d2) ∧ u = [(rg, .inr (2, [.int (nI d2), .int (nI lo2), .int (nI gl2), .ref ge, .ref sp, .ref sk])), (ge, .inl (K.2.1.1, 256, .inr (.inl fg2))), (sp, .inl (K.2.1.1, 28, .inr (.inl fp2))), (sk, .inl (K.2.1.1, 300, .inr (.inl fk2)))])) (fun u : va_W => u) := by
  refine mx_of (by decide) (Nat.le_of_ble_eq_true rfl) ?_
  intro p e s m below meth c A ls H locs hAe F hr hlk hin hsz hP hD hS hl
  rw [hAe]
  have hl : lv_has ls 4 [(0, .ref rg), (1, .int (nI x))] := hl
  obtain ⟨hx, hb, hml, hown, hT, hK, hN, hE, hA⟩ := id F
  refine lv_iload_n hx hb d_Reg_push_0 rfl (lv_at hl 1 rfl) ?_
  refine lv_aload_n hx hb d_Reg_push_1 rfl (lv_at hl 0 rfl) ?_
  refine va_get (D := K.1) (ci := 2) (v := .int (nI gl)) (C := R_Reg) (T := T_Reg) (N := 6) hx hb hT in_Reg hown hK hP 0 rfl rfl 2 (by decide) (hT _ k_54) (fun _ h9 => h9) rfl d_Reg_push_2 ?_
  refine lv_icmp_ge (tgt := 12) hx hb d_Reg_push_5 (by decide) (fun h_1 => ?_) (fun h_1 => ?_)
  · have h_1n := mx_fLe (a := gl) (b := x) (by omega) (by omega) h_1
    refine lv_aload_n hx hb d_Reg_push_12 rfl (lv_at hl 0 rfl) ?_
    refine va_get (D := K.1) (ci := 2) (v := .int (nI lo)) (C := R_Reg) (T := T_Reg) (N := 6) hx hb hT in_Reg hown hK hP 0 rfl rfl 1 (by decide) (hT _ k_53) (fun _ h9 => h9) rfl d_Reg_push_13 ?_
    refine lv_istore_n (lv' := [(2, .int (nI lo)), (0, .ref rg), (1, .int (nI x))]) hx hb d_Reg_push_16 rfl hl (by decide) rfl (fun ls hl => ?_)
    refine lv_aload_n hx hb d_Reg_push_17 rfl (lv_at hl 1 rfl) ?_
    refine va_get (D := K.1) (ci := 2) (v := .int (nI d)) (C := R_Reg) (T := T_Reg) (N := 6) hx hb hT in_Reg hown hK hP 0 rfl rfl 0 (by decide) (hT _ k_51) (fun _ h9 => h9) rfl d_Reg_push_18 ?_
    refine lv_iload_n hx hb d_Reg_push_21 rfl (lv_at hl 0 rfl) ?_
    refine lv_iadd hx hb d_Reg_push_22 ?_
    refine lv_topi (fun z_2 ez_2 => ?_)
    obtain rfl : z_2 = nI (d + lo) := ez_2.trans (nI_add d lo)
    refine lv_iconst (v := 1) hx hb d_Reg_push_23 (by decide) ?_
    refine lv_iadd hx hb d_Reg_push_24 ?_
    refine lv_topi (fun z_3 ez_3 => ?_)
    obtain rfl : z_3 = nI ((d + lo) + 1) := ez_3.trans (nI_add (d + lo) 1)
    refine lv_aload_n hx hb d_Reg_push_25 rfl (lv_at hl 1 rfl) ?_
    refine va_get (D := K.1) (ci := 2) (v := .ref sk) (C := R_Reg) (T := T_Reg) (N := 6) hx hb hT in_Reg hown hK hP 0 rfl rfl 5 (by decide) (hT _ k_50) (fun _ h9 => h9) rfl d_Reg_push_26 ?_
    refine va_alen (v := 300) hx hb hK hP 3 0 rfl rfl rfl d_Reg_push_29 ?_
    refine lv_icmp_le (tgt := 35) hx hb d_Reg_push_30 (by decide) (fun h_4 => ?_) (fun h_4 => ?_)
    · have h_4n := mx_fLe (a := ((d + lo) + 1)) (b := 300) (by omega) (by omega) h_4
      refine lv_aload_n hx hb d_Reg_push_35 rfl (lv_at hl 1 rfl) ?_
      refine va_get (D := K.1) (ci := 2) (v := .ref ge) (C := R_Reg) (T := T_Reg) (N := 6) hx hb hT in_Reg hown hK hP 0 rfl rfl 3 (by decide) (hT _ k_48) (fun _ h9 => h9) rfl d_Reg_push_36 ?_
      refine lv_iconst (v := 0) hx hb d_Reg_push_39 (by decide) ?_
      refine lv_aload_n hx hb d_Reg_push_40 rfl (lv_at hl 1 rfl) ?_
      refine va_get (D := K.1) (ci := 2) (v := .ref sk) (C := R_Reg) (T := T_Reg) (N := 6) hx hb hT in_Reg hown hK hP 0 rfl rfl 5 (by decide) (hT _ k_50) (fun _ h9 => h9) rfl d_Reg_push_41 ?_
      refine lv_aload_n hx hb d_Reg_push_44 rfl (lv_at hl 1 rfl) ?_
      refine va_get (D := K.1) (ci := 2) (v := .int (nI d)) (C := R_Reg) (T := T_Reg) (N := 6) hx hb hT in_Reg hown hK hP 0 rfl rfl 0 (by decide) (hT _ k_51) (fun _ h9 => h9) rfl d_Reg_push_45 ?_
      refine lv_iload_n hx hb d_Reg_push_48 rfl (lv_at hl 0 rfl) ?_
      refine va_copyl hx hb (by rw [hml]; exact hl.1.symm) hown (hT _ k_804) (hT _ k_692) (hT _ k_691) (hT _ k_19) hK hP hD hS 1 3 0 0 rfl rfl rfl rfl rfl (nI_pos (n := 0) (by omega)) (nI_pos (n := d) (by omega)) (nI_pos (n := lo) (by omega)) (mx_cp (a := 0) (n := lo) (by omega) (by omega) (by omega)) (mx_cp (a := d) (n := lo) (by omega) (by omega) (by omega)) (fun _ _ => rfl) (by decide) (Nat.le_of_ble_eq_true rfl) d_Reg_push_49 (fun H locs hP hD hS => ?_)
      have hP : va_P K.1 mx_cl [(rg, .inr (2, [.int (nI d), .int (nI lo), .int (nI gl), .ref ge, .ref sp, .ref sk])), (ge, .inl (K.2.1.1, 256, .inr (.inl fg))), (sp, .inl (K.2.1.1, 28, .inr (.inl fp))), (sk, .inl (K.2.1.1, 300, .inr (.inl (va_cpy fg fk (nI 0).toNatClampNeg (nI d).toNatClampNeg (nI lo).toNatClampNeg))))] H := hP
      have hD : va_D A [(rg, .inr (2, [.int (nI d), .int (nI lo), .int (nI gl), .ref ge, .ref sp, .ref sk])), (ge, .inl (K.2.1.1, 256, .inr (.inl fg))), (sp, .inl (K.2.1.1, 28, .inr (.inl fp))), (sk, .inl (K.2.1.1, 300, .inr (.inl (va_cpy fg fk (nI 0).toNatClampNeg (nI d).toNatClampNeg (nI lo).toNatClampNeg))))] := hD
      generalize ef_5 : va_cpy fg fk (nI 0).toNatClampNeg (nI d).toNatClampNeg (nI lo).toNatClampNeg = f_5 at hP hD
      refine lv_aload_n hx hb d_Reg_push_52 rfl (lv_at hl 1 rfl) ?_
      refine lv_dup hx hb d_Reg_push_53 rfl ?_
      refine va_get (D := K.1) (ci := 2) (v := .int (nI d)) (C := R_Reg) (T := T_Reg) (N := 6) hx hb hT in_Reg hown hK hP 0 rfl rfl 0 (by decide) (hT _ k_51) (fun _ h9 => h9) rfl d_Reg_push_54 ?_
      refine lv_iload_n hx hb d_Reg_push_57 rfl (lv_at hl 0 rfl) ?_
      refine lv_iconst (v := 1) hx hb d_Reg_push_58 (by decide) ?_
      refine lv_iadd hx hb d_Reg_push_59 ?_
      refine lv_topi (fun z_6 ez_6 => ?_)
      obtain rfl : z_6 = nI (lo + 1) := ez_6.trans (nI_add lo 1)
      refine lv_iadd hx hb d_Reg_push_60 ?_
      refine lv_topi (fun z_7 ez_7 => ?_)
      obtain rfl : z_7 = nI (d + (lo + 1)) := ez_7.trans (nI_add d (lo + 1))
      refine va_put (D := K.1) (ci := 2) (v := .int (nI (d + (lo + 1)))) (ty := .int) (C := R_Reg) (T := T_Reg) (N := 6) hx hb hT in_Reg t_Reg t_Reg_ok n_Reg hown hK hP hD hS 0 rfl rfl 0 (by decide) (hT _ k_51) (fun _ h9 => h9) rfl (by decide +kernel) rfl rfl (Nat.le_of_ble_eq_true rfl) d_Reg_push_61 (fun H locs hP hD hS => ?_)
      have hP : va_P K.1 mx_cl [(rg, .inr (2, [.int (nI (d + (lo + 1))), .int (nI lo), .int (nI gl), .ref ge, .ref sp, .ref sk])), (ge, .inl (K.2.1.1, 256, .inr (.inl fg))), (sp, .inl (K.2.1.1, 28, .inr (.inl fp))), (sk, .inl (K.2.1.1, 300, .inr (.inl f_5)))] H := hP
      have hD : va_D A [(rg, .inr (2, [.int (nI (d + (lo + 1))), .int (nI lo), .int (nI gl), .ref ge, .ref sp, .ref sk])), (ge, .inl (K.2.1.1, 256, .inr (.inl fg))), (sp, .inl (K.2.1.1, 28, .inr (.inl fp))), (sk, .inl (K.2.1.1, 300, .inr (.inl f_5)))] := hD
      refine lv_aload_n hx hb d_Reg_push_64 rfl (lv_at hl 1 rfl) ?_
      refine va_get (D := K.1) (ci := 2) (v := .ref sk) (C := R_Reg) (T := T_Reg) (N := 6) hx hb hT in_Reg hown hK hP 0 rfl rfl 5 (by decide) (hT _ k_50) (fun _ h9 => h9) rfl d_Reg_push_65 ?_
      refine lv_aload_n hx hb d_Reg_push_68 rfl (lv_at hl 1 rfl) ?_
      refine va_get (D := K.1) (ci := 2) (v := .int (nI (d + (lo + 1)))) (C := R_Reg) (T := T_Reg) (N := 6) hx hb hT in_Reg hown hK hP 0 rfl rfl 0 (by decide) (hT _ k_51) (fun _ h9 => h9) rfl d_Reg_push_69 ?_
      refine lv_iconst (v := 1) hx hb d_Reg_push_72 (by decide) ?_
      refine lv_isub hx hb d_Reg_push_73 ?_
      refine lv_topi (fun z_8 ez_8 => ?_)
      obtain rfl : z_8 = nI ((d + (lo + 1)) - 1) := ez_8.trans (pk_sub (a := (d + (lo + 1))) (b := 1) (by omega))
      refine lv_iload_n hx hb d_Reg_push_74 rfl (lv_at hl 0 rfl) ?_
      refine lv_i2l (v := (nI lo).toInt64) hx hb d_Reg_push_75 rfl ?_
      refine va_last hx hb hK hP hD hS 3 0 rfl rfl (i := nI ((d + (lo + 1)) - 1)) (x := (nI lo).toInt64) (vp_in_nI (n := ((d + (lo + 1)) - 1)) (N := 300) (by omega) (by decide)) d_Reg_push_76 (fun H locs hP hD hS => ?_)
      have hP : va_P K.1 mx_cl [(rg, .inr (2, [.int (nI (d + (lo + 1))), .int (nI lo), .int (nI gl), .ref ge, .ref sp, .ref sk])), (ge, .inl (K.2.1.1, 256, .inr (.inl fg))), (sp, .inl (K.2.1.1, 28, .inr (.inl fp))), (sk, .inl (K.2.1.1, 300, .inr (.inl (vp_updL f_5 (nI ((d + (lo + 1)) - 1)).toNatClampNeg ((nI lo).toInt64)))))] H := hP
      have hD : va_D A [(rg, .inr (2, [.int (nI (d + (lo + 1))), .int (nI lo), .int (nI gl), .ref ge, .ref sp, .ref sk])), (ge, .inl (K.2.1.1, 256, .inr (.inl fg))), (sp, .inl (K.2.1.1, 28, .inr (.inl fp))), (sk, .inl (K.2.1.1, 300, .inr (.inl (vp_updL f_5 (nI ((d + (lo + 1)) - 1)).toNatClampNeg ((nI lo).toInt64)))))] := hD
      generalize ef_9 : vp_updL f_5 (nI ((d + (lo + 1)) - 1)).toNatClampNeg ((nI lo).toInt64) = f_9 at hP hD
      refine lv_iconst (v := 0) hx hb d_Reg_push_77 (by decide) ?_
      refine lv_aload_n hx hb d_Reg_push_78 rfl (lv_at hl 1 rfl) ?_
      refine va_get (D := K.1) (ci := 2) (v := .int (nI lo)) (C := R_Reg) (T := T_Reg) (N := 6) hx hb hT in_Reg hown hK hP 0 rfl rfl 1 (by decide) (hT _ k_53) (fun _ h9 => h9) rfl d_Reg_push_79 ?_
      refine lv_iload_n hx hb d_Reg_push_82 rfl (lv_at hl 0 rfl) ?_
      refine lv_isub hx hb d_Reg_push_83 ?_
      refine lv_iconst (v := 1) hx hb d_Reg_push_84 (by decide) ?_
      refine lv_isub hx hb d_Reg_push_85 ?_
      refine mx_ci (wr := [(rg, .inr (2, [.int (nI (d + (lo + 1))), .int (nI lo), .int (nI gl), .ref ge, .ref sp, .ref sk])), (ge, .inl (K.2.1.1, 256, .inr (.inl fg))), (sp, .inl (K.2.1.1, 28, .inr (.inl fp))), (sk, .inl (K.2.1.1, 300, .inr (.inl f_9)))]) F (mx_runS (As := [.int 0, .int (((nI lo) - (nI lo)) - (1 : Int32))]) (rest := []) (n := 2) F (s_Math_max l K 0 (((nI lo) - (nI lo)) - (1 : Int32)) H.size) k_507 (Or.inl k_805) k_506 k_17 p_Math_max rfl rfl hP hD hS [] rfl (by decide)  rfl hl.1 rfl (Nat.le_of_ble_eq_true rfl) ⟨by decide, by decide⟩ ⟨by decide, by decide⟩ d_Reg_push_86) hP hD hS [] [0, 1, 2, 3] rfl rfl (by decide) (by decide) (fun r_11 _ H locs hq_10 hP hD hS => ?_)
      obtain rfl : r_11 = mx_max 0 (((nI lo) - (nI lo)) - (1 : Int32)) := hq_10
      have hP : va_P K.1 mx_cl [(rg, .inr (2, [.int (nI (d + (lo + 1))), .int (nI lo), .int (nI gl), .ref ge, .ref sp, .ref sk])), (ge, .inl (K.2.1.1, 256, .inr (.inl fg))), (sp, .inl (K.2.1.1, 28, .inr (.inl fp))), (sk, .inl (K.2.1.1, 300, .inr (.inl f_9)))] H := hP
      have hD : va_D A [(rg, .inr (2, [.int (nI (d + (lo + 1))), .int (nI lo), .int (nI gl), .ref ge, .ref sp, .ref sk])), (ge, .inl (K.2.1.1, 256, .inr (.inl fg))), (sp, .inl (K.2.1.1, 28, .inr (.inl fp))), (sk, .inl (K.2.1.1, 300, .inr (.inl f_9)))] := hD
      refine W.cs (cells' := 0) (slots' := 0) rfl rfl ?_
      refine lv_topi (fun z_12 ez_12 => ?_)
      obtain rfl : z_12 = nI (lo - lo - 1) := ez_12.trans (mx_max0 (by omega) (by omega))
      refine lv_istore_n (lv' := [(3, .int (nI (lo - lo - 1))), (2, .int (nI lo)), (0, .ref rg), (1, .int (nI x))]) hx hb d_Reg_push_89 rfl hl (by decide) rfl (fun ls hl => ?_)
      refine lv_iload_n hx hb d_Reg_push_90 rfl (lv_at hl 0 rfl) ?_
      refine lv_if_le (tgt := 110) hx hb d_Reg_push_91 (by decide) (fun h_13 => ?_) (fun h_13 => ?_)
      · have h_13n := mx_fLe (a := (lo - lo - 1)) (b := 0) (by omega) (by omega) h_13
        refine lv_aload_n hx hb d_Reg_push_110 rfl (lv_at hl 2 rfl) ?_
        refine lv_iload_n hx hb d_Reg_push_111 rfl (lv_at hl 0 rfl) ?_
        refine lv_aload_n hx hb d_Reg_push_112 rfl (lv_at hl 2 rfl) ?_
        refine va_get (D := K.1) (ci := 2) (v := .int (nI lo)) (C := R_Reg) (T := T_Reg) (N := 6) hx hb hT in_Reg hown hK hP 0 rfl rfl 1 (by decide) (hT _ k_53) (fun _ h9 => h9) rfl d_Reg_push_113 ?_
        refine mx_cv (wr := [(sp, .inl (K.2.1.1, 28, .inr (.inl fp))), (sk, .inl (K.2.1.1, 300, .inr (.inl f_9)))]) F (mx_runV (As := [.int (nI (lo - lo - 1)), .int (nI lo)]) (rest := []) (n := 2) F (s_Reg_clearFrom l K rg (lo - lo - 1) (nI lo) ge sp sk fg (d + (lo + 1)) lo gl H.size (by omega)) k_704 (Or.inl k_701) k_703 sl_Reg_clearFrom k_3 p_Reg_clearFrom rfl rfl hP hD hS [0, 1] rfl (by decide) (va_recv (q := (R_Reg, T_Reg, 6)) (ci := 2) (q0 := 0) hK hP rfl rfl) rfl hl.1 rfl (Nat.le_of_ble_eq_true rfl) ⟨by decide, by decide⟩ ⟨by decide, by decide⟩ d_Reg_push_116) hP hD hS [0, 1] [2, 3] rfl rfl (by decide) (by decide) (fun u_15 H locs hq_14 hP hD hS => ?_)
        obtain ⟨w_17, rfl⟩ := hq_14
        have hP : va_P K.1 mx_cl [(sp, .inl (K.2.1.1, 28, .inr (.inl fp))), (sk, .inl (K.2.1.1, 300, .inr (.inl f_9))), (rg, .inr (2, [.int (nI (d + (lo + 1))), .int (nI lo), .int (nI gl), .ref ge, .ref sp, .ref sk])), (ge, .inl (K.2.1.1, 256, .inr (.inl w_17)))] H := hP
        have hD : va_D A [(sp, .inl (K.2.1.1, 28, .inr (.inl fp))), (sk, .inl (K.2.1.1, 300, .inr (.inl f_9))), (rg, .inr (2, [.int (nI (d + (lo + 1))), .int (nI lo), .int (nI gl), .ref ge, .ref sp, .ref sk])), (ge, .inl (K.2.1.1, 256, .inr (.inl w_17)))] := hD
        refine W.cs (cells' := 0) (slots' := 0) rfl rfl ?_
        refine lv_aload_n hx hb d_Reg_push_119 rfl (lv_at hl 2 rfl) ?_
        refine lv_iload_n hx hb d_Reg_push_120 rfl (lv_at hl 0 rfl) ?_
        refine va_put (D := K.1) (ci := 2) (v := .int (nI (lo - lo - 1))) (ty := .int) (C := R_Reg) (T := T_Reg) (N := 6) hx hb hT in_Reg t_Reg t_Reg_ok n_Reg hown hK hP hD hS 2 rfl rfl 1 (by decide) (hT _ k_53) (fun _ h9 => h9) rfl (by decide +kernel) rfl rfl (Nat.le_of_ble_eq_true rfl) d_Reg_push_121 (fun H locs hP hD hS => ?_)
        have hP : va_P K.1 mx_cl [(sp, .inl (K.2.1.1, 28, .inr (.inl fp))), (sk, .inl (K.2.1.1, 300, .inr (.inl f_9))), (rg, .inr (2, [.int (nI (d + (lo + 1))), .int (nI (lo - lo - 1)), .int (nI gl), .ref ge, .ref sp, .ref sk])), (ge, .inl (K.2.1.1, 256, .inr (.inl w_17)))] H := hP
        have hD : va_D A [(sp, .inl (K.2.1.1, 28, .inr (.inl fp))), (sk, .inl (K.2.1.1, 300, .inr (.inl f_9))), (rg, .inr (2, [.int (nI (d + (lo + 1))), .int (nI (lo - lo - 1)), .int (nI gl), .ref ge, .ref sp, .ref sk])), (ge, .inl (K.2.1.1, 256, .inr (.inl w_17)))] := hD
        refine lv_iconst (v := 1) hx hb d_Reg_push_124 (by decide) ?_
        exact mx_ri F hr hlk (by decide) hP hD hS [(rg, .inr (2, [.int (nI (d + (lo + 1))), .int (nI (lo - lo - 1)), .int (nI gl), .ref ge, .ref sp, .ref sk])), (ge, .inl (K.2.1.1, 256, .inr (.inl w_17))), (sp, .inl (K.2.1.1, 28, .inr (.inl fp))), (sk, .inl (K.2.1.1, 300, .inr (.inl f_9)))] [2, 3, 0, 1] rfl (by decide) ⟨(Or.inr rfl), ⟨(d + (lo + 1)), (lo - lo - 1), gl, w_17, fp, f_9, (by first | assumption | omega | exact mx_ch_0), (by first | assumption | omega | exact mx_ch_0), (by first | assumption | omega | exact mx_ch_0), (mx_chP hch (by omega) (by omega) (by omega) ef_5 ef_9), rfl⟩⟩ (by decide) (by decide) d_Reg_push_125
      · have h_13n := mx_fNle (a := (lo - lo - 1)) (b := 0) (by omega) (by omega) h_13
        refine lv_aload_n hx hb d_Reg_push_94 rfl (lv_at hl 2 rfl) ?_
        refine va_get (D := K.1) (ci := 2) (v := .ref ge) (C := R_Reg) (T := T_Reg) (N := 6) hx hb hT in_Reg hown hK hP 0 rfl rfl 3 (by decide) (hT _ k_48) (fun _ h9 => h9) rfl d_Reg_push_95 ?_
        refine lv_iload_n hx hb d_Reg_push_98 rfl (lv_at hl 1 rfl) ?_
        refine lv_iconst (v := 1) hx hb d_Reg_push_99 (by decide) ?_
        refine lv_iadd hx hb d_Reg_push_100 ?_
        refine lv_topi (fun z_19 ez_19 => ?_)
        obtain rfl : z_19 = nI (lo + 1) := ez_19.trans (nI_add lo 1)
        refine lv_aload_n hx hb d_Reg_push_101 rfl (lv_at hl 2 rfl) ?_
        refine va_get (D := K.1) (ci := 2) (v := .ref ge) (C := R_Reg) (T := T_Reg) (N := 6) hx hb hT in_Reg hown hK hP 0 rfl rfl 3 (by decide) (hT _ k_48) (fun _ h9 => h9) rfl d_Reg_push_102 ?_
        refine lv_iconst (v := 0) hx hb d_Reg_push_105 (by decide) ?_
        refine lv_iload_n hx hb d_Reg_push_106 rfl (lv_at hl 0 rfl) ?_
        refine va_copyl hx hb (by rw [hml]; exact hl.1.symm) hown (hT _ k_804) (hT _ k_692) (hT _ k_691) (hT _ k_19) hK hP hD hS 1 1 0 0 rfl rfl rfl rfl rfl (nI_pos (n := (lo + 1)) (by omega)) (nI_pos (n := 0) (by omega)) (nI_pos (n := (lo - lo - 1)) (by omega)) (mx_cp (a := (lo + 1)) (n := (lo - lo - 1)) (by omega) (by omega) (by omega)) (mx_cp (a := 0) (n := (lo - lo - 1)) (by omega) (by omega) (by omega)) (fun _ _ => rfl) (by decide) (Nat.le_of_ble_eq_true rfl) d_Reg_push_107 (fun H locs hP hD hS => ?_)
        have hP : va_P K.1 mx_cl [(rg, .inr (2, [.int (nI (d + (lo + 1))), .int (nI lo), .int (nI gl), .ref ge, .ref sp, .ref sk])), (ge, .inl (K.2.1.1, 256, .inr (.inl (va_cpy fg fg (nI (lo + 1)).toNatClampNeg (nI 0).toNatClampNeg (nI (lo - lo - 1)).toNatClampNeg)))), (sp, .inl (K.2.1.1, 28, .inr (.inl fp))), (sk, .inl (K.2.1.1, 300, .inr (.inl f_9)))] H := hP
        have hD : va_D A [(rg, .inr (2, [.int (nI (d + (lo + 1))), .int (nI lo), .int (nI gl), .ref ge, .ref sp, .ref sk])), (ge, .inl (K.2.1.1, 256, .inr (.inl (va_cpy fg fg (nI (lo + 1)).toNatClampNeg (nI 0).toNatClampNeg (nI (lo - lo - 1)).toNatClampNeg)))), (sp, .inl (K.2.1.1, 28, .inr (.inl fp))), (sk, .inl (K.2.1.1, 300, .inr (.inl f_9)))] := hD
        generalize ef_20 : va_cpy fg fg (nI (lo + 1)).toNatClampNeg (nI 0).toNatClampNeg (nI (lo - lo - 1)).toNatClampNeg = f_20 at hP hD
        refine lv_aload_n hx hb d_Reg_push_110 rfl (lv_at hl 2 rfl) ?_
        refine lv_iload_n hx hb d_Reg_push_111 rfl (lv_at hl 0 rfl) ?_
        refine lv_aload_n hx hb d_Reg_push_112 rfl (lv_at hl 2 rfl) ?_
        refine va_get (D := K.1) (ci := 2) (v := .int (nI lo)) (C := R_Reg) (T := T_Reg) (N := 6) hx hb hT in_Reg hown hK hP 0 rfl rfl 1 (by decide) (hT _ k_53) (fun _ h9 => h9) rfl d_Reg_push_113 ?_
        refine mx_cv (wr := [(sp, .inl (K.2.1.1, 28, .inr (.inl fp))), (sk, .inl (K.2.1.1, 300, .inr (.inl f_9)))]) F (mx_runV (As := [.int (nI (lo - lo - 1)), .int (nI lo)]) (rest := []) (n := 2) F (s_Reg_clearFrom l K rg (lo - lo - 1) (nI lo) ge sp sk f_20 (d + (lo + 1)) lo gl H.size (by omega)) k_704 (Or.inl k_701) k_703 sl_Reg_clearFrom k_3 p_Reg_clearFrom rfl rfl hP hD hS [0, 1] rfl (by decide) (va_recv (q := (R_Reg, T_Reg, 6)) (ci := 2) (q0 := 0) hK hP rfl rfl) rfl hl.1 rfl (Nat.le_of_ble_eq_true rfl) ⟨by decide, by decide⟩ ⟨by decide, by decide⟩ d_Reg_push_116) hP hD hS [0, 1] [2, 3] rfl rfl (by decide) (by decide) (fun u_22 H locs hq_21 hP hD hS => ?_)
        obtain ⟨w_24, rfl⟩ := hq_21
        have hP : va_P K.1 mx_cl [(sp, .inl (K.2.1.1, 28, .inr (.inl fp))), (sk, .inl (K.2.1.1, 300, .inr (.inl f_9))), (rg, .inr (2, [.int (nI (d + (lo + 1))), .int (nI lo), .int (nI gl), .ref ge, .ref sp, .ref sk])), (ge, .inl (K.2.1.1, 256, .inr (.inl w_24)))] H := hP
        have hD : va_D A [(sp, .inl (K.2.1.1, 28, .inr (.inl fp))), (sk, .inl (K.2.1.1, 300, .inr (.inl f_9))), (rg, .inr (2, [.int (nI (d + (lo + 1))), .int (nI lo), .int (nI gl), .ref ge, .ref sp, .ref sk])), (ge, .inl (K.2.1.1, 256, .inr (.inl w_24)))] := hD
        refine W.cs (cells' := 0) (slots' := 0) rfl rfl ?_
        refine lv_aload_n hx hb d_Reg_push_119 rfl (lv_at hl 2 rfl) ?_
        refine lv_iload_n hx hb d_Reg_push_120 rfl (lv_at hl 0 rfl) ?_
        refine va_put (D := K.1) (ci := 2) (v := .int (nI (lo - lo - 1))) (ty := .int) (C := R_Reg) (T := T_Reg) (N := 6) hx hb hT in_Reg t_Reg t_Reg_ok n_Reg hown hK hP hD hS 2 rfl rfl 1 (by decide) (hT _ k_53) (fun _ h9 => h9) rfl (by decide +kernel) rfl rfl (Nat.le_of_ble_eq_true rfl) d_Reg_push_121 (fun H locs hP hD hS => ?_)
        have hP : va_P K.1 mx_cl [(sp, .inl (K.2.1.1, 28, .inr (.inl fp))), (sk, .inl (K.2.1.1, 300, .inr (.inl f_9))), (rg, .inr (2, [.int (nI (d + (lo + 1))), .int (nI (lo - lo - 1)), .int (nI gl), .ref ge, .ref sp, .ref sk])), (ge, .inl (K.2.1.1, 256, .inr (.inl w_24)))] H := hP
        have hD : va_D A [(sp, .inl (K.2.1.1, 28, .inr (.inl fp))), (sk, .inl (K.2.1.1, 300, .inr (.inl f_9))), (rg, .inr (2, [.int (nI (d + (lo + 1))), .int (nI (lo - lo - 1)), .int (nI gl), .ref ge, .ref sp, .ref sk])), (ge, .inl (K.2.1.1, 256, .inr (.inl w_24)))] := hD
        refine lv_iconst (v := 1) hx hb d_Reg_push_124 (by decide) ?_
        exact mx_ri F hr hlk (by decide) hP hD hS [(rg, .inr (2, [.int (nI (d + (lo + 1))), .int (nI (lo - lo - 1)), .int (nI gl), .ref ge, .ref sp, .ref sk])), (ge, .inl (K.2.1.1, 256, .inr (.inl w_24))), (sp, .inl (K.2.1.1, 28, .inr (.inl fp))), (sk, .inl (K.2.1.1, 300, .inr (.inl f_9)))] [2, 3, 0, 1] rfl (by decide) ⟨(Or.inr rfl), ⟨(d + (lo + 1)), (lo - lo - 1), gl, w_24, fp, f_9, (by first | assumption | omega | exact mx_ch_0), (by first | assumption | omega | exact mx_ch_0), (by first | assumption | omega | exact mx_ch_0), (mx_chP hch (by omega) (by omega) (by omega) ef_5 ef_9), rfl⟩⟩ (by decide) (by decide) d_Reg_push_125
    · have h_4n := mx_fNle (a := ((d + lo) + 1)) (b := 300) (by omega) (by omega) h_4
      refine lv_iconst (v := 0) hx hb d_Reg_push_33 (by decide) ?_
      exact mx_ri F hr hlk (by decide) hP hD hS [(rg, .inr (2, [.int (nI d), .int (nI lo), .int (nI gl), .ref ge, .ref sp, .ref sk])), (ge, .inl (K.2.1.1, 256, .inr (.inl fg))), (sp, .inl (K.2.1.1, 28, .inr (.inl fp))), (sk, .inl (K.2.1.1, 300, .inr (.inl fk)))] [0, 1, 2, 3] rfl (by decide) ⟨(Or.inl rfl), ⟨d, lo, gl, fg, fp, fk, (by first | assumption | omega | exact mx_ch_0), (by first | assumption | omega | exact mx_ch_0), (by first | assumption | omega | exact mx_ch_0), (by first | assumption | omega | exact mx_ch_0), rfl⟩⟩ (by decide) (by decide) d_Reg_push_34
  · have h_1n := mx_fNle (a := gl) (b := x) (by omega) (by omega) h_1
    refine lv_iload_n hx hb d_Reg_push_8 rfl (lv_at hl 1 rfl) ?_
    refine lv_goto (tgt := 16) hx hb d_Reg_push_9 (by decide) ?_
    refine lv_istore_n (lv' := [(2, .int (nI x)), (0, .ref rg), (1, .int (nI x))]) hx hb d_Reg_push_16 rfl hl (by decide) rfl (fun ls hl => ?_)
    refine lv_aload_n hx hb d_Reg_push_17 rfl (lv_at hl 1 rfl) ?_
    refine va_get (D := K.1) (ci := 2) (v := .int (nI d)) (C := R_Reg) (T := T_Reg) (N := 6) hx hb hT in_Reg hown hK hP 0 rfl rfl 0 (by decide) (hT _ k_51) (fun _ h9 => h9) rfl d_Reg_push_18 ?_
    refine lv_iload_n hx hb d_Reg_push_21 rfl (lv_at hl 0 rfl) ?_
    refine lv_iadd hx hb d_Reg_push_22 ?_
    refine lv_topi (fun z_26 ez_26 => ?_)
    obtain rfl : z_26 = nI (d + x) := ez_26.trans (nI_add d x)
    refine lv_iconst (v := 1) hx hb d_Reg_push_23 (by decide) ?_
    refine lv_iadd hx hb d_Reg_push_24 ?_
    refine lv_topi (fun z_27 ez_27 => ?_)
    obtain rfl : z_27 = nI ((d + x) + 1) := ez_27.trans (nI_add (d + x) 1)
    refine lv_aload_n hx hb d_Reg_push_25 rfl (lv_at hl 1 rfl) ?_
    refine va_get (D := K.1) (ci := 2) (v := .ref sk) (C := R_Reg) (T := T_Reg) (N := 6) hx hb hT in_Reg hown hK hP 0 rfl rfl 5 (by decide) (hT _ k_50) (fun _ h9 => h9) rfl d_Reg_push_26 ?_
    refine va_alen (v := 300) hx hb hK hP 3 0 rfl rfl rfl d_Reg_push_29 ?_
    refine lv_icmp_le (tgt := 35) hx hb d_Reg_push_30 (by decide) (fun h_28 => ?_) (fun h_28 => ?_)
    · have h_28n := mx_fLe (a := ((d + x) + 1)) (b := 300) (by omega) (by omega) h_28
      refine lv_aload_n hx hb d_Reg_push_35 rfl (lv_at hl 1 rfl) ?_
      refine va_get (D := K.1) (ci := 2) (v := .ref ge) (C := R_Reg) (T := T_Reg) (N := 6) hx hb hT in_Reg hown hK hP 0 rfl rfl 3 (by decide) (hT _ k_48) (fun _ h9 => h9) rfl d_Reg_push_36 ?_
      refine lv_iconst (v := 0) hx hb d_Reg_push_39 (by decide) ?_
      refine lv_aload_n hx hb d_Reg_push_40 rfl (lv_at hl 1 rfl) ?_
      refine va_get (D := K.1) (ci := 2) (v := .ref sk) (C := R_Reg) (T := T_Reg) (N := 6) hx hb hT in_Reg hown hK hP 0 rfl rfl 5 (by decide) (hT _ k_50) (fun _ h9 => h9) rfl d_Reg_push_41 ?_
      refine lv_aload_n hx hb d_Reg_push_44 rfl (lv_at hl 1 rfl) ?_
      refine va_get (D := K.1) (ci := 2) (v := .int (nI d)) (C := R_Reg) (T := T_Reg) (N := 6) hx hb hT in_Reg hown hK hP 0 rfl rfl 0 (by decide) (hT _ k_51) (fun _ h9 => h9) rfl d_Reg_push_45 ?_
      refine lv_iload_n hx hb d_Reg_push_48 rfl (lv_at hl 0 rfl) ?_
      refine va_copyl hx hb (by rw [hml]; exact hl.1.symm) hown (hT _ k_804) (hT _ k_692) (hT _ k_691) (hT _ k_19) hK hP hD hS 1 3 0 0 rfl rfl rfl rfl rfl (nI_pos (n := 0) (by omega)) (nI_pos (n := d) (by omega)) (nI_pos (n := x) (by omega)) (mx_cp (a := 0) (n := x) (by omega) (by omega) (by omega)) (mx_cp (a := d) (n := x) (by omega) (by omega) (by omega)) (fun _ _ => rfl) (by decide) (Nat.le_of_ble_eq_true rfl) d_Reg_push_49 (fun H locs hP hD hS => ?_)
      have hP : va_P K.1 mx_cl [(rg, .inr (2, [.int (nI d), .int (nI lo), .int (nI gl), .ref ge, .ref sp, .ref sk])), (ge, .inl (K.2.1.1, 256, .inr (.inl fg))), (sp, .inl (K.2.1.1, 28, .inr (.inl fp))), (sk, .inl (K.2.1.1, 300, .inr (.inl (va_cpy fg fk (nI 0).toNatClampNeg (nI d).toNatClampNeg (nI x).toNatClampNeg))))] H := hP
      have hD : va_D A [(rg, .inr (2, [.int (nI d), .int (nI lo), .int (nI gl), .ref ge, .ref sp, .ref sk])), (ge, .inl (K.2.1.1, 256, .inr (.inl fg))), (sp, .inl (K.2.1.1, 28, .inr (.inl fp))), (sk, .inl (K.2.1.1, 300, .inr (.inl (va_cpy fg fk (nI 0).toNatClampNeg (nI d).toNatClampNeg (nI x).toNatClampNeg))))] := hD
      generalize ef_29 : va_cpy fg fk (nI 0).toNatClampNeg (nI d).toNatClampNeg (nI x).toNatClampNeg = f_29 at hP hD
      refine lv_aload_n hx hb d_Reg_push_52 rfl (lv_at hl 1 rfl) ?_
      refine lv_dup hx hb d_Reg_push_53 rfl ?_
      refine va_get (D := K.1) (ci := 2) (v := .int (nI d)) (C := R_Reg) (T := T_Reg) (N := 6) hx hb hT in_Reg hown hK hP 0 rfl rfl 0 (by decide) (hT _ k_51) (fun _ h9 => h9) rfl d_Reg_push_54 ?_
      refine lv_iload_n hx hb d_Reg_push_57 rfl (lv_at hl 0 rfl) ?_
      refine lv_iconst (v := 1) hx hb d_Reg_push_58 (by decide) ?_
      refine lv_iadd hx hb d_Reg_push_59 ?_
      refine lv_topi (fun z_30 ez_30 => ?_)
      obtain rfl : z_30 = nI (x + 1) := ez_30.trans (nI_add x 1)
      refine lv_iadd hx hb d_Reg_push_60 ?_
      refine lv_topi (fun z_31 ez_31 => ?_)
      obtain rfl : z_31 = nI (d + (x + 1)) := ez_31.trans (nI_add d (x + 1))
      refine va_put (D := K.1) (ci := 2) (v := .int (nI (d + (x + 1)))) (ty := .int) (C := R_Reg) (T := T_Reg) (N := 6) hx hb hT in_Reg t_Reg t_Reg_ok n_Reg hown hK hP hD hS 0 rfl rfl 0 (by decide) (hT _ k_51) (fun _ h9 => h9) rfl (by decide +kernel) rfl rfl (Nat.le_of_ble_eq_true rfl) d_Reg_push_61 (fun H locs hP hD hS => ?_)
      have hP : va_P K.1 mx_cl [(rg, .inr (2, [.int (nI (d + (x + 1))), .int (nI lo), .int (nI gl), .ref ge, .ref sp, .ref sk])), (ge, .inl (K.2.1.1, 256, .inr (.inl fg))), (sp, .inl (K.2.1.1, 28, .inr (.inl fp))), (sk, .inl (K.2.1.1, 300, .inr (.inl f_29)))] H := hP
      have hD : va_D A [(rg, .inr (2, [.int (nI (d + (x + 1))), .int (nI lo), .int (nI gl), .ref ge, .ref sp, .ref sk])), (ge, .inl (K.2.1.1, 256, .inr (.inl fg))), (sp, .inl (K.2.1.1, 28, .inr (.inl fp))), (sk, .inl (K.2.1.1, 300, .inr (.inl f_29)))] := hD
      refine lv_aload_n hx hb d_Reg_push_64 rfl (lv_at hl 1 rfl) ?_
      refine va_get (D := K.1) (ci := 2) (v := .ref sk) (C := R_Reg) (T := T_Reg) (N := 6) hx hb hT in_Reg hown hK hP 0 rfl rfl 5 (by decide) (hT _ k_50) (fun _ h9 => h9) rfl d_Reg_push_65 ?_
      refine lv_aload_n hx hb d_Reg_push_68 rfl (lv_at hl 1 rfl) ?_
      refine va_get (D := K.1) (ci := 2) (v := .int (nI (d + (x + 1)))) (C := R_Reg) (T := T_Reg) (N := 6) hx hb hT in_Reg hown hK hP 0 rfl rfl 0 (by decide) (hT _ k_51) (fun _ h9 => h9) rfl d_Reg_push_69 ?_
      refine lv_iconst (v := 1) hx hb d_Reg_push_72 (by decide) ?_
      refine lv_isub hx hb d_Reg_push_73 ?_
      refine lv_topi (fun z_32 ez_32 => ?_)
      obtain rfl : z_32 = nI ((d + (x + 1)) - 1) := ez_32.trans (pk_sub (a := (d + (x + 1))) (b := 1) (by omega))
      refine lv_iload_n hx hb d_Reg_push_74 rfl (lv_at hl 0 rfl) ?_
      refine lv_i2l (v := (nI x).toInt64) hx hb d_Reg_push_75 rfl ?_
      refine va_last hx hb hK hP hD hS 3 0 rfl rfl (i := nI ((d + (x + 1)) - 1)) (x := (nI x).toInt64) (vp_in_nI (n := ((d + (x + 1)) - 1)) (N := 300) (by omega) (by decide)) d_Reg_push_76 (fun H locs hP hD hS => ?_)
      have hP : va_P K.1 mx_cl [(rg, .inr (2, [.int (nI (d + (x + 1))), .int (nI lo), .int (nI gl), .ref ge, .ref sp, .ref sk])), (ge, .inl (K.2.1.1, 256, .inr (.inl fg))), (sp, .inl (K.2.1.1, 28, .inr (.inl fp))), (sk, .inl (K.2.1.1, 300, .inr (.inl (vp_updL f_29 (nI ((d + (x + 1)) - 1)).toNatClampNeg ((nI x).toInt64)))))] H := hP
      have hD : va_D A [(rg, .inr (2, [.int (nI (d + (x + 1))), .int (nI lo), .int (nI gl), .ref ge, .ref sp, .ref sk])), (ge, .inl (K.2.1.1, 256, .inr (.inl fg))), (sp, .inl (K.2.1.1, 28, .inr (.inl fp))), (sk, .inl (K.2.1.1, 300, .inr (.inl (vp_updL f_29 (nI ((d + (x + 1)) - 1)).toNatClampNeg ((nI x).toInt64)))))] := hD
      generalize ef_33 : vp_updL f_29 (nI ((d + (x + 1)) - 1)).toNatClampNeg ((nI x).toInt64) = f_33 at hP hD
      refine lv_iconst (v := 0) hx hb d_Reg_push_77 (by decide) ?_
      refine lv_aload_n hx hb d_Reg_push_78 rfl (lv_at hl 1 rfl) ?_
      refine va_get (D := K.1) (ci := 2) (v := .int (nI lo)) (C := R_Reg) (T := T_Reg) (N := 6) hx hb hT in_Reg hown hK hP 0 rfl rfl 1 (by decide) (hT _ k_53) (fun _ h9 => h9) rfl d_Reg_push_79 ?_
      refine lv_iload_n hx hb d_Reg_push_82 rfl (lv_at hl 0 rfl) ?_
      refine lv_isub hx hb d_Reg_push_83 ?_
      refine lv_iconst (v := 1) hx hb d_Reg_push_84 (by decide) ?_
      refine lv_isub hx hb d_Reg_push_85 ?_
      refine mx_ci (wr := [(rg, .inr (2, [.int (nI (d + (x + 1))), .int (nI lo), .int (nI gl), .ref ge, .ref sp, .ref sk])), (ge, .inl (K.2.1.1, 256, .inr (.inl fg))), (sp, .inl (K.2.1.1, 28, .inr (.inl fp))), (sk, .inl (K.2.1.1, 300, .inr (.inl f_33)))]) F (mx_runS (As := [.int 0, .int (((nI lo) - (nI x)) - (1 : Int32))]) (rest := []) (n := 2) F (s_Math_max l K 0 (((nI lo) - (nI x)) - (1 : Int32)) H.size) k_507 (Or.inl k_805) k_506 k_17 p_Math_max rfl rfl hP hD hS [] rfl (by decide)  rfl hl.1 rfl (Nat.le_of_ble_eq_true rfl) ⟨by decide, by decide⟩ ⟨by decide, by decide⟩ d_Reg_push_86) hP hD hS [] [0, 1, 2, 3] rfl rfl (by decide) (by decide) (fun r_35 _ H locs hq_34 hP hD hS => ?_)
      obtain rfl : r_35 = mx_max 0 (((nI lo) - (nI x)) - (1 : Int32)) := hq_34
      have hP : va_P K.1 mx_cl [(rg, .inr (2, [.int (nI (d + (x + 1))), .int (nI lo), .int (nI gl), .ref ge, .ref sp, .ref sk])), (ge, .inl (K.2.1.1, 256, .inr (.inl fg))), (sp, .inl (K.2.1.1, 28, .inr (.inl fp))), (sk, .inl (K.2.1.1, 300, .inr (.inl f_33)))] H := hP
      have hD : va_D A [(rg, .inr (2, [.int (nI (d + (x + 1))), .int (nI lo), .int (nI gl), .ref ge, .ref sp, .ref sk])), (ge, .inl (K.2.1.1, 256, .inr (.inl fg))), (sp, .inl (K.2.1.1, 28, .inr (.inl fp))), (sk, .inl (K.2.1.1, 300, .inr (.inl f_33)))] := hD
      refine W.cs (cells' := 0) (slots' := 0) rfl rfl ?_
      refine lv_topi (fun z_36 ez_36 => ?_)
      obtain rfl : z_36 = nI (lo - x - 1) := ez_36.trans (mx_max0 (by omega) (by omega))
      refine lv_istore_n (lv' := [(3, .int (nI (lo - x - 1))), (2, .int (nI x)), (0, .ref rg), (1, .int (nI x))]) hx hb d_Reg_push_89 rfl hl (by decide) rfl (fun ls hl => ?_)
      refine lv_iload_n hx hb d_Reg_push_90 rfl (lv_at hl 0 rfl) ?_
      refine lv_if_le (tgt := 110) hx hb d_Reg_push_91 (by decide) (fun h_37 => ?_) (fun h_37 => ?_)
      · have h_37n := mx_fLe (a := (lo - x - 1)) (b := 0) (by omega) (by omega) h_37
        refine lv_aload_n hx hb d_Reg_push_110 rfl (lv_at hl 2 rfl) ?_
        refine lv_iload_n hx hb d_Reg_push_111 rfl (lv_at hl 0 rfl) ?_
        refine lv_aload_n hx hb d_Reg_push_112 rfl (lv_at hl 2 rfl) ?_
        refine va_get (D := K.1) (ci := 2) (v := .int (nI lo)) (C := R_Reg) (T := T_Reg) (N := 6) hx hb hT in_Reg hown hK hP 0 rfl rfl 1 (by decide) (hT _ k_53) (fun _ h9 => h9) rfl d_Reg_push_113 ?_
        refine mx_cv (wr := [(sp, .inl (K.2.1.1, 28, .inr (.inl fp))), (sk, .inl (K.2.1.1, 300, .inr (.inl f_33)))]) F (mx_runV (As := [.int (nI (lo - x - 1)), .int (nI lo)]) (rest := []) (n := 2) F (s_Reg_clearFrom l K rg (lo - x - 1) (nI lo) ge sp sk fg (d + (x + 1)) lo gl H.size (by omega)) k_704 (Or.inl k_701) k_703 sl_Reg_clearFrom k_3 p_Reg_clearFrom rfl rfl hP hD hS [0, 1] rfl (by decide) (va_recv (q := (R_Reg, T_Reg, 6)) (ci := 2) (q0 := 0) hK hP rfl rfl) rfl hl.1 rfl (Nat.le_of_ble_eq_true rfl) ⟨by decide, by decide⟩ ⟨by decide, by decide⟩ d_Reg_push_116) hP hD hS [0, 1] [2, 3] rfl rfl (by decide) (by decide) (fun u_39 H locs hq_38 hP hD hS => ?_)
        obtain ⟨w_41, rfl⟩ := hq_38
        have hP : va_P K.1 mx_cl [(sp, .inl (K.2.1.1, 28, .inr (.inl fp))), (sk, .inl (K.2.1.1, 300, .inr (.inl f_33))), (rg, .inr (2, [.int (nI (d + (x + 1))), .int (nI lo), .int (nI gl), .ref ge, .ref sp, .ref sk])), (ge, .inl (K.2.1.1, 256, .inr (.inl w_41)))] H := hP
        have hD : va_D A [(sp, .inl (K.2.1.1, 28, .inr (.inl fp))), (sk, .inl (K.2.1.1, 300, .inr (.inl f_33))), (rg, .inr (2, [.int (nI (d + (x + 1))), .int (nI lo), .int (nI gl), .ref ge, .ref sp, .ref sk])), (ge, .inl (K.2.1.1, 256, .inr (.inl w_41)))] := hD
        refine W.cs (cells' := 0) (slots' := 0) rfl rfl ?_
        refine lv_aload_n hx hb d_Reg_push_119 rfl (lv_at hl 2 rfl) ?_
        refine lv_iload_n hx hb d_Reg_push_120 rfl (lv_at hl 0 rfl) ?_
        refine va_put (D := K.1) (ci := 2) (v := .int (nI (lo - x - 1))) (ty := .int) (C := R_Reg) (T := T_Reg) (N := 6) hx hb hT in_Reg t_Reg t_Reg_ok n_Reg hown hK hP hD hS 2 rfl rfl 1 (by decide) (hT _ k_53) (fun _ h9 => h9) rfl (by decide +kernel) rfl rfl (Nat.le_of_ble_eq_true rfl) d_Reg_push_121 (fun H locs hP hD hS => ?_)
        have hP : va_P K.1 mx_cl [(sp, .inl (K.2.1.1, 28, .inr (.inl fp))), (sk, .inl (K.2.1.1, 300, .inr (.inl f_33))), (rg, .inr (2, [.int (nI (d + (x + 1))), .int (nI (lo - x - 1)), .int (nI gl), .ref ge, .ref sp, .ref sk])), (ge, .inl (K.2.1.1, 256, .inr (.inl w_41)))] H := hP
        have hD : va_D A [(sp, .inl (K.2.1.1, 28, .inr (.inl fp))), (sk, .inl (K.2.1.1, 300, .inr (.inl f_33))), (rg, .inr (2, [.int (nI (d + (x + 1))), .int (nI (lo - x - 1)), .int (nI gl), .ref ge, .ref sp, .ref sk])), (ge, .inl (K.2.1.1, 256, .inr (.inl w_41)))] := hD
        refine lv_iconst (v := 1) hx hb d_Reg_push_124 (by decide) ?_
        exact mx_ri F hr hlk (by decide) hP hD hS [(rg, .inr (2, [.int (nI (d + (x + 1))), .int (nI (lo - x - 1)), .int (nI gl), .ref ge, .ref sp, .ref sk])), (ge, .inl (K.2.1.1, 256, .inr (.inl w_41))), (sp, .inl (K.2.1.1, 28, .inr (.inl fp))), (sk, .inl (K.2.1.1, 300, .inr (.inl f_33)))] [2, 3, 0, 1] rfl (by decide) ⟨(Or.inr rfl), ⟨(d + (x + 1)), (lo - x - 1), gl, w_41, fp, f_33, (by first | assumption | omega | exact mx_ch_0), (by first | assumption | omega | exact mx_ch_0), (by first | assumption | omega | exact mx_ch_0), (mx_chP hch (by omega) (by omega) (by omega) ef_29 ef_33), rfl⟩⟩ (by decide) (by decide) d_Reg_push_125
      · have h_37n := mx_fNle (a := (lo - x - 1)) (b := 0) (by omega) (by omega) h_37
        refine lv_aload_n hx hb d_Reg_push_94 rfl (lv_at hl 2 rfl) ?_
        refine va_get (D := K.1) (ci := 2) (v := .ref ge) (C := R_Reg) (T := T_Reg) (N := 6) hx hb hT in_Reg hown hK hP 0 rfl rfl 3 (by decide) (hT _ k_48) (fun _ h9 => h9) rfl d_Reg_push_95 ?_
        refine lv_iload_n hx hb d_Reg_push_98 rfl (lv_at hl 1 rfl) ?_
        refine lv_iconst (v := 1) hx hb d_Reg_push_99 (by decide) ?_
        refine lv_iadd hx hb d_Reg_push_100 ?_
        refine lv_topi (fun z_43 ez_43 => ?_)
        obtain rfl : z_43 = nI (x + 1) := ez_43.trans (nI_add x 1)
        refine lv_aload_n hx hb d_Reg_push_101 rfl (lv_at hl 2 rfl) ?_
        refine va_get (D := K.1) (ci := 2) (v := .ref ge) (C := R_Reg) (T := T_Reg) (N := 6) hx hb hT in_Reg hown hK hP 0 rfl rfl 3 (by decide) (hT _ k_48) (fun _ h9 => h9) rfl d_Reg_push_102 ?_
        refine lv_iconst (v := 0) hx hb d_Reg_push_105 (by decide) ?_
        refine lv_iload_n hx hb d_Reg_push_106 rfl (lv_at hl 0 rfl) ?_
        refine va_copyl hx hb (by rw [hml]; exact hl.1.symm) hown (hT _ k_804) (hT _ k_692) (hT _ k_691) (hT _ k_19) hK hP hD hS 1 1 0 0 rfl rfl rfl rfl rfl (nI_pos (n := (x + 1)) (by omega)) (nI_pos (n := 0) (by omega)) (nI_pos (n := (lo - x - 1)) (by omega)) (mx_cp (a := (x + 1)) (n := (lo - x - 1)) (by omega) (by omega) (by omega)) (mx_cp (a := 0) (n := (lo - x - 1)) (by omega) (by omega) (by omega)) (fun _ _ => rfl) (by decide) (Nat.le_of_ble_eq_true rfl) d_Reg_push_107 (fun H locs hP hD hS => ?_)
        have hP : va_P K.1 mx_cl [(rg, .inr (2, [.int (nI (d + (x + 1))), .int (nI lo), .int (nI gl), .ref ge, .ref sp, .ref sk])), (ge, .inl (K.2.1.1, 256, .inr (.inl (va_cpy fg fg (nI (x + 1)).toNatClampNeg (nI 0).toNatClampNeg (nI (lo - x - 1)).toNatClampNeg)))), (sp, .inl (K.2.1.1, 28, .inr (.inl fp))), (sk, .inl (K.2.1.1, 300, .inr (.inl f_33)))] H := hP
        have hD : va_D A [(rg, .inr (2, [.int (nI (d + (x + 1))), .int (nI lo), .int (nI gl), .ref ge, .ref sp, .ref sk])), (ge, .inl (K.2.1.1, 256, .inr (.inl (va_cpy fg fg (nI (x + 1)).toNatClampNeg (nI 0).toNatClampNeg (nI (lo - x - 1)).toNatClampNeg)))), (sp, .inl (K.2.1.1, 28, .inr (.inl fp))), (sk, .inl (K.2.1.1, 300, .inr (.inl f_33)))] := hD
        generalize ef_44 : va_cpy fg fg (nI (x + 1)).toNatClampNeg (nI 0).toNatClampNeg (nI (lo - x - 1)).toNatClampNeg = f_44 at hP hD
        refine lv_aload_n hx hb d_Reg_push_110 rfl (lv_at hl 2 rfl) ?_
        refine lv_iload_n hx hb d_Reg_push_111 rfl (lv_at hl 0 rfl) ?_
        refine lv_aload_n hx hb d_Reg_push_112 rfl (lv_at hl 2 rfl) ?_
        refine va_get (D := K.1) (ci := 2) (v := .int (nI lo)) (C := R_Reg) (T := T_Reg) (N := 6) hx hb hT in_Reg hown hK hP 0 rfl rfl 1 (by decide) (hT _ k_53) (fun _ h9 => h9) rfl d_Reg_push_113 ?_
        refine mx_cv (wr := [(sp, .inl (K.2.1.1, 28, .inr (.inl fp))), (sk, .inl (K.2.1.1, 300, .inr (.inl f_33)))]) F (mx_runV (As := [.int (nI (lo - x - 1)), .int (nI lo)]) (rest := []) (n := 2) F (s_Reg_clearFrom l K rg (lo - x - 1) (nI lo) ge sp sk f_44 (d + (x + 1)) lo gl H.size (by omega)) k_704 (Or.inl k_701) k_703 sl_Reg_clearFrom k_3 p_Reg_clearFrom rfl rfl hP hD hS [0, 1] rfl (by decide) (va_recv (q := (R_Reg, T_Reg, 6)) (ci := 2) (q0 := 0) hK hP rfl rfl) rfl hl.1 rfl (Nat.le_of_ble_eq_true rfl) ⟨by decide, by decide⟩ ⟨by decide, by decide⟩ d_Reg_push_116) hP hD hS [0, 1] [2, 3] rfl rfl (by decide) (by decide) (fun u_46 H locs hq_45 hP hD hS => ?_)
        obtain ⟨w_48, rfl⟩ := hq_45
        have hP : va_P K.1 mx_cl [(sp, .inl (K.2.1.1, 28, .inr (.inl fp))), (sk, .inl (K.2.1.1, 300, .inr (.inl f_33))), (rg, .inr (2, [.int (nI (d + (x + 1))), .int (nI lo), .int (nI gl), .ref ge, .ref sp, .ref sk])), (ge, .inl (K.2.1.1, 256, .inr (.inl w_48)))] H := hP
        have hD : va_D A [(sp, .inl (K.2.1.1, 28, .inr (.inl fp))), (sk, .inl (K.2.1.1, 300, .inr (.inl f_33))), (rg, .inr (2, [.int (nI (d + (x + 1))), .int (nI lo), .int (nI gl), .ref ge, .ref sp, .ref sk])), (ge, .inl (K.2.1.1, 256, .inr (.inl w_48)))] := hD
        refine W.cs (cells' := 0) (slots' := 0) rfl rfl ?_
        refine lv_aload_n hx hb d_Reg_push_119 rfl (lv_at hl 2 rfl) ?_
        refine lv_iload_n hx hb d_Reg_push_120 rfl (lv_at hl 0 rfl) ?_
        refine va_put (D := K.1) (ci := 2) (v := .int (nI (lo - x - 1))) (ty := .int) (C := R_Reg) (T := T_Reg) (N := 6) hx hb hT in_Reg t_Reg t_Reg_ok n_Reg hown hK hP hD hS 2 rfl rfl 1 (by decide) (hT _ k_53) (fun _ h9 => h9) rfl (by decide +kernel) rfl rfl (Nat.le_of_ble_eq_true rfl) d_Reg_push_121 (fun H locs hP hD hS => ?_)
        have hP : va_P K.1 mx_cl [(sp, .inl (K.2.1.1, 28, .inr (.inl fp))), (sk, .inl (K.2.1.1, 300, .inr (.inl f_33))), (rg, .inr (2, [.int (nI (d + (x + 1))), .int (nI (lo - x - 1)), .int (nI gl), .ref ge, .ref sp, .ref sk])), (ge, .inl (K.2.1.1, 256, .inr (.inl w_48)))] H := hP
        have hD : va_D A [(sp, .inl (K.2.1.1, 28, .inr (.inl fp))), (sk, .inl (K.2.1.1, 300, .inr (.inl f_33))), (rg, .inr (2, [.int (nI (d + (x + 1))), .int (nI (lo - x - 1)), .int (nI gl), .ref ge, .ref sp, .ref sk])), (ge, .inl (K.2.1.1, 256, .inr (.inl w_48)))] := hD
        refine lv_iconst (v := 1) hx hb d_Reg_push_124 (by decide) ?_
        exact mx_ri F hr hlk (by decide) hP hD hS [(rg, .inr (2, [.int (nI (d + (x + 1))), .int (nI (lo - x - 1)), .int (nI gl), .ref ge, .ref sp, .ref sk])), (ge, .inl (K.2.1.1, 256, .inr (.inl w_48))), (sp, .inl (K.2.1.1, 28, .inr (.inl fp))), (sk, .inl (K.2.1.1, 300, .inr (.inl f_33)))] [2, 3, 0, 1] rfl (by decide) ⟨(Or.inr rfl), ⟨(d + (x + 1)), (lo - x - 1), gl, w_48, fp, f_33, (by first | assumption | omega | exact mx_ch_0), (by first | assumption | omega | exact mx_ch_0), (by first | assumption | omega | exact mx_ch_0), (mx_chP hch (by omega) (by omega) (by omega) ef_29 ef_33), rfl⟩⟩ (by decide) (by decide) d_Reg_push_125
    · have h_28n := mx_fNle (a := ((d + x) + 1)) (b := 300) (by omega) (by omega) h_28
      refine lv_iconst (v := 0) hx hb d_Reg_push_33 (by decide) ?_
      exact mx_ri F hr hlk (by decide) hP hD hS [(rg, .inr (2, [.int (nI d), .int (nI lo), .int (nI gl), .ref ge, .ref sp, .ref sk])), (ge, .inl (K.2.1.1, 256, .inr (.inl fg))), (sp, .inl (K.2.1.1, 28, .inr (.inl fp))), (sk, .inl (K.2.1.1, 300, .inr (.inl fk)))] [0, 1, 2, 3] rfl (by decide) ⟨(Or.inl rfl), ⟨d, lo, gl, fg, fp, fk, (by first | assumption | omega | exact mx_ch_0), (by first | assumption | omega | exact mx_ch_0), (by first | assumption | omega | exact mx_ch_0), (by first | assumption | omega | exact mx_ch_0), rfl⟩⟩ (by decide) (by decide) d_Reg_push_34
set_option maxHeartbeats 4000000 in
set_option maxRecDepth 100000 in
theorem s_Reg_pop (l : Launch) (K : mx_K) (rg : Nat) (x : Nat) (ge : Nat) (sp : Nat) (sk : Nat) (fg : Nat → Int64) (fp : Nat → Int64) (fk : Nat → Int64) (d : Nat) (lo : Nat) (gl : Nat) (sz : Nat) (hd : d ≤ 300) (hlo : lo ≤ gl) (hgl : gl ≤ 255) (hch : mx_ch fk d) (hx : x ≤ 255) : mx_I l y_Reg_pop b_Reg_pop 7 .boolean { frames := 2, cells := 0, slots := 0, locals := 80 } K [.ref rg, .int (nI x)] [(rg, .inr (2, [.int (nI d), .int (nI lo), .int (nI gl), .ref ge, .ref sp, .ref sk])), (ge, .inl (K.2.1.1, 256, .inr (.inl fg))), (sp, .inl (K.2.1.1, 28, .inr (.inl fp))), (sk, .inl (K.2.1.1, 300, .inr (.inl fk)))] sz (fun (r : Int32) (u : va_W) => (r = 0 ∨ r = 1) ∧ (∃ (d2 : Nat) (lo2 : Nat) (gl2 : Nat) (fg2 : Nat → Int64) (fp2 : Nat → Int64) (fk2 : Nat → Int64), (d2 ≤ 300) ∧ (lo2 ≤ gl2) ∧ (gl2 ≤ 255) ∧ (mx_ch fk2 d2) ∧ u = [(rg, .inr (2, [.int (nI d2), .int (nI lo2), .int (nI gl2), .ref ge, .ref sp, .ref sk])), (ge, .inl (K.2.1.1, 256, .inr (.inl fg2))), (sp, .inl (K.2.1.1, 28, .inr (.inl fp2))), (sk, .inl (K.2.1.1, 300, .inr (.inl fk2)))])) (fun u : va_W => u) := by
  refine mx_of (by decide) (Nat.le_of_ble_eq_true rfl) ?_
  intro p e s m below meth c A ls H locs hAe F hr hlk hin hsz hP hD hS hl
  rw [hAe]
  have hl : lv_has ls 7 [(0, .ref rg), (1, .int (nI x))] := hl
  obtain ⟨hx, hb, hml, hown, hT, hK, hN, hE, hA⟩ := id F
  refine lv_aload_n hx hb d_Reg_pop_0 rfl (lv_at hl 0 rfl) ?_
  refine va_get (D := K.1) (ci := 2) (v := .int (nI d)) (C := R_Reg) (T := T_Reg) (N := 6) hx hb hT in_Reg hown hK hP 0 rfl rfl 0 (by decide) (hT _ k_51) (fun _ h9 => h9) rfl d_Reg_pop_1 ?_
  refine lv_if_ne (tgt := 9) hx hb d_Reg_pop_4 (by decide) (fun h4 => ?_) (fun h4 => ?_)
  · have h4n := mx_fNe (a := d) (b := 0) (by omega) (by omega) h4
    obtain ⟨kh, hk1, hk2, hkf, hkc⟩ := mx_ch_pop hch (by omega)
    refine lv_iload_n hx hb d_Reg_pop_9 rfl (lv_at hl 1 rfl) ?_
    refine lv_aload_n hx hb d_Reg_pop_10 rfl (lv_at hl 0 rfl) ?_
    refine va_get (D := K.1) (ci := 2) (v := .int (nI lo)) (C := R_Reg) (T := T_Reg) (N := 6) hx hb hT in_Reg hown hK hP 0 rfl rfl 1 (by decide) (hT _ k_53) (fun _ h9 => h9) rfl d_Reg_pop_11 ?_
    refine lv_iconst (v := 1) hx hb d_Reg_pop_14 (by decide) ?_
    refine lv_iadd hx hb d_Reg_pop_15 ?_
    refine lv_topi (fun z_1 ez_1 => ?_)
    obtain rfl : z_1 = nI (lo + 1) := ez_1.trans (nI_add lo 1)
    refine mx_ci (wr := [(rg, .inr (2, [.int (nI d), .int (nI lo), .int (nI gl), .ref ge, .ref sp, .ref sk])), (ge, .inl (K.2.1.1, 256, .inr (.inl fg))), (sp, .inl (K.2.1.1, 28, .inr (.inl fp))), (sk, .inl (K.2.1.1, 300, .inr (.inl fk)))]) F (mx_runS (As := [.int (nI x), .int (nI (lo + 1))]) (rest := []) (n := 2) F (s_Math_min l K (nI x) (nI (lo + 1)) H.size) k_510 (Or.inl k_837) k_509 k_17 p_Math_min rfl rfl hP hD hS [] rfl (by decide)  rfl hl.1 rfl (Nat.le_of_ble_eq_true rfl) ⟨by decide, by decide⟩ ⟨by decide, by decide⟩ d_Reg_pop_16) hP hD hS [] [0, 1, 2, 3] rfl rfl (by decide) (by decide) (fun r_3 _ H locs hq_2 hP hD hS => ?_)
    obtain rfl : r_3 = mx_min (nI x) (nI (lo + 1)) := hq_2
    have hP : va_P K.1 mx_cl [(rg, .inr (2, [.int (nI d), .int (nI lo), .int (nI gl), .ref ge, .ref sp, .ref sk])), (ge, .inl (K.2.1.1, 256, .inr (.inl fg))), (sp, .inl (K.2.1.1, 28, .inr (.inl fp))), (sk, .inl (K.2.1.1, 300, .inr (.inl fk)))] H := hP
    have hD : va_D A [(rg, .inr (2, [.int (nI d), .int (nI lo), .int (nI gl), .ref ge, .ref sp, .ref sk])), (ge, .inl (K.2.1.1, 256, .inr (.inl fg))), (sp, .inl (K.2.1.1, 28, .inr (.inl fp))), (sk, .inl (K.2.1.1, 300, .inr (.inl fk)))] := hD
    refine W.cs (cells' := 0) (slots' := 0) rfl rfl ?_
    refine lv_topi (fun z_4 ez_4 => ?_)
    obtain rfl : z_4 = nI (min x (lo + 1)) := ez_4.trans (mx_minN (by omega) (by omega))
    refine lv_istore_n (lv' := [(2, .int (nI (min x (lo + 1)))), (0, .ref rg), (1, .int (nI x))]) hx hb d_Reg_pop_19 rfl hl (by decide) rfl (fun ls hl => ?_)
    refine lv_iload_n hx hb d_Reg_pop_20 rfl (lv_at hl 0 rfl) ?_
    refine lv_if_le (tgt := 43) hx hb d_Reg_pop_21 (by decide) (fun h_5 => ?_) (fun h_5 => ?_)
    · have h_5n := mx_fLe (a := (min x (lo + 1))) (b := 0) (by omega) (by omega) h_5
      refine lv_lconst (v := 0) hx hb d_Reg_pop_43 (by decide) ?_
      refine lv_lstore_n (lv' := [(3, .long 0), (2, .int (nI (min x (lo + 1)))), (0, .ref rg), (1, .int (nI x))]) hx hb d_Reg_pop_44 rfl hl (by decide) rfl (fun ls hl => ?_)
      refine lv_aload_n hx hb d_Reg_pop_45 rfl (lv_at hl 2 rfl) ?_
      refine va_get (D := K.1) (ci := 2) (v := .ref sk) (C := R_Reg) (T := T_Reg) (N := 6) hx hb hT in_Reg hown hK hP 0 rfl rfl 5 (by decide) (hT _ k_50) (fun _ h9 => h9) rfl d_Reg_pop_46 ?_
      refine lv_aload_n hx hb d_Reg_pop_49 rfl (lv_at hl 2 rfl) ?_
      refine va_get (D := K.1) (ci := 2) (v := .int (nI d)) (C := R_Reg) (T := T_Reg) (N := 6) hx hb hT in_Reg hown hK hP 0 rfl rfl 0 (by decide) (hT _ k_51) (fun _ h9 => h9) rfl d_Reg_pop_50 ?_
      refine lv_iconst (v := 1) hx hb d_Reg_pop_53 (by decide) ?_
      refine lv_isub hx hb d_Reg_pop_54 ?_
      refine lv_topi (fun z_6 ez_6 => ?_)
      obtain rfl : z_6 = nI (d - 1) := ez_6.trans (pk_sub (a := d) (b := 1) (by omega))
      refine va_lald hx hb hK hP 3 0 rfl rfl (i := nI (d - 1)) (vp_in_nI (n := (d - 1)) (N := 300) (by omega) (by decide)) d_Reg_pop_55 ?_
      refine lv_topl (fun z_7 ez_7 => ?_)
      obtain rfl : z_7 = lN kh := ez_7.trans (by rw [nI_clamp (by omega)]; exact hkf)
      refine lv_l2i (v := nI kh) hx hb d_Reg_pop_56 (lN_i _) ?_
      refine lv_istore (lv' := [(5, .int (nI kh)), (3, .long 0), (2, .int (nI (min x (lo + 1)))), (0, .ref rg), (1, .int (nI x))]) hx hb d_Reg_pop_57 hl (by decide) rfl (fun ls hl => ?_)
      refine lv_aload_n hx hb d_Reg_pop_59 rfl (lv_at hl 3 rfl) ?_
      refine lv_dup hx hb d_Reg_pop_60 rfl ?_
      refine va_get (D := K.1) (ci := 2) (v := .int (nI d)) (C := R_Reg) (T := T_Reg) (N := 6) hx hb hT in_Reg hown hK hP 0 rfl rfl 0 (by decide) (hT _ k_51) (fun _ h9 => h9) rfl d_Reg_pop_61 ?_
      refine lv_iload hx hb d_Reg_pop_64 (lv_at hl 0 rfl) ?_
      refine lv_iconst (v := 1) hx hb d_Reg_pop_66 (by decide) ?_
      refine lv_iadd hx hb d_Reg_pop_67 ?_
      refine lv_topi (fun z_8 ez_8 => ?_)
      obtain rfl : z_8 = nI (kh + 1) := ez_8.trans (nI_add kh 1)
      refine lv_isub hx hb d_Reg_pop_68 ?_
      refine lv_topi (fun z_9 ez_9 => ?_)
      obtain rfl : z_9 = nI (d - (kh + 1)) := ez_9.trans (pk_sub (a := d) (b := (kh + 1)) (by omega))
      refine va_put (D := K.1) (ci := 2) (v := .int (nI (d - (kh + 1)))) (ty := .int) (C := R_Reg) (T := T_Reg) (N := 6) hx hb hT in_Reg t_Reg t_Reg_ok n_Reg hown hK hP hD hS 0 rfl rfl 0 (by decide) (hT _ k_51) (fun _ h9 => h9) rfl (by decide +kernel) rfl rfl (Nat.le_of_ble_eq_true rfl) d_Reg_pop_69 (fun H locs hP hD hS => ?_)
      have hP : va_P K.1 mx_cl [(rg, .inr (2, [.int (nI (d - (kh + 1))), .int (nI lo), .int (nI gl), .ref ge, .ref sp, .ref sk])), (ge, .inl (K.2.1.1, 256, .inr (.inl fg))), (sp, .inl (K.2.1.1, 28, .inr (.inl fp))), (sk, .inl (K.2.1.1, 300, .inr (.inl fk)))] H := hP
      have hD : va_D A [(rg, .inr (2, [.int (nI (d - (kh + 1))), .int (nI lo), .int (nI gl), .ref ge, .ref sp, .ref sk])), (ge, .inl (K.2.1.1, 256, .inr (.inl fg))), (sp, .inl (K.2.1.1, 28, .inr (.inl fp))), (sk, .inl (K.2.1.1, 300, .inr (.inl fk)))] := hD
      refine lv_iload hx hb d_Reg_pop_72 (lv_at hl 0 rfl) ?_
      refine lv_iload_n hx hb d_Reg_pop_74 rfl (lv_at hl 2 rfl) ?_
      refine lv_iadd hx hb d_Reg_pop_75 ?_
      refine lv_topi (fun z_10 ez_10 => ?_)
      obtain rfl : z_10 = nI (kh + (min x (lo + 1))) := ez_10.trans (nI_add kh (min x (lo + 1)))
      refine lv_aload_n hx hb d_Reg_pop_76 rfl (lv_at hl 3 rfl) ?_
      refine va_get (D := K.1) (ci := 2) (v := .int (nI gl)) (C := R_Reg) (T := T_Reg) (N := 6) hx hb hT in_Reg hown hK hP 0 rfl rfl 2 (by decide) (hT _ k_54) (fun _ h9 => h9) rfl d_Reg_pop_77 ?_
      refine mx_ci (wr := [(rg, .inr (2, [.int (nI (d - (kh + 1))), .int (nI lo), .int (nI gl), .ref ge, .ref sp, .ref sk])), (ge, .inl (K.2.1.1, 256, .inr (.inl fg))), (sp, .inl (K.2.1.1, 28, .inr (.inl fp))), (sk, .inl (K.2.1.1, 300, .inr (.inl fk)))]) F (mx_runS (As := [.int (nI (kh + (min x (lo + 1)))), .int (nI gl)]) (rest := []) (n := 2) F (s_Math_min l K (nI (kh + (min x (lo + 1)))) (nI gl) H.size) k_510 (Or.inl k_837) k_509 k_17 p_Math_min rfl rfl hP hD hS [] rfl (by decide)  rfl hl.1 rfl (Nat.le_of_ble_eq_true rfl) ⟨by decide, by decide⟩ ⟨by decide, by decide⟩ d_Reg_pop_80) hP hD hS [] [0, 1, 2, 3] rfl rfl (by decide) (by decide) (fun r_12 _ H locs hq_11 hP hD hS => ?_)
      obtain rfl : r_12 = mx_min (nI (kh + (min x (lo + 1)))) (nI gl) := hq_11
      have hP : va_P K.1 mx_cl [(rg, .inr (2, [.int (nI (d - (kh + 1))), .int (nI lo), .int (nI gl), .ref ge, .ref sp, .ref sk])), (ge, .inl (K.2.1.1, 256, .inr (.inl fg))), (sp, .inl (K.2.1.1, 28, .inr (.inl fp))), (sk, .inl (K.2.1.1, 300, .inr (.inl fk)))] H := hP
      have hD : va_D A [(rg, .inr (2, [.int (nI (d - (kh + 1))), .int (nI lo), .int (nI gl), .ref ge, .ref sp, .ref sk])), (ge, .inl (K.2.1.1, 256, .inr (.inl fg))), (sp, .inl (K.2.1.1, 28, .inr (.inl fp))), (sk, .inl (K.2.1.1, 300, .inr (.inl fk)))] := hD
      refine W.cs (cells' := 0) (slots' := 0) rfl rfl ?_
      refine lv_topi (fun z_13 ez_13 => ?_)
      obtain rfl : z_13 = nI (min (kh + (min x (lo + 1))) gl) := ez_13.trans (mx_minN (by omega) (by omega))
      refine lv_istore (lv' := [(6, .int (nI (min (kh + (min x (lo + 1))) gl))), (5, .int (nI kh)), (3, .long 0), (2, .int (nI (min x (lo + 1)))), (0, .ref rg), (1, .int (nI x))]) hx hb d_Reg_pop_83 hl (by decide) rfl (fun ls hl => ?_)
      refine lv_iload hx hb d_Reg_pop_85 (lv_at hl 0 rfl) ?_
      refine lv_iload hx hb d_Reg_pop_87 (lv_at hl 1 rfl) ?_
      refine lv_iconst (v := 1) hx hb d_Reg_pop_89 (by decide) ?_
      refine lv_iadd hx hb d_Reg_pop_90 ?_
      refine lv_topi (fun z_14 ez_14 => ?_)
      obtain rfl : z_14 = nI (kh + 1) := ez_14.trans (nI_add kh 1)
      refine lv_icmp_le (tgt := 117) hx hb d_Reg_pop_91 (by decide) (fun h_15 => ?_) (fun h_15 => ?_)
      · have h_15n := mx_fLe (a := (min (kh + (min x (lo + 1))) gl)) (b := (kh + 1)) (by omega) (by omega) h_15
        refine lv_iload hx hb d_Reg_pop_117 (lv_at hl 0 rfl) ?_
        refine lv_iload hx hb d_Reg_pop_119 (lv_at hl 1 rfl) ?_
        refine lv_icmp_le (tgt := 132) hx hb d_Reg_pop_121 (by decide) (fun h_16 => ?_) (fun h_16 => ?_)
        · have h_16n := mx_fLe (a := (min (kh + (min x (lo + 1))) gl)) (b := kh) (by omega) (by omega) h_16
          refine lv_aload_n hx hb d_Reg_pop_132 rfl (lv_at hl 4 rfl) ?_
          refine va_get (D := K.1) (ci := 2) (v := .ref sk) (C := R_Reg) (T := T_Reg) (N := 6) hx hb hT in_Reg hown hK hP 0 rfl rfl 5 (by decide) (hT _ k_50) (fun _ h9 => h9) rfl d_Reg_pop_133 ?_
          refine lv_aload_n hx hb d_Reg_pop_136 rfl (lv_at hl 4 rfl) ?_
          refine va_get (D := K.1) (ci := 2) (v := .int (nI (d - (kh + 1)))) (C := R_Reg) (T := T_Reg) (N := 6) hx hb hT in_Reg hown hK hP 0 rfl rfl 0 (by decide) (hT _ k_51) (fun _ h9 => h9) rfl d_Reg_pop_137 ?_
          refine lv_aload_n hx hb d_Reg_pop_140 rfl (lv_at hl 4 rfl) ?_
          refine va_get (D := K.1) (ci := 2) (v := .ref ge) (C := R_Reg) (T := T_Reg) (N := 6) hx hb hT in_Reg hown hK hP 0 rfl rfl 3 (by decide) (hT _ k_48) (fun _ h9 => h9) rfl d_Reg_pop_141 ?_
          refine lv_iconst (v := 0) hx hb d_Reg_pop_144 (by decide) ?_
          refine lv_iload hx hb d_Reg_pop_145 (lv_at hl 1 rfl) ?_
          refine lv_iload hx hb d_Reg_pop_147 (lv_at hl 0 rfl) ?_
          refine mx_ci (wr := [(rg, .inr (2, [.int (nI (d - (kh + 1))), .int (nI lo), .int (nI gl), .ref ge, .ref sp, .ref sk])), (ge, .inl (K.2.1.1, 256, .inr (.inl fg))), (sp, .inl (K.2.1.1, 28, .inr (.inl fp))), (sk, .inl (K.2.1.1, 300, .inr (.inl fk)))]) F (mx_runS (As := [.int (nI kh), .int (nI (min (kh + (min x (lo + 1))) gl))]) (rest := [.int 0, .ref ge, .int (nI (d - (kh + 1))), .ref sk]) (n := 2) F (s_Math_min l K (nI kh) (nI (min (kh + (min x (lo + 1))) gl)) H.size) k_510 (Or.inl k_837) k_509 k_17 p_Math_min rfl rfl hP hD hS [] rfl (by decide)  rfl hl.1 rfl (Nat.le_of_ble_eq_true rfl) ⟨by decide, by decide⟩ ⟨by decide, by decide⟩ d_Reg_pop_149) hP hD hS [] [0, 1, 2, 3] rfl rfl (by decide) (by decide) (fun r_18 _ H locs hq_17 hP hD hS => ?_)
          obtain rfl : r_18 = mx_min (nI kh) (nI (min (kh + (min x (lo + 1))) gl)) := hq_17
          have hP : va_P K.1 mx_cl [(rg, .inr (2, [.int (nI (d - (kh + 1))), .int (nI lo), .int (nI gl), .ref ge, .ref sp, .ref sk])), (ge, .inl (K.2.1.1, 256, .inr (.inl fg))), (sp, .inl (K.2.1.1, 28, .inr (.inl fp))), (sk, .inl (K.2.1.1, 300, .inr (.inl fk)))] H := hP
          have hD : va_D A [(rg, .inr (2, [.int (nI (d - (kh + 1))), .int (nI lo), .int (nI gl), .ref ge, .ref sp, .ref sk])), (ge, .inl (K.2.1.1, 256, .inr (.inl fg))), (sp, .inl (K.2.1.1, 28, .inr (.inl fp))), (sk, .inl (K.2.1.1, 300, .inr (.inl fk)))] := hD
          refine W.cs (cells' := 0) (slots' := 0) rfl rfl ?_
          refine lv_topi (fun z_19 ez_19 => ?_)
          obtain rfl : z_19 = nI (min kh (min (kh + (min x (lo + 1))) gl)) := ez_19.trans (mx_minN (by omega) (by omega))
          refine va_copyl hx hb (by rw [hml]; exact hl.1.symm) hown (hT _ k_804) (hT _ k_692) (hT _ k_691) (hT _ k_19) hK hP hD hS 3 1 0 0 rfl rfl rfl rfl rfl (nI_pos (n := (d - (kh + 1))) (by omega)) (nI_pos (n := 0) (by omega)) (nI_pos (n := (min kh (min (kh + (min x (lo + 1))) gl))) (by omega)) (mx_cp (a := (d - (kh + 1))) (n := (min kh (min (kh + (min x (lo + 1))) gl))) (by omega) (by omega) (by omega)) (mx_cp (a := 0) (n := (min kh (min (kh + (min x (lo + 1))) gl))) (by omega) (by omega) (by omega)) (fun _ _ => rfl) (by decide) (Nat.le_of_ble_eq_true rfl) d_Reg_pop_152 (fun H locs hP hD hS => ?_)
          have hP : va_P K.1 mx_cl [(rg, .inr (2, [.int (nI (d - (kh + 1))), .int (nI lo), .int (nI gl), .ref ge, .ref sp, .ref sk])), (ge, .inl (K.2.1.1, 256, .inr (.inl (va_cpy fk fg (nI (d - (kh + 1))).toNatClampNeg (nI 0).toNatClampNeg (nI (min kh (min (kh + (min x (lo + 1))) gl))).toNatClampNeg)))), (sp, .inl (K.2.1.1, 28, .inr (.inl fp))), (sk, .inl (K.2.1.1, 300, .inr (.inl fk)))] H := hP
          have hD : va_D A [(rg, .inr (2, [.int (nI (d - (kh + 1))), .int (nI lo), .int (nI gl), .ref ge, .ref sp, .ref sk])), (ge, .inl (K.2.1.1, 256, .inr (.inl (va_cpy fk fg (nI (d - (kh + 1))).toNatClampNeg (nI 0).toNatClampNeg (nI (min kh (min (kh + (min x (lo + 1))) gl))).toNatClampNeg)))), (sp, .inl (K.2.1.1, 28, .inr (.inl fp))), (sk, .inl (K.2.1.1, 300, .inr (.inl fk)))] := hD
          generalize ef_20 : va_cpy fk fg (nI (d - (kh + 1))).toNatClampNeg (nI 0).toNatClampNeg (nI (min kh (min (kh + (min x (lo + 1))) gl))).toNatClampNeg = f_20 at hP hD
          refine lv_aload_n hx hb d_Reg_pop_155 rfl (lv_at hl 4 rfl) ?_
          refine lv_iload hx hb d_Reg_pop_156 (lv_at hl 0 rfl) ?_
          refine lv_aload_n hx hb d_Reg_pop_158 rfl (lv_at hl 4 rfl) ?_
          refine va_get (D := K.1) (ci := 2) (v := .int (nI lo)) (C := R_Reg) (T := T_Reg) (N := 6) hx hb hT in_Reg hown hK hP 0 rfl rfl 1 (by decide) (hT _ k_53) (fun _ h9 => h9) rfl d_Reg_pop_159 ?_
          refine mx_cv (wr := [(sp, .inl (K.2.1.1, 28, .inr (.inl fp))), (sk, .inl (K.2.1.1, 300, .inr (.inl fk)))]) F (mx_runV (As := [.int (nI (min (kh + (min x (lo + 1))) gl)), .int (nI lo)]) (rest := []) (n := 2) F (s_Reg_clearFrom l K rg (min (kh + (min x (lo + 1))) gl) (nI lo) ge sp sk f_20 (d - (kh + 1)) lo gl H.size (by omega)) k_704 (Or.inl k_701) k_703 sl_Reg_clearFrom k_3 p_Reg_clearFrom rfl rfl hP hD hS [0, 1] rfl (by decide) (va_recv (q := (R_Reg, T_Reg, 6)) (ci := 2) (q0 := 0) hK hP rfl rfl) rfl hl.1 rfl (Nat.le_of_ble_eq_true rfl) ⟨by decide, by decide⟩ ⟨by decide, by decide⟩ d_Reg_pop_162) hP hD hS [0, 1] [2, 3] rfl rfl (by decide) (by decide) (fun u_22 H locs hq_21 hP hD hS => ?_)
          obtain ⟨w_24, rfl⟩ := hq_21
          have hP : va_P K.1 mx_cl [(sp, .inl (K.2.1.1, 28, .inr (.inl fp))), (sk, .inl (K.2.1.1, 300, .inr (.inl fk))), (rg, .inr (2, [.int (nI (d - (kh + 1))), .int (nI lo), .int (nI gl), .ref ge, .ref sp, .ref sk])), (ge, .inl (K.2.1.1, 256, .inr (.inl w_24)))] H := hP
          have hD : va_D A [(sp, .inl (K.2.1.1, 28, .inr (.inl fp))), (sk, .inl (K.2.1.1, 300, .inr (.inl fk))), (rg, .inr (2, [.int (nI (d - (kh + 1))), .int (nI lo), .int (nI gl), .ref ge, .ref sp, .ref sk])), (ge, .inl (K.2.1.1, 256, .inr (.inl w_24)))] := hD
          refine W.cs (cells' := 0) (slots' := 0) rfl rfl ?_
          refine lv_aload_n hx hb d_Reg_pop_165 rfl (lv_at hl 4 rfl) ?_
          refine lv_iload hx hb d_Reg_pop_166 (lv_at hl 0 rfl) ?_
          refine va_put (D := K.1) (ci := 2) (v := .int (nI (min (kh + (min x (lo + 1))) gl))) (ty := .int) (C := R_Reg) (T := T_Reg) (N := 6) hx hb hT in_Reg t_Reg t_Reg_ok n_Reg hown hK hP hD hS 2 rfl rfl 1 (by decide) (hT _ k_53) (fun _ h9 => h9) rfl (by decide +kernel) rfl rfl (Nat.le_of_ble_eq_true rfl) d_Reg_pop_168 (fun H locs hP hD hS => ?_)
          have hP : va_P K.1 mx_cl [(sp, .inl (K.2.1.1, 28, .inr (.inl fp))), (sk, .inl (K.2.1.1, 300, .inr (.inl fk))), (rg, .inr (2, [.int (nI (d - (kh + 1))), .int (nI (min (kh + (min x (lo + 1))) gl)), .int (nI gl), .ref ge, .ref sp, .ref sk])), (ge, .inl (K.2.1.1, 256, .inr (.inl w_24)))] H := hP
          have hD : va_D A [(sp, .inl (K.2.1.1, 28, .inr (.inl fp))), (sk, .inl (K.2.1.1, 300, .inr (.inl fk))), (rg, .inr (2, [.int (nI (d - (kh + 1))), .int (nI (min (kh + (min x (lo + 1))) gl)), .int (nI gl), .ref ge, .ref sp, .ref sk])), (ge, .inl (K.2.1.1, 256, .inr (.inl w_24)))] := hD
          refine lv_iconst (v := 1) hx hb d_Reg_pop_171 (by decide) ?_
          exact mx_ri F hr hlk (by decide) hP hD hS [(rg, .inr (2, [.int (nI (d - (kh + 1))), .int (nI (min (kh + (min x (lo + 1))) gl)), .int (nI gl), .ref ge, .ref sp, .ref sk])), (ge, .inl (K.2.1.1, 256, .inr (.inl w_24))), (sp, .inl (K.2.1.1, 28, .inr (.inl fp))), (sk, .inl (K.2.1.1, 300, .inr (.inl fk)))] [2, 3, 0, 1] rfl (by decide) ⟨(Or.inr rfl), ⟨(d - (kh + 1)), (min (kh + (min x (lo + 1))) gl), gl, w_24, fp, fk, (by first | assumption | omega | exact mx_ch_0), (by first | assumption | omega | exact mx_ch_0), (by first | assumption | omega | exact mx_ch_0), (by rw [show d - (kh + 1) = d - kh - 1 by omega]; exact hkc), rfl⟩⟩ (by decide) (by decide) d_Reg_pop_172
        · have h_16n := mx_fNle (a := (min (kh + (min x (lo + 1))) gl)) (b := kh) (by omega) (by omega) h_16
          refine lv_aload_n hx hb d_Reg_pop_124 rfl (lv_at hl 4 rfl) ?_
          refine va_get (D := K.1) (ci := 2) (v := .ref ge) (C := R_Reg) (T := T_Reg) (N := 6) hx hb hT in_Reg hown hK hP 0 rfl rfl 3 (by decide) (hT _ k_48) (fun _ h9 => h9) rfl d_Reg_pop_125 ?_
          refine lv_iload hx hb d_Reg_pop_128 (lv_at hl 1 rfl) ?_
          refine lv_lload_n hx hb d_Reg_pop_130 rfl (lv_at hl 2 rfl) ?_
          refine va_last hx hb hK hP hD hS 1 0 rfl rfl (i := nI kh) (x := 0) (vp_in_nI (n := kh) (N := 256) (by omega) (by decide)) d_Reg_pop_131 (fun H locs hP hD hS => ?_)
          have hP : va_P K.1 mx_cl [(rg, .inr (2, [.int (nI (d - (kh + 1))), .int (nI lo), .int (nI gl), .ref ge, .ref sp, .ref sk])), (ge, .inl (K.2.1.1, 256, .inr (.inl (vp_updL fg (nI kh).toNatClampNeg 0)))), (sp, .inl (K.2.1.1, 28, .inr (.inl fp))), (sk, .inl (K.2.1.1, 300, .inr (.inl fk)))] H := hP
          have hD : va_D A [(rg, .inr (2, [.int (nI (d - (kh + 1))), .int (nI lo), .int (nI gl), .ref ge, .ref sp, .ref sk])), (ge, .inl (K.2.1.1, 256, .inr (.inl (vp_updL fg (nI kh).toNatClampNeg 0)))), (sp, .inl (K.2.1.1, 28, .inr (.inl fp))), (sk, .inl (K.2.1.1, 300, .inr (.inl fk)))] := hD
          generalize ef_26 : vp_updL fg (nI kh).toNatClampNeg 0 = f_26 at hP hD
          refine lv_aload_n hx hb d_Reg_pop_132 rfl (lv_at hl 4 rfl) ?_
          refine va_get (D := K.1) (ci := 2) (v := .ref sk) (C := R_Reg) (T := T_Reg) (N := 6) hx hb hT in_Reg hown hK hP 0 rfl rfl 5 (by decide) (hT _ k_50) (fun _ h9 => h9) rfl d_Reg_pop_133 ?_
          refine lv_aload_n hx hb d_Reg_pop_136 rfl (lv_at hl 4 rfl) ?_
          refine va_get (D := K.1) (ci := 2) (v := .int (nI (d - (kh + 1)))) (C := R_Reg) (T := T_Reg) (N := 6) hx hb hT in_Reg hown hK hP 0 rfl rfl 0 (by decide) (hT _ k_51) (fun _ h9 => h9) rfl d_Reg_pop_137 ?_
          refine lv_aload_n hx hb d_Reg_pop_140 rfl (lv_at hl 4 rfl) ?_
          refine va_get (D := K.1) (ci := 2) (v := .ref ge) (C := R_Reg) (T := T_Reg) (N := 6) hx hb hT in_Reg hown hK hP 0 rfl rfl 3 (by decide) (hT _ k_48) (fun _ h9 => h9) rfl d_Reg_pop_141 ?_
          refine lv_iconst (v := 0) hx hb d_Reg_pop_144 (by decide) ?_
          refine lv_iload hx hb d_Reg_pop_145 (lv_at hl 1 rfl) ?_
          refine lv_iload hx hb d_Reg_pop_147 (lv_at hl 0 rfl) ?_
          refine mx_ci (wr := [(rg, .inr (2, [.int (nI (d - (kh + 1))), .int (nI lo), .int (nI gl), .ref ge, .ref sp, .ref sk])), (ge, .inl (K.2.1.1, 256, .inr (.inl f_26))), (sp, .inl (K.2.1.1, 28, .inr (.inl fp))), (sk, .inl (K.2.1.1, 300, .inr (.inl fk)))]) F (mx_runS (As := [.int (nI kh), .int (nI (min (kh + (min x (lo + 1))) gl))]) (rest := [.int 0, .ref ge, .int (nI (d - (kh + 1))), .ref sk]) (n := 2) F (s_Math_min l K (nI kh) (nI (min (kh + (min x (lo + 1))) gl)) H.size) k_510 (Or.inl k_837) k_509 k_17 p_Math_min rfl rfl hP hD hS [] rfl (by decide)  rfl hl.1 rfl (Nat.le_of_ble_eq_true rfl) ⟨by decide, by decide⟩ ⟨by decide, by decide⟩ d_Reg_pop_149) hP hD hS [] [0, 1, 2, 3] rfl rfl (by decide) (by decide) (fun r_28 _ H locs hq_27 hP hD hS => ?_)
          obtain rfl : r_28 = mx_min (nI kh) (nI (min (kh + (min x (lo + 1))) gl)) := hq_27
          have hP : va_P K.1 mx_cl [(rg, .inr (2, [.int (nI (d - (kh + 1))), .int (nI lo), .int (nI gl), .ref ge, .ref sp, .ref sk])), (ge, .inl (K.2.1.1, 256, .inr (.inl f_26))), (sp, .inl (K.2.1.1, 28, .inr (.inl fp))), (sk, .inl (K.2.1.1, 300, .inr (.inl fk)))] H := hP
          have hD : va_D A [(rg, .inr (2, [.int (nI (d - (kh + 1))), .int (nI lo), .int (nI gl), .ref ge, .ref sp, .ref sk])), (ge, .inl (K.2.1.1, 256, .inr (.inl f_26))), (sp, .inl (K.2.1.1, 28, .inr (.inl fp))), (sk, .inl (K.2.1.1, 300, .inr (.inl fk)))] := hD
          refine W.cs (cells' := 0) (slots' := 0) rfl rfl ?_
          refine lv_topi (fun z_29 ez_29 => ?_)
          obtain rfl : z_29 = nI (min kh (min (kh + (min x (lo + 1))) gl)) := ez_29.trans (mx_minN (by omega) (by omega))
          refine va_copyl hx hb (by rw [hml]; exact hl.1.symm) hown (hT _ k_804) (hT _ k_692) (hT _ k_691) (hT _ k_19) hK hP hD hS 3 1 0 0 rfl rfl rfl rfl rfl (nI_pos (n := (d - (kh + 1))) (by omega)) (nI_pos (n := 0) (by omega)) (nI_pos (n := (min kh (min (kh + (min x (lo + 1))) gl))) (by omega)) (mx_cp (a := (d - (kh + 1))) (n := (min kh (min (kh + (min x (lo + 1))) gl))) (by omega) (by omega) (by omega)) (mx_cp (a := 0) (n := (min kh (min (kh + (min x (lo + 1))) gl))) (by omega) (by omega) (by omega)) (fun _ _ => rfl) (by decide) (Nat.le_of_ble_eq_true rfl) d_Reg_pop_152 (fun H locs hP hD hS => ?_)
          have hP : va_P K.1 mx_cl [(rg, .inr (2, [.int (nI (d - (kh + 1))), .int (nI lo), .int (nI gl), .ref ge, .ref sp, .ref sk])), (ge, .inl (K.2.1.1, 256, .inr (.inl (va_cpy fk f_26 (nI (d - (kh + 1))).toNatClampNeg (nI 0).toNatClampNeg (nI (min kh (min (kh + (min x (lo + 1))) gl))).toNatClampNeg)))), (sp, .inl (K.2.1.1, 28, .inr (.inl fp))), (sk, .inl (K.2.1.1, 300, .inr (.inl fk)))] H := hP
          have hD : va_D A [(rg, .inr (2, [.int (nI (d - (kh + 1))), .int (nI lo), .int (nI gl), .ref ge, .ref sp, .ref sk])), (ge, .inl (K.2.1.1, 256, .inr (.inl (va_cpy fk f_26 (nI (d - (kh + 1))).toNatClampNeg (nI 0).toNatClampNeg (nI (min kh (min (kh + (min x (lo + 1))) gl))).toNatClampNeg)))), (sp, .inl (K.2.1.1, 28, .inr (.inl fp))), (sk, .inl (K.2.1.1, 300, .inr (.inl fk)))] := hD
          generalize ef_30 : va_cpy fk f_26 (nI (d - (kh + 1))).toNatClampNeg (nI 0).toNatClampNeg (nI (min kh (min (kh + (min x (lo + 1))) gl))).toNatClampNeg = f_30 at hP hD
          refine lv_aload_n hx hb d_Reg_pop_155 rfl (lv_at hl 4 rfl) ?_
          refine lv_iload hx hb d_Reg_pop_156 (lv_at hl 0 rfl) ?_
          refine lv_aload_n hx hb d_Reg_pop_158 rfl (lv_at hl 4 rfl) ?_
          refine va_get (D := K.1) (ci := 2) (v := .int (nI lo)) (C := R_Reg) (T := T_Reg) (N := 6) hx hb hT in_Reg hown hK hP 0 rfl rfl 1 (by decide) (hT _ k_53) (fun _ h9 => h9) rfl d_Reg_pop_159 ?_
          refine mx_cv (wr := [(sp, .inl (K.2.1.1, 28, .inr (.inl fp))), (sk, .inl (K.2.1.1, 300, .inr (.inl fk)))]) F (mx_runV (As := [.int (nI (min (kh + (min x (lo + 1))) gl)), .int (nI lo)]) (rest := []) (n := 2) F (s_Reg_clearFrom l K rg (min (kh + (min x (lo + 1))) gl) (nI lo) ge sp sk f_30 (d - (kh + 1)) lo gl H.size (by omega)) k_704 (Or.inl k_701) k_703 sl_Reg_clearFrom k_3 p_Reg_clearFrom rfl rfl hP hD hS [0, 1] rfl (by decide) (va_recv (q := (R_Reg, T_Reg, 6)) (ci := 2) (q0 := 0) hK hP rfl rfl) rfl hl.1 rfl (Nat.le_of_ble_eq_true rfl) ⟨by decide, by decide⟩ ⟨by decide, by decide⟩ d_Reg_pop_162) hP hD hS [0, 1] [2, 3] rfl rfl (by decide) (by decide) (fun u_32 H locs hq_31 hP hD hS => ?_)
          obtain ⟨w_34, rfl⟩ := hq_31
          have hP : va_P K.1 mx_cl [(sp, .inl (K.2.1.1, 28, .inr (.inl fp))), (sk, .inl (K.2.1.1, 300, .inr (.inl fk))), (rg, .inr (2, [.int (nI (d - (kh + 1))), .int (nI lo), .int (nI gl), .ref ge, .ref sp, .ref sk])), (ge, .inl (K.2.1.1, 256, .inr (.inl w_34)))] H := hP
          have hD : va_D A [(sp, .inl (K.2.1.1, 28, .inr (.inl fp))), (sk, .inl (K.2.1.1, 300, .inr (.inl fk))), (rg, .inr (2, [.int (nI (d - (kh + 1))), .int (nI lo), .int (nI gl), .ref ge, .ref sp, .ref sk])), (ge, .inl (K.2.1.1, 256, .inr (.inl w_34)))] := hD
          refine W.cs (cells' := 0) (slots' := 0) rfl rfl ?_
          refine lv_aload_n hx hb d_Reg_pop_165 rfl (lv_at hl 4 rfl) ?_
          refine lv_iload hx hb d_Reg_pop_166 (lv_at hl 0 rfl) ?_
          refine va_put (D := K.1) (ci := 2) (v := .int (nI (min (kh + (min x (lo + 1))) gl))) (ty := .int) (C := R_Reg) (T := T_Reg) (N := 6) hx hb hT in_Reg t_Reg t_Reg_ok n_Reg hown hK hP hD hS 2 rfl rfl 1 (by decide) (hT _ k_53) (fun _ h9 => h9) rfl (by decide +kernel) rfl rfl (Nat.le_of_ble_eq_true rfl) d_Reg_pop_168 (fun H locs hP hD hS => ?_)
          have hP : va_P K.1 mx_cl [(sp, .inl (K.2.1.1, 28, .inr (.inl fp))), (sk, .inl (K.2.1.1, 300, .inr (.inl fk))), (rg, .inr (2, [.int (nI (d - (kh + 1))), .int (nI (min (kh + (min x (lo + 1))) gl)), .int (nI gl), .ref ge, .ref sp, .ref sk])), (ge, .inl (K.2.1.1, 256, .inr (.inl w_34)))] H := hP
          have hD : va_D A [(sp, .inl (K.2.1.1, 28, .inr (.inl fp))), (sk, .inl (K.2.1.1, 300, .inr (.inl fk))), (rg, .inr (2, [.int (nI (d - (kh + 1))), .int (nI (min (kh + (min x (lo + 1))) gl)), .int (nI gl), .ref ge, .ref sp, .ref sk])), (ge, .inl (K.2.1.1, 256, .inr (.inl w_34)))] := hD
          refine lv_iconst (v := 1) hx hb d_Reg_pop_171 (by decide) ?_
          exact mx_ri F hr hlk (by decide) hP hD hS [(rg, .inr (2, [.int (nI (d - (kh + 1))), .int (nI (min (kh + (min x (lo + 1))) gl)), .int (nI gl), .ref ge, .ref sp, .ref sk])), (ge, .inl (K.2.1.1, 256, .inr (.inl w_34))), (sp, .inl (K.2.1.1, 28, .inr (.inl fp))), (sk, .inl (K.2.1.1, 300, .inr (.inl fk)))] [2, 3, 0, 1] rfl (by decide) ⟨(Or.inr rfl), ⟨(d - (kh + 1)), (min (kh + (min x (lo + 1))) gl), gl, w_34, fp, fk, (by first | assumption | omega | exact mx_ch_0), (by first | assumption | omega | exact mx_ch_0), (by first | assumption | omega | exact mx_ch_0), (by rw [show d - (kh + 1) = d - kh - 1 by omega]; exact hkc), rfl⟩⟩ (by decide) (by decide) d_Reg_pop_172
      · have h_15n := mx_fNle (a := (min (kh + (min x (lo + 1))) gl)) (b := (kh + 1)) (by omega) (by omega) h_15
        refine lv_aload_n hx hb d_Reg_pop_94 rfl (lv_at hl 4 rfl) ?_
        refine va_get (D := K.1) (ci := 2) (v := .ref ge) (C := R_Reg) (T := T_Reg) (N := 6) hx hb hT in_Reg hown hK hP 0 rfl rfl 3 (by decide) (hT _ k_48) (fun _ h9 => h9) rfl d_Reg_pop_95 ?_
        refine lv_iconst (v := 0) hx hb d_Reg_pop_98 (by decide) ?_
        refine lv_aload_n hx hb d_Reg_pop_99 rfl (lv_at hl 4 rfl) ?_
        refine va_get (D := K.1) (ci := 2) (v := .ref ge) (C := R_Reg) (T := T_Reg) (N := 6) hx hb hT in_Reg hown hK hP 0 rfl rfl 3 (by decide) (hT _ k_48) (fun _ h9 => h9) rfl d_Reg_pop_100 ?_
        refine lv_iload hx hb d_Reg_pop_103 (lv_at hl 1 rfl) ?_
        refine lv_iconst (v := 1) hx hb d_Reg_pop_105 (by decide) ?_
        refine lv_iadd hx hb d_Reg_pop_106 ?_
        refine lv_topi (fun z_36 ez_36 => ?_)
        obtain rfl : z_36 = nI (kh + 1) := ez_36.trans (nI_add kh 1)
        refine lv_iload hx hb d_Reg_pop_107 (lv_at hl 0 rfl) ?_
        refine lv_iload hx hb d_Reg_pop_109 (lv_at hl 1 rfl) ?_
        refine lv_isub hx hb d_Reg_pop_111 ?_
        refine lv_topi (fun z_37 ez_37 => ?_)
        obtain rfl : z_37 = nI ((min (kh + (min x (lo + 1))) gl) - kh) := ez_37.trans (pk_sub (a := (min (kh + (min x (lo + 1))) gl)) (b := kh) (by omega))
        refine lv_iconst (v := 1) hx hb d_Reg_pop_112 (by decide) ?_
        refine lv_isub hx hb d_Reg_pop_113 ?_
        refine lv_topi (fun z_38 ez_38 => ?_)
        obtain rfl : z_38 = nI (((min (kh + (min x (lo + 1))) gl) - kh) - 1) := ez_38.trans (pk_sub (a := ((min (kh + (min x (lo + 1))) gl) - kh)) (b := 1) (by omega))
        refine va_copyl hx hb (by rw [hml]; exact hl.1.symm) hown (hT _ k_804) (hT _ k_692) (hT _ k_691) (hT _ k_19) hK hP hD hS 1 1 0 0 rfl rfl rfl rfl rfl (nI_pos (n := 0) (by omega)) (nI_pos (n := (kh + 1)) (by omega)) (nI_pos (n := (((min (kh + (min x (lo + 1))) gl) - kh) - 1)) (by omega)) (mx_cp (a := 0) (n := (((min (kh + (min x (lo + 1))) gl) - kh) - 1)) (by omega) (by omega) (by omega)) (mx_cp (a := (kh + 1)) (n := (((min (kh + (min x (lo + 1))) gl) - kh) - 1)) (by omega) (by omega) (by omega)) (fun _ _ => rfl) (by decide) (Nat.le_of_ble_eq_true rfl) d_Reg_pop_114 (fun H locs hP hD hS => ?_)
        have hP : va_P K.1 mx_cl [(rg, .inr (2, [.int (nI (d - (kh + 1))), .int (nI lo), .int (nI gl), .ref ge, .ref sp, .ref sk])), (ge, .inl (K.2.1.1, 256, .inr (.inl (va_cpy fg fg (nI 0).toNatClampNeg (nI (kh + 1)).toNatClampNeg (nI (((min (kh + (min x (lo + 1))) gl) - kh) - 1)).toNatClampNeg)))), (sp, .inl (K.2.1.1, 28, .inr (.inl fp))), (sk, .inl (K.2.1.1, 300, .inr (.inl fk)))] H := hP
        have hD : va_D A [(rg, .inr (2, [.int (nI (d - (kh + 1))), .int (nI lo), .int (nI gl), .ref ge, .ref sp, .ref sk])), (ge, .inl (K.2.1.1, 256, .inr (.inl (va_cpy fg fg (nI 0).toNatClampNeg (nI (kh + 1)).toNatClampNeg (nI (((min (kh + (min x (lo + 1))) gl) - kh) - 1)).toNatClampNeg)))), (sp, .inl (K.2.1.1, 28, .inr (.inl fp))), (sk, .inl (K.2.1.1, 300, .inr (.inl fk)))] := hD
        generalize ef_39 : va_cpy fg fg (nI 0).toNatClampNeg (nI (kh + 1)).toNatClampNeg (nI (((min (kh + (min x (lo + 1))) gl) - kh) - 1)).toNatClampNeg = f_39 at hP hD
        refine lv_iload hx hb d_Reg_pop_117 (lv_at hl 0 rfl) ?_
        refine lv_iload hx hb d_Reg_pop_119 (lv_at hl 1 rfl) ?_
        refine lv_icmp_le (tgt := 132) hx hb d_Reg_pop_121 (by decide) (fun h_40 => ?_) (fun h_40 => ?_)
        · have h_40n := mx_fLe (a := (min (kh + (min x (lo + 1))) gl)) (b := kh) (by omega) (by omega) h_40
          refine lv_aload_n hx hb d_Reg_pop_132 rfl (lv_at hl 4 rfl) ?_
          refine va_get (D := K.1) (ci := 2) (v := .ref sk) (C := R_Reg) (T := T_Reg) (N := 6) hx hb hT in_Reg hown hK hP 0 rfl rfl 5 (by decide) (hT _ k_50) (fun _ h9 => h9) rfl d_Reg_pop_133 ?_
          refine lv_aload_n hx hb d_Reg_pop_136 rfl (lv_at hl 4 rfl) ?_
          refine va_get (D := K.1) (ci := 2) (v := .int (nI (d - (kh + 1)))) (C := R_Reg) (T := T_Reg) (N := 6) hx hb hT in_Reg hown hK hP 0 rfl rfl 0 (by decide) (hT _ k_51) (fun _ h9 => h9) rfl d_Reg_pop_137 ?_
          refine lv_aload_n hx hb d_Reg_pop_140 rfl (lv_at hl 4 rfl) ?_
          refine va_get (D := K.1) (ci := 2) (v := .ref ge) (C := R_Reg) (T := T_Reg) (N := 6) hx hb hT in_Reg hown hK hP 0 rfl rfl 3 (by decide) (hT _ k_48) (fun _ h9 => h9) rfl d_Reg_pop_141 ?_
          refine lv_iconst (v := 0) hx hb d_Reg_pop_144 (by decide) ?_
          refine lv_iload hx hb d_Reg_pop_145 (lv_at hl 1 rfl) ?_
          refine lv_iload hx hb d_Reg_pop_147 (lv_at hl 0 rfl) ?_
          refine mx_ci (wr := [(rg, .inr (2, [.int (nI (d - (kh + 1))), .int (nI lo), .int (nI gl), .ref ge, .ref sp, .ref sk])), (ge, .inl (K.2.1.1, 256, .inr (.inl f_39))), (sp, .inl (K.2.1.1, 28, .inr (.inl fp))), (sk, .inl (K.2.1.1, 300, .inr (.inl fk)))]) F (mx_runS (As := [.int (nI kh), .int (nI (min (kh + (min x (lo + 1))) gl))]) (rest := [.int 0, .ref ge, .int (nI (d - (kh + 1))), .ref sk]) (n := 2) F (s_Math_min l K (nI kh) (nI (min (kh + (min x (lo + 1))) gl)) H.size) k_510 (Or.inl k_837) k_509 k_17 p_Math_min rfl rfl hP hD hS [] rfl (by decide)  rfl hl.1 rfl (Nat.le_of_ble_eq_true rfl) ⟨by decide, by decide⟩ ⟨by decide, by decide⟩ d_Reg_pop_149) hP hD hS [] [0, 1, 2, 3] rfl rfl (by decide) (by decide) (fun r_42 _ H locs hq_41 hP hD hS => ?_)
          obtain rfl : r_42 = mx_min (nI kh) (nI (min (kh + (min x (lo + 1))) gl)) := hq_41
          have hP : va_P K.1 mx_cl [(rg, .inr (2, [.int (nI (d - (kh + 1))), .int (nI lo), .int (nI gl), .ref ge, .ref sp, .ref sk])), (ge, .inl (K.2.1.1, 256, .inr (.inl f_39))), (sp, .inl (K.2.1.1, 28, .inr (.inl fp))), (sk, .inl (K.2.1.1, 300, .inr (.inl fk)))] H := hP
          have hD : va_D A [(rg, .inr (2, [.int (nI (d - (kh + 1))), .int (nI lo), .int (nI gl), .ref ge, .ref sp, .ref sk])), (ge, .inl (K.2.1.1, 256, .inr (.inl f_39))), (sp, .inl (K.2.1.1, 28, .inr (.inl fp))), (sk, .inl (K.2.1.1, 300, .inr (.inl fk)))] := hD
          refine W.cs (cells' := 0) (slots' := 0) rfl rfl ?_
          refine lv_topi (fun z_43 ez_43 => ?_)
          obtain rfl : z_43 = nI (min kh (min (kh + (min x (lo + 1))) gl)) := ez_43.trans (mx_minN (by omega) (by omega))
          refine va_copyl hx hb (by rw [hml]; exact hl.1.symm) hown (hT _ k_804) (hT _ k_692) (hT _ k_691) (hT _ k_19) hK hP hD hS 3 1 0 0 rfl rfl rfl rfl rfl (nI_pos (n := (d - (kh + 1))) (by omega)) (nI_pos (n := 0) (by omega)) (nI_pos (n := (min kh (min (kh + (min x (lo + 1))) gl))) (by omega)) (mx_cp (a := (d - (kh + 1))) (n := (min kh (min (kh + (min x (lo + 1))) gl))) (by omega) (by omega) (by omega)) (mx_cp (a := 0) (n := (min kh (min (kh + (min x (lo + 1))) gl))) (by omega) (by omega) (by omega)) (fun _ _ => rfl) (by decide) (Nat.le_of_ble_eq_true rfl) d_Reg_pop_152 (fun H locs hP hD hS => ?_)
          have hP : va_P K.1 mx_cl [(rg, .inr (2, [.int (nI (d - (kh + 1))), .int (nI lo), .int (nI gl), .ref ge, .ref sp, .ref sk])), (ge, .inl (K.2.1.1, 256, .inr (.inl (va_cpy fk f_39 (nI (d - (kh + 1))).toNatClampNeg (nI 0).toNatClampNeg (nI (min kh (min (kh + (min x (lo + 1))) gl))).toNatClampNeg)))), (sp, .inl (K.2.1.1, 28, .inr (.inl fp))), (sk, .inl (K.2.1.1, 300, .inr (.inl fk)))] H := hP
          have hD : va_D A [(rg, .inr (2, [.int (nI (d - (kh + 1))), .int (nI lo), .int (nI gl), .ref ge, .ref sp, .ref sk])), (ge, .inl (K.2.1.1, 256, .inr (.inl (va_cpy fk f_39 (nI (d - (kh + 1))).toNatClampNeg (nI 0).toNatClampNeg (nI (min kh (min (kh + (min x (lo + 1))) gl))).toNatClampNeg)))), (sp, .inl (K.2.1.1, 28, .inr (.inl fp))), (sk, .inl (K.2.1.1, 300, .inr (.inl fk)))] := hD
          generalize ef_44 : va_cpy fk f_39 (nI (d - (kh + 1))).toNatClampNeg (nI 0).toNatClampNeg (nI (min kh (min (kh + (min x (lo + 1))) gl))).toNatClampNeg = f_44 at hP hD
          refine lv_aload_n hx hb d_Reg_pop_155 rfl (lv_at hl 4 rfl) ?_
          refine lv_iload hx hb d_Reg_pop_156 (lv_at hl 0 rfl) ?_
          refine lv_aload_n hx hb d_Reg_pop_158 rfl (lv_at hl 4 rfl) ?_
          refine va_get (D := K.1) (ci := 2) (v := .int (nI lo)) (C := R_Reg) (T := T_Reg) (N := 6) hx hb hT in_Reg hown hK hP 0 rfl rfl 1 (by decide) (hT _ k_53) (fun _ h9 => h9) rfl d_Reg_pop_159 ?_
          refine mx_cv (wr := [(sp, .inl (K.2.1.1, 28, .inr (.inl fp))), (sk, .inl (K.2.1.1, 300, .inr (.inl fk)))]) F (mx_runV (As := [.int (nI (min (kh + (min x (lo + 1))) gl)), .int (nI lo)]) (rest := []) (n := 2) F (s_Reg_clearFrom l K rg (min (kh + (min x (lo + 1))) gl) (nI lo) ge sp sk f_44 (d - (kh + 1)) lo gl H.size (by omega)) k_704 (Or.inl k_701) k_703 sl_Reg_clearFrom k_3 p_Reg_clearFrom rfl rfl hP hD hS [0, 1] rfl (by decide) (va_recv (q := (R_Reg, T_Reg, 6)) (ci := 2) (q0 := 0) hK hP rfl rfl) rfl hl.1 rfl (Nat.le_of_ble_eq_true rfl) ⟨by decide, by decide⟩ ⟨by decide, by decide⟩ d_Reg_pop_162) hP hD hS [0, 1] [2, 3] rfl rfl (by decide) (by decide) (fun u_46 H locs hq_45 hP hD hS => ?_)
          obtain ⟨w_48, rfl⟩ := hq_45
          have hP : va_P K.1 mx_cl [(sp, .inl (K.2.1.1, 28, .inr (.inl fp))), (sk, .inl (K.2.1.1, 300, .inr (.inl fk))), (rg, .inr (2, [.int (nI (d - (kh + 1))), .int (nI lo), .int (nI gl), .ref ge, .ref sp, .ref sk])), (ge, .inl (K.2.1.1, 256, .inr (.inl w_48)))] H := hP
          have hD : va_D A [(sp, .inl (K.2.1.1, 28, .inr (.inl fp))), (sk, .inl (K.2.1.1, 300, .inr (.inl fk))), (rg, .inr (2, [.int (nI (d - (kh + 1))), .int (nI lo), .int (nI gl), .ref ge, .ref sp, .ref sk])), (ge, .inl (K.2.1.1, 256, .inr (.inl w_48)))] := hD
          refine W.cs (cells' := 0) (slots' := 0) rfl rfl ?_
          refine lv_aload_n hx hb d_Reg_pop_165 rfl (lv_at hl 4 rfl) ?_
          refine lv_iload hx hb d_Reg_pop_166 (lv_at hl 0 rfl) ?_
          refine va_put (D := K.1) (ci := 2) (v := .int (nI (min (kh + (min x (lo + 1))) gl))) (ty := .int) (C := R_Reg) (T := T_Reg) (N := 6) hx hb hT in_Reg t_Reg t_Reg_ok n_Reg hown hK hP hD hS 2 rfl rfl 1 (by decide) (hT _ k_53) (fun _ h9 => h9) rfl (by decide +kernel) rfl rfl (Nat.le_of_ble_eq_true rfl) d_Reg_pop_168 (fun H locs hP hD hS => ?_)
          have hP : va_P K.1 mx_cl [(sp, .inl (K.2.1.1, 28, .inr (.inl fp))), (sk, .inl (K.2.1.1, 300, .inr (.inl fk))), (rg, .inr (2, [.int (nI (d - (kh + 1))), .int (nI (min (kh + (min x (lo + 1))) gl)), .int (nI gl), .ref ge, .ref sp, .ref sk])), (ge, .inl (K.2.1.1, 256, .inr (.inl w_48)))] H := hP
          have hD : va_D A [(sp, .inl (K.2.1.1, 28, .inr (.inl fp))), (sk, .inl (K.2.1.1, 300, .inr (.inl fk))), (rg, .inr (2, [.int (nI (d - (kh + 1))), .int (nI (min (kh + (min x (lo + 1))) gl)), .int (nI gl), .ref ge, .ref sp, .ref sk])), (ge, .inl (K.2.1.1, 256, .inr (.inl w_48)))] := hD
          refine lv_iconst (v := 1) hx hb d_Reg_pop_171 (by decide) ?_
          exact mx_ri F hr hlk (by decide) hP hD hS [(rg, .inr (2, [.int (nI (d - (kh + 1))), .int (nI (min (kh + (min x (lo + 1))) gl)), .int (nI gl), .ref ge, .ref sp, .ref sk])), (ge, .inl (K.2.1.1, 256, .inr (.inl w_48))), (sp, .inl (K.2.1.1, 28, .inr (.inl fp))), (sk, .inl (K.2.1.1, 300, .inr (.inl fk)))] [2, 3, 0, 1] rfl (by decide) ⟨(Or.inr rfl), ⟨(d - (kh + 1)), (min (kh + (min x (lo + 1))) gl), gl, w_48, fp, fk, (by first | assumption | omega | exact mx_ch_0), (by first | assumption | omega | exact mx_ch_0), (by first | assumption | omega | exact mx_ch_0), (by rw [show d - (kh + 1) = d - kh - 1 by omega]; exact hkc), rfl⟩⟩ (by decide) (by decide) d_Reg_pop_172
        · have h_40n := mx_fNle (a := (min (kh + (min x (lo + 1))) gl)) (b := kh) (by omega) (by omega) h_40
          refine lv_aload_n hx hb d_Reg_pop_124 rfl (lv_at hl 4 rfl) ?_
          refine va_get (D := K.1) (ci := 2) (v := .ref ge) (C := R_Reg) (T := T_Reg) (N := 6) hx hb hT in_Reg hown hK hP 0 rfl rfl 3 (by decide) (hT _ k_48) (fun _ h9 => h9) rfl d_Reg_pop_125 ?_
          refine lv_iload hx hb d_Reg_pop_128 (lv_at hl 1 rfl) ?_
          refine lv_lload_n hx hb d_Reg_pop_130 rfl (lv_at hl 2 rfl) ?_
          refine va_last hx hb hK hP hD hS 1 0 rfl rfl (i := nI kh) (x := 0) (vp_in_nI (n := kh) (N := 256) (by omega) (by decide)) d_Reg_pop_131 (fun H locs hP hD hS => ?_)
          have hP : va_P K.1 mx_cl [(rg, .inr (2, [.int (nI (d - (kh + 1))), .int (nI lo), .int (nI gl), .ref ge, .ref sp, .ref sk])), (ge, .inl (K.2.1.1, 256, .inr (.inl (vp_updL f_39 (nI kh).toNatClampNeg 0)))), (sp, .inl (K.2.1.1, 28, .inr (.inl fp))), (sk, .inl (K.2.1.1, 300, .inr (.inl fk)))] H := hP
          have hD : va_D A [(rg, .inr (2, [.int (nI (d - (kh + 1))), .int (nI lo), .int (nI gl), .ref ge, .ref sp, .ref sk])), (ge, .inl (K.2.1.1, 256, .inr (.inl (vp_updL f_39 (nI kh).toNatClampNeg 0)))), (sp, .inl (K.2.1.1, 28, .inr (.inl fp))), (sk, .inl (K.2.1.1, 300, .inr (.inl fk)))] := hD
          generalize ef_50 : vp_updL f_39 (nI kh).toNatClampNeg 0 = f_50 at hP hD
          refine lv_aload_n hx hb d_Reg_pop_132 rfl (lv_at hl 4 rfl) ?_
          refine va_get (D := K.1) (ci := 2) (v := .ref sk) (C := R_Reg) (T := T_Reg) (N := 6) hx hb hT in_Reg hown hK hP 0 rfl rfl 5 (by decide) (hT _ k_50) (fun _ h9 => h9) rfl d_Reg_pop_133 ?_
          refine lv_aload_n hx hb d_Reg_pop_136 rfl (lv_at hl 4 rfl) ?_
          refine va_get (D := K.1) (ci := 2) (v := .int (nI (d - (kh + 1)))) (C := R_Reg) (T := T_Reg) (N := 6) hx hb hT in_Reg hown hK hP 0 rfl rfl 0 (by decide) (hT _ k_51) (fun _ h9 => h9) rfl d_Reg_pop_137 ?_
          refine lv_aload_n hx hb d_Reg_pop_140 rfl (lv_at hl 4 rfl) ?_
          refine va_get (D := K.1) (ci := 2) (v := .ref ge) (C := R_Reg) (T := T_Reg) (N := 6) hx hb hT in_Reg hown hK hP 0 rfl rfl 3 (by decide) (hT _ k_48) (fun _ h9 => h9) rfl d_Reg_pop_141 ?_
          refine lv_iconst (v := 0) hx hb d_Reg_pop_144 (by decide) ?_
          refine lv_iload hx hb d_Reg_pop_145 (lv_at hl 1 rfl) ?_
          refine lv_iload hx hb d_Reg_pop_147 (lv_at hl 0 rfl) ?_
          refine mx_ci (wr := [(rg, .inr (2, [.int (nI (d - (kh + 1))), .int (nI lo), .int (nI gl), .ref ge, .ref sp, .ref sk])), (ge, .inl (K.2.1.1, 256, .inr (.inl f_50))), (sp, .inl (K.2.1.1, 28, .inr (.inl fp))), (sk, .inl (K.2.1.1, 300, .inr (.inl fk)))]) F (mx_runS (As := [.int (nI kh), .int (nI (min (kh + (min x (lo + 1))) gl))]) (rest := [.int 0, .ref ge, .int (nI (d - (kh + 1))), .ref sk]) (n := 2) F (s_Math_min l K (nI kh) (nI (min (kh + (min x (lo + 1))) gl)) H.size) k_510 (Or.inl k_837) k_509 k_17 p_Math_min rfl rfl hP hD hS [] rfl (by decide)  rfl hl.1 rfl (Nat.le_of_ble_eq_true rfl) ⟨by decide, by decide⟩ ⟨by decide, by decide⟩ d_Reg_pop_149) hP hD hS [] [0, 1, 2, 3] rfl rfl (by decide) (by decide) (fun r_52 _ H locs hq_51 hP hD hS => ?_)
          obtain rfl : r_52 = mx_min (nI kh) (nI (min (kh + (min x (lo + 1))) gl)) := hq_51
          have hP : va_P K.1 mx_cl [(rg, .inr (2, [.int (nI (d - (kh + 1))), .int (nI lo), .int (nI gl), .ref ge, .ref sp, .ref sk])), (ge, .inl (K.2.1.1, 256, .inr (.inl f_50))), (sp, .inl (K.2.1.1, 28, .inr (.inl fp))), (sk, .inl (K.2.1.1, 300, .inr (.inl fk)))] H := hP
          have hD : va_D A [(rg, .inr (2, [.int (nI (d - (kh + 1))), .int (nI lo), .int (nI gl), .ref ge, .ref sp, .ref sk])), (ge, .inl (K.2.1.1, 256, .inr (.inl f_50))), (sp, .inl (K.2.1.1, 28, .inr (.inl fp))), (sk, .inl (K.2.1.1, 300, .inr (.inl fk)))] := hD
          refine W.cs (cells' := 0) (slots' := 0) rfl rfl ?_
          refine lv_topi (fun z_53 ez_53 => ?_)
          obtain rfl : z_53 = nI (min kh (min (kh + (min x (lo + 1))) gl)) := ez_53.trans (mx_minN (by omega) (by omega))
          refine va_copyl hx hb (by rw [hml]; exact hl.1.symm) hown (hT _ k_804) (hT _ k_692) (hT _ k_691) (hT _ k_19) hK hP hD hS 3 1 0 0 rfl rfl rfl rfl rfl (nI_pos (n := (d - (kh + 1))) (by omega)) (nI_pos (n := 0) (by omega)) (nI_pos (n := (min kh (min (kh + (min x (lo + 1))) gl))) (by omega)) (mx_cp (a := (d - (kh + 1))) (n := (min kh (min (kh + (min x (lo + 1))) gl))) (by omega) (by omega) (by omega)) (mx_cp (a := 0) (n := (min kh (min (kh + (min x (lo + 1))) gl))) (by omega) (by omega) (by omega)) (fun _ _ => rfl) (by decide) (Nat.le_of_ble_eq_true rfl) d_Reg_pop_152 (fun H locs hP hD hS => ?_)
          have hP : va_P K.1 mx_cl [(rg, .inr (2, [.int (nI (d - (kh + 1))), .int (nI lo), .int (nI gl), .ref ge, .ref sp, .ref sk])), (ge, .inl (K.2.1.1, 256, .inr (.inl (va_cpy fk f_50 (nI (d - (kh + 1))).toNatClampNeg (nI 0).toNatClampNeg (nI (min kh (min (kh + (min x (lo + 1))) gl))).toNatClampNeg)))), (sp, .inl (K.2.1.1, 28, .inr (.inl fp))), (sk, .inl (K.2.1.1, 300, .inr (.inl fk)))] H := hP
          have hD : va_D A [(rg, .inr (2, [.int (nI (d - (kh + 1))), .int (nI lo), .int (nI gl), .ref ge, .ref sp, .ref sk])), (ge, .inl (K.2.1.1, 256, .inr (.inl (va_cpy fk f_50 (nI (d - (kh + 1))).toNatClampNeg (nI 0).toNatClampNeg (nI (min kh (min (kh + (min x (lo + 1))) gl))).toNatClampNeg)))), (sp, .inl (K.2.1.1, 28, .inr (.inl fp))), (sk, .inl (K.2.1.1, 300, .inr (.inl fk)))] := hD
          generalize ef_54 : va_cpy fk f_50 (nI (d - (kh + 1))).toNatClampNeg (nI 0).toNatClampNeg (nI (min kh (min (kh + (min x (lo + 1))) gl))).toNatClampNeg = f_54 at hP hD
          refine lv_aload_n hx hb d_Reg_pop_155 rfl (lv_at hl 4 rfl) ?_
          refine lv_iload hx hb d_Reg_pop_156 (lv_at hl 0 rfl) ?_
          refine lv_aload_n hx hb d_Reg_pop_158 rfl (lv_at hl 4 rfl) ?_
          refine va_get (D := K.1) (ci := 2) (v := .int (nI lo)) (C := R_Reg) (T := T_Reg) (N := 6) hx hb hT in_Reg hown hK hP 0 rfl rfl 1 (by decide) (hT _ k_53) (fun _ h9 => h9) rfl d_Reg_pop_159 ?_
          refine mx_cv (wr := [(sp, .inl (K.2.1.1, 28, .inr (.inl fp))), (sk, .inl (K.2.1.1, 300, .inr (.inl fk)))]) F (mx_runV (As := [.int (nI (min (kh + (min x (lo + 1))) gl)), .int (nI lo)]) (rest := []) (n := 2) F (s_Reg_clearFrom l K rg (min (kh + (min x (lo + 1))) gl) (nI lo) ge sp sk f_54 (d - (kh + 1)) lo gl H.size (by omega)) k_704 (Or.inl k_701) k_703 sl_Reg_clearFrom k_3 p_Reg_clearFrom rfl rfl hP hD hS [0, 1] rfl (by decide) (va_recv (q := (R_Reg, T_Reg, 6)) (ci := 2) (q0 := 0) hK hP rfl rfl) rfl hl.1 rfl (Nat.le_of_ble_eq_true rfl) ⟨by decide, by decide⟩ ⟨by decide, by decide⟩ d_Reg_pop_162) hP hD hS [0, 1] [2, 3] rfl rfl (by decide) (by decide) (fun u_56 H locs hq_55 hP hD hS => ?_)
          obtain ⟨w_58, rfl⟩ := hq_55
          have hP : va_P K.1 mx_cl [(sp, .inl (K.2.1.1, 28, .inr (.inl fp))), (sk, .inl (K.2.1.1, 300, .inr (.inl fk))), (rg, .inr (2, [.int (nI (d - (kh + 1))), .int (nI lo), .int (nI gl), .ref ge, .ref sp, .ref sk])), (ge, .inl (K.2.1.1, 256, .inr (.inl w_58)))] H := hP
          have hD : va_D A [(sp, .inl (K.2.1.1, 28, .inr (.inl fp))), (sk, .inl (K.2.1.1, 300, .inr (.inl fk))), (rg, .inr (2, [.int (nI (d - (kh + 1))), .int (nI lo), .int (nI gl), .ref ge, .ref sp, .ref sk])), (ge, .inl (K.2.1.1, 256, .inr (.inl w_58)))] := hD
          refine W.cs (cells' := 0) (slots' := 0) rfl rfl ?_
          refine lv_aload_n hx hb d_Reg_pop_165 rfl (lv_at hl 4 rfl) ?_
          refine lv_iload hx hb d_Reg_pop_166 (lv_at hl 0 rfl) ?_
          refine va_put (D := K.1) (ci := 2) (v := .int (nI (min (kh + (min x (lo + 1))) gl))) (ty := .int) (C := R_Reg) (T := T_Reg) (N := 6) hx hb hT in_Reg t_Reg t_Reg_ok n_Reg hown hK hP hD hS 2 rfl rfl 1 (by decide) (hT _ k_53) (fun _ h9 => h9) rfl (by decide +kernel) rfl rfl (Nat.le_of_ble_eq_true rfl) d_Reg_pop_168 (fun H locs hP hD hS => ?_)
          have hP : va_P K.1 mx_cl [(sp, .inl (K.2.1.1, 28, .inr (.inl fp))), (sk, .inl (K.2.1.1, 300, .inr (.inl fk))), (rg, .inr (2, [.int (nI (d - (kh + 1))), .int (nI (min (kh + (min x (lo + 1))) gl)), .int (nI gl), .ref ge, .ref sp, .ref sk])), (ge, .inl (K.2.1.1, 256, .inr (.inl w_58)))] H := hP
          have hD : va_D A [(sp, .inl (K.2.1.1, 28, .inr (.inl fp))), (sk, .inl (K.2.1.1, 300, .inr (.inl fk))), (rg, .inr (2, [.int (nI (d - (kh + 1))), .int (nI (min (kh + (min x (lo + 1))) gl)), .int (nI gl), .ref ge, .ref sp, .ref sk])), (ge, .inl (K.2.1.1, 256, .inr (.inl w_58)))] := hD
          refine lv_iconst (v := 1) hx hb d_Reg_pop_171 (by decide) ?_
          exact mx_ri F hr hlk (by decide) hP hD hS [(rg, .inr (2, [.int (nI (d - (kh + 1))), .int (nI (min (kh + (min x (lo + 1))) gl)), .int (nI gl), .ref ge, .ref sp, .ref sk])), (ge, .inl (K.2.1.1, 256, .inr (.inl w_58))), (sp, .inl (K.2.1.1, 28, .inr (.inl fp))), (sk, .inl (K.2.1.1, 300, .inr (.inl fk)))] [2, 3, 0, 1] rfl (by decide) ⟨(Or.inr rfl), ⟨(d - (kh + 1)), (min (kh + (min x (lo + 1))) gl), gl, w_58, fp, fk, (by first | assumption | omega | exact mx_ch_0), (by first | assumption | omega | exact mx_ch_0), (by first | assumption | omega | exact mx_ch_0), (by rw [show d - (kh + 1) = d - kh - 1 by omega]; exact hkc), rfl⟩⟩ (by decide) (by decide) d_Reg_pop_172
    · have h_5n := mx_fNle (a := (min x (lo + 1))) (b := 0) (by omega) (by omega) h_5
      refine lv_iload_n hx hb d_Reg_pop_24 rfl (lv_at hl 0 rfl) ?_
      refine lv_aload_n hx hb d_Reg_pop_25 rfl (lv_at hl 1 rfl) ?_
      refine va_get (D := K.1) (ci := 2) (v := .int (nI lo)) (C := R_Reg) (T := T_Reg) (N := 6) hx hb hT in_Reg hown hK hP 0 rfl rfl 1 (by decide) (hT _ k_53) (fun _ h9 => h9) rfl d_Reg_pop_26 ?_
      refine lv_icmp_gt (tgt := 43) hx hb d_Reg_pop_29 (by decide) (fun h_60 => ?_) (fun h_60 => ?_)
      · have h_60n := mx_fLt (a := lo) (b := (min x (lo + 1))) (by omega) (by omega) h_60
        refine lv_lconst (v := 0) hx hb d_Reg_pop_43 (by decide) ?_
        refine lv_lstore_n (lv' := [(3, .long 0), (2, .int (nI (min x (lo + 1)))), (0, .ref rg), (1, .int (nI x))]) hx hb d_Reg_pop_44 rfl hl (by decide) rfl (fun ls hl => ?_)
        refine lv_aload_n hx hb d_Reg_pop_45 rfl (lv_at hl 2 rfl) ?_
        refine va_get (D := K.1) (ci := 2) (v := .ref sk) (C := R_Reg) (T := T_Reg) (N := 6) hx hb hT in_Reg hown hK hP 0 rfl rfl 5 (by decide) (hT _ k_50) (fun _ h9 => h9) rfl d_Reg_pop_46 ?_
        refine lv_aload_n hx hb d_Reg_pop_49 rfl (lv_at hl 2 rfl) ?_
        refine va_get (D := K.1) (ci := 2) (v := .int (nI d)) (C := R_Reg) (T := T_Reg) (N := 6) hx hb hT in_Reg hown hK hP 0 rfl rfl 0 (by decide) (hT _ k_51) (fun _ h9 => h9) rfl d_Reg_pop_50 ?_
        refine lv_iconst (v := 1) hx hb d_Reg_pop_53 (by decide) ?_
        refine lv_isub hx hb d_Reg_pop_54 ?_
        refine lv_topi (fun z_61 ez_61 => ?_)
        obtain rfl : z_61 = nI (d - 1) := ez_61.trans (pk_sub (a := d) (b := 1) (by omega))
        refine va_lald hx hb hK hP 3 0 rfl rfl (i := nI (d - 1)) (vp_in_nI (n := (d - 1)) (N := 300) (by omega) (by decide)) d_Reg_pop_55 ?_
        refine lv_topl (fun z_62 ez_62 => ?_)
        obtain rfl : z_62 = lN kh := ez_62.trans (by rw [nI_clamp (by omega)]; exact hkf)
        refine lv_l2i (v := nI kh) hx hb d_Reg_pop_56 (lN_i _) ?_
        refine lv_istore (lv' := [(5, .int (nI kh)), (3, .long 0), (2, .int (nI (min x (lo + 1)))), (0, .ref rg), (1, .int (nI x))]) hx hb d_Reg_pop_57 hl (by decide) rfl (fun ls hl => ?_)
        refine lv_aload_n hx hb d_Reg_pop_59 rfl (lv_at hl 3 rfl) ?_
        refine lv_dup hx hb d_Reg_pop_60 rfl ?_
        refine va_get (D := K.1) (ci := 2) (v := .int (nI d)) (C := R_Reg) (T := T_Reg) (N := 6) hx hb hT in_Reg hown hK hP 0 rfl rfl 0 (by decide) (hT _ k_51) (fun _ h9 => h9) rfl d_Reg_pop_61 ?_
        refine lv_iload hx hb d_Reg_pop_64 (lv_at hl 0 rfl) ?_
        refine lv_iconst (v := 1) hx hb d_Reg_pop_66 (by decide) ?_
        refine lv_iadd hx hb d_Reg_pop_67 ?_
        refine lv_topi (fun z_63 ez_63 => ?_)
        obtain rfl : z_63 = nI (kh + 1) := ez_63.trans (nI_add kh 1)
        refine lv_isub hx hb d_Reg_pop_68 ?_
        refine lv_topi (fun z_64 ez_64 => ?_)
        obtain rfl : z_64 = nI (d - (kh + 1)) := ez_64.trans (pk_sub (a := d) (b := (kh + 1)) (by omega))
        refine va_put (D := K.1) (ci := 2) (v := .int (nI (d - (kh + 1)))) (ty := .int) (C := R_Reg) (T := T_Reg) (N := 6) hx hb hT in_Reg t_Reg t_Reg_ok n_Reg hown hK hP hD hS 0 rfl rfl 0 (by decide) (hT _ k_51) (fun _ h9 => h9) rfl (by decide +kernel) rfl rfl (Nat.le_of_ble_eq_true rfl) d_Reg_pop_69 (fun H locs hP hD hS => ?_)
        have hP : va_P K.1 mx_cl [(rg, .inr (2, [.int (nI (d - (kh + 1))), .int (nI lo), .int (nI gl), .ref ge, .ref sp, .ref sk])), (ge, .inl (K.2.1.1, 256, .inr (.inl fg))), (sp, .inl (K.2.1.1, 28, .inr (.inl fp))), (sk, .inl (K.2.1.1, 300, .inr (.inl fk)))] H := hP
        have hD : va_D A [(rg, .inr (2, [.int (nI (d - (kh + 1))), .int (nI lo), .int (nI gl), .ref ge, .ref sp, .ref sk])), (ge, .inl (K.2.1.1, 256, .inr (.inl fg))), (sp, .inl (K.2.1.1, 28, .inr (.inl fp))), (sk, .inl (K.2.1.1, 300, .inr (.inl fk)))] := hD
        refine lv_iload hx hb d_Reg_pop_72 (lv_at hl 0 rfl) ?_
        refine lv_iload_n hx hb d_Reg_pop_74 rfl (lv_at hl 2 rfl) ?_
        refine lv_iadd hx hb d_Reg_pop_75 ?_
        refine lv_topi (fun z_65 ez_65 => ?_)
        obtain rfl : z_65 = nI (kh + (min x (lo + 1))) := ez_65.trans (nI_add kh (min x (lo + 1)))
        refine lv_aload_n hx hb d_Reg_pop_76 rfl (lv_at hl 3 rfl) ?_
        refine va_get (D := K.1) (ci := 2) (v := .int (nI gl)) (C := R_Reg) (T := T_Reg) (N := 6) hx hb hT in_Reg hown hK hP 0 rfl rfl 2 (by decide) (hT _ k_54) (fun _ h9 => h9) rfl d_Reg_pop_77 ?_
        refine mx_ci (wr := [(rg, .inr (2, [.int (nI (d - (kh + 1))), .int (nI lo), .int (nI gl), .ref ge, .ref sp, .ref sk])), (ge, .inl (K.2.1.1, 256, .inr (.inl fg))), (sp, .inl (K.2.1.1, 28, .inr (.inl fp))), (sk, .inl (K.2.1.1, 300, .inr (.inl fk)))]) F (mx_runS (As := [.int (nI (kh + (min x (lo + 1)))), .int (nI gl)]) (rest := []) (n := 2) F (s_Math_min l K (nI (kh + (min x (lo + 1)))) (nI gl) H.size) k_510 (Or.inl k_837) k_509 k_17 p_Math_min rfl rfl hP hD hS [] rfl (by decide)  rfl hl.1 rfl (Nat.le_of_ble_eq_true rfl) ⟨by decide, by decide⟩ ⟨by decide, by decide⟩ d_Reg_pop_80) hP hD hS [] [0, 1, 2, 3] rfl rfl (by decide) (by decide) (fun r_67 _ H locs hq_66 hP hD hS => ?_)
        obtain rfl : r_67 = mx_min (nI (kh + (min x (lo + 1)))) (nI gl) := hq_66
        have hP : va_P K.1 mx_cl [(rg, .inr (2, [.int (nI (d - (kh + 1))), .int (nI lo), .int (nI gl), .ref ge, .ref sp, .ref sk])), (ge, .inl (K.2.1.1, 256, .inr (.inl fg))), (sp, .inl (K.2.1.1, 28, .inr (.inl fp))), (sk, .inl (K.2.1.1, 300, .inr (.inl fk)))] H := hP
        have hD : va_D A [(rg, .inr (2, [.int (nI (d - (kh + 1))), .int (nI lo), .int (nI gl), .ref ge, .ref sp, .ref sk])), (ge, .inl (K.2.1.1, 256, .inr (.inl fg))), (sp, .inl (K.2.1.1, 28, .inr (.inl fp))), (sk, .inl (K.2.1.1, 300, .inr (.inl fk)))] := hD
        refine W.cs (cells' := 0) (slots' := 0) rfl rfl ?_
        refine lv_topi (fun z_68 ez_68 => ?_)
        obtain rfl : z_68 = nI (min (kh + (min x (lo + 1))) gl) := ez_68.trans (mx_minN (by omega) (by omega))
        refine lv_istore (lv' := [(6, .int (nI (min (kh + (min x (lo + 1))) gl))), (5, .int (nI kh)), (3, .long 0), (2, .int (nI (min x (lo + 1)))), (0, .ref rg), (1, .int (nI x))]) hx hb d_Reg_pop_83 hl (by decide) rfl (fun ls hl => ?_)
        refine lv_iload hx hb d_Reg_pop_85 (lv_at hl 0 rfl) ?_
        refine lv_iload hx hb d_Reg_pop_87 (lv_at hl 1 rfl) ?_
        refine lv_iconst (v := 1) hx hb d_Reg_pop_89 (by decide) ?_
        refine lv_iadd hx hb d_Reg_pop_90 ?_
        refine lv_topi (fun z_69 ez_69 => ?_)
        obtain rfl : z_69 = nI (kh + 1) := ez_69.trans (nI_add kh 1)
        refine lv_icmp_le (tgt := 117) hx hb d_Reg_pop_91 (by decide) (fun h_70 => ?_) (fun h_70 => ?_)
        · have h_70n := mx_fLe (a := (min (kh + (min x (lo + 1))) gl)) (b := (kh + 1)) (by omega) (by omega) h_70
          refine lv_iload hx hb d_Reg_pop_117 (lv_at hl 0 rfl) ?_
          refine lv_iload hx hb d_Reg_pop_119 (lv_at hl 1 rfl) ?_
          refine lv_icmp_le (tgt := 132) hx hb d_Reg_pop_121 (by decide) (fun h_71 => ?_) (fun h_71 => ?_)
          · have h_71n := mx_fLe (a := (min (kh + (min x (lo + 1))) gl)) (b := kh) (by omega) (by omega) h_71
            refine lv_aload_n hx hb d_Reg_pop_132 rfl (lv_at hl 4 rfl) ?_
            refine va_get (D := K.1) (ci := 2) (v := .ref sk) (C := R_Reg) (T := T_Reg) (N := 6) hx hb hT in_Reg hown hK hP 0 rfl rfl 5 (by decide) (hT _ k_50) (fun _ h9 => h9) rfl d_Reg_pop_133 ?_
            refine lv_aload_n hx hb d_Reg_pop_136 rfl (lv_at hl 4 rfl) ?_
            refine va_get (D := K.1) (ci := 2) (v := .int (nI (d - (kh + 1)))) (C := R_Reg) (T := T_Reg) (N := 6) hx hb hT in_Reg hown hK hP 0 rfl rfl 0 (by decide) (hT _ k_51) (fun _ h9 => h9) rfl d_Reg_pop_137 ?_
            refine lv_aload_n hx hb d_Reg_pop_140 rfl (lv_at hl 4 rfl) ?_
            refine va_get (D := K.1) (ci := 2) (v := .ref ge) (C := R_Reg) (T := T_Reg) (N := 6) hx hb hT in_Reg hown hK hP 0 rfl rfl 3 (by decide) (hT _ k_48) (fun _ h9 => h9) rfl d_Reg_pop_141 ?_
            refine lv_iconst (v := 0) hx hb d_Reg_pop_144 (by decide) ?_
            refine lv_iload hx hb d_Reg_pop_145 (lv_at hl 1 rfl) ?_
            refine lv_iload hx hb d_Reg_pop_147 (lv_at hl 0 rfl) ?_
            refine mx_ci (wr := [(rg, .inr (2, [.int (nI (d - (kh + 1))), .int (nI lo), .int (nI gl), .ref ge, .ref sp, .ref sk])), (ge, .inl (K.2.1.1, 256, .inr (.inl fg))), (sp, .inl (K.2.1.1, 28, .inr (.inl fp))), (sk, .inl (K.2.1.1, 300, .inr (.inl fk)))]) F (mx_runS (As := [.int (nI kh), .int (nI (min (kh + (min x (lo + 1))) gl))]) (rest := [.int 0, .ref ge, .int (nI (d - (kh + 1))), .ref sk]) (n := 2) F (s_Math_min l K (nI kh) (nI (min (kh + (min x (lo + 1))) gl)) H.size) k_510 (Or.inl k_837) k_509 k_17 p_Math_min rfl rfl hP hD hS [] rfl (by decide)  rfl hl.1 rfl (Nat.le_of_ble_eq_true rfl) ⟨by decide, by decide⟩ ⟨by decide, by decide⟩ d_Reg_pop_149) hP hD hS [] [0, 1, 2, 3] rfl rfl (by decide) (by decide) (fun r_73 _ H locs hq_72 hP hD hS => ?_)
            obtain rfl : r_73 = mx_min (nI kh) (nI (min (kh + (min x (lo + 1))) gl)) := hq_72
            have hP : va_P K.1 mx_cl [(rg, .inr (2, [.int (nI (d - (kh + 1))), .int (nI lo), .int (nI gl), .ref ge, .ref sp, .ref sk])), (ge, .inl (K.2.1.1, 256, .inr (.inl fg))), (sp, .inl (K.2.1.1, 28, .inr (.inl fp))), (sk, .inl (K.2.1.1, 300, .inr (.inl fk)))] H := hP
            have hD : va_D A [(rg, .inr (2, [.int (nI (d - (kh + 1))), .int (nI lo), .int (nI gl), .ref ge, .ref sp, .ref sk])), (ge, .inl (K.2.1.1, 256, .inr (.inl fg))), (sp, .inl (K.2.1.1, 28, .inr (.inl fp))), (sk, .inl (K.2.1.1, 300, .inr (.inl fk)))] := hD
            refine W.cs (cells' := 0) (slots' := 0) rfl rfl ?_
            refine lv_topi (fun z_74 ez_74 => ?_)
            obtain rfl : z_74 = nI (min kh (min (kh + (min x (lo + 1))) gl)) := ez_74.trans (mx_minN (by omega) (by omega))
            refine va_copyl hx hb (by rw [hml]; exact hl.1.symm) hown (hT _ k_804) (hT _ k_692) (hT _ k_691) (hT _ k_19) hK hP hD hS 3 1 0 0 rfl rfl rfl rfl rfl (nI_pos (n := (d - (kh + 1))) (by omega)) (nI_pos (n := 0) (by omega)) (nI_pos (n := (min kh (min (kh + (min x (lo + 1))) gl))) (by omega)) (mx_cp (a := (d - (kh + 1))) (n := (min kh (min (kh + (min x (lo + 1))) gl))) (by omega) (by omega) (by omega)) (mx_cp (a := 0) (n := (min kh (min (kh + (min x (lo + 1))) gl))) (by omega) (by omega) (by omega)) (fun _ _ => rfl) (by decide) (Nat.le_of_ble_eq_true rfl) d_Reg_pop_152 (fun H locs hP hD hS => ?_)
            have hP : va_P K.1 mx_cl [(rg, .inr (2, [.int (nI (d - (kh + 1))), .int (nI lo), .int (nI gl), .ref ge, .ref sp, .ref sk])), (ge, .inl (K.2.1.1, 256, .inr (.inl (va_cpy fk fg (nI (d - (kh + 1))).toNatClampNeg (nI 0).toNatClampNeg (nI (min kh (min (kh + (min x (lo + 1))) gl))).toNatClampNeg)))), (sp, .inl (K.2.1.1, 28, .inr (.inl fp))), (sk, .inl (K.2.1.1, 300, .inr (.inl fk)))] H := hP
            have hD : va_D A [(rg, .inr (2, [.int (nI (d - (kh + 1))), .int (nI lo), .int (nI gl), .ref ge, .ref sp, .ref sk])), (ge, .inl (K.2.1.1, 256, .inr (.inl (va_cpy fk fg (nI (d - (kh + 1))).toNatClampNeg (nI 0).toNatClampNeg (nI (min kh (min (kh + (min x (lo + 1))) gl))).toNatClampNeg)))), (sp, .inl (K.2.1.1, 28, .inr (.inl fp))), (sk, .inl (K.2.1.1, 300, .inr (.inl fk)))] := hD
            generalize ef_75 : va_cpy fk fg (nI (d - (kh + 1))).toNatClampNeg (nI 0).toNatClampNeg (nI (min kh (min (kh + (min x (lo + 1))) gl))).toNatClampNeg = f_75 at hP hD
            refine lv_aload_n hx hb d_Reg_pop_155 rfl (lv_at hl 4 rfl) ?_
            refine lv_iload hx hb d_Reg_pop_156 (lv_at hl 0 rfl) ?_
            refine lv_aload_n hx hb d_Reg_pop_158 rfl (lv_at hl 4 rfl) ?_
            refine va_get (D := K.1) (ci := 2) (v := .int (nI lo)) (C := R_Reg) (T := T_Reg) (N := 6) hx hb hT in_Reg hown hK hP 0 rfl rfl 1 (by decide) (hT _ k_53) (fun _ h9 => h9) rfl d_Reg_pop_159 ?_
            refine mx_cv (wr := [(sp, .inl (K.2.1.1, 28, .inr (.inl fp))), (sk, .inl (K.2.1.1, 300, .inr (.inl fk)))]) F (mx_runV (As := [.int (nI (min (kh + (min x (lo + 1))) gl)), .int (nI lo)]) (rest := []) (n := 2) F (s_Reg_clearFrom l K rg (min (kh + (min x (lo + 1))) gl) (nI lo) ge sp sk f_75 (d - (kh + 1)) lo gl H.size (by omega)) k_704 (Or.inl k_701) k_703 sl_Reg_clearFrom k_3 p_Reg_clearFrom rfl rfl hP hD hS [0, 1] rfl (by decide) (va_recv (q := (R_Reg, T_Reg, 6)) (ci := 2) (q0 := 0) hK hP rfl rfl) rfl hl.1 rfl (Nat.le_of_ble_eq_true rfl) ⟨by decide, by decide⟩ ⟨by decide, by decide⟩ d_Reg_pop_162) hP hD hS [0, 1] [2, 3] rfl rfl (by decide) (by decide) (fun u_77 H locs hq_76 hP hD hS => ?_)
            obtain ⟨w_79, rfl⟩ := hq_76
            have hP : va_P K.1 mx_cl [(sp, .inl (K.2.1.1, 28, .inr (.inl fp))), (sk, .inl (K.2.1.1, 300, .inr (.inl fk))), (rg, .inr (2, [.int (nI (d - (kh + 1))), .int (nI lo), .int (nI gl), .ref ge, .ref sp, .ref sk])), (ge, .inl (K.2.1.1, 256, .inr (.inl w_79)))] H := hP
            have hD : va_D A [(sp, .inl (K.2.1.1, 28, .inr (.inl fp))), (sk, .inl (K.2.1.1, 300, .inr (.inl fk))), (rg, .inr (2, [.int (nI (d - (kh + 1))), .int (nI lo), .int (nI gl), .ref ge, .ref sp, .ref sk])), (ge, .inl (K.2.1.1, 256, .inr (.inl w_79)))] := hD
            refine W.cs (cells' := 0) (slots' := 0) rfl rfl ?_
            refine lv_aload_n hx hb d_Reg_pop_165 rfl (lv_at hl 4 rfl) ?_
            refine lv_iload hx hb d_Reg_pop_166 (lv_at hl 0 rfl) ?_
            refine va_put (D := K.1) (ci := 2) (v := .int (nI (min (kh + (min x (lo + 1))) gl))) (ty := .int) (C := R_Reg) (T := T_Reg) (N := 6) hx hb hT in_Reg t_Reg t_Reg_ok n_Reg hown hK hP hD hS 2 rfl rfl 1 (by decide) (hT _ k_53) (fun _ h9 => h9) rfl (by decide +kernel) rfl rfl (Nat.le_of_ble_eq_true rfl) d_Reg_pop_168 (fun H locs hP hD hS => ?_)
            have hP : va_P K.1 mx_cl [(sp, .inl (K.2.1.1, 28, .inr (.inl fp))), (sk, .inl (K.2.1.1, 300, .inr (.inl fk))), (rg, .inr (2, [.int (nI (d - (kh + 1))), .int (nI (min (kh + (min x (lo + 1))) gl)), .int (nI gl), .ref ge, .ref sp, .ref sk])), (ge, .inl (K.2.1.1, 256, .inr (.inl w_79)))] H := hP
            have hD : va_D A [(sp, .inl (K.2.1.1, 28, .inr (.inl fp))), (sk, .inl (K.2.1.1, 300, .inr (.inl fk))), (rg, .inr (2, [.int (nI (d - (kh + 1))), .int (nI (min (kh + (min x (lo + 1))) gl)), .int (nI gl), .ref ge, .ref sp, .ref sk])), (ge, .inl (K.2.1.1, 256, .inr (.inl w_79)))] := hD
            refine lv_iconst (v := 1) hx hb d_Reg_pop_171 (by decide) ?_
            exact mx_ri F hr hlk (by decide) hP hD hS [(rg, .inr (2, [.int (nI (d - (kh + 1))), .int (nI (min (kh + (min x (lo + 1))) gl)), .int (nI gl), .ref ge, .ref sp, .ref sk])), (ge, .inl (K.2.1.1, 256, .inr (.inl w_79))), (sp, .inl (K.2.1.1, 28, .inr (.inl fp))), (sk, .inl (K.2.1.1, 300, .inr (.inl fk)))] [2, 3, 0, 1] rfl (by decide) ⟨(Or.inr rfl), ⟨(d - (kh + 1)), (min (kh + (min x (lo + 1))) gl), gl, w_79, fp, fk, (by first | assumption | omega | exact mx_ch_0), (by first | assumption | omega | exact mx_ch_0), (by first | assumption | omega | exact mx_ch_0), (by rw [show d - (kh + 1) = d - kh - 1 by omega]; exact hkc), rfl⟩⟩ (by decide) (by decide) d_Reg_pop_172
          · have h_71n := mx_fNle (a := (min (kh + (min x (lo + 1))) gl)) (b := kh) (by omega) (by omega) h_71
            refine lv_aload_n hx hb d_Reg_pop_124 rfl (lv_at hl 4 rfl) ?_
            refine va_get (D := K.1) (ci := 2) (v := .ref ge) (C := R_Reg) (T := T_Reg) (N := 6) hx hb hT in_Reg hown hK hP 0 rfl rfl 3 (by decide) (hT _ k_48) (fun _ h9 => h9) rfl d_Reg_pop_125 ?_
            refine lv_iload hx hb d_Reg_pop_128 (lv_at hl 1 rfl) ?_
            refine lv_lload_n hx hb d_Reg_pop_130 rfl (lv_at hl 2 rfl) ?_
            refine va_last hx hb hK hP hD hS 1 0 rfl rfl (i := nI kh) (x := 0) (vp_in_nI (n := kh) (N := 256) (by omega) (by decide)) d_Reg_pop_131 (fun H locs hP hD hS => ?_)
            have hP : va_P K.1 mx_cl [(rg, .inr (2, [.int (nI (d - (kh + 1))), .int (nI lo), .int (nI gl), .ref ge, .ref sp, .ref sk])), (ge, .inl (K.2.1.1, 256, .inr (.inl (vp_updL fg (nI kh).toNatClampNeg 0)))), (sp, .inl (K.2.1.1, 28, .inr (.inl fp))), (sk, .inl (K.2.1.1, 300, .inr (.inl fk)))] H := hP
            have hD : va_D A [(rg, .inr (2, [.int (nI (d - (kh + 1))), .int (nI lo), .int (nI gl), .ref ge, .ref sp, .ref sk])), (ge, .inl (K.2.1.1, 256, .inr (.inl (vp_updL fg (nI kh).toNatClampNeg 0)))), (sp, .inl (K.2.1.1, 28, .inr (.inl fp))), (sk, .inl (K.2.1.1, 300, .inr (.inl fk)))] := hD
            generalize ef_81 : vp_updL fg (nI kh).toNatClampNeg 0 = f_81 at hP hD
            refine lv_aload_n hx hb d_Reg_pop_132 rfl (lv_at hl 4 rfl) ?_
            refine va_get (D := K.1) (ci := 2) (v := .ref sk) (C := R_Reg) (T := T_Reg) (N := 6) hx hb hT in_Reg hown hK hP 0 rfl rfl 5 (by decide) (hT _ k_50) (fun _ h9 => h9) rfl d_Reg_pop_133 ?_
            refine lv_aload_n hx hb d_Reg_pop_136 rfl (lv_at hl 4 rfl) ?_
            refine va_get (D := K.1) (ci := 2) (v := .int (nI (d - (kh + 1)))) (C := R_Reg) (T := T_Reg) (N := 6) hx hb hT in_Reg hown hK hP 0 rfl rfl 0 (by decide) (hT _ k_51) (fun _ h9 => h9) rfl d_Reg_pop_137 ?_
            refine lv_aload_n hx hb d_Reg_pop_140 rfl (lv_at hl 4 rfl) ?_
            refine va_get (D := K.1) (ci := 2) (v := .ref ge) (C := R_Reg) (T := T_Reg) (N := 6) hx hb hT in_Reg hown hK hP 0 rfl rfl 3 (by decide) (hT _ k_48) (fun _ h9 => h9) rfl d_Reg_pop_141 ?_
            refine lv_iconst (v := 0) hx hb d_Reg_pop_144 (by decide) ?_
            refine lv_iload hx hb d_Reg_pop_145 (lv_at hl 1 rfl) ?_
            refine lv_iload hx hb d_Reg_pop_147 (lv_at hl 0 rfl) ?_
            refine mx_ci (wr := [(rg, .inr (2, [.int (nI (d - (kh + 1))), .int (nI lo), .int (nI gl), .ref ge, .ref sp, .ref sk])), (ge, .inl (K.2.1.1, 256, .inr (.inl f_81))), (sp, .inl (K.2.1.1, 28, .inr (.inl fp))), (sk, .inl (K.2.1.1, 300, .inr (.inl fk)))]) F (mx_runS (As := [.int (nI kh), .int (nI (min (kh + (min x (lo + 1))) gl))]) (rest := [.int 0, .ref ge, .int (nI (d - (kh + 1))), .ref sk]) (n := 2) F (s_Math_min l K (nI kh) (nI (min (kh + (min x (lo + 1))) gl)) H.size) k_510 (Or.inl k_837) k_509 k_17 p_Math_min rfl rfl hP hD hS [] rfl (by decide)  rfl hl.1 rfl (Nat.le_of_ble_eq_true rfl) ⟨by decide, by decide⟩ ⟨by decide, by decide⟩ d_Reg_pop_149) hP hD hS [] [0, 1, 2, 3] rfl rfl (by decide) (by decide) (fun r_83 _ H locs hq_82 hP hD hS => ?_)
            obtain rfl : r_83 = mx_min (nI kh) (nI (min (kh + (min x (lo + 1))) gl)) := hq_82
            have hP : va_P K.1 mx_cl [(rg, .inr (2, [.int (nI (d - (kh + 1))), .int (nI lo), .int (nI gl), .ref ge, .ref sp, .ref sk])), (ge, .inl (K.2.1.1, 256, .inr (.inl f_81))), (sp, .inl (K.2.1.1, 28, .inr (.inl fp))), (sk, .inl (K.2.1.1, 300, .inr (.inl fk)))] H := hP
            have hD : va_D A [(rg, .inr (2, [.int (nI (d - (kh + 1))), .int (nI lo), .int (nI gl), .ref ge, .ref sp, .ref sk])), (ge, .inl (K.2.1.1, 256, .inr (.inl f_81))), (sp, .inl (K.2.1.1, 28, .inr (.inl fp))), (sk, .inl (K.2.1.1, 300, .inr (.inl fk)))] := hD
            refine W.cs (cells' := 0) (slots' := 0) rfl rfl ?_
            refine lv_topi (fun z_84 ez_84 => ?_)
            obtain rfl : z_84 = nI (min kh (min (kh + (min x (lo + 1))) gl)) := ez_84.trans (mx_minN (by omega) (by omega))
            refine va_copyl hx hb (by rw [hml]; exact hl.1.symm) hown (hT _ k_804) (hT _ k_692) (hT _ k_691) (hT _ k_19) hK hP hD hS 3 1 0 0 rfl rfl rfl rfl rfl (nI_pos (n := (d - (kh + 1))) (by omega)) (nI_pos (n := 0) (by omega)) (nI_pos (n := (min kh (min (kh + (min x (lo + 1))) gl))) (by omega)) (mx_cp (a := (d - (kh + 1))) (n := (min kh (min (kh + (min x (lo + 1))) gl))) (by omega) (by omega) (by omega)) (mx_cp (a := 0) (n := (min kh (min (kh + (min x (lo + 1))) gl))) (by omega) (by omega) (by omega)) (fun _ _ => rfl) (by decide) (Nat.le_of_ble_eq_true rfl) d_Reg_pop_152 (fun H locs hP hD hS => ?_)
            have hP : va_P K.1 mx_cl [(rg, .inr (2, [.int (nI (d - (kh + 1))), .int (nI lo), .int (nI gl), .ref ge, .ref sp, .ref sk])), (ge, .inl (K.2.1.1, 256, .inr (.inl (va_cpy fk f_81 (nI (d - (kh + 1))).toNatClampNeg (nI 0).toNatClampNeg (nI (min kh (min (kh + (min x (lo + 1))) gl))).toNatClampNeg)))), (sp, .inl (K.2.1.1, 28, .inr (.inl fp))), (sk, .inl (K.2.1.1, 300, .inr (.inl fk)))] H := hP
            have hD : va_D A [(rg, .inr (2, [.int (nI (d - (kh + 1))), .int (nI lo), .int (nI gl), .ref ge, .ref sp, .ref sk])), (ge, .inl (K.2.1.1, 256, .inr (.inl (va_cpy fk f_81 (nI (d - (kh + 1))).toNatClampNeg (nI 0).toNatClampNeg (nI (min kh (min (kh + (min x (lo + 1))) gl))).toNatClampNeg)))), (sp, .inl (K.2.1.1, 28, .inr (.inl fp))), (sk, .inl (K.2.1.1, 300, .inr (.inl fk)))] := hD
            generalize ef_85 : va_cpy fk f_81 (nI (d - (kh + 1))).toNatClampNeg (nI 0).toNatClampNeg (nI (min kh (min (kh + (min x (lo + 1))) gl))).toNatClampNeg = f_85 at hP hD
            refine lv_aload_n hx hb d_Reg_pop_155 rfl (lv_at hl 4 rfl) ?_
            refine lv_iload hx hb d_Reg_pop_156 (lv_at hl 0 rfl) ?_
            refine lv_aload_n hx hb d_Reg_pop_158 rfl (lv_at hl 4 rfl) ?_
            refine va_get (D := K.1) (ci := 2) (v := .int (nI lo)) (C := R_Reg) (T := T_Reg) (N := 6) hx hb hT in_Reg hown hK hP 0 rfl rfl 1 (by decide) (hT _ k_53) (fun _ h9 => h9) rfl d_Reg_pop_159 ?_
            refine mx_cv (wr := [(sp, .inl (K.2.1.1, 28, .inr (.inl fp))), (sk, .inl (K.2.1.1, 300, .inr (.inl fk)))]) F (mx_runV (As := [.int (nI (min (kh + (min x (lo + 1))) gl)), .int (nI lo)]) (rest := []) (n := 2) F (s_Reg_clearFrom l K rg (min (kh + (min x (lo + 1))) gl) (nI lo) ge sp sk f_85 (d - (kh + 1)) lo gl H.size (by omega)) k_704 (Or.inl k_701) k_703 sl_Reg_clearFrom k_3 p_Reg_clearFrom rfl rfl hP hD hS [0, 1] rfl (by decide) (va_recv (q := (R_Reg, T_Reg, 6)) (ci := 2) (q0 := 0) hK hP rfl rfl) rfl hl.1 rfl (Nat.le_of_ble_eq_true rfl) ⟨by decide, by decide⟩ ⟨by decide, by decide⟩ d_Reg_pop_162) hP hD hS [0, 1] [2, 3] rfl rfl (by decide) (by decide) (fun u_87 H locs hq_86 hP hD hS => ?_)
            obtain ⟨w_89, rfl⟩ := hq_86
            have hP : va_P K.1 mx_cl [(sp, .inl (K.2.1.1, 28, .inr (.inl fp))), (sk, .inl (K.2.1.1, 300, .inr (.inl fk))), (rg, .inr (2, [.int (nI (d - (kh + 1))), .int (nI lo), .int (nI gl), .ref ge, .ref sp, .ref sk])), (ge, .inl (K.2.1.1, 256, .inr (.inl w_89)))] H := hP
            have hD : va_D A [(sp, .inl (K.2.1.1, 28, .inr (.inl fp))), (sk, .inl (K.2.1.1, 300, .inr (.inl fk))), (rg, .inr (2, [.int (nI (d - (kh + 1))), .int (nI lo), .int (nI gl), .ref ge, .ref sp, .ref sk])), (ge, .inl (K.2.1.1, 256, .inr (.inl w_89)))] := hD
            refine W.cs (cells' := 0) (slots' := 0) rfl rfl ?_
            refine lv_aload_n hx hb d_Reg_pop_165 rfl (lv_at hl 4 rfl) ?_
            refine lv_iload hx hb d_Reg_pop_166 (lv_at hl 0 rfl) ?_
            refine va_put (D := K.1) (ci := 2) (v := .int (nI (min (kh + (min x (lo + 1))) gl))) (ty := .int) (C := R_Reg) (T := T_Reg) (N := 6) hx hb hT in_Reg t_Reg t_Reg_ok n_Reg hown hK hP hD hS 2 rfl rfl 1 (by decide) (hT _ k_53) (fun _ h9 => h9) rfl (by decide +kernel) rfl rfl (Nat.le_of_ble_eq_true rfl) d_Reg_pop_168 (fun H locs hP hD hS => ?_)
            have hP : va_P K.1 mx_cl [(sp, .inl (K.2.1.1, 28, .inr (.inl fp))), (sk, .inl (K.2.1.1, 300, .inr (.inl fk))), (rg, .inr (2, [.int (nI (d - (kh + 1))), .int (nI (min (kh + (min x (lo + 1))) gl)), .int (nI gl), .ref ge, .ref sp, .ref sk])), (ge, .inl (K.2.1.1, 256, .inr (.inl w_89)))] H := hP
            have hD : va_D A [(sp, .inl (K.2.1.1, 28, .inr (.inl fp))), (sk, .inl (K.2.1.1, 300, .inr (.inl fk))), (rg, .inr (2, [.int (nI (d - (kh + 1))), .int (nI (min (kh + (min x (lo + 1))) gl)), .int (nI gl), .ref ge, .ref sp, .ref sk])), (ge, .inl (K.2.1.1, 256, .inr (.inl w_89)))] := hD
            refine lv_iconst (v := 1) hx hb d_Reg_pop_171 (by decide) ?_
            exact mx_ri F hr hlk (by decide) hP hD hS [(rg, .inr (2, [.int (nI (d - (kh + 1))), .int (nI (min (kh + (min x (lo + 1))) gl)), .int (nI gl), .ref ge, .ref sp, .ref sk])), (ge, .inl (K.2.1.1, 256, .inr (.inl w_89))), (sp, .inl (K.2.1.1, 28, .inr (.inl fp))), (sk, .inl (K.2.1.1, 300, .inr (.inl fk)))] [2, 3, 0, 1] rfl (by decide) ⟨(Or.inr rfl), ⟨(d - (kh + 1)), (min (kh + (min x (lo + 1))) gl), gl, w_89, fp, fk, (by first | assumption | omega | exact mx_ch_0), (by first | assumption | omega | exact mx_ch_0), (by first | assumption | omega | exact mx_ch_0), (by rw [show d - (kh + 1) = d - kh - 1 by omega]; exact hkc), rfl⟩⟩ (by decide) (by decide) d_Reg_pop_172
        · have h_70n := mx_fNle (a := (min (kh + (min x (lo + 1))) gl)) (b := (kh + 1)) (by omega) (by omega) h_70
          refine lv_aload_n hx hb d_Reg_pop_94 rfl (lv_at hl 4 rfl) ?_
          refine va_get (D := K.1) (ci := 2) (v := .ref ge) (C := R_Reg) (T := T_Reg) (N := 6) hx hb hT in_Reg hown hK hP 0 rfl rfl 3 (by decide) (hT _ k_48) (fun _ h9 => h9) rfl d_Reg_pop_95 ?_
          refine lv_iconst (v := 0) hx hb d_Reg_pop_98 (by decide) ?_
          refine lv_aload_n hx hb d_Reg_pop_99 rfl (lv_at hl 4 rfl) ?_
          refine va_get (D := K.1) (ci := 2) (v := .ref ge) (C := R_Reg) (T := T_Reg) (N := 6) hx hb hT in_Reg hown hK hP 0 rfl rfl 3 (by decide) (hT _ k_48) (fun _ h9 => h9) rfl d_Reg_pop_100 ?_
          refine lv_iload hx hb d_Reg_pop_103 (lv_at hl 1 rfl) ?_
          refine lv_iconst (v := 1) hx hb d_Reg_pop_105 (by decide) ?_
          refine lv_iadd hx hb d_Reg_pop_106 ?_
          refine lv_topi (fun z_91 ez_91 => ?_)
          obtain rfl : z_91 = nI (kh + 1) := ez_91.trans (nI_add kh 1)
          refine lv_iload hx hb d_Reg_pop_107 (lv_at hl 0 rfl) ?_
          refine lv_iload hx hb d_Reg_pop_109 (lv_at hl 1 rfl) ?_
          refine lv_isub hx hb d_Reg_pop_111 ?_
          refine lv_topi (fun z_92 ez_92 => ?_)
          obtain rfl : z_92 = nI ((min (kh + (min x (lo + 1))) gl) - kh) := ez_92.trans (pk_sub (a := (min (kh + (min x (lo + 1))) gl)) (b := kh) (by omega))
          refine lv_iconst (v := 1) hx hb d_Reg_pop_112 (by decide) ?_
          refine lv_isub hx hb d_Reg_pop_113 ?_
          refine lv_topi (fun z_93 ez_93 => ?_)
          obtain rfl : z_93 = nI (((min (kh + (min x (lo + 1))) gl) - kh) - 1) := ez_93.trans (pk_sub (a := ((min (kh + (min x (lo + 1))) gl) - kh)) (b := 1) (by omega))
          refine va_copyl hx hb (by rw [hml]; exact hl.1.symm) hown (hT _ k_804) (hT _ k_692) (hT _ k_691) (hT _ k_19) hK hP hD hS 1 1 0 0 rfl rfl rfl rfl rfl (nI_pos (n := 0) (by omega)) (nI_pos (n := (kh + 1)) (by omega)) (nI_pos (n := (((min (kh + (min x (lo + 1))) gl) - kh) - 1)) (by omega)) (mx_cp (a := 0) (n := (((min (kh + (min x (lo + 1))) gl) - kh) - 1)) (by omega) (by omega) (by omega)) (mx_cp (a := (kh + 1)) (n := (((min (kh + (min x (lo + 1))) gl) - kh) - 1)) (by omega) (by omega) (by omega)) (fun _ _ => rfl) (by decide) (Nat.le_of_ble_eq_true rfl) d_Reg_pop_114 (fun H locs hP hD hS => ?_)
          have hP : va_P K.1 mx_cl [(rg, .inr (2, [.int (nI (d - (kh + 1))), .int (nI lo), .int (nI gl), .ref ge, .ref sp, .ref sk])), (ge, .inl (K.2.1.1, 256, .inr (.inl (va_cpy fg fg (nI 0).toNatClampNeg (nI (kh + 1)).toNatClampNeg (nI (((min (kh + (min x (lo + 1))) gl) - kh) - 1)).toNatClampNeg)))), (sp, .inl (K.2.1.1, 28, .inr (.inl fp))), (sk, .inl (K.2.1.1, 300, .inr (.inl fk)))] H := hP
          have hD : va_D A [(rg, .inr (2, [.int (nI (d - (kh + 1))), .int (nI lo), .int (nI gl), .ref ge, .ref sp, .ref sk])), (ge, .inl (K.2.1.1, 256, .inr (.inl (va_cpy fg fg (nI 0).toNatClampNeg (nI (kh + 1)).toNatClampNeg (nI (((min (kh + (min x (lo + 1))) gl) - kh) - 1)).toNatClampNeg)))), (sp, .inl (K.2.1.1, 28, .inr (.inl fp))), (sk, .inl (K.2.1.1, 300, .inr (.inl fk)))] := hD
          generalize ef_94 : va_cpy fg fg (nI 0).toNatClampNeg (nI (kh + 1)).toNatClampNeg (nI (((min (kh + (min x (lo + 1))) gl) - kh) - 1)).toNatClampNeg = f_94 at hP hD
          refine lv_iload hx hb d_Reg_pop_117 (lv_at hl 0 rfl) ?_
          refine lv_iload hx hb d_Reg_pop_119 (lv_at hl 1 rfl) ?_
          refine lv_icmp_le (tgt := 132) hx hb d_Reg_pop_121 (by decide) (fun h_95 => ?_) (fun h_95 => ?_)
          · have h_95n := mx_fLe (a := (min (kh + (min x (lo + 1))) gl)) (b := kh) (by omega) (by omega) h_95
            refine lv_aload_n hx hb d_Reg_pop_132 rfl (lv_at hl 4 rfl) ?_
            refine va_get (D := K.1) (ci := 2) (v := .ref sk) (C := R_Reg) (T := T_Reg) (N := 6) hx hb hT in_Reg hown hK hP 0 rfl rfl 5 (by decide) (hT _ k_50) (fun _ h9 => h9) rfl d_Reg_pop_133 ?_
            refine lv_aload_n hx hb d_Reg_pop_136 rfl (lv_at hl 4 rfl) ?_
            refine va_get (D := K.1) (ci := 2) (v := .int (nI (d - (kh + 1)))) (C := R_Reg) (T := T_Reg) (N := 6) hx hb hT in_Reg hown hK hP 0 rfl rfl 0 (by decide) (hT _ k_51) (fun _ h9 => h9) rfl d_Reg_pop_137 ?_
            refine lv_aload_n hx hb d_Reg_pop_140 rfl (lv_at hl 4 rfl) ?_
            refine va_get (D := K.1) (ci := 2) (v := .ref ge) (C := R_Reg) (T := T_Reg) (N := 6) hx hb hT in_Reg hown hK hP 0 rfl rfl 3 (by decide) (hT _ k_48) (fun _ h9 => h9) rfl d_Reg_pop_141 ?_
            refine lv_iconst (v := 0) hx hb d_Reg_pop_144 (by decide) ?_
            refine lv_iload hx hb d_Reg_pop_145 (lv_at hl 1 rfl) ?_
            refine lv_iload hx hb d_Reg_pop_147 (lv_at hl 0 rfl) ?_
            refine mx_ci (wr := [(rg, .inr (2, [.int (nI (d - (kh + 1))), .int (nI lo), .int (nI gl), .ref ge, .ref sp, .ref sk])), (ge, .inl (K.2.1.1, 256, .inr (.inl f_94))), (sp, .inl (K.2.1.1, 28, .inr (.inl fp))), (sk, .inl (K.2.1.1, 300, .inr (.inl fk)))]) F (mx_runS (As := [.int (nI kh), .int (nI (min (kh + (min x (lo + 1))) gl))]) (rest := [.int 0, .ref ge, .int (nI (d - (kh + 1))), .ref sk]) (n := 2) F (s_Math_min l K (nI kh) (nI (min (kh + (min x (lo + 1))) gl)) H.size) k_510 (Or.inl k_837) k_509 k_17 p_Math_min rfl rfl hP hD hS [] rfl (by decide)  rfl hl.1 rfl (Nat.le_of_ble_eq_true rfl) ⟨by decide, by decide⟩ ⟨by decide, by decide⟩ d_Reg_pop_149) hP hD hS [] [0, 1, 2, 3] rfl rfl (by decide) (by decide) (fun r_97 _ H locs hq_96 hP hD hS => ?_)
            obtain rfl : r_97 = mx_min (nI kh) (nI (min (kh + (min x (lo + 1))) gl)) := hq_96
            have hP : va_P K.1 mx_cl [(rg, .inr (2, [.int (nI (d - (kh + 1))), .int (nI lo), .int (nI gl), .ref ge, .ref sp, .ref sk])), (ge, .inl (K.2.1.1, 256, .inr (.inl f_94))), (sp, .inl (K.2.1.1, 28, .inr (.inl fp))), (sk, .inl (K.2.1.1, 300, .inr (.inl fk)))] H := hP
            have hD : va_D A [(rg, .inr (2, [.int (nI (d - (kh + 1))), .int (nI lo), .int (nI gl), .ref ge, .ref sp, .ref sk])), (ge, .inl (K.2.1.1, 256, .inr (.inl f_94))), (sp, .inl (K.2.1.1, 28, .inr (.inl fp))), (sk, .inl (K.2.1.1, 300, .inr (.inl fk)))] := hD
            refine W.cs (cells' := 0) (slots' := 0) rfl rfl ?_
            refine lv_topi (fun z_98 ez_98 => ?_)
            obtain rfl : z_98 = nI (min kh (min (kh + (min x (lo + 1))) gl)) := ez_98.trans (mx_minN (by omega) (by omega))
            refine va_copyl hx hb (by rw [hml]; exact hl.1.symm) hown (hT _ k_804) (hT _ k_692) (hT _ k_691) (hT _ k_19) hK hP hD hS 3 1 0 0 rfl rfl rfl rfl rfl (nI_pos (n := (d - (kh + 1))) (by omega)) (nI_pos (n := 0) (by omega)) (nI_pos (n := (min kh (min (kh + (min x (lo + 1))) gl))) (by omega)) (mx_cp (a := (d - (kh + 1))) (n := (min kh (min (kh + (min x (lo + 1))) gl))) (by omega) (by omega) (by omega)) (mx_cp (a := 0) (n := (min kh (min (kh + (min x (lo + 1))) gl))) (by omega) (by omega) (by omega)) (fun _ _ => rfl) (by decide) (Nat.le_of_ble_eq_true rfl) d_Reg_pop_152 (fun H locs hP hD hS => ?_)
            have hP : va_P K.1 mx_cl [(rg, .inr (2, [.int (nI (d - (kh + 1))), .int (nI lo), .int (nI gl), .ref ge, .ref sp, .ref sk])), (ge, .inl (K.2.1.1, 256, .inr (.inl (va_cpy fk f_94 (nI (d - (kh + 1))).toNatClampNeg (nI 0).toNatClampNeg (nI (min kh (min (kh + (min x (lo + 1))) gl))).toNatClampNeg)))), (sp, .inl (K.2.1.1, 28, .inr (.inl fp))), (sk, .inl (K.2.1.1, 300, .inr (.inl fk)))] H := hP
            have hD : va_D A [(rg, .inr (2, [.int (nI (d - (kh + 1))), .int (nI lo), .int (nI gl), .ref ge, .ref sp, .ref sk])), (ge, .inl (K.2.1.1, 256, .inr (.inl (va_cpy fk f_94 (nI (d - (kh + 1))).toNatClampNeg (nI 0).toNatClampNeg (nI (min kh (min (kh + (min x (lo + 1))) gl))).toNatClampNeg)))), (sp, .inl (K.2.1.1, 28, .inr (.inl fp))), (sk, .inl (K.2.1.1, 300, .inr (.inl fk)))] := hD
            generalize ef_99 : va_cpy fk f_94 (nI (d - (kh + 1))).toNatClampNeg (nI 0).toNatClampNeg (nI (min kh (min (kh + (min x (lo + 1))) gl))).toNatClampNeg = f_99 at hP hD
            refine lv_aload_n hx hb d_Reg_pop_155 rfl (lv_at hl 4 rfl) ?_
            refine lv_iload hx hb d_Reg_pop_156 (lv_at hl 0 rfl) ?_
            refine lv_aload_n hx hb d_Reg_pop_158 rfl (lv_at hl 4 rfl) ?_
            refine va_get (D := K.1) (ci := 2) (v := .int (nI lo)) (C := R_Reg) (T := T_Reg) (N := 6) hx hb hT in_Reg hown hK hP 0 rfl rfl 1 (by decide) (hT _ k_53) (fun _ h9 => h9) rfl d_Reg_pop_159 ?_
            refine mx_cv (wr := [(sp, .inl (K.2.1.1, 28, .inr (.inl fp))), (sk, .inl (K.2.1.1, 300, .inr (.inl fk)))]) F (mx_runV (As := [.int (nI (min (kh + (min x (lo + 1))) gl)), .int (nI lo)]) (rest := []) (n := 2) F (s_Reg_clearFrom l K rg (min (kh + (min x (lo + 1))) gl) (nI lo) ge sp sk f_99 (d - (kh + 1)) lo gl H.size (by omega)) k_704 (Or.inl k_701) k_703 sl_Reg_clearFrom k_3 p_Reg_clearFrom rfl rfl hP hD hS [0, 1] rfl (by decide) (va_recv (q := (R_Reg, T_Reg, 6)) (ci := 2) (q0 := 0) hK hP rfl rfl) rfl hl.1 rfl (Nat.le_of_ble_eq_true rfl) ⟨by decide, by decide⟩ ⟨by decide, by decide⟩ d_Reg_pop_162) hP hD hS [0, 1] [2, 3] rfl rfl (by decide) (by decide) (fun u_101 H locs hq_100 hP hD hS => ?_)
            obtain ⟨w_103, rfl⟩ := hq_100
            have hP : va_P K.1 mx_cl [(sp, .inl (K.2.1.1, 28, .inr (.inl fp))), (sk, .inl (K.2.1.1, 300, .inr (.inl fk))), (rg, .inr (2, [.int (nI (d - (kh + 1))), .int (nI lo), .int (nI gl), .ref ge, .ref sp, .ref sk])), (ge, .inl (K.2.1.1, 256, .inr (.inl w_103)))] H := hP
            have hD : va_D A [(sp, .inl (K.2.1.1, 28, .inr (.inl fp))), (sk, .inl (K.2.1.1, 300, .inr (.inl fk))), (rg, .inr (2, [.int (nI (d - (kh + 1))), .int (nI lo), .int (nI gl), .ref ge, .ref sp, .ref sk])), (ge, .inl (K.2.1.1, 256, .inr (.inl w_103)))] := hD
            refine W.cs (cells' := 0) (slots' := 0) rfl rfl ?_
            refine lv_aload_n hx hb d_Reg_pop_165 rfl (lv_at hl 4 rfl) ?_
            refine lv_iload hx hb d_Reg_pop_166 (lv_at hl 0 rfl) ?_
            refine va_put (D := K.1) (ci := 2) (v := .int (nI (min (kh + (min x (lo + 1))) gl))) (ty := .int) (C := R_Reg) (T := T_Reg) (N := 6) hx hb hT in_Reg t_Reg t_Reg_ok n_Reg hown hK hP hD hS 2 rfl rfl 1 (by decide) (hT _ k_53) (fun _ h9 => h9) rfl (by decide +kernel) rfl rfl (Nat.le_of_ble_eq_true rfl) d_Reg_pop_168 (fun H locs hP hD hS => ?_)
            have hP : va_P K.1 mx_cl [(sp, .inl (K.2.1.1, 28, .inr (.inl fp))), (sk, .inl (K.2.1.1, 300, .inr (.inl fk))), (rg, .inr (2, [.int (nI (d - (kh + 1))), .int (nI (min (kh + (min x (lo + 1))) gl)), .int (nI gl), .ref ge, .ref sp, .ref sk])), (ge, .inl (K.2.1.1, 256, .inr (.inl w_103)))] H := hP
            have hD : va_D A [(sp, .inl (K.2.1.1, 28, .inr (.inl fp))), (sk, .inl (K.2.1.1, 300, .inr (.inl fk))), (rg, .inr (2, [.int (nI (d - (kh + 1))), .int (nI (min (kh + (min x (lo + 1))) gl)), .int (nI gl), .ref ge, .ref sp, .ref sk])), (ge, .inl (K.2.1.1, 256, .inr (.inl w_103)))] := hD
            refine lv_iconst (v := 1) hx hb d_Reg_pop_171 (by decide) ?_
            exact mx_ri F hr hlk (by decide) hP hD hS [(rg, .inr (2, [.int (nI (d - (kh + 1))), .int (nI (min (kh + (min x (lo + 1))) gl)), .int (nI gl), .ref ge, .ref sp, .ref sk])), (ge, .inl (K.2.1.1, 256, .inr (.inl w_103))), (sp, .inl (K.2.1.1, 28, .inr (.inl fp))), (sk, .inl (K.2.1.1, 300, .inr (.inl fk)))] [2, 3, 0, 1] rfl (by decide) ⟨(Or.inr rfl), ⟨(d - (kh + 1)), (min (kh + (min x (lo + 1))) gl), gl, w_103, fp, fk, (by first | assumption | omega | exact mx_ch_0), (by first | assumption | omega | exact mx_ch_0), (by first | assumption | omega | exact mx_ch_0), (by rw [show d - (kh + 1) = d - kh - 1 by omega]; exact hkc), rfl⟩⟩ (by decide) (by decide) d_Reg_pop_172
          · have h_95n := mx_fNle (a := (min (kh + (min x (lo + 1))) gl)) (b := kh) (by omega) (by omega) h_95
            refine lv_aload_n hx hb d_Reg_pop_124 rfl (lv_at hl 4 rfl) ?_
            refine va_get (D := K.1) (ci := 2) (v := .ref ge) (C := R_Reg) (T := T_Reg) (N := 6) hx hb hT in_Reg hown hK hP 0 rfl rfl 3 (by decide) (hT _ k_48) (fun _ h9 => h9) rfl d_Reg_pop_125 ?_
            refine lv_iload hx hb d_Reg_pop_128 (lv_at hl 1 rfl) ?_
            refine lv_lload_n hx hb d_Reg_pop_130 rfl (lv_at hl 2 rfl) ?_
            refine va_last hx hb hK hP hD hS 1 0 rfl rfl (i := nI kh) (x := 0) (vp_in_nI (n := kh) (N := 256) (by omega) (by decide)) d_Reg_pop_131 (fun H locs hP hD hS => ?_)
            have hP : va_P K.1 mx_cl [(rg, .inr (2, [.int (nI (d - (kh + 1))), .int (nI lo), .int (nI gl), .ref ge, .ref sp, .ref sk])), (ge, .inl (K.2.1.1, 256, .inr (.inl (vp_updL f_94 (nI kh).toNatClampNeg 0)))), (sp, .inl (K.2.1.1, 28, .inr (.inl fp))), (sk, .inl (K.2.1.1, 300, .inr (.inl fk)))] H := hP
            have hD : va_D A [(rg, .inr (2, [.int (nI (d - (kh + 1))), .int (nI lo), .int (nI gl), .ref ge, .ref sp, .ref sk])), (ge, .inl (K.2.1.1, 256, .inr (.inl (vp_updL f_94 (nI kh).toNatClampNeg 0)))), (sp, .inl (K.2.1.1, 28, .inr (.inl fp))), (sk, .inl (K.2.1.1, 300, .inr (.inl fk)))] := hD
            generalize ef_105 : vp_updL f_94 (nI kh).toNatClampNeg 0 = f_105 at hP hD
            refine lv_aload_n hx hb d_Reg_pop_132 rfl (lv_at hl 4 rfl) ?_
            refine va_get (D := K.1) (ci := 2) (v := .ref sk) (C := R_Reg) (T := T_Reg) (N := 6) hx hb hT in_Reg hown hK hP 0 rfl rfl 5 (by decide) (hT _ k_50) (fun _ h9 => h9) rfl d_Reg_pop_133 ?_
            refine lv_aload_n hx hb d_Reg_pop_136 rfl (lv_at hl 4 rfl) ?_
            refine va_get (D := K.1) (ci := 2) (v := .int (nI (d - (kh + 1)))) (C := R_Reg) (T := T_Reg) (N := 6) hx hb hT in_Reg hown hK hP 0 rfl rfl 0 (by decide) (hT _ k_51) (fun _ h9 => h9) rfl d_Reg_pop_137 ?_
            refine lv_aload_n hx hb d_Reg_pop_140 rfl (lv_at hl 4 rfl) ?_
            refine va_get (D := K.1) (ci := 2) (v := .ref ge) (C := R_Reg) (T := T_Reg) (N := 6) hx hb hT in_Reg hown hK hP 0 rfl rfl 3 (by decide) (hT _ k_48) (fun _ h9 => h9) rfl d_Reg_pop_141 ?_
            refine lv_iconst (v := 0) hx hb d_Reg_pop_144 (by decide) ?_
            refine lv_iload hx hb d_Reg_pop_145 (lv_at hl 1 rfl) ?_
            refine lv_iload hx hb d_Reg_pop_147 (lv_at hl 0 rfl) ?_
            refine mx_ci (wr := [(rg, .inr (2, [.int (nI (d - (kh + 1))), .int (nI lo), .int (nI gl), .ref ge, .ref sp, .ref sk])), (ge, .inl (K.2.1.1, 256, .inr (.inl f_105))), (sp, .inl (K.2.1.1, 28, .inr (.inl fp))), (sk, .inl (K.2.1.1, 300, .inr (.inl fk)))]) F (mx_runS (As := [.int (nI kh), .int (nI (min (kh + (min x (lo + 1))) gl))]) (rest := [.int 0, .ref ge, .int (nI (d - (kh + 1))), .ref sk]) (n := 2) F (s_Math_min l K (nI kh) (nI (min (kh + (min x (lo + 1))) gl)) H.size) k_510 (Or.inl k_837) k_509 k_17 p_Math_min rfl rfl hP hD hS [] rfl (by decide)  rfl hl.1 rfl (Nat.le_of_ble_eq_true rfl) ⟨by decide, by decide⟩ ⟨by decide, by decide⟩ d_Reg_pop_149) hP hD hS [] [0, 1, 2, 3] rfl rfl (by decide) (by decide) (fun r_107 _ H locs hq_106 hP hD hS => ?_)
            obtain rfl : r_107 = mx_min (nI kh) (nI (min (kh + (min x (lo + 1))) gl)) := hq_106
            have hP : va_P K.1 mx_cl [(rg, .inr (2, [.int (nI (d - (kh + 1))), .int (nI lo), .int (nI gl), .ref ge, .ref sp, .ref sk])), (ge, .inl (K.2.1.1, 256, .inr (.inl f_105))), (sp, .inl (K.2.1.1, 28, .inr (.inl fp))), (sk, .inl (K.2.1.1, 300, .inr (.inl fk)))] H := hP
            have hD : va_D A [(rg, .inr (2, [.int (nI (d - (kh + 1))), .int (nI lo), .int (nI gl), .ref ge, .ref sp, .ref sk])), (ge, .inl (K.2.1.1, 256, .inr (.inl f_105))), (sp, .inl (K.2.1.1, 28, .inr (.inl fp))), (sk, .inl (K.2.1.1, 300, .inr (.inl fk)))] := hD
            refine W.cs (cells' := 0) (slots' := 0) rfl rfl ?_
            refine lv_topi (fun z_108 ez_108 => ?_)
            obtain rfl : z_108 = nI (min kh (min (kh + (min x (lo + 1))) gl)) := ez_108.trans (mx_minN (by omega) (by omega))
            refine va_copyl hx hb (by rw [hml]; exact hl.1.symm) hown (hT _ k_804) (hT _ k_692) (hT _ k_691) (hT _ k_19) hK hP hD hS 3 1 0 0 rfl rfl rfl rfl rfl (nI_pos (n := (d - (kh + 1))) (by omega)) (nI_pos (n := 0) (by omega)) (nI_pos (n := (min kh (min (kh + (min x (lo + 1))) gl))) (by omega)) (mx_cp (a := (d - (kh + 1))) (n := (min kh (min (kh + (min x (lo + 1))) gl))) (by omega) (by omega) (by omega)) (mx_cp (a := 0) (n := (min kh (min (kh + (min x (lo + 1))) gl))) (by omega) (by omega) (by omega)) (fun _ _ => rfl) (by decide) (Nat.le_of_ble_eq_true rfl) d_Reg_pop_152 (fun H locs hP hD hS => ?_)
            have hP : va_P K.1 mx_cl [(rg, .inr (2, [.int (nI (d - (kh + 1))), .int (nI lo), .int (nI gl), .ref ge, .ref sp, .ref sk])), (ge, .inl (K.2.1.1, 256, .inr (.inl (va_cpy fk f_105 (nI (d - (kh + 1))).toNatClampNeg (nI 0).toNatClampNeg (nI (min kh (min (kh + (min x (lo + 1))) gl))).toNatClampNeg)))), (sp, .inl (K.2.1.1, 28, .inr (.inl fp))), (sk, .inl (K.2.1.1, 300, .inr (.inl fk)))] H := hP
            have hD : va_D A [(rg, .inr (2, [.int (nI (d - (kh + 1))), .int (nI lo), .int (nI gl), .ref ge, .ref sp, .ref sk])), (ge, .inl (K.2.1.1, 256, .inr (.inl (va_cpy fk f_105 (nI (d - (kh + 1))).toNatClampNeg (nI 0).toNatClampNeg (nI (min kh (min (kh + (min x (lo + 1))) gl))).toNatClampNeg)))), (sp, .inl (K.2.1.1, 28, .inr (.inl fp))), (sk, .inl (K.2.1.1, 300, .inr (.inl fk)))] := hD
            generalize ef_109 : va_cpy fk f_105 (nI (d - (kh + 1))).toNatClampNeg (nI 0).toNatClampNeg (nI (min kh (min (kh + (min x (lo + 1))) gl))).toNatClampNeg = f_109 at hP hD
            refine lv_aload_n hx hb d_Reg_pop_155 rfl (lv_at hl 4 rfl) ?_
            refine lv_iload hx hb d_Reg_pop_156 (lv_at hl 0 rfl) ?_
            refine lv_aload_n hx hb d_Reg_pop_158 rfl (lv_at hl 4 rfl) ?_
            refine va_get (D := K.1) (ci := 2) (v := .int (nI lo)) (C := R_Reg) (T := T_Reg) (N := 6) hx hb hT in_Reg hown hK hP 0 rfl rfl 1 (by decide) (hT _ k_53) (fun _ h9 => h9) rfl d_Reg_pop_159 ?_
            refine mx_cv (wr := [(sp, .inl (K.2.1.1, 28, .inr (.inl fp))), (sk, .inl (K.2.1.1, 300, .inr (.inl fk)))]) F (mx_runV (As := [.int (nI (min (kh + (min x (lo + 1))) gl)), .int (nI lo)]) (rest := []) (n := 2) F (s_Reg_clearFrom l K rg (min (kh + (min x (lo + 1))) gl) (nI lo) ge sp sk f_109 (d - (kh + 1)) lo gl H.size (by omega)) k_704 (Or.inl k_701) k_703 sl_Reg_clearFrom k_3 p_Reg_clearFrom rfl rfl hP hD hS [0, 1] rfl (by decide) (va_recv (q := (R_Reg, T_Reg, 6)) (ci := 2) (q0 := 0) hK hP rfl rfl) rfl hl.1 rfl (Nat.le_of_ble_eq_true rfl) ⟨by decide, by decide⟩ ⟨by decide, by decide⟩ d_Reg_pop_162) hP hD hS [0, 1] [2, 3] rfl rfl (by decide) (by decide) (fun u_111 H locs hq_110 hP hD hS => ?_)
            obtain ⟨w_113, rfl⟩ := hq_110
            have hP : va_P K.1 mx_cl [(sp, .inl (K.2.1.1, 28, .inr (.inl fp))), (sk, .inl (K.2.1.1, 300, .inr (.inl fk))), (rg, .inr (2, [.int (nI (d - (kh + 1))), .int (nI lo), .int (nI gl), .ref ge, .ref sp, .ref sk])), (ge, .inl (K.2.1.1, 256, .inr (.inl w_113)))] H := hP
            have hD : va_D A [(sp, .inl (K.2.1.1, 28, .inr (.inl fp))), (sk, .inl (K.2.1.1, 300, .inr (.inl fk))), (rg, .inr (2, [.int (nI (d - (kh + 1))), .int (nI lo), .int (nI gl), .ref ge, .ref sp, .ref sk])), (ge, .inl (K.2.1.1, 256, .inr (.inl w_113)))] := hD
            refine W.cs (cells' := 0) (slots' := 0) rfl rfl ?_
            refine lv_aload_n hx hb d_Reg_pop_165 rfl (lv_at hl 4 rfl) ?_
            refine lv_iload hx hb d_Reg_pop_166 (lv_at hl 0 rfl) ?_
            refine va_put (D := K.1) (ci := 2) (v := .int (nI (min (kh + (min x (lo + 1))) gl))) (ty := .int) (C := R_Reg) (T := T_Reg) (N := 6) hx hb hT in_Reg t_Reg t_Reg_ok n_Reg hown hK hP hD hS 2 rfl rfl 1 (by decide) (hT _ k_53) (fun _ h9 => h9) rfl (by decide +kernel) rfl rfl (Nat.le_of_ble_eq_true rfl) d_Reg_pop_168 (fun H locs hP hD hS => ?_)
            have hP : va_P K.1 mx_cl [(sp, .inl (K.2.1.1, 28, .inr (.inl fp))), (sk, .inl (K.2.1.1, 300, .inr (.inl fk))), (rg, .inr (2, [.int (nI (d - (kh + 1))), .int (nI (min (kh + (min x (lo + 1))) gl)), .int (nI gl), .ref ge, .ref sp, .ref sk])), (ge, .inl (K.2.1.1, 256, .inr (.inl w_113)))] H := hP
            have hD : va_D A [(sp, .inl (K.2.1.1, 28, .inr (.inl fp))), (sk, .inl (K.2.1.1, 300, .inr (.inl fk))), (rg, .inr (2, [.int (nI (d - (kh + 1))), .int (nI (min (kh + (min x (lo + 1))) gl)), .int (nI gl), .ref ge, .ref sp, .ref sk])), (ge, .inl (K.2.1.1, 256, .inr (.inl w_113)))] := hD
            refine lv_iconst (v := 1) hx hb d_Reg_pop_171 (by decide) ?_
            exact mx_ri F hr hlk (by decide) hP hD hS [(rg, .inr (2, [.int (nI (d - (kh + 1))), .int (nI (min (kh + (min x (lo + 1))) gl)), .int (nI gl), .ref ge, .ref sp, .ref sk])), (ge, .inl (K.2.1.1, 256, .inr (.inl w_113))), (sp, .inl (K.2.1.1, 28, .inr (.inl fp))), (sk, .inl (K.2.1.1, 300, .inr (.inl fk)))] [2, 3, 0, 1] rfl (by decide) ⟨(Or.inr rfl), ⟨(d - (kh + 1)), (min (kh + (min x (lo + 1))) gl), gl, w_113, fp, fk, (by first | assumption | omega | exact mx_ch_0), (by first | assumption | omega | exact mx_ch_0), (by first | assumption | omega | exact mx_ch_0), (by rw [show d - (kh + 1) = d - kh - 1 by omega]; exact hkc), rfl⟩⟩ (by decide) (by decide) d_Reg_pop_172
      · have h_60n := mx_fNlt (a := lo) (b := (min x (lo + 1))) (by omega) (by omega) h_60
        refine lv_aload_n hx hb d_Reg_pop_32 rfl (lv_at hl 1 rfl) ?_
        refine va_get (D := K.1) (ci := 2) (v := .ref ge) (C := R_Reg) (T := T_Reg) (N := 6) hx hb hT in_Reg hown hK hP 0 rfl rfl 3 (by decide) (hT _ k_48) (fun _ h9 => h9) rfl d_Reg_pop_33 ?_
        refine lv_iload_n hx hb d_Reg_pop_36 rfl (lv_at hl 0 rfl) ?_
        refine lv_iconst (v := 1) hx hb d_Reg_pop_37 (by decide) ?_
        refine lv_isub hx hb d_Reg_pop_38 ?_
        refine lv_topi (fun z_115 ez_115 => ?_)
        obtain rfl : z_115 = nI ((min x (lo + 1)) - 1) := ez_115.trans (pk_sub (a := (min x (lo + 1))) (b := 1) (by omega))
        refine va_lald hx hb hK hP 1 0 rfl rfl (i := nI ((min x (lo + 1)) - 1)) (vp_in_nI (n := ((min x (lo + 1)) - 1)) (N := 256) (by omega) (by decide)) d_Reg_pop_39 ?_
        refine lv_topl (fun z_116 ez_116 => ?_)
        refine lv_goto (tgt := 44) hx hb d_Reg_pop_40 (by decide) ?_
        refine lv_lstore_n (lv' := [(3, .long z_116), (2, .int (nI (min x (lo + 1)))), (0, .ref rg), (1, .int (nI x))]) hx hb d_Reg_pop_44 rfl hl (by decide) rfl (fun ls hl => ?_)
        refine lv_aload_n hx hb d_Reg_pop_45 rfl (lv_at hl 2 rfl) ?_
        refine va_get (D := K.1) (ci := 2) (v := .ref sk) (C := R_Reg) (T := T_Reg) (N := 6) hx hb hT in_Reg hown hK hP 0 rfl rfl 5 (by decide) (hT _ k_50) (fun _ h9 => h9) rfl d_Reg_pop_46 ?_
        refine lv_aload_n hx hb d_Reg_pop_49 rfl (lv_at hl 2 rfl) ?_
        refine va_get (D := K.1) (ci := 2) (v := .int (nI d)) (C := R_Reg) (T := T_Reg) (N := 6) hx hb hT in_Reg hown hK hP 0 rfl rfl 0 (by decide) (hT _ k_51) (fun _ h9 => h9) rfl d_Reg_pop_50 ?_
        refine lv_iconst (v := 1) hx hb d_Reg_pop_53 (by decide) ?_
        refine lv_isub hx hb d_Reg_pop_54 ?_
        refine lv_topi (fun z_117 ez_117 => ?_)
        obtain rfl : z_117 = nI (d - 1) := ez_117.trans (pk_sub (a := d) (b := 1) (by omega))
        refine va_lald hx hb hK hP 3 0 rfl rfl (i := nI (d - 1)) (vp_in_nI (n := (d - 1)) (N := 300) (by omega) (by decide)) d_Reg_pop_55 ?_
        refine lv_topl (fun z_118 ez_118 => ?_)
        obtain rfl : z_118 = lN kh := ez_118.trans (by rw [nI_clamp (by omega)]; exact hkf)
        refine lv_l2i (v := nI kh) hx hb d_Reg_pop_56 (lN_i _) ?_
        refine lv_istore (lv' := [(5, .int (nI kh)), (3, .long z_116), (2, .int (nI (min x (lo + 1)))), (0, .ref rg), (1, .int (nI x))]) hx hb d_Reg_pop_57 hl (by decide) rfl (fun ls hl => ?_)
        refine lv_aload_n hx hb d_Reg_pop_59 rfl (lv_at hl 3 rfl) ?_
        refine lv_dup hx hb d_Reg_pop_60 rfl ?_
        refine va_get (D := K.1) (ci := 2) (v := .int (nI d)) (C := R_Reg) (T := T_Reg) (N := 6) hx hb hT in_Reg hown hK hP 0 rfl rfl 0 (by decide) (hT _ k_51) (fun _ h9 => h9) rfl d_Reg_pop_61 ?_
        refine lv_iload hx hb d_Reg_pop_64 (lv_at hl 0 rfl) ?_
        refine lv_iconst (v := 1) hx hb d_Reg_pop_66 (by decide) ?_
        refine lv_iadd hx hb d_Reg_pop_67 ?_
        refine lv_topi (fun z_119 ez_119 => ?_)
        obtain rfl : z_119 = nI (kh + 1) := ez_119.trans (nI_add kh 1)
        refine lv_isub hx hb d_Reg_pop_68 ?_
        refine lv_topi (fun z_120 ez_120 => ?_)
        obtain rfl : z_120 = nI (d - (kh + 1)) := ez_120.trans (pk_sub (a := d) (b := (kh + 1)) (by omega))
        refine va_put (D := K.1) (ci := 2) (v := .int (nI (d - (kh + 1)))) (ty := .int) (C := R_Reg) (T := T_Reg) (N := 6) hx hb hT in_Reg t_Reg t_Reg_ok n_Reg hown hK hP hD hS 0 rfl rfl 0 (by decide) (hT _ k_51) (fun _ h9 => h9) rfl (by decide +kernel) rfl rfl (Nat.le_of_ble_eq_true rfl) d_Reg_pop_69 (fun H locs hP hD hS => ?_)
        have hP : va_P K.1 mx_cl [(rg, .inr (2, [.int (nI (d - (kh + 1))), .int (nI lo), .int (nI gl), .ref ge, .ref sp, .ref sk])), (ge, .inl (K.2.1.1, 256, .inr (.inl fg))), (sp, .inl (K.2.1.1, 28, .inr (.inl fp))), (sk, .inl (K.2.1.1, 300, .inr (.inl fk)))] H := hP
        have hD : va_D A [(rg, .inr (2, [.int (nI (d - (kh + 1))), .int (nI lo), .int (nI gl), .ref ge, .ref sp, .ref sk])), (ge, .inl (K.2.1.1, 256, .inr (.inl fg))), (sp, .inl (K.2.1.1, 28, .inr (.inl fp))), (sk, .inl (K.2.1.1, 300, .inr (.inl fk)))] := hD
        refine lv_iload hx hb d_Reg_pop_72 (lv_at hl 0 rfl) ?_
        refine lv_iload_n hx hb d_Reg_pop_74 rfl (lv_at hl 2 rfl) ?_
        refine lv_iadd hx hb d_Reg_pop_75 ?_
        refine lv_topi (fun z_121 ez_121 => ?_)
        obtain rfl : z_121 = nI (kh + (min x (lo + 1))) := ez_121.trans (nI_add kh (min x (lo + 1)))
        refine lv_aload_n hx hb d_Reg_pop_76 rfl (lv_at hl 3 rfl) ?_
        refine va_get (D := K.1) (ci := 2) (v := .int (nI gl)) (C := R_Reg) (T := T_Reg) (N := 6) hx hb hT in_Reg hown hK hP 0 rfl rfl 2 (by decide) (hT _ k_54) (fun _ h9 => h9) rfl d_Reg_pop_77 ?_
        refine mx_ci (wr := [(rg, .inr (2, [.int (nI (d - (kh + 1))), .int (nI lo), .int (nI gl), .ref ge, .ref sp, .ref sk])), (ge, .inl (K.2.1.1, 256, .inr (.inl fg))), (sp, .inl (K.2.1.1, 28, .inr (.inl fp))), (sk, .inl (K.2.1.1, 300, .inr (.inl fk)))]) F (mx_runS (As := [.int (nI (kh + (min x (lo + 1)))), .int (nI gl)]) (rest := []) (n := 2) F (s_Math_min l K (nI (kh + (min x (lo + 1)))) (nI gl) H.size) k_510 (Or.inl k_837) k_509 k_17 p_Math_min rfl rfl hP hD hS [] rfl (by decide)  rfl hl.1 rfl (Nat.le_of_ble_eq_true rfl) ⟨by decide, by decide⟩ ⟨by decide, by decide⟩ d_Reg_pop_80) hP hD hS [] [0, 1, 2, 3] rfl rfl (by decide) (by decide) (fun r_123 _ H locs hq_122 hP hD hS => ?_)
        obtain rfl : r_123 = mx_min (nI (kh + (min x (lo + 1)))) (nI gl) := hq_122
        have hP : va_P K.1 mx_cl [(rg, .inr (2, [.int (nI (d - (kh + 1))), .int (nI lo), .int (nI gl), .ref ge, .ref sp, .ref sk])), (ge, .inl (K.2.1.1, 256, .inr (.inl fg))), (sp, .inl (K.2.1.1, 28, .inr (.inl fp))), (sk, .inl (K.2.1.1, 300, .inr (.inl fk)))] H := hP
        have hD : va_D A [(rg, .inr (2, [.int (nI (d - (kh + 1))), .int (nI lo), .int (nI gl), .ref ge, .ref sp, .ref sk])), (ge, .inl (K.2.1.1, 256, .inr (.inl fg))), (sp, .inl (K.2.1.1, 28, .inr (.inl fp))), (sk, .inl (K.2.1.1, 300, .inr (.inl fk)))] := hD
        refine W.cs (cells' := 0) (slots' := 0) rfl rfl ?_
        refine lv_topi (fun z_124 ez_124 => ?_)
        obtain rfl : z_124 = nI (min (kh + (min x (lo + 1))) gl) := ez_124.trans (mx_minN (by omega) (by omega))
        refine lv_istore (lv' := [(6, .int (nI (min (kh + (min x (lo + 1))) gl))), (5, .int (nI kh)), (3, .long z_116), (2, .int (nI (min x (lo + 1)))), (0, .ref rg), (1, .int (nI x))]) hx hb d_Reg_pop_83 hl (by decide) rfl (fun ls hl => ?_)
        refine lv_iload hx hb d_Reg_pop_85 (lv_at hl 0 rfl) ?_
        refine lv_iload hx hb d_Reg_pop_87 (lv_at hl 1 rfl) ?_
        refine lv_iconst (v := 1) hx hb d_Reg_pop_89 (by decide) ?_
        refine lv_iadd hx hb d_Reg_pop_90 ?_
        refine lv_topi (fun z_125 ez_125 => ?_)
        obtain rfl : z_125 = nI (kh + 1) := ez_125.trans (nI_add kh 1)
        refine lv_icmp_le (tgt := 117) hx hb d_Reg_pop_91 (by decide) (fun h_126 => ?_) (fun h_126 => ?_)
        · have h_126n := mx_fLe (a := (min (kh + (min x (lo + 1))) gl)) (b := (kh + 1)) (by omega) (by omega) h_126
          refine lv_iload hx hb d_Reg_pop_117 (lv_at hl 0 rfl) ?_
          refine lv_iload hx hb d_Reg_pop_119 (lv_at hl 1 rfl) ?_
          refine lv_icmp_le (tgt := 132) hx hb d_Reg_pop_121 (by decide) (fun h_127 => ?_) (fun h_127 => ?_)
          · have h_127n := mx_fLe (a := (min (kh + (min x (lo + 1))) gl)) (b := kh) (by omega) (by omega) h_127
            refine lv_aload_n hx hb d_Reg_pop_132 rfl (lv_at hl 4 rfl) ?_
            refine va_get (D := K.1) (ci := 2) (v := .ref sk) (C := R_Reg) (T := T_Reg) (N := 6) hx hb hT in_Reg hown hK hP 0 rfl rfl 5 (by decide) (hT _ k_50) (fun _ h9 => h9) rfl d_Reg_pop_133 ?_
            refine lv_aload_n hx hb d_Reg_pop_136 rfl (lv_at hl 4 rfl) ?_
            refine va_get (D := K.1) (ci := 2) (v := .int (nI (d - (kh + 1)))) (C := R_Reg) (T := T_Reg) (N := 6) hx hb hT in_Reg hown hK hP 0 rfl rfl 0 (by decide) (hT _ k_51) (fun _ h9 => h9) rfl d_Reg_pop_137 ?_
            refine lv_aload_n hx hb d_Reg_pop_140 rfl (lv_at hl 4 rfl) ?_
            refine va_get (D := K.1) (ci := 2) (v := .ref ge) (C := R_Reg) (T := T_Reg) (N := 6) hx hb hT in_Reg hown hK hP 0 rfl rfl 3 (by decide) (hT _ k_48) (fun _ h9 => h9) rfl d_Reg_pop_141 ?_
            refine lv_iconst (v := 0) hx hb d_Reg_pop_144 (by decide) ?_
            refine lv_iload hx hb d_Reg_pop_145 (lv_at hl 1 rfl) ?_
            refine lv_iload hx hb d_Reg_pop_147 (lv_at hl 0 rfl) ?_
            refine mx_ci (wr := [(rg, .inr (2, [.int (nI (d - (kh + 1))), .int (nI lo), .int (nI gl), .ref ge, .ref sp, .ref sk])), (ge, .inl (K.2.1.1, 256, .inr (.inl fg))), (sp, .inl (K.2.1.1, 28, .inr (.inl fp))), (sk, .inl (K.2.1.1, 300, .inr (.inl fk)))]) F (mx_runS (As := [.int (nI kh), .int (nI (min (kh + (min x (lo + 1))) gl))]) (rest := [.int 0, .ref ge, .int (nI (d - (kh + 1))), .ref sk]) (n := 2) F (s_Math_min l K (nI kh) (nI (min (kh + (min x (lo + 1))) gl)) H.size) k_510 (Or.inl k_837) k_509 k_17 p_Math_min rfl rfl hP hD hS [] rfl (by decide)  rfl hl.1 rfl (Nat.le_of_ble_eq_true rfl) ⟨by decide, by decide⟩ ⟨by decide, by decide⟩ d_Reg_pop_149) hP hD hS [] [0, 1, 2, 3] rfl rfl (by decide) (by decide) (fun r_129 _ H locs hq_128 hP hD hS => ?_)
            obtain rfl : r_129 = mx_min (nI kh) (nI (min (kh + (min x (lo + 1))) gl)) := hq_128
            have hP : va_P K.1 mx_cl [(rg, .inr (2, [.int (nI (d - (kh + 1))), .int (nI lo), .int (nI gl), .ref ge, .ref sp, .ref sk])), (ge, .inl (K.2.1.1, 256, .inr (.inl fg))), (sp, .inl (K.2.1.1, 28, .inr (.inl fp))), (sk, .inl (K.2.1.1, 300, .inr (.inl fk)))] H := hP
            have hD : va_D A [(rg, .inr (2, [.int (nI (d - (kh + 1))), .int (nI lo), .int (nI gl), .ref ge, .ref sp, .ref sk])), (ge, .inl (K.2.1.1, 256, .inr (.inl fg))), (sp, .inl (K.2.1.1, 28, .inr (.inl fp))), (sk, .inl (K.2.1.1, 300, .inr (.inl fk)))] := hD
            refine W.cs (cells' := 0) (slots' := 0) rfl rfl ?_
            refine lv_topi (fun z_130 ez_130 => ?_)
            obtain rfl : z_130 = nI (min kh (min (kh + (min x (lo + 1))) gl)) := ez_130.trans (mx_minN (by omega) (by omega))
            refine va_copyl hx hb (by rw [hml]; exact hl.1.symm) hown (hT _ k_804) (hT _ k_692) (hT _ k_691) (hT _ k_19) hK hP hD hS 3 1 0 0 rfl rfl rfl rfl rfl (nI_pos (n := (d - (kh + 1))) (by omega)) (nI_pos (n := 0) (by omega)) (nI_pos (n := (min kh (min (kh + (min x (lo + 1))) gl))) (by omega)) (mx_cp (a := (d - (kh + 1))) (n := (min kh (min (kh + (min x (lo + 1))) gl))) (by omega) (by omega) (by omega)) (mx_cp (a := 0) (n := (min kh (min (kh + (min x (lo + 1))) gl))) (by omega) (by omega) (by omega)) (fun _ _ => rfl) (by decide) (Nat.le_of_ble_eq_true rfl) d_Reg_pop_152 (fun H locs hP hD hS => ?_)
            have hP : va_P K.1 mx_cl [(rg, .inr (2, [.int (nI (d - (kh + 1))), .int (nI lo), .int (nI gl), .ref ge, .ref sp, .ref sk])), (ge, .inl (K.2.1.1, 256, .inr (.inl (va_cpy fk fg (nI (d - (kh + 1))).toNatClampNeg (nI 0).toNatClampNeg (nI (min kh (min (kh + (min x (lo + 1))) gl))).toNatClampNeg)))), (sp, .inl (K.2.1.1, 28, .inr (.inl fp))), (sk, .inl (K.2.1.1, 300, .inr (.inl fk)))] H := hP
            have hD : va_D A [(rg, .inr (2, [.int (nI (d - (kh + 1))), .int (nI lo), .int (nI gl), .ref ge, .ref sp, .ref sk])), (ge, .inl (K.2.1.1, 256, .inr (.inl (va_cpy fk fg (nI (d - (kh + 1))).toNatClampNeg (nI 0).toNatClampNeg (nI (min kh (min (kh + (min x (lo + 1))) gl))).toNatClampNeg)))), (sp, .inl (K.2.1.1, 28, .inr (.inl fp))), (sk, .inl (K.2.1.1, 300, .inr (.inl fk)))] := hD
            generalize ef_131 : va_cpy fk fg (nI (d - (kh + 1))).toNatClampNeg (nI 0).toNatClampNeg (nI (min kh (min (kh + (min x (lo + 1))) gl))).toNatClampNeg = f_131 at hP hD
            refine lv_aload_n hx hb d_Reg_pop_155 rfl (lv_at hl 4 rfl) ?_
            refine lv_iload hx hb d_Reg_pop_156 (lv_at hl 0 rfl) ?_
            refine lv_aload_n hx hb d_Reg_pop_158 rfl (lv_at hl 4 rfl) ?_
            refine va_get (D := K.1) (ci := 2) (v := .int (nI lo)) (C := R_Reg) (T := T_Reg) (N := 6) hx hb hT in_Reg hown hK hP 0 rfl rfl 1 (by decide) (hT _ k_53) (fun _ h9 => h9) rfl d_Reg_pop_159 ?_
            refine mx_cv (wr := [(sp, .inl (K.2.1.1, 28, .inr (.inl fp))), (sk, .inl (K.2.1.1, 300, .inr (.inl fk)))]) F (mx_runV (As := [.int (nI (min (kh + (min x (lo + 1))) gl)), .int (nI lo)]) (rest := []) (n := 2) F (s_Reg_clearFrom l K rg (min (kh + (min x (lo + 1))) gl) (nI lo) ge sp sk f_131 (d - (kh + 1)) lo gl H.size (by omega)) k_704 (Or.inl k_701) k_703 sl_Reg_clearFrom k_3 p_Reg_clearFrom rfl rfl hP hD hS [0, 1] rfl (by decide) (va_recv (q := (R_Reg, T_Reg, 6)) (ci := 2) (q0 := 0) hK hP rfl rfl) rfl hl.1 rfl (Nat.le_of_ble_eq_true rfl) ⟨by decide, by decide⟩ ⟨by decide, by decide⟩ d_Reg_pop_162) hP hD hS [0, 1] [2, 3] rfl rfl (by decide) (by decide) (fun u_133 H locs hq_132 hP hD hS => ?_)
            obtain ⟨w_135, rfl⟩ := hq_132
            have hP : va_P K.1 mx_cl [(sp, .inl (K.2.1.1, 28, .inr (.inl fp))), (sk, .inl (K.2.1.1, 300, .inr (.inl fk))), (rg, .inr (2, [.int (nI (d - (kh + 1))), .int (nI lo), .int (nI gl), .ref ge, .ref sp, .ref sk])), (ge, .inl (K.2.1.1, 256, .inr (.inl w_135)))] H := hP
            have hD : va_D A [(sp, .inl (K.2.1.1, 28, .inr (.inl fp))), (sk, .inl (K.2.1.1, 300, .inr (.inl fk))), (rg, .inr (2, [.int (nI (d - (kh + 1))), .int (nI lo), .int (nI gl), .ref ge, .ref sp, .ref sk])), (ge, .inl (K.2.1.1, 256, .inr (.inl w_135)))] := hD
            refine W.cs (cells' := 0) (slots' := 0) rfl rfl ?_
            refine lv_aload_n hx hb d_Reg_pop_165 rfl (lv_at hl 4 rfl) ?_
            refine lv_iload hx hb d_Reg_pop_166 (lv_at hl 0 rfl) ?_
            refine va_put (D := K.1) (ci := 2) (v := .int (nI (min (kh + (min x (lo + 1))) gl))) (ty := .int) (C := R_Reg) (T := T_Reg) (N := 6) hx hb hT in_Reg t_Reg t_Reg_ok n_Reg hown hK hP hD hS 2 rfl rfl 1 (by decide) (hT _ k_53) (fun _ h9 => h9) rfl (by decide +kernel) rfl rfl (Nat.le_of_ble_eq_true rfl) d_Reg_pop_168 (fun H locs hP hD hS => ?_)
            have hP : va_P K.1 mx_cl [(sp, .inl (K.2.1.1, 28, .inr (.inl fp))), (sk, .inl (K.2.1.1, 300, .inr (.inl fk))), (rg, .inr (2, [.int (nI (d - (kh + 1))), .int (nI (min (kh + (min x (lo + 1))) gl)), .int (nI gl), .ref ge, .ref sp, .ref sk])), (ge, .inl (K.2.1.1, 256, .inr (.inl w_135)))] H := hP
            have hD : va_D A [(sp, .inl (K.2.1.1, 28, .inr (.inl fp))), (sk, .inl (K.2.1.1, 300, .inr (.inl fk))), (rg, .inr (2, [.int (nI (d - (kh + 1))), .int (nI (min (kh + (min x (lo + 1))) gl)), .int (nI gl), .ref ge, .ref sp, .ref sk])), (ge, .inl (K.2.1.1, 256, .inr (.inl w_135)))] := hD
            refine lv_iconst (v := 1) hx hb d_Reg_pop_171 (by decide) ?_
            exact mx_ri F hr hlk (by decide) hP hD hS [(rg, .inr (2, [.int (nI (d - (kh + 1))), .int (nI (min (kh + (min x (lo + 1))) gl)), .int (nI gl), .ref ge, .ref sp, .ref sk])), (ge, .inl (K.2.1.1, 256, .inr (.inl w_135))), (sp, .inl (K.2.1.1, 28, .inr (.inl fp))), (sk, .inl (K.2.1.1, 300, .inr (.inl fk)))] [2, 3, 0, 1] rfl (by decide) ⟨(Or.inr rfl), ⟨(d - (kh + 1)), (min (kh + (min x (lo + 1))) gl), gl, w_135, fp, fk, (by first | assumption | omega | exact mx_ch_0), (by first | assumption | omega | exact mx_ch_0), (by first | assumption | omega | exact mx_ch_0), (by rw [show d - (kh + 1) = d - kh - 1 by omega]; exact hkc), rfl⟩⟩ (by decide) (by decide) d_Reg_pop_172
          · have h_127n := mx_fNle (a := (min (kh + (min x (lo + 1))) gl)) (b := kh) (by omega) (by omega) h_127
            refine lv_aload_n hx hb d_Reg_pop_124 rfl (lv_at hl 4 rfl) ?_
            refine va_get (D := K.1) (ci := 2) (v := .ref ge) (C := R_Reg) (T := T_Reg) (N := 6) hx hb hT in_Reg hown hK hP 0 rfl rfl 3 (by decide) (hT _ k_48) (fun _ h9 => h9) rfl d_Reg_pop_125 ?_
            refine lv_iload hx hb d_Reg_pop_128 (lv_at hl 1 rfl) ?_
            refine lv_lload_n hx hb d_Reg_pop_130 rfl (lv_at hl 2 rfl) ?_
            refine va_last hx hb hK hP hD hS 1 0 rfl rfl (i := nI kh) (x := z_116) (vp_in_nI (n := kh) (N := 256) (by omega) (by decide)) d_Reg_pop_131 (fun H locs hP hD hS => ?_)
            have hP : va_P K.1 mx_cl [(rg, .inr (2, [.int (nI (d - (kh + 1))), .int (nI lo), .int (nI gl), .ref ge, .ref sp, .ref sk])), (ge, .inl (K.2.1.1, 256, .inr (.inl (vp_updL fg (nI kh).toNatClampNeg z_116)))), (sp, .inl (K.2.1.1, 28, .inr (.inl fp))), (sk, .inl (K.2.1.1, 300, .inr (.inl fk)))] H := hP
            have hD : va_D A [(rg, .inr (2, [.int (nI (d - (kh + 1))), .int (nI lo), .int (nI gl), .ref ge, .ref sp, .ref sk])), (ge, .inl (K.2.1.1, 256, .inr (.inl (vp_updL fg (nI kh).toNatClampNeg z_116)))), (sp, .inl (K.2.1.1, 28, .inr (.inl fp))), (sk, .inl (K.2.1.1, 300, .inr (.inl fk)))] := hD
            generalize ef_137 : vp_updL fg (nI kh).toNatClampNeg z_116 = f_137 at hP hD
            refine lv_aload_n hx hb d_Reg_pop_132 rfl (lv_at hl 4 rfl) ?_
            refine va_get (D := K.1) (ci := 2) (v := .ref sk) (C := R_Reg) (T := T_Reg) (N := 6) hx hb hT in_Reg hown hK hP 0 rfl rfl 5 (by decide) (hT _ k_50) (fun _ h9 => h9) rfl d_Reg_pop_133 ?_
            refine lv_aload_n hx hb d_Reg_pop_136 rfl (lv_at hl 4 rfl) ?_
            refine va_get (D := K.1) (ci := 2) (v := .int (nI (d - (kh + 1)))) (C := R_Reg) (T := T_Reg) (N := 6) hx hb hT in_Reg hown hK hP 0 rfl rfl 0 (by decide) (hT _ k_51) (fun _ h9 => h9) rfl d_Reg_pop_137 ?_
            refine lv_aload_n hx hb d_Reg_pop_140 rfl (lv_at hl 4 rfl) ?_
            refine va_get (D := K.1) (ci := 2) (v := .ref ge) (C := R_Reg) (T := T_Reg) (N := 6) hx hb hT in_Reg hown hK hP 0 rfl rfl 3 (by decide) (hT _ k_48) (fun _ h9 => h9) rfl d_Reg_pop_141 ?_
            refine lv_iconst (v := 0) hx hb d_Reg_pop_144 (by decide) ?_
            refine lv_iload hx hb d_Reg_pop_145 (lv_at hl 1 rfl) ?_
            refine lv_iload hx hb d_Reg_pop_147 (lv_at hl 0 rfl) ?_
            refine mx_ci (wr := [(rg, .inr (2, [.int (nI (d - (kh + 1))), .int (nI lo), .int (nI gl), .ref ge, .ref sp, .ref sk])), (ge, .inl (K.2.1.1, 256, .inr (.inl f_137))), (sp, .inl (K.2.1.1, 28, .inr (.inl fp))), (sk, .inl (K.2.1.1, 300, .inr (.inl fk)))]) F (mx_runS (As := [.int (nI kh), .int (nI (min (kh + (min x (lo + 1))) gl))]) (rest := [.int 0, .ref ge, .int (nI (d - (kh + 1))), .ref sk]) (n := 2) F (s_Math_min l K (nI kh) (nI (min (kh + (min x (lo + 1))) gl)) H.size) k_510 (Or.inl k_837) k_509 k_17 p_Math_min rfl rfl hP hD hS [] rfl (by decide)  rfl hl.1 rfl (Nat.le_of_ble_eq_true rfl) ⟨by decide, by decide⟩ ⟨by decide, by decide⟩ d_Reg_pop_149) hP hD hS [] [0, 1, 2, 3] rfl rfl (by decide) (by decide) (fun r_139 _ H locs hq_138 hP hD hS => ?_)
            obtain rfl : r_139 = mx_min (nI kh) (nI (min (kh + (min x (lo + 1))) gl)) := hq_138
            have hP : va_P K.1 mx_cl [(rg, .inr (2, [.int (nI (d - (kh + 1))), .int (nI lo), .int (nI gl), .ref ge, .ref sp, .ref sk])), (ge, .inl (K.2.1.1, 256, .inr (.inl f_137))), (sp, .inl (K.2.1.1, 28, .inr (.inl fp))), (sk, .inl (K.2.1.1, 300, .inr (.inl fk)))] H := hP
            have hD : va_D A [(rg, .inr (2, [.int (nI (d - (kh + 1))), .int (nI lo), .int (nI gl), .ref ge, .ref sp, .ref sk])), (ge, .inl (K.2.1.1, 256, .inr (.inl f_137))), (sp, .inl (K.2.1.1, 28, .inr (.inl fp))), (sk, .inl (K.2.1.1, 300, .inr (.inl fk)))] := hD
            refine W.cs (cells' := 0) (slots' := 0) rfl rfl ?_
            refine lv_topi (fun z_140 ez_140 => ?_)
            obtain rfl : z_140 = nI (min kh (min (kh + (min x (lo + 1))) gl)) := ez_140.trans (mx_minN (by omega) (by omega))
            refine va_copyl hx hb (by rw [hml]; exact hl.1.symm) hown (hT _ k_804) (hT _ k_692) (hT _ k_691) (hT _ k_19) hK hP hD hS 3 1 0 0 rfl rfl rfl rfl rfl (nI_pos (n := (d - (kh + 1))) (by omega)) (nI_pos (n := 0) (by omega)) (nI_pos (n := (min kh (min (kh + (min x (lo + 1))) gl))) (by omega)) (mx_cp (a := (d - (kh + 1))) (n := (min kh (min (kh + (min x (lo + 1))) gl))) (by omega) (by omega) (by omega)) (mx_cp (a := 0) (n := (min kh (min (kh + (min x (lo + 1))) gl))) (by omega) (by omega) (by omega)) (fun _ _ => rfl) (by decide) (Nat.le_of_ble_eq_true rfl) d_Reg_pop_152 (fun H locs hP hD hS => ?_)
            have hP : va_P K.1 mx_cl [(rg, .inr (2, [.int (nI (d - (kh + 1))), .int (nI lo), .int (nI gl), .ref ge, .ref sp, .ref sk])), (ge, .inl (K.2.1.1, 256, .inr (.inl (va_cpy fk f_137 (nI (d - (kh + 1))).toNatClampNeg (nI 0).toNatClampNeg (nI (min kh (min (kh + (min x (lo + 1))) gl))).toNatClampNeg)))), (sp, .inl (K.2.1.1, 28, .inr (.inl fp))), (sk, .inl (K.2.1.1, 300, .inr (.inl fk)))] H := hP
            have hD : va_D A [(rg, .inr (2, [.int (nI (d - (kh + 1))), .int (nI lo), .int (nI gl), .ref ge, .ref sp, .ref sk])), (ge, .inl (K.2.1.1, 256, .inr (.inl (va_cpy fk f_137 (nI (d - (kh + 1))).toNatClampNeg (nI 0).toNatClampNeg (nI (min kh (min (kh + (min x (lo + 1))) gl))).toNatClampNeg)))), (sp, .inl (K.2.1.1, 28, .inr (.inl fp))), (sk, .inl (K.2.1.1, 300, .inr (.inl fk)))] := hD
            generalize ef_141 : va_cpy fk f_137 (nI (d - (kh + 1))).toNatClampNeg (nI 0).toNatClampNeg (nI (min kh (min (kh + (min x (lo + 1))) gl))).toNatClampNeg = f_141 at hP hD
            refine lv_aload_n hx hb d_Reg_pop_155 rfl (lv_at hl 4 rfl) ?_
            refine lv_iload hx hb d_Reg_pop_156 (lv_at hl 0 rfl) ?_
            refine lv_aload_n hx hb d_Reg_pop_158 rfl (lv_at hl 4 rfl) ?_
            refine va_get (D := K.1) (ci := 2) (v := .int (nI lo)) (C := R_Reg) (T := T_Reg) (N := 6) hx hb hT in_Reg hown hK hP 0 rfl rfl 1 (by decide) (hT _ k_53) (fun _ h9 => h9) rfl d_Reg_pop_159 ?_
            refine mx_cv (wr := [(sp, .inl (K.2.1.1, 28, .inr (.inl fp))), (sk, .inl (K.2.1.1, 300, .inr (.inl fk)))]) F (mx_runV (As := [.int (nI (min (kh + (min x (lo + 1))) gl)), .int (nI lo)]) (rest := []) (n := 2) F (s_Reg_clearFrom l K rg (min (kh + (min x (lo + 1))) gl) (nI lo) ge sp sk f_141 (d - (kh + 1)) lo gl H.size (by omega)) k_704 (Or.inl k_701) k_703 sl_Reg_clearFrom k_3 p_Reg_clearFrom rfl rfl hP hD hS [0, 1] rfl (by decide) (va_recv (q := (R_Reg, T_Reg, 6)) (ci := 2) (q0 := 0) hK hP rfl rfl) rfl hl.1 rfl (Nat.le_of_ble_eq_true rfl) ⟨by decide, by decide⟩ ⟨by decide, by decide⟩ d_Reg_pop_162) hP hD hS [0, 1] [2, 3] rfl rfl (by decide) (by decide) (fun u_143 H locs hq_142 hP hD hS => ?_)
            obtain ⟨w_145, rfl⟩ := hq_142
            have hP : va_P K.1 mx_cl [(sp, .inl (K.2.1.1, 28, .inr (.inl fp))), (sk, .inl (K.2.1.1, 300, .inr (.inl fk))), (rg, .inr (2, [.int (nI (d - (kh + 1))), .int (nI lo), .int (nI gl), .ref ge, .ref sp, .ref sk])), (ge, .inl (K.2.1.1, 256, .inr (.inl w_145)))] H := hP
            have hD : va_D A [(sp, .inl (K.2.1.1, 28, .inr (.inl fp))), (sk, .inl (K.2.1.1, 300, .inr (.inl fk))), (rg, .inr (2, [.int (nI (d - (kh + 1))), .int (nI lo), .int (nI gl), .ref ge, .ref sp, .ref sk])), (ge, .inl (K.2.1.1, 256, .inr (.inl w_145)))] := hD
            refine W.cs (cells' := 0) (slots' := 0) rfl rfl ?_
            refine lv_aload_n hx hb d_Reg_pop_165 rfl (lv_at hl 4 rfl) ?_
            refine lv_iload hx hb d_Reg_pop_166 (lv_at hl 0 rfl) ?_
            refine va_put (D := K.1) (ci := 2) (v := .int (nI (min (kh + (min x (lo + 1))) gl))) (ty := .int) (C := R_Reg) (T := T_Reg) (N := 6) hx hb hT in_Reg t_Reg t_Reg_ok n_Reg hown hK hP hD hS 2 rfl rfl 1 (by decide) (hT _ k_53) (fun _ h9 => h9) rfl (by decide +kernel) rfl rfl (Nat.le_of_ble_eq_true rfl) d_Reg_pop_168 (fun H locs hP hD hS => ?_)
            have hP : va_P K.1 mx_cl [(sp, .inl (K.2.1.1, 28, .inr (.inl fp))), (sk, .inl (K.2.1.1, 300, .inr (.inl fk))), (rg, .inr (2, [.int (nI (d - (kh + 1))), .int (nI (min (kh + (min x (lo + 1))) gl)), .int (nI gl), .ref ge, .ref sp, .ref sk])), (ge, .inl (K.2.1.1, 256, .inr (.inl w_145)))] H := hP
            have hD : va_D A [(sp, .inl (K.2.1.1, 28, .inr (.inl fp))), (sk, .inl (K.2.1.1, 300, .inr (.inl fk))), (rg, .inr (2, [.int (nI (d - (kh + 1))), .int (nI (min (kh + (min x (lo + 1))) gl)), .int (nI gl), .ref ge, .ref sp, .ref sk])), (ge, .inl (K.2.1.1, 256, .inr (.inl w_145)))] := hD
            refine lv_iconst (v := 1) hx hb d_Reg_pop_171 (by decide) ?_
            exact mx_ri F hr hlk (by decide) hP hD hS [(rg, .inr (2, [.int (nI (d - (kh + 1))), .int (nI (min (kh + (min x (lo + 1))) gl)), .int (nI gl), .ref ge, .ref sp, .ref sk])), (ge, .inl (K.2.1.1, 256, .inr (.inl w_145))), (sp, .inl (K.2.1.1, 28, .inr (.inl fp))), (sk, .inl (K.2.1.1, 300, .inr (.inl fk)))] [2, 3, 0, 1] rfl (by decide) ⟨(Or.inr rfl), ⟨(d - (kh + 1)), (min (kh + (min x (lo + 1))) gl), gl, w_145, fp, fk, (by first | assumption | omega | exact mx_ch_0), (by first | assumption | omega | exact mx_ch_0), (by first | assumption | omega | exact mx_ch_0), (by rw [show d - (kh + 1) = d - kh - 1 by omega]; exact hkc), rfl⟩⟩ (by decide) (by decide) d_Reg_pop_172
        · have h_126n := mx_fNle (a := (min (kh + (min x (lo + 1))) gl)) (b := (kh + 1)) (by omega) (by omega) h_126
          refine lv_aload_n hx hb d_Reg_pop_94 rfl (lv_at hl 4 rfl) ?_
          refine va_get (D := K.1) (ci := 2) (v := .ref ge) (C := R_Reg) (T := T_Reg) (N := 6) hx hb hT in_Reg hown hK hP 0 rfl rfl 3 (by decide) (hT _ k_48) (fun _ h9 => h9) rfl d_Reg_pop_95 ?_
          refine lv_iconst (v := 0) hx hb d_Reg_pop_98 (by decide) ?_
          refine lv_aload_n hx hb d_Reg_pop_99 rfl (lv_at hl 4 rfl) ?_
          refine va_get (D := K.1) (ci := 2) (v := .ref ge) (C := R_Reg) (T := T_Reg) (N := 6) hx hb hT in_Reg hown hK hP 0 rfl rfl 3 (by decide) (hT _ k_48) (fun _ h9 => h9) rfl d_Reg_pop_100 ?_
          refine lv_iload hx hb d_Reg_pop_103 (lv_at hl 1 rfl) ?_
          refine lv_iconst (v := 1) hx hb d_Reg_pop_105 (by decide) ?_
          refine lv_iadd hx hb d_Reg_pop_106 ?_
          refine lv_topi (fun z_147 ez_147 => ?_)
          obtain rfl : z_147 = nI (kh + 1) := ez_147.trans (nI_add kh 1)
          refine lv_iload hx hb d_Reg_pop_107 (lv_at hl 0 rfl) ?_
          refine lv_iload hx hb d_Reg_pop_109 (lv_at hl 1 rfl) ?_
          refine lv_isub hx hb d_Reg_pop_111 ?_
          refine lv_topi (fun z_148 ez_148 => ?_)
          obtain rfl : z_148 = nI ((min (kh + (min x (lo + 1))) gl) - kh) := ez_148.trans (pk_sub (a := (min (kh + (min x (lo + 1))) gl)) (b := kh) (by omega))
          refine lv_iconst (v := 1) hx hb d_Reg_pop_112 (by decide) ?_
          refine lv_isub hx hb d_Reg_pop_113 ?_
          refine lv_topi (fun z_149 ez_149 => ?_)
          obtain rfl : z_149 = nI (((min (kh + (min x (lo + 1))) gl) - kh) - 1) := ez_149.trans (pk_sub (a := ((min (kh + (min x (lo + 1))) gl) - kh)) (b := 1) (by omega))
          refine va_copyl hx hb (by rw [hml]; exact hl.1.symm) hown (hT _ k_804) (hT _ k_692) (hT _ k_691) (hT _ k_19) hK hP hD hS 1 1 0 0 rfl rfl rfl rfl rfl (nI_pos (n := 0) (by omega)) (nI_pos (n := (kh + 1)) (by omega)) (nI_pos (n := (((min (kh + (min x (lo + 1))) gl) - kh) - 1)) (by omega)) (mx_cp (a := 0) (n := (((min (kh + (min x (lo + 1))) gl) - kh) - 1)) (by omega) (by omega) (by omega)) (mx_cp (a := (kh + 1)) (n := (((min (kh + (min x (lo + 1))) gl) - kh) - 1)) (by omega) (by omega) (by omega)) (fun _ _ => rfl) (by decide) (Nat.le_of_ble_eq_true rfl) d_Reg_pop_114 (fun H locs hP hD hS => ?_)
          have hP : va_P K.1 mx_cl [(rg, .inr (2, [.int (nI (d - (kh + 1))), .int (nI lo), .int (nI gl), .ref ge, .ref sp, .ref sk])), (ge, .inl (K.2.1.1, 256, .inr (.inl (va_cpy fg fg (nI 0).toNatClampNeg (nI (kh + 1)).toNatClampNeg (nI (((min (kh + (min x (lo + 1))) gl) - kh) - 1)).toNatClampNeg)))), (sp, .inl (K.2.1.1, 28, .inr (.inl fp))), (sk, .inl (K.2.1.1, 300, .inr (.inl fk)))] H := hP
          have hD : va_D A [(rg, .inr (2, [.int (nI (d - (kh + 1))), .int (nI lo), .int (nI gl), .ref ge, .ref sp, .ref sk])), (ge, .inl (K.2.1.1, 256, .inr (.inl (va_cpy fg fg (nI 0).toNatClampNeg (nI (kh + 1)).toNatClampNeg (nI (((min (kh + (min x (lo + 1))) gl) - kh) - 1)).toNatClampNeg)))), (sp, .inl (K.2.1.1, 28, .inr (.inl fp))), (sk, .inl (K.2.1.1, 300, .inr (.inl fk)))] := hD
          generalize ef_150 : va_cpy fg fg (nI 0).toNatClampNeg (nI (kh + 1)).toNatClampNeg (nI (((min (kh + (min x (lo + 1))) gl) - kh) - 1)).toNatClampNeg = f_150 at hP hD
          refine lv_iload hx hb d_Reg_pop_117 (lv_at hl 0 rfl) ?_
          refine lv_iload hx hb d_Reg_pop_119 (lv_at hl 1 rfl) ?_
          refine lv_icmp_le (tgt := 132) hx hb d_Reg_pop_121 (by decide) (fun h_151 => ?_) (fun h_151 => ?_)
          · have h_151n := mx_fLe (a := (min (kh + (min x (lo + 1))) gl)) (b := kh) (by omega) (by omega) h_151
            refine lv_aload_n hx hb d_Reg_pop_132 rfl (lv_at hl 4 rfl) ?_
            refine va_get (D := K.1) (ci := 2) (v := .ref sk) (C := R_Reg) (T := T_Reg) (N := 6) hx hb hT in_Reg hown hK hP 0 rfl rfl 5 (by decide) (hT _ k_50) (fun _ h9 => h9) rfl d_Reg_pop_133 ?_
            refine lv_aload_n hx hb d_Reg_pop_136 rfl (lv_at hl 4 rfl) ?_
            refine va_get (D := K.1) (ci := 2) (v := .int (nI (d - (kh + 1)))) (C := R_Reg) (T := T_Reg) (N := 6) hx hb hT in_Reg hown hK hP 0 rfl rfl 0 (by decide) (hT _ k_51) (fun _ h9 => h9) rfl d_Reg_pop_137 ?_
            refine lv_aload_n hx hb d_Reg_pop_140 rfl (lv_at hl 4 rfl) ?_
            refine va_get (D := K.1) (ci := 2) (v := .ref ge) (C := R_Reg) (T := T_Reg) (N := 6) hx hb hT in_Reg hown hK hP 0 rfl rfl 3 (by decide) (hT _ k_48) (fun _ h9 => h9) rfl d_Reg_pop_141 ?_
            refine lv_iconst (v := 0) hx hb d_Reg_pop_144 (by decide) ?_
            refine lv_iload hx hb d_Reg_pop_145 (lv_at hl 1 rfl) ?_
            refine lv_iload hx hb d_Reg_pop_147 (lv_at hl 0 rfl) ?_
            refine mx_ci (wr := [(rg, .inr (2, [.int (nI (d - (kh + 1))), .int (nI lo), .int (nI gl), .ref ge, .ref sp, .ref sk])), (ge, .inl (K.2.1.1, 256, .inr (.inl f_150))), (sp, .inl (K.2.1.1, 28, .inr (.inl fp))), (sk, .inl (K.2.1.1, 300, .inr (.inl fk)))]) F (mx_runS (As := [.int (nI kh), .int (nI (min (kh + (min x (lo + 1))) gl))]) (rest := [.int 0, .ref ge, .int (nI (d - (kh + 1))), .ref sk]) (n := 2) F (s_Math_min l K (nI kh) (nI (min (kh + (min x (lo + 1))) gl)) H.size) k_510 (Or.inl k_837) k_509 k_17 p_Math_min rfl rfl hP hD hS [] rfl (by decide)  rfl hl.1 rfl (Nat.le_of_ble_eq_true rfl) ⟨by decide, by decide⟩ ⟨by decide, by decide⟩ d_Reg_pop_149) hP hD hS [] [0, 1, 2, 3] rfl rfl (by decide) (by decide) (fun r_153 _ H locs hq_152 hP hD hS => ?_)
            obtain rfl : r_153 = mx_min (nI kh) (nI (min (kh + (min x (lo + 1))) gl)) := hq_152
            have hP : va_P K.1 mx_cl [(rg, .inr (2, [.int (nI (d - (kh + 1))), .int (nI lo), .int (nI gl), .ref ge, .ref sp, .ref sk])), (ge, .inl (K.2.1.1, 256, .inr (.inl f_150))), (sp, .inl (K.2.1.1, 28, .inr (.inl fp))), (sk, .inl (K.2.1.1, 300, .inr (.inl fk)))] H := hP
            have hD : va_D A [(rg, .inr (2, [.int (nI (d - (kh + 1))), .int (nI lo), .int (nI gl), .ref ge, .ref sp, .ref sk])), (ge, .inl (K.2.1.1, 256, .inr (.inl f_150))), (sp, .inl (K.2.1.1, 28, .inr (.inl fp))), (sk, .inl (K.2.1.1, 300, .inr (.inl fk)))] := hD
            refine W.cs (cells' := 0) (slots' := 0) rfl rfl ?_
            refine lv_topi (fun z_154 ez_154 => ?_)
            obtain rfl : z_154 = nI (min kh (min (kh + (min x (lo + 1))) gl)) := ez_154.trans (mx_minN (by omega) (by omega))
            refine va_copyl hx hb (by rw [hml]; exact hl.1.symm) hown (hT _ k_804) (hT _ k_692) (hT _ k_691) (hT _ k_19) hK hP hD hS 3 1 0 0 rfl rfl rfl rfl rfl (nI_pos (n := (d - (kh + 1))) (by omega)) (nI_pos (n := 0) (by omega)) (nI_pos (n := (min kh (min (kh + (min x (lo + 1))) gl))) (by omega)) (mx_cp (a := (d - (kh + 1))) (n := (min kh (min (kh + (min x (lo + 1))) gl))) (by omega) (by omega) (by omega)) (mx_cp (a := 0) (n := (min kh (min (kh + (min x (lo + 1))) gl))) (by omega) (by omega) (by omega)) (fun _ _ => rfl) (by decide) (Nat.le_of_ble_eq_true rfl) d_Reg_pop_152 (fun H locs hP hD hS => ?_)
            have hP : va_P K.1 mx_cl [(rg, .inr (2, [.int (nI (d - (kh + 1))), .int (nI lo), .int (nI gl), .ref ge, .ref sp, .ref sk])), (ge, .inl (K.2.1.1, 256, .inr (.inl (va_cpy fk f_150 (nI (d - (kh + 1))).toNatClampNeg (nI 0).toNatClampNeg (nI (min kh (min (kh + (min x (lo + 1))) gl))).toNatClampNeg)))), (sp, .inl (K.2.1.1, 28, .inr (.inl fp))), (sk, .inl (K.2.1.1, 300, .inr (.inl fk)))] H := hP
            have hD : va_D A [(rg, .inr (2, [.int (nI (d - (kh + 1))), .int (nI lo), .int (nI gl), .ref ge, .ref sp, .ref sk])), (ge, .inl (K.2.1.1, 256, .inr (.inl (va_cpy fk f_150 (nI (d - (kh + 1))).toNatClampNeg (nI 0).toNatClampNeg (nI (min kh (min (kh + (min x (lo + 1))) gl))).toNatClampNeg)))), (sp, .inl (K.2.1.1, 28, .inr (.inl fp))), (sk, .inl (K.2.1.1, 300, .inr (.inl fk)))] := hD
            generalize ef_155 : va_cpy fk f_150 (nI (d - (kh + 1))).toNatClampNeg (nI 0).toNatClampNeg (nI (min kh (min (kh + (min x (lo + 1))) gl))).toNatClampNeg = f_155 at hP hD
            refine lv_aload_n hx hb d_Reg_pop_155 rfl (lv_at hl 4 rfl) ?_
            refine lv_iload hx hb d_Reg_pop_156 (lv_at hl 0 rfl) ?_
            refine lv_aload_n hx hb d_Reg_pop_158 rfl (lv_at hl 4 rfl) ?_
            refine va_get (D := K.1) (ci := 2) (v := .int (nI lo)) (C := R_Reg) (T := T_Reg) (N := 6) hx hb hT in_Reg hown hK hP 0 rfl rfl 1 (by decide) (hT _ k_53) (fun _ h9 => h9) rfl d_Reg_pop_159 ?_
            refine mx_cv (wr := [(sp, .inl (K.2.1.1, 28, .inr (.inl fp))), (sk, .inl (K.2.1.1, 300, .inr (.inl fk)))]) F (mx_runV (As := [.int (nI (min (kh + (min x (lo + 1))) gl)), .int (nI lo)]) (rest := []) (n := 2) F (s_Reg_clearFrom l K rg (min (kh + (min x (lo + 1))) gl) (nI lo) ge sp sk f_155 (d - (kh + 1)) lo gl H.size (by omega)) k_704 (Or.inl k_701) k_703 sl_Reg_clearFrom k_3 p_Reg_clearFrom rfl rfl hP hD hS [0, 1] rfl (by decide) (va_recv (q := (R_Reg, T_Reg, 6)) (ci := 2) (q0 := 0) hK hP rfl rfl) rfl hl.1 rfl (Nat.le_of_ble_eq_true rfl) ⟨by decide, by decide⟩ ⟨by decide, by decide⟩ d_Reg_pop_162) hP hD hS [0, 1] [2, 3] rfl rfl (by decide) (by decide) (fun u_157 H locs hq_156 hP hD hS => ?_)
            obtain ⟨w_159, rfl⟩ := hq_156
            have hP : va_P K.1 mx_cl [(sp, .inl (K.2.1.1, 28, .inr (.inl fp))), (sk, .inl (K.2.1.1, 300, .inr (.inl fk))), (rg, .inr (2, [.int (nI (d - (kh + 1))), .int (nI lo), .int (nI gl), .ref ge, .ref sp, .ref sk])), (ge, .inl (K.2.1.1, 256, .inr (.inl w_159)))] H := hP
            have hD : va_D A [(sp, .inl (K.2.1.1, 28, .inr (.inl fp))), (sk, .inl (K.2.1.1, 300, .inr (.inl fk))), (rg, .inr (2, [.int (nI (d - (kh + 1))), .int (nI lo), .int (nI gl), .ref ge, .ref sp, .ref sk])), (ge, .inl (K.2.1.1, 256, .inr (.inl w_159)))] := hD
            refine W.cs (cells' := 0) (slots' := 0) rfl rfl ?_
            refine lv_aload_n hx hb d_Reg_pop_165 rfl (lv_at hl 4 rfl) ?_
            refine lv_iload hx hb d_Reg_pop_166 (lv_at hl 0 rfl) ?_
            refine va_put (D := K.1) (ci := 2) (v := .int (nI (min (kh + (min x (lo + 1))) gl))) (ty := .int) (C := R_Reg) (T := T_Reg) (N := 6) hx hb hT in_Reg t_Reg t_Reg_ok n_Reg hown hK hP hD hS 2 rfl rfl 1 (by decide) (hT _ k_53) (fun _ h9 => h9) rfl (by decide +kernel) rfl rfl (Nat.le_of_ble_eq_true rfl) d_Reg_pop_168 (fun H locs hP hD hS => ?_)
            have hP : va_P K.1 mx_cl [(sp, .inl (K.2.1.1, 28, .inr (.inl fp))), (sk, .inl (K.2.1.1, 300, .inr (.inl fk))), (rg, .inr (2, [.int (nI (d - (kh + 1))), .int (nI (min (kh + (min x (lo + 1))) gl)), .int (nI gl), .ref ge, .ref sp, .ref sk])), (ge, .inl (K.2.1.1, 256, .inr (.inl w_159)))] H := hP
            have hD : va_D A [(sp, .inl (K.2.1.1, 28, .inr (.inl fp))), (sk, .inl (K.2.1.1, 300, .inr (.inl fk))), (rg, .inr (2, [.int (nI (d - (kh + 1))), .int (nI (min (kh + (min x (lo + 1))) gl)), .int (nI gl), .ref ge, .ref sp, .ref sk])), (ge, .inl (K.2.1.1, 256, .inr (.inl w_159)))] := hD
            refine lv_iconst (v := 1) hx hb d_Reg_pop_171 (by decide) ?_
            exact mx_ri F hr hlk (by decide) hP hD hS [(rg, .inr (2, [.int (nI (d - (kh + 1))), .int (nI (min (kh + (min x (lo + 1))) gl)), .int (nI gl), .ref ge, .ref sp, .ref sk])), (ge, .inl (K.2.1.1, 256, .inr (.inl w_159))), (sp, .inl (K.2.1.1, 28, .inr (.inl fp))), (sk, .inl (K.2.1.1, 300, .inr (.inl fk)))] [2, 3, 0, 1] rfl (by decide) ⟨(Or.inr rfl), ⟨(d - (kh + 1)), (min (kh + (min x (lo + 1))) gl), gl, w_159, fp, fk, (by first | assumption | omega | exact mx_ch_0), (by first | assumption | omega | exact mx_ch_0), (by first | assumption | omega | exact mx_ch_0), (by rw [show d - (kh + 1) = d - kh - 1 by omega]; exact hkc), rfl⟩⟩ (by decide) (by decide) d_Reg_pop_172
          · have h_151n := mx_fNle (a := (min (kh + (min x (lo + 1))) gl)) (b := kh) (by omega) (by omega) h_151
            refine lv_aload_n hx hb d_Reg_pop_124 rfl (lv_at hl 4 rfl) ?_
            refine va_get (D := K.1) (ci := 2) (v := .ref ge) (C := R_Reg) (T := T_Reg) (N := 6) hx hb hT in_Reg hown hK hP 0 rfl rfl 3 (by decide) (hT _ k_48) (fun _ h9 => h9) rfl d_Reg_pop_125 ?_
            refine lv_iload hx hb d_Reg_pop_128 (lv_at hl 1 rfl) ?_
            refine lv_lload_n hx hb d_Reg_pop_130 rfl (lv_at hl 2 rfl) ?_
            refine va_last hx hb hK hP hD hS 1 0 rfl rfl (i := nI kh) (x := z_116) (vp_in_nI (n := kh) (N := 256) (by omega) (by decide)) d_Reg_pop_131 (fun H locs hP hD hS => ?_)
            have hP : va_P K.1 mx_cl [(rg, .inr (2, [.int (nI (d - (kh + 1))), .int (nI lo), .int (nI gl), .ref ge, .ref sp, .ref sk])), (ge, .inl (K.2.1.1, 256, .inr (.inl (vp_updL f_150 (nI kh).toNatClampNeg z_116)))), (sp, .inl (K.2.1.1, 28, .inr (.inl fp))), (sk, .inl (K.2.1.1, 300, .inr (.inl fk)))] H := hP
            have hD : va_D A [(rg, .inr (2, [.int (nI (d - (kh + 1))), .int (nI lo), .int (nI gl), .ref ge, .ref sp, .ref sk])), (ge, .inl (K.2.1.1, 256, .inr (.inl (vp_updL f_150 (nI kh).toNatClampNeg z_116)))), (sp, .inl (K.2.1.1, 28, .inr (.inl fp))), (sk, .inl (K.2.1.1, 300, .inr (.inl fk)))] := hD
            generalize ef_161 : vp_updL f_150 (nI kh).toNatClampNeg z_116 = f_161 at hP hD
            refine lv_aload_n hx hb d_Reg_pop_132 rfl (lv_at hl 4 rfl) ?_
            refine va_get (D := K.1) (ci := 2) (v := .ref sk) (C := R_Reg) (T := T_Reg) (N := 6) hx hb hT in_Reg hown hK hP 0 rfl rfl 5 (by decide) (hT _ k_50) (fun _ h9 => h9) rfl d_Reg_pop_133 ?_
            refine lv_aload_n hx hb d_Reg_pop_136 rfl (lv_at hl 4 rfl) ?_
            refine va_get (D := K.1) (ci := 2) (v := .int (nI (d - (kh + 1)))) (C := R_Reg) (T := T_Reg) (N := 6) hx hb hT in_Reg hown hK hP 0 rfl rfl 0 (by decide) (hT _ k_51) (fun _ h9 => h9) rfl d_Reg_pop_137 ?_
            refine lv_aload_n hx hb d_Reg_pop_140 rfl (lv_at hl 4 rfl) ?_
            refine va_get (D := K.1) (ci := 2) (v := .ref ge) (C := R_Reg) (T := T_Reg) (N := 6) hx hb hT in_Reg hown hK hP 0 rfl rfl 3 (by decide) (hT _ k_48) (fun _ h9 => h9) rfl d_Reg_pop_141 ?_
            refine lv_iconst (v := 0) hx hb d_Reg_pop_144 (by decide) ?_
            refine lv_iload hx hb d_Reg_pop_145 (lv_at hl 1 rfl) ?_
            refine lv_iload hx hb d_Reg_pop_147 (lv_at hl 0 rfl) ?_
            refine mx_ci (wr := [(rg, .inr (2, [.int (nI (d - (kh + 1))), .int (nI lo), .int (nI gl), .ref ge, .ref sp, .ref sk])), (ge, .inl (K.2.1.1, 256, .inr (.inl f_161))), (sp, .inl (K.2.1.1, 28, .inr (.inl fp))), (sk, .inl (K.2.1.1, 300, .inr (.inl fk)))]) F (mx_runS (As := [.int (nI kh), .int (nI (min (kh + (min x (lo + 1))) gl))]) (rest := [.int 0, .ref ge, .int (nI (d - (kh + 1))), .ref sk]) (n := 2) F (s_Math_min l K (nI kh) (nI (min (kh + (min x (lo + 1))) gl)) H.size) k_510 (Or.inl k_837) k_509 k_17 p_Math_min rfl rfl hP hD hS [] rfl (by decide)  rfl hl.1 rfl (Nat.le_of_ble_eq_true rfl) ⟨by decide, by decide⟩ ⟨by decide, by decide⟩ d_Reg_pop_149) hP hD hS [] [0, 1, 2, 3] rfl rfl (by decide) (by decide) (fun r_163 _ H locs hq_162 hP hD hS => ?_)
            obtain rfl : r_163 = mx_min (nI kh) (nI (min (kh + (min x (lo + 1))) gl)) := hq_162
            have hP : va_P K.1 mx_cl [(rg, .inr (2, [.int (nI (d - (kh + 1))), .int (nI lo), .int (nI gl), .ref ge, .ref sp, .ref sk])), (ge, .inl (K.2.1.1, 256, .inr (.inl f_161))), (sp, .inl (K.2.1.1, 28, .inr (.inl fp))), (sk, .inl (K.2.1.1, 300, .inr (.inl fk)))] H := hP
            have hD : va_D A [(rg, .inr (2, [.int (nI (d - (kh + 1))), .int (nI lo), .int (nI gl), .ref ge, .ref sp, .ref sk])), (ge, .inl (K.2.1.1, 256, .inr (.inl f_161))), (sp, .inl (K.2.1.1, 28, .inr (.inl fp))), (sk, .inl (K.2.1.1, 300, .inr (.inl fk)))] := hD
            refine W.cs (cells' := 0) (slots' := 0) rfl rfl ?_
            refine lv_topi (fun z_164 ez_164 => ?_)
            obtain rfl : z_164 = nI (min kh (min (kh + (min x (lo + 1))) gl)) := ez_164.trans (mx_minN (by omega) (by omega))
            refine va_copyl hx hb (by rw [hml]; exact hl.1.symm) hown (hT _ k_804) (hT _ k_692) (hT _ k_691) (hT _ k_19) hK hP hD hS 3 1 0 0 rfl rfl rfl rfl rfl (nI_pos (n := (d - (kh + 1))) (by omega)) (nI_pos (n := 0) (by omega)) (nI_pos (n := (min kh (min (kh + (min x (lo + 1))) gl))) (by omega)) (mx_cp (a := (d - (kh + 1))) (n := (min kh (min (kh + (min x (lo + 1))) gl))) (by omega) (by omega) (by omega)) (mx_cp (a := 0) (n := (min kh (min (kh + (min x (lo + 1))) gl))) (by omega) (by omega) (by omega)) (fun _ _ => rfl) (by decide) (Nat.le_of_ble_eq_true rfl) d_Reg_pop_152 (fun H locs hP hD hS => ?_)
            have hP : va_P K.1 mx_cl [(rg, .inr (2, [.int (nI (d - (kh + 1))), .int (nI lo), .int (nI gl), .ref ge, .ref sp, .ref sk])), (ge, .inl (K.2.1.1, 256, .inr (.inl (va_cpy fk f_161 (nI (d - (kh + 1))).toNatClampNeg (nI 0).toNatClampNeg (nI (min kh (min (kh + (min x (lo + 1))) gl))).toNatClampNeg)))), (sp, .inl (K.2.1.1, 28, .inr (.inl fp))), (sk, .inl (K.2.1.1, 300, .inr (.inl fk)))] H := hP
            have hD : va_D A [(rg, .inr (2, [.int (nI (d - (kh + 1))), .int (nI lo), .int (nI gl), .ref ge, .ref sp, .ref sk])), (ge, .inl (K.2.1.1, 256, .inr (.inl (va_cpy fk f_161 (nI (d - (kh + 1))).toNatClampNeg (nI 0).toNatClampNeg (nI (min kh (min (kh + (min x (lo + 1))) gl))).toNatClampNeg)))), (sp, .inl (K.2.1.1, 28, .inr (.inl fp))), (sk, .inl (K.2.1.1, 300, .inr (.inl fk)))] := hD
            generalize ef_165 : va_cpy fk f_161 (nI (d - (kh + 1))).toNatClampNeg (nI 0).toNatClampNeg (nI (min kh (min (kh + (min x (lo + 1))) gl))).toNatClampNeg = f_165 at hP hD
            refine lv_aload_n hx hb d_Reg_pop_155 rfl (lv_at hl 4 rfl) ?_
            refine lv_iload hx hb d_Reg_pop_156 (lv_at hl 0 rfl) ?_
            refine lv_aload_n hx hb d_Reg_pop_158 rfl (lv_at hl 4 rfl) ?_
            refine va_get (D := K.1) (ci := 2) (v := .int (nI lo)) (C := R_Reg) (T := T_Reg) (N := 6) hx hb hT in_Reg hown hK hP 0 rfl rfl 1 (by decide) (hT _ k_53) (fun _ h9 => h9) rfl d_Reg_pop_159 ?_
            refine mx_cv (wr := [(sp, .inl (K.2.1.1, 28, .inr (.inl fp))), (sk, .inl (K.2.1.1, 300, .inr (.inl fk)))]) F (mx_runV (As := [.int (nI (min (kh + (min x (lo + 1))) gl)), .int (nI lo)]) (rest := []) (n := 2) F (s_Reg_clearFrom l K rg (min (kh + (min x (lo + 1))) gl) (nI lo) ge sp sk f_165 (d - (kh + 1)) lo gl H.size (by omega)) k_704 (Or.inl k_701) k_703 sl_Reg_clearFrom k_3 p_Reg_clearFrom rfl rfl hP hD hS [0, 1] rfl (by decide) (va_recv (q := (R_Reg, T_Reg, 6)) (ci := 2) (q0 := 0) hK hP rfl rfl) rfl hl.1 rfl (Nat.le_of_ble_eq_true rfl) ⟨by decide, by decide⟩ ⟨by decide, by decide⟩ d_Reg_pop_162) hP hD hS [0, 1] [2, 3] rfl rfl (by decide) (by decide) (fun u_167 H locs hq_166 hP hD hS => ?_)
            obtain ⟨w_169, rfl⟩ := hq_166
            have hP : va_P K.1 mx_cl [(sp, .inl (K.2.1.1, 28, .inr (.inl fp))), (sk, .inl (K.2.1.1, 300, .inr (.inl fk))), (rg, .inr (2, [.int (nI (d - (kh + 1))), .int (nI lo), .int (nI gl), .ref ge, .ref sp, .ref sk])), (ge, .inl (K.2.1.1, 256, .inr (.inl w_169)))] H := hP
            have hD : va_D A [(sp, .inl (K.2.1.1, 28, .inr (.inl fp))), (sk, .inl (K.2.1.1, 300, .inr (.inl fk))), (rg, .inr (2, [.int (nI (d - (kh + 1))), .int (nI lo), .int (nI gl), .ref ge, .ref sp, .ref sk])), (ge, .inl (K.2.1.1, 256, .inr (.inl w_169)))] := hD
            refine W.cs (cells' := 0) (slots' := 0) rfl rfl ?_
            refine lv_aload_n hx hb d_Reg_pop_165 rfl (lv_at hl 4 rfl) ?_
            refine lv_iload hx hb d_Reg_pop_166 (lv_at hl 0 rfl) ?_
            refine va_put (D := K.1) (ci := 2) (v := .int (nI (min (kh + (min x (lo + 1))) gl))) (ty := .int) (C := R_Reg) (T := T_Reg) (N := 6) hx hb hT in_Reg t_Reg t_Reg_ok n_Reg hown hK hP hD hS 2 rfl rfl 1 (by decide) (hT _ k_53) (fun _ h9 => h9) rfl (by decide +kernel) rfl rfl (Nat.le_of_ble_eq_true rfl) d_Reg_pop_168 (fun H locs hP hD hS => ?_)
            have hP : va_P K.1 mx_cl [(sp, .inl (K.2.1.1, 28, .inr (.inl fp))), (sk, .inl (K.2.1.1, 300, .inr (.inl fk))), (rg, .inr (2, [.int (nI (d - (kh + 1))), .int (nI (min (kh + (min x (lo + 1))) gl)), .int (nI gl), .ref ge, .ref sp, .ref sk])), (ge, .inl (K.2.1.1, 256, .inr (.inl w_169)))] H := hP
            have hD : va_D A [(sp, .inl (K.2.1.1, 28, .inr (.inl fp))), (sk, .inl (K.2.1.1, 300, .inr (.inl fk))), (rg, .inr (2, [.int (nI (d - (kh + 1))), .int (nI (min (kh + (min x (lo + 1))) gl)), .int (nI gl), .ref ge, .ref sp, .ref sk])), (ge, .inl (K.2.1.1, 256, .inr (.inl w_169)))] := hD
            refine lv_iconst (v := 1) hx hb d_Reg_pop_171 (by decide) ?_
            exact mx_ri F hr hlk (by decide) hP hD hS [(rg, .inr (2, [.int (nI (d - (kh + 1))), .int (nI (min (kh + (min x (lo + 1))) gl)), .int (nI gl), .ref ge, .ref sp, .ref sk])), (ge, .inl (K.2.1.1, 256, .inr (.inl w_169))), (sp, .inl (K.2.1.1, 28, .inr (.inl fp))), (sk, .inl (K.2.1.1, 300, .inr (.inl fk)))] [2, 3, 0, 1] rfl (by decide) ⟨(Or.inr rfl), ⟨(d - (kh + 1)), (min (kh + (min x (lo + 1))) gl), gl, w_169, fp, fk, (by first | assumption | omega | exact mx_ch_0), (by first | assumption | omega | exact mx_ch_0), (by first | assumption | omega | exact mx_ch_0), (by rw [show d - (kh + 1) = d - kh - 1 by omega]; exact hkc), rfl⟩⟩ (by decide) (by decide) d_Reg_pop_172
  · have h4n := mx_fEq (a := d) (b := 0) (by omega) (by omega) h4
    refine lv_iconst (v := 0) hx hb d_Reg_pop_7 (by decide) ?_
    exact mx_ri F hr hlk (by decide) hP hD hS [(rg, .inr (2, [.int (nI d), .int (nI lo), .int (nI gl), .ref ge, .ref sp, .ref sk])), (ge, .inl (K.2.1.1, 256, .inr (.inl fg))), (sp, .inl (K.2.1.1, 28, .inr (.inl fp))), (sk, .inl (K.2.1.1, 300, .inr (.inl fk)))] [0, 1, 2, 3] rfl (by decide) ⟨(Or.inl rfl), ⟨d, lo, gl, fg, fp, fk, (by first | assumption | omega | exact mx_ch_0), (by first | assumption | omega | exact mx_ch_0), (by first | assumption | omega | exact mx_ch_0), (by first | assumption | omega | exact mx_ch_0), rfl⟩⟩ (by decide) (by decide) d_Reg_pop_8
