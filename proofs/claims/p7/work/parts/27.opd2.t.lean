set_option maxHeartbeats 4000000 in
set_option maxRecDepth 100000 in
theorem s_Opd_add (l : Launch) (K : mx_K) (od : Nat) (su : Nat) (o1w : Int32) (ov : Nat) (oz : Nat) (fo : Nat → Int64) (fq : Nat → Int32) (s1h : Int64) (s1m : Int64) (s1v : Int64) (t : Nat) (lb : Nat) (o1g : Nat) (o1y : Nat) (o1c : Nat) (s1a : Nat) (s1e : Nat) (s1r : Nat) (s1t : Nat) (s1g : Nat) (s1i : Nat) (sz : Nat) (ho1 : o1g ≤ 1) (ho2 : o1y ≤ 1) (ho3 : o1c < 2000) (hs3 : s1r ≤ 1) (hs4 : s1t ≤ 1) (hs5 : s1g ≤ 1) (hs6 : s1i ≤ 1) : mx_V l y_Opd_add b_Opd_add 2 { frames := 1, cells := 0, slots := 0, locals := 20 } K [.ref od, .ref su] [(od, .inr (7, [.int (nI o1g), .int (nI o1y), .int (nI o1c), .int o1w, .ref ov, .ref oz])), (ov, .inl (K.2.1.1, 3, .inr (.inl fo))), (oz, .inl (K.2.1.2.2.2, 3, .inl fq)), (su, .inr (6, [.int (nI s1a), .int (nI s1e), .long s1h, .int (nI s1r), .int (nI s1t), .long s1m, .int (nI s1g), .int (nI s1i), .long s1v, .ref t, .ref lb]))] sz (fun u : va_W => ∃ (o2g : Nat) (o2y : Nat) (fo2 : Nat → Int64) (fq2 : Nat → Int32), (o2g ≤ 1) ∧ (o2y ≤ 1) ∧ u = [(od, .inr (7, [.int (nI o2g), .int (nI o2y), .int (nI (o1c + 1)), .int o1w, .ref ov, .ref oz])), (ov, .inl (K.2.1.1, 3, .inr (.inl fo2))), (oz, .inl (K.2.1.2.2.2, 3, .inl fq2)), (su, .inr (6, [.int (nI s1a), .int (nI s1e), .long s1h, .int (nI s1r), .int (nI s1t), .long s1m, .int (nI s1g), .int (nI s1i), .long s1v, .ref t, .ref lb]))]) (fun u : va_W => u) := by
  refine mx_of (by decide) (Nat.le_of_ble_eq_true rfl) ?_
  intro p e s m below meth c A ls H locs hAe F hr hlk hin hsz hP hD hS hl
  rw [hAe]
  have hl : lv_has ls 2 [(0, .ref od), (1, .ref su)] := hl
  obtain ⟨hx, hb, hml, hown, hT, hK, hN, hE, hA⟩ := id F
  refine lv_aload_n hx hb d_Opd_add_0 rfl (lv_at hl 0 rfl) ?_
  refine va_get (D := K.1) (ci := 7) (v := .int (nI o1c)) (C := R_Opd) (T := T_Opd) (N := 6) hx hb hT in_Opd hown hK hP 0 rfl rfl 2 (by decide) (hT _ k_88) (fun _ h9 => h9) rfl d_Opd_add_1 ?_
  refine lv_iconst (v := 3) hx hb d_Opd_add_4 (by decide) ?_
  refine lv_icmp_ge (tgt := 34) hx hb d_Opd_add_5 (by decide) (fun h_1 => ?_) (fun h_1 => ?_)
  · have h_1n := mx_fLe (a := 3) (b := o1c) (by omega) (by omega) h_1
    refine lv_aload_n hx hb d_Opd_add_34 rfl (lv_at hl 0 rfl) ?_
    refine lv_aload_n hx hb d_Opd_add_35 rfl (lv_at hl 0 rfl) ?_
    refine va_get (D := K.1) (ci := 7) (v := .int (nI o1g)) (C := R_Opd) (T := T_Opd) (N := 6) hx hb hT in_Opd hown hK hP 0 rfl rfl 0 (by decide) (hT _ k_84) (fun _ h9 => h9) rfl d_Opd_add_36 ?_
    refine lv_if_eq (tgt := 53) hx hb d_Opd_add_39 (by decide) (fun h_2 => ?_) (fun h_2 => ?_)
    · have h_2n := mx_fEq (a := o1g) (b := 0) (by omega) (by omega) h_2
      refine lv_iconst (v := 0) hx hb d_Opd_add_53 (by decide) ?_
      refine va_put (D := K.1) (ci := 7) (v := .int 0) (ty := .boolean) (C := R_Opd) (T := T_Opd) (N := 6) hx hb hT in_Opd t_Opd t_Opd_ok n_Opd hown hK hP hD hS 0 rfl rfl 0 (by decide) (hT _ k_84) (fun _ h9 => h9) rfl (by decide +kernel) (by decide) (by decide) (Nat.le_of_ble_eq_true rfl) d_Opd_add_54 (fun H locs hP hD hS => ?_)
      have hP : va_P K.1 mx_cl [(od, .inr (7, [.int 0, .int (nI o1y), .int (nI o1c), .int o1w, .ref ov, .ref oz])), (ov, .inl (K.2.1.1, 3, .inr (.inl fo))), (oz, .inl (K.2.1.2.2.2, 3, .inl fq)), (su, .inr (6, [.int (nI s1a), .int (nI s1e), .long s1h, .int (nI s1r), .int (nI s1t), .long s1m, .int (nI s1g), .int (nI s1i), .long s1v, .ref t, .ref lb]))] H := hP
      have hD : va_D A [(od, .inr (7, [.int 0, .int (nI o1y), .int (nI o1c), .int o1w, .ref ov, .ref oz])), (ov, .inl (K.2.1.1, 3, .inr (.inl fo))), (oz, .inl (K.2.1.2.2.2, 3, .inl fq)), (su, .inr (6, [.int (nI s1a), .int (nI s1e), .long s1h, .int (nI s1r), .int (nI s1t), .long s1m, .int (nI s1g), .int (nI s1i), .long s1v, .ref t, .ref lb]))] := hD
      refine lv_aload_n hx hb d_Opd_add_57 rfl (lv_at hl 0 rfl) ?_
      refine lv_aload_n hx hb d_Opd_add_58 rfl (lv_at hl 0 rfl) ?_
      refine va_get (D := K.1) (ci := 7) (v := .int (nI o1y)) (C := R_Opd) (T := T_Opd) (N := 6) hx hb hT in_Opd hown hK hP 0 rfl rfl 1 (by decide) (hT _ k_86) (fun _ h9 => h9) rfl d_Opd_add_59 ?_
      refine lv_if_ne (tgt := 72) hx hb d_Opd_add_62 (by decide) (fun h_3 => ?_) (fun h_3 => ?_)
      · have h_3n := mx_fNe (a := o1y) (b := 0) (by omega) (by omega) h_3
        refine lv_iconst (v := 1) hx hb d_Opd_add_72 (by decide) ?_
        refine lv_goto (tgt := 77) hx hb d_Opd_add_73 (by decide) ?_
        refine va_put (D := K.1) (ci := 7) (v := .int 1) (ty := .boolean) (C := R_Opd) (T := T_Opd) (N := 6) hx hb hT in_Opd t_Opd t_Opd_ok n_Opd hown hK hP hD hS 0 rfl rfl 1 (by decide) (hT _ k_86) (fun _ h9 => h9) rfl (by decide +kernel) (by decide) (by decide) (Nat.le_of_ble_eq_true rfl) d_Opd_add_77 (fun H locs hP hD hS => ?_)
        have hP : va_P K.1 mx_cl [(od, .inr (7, [.int 0, .int 1, .int (nI o1c), .int o1w, .ref ov, .ref oz])), (ov, .inl (K.2.1.1, 3, .inr (.inl fo))), (oz, .inl (K.2.1.2.2.2, 3, .inl fq)), (su, .inr (6, [.int (nI s1a), .int (nI s1e), .long s1h, .int (nI s1r), .int (nI s1t), .long s1m, .int (nI s1g), .int (nI s1i), .long s1v, .ref t, .ref lb]))] H := hP
        have hD : va_D A [(od, .inr (7, [.int 0, .int 1, .int (nI o1c), .int o1w, .ref ov, .ref oz])), (ov, .inl (K.2.1.1, 3, .inr (.inl fo))), (oz, .inl (K.2.1.2.2.2, 3, .inl fq)), (su, .inr (6, [.int (nI s1a), .int (nI s1e), .long s1h, .int (nI s1r), .int (nI s1t), .long s1m, .int (nI s1g), .int (nI s1i), .long s1v, .ref t, .ref lb]))] := hD
        refine lv_aload_n hx hb d_Opd_add_80 rfl (lv_at hl 0 rfl) ?_
        refine lv_dup hx hb d_Opd_add_81 rfl ?_
        refine va_get (D := K.1) (ci := 7) (v := .int (nI o1c)) (C := R_Opd) (T := T_Opd) (N := 6) hx hb hT in_Opd hown hK hP 0 rfl rfl 2 (by decide) (hT _ k_88) (fun _ h9 => h9) rfl d_Opd_add_82 ?_
        refine lv_iconst (v := 1) hx hb d_Opd_add_85 (by decide) ?_
        refine lv_iadd hx hb d_Opd_add_86 ?_
        refine lv_topi (fun z_4 ez_4 => ?_)
        obtain rfl : z_4 = nI (o1c + 1) := ez_4.trans (nI_add o1c 1)
        refine va_put (D := K.1) (ci := 7) (v := .int (nI (o1c + 1))) (ty := .int) (C := R_Opd) (T := T_Opd) (N := 6) hx hb hT in_Opd t_Opd t_Opd_ok n_Opd hown hK hP hD hS 0 rfl rfl 2 (by decide) (hT _ k_88) (fun _ h9 => h9) rfl (by decide +kernel) rfl rfl (Nat.le_of_ble_eq_true rfl) d_Opd_add_87 (fun H locs hP hD hS => ?_)
        have hP : va_P K.1 mx_cl [(od, .inr (7, [.int 0, .int 1, .int (nI (o1c + 1)), .int o1w, .ref ov, .ref oz])), (ov, .inl (K.2.1.1, 3, .inr (.inl fo))), (oz, .inl (K.2.1.2.2.2, 3, .inl fq)), (su, .inr (6, [.int (nI s1a), .int (nI s1e), .long s1h, .int (nI s1r), .int (nI s1t), .long s1m, .int (nI s1g), .int (nI s1i), .long s1v, .ref t, .ref lb]))] H := hP
        have hD : va_D A [(od, .inr (7, [.int 0, .int 1, .int (nI (o1c + 1)), .int o1w, .ref ov, .ref oz])), (ov, .inl (K.2.1.1, 3, .inr (.inl fo))), (oz, .inl (K.2.1.2.2.2, 3, .inl fq)), (su, .inr (6, [.int (nI s1a), .int (nI s1e), .long s1h, .int (nI s1r), .int (nI s1t), .long s1m, .int (nI s1g), .int (nI s1i), .long s1v, .ref t, .ref lb]))] := hD
        exact mx_rv F hr hlk hP hD hS [(od, .inr (7, [.int (nI 0), .int (nI 1), .int (nI (o1c + 1)), .int o1w, .ref ov, .ref oz])), (ov, .inl (K.2.1.1, 3, .inr (.inl fo))), (oz, .inl (K.2.1.2.2.2, 3, .inl fq)), (su, .inr (6, [.int (nI s1a), .int (nI s1e), .long s1h, .int (nI s1r), .int (nI s1t), .long s1m, .int (nI s1g), .int (nI s1i), .long s1v, .ref t, .ref lb]))] [0, 1, 2, 3] rfl (by decide) ⟨0, 1, fo, fq, (by first | assumption | omega | exact mx_ch_0), (by first | assumption | omega | exact mx_ch_0), rfl⟩ (by decide) (by decide) d_Opd_add_90
      · have h_3n := mx_fEq (a := o1y) (b := 0) (by omega) (by omega) h_3
        refine lv_aload_n hx hb d_Opd_add_65 rfl (lv_at hl 1 rfl) ?_
        refine va_get (D := K.1) (ci := 6) (v := .int (nI s1i)) (C := R_Sum) (T := T_Sum) (N := 11) hx hb hT in_Sum hown hK hP 3 rfl rfl 7 (by decide) (hT _ k_261) (fun _ h9 => h9) rfl d_Opd_add_66 ?_
        refine lv_if_eq (tgt := 76) hx hb d_Opd_add_69 (by decide) (fun h_5 => ?_) (fun h_5 => ?_)
        · have h_5n := mx_fEq (a := s1i) (b := 0) (by omega) (by omega) h_5
          refine lv_iconst (v := 0) hx hb d_Opd_add_76 (by decide) ?_
          refine va_put (D := K.1) (ci := 7) (v := .int 0) (ty := .boolean) (C := R_Opd) (T := T_Opd) (N := 6) hx hb hT in_Opd t_Opd t_Opd_ok n_Opd hown hK hP hD hS 0 rfl rfl 1 (by decide) (hT _ k_86) (fun _ h9 => h9) rfl (by decide +kernel) (by decide) (by decide) (Nat.le_of_ble_eq_true rfl) d_Opd_add_77 (fun H locs hP hD hS => ?_)
          have hP : va_P K.1 mx_cl [(od, .inr (7, [.int 0, .int 0, .int (nI o1c), .int o1w, .ref ov, .ref oz])), (ov, .inl (K.2.1.1, 3, .inr (.inl fo))), (oz, .inl (K.2.1.2.2.2, 3, .inl fq)), (su, .inr (6, [.int (nI s1a), .int (nI s1e), .long s1h, .int (nI s1r), .int (nI s1t), .long s1m, .int (nI s1g), .int (nI s1i), .long s1v, .ref t, .ref lb]))] H := hP
          have hD : va_D A [(od, .inr (7, [.int 0, .int 0, .int (nI o1c), .int o1w, .ref ov, .ref oz])), (ov, .inl (K.2.1.1, 3, .inr (.inl fo))), (oz, .inl (K.2.1.2.2.2, 3, .inl fq)), (su, .inr (6, [.int (nI s1a), .int (nI s1e), .long s1h, .int (nI s1r), .int (nI s1t), .long s1m, .int (nI s1g), .int (nI s1i), .long s1v, .ref t, .ref lb]))] := hD
          refine lv_aload_n hx hb d_Opd_add_80 rfl (lv_at hl 0 rfl) ?_
          refine lv_dup hx hb d_Opd_add_81 rfl ?_
          refine va_get (D := K.1) (ci := 7) (v := .int (nI o1c)) (C := R_Opd) (T := T_Opd) (N := 6) hx hb hT in_Opd hown hK hP 0 rfl rfl 2 (by decide) (hT _ k_88) (fun _ h9 => h9) rfl d_Opd_add_82 ?_
          refine lv_iconst (v := 1) hx hb d_Opd_add_85 (by decide) ?_
          refine lv_iadd hx hb d_Opd_add_86 ?_
          refine lv_topi (fun z_6 ez_6 => ?_)
          obtain rfl : z_6 = nI (o1c + 1) := ez_6.trans (nI_add o1c 1)
          refine va_put (D := K.1) (ci := 7) (v := .int (nI (o1c + 1))) (ty := .int) (C := R_Opd) (T := T_Opd) (N := 6) hx hb hT in_Opd t_Opd t_Opd_ok n_Opd hown hK hP hD hS 0 rfl rfl 2 (by decide) (hT _ k_88) (fun _ h9 => h9) rfl (by decide +kernel) rfl rfl (Nat.le_of_ble_eq_true rfl) d_Opd_add_87 (fun H locs hP hD hS => ?_)
          have hP : va_P K.1 mx_cl [(od, .inr (7, [.int 0, .int 0, .int (nI (o1c + 1)), .int o1w, .ref ov, .ref oz])), (ov, .inl (K.2.1.1, 3, .inr (.inl fo))), (oz, .inl (K.2.1.2.2.2, 3, .inl fq)), (su, .inr (6, [.int (nI s1a), .int (nI s1e), .long s1h, .int (nI s1r), .int (nI s1t), .long s1m, .int (nI s1g), .int (nI s1i), .long s1v, .ref t, .ref lb]))] H := hP
          have hD : va_D A [(od, .inr (7, [.int 0, .int 0, .int (nI (o1c + 1)), .int o1w, .ref ov, .ref oz])), (ov, .inl (K.2.1.1, 3, .inr (.inl fo))), (oz, .inl (K.2.1.2.2.2, 3, .inl fq)), (su, .inr (6, [.int (nI s1a), .int (nI s1e), .long s1h, .int (nI s1r), .int (nI s1t), .long s1m, .int (nI s1g), .int (nI s1i), .long s1v, .ref t, .ref lb]))] := hD
          exact mx_rv F hr hlk hP hD hS [(od, .inr (7, [.int (nI 0), .int (nI 0), .int (nI (o1c + 1)), .int o1w, .ref ov, .ref oz])), (ov, .inl (K.2.1.1, 3, .inr (.inl fo))), (oz, .inl (K.2.1.2.2.2, 3, .inl fq)), (su, .inr (6, [.int (nI s1a), .int (nI s1e), .long s1h, .int (nI s1r), .int (nI s1t), .long s1m, .int (nI s1g), .int (nI s1i), .long s1v, .ref t, .ref lb]))] [0, 1, 2, 3] rfl (by decide) ⟨0, 0, fo, fq, (by first | assumption | omega | exact mx_ch_0), (by first | assumption | omega | exact mx_ch_0), rfl⟩ (by decide) (by decide) d_Opd_add_90
        · have h_5n := mx_fNe (a := s1i) (b := 0) (by omega) (by omega) h_5
          refine lv_iconst (v := 1) hx hb d_Opd_add_72 (by decide) ?_
          refine lv_goto (tgt := 77) hx hb d_Opd_add_73 (by decide) ?_
          refine va_put (D := K.1) (ci := 7) (v := .int 1) (ty := .boolean) (C := R_Opd) (T := T_Opd) (N := 6) hx hb hT in_Opd t_Opd t_Opd_ok n_Opd hown hK hP hD hS 0 rfl rfl 1 (by decide) (hT _ k_86) (fun _ h9 => h9) rfl (by decide +kernel) (by decide) (by decide) (Nat.le_of_ble_eq_true rfl) d_Opd_add_77 (fun H locs hP hD hS => ?_)
          have hP : va_P K.1 mx_cl [(od, .inr (7, [.int 0, .int 1, .int (nI o1c), .int o1w, .ref ov, .ref oz])), (ov, .inl (K.2.1.1, 3, .inr (.inl fo))), (oz, .inl (K.2.1.2.2.2, 3, .inl fq)), (su, .inr (6, [.int (nI s1a), .int (nI s1e), .long s1h, .int (nI s1r), .int (nI s1t), .long s1m, .int (nI s1g), .int (nI s1i), .long s1v, .ref t, .ref lb]))] H := hP
          have hD : va_D A [(od, .inr (7, [.int 0, .int 1, .int (nI o1c), .int o1w, .ref ov, .ref oz])), (ov, .inl (K.2.1.1, 3, .inr (.inl fo))), (oz, .inl (K.2.1.2.2.2, 3, .inl fq)), (su, .inr (6, [.int (nI s1a), .int (nI s1e), .long s1h, .int (nI s1r), .int (nI s1t), .long s1m, .int (nI s1g), .int (nI s1i), .long s1v, .ref t, .ref lb]))] := hD
          refine lv_aload_n hx hb d_Opd_add_80 rfl (lv_at hl 0 rfl) ?_
          refine lv_dup hx hb d_Opd_add_81 rfl ?_
          refine va_get (D := K.1) (ci := 7) (v := .int (nI o1c)) (C := R_Opd) (T := T_Opd) (N := 6) hx hb hT in_Opd hown hK hP 0 rfl rfl 2 (by decide) (hT _ k_88) (fun _ h9 => h9) rfl d_Opd_add_82 ?_
          refine lv_iconst (v := 1) hx hb d_Opd_add_85 (by decide) ?_
          refine lv_iadd hx hb d_Opd_add_86 ?_
          refine lv_topi (fun z_7 ez_7 => ?_)
          obtain rfl : z_7 = nI (o1c + 1) := ez_7.trans (nI_add o1c 1)
          refine va_put (D := K.1) (ci := 7) (v := .int (nI (o1c + 1))) (ty := .int) (C := R_Opd) (T := T_Opd) (N := 6) hx hb hT in_Opd t_Opd t_Opd_ok n_Opd hown hK hP hD hS 0 rfl rfl 2 (by decide) (hT _ k_88) (fun _ h9 => h9) rfl (by decide +kernel) rfl rfl (Nat.le_of_ble_eq_true rfl) d_Opd_add_87 (fun H locs hP hD hS => ?_)
          have hP : va_P K.1 mx_cl [(od, .inr (7, [.int 0, .int 1, .int (nI (o1c + 1)), .int o1w, .ref ov, .ref oz])), (ov, .inl (K.2.1.1, 3, .inr (.inl fo))), (oz, .inl (K.2.1.2.2.2, 3, .inl fq)), (su, .inr (6, [.int (nI s1a), .int (nI s1e), .long s1h, .int (nI s1r), .int (nI s1t), .long s1m, .int (nI s1g), .int (nI s1i), .long s1v, .ref t, .ref lb]))] H := hP
          have hD : va_D A [(od, .inr (7, [.int 0, .int 1, .int (nI (o1c + 1)), .int o1w, .ref ov, .ref oz])), (ov, .inl (K.2.1.1, 3, .inr (.inl fo))), (oz, .inl (K.2.1.2.2.2, 3, .inl fq)), (su, .inr (6, [.int (nI s1a), .int (nI s1e), .long s1h, .int (nI s1r), .int (nI s1t), .long s1m, .int (nI s1g), .int (nI s1i), .long s1v, .ref t, .ref lb]))] := hD
          exact mx_rv F hr hlk hP hD hS [(od, .inr (7, [.int (nI 0), .int (nI 1), .int (nI (o1c + 1)), .int o1w, .ref ov, .ref oz])), (ov, .inl (K.2.1.1, 3, .inr (.inl fo))), (oz, .inl (K.2.1.2.2.2, 3, .inl fq)), (su, .inr (6, [.int (nI s1a), .int (nI s1e), .long s1h, .int (nI s1r), .int (nI s1t), .long s1m, .int (nI s1g), .int (nI s1i), .long s1v, .ref t, .ref lb]))] [0, 1, 2, 3] rfl (by decide) ⟨0, 1, fo, fq, (by first | assumption | omega | exact mx_ch_0), (by first | assumption | omega | exact mx_ch_0), rfl⟩ (by decide) (by decide) d_Opd_add_90
    · have h_2n := mx_fNe (a := o1g) (b := 0) (by omega) (by omega) h_2
      refine lv_aload_n hx hb d_Opd_add_42 rfl (lv_at hl 1 rfl) ?_
      refine va_get (D := K.1) (ci := 6) (v := .int (nI s1g)) (C := R_Sum) (T := T_Sum) (N := 11) hx hb hT in_Sum hown hK hP 3 rfl rfl 6 (by decide) (hT _ k_259) (fun _ h9 => h9) rfl d_Opd_add_43 ?_
      refine lv_if_eq (tgt := 53) hx hb d_Opd_add_46 (by decide) (fun h_8 => ?_) (fun h_8 => ?_)
      · have h_8n := mx_fEq (a := s1g) (b := 0) (by omega) (by omega) h_8
        refine lv_iconst (v := 0) hx hb d_Opd_add_53 (by decide) ?_
        refine va_put (D := K.1) (ci := 7) (v := .int 0) (ty := .boolean) (C := R_Opd) (T := T_Opd) (N := 6) hx hb hT in_Opd t_Opd t_Opd_ok n_Opd hown hK hP hD hS 0 rfl rfl 0 (by decide) (hT _ k_84) (fun _ h9 => h9) rfl (by decide +kernel) (by decide) (by decide) (Nat.le_of_ble_eq_true rfl) d_Opd_add_54 (fun H locs hP hD hS => ?_)
        have hP : va_P K.1 mx_cl [(od, .inr (7, [.int 0, .int (nI o1y), .int (nI o1c), .int o1w, .ref ov, .ref oz])), (ov, .inl (K.2.1.1, 3, .inr (.inl fo))), (oz, .inl (K.2.1.2.2.2, 3, .inl fq)), (su, .inr (6, [.int (nI s1a), .int (nI s1e), .long s1h, .int (nI s1r), .int (nI s1t), .long s1m, .int (nI s1g), .int (nI s1i), .long s1v, .ref t, .ref lb]))] H := hP
        have hD : va_D A [(od, .inr (7, [.int 0, .int (nI o1y), .int (nI o1c), .int o1w, .ref ov, .ref oz])), (ov, .inl (K.2.1.1, 3, .inr (.inl fo))), (oz, .inl (K.2.1.2.2.2, 3, .inl fq)), (su, .inr (6, [.int (nI s1a), .int (nI s1e), .long s1h, .int (nI s1r), .int (nI s1t), .long s1m, .int (nI s1g), .int (nI s1i), .long s1v, .ref t, .ref lb]))] := hD
        refine lv_aload_n hx hb d_Opd_add_57 rfl (lv_at hl 0 rfl) ?_
        refine lv_aload_n hx hb d_Opd_add_58 rfl (lv_at hl 0 rfl) ?_
        refine va_get (D := K.1) (ci := 7) (v := .int (nI o1y)) (C := R_Opd) (T := T_Opd) (N := 6) hx hb hT in_Opd hown hK hP 0 rfl rfl 1 (by decide) (hT _ k_86) (fun _ h9 => h9) rfl d_Opd_add_59 ?_
        refine lv_if_ne (tgt := 72) hx hb d_Opd_add_62 (by decide) (fun h_9 => ?_) (fun h_9 => ?_)
        · have h_9n := mx_fNe (a := o1y) (b := 0) (by omega) (by omega) h_9
          refine lv_iconst (v := 1) hx hb d_Opd_add_72 (by decide) ?_
          refine lv_goto (tgt := 77) hx hb d_Opd_add_73 (by decide) ?_
          refine va_put (D := K.1) (ci := 7) (v := .int 1) (ty := .boolean) (C := R_Opd) (T := T_Opd) (N := 6) hx hb hT in_Opd t_Opd t_Opd_ok n_Opd hown hK hP hD hS 0 rfl rfl 1 (by decide) (hT _ k_86) (fun _ h9 => h9) rfl (by decide +kernel) (by decide) (by decide) (Nat.le_of_ble_eq_true rfl) d_Opd_add_77 (fun H locs hP hD hS => ?_)
          have hP : va_P K.1 mx_cl [(od, .inr (7, [.int 0, .int 1, .int (nI o1c), .int o1w, .ref ov, .ref oz])), (ov, .inl (K.2.1.1, 3, .inr (.inl fo))), (oz, .inl (K.2.1.2.2.2, 3, .inl fq)), (su, .inr (6, [.int (nI s1a), .int (nI s1e), .long s1h, .int (nI s1r), .int (nI s1t), .long s1m, .int (nI s1g), .int (nI s1i), .long s1v, .ref t, .ref lb]))] H := hP
          have hD : va_D A [(od, .inr (7, [.int 0, .int 1, .int (nI o1c), .int o1w, .ref ov, .ref oz])), (ov, .inl (K.2.1.1, 3, .inr (.inl fo))), (oz, .inl (K.2.1.2.2.2, 3, .inl fq)), (su, .inr (6, [.int (nI s1a), .int (nI s1e), .long s1h, .int (nI s1r), .int (nI s1t), .long s1m, .int (nI s1g), .int (nI s1i), .long s1v, .ref t, .ref lb]))] := hD
          refine lv_aload_n hx hb d_Opd_add_80 rfl (lv_at hl 0 rfl) ?_
          refine lv_dup hx hb d_Opd_add_81 rfl ?_
          refine va_get (D := K.1) (ci := 7) (v := .int (nI o1c)) (C := R_Opd) (T := T_Opd) (N := 6) hx hb hT in_Opd hown hK hP 0 rfl rfl 2 (by decide) (hT _ k_88) (fun _ h9 => h9) rfl d_Opd_add_82 ?_
          refine lv_iconst (v := 1) hx hb d_Opd_add_85 (by decide) ?_
          refine lv_iadd hx hb d_Opd_add_86 ?_
          refine lv_topi (fun z_10 ez_10 => ?_)
          obtain rfl : z_10 = nI (o1c + 1) := ez_10.trans (nI_add o1c 1)
          refine va_put (D := K.1) (ci := 7) (v := .int (nI (o1c + 1))) (ty := .int) (C := R_Opd) (T := T_Opd) (N := 6) hx hb hT in_Opd t_Opd t_Opd_ok n_Opd hown hK hP hD hS 0 rfl rfl 2 (by decide) (hT _ k_88) (fun _ h9 => h9) rfl (by decide +kernel) rfl rfl (Nat.le_of_ble_eq_true rfl) d_Opd_add_87 (fun H locs hP hD hS => ?_)
          have hP : va_P K.1 mx_cl [(od, .inr (7, [.int 0, .int 1, .int (nI (o1c + 1)), .int o1w, .ref ov, .ref oz])), (ov, .inl (K.2.1.1, 3, .inr (.inl fo))), (oz, .inl (K.2.1.2.2.2, 3, .inl fq)), (su, .inr (6, [.int (nI s1a), .int (nI s1e), .long s1h, .int (nI s1r), .int (nI s1t), .long s1m, .int (nI s1g), .int (nI s1i), .long s1v, .ref t, .ref lb]))] H := hP
          have hD : va_D A [(od, .inr (7, [.int 0, .int 1, .int (nI (o1c + 1)), .int o1w, .ref ov, .ref oz])), (ov, .inl (K.2.1.1, 3, .inr (.inl fo))), (oz, .inl (K.2.1.2.2.2, 3, .inl fq)), (su, .inr (6, [.int (nI s1a), .int (nI s1e), .long s1h, .int (nI s1r), .int (nI s1t), .long s1m, .int (nI s1g), .int (nI s1i), .long s1v, .ref t, .ref lb]))] := hD
          exact mx_rv F hr hlk hP hD hS [(od, .inr (7, [.int (nI 0), .int (nI 1), .int (nI (o1c + 1)), .int o1w, .ref ov, .ref oz])), (ov, .inl (K.2.1.1, 3, .inr (.inl fo))), (oz, .inl (K.2.1.2.2.2, 3, .inl fq)), (su, .inr (6, [.int (nI s1a), .int (nI s1e), .long s1h, .int (nI s1r), .int (nI s1t), .long s1m, .int (nI s1g), .int (nI s1i), .long s1v, .ref t, .ref lb]))] [0, 1, 2, 3] rfl (by decide) ⟨0, 1, fo, fq, (by first | assumption | omega | exact mx_ch_0), (by first | assumption | omega | exact mx_ch_0), rfl⟩ (by decide) (by decide) d_Opd_add_90
        · have h_9n := mx_fEq (a := o1y) (b := 0) (by omega) (by omega) h_9
          refine lv_aload_n hx hb d_Opd_add_65 rfl (lv_at hl 1 rfl) ?_
          refine va_get (D := K.1) (ci := 6) (v := .int (nI s1i)) (C := R_Sum) (T := T_Sum) (N := 11) hx hb hT in_Sum hown hK hP 3 rfl rfl 7 (by decide) (hT _ k_261) (fun _ h9 => h9) rfl d_Opd_add_66 ?_
          refine lv_if_eq (tgt := 76) hx hb d_Opd_add_69 (by decide) (fun h_11 => ?_) (fun h_11 => ?_)
          · have h_11n := mx_fEq (a := s1i) (b := 0) (by omega) (by omega) h_11
            refine lv_iconst (v := 0) hx hb d_Opd_add_76 (by decide) ?_
            refine va_put (D := K.1) (ci := 7) (v := .int 0) (ty := .boolean) (C := R_Opd) (T := T_Opd) (N := 6) hx hb hT in_Opd t_Opd t_Opd_ok n_Opd hown hK hP hD hS 0 rfl rfl 1 (by decide) (hT _ k_86) (fun _ h9 => h9) rfl (by decide +kernel) (by decide) (by decide) (Nat.le_of_ble_eq_true rfl) d_Opd_add_77 (fun H locs hP hD hS => ?_)
            have hP : va_P K.1 mx_cl [(od, .inr (7, [.int 0, .int 0, .int (nI o1c), .int o1w, .ref ov, .ref oz])), (ov, .inl (K.2.1.1, 3, .inr (.inl fo))), (oz, .inl (K.2.1.2.2.2, 3, .inl fq)), (su, .inr (6, [.int (nI s1a), .int (nI s1e), .long s1h, .int (nI s1r), .int (nI s1t), .long s1m, .int (nI s1g), .int (nI s1i), .long s1v, .ref t, .ref lb]))] H := hP
            have hD : va_D A [(od, .inr (7, [.int 0, .int 0, .int (nI o1c), .int o1w, .ref ov, .ref oz])), (ov, .inl (K.2.1.1, 3, .inr (.inl fo))), (oz, .inl (K.2.1.2.2.2, 3, .inl fq)), (su, .inr (6, [.int (nI s1a), .int (nI s1e), .long s1h, .int (nI s1r), .int (nI s1t), .long s1m, .int (nI s1g), .int (nI s1i), .long s1v, .ref t, .ref lb]))] := hD
            refine lv_aload_n hx hb d_Opd_add_80 rfl (lv_at hl 0 rfl) ?_
            refine lv_dup hx hb d_Opd_add_81 rfl ?_
            refine va_get (D := K.1) (ci := 7) (v := .int (nI o1c)) (C := R_Opd) (T := T_Opd) (N := 6) hx hb hT in_Opd hown hK hP 0 rfl rfl 2 (by decide) (hT _ k_88) (fun _ h9 => h9) rfl d_Opd_add_82 ?_
            refine lv_iconst (v := 1) hx hb d_Opd_add_85 (by decide) ?_
            refine lv_iadd hx hb d_Opd_add_86 ?_
            refine lv_topi (fun z_12 ez_12 => ?_)
            obtain rfl : z_12 = nI (o1c + 1) := ez_12.trans (nI_add o1c 1)
            refine va_put (D := K.1) (ci := 7) (v := .int (nI (o1c + 1))) (ty := .int) (C := R_Opd) (T := T_Opd) (N := 6) hx hb hT in_Opd t_Opd t_Opd_ok n_Opd hown hK hP hD hS 0 rfl rfl 2 (by decide) (hT _ k_88) (fun _ h9 => h9) rfl (by decide +kernel) rfl rfl (Nat.le_of_ble_eq_true rfl) d_Opd_add_87 (fun H locs hP hD hS => ?_)
            have hP : va_P K.1 mx_cl [(od, .inr (7, [.int 0, .int 0, .int (nI (o1c + 1)), .int o1w, .ref ov, .ref oz])), (ov, .inl (K.2.1.1, 3, .inr (.inl fo))), (oz, .inl (K.2.1.2.2.2, 3, .inl fq)), (su, .inr (6, [.int (nI s1a), .int (nI s1e), .long s1h, .int (nI s1r), .int (nI s1t), .long s1m, .int (nI s1g), .int (nI s1i), .long s1v, .ref t, .ref lb]))] H := hP
            have hD : va_D A [(od, .inr (7, [.int 0, .int 0, .int (nI (o1c + 1)), .int o1w, .ref ov, .ref oz])), (ov, .inl (K.2.1.1, 3, .inr (.inl fo))), (oz, .inl (K.2.1.2.2.2, 3, .inl fq)), (su, .inr (6, [.int (nI s1a), .int (nI s1e), .long s1h, .int (nI s1r), .int (nI s1t), .long s1m, .int (nI s1g), .int (nI s1i), .long s1v, .ref t, .ref lb]))] := hD
            exact mx_rv F hr hlk hP hD hS [(od, .inr (7, [.int (nI 0), .int (nI 0), .int (nI (o1c + 1)), .int o1w, .ref ov, .ref oz])), (ov, .inl (K.2.1.1, 3, .inr (.inl fo))), (oz, .inl (K.2.1.2.2.2, 3, .inl fq)), (su, .inr (6, [.int (nI s1a), .int (nI s1e), .long s1h, .int (nI s1r), .int (nI s1t), .long s1m, .int (nI s1g), .int (nI s1i), .long s1v, .ref t, .ref lb]))] [0, 1, 2, 3] rfl (by decide) ⟨0, 0, fo, fq, (by first | assumption | omega | exact mx_ch_0), (by first | assumption | omega | exact mx_ch_0), rfl⟩ (by decide) (by decide) d_Opd_add_90
          · have h_11n := mx_fNe (a := s1i) (b := 0) (by omega) (by omega) h_11
            refine lv_iconst (v := 1) hx hb d_Opd_add_72 (by decide) ?_
            refine lv_goto (tgt := 77) hx hb d_Opd_add_73 (by decide) ?_
            refine va_put (D := K.1) (ci := 7) (v := .int 1) (ty := .boolean) (C := R_Opd) (T := T_Opd) (N := 6) hx hb hT in_Opd t_Opd t_Opd_ok n_Opd hown hK hP hD hS 0 rfl rfl 1 (by decide) (hT _ k_86) (fun _ h9 => h9) rfl (by decide +kernel) (by decide) (by decide) (Nat.le_of_ble_eq_true rfl) d_Opd_add_77 (fun H locs hP hD hS => ?_)
            have hP : va_P K.1 mx_cl [(od, .inr (7, [.int 0, .int 1, .int (nI o1c), .int o1w, .ref ov, .ref oz])), (ov, .inl (K.2.1.1, 3, .inr (.inl fo))), (oz, .inl (K.2.1.2.2.2, 3, .inl fq)), (su, .inr (6, [.int (nI s1a), .int (nI s1e), .long s1h, .int (nI s1r), .int (nI s1t), .long s1m, .int (nI s1g), .int (nI s1i), .long s1v, .ref t, .ref lb]))] H := hP
            have hD : va_D A [(od, .inr (7, [.int 0, .int 1, .int (nI o1c), .int o1w, .ref ov, .ref oz])), (ov, .inl (K.2.1.1, 3, .inr (.inl fo))), (oz, .inl (K.2.1.2.2.2, 3, .inl fq)), (su, .inr (6, [.int (nI s1a), .int (nI s1e), .long s1h, .int (nI s1r), .int (nI s1t), .long s1m, .int (nI s1g), .int (nI s1i), .long s1v, .ref t, .ref lb]))] := hD
            refine lv_aload_n hx hb d_Opd_add_80 rfl (lv_at hl 0 rfl) ?_
            refine lv_dup hx hb d_Opd_add_81 rfl ?_
            refine va_get (D := K.1) (ci := 7) (v := .int (nI o1c)) (C := R_Opd) (T := T_Opd) (N := 6) hx hb hT in_Opd hown hK hP 0 rfl rfl 2 (by decide) (hT _ k_88) (fun _ h9 => h9) rfl d_Opd_add_82 ?_
            refine lv_iconst (v := 1) hx hb d_Opd_add_85 (by decide) ?_
            refine lv_iadd hx hb d_Opd_add_86 ?_
            refine lv_topi (fun z_13 ez_13 => ?_)
            obtain rfl : z_13 = nI (o1c + 1) := ez_13.trans (nI_add o1c 1)
            refine va_put (D := K.1) (ci := 7) (v := .int (nI (o1c + 1))) (ty := .int) (C := R_Opd) (T := T_Opd) (N := 6) hx hb hT in_Opd t_Opd t_Opd_ok n_Opd hown hK hP hD hS 0 rfl rfl 2 (by decide) (hT _ k_88) (fun _ h9 => h9) rfl (by decide +kernel) rfl rfl (Nat.le_of_ble_eq_true rfl) d_Opd_add_87 (fun H locs hP hD hS => ?_)
            have hP : va_P K.1 mx_cl [(od, .inr (7, [.int 0, .int 1, .int (nI (o1c + 1)), .int o1w, .ref ov, .ref oz])), (ov, .inl (K.2.1.1, 3, .inr (.inl fo))), (oz, .inl (K.2.1.2.2.2, 3, .inl fq)), (su, .inr (6, [.int (nI s1a), .int (nI s1e), .long s1h, .int (nI s1r), .int (nI s1t), .long s1m, .int (nI s1g), .int (nI s1i), .long s1v, .ref t, .ref lb]))] H := hP
            have hD : va_D A [(od, .inr (7, [.int 0, .int 1, .int (nI (o1c + 1)), .int o1w, .ref ov, .ref oz])), (ov, .inl (K.2.1.1, 3, .inr (.inl fo))), (oz, .inl (K.2.1.2.2.2, 3, .inl fq)), (su, .inr (6, [.int (nI s1a), .int (nI s1e), .long s1h, .int (nI s1r), .int (nI s1t), .long s1m, .int (nI s1g), .int (nI s1i), .long s1v, .ref t, .ref lb]))] := hD
            exact mx_rv F hr hlk hP hD hS [(od, .inr (7, [.int (nI 0), .int (nI 1), .int (nI (o1c + 1)), .int o1w, .ref ov, .ref oz])), (ov, .inl (K.2.1.1, 3, .inr (.inl fo))), (oz, .inl (K.2.1.2.2.2, 3, .inl fq)), (su, .inr (6, [.int (nI s1a), .int (nI s1e), .long s1h, .int (nI s1r), .int (nI s1t), .long s1m, .int (nI s1g), .int (nI s1i), .long s1v, .ref t, .ref lb]))] [0, 1, 2, 3] rfl (by decide) ⟨0, 1, fo, fq, (by first | assumption | omega | exact mx_ch_0), (by first | assumption | omega | exact mx_ch_0), rfl⟩ (by decide) (by decide) d_Opd_add_90
      · have h_8n := mx_fNe (a := s1g) (b := 0) (by omega) (by omega) h_8
        refine lv_iconst (v := 1) hx hb d_Opd_add_49 (by decide) ?_
        refine lv_goto (tgt := 54) hx hb d_Opd_add_50 (by decide) ?_
        refine va_put (D := K.1) (ci := 7) (v := .int 1) (ty := .boolean) (C := R_Opd) (T := T_Opd) (N := 6) hx hb hT in_Opd t_Opd t_Opd_ok n_Opd hown hK hP hD hS 0 rfl rfl 0 (by decide) (hT _ k_84) (fun _ h9 => h9) rfl (by decide +kernel) (by decide) (by decide) (Nat.le_of_ble_eq_true rfl) d_Opd_add_54 (fun H locs hP hD hS => ?_)
        have hP : va_P K.1 mx_cl [(od, .inr (7, [.int 1, .int (nI o1y), .int (nI o1c), .int o1w, .ref ov, .ref oz])), (ov, .inl (K.2.1.1, 3, .inr (.inl fo))), (oz, .inl (K.2.1.2.2.2, 3, .inl fq)), (su, .inr (6, [.int (nI s1a), .int (nI s1e), .long s1h, .int (nI s1r), .int (nI s1t), .long s1m, .int (nI s1g), .int (nI s1i), .long s1v, .ref t, .ref lb]))] H := hP
        have hD : va_D A [(od, .inr (7, [.int 1, .int (nI o1y), .int (nI o1c), .int o1w, .ref ov, .ref oz])), (ov, .inl (K.2.1.1, 3, .inr (.inl fo))), (oz, .inl (K.2.1.2.2.2, 3, .inl fq)), (su, .inr (6, [.int (nI s1a), .int (nI s1e), .long s1h, .int (nI s1r), .int (nI s1t), .long s1m, .int (nI s1g), .int (nI s1i), .long s1v, .ref t, .ref lb]))] := hD
        refine lv_aload_n hx hb d_Opd_add_57 rfl (lv_at hl 0 rfl) ?_
        refine lv_aload_n hx hb d_Opd_add_58 rfl (lv_at hl 0 rfl) ?_
        refine va_get (D := K.1) (ci := 7) (v := .int (nI o1y)) (C := R_Opd) (T := T_Opd) (N := 6) hx hb hT in_Opd hown hK hP 0 rfl rfl 1 (by decide) (hT _ k_86) (fun _ h9 => h9) rfl d_Opd_add_59 ?_
        refine lv_if_ne (tgt := 72) hx hb d_Opd_add_62 (by decide) (fun h_14 => ?_) (fun h_14 => ?_)
        · have h_14n := mx_fNe (a := o1y) (b := 0) (by omega) (by omega) h_14
          refine lv_iconst (v := 1) hx hb d_Opd_add_72 (by decide) ?_
          refine lv_goto (tgt := 77) hx hb d_Opd_add_73 (by decide) ?_
          refine va_put (D := K.1) (ci := 7) (v := .int 1) (ty := .boolean) (C := R_Opd) (T := T_Opd) (N := 6) hx hb hT in_Opd t_Opd t_Opd_ok n_Opd hown hK hP hD hS 0 rfl rfl 1 (by decide) (hT _ k_86) (fun _ h9 => h9) rfl (by decide +kernel) (by decide) (by decide) (Nat.le_of_ble_eq_true rfl) d_Opd_add_77 (fun H locs hP hD hS => ?_)
          have hP : va_P K.1 mx_cl [(od, .inr (7, [.int 1, .int 1, .int (nI o1c), .int o1w, .ref ov, .ref oz])), (ov, .inl (K.2.1.1, 3, .inr (.inl fo))), (oz, .inl (K.2.1.2.2.2, 3, .inl fq)), (su, .inr (6, [.int (nI s1a), .int (nI s1e), .long s1h, .int (nI s1r), .int (nI s1t), .long s1m, .int (nI s1g), .int (nI s1i), .long s1v, .ref t, .ref lb]))] H := hP
          have hD : va_D A [(od, .inr (7, [.int 1, .int 1, .int (nI o1c), .int o1w, .ref ov, .ref oz])), (ov, .inl (K.2.1.1, 3, .inr (.inl fo))), (oz, .inl (K.2.1.2.2.2, 3, .inl fq)), (su, .inr (6, [.int (nI s1a), .int (nI s1e), .long s1h, .int (nI s1r), .int (nI s1t), .long s1m, .int (nI s1g), .int (nI s1i), .long s1v, .ref t, .ref lb]))] := hD
          refine lv_aload_n hx hb d_Opd_add_80 rfl (lv_at hl 0 rfl) ?_
          refine lv_dup hx hb d_Opd_add_81 rfl ?_
          refine va_get (D := K.1) (ci := 7) (v := .int (nI o1c)) (C := R_Opd) (T := T_Opd) (N := 6) hx hb hT in_Opd hown hK hP 0 rfl rfl 2 (by decide) (hT _ k_88) (fun _ h9 => h9) rfl d_Opd_add_82 ?_
          refine lv_iconst (v := 1) hx hb d_Opd_add_85 (by decide) ?_
          refine lv_iadd hx hb d_Opd_add_86 ?_
          refine lv_topi (fun z_15 ez_15 => ?_)
          obtain rfl : z_15 = nI (o1c + 1) := ez_15.trans (nI_add o1c 1)
          refine va_put (D := K.1) (ci := 7) (v := .int (nI (o1c + 1))) (ty := .int) (C := R_Opd) (T := T_Opd) (N := 6) hx hb hT in_Opd t_Opd t_Opd_ok n_Opd hown hK hP hD hS 0 rfl rfl 2 (by decide) (hT _ k_88) (fun _ h9 => h9) rfl (by decide +kernel) rfl rfl (Nat.le_of_ble_eq_true rfl) d_Opd_add_87 (fun H locs hP hD hS => ?_)
          have hP : va_P K.1 mx_cl [(od, .inr (7, [.int 1, .int 1, .int (nI (o1c + 1)), .int o1w, .ref ov, .ref oz])), (ov, .inl (K.2.1.1, 3, .inr (.inl fo))), (oz, .inl (K.2.1.2.2.2, 3, .inl fq)), (su, .inr (6, [.int (nI s1a), .int (nI s1e), .long s1h, .int (nI s1r), .int (nI s1t), .long s1m, .int (nI s1g), .int (nI s1i), .long s1v, .ref t, .ref lb]))] H := hP
          have hD : va_D A [(od, .inr (7, [.int 1, .int 1, .int (nI (o1c + 1)), .int o1w, .ref ov, .ref oz])), (ov, .inl (K.2.1.1, 3, .inr (.inl fo))), (oz, .inl (K.2.1.2.2.2, 3, .inl fq)), (su, .inr (6, [.int (nI s1a), .int (nI s1e), .long s1h, .int (nI s1r), .int (nI s1t), .long s1m, .int (nI s1g), .int (nI s1i), .long s1v, .ref t, .ref lb]))] := hD
          exact mx_rv F hr hlk hP hD hS [(od, .inr (7, [.int (nI 1), .int (nI 1), .int (nI (o1c + 1)), .int o1w, .ref ov, .ref oz])), (ov, .inl (K.2.1.1, 3, .inr (.inl fo))), (oz, .inl (K.2.1.2.2.2, 3, .inl fq)), (su, .inr (6, [.int (nI s1a), .int (nI s1e), .long s1h, .int (nI s1r), .int (nI s1t), .long s1m, .int (nI s1g), .int (nI s1i), .long s1v, .ref t, .ref lb]))] [0, 1, 2, 3] rfl (by decide) ⟨1, 1, fo, fq, (by first | assumption | omega | exact mx_ch_0), (by first | assumption | omega | exact mx_ch_0), rfl⟩ (by decide) (by decide) d_Opd_add_90
        · have h_14n := mx_fEq (a := o1y) (b := 0) (by omega) (by omega) h_14
          refine lv_aload_n hx hb d_Opd_add_65 rfl (lv_at hl 1 rfl) ?_
          refine va_get (D := K.1) (ci := 6) (v := .int (nI s1i)) (C := R_Sum) (T := T_Sum) (N := 11) hx hb hT in_Sum hown hK hP 3 rfl rfl 7 (by decide) (hT _ k_261) (fun _ h9 => h9) rfl d_Opd_add_66 ?_
          refine lv_if_eq (tgt := 76) hx hb d_Opd_add_69 (by decide) (fun h_16 => ?_) (fun h_16 => ?_)
          · have h_16n := mx_fEq (a := s1i) (b := 0) (by omega) (by omega) h_16
            refine lv_iconst (v := 0) hx hb d_Opd_add_76 (by decide) ?_
            refine va_put (D := K.1) (ci := 7) (v := .int 0) (ty := .boolean) (C := R_Opd) (T := T_Opd) (N := 6) hx hb hT in_Opd t_Opd t_Opd_ok n_Opd hown hK hP hD hS 0 rfl rfl 1 (by decide) (hT _ k_86) (fun _ h9 => h9) rfl (by decide +kernel) (by decide) (by decide) (Nat.le_of_ble_eq_true rfl) d_Opd_add_77 (fun H locs hP hD hS => ?_)
            have hP : va_P K.1 mx_cl [(od, .inr (7, [.int 1, .int 0, .int (nI o1c), .int o1w, .ref ov, .ref oz])), (ov, .inl (K.2.1.1, 3, .inr (.inl fo))), (oz, .inl (K.2.1.2.2.2, 3, .inl fq)), (su, .inr (6, [.int (nI s1a), .int (nI s1e), .long s1h, .int (nI s1r), .int (nI s1t), .long s1m, .int (nI s1g), .int (nI s1i), .long s1v, .ref t, .ref lb]))] H := hP
            have hD : va_D A [(od, .inr (7, [.int 1, .int 0, .int (nI o1c), .int o1w, .ref ov, .ref oz])), (ov, .inl (K.2.1.1, 3, .inr (.inl fo))), (oz, .inl (K.2.1.2.2.2, 3, .inl fq)), (su, .inr (6, [.int (nI s1a), .int (nI s1e), .long s1h, .int (nI s1r), .int (nI s1t), .long s1m, .int (nI s1g), .int (nI s1i), .long s1v, .ref t, .ref lb]))] := hD
            refine lv_aload_n hx hb d_Opd_add_80 rfl (lv_at hl 0 rfl) ?_
            refine lv_dup hx hb d_Opd_add_81 rfl ?_
            refine va_get (D := K.1) (ci := 7) (v := .int (nI o1c)) (C := R_Opd) (T := T_Opd) (N := 6) hx hb hT in_Opd hown hK hP 0 rfl rfl 2 (by decide) (hT _ k_88) (fun _ h9 => h9) rfl d_Opd_add_82 ?_
            refine lv_iconst (v := 1) hx hb d_Opd_add_85 (by decide) ?_
            refine lv_iadd hx hb d_Opd_add_86 ?_
            refine lv_topi (fun z_17 ez_17 => ?_)
            obtain rfl : z_17 = nI (o1c + 1) := ez_17.trans (nI_add o1c 1)
            refine va_put (D := K.1) (ci := 7) (v := .int (nI (o1c + 1))) (ty := .int) (C := R_Opd) (T := T_Opd) (N := 6) hx hb hT in_Opd t_Opd t_Opd_ok n_Opd hown hK hP hD hS 0 rfl rfl 2 (by decide) (hT _ k_88) (fun _ h9 => h9) rfl (by decide +kernel) rfl rfl (Nat.le_of_ble_eq_true rfl) d_Opd_add_87 (fun H locs hP hD hS => ?_)
            have hP : va_P K.1 mx_cl [(od, .inr (7, [.int 1, .int 0, .int (nI (o1c + 1)), .int o1w, .ref ov, .ref oz])), (ov, .inl (K.2.1.1, 3, .inr (.inl fo))), (oz, .inl (K.2.1.2.2.2, 3, .inl fq)), (su, .inr (6, [.int (nI s1a), .int (nI s1e), .long s1h, .int (nI s1r), .int (nI s1t), .long s1m, .int (nI s1g), .int (nI s1i), .long s1v, .ref t, .ref lb]))] H := hP
            have hD : va_D A [(od, .inr (7, [.int 1, .int 0, .int (nI (o1c + 1)), .int o1w, .ref ov, .ref oz])), (ov, .inl (K.2.1.1, 3, .inr (.inl fo))), (oz, .inl (K.2.1.2.2.2, 3, .inl fq)), (su, .inr (6, [.int (nI s1a), .int (nI s1e), .long s1h, .int (nI s1r), .int (nI s1t), .long s1m, .int (nI s1g), .int (nI s1i), .long s1v, .ref t, .ref lb]))] := hD
            exact mx_rv F hr hlk hP hD hS [(od, .inr (7, [.int (nI 1), .int (nI 0), .int (nI (o1c + 1)), .int o1w, .ref ov, .ref oz])), (ov, .inl (K.2.1.1, 3, .inr (.inl fo))), (oz, .inl (K.2.1.2.2.2, 3, .inl fq)), (su, .inr (6, [.int (nI s1a), .int (nI s1e), .long s1h, .int (nI s1r), .int (nI s1t), .long s1m, .int (nI s1g), .int (nI s1i), .long s1v, .ref t, .ref lb]))] [0, 1, 2, 3] rfl (by decide) ⟨1, 0, fo, fq, (by first | assumption | omega | exact mx_ch_0), (by first | assumption | omega | exact mx_ch_0), rfl⟩ (by decide) (by decide) d_Opd_add_90
          · have h_16n := mx_fNe (a := s1i) (b := 0) (by omega) (by omega) h_16
            refine lv_iconst (v := 1) hx hb d_Opd_add_72 (by decide) ?_
            refine lv_goto (tgt := 77) hx hb d_Opd_add_73 (by decide) ?_
            refine va_put (D := K.1) (ci := 7) (v := .int 1) (ty := .boolean) (C := R_Opd) (T := T_Opd) (N := 6) hx hb hT in_Opd t_Opd t_Opd_ok n_Opd hown hK hP hD hS 0 rfl rfl 1 (by decide) (hT _ k_86) (fun _ h9 => h9) rfl (by decide +kernel) (by decide) (by decide) (Nat.le_of_ble_eq_true rfl) d_Opd_add_77 (fun H locs hP hD hS => ?_)
            have hP : va_P K.1 mx_cl [(od, .inr (7, [.int 1, .int 1, .int (nI o1c), .int o1w, .ref ov, .ref oz])), (ov, .inl (K.2.1.1, 3, .inr (.inl fo))), (oz, .inl (K.2.1.2.2.2, 3, .inl fq)), (su, .inr (6, [.int (nI s1a), .int (nI s1e), .long s1h, .int (nI s1r), .int (nI s1t), .long s1m, .int (nI s1g), .int (nI s1i), .long s1v, .ref t, .ref lb]))] H := hP
            have hD : va_D A [(od, .inr (7, [.int 1, .int 1, .int (nI o1c), .int o1w, .ref ov, .ref oz])), (ov, .inl (K.2.1.1, 3, .inr (.inl fo))), (oz, .inl (K.2.1.2.2.2, 3, .inl fq)), (su, .inr (6, [.int (nI s1a), .int (nI s1e), .long s1h, .int (nI s1r), .int (nI s1t), .long s1m, .int (nI s1g), .int (nI s1i), .long s1v, .ref t, .ref lb]))] := hD
            refine lv_aload_n hx hb d_Opd_add_80 rfl (lv_at hl 0 rfl) ?_
            refine lv_dup hx hb d_Opd_add_81 rfl ?_
            refine va_get (D := K.1) (ci := 7) (v := .int (nI o1c)) (C := R_Opd) (T := T_Opd) (N := 6) hx hb hT in_Opd hown hK hP 0 rfl rfl 2 (by decide) (hT _ k_88) (fun _ h9 => h9) rfl d_Opd_add_82 ?_
            refine lv_iconst (v := 1) hx hb d_Opd_add_85 (by decide) ?_
            refine lv_iadd hx hb d_Opd_add_86 ?_
            refine lv_topi (fun z_18 ez_18 => ?_)
            obtain rfl : z_18 = nI (o1c + 1) := ez_18.trans (nI_add o1c 1)
            refine va_put (D := K.1) (ci := 7) (v := .int (nI (o1c + 1))) (ty := .int) (C := R_Opd) (T := T_Opd) (N := 6) hx hb hT in_Opd t_Opd t_Opd_ok n_Opd hown hK hP hD hS 0 rfl rfl 2 (by decide) (hT _ k_88) (fun _ h9 => h9) rfl (by decide +kernel) rfl rfl (Nat.le_of_ble_eq_true rfl) d_Opd_add_87 (fun H locs hP hD hS => ?_)
            have hP : va_P K.1 mx_cl [(od, .inr (7, [.int 1, .int 1, .int (nI (o1c + 1)), .int o1w, .ref ov, .ref oz])), (ov, .inl (K.2.1.1, 3, .inr (.inl fo))), (oz, .inl (K.2.1.2.2.2, 3, .inl fq)), (su, .inr (6, [.int (nI s1a), .int (nI s1e), .long s1h, .int (nI s1r), .int (nI s1t), .long s1m, .int (nI s1g), .int (nI s1i), .long s1v, .ref t, .ref lb]))] H := hP
            have hD : va_D A [(od, .inr (7, [.int 1, .int 1, .int (nI (o1c + 1)), .int o1w, .ref ov, .ref oz])), (ov, .inl (K.2.1.1, 3, .inr (.inl fo))), (oz, .inl (K.2.1.2.2.2, 3, .inl fq)), (su, .inr (6, [.int (nI s1a), .int (nI s1e), .long s1h, .int (nI s1r), .int (nI s1t), .long s1m, .int (nI s1g), .int (nI s1i), .long s1v, .ref t, .ref lb]))] := hD
            exact mx_rv F hr hlk hP hD hS [(od, .inr (7, [.int (nI 1), .int (nI 1), .int (nI (o1c + 1)), .int o1w, .ref ov, .ref oz])), (ov, .inl (K.2.1.1, 3, .inr (.inl fo))), (oz, .inl (K.2.1.2.2.2, 3, .inl fq)), (su, .inr (6, [.int (nI s1a), .int (nI s1e), .long s1h, .int (nI s1r), .int (nI s1t), .long s1m, .int (nI s1g), .int (nI s1i), .long s1v, .ref t, .ref lb]))] [0, 1, 2, 3] rfl (by decide) ⟨1, 1, fo, fq, (by first | assumption | omega | exact mx_ch_0), (by first | assumption | omega | exact mx_ch_0), rfl⟩ (by decide) (by decide) d_Opd_add_90
  · have h_1n := mx_fNle (a := 3) (b := o1c) (by omega) (by omega) h_1
    refine lv_aload_n hx hb d_Opd_add_8 rfl (lv_at hl 0 rfl) ?_
    refine va_get (D := K.1) (ci := 7) (v := .ref ov) (C := R_Opd) (T := T_Opd) (N := 6) hx hb hT in_Opd hown hK hP 0 rfl rfl 4 (by decide) (hT _ k_80) (fun _ h9 => h9) rfl d_Opd_add_9 ?_
    refine lv_aload_n hx hb d_Opd_add_12 rfl (lv_at hl 0 rfl) ?_
    refine va_get (D := K.1) (ci := 7) (v := .int (nI o1c)) (C := R_Opd) (T := T_Opd) (N := 6) hx hb hT in_Opd hown hK hP 0 rfl rfl 2 (by decide) (hT _ k_88) (fun _ h9 => h9) rfl d_Opd_add_13 ?_
    refine lv_aload_n hx hb d_Opd_add_16 rfl (lv_at hl 1 rfl) ?_
    refine va_get (D := K.1) (ci := 6) (v := .long s1v) (C := R_Sum) (T := T_Sum) (N := 11) hx hb hT in_Sum hown hK hP 3 rfl rfl 8 (by decide) (hT _ k_263) (fun _ h9 => h9) rfl d_Opd_add_17 ?_
    refine va_last hx hb hK hP hD hS 1 0 rfl rfl (i := nI o1c) (x := s1v) (vp_in_nI (n := o1c) (N := 3) (by omega) (by decide)) d_Opd_add_20 (fun H locs hP hD hS => ?_)
    have hP : va_P K.1 mx_cl [(od, .inr (7, [.int (nI o1g), .int (nI o1y), .int (nI o1c), .int o1w, .ref ov, .ref oz])), (ov, .inl (K.2.1.1, 3, .inr (.inl (vp_updL fo (nI o1c).toNatClampNeg s1v)))), (oz, .inl (K.2.1.2.2.2, 3, .inl fq)), (su, .inr (6, [.int (nI s1a), .int (nI s1e), .long s1h, .int (nI s1r), .int (nI s1t), .long s1m, .int (nI s1g), .int (nI s1i), .long s1v, .ref t, .ref lb]))] H := hP
    have hD : va_D A [(od, .inr (7, [.int (nI o1g), .int (nI o1y), .int (nI o1c), .int o1w, .ref ov, .ref oz])), (ov, .inl (K.2.1.1, 3, .inr (.inl (vp_updL fo (nI o1c).toNatClampNeg s1v)))), (oz, .inl (K.2.1.2.2.2, 3, .inl fq)), (su, .inr (6, [.int (nI s1a), .int (nI s1e), .long s1h, .int (nI s1r), .int (nI s1t), .long s1m, .int (nI s1g), .int (nI s1i), .long s1v, .ref t, .ref lb]))] := hD
    generalize ef_19 : vp_updL fo (nI o1c).toNatClampNeg s1v = f_19 at hP hD
    refine lv_aload_n hx hb d_Opd_add_21 rfl (lv_at hl 0 rfl) ?_
    refine va_get (D := K.1) (ci := 7) (v := .ref oz) (C := R_Opd) (T := T_Opd) (N := 6) hx hb hT in_Opd hown hK hP 0 rfl rfl 5 (by decide) (hT _ k_82) (fun _ h9 => h9) rfl d_Opd_add_22 ?_
    refine lv_aload_n hx hb d_Opd_add_25 rfl (lv_at hl 0 rfl) ?_
    refine va_get (D := K.1) (ci := 7) (v := .int (nI o1c)) (C := R_Opd) (T := T_Opd) (N := 6) hx hb hT in_Opd hown hK hP 0 rfl rfl 2 (by decide) (hT _ k_88) (fun _ h9 => h9) rfl d_Opd_add_26 ?_
    refine lv_aload_n hx hb d_Opd_add_29 rfl (lv_at hl 1 rfl) ?_
    refine va_get (D := K.1) (ci := 6) (v := .int (nI s1i)) (C := R_Sum) (T := T_Sum) (N := 11) hx hb hT in_Sum hown hK hP 3 rfl rfl 7 (by decide) (hT _ k_261) (fun _ h9 => h9) rfl d_Opd_add_30 ?_
    refine va_zast hx hb hK hP hD hS 2 3 rfl rfl (i := nI o1c) (x := nI s1i) (vp_in_nI (n := o1c) (N := 3) (by omega) (by decide)) d_Opd_add_33 (fun H locs hP hD hS => ?_)
    have hP : va_P K.1 mx_cl [(od, .inr (7, [.int (nI o1g), .int (nI o1y), .int (nI o1c), .int o1w, .ref ov, .ref oz])), (ov, .inl (K.2.1.1, 3, .inr (.inl f_19))), (oz, .inl (K.2.1.2.2.2, 3, .inl (upd fq (nI o1c).toNatClampNeg (vp_nar .boolean (nI s1i))))), (su, .inr (6, [.int (nI s1a), .int (nI s1e), .long s1h, .int (nI s1r), .int (nI s1t), .long s1m, .int (nI s1g), .int (nI s1i), .long s1v, .ref t, .ref lb]))] H := hP
    have hD : va_D A [(od, .inr (7, [.int (nI o1g), .int (nI o1y), .int (nI o1c), .int o1w, .ref ov, .ref oz])), (ov, .inl (K.2.1.1, 3, .inr (.inl f_19))), (oz, .inl (K.2.1.2.2.2, 3, .inl (upd fq (nI o1c).toNatClampNeg (vp_nar .boolean (nI s1i))))), (su, .inr (6, [.int (nI s1a), .int (nI s1e), .long s1h, .int (nI s1r), .int (nI s1t), .long s1m, .int (nI s1g), .int (nI s1i), .long s1v, .ref t, .ref lb]))] := hD
    generalize ef_20 : upd fq (nI o1c).toNatClampNeg (vp_nar .boolean (nI s1i)) = f_20 at hP hD
    refine lv_aload_n hx hb d_Opd_add_34 rfl (lv_at hl 0 rfl) ?_
    refine lv_aload_n hx hb d_Opd_add_35 rfl (lv_at hl 0 rfl) ?_
    refine va_get (D := K.1) (ci := 7) (v := .int (nI o1g)) (C := R_Opd) (T := T_Opd) (N := 6) hx hb hT in_Opd hown hK hP 0 rfl rfl 0 (by decide) (hT _ k_84) (fun _ h9 => h9) rfl d_Opd_add_36 ?_
    refine lv_if_eq (tgt := 53) hx hb d_Opd_add_39 (by decide) (fun h_21 => ?_) (fun h_21 => ?_)
    · have h_21n := mx_fEq (a := o1g) (b := 0) (by omega) (by omega) h_21
      refine lv_iconst (v := 0) hx hb d_Opd_add_53 (by decide) ?_
      refine va_put (D := K.1) (ci := 7) (v := .int 0) (ty := .boolean) (C := R_Opd) (T := T_Opd) (N := 6) hx hb hT in_Opd t_Opd t_Opd_ok n_Opd hown hK hP hD hS 0 rfl rfl 0 (by decide) (hT _ k_84) (fun _ h9 => h9) rfl (by decide +kernel) (by decide) (by decide) (Nat.le_of_ble_eq_true rfl) d_Opd_add_54 (fun H locs hP hD hS => ?_)
      have hP : va_P K.1 mx_cl [(od, .inr (7, [.int 0, .int (nI o1y), .int (nI o1c), .int o1w, .ref ov, .ref oz])), (ov, .inl (K.2.1.1, 3, .inr (.inl f_19))), (oz, .inl (K.2.1.2.2.2, 3, .inl f_20)), (su, .inr (6, [.int (nI s1a), .int (nI s1e), .long s1h, .int (nI s1r), .int (nI s1t), .long s1m, .int (nI s1g), .int (nI s1i), .long s1v, .ref t, .ref lb]))] H := hP
      have hD : va_D A [(od, .inr (7, [.int 0, .int (nI o1y), .int (nI o1c), .int o1w, .ref ov, .ref oz])), (ov, .inl (K.2.1.1, 3, .inr (.inl f_19))), (oz, .inl (K.2.1.2.2.2, 3, .inl f_20)), (su, .inr (6, [.int (nI s1a), .int (nI s1e), .long s1h, .int (nI s1r), .int (nI s1t), .long s1m, .int (nI s1g), .int (nI s1i), .long s1v, .ref t, .ref lb]))] := hD
      refine lv_aload_n hx hb d_Opd_add_57 rfl (lv_at hl 0 rfl) ?_
      refine lv_aload_n hx hb d_Opd_add_58 rfl (lv_at hl 0 rfl) ?_
      refine va_get (D := K.1) (ci := 7) (v := .int (nI o1y)) (C := R_Opd) (T := T_Opd) (N := 6) hx hb hT in_Opd hown hK hP 0 rfl rfl 1 (by decide) (hT _ k_86) (fun _ h9 => h9) rfl d_Opd_add_59 ?_
      refine lv_if_ne (tgt := 72) hx hb d_Opd_add_62 (by decide) (fun h_22 => ?_) (fun h_22 => ?_)
      · have h_22n := mx_fNe (a := o1y) (b := 0) (by omega) (by omega) h_22
        refine lv_iconst (v := 1) hx hb d_Opd_add_72 (by decide) ?_
        refine lv_goto (tgt := 77) hx hb d_Opd_add_73 (by decide) ?_
        refine va_put (D := K.1) (ci := 7) (v := .int 1) (ty := .boolean) (C := R_Opd) (T := T_Opd) (N := 6) hx hb hT in_Opd t_Opd t_Opd_ok n_Opd hown hK hP hD hS 0 rfl rfl 1 (by decide) (hT _ k_86) (fun _ h9 => h9) rfl (by decide +kernel) (by decide) (by decide) (Nat.le_of_ble_eq_true rfl) d_Opd_add_77 (fun H locs hP hD hS => ?_)
        have hP : va_P K.1 mx_cl [(od, .inr (7, [.int 0, .int 1, .int (nI o1c), .int o1w, .ref ov, .ref oz])), (ov, .inl (K.2.1.1, 3, .inr (.inl f_19))), (oz, .inl (K.2.1.2.2.2, 3, .inl f_20)), (su, .inr (6, [.int (nI s1a), .int (nI s1e), .long s1h, .int (nI s1r), .int (nI s1t), .long s1m, .int (nI s1g), .int (nI s1i), .long s1v, .ref t, .ref lb]))] H := hP
        have hD : va_D A [(od, .inr (7, [.int 0, .int 1, .int (nI o1c), .int o1w, .ref ov, .ref oz])), (ov, .inl (K.2.1.1, 3, .inr (.inl f_19))), (oz, .inl (K.2.1.2.2.2, 3, .inl f_20)), (su, .inr (6, [.int (nI s1a), .int (nI s1e), .long s1h, .int (nI s1r), .int (nI s1t), .long s1m, .int (nI s1g), .int (nI s1i), .long s1v, .ref t, .ref lb]))] := hD
        refine lv_aload_n hx hb d_Opd_add_80 rfl (lv_at hl 0 rfl) ?_
        refine lv_dup hx hb d_Opd_add_81 rfl ?_
        refine va_get (D := K.1) (ci := 7) (v := .int (nI o1c)) (C := R_Opd) (T := T_Opd) (N := 6) hx hb hT in_Opd hown hK hP 0 rfl rfl 2 (by decide) (hT _ k_88) (fun _ h9 => h9) rfl d_Opd_add_82 ?_
        refine lv_iconst (v := 1) hx hb d_Opd_add_85 (by decide) ?_
        refine lv_iadd hx hb d_Opd_add_86 ?_
        refine lv_topi (fun z_23 ez_23 => ?_)
        obtain rfl : z_23 = nI (o1c + 1) := ez_23.trans (nI_add o1c 1)
        refine va_put (D := K.1) (ci := 7) (v := .int (nI (o1c + 1))) (ty := .int) (C := R_Opd) (T := T_Opd) (N := 6) hx hb hT in_Opd t_Opd t_Opd_ok n_Opd hown hK hP hD hS 0 rfl rfl 2 (by decide) (hT _ k_88) (fun _ h9 => h9) rfl (by decide +kernel) rfl rfl (Nat.le_of_ble_eq_true rfl) d_Opd_add_87 (fun H locs hP hD hS => ?_)
        have hP : va_P K.1 mx_cl [(od, .inr (7, [.int 0, .int 1, .int (nI (o1c + 1)), .int o1w, .ref ov, .ref oz])), (ov, .inl (K.2.1.1, 3, .inr (.inl f_19))), (oz, .inl (K.2.1.2.2.2, 3, .inl f_20)), (su, .inr (6, [.int (nI s1a), .int (nI s1e), .long s1h, .int (nI s1r), .int (nI s1t), .long s1m, .int (nI s1g), .int (nI s1i), .long s1v, .ref t, .ref lb]))] H := hP
        have hD : va_D A [(od, .inr (7, [.int 0, .int 1, .int (nI (o1c + 1)), .int o1w, .ref ov, .ref oz])), (ov, .inl (K.2.1.1, 3, .inr (.inl f_19))), (oz, .inl (K.2.1.2.2.2, 3, .inl f_20)), (su, .inr (6, [.int (nI s1a), .int (nI s1e), .long s1h, .int (nI s1r), .int (nI s1t), .long s1m, .int (nI s1g), .int (nI s1i), .long s1v, .ref t, .ref lb]))] := hD
        exact mx_rv F hr hlk hP hD hS [(od, .inr (7, [.int (nI 0), .int (nI 1), .int (nI (o1c + 1)), .int o1w, .ref ov, .ref oz])), (ov, .inl (K.2.1.1, 3, .inr (.inl f_19))), (oz, .inl (K.2.1.2.2.2, 3, .inl f_20)), (su, .inr (6, [.int (nI s1a), .int (nI s1e), .long s1h, .int (nI s1r), .int (nI s1t), .long s1m, .int (nI s1g), .int (nI s1i), .long s1v, .ref t, .ref lb]))] [0, 1, 2, 3] rfl (by decide) ⟨0, 1, f_19, f_20, (by first | assumption | omega | exact mx_ch_0), (by first | assumption | omega | exact mx_ch_0), rfl⟩ (by decide) (by decide) d_Opd_add_90
      · have h_22n := mx_fEq (a := o1y) (b := 0) (by omega) (by omega) h_22
        refine lv_aload_n hx hb d_Opd_add_65 rfl (lv_at hl 1 rfl) ?_
        refine va_get (D := K.1) (ci := 6) (v := .int (nI s1i)) (C := R_Sum) (T := T_Sum) (N := 11) hx hb hT in_Sum hown hK hP 3 rfl rfl 7 (by decide) (hT _ k_261) (fun _ h9 => h9) rfl d_Opd_add_66 ?_
        refine lv_if_eq (tgt := 76) hx hb d_Opd_add_69 (by decide) (fun h_24 => ?_) (fun h_24 => ?_)
        · have h_24n := mx_fEq (a := s1i) (b := 0) (by omega) (by omega) h_24
          refine lv_iconst (v := 0) hx hb d_Opd_add_76 (by decide) ?_
          refine va_put (D := K.1) (ci := 7) (v := .int 0) (ty := .boolean) (C := R_Opd) (T := T_Opd) (N := 6) hx hb hT in_Opd t_Opd t_Opd_ok n_Opd hown hK hP hD hS 0 rfl rfl 1 (by decide) (hT _ k_86) (fun _ h9 => h9) rfl (by decide +kernel) (by decide) (by decide) (Nat.le_of_ble_eq_true rfl) d_Opd_add_77 (fun H locs hP hD hS => ?_)
          have hP : va_P K.1 mx_cl [(od, .inr (7, [.int 0, .int 0, .int (nI o1c), .int o1w, .ref ov, .ref oz])), (ov, .inl (K.2.1.1, 3, .inr (.inl f_19))), (oz, .inl (K.2.1.2.2.2, 3, .inl f_20)), (su, .inr (6, [.int (nI s1a), .int (nI s1e), .long s1h, .int (nI s1r), .int (nI s1t), .long s1m, .int (nI s1g), .int (nI s1i), .long s1v, .ref t, .ref lb]))] H := hP
          have hD : va_D A [(od, .inr (7, [.int 0, .int 0, .int (nI o1c), .int o1w, .ref ov, .ref oz])), (ov, .inl (K.2.1.1, 3, .inr (.inl f_19))), (oz, .inl (K.2.1.2.2.2, 3, .inl f_20)), (su, .inr (6, [.int (nI s1a), .int (nI s1e), .long s1h, .int (nI s1r), .int (nI s1t), .long s1m, .int (nI s1g), .int (nI s1i), .long s1v, .ref t, .ref lb]))] := hD
          refine lv_aload_n hx hb d_Opd_add_80 rfl (lv_at hl 0 rfl) ?_
          refine lv_dup hx hb d_Opd_add_81 rfl ?_
          refine va_get (D := K.1) (ci := 7) (v := .int (nI o1c)) (C := R_Opd) (T := T_Opd) (N := 6) hx hb hT in_Opd hown hK hP 0 rfl rfl 2 (by decide) (hT _ k_88) (fun _ h9 => h9) rfl d_Opd_add_82 ?_
          refine lv_iconst (v := 1) hx hb d_Opd_add_85 (by decide) ?_
          refine lv_iadd hx hb d_Opd_add_86 ?_
          refine lv_topi (fun z_25 ez_25 => ?_)
          obtain rfl : z_25 = nI (o1c + 1) := ez_25.trans (nI_add o1c 1)
          refine va_put (D := K.1) (ci := 7) (v := .int (nI (o1c + 1))) (ty := .int) (C := R_Opd) (T := T_Opd) (N := 6) hx hb hT in_Opd t_Opd t_Opd_ok n_Opd hown hK hP hD hS 0 rfl rfl 2 (by decide) (hT _ k_88) (fun _ h9 => h9) rfl (by decide +kernel) rfl rfl (Nat.le_of_ble_eq_true rfl) d_Opd_add_87 (fun H locs hP hD hS => ?_)
          have hP : va_P K.1 mx_cl [(od, .inr (7, [.int 0, .int 0, .int (nI (o1c + 1)), .int o1w, .ref ov, .ref oz])), (ov, .inl (K.2.1.1, 3, .inr (.inl f_19))), (oz, .inl (K.2.1.2.2.2, 3, .inl f_20)), (su, .inr (6, [.int (nI s1a), .int (nI s1e), .long s1h, .int (nI s1r), .int (nI s1t), .long s1m, .int (nI s1g), .int (nI s1i), .long s1v, .ref t, .ref lb]))] H := hP
          have hD : va_D A [(od, .inr (7, [.int 0, .int 0, .int (nI (o1c + 1)), .int o1w, .ref ov, .ref oz])), (ov, .inl (K.2.1.1, 3, .inr (.inl f_19))), (oz, .inl (K.2.1.2.2.2, 3, .inl f_20)), (su, .inr (6, [.int (nI s1a), .int (nI s1e), .long s1h, .int (nI s1r), .int (nI s1t), .long s1m, .int (nI s1g), .int (nI s1i), .long s1v, .ref t, .ref lb]))] := hD
          exact mx_rv F hr hlk hP hD hS [(od, .inr (7, [.int (nI 0), .int (nI 0), .int (nI (o1c + 1)), .int o1w, .ref ov, .ref oz])), (ov, .inl (K.2.1.1, 3, .inr (.inl f_19))), (oz, .inl (K.2.1.2.2.2, 3, .inl f_20)), (su, .inr (6, [.int (nI s1a), .int (nI s1e), .long s1h, .int (nI s1r), .int (nI s1t), .long s1m, .int (nI s1g), .int (nI s1i), .long s1v, .ref t, .ref lb]))] [0, 1, 2, 3] rfl (by decide) ⟨0, 0, f_19, f_20, (by first | assumption | omega | exact mx_ch_0), (by first | assumption | omega | exact mx_ch_0), rfl⟩ (by decide) (by decide) d_Opd_add_90
        · have h_24n := mx_fNe (a := s1i) (b := 0) (by omega) (by omega) h_24
          refine lv_iconst (v := 1) hx hb d_Opd_add_72 (by decide) ?_
          refine lv_goto (tgt := 77) hx hb d_Opd_add_73 (by decide) ?_
          refine va_put (D := K.1) (ci := 7) (v := .int 1) (ty := .boolean) (C := R_Opd) (T := T_Opd) (N := 6) hx hb hT in_Opd t_Opd t_Opd_ok n_Opd hown hK hP hD hS 0 rfl rfl 1 (by decide) (hT _ k_86) (fun _ h9 => h9) rfl (by decide +kernel) (by decide) (by decide) (Nat.le_of_ble_eq_true rfl) d_Opd_add_77 (fun H locs hP hD hS => ?_)
          have hP : va_P K.1 mx_cl [(od, .inr (7, [.int 0, .int 1, .int (nI o1c), .int o1w, .ref ov, .ref oz])), (ov, .inl (K.2.1.1, 3, .inr (.inl f_19))), (oz, .inl (K.2.1.2.2.2, 3, .inl f_20)), (su, .inr (6, [.int (nI s1a), .int (nI s1e), .long s1h, .int (nI s1r), .int (nI s1t), .long s1m, .int (nI s1g), .int (nI s1i), .long s1v, .ref t, .ref lb]))] H := hP
          have hD : va_D A [(od, .inr (7, [.int 0, .int 1, .int (nI o1c), .int o1w, .ref ov, .ref oz])), (ov, .inl (K.2.1.1, 3, .inr (.inl f_19))), (oz, .inl (K.2.1.2.2.2, 3, .inl f_20)), (su, .inr (6, [.int (nI s1a), .int (nI s1e), .long s1h, .int (nI s1r), .int (nI s1t), .long s1m, .int (nI s1g), .int (nI s1i), .long s1v, .ref t, .ref lb]))] := hD
          refine lv_aload_n hx hb d_Opd_add_80 rfl (lv_at hl 0 rfl) ?_
          refine lv_dup hx hb d_Opd_add_81 rfl ?_
          refine va_get (D := K.1) (ci := 7) (v := .int (nI o1c)) (C := R_Opd) (T := T_Opd) (N := 6) hx hb hT in_Opd hown hK hP 0 rfl rfl 2 (by decide) (hT _ k_88) (fun _ h9 => h9) rfl d_Opd_add_82 ?_
          refine lv_iconst (v := 1) hx hb d_Opd_add_85 (by decide) ?_
          refine lv_iadd hx hb d_Opd_add_86 ?_
          refine lv_topi (fun z_26 ez_26 => ?_)
          obtain rfl : z_26 = nI (o1c + 1) := ez_26.trans (nI_add o1c 1)
          refine va_put (D := K.1) (ci := 7) (v := .int (nI (o1c + 1))) (ty := .int) (C := R_Opd) (T := T_Opd) (N := 6) hx hb hT in_Opd t_Opd t_Opd_ok n_Opd hown hK hP hD hS 0 rfl rfl 2 (by decide) (hT _ k_88) (fun _ h9 => h9) rfl (by decide +kernel) rfl rfl (Nat.le_of_ble_eq_true rfl) d_Opd_add_87 (fun H locs hP hD hS => ?_)
          have hP : va_P K.1 mx_cl [(od, .inr (7, [.int 0, .int 1, .int (nI (o1c + 1)), .int o1w, .ref ov, .ref oz])), (ov, .inl (K.2.1.1, 3, .inr (.inl f_19))), (oz, .inl (K.2.1.2.2.2, 3, .inl f_20)), (su, .inr (6, [.int (nI s1a), .int (nI s1e), .long s1h, .int (nI s1r), .int (nI s1t), .long s1m, .int (nI s1g), .int (nI s1i), .long s1v, .ref t, .ref lb]))] H := hP
          have hD : va_D A [(od, .inr (7, [.int 0, .int 1, .int (nI (o1c + 1)), .int o1w, .ref ov, .ref oz])), (ov, .inl (K.2.1.1, 3, .inr (.inl f_19))), (oz, .inl (K.2.1.2.2.2, 3, .inl f_20)), (su, .inr (6, [.int (nI s1a), .int (nI s1e), .long s1h, .int (nI s1r), .int (nI s1t), .long s1m, .int (nI s1g), .int (nI s1i), .long s1v, .ref t, .ref lb]))] := hD
          exact mx_rv F hr hlk hP hD hS [(od, .inr (7, [.int (nI 0), .int (nI 1), .int (nI (o1c + 1)), .int o1w, .ref ov, .ref oz])), (ov, .inl (K.2.1.1, 3, .inr (.inl f_19))), (oz, .inl (K.2.1.2.2.2, 3, .inl f_20)), (su, .inr (6, [.int (nI s1a), .int (nI s1e), .long s1h, .int (nI s1r), .int (nI s1t), .long s1m, .int (nI s1g), .int (nI s1i), .long s1v, .ref t, .ref lb]))] [0, 1, 2, 3] rfl (by decide) ⟨0, 1, f_19, f_20, (by first | assumption | omega | exact mx_ch_0), (by first | assumption | omega | exact mx_ch_0), rfl⟩ (by decide) (by decide) d_Opd_add_90
    · have h_21n := mx_fNe (a := o1g) (b := 0) (by omega) (by omega) h_21
      refine lv_aload_n hx hb d_Opd_add_42 rfl (lv_at hl 1 rfl) ?_
      refine va_get (D := K.1) (ci := 6) (v := .int (nI s1g)) (C := R_Sum) (T := T_Sum) (N := 11) hx hb hT in_Sum hown hK hP 3 rfl rfl 6 (by decide) (hT _ k_259) (fun _ h9 => h9) rfl d_Opd_add_43 ?_
      refine lv_if_eq (tgt := 53) hx hb d_Opd_add_46 (by decide) (fun h_27 => ?_) (fun h_27 => ?_)
      · have h_27n := mx_fEq (a := s1g) (b := 0) (by omega) (by omega) h_27
        refine lv_iconst (v := 0) hx hb d_Opd_add_53 (by decide) ?_
        refine va_put (D := K.1) (ci := 7) (v := .int 0) (ty := .boolean) (C := R_Opd) (T := T_Opd) (N := 6) hx hb hT in_Opd t_Opd t_Opd_ok n_Opd hown hK hP hD hS 0 rfl rfl 0 (by decide) (hT _ k_84) (fun _ h9 => h9) rfl (by decide +kernel) (by decide) (by decide) (Nat.le_of_ble_eq_true rfl) d_Opd_add_54 (fun H locs hP hD hS => ?_)
        have hP : va_P K.1 mx_cl [(od, .inr (7, [.int 0, .int (nI o1y), .int (nI o1c), .int o1w, .ref ov, .ref oz])), (ov, .inl (K.2.1.1, 3, .inr (.inl f_19))), (oz, .inl (K.2.1.2.2.2, 3, .inl f_20)), (su, .inr (6, [.int (nI s1a), .int (nI s1e), .long s1h, .int (nI s1r), .int (nI s1t), .long s1m, .int (nI s1g), .int (nI s1i), .long s1v, .ref t, .ref lb]))] H := hP
        have hD : va_D A [(od, .inr (7, [.int 0, .int (nI o1y), .int (nI o1c), .int o1w, .ref ov, .ref oz])), (ov, .inl (K.2.1.1, 3, .inr (.inl f_19))), (oz, .inl (K.2.1.2.2.2, 3, .inl f_20)), (su, .inr (6, [.int (nI s1a), .int (nI s1e), .long s1h, .int (nI s1r), .int (nI s1t), .long s1m, .int (nI s1g), .int (nI s1i), .long s1v, .ref t, .ref lb]))] := hD
        refine lv_aload_n hx hb d_Opd_add_57 rfl (lv_at hl 0 rfl) ?_
        refine lv_aload_n hx hb d_Opd_add_58 rfl (lv_at hl 0 rfl) ?_
        refine va_get (D := K.1) (ci := 7) (v := .int (nI o1y)) (C := R_Opd) (T := T_Opd) (N := 6) hx hb hT in_Opd hown hK hP 0 rfl rfl 1 (by decide) (hT _ k_86) (fun _ h9 => h9) rfl d_Opd_add_59 ?_
        refine lv_if_ne (tgt := 72) hx hb d_Opd_add_62 (by decide) (fun h_28 => ?_) (fun h_28 => ?_)
        · have h_28n := mx_fNe (a := o1y) (b := 0) (by omega) (by omega) h_28
          refine lv_iconst (v := 1) hx hb d_Opd_add_72 (by decide) ?_
          refine lv_goto (tgt := 77) hx hb d_Opd_add_73 (by decide) ?_
          refine va_put (D := K.1) (ci := 7) (v := .int 1) (ty := .boolean) (C := R_Opd) (T := T_Opd) (N := 6) hx hb hT in_Opd t_Opd t_Opd_ok n_Opd hown hK hP hD hS 0 rfl rfl 1 (by decide) (hT _ k_86) (fun _ h9 => h9) rfl (by decide +kernel) (by decide) (by decide) (Nat.le_of_ble_eq_true rfl) d_Opd_add_77 (fun H locs hP hD hS => ?_)
          have hP : va_P K.1 mx_cl [(od, .inr (7, [.int 0, .int 1, .int (nI o1c), .int o1w, .ref ov, .ref oz])), (ov, .inl (K.2.1.1, 3, .inr (.inl f_19))), (oz, .inl (K.2.1.2.2.2, 3, .inl f_20)), (su, .inr (6, [.int (nI s1a), .int (nI s1e), .long s1h, .int (nI s1r), .int (nI s1t), .long s1m, .int (nI s1g), .int (nI s1i), .long s1v, .ref t, .ref lb]))] H := hP
          have hD : va_D A [(od, .inr (7, [.int 0, .int 1, .int (nI o1c), .int o1w, .ref ov, .ref oz])), (ov, .inl (K.2.1.1, 3, .inr (.inl f_19))), (oz, .inl (K.2.1.2.2.2, 3, .inl f_20)), (su, .inr (6, [.int (nI s1a), .int (nI s1e), .long s1h, .int (nI s1r), .int (nI s1t), .long s1m, .int (nI s1g), .int (nI s1i), .long s1v, .ref t, .ref lb]))] := hD
          refine lv_aload_n hx hb d_Opd_add_80 rfl (lv_at hl 0 rfl) ?_
          refine lv_dup hx hb d_Opd_add_81 rfl ?_
          refine va_get (D := K.1) (ci := 7) (v := .int (nI o1c)) (C := R_Opd) (T := T_Opd) (N := 6) hx hb hT in_Opd hown hK hP 0 rfl rfl 2 (by decide) (hT _ k_88) (fun _ h9 => h9) rfl d_Opd_add_82 ?_
          refine lv_iconst (v := 1) hx hb d_Opd_add_85 (by decide) ?_
          refine lv_iadd hx hb d_Opd_add_86 ?_
          refine lv_topi (fun z_29 ez_29 => ?_)
          obtain rfl : z_29 = nI (o1c + 1) := ez_29.trans (nI_add o1c 1)
          refine va_put (D := K.1) (ci := 7) (v := .int (nI (o1c + 1))) (ty := .int) (C := R_Opd) (T := T_Opd) (N := 6) hx hb hT in_Opd t_Opd t_Opd_ok n_Opd hown hK hP hD hS 0 rfl rfl 2 (by decide) (hT _ k_88) (fun _ h9 => h9) rfl (by decide +kernel) rfl rfl (Nat.le_of_ble_eq_true rfl) d_Opd_add_87 (fun H locs hP hD hS => ?_)
          have hP : va_P K.1 mx_cl [(od, .inr (7, [.int 0, .int 1, .int (nI (o1c + 1)), .int o1w, .ref ov, .ref oz])), (ov, .inl (K.2.1.1, 3, .inr (.inl f_19))), (oz, .inl (K.2.1.2.2.2, 3, .inl f_20)), (su, .inr (6, [.int (nI s1a), .int (nI s1e), .long s1h, .int (nI s1r), .int (nI s1t), .long s1m, .int (nI s1g), .int (nI s1i), .long s1v, .ref t, .ref lb]))] H := hP
          have hD : va_D A [(od, .inr (7, [.int 0, .int 1, .int (nI (o1c + 1)), .int o1w, .ref ov, .ref oz])), (ov, .inl (K.2.1.1, 3, .inr (.inl f_19))), (oz, .inl (K.2.1.2.2.2, 3, .inl f_20)), (su, .inr (6, [.int (nI s1a), .int (nI s1e), .long s1h, .int (nI s1r), .int (nI s1t), .long s1m, .int (nI s1g), .int (nI s1i), .long s1v, .ref t, .ref lb]))] := hD
          exact mx_rv F hr hlk hP hD hS [(od, .inr (7, [.int (nI 0), .int (nI 1), .int (nI (o1c + 1)), .int o1w, .ref ov, .ref oz])), (ov, .inl (K.2.1.1, 3, .inr (.inl f_19))), (oz, .inl (K.2.1.2.2.2, 3, .inl f_20)), (su, .inr (6, [.int (nI s1a), .int (nI s1e), .long s1h, .int (nI s1r), .int (nI s1t), .long s1m, .int (nI s1g), .int (nI s1i), .long s1v, .ref t, .ref lb]))] [0, 1, 2, 3] rfl (by decide) ⟨0, 1, f_19, f_20, (by first | assumption | omega | exact mx_ch_0), (by first | assumption | omega | exact mx_ch_0), rfl⟩ (by decide) (by decide) d_Opd_add_90
        · have h_28n := mx_fEq (a := o1y) (b := 0) (by omega) (by omega) h_28
          refine lv_aload_n hx hb d_Opd_add_65 rfl (lv_at hl 1 rfl) ?_
          refine va_get (D := K.1) (ci := 6) (v := .int (nI s1i)) (C := R_Sum) (T := T_Sum) (N := 11) hx hb hT in_Sum hown hK hP 3 rfl rfl 7 (by decide) (hT _ k_261) (fun _ h9 => h9) rfl d_Opd_add_66 ?_
          refine lv_if_eq (tgt := 76) hx hb d_Opd_add_69 (by decide) (fun h_30 => ?_) (fun h_30 => ?_)
          · have h_30n := mx_fEq (a := s1i) (b := 0) (by omega) (by omega) h_30
            refine lv_iconst (v := 0) hx hb d_Opd_add_76 (by decide) ?_
            refine va_put (D := K.1) (ci := 7) (v := .int 0) (ty := .boolean) (C := R_Opd) (T := T_Opd) (N := 6) hx hb hT in_Opd t_Opd t_Opd_ok n_Opd hown hK hP hD hS 0 rfl rfl 1 (by decide) (hT _ k_86) (fun _ h9 => h9) rfl (by decide +kernel) (by decide) (by decide) (Nat.le_of_ble_eq_true rfl) d_Opd_add_77 (fun H locs hP hD hS => ?_)
            have hP : va_P K.1 mx_cl [(od, .inr (7, [.int 0, .int 0, .int (nI o1c), .int o1w, .ref ov, .ref oz])), (ov, .inl (K.2.1.1, 3, .inr (.inl f_19))), (oz, .inl (K.2.1.2.2.2, 3, .inl f_20)), (su, .inr (6, [.int (nI s1a), .int (nI s1e), .long s1h, .int (nI s1r), .int (nI s1t), .long s1m, .int (nI s1g), .int (nI s1i), .long s1v, .ref t, .ref lb]))] H := hP
            have hD : va_D A [(od, .inr (7, [.int 0, .int 0, .int (nI o1c), .int o1w, .ref ov, .ref oz])), (ov, .inl (K.2.1.1, 3, .inr (.inl f_19))), (oz, .inl (K.2.1.2.2.2, 3, .inl f_20)), (su, .inr (6, [.int (nI s1a), .int (nI s1e), .long s1h, .int (nI s1r), .int (nI s1t), .long s1m, .int (nI s1g), .int (nI s1i), .long s1v, .ref t, .ref lb]))] := hD
            refine lv_aload_n hx hb d_Opd_add_80 rfl (lv_at hl 0 rfl) ?_
            refine lv_dup hx hb d_Opd_add_81 rfl ?_
            refine va_get (D := K.1) (ci := 7) (v := .int (nI o1c)) (C := R_Opd) (T := T_Opd) (N := 6) hx hb hT in_Opd hown hK hP 0 rfl rfl 2 (by decide) (hT _ k_88) (fun _ h9 => h9) rfl d_Opd_add_82 ?_
            refine lv_iconst (v := 1) hx hb d_Opd_add_85 (by decide) ?_
            refine lv_iadd hx hb d_Opd_add_86 ?_
            refine lv_topi (fun z_31 ez_31 => ?_)
            obtain rfl : z_31 = nI (o1c + 1) := ez_31.trans (nI_add o1c 1)
            refine va_put (D := K.1) (ci := 7) (v := .int (nI (o1c + 1))) (ty := .int) (C := R_Opd) (T := T_Opd) (N := 6) hx hb hT in_Opd t_Opd t_Opd_ok n_Opd hown hK hP hD hS 0 rfl rfl 2 (by decide) (hT _ k_88) (fun _ h9 => h9) rfl (by decide +kernel) rfl rfl (Nat.le_of_ble_eq_true rfl) d_Opd_add_87 (fun H locs hP hD hS => ?_)
            have hP : va_P K.1 mx_cl [(od, .inr (7, [.int 0, .int 0, .int (nI (o1c + 1)), .int o1w, .ref ov, .ref oz])), (ov, .inl (K.2.1.1, 3, .inr (.inl f_19))), (oz, .inl (K.2.1.2.2.2, 3, .inl f_20)), (su, .inr (6, [.int (nI s1a), .int (nI s1e), .long s1h, .int (nI s1r), .int (nI s1t), .long s1m, .int (nI s1g), .int (nI s1i), .long s1v, .ref t, .ref lb]))] H := hP
            have hD : va_D A [(od, .inr (7, [.int 0, .int 0, .int (nI (o1c + 1)), .int o1w, .ref ov, .ref oz])), (ov, .inl (K.2.1.1, 3, .inr (.inl f_19))), (oz, .inl (K.2.1.2.2.2, 3, .inl f_20)), (su, .inr (6, [.int (nI s1a), .int (nI s1e), .long s1h, .int (nI s1r), .int (nI s1t), .long s1m, .int (nI s1g), .int (nI s1i), .long s1v, .ref t, .ref lb]))] := hD
            exact mx_rv F hr hlk hP hD hS [(od, .inr (7, [.int (nI 0), .int (nI 0), .int (nI (o1c + 1)), .int o1w, .ref ov, .ref oz])), (ov, .inl (K.2.1.1, 3, .inr (.inl f_19))), (oz, .inl (K.2.1.2.2.2, 3, .inl f_20)), (su, .inr (6, [.int (nI s1a), .int (nI s1e), .long s1h, .int (nI s1r), .int (nI s1t), .long s1m, .int (nI s1g), .int (nI s1i), .long s1v, .ref t, .ref lb]))] [0, 1, 2, 3] rfl (by decide) ⟨0, 0, f_19, f_20, (by first | assumption | omega | exact mx_ch_0), (by first | assumption | omega | exact mx_ch_0), rfl⟩ (by decide) (by decide) d_Opd_add_90
          · have h_30n := mx_fNe (a := s1i) (b := 0) (by omega) (by omega) h_30
            refine lv_iconst (v := 1) hx hb d_Opd_add_72 (by decide) ?_
            refine lv_goto (tgt := 77) hx hb d_Opd_add_73 (by decide) ?_
            refine va_put (D := K.1) (ci := 7) (v := .int 1) (ty := .boolean) (C := R_Opd) (T := T_Opd) (N := 6) hx hb hT in_Opd t_Opd t_Opd_ok n_Opd hown hK hP hD hS 0 rfl rfl 1 (by decide) (hT _ k_86) (fun _ h9 => h9) rfl (by decide +kernel) (by decide) (by decide) (Nat.le_of_ble_eq_true rfl) d_Opd_add_77 (fun H locs hP hD hS => ?_)
            have hP : va_P K.1 mx_cl [(od, .inr (7, [.int 0, .int 1, .int (nI o1c), .int o1w, .ref ov, .ref oz])), (ov, .inl (K.2.1.1, 3, .inr (.inl f_19))), (oz, .inl (K.2.1.2.2.2, 3, .inl f_20)), (su, .inr (6, [.int (nI s1a), .int (nI s1e), .long s1h, .int (nI s1r), .int (nI s1t), .long s1m, .int (nI s1g), .int (nI s1i), .long s1v, .ref t, .ref lb]))] H := hP
            have hD : va_D A [(od, .inr (7, [.int 0, .int 1, .int (nI o1c), .int o1w, .ref ov, .ref oz])), (ov, .inl (K.2.1.1, 3, .inr (.inl f_19))), (oz, .inl (K.2.1.2.2.2, 3, .inl f_20)), (su, .inr (6, [.int (nI s1a), .int (nI s1e), .long s1h, .int (nI s1r), .int (nI s1t), .long s1m, .int (nI s1g), .int (nI s1i), .long s1v, .ref t, .ref lb]))] := hD
            refine lv_aload_n hx hb d_Opd_add_80 rfl (lv_at hl 0 rfl) ?_
            refine lv_dup hx hb d_Opd_add_81 rfl ?_
            refine va_get (D := K.1) (ci := 7) (v := .int (nI o1c)) (C := R_Opd) (T := T_Opd) (N := 6) hx hb hT in_Opd hown hK hP 0 rfl rfl 2 (by decide) (hT _ k_88) (fun _ h9 => h9) rfl d_Opd_add_82 ?_
            refine lv_iconst (v := 1) hx hb d_Opd_add_85 (by decide) ?_
            refine lv_iadd hx hb d_Opd_add_86 ?_
            refine lv_topi (fun z_32 ez_32 => ?_)
            obtain rfl : z_32 = nI (o1c + 1) := ez_32.trans (nI_add o1c 1)
            refine va_put (D := K.1) (ci := 7) (v := .int (nI (o1c + 1))) (ty := .int) (C := R_Opd) (T := T_Opd) (N := 6) hx hb hT in_Opd t_Opd t_Opd_ok n_Opd hown hK hP hD hS 0 rfl rfl 2 (by decide) (hT _ k_88) (fun _ h9 => h9) rfl (by decide +kernel) rfl rfl (Nat.le_of_ble_eq_true rfl) d_Opd_add_87 (fun H locs hP hD hS => ?_)
            have hP : va_P K.1 mx_cl [(od, .inr (7, [.int 0, .int 1, .int (nI (o1c + 1)), .int o1w, .ref ov, .ref oz])), (ov, .inl (K.2.1.1, 3, .inr (.inl f_19))), (oz, .inl (K.2.1.2.2.2, 3, .inl f_20)), (su, .inr (6, [.int (nI s1a), .int (nI s1e), .long s1h, .int (nI s1r), .int (nI s1t), .long s1m, .int (nI s1g), .int (nI s1i), .long s1v, .ref t, .ref lb]))] H := hP
            have hD : va_D A [(od, .inr (7, [.int 0, .int 1, .int (nI (o1c + 1)), .int o1w, .ref ov, .ref oz])), (ov, .inl (K.2.1.1, 3, .inr (.inl f_19))), (oz, .inl (K.2.1.2.2.2, 3, .inl f_20)), (su, .inr (6, [.int (nI s1a), .int (nI s1e), .long s1h, .int (nI s1r), .int (nI s1t), .long s1m, .int (nI s1g), .int (nI s1i), .long s1v, .ref t, .ref lb]))] := hD
            exact mx_rv F hr hlk hP hD hS [(od, .inr (7, [.int (nI 0), .int (nI 1), .int (nI (o1c + 1)), .int o1w, .ref ov, .ref oz])), (ov, .inl (K.2.1.1, 3, .inr (.inl f_19))), (oz, .inl (K.2.1.2.2.2, 3, .inl f_20)), (su, .inr (6, [.int (nI s1a), .int (nI s1e), .long s1h, .int (nI s1r), .int (nI s1t), .long s1m, .int (nI s1g), .int (nI s1i), .long s1v, .ref t, .ref lb]))] [0, 1, 2, 3] rfl (by decide) ⟨0, 1, f_19, f_20, (by first | assumption | omega | exact mx_ch_0), (by first | assumption | omega | exact mx_ch_0), rfl⟩ (by decide) (by decide) d_Opd_add_90
      · have h_27n := mx_fNe (a := s1g) (b := 0) (by omega) (by omega) h_27
        refine lv_iconst (v := 1) hx hb d_Opd_add_49 (by decide) ?_
        refine lv_goto (tgt := 54) hx hb d_Opd_add_50 (by decide) ?_
        refine va_put (D := K.1) (ci := 7) (v := .int 1) (ty := .boolean) (C := R_Opd) (T := T_Opd) (N := 6) hx hb hT in_Opd t_Opd t_Opd_ok n_Opd hown hK hP hD hS 0 rfl rfl 0 (by decide) (hT _ k_84) (fun _ h9 => h9) rfl (by decide +kernel) (by decide) (by decide) (Nat.le_of_ble_eq_true rfl) d_Opd_add_54 (fun H locs hP hD hS => ?_)
        have hP : va_P K.1 mx_cl [(od, .inr (7, [.int 1, .int (nI o1y), .int (nI o1c), .int o1w, .ref ov, .ref oz])), (ov, .inl (K.2.1.1, 3, .inr (.inl f_19))), (oz, .inl (K.2.1.2.2.2, 3, .inl f_20)), (su, .inr (6, [.int (nI s1a), .int (nI s1e), .long s1h, .int (nI s1r), .int (nI s1t), .long s1m, .int (nI s1g), .int (nI s1i), .long s1v, .ref t, .ref lb]))] H := hP
        have hD : va_D A [(od, .inr (7, [.int 1, .int (nI o1y), .int (nI o1c), .int o1w, .ref ov, .ref oz])), (ov, .inl (K.2.1.1, 3, .inr (.inl f_19))), (oz, .inl (K.2.1.2.2.2, 3, .inl f_20)), (su, .inr (6, [.int (nI s1a), .int (nI s1e), .long s1h, .int (nI s1r), .int (nI s1t), .long s1m, .int (nI s1g), .int (nI s1i), .long s1v, .ref t, .ref lb]))] := hD
        refine lv_aload_n hx hb d_Opd_add_57 rfl (lv_at hl 0 rfl) ?_
        refine lv_aload_n hx hb d_Opd_add_58 rfl (lv_at hl 0 rfl) ?_
        refine va_get (D := K.1) (ci := 7) (v := .int (nI o1y)) (C := R_Opd) (T := T_Opd) (N := 6) hx hb hT in_Opd hown hK hP 0 rfl rfl 1 (by decide) (hT _ k_86) (fun _ h9 => h9) rfl d_Opd_add_59 ?_
        refine lv_if_ne (tgt := 72) hx hb d_Opd_add_62 (by decide) (fun h_33 => ?_) (fun h_33 => ?_)
        · have h_33n := mx_fNe (a := o1y) (b := 0) (by omega) (by omega) h_33
          refine lv_iconst (v := 1) hx hb d_Opd_add_72 (by decide) ?_
          refine lv_goto (tgt := 77) hx hb d_Opd_add_73 (by decide) ?_
          refine va_put (D := K.1) (ci := 7) (v := .int 1) (ty := .boolean) (C := R_Opd) (T := T_Opd) (N := 6) hx hb hT in_Opd t_Opd t_Opd_ok n_Opd hown hK hP hD hS 0 rfl rfl 1 (by decide) (hT _ k_86) (fun _ h9 => h9) rfl (by decide +kernel) (by decide) (by decide) (Nat.le_of_ble_eq_true rfl) d_Opd_add_77 (fun H locs hP hD hS => ?_)
          have hP : va_P K.1 mx_cl [(od, .inr (7, [.int 1, .int 1, .int (nI o1c), .int o1w, .ref ov, .ref oz])), (ov, .inl (K.2.1.1, 3, .inr (.inl f_19))), (oz, .inl (K.2.1.2.2.2, 3, .inl f_20)), (su, .inr (6, [.int (nI s1a), .int (nI s1e), .long s1h, .int (nI s1r), .int (nI s1t), .long s1m, .int (nI s1g), .int (nI s1i), .long s1v, .ref t, .ref lb]))] H := hP
          have hD : va_D A [(od, .inr (7, [.int 1, .int 1, .int (nI o1c), .int o1w, .ref ov, .ref oz])), (ov, .inl (K.2.1.1, 3, .inr (.inl f_19))), (oz, .inl (K.2.1.2.2.2, 3, .inl f_20)), (su, .inr (6, [.int (nI s1a), .int (nI s1e), .long s1h, .int (nI s1r), .int (nI s1t), .long s1m, .int (nI s1g), .int (nI s1i), .long s1v, .ref t, .ref lb]))] := hD
          refine lv_aload_n hx hb d_Opd_add_80 rfl (lv_at hl 0 rfl) ?_
          refine lv_dup hx hb d_Opd_add_81 rfl ?_
          refine va_get (D := K.1) (ci := 7) (v := .int (nI o1c)) (C := R_Opd) (T := T_Opd) (N := 6) hx hb hT in_Opd hown hK hP 0 rfl rfl 2 (by decide) (hT _ k_88) (fun _ h9 => h9) rfl d_Opd_add_82 ?_
          refine lv_iconst (v := 1) hx hb d_Opd_add_85 (by decide) ?_
          refine lv_iadd hx hb d_Opd_add_86 ?_
          refine lv_topi (fun z_34 ez_34 => ?_)
          obtain rfl : z_34 = nI (o1c + 1) := ez_34.trans (nI_add o1c 1)
          refine va_put (D := K.1) (ci := 7) (v := .int (nI (o1c + 1))) (ty := .int) (C := R_Opd) (T := T_Opd) (N := 6) hx hb hT in_Opd t_Opd t_Opd_ok n_Opd hown hK hP hD hS 0 rfl rfl 2 (by decide) (hT _ k_88) (fun _ h9 => h9) rfl (by decide +kernel) rfl rfl (Nat.le_of_ble_eq_true rfl) d_Opd_add_87 (fun H locs hP hD hS => ?_)
          have hP : va_P K.1 mx_cl [(od, .inr (7, [.int 1, .int 1, .int (nI (o1c + 1)), .int o1w, .ref ov, .ref oz])), (ov, .inl (K.2.1.1, 3, .inr (.inl f_19))), (oz, .inl (K.2.1.2.2.2, 3, .inl f_20)), (su, .inr (6, [.int (nI s1a), .int (nI s1e), .long s1h, .int (nI s1r), .int (nI s1t), .long s1m, .int (nI s1g), .int (nI s1i), .long s1v, .ref t, .ref lb]))] H := hP
          have hD : va_D A [(od, .inr (7, [.int 1, .int 1, .int (nI (o1c + 1)), .int o1w, .ref ov, .ref oz])), (ov, .inl (K.2.1.1, 3, .inr (.inl f_19))), (oz, .inl (K.2.1.2.2.2, 3, .inl f_20)), (su, .inr (6, [.int (nI s1a), .int (nI s1e), .long s1h, .int (nI s1r), .int (nI s1t), .long s1m, .int (nI s1g), .int (nI s1i), .long s1v, .ref t, .ref lb]))] := hD
          exact mx_rv F hr hlk hP hD hS [(od, .inr (7, [.int (nI 1), .int (nI 1), .int (nI (o1c + 1)), .int o1w, .ref ov, .ref oz])), (ov, .inl (K.2.1.1, 3, .inr (.inl f_19))), (oz, .inl (K.2.1.2.2.2, 3, .inl f_20)), (su, .inr (6, [.int (nI s1a), .int (nI s1e), .long s1h, .int (nI s1r), .int (nI s1t), .long s1m, .int (nI s1g), .int (nI s1i), .long s1v, .ref t, .ref lb]))] [0, 1, 2, 3] rfl (by decide) ⟨1, 1, f_19, f_20, (by first | assumption | omega | exact mx_ch_0), (by first | assumption | omega | exact mx_ch_0), rfl⟩ (by decide) (by decide) d_Opd_add_90
        · have h_33n := mx_fEq (a := o1y) (b := 0) (by omega) (by omega) h_33
          refine lv_aload_n hx hb d_Opd_add_65 rfl (lv_at hl 1 rfl) ?_
          refine va_get (D := K.1) (ci := 6) (v := .int (nI s1i)) (C := R_Sum) (T := T_Sum) (N := 11) hx hb hT in_Sum hown hK hP 3 rfl rfl 7 (by decide) (hT _ k_261) (fun _ h9 => h9) rfl d_Opd_add_66 ?_
          refine lv_if_eq (tgt := 76) hx hb d_Opd_add_69 (by decide) (fun h_35 => ?_) (fun h_35 => ?_)
          · have h_35n := mx_fEq (a := s1i) (b := 0) (by omega) (by omega) h_35
            refine lv_iconst (v := 0) hx hb d_Opd_add_76 (by decide) ?_
            refine va_put (D := K.1) (ci := 7) (v := .int 0) (ty := .boolean) (C := R_Opd) (T := T_Opd) (N := 6) hx hb hT in_Opd t_Opd t_Opd_ok n_Opd hown hK hP hD hS 0 rfl rfl 1 (by decide) (hT _ k_86) (fun _ h9 => h9) rfl (by decide +kernel) (by decide) (by decide) (Nat.le_of_ble_eq_true rfl) d_Opd_add_77 (fun H locs hP hD hS => ?_)
            have hP : va_P K.1 mx_cl [(od, .inr (7, [.int 1, .int 0, .int (nI o1c), .int o1w, .ref ov, .ref oz])), (ov, .inl (K.2.1.1, 3, .inr (.inl f_19))), (oz, .inl (K.2.1.2.2.2, 3, .inl f_20)), (su, .inr (6, [.int (nI s1a), .int (nI s1e), .long s1h, .int (nI s1r), .int (nI s1t), .long s1m, .int (nI s1g), .int (nI s1i), .long s1v, .ref t, .ref lb]))] H := hP
            have hD : va_D A [(od, .inr (7, [.int 1, .int 0, .int (nI o1c), .int o1w, .ref ov, .ref oz])), (ov, .inl (K.2.1.1, 3, .inr (.inl f_19))), (oz, .inl (K.2.1.2.2.2, 3, .inl f_20)), (su, .inr (6, [.int (nI s1a), .int (nI s1e), .long s1h, .int (nI s1r), .int (nI s1t), .long s1m, .int (nI s1g), .int (nI s1i), .long s1v, .ref t, .ref lb]))] := hD
            refine lv_aload_n hx hb d_Opd_add_80 rfl (lv_at hl 0 rfl) ?_
            refine lv_dup hx hb d_Opd_add_81 rfl ?_
            refine va_get (D := K.1) (ci := 7) (v := .int (nI o1c)) (C := R_Opd) (T := T_Opd) (N := 6) hx hb hT in_Opd hown hK hP 0 rfl rfl 2 (by decide) (hT _ k_88) (fun _ h9 => h9) rfl d_Opd_add_82 ?_
            refine lv_iconst (v := 1) hx hb d_Opd_add_85 (by decide) ?_
            refine lv_iadd hx hb d_Opd_add_86 ?_
            refine lv_topi (fun z_36 ez_36 => ?_)
            obtain rfl : z_36 = nI (o1c + 1) := ez_36.trans (nI_add o1c 1)
            refine va_put (D := K.1) (ci := 7) (v := .int (nI (o1c + 1))) (ty := .int) (C := R_Opd) (T := T_Opd) (N := 6) hx hb hT in_Opd t_Opd t_Opd_ok n_Opd hown hK hP hD hS 0 rfl rfl 2 (by decide) (hT _ k_88) (fun _ h9 => h9) rfl (by decide +kernel) rfl rfl (Nat.le_of_ble_eq_true rfl) d_Opd_add_87 (fun H locs hP hD hS => ?_)
            have hP : va_P K.1 mx_cl [(od, .inr (7, [.int 1, .int 0, .int (nI (o1c + 1)), .int o1w, .ref ov, .ref oz])), (ov, .inl (K.2.1.1, 3, .inr (.inl f_19))), (oz, .inl (K.2.1.2.2.2, 3, .inl f_20)), (su, .inr (6, [.int (nI s1a), .int (nI s1e), .long s1h, .int (nI s1r), .int (nI s1t), .long s1m, .int (nI s1g), .int (nI s1i), .long s1v, .ref t, .ref lb]))] H := hP
            have hD : va_D A [(od, .inr (7, [.int 1, .int 0, .int (nI (o1c + 1)), .int o1w, .ref ov, .ref oz])), (ov, .inl (K.2.1.1, 3, .inr (.inl f_19))), (oz, .inl (K.2.1.2.2.2, 3, .inl f_20)), (su, .inr (6, [.int (nI s1a), .int (nI s1e), .long s1h, .int (nI s1r), .int (nI s1t), .long s1m, .int (nI s1g), .int (nI s1i), .long s1v, .ref t, .ref lb]))] := hD
            exact mx_rv F hr hlk hP hD hS [(od, .inr (7, [.int (nI 1), .int (nI 0), .int (nI (o1c + 1)), .int o1w, .ref ov, .ref oz])), (ov, .inl (K.2.1.1, 3, .inr (.inl f_19))), (oz, .inl (K.2.1.2.2.2, 3, .inl f_20)), (su, .inr (6, [.int (nI s1a), .int (nI s1e), .long s1h, .int (nI s1r), .int (nI s1t), .long s1m, .int (nI s1g), .int (nI s1i), .long s1v, .ref t, .ref lb]))] [0, 1, 2, 3] rfl (by decide) ⟨1, 0, f_19, f_20, (by first | assumption | omega | exact mx_ch_0), (by first | assumption | omega | exact mx_ch_0), rfl⟩ (by decide) (by decide) d_Opd_add_90
          · have h_35n := mx_fNe (a := s1i) (b := 0) (by omega) (by omega) h_35
            refine lv_iconst (v := 1) hx hb d_Opd_add_72 (by decide) ?_
            refine lv_goto (tgt := 77) hx hb d_Opd_add_73 (by decide) ?_
            refine va_put (D := K.1) (ci := 7) (v := .int 1) (ty := .boolean) (C := R_Opd) (T := T_Opd) (N := 6) hx hb hT in_Opd t_Opd t_Opd_ok n_Opd hown hK hP hD hS 0 rfl rfl 1 (by decide) (hT _ k_86) (fun _ h9 => h9) rfl (by decide +kernel) (by decide) (by decide) (Nat.le_of_ble_eq_true rfl) d_Opd_add_77 (fun H locs hP hD hS => ?_)
            have hP : va_P K.1 mx_cl [(od, .inr (7, [.int 1, .int 1, .int (nI o1c), .int o1w, .ref ov, .ref oz])), (ov, .inl (K.2.1.1, 3, .inr (.inl f_19))), (oz, .inl (K.2.1.2.2.2, 3, .inl f_20)), (su, .inr (6, [.int (nI s1a), .int (nI s1e), .long s1h, .int (nI s1r), .int (nI s1t), .long s1m, .int (nI s1g), .int (nI s1i), .long s1v, .ref t, .ref lb]))] H := hP
            have hD : va_D A [(od, .inr (7, [.int 1, .int 1, .int (nI o1c), .int o1w, .ref ov, .ref oz])), (ov, .inl (K.2.1.1, 3, .inr (.inl f_19))), (oz, .inl (K.2.1.2.2.2, 3, .inl f_20)), (su, .inr (6, [.int (nI s1a), .int (nI s1e), .long s1h, .int (nI s1r), .int (nI s1t), .long s1m, .int (nI s1g), .int (nI s1i), .long s1v, .ref t, .ref lb]))] := hD
            refine lv_aload_n hx hb d_Opd_add_80 rfl (lv_at hl 0 rfl) ?_
            refine lv_dup hx hb d_Opd_add_81 rfl ?_
            refine va_get (D := K.1) (ci := 7) (v := .int (nI o1c)) (C := R_Opd) (T := T_Opd) (N := 6) hx hb hT in_Opd hown hK hP 0 rfl rfl 2 (by decide) (hT _ k_88) (fun _ h9 => h9) rfl d_Opd_add_82 ?_
            refine lv_iconst (v := 1) hx hb d_Opd_add_85 (by decide) ?_
            refine lv_iadd hx hb d_Opd_add_86 ?_
            refine lv_topi (fun z_37 ez_37 => ?_)
            obtain rfl : z_37 = nI (o1c + 1) := ez_37.trans (nI_add o1c 1)
            refine va_put (D := K.1) (ci := 7) (v := .int (nI (o1c + 1))) (ty := .int) (C := R_Opd) (T := T_Opd) (N := 6) hx hb hT in_Opd t_Opd t_Opd_ok n_Opd hown hK hP hD hS 0 rfl rfl 2 (by decide) (hT _ k_88) (fun _ h9 => h9) rfl (by decide +kernel) rfl rfl (Nat.le_of_ble_eq_true rfl) d_Opd_add_87 (fun H locs hP hD hS => ?_)
            have hP : va_P K.1 mx_cl [(od, .inr (7, [.int 1, .int 1, .int (nI (o1c + 1)), .int o1w, .ref ov, .ref oz])), (ov, .inl (K.2.1.1, 3, .inr (.inl f_19))), (oz, .inl (K.2.1.2.2.2, 3, .inl f_20)), (su, .inr (6, [.int (nI s1a), .int (nI s1e), .long s1h, .int (nI s1r), .int (nI s1t), .long s1m, .int (nI s1g), .int (nI s1i), .long s1v, .ref t, .ref lb]))] H := hP
            have hD : va_D A [(od, .inr (7, [.int 1, .int 1, .int (nI (o1c + 1)), .int o1w, .ref ov, .ref oz])), (ov, .inl (K.2.1.1, 3, .inr (.inl f_19))), (oz, .inl (K.2.1.2.2.2, 3, .inl f_20)), (su, .inr (6, [.int (nI s1a), .int (nI s1e), .long s1h, .int (nI s1r), .int (nI s1t), .long s1m, .int (nI s1g), .int (nI s1i), .long s1v, .ref t, .ref lb]))] := hD
            exact mx_rv F hr hlk hP hD hS [(od, .inr (7, [.int (nI 1), .int (nI 1), .int (nI (o1c + 1)), .int o1w, .ref ov, .ref oz])), (ov, .inl (K.2.1.1, 3, .inr (.inl f_19))), (oz, .inl (K.2.1.2.2.2, 3, .inl f_20)), (su, .inr (6, [.int (nI s1a), .int (nI s1e), .long s1h, .int (nI s1r), .int (nI s1t), .long s1m, .int (nI s1g), .int (nI s1i), .long s1v, .ref t, .ref lb]))] [0, 1, 2, 3] rfl (by decide) ⟨1, 1, f_19, f_20, (by first | assumption | omega | exact mx_ch_0), (by first | assumption | omega | exact mx_ch_0), rfl⟩ (by decide) (by decide) d_Opd_add_90
