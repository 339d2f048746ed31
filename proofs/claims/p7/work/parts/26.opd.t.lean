set_option maxHeartbeats 4000000 in
set_option maxRecDepth 100000 in
theorem s_Opd_clear_b17 {p : Program} {l : Launch} {e : Env} {R : Room} {s : State} {m : MethodId} {args : Array Value} {below : List Frame} {meth : Method} {c : Code} {K : mx_K} {A : Nat → Prop} (od : Nat) (o1w : Int32) (ov : Nat) (oz : Nat) (fo : Nat → Int64) (fq : Nat → Int32) (o1g : Nat) (o1y : Nat) (o1c : Nat) (ho1 : o1g ≤ 1) (ho2 : o1y ≤ 1) (ho3 : o1c ≤ 2000) (F : mx_F p s m args c b_Opd_clear 2 "LittleMix$Operands" K A) (hr : meth.sig.returnType = none) (hlk : meth.locks = false) (hRf : 1 ≤ R.frames) (hRl : 20 ≤ R.locals)
    : ∀ n : Nat, ∀ (n1 : Nat) (f_ov : Nat → Int64) (f_oz : Nat → Int32) (ls : Array Slot) (H : Heap) (locs : List Loc), 3 - n1 < n → (1 ≤ 1) → (0 ≤ 1) → (0 ≤ 2000) → (n1 ≤ 3) → lv_has ls 2 [(0, .ref od), (1, .int (nI n1))] → va_P K.1 mx_cl [(od, .inr (7, [.int 1, .int 0, .int 0, .int o1w, .ref ov, .ref oz])), (ov, .inl (K.2.1.1, 3, .inr (.inl f_ov))), (oz, .inl (K.2.1.2.2.2, 3, .inl f_oz))] H → va_D A [(od, .inr (7, [.int 1, .int 0, .int 0, .int o1w, .ref ov, .ref oz])), (ov, .inl (K.2.1.1, 3, .inr (.inl f_ov))), (oz, .inl (K.2.1.2.2.2, 3, .inl f_oz))] → va_S A s.heap H locs → W p l e R s m args below meth c H locs 0 0 (MQ below (va_Qv (fun u : va_W => ∃ (o2w : Int32) (fo2 : Nat → Int64) (fq2 : Nat → Int32), u = [(od, .inr (7, [.int 1, .int 0, .int 0, .int o2w, .ref ov, .ref oz])), (ov, .inl (K.2.1.1, 3, .inr (.inl fo2))), (oz, .inl (K.2.1.2.2.2, 3, .inl fq2))]) (mx_B K A (fun u : va_W => u)) A) args s 0 0 A) (F0 m 17 ls []) := by
  obtain ⟨hx, hb, hml, hown, hT, hK, hN, hE, hA⟩ := id F
  intro n
  induction n with
  | zero =>
    intro n1 f_ov f_oz ls H locs hmu hog hoy hoc h1 hl hP hD hS
    exact absurd hmu (Nat.not_lt_zero _)
  | succ n ih =>
    intro n1 f_ov f_oz ls H locs hmu hog hoy hoc h1 hl hP hD hS
    refine lv_iload_n hx hb d_Opd_clear_17 rfl (lv_at hl 1 rfl) ?_
    refine lv_iconst (v := 3) hx hb d_Opd_clear_18 (by decide) ?_
    refine lv_icmp_ge (tgt := 42) hx hb d_Opd_clear_19 (by decide) (fun h_1 => ?_) (fun h_1 => ?_)
    · have h_1n := mx_fLe (a := 3) (b := n1) (by omega) (by omega) h_1
      exact mx_rv F hr hlk hP hD hS [(od, .inr (7, [.int 1, .int 0, .int 0, .int o1w, .ref ov, .ref oz])), (ov, .inl (K.2.1.1, 3, .inr (.inl f_ov))), (oz, .inl (K.2.1.2.2.2, 3, .inl f_oz))] [0, 1, 2] rfl (by decide) ⟨o1w, f_ov, f_oz, rfl⟩ (by decide) (by decide) d_Opd_clear_42
    · have h_1n := mx_fNle (a := 3) (b := n1) (by omega) (by omega) h_1
      refine lv_aload_n hx hb d_Opd_clear_22 rfl (lv_at hl 0 rfl) ?_
      refine va_get (D := K.1) (ci := 7) (v := .ref ov) (C := R_Opd) (T := T_Opd) (N := 6) hx hb hT in_Opd hown hK hP 0 rfl rfl 4 (by decide) (hT _ k_80) (fun _ h9 => h9) rfl d_Opd_clear_23 ?_
      refine lv_iload_n hx hb d_Opd_clear_26 rfl (lv_at hl 1 rfl) ?_
      refine lv_lconst (v := 0) hx hb d_Opd_clear_27 (by decide) ?_
      refine va_last hx hb hK hP hD hS 1 0 rfl rfl (i := nI n1) (x := 0) (vp_in_nI (n := n1) (N := 3) (by omega) (by decide)) d_Opd_clear_28 (fun H locs hP hD hS => ?_)
      have hP : va_P K.1 mx_cl [(od, .inr (7, [.int 1, .int 0, .int 0, .int o1w, .ref ov, .ref oz])), (ov, .inl (K.2.1.1, 3, .inr (.inl (vp_updL f_ov (nI n1).toNatClampNeg 0)))), (oz, .inl (K.2.1.2.2.2, 3, .inl f_oz))] H := hP
      have hD : va_D A [(od, .inr (7, [.int 1, .int 0, .int 0, .int o1w, .ref ov, .ref oz])), (ov, .inl (K.2.1.1, 3, .inr (.inl (vp_updL f_ov (nI n1).toNatClampNeg 0)))), (oz, .inl (K.2.1.2.2.2, 3, .inl f_oz))] := hD
      generalize ef_2 : vp_updL f_ov (nI n1).toNatClampNeg 0 = f_2 at hP hD
      refine lv_aload_n hx hb d_Opd_clear_29 rfl (lv_at hl 0 rfl) ?_
      refine va_get (D := K.1) (ci := 7) (v := .ref oz) (C := R_Opd) (T := T_Opd) (N := 6) hx hb hT in_Opd hown hK hP 0 rfl rfl 5 (by decide) (hT _ k_82) (fun _ h9 => h9) rfl d_Opd_clear_30 ?_
      refine lv_iload_n hx hb d_Opd_clear_33 rfl (lv_at hl 1 rfl) ?_
      refine lv_iconst (v := 0) hx hb d_Opd_clear_34 (by decide) ?_
      refine va_zast hx hb hK hP hD hS 2 3 rfl rfl (i := nI n1) (x := 0) (vp_in_nI (n := n1) (N := 3) (by omega) (by decide)) d_Opd_clear_35 (fun H locs hP hD hS => ?_)
      have hP : va_P K.1 mx_cl [(od, .inr (7, [.int 1, .int 0, .int 0, .int o1w, .ref ov, .ref oz])), (ov, .inl (K.2.1.1, 3, .inr (.inl f_2))), (oz, .inl (K.2.1.2.2.2, 3, .inl (upd f_oz (nI n1).toNatClampNeg (vp_nar .boolean 0))))] H := hP
      have hD : va_D A [(od, .inr (7, [.int 1, .int 0, .int 0, .int o1w, .ref ov, .ref oz])), (ov, .inl (K.2.1.1, 3, .inr (.inl f_2))), (oz, .inl (K.2.1.2.2.2, 3, .inl (upd f_oz (nI n1).toNatClampNeg (vp_nar .boolean 0))))] := hD
      generalize ef_3 : upd f_oz (nI n1).toNatClampNeg (vp_nar .boolean 0) = f_3 at hP hD
      refine lv_iinc (lv' := [(1, .int (nI (n1 + 1))), (0, .ref od)]) (v := nI (n1 + 1)) (k := 1) hx hb d_Opd_clear_36 hl rfl (mx_inc n1) (by decide) rfl (fun ls hl => ?_)
      refine lv_goto (tgt := 17) hx hb d_Opd_clear_39 (by decide) ?_
      exact ih (n1 + 1) f_2 f_3 _ _ _ (by omega) (by first | assumption | omega | exact mx_ch_0) (by first | assumption | omega | exact mx_ch_0) (by first | assumption | omega | exact mx_ch_0) (by first | assumption | omega | exact mx_ch_0) (lv_sub hl [1, 0] rfl) hP hD hS
set_option maxHeartbeats 4000000 in
set_option maxRecDepth 100000 in
theorem s_Opd_clear (l : Launch) (K : mx_K) (od : Nat) (o1w : Int32) (ov : Nat) (oz : Nat) (fo : Nat → Int64) (fq : Nat → Int32) (o1g : Nat) (o1y : Nat) (o1c : Nat) (sz : Nat) (ho1 : o1g ≤ 1) (ho2 : o1y ≤ 1) (ho3 : o1c ≤ 2000) : mx_V l y_Opd_clear b_Opd_clear 2 { frames := 1, cells := 0, slots := 0, locals := 20 } K [.ref od] [(od, .inr (7, [.int (nI o1g), .int (nI o1y), .int (nI o1c), .int o1w, .ref ov, .ref oz])), (ov, .inl (K.2.1.1, 3, .inr (.inl fo))), (oz, .inl (K.2.1.2.2.2, 3, .inl fq))] sz (fun u : va_W => ∃ (o2w : Int32) (fo2 : Nat → Int64) (fq2 : Nat → Int32), u = [(od, .inr (7, [.int 1, .int 0, .int 0, .int o2w, .ref ov, .ref oz])), (ov, .inl (K.2.1.1, 3, .inr (.inl fo2))), (oz, .inl (K.2.1.2.2.2, 3, .inl fq2))]) (fun u : va_W => u) := by
  refine mx_of (by decide) (Nat.le_of_ble_eq_true rfl) ?_
  intro p e s m below meth c A ls H locs hAe F hr hlk hin hsz hP hD hS hl
  rw [hAe]
  have hl : lv_has ls 2 [(0, .ref od)] := hl
  obtain ⟨hx, hb, hml, hown, hT, hK, hN, hE, hA⟩ := id F
  refine lv_aload_n hx hb d_Opd_clear_0 rfl (lv_at hl 0 rfl) ?_
  refine lv_iconst (v := 0) hx hb d_Opd_clear_1 (by decide) ?_
  refine va_put (D := K.1) (ci := 7) (v := .int 0) (ty := .int) (C := R_Opd) (T := T_Opd) (N := 6) hx hb hT in_Opd t_Opd t_Opd_ok n_Opd hown hK hP hD hS 0 rfl rfl 2 (by decide) (hT _ k_88) (fun _ h9 => h9) rfl (by decide +kernel) rfl rfl (Nat.le_of_ble_eq_true rfl) d_Opd_clear_2 (fun H locs hP hD hS => ?_)
  have hP : va_P K.1 mx_cl [(od, .inr (7, [.int (nI o1g), .int (nI o1y), .int 0, .int o1w, .ref ov, .ref oz])), (ov, .inl (K.2.1.1, 3, .inr (.inl fo))), (oz, .inl (K.2.1.2.2.2, 3, .inl fq))] H := hP
  have hD : va_D A [(od, .inr (7, [.int (nI o1g), .int (nI o1y), .int 0, .int o1w, .ref ov, .ref oz])), (ov, .inl (K.2.1.1, 3, .inr (.inl fo))), (oz, .inl (K.2.1.2.2.2, 3, .inl fq))] := hD
  refine lv_aload_n hx hb d_Opd_clear_5 rfl (lv_at hl 0 rfl) ?_
  refine lv_iconst (v := 1) hx hb d_Opd_clear_6 (by decide) ?_
  refine va_put (D := K.1) (ci := 7) (v := .int 1) (ty := .boolean) (C := R_Opd) (T := T_Opd) (N := 6) hx hb hT in_Opd t_Opd t_Opd_ok n_Opd hown hK hP hD hS 0 rfl rfl 0 (by decide) (hT _ k_84) (fun _ h9 => h9) rfl (by decide +kernel) (by decide) (by decide) (Nat.le_of_ble_eq_true rfl) d_Opd_clear_7 (fun H locs hP hD hS => ?_)
  have hP : va_P K.1 mx_cl [(od, .inr (7, [.int 1, .int (nI o1y), .int 0, .int o1w, .ref ov, .ref oz])), (ov, .inl (K.2.1.1, 3, .inr (.inl fo))), (oz, .inl (K.2.1.2.2.2, 3, .inl fq))] H := hP
  have hD : va_D A [(od, .inr (7, [.int 1, .int (nI o1y), .int 0, .int o1w, .ref ov, .ref oz])), (ov, .inl (K.2.1.1, 3, .inr (.inl fo))), (oz, .inl (K.2.1.2.2.2, 3, .inl fq))] := hD
  refine lv_aload_n hx hb d_Opd_clear_10 rfl (lv_at hl 0 rfl) ?_
  refine lv_iconst (v := 0) hx hb d_Opd_clear_11 (by decide) ?_
  refine va_put (D := K.1) (ci := 7) (v := .int 0) (ty := .boolean) (C := R_Opd) (T := T_Opd) (N := 6) hx hb hT in_Opd t_Opd t_Opd_ok n_Opd hown hK hP hD hS 0 rfl rfl 1 (by decide) (hT _ k_86) (fun _ h9 => h9) rfl (by decide +kernel) (by decide) (by decide) (Nat.le_of_ble_eq_true rfl) d_Opd_clear_12 (fun H locs hP hD hS => ?_)
  have hP : va_P K.1 mx_cl [(od, .inr (7, [.int 1, .int 0, .int 0, .int o1w, .ref ov, .ref oz])), (ov, .inl (K.2.1.1, 3, .inr (.inl fo))), (oz, .inl (K.2.1.2.2.2, 3, .inl fq))] H := hP
  have hD : va_D A [(od, .inr (7, [.int 1, .int 0, .int 0, .int o1w, .ref ov, .ref oz])), (ov, .inl (K.2.1.1, 3, .inr (.inl fo))), (oz, .inl (K.2.1.2.2.2, 3, .inl fq))] := hD
  refine lv_iconst (v := 0) hx hb d_Opd_clear_15 (by decide) ?_
  refine lv_istore_n (lv' := [(1, .int 0), (0, .ref od)]) hx hb d_Opd_clear_16 rfl hl (by decide) rfl (fun ls hl => ?_)
  exact s_Opd_clear_b17 od o1w ov oz fo fq o1g o1y o1c ho1 ho2 ho3 F hr hlk (by decide) (by decide) (3 - 0 + 1) 0 fo fq _ _ _ (by omega) (by first | assumption | omega | exact mx_ch_0) (by first | assumption | omega | exact mx_ch_0) (by first | assumption | omega | exact mx_ch_0) (by first | assumption | omega | exact mx_ch_0) (lv_sub hl [1, 0] rfl) hP hD hS
set_option maxHeartbeats 4000000 in
set_option maxRecDepth 100000 in
theorem s_Opd_make (l : Launch) (K : mx_K) (od : Nat) (b0 : Int32) (b1 : Int64) (b2 : Int64) (o1w : Int32) (ov : Nat) (oz : Nat) (fo : Nat → Int64) (fq : Nat → Int32) (o1g : Nat) (o1y : Nat) (o1c : Nat) (sz : Nat) (ho1 : o1g ≤ 1) (ho2 : o1y ≤ 1) (ho3 : o1c ≤ 2000) : mx_I l y_Opd_make b_Opd_make 6 .boolean { frames := 1, cells := 0, slots := 0, locals := 20 } K [.ref od, .int b0, .long b1, .long b2] [(od, .inr (7, [.int (nI o1g), .int (nI o1y), .int (nI o1c), .int o1w, .ref ov, .ref oz])), (ov, .inl (K.2.1.1, 3, .inr (.inl fo))), (oz, .inl (K.2.1.2.2.2, 3, .inl fq))] sz (fun (r : Int32) (u : va_W) => (r = 0 ∨ r = 1) ∧ (∃ (o2g : Nat) (o2y : Nat) (o2c : Nat) (o2w : Int32) (fo2 : Nat → Int64) (fq2 : Nat → Int32), (o2g ≤ 1) ∧ (o2y ≤ 1) ∧ (o2c ≤ 2000) ∧ u = [(od, .inr (7, [.int (nI o2g), .int (nI o2y), .int (nI o2c), .int o2w, .ref ov, .ref oz])), (ov, .inl (K.2.1.1, 3, .inr (.inl fo2))), (oz, .inl (K.2.1.2.2.2, 3, .inl fq2))])) (fun u : va_W => u) := by
  refine mx_of (by decide) (Nat.le_of_ble_eq_true rfl) ?_
  intro p e s m below meth c A ls H locs hAe F hr hlk hin hsz hP hD hS hl
  rw [hAe]
  have hl : lv_has ls 6 [(0, .ref od), (1, .int b0), (2, .long b1), (4, .long b2)] := hl
  obtain ⟨hx, hb, hml, hown, hT, hK, hN, hE, hA⟩ := id F
  refine lv_aload_n hx hb d_Opd_make_0 rfl (lv_at hl 0 rfl) ?_
  refine lv_iload_n hx hb d_Opd_make_1 rfl (lv_at hl 1 rfl) ?_
  refine lv_bipush (v := 24) hx hb d_Opd_make_2 (by decide) ?_
  refine lv_ishl hx hb d_Opd_make_4 ?_
  refine lv_lload_n hx hb d_Opd_make_5 rfl (lv_at hl 2 rfl) ?_
  refine lv_l2i (v := b1.toInt32) hx hb d_Opd_make_6 rfl ?_
  refine lv_bipush (v := 16) hx hb d_Opd_make_7 (by decide) ?_
  refine lv_ishl hx hb d_Opd_make_9 ?_
  refine lv_ior hx hb d_Opd_make_10 ?_
  refine lv_lload hx hb d_Opd_make_11 (lv_at hl 3 rfl) ?_
  refine lv_l2i (v := b2.toInt32) hx hb d_Opd_make_13 rfl ?_
  refine lv_ior hx hb d_Opd_make_14 ?_
  refine lv_topi (fun z_1 ez_1 => ?_)
  refine va_put (D := K.1) (ci := 7) (v := .int z_1) (ty := .int) (C := R_Opd) (T := T_Opd) (N := 6) hx hb hT in_Opd t_Opd t_Opd_ok n_Opd hown hK hP hD hS 0 rfl rfl 3 (by decide) (hT _ k_91) (fun _ h9 => h9) rfl (by decide +kernel) rfl rfl (Nat.le_of_ble_eq_true rfl) d_Opd_make_15 (fun H locs hP hD hS => ?_)
  have hP : va_P K.1 mx_cl [(od, .inr (7, [.int (nI o1g), .int (nI o1y), .int (nI o1c), .int z_1, .ref ov, .ref oz])), (ov, .inl (K.2.1.1, 3, .inr (.inl fo))), (oz, .inl (K.2.1.2.2.2, 3, .inl fq))] H := hP
  have hD : va_D A [(od, .inr (7, [.int (nI o1g), .int (nI o1y), .int (nI o1c), .int z_1, .ref ov, .ref oz])), (ov, .inl (K.2.1.1, 3, .inr (.inl fo))), (oz, .inl (K.2.1.2.2.2, 3, .inl fq))] := hD
  refine lv_iconst (v := 1) hx hb d_Opd_make_18 (by decide) ?_
  exact mx_ri F hr hlk (by decide) hP hD hS [(od, .inr (7, [.int (nI o1g), .int (nI o1y), .int (nI o1c), .int z_1, .ref ov, .ref oz])), (ov, .inl (K.2.1.1, 3, .inr (.inl fo))), (oz, .inl (K.2.1.2.2.2, 3, .inl fq))] [0, 1, 2] rfl (by decide) ⟨(Or.inr rfl), ⟨o1g, o1y, o1c, z_1, fo, fq, (by first | assumption | omega | exact mx_ch_0), (by first | assumption | omega | exact mx_ch_0), (by first | assumption | omega | exact mx_ch_0), rfl⟩⟩ (by decide) (by decide) d_Opd_make_19
set_option maxHeartbeats 4000000 in
set_option maxRecDepth 100000 in
theorem s_Opd_isNumber (l : Launch) (K : mx_K) (od : Nat) (ix : Nat) (b1 : Int32) (o1w : Int32) (ov : Nat) (oz : Nat) (fo : Nat → Int64) (fq : Nat → Int32) (o1g : Nat) (o1y : Nat) (o1c : Nat) (sz : Nat) (ho1 : o1g ≤ 1) (ho2 : o1y ≤ 1) (ho3 : o1c ≤ 2000) (hix : ix ≤ 2) : mx_I l y_Opd_isNumber b_Opd_isNumber 3 .boolean { frames := 1, cells := 0, slots := 0, locals := 20 } K [.ref od, .int (nI ix), .int b1] [(od, .inr (7, [.int (nI o1g), .int (nI o1y), .int (nI o1c), .int o1w, .ref ov, .ref oz])), (ov, .inl (K.2.1.1, 3, .inr (.inl fo))), (oz, .inl (K.2.1.2.2.2, 3, .inl fq))] sz (fun (r : Int32) (u : va_W) => (r = 0 ∨ r = 1) ∧ (∃ (o2g : Nat) (o2y : Nat) (o2c : Nat) (o2w : Int32) (fo2 : Nat → Int64) (fq2 : Nat → Int32), (o2g ≤ 1) ∧ (o2y ≤ 1) ∧ (o2c ≤ 2000) ∧ u = [(od, .inr (7, [.int (nI o2g), .int (nI o2y), .int (nI o2c), .int o2w, .ref ov, .ref oz])), (ov, .inl (K.2.1.1, 3, .inr (.inl fo2))), (oz, .inl (K.2.1.2.2.2, 3, .inl fq2))])) (fun u : va_W => u) := by
  refine mx_of (by decide) (Nat.le_of_ble_eq_true rfl) ?_
  intro p e s m below meth c A ls H locs hAe F hr hlk hin hsz hP hD hS hl
  rw [hAe]
  have hl : lv_has ls 3 [(0, .ref od), (1, .int (nI ix)), (2, .int b1)] := hl
  obtain ⟨hx, hb, hml, hown, hT, hK, hN, hE, hA⟩ := id F
  refine lv_aload_n hx hb d_Opd_isNumber_0 rfl (lv_at hl 0 rfl) ?_
  refine va_get (D := K.1) (ci := 7) (v := .ref oz) (C := R_Opd) (T := T_Opd) (N := 6) hx hb hT in_Opd hown hK hP 0 rfl rfl 5 (by decide) (hT _ k_82) (fun _ h9 => h9) rfl d_Opd_isNumber_1 ?_
  refine lv_iload_n hx hb d_Opd_isNumber_4 rfl (lv_at hl 1 rfl) ?_
  refine va_zald hx hb hK hP 2 3 rfl rfl (i := nI ix) (vp_in_nI (n := ix) (N := 3) (by omega) (by decide)) d_Opd_isNumber_5 ?_
  refine lv_topi (fun z_1 ez_1 => ?_)
  refine lv_if_ne (tgt := 36) hx hb d_Opd_isNumber_6 (by decide) (fun h_2 => ?_) (fun h_2 => ?_)
  · refine lv_iconst (v := 0) hx hb d_Opd_isNumber_36 (by decide) ?_
    exact mx_ri F hr hlk (by decide) hP hD hS [(od, .inr (7, [.int (nI o1g), .int (nI o1y), .int (nI o1c), .int o1w, .ref ov, .ref oz])), (ov, .inl (K.2.1.1, 3, .inr (.inl fo))), (oz, .inl (K.2.1.2.2.2, 3, .inl fq))] [0, 1, 2] rfl (by decide) ⟨(Or.inl rfl), ⟨o1g, o1y, o1c, o1w, fo, fq, (by first | assumption | omega | exact mx_ch_0), (by first | assumption | omega | exact mx_ch_0), (by first | assumption | omega | exact mx_ch_0), rfl⟩⟩ (by decide) (by decide) d_Opd_isNumber_37
  · refine lv_aload_n hx hb d_Opd_isNumber_9 rfl (lv_at hl 0 rfl) ?_
    refine va_get (D := K.1) (ci := 7) (v := .ref ov) (C := R_Opd) (T := T_Opd) (N := 6) hx hb hT in_Opd hown hK hP 0 rfl rfl 4 (by decide) (hT _ k_80) (fun _ h9 => h9) rfl d_Opd_isNumber_10 ?_
    refine lv_iload_n hx hb d_Opd_isNumber_13 rfl (lv_at hl 1 rfl) ?_
    refine va_lald hx hb hK hP 1 0 rfl rfl (i := nI ix) (vp_in_nI (n := ix) (N := 3) (by omega) (by decide)) d_Opd_isNumber_14 ?_
    refine lv_topl (fun z_3 ez_3 => ?_)
    refine lv_lconst (v := 0) hx hb d_Opd_isNumber_15 (by decide) ?_
    refine W.lcmp hx hb d_Opd_isNumber_16 ?_
    refine lv_if_lt (tgt := 36) hx hb d_Opd_isNumber_17 (by decide) (fun h_4 => ?_) (fun h_4 => ?_)
    · refine lv_iconst (v := 0) hx hb d_Opd_isNumber_36 (by decide) ?_
      exact mx_ri F hr hlk (by decide) hP hD hS [(od, .inr (7, [.int (nI o1g), .int (nI o1y), .int (nI o1c), .int o1w, .ref ov, .ref oz])), (ov, .inl (K.2.1.1, 3, .inr (.inl fo))), (oz, .inl (K.2.1.2.2.2, 3, .inl fq))] [0, 1, 2] rfl (by decide) ⟨(Or.inl rfl), ⟨o1g, o1y, o1c, o1w, fo, fq, (by first | assumption | omega | exact mx_ch_0), (by first | assumption | omega | exact mx_ch_0), (by first | assumption | omega | exact mx_ch_0), rfl⟩⟩ (by decide) (by decide) d_Opd_isNumber_37
    · refine lv_aload_n hx hb d_Opd_isNumber_20 rfl (lv_at hl 0 rfl) ?_
      refine va_get (D := K.1) (ci := 7) (v := .ref ov) (C := R_Opd) (T := T_Opd) (N := 6) hx hb hT in_Opd hown hK hP 0 rfl rfl 4 (by decide) (hT _ k_80) (fun _ h9 => h9) rfl d_Opd_isNumber_21 ?_
      refine lv_iload_n hx hb d_Opd_isNumber_24 rfl (lv_at hl 1 rfl) ?_
      refine va_lald hx hb hK hP 1 0 rfl rfl (i := nI ix) (vp_in_nI (n := ix) (N := 3) (by omega) (by decide)) d_Opd_isNumber_25 ?_
      refine lv_topl (fun z_5 ez_5 => ?_)
      refine lv_iload_n hx hb d_Opd_isNumber_26 rfl (lv_at hl 2 rfl) ?_
      refine lv_i2l (v := b1.toInt64) hx hb d_Opd_isNumber_27 rfl ?_
      refine W.lcmp hx hb d_Opd_isNumber_28 ?_
      refine lv_if_gt (tgt := 36) hx hb d_Opd_isNumber_29 (by decide) (fun h_6 => ?_) (fun h_6 => ?_)
      · refine lv_iconst (v := 0) hx hb d_Opd_isNumber_36 (by decide) ?_
        exact mx_ri F hr hlk (by decide) hP hD hS [(od, .inr (7, [.int (nI o1g), .int (nI o1y), .int (nI o1c), .int o1w, .ref ov, .ref oz])), (ov, .inl (K.2.1.1, 3, .inr (.inl fo))), (oz, .inl (K.2.1.2.2.2, 3, .inl fq))] [0, 1, 2] rfl (by decide) ⟨(Or.inl rfl), ⟨o1g, o1y, o1c, o1w, fo, fq, (by first | assumption | omega | exact mx_ch_0), (by first | assumption | omega | exact mx_ch_0), (by first | assumption | omega | exact mx_ch_0), rfl⟩⟩ (by decide) (by decide) d_Opd_isNumber_37
      · refine lv_iconst (v := 1) hx hb d_Opd_isNumber_32 (by decide) ?_
        refine lv_goto (tgt := 37) hx hb d_Opd_isNumber_33 (by decide) ?_
        exact mx_ri F hr hlk (by decide) hP hD hS [(od, .inr (7, [.int (nI o1g), .int (nI o1y), .int (nI o1c), .int o1w, .ref ov, .ref oz])), (ov, .inl (K.2.1.1, 3, .inr (.inl fo))), (oz, .inl (K.2.1.2.2.2, 3, .inl fq))] [0, 1, 2] rfl (by decide) ⟨(Or.inr rfl), ⟨o1g, o1y, o1c, o1w, fo, fq, (by first | assumption | omega | exact mx_ch_0), (by first | assumption | omega | exact mx_ch_0), (by first | assumption | omega | exact mx_ch_0), rfl⟩⟩ (by decide) (by decide) d_Opd_isNumber_37
set_option maxHeartbeats 4000000 in
set_option maxRecDepth 100000 in
theorem s_Opd_isSpecial (l : Launch) (K : mx_K) (od : Nat) (ix : Nat) (o1w : Int32) (ov : Nat) (oz : Nat) (fo : Nat → Int64) (fq : Nat → Int32) (o1g : Nat) (o1y : Nat) (o1c : Nat) (sz : Nat) (ho1 : o1g ≤ 1) (ho2 : o1y ≤ 1) (ho3 : o1c ≤ 2000) (hix : ix ≤ 2) : mx_I l y_Opd_isSpecial b_Opd_isSpecial 2 .boolean { frames := 2, cells := 0, slots := 0, locals := 42 } K [.ref od, .int (nI ix)] [(od, .inr (7, [.int (nI o1g), .int (nI o1y), .int (nI o1c), .int o1w, .ref ov, .ref oz])), (ov, .inl (K.2.1.1, 3, .inr (.inl fo))), (oz, .inl (K.2.1.2.2.2, 3, .inl fq))] sz (fun (r : Int32) (u : va_W) => (r = 0 ∨ r = 1) ∧ (∃ (o2g : Nat) (o2y : Nat) (o2c : Nat) (o2w : Int32) (fo2 : Nat → Int64) (fq2 : Nat → Int32), (o2g ≤ 1) ∧ (o2y ≤ 1) ∧ (o2c ≤ 2000) ∧ u = [(od, .inr (7, [.int (nI o2g), .int (nI o2y), .int (nI o2c), .int o2w, .ref ov, .ref oz])), (ov, .inl (K.2.1.1, 3, .inr (.inl fo2))), (oz, .inl (K.2.1.2.2.2, 3, .inl fq2))])) (fun u : va_W => u) := by
  refine mx_of (by decide) (Nat.le_of_ble_eq_true rfl) ?_
  intro p e s m below meth c A ls H locs hAe F hr hlk hin hsz hP hD hS hl
  rw [hAe]
  have hl : lv_has ls 2 [(0, .ref od), (1, .int (nI ix))] := hl
  obtain ⟨hx, hb, hml, hown, hT, hK, hN, hE, hA⟩ := id F
  refine lv_aload_n hx hb d_Opd_isSpecial_0 rfl (lv_at hl 0 rfl) ?_
  refine va_get (D := K.1) (ci := 7) (v := .ref oz) (C := R_Opd) (T := T_Opd) (N := 6) hx hb hT in_Opd hown hK hP 0 rfl rfl 5 (by decide) (hT _ k_82) (fun _ h9 => h9) rfl d_Opd_isSpecial_1 ?_
  refine lv_iload_n hx hb d_Opd_isSpecial_4 rfl (lv_at hl 1 rfl) ?_
  refine va_zald hx hb hK hP 2 3 rfl rfl (i := nI ix) (vp_in_nI (n := ix) (N := 3) (by omega) (by decide)) d_Opd_isSpecial_5 ?_
  refine lv_topi (fun z_1 ez_1 => ?_)
  refine lv_if_ne (tgt := 25) hx hb d_Opd_isSpecial_6 (by decide) (fun h_2 => ?_) (fun h_2 => ?_)
  · refine lv_iconst (v := 0) hx hb d_Opd_isSpecial_25 (by decide) ?_
    exact mx_ri F hr hlk (by decide) hP hD hS [(od, .inr (7, [.int (nI o1g), .int (nI o1y), .int (nI o1c), .int o1w, .ref ov, .ref oz])), (ov, .inl (K.2.1.1, 3, .inr (.inl fo))), (oz, .inl (K.2.1.2.2.2, 3, .inl fq))] [0, 1, 2] rfl (by decide) ⟨(Or.inl rfl), ⟨o1g, o1y, o1c, o1w, fo, fq, (by first | assumption | omega | exact mx_ch_0), (by first | assumption | omega | exact mx_ch_0), (by first | assumption | omega | exact mx_ch_0), rfl⟩⟩ (by decide) (by decide) d_Opd_isSpecial_26
  · refine lv_aload_n hx hb d_Opd_isSpecial_9 rfl (lv_at hl 0 rfl) ?_
    refine va_get (D := K.1) (ci := 7) (v := .ref ov) (C := R_Opd) (T := T_Opd) (N := 6) hx hb hT in_Opd hown hK hP 0 rfl rfl 4 (by decide) (hT _ k_80) (fun _ h9 => h9) rfl d_Opd_isSpecial_10 ?_
    refine lv_iload_n hx hb d_Opd_isSpecial_13 rfl (lv_at hl 1 rfl) ?_
    refine va_lald hx hb hK hP 1 0 rfl rfl (i := nI ix) (vp_in_nI (n := ix) (N := 3) (by omega) (by decide)) d_Opd_isSpecial_14 ?_
    refine lv_topl (fun z_3 ez_3 => ?_)
    refine mx_ci (wr := [(od, .inr (7, [.int (nI o1g), .int (nI o1y), .int (nI o1c), .int o1w, .ref ov, .ref oz])), (ov, .inl (K.2.1.1, 3, .inr (.inl fo))), (oz, .inl (K.2.1.2.2.2, 3, .inl fq))]) F (mx_runS (As := [.long z_3]) (rest := []) (n := 1) F (s_Spe_told l K z_3 H.size) k_676 (Or.inl k_674) k_675 k_16 p_LittleMix_Specials_told rfl rfl hP hD hS [] rfl (by decide)  rfl hl.1 rfl (Nat.le_of_ble_eq_true rfl) ⟨by decide, by decide⟩ ⟨by decide, by decide⟩ d_Opd_isSpecial_15) hP hD hS [] [0, 1, 2] rfl rfl (by decide) (by decide) (fun r_5 _ H locs hq_4 hP hD hS => ?_)
    obtain ⟨rb_6, hrb_6, rfl⟩ := mx_bool hq_4
    have hP : va_P K.1 mx_cl [(od, .inr (7, [.int (nI o1g), .int (nI o1y), .int (nI o1c), .int o1w, .ref ov, .ref oz])), (ov, .inl (K.2.1.1, 3, .inr (.inl fo))), (oz, .inl (K.2.1.2.2.2, 3, .inl fq))] H := hP
    have hD : va_D A [(od, .inr (7, [.int (nI o1g), .int (nI o1y), .int (nI o1c), .int o1w, .ref ov, .ref oz])), (ov, .inl (K.2.1.1, 3, .inr (.inl fo))), (oz, .inl (K.2.1.2.2.2, 3, .inl fq))] := hD
    refine W.cs (cells' := 0) (slots' := 0) rfl rfl ?_
    refine lv_if_eq (tgt := 25) hx hb d_Opd_isSpecial_18 (by decide) (fun h_7 => ?_) (fun h_7 => ?_)
    · have h_7n := mx_fEq (a := rb_6) (b := 0) (by omega) (by omega) h_7
      refine lv_iconst (v := 0) hx hb d_Opd_isSpecial_25 (by decide) ?_
      exact mx_ri F hr hlk (by decide) hP hD hS [(od, .inr (7, [.int (nI o1g), .int (nI o1y), .int (nI o1c), .int o1w, .ref ov, .ref oz])), (ov, .inl (K.2.1.1, 3, .inr (.inl fo))), (oz, .inl (K.2.1.2.2.2, 3, .inl fq))] [0, 1, 2] rfl (by decide) ⟨(Or.inl rfl), ⟨o1g, o1y, o1c, o1w, fo, fq, (by first | assumption | omega | exact mx_ch_0), (by first | assumption | omega | exact mx_ch_0), (by first | assumption | omega | exact mx_ch_0), rfl⟩⟩ (by decide) (by decide) d_Opd_isSpecial_26
    · have h_7n := mx_fNe (a := rb_6) (b := 0) (by omega) (by omega) h_7
      refine lv_iconst (v := 1) hx hb d_Opd_isSpecial_21 (by decide) ?_
      refine lv_goto (tgt := 26) hx hb d_Opd_isSpecial_22 (by decide) ?_
      exact mx_ri F hr hlk (by decide) hP hD hS [(od, .inr (7, [.int (nI o1g), .int (nI o1y), .int (nI o1c), .int o1w, .ref ov, .ref oz])), (ov, .inl (K.2.1.1, 3, .inr (.inl fo))), (oz, .inl (K.2.1.2.2.2, 3, .inl fq))] [0, 1, 2] rfl (by decide) ⟨(Or.inr rfl), ⟨o1g, o1y, o1c, o1w, fo, fq, (by first | assumption | omega | exact mx_ch_0), (by first | assumption | omega | exact mx_ch_0), (by first | assumption | omega | exact mx_ch_0), rfl⟩⟩ (by decide) (by decide) d_Opd_isSpecial_26
set_option maxHeartbeats 4000000 in
set_option maxRecDepth 100000 in
theorem s_Opd_withLast (l : Launch) (K : mx_K) (od : Nat) (b0 : Int32) (ix : Nat) (b2 : Int64) (b3 : Int64) (o1w : Int32) (ov : Nat) (oz : Nat) (fo : Nat → Int64) (fq : Nat → Int32) (o1g : Nat) (o1y : Nat) (o1c : Nat) (sz : Nat) (ho1 : o1g ≤ 1) (ho2 : o1y ≤ 1) (ho3 : o1c ≤ 2000) (hix : ix ≤ 2) : mx_I l y_Opd_withLast b_Opd_withLast 7 .boolean { frames := 2, cells := 0, slots := 0, locals := 45 } K [.ref od, .int b0, .int (nI ix), .long b2, .long b3] [(od, .inr (7, [.int (nI o1g), .int (nI o1y), .int (nI o1c), .int o1w, .ref ov, .ref oz])), (ov, .inl (K.2.1.1, 3, .inr (.inl fo))), (oz, .inl (K.2.1.2.2.2, 3, .inl fq))] sz (fun (r : Int32) (u : va_W) => (r = 0 ∨ r = 1) ∧ (∃ (o2g : Nat) (o2y : Nat) (o2c : Nat) (o2w : Int32) (fo2 : Nat → Int64) (fq2 : Nat → Int32), (o2g ≤ 1) ∧ (o2y ≤ 1) ∧ (o2c ≤ 2000) ∧ u = [(od, .inr (7, [.int (nI o2g), .int (nI o2y), .int (nI o2c), .int o2w, .ref ov, .ref oz])), (ov, .inl (K.2.1.1, 3, .inr (.inl fo2))), (oz, .inl (K.2.1.2.2.2, 3, .inl fq2))])) (fun u : va_W => u) := by
  refine mx_of (by decide) (Nat.le_of_ble_eq_true rfl) ?_
  intro p e s m below meth c A ls H locs hAe F hr hlk hin hsz hP hD hS hl
  rw [hAe]
  have hl : lv_has ls 7 [(0, .ref od), (1, .int b0), (2, .int (nI ix)), (3, .long b2), (5, .long b3)] := hl
  obtain ⟨hx, hb, hml, hown, hT, hK, hN, hE, hA⟩ := id F
  refine lv_aload_n hx hb d_Opd_withLast_0 rfl (lv_at hl 0 rfl) ?_
  refine va_get (D := K.1) (ci := 7) (v := .ref oz) (C := R_Opd) (T := T_Opd) (N := 6) hx hb hT in_Opd hown hK hP 0 rfl rfl 5 (by decide) (hT _ k_82) (fun _ h9 => h9) rfl d_Opd_withLast_1 ?_
  refine lv_iload_n hx hb d_Opd_withLast_4 rfl (lv_at hl 2 rfl) ?_
  refine va_zald hx hb hK hP 2 3 rfl rfl (i := nI ix) (vp_in_nI (n := ix) (N := 3) (by omega) (by decide)) d_Opd_withLast_5 ?_
  refine lv_topi (fun z_1 ez_1 => ?_)
  refine lv_if_eq (tgt := 28) hx hb d_Opd_withLast_6 (by decide) (fun h_2 => ?_) (fun h_2 => ?_)
  · refine lv_aload_n hx hb d_Opd_withLast_28 rfl (lv_at hl 0 rfl) ?_
    refine lv_iload_n hx hb d_Opd_withLast_29 rfl (lv_at hl 2 rfl) ?_
    refine lv_sipush (v := 255) hx hb d_Opd_withLast_30 (by decide) ?_
    refine mx_ci (wr := []) F (mx_runV (As := [.int (nI ix), .int 255]) (rest := []) (n := 2) F (s_Opd_isNumber l K od ix 255 o1w ov oz fo fq o1g o1y o1c H.size (by first | assumption | omega | exact mx_ch_0) (by first | assumption | omega | exact mx_ch_0) (by first | assumption | omega | exact mx_ch_0) (by first | assumption | omega | exact mx_ch_0)) k_657 (Or.inl k_654) k_656 sl_Opd_isNumber k_5 p_Opd_isNumber rfl rfl hP hD hS [0, 1, 2] rfl (by decide) (va_recv (q := (R_Opd, T_Opd, 6)) (ci := 7) (q0 := 0) hK hP rfl rfl) rfl hl.1 rfl (Nat.le_of_ble_eq_true rfl) ⟨by decide, by decide⟩ ⟨by decide, by decide⟩ d_Opd_withLast_33) hP hD hS [0, 1, 2] [] rfl rfl (by decide) (by decide) (fun r_5 u_4 H locs hq_3 hP hD hS => ?_)
    obtain ⟨hq_15, w_6, w_7, w_8, w_9, w_10, w_11, hf_12, hf_13, hf_14, rfl⟩ := hq_3
    obtain ⟨rb_16, hrb_16, rfl⟩ := mx_bool hq_15
    have hP : va_P K.1 mx_cl [(od, .inr (7, [.int (nI w_6), .int (nI w_7), .int (nI w_8), .int w_9, .ref ov, .ref oz])), (ov, .inl (K.2.1.1, 3, .inr (.inl w_10))), (oz, .inl (K.2.1.2.2.2, 3, .inl w_11))] H := hP
    have hD : va_D A [(od, .inr (7, [.int (nI w_6), .int (nI w_7), .int (nI w_8), .int w_9, .ref ov, .ref oz])), (ov, .inl (K.2.1.1, 3, .inr (.inl w_10))), (oz, .inl (K.2.1.2.2.2, 3, .inl w_11))] := hD
    refine W.cs (cells' := 0) (slots' := 0) rfl rfl ?_
    refine lv_if_eq (tgt := 66) hx hb d_Opd_withLast_36 (by decide) (fun h_17 => ?_) (fun h_17 => ?_)
    · have h_17n := mx_fEq (a := rb_16) (b := 0) (by omega) (by omega) h_17
      refine lv_iconst (v := 0) hx hb d_Opd_withLast_66 (by decide) ?_
      exact mx_ri F hr hlk (by decide) hP hD hS [(od, .inr (7, [.int (nI w_6), .int (nI w_7), .int (nI w_8), .int w_9, .ref ov, .ref oz])), (ov, .inl (K.2.1.1, 3, .inr (.inl w_10))), (oz, .inl (K.2.1.2.2.2, 3, .inl w_11))] [0, 1, 2] rfl (by decide) ⟨(Or.inl rfl), ⟨w_6, w_7, w_8, w_9, w_10, w_11, (by first | assumption | omega | exact mx_ch_0), (by first | assumption | omega | exact mx_ch_0), (by first | assumption | omega | exact mx_ch_0), rfl⟩⟩ (by decide) (by decide) d_Opd_withLast_67
    · have h_17n := mx_fNe (a := rb_16) (b := 0) (by omega) (by omega) h_17
      refine lv_aload_n hx hb d_Opd_withLast_39 rfl (lv_at hl 0 rfl) ?_
      refine lv_iload_n hx hb d_Opd_withLast_40 rfl (lv_at hl 1 rfl) ?_
      refine lv_iconst (v := 1) hx hb d_Opd_withLast_41 (by decide) ?_
      refine lv_iadd hx hb d_Opd_withLast_42 ?_
      refine lv_lload_n hx hb d_Opd_withLast_43 rfl (lv_at hl 3 rfl) ?_
      refine lv_lload hx hb d_Opd_withLast_44 (lv_at hl 4 rfl) ?_
      refine lv_bipush (v := 8) hx hb d_Opd_withLast_46 (by decide) ?_
      refine lv_lshl (v := b3 <<< ((8 : Int32).toInt64 &&& 63)) hx hb d_Opd_withLast_48 rfl ?_
      refine lv_aload_n hx hb d_Opd_withLast_49 rfl (lv_at hl 0 rfl) ?_
      refine va_get (D := K.1) (ci := 7) (v := .ref ov) (C := R_Opd) (T := T_Opd) (N := 6) hx hb hT in_Opd hown hK hP 0 rfl rfl 4 (by decide) (hT _ k_80) (fun _ h9 => h9) rfl d_Opd_withLast_50 ?_
      refine lv_iload_n hx hb d_Opd_withLast_53 rfl (lv_at hl 2 rfl) ?_
      refine va_lald hx hb hK hP 1 0 rfl rfl (i := nI ix) (vp_in_nI (n := ix) (N := 3) (by omega) (by decide)) d_Opd_withLast_54 ?_
      refine lv_topl (fun z_18 ez_18 => ?_)
      refine lv_lor hx hb d_Opd_withLast_55 ?_
      refine mx_ci (wr := []) F (mx_runV (As := [.int (b0 + (1 : Int32)), .long b2, .long ((b3 <<< ((8 : Int32).toInt64 &&& 63)) ||| z_18)]) (rest := []) (n := 3) F (s_Opd_make l K od (b0 + (1 : Int32)) b2 ((b3 <<< ((8 : Int32).toInt64 &&& 63)) ||| z_18) w_9 ov oz w_10 w_11 w_6 w_7 w_8 H.size (by first | assumption | omega | exact mx_ch_0) (by first | assumption | omega | exact mx_ch_0) (by first | assumption | omega | exact mx_ch_0)) k_653 (Or.inl k_650) k_652 sl_Opd_make k_5 p_Opd_make rfl rfl hP hD hS [0, 1, 2] rfl (by decide) (va_recv (q := (R_Opd, T_Opd, 6)) (ci := 7) (q0 := 0) hK hP rfl rfl) rfl hl.1 rfl (Nat.le_of_ble_eq_true rfl) ⟨by decide, by decide⟩ ⟨by decide, by decide⟩ d_Opd_withLast_56) hP hD hS [0, 1, 2] [] rfl rfl (by decide) (by decide) (fun r_21 u_20 H locs hq_19 hP hD hS => ?_)
      obtain ⟨hq_31, w_22, w_23, w_24, w_25, w_26, w_27, hf_28, hf_29, hf_30, rfl⟩ := hq_19
      obtain ⟨rb_32, hrb_32, rfl⟩ := mx_bool hq_31
      have hP : va_P K.1 mx_cl [(od, .inr (7, [.int (nI w_22), .int (nI w_23), .int (nI w_24), .int w_25, .ref ov, .ref oz])), (ov, .inl (K.2.1.1, 3, .inr (.inl w_26))), (oz, .inl (K.2.1.2.2.2, 3, .inl w_27))] H := hP
      have hD : va_D A [(od, .inr (7, [.int (nI w_22), .int (nI w_23), .int (nI w_24), .int w_25, .ref ov, .ref oz])), (ov, .inl (K.2.1.1, 3, .inr (.inl w_26))), (oz, .inl (K.2.1.2.2.2, 3, .inl w_27))] := hD
      refine W.cs (cells' := 0) (slots' := 0) rfl rfl ?_
      refine lv_if_eq (tgt := 66) hx hb d_Opd_withLast_59 (by decide) (fun h_33 => ?_) (fun h_33 => ?_)
      · have h_33n := mx_fEq (a := rb_32) (b := 0) (by omega) (by omega) h_33
        refine lv_iconst (v := 0) hx hb d_Opd_withLast_66 (by decide) ?_
        exact mx_ri F hr hlk (by decide) hP hD hS [(od, .inr (7, [.int (nI w_22), .int (nI w_23), .int (nI w_24), .int w_25, .ref ov, .ref oz])), (ov, .inl (K.2.1.1, 3, .inr (.inl w_26))), (oz, .inl (K.2.1.2.2.2, 3, .inl w_27))] [0, 1, 2] rfl (by decide) ⟨(Or.inl rfl), ⟨w_22, w_23, w_24, w_25, w_26, w_27, (by first | assumption | omega | exact mx_ch_0), (by first | assumption | omega | exact mx_ch_0), (by first | assumption | omega | exact mx_ch_0), rfl⟩⟩ (by decide) (by decide) d_Opd_withLast_67
      · have h_33n := mx_fNe (a := rb_32) (b := 0) (by omega) (by omega) h_33
        refine lv_iconst (v := 1) hx hb d_Opd_withLast_62 (by decide) ?_
        refine lv_goto (tgt := 67) hx hb d_Opd_withLast_63 (by decide) ?_
        exact mx_ri F hr hlk (by decide) hP hD hS [(od, .inr (7, [.int (nI w_22), .int (nI w_23), .int (nI w_24), .int w_25, .ref ov, .ref oz])), (ov, .inl (K.2.1.1, 3, .inr (.inl w_26))), (oz, .inl (K.2.1.2.2.2, 3, .inl w_27))] [0, 1, 2] rfl (by decide) ⟨(Or.inr rfl), ⟨w_22, w_23, w_24, w_25, w_26, w_27, (by first | assumption | omega | exact mx_ch_0), (by first | assumption | omega | exact mx_ch_0), (by first | assumption | omega | exact mx_ch_0), rfl⟩⟩ (by decide) (by decide) d_Opd_withLast_67
  · refine lv_aload_n hx hb d_Opd_withLast_9 rfl (lv_at hl 0 rfl) ?_
    refine lv_iload_n hx hb d_Opd_withLast_10 rfl (lv_at hl 1 rfl) ?_
    refine lv_lload_n hx hb d_Opd_withLast_11 rfl (lv_at hl 3 rfl) ?_
    refine lv_lload hx hb d_Opd_withLast_12 (lv_at hl 4 rfl) ?_
    refine lv_bipush (v := 8) hx hb d_Opd_withLast_14 (by decide) ?_
    refine lv_lshl (v := b3 <<< ((8 : Int32).toInt64 &&& 63)) hx hb d_Opd_withLast_16 rfl ?_
    refine lv_aload_n hx hb d_Opd_withLast_17 rfl (lv_at hl 0 rfl) ?_
    refine va_get (D := K.1) (ci := 7) (v := .ref ov) (C := R_Opd) (T := T_Opd) (N := 6) hx hb hT in_Opd hown hK hP 0 rfl rfl 4 (by decide) (hT _ k_80) (fun _ h9 => h9) rfl d_Opd_withLast_18 ?_
    refine lv_iload_n hx hb d_Opd_withLast_21 rfl (lv_at hl 2 rfl) ?_
    refine va_lald hx hb hK hP 1 0 rfl rfl (i := nI ix) (vp_in_nI (n := ix) (N := 3) (by omega) (by decide)) d_Opd_withLast_22 ?_
    refine lv_topl (fun z_34 ez_34 => ?_)
    refine lv_lor hx hb d_Opd_withLast_23 ?_
    refine mx_ci (wr := []) F (mx_runV (As := [.int b0, .long b2, .long ((b3 <<< ((8 : Int32).toInt64 &&& 63)) ||| z_34)]) (rest := []) (n := 3) F (s_Opd_make l K od b0 b2 ((b3 <<< ((8 : Int32).toInt64 &&& 63)) ||| z_34) o1w ov oz fo fq o1g o1y o1c H.size (by first | assumption | omega | exact mx_ch_0) (by first | assumption | omega | exact mx_ch_0) (by first | assumption | omega | exact mx_ch_0)) k_653 (Or.inl k_650) k_652 sl_Opd_make k_5 p_Opd_make rfl rfl hP hD hS [0, 1, 2] rfl (by decide) (va_recv (q := (R_Opd, T_Opd, 6)) (ci := 7) (q0 := 0) hK hP rfl rfl) rfl hl.1 rfl (Nat.le_of_ble_eq_true rfl) ⟨by decide, by decide⟩ ⟨by decide, by decide⟩ d_Opd_withLast_24) hP hD hS [0, 1, 2] [] rfl rfl (by decide) (by decide) (fun r_37 u_36 H locs hq_35 hP hD hS => ?_)
    obtain ⟨hq_47, w_38, w_39, w_40, w_41, w_42, w_43, hf_44, hf_45, hf_46, rfl⟩ := hq_35
    obtain ⟨rb_48, hrb_48, rfl⟩ := mx_bool hq_47
    have hP : va_P K.1 mx_cl [(od, .inr (7, [.int (nI w_38), .int (nI w_39), .int (nI w_40), .int w_41, .ref ov, .ref oz])), (ov, .inl (K.2.1.1, 3, .inr (.inl w_42))), (oz, .inl (K.2.1.2.2.2, 3, .inl w_43))] H := hP
    have hD : va_D A [(od, .inr (7, [.int (nI w_38), .int (nI w_39), .int (nI w_40), .int w_41, .ref ov, .ref oz])), (ov, .inl (K.2.1.1, 3, .inr (.inl w_42))), (oz, .inl (K.2.1.2.2.2, 3, .inl w_43))] := hD
    refine W.cs (cells' := 0) (slots' := 0) rfl rfl ?_
    exact mx_ri F hr hlk (mx_nz (by omega)) hP hD hS [(od, .inr (7, [.int (nI w_38), .int (nI w_39), .int (nI w_40), .int w_41, .ref ov, .ref oz])), (ov, .inl (K.2.1.1, 3, .inr (.inl w_42))), (oz, .inl (K.2.1.2.2.2, 3, .inl w_43))] [0, 1, 2] rfl (by decide) ⟨(mx_b01 (b := rb_48) (by omega)), ⟨w_38, w_39, w_40, w_41, w_42, w_43, (by first | assumption | omega | exact mx_ch_0), (by first | assumption | omega | exact mx_ch_0), (by first | assumption | omega | exact mx_ch_0), rfl⟩⟩ (by decide) (by decide) d_Opd_withLast_27
set_option maxHeartbeats 4000000 in
set_option maxRecDepth 100000 in
theorem s_Opd_withPlace_b108 {p : Program} {l : Launch} {e : Env} {R : Room} {s : State} {m : MethodId} {args : Array Value} {below : List Frame} {meth : Method} {c : Code} {K : mx_K} {A : Nat → Prop} (od : Nat) (b0 : Int32) (ix : Nat) (b2 : Int64) (b3 : Int32) (o1w : Int32) (ov : Nat) (oz : Nat) (fo : Nat → Int64) (fq : Nat → Int32) (o1g : Nat) (o1y : Nat) (o1c : Nat) (ho1 : o1g ≤ 1) (ho2 : o1y ≤ 1) (ho3 : o1c ≤ 2000) (hix : ix ≤ 2) (F : mx_F p s m args c b_Opd_withPlace 9 "LittleMix$Operands" K A) (hr : meth.sig.returnType = some .boolean) (hlk : meth.locks = false) (hRf : 2 ≤ R.frames) (hRl : 45 ≤ R.locals)
    : ∀ (v6 : Int64) (v8 : Int32) (vs0 : Int64) (vs1 : Int64) (vs2 : Int32) (ls : Array Slot) (H : Heap) (locs : List Loc), (o1g ≤ 1) → (o1y ≤ 1) → (o1c ≤ 2000) → lv_has ls 9 [(0, .ref od), (1, .int b0), (2, .int (nI ix)), (3, .long b2), (5, .int b3), (6, .long v6), (8, .int v8)] → va_P K.1 mx_cl [(od, .inr (7, [.int (nI o1g), .int (nI o1y), .int (nI o1c), .int o1w, .ref ov, .ref oz])), (ov, .inl (K.2.1.1, 3, .inr (.inl fo))), (oz, .inl (K.2.1.2.2.2, 3, .inl fq))] H → va_D A [(od, .inr (7, [.int (nI o1g), .int (nI o1y), .int (nI o1c), .int o1w, .ref ov, .ref oz])), (ov, .inl (K.2.1.1, 3, .inr (.inl fo))), (oz, .inl (K.2.1.2.2.2, 3, .inl fq))] → va_S A s.heap H locs → W p l e R s m args below meth c H locs 0 0 (MQ below (va_Qi (fun (r : Int32) (u : va_W) => (r = 0 ∨ r = 1) ∧ (∃ (o2g : Nat) (o2y : Nat) (o2c : Nat) (o2w : Int32) (fo2 : Nat → Int64) (fq2 : Nat → Int32), (o2g ≤ 1) ∧ (o2y ≤ 1) ∧ (o2c ≤ 2000) ∧ u = [(od, .inr (7, [.int (nI o2g), .int (nI o2y), .int (nI o2c), .int o2w, .ref ov, .ref oz])), (ov, .inl (K.2.1.1, 3, .inr (.inl fo2))), (oz, .inl (K.2.1.2.2.2, 3, .inl fq2))])) (mx_B K A (fun u : va_W => u)) A) args s 0 0 A) (F0 m 108 ls [.long vs0, .long vs1, .int vs2, .ref od]) := by
  obtain ⟨hx, hb, hml, hown, hT, hK, hN, hE, hA⟩ := id F
  intro v6 v8 vs0 vs1 vs2 ls H locs hog hoy hoc hl hP hD hS
  refine mx_ci (wr := []) F (mx_runV (As := [.int vs2, .long vs1, .long vs0]) (rest := []) (n := 3) F (s_Opd_make l K od vs2 vs1 vs0 o1w ov oz fo fq o1g o1y o1c H.size (by first | assumption | omega | exact mx_ch_0) (by first | assumption | omega | exact mx_ch_0) (by first | assumption | omega | exact mx_ch_0)) k_653 (Or.inl k_650) k_652 sl_Opd_make k_5 p_Opd_make rfl rfl hP hD hS [0, 1, 2] rfl (by decide) (va_recv (q := (R_Opd, T_Opd, 6)) (ci := 7) (q0 := 0) hK hP rfl rfl) rfl hl.1 rfl (Nat.le_of_ble_eq_true rfl) ⟨Nat.le_trans (m := 2) (by decide) hRf, Nat.le_trans (m := 45) (by decide) hRl⟩ ⟨Nat.zero_le _, Nat.zero_le _⟩ d_Opd_withPlace_108) hP hD hS [0, 1, 2] [] rfl rfl (by decide) (by decide) (fun r_3 u_2 H locs hq_1 hP hD hS => ?_)
  obtain ⟨hq_13, w_4, w_5, w_6, w_7, w_8, w_9, hf_10, hf_11, hf_12, rfl⟩ := hq_1
  obtain ⟨rb_14, hrb_14, rfl⟩ := mx_bool hq_13
  have hP : va_P K.1 mx_cl [(od, .inr (7, [.int (nI w_4), .int (nI w_5), .int (nI w_6), .int w_7, .ref ov, .ref oz])), (ov, .inl (K.2.1.1, 3, .inr (.inl w_8))), (oz, .inl (K.2.1.2.2.2, 3, .inl w_9))] H := hP
  have hD : va_D A [(od, .inr (7, [.int (nI w_4), .int (nI w_5), .int (nI w_6), .int w_7, .ref ov, .ref oz])), (ov, .inl (K.2.1.1, 3, .inr (.inl w_8))), (oz, .inl (K.2.1.2.2.2, 3, .inl w_9))] := hD
  refine W.cs (cells' := 0) (slots' := 0) rfl rfl ?_
  exact mx_ri F hr hlk (mx_nz (by omega)) hP hD hS [(od, .inr (7, [.int (nI w_4), .int (nI w_5), .int (nI w_6), .int w_7, .ref ov, .ref oz])), (ov, .inl (K.2.1.1, 3, .inr (.inl w_8))), (oz, .inl (K.2.1.2.2.2, 3, .inl w_9))] [0, 1, 2] rfl (by decide) ⟨(mx_b01 (b := rb_14) (by omega)), ⟨w_4, w_5, w_6, w_7, w_8, w_9, (by first | assumption | omega | exact mx_ch_0), (by first | assumption | omega | exact mx_ch_0), (by first | assumption | omega | exact mx_ch_0), rfl⟩⟩ (by decide) (by decide) d_Opd_withPlace_111
set_option maxHeartbeats 4000000 in
set_option maxRecDepth 100000 in
theorem s_Opd_withPlace_b90 {p : Program} {l : Launch} {e : Env} {R : Room} {s : State} {m : MethodId} {args : Array Value} {below : List Frame} {meth : Method} {c : Code} {K : mx_K} {A : Nat → Prop} (od : Nat) (b0 : Int32) (ix : Nat) (b2 : Int64) (b3 : Int32) (o1w : Int32) (ov : Nat) (oz : Nat) (fo : Nat → Int64) (fq : Nat → Int32) (o1g : Nat) (o1y : Nat) (o1c : Nat) (ho1 : o1g ≤ 1) (ho2 : o1y ≤ 1) (ho3 : o1c ≤ 2000) (hix : ix ≤ 2) (F : mx_F p s m args c b_Opd_withPlace 9 "LittleMix$Operands" K A) (hr : meth.sig.returnType = some .boolean) (hlk : meth.locks = false) (hRf : 2 ≤ R.frames) (hRl : 45 ≤ R.locals)
    : ∀ (v6 : Int64) (v8 : Int32) (vs0 : Int64) (vs1 : Int32) (ls : Array Slot) (H : Heap) (locs : List Loc), (o1g ≤ 1) → (o1y ≤ 1) → (o1c ≤ 2000) → lv_has ls 9 [(0, .ref od), (1, .int b0), (2, .int (nI ix)), (3, .long b2), (5, .int b3), (6, .long v6), (8, .int v8)] → va_P K.1 mx_cl [(od, .inr (7, [.int (nI o1g), .int (nI o1y), .int (nI o1c), .int o1w, .ref ov, .ref oz])), (ov, .inl (K.2.1.1, 3, .inr (.inl fo))), (oz, .inl (K.2.1.2.2.2, 3, .inl fq))] H → va_D A [(od, .inr (7, [.int (nI o1g), .int (nI o1y), .int (nI o1c), .int o1w, .ref ov, .ref oz])), (ov, .inl (K.2.1.1, 3, .inr (.inl fo))), (oz, .inl (K.2.1.2.2.2, 3, .inl fq))] → va_S A s.heap H locs → W p l e R s m args below meth c H locs 0 0 (MQ below (va_Qi (fun (r : Int32) (u : va_W) => (r = 0 ∨ r = 1) ∧ (∃ (o2g : Nat) (o2y : Nat) (o2c : Nat) (o2w : Int32) (fo2 : Nat → Int64) (fq2 : Nat → Int32), (o2g ≤ 1) ∧ (o2y ≤ 1) ∧ (o2c ≤ 2000) ∧ u = [(od, .inr (7, [.int (nI o2g), .int (nI o2y), .int (nI o2c), .int o2w, .ref ov, .ref oz])), (ov, .inl (K.2.1.1, 3, .inr (.inl fo2))), (oz, .inl (K.2.1.2.2.2, 3, .inl fq2))])) (mx_B K A (fun u : va_W => u)) A) args s 0 0 A) (F0 m 90 ls [.long vs0, .int vs1, .ref od]) := by
  obtain ⟨hx, hb, hml, hown, hT, hK, hN, hE, hA⟩ := id F
  intro v6 v8 vs0 vs1 ls H locs hog hoy hoc hl hP hD hS
  refine lv_lload hx hb d_Opd_withPlace_90 (lv_at hl 5 rfl) ?_
  refine lv_lconst (v := 0) hx hb d_Opd_withPlace_92 (by decide) ?_
  refine W.lcmp hx hb d_Opd_withPlace_93 ?_
  refine lv_if_ge (tgt := 106) hx hb d_Opd_withPlace_94 (by decide) (fun h_1 => ?_) (fun h_1 => ?_)
  · refine lv_lload hx hb d_Opd_withPlace_106 (lv_at hl 5 rfl) ?_
    exact s_Opd_withPlace_b108 od b0 ix b2 b3 o1w ov oz fo fq o1g o1y o1c ho1 ho2 ho3 hix F hr hlk hRf hRl v6 v8 v6 vs0 vs1 _ _ _ (by first | assumption | omega | exact mx_ch_0) (by first | assumption | omega | exact mx_ch_0) (by first | assumption | omega | exact mx_ch_0) (lv_sub hl [0, 1, 2, 3, 4, 5, 6] rfl) hP hD hS
  · refine lv_lload hx hb d_Opd_withPlace_97 (lv_at hl 5 rfl) ?_
    refine lv_iload hx hb d_Opd_withPlace_99 (lv_at hl 4 rfl) ?_
    refine lv_i2l (v := b3.toInt64) hx hb d_Opd_withPlace_101 rfl ?_
    refine lv_ladd hx hb d_Opd_withPlace_102 ?_
    refine lv_goto (tgt := 108) hx hb d_Opd_withPlace_103 (by decide) ?_
    exact s_Opd_withPlace_b108 od b0 ix b2 b3 o1w ov oz fo fq o1g o1y o1c ho1 ho2 ho3 hix F hr hlk hRf hRl v6 v8 (v6 + b3.toInt64) vs0 vs1 _ _ _ (by first | assumption | omega | exact mx_ch_0) (by first | assumption | omega | exact mx_ch_0) (by first | assumption | omega | exact mx_ch_0) (lv_sub hl [0, 1, 2, 3, 4, 5, 6] rfl) hP hD hS
set_option maxHeartbeats 4000000 in
set_option maxRecDepth 100000 in
theorem s_Opd_withPlace_b71 {p : Program} {l : Launch} {e : Env} {R : Room} {s : State} {m : MethodId} {args : Array Value} {below : List Frame} {meth : Method} {c : Code} {K : mx_K} {A : Nat → Prop} (od : Nat) (b0 : Int32) (ix : Nat) (b2 : Int64) (b3 : Int32) (o1w : Int32) (ov : Nat) (oz : Nat) (fo : Nat → Int64) (fq : Nat → Int32) (o1g : Nat) (o1y : Nat) (o1c : Nat) (ho1 : o1g ≤ 1) (ho2 : o1y ≤ 1) (ho3 : o1c ≤ 2000) (hix : ix ≤ 2) (F : mx_F p s m args c b_Opd_withPlace 9 "LittleMix$Operands" K A) (hr : meth.sig.returnType = some .boolean) (hlk : meth.locks = false) (hRf : 2 ≤ R.frames) (hRl : 45 ≤ R.locals)
    : ∀ (v6 : Int64) (vs0 : Int32) (ls : Array Slot) (H : Heap) (locs : List Loc), (o1g ≤ 1) → (o1y ≤ 1) → (o1c ≤ 2000) → lv_has ls 9 [(0, .ref od), (1, .int b0), (2, .int (nI ix)), (3, .long b2), (5, .int b3), (6, .long v6)] → va_P K.1 mx_cl [(od, .inr (7, [.int (nI o1g), .int (nI o1y), .int (nI o1c), .int o1w, .ref ov, .ref oz])), (ov, .inl (K.2.1.1, 3, .inr (.inl fo))), (oz, .inl (K.2.1.2.2.2, 3, .inl fq))] H → va_D A [(od, .inr (7, [.int (nI o1g), .int (nI o1y), .int (nI o1c), .int o1w, .ref ov, .ref oz])), (ov, .inl (K.2.1.1, 3, .inr (.inl fo))), (oz, .inl (K.2.1.2.2.2, 3, .inl fq))] → va_S A s.heap H locs → W p l e R s m args below meth c H locs 0 0 (MQ below (va_Qi (fun (r : Int32) (u : va_W) => (r = 0 ∨ r = 1) ∧ (∃ (o2g : Nat) (o2y : Nat) (o2c : Nat) (o2w : Int32) (fo2 : Nat → Int64) (fq2 : Nat → Int32), (o2g ≤ 1) ∧ (o2y ≤ 1) ∧ (o2c ≤ 2000) ∧ u = [(od, .inr (7, [.int (nI o2g), .int (nI o2y), .int (nI o2c), .int o2w, .ref ov, .ref oz])), (ov, .inl (K.2.1.1, 3, .inr (.inl fo2))), (oz, .inl (K.2.1.2.2.2, 3, .inl fq2))])) (mx_B K A (fun u : va_W => u)) A) args s 0 0 A) (F0 m 71 ls [.int vs0]) := by
  obtain ⟨hx, hb, hml, hown, hT, hK, hN, hE, hA⟩ := id F
  intro v6 vs0 ls H locs hog hoy hoc hl hP hD hS
  refine lv_istore (lv' := [(8, .int vs0), (0, .ref od), (1, .int b0), (2, .int (nI ix)), (3, .long b2), (5, .int b3), (6, .long v6)]) hx hb d_Opd_withPlace_71 hl (by decide) rfl (fun ls hl => ?_)
  refine lv_aload_n hx hb d_Opd_withPlace_73 rfl (lv_at hl 1 rfl) ?_
  refine lv_iload hx hb d_Opd_withPlace_74 (lv_at hl 0 rfl) ?_
  refine lv_iload_n hx hb d_Opd_withPlace_76 rfl (lv_at hl 3 rfl) ?_
  refine lv_if_ne (tgt := 84) hx hb d_Opd_withPlace_77 (by decide) (fun h_1 => ?_) (fun h_1 => ?_)
  · have h_1n := mx_fNe (a := ix) (b := 0) (by omega) (by omega) h_1
    refine lv_aload_n hx hb d_Opd_withPlace_84 rfl (lv_at hl 1 rfl) ?_
    refine va_get (D := K.1) (ci := 7) (v := .ref ov) (C := R_Opd) (T := T_Opd) (N := 6) hx hb hT in_Opd hown hK hP 0 rfl rfl 4 (by decide) (hT _ k_80) (fun _ h9 => h9) rfl d_Opd_withPlace_85 ?_
    refine lv_iconst (v := 0) hx hb d_Opd_withPlace_88 (by decide) ?_
    refine va_lald hx hb hK hP 1 0 rfl rfl (i := 0) (vp_in_nI (n := 0) (N := 3) (by decide) (by decide)) d_Opd_withPlace_89 ?_
    refine lv_topl (fun z_2 ez_2 => ?_)
    exact s_Opd_withPlace_b90 od b0 ix b2 b3 o1w ov oz fo fq o1g o1y o1c ho1 ho2 ho3 hix F hr hlk hRf hRl v6 vs0 z_2 vs0 _ _ _ (by first | assumption | omega | exact mx_ch_0) (by first | assumption | omega | exact mx_ch_0) (by first | assumption | omega | exact mx_ch_0) (lv_sub hl [1, 2, 3, 4, 5, 6, 0] rfl) hP hD hS
  · have h_1n := mx_fEq (a := ix) (b := 0) (by omega) (by omega) h_1
    refine lv_lconst (v := 0) hx hb d_Opd_withPlace_80 (by decide) ?_
    refine lv_goto (tgt := 90) hx hb d_Opd_withPlace_81 (by decide) ?_
    exact s_Opd_withPlace_b90 od b0 ix b2 b3 o1w ov oz fo fq o1g o1y o1c ho1 ho2 ho3 hix F hr hlk hRf hRl v6 vs0 (0 : Int64) vs0 _ _ _ (by first | assumption | omega | exact mx_ch_0) (by first | assumption | omega | exact mx_ch_0) (by first | assumption | omega | exact mx_ch_0) (lv_sub hl [1, 2, 3, 4, 5, 6, 0] rfl) hP hD hS
set_option maxHeartbeats 4000000 in
set_option maxRecDepth 100000 in
theorem s_Opd_withPlace (l : Launch) (K : mx_K) (od : Nat) (b0 : Int32) (ix : Nat) (b2 : Int64) (b3 : Int32) (o1w : Int32) (ov : Nat) (oz : Nat) (fo : Nat → Int64) (fq : Nat → Int32) (o1g : Nat) (o1y : Nat) (o1c : Nat) (sz : Nat) (ho1 : o1g ≤ 1) (ho2 : o1y ≤ 1) (ho3 : o1c ≤ 2000) (hix : ix ≤ 2) : mx_I l y_Opd_withPlace b_Opd_withPlace 9 .boolean { frames := 2, cells := 0, slots := 0, locals := 45 } K [.ref od, .int b0, .int (nI ix), .long b2, .int b3] [(od, .inr (7, [.int (nI o1g), .int (nI o1y), .int (nI o1c), .int o1w, .ref ov, .ref oz])), (ov, .inl (K.2.1.1, 3, .inr (.inl fo))), (oz, .inl (K.2.1.2.2.2, 3, .inl fq))] sz (fun (r : Int32) (u : va_W) => (r = 0 ∨ r = 1) ∧ (∃ (o2g : Nat) (o2y : Nat) (o2c : Nat) (o2w : Int32) (fo2 : Nat → Int64) (fq2 : Nat → Int32), (o2g ≤ 1) ∧ (o2y ≤ 1) ∧ (o2c ≤ 2000) ∧ u = [(od, .inr (7, [.int (nI o2g), .int (nI o2y), .int (nI o2c), .int o2w, .ref ov, .ref oz])), (ov, .inl (K.2.1.1, 3, .inr (.inl fo2))), (oz, .inl (K.2.1.2.2.2, 3, .inl fq2))])) (fun u : va_W => u) := by
  refine mx_of (by decide) (Nat.le_of_ble_eq_true rfl) ?_
  intro p e s m below meth c A ls H locs hAe F hr hlk hin hsz hP hD hS hl
  rw [hAe]
  have hl : lv_has ls 9 [(0, .ref od), (1, .int b0), (2, .int (nI ix)), (3, .long b2), (5, .int b3)] := hl
  obtain ⟨hx, hb, hml, hown, hT, hK, hN, hE, hA⟩ := id F
  refine lv_aload_n hx hb d_Opd_withPlace_0 rfl (lv_at hl 0 rfl) ?_
  refine va_get (D := K.1) (ci := 7) (v := .ref ov) (C := R_Opd) (T := T_Opd) (N := 6) hx hb hT in_Opd hown hK hP 0 rfl rfl 4 (by decide) (hT _ k_80) (fun _ h9 => h9) rfl d_Opd_withPlace_1 ?_
  refine lv_iload_n hx hb d_Opd_withPlace_4 rfl (lv_at hl 2 rfl) ?_
  refine va_lald hx hb hK hP 1 0 rfl rfl (i := nI ix) (vp_in_nI (n := ix) (N := 3) (by omega) (by decide)) d_Opd_withPlace_5 ?_
  refine lv_topl (fun z_1 ez_1 => ?_)
  refine lv_lload_n hx hb d_Opd_withPlace_6 rfl (lv_at hl 3 rfl) ?_
  refine lv_lsub hx hb d_Opd_withPlace_7 ?_
  refine lv_iconst (v := 2) hx hb d_Opd_withPlace_8 (by decide) ?_
  refine lv_lshr (v := (z_1 - b2) >>> ((2 : Int32).toInt64 &&& 63)) hx hb d_Opd_withPlace_9 rfl ?_
  refine lv_topl (fun z_2 ez_2 => ?_)
  refine lv_lstore (lv' := [(6, .long z_2), (0, .ref od), (1, .int b0), (2, .int (nI ix)), (3, .long b2), (5, .int b3)]) hx hb d_Opd_withPlace_10 hl (by decide) rfl (fun ls hl => ?_)
  refine lv_aload_n hx hb d_Opd_withPlace_12 rfl (lv_at hl 1 rfl) ?_
  refine va_get (D := K.1) (ci := 7) (v := .ref oz) (C := R_Opd) (T := T_Opd) (N := 6) hx hb hT in_Opd hown hK hP 0 rfl rfl 5 (by decide) (hT _ k_82) (fun _ h9 => h9) rfl d_Opd_withPlace_13 ?_
  refine lv_iload_n hx hb d_Opd_withPlace_16 rfl (lv_at hl 3 rfl) ?_
  refine va_zald hx hb hK hP 2 3 rfl rfl (i := nI ix) (vp_in_nI (n := ix) (N := 3) (by omega) (by decide)) d_Opd_withPlace_17 ?_
  refine lv_topi (fun z_3 ez_3 => ?_)
  refine lv_if_ne (tgt := 55) hx hb d_Opd_withPlace_18 (by decide) (fun h_4 => ?_) (fun h_4 => ?_)
  · refine lv_iconst (v := 0) hx hb d_Opd_withPlace_55 (by decide) ?_
    exact mx_ri F hr hlk (by decide) hP hD hS [(od, .inr (7, [.int (nI o1g), .int (nI o1y), .int (nI o1c), .int o1w, .ref ov, .ref oz])), (ov, .inl (K.2.1.1, 3, .inr (.inl fo))), (oz, .inl (K.2.1.2.2.2, 3, .inl fq))] [0, 1, 2] rfl (by decide) ⟨(Or.inl rfl), ⟨o1g, o1y, o1c, o1w, fo, fq, (by first | assumption | omega | exact mx_ch_0), (by first | assumption | omega | exact mx_ch_0), (by first | assumption | omega | exact mx_ch_0), rfl⟩⟩ (by decide) (by decide) d_Opd_withPlace_56
  · refine lv_aload_n hx hb d_Opd_withPlace_21 rfl (lv_at hl 1 rfl) ?_
    refine va_get (D := K.1) (ci := 7) (v := .ref ov) (C := R_Opd) (T := T_Opd) (N := 6) hx hb hT in_Opd hown hK hP 0 rfl rfl 4 (by decide) (hT _ k_80) (fun _ h9 => h9) rfl d_Opd_withPlace_22 ?_
    refine lv_iload_n hx hb d_Opd_withPlace_25 rfl (lv_at hl 3 rfl) ?_
    refine va_lald hx hb hK hP 1 0 rfl rfl (i := nI ix) (vp_in_nI (n := ix) (N := 3) (by omega) (by decide)) d_Opd_withPlace_26 ?_
    refine lv_topl (fun z_5 ez_5 => ?_)
    refine lv_ldc2 (v := 3) hx hb hown (hT _ k_667) d_Opd_withPlace_27 ?_
    refine lv_land hx hb d_Opd_withPlace_30 ?_
    refine lv_lconst (v := 0) hx hb d_Opd_withPlace_31 (by decide) ?_
    refine W.lcmp hx hb d_Opd_withPlace_32 ?_
    refine lv_if_ne (tgt := 55) hx hb d_Opd_withPlace_33 (by decide) (fun h_6 => ?_) (fun h_6 => ?_)
    · refine lv_iconst (v := 0) hx hb d_Opd_withPlace_55 (by decide) ?_
      exact mx_ri F hr hlk (by decide) hP hD hS [(od, .inr (7, [.int (nI o1g), .int (nI o1y), .int (nI o1c), .int o1w, .ref ov, .ref oz])), (ov, .inl (K.2.1.1, 3, .inr (.inl fo))), (oz, .inl (K.2.1.2.2.2, 3, .inl fq))] [0, 1, 2] rfl (by decide) ⟨(Or.inl rfl), ⟨o1g, o1y, o1c, o1w, fo, fq, (by first | assumption | omega | exact mx_ch_0), (by first | assumption | omega | exact mx_ch_0), (by first | assumption | omega | exact mx_ch_0), rfl⟩⟩ (by decide) (by decide) d_Opd_withPlace_56
    · refine lv_lload hx hb d_Opd_withPlace_36 (lv_at hl 0 rfl) ?_
      refine lv_iload hx hb d_Opd_withPlace_38 (lv_at hl 5 rfl) ?_
      refine lv_ineg hx hb d_Opd_withPlace_40 ?_
      refine lv_i2l (v := (-b3).toInt64) hx hb d_Opd_withPlace_41 rfl ?_
      refine W.lcmp hx hb d_Opd_withPlace_42 ?_
      refine lv_if_lt (tgt := 55) hx hb d_Opd_withPlace_43 (by decide) (fun h_7 => ?_) (fun h_7 => ?_)
      · refine lv_iconst (v := 0) hx hb d_Opd_withPlace_55 (by decide) ?_
        exact mx_ri F hr hlk (by decide) hP hD hS [(od, .inr (7, [.int (nI o1g), .int (nI o1y), .int (nI o1c), .int o1w, .ref ov, .ref oz])), (ov, .inl (K.2.1.1, 3, .inr (.inl fo))), (oz, .inl (K.2.1.2.2.2, 3, .inl fq))] [0, 1, 2] rfl (by decide) ⟨(Or.inl rfl), ⟨o1g, o1y, o1c, o1w, fo, fq, (by first | assumption | omega | exact mx_ch_0), (by first | assumption | omega | exact mx_ch_0), (by first | assumption | omega | exact mx_ch_0), rfl⟩⟩ (by decide) (by decide) d_Opd_withPlace_56
      · refine lv_lload hx hb d_Opd_withPlace_46 (lv_at hl 0 rfl) ?_
        refine lv_iload hx hb d_Opd_withPlace_48 (lv_at hl 5 rfl) ?_
        refine lv_i2l (v := b3.toInt64) hx hb d_Opd_withPlace_50 rfl ?_
        refine W.lcmp hx hb d_Opd_withPlace_51 ?_
        refine lv_if_lt (tgt := 57) hx hb d_Opd_withPlace_52 (by decide) (fun h_8 => ?_) (fun h_8 => ?_)
        · refine lv_lload hx hb d_Opd_withPlace_57 (lv_at hl 0 rfl) ?_
          refine lv_lconst (v := 0) hx hb d_Opd_withPlace_59 (by decide) ?_
          refine W.lcmp hx hb d_Opd_withPlace_60 ?_
          refine lv_if_ge (tgt := 70) hx hb d_Opd_withPlace_61 (by decide) (fun h_9 => ?_) (fun h_9 => ?_)
          · refine lv_iload_n hx hb d_Opd_withPlace_70 rfl (lv_at hl 2 rfl) ?_
            exact s_Opd_withPlace_b71 od b0 ix b2 b3 o1w ov oz fo fq o1g o1y o1c ho1 ho2 ho3 hix F hr hlk (by decide) (by decide) z_2 b0 _ _ _ (by first | assumption | omega | exact mx_ch_0) (by first | assumption | omega | exact mx_ch_0) (by first | assumption | omega | exact mx_ch_0) (lv_sub hl [1, 2, 3, 4, 5, 0] rfl) hP hD hS
          · refine lv_iload_n hx hb d_Opd_withPlace_64 rfl (lv_at hl 2 rfl) ?_
            refine lv_iconst (v := 1) hx hb d_Opd_withPlace_65 (by decide) ?_
            refine lv_iadd hx hb d_Opd_withPlace_66 ?_
            refine lv_goto (tgt := 71) hx hb d_Opd_withPlace_67 (by decide) ?_
            exact s_Opd_withPlace_b71 od b0 ix b2 b3 o1w ov oz fo fq o1g o1y o1c ho1 ho2 ho3 hix F hr hlk (by decide) (by decide) z_2 (b0 + (1 : Int32)) _ _ _ (by first | assumption | omega | exact mx_ch_0) (by first | assumption | omega | exact mx_ch_0) (by first | assumption | omega | exact mx_ch_0) (lv_sub hl [1, 2, 3, 4, 5, 0] rfl) hP hD hS
        · refine lv_iconst (v := 0) hx hb d_Opd_withPlace_55 (by decide) ?_
          exact mx_ri F hr hlk (by decide) hP hD hS [(od, .inr (7, [.int (nI o1g), .int (nI o1y), .int (nI o1c), .int o1w, .ref ov, .ref oz])), (ov, .inl (K.2.1.1, 3, .inr (.inl fo))), (oz, .inl (K.2.1.2.2.2, 3, .inl fq))] [0, 1, 2] rfl (by decide) ⟨(Or.inl rfl), ⟨o1g, o1y, o1c, o1w, fo, fq, (by first | assumption | omega | exact mx_ch_0), (by first | assumption | omega | exact mx_ch_0), (by first | assumption | omega | exact mx_ch_0), rfl⟩⟩ (by decide) (by decide) d_Opd_withPlace_56
set_option maxHeartbeats 4000000 in
set_option maxRecDepth 100000 in
theorem s_Opd_encodeNegation (l : Launch) (K : mx_K) (od : Nat) (b0 : Int32) (o1w : Int32) (ov : Nat) (oz : Nat) (fo : Nat → Int64) (fq : Nat → Int32) (o1g : Nat) (o1y : Nat) (o1c : Nat) (sz : Nat) (ho1 : o1g ≤ 1) (ho2 : o1y ≤ 1) (ho3 : o1c ≤ 2000) : mx_I l y_Opd_encodeNegation b_Opd_encodeNegation 2 .boolean { frames := 3, cells := 0, slots := 0, locals := 71 } K [.ref od, .int b0] [(od, .inr (7, [.int (nI o1g), .int (nI o1y), .int (nI o1c), .int o1w, .ref ov, .ref oz])), (ov, .inl (K.2.1.1, 3, .inr (.inl fo))), (oz, .inl (K.2.1.2.2.2, 3, .inl fq))] sz (fun (r : Int32) (u : va_W) => (r = 0 ∨ r = 1) ∧ (∃ (o2g : Nat) (o2y : Nat) (o2c : Nat) (o2w : Int32) (fo2 : Nat → Int64) (fq2 : Nat → Int32), (o2g ≤ 1) ∧ (o2y ≤ 1) ∧ (o2c ≤ 2000) ∧ u = [(od, .inr (7, [.int (nI o2g), .int (nI o2y), .int (nI o2c), .int o2w, .ref ov, .ref oz])), (ov, .inl (K.2.1.1, 3, .inr (.inl fo2))), (oz, .inl (K.2.1.2.2.2, 3, .inl fq2))])) (fun u : va_W => u) := by
  refine mx_of (by decide) (Nat.le_of_ble_eq_true rfl) ?_
  intro p e s m below meth c A ls H locs hAe F hr hlk hin hsz hP hD hS hl
  rw [hAe]
  have hl : lv_has ls 2 [(0, .ref od), (1, .int b0)] := hl
  obtain ⟨hx, hb, hml, hown, hT, hK, hN, hE, hA⟩ := id F
  refine lv_aload_n hx hb d_Opd_encodeNegation_0 rfl (lv_at hl 0 rfl) ?_
  refine va_get (D := K.1) (ci := 7) (v := .int (nI o1c)) (C := R_Opd) (T := T_Opd) (N := 6) hx hb hT in_Opd hown hK hP 0 rfl rfl 2 (by decide) (hT _ k_88) (fun _ h9 => h9) rfl d_Opd_encodeNegation_1 ?_
  refine lv_iconst (v := 2) hx hb d_Opd_encodeNegation_4 (by decide) ?_
  refine lv_icmp_ne (tgt := 39) hx hb d_Opd_encodeNegation_5 (by decide) (fun h_1 => ?_) (fun h_1 => ?_)
  · have h_1n := mx_fNe (a := o1c) (b := 2) (by omega) (by omega) h_1
    refine lv_aload_n hx hb d_Opd_encodeNegation_39 rfl (lv_at hl 0 rfl) ?_
    refine va_get (D := K.1) (ci := 7) (v := .int (nI o1c)) (C := R_Opd) (T := T_Opd) (N := 6) hx hb hT in_Opd hown hK hP 0 rfl rfl 2 (by decide) (hT _ k_88) (fun _ h9 => h9) rfl d_Opd_encodeNegation_40 ?_
    refine lv_iconst (v := 3) hx hb d_Opd_encodeNegation_43 (by decide) ?_
    refine lv_icmp_ne (tgt := 92) hx hb d_Opd_encodeNegation_44 (by decide) (fun h_2 => ?_) (fun h_2 => ?_)
    · have h_2n := mx_fNe (a := o1c) (b := 3) (by omega) (by omega) h_2
      refine lv_iconst (v := 0) hx hb d_Opd_encodeNegation_92 (by decide) ?_
      exact mx_ri F hr hlk (by decide) hP hD hS [(od, .inr (7, [.int (nI o1g), .int (nI o1y), .int (nI o1c), .int o1w, .ref ov, .ref oz])), (ov, .inl (K.2.1.1, 3, .inr (.inl fo))), (oz, .inl (K.2.1.2.2.2, 3, .inl fq))] [0, 1, 2] rfl (by decide) ⟨(Or.inl rfl), ⟨o1g, o1y, o1c, o1w, fo, fq, (by first | assumption | omega | exact mx_ch_0), (by first | assumption | omega | exact mx_ch_0), (by first | assumption | omega | exact mx_ch_0), rfl⟩⟩ (by decide) (by decide) d_Opd_encodeNegation_93
    · have h_2n := mx_fEq (a := o1c) (b := 3) (by omega) (by omega) h_2
      refine lv_aload_n hx hb d_Opd_encodeNegation_47 rfl (lv_at hl 0 rfl) ?_
      refine va_get (D := K.1) (ci := 7) (v := .ref oz) (C := R_Opd) (T := T_Opd) (N := 6) hx hb hT in_Opd hown hK hP 0 rfl rfl 5 (by decide) (hT _ k_82) (fun _ h9 => h9) rfl d_Opd_encodeNegation_48 ?_
      refine lv_iconst (v := 0) hx hb d_Opd_encodeNegation_51 (by decide) ?_
      refine va_zald hx hb hK hP 2 3 rfl rfl (i := 0) (vp_in_nI (n := 0) (N := 3) (by decide) (by decide)) d_Opd_encodeNegation_52 ?_
      refine lv_topi (fun z_3 ez_3 => ?_)
      refine lv_if_eq (tgt := 92) hx hb d_Opd_encodeNegation_53 (by decide) (fun h_4 => ?_) (fun h_4 => ?_)
      · refine lv_iconst (v := 0) hx hb d_Opd_encodeNegation_92 (by decide) ?_
        exact mx_ri F hr hlk (by decide) hP hD hS [(od, .inr (7, [.int (nI o1g), .int (nI o1y), .int (nI o1c), .int o1w, .ref ov, .ref oz])), (ov, .inl (K.2.1.1, 3, .inr (.inl fo))), (oz, .inl (K.2.1.2.2.2, 3, .inl fq))] [0, 1, 2] rfl (by decide) ⟨(Or.inl rfl), ⟨o1g, o1y, o1c, o1w, fo, fq, (by first | assumption | omega | exact mx_ch_0), (by first | assumption | omega | exact mx_ch_0), (by first | assumption | omega | exact mx_ch_0), rfl⟩⟩ (by decide) (by decide) d_Opd_encodeNegation_93
      · refine lv_aload_n hx hb d_Opd_encodeNegation_56 rfl (lv_at hl 0 rfl) ?_
        refine lv_iconst (v := 1) hx hb d_Opd_encodeNegation_57 (by decide) ?_
        refine lv_sipush (v := 255) hx hb d_Opd_encodeNegation_58 (by decide) ?_
        refine mx_ci (wr := []) F (mx_runV (As := [.int 1, .int 255]) (rest := []) (n := 2) F (s_Opd_isNumber l K od 1 255 o1w ov oz fo fq o1g o1y o1c H.size (by first | assumption | omega | exact mx_ch_0) (by first | assumption | omega | exact mx_ch_0) (by first | assumption | omega | exact mx_ch_0) (by first | assumption | omega | exact mx_ch_0)) k_657 (Or.inl k_654) k_656 sl_Opd_isNumber k_5 p_Opd_isNumber rfl rfl hP hD hS [0, 1, 2] rfl (by decide) (va_recv (q := (R_Opd, T_Opd, 6)) (ci := 7) (q0 := 0) hK hP rfl rfl) rfl hl.1 rfl (Nat.le_of_ble_eq_true rfl) ⟨by decide, by decide⟩ ⟨by decide, by decide⟩ d_Opd_encodeNegation_61) hP hD hS [0, 1, 2] [] rfl rfl (by decide) (by decide) (fun r_7 u_6 H locs hq_5 hP hD hS => ?_)
        obtain ⟨hq_17, w_8, w_9, w_10, w_11, w_12, w_13, hf_14, hf_15, hf_16, rfl⟩ := hq_5
        obtain ⟨rb_18, hrb_18, rfl⟩ := mx_bool hq_17
        have hP : va_P K.1 mx_cl [(od, .inr (7, [.int (nI w_8), .int (nI w_9), .int (nI w_10), .int w_11, .ref ov, .ref oz])), (ov, .inl (K.2.1.1, 3, .inr (.inl w_12))), (oz, .inl (K.2.1.2.2.2, 3, .inl w_13))] H := hP
        have hD : va_D A [(od, .inr (7, [.int (nI w_8), .int (nI w_9), .int (nI w_10), .int w_11, .ref ov, .ref oz])), (ov, .inl (K.2.1.1, 3, .inr (.inl w_12))), (oz, .inl (K.2.1.2.2.2, 3, .inl w_13))] := hD
        refine W.cs (cells' := 0) (slots' := 0) rfl rfl ?_
        refine lv_if_eq (tgt := 92) hx hb d_Opd_encodeNegation_64 (by decide) (fun h_19 => ?_) (fun h_19 => ?_)
        · have h_19n := mx_fEq (a := rb_18) (b := 0) (by omega) (by omega) h_19
          refine lv_iconst (v := 0) hx hb d_Opd_encodeNegation_92 (by decide) ?_
          exact mx_ri F hr hlk (by decide) hP hD hS [(od, .inr (7, [.int (nI w_8), .int (nI w_9), .int (nI w_10), .int w_11, .ref ov, .ref oz])), (ov, .inl (K.2.1.1, 3, .inr (.inl w_12))), (oz, .inl (K.2.1.2.2.2, 3, .inl w_13))] [0, 1, 2] rfl (by decide) ⟨(Or.inl rfl), ⟨w_8, w_9, w_10, w_11, w_12, w_13, (by first | assumption | omega | exact mx_ch_0), (by first | assumption | omega | exact mx_ch_0), (by first | assumption | omega | exact mx_ch_0), rfl⟩⟩ (by decide) (by decide) d_Opd_encodeNegation_93
        · have h_19n := mx_fNe (a := rb_18) (b := 0) (by omega) (by omega) h_19
          refine lv_aload_n hx hb d_Opd_encodeNegation_67 rfl (lv_at hl 0 rfl) ?_
          refine lv_iload_n hx hb d_Opd_encodeNegation_68 rfl (lv_at hl 1 rfl) ?_
          refine lv_iconst (v := 2) hx hb d_Opd_encodeNegation_69 (by decide) ?_
          refine lv_aload_n hx hb d_Opd_encodeNegation_70 rfl (lv_at hl 0 rfl) ?_
          refine va_get (D := K.1) (ci := 7) (v := .ref ov) (C := R_Opd) (T := T_Opd) (N := 6) hx hb hT in_Opd hown hK hP 0 rfl rfl 4 (by decide) (hT _ k_80) (fun _ h9 => h9) rfl d_Opd_encodeNegation_71 ?_
          refine lv_iconst (v := 0) hx hb d_Opd_encodeNegation_74 (by decide) ?_
          refine va_lald hx hb hK hP 1 0 rfl rfl (i := 0) (vp_in_nI (n := 0) (N := 3) (by decide) (by decide)) d_Opd_encodeNegation_75 ?_
          refine lv_topl (fun z_20 ez_20 => ?_)
          refine lv_aload_n hx hb d_Opd_encodeNegation_76 rfl (lv_at hl 0 rfl) ?_
          refine va_get (D := K.1) (ci := 7) (v := .ref ov) (C := R_Opd) (T := T_Opd) (N := 6) hx hb hT in_Opd hown hK hP 0 rfl rfl 4 (by decide) (hT _ k_80) (fun _ h9 => h9) rfl d_Opd_encodeNegation_77 ?_
          refine lv_iconst (v := 1) hx hb d_Opd_encodeNegation_80 (by decide) ?_
          refine va_lald hx hb hK hP 1 0 rfl rfl (i := 1) (vp_in_nI (n := 1) (N := 3) (by decide) (by decide)) d_Opd_encodeNegation_81 ?_
          refine lv_topl (fun z_21 ez_21 => ?_)
          refine mx_ci (wr := []) F (mx_runV (As := [.int b0, .int 2, .long z_20, .long z_21]) (rest := []) (n := 4) F (s_Opd_withLast l K od b0 2 z_20 z_21 w_11 ov oz w_12 w_13 w_8 w_9 w_10 H.size (by first | assumption | omega | exact mx_ch_0) (by first | assumption | omega | exact mx_ch_0) (by first | assumption | omega | exact mx_ch_0) (by first | assumption | omega | exact mx_ch_0)) k_649 (Or.inl k_646) k_648 sl_Opd_withLast k_5 p_Opd_withLast rfl rfl hP hD hS [0, 1, 2] rfl (by decide) (va_recv (q := (R_Opd, T_Opd, 6)) (ci := 7) (q0 := 0) hK hP rfl rfl) rfl hl.1 rfl (Nat.le_of_ble_eq_true rfl) ⟨by decide, by decide⟩ ⟨by decide, by decide⟩ d_Opd_encodeNegation_82) hP hD hS [0, 1, 2] [] rfl rfl (by decide) (by decide) (fun r_24 u_23 H locs hq_22 hP hD hS => ?_)
          obtain ⟨hq_34, w_25, w_26, w_27, w_28, w_29, w_30, hf_31, hf_32, hf_33, rfl⟩ := hq_22
          obtain ⟨rb_35, hrb_35, rfl⟩ := mx_bool hq_34
          have hP : va_P K.1 mx_cl [(od, .inr (7, [.int (nI w_25), .int (nI w_26), .int (nI w_27), .int w_28, .ref ov, .ref oz])), (ov, .inl (K.2.1.1, 3, .inr (.inl w_29))), (oz, .inl (K.2.1.2.2.2, 3, .inl w_30))] H := hP
          have hD : va_D A [(od, .inr (7, [.int (nI w_25), .int (nI w_26), .int (nI w_27), .int w_28, .ref ov, .ref oz])), (ov, .inl (K.2.1.1, 3, .inr (.inl w_29))), (oz, .inl (K.2.1.2.2.2, 3, .inl w_30))] := hD
          refine W.cs (cells' := 0) (slots' := 0) rfl rfl ?_
          refine lv_if_eq (tgt := 92) hx hb d_Opd_encodeNegation_85 (by decide) (fun h_36 => ?_) (fun h_36 => ?_)
          · have h_36n := mx_fEq (a := rb_35) (b := 0) (by omega) (by omega) h_36
            refine lv_iconst (v := 0) hx hb d_Opd_encodeNegation_92 (by decide) ?_
            exact mx_ri F hr hlk (by decide) hP hD hS [(od, .inr (7, [.int (nI w_25), .int (nI w_26), .int (nI w_27), .int w_28, .ref ov, .ref oz])), (ov, .inl (K.2.1.1, 3, .inr (.inl w_29))), (oz, .inl (K.2.1.2.2.2, 3, .inl w_30))] [0, 1, 2] rfl (by decide) ⟨(Or.inl rfl), ⟨w_25, w_26, w_27, w_28, w_29, w_30, (by first | assumption | omega | exact mx_ch_0), (by first | assumption | omega | exact mx_ch_0), (by first | assumption | omega | exact mx_ch_0), rfl⟩⟩ (by decide) (by decide) d_Opd_encodeNegation_93
          · have h_36n := mx_fNe (a := rb_35) (b := 0) (by omega) (by omega) h_36
            refine lv_iconst (v := 1) hx hb d_Opd_encodeNegation_88 (by decide) ?_
            refine lv_goto (tgt := 93) hx hb d_Opd_encodeNegation_89 (by decide) ?_
            exact mx_ri F hr hlk (by decide) hP hD hS [(od, .inr (7, [.int (nI w_25), .int (nI w_26), .int (nI w_27), .int w_28, .ref ov, .ref oz])), (ov, .inl (K.2.1.1, 3, .inr (.inl w_29))), (oz, .inl (K.2.1.2.2.2, 3, .inl w_30))] [0, 1, 2] rfl (by decide) ⟨(Or.inr rfl), ⟨w_25, w_26, w_27, w_28, w_29, w_30, (by first | assumption | omega | exact mx_ch_0), (by first | assumption | omega | exact mx_ch_0), (by first | assumption | omega | exact mx_ch_0), rfl⟩⟩ (by decide) (by decide) d_Opd_encodeNegation_93
  · have h_1n := mx_fEq (a := o1c) (b := 2) (by omega) (by omega) h_1
    refine lv_aload_n hx hb d_Opd_encodeNegation_8 rfl (lv_at hl 0 rfl) ?_
    refine va_get (D := K.1) (ci := 7) (v := .ref oz) (C := R_Opd) (T := T_Opd) (N := 6) hx hb hT in_Opd hown hK hP 0 rfl rfl 5 (by decide) (hT _ k_82) (fun _ h9 => h9) rfl d_Opd_encodeNegation_9 ?_
    refine lv_iconst (v := 0) hx hb d_Opd_encodeNegation_12 (by decide) ?_
    refine va_zald hx hb hK hP 2 3 rfl rfl (i := 0) (vp_in_nI (n := 0) (N := 3) (by decide) (by decide)) d_Opd_encodeNegation_13 ?_
    refine lv_topi (fun z_37 ez_37 => ?_)
    refine lv_if_eq (tgt := 37) hx hb d_Opd_encodeNegation_14 (by decide) (fun h_38 => ?_) (fun h_38 => ?_)
    · refine lv_iconst (v := 0) hx hb d_Opd_encodeNegation_37 (by decide) ?_
      exact mx_ri F hr hlk (by decide) hP hD hS [(od, .inr (7, [.int (nI o1g), .int (nI o1y), .int (nI o1c), .int o1w, .ref ov, .ref oz])), (ov, .inl (K.2.1.1, 3, .inr (.inl fo))), (oz, .inl (K.2.1.2.2.2, 3, .inl fq))] [0, 1, 2] rfl (by decide) ⟨(Or.inl rfl), ⟨o1g, o1y, o1c, o1w, fo, fq, (by first | assumption | omega | exact mx_ch_0), (by first | assumption | omega | exact mx_ch_0), (by first | assumption | omega | exact mx_ch_0), rfl⟩⟩ (by decide) (by decide) d_Opd_encodeNegation_38
    · refine lv_aload_n hx hb d_Opd_encodeNegation_17 rfl (lv_at hl 0 rfl) ?_
      refine lv_iload_n hx hb d_Opd_encodeNegation_18 rfl (lv_at hl 1 rfl) ?_
      refine lv_iconst (v := 1) hx hb d_Opd_encodeNegation_19 (by decide) ?_
      refine lv_aload_n hx hb d_Opd_encodeNegation_20 rfl (lv_at hl 0 rfl) ?_
      refine va_get (D := K.1) (ci := 7) (v := .ref ov) (C := R_Opd) (T := T_Opd) (N := 6) hx hb hT in_Opd hown hK hP 0 rfl rfl 4 (by decide) (hT _ k_80) (fun _ h9 => h9) rfl d_Opd_encodeNegation_21 ?_
      refine lv_iconst (v := 0) hx hb d_Opd_encodeNegation_24 (by decide) ?_
      refine va_lald hx hb hK hP 1 0 rfl rfl (i := 0) (vp_in_nI (n := 0) (N := 3) (by decide) (by decide)) d_Opd_encodeNegation_25 ?_
      refine lv_topl (fun z_39 ez_39 => ?_)
      refine lv_lconst (v := 0) hx hb d_Opd_encodeNegation_26 (by decide) ?_
      refine mx_ci (wr := []) F (mx_runV (As := [.int b0, .int 1, .long z_39, .long 0]) (rest := []) (n := 4) F (s_Opd_withLast l K od b0 1 z_39 0 o1w ov oz fo fq o1g o1y o1c H.size (by first | assumption | omega | exact mx_ch_0) (by first | assumption | omega | exact mx_ch_0) (by first | assumption | omega | exact mx_ch_0) (by first | assumption | omega | exact mx_ch_0)) k_649 (Or.inl k_646) k_648 sl_Opd_withLast k_5 p_Opd_withLast rfl rfl hP hD hS [0, 1, 2] rfl (by decide) (va_recv (q := (R_Opd, T_Opd, 6)) (ci := 7) (q0 := 0) hK hP rfl rfl) rfl hl.1 rfl (Nat.le_of_ble_eq_true rfl) ⟨by decide, by decide⟩ ⟨by decide, by decide⟩ d_Opd_encodeNegation_27) hP hD hS [0, 1, 2] [] rfl rfl (by decide) (by decide) (fun r_42 u_41 H locs hq_40 hP hD hS => ?_)
      obtain ⟨hq_52, w_43, w_44, w_45, w_46, w_47, w_48, hf_49, hf_50, hf_51, rfl⟩ := hq_40
      obtain ⟨rb_53, hrb_53, rfl⟩ := mx_bool hq_52
      have hP : va_P K.1 mx_cl [(od, .inr (7, [.int (nI w_43), .int (nI w_44), .int (nI w_45), .int w_46, .ref ov, .ref oz])), (ov, .inl (K.2.1.1, 3, .inr (.inl w_47))), (oz, .inl (K.2.1.2.2.2, 3, .inl w_48))] H := hP
      have hD : va_D A [(od, .inr (7, [.int (nI w_43), .int (nI w_44), .int (nI w_45), .int w_46, .ref ov, .ref oz])), (ov, .inl (K.2.1.1, 3, .inr (.inl w_47))), (oz, .inl (K.2.1.2.2.2, 3, .inl w_48))] := hD
      refine W.cs (cells' := 0) (slots' := 0) rfl rfl ?_
      refine lv_if_eq (tgt := 37) hx hb d_Opd_encodeNegation_30 (by decide) (fun h_54 => ?_) (fun h_54 => ?_)
      · have h_54n := mx_fEq (a := rb_53) (b := 0) (by omega) (by omega) h_54
        refine lv_iconst (v := 0) hx hb d_Opd_encodeNegation_37 (by decide) ?_
        exact mx_ri F hr hlk (by decide) hP hD hS [(od, .inr (7, [.int (nI w_43), .int (nI w_44), .int (nI w_45), .int w_46, .ref ov, .ref oz])), (ov, .inl (K.2.1.1, 3, .inr (.inl w_47))), (oz, .inl (K.2.1.2.2.2, 3, .inl w_48))] [0, 1, 2] rfl (by decide) ⟨(Or.inl rfl), ⟨w_43, w_44, w_45, w_46, w_47, w_48, (by first | assumption | omega | exact mx_ch_0), (by first | assumption | omega | exact mx_ch_0), (by first | assumption | omega | exact mx_ch_0), rfl⟩⟩ (by decide) (by decide) d_Opd_encodeNegation_38
      · have h_54n := mx_fNe (a := rb_53) (b := 0) (by omega) (by omega) h_54
        refine lv_iconst (v := 1) hx hb d_Opd_encodeNegation_33 (by decide) ?_
        refine lv_goto (tgt := 38) hx hb d_Opd_encodeNegation_34 (by decide) ?_
        exact mx_ri F hr hlk (by decide) hP hD hS [(od, .inr (7, [.int (nI w_43), .int (nI w_44), .int (nI w_45), .int w_46, .ref ov, .ref oz])), (ov, .inl (K.2.1.1, 3, .inr (.inl w_47))), (oz, .inl (K.2.1.2.2.2, 3, .inl w_48))] [0, 1, 2] rfl (by decide) ⟨(Or.inr rfl), ⟨w_43, w_44, w_45, w_46, w_47, w_48, (by first | assumption | omega | exact mx_ch_0), (by first | assumption | omega | exact mx_ch_0), (by first | assumption | omega | exact mx_ch_0), rfl⟩⟩ (by decide) (by decide) d_Opd_encodeNegation_38
set_option maxHeartbeats 4000000 in
set_option maxRecDepth 100000 in
theorem s_Opd_encodeBytes (l : Launch) (K : mx_K) (od : Nat) (b0 : Int32) (o1w : Int32) (ov : Nat) (oz : Nat) (fo : Nat → Int64) (fq : Nat → Int32) (o1g : Nat) (o1y : Nat) (o1c : Nat) (sz : Nat) (ho1 : o1g ≤ 1) (ho2 : o1y ≤ 1) (ho3 : o1c ≤ 2000) : mx_I l y_Opd_encodeBytes b_Opd_encodeBytes 2 .boolean { frames := 2, cells := 0, slots := 0, locals := 45 } K [.ref od, .int b0] [(od, .inr (7, [.int (nI o1g), .int (nI o1y), .int (nI o1c), .int o1w, .ref ov, .ref oz])), (ov, .inl (K.2.1.1, 3, .inr (.inl fo))), (oz, .inl (K.2.1.2.2.2, 3, .inl fq))] sz (fun (r : Int32) (u : va_W) => (r = 0 ∨ r = 1) ∧ (∃ (o2g : Nat) (o2y : Nat) (o2c : Nat) (o2w : Int32) (fo2 : Nat → Int64) (fq2 : Nat → Int32), (o2g ≤ 1) ∧ (o2y ≤ 1) ∧ (o2c ≤ 2000) ∧ u = [(od, .inr (7, [.int (nI o2g), .int (nI o2y), .int (nI o2c), .int o2w, .ref ov, .ref oz])), (ov, .inl (K.2.1.1, 3, .inr (.inl fo2))), (oz, .inl (K.2.1.2.2.2, 3, .inl fq2))])) (fun u : va_W => u) := by
  refine mx_of (by decide) (Nat.le_of_ble_eq_true rfl) ?_
  intro p e s m below meth c A ls H locs hAe F hr hlk hin hsz hP hD hS hl
  rw [hAe]
  have hl : lv_has ls 2 [(0, .ref od), (1, .int b0)] := hl
  obtain ⟨hx, hb, hml, hown, hT, hK, hN, hE, hA⟩ := id F
  refine lv_aload_n hx hb d_Opd_encodeBytes_0 rfl (lv_at hl 0 rfl) ?_
  refine va_get (D := K.1) (ci := 7) (v := .int (nI o1c)) (C := R_Opd) (T := T_Opd) (N := 6) hx hb hT in_Opd hown hK hP 0 rfl rfl 2 (by decide) (hT _ k_88) (fun _ h9 => h9) rfl d_Opd_encodeBytes_1 ?_
  refine lv_iconst (v := 3) hx hb d_Opd_encodeBytes_4 (by decide) ?_
  refine lv_icmp_gt (tgt := 75) hx hb d_Opd_encodeBytes_5 (by decide) (fun h_1 => ?_) (fun h_1 => ?_)
  · have h_1n := mx_fLt (a := 3) (b := o1c) (by omega) (by omega) h_1
    refine lv_iconst (v := 0) hx hb d_Opd_encodeBytes_75 (by decide) ?_
    exact mx_ri F hr hlk (by decide) hP hD hS [(od, .inr (7, [.int (nI o1g), .int (nI o1y), .int (nI o1c), .int o1w, .ref ov, .ref oz])), (ov, .inl (K.2.1.1, 3, .inr (.inl fo))), (oz, .inl (K.2.1.2.2.2, 3, .inl fq))] [0, 1, 2] rfl (by decide) ⟨(Or.inl rfl), ⟨o1g, o1y, o1c, o1w, fo, fq, (by first | assumption | omega | exact mx_ch_0), (by first | assumption | omega | exact mx_ch_0), (by first | assumption | omega | exact mx_ch_0), rfl⟩⟩ (by decide) (by decide) d_Opd_encodeBytes_76
  · have h_1n := mx_fNlt (a := 3) (b := o1c) (by omega) (by omega) h_1
    refine lv_aload_n hx hb d_Opd_encodeBytes_8 rfl (lv_at hl 0 rfl) ?_
    refine lv_iconst (v := 0) hx hb d_Opd_encodeBytes_9 (by decide) ?_
    refine lv_sipush (v := 255) hx hb d_Opd_encodeBytes_10 (by decide) ?_
    refine mx_ci (wr := []) F (mx_runV (As := [.int 0, .int 255]) (rest := []) (n := 2) F (s_Opd_isNumber l K od 0 255 o1w ov oz fo fq o1g o1y o1c H.size (by first | assumption | omega | exact mx_ch_0) (by first | assumption | omega | exact mx_ch_0) (by first | assumption | omega | exact mx_ch_0) (by first | assumption | omega | exact mx_ch_0)) k_657 (Or.inl k_654) k_656 sl_Opd_isNumber k_5 p_Opd_isNumber rfl rfl hP hD hS [0, 1, 2] rfl (by decide) (va_recv (q := (R_Opd, T_Opd, 6)) (ci := 7) (q0 := 0) hK hP rfl rfl) rfl hl.1 rfl (Nat.le_of_ble_eq_true rfl) ⟨by decide, by decide⟩ ⟨by decide, by decide⟩ d_Opd_encodeBytes_13) hP hD hS [0, 1, 2] [] rfl rfl (by decide) (by decide) (fun r_4 u_3 H locs hq_2 hP hD hS => ?_)
    obtain ⟨hq_14, w_5, w_6, w_7, w_8, w_9, w_10, hf_11, hf_12, hf_13, rfl⟩ := hq_2
    obtain ⟨rb_15, hrb_15, rfl⟩ := mx_bool hq_14
    have hP : va_P K.1 mx_cl [(od, .inr (7, [.int (nI w_5), .int (nI w_6), .int (nI w_7), .int w_8, .ref ov, .ref oz])), (ov, .inl (K.2.1.1, 3, .inr (.inl w_9))), (oz, .inl (K.2.1.2.2.2, 3, .inl w_10))] H := hP
    have hD : va_D A [(od, .inr (7, [.int (nI w_5), .int (nI w_6), .int (nI w_7), .int w_8, .ref ov, .ref oz])), (ov, .inl (K.2.1.1, 3, .inr (.inl w_9))), (oz, .inl (K.2.1.2.2.2, 3, .inl w_10))] := hD
    refine W.cs (cells' := 0) (slots' := 0) rfl rfl ?_
    refine lv_if_eq (tgt := 75) hx hb d_Opd_encodeBytes_16 (by decide) (fun h_16 => ?_) (fun h_16 => ?_)
    · have h_16n := mx_fEq (a := rb_15) (b := 0) (by omega) (by omega) h_16
      refine lv_iconst (v := 0) hx hb d_Opd_encodeBytes_75 (by decide) ?_
      exact mx_ri F hr hlk (by decide) hP hD hS [(od, .inr (7, [.int (nI w_5), .int (nI w_6), .int (nI w_7), .int w_8, .ref ov, .ref oz])), (ov, .inl (K.2.1.1, 3, .inr (.inl w_9))), (oz, .inl (K.2.1.2.2.2, 3, .inl w_10))] [0, 1, 2] rfl (by decide) ⟨(Or.inl rfl), ⟨w_5, w_6, w_7, w_8, w_9, w_10, (by first | assumption | omega | exact mx_ch_0), (by first | assumption | omega | exact mx_ch_0), (by first | assumption | omega | exact mx_ch_0), rfl⟩⟩ (by decide) (by decide) d_Opd_encodeBytes_76
    · have h_16n := mx_fNe (a := rb_15) (b := 0) (by omega) (by omega) h_16
      refine lv_aload_n hx hb d_Opd_encodeBytes_19 rfl (lv_at hl 0 rfl) ?_
      refine lv_iconst (v := 1) hx hb d_Opd_encodeBytes_20 (by decide) ?_
      refine lv_sipush (v := 255) hx hb d_Opd_encodeBytes_21 (by decide) ?_
      refine mx_ci (wr := []) F (mx_runV (As := [.int 1, .int 255]) (rest := []) (n := 2) F (s_Opd_isNumber l K od 1 255 w_8 ov oz w_9 w_10 w_5 w_6 w_7 H.size (by first | assumption | omega | exact mx_ch_0) (by first | assumption | omega | exact mx_ch_0) (by first | assumption | omega | exact mx_ch_0) (by first | assumption | omega | exact mx_ch_0)) k_657 (Or.inl k_654) k_656 sl_Opd_isNumber k_5 p_Opd_isNumber rfl rfl hP hD hS [0, 1, 2] rfl (by decide) (va_recv (q := (R_Opd, T_Opd, 6)) (ci := 7) (q0 := 0) hK hP rfl rfl) rfl hl.1 rfl (Nat.le_of_ble_eq_true rfl) ⟨by decide, by decide⟩ ⟨by decide, by decide⟩ d_Opd_encodeBytes_24) hP hD hS [0, 1, 2] [] rfl rfl (by decide) (by decide) (fun r_19 u_18 H locs hq_17 hP hD hS => ?_)
      obtain ⟨hq_29, w_20, w_21, w_22, w_23, w_24, w_25, hf_26, hf_27, hf_28, rfl⟩ := hq_17
      obtain ⟨rb_30, hrb_30, rfl⟩ := mx_bool hq_29
      have hP : va_P K.1 mx_cl [(od, .inr (7, [.int (nI w_20), .int (nI w_21), .int (nI w_22), .int w_23, .ref ov, .ref oz])), (ov, .inl (K.2.1.1, 3, .inr (.inl w_24))), (oz, .inl (K.2.1.2.2.2, 3, .inl w_25))] H := hP
      have hD : va_D A [(od, .inr (7, [.int (nI w_20), .int (nI w_21), .int (nI w_22), .int w_23, .ref ov, .ref oz])), (ov, .inl (K.2.1.1, 3, .inr (.inl w_24))), (oz, .inl (K.2.1.2.2.2, 3, .inl w_25))] := hD
      refine W.cs (cells' := 0) (slots' := 0) rfl rfl ?_
      refine lv_if_eq (tgt := 75) hx hb d_Opd_encodeBytes_27 (by decide) (fun h_31 => ?_) (fun h_31 => ?_)
      · have h_31n := mx_fEq (a := rb_30) (b := 0) (by omega) (by omega) h_31
        refine lv_iconst (v := 0) hx hb d_Opd_encodeBytes_75 (by decide) ?_
        exact mx_ri F hr hlk (by decide) hP hD hS [(od, .inr (7, [.int (nI w_20), .int (nI w_21), .int (nI w_22), .int w_23, .ref ov, .ref oz])), (ov, .inl (K.2.1.1, 3, .inr (.inl w_24))), (oz, .inl (K.2.1.2.2.2, 3, .inl w_25))] [0, 1, 2] rfl (by decide) ⟨(Or.inl rfl), ⟨w_20, w_21, w_22, w_23, w_24, w_25, (by first | assumption | omega | exact mx_ch_0), (by first | assumption | omega | exact mx_ch_0), (by first | assumption | omega | exact mx_ch_0), rfl⟩⟩ (by decide) (by decide) d_Opd_encodeBytes_76
      · have h_31n := mx_fNe (a := rb_30) (b := 0) (by omega) (by omega) h_31
        refine lv_aload_n hx hb d_Opd_encodeBytes_30 rfl (lv_at hl 0 rfl) ?_
        refine lv_iconst (v := 2) hx hb d_Opd_encodeBytes_31 (by decide) ?_
        refine lv_sipush (v := 255) hx hb d_Opd_encodeBytes_32 (by decide) ?_
        refine mx_ci (wr := []) F (mx_runV (As := [.int 2, .int 255]) (rest := []) (n := 2) F (s_Opd_isNumber l K od 2 255 w_23 ov oz w_24 w_25 w_20 w_21 w_22 H.size (by first | assumption | omega | exact mx_ch_0) (by first | assumption | omega | exact mx_ch_0) (by first | assumption | omega | exact mx_ch_0) (by first | assumption | omega | exact mx_ch_0)) k_657 (Or.inl k_654) k_656 sl_Opd_isNumber k_5 p_Opd_isNumber rfl rfl hP hD hS [0, 1, 2] rfl (by decide) (va_recv (q := (R_Opd, T_Opd, 6)) (ci := 7) (q0 := 0) hK hP rfl rfl) rfl hl.1 rfl (Nat.le_of_ble_eq_true rfl) ⟨by decide, by decide⟩ ⟨by decide, by decide⟩ d_Opd_encodeBytes_35) hP hD hS [0, 1, 2] [] rfl rfl (by decide) (by decide) (fun r_34 u_33 H locs hq_32 hP hD hS => ?_)
        obtain ⟨hq_44, w_35, w_36, w_37, w_38, w_39, w_40, hf_41, hf_42, hf_43, rfl⟩ := hq_32
        obtain ⟨rb_45, hrb_45, rfl⟩ := mx_bool hq_44
        have hP : va_P K.1 mx_cl [(od, .inr (7, [.int (nI w_35), .int (nI w_36), .int (nI w_37), .int w_38, .ref ov, .ref oz])), (ov, .inl (K.2.1.1, 3, .inr (.inl w_39))), (oz, .inl (K.2.1.2.2.2, 3, .inl w_40))] H := hP
        have hD : va_D A [(od, .inr (7, [.int (nI w_35), .int (nI w_36), .int (nI w_37), .int w_38, .ref ov, .ref oz])), (ov, .inl (K.2.1.1, 3, .inr (.inl w_39))), (oz, .inl (K.2.1.2.2.2, 3, .inl w_40))] := hD
        refine W.cs (cells' := 0) (slots' := 0) rfl rfl ?_
        refine lv_if_eq (tgt := 75) hx hb d_Opd_encodeBytes_38 (by decide) (fun h_46 => ?_) (fun h_46 => ?_)
        · have h_46n := mx_fEq (a := rb_45) (b := 0) (by omega) (by omega) h_46
          refine lv_iconst (v := 0) hx hb d_Opd_encodeBytes_75 (by decide) ?_
          exact mx_ri F hr hlk (by decide) hP hD hS [(od, .inr (7, [.int (nI w_35), .int (nI w_36), .int (nI w_37), .int w_38, .ref ov, .ref oz])), (ov, .inl (K.2.1.1, 3, .inr (.inl w_39))), (oz, .inl (K.2.1.2.2.2, 3, .inl w_40))] [0, 1, 2] rfl (by decide) ⟨(Or.inl rfl), ⟨w_35, w_36, w_37, w_38, w_39, w_40, (by first | assumption | omega | exact mx_ch_0), (by first | assumption | omega | exact mx_ch_0), (by first | assumption | omega | exact mx_ch_0), rfl⟩⟩ (by decide) (by decide) d_Opd_encodeBytes_76
        · have h_46n := mx_fNe (a := rb_45) (b := 0) (by omega) (by omega) h_46
          refine lv_aload_n hx hb d_Opd_encodeBytes_41 rfl (lv_at hl 0 rfl) ?_
          refine lv_iload_n hx hb d_Opd_encodeBytes_42 rfl (lv_at hl 1 rfl) ?_
          refine lv_aload_n hx hb d_Opd_encodeBytes_43 rfl (lv_at hl 0 rfl) ?_
          refine va_get (D := K.1) (ci := 7) (v := .ref ov) (C := R_Opd) (T := T_Opd) (N := 6) hx hb hT in_Opd hown hK hP 0 rfl rfl 4 (by decide) (hT _ k_80) (fun _ h9 => h9) rfl d_Opd_encodeBytes_44 ?_
          refine lv_iconst (v := 0) hx hb d_Opd_encodeBytes_47 (by decide) ?_
          refine va_lald hx hb hK hP 1 0 rfl rfl (i := 0) (vp_in_nI (n := 0) (N := 3) (by decide) (by decide)) d_Opd_encodeBytes_48 ?_
          refine lv_topl (fun z_47 ez_47 => ?_)
          refine lv_aload_n hx hb d_Opd_encodeBytes_49 rfl (lv_at hl 0 rfl) ?_
          refine va_get (D := K.1) (ci := 7) (v := .ref ov) (C := R_Opd) (T := T_Opd) (N := 6) hx hb hT in_Opd hown hK hP 0 rfl rfl 4 (by decide) (hT _ k_80) (fun _ h9 => h9) rfl d_Opd_encodeBytes_50 ?_
          refine lv_iconst (v := 1) hx hb d_Opd_encodeBytes_53 (by decide) ?_
          refine va_lald hx hb hK hP 1 0 rfl rfl (i := 1) (vp_in_nI (n := 1) (N := 3) (by decide) (by decide)) d_Opd_encodeBytes_54 ?_
          refine lv_topl (fun z_48 ez_48 => ?_)
          refine lv_bipush (v := 8) hx hb d_Opd_encodeBytes_55 (by decide) ?_
          refine lv_lshl (v := z_48 <<< ((8 : Int32).toInt64 &&& 63)) hx hb d_Opd_encodeBytes_57 rfl ?_
          refine lv_aload_n hx hb d_Opd_encodeBytes_58 rfl (lv_at hl 0 rfl) ?_
          refine va_get (D := K.1) (ci := 7) (v := .ref ov) (C := R_Opd) (T := T_Opd) (N := 6) hx hb hT in_Opd hown hK hP 0 rfl rfl 4 (by decide) (hT _ k_80) (fun _ h9 => h9) rfl d_Opd_encodeBytes_59 ?_
          refine lv_iconst (v := 2) hx hb d_Opd_encodeBytes_62 (by decide) ?_
          refine va_lald hx hb hK hP 1 0 rfl rfl (i := 2) (vp_in_nI (n := 2) (N := 3) (by decide) (by decide)) d_Opd_encodeBytes_63 ?_
          refine lv_topl (fun z_49 ez_49 => ?_)
          refine lv_lor hx hb d_Opd_encodeBytes_64 ?_
          refine mx_ci (wr := []) F (mx_runV (As := [.int b0, .long z_47, .long ((z_48 <<< ((8 : Int32).toInt64 &&& 63)) ||| z_49)]) (rest := []) (n := 3) F (s_Opd_make l K od b0 z_47 ((z_48 <<< ((8 : Int32).toInt64 &&& 63)) ||| z_49) w_38 ov oz w_39 w_40 w_35 w_36 w_37 H.size (by first | assumption | omega | exact mx_ch_0) (by first | assumption | omega | exact mx_ch_0) (by first | assumption | omega | exact mx_ch_0)) k_653 (Or.inl k_650) k_652 sl_Opd_make k_5 p_Opd_make rfl rfl hP hD hS [0, 1, 2] rfl (by decide) (va_recv (q := (R_Opd, T_Opd, 6)) (ci := 7) (q0 := 0) hK hP rfl rfl) rfl hl.1 rfl (Nat.le_of_ble_eq_true rfl) ⟨by decide, by decide⟩ ⟨by decide, by decide⟩ d_Opd_encodeBytes_65) hP hD hS [0, 1, 2] [] rfl rfl (by decide) (by decide) (fun r_52 u_51 H locs hq_50 hP hD hS => ?_)
          obtain ⟨hq_62, w_53, w_54, w_55, w_56, w_57, w_58, hf_59, hf_60, hf_61, rfl⟩ := hq_50
          obtain ⟨rb_63, hrb_63, rfl⟩ := mx_bool hq_62
          have hP : va_P K.1 mx_cl [(od, .inr (7, [.int (nI w_53), .int (nI w_54), .int (nI w_55), .int w_56, .ref ov, .ref oz])), (ov, .inl (K.2.1.1, 3, .inr (.inl w_57))), (oz, .inl (K.2.1.2.2.2, 3, .inl w_58))] H := hP
          have hD : va_D A [(od, .inr (7, [.int (nI w_53), .int (nI w_54), .int (nI w_55), .int w_56, .ref ov, .ref oz])), (ov, .inl (K.2.1.1, 3, .inr (.inl w_57))), (oz, .inl (K.2.1.2.2.2, 3, .inl w_58))] := hD
          refine W.cs (cells' := 0) (slots' := 0) rfl rfl ?_
          refine lv_if_eq (tgt := 75) hx hb d_Opd_encodeBytes_68 (by decide) (fun h_64 => ?_) (fun h_64 => ?_)
          · have h_64n := mx_fEq (a := rb_63) (b := 0) (by omega) (by omega) h_64
            refine lv_iconst (v := 0) hx hb d_Opd_encodeBytes_75 (by decide) ?_
            exact mx_ri F hr hlk (by decide) hP hD hS [(od, .inr (7, [.int (nI w_53), .int (nI w_54), .int (nI w_55), .int w_56, .ref ov, .ref oz])), (ov, .inl (K.2.1.1, 3, .inr (.inl w_57))), (oz, .inl (K.2.1.2.2.2, 3, .inl w_58))] [0, 1, 2] rfl (by decide) ⟨(Or.inl rfl), ⟨w_53, w_54, w_55, w_56, w_57, w_58, (by first | assumption | omega | exact mx_ch_0), (by first | assumption | omega | exact mx_ch_0), (by first | assumption | omega | exact mx_ch_0), rfl⟩⟩ (by decide) (by decide) d_Opd_encodeBytes_76
          · have h_64n := mx_fNe (a := rb_63) (b := 0) (by omega) (by omega) h_64
            refine lv_iconst (v := 1) hx hb d_Opd_encodeBytes_71 (by decide) ?_
            refine lv_goto (tgt := 76) hx hb d_Opd_encodeBytes_72 (by decide) ?_
            exact mx_ri F hr hlk (by decide) hP hD hS [(od, .inr (7, [.int (nI w_53), .int (nI w_54), .int (nI w_55), .int w_56, .ref ov, .ref oz])), (ov, .inl (K.2.1.1, 3, .inr (.inl w_57))), (oz, .inl (K.2.1.2.2.2, 3, .inl w_58))] [0, 1, 2] rfl (by decide) ⟨(Or.inr rfl), ⟨w_53, w_54, w_55, w_56, w_57, w_58, (by first | assumption | omega | exact mx_ch_0), (by first | assumption | omega | exact mx_ch_0), (by first | assumption | omega | exact mx_ch_0), rfl⟩⟩ (by decide) (by decide) d_Opd_encodeBytes_76
set_option maxHeartbeats 4000000 in
set_option maxRecDepth 100000 in
theorem s_Opd_encode (l : Launch) (K : mx_K) (od : Nat) (b0 : Int32) (b1 : Int64) (o1w : Int32) (ov : Nat) (oz : Nat) (fo : Nat → Int64) (fq : Nat → Int32) (o1g : Nat) (o1y : Nat) (o1c : Nat) (sz : Nat) (ho1 : o1g ≤ 1) (ho2 : o1y ≤ 1) (ho3 : o1c ≤ 2000) : mx_I l y_Opd_encode b_Opd_encode 4 .boolean { frames := 4, cells := 0, slots := 0, locals := 92 } K [.ref od, .int b0, .long b1] [(od, .inr (7, [.int (nI o1g), .int (nI o1y), .int (nI o1c), .int o1w, .ref ov, .ref oz])), (ov, .inl (K.2.1.1, 3, .inr (.inl fo))), (oz, .inl (K.2.1.2.2.2, 3, .inl fq))] sz (fun (r : Int32) (u : va_W) => (r = 0 ∨ r = 1) ∧ (∃ (o2g : Nat) (o2y : Nat) (o2c : Nat) (o2w : Int32) (fo2 : Nat → Int64) (fq2 : Nat → Int32), (o2g ≤ 1) ∧ (o2y ≤ 1) ∧ (o2c ≤ 2000) ∧ u = [(od, .inr (7, [.int (nI o2g), .int (nI o2y), .int (nI o2c), .int o2w, .ref ov, .ref oz])), (ov, .inl (K.2.1.1, 3, .inr (.inl fo2))), (oz, .inl (K.2.1.2.2.2, 3, .inl fq2))])) (fun u : va_W => u) := by
  refine mx_of (by decide) (Nat.le_of_ble_eq_true rfl) ?_
  intro p e s m below meth c A ls H locs hAe F hr hlk hin hsz hP hD hS hl
  rw [hAe]
  have hl : lv_has ls 4 [(0, .ref od), (1, .int b0), (2, .long b1)] := hl
  obtain ⟨hx, hb, hml, hown, hT, hK, hN, hE, hA⟩ := id F
  refine lv_iload_n hx hb d_Opd_encode_0 rfl (lv_at hl 1 rfl) ?_
  refine mx_ci (wr := [(od, .inr (7, [.int (nI o1g), .int (nI o1y), .int (nI o1c), .int o1w, .ref ov, .ref oz])), (ov, .inl (K.2.1.1, 3, .inr (.inl fo))), (oz, .inl (K.2.1.2.2.2, 3, .inl fq))]) F (mx_runS (As := [.int b0]) (rest := []) (n := 1) F (s_Opn_kindOf l K b0 H.size) k_645 (Or.inl k_643) k_644 k_8 p_Opn_kindOf rfl rfl hP hD hS [] rfl (by decide)  rfl hl.1 rfl (Nat.le_of_ble_eq_true rfl) ⟨by decide, by decide⟩ ⟨by decide, by decide⟩ d_Opd_encode_1) hP hD hS [] [0, 1, 2] rfl rfl (by decide) (by decide) (fun r_2 _ H locs hq_1 hP hD hS => ?_)
  have hP : va_P K.1 mx_cl [(od, .inr (7, [.int (nI o1g), .int (nI o1y), .int (nI o1c), .int o1w, .ref ov, .ref oz])), (ov, .inl (K.2.1.1, 3, .inr (.inl fo))), (oz, .inl (K.2.1.2.2.2, 3, .inl fq))] H := hP
  have hD : va_D A [(od, .inr (7, [.int (nI o1g), .int (nI o1y), .int (nI o1c), .int o1w, .ref ov, .ref oz])), (ov, .inl (K.2.1.1, 3, .inr (.inl fo))), (oz, .inl (K.2.1.2.2.2, 3, .inl fq))] := hD
  refine W.cs (cells' := 0) (slots' := 0) rfl rfl ?_
  refine lv_topi (fun z_3 ez_3 => ?_)
  by_cases h_4 : z_3 = 0
  · rw [h_4]
    refine lv_tableIn (off := 52) (tgt := 56) hx hb d_Opd_encode_4 (by decide) (by decide) (by decide) (by decide) ?_
    refine lv_aload_n hx hb d_Opd_encode_56 rfl (lv_at hl 0 rfl) ?_
    refine va_get (D := K.1) (ci := 7) (v := .int (nI o1c)) (C := R_Opd) (T := T_Opd) (N := 6) hx hb hT in_Opd hown hK hP 0 rfl rfl 2 (by decide) (hT _ k_88) (fun _ h9 => h9) rfl d_Opd_encode_57 ?_
    refine lv_iconst (v := 3) hx hb d_Opd_encode_60 (by decide) ?_
    refine lv_icmp_ne (tgt := 107) hx hb d_Opd_encode_61 (by decide) (fun h_5 => ?_) (fun h_5 => ?_)
    · have h_5n := mx_fNe (a := o1c) (b := 3) (by omega) (by omega) h_5
      refine lv_iconst (v := 0) hx hb d_Opd_encode_107 (by decide) ?_
      exact mx_ri F hr hlk (by decide) hP hD hS [(od, .inr (7, [.int (nI o1g), .int (nI o1y), .int (nI o1c), .int o1w, .ref ov, .ref oz])), (ov, .inl (K.2.1.1, 3, .inr (.inl fo))), (oz, .inl (K.2.1.2.2.2, 3, .inl fq))] [0, 1, 2] rfl (by decide) ⟨(Or.inl rfl), ⟨o1g, o1y, o1c, o1w, fo, fq, (by first | assumption | omega | exact mx_ch_0), (by first | assumption | omega | exact mx_ch_0), (by first | assumption | omega | exact mx_ch_0), rfl⟩⟩ (by decide) (by decide) d_Opd_encode_108
    · have h_5n := mx_fEq (a := o1c) (b := 3) (by omega) (by omega) h_5
      refine lv_aload_n hx hb d_Opd_encode_64 rfl (lv_at hl 0 rfl) ?_
      refine va_get (D := K.1) (ci := 7) (v := .ref oz) (C := R_Opd) (T := T_Opd) (N := 6) hx hb hT in_Opd hown hK hP 0 rfl rfl 5 (by decide) (hT _ k_82) (fun _ h9 => h9) rfl d_Opd_encode_65 ?_
      refine lv_iconst (v := 0) hx hb d_Opd_encode_68 (by decide) ?_
      refine va_zald hx hb hK hP 2 3 rfl rfl (i := 0) (vp_in_nI (n := 0) (N := 3) (by decide) (by decide)) d_Opd_encode_69 ?_
      refine lv_topi (fun z_6 ez_6 => ?_)
      refine lv_if_eq (tgt := 107) hx hb d_Opd_encode_70 (by decide) (fun h_7 => ?_) (fun h_7 => ?_)
      · refine lv_iconst (v := 0) hx hb d_Opd_encode_107 (by decide) ?_
        exact mx_ri F hr hlk (by decide) hP hD hS [(od, .inr (7, [.int (nI o1g), .int (nI o1y), .int (nI o1c), .int o1w, .ref ov, .ref oz])), (ov, .inl (K.2.1.1, 3, .inr (.inl fo))), (oz, .inl (K.2.1.2.2.2, 3, .inl fq))] [0, 1, 2] rfl (by decide) ⟨(Or.inl rfl), ⟨o1g, o1y, o1c, o1w, fo, fq, (by first | assumption | omega | exact mx_ch_0), (by first | assumption | omega | exact mx_ch_0), (by first | assumption | omega | exact mx_ch_0), rfl⟩⟩ (by decide) (by decide) d_Opd_encode_108
      · refine lv_aload_n hx hb d_Opd_encode_73 rfl (lv_at hl 0 rfl) ?_
        refine va_get (D := K.1) (ci := 7) (v := .ref oz) (C := R_Opd) (T := T_Opd) (N := 6) hx hb hT in_Opd hown hK hP 0 rfl rfl 5 (by decide) (hT _ k_82) (fun _ h9 => h9) rfl d_Opd_encode_74 ?_
        refine lv_iconst (v := 1) hx hb d_Opd_encode_77 (by decide) ?_
        refine va_zald hx hb hK hP 2 3 rfl rfl (i := 1) (vp_in_nI (n := 1) (N := 3) (by decide) (by decide)) d_Opd_encode_78 ?_
        refine lv_topi (fun z_8 ez_8 => ?_)
        refine lv_if_eq (tgt := 107) hx hb d_Opd_encode_79 (by decide) (fun h_9 => ?_) (fun h_9 => ?_)
        · refine lv_iconst (v := 0) hx hb d_Opd_encode_107 (by decide) ?_
          exact mx_ri F hr hlk (by decide) hP hD hS [(od, .inr (7, [.int (nI o1g), .int (nI o1y), .int (nI o1c), .int o1w, .ref ov, .ref oz])), (ov, .inl (K.2.1.1, 3, .inr (.inl fo))), (oz, .inl (K.2.1.2.2.2, 3, .inl fq))] [0, 1, 2] rfl (by decide) ⟨(Or.inl rfl), ⟨o1g, o1y, o1c, o1w, fo, fq, (by first | assumption | omega | exact mx_ch_0), (by first | assumption | omega | exact mx_ch_0), (by first | assumption | omega | exact mx_ch_0), rfl⟩⟩ (by decide) (by decide) d_Opd_encode_108
        · refine lv_aload_n hx hb d_Opd_encode_82 rfl (lv_at hl 0 rfl) ?_
          refine lv_iload_n hx hb d_Opd_encode_83 rfl (lv_at hl 1 rfl) ?_
          refine lv_iconst (v := 2) hx hb d_Opd_encode_84 (by decide) ?_
          refine lv_aload_n hx hb d_Opd_encode_85 rfl (lv_at hl 0 rfl) ?_
          refine va_get (D := K.1) (ci := 7) (v := .ref ov) (C := R_Opd) (T := T_Opd) (N := 6) hx hb hT in_Opd hown hK hP 0 rfl rfl 4 (by decide) (hT _ k_80) (fun _ h9 => h9) rfl d_Opd_encode_86 ?_
          refine lv_iconst (v := 0) hx hb d_Opd_encode_89 (by decide) ?_
          refine va_lald hx hb hK hP 1 0 rfl rfl (i := 0) (vp_in_nI (n := 0) (N := 3) (by decide) (by decide)) d_Opd_encode_90 ?_
          refine lv_topl (fun z_10 ez_10 => ?_)
          refine lv_aload_n hx hb d_Opd_encode_91 rfl (lv_at hl 0 rfl) ?_
          refine va_get (D := K.1) (ci := 7) (v := .ref ov) (C := R_Opd) (T := T_Opd) (N := 6) hx hb hT in_Opd hown hK hP 0 rfl rfl 4 (by decide) (hT _ k_80) (fun _ h9 => h9) rfl d_Opd_encode_92 ?_
          refine lv_iconst (v := 1) hx hb d_Opd_encode_95 (by decide) ?_
          refine va_lald hx hb hK hP 1 0 rfl rfl (i := 1) (vp_in_nI (n := 1) (N := 3) (by decide) (by decide)) d_Opd_encode_96 ?_
          refine lv_topl (fun z_11 ez_11 => ?_)
          refine mx_ci (wr := []) F (mx_runV (As := [.int b0, .int 2, .long z_10, .long z_11]) (rest := []) (n := 4) F (s_Opd_withLast l K od b0 2 z_10 z_11 o1w ov oz fo fq o1g o1y o1c H.size (by first | assumption | omega | exact mx_ch_0) (by first | assumption | omega | exact mx_ch_0) (by first | assumption | omega | exact mx_ch_0) (by first | assumption | omega | exact mx_ch_0)) k_649 (Or.inl k_646) k_648 sl_Opd_withLast k_5 p_Opd_withLast rfl rfl hP hD hS [0, 1, 2] rfl (by decide) (va_recv (q := (R_Opd, T_Opd, 6)) (ci := 7) (q0 := 0) hK hP rfl rfl) rfl hl.1 rfl (Nat.le_of_ble_eq_true rfl) ⟨by decide, by decide⟩ ⟨by decide, by decide⟩ d_Opd_encode_97) hP hD hS [0, 1, 2] [] rfl rfl (by decide) (by decide) (fun r_14 u_13 H locs hq_12 hP hD hS => ?_)
          obtain ⟨hq_24, w_15, w_16, w_17, w_18, w_19, w_20, hf_21, hf_22, hf_23, rfl⟩ := hq_12
          obtain ⟨rb_25, hrb_25, rfl⟩ := mx_bool hq_24
          have hP : va_P K.1 mx_cl [(od, .inr (7, [.int (nI w_15), .int (nI w_16), .int (nI w_17), .int w_18, .ref ov, .ref oz])), (ov, .inl (K.2.1.1, 3, .inr (.inl w_19))), (oz, .inl (K.2.1.2.2.2, 3, .inl w_20))] H := hP
          have hD : va_D A [(od, .inr (7, [.int (nI w_15), .int (nI w_16), .int (nI w_17), .int w_18, .ref ov, .ref oz])), (ov, .inl (K.2.1.1, 3, .inr (.inl w_19))), (oz, .inl (K.2.1.2.2.2, 3, .inl w_20))] := hD
          refine W.cs (cells' := 0) (slots' := 0) rfl rfl ?_
          refine lv_if_eq (tgt := 107) hx hb d_Opd_encode_100 (by decide) (fun h_26 => ?_) (fun h_26 => ?_)
          · have h_26n := mx_fEq (a := rb_25) (b := 0) (by omega) (by omega) h_26
            refine lv_iconst (v := 0) hx hb d_Opd_encode_107 (by decide) ?_
            exact mx_ri F hr hlk (by decide) hP hD hS [(od, .inr (7, [.int (nI w_15), .int (nI w_16), .int (nI w_17), .int w_18, .ref ov, .ref oz])), (ov, .inl (K.2.1.1, 3, .inr (.inl w_19))), (oz, .inl (K.2.1.2.2.2, 3, .inl w_20))] [0, 1, 2] rfl (by decide) ⟨(Or.inl rfl), ⟨w_15, w_16, w_17, w_18, w_19, w_20, (by first | assumption | omega | exact mx_ch_0), (by first | assumption | omega | exact mx_ch_0), (by first | assumption | omega | exact mx_ch_0), rfl⟩⟩ (by decide) (by decide) d_Opd_encode_108
          · have h_26n := mx_fNe (a := rb_25) (b := 0) (by omega) (by omega) h_26
            refine lv_iconst (v := 1) hx hb d_Opd_encode_103 (by decide) ?_
            refine lv_goto (tgt := 108) hx hb d_Opd_encode_104 (by decide) ?_
            exact mx_ri F hr hlk (by decide) hP hD hS [(od, .inr (7, [.int (nI w_15), .int (nI w_16), .int (nI w_17), .int w_18, .ref ov, .ref oz])), (ov, .inl (K.2.1.1, 3, .inr (.inl w_19))), (oz, .inl (K.2.1.2.2.2, 3, .inl w_20))] [0, 1, 2] rfl (by decide) ⟨(Or.inr rfl), ⟨w_15, w_16, w_17, w_18, w_19, w_20, (by first | assumption | omega | exact mx_ch_0), (by first | assumption | omega | exact mx_ch_0), (by first | assumption | omega | exact mx_ch_0), rfl⟩⟩ (by decide) (by decide) d_Opd_encode_108
  by_cases h_27 : z_3 = 1
  · rw [h_27]
    refine lv_tableIn (off := 105) (tgt := 109) hx hb d_Opd_encode_4 (by decide) (by decide) (by decide) (by decide) ?_
    refine lv_aload_n hx hb d_Opd_encode_109 rfl (lv_at hl 0 rfl) ?_
    refine lv_iload_n hx hb d_Opd_encode_110 rfl (lv_at hl 1 rfl) ?_
    refine mx_ci (wr := []) F (mx_runV (As := [.int b0]) (rest := []) (n := 1) F (s_Opd_encodeNegation l K od b0 o1w ov oz fo fq o1g o1y o1c H.size (by first | assumption | omega | exact mx_ch_0) (by first | assumption | omega | exact mx_ch_0) (by first | assumption | omega | exact mx_ch_0)) k_661 (Or.inl k_658) k_660 sl_Opd_encodeNegation k_5 p_Opd_encodeNegation rfl rfl hP hD hS [0, 1, 2] rfl (by decide) (va_recv (q := (R_Opd, T_Opd, 6)) (ci := 7) (q0 := 0) hK hP rfl rfl) rfl hl.1 rfl (Nat.le_of_ble_eq_true rfl) ⟨by decide, by decide⟩ ⟨by decide, by decide⟩ d_Opd_encode_111) hP hD hS [0, 1, 2] [] rfl rfl (by decide) (by decide) (fun r_30 u_29 H locs hq_28 hP hD hS => ?_)
    obtain ⟨hq_40, w_31, w_32, w_33, w_34, w_35, w_36, hf_37, hf_38, hf_39, rfl⟩ := hq_28
    obtain ⟨rb_41, hrb_41, rfl⟩ := mx_bool hq_40
    have hP : va_P K.1 mx_cl [(od, .inr (7, [.int (nI w_31), .int (nI w_32), .int (nI w_33), .int w_34, .ref ov, .ref oz])), (ov, .inl (K.2.1.1, 3, .inr (.inl w_35))), (oz, .inl (K.2.1.2.2.2, 3, .inl w_36))] H := hP
    have hD : va_D A [(od, .inr (7, [.int (nI w_31), .int (nI w_32), .int (nI w_33), .int w_34, .ref ov, .ref oz])), (ov, .inl (K.2.1.1, 3, .inr (.inl w_35))), (oz, .inl (K.2.1.2.2.2, 3, .inl w_36))] := hD
    refine W.cs (cells' := 0) (slots' := 0) rfl rfl ?_
    exact mx_ri F hr hlk (mx_nz (by omega)) hP hD hS [(od, .inr (7, [.int (nI w_31), .int (nI w_32), .int (nI w_33), .int w_34, .ref ov, .ref oz])), (ov, .inl (K.2.1.1, 3, .inr (.inl w_35))), (oz, .inl (K.2.1.2.2.2, 3, .inl w_36))] [0, 1, 2] rfl (by decide) ⟨(mx_b01 (b := rb_41) (by omega)), ⟨w_31, w_32, w_33, w_34, w_35, w_36, (by first | assumption | omega | exact mx_ch_0), (by first | assumption | omega | exact mx_ch_0), (by first | assumption | omega | exact mx_ch_0), rfl⟩⟩ (by decide) (by decide) d_Opd_encode_114
  by_cases h_42 : z_3 = 2
  · rw [h_42]
    refine lv_tableIn (off := 111) (tgt := 115) hx hb d_Opd_encode_4 (by decide) (by decide) (by decide) (by decide) ?_
    refine lv_aload_n hx hb d_Opd_encode_115 rfl (lv_at hl 0 rfl) ?_
    refine va_get (D := K.1) (ci := 7) (v := .int (nI o1c)) (C := R_Opd) (T := T_Opd) (N := 6) hx hb hT in_Opd hown hK hP 0 rfl rfl 2 (by decide) (hT _ k_88) (fun _ h9 => h9) rfl d_Opd_encode_116 ?_
    refine lv_iconst (v := 3) hx hb d_Opd_encode_119 (by decide) ?_
    refine lv_icmp_ne (tgt := 168) hx hb d_Opd_encode_120 (by decide) (fun h_43 => ?_) (fun h_43 => ?_)
    · have h_43n := mx_fNe (a := o1c) (b := 3) (by omega) (by omega) h_43
      refine lv_iconst (v := 0) hx hb d_Opd_encode_168 (by decide) ?_
      exact mx_ri F hr hlk (by decide) hP hD hS [(od, .inr (7, [.int (nI o1g), .int (nI o1y), .int (nI o1c), .int o1w, .ref ov, .ref oz])), (ov, .inl (K.2.1.1, 3, .inr (.inl fo))), (oz, .inl (K.2.1.2.2.2, 3, .inl fq))] [0, 1, 2] rfl (by decide) ⟨(Or.inl rfl), ⟨o1g, o1y, o1c, o1w, fo, fq, (by first | assumption | omega | exact mx_ch_0), (by first | assumption | omega | exact mx_ch_0), (by first | assumption | omega | exact mx_ch_0), rfl⟩⟩ (by decide) (by decide) d_Opd_encode_169
    · have h_43n := mx_fEq (a := o1c) (b := 3) (by omega) (by omega) h_43
      refine lv_aload_n hx hb d_Opd_encode_123 rfl (lv_at hl 0 rfl) ?_
      refine lv_iconst (v := 0) hx hb d_Opd_encode_124 (by decide) ?_
      refine lv_sipush (v := 255) hx hb d_Opd_encode_125 (by decide) ?_
      refine mx_ci (wr := []) F (mx_runV (As := [.int 0, .int 255]) (rest := []) (n := 2) F (s_Opd_isNumber l K od 0 255 o1w ov oz fo fq o1g o1y o1c H.size (by first | assumption | omega | exact mx_ch_0) (by first | assumption | omega | exact mx_ch_0) (by first | assumption | omega | exact mx_ch_0) (by first | assumption | omega | exact mx_ch_0)) k_657 (Or.inl k_654) k_656 sl_Opd_isNumber k_5 p_Opd_isNumber rfl rfl hP hD hS [0, 1, 2] rfl (by decide) (va_recv (q := (R_Opd, T_Opd, 6)) (ci := 7) (q0 := 0) hK hP rfl rfl) rfl hl.1 rfl (Nat.le_of_ble_eq_true rfl) ⟨by decide, by decide⟩ ⟨by decide, by decide⟩ d_Opd_encode_128) hP hD hS [0, 1, 2] [] rfl rfl (by decide) (by decide) (fun r_46 u_45 H locs hq_44 hP hD hS => ?_)
      obtain ⟨hq_56, w_47, w_48, w_49, w_50, w_51, w_52, hf_53, hf_54, hf_55, rfl⟩ := hq_44
      obtain ⟨rb_57, hrb_57, rfl⟩ := mx_bool hq_56
      have hP : va_P K.1 mx_cl [(od, .inr (7, [.int (nI w_47), .int (nI w_48), .int (nI w_49), .int w_50, .ref ov, .ref oz])), (ov, .inl (K.2.1.1, 3, .inr (.inl w_51))), (oz, .inl (K.2.1.2.2.2, 3, .inl w_52))] H := hP
      have hD : va_D A [(od, .inr (7, [.int (nI w_47), .int (nI w_48), .int (nI w_49), .int w_50, .ref ov, .ref oz])), (ov, .inl (K.2.1.1, 3, .inr (.inl w_51))), (oz, .inl (K.2.1.2.2.2, 3, .inl w_52))] := hD
      refine W.cs (cells' := 0) (slots' := 0) rfl rfl ?_
      refine lv_if_eq (tgt := 168) hx hb d_Opd_encode_131 (by decide) (fun h_58 => ?_) (fun h_58 => ?_)
      · have h_58n := mx_fEq (a := rb_57) (b := 0) (by omega) (by omega) h_58
        refine lv_iconst (v := 0) hx hb d_Opd_encode_168 (by decide) ?_
        exact mx_ri F hr hlk (by decide) hP hD hS [(od, .inr (7, [.int (nI w_47), .int (nI w_48), .int (nI w_49), .int w_50, .ref ov, .ref oz])), (ov, .inl (K.2.1.1, 3, .inr (.inl w_51))), (oz, .inl (K.2.1.2.2.2, 3, .inl w_52))] [0, 1, 2] rfl (by decide) ⟨(Or.inl rfl), ⟨w_47, w_48, w_49, w_50, w_51, w_52, (by first | assumption | omega | exact mx_ch_0), (by first | assumption | omega | exact mx_ch_0), (by first | assumption | omega | exact mx_ch_0), rfl⟩⟩ (by decide) (by decide) d_Opd_encode_169
      · have h_58n := mx_fNe (a := rb_57) (b := 0) (by omega) (by omega) h_58
        refine lv_aload_n hx hb d_Opd_encode_134 rfl (lv_at hl 0 rfl) ?_
        refine va_get (D := K.1) (ci := 7) (v := .ref oz) (C := R_Opd) (T := T_Opd) (N := 6) hx hb hT in_Opd hown hK hP 0 rfl rfl 5 (by decide) (hT _ k_82) (fun _ h9 => h9) rfl d_Opd_encode_135 ?_
        refine lv_iconst (v := 1) hx hb d_Opd_encode_138 (by decide) ?_
        refine va_zald hx hb hK hP 2 3 rfl rfl (i := 1) (vp_in_nI (n := 1) (N := 3) (by decide) (by decide)) d_Opd_encode_139 ?_
        refine lv_topi (fun z_59 ez_59 => ?_)
        refine lv_if_eq (tgt := 168) hx hb d_Opd_encode_140 (by decide) (fun h_60 => ?_) (fun h_60 => ?_)
        · refine lv_iconst (v := 0) hx hb d_Opd_encode_168 (by decide) ?_
          exact mx_ri F hr hlk (by decide) hP hD hS [(od, .inr (7, [.int (nI w_47), .int (nI w_48), .int (nI w_49), .int w_50, .ref ov, .ref oz])), (ov, .inl (K.2.1.1, 3, .inr (.inl w_51))), (oz, .inl (K.2.1.2.2.2, 3, .inl w_52))] [0, 1, 2] rfl (by decide) ⟨(Or.inl rfl), ⟨w_47, w_48, w_49, w_50, w_51, w_52, (by first | assumption | omega | exact mx_ch_0), (by first | assumption | omega | exact mx_ch_0), (by first | assumption | omega | exact mx_ch_0), rfl⟩⟩ (by decide) (by decide) d_Opd_encode_169
        · refine lv_aload_n hx hb d_Opd_encode_143 rfl (lv_at hl 0 rfl) ?_
          refine lv_iload_n hx hb d_Opd_encode_144 rfl (lv_at hl 1 rfl) ?_
          refine lv_iconst (v := 2) hx hb d_Opd_encode_145 (by decide) ?_
          refine lv_aload_n hx hb d_Opd_encode_146 rfl (lv_at hl 0 rfl) ?_
          refine va_get (D := K.1) (ci := 7) (v := .ref ov) (C := R_Opd) (T := T_Opd) (N := 6) hx hb hT in_Opd hown hK hP 0 rfl rfl 4 (by decide) (hT _ k_80) (fun _ h9 => h9) rfl d_Opd_encode_147 ?_
          refine lv_iconst (v := 0) hx hb d_Opd_encode_150 (by decide) ?_
          refine va_lald hx hb hK hP 1 0 rfl rfl (i := 0) (vp_in_nI (n := 0) (N := 3) (by decide) (by decide)) d_Opd_encode_151 ?_
          refine lv_topl (fun z_61 ez_61 => ?_)
          refine lv_aload_n hx hb d_Opd_encode_152 rfl (lv_at hl 0 rfl) ?_
          refine va_get (D := K.1) (ci := 7) (v := .ref ov) (C := R_Opd) (T := T_Opd) (N := 6) hx hb hT in_Opd hown hK hP 0 rfl rfl 4 (by decide) (hT _ k_80) (fun _ h9 => h9) rfl d_Opd_encode_153 ?_
          refine lv_iconst (v := 1) hx hb d_Opd_encode_156 (by decide) ?_
          refine va_lald hx hb hK hP 1 0 rfl rfl (i := 1) (vp_in_nI (n := 1) (N := 3) (by decide) (by decide)) d_Opd_encode_157 ?_
          refine lv_topl (fun z_62 ez_62 => ?_)
          refine mx_ci (wr := []) F (mx_runV (As := [.int b0, .int 2, .long z_61, .long z_62]) (rest := []) (n := 4) F (s_Opd_withLast l K od b0 2 z_61 z_62 w_50 ov oz w_51 w_52 w_47 w_48 w_49 H.size (by first | assumption | omega | exact mx_ch_0) (by first | assumption | omega | exact mx_ch_0) (by first | assumption | omega | exact mx_ch_0) (by first | assumption | omega | exact mx_ch_0)) k_649 (Or.inl k_646) k_648 sl_Opd_withLast k_5 p_Opd_withLast rfl rfl hP hD hS [0, 1, 2] rfl (by decide) (va_recv (q := (R_Opd, T_Opd, 6)) (ci := 7) (q0 := 0) hK hP rfl rfl) rfl hl.1 rfl (Nat.le_of_ble_eq_true rfl) ⟨by decide, by decide⟩ ⟨by decide, by decide⟩ d_Opd_encode_158) hP hD hS [0, 1, 2] [] rfl rfl (by decide) (by decide) (fun r_65 u_64 H locs hq_63 hP hD hS => ?_)
          obtain ⟨hq_75, w_66, w_67, w_68, w_69, w_70, w_71, hf_72, hf_73, hf_74, rfl⟩ := hq_63
          obtain ⟨rb_76, hrb_76, rfl⟩ := mx_bool hq_75
          have hP : va_P K.1 mx_cl [(od, .inr (7, [.int (nI w_66), .int (nI w_67), .int (nI w_68), .int w_69, .ref ov, .ref oz])), (ov, .inl (K.2.1.1, 3, .inr (.inl w_70))), (oz, .inl (K.2.1.2.2.2, 3, .inl w_71))] H := hP
          have hD : va_D A [(od, .inr (7, [.int (nI w_66), .int (nI w_67), .int (nI w_68), .int w_69, .ref ov, .ref oz])), (ov, .inl (K.2.1.1, 3, .inr (.inl w_70))), (oz, .inl (K.2.1.2.2.2, 3, .inl w_71))] := hD
          refine W.cs (cells' := 0) (slots' := 0) rfl rfl ?_
          refine lv_if_eq (tgt := 168) hx hb d_Opd_encode_161 (by decide) (fun h_77 => ?_) (fun h_77 => ?_)
          · have h_77n := mx_fEq (a := rb_76) (b := 0) (by omega) (by omega) h_77
            refine lv_iconst (v := 0) hx hb d_Opd_encode_168 (by decide) ?_
            exact mx_ri F hr hlk (by decide) hP hD hS [(od, .inr (7, [.int (nI w_66), .int (nI w_67), .int (nI w_68), .int w_69, .ref ov, .ref oz])), (ov, .inl (K.2.1.1, 3, .inr (.inl w_70))), (oz, .inl (K.2.1.2.2.2, 3, .inl w_71))] [0, 1, 2] rfl (by decide) ⟨(Or.inl rfl), ⟨w_66, w_67, w_68, w_69, w_70, w_71, (by first | assumption | omega | exact mx_ch_0), (by first | assumption | omega | exact mx_ch_0), (by first | assumption | omega | exact mx_ch_0), rfl⟩⟩ (by decide) (by decide) d_Opd_encode_169
          · have h_77n := mx_fNe (a := rb_76) (b := 0) (by omega) (by omega) h_77
            refine lv_iconst (v := 1) hx hb d_Opd_encode_164 (by decide) ?_
            refine lv_goto (tgt := 169) hx hb d_Opd_encode_165 (by decide) ?_
            exact mx_ri F hr hlk (by decide) hP hD hS [(od, .inr (7, [.int (nI w_66), .int (nI w_67), .int (nI w_68), .int w_69, .ref ov, .ref oz])), (ov, .inl (K.2.1.1, 3, .inr (.inl w_70))), (oz, .inl (K.2.1.2.2.2, 3, .inl w_71))] [0, 1, 2] rfl (by decide) ⟨(Or.inr rfl), ⟨w_66, w_67, w_68, w_69, w_70, w_71, (by first | assumption | omega | exact mx_ch_0), (by first | assumption | omega | exact mx_ch_0), (by first | assumption | omega | exact mx_ch_0), rfl⟩⟩ (by decide) (by decide) d_Opd_encode_169
  by_cases h_78 : z_3 = 3
  · rw [h_78]
    refine lv_tableIn (off := 166) (tgt := 170) hx hb d_Opd_encode_4 (by decide) (by decide) (by decide) (by decide) ?_
    refine lv_aload_n hx hb d_Opd_encode_170 rfl (lv_at hl 0 rfl) ?_
    refine va_get (D := K.1) (ci := 7) (v := .int (nI o1c)) (C := R_Opd) (T := T_Opd) (N := 6) hx hb hT in_Opd hown hK hP 0 rfl rfl 2 (by decide) (hT _ k_88) (fun _ h9 => h9) rfl d_Opd_encode_171 ?_
    refine lv_iconst (v := 2) hx hb d_Opd_encode_174 (by decide) ?_
    refine lv_icmp_ne (tgt := 203) hx hb d_Opd_encode_175 (by decide) (fun h_79 => ?_) (fun h_79 => ?_)
    · have h_79n := mx_fNe (a := o1c) (b := 2) (by omega) (by omega) h_79
      refine lv_iconst (v := 0) hx hb d_Opd_encode_203 (by decide) ?_
      exact mx_ri F hr hlk (by decide) hP hD hS [(od, .inr (7, [.int (nI o1g), .int (nI o1y), .int (nI o1c), .int o1w, .ref ov, .ref oz])), (ov, .inl (K.2.1.1, 3, .inr (.inl fo))), (oz, .inl (K.2.1.2.2.2, 3, .inl fq))] [0, 1, 2] rfl (by decide) ⟨(Or.inl rfl), ⟨o1g, o1y, o1c, o1w, fo, fq, (by first | assumption | omega | exact mx_ch_0), (by first | assumption | omega | exact mx_ch_0), (by first | assumption | omega | exact mx_ch_0), rfl⟩⟩ (by decide) (by decide) d_Opd_encode_204
    · have h_79n := mx_fEq (a := o1c) (b := 2) (by omega) (by omega) h_79
      refine lv_aload_n hx hb d_Opd_encode_178 rfl (lv_at hl 0 rfl) ?_
      refine va_get (D := K.1) (ci := 7) (v := .ref oz) (C := R_Opd) (T := T_Opd) (N := 6) hx hb hT in_Opd hown hK hP 0 rfl rfl 5 (by decide) (hT _ k_82) (fun _ h9 => h9) rfl d_Opd_encode_179 ?_
      refine lv_iconst (v := 0) hx hb d_Opd_encode_182 (by decide) ?_
      refine va_zald hx hb hK hP 2 3 rfl rfl (i := 0) (vp_in_nI (n := 0) (N := 3) (by decide) (by decide)) d_Opd_encode_183 ?_
      refine lv_topi (fun z_80 ez_80 => ?_)
      refine lv_if_eq (tgt := 203) hx hb d_Opd_encode_184 (by decide) (fun h_81 => ?_) (fun h_81 => ?_)
      · refine lv_iconst (v := 0) hx hb d_Opd_encode_203 (by decide) ?_
        exact mx_ri F hr hlk (by decide) hP hD hS [(od, .inr (7, [.int (nI o1g), .int (nI o1y), .int (nI o1c), .int o1w, .ref ov, .ref oz])), (ov, .inl (K.2.1.1, 3, .inr (.inl fo))), (oz, .inl (K.2.1.2.2.2, 3, .inl fq))] [0, 1, 2] rfl (by decide) ⟨(Or.inl rfl), ⟨o1g, o1y, o1c, o1w, fo, fq, (by first | assumption | omega | exact mx_ch_0), (by first | assumption | omega | exact mx_ch_0), (by first | assumption | omega | exact mx_ch_0), rfl⟩⟩ (by decide) (by decide) d_Opd_encode_204
      · refine lv_aload_n hx hb d_Opd_encode_187 rfl (lv_at hl 0 rfl) ?_
        refine lv_iload_n hx hb d_Opd_encode_188 rfl (lv_at hl 1 rfl) ?_
        refine lv_iconst (v := 1) hx hb d_Opd_encode_189 (by decide) ?_
        refine lv_lload_n hx hb d_Opd_encode_190 rfl (lv_at hl 2 rfl) ?_
        refine lv_ldc (v := 65536) hx hb hown (hT _ k_662) d_Opd_encode_191 ?_
        refine mx_ci (wr := []) F (mx_runV (As := [.int b0, .int 1, .long b1, .int 65536]) (rest := []) (n := 4) F (s_Opd_withPlace l K od b0 1 b1 65536 o1w ov oz fo fq o1g o1y o1c H.size (by first | assumption | omega | exact mx_ch_0) (by first | assumption | omega | exact mx_ch_0) (by first | assumption | omega | exact mx_ch_0) (by first | assumption | omega | exact mx_ch_0)) k_666 (Or.inl k_663) k_665 sl_Opd_withPlace k_5 p_Opd_withPlace rfl rfl hP hD hS [0, 1, 2] rfl (by decide) (va_recv (q := (R_Opd, T_Opd, 6)) (ci := 7) (q0 := 0) hK hP rfl rfl) rfl hl.1 rfl (Nat.le_of_ble_eq_true rfl) ⟨by decide, by decide⟩ ⟨by decide, by decide⟩ d_Opd_encode_193) hP hD hS [0, 1, 2] [] rfl rfl (by decide) (by decide) (fun r_84 u_83 H locs hq_82 hP hD hS => ?_)
        obtain ⟨hq_94, w_85, w_86, w_87, w_88, w_89, w_90, hf_91, hf_92, hf_93, rfl⟩ := hq_82
        obtain ⟨rb_95, hrb_95, rfl⟩ := mx_bool hq_94
        have hP : va_P K.1 mx_cl [(od, .inr (7, [.int (nI w_85), .int (nI w_86), .int (nI w_87), .int w_88, .ref ov, .ref oz])), (ov, .inl (K.2.1.1, 3, .inr (.inl w_89))), (oz, .inl (K.2.1.2.2.2, 3, .inl w_90))] H := hP
        have hD : va_D A [(od, .inr (7, [.int (nI w_85), .int (nI w_86), .int (nI w_87), .int w_88, .ref ov, .ref oz])), (ov, .inl (K.2.1.1, 3, .inr (.inl w_89))), (oz, .inl (K.2.1.2.2.2, 3, .inl w_90))] := hD
        refine W.cs (cells' := 0) (slots' := 0) rfl rfl ?_
        refine lv_if_eq (tgt := 203) hx hb d_Opd_encode_196 (by decide) (fun h_96 => ?_) (fun h_96 => ?_)
        · have h_96n := mx_fEq (a := rb_95) (b := 0) (by omega) (by omega) h_96
          refine lv_iconst (v := 0) hx hb d_Opd_encode_203 (by decide) ?_
          exact mx_ri F hr hlk (by decide) hP hD hS [(od, .inr (7, [.int (nI w_85), .int (nI w_86), .int (nI w_87), .int w_88, .ref ov, .ref oz])), (ov, .inl (K.2.1.1, 3, .inr (.inl w_89))), (oz, .inl (K.2.1.2.2.2, 3, .inl w_90))] [0, 1, 2] rfl (by decide) ⟨(Or.inl rfl), ⟨w_85, w_86, w_87, w_88, w_89, w_90, (by first | assumption | omega | exact mx_ch_0), (by first | assumption | omega | exact mx_ch_0), (by first | assumption | omega | exact mx_ch_0), rfl⟩⟩ (by decide) (by decide) d_Opd_encode_204
        · have h_96n := mx_fNe (a := rb_95) (b := 0) (by omega) (by omega) h_96
          refine lv_iconst (v := 1) hx hb d_Opd_encode_199 (by decide) ?_
          refine lv_goto (tgt := 204) hx hb d_Opd_encode_200 (by decide) ?_
          exact mx_ri F hr hlk (by decide) hP hD hS [(od, .inr (7, [.int (nI w_85), .int (nI w_86), .int (nI w_87), .int w_88, .ref ov, .ref oz])), (ov, .inl (K.2.1.1, 3, .inr (.inl w_89))), (oz, .inl (K.2.1.2.2.2, 3, .inl w_90))] [0, 1, 2] rfl (by decide) ⟨(Or.inr rfl), ⟨w_85, w_86, w_87, w_88, w_89, w_90, (by first | assumption | omega | exact mx_ch_0), (by first | assumption | omega | exact mx_ch_0), (by first | assumption | omega | exact mx_ch_0), rfl⟩⟩ (by decide) (by decide) d_Opd_encode_204
  by_cases h_97 : z_3 = 4
  · rw [h_97]
    refine lv_tableIn (off := 201) (tgt := 205) hx hb d_Opd_encode_4 (by decide) (by decide) (by decide) (by decide) ?_
    refine lv_aload_n hx hb d_Opd_encode_205 rfl (lv_at hl 0 rfl) ?_
    refine va_get (D := K.1) (ci := 7) (v := .int (nI o1c)) (C := R_Opd) (T := T_Opd) (N := 6) hx hb hT in_Opd hown hK hP 0 rfl rfl 2 (by decide) (hT _ k_88) (fun _ h9 => h9) rfl d_Opd_encode_206 ?_
    refine lv_iconst (v := 1) hx hb d_Opd_encode_209 (by decide) ?_
    refine lv_icmp_ne (tgt := 229) hx hb d_Opd_encode_210 (by decide) (fun h_98 => ?_) (fun h_98 => ?_)
    · have h_98n := mx_fNe (a := o1c) (b := 1) (by omega) (by omega) h_98
      refine lv_iconst (v := 0) hx hb d_Opd_encode_229 (by decide) ?_
      exact mx_ri F hr hlk (by decide) hP hD hS [(od, .inr (7, [.int (nI o1g), .int (nI o1y), .int (nI o1c), .int o1w, .ref ov, .ref oz])), (ov, .inl (K.2.1.1, 3, .inr (.inl fo))), (oz, .inl (K.2.1.2.2.2, 3, .inl fq))] [0, 1, 2] rfl (by decide) ⟨(Or.inl rfl), ⟨o1g, o1y, o1c, o1w, fo, fq, (by first | assumption | omega | exact mx_ch_0), (by first | assumption | omega | exact mx_ch_0), (by first | assumption | omega | exact mx_ch_0), rfl⟩⟩ (by decide) (by decide) d_Opd_encode_230
    · have h_98n := mx_fEq (a := o1c) (b := 1) (by omega) (by omega) h_98
      refine lv_aload_n hx hb d_Opd_encode_213 rfl (lv_at hl 0 rfl) ?_
      refine lv_iload_n hx hb d_Opd_encode_214 rfl (lv_at hl 1 rfl) ?_
      refine lv_iconst (v := 0) hx hb d_Opd_encode_215 (by decide) ?_
      refine lv_lload_n hx hb d_Opd_encode_216 rfl (lv_at hl 2 rfl) ?_
      refine lv_ldc (v := 16777216) hx hb hown (hT _ k_668) d_Opd_encode_217 ?_
      refine mx_ci (wr := []) F (mx_runV (As := [.int b0, .int 0, .long b1, .int 16777216]) (rest := []) (n := 4) F (s_Opd_withPlace l K od b0 0 b1 16777216 o1w ov oz fo fq o1g o1y o1c H.size (by first | assumption | omega | exact mx_ch_0) (by first | assumption | omega | exact mx_ch_0) (by first | assumption | omega | exact mx_ch_0) (by first | assumption | omega | exact mx_ch_0)) k_666 (Or.inl k_663) k_665 sl_Opd_withPlace k_5 p_Opd_withPlace rfl rfl hP hD hS [0, 1, 2] rfl (by decide) (va_recv (q := (R_Opd, T_Opd, 6)) (ci := 7) (q0 := 0) hK hP rfl rfl) rfl hl.1 rfl (Nat.le_of_ble_eq_true rfl) ⟨by decide, by decide⟩ ⟨by decide, by decide⟩ d_Opd_encode_219) hP hD hS [0, 1, 2] [] rfl rfl (by decide) (by decide) (fun r_101 u_100 H locs hq_99 hP hD hS => ?_)
      obtain ⟨hq_111, w_102, w_103, w_104, w_105, w_106, w_107, hf_108, hf_109, hf_110, rfl⟩ := hq_99
      obtain ⟨rb_112, hrb_112, rfl⟩ := mx_bool hq_111
      have hP : va_P K.1 mx_cl [(od, .inr (7, [.int (nI w_102), .int (nI w_103), .int (nI w_104), .int w_105, .ref ov, .ref oz])), (ov, .inl (K.2.1.1, 3, .inr (.inl w_106))), (oz, .inl (K.2.1.2.2.2, 3, .inl w_107))] H := hP
      have hD : va_D A [(od, .inr (7, [.int (nI w_102), .int (nI w_103), .int (nI w_104), .int w_105, .ref ov, .ref oz])), (ov, .inl (K.2.1.1, 3, .inr (.inl w_106))), (oz, .inl (K.2.1.2.2.2, 3, .inl w_107))] := hD
      refine W.cs (cells' := 0) (slots' := 0) rfl rfl ?_
      refine lv_if_eq (tgt := 229) hx hb d_Opd_encode_222 (by decide) (fun h_113 => ?_) (fun h_113 => ?_)
      · have h_113n := mx_fEq (a := rb_112) (b := 0) (by omega) (by omega) h_113
        refine lv_iconst (v := 0) hx hb d_Opd_encode_229 (by decide) ?_
        exact mx_ri F hr hlk (by decide) hP hD hS [(od, .inr (7, [.int (nI w_102), .int (nI w_103), .int (nI w_104), .int w_105, .ref ov, .ref oz])), (ov, .inl (K.2.1.1, 3, .inr (.inl w_106))), (oz, .inl (K.2.1.2.2.2, 3, .inl w_107))] [0, 1, 2] rfl (by decide) ⟨(Or.inl rfl), ⟨w_102, w_103, w_104, w_105, w_106, w_107, (by first | assumption | omega | exact mx_ch_0), (by first | assumption | omega | exact mx_ch_0), (by first | assumption | omega | exact mx_ch_0), rfl⟩⟩ (by decide) (by decide) d_Opd_encode_230
      · have h_113n := mx_fNe (a := rb_112) (b := 0) (by omega) (by omega) h_113
        refine lv_iconst (v := 1) hx hb d_Opd_encode_225 (by decide) ?_
        refine lv_goto (tgt := 230) hx hb d_Opd_encode_226 (by decide) ?_
        exact mx_ri F hr hlk (by decide) hP hD hS [(od, .inr (7, [.int (nI w_102), .int (nI w_103), .int (nI w_104), .int w_105, .ref ov, .ref oz])), (ov, .inl (K.2.1.1, 3, .inr (.inl w_106))), (oz, .inl (K.2.1.2.2.2, 3, .inl w_107))] [0, 1, 2] rfl (by decide) ⟨(Or.inr rfl), ⟨w_102, w_103, w_104, w_105, w_106, w_107, (by first | assumption | omega | exact mx_ch_0), (by first | assumption | omega | exact mx_ch_0), (by first | assumption | omega | exact mx_ch_0), rfl⟩⟩ (by decide) (by decide) d_Opd_encode_230
  by_cases h_114 : z_3 = 5
  · rw [h_114]
    refine lv_tableIn (off := 227) (tgt := 231) hx hb d_Opd_encode_4 (by decide) (by decide) (by decide) (by decide) ?_
    refine lv_aload_n hx hb d_Opd_encode_231 rfl (lv_at hl 0 rfl) ?_
    refine va_get (D := K.1) (ci := 7) (v := .int (nI o1c)) (C := R_Opd) (T := T_Opd) (N := 6) hx hb hT in_Opd hown hK hP 0 rfl rfl 2 (by decide) (hT _ k_88) (fun _ h9 => h9) rfl d_Opd_encode_232 ?_
    refine lv_iconst (v := 2) hx hb d_Opd_encode_235 (by decide) ?_
    refine lv_icmp_ne (tgt := 282) hx hb d_Opd_encode_236 (by decide) (fun h_115 => ?_) (fun h_115 => ?_)
    · have h_115n := mx_fNe (a := o1c) (b := 2) (by omega) (by omega) h_115
      refine lv_iconst (v := 0) hx hb d_Opd_encode_282 (by decide) ?_
      exact mx_ri F hr hlk (by decide) hP hD hS [(od, .inr (7, [.int (nI o1g), .int (nI o1y), .int (nI o1c), .int o1w, .ref ov, .ref oz])), (ov, .inl (K.2.1.1, 3, .inr (.inl fo))), (oz, .inl (K.2.1.2.2.2, 3, .inl fq))] [0, 1, 2] rfl (by decide) ⟨(Or.inl rfl), ⟨o1g, o1y, o1c, o1w, fo, fq, (by first | assumption | omega | exact mx_ch_0), (by first | assumption | omega | exact mx_ch_0), (by first | assumption | omega | exact mx_ch_0), rfl⟩⟩ (by decide) (by decide) d_Opd_encode_283
    · have h_115n := mx_fEq (a := o1c) (b := 2) (by omega) (by omega) h_115
      refine lv_aload_n hx hb d_Opd_encode_239 rfl (lv_at hl 0 rfl) ?_
      refine va_get (D := K.1) (ci := 7) (v := .ref oz) (C := R_Opd) (T := T_Opd) (N := 6) hx hb hT in_Opd hown hK hP 0 rfl rfl 5 (by decide) (hT _ k_82) (fun _ h9 => h9) rfl d_Opd_encode_240 ?_
      refine lv_iconst (v := 0) hx hb d_Opd_encode_243 (by decide) ?_
      refine va_zald hx hb hK hP 2 3 rfl rfl (i := 0) (vp_in_nI (n := 0) (N := 3) (by decide) (by decide)) d_Opd_encode_244 ?_
      refine lv_topi (fun z_116 ez_116 => ?_)
      refine lv_if_eq (tgt := 282) hx hb d_Opd_encode_245 (by decide) (fun h_117 => ?_) (fun h_117 => ?_)
      · refine lv_iconst (v := 0) hx hb d_Opd_encode_282 (by decide) ?_
        exact mx_ri F hr hlk (by decide) hP hD hS [(od, .inr (7, [.int (nI o1g), .int (nI o1y), .int (nI o1c), .int o1w, .ref ov, .ref oz])), (ov, .inl (K.2.1.1, 3, .inr (.inl fo))), (oz, .inl (K.2.1.2.2.2, 3, .inl fq))] [0, 1, 2] rfl (by decide) ⟨(Or.inl rfl), ⟨o1g, o1y, o1c, o1w, fo, fq, (by first | assumption | omega | exact mx_ch_0), (by first | assumption | omega | exact mx_ch_0), (by first | assumption | omega | exact mx_ch_0), rfl⟩⟩ (by decide) (by decide) d_Opd_encode_283
      · refine lv_aload_n hx hb d_Opd_encode_248 rfl (lv_at hl 0 rfl) ?_
        refine lv_iconst (v := 1) hx hb d_Opd_encode_249 (by decide) ?_
        refine lv_ldc (v := 65535) hx hb hown (hT _ k_669) d_Opd_encode_250 ?_
        refine mx_ci (wr := []) F (mx_runV (As := [.int 1, .int 65535]) (rest := []) (n := 2) F (s_Opd_isNumber l K od 1 65535 o1w ov oz fo fq o1g o1y o1c H.size (by first | assumption | omega | exact mx_ch_0) (by first | assumption | omega | exact mx_ch_0) (by first | assumption | omega | exact mx_ch_0) (by first | assumption | omega | exact mx_ch_0)) k_657 (Or.inl k_654) k_656 sl_Opd_isNumber k_5 p_Opd_isNumber rfl rfl hP hD hS [0, 1, 2] rfl (by decide) (va_recv (q := (R_Opd, T_Opd, 6)) (ci := 7) (q0 := 0) hK hP rfl rfl) rfl hl.1 rfl (Nat.le_of_ble_eq_true rfl) ⟨by decide, by decide⟩ ⟨by decide, by decide⟩ d_Opd_encode_252) hP hD hS [0, 1, 2] [] rfl rfl (by decide) (by decide) (fun r_120 u_119 H locs hq_118 hP hD hS => ?_)
        obtain ⟨hq_130, w_121, w_122, w_123, w_124, w_125, w_126, hf_127, hf_128, hf_129, rfl⟩ := hq_118
        obtain ⟨rb_131, hrb_131, rfl⟩ := mx_bool hq_130
        have hP : va_P K.1 mx_cl [(od, .inr (7, [.int (nI w_121), .int (nI w_122), .int (nI w_123), .int w_124, .ref ov, .ref oz])), (ov, .inl (K.2.1.1, 3, .inr (.inl w_125))), (oz, .inl (K.2.1.2.2.2, 3, .inl w_126))] H := hP
        have hD : va_D A [(od, .inr (7, [.int (nI w_121), .int (nI w_122), .int (nI w_123), .int w_124, .ref ov, .ref oz])), (ov, .inl (K.2.1.1, 3, .inr (.inl w_125))), (oz, .inl (K.2.1.2.2.2, 3, .inl w_126))] := hD
        refine W.cs (cells' := 0) (slots' := 0) rfl rfl ?_
        refine lv_if_eq (tgt := 282) hx hb d_Opd_encode_255 (by decide) (fun h_132 => ?_) (fun h_132 => ?_)
        · have h_132n := mx_fEq (a := rb_131) (b := 0) (by omega) (by omega) h_132
          refine lv_iconst (v := 0) hx hb d_Opd_encode_282 (by decide) ?_
          exact mx_ri F hr hlk (by decide) hP hD hS [(od, .inr (7, [.int (nI w_121), .int (nI w_122), .int (nI w_123), .int w_124, .ref ov, .ref oz])), (ov, .inl (K.2.1.1, 3, .inr (.inl w_125))), (oz, .inl (K.2.1.2.2.2, 3, .inl w_126))] [0, 1, 2] rfl (by decide) ⟨(Or.inl rfl), ⟨w_121, w_122, w_123, w_124, w_125, w_126, (by first | assumption | omega | exact mx_ch_0), (by first | assumption | omega | exact mx_ch_0), (by first | assumption | omega | exact mx_ch_0), rfl⟩⟩ (by decide) (by decide) d_Opd_encode_283
        · have h_132n := mx_fNe (a := rb_131) (b := 0) (by omega) (by omega) h_132
          refine lv_aload_n hx hb d_Opd_encode_258 rfl (lv_at hl 0 rfl) ?_
          refine lv_iload_n hx hb d_Opd_encode_259 rfl (lv_at hl 1 rfl) ?_
          refine lv_aload_n hx hb d_Opd_encode_260 rfl (lv_at hl 0 rfl) ?_
          refine va_get (D := K.1) (ci := 7) (v := .ref ov) (C := R_Opd) (T := T_Opd) (N := 6) hx hb hT in_Opd hown hK hP 0 rfl rfl 4 (by decide) (hT _ k_80) (fun _ h9 => h9) rfl d_Opd_encode_261 ?_
          refine lv_iconst (v := 0) hx hb d_Opd_encode_264 (by decide) ?_
          refine va_lald hx hb hK hP 1 0 rfl rfl (i := 0) (vp_in_nI (n := 0) (N := 3) (by decide) (by decide)) d_Opd_encode_265 ?_
          refine lv_topl (fun z_133 ez_133 => ?_)
          refine lv_aload_n hx hb d_Opd_encode_266 rfl (lv_at hl 0 rfl) ?_
          refine va_get (D := K.1) (ci := 7) (v := .ref ov) (C := R_Opd) (T := T_Opd) (N := 6) hx hb hT in_Opd hown hK hP 0 rfl rfl 4 (by decide) (hT _ k_80) (fun _ h9 => h9) rfl d_Opd_encode_267 ?_
          refine lv_iconst (v := 1) hx hb d_Opd_encode_270 (by decide) ?_
          refine va_lald hx hb hK hP 1 0 rfl rfl (i := 1) (vp_in_nI (n := 1) (N := 3) (by decide) (by decide)) d_Opd_encode_271 ?_
          refine lv_topl (fun z_134 ez_134 => ?_)
          refine mx_ci (wr := []) F (mx_runV (As := [.int b0, .long z_133, .long z_134]) (rest := []) (n := 3) F (s_Opd_make l K od b0 z_133 z_134 w_124 ov oz w_125 w_126 w_121 w_122 w_123 H.size (by first | assumption | omega | exact mx_ch_0) (by first | assumption | omega | exact mx_ch_0) (by first | assumption | omega | exact mx_ch_0)) k_653 (Or.inl k_650) k_652 sl_Opd_make k_5 p_Opd_make rfl rfl hP hD hS [0, 1, 2] rfl (by decide) (va_recv (q := (R_Opd, T_Opd, 6)) (ci := 7) (q0 := 0) hK hP rfl rfl) rfl hl.1 rfl (Nat.le_of_ble_eq_true rfl) ⟨by decide, by decide⟩ ⟨by decide, by decide⟩ d_Opd_encode_272) hP hD hS [0, 1, 2] [] rfl rfl (by decide) (by decide) (fun r_137 u_136 H locs hq_135 hP hD hS => ?_)
          obtain ⟨hq_147, w_138, w_139, w_140, w_141, w_142, w_143, hf_144, hf_145, hf_146, rfl⟩ := hq_135
          obtain ⟨rb_148, hrb_148, rfl⟩ := mx_bool hq_147
          have hP : va_P K.1 mx_cl [(od, .inr (7, [.int (nI w_138), .int (nI w_139), .int (nI w_140), .int w_141, .ref ov, .ref oz])), (ov, .inl (K.2.1.1, 3, .inr (.inl w_142))), (oz, .inl (K.2.1.2.2.2, 3, .inl w_143))] H := hP
          have hD : va_D A [(od, .inr (7, [.int (nI w_138), .int (nI w_139), .int (nI w_140), .int w_141, .ref ov, .ref oz])), (ov, .inl (K.2.1.1, 3, .inr (.inl w_142))), (oz, .inl (K.2.1.2.2.2, 3, .inl w_143))] := hD
          refine W.cs (cells' := 0) (slots' := 0) rfl rfl ?_
          refine lv_if_eq (tgt := 282) hx hb d_Opd_encode_275 (by decide) (fun h_149 => ?_) (fun h_149 => ?_)
          · have h_149n := mx_fEq (a := rb_148) (b := 0) (by omega) (by omega) h_149
            refine lv_iconst (v := 0) hx hb d_Opd_encode_282 (by decide) ?_
            exact mx_ri F hr hlk (by decide) hP hD hS [(od, .inr (7, [.int (nI w_138), .int (nI w_139), .int (nI w_140), .int w_141, .ref ov, .ref oz])), (ov, .inl (K.2.1.1, 3, .inr (.inl w_142))), (oz, .inl (K.2.1.2.2.2, 3, .inl w_143))] [0, 1, 2] rfl (by decide) ⟨(Or.inl rfl), ⟨w_138, w_139, w_140, w_141, w_142, w_143, (by first | assumption | omega | exact mx_ch_0), (by first | assumption | omega | exact mx_ch_0), (by first | assumption | omega | exact mx_ch_0), rfl⟩⟩ (by decide) (by decide) d_Opd_encode_283
          · have h_149n := mx_fNe (a := rb_148) (b := 0) (by omega) (by omega) h_149
            refine lv_iconst (v := 1) hx hb d_Opd_encode_278 (by decide) ?_
            refine lv_goto (tgt := 283) hx hb d_Opd_encode_279 (by decide) ?_
            exact mx_ri F hr hlk (by decide) hP hD hS [(od, .inr (7, [.int (nI w_138), .int (nI w_139), .int (nI w_140), .int w_141, .ref ov, .ref oz])), (ov, .inl (K.2.1.1, 3, .inr (.inl w_142))), (oz, .inl (K.2.1.2.2.2, 3, .inl w_143))] [0, 1, 2] rfl (by decide) ⟨(Or.inr rfl), ⟨w_138, w_139, w_140, w_141, w_142, w_143, (by first | assumption | omega | exact mx_ch_0), (by first | assumption | omega | exact mx_ch_0), (by first | assumption | omega | exact mx_ch_0), rfl⟩⟩ (by decide) (by decide) d_Opd_encode_283
  by_cases h_150 : z_3 = 6
  · rw [h_150]
    refine lv_tableIn (off := 280) (tgt := 284) hx hb d_Opd_encode_4 (by decide) (by decide) (by decide) (by decide) ?_
    refine lv_aload_n hx hb d_Opd_encode_284 rfl (lv_at hl 0 rfl) ?_
    refine va_get (D := K.1) (ci := 7) (v := .int (nI o1c)) (C := R_Opd) (T := T_Opd) (N := 6) hx hb hT in_Opd hown hK hP 0 rfl rfl 2 (by decide) (hT _ k_88) (fun _ h9 => h9) rfl d_Opd_encode_285 ?_
    refine lv_iconst (v := 2) hx hb d_Opd_encode_288 (by decide) ?_
    refine lv_icmp_ne (tgt := 320) hx hb d_Opd_encode_289 (by decide) (fun h_151 => ?_) (fun h_151 => ?_)
    · have h_151n := mx_fNe (a := o1c) (b := 2) (by omega) (by omega) h_151
      refine lv_iconst (v := 0) hx hb d_Opd_encode_320 (by decide) ?_
      exact mx_ri F hr hlk (by decide) hP hD hS [(od, .inr (7, [.int (nI o1g), .int (nI o1y), .int (nI o1c), .int o1w, .ref ov, .ref oz])), (ov, .inl (K.2.1.1, 3, .inr (.inl fo))), (oz, .inl (K.2.1.2.2.2, 3, .inl fq))] [0, 1, 2] rfl (by decide) ⟨(Or.inl rfl), ⟨o1g, o1y, o1c, o1w, fo, fq, (by first | assumption | omega | exact mx_ch_0), (by first | assumption | omega | exact mx_ch_0), (by first | assumption | omega | exact mx_ch_0), rfl⟩⟩ (by decide) (by decide) d_Opd_encode_321
    · have h_151n := mx_fEq (a := o1c) (b := 2) (by omega) (by omega) h_151
      refine lv_aload_n hx hb d_Opd_encode_292 rfl (lv_at hl 0 rfl) ?_
      refine lv_iconst (v := 0) hx hb d_Opd_encode_293 (by decide) ?_
      refine mx_ci (wr := []) F (mx_runV (As := [.int 0]) (rest := []) (n := 1) F (s_Opd_isSpecial l K od 0 o1w ov oz fo fq o1g o1y o1c H.size (by first | assumption | omega | exact mx_ch_0) (by first | assumption | omega | exact mx_ch_0) (by first | assumption | omega | exact mx_ch_0) (by first | assumption | omega | exact mx_ch_0)) k_673 (Or.inl k_670) k_672 sl_Opd_isSpecial k_5 p_Opd_isSpecial rfl rfl hP hD hS [0, 1, 2] rfl (by decide) (va_recv (q := (R_Opd, T_Opd, 6)) (ci := 7) (q0 := 0) hK hP rfl rfl) rfl hl.1 rfl (Nat.le_of_ble_eq_true rfl) ⟨by decide, by decide⟩ ⟨by decide, by decide⟩ d_Opd_encode_294) hP hD hS [0, 1, 2] [] rfl rfl (by decide) (by decide) (fun r_154 u_153 H locs hq_152 hP hD hS => ?_)
      obtain ⟨hq_164, w_155, w_156, w_157, w_158, w_159, w_160, hf_161, hf_162, hf_163, rfl⟩ := hq_152
      obtain ⟨rb_165, hrb_165, rfl⟩ := mx_bool hq_164
      have hP : va_P K.1 mx_cl [(od, .inr (7, [.int (nI w_155), .int (nI w_156), .int (nI w_157), .int w_158, .ref ov, .ref oz])), (ov, .inl (K.2.1.1, 3, .inr (.inl w_159))), (oz, .inl (K.2.1.2.2.2, 3, .inl w_160))] H := hP
      have hD : va_D A [(od, .inr (7, [.int (nI w_155), .int (nI w_156), .int (nI w_157), .int w_158, .ref ov, .ref oz])), (ov, .inl (K.2.1.1, 3, .inr (.inl w_159))), (oz, .inl (K.2.1.2.2.2, 3, .inl w_160))] := hD
      refine W.cs (cells' := 0) (slots' := 0) rfl rfl ?_
      refine lv_if_eq (tgt := 320) hx hb d_Opd_encode_297 (by decide) (fun h_166 => ?_) (fun h_166 => ?_)
      · have h_166n := mx_fEq (a := rb_165) (b := 0) (by omega) (by omega) h_166
        refine lv_iconst (v := 0) hx hb d_Opd_encode_320 (by decide) ?_
        exact mx_ri F hr hlk (by decide) hP hD hS [(od, .inr (7, [.int (nI w_155), .int (nI w_156), .int (nI w_157), .int w_158, .ref ov, .ref oz])), (ov, .inl (K.2.1.1, 3, .inr (.inl w_159))), (oz, .inl (K.2.1.2.2.2, 3, .inl w_160))] [0, 1, 2] rfl (by decide) ⟨(Or.inl rfl), ⟨w_155, w_156, w_157, w_158, w_159, w_160, (by first | assumption | omega | exact mx_ch_0), (by first | assumption | omega | exact mx_ch_0), (by first | assumption | omega | exact mx_ch_0), rfl⟩⟩ (by decide) (by decide) d_Opd_encode_321
      · have h_166n := mx_fNe (a := rb_165) (b := 0) (by omega) (by omega) h_166
        refine lv_aload_n hx hb d_Opd_encode_300 rfl (lv_at hl 0 rfl) ?_
        refine lv_iload_n hx hb d_Opd_encode_301 rfl (lv_at hl 1 rfl) ?_
        refine lv_iconst (v := 1) hx hb d_Opd_encode_302 (by decide) ?_
        refine lv_aload_n hx hb d_Opd_encode_303 rfl (lv_at hl 0 rfl) ?_
        refine va_get (D := K.1) (ci := 7) (v := .ref ov) (C := R_Opd) (T := T_Opd) (N := 6) hx hb hT in_Opd hown hK hP 0 rfl rfl 4 (by decide) (hT _ k_80) (fun _ h9 => h9) rfl d_Opd_encode_304 ?_
        refine lv_iconst (v := 0) hx hb d_Opd_encode_307 (by decide) ?_
        refine va_lald hx hb hK hP 1 0 rfl rfl (i := 0) (vp_in_nI (n := 0) (N := 3) (by decide) (by decide)) d_Opd_encode_308 ?_
        refine lv_topl (fun z_167 ez_167 => ?_)
        refine lv_lconst (v := 0) hx hb d_Opd_encode_309 (by decide) ?_
        refine mx_ci (wr := []) F (mx_runV (As := [.int b0, .int 1, .long z_167, .long 0]) (rest := []) (n := 4) F (s_Opd_withLast l K od b0 1 z_167 0 w_158 ov oz w_159 w_160 w_155 w_156 w_157 H.size (by first | assumption | omega | exact mx_ch_0) (by first | assumption | omega | exact mx_ch_0) (by first | assumption | omega | exact mx_ch_0) (by first | assumption | omega | exact mx_ch_0)) k_649 (Or.inl k_646) k_648 sl_Opd_withLast k_5 p_Opd_withLast rfl rfl hP hD hS [0, 1, 2] rfl (by decide) (va_recv (q := (R_Opd, T_Opd, 6)) (ci := 7) (q0 := 0) hK hP rfl rfl) rfl hl.1 rfl (Nat.le_of_ble_eq_true rfl) ⟨by decide, by decide⟩ ⟨by decide, by decide⟩ d_Opd_encode_310) hP hD hS [0, 1, 2] [] rfl rfl (by decide) (by decide) (fun r_170 u_169 H locs hq_168 hP hD hS => ?_)
        obtain ⟨hq_180, w_171, w_172, w_173, w_174, w_175, w_176, hf_177, hf_178, hf_179, rfl⟩ := hq_168
        obtain ⟨rb_181, hrb_181, rfl⟩ := mx_bool hq_180
        have hP : va_P K.1 mx_cl [(od, .inr (7, [.int (nI w_171), .int (nI w_172), .int (nI w_173), .int w_174, .ref ov, .ref oz])), (ov, .inl (K.2.1.1, 3, .inr (.inl w_175))), (oz, .inl (K.2.1.2.2.2, 3, .inl w_176))] H := hP
        have hD : va_D A [(od, .inr (7, [.int (nI w_171), .int (nI w_172), .int (nI w_173), .int w_174, .ref ov, .ref oz])), (ov, .inl (K.2.1.1, 3, .inr (.inl w_175))), (oz, .inl (K.2.1.2.2.2, 3, .inl w_176))] := hD
        refine W.cs (cells' := 0) (slots' := 0) rfl rfl ?_
        refine lv_if_eq (tgt := 320) hx hb d_Opd_encode_313 (by decide) (fun h_182 => ?_) (fun h_182 => ?_)
        · have h_182n := mx_fEq (a := rb_181) (b := 0) (by omega) (by omega) h_182
          refine lv_iconst (v := 0) hx hb d_Opd_encode_320 (by decide) ?_
          exact mx_ri F hr hlk (by decide) hP hD hS [(od, .inr (7, [.int (nI w_171), .int (nI w_172), .int (nI w_173), .int w_174, .ref ov, .ref oz])), (ov, .inl (K.2.1.1, 3, .inr (.inl w_175))), (oz, .inl (K.2.1.2.2.2, 3, .inl w_176))] [0, 1, 2] rfl (by decide) ⟨(Or.inl rfl), ⟨w_171, w_172, w_173, w_174, w_175, w_176, (by first | assumption | omega | exact mx_ch_0), (by first | assumption | omega | exact mx_ch_0), (by first | assumption | omega | exact mx_ch_0), rfl⟩⟩ (by decide) (by decide) d_Opd_encode_321
        · have h_182n := mx_fNe (a := rb_181) (b := 0) (by omega) (by omega) h_182
          refine lv_iconst (v := 1) hx hb d_Opd_encode_316 (by decide) ?_
          refine lv_goto (tgt := 321) hx hb d_Opd_encode_317 (by decide) ?_
          exact mx_ri F hr hlk (by decide) hP hD hS [(od, .inr (7, [.int (nI w_171), .int (nI w_172), .int (nI w_173), .int w_174, .ref ov, .ref oz])), (ov, .inl (K.2.1.1, 3, .inr (.inl w_175))), (oz, .inl (K.2.1.2.2.2, 3, .inl w_176))] [0, 1, 2] rfl (by decide) ⟨(Or.inr rfl), ⟨w_171, w_172, w_173, w_174, w_175, w_176, (by first | assumption | omega | exact mx_ch_0), (by first | assumption | omega | exact mx_ch_0), (by first | assumption | omega | exact mx_ch_0), rfl⟩⟩ (by decide) (by decide) d_Opd_encode_321
  by_cases h_183 : z_3 = 7
  · rw [h_183]
    refine lv_tableIn (off := 318) (tgt := 322) hx hb d_Opd_encode_4 (by decide) (by decide) (by decide) (by decide) ?_
    refine lv_aload_n hx hb d_Opd_encode_322 rfl (lv_at hl 0 rfl) ?_
    refine va_get (D := K.1) (ci := 7) (v := .int (nI o1c)) (C := R_Opd) (T := T_Opd) (N := 6) hx hb hT in_Opd hown hK hP 0 rfl rfl 2 (by decide) (hT _ k_88) (fun _ h9 => h9) rfl d_Opd_encode_323 ?_
    refine lv_iconst (v := 2) hx hb d_Opd_encode_326 (by decide) ?_
    refine lv_icmp_ne (tgt := 371) hx hb d_Opd_encode_327 (by decide) (fun h_184 => ?_) (fun h_184 => ?_)
    · have h_184n := mx_fNe (a := o1c) (b := 2) (by omega) (by omega) h_184
      refine lv_iconst (v := 0) hx hb d_Opd_encode_371 (by decide) ?_
      exact mx_ri F hr hlk (by decide) hP hD hS [(od, .inr (7, [.int (nI o1g), .int (nI o1y), .int (nI o1c), .int o1w, .ref ov, .ref oz])), (ov, .inl (K.2.1.1, 3, .inr (.inl fo))), (oz, .inl (K.2.1.2.2.2, 3, .inl fq))] [0, 1, 2] rfl (by decide) ⟨(Or.inl rfl), ⟨o1g, o1y, o1c, o1w, fo, fq, (by first | assumption | omega | exact mx_ch_0), (by first | assumption | omega | exact mx_ch_0), (by first | assumption | omega | exact mx_ch_0), rfl⟩⟩ (by decide) (by decide) d_Opd_encode_372
    · have h_184n := mx_fEq (a := o1c) (b := 2) (by omega) (by omega) h_184
      refine lv_aload_n hx hb d_Opd_encode_330 rfl (lv_at hl 0 rfl) ?_
      refine va_get (D := K.1) (ci := 7) (v := .ref oz) (C := R_Opd) (T := T_Opd) (N := 6) hx hb hT in_Opd hown hK hP 0 rfl rfl 5 (by decide) (hT _ k_82) (fun _ h9 => h9) rfl d_Opd_encode_331 ?_
      refine lv_iconst (v := 0) hx hb d_Opd_encode_334 (by decide) ?_
      refine va_zald hx hb hK hP 2 3 rfl rfl (i := 0) (vp_in_nI (n := 0) (N := 3) (by decide) (by decide)) d_Opd_encode_335 ?_
      refine lv_topi (fun z_185 ez_185 => ?_)
      refine lv_if_eq (tgt := 371) hx hb d_Opd_encode_336 (by decide) (fun h_186 => ?_) (fun h_186 => ?_)
      · refine lv_iconst (v := 0) hx hb d_Opd_encode_371 (by decide) ?_
        exact mx_ri F hr hlk (by decide) hP hD hS [(od, .inr (7, [.int (nI o1g), .int (nI o1y), .int (nI o1c), .int o1w, .ref ov, .ref oz])), (ov, .inl (K.2.1.1, 3, .inr (.inl fo))), (oz, .inl (K.2.1.2.2.2, 3, .inl fq))] [0, 1, 2] rfl (by decide) ⟨(Or.inl rfl), ⟨o1g, o1y, o1c, o1w, fo, fq, (by first | assumption | omega | exact mx_ch_0), (by first | assumption | omega | exact mx_ch_0), (by first | assumption | omega | exact mx_ch_0), rfl⟩⟩ (by decide) (by decide) d_Opd_encode_372
      · refine lv_aload_n hx hb d_Opd_encode_339 rfl (lv_at hl 0 rfl) ?_
        refine lv_iconst (v := 1) hx hb d_Opd_encode_340 (by decide) ?_
        refine mx_ci (wr := []) F (mx_runV (As := [.int 1]) (rest := []) (n := 1) F (s_Opd_isSpecial l K od 1 o1w ov oz fo fq o1g o1y o1c H.size (by first | assumption | omega | exact mx_ch_0) (by first | assumption | omega | exact mx_ch_0) (by first | assumption | omega | exact mx_ch_0) (by first | assumption | omega | exact mx_ch_0)) k_673 (Or.inl k_670) k_672 sl_Opd_isSpecial k_5 p_Opd_isSpecial rfl rfl hP hD hS [0, 1, 2] rfl (by decide) (va_recv (q := (R_Opd, T_Opd, 6)) (ci := 7) (q0 := 0) hK hP rfl rfl) rfl hl.1 rfl (Nat.le_of_ble_eq_true rfl) ⟨by decide, by decide⟩ ⟨by decide, by decide⟩ d_Opd_encode_341) hP hD hS [0, 1, 2] [] rfl rfl (by decide) (by decide) (fun r_189 u_188 H locs hq_187 hP hD hS => ?_)
        obtain ⟨hq_199, w_190, w_191, w_192, w_193, w_194, w_195, hf_196, hf_197, hf_198, rfl⟩ := hq_187
        obtain ⟨rb_200, hrb_200, rfl⟩ := mx_bool hq_199
        have hP : va_P K.1 mx_cl [(od, .inr (7, [.int (nI w_190), .int (nI w_191), .int (nI w_192), .int w_193, .ref ov, .ref oz])), (ov, .inl (K.2.1.1, 3, .inr (.inl w_194))), (oz, .inl (K.2.1.2.2.2, 3, .inl w_195))] H := hP
        have hD : va_D A [(od, .inr (7, [.int (nI w_190), .int (nI w_191), .int (nI w_192), .int w_193, .ref ov, .ref oz])), (ov, .inl (K.2.1.1, 3, .inr (.inl w_194))), (oz, .inl (K.2.1.2.2.2, 3, .inl w_195))] := hD
        refine W.cs (cells' := 0) (slots' := 0) rfl rfl ?_
        refine lv_if_eq (tgt := 371) hx hb d_Opd_encode_344 (by decide) (fun h_201 => ?_) (fun h_201 => ?_)
        · have h_201n := mx_fEq (a := rb_200) (b := 0) (by omega) (by omega) h_201
          refine lv_iconst (v := 0) hx hb d_Opd_encode_371 (by decide) ?_
          exact mx_ri F hr hlk (by decide) hP hD hS [(od, .inr (7, [.int (nI w_190), .int (nI w_191), .int (nI w_192), .int w_193, .ref ov, .ref oz])), (ov, .inl (K.2.1.1, 3, .inr (.inl w_194))), (oz, .inl (K.2.1.2.2.2, 3, .inl w_195))] [0, 1, 2] rfl (by decide) ⟨(Or.inl rfl), ⟨w_190, w_191, w_192, w_193, w_194, w_195, (by first | assumption | omega | exact mx_ch_0), (by first | assumption | omega | exact mx_ch_0), (by first | assumption | omega | exact mx_ch_0), rfl⟩⟩ (by decide) (by decide) d_Opd_encode_372
        · have h_201n := mx_fNe (a := rb_200) (b := 0) (by omega) (by omega) h_201
          refine lv_aload_n hx hb d_Opd_encode_347 rfl (lv_at hl 0 rfl) ?_
          refine lv_iload_n hx hb d_Opd_encode_348 rfl (lv_at hl 1 rfl) ?_
          refine lv_aload_n hx hb d_Opd_encode_349 rfl (lv_at hl 0 rfl) ?_
          refine va_get (D := K.1) (ci := 7) (v := .ref ov) (C := R_Opd) (T := T_Opd) (N := 6) hx hb hT in_Opd hown hK hP 0 rfl rfl 4 (by decide) (hT _ k_80) (fun _ h9 => h9) rfl d_Opd_encode_350 ?_
          refine lv_iconst (v := 0) hx hb d_Opd_encode_353 (by decide) ?_
          refine va_lald hx hb hK hP 1 0 rfl rfl (i := 0) (vp_in_nI (n := 0) (N := 3) (by decide) (by decide)) d_Opd_encode_354 ?_
          refine lv_topl (fun z_202 ez_202 => ?_)
          refine lv_aload_n hx hb d_Opd_encode_355 rfl (lv_at hl 0 rfl) ?_
          refine va_get (D := K.1) (ci := 7) (v := .ref ov) (C := R_Opd) (T := T_Opd) (N := 6) hx hb hT in_Opd hown hK hP 0 rfl rfl 4 (by decide) (hT _ k_80) (fun _ h9 => h9) rfl d_Opd_encode_356 ?_
          refine lv_iconst (v := 1) hx hb d_Opd_encode_359 (by decide) ?_
          refine va_lald hx hb hK hP 1 0 rfl rfl (i := 1) (vp_in_nI (n := 1) (N := 3) (by decide) (by decide)) d_Opd_encode_360 ?_
          refine lv_topl (fun z_203 ez_203 => ?_)
          refine mx_ci (wr := []) F (mx_runV (As := [.int b0, .long z_202, .long z_203]) (rest := []) (n := 3) F (s_Opd_make l K od b0 z_202 z_203 w_193 ov oz w_194 w_195 w_190 w_191 w_192 H.size (by first | assumption | omega | exact mx_ch_0) (by first | assumption | omega | exact mx_ch_0) (by first | assumption | omega | exact mx_ch_0)) k_653 (Or.inl k_650) k_652 sl_Opd_make k_5 p_Opd_make rfl rfl hP hD hS [0, 1, 2] rfl (by decide) (va_recv (q := (R_Opd, T_Opd, 6)) (ci := 7) (q0 := 0) hK hP rfl rfl) rfl hl.1 rfl (Nat.le_of_ble_eq_true rfl) ⟨by decide, by decide⟩ ⟨by decide, by decide⟩ d_Opd_encode_361) hP hD hS [0, 1, 2] [] rfl rfl (by decide) (by decide) (fun r_206 u_205 H locs hq_204 hP hD hS => ?_)
          obtain ⟨hq_216, w_207, w_208, w_209, w_210, w_211, w_212, hf_213, hf_214, hf_215, rfl⟩ := hq_204
          obtain ⟨rb_217, hrb_217, rfl⟩ := mx_bool hq_216
          have hP : va_P K.1 mx_cl [(od, .inr (7, [.int (nI w_207), .int (nI w_208), .int (nI w_209), .int w_210, .ref ov, .ref oz])), (ov, .inl (K.2.1.1, 3, .inr (.inl w_211))), (oz, .inl (K.2.1.2.2.2, 3, .inl w_212))] H := hP
          have hD : va_D A [(od, .inr (7, [.int (nI w_207), .int (nI w_208), .int (nI w_209), .int w_210, .ref ov, .ref oz])), (ov, .inl (K.2.1.1, 3, .inr (.inl w_211))), (oz, .inl (K.2.1.2.2.2, 3, .inl w_212))] := hD
          refine W.cs (cells' := 0) (slots' := 0) rfl rfl ?_
          refine lv_if_eq (tgt := 371) hx hb d_Opd_encode_364 (by decide) (fun h_218 => ?_) (fun h_218 => ?_)
          · have h_218n := mx_fEq (a := rb_217) (b := 0) (by omega) (by omega) h_218
            refine lv_iconst (v := 0) hx hb d_Opd_encode_371 (by decide) ?_
            exact mx_ri F hr hlk (by decide) hP hD hS [(od, .inr (7, [.int (nI w_207), .int (nI w_208), .int (nI w_209), .int w_210, .ref ov, .ref oz])), (ov, .inl (K.2.1.1, 3, .inr (.inl w_211))), (oz, .inl (K.2.1.2.2.2, 3, .inl w_212))] [0, 1, 2] rfl (by decide) ⟨(Or.inl rfl), ⟨w_207, w_208, w_209, w_210, w_211, w_212, (by first | assumption | omega | exact mx_ch_0), (by first | assumption | omega | exact mx_ch_0), (by first | assumption | omega | exact mx_ch_0), rfl⟩⟩ (by decide) (by decide) d_Opd_encode_372
          · have h_218n := mx_fNe (a := rb_217) (b := 0) (by omega) (by omega) h_218
            refine lv_iconst (v := 1) hx hb d_Opd_encode_367 (by decide) ?_
            refine lv_goto (tgt := 372) hx hb d_Opd_encode_368 (by decide) ?_
            exact mx_ri F hr hlk (by decide) hP hD hS [(od, .inr (7, [.int (nI w_207), .int (nI w_208), .int (nI w_209), .int w_210, .ref ov, .ref oz])), (ov, .inl (K.2.1.1, 3, .inr (.inl w_211))), (oz, .inl (K.2.1.2.2.2, 3, .inl w_212))] [0, 1, 2] rfl (by decide) ⟨(Or.inr rfl), ⟨w_207, w_208, w_209, w_210, w_211, w_212, (by first | assumption | omega | exact mx_ch_0), (by first | assumption | omega | exact mx_ch_0), (by first | assumption | omega | exact mx_ch_0), rfl⟩⟩ (by decide) (by decide) d_Opd_encode_372
  by_cases h_219 : z_3 = 8
  · rw [h_219]
    refine lv_tableIn (off := 369) (tgt := 373) hx hb d_Opd_encode_4 (by decide) (by decide) (by decide) (by decide) ?_
    refine lv_aload_n hx hb d_Opd_encode_373 rfl (lv_at hl 0 rfl) ?_
    refine va_get (D := K.1) (ci := 7) (v := .int (nI o1c)) (C := R_Opd) (T := T_Opd) (N := 6) hx hb hT in_Opd hown hK hP 0 rfl rfl 2 (by decide) (hT _ k_88) (fun _ h9 => h9) rfl d_Opd_encode_374 ?_
    refine lv_iconst (v := 2) hx hb d_Opd_encode_377 (by decide) ?_
    refine lv_icmp_ne (tgt := 426) hx hb d_Opd_encode_378 (by decide) (fun h_220 => ?_) (fun h_220 => ?_)
    · have h_220n := mx_fNe (a := o1c) (b := 2) (by omega) (by omega) h_220
      refine lv_iconst (v := 0) hx hb d_Opd_encode_426 (by decide) ?_
      exact mx_ri F hr hlk (by decide) hP hD hS [(od, .inr (7, [.int (nI o1g), .int (nI o1y), .int (nI o1c), .int o1w, .ref ov, .ref oz])), (ov, .inl (K.2.1.1, 3, .inr (.inl fo))), (oz, .inl (K.2.1.2.2.2, 3, .inl fq))] [0, 1, 2] rfl (by decide) ⟨(Or.inl rfl), ⟨o1g, o1y, o1c, o1w, fo, fq, (by first | assumption | omega | exact mx_ch_0), (by first | assumption | omega | exact mx_ch_0), (by first | assumption | omega | exact mx_ch_0), rfl⟩⟩ (by decide) (by decide) d_Opd_encode_427
    · have h_220n := mx_fEq (a := o1c) (b := 2) (by omega) (by omega) h_220
      refine lv_aload_n hx hb d_Opd_encode_381 rfl (lv_at hl 0 rfl) ?_
      refine lv_iconst (v := 0) hx hb d_Opd_encode_382 (by decide) ?_
      refine lv_sipush (v := 255) hx hb d_Opd_encode_383 (by decide) ?_
      refine mx_ci (wr := []) F (mx_runV (As := [.int 0, .int 255]) (rest := []) (n := 2) F (s_Opd_isNumber l K od 0 255 o1w ov oz fo fq o1g o1y o1c H.size (by first | assumption | omega | exact mx_ch_0) (by first | assumption | omega | exact mx_ch_0) (by first | assumption | omega | exact mx_ch_0) (by first | assumption | omega | exact mx_ch_0)) k_657 (Or.inl k_654) k_656 sl_Opd_isNumber k_5 p_Opd_isNumber rfl rfl hP hD hS [0, 1, 2] rfl (by decide) (va_recv (q := (R_Opd, T_Opd, 6)) (ci := 7) (q0 := 0) hK hP rfl rfl) rfl hl.1 rfl (Nat.le_of_ble_eq_true rfl) ⟨by decide, by decide⟩ ⟨by decide, by decide⟩ d_Opd_encode_386) hP hD hS [0, 1, 2] [] rfl rfl (by decide) (by decide) (fun r_223 u_222 H locs hq_221 hP hD hS => ?_)
      obtain ⟨hq_233, w_224, w_225, w_226, w_227, w_228, w_229, hf_230, hf_231, hf_232, rfl⟩ := hq_221
      obtain ⟨rb_234, hrb_234, rfl⟩ := mx_bool hq_233
      have hP : va_P K.1 mx_cl [(od, .inr (7, [.int (nI w_224), .int (nI w_225), .int (nI w_226), .int w_227, .ref ov, .ref oz])), (ov, .inl (K.2.1.1, 3, .inr (.inl w_228))), (oz, .inl (K.2.1.2.2.2, 3, .inl w_229))] H := hP
      have hD : va_D A [(od, .inr (7, [.int (nI w_224), .int (nI w_225), .int (nI w_226), .int w_227, .ref ov, .ref oz])), (ov, .inl (K.2.1.1, 3, .inr (.inl w_228))), (oz, .inl (K.2.1.2.2.2, 3, .inl w_229))] := hD
      refine W.cs (cells' := 0) (slots' := 0) rfl rfl ?_
      refine lv_if_eq (tgt := 426) hx hb d_Opd_encode_389 (by decide) (fun h_235 => ?_) (fun h_235 => ?_)
      · have h_235n := mx_fEq (a := rb_234) (b := 0) (by omega) (by omega) h_235
        refine lv_iconst (v := 0) hx hb d_Opd_encode_426 (by decide) ?_
        exact mx_ri F hr hlk (by decide) hP hD hS [(od, .inr (7, [.int (nI w_224), .int (nI w_225), .int (nI w_226), .int w_227, .ref ov, .ref oz])), (ov, .inl (K.2.1.1, 3, .inr (.inl w_228))), (oz, .inl (K.2.1.2.2.2, 3, .inl w_229))] [0, 1, 2] rfl (by decide) ⟨(Or.inl rfl), ⟨w_224, w_225, w_226, w_227, w_228, w_229, (by first | assumption | omega | exact mx_ch_0), (by first | assumption | omega | exact mx_ch_0), (by first | assumption | omega | exact mx_ch_0), rfl⟩⟩ (by decide) (by decide) d_Opd_encode_427
      · have h_235n := mx_fNe (a := rb_234) (b := 0) (by omega) (by omega) h_235
        refine lv_aload_n hx hb d_Opd_encode_392 rfl (lv_at hl 0 rfl) ?_
        refine lv_iconst (v := 1) hx hb d_Opd_encode_393 (by decide) ?_
        refine lv_ldc (v := 65535) hx hb hown (hT _ k_669) d_Opd_encode_394 ?_
        refine mx_ci (wr := []) F (mx_runV (As := [.int 1, .int 65535]) (rest := []) (n := 2) F (s_Opd_isNumber l K od 1 65535 w_227 ov oz w_228 w_229 w_224 w_225 w_226 H.size (by first | assumption | omega | exact mx_ch_0) (by first | assumption | omega | exact mx_ch_0) (by first | assumption | omega | exact mx_ch_0) (by first | assumption | omega | exact mx_ch_0)) k_657 (Or.inl k_654) k_656 sl_Opd_isNumber k_5 p_Opd_isNumber rfl rfl hP hD hS [0, 1, 2] rfl (by decide) (va_recv (q := (R_Opd, T_Opd, 6)) (ci := 7) (q0 := 0) hK hP rfl rfl) rfl hl.1 rfl (Nat.le_of_ble_eq_true rfl) ⟨by decide, by decide⟩ ⟨by decide, by decide⟩ d_Opd_encode_396) hP hD hS [0, 1, 2] [] rfl rfl (by decide) (by decide) (fun r_238 u_237 H locs hq_236 hP hD hS => ?_)
        obtain ⟨hq_248, w_239, w_240, w_241, w_242, w_243, w_244, hf_245, hf_246, hf_247, rfl⟩ := hq_236
        obtain ⟨rb_249, hrb_249, rfl⟩ := mx_bool hq_248
        have hP : va_P K.1 mx_cl [(od, .inr (7, [.int (nI w_239), .int (nI w_240), .int (nI w_241), .int w_242, .ref ov, .ref oz])), (ov, .inl (K.2.1.1, 3, .inr (.inl w_243))), (oz, .inl (K.2.1.2.2.2, 3, .inl w_244))] H := hP
        have hD : va_D A [(od, .inr (7, [.int (nI w_239), .int (nI w_240), .int (nI w_241), .int w_242, .ref ov, .ref oz])), (ov, .inl (K.2.1.1, 3, .inr (.inl w_243))), (oz, .inl (K.2.1.2.2.2, 3, .inl w_244))] := hD
        refine W.cs (cells' := 0) (slots' := 0) rfl rfl ?_
        refine lv_if_eq (tgt := 426) hx hb d_Opd_encode_399 (by decide) (fun h_250 => ?_) (fun h_250 => ?_)
        · have h_250n := mx_fEq (a := rb_249) (b := 0) (by omega) (by omega) h_250
          refine lv_iconst (v := 0) hx hb d_Opd_encode_426 (by decide) ?_
          exact mx_ri F hr hlk (by decide) hP hD hS [(od, .inr (7, [.int (nI w_239), .int (nI w_240), .int (nI w_241), .int w_242, .ref ov, .ref oz])), (ov, .inl (K.2.1.1, 3, .inr (.inl w_243))), (oz, .inl (K.2.1.2.2.2, 3, .inl w_244))] [0, 1, 2] rfl (by decide) ⟨(Or.inl rfl), ⟨w_239, w_240, w_241, w_242, w_243, w_244, (by first | assumption | omega | exact mx_ch_0), (by first | assumption | omega | exact mx_ch_0), (by first | assumption | omega | exact mx_ch_0), rfl⟩⟩ (by decide) (by decide) d_Opd_encode_427
        · have h_250n := mx_fNe (a := rb_249) (b := 0) (by omega) (by omega) h_250
          refine lv_aload_n hx hb d_Opd_encode_402 rfl (lv_at hl 0 rfl) ?_
          refine lv_iload_n hx hb d_Opd_encode_403 rfl (lv_at hl 1 rfl) ?_
          refine lv_aload_n hx hb d_Opd_encode_404 rfl (lv_at hl 0 rfl) ?_
          refine va_get (D := K.1) (ci := 7) (v := .ref ov) (C := R_Opd) (T := T_Opd) (N := 6) hx hb hT in_Opd hown hK hP 0 rfl rfl 4 (by decide) (hT _ k_80) (fun _ h9 => h9) rfl d_Opd_encode_405 ?_
          refine lv_iconst (v := 0) hx hb d_Opd_encode_408 (by decide) ?_
          refine va_lald hx hb hK hP 1 0 rfl rfl (i := 0) (vp_in_nI (n := 0) (N := 3) (by decide) (by decide)) d_Opd_encode_409 ?_
          refine lv_topl (fun z_251 ez_251 => ?_)
          refine lv_aload_n hx hb d_Opd_encode_410 rfl (lv_at hl 0 rfl) ?_
          refine va_get (D := K.1) (ci := 7) (v := .ref ov) (C := R_Opd) (T := T_Opd) (N := 6) hx hb hT in_Opd hown hK hP 0 rfl rfl 4 (by decide) (hT _ k_80) (fun _ h9 => h9) rfl d_Opd_encode_411 ?_
          refine lv_iconst (v := 1) hx hb d_Opd_encode_414 (by decide) ?_
          refine va_lald hx hb hK hP 1 0 rfl rfl (i := 1) (vp_in_nI (n := 1) (N := 3) (by decide) (by decide)) d_Opd_encode_415 ?_
          refine lv_topl (fun z_252 ez_252 => ?_)
          refine mx_ci (wr := []) F (mx_runV (As := [.int b0, .long z_251, .long z_252]) (rest := []) (n := 3) F (s_Opd_make l K od b0 z_251 z_252 w_242 ov oz w_243 w_244 w_239 w_240 w_241 H.size (by first | assumption | omega | exact mx_ch_0) (by first | assumption | omega | exact mx_ch_0) (by first | assumption | omega | exact mx_ch_0)) k_653 (Or.inl k_650) k_652 sl_Opd_make k_5 p_Opd_make rfl rfl hP hD hS [0, 1, 2] rfl (by decide) (va_recv (q := (R_Opd, T_Opd, 6)) (ci := 7) (q0 := 0) hK hP rfl rfl) rfl hl.1 rfl (Nat.le_of_ble_eq_true rfl) ⟨by decide, by decide⟩ ⟨by decide, by decide⟩ d_Opd_encode_416) hP hD hS [0, 1, 2] [] rfl rfl (by decide) (by decide) (fun r_255 u_254 H locs hq_253 hP hD hS => ?_)
          obtain ⟨hq_265, w_256, w_257, w_258, w_259, w_260, w_261, hf_262, hf_263, hf_264, rfl⟩ := hq_253
          obtain ⟨rb_266, hrb_266, rfl⟩ := mx_bool hq_265
          have hP : va_P K.1 mx_cl [(od, .inr (7, [.int (nI w_256), .int (nI w_257), .int (nI w_258), .int w_259, .ref ov, .ref oz])), (ov, .inl (K.2.1.1, 3, .inr (.inl w_260))), (oz, .inl (K.2.1.2.2.2, 3, .inl w_261))] H := hP
          have hD : va_D A [(od, .inr (7, [.int (nI w_256), .int (nI w_257), .int (nI w_258), .int w_259, .ref ov, .ref oz])), (ov, .inl (K.2.1.1, 3, .inr (.inl w_260))), (oz, .inl (K.2.1.2.2.2, 3, .inl w_261))] := hD
          refine W.cs (cells' := 0) (slots' := 0) rfl rfl ?_
          refine lv_if_eq (tgt := 426) hx hb d_Opd_encode_419 (by decide) (fun h_267 => ?_) (fun h_267 => ?_)
          · have h_267n := mx_fEq (a := rb_266) (b := 0) (by omega) (by omega) h_267
            refine lv_iconst (v := 0) hx hb d_Opd_encode_426 (by decide) ?_
            exact mx_ri F hr hlk (by decide) hP hD hS [(od, .inr (7, [.int (nI w_256), .int (nI w_257), .int (nI w_258), .int w_259, .ref ov, .ref oz])), (ov, .inl (K.2.1.1, 3, .inr (.inl w_260))), (oz, .inl (K.2.1.2.2.2, 3, .inl w_261))] [0, 1, 2] rfl (by decide) ⟨(Or.inl rfl), ⟨w_256, w_257, w_258, w_259, w_260, w_261, (by first | assumption | omega | exact mx_ch_0), (by first | assumption | omega | exact mx_ch_0), (by first | assumption | omega | exact mx_ch_0), rfl⟩⟩ (by decide) (by decide) d_Opd_encode_427
          · have h_267n := mx_fNe (a := rb_266) (b := 0) (by omega) (by omega) h_267
            refine lv_iconst (v := 1) hx hb d_Opd_encode_422 (by decide) ?_
            refine lv_goto (tgt := 427) hx hb d_Opd_encode_423 (by decide) ?_
            exact mx_ri F hr hlk (by decide) hP hD hS [(od, .inr (7, [.int (nI w_256), .int (nI w_257), .int (nI w_258), .int w_259, .ref ov, .ref oz])), (ov, .inl (K.2.1.1, 3, .inr (.inl w_260))), (oz, .inl (K.2.1.2.2.2, 3, .inl w_261))] [0, 1, 2] rfl (by decide) ⟨(Or.inr rfl), ⟨w_256, w_257, w_258, w_259, w_260, w_261, (by first | assumption | omega | exact mx_ch_0), (by first | assumption | omega | exact mx_ch_0), (by first | assumption | omega | exact mx_ch_0), rfl⟩⟩ (by decide) (by decide) d_Opd_encode_427
  have h_4t := lv_neT h_4 (show ((0 : Int32)).toInt = 0 by decide)
  have h_27t := lv_neT h_27 (show ((1 : Int32)).toInt = 1 by decide)
  have h_42t := lv_neT h_42 (show ((2 : Int32)).toInt = 2 by decide)
  have h_78t := lv_neT h_78 (show ((3 : Int32)).toInt = 3 by decide)
  have h_97t := lv_neT h_97 (show ((4 : Int32)).toInt = 4 by decide)
  have h_114t := lv_neT h_114 (show ((5 : Int32)).toInt = 5 by decide)
  have h_150t := lv_neT h_150 (show ((6 : Int32)).toInt = 6 by decide)
  have h_183t := lv_neT h_183 (show ((7 : Int32)).toInt = 7 by decide)
  have h_219t := lv_neT h_219 (show ((8 : Int32)).toInt = 8 by decide)
  refine lv_tableOut (tgt := 428) hx hb d_Opd_encode_4 (by omega) (by decide) ?_
  refine lv_aload_n hx hb d_Opd_encode_428 rfl (lv_at hl 0 rfl) ?_
  refine lv_iload_n hx hb d_Opd_encode_429 rfl (lv_at hl 1 rfl) ?_
  refine mx_ci (wr := []) F (mx_runV (As := [.int b0]) (rest := []) (n := 1) F (s_Opd_encodeBytes l K od b0 o1w ov oz fo fq o1g o1y o1c H.size (by first | assumption | omega | exact mx_ch_0) (by first | assumption | omega | exact mx_ch_0) (by first | assumption | omega | exact mx_ch_0)) k_680 (Or.inl k_677) k_679 sl_Opd_encodeBytes k_5 p_Opd_encodeBytes rfl rfl hP hD hS [0, 1, 2] rfl (by decide) (va_recv (q := (R_Opd, T_Opd, 6)) (ci := 7) (q0 := 0) hK hP rfl rfl) rfl hl.1 rfl (Nat.le_of_ble_eq_true rfl) ⟨by decide, by decide⟩ ⟨by decide, by decide⟩ d_Opd_encode_430) hP hD hS [0, 1, 2] [] rfl rfl (by decide) (by decide) (fun r_270 u_269 H locs hq_268 hP hD hS => ?_)
  obtain ⟨hq_280, w_271, w_272, w_273, w_274, w_275, w_276, hf_277, hf_278, hf_279, rfl⟩ := hq_268
  obtain ⟨rb_281, hrb_281, rfl⟩ := mx_bool hq_280
  have hP : va_P K.1 mx_cl [(od, .inr (7, [.int (nI w_271), .int (nI w_272), .int (nI w_273), .int w_274, .ref ov, .ref oz])), (ov, .inl (K.2.1.1, 3, .inr (.inl w_275))), (oz, .inl (K.2.1.2.2.2, 3, .inl w_276))] H := hP
  have hD : va_D A [(od, .inr (7, [.int (nI w_271), .int (nI w_272), .int (nI w_273), .int w_274, .ref ov, .ref oz])), (ov, .inl (K.2.1.1, 3, .inr (.inl w_275))), (oz, .inl (K.2.1.2.2.2, 3, .inl w_276))] := hD
  refine W.cs (cells' := 0) (slots' := 0) rfl rfl ?_
  exact mx_ri F hr hlk (mx_nz (by omega)) hP hD hS [(od, .inr (7, [.int (nI w_271), .int (nI w_272), .int (nI w_273), .int w_274, .ref ov, .ref oz])), (ov, .inl (K.2.1.1, 3, .inr (.inl w_275))), (oz, .inl (K.2.1.2.2.2, 3, .inl w_276))] [0, 1, 2] rfl (by decide) ⟨(mx_b01 (b := rb_281) (by omega)), ⟨w_271, w_272, w_273, w_274, w_275, w_276, (by first | assumption | omega | exact mx_ch_0), (by first | assumption | omega | exact mx_ch_0), (by first | assumption | omega | exact mx_ch_0), rfl⟩⟩ (by decide) (by decide) d_Opd_encode_433
