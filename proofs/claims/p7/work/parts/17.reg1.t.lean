set_option maxHeartbeats 4000000 in
set_option maxRecDepth 100000 in
theorem s_Reg_clearFrom_b2 {p : Program} {l : Launch} {e : Env} {R : Room} {s : State} {m : MethodId} {args : Array Value} {below : List Frame} {meth : Method} {c : Code} {K : mx_K} {A : Nat → Prop} (rg : Nat) (a : Nat) (b : Int32) (ge : Nat) (sp : Nat) (sk : Nat) (fg : Nat → Int64) (d : Nat) (lo : Nat) (gl : Nat) (ha : a ≤ 256) (F : mx_F p s m args c b_Reg_clearFrom 4 "LittleMix$Registers" K A) (hr : meth.sig.returnType = none) (hlk : meth.locks = false) (hRf : 1 ≤ R.frames) (hRl : 20 ≤ R.locals)
    : ∀ n : Nat, ∀ (n3 : Nat) (f_ge : Nat → Int64) (ls : Array Slot) (H : Heap) (locs : List Loc), 256 - n3 < n → (n3 ≤ 256) → lv_has ls 4 [(0, .ref rg), (1, .int (nI a)), (2, .int b), (3, .int (nI n3))] → va_P K.1 mx_cl [(rg, .inr (2, [.int (nI d), .int (nI lo), .int (nI gl), .ref ge, .ref sp, .ref sk])), (ge, .inl (K.2.1.1, 256, .inr (.inl f_ge)))] H → va_D A [(rg, .inr (2, [.int (nI d), .int (nI lo), .int (nI gl), .ref ge, .ref sp, .ref sk])), (ge, .inl (K.2.1.1, 256, .inr (.inl f_ge)))] → va_S A s.heap H locs → W p l e R s m args below meth c H locs 0 0 (MQ below (va_Qv (fun u : va_W => ∃ (fg2 : Nat → Int64), u = [(rg, .inr (2, [.int (nI d), .int (nI lo), .int (nI gl), .ref ge, .ref sp, .ref sk])), (ge, .inl (K.2.1.1, 256, .inr (.inl fg2)))]) (mx_B K A (fun u : va_W => u)) A) args s 0 0 A) (F0 m 2 ls []) := by
  obtain ⟨hx, hb, hml, hown, hT, hK, hN, hE, hA⟩ := id F
  intro n
  induction n with
  | zero =>
    intro n3 f_ge ls H locs hmu h3 hl hP hD hS
    exact absurd hmu (Nat.not_lt_zero _)
  | succ n ih =>
    intro n3 f_ge ls H locs hmu h3 hl hP hD hS
    refine lv_iload_n hx hb d_Reg_clearFrom_2 rfl (lv_at hl 3 rfl) ?_
    refine lv_iload_n hx hb d_Reg_clearFrom_3 rfl (lv_at hl 2 rfl) ?_
    refine lv_icmp_ge (tgt := 29) hx hb d_Reg_clearFrom_4 (by decide) (fun h_1 => ?_) (fun h_1 => ?_)
    · exact mx_rv F hr hlk hP hD hS [(rg, .inr (2, [.int (nI d), .int (nI lo), .int (nI gl), .ref ge, .ref sp, .ref sk])), (ge, .inl (K.2.1.1, 256, .inr (.inl f_ge)))] [0, 1] rfl (by decide) ⟨f_ge, rfl⟩ (by decide) (by decide) d_Reg_clearFrom_29
    · refine lv_iload_n hx hb d_Reg_clearFrom_7 rfl (lv_at hl 3 rfl) ?_
      refine lv_aload_n hx hb d_Reg_clearFrom_8 rfl (lv_at hl 0 rfl) ?_
      refine va_get (D := K.1) (ci := 2) (v := .ref ge) (C := R_Reg) (T := T_Reg) (N := 6) hx hb hT in_Reg hown hK hP 0 rfl rfl 3 (by decide) (hT _ k_48) (fun _ h9 => h9) rfl d_Reg_clearFrom_9 ?_
      refine va_alen (v := 256) hx hb hK hP 1 0 rfl rfl rfl d_Reg_clearFrom_12 ?_
      refine lv_icmp_ge (tgt := 29) hx hb d_Reg_clearFrom_13 (by decide) (fun h_2 => ?_) (fun h_2 => ?_)
      · have h_2n := mx_fLe (a := 256) (b := n3) (by omega) (by omega) h_2
        exact mx_rv F hr hlk hP hD hS [(rg, .inr (2, [.int (nI d), .int (nI lo), .int (nI gl), .ref ge, .ref sp, .ref sk])), (ge, .inl (K.2.1.1, 256, .inr (.inl f_ge)))] [0, 1] rfl (by decide) ⟨f_ge, rfl⟩ (by decide) (by decide) d_Reg_clearFrom_29
      · have h_2n := mx_fNle (a := 256) (b := n3) (by omega) (by omega) h_2
        refine lv_aload_n hx hb d_Reg_clearFrom_16 rfl (lv_at hl 0 rfl) ?_
        refine va_get (D := K.1) (ci := 2) (v := .ref ge) (C := R_Reg) (T := T_Reg) (N := 6) hx hb hT in_Reg hown hK hP 0 rfl rfl 3 (by decide) (hT _ k_48) (fun _ h9 => h9) rfl d_Reg_clearFrom_17 ?_
        refine lv_iload_n hx hb d_Reg_clearFrom_20 rfl (lv_at hl 3 rfl) ?_
        refine lv_lconst (v := 0) hx hb d_Reg_clearFrom_21 (by decide) ?_
        refine va_last hx hb hK hP hD hS 1 0 rfl rfl (i := nI n3) (x := 0) (vp_in_nI (n := n3) (N := 256) (by omega) (by decide)) d_Reg_clearFrom_22 (fun H locs hP hD hS => ?_)
        have hP : va_P K.1 mx_cl [(rg, .inr (2, [.int (nI d), .int (nI lo), .int (nI gl), .ref ge, .ref sp, .ref sk])), (ge, .inl (K.2.1.1, 256, .inr (.inl (vp_updL f_ge (nI n3).toNatClampNeg 0))))] H := hP
        have hD : va_D A [(rg, .inr (2, [.int (nI d), .int (nI lo), .int (nI gl), .ref ge, .ref sp, .ref sk])), (ge, .inl (K.2.1.1, 256, .inr (.inl (vp_updL f_ge (nI n3).toNatClampNeg 0))))] := hD
        generalize ef_3 : vp_updL f_ge (nI n3).toNatClampNeg 0 = f_3 at hP hD
        refine lv_iinc (lv' := [(3, .int (nI (n3 + 1))), (0, .ref rg), (1, .int (nI a)), (2, .int b)]) (v := nI (n3 + 1)) (k := 3) hx hb d_Reg_clearFrom_23 hl rfl (mx_inc n3) (by decide) rfl (fun ls hl => ?_)
        refine lv_goto (tgt := 2) hx hb d_Reg_clearFrom_26 (by decide) ?_
        exact ih (n3 + 1) f_3 _ _ _ (by omega) (by first | assumption | omega | exact mx_ch_0) (lv_sub hl [1, 2, 3, 0] rfl) hP hD hS
set_option maxHeartbeats 4000000 in
set_option maxRecDepth 100000 in
theorem s_Reg_clearFrom (l : Launch) (K : mx_K) (rg : Nat) (a : Nat) (b : Int32) (ge : Nat) (sp : Nat) (sk : Nat) (fg : Nat → Int64) (d : Nat) (lo : Nat) (gl : Nat) (sz : Nat) (ha : a ≤ 256) : mx_V l y_Reg_clearFrom b_Reg_clearFrom 4 { frames := 1, cells := 0, slots := 0, locals := 20 } K [.ref rg, .int (nI a), .int b] [(rg, .inr (2, [.int (nI d), .int (nI lo), .int (nI gl), .ref ge, .ref sp, .ref sk])), (ge, .inl (K.2.1.1, 256, .inr (.inl fg)))] sz (fun u : va_W => ∃ (fg2 : Nat → Int64), u = [(rg, .inr (2, [.int (nI d), .int (nI lo), .int (nI gl), .ref ge, .ref sp, .ref sk])), (ge, .inl (K.2.1.1, 256, .inr (.inl fg2)))]) (fun u : va_W => u) := by
  refine mx_of (by decide) (Nat.le_of_ble_eq_true rfl) ?_
  intro p e s m below meth c A ls H locs hAe F hr hlk hin hsz hP hD hS hl
  rw [hAe]
  have hl : lv_has ls 4 [(0, .ref rg), (1, .int (nI a)), (2, .int b)] := hl
  obtain ⟨hx, hb, hml, hown, hT, hK, hN, hE, hA⟩ := id F
  refine lv_iload_n hx hb d_Reg_clearFrom_0 rfl (lv_at hl 1 rfl) ?_
  refine lv_istore_n (lv' := [(3, .int (nI a)), (0, .ref rg), (1, .int (nI a)), (2, .int b)]) hx hb d_Reg_clearFrom_1 rfl hl (by decide) rfl (fun ls hl => ?_)
  exact s_Reg_clearFrom_b2 rg a b ge sp sk fg d lo gl ha F hr hlk (by decide) (by decide) (256 - a + 1) a fg _ _ _ (by omega) (by first | assumption | omega | exact mx_ch_0) (lv_sub hl [1, 2, 3, 0] rfl) hP hD hS
set_option maxHeartbeats 4000000 in
set_option maxRecDepth 100000 in
theorem s_Reg_reset_b10 {p : Program} {l : Launch} {e : Env} {R : Room} {s : State} {m : MethodId} {args : Array Value} {below : List Frame} {meth : Method} {c : Code} {K : mx_K} {A : Nat → Prop} (rg : Nat) (ge : Nat) (sp : Nat) (sk : Nat) (fg : Nat → Int64) (fp : Nat → Int64) (fk : Nat → Int64) (d : Nat) (lo : Nat) (gl : Nat) (F : mx_F p s m args c b_Reg_reset 2 "LittleMix$Registers" K A) (hr : meth.sig.returnType = none) (hlk : meth.locks = false) (hRf : 2 ≤ R.frames) (hRl : 43 ≤ R.locals)
    : ∀ n : Nat, ∀ (n1 : Nat) (f_sp : Nat → Int64) (f_ge : Nat → Int64) (ls : Array Slot) (H : Heap) (locs : List Loc), 28 - n1 < n → (n1 ≤ 28) → lv_has ls 2 [(0, .ref rg), (1, .int (nI n1))] → va_P K.1 mx_cl [(sp, .inl (K.2.1.1, 28, .inr (.inl f_sp))), (sk, .inl (K.2.1.1, 300, .inr (.inl fk))), (rg, .inr (2, [.int (nI d), .int (nI lo), .int (nI gl), .ref ge, .ref sp, .ref sk])), (ge, .inl (K.2.1.1, 256, .inr (.inl f_ge)))] H → va_D A [(sp, .inl (K.2.1.1, 28, .inr (.inl f_sp))), (sk, .inl (K.2.1.1, 300, .inr (.inl fk))), (rg, .inr (2, [.int (nI d), .int (nI lo), .int (nI gl), .ref ge, .ref sp, .ref sk])), (ge, .inl (K.2.1.1, 256, .inr (.inl f_ge)))] → va_S A s.heap H locs → W p l e R s m args below meth c H locs 0 0 (MQ below (va_Qv (fun u : va_W => ∃ (d2 : Nat) (lo2 : Nat) (gl2 : Nat) (fg2 : Nat → Int64) (fp2 : Nat → Int64) (fk2 : Nat → Int64), (d2 ≤ 300) ∧ (lo2 ≤ gl2) ∧ (gl2 ≤ 255) ∧ (mx_ch fk2 d2) ∧ u = [(rg, .inr (2, [.int (nI d2), .int (nI lo2), .int (nI gl2), .ref ge, .ref sp, .ref sk])), (ge, .inl (K.2.1.1, 256, .inr (.inl fg2))), (sp, .inl (K.2.1.1, 28, .inr (.inl fp2))), (sk, .inl (K.2.1.1, 300, .inr (.inl fk2)))]) (mx_B K A (fun u : va_W => u)) A) args s 0 0 A) (F0 m 10 ls []) := by
  obtain ⟨hx, hb, hml, hown, hT, hK, hN, hE, hA⟩ := id F
  intro n
  induction n with
  | zero =>
    intro n1 f_sp f_ge ls H locs hmu h1 hl hP hD hS
    exact absurd hmu (Nat.not_lt_zero _)
  | succ n ih =>
    intro n1 f_sp f_ge ls H locs hmu h1 hl hP hD hS
    refine lv_iload_n hx hb d_Reg_reset_10 rfl (lv_at hl 1 rfl) ?_
    refine lv_aload_n hx hb d_Reg_reset_11 rfl (lv_at hl 0 rfl) ?_
    refine va_get (D := K.1) (ci := 2) (v := .ref sp) (C := R_Reg) (T := T_Reg) (N := 6) hx hb hT in_Reg hown hK hP 2 rfl rfl 4 (by decide) (hT _ k_49) (fun _ h9 => h9) rfl d_Reg_reset_12 ?_
    refine va_alen (v := 28) hx hb hK hP 0 0 rfl rfl rfl d_Reg_reset_15 ?_
    refine lv_icmp_ge (tgt := 32) hx hb d_Reg_reset_16 (by decide) (fun h_1 => ?_) (fun h_1 => ?_)
    · have h_1n := mx_fLe (a := 28) (b := n1) (by omega) (by omega) h_1
      refine lv_aload_n hx hb d_Reg_reset_32 rfl (lv_at hl 0 rfl) ?_
      refine lv_iconst (v := 0) hx hb d_Reg_reset_33 (by decide) ?_
      refine va_put (D := K.1) (ci := 2) (v := .int 0) (ty := .int) (C := R_Reg) (T := T_Reg) (N := 6) hx hb hT in_Reg t_Reg t_Reg_ok n_Reg hown hK hP hD hS 2 rfl rfl 0 (by decide) (hT _ k_51) (fun _ h9 => h9) rfl (by decide +kernel) rfl rfl (Nat.le_of_ble_eq_true rfl) d_Reg_reset_34 (fun H locs hP hD hS => ?_)
      have hP : va_P K.1 mx_cl [(sp, .inl (K.2.1.1, 28, .inr (.inl f_sp))), (sk, .inl (K.2.1.1, 300, .inr (.inl fk))), (rg, .inr (2, [.int 0, .int (nI lo), .int (nI gl), .ref ge, .ref sp, .ref sk])), (ge, .inl (K.2.1.1, 256, .inr (.inl f_ge)))] H := hP
      have hD : va_D A [(sp, .inl (K.2.1.1, 28, .inr (.inl f_sp))), (sk, .inl (K.2.1.1, 300, .inr (.inl fk))), (rg, .inr (2, [.int 0, .int (nI lo), .int (nI gl), .ref ge, .ref sp, .ref sk])), (ge, .inl (K.2.1.1, 256, .inr (.inl f_ge)))] := hD
      refine lv_aload_n hx hb d_Reg_reset_37 rfl (lv_at hl 0 rfl) ?_
      refine lv_iconst (v := 0) hx hb d_Reg_reset_38 (by decide) ?_
      refine va_put (D := K.1) (ci := 2) (v := .int 0) (ty := .int) (C := R_Reg) (T := T_Reg) (N := 6) hx hb hT in_Reg t_Reg t_Reg_ok n_Reg hown hK hP hD hS 2 rfl rfl 1 (by decide) (hT _ k_53) (fun _ h9 => h9) rfl (by decide +kernel) rfl rfl (Nat.le_of_ble_eq_true rfl) d_Reg_reset_39 (fun H locs hP hD hS => ?_)
      have hP : va_P K.1 mx_cl [(sp, .inl (K.2.1.1, 28, .inr (.inl f_sp))), (sk, .inl (K.2.1.1, 300, .inr (.inl fk))), (rg, .inr (2, [.int 0, .int 0, .int (nI gl), .ref ge, .ref sp, .ref sk])), (ge, .inl (K.2.1.1, 256, .inr (.inl f_ge)))] H := hP
      have hD : va_D A [(sp, .inl (K.2.1.1, 28, .inr (.inl f_sp))), (sk, .inl (K.2.1.1, 300, .inr (.inl fk))), (rg, .inr (2, [.int 0, .int 0, .int (nI gl), .ref ge, .ref sp, .ref sk])), (ge, .inl (K.2.1.1, 256, .inr (.inl f_ge)))] := hD
      refine lv_aload_n hx hb d_Reg_reset_42 rfl (lv_at hl 0 rfl) ?_
      refine lv_sipush (v := 255) hx hb d_Reg_reset_43 (by decide) ?_
      refine va_put (D := K.1) (ci := 2) (v := .int 255) (ty := .int) (C := R_Reg) (T := T_Reg) (N := 6) hx hb hT in_Reg t_Reg t_Reg_ok n_Reg hown hK hP hD hS 2 rfl rfl 2 (by decide) (hT _ k_54) (fun _ h9 => h9) rfl (by decide +kernel) rfl rfl (Nat.le_of_ble_eq_true rfl) d_Reg_reset_46 (fun H locs hP hD hS => ?_)
      have hP : va_P K.1 mx_cl [(sp, .inl (K.2.1.1, 28, .inr (.inl f_sp))), (sk, .inl (K.2.1.1, 300, .inr (.inl fk))), (rg, .inr (2, [.int 0, .int 0, .int 255, .ref ge, .ref sp, .ref sk])), (ge, .inl (K.2.1.1, 256, .inr (.inl f_ge)))] H := hP
      have hD : va_D A [(sp, .inl (K.2.1.1, 28, .inr (.inl f_sp))), (sk, .inl (K.2.1.1, 300, .inr (.inl fk))), (rg, .inr (2, [.int 0, .int 0, .int 255, .ref ge, .ref sp, .ref sk])), (ge, .inl (K.2.1.1, 256, .inr (.inl f_ge)))] := hD
      exact mx_rv F hr hlk hP hD hS [(rg, .inr (2, [.int (nI 0), .int (nI 0), .int (nI 255), .ref ge, .ref sp, .ref sk])), (ge, .inl (K.2.1.1, 256, .inr (.inl f_ge))), (sp, .inl (K.2.1.1, 28, .inr (.inl f_sp))), (sk, .inl (K.2.1.1, 300, .inr (.inl fk)))] [2, 3, 0, 1] rfl (by decide) ⟨0, 0, 255, f_ge, f_sp, fk, (by omega), (by omega), (by omega), mx_ch_0, rfl⟩ (by decide) (by decide) d_Reg_reset_49
    · have h_1n := mx_fNle (a := 28) (b := n1) (by omega) (by omega) h_1
      refine lv_aload_n hx hb d_Reg_reset_19 rfl (lv_at hl 0 rfl) ?_
      refine va_get (D := K.1) (ci := 2) (v := .ref sp) (C := R_Reg) (T := T_Reg) (N := 6) hx hb hT in_Reg hown hK hP 2 rfl rfl 4 (by decide) (hT _ k_49) (fun _ h9 => h9) rfl d_Reg_reset_20 ?_
      refine lv_iload_n hx hb d_Reg_reset_23 rfl (lv_at hl 1 rfl) ?_
      refine lv_lconst (v := 0) hx hb d_Reg_reset_24 (by decide) ?_
      refine va_last hx hb hK hP hD hS 0 0 rfl rfl (i := nI n1) (x := 0) (vp_in_nI (n := n1) (N := 28) (by omega) (by decide)) d_Reg_reset_25 (fun H locs hP hD hS => ?_)
      have hP : va_P K.1 mx_cl [(sp, .inl (K.2.1.1, 28, .inr (.inl (vp_updL f_sp (nI n1).toNatClampNeg 0)))), (sk, .inl (K.2.1.1, 300, .inr (.inl fk))), (rg, .inr (2, [.int (nI d), .int (nI lo), .int (nI gl), .ref ge, .ref sp, .ref sk])), (ge, .inl (K.2.1.1, 256, .inr (.inl f_ge)))] H := hP
      have hD : va_D A [(sp, .inl (K.2.1.1, 28, .inr (.inl (vp_updL f_sp (nI n1).toNatClampNeg 0)))), (sk, .inl (K.2.1.1, 300, .inr (.inl fk))), (rg, .inr (2, [.int (nI d), .int (nI lo), .int (nI gl), .ref ge, .ref sp, .ref sk])), (ge, .inl (K.2.1.1, 256, .inr (.inl f_ge)))] := hD
      generalize ef_2 : vp_updL f_sp (nI n1).toNatClampNeg 0 = f_2 at hP hD
      refine lv_iinc (lv' := [(1, .int (nI (n1 + 1))), (0, .ref rg)]) (v := nI (n1 + 1)) (k := 1) hx hb d_Reg_reset_26 hl rfl (mx_inc n1) (by decide) rfl (fun ls hl => ?_)
      refine lv_goto (tgt := 10) hx hb d_Reg_reset_29 (by decide) ?_
      exact ih (n1 + 1) f_2 f_ge _ _ _ (by omega) (by first | assumption | omega | exact mx_ch_0) (lv_sub hl [1, 0] rfl) hP hD hS
set_option maxHeartbeats 4000000 in
set_option maxRecDepth 100000 in
theorem s_Reg_reset (l : Launch) (K : mx_K) (rg : Nat) (ge : Nat) (sp : Nat) (sk : Nat) (fg : Nat → Int64) (fp : Nat → Int64) (fk : Nat → Int64) (d : Nat) (lo : Nat) (gl : Nat) (sz : Nat) : mx_V l y_Reg_reset b_Reg_reset 2 { frames := 2, cells := 0, slots := 0, locals := 43 } K [.ref rg] [(rg, .inr (2, [.int (nI d), .int (nI lo), .int (nI gl), .ref ge, .ref sp, .ref sk])), (ge, .inl (K.2.1.1, 256, .inr (.inl fg))), (sp, .inl (K.2.1.1, 28, .inr (.inl fp))), (sk, .inl (K.2.1.1, 300, .inr (.inl fk)))] sz (fun u : va_W => ∃ (d2 : Nat) (lo2 : Nat) (gl2 : Nat) (fg2 : Nat → Int64) (fp2 : Nat → Int64) (fk2 : Nat → Int64), (d2 ≤ 300) ∧ (lo2 ≤ gl2) ∧ (gl2 ≤ 255) ∧ (mx_ch fk2 d2) ∧ u = [(rg, .inr (2, [.int (nI d2), .int (nI lo2), .int (nI gl2), .ref ge, .ref sp, .ref sk])), (ge, .inl (K.2.1.1, 256, .inr (.inl fg2))), (sp, .inl (K.2.1.1, 28, .inr (.inl fp2))), (sk, .inl (K.2.1.1, 300, .inr (.inl fk2)))]) (fun u : va_W => u) := by
  refine mx_of (by decide) (Nat.le_of_ble_eq_true rfl) ?_
  intro p e s m below meth c A ls H locs hAe F hr hlk hin hsz hP hD hS hl
  rw [hAe]
  have hl : lv_has ls 2 [(0, .ref rg)] := hl
  obtain ⟨hx, hb, hml, hown, hT, hK, hN, hE, hA⟩ := id F
  refine lv_aload_n hx hb d_Reg_reset_0 rfl (lv_at hl 0 rfl) ?_
  refine lv_iconst (v := 0) hx hb d_Reg_reset_1 (by decide) ?_
  refine lv_sipush (v := 256) hx hb d_Reg_reset_2 (by decide) ?_
  refine mx_cv (wr := [(sp, .inl (K.2.1.1, 28, .inr (.inl fp))), (sk, .inl (K.2.1.1, 300, .inr (.inl fk)))]) F (mx_runV (As := [.int 0, .int 256]) (rest := []) (n := 2) F (s_Reg_clearFrom l K rg 0 256 ge sp sk fg d lo gl H.size (by omega)) k_704 (Or.inl k_701) k_703 sl_Reg_clearFrom k_3 p_Reg_clearFrom rfl rfl hP hD hS [0, 1] rfl (by decide) (va_recv (q := (R_Reg, T_Reg, 6)) (ci := 2) (q0 := 0) hK hP rfl rfl) rfl hl.1 rfl (Nat.le_of_ble_eq_true rfl) ⟨by decide, by decide⟩ ⟨by decide, by decide⟩ d_Reg_reset_5) hP hD hS [0, 1] [2, 3] rfl rfl (by decide) (by decide) (fun u_2 H locs hq_1 hP hD hS => ?_)
  obtain ⟨w_4, rfl⟩ := hq_1
  have hP : va_P K.1 mx_cl [(sp, .inl (K.2.1.1, 28, .inr (.inl fp))), (sk, .inl (K.2.1.1, 300, .inr (.inl fk))), (rg, .inr (2, [.int (nI d), .int (nI lo), .int (nI gl), .ref ge, .ref sp, .ref sk])), (ge, .inl (K.2.1.1, 256, .inr (.inl w_4)))] H := hP
  have hD : va_D A [(sp, .inl (K.2.1.1, 28, .inr (.inl fp))), (sk, .inl (K.2.1.1, 300, .inr (.inl fk))), (rg, .inr (2, [.int (nI d), .int (nI lo), .int (nI gl), .ref ge, .ref sp, .ref sk])), (ge, .inl (K.2.1.1, 256, .inr (.inl w_4)))] := hD
  refine W.cs (cells' := 0) (slots' := 0) rfl rfl ?_
  refine lv_iconst (v := 0) hx hb d_Reg_reset_8 (by decide) ?_
  refine lv_istore_n (lv' := [(1, .int 0), (0, .ref rg)]) hx hb d_Reg_reset_9 rfl hl (by decide) rfl (fun ls hl => ?_)
  exact s_Reg_reset_b10 rg ge sp sk fg fp fk d lo gl F hr hlk (by decide) (by decide) (28 - 0 + 1) 0 fp w_4 _ _ _ (by omega) (by first | assumption | omega | exact mx_ch_0) (lv_sub hl [1, 0] rfl) hP hD hS
set_option maxHeartbeats 4000000 in
set_option maxRecDepth 100000 in
theorem s_Reg_read (l : Launch) (K : mx_K) (rg : Nat) (k : Int32) (ge : Nat) (sp : Nat) (sk : Nat) (fg : Nat → Int64) (d : Nat) (lo : Nat) (gl : Nat) (sz : Nat) : mx_L l y_Reg_read b_Reg_read 2 { frames := 1, cells := 0, slots := 0, locals := 20 } K [.ref rg, .int k] [(rg, .inr (2, [.int (nI d), .int (nI lo), .int (nI gl), .ref ge, .ref sp, .ref sk])), (ge, .inl (K.2.1.1, 256, .inr (.inl fg)))] sz (fun (r : Int64) (u : Unit) => True) (fun u : Unit => [(rg, .inr (2, [.int (nI d), .int (nI lo), .int (nI gl), .ref ge, .ref sp, .ref sk])), (ge, .inl (K.2.1.1, 256, .inr (.inl fg)))]) := by
  refine mx_of (by decide) (Nat.le_of_ble_eq_true rfl) ?_
  intro p e s m below meth c A ls H locs hAe F hr hlk hin hsz hP hD hS hl
  rw [hAe]
  have hl : lv_has ls 2 [(0, .ref rg), (1, .int k)] := hl
  obtain ⟨hx, hb, hml, hown, hT, hK, hN, hE, hA⟩ := id F
  refine lv_iload_n hx hb d_Reg_read_0 rfl (lv_at hl 1 rfl) ?_
  refine lv_if_lt (tgt := 20) hx hb d_Reg_read_1 (by decide) (fun h1 => ?_) (fun h1 => ?_)
  · refine lv_lconst (v := 0) hx hb d_Reg_read_20 (by decide) ?_
    exact mx_rl F hr hlk hP hD hS () [0, 1] rfl (by decide) trivial (by decide) (by decide) d_Reg_read_21
  · refine lv_iload_n hx hb d_Reg_read_4 rfl (lv_at hl 1 rfl) ?_
    refine lv_sipush (v := 255) hx hb d_Reg_read_5 (by decide) ?_
    refine lv_icmp_gt (tgt := 20) hx hb d_Reg_read_8 (by decide) (fun h8 => ?_) (fun h8 => ?_)
    · refine lv_lconst (v := 0) hx hb d_Reg_read_20 (by decide) ?_
      exact mx_rl F hr hlk hP hD hS () [0, 1] rfl (by decide) trivial (by decide) (by decide) d_Reg_read_21
    · refine lv_aload_n hx hb d_Reg_read_11 rfl (lv_at hl 0 rfl) ?_
      refine va_get (D := K.1) (ci := 2) (v := .ref ge) (C := R_Reg) (T := T_Reg) (N := 6) hx hb hT in_Reg hown hK hP 0 rfl rfl 3 (by decide) (hT _ k_48) (fun _ h9 => h9) rfl d_Reg_read_12 ?_
      refine lv_iload_n hx hb d_Reg_read_15 rfl (lv_at hl 1 rfl) ?_
      refine va_lald hx hb hK hP 1 0 rfl rfl (i := k) (mx_in (N := 256) h1 (mx_lt (a := 255) h8) (by decide)) d_Reg_read_16 ?_
      refine lv_topl (fun z_1 ez_1 => ?_)
      refine lv_goto (tgt := 21) hx hb d_Reg_read_17 (by decide) ?_
      exact mx_rl F hr hlk hP hD hS () [0, 1] rfl (by decide) trivial (by decide) (by decide) d_Reg_read_21
set_option maxHeartbeats 4000000 in
set_option maxRecDepth 100000 in
theorem s_Reg_write (l : Launch) (K : mx_K) (rg : Nat) (k : Int32) (v : Int64) (ge : Nat) (sp : Nat) (sk : Nat) (fg : Nat → Int64) (d : Nat) (lo : Nat) (gl : Nat) (sz : Nat) (hlo : lo ≤ gl) (hgl : gl ≤ 255) : mx_V l y_Reg_write b_Reg_write 4 { frames := 1, cells := 0, slots := 0, locals := 20 } K [.ref rg, .int k, .long v] [(rg, .inr (2, [.int (nI d), .int (nI lo), .int (nI gl), .ref ge, .ref sp, .ref sk])), (ge, .inl (K.2.1.1, 256, .inr (.inl fg)))] sz (fun u : va_W => ∃ (lo2 : Nat) (fg2 : Nat → Int64), (lo2 ≤ gl) ∧ u = [(rg, .inr (2, [.int (nI d), .int (nI lo2), .int (nI gl), .ref ge, .ref sp, .ref sk])), (ge, .inl (K.2.1.1, 256, .inr (.inl fg2)))]) (fun u : va_W => u) := by
  refine mx_of (by decide) (Nat.le_of_ble_eq_true rfl) ?_
  intro p e s m below meth c A ls H locs hAe F hr hlk hin hsz hP hD hS hl
  rw [hAe]
  have hl : lv_has ls 4 [(0, .ref rg), (1, .int k), (2, .long v)] := hl
  obtain ⟨hx, hb, hml, hown, hT, hK, hN, hE, hA⟩ := id F
  refine lv_iload_n hx hb d_Reg_write_0 rfl (lv_at hl 1 rfl) ?_
  refine lv_if_lt (tgt := 11) hx hb d_Reg_write_1 (by decide) (fun h1 => ?_) (fun h1 => ?_)
  · exact mx_rv F hr hlk hP hD hS [(rg, .inr (2, [.int (nI d), .int (nI lo), .int (nI gl), .ref ge, .ref sp, .ref sk])), (ge, .inl (K.2.1.1, 256, .inr (.inl fg)))] [0, 1] rfl (by decide) ⟨lo, fg, (by first | assumption | omega | exact mx_ch_0), rfl⟩ (by decide) (by decide) d_Reg_write_11
  · refine lv_iload_n hx hb d_Reg_write_4 rfl (lv_at hl 1 rfl) ?_
    refine lv_sipush (v := 255) hx hb d_Reg_write_5 (by decide) ?_
    refine lv_icmp_le (tgt := 12) hx hb d_Reg_write_8 (by decide) (fun h8 => ?_) (fun h8 => ?_)
    · obtain ⟨j, hj, rfl⟩ := mx_upto (n := 255) (by decide) h1 (Int32.not_lt.mpr h8)
      refine lv_iload_n hx hb d_Reg_write_12 rfl (lv_at hl 1 rfl) ?_
      refine lv_aload_n hx hb d_Reg_write_13 rfl (lv_at hl 0 rfl) ?_
      refine va_get (D := K.1) (ci := 2) (v := .int (nI gl)) (C := R_Reg) (T := T_Reg) (N := 6) hx hb hT in_Reg hown hK hP 0 rfl rfl 2 (by decide) (hT _ k_54) (fun _ h9 => h9) rfl d_Reg_write_14 ?_
      refine lv_icmp_ge (tgt := 35) hx hb d_Reg_write_17 (by decide) (fun h_1 => ?_) (fun h_1 => ?_)
      · have h_1n := mx_fLe (a := gl) (b := j) (by omega) (by omega) h_1
        refine lv_aload_n hx hb d_Reg_write_35 rfl (lv_at hl 0 rfl) ?_
        refine va_get (D := K.1) (ci := 2) (v := .ref ge) (C := R_Reg) (T := T_Reg) (N := 6) hx hb hT in_Reg hown hK hP 0 rfl rfl 3 (by decide) (hT _ k_48) (fun _ h9 => h9) rfl d_Reg_write_36 ?_
        refine lv_iload_n hx hb d_Reg_write_39 rfl (lv_at hl 1 rfl) ?_
        refine lv_lload_n hx hb d_Reg_write_40 rfl (lv_at hl 2 rfl) ?_
        refine va_last hx hb hK hP hD hS 1 0 rfl rfl (i := nI j) (x := v) (vp_in_nI (n := j) (N := 256) (by omega) (by decide)) d_Reg_write_41 (fun H locs hP hD hS => ?_)
        have hP : va_P K.1 mx_cl [(rg, .inr (2, [.int (nI d), .int (nI lo), .int (nI gl), .ref ge, .ref sp, .ref sk])), (ge, .inl (K.2.1.1, 256, .inr (.inl (vp_updL fg (nI j).toNatClampNeg v))))] H := hP
        have hD : va_D A [(rg, .inr (2, [.int (nI d), .int (nI lo), .int (nI gl), .ref ge, .ref sp, .ref sk])), (ge, .inl (K.2.1.1, 256, .inr (.inl (vp_updL fg (nI j).toNatClampNeg v))))] := hD
        generalize ef_2 : vp_updL fg (nI j).toNatClampNeg v = f_2 at hP hD
        exact mx_rv F hr hlk hP hD hS [(rg, .inr (2, [.int (nI d), .int (nI lo), .int (nI gl), .ref ge, .ref sp, .ref sk])), (ge, .inl (K.2.1.1, 256, .inr (.inl f_2)))] [0, 1] rfl (by decide) ⟨lo, f_2, (by first | assumption | omega | exact mx_ch_0), rfl⟩ (by decide) (by decide) d_Reg_write_42
      · have h_1n := mx_fNle (a := gl) (b := j) (by omega) (by omega) h_1
        refine lv_iload_n hx hb d_Reg_write_20 rfl (lv_at hl 1 rfl) ?_
        refine lv_aload_n hx hb d_Reg_write_21 rfl (lv_at hl 0 rfl) ?_
        refine va_get (D := K.1) (ci := 2) (v := .int (nI lo)) (C := R_Reg) (T := T_Reg) (N := 6) hx hb hT in_Reg hown hK hP 0 rfl rfl 1 (by decide) (hT _ k_53) (fun _ h9 => h9) rfl d_Reg_write_22 ?_
        refine lv_icmp_lt (tgt := 35) hx hb d_Reg_write_25 (by decide) (fun h_3 => ?_) (fun h_3 => ?_)
        · have h_3n := mx_fLt (a := j) (b := lo) (by omega) (by omega) h_3
          refine lv_aload_n hx hb d_Reg_write_35 rfl (lv_at hl 0 rfl) ?_
          refine va_get (D := K.1) (ci := 2) (v := .ref ge) (C := R_Reg) (T := T_Reg) (N := 6) hx hb hT in_Reg hown hK hP 0 rfl rfl 3 (by decide) (hT _ k_48) (fun _ h9 => h9) rfl d_Reg_write_36 ?_
          refine lv_iload_n hx hb d_Reg_write_39 rfl (lv_at hl 1 rfl) ?_
          refine lv_lload_n hx hb d_Reg_write_40 rfl (lv_at hl 2 rfl) ?_
          refine va_last hx hb hK hP hD hS 1 0 rfl rfl (i := nI j) (x := v) (vp_in_nI (n := j) (N := 256) (by omega) (by decide)) d_Reg_write_41 (fun H locs hP hD hS => ?_)
          have hP : va_P K.1 mx_cl [(rg, .inr (2, [.int (nI d), .int (nI lo), .int (nI gl), .ref ge, .ref sp, .ref sk])), (ge, .inl (K.2.1.1, 256, .inr (.inl (vp_updL fg (nI j).toNatClampNeg v))))] H := hP
          have hD : va_D A [(rg, .inr (2, [.int (nI d), .int (nI lo), .int (nI gl), .ref ge, .ref sp, .ref sk])), (ge, .inl (K.2.1.1, 256, .inr (.inl (vp_updL fg (nI j).toNatClampNeg v))))] := hD
          generalize ef_4 : vp_updL fg (nI j).toNatClampNeg v = f_4 at hP hD
          exact mx_rv F hr hlk hP hD hS [(rg, .inr (2, [.int (nI d), .int (nI lo), .int (nI gl), .ref ge, .ref sp, .ref sk])), (ge, .inl (K.2.1.1, 256, .inr (.inl f_4)))] [0, 1] rfl (by decide) ⟨lo, f_4, (by first | assumption | omega | exact mx_ch_0), rfl⟩ (by decide) (by decide) d_Reg_write_42
        · have h_3n := mx_fNlt (a := j) (b := lo) (by omega) (by omega) h_3
          refine lv_aload_n hx hb d_Reg_write_28 rfl (lv_at hl 0 rfl) ?_
          refine lv_iload_n hx hb d_Reg_write_29 rfl (lv_at hl 1 rfl) ?_
          refine lv_iconst (v := 1) hx hb d_Reg_write_30 (by decide) ?_
          refine lv_iadd hx hb d_Reg_write_31 ?_
          refine lv_topi (fun z_5 ez_5 => ?_)
          obtain rfl : z_5 = nI (j + 1) := ez_5.trans (nI_add j 1)
          refine va_put (D := K.1) (ci := 2) (v := .int (nI (j + 1))) (ty := .int) (C := R_Reg) (T := T_Reg) (N := 6) hx hb hT in_Reg t_Reg t_Reg_ok n_Reg hown hK hP hD hS 0 rfl rfl 1 (by decide) (hT _ k_53) (fun _ h9 => h9) rfl (by decide +kernel) rfl rfl (Nat.le_of_ble_eq_true rfl) d_Reg_write_32 (fun H locs hP hD hS => ?_)
          have hP : va_P K.1 mx_cl [(rg, .inr (2, [.int (nI d), .int (nI (j + 1)), .int (nI gl), .ref ge, .ref sp, .ref sk])), (ge, .inl (K.2.1.1, 256, .inr (.inl fg)))] H := hP
          have hD : va_D A [(rg, .inr (2, [.int (nI d), .int (nI (j + 1)), .int (nI gl), .ref ge, .ref sp, .ref sk])), (ge, .inl (K.2.1.1, 256, .inr (.inl fg)))] := hD
          refine lv_aload_n hx hb d_Reg_write_35 rfl (lv_at hl 0 rfl) ?_
          refine va_get (D := K.1) (ci := 2) (v := .ref ge) (C := R_Reg) (T := T_Reg) (N := 6) hx hb hT in_Reg hown hK hP 0 rfl rfl 3 (by decide) (hT _ k_48) (fun _ h9 => h9) rfl d_Reg_write_36 ?_
          refine lv_iload_n hx hb d_Reg_write_39 rfl (lv_at hl 1 rfl) ?_
          refine lv_lload_n hx hb d_Reg_write_40 rfl (lv_at hl 2 rfl) ?_
          refine va_last hx hb hK hP hD hS 1 0 rfl rfl (i := nI j) (x := v) (vp_in_nI (n := j) (N := 256) (by omega) (by decide)) d_Reg_write_41 (fun H locs hP hD hS => ?_)
          have hP : va_P K.1 mx_cl [(rg, .inr (2, [.int (nI d), .int (nI (j + 1)), .int (nI gl), .ref ge, .ref sp, .ref sk])), (ge, .inl (K.2.1.1, 256, .inr (.inl (vp_updL fg (nI j).toNatClampNeg v))))] H := hP
          have hD : va_D A [(rg, .inr (2, [.int (nI d), .int (nI (j + 1)), .int (nI gl), .ref ge, .ref sp, .ref sk])), (ge, .inl (K.2.1.1, 256, .inr (.inl (vp_updL fg (nI j).toNatClampNeg v))))] := hD
          generalize ef_6 : vp_updL fg (nI j).toNatClampNeg v = f_6 at hP hD
          exact mx_rv F hr hlk hP hD hS [(rg, .inr (2, [.int (nI d), .int (nI (j + 1)), .int (nI gl), .ref ge, .ref sp, .ref sk])), (ge, .inl (K.2.1.1, 256, .inr (.inl f_6)))] [0, 1] rfl (by decide) ⟨(j + 1), f_6, (by first | assumption | omega | exact mx_ch_0), rfl⟩ (by decide) (by decide) d_Reg_write_42
    · exact mx_rv F hr hlk hP hD hS [(rg, .inr (2, [.int (nI d), .int (nI lo), .int (nI gl), .ref ge, .ref sp, .ref sk])), (ge, .inl (K.2.1.1, 256, .inr (.inl fg)))] [0, 1] rfl (by decide) ⟨lo, fg, (by first | assumption | omega | exact mx_ch_0), rfl⟩ (by decide) (by decide) d_Reg_write_11
set_option maxHeartbeats 4000000 in
set_option maxRecDepth 100000 in
theorem s_Reg_get (l : Launch) (K : mx_K) (rg : Nat) (k : Int32) (ge : Nat) (sp : Nat) (sk : Nat) (fp : Nat → Int64) (d : Nat) (lo : Nat) (gl : Nat) (sz : Nat) : mx_L l y_Reg_get b_Reg_get 2 { frames := 1, cells := 0, slots := 0, locals := 20 } K [.ref rg, .int k] [(rg, .inr (2, [.int (nI d), .int (nI lo), .int (nI gl), .ref ge, .ref sp, .ref sk])), (sp, .inl (K.2.1.1, 28, .inr (.inl fp)))] sz (fun (r : Int64) (u : Unit) => True) (fun u : Unit => [(rg, .inr (2, [.int (nI d), .int (nI lo), .int (nI gl), .ref ge, .ref sp, .ref sk])), (sp, .inl (K.2.1.1, 28, .inr (.inl fp)))]) := by
  refine mx_of (by decide) (Nat.le_of_ble_eq_true rfl) ?_
  intro p e s m below meth c A ls H locs hAe F hr hlk hin hsz hP hD hS hl
  rw [hAe]
  have hl : lv_has ls 2 [(0, .ref rg), (1, .int k)] := hl
  obtain ⟨hx, hb, hml, hown, hT, hK, hN, hE, hA⟩ := id F
  refine lv_iload_n hx hb d_Reg_get_0 rfl (lv_at hl 1 rfl) ?_
  refine lv_bipush (v := 19) hx hb d_Reg_get_1 (by decide) ?_
  refine lv_icmp_ne (tgt := 12) hx hb d_Reg_get_3 (by decide) (fun h_1 => ?_) (fun h_1 => ?_)
  · refine lv_iload_n hx hb d_Reg_get_12 rfl (lv_at hl 1 rfl) ?_
    refine lv_bipush (v := 20) hx hb d_Reg_get_13 (by decide) ?_
    refine lv_icmp_ne (tgt := 24) hx hb d_Reg_get_15 (by decide) (fun h_2 => ?_) (fun h_2 => ?_)
    · refine lv_iload_n hx hb d_Reg_get_24 rfl (lv_at hl 1 rfl) ?_
      refine lv_if_lt (tgt := 46) hx hb d_Reg_get_25 (by decide) (fun h25 => ?_) (fun h25 => ?_)
      · refine lv_lconst (v := 0) hx hb d_Reg_get_46 (by decide) ?_
        exact mx_rl F hr hlk hP hD hS () [0, 1] rfl (by decide) trivial (by decide) (by decide) d_Reg_get_47
      · refine lv_iload_n hx hb d_Reg_get_28 rfl (lv_at hl 1 rfl) ?_
        refine lv_aload_n hx hb d_Reg_get_29 rfl (lv_at hl 0 rfl) ?_
        refine va_get (D := K.1) (ci := 2) (v := .ref sp) (C := R_Reg) (T := T_Reg) (N := 6) hx hb hT in_Reg hown hK hP 0 rfl rfl 4 (by decide) (hT _ k_49) (fun _ h9 => h9) rfl d_Reg_get_30 ?_
        refine va_alen (v := 28) hx hb hK hP 1 0 rfl rfl rfl d_Reg_get_33 ?_
        refine lv_icmp_ge (tgt := 46) hx hb d_Reg_get_34 (by decide) (fun h34 => ?_) (fun h34 => ?_)
        · refine lv_lconst (v := 0) hx hb d_Reg_get_46 (by decide) ?_
          exact mx_rl F hr hlk hP hD hS () [0, 1] rfl (by decide) trivial (by decide) (by decide) d_Reg_get_47
        · refine lv_aload_n hx hb d_Reg_get_37 rfl (lv_at hl 0 rfl) ?_
          refine va_get (D := K.1) (ci := 2) (v := .ref sp) (C := R_Reg) (T := T_Reg) (N := 6) hx hb hT in_Reg hown hK hP 0 rfl rfl 4 (by decide) (hT _ k_49) (fun _ h9 => h9) rfl d_Reg_get_38 ?_
          refine lv_iload_n hx hb d_Reg_get_41 rfl (lv_at hl 1 rfl) ?_
          refine va_lald hx hb hK hP 1 0 rfl rfl (i := k) (mx_in (N := 28) h25 h34 (by decide)) d_Reg_get_42 ?_
          refine lv_topl (fun z_3 ez_3 => ?_)
          refine lv_goto (tgt := 47) hx hb d_Reg_get_43 (by decide) ?_
          exact mx_rl F hr hlk hP hD hS () [0, 1] rfl (by decide) trivial (by decide) (by decide) d_Reg_get_47
    · refine lv_aload_n hx hb d_Reg_get_18 rfl (lv_at hl 0 rfl) ?_
      refine va_get (D := K.1) (ci := 2) (v := .int (nI lo)) (C := R_Reg) (T := T_Reg) (N := 6) hx hb hT in_Reg hown hK hP 0 rfl rfl 1 (by decide) (hT _ k_53) (fun _ h9 => h9) rfl d_Reg_get_19 ?_
      refine lv_i2l (v := (nI lo).toInt64) hx hb d_Reg_get_22 rfl ?_
      exact mx_rl F hr hlk hP hD hS () [0, 1] rfl (by decide) trivial (by decide) (by decide) d_Reg_get_23
  · refine lv_aload_n hx hb d_Reg_get_6 rfl (lv_at hl 0 rfl) ?_
    refine va_get (D := K.1) (ci := 2) (v := .int (nI gl)) (C := R_Reg) (T := T_Reg) (N := 6) hx hb hT in_Reg hown hK hP 0 rfl rfl 2 (by decide) (hT _ k_54) (fun _ h9 => h9) rfl d_Reg_get_7 ?_
    refine lv_i2l (v := (nI gl).toInt64) hx hb d_Reg_get_10 rfl ?_
    exact mx_rl F hr hlk hP hD hS () [0, 1] rfl (by decide) trivial (by decide) (by decide) d_Reg_get_11
set_option maxHeartbeats 4000000 in
set_option maxRecDepth 100000 in
theorem s_Reg_set (l : Launch) (K : mx_K) (rg : Nat) (k : Int32) (v : Int64) (ge : Nat) (sp : Nat) (sk : Nat) (fp : Nat → Int64) (d : Nat) (lo : Nat) (gl : Nat) (sz : Nat) : mx_V l y_Reg_set b_Reg_set 4 { frames := 1, cells := 0, slots := 0, locals := 20 } K [.ref rg, .int k, .long v] [(rg, .inr (2, [.int (nI d), .int (nI lo), .int (nI gl), .ref ge, .ref sp, .ref sk])), (sp, .inl (K.2.1.1, 28, .inr (.inl fp)))] sz (fun u : va_W => ∃ (fp2 : Nat → Int64), u = [(rg, .inr (2, [.int (nI d), .int (nI lo), .int (nI gl), .ref ge, .ref sp, .ref sk])), (sp, .inl (K.2.1.1, 28, .inr (.inl fp2)))]) (fun u : va_W => u) := by
  refine mx_of (by decide) (Nat.le_of_ble_eq_true rfl) ?_
  intro p e s m below meth c A ls H locs hAe F hr hlk hin hsz hP hD hS hl
  rw [hAe]
  have hl : lv_has ls 4 [(0, .ref rg), (1, .int k), (2, .long v)] := hl
  obtain ⟨hx, hb, hml, hown, hT, hK, hN, hE, hA⟩ := id F
  refine lv_iload_n hx hb d_Reg_set_0 rfl (lv_at hl 1 rfl) ?_
  refine lv_if_lt (tgt := 20) hx hb d_Reg_set_1 (by decide) (fun h1 => ?_) (fun h1 => ?_)
  · exact mx_rv F hr hlk hP hD hS [(rg, .inr (2, [.int (nI d), .int (nI lo), .int (nI gl), .ref ge, .ref sp, .ref sk])), (sp, .inl (K.2.1.1, 28, .inr (.inl fp)))] [0, 1] rfl (by decide) ⟨fp, rfl⟩ (by decide) (by decide) d_Reg_set_20
  · refine lv_iload_n hx hb d_Reg_set_4 rfl (lv_at hl 1 rfl) ?_
    refine lv_aload_n hx hb d_Reg_set_5 rfl (lv_at hl 0 rfl) ?_
    refine va_get (D := K.1) (ci := 2) (v := .ref sp) (C := R_Reg) (T := T_Reg) (N := 6) hx hb hT in_Reg hown hK hP 0 rfl rfl 4 (by decide) (hT _ k_49) (fun _ h9 => h9) rfl d_Reg_set_6 ?_
    refine va_alen (v := 28) hx hb hK hP 1 0 rfl rfl rfl d_Reg_set_9 ?_
    refine lv_icmp_ge (tgt := 20) hx hb d_Reg_set_10 (by decide) (fun h10 => ?_) (fun h10 => ?_)
    · exact mx_rv F hr hlk hP hD hS [(rg, .inr (2, [.int (nI d), .int (nI lo), .int (nI gl), .ref ge, .ref sp, .ref sk])), (sp, .inl (K.2.1.1, 28, .inr (.inl fp)))] [0, 1] rfl (by decide) ⟨fp, rfl⟩ (by decide) (by decide) d_Reg_set_20
    · refine lv_aload_n hx hb d_Reg_set_13 rfl (lv_at hl 0 rfl) ?_
      refine va_get (D := K.1) (ci := 2) (v := .ref sp) (C := R_Reg) (T := T_Reg) (N := 6) hx hb hT in_Reg hown hK hP 0 rfl rfl 4 (by decide) (hT _ k_49) (fun _ h9 => h9) rfl d_Reg_set_14 ?_
      refine lv_iload_n hx hb d_Reg_set_17 rfl (lv_at hl 1 rfl) ?_
      refine lv_lload_n hx hb d_Reg_set_18 rfl (lv_at hl 2 rfl) ?_
      refine va_last hx hb hK hP hD hS 1 0 rfl rfl (i := k) (x := v) (mx_in (N := 28) h1 h10 (by decide)) d_Reg_set_19 (fun H locs hP hD hS => ?_)
      have hP : va_P K.1 mx_cl [(rg, .inr (2, [.int (nI d), .int (nI lo), .int (nI gl), .ref ge, .ref sp, .ref sk])), (sp, .inl (K.2.1.1, 28, .inr (.inl (vp_updL fp k.toNatClampNeg v))))] H := hP
      have hD : va_D A [(rg, .inr (2, [.int (nI d), .int (nI lo), .int (nI gl), .ref ge, .ref sp, .ref sk])), (sp, .inl (K.2.1.1, 28, .inr (.inl (vp_updL fp k.toNatClampNeg v))))] := hD
      generalize ef_1 : vp_updL fp k.toNatClampNeg v = f_1 at hP hD
      exact mx_rv F hr hlk hP hD hS [(rg, .inr (2, [.int (nI d), .int (nI lo), .int (nI gl), .ref ge, .ref sp, .ref sk])), (sp, .inl (K.2.1.1, 28, .inr (.inl f_1)))] [0, 1] rfl (by decide) ⟨f_1, rfl⟩ (by decide) (by decide) d_Reg_set_20
