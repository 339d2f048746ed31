set_option maxHeartbeats 4000000 in
set_option maxRecDepth 100000 in
theorem lp_Reg_clearFrom {p : Program} {l : Launch} {e : Env} {R : Room} {s : State} {m : MethodId} {args : Array Value} {below : List Frame} {meth : Method} {c : Code} {cells slots : Nat} {Q : State → Prop} {K : mx_K} {A : Nat → Prop} (rg : Nat) (ge : Nat) (sk : Nat) (sp : Nat) (F : mx_F p s m args c b_Reg_clearFrom 4 "LittleMix$Registers" K A)
    (kk : ∀ (ls : Array Slot) (H : Heap) (locs : List Loc), lv_has ls 4 [(0, .ref rg)] → va_P K.1 mx_cl [(rg, .inr (2, [.int 0, .int 0, .int 255, .ref ge, .ref sp, .ref sk])), (ge, .inl (K.2.1.1, 256, .inr (.inl (fun _ => 0))))] H → va_D A [(rg, .inr (2, [.int 0, .int 0, .int 255, .ref ge, .ref sp, .ref sk])), (ge, .inl (K.2.1.1, 256, .inr (.inl (fun _ => 0))))] → va_S A s.heap H locs → W p l e R s m args below meth c H locs cells slots Q (F0 m 29 ls [])) :
    ∀ (n : Nat) (k : Nat) (ls : Array Slot) (H : Heap) (locs : List Loc), n + k = 256 → lv_has ls 4 [(3, .int (nI k)), (2, .int 256), (1, .int 0), (0, .ref rg)] → va_P K.1 mx_cl [(rg, .inr (2, [.int 0, .int 0, .int 255, .ref ge, .ref sp, .ref sk])), (ge, .inl (K.2.1.1, 256, .inr (.inl (fun _ => 0))))] H → va_D A [(rg, .inr (2, [.int 0, .int 0, .int 255, .ref ge, .ref sp, .ref sk])), (ge, .inl (K.2.1.1, 256, .inr (.inl (fun _ => 0))))] → va_S A s.heap H locs → W p l e R s m args below meth c H locs cells slots Q (F0 m 2 ls []) := by
  obtain ⟨hx, hb, hml, hown, hT, hK, hN, hE, hA⟩ := id F
  intro n
  induction n with
  | zero =>
    intro k ls H locs hn hl hP hD hS
    refine lv_iload_n hx hb d_Reg_clearFrom_2 rfl (lv_at hl 0 rfl) ?_
    refine lv_iload_n hx hb d_Reg_clearFrom_3 rfl (lv_at hl 1 rfl) ?_
    refine lv_icmp_ge (tgt := 29) hx hb d_Reg_clearFrom_4 (by decide) (fun h1 => ?_) (fun h => absurd (nI_le (a := 256) (b := k) (by omega) (by omega)) h)
    exact kk  _ _ _  (lv_sub hl [3] rfl) hP hD hS
  | succ n ih =>
    intro k ls H locs hn hl hP hD hS
    refine lv_iload_n hx hb d_Reg_clearFrom_2 rfl (lv_at hl 0 rfl) ?_
    refine lv_iload_n hx hb d_Reg_clearFrom_3 rfl (lv_at hl 1 rfl) ?_
    refine lv_icmp_ge (tgt := 29) hx hb d_Reg_clearFrom_4 (by decide) (fun h => absurd h (nI_ge (a := k) (b := 256) (by omega) (by omega))) (fun h1 => ?_)
    refine lv_iload_n hx hb d_Reg_clearFrom_7 rfl (lv_at hl 0 rfl) ?_
    refine lv_aload_n hx hb d_Reg_clearFrom_8 rfl (lv_at hl 3 rfl) ?_
    refine va_get (D := K.1) (ci := 2) (v := .ref ge) (C := R_Reg) (T := T_Reg) (N := 6) hx hb hT in_Reg hown hK hP 0 rfl rfl 3 (by decide) (hT _ k_48) (fun _ h9 => h9) rfl d_Reg_clearFrom_9 ?_
    refine va_alen (v := 256) hx hb hK hP 1 0 rfl rfl rfl d_Reg_clearFrom_12 ?_
    refine lv_icmp_ge (tgt := 29) hx hb d_Reg_clearFrom_13 (by decide) (fun h => absurd h (nI_ge (a := k) (b := 256) (by omega) (by omega))) (fun h2 => ?_)
    refine lv_aload_n hx hb d_Reg_clearFrom_16 rfl (lv_at hl 3 rfl) ?_
    refine va_get (D := K.1) (ci := 2) (v := .ref ge) (C := R_Reg) (T := T_Reg) (N := 6) hx hb hT in_Reg hown hK hP 0 rfl rfl 3 (by decide) (hT _ k_48) (fun _ h9 => h9) rfl d_Reg_clearFrom_17 ?_
    refine lv_iload_n hx hb d_Reg_clearFrom_20 rfl (lv_at hl 0 rfl) ?_
    refine lv_lconst (v := 0) hx hb d_Reg_clearFrom_21 (by decide) ?_
    refine va_last hx hb hK hP hD hS 1 0 rfl rfl (i := nI k) (x := 0) (vp_in_nI (n := k) (N := 256) (by omega) (by decide)) d_Reg_clearFrom_22 (fun H locs hP hD hS => ?_)
    rw [mx_updJ0] at hP hD
    have hP : va_P K.1 mx_cl [(rg, .inr (2, [.int 0, .int 0, .int 255, .ref ge, .ref sp, .ref sk])), (ge, .inl (K.2.1.1, 256, .inr (.inl (fun _ => 0))))] H := hP
    have hD : va_D A [(rg, .inr (2, [.int 0, .int 0, .int 255, .ref ge, .ref sp, .ref sk])), (ge, .inl (K.2.1.1, 256, .inr (.inl (fun _ => 0))))] := hD
    refine lv_iinc (lv' := [(3, .int (nI (k + 1))), (2, .int 256), (1, .int 0), (0, .ref rg)]) (v := nI (k + 1)) (k := 0) hx hb d_Reg_clearFrom_23 hl rfl (mx_inc k) (by decide) rfl (fun ls hl => ?_)
    refine lv_goto (tgt := 2) hx hb d_Reg_clearFrom_26 (by decide) ?_
    exact ih (k + 1) _ _ _ (by omega) (lv_sub hl [0, 1, 2, 3] rfl) hP hD hS
set_option maxHeartbeats 4000000 in
set_option maxRecDepth 100000 in
theorem c_Reg_clearFrom (l : Launch) (K : mx_K) (rg : Nat) (ge : Nat) (sp : Nat) (sk : Nat) (sz : Nat) : mx_V l y_Reg_clearFrom b_Reg_clearFrom 4 { frames := 1, cells := 0, slots := 0, locals := 20 } K [.ref rg, .int 0, .int 256] [(rg, .inr (2, [.int 0, .int 0, .int 255, .ref ge, .ref sp, .ref sk])), (ge, .inl (K.2.1.1, 256, .inr (.inl (fun _ => 0))))] sz (fun u : Unit => True) (fun u : Unit => [(rg, .inr (2, [.int 0, .int 0, .int 255, .ref ge, .ref sp, .ref sk])), (ge, .inl (K.2.1.1, 256, .inr (.inl (fun _ => 0))))]) := by
  refine mx_of (by decide) (Nat.le_of_ble_eq_true rfl) ?_
  intro p e s m below meth c A ls H locs hAe F hr hlk hin hsz hP hD hS hl
  rw [hAe]
  have hl : lv_has ls 4 [(0, .ref rg), (1, .int 0), (2, .int 256)] := hl
  obtain ⟨hx, hb, hml, hown, hT, hK, hN, hE, hA⟩ := id F
  refine lv_iload_n hx hb d_Reg_clearFrom_0 rfl (lv_at hl 1 rfl) ?_
  refine lv_istore_n (lv' := [(3, .int 0), (0, .ref rg), (1, .int 0), (2, .int 256)]) hx hb d_Reg_clearFrom_1 rfl hl (by decide) rfl (fun ls hl => ?_)
  refine lp_Reg_clearFrom rg ge sk sp F (fun  ls H locs hl hP hD hS => ?_) 256 0 _ _ _ rfl (lv_sub hl [0, 3, 2, 1] rfl) hP hD hS
  exact mx_rv F hr hlk hP hD hS () [0, 1] rfl (by decide) trivial (by decide) (by decide) d_Reg_clearFrom_29
set_option maxHeartbeats 4000000 in
set_option maxRecDepth 100000 in
theorem lp_Reg_reset {p : Program} {l : Launch} {e : Env} {R : Room} {s : State} {m : MethodId} {args : Array Value} {below : List Frame} {meth : Method} {c : Code} {cells slots : Nat} {Q : State → Prop} {K : mx_K} {A : Nat → Prop} (rg : Nat) (ge : Nat) (sk : Nat) (sp : Nat) (F : mx_F p s m args c b_Reg_reset 2 "LittleMix$Registers" K A)
    (kk : ∀ (ls : Array Slot) (H : Heap) (locs : List Loc), lv_has ls 2 [(0, .ref rg)] → va_P K.1 mx_cl [(rg, .inr (2, [.int 0, .int 0, .int 255, .ref ge, .ref sp, .ref sk])), (ge, .inl (K.2.1.1, 256, .inr (.inl (fun _ => 0)))), (sp, .inl (K.2.1.1, 28, .inr (.inl (fun _ => 0))))] H → va_D A [(rg, .inr (2, [.int 0, .int 0, .int 255, .ref ge, .ref sp, .ref sk])), (ge, .inl (K.2.1.1, 256, .inr (.inl (fun _ => 0)))), (sp, .inl (K.2.1.1, 28, .inr (.inl (fun _ => 0))))] → va_S A s.heap H locs → W p l e R s m args below meth c H locs cells slots Q (F0 m 32 ls [])) :
    ∀ (n : Nat) (k : Nat) (ls : Array Slot) (H : Heap) (locs : List Loc), n + k = 28 → lv_has ls 2 [(1, .int (nI k)), (0, .ref rg)] → va_P K.1 mx_cl [(rg, .inr (2, [.int 0, .int 0, .int 255, .ref ge, .ref sp, .ref sk])), (ge, .inl (K.2.1.1, 256, .inr (.inl (fun _ => 0)))), (sp, .inl (K.2.1.1, 28, .inr (.inl (fun _ => 0))))] H → va_D A [(rg, .inr (2, [.int 0, .int 0, .int 255, .ref ge, .ref sp, .ref sk])), (ge, .inl (K.2.1.1, 256, .inr (.inl (fun _ => 0)))), (sp, .inl (K.2.1.1, 28, .inr (.inl (fun _ => 0))))] → va_S A s.heap H locs → W p l e R s m args below meth c H locs cells slots Q (F0 m 10 ls []) := by
  obtain ⟨hx, hb, hml, hown, hT, hK, hN, hE, hA⟩ := id F
  intro n
  induction n with
  | zero =>
    intro k ls H locs hn hl hP hD hS
    refine lv_iload_n hx hb d_Reg_reset_10 rfl (lv_at hl 0 rfl) ?_
    refine lv_aload_n hx hb d_Reg_reset_11 rfl (lv_at hl 1 rfl) ?_
    refine va_get (D := K.1) (ci := 2) (v := .ref sp) (C := R_Reg) (T := T_Reg) (N := 6) hx hb hT in_Reg hown hK hP 0 rfl rfl 4 (by decide) (hT _ k_49) (fun _ h9 => h9) rfl d_Reg_reset_12 ?_
    refine va_alen (v := 28) hx hb hK hP 2 0 rfl rfl rfl d_Reg_reset_15 ?_
    refine lv_icmp_ge (tgt := 32) hx hb d_Reg_reset_16 (by decide) (fun h1 => ?_) (fun h => absurd (nI_le (a := 28) (b := k) (by omega) (by omega)) h)
    exact kk  _ _ _  (lv_sub hl [1] rfl) hP hD hS
  | succ n ih =>
    intro k ls H locs hn hl hP hD hS
    refine lv_iload_n hx hb d_Reg_reset_10 rfl (lv_at hl 0 rfl) ?_
    refine lv_aload_n hx hb d_Reg_reset_11 rfl (lv_at hl 1 rfl) ?_
    refine va_get (D := K.1) (ci := 2) (v := .ref sp) (C := R_Reg) (T := T_Reg) (N := 6) hx hb hT in_Reg hown hK hP 0 rfl rfl 4 (by decide) (hT _ k_49) (fun _ h9 => h9) rfl d_Reg_reset_12 ?_
    refine va_alen (v := 28) hx hb hK hP 2 0 rfl rfl rfl d_Reg_reset_15 ?_
    refine lv_icmp_ge (tgt := 32) hx hb d_Reg_reset_16 (by decide) (fun h => absurd h (nI_ge (a := k) (b := 28) (by omega) (by omega))) (fun h1 => ?_)
    refine lv_aload_n hx hb d_Reg_reset_19 rfl (lv_at hl 1 rfl) ?_
    refine va_get (D := K.1) (ci := 2) (v := .ref sp) (C := R_Reg) (T := T_Reg) (N := 6) hx hb hT in_Reg hown hK hP 0 rfl rfl 4 (by decide) (hT _ k_49) (fun _ h9 => h9) rfl d_Reg_reset_20 ?_
    refine lv_iload_n hx hb d_Reg_reset_23 rfl (lv_at hl 0 rfl) ?_
    refine lv_lconst (v := 0) hx hb d_Reg_reset_24 (by decide) ?_
    refine va_last hx hb hK hP hD hS 2 0 rfl rfl (i := nI k) (x := 0) (vp_in_nI (n := k) (N := 28) (by omega) (by decide)) d_Reg_reset_25 (fun H locs hP hD hS => ?_)
    rw [mx_updJ0] at hP hD
    have hP : va_P K.1 mx_cl [(rg, .inr (2, [.int 0, .int 0, .int 255, .ref ge, .ref sp, .ref sk])), (ge, .inl (K.2.1.1, 256, .inr (.inl (fun _ => 0)))), (sp, .inl (K.2.1.1, 28, .inr (.inl (fun _ => 0))))] H := hP
    have hD : va_D A [(rg, .inr (2, [.int 0, .int 0, .int 255, .ref ge, .ref sp, .ref sk])), (ge, .inl (K.2.1.1, 256, .inr (.inl (fun _ => 0)))), (sp, .inl (K.2.1.1, 28, .inr (.inl (fun _ => 0))))] := hD
    refine lv_iinc (lv' := [(1, .int (nI (k + 1))), (0, .ref rg)]) (v := nI (k + 1)) (k := 0) hx hb d_Reg_reset_26 hl rfl (mx_inc k) (by decide) rfl (fun ls hl => ?_)
    refine lv_goto (tgt := 10) hx hb d_Reg_reset_29 (by decide) ?_
    exact ih (k + 1) _ _ _ (by omega) (lv_sub hl [0, 1] rfl) hP hD hS
set_option maxHeartbeats 4000000 in
set_option maxRecDepth 100000 in
theorem c_Reg_reset (l : Launch) (K : mx_K) (rg : Nat) (ge : Nat) (sp : Nat) (sk : Nat) (sz : Nat) : mx_V l y_Reg_reset b_Reg_reset 2 { frames := 2, cells := 0, slots := 0, locals := 43 } K [.ref rg] [(rg, .inr (2, [.int 0, .int 0, .int 255, .ref ge, .ref sp, .ref sk])), (ge, .inl (K.2.1.1, 256, .inr (.inl (fun _ => 0)))), (sp, .inl (K.2.1.1, 28, .inr (.inl (fun _ => 0))))] sz (fun u : Unit => True) (fun u : Unit => [(rg, .inr (2, [.int 0, .int 0, .int 255, .ref ge, .ref sp, .ref sk])), (ge, .inl (K.2.1.1, 256, .inr (.inl (fun _ => 0)))), (sp, .inl (K.2.1.1, 28, .inr (.inl (fun _ => 0))))]) := by
  refine mx_of (by decide) (Nat.le_of_ble_eq_true rfl) ?_
  intro p e s m below meth c A ls H locs hAe F hr hlk hin hsz hP hD hS hl
  rw [hAe]
  have hl : lv_has ls 2 [(0, .ref rg)] := hl
  obtain ⟨hx, hb, hml, hown, hT, hK, hN, hE, hA⟩ := id F
  refine lv_aload_n hx hb d_Reg_reset_0 rfl (lv_at hl 0 rfl) ?_
  refine lv_iconst (v := 0) hx hb d_Reg_reset_1 (by decide) ?_
  refine lv_sipush (v := 256) hx hb d_Reg_reset_2 (by decide) ?_
  refine mx_cv (wr := [(sp, .inl (K.2.1.1, 28, .inr (.inl (fun _ => 0))))]) F (mx_runV (As := [.int 0, .int 256]) (rest := []) (n := 2) F (c_Reg_clearFrom l K rg ge sp sk H.size) k_704 (Or.inl k_701) k_703 s_Reg_clearFrom k_3 p_Reg_clearFrom rfl rfl hP hD hS [0, 1] rfl (by decide) (va_recv (q := (R_Reg, T_Reg, 6)) (ci := 2) (q0 := 0) hK hP rfl rfl) rfl hl.1 rfl (Nat.le_of_ble_eq_true rfl) ⟨by decide, by decide⟩ ⟨by decide, by decide⟩ d_Reg_reset_5) hP hD hS [0, 1] [2] rfl rfl (by decide) (by decide) (fun _ H locs hq1 hP hD hS => ?_)
  have hP : va_P K.1 mx_cl [(sp, .inl (K.2.1.1, 28, .inr (.inl (fun _ => 0)))), (rg, .inr (2, [.int 0, .int 0, .int 255, .ref ge, .ref sp, .ref sk])), (ge, .inl (K.2.1.1, 256, .inr (.inl (fun _ => 0))))] H := hP
  have hD : va_D A [(sp, .inl (K.2.1.1, 28, .inr (.inl (fun _ => 0)))), (rg, .inr (2, [.int 0, .int 0, .int 255, .ref ge, .ref sp, .ref sk])), (ge, .inl (K.2.1.1, 256, .inr (.inl (fun _ => 0))))] := hD
  refine W.cs (cells' := 0) (slots' := 0) rfl rfl ?_
  refine lv_iconst (v := 0) hx hb d_Reg_reset_8 (by decide) ?_
  refine lv_istore_n (lv' := [(1, .int 0), (0, .ref rg)]) hx hb d_Reg_reset_9 rfl hl (by decide) rfl (fun ls hl => ?_)
  refine lp_Reg_reset rg ge sk sp F (fun  ls H locs hl hP hD hS => ?_) 28 0 _ _ _ rfl (lv_sub hl [0, 1] rfl) (hP.sub [1, 2, 0] rfl) (hD.sub [1, 2, 0] (by decide) rfl) hS
  refine lv_aload_n hx hb d_Reg_reset_32 rfl (lv_at hl 0 rfl) ?_
  refine lv_iconst (v := 0) hx hb d_Reg_reset_33 (by decide) ?_
  refine va_put (D := K.1) (ci := 2) (v := .int 0) (ty := .int) (C := R_Reg) (T := T_Reg) (N := 6) hx hb hT in_Reg t_Reg t_Reg_ok n_Reg hown hK hP hD hS 0 rfl rfl 0 (by decide) (hT _ k_51) (fun _ h9 => h9) rfl (by decide +kernel) rfl rfl (Nat.le_of_ble_eq_true rfl) d_Reg_reset_34 (fun H locs hP hD hS => ?_)
  have hP : va_P K.1 mx_cl [(rg, .inr (2, [.int 0, .int 0, .int 255, .ref ge, .ref sp, .ref sk])), (ge, .inl (K.2.1.1, 256, .inr (.inl (fun _ => 0)))), (sp, .inl (K.2.1.1, 28, .inr (.inl (fun _ => 0))))] H := hP
  have hD : va_D A [(rg, .inr (2, [.int 0, .int 0, .int 255, .ref ge, .ref sp, .ref sk])), (ge, .inl (K.2.1.1, 256, .inr (.inl (fun _ => 0)))), (sp, .inl (K.2.1.1, 28, .inr (.inl (fun _ => 0))))] := hD
  refine lv_aload_n hx hb d_Reg_reset_37 rfl (lv_at hl 0 rfl) ?_
  refine lv_iconst (v := 0) hx hb d_Reg_reset_38 (by decide) ?_
  refine va_put (D := K.1) (ci := 2) (v := .int 0) (ty := .int) (C := R_Reg) (T := T_Reg) (N := 6) hx hb hT in_Reg t_Reg t_Reg_ok n_Reg hown hK hP hD hS 0 rfl rfl 1 (by decide) (hT _ k_53) (fun _ h9 => h9) rfl (by decide +kernel) rfl rfl (Nat.le_of_ble_eq_true rfl) d_Reg_reset_39 (fun H locs hP hD hS => ?_)
  have hP : va_P K.1 mx_cl [(rg, .inr (2, [.int 0, .int 0, .int 255, .ref ge, .ref sp, .ref sk])), (ge, .inl (K.2.1.1, 256, .inr (.inl (fun _ => 0)))), (sp, .inl (K.2.1.1, 28, .inr (.inl (fun _ => 0))))] H := hP
  have hD : va_D A [(rg, .inr (2, [.int 0, .int 0, .int 255, .ref ge, .ref sp, .ref sk])), (ge, .inl (K.2.1.1, 256, .inr (.inl (fun _ => 0)))), (sp, .inl (K.2.1.1, 28, .inr (.inl (fun _ => 0))))] := hD
  refine lv_aload_n hx hb d_Reg_reset_42 rfl (lv_at hl 0 rfl) ?_
  refine lv_sipush (v := 255) hx hb d_Reg_reset_43 (by decide) ?_
  refine va_put (D := K.1) (ci := 2) (v := .int 255) (ty := .int) (C := R_Reg) (T := T_Reg) (N := 6) hx hb hT in_Reg t_Reg t_Reg_ok n_Reg hown hK hP hD hS 0 rfl rfl 2 (by decide) (hT _ k_54) (fun _ h9 => h9) rfl (by decide +kernel) rfl rfl (Nat.le_of_ble_eq_true rfl) d_Reg_reset_46 (fun H locs hP hD hS => ?_)
  have hP : va_P K.1 mx_cl [(rg, .inr (2, [.int 0, .int 0, .int 255, .ref ge, .ref sp, .ref sk])), (ge, .inl (K.2.1.1, 256, .inr (.inl (fun _ => 0)))), (sp, .inl (K.2.1.1, 28, .inr (.inl (fun _ => 0))))] H := hP
  have hD : va_D A [(rg, .inr (2, [.int 0, .int 0, .int 255, .ref ge, .ref sp, .ref sk])), (ge, .inl (K.2.1.1, 256, .inr (.inl (fun _ => 0)))), (sp, .inl (K.2.1.1, 28, .inr (.inl (fun _ => 0))))] := hD
  exact mx_rv F hr hlk hP hD hS () [0, 1, 2] rfl (by decide) trivial (by decide) (by decide) d_Reg_reset_49
set_option maxHeartbeats 4000000 in
set_option maxRecDepth 100000 in
theorem c_Reg_read (l : Launch) (K : mx_K) (rg : Nat) (k : Int32) (ge : Nat) (sp : Nat) (sk : Nat) (sz : Nat) : mx_L l y_Reg_read b_Reg_read 2 { frames := 0, cells := 0, slots := 0, locals := 0 } K [.ref rg, .int k] [(rg, .inr (2, [.int 0, .int 0, .int 255, .ref ge, .ref sp, .ref sk])), (ge, .inl (K.2.1.1, 256, .inr (.inl (fun _ => 0))))] sz (fun (r : Int64) (u : Unit) => r = 0) (fun u : Unit => [(rg, .inr (2, [.int 0, .int 0, .int 255, .ref ge, .ref sp, .ref sk])), (ge, .inl (K.2.1.1, 256, .inr (.inl (fun _ => 0))))]) := by
  refine mx_of (by decide) (Nat.le_of_ble_eq_true rfl) ?_
  intro p e s m below meth c A ls H locs hAe F hr hlk hin hsz hP hD hS hl
  rw [hAe]
  have hl : lv_has ls 2 [(0, .ref rg), (1, .int k)] := hl
  obtain ⟨hx, hb, hml, hown, hT, hK, hN, hE, hA⟩ := id F
  refine lv_iload_n hx hb d_Reg_read_0 rfl (lv_at hl 1 rfl) ?_
  refine lv_if_lt (tgt := 20) hx hb d_Reg_read_1 (by decide) (fun h1 => ?_) (fun h1 => ?_)
  · refine lv_lconst (v := 0) hx hb d_Reg_read_20 (by decide) ?_
    exact mx_rl F hr hlk hP hD hS () [0, 1] rfl (by decide) rfl (by decide) (by decide) d_Reg_read_21
  · refine lv_iload_n hx hb d_Reg_read_4 rfl (lv_at hl 1 rfl) ?_
    refine lv_sipush (v := 255) hx hb d_Reg_read_5 (by decide) ?_
    refine lv_icmp_gt (tgt := 20) hx hb d_Reg_read_8 (by decide) (fun h8 => ?_) (fun h8 => ?_)
    · refine lv_lconst (v := 0) hx hb d_Reg_read_20 (by decide) ?_
      exact mx_rl F hr hlk hP hD hS () [0, 1] rfl (by decide) rfl (by decide) (by decide) d_Reg_read_21
    · refine lv_aload_n hx hb d_Reg_read_11 rfl (lv_at hl 0 rfl) ?_
      refine va_get (D := K.1) (ci := 2) (v := .ref ge) (C := R_Reg) (T := T_Reg) (N := 6) hx hb hT in_Reg hown hK hP 0 rfl rfl 3 (by decide) (hT _ k_48) (fun _ h9 => h9) rfl d_Reg_read_12 ?_
      refine lv_iload_n hx hb d_Reg_read_15 rfl (lv_at hl 1 rfl) ?_
      refine va_lald hx hb hK hP 1 0 rfl rfl (i := k) (mx_in (N := 256) h1 (mx_lt (a := 255) h8) (by decide)) d_Reg_read_16 ?_
      refine lv_topl (fun z1 ez1 => ?_)
      obtain rfl : z1 = 0 := ez1.trans rfl
      refine lv_goto (tgt := 21) hx hb d_Reg_read_17 (by decide) ?_
      exact mx_rl F hr hlk hP hD hS () [0, 1] rfl (by decide) rfl (by decide) (by decide) d_Reg_read_21
set_option maxHeartbeats 4000000 in
set_option maxRecDepth 100000 in
theorem c_Reg_get (l : Launch) (K : mx_K) (rg : Nat) (k : Int32) (ge : Nat) (sp : Nat) (sk : Nat) (sz : Nat) : mx_L l y_Reg_get b_Reg_get 2 { frames := 0, cells := 0, slots := 0, locals := 0 } K [.ref rg, .int k] [(rg, .inr (2, [.int 0, .int 0, .int 255, .ref ge, .ref sp, .ref sk])), (sp, .inl (K.2.1.1, 28, .inr (.inl (fun _ => 0))))] sz (fun (r : Int64) (u : Unit) => r = mx_spec k) (fun u : Unit => []) := by
  refine mx_of (by decide) (Nat.le_of_ble_eq_true rfl) ?_
  intro p e s m below meth c A ls H locs hAe F hr hlk hin hsz hP hD hS hl
  rw [hAe]
  have hl : lv_has ls 2 [(0, .ref rg), (1, .int k)] := hl
  obtain ⟨hx, hb, hml, hown, hT, hK, hN, hE, hA⟩ := id F
  refine lv_iload_n hx hb d_Reg_get_0 rfl (lv_at hl 1 rfl) ?_
  refine lv_bipush (v := 19) hx hb d_Reg_get_1 (by decide) ?_
  refine lv_icmp_ne (tgt := 12) hx hb d_Reg_get_3 (by decide) (fun h3 => ?_) (fun h3 => ?_)
  · refine lv_iload_n hx hb d_Reg_get_12 rfl (lv_at hl 1 rfl) ?_
    refine lv_bipush (v := 20) hx hb d_Reg_get_13 (by decide) ?_
    refine lv_icmp_ne (tgt := 24) hx hb d_Reg_get_15 (by decide) (fun h15 => ?_) (fun h15 => ?_)
    · refine lv_iload_n hx hb d_Reg_get_24 rfl (lv_at hl 1 rfl) ?_
      refine lv_if_lt (tgt := 46) hx hb d_Reg_get_25 (by decide) (fun h25 => ?_) (fun h25 => ?_)
      · refine lv_lconst (v := 0) hx hb d_Reg_get_46 (by decide) ?_
        exact mx_rl F hr hlk hP hD hS () [] rfl (by decide) (mx_spec_no h3) (by decide) (by decide) d_Reg_get_47
      · refine lv_iload_n hx hb d_Reg_get_28 rfl (lv_at hl 1 rfl) ?_
        refine lv_aload_n hx hb d_Reg_get_29 rfl (lv_at hl 0 rfl) ?_
        refine va_get (D := K.1) (ci := 2) (v := .ref sp) (C := R_Reg) (T := T_Reg) (N := 6) hx hb hT in_Reg hown hK hP 0 rfl rfl 4 (by decide) (hT _ k_49) (fun _ h9 => h9) rfl d_Reg_get_30 ?_
        refine va_alen (v := 28) hx hb hK hP 1 0 rfl rfl rfl d_Reg_get_33 ?_
        refine lv_icmp_ge (tgt := 46) hx hb d_Reg_get_34 (by decide) (fun h34 => ?_) (fun h34 => ?_)
        · refine lv_lconst (v := 0) hx hb d_Reg_get_46 (by decide) ?_
          exact mx_rl F hr hlk hP hD hS () [] rfl (by decide) (mx_spec_no h3) (by decide) (by decide) d_Reg_get_47
        · refine lv_aload_n hx hb d_Reg_get_37 rfl (lv_at hl 0 rfl) ?_
          refine va_get (D := K.1) (ci := 2) (v := .ref sp) (C := R_Reg) (T := T_Reg) (N := 6) hx hb hT in_Reg hown hK hP 0 rfl rfl 4 (by decide) (hT _ k_49) (fun _ h9 => h9) rfl d_Reg_get_38 ?_
          refine lv_iload_n hx hb d_Reg_get_41 rfl (lv_at hl 1 rfl) ?_
          refine va_lald hx hb hK hP 1 0 rfl rfl (i := k) (mx_in (N := 28) h25 h34 (by decide)) d_Reg_get_42 ?_
          refine lv_topl (fun z1 ez1 => ?_)
          obtain rfl : z1 = 0 := ez1.trans rfl
          refine lv_goto (tgt := 47) hx hb d_Reg_get_43 (by decide) ?_
          exact mx_rl F hr hlk hP hD hS () [] rfl (by decide) (mx_spec_no h3) (by decide) (by decide) d_Reg_get_47
    · refine lv_aload_n hx hb d_Reg_get_18 rfl (lv_at hl 0 rfl) ?_
      refine va_get (D := K.1) (ci := 2) (v := .int 0) (C := R_Reg) (T := T_Reg) (N := 6) hx hb hT in_Reg hown hK hP 0 rfl rfl 1 (by decide) (hT _ k_53) (fun _ h9 => h9) rfl d_Reg_get_19 ?_
      refine lv_i2l (v := 0) hx hb d_Reg_get_22 (by decide) ?_
      exact mx_rl F hr hlk hP hD hS () [] rfl (by decide) (mx_spec_no h3) (by decide) (by decide) d_Reg_get_23
  · refine lv_aload_n hx hb d_Reg_get_6 rfl (lv_at hl 0 rfl) ?_
    refine va_get (D := K.1) (ci := 2) (v := .int 255) (C := R_Reg) (T := T_Reg) (N := 6) hx hb hT in_Reg hown hK hP 0 rfl rfl 2 (by decide) (hT _ k_54) (fun _ h9 => h9) rfl d_Reg_get_7 ?_
    refine lv_i2l (v := 255) hx hb d_Reg_get_10 (by decide) ?_
    exact mx_rl F hr hlk hP hD hS () [] rfl (by decide) (mx_spec_19 h3) (by decide) (by decide) d_Reg_get_11
