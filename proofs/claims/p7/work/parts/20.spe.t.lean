set_option maxHeartbeats 4000000 in
set_option maxRecDepth 100000 in
theorem s_Spe_told_b2 {p : Program} {l : Launch} {e : Env} {R : Room} {s : State} {m : MethodId} {args : Array Value} {below : List Frame} {meth : Method} {c : Code} {K : mx_K} {A : Nat → Prop} (a : Int64) (F : mx_F p s m args c b_LittleMix_Specials_told 3 "LittleMix$Specials" K A) (hr : meth.sig.returnType = some .boolean) (hlk : meth.locks = false) (hRf : 1 ≤ R.frames) (hRl : 20 ≤ R.locals)
    : ∀ n : Nat, ∀ (n2 : Nat) (ls : Array Slot) (H : Heap) (locs : List Loc), 13 - n2 < n → (n2 ≤ 13) → lv_has ls 3 [(0, .long a), (2, .int (nI n2))] → va_P K.1 mx_cl [] H → va_D A [] → va_S A s.heap H locs → W p l e R s m args below meth c H locs 0 0 (MQ below (va_Qi (fun (r : Int32) (u : Unit) => r = 0 ∨ r = 1) (mx_B K A (fun u : Unit => [])) A) args s 0 0 A) (F0 m 2 ls []) := by
  obtain ⟨hx, hb, hml, hown, hT, hK, hN, hE, hA⟩ := id F
  intro n
  induction n with
  | zero =>
    intro n2 ls H locs hmu h2 hl hP hD hS
    exact absurd hmu (Nat.not_lt_zero _)
  | succ n ih =>
    intro n2 ls H locs hmu h2 hl hP hD hS
    refine lv_iload_n hx hb d_LittleMix_Specials_told_2 rfl (lv_at hl 1 rfl) ?_
    refine va_gets hx hb hE.2.2.2.2.1 hS hown (hT _ k_549) (fun _ h9 => h9) d_LittleMix_Specials_told_3 ?_
    refine va_tlen (v := 13) hx hb hE.2.2.2.2.2 hS rfl d_LittleMix_Specials_told_6 ?_
    refine lv_icmp_ge (tgt := 29) hx hb d_LittleMix_Specials_told_7 (by decide) (fun h_1 => ?_) (fun h_1 => ?_)
    · have h_1n := mx_fLe (a := 13) (b := n2) (by omega) (by omega) h_1
      refine lv_iconst (v := 0) hx hb d_LittleMix_Specials_told_29 (by decide) ?_
      exact mx_ri F hr hlk (by decide) hP hD hS () [] rfl (by decide) (Or.inl rfl) (by decide) (by decide) d_LittleMix_Specials_told_30
    · have h_1n := mx_fNle (a := 13) (b := n2) (by omega) (by omega) h_1
      refine va_gets hx hb hE.2.2.2.2.1 hS hown (hT _ k_549) (fun _ h9 => h9) d_LittleMix_Specials_told_10 ?_
      refine lv_iload_n hx hb d_LittleMix_Specials_told_13 rfl (lv_at hl 1 rfl) ?_
      refine va_ti hx hb hE.2.2.2.2.2 hS (i := nI n2) (vp_in_nI (n := n2) (N := 13) (by omega) (by decide)) rfl d_LittleMix_Specials_told_14 ?_
      refine lv_topi (fun z_2 ez_2 => ?_)
      refine lv_i2l (v := z_2.toInt64) hx hb d_LittleMix_Specials_told_15 rfl ?_
      refine lv_lload_n hx hb d_LittleMix_Specials_told_16 rfl (lv_at hl 0 rfl) ?_
      refine W.lcmp hx hb d_LittleMix_Specials_told_17 ?_
      refine lv_if_ne (tgt := 23) hx hb d_LittleMix_Specials_told_18 (by decide) (fun h_3 => ?_) (fun h_3 => ?_)
      · refine lv_iinc (lv' := [(2, .int (nI (n2 + 1))), (0, .long a)]) (v := nI (n2 + 1)) (k := 1) hx hb d_LittleMix_Specials_told_23 hl rfl (mx_inc n2) (by decide) rfl (fun ls hl => ?_)
        refine lv_goto (tgt := 2) hx hb d_LittleMix_Specials_told_26 (by decide) ?_
        exact ih (n2 + 1) _ _ _ (by omega) (by first | assumption | omega | exact mx_ch_0) (lv_sub hl [1, 0] rfl) hP hD hS
      · refine lv_iconst (v := 1) hx hb d_LittleMix_Specials_told_21 (by decide) ?_
        exact mx_ri F hr hlk (by decide) hP hD hS () [] rfl (by decide) (Or.inr rfl) (by decide) (by decide) d_LittleMix_Specials_told_22
set_option maxHeartbeats 4000000 in
set_option maxRecDepth 100000 in
theorem s_Spe_told (l : Launch) (K : mx_K) (a : Int64) (sz : Nat) : mx_I l y_LittleMix_Specials_told b_LittleMix_Specials_told 3 .boolean { frames := 1, cells := 0, slots := 0, locals := 20 } K [.long a] [] sz (fun (r : Int32) (u : Unit) => r = 0 ∨ r = 1) (fun u : Unit => []) := by
  refine mx_of (by decide) (Nat.le_of_ble_eq_true rfl) ?_
  intro p e s m below meth c A ls H locs hAe F hr hlk hin hsz hP hD hS hl
  rw [hAe]
  have hl : lv_has ls 3 [(0, .long a)] := hl
  obtain ⟨hx, hb, hml, hown, hT, hK, hN, hE, hA⟩ := id F
  refine lv_iconst (v := 0) hx hb d_LittleMix_Specials_told_0 (by decide) ?_
  refine lv_istore_n (lv' := [(2, .int 0), (0, .long a)]) hx hb d_LittleMix_Specials_told_1 rfl hl (by decide) rfl (fun ls hl => ?_)
  exact s_Spe_told_b2 a F hr hlk (by decide) (by decide) (13 - 0 + 1) 0 _ _ _ (by omega) (by first | assumption | omega | exact mx_ch_0) (lv_sub hl [1, 0] rfl) hP hD hS
set_option maxHeartbeats 4000000 in
set_option maxRecDepth 100000 in
theorem s_Spe_named (l : Launch) (K : mx_K) (t : Nat) (a : Nat) (z : Nat) (f : Nat → Int32) (sz : Nat) (ht : a + z ≤ 1600) : mx_I l y_LittleMix_Specials_named b_LittleMix_Specials_named 4 .int { frames := 5, cells := 0, slots := 0, locals := 111 } K [.ref t, .int (nI a), .int (nI z)] [(t, .inl (K.2.1.2.2.1, 1600, .inl f))] sz (fun (r : Int32) (u : Unit) => True) (fun u : Unit => [(t, .inl (K.2.1.2.2.1, 1600, .inl f))]) := by
  refine mx_of (by decide) (Nat.le_of_ble_eq_true rfl) ?_
  intro p e s m below meth c A ls H locs hAe F hr hlk hin hsz hP hD hS hl
  rw [hAe]
  have hl : lv_has ls 4 [(0, .ref t), (1, .int (nI a)), (2, .int (nI z))] := hl
  obtain ⟨hx, hb, hml, hown, hT, hK, hN, hE, hA⟩ := id F
  refine lv_iload_n hx hb d_LittleMix_Specials_named_0 rfl (lv_at hl 2 rfl) ?_
  refine lv_iconst (v := 2) hx hb d_LittleMix_Specials_named_1 (by decide) ?_
  refine lv_icmp_ne (tgt := 13) hx hb d_LittleMix_Specials_named_2 (by decide) (fun h_1 => ?_) (fun h_1 => ?_)
  · have h_1n := mx_fNe (a := z) (b := 2) (by omega) (by omega) h_1
    refine lv_iconst (v := (-1)) hx hb d_LittleMix_Specials_named_13 (by decide) ?_
    exact mx_ri F hr hlk rfl hP hD hS () [0] rfl (by decide) trivial (by decide) (by decide) d_LittleMix_Specials_named_14
  · have h_1n := mx_fEq (a := z) (b := 2) (by omega) (by omega) h_1
    refine lv_aload_n hx hb d_LittleMix_Specials_named_5 rfl (lv_at hl 0 rfl) ?_
    refine lv_iload_n hx hb d_LittleMix_Specials_named_6 rfl (lv_at hl 1 rfl) ?_
    refine va_cald hx hb hK hP 0 2 rfl rfl (i := nI a) (vp_in_nI (n := a) (N := 1600) (by omega) (by decide)) d_LittleMix_Specials_named_7 ?_
    refine lv_topi (fun z_2 ez_2 => ?_)
    refine lv_bipush (v := 114) hx hb d_LittleMix_Specials_named_8 (by decide) ?_
    refine lv_icmp_eq (tgt := 15) hx hb d_LittleMix_Specials_named_10 (by decide) (fun h_3 => ?_) (fun h_3 => ?_)
    · refine va_ldcS hx hb hown (hE.2.1 14 (by decide)) d_LittleMix_Specials_named_15 ?_
      refine lv_aload_n hx hb d_LittleMix_Specials_named_17 rfl (lv_at hl 0 rfl) ?_
      refine lv_iload_n hx hb d_LittleMix_Specials_named_18 rfl (lv_at hl 1 rfl) ?_
      refine lv_iconst (v := 1) hx hb d_LittleMix_Specials_named_19 (by decide) ?_
      refine lv_iadd hx hb d_LittleMix_Specials_named_20 ?_
      refine lv_topi (fun z_4 ez_4 => ?_)
      obtain rfl : z_4 = nI (a + 1) := ez_4.trans (nI_add a 1)
      refine va_cald hx hb hK hP 0 2 rfl rfl (i := nI (a + 1)) (vp_in_nI (n := (a + 1)) (N := 1600) (by omega) (by decide)) d_LittleMix_Specials_named_21 ?_
      refine lv_topi (fun z_5 ez_5 => ?_)
      refine mx_ci (wr := [(t, .inl (K.2.1.2.2.1, 1600, .inl f))]) F (mx_runV (As := [.int z_5]) (rest := []) (n := 1) F (s_Str_indexOf l K 14 z_5 H.size (by decide)) k_493 (Or.inl k_490) k_491 k_492 k_9 p_String_indexOf_1 rfl rfl hP hD hS [] rfl (by decide) (mx_recvS hE (by decide) hS) rfl hl.1 rfl (Nat.le_of_ble_eq_true rfl) ⟨by decide, by decide⟩ ⟨by decide, by decide⟩ d_LittleMix_Specials_named_22) hP hD hS [] [0] rfl rfl (by decide) (by decide) (fun r_7 _ H locs hq_6 hP hD hS => ?_)
      have hP : va_P K.1 mx_cl [(t, .inl (K.2.1.2.2.1, 1600, .inl f))] H := hP
      have hD : va_D A [(t, .inl (K.2.1.2.2.1, 1600, .inl f))] := hD
      refine W.cs (cells' := 0) (slots' := 0) rfl rfl ?_
      rcases hq_6 with rfl | ⟨kf, hkf, rfl⟩
      · refine lv_istore_n (lv' := [(3, .int (-1)), (0, .ref t), (1, .int (nI a)), (2, .int (nI z))]) hx hb d_LittleMix_Specials_named_25 rfl hl (by decide) rfl (fun ls hl => ?_)
        refine lv_iload_n hx hb d_LittleMix_Specials_named_26 rfl (lv_at hl 0 rfl) ?_
        refine lv_if_ge (tgt := 34) hx hb d_LittleMix_Specials_named_27 (by decide) (fun h => absurd h (by decide)) (fun _ => ?_)
        refine lv_iconst (v := (-1)) hx hb d_LittleMix_Specials_named_30 (by decide) ?_
        refine lv_goto (tgt := 39) hx hb d_LittleMix_Specials_named_31 (by decide) ?_
        exact mx_ri F hr hlk rfl hP hD hS () [0] rfl (by decide) trivial (by decide) (by decide) d_LittleMix_Specials_named_39
      · have hk13 : kf < 13 := hkf
        refine lv_istore_n (lv' := [(3, .int (nI kf)), (0, .ref t), (1, .int (nI a)), (2, .int (nI z))]) hx hb d_LittleMix_Specials_named_25 rfl hl (by decide) rfl (fun ls hl => ?_)
        refine lv_iload_n hx hb d_LittleMix_Specials_named_26 rfl (lv_at hl 0 rfl) ?_
        refine lv_if_ge (tgt := 34) hx hb d_LittleMix_Specials_named_27 (by decide) (fun h_9 => ?_) (fun h_9 => ?_)
        · have h_9n := mx_fLe (a := 0) (b := kf) (by omega) (by omega) h_9
          refine va_gets hx hb hE.2.2.2.2.1 hS hown (hT _ k_549) (fun _ h9 => h9) d_LittleMix_Specials_named_34 ?_
          refine lv_iload_n hx hb d_LittleMix_Specials_named_37 rfl (lv_at hl 0 rfl) ?_
          refine va_ti hx hb hE.2.2.2.2.2 hS (i := nI kf) (vp_in_nI (n := kf) (N := 13) (by omega) (by decide)) rfl d_LittleMix_Specials_named_38 ?_
          refine lv_topi (fun z_10 ez_10 => ?_)
          exact mx_ri F hr hlk rfl hP hD hS () [0] rfl (by decide) trivial (by decide) (by decide) d_LittleMix_Specials_named_39
        · have h_9n := mx_fNle (a := 0) (b := kf) (by omega) (by omega) h_9
          refine lv_iconst (v := (-1)) hx hb d_LittleMix_Specials_named_30 (by decide) ?_
          refine lv_goto (tgt := 39) hx hb d_LittleMix_Specials_named_31 (by decide) ?_
          exact mx_ri F hr hlk rfl hP hD hS () [0] rfl (by decide) trivial (by decide) (by decide) d_LittleMix_Specials_named_39
    · refine lv_iconst (v := (-1)) hx hb d_LittleMix_Specials_named_13 (by decide) ?_
      exact mx_ri F hr hlk rfl hP hD hS () [0] rfl (by decide) trivial (by decide) (by decide) d_LittleMix_Specials_named_14
