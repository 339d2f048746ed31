set_option maxHeartbeats 4000000 in
set_option maxRecDepth 100000 in
theorem s_Ari_below (l : Launch) (K : mx_K) (a : Int64) (b : Int64) (sz : Nat) : mx_I l y_LittleMix_Arithmetic_below b_LittleMix_Arithmetic_below 4 .boolean { frames := 1, cells := 0, slots := 0, locals := 20 } K [.long a, .long b] [] sz (fun (r : Int32) (u : Unit) => r = 0 ∨ r = 1) (fun u : Unit => []) := by
  refine mx_of (by decide) (Nat.le_of_ble_eq_true rfl) ?_
  intro p e s m below meth c A ls H locs hAe F hr hlk hin hsz hP hD hS hl
  rw [hAe]
  have hl : lv_has ls 4 [(0, .long a), (2, .long b)] := hl
  obtain ⟨hx, hb, hml, hown, hT, hK, hN, hE, hA⟩ := id F
  refine lv_lload_n hx hb d_LittleMix_Arithmetic_below_0 rfl (lv_at hl 0 rfl) ?_
  refine lv_ldc2 (v := (-9223372036854775808)) hx hb hown (hT _ k_882) d_LittleMix_Arithmetic_below_1 ?_
  refine lv_ladd hx hb d_LittleMix_Arithmetic_below_4 ?_
  refine lv_lload_n hx hb d_LittleMix_Arithmetic_below_5 rfl (lv_at hl 1 rfl) ?_
  refine lv_ldc2 (v := (-9223372036854775808)) hx hb hown (hT _ k_882) d_LittleMix_Arithmetic_below_6 ?_
  refine lv_ladd hx hb d_LittleMix_Arithmetic_below_9 ?_
  refine W.lcmp hx hb d_LittleMix_Arithmetic_below_10 ?_
  refine lv_if_ge (tgt := 18) hx hb d_LittleMix_Arithmetic_below_11 (by decide) (fun h_1 => ?_) (fun h_1 => ?_)
  · refine lv_iconst (v := 0) hx hb d_LittleMix_Arithmetic_below_18 (by decide) ?_
    exact mx_ri F hr hlk (by decide) hP hD hS () [] rfl (by decide) (Or.inl rfl) (by decide) (by decide) d_LittleMix_Arithmetic_below_19
  · refine lv_iconst (v := 1) hx hb d_LittleMix_Arithmetic_below_14 (by decide) ?_
    refine lv_goto (tgt := 19) hx hb d_LittleMix_Arithmetic_below_15 (by decide) ?_
    exact mx_ri F hr hlk (by decide) hP hD hS () [] rfl (by decide) (Or.inr rfl) (by decide) (by decide) d_LittleMix_Arithmetic_below_19
set_option maxHeartbeats 4000000 in
set_option maxRecDepth 100000 in
theorem s_Ari_upper (l : Launch) (K : mx_K) (a : Int64) (b : Int64) (sz : Nat) : mx_L l y_LittleMix_Arithmetic_upper b_LittleMix_Arithmetic_upper 8 { frames := 1, cells := 0, slots := 0, locals := 20 } K [.long a, .long b] [] sz (fun (r : Int64) (u : Unit) => True) (fun u : Unit => []) := by
  refine mx_of (by decide) (Nat.le_of_ble_eq_true rfl) ?_
  intro p e s m below meth c A ls H locs hAe F hr hlk hin hsz hP hD hS hl
  rw [hAe]
  have hl : lv_has ls 8 [(0, .long a), (2, .long b)] := hl
  obtain ⟨hx, hb, hml, hown, hT, hK, hN, hE, hA⟩ := id F
  refine lv_lload_n hx hb d_LittleMix_Arithmetic_upper_0 rfl (lv_at hl 0 rfl) ?_
  refine lv_bipush (v := 32) hx hb d_LittleMix_Arithmetic_upper_1 (by decide) ?_
  refine lv_lushr (v := (a.toUInt64 >>> ((32 : Int32).toInt64.toUInt64 &&& Int64.toUInt64 63)).toInt64) hx hb d_LittleMix_Arithmetic_upper_3 rfl ?_
  refine lv_lload_n hx hb d_LittleMix_Arithmetic_upper_4 rfl (lv_at hl 1 rfl) ?_
  refine lv_ldc2 (v := 4294967295) hx hb hown (hT _ k_862) d_LittleMix_Arithmetic_upper_5 ?_
  refine lv_land hx hb d_LittleMix_Arithmetic_upper_8 ?_
  refine lv_lmul hx hb d_LittleMix_Arithmetic_upper_9 ?_
  refine lv_lload_n hx hb d_LittleMix_Arithmetic_upper_10 rfl (lv_at hl 0 rfl) ?_
  refine lv_ldc2 (v := 4294967295) hx hb hown (hT _ k_862) d_LittleMix_Arithmetic_upper_11 ?_
  refine lv_land hx hb d_LittleMix_Arithmetic_upper_14 ?_
  refine lv_lload_n hx hb d_LittleMix_Arithmetic_upper_15 rfl (lv_at hl 1 rfl) ?_
  refine lv_ldc2 (v := 4294967295) hx hb hown (hT _ k_862) d_LittleMix_Arithmetic_upper_16 ?_
  refine lv_land hx hb d_LittleMix_Arithmetic_upper_19 ?_
  refine lv_lmul hx hb d_LittleMix_Arithmetic_upper_20 ?_
  refine lv_bipush (v := 32) hx hb d_LittleMix_Arithmetic_upper_21 (by decide) ?_
  refine lv_lushr (v := (((a &&& (4294967295 : Int64)) * (b &&& (4294967295 : Int64))).toUInt64 >>> ((32 : Int32).toInt64.toUInt64 &&& Int64.toUInt64 63)).toInt64) hx hb d_LittleMix_Arithmetic_upper_23 rfl ?_
  refine lv_ladd hx hb d_LittleMix_Arithmetic_upper_24 ?_
  refine lv_topl (fun z_1 ez_1 => ?_)
  refine lv_lstore (lv' := [(4, .long z_1), (0, .long a), (2, .long b)]) hx hb d_LittleMix_Arithmetic_upper_25 hl (by decide) rfl (fun ls hl => ?_)
  refine lv_lload_n hx hb d_LittleMix_Arithmetic_upper_27 rfl (lv_at hl 1 rfl) ?_
  refine lv_ldc2 (v := 4294967295) hx hb hown (hT _ k_862) d_LittleMix_Arithmetic_upper_28 ?_
  refine lv_land hx hb d_LittleMix_Arithmetic_upper_31 ?_
  refine lv_lload_n hx hb d_LittleMix_Arithmetic_upper_32 rfl (lv_at hl 2 rfl) ?_
  refine lv_bipush (v := 32) hx hb d_LittleMix_Arithmetic_upper_33 (by decide) ?_
  refine lv_lushr (v := (b.toUInt64 >>> ((32 : Int32).toInt64.toUInt64 &&& Int64.toUInt64 63)).toInt64) hx hb d_LittleMix_Arithmetic_upper_35 rfl ?_
  refine lv_lmul hx hb d_LittleMix_Arithmetic_upper_36 ?_
  refine lv_lload hx hb d_LittleMix_Arithmetic_upper_37 (lv_at hl 0 rfl) ?_
  refine lv_ldc2 (v := 4294967295) hx hb hown (hT _ k_862) d_LittleMix_Arithmetic_upper_39 ?_
  refine lv_land hx hb d_LittleMix_Arithmetic_upper_42 ?_
  refine lv_ladd hx hb d_LittleMix_Arithmetic_upper_43 ?_
  refine lv_topl (fun z_2 ez_2 => ?_)
  refine lv_lstore (lv' := [(6, .long z_2), (4, .long z_1), (0, .long a), (2, .long b)]) hx hb d_LittleMix_Arithmetic_upper_44 hl (by decide) rfl (fun ls hl => ?_)
  refine lv_lload_n hx hb d_LittleMix_Arithmetic_upper_46 rfl (lv_at hl 2 rfl) ?_
  refine lv_bipush (v := 32) hx hb d_LittleMix_Arithmetic_upper_47 (by decide) ?_
  refine lv_lushr (v := (a.toUInt64 >>> ((32 : Int32).toInt64.toUInt64 &&& Int64.toUInt64 63)).toInt64) hx hb d_LittleMix_Arithmetic_upper_49 rfl ?_
  refine lv_lload_n hx hb d_LittleMix_Arithmetic_upper_50 rfl (lv_at hl 3 rfl) ?_
  refine lv_bipush (v := 32) hx hb d_LittleMix_Arithmetic_upper_51 (by decide) ?_
  refine lv_lushr (v := (b.toUInt64 >>> ((32 : Int32).toInt64.toUInt64 &&& Int64.toUInt64 63)).toInt64) hx hb d_LittleMix_Arithmetic_upper_53 rfl ?_
  refine lv_lmul hx hb d_LittleMix_Arithmetic_upper_54 ?_
  refine lv_lload hx hb d_LittleMix_Arithmetic_upper_55 (lv_at hl 1 rfl) ?_
  refine lv_bipush (v := 32) hx hb d_LittleMix_Arithmetic_upper_57 (by decide) ?_
  refine lv_lushr (v := (z_1.toUInt64 >>> ((32 : Int32).toInt64.toUInt64 &&& Int64.toUInt64 63)).toInt64) hx hb d_LittleMix_Arithmetic_upper_59 rfl ?_
  refine lv_ladd hx hb d_LittleMix_Arithmetic_upper_60 ?_
  refine lv_lload hx hb d_LittleMix_Arithmetic_upper_61 (lv_at hl 0 rfl) ?_
  refine lv_bipush (v := 32) hx hb d_LittleMix_Arithmetic_upper_63 (by decide) ?_
  refine lv_lushr (v := (z_2.toUInt64 >>> ((32 : Int32).toInt64.toUInt64 &&& Int64.toUInt64 63)).toInt64) hx hb d_LittleMix_Arithmetic_upper_65 rfl ?_
  refine lv_ladd hx hb d_LittleMix_Arithmetic_upper_66 ?_
  exact mx_rl F hr hlk hP hD hS () [] rfl (by decide) trivial (by decide) (by decide) d_LittleMix_Arithmetic_upper_67
set_option maxHeartbeats 4000000 in
set_option maxRecDepth 100000 in
theorem s_Ari_productFits_b28 {p : Program} {l : Launch} {e : Env} {R : Room} {s : State} {m : MethodId} {args : Array Value} {below : List Frame} {meth : Method} {c : Code} {K : mx_K} {A : Nat → Prop} (a : Int64) (b : Int64) (F : mx_F p s m args c b_LittleMix_Arithmetic_productFits 6 "LittleMix$Arithmetic" K A) (hr : meth.sig.returnType = some .boolean) (hlk : meth.locks = false) (hRf : 2 ≤ R.frames) (hRl : 47 ≤ R.locals)
    : ∀ (vs0 : Int64) (vs1 : Int64) (ls : Array Slot) (H : Heap) (locs : List Loc), lv_has ls 6 [(0, .long a), (2, .long b)] → va_P K.1 mx_cl [] H → va_D A [] → va_S A s.heap H locs → W p l e R s m args below meth c H locs 0 0 (MQ below (va_Qi (fun (r : Int32) (u : Unit) => r = 0 ∨ r = 1) (mx_B K A (fun u : Unit => [])) A) args s 0 0 A) (F0 m 28 ls [.long vs0, .long vs1]) := by
  obtain ⟨hx, hb, hml, hown, hT, hK, hN, hE, hA⟩ := id F
  intro vs0 vs1 ls H locs hl hP hD hS
  refine lv_lsub hx hb d_LittleMix_Arithmetic_productFits_28 ?_
  refine lv_topl (fun z_1 ez_1 => ?_)
  refine lv_lstore (lv' := [(4, .long z_1), (0, .long a), (2, .long b)]) hx hb d_LittleMix_Arithmetic_productFits_29 hl (by decide) rfl (fun ls hl => ?_)
  refine lv_lload hx hb d_LittleMix_Arithmetic_productFits_31 (lv_at hl 0 rfl) ?_
  refine lv_lload_n hx hb d_LittleMix_Arithmetic_productFits_33 rfl (lv_at hl 1 rfl) ?_
  refine lv_lload_n hx hb d_LittleMix_Arithmetic_productFits_34 rfl (lv_at hl 2 rfl) ?_
  refine lv_lmul hx hb d_LittleMix_Arithmetic_productFits_35 ?_
  refine lv_bipush (v := 63) hx hb d_LittleMix_Arithmetic_productFits_36 (by decide) ?_
  refine lv_lshr (v := (a * b) >>> ((63 : Int32).toInt64 &&& 63)) hx hb d_LittleMix_Arithmetic_productFits_38 rfl ?_
  refine W.lcmp hx hb d_LittleMix_Arithmetic_productFits_39 ?_
  refine lv_if_ne (tgt := 47) hx hb d_LittleMix_Arithmetic_productFits_40 (by decide) (fun h_2 => ?_) (fun h_2 => ?_)
  · refine lv_iconst (v := 0) hx hb d_LittleMix_Arithmetic_productFits_47 (by decide) ?_
    exact mx_ri F hr hlk (by decide) hP hD hS () [] rfl (by decide) (Or.inl rfl) (by decide) (by decide) d_LittleMix_Arithmetic_productFits_48
  · refine lv_iconst (v := 1) hx hb d_LittleMix_Arithmetic_productFits_43 (by decide) ?_
    refine lv_goto (tgt := 48) hx hb d_LittleMix_Arithmetic_productFits_44 (by decide) ?_
    exact mx_ri F hr hlk (by decide) hP hD hS () [] rfl (by decide) (Or.inr rfl) (by decide) (by decide) d_LittleMix_Arithmetic_productFits_48
set_option maxHeartbeats 4000000 in
set_option maxRecDepth 100000 in
theorem s_Ari_productFits_b16 {p : Program} {l : Launch} {e : Env} {R : Room} {s : State} {m : MethodId} {args : Array Value} {below : List Frame} {meth : Method} {c : Code} {K : mx_K} {A : Nat → Prop} (a : Int64) (b : Int64) (F : mx_F p s m args c b_LittleMix_Arithmetic_productFits 6 "LittleMix$Arithmetic" K A) (hr : meth.sig.returnType = some .boolean) (hlk : meth.locks = false) (hRf : 2 ≤ R.frames) (hRl : 47 ≤ R.locals)
    : ∀ (vs0 : Int64) (vs1 : Int64) (ls : Array Slot) (H : Heap) (locs : List Loc), lv_has ls 6 [(0, .long a), (2, .long b)] → va_P K.1 mx_cl [] H → va_D A [] → va_S A s.heap H locs → W p l e R s m args below meth c H locs 0 0 (MQ below (va_Qi (fun (r : Int32) (u : Unit) => r = 0 ∨ r = 1) (mx_B K A (fun u : Unit => [])) A) args s 0 0 A) (F0 m 16 ls [.long vs0, .long vs1]) := by
  obtain ⟨hx, hb, hml, hown, hT, hK, hN, hE, hA⟩ := id F
  intro vs0 vs1 ls H locs hl hP hD hS
  refine lv_lsub hx hb d_LittleMix_Arithmetic_productFits_16 ?_
  refine lv_lload_n hx hb d_LittleMix_Arithmetic_productFits_17 rfl (lv_at hl 1 rfl) ?_
  refine lv_lconst (v := 0) hx hb d_LittleMix_Arithmetic_productFits_18 (by decide) ?_
  refine W.lcmp hx hb d_LittleMix_Arithmetic_productFits_19 ?_
  refine lv_if_ge (tgt := 27) hx hb d_LittleMix_Arithmetic_productFits_20 (by decide) (fun h_1 => ?_) (fun h_1 => ?_)
  · refine lv_lconst (v := 0) hx hb d_LittleMix_Arithmetic_productFits_27 (by decide) ?_
    exact s_Ari_productFits_b28 a b F hr hlk hRf hRl (0 : Int64) (vs1 - vs0) _ _ _ (lv_sub hl [0, 1] rfl) hP hD hS
  · refine lv_lload_n hx hb d_LittleMix_Arithmetic_productFits_23 rfl (lv_at hl 0 rfl) ?_
    refine lv_goto (tgt := 28) hx hb d_LittleMix_Arithmetic_productFits_24 (by decide) ?_
    exact s_Ari_productFits_b28 a b F hr hlk hRf hRl a (vs1 - vs0) _ _ _ (lv_sub hl [0, 1] rfl) hP hD hS
set_option maxHeartbeats 4000000 in
set_option maxRecDepth 100000 in
theorem s_Ari_productFits (l : Launch) (K : mx_K) (a : Int64) (b : Int64) (sz : Nat) : mx_I l y_LittleMix_Arithmetic_productFits b_LittleMix_Arithmetic_productFits 6 .boolean { frames := 2, cells := 0, slots := 0, locals := 47 } K [.long a, .long b] [] sz (fun (r : Int32) (u : Unit) => r = 0 ∨ r = 1) (fun u : Unit => []) := by
  refine mx_of (by decide) (Nat.le_of_ble_eq_true rfl) ?_
  intro p e s m below meth c A ls H locs hAe F hr hlk hin hsz hP hD hS hl
  rw [hAe]
  have hl : lv_has ls 6 [(0, .long a), (2, .long b)] := hl
  obtain ⟨hx, hb, hml, hown, hT, hK, hN, hE, hA⟩ := id F
  refine lv_lload_n hx hb d_LittleMix_Arithmetic_productFits_0 rfl (lv_at hl 0 rfl) ?_
  refine lv_lload_n hx hb d_LittleMix_Arithmetic_productFits_1 rfl (lv_at hl 1 rfl) ?_
  refine mx_cj (wr := []) F (mx_runS (As := [.long a, .long b]) (rest := []) (n := 2) F (s_Ari_upper l K a b H.size) k_861 (Or.inl k_859) k_860 k_20 p_LittleMix_Arithmetic_upper rfl rfl hP hD hS [] rfl (by decide)  rfl hl.1 rfl (Nat.le_of_ble_eq_true rfl) ⟨by decide, by decide⟩ ⟨by decide, by decide⟩ d_LittleMix_Arithmetic_productFits_2) hP hD hS [] [] rfl rfl (by decide) (by decide) (fun r_2 _ H locs hq_1 hP hD hS => ?_)
  have hP : va_P K.1 mx_cl [] H := hP
  have hD : va_D A [] := hD
  refine W.cs (cells' := 0) (slots' := 0) rfl rfl ?_
  refine lv_lload_n hx hb d_LittleMix_Arithmetic_productFits_5 rfl (lv_at hl 0 rfl) ?_
  refine lv_lconst (v := 0) hx hb d_LittleMix_Arithmetic_productFits_6 (by decide) ?_
  refine W.lcmp hx hb d_LittleMix_Arithmetic_productFits_7 ?_
  refine lv_if_ge (tgt := 15) hx hb d_LittleMix_Arithmetic_productFits_8 (by decide) (fun h_3 => ?_) (fun h_3 => ?_)
  · refine lv_lconst (v := 0) hx hb d_LittleMix_Arithmetic_productFits_15 (by decide) ?_
    exact s_Ari_productFits_b16 a b F hr hlk (by decide) (by decide) (0 : Int64) r_2 _ _ _ (lv_sub hl [0, 1] rfl) hP hD hS
  · refine lv_lload_n hx hb d_LittleMix_Arithmetic_productFits_11 rfl (lv_at hl 1 rfl) ?_
    refine lv_goto (tgt := 16) hx hb d_LittleMix_Arithmetic_productFits_12 (by decide) ?_
    exact s_Ari_productFits_b16 a b F hr hlk (by decide) (by decide) b r_2 _ _ _ (lv_sub hl [0, 1] rfl) hP hD hS
set_option maxHeartbeats 4000000 in
set_option maxRecDepth 100000 in
theorem s_Ari_isSo_b98 {p : Program} {l : Launch} {e : Env} {R : Room} {s : State} {m : MethodId} {args : Array Value} {below : List Frame} {meth : Method} {c : Code} {K : mx_K} {A : Nat → Prop} (a : Int32) (b : Int64) (F : mx_F p s m args c b_LittleMix_Arithmetic_isSo 4 "LittleMix$Arithmetic" K A) (hr : meth.sig.returnType = some .boolean) (hlk : meth.locks = false) (hRf : 1 ≤ R.frames) (hRl : 20 ≤ R.locals)
    : ∀ (n3 : Nat) (ns0 : Nat) (ns1 : Nat) (ls : Array Slot) (H : Heap) (locs : List Loc), (n3 ≤ 1) → (ns0 ≤ 1) → (ns1 ≤ 1) → lv_has ls 4 [(0, .int a), (1, .long b), (3, .int (nI n3))] → va_P K.1 mx_cl [] H → va_D A [] → va_S A s.heap H locs → W p l e R s m args below meth c H locs 0 0 (MQ below (va_Qi (fun (r : Int32) (u : Unit) => r = 0 ∨ r = 1) (mx_B K A (fun u : Unit => [])) A) args s 0 0 A) (F0 m 98 ls [.int (nI ns0), .int (nI ns1)]) := by
  obtain ⟨hx, hb, hml, hown, hT, hK, hN, hE, hA⟩ := id F
  intro n3 ns0 ns1 ls H locs hub_n3 hub_ns0 hub_ns1 hl hP hD hS
  refine lv_icmp_ne (tgt := 105) hx hb d_LittleMix_Arithmetic_isSo_98 (by decide) (fun h_1 => ?_) (fun h_1 => ?_)
  · have h_1n := mx_fNe (a := ns1) (b := ns0) (by omega) (by omega) h_1
    refine lv_iconst (v := 0) hx hb d_LittleMix_Arithmetic_isSo_105 (by decide) ?_
    exact mx_ri F hr hlk (by decide) hP hD hS () [] rfl (by decide) (Or.inl rfl) (by decide) (by decide) d_LittleMix_Arithmetic_isSo_106
  · have h_1n := mx_fEq (a := ns1) (b := ns0) (by omega) (by omega) h_1
    refine lv_iconst (v := 1) hx hb d_LittleMix_Arithmetic_isSo_101 (by decide) ?_
    refine lv_goto (tgt := 106) hx hb d_LittleMix_Arithmetic_isSo_102 (by decide) ?_
    exact mx_ri F hr hlk (by decide) hP hD hS () [] rfl (by decide) (Or.inr rfl) (by decide) (by decide) d_LittleMix_Arithmetic_isSo_106
set_option maxHeartbeats 4000000 in
set_option maxRecDepth 100000 in
theorem s_Ari_isSo_b87 {p : Program} {l : Launch} {e : Env} {R : Room} {s : State} {m : MethodId} {args : Array Value} {below : List Frame} {meth : Method} {c : Code} {K : mx_K} {A : Nat → Prop} (a : Int32) (b : Int64) (F : mx_F p s m args c b_LittleMix_Arithmetic_isSo 4 "LittleMix$Arithmetic" K A) (hr : meth.sig.returnType = some .boolean) (hlk : meth.locks = false) (hRf : 1 ≤ R.frames) (hRl : 20 ≤ R.locals)
    : ∀ (n3 : Nat) (ls : Array Slot) (H : Heap) (locs : List Loc), (n3 ≤ 1) → lv_has ls 4 [(0, .int a), (1, .long b), (3, .int (nI n3))] → va_P K.1 mx_cl [] H → va_D A [] → va_S A s.heap H locs → W p l e R s m args below meth c H locs 0 0 (MQ below (va_Qi (fun (r : Int32) (u : Unit) => r = 0 ∨ r = 1) (mx_B K A (fun u : Unit => [])) A) args s 0 0 A) (F0 m 87 ls []) := by
  obtain ⟨hx, hb, hml, hown, hT, hK, hN, hE, hA⟩ := id F
  intro n3 ls H locs hub_n3 hl hP hD hS
  refine lv_iload_n hx hb d_LittleMix_Arithmetic_isSo_87 rfl (lv_at hl 2 rfl) ?_
  refine lv_iload_n hx hb d_LittleMix_Arithmetic_isSo_88 rfl (lv_at hl 0 rfl) ?_
  refine lv_iconst (v := 4) hx hb d_LittleMix_Arithmetic_isSo_89 (by decide) ?_
  refine lv_icmp_ge (tgt := 97) hx hb d_LittleMix_Arithmetic_isSo_90 (by decide) (fun h_1 => ?_) (fun h_1 => ?_)
  · refine lv_iconst (v := 0) hx hb d_LittleMix_Arithmetic_isSo_97 (by decide) ?_
    exact s_Ari_isSo_b98 a b F hr hlk hRf hRl n3 0 n3 _ _ _ (by first | assumption | omega | exact mx_ch_0) (by first | assumption | omega | exact mx_ch_0) (by first | assumption | omega | exact mx_ch_0) (lv_sub hl [0, 1, 2] rfl) hP hD hS
  · refine lv_iconst (v := 1) hx hb d_LittleMix_Arithmetic_isSo_93 (by decide) ?_
    refine lv_goto (tgt := 98) hx hb d_LittleMix_Arithmetic_isSo_94 (by decide) ?_
    exact s_Ari_isSo_b98 a b F hr hlk hRf hRl n3 1 n3 _ _ _ (by first | assumption | omega | exact mx_ch_0) (by first | assumption | omega | exact mx_ch_0) (by first | assumption | omega | exact mx_ch_0) (lv_sub hl [0, 1, 2] rfl) hP hD hS
set_option maxHeartbeats 4000000 in
set_option maxRecDepth 100000 in
theorem s_Ari_isSo_b86 {p : Program} {l : Launch} {e : Env} {R : Room} {s : State} {m : MethodId} {args : Array Value} {below : List Frame} {meth : Method} {c : Code} {K : mx_K} {A : Nat → Prop} (a : Int32) (b : Int64) (F : mx_F p s m args c b_LittleMix_Arithmetic_isSo 4 "LittleMix$Arithmetic" K A) (hr : meth.sig.returnType = some .boolean) (hlk : meth.locks = false) (hRf : 1 ≤ R.frames) (hRl : 20 ≤ R.locals)
    : ∀ (ns0 : Nat) (ls : Array Slot) (H : Heap) (locs : List Loc), (ns0 ≤ 1) → lv_has ls 4 [(0, .int a), (1, .long b)] → va_P K.1 mx_cl [] H → va_D A [] → va_S A s.heap H locs → W p l e R s m args below meth c H locs 0 0 (MQ below (va_Qi (fun (r : Int32) (u : Unit) => r = 0 ∨ r = 1) (mx_B K A (fun u : Unit => [])) A) args s 0 0 A) (F0 m 86 ls [.int (nI ns0)]) := by
  obtain ⟨hx, hb, hml, hown, hT, hK, hN, hE, hA⟩ := id F
  intro ns0 ls H locs hub_ns0 hl hP hD hS
  refine lv_istore_n (lv' := [(3, .int (nI ns0)), (0, .int a), (1, .long b)]) hx hb d_LittleMix_Arithmetic_isSo_86 rfl hl (by decide) rfl (fun ls hl => ?_)
  exact s_Ari_isSo_b87 a b F hr hlk hRf hRl ns0 _ _ _ (by first | assumption | omega | exact mx_ch_0) (lv_sub hl [1, 2, 0] rfl) hP hD hS
set_option maxHeartbeats 4000000 in
set_option maxRecDepth 100000 in
theorem s_Ari_isSo_b69 {p : Program} {l : Launch} {e : Env} {R : Room} {s : State} {m : MethodId} {args : Array Value} {below : List Frame} {meth : Method} {c : Code} {K : mx_K} {A : Nat → Prop} (a : Int32) (b : Int64) (F : mx_F p s m args c b_LittleMix_Arithmetic_isSo 4 "LittleMix$Arithmetic" K A) (hr : meth.sig.returnType = some .boolean) (hlk : meth.locks = false) (hRf : 1 ≤ R.frames) (hRl : 20 ≤ R.locals)
    : ∀ (ns0 : Nat) (ls : Array Slot) (H : Heap) (locs : List Loc), (ns0 ≤ 1) → lv_has ls 4 [(0, .int a), (1, .long b)] → va_P K.1 mx_cl [] H → va_D A [] → va_S A s.heap H locs → W p l e R s m args below meth c H locs 0 0 (MQ below (va_Qi (fun (r : Int32) (u : Unit) => r = 0 ∨ r = 1) (mx_B K A (fun u : Unit => [])) A) args s 0 0 A) (F0 m 69 ls [.int (nI ns0)]) := by
  obtain ⟨hx, hb, hml, hown, hT, hK, hN, hE, hA⟩ := id F
  intro ns0 ls H locs hub_ns0 hl hP hD hS
  refine lv_istore_n (lv' := [(3, .int (nI ns0)), (0, .int a), (1, .long b)]) hx hb d_LittleMix_Arithmetic_isSo_69 rfl hl (by decide) rfl (fun ls hl => ?_)
  refine lv_goto (tgt := 87) hx hb d_LittleMix_Arithmetic_isSo_70 (by decide) ?_
  exact s_Ari_isSo_b87 a b F hr hlk hRf hRl ns0 _ _ _ (by first | assumption | omega | exact mx_ch_0) (lv_sub hl [1, 2, 0] rfl) hP hD hS
set_option maxHeartbeats 4000000 in
set_option maxRecDepth 100000 in
theorem s_Ari_isSo_b54 {p : Program} {l : Launch} {e : Env} {R : Room} {s : State} {m : MethodId} {args : Array Value} {below : List Frame} {meth : Method} {c : Code} {K : mx_K} {A : Nat → Prop} (a : Int32) (b : Int64) (F : mx_F p s m args c b_LittleMix_Arithmetic_isSo 4 "LittleMix$Arithmetic" K A) (hr : meth.sig.returnType = some .boolean) (hlk : meth.locks = false) (hRf : 1 ≤ R.frames) (hRl : 20 ≤ R.locals)
    : ∀ (ns0 : Nat) (ls : Array Slot) (H : Heap) (locs : List Loc), (ns0 ≤ 1) → lv_has ls 4 [(0, .int a), (1, .long b)] → va_P K.1 mx_cl [] H → va_D A [] → va_S A s.heap H locs → W p l e R s m args below meth c H locs 0 0 (MQ below (va_Qi (fun (r : Int32) (u : Unit) => r = 0 ∨ r = 1) (mx_B K A (fun u : Unit => [])) A) args s 0 0 A) (F0 m 54 ls [.int (nI ns0)]) := by
  obtain ⟨hx, hb, hml, hown, hT, hK, hN, hE, hA⟩ := id F
  intro ns0 ls H locs hub_ns0 hl hP hD hS
  refine lv_istore_n (lv' := [(3, .int (nI ns0)), (0, .int a), (1, .long b)]) hx hb d_LittleMix_Arithmetic_isSo_54 rfl hl (by decide) rfl (fun ls hl => ?_)
  refine lv_goto (tgt := 87) hx hb d_LittleMix_Arithmetic_isSo_55 (by decide) ?_
  exact s_Ari_isSo_b87 a b F hr hlk hRf hRl ns0 _ _ _ (by first | assumption | omega | exact mx_ch_0) (lv_sub hl [1, 2, 0] rfl) hP hD hS
set_option maxHeartbeats 4000000 in
set_option maxRecDepth 100000 in
theorem s_Ari_isSo_b39 {p : Program} {l : Launch} {e : Env} {R : Room} {s : State} {m : MethodId} {args : Array Value} {below : List Frame} {meth : Method} {c : Code} {K : mx_K} {A : Nat → Prop} (a : Int32) (b : Int64) (F : mx_F p s m args c b_LittleMix_Arithmetic_isSo 4 "LittleMix$Arithmetic" K A) (hr : meth.sig.returnType = some .boolean) (hlk : meth.locks = false) (hRf : 1 ≤ R.frames) (hRl : 20 ≤ R.locals)
    : ∀ (ns0 : Nat) (ls : Array Slot) (H : Heap) (locs : List Loc), (ns0 ≤ 1) → lv_has ls 4 [(0, .int a), (1, .long b)] → va_P K.1 mx_cl [] H → va_D A [] → va_S A s.heap H locs → W p l e R s m args below meth c H locs 0 0 (MQ below (va_Qi (fun (r : Int32) (u : Unit) => r = 0 ∨ r = 1) (mx_B K A (fun u : Unit => [])) A) args s 0 0 A) (F0 m 39 ls [.int (nI ns0)]) := by
  obtain ⟨hx, hb, hml, hown, hT, hK, hN, hE, hA⟩ := id F
  intro ns0 ls H locs hub_ns0 hl hP hD hS
  refine lv_istore_n (lv' := [(3, .int (nI ns0)), (0, .int a), (1, .long b)]) hx hb d_LittleMix_Arithmetic_isSo_39 rfl hl (by decide) rfl (fun ls hl => ?_)
  refine lv_goto (tgt := 87) hx hb d_LittleMix_Arithmetic_isSo_40 (by decide) ?_
  exact s_Ari_isSo_b87 a b F hr hlk hRf hRl ns0 _ _ _ (by first | assumption | omega | exact mx_ch_0) (lv_sub hl [1, 2, 0] rfl) hP hD hS
set_option maxHeartbeats 4000000 in
set_option maxRecDepth 100000 in
theorem s_Ari_isSo (l : Launch) (K : mx_K) (a : Int32) (b : Int64) (sz : Nat) : mx_I l y_LittleMix_Arithmetic_isSo b_LittleMix_Arithmetic_isSo 4 .boolean { frames := 1, cells := 0, slots := 0, locals := 20 } K [.int a, .long b] [] sz (fun (r : Int32) (u : Unit) => r = 0 ∨ r = 1) (fun u : Unit => []) := by
  refine mx_of (by decide) (Nat.le_of_ble_eq_true rfl) ?_
  intro p e s m below meth c A ls H locs hAe F hr hlk hin hsz hP hD hS hl
  rw [hAe]
  have hl : lv_has ls 4 [(0, .int a), (1, .long b)] := hl
  obtain ⟨hx, hb, hml, hown, hT, hK, hN, hE, hA⟩ := id F
  refine lv_iload_n hx hb d_LittleMix_Arithmetic_isSo_0 rfl (lv_at hl 0 rfl) ?_
  refine lv_iconst (v := 3) hx hb d_LittleMix_Arithmetic_isSo_1 (by decide) ?_
  refine lv_iand hx hb d_LittleMix_Arithmetic_isSo_2 ?_
  refine lv_topi (fun z_1 ez_1 => ?_)
  obtain ⟨m_2, hm_2, rfl⟩ : ∃ j : Nat, j < 4 ∧ z_1 = nI j := by rw [ez_1]; exact pk_andE _ (m := 3) 2 (by decide)
  refine lv_topi (fun z_3 ez_3 => ?_)
  by_cases h_4 : z_3 = 0
  · rw [h_4]
    refine lv_tableIn (off := 25) (tgt := 28) hx hb d_LittleMix_Arithmetic_isSo_3 (by decide) (by decide) (by decide) (by decide) ?_
    refine lv_lload_n hx hb d_LittleMix_Arithmetic_isSo_28 rfl (lv_at hl 1 rfl) ?_
    refine lv_lconst (v := 0) hx hb d_LittleMix_Arithmetic_isSo_29 (by decide) ?_
    refine W.lcmp hx hb d_LittleMix_Arithmetic_isSo_30 ?_
    refine lv_if_ge (tgt := 38) hx hb d_LittleMix_Arithmetic_isSo_31 (by decide) (fun h_5 => ?_) (fun h_5 => ?_)
    · refine lv_iconst (v := 0) hx hb d_LittleMix_Arithmetic_isSo_38 (by decide) ?_
      exact s_Ari_isSo_b39 a b F hr hlk (by decide) (by decide) 0 _ _ _ (by first | assumption | omega | exact mx_ch_0) (lv_sub hl [0, 1] rfl) hP hD hS
    · refine lv_iconst (v := 1) hx hb d_LittleMix_Arithmetic_isSo_34 (by decide) ?_
      refine lv_goto (tgt := 39) hx hb d_LittleMix_Arithmetic_isSo_35 (by decide) ?_
      exact s_Ari_isSo_b39 a b F hr hlk (by decide) (by decide) 1 _ _ _ (by first | assumption | omega | exact mx_ch_0) (lv_sub hl [0, 1] rfl) hP hD hS
  by_cases h_6 : z_3 = 1
  · rw [h_6]
    refine lv_tableIn (off := 40) (tgt := 43) hx hb d_LittleMix_Arithmetic_isSo_3 (by decide) (by decide) (by decide) (by decide) ?_
    refine lv_lload_n hx hb d_LittleMix_Arithmetic_isSo_43 rfl (lv_at hl 1 rfl) ?_
    refine lv_lconst (v := 0) hx hb d_LittleMix_Arithmetic_isSo_44 (by decide) ?_
    refine W.lcmp hx hb d_LittleMix_Arithmetic_isSo_45 ?_
    refine lv_if_ne (tgt := 53) hx hb d_LittleMix_Arithmetic_isSo_46 (by decide) (fun h_7 => ?_) (fun h_7 => ?_)
    · refine lv_iconst (v := 0) hx hb d_LittleMix_Arithmetic_isSo_53 (by decide) ?_
      exact s_Ari_isSo_b54 a b F hr hlk (by decide) (by decide) 0 _ _ _ (by first | assumption | omega | exact mx_ch_0) (lv_sub hl [0, 1] rfl) hP hD hS
    · refine lv_iconst (v := 1) hx hb d_LittleMix_Arithmetic_isSo_49 (by decide) ?_
      refine lv_goto (tgt := 54) hx hb d_LittleMix_Arithmetic_isSo_50 (by decide) ?_
      exact s_Ari_isSo_b54 a b F hr hlk (by decide) (by decide) 1 _ _ _ (by first | assumption | omega | exact mx_ch_0) (lv_sub hl [0, 1] rfl) hP hD hS
  by_cases h_8 : z_3 = 2
  · rw [h_8]
    refine lv_tableIn (off := 55) (tgt := 58) hx hb d_LittleMix_Arithmetic_isSo_3 (by decide) (by decide) (by decide) (by decide) ?_
    refine lv_lload_n hx hb d_LittleMix_Arithmetic_isSo_58 rfl (lv_at hl 1 rfl) ?_
    refine lv_lconst (v := 0) hx hb d_LittleMix_Arithmetic_isSo_59 (by decide) ?_
    refine W.lcmp hx hb d_LittleMix_Arithmetic_isSo_60 ?_
    refine lv_if_le (tgt := 68) hx hb d_LittleMix_Arithmetic_isSo_61 (by decide) (fun h_9 => ?_) (fun h_9 => ?_)
    · refine lv_iconst (v := 0) hx hb d_LittleMix_Arithmetic_isSo_68 (by decide) ?_
      exact s_Ari_isSo_b69 a b F hr hlk (by decide) (by decide) 0 _ _ _ (by first | assumption | omega | exact mx_ch_0) (lv_sub hl [0, 1] rfl) hP hD hS
    · refine lv_iconst (v := 1) hx hb d_LittleMix_Arithmetic_isSo_64 (by decide) ?_
      refine lv_goto (tgt := 69) hx hb d_LittleMix_Arithmetic_isSo_65 (by decide) ?_
      exact s_Ari_isSo_b69 a b F hr hlk (by decide) (by decide) 1 _ _ _ (by first | assumption | omega | exact mx_ch_0) (lv_sub hl [0, 1] rfl) hP hD hS
  have h_4t := lv_neT h_4 (show ((0 : Int32)).toInt = 0 by decide)
  have h_6t := lv_neT h_6 (show ((1 : Int32)).toInt = 1 by decide)
  have h_8t := lv_neT h_8 (show ((2 : Int32)).toInt = 2 by decide)
  refine lv_tableOut (tgt := 73) hx hb d_LittleMix_Arithmetic_isSo_3 (by omega) (by decide) ?_
  refine lv_lload_n hx hb d_LittleMix_Arithmetic_isSo_73 rfl (lv_at hl 1 rfl) ?_
  refine lv_lconst (v := 1) hx hb d_LittleMix_Arithmetic_isSo_74 (by decide) ?_
  refine lv_land hx hb d_LittleMix_Arithmetic_isSo_75 ?_
  refine lv_lconst (v := 1) hx hb d_LittleMix_Arithmetic_isSo_76 (by decide) ?_
  refine W.lcmp hx hb d_LittleMix_Arithmetic_isSo_77 ?_
  refine lv_if_ne (tgt := 85) hx hb d_LittleMix_Arithmetic_isSo_78 (by decide) (fun h_10 => ?_) (fun h_10 => ?_)
  · refine lv_iconst (v := 0) hx hb d_LittleMix_Arithmetic_isSo_85 (by decide) ?_
    exact s_Ari_isSo_b86 a b F hr hlk (by decide) (by decide) 0 _ _ _ (by first | assumption | omega | exact mx_ch_0) (lv_sub hl [0, 1] rfl) hP hD hS
  · refine lv_iconst (v := 1) hx hb d_LittleMix_Arithmetic_isSo_81 (by decide) ?_
    refine lv_goto (tgt := 86) hx hb d_LittleMix_Arithmetic_isSo_82 (by decide) ?_
    exact s_Ari_isSo_b86 a b F hr hlk (by decide) (by decide) 1 _ _ _ (by first | assumption | omega | exact mx_ch_0) (lv_sub hl [0, 1] rfl) hP hD hS
set_option maxHeartbeats 4000000 in
set_option maxRecDepth 100000 in
theorem s_Ari_difference_b79 {p : Program} {l : Launch} {e : Env} {R : Room} {s : State} {m : MethodId} {args : Array Value} {below : List Frame} {meth : Method} {c : Code} {K : mx_K} {A : Nat → Prop} (a : Int64) (b : Int64) (d : Int32) (F : mx_F p s m args c b_LittleMix_Arithmetic_difference 14 "LittleMix$Arithmetic" K A) (hr : meth.sig.returnType = some .long) (hlk : meth.locks = false) (hRf : 2 ≤ R.frames) (hRl : 43 ≤ R.locals)
    (N17 : Nat)
    (kk17 : ∀ (v5 : Int64) (v7 : Int64) (n9 : Nat) (ls : Array Slot) (H : Heap) (locs : List Loc), 8 - n9 < N17 → (n9 ≤ 8) → lv_has ls 14 [(0, .long a), (2, .long b), (4, .int d), (5, .long v5), (7, .long v7), (9, .int (nI n9))] → va_P K.1 mx_cl [] H → va_D A [] → va_S A s.heap H locs → W p l e R s m args below meth c H locs 0 0 (MQ below (va_Ql (fun (r : Int64) (u : Unit) => True) (mx_B K A (fun u : Unit => [])) A) args s 0 0 A) (F0 m 17 ls []))
    : ∀ (v5 : Int64) (v7 : Int64) (n9 : Nat) (v10 : Int64) (v12 : Int64) (vs0 : Int64) (vs1 : Int64) (ls : Array Slot) (H : Heap) (locs : List Loc), (n9 ≤ 8) → (8 - n9 < N17 + 1) → (n9 < 8) → lv_has ls 14 [(0, .long a), (2, .long b), (4, .int d), (5, .long v5), (7, .long v7), (9, .int (nI n9)), (10, .long v10), (12, .long v12)] → va_P K.1 mx_cl [] H → va_D A [] → va_S A s.heap H locs → W p l e R s m args below meth c H locs 0 0 (MQ below (va_Ql (fun (r : Int64) (u : Unit) => True) (mx_B K A (fun u : Unit => [])) A) args s 0 0 A) (F0 m 79 ls [.long vs0, .long vs1]) := by
  obtain ⟨hx, hb, hml, hown, hT, hK, hN, hE, hA⟩ := id F
  intro v5 v7 n9 v10 v12 vs0 vs1 ls H locs hfa0 hfa1 hfa2 hl hP hD hS
  refine lv_iload hx hb d_LittleMix_Arithmetic_difference_79 (lv_at hl 5 rfl) ?_
  refine lv_iload hx hb d_LittleMix_Arithmetic_difference_81 (lv_at hl 2 rfl) ?_
  refine lv_imul hx hb d_LittleMix_Arithmetic_difference_83 ?_
  refine lv_lshl (v := vs0 <<< (((nI n9) * d).toInt64 &&& 63)) hx hb d_LittleMix_Arithmetic_difference_84 rfl ?_
  refine lv_lor hx hb d_LittleMix_Arithmetic_difference_85 ?_
  refine lv_topl (fun z_1 ez_1 => ?_)
  refine lv_lstore (lv' := [(7, .long z_1), (0, .long a), (2, .long b), (4, .int d), (5, .long v5), (9, .int (nI n9)), (10, .long v10), (12, .long v12)]) hx hb d_LittleMix_Arithmetic_difference_86 hl (by decide) rfl (fun ls hl => ?_)
  refine lv_iinc (lv' := [(9, .int (nI (n9 + 1))), (7, .long z_1), (0, .long a), (2, .long b), (4, .int d), (5, .long v5), (10, .long v10), (12, .long v12)]) (v := nI (n9 + 1)) (k := 5) hx hb d_LittleMix_Arithmetic_difference_88 hl rfl (mx_inc n9) (by decide) rfl (fun ls hl => ?_)
  refine lv_goto (tgt := 17) hx hb d_LittleMix_Arithmetic_difference_91 (by decide) ?_
  exact kk17 v5 z_1 (n9 + 1) _ _ _ (by omega) (by first | assumption | omega | exact mx_ch_0) (lv_sub hl [2, 3, 4, 5, 1, 0] rfl) hP hD hS
set_option maxHeartbeats 4000000 in
set_option maxRecDepth 100000 in
theorem s_Ari_difference_b17 {p : Program} {l : Launch} {e : Env} {R : Room} {s : State} {m : MethodId} {args : Array Value} {below : List Frame} {meth : Method} {c : Code} {K : mx_K} {A : Nat → Prop} (a : Int64) (b : Int64) (d : Int32) (F : mx_F p s m args c b_LittleMix_Arithmetic_difference 14 "LittleMix$Arithmetic" K A) (hr : meth.sig.returnType = some .long) (hlk : meth.locks = false) (hRf : 2 ≤ R.frames) (hRl : 43 ≤ R.locals)
    : ∀ n : Nat, ∀ (v5 : Int64) (v7 : Int64) (n9 : Nat) (ls : Array Slot) (H : Heap) (locs : List Loc), 8 - n9 < n → (n9 ≤ 8) → lv_has ls 14 [(0, .long a), (2, .long b), (4, .int d), (5, .long v5), (7, .long v7), (9, .int (nI n9))] → va_P K.1 mx_cl [] H → va_D A [] → va_S A s.heap H locs → W p l e R s m args below meth c H locs 0 0 (MQ below (va_Ql (fun (r : Int64) (u : Unit) => True) (mx_B K A (fun u : Unit => [])) A) args s 0 0 A) (F0 m 17 ls []) := by
  obtain ⟨hx, hb, hml, hown, hT, hK, hN, hE, hA⟩ := id F
  intro n
  induction n with
  | zero =>
    intro v5 v7 n9 ls H locs hmu h9 hl hP hD hS
    exact absurd hmu (Nat.not_lt_zero _)
  | succ n ih =>
    intro v5 v7 n9 ls H locs hmu h9 hl hP hD hS
    refine lv_iload hx hb d_LittleMix_Arithmetic_difference_17 (lv_at hl 5 rfl) ?_
    refine lv_bipush (v := 8) hx hb d_LittleMix_Arithmetic_difference_19 (by decide) ?_
    refine lv_icmp_ge (tgt := 94) hx hb d_LittleMix_Arithmetic_difference_21 (by decide) (fun h_1 => ?_) (fun h_1 => ?_)
    · have h_1n := mx_fLe (a := 8) (b := n9) (by omega) (by omega) h_1
      refine lv_lload hx hb d_LittleMix_Arithmetic_difference_94 (lv_at hl 4 rfl) ?_
      exact mx_rl F hr hlk hP hD hS () [] rfl (by decide) trivial (by decide) (by decide) d_LittleMix_Arithmetic_difference_96
    · have h_1n := mx_fNle (a := 8) (b := n9) (by omega) (by omega) h_1
      refine lv_iload hx hb d_LittleMix_Arithmetic_difference_24 (lv_at hl 5 rfl) ?_
      refine lv_iload hx hb d_LittleMix_Arithmetic_difference_26 (lv_at hl 2 rfl) ?_
      refine lv_imul hx hb d_LittleMix_Arithmetic_difference_28 ?_
      refine lv_bipush (v := 64) hx hb d_LittleMix_Arithmetic_difference_29 (by decide) ?_
      refine lv_icmp_ge (tgt := 94) hx hb d_LittleMix_Arithmetic_difference_31 (by decide) (fun h_2 => ?_) (fun h_2 => ?_)
      · refine lv_lload hx hb d_LittleMix_Arithmetic_difference_94 (lv_at hl 4 rfl) ?_
        exact mx_rl F hr hlk hP hD hS () [] rfl (by decide) trivial (by decide) (by decide) d_LittleMix_Arithmetic_difference_96
      · refine lv_lload_n hx hb d_LittleMix_Arithmetic_difference_34 rfl (lv_at hl 0 rfl) ?_
        refine lv_iload hx hb d_LittleMix_Arithmetic_difference_35 (lv_at hl 5 rfl) ?_
        refine lv_iload hx hb d_LittleMix_Arithmetic_difference_37 (lv_at hl 2 rfl) ?_
        refine lv_imul hx hb d_LittleMix_Arithmetic_difference_39 ?_
        refine lv_lushr (v := (a.toUInt64 >>> (((nI n9) * d).toInt64.toUInt64 &&& Int64.toUInt64 63)).toInt64) hx hb d_LittleMix_Arithmetic_difference_40 rfl ?_
        refine lv_lload hx hb d_LittleMix_Arithmetic_difference_41 (lv_at hl 3 rfl) ?_
        refine lv_land hx hb d_LittleMix_Arithmetic_difference_43 ?_
        refine lv_topl (fun z_3 ez_3 => ?_)
        refine lv_lstore (lv' := [(10, .long z_3), (0, .long a), (2, .long b), (4, .int d), (5, .long v5), (7, .long v7), (9, .int (nI n9))]) hx hb d_LittleMix_Arithmetic_difference_44 hl (by decide) rfl (fun ls hl => ?_)
        refine lv_lload_n hx hb d_LittleMix_Arithmetic_difference_46 rfl (lv_at hl 2 rfl) ?_
        refine lv_iload hx hb d_LittleMix_Arithmetic_difference_47 (lv_at hl 6 rfl) ?_
        refine lv_iload hx hb d_LittleMix_Arithmetic_difference_49 (lv_at hl 3 rfl) ?_
        refine lv_imul hx hb d_LittleMix_Arithmetic_difference_51 ?_
        refine lv_lushr (v := (b.toUInt64 >>> (((nI n9) * d).toInt64.toUInt64 &&& Int64.toUInt64 63)).toInt64) hx hb d_LittleMix_Arithmetic_difference_52 rfl ?_
        refine lv_lload hx hb d_LittleMix_Arithmetic_difference_53 (lv_at hl 4 rfl) ?_
        refine lv_land hx hb d_LittleMix_Arithmetic_difference_55 ?_
        refine lv_topl (fun z_4 ez_4 => ?_)
        refine lv_lstore (lv' := [(12, .long z_4), (10, .long z_3), (0, .long a), (2, .long b), (4, .int d), (5, .long v5), (7, .long v7), (9, .int (nI n9))]) hx hb d_LittleMix_Arithmetic_difference_56 hl (by decide) rfl (fun ls hl => ?_)
        refine lv_lload hx hb d_LittleMix_Arithmetic_difference_58 (lv_at hl 6 rfl) ?_
        refine lv_lload hx hb d_LittleMix_Arithmetic_difference_60 (lv_at hl 0 rfl) ?_
        refine lv_lload hx hb d_LittleMix_Arithmetic_difference_62 (lv_at hl 1 rfl) ?_
        refine mx_ci (wr := []) F (mx_runS (As := [.long z_4, .long z_3]) (rest := [.long v7]) (n := 2) F (s_Ari_below l K z_4 z_3 H.size) k_881 (Or.inl k_886) k_880 k_20 p_LittleMix_Arithmetic_below rfl rfl hP hD hS [] rfl (by decide)  rfl hl.1 rfl (Nat.le_of_ble_eq_true rfl) ⟨Nat.le_trans (m := 2) (by decide) hRf, Nat.le_trans (m := 43) (by decide) hRl⟩ ⟨Nat.zero_le _, Nat.zero_le _⟩ d_LittleMix_Arithmetic_difference_64) hP hD hS [] [] rfl rfl (by decide) (by decide) (fun r_6 _ H locs hq_5 hP hD hS => ?_)
        obtain ⟨rb_7, hrb_7, rfl⟩ := mx_bool hq_5
        have hP : va_P K.1 mx_cl [] H := hP
        have hD : va_D A [] := hD
        refine W.cs (cells' := 0) (slots' := 0) rfl rfl ?_
        refine lv_if_eq (tgt := 78) hx hb d_LittleMix_Arithmetic_difference_67 (by decide) (fun h_8 => ?_) (fun h_8 => ?_)
        · have h_8n := mx_fEq (a := rb_7) (b := 0) (by omega) (by omega) h_8
          refine lv_lconst (v := 0) hx hb d_LittleMix_Arithmetic_difference_78 (by decide) ?_
          exact s_Ari_difference_b79 a b d F hr hlk hRf hRl n ih v5 v7 n9 z_3 z_4 (0 : Int64) v7 _ _ _ (by first | assumption | omega | exact mx_ch_0) (by first | assumption | omega | exact mx_ch_0) (by first | assumption | omega | exact mx_ch_0) (lv_sub hl [2, 3, 4, 5, 6, 7, 1, 0] rfl) hP hD hS
        · have h_8n := mx_fNe (a := rb_7) (b := 0) (by omega) (by omega) h_8
          refine lv_lload hx hb d_LittleMix_Arithmetic_difference_70 (lv_at hl 1 rfl) ?_
          refine lv_lload hx hb d_LittleMix_Arithmetic_difference_72 (lv_at hl 0 rfl) ?_
          refine lv_lsub hx hb d_LittleMix_Arithmetic_difference_74 ?_
          refine lv_goto (tgt := 79) hx hb d_LittleMix_Arithmetic_difference_75 (by decide) ?_
          exact s_Ari_difference_b79 a b d F hr hlk hRf hRl n ih v5 v7 n9 z_3 z_4 (z_3 - z_4) v7 _ _ _ (by first | assumption | omega | exact mx_ch_0) (by first | assumption | omega | exact mx_ch_0) (by first | assumption | omega | exact mx_ch_0) (lv_sub hl [2, 3, 4, 5, 6, 7, 1, 0] rfl) hP hD hS
set_option maxHeartbeats 4000000 in
set_option maxRecDepth 100000 in
theorem s_Ari_difference (l : Launch) (K : mx_K) (a : Int64) (b : Int64) (d : Int32) (sz : Nat) : mx_L l y_LittleMix_Arithmetic_difference b_LittleMix_Arithmetic_difference 14 { frames := 2, cells := 0, slots := 0, locals := 43 } K [.long a, .long b, .int d] [] sz (fun (r : Int64) (u : Unit) => True) (fun u : Unit => []) := by
  refine mx_of (by decide) (Nat.le_of_ble_eq_true rfl) ?_
  intro p e s m below meth c A ls H locs hAe F hr hlk hin hsz hP hD hS hl
  rw [hAe]
  have hl : lv_has ls 14 [(0, .long a), (2, .long b), (4, .int d)] := hl
  obtain ⟨hx, hb, hml, hown, hT, hK, hN, hE, hA⟩ := id F
  refine lv_ldc2 (v := (-1)) hx hb hown (hT _ k_935) d_LittleMix_Arithmetic_difference_0 ?_
  refine lv_bipush (v := 64) hx hb d_LittleMix_Arithmetic_difference_3 (by decide) ?_
  refine lv_iload hx hb d_LittleMix_Arithmetic_difference_5 (lv_at hl 2 rfl) ?_
  refine lv_isub hx hb d_LittleMix_Arithmetic_difference_7 ?_
  refine lv_lushr (v := ((-1 : Int64).toUInt64 >>> (((64 : Int32) - d).toInt64.toUInt64 &&& Int64.toUInt64 63)).toInt64) hx hb d_LittleMix_Arithmetic_difference_8 rfl ?_
  refine lv_topl (fun z_1 ez_1 => ?_)
  refine lv_lstore (lv' := [(5, .long z_1), (0, .long a), (2, .long b), (4, .int d)]) hx hb d_LittleMix_Arithmetic_difference_9 hl (by decide) rfl (fun ls hl => ?_)
  refine lv_lconst (v := 0) hx hb d_LittleMix_Arithmetic_difference_11 (by decide) ?_
  refine lv_lstore (lv' := [(7, .long 0), (5, .long z_1), (0, .long a), (2, .long b), (4, .int d)]) hx hb d_LittleMix_Arithmetic_difference_12 hl (by decide) rfl (fun ls hl => ?_)
  refine lv_iconst (v := 0) hx hb d_LittleMix_Arithmetic_difference_14 (by decide) ?_
  refine lv_istore (lv' := [(9, .int 0), (7, .long 0), (5, .long z_1), (0, .long a), (2, .long b), (4, .int d)]) hx hb d_LittleMix_Arithmetic_difference_15 hl (by decide) rfl (fun ls hl => ?_)
  exact s_Ari_difference_b17 a b d F hr hlk (by decide) (by decide) (8 - 0 + 1) z_1 (0 : Int64) 0 _ _ _ (by omega) (by first | assumption | omega | exact mx_ch_0) (lv_sub hl [3, 4, 5, 2, 1, 0] rfl) hP hD hS
set_option maxHeartbeats 4000000 in
set_option maxRecDepth 100000 in
theorem s_Ari_matrix_b75 {p : Program} {l : Launch} {e : Env} {R : Room} {s : State} {m : MethodId} {args : Array Value} {below : List Frame} {meth : Method} {c : Code} {K : mx_K} {A : Nat → Prop} (a : Int64) (b : Int64) (d : Int32) (F : mx_F p s m args c b_LittleMix_Arithmetic_matrix 13 "LittleMix$Arithmetic" K A) (hr : meth.sig.returnType = some .long) (hlk : meth.locks = false) (hRf : 1 ≤ R.frames) (hRl : 20 ≤ R.locals)
    (N6 : Nat) (N19 : Nat)
    (kk19 : ∀ (v5 : Int64) (n7 : Nat) (v8 : Int64) (n10 : Nat) (ls : Array Slot) (H : Heap) (locs : List Loc), 8 - n10 < N19 → (n7 ≤ 72) → (64 - n7 < N6 + 1) → (n10 ≤ 8) → (n7 < 64) → lv_has ls 13 [(0, .long a), (2, .long b), (4, .int d), (5, .long v5), (7, .int (nI n7)), (8, .long v8), (10, .int (nI n10))] → va_P K.1 mx_cl [] H → va_D A [] → va_S A s.heap H locs → W p l e R s m args below meth c H locs 0 0 (MQ below (va_Ql (fun (r : Int64) (u : Unit) => True) (mx_B K A (fun u : Unit => [])) A) args s 0 0 A) (F0 m 19 ls []))
    : ∀ (v5 : Int64) (n7 : Nat) (v8 : Int64) (n10 : Nat) (v11 : Int64) (vs0 : Int64) (ls : Array Slot) (H : Heap) (locs : List Loc), (n7 ≤ 72) → (64 - n7 < N6 + 1) → (n10 ≤ 8) → (n7 < 64) → (8 - n10 < N19 + 1) → (n10 < 8) → lv_has ls 13 [(0, .long a), (2, .long b), (4, .int d), (5, .long v5), (7, .int (nI n7)), (8, .long v8), (10, .int (nI n10)), (11, .long v11)] → va_P K.1 mx_cl [] H → va_D A [] → va_S A s.heap H locs → W p l e R s m args below meth c H locs 0 0 (MQ below (va_Ql (fun (r : Int64) (u : Unit) => True) (mx_B K A (fun u : Unit => [])) A) args s 0 0 A) (F0 m 75 ls [.long vs0]) := by
  obtain ⟨hx, hb, hml, hown, hT, hK, hN, hE, hA⟩ := id F
  intro v5 n7 v8 n10 v11 vs0 ls H locs hfa0 hfa1 hfa2 hfa3 hfa4 hfa5 hl hP hD hS
  refine lv_lstore (lv' := [(8, .long vs0), (0, .long a), (2, .long b), (4, .int d), (5, .long v5), (7, .int (nI n7)), (10, .int (nI n10)), (11, .long v11)]) hx hb d_LittleMix_Arithmetic_matrix_75 hl (by decide) rfl (fun ls hl => ?_)
  refine lv_iinc (lv' := [(10, .int (nI (n10 + 1))), (8, .long vs0), (0, .long a), (2, .long b), (4, .int d), (5, .long v5), (7, .int (nI n7)), (11, .long v11)]) (v := nI (n10 + 1)) (k := 6) hx hb d_LittleMix_Arithmetic_matrix_77 hl rfl (mx_inc n10) (by decide) rfl (fun ls hl => ?_)
  refine lv_goto (tgt := 19) hx hb d_LittleMix_Arithmetic_matrix_80 (by decide) ?_
  exact kk19 v5 n7 vs0 (n10 + 1) _ _ _ (by omega) (by first | assumption | omega | exact mx_ch_0) (by first | assumption | omega | exact mx_ch_0) (by first | assumption | omega | exact mx_ch_0) (by first | assumption | omega | exact mx_ch_0) (lv_sub hl [2, 3, 4, 5, 6, 1, 0] rfl) hP hD hS
set_option maxHeartbeats 4000000 in
set_option maxRecDepth 100000 in
theorem s_Ari_matrix_b55 {p : Program} {l : Launch} {e : Env} {R : Room} {s : State} {m : MethodId} {args : Array Value} {below : List Frame} {meth : Method} {c : Code} {K : mx_K} {A : Nat → Prop} (a : Int64) (b : Int64) (d : Int32) (F : mx_F p s m args c b_LittleMix_Arithmetic_matrix 13 "LittleMix$Arithmetic" K A) (hr : meth.sig.returnType = some .long) (hlk : meth.locks = false) (hRf : 1 ≤ R.frames) (hRl : 20 ≤ R.locals)
    (N6 : Nat) (N19 : Nat)
    (kk19 : ∀ (v5 : Int64) (n7 : Nat) (v8 : Int64) (n10 : Nat) (ls : Array Slot) (H : Heap) (locs : List Loc), 8 - n10 < N19 → (n7 ≤ 72) → (64 - n7 < N6 + 1) → (n10 ≤ 8) → (n7 < 64) → lv_has ls 13 [(0, .long a), (2, .long b), (4, .int d), (5, .long v5), (7, .int (nI n7)), (8, .long v8), (10, .int (nI n10))] → va_P K.1 mx_cl [] H → va_D A [] → va_S A s.heap H locs → W p l e R s m args below meth c H locs 0 0 (MQ below (va_Ql (fun (r : Int64) (u : Unit) => True) (mx_B K A (fun u : Unit => [])) A) args s 0 0 A) (F0 m 19 ls []))
    : ∀ (v5 : Int64) (n7 : Nat) (v8 : Int64) (n10 : Nat) (vs0 : Int64) (ls : Array Slot) (H : Heap) (locs : List Loc), (n7 ≤ 72) → (64 - n7 < N6 + 1) → (n10 ≤ 8) → (n7 < 64) → (8 - n10 < N19 + 1) → (n10 < 8) → lv_has ls 13 [(0, .long a), (2, .long b), (4, .int d), (5, .long v5), (7, .int (nI n7)), (8, .long v8), (10, .int (nI n10))] → va_P K.1 mx_cl [] H → va_D A [] → va_S A s.heap H locs → W p l e R s m args below meth c H locs 0 0 (MQ below (va_Ql (fun (r : Int64) (u : Unit) => True) (mx_B K A (fun u : Unit => [])) A) args s 0 0 A) (F0 m 55 ls [.long vs0]) := by
  obtain ⟨hx, hb, hml, hown, hT, hK, hN, hE, hA⟩ := id F
  intro v5 n7 v8 n10 vs0 ls H locs hfa0 hfa1 hfa2 hfa3 hfa4 hfa5 hl hP hD hS
  refine lv_lstore (lv' := [(11, .long vs0), (0, .long a), (2, .long b), (4, .int d), (5, .long v5), (7, .int (nI n7)), (8, .long v8), (10, .int (nI n10))]) hx hb d_LittleMix_Arithmetic_matrix_55 hl (by decide) rfl (fun ls hl => ?_)
  refine lv_iload hx hb d_LittleMix_Arithmetic_matrix_57 (lv_at hl 3 rfl) ?_
  refine lv_if_eq (tgt := 70) hx hb d_LittleMix_Arithmetic_matrix_59 (by decide) (fun h_1 => ?_) (fun h_1 => ?_)
  · refine lv_lload hx hb d_LittleMix_Arithmetic_matrix_70 (lv_at hl 6 rfl) ?_
    refine lv_lload hx hb d_LittleMix_Arithmetic_matrix_72 (lv_at hl 0 rfl) ?_
    refine lv_lor hx hb d_LittleMix_Arithmetic_matrix_74 ?_
    exact s_Ari_matrix_b75 a b d F hr hlk hRf hRl N6 N19 kk19 v5 n7 v8 n10 vs0 (v8 ||| vs0) _ _ _ (by first | assumption | omega | exact mx_ch_0) (by first | assumption | omega | exact mx_ch_0) (by first | assumption | omega | exact mx_ch_0) (by first | assumption | omega | exact mx_ch_0) (by first | assumption | omega | exact mx_ch_0) (by first | assumption | omega | exact mx_ch_0) (lv_sub hl [1, 2, 3, 4, 5, 6, 7, 0] rfl) hP hD hS
  · refine lv_lload hx hb d_LittleMix_Arithmetic_matrix_62 (lv_at hl 6 rfl) ?_
    refine lv_lload hx hb d_LittleMix_Arithmetic_matrix_64 (lv_at hl 0 rfl) ?_
    refine lv_lxor hx hb d_LittleMix_Arithmetic_matrix_66 ?_
    refine lv_goto (tgt := 75) hx hb d_LittleMix_Arithmetic_matrix_67 (by decide) ?_
    exact s_Ari_matrix_b75 a b d F hr hlk hRf hRl N6 N19 kk19 v5 n7 v8 n10 vs0 (v8 ^^^ vs0) _ _ _ (by first | assumption | omega | exact mx_ch_0) (by first | assumption | omega | exact mx_ch_0) (by first | assumption | omega | exact mx_ch_0) (by first | assumption | omega | exact mx_ch_0) (by first | assumption | omega | exact mx_ch_0) (by first | assumption | omega | exact mx_ch_0) (lv_sub hl [1, 2, 3, 4, 5, 6, 7, 0] rfl) hP hD hS
set_option maxHeartbeats 4000000 in
set_option maxRecDepth 100000 in
theorem s_Ari_matrix_b19 {p : Program} {l : Launch} {e : Env} {R : Room} {s : State} {m : MethodId} {args : Array Value} {below : List Frame} {meth : Method} {c : Code} {K : mx_K} {A : Nat → Prop} (a : Int64) (b : Int64) (d : Int32) (F : mx_F p s m args c b_LittleMix_Arithmetic_matrix 13 "LittleMix$Arithmetic" K A) (hr : meth.sig.returnType = some .long) (hlk : meth.locks = false) (hRf : 1 ≤ R.frames) (hRl : 20 ≤ R.locals)
    (N6 : Nat)
    (kk6 : ∀ (v5 : Int64) (n7 : Nat) (ls : Array Slot) (H : Heap) (locs : List Loc), 64 - n7 < N6 → (n7 ≤ 72) → lv_has ls 13 [(0, .long a), (2, .long b), (4, .int d), (5, .long v5), (7, .int (nI n7))] → va_P K.1 mx_cl [] H → va_D A [] → va_S A s.heap H locs → W p l e R s m args below meth c H locs 0 0 (MQ below (va_Ql (fun (r : Int64) (u : Unit) => True) (mx_B K A (fun u : Unit => [])) A) args s 0 0 A) (F0 m 6 ls []))
    : ∀ n : Nat, ∀ (v5 : Int64) (n7 : Nat) (v8 : Int64) (n10 : Nat) (ls : Array Slot) (H : Heap) (locs : List Loc), 8 - n10 < n → (n7 ≤ 72) → (64 - n7 < N6 + 1) → (n10 ≤ 8) → (n7 < 64) → lv_has ls 13 [(0, .long a), (2, .long b), (4, .int d), (5, .long v5), (7, .int (nI n7)), (8, .long v8), (10, .int (nI n10))] → va_P K.1 mx_cl [] H → va_D A [] → va_S A s.heap H locs → W p l e R s m args below meth c H locs 0 0 (MQ below (va_Ql (fun (r : Int64) (u : Unit) => True) (mx_B K A (fun u : Unit => [])) A) args s 0 0 A) (F0 m 19 ls []) := by
  obtain ⟨hx, hb, hml, hown, hT, hK, hN, hE, hA⟩ := id F
  intro n
  induction n with
  | zero =>
    intro v5 n7 v8 n10 ls H locs hmu hfa0 hfa1 h10 h7 hl hP hD hS
    exact absurd hmu (Nat.not_lt_zero _)
  | succ n ih =>
    intro v5 n7 v8 n10 ls H locs hmu hfa0 hfa1 h10 h7 hl hP hD hS
    refine lv_iload hx hb d_LittleMix_Arithmetic_matrix_19 (lv_at hl 6 rfl) ?_
    refine lv_bipush (v := 8) hx hb d_LittleMix_Arithmetic_matrix_21 (by decide) ?_
    refine lv_icmp_ge (tgt := 83) hx hb d_LittleMix_Arithmetic_matrix_23 (by decide) (fun h_1 => ?_) (fun h_1 => ?_)
    · have h_1n := mx_fLe (a := 8) (b := n10) (by omega) (by omega) h_1
      refine lv_lload hx hb d_LittleMix_Arithmetic_matrix_83 (lv_at hl 3 rfl) ?_
      refine lv_lload hx hb d_LittleMix_Arithmetic_matrix_85 (lv_at hl 5 rfl) ?_
      refine lv_iload hx hb d_LittleMix_Arithmetic_matrix_87 (lv_at hl 4 rfl) ?_
      refine lv_lshl (v := v8 <<< ((nI n7).toInt64 &&& 63)) hx hb d_LittleMix_Arithmetic_matrix_89 rfl ?_
      refine lv_lor hx hb d_LittleMix_Arithmetic_matrix_90 ?_
      refine lv_topl (fun z_2 ez_2 => ?_)
      refine lv_lstore (lv' := [(5, .long z_2), (0, .long a), (2, .long b), (4, .int d), (7, .int (nI n7)), (8, .long v8), (10, .int (nI n10))]) hx hb d_LittleMix_Arithmetic_matrix_91 hl (by decide) rfl (fun ls hl => ?_)
      refine lv_iinc (lv' := [(7, .int (nI (n7 + 8))), (5, .long z_2), (0, .long a), (2, .long b), (4, .int d), (8, .long v8), (10, .int (nI n10))]) (v := nI (n7 + 8)) (k := 4) hx hb d_LittleMix_Arithmetic_matrix_93 hl rfl (mx_incn n7 8 (by decide)) (by decide) rfl (fun ls hl => ?_)
      refine lv_goto (tgt := 6) hx hb d_LittleMix_Arithmetic_matrix_96 (by decide) ?_
      exact kk6 z_2 (n7 + 8) _ _ _ (by omega) (by first | assumption | omega | exact mx_ch_0) (lv_sub hl [2, 3, 4, 1, 0] rfl) hP hD hS
    · have h_1n := mx_fNle (a := 8) (b := n10) (by omega) (by omega) h_1
      refine lv_lload_n hx hb d_LittleMix_Arithmetic_matrix_26 rfl (lv_at hl 1 rfl) ?_
      refine lv_iload hx hb d_LittleMix_Arithmetic_matrix_27 (lv_at hl 4 rfl) ?_
      refine lv_iload hx hb d_LittleMix_Arithmetic_matrix_29 (lv_at hl 6 rfl) ?_
      refine lv_iadd hx hb d_LittleMix_Arithmetic_matrix_31 ?_
      refine lv_topi (fun z_3 ez_3 => ?_)
      obtain rfl : z_3 = nI (n7 + n10) := ez_3.trans (nI_add n7 n10)
      refine lv_lushr (v := (b.toUInt64 >>> ((nI (n7 + n10)).toInt64.toUInt64 &&& Int64.toUInt64 63)).toInt64) hx hb d_LittleMix_Arithmetic_matrix_32 rfl ?_
      refine lv_lconst (v := 1) hx hb d_LittleMix_Arithmetic_matrix_33 (by decide) ?_
      refine lv_land hx hb d_LittleMix_Arithmetic_matrix_34 ?_
      refine lv_lconst (v := 0) hx hb d_LittleMix_Arithmetic_matrix_35 (by decide) ?_
      refine W.lcmp hx hb d_LittleMix_Arithmetic_matrix_36 ?_
      refine lv_if_ne (tgt := 44) hx hb d_LittleMix_Arithmetic_matrix_37 (by decide) (fun h_4 => ?_) (fun h_4 => ?_)
      · refine lv_lload_n hx hb d_LittleMix_Arithmetic_matrix_44 rfl (lv_at hl 0 rfl) ?_
        refine lv_bipush (v := 8) hx hb d_LittleMix_Arithmetic_matrix_45 (by decide) ?_
        refine lv_iload hx hb d_LittleMix_Arithmetic_matrix_47 (lv_at hl 6 rfl) ?_
        refine lv_imul hx hb d_LittleMix_Arithmetic_matrix_49 ?_
        refine lv_lushr (v := (a.toUInt64 >>> (((8 : Int32) * (nI n10)).toInt64.toUInt64 &&& Int64.toUInt64 63)).toInt64) hx hb d_LittleMix_Arithmetic_matrix_50 rfl ?_
        refine lv_ldc2 (v := 255) hx hb hown (hT _ k_931) d_LittleMix_Arithmetic_matrix_51 ?_
        refine lv_land hx hb d_LittleMix_Arithmetic_matrix_54 ?_
        exact s_Ari_matrix_b55 a b d F hr hlk hRf hRl N6 n ih v5 n7 v8 n10 (((a.toUInt64 >>> (((8 : Int32) * (nI n10)).toInt64.toUInt64 &&& Int64.toUInt64 63)).toInt64) &&& (255 : Int64)) _ _ _ (by first | assumption | omega | exact mx_ch_0) (by first | assumption | omega | exact mx_ch_0) (by first | assumption | omega | exact mx_ch_0) (by first | assumption | omega | exact mx_ch_0) (by first | assumption | omega | exact mx_ch_0) (by first | assumption | omega | exact mx_ch_0) (lv_sub hl [0, 1, 2, 3, 4, 5, 6] rfl) hP hD hS
      · refine lv_lconst (v := 0) hx hb d_LittleMix_Arithmetic_matrix_40 (by decide) ?_
        refine lv_goto (tgt := 55) hx hb d_LittleMix_Arithmetic_matrix_41 (by decide) ?_
        exact s_Ari_matrix_b55 a b d F hr hlk hRf hRl N6 n ih v5 n7 v8 n10 (0 : Int64) _ _ _ (by first | assumption | omega | exact mx_ch_0) (by first | assumption | omega | exact mx_ch_0) (by first | assumption | omega | exact mx_ch_0) (by first | assumption | omega | exact mx_ch_0) (by first | assumption | omega | exact mx_ch_0) (by first | assumption | omega | exact mx_ch_0) (lv_sub hl [0, 1, 2, 3, 4, 5, 6] rfl) hP hD hS
set_option maxHeartbeats 4000000 in
set_option maxRecDepth 100000 in
theorem s_Ari_matrix_b6 {p : Program} {l : Launch} {e : Env} {R : Room} {s : State} {m : MethodId} {args : Array Value} {below : List Frame} {meth : Method} {c : Code} {K : mx_K} {A : Nat → Prop} (a : Int64) (b : Int64) (d : Int32) (F : mx_F p s m args c b_LittleMix_Arithmetic_matrix 13 "LittleMix$Arithmetic" K A) (hr : meth.sig.returnType = some .long) (hlk : meth.locks = false) (hRf : 1 ≤ R.frames) (hRl : 20 ≤ R.locals)
    : ∀ n : Nat, ∀ (v5 : Int64) (n7 : Nat) (ls : Array Slot) (H : Heap) (locs : List Loc), 64 - n7 < n → (n7 ≤ 72) → lv_has ls 13 [(0, .long a), (2, .long b), (4, .int d), (5, .long v5), (7, .int (nI n7))] → va_P K.1 mx_cl [] H → va_D A [] → va_S A s.heap H locs → W p l e R s m args below meth c H locs 0 0 (MQ below (va_Ql (fun (r : Int64) (u : Unit) => True) (mx_B K A (fun u : Unit => [])) A) args s 0 0 A) (F0 m 6 ls []) := by
  obtain ⟨hx, hb, hml, hown, hT, hK, hN, hE, hA⟩ := id F
  intro n
  induction n with
  | zero =>
    intro v5 n7 ls H locs hmu h7 hl hP hD hS
    exact absurd hmu (Nat.not_lt_zero _)
  | succ n ih =>
    intro v5 n7 ls H locs hmu h7 hl hP hD hS
    refine lv_iload hx hb d_LittleMix_Arithmetic_matrix_6 (lv_at hl 4 rfl) ?_
    refine lv_bipush (v := 64) hx hb d_LittleMix_Arithmetic_matrix_8 (by decide) ?_
    refine lv_icmp_ge (tgt := 99) hx hb d_LittleMix_Arithmetic_matrix_10 (by decide) (fun h_1 => ?_) (fun h_1 => ?_)
    · have h_1n := mx_fLe (a := 64) (b := n7) (by omega) (by omega) h_1
      refine lv_lload hx hb d_LittleMix_Arithmetic_matrix_99 (lv_at hl 3 rfl) ?_
      exact mx_rl F hr hlk hP hD hS () [] rfl (by decide) trivial (by decide) (by decide) d_LittleMix_Arithmetic_matrix_101
    · have h_1n := mx_fNle (a := 64) (b := n7) (by omega) (by omega) h_1
      refine lv_lconst (v := 0) hx hb d_LittleMix_Arithmetic_matrix_13 (by decide) ?_
      refine lv_lstore (lv' := [(8, .long 0), (0, .long a), (2, .long b), (4, .int d), (5, .long v5), (7, .int (nI n7))]) hx hb d_LittleMix_Arithmetic_matrix_14 hl (by decide) rfl (fun ls hl => ?_)
      refine lv_iconst (v := 0) hx hb d_LittleMix_Arithmetic_matrix_16 (by decide) ?_
      refine lv_istore (lv' := [(10, .int 0), (8, .long 0), (0, .long a), (2, .long b), (4, .int d), (5, .long v5), (7, .int (nI n7))]) hx hb d_LittleMix_Arithmetic_matrix_17 hl (by decide) rfl (fun ls hl => ?_)
      exact s_Ari_matrix_b19 a b d F hr hlk hRf hRl n ih (8 - 0 + 1) v5 n7 (0 : Int64) 0 _ _ _ (by omega) (by first | assumption | omega | exact mx_ch_0) (by first | assumption | omega | exact mx_ch_0) (by first | assumption | omega | exact mx_ch_0) (by first | assumption | omega | exact mx_ch_0) (lv_sub hl [2, 3, 4, 5, 6, 1, 0] rfl) hP hD hS
set_option maxHeartbeats 4000000 in
set_option maxRecDepth 100000 in
theorem s_Ari_matrix (l : Launch) (K : mx_K) (a : Int64) (b : Int64) (d : Int32) (sz : Nat) : mx_L l y_LittleMix_Arithmetic_matrix b_LittleMix_Arithmetic_matrix 13 { frames := 1, cells := 0, slots := 0, locals := 20 } K [.long a, .long b, .int d] [] sz (fun (r : Int64) (u : Unit) => True) (fun u : Unit => []) := by
  refine mx_of (by decide) (Nat.le_of_ble_eq_true rfl) ?_
  intro p e s m below meth c A ls H locs hAe F hr hlk hin hsz hP hD hS hl
  rw [hAe]
  have hl : lv_has ls 13 [(0, .long a), (2, .long b), (4, .int d)] := hl
  obtain ⟨hx, hb, hml, hown, hT, hK, hN, hE, hA⟩ := id F
  refine lv_lconst (v := 0) hx hb d_LittleMix_Arithmetic_matrix_0 (by decide) ?_
  refine lv_lstore (lv' := [(5, .long 0), (0, .long a), (2, .long b), (4, .int d)]) hx hb d_LittleMix_Arithmetic_matrix_1 hl (by decide) rfl (fun ls hl => ?_)
  refine lv_iconst (v := 0) hx hb d_LittleMix_Arithmetic_matrix_3 (by decide) ?_
  refine lv_istore (lv' := [(7, .int 0), (5, .long 0), (0, .long a), (2, .long b), (4, .int d)]) hx hb d_LittleMix_Arithmetic_matrix_4 hl (by decide) rfl (fun ls hl => ?_)
  exact s_Ari_matrix_b6 a b d F hr hlk (by decide) (by decide) (64 - 0 + 1) (0 : Int64) 0 _ _ _ (by omega) (by first | assumption | omega | exact mx_ch_0) (lv_sub hl [2, 3, 4, 1, 0] rfl) hP hD hS
set_option maxHeartbeats 4000000 in
set_option maxRecDepth 100000 in
theorem s_Ari_quotient_b76 {p : Program} {l : Launch} {e : Env} {R : Room} {s : State} {m : MethodId} {args : Array Value} {below : List Frame} {meth : Method} {c : Code} {K : mx_K} {A : Nat → Prop} (a : Int64) (b : Int64) (d : Int64) (F : mx_F p s m args c b_LittleMix_Arithmetic_quotient 12 "LittleMix$Arithmetic" K A) (hr : meth.sig.returnType = some .long) (hlk : meth.locks = false) (hRf : 2 ≤ R.frames) (hRl : 43 ≤ R.locals)
    (N10 : Nat)
    (kk10 : ∀ (v6 : Int64) (v8 : Int64) (v10 : Int32) (ls : Array Slot) (H : Heap) (locs : List Loc), (v10.toInt + 1).toNat < N10 → lv_has ls 12 [(0, .long a), (2, .long b), (4, .long d), (6, .long v6), (8, .long v8), (10, .int v10)] → va_P K.1 mx_cl [] H → va_D A [] → va_S A s.heap H locs → W p l e R s m args below meth c H locs 0 0 (MQ below (va_Ql (fun (r : Int64) (u : Unit) => True) (mx_B K A (fun u : Unit => [])) A) args s 0 0 A) (F0 m 10 ls []))
    : ∀ (v6 : Int64) (v8 : Int64) (v10 : Int32) (n11 : Nat) (ls : Array Slot) (H : Heap) (locs : List Loc), (n11 ≤ 1) → ((v10.toInt + 1).toNat < N10 + 1) → (¬ v10 < 0) → lv_has ls 12 [(0, .long a), (2, .long b), (4, .long d), (6, .long v6), (8, .long v8), (10, .int v10), (11, .int (nI n11))] → va_P K.1 mx_cl [] H → va_D A [] → va_S A s.heap H locs → W p l e R s m args below meth c H locs 0 0 (MQ below (va_Ql (fun (r : Int64) (u : Unit) => True) (mx_B K A (fun u : Unit => [])) A) args s 0 0 A) (F0 m 76 ls []) := by
  obtain ⟨hx, hb, hml, hown, hT, hK, hN, hE, hA⟩ := id F
  intro v6 v8 v10 n11 ls H locs hub_n11 hfa0 hfa1 hl hP hD hS
  refine lv_iinc (lv' := [(10, .int (v10 + Int32.ofInt (-1))), (0, .long a), (2, .long b), (4, .long d), (6, .long v6), (8, .long v8), (11, .int (nI n11))]) (v := v10 + Int32.ofInt (-1)) (k := 5) hx hb d_LittleMix_Arithmetic_quotient_76 hl rfl rfl (by decide) rfl (fun ls hl => ?_)
  refine lv_goto (tgt := 10) hx hb d_LittleMix_Arithmetic_quotient_79 (by decide) ?_
  exact kk10 v6 v8 (v10 + Int32.ofInt (-1)) _ _ _ (mx_decmu (by assumption) (by assumption)) (lv_sub hl [1, 2, 3, 4, 5, 0] rfl) hP hD hS
set_option maxHeartbeats 4000000 in
set_option maxRecDepth 100000 in
theorem s_Ari_quotient_b63 {p : Program} {l : Launch} {e : Env} {R : Room} {s : State} {m : MethodId} {args : Array Value} {below : List Frame} {meth : Method} {c : Code} {K : mx_K} {A : Nat → Prop} (a : Int64) (b : Int64) (d : Int64) (F : mx_F p s m args c b_LittleMix_Arithmetic_quotient 12 "LittleMix$Arithmetic" K A) (hr : meth.sig.returnType = some .long) (hlk : meth.locks = false) (hRf : 2 ≤ R.frames) (hRl : 43 ≤ R.locals)
    (N10 : Nat)
    (kk10 : ∀ (v6 : Int64) (v8 : Int64) (v10 : Int32) (ls : Array Slot) (H : Heap) (locs : List Loc), (v10.toInt + 1).toNat < N10 → lv_has ls 12 [(0, .long a), (2, .long b), (4, .long d), (6, .long v6), (8, .long v8), (10, .int v10)] → va_P K.1 mx_cl [] H → va_D A [] → va_S A s.heap H locs → W p l e R s m args below meth c H locs 0 0 (MQ below (va_Ql (fun (r : Int64) (u : Unit) => True) (mx_B K A (fun u : Unit => [])) A) args s 0 0 A) (F0 m 10 ls []))
    : ∀ (v6 : Int64) (v8 : Int64) (v10 : Int32) (n11 : Nat) (ls : Array Slot) (H : Heap) (locs : List Loc), (n11 ≤ 1) → ((v10.toInt + 1).toNat < N10 + 1) → (¬ v10 < 0) → lv_has ls 12 [(0, .long a), (2, .long b), (4, .long d), (6, .long v6), (8, .long v8), (10, .int v10), (11, .int (nI n11))] → va_P K.1 mx_cl [] H → va_D A [] → va_S A s.heap H locs → W p l e R s m args below meth c H locs 0 0 (MQ below (va_Ql (fun (r : Int64) (u : Unit) => True) (mx_B K A (fun u : Unit => [])) A) args s 0 0 A) (F0 m 63 ls []) := by
  obtain ⟨hx, hb, hml, hown, hT, hK, hN, hE, hA⟩ := id F
  intro v6 v8 v10 n11 ls H locs hub_n11 hfa0 hfa1 hl hP hD hS
  refine lv_lload hx hb d_LittleMix_Arithmetic_quotient_63 (lv_at hl 3 rfl) ?_
  refine lv_lload hx hb d_LittleMix_Arithmetic_quotient_65 (lv_at hl 2 rfl) ?_
  refine lv_lsub hx hb d_LittleMix_Arithmetic_quotient_67 ?_
  refine lv_topl (fun z_1 ez_1 => ?_)
  refine lv_lstore (lv' := [(6, .long z_1), (0, .long a), (2, .long b), (4, .long d), (8, .long v8), (10, .int v10), (11, .int (nI n11))]) hx hb d_LittleMix_Arithmetic_quotient_68 hl (by decide) rfl (fun ls hl => ?_)
  refine lv_lload hx hb d_LittleMix_Arithmetic_quotient_70 (lv_at hl 4 rfl) ?_
  refine lv_lconst (v := 1) hx hb d_LittleMix_Arithmetic_quotient_72 (by decide) ?_
  refine lv_lor hx hb d_LittleMix_Arithmetic_quotient_73 ?_
  refine lv_topl (fun z_2 ez_2 => ?_)
  refine lv_lstore (lv' := [(8, .long z_2), (6, .long z_1), (0, .long a), (2, .long b), (4, .long d), (10, .int v10), (11, .int (nI n11))]) hx hb d_LittleMix_Arithmetic_quotient_74 hl (by decide) rfl (fun ls hl => ?_)
  exact s_Ari_quotient_b76 a b d F hr hlk hRf hRl N10 kk10 z_1 z_2 v10 n11 _ _ _ (by first | assumption | omega | exact mx_ch_0) (by first | assumption | omega | exact mx_ch_0) (by first | assumption | omega | exact mx_ch_0) (lv_sub hl [2, 3, 4, 1, 0, 5, 6] rfl) hP hD hS
set_option maxHeartbeats 4000000 in
set_option maxRecDepth 100000 in
theorem s_Ari_quotient_b27 {p : Program} {l : Launch} {e : Env} {R : Room} {s : State} {m : MethodId} {args : Array Value} {below : List Frame} {meth : Method} {c : Code} {K : mx_K} {A : Nat → Prop} (a : Int64) (b : Int64) (d : Int64) (F : mx_F p s m args c b_LittleMix_Arithmetic_quotient 12 "LittleMix$Arithmetic" K A) (hr : meth.sig.returnType = some .long) (hlk : meth.locks = false) (hRf : 2 ≤ R.frames) (hRl : 43 ≤ R.locals)
    (N10 : Nat)
    (kk10 : ∀ (v6 : Int64) (v8 : Int64) (v10 : Int32) (ls : Array Slot) (H : Heap) (locs : List Loc), (v10.toInt + 1).toNat < N10 → lv_has ls 12 [(0, .long a), (2, .long b), (4, .long d), (6, .long v6), (8, .long v8), (10, .int v10)] → va_P K.1 mx_cl [] H → va_D A [] → va_S A s.heap H locs → W p l e R s m args below meth c H locs 0 0 (MQ below (va_Ql (fun (r : Int64) (u : Unit) => True) (mx_B K A (fun u : Unit => [])) A) args s 0 0 A) (F0 m 10 ls []))
    : ∀ (v6 : Int64) (v8 : Int64) (v10 : Int32) (ns0 : Nat) (ls : Array Slot) (H : Heap) (locs : List Loc), (ns0 ≤ 1) → ((v10.toInt + 1).toNat < N10 + 1) → (¬ v10 < 0) → lv_has ls 12 [(0, .long a), (2, .long b), (4, .long d), (6, .long v6), (8, .long v8), (10, .int v10)] → va_P K.1 mx_cl [] H → va_D A [] → va_S A s.heap H locs → W p l e R s m args below meth c H locs 0 0 (MQ below (va_Ql (fun (r : Int64) (u : Unit) => True) (mx_B K A (fun u : Unit => [])) A) args s 0 0 A) (F0 m 27 ls [.int (nI ns0)]) := by
  obtain ⟨hx, hb, hml, hown, hT, hK, hN, hE, hA⟩ := id F
  intro v6 v8 v10 ns0 ls H locs hub_ns0 hfa0 hfa1 hl hP hD hS
  refine lv_istore (lv' := [(11, .int (nI ns0)), (0, .long a), (2, .long b), (4, .long d), (6, .long v6), (8, .long v8), (10, .int v10)]) hx hb d_LittleMix_Arithmetic_quotient_27 hl (by decide) rfl (fun ls hl => ?_)
  refine lv_lload hx hb d_LittleMix_Arithmetic_quotient_29 (lv_at hl 4 rfl) ?_
  refine lv_iconst (v := 1) hx hb d_LittleMix_Arithmetic_quotient_31 (by decide) ?_
  refine lv_lshl (v := v6 <<< ((1 : Int32).toInt64 &&& 63)) hx hb d_LittleMix_Arithmetic_quotient_32 rfl ?_
  refine lv_lload_n hx hb d_LittleMix_Arithmetic_quotient_33 rfl (lv_at hl 2 rfl) ?_
  refine lv_iload hx hb d_LittleMix_Arithmetic_quotient_34 (lv_at hl 6 rfl) ?_
  refine lv_lushr (v := (b.toUInt64 >>> (v10.toInt64.toUInt64 &&& Int64.toUInt64 63)).toInt64) hx hb d_LittleMix_Arithmetic_quotient_36 rfl ?_
  refine lv_lconst (v := 1) hx hb d_LittleMix_Arithmetic_quotient_37 (by decide) ?_
  refine lv_land hx hb d_LittleMix_Arithmetic_quotient_38 ?_
  refine lv_lor hx hb d_LittleMix_Arithmetic_quotient_39 ?_
  refine lv_topl (fun z_1 ez_1 => ?_)
  refine lv_lstore (lv' := [(6, .long z_1), (11, .int (nI ns0)), (0, .long a), (2, .long b), (4, .long d), (8, .long v8), (10, .int v10)]) hx hb d_LittleMix_Arithmetic_quotient_40 hl (by decide) rfl (fun ls hl => ?_)
  refine lv_lload hx hb d_LittleMix_Arithmetic_quotient_42 (lv_at hl 5 rfl) ?_
  refine lv_iconst (v := 1) hx hb d_LittleMix_Arithmetic_quotient_44 (by decide) ?_
  refine lv_lshl (v := v8 <<< ((1 : Int32).toInt64 &&& 63)) hx hb d_LittleMix_Arithmetic_quotient_45 rfl ?_
  refine lv_topl (fun z_2 ez_2 => ?_)
  refine lv_lstore (lv' := [(8, .long z_2), (6, .long z_1), (11, .int (nI ns0)), (0, .long a), (2, .long b), (4, .long d), (10, .int v10)]) hx hb d_LittleMix_Arithmetic_quotient_46 hl (by decide) rfl (fun ls hl => ?_)
  refine lv_iload hx hb d_LittleMix_Arithmetic_quotient_48 (lv_at hl 2 rfl) ?_
  refine lv_if_ne (tgt := 63) hx hb d_LittleMix_Arithmetic_quotient_50 (by decide) (fun h_3 => ?_) (fun h_3 => ?_)
  · have h_3n := mx_fNe (a := ns0) (b := 0) (by omega) (by omega) h_3
    exact s_Ari_quotient_b63 a b d F hr hlk hRf hRl N10 kk10 z_1 z_2 v10 ns0 _ _ _ (by first | assumption | omega | exact mx_ch_0) (by first | assumption | omega | exact mx_ch_0) (by first | assumption | omega | exact mx_ch_0) (lv_sub hl [3, 4, 5, 1, 0, 6, 2] rfl) hP hD hS
  · have h_3n := mx_fEq (a := ns0) (b := 0) (by omega) (by omega) h_3
    refine lv_lload hx hb d_LittleMix_Arithmetic_quotient_53 (lv_at hl 1 rfl) ?_
    refine lv_lload hx hb d_LittleMix_Arithmetic_quotient_55 (lv_at hl 5 rfl) ?_
    refine mx_ci (wr := []) F (mx_runS (As := [.long z_1, .long d]) (rest := []) (n := 2) F (s_Ari_below l K z_1 d H.size) k_881 (Or.inl k_886) k_880 k_20 p_LittleMix_Arithmetic_below rfl rfl hP hD hS [] rfl (by decide)  rfl hl.1 rfl (Nat.le_of_ble_eq_true rfl) ⟨Nat.le_trans (m := 2) (by decide) hRf, Nat.le_trans (m := 43) (by decide) hRl⟩ ⟨Nat.zero_le _, Nat.zero_le _⟩ d_LittleMix_Arithmetic_quotient_57) hP hD hS [] [] rfl rfl (by decide) (by decide) (fun r_5 _ H locs hq_4 hP hD hS => ?_)
    obtain ⟨rb_6, hrb_6, rfl⟩ := mx_bool hq_4
    have hP : va_P K.1 mx_cl [] H := hP
    have hD : va_D A [] := hD
    refine W.cs (cells' := 0) (slots' := 0) rfl rfl ?_
    refine lv_if_ne (tgt := 76) hx hb d_LittleMix_Arithmetic_quotient_60 (by decide) (fun h_7 => ?_) (fun h_7 => ?_)
    · have h_7n := mx_fNe (a := rb_6) (b := 0) (by omega) (by omega) h_7
      exact s_Ari_quotient_b76 a b d F hr hlk hRf hRl N10 kk10 z_1 z_2 v10 ns0 _ _ _ (by first | assumption | omega | exact mx_ch_0) (by first | assumption | omega | exact mx_ch_0) (by first | assumption | omega | exact mx_ch_0) (lv_sub hl [3, 4, 5, 1, 0, 6, 2] rfl) hP hD hS
    · have h_7n := mx_fEq (a := rb_6) (b := 0) (by omega) (by omega) h_7
      exact s_Ari_quotient_b63 a b d F hr hlk hRf hRl N10 kk10 z_1 z_2 v10 ns0 _ _ _ (by first | assumption | omega | exact mx_ch_0) (by first | assumption | omega | exact mx_ch_0) (by first | assumption | omega | exact mx_ch_0) (lv_sub hl [3, 4, 5, 1, 0, 6, 2] rfl) hP hD hS
set_option maxHeartbeats 4000000 in
set_option maxRecDepth 100000 in
theorem s_Ari_quotient_b10 {p : Program} {l : Launch} {e : Env} {R : Room} {s : State} {m : MethodId} {args : Array Value} {below : List Frame} {meth : Method} {c : Code} {K : mx_K} {A : Nat → Prop} (a : Int64) (b : Int64) (d : Int64) (F : mx_F p s m args c b_LittleMix_Arithmetic_quotient 12 "LittleMix$Arithmetic" K A) (hr : meth.sig.returnType = some .long) (hlk : meth.locks = false) (hRf : 2 ≤ R.frames) (hRl : 43 ≤ R.locals)
    : ∀ n : Nat, ∀ (v6 : Int64) (v8 : Int64) (v10 : Int32) (ls : Array Slot) (H : Heap) (locs : List Loc), (v10.toInt + 1).toNat < n → lv_has ls 12 [(0, .long a), (2, .long b), (4, .long d), (6, .long v6), (8, .long v8), (10, .int v10)] → va_P K.1 mx_cl [] H → va_D A [] → va_S A s.heap H locs → W p l e R s m args below meth c H locs 0 0 (MQ below (va_Ql (fun (r : Int64) (u : Unit) => True) (mx_B K A (fun u : Unit => [])) A) args s 0 0 A) (F0 m 10 ls []) := by
  obtain ⟨hx, hb, hml, hown, hT, hK, hN, hE, hA⟩ := id F
  intro n
  induction n with
  | zero =>
    intro v6 v8 v10 ls H locs hmu hl hP hD hS
    exact absurd hmu (Nat.not_lt_zero _)
  | succ n ih =>
    intro v6 v8 v10 ls H locs hmu hl hP hD hS
    refine lv_iload hx hb d_LittleMix_Arithmetic_quotient_10 (lv_at hl 5 rfl) ?_
    refine lv_if_lt (tgt := 82) hx hb d_LittleMix_Arithmetic_quotient_12 (by decide) (fun h12 => ?_) (fun h12 => ?_)
    · refine lv_lload hx hb d_LittleMix_Arithmetic_quotient_82 (lv_at hl 4 rfl) ?_
      exact mx_rl F hr hlk hP hD hS () [] rfl (by decide) trivial (by decide) (by decide) d_LittleMix_Arithmetic_quotient_84
    · refine lv_lload hx hb d_LittleMix_Arithmetic_quotient_15 (lv_at hl 3 rfl) ?_
      refine lv_lconst (v := 0) hx hb d_LittleMix_Arithmetic_quotient_17 (by decide) ?_
      refine W.lcmp hx hb d_LittleMix_Arithmetic_quotient_18 ?_
      refine lv_if_ge (tgt := 26) hx hb d_LittleMix_Arithmetic_quotient_19 (by decide) (fun h_1 => ?_) (fun h_1 => ?_)
      · refine lv_iconst (v := 0) hx hb d_LittleMix_Arithmetic_quotient_26 (by decide) ?_
        exact s_Ari_quotient_b27 a b d F hr hlk hRf hRl n ih v6 v8 v10 0 _ _ _ (by first | assumption | omega | exact mx_ch_0) (by first | assumption | omega | exact mx_ch_0) (by first | assumption | omega | exact mx_ch_0) (lv_sub hl [0, 1, 2, 3, 4, 5] rfl) hP hD hS
      · refine lv_iconst (v := 1) hx hb d_LittleMix_Arithmetic_quotient_22 (by decide) ?_
        refine lv_goto (tgt := 27) hx hb d_LittleMix_Arithmetic_quotient_23 (by decide) ?_
        exact s_Ari_quotient_b27 a b d F hr hlk hRf hRl n ih v6 v8 v10 1 _ _ _ (by first | assumption | omega | exact mx_ch_0) (by first | assumption | omega | exact mx_ch_0) (by first | assumption | omega | exact mx_ch_0) (lv_sub hl [0, 1, 2, 3, 4, 5] rfl) hP hD hS
set_option maxHeartbeats 4000000 in
set_option maxRecDepth 100000 in
theorem s_Ari_quotient (l : Launch) (K : mx_K) (a : Int64) (b : Int64) (d : Int64) (sz : Nat) : mx_L l y_LittleMix_Arithmetic_quotient b_LittleMix_Arithmetic_quotient 12 { frames := 2, cells := 0, slots := 0, locals := 43 } K [.long a, .long b, .long d] [] sz (fun (r : Int64) (u : Unit) => True) (fun u : Unit => []) := by
  refine mx_of (by decide) (Nat.le_of_ble_eq_true rfl) ?_
  intro p e s m below meth c A ls H locs hAe F hr hlk hin hsz hP hD hS hl
  rw [hAe]
  have hl : lv_has ls 12 [(0, .long a), (2, .long b), (4, .long d)] := hl
  obtain ⟨hx, hb, hml, hown, hT, hK, hN, hE, hA⟩ := id F
  refine lv_lload_n hx hb d_LittleMix_Arithmetic_quotient_0 rfl (lv_at hl 0 rfl) ?_
  refine lv_lstore (lv' := [(6, .long a), (0, .long a), (2, .long b), (4, .long d)]) hx hb d_LittleMix_Arithmetic_quotient_1 hl (by decide) rfl (fun ls hl => ?_)
  refine lv_lconst (v := 0) hx hb d_LittleMix_Arithmetic_quotient_3 (by decide) ?_
  refine lv_lstore (lv' := [(8, .long 0), (6, .long a), (0, .long a), (2, .long b), (4, .long d)]) hx hb d_LittleMix_Arithmetic_quotient_4 hl (by decide) rfl (fun ls hl => ?_)
  refine lv_bipush (v := 63) hx hb d_LittleMix_Arithmetic_quotient_6 (by decide) ?_
  refine lv_istore (lv' := [(10, .int 63), (8, .long 0), (6, .long a), (0, .long a), (2, .long b), (4, .long d)]) hx hb d_LittleMix_Arithmetic_quotient_8 hl (by decide) rfl (fun ls hl => ?_)
  exact s_Ari_quotient_b10 a b d F hr hlk (by decide) (by decide) (((63 : Int32).toInt + 1).toNat + 1) a (0 : Int64) (63 : Int32) _ _ _ (by omega) (lv_sub hl [3, 4, 5, 2, 1, 0] rfl) hP hD hS
