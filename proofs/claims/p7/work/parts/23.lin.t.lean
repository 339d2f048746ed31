set_option maxHeartbeats 4000000 in
set_option maxRecDepth 100000 in
theorem s_Opn_isData (l : Launch) (K : mx_K) (a : Int32) (sz : Nat) : mx_I l y_Opn_isData b_Opn_isData 1 .boolean { frames := 1, cells := 0, slots := 0, locals := 20 } K [.int a] [] sz (fun (r : Int32) (u : Unit) => r = 0 ∨ r = 1) (fun u : Unit => []) := by
  refine mx_of (by decide) (Nat.le_of_ble_eq_true rfl) ?_
  intro p e s m below meth c A ls H locs hAe F hr hlk hin hsz hP hD hS hl
  rw [hAe]
  have hl : lv_has ls 1 [(0, .int a)] := hl
  obtain ⟨hx, hb, hml, hown, hT, hK, hN, hE, hA⟩ := id F
  refine lv_iload_n hx hb d_Opn_isData_0 rfl (lv_at hl 0 rfl) ?_
  refine lv_sipush (v := 258) hx hb d_Opn_isData_1 (by decide) ?_
  refine lv_icmp_lt (tgt := 11) hx hb d_Opn_isData_4 (by decide) (fun h_1 => ?_) (fun h_1 => ?_)
  · refine lv_iconst (v := 0) hx hb d_Opn_isData_11 (by decide) ?_
    exact mx_ri F hr hlk (by decide) hP hD hS () [] rfl (by decide) (Or.inl rfl) (by decide) (by decide) d_Opn_isData_12
  · refine lv_iconst (v := 1) hx hb d_Opn_isData_7 (by decide) ?_
    refine lv_goto (tgt := 12) hx hb d_Opn_isData_8 (by decide) ?_
    exact mx_ri F hr hlk (by decide) hP hD hS () [] rfl (by decide) (Or.inr rfl) (by decide) (by decide) d_Opn_isData_12
set_option maxHeartbeats 4000000 in
set_option maxRecDepth 100000 in
theorem s_Opn_kindOf_b150 {p : Program} {l : Launch} {e : Env} {R : Room} {s : State} {m : MethodId} {args : Array Value} {below : List Frame} {meth : Method} {c : Code} {K : mx_K} {A : Nat → Prop} (a : Int32) (F : mx_F p s m args c b_Opn_kindOf 1 "LittleMix$Operations" K A) (hr : meth.sig.returnType = some .int) (hlk : meth.locks = false) (hRf : 1 ≤ R.frames) (hRl : 20 ≤ R.locals)
    : ∀ (ls : Array Slot) (H : Heap) (locs : List Loc), lv_has ls 1 [(0, .int a)] → va_P K.1 mx_cl [] H → va_D A [] → va_S A s.heap H locs → W p l e R s m args below meth c H locs 0 0 (MQ below (va_Qi (fun (r : Int32) (u : Unit) => True) (mx_B K A (fun u : Unit => [])) A) args s 0 0 A) (F0 m 150 ls []) := by
  obtain ⟨hx, hb, hml, hown, hT, hK, hN, hE, hA⟩ := id F
  intro ls H locs hl hP hD hS
  refine lv_iload_n hx hb d_Opn_kindOf_150 rfl (lv_at hl 0 rfl) ?_
  refine lv_sipush (v := 224) hx hb d_Opn_kindOf_151 (by decide) ?_
  refine lv_icmp_lt (tgt := 161) hx hb d_Opn_kindOf_154 (by decide) (fun h_1 => ?_) (fun h_1 => ?_)
  · refine lv_iconst (v := 0) hx hb d_Opn_kindOf_161 (by decide) ?_
    exact mx_ri F hr hlk rfl hP hD hS () [] rfl (by decide) trivial (by decide) (by decide) d_Opn_kindOf_162
  · refine lv_iconst (v := 5) hx hb d_Opn_kindOf_157 (by decide) ?_
    refine lv_goto (tgt := 162) hx hb d_Opn_kindOf_158 (by decide) ?_
    exact mx_ri F hr hlk rfl hP hD hS () [] rfl (by decide) trivial (by decide) (by decide) d_Opn_kindOf_162
set_option maxHeartbeats 4000000 in
set_option maxRecDepth 100000 in
theorem s_Opn_kindOf (l : Launch) (K : mx_K) (a : Int32) (sz : Nat) : mx_I l y_Opn_kindOf b_Opn_kindOf 1 .int { frames := 1, cells := 0, slots := 0, locals := 20 } K [.int a] [] sz (fun (r : Int32) (u : Unit) => True) (fun u : Unit => []) := by
  refine mx_of (by decide) (Nat.le_of_ble_eq_true rfl) ?_
  intro p e s m below meth c A ls H locs hAe F hr hlk hin hsz hP hD hS hl
  rw [hAe]
  have hl : lv_has ls 1 [(0, .int a)] := hl
  obtain ⟨hx, hb, hml, hown, hT, hK, hN, hE, hA⟩ := id F
  refine lv_iload_n hx hb d_Opn_kindOf_0 rfl (lv_at hl 0 rfl) ?_
  refine lv_topi (fun z_1 ez_1 => ?_)
  by_cases h_2 : z_1 = 0
  · rw [h_2]
    refine lv_lookup (off := 132) (tgt := 133) hx hb d_Opn_kindOf_1 (by decide) (by decide) (by decide) ?_
    refine lv_bipush (v := 9) hx hb d_Opn_kindOf_133 (by decide) ?_
    exact mx_ri F hr hlk rfl hP hD hS () [] rfl (by decide) trivial (by decide) (by decide) d_Opn_kindOf_135
  by_cases h_3 : z_1 = 52
  · rw [h_3]
    refine lv_lookup (off := 115) (tgt := 116) hx hb d_Opn_kindOf_1 (by decide) (by decide) (by decide) ?_
    refine lv_iconst (v := 1) hx hb d_Opn_kindOf_116 (by decide) ?_
    exact mx_ri F hr hlk rfl hP hD hS () [] rfl (by decide) trivial (by decide) (by decide) d_Opn_kindOf_117
  by_cases h_4 : z_1 = 54
  · rw [h_4]
    refine lv_lookup (off := 115) (tgt := 116) hx hb d_Opn_kindOf_1 (by decide) (by decide) (by decide) ?_
    refine lv_iconst (v := 1) hx hb d_Opn_kindOf_116 (by decide) ?_
    exact mx_ri F hr hlk rfl hP hD hS () [] rfl (by decide) trivial (by decide) (by decide) d_Opn_kindOf_117
  by_cases h_5 : z_1 = 180
  · rw [h_5]
    refine lv_lookup (off := 117) (tgt := 118) hx hb d_Opn_kindOf_1 (by decide) (by decide) (by decide) ?_
    refine lv_iconst (v := 2) hx hb d_Opn_kindOf_118 (by decide) ?_
    exact mx_ri F hr hlk rfl hP hD hS () [] rfl (by decide) trivial (by decide) (by decide) d_Opn_kindOf_119
  by_cases h_6 : z_1 = 240
  · rw [h_6]
    refine lv_lookup (off := 119) (tgt := 120) hx hb d_Opn_kindOf_1 (by decide) (by decide) (by decide) ?_
    refine lv_iconst (v := 4) hx hb d_Opn_kindOf_120 (by decide) ?_
    exact mx_ri F hr hlk rfl hP hD hS () [] rfl (by decide) trivial (by decide) (by decide) d_Opn_kindOf_121
  by_cases h_7 : z_1 = 242
  · rw [h_7]
    refine lv_lookup (off := 121) (tgt := 122) hx hb d_Opn_kindOf_1 (by decide) (by decide) (by decide) ?_
    refine lv_iconst (v := 3) hx hb d_Opn_kindOf_122 (by decide) ?_
    exact mx_ri F hr hlk rfl hP hD hS () [] rfl (by decide) trivial (by decide) (by decide) d_Opn_kindOf_123
  by_cases h_8 : z_1 = 244
  · rw [h_8]
    refine lv_lookup (off := 121) (tgt := 122) hx hb d_Opn_kindOf_1 (by decide) (by decide) (by decide) ?_
    refine lv_iconst (v := 3) hx hb d_Opn_kindOf_122 (by decide) ?_
    exact mx_ri F hr hlk rfl hP hD hS () [] rfl (by decide) trivial (by decide) (by decide) d_Opn_kindOf_123
  by_cases h_9 : z_1 = 246
  · rw [h_9]
    refine lv_lookup (off := 123) (tgt := 124) hx hb d_Opn_kindOf_1 (by decide) (by decide) (by decide) ?_
    refine lv_bipush (v := 6) hx hb d_Opn_kindOf_124 (by decide) ?_
    exact mx_ri F hr hlk rfl hP hD hS () [] rfl (by decide) trivial (by decide) (by decide) d_Opn_kindOf_126
  by_cases h_10 : z_1 = 248
  · rw [h_10]
    refine lv_lookup (off := 126) (tgt := 127) hx hb d_Opn_kindOf_1 (by decide) (by decide) (by decide) ?_
    refine lv_bipush (v := 8) hx hb d_Opn_kindOf_127 (by decide) ?_
    exact mx_ri F hr hlk rfl hP hD hS () [] rfl (by decide) trivial (by decide) (by decide) d_Opn_kindOf_129
  by_cases h_11 : z_1 = 249
  · rw [h_11]
    refine lv_lookup (off := 132) (tgt := 133) hx hb d_Opn_kindOf_1 (by decide) (by decide) (by decide) ?_
    refine lv_bipush (v := 9) hx hb d_Opn_kindOf_133 (by decide) ?_
    exact mx_ri F hr hlk rfl hP hD hS () [] rfl (by decide) trivial (by decide) (by decide) d_Opn_kindOf_135
  by_cases h_12 : z_1 = 253
  · rw [h_12]
    refine lv_lookup (off := 132) (tgt := 133) hx hb d_Opn_kindOf_1 (by decide) (by decide) (by decide) ?_
    refine lv_bipush (v := 9) hx hb d_Opn_kindOf_133 (by decide) ?_
    exact mx_ri F hr hlk rfl hP hD hS () [] rfl (by decide) trivial (by decide) (by decide) d_Opn_kindOf_135
  by_cases h_13 : z_1 = 254
  · rw [h_13]
    refine lv_lookup (off := 129) (tgt := 130) hx hb d_Opn_kindOf_1 (by decide) (by decide) (by decide) ?_
    refine lv_bipush (v := 7) hx hb d_Opn_kindOf_130 (by decide) ?_
    exact mx_ri F hr hlk rfl hP hD hS () [] rfl (by decide) trivial (by decide) (by decide) d_Opn_kindOf_132
  by_cases h_14 : z_1 = 255
  · rw [h_14]
    refine lv_lookup (off := 132) (tgt := 133) hx hb d_Opn_kindOf_1 (by decide) (by decide) (by decide) ?_
    refine lv_bipush (v := 9) hx hb d_Opn_kindOf_133 (by decide) ?_
    exact mx_ri F hr hlk rfl hP hD hS () [] rfl (by decide) trivial (by decide) (by decide) d_Opn_kindOf_135
  refine lv_lookup (off := 135) (tgt := 136) hx hb d_Opn_kindOf_1 (by decide) (by
    show Op.lookupswitch.offset [(0, 132), (52, 115), (54, 115), (180, 117), (240, 119), (242, 121), (244, 121), (246, 123), (248, 126), (249, 132), (253, 132), (254, 129), (255, 132)] 135 z_1.toInt = 135
    rw [lv_osw h_2 (by decide), lv_osw h_3 (by decide), lv_osw h_4 (by decide), lv_osw h_5 (by decide), lv_osw h_6 (by decide), lv_osw h_7 (by decide), lv_osw h_8 (by decide), lv_osw h_9 (by decide), lv_osw h_10 (by decide), lv_osw h_11 (by decide), lv_osw h_12 (by decide), lv_osw h_13 (by decide), lv_osw h_14 (by decide)]
    rfl) (by decide) ?_
  refine lv_iload_n hx hb d_Opn_kindOf_136 rfl (lv_at hl 0 rfl) ?_
  refine lv_bipush (v := 64) hx hb d_Opn_kindOf_137 (by decide) ?_
  refine lv_icmp_lt (tgt := 150) hx hb d_Opn_kindOf_139 (by decide) (fun h_15 => ?_) (fun h_15 => ?_)
  · exact s_Opn_kindOf_b150 a F hr hlk (by decide) (by decide) _ _ _ (lv_sub hl [0] rfl) hP hD hS
  · refine lv_iload_n hx hb d_Opn_kindOf_142 rfl (lv_at hl 0 rfl) ?_
    refine lv_bipush (v := 96) hx hb d_Opn_kindOf_143 (by decide) ?_
    refine lv_icmp_ge (tgt := 150) hx hb d_Opn_kindOf_145 (by decide) (fun h_16 => ?_) (fun h_16 => ?_)
    · exact s_Opn_kindOf_b150 a F hr hlk (by decide) (by decide) _ _ _ (lv_sub hl [0] rfl) hP hD hS
    · refine lv_iconst (v := 3) hx hb d_Opn_kindOf_148 (by decide) ?_
      exact mx_ri F hr hlk rfl hP hD hS () [] rfl (by decide) trivial (by decide) (by decide) d_Opn_kindOf_149
set_option maxHeartbeats 4000000 in
set_option maxRecDepth 100000 in
theorem s_Opn_sizeOf (l : Launch) (K : mx_K) (a : Int32) (sz : Nat) (hop : mx_op a) : mx_I l y_Opn_sizeOf b_Opn_sizeOf 1 .int { frames := 1, cells := 0, slots := 0, locals := 20 } K [.int a] [] sz (fun (r : Int32) (u : Unit) => ∃ z : Nat, 1 ≤ z ∧ z ≤ 8 ∧ r = nI z) (fun u : Unit => []) := by
  refine mx_of (by decide) (Nat.le_of_ble_eq_true rfl) ?_
  intro p e s m below meth c A ls H locs hAe F hr hlk hin hsz hP hD hS hl
  rw [hAe]
  have hl : lv_has ls 1 [(0, .int a)] := hl
  obtain ⟨hx, hb, hml, hown, hT, hK, hN, hE, hA⟩ := id F
  rcases hop with rfl | ⟨ko, hko, rfl⟩
  · refine lv_iload_n hx hb d_Opn_sizeOf_0 rfl (lv_at hl 0 rfl) ?_
    refine lv_sipush (v := 258) hx hb d_Opn_sizeOf_1 (by decide) ?_
    refine lv_icmp_lt (tgt := 15) hx hb d_Opn_sizeOf_4 (by decide) (fun _ => ?_) (fun h => absurd h (by decide))
    refine lv_iload_n hx hb d_Opn_sizeOf_15 rfl (lv_at hl 0 rfl) ?_
    refine lv_sipush (v := 256) hx hb d_Opn_sizeOf_16 (by decide) ?_
    refine lv_icmp_lt (tgt := 26) hx hb d_Opn_sizeOf_19 (by decide) (fun _ => ?_) (fun h => absurd h (by decide))
    refine lv_iconst (v := 4) hx hb d_Opn_sizeOf_26 (by decide) ?_
    exact mx_ri F hr hlk rfl hP hD hS () [] rfl (by decide) ⟨4, by omega, by omega, rfl⟩ (by decide) (by decide) d_Opn_sizeOf_27
  · refine lv_iload_n hx hb d_Opn_sizeOf_0 rfl (lv_at hl 0 rfl) ?_
    refine lv_sipush (v := 258) hx hb d_Opn_sizeOf_1 (by decide) ?_
    refine lv_icmp_lt (tgt := 15) hx hb d_Opn_sizeOf_4 (by decide) (fun h_3 => ?_) (fun h_3 => ?_)
    · have h_3n := mx_fLt (a := ko) (b := 258) (by omega) (by omega) h_3
      refine lv_iload_n hx hb d_Opn_sizeOf_15 rfl (lv_at hl 0 rfl) ?_
      refine lv_sipush (v := 256) hx hb d_Opn_sizeOf_16 (by decide) ?_
      refine lv_icmp_lt (tgt := 26) hx hb d_Opn_sizeOf_19 (by decide) (fun h_4 => ?_) (fun h_4 => ?_)
      · have h_4n := mx_fLt (a := ko) (b := 256) (by omega) (by omega) h_4
        refine lv_iconst (v := 4) hx hb d_Opn_sizeOf_26 (by decide) ?_
        exact mx_ri F hr hlk rfl hP hD hS () [] rfl (by decide) ⟨4, by omega, by omega, rfl⟩ (by decide) (by decide) d_Opn_sizeOf_27
      · have h_4n := mx_fNlt (a := ko) (b := 256) (by omega) (by omega) h_4
        refine lv_iconst (v := 1) hx hb d_Opn_sizeOf_22 (by decide) ?_
        refine lv_goto (tgt := 27) hx hb d_Opn_sizeOf_23 (by decide) ?_
        exact mx_ri F hr hlk rfl hP hD hS () [] rfl (by decide) ⟨1, by omega, by omega, rfl⟩ (by decide) (by decide) d_Opn_sizeOf_27
    · have h_3n := mx_fNlt (a := ko) (b := 258) (by omega) (by omega) h_3
      refine lv_iconst (v := 1) hx hb d_Opn_sizeOf_7 (by decide) ?_
      refine lv_iload_n hx hb d_Opn_sizeOf_8 rfl (lv_at hl 0 rfl) ?_
      refine lv_sipush (v := 258) hx hb d_Opn_sizeOf_9 (by decide) ?_
      refine lv_isub hx hb d_Opn_sizeOf_12 ?_
      refine lv_topi (fun z_5 ez_5 => ?_)
      obtain rfl : z_5 = nI (ko - 258) := ez_5.trans (pk_sub (a := ko) (b := 258) (by omega))
      refine lv_ishl hx hb d_Opn_sizeOf_13 ?_
      obtain ⟨nz, hnz1, hnz2, hnz3⟩ := mx_shl2 (k := ko) (by omega) (by omega)
      refine lv_topi (fun z_6 ez_6 => ?_)
      obtain rfl : z_6 = nI nz := ez_6.trans hnz3
      exact mx_ri F hr hlk rfl hP hD hS () [] rfl (by decide) ⟨nz, hnz1, hnz2, rfl⟩ (by decide) (by decide) d_Opn_sizeOf_14
set_option maxHeartbeats 4000000 in
set_option maxRecDepth 100000 in
theorem s_Opn_find_b58 {p : Program} {l : Launch} {e : Env} {R : Room} {s : State} {m : MethodId} {args : Array Value} {below : List Frame} {meth : Method} {c : Code} {K : mx_K} {A : Nat → Prop} (op : Nat) (t : Nat) (a : Nat) (b : Nat) (nm : Nat) (fn : Nat → Int64) (f : Nat → Int32) (ha6 : a ≤ 1600) (hb6 : b ≤ 1600) (F : mx_F p s m args c b_Opn_find 7 "LittleMix$Operations" K A) (hr : meth.sig.returnType = some .int) (hlk : meth.locks = false) (hRf : 1 ≤ R.frames) (hRl : 20 ≤ R.locals)
    : ∀ n : Nat, ∀ (v4 : Int64) (n6 : Nat) (ls : Array Slot) (H : Heap) (locs : List Loc), 262 - n6 < n → (a < b) → ((b - a) ≤ 6) → (n6 ≤ 262) → lv_has ls 7 [(0, .ref op), (1, .ref t), (2, .int (nI a)), (3, .int (nI b)), (4, .long v4), (6, .int (nI n6))] → va_P K.1 mx_cl [(op, .inr (3, [.ref nm])), (nm, .inl (K.2.1.1, 262, .inr (.inl fn))), (t, .inl (K.2.1.2.2.1, 1600, .inl f))] H → va_D A [(op, .inr (3, [.ref nm])), (nm, .inl (K.2.1.1, 262, .inr (.inl fn))), (t, .inl (K.2.1.2.2.1, 1600, .inl f))] → va_S A s.heap H locs → W p l e R s m args below meth c H locs 0 0 (MQ below (va_Qi (fun (r : Int32) (u : Unit) => mx_op r) (mx_B K A (fun u : Unit => [(op, .inr (3, [.ref nm])), (nm, .inl (K.2.1.1, 262, .inr (.inl fn))), (t, .inl (K.2.1.2.2.1, 1600, .inl f))])) A) args s 0 0 A) (F0 m 58 ls []) := by
  obtain ⟨hx, hb, hml, hown, hT, hK, hN, hE, hA⟩ := id F
  intro n
  induction n with
  | zero =>
    intro v4 n6 ls H locs hmu hfa0 hfa1 h6 hl hP hD hS
    exact absurd hmu (Nat.not_lt_zero _)
  | succ n ih =>
    intro v4 n6 ls H locs hmu hfa0 hfa1 h6 hl hP hD hS
    refine lv_iload hx hb d_Opn_find_58 (lv_at hl 5 rfl) ?_
    refine lv_aload_n hx hb d_Opn_find_60 rfl (lv_at hl 0 rfl) ?_
    refine va_get (D := K.1) (ci := 3) (v := .ref nm) (C := R_Opn) (T := T_Opn) (N := 1) hx hb hT in_Opn hown hK hP 0 rfl rfl 0 (by decide) (hT _ k_212) (fun _ h9 => h9) rfl d_Opn_find_61 ?_
    refine va_alen (v := 262) hx hb hK hP 1 0 rfl rfl rfl d_Opn_find_64 ?_
    refine lv_icmp_ge (tgt := 90) hx hb d_Opn_find_65 (by decide) (fun h_1 => ?_) (fun h_1 => ?_)
    · have h_1n := mx_fLe (a := 262) (b := n6) (by omega) (by omega) h_1
      refine lv_iconst (v := (-1)) hx hb d_Opn_find_90 (by decide) ?_
      exact mx_ri F hr hlk rfl hP hD hS () [0, 1, 2] rfl (by decide) (Or.inl rfl) (by decide) (by decide) d_Opn_find_91
    · have h_1n := mx_fNle (a := 262) (b := n6) (by omega) (by omega) h_1
      refine lv_aload_n hx hb d_Opn_find_68 rfl (lv_at hl 0 rfl) ?_
      refine va_get (D := K.1) (ci := 3) (v := .ref nm) (C := R_Opn) (T := T_Opn) (N := 1) hx hb hT in_Opn hown hK hP 0 rfl rfl 0 (by decide) (hT _ k_212) (fun _ h9 => h9) rfl d_Opn_find_69 ?_
      refine lv_iload hx hb d_Opn_find_72 (lv_at hl 5 rfl) ?_
      refine va_lald hx hb hK hP 1 0 rfl rfl (i := nI n6) (vp_in_nI (n := n6) (N := 262) (by omega) (by decide)) d_Opn_find_74 ?_
      refine lv_topl (fun z_2 ez_2 => ?_)
      refine lv_lload hx hb d_Opn_find_75 (lv_at hl 4 rfl) ?_
      refine W.lcmp hx hb d_Opn_find_77 ?_
      refine lv_if_ne (tgt := 84) hx hb d_Opn_find_78 (by decide) (fun h_3 => ?_) (fun h_3 => ?_)
      · refine lv_iinc (lv' := [(6, .int (nI (n6 + 1))), (0, .ref op), (1, .ref t), (2, .int (nI a)), (3, .int (nI b)), (4, .long v4)]) (v := nI (n6 + 1)) (k := 5) hx hb d_Opn_find_84 hl rfl (mx_inc n6) (by decide) rfl (fun ls hl => ?_)
        refine lv_goto (tgt := 58) hx hb d_Opn_find_87 (by decide) ?_
        exact ih v4 (n6 + 1) _ _ _ (by omega) (by first | assumption | omega | exact mx_ch_0) (by first | assumption | omega | exact mx_ch_0) (by first | assumption | omega | exact mx_ch_0) (lv_sub hl [1, 2, 3, 4, 5, 0] rfl) hP hD hS
      · refine lv_iload hx hb d_Opn_find_81 (lv_at hl 5 rfl) ?_
        exact mx_ri F hr hlk rfl hP hD hS () [0, 1, 2] rfl (by decide) (Or.inr ⟨_, (by omega), rfl⟩) (by decide) (by decide) d_Opn_find_83
set_option maxHeartbeats 4000000 in
set_option maxRecDepth 100000 in
theorem s_Opn_find_b21 {p : Program} {l : Launch} {e : Env} {R : Room} {s : State} {m : MethodId} {args : Array Value} {below : List Frame} {meth : Method} {c : Code} {K : mx_K} {A : Nat → Prop} (op : Nat) (t : Nat) (a : Nat) (b : Nat) (nm : Nat) (fn : Nat → Int64) (f : Nat → Int32) (ha6 : a ≤ 1600) (hb6 : b ≤ 1600) (F : mx_F p s m args c b_Opn_find 7 "LittleMix$Operations" K A) (hr : meth.sig.returnType = some .int) (hlk : meth.locks = false) (hRf : 1 ≤ R.frames) (hRl : 20 ≤ R.locals)
    : ∀ n : Nat, ∀ (v4 : Int64) (n6 : Nat) (ls : Array Slot) (H : Heap) (locs : List Loc), b - n6 < n → (a < b) → ((b - a) ≤ 6) → (n6 ≤ b) → lv_has ls 7 [(0, .ref op), (1, .ref t), (2, .int (nI a)), (3, .int (nI b)), (4, .long v4), (6, .int (nI n6))] → va_P K.1 mx_cl [(op, .inr (3, [.ref nm])), (nm, .inl (K.2.1.1, 262, .inr (.inl fn))), (t, .inl (K.2.1.2.2.1, 1600, .inl f))] H → va_D A [(op, .inr (3, [.ref nm])), (nm, .inl (K.2.1.1, 262, .inr (.inl fn))), (t, .inl (K.2.1.2.2.1, 1600, .inl f))] → va_S A s.heap H locs → W p l e R s m args below meth c H locs 0 0 (MQ below (va_Qi (fun (r : Int32) (u : Unit) => mx_op r) (mx_B K A (fun u : Unit => [(op, .inr (3, [.ref nm])), (nm, .inl (K.2.1.1, 262, .inr (.inl fn))), (t, .inl (K.2.1.2.2.1, 1600, .inl f))])) A) args s 0 0 A) (F0 m 21 ls []) := by
  obtain ⟨hx, hb, hml, hown, hT, hK, hN, hE, hA⟩ := id F
  intro n
  induction n with
  | zero =>
    intro v4 n6 ls H locs hmu hfa0 hfa1 h6 hl hP hD hS
    exact absurd hmu (Nat.not_lt_zero _)
  | succ n ih =>
    intro v4 n6 ls H locs hmu hfa0 hfa1 h6 hl hP hD hS
    refine lv_iload hx hb d_Opn_find_21 (lv_at hl 5 rfl) ?_
    refine lv_iload_n hx hb d_Opn_find_23 rfl (lv_at hl 3 rfl) ?_
    refine lv_icmp_ge (tgt := 55) hx hb d_Opn_find_24 (by decide) (fun h_1 => ?_) (fun h_1 => ?_)
    · have h_1n := mx_fLe (a := b) (b := n6) (by omega) (by omega) h_1
      refine lv_iconst (v := 0) hx hb d_Opn_find_55 (by decide) ?_
      refine lv_istore (lv' := [(6, .int 0), (0, .ref op), (1, .ref t), (2, .int (nI a)), (3, .int (nI b)), (4, .long v4)]) hx hb d_Opn_find_56 hl (by decide) rfl (fun ls hl => ?_)
      exact s_Opn_find_b58 op t a b nm fn f ha6 hb6 F hr hlk hRf hRl (262 - 0 + 1) v4 0 _ _ _ (by omega) (by first | assumption | omega | exact mx_ch_0) (by first | assumption | omega | exact mx_ch_0) (by first | assumption | omega | exact mx_ch_0) (lv_sub hl [1, 2, 3, 4, 5, 0] rfl) hP hD hS
    · have h_1n := mx_fNle (a := b) (b := n6) (by omega) (by omega) h_1
      refine lv_aload_n hx hb d_Opn_find_27 rfl (lv_at hl 1 rfl) ?_
      refine lv_iload hx hb d_Opn_find_28 (lv_at hl 5 rfl) ?_
      refine va_cald hx hb hK hP 2 2 rfl rfl (i := nI n6) (vp_in_nI (n := n6) (N := 1600) (by omega) (by decide)) d_Opn_find_30 ?_
      refine lv_topi (fun z_2 ez_2 => ?_)
      refine lv_if_ne (tgt := 36) hx hb d_Opn_find_31 (by decide) (fun h_3 => ?_) (fun h_3 => ?_)
      · refine lv_lload hx hb d_Opn_find_36 (lv_at hl 4 rfl) ?_
        refine lv_bipush (v := 8) hx hb d_Opn_find_38 (by decide) ?_
        refine lv_lshl (v := v4 <<< ((8 : Int32).toInt64 &&& 63)) hx hb d_Opn_find_40 rfl ?_
        refine lv_aload_n hx hb d_Opn_find_41 rfl (lv_at hl 1 rfl) ?_
        refine lv_iload hx hb d_Opn_find_42 (lv_at hl 5 rfl) ?_
        refine va_cald hx hb hK hP 2 2 rfl rfl (i := nI n6) (vp_in_nI (n := n6) (N := 1600) (by omega) (by decide)) d_Opn_find_44 ?_
        refine lv_topi (fun z_4 ez_4 => ?_)
        refine lv_i2l (v := z_4.toInt64) hx hb d_Opn_find_45 rfl ?_
        refine lv_lor hx hb d_Opn_find_46 ?_
        refine lv_topl (fun z_5 ez_5 => ?_)
        refine lv_lstore (lv' := [(4, .long z_5), (0, .ref op), (1, .ref t), (2, .int (nI a)), (3, .int (nI b)), (6, .int (nI n6))]) hx hb d_Opn_find_47 hl (by decide) rfl (fun ls hl => ?_)
        refine lv_iinc (lv' := [(6, .int (nI (n6 + 1))), (4, .long z_5), (0, .ref op), (1, .ref t), (2, .int (nI a)), (3, .int (nI b))]) (v := nI (n6 + 1)) (k := 5) hx hb d_Opn_find_49 hl rfl (mx_inc n6) (by decide) rfl (fun ls hl => ?_)
        refine lv_goto (tgt := 21) hx hb d_Opn_find_52 (by decide) ?_
        exact ih z_5 (n6 + 1) _ _ _ (by omega) (by first | assumption | omega | exact mx_ch_0) (by first | assumption | omega | exact mx_ch_0) (by first | assumption | omega | exact mx_ch_0) (lv_sub hl [2, 3, 4, 5, 1, 0] rfl) hP hD hS
      · refine lv_iconst (v := (-1)) hx hb d_Opn_find_34 (by decide) ?_
        exact mx_ri F hr hlk rfl hP hD hS () [0, 1, 2] rfl (by decide) (Or.inl rfl) (by decide) (by decide) d_Opn_find_35
set_option maxHeartbeats 4000000 in
set_option maxRecDepth 100000 in
theorem s_Opn_find (l : Launch) (K : mx_K) (op : Nat) (t : Nat) (a : Nat) (b : Nat) (nm : Nat) (fn : Nat → Int64) (f : Nat → Int32) (sz : Nat) (ha6 : a ≤ 1600) (hb6 : b ≤ 1600) : mx_I l y_Opn_find b_Opn_find 7 .int { frames := 1, cells := 0, slots := 0, locals := 20 } K [.ref op, .ref t, .int (nI a), .int (nI b)] [(op, .inr (3, [.ref nm])), (nm, .inl (K.2.1.1, 262, .inr (.inl fn))), (t, .inl (K.2.1.2.2.1, 1600, .inl f))] sz (fun (r : Int32) (u : Unit) => mx_op r) (fun u : Unit => [(op, .inr (3, [.ref nm])), (nm, .inl (K.2.1.1, 262, .inr (.inl fn))), (t, .inl (K.2.1.2.2.1, 1600, .inl f))]) := by
  refine mx_of (by decide) (Nat.le_of_ble_eq_true rfl) ?_
  intro p e s m below meth c A ls H locs hAe F hr hlk hin hsz hP hD hS hl
  rw [hAe]
  have hl : lv_has ls 7 [(0, .ref op), (1, .ref t), (2, .int (nI a)), (3, .int (nI b))] := hl
  obtain ⟨hx, hb, hml, hown, hT, hK, hN, hE, hA⟩ := id F
  refine lv_iload_n hx hb d_Opn_find_0 rfl (lv_at hl 2 rfl) ?_
  refine lv_iload_n hx hb d_Opn_find_1 rfl (lv_at hl 3 rfl) ?_
  refine lv_icmp_ge (tgt := 13) hx hb d_Opn_find_2 (by decide) (fun h_1 => ?_) (fun h_1 => ?_)
  · have h_1n := mx_fLe (a := b) (b := a) (by omega) (by omega) h_1
    refine lv_iconst (v := (-1)) hx hb d_Opn_find_13 (by decide) ?_
    exact mx_ri F hr hlk rfl hP hD hS () [0, 1, 2] rfl (by decide) (Or.inl rfl) (by decide) (by decide) d_Opn_find_14
  · have h_1n := mx_fNle (a := b) (b := a) (by omega) (by omega) h_1
    refine lv_iload_n hx hb d_Opn_find_5 rfl (lv_at hl 3 rfl) ?_
    refine lv_iload_n hx hb d_Opn_find_6 rfl (lv_at hl 2 rfl) ?_
    refine lv_isub hx hb d_Opn_find_7 ?_
    refine lv_topi (fun z_2 ez_2 => ?_)
    obtain rfl : z_2 = nI (b - a) := ez_2.trans (pk_sub (a := b) (b := a) (by omega))
    refine lv_bipush (v := 6) hx hb d_Opn_find_8 (by decide) ?_
    refine lv_icmp_le (tgt := 15) hx hb d_Opn_find_10 (by decide) (fun h_3 => ?_) (fun h_3 => ?_)
    · have h_3n := mx_fLe (a := (b - a)) (b := 6) (by omega) (by omega) h_3
      refine lv_lconst (v := 0) hx hb d_Opn_find_15 (by decide) ?_
      refine lv_lstore (lv' := [(4, .long 0), (0, .ref op), (1, .ref t), (2, .int (nI a)), (3, .int (nI b))]) hx hb d_Opn_find_16 hl (by decide) rfl (fun ls hl => ?_)
      refine lv_iload_n hx hb d_Opn_find_18 rfl (lv_at hl 3 rfl) ?_
      refine lv_istore (lv' := [(6, .int (nI a)), (4, .long 0), (0, .ref op), (1, .ref t), (2, .int (nI a)), (3, .int (nI b))]) hx hb d_Opn_find_19 hl (by decide) rfl (fun ls hl => ?_)
      exact s_Opn_find_b21 op t a b nm fn f ha6 hb6 F hr hlk (by decide) (by decide) (b - a + 1) (0 : Int64) a _ _ _ (by omega) (by first | assumption | omega | exact mx_ch_0) (by first | assumption | omega | exact mx_ch_0) (by first | assumption | omega | exact mx_ch_0) (lv_sub hl [2, 3, 4, 5, 1, 0] rfl) hP hD hS
    · have h_3n := mx_fNle (a := (b - a)) (b := 6) (by omega) (by omega) h_3
      refine lv_iconst (v := (-1)) hx hb d_Opn_find_13 (by decide) ?_
      exact mx_ri F hr hlk rfl hP hD hS () [0, 1, 2] rfl (by decide) (Or.inl rfl) (by decide) (by decide) d_Opn_find_14
set_option maxHeartbeats 4000000 in
set_option maxRecDepth 100000 in
theorem s_Lin_isLetter_b12 {p : Program} {l : Launch} {e : Env} {R : Room} {s : State} {m : MethodId} {args : Array Value} {below : List Frame} {meth : Method} {c : Code} {K : mx_K} {A : Nat → Prop} (a : Int32) (F : mx_F p s m args c b_Lin_isLetter 1 "LittleMix$Line" K A) (hr : meth.sig.returnType = some .boolean) (hlk : meth.locks = false) (hRf : 1 ≤ R.frames) (hRl : 20 ≤ R.locals)
    : ∀ (ls : Array Slot) (H : Heap) (locs : List Loc), lv_has ls 1 [(0, .int a)] → va_P K.1 mx_cl [] H → va_D A [] → va_S A s.heap H locs → W p l e R s m args below meth c H locs 0 0 (MQ below (va_Qi (fun (r : Int32) (u : Unit) => r = 0 ∨ r = 1) (mx_B K A (fun u : Unit => [])) A) args s 0 0 A) (F0 m 12 ls []) := by
  obtain ⟨hx, hb, hml, hown, hT, hK, hN, hE, hA⟩ := id F
  intro ls H locs hl hP hD hS
  refine lv_iload_n hx hb d_Lin_isLetter_12 rfl (lv_at hl 0 rfl) ?_
  refine lv_bipush (v := 97) hx hb d_Lin_isLetter_13 (by decide) ?_
  refine lv_icmp_lt (tgt := 28) hx hb d_Lin_isLetter_15 (by decide) (fun h_1 => ?_) (fun h_1 => ?_)
  · refine lv_iconst (v := 0) hx hb d_Lin_isLetter_28 (by decide) ?_
    exact mx_ri F hr hlk (by decide) hP hD hS () [] rfl (by decide) (Or.inl rfl) (by decide) (by decide) d_Lin_isLetter_29
  · refine lv_iload_n hx hb d_Lin_isLetter_18 rfl (lv_at hl 0 rfl) ?_
    refine lv_bipush (v := 122) hx hb d_Lin_isLetter_19 (by decide) ?_
    refine lv_icmp_gt (tgt := 28) hx hb d_Lin_isLetter_21 (by decide) (fun h_2 => ?_) (fun h_2 => ?_)
    · refine lv_iconst (v := 0) hx hb d_Lin_isLetter_28 (by decide) ?_
      exact mx_ri F hr hlk (by decide) hP hD hS () [] rfl (by decide) (Or.inl rfl) (by decide) (by decide) d_Lin_isLetter_29
    · refine lv_iconst (v := 1) hx hb d_Lin_isLetter_24 (by decide) ?_
      refine lv_goto (tgt := 29) hx hb d_Lin_isLetter_25 (by decide) ?_
      exact mx_ri F hr hlk (by decide) hP hD hS () [] rfl (by decide) (Or.inr rfl) (by decide) (by decide) d_Lin_isLetter_29
set_option maxHeartbeats 4000000 in
set_option maxRecDepth 100000 in
theorem s_Lin_isLetter (l : Launch) (K : mx_K) (a : Int32) (sz : Nat) : mx_I l y_Lin_isLetter b_Lin_isLetter 1 .boolean { frames := 1, cells := 0, slots := 0, locals := 20 } K [.int a] [] sz (fun (r : Int32) (u : Unit) => r = 0 ∨ r = 1) (fun u : Unit => []) := by
  refine mx_of (by decide) (Nat.le_of_ble_eq_true rfl) ?_
  intro p e s m below meth c A ls H locs hAe F hr hlk hin hsz hP hD hS hl
  rw [hAe]
  have hl : lv_has ls 1 [(0, .int a)] := hl
  obtain ⟨hx, hb, hml, hown, hT, hK, hN, hE, hA⟩ := id F
  refine lv_iload_n hx hb d_Lin_isLetter_0 rfl (lv_at hl 0 rfl) ?_
  refine lv_bipush (v := 65) hx hb d_Lin_isLetter_1 (by decide) ?_
  refine lv_icmp_lt (tgt := 12) hx hb d_Lin_isLetter_3 (by decide) (fun h_1 => ?_) (fun h_1 => ?_)
  · exact s_Lin_isLetter_b12 a F hr hlk (by decide) (by decide) _ _ _ (lv_sub hl [0] rfl) hP hD hS
  · refine lv_iload_n hx hb d_Lin_isLetter_6 rfl (lv_at hl 0 rfl) ?_
    refine lv_bipush (v := 90) hx hb d_Lin_isLetter_7 (by decide) ?_
    refine lv_icmp_le (tgt := 24) hx hb d_Lin_isLetter_9 (by decide) (fun h_2 => ?_) (fun h_2 => ?_)
    · refine lv_iconst (v := 1) hx hb d_Lin_isLetter_24 (by decide) ?_
      refine lv_goto (tgt := 29) hx hb d_Lin_isLetter_25 (by decide) ?_
      exact mx_ri F hr hlk (by decide) hP hD hS () [] rfl (by decide) (Or.inr rfl) (by decide) (by decide) d_Lin_isLetter_29
    · exact s_Lin_isLetter_b12 a F hr hlk (by decide) (by decide) _ _ _ (lv_sub hl [0] rfl) hP hD hS
set_option maxHeartbeats 4000000 in
set_option maxRecDepth 100000 in
theorem s_Lin_isDigit (l : Launch) (K : mx_K) (a : Int32) (sz : Nat) : mx_I l y_Lin_isDigit b_Lin_isDigit 1 .boolean { frames := 1, cells := 0, slots := 0, locals := 20 } K [.int a] [] sz (fun (r : Int32) (u : Unit) => r = 0 ∨ r = 1) (fun u : Unit => []) := by
  refine mx_of (by decide) (Nat.le_of_ble_eq_true rfl) ?_
  intro p e s m below meth c A ls H locs hAe F hr hlk hin hsz hP hD hS hl
  rw [hAe]
  have hl : lv_has ls 1 [(0, .int a)] := hl
  obtain ⟨hx, hb, hml, hown, hT, hK, hN, hE, hA⟩ := id F
  refine lv_iload_n hx hb d_Lin_isDigit_0 rfl (lv_at hl 0 rfl) ?_
  refine lv_bipush (v := 48) hx hb d_Lin_isDigit_1 (by decide) ?_
  refine lv_icmp_lt (tgt := 16) hx hb d_Lin_isDigit_3 (by decide) (fun h_1 => ?_) (fun h_1 => ?_)
  · refine lv_iconst (v := 0) hx hb d_Lin_isDigit_16 (by decide) ?_
    exact mx_ri F hr hlk (by decide) hP hD hS () [] rfl (by decide) (Or.inl rfl) (by decide) (by decide) d_Lin_isDigit_17
  · refine lv_iload_n hx hb d_Lin_isDigit_6 rfl (lv_at hl 0 rfl) ?_
    refine lv_bipush (v := 57) hx hb d_Lin_isDigit_7 (by decide) ?_
    refine lv_icmp_gt (tgt := 16) hx hb d_Lin_isDigit_9 (by decide) (fun h_2 => ?_) (fun h_2 => ?_)
    · refine lv_iconst (v := 0) hx hb d_Lin_isDigit_16 (by decide) ?_
      exact mx_ri F hr hlk (by decide) hP hD hS () [] rfl (by decide) (Or.inl rfl) (by decide) (by decide) d_Lin_isDigit_17
    · refine lv_iconst (v := 1) hx hb d_Lin_isDigit_12 (by decide) ?_
      refine lv_goto (tgt := 17) hx hb d_Lin_isDigit_13 (by decide) ?_
      exact mx_ri F hr hlk (by decide) hP hD hS () [] rfl (by decide) (Or.inr rfl) (by decide) (by decide) d_Lin_isDigit_17
set_option maxHeartbeats 4000000 in
set_option maxRecDepth 100000 in
theorem s_Lin_nameEnd_b2 {p : Program} {l : Launch} {e : Env} {R : Room} {s : State} {m : MethodId} {args : Array Value} {below : List Frame} {meth : Method} {c : Code} {K : mx_K} {A : Nat → Prop} (t : Nat) (a : Nat) (b : Nat) (f : Nat → Int32) (hab : a ≤ b) (hb6 : b ≤ 1600) (F : mx_F p s m args c b_Lin_nameEnd 4 "LittleMix$Line" K A) (hr : meth.sig.returnType = some .int) (hlk : meth.locks = false) (hRf : 2 ≤ R.frames) (hRl : 40 ≤ R.locals)
    : ∀ n : Nat, ∀ (n3 : Nat) (ls : Array Slot) (H : Heap) (locs : List Loc), b - n3 < n → (a ≤ n3) → (n3 ≤ b) → lv_has ls 4 [(0, .ref t), (1, .int (nI a)), (2, .int (nI b)), (3, .int (nI n3))] → va_P K.1 mx_cl [(t, .inl (K.2.1.2.2.1, 1600, .inl f))] H → va_D A [(t, .inl (K.2.1.2.2.1, 1600, .inl f))] → va_S A s.heap H locs → W p l e R s m args below meth c H locs 0 0 (MQ below (va_Qi (fun (r : Int32) (u : Unit) => ∃ k : Nat, a ≤ k ∧ k ≤ b ∧ r = nI k) (mx_B K A (fun u : Unit => [(t, .inl (K.2.1.2.2.1, 1600, .inl f))])) A) args s 0 0 A) (F0 m 2 ls []) := by
  obtain ⟨hx, hb, hml, hown, hT, hK, hN, hE, hA⟩ := id F
  intro n
  induction n with
  | zero =>
    intro n3 ls H locs hmu h3 h3b hl hP hD hS
    exact absurd hmu (Nat.not_lt_zero _)
  | succ n ih =>
    intro n3 ls H locs hmu h3 h3b hl hP hD hS
    refine lv_iload_n hx hb d_Lin_nameEnd_2 rfl (lv_at hl 3 rfl) ?_
    refine lv_iload_n hx hb d_Lin_nameEnd_3 rfl (lv_at hl 2 rfl) ?_
    refine lv_icmp_ge (tgt := 31) hx hb d_Lin_nameEnd_4 (by decide) (fun h_1 => ?_) (fun h_1 => ?_)
    · have h_1n := mx_fLe (a := b) (b := n3) (by omega) (by omega) h_1
      refine lv_iload_n hx hb d_Lin_nameEnd_31 rfl (lv_at hl 3 rfl) ?_
      exact mx_ri F hr hlk rfl hP hD hS () [0] rfl (by decide) ⟨_, (by omega), (by omega), rfl⟩ (by decide) (by decide) d_Lin_nameEnd_32
    · have h_1n := mx_fNle (a := b) (b := n3) (by omega) (by omega) h_1
      refine lv_aload_n hx hb d_Lin_nameEnd_7 rfl (lv_at hl 0 rfl) ?_
      refine lv_iload_n hx hb d_Lin_nameEnd_8 rfl (lv_at hl 3 rfl) ?_
      refine va_cald hx hb hK hP 0 2 rfl rfl (i := nI n3) (vp_in_nI (n := n3) (N := 1600) (by omega) (by decide)) d_Lin_nameEnd_9 ?_
      refine lv_topi (fun z_2 ez_2 => ?_)
      refine mx_ci (wr := [(t, .inl (K.2.1.2.2.1, 1600, .inl f))]) F (mx_runS (As := [.int z_2]) (rest := []) (n := 1) F (s_Lin_isLetter l K z_2 H.size) k_434 (Or.inl k_432) k_433 k_7 p_Lin_isLetter rfl rfl hP hD hS [] rfl (by decide)  rfl hl.1 rfl (Nat.le_of_ble_eq_true rfl) ⟨Nat.le_trans (m := 2) (by decide) hRf, Nat.le_trans (m := 40) (by decide) hRl⟩ ⟨Nat.zero_le _, Nat.zero_le _⟩ d_Lin_nameEnd_10) hP hD hS [] [0] rfl rfl (by decide) (by decide) (fun r_4 _ H locs hq_3 hP hD hS => ?_)
      obtain ⟨rb_5, hrb_5, rfl⟩ := mx_bool hq_3
      have hP : va_P K.1 mx_cl [(t, .inl (K.2.1.2.2.1, 1600, .inl f))] H := hP
      have hD : va_D A [(t, .inl (K.2.1.2.2.1, 1600, .inl f))] := hD
      refine W.cs (cells' := 0) (slots' := 0) rfl rfl ?_
      refine lv_if_ne (tgt := 25) hx hb d_Lin_nameEnd_13 (by decide) (fun h_6 => ?_) (fun h_6 => ?_)
      · have h_6n := mx_fNe (a := rb_5) (b := 0) (by omega) (by omega) h_6
        refine lv_iinc (lv' := [(3, .int (nI (n3 + 1))), (0, .ref t), (1, .int (nI a)), (2, .int (nI b))]) (v := nI (n3 + 1)) (k := 3) hx hb d_Lin_nameEnd_25 hl rfl (mx_inc n3) (by decide) rfl (fun ls hl => ?_)
        refine lv_goto (tgt := 2) hx hb d_Lin_nameEnd_28 (by decide) ?_
        exact ih (n3 + 1) _ _ _ (by omega) (by first | assumption | omega | exact mx_ch_0) (by first | assumption | omega | exact mx_ch_0) (lv_sub hl [1, 2, 3, 0] rfl) hP hD hS
      · have h_6n := mx_fEq (a := rb_5) (b := 0) (by omega) (by omega) h_6
        refine lv_aload_n hx hb d_Lin_nameEnd_16 rfl (lv_at hl 0 rfl) ?_
        refine lv_iload_n hx hb d_Lin_nameEnd_17 rfl (lv_at hl 3 rfl) ?_
        refine va_cald hx hb hK hP 0 2 rfl rfl (i := nI n3) (vp_in_nI (n := n3) (N := 1600) (by omega) (by decide)) d_Lin_nameEnd_18 ?_
        refine lv_topi (fun z_7 ez_7 => ?_)
        refine mx_ci (wr := [(t, .inl (K.2.1.2.2.1, 1600, .inl f))]) F (mx_runS (As := [.int z_7]) (rest := []) (n := 1) F (s_Lin_isDigit l K z_7 H.size) k_440 (Or.inl k_438) k_439 k_7 p_Lin_isDigit rfl rfl hP hD hS [] rfl (by decide)  rfl hl.1 rfl (Nat.le_of_ble_eq_true rfl) ⟨Nat.le_trans (m := 2) (by decide) hRf, Nat.le_trans (m := 40) (by decide) hRl⟩ ⟨Nat.zero_le _, Nat.zero_le _⟩ d_Lin_nameEnd_19) hP hD hS [] [0] rfl rfl (by decide) (by decide) (fun r_9 _ H locs hq_8 hP hD hS => ?_)
        obtain ⟨rb_10, hrb_10, rfl⟩ := mx_bool hq_8
        have hP : va_P K.1 mx_cl [(t, .inl (K.2.1.2.2.1, 1600, .inl f))] H := hP
        have hD : va_D A [(t, .inl (K.2.1.2.2.1, 1600, .inl f))] := hD
        refine W.cs (cells' := 0) (slots' := 0) rfl rfl ?_
        refine lv_if_eq (tgt := 31) hx hb d_Lin_nameEnd_22 (by decide) (fun h_11 => ?_) (fun h_11 => ?_)
        · have h_11n := mx_fEq (a := rb_10) (b := 0) (by omega) (by omega) h_11
          refine lv_iload_n hx hb d_Lin_nameEnd_31 rfl (lv_at hl 3 rfl) ?_
          exact mx_ri F hr hlk rfl hP hD hS () [0] rfl (by decide) ⟨_, (by omega), (by omega), rfl⟩ (by decide) (by decide) d_Lin_nameEnd_32
        · have h_11n := mx_fNe (a := rb_10) (b := 0) (by omega) (by omega) h_11
          refine lv_iinc (lv' := [(3, .int (nI (n3 + 1))), (0, .ref t), (1, .int (nI a)), (2, .int (nI b))]) (v := nI (n3 + 1)) (k := 3) hx hb d_Lin_nameEnd_25 hl rfl (mx_inc n3) (by decide) rfl (fun ls hl => ?_)
          refine lv_goto (tgt := 2) hx hb d_Lin_nameEnd_28 (by decide) ?_
          exact ih (n3 + 1) _ _ _ (by omega) (by first | assumption | omega | exact mx_ch_0) (by first | assumption | omega | exact mx_ch_0) (lv_sub hl [1, 2, 3, 0] rfl) hP hD hS
set_option maxHeartbeats 4000000 in
set_option maxRecDepth 100000 in
theorem s_Lin_nameEnd (l : Launch) (K : mx_K) (t : Nat) (a : Nat) (b : Nat) (f : Nat → Int32) (sz : Nat) (hab : a ≤ b) (hb6 : b ≤ 1600) : mx_I l y_Lin_nameEnd b_Lin_nameEnd 4 .int { frames := 2, cells := 0, slots := 0, locals := 40 } K [.ref t, .int (nI a), .int (nI b)] [(t, .inl (K.2.1.2.2.1, 1600, .inl f))] sz (fun (r : Int32) (u : Unit) => ∃ k : Nat, a ≤ k ∧ k ≤ b ∧ r = nI k) (fun u : Unit => [(t, .inl (K.2.1.2.2.1, 1600, .inl f))]) := by
  refine mx_of (by decide) (Nat.le_of_ble_eq_true rfl) ?_
  intro p e s m below meth c A ls H locs hAe F hr hlk hin hsz hP hD hS hl
  rw [hAe]
  have hl : lv_has ls 4 [(0, .ref t), (1, .int (nI a)), (2, .int (nI b))] := hl
  obtain ⟨hx, hb, hml, hown, hT, hK, hN, hE, hA⟩ := id F
  refine lv_iload_n hx hb d_Lin_nameEnd_0 rfl (lv_at hl 1 rfl) ?_
  refine lv_istore_n (lv' := [(3, .int (nI a)), (0, .ref t), (1, .int (nI a)), (2, .int (nI b))]) hx hb d_Lin_nameEnd_1 rfl hl (by decide) rfl (fun ls hl => ?_)
  exact s_Lin_nameEnd_b2 t a b f hab hb6 F hr hlk (by decide) (by decide) (b - a + 1) a _ _ _ (by omega) (by first | assumption | omega | exact mx_ch_0) (by first | assumption | omega | exact mx_ch_0) (lv_sub hl [1, 2, 3, 0] rfl) hP hD hS
set_option maxHeartbeats 4000000 in
set_option maxRecDepth 100000 in
theorem s_Lin_findEnd_b5 {p : Program} {l : Launch} {e : Env} {R : Room} {s : State} {m : MethodId} {args : Array Value} {below : List Frame} {meth : Method} {c : Code} {K : mx_K} {A : Nat → Prop} (li : Nat) (a : Nat) (b : Nat) (lno : Int32) (t : Nat) (op : Nat) (f : Nat → Int32) (lna : Nat) (lnz : Nat) (lnp : Nat) (lne : Nat) (hab : a ≤ b) (hb6 : b ≤ 1600) (F : mx_F p s m args c b_Lin_findEnd 3 "LittleMix$Line" K A) (hr : meth.sig.returnType = none) (hlk : meth.locks = false) (hRf : 1 ≤ R.frames) (hRl : 20 ≤ R.locals)
    : ∀ n : Nat, ∀ (n_li_end : Nat) (ls : Array Slot) (H : Heap) (locs : List Loc), b - n_li_end < n → (a ≤ n_li_end) → (n_li_end ≤ b) → lv_has ls 3 [(0, .ref li), (1, .int (nI a)), (2, .int (nI b))] → va_P K.1 mx_cl [(li, .inr (4, [.int (nI lna), .int (nI lnz), .int lno, .int (nI lnp), .int (nI n_li_end), .ref t, .ref op])), (t, .inl (K.2.1.2.2.1, 1600, .inl f))] H → va_D A [(li, .inr (4, [.int (nI lna), .int (nI lnz), .int lno, .int (nI lnp), .int (nI n_li_end), .ref t, .ref op])), (t, .inl (K.2.1.2.2.1, 1600, .inl f))] → va_S A s.heap H locs → W p l e R s m args below meth c H locs 0 0 (MQ below (va_Qv (fun u : va_W => ∃ (e2 : Nat), (a ≤ e2) ∧ (e2 ≤ b) ∧ u = [(li, .inr (4, [.int (nI lna), .int (nI lnz), .int lno, .int (nI lnp), .int (nI e2), .ref t, .ref op])), (t, .inl (K.2.1.2.2.1, 1600, .inl f))]) (mx_B K A (fun u : va_W => u)) A) args s 0 0 A) (F0 m 5 ls []) := by
  obtain ⟨hx, hb, hml, hown, hT, hK, hN, hE, hA⟩ := id F
  intro n
  induction n with
  | zero =>
    intro n_li_end ls H locs hmu h5 h5b hl hP hD hS
    exact absurd hmu (Nat.not_lt_zero _)
  | succ n ih =>
    intro n_li_end ls H locs hmu h5 h5b hl hP hD hS
    refine lv_aload_n hx hb d_Lin_findEnd_5 rfl (lv_at hl 0 rfl) ?_
    refine va_get (D := K.1) (ci := 4) (v := .int (nI n_li_end)) (C := R_Lin) (T := T_Lin) (N := 7) hx hb hT in_Lin hown hK hP 0 rfl rfl 4 (by decide) (hT _ k_227) (fun _ h9 => h9) rfl d_Lin_findEnd_6 ?_
    refine lv_iload_n hx hb d_Lin_findEnd_9 rfl (lv_at hl 2 rfl) ?_
    refine lv_icmp_ge (tgt := 40) hx hb d_Lin_findEnd_10 (by decide) (fun h_1 => ?_) (fun h_1 => ?_)
    · have h_1n := mx_fLe (a := b) (b := n_li_end) (by omega) (by omega) h_1
      exact mx_rv F hr hlk hP hD hS [(li, .inr (4, [.int (nI lna), .int (nI lnz), .int lno, .int (nI lnp), .int (nI n_li_end), .ref t, .ref op])), (t, .inl (K.2.1.2.2.1, 1600, .inl f))] [0, 1] rfl (by decide) ⟨n_li_end, (by first | assumption | omega | exact mx_ch_0), (by first | assumption | omega | exact mx_ch_0), rfl⟩ (by decide) (by decide) d_Lin_findEnd_40
    · have h_1n := mx_fNle (a := b) (b := n_li_end) (by omega) (by omega) h_1
      refine lv_aload_n hx hb d_Lin_findEnd_13 rfl (lv_at hl 0 rfl) ?_
      refine va_get (D := K.1) (ci := 4) (v := .ref t) (C := R_Lin) (T := T_Lin) (N := 7) hx hb hT in_Lin hown hK hP 0 rfl rfl 5 (by decide) (hT _ k_217) (fun _ h9 => h9) rfl d_Lin_findEnd_14 ?_
      refine lv_aload_n hx hb d_Lin_findEnd_17 rfl (lv_at hl 0 rfl) ?_
      refine va_get (D := K.1) (ci := 4) (v := .int (nI n_li_end)) (C := R_Lin) (T := T_Lin) (N := 7) hx hb hT in_Lin hown hK hP 0 rfl rfl 4 (by decide) (hT _ k_227) (fun _ h9 => h9) rfl d_Lin_findEnd_18 ?_
      refine va_cald hx hb hK hP 1 2 rfl rfl (i := nI n_li_end) (vp_in_nI (n := n_li_end) (N := 1600) (by omega) (by decide)) d_Lin_findEnd_21 ?_
      refine lv_topi (fun z_2 ez_2 => ?_)
      refine lv_bipush (v := 10) hx hb d_Lin_findEnd_22 (by decide) ?_
      refine lv_icmp_eq (tgt := 40) hx hb d_Lin_findEnd_24 (by decide) (fun h_3 => ?_) (fun h_3 => ?_)
      · exact mx_rv F hr hlk hP hD hS [(li, .inr (4, [.int (nI lna), .int (nI lnz), .int lno, .int (nI lnp), .int (nI n_li_end), .ref t, .ref op])), (t, .inl (K.2.1.2.2.1, 1600, .inl f))] [0, 1] rfl (by decide) ⟨n_li_end, (by first | assumption | omega | exact mx_ch_0), (by first | assumption | omega | exact mx_ch_0), rfl⟩ (by decide) (by decide) d_Lin_findEnd_40
      · refine lv_aload_n hx hb d_Lin_findEnd_27 rfl (lv_at hl 0 rfl) ?_
        refine lv_dup hx hb d_Lin_findEnd_28 rfl ?_
        refine va_get (D := K.1) (ci := 4) (v := .int (nI n_li_end)) (C := R_Lin) (T := T_Lin) (N := 7) hx hb hT in_Lin hown hK hP 0 rfl rfl 4 (by decide) (hT _ k_227) (fun _ h9 => h9) rfl d_Lin_findEnd_29 ?_
        refine lv_iconst (v := 1) hx hb d_Lin_findEnd_32 (by decide) ?_
        refine lv_iadd hx hb d_Lin_findEnd_33 ?_
        refine lv_topi (fun z_4 ez_4 => ?_)
        obtain rfl : z_4 = nI (n_li_end + 1) := ez_4.trans (nI_add n_li_end 1)
        refine va_put (D := K.1) (ci := 4) (v := .int (nI (n_li_end + 1))) (ty := .int) (C := R_Lin) (T := T_Lin) (N := 7) hx hb hT in_Lin t_Lin t_Lin_ok n_Lin hown hK hP hD hS 0 rfl rfl 4 (by decide) (hT _ k_227) (fun _ h9 => h9) rfl (by decide +kernel) rfl rfl (Nat.le_of_ble_eq_true rfl) d_Lin_findEnd_34 (fun H locs hP hD hS => ?_)
        have hP : va_P K.1 mx_cl [(li, .inr (4, [.int (nI lna), .int (nI lnz), .int lno, .int (nI lnp), .int (nI (n_li_end + 1)), .ref t, .ref op])), (t, .inl (K.2.1.2.2.1, 1600, .inl f))] H := hP
        have hD : va_D A [(li, .inr (4, [.int (nI lna), .int (nI lnz), .int lno, .int (nI lnp), .int (nI (n_li_end + 1)), .ref t, .ref op])), (t, .inl (K.2.1.2.2.1, 1600, .inl f))] := hD
        refine lv_goto (tgt := 5) hx hb d_Lin_findEnd_37 (by decide) ?_
        exact ih (n_li_end + 1) _ _ _ (by omega) (by first | assumption | omega | exact mx_ch_0) (by first | assumption | omega | exact mx_ch_0) (lv_sub hl [0, 1, 2] rfl) hP hD hS
set_option maxHeartbeats 4000000 in
set_option maxRecDepth 100000 in
theorem s_Lin_findEnd (l : Launch) (K : mx_K) (li : Nat) (a : Nat) (b : Nat) (lno : Int32) (t : Nat) (op : Nat) (f : Nat → Int32) (lna : Nat) (lnz : Nat) (lnp : Nat) (lne : Nat) (sz : Nat) (hab : a ≤ b) (hb6 : b ≤ 1600) : mx_V l y_Lin_findEnd b_Lin_findEnd 3 { frames := 1, cells := 0, slots := 0, locals := 20 } K [.ref li, .int (nI a), .int (nI b)] [(li, .inr (4, [.int (nI lna), .int (nI lnz), .int lno, .int (nI lnp), .int (nI lne), .ref t, .ref op])), (t, .inl (K.2.1.2.2.1, 1600, .inl f))] sz (fun u : va_W => ∃ (e2 : Nat), (a ≤ e2) ∧ (e2 ≤ b) ∧ u = [(li, .inr (4, [.int (nI lna), .int (nI lnz), .int lno, .int (nI lnp), .int (nI e2), .ref t, .ref op])), (t, .inl (K.2.1.2.2.1, 1600, .inl f))]) (fun u : va_W => u) := by
  refine mx_of (by decide) (Nat.le_of_ble_eq_true rfl) ?_
  intro p e s m below meth c A ls H locs hAe F hr hlk hin hsz hP hD hS hl
  rw [hAe]
  have hl : lv_has ls 3 [(0, .ref li), (1, .int (nI a)), (2, .int (nI b))] := hl
  obtain ⟨hx, hb, hml, hown, hT, hK, hN, hE, hA⟩ := id F
  refine lv_aload_n hx hb d_Lin_findEnd_0 rfl (lv_at hl 0 rfl) ?_
  refine lv_iload_n hx hb d_Lin_findEnd_1 rfl (lv_at hl 1 rfl) ?_
  refine va_put (D := K.1) (ci := 4) (v := .int (nI a)) (ty := .int) (C := R_Lin) (T := T_Lin) (N := 7) hx hb hT in_Lin t_Lin t_Lin_ok n_Lin hown hK hP hD hS 0 rfl rfl 4 (by decide) (hT _ k_227) (fun _ h9 => h9) rfl (by decide +kernel) rfl rfl (Nat.le_of_ble_eq_true rfl) d_Lin_findEnd_2 (fun H locs hP hD hS => ?_)
  have hP : va_P K.1 mx_cl [(li, .inr (4, [.int (nI lna), .int (nI lnz), .int lno, .int (nI lnp), .int (nI a), .ref t, .ref op])), (t, .inl (K.2.1.2.2.1, 1600, .inl f))] H := hP
  have hD : va_D A [(li, .inr (4, [.int (nI lna), .int (nI lnz), .int lno, .int (nI lnp), .int (nI a), .ref t, .ref op])), (t, .inl (K.2.1.2.2.1, 1600, .inl f))] := hD
  exact s_Lin_findEnd_b5 li a b lno t op f lna lnz lnp lne hab hb6 F hr hlk (by decide) (by decide) (b - a + 1) a _ _ _ (by omega) (by first | assumption | omega | exact mx_ch_0) (by first | assumption | omega | exact mx_ch_0) (lv_sub hl [0, 1, 2] rfl) hP hD hS
set_option maxHeartbeats 4000000 in
set_option maxRecDepth 100000 in
theorem s_Lin_behindBlanks_b2 {p : Program} {l : Launch} {e : Env} {R : Room} {s : State} {m : MethodId} {args : Array Value} {below : List Frame} {meth : Method} {c : Code} {K : mx_K} {A : Nat → Prop} (li : Nat) (a : Nat) (lno : Int32) (t : Nat) (op : Nat) (f : Nat → Int32) (lna : Nat) (lnz : Nat) (lnp : Nat) (lne : Nat) (hab : a ≤ lne) (hb6 : lne ≤ 1600) (F : mx_F p s m args c b_Lin_behindBlanks 3 "LittleMix$Line" K A) (hr : meth.sig.returnType = some .int) (hlk : meth.locks = false) (hRf : 1 ≤ R.frames) (hRl : 20 ≤ R.locals)
    : ∀ n : Nat, ∀ (n2 : Nat) (ls : Array Slot) (H : Heap) (locs : List Loc), lne - n2 < n → (a ≤ n2) → (n2 ≤ lne) → lv_has ls 3 [(0, .ref li), (1, .int (nI a)), (2, .int (nI n2))] → va_P K.1 mx_cl [(li, .inr (4, [.int (nI lna), .int (nI lnz), .int lno, .int (nI lnp), .int (nI lne), .ref t, .ref op])), (t, .inl (K.2.1.2.2.1, 1600, .inl f))] H → va_D A [(li, .inr (4, [.int (nI lna), .int (nI lnz), .int lno, .int (nI lnp), .int (nI lne), .ref t, .ref op])), (t, .inl (K.2.1.2.2.1, 1600, .inl f))] → va_S A s.heap H locs → W p l e R s m args below meth c H locs 0 0 (MQ below (va_Qi (fun (r : Int32) (u : Unit) => ∃ k : Nat, a ≤ k ∧ k ≤ lne ∧ r = nI k) (mx_B K A (fun u : Unit => [(li, .inr (4, [.int (nI lna), .int (nI lnz), .int lno, .int (nI lnp), .int (nI lne), .ref t, .ref op])), (t, .inl (K.2.1.2.2.1, 1600, .inl f))])) A) args s 0 0 A) (F0 m 2 ls []) := by
  obtain ⟨hx, hb, hml, hown, hT, hK, hN, hE, hA⟩ := id F
  intro n
  induction n with
  | zero =>
    intro n2 ls H locs hmu h2 h2b hl hP hD hS
    exact absurd hmu (Nat.not_lt_zero _)
  | succ n ih =>
    intro n2 ls H locs hmu h2 h2b hl hP hD hS
    refine lv_iload_n hx hb d_Lin_behindBlanks_2 rfl (lv_at hl 2 rfl) ?_
    refine lv_aload_n hx hb d_Lin_behindBlanks_3 rfl (lv_at hl 0 rfl) ?_
    refine va_get (D := K.1) (ci := 4) (v := .int (nI lne)) (C := R_Lin) (T := T_Lin) (N := 7) hx hb hT in_Lin hown hK hP 0 rfl rfl 4 (by decide) (hT _ k_227) (fun _ h9 => h9) rfl d_Lin_behindBlanks_4 ?_
    refine lv_icmp_ge (tgt := 27) hx hb d_Lin_behindBlanks_7 (by decide) (fun h_1 => ?_) (fun h_1 => ?_)
    · have h_1n := mx_fLe (a := lne) (b := n2) (by omega) (by omega) h_1
      refine lv_iload_n hx hb d_Lin_behindBlanks_27 rfl (lv_at hl 2 rfl) ?_
      exact mx_ri F hr hlk rfl hP hD hS () [0, 1] rfl (by decide) ⟨_, (by omega), (by omega), rfl⟩ (by decide) (by decide) d_Lin_behindBlanks_28
    · have h_1n := mx_fNle (a := lne) (b := n2) (by omega) (by omega) h_1
      refine lv_aload_n hx hb d_Lin_behindBlanks_10 rfl (lv_at hl 0 rfl) ?_
      refine va_get (D := K.1) (ci := 4) (v := .ref t) (C := R_Lin) (T := T_Lin) (N := 7) hx hb hT in_Lin hown hK hP 0 rfl rfl 5 (by decide) (hT _ k_217) (fun _ h9 => h9) rfl d_Lin_behindBlanks_11 ?_
      refine lv_iload_n hx hb d_Lin_behindBlanks_14 rfl (lv_at hl 2 rfl) ?_
      refine va_cald hx hb hK hP 1 2 rfl rfl (i := nI n2) (vp_in_nI (n := n2) (N := 1600) (by omega) (by decide)) d_Lin_behindBlanks_15 ?_
      refine lv_topi (fun z_2 ez_2 => ?_)
      refine lv_bipush (v := 32) hx hb d_Lin_behindBlanks_16 (by decide) ?_
      refine lv_icmp_ne (tgt := 27) hx hb d_Lin_behindBlanks_18 (by decide) (fun h_3 => ?_) (fun h_3 => ?_)
      · refine lv_iload_n hx hb d_Lin_behindBlanks_27 rfl (lv_at hl 2 rfl) ?_
        exact mx_ri F hr hlk rfl hP hD hS () [0, 1] rfl (by decide) ⟨_, (by omega), (by omega), rfl⟩ (by decide) (by decide) d_Lin_behindBlanks_28
      · refine lv_iinc (lv' := [(2, .int (nI (n2 + 1))), (0, .ref li), (1, .int (nI a))]) (v := nI (n2 + 1)) (k := 2) hx hb d_Lin_behindBlanks_21 hl rfl (mx_inc n2) (by decide) rfl (fun ls hl => ?_)
        refine lv_goto (tgt := 2) hx hb d_Lin_behindBlanks_24 (by decide) ?_
        exact ih (n2 + 1) _ _ _ (by omega) (by first | assumption | omega | exact mx_ch_0) (by first | assumption | omega | exact mx_ch_0) (lv_sub hl [1, 2, 0] rfl) hP hD hS
set_option maxHeartbeats 4000000 in
set_option maxRecDepth 100000 in
theorem s_Lin_behindBlanks (l : Launch) (K : mx_K) (li : Nat) (a : Nat) (lno : Int32) (t : Nat) (op : Nat) (f : Nat → Int32) (lna : Nat) (lnz : Nat) (lnp : Nat) (lne : Nat) (sz : Nat) (hab : a ≤ lne) (hb6 : lne ≤ 1600) : mx_I l y_Lin_behindBlanks b_Lin_behindBlanks 3 .int { frames := 1, cells := 0, slots := 0, locals := 20 } K [.ref li, .int (nI a)] [(li, .inr (4, [.int (nI lna), .int (nI lnz), .int lno, .int (nI lnp), .int (nI lne), .ref t, .ref op])), (t, .inl (K.2.1.2.2.1, 1600, .inl f))] sz (fun (r : Int32) (u : Unit) => ∃ k : Nat, a ≤ k ∧ k ≤ lne ∧ r = nI k) (fun u : Unit => [(li, .inr (4, [.int (nI lna), .int (nI lnz), .int lno, .int (nI lnp), .int (nI lne), .ref t, .ref op])), (t, .inl (K.2.1.2.2.1, 1600, .inl f))]) := by
  refine mx_of (by decide) (Nat.le_of_ble_eq_true rfl) ?_
  intro p e s m below meth c A ls H locs hAe F hr hlk hin hsz hP hD hS hl
  rw [hAe]
  have hl : lv_has ls 3 [(0, .ref li), (1, .int (nI a))] := hl
  obtain ⟨hx, hb, hml, hown, hT, hK, hN, hE, hA⟩ := id F
  refine lv_iload_n hx hb d_Lin_behindBlanks_0 rfl (lv_at hl 1 rfl) ?_
  refine lv_istore_n (lv' := [(2, .int (nI a)), (0, .ref li), (1, .int (nI a))]) hx hb d_Lin_behindBlanks_1 rfl hl (by decide) rfl (fun ls hl => ?_)
  exact s_Lin_behindBlanks_b2 li a lno t op f lna lnz lnp lne hab hb6 F hr hlk (by decide) (by decide) (lne - a + 1) a _ _ _ (by omega) (by first | assumption | omega | exact mx_ch_0) (by first | assumption | omega | exact mx_ch_0) (lv_sub hl [1, 2, 0] rfl) hP hD hS
set_option maxHeartbeats 4000000 in
set_option maxRecDepth 100000 in
theorem s_Lin_blankFrom_b2 {p : Program} {l : Launch} {e : Env} {R : Room} {s : State} {m : MethodId} {args : Array Value} {below : List Frame} {meth : Method} {c : Code} {K : mx_K} {A : Nat → Prop} (li : Nat) (a : Nat) (lno : Int32) (t : Nat) (op : Nat) (f : Nat → Int32) (lna : Nat) (lnz : Nat) (lnp : Nat) (lne : Nat) (hab : a ≤ lne) (hb6 : lne ≤ 1600) (F : mx_F p s m args c b_Lin_blankFrom 3 "LittleMix$Line" K A) (hr : meth.sig.returnType = some .int) (hlk : meth.locks = false) (hRf : 1 ≤ R.frames) (hRl : 20 ≤ R.locals)
    : ∀ n : Nat, ∀ (n2 : Nat) (ls : Array Slot) (H : Heap) (locs : List Loc), lne - n2 < n → (a ≤ n2) → (n2 ≤ lne) → lv_has ls 3 [(0, .ref li), (1, .int (nI a)), (2, .int (nI n2))] → va_P K.1 mx_cl [(li, .inr (4, [.int (nI lna), .int (nI lnz), .int lno, .int (nI lnp), .int (nI lne), .ref t, .ref op])), (t, .inl (K.2.1.2.2.1, 1600, .inl f))] H → va_D A [(li, .inr (4, [.int (nI lna), .int (nI lnz), .int lno, .int (nI lnp), .int (nI lne), .ref t, .ref op])), (t, .inl (K.2.1.2.2.1, 1600, .inl f))] → va_S A s.heap H locs → W p l e R s m args below meth c H locs 0 0 (MQ below (va_Qi (fun (r : Int32) (u : Unit) => ∃ k : Nat, a ≤ k ∧ k ≤ lne ∧ r = nI k) (mx_B K A (fun u : Unit => [(li, .inr (4, [.int (nI lna), .int (nI lnz), .int lno, .int (nI lnp), .int (nI lne), .ref t, .ref op])), (t, .inl (K.2.1.2.2.1, 1600, .inl f))])) A) args s 0 0 A) (F0 m 2 ls []) := by
  obtain ⟨hx, hb, hml, hown, hT, hK, hN, hE, hA⟩ := id F
  intro n
  induction n with
  | zero =>
    intro n2 ls H locs hmu h2 h2b hl hP hD hS
    exact absurd hmu (Nat.not_lt_zero _)
  | succ n ih =>
    intro n2 ls H locs hmu h2 h2b hl hP hD hS
    refine lv_iload_n hx hb d_Lin_blankFrom_2 rfl (lv_at hl 2 rfl) ?_
    refine lv_aload_n hx hb d_Lin_blankFrom_3 rfl (lv_at hl 0 rfl) ?_
    refine va_get (D := K.1) (ci := 4) (v := .int (nI lne)) (C := R_Lin) (T := T_Lin) (N := 7) hx hb hT in_Lin hown hK hP 0 rfl rfl 4 (by decide) (hT _ k_227) (fun _ h9 => h9) rfl d_Lin_blankFrom_4 ?_
    refine lv_icmp_ge (tgt := 27) hx hb d_Lin_blankFrom_7 (by decide) (fun h_1 => ?_) (fun h_1 => ?_)
    · have h_1n := mx_fLe (a := lne) (b := n2) (by omega) (by omega) h_1
      refine lv_iload_n hx hb d_Lin_blankFrom_27 rfl (lv_at hl 2 rfl) ?_
      exact mx_ri F hr hlk rfl hP hD hS () [0, 1] rfl (by decide) ⟨_, (by omega), (by omega), rfl⟩ (by decide) (by decide) d_Lin_blankFrom_28
    · have h_1n := mx_fNle (a := lne) (b := n2) (by omega) (by omega) h_1
      refine lv_aload_n hx hb d_Lin_blankFrom_10 rfl (lv_at hl 0 rfl) ?_
      refine va_get (D := K.1) (ci := 4) (v := .ref t) (C := R_Lin) (T := T_Lin) (N := 7) hx hb hT in_Lin hown hK hP 0 rfl rfl 5 (by decide) (hT _ k_217) (fun _ h9 => h9) rfl d_Lin_blankFrom_11 ?_
      refine lv_iload_n hx hb d_Lin_blankFrom_14 rfl (lv_at hl 2 rfl) ?_
      refine va_cald hx hb hK hP 1 2 rfl rfl (i := nI n2) (vp_in_nI (n := n2) (N := 1600) (by omega) (by decide)) d_Lin_blankFrom_15 ?_
      refine lv_topi (fun z_2 ez_2 => ?_)
      refine lv_bipush (v := 32) hx hb d_Lin_blankFrom_16 (by decide) ?_
      refine lv_icmp_eq (tgt := 27) hx hb d_Lin_blankFrom_18 (by decide) (fun h_3 => ?_) (fun h_3 => ?_)
      · refine lv_iload_n hx hb d_Lin_blankFrom_27 rfl (lv_at hl 2 rfl) ?_
        exact mx_ri F hr hlk rfl hP hD hS () [0, 1] rfl (by decide) ⟨_, (by omega), (by omega), rfl⟩ (by decide) (by decide) d_Lin_blankFrom_28
      · refine lv_iinc (lv' := [(2, .int (nI (n2 + 1))), (0, .ref li), (1, .int (nI a))]) (v := nI (n2 + 1)) (k := 2) hx hb d_Lin_blankFrom_21 hl rfl (mx_inc n2) (by decide) rfl (fun ls hl => ?_)
        refine lv_goto (tgt := 2) hx hb d_Lin_blankFrom_24 (by decide) ?_
        exact ih (n2 + 1) _ _ _ (by omega) (by first | assumption | omega | exact mx_ch_0) (by first | assumption | omega | exact mx_ch_0) (lv_sub hl [1, 2, 0] rfl) hP hD hS
set_option maxHeartbeats 4000000 in
set_option maxRecDepth 100000 in
theorem s_Lin_blankFrom (l : Launch) (K : mx_K) (li : Nat) (a : Nat) (lno : Int32) (t : Nat) (op : Nat) (f : Nat → Int32) (lna : Nat) (lnz : Nat) (lnp : Nat) (lne : Nat) (sz : Nat) (hab : a ≤ lne) (hb6 : lne ≤ 1600) : mx_I l y_Lin_blankFrom b_Lin_blankFrom 3 .int { frames := 1, cells := 0, slots := 0, locals := 20 } K [.ref li, .int (nI a)] [(li, .inr (4, [.int (nI lna), .int (nI lnz), .int lno, .int (nI lnp), .int (nI lne), .ref t, .ref op])), (t, .inl (K.2.1.2.2.1, 1600, .inl f))] sz (fun (r : Int32) (u : Unit) => ∃ k : Nat, a ≤ k ∧ k ≤ lne ∧ r = nI k) (fun u : Unit => [(li, .inr (4, [.int (nI lna), .int (nI lnz), .int lno, .int (nI lnp), .int (nI lne), .ref t, .ref op])), (t, .inl (K.2.1.2.2.1, 1600, .inl f))]) := by
  refine mx_of (by decide) (Nat.le_of_ble_eq_true rfl) ?_
  intro p e s m below meth c A ls H locs hAe F hr hlk hin hsz hP hD hS hl
  rw [hAe]
  have hl : lv_has ls 3 [(0, .ref li), (1, .int (nI a))] := hl
  obtain ⟨hx, hb, hml, hown, hT, hK, hN, hE, hA⟩ := id F
  refine lv_iload_n hx hb d_Lin_blankFrom_0 rfl (lv_at hl 1 rfl) ?_
  refine lv_istore_n (lv' := [(2, .int (nI a)), (0, .ref li), (1, .int (nI a))]) hx hb d_Lin_blankFrom_1 rfl hl (by decide) rfl (fun ls hl => ?_)
  exact s_Lin_blankFrom_b2 li a lno t op f lna lnz lnp lne hab hb6 F hr hlk (by decide) (by decide) (lne - a + 1) a _ _ _ (by omega) (by first | assumption | omega | exact mx_ch_0) (by first | assumption | omega | exact mx_ch_0) (lv_sub hl [1, 2, 0] rfl) hP hD hS
set_option maxHeartbeats 4000000 in
set_option maxRecDepth 100000 in
theorem s_Lin_read (l : Launch) (K : mx_K) (li : Nat) (a : Nat) (b : Nat) (lno : Int32) (t : Nat) (op : Nat) (f : Nat → Int32) (nm : Nat) (fn : Nat → Int64) (lna : Nat) (lnz : Nat) (lnp : Nat) (lne : Nat) (sz : Nat) (hl1 : lna + lnz ≤ 1600) (hl2 : lnp ≤ lne) (hl3 : lne ≤ 1600) (hl4 : mx_op lno) (hab : a ≤ b) (hb6 : b ≤ 1600) : mx_I l y_Lin_read b_Lin_read 5 .boolean { frames := 3, cells := 0, slots := 0, locals := 63 } K [.ref li, .int (nI a), .int (nI b)] [(li, .inr (4, [.int (nI lna), .int (nI lnz), .int lno, .int (nI lnp), .int (nI lne), .ref t, .ref op])), (t, .inl (K.2.1.2.2.1, 1600, .inl f)), (op, .inr (3, [.ref nm])), (nm, .inl (K.2.1.1, 262, .inr (.inl fn)))] sz (fun (r : Int32) (u : va_W) => (r = 0 ∨ r = 1) ∧ (∃ (lma : Nat) (lmz : Nat) (lmo : Int32) (lmp : Nat) (lme : Nat), (lma + lmz ≤ 1600) ∧ (lmp ≤ lme) ∧ (lme ≤ 1600) ∧ (mx_op lmo) ∧ u = [(li, .inr (4, [.int (nI lma), .int (nI lmz), .int lmo, .int (nI lmp), .int (nI lme), .ref t, .ref op])), (t, .inl (K.2.1.2.2.1, 1600, .inl f)), (op, .inr (3, [.ref nm])), (nm, .inl (K.2.1.1, 262, .inr (.inl fn)))])) (fun u : va_W => u) := by
  refine mx_of (by decide) (Nat.le_of_ble_eq_true rfl) ?_
  intro p e s m below meth c A ls H locs hAe F hr hlk hin hsz hP hD hS hl
  rw [hAe]
  have hl : lv_has ls 5 [(0, .ref li), (1, .int (nI a)), (2, .int (nI b))] := hl
  obtain ⟨hx, hb, hml, hown, hT, hK, hN, hE, hA⟩ := id F
  refine lv_aload_n hx hb d_Lin_read_0 rfl (lv_at hl 0 rfl) ?_
  refine lv_iload_n hx hb d_Lin_read_1 rfl (lv_at hl 1 rfl) ?_
  refine lv_iload_n hx hb d_Lin_read_2 rfl (lv_at hl 2 rfl) ?_
  refine mx_cv (wr := [(op, .inr (3, [.ref nm])), (nm, .inl (K.2.1.1, 262, .inr (.inl fn)))]) F (mx_runV (As := [.int (nI a), .int (nI b)]) (rest := []) (n := 2) F (s_Lin_findEnd l K li a b lno t op f lna lnz lnp lne H.size (by first | assumption | omega | exact mx_ch_0) (by first | assumption | omega | exact mx_ch_0)) k_431 (Or.inl k_428) k_430 sl_Lin_findEnd k_7 p_Lin_findEnd rfl rfl hP hD hS [0, 1] rfl (by decide) (va_recv (q := (R_Lin, T_Lin, 7)) (ci := 4) (q0 := 0) hK hP rfl rfl) rfl hl.1 rfl (Nat.le_of_ble_eq_true rfl) ⟨by decide, by decide⟩ ⟨by decide, by decide⟩ d_Lin_read_3) hP hD hS [0, 1] [2, 3] rfl rfl (by decide) (by decide) (fun u_2 H locs hq_1 hP hD hS => ?_)
  obtain ⟨w_4, hf_5, hf_6, rfl⟩ := hq_1
  have hP : va_P K.1 mx_cl [(op, .inr (3, [.ref nm])), (nm, .inl (K.2.1.1, 262, .inr (.inl fn))), (li, .inr (4, [.int (nI lna), .int (nI lnz), .int lno, .int (nI lnp), .int (nI w_4), .ref t, .ref op])), (t, .inl (K.2.1.2.2.1, 1600, .inl f))] H := hP
  have hD : va_D A [(op, .inr (3, [.ref nm])), (nm, .inl (K.2.1.1, 262, .inr (.inl fn))), (li, .inr (4, [.int (nI lna), .int (nI lnz), .int lno, .int (nI lnp), .int (nI w_4), .ref t, .ref op])), (t, .inl (K.2.1.2.2.1, 1600, .inl f))] := hD
  refine W.cs (cells' := 0) (slots' := 0) rfl rfl ?_
  refine lv_aload_n hx hb d_Lin_read_6 rfl (lv_at hl 0 rfl) ?_
  refine lv_iload_n hx hb d_Lin_read_7 rfl (lv_at hl 1 rfl) ?_
  refine va_put (D := K.1) (ci := 4) (v := .int (nI a)) (ty := .int) (C := R_Lin) (T := T_Lin) (N := 7) hx hb hT in_Lin t_Lin t_Lin_ok n_Lin hown hK hP hD hS 2 rfl rfl 0 (by decide) (hT _ k_219) (fun _ h9 => h9) rfl (by decide +kernel) rfl rfl (Nat.le_of_ble_eq_true rfl) d_Lin_read_8 (fun H locs hP hD hS => ?_)
  have hP : va_P K.1 mx_cl [(op, .inr (3, [.ref nm])), (nm, .inl (K.2.1.1, 262, .inr (.inl fn))), (li, .inr (4, [.int (nI a), .int (nI lnz), .int lno, .int (nI lnp), .int (nI w_4), .ref t, .ref op])), (t, .inl (K.2.1.2.2.1, 1600, .inl f))] H := hP
  have hD : va_D A [(op, .inr (3, [.ref nm])), (nm, .inl (K.2.1.1, 262, .inr (.inl fn))), (li, .inr (4, [.int (nI a), .int (nI lnz), .int lno, .int (nI lnp), .int (nI w_4), .ref t, .ref op])), (t, .inl (K.2.1.2.2.1, 1600, .inl f))] := hD
  refine lv_aload_n hx hb d_Lin_read_11 rfl (lv_at hl 0 rfl) ?_
  refine lv_iconst (v := 0) hx hb d_Lin_read_12 (by decide) ?_
  refine va_put (D := K.1) (ci := 4) (v := .int 0) (ty := .int) (C := R_Lin) (T := T_Lin) (N := 7) hx hb hT in_Lin t_Lin t_Lin_ok n_Lin hown hK hP hD hS 2 rfl rfl 1 (by decide) (hT _ k_221) (fun _ h9 => h9) rfl (by decide +kernel) rfl rfl (Nat.le_of_ble_eq_true rfl) d_Lin_read_13 (fun H locs hP hD hS => ?_)
  have hP : va_P K.1 mx_cl [(op, .inr (3, [.ref nm])), (nm, .inl (K.2.1.1, 262, .inr (.inl fn))), (li, .inr (4, [.int (nI a), .int 0, .int lno, .int (nI lnp), .int (nI w_4), .ref t, .ref op])), (t, .inl (K.2.1.2.2.1, 1600, .inl f))] H := hP
  have hD : va_D A [(op, .inr (3, [.ref nm])), (nm, .inl (K.2.1.1, 262, .inr (.inl fn))), (li, .inr (4, [.int (nI a), .int 0, .int lno, .int (nI lnp), .int (nI w_4), .ref t, .ref op])), (t, .inl (K.2.1.2.2.1, 1600, .inl f))] := hD
  refine lv_aload_n hx hb d_Lin_read_16 rfl (lv_at hl 0 rfl) ?_
  refine lv_iconst (v := (-1)) hx hb d_Lin_read_17 (by decide) ?_
  refine va_put (D := K.1) (ci := 4) (v := .int (-1)) (ty := .int) (C := R_Lin) (T := T_Lin) (N := 7) hx hb hT in_Lin t_Lin t_Lin_ok n_Lin hown hK hP hD hS 2 rfl rfl 2 (by decide) (hT _ k_223) (fun _ h9 => h9) rfl (by decide +kernel) rfl rfl (Nat.le_of_ble_eq_true rfl) d_Lin_read_18 (fun H locs hP hD hS => ?_)
  have hP : va_P K.1 mx_cl [(op, .inr (3, [.ref nm])), (nm, .inl (K.2.1.1, 262, .inr (.inl fn))), (li, .inr (4, [.int (nI a), .int 0, .int (-1), .int (nI lnp), .int (nI w_4), .ref t, .ref op])), (t, .inl (K.2.1.2.2.1, 1600, .inl f))] H := hP
  have hD : va_D A [(op, .inr (3, [.ref nm])), (nm, .inl (K.2.1.1, 262, .inr (.inl fn))), (li, .inr (4, [.int (nI a), .int 0, .int (-1), .int (nI lnp), .int (nI w_4), .ref t, .ref op])), (t, .inl (K.2.1.2.2.1, 1600, .inl f))] := hD
  refine lv_aload_n hx hb d_Lin_read_21 rfl (lv_at hl 0 rfl) ?_
  refine lv_aload_n hx hb d_Lin_read_22 rfl (lv_at hl 0 rfl) ?_
  refine va_get (D := K.1) (ci := 4) (v := .int (nI w_4)) (C := R_Lin) (T := T_Lin) (N := 7) hx hb hT in_Lin hown hK hP 2 rfl rfl 4 (by decide) (hT _ k_227) (fun _ h9 => h9) rfl d_Lin_read_23 ?_
  refine va_put (D := K.1) (ci := 4) (v := .int (nI w_4)) (ty := .int) (C := R_Lin) (T := T_Lin) (N := 7) hx hb hT in_Lin t_Lin t_Lin_ok n_Lin hown hK hP hD hS 2 rfl rfl 3 (by decide) (hT _ k_225) (fun _ h9 => h9) rfl (by decide +kernel) rfl rfl (Nat.le_of_ble_eq_true rfl) d_Lin_read_26 (fun H locs hP hD hS => ?_)
  have hP : va_P K.1 mx_cl [(op, .inr (3, [.ref nm])), (nm, .inl (K.2.1.1, 262, .inr (.inl fn))), (li, .inr (4, [.int (nI a), .int 0, .int (-1), .int (nI w_4), .int (nI w_4), .ref t, .ref op])), (t, .inl (K.2.1.2.2.1, 1600, .inl f))] H := hP
  have hD : va_D A [(op, .inr (3, [.ref nm])), (nm, .inl (K.2.1.1, 262, .inr (.inl fn))), (li, .inr (4, [.int (nI a), .int 0, .int (-1), .int (nI w_4), .int (nI w_4), .ref t, .ref op])), (t, .inl (K.2.1.2.2.1, 1600, .inl f))] := hD
  refine lv_iload_n hx hb d_Lin_read_29 rfl (lv_at hl 1 rfl) ?_
  refine lv_aload_n hx hb d_Lin_read_30 rfl (lv_at hl 0 rfl) ?_
  refine va_get (D := K.1) (ci := 4) (v := .int (nI w_4)) (C := R_Lin) (T := T_Lin) (N := 7) hx hb hT in_Lin hown hK hP 2 rfl rfl 4 (by decide) (hT _ k_227) (fun _ h9 => h9) rfl d_Lin_read_31 ?_
  refine lv_icmp_eq (tgt := 60) hx hb d_Lin_read_34 (by decide) (fun h_8 => ?_) (fun h_8 => ?_)
  · have h_8n := mx_fEq (a := a) (b := w_4) (by omega) (by omega) h_8
    refine lv_iconst (v := 1) hx hb d_Lin_read_60 (by decide) ?_
    exact mx_ri F hr hlk (by decide) hP hD hS [(li, .inr (4, [.int (nI a), .int (nI 0), .int (-1 : Int32), .int (nI w_4), .int (nI w_4), .ref t, .ref op])), (t, .inl (K.2.1.2.2.1, 1600, .inl f)), (op, .inr (3, [.ref nm])), (nm, .inl (K.2.1.1, 262, .inr (.inl fn)))] [2, 3, 0, 1] rfl (by decide) ⟨(Or.inr rfl), ⟨a, 0, (-1 : Int32), w_4, w_4, (by first | assumption | omega | exact mx_ch_0), (by first | assumption | omega | exact mx_ch_0), (by first | assumption | omega | exact mx_ch_0), (by first | assumption | exact Or.inl rfl), rfl⟩⟩ (by decide) (by decide) d_Lin_read_61
  · have h_8n := mx_fNe (a := a) (b := w_4) (by omega) (by omega) h_8
    refine lv_aload_n hx hb d_Lin_read_37 rfl (lv_at hl 0 rfl) ?_
    refine va_get (D := K.1) (ci := 4) (v := .ref t) (C := R_Lin) (T := T_Lin) (N := 7) hx hb hT in_Lin hown hK hP 2 rfl rfl 5 (by decide) (hT _ k_217) (fun _ h9 => h9) rfl d_Lin_read_38 ?_
    refine lv_iload_n hx hb d_Lin_read_41 rfl (lv_at hl 1 rfl) ?_
    refine va_cald hx hb hK hP 3 2 rfl rfl (i := nI a) (vp_in_nI (n := a) (N := 1600) (by omega) (by decide)) d_Lin_read_42 ?_
    refine lv_topi (fun z_9 ez_9 => ?_)
    refine lv_bipush (v := 32) hx hb d_Lin_read_43 (by decide) ?_
    refine lv_icmp_eq (tgt := 62) hx hb d_Lin_read_45 (by decide) (fun h_10 => ?_) (fun h_10 => ?_)
    · refine lv_aload_n hx hb d_Lin_read_62 rfl (lv_at hl 0 rfl) ?_
      refine va_get (D := K.1) (ci := 4) (v := .ref t) (C := R_Lin) (T := T_Lin) (N := 7) hx hb hT in_Lin hown hK hP 2 rfl rfl 5 (by decide) (hT _ k_217) (fun _ h9 => h9) rfl d_Lin_read_63 ?_
      refine lv_iload_n hx hb d_Lin_read_66 rfl (lv_at hl 1 rfl) ?_
      refine va_cald hx hb hK hP 3 2 rfl rfl (i := nI a) (vp_in_nI (n := a) (N := 1600) (by omega) (by decide)) d_Lin_read_67 ?_
      refine lv_topi (fun z_11 ez_11 => ?_)
      refine mx_ci (wr := [(op, .inr (3, [.ref nm])), (nm, .inl (K.2.1.1, 262, .inr (.inl fn))), (li, .inr (4, [.int (nI a), .int 0, .int (-1), .int (nI w_4), .int (nI w_4), .ref t, .ref op])), (t, .inl (K.2.1.2.2.1, 1600, .inl f))]) F (mx_runS (As := [.int z_11]) (rest := []) (n := 1) F (s_Lin_isLetter l K z_11 H.size) k_434 (Or.inl k_432) k_433 k_7 p_Lin_isLetter rfl rfl hP hD hS [] rfl (by decide)  rfl hl.1 rfl (Nat.le_of_ble_eq_true rfl) ⟨by decide, by decide⟩ ⟨by decide, by decide⟩ d_Lin_read_68) hP hD hS [] [0, 1, 2, 3] rfl rfl (by decide) (by decide) (fun r_13 _ H locs hq_12 hP hD hS => ?_)
      obtain ⟨rb_14, hrb_14, rfl⟩ := mx_bool hq_12
      have hP : va_P K.1 mx_cl [(op, .inr (3, [.ref nm])), (nm, .inl (K.2.1.1, 262, .inr (.inl fn))), (li, .inr (4, [.int (nI a), .int 0, .int (-1), .int (nI w_4), .int (nI w_4), .ref t, .ref op])), (t, .inl (K.2.1.2.2.1, 1600, .inl f))] H := hP
      have hD : va_D A [(op, .inr (3, [.ref nm])), (nm, .inl (K.2.1.1, 262, .inr (.inl fn))), (li, .inr (4, [.int (nI a), .int 0, .int (-1), .int (nI w_4), .int (nI w_4), .ref t, .ref op])), (t, .inl (K.2.1.2.2.1, 1600, .inl f))] := hD
      refine W.cs (cells' := 0) (slots' := 0) rfl rfl ?_
      refine lv_if_eq (tgt := 89) hx hb d_Lin_read_71 (by decide) (fun h_15 => ?_) (fun h_15 => ?_)
      · have h_15n := mx_fEq (a := rb_14) (b := 0) (by omega) (by omega) h_15
        refine lv_iload_n hx hb d_Lin_read_89 rfl (lv_at hl 1 rfl) ?_
        refine lv_istore_n (lv' := [(3, .int (nI a)), (0, .ref li), (1, .int (nI a)), (2, .int (nI b))]) hx hb d_Lin_read_90 rfl hl (by decide) rfl (fun ls hl => ?_)
        refine lv_aload_n hx hb d_Lin_read_91 rfl (lv_at hl 1 rfl) ?_
        refine lv_iload_n hx hb d_Lin_read_92 rfl (lv_at hl 0 rfl) ?_
        refine lv_iload_n hx hb d_Lin_read_93 rfl (lv_at hl 2 rfl) ?_
        refine lv_isub hx hb d_Lin_read_94 ?_
        refine lv_topi (fun z_16 ez_16 => ?_)
        obtain rfl : z_16 = nI (a - a) := ez_16.trans (pk_sub (a := a) (b := a) (by omega))
        refine va_put (D := K.1) (ci := 4) (v := .int (nI (a - a))) (ty := .int) (C := R_Lin) (T := T_Lin) (N := 7) hx hb hT in_Lin t_Lin t_Lin_ok n_Lin hown hK hP hD hS 2 rfl rfl 1 (by decide) (hT _ k_221) (fun _ h9 => h9) rfl (by decide +kernel) rfl rfl (Nat.le_of_ble_eq_true rfl) d_Lin_read_95 (fun H locs hP hD hS => ?_)
        have hP : va_P K.1 mx_cl [(op, .inr (3, [.ref nm])), (nm, .inl (K.2.1.1, 262, .inr (.inl fn))), (li, .inr (4, [.int (nI a), .int (nI (a - a)), .int (-1), .int (nI w_4), .int (nI w_4), .ref t, .ref op])), (t, .inl (K.2.1.2.2.1, 1600, .inl f))] H := hP
        have hD : va_D A [(op, .inr (3, [.ref nm])), (nm, .inl (K.2.1.1, 262, .inr (.inl fn))), (li, .inr (4, [.int (nI a), .int (nI (a - a)), .int (-1), .int (nI w_4), .int (nI w_4), .ref t, .ref op])), (t, .inl (K.2.1.2.2.1, 1600, .inl f))] := hD
        refine lv_aload_n hx hb d_Lin_read_98 rfl (lv_at hl 1 rfl) ?_
        refine va_get (D := K.1) (ci := 4) (v := .int (nI (a - a))) (C := R_Lin) (T := T_Lin) (N := 7) hx hb hT in_Lin hown hK hP 2 rfl rfl 1 (by decide) (hT _ k_221) (fun _ h9 => h9) rfl d_Lin_read_99 ?_
        refine lv_bipush (v := 12) hx hb d_Lin_read_102 (by decide) ?_
        refine lv_icmp_gt (tgt := 126) hx hb d_Lin_read_104 (by decide) (fun h_17 => ?_) (fun h_17 => ?_)
        · have h_17n := mx_fLt (a := 12) (b := (a - a)) (by omega) (by omega) h_17
          refine lv_iconst (v := 0) hx hb d_Lin_read_126 (by decide) ?_
          exact mx_ri F hr hlk (by decide) hP hD hS [(li, .inr (4, [.int (nI a), .int (nI (a - a)), .int (-1 : Int32), .int (nI w_4), .int (nI w_4), .ref t, .ref op])), (t, .inl (K.2.1.2.2.1, 1600, .inl f)), (op, .inr (3, [.ref nm])), (nm, .inl (K.2.1.1, 262, .inr (.inl fn)))] [2, 3, 0, 1] rfl (by decide) ⟨(Or.inl rfl), ⟨a, (a - a), (-1 : Int32), w_4, w_4, (by first | assumption | omega | exact mx_ch_0), (by first | assumption | omega | exact mx_ch_0), (by first | assumption | omega | exact mx_ch_0), (by first | assumption | exact Or.inl rfl), rfl⟩⟩ (by decide) (by decide) d_Lin_read_127
        · have h_17n := mx_fNlt (a := 12) (b := (a - a)) (by omega) (by omega) h_17
          refine lv_iload_n hx hb d_Lin_read_107 rfl (lv_at hl 0 rfl) ?_
          refine lv_aload_n hx hb d_Lin_read_108 rfl (lv_at hl 1 rfl) ?_
          refine va_get (D := K.1) (ci := 4) (v := .int (nI w_4)) (C := R_Lin) (T := T_Lin) (N := 7) hx hb hT in_Lin hown hK hP 2 rfl rfl 4 (by decide) (hT _ k_227) (fun _ h9 => h9) rfl d_Lin_read_109 ?_
          refine lv_icmp_ge (tgt := 128) hx hb d_Lin_read_112 (by decide) (fun h_18 => ?_) (fun h_18 => ?_)
          · have h_18n := mx_fLe (a := w_4) (b := a) (by omega) (by omega) h_18
            refine lv_aload_n hx hb d_Lin_read_128 rfl (lv_at hl 1 rfl) ?_
            refine lv_iload_n hx hb d_Lin_read_129 rfl (lv_at hl 0 rfl) ?_
            refine mx_ci (wr := [(op, .inr (3, [.ref nm])), (nm, .inl (K.2.1.1, 262, .inr (.inl fn)))]) F (mx_runV (As := [.int (nI a)]) (rest := []) (n := 1) F (s_Lin_behindBlanks l K li a (-1) t op f a (a - a) w_4 w_4 H.size (by first | assumption | omega | exact mx_ch_0) (by first | assumption | omega | exact mx_ch_0)) k_444 (Or.inl k_441) k_443 sl_Lin_behindBlanks k_7 p_Lin_behindBlanks rfl rfl hP hD hS [2, 3] rfl (by decide) (va_recv (q := (R_Lin, T_Lin, 7)) (ci := 4) (q0 := 2) hK hP rfl rfl) rfl hl.1 rfl (Nat.le_of_ble_eq_true rfl) ⟨by decide, by decide⟩ ⟨by decide, by decide⟩ d_Lin_read_130) hP hD hS [2, 3] [0, 1] rfl rfl (by decide) (by decide) (fun r_20 _ H locs hq_19 hP hD hS => ?_)
            obtain ⟨rn_21, hf_22, hf_23, rfl⟩ := hq_19
            have hP : va_P K.1 mx_cl [(op, .inr (3, [.ref nm])), (nm, .inl (K.2.1.1, 262, .inr (.inl fn))), (li, .inr (4, [.int (nI a), .int (nI (a - a)), .int (-1), .int (nI w_4), .int (nI w_4), .ref t, .ref op])), (t, .inl (K.2.1.2.2.1, 1600, .inl f))] H := hP
            have hD : va_D A [(op, .inr (3, [.ref nm])), (nm, .inl (K.2.1.1, 262, .inr (.inl fn))), (li, .inr (4, [.int (nI a), .int (nI (a - a)), .int (-1), .int (nI w_4), .int (nI w_4), .ref t, .ref op])), (t, .inl (K.2.1.2.2.1, 1600, .inl f))] := hD
            refine W.cs (cells' := 0) (slots' := 0) rfl rfl ?_
            refine lv_istore_n (lv' := [(3, .int (nI rn_21)), (0, .ref li), (1, .int (nI a)), (2, .int (nI b))]) hx hb d_Lin_read_133 rfl hl (by decide) rfl (fun ls hl => ?_)
            refine lv_iload_n hx hb d_Lin_read_134 rfl (lv_at hl 0 rfl) ?_
            refine lv_aload_n hx hb d_Lin_read_135 rfl (lv_at hl 1 rfl) ?_
            refine va_get (D := K.1) (ci := 4) (v := .int (nI w_4)) (C := R_Lin) (T := T_Lin) (N := 7) hx hb hT in_Lin hown hK hP 2 rfl rfl 4 (by decide) (hT _ k_227) (fun _ h9 => h9) rfl d_Lin_read_136 ?_
            refine lv_icmp_ne (tgt := 155) hx hb d_Lin_read_139 (by decide) (fun h_24 => ?_) (fun h_24 => ?_)
            · have h_24n := mx_fNe (a := rn_21) (b := w_4) (by omega) (by omega) h_24
              refine lv_aload_n hx hb d_Lin_read_155 rfl (lv_at hl 1 rfl) ?_
              refine lv_iload_n hx hb d_Lin_read_156 rfl (lv_at hl 0 rfl) ?_
              refine mx_ci (wr := [(op, .inr (3, [.ref nm])), (nm, .inl (K.2.1.1, 262, .inr (.inl fn)))]) F (mx_runV (As := [.int (nI rn_21)]) (rest := []) (n := 1) F (s_Lin_blankFrom l K li rn_21 (-1) t op f a (a - a) w_4 w_4 H.size (by first | assumption | omega | exact mx_ch_0) (by first | assumption | omega | exact mx_ch_0)) k_448 (Or.inl k_445) k_447 sl_Lin_blankFrom k_7 p_Lin_blankFrom rfl rfl hP hD hS [2, 3] rfl (by decide) (va_recv (q := (R_Lin, T_Lin, 7)) (ci := 4) (q0 := 2) hK hP rfl rfl) rfl hl.1 rfl (Nat.le_of_ble_eq_true rfl) ⟨by decide, by decide⟩ ⟨by decide, by decide⟩ d_Lin_read_157) hP hD hS [2, 3] [0, 1] rfl rfl (by decide) (by decide) (fun r_26 _ H locs hq_25 hP hD hS => ?_)
              obtain ⟨rn_27, hf_28, hf_29, rfl⟩ := hq_25
              have hP : va_P K.1 mx_cl [(op, .inr (3, [.ref nm])), (nm, .inl (K.2.1.1, 262, .inr (.inl fn))), (li, .inr (4, [.int (nI a), .int (nI (a - a)), .int (-1), .int (nI w_4), .int (nI w_4), .ref t, .ref op])), (t, .inl (K.2.1.2.2.1, 1600, .inl f))] H := hP
              have hD : va_D A [(op, .inr (3, [.ref nm])), (nm, .inl (K.2.1.1, 262, .inr (.inl fn))), (li, .inr (4, [.int (nI a), .int (nI (a - a)), .int (-1), .int (nI w_4), .int (nI w_4), .ref t, .ref op])), (t, .inl (K.2.1.2.2.1, 1600, .inl f))] := hD
              refine W.cs (cells' := 0) (slots' := 0) rfl rfl ?_
              refine lv_istore (lv' := [(4, .int (nI rn_27)), (3, .int (nI rn_21)), (0, .ref li), (1, .int (nI a)), (2, .int (nI b))]) hx hb d_Lin_read_160 hl (by decide) rfl (fun ls hl => ?_)
              refine lv_aload_n hx hb d_Lin_read_162 rfl (lv_at hl 2 rfl) ?_
              refine lv_aload_n hx hb d_Lin_read_163 rfl (lv_at hl 2 rfl) ?_
              refine va_get (D := K.1) (ci := 4) (v := .ref op) (C := R_Lin) (T := T_Lin) (N := 7) hx hb hT in_Lin hown hK hP 2 rfl rfl 6 (by decide) (hT _ k_218) (fun _ h9 => h9) rfl d_Lin_read_164 ?_
              refine lv_aload_n hx hb d_Lin_read_167 rfl (lv_at hl 2 rfl) ?_
              refine va_get (D := K.1) (ci := 4) (v := .ref t) (C := R_Lin) (T := T_Lin) (N := 7) hx hb hT in_Lin hown hK hP 2 rfl rfl 5 (by decide) (hT _ k_217) (fun _ h9 => h9) rfl d_Lin_read_168 ?_
              refine lv_iload_n hx hb d_Lin_read_171 rfl (lv_at hl 1 rfl) ?_
              refine lv_iload hx hb d_Lin_read_172 (lv_at hl 0 rfl) ?_
              refine mx_ci (wr := [(li, .inr (4, [.int (nI a), .int (nI (a - a)), .int (-1), .int (nI w_4), .int (nI w_4), .ref t, .ref op]))]) F (mx_runV (As := [.ref t, .int (nI rn_21), .int (nI rn_27)]) (rest := [.ref li]) (n := 3) F (s_Opn_find l K op t rn_21 rn_27 nm fn f H.size (by first | assumption | omega | exact mx_ch_0) (by first | assumption | omega | exact mx_ch_0)) k_452 (Or.inl k_449) k_450 k_451 k_8 p_Opn_find rfl rfl hP hD hS [0, 1, 3] rfl (by decide) (va_recv (q := (R_Opn, T_Opn, 1)) (ci := 3) (q0 := 0) hK hP rfl rfl) rfl hl.1 rfl (Nat.le_of_ble_eq_true rfl) ⟨by decide, by decide⟩ ⟨by decide, by decide⟩ d_Lin_read_174) hP hD hS [0, 1, 3] [2] rfl rfl (by decide) (by decide) (fun r_31 _ H locs hq_30 hP hD hS => ?_)
              have hP : va_P K.1 mx_cl [(li, .inr (4, [.int (nI a), .int (nI (a - a)), .int (-1), .int (nI w_4), .int (nI w_4), .ref t, .ref op])), (op, .inr (3, [.ref nm])), (nm, .inl (K.2.1.1, 262, .inr (.inl fn))), (t, .inl (K.2.1.2.2.1, 1600, .inl f))] H := hP
              have hD : va_D A [(li, .inr (4, [.int (nI a), .int (nI (a - a)), .int (-1), .int (nI w_4), .int (nI w_4), .ref t, .ref op])), (op, .inr (3, [.ref nm])), (nm, .inl (K.2.1.1, 262, .inr (.inl fn))), (t, .inl (K.2.1.2.2.1, 1600, .inl f))] := hD
              refine W.cs (cells' := 0) (slots' := 0) rfl rfl ?_
              have hopq := hq_30
              refine va_put (D := K.1) (ci := 4) (v := .int r_31) (ty := .int) (C := R_Lin) (T := T_Lin) (N := 7) hx hb hT in_Lin t_Lin t_Lin_ok n_Lin hown hK hP hD hS 0 rfl rfl 2 (by decide) (hT _ k_223) (fun _ h9 => h9) rfl (by decide +kernel) rfl rfl (Nat.le_of_ble_eq_true rfl) d_Lin_read_177 (fun H locs hP hD hS => ?_)
              have hP : va_P K.1 mx_cl [(li, .inr (4, [.int (nI a), .int (nI (a - a)), .int r_31, .int (nI w_4), .int (nI w_4), .ref t, .ref op])), (op, .inr (3, [.ref nm])), (nm, .inl (K.2.1.1, 262, .inr (.inl fn))), (t, .inl (K.2.1.2.2.1, 1600, .inl f))] H := hP
              have hD : va_D A [(li, .inr (4, [.int (nI a), .int (nI (a - a)), .int r_31, .int (nI w_4), .int (nI w_4), .ref t, .ref op])), (op, .inr (3, [.ref nm])), (nm, .inl (K.2.1.1, 262, .inr (.inl fn))), (t, .inl (K.2.1.2.2.1, 1600, .inl f))] := hD
              refine lv_aload_n hx hb d_Lin_read_180 rfl (lv_at hl 2 rfl) ?_
              refine lv_aload_n hx hb d_Lin_read_181 rfl (lv_at hl 2 rfl) ?_
              refine lv_iload hx hb d_Lin_read_182 (lv_at hl 0 rfl) ?_
              refine mx_ci (wr := [(op, .inr (3, [.ref nm])), (nm, .inl (K.2.1.1, 262, .inr (.inl fn)))]) F (mx_runV (As := [.int (nI rn_27)]) (rest := [.ref li]) (n := 1) F (s_Lin_behindBlanks l K li rn_27 r_31 t op f a (a - a) w_4 w_4 H.size (by first | assumption | omega | exact mx_ch_0) (by first | assumption | omega | exact mx_ch_0)) k_444 (Or.inl k_441) k_443 sl_Lin_behindBlanks k_7 p_Lin_behindBlanks rfl rfl hP hD hS [0, 3] rfl (by decide) (va_recv (q := (R_Lin, T_Lin, 7)) (ci := 4) (q0 := 0) hK hP rfl rfl) rfl hl.1 rfl (Nat.le_of_ble_eq_true rfl) ⟨by decide, by decide⟩ ⟨by decide, by decide⟩ d_Lin_read_184) hP hD hS [0, 3] [1, 2] rfl rfl (by decide) (by decide) (fun r_33 _ H locs hq_32 hP hD hS => ?_)
              obtain ⟨rn_34, hf_35, hf_36, rfl⟩ := hq_32
              have hP : va_P K.1 mx_cl [(op, .inr (3, [.ref nm])), (nm, .inl (K.2.1.1, 262, .inr (.inl fn))), (li, .inr (4, [.int (nI a), .int (nI (a - a)), .int r_31, .int (nI w_4), .int (nI w_4), .ref t, .ref op])), (t, .inl (K.2.1.2.2.1, 1600, .inl f))] H := hP
              have hD : va_D A [(op, .inr (3, [.ref nm])), (nm, .inl (K.2.1.1, 262, .inr (.inl fn))), (li, .inr (4, [.int (nI a), .int (nI (a - a)), .int r_31, .int (nI w_4), .int (nI w_4), .ref t, .ref op])), (t, .inl (K.2.1.2.2.1, 1600, .inl f))] := hD
              refine W.cs (cells' := 0) (slots' := 0) rfl rfl ?_
              refine va_put (D := K.1) (ci := 4) (v := .int (nI rn_34)) (ty := .int) (C := R_Lin) (T := T_Lin) (N := 7) hx hb hT in_Lin t_Lin t_Lin_ok n_Lin hown hK hP hD hS 2 rfl rfl 3 (by decide) (hT _ k_225) (fun _ h9 => h9) rfl (by decide +kernel) rfl rfl (Nat.le_of_ble_eq_true rfl) d_Lin_read_187 (fun H locs hP hD hS => ?_)
              have hP : va_P K.1 mx_cl [(op, .inr (3, [.ref nm])), (nm, .inl (K.2.1.1, 262, .inr (.inl fn))), (li, .inr (4, [.int (nI a), .int (nI (a - a)), .int r_31, .int (nI rn_34), .int (nI w_4), .ref t, .ref op])), (t, .inl (K.2.1.2.2.1, 1600, .inl f))] H := hP
              have hD : va_D A [(op, .inr (3, [.ref nm])), (nm, .inl (K.2.1.1, 262, .inr (.inl fn))), (li, .inr (4, [.int (nI a), .int (nI (a - a)), .int r_31, .int (nI rn_34), .int (nI w_4), .ref t, .ref op])), (t, .inl (K.2.1.2.2.1, 1600, .inl f))] := hD
              refine lv_aload_n hx hb d_Lin_read_190 rfl (lv_at hl 2 rfl) ?_
              refine va_get (D := K.1) (ci := 4) (v := .int r_31) (C := R_Lin) (T := T_Lin) (N := 7) hx hb hT in_Lin hown hK hP 2 rfl rfl 2 (by decide) (hT _ k_223) (fun _ h9 => h9) rfl d_Lin_read_191 ?_
              refine lv_iconst (v := (-1)) hx hb d_Lin_read_194 (by decide) ?_
              refine lv_icmp_eq (tgt := 202) hx hb d_Lin_read_195 (by decide) (fun h_37 => ?_) (fun h_37 => ?_)
              · refine lv_iconst (v := 0) hx hb d_Lin_read_202 (by decide) ?_
                exact mx_ri F hr hlk (by decide) hP hD hS [(li, .inr (4, [.int (nI a), .int (nI (a - a)), .int r_31, .int (nI rn_34), .int (nI w_4), .ref t, .ref op])), (t, .inl (K.2.1.2.2.1, 1600, .inl f)), (op, .inr (3, [.ref nm])), (nm, .inl (K.2.1.1, 262, .inr (.inl fn)))] [2, 3, 0, 1] rfl (by decide) ⟨(Or.inl rfl), ⟨a, (a - a), r_31, rn_34, w_4, (by first | assumption | omega | exact mx_ch_0), (by first | assumption | omega | exact mx_ch_0), (by first | assumption | omega | exact mx_ch_0), (by first | assumption | exact Or.inl rfl), rfl⟩⟩ (by decide) (by decide) d_Lin_read_203
              · refine lv_iconst (v := 1) hx hb d_Lin_read_198 (by decide) ?_
                refine lv_goto (tgt := 203) hx hb d_Lin_read_199 (by decide) ?_
                exact mx_ri F hr hlk (by decide) hP hD hS [(li, .inr (4, [.int (nI a), .int (nI (a - a)), .int r_31, .int (nI rn_34), .int (nI w_4), .ref t, .ref op])), (t, .inl (K.2.1.2.2.1, 1600, .inl f)), (op, .inr (3, [.ref nm])), (nm, .inl (K.2.1.1, 262, .inr (.inl fn)))] [2, 3, 0, 1] rfl (by decide) ⟨(Or.inr rfl), ⟨a, (a - a), r_31, rn_34, w_4, (by first | assumption | omega | exact mx_ch_0), (by first | assumption | omega | exact mx_ch_0), (by first | assumption | omega | exact mx_ch_0), (by first | assumption | exact Or.inl rfl), rfl⟩⟩ (by decide) (by decide) d_Lin_read_203
            · have h_24n := mx_fEq (a := rn_21) (b := w_4) (by omega) (by omega) h_24
              refine lv_aload_n hx hb d_Lin_read_142 rfl (lv_at hl 1 rfl) ?_
              refine va_get (D := K.1) (ci := 4) (v := .int (nI (a - a))) (C := R_Lin) (T := T_Lin) (N := 7) hx hb hT in_Lin hown hK hP 2 rfl rfl 1 (by decide) (hT _ k_221) (fun _ h9 => h9) rfl d_Lin_read_143 ?_
              refine lv_if_ne (tgt := 153) hx hb d_Lin_read_146 (by decide) (fun h_38 => ?_) (fun h_38 => ?_)
              · have h_38n := mx_fNe (a := (a - a)) (b := 0) (by omega) (by omega) h_38
                refine lv_iconst (v := 0) hx hb d_Lin_read_153 (by decide) ?_
                exact mx_ri F hr hlk (by decide) hP hD hS [(li, .inr (4, [.int (nI a), .int (nI (a - a)), .int (-1 : Int32), .int (nI w_4), .int (nI w_4), .ref t, .ref op])), (t, .inl (K.2.1.2.2.1, 1600, .inl f)), (op, .inr (3, [.ref nm])), (nm, .inl (K.2.1.1, 262, .inr (.inl fn)))] [2, 3, 0, 1] rfl (by decide) ⟨(Or.inl rfl), ⟨a, (a - a), (-1 : Int32), w_4, w_4, (by first | assumption | omega | exact mx_ch_0), (by first | assumption | omega | exact mx_ch_0), (by first | assumption | omega | exact mx_ch_0), (by first | assumption | exact Or.inl rfl), rfl⟩⟩ (by decide) (by decide) d_Lin_read_154
              · have h_38n := mx_fEq (a := (a - a)) (b := 0) (by omega) (by omega) h_38
                refine lv_iconst (v := 1) hx hb d_Lin_read_149 (by decide) ?_
                refine lv_goto (tgt := 154) hx hb d_Lin_read_150 (by decide) ?_
                exact mx_ri F hr hlk (by decide) hP hD hS [(li, .inr (4, [.int (nI a), .int (nI (a - a)), .int (-1 : Int32), .int (nI w_4), .int (nI w_4), .ref t, .ref op])), (t, .inl (K.2.1.2.2.1, 1600, .inl f)), (op, .inr (3, [.ref nm])), (nm, .inl (K.2.1.1, 262, .inr (.inl fn)))] [2, 3, 0, 1] rfl (by decide) ⟨(Or.inr rfl), ⟨a, (a - a), (-1 : Int32), w_4, w_4, (by first | assumption | omega | exact mx_ch_0), (by first | assumption | omega | exact mx_ch_0), (by first | assumption | omega | exact mx_ch_0), (by first | assumption | exact Or.inl rfl), rfl⟩⟩ (by decide) (by decide) d_Lin_read_154
          · have h_18n := mx_fNle (a := w_4) (b := a) (by omega) (by omega) h_18
            refine lv_aload_n hx hb d_Lin_read_115 rfl (lv_at hl 1 rfl) ?_
            refine va_get (D := K.1) (ci := 4) (v := .ref t) (C := R_Lin) (T := T_Lin) (N := 7) hx hb hT in_Lin hown hK hP 2 rfl rfl 5 (by decide) (hT _ k_217) (fun _ h9 => h9) rfl d_Lin_read_116 ?_
            refine lv_iload_n hx hb d_Lin_read_119 rfl (lv_at hl 0 rfl) ?_
            refine va_cald hx hb hK hP 3 2 rfl rfl (i := nI a) (vp_in_nI (n := a) (N := 1600) (by omega) (by decide)) d_Lin_read_120 ?_
            refine lv_topi (fun z_39 ez_39 => ?_)
            refine lv_bipush (v := 32) hx hb d_Lin_read_121 (by decide) ?_
            refine lv_icmp_eq (tgt := 128) hx hb d_Lin_read_123 (by decide) (fun h_40 => ?_) (fun h_40 => ?_)
            · refine lv_aload_n hx hb d_Lin_read_128 rfl (lv_at hl 1 rfl) ?_
              refine lv_iload_n hx hb d_Lin_read_129 rfl (lv_at hl 0 rfl) ?_
              refine mx_ci (wr := [(op, .inr (3, [.ref nm])), (nm, .inl (K.2.1.1, 262, .inr (.inl fn)))]) F (mx_runV (As := [.int (nI a)]) (rest := []) (n := 1) F (s_Lin_behindBlanks l K li a (-1) t op f a (a - a) w_4 w_4 H.size (by first | assumption | omega | exact mx_ch_0) (by first | assumption | omega | exact mx_ch_0)) k_444 (Or.inl k_441) k_443 sl_Lin_behindBlanks k_7 p_Lin_behindBlanks rfl rfl hP hD hS [2, 3] rfl (by decide) (va_recv (q := (R_Lin, T_Lin, 7)) (ci := 4) (q0 := 2) hK hP rfl rfl) rfl hl.1 rfl (Nat.le_of_ble_eq_true rfl) ⟨by decide, by decide⟩ ⟨by decide, by decide⟩ d_Lin_read_130) hP hD hS [2, 3] [0, 1] rfl rfl (by decide) (by decide) (fun r_42 _ H locs hq_41 hP hD hS => ?_)
              obtain ⟨rn_43, hf_44, hf_45, rfl⟩ := hq_41
              have hP : va_P K.1 mx_cl [(op, .inr (3, [.ref nm])), (nm, .inl (K.2.1.1, 262, .inr (.inl fn))), (li, .inr (4, [.int (nI a), .int (nI (a - a)), .int (-1), .int (nI w_4), .int (nI w_4), .ref t, .ref op])), (t, .inl (K.2.1.2.2.1, 1600, .inl f))] H := hP
              have hD : va_D A [(op, .inr (3, [.ref nm])), (nm, .inl (K.2.1.1, 262, .inr (.inl fn))), (li, .inr (4, [.int (nI a), .int (nI (a - a)), .int (-1), .int (nI w_4), .int (nI w_4), .ref t, .ref op])), (t, .inl (K.2.1.2.2.1, 1600, .inl f))] := hD
              refine W.cs (cells' := 0) (slots' := 0) rfl rfl ?_
              refine lv_istore_n (lv' := [(3, .int (nI rn_43)), (0, .ref li), (1, .int (nI a)), (2, .int (nI b))]) hx hb d_Lin_read_133 rfl hl (by decide) rfl (fun ls hl => ?_)
              refine lv_iload_n hx hb d_Lin_read_134 rfl (lv_at hl 0 rfl) ?_
              refine lv_aload_n hx hb d_Lin_read_135 rfl (lv_at hl 1 rfl) ?_
              refine va_get (D := K.1) (ci := 4) (v := .int (nI w_4)) (C := R_Lin) (T := T_Lin) (N := 7) hx hb hT in_Lin hown hK hP 2 rfl rfl 4 (by decide) (hT _ k_227) (fun _ h9 => h9) rfl d_Lin_read_136 ?_
              refine lv_icmp_ne (tgt := 155) hx hb d_Lin_read_139 (by decide) (fun h_46 => ?_) (fun h_46 => ?_)
              · have h_46n := mx_fNe (a := rn_43) (b := w_4) (by omega) (by omega) h_46
                refine lv_aload_n hx hb d_Lin_read_155 rfl (lv_at hl 1 rfl) ?_
                refine lv_iload_n hx hb d_Lin_read_156 rfl (lv_at hl 0 rfl) ?_
                refine mx_ci (wr := [(op, .inr (3, [.ref nm])), (nm, .inl (K.2.1.1, 262, .inr (.inl fn)))]) F (mx_runV (As := [.int (nI rn_43)]) (rest := []) (n := 1) F (s_Lin_blankFrom l K li rn_43 (-1) t op f a (a - a) w_4 w_4 H.size (by first | assumption | omega | exact mx_ch_0) (by first | assumption | omega | exact mx_ch_0)) k_448 (Or.inl k_445) k_447 sl_Lin_blankFrom k_7 p_Lin_blankFrom rfl rfl hP hD hS [2, 3] rfl (by decide) (va_recv (q := (R_Lin, T_Lin, 7)) (ci := 4) (q0 := 2) hK hP rfl rfl) rfl hl.1 rfl (Nat.le_of_ble_eq_true rfl) ⟨by decide, by decide⟩ ⟨by decide, by decide⟩ d_Lin_read_157) hP hD hS [2, 3] [0, 1] rfl rfl (by decide) (by decide) (fun r_48 _ H locs hq_47 hP hD hS => ?_)
                obtain ⟨rn_49, hf_50, hf_51, rfl⟩ := hq_47
                have hP : va_P K.1 mx_cl [(op, .inr (3, [.ref nm])), (nm, .inl (K.2.1.1, 262, .inr (.inl fn))), (li, .inr (4, [.int (nI a), .int (nI (a - a)), .int (-1), .int (nI w_4), .int (nI w_4), .ref t, .ref op])), (t, .inl (K.2.1.2.2.1, 1600, .inl f))] H := hP
                have hD : va_D A [(op, .inr (3, [.ref nm])), (nm, .inl (K.2.1.1, 262, .inr (.inl fn))), (li, .inr (4, [.int (nI a), .int (nI (a - a)), .int (-1), .int (nI w_4), .int (nI w_4), .ref t, .ref op])), (t, .inl (K.2.1.2.2.1, 1600, .inl f))] := hD
                refine W.cs (cells' := 0) (slots' := 0) rfl rfl ?_
                refine lv_istore (lv' := [(4, .int (nI rn_49)), (3, .int (nI rn_43)), (0, .ref li), (1, .int (nI a)), (2, .int (nI b))]) hx hb d_Lin_read_160 hl (by decide) rfl (fun ls hl => ?_)
                refine lv_aload_n hx hb d_Lin_read_162 rfl (lv_at hl 2 rfl) ?_
                refine lv_aload_n hx hb d_Lin_read_163 rfl (lv_at hl 2 rfl) ?_
                refine va_get (D := K.1) (ci := 4) (v := .ref op) (C := R_Lin) (T := T_Lin) (N := 7) hx hb hT in_Lin hown hK hP 2 rfl rfl 6 (by decide) (hT _ k_218) (fun _ h9 => h9) rfl d_Lin_read_164 ?_
                refine lv_aload_n hx hb d_Lin_read_167 rfl (lv_at hl 2 rfl) ?_
                refine va_get (D := K.1) (ci := 4) (v := .ref t) (C := R_Lin) (T := T_Lin) (N := 7) hx hb hT in_Lin hown hK hP 2 rfl rfl 5 (by decide) (hT _ k_217) (fun _ h9 => h9) rfl d_Lin_read_168 ?_
                refine lv_iload_n hx hb d_Lin_read_171 rfl (lv_at hl 1 rfl) ?_
                refine lv_iload hx hb d_Lin_read_172 (lv_at hl 0 rfl) ?_
                refine mx_ci (wr := [(li, .inr (4, [.int (nI a), .int (nI (a - a)), .int (-1), .int (nI w_4), .int (nI w_4), .ref t, .ref op]))]) F (mx_runV (As := [.ref t, .int (nI rn_43), .int (nI rn_49)]) (rest := [.ref li]) (n := 3) F (s_Opn_find l K op t rn_43 rn_49 nm fn f H.size (by first | assumption | omega | exact mx_ch_0) (by first | assumption | omega | exact mx_ch_0)) k_452 (Or.inl k_449) k_450 k_451 k_8 p_Opn_find rfl rfl hP hD hS [0, 1, 3] rfl (by decide) (va_recv (q := (R_Opn, T_Opn, 1)) (ci := 3) (q0 := 0) hK hP rfl rfl) rfl hl.1 rfl (Nat.le_of_ble_eq_true rfl) ⟨by decide, by decide⟩ ⟨by decide, by decide⟩ d_Lin_read_174) hP hD hS [0, 1, 3] [2] rfl rfl (by decide) (by decide) (fun r_53 _ H locs hq_52 hP hD hS => ?_)
                have hP : va_P K.1 mx_cl [(li, .inr (4, [.int (nI a), .int (nI (a - a)), .int (-1), .int (nI w_4), .int (nI w_4), .ref t, .ref op])), (op, .inr (3, [.ref nm])), (nm, .inl (K.2.1.1, 262, .inr (.inl fn))), (t, .inl (K.2.1.2.2.1, 1600, .inl f))] H := hP
                have hD : va_D A [(li, .inr (4, [.int (nI a), .int (nI (a - a)), .int (-1), .int (nI w_4), .int (nI w_4), .ref t, .ref op])), (op, .inr (3, [.ref nm])), (nm, .inl (K.2.1.1, 262, .inr (.inl fn))), (t, .inl (K.2.1.2.2.1, 1600, .inl f))] := hD
                refine W.cs (cells' := 0) (slots' := 0) rfl rfl ?_
                have hopq := hq_52
                refine va_put (D := K.1) (ci := 4) (v := .int r_53) (ty := .int) (C := R_Lin) (T := T_Lin) (N := 7) hx hb hT in_Lin t_Lin t_Lin_ok n_Lin hown hK hP hD hS 0 rfl rfl 2 (by decide) (hT _ k_223) (fun _ h9 => h9) rfl (by decide +kernel) rfl rfl (Nat.le_of_ble_eq_true rfl) d_Lin_read_177 (fun H locs hP hD hS => ?_)
                have hP : va_P K.1 mx_cl [(li, .inr (4, [.int (nI a), .int (nI (a - a)), .int r_53, .int (nI w_4), .int (nI w_4), .ref t, .ref op])), (op, .inr (3, [.ref nm])), (nm, .inl (K.2.1.1, 262, .inr (.inl fn))), (t, .inl (K.2.1.2.2.1, 1600, .inl f))] H := hP
                have hD : va_D A [(li, .inr (4, [.int (nI a), .int (nI (a - a)), .int r_53, .int (nI w_4), .int (nI w_4), .ref t, .ref op])), (op, .inr (3, [.ref nm])), (nm, .inl (K.2.1.1, 262, .inr (.inl fn))), (t, .inl (K.2.1.2.2.1, 1600, .inl f))] := hD
                refine lv_aload_n hx hb d_Lin_read_180 rfl (lv_at hl 2 rfl) ?_
                refine lv_aload_n hx hb d_Lin_read_181 rfl (lv_at hl 2 rfl) ?_
                refine lv_iload hx hb d_Lin_read_182 (lv_at hl 0 rfl) ?_
                refine mx_ci (wr := [(op, .inr (3, [.ref nm])), (nm, .inl (K.2.1.1, 262, .inr (.inl fn)))]) F (mx_runV (As := [.int (nI rn_49)]) (rest := [.ref li]) (n := 1) F (s_Lin_behindBlanks l K li rn_49 r_53 t op f a (a - a) w_4 w_4 H.size (by first | assumption | omega | exact mx_ch_0) (by first | assumption | omega | exact mx_ch_0)) k_444 (Or.inl k_441) k_443 sl_Lin_behindBlanks k_7 p_Lin_behindBlanks rfl rfl hP hD hS [0, 3] rfl (by decide) (va_recv (q := (R_Lin, T_Lin, 7)) (ci := 4) (q0 := 0) hK hP rfl rfl) rfl hl.1 rfl (Nat.le_of_ble_eq_true rfl) ⟨by decide, by decide⟩ ⟨by decide, by decide⟩ d_Lin_read_184) hP hD hS [0, 3] [1, 2] rfl rfl (by decide) (by decide) (fun r_55 _ H locs hq_54 hP hD hS => ?_)
                obtain ⟨rn_56, hf_57, hf_58, rfl⟩ := hq_54
                have hP : va_P K.1 mx_cl [(op, .inr (3, [.ref nm])), (nm, .inl (K.2.1.1, 262, .inr (.inl fn))), (li, .inr (4, [.int (nI a), .int (nI (a - a)), .int r_53, .int (nI w_4), .int (nI w_4), .ref t, .ref op])), (t, .inl (K.2.1.2.2.1, 1600, .inl f))] H := hP
                have hD : va_D A [(op, .inr (3, [.ref nm])), (nm, .inl (K.2.1.1, 262, .inr (.inl fn))), (li, .inr (4, [.int (nI a), .int (nI (a - a)), .int r_53, .int (nI w_4), .int (nI w_4), .ref t, .ref op])), (t, .inl (K.2.1.2.2.1, 1600, .inl f))] := hD
                refine W.cs (cells' := 0) (slots' := 0) rfl rfl ?_
                refine va_put (D := K.1) (ci := 4) (v := .int (nI rn_56)) (ty := .int) (C := R_Lin) (T := T_Lin) (N := 7) hx hb hT in_Lin t_Lin t_Lin_ok n_Lin hown hK hP hD hS 2 rfl rfl 3 (by decide) (hT _ k_225) (fun _ h9 => h9) rfl (by decide +kernel) rfl rfl (Nat.le_of_ble_eq_true rfl) d_Lin_read_187 (fun H locs hP hD hS => ?_)
                have hP : va_P K.1 mx_cl [(op, .inr (3, [.ref nm])), (nm, .inl (K.2.1.1, 262, .inr (.inl fn))), (li, .inr (4, [.int (nI a), .int (nI (a - a)), .int r_53, .int (nI rn_56), .int (nI w_4), .ref t, .ref op])), (t, .inl (K.2.1.2.2.1, 1600, .inl f))] H := hP
                have hD : va_D A [(op, .inr (3, [.ref nm])), (nm, .inl (K.2.1.1, 262, .inr (.inl fn))), (li, .inr (4, [.int (nI a), .int (nI (a - a)), .int r_53, .int (nI rn_56), .int (nI w_4), .ref t, .ref op])), (t, .inl (K.2.1.2.2.1, 1600, .inl f))] := hD
                refine lv_aload_n hx hb d_Lin_read_190 rfl (lv_at hl 2 rfl) ?_
                refine va_get (D := K.1) (ci := 4) (v := .int r_53) (C := R_Lin) (T := T_Lin) (N := 7) hx hb hT in_Lin hown hK hP 2 rfl rfl 2 (by decide) (hT _ k_223) (fun _ h9 => h9) rfl d_Lin_read_191 ?_
                refine lv_iconst (v := (-1)) hx hb d_Lin_read_194 (by decide) ?_
                refine lv_icmp_eq (tgt := 202) hx hb d_Lin_read_195 (by decide) (fun h_59 => ?_) (fun h_59 => ?_)
                · refine lv_iconst (v := 0) hx hb d_Lin_read_202 (by decide) ?_
                  exact mx_ri F hr hlk (by decide) hP hD hS [(li, .inr (4, [.int (nI a), .int (nI (a - a)), .int r_53, .int (nI rn_56), .int (nI w_4), .ref t, .ref op])), (t, .inl (K.2.1.2.2.1, 1600, .inl f)), (op, .inr (3, [.ref nm])), (nm, .inl (K.2.1.1, 262, .inr (.inl fn)))] [2, 3, 0, 1] rfl (by decide) ⟨(Or.inl rfl), ⟨a, (a - a), r_53, rn_56, w_4, (by first | assumption | omega | exact mx_ch_0), (by first | assumption | omega | exact mx_ch_0), (by first | assumption | omega | exact mx_ch_0), (by first | assumption | exact Or.inl rfl), rfl⟩⟩ (by decide) (by decide) d_Lin_read_203
                · refine lv_iconst (v := 1) hx hb d_Lin_read_198 (by decide) ?_
                  refine lv_goto (tgt := 203) hx hb d_Lin_read_199 (by decide) ?_
                  exact mx_ri F hr hlk (by decide) hP hD hS [(li, .inr (4, [.int (nI a), .int (nI (a - a)), .int r_53, .int (nI rn_56), .int (nI w_4), .ref t, .ref op])), (t, .inl (K.2.1.2.2.1, 1600, .inl f)), (op, .inr (3, [.ref nm])), (nm, .inl (K.2.1.1, 262, .inr (.inl fn)))] [2, 3, 0, 1] rfl (by decide) ⟨(Or.inr rfl), ⟨a, (a - a), r_53, rn_56, w_4, (by first | assumption | omega | exact mx_ch_0), (by first | assumption | omega | exact mx_ch_0), (by first | assumption | omega | exact mx_ch_0), (by first | assumption | exact Or.inl rfl), rfl⟩⟩ (by decide) (by decide) d_Lin_read_203
              · have h_46n := mx_fEq (a := rn_43) (b := w_4) (by omega) (by omega) h_46
                refine lv_aload_n hx hb d_Lin_read_142 rfl (lv_at hl 1 rfl) ?_
                refine va_get (D := K.1) (ci := 4) (v := .int (nI (a - a))) (C := R_Lin) (T := T_Lin) (N := 7) hx hb hT in_Lin hown hK hP 2 rfl rfl 1 (by decide) (hT _ k_221) (fun _ h9 => h9) rfl d_Lin_read_143 ?_
                refine lv_if_ne (tgt := 153) hx hb d_Lin_read_146 (by decide) (fun h_60 => ?_) (fun h_60 => ?_)
                · have h_60n := mx_fNe (a := (a - a)) (b := 0) (by omega) (by omega) h_60
                  refine lv_iconst (v := 0) hx hb d_Lin_read_153 (by decide) ?_
                  exact mx_ri F hr hlk (by decide) hP hD hS [(li, .inr (4, [.int (nI a), .int (nI (a - a)), .int (-1 : Int32), .int (nI w_4), .int (nI w_4), .ref t, .ref op])), (t, .inl (K.2.1.2.2.1, 1600, .inl f)), (op, .inr (3, [.ref nm])), (nm, .inl (K.2.1.1, 262, .inr (.inl fn)))] [2, 3, 0, 1] rfl (by decide) ⟨(Or.inl rfl), ⟨a, (a - a), (-1 : Int32), w_4, w_4, (by first | assumption | omega | exact mx_ch_0), (by first | assumption | omega | exact mx_ch_0), (by first | assumption | omega | exact mx_ch_0), (by first | assumption | exact Or.inl rfl), rfl⟩⟩ (by decide) (by decide) d_Lin_read_154
                · have h_60n := mx_fEq (a := (a - a)) (b := 0) (by omega) (by omega) h_60
                  refine lv_iconst (v := 1) hx hb d_Lin_read_149 (by decide) ?_
                  refine lv_goto (tgt := 154) hx hb d_Lin_read_150 (by decide) ?_
                  exact mx_ri F hr hlk (by decide) hP hD hS [(li, .inr (4, [.int (nI a), .int (nI (a - a)), .int (-1 : Int32), .int (nI w_4), .int (nI w_4), .ref t, .ref op])), (t, .inl (K.2.1.2.2.1, 1600, .inl f)), (op, .inr (3, [.ref nm])), (nm, .inl (K.2.1.1, 262, .inr (.inl fn)))] [2, 3, 0, 1] rfl (by decide) ⟨(Or.inr rfl), ⟨a, (a - a), (-1 : Int32), w_4, w_4, (by first | assumption | omega | exact mx_ch_0), (by first | assumption | omega | exact mx_ch_0), (by first | assumption | omega | exact mx_ch_0), (by first | assumption | exact Or.inl rfl), rfl⟩⟩ (by decide) (by decide) d_Lin_read_154
            · refine lv_iconst (v := 0) hx hb d_Lin_read_126 (by decide) ?_
              exact mx_ri F hr hlk (by decide) hP hD hS [(li, .inr (4, [.int (nI a), .int (nI (a - a)), .int (-1 : Int32), .int (nI w_4), .int (nI w_4), .ref t, .ref op])), (t, .inl (K.2.1.2.2.1, 1600, .inl f)), (op, .inr (3, [.ref nm])), (nm, .inl (K.2.1.1, 262, .inr (.inl fn)))] [2, 3, 0, 1] rfl (by decide) ⟨(Or.inl rfl), ⟨a, (a - a), (-1 : Int32), w_4, w_4, (by first | assumption | omega | exact mx_ch_0), (by first | assumption | omega | exact mx_ch_0), (by first | assumption | omega | exact mx_ch_0), (by first | assumption | exact Or.inl rfl), rfl⟩⟩ (by decide) (by decide) d_Lin_read_127
      · have h_15n := mx_fNe (a := rb_14) (b := 0) (by omega) (by omega) h_15
        refine lv_aload_n hx hb d_Lin_read_74 rfl (lv_at hl 0 rfl) ?_
        refine va_get (D := K.1) (ci := 4) (v := .ref t) (C := R_Lin) (T := T_Lin) (N := 7) hx hb hT in_Lin hown hK hP 2 rfl rfl 5 (by decide) (hT _ k_217) (fun _ h9 => h9) rfl d_Lin_read_75 ?_
        refine lv_iload_n hx hb d_Lin_read_78 rfl (lv_at hl 1 rfl) ?_
        refine lv_aload_n hx hb d_Lin_read_79 rfl (lv_at hl 0 rfl) ?_
        refine va_get (D := K.1) (ci := 4) (v := .int (nI w_4)) (C := R_Lin) (T := T_Lin) (N := 7) hx hb hT in_Lin hown hK hP 2 rfl rfl 4 (by decide) (hT _ k_227) (fun _ h9 => h9) rfl d_Lin_read_80 ?_
        refine mx_ci (wr := [(op, .inr (3, [.ref nm])), (nm, .inl (K.2.1.1, 262, .inr (.inl fn))), (li, .inr (4, [.int (nI a), .int 0, .int (-1), .int (nI w_4), .int (nI w_4), .ref t, .ref op]))]) F (mx_runS (As := [.ref t, .int (nI a), .int (nI w_4)]) (rest := []) (n := 3) F (s_Lin_nameEnd l K t a w_4 f H.size (by first | assumption | omega | exact mx_ch_0) (by first | assumption | omega | exact mx_ch_0)) k_437 (Or.inl k_435) k_436 k_7 p_Lin_nameEnd rfl rfl hP hD hS [3] rfl (by decide)  rfl hl.1 rfl (Nat.le_of_ble_eq_true rfl) ⟨by decide, by decide⟩ ⟨by decide, by decide⟩ d_Lin_read_83) hP hD hS [3] [0, 1, 2] rfl rfl (by decide) (by decide) (fun r_62 _ H locs hq_61 hP hD hS => ?_)
        obtain ⟨rn_63, hf_64, hf_65, rfl⟩ := hq_61
        have hP : va_P K.1 mx_cl [(op, .inr (3, [.ref nm])), (nm, .inl (K.2.1.1, 262, .inr (.inl fn))), (li, .inr (4, [.int (nI a), .int 0, .int (-1), .int (nI w_4), .int (nI w_4), .ref t, .ref op])), (t, .inl (K.2.1.2.2.1, 1600, .inl f))] H := hP
        have hD : va_D A [(op, .inr (3, [.ref nm])), (nm, .inl (K.2.1.1, 262, .inr (.inl fn))), (li, .inr (4, [.int (nI a), .int 0, .int (-1), .int (nI w_4), .int (nI w_4), .ref t, .ref op])), (t, .inl (K.2.1.2.2.1, 1600, .inl f))] := hD
        refine W.cs (cells' := 0) (slots' := 0) rfl rfl ?_
        refine lv_goto (tgt := 90) hx hb d_Lin_read_86 (by decide) ?_
        refine lv_istore_n (lv' := [(3, .int (nI rn_63)), (0, .ref li), (1, .int (nI a)), (2, .int (nI b))]) hx hb d_Lin_read_90 rfl hl (by decide) rfl (fun ls hl => ?_)
        refine lv_aload_n hx hb d_Lin_read_91 rfl (lv_at hl 1 rfl) ?_
        refine lv_iload_n hx hb d_Lin_read_92 rfl (lv_at hl 0 rfl) ?_
        refine lv_iload_n hx hb d_Lin_read_93 rfl (lv_at hl 2 rfl) ?_
        refine lv_isub hx hb d_Lin_read_94 ?_
        refine lv_topi (fun z_66 ez_66 => ?_)
        obtain rfl : z_66 = nI (rn_63 - a) := ez_66.trans (pk_sub (a := rn_63) (b := a) (by omega))
        refine va_put (D := K.1) (ci := 4) (v := .int (nI (rn_63 - a))) (ty := .int) (C := R_Lin) (T := T_Lin) (N := 7) hx hb hT in_Lin t_Lin t_Lin_ok n_Lin hown hK hP hD hS 2 rfl rfl 1 (by decide) (hT _ k_221) (fun _ h9 => h9) rfl (by decide +kernel) rfl rfl (Nat.le_of_ble_eq_true rfl) d_Lin_read_95 (fun H locs hP hD hS => ?_)
        have hP : va_P K.1 mx_cl [(op, .inr (3, [.ref nm])), (nm, .inl (K.2.1.1, 262, .inr (.inl fn))), (li, .inr (4, [.int (nI a), .int (nI (rn_63 - a)), .int (-1), .int (nI w_4), .int (nI w_4), .ref t, .ref op])), (t, .inl (K.2.1.2.2.1, 1600, .inl f))] H := hP
        have hD : va_D A [(op, .inr (3, [.ref nm])), (nm, .inl (K.2.1.1, 262, .inr (.inl fn))), (li, .inr (4, [.int (nI a), .int (nI (rn_63 - a)), .int (-1), .int (nI w_4), .int (nI w_4), .ref t, .ref op])), (t, .inl (K.2.1.2.2.1, 1600, .inl f))] := hD
        refine lv_aload_n hx hb d_Lin_read_98 rfl (lv_at hl 1 rfl) ?_
        refine va_get (D := K.1) (ci := 4) (v := .int (nI (rn_63 - a))) (C := R_Lin) (T := T_Lin) (N := 7) hx hb hT in_Lin hown hK hP 2 rfl rfl 1 (by decide) (hT _ k_221) (fun _ h9 => h9) rfl d_Lin_read_99 ?_
        refine lv_bipush (v := 12) hx hb d_Lin_read_102 (by decide) ?_
        refine lv_icmp_gt (tgt := 126) hx hb d_Lin_read_104 (by decide) (fun h_67 => ?_) (fun h_67 => ?_)
        · have h_67n := mx_fLt (a := 12) (b := (rn_63 - a)) (by omega) (by omega) h_67
          refine lv_iconst (v := 0) hx hb d_Lin_read_126 (by decide) ?_
          exact mx_ri F hr hlk (by decide) hP hD hS [(li, .inr (4, [.int (nI a), .int (nI (rn_63 - a)), .int (-1 : Int32), .int (nI w_4), .int (nI w_4), .ref t, .ref op])), (t, .inl (K.2.1.2.2.1, 1600, .inl f)), (op, .inr (3, [.ref nm])), (nm, .inl (K.2.1.1, 262, .inr (.inl fn)))] [2, 3, 0, 1] rfl (by decide) ⟨(Or.inl rfl), ⟨a, (rn_63 - a), (-1 : Int32), w_4, w_4, (by first | assumption | omega | exact mx_ch_0), (by first | assumption | omega | exact mx_ch_0), (by first | assumption | omega | exact mx_ch_0), (by first | assumption | exact Or.inl rfl), rfl⟩⟩ (by decide) (by decide) d_Lin_read_127
        · have h_67n := mx_fNlt (a := 12) (b := (rn_63 - a)) (by omega) (by omega) h_67
          refine lv_iload_n hx hb d_Lin_read_107 rfl (lv_at hl 0 rfl) ?_
          refine lv_aload_n hx hb d_Lin_read_108 rfl (lv_at hl 1 rfl) ?_
          refine va_get (D := K.1) (ci := 4) (v := .int (nI w_4)) (C := R_Lin) (T := T_Lin) (N := 7) hx hb hT in_Lin hown hK hP 2 rfl rfl 4 (by decide) (hT _ k_227) (fun _ h9 => h9) rfl d_Lin_read_109 ?_
          refine lv_icmp_ge (tgt := 128) hx hb d_Lin_read_112 (by decide) (fun h_68 => ?_) (fun h_68 => ?_)
          · have h_68n := mx_fLe (a := w_4) (b := rn_63) (by omega) (by omega) h_68
            refine lv_aload_n hx hb d_Lin_read_128 rfl (lv_at hl 1 rfl) ?_
            refine lv_iload_n hx hb d_Lin_read_129 rfl (lv_at hl 0 rfl) ?_
            refine mx_ci (wr := [(op, .inr (3, [.ref nm])), (nm, .inl (K.2.1.1, 262, .inr (.inl fn)))]) F (mx_runV (As := [.int (nI rn_63)]) (rest := []) (n := 1) F (s_Lin_behindBlanks l K li rn_63 (-1) t op f a (rn_63 - a) w_4 w_4 H.size (by first | assumption | omega | exact mx_ch_0) (by first | assumption | omega | exact mx_ch_0)) k_444 (Or.inl k_441) k_443 sl_Lin_behindBlanks k_7 p_Lin_behindBlanks rfl rfl hP hD hS [2, 3] rfl (by decide) (va_recv (q := (R_Lin, T_Lin, 7)) (ci := 4) (q0 := 2) hK hP rfl rfl) rfl hl.1 rfl (Nat.le_of_ble_eq_true rfl) ⟨by decide, by decide⟩ ⟨by decide, by decide⟩ d_Lin_read_130) hP hD hS [2, 3] [0, 1] rfl rfl (by decide) (by decide) (fun r_70 _ H locs hq_69 hP hD hS => ?_)
            obtain ⟨rn_71, hf_72, hf_73, rfl⟩ := hq_69
            have hP : va_P K.1 mx_cl [(op, .inr (3, [.ref nm])), (nm, .inl (K.2.1.1, 262, .inr (.inl fn))), (li, .inr (4, [.int (nI a), .int (nI (rn_63 - a)), .int (-1), .int (nI w_4), .int (nI w_4), .ref t, .ref op])), (t, .inl (K.2.1.2.2.1, 1600, .inl f))] H := hP
            have hD : va_D A [(op, .inr (3, [.ref nm])), (nm, .inl (K.2.1.1, 262, .inr (.inl fn))), (li, .inr (4, [.int (nI a), .int (nI (rn_63 - a)), .int (-1), .int (nI w_4), .int (nI w_4), .ref t, .ref op])), (t, .inl (K.2.1.2.2.1, 1600, .inl f))] := hD
            refine W.cs (cells' := 0) (slots' := 0) rfl rfl ?_
            refine lv_istore_n (lv' := [(3, .int (nI rn_71)), (0, .ref li), (1, .int (nI a)), (2, .int (nI b))]) hx hb d_Lin_read_133 rfl hl (by decide) rfl (fun ls hl => ?_)
            refine lv_iload_n hx hb d_Lin_read_134 rfl (lv_at hl 0 rfl) ?_
            refine lv_aload_n hx hb d_Lin_read_135 rfl (lv_at hl 1 rfl) ?_
            refine va_get (D := K.1) (ci := 4) (v := .int (nI w_4)) (C := R_Lin) (T := T_Lin) (N := 7) hx hb hT in_Lin hown hK hP 2 rfl rfl 4 (by decide) (hT _ k_227) (fun _ h9 => h9) rfl d_Lin_read_136 ?_
            refine lv_icmp_ne (tgt := 155) hx hb d_Lin_read_139 (by decide) (fun h_74 => ?_) (fun h_74 => ?_)
            · have h_74n := mx_fNe (a := rn_71) (b := w_4) (by omega) (by omega) h_74
              refine lv_aload_n hx hb d_Lin_read_155 rfl (lv_at hl 1 rfl) ?_
              refine lv_iload_n hx hb d_Lin_read_156 rfl (lv_at hl 0 rfl) ?_
              refine mx_ci (wr := [(op, .inr (3, [.ref nm])), (nm, .inl (K.2.1.1, 262, .inr (.inl fn)))]) F (mx_runV (As := [.int (nI rn_71)]) (rest := []) (n := 1) F (s_Lin_blankFrom l K li rn_71 (-1) t op f a (rn_63 - a) w_4 w_4 H.size (by first | assumption | omega | exact mx_ch_0) (by first | assumption | omega | exact mx_ch_0)) k_448 (Or.inl k_445) k_447 sl_Lin_blankFrom k_7 p_Lin_blankFrom rfl rfl hP hD hS [2, 3] rfl (by decide) (va_recv (q := (R_Lin, T_Lin, 7)) (ci := 4) (q0 := 2) hK hP rfl rfl) rfl hl.1 rfl (Nat.le_of_ble_eq_true rfl) ⟨by decide, by decide⟩ ⟨by decide, by decide⟩ d_Lin_read_157) hP hD hS [2, 3] [0, 1] rfl rfl (by decide) (by decide) (fun r_76 _ H locs hq_75 hP hD hS => ?_)
              obtain ⟨rn_77, hf_78, hf_79, rfl⟩ := hq_75
              have hP : va_P K.1 mx_cl [(op, .inr (3, [.ref nm])), (nm, .inl (K.2.1.1, 262, .inr (.inl fn))), (li, .inr (4, [.int (nI a), .int (nI (rn_63 - a)), .int (-1), .int (nI w_4), .int (nI w_4), .ref t, .ref op])), (t, .inl (K.2.1.2.2.1, 1600, .inl f))] H := hP
              have hD : va_D A [(op, .inr (3, [.ref nm])), (nm, .inl (K.2.1.1, 262, .inr (.inl fn))), (li, .inr (4, [.int (nI a), .int (nI (rn_63 - a)), .int (-1), .int (nI w_4), .int (nI w_4), .ref t, .ref op])), (t, .inl (K.2.1.2.2.1, 1600, .inl f))] := hD
              refine W.cs (cells' := 0) (slots' := 0) rfl rfl ?_
              refine lv_istore (lv' := [(4, .int (nI rn_77)), (3, .int (nI rn_71)), (0, .ref li), (1, .int (nI a)), (2, .int (nI b))]) hx hb d_Lin_read_160 hl (by decide) rfl (fun ls hl => ?_)
              refine lv_aload_n hx hb d_Lin_read_162 rfl (lv_at hl 2 rfl) ?_
              refine lv_aload_n hx hb d_Lin_read_163 rfl (lv_at hl 2 rfl) ?_
              refine va_get (D := K.1) (ci := 4) (v := .ref op) (C := R_Lin) (T := T_Lin) (N := 7) hx hb hT in_Lin hown hK hP 2 rfl rfl 6 (by decide) (hT _ k_218) (fun _ h9 => h9) rfl d_Lin_read_164 ?_
              refine lv_aload_n hx hb d_Lin_read_167 rfl (lv_at hl 2 rfl) ?_
              refine va_get (D := K.1) (ci := 4) (v := .ref t) (C := R_Lin) (T := T_Lin) (N := 7) hx hb hT in_Lin hown hK hP 2 rfl rfl 5 (by decide) (hT _ k_217) (fun _ h9 => h9) rfl d_Lin_read_168 ?_
              refine lv_iload_n hx hb d_Lin_read_171 rfl (lv_at hl 1 rfl) ?_
              refine lv_iload hx hb d_Lin_read_172 (lv_at hl 0 rfl) ?_
              refine mx_ci (wr := [(li, .inr (4, [.int (nI a), .int (nI (rn_63 - a)), .int (-1), .int (nI w_4), .int (nI w_4), .ref t, .ref op]))]) F (mx_runV (As := [.ref t, .int (nI rn_71), .int (nI rn_77)]) (rest := [.ref li]) (n := 3) F (s_Opn_find l K op t rn_71 rn_77 nm fn f H.size (by first | assumption | omega | exact mx_ch_0) (by first | assumption | omega | exact mx_ch_0)) k_452 (Or.inl k_449) k_450 k_451 k_8 p_Opn_find rfl rfl hP hD hS [0, 1, 3] rfl (by decide) (va_recv (q := (R_Opn, T_Opn, 1)) (ci := 3) (q0 := 0) hK hP rfl rfl) rfl hl.1 rfl (Nat.le_of_ble_eq_true rfl) ⟨by decide, by decide⟩ ⟨by decide, by decide⟩ d_Lin_read_174) hP hD hS [0, 1, 3] [2] rfl rfl (by decide) (by decide) (fun r_81 _ H locs hq_80 hP hD hS => ?_)
              have hP : va_P K.1 mx_cl [(li, .inr (4, [.int (nI a), .int (nI (rn_63 - a)), .int (-1), .int (nI w_4), .int (nI w_4), .ref t, .ref op])), (op, .inr (3, [.ref nm])), (nm, .inl (K.2.1.1, 262, .inr (.inl fn))), (t, .inl (K.2.1.2.2.1, 1600, .inl f))] H := hP
              have hD : va_D A [(li, .inr (4, [.int (nI a), .int (nI (rn_63 - a)), .int (-1), .int (nI w_4), .int (nI w_4), .ref t, .ref op])), (op, .inr (3, [.ref nm])), (nm, .inl (K.2.1.1, 262, .inr (.inl fn))), (t, .inl (K.2.1.2.2.1, 1600, .inl f))] := hD
              refine W.cs (cells' := 0) (slots' := 0) rfl rfl ?_
              have hopq := hq_80
              refine va_put (D := K.1) (ci := 4) (v := .int r_81) (ty := .int) (C := R_Lin) (T := T_Lin) (N := 7) hx hb hT in_Lin t_Lin t_Lin_ok n_Lin hown hK hP hD hS 0 rfl rfl 2 (by decide) (hT _ k_223) (fun _ h9 => h9) rfl (by decide +kernel) rfl rfl (Nat.le_of_ble_eq_true rfl) d_Lin_read_177 (fun H locs hP hD hS => ?_)
              have hP : va_P K.1 mx_cl [(li, .inr (4, [.int (nI a), .int (nI (rn_63 - a)), .int r_81, .int (nI w_4), .int (nI w_4), .ref t, .ref op])), (op, .inr (3, [.ref nm])), (nm, .inl (K.2.1.1, 262, .inr (.inl fn))), (t, .inl (K.2.1.2.2.1, 1600, .inl f))] H := hP
              have hD : va_D A [(li, .inr (4, [.int (nI a), .int (nI (rn_63 - a)), .int r_81, .int (nI w_4), .int (nI w_4), .ref t, .ref op])), (op, .inr (3, [.ref nm])), (nm, .inl (K.2.1.1, 262, .inr (.inl fn))), (t, .inl (K.2.1.2.2.1, 1600, .inl f))] := hD
              refine lv_aload_n hx hb d_Lin_read_180 rfl (lv_at hl 2 rfl) ?_
              refine lv_aload_n hx hb d_Lin_read_181 rfl (lv_at hl 2 rfl) ?_
              refine lv_iload hx hb d_Lin_read_182 (lv_at hl 0 rfl) ?_
              refine mx_ci (wr := [(op, .inr (3, [.ref nm])), (nm, .inl (K.2.1.1, 262, .inr (.inl fn)))]) F (mx_runV (As := [.int (nI rn_77)]) (rest := [.ref li]) (n := 1) F (s_Lin_behindBlanks l K li rn_77 r_81 t op f a (rn_63 - a) w_4 w_4 H.size (by first | assumption | omega | exact mx_ch_0) (by first | assumption | omega | exact mx_ch_0)) k_444 (Or.inl k_441) k_443 sl_Lin_behindBlanks k_7 p_Lin_behindBlanks rfl rfl hP hD hS [0, 3] rfl (by decide) (va_recv (q := (R_Lin, T_Lin, 7)) (ci := 4) (q0 := 0) hK hP rfl rfl) rfl hl.1 rfl (Nat.le_of_ble_eq_true rfl) ⟨by decide, by decide⟩ ⟨by decide, by decide⟩ d_Lin_read_184) hP hD hS [0, 3] [1, 2] rfl rfl (by decide) (by decide) (fun r_83 _ H locs hq_82 hP hD hS => ?_)
              obtain ⟨rn_84, hf_85, hf_86, rfl⟩ := hq_82
              have hP : va_P K.1 mx_cl [(op, .inr (3, [.ref nm])), (nm, .inl (K.2.1.1, 262, .inr (.inl fn))), (li, .inr (4, [.int (nI a), .int (nI (rn_63 - a)), .int r_81, .int (nI w_4), .int (nI w_4), .ref t, .ref op])), (t, .inl (K.2.1.2.2.1, 1600, .inl f))] H := hP
              have hD : va_D A [(op, .inr (3, [.ref nm])), (nm, .inl (K.2.1.1, 262, .inr (.inl fn))), (li, .inr (4, [.int (nI a), .int (nI (rn_63 - a)), .int r_81, .int (nI w_4), .int (nI w_4), .ref t, .ref op])), (t, .inl (K.2.1.2.2.1, 1600, .inl f))] := hD
              refine W.cs (cells' := 0) (slots' := 0) rfl rfl ?_
              refine va_put (D := K.1) (ci := 4) (v := .int (nI rn_84)) (ty := .int) (C := R_Lin) (T := T_Lin) (N := 7) hx hb hT in_Lin t_Lin t_Lin_ok n_Lin hown hK hP hD hS 2 rfl rfl 3 (by decide) (hT _ k_225) (fun _ h9 => h9) rfl (by decide +kernel) rfl rfl (Nat.le_of_ble_eq_true rfl) d_Lin_read_187 (fun H locs hP hD hS => ?_)
              have hP : va_P K.1 mx_cl [(op, .inr (3, [.ref nm])), (nm, .inl (K.2.1.1, 262, .inr (.inl fn))), (li, .inr (4, [.int (nI a), .int (nI (rn_63 - a)), .int r_81, .int (nI rn_84), .int (nI w_4), .ref t, .ref op])), (t, .inl (K.2.1.2.2.1, 1600, .inl f))] H := hP
              have hD : va_D A [(op, .inr (3, [.ref nm])), (nm, .inl (K.2.1.1, 262, .inr (.inl fn))), (li, .inr (4, [.int (nI a), .int (nI (rn_63 - a)), .int r_81, .int (nI rn_84), .int (nI w_4), .ref t, .ref op])), (t, .inl (K.2.1.2.2.1, 1600, .inl f))] := hD
              refine lv_aload_n hx hb d_Lin_read_190 rfl (lv_at hl 2 rfl) ?_
              refine va_get (D := K.1) (ci := 4) (v := .int r_81) (C := R_Lin) (T := T_Lin) (N := 7) hx hb hT in_Lin hown hK hP 2 rfl rfl 2 (by decide) (hT _ k_223) (fun _ h9 => h9) rfl d_Lin_read_191 ?_
              refine lv_iconst (v := (-1)) hx hb d_Lin_read_194 (by decide) ?_
              refine lv_icmp_eq (tgt := 202) hx hb d_Lin_read_195 (by decide) (fun h_87 => ?_) (fun h_87 => ?_)
              · refine lv_iconst (v := 0) hx hb d_Lin_read_202 (by decide) ?_
                exact mx_ri F hr hlk (by decide) hP hD hS [(li, .inr (4, [.int (nI a), .int (nI (rn_63 - a)), .int r_81, .int (nI rn_84), .int (nI w_4), .ref t, .ref op])), (t, .inl (K.2.1.2.2.1, 1600, .inl f)), (op, .inr (3, [.ref nm])), (nm, .inl (K.2.1.1, 262, .inr (.inl fn)))] [2, 3, 0, 1] rfl (by decide) ⟨(Or.inl rfl), ⟨a, (rn_63 - a), r_81, rn_84, w_4, (by first | assumption | omega | exact mx_ch_0), (by first | assumption | omega | exact mx_ch_0), (by first | assumption | omega | exact mx_ch_0), (by first | assumption | exact Or.inl rfl), rfl⟩⟩ (by decide) (by decide) d_Lin_read_203
              · refine lv_iconst (v := 1) hx hb d_Lin_read_198 (by decide) ?_
                refine lv_goto (tgt := 203) hx hb d_Lin_read_199 (by decide) ?_
                exact mx_ri F hr hlk (by decide) hP hD hS [(li, .inr (4, [.int (nI a), .int (nI (rn_63 - a)), .int r_81, .int (nI rn_84), .int (nI w_4), .ref t, .ref op])), (t, .inl (K.2.1.2.2.1, 1600, .inl f)), (op, .inr (3, [.ref nm])), (nm, .inl (K.2.1.1, 262, .inr (.inl fn)))] [2, 3, 0, 1] rfl (by decide) ⟨(Or.inr rfl), ⟨a, (rn_63 - a), r_81, rn_84, w_4, (by first | assumption | omega | exact mx_ch_0), (by first | assumption | omega | exact mx_ch_0), (by first | assumption | omega | exact mx_ch_0), (by first | assumption | exact Or.inl rfl), rfl⟩⟩ (by decide) (by decide) d_Lin_read_203
            · have h_74n := mx_fEq (a := rn_71) (b := w_4) (by omega) (by omega) h_74
              refine lv_aload_n hx hb d_Lin_read_142 rfl (lv_at hl 1 rfl) ?_
              refine va_get (D := K.1) (ci := 4) (v := .int (nI (rn_63 - a))) (C := R_Lin) (T := T_Lin) (N := 7) hx hb hT in_Lin hown hK hP 2 rfl rfl 1 (by decide) (hT _ k_221) (fun _ h9 => h9) rfl d_Lin_read_143 ?_
              refine lv_if_ne (tgt := 153) hx hb d_Lin_read_146 (by decide) (fun h_88 => ?_) (fun h_88 => ?_)
              · have h_88n := mx_fNe (a := (rn_63 - a)) (b := 0) (by omega) (by omega) h_88
                refine lv_iconst (v := 0) hx hb d_Lin_read_153 (by decide) ?_
                exact mx_ri F hr hlk (by decide) hP hD hS [(li, .inr (4, [.int (nI a), .int (nI (rn_63 - a)), .int (-1 : Int32), .int (nI w_4), .int (nI w_4), .ref t, .ref op])), (t, .inl (K.2.1.2.2.1, 1600, .inl f)), (op, .inr (3, [.ref nm])), (nm, .inl (K.2.1.1, 262, .inr (.inl fn)))] [2, 3, 0, 1] rfl (by decide) ⟨(Or.inl rfl), ⟨a, (rn_63 - a), (-1 : Int32), w_4, w_4, (by first | assumption | omega | exact mx_ch_0), (by first | assumption | omega | exact mx_ch_0), (by first | assumption | omega | exact mx_ch_0), (by first | assumption | exact Or.inl rfl), rfl⟩⟩ (by decide) (by decide) d_Lin_read_154
              · have h_88n := mx_fEq (a := (rn_63 - a)) (b := 0) (by omega) (by omega) h_88
                refine lv_iconst (v := 1) hx hb d_Lin_read_149 (by decide) ?_
                refine lv_goto (tgt := 154) hx hb d_Lin_read_150 (by decide) ?_
                exact mx_ri F hr hlk (by decide) hP hD hS [(li, .inr (4, [.int (nI a), .int (nI (rn_63 - a)), .int (-1 : Int32), .int (nI w_4), .int (nI w_4), .ref t, .ref op])), (t, .inl (K.2.1.2.2.1, 1600, .inl f)), (op, .inr (3, [.ref nm])), (nm, .inl (K.2.1.1, 262, .inr (.inl fn)))] [2, 3, 0, 1] rfl (by decide) ⟨(Or.inr rfl), ⟨a, (rn_63 - a), (-1 : Int32), w_4, w_4, (by first | assumption | omega | exact mx_ch_0), (by first | assumption | omega | exact mx_ch_0), (by first | assumption | omega | exact mx_ch_0), (by first | assumption | exact Or.inl rfl), rfl⟩⟩ (by decide) (by decide) d_Lin_read_154
          · have h_68n := mx_fNle (a := w_4) (b := rn_63) (by omega) (by omega) h_68
            refine lv_aload_n hx hb d_Lin_read_115 rfl (lv_at hl 1 rfl) ?_
            refine va_get (D := K.1) (ci := 4) (v := .ref t) (C := R_Lin) (T := T_Lin) (N := 7) hx hb hT in_Lin hown hK hP 2 rfl rfl 5 (by decide) (hT _ k_217) (fun _ h9 => h9) rfl d_Lin_read_116 ?_
            refine lv_iload_n hx hb d_Lin_read_119 rfl (lv_at hl 0 rfl) ?_
            refine va_cald hx hb hK hP 3 2 rfl rfl (i := nI rn_63) (vp_in_nI (n := rn_63) (N := 1600) (by omega) (by decide)) d_Lin_read_120 ?_
            refine lv_topi (fun z_89 ez_89 => ?_)
            refine lv_bipush (v := 32) hx hb d_Lin_read_121 (by decide) ?_
            refine lv_icmp_eq (tgt := 128) hx hb d_Lin_read_123 (by decide) (fun h_90 => ?_) (fun h_90 => ?_)
            · refine lv_aload_n hx hb d_Lin_read_128 rfl (lv_at hl 1 rfl) ?_
              refine lv_iload_n hx hb d_Lin_read_129 rfl (lv_at hl 0 rfl) ?_
              refine mx_ci (wr := [(op, .inr (3, [.ref nm])), (nm, .inl (K.2.1.1, 262, .inr (.inl fn)))]) F (mx_runV (As := [.int (nI rn_63)]) (rest := []) (n := 1) F (s_Lin_behindBlanks l K li rn_63 (-1) t op f a (rn_63 - a) w_4 w_4 H.size (by first | assumption | omega | exact mx_ch_0) (by first | assumption | omega | exact mx_ch_0)) k_444 (Or.inl k_441) k_443 sl_Lin_behindBlanks k_7 p_Lin_behindBlanks rfl rfl hP hD hS [2, 3] rfl (by decide) (va_recv (q := (R_Lin, T_Lin, 7)) (ci := 4) (q0 := 2) hK hP rfl rfl) rfl hl.1 rfl (Nat.le_of_ble_eq_true rfl) ⟨by decide, by decide⟩ ⟨by decide, by decide⟩ d_Lin_read_130) hP hD hS [2, 3] [0, 1] rfl rfl (by decide) (by decide) (fun r_92 _ H locs hq_91 hP hD hS => ?_)
              obtain ⟨rn_93, hf_94, hf_95, rfl⟩ := hq_91
              have hP : va_P K.1 mx_cl [(op, .inr (3, [.ref nm])), (nm, .inl (K.2.1.1, 262, .inr (.inl fn))), (li, .inr (4, [.int (nI a), .int (nI (rn_63 - a)), .int (-1), .int (nI w_4), .int (nI w_4), .ref t, .ref op])), (t, .inl (K.2.1.2.2.1, 1600, .inl f))] H := hP
              have hD : va_D A [(op, .inr (3, [.ref nm])), (nm, .inl (K.2.1.1, 262, .inr (.inl fn))), (li, .inr (4, [.int (nI a), .int (nI (rn_63 - a)), .int (-1), .int (nI w_4), .int (nI w_4), .ref t, .ref op])), (t, .inl (K.2.1.2.2.1, 1600, .inl f))] := hD
              refine W.cs (cells' := 0) (slots' := 0) rfl rfl ?_
              refine lv_istore_n (lv' := [(3, .int (nI rn_93)), (0, .ref li), (1, .int (nI a)), (2, .int (nI b))]) hx hb d_Lin_read_133 rfl hl (by decide) rfl (fun ls hl => ?_)
              refine lv_iload_n hx hb d_Lin_read_134 rfl (lv_at hl 0 rfl) ?_
              refine lv_aload_n hx hb d_Lin_read_135 rfl (lv_at hl 1 rfl) ?_
              refine va_get (D := K.1) (ci := 4) (v := .int (nI w_4)) (C := R_Lin) (T := T_Lin) (N := 7) hx hb hT in_Lin hown hK hP 2 rfl rfl 4 (by decide) (hT _ k_227) (fun _ h9 => h9) rfl d_Lin_read_136 ?_
              refine lv_icmp_ne (tgt := 155) hx hb d_Lin_read_139 (by decide) (fun h_96 => ?_) (fun h_96 => ?_)
              · have h_96n := mx_fNe (a := rn_93) (b := w_4) (by omega) (by omega) h_96
                refine lv_aload_n hx hb d_Lin_read_155 rfl (lv_at hl 1 rfl) ?_
                refine lv_iload_n hx hb d_Lin_read_156 rfl (lv_at hl 0 rfl) ?_
                refine mx_ci (wr := [(op, .inr (3, [.ref nm])), (nm, .inl (K.2.1.1, 262, .inr (.inl fn)))]) F (mx_runV (As := [.int (nI rn_93)]) (rest := []) (n := 1) F (s_Lin_blankFrom l K li rn_93 (-1) t op f a (rn_63 - a) w_4 w_4 H.size (by first | assumption | omega | exact mx_ch_0) (by first | assumption | omega | exact mx_ch_0)) k_448 (Or.inl k_445) k_447 sl_Lin_blankFrom k_7 p_Lin_blankFrom rfl rfl hP hD hS [2, 3] rfl (by decide) (va_recv (q := (R_Lin, T_Lin, 7)) (ci := 4) (q0 := 2) hK hP rfl rfl) rfl hl.1 rfl (Nat.le_of_ble_eq_true rfl) ⟨by decide, by decide⟩ ⟨by decide, by decide⟩ d_Lin_read_157) hP hD hS [2, 3] [0, 1] rfl rfl (by decide) (by decide) (fun r_98 _ H locs hq_97 hP hD hS => ?_)
                obtain ⟨rn_99, hf_100, hf_101, rfl⟩ := hq_97
                have hP : va_P K.1 mx_cl [(op, .inr (3, [.ref nm])), (nm, .inl (K.2.1.1, 262, .inr (.inl fn))), (li, .inr (4, [.int (nI a), .int (nI (rn_63 - a)), .int (-1), .int (nI w_4), .int (nI w_4), .ref t, .ref op])), (t, .inl (K.2.1.2.2.1, 1600, .inl f))] H := hP
                have hD : va_D A [(op, .inr (3, [.ref nm])), (nm, .inl (K.2.1.1, 262, .inr (.inl fn))), (li, .inr (4, [.int (nI a), .int (nI (rn_63 - a)), .int (-1), .int (nI w_4), .int (nI w_4), .ref t, .ref op])), (t, .inl (K.2.1.2.2.1, 1600, .inl f))] := hD
                refine W.cs (cells' := 0) (slots' := 0) rfl rfl ?_
                refine lv_istore (lv' := [(4, .int (nI rn_99)), (3, .int (nI rn_93)), (0, .ref li), (1, .int (nI a)), (2, .int (nI b))]) hx hb d_Lin_read_160 hl (by decide) rfl (fun ls hl => ?_)
                refine lv_aload_n hx hb d_Lin_read_162 rfl (lv_at hl 2 rfl) ?_
                refine lv_aload_n hx hb d_Lin_read_163 rfl (lv_at hl 2 rfl) ?_
                refine va_get (D := K.1) (ci := 4) (v := .ref op) (C := R_Lin) (T := T_Lin) (N := 7) hx hb hT in_Lin hown hK hP 2 rfl rfl 6 (by decide) (hT _ k_218) (fun _ h9 => h9) rfl d_Lin_read_164 ?_
                refine lv_aload_n hx hb d_Lin_read_167 rfl (lv_at hl 2 rfl) ?_
                refine va_get (D := K.1) (ci := 4) (v := .ref t) (C := R_Lin) (T := T_Lin) (N := 7) hx hb hT in_Lin hown hK hP 2 rfl rfl 5 (by decide) (hT _ k_217) (fun _ h9 => h9) rfl d_Lin_read_168 ?_
                refine lv_iload_n hx hb d_Lin_read_171 rfl (lv_at hl 1 rfl) ?_
                refine lv_iload hx hb d_Lin_read_172 (lv_at hl 0 rfl) ?_
                refine mx_ci (wr := [(li, .inr (4, [.int (nI a), .int (nI (rn_63 - a)), .int (-1), .int (nI w_4), .int (nI w_4), .ref t, .ref op]))]) F (mx_runV (As := [.ref t, .int (nI rn_93), .int (nI rn_99)]) (rest := [.ref li]) (n := 3) F (s_Opn_find l K op t rn_93 rn_99 nm fn f H.size (by first | assumption | omega | exact mx_ch_0) (by first | assumption | omega | exact mx_ch_0)) k_452 (Or.inl k_449) k_450 k_451 k_8 p_Opn_find rfl rfl hP hD hS [0, 1, 3] rfl (by decide) (va_recv (q := (R_Opn, T_Opn, 1)) (ci := 3) (q0 := 0) hK hP rfl rfl) rfl hl.1 rfl (Nat.le_of_ble_eq_true rfl) ⟨by decide, by decide⟩ ⟨by decide, by decide⟩ d_Lin_read_174) hP hD hS [0, 1, 3] [2] rfl rfl (by decide) (by decide) (fun r_103 _ H locs hq_102 hP hD hS => ?_)
                have hP : va_P K.1 mx_cl [(li, .inr (4, [.int (nI a), .int (nI (rn_63 - a)), .int (-1), .int (nI w_4), .int (nI w_4), .ref t, .ref op])), (op, .inr (3, [.ref nm])), (nm, .inl (K.2.1.1, 262, .inr (.inl fn))), (t, .inl (K.2.1.2.2.1, 1600, .inl f))] H := hP
                have hD : va_D A [(li, .inr (4, [.int (nI a), .int (nI (rn_63 - a)), .int (-1), .int (nI w_4), .int (nI w_4), .ref t, .ref op])), (op, .inr (3, [.ref nm])), (nm, .inl (K.2.1.1, 262, .inr (.inl fn))), (t, .inl (K.2.1.2.2.1, 1600, .inl f))] := hD
                refine W.cs (cells' := 0) (slots' := 0) rfl rfl ?_
                have hopq := hq_102
                refine va_put (D := K.1) (ci := 4) (v := .int r_103) (ty := .int) (C := R_Lin) (T := T_Lin) (N := 7) hx hb hT in_Lin t_Lin t_Lin_ok n_Lin hown hK hP hD hS 0 rfl rfl 2 (by decide) (hT _ k_223) (fun _ h9 => h9) rfl (by decide +kernel) rfl rfl (Nat.le_of_ble_eq_true rfl) d_Lin_read_177 (fun H locs hP hD hS => ?_)
                have hP : va_P K.1 mx_cl [(li, .inr (4, [.int (nI a), .int (nI (rn_63 - a)), .int r_103, .int (nI w_4), .int (nI w_4), .ref t, .ref op])), (op, .inr (3, [.ref nm])), (nm, .inl (K.2.1.1, 262, .inr (.inl fn))), (t, .inl (K.2.1.2.2.1, 1600, .inl f))] H := hP
                have hD : va_D A [(li, .inr (4, [.int (nI a), .int (nI (rn_63 - a)), .int r_103, .int (nI w_4), .int (nI w_4), .ref t, .ref op])), (op, .inr (3, [.ref nm])), (nm, .inl (K.2.1.1, 262, .inr (.inl fn))), (t, .inl (K.2.1.2.2.1, 1600, .inl f))] := hD
                refine lv_aload_n hx hb d_Lin_read_180 rfl (lv_at hl 2 rfl) ?_
                refine lv_aload_n hx hb d_Lin_read_181 rfl (lv_at hl 2 rfl) ?_
                refine lv_iload hx hb d_Lin_read_182 (lv_at hl 0 rfl) ?_
                refine mx_ci (wr := [(op, .inr (3, [.ref nm])), (nm, .inl (K.2.1.1, 262, .inr (.inl fn)))]) F (mx_runV (As := [.int (nI rn_99)]) (rest := [.ref li]) (n := 1) F (s_Lin_behindBlanks l K li rn_99 r_103 t op f a (rn_63 - a) w_4 w_4 H.size (by first | assumption | omega | exact mx_ch_0) (by first | assumption | omega | exact mx_ch_0)) k_444 (Or.inl k_441) k_443 sl_Lin_behindBlanks k_7 p_Lin_behindBlanks rfl rfl hP hD hS [0, 3] rfl (by decide) (va_recv (q := (R_Lin, T_Lin, 7)) (ci := 4) (q0 := 0) hK hP rfl rfl) rfl hl.1 rfl (Nat.le_of_ble_eq_true rfl) ⟨by decide, by decide⟩ ⟨by decide, by decide⟩ d_Lin_read_184) hP hD hS [0, 3] [1, 2] rfl rfl (by decide) (by decide) (fun r_105 _ H locs hq_104 hP hD hS => ?_)
                obtain ⟨rn_106, hf_107, hf_108, rfl⟩ := hq_104
                have hP : va_P K.1 mx_cl [(op, .inr (3, [.ref nm])), (nm, .inl (K.2.1.1, 262, .inr (.inl fn))), (li, .inr (4, [.int (nI a), .int (nI (rn_63 - a)), .int r_103, .int (nI w_4), .int (nI w_4), .ref t, .ref op])), (t, .inl (K.2.1.2.2.1, 1600, .inl f))] H := hP
                have hD : va_D A [(op, .inr (3, [.ref nm])), (nm, .inl (K.2.1.1, 262, .inr (.inl fn))), (li, .inr (4, [.int (nI a), .int (nI (rn_63 - a)), .int r_103, .int (nI w_4), .int (nI w_4), .ref t, .ref op])), (t, .inl (K.2.1.2.2.1, 1600, .inl f))] := hD
                refine W.cs (cells' := 0) (slots' := 0) rfl rfl ?_
                refine va_put (D := K.1) (ci := 4) (v := .int (nI rn_106)) (ty := .int) (C := R_Lin) (T := T_Lin) (N := 7) hx hb hT in_Lin t_Lin t_Lin_ok n_Lin hown hK hP hD hS 2 rfl rfl 3 (by decide) (hT _ k_225) (fun _ h9 => h9) rfl (by decide +kernel) rfl rfl (Nat.le_of_ble_eq_true rfl) d_Lin_read_187 (fun H locs hP hD hS => ?_)
                have hP : va_P K.1 mx_cl [(op, .inr (3, [.ref nm])), (nm, .inl (K.2.1.1, 262, .inr (.inl fn))), (li, .inr (4, [.int (nI a), .int (nI (rn_63 - a)), .int r_103, .int (nI rn_106), .int (nI w_4), .ref t, .ref op])), (t, .inl (K.2.1.2.2.1, 1600, .inl f))] H := hP
                have hD : va_D A [(op, .inr (3, [.ref nm])), (nm, .inl (K.2.1.1, 262, .inr (.inl fn))), (li, .inr (4, [.int (nI a), .int (nI (rn_63 - a)), .int r_103, .int (nI rn_106), .int (nI w_4), .ref t, .ref op])), (t, .inl (K.2.1.2.2.1, 1600, .inl f))] := hD
                refine lv_aload_n hx hb d_Lin_read_190 rfl (lv_at hl 2 rfl) ?_
                refine va_get (D := K.1) (ci := 4) (v := .int r_103) (C := R_Lin) (T := T_Lin) (N := 7) hx hb hT in_Lin hown hK hP 2 rfl rfl 2 (by decide) (hT _ k_223) (fun _ h9 => h9) rfl d_Lin_read_191 ?_
                refine lv_iconst (v := (-1)) hx hb d_Lin_read_194 (by decide) ?_
                refine lv_icmp_eq (tgt := 202) hx hb d_Lin_read_195 (by decide) (fun h_109 => ?_) (fun h_109 => ?_)
                · refine lv_iconst (v := 0) hx hb d_Lin_read_202 (by decide) ?_
                  exact mx_ri F hr hlk (by decide) hP hD hS [(li, .inr (4, [.int (nI a), .int (nI (rn_63 - a)), .int r_103, .int (nI rn_106), .int (nI w_4), .ref t, .ref op])), (t, .inl (K.2.1.2.2.1, 1600, .inl f)), (op, .inr (3, [.ref nm])), (nm, .inl (K.2.1.1, 262, .inr (.inl fn)))] [2, 3, 0, 1] rfl (by decide) ⟨(Or.inl rfl), ⟨a, (rn_63 - a), r_103, rn_106, w_4, (by first | assumption | omega | exact mx_ch_0), (by first | assumption | omega | exact mx_ch_0), (by first | assumption | omega | exact mx_ch_0), (by first | assumption | exact Or.inl rfl), rfl⟩⟩ (by decide) (by decide) d_Lin_read_203
                · refine lv_iconst (v := 1) hx hb d_Lin_read_198 (by decide) ?_
                  refine lv_goto (tgt := 203) hx hb d_Lin_read_199 (by decide) ?_
                  exact mx_ri F hr hlk (by decide) hP hD hS [(li, .inr (4, [.int (nI a), .int (nI (rn_63 - a)), .int r_103, .int (nI rn_106), .int (nI w_4), .ref t, .ref op])), (t, .inl (K.2.1.2.2.1, 1600, .inl f)), (op, .inr (3, [.ref nm])), (nm, .inl (K.2.1.1, 262, .inr (.inl fn)))] [2, 3, 0, 1] rfl (by decide) ⟨(Or.inr rfl), ⟨a, (rn_63 - a), r_103, rn_106, w_4, (by first | assumption | omega | exact mx_ch_0), (by first | assumption | omega | exact mx_ch_0), (by first | assumption | omega | exact mx_ch_0), (by first | assumption | exact Or.inl rfl), rfl⟩⟩ (by decide) (by decide) d_Lin_read_203
              · have h_96n := mx_fEq (a := rn_93) (b := w_4) (by omega) (by omega) h_96
                refine lv_aload_n hx hb d_Lin_read_142 rfl (lv_at hl 1 rfl) ?_
                refine va_get (D := K.1) (ci := 4) (v := .int (nI (rn_63 - a))) (C := R_Lin) (T := T_Lin) (N := 7) hx hb hT in_Lin hown hK hP 2 rfl rfl 1 (by decide) (hT _ k_221) (fun _ h9 => h9) rfl d_Lin_read_143 ?_
                refine lv_if_ne (tgt := 153) hx hb d_Lin_read_146 (by decide) (fun h_110 => ?_) (fun h_110 => ?_)
                · have h_110n := mx_fNe (a := (rn_63 - a)) (b := 0) (by omega) (by omega) h_110
                  refine lv_iconst (v := 0) hx hb d_Lin_read_153 (by decide) ?_
                  exact mx_ri F hr hlk (by decide) hP hD hS [(li, .inr (4, [.int (nI a), .int (nI (rn_63 - a)), .int (-1 : Int32), .int (nI w_4), .int (nI w_4), .ref t, .ref op])), (t, .inl (K.2.1.2.2.1, 1600, .inl f)), (op, .inr (3, [.ref nm])), (nm, .inl (K.2.1.1, 262, .inr (.inl fn)))] [2, 3, 0, 1] rfl (by decide) ⟨(Or.inl rfl), ⟨a, (rn_63 - a), (-1 : Int32), w_4, w_4, (by first | assumption | omega | exact mx_ch_0), (by first | assumption | omega | exact mx_ch_0), (by first | assumption | omega | exact mx_ch_0), (by first | assumption | exact Or.inl rfl), rfl⟩⟩ (by decide) (by decide) d_Lin_read_154
                · have h_110n := mx_fEq (a := (rn_63 - a)) (b := 0) (by omega) (by omega) h_110
                  refine lv_iconst (v := 1) hx hb d_Lin_read_149 (by decide) ?_
                  refine lv_goto (tgt := 154) hx hb d_Lin_read_150 (by decide) ?_
                  exact mx_ri F hr hlk (by decide) hP hD hS [(li, .inr (4, [.int (nI a), .int (nI (rn_63 - a)), .int (-1 : Int32), .int (nI w_4), .int (nI w_4), .ref t, .ref op])), (t, .inl (K.2.1.2.2.1, 1600, .inl f)), (op, .inr (3, [.ref nm])), (nm, .inl (K.2.1.1, 262, .inr (.inl fn)))] [2, 3, 0, 1] rfl (by decide) ⟨(Or.inr rfl), ⟨a, (rn_63 - a), (-1 : Int32), w_4, w_4, (by first | assumption | omega | exact mx_ch_0), (by first | assumption | omega | exact mx_ch_0), (by first | assumption | omega | exact mx_ch_0), (by first | assumption | exact Or.inl rfl), rfl⟩⟩ (by decide) (by decide) d_Lin_read_154
            · refine lv_iconst (v := 0) hx hb d_Lin_read_126 (by decide) ?_
              exact mx_ri F hr hlk (by decide) hP hD hS [(li, .inr (4, [.int (nI a), .int (nI (rn_63 - a)), .int (-1 : Int32), .int (nI w_4), .int (nI w_4), .ref t, .ref op])), (t, .inl (K.2.1.2.2.1, 1600, .inl f)), (op, .inr (3, [.ref nm])), (nm, .inl (K.2.1.1, 262, .inr (.inl fn)))] [2, 3, 0, 1] rfl (by decide) ⟨(Or.inl rfl), ⟨a, (rn_63 - a), (-1 : Int32), w_4, w_4, (by first | assumption | omega | exact mx_ch_0), (by first | assumption | omega | exact mx_ch_0), (by first | assumption | omega | exact mx_ch_0), (by first | assumption | exact Or.inl rfl), rfl⟩⟩ (by decide) (by decide) d_Lin_read_127
    · refine lv_aload_n hx hb d_Lin_read_48 rfl (lv_at hl 0 rfl) ?_
      refine va_get (D := K.1) (ci := 4) (v := .ref t) (C := R_Lin) (T := T_Lin) (N := 7) hx hb hT in_Lin hown hK hP 2 rfl rfl 5 (by decide) (hT _ k_217) (fun _ h9 => h9) rfl d_Lin_read_49 ?_
      refine lv_iload_n hx hb d_Lin_read_52 rfl (lv_at hl 1 rfl) ?_
      refine va_cald hx hb hK hP 3 2 rfl rfl (i := nI a) (vp_in_nI (n := a) (N := 1600) (by omega) (by decide)) d_Lin_read_53 ?_
      refine lv_topi (fun z_111 ez_111 => ?_)
      refine mx_ci (wr := [(op, .inr (3, [.ref nm])), (nm, .inl (K.2.1.1, 262, .inr (.inl fn))), (li, .inr (4, [.int (nI a), .int 0, .int (-1), .int (nI w_4), .int (nI w_4), .ref t, .ref op])), (t, .inl (K.2.1.2.2.1, 1600, .inl f))]) F (mx_runS (As := [.int z_111]) (rest := []) (n := 1) F (s_Lin_isLetter l K z_111 H.size) k_434 (Or.inl k_432) k_433 k_7 p_Lin_isLetter rfl rfl hP hD hS [] rfl (by decide)  rfl hl.1 rfl (Nat.le_of_ble_eq_true rfl) ⟨by decide, by decide⟩ ⟨by decide, by decide⟩ d_Lin_read_54) hP hD hS [] [0, 1, 2, 3] rfl rfl (by decide) (by decide) (fun r_113 _ H locs hq_112 hP hD hS => ?_)
      obtain ⟨rb_114, hrb_114, rfl⟩ := mx_bool hq_112
      have hP : va_P K.1 mx_cl [(op, .inr (3, [.ref nm])), (nm, .inl (K.2.1.1, 262, .inr (.inl fn))), (li, .inr (4, [.int (nI a), .int 0, .int (-1), .int (nI w_4), .int (nI w_4), .ref t, .ref op])), (t, .inl (K.2.1.2.2.1, 1600, .inl f))] H := hP
      have hD : va_D A [(op, .inr (3, [.ref nm])), (nm, .inl (K.2.1.1, 262, .inr (.inl fn))), (li, .inr (4, [.int (nI a), .int 0, .int (-1), .int (nI w_4), .int (nI w_4), .ref t, .ref op])), (t, .inl (K.2.1.2.2.1, 1600, .inl f))] := hD
      refine W.cs (cells' := 0) (slots' := 0) rfl rfl ?_
      refine lv_if_ne (tgt := 62) hx hb d_Lin_read_57 (by decide) (fun h_115 => ?_) (fun h_115 => ?_)
      · have h_115n := mx_fNe (a := rb_114) (b := 0) (by omega) (by omega) h_115
        refine lv_aload_n hx hb d_Lin_read_62 rfl (lv_at hl 0 rfl) ?_
        refine va_get (D := K.1) (ci := 4) (v := .ref t) (C := R_Lin) (T := T_Lin) (N := 7) hx hb hT in_Lin hown hK hP 2 rfl rfl 5 (by decide) (hT _ k_217) (fun _ h9 => h9) rfl d_Lin_read_63 ?_
        refine lv_iload_n hx hb d_Lin_read_66 rfl (lv_at hl 1 rfl) ?_
        refine va_cald hx hb hK hP 3 2 rfl rfl (i := nI a) (vp_in_nI (n := a) (N := 1600) (by omega) (by decide)) d_Lin_read_67 ?_
        refine lv_topi (fun z_116 ez_116 => ?_)
        refine mx_ci (wr := [(op, .inr (3, [.ref nm])), (nm, .inl (K.2.1.1, 262, .inr (.inl fn))), (li, .inr (4, [.int (nI a), .int 0, .int (-1), .int (nI w_4), .int (nI w_4), .ref t, .ref op])), (t, .inl (K.2.1.2.2.1, 1600, .inl f))]) F (mx_runS (As := [.int z_116]) (rest := []) (n := 1) F (s_Lin_isLetter l K z_116 H.size) k_434 (Or.inl k_432) k_433 k_7 p_Lin_isLetter rfl rfl hP hD hS [] rfl (by decide)  rfl hl.1 rfl (Nat.le_of_ble_eq_true rfl) ⟨by decide, by decide⟩ ⟨by decide, by decide⟩ d_Lin_read_68) hP hD hS [] [0, 1, 2, 3] rfl rfl (by decide) (by decide) (fun r_118 _ H locs hq_117 hP hD hS => ?_)
        obtain ⟨rb_119, hrb_119, rfl⟩ := mx_bool hq_117
        have hP : va_P K.1 mx_cl [(op, .inr (3, [.ref nm])), (nm, .inl (K.2.1.1, 262, .inr (.inl fn))), (li, .inr (4, [.int (nI a), .int 0, .int (-1), .int (nI w_4), .int (nI w_4), .ref t, .ref op])), (t, .inl (K.2.1.2.2.1, 1600, .inl f))] H := hP
        have hD : va_D A [(op, .inr (3, [.ref nm])), (nm, .inl (K.2.1.1, 262, .inr (.inl fn))), (li, .inr (4, [.int (nI a), .int 0, .int (-1), .int (nI w_4), .int (nI w_4), .ref t, .ref op])), (t, .inl (K.2.1.2.2.1, 1600, .inl f))] := hD
        refine W.cs (cells' := 0) (slots' := 0) rfl rfl ?_
        refine lv_if_eq (tgt := 89) hx hb d_Lin_read_71 (by decide) (fun h_120 => ?_) (fun h_120 => ?_)
        · have h_120n := mx_fEq (a := rb_119) (b := 0) (by omega) (by omega) h_120
          refine lv_iload_n hx hb d_Lin_read_89 rfl (lv_at hl 1 rfl) ?_
          refine lv_istore_n (lv' := [(3, .int (nI a)), (0, .ref li), (1, .int (nI a)), (2, .int (nI b))]) hx hb d_Lin_read_90 rfl hl (by decide) rfl (fun ls hl => ?_)
          refine lv_aload_n hx hb d_Lin_read_91 rfl (lv_at hl 1 rfl) ?_
          refine lv_iload_n hx hb d_Lin_read_92 rfl (lv_at hl 0 rfl) ?_
          refine lv_iload_n hx hb d_Lin_read_93 rfl (lv_at hl 2 rfl) ?_
          refine lv_isub hx hb d_Lin_read_94 ?_
          refine lv_topi (fun z_121 ez_121 => ?_)
          obtain rfl : z_121 = nI (a - a) := ez_121.trans (pk_sub (a := a) (b := a) (by omega))
          refine va_put (D := K.1) (ci := 4) (v := .int (nI (a - a))) (ty := .int) (C := R_Lin) (T := T_Lin) (N := 7) hx hb hT in_Lin t_Lin t_Lin_ok n_Lin hown hK hP hD hS 2 rfl rfl 1 (by decide) (hT _ k_221) (fun _ h9 => h9) rfl (by decide +kernel) rfl rfl (Nat.le_of_ble_eq_true rfl) d_Lin_read_95 (fun H locs hP hD hS => ?_)
          have hP : va_P K.1 mx_cl [(op, .inr (3, [.ref nm])), (nm, .inl (K.2.1.1, 262, .inr (.inl fn))), (li, .inr (4, [.int (nI a), .int (nI (a - a)), .int (-1), .int (nI w_4), .int (nI w_4), .ref t, .ref op])), (t, .inl (K.2.1.2.2.1, 1600, .inl f))] H := hP
          have hD : va_D A [(op, .inr (3, [.ref nm])), (nm, .inl (K.2.1.1, 262, .inr (.inl fn))), (li, .inr (4, [.int (nI a), .int (nI (a - a)), .int (-1), .int (nI w_4), .int (nI w_4), .ref t, .ref op])), (t, .inl (K.2.1.2.2.1, 1600, .inl f))] := hD
          refine lv_aload_n hx hb d_Lin_read_98 rfl (lv_at hl 1 rfl) ?_
          refine va_get (D := K.1) (ci := 4) (v := .int (nI (a - a))) (C := R_Lin) (T := T_Lin) (N := 7) hx hb hT in_Lin hown hK hP 2 rfl rfl 1 (by decide) (hT _ k_221) (fun _ h9 => h9) rfl d_Lin_read_99 ?_
          refine lv_bipush (v := 12) hx hb d_Lin_read_102 (by decide) ?_
          refine lv_icmp_gt (tgt := 126) hx hb d_Lin_read_104 (by decide) (fun h_122 => ?_) (fun h_122 => ?_)
          · have h_122n := mx_fLt (a := 12) (b := (a - a)) (by omega) (by omega) h_122
            refine lv_iconst (v := 0) hx hb d_Lin_read_126 (by decide) ?_
            exact mx_ri F hr hlk (by decide) hP hD hS [(li, .inr (4, [.int (nI a), .int (nI (a - a)), .int (-1 : Int32), .int (nI w_4), .int (nI w_4), .ref t, .ref op])), (t, .inl (K.2.1.2.2.1, 1600, .inl f)), (op, .inr (3, [.ref nm])), (nm, .inl (K.2.1.1, 262, .inr (.inl fn)))] [2, 3, 0, 1] rfl (by decide) ⟨(Or.inl rfl), ⟨a, (a - a), (-1 : Int32), w_4, w_4, (by first | assumption | omega | exact mx_ch_0), (by first | assumption | omega | exact mx_ch_0), (by first | assumption | omega | exact mx_ch_0), (by first | assumption | exact Or.inl rfl), rfl⟩⟩ (by decide) (by decide) d_Lin_read_127
          · have h_122n := mx_fNlt (a := 12) (b := (a - a)) (by omega) (by omega) h_122
            refine lv_iload_n hx hb d_Lin_read_107 rfl (lv_at hl 0 rfl) ?_
            refine lv_aload_n hx hb d_Lin_read_108 rfl (lv_at hl 1 rfl) ?_
            refine va_get (D := K.1) (ci := 4) (v := .int (nI w_4)) (C := R_Lin) (T := T_Lin) (N := 7) hx hb hT in_Lin hown hK hP 2 rfl rfl 4 (by decide) (hT _ k_227) (fun _ h9 => h9) rfl d_Lin_read_109 ?_
            refine lv_icmp_ge (tgt := 128) hx hb d_Lin_read_112 (by decide) (fun h_123 => ?_) (fun h_123 => ?_)
            · have h_123n := mx_fLe (a := w_4) (b := a) (by omega) (by omega) h_123
              refine lv_aload_n hx hb d_Lin_read_128 rfl (lv_at hl 1 rfl) ?_
              refine lv_iload_n hx hb d_Lin_read_129 rfl (lv_at hl 0 rfl) ?_
              refine mx_ci (wr := [(op, .inr (3, [.ref nm])), (nm, .inl (K.2.1.1, 262, .inr (.inl fn)))]) F (mx_runV (As := [.int (nI a)]) (rest := []) (n := 1) F (s_Lin_behindBlanks l K li a (-1) t op f a (a - a) w_4 w_4 H.size (by first | assumption | omega | exact mx_ch_0) (by first | assumption | omega | exact mx_ch_0)) k_444 (Or.inl k_441) k_443 sl_Lin_behindBlanks k_7 p_Lin_behindBlanks rfl rfl hP hD hS [2, 3] rfl (by decide) (va_recv (q := (R_Lin, T_Lin, 7)) (ci := 4) (q0 := 2) hK hP rfl rfl) rfl hl.1 rfl (Nat.le_of_ble_eq_true rfl) ⟨by decide, by decide⟩ ⟨by decide, by decide⟩ d_Lin_read_130) hP hD hS [2, 3] [0, 1] rfl rfl (by decide) (by decide) (fun r_125 _ H locs hq_124 hP hD hS => ?_)
              obtain ⟨rn_126, hf_127, hf_128, rfl⟩ := hq_124
              have hP : va_P K.1 mx_cl [(op, .inr (3, [.ref nm])), (nm, .inl (K.2.1.1, 262, .inr (.inl fn))), (li, .inr (4, [.int (nI a), .int (nI (a - a)), .int (-1), .int (nI w_4), .int (nI w_4), .ref t, .ref op])), (t, .inl (K.2.1.2.2.1, 1600, .inl f))] H := hP
              have hD : va_D A [(op, .inr (3, [.ref nm])), (nm, .inl (K.2.1.1, 262, .inr (.inl fn))), (li, .inr (4, [.int (nI a), .int (nI (a - a)), .int (-1), .int (nI w_4), .int (nI w_4), .ref t, .ref op])), (t, .inl (K.2.1.2.2.1, 1600, .inl f))] := hD
              refine W.cs (cells' := 0) (slots' := 0) rfl rfl ?_
              refine lv_istore_n (lv' := [(3, .int (nI rn_126)), (0, .ref li), (1, .int (nI a)), (2, .int (nI b))]) hx hb d_Lin_read_133 rfl hl (by decide) rfl (fun ls hl => ?_)
              refine lv_iload_n hx hb d_Lin_read_134 rfl (lv_at hl 0 rfl) ?_
              refine lv_aload_n hx hb d_Lin_read_135 rfl (lv_at hl 1 rfl) ?_
              refine va_get (D := K.1) (ci := 4) (v := .int (nI w_4)) (C := R_Lin) (T := T_Lin) (N := 7) hx hb hT in_Lin hown hK hP 2 rfl rfl 4 (by decide) (hT _ k_227) (fun _ h9 => h9) rfl d_Lin_read_136 ?_
              refine lv_icmp_ne (tgt := 155) hx hb d_Lin_read_139 (by decide) (fun h_129 => ?_) (fun h_129 => ?_)
              · have h_129n := mx_fNe (a := rn_126) (b := w_4) (by omega) (by omega) h_129
                refine lv_aload_n hx hb d_Lin_read_155 rfl (lv_at hl 1 rfl) ?_
                refine lv_iload_n hx hb d_Lin_read_156 rfl (lv_at hl 0 rfl) ?_
                refine mx_ci (wr := [(op, .inr (3, [.ref nm])), (nm, .inl (K.2.1.1, 262, .inr (.inl fn)))]) F (mx_runV (As := [.int (nI rn_126)]) (rest := []) (n := 1) F (s_Lin_blankFrom l K li rn_126 (-1) t op f a (a - a) w_4 w_4 H.size (by first | assumption | omega | exact mx_ch_0) (by first | assumption | omega | exact mx_ch_0)) k_448 (Or.inl k_445) k_447 sl_Lin_blankFrom k_7 p_Lin_blankFrom rfl rfl hP hD hS [2, 3] rfl (by decide) (va_recv (q := (R_Lin, T_Lin, 7)) (ci := 4) (q0 := 2) hK hP rfl rfl) rfl hl.1 rfl (Nat.le_of_ble_eq_true rfl) ⟨by decide, by decide⟩ ⟨by decide, by decide⟩ d_Lin_read_157) hP hD hS [2, 3] [0, 1] rfl rfl (by decide) (by decide) (fun r_131 _ H locs hq_130 hP hD hS => ?_)
                obtain ⟨rn_132, hf_133, hf_134, rfl⟩ := hq_130
                have hP : va_P K.1 mx_cl [(op, .inr (3, [.ref nm])), (nm, .inl (K.2.1.1, 262, .inr (.inl fn))), (li, .inr (4, [.int (nI a), .int (nI (a - a)), .int (-1), .int (nI w_4), .int (nI w_4), .ref t, .ref op])), (t, .inl (K.2.1.2.2.1, 1600, .inl f))] H := hP
                have hD : va_D A [(op, .inr (3, [.ref nm])), (nm, .inl (K.2.1.1, 262, .inr (.inl fn))), (li, .inr (4, [.int (nI a), .int (nI (a - a)), .int (-1), .int (nI w_4), .int (nI w_4), .ref t, .ref op])), (t, .inl (K.2.1.2.2.1, 1600, .inl f))] := hD
                refine W.cs (cells' := 0) (slots' := 0) rfl rfl ?_
                refine lv_istore (lv' := [(4, .int (nI rn_132)), (3, .int (nI rn_126)), (0, .ref li), (1, .int (nI a)), (2, .int (nI b))]) hx hb d_Lin_read_160 hl (by decide) rfl (fun ls hl => ?_)
                refine lv_aload_n hx hb d_Lin_read_162 rfl (lv_at hl 2 rfl) ?_
                refine lv_aload_n hx hb d_Lin_read_163 rfl (lv_at hl 2 rfl) ?_
                refine va_get (D := K.1) (ci := 4) (v := .ref op) (C := R_Lin) (T := T_Lin) (N := 7) hx hb hT in_Lin hown hK hP 2 rfl rfl 6 (by decide) (hT _ k_218) (fun _ h9 => h9) rfl d_Lin_read_164 ?_
                refine lv_aload_n hx hb d_Lin_read_167 rfl (lv_at hl 2 rfl) ?_
                refine va_get (D := K.1) (ci := 4) (v := .ref t) (C := R_Lin) (T := T_Lin) (N := 7) hx hb hT in_Lin hown hK hP 2 rfl rfl 5 (by decide) (hT _ k_217) (fun _ h9 => h9) rfl d_Lin_read_168 ?_
                refine lv_iload_n hx hb d_Lin_read_171 rfl (lv_at hl 1 rfl) ?_
                refine lv_iload hx hb d_Lin_read_172 (lv_at hl 0 rfl) ?_
                refine mx_ci (wr := [(li, .inr (4, [.int (nI a), .int (nI (a - a)), .int (-1), .int (nI w_4), .int (nI w_4), .ref t, .ref op]))]) F (mx_runV (As := [.ref t, .int (nI rn_126), .int (nI rn_132)]) (rest := [.ref li]) (n := 3) F (s_Opn_find l K op t rn_126 rn_132 nm fn f H.size (by first | assumption | omega | exact mx_ch_0) (by first | assumption | omega | exact mx_ch_0)) k_452 (Or.inl k_449) k_450 k_451 k_8 p_Opn_find rfl rfl hP hD hS [0, 1, 3] rfl (by decide) (va_recv (q := (R_Opn, T_Opn, 1)) (ci := 3) (q0 := 0) hK hP rfl rfl) rfl hl.1 rfl (Nat.le_of_ble_eq_true rfl) ⟨by decide, by decide⟩ ⟨by decide, by decide⟩ d_Lin_read_174) hP hD hS [0, 1, 3] [2] rfl rfl (by decide) (by decide) (fun r_136 _ H locs hq_135 hP hD hS => ?_)
                have hP : va_P K.1 mx_cl [(li, .inr (4, [.int (nI a), .int (nI (a - a)), .int (-1), .int (nI w_4), .int (nI w_4), .ref t, .ref op])), (op, .inr (3, [.ref nm])), (nm, .inl (K.2.1.1, 262, .inr (.inl fn))), (t, .inl (K.2.1.2.2.1, 1600, .inl f))] H := hP
                have hD : va_D A [(li, .inr (4, [.int (nI a), .int (nI (a - a)), .int (-1), .int (nI w_4), .int (nI w_4), .ref t, .ref op])), (op, .inr (3, [.ref nm])), (nm, .inl (K.2.1.1, 262, .inr (.inl fn))), (t, .inl (K.2.1.2.2.1, 1600, .inl f))] := hD
                refine W.cs (cells' := 0) (slots' := 0) rfl rfl ?_
                have hopq := hq_135
                refine va_put (D := K.1) (ci := 4) (v := .int r_136) (ty := .int) (C := R_Lin) (T := T_Lin) (N := 7) hx hb hT in_Lin t_Lin t_Lin_ok n_Lin hown hK hP hD hS 0 rfl rfl 2 (by decide) (hT _ k_223) (fun _ h9 => h9) rfl (by decide +kernel) rfl rfl (Nat.le_of_ble_eq_true rfl) d_Lin_read_177 (fun H locs hP hD hS => ?_)
                have hP : va_P K.1 mx_cl [(li, .inr (4, [.int (nI a), .int (nI (a - a)), .int r_136, .int (nI w_4), .int (nI w_4), .ref t, .ref op])), (op, .inr (3, [.ref nm])), (nm, .inl (K.2.1.1, 262, .inr (.inl fn))), (t, .inl (K.2.1.2.2.1, 1600, .inl f))] H := hP
                have hD : va_D A [(li, .inr (4, [.int (nI a), .int (nI (a - a)), .int r_136, .int (nI w_4), .int (nI w_4), .ref t, .ref op])), (op, .inr (3, [.ref nm])), (nm, .inl (K.2.1.1, 262, .inr (.inl fn))), (t, .inl (K.2.1.2.2.1, 1600, .inl f))] := hD
                refine lv_aload_n hx hb d_Lin_read_180 rfl (lv_at hl 2 rfl) ?_
                refine lv_aload_n hx hb d_Lin_read_181 rfl (lv_at hl 2 rfl) ?_
                refine lv_iload hx hb d_Lin_read_182 (lv_at hl 0 rfl) ?_
                refine mx_ci (wr := [(op, .inr (3, [.ref nm])), (nm, .inl (K.2.1.1, 262, .inr (.inl fn)))]) F (mx_runV (As := [.int (nI rn_132)]) (rest := [.ref li]) (n := 1) F (s_Lin_behindBlanks l K li rn_132 r_136 t op f a (a - a) w_4 w_4 H.size (by first | assumption | omega | exact mx_ch_0) (by first | assumption | omega | exact mx_ch_0)) k_444 (Or.inl k_441) k_443 sl_Lin_behindBlanks k_7 p_Lin_behindBlanks rfl rfl hP hD hS [0, 3] rfl (by decide) (va_recv (q := (R_Lin, T_Lin, 7)) (ci := 4) (q0 := 0) hK hP rfl rfl) rfl hl.1 rfl (Nat.le_of_ble_eq_true rfl) ⟨by decide, by decide⟩ ⟨by decide, by decide⟩ d_Lin_read_184) hP hD hS [0, 3] [1, 2] rfl rfl (by decide) (by decide) (fun r_138 _ H locs hq_137 hP hD hS => ?_)
                obtain ⟨rn_139, hf_140, hf_141, rfl⟩ := hq_137
                have hP : va_P K.1 mx_cl [(op, .inr (3, [.ref nm])), (nm, .inl (K.2.1.1, 262, .inr (.inl fn))), (li, .inr (4, [.int (nI a), .int (nI (a - a)), .int r_136, .int (nI w_4), .int (nI w_4), .ref t, .ref op])), (t, .inl (K.2.1.2.2.1, 1600, .inl f))] H := hP
                have hD : va_D A [(op, .inr (3, [.ref nm])), (nm, .inl (K.2.1.1, 262, .inr (.inl fn))), (li, .inr (4, [.int (nI a), .int (nI (a - a)), .int r_136, .int (nI w_4), .int (nI w_4), .ref t, .ref op])), (t, .inl (K.2.1.2.2.1, 1600, .inl f))] := hD
                refine W.cs (cells' := 0) (slots' := 0) rfl rfl ?_
                refine va_put (D := K.1) (ci := 4) (v := .int (nI rn_139)) (ty := .int) (C := R_Lin) (T := T_Lin) (N := 7) hx hb hT in_Lin t_Lin t_Lin_ok n_Lin hown hK hP hD hS 2 rfl rfl 3 (by decide) (hT _ k_225) (fun _ h9 => h9) rfl (by decide +kernel) rfl rfl (Nat.le_of_ble_eq_true rfl) d_Lin_read_187 (fun H locs hP hD hS => ?_)
                have hP : va_P K.1 mx_cl [(op, .inr (3, [.ref nm])), (nm, .inl (K.2.1.1, 262, .inr (.inl fn))), (li, .inr (4, [.int (nI a), .int (nI (a - a)), .int r_136, .int (nI rn_139), .int (nI w_4), .ref t, .ref op])), (t, .inl (K.2.1.2.2.1, 1600, .inl f))] H := hP
                have hD : va_D A [(op, .inr (3, [.ref nm])), (nm, .inl (K.2.1.1, 262, .inr (.inl fn))), (li, .inr (4, [.int (nI a), .int (nI (a - a)), .int r_136, .int (nI rn_139), .int (nI w_4), .ref t, .ref op])), (t, .inl (K.2.1.2.2.1, 1600, .inl f))] := hD
                refine lv_aload_n hx hb d_Lin_read_190 rfl (lv_at hl 2 rfl) ?_
                refine va_get (D := K.1) (ci := 4) (v := .int r_136) (C := R_Lin) (T := T_Lin) (N := 7) hx hb hT in_Lin hown hK hP 2 rfl rfl 2 (by decide) (hT _ k_223) (fun _ h9 => h9) rfl d_Lin_read_191 ?_
                refine lv_iconst (v := (-1)) hx hb d_Lin_read_194 (by decide) ?_
                refine lv_icmp_eq (tgt := 202) hx hb d_Lin_read_195 (by decide) (fun h_142 => ?_) (fun h_142 => ?_)
                · refine lv_iconst (v := 0) hx hb d_Lin_read_202 (by decide) ?_
                  exact mx_ri F hr hlk (by decide) hP hD hS [(li, .inr (4, [.int (nI a), .int (nI (a - a)), .int r_136, .int (nI rn_139), .int (nI w_4), .ref t, .ref op])), (t, .inl (K.2.1.2.2.1, 1600, .inl f)), (op, .inr (3, [.ref nm])), (nm, .inl (K.2.1.1, 262, .inr (.inl fn)))] [2, 3, 0, 1] rfl (by decide) ⟨(Or.inl rfl), ⟨a, (a - a), r_136, rn_139, w_4, (by first | assumption | omega | exact mx_ch_0), (by first | assumption | omega | exact mx_ch_0), (by first | assumption | omega | exact mx_ch_0), (by first | assumption | exact Or.inl rfl), rfl⟩⟩ (by decide) (by decide) d_Lin_read_203
                · refine lv_iconst (v := 1) hx hb d_Lin_read_198 (by decide) ?_
                  refine lv_goto (tgt := 203) hx hb d_Lin_read_199 (by decide) ?_
                  exact mx_ri F hr hlk (by decide) hP hD hS [(li, .inr (4, [.int (nI a), .int (nI (a - a)), .int r_136, .int (nI rn_139), .int (nI w_4), .ref t, .ref op])), (t, .inl (K.2.1.2.2.1, 1600, .inl f)), (op, .inr (3, [.ref nm])), (nm, .inl (K.2.1.1, 262, .inr (.inl fn)))] [2, 3, 0, 1] rfl (by decide) ⟨(Or.inr rfl), ⟨a, (a - a), r_136, rn_139, w_4, (by first | assumption | omega | exact mx_ch_0), (by first | assumption | omega | exact mx_ch_0), (by first | assumption | omega | exact mx_ch_0), (by first | assumption | exact Or.inl rfl), rfl⟩⟩ (by decide) (by decide) d_Lin_read_203
              · have h_129n := mx_fEq (a := rn_126) (b := w_4) (by omega) (by omega) h_129
                refine lv_aload_n hx hb d_Lin_read_142 rfl (lv_at hl 1 rfl) ?_
                refine va_get (D := K.1) (ci := 4) (v := .int (nI (a - a))) (C := R_Lin) (T := T_Lin) (N := 7) hx hb hT in_Lin hown hK hP 2 rfl rfl 1 (by decide) (hT _ k_221) (fun _ h9 => h9) rfl d_Lin_read_143 ?_
                refine lv_if_ne (tgt := 153) hx hb d_Lin_read_146 (by decide) (fun h_143 => ?_) (fun h_143 => ?_)
                · have h_143n := mx_fNe (a := (a - a)) (b := 0) (by omega) (by omega) h_143
                  refine lv_iconst (v := 0) hx hb d_Lin_read_153 (by decide) ?_
                  exact mx_ri F hr hlk (by decide) hP hD hS [(li, .inr (4, [.int (nI a), .int (nI (a - a)), .int (-1 : Int32), .int (nI w_4), .int (nI w_4), .ref t, .ref op])), (t, .inl (K.2.1.2.2.1, 1600, .inl f)), (op, .inr (3, [.ref nm])), (nm, .inl (K.2.1.1, 262, .inr (.inl fn)))] [2, 3, 0, 1] rfl (by decide) ⟨(Or.inl rfl), ⟨a, (a - a), (-1 : Int32), w_4, w_4, (by first | assumption | omega | exact mx_ch_0), (by first | assumption | omega | exact mx_ch_0), (by first | assumption | omega | exact mx_ch_0), (by first | assumption | exact Or.inl rfl), rfl⟩⟩ (by decide) (by decide) d_Lin_read_154
                · have h_143n := mx_fEq (a := (a - a)) (b := 0) (by omega) (by omega) h_143
                  refine lv_iconst (v := 1) hx hb d_Lin_read_149 (by decide) ?_
                  refine lv_goto (tgt := 154) hx hb d_Lin_read_150 (by decide) ?_
                  exact mx_ri F hr hlk (by decide) hP hD hS [(li, .inr (4, [.int (nI a), .int (nI (a - a)), .int (-1 : Int32), .int (nI w_4), .int (nI w_4), .ref t, .ref op])), (t, .inl (K.2.1.2.2.1, 1600, .inl f)), (op, .inr (3, [.ref nm])), (nm, .inl (K.2.1.1, 262, .inr (.inl fn)))] [2, 3, 0, 1] rfl (by decide) ⟨(Or.inr rfl), ⟨a, (a - a), (-1 : Int32), w_4, w_4, (by first | assumption | omega | exact mx_ch_0), (by first | assumption | omega | exact mx_ch_0), (by first | assumption | omega | exact mx_ch_0), (by first | assumption | exact Or.inl rfl), rfl⟩⟩ (by decide) (by decide) d_Lin_read_154
            · have h_123n := mx_fNle (a := w_4) (b := a) (by omega) (by omega) h_123
              refine lv_aload_n hx hb d_Lin_read_115 rfl (lv_at hl 1 rfl) ?_
              refine va_get (D := K.1) (ci := 4) (v := .ref t) (C := R_Lin) (T := T_Lin) (N := 7) hx hb hT in_Lin hown hK hP 2 rfl rfl 5 (by decide) (hT _ k_217) (fun _ h9 => h9) rfl d_Lin_read_116 ?_
              refine lv_iload_n hx hb d_Lin_read_119 rfl (lv_at hl 0 rfl) ?_
              refine va_cald hx hb hK hP 3 2 rfl rfl (i := nI a) (vp_in_nI (n := a) (N := 1600) (by omega) (by decide)) d_Lin_read_120 ?_
              refine lv_topi (fun z_144 ez_144 => ?_)
              refine lv_bipush (v := 32) hx hb d_Lin_read_121 (by decide) ?_
              refine lv_icmp_eq (tgt := 128) hx hb d_Lin_read_123 (by decide) (fun h_145 => ?_) (fun h_145 => ?_)
              · refine lv_aload_n hx hb d_Lin_read_128 rfl (lv_at hl 1 rfl) ?_
                refine lv_iload_n hx hb d_Lin_read_129 rfl (lv_at hl 0 rfl) ?_
                refine mx_ci (wr := [(op, .inr (3, [.ref nm])), (nm, .inl (K.2.1.1, 262, .inr (.inl fn)))]) F (mx_runV (As := [.int (nI a)]) (rest := []) (n := 1) F (s_Lin_behindBlanks l K li a (-1) t op f a (a - a) w_4 w_4 H.size (by first | assumption | omega | exact mx_ch_0) (by first | assumption | omega | exact mx_ch_0)) k_444 (Or.inl k_441) k_443 sl_Lin_behindBlanks k_7 p_Lin_behindBlanks rfl rfl hP hD hS [2, 3] rfl (by decide) (va_recv (q := (R_Lin, T_Lin, 7)) (ci := 4) (q0 := 2) hK hP rfl rfl) rfl hl.1 rfl (Nat.le_of_ble_eq_true rfl) ⟨by decide, by decide⟩ ⟨by decide, by decide⟩ d_Lin_read_130) hP hD hS [2, 3] [0, 1] rfl rfl (by decide) (by decide) (fun r_147 _ H locs hq_146 hP hD hS => ?_)
                obtain ⟨rn_148, hf_149, hf_150, rfl⟩ := hq_146
                have hP : va_P K.1 mx_cl [(op, .inr (3, [.ref nm])), (nm, .inl (K.2.1.1, 262, .inr (.inl fn))), (li, .inr (4, [.int (nI a), .int (nI (a - a)), .int (-1), .int (nI w_4), .int (nI w_4), .ref t, .ref op])), (t, .inl (K.2.1.2.2.1, 1600, .inl f))] H := hP
                have hD : va_D A [(op, .inr (3, [.ref nm])), (nm, .inl (K.2.1.1, 262, .inr (.inl fn))), (li, .inr (4, [.int (nI a), .int (nI (a - a)), .int (-1), .int (nI w_4), .int (nI w_4), .ref t, .ref op])), (t, .inl (K.2.1.2.2.1, 1600, .inl f))] := hD
                refine W.cs (cells' := 0) (slots' := 0) rfl rfl ?_
                refine lv_istore_n (lv' := [(3, .int (nI rn_148)), (0, .ref li), (1, .int (nI a)), (2, .int (nI b))]) hx hb d_Lin_read_133 rfl hl (by decide) rfl (fun ls hl => ?_)
                refine lv_iload_n hx hb d_Lin_read_134 rfl (lv_at hl 0 rfl) ?_
                refine lv_aload_n hx hb d_Lin_read_135 rfl (lv_at hl 1 rfl) ?_
                refine va_get (D := K.1) (ci := 4) (v := .int (nI w_4)) (C := R_Lin) (T := T_Lin) (N := 7) hx hb hT in_Lin hown hK hP 2 rfl rfl 4 (by decide) (hT _ k_227) (fun _ h9 => h9) rfl d_Lin_read_136 ?_
                refine lv_icmp_ne (tgt := 155) hx hb d_Lin_read_139 (by decide) (fun h_151 => ?_) (fun h_151 => ?_)
                · have h_151n := mx_fNe (a := rn_148) (b := w_4) (by omega) (by omega) h_151
                  refine lv_aload_n hx hb d_Lin_read_155 rfl (lv_at hl 1 rfl) ?_
                  refine lv_iload_n hx hb d_Lin_read_156 rfl (lv_at hl 0 rfl) ?_
                  refine mx_ci (wr := [(op, .inr (3, [.ref nm])), (nm, .inl (K.2.1.1, 262, .inr (.inl fn)))]) F (mx_runV (As := [.int (nI rn_148)]) (rest := []) (n := 1) F (s_Lin_blankFrom l K li rn_148 (-1) t op f a (a - a) w_4 w_4 H.size (by first | assumption | omega | exact mx_ch_0) (by first | assumption | omega | exact mx_ch_0)) k_448 (Or.inl k_445) k_447 sl_Lin_blankFrom k_7 p_Lin_blankFrom rfl rfl hP hD hS [2, 3] rfl (by decide) (va_recv (q := (R_Lin, T_Lin, 7)) (ci := 4) (q0 := 2) hK hP rfl rfl) rfl hl.1 rfl (Nat.le_of_ble_eq_true rfl) ⟨by decide, by decide⟩ ⟨by decide, by decide⟩ d_Lin_read_157) hP hD hS [2, 3] [0, 1] rfl rfl (by decide) (by decide) (fun r_153 _ H locs hq_152 hP hD hS => ?_)
                  obtain ⟨rn_154, hf_155, hf_156, rfl⟩ := hq_152
                  have hP : va_P K.1 mx_cl [(op, .inr (3, [.ref nm])), (nm, .inl (K.2.1.1, 262, .inr (.inl fn))), (li, .inr (4, [.int (nI a), .int (nI (a - a)), .int (-1), .int (nI w_4), .int (nI w_4), .ref t, .ref op])), (t, .inl (K.2.1.2.2.1, 1600, .inl f))] H := hP
                  have hD : va_D A [(op, .inr (3, [.ref nm])), (nm, .inl (K.2.1.1, 262, .inr (.inl fn))), (li, .inr (4, [.int (nI a), .int (nI (a - a)), .int (-1), .int (nI w_4), .int (nI w_4), .ref t, .ref op])), (t, .inl (K.2.1.2.2.1, 1600, .inl f))] := hD
                  refine W.cs (cells' := 0) (slots' := 0) rfl rfl ?_
                  refine lv_istore (lv' := [(4, .int (nI rn_154)), (3, .int (nI rn_148)), (0, .ref li), (1, .int (nI a)), (2, .int (nI b))]) hx hb d_Lin_read_160 hl (by decide) rfl (fun ls hl => ?_)
                  refine lv_aload_n hx hb d_Lin_read_162 rfl (lv_at hl 2 rfl) ?_
                  refine lv_aload_n hx hb d_Lin_read_163 rfl (lv_at hl 2 rfl) ?_
                  refine va_get (D := K.1) (ci := 4) (v := .ref op) (C := R_Lin) (T := T_Lin) (N := 7) hx hb hT in_Lin hown hK hP 2 rfl rfl 6 (by decide) (hT _ k_218) (fun _ h9 => h9) rfl d_Lin_read_164 ?_
                  refine lv_aload_n hx hb d_Lin_read_167 rfl (lv_at hl 2 rfl) ?_
                  refine va_get (D := K.1) (ci := 4) (v := .ref t) (C := R_Lin) (T := T_Lin) (N := 7) hx hb hT in_Lin hown hK hP 2 rfl rfl 5 (by decide) (hT _ k_217) (fun _ h9 => h9) rfl d_Lin_read_168 ?_
                  refine lv_iload_n hx hb d_Lin_read_171 rfl (lv_at hl 1 rfl) ?_
                  refine lv_iload hx hb d_Lin_read_172 (lv_at hl 0 rfl) ?_
                  refine mx_ci (wr := [(li, .inr (4, [.int (nI a), .int (nI (a - a)), .int (-1), .int (nI w_4), .int (nI w_4), .ref t, .ref op]))]) F (mx_runV (As := [.ref t, .int (nI rn_148), .int (nI rn_154)]) (rest := [.ref li]) (n := 3) F (s_Opn_find l K op t rn_148 rn_154 nm fn f H.size (by first | assumption | omega | exact mx_ch_0) (by first | assumption | omega | exact mx_ch_0)) k_452 (Or.inl k_449) k_450 k_451 k_8 p_Opn_find rfl rfl hP hD hS [0, 1, 3] rfl (by decide) (va_recv (q := (R_Opn, T_Opn, 1)) (ci := 3) (q0 := 0) hK hP rfl rfl) rfl hl.1 rfl (Nat.le_of_ble_eq_true rfl) ⟨by decide, by decide⟩ ⟨by decide, by decide⟩ d_Lin_read_174) hP hD hS [0, 1, 3] [2] rfl rfl (by decide) (by decide) (fun r_158 _ H locs hq_157 hP hD hS => ?_)
                  have hP : va_P K.1 mx_cl [(li, .inr (4, [.int (nI a), .int (nI (a - a)), .int (-1), .int (nI w_4), .int (nI w_4), .ref t, .ref op])), (op, .inr (3, [.ref nm])), (nm, .inl (K.2.1.1, 262, .inr (.inl fn))), (t, .inl (K.2.1.2.2.1, 1600, .inl f))] H := hP
                  have hD : va_D A [(li, .inr (4, [.int (nI a), .int (nI (a - a)), .int (-1), .int (nI w_4), .int (nI w_4), .ref t, .ref op])), (op, .inr (3, [.ref nm])), (nm, .inl (K.2.1.1, 262, .inr (.inl fn))), (t, .inl (K.2.1.2.2.1, 1600, .inl f))] := hD
                  refine W.cs (cells' := 0) (slots' := 0) rfl rfl ?_
                  have hopq := hq_157
                  refine va_put (D := K.1) (ci := 4) (v := .int r_158) (ty := .int) (C := R_Lin) (T := T_Lin) (N := 7) hx hb hT in_Lin t_Lin t_Lin_ok n_Lin hown hK hP hD hS 0 rfl rfl 2 (by decide) (hT _ k_223) (fun _ h9 => h9) rfl (by decide +kernel) rfl rfl (Nat.le_of_ble_eq_true rfl) d_Lin_read_177 (fun H locs hP hD hS => ?_)
                  have hP : va_P K.1 mx_cl [(li, .inr (4, [.int (nI a), .int (nI (a - a)), .int r_158, .int (nI w_4), .int (nI w_4), .ref t, .ref op])), (op, .inr (3, [.ref nm])), (nm, .inl (K.2.1.1, 262, .inr (.inl fn))), (t, .inl (K.2.1.2.2.1, 1600, .inl f))] H := hP
                  have hD : va_D A [(li, .inr (4, [.int (nI a), .int (nI (a - a)), .int r_158, .int (nI w_4), .int (nI w_4), .ref t, .ref op])), (op, .inr (3, [.ref nm])), (nm, .inl (K.2.1.1, 262, .inr (.inl fn))), (t, .inl (K.2.1.2.2.1, 1600, .inl f))] := hD
                  refine lv_aload_n hx hb d_Lin_read_180 rfl (lv_at hl 2 rfl) ?_
                  refine lv_aload_n hx hb d_Lin_read_181 rfl (lv_at hl 2 rfl) ?_
                  refine lv_iload hx hb d_Lin_read_182 (lv_at hl 0 rfl) ?_
                  refine mx_ci (wr := [(op, .inr (3, [.ref nm])), (nm, .inl (K.2.1.1, 262, .inr (.inl fn)))]) F (mx_runV (As := [.int (nI rn_154)]) (rest := [.ref li]) (n := 1) F (s_Lin_behindBlanks l K li rn_154 r_158 t op f a (a - a) w_4 w_4 H.size (by first | assumption | omega | exact mx_ch_0) (by first | assumption | omega | exact mx_ch_0)) k_444 (Or.inl k_441) k_443 sl_Lin_behindBlanks k_7 p_Lin_behindBlanks rfl rfl hP hD hS [0, 3] rfl (by decide) (va_recv (q := (R_Lin, T_Lin, 7)) (ci := 4) (q0 := 0) hK hP rfl rfl) rfl hl.1 rfl (Nat.le_of_ble_eq_true rfl) ⟨by decide, by decide⟩ ⟨by decide, by decide⟩ d_Lin_read_184) hP hD hS [0, 3] [1, 2] rfl rfl (by decide) (by decide) (fun r_160 _ H locs hq_159 hP hD hS => ?_)
                  obtain ⟨rn_161, hf_162, hf_163, rfl⟩ := hq_159
                  have hP : va_P K.1 mx_cl [(op, .inr (3, [.ref nm])), (nm, .inl (K.2.1.1, 262, .inr (.inl fn))), (li, .inr (4, [.int (nI a), .int (nI (a - a)), .int r_158, .int (nI w_4), .int (nI w_4), .ref t, .ref op])), (t, .inl (K.2.1.2.2.1, 1600, .inl f))] H := hP
                  have hD : va_D A [(op, .inr (3, [.ref nm])), (nm, .inl (K.2.1.1, 262, .inr (.inl fn))), (li, .inr (4, [.int (nI a), .int (nI (a - a)), .int r_158, .int (nI w_4), .int (nI w_4), .ref t, .ref op])), (t, .inl (K.2.1.2.2.1, 1600, .inl f))] := hD
                  refine W.cs (cells' := 0) (slots' := 0) rfl rfl ?_
                  refine va_put (D := K.1) (ci := 4) (v := .int (nI rn_161)) (ty := .int) (C := R_Lin) (T := T_Lin) (N := 7) hx hb hT in_Lin t_Lin t_Lin_ok n_Lin hown hK hP hD hS 2 rfl rfl 3 (by decide) (hT _ k_225) (fun _ h9 => h9) rfl (by decide +kernel) rfl rfl (Nat.le_of_ble_eq_true rfl) d_Lin_read_187 (fun H locs hP hD hS => ?_)
                  have hP : va_P K.1 mx_cl [(op, .inr (3, [.ref nm])), (nm, .inl (K.2.1.1, 262, .inr (.inl fn))), (li, .inr (4, [.int (nI a), .int (nI (a - a)), .int r_158, .int (nI rn_161), .int (nI w_4), .ref t, .ref op])), (t, .inl (K.2.1.2.2.1, 1600, .inl f))] H := hP
                  have hD : va_D A [(op, .inr (3, [.ref nm])), (nm, .inl (K.2.1.1, 262, .inr (.inl fn))), (li, .inr (4, [.int (nI a), .int (nI (a - a)), .int r_158, .int (nI rn_161), .int (nI w_4), .ref t, .ref op])), (t, .inl (K.2.1.2.2.1, 1600, .inl f))] := hD
                  refine lv_aload_n hx hb d_Lin_read_190 rfl (lv_at hl 2 rfl) ?_
                  refine va_get (D := K.1) (ci := 4) (v := .int r_158) (C := R_Lin) (T := T_Lin) (N := 7) hx hb hT in_Lin hown hK hP 2 rfl rfl 2 (by decide) (hT _ k_223) (fun _ h9 => h9) rfl d_Lin_read_191 ?_
                  refine lv_iconst (v := (-1)) hx hb d_Lin_read_194 (by decide) ?_
                  refine lv_icmp_eq (tgt := 202) hx hb d_Lin_read_195 (by decide) (fun h_164 => ?_) (fun h_164 => ?_)
                  · refine lv_iconst (v := 0) hx hb d_Lin_read_202 (by decide) ?_
                    exact mx_ri F hr hlk (by decide) hP hD hS [(li, .inr (4, [.int (nI a), .int (nI (a - a)), .int r_158, .int (nI rn_161), .int (nI w_4), .ref t, .ref op])), (t, .inl (K.2.1.2.2.1, 1600, .inl f)), (op, .inr (3, [.ref nm])), (nm, .inl (K.2.1.1, 262, .inr (.inl fn)))] [2, 3, 0, 1] rfl (by decide) ⟨(Or.inl rfl), ⟨a, (a - a), r_158, rn_161, w_4, (by first | assumption | omega | exact mx_ch_0), (by first | assumption | omega | exact mx_ch_0), (by first | assumption | omega | exact mx_ch_0), (by first | assumption | exact Or.inl rfl), rfl⟩⟩ (by decide) (by decide) d_Lin_read_203
                  · refine lv_iconst (v := 1) hx hb d_Lin_read_198 (by decide) ?_
                    refine lv_goto (tgt := 203) hx hb d_Lin_read_199 (by decide) ?_
                    exact mx_ri F hr hlk (by decide) hP hD hS [(li, .inr (4, [.int (nI a), .int (nI (a - a)), .int r_158, .int (nI rn_161), .int (nI w_4), .ref t, .ref op])), (t, .inl (K.2.1.2.2.1, 1600, .inl f)), (op, .inr (3, [.ref nm])), (nm, .inl (K.2.1.1, 262, .inr (.inl fn)))] [2, 3, 0, 1] rfl (by decide) ⟨(Or.inr rfl), ⟨a, (a - a), r_158, rn_161, w_4, (by first | assumption | omega | exact mx_ch_0), (by first | assumption | omega | exact mx_ch_0), (by first | assumption | omega | exact mx_ch_0), (by first | assumption | exact Or.inl rfl), rfl⟩⟩ (by decide) (by decide) d_Lin_read_203
                · have h_151n := mx_fEq (a := rn_148) (b := w_4) (by omega) (by omega) h_151
                  refine lv_aload_n hx hb d_Lin_read_142 rfl (lv_at hl 1 rfl) ?_
                  refine va_get (D := K.1) (ci := 4) (v := .int (nI (a - a))) (C := R_Lin) (T := T_Lin) (N := 7) hx hb hT in_Lin hown hK hP 2 rfl rfl 1 (by decide) (hT _ k_221) (fun _ h9 => h9) rfl d_Lin_read_143 ?_
                  refine lv_if_ne (tgt := 153) hx hb d_Lin_read_146 (by decide) (fun h_165 => ?_) (fun h_165 => ?_)
                  · have h_165n := mx_fNe (a := (a - a)) (b := 0) (by omega) (by omega) h_165
                    refine lv_iconst (v := 0) hx hb d_Lin_read_153 (by decide) ?_
                    exact mx_ri F hr hlk (by decide) hP hD hS [(li, .inr (4, [.int (nI a), .int (nI (a - a)), .int (-1 : Int32), .int (nI w_4), .int (nI w_4), .ref t, .ref op])), (t, .inl (K.2.1.2.2.1, 1600, .inl f)), (op, .inr (3, [.ref nm])), (nm, .inl (K.2.1.1, 262, .inr (.inl fn)))] [2, 3, 0, 1] rfl (by decide) ⟨(Or.inl rfl), ⟨a, (a - a), (-1 : Int32), w_4, w_4, (by first | assumption | omega | exact mx_ch_0), (by first | assumption | omega | exact mx_ch_0), (by first | assumption | omega | exact mx_ch_0), (by first | assumption | exact Or.inl rfl), rfl⟩⟩ (by decide) (by decide) d_Lin_read_154
                  · have h_165n := mx_fEq (a := (a - a)) (b := 0) (by omega) (by omega) h_165
                    refine lv_iconst (v := 1) hx hb d_Lin_read_149 (by decide) ?_
                    refine lv_goto (tgt := 154) hx hb d_Lin_read_150 (by decide) ?_
                    exact mx_ri F hr hlk (by decide) hP hD hS [(li, .inr (4, [.int (nI a), .int (nI (a - a)), .int (-1 : Int32), .int (nI w_4), .int (nI w_4), .ref t, .ref op])), (t, .inl (K.2.1.2.2.1, 1600, .inl f)), (op, .inr (3, [.ref nm])), (nm, .inl (K.2.1.1, 262, .inr (.inl fn)))] [2, 3, 0, 1] rfl (by decide) ⟨(Or.inr rfl), ⟨a, (a - a), (-1 : Int32), w_4, w_4, (by first | assumption | omega | exact mx_ch_0), (by first | assumption | omega | exact mx_ch_0), (by first | assumption | omega | exact mx_ch_0), (by first | assumption | exact Or.inl rfl), rfl⟩⟩ (by decide) (by decide) d_Lin_read_154
              · refine lv_iconst (v := 0) hx hb d_Lin_read_126 (by decide) ?_
                exact mx_ri F hr hlk (by decide) hP hD hS [(li, .inr (4, [.int (nI a), .int (nI (a - a)), .int (-1 : Int32), .int (nI w_4), .int (nI w_4), .ref t, .ref op])), (t, .inl (K.2.1.2.2.1, 1600, .inl f)), (op, .inr (3, [.ref nm])), (nm, .inl (K.2.1.1, 262, .inr (.inl fn)))] [2, 3, 0, 1] rfl (by decide) ⟨(Or.inl rfl), ⟨a, (a - a), (-1 : Int32), w_4, w_4, (by first | assumption | omega | exact mx_ch_0), (by first | assumption | omega | exact mx_ch_0), (by first | assumption | omega | exact mx_ch_0), (by first | assumption | exact Or.inl rfl), rfl⟩⟩ (by decide) (by decide) d_Lin_read_127
        · have h_120n := mx_fNe (a := rb_119) (b := 0) (by omega) (by omega) h_120
          refine lv_aload_n hx hb d_Lin_read_74 rfl (lv_at hl 0 rfl) ?_
          refine va_get (D := K.1) (ci := 4) (v := .ref t) (C := R_Lin) (T := T_Lin) (N := 7) hx hb hT in_Lin hown hK hP 2 rfl rfl 5 (by decide) (hT _ k_217) (fun _ h9 => h9) rfl d_Lin_read_75 ?_
          refine lv_iload_n hx hb d_Lin_read_78 rfl (lv_at hl 1 rfl) ?_
          refine lv_aload_n hx hb d_Lin_read_79 rfl (lv_at hl 0 rfl) ?_
          refine va_get (D := K.1) (ci := 4) (v := .int (nI w_4)) (C := R_Lin) (T := T_Lin) (N := 7) hx hb hT in_Lin hown hK hP 2 rfl rfl 4 (by decide) (hT _ k_227) (fun _ h9 => h9) rfl d_Lin_read_80 ?_
          refine mx_ci (wr := [(op, .inr (3, [.ref nm])), (nm, .inl (K.2.1.1, 262, .inr (.inl fn))), (li, .inr (4, [.int (nI a), .int 0, .int (-1), .int (nI w_4), .int (nI w_4), .ref t, .ref op]))]) F (mx_runS (As := [.ref t, .int (nI a), .int (nI w_4)]) (rest := []) (n := 3) F (s_Lin_nameEnd l K t a w_4 f H.size (by first | assumption | omega | exact mx_ch_0) (by first | assumption | omega | exact mx_ch_0)) k_437 (Or.inl k_435) k_436 k_7 p_Lin_nameEnd rfl rfl hP hD hS [3] rfl (by decide)  rfl hl.1 rfl (Nat.le_of_ble_eq_true rfl) ⟨by decide, by decide⟩ ⟨by decide, by decide⟩ d_Lin_read_83) hP hD hS [3] [0, 1, 2] rfl rfl (by decide) (by decide) (fun r_167 _ H locs hq_166 hP hD hS => ?_)
          obtain ⟨rn_168, hf_169, hf_170, rfl⟩ := hq_166
          have hP : va_P K.1 mx_cl [(op, .inr (3, [.ref nm])), (nm, .inl (K.2.1.1, 262, .inr (.inl fn))), (li, .inr (4, [.int (nI a), .int 0, .int (-1), .int (nI w_4), .int (nI w_4), .ref t, .ref op])), (t, .inl (K.2.1.2.2.1, 1600, .inl f))] H := hP
          have hD : va_D A [(op, .inr (3, [.ref nm])), (nm, .inl (K.2.1.1, 262, .inr (.inl fn))), (li, .inr (4, [.int (nI a), .int 0, .int (-1), .int (nI w_4), .int (nI w_4), .ref t, .ref op])), (t, .inl (K.2.1.2.2.1, 1600, .inl f))] := hD
          refine W.cs (cells' := 0) (slots' := 0) rfl rfl ?_
          refine lv_goto (tgt := 90) hx hb d_Lin_read_86 (by decide) ?_
          refine lv_istore_n (lv' := [(3, .int (nI rn_168)), (0, .ref li), (1, .int (nI a)), (2, .int (nI b))]) hx hb d_Lin_read_90 rfl hl (by decide) rfl (fun ls hl => ?_)
          refine lv_aload_n hx hb d_Lin_read_91 rfl (lv_at hl 1 rfl) ?_
          refine lv_iload_n hx hb d_Lin_read_92 rfl (lv_at hl 0 rfl) ?_
          refine lv_iload_n hx hb d_Lin_read_93 rfl (lv_at hl 2 rfl) ?_
          refine lv_isub hx hb d_Lin_read_94 ?_
          refine lv_topi (fun z_171 ez_171 => ?_)
          obtain rfl : z_171 = nI (rn_168 - a) := ez_171.trans (pk_sub (a := rn_168) (b := a) (by omega))
          refine va_put (D := K.1) (ci := 4) (v := .int (nI (rn_168 - a))) (ty := .int) (C := R_Lin) (T := T_Lin) (N := 7) hx hb hT in_Lin t_Lin t_Lin_ok n_Lin hown hK hP hD hS 2 rfl rfl 1 (by decide) (hT _ k_221) (fun _ h9 => h9) rfl (by decide +kernel) rfl rfl (Nat.le_of_ble_eq_true rfl) d_Lin_read_95 (fun H locs hP hD hS => ?_)
          have hP : va_P K.1 mx_cl [(op, .inr (3, [.ref nm])), (nm, .inl (K.2.1.1, 262, .inr (.inl fn))), (li, .inr (4, [.int (nI a), .int (nI (rn_168 - a)), .int (-1), .int (nI w_4), .int (nI w_4), .ref t, .ref op])), (t, .inl (K.2.1.2.2.1, 1600, .inl f))] H := hP
          have hD : va_D A [(op, .inr (3, [.ref nm])), (nm, .inl (K.2.1.1, 262, .inr (.inl fn))), (li, .inr (4, [.int (nI a), .int (nI (rn_168 - a)), .int (-1), .int (nI w_4), .int (nI w_4), .ref t, .ref op])), (t, .inl (K.2.1.2.2.1, 1600, .inl f))] := hD
          refine lv_aload_n hx hb d_Lin_read_98 rfl (lv_at hl 1 rfl) ?_
          refine va_get (D := K.1) (ci := 4) (v := .int (nI (rn_168 - a))) (C := R_Lin) (T := T_Lin) (N := 7) hx hb hT in_Lin hown hK hP 2 rfl rfl 1 (by decide) (hT _ k_221) (fun _ h9 => h9) rfl d_Lin_read_99 ?_
          refine lv_bipush (v := 12) hx hb d_Lin_read_102 (by decide) ?_
          refine lv_icmp_gt (tgt := 126) hx hb d_Lin_read_104 (by decide) (fun h_172 => ?_) (fun h_172 => ?_)
          · have h_172n := mx_fLt (a := 12) (b := (rn_168 - a)) (by omega) (by omega) h_172
            refine lv_iconst (v := 0) hx hb d_Lin_read_126 (by decide) ?_
            exact mx_ri F hr hlk (by decide) hP hD hS [(li, .inr (4, [.int (nI a), .int (nI (rn_168 - a)), .int (-1 : Int32), .int (nI w_4), .int (nI w_4), .ref t, .ref op])), (t, .inl (K.2.1.2.2.1, 1600, .inl f)), (op, .inr (3, [.ref nm])), (nm, .inl (K.2.1.1, 262, .inr (.inl fn)))] [2, 3, 0, 1] rfl (by decide) ⟨(Or.inl rfl), ⟨a, (rn_168 - a), (-1 : Int32), w_4, w_4, (by first | assumption | omega | exact mx_ch_0), (by first | assumption | omega | exact mx_ch_0), (by first | assumption | omega | exact mx_ch_0), (by first | assumption | exact Or.inl rfl), rfl⟩⟩ (by decide) (by decide) d_Lin_read_127
          · have h_172n := mx_fNlt (a := 12) (b := (rn_168 - a)) (by omega) (by omega) h_172
            refine lv_iload_n hx hb d_Lin_read_107 rfl (lv_at hl 0 rfl) ?_
            refine lv_aload_n hx hb d_Lin_read_108 rfl (lv_at hl 1 rfl) ?_
            refine va_get (D := K.1) (ci := 4) (v := .int (nI w_4)) (C := R_Lin) (T := T_Lin) (N := 7) hx hb hT in_Lin hown hK hP 2 rfl rfl 4 (by decide) (hT _ k_227) (fun _ h9 => h9) rfl d_Lin_read_109 ?_
            refine lv_icmp_ge (tgt := 128) hx hb d_Lin_read_112 (by decide) (fun h_173 => ?_) (fun h_173 => ?_)
            · have h_173n := mx_fLe (a := w_4) (b := rn_168) (by omega) (by omega) h_173
              refine lv_aload_n hx hb d_Lin_read_128 rfl (lv_at hl 1 rfl) ?_
              refine lv_iload_n hx hb d_Lin_read_129 rfl (lv_at hl 0 rfl) ?_
              refine mx_ci (wr := [(op, .inr (3, [.ref nm])), (nm, .inl (K.2.1.1, 262, .inr (.inl fn)))]) F (mx_runV (As := [.int (nI rn_168)]) (rest := []) (n := 1) F (s_Lin_behindBlanks l K li rn_168 (-1) t op f a (rn_168 - a) w_4 w_4 H.size (by first | assumption | omega | exact mx_ch_0) (by first | assumption | omega | exact mx_ch_0)) k_444 (Or.inl k_441) k_443 sl_Lin_behindBlanks k_7 p_Lin_behindBlanks rfl rfl hP hD hS [2, 3] rfl (by decide) (va_recv (q := (R_Lin, T_Lin, 7)) (ci := 4) (q0 := 2) hK hP rfl rfl) rfl hl.1 rfl (Nat.le_of_ble_eq_true rfl) ⟨by decide, by decide⟩ ⟨by decide, by decide⟩ d_Lin_read_130) hP hD hS [2, 3] [0, 1] rfl rfl (by decide) (by decide) (fun r_175 _ H locs hq_174 hP hD hS => ?_)
              obtain ⟨rn_176, hf_177, hf_178, rfl⟩ := hq_174
              have hP : va_P K.1 mx_cl [(op, .inr (3, [.ref nm])), (nm, .inl (K.2.1.1, 262, .inr (.inl fn))), (li, .inr (4, [.int (nI a), .int (nI (rn_168 - a)), .int (-1), .int (nI w_4), .int (nI w_4), .ref t, .ref op])), (t, .inl (K.2.1.2.2.1, 1600, .inl f))] H := hP
              have hD : va_D A [(op, .inr (3, [.ref nm])), (nm, .inl (K.2.1.1, 262, .inr (.inl fn))), (li, .inr (4, [.int (nI a), .int (nI (rn_168 - a)), .int (-1), .int (nI w_4), .int (nI w_4), .ref t, .ref op])), (t, .inl (K.2.1.2.2.1, 1600, .inl f))] := hD
              refine W.cs (cells' := 0) (slots' := 0) rfl rfl ?_
              refine lv_istore_n (lv' := [(3, .int (nI rn_176)), (0, .ref li), (1, .int (nI a)), (2, .int (nI b))]) hx hb d_Lin_read_133 rfl hl (by decide) rfl (fun ls hl => ?_)
              refine lv_iload_n hx hb d_Lin_read_134 rfl (lv_at hl 0 rfl) ?_
              refine lv_aload_n hx hb d_Lin_read_135 rfl (lv_at hl 1 rfl) ?_
              refine va_get (D := K.1) (ci := 4) (v := .int (nI w_4)) (C := R_Lin) (T := T_Lin) (N := 7) hx hb hT in_Lin hown hK hP 2 rfl rfl 4 (by decide) (hT _ k_227) (fun _ h9 => h9) rfl d_Lin_read_136 ?_
              refine lv_icmp_ne (tgt := 155) hx hb d_Lin_read_139 (by decide) (fun h_179 => ?_) (fun h_179 => ?_)
              · have h_179n := mx_fNe (a := rn_176) (b := w_4) (by omega) (by omega) h_179
                refine lv_aload_n hx hb d_Lin_read_155 rfl (lv_at hl 1 rfl) ?_
                refine lv_iload_n hx hb d_Lin_read_156 rfl (lv_at hl 0 rfl) ?_
                refine mx_ci (wr := [(op, .inr (3, [.ref nm])), (nm, .inl (K.2.1.1, 262, .inr (.inl fn)))]) F (mx_runV (As := [.int (nI rn_176)]) (rest := []) (n := 1) F (s_Lin_blankFrom l K li rn_176 (-1) t op f a (rn_168 - a) w_4 w_4 H.size (by first | assumption | omega | exact mx_ch_0) (by first | assumption | omega | exact mx_ch_0)) k_448 (Or.inl k_445) k_447 sl_Lin_blankFrom k_7 p_Lin_blankFrom rfl rfl hP hD hS [2, 3] rfl (by decide) (va_recv (q := (R_Lin, T_Lin, 7)) (ci := 4) (q0 := 2) hK hP rfl rfl) rfl hl.1 rfl (Nat.le_of_ble_eq_true rfl) ⟨by decide, by decide⟩ ⟨by decide, by decide⟩ d_Lin_read_157) hP hD hS [2, 3] [0, 1] rfl rfl (by decide) (by decide) (fun r_181 _ H locs hq_180 hP hD hS => ?_)
                obtain ⟨rn_182, hf_183, hf_184, rfl⟩ := hq_180
                have hP : va_P K.1 mx_cl [(op, .inr (3, [.ref nm])), (nm, .inl (K.2.1.1, 262, .inr (.inl fn))), (li, .inr (4, [.int (nI a), .int (nI (rn_168 - a)), .int (-1), .int (nI w_4), .int (nI w_4), .ref t, .ref op])), (t, .inl (K.2.1.2.2.1, 1600, .inl f))] H := hP
                have hD : va_D A [(op, .inr (3, [.ref nm])), (nm, .inl (K.2.1.1, 262, .inr (.inl fn))), (li, .inr (4, [.int (nI a), .int (nI (rn_168 - a)), .int (-1), .int (nI w_4), .int (nI w_4), .ref t, .ref op])), (t, .inl (K.2.1.2.2.1, 1600, .inl f))] := hD
                refine W.cs (cells' := 0) (slots' := 0) rfl rfl ?_
                refine lv_istore (lv' := [(4, .int (nI rn_182)), (3, .int (nI rn_176)), (0, .ref li), (1, .int (nI a)), (2, .int (nI b))]) hx hb d_Lin_read_160 hl (by decide) rfl (fun ls hl => ?_)
                refine lv_aload_n hx hb d_Lin_read_162 rfl (lv_at hl 2 rfl) ?_
                refine lv_aload_n hx hb d_Lin_read_163 rfl (lv_at hl 2 rfl) ?_
                refine va_get (D := K.1) (ci := 4) (v := .ref op) (C := R_Lin) (T := T_Lin) (N := 7) hx hb hT in_Lin hown hK hP 2 rfl rfl 6 (by decide) (hT _ k_218) (fun _ h9 => h9) rfl d_Lin_read_164 ?_
                refine lv_aload_n hx hb d_Lin_read_167 rfl (lv_at hl 2 rfl) ?_
                refine va_get (D := K.1) (ci := 4) (v := .ref t) (C := R_Lin) (T := T_Lin) (N := 7) hx hb hT in_Lin hown hK hP 2 rfl rfl 5 (by decide) (hT _ k_217) (fun _ h9 => h9) rfl d_Lin_read_168 ?_
                refine lv_iload_n hx hb d_Lin_read_171 rfl (lv_at hl 1 rfl) ?_
                refine lv_iload hx hb d_Lin_read_172 (lv_at hl 0 rfl) ?_
                refine mx_ci (wr := [(li, .inr (4, [.int (nI a), .int (nI (rn_168 - a)), .int (-1), .int (nI w_4), .int (nI w_4), .ref t, .ref op]))]) F (mx_runV (As := [.ref t, .int (nI rn_176), .int (nI rn_182)]) (rest := [.ref li]) (n := 3) F (s_Opn_find l K op t rn_176 rn_182 nm fn f H.size (by first | assumption | omega | exact mx_ch_0) (by first | assumption | omega | exact mx_ch_0)) k_452 (Or.inl k_449) k_450 k_451 k_8 p_Opn_find rfl rfl hP hD hS [0, 1, 3] rfl (by decide) (va_recv (q := (R_Opn, T_Opn, 1)) (ci := 3) (q0 := 0) hK hP rfl rfl) rfl hl.1 rfl (Nat.le_of_ble_eq_true rfl) ⟨by decide, by decide⟩ ⟨by decide, by decide⟩ d_Lin_read_174) hP hD hS [0, 1, 3] [2] rfl rfl (by decide) (by decide) (fun r_186 _ H locs hq_185 hP hD hS => ?_)
                have hP : va_P K.1 mx_cl [(li, .inr (4, [.int (nI a), .int (nI (rn_168 - a)), .int (-1), .int (nI w_4), .int (nI w_4), .ref t, .ref op])), (op, .inr (3, [.ref nm])), (nm, .inl (K.2.1.1, 262, .inr (.inl fn))), (t, .inl (K.2.1.2.2.1, 1600, .inl f))] H := hP
                have hD : va_D A [(li, .inr (4, [.int (nI a), .int (nI (rn_168 - a)), .int (-1), .int (nI w_4), .int (nI w_4), .ref t, .ref op])), (op, .inr (3, [.ref nm])), (nm, .inl (K.2.1.1, 262, .inr (.inl fn))), (t, .inl (K.2.1.2.2.1, 1600, .inl f))] := hD
                refine W.cs (cells' := 0) (slots' := 0) rfl rfl ?_
                have hopq := hq_185
                refine va_put (D := K.1) (ci := 4) (v := .int r_186) (ty := .int) (C := R_Lin) (T := T_Lin) (N := 7) hx hb hT in_Lin t_Lin t_Lin_ok n_Lin hown hK hP hD hS 0 rfl rfl 2 (by decide) (hT _ k_223) (fun _ h9 => h9) rfl (by decide +kernel) rfl rfl (Nat.le_of_ble_eq_true rfl) d_Lin_read_177 (fun H locs hP hD hS => ?_)
                have hP : va_P K.1 mx_cl [(li, .inr (4, [.int (nI a), .int (nI (rn_168 - a)), .int r_186, .int (nI w_4), .int (nI w_4), .ref t, .ref op])), (op, .inr (3, [.ref nm])), (nm, .inl (K.2.1.1, 262, .inr (.inl fn))), (t, .inl (K.2.1.2.2.1, 1600, .inl f))] H := hP
                have hD : va_D A [(li, .inr (4, [.int (nI a), .int (nI (rn_168 - a)), .int r_186, .int (nI w_4), .int (nI w_4), .ref t, .ref op])), (op, .inr (3, [.ref nm])), (nm, .inl (K.2.1.1, 262, .inr (.inl fn))), (t, .inl (K.2.1.2.2.1, 1600, .inl f))] := hD
                refine lv_aload_n hx hb d_Lin_read_180 rfl (lv_at hl 2 rfl) ?_
                refine lv_aload_n hx hb d_Lin_read_181 rfl (lv_at hl 2 rfl) ?_
                refine lv_iload hx hb d_Lin_read_182 (lv_at hl 0 rfl) ?_
                refine mx_ci (wr := [(op, .inr (3, [.ref nm])), (nm, .inl (K.2.1.1, 262, .inr (.inl fn)))]) F (mx_runV (As := [.int (nI rn_182)]) (rest := [.ref li]) (n := 1) F (s_Lin_behindBlanks l K li rn_182 r_186 t op f a (rn_168 - a) w_4 w_4 H.size (by first | assumption | omega | exact mx_ch_0) (by first | assumption | omega | exact mx_ch_0)) k_444 (Or.inl k_441) k_443 sl_Lin_behindBlanks k_7 p_Lin_behindBlanks rfl rfl hP hD hS [0, 3] rfl (by decide) (va_recv (q := (R_Lin, T_Lin, 7)) (ci := 4) (q0 := 0) hK hP rfl rfl) rfl hl.1 rfl (Nat.le_of_ble_eq_true rfl) ⟨by decide, by decide⟩ ⟨by decide, by decide⟩ d_Lin_read_184) hP hD hS [0, 3] [1, 2] rfl rfl (by decide) (by decide) (fun r_188 _ H locs hq_187 hP hD hS => ?_)
                obtain ⟨rn_189, hf_190, hf_191, rfl⟩ := hq_187
                have hP : va_P K.1 mx_cl [(op, .inr (3, [.ref nm])), (nm, .inl (K.2.1.1, 262, .inr (.inl fn))), (li, .inr (4, [.int (nI a), .int (nI (rn_168 - a)), .int r_186, .int (nI w_4), .int (nI w_4), .ref t, .ref op])), (t, .inl (K.2.1.2.2.1, 1600, .inl f))] H := hP
                have hD : va_D A [(op, .inr (3, [.ref nm])), (nm, .inl (K.2.1.1, 262, .inr (.inl fn))), (li, .inr (4, [.int (nI a), .int (nI (rn_168 - a)), .int r_186, .int (nI w_4), .int (nI w_4), .ref t, .ref op])), (t, .inl (K.2.1.2.2.1, 1600, .inl f))] := hD
                refine W.cs (cells' := 0) (slots' := 0) rfl rfl ?_
                refine va_put (D := K.1) (ci := 4) (v := .int (nI rn_189)) (ty := .int) (C := R_Lin) (T := T_Lin) (N := 7) hx hb hT in_Lin t_Lin t_Lin_ok n_Lin hown hK hP hD hS 2 rfl rfl 3 (by decide) (hT _ k_225) (fun _ h9 => h9) rfl (by decide +kernel) rfl rfl (Nat.le_of_ble_eq_true rfl) d_Lin_read_187 (fun H locs hP hD hS => ?_)
                have hP : va_P K.1 mx_cl [(op, .inr (3, [.ref nm])), (nm, .inl (K.2.1.1, 262, .inr (.inl fn))), (li, .inr (4, [.int (nI a), .int (nI (rn_168 - a)), .int r_186, .int (nI rn_189), .int (nI w_4), .ref t, .ref op])), (t, .inl (K.2.1.2.2.1, 1600, .inl f))] H := hP
                have hD : va_D A [(op, .inr (3, [.ref nm])), (nm, .inl (K.2.1.1, 262, .inr (.inl fn))), (li, .inr (4, [.int (nI a), .int (nI (rn_168 - a)), .int r_186, .int (nI rn_189), .int (nI w_4), .ref t, .ref op])), (t, .inl (K.2.1.2.2.1, 1600, .inl f))] := hD
                refine lv_aload_n hx hb d_Lin_read_190 rfl (lv_at hl 2 rfl) ?_
                refine va_get (D := K.1) (ci := 4) (v := .int r_186) (C := R_Lin) (T := T_Lin) (N := 7) hx hb hT in_Lin hown hK hP 2 rfl rfl 2 (by decide) (hT _ k_223) (fun _ h9 => h9) rfl d_Lin_read_191 ?_
                refine lv_iconst (v := (-1)) hx hb d_Lin_read_194 (by decide) ?_
                refine lv_icmp_eq (tgt := 202) hx hb d_Lin_read_195 (by decide) (fun h_192 => ?_) (fun h_192 => ?_)
                · refine lv_iconst (v := 0) hx hb d_Lin_read_202 (by decide) ?_
                  exact mx_ri F hr hlk (by decide) hP hD hS [(li, .inr (4, [.int (nI a), .int (nI (rn_168 - a)), .int r_186, .int (nI rn_189), .int (nI w_4), .ref t, .ref op])), (t, .inl (K.2.1.2.2.1, 1600, .inl f)), (op, .inr (3, [.ref nm])), (nm, .inl (K.2.1.1, 262, .inr (.inl fn)))] [2, 3, 0, 1] rfl (by decide) ⟨(Or.inl rfl), ⟨a, (rn_168 - a), r_186, rn_189, w_4, (by first | assumption | omega | exact mx_ch_0), (by first | assumption | omega | exact mx_ch_0), (by first | assumption | omega | exact mx_ch_0), (by first | assumption | exact Or.inl rfl), rfl⟩⟩ (by decide) (by decide) d_Lin_read_203
                · refine lv_iconst (v := 1) hx hb d_Lin_read_198 (by decide) ?_
                  refine lv_goto (tgt := 203) hx hb d_Lin_read_199 (by decide) ?_
                  exact mx_ri F hr hlk (by decide) hP hD hS [(li, .inr (4, [.int (nI a), .int (nI (rn_168 - a)), .int r_186, .int (nI rn_189), .int (nI w_4), .ref t, .ref op])), (t, .inl (K.2.1.2.2.1, 1600, .inl f)), (op, .inr (3, [.ref nm])), (nm, .inl (K.2.1.1, 262, .inr (.inl fn)))] [2, 3, 0, 1] rfl (by decide) ⟨(Or.inr rfl), ⟨a, (rn_168 - a), r_186, rn_189, w_4, (by first | assumption | omega | exact mx_ch_0), (by first | assumption | omega | exact mx_ch_0), (by first | assumption | omega | exact mx_ch_0), (by first | assumption | exact Or.inl rfl), rfl⟩⟩ (by decide) (by decide) d_Lin_read_203
              · have h_179n := mx_fEq (a := rn_176) (b := w_4) (by omega) (by omega) h_179
                refine lv_aload_n hx hb d_Lin_read_142 rfl (lv_at hl 1 rfl) ?_
                refine va_get (D := K.1) (ci := 4) (v := .int (nI (rn_168 - a))) (C := R_Lin) (T := T_Lin) (N := 7) hx hb hT in_Lin hown hK hP 2 rfl rfl 1 (by decide) (hT _ k_221) (fun _ h9 => h9) rfl d_Lin_read_143 ?_
                refine lv_if_ne (tgt := 153) hx hb d_Lin_read_146 (by decide) (fun h_193 => ?_) (fun h_193 => ?_)
                · have h_193n := mx_fNe (a := (rn_168 - a)) (b := 0) (by omega) (by omega) h_193
                  refine lv_iconst (v := 0) hx hb d_Lin_read_153 (by decide) ?_
                  exact mx_ri F hr hlk (by decide) hP hD hS [(li, .inr (4, [.int (nI a), .int (nI (rn_168 - a)), .int (-1 : Int32), .int (nI w_4), .int (nI w_4), .ref t, .ref op])), (t, .inl (K.2.1.2.2.1, 1600, .inl f)), (op, .inr (3, [.ref nm])), (nm, .inl (K.2.1.1, 262, .inr (.inl fn)))] [2, 3, 0, 1] rfl (by decide) ⟨(Or.inl rfl), ⟨a, (rn_168 - a), (-1 : Int32), w_4, w_4, (by first | assumption | omega | exact mx_ch_0), (by first | assumption | omega | exact mx_ch_0), (by first | assumption | omega | exact mx_ch_0), (by first | assumption | exact Or.inl rfl), rfl⟩⟩ (by decide) (by decide) d_Lin_read_154
                · have h_193n := mx_fEq (a := (rn_168 - a)) (b := 0) (by omega) (by omega) h_193
                  refine lv_iconst (v := 1) hx hb d_Lin_read_149 (by decide) ?_
                  refine lv_goto (tgt := 154) hx hb d_Lin_read_150 (by decide) ?_
                  exact mx_ri F hr hlk (by decide) hP hD hS [(li, .inr (4, [.int (nI a), .int (nI (rn_168 - a)), .int (-1 : Int32), .int (nI w_4), .int (nI w_4), .ref t, .ref op])), (t, .inl (K.2.1.2.2.1, 1600, .inl f)), (op, .inr (3, [.ref nm])), (nm, .inl (K.2.1.1, 262, .inr (.inl fn)))] [2, 3, 0, 1] rfl (by decide) ⟨(Or.inr rfl), ⟨a, (rn_168 - a), (-1 : Int32), w_4, w_4, (by first | assumption | omega | exact mx_ch_0), (by first | assumption | omega | exact mx_ch_0), (by first | assumption | omega | exact mx_ch_0), (by first | assumption | exact Or.inl rfl), rfl⟩⟩ (by decide) (by decide) d_Lin_read_154
            · have h_173n := mx_fNle (a := w_4) (b := rn_168) (by omega) (by omega) h_173
              refine lv_aload_n hx hb d_Lin_read_115 rfl (lv_at hl 1 rfl) ?_
              refine va_get (D := K.1) (ci := 4) (v := .ref t) (C := R_Lin) (T := T_Lin) (N := 7) hx hb hT in_Lin hown hK hP 2 rfl rfl 5 (by decide) (hT _ k_217) (fun _ h9 => h9) rfl d_Lin_read_116 ?_
              refine lv_iload_n hx hb d_Lin_read_119 rfl (lv_at hl 0 rfl) ?_
              refine va_cald hx hb hK hP 3 2 rfl rfl (i := nI rn_168) (vp_in_nI (n := rn_168) (N := 1600) (by omega) (by decide)) d_Lin_read_120 ?_
              refine lv_topi (fun z_194 ez_194 => ?_)
              refine lv_bipush (v := 32) hx hb d_Lin_read_121 (by decide) ?_
              refine lv_icmp_eq (tgt := 128) hx hb d_Lin_read_123 (by decide) (fun h_195 => ?_) (fun h_195 => ?_)
              · refine lv_aload_n hx hb d_Lin_read_128 rfl (lv_at hl 1 rfl) ?_
                refine lv_iload_n hx hb d_Lin_read_129 rfl (lv_at hl 0 rfl) ?_
                refine mx_ci (wr := [(op, .inr (3, [.ref nm])), (nm, .inl (K.2.1.1, 262, .inr (.inl fn)))]) F (mx_runV (As := [.int (nI rn_168)]) (rest := []) (n := 1) F (s_Lin_behindBlanks l K li rn_168 (-1) t op f a (rn_168 - a) w_4 w_4 H.size (by first | assumption | omega | exact mx_ch_0) (by first | assumption | omega | exact mx_ch_0)) k_444 (Or.inl k_441) k_443 sl_Lin_behindBlanks k_7 p_Lin_behindBlanks rfl rfl hP hD hS [2, 3] rfl (by decide) (va_recv (q := (R_Lin, T_Lin, 7)) (ci := 4) (q0 := 2) hK hP rfl rfl) rfl hl.1 rfl (Nat.le_of_ble_eq_true rfl) ⟨by decide, by decide⟩ ⟨by decide, by decide⟩ d_Lin_read_130) hP hD hS [2, 3] [0, 1] rfl rfl (by decide) (by decide) (fun r_197 _ H locs hq_196 hP hD hS => ?_)
                obtain ⟨rn_198, hf_199, hf_200, rfl⟩ := hq_196
                have hP : va_P K.1 mx_cl [(op, .inr (3, [.ref nm])), (nm, .inl (K.2.1.1, 262, .inr (.inl fn))), (li, .inr (4, [.int (nI a), .int (nI (rn_168 - a)), .int (-1), .int (nI w_4), .int (nI w_4), .ref t, .ref op])), (t, .inl (K.2.1.2.2.1, 1600, .inl f))] H := hP
                have hD : va_D A [(op, .inr (3, [.ref nm])), (nm, .inl (K.2.1.1, 262, .inr (.inl fn))), (li, .inr (4, [.int (nI a), .int (nI (rn_168 - a)), .int (-1), .int (nI w_4), .int (nI w_4), .ref t, .ref op])), (t, .inl (K.2.1.2.2.1, 1600, .inl f))] := hD
                refine W.cs (cells' := 0) (slots' := 0) rfl rfl ?_
                refine lv_istore_n (lv' := [(3, .int (nI rn_198)), (0, .ref li), (1, .int (nI a)), (2, .int (nI b))]) hx hb d_Lin_read_133 rfl hl (by decide) rfl (fun ls hl => ?_)
                refine lv_iload_n hx hb d_Lin_read_134 rfl (lv_at hl 0 rfl) ?_
                refine lv_aload_n hx hb d_Lin_read_135 rfl (lv_at hl 1 rfl) ?_
                refine va_get (D := K.1) (ci := 4) (v := .int (nI w_4)) (C := R_Lin) (T := T_Lin) (N := 7) hx hb hT in_Lin hown hK hP 2 rfl rfl 4 (by decide) (hT _ k_227) (fun _ h9 => h9) rfl d_Lin_read_136 ?_
                refine lv_icmp_ne (tgt := 155) hx hb d_Lin_read_139 (by decide) (fun h_201 => ?_) (fun h_201 => ?_)
                · have h_201n := mx_fNe (a := rn_198) (b := w_4) (by omega) (by omega) h_201
                  refine lv_aload_n hx hb d_Lin_read_155 rfl (lv_at hl 1 rfl) ?_
                  refine lv_iload_n hx hb d_Lin_read_156 rfl (lv_at hl 0 rfl) ?_
                  refine mx_ci (wr := [(op, .inr (3, [.ref nm])), (nm, .inl (K.2.1.1, 262, .inr (.inl fn)))]) F (mx_runV (As := [.int (nI rn_198)]) (rest := []) (n := 1) F (s_Lin_blankFrom l K li rn_198 (-1) t op f a (rn_168 - a) w_4 w_4 H.size (by first | assumption | omega | exact mx_ch_0) (by first | assumption | omega | exact mx_ch_0)) k_448 (Or.inl k_445) k_447 sl_Lin_blankFrom k_7 p_Lin_blankFrom rfl rfl hP hD hS [2, 3] rfl (by decide) (va_recv (q := (R_Lin, T_Lin, 7)) (ci := 4) (q0 := 2) hK hP rfl rfl) rfl hl.1 rfl (Nat.le_of_ble_eq_true rfl) ⟨by decide, by decide⟩ ⟨by decide, by decide⟩ d_Lin_read_157) hP hD hS [2, 3] [0, 1] rfl rfl (by decide) (by decide) (fun r_203 _ H locs hq_202 hP hD hS => ?_)
                  obtain ⟨rn_204, hf_205, hf_206, rfl⟩ := hq_202
                  have hP : va_P K.1 mx_cl [(op, .inr (3, [.ref nm])), (nm, .inl (K.2.1.1, 262, .inr (.inl fn))), (li, .inr (4, [.int (nI a), .int (nI (rn_168 - a)), .int (-1), .int (nI w_4), .int (nI w_4), .ref t, .ref op])), (t, .inl (K.2.1.2.2.1, 1600, .inl f))] H := hP
                  have hD : va_D A [(op, .inr (3, [.ref nm])), (nm, .inl (K.2.1.1, 262, .inr (.inl fn))), (li, .inr (4, [.int (nI a), .int (nI (rn_168 - a)), .int (-1), .int (nI w_4), .int (nI w_4), .ref t, .ref op])), (t, .inl (K.2.1.2.2.1, 1600, .inl f))] := hD
                  refine W.cs (cells' := 0) (slots' := 0) rfl rfl ?_
                  refine lv_istore (lv' := [(4, .int (nI rn_204)), (3, .int (nI rn_198)), (0, .ref li), (1, .int (nI a)), (2, .int (nI b))]) hx hb d_Lin_read_160 hl (by decide) rfl (fun ls hl => ?_)
                  refine lv_aload_n hx hb d_Lin_read_162 rfl (lv_at hl 2 rfl) ?_
                  refine lv_aload_n hx hb d_Lin_read_163 rfl (lv_at hl 2 rfl) ?_
                  refine va_get (D := K.1) (ci := 4) (v := .ref op) (C := R_Lin) (T := T_Lin) (N := 7) hx hb hT in_Lin hown hK hP 2 rfl rfl 6 (by decide) (hT _ k_218) (fun _ h9 => h9) rfl d_Lin_read_164 ?_
                  refine lv_aload_n hx hb d_Lin_read_167 rfl (lv_at hl 2 rfl) ?_
                  refine va_get (D := K.1) (ci := 4) (v := .ref t) (C := R_Lin) (T := T_Lin) (N := 7) hx hb hT in_Lin hown hK hP 2 rfl rfl 5 (by decide) (hT _ k_217) (fun _ h9 => h9) rfl d_Lin_read_168 ?_
                  refine lv_iload_n hx hb d_Lin_read_171 rfl (lv_at hl 1 rfl) ?_
                  refine lv_iload hx hb d_Lin_read_172 (lv_at hl 0 rfl) ?_
                  refine mx_ci (wr := [(li, .inr (4, [.int (nI a), .int (nI (rn_168 - a)), .int (-1), .int (nI w_4), .int (nI w_4), .ref t, .ref op]))]) F (mx_runV (As := [.ref t, .int (nI rn_198), .int (nI rn_204)]) (rest := [.ref li]) (n := 3) F (s_Opn_find l K op t rn_198 rn_204 nm fn f H.size (by first | assumption | omega | exact mx_ch_0) (by first | assumption | omega | exact mx_ch_0)) k_452 (Or.inl k_449) k_450 k_451 k_8 p_Opn_find rfl rfl hP hD hS [0, 1, 3] rfl (by decide) (va_recv (q := (R_Opn, T_Opn, 1)) (ci := 3) (q0 := 0) hK hP rfl rfl) rfl hl.1 rfl (Nat.le_of_ble_eq_true rfl) ⟨by decide, by decide⟩ ⟨by decide, by decide⟩ d_Lin_read_174) hP hD hS [0, 1, 3] [2] rfl rfl (by decide) (by decide) (fun r_208 _ H locs hq_207 hP hD hS => ?_)
                  have hP : va_P K.1 mx_cl [(li, .inr (4, [.int (nI a), .int (nI (rn_168 - a)), .int (-1), .int (nI w_4), .int (nI w_4), .ref t, .ref op])), (op, .inr (3, [.ref nm])), (nm, .inl (K.2.1.1, 262, .inr (.inl fn))), (t, .inl (K.2.1.2.2.1, 1600, .inl f))] H := hP
                  have hD : va_D A [(li, .inr (4, [.int (nI a), .int (nI (rn_168 - a)), .int (-1), .int (nI w_4), .int (nI w_4), .ref t, .ref op])), (op, .inr (3, [.ref nm])), (nm, .inl (K.2.1.1, 262, .inr (.inl fn))), (t, .inl (K.2.1.2.2.1, 1600, .inl f))] := hD
                  refine W.cs (cells' := 0) (slots' := 0) rfl rfl ?_
                  have hopq := hq_207
                  refine va_put (D := K.1) (ci := 4) (v := .int r_208) (ty := .int) (C := R_Lin) (T := T_Lin) (N := 7) hx hb hT in_Lin t_Lin t_Lin_ok n_Lin hown hK hP hD hS 0 rfl rfl 2 (by decide) (hT _ k_223) (fun _ h9 => h9) rfl (by decide +kernel) rfl rfl (Nat.le_of_ble_eq_true rfl) d_Lin_read_177 (fun H locs hP hD hS => ?_)
                  have hP : va_P K.1 mx_cl [(li, .inr (4, [.int (nI a), .int (nI (rn_168 - a)), .int r_208, .int (nI w_4), .int (nI w_4), .ref t, .ref op])), (op, .inr (3, [.ref nm])), (nm, .inl (K.2.1.1, 262, .inr (.inl fn))), (t, .inl (K.2.1.2.2.1, 1600, .inl f))] H := hP
                  have hD : va_D A [(li, .inr (4, [.int (nI a), .int (nI (rn_168 - a)), .int r_208, .int (nI w_4), .int (nI w_4), .ref t, .ref op])), (op, .inr (3, [.ref nm])), (nm, .inl (K.2.1.1, 262, .inr (.inl fn))), (t, .inl (K.2.1.2.2.1, 1600, .inl f))] := hD
                  refine lv_aload_n hx hb d_Lin_read_180 rfl (lv_at hl 2 rfl) ?_
                  refine lv_aload_n hx hb d_Lin_read_181 rfl (lv_at hl 2 rfl) ?_
                  refine lv_iload hx hb d_Lin_read_182 (lv_at hl 0 rfl) ?_
                  refine mx_ci (wr := [(op, .inr (3, [.ref nm])), (nm, .inl (K.2.1.1, 262, .inr (.inl fn)))]) F (mx_runV (As := [.int (nI rn_204)]) (rest := [.ref li]) (n := 1) F (s_Lin_behindBlanks l K li rn_204 r_208 t op f a (rn_168 - a) w_4 w_4 H.size (by first | assumption | omega | exact mx_ch_0) (by first | assumption | omega | exact mx_ch_0)) k_444 (Or.inl k_441) k_443 sl_Lin_behindBlanks k_7 p_Lin_behindBlanks rfl rfl hP hD hS [0, 3] rfl (by decide) (va_recv (q := (R_Lin, T_Lin, 7)) (ci := 4) (q0 := 0) hK hP rfl rfl) rfl hl.1 rfl (Nat.le_of_ble_eq_true rfl) ⟨by decide, by decide⟩ ⟨by decide, by decide⟩ d_Lin_read_184) hP hD hS [0, 3] [1, 2] rfl rfl (by decide) (by decide) (fun r_210 _ H locs hq_209 hP hD hS => ?_)
                  obtain ⟨rn_211, hf_212, hf_213, rfl⟩ := hq_209
                  have hP : va_P K.1 mx_cl [(op, .inr (3, [.ref nm])), (nm, .inl (K.2.1.1, 262, .inr (.inl fn))), (li, .inr (4, [.int (nI a), .int (nI (rn_168 - a)), .int r_208, .int (nI w_4), .int (nI w_4), .ref t, .ref op])), (t, .inl (K.2.1.2.2.1, 1600, .inl f))] H := hP
                  have hD : va_D A [(op, .inr (3, [.ref nm])), (nm, .inl (K.2.1.1, 262, .inr (.inl fn))), (li, .inr (4, [.int (nI a), .int (nI (rn_168 - a)), .int r_208, .int (nI w_4), .int (nI w_4), .ref t, .ref op])), (t, .inl (K.2.1.2.2.1, 1600, .inl f))] := hD
                  refine W.cs (cells' := 0) (slots' := 0) rfl rfl ?_
                  refine va_put (D := K.1) (ci := 4) (v := .int (nI rn_211)) (ty := .int) (C := R_Lin) (T := T_Lin) (N := 7) hx hb hT in_Lin t_Lin t_Lin_ok n_Lin hown hK hP hD hS 2 rfl rfl 3 (by decide) (hT _ k_225) (fun _ h9 => h9) rfl (by decide +kernel) rfl rfl (Nat.le_of_ble_eq_true rfl) d_Lin_read_187 (fun H locs hP hD hS => ?_)
                  have hP : va_P K.1 mx_cl [(op, .inr (3, [.ref nm])), (nm, .inl (K.2.1.1, 262, .inr (.inl fn))), (li, .inr (4, [.int (nI a), .int (nI (rn_168 - a)), .int r_208, .int (nI rn_211), .int (nI w_4), .ref t, .ref op])), (t, .inl (K.2.1.2.2.1, 1600, .inl f))] H := hP
                  have hD : va_D A [(op, .inr (3, [.ref nm])), (nm, .inl (K.2.1.1, 262, .inr (.inl fn))), (li, .inr (4, [.int (nI a), .int (nI (rn_168 - a)), .int r_208, .int (nI rn_211), .int (nI w_4), .ref t, .ref op])), (t, .inl (K.2.1.2.2.1, 1600, .inl f))] := hD
                  refine lv_aload_n hx hb d_Lin_read_190 rfl (lv_at hl 2 rfl) ?_
                  refine va_get (D := K.1) (ci := 4) (v := .int r_208) (C := R_Lin) (T := T_Lin) (N := 7) hx hb hT in_Lin hown hK hP 2 rfl rfl 2 (by decide) (hT _ k_223) (fun _ h9 => h9) rfl d_Lin_read_191 ?_
                  refine lv_iconst (v := (-1)) hx hb d_Lin_read_194 (by decide) ?_
                  refine lv_icmp_eq (tgt := 202) hx hb d_Lin_read_195 (by decide) (fun h_214 => ?_) (fun h_214 => ?_)
                  · refine lv_iconst (v := 0) hx hb d_Lin_read_202 (by decide) ?_
                    exact mx_ri F hr hlk (by decide) hP hD hS [(li, .inr (4, [.int (nI a), .int (nI (rn_168 - a)), .int r_208, .int (nI rn_211), .int (nI w_4), .ref t, .ref op])), (t, .inl (K.2.1.2.2.1, 1600, .inl f)), (op, .inr (3, [.ref nm])), (nm, .inl (K.2.1.1, 262, .inr (.inl fn)))] [2, 3, 0, 1] rfl (by decide) ⟨(Or.inl rfl), ⟨a, (rn_168 - a), r_208, rn_211, w_4, (by first | assumption | omega | exact mx_ch_0), (by first | assumption | omega | exact mx_ch_0), (by first | assumption | omega | exact mx_ch_0), (by first | assumption | exact Or.inl rfl), rfl⟩⟩ (by decide) (by decide) d_Lin_read_203
                  · refine lv_iconst (v := 1) hx hb d_Lin_read_198 (by decide) ?_
                    refine lv_goto (tgt := 203) hx hb d_Lin_read_199 (by decide) ?_
                    exact mx_ri F hr hlk (by decide) hP hD hS [(li, .inr (4, [.int (nI a), .int (nI (rn_168 - a)), .int r_208, .int (nI rn_211), .int (nI w_4), .ref t, .ref op])), (t, .inl (K.2.1.2.2.1, 1600, .inl f)), (op, .inr (3, [.ref nm])), (nm, .inl (K.2.1.1, 262, .inr (.inl fn)))] [2, 3, 0, 1] rfl (by decide) ⟨(Or.inr rfl), ⟨a, (rn_168 - a), r_208, rn_211, w_4, (by first | assumption | omega | exact mx_ch_0), (by first | assumption | omega | exact mx_ch_0), (by first | assumption | omega | exact mx_ch_0), (by first | assumption | exact Or.inl rfl), rfl⟩⟩ (by decide) (by decide) d_Lin_read_203
                · have h_201n := mx_fEq (a := rn_198) (b := w_4) (by omega) (by omega) h_201
                  refine lv_aload_n hx hb d_Lin_read_142 rfl (lv_at hl 1 rfl) ?_
                  refine va_get (D := K.1) (ci := 4) (v := .int (nI (rn_168 - a))) (C := R_Lin) (T := T_Lin) (N := 7) hx hb hT in_Lin hown hK hP 2 rfl rfl 1 (by decide) (hT _ k_221) (fun _ h9 => h9) rfl d_Lin_read_143 ?_
                  refine lv_if_ne (tgt := 153) hx hb d_Lin_read_146 (by decide) (fun h_215 => ?_) (fun h_215 => ?_)
                  · have h_215n := mx_fNe (a := (rn_168 - a)) (b := 0) (by omega) (by omega) h_215
                    refine lv_iconst (v := 0) hx hb d_Lin_read_153 (by decide) ?_
                    exact mx_ri F hr hlk (by decide) hP hD hS [(li, .inr (4, [.int (nI a), .int (nI (rn_168 - a)), .int (-1 : Int32), .int (nI w_4), .int (nI w_4), .ref t, .ref op])), (t, .inl (K.2.1.2.2.1, 1600, .inl f)), (op, .inr (3, [.ref nm])), (nm, .inl (K.2.1.1, 262, .inr (.inl fn)))] [2, 3, 0, 1] rfl (by decide) ⟨(Or.inl rfl), ⟨a, (rn_168 - a), (-1 : Int32), w_4, w_4, (by first | assumption | omega | exact mx_ch_0), (by first | assumption | omega | exact mx_ch_0), (by first | assumption | omega | exact mx_ch_0), (by first | assumption | exact Or.inl rfl), rfl⟩⟩ (by decide) (by decide) d_Lin_read_154
                  · have h_215n := mx_fEq (a := (rn_168 - a)) (b := 0) (by omega) (by omega) h_215
                    refine lv_iconst (v := 1) hx hb d_Lin_read_149 (by decide) ?_
                    refine lv_goto (tgt := 154) hx hb d_Lin_read_150 (by decide) ?_
                    exact mx_ri F hr hlk (by decide) hP hD hS [(li, .inr (4, [.int (nI a), .int (nI (rn_168 - a)), .int (-1 : Int32), .int (nI w_4), .int (nI w_4), .ref t, .ref op])), (t, .inl (K.2.1.2.2.1, 1600, .inl f)), (op, .inr (3, [.ref nm])), (nm, .inl (K.2.1.1, 262, .inr (.inl fn)))] [2, 3, 0, 1] rfl (by decide) ⟨(Or.inr rfl), ⟨a, (rn_168 - a), (-1 : Int32), w_4, w_4, (by first | assumption | omega | exact mx_ch_0), (by first | assumption | omega | exact mx_ch_0), (by first | assumption | omega | exact mx_ch_0), (by first | assumption | exact Or.inl rfl), rfl⟩⟩ (by decide) (by decide) d_Lin_read_154
              · refine lv_iconst (v := 0) hx hb d_Lin_read_126 (by decide) ?_
                exact mx_ri F hr hlk (by decide) hP hD hS [(li, .inr (4, [.int (nI a), .int (nI (rn_168 - a)), .int (-1 : Int32), .int (nI w_4), .int (nI w_4), .ref t, .ref op])), (t, .inl (K.2.1.2.2.1, 1600, .inl f)), (op, .inr (3, [.ref nm])), (nm, .inl (K.2.1.1, 262, .inr (.inl fn)))] [2, 3, 0, 1] rfl (by decide) ⟨(Or.inl rfl), ⟨a, (rn_168 - a), (-1 : Int32), w_4, w_4, (by first | assumption | omega | exact mx_ch_0), (by first | assumption | omega | exact mx_ch_0), (by first | assumption | omega | exact mx_ch_0), (by first | assumption | exact Or.inl rfl), rfl⟩⟩ (by decide) (by decide) d_Lin_read_127
      · have h_115n := mx_fEq (a := rb_114) (b := 0) (by omega) (by omega) h_115
        refine lv_iconst (v := 1) hx hb d_Lin_read_60 (by decide) ?_
        exact mx_ri F hr hlk (by decide) hP hD hS [(li, .inr (4, [.int (nI a), .int (nI 0), .int (-1 : Int32), .int (nI w_4), .int (nI w_4), .ref t, .ref op])), (t, .inl (K.2.1.2.2.1, 1600, .inl f)), (op, .inr (3, [.ref nm])), (nm, .inl (K.2.1.1, 262, .inr (.inl fn)))] [2, 3, 0, 1] rfl (by decide) ⟨(Or.inr rfl), ⟨a, 0, (-1 : Int32), w_4, w_4, (by first | assumption | omega | exact mx_ch_0), (by first | assumption | omega | exact mx_ch_0), (by first | assumption | omega | exact mx_ch_0), (by first | assumption | exact Or.inl rfl), rfl⟩⟩ (by decide) (by decide) d_Lin_read_61
set_option maxHeartbeats 4000000 in
set_option maxRecDepth 100000 in
theorem s_Lin_isNothing (l : Launch) (K : mx_K) (li : Nat) (lno : Int32) (t : Nat) (op : Nat) (lna : Nat) (lnz : Nat) (lnp : Nat) (lne : Nat) (sz : Nat) : mx_I l y_Lin_isNothing b_Lin_isNothing 1 .boolean { frames := 1, cells := 0, slots := 0, locals := 20 } K [.ref li] [(li, .inr (4, [.int (nI lna), .int (nI lnz), .int lno, .int (nI lnp), .int (nI lne), .ref t, .ref op]))] sz (fun (r : Int32) (u : Unit) => r = 0 ∨ r = 1) (fun u : Unit => [(li, .inr (4, [.int (nI lna), .int (nI lnz), .int lno, .int (nI lnp), .int (nI lne), .ref t, .ref op]))]) := by
  refine mx_of (by decide) (Nat.le_of_ble_eq_true rfl) ?_
  intro p e s m below meth c A ls H locs hAe F hr hlk hin hsz hP hD hS hl
  rw [hAe]
  have hl : lv_has ls 1 [(0, .ref li)] := hl
  obtain ⟨hx, hb, hml, hown, hT, hK, hN, hE, hA⟩ := id F
  refine lv_aload_n hx hb d_Lin_isNothing_0 rfl (lv_at hl 0 rfl) ?_
  refine va_get (D := K.1) (ci := 4) (v := .int lno) (C := R_Lin) (T := T_Lin) (N := 7) hx hb hT in_Lin hown hK hP 0 rfl rfl 2 (by decide) (hT _ k_223) (fun _ h9 => h9) rfl d_Lin_isNothing_1 ?_
  refine lv_iconst (v := (-1)) hx hb d_Lin_isNothing_4 (by decide) ?_
  refine lv_icmp_ne (tgt := 12) hx hb d_Lin_isNothing_5 (by decide) (fun h_1 => ?_) (fun h_1 => ?_)
  · refine lv_iconst (v := 0) hx hb d_Lin_isNothing_12 (by decide) ?_
    exact mx_ri F hr hlk (by decide) hP hD hS () [0] rfl (by decide) (Or.inl rfl) (by decide) (by decide) d_Lin_isNothing_13
  · refine lv_iconst (v := 1) hx hb d_Lin_isNothing_8 (by decide) ?_
    refine lv_goto (tgt := 13) hx hb d_Lin_isNothing_9 (by decide) ?_
    exact mx_ri F hr hlk (by decide) hP hD hS () [0] rfl (by decide) (Or.inr rfl) (by decide) (by decide) d_Lin_isNothing_13
