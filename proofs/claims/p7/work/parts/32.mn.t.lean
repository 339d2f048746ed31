set_option maxHeartbeats 4000000 in
set_option maxRecDepth 100000 in
theorem m_bit (l : Launch) (K : mx_K) (a : Int64) (b : Int32) (sz : Nat) : mx_L l y_Mod_bit b_Mod_bit 3 { frames := 1, cells := 0, slots := 0, locals := 20 } K [.long a, .int b] [] sz (fun (r : Int64) (u : Unit) => True) (fun u : Unit => []) := by
  refine mx_of (by decide) (Nat.le_of_ble_eq_true rfl) ?_
  intro p e s m below meth c A ls H locs hAe F hr hlk hin hsz hP hD hS hl
  rw [hAe]
  have hl : lv_has ls 3 [(0, .long a), (2, .int b)] := hl
  obtain ⟨hx, hb, hml, hown, hT, hK, hN, hE, hA⟩ := id F
  refine lv_lload_n hx hb d_Mod_bit_0 rfl (lv_at hl 0 rfl) ?_
  refine lv_iload_n hx hb d_Mod_bit_1 rfl (lv_at hl 1 rfl) ?_
  refine lv_lshr (v := a >>> (b.toInt64 &&& 63)) hx hb d_Mod_bit_2 rfl ?_
  refine lv_lconst (v := 1) hx hb d_Mod_bit_3 (by decide) ?_
  refine lv_land hx hb d_Mod_bit_4 ?_
  exact mx_rl F hr hlk hP hD hS () [] rfl (by decide) trivial (by decide) (by decide) d_Mod_bit_5
set_option maxHeartbeats 4000000 in
set_option maxRecDepth 100000 in
theorem m_right_b55 {p : Program} {l : Launch} {e : Env} {R : Room} {s : State} {m : MethodId} {args : Array Value} {below : List Frame} {meth : Method} {c : Code} {K : mx_K} {A : Nat → Prop} (a : Int64) (b : Int64) (d : Int32) (F : mx_F p s m args c b_Mod_right 9 "LittleMixModel" K A) (hr : meth.sig.returnType = some .long) (hlk : meth.locks = false) (hRf : 1 ≤ R.frames) (hRl : 20 ≤ R.locals)
    (N29 : Nat)
    (kk29 : ∀ (v5 : Int64) (n7 : Nat) (n8 : Nat) (ls : Array Slot) (H : Heap) (locs : List Loc), 64 - n8 < N29 → (n7 ≤ 64) → (n8 ≤ n7) → lv_has ls 9 [(0, .long a), (2, .long b), (4, .int d), (5, .long v5), (7, .int (nI n7)), (8, .int (nI n8))] → va_P K.1 mx_cl [] H → va_D A [] → va_S A s.heap H locs → W p l e R s m args below meth c H locs 0 0 (MQ below (va_Ql (fun (r : Int64) (u : Unit) => True) (mx_B K A (fun u : Unit => [])) A) args s 0 0 A) (F0 m 29 ls []))
    : ∀ (v5 : Int64) (n7 : Nat) (n8 : Nat) (vs0 : Int64) (vs1 : Int64) (ls : Array Slot) (H : Heap) (locs : List Loc), (n8 ≤ n7) → (64 - n8 < N29 + 1) → (n7 ≤ 64) → (n8 < n7) → lv_has ls 9 [(0, .long a), (2, .long b), (4, .int d), (5, .long v5), (7, .int (nI n7)), (8, .int (nI n8))] → va_P K.1 mx_cl [] H → va_D A [] → va_S A s.heap H locs → W p l e R s m args below meth c H locs 0 0 (MQ below (va_Ql (fun (r : Int64) (u : Unit) => True) (mx_B K A (fun u : Unit => [])) A) args s 0 0 A) (F0 m 55 ls [.long vs0, .long vs1]) := by
  obtain ⟨hx, hb, hml, hown, hT, hK, hN, hE, hA⟩ := id F
  intro v5 n7 n8 vs0 vs1 ls H locs hfa0 hfa1 h64 h8 hl hP hD hS
  refine lv_lor hx hb d_Mod_right_55 ?_
  refine lv_topl (fun z_1 ez_1 => ?_)
  refine lv_lstore (lv' := [(5, .long z_1), (0, .long a), (2, .long b), (4, .int d), (7, .int (nI n7)), (8, .int (nI n8))]) hx hb d_Mod_right_56 hl (by decide) rfl (fun ls hl => ?_)
  refine lv_iinc (lv' := [(8, .int (nI (n8 + 1))), (5, .long z_1), (0, .long a), (2, .long b), (4, .int d), (7, .int (nI n7))]) (v := nI (n8 + 1)) (k := 5) hx hb d_Mod_right_58 hl rfl (mx_inc n8) (by decide) rfl (fun ls hl => ?_)
  refine lv_goto (tgt := 29) hx hb d_Mod_right_61 (by decide) ?_
  exact kk29 z_1 n7 (n8 + 1) _ _ _ (by omega) (by first | assumption | omega | exact mx_ch_0) (by first | assumption | omega | exact mx_ch_0) (lv_sub hl [2, 3, 4, 1, 5, 0] rfl) hP hD hS
set_option maxHeartbeats 4000000 in
set_option maxRecDepth 100000 in
theorem m_right_b29 {p : Program} {l : Launch} {e : Env} {R : Room} {s : State} {m : MethodId} {args : Array Value} {below : List Frame} {meth : Method} {c : Code} {K : mx_K} {A : Nat → Prop} (a : Int64) (b : Int64) (d : Int32) (F : mx_F p s m args c b_Mod_right 9 "LittleMixModel" K A) (hr : meth.sig.returnType = some .long) (hlk : meth.locks = false) (hRf : 1 ≤ R.frames) (hRl : 20 ≤ R.locals)
    : ∀ n : Nat, ∀ (v5 : Int64) (n7 : Nat) (n8 : Nat) (ls : Array Slot) (H : Heap) (locs : List Loc), 64 - n8 < n → (n7 ≤ 64) → (n8 ≤ n7) → lv_has ls 9 [(0, .long a), (2, .long b), (4, .int d), (5, .long v5), (7, .int (nI n7)), (8, .int (nI n8))] → va_P K.1 mx_cl [] H → va_D A [] → va_S A s.heap H locs → W p l e R s m args below meth c H locs 0 0 (MQ below (va_Ql (fun (r : Int64) (u : Unit) => True) (mx_B K A (fun u : Unit => [])) A) args s 0 0 A) (F0 m 29 ls []) := by
  obtain ⟨hx, hb, hml, hown, hT, hK, hN, hE, hA⟩ := id F
  intro n
  induction n with
  | zero =>
    intro v5 n7 n8 ls H locs hmu h64 h8 hl hP hD hS
    exact absurd hmu (Nat.not_lt_zero _)
  | succ n ih =>
    intro v5 n7 n8 ls H locs hmu h64 h8 hl hP hD hS
    refine lv_iload hx hb d_Mod_right_29 (lv_at hl 5 rfl) ?_
    refine lv_iload hx hb d_Mod_right_31 (lv_at hl 4 rfl) ?_
    refine lv_icmp_ge (tgt := 64) hx hb d_Mod_right_33 (by decide) (fun h_1 => ?_) (fun h_1 => ?_)
    · have h_1n := mx_fLe (a := n7) (b := n8) (by omega) (by omega) h_1
      refine lv_lload hx hb d_Mod_right_64 (lv_at hl 3 rfl) ?_
      exact mx_rl F hr hlk hP hD hS () [] rfl (by decide) trivial (by decide) (by decide) d_Mod_right_66
    · have h_1n := mx_fNle (a := n7) (b := n8) (by omega) (by omega) h_1
      refine lv_lload hx hb d_Mod_right_36 (lv_at hl 3 rfl) ?_
      refine lv_iconst (v := 1) hx hb d_Mod_right_38 (by decide) ?_
      refine lv_lushr (v := (v5.toUInt64 >>> ((1 : Int32).toInt64.toUInt64 &&& Int64.toUInt64 63)).toInt64) hx hb d_Mod_right_39 rfl ?_
      refine lv_iload hx hb d_Mod_right_40 (lv_at hl 2 rfl) ?_
      refine lv_if_eq (tgt := 54) hx hb d_Mod_right_42 (by decide) (fun h_2 => ?_) (fun h_2 => ?_)
      · refine lv_lconst (v := 0) hx hb d_Mod_right_54 (by decide) ?_
        exact m_right_b55 a b d F hr hlk hRf hRl n ih v5 n7 n8 (0 : Int64) ((v5.toUInt64 >>> ((1 : Int32).toInt64.toUInt64 &&& Int64.toUInt64 63)).toInt64) _ _ _ (by first | assumption | omega | exact mx_ch_0) (by first | assumption | omega | exact mx_ch_0) (by first | assumption | omega | exact mx_ch_0) (by first | assumption | omega | exact mx_ch_0) (lv_sub hl [0, 1, 2, 3, 4, 5] rfl) hP hD hS
      · refine lv_lload hx hb d_Mod_right_45 (lv_at hl 3 rfl) ?_
        refine lv_ldc2 (v := (-9223372036854775808)) hx hb hown (hT _ k_1341) d_Mod_right_47 ?_
        refine lv_land hx hb d_Mod_right_50 ?_
        refine lv_goto (tgt := 55) hx hb d_Mod_right_51 (by decide) ?_
        exact m_right_b55 a b d F hr hlk hRf hRl n ih v5 n7 n8 (v5 &&& (-9223372036854775808 : Int64)) ((v5.toUInt64 >>> ((1 : Int32).toInt64.toUInt64 &&& Int64.toUInt64 63)).toInt64) _ _ _ (by first | assumption | omega | exact mx_ch_0) (by first | assumption | omega | exact mx_ch_0) (by first | assumption | omega | exact mx_ch_0) (by first | assumption | omega | exact mx_ch_0) (lv_sub hl [0, 1, 2, 3, 4, 5] rfl) hP hD hS
set_option maxHeartbeats 4000000 in
set_option maxRecDepth 100000 in
theorem m_right_b24 {p : Program} {l : Launch} {e : Env} {R : Room} {s : State} {m : MethodId} {args : Array Value} {below : List Frame} {meth : Method} {c : Code} {K : mx_K} {A : Nat → Prop} (a : Int64) (b : Int64) (d : Int32) (F : mx_F p s m args c b_Mod_right 9 "LittleMixModel" K A) (hr : meth.sig.returnType = some .long) (hlk : meth.locks = false) (hRf : 1 ≤ R.frames) (hRl : 20 ≤ R.locals)
    : ∀ (ns0 : Nat) (ls : Array Slot) (H : Heap) (locs : List Loc), (ns0 ≤ 64) → lv_has ls 9 [(0, .long a), (2, .long b), (4, .int d), (5, .long a)] → va_P K.1 mx_cl [] H → va_D A [] → va_S A s.heap H locs → W p l e R s m args below meth c H locs 0 0 (MQ below (va_Ql (fun (r : Int64) (u : Unit) => True) (mx_B K A (fun u : Unit => [])) A) args s 0 0 A) (F0 m 24 ls [.int (nI ns0)]) := by
  obtain ⟨hx, hb, hml, hown, hT, hK, hN, hE, hA⟩ := id F
  intro ns0 ls H locs h64 hl hP hD hS
  refine lv_istore (lv' := [(7, .int (nI ns0)), (0, .long a), (2, .long b), (4, .int d), (5, .long a)]) hx hb d_Mod_right_24 hl (by decide) rfl (fun ls hl => ?_)
  refine lv_iconst (v := 0) hx hb d_Mod_right_26 (by decide) ?_
  refine lv_istore (lv' := [(8, .int 0), (7, .int (nI ns0)), (0, .long a), (2, .long b), (4, .int d), (5, .long a)]) hx hb d_Mod_right_27 hl (by decide) rfl (fun ls hl => ?_)
  exact m_right_b29 a b d F hr hlk hRf hRl (64 - 0 + 1) a ns0 0 _ _ _ (by omega) (by first | assumption | omega | exact mx_ch_0) (by first | assumption | omega | exact mx_ch_0) (lv_sub hl [2, 3, 4, 5, 1, 0] rfl) hP hD hS
set_option maxHeartbeats 4000000 in
set_option maxRecDepth 100000 in
theorem m_right_b17 {p : Program} {l : Launch} {e : Env} {R : Room} {s : State} {m : MethodId} {args : Array Value} {below : List Frame} {meth : Method} {c : Code} {K : mx_K} {A : Nat → Prop} (a : Int64) (b : Int64) (d : Int32) (F : mx_F p s m args c b_Mod_right 9 "LittleMixModel" K A) (hr : meth.sig.returnType = some .long) (hlk : meth.locks = false) (hRf : 1 ≤ R.frames) (hRl : 20 ≤ R.locals)
    : ∀ (ls : Array Slot) (H : Heap) (locs : List Loc), lv_has ls 9 [(0, .long a), (2, .long b), (4, .int d), (5, .long a)] → va_P K.1 mx_cl [] H → va_D A [] → va_S A s.heap H locs → W p l e R s m args below meth c H locs 0 0 (MQ below (va_Ql (fun (r : Int64) (u : Unit) => True) (mx_B K A (fun u : Unit => [])) A) args s 0 0 A) (F0 m 17 ls []) := by
  obtain ⟨hx, hb, hml, hown, hT, hK, hN, hE, hA⟩ := id F
  intro ls H locs hl hP hD hS
  refine lv_bipush (v := 64) hx hb d_Mod_right_17 (by decide) ?_
  refine lv_goto (tgt := 24) hx hb d_Mod_right_19 (by decide) ?_
  exact m_right_b24 a b d F hr hlk hRf hRl 64 _ _ _ (by first | assumption | omega | exact mx_ch_0) (lv_sub hl [0, 1, 2, 3] rfl) hP hD hS
set_option maxHeartbeats 4000000 in
set_option maxRecDepth 100000 in
theorem m_right (l : Launch) (K : mx_K) (a : Int64) (b : Int64) (d : Int32) (sz : Nat) : mx_L l y_Mod_right b_Mod_right 9 { frames := 1, cells := 0, slots := 0, locals := 20 } K [.long a, .long b, .int d] [] sz (fun (r : Int64) (u : Unit) => True) (fun u : Unit => []) := by
  refine mx_of (by decide) (Nat.le_of_ble_eq_true rfl) ?_
  intro p e s m below meth c A ls H locs hAe F hr hlk hin hsz hP hD hS hl
  rw [hAe]
  have hl : lv_has ls 9 [(0, .long a), (2, .long b), (4, .int d)] := hl
  obtain ⟨hx, hb, hml, hown, hT, hK, hN, hE, hA⟩ := id F
  refine lv_lload_n hx hb d_Mod_right_0 rfl (lv_at hl 0 rfl) ?_
  refine lv_lstore (lv' := [(5, .long a), (0, .long a), (2, .long b), (4, .int d)]) hx hb d_Mod_right_1 hl (by decide) rfl (fun ls hl => ?_)
  refine lv_lload_n hx hb d_Mod_right_3 rfl (lv_at hl 2 rfl) ?_
  refine lv_lconst (v := 0) hx hb d_Mod_right_4 (by decide) ?_
  refine W.lcmp hx hb d_Mod_right_5 ?_
  refine lv_if_lt (tgt := 17) hx hb d_Mod_right_6 (by decide) (fun h6 => ?_) (fun h6 => ?_)
  · exact m_right_b17 a b d F hr hlk (by decide) (by decide) _ _ _ (lv_sub hl [1, 2, 3, 0] rfl) hP hD hS
  · refine lv_lload_n hx hb d_Mod_right_9 rfl (lv_at hl 2 rfl) ?_
    refine lv_ldc2 (v := 63) hx hb hown (hT _ k_1354) d_Mod_right_10 ?_
    refine W.lcmp hx hb d_Mod_right_13 ?_
    refine lv_if_le (tgt := 22) hx hb d_Mod_right_14 (by decide) (fun h14 => ?_) (fun h14 => ?_)
    · refine lv_lload_n hx hb d_Mod_right_22 rfl (lv_at hl 2 rfl) ?_
      refine lv_l2i (v := b.toInt32) hx hb d_Mod_right_23 rfl ?_
      obtain ⟨kb, hkb, hke⟩ := mx_l64 h6 h14
      refine lv_topi (fun z_1 ez_1 => ?_)
      obtain rfl : z_1 = nI kb := ez_1.trans hke
      exact m_right_b24 a b d F hr hlk (by decide) (by decide) kb _ _ _ (by first | assumption | omega | exact mx_ch_0) (lv_sub hl [1, 2, 3, 0] rfl) hP hD hS
    · exact m_right_b17 a b d F hr hlk (by decide) (by decide) _ _ _ (lv_sub hl [1, 2, 3, 0] rfl) hP hD hS
set_option maxHeartbeats 4000000 in
set_option maxRecDepth 100000 in
theorem m_dif_b103 {p : Program} {l : Launch} {e : Env} {R : Room} {s : State} {m : MethodId} {args : Array Value} {below : List Frame} {meth : Method} {c : Code} {K : mx_K} {A : Nat → Prop} (a : Int64) (b : Int64) (d : Nat) (hd1 : 1 ≤ d) (hd8 : d ≤ 8) (F : mx_F p s m args c b_Mod_dif 12 "LittleMixModel" K A) (hr : meth.sig.returnType = some .long) (hlk : meth.locks = false) (hRf : 3 ≤ R.frames) (hRl : 66 ≤ R.locals)
    (N6 : Nat)
    (kk6 : ∀ (v5 : Int64) (n7 : Nat) (ls : Array Slot) (H : Heap) (locs : List Loc), 8 - n7 < N6 → (n7 ≤ 16) → lv_has ls 12 [(0, .long a), (2, .long b), (4, .int (nI d)), (5, .long v5), (7, .int (nI n7))] → va_P K.1 mx_cl [] H → va_D A [] → va_S A s.heap H locs → W p l e R s m args below meth c H locs 0 0 (MQ below (va_Ql (fun (r : Int64) (u : Unit) => True) (mx_B K A (fun u : Unit => [])) A) args s 0 0 A) (F0 m 6 ls []))
    : ∀ (v5 : Int64) (n7 : Nat) (v8 : Int64) (v10 : Int64) (ls : Array Slot) (H : Heap) (locs : List Loc), (n7 ≤ 16) → (8 - n7 < N6 + 1) → (n7 < 8) → lv_has ls 12 [(0, .long a), (2, .long b), (4, .int (nI d)), (5, .long v5), (7, .int (nI n7)), (8, .long v8), (10, .long v10)] → va_P K.1 mx_cl [] H → va_D A [] → va_S A s.heap H locs → W p l e R s m args below meth c H locs 0 0 (MQ below (va_Ql (fun (r : Int64) (u : Unit) => True) (mx_B K A (fun u : Unit => [])) A) args s 0 0 A) (F0 m 103 ls []) := by
  obtain ⟨hx, hb, hml, hown, hT, hK, hN, hE, hA⟩ := id F
  intro v5 n7 v8 v10 ls H locs hfa0 hfa1 h7 hl hP hD hS
  refine lv_iload hx hb d_Mod_dif_103 (lv_at hl 4 rfl) ?_
  refine lv_iload hx hb d_Mod_dif_105 (lv_at hl 2 rfl) ?_
  refine lv_iadd hx hb d_Mod_dif_107 ?_
  refine lv_topi (fun z_1 ez_1 => ?_)
  obtain rfl : z_1 = nI (n7 + d) := ez_1.trans (nI_add n7 d)
  refine lv_istore (lv' := [(7, .int (nI (n7 + d))), (0, .long a), (2, .long b), (4, .int (nI d)), (5, .long v5), (8, .long v8), (10, .long v10)]) hx hb d_Mod_dif_108 hl (by decide) rfl (fun ls hl => ?_)
  refine lv_goto (tgt := 6) hx hb d_Mod_dif_110 (by decide) ?_
  exact kk6 v5 (n7 + d) _ _ _ (by omega) (by first | assumption | omega | exact mx_ch_0) (lv_sub hl [1, 2, 3, 4, 0] rfl) hP hD hS
set_option maxHeartbeats 4000000 in
set_option maxRecDepth 100000 in
theorem m_dif_b74 {p : Program} {l : Launch} {e : Env} {R : Room} {s : State} {m : MethodId} {args : Array Value} {below : List Frame} {meth : Method} {c : Code} {K : mx_K} {A : Nat → Prop} (a : Int64) (b : Int64) (d : Nat) (hd1 : 1 ≤ d) (hd8 : d ≤ 8) (F : mx_F p s m args c b_Mod_dif 12 "LittleMixModel" K A) (hr : meth.sig.returnType = some .long) (hlk : meth.locks = false) (hRf : 3 ≤ R.frames) (hRl : 66 ≤ R.locals)
    (N6 : Nat)
    (kk6 : ∀ (v5 : Int64) (n7 : Nat) (ls : Array Slot) (H : Heap) (locs : List Loc), 8 - n7 < N6 → (n7 ≤ 16) → lv_has ls 12 [(0, .long a), (2, .long b), (4, .int (nI d)), (5, .long v5), (7, .int (nI n7))] → va_P K.1 mx_cl [] H → va_D A [] → va_S A s.heap H locs → W p l e R s m args below meth c H locs 0 0 (MQ below (va_Ql (fun (r : Int64) (u : Unit) => True) (mx_B K A (fun u : Unit => [])) A) args s 0 0 A) (F0 m 6 ls []))
    : ∀ (v5 : Int64) (n7 : Nat) (v8 : Int64) (vs0 : Int64) (vs1 : Int64) (ls : Array Slot) (H : Heap) (locs : List Loc), (n7 ≤ 16) → (8 - n7 < N6 + 1) → (n7 < 8) → lv_has ls 12 [(0, .long a), (2, .long b), (4, .int (nI d)), (5, .long v5), (7, .int (nI n7)), (8, .long v8)] → va_P K.1 mx_cl [] H → va_D A [] → va_S A s.heap H locs → W p l e R s m args below meth c H locs 0 0 (MQ below (va_Ql (fun (r : Int64) (u : Unit) => True) (mx_B K A (fun u : Unit => [])) A) args s 0 0 A) (F0 m 74 ls [.long vs0, .long vs1]) := by
  obtain ⟨hx, hb, hml, hown, hT, hK, hN, hE, hA⟩ := id F
  intro v5 n7 v8 vs0 vs1 ls H locs hfa0 hfa1 h7 hl hP hD hS
  refine lv_land hx hb d_Mod_dif_74 ?_
  refine lv_topl (fun z_1 ez_1 => ?_)
  refine lv_lstore (lv' := [(10, .long z_1), (0, .long a), (2, .long b), (4, .int (nI d)), (5, .long v5), (7, .int (nI n7)), (8, .long v8)]) hx hb d_Mod_dif_75 hl (by decide) rfl (fun ls hl => ?_)
  refine lv_lload hx hb d_Mod_dif_77 (lv_at hl 6 rfl) ?_
  refine lv_lload hx hb d_Mod_dif_79 (lv_at hl 0 rfl) ?_
  refine mx_ci (wr := []) F (mx_runS (As := [.long v8, .long z_1]) (rest := []) (n := 2) F (s_Long_compareUnsigned l K v8 z_1 H.size) k_1334 (Or.inl k_1332) k_1333 k_21 p_Long_compareUnsigned rfl rfl hP hD hS [] rfl (by decide)  rfl hl.1 rfl (Nat.le_of_ble_eq_true rfl) ⟨Nat.le_trans (m := 3) (by decide) hRf, Nat.le_trans (m := 66) (by decide) hRl⟩ ⟨Nat.zero_le _, Nat.zero_le _⟩ d_Mod_dif_81) hP hD hS [] [] rfl rfl (by decide) (by decide) (fun r_3 _ H locs hq_2 hP hD hS => ?_)
  have hP : va_P K.1 mx_cl [] H := hP
  have hD : va_D A [] := hD
  refine W.cs (cells' := 0) (slots' := 0) rfl rfl ?_
  refine lv_if_le (tgt := 103) hx hb d_Mod_dif_84 (by decide) (fun h_4 => ?_) (fun h_4 => ?_)
  · exact m_dif_b103 a b d hd1 hd8 F hr hlk hRf hRl N6 kk6 v5 n7 v8 z_1 _ _ _ (by first | assumption | omega | exact mx_ch_0) (by first | assumption | omega | exact mx_ch_0) (by first | assumption | omega | exact mx_ch_0) (lv_sub hl [1, 2, 3, 4, 5, 6, 0] rfl) hP hD hS
  · refine lv_lload hx hb d_Mod_dif_87 (lv_at hl 4 rfl) ?_
    refine lv_lload hx hb d_Mod_dif_89 (lv_at hl 6 rfl) ?_
    refine lv_lload hx hb d_Mod_dif_91 (lv_at hl 0 rfl) ?_
    refine lv_lsub hx hb d_Mod_dif_93 ?_
    refine lv_bipush (v := 8) hx hb d_Mod_dif_94 (by decide) ?_
    refine lv_iload hx hb d_Mod_dif_96 (lv_at hl 5 rfl) ?_
    refine lv_imul hx hb d_Mod_dif_98 ?_
    refine lv_lshl (v := (v8 - z_1) <<< (((8 : Int32) * (nI n7)).toInt64 &&& 63)) hx hb d_Mod_dif_99 rfl ?_
    refine lv_lor hx hb d_Mod_dif_100 ?_
    refine lv_topl (fun z_5 ez_5 => ?_)
    refine lv_lstore (lv' := [(5, .long z_5), (10, .long z_1), (0, .long a), (2, .long b), (4, .int (nI d)), (7, .int (nI n7)), (8, .long v8)]) hx hb d_Mod_dif_101 hl (by decide) rfl (fun ls hl => ?_)
    exact m_dif_b103 a b d hd1 hd8 F hr hlk hRf hRl N6 kk6 z_5 n7 v8 z_1 _ _ _ (by first | assumption | omega | exact mx_ch_0) (by first | assumption | omega | exact mx_ch_0) (by first | assumption | omega | exact mx_ch_0) (lv_sub hl [2, 3, 4, 0, 5, 6, 1] rfl) hP hD hS
set_option maxHeartbeats 4000000 in
set_option maxRecDepth 100000 in
theorem m_dif_b42 {p : Program} {l : Launch} {e : Env} {R : Room} {s : State} {m : MethodId} {args : Array Value} {below : List Frame} {meth : Method} {c : Code} {K : mx_K} {A : Nat → Prop} (a : Int64) (b : Int64) (d : Nat) (hd1 : 1 ≤ d) (hd8 : d ≤ 8) (F : mx_F p s m args c b_Mod_dif 12 "LittleMixModel" K A) (hr : meth.sig.returnType = some .long) (hlk : meth.locks = false) (hRf : 3 ≤ R.frames) (hRl : 66 ≤ R.locals)
    (N6 : Nat)
    (kk6 : ∀ (v5 : Int64) (n7 : Nat) (ls : Array Slot) (H : Heap) (locs : List Loc), 8 - n7 < N6 → (n7 ≤ 16) → lv_has ls 12 [(0, .long a), (2, .long b), (4, .int (nI d)), (5, .long v5), (7, .int (nI n7))] → va_P K.1 mx_cl [] H → va_D A [] → va_S A s.heap H locs → W p l e R s m args below meth c H locs 0 0 (MQ below (va_Ql (fun (r : Int64) (u : Unit) => True) (mx_B K A (fun u : Unit => [])) A) args s 0 0 A) (F0 m 6 ls []))
    : ∀ (v5 : Int64) (n7 : Nat) (vs0 : Int64) (vs1 : Int64) (ls : Array Slot) (H : Heap) (locs : List Loc), (n7 ≤ 16) → (8 - n7 < N6 + 1) → (n7 < 8) → lv_has ls 12 [(0, .long a), (2, .long b), (4, .int (nI d)), (5, .long v5), (7, .int (nI n7))] → va_P K.1 mx_cl [] H → va_D A [] → va_S A s.heap H locs → W p l e R s m args below meth c H locs 0 0 (MQ below (va_Ql (fun (r : Int64) (u : Unit) => True) (mx_B K A (fun u : Unit => [])) A) args s 0 0 A) (F0 m 42 ls [.long vs0, .long vs1]) := by
  obtain ⟨hx, hb, hml, hown, hT, hK, hN, hE, hA⟩ := id F
  intro v5 n7 vs0 vs1 ls H locs hfa0 hfa1 h7 hl hP hD hS
  refine lv_land hx hb d_Mod_dif_42 ?_
  refine lv_topl (fun z_1 ez_1 => ?_)
  refine lv_lstore (lv' := [(8, .long z_1), (0, .long a), (2, .long b), (4, .int (nI d)), (5, .long v5), (7, .int (nI n7))]) hx hb d_Mod_dif_43 hl (by decide) rfl (fun ls hl => ?_)
  refine lv_lload_n hx hb d_Mod_dif_45 rfl (lv_at hl 2 rfl) ?_
  refine lv_bipush (v := 8) hx hb d_Mod_dif_46 (by decide) ?_
  refine lv_iload hx hb d_Mod_dif_48 (lv_at hl 5 rfl) ?_
  refine lv_imul hx hb d_Mod_dif_50 ?_
  refine lv_lushr (v := (b.toUInt64 >>> (((8 : Int32) * (nI n7)).toInt64.toUInt64 &&& Int64.toUInt64 63)).toInt64) hx hb d_Mod_dif_51 rfl ?_
  refine lv_iload hx hb d_Mod_dif_52 (lv_at hl 3 rfl) ?_
  refine lv_bipush (v := 8) hx hb d_Mod_dif_54 (by decide) ?_
  refine lv_icmp_ne (tgt := 65) hx hb d_Mod_dif_56 (by decide) (fun h_2 => ?_) (fun h_2 => ?_)
  · have h_2n := mx_fNe (a := d) (b := 8) (by omega) (by omega) h_2
    refine lv_lconst (v := 1) hx hb d_Mod_dif_65 (by decide) ?_
    refine lv_bipush (v := 8) hx hb d_Mod_dif_66 (by decide) ?_
    refine lv_iload hx hb d_Mod_dif_68 (lv_at hl 3 rfl) ?_
    refine lv_imul hx hb d_Mod_dif_70 ?_
    refine lv_lshl (v := (1 : Int64) <<< (((8 : Int32) * (nI d)).toInt64 &&& 63)) hx hb d_Mod_dif_71 rfl ?_
    refine lv_lconst (v := 1) hx hb d_Mod_dif_72 (by decide) ?_
    refine lv_lsub hx hb d_Mod_dif_73 ?_
    exact m_dif_b74 a b d hd1 hd8 F hr hlk hRf hRl N6 kk6 v5 n7 z_1 (((1 : Int64) <<< (((8 : Int32) * (nI d)).toInt64 &&& 63)) - (1 : Int64)) ((b.toUInt64 >>> (((8 : Int32) * (nI n7)).toInt64.toUInt64 &&& Int64.toUInt64 63)).toInt64) _ _ _ (by first | assumption | omega | exact mx_ch_0) (by first | assumption | omega | exact mx_ch_0) (by first | assumption | omega | exact mx_ch_0) (lv_sub hl [1, 2, 3, 4, 5, 0] rfl) hP hD hS
  · have h_2n := mx_fEq (a := d) (b := 8) (by omega) (by omega) h_2
    refine lv_ldc2 (v := (-1)) hx hb hown (hT _ k_1271) d_Mod_dif_59 ?_
    refine lv_goto (tgt := 74) hx hb d_Mod_dif_62 (by decide) ?_
    exact m_dif_b74 a b d hd1 hd8 F hr hlk hRf hRl N6 kk6 v5 n7 z_1 (-1 : Int64) ((b.toUInt64 >>> (((8 : Int32) * (nI n7)).toInt64.toUInt64 &&& Int64.toUInt64 63)).toInt64) _ _ _ (by first | assumption | omega | exact mx_ch_0) (by first | assumption | omega | exact mx_ch_0) (by first | assumption | omega | exact mx_ch_0) (lv_sub hl [1, 2, 3, 4, 5, 0] rfl) hP hD hS
set_option maxHeartbeats 4000000 in
set_option maxRecDepth 100000 in
theorem m_dif_b6 {p : Program} {l : Launch} {e : Env} {R : Room} {s : State} {m : MethodId} {args : Array Value} {below : List Frame} {meth : Method} {c : Code} {K : mx_K} {A : Nat → Prop} (a : Int64) (b : Int64) (d : Nat) (hd1 : 1 ≤ d) (hd8 : d ≤ 8) (F : mx_F p s m args c b_Mod_dif 12 "LittleMixModel" K A) (hr : meth.sig.returnType = some .long) (hlk : meth.locks = false) (hRf : 3 ≤ R.frames) (hRl : 66 ≤ R.locals)
    : ∀ n : Nat, ∀ (v5 : Int64) (n7 : Nat) (ls : Array Slot) (H : Heap) (locs : List Loc), 8 - n7 < n → (n7 ≤ 16) → lv_has ls 12 [(0, .long a), (2, .long b), (4, .int (nI d)), (5, .long v5), (7, .int (nI n7))] → va_P K.1 mx_cl [] H → va_D A [] → va_S A s.heap H locs → W p l e R s m args below meth c H locs 0 0 (MQ below (va_Ql (fun (r : Int64) (u : Unit) => True) (mx_B K A (fun u : Unit => [])) A) args s 0 0 A) (F0 m 6 ls []) := by
  obtain ⟨hx, hb, hml, hown, hT, hK, hN, hE, hA⟩ := id F
  intro n
  induction n with
  | zero =>
    intro v5 n7 ls H locs hmu h7 hl hP hD hS
    exact absurd hmu (Nat.not_lt_zero _)
  | succ n ih =>
    intro v5 n7 ls H locs hmu h7 hl hP hD hS
    refine lv_iload hx hb d_Mod_dif_6 (lv_at hl 4 rfl) ?_
    refine lv_bipush (v := 8) hx hb d_Mod_dif_8 (by decide) ?_
    refine lv_icmp_ge (tgt := 113) hx hb d_Mod_dif_10 (by decide) (fun h_1 => ?_) (fun h_1 => ?_)
    · have h_1n := mx_fLe (a := 8) (b := n7) (by omega) (by omega) h_1
      refine lv_lload hx hb d_Mod_dif_113 (lv_at hl 3 rfl) ?_
      exact mx_rl F hr hlk hP hD hS () [] rfl (by decide) trivial (by decide) (by decide) d_Mod_dif_115
    · have h_1n := mx_fNle (a := 8) (b := n7) (by omega) (by omega) h_1
      refine lv_lload_n hx hb d_Mod_dif_13 rfl (lv_at hl 0 rfl) ?_
      refine lv_bipush (v := 8) hx hb d_Mod_dif_14 (by decide) ?_
      refine lv_iload hx hb d_Mod_dif_16 (lv_at hl 4 rfl) ?_
      refine lv_imul hx hb d_Mod_dif_18 ?_
      refine lv_lushr (v := (a.toUInt64 >>> (((8 : Int32) * (nI n7)).toInt64.toUInt64 &&& Int64.toUInt64 63)).toInt64) hx hb d_Mod_dif_19 rfl ?_
      refine lv_iload hx hb d_Mod_dif_20 (lv_at hl 2 rfl) ?_
      refine lv_bipush (v := 8) hx hb d_Mod_dif_22 (by decide) ?_
      refine lv_icmp_ne (tgt := 33) hx hb d_Mod_dif_24 (by decide) (fun h_2 => ?_) (fun h_2 => ?_)
      · have h_2n := mx_fNe (a := d) (b := 8) (by omega) (by omega) h_2
        refine lv_lconst (v := 1) hx hb d_Mod_dif_33 (by decide) ?_
        refine lv_bipush (v := 8) hx hb d_Mod_dif_34 (by decide) ?_
        refine lv_iload hx hb d_Mod_dif_36 (lv_at hl 2 rfl) ?_
        refine lv_imul hx hb d_Mod_dif_38 ?_
        refine lv_lshl (v := (1 : Int64) <<< (((8 : Int32) * (nI d)).toInt64 &&& 63)) hx hb d_Mod_dif_39 rfl ?_
        refine lv_lconst (v := 1) hx hb d_Mod_dif_40 (by decide) ?_
        refine lv_lsub hx hb d_Mod_dif_41 ?_
        exact m_dif_b42 a b d hd1 hd8 F hr hlk hRf hRl n ih v5 n7 (((1 : Int64) <<< (((8 : Int32) * (nI d)).toInt64 &&& 63)) - (1 : Int64)) ((a.toUInt64 >>> (((8 : Int32) * (nI n7)).toInt64.toUInt64 &&& Int64.toUInt64 63)).toInt64) _ _ _ (by first | assumption | omega | exact mx_ch_0) (by first | assumption | omega | exact mx_ch_0) (by first | assumption | omega | exact mx_ch_0) (lv_sub hl [0, 1, 2, 3, 4] rfl) hP hD hS
      · have h_2n := mx_fEq (a := d) (b := 8) (by omega) (by omega) h_2
        refine lv_ldc2 (v := (-1)) hx hb hown (hT _ k_1271) d_Mod_dif_27 ?_
        refine lv_goto (tgt := 42) hx hb d_Mod_dif_30 (by decide) ?_
        exact m_dif_b42 a b d hd1 hd8 F hr hlk hRf hRl n ih v5 n7 (-1 : Int64) ((a.toUInt64 >>> (((8 : Int32) * (nI n7)).toInt64.toUInt64 &&& Int64.toUInt64 63)).toInt64) _ _ _ (by first | assumption | omega | exact mx_ch_0) (by first | assumption | omega | exact mx_ch_0) (by first | assumption | omega | exact mx_ch_0) (lv_sub hl [0, 1, 2, 3, 4] rfl) hP hD hS
set_option maxHeartbeats 4000000 in
set_option maxRecDepth 100000 in
theorem m_dif (l : Launch) (K : mx_K) (a : Int64) (b : Int64) (d : Nat) (sz : Nat) (hd1 : 1 ≤ d) (hd8 : d ≤ 8) : mx_L l y_Mod_dif b_Mod_dif 12 { frames := 3, cells := 0, slots := 0, locals := 66 } K [.long a, .long b, .int (nI d)] [] sz (fun (r : Int64) (u : Unit) => True) (fun u : Unit => []) := by
  refine mx_of (by decide) (Nat.le_of_ble_eq_true rfl) ?_
  intro p e s m below meth c A ls H locs hAe F hr hlk hin hsz hP hD hS hl
  rw [hAe]
  have hl : lv_has ls 12 [(0, .long a), (2, .long b), (4, .int (nI d))] := hl
  obtain ⟨hx, hb, hml, hown, hT, hK, hN, hE, hA⟩ := id F
  refine lv_lconst (v := 0) hx hb d_Mod_dif_0 (by decide) ?_
  refine lv_lstore (lv' := [(5, .long 0), (0, .long a), (2, .long b), (4, .int (nI d))]) hx hb d_Mod_dif_1 hl (by decide) rfl (fun ls hl => ?_)
  refine lv_iconst (v := 0) hx hb d_Mod_dif_3 (by decide) ?_
  refine lv_istore (lv' := [(7, .int 0), (5, .long 0), (0, .long a), (2, .long b), (4, .int (nI d))]) hx hb d_Mod_dif_4 hl (by decide) rfl (fun ls hl => ?_)
  exact m_dif_b6 a b d hd1 hd8 F hr hlk (by decide) (by decide) (8 - 0 + 1) (0 : Int64) 0 _ _ _ (by omega) (by first | assumption | omega | exact mx_ch_0) (lv_sub hl [2, 3, 4, 1, 0] rfl) hP hD hS
set_option maxHeartbeats 4000000 in
set_option maxRecDepth 100000 in
theorem m_matrix_b81 {p : Program} {l : Launch} {e : Env} {R : Room} {s : State} {m : MethodId} {args : Array Value} {below : List Frame} {meth : Method} {c : Code} {K : mx_K} {A : Nat → Prop} (a : Int64) (b : Int64) (d : Int32) (F : mx_F p s m args c b_Mod_matrix 14 "LittleMixModel" K A) (hr : meth.sig.returnType = some .long) (hlk : meth.locks = false) (hRf : 2 ≤ R.frames) (hRl : 42 ≤ R.locals)
    (N6 : Nat) (N16 : Nat) (N29 : Nat)
    (kk29 : ∀ (v5 : Int64) (n7 : Nat) (n8 : Nat) (v9 : Int64) (n11 : Nat) (ls : Array Slot) (H : Heap) (locs : List Loc), 8 - n11 < N29 → (n7 ≤ 8) → (8 - n7 < N6 + 1) → (n8 ≤ 8) → (8 - n8 < N16 + 1) → (n7 < 8) → (n8 < 8) → (n11 ≤ 8) → lv_has ls 14 [(0, .long a), (2, .long b), (4, .int d), (5, .long v5), (7, .int (nI n7)), (8, .int (nI n8)), (9, .long v9), (11, .int (nI n11))] → va_P K.1 mx_cl [] H → va_D A [] → va_S A s.heap H locs → W p l e R s m args below meth c H locs 0 0 (MQ below (va_Ql (fun (r : Int64) (u : Unit) => True) (mx_B K A (fun u : Unit => [])) A) args s 0 0 A) (F0 m 29 ls []))
    : ∀ (v5 : Int64) (n7 : Nat) (n8 : Nat) (v9 : Int64) (n11 : Nat) (v12 : Int64) (vs0 : Int64) (ls : Array Slot) (H : Heap) (locs : List Loc), (n7 ≤ 8) → (8 - n7 < N6 + 1) → (n8 ≤ 8) → (8 - n8 < N16 + 1) → (n7 < 8) → (n8 < 8) → (n11 ≤ 8) → (8 - n11 < N29 + 1) → (n11 < 8) → lv_has ls 14 [(0, .long a), (2, .long b), (4, .int d), (5, .long v5), (7, .int (nI n7)), (8, .int (nI n8)), (9, .long v9), (11, .int (nI n11)), (12, .long v12)] → va_P K.1 mx_cl [] H → va_D A [] → va_S A s.heap H locs → W p l e R s m args below meth c H locs 0 0 (MQ below (va_Ql (fun (r : Int64) (u : Unit) => True) (mx_B K A (fun u : Unit => [])) A) args s 0 0 A) (F0 m 81 ls [.long vs0]) := by
  obtain ⟨hx, hb, hml, hown, hT, hK, hN, hE, hA⟩ := id F
  intro v5 n7 n8 v9 n11 v12 vs0 ls H locs hfa0 hfa1 hfa2 hfa3 hfa4 hfa5 hfa6 hfa7 hfa8 hl hP hD hS
  refine lv_lstore (lv' := [(9, .long vs0), (0, .long a), (2, .long b), (4, .int d), (5, .long v5), (7, .int (nI n7)), (8, .int (nI n8)), (11, .int (nI n11)), (12, .long v12)]) hx hb d_Mod_matrix_81 hl (by decide) rfl (fun ls hl => ?_)
  refine lv_iinc (lv' := [(11, .int (nI (n11 + 1))), (9, .long vs0), (0, .long a), (2, .long b), (4, .int d), (5, .long v5), (7, .int (nI n7)), (8, .int (nI n8)), (12, .long v12)]) (v := nI (n11 + 1)) (k := 7) hx hb d_Mod_matrix_83 hl rfl (mx_inc n11) (by decide) rfl (fun ls hl => ?_)
  refine lv_goto (tgt := 29) hx hb d_Mod_matrix_86 (by decide) ?_
  exact kk29 v5 n7 n8 vs0 (n11 + 1) _ _ _ (by omega) (by first | assumption | omega | exact mx_ch_0) (by first | assumption | omega | exact mx_ch_0) (by first | assumption | omega | exact mx_ch_0) (by first | assumption | omega | exact mx_ch_0) (by first | assumption | omega | exact mx_ch_0) (by first | assumption | omega | exact mx_ch_0) (by first | assumption | omega | exact mx_ch_0) (lv_sub hl [2, 3, 4, 5, 6, 7, 1, 0] rfl) hP hD hS
set_option maxHeartbeats 4000000 in
set_option maxRecDepth 100000 in
theorem m_matrix_b29 {p : Program} {l : Launch} {e : Env} {R : Room} {s : State} {m : MethodId} {args : Array Value} {below : List Frame} {meth : Method} {c : Code} {K : mx_K} {A : Nat → Prop} (a : Int64) (b : Int64) (d : Int32) (F : mx_F p s m args c b_Mod_matrix 14 "LittleMixModel" K A) (hr : meth.sig.returnType = some .long) (hlk : meth.locks = false) (hRf : 2 ≤ R.frames) (hRl : 42 ≤ R.locals)
    (N6 : Nat) (N16 : Nat)
    (kk16 : ∀ (v5 : Int64) (n7 : Nat) (n8 : Nat) (ls : Array Slot) (H : Heap) (locs : List Loc), 8 - n8 < N16 → (n7 ≤ 8) → (8 - n7 < N6 + 1) → (n7 < 8) → (n8 ≤ 8) → lv_has ls 14 [(0, .long a), (2, .long b), (4, .int d), (5, .long v5), (7, .int (nI n7)), (8, .int (nI n8))] → va_P K.1 mx_cl [] H → va_D A [] → va_S A s.heap H locs → W p l e R s m args below meth c H locs 0 0 (MQ below (va_Ql (fun (r : Int64) (u : Unit) => True) (mx_B K A (fun u : Unit => [])) A) args s 0 0 A) (F0 m 16 ls []))
    : ∀ n : Nat, ∀ (v5 : Int64) (n7 : Nat) (n8 : Nat) (v9 : Int64) (n11 : Nat) (ls : Array Slot) (H : Heap) (locs : List Loc), 8 - n11 < n → (n7 ≤ 8) → (8 - n7 < N6 + 1) → (n8 ≤ 8) → (8 - n8 < N16 + 1) → (n7 < 8) → (n8 < 8) → (n11 ≤ 8) → lv_has ls 14 [(0, .long a), (2, .long b), (4, .int d), (5, .long v5), (7, .int (nI n7)), (8, .int (nI n8)), (9, .long v9), (11, .int (nI n11))] → va_P K.1 mx_cl [] H → va_D A [] → va_S A s.heap H locs → W p l e R s m args below meth c H locs 0 0 (MQ below (va_Ql (fun (r : Int64) (u : Unit) => True) (mx_B K A (fun u : Unit => [])) A) args s 0 0 A) (F0 m 29 ls []) := by
  obtain ⟨hx, hb, hml, hown, hT, hK, hN, hE, hA⟩ := id F
  intro n
  induction n with
  | zero =>
    intro v5 n7 n8 v9 n11 ls H locs hmu hfa0 hfa1 hfa2 hfa3 h7 h8 h11 hl hP hD hS
    exact absurd hmu (Nat.not_lt_zero _)
  | succ n ih =>
    intro v5 n7 n8 v9 n11 ls H locs hmu hfa0 hfa1 hfa2 hfa3 h7 h8 h11 hl hP hD hS
    refine lv_iload hx hb d_Mod_matrix_29 (lv_at hl 7 rfl) ?_
    refine lv_bipush (v := 8) hx hb d_Mod_matrix_31 (by decide) ?_
    refine lv_icmp_ge (tgt := 89) hx hb d_Mod_matrix_33 (by decide) (fun h_1 => ?_) (fun h_1 => ?_)
    · have h_1n := mx_fLe (a := 8) (b := n11) (by omega) (by omega) h_1
      refine lv_lload hx hb d_Mod_matrix_89 (lv_at hl 3 rfl) ?_
      refine lv_lload hx hb d_Mod_matrix_91 (lv_at hl 6 rfl) ?_
      refine lv_bipush (v := 8) hx hb d_Mod_matrix_93 (by decide) ?_
      refine lv_iload hx hb d_Mod_matrix_95 (lv_at hl 4 rfl) ?_
      refine lv_imul hx hb d_Mod_matrix_97 ?_
      refine lv_iload hx hb d_Mod_matrix_98 (lv_at hl 5 rfl) ?_
      refine lv_iadd hx hb d_Mod_matrix_100 ?_
      refine lv_lshl (v := v9 <<< ((((8 : Int32) * (nI n7)) + (nI n8)).toInt64 &&& 63)) hx hb d_Mod_matrix_101 rfl ?_
      refine lv_lor hx hb d_Mod_matrix_102 ?_
      refine lv_topl (fun z_2 ez_2 => ?_)
      refine lv_lstore (lv' := [(5, .long z_2), (0, .long a), (2, .long b), (4, .int d), (7, .int (nI n7)), (8, .int (nI n8)), (9, .long v9), (11, .int (nI n11))]) hx hb d_Mod_matrix_103 hl (by decide) rfl (fun ls hl => ?_)
      refine lv_iinc (lv' := [(8, .int (nI (n8 + 1))), (5, .long z_2), (0, .long a), (2, .long b), (4, .int d), (7, .int (nI n7)), (9, .long v9), (11, .int (nI n11))]) (v := nI (n8 + 1)) (k := 5) hx hb d_Mod_matrix_105 hl rfl (mx_inc n8) (by decide) rfl (fun ls hl => ?_)
      refine lv_goto (tgt := 16) hx hb d_Mod_matrix_108 (by decide) ?_
      exact kk16 z_2 n7 (n8 + 1) _ _ _ (by omega) (by first | assumption | omega | exact mx_ch_0) (by first | assumption | omega | exact mx_ch_0) (by first | assumption | omega | exact mx_ch_0) (by first | assumption | omega | exact mx_ch_0) (lv_sub hl [2, 3, 4, 1, 5, 0] rfl) hP hD hS
    · have h_1n := mx_fNle (a := 8) (b := n11) (by omega) (by omega) h_1
      refine lv_lload_n hx hb d_Mod_matrix_36 rfl (lv_at hl 1 rfl) ?_
      refine lv_bipush (v := 8) hx hb d_Mod_matrix_37 (by decide) ?_
      refine lv_iload hx hb d_Mod_matrix_39 (lv_at hl 4 rfl) ?_
      refine lv_imul hx hb d_Mod_matrix_41 ?_
      refine lv_iload hx hb d_Mod_matrix_42 (lv_at hl 7 rfl) ?_
      refine lv_iadd hx hb d_Mod_matrix_44 ?_
      refine mx_cj (wr := []) F (mx_runS (As := [.long b, .int (((8 : Int32) * (nI n7)) + (nI n11))]) (rest := []) (n := 2) F (m_bit l K b (((8 : Int32) * (nI n7)) + (nI n11)) H.size) k_1331 (Or.inl k_1329) k_1330 k_15 p_Mod_bit rfl rfl hP hD hS [] rfl (by decide)  rfl hl.1 rfl (Nat.le_of_ble_eq_true rfl) ⟨Nat.le_trans (m := 2) (by decide) hRf, Nat.le_trans (m := 42) (by decide) hRl⟩ ⟨Nat.zero_le _, Nat.zero_le _⟩ d_Mod_matrix_45) hP hD hS [] [] rfl rfl (by decide) (by decide) (fun r_4 _ H locs hq_3 hP hD hS => ?_)
      have hP : va_P K.1 mx_cl [] H := hP
      have hD : va_D A [] := hD
      refine W.cs (cells' := 0) (slots' := 0) rfl rfl ?_
      refine lv_lload_n hx hb d_Mod_matrix_48 rfl (lv_at hl 0 rfl) ?_
      refine lv_bipush (v := 8) hx hb d_Mod_matrix_49 (by decide) ?_
      refine lv_iload hx hb d_Mod_matrix_51 (lv_at hl 7 rfl) ?_
      refine lv_imul hx hb d_Mod_matrix_53 ?_
      refine lv_iload hx hb d_Mod_matrix_54 (lv_at hl 5 rfl) ?_
      refine lv_iadd hx hb d_Mod_matrix_56 ?_
      refine mx_cj (wr := []) F (mx_runS (As := [.long a, .int (((8 : Int32) * (nI n11)) + (nI n8))]) (rest := [.long r_4]) (n := 2) F (m_bit l K a (((8 : Int32) * (nI n11)) + (nI n8)) H.size) k_1331 (Or.inl k_1329) k_1330 k_15 p_Mod_bit rfl rfl hP hD hS [] rfl (by decide)  rfl hl.1 rfl (Nat.le_of_ble_eq_true rfl) ⟨Nat.le_trans (m := 2) (by decide) hRf, Nat.le_trans (m := 42) (by decide) hRl⟩ ⟨Nat.zero_le _, Nat.zero_le _⟩ d_Mod_matrix_57) hP hD hS [] [] rfl rfl (by decide) (by decide) (fun r_6 _ H locs hq_5 hP hD hS => ?_)
      have hP : va_P K.1 mx_cl [] H := hP
      have hD : va_D A [] := hD
      refine W.cs (cells' := 0) (slots' := 0) rfl rfl ?_
      refine lv_land hx hb d_Mod_matrix_60 ?_
      refine lv_topl (fun z_7 ez_7 => ?_)
      refine lv_lstore (lv' := [(12, .long z_7), (0, .long a), (2, .long b), (4, .int d), (5, .long v5), (7, .int (nI n7)), (8, .int (nI n8)), (9, .long v9), (11, .int (nI n11))]) hx hb d_Mod_matrix_61 hl (by decide) rfl (fun ls hl => ?_)
      refine lv_iload hx hb d_Mod_matrix_63 (lv_at hl 3 rfl) ?_
      refine lv_if_eq (tgt := 76) hx hb d_Mod_matrix_65 (by decide) (fun h_8 => ?_) (fun h_8 => ?_)
      · refine lv_lload hx hb d_Mod_matrix_76 (lv_at hl 7 rfl) ?_
        refine lv_lload hx hb d_Mod_matrix_78 (lv_at hl 0 rfl) ?_
        refine lv_lor hx hb d_Mod_matrix_80 ?_
        exact m_matrix_b81 a b d F hr hlk hRf hRl N6 N16 n ih v5 n7 n8 v9 n11 z_7 (v9 ||| z_7) _ _ _ (by first | assumption | omega | exact mx_ch_0) (by first | assumption | omega | exact mx_ch_0) (by first | assumption | omega | exact mx_ch_0) (by first | assumption | omega | exact mx_ch_0) (by first | assumption | omega | exact mx_ch_0) (by first | assumption | omega | exact mx_ch_0) (by first | assumption | omega | exact mx_ch_0) (by first | assumption | omega | exact mx_ch_0) (by first | assumption | omega | exact mx_ch_0) (lv_sub hl [1, 2, 3, 4, 5, 6, 7, 8, 0] rfl) hP hD hS
      · refine lv_lload hx hb d_Mod_matrix_68 (lv_at hl 7 rfl) ?_
        refine lv_lload hx hb d_Mod_matrix_70 (lv_at hl 0 rfl) ?_
        refine lv_lxor hx hb d_Mod_matrix_72 ?_
        refine lv_goto (tgt := 81) hx hb d_Mod_matrix_73 (by decide) ?_
        exact m_matrix_b81 a b d F hr hlk hRf hRl N6 N16 n ih v5 n7 n8 v9 n11 z_7 (v9 ^^^ z_7) _ _ _ (by first | assumption | omega | exact mx_ch_0) (by first | assumption | omega | exact mx_ch_0) (by first | assumption | omega | exact mx_ch_0) (by first | assumption | omega | exact mx_ch_0) (by first | assumption | omega | exact mx_ch_0) (by first | assumption | omega | exact mx_ch_0) (by first | assumption | omega | exact mx_ch_0) (by first | assumption | omega | exact mx_ch_0) (by first | assumption | omega | exact mx_ch_0) (lv_sub hl [1, 2, 3, 4, 5, 6, 7, 8, 0] rfl) hP hD hS
set_option maxHeartbeats 4000000 in
set_option maxRecDepth 100000 in
theorem m_matrix_b16 {p : Program} {l : Launch} {e : Env} {R : Room} {s : State} {m : MethodId} {args : Array Value} {below : List Frame} {meth : Method} {c : Code} {K : mx_K} {A : Nat → Prop} (a : Int64) (b : Int64) (d : Int32) (F : mx_F p s m args c b_Mod_matrix 14 "LittleMixModel" K A) (hr : meth.sig.returnType = some .long) (hlk : meth.locks = false) (hRf : 2 ≤ R.frames) (hRl : 42 ≤ R.locals)
    (N6 : Nat)
    (kk6 : ∀ (v5 : Int64) (n7 : Nat) (ls : Array Slot) (H : Heap) (locs : List Loc), 8 - n7 < N6 → (n7 ≤ 8) → lv_has ls 14 [(0, .long a), (2, .long b), (4, .int d), (5, .long v5), (7, .int (nI n7))] → va_P K.1 mx_cl [] H → va_D A [] → va_S A s.heap H locs → W p l e R s m args below meth c H locs 0 0 (MQ below (va_Ql (fun (r : Int64) (u : Unit) => True) (mx_B K A (fun u : Unit => [])) A) args s 0 0 A) (F0 m 6 ls []))
    : ∀ n : Nat, ∀ (v5 : Int64) (n7 : Nat) (n8 : Nat) (ls : Array Slot) (H : Heap) (locs : List Loc), 8 - n8 < n → (n7 ≤ 8) → (8 - n7 < N6 + 1) → (n7 < 8) → (n8 ≤ 8) → lv_has ls 14 [(0, .long a), (2, .long b), (4, .int d), (5, .long v5), (7, .int (nI n7)), (8, .int (nI n8))] → va_P K.1 mx_cl [] H → va_D A [] → va_S A s.heap H locs → W p l e R s m args below meth c H locs 0 0 (MQ below (va_Ql (fun (r : Int64) (u : Unit) => True) (mx_B K A (fun u : Unit => [])) A) args s 0 0 A) (F0 m 16 ls []) := by
  obtain ⟨hx, hb, hml, hown, hT, hK, hN, hE, hA⟩ := id F
  intro n
  induction n with
  | zero =>
    intro v5 n7 n8 ls H locs hmu hfa0 hfa1 h7 h8 hl hP hD hS
    exact absurd hmu (Nat.not_lt_zero _)
  | succ n ih =>
    intro v5 n7 n8 ls H locs hmu hfa0 hfa1 h7 h8 hl hP hD hS
    refine lv_iload hx hb d_Mod_matrix_16 (lv_at hl 5 rfl) ?_
    refine lv_bipush (v := 8) hx hb d_Mod_matrix_18 (by decide) ?_
    refine lv_icmp_ge (tgt := 111) hx hb d_Mod_matrix_20 (by decide) (fun h_1 => ?_) (fun h_1 => ?_)
    · have h_1n := mx_fLe (a := 8) (b := n8) (by omega) (by omega) h_1
      refine lv_iinc (lv' := [(7, .int (nI (n7 + 1))), (0, .long a), (2, .long b), (4, .int d), (5, .long v5), (8, .int (nI n8))]) (v := nI (n7 + 1)) (k := 4) hx hb d_Mod_matrix_111 hl rfl (mx_inc n7) (by decide) rfl (fun ls hl => ?_)
      refine lv_goto (tgt := 6) hx hb d_Mod_matrix_114 (by decide) ?_
      exact kk6 v5 (n7 + 1) _ _ _ (by omega) (by first | assumption | omega | exact mx_ch_0) (lv_sub hl [1, 2, 3, 4, 0] rfl) hP hD hS
    · have h_1n := mx_fNle (a := 8) (b := n8) (by omega) (by omega) h_1
      refine lv_lconst (v := 0) hx hb d_Mod_matrix_23 (by decide) ?_
      refine lv_lstore (lv' := [(9, .long 0), (0, .long a), (2, .long b), (4, .int d), (5, .long v5), (7, .int (nI n7)), (8, .int (nI n8))]) hx hb d_Mod_matrix_24 hl (by decide) rfl (fun ls hl => ?_)
      refine lv_iconst (v := 0) hx hb d_Mod_matrix_26 (by decide) ?_
      refine lv_istore (lv' := [(11, .int 0), (9, .long 0), (0, .long a), (2, .long b), (4, .int d), (5, .long v5), (7, .int (nI n7)), (8, .int (nI n8))]) hx hb d_Mod_matrix_27 hl (by decide) rfl (fun ls hl => ?_)
      exact m_matrix_b29 a b d F hr hlk hRf hRl N6 n ih (8 - 0 + 1) v5 n7 n8 (0 : Int64) 0 _ _ _ (by omega) (by first | assumption | omega | exact mx_ch_0) (by first | assumption | omega | exact mx_ch_0) (by first | assumption | omega | exact mx_ch_0) (by first | assumption | omega | exact mx_ch_0) (by first | assumption | omega | exact mx_ch_0) (by first | assumption | omega | exact mx_ch_0) (by first | assumption | omega | exact mx_ch_0) (lv_sub hl [2, 3, 4, 5, 6, 7, 1, 0] rfl) hP hD hS
set_option maxHeartbeats 4000000 in
set_option maxRecDepth 100000 in
theorem m_matrix_b6 {p : Program} {l : Launch} {e : Env} {R : Room} {s : State} {m : MethodId} {args : Array Value} {below : List Frame} {meth : Method} {c : Code} {K : mx_K} {A : Nat → Prop} (a : Int64) (b : Int64) (d : Int32) (F : mx_F p s m args c b_Mod_matrix 14 "LittleMixModel" K A) (hr : meth.sig.returnType = some .long) (hlk : meth.locks = false) (hRf : 2 ≤ R.frames) (hRl : 42 ≤ R.locals)
    : ∀ n : Nat, ∀ (v5 : Int64) (n7 : Nat) (ls : Array Slot) (H : Heap) (locs : List Loc), 8 - n7 < n → (n7 ≤ 8) → lv_has ls 14 [(0, .long a), (2, .long b), (4, .int d), (5, .long v5), (7, .int (nI n7))] → va_P K.1 mx_cl [] H → va_D A [] → va_S A s.heap H locs → W p l e R s m args below meth c H locs 0 0 (MQ below (va_Ql (fun (r : Int64) (u : Unit) => True) (mx_B K A (fun u : Unit => [])) A) args s 0 0 A) (F0 m 6 ls []) := by
  obtain ⟨hx, hb, hml, hown, hT, hK, hN, hE, hA⟩ := id F
  intro n
  induction n with
  | zero =>
    intro v5 n7 ls H locs hmu h7 hl hP hD hS
    exact absurd hmu (Nat.not_lt_zero _)
  | succ n ih =>
    intro v5 n7 ls H locs hmu h7 hl hP hD hS
    refine lv_iload hx hb d_Mod_matrix_6 (lv_at hl 4 rfl) ?_
    refine lv_bipush (v := 8) hx hb d_Mod_matrix_8 (by decide) ?_
    refine lv_icmp_ge (tgt := 117) hx hb d_Mod_matrix_10 (by decide) (fun h_1 => ?_) (fun h_1 => ?_)
    · have h_1n := mx_fLe (a := 8) (b := n7) (by omega) (by omega) h_1
      refine lv_lload hx hb d_Mod_matrix_117 (lv_at hl 3 rfl) ?_
      exact mx_rl F hr hlk hP hD hS () [] rfl (by decide) trivial (by decide) (by decide) d_Mod_matrix_119
    · have h_1n := mx_fNle (a := 8) (b := n7) (by omega) (by omega) h_1
      refine lv_iconst (v := 0) hx hb d_Mod_matrix_13 (by decide) ?_
      refine lv_istore (lv' := [(8, .int 0), (0, .long a), (2, .long b), (4, .int d), (5, .long v5), (7, .int (nI n7))]) hx hb d_Mod_matrix_14 hl (by decide) rfl (fun ls hl => ?_)
      exact m_matrix_b16 a b d F hr hlk hRf hRl n ih (8 - 0 + 1) v5 n7 0 _ _ _ (by omega) (by first | assumption | omega | exact mx_ch_0) (by first | assumption | omega | exact mx_ch_0) (by first | assumption | omega | exact mx_ch_0) (by first | assumption | omega | exact mx_ch_0) (lv_sub hl [1, 2, 3, 4, 5, 0] rfl) hP hD hS
set_option maxHeartbeats 4000000 in
set_option maxRecDepth 100000 in
theorem m_matrix (l : Launch) (K : mx_K) (a : Int64) (b : Int64) (d : Int32) (sz : Nat) : mx_L l y_Mod_matrix b_Mod_matrix 14 { frames := 2, cells := 0, slots := 0, locals := 42 } K [.long a, .long b, .int d] [] sz (fun (r : Int64) (u : Unit) => True) (fun u : Unit => []) := by
  refine mx_of (by decide) (Nat.le_of_ble_eq_true rfl) ?_
  intro p e s m below meth c A ls H locs hAe F hr hlk hin hsz hP hD hS hl
  rw [hAe]
  have hl : lv_has ls 14 [(0, .long a), (2, .long b), (4, .int d)] := hl
  obtain ⟨hx, hb, hml, hown, hT, hK, hN, hE, hA⟩ := id F
  refine lv_lconst (v := 0) hx hb d_Mod_matrix_0 (by decide) ?_
  refine lv_lstore (lv' := [(5, .long 0), (0, .long a), (2, .long b), (4, .int d)]) hx hb d_Mod_matrix_1 hl (by decide) rfl (fun ls hl => ?_)
  refine lv_iconst (v := 0) hx hb d_Mod_matrix_3 (by decide) ?_
  refine lv_istore (lv' := [(7, .int 0), (5, .long 0), (0, .long a), (2, .long b), (4, .int d)]) hx hb d_Mod_matrix_4 hl (by decide) rfl (fun ls hl => ?_)
  exact m_matrix_b6 a b d F hr hlk (by decide) (by decide) (8 - 0 + 1) (0 : Int64) 0 _ _ _ (by omega) (by first | assumption | omega | exact mx_ch_0) (lv_sub hl [2, 3, 4, 1, 0] rfl) hP hD hS
set_option maxHeartbeats 4000000 in
set_option maxRecDepth 100000 in
theorem m_holds_b87 {p : Program} {l : Launch} {e : Env} {R : Room} {s : State} {m : MethodId} {args : Array Value} {below : List Frame} {meth : Method} {c : Code} {K : mx_K} {A : Nat → Prop} (a : Int32) (b : Int64) (F : mx_F p s m args c b_Mod_holds 4 "LittleMixModel" K A) (hr : meth.sig.returnType = some .boolean) (hlk : meth.locks = false) (hRf : 1 ≤ R.frames) (hRl : 20 ≤ R.locals)
    : ∀ (n3 : Nat) (ns0 : Nat) (ns1 : Nat) (ls : Array Slot) (H : Heap) (locs : List Loc), (n3 ≤ 1) → (ns0 ≤ 1) → (ns1 ≤ 1) → lv_has ls 4 [(0, .int a), (1, .long b), (3, .int (nI n3))] → va_P K.1 mx_cl [] H → va_D A [] → va_S A s.heap H locs → W p l e R s m args below meth c H locs 0 0 (MQ below (va_Qi (fun (r : Int32) (u : Unit) => r = 0 ∨ r = 1) (mx_B K A (fun u : Unit => [])) A) args s 0 0 A) (F0 m 87 ls [.int (nI ns0), .int (nI ns1)]) := by
  obtain ⟨hx, hb, hml, hown, hT, hK, hN, hE, hA⟩ := id F
  intro n3 ns0 ns1 ls H locs hub_n3 hub_ns0 hub_ns1 hl hP hD hS
  refine lv_icmp_ne (tgt := 94) hx hb d_Mod_holds_87 (by decide) (fun h_1 => ?_) (fun h_1 => ?_)
  · have h_1n := mx_fNe (a := ns1) (b := ns0) (by omega) (by omega) h_1
    refine lv_iconst (v := 0) hx hb d_Mod_holds_94 (by decide) ?_
    exact mx_ri F hr hlk (by decide) hP hD hS () [] rfl (by decide) (Or.inl rfl) (by decide) (by decide) d_Mod_holds_95
  · have h_1n := mx_fEq (a := ns1) (b := ns0) (by omega) (by omega) h_1
    refine lv_iconst (v := 1) hx hb d_Mod_holds_90 (by decide) ?_
    refine lv_goto (tgt := 95) hx hb d_Mod_holds_91 (by decide) ?_
    exact mx_ri F hr hlk (by decide) hP hD hS () [] rfl (by decide) (Or.inr rfl) (by decide) (by decide) d_Mod_holds_95
set_option maxHeartbeats 4000000 in
set_option maxRecDepth 100000 in
theorem m_holds_b75 {p : Program} {l : Launch} {e : Env} {R : Room} {s : State} {m : MethodId} {args : Array Value} {below : List Frame} {meth : Method} {c : Code} {K : mx_K} {A : Nat → Prop} (a : Int32) (b : Int64) (F : mx_F p s m args c b_Mod_holds 4 "LittleMixModel" K A) (hr : meth.sig.returnType = some .boolean) (hlk : meth.locks = false) (hRf : 1 ≤ R.frames) (hRl : 20 ≤ R.locals)
    : ∀ (ns0 : Nat) (ls : Array Slot) (H : Heap) (locs : List Loc), (ns0 ≤ 1) → lv_has ls 4 [(0, .int a), (1, .long b)] → va_P K.1 mx_cl [] H → va_D A [] → va_S A s.heap H locs → W p l e R s m args below meth c H locs 0 0 (MQ below (va_Qi (fun (r : Int32) (u : Unit) => r = 0 ∨ r = 1) (mx_B K A (fun u : Unit => [])) A) args s 0 0 A) (F0 m 75 ls [.int (nI ns0)]) := by
  obtain ⟨hx, hb, hml, hown, hT, hK, hN, hE, hA⟩ := id F
  intro ns0 ls H locs hub_ns0 hl hP hD hS
  refine lv_istore_n (lv' := [(3, .int (nI ns0)), (0, .int a), (1, .long b)]) hx hb d_Mod_holds_75 rfl hl (by decide) rfl (fun ls hl => ?_)
  refine lv_iload_n hx hb d_Mod_holds_76 rfl (lv_at hl 0 rfl) ?_
  refine lv_iload_n hx hb d_Mod_holds_77 rfl (lv_at hl 1 rfl) ?_
  refine lv_iconst (v := 4) hx hb d_Mod_holds_78 (by decide) ?_
  refine lv_icmp_ge (tgt := 86) hx hb d_Mod_holds_79 (by decide) (fun h_1 => ?_) (fun h_1 => ?_)
  · refine lv_iconst (v := 0) hx hb d_Mod_holds_86 (by decide) ?_
    exact m_holds_b87 a b F hr hlk hRf hRl ns0 0 ns0 _ _ _ (by first | assumption | omega | exact mx_ch_0) (by first | assumption | omega | exact mx_ch_0) (by first | assumption | omega | exact mx_ch_0) (lv_sub hl [1, 2, 0] rfl) hP hD hS
  · refine lv_iconst (v := 1) hx hb d_Mod_holds_82 (by decide) ?_
    refine lv_goto (tgt := 87) hx hb d_Mod_holds_83 (by decide) ?_
    exact m_holds_b87 a b F hr hlk hRf hRl ns0 1 ns0 _ _ _ (by first | assumption | omega | exact mx_ch_0) (by first | assumption | omega | exact mx_ch_0) (by first | assumption | omega | exact mx_ch_0) (lv_sub hl [1, 2, 0] rfl) hP hD hS
set_option maxHeartbeats 4000000 in
set_option maxRecDepth 100000 in
theorem m_holds (l : Launch) (K : mx_K) (a : Int32) (b : Int64) (sz : Nat) : mx_I l y_Mod_holds b_Mod_holds 4 .boolean { frames := 1, cells := 0, slots := 0, locals := 20 } K [.int a, .long b] [] sz (fun (r : Int32) (u : Unit) => r = 0 ∨ r = 1) (fun u : Unit => []) := by
  refine mx_of (by decide) (Nat.le_of_ble_eq_true rfl) ?_
  intro p e s m below meth c A ls H locs hAe F hr hlk hin hsz hP hD hS hl
  rw [hAe]
  have hl : lv_has ls 4 [(0, .int a), (1, .long b)] := hl
  obtain ⟨hx, hb, hml, hown, hT, hK, hN, hE, hA⟩ := id F
  refine lv_iload_n hx hb d_Mod_holds_0 rfl (lv_at hl 0 rfl) ?_
  refine lv_iconst (v := 3) hx hb d_Mod_holds_1 (by decide) ?_
  refine lv_iand hx hb d_Mod_holds_2 ?_
  refine lv_topi (fun z_1 ez_1 => ?_)
  obtain ⟨m_2, hm_2, rfl⟩ : ∃ j : Nat, j < 4 ∧ z_1 = nI j := by rw [ez_1]; exact pk_andE _ (m := 3) 2 (by decide)
  refine lv_if_ne (tgt := 20) hx hb d_Mod_holds_3 (by decide) (fun h_3 => ?_) (fun h_3 => ?_)
  · have h_3n := mx_fNe (a := m_2) (b := 0) (by omega) (by omega) h_3
    refine lv_iload_n hx hb d_Mod_holds_20 rfl (lv_at hl 0 rfl) ?_
    refine lv_iconst (v := 3) hx hb d_Mod_holds_21 (by decide) ?_
    refine lv_iand hx hb d_Mod_holds_22 ?_
    refine lv_topi (fun z_4 ez_4 => ?_)
    obtain ⟨m_5, hm_5, rfl⟩ : ∃ j : Nat, j < 4 ∧ z_4 = nI j := by rw [ez_4]; exact pk_andE _ (m := 3) 2 (by decide)
    refine lv_iconst (v := 1) hx hb d_Mod_holds_23 (by decide) ?_
    refine lv_icmp_ne (tgt := 41) hx hb d_Mod_holds_24 (by decide) (fun h_6 => ?_) (fun h_6 => ?_)
    · have h_6n := mx_fNe (a := m_5) (b := 1) (by omega) (by omega) h_6
      refine lv_iload_n hx hb d_Mod_holds_41 rfl (lv_at hl 0 rfl) ?_
      refine lv_iconst (v := 3) hx hb d_Mod_holds_42 (by decide) ?_
      refine lv_iand hx hb d_Mod_holds_43 ?_
      refine lv_topi (fun z_7 ez_7 => ?_)
      obtain ⟨m_8, hm_8, rfl⟩ : ∃ j : Nat, j < 4 ∧ z_7 = nI j := by rw [ez_7]; exact pk_andE _ (m := 3) 2 (by decide)
      refine lv_iconst (v := 2) hx hb d_Mod_holds_44 (by decide) ?_
      refine lv_icmp_ne (tgt := 62) hx hb d_Mod_holds_45 (by decide) (fun h_9 => ?_) (fun h_9 => ?_)
      · have h_9n := mx_fNe (a := m_8) (b := 2) (by omega) (by omega) h_9
        refine lv_lload_n hx hb d_Mod_holds_62 rfl (lv_at hl 1 rfl) ?_
        refine lv_lconst (v := 1) hx hb d_Mod_holds_63 (by decide) ?_
        refine lv_land hx hb d_Mod_holds_64 ?_
        refine lv_lconst (v := 1) hx hb d_Mod_holds_65 (by decide) ?_
        refine W.lcmp hx hb d_Mod_holds_66 ?_
        refine lv_if_ne (tgt := 74) hx hb d_Mod_holds_67 (by decide) (fun h_10 => ?_) (fun h_10 => ?_)
        · refine lv_iconst (v := 0) hx hb d_Mod_holds_74 (by decide) ?_
          exact m_holds_b75 a b F hr hlk (by decide) (by decide) 0 _ _ _ (by first | assumption | omega | exact mx_ch_0) (lv_sub hl [0, 1] rfl) hP hD hS
        · refine lv_iconst (v := 1) hx hb d_Mod_holds_70 (by decide) ?_
          refine lv_goto (tgt := 75) hx hb d_Mod_holds_71 (by decide) ?_
          exact m_holds_b75 a b F hr hlk (by decide) (by decide) 1 _ _ _ (by first | assumption | omega | exact mx_ch_0) (lv_sub hl [0, 1] rfl) hP hD hS
      · have h_9n := mx_fEq (a := m_8) (b := 2) (by omega) (by omega) h_9
        refine lv_lload_n hx hb d_Mod_holds_48 rfl (lv_at hl 1 rfl) ?_
        refine lv_lconst (v := 0) hx hb d_Mod_holds_49 (by decide) ?_
        refine W.lcmp hx hb d_Mod_holds_50 ?_
        refine lv_if_le (tgt := 58) hx hb d_Mod_holds_51 (by decide) (fun h_11 => ?_) (fun h_11 => ?_)
        · refine lv_iconst (v := 0) hx hb d_Mod_holds_58 (by decide) ?_
          refine lv_goto (tgt := 75) hx hb d_Mod_holds_59 (by decide) ?_
          exact m_holds_b75 a b F hr hlk (by decide) (by decide) 0 _ _ _ (by first | assumption | omega | exact mx_ch_0) (lv_sub hl [0, 1] rfl) hP hD hS
        · refine lv_iconst (v := 1) hx hb d_Mod_holds_54 (by decide) ?_
          refine lv_goto (tgt := 75) hx hb d_Mod_holds_55 (by decide) ?_
          exact m_holds_b75 a b F hr hlk (by decide) (by decide) 1 _ _ _ (by first | assumption | omega | exact mx_ch_0) (lv_sub hl [0, 1] rfl) hP hD hS
    · have h_6n := mx_fEq (a := m_5) (b := 1) (by omega) (by omega) h_6
      refine lv_lload_n hx hb d_Mod_holds_27 rfl (lv_at hl 1 rfl) ?_
      refine lv_lconst (v := 0) hx hb d_Mod_holds_28 (by decide) ?_
      refine W.lcmp hx hb d_Mod_holds_29 ?_
      refine lv_if_ne (tgt := 37) hx hb d_Mod_holds_30 (by decide) (fun h_12 => ?_) (fun h_12 => ?_)
      · refine lv_iconst (v := 0) hx hb d_Mod_holds_37 (by decide) ?_
        refine lv_goto (tgt := 75) hx hb d_Mod_holds_38 (by decide) ?_
        exact m_holds_b75 a b F hr hlk (by decide) (by decide) 0 _ _ _ (by first | assumption | omega | exact mx_ch_0) (lv_sub hl [0, 1] rfl) hP hD hS
      · refine lv_iconst (v := 1) hx hb d_Mod_holds_33 (by decide) ?_
        refine lv_goto (tgt := 75) hx hb d_Mod_holds_34 (by decide) ?_
        exact m_holds_b75 a b F hr hlk (by decide) (by decide) 1 _ _ _ (by first | assumption | omega | exact mx_ch_0) (lv_sub hl [0, 1] rfl) hP hD hS
  · have h_3n := mx_fEq (a := m_2) (b := 0) (by omega) (by omega) h_3
    refine lv_lload_n hx hb d_Mod_holds_6 rfl (lv_at hl 1 rfl) ?_
    refine lv_lconst (v := 0) hx hb d_Mod_holds_7 (by decide) ?_
    refine W.lcmp hx hb d_Mod_holds_8 ?_
    refine lv_if_ge (tgt := 16) hx hb d_Mod_holds_9 (by decide) (fun h_13 => ?_) (fun h_13 => ?_)
    · refine lv_iconst (v := 0) hx hb d_Mod_holds_16 (by decide) ?_
      refine lv_goto (tgt := 75) hx hb d_Mod_holds_17 (by decide) ?_
      exact m_holds_b75 a b F hr hlk (by decide) (by decide) 0 _ _ _ (by first | assumption | omega | exact mx_ch_0) (lv_sub hl [0, 1] rfl) hP hD hS
    · refine lv_iconst (v := 1) hx hb d_Mod_holds_12 (by decide) ?_
      refine lv_goto (tgt := 75) hx hb d_Mod_holds_13 (by decide) ?_
      exact m_holds_b75 a b F hr hlk (by decide) (by decide) 1 _ _ _ (by first | assumption | omega | exact mx_ch_0) (lv_sub hl [0, 1] rfl) hP hD hS
set_option maxHeartbeats 4000000 in
set_option maxRecDepth 100000 in
theorem m_isSpecial (l : Launch) (K : mx_K) (a : Int64) (sz : Nat) : mx_I l y_Mod_isSpecial b_Mod_isSpecial 2 .boolean { frames := 1, cells := 0, slots := 0, locals := 20 } K [.long a] [] sz (fun (r : Int32) (u : Unit) => (r = 1 ∧ 0 ≤ a.toInt ∧ a.toInt < 28) ∨ (r = 0 ∧ ¬ a.toInt = 19)) (fun u : Unit => []) := by
  refine mx_of (by decide) (Nat.le_of_ble_eq_true rfl) ?_
  intro p e s m below meth c A ls H locs hAe F hr hlk hin hsz hP hD hS hl
  rw [hAe]
  have hl : lv_has ls 2 [(0, .long a)] := hl
  obtain ⟨hx, hb, hml, hown, hT, hK, hN, hE, hA⟩ := id F
  refine lv_lload_n hx hb d_Mod_isSpecial_0 rfl (lv_at hl 0 rfl) ?_
  refine lv_lconst (v := 0) hx hb d_Mod_isSpecial_1 (by decide) ?_
  refine W.lcmp hx hb d_Mod_isSpecial_2 ?_
  refine lv_if_eq (tgt := 60) hx hb d_Mod_isSpecial_3 (by decide) (fun h3 => ?_) (fun h3 => ?_)
  · refine lv_iconst (v := 1) hx hb d_Mod_isSpecial_60 (by decide) ?_
    refine lv_goto (tgt := 65) hx hb d_Mod_isSpecial_61 (by decide) ?_
    exact mx_ri F hr hlk (by decide) hP hD hS () [] rfl (by decide) (by
        simp only [lg_cmp_eq, lg_cmp_lt, lg_cmp_le, lg_cmp_ge, Int64.lt_iff_toInt_lt, Int64.le_iff_toInt_le, ← Int64.toInt_inj, mx_t0, mx_t1, mx_t2, mx_t7, mx_t18, mx_t22, mx_t23, mx_t28] at h3
        exact Or.inl ⟨rfl, by omega, by omega⟩) (by decide) (by decide) d_Mod_isSpecial_65
  · refine lv_lload_n hx hb d_Mod_isSpecial_6 rfl (lv_at hl 0 rfl) ?_
    refine lv_lconst (v := 1) hx hb d_Mod_isSpecial_7 (by decide) ?_
    refine W.lcmp hx hb d_Mod_isSpecial_8 ?_
    refine lv_if_eq (tgt := 60) hx hb d_Mod_isSpecial_9 (by decide) (fun h9 => ?_) (fun h9 => ?_)
    · refine lv_iconst (v := 1) hx hb d_Mod_isSpecial_60 (by decide) ?_
      refine lv_goto (tgt := 65) hx hb d_Mod_isSpecial_61 (by decide) ?_
      exact mx_ri F hr hlk (by decide) hP hD hS () [] rfl (by decide) (by
          simp only [lg_cmp_eq, lg_cmp_lt, lg_cmp_le, lg_cmp_ge, Int64.lt_iff_toInt_lt, Int64.le_iff_toInt_le, ← Int64.toInt_inj, mx_t0, mx_t1, mx_t2, mx_t7, mx_t18, mx_t22, mx_t23, mx_t28] at h3 h9
          exact Or.inl ⟨rfl, by omega, by omega⟩) (by decide) (by decide) d_Mod_isSpecial_65
    · refine lv_lload_n hx hb d_Mod_isSpecial_12 rfl (lv_at hl 0 rfl) ?_
      refine lv_ldc2 (v := 2) hx hb hown (hT _ k_1253) d_Mod_isSpecial_13 ?_
      refine W.lcmp hx hb d_Mod_isSpecial_16 ?_
      refine lv_if_le (tgt := 28) hx hb d_Mod_isSpecial_17 (by decide) (fun h17 => ?_) (fun h17 => ?_)
      · refine lv_lload_n hx hb d_Mod_isSpecial_28 rfl (lv_at hl 0 rfl) ?_
        refine lv_ldc2 (v := 18) hx hb hown (hT _ k_1255) d_Mod_isSpecial_29 ?_
        refine W.lcmp hx hb d_Mod_isSpecial_32 ?_
        refine lv_if_le (tgt := 44) hx hb d_Mod_isSpecial_33 (by decide) (fun h33 => ?_) (fun h33 => ?_)
        · refine lv_lload_n hx hb d_Mod_isSpecial_44 rfl (lv_at hl 0 rfl) ?_
          refine lv_ldc2 (v := 23) hx hb hown (hT _ k_1257) d_Mod_isSpecial_45 ?_
          refine W.lcmp hx hb d_Mod_isSpecial_48 ?_
          refine lv_if_le (tgt := 64) hx hb d_Mod_isSpecial_49 (by decide) (fun h49 => ?_) (fun h49 => ?_)
          · refine lv_iconst (v := 0) hx hb d_Mod_isSpecial_64 (by decide) ?_
            exact mx_ri F hr hlk (by decide) hP hD hS () [] rfl (by decide) (by
                simp only [lg_cmp_eq, lg_cmp_lt, lg_cmp_le, lg_cmp_ge, Int64.lt_iff_toInt_lt, Int64.le_iff_toInt_le, ← Int64.toInt_inj, mx_t0, mx_t1, mx_t2, mx_t7, mx_t18, mx_t22, mx_t23, mx_t28] at h3 h9 h17 h33 h49
                exact Or.inr ⟨rfl, by omega⟩) (by decide) (by decide) d_Mod_isSpecial_65
          · refine lv_lload_n hx hb d_Mod_isSpecial_52 rfl (lv_at hl 0 rfl) ?_
            refine lv_ldc2 (v := 28) hx hb hown (hT _ k_1258) d_Mod_isSpecial_53 ?_
            refine W.lcmp hx hb d_Mod_isSpecial_56 ?_
            refine lv_if_ge (tgt := 64) hx hb d_Mod_isSpecial_57 (by decide) (fun h57 => ?_) (fun h57 => ?_)
            · refine lv_iconst (v := 0) hx hb d_Mod_isSpecial_64 (by decide) ?_
              exact mx_ri F hr hlk (by decide) hP hD hS () [] rfl (by decide) (by
                  simp only [lg_cmp_eq, lg_cmp_lt, lg_cmp_le, lg_cmp_ge, Int64.lt_iff_toInt_lt, Int64.le_iff_toInt_le, ← Int64.toInt_inj, mx_t0, mx_t1, mx_t2, mx_t7, mx_t18, mx_t22, mx_t23, mx_t28] at h3 h9 h17 h33 h49 h57
                  exact Or.inr ⟨rfl, by omega⟩) (by decide) (by decide) d_Mod_isSpecial_65
            · refine lv_iconst (v := 1) hx hb d_Mod_isSpecial_60 (by decide) ?_
              refine lv_goto (tgt := 65) hx hb d_Mod_isSpecial_61 (by decide) ?_
              exact mx_ri F hr hlk (by decide) hP hD hS () [] rfl (by decide) (by
                  simp only [lg_cmp_eq, lg_cmp_lt, lg_cmp_le, lg_cmp_ge, Int64.lt_iff_toInt_lt, Int64.le_iff_toInt_le, ← Int64.toInt_inj, mx_t0, mx_t1, mx_t2, mx_t7, mx_t18, mx_t22, mx_t23, mx_t28] at h3 h9 h17 h33 h49 h57
                  exact Or.inl ⟨rfl, by omega, by omega⟩) (by decide) (by decide) d_Mod_isSpecial_65
        · refine lv_lload_n hx hb d_Mod_isSpecial_36 rfl (lv_at hl 0 rfl) ?_
          refine lv_ldc2 (v := 22) hx hb hown (hT _ k_1256) d_Mod_isSpecial_37 ?_
          refine W.lcmp hx hb d_Mod_isSpecial_40 ?_
          refine lv_if_lt (tgt := 60) hx hb d_Mod_isSpecial_41 (by decide) (fun h41 => ?_) (fun h41 => ?_)
          · refine lv_iconst (v := 1) hx hb d_Mod_isSpecial_60 (by decide) ?_
            refine lv_goto (tgt := 65) hx hb d_Mod_isSpecial_61 (by decide) ?_
            exact mx_ri F hr hlk (by decide) hP hD hS () [] rfl (by decide) (by
                simp only [lg_cmp_eq, lg_cmp_lt, lg_cmp_le, lg_cmp_ge, Int64.lt_iff_toInt_lt, Int64.le_iff_toInt_le, ← Int64.toInt_inj, mx_t0, mx_t1, mx_t2, mx_t7, mx_t18, mx_t22, mx_t23, mx_t28] at h3 h9 h17 h33 h41
                exact Or.inl ⟨rfl, by omega, by omega⟩) (by decide) (by decide) d_Mod_isSpecial_65
          · refine lv_lload_n hx hb d_Mod_isSpecial_44 rfl (lv_at hl 0 rfl) ?_
            refine lv_ldc2 (v := 23) hx hb hown (hT _ k_1257) d_Mod_isSpecial_45 ?_
            refine W.lcmp hx hb d_Mod_isSpecial_48 ?_
            refine lv_if_le (tgt := 64) hx hb d_Mod_isSpecial_49 (by decide) (fun h49 => ?_) (fun h49 => ?_)
            · refine lv_iconst (v := 0) hx hb d_Mod_isSpecial_64 (by decide) ?_
              exact mx_ri F hr hlk (by decide) hP hD hS () [] rfl (by decide) (by
                  simp only [lg_cmp_eq, lg_cmp_lt, lg_cmp_le, lg_cmp_ge, Int64.lt_iff_toInt_lt, Int64.le_iff_toInt_le, ← Int64.toInt_inj, mx_t0, mx_t1, mx_t2, mx_t7, mx_t18, mx_t22, mx_t23, mx_t28] at h3 h9 h17 h33 h41 h49
                  exact Or.inr ⟨rfl, by omega⟩) (by decide) (by decide) d_Mod_isSpecial_65
            · refine lv_lload_n hx hb d_Mod_isSpecial_52 rfl (lv_at hl 0 rfl) ?_
              refine lv_ldc2 (v := 28) hx hb hown (hT _ k_1258) d_Mod_isSpecial_53 ?_
              refine W.lcmp hx hb d_Mod_isSpecial_56 ?_
              refine lv_if_ge (tgt := 64) hx hb d_Mod_isSpecial_57 (by decide) (fun h57 => ?_) (fun h57 => ?_)
              · refine lv_iconst (v := 0) hx hb d_Mod_isSpecial_64 (by decide) ?_
                exact mx_ri F hr hlk (by decide) hP hD hS () [] rfl (by decide) (by
                    simp only [lg_cmp_eq, lg_cmp_lt, lg_cmp_le, lg_cmp_ge, Int64.lt_iff_toInt_lt, Int64.le_iff_toInt_le, ← Int64.toInt_inj, mx_t0, mx_t1, mx_t2, mx_t7, mx_t18, mx_t22, mx_t23, mx_t28] at h3 h9 h17 h33 h41 h49 h57
                    exact Or.inr ⟨rfl, by omega⟩) (by decide) (by decide) d_Mod_isSpecial_65
              · refine lv_iconst (v := 1) hx hb d_Mod_isSpecial_60 (by decide) ?_
                refine lv_goto (tgt := 65) hx hb d_Mod_isSpecial_61 (by decide) ?_
                exact mx_ri F hr hlk (by decide) hP hD hS () [] rfl (by decide) (by
                    simp only [lg_cmp_eq, lg_cmp_lt, lg_cmp_le, lg_cmp_ge, Int64.lt_iff_toInt_lt, Int64.le_iff_toInt_le, ← Int64.toInt_inj, mx_t0, mx_t1, mx_t2, mx_t7, mx_t18, mx_t22, mx_t23, mx_t28] at h3 h9 h17 h33 h41 h49 h57
                    exact Or.inl ⟨rfl, by omega, by omega⟩) (by decide) (by decide) d_Mod_isSpecial_65
      · refine lv_lload_n hx hb d_Mod_isSpecial_20 rfl (lv_at hl 0 rfl) ?_
        refine lv_ldc2 (v := 7) hx hb hown (hT _ k_1254) d_Mod_isSpecial_21 ?_
        refine W.lcmp hx hb d_Mod_isSpecial_24 ?_
        refine lv_if_lt (tgt := 60) hx hb d_Mod_isSpecial_25 (by decide) (fun h25 => ?_) (fun h25 => ?_)
        · refine lv_iconst (v := 1) hx hb d_Mod_isSpecial_60 (by decide) ?_
          refine lv_goto (tgt := 65) hx hb d_Mod_isSpecial_61 (by decide) ?_
          exact mx_ri F hr hlk (by decide) hP hD hS () [] rfl (by decide) (by
              simp only [lg_cmp_eq, lg_cmp_lt, lg_cmp_le, lg_cmp_ge, Int64.lt_iff_toInt_lt, Int64.le_iff_toInt_le, ← Int64.toInt_inj, mx_t0, mx_t1, mx_t2, mx_t7, mx_t18, mx_t22, mx_t23, mx_t28] at h3 h9 h17 h25
              exact Or.inl ⟨rfl, by omega, by omega⟩) (by decide) (by decide) d_Mod_isSpecial_65
        · refine lv_lload_n hx hb d_Mod_isSpecial_28 rfl (lv_at hl 0 rfl) ?_
          refine lv_ldc2 (v := 18) hx hb hown (hT _ k_1255) d_Mod_isSpecial_29 ?_
          refine W.lcmp hx hb d_Mod_isSpecial_32 ?_
          refine lv_if_le (tgt := 44) hx hb d_Mod_isSpecial_33 (by decide) (fun h33 => ?_) (fun h33 => ?_)
          · refine lv_lload_n hx hb d_Mod_isSpecial_44 rfl (lv_at hl 0 rfl) ?_
            refine lv_ldc2 (v := 23) hx hb hown (hT _ k_1257) d_Mod_isSpecial_45 ?_
            refine W.lcmp hx hb d_Mod_isSpecial_48 ?_
            refine lv_if_le (tgt := 64) hx hb d_Mod_isSpecial_49 (by decide) (fun h49 => ?_) (fun h49 => ?_)
            · refine lv_iconst (v := 0) hx hb d_Mod_isSpecial_64 (by decide) ?_
              exact mx_ri F hr hlk (by decide) hP hD hS () [] rfl (by decide) (by
                  simp only [lg_cmp_eq, lg_cmp_lt, lg_cmp_le, lg_cmp_ge, Int64.lt_iff_toInt_lt, Int64.le_iff_toInt_le, ← Int64.toInt_inj, mx_t0, mx_t1, mx_t2, mx_t7, mx_t18, mx_t22, mx_t23, mx_t28] at h3 h9 h17 h25 h33 h49
                  exact Or.inr ⟨rfl, by omega⟩) (by decide) (by decide) d_Mod_isSpecial_65
            · refine lv_lload_n hx hb d_Mod_isSpecial_52 rfl (lv_at hl 0 rfl) ?_
              refine lv_ldc2 (v := 28) hx hb hown (hT _ k_1258) d_Mod_isSpecial_53 ?_
              refine W.lcmp hx hb d_Mod_isSpecial_56 ?_
              refine lv_if_ge (tgt := 64) hx hb d_Mod_isSpecial_57 (by decide) (fun h57 => ?_) (fun h57 => ?_)
              · refine lv_iconst (v := 0) hx hb d_Mod_isSpecial_64 (by decide) ?_
                exact mx_ri F hr hlk (by decide) hP hD hS () [] rfl (by decide) (by
                    simp only [lg_cmp_eq, lg_cmp_lt, lg_cmp_le, lg_cmp_ge, Int64.lt_iff_toInt_lt, Int64.le_iff_toInt_le, ← Int64.toInt_inj, mx_t0, mx_t1, mx_t2, mx_t7, mx_t18, mx_t22, mx_t23, mx_t28] at h3 h9 h17 h25 h33 h49 h57
                    exact Or.inr ⟨rfl, by omega⟩) (by decide) (by decide) d_Mod_isSpecial_65
              · refine lv_iconst (v := 1) hx hb d_Mod_isSpecial_60 (by decide) ?_
                refine lv_goto (tgt := 65) hx hb d_Mod_isSpecial_61 (by decide) ?_
                exact mx_ri F hr hlk (by decide) hP hD hS () [] rfl (by decide) (by
                    simp only [lg_cmp_eq, lg_cmp_lt, lg_cmp_le, lg_cmp_ge, Int64.lt_iff_toInt_lt, Int64.le_iff_toInt_le, ← Int64.toInt_inj, mx_t0, mx_t1, mx_t2, mx_t7, mx_t18, mx_t22, mx_t23, mx_t28] at h3 h9 h17 h25 h33 h49 h57
                    exact Or.inl ⟨rfl, by omega, by omega⟩) (by decide) (by decide) d_Mod_isSpecial_65
          · refine lv_lload_n hx hb d_Mod_isSpecial_36 rfl (lv_at hl 0 rfl) ?_
            refine lv_ldc2 (v := 22) hx hb hown (hT _ k_1256) d_Mod_isSpecial_37 ?_
            refine W.lcmp hx hb d_Mod_isSpecial_40 ?_
            refine lv_if_lt (tgt := 60) hx hb d_Mod_isSpecial_41 (by decide) (fun h41 => ?_) (fun h41 => ?_)
            · refine lv_iconst (v := 1) hx hb d_Mod_isSpecial_60 (by decide) ?_
              refine lv_goto (tgt := 65) hx hb d_Mod_isSpecial_61 (by decide) ?_
              exact mx_ri F hr hlk (by decide) hP hD hS () [] rfl (by decide) (by
                  simp only [lg_cmp_eq, lg_cmp_lt, lg_cmp_le, lg_cmp_ge, Int64.lt_iff_toInt_lt, Int64.le_iff_toInt_le, ← Int64.toInt_inj, mx_t0, mx_t1, mx_t2, mx_t7, mx_t18, mx_t22, mx_t23, mx_t28] at h3 h9 h17 h25 h33 h41
                  exact Or.inl ⟨rfl, by omega, by omega⟩) (by decide) (by decide) d_Mod_isSpecial_65
            · refine lv_lload_n hx hb d_Mod_isSpecial_44 rfl (lv_at hl 0 rfl) ?_
              refine lv_ldc2 (v := 23) hx hb hown (hT _ k_1257) d_Mod_isSpecial_45 ?_
              refine W.lcmp hx hb d_Mod_isSpecial_48 ?_
              refine lv_if_le (tgt := 64) hx hb d_Mod_isSpecial_49 (by decide) (fun h49 => ?_) (fun h49 => ?_)
              · refine lv_iconst (v := 0) hx hb d_Mod_isSpecial_64 (by decide) ?_
                exact mx_ri F hr hlk (by decide) hP hD hS () [] rfl (by decide) (by
                    simp only [lg_cmp_eq, lg_cmp_lt, lg_cmp_le, lg_cmp_ge, Int64.lt_iff_toInt_lt, Int64.le_iff_toInt_le, ← Int64.toInt_inj, mx_t0, mx_t1, mx_t2, mx_t7, mx_t18, mx_t22, mx_t23, mx_t28] at h3 h9 h17 h25 h33 h41 h49
                    exact Or.inr ⟨rfl, by omega⟩) (by decide) (by decide) d_Mod_isSpecial_65
              · refine lv_lload_n hx hb d_Mod_isSpecial_52 rfl (lv_at hl 0 rfl) ?_
                refine lv_ldc2 (v := 28) hx hb hown (hT _ k_1258) d_Mod_isSpecial_53 ?_
                refine W.lcmp hx hb d_Mod_isSpecial_56 ?_
                refine lv_if_ge (tgt := 64) hx hb d_Mod_isSpecial_57 (by decide) (fun h57 => ?_) (fun h57 => ?_)
                · refine lv_iconst (v := 0) hx hb d_Mod_isSpecial_64 (by decide) ?_
                  exact mx_ri F hr hlk (by decide) hP hD hS () [] rfl (by decide) (by
                      simp only [lg_cmp_eq, lg_cmp_lt, lg_cmp_le, lg_cmp_ge, Int64.lt_iff_toInt_lt, Int64.le_iff_toInt_le, ← Int64.toInt_inj, mx_t0, mx_t1, mx_t2, mx_t7, mx_t18, mx_t22, mx_t23, mx_t28] at h3 h9 h17 h25 h33 h41 h49 h57
                      exact Or.inr ⟨rfl, by omega⟩) (by decide) (by decide) d_Mod_isSpecial_65
                · refine lv_iconst (v := 1) hx hb d_Mod_isSpecial_60 (by decide) ?_
                  refine lv_goto (tgt := 65) hx hb d_Mod_isSpecial_61 (by decide) ?_
                  exact mx_ri F hr hlk (by decide) hP hD hS () [] rfl (by decide) (by
                      simp only [lg_cmp_eq, lg_cmp_lt, lg_cmp_le, lg_cmp_ge, Int64.lt_iff_toInt_lt, Int64.le_iff_toInt_le, ← Int64.toInt_inj, mx_t0, mx_t1, mx_t2, mx_t7, mx_t18, mx_t22, mx_t23, mx_t28] at h3 h9 h17 h25 h33 h41 h49 h57
                      exact Or.inl ⟨rfl, by omega, by omega⟩) (by decide) (by decide) d_Mod_isSpecial_65
set_option maxHeartbeats 4000000 in
set_option maxRecDepth 100000 in
theorem m_isOp (l : Launch) (K : mx_K) (zm : Nat) (o : Nat) (sz : Nat) (ho : o ≤ 255) : mx_I l y_Mod_isOp b_Mod_isOp 2 .boolean { frames := 1, cells := 0, slots := 0, locals := 20 } K [.ref zm, .int (nI o)] [] sz (fun (r : Int32) (u : Unit) => r = 0 ∨ (r = 1 ∧ (o < 142 ∨ (160 ≤ o ∧ o < 174) ∨ o = 180 ∨ o = 181 ∨ 192 ≤ o))) (fun u : Unit => []) := by
  refine mx_of (by decide) (Nat.le_of_ble_eq_true rfl) ?_
  intro p e s m below meth c A ls H locs hAe F hr hlk hin hsz hP hD hS hl
  rw [hAe]
  have hl : lv_has ls 2 [(0, .ref zm), (1, .int (nI o))] := hl
  obtain ⟨hx, hb, hml, hown, hT, hK, hN, hE, hA⟩ := id F
  refine lv_iload_n hx hb d_Mod_isOp_0 rfl (lv_at hl 1 rfl) ?_
  refine lv_if_eq (tgt := 66) hx hb d_Mod_isOp_1 (by decide) (fun h_1 => ?_) (fun h_1 => ?_)
  · have h_1n := mx_fEq (a := o) (b := 0) (by omega) (by omega) h_1
    refine lv_iconst (v := 1) hx hb d_Mod_isOp_66 (by decide) ?_
    refine lv_goto (tgt := 71) hx hb d_Mod_isOp_67 (by decide) ?_
    exact mx_ri F hr hlk (by decide) hP hD hS () [] rfl (by decide) (Or.inr ⟨rfl, by omega⟩) (by decide) (by decide) d_Mod_isOp_71
  · have h_1n := mx_fNe (a := o) (b := 0) (by omega) (by omega) h_1
    refine lv_iload_n hx hb d_Mod_isOp_4 rfl (lv_at hl 1 rfl) ?_
    refine lv_bipush (v := 24) hx hb d_Mod_isOp_5 (by decide) ?_
    refine lv_icmp_lt (tgt := 17) hx hb d_Mod_isOp_7 (by decide) (fun h_2 => ?_) (fun h_2 => ?_)
    · have h_2n := mx_fLt (a := o) (b := 24) (by omega) (by omega) h_2
      refine lv_iload_n hx hb d_Mod_isOp_17 rfl (lv_at hl 1 rfl) ?_
      refine lv_sipush (v := 160) hx hb d_Mod_isOp_18 (by decide) ?_
      refine lv_icmp_lt (tgt := 31) hx hb d_Mod_isOp_21 (by decide) (fun h_3 => ?_) (fun h_3 => ?_)
      · have h_3n := mx_fLt (a := o) (b := 160) (by omega) (by omega) h_3
        refine lv_iload_n hx hb d_Mod_isOp_31 rfl (lv_at hl 1 rfl) ?_
        refine lv_sipush (v := 180) hx hb d_Mod_isOp_32 (by decide) ?_
        refine lv_icmp_eq (tgt := 66) hx hb d_Mod_isOp_35 (by decide) (fun h_4 => ?_) (fun h_4 => ?_)
        · have h_4n := mx_fEq (a := o) (b := 180) (by omega) (by omega) h_4
          refine lv_iconst (v := 1) hx hb d_Mod_isOp_66 (by decide) ?_
          refine lv_goto (tgt := 71) hx hb d_Mod_isOp_67 (by decide) ?_
          exact mx_ri F hr hlk (by decide) hP hD hS () [] rfl (by decide) (Or.inr ⟨rfl, by omega⟩) (by decide) (by decide) d_Mod_isOp_71
        · have h_4n := mx_fNe (a := o) (b := 180) (by omega) (by omega) h_4
          refine lv_iload_n hx hb d_Mod_isOp_38 rfl (lv_at hl 1 rfl) ?_
          refine lv_sipush (v := 181) hx hb d_Mod_isOp_39 (by decide) ?_
          refine lv_icmp_eq (tgt := 66) hx hb d_Mod_isOp_42 (by decide) (fun h_5 => ?_) (fun h_5 => ?_)
          · have h_5n := mx_fEq (a := o) (b := 181) (by omega) (by omega) h_5
            refine lv_iconst (v := 1) hx hb d_Mod_isOp_66 (by decide) ?_
            refine lv_goto (tgt := 71) hx hb d_Mod_isOp_67 (by decide) ?_
            exact mx_ri F hr hlk (by decide) hP hD hS () [] rfl (by decide) (Or.inr ⟨rfl, by omega⟩) (by decide) (by decide) d_Mod_isOp_71
          · have h_5n := mx_fNe (a := o) (b := 181) (by omega) (by omega) h_5
            refine lv_iload_n hx hb d_Mod_isOp_45 rfl (lv_at hl 1 rfl) ?_
            refine lv_sipush (v := 192) hx hb d_Mod_isOp_46 (by decide) ?_
            refine lv_icmp_lt (tgt := 59) hx hb d_Mod_isOp_49 (by decide) (fun h_6 => ?_) (fun h_6 => ?_)
            · have h_6n := mx_fLt (a := o) (b := 192) (by omega) (by omega) h_6
              refine lv_iload_n hx hb d_Mod_isOp_59 rfl (lv_at hl 1 rfl) ?_
              refine lv_sipush (v := 252) hx hb d_Mod_isOp_60 (by decide) ?_
              refine lv_icmp_le (tgt := 70) hx hb d_Mod_isOp_63 (by decide) (fun h_7 => ?_) (fun h_7 => ?_)
              · have h_7n := mx_fLe (a := o) (b := 252) (by omega) (by omega) h_7
                refine lv_iconst (v := 0) hx hb d_Mod_isOp_70 (by decide) ?_
                exact mx_ri F hr hlk (by decide) hP hD hS () [] rfl (by decide) (Or.inl rfl) (by decide) (by decide) d_Mod_isOp_71
              · have h_7n := mx_fNle (a := o) (b := 252) (by omega) (by omega) h_7
                refine lv_iconst (v := 1) hx hb d_Mod_isOp_66 (by decide) ?_
                refine lv_goto (tgt := 71) hx hb d_Mod_isOp_67 (by decide) ?_
                exact mx_ri F hr hlk (by decide) hP hD hS () [] rfl (by decide) (Or.inr ⟨rfl, by omega⟩) (by decide) (by decide) d_Mod_isOp_71
            · have h_6n := mx_fNlt (a := o) (b := 192) (by omega) (by omega) h_6
              refine lv_iload_n hx hb d_Mod_isOp_52 rfl (lv_at hl 1 rfl) ?_
              refine lv_sipush (v := 250) hx hb d_Mod_isOp_53 (by decide) ?_
              refine lv_icmp_lt (tgt := 66) hx hb d_Mod_isOp_56 (by decide) (fun h_8 => ?_) (fun h_8 => ?_)
              · have h_8n := mx_fLt (a := o) (b := 250) (by omega) (by omega) h_8
                refine lv_iconst (v := 1) hx hb d_Mod_isOp_66 (by decide) ?_
                refine lv_goto (tgt := 71) hx hb d_Mod_isOp_67 (by decide) ?_
                exact mx_ri F hr hlk (by decide) hP hD hS () [] rfl (by decide) (Or.inr ⟨rfl, by omega⟩) (by decide) (by decide) d_Mod_isOp_71
              · have h_8n := mx_fNlt (a := o) (b := 250) (by omega) (by omega) h_8
                refine lv_iload_n hx hb d_Mod_isOp_59 rfl (lv_at hl 1 rfl) ?_
                refine lv_sipush (v := 252) hx hb d_Mod_isOp_60 (by decide) ?_
                refine lv_icmp_le (tgt := 70) hx hb d_Mod_isOp_63 (by decide) (fun h_9 => ?_) (fun h_9 => ?_)
                · have h_9n := mx_fLe (a := o) (b := 252) (by omega) (by omega) h_9
                  refine lv_iconst (v := 0) hx hb d_Mod_isOp_70 (by decide) ?_
                  exact mx_ri F hr hlk (by decide) hP hD hS () [] rfl (by decide) (Or.inl rfl) (by decide) (by decide) d_Mod_isOp_71
                · have h_9n := mx_fNle (a := o) (b := 252) (by omega) (by omega) h_9
                  refine lv_iconst (v := 1) hx hb d_Mod_isOp_66 (by decide) ?_
                  refine lv_goto (tgt := 71) hx hb d_Mod_isOp_67 (by decide) ?_
                  exact mx_ri F hr hlk (by decide) hP hD hS () [] rfl (by decide) (Or.inr ⟨rfl, by omega⟩) (by decide) (by decide) d_Mod_isOp_71
      · have h_3n := mx_fNlt (a := o) (b := 160) (by omega) (by omega) h_3
        refine lv_iload_n hx hb d_Mod_isOp_24 rfl (lv_at hl 1 rfl) ?_
        refine lv_sipush (v := 174) hx hb d_Mod_isOp_25 (by decide) ?_
        refine lv_icmp_lt (tgt := 66) hx hb d_Mod_isOp_28 (by decide) (fun h_10 => ?_) (fun h_10 => ?_)
        · have h_10n := mx_fLt (a := o) (b := 174) (by omega) (by omega) h_10
          refine lv_iconst (v := 1) hx hb d_Mod_isOp_66 (by decide) ?_
          refine lv_goto (tgt := 71) hx hb d_Mod_isOp_67 (by decide) ?_
          exact mx_ri F hr hlk (by decide) hP hD hS () [] rfl (by decide) (Or.inr ⟨rfl, by omega⟩) (by decide) (by decide) d_Mod_isOp_71
        · have h_10n := mx_fNlt (a := o) (b := 174) (by omega) (by omega) h_10
          refine lv_iload_n hx hb d_Mod_isOp_31 rfl (lv_at hl 1 rfl) ?_
          refine lv_sipush (v := 180) hx hb d_Mod_isOp_32 (by decide) ?_
          refine lv_icmp_eq (tgt := 66) hx hb d_Mod_isOp_35 (by decide) (fun h_11 => ?_) (fun h_11 => ?_)
          · have h_11n := mx_fEq (a := o) (b := 180) (by omega) (by omega) h_11
            refine lv_iconst (v := 1) hx hb d_Mod_isOp_66 (by decide) ?_
            refine lv_goto (tgt := 71) hx hb d_Mod_isOp_67 (by decide) ?_
            exact mx_ri F hr hlk (by decide) hP hD hS () [] rfl (by decide) (Or.inr ⟨rfl, by omega⟩) (by decide) (by decide) d_Mod_isOp_71
          · have h_11n := mx_fNe (a := o) (b := 180) (by omega) (by omega) h_11
            refine lv_iload_n hx hb d_Mod_isOp_38 rfl (lv_at hl 1 rfl) ?_
            refine lv_sipush (v := 181) hx hb d_Mod_isOp_39 (by decide) ?_
            refine lv_icmp_eq (tgt := 66) hx hb d_Mod_isOp_42 (by decide) (fun h_12 => ?_) (fun h_12 => ?_)
            · have h_12n := mx_fEq (a := o) (b := 181) (by omega) (by omega) h_12
              refine lv_iconst (v := 1) hx hb d_Mod_isOp_66 (by decide) ?_
              refine lv_goto (tgt := 71) hx hb d_Mod_isOp_67 (by decide) ?_
              exact mx_ri F hr hlk (by decide) hP hD hS () [] rfl (by decide) (Or.inr ⟨rfl, by omega⟩) (by decide) (by decide) d_Mod_isOp_71
            · have h_12n := mx_fNe (a := o) (b := 181) (by omega) (by omega) h_12
              refine lv_iload_n hx hb d_Mod_isOp_45 rfl (lv_at hl 1 rfl) ?_
              refine lv_sipush (v := 192) hx hb d_Mod_isOp_46 (by decide) ?_
              refine lv_icmp_lt (tgt := 59) hx hb d_Mod_isOp_49 (by decide) (fun h_13 => ?_) (fun h_13 => ?_)
              · have h_13n := mx_fLt (a := o) (b := 192) (by omega) (by omega) h_13
                refine lv_iload_n hx hb d_Mod_isOp_59 rfl (lv_at hl 1 rfl) ?_
                refine lv_sipush (v := 252) hx hb d_Mod_isOp_60 (by decide) ?_
                refine lv_icmp_le (tgt := 70) hx hb d_Mod_isOp_63 (by decide) (fun h_14 => ?_) (fun h_14 => ?_)
                · have h_14n := mx_fLe (a := o) (b := 252) (by omega) (by omega) h_14
                  refine lv_iconst (v := 0) hx hb d_Mod_isOp_70 (by decide) ?_
                  exact mx_ri F hr hlk (by decide) hP hD hS () [] rfl (by decide) (Or.inl rfl) (by decide) (by decide) d_Mod_isOp_71
                · have h_14n := mx_fNle (a := o) (b := 252) (by omega) (by omega) h_14
                  refine lv_iconst (v := 1) hx hb d_Mod_isOp_66 (by decide) ?_
                  refine lv_goto (tgt := 71) hx hb d_Mod_isOp_67 (by decide) ?_
                  exact mx_ri F hr hlk (by decide) hP hD hS () [] rfl (by decide) (Or.inr ⟨rfl, by omega⟩) (by decide) (by decide) d_Mod_isOp_71
              · have h_13n := mx_fNlt (a := o) (b := 192) (by omega) (by omega) h_13
                refine lv_iload_n hx hb d_Mod_isOp_52 rfl (lv_at hl 1 rfl) ?_
                refine lv_sipush (v := 250) hx hb d_Mod_isOp_53 (by decide) ?_
                refine lv_icmp_lt (tgt := 66) hx hb d_Mod_isOp_56 (by decide) (fun h_15 => ?_) (fun h_15 => ?_)
                · have h_15n := mx_fLt (a := o) (b := 250) (by omega) (by omega) h_15
                  refine lv_iconst (v := 1) hx hb d_Mod_isOp_66 (by decide) ?_
                  refine lv_goto (tgt := 71) hx hb d_Mod_isOp_67 (by decide) ?_
                  exact mx_ri F hr hlk (by decide) hP hD hS () [] rfl (by decide) (Or.inr ⟨rfl, by omega⟩) (by decide) (by decide) d_Mod_isOp_71
                · have h_15n := mx_fNlt (a := o) (b := 250) (by omega) (by omega) h_15
                  refine lv_iload_n hx hb d_Mod_isOp_59 rfl (lv_at hl 1 rfl) ?_
                  refine lv_sipush (v := 252) hx hb d_Mod_isOp_60 (by decide) ?_
                  refine lv_icmp_le (tgt := 70) hx hb d_Mod_isOp_63 (by decide) (fun h_16 => ?_) (fun h_16 => ?_)
                  · have h_16n := mx_fLe (a := o) (b := 252) (by omega) (by omega) h_16
                    refine lv_iconst (v := 0) hx hb d_Mod_isOp_70 (by decide) ?_
                    exact mx_ri F hr hlk (by decide) hP hD hS () [] rfl (by decide) (Or.inl rfl) (by decide) (by decide) d_Mod_isOp_71
                  · have h_16n := mx_fNle (a := o) (b := 252) (by omega) (by omega) h_16
                    refine lv_iconst (v := 1) hx hb d_Mod_isOp_66 (by decide) ?_
                    refine lv_goto (tgt := 71) hx hb d_Mod_isOp_67 (by decide) ?_
                    exact mx_ri F hr hlk (by decide) hP hD hS () [] rfl (by decide) (Or.inr ⟨rfl, by omega⟩) (by decide) (by decide) d_Mod_isOp_71
    · have h_2n := mx_fNlt (a := o) (b := 24) (by omega) (by omega) h_2
      refine lv_iload_n hx hb d_Mod_isOp_10 rfl (lv_at hl 1 rfl) ?_
      refine lv_sipush (v := 142) hx hb d_Mod_isOp_11 (by decide) ?_
      refine lv_icmp_lt (tgt := 66) hx hb d_Mod_isOp_14 (by decide) (fun h_17 => ?_) (fun h_17 => ?_)
      · have h_17n := mx_fLt (a := o) (b := 142) (by omega) (by omega) h_17
        refine lv_iconst (v := 1) hx hb d_Mod_isOp_66 (by decide) ?_
        refine lv_goto (tgt := 71) hx hb d_Mod_isOp_67 (by decide) ?_
        exact mx_ri F hr hlk (by decide) hP hD hS () [] rfl (by decide) (Or.inr ⟨rfl, by omega⟩) (by decide) (by decide) d_Mod_isOp_71
      · have h_17n := mx_fNlt (a := o) (b := 142) (by omega) (by omega) h_17
        refine lv_iload_n hx hb d_Mod_isOp_17 rfl (lv_at hl 1 rfl) ?_
        refine lv_sipush (v := 160) hx hb d_Mod_isOp_18 (by decide) ?_
        refine lv_icmp_lt (tgt := 31) hx hb d_Mod_isOp_21 (by decide) (fun h_18 => ?_) (fun h_18 => ?_)
        · have h_18n := mx_fLt (a := o) (b := 160) (by omega) (by omega) h_18
          refine lv_iload_n hx hb d_Mod_isOp_31 rfl (lv_at hl 1 rfl) ?_
          refine lv_sipush (v := 180) hx hb d_Mod_isOp_32 (by decide) ?_
          refine lv_icmp_eq (tgt := 66) hx hb d_Mod_isOp_35 (by decide) (fun h_19 => ?_) (fun h_19 => ?_)
          · have h_19n := mx_fEq (a := o) (b := 180) (by omega) (by omega) h_19
            refine lv_iconst (v := 1) hx hb d_Mod_isOp_66 (by decide) ?_
            refine lv_goto (tgt := 71) hx hb d_Mod_isOp_67 (by decide) ?_
            exact mx_ri F hr hlk (by decide) hP hD hS () [] rfl (by decide) (Or.inr ⟨rfl, by omega⟩) (by decide) (by decide) d_Mod_isOp_71
          · have h_19n := mx_fNe (a := o) (b := 180) (by omega) (by omega) h_19
            refine lv_iload_n hx hb d_Mod_isOp_38 rfl (lv_at hl 1 rfl) ?_
            refine lv_sipush (v := 181) hx hb d_Mod_isOp_39 (by decide) ?_
            refine lv_icmp_eq (tgt := 66) hx hb d_Mod_isOp_42 (by decide) (fun h_20 => ?_) (fun h_20 => ?_)
            · have h_20n := mx_fEq (a := o) (b := 181) (by omega) (by omega) h_20
              refine lv_iconst (v := 1) hx hb d_Mod_isOp_66 (by decide) ?_
              refine lv_goto (tgt := 71) hx hb d_Mod_isOp_67 (by decide) ?_
              exact mx_ri F hr hlk (by decide) hP hD hS () [] rfl (by decide) (Or.inr ⟨rfl, by omega⟩) (by decide) (by decide) d_Mod_isOp_71
            · have h_20n := mx_fNe (a := o) (b := 181) (by omega) (by omega) h_20
              refine lv_iload_n hx hb d_Mod_isOp_45 rfl (lv_at hl 1 rfl) ?_
              refine lv_sipush (v := 192) hx hb d_Mod_isOp_46 (by decide) ?_
              refine lv_icmp_lt (tgt := 59) hx hb d_Mod_isOp_49 (by decide) (fun h_21 => ?_) (fun h_21 => ?_)
              · have h_21n := mx_fLt (a := o) (b := 192) (by omega) (by omega) h_21
                refine lv_iload_n hx hb d_Mod_isOp_59 rfl (lv_at hl 1 rfl) ?_
                refine lv_sipush (v := 252) hx hb d_Mod_isOp_60 (by decide) ?_
                refine lv_icmp_le (tgt := 70) hx hb d_Mod_isOp_63 (by decide) (fun h_22 => ?_) (fun h_22 => ?_)
                · have h_22n := mx_fLe (a := o) (b := 252) (by omega) (by omega) h_22
                  refine lv_iconst (v := 0) hx hb d_Mod_isOp_70 (by decide) ?_
                  exact mx_ri F hr hlk (by decide) hP hD hS () [] rfl (by decide) (Or.inl rfl) (by decide) (by decide) d_Mod_isOp_71
                · have h_22n := mx_fNle (a := o) (b := 252) (by omega) (by omega) h_22
                  refine lv_iconst (v := 1) hx hb d_Mod_isOp_66 (by decide) ?_
                  refine lv_goto (tgt := 71) hx hb d_Mod_isOp_67 (by decide) ?_
                  exact mx_ri F hr hlk (by decide) hP hD hS () [] rfl (by decide) (Or.inr ⟨rfl, by omega⟩) (by decide) (by decide) d_Mod_isOp_71
              · have h_21n := mx_fNlt (a := o) (b := 192) (by omega) (by omega) h_21
                refine lv_iload_n hx hb d_Mod_isOp_52 rfl (lv_at hl 1 rfl) ?_
                refine lv_sipush (v := 250) hx hb d_Mod_isOp_53 (by decide) ?_
                refine lv_icmp_lt (tgt := 66) hx hb d_Mod_isOp_56 (by decide) (fun h_23 => ?_) (fun h_23 => ?_)
                · have h_23n := mx_fLt (a := o) (b := 250) (by omega) (by omega) h_23
                  refine lv_iconst (v := 1) hx hb d_Mod_isOp_66 (by decide) ?_
                  refine lv_goto (tgt := 71) hx hb d_Mod_isOp_67 (by decide) ?_
                  exact mx_ri F hr hlk (by decide) hP hD hS () [] rfl (by decide) (Or.inr ⟨rfl, by omega⟩) (by decide) (by decide) d_Mod_isOp_71
                · have h_23n := mx_fNlt (a := o) (b := 250) (by omega) (by omega) h_23
                  refine lv_iload_n hx hb d_Mod_isOp_59 rfl (lv_at hl 1 rfl) ?_
                  refine lv_sipush (v := 252) hx hb d_Mod_isOp_60 (by decide) ?_
                  refine lv_icmp_le (tgt := 70) hx hb d_Mod_isOp_63 (by decide) (fun h_24 => ?_) (fun h_24 => ?_)
                  · have h_24n := mx_fLe (a := o) (b := 252) (by omega) (by omega) h_24
                    refine lv_iconst (v := 0) hx hb d_Mod_isOp_70 (by decide) ?_
                    exact mx_ri F hr hlk (by decide) hP hD hS () [] rfl (by decide) (Or.inl rfl) (by decide) (by decide) d_Mod_isOp_71
                  · have h_24n := mx_fNle (a := o) (b := 252) (by omega) (by omega) h_24
                    refine lv_iconst (v := 1) hx hb d_Mod_isOp_66 (by decide) ?_
                    refine lv_goto (tgt := 71) hx hb d_Mod_isOp_67 (by decide) ?_
                    exact mx_ri F hr hlk (by decide) hP hD hS () [] rfl (by decide) (Or.inr ⟨rfl, by omega⟩) (by decide) (by decide) d_Mod_isOp_71
        · have h_18n := mx_fNlt (a := o) (b := 160) (by omega) (by omega) h_18
          refine lv_iload_n hx hb d_Mod_isOp_24 rfl (lv_at hl 1 rfl) ?_
          refine lv_sipush (v := 174) hx hb d_Mod_isOp_25 (by decide) ?_
          refine lv_icmp_lt (tgt := 66) hx hb d_Mod_isOp_28 (by decide) (fun h_25 => ?_) (fun h_25 => ?_)
          · have h_25n := mx_fLt (a := o) (b := 174) (by omega) (by omega) h_25
            refine lv_iconst (v := 1) hx hb d_Mod_isOp_66 (by decide) ?_
            refine lv_goto (tgt := 71) hx hb d_Mod_isOp_67 (by decide) ?_
            exact mx_ri F hr hlk (by decide) hP hD hS () [] rfl (by decide) (Or.inr ⟨rfl, by omega⟩) (by decide) (by decide) d_Mod_isOp_71
          · have h_25n := mx_fNlt (a := o) (b := 174) (by omega) (by omega) h_25
            refine lv_iload_n hx hb d_Mod_isOp_31 rfl (lv_at hl 1 rfl) ?_
            refine lv_sipush (v := 180) hx hb d_Mod_isOp_32 (by decide) ?_
            refine lv_icmp_eq (tgt := 66) hx hb d_Mod_isOp_35 (by decide) (fun h_26 => ?_) (fun h_26 => ?_)
            · have h_26n := mx_fEq (a := o) (b := 180) (by omega) (by omega) h_26
              refine lv_iconst (v := 1) hx hb d_Mod_isOp_66 (by decide) ?_
              refine lv_goto (tgt := 71) hx hb d_Mod_isOp_67 (by decide) ?_
              exact mx_ri F hr hlk (by decide) hP hD hS () [] rfl (by decide) (Or.inr ⟨rfl, by omega⟩) (by decide) (by decide) d_Mod_isOp_71
            · have h_26n := mx_fNe (a := o) (b := 180) (by omega) (by omega) h_26
              refine lv_iload_n hx hb d_Mod_isOp_38 rfl (lv_at hl 1 rfl) ?_
              refine lv_sipush (v := 181) hx hb d_Mod_isOp_39 (by decide) ?_
              refine lv_icmp_eq (tgt := 66) hx hb d_Mod_isOp_42 (by decide) (fun h_27 => ?_) (fun h_27 => ?_)
              · have h_27n := mx_fEq (a := o) (b := 181) (by omega) (by omega) h_27
                refine lv_iconst (v := 1) hx hb d_Mod_isOp_66 (by decide) ?_
                refine lv_goto (tgt := 71) hx hb d_Mod_isOp_67 (by decide) ?_
                exact mx_ri F hr hlk (by decide) hP hD hS () [] rfl (by decide) (Or.inr ⟨rfl, by omega⟩) (by decide) (by decide) d_Mod_isOp_71
              · have h_27n := mx_fNe (a := o) (b := 181) (by omega) (by omega) h_27
                refine lv_iload_n hx hb d_Mod_isOp_45 rfl (lv_at hl 1 rfl) ?_
                refine lv_sipush (v := 192) hx hb d_Mod_isOp_46 (by decide) ?_
                refine lv_icmp_lt (tgt := 59) hx hb d_Mod_isOp_49 (by decide) (fun h_28 => ?_) (fun h_28 => ?_)
                · have h_28n := mx_fLt (a := o) (b := 192) (by omega) (by omega) h_28
                  refine lv_iload_n hx hb d_Mod_isOp_59 rfl (lv_at hl 1 rfl) ?_
                  refine lv_sipush (v := 252) hx hb d_Mod_isOp_60 (by decide) ?_
                  refine lv_icmp_le (tgt := 70) hx hb d_Mod_isOp_63 (by decide) (fun h_29 => ?_) (fun h_29 => ?_)
                  · have h_29n := mx_fLe (a := o) (b := 252) (by omega) (by omega) h_29
                    refine lv_iconst (v := 0) hx hb d_Mod_isOp_70 (by decide) ?_
                    exact mx_ri F hr hlk (by decide) hP hD hS () [] rfl (by decide) (Or.inl rfl) (by decide) (by decide) d_Mod_isOp_71
                  · have h_29n := mx_fNle (a := o) (b := 252) (by omega) (by omega) h_29
                    refine lv_iconst (v := 1) hx hb d_Mod_isOp_66 (by decide) ?_
                    refine lv_goto (tgt := 71) hx hb d_Mod_isOp_67 (by decide) ?_
                    exact mx_ri F hr hlk (by decide) hP hD hS () [] rfl (by decide) (Or.inr ⟨rfl, by omega⟩) (by decide) (by decide) d_Mod_isOp_71
                · have h_28n := mx_fNlt (a := o) (b := 192) (by omega) (by omega) h_28
                  refine lv_iload_n hx hb d_Mod_isOp_52 rfl (lv_at hl 1 rfl) ?_
                  refine lv_sipush (v := 250) hx hb d_Mod_isOp_53 (by decide) ?_
                  refine lv_icmp_lt (tgt := 66) hx hb d_Mod_isOp_56 (by decide) (fun h_30 => ?_) (fun h_30 => ?_)
                  · have h_30n := mx_fLt (a := o) (b := 250) (by omega) (by omega) h_30
                    refine lv_iconst (v := 1) hx hb d_Mod_isOp_66 (by decide) ?_
                    refine lv_goto (tgt := 71) hx hb d_Mod_isOp_67 (by decide) ?_
                    exact mx_ri F hr hlk (by decide) hP hD hS () [] rfl (by decide) (Or.inr ⟨rfl, by omega⟩) (by decide) (by decide) d_Mod_isOp_71
                  · have h_30n := mx_fNlt (a := o) (b := 250) (by omega) (by omega) h_30
                    refine lv_iload_n hx hb d_Mod_isOp_59 rfl (lv_at hl 1 rfl) ?_
                    refine lv_sipush (v := 252) hx hb d_Mod_isOp_60 (by decide) ?_
                    refine lv_icmp_le (tgt := 70) hx hb d_Mod_isOp_63 (by decide) (fun h_31 => ?_) (fun h_31 => ?_)
                    · have h_31n := mx_fLe (a := o) (b := 252) (by omega) (by omega) h_31
                      refine lv_iconst (v := 0) hx hb d_Mod_isOp_70 (by decide) ?_
                      exact mx_ri F hr hlk (by decide) hP hD hS () [] rfl (by decide) (Or.inl rfl) (by decide) (by decide) d_Mod_isOp_71
                    · have h_31n := mx_fNle (a := o) (b := 252) (by omega) (by omega) h_31
                      refine lv_iconst (v := 1) hx hb d_Mod_isOp_66 (by decide) ?_
                      refine lv_goto (tgt := 71) hx hb d_Mod_isOp_67 (by decide) ?_
                      exact mx_ri F hr hlk (by decide) hP hD hS () [] rfl (by decide) (Or.inr ⟨rfl, by omega⟩) (by decide) (by decide) d_Mod_isOp_71
