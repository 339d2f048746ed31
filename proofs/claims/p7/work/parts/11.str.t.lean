set_option maxHeartbeats 4000000 in
set_option maxRecDepth 100000 in
theorem c_Str_coder (l : Launch) (K : mx_K) (sn : Nat) (sz : Nat) (hsn : sn < mx_nS) : mx_I l y_String_coder b_String_coder 1 .byte { frames := 0, cells := 0, slots := 0, locals := 0 } K [.ref (K.2.2.1 sn)] [] sz (fun (r : Int32) (u : Unit) => r = 0) (fun u : Unit => []) := by
  refine mx_of (by decide) (Nat.le_of_ble_eq_true rfl) ?_
  intro p e s m below meth c A ls H locs hAe F hr hlk hin hsz hP hD hS hl
  rw [hAe]
  have hl : lv_has ls 1 [(0, .ref (K.2.2.1 sn))] := hl
  obtain ⟨hx, hb, hml, hown, hT, hK, hN, hE, hA⟩ := id F
  refine va_gets hx hb hE.2.2.1 hS hown (hT _ k_159) (fun _ h9 => h9) d_String_coder_0 ?_
  refine lv_if_eq (tgt := 13) hx hb d_String_coder_3 (by decide) (fun h => absurd h (by decide)) (fun _ => ?_)
  refine lv_aload_n hx hb d_String_coder_6 rfl (lv_at hl 0 rfl) ?_
  refine vk_getf hx hb (hE.1 sn hsn).2.1 hS hown (hT _ k_1424) (fun _ h9 => h9) d_String_coder_7 ?_
  refine lv_goto (tgt := 14) hx hb d_String_coder_10 (by decide) ?_
  exact mx_ri F hr hlk (by decide) hP hD hS () [] rfl (by decide) rfl (by decide) (by decide) d_String_coder_14
set_option maxHeartbeats 4000000 in
set_option maxRecDepth 100000 in
theorem c_Str_isLatin1 (l : Launch) (K : mx_K) (sn : Nat) (sz : Nat) (hsn : sn < mx_nS) : mx_I l y_String_isLatin1 b_String_isLatin1 1 .boolean { frames := 0, cells := 0, slots := 0, locals := 0 } K [.ref (K.2.2.1 sn)] [] sz (fun (r : Int32) (u : Unit) => r = 1) (fun u : Unit => []) := by
  refine mx_of (by decide) (Nat.le_of_ble_eq_true rfl) ?_
  intro p e s m below meth c A ls H locs hAe F hr hlk hin hsz hP hD hS hl
  rw [hAe]
  have hl : lv_has ls 1 [(0, .ref (K.2.2.1 sn))] := hl
  obtain ⟨hx, hb, hml, hown, hT, hK, hN, hE, hA⟩ := id F
  refine va_gets hx hb hE.2.2.1 hS hown (hT _ k_159) (fun _ h9 => h9) d_String_isLatin1_0 ?_
  refine lv_if_eq (tgt := 17) hx hb d_String_isLatin1_3 (by decide) (fun h => absurd h (by decide)) (fun _ => ?_)
  refine lv_aload_n hx hb d_String_isLatin1_6 rfl (lv_at hl 0 rfl) ?_
  refine vk_getf hx hb (hE.1 sn hsn).2.1 hS hown (hT _ k_1424) (fun _ h9 => h9) d_String_isLatin1_7 ?_
  refine lv_if_ne (tgt := 17) hx hb d_String_isLatin1_10 (by decide) (fun h => absurd h (by decide)) (fun _ => ?_)
  refine lv_iconst (v := 1) hx hb d_String_isLatin1_13 (by decide) ?_
  refine lv_goto (tgt := 18) hx hb d_String_isLatin1_14 (by decide) ?_
  exact mx_ri F hr hlk (by decide) hP hD hS () [] rfl (by decide) rfl (by decide) (by decide) d_String_isLatin1_18
set_option maxHeartbeats 4000000 in
set_option maxRecDepth 100000 in
theorem c_Str_length (l : Launch) (K : mx_K) (sn : Nat) (sz : Nat) (hsn : sn < mx_nS) : mx_I l y_String_length b_String_length 1 .int { frames := 1, cells := 0, slots := 0, locals := 20 } K [.ref (K.2.2.1 sn)] [] sz (fun (r : Int32) (u : Unit) => r = nI (mx_len.getD sn 0)) (fun u : Unit => []) := by
  refine mx_of (by decide) (Nat.le_of_ble_eq_true rfl) ?_
  intro p e s m below meth c A ls H locs hAe F hr hlk hin hsz hP hD hS hl
  rw [hAe]
  have hl : lv_has ls 1 [(0, .ref (K.2.2.1 sn))] := hl
  obtain ⟨hx, hb, hml, hown, hT, hK, hN, hE, hA⟩ := id F
  refine lv_aload_n hx hb d_String_length_0 rfl (lv_at hl 0 rfl) ?_
  refine vk_getf hx hb (hE.1 sn hsn).2.2.1 hS hown (hT _ k_1423) (fun _ h9 => h9) d_String_length_1 ?_
  refine va_tlen (v := nI (mx_len.getD sn 0)) hx hb (hE.1 sn hsn).2.2.2 hS rfl d_String_length_4 ?_
  refine lv_aload_n hx hb d_String_length_5 rfl (lv_at hl 0 rfl) ?_
  refine mx_ci (wr := []) F (mx_runV (As := []) (rest := [.int (nI (mx_len.getD sn 0))]) (n := 0) F (c_Str_coder l K sn H.size hsn) k_158 (Or.inl k_155) k_156 k_157 k_9 p_String_coder rfl rfl hP hD hS [] rfl (by decide) (mx_recvS hE hsn hS) rfl hl.1 rfl (Nat.le_of_ble_eq_true rfl) ⟨by decide, by decide⟩ ⟨by decide, by decide⟩ d_String_length_6) hP hD hS [] [] rfl rfl (by decide) (by decide) (fun r_2 _ H locs hq_1 hP hD hS => ?_)
  obtain rfl : r_2 = 0 := hq_1
  have hP : va_P K.1 mx_cl [] H := hP
  have hD : va_D A [] := hD
  refine W.cs (cells' := 0) (slots' := 0) rfl rfl ?_
  refine lv_ishr hx hb d_String_length_9 ?_
  refine lv_topi (fun z_3 ez_3 => ?_)
  obtain rfl : z_3 = nI (mx_len.getD sn 0) := ez_3.trans (sc_shr0 (mx_len_lt sn hsn))
  exact mx_ri F hr hlk rfl hP hD hS () [] rfl (by decide) rfl (by decide) (by decide) d_String_length_10
set_option maxHeartbeats 4000000 in
set_option maxRecDepth 100000 in
theorem c_Pre_check0 (l : Launch) (K : mx_K) (k : Nat) (n : Nat) (sz : Nat) (hn : n < 2 ^ 31) (hk : k < n) : mx_I l y_Preconditions_checkIndex b_Preconditions_checkIndex 3 .int { frames := 0, cells := 0, slots := 0, locals := 0 } K [.int (nI k), .int (nI n), .null] [] sz (fun (r : Int32) (u : Unit) => True) (fun u : Unit => []) := by
  refine mx_of (by decide) (Nat.le_of_ble_eq_true rfl) ?_
  intro p e s m below meth c A ls H locs hAe F hr hlk hin hsz hP hD hS hl
  rw [hAe]
  have hl : lv_has ls 3 [(0, .int (nI k)), (1, .int (nI n)), (2, .null)] := hl
  obtain ⟨hx, hb, hml, hown, hT, hK, hN, hE, hA⟩ := id F
  refine lv_iload_n hx hb d_Preconditions_checkIndex_0 rfl (lv_at hl 0 rfl) ?_
  refine lv_if_lt (tgt := 9) hx hb d_Preconditions_checkIndex_1 (by decide) (fun h => absurd h (nI_pos (by omega))) (fun h_1 => ?_)
  refine lv_iload_n hx hb d_Preconditions_checkIndex_4 rfl (lv_at hl 0 rfl) ?_
  refine lv_iload_n hx hb d_Preconditions_checkIndex_5 rfl (lv_at hl 1 rfl) ?_
  refine lv_icmp_lt (tgt := 16) hx hb d_Preconditions_checkIndex_6 (by decide) (fun h_2 => ?_) (fun h => absurd (nI_lt (a := k) (b := n) (by omega) (by omega)) h)
  refine lv_iload_n hx hb d_Preconditions_checkIndex_16 rfl (lv_at hl 0 rfl) ?_
  exact mx_ri F hr hlk rfl hP hD hS () [] rfl (by decide) trivial (by decide) (by decide) d_Preconditions_checkIndex_17
set_option maxHeartbeats 4000000 in
set_option maxRecDepth 100000 in
theorem c_Pre_check1 (l : Launch) (K : mx_K) (k : Nat) (n : Nat) (z : Nat) (sz : Nat) (hn : n < 2 ^ 31) (hk : k < n) : mx_I l y_Preconditions_checkIndex b_Preconditions_checkIndex 3 .int { frames := 0, cells := 0, slots := 0, locals := 0 } K [.int (nI k), .int (nI n), .ref z] [] sz (fun (r : Int32) (u : Unit) => True) (fun u : Unit => []) := by
  refine mx_of (by decide) (Nat.le_of_ble_eq_true rfl) ?_
  intro p e s m below meth c A ls H locs hAe F hr hlk hin hsz hP hD hS hl
  rw [hAe]
  have hl : lv_has ls 3 [(0, .int (nI k)), (1, .int (nI n)), (2, .ref z)] := hl
  obtain ⟨hx, hb, hml, hown, hT, hK, hN, hE, hA⟩ := id F
  refine lv_iload_n hx hb d_Preconditions_checkIndex_0 rfl (lv_at hl 0 rfl) ?_
  refine lv_if_lt (tgt := 9) hx hb d_Preconditions_checkIndex_1 (by decide) (fun h => absurd h (nI_pos (by omega))) (fun h_1 => ?_)
  refine lv_iload_n hx hb d_Preconditions_checkIndex_4 rfl (lv_at hl 0 rfl) ?_
  refine lv_iload_n hx hb d_Preconditions_checkIndex_5 rfl (lv_at hl 1 rfl) ?_
  refine lv_icmp_lt (tgt := 16) hx hb d_Preconditions_checkIndex_6 (by decide) (fun h_2 => ?_) (fun h => absurd (nI_lt (a := k) (b := n) (by omega) (by omega)) h)
  refine lv_iload_n hx hb d_Preconditions_checkIndex_16 rfl (lv_at hl 0 rfl) ?_
  exact mx_ri F hr hlk rfl hP hD hS () [] rfl (by decide) trivial (by decide) (by decide) d_Preconditions_checkIndex_17
set_option maxHeartbeats 4000000 in
set_option maxRecDepth 100000 in
theorem c_Str_checkIndex (l : Launch) (K : mx_K) (k : Nat) (n : Nat) (sz : Nat) (hn : n < 2 ^ 31) (hk : k < n) : mx_V l y_String_checkIndex b_String_checkIndex 2 { frames := 1, cells := 0, slots := 0, locals := 22 } K [.int (nI k), .int (nI n)] [] sz (fun u : Unit => True) (fun u : Unit => []) := by
  refine mx_of (by decide) (Nat.le_of_ble_eq_true rfl) ?_
  intro p e s m below meth c A ls H locs hAe F hr hlk hin hsz hP hD hS hl
  rw [hAe]
  have hl : lv_has ls 2 [(0, .int (nI k)), (1, .int (nI n))] := hl
  obtain ⟨hx, hb, hml, hown, hT, hK, hN, hE, hA⟩ := id F
  refine lv_iload_n hx hb d_String_checkIndex_0 rfl (lv_at hl 0 rfl) ?_
  refine lv_iload_n hx hb d_String_checkIndex_1 rfl (lv_at hl 1 rfl) ?_
  rcases hE.2.2.2.1 with hz | ⟨zq, hz⟩
  · refine va_gets hx hb hz hS hown (hT _ k_175) (fun _ h9 => h9) d_String_checkIndex_2 ?_
    refine mx_ci (wr := []) F (mx_runS (As := [.int (nI k), .int (nI n), .null]) (rest := []) (n := 3) F (c_Pre_check0 l K k n H.size hn hk) k_179 (Or.inl k_177) k_178 k_11 p_Preconditions_checkIndex rfl rfl hP hD hS [] rfl (by decide)  rfl hl.1 rfl (Nat.le_of_ble_eq_true rfl) ⟨by decide, by decide⟩ ⟨by decide, by decide⟩ d_String_checkIndex_5) hP hD hS [] [] rfl rfl (by decide) (by decide) (fun r_2 _ H locs hq_1 hP hD hS => ?_)
    have hP : va_P K.1 mx_cl [] H := hP
    have hD : va_D A [] := hD
    refine W.cs (cells' := 0) (slots' := 0) rfl rfl ?_
    refine lv_pop hx hb d_String_checkIndex_8 rfl ?_
    exact mx_rv F hr hlk hP hD hS () [] rfl (by decide) trivial (by decide) (by decide) d_String_checkIndex_9
  · refine va_gets hx hb hz hS hown (hT _ k_175) (fun _ h9 => h9) d_String_checkIndex_2 ?_
    refine mx_ci (wr := []) F (mx_runS (As := [.int (nI k), .int (nI n), .ref zq]) (rest := []) (n := 3) F (c_Pre_check1 l K k n zq H.size hn hk) k_179 (Or.inl k_177) k_178 k_11 p_Preconditions_checkIndex rfl rfl hP hD hS [] rfl (by decide)  rfl hl.1 rfl (Nat.le_of_ble_eq_true rfl) ⟨by decide, by decide⟩ ⟨by decide, by decide⟩ d_String_checkIndex_5) hP hD hS [] [] rfl rfl (by decide) (by decide) (fun r_4 _ H locs hq_3 hP hD hS => ?_)
    have hP : va_P K.1 mx_cl [] H := hP
    have hD : va_D A [] := hD
    refine W.cs (cells' := 0) (slots' := 0) rfl rfl ?_
    refine lv_pop hx hb d_String_checkIndex_8 rfl ?_
    exact mx_rv F hr hlk hP hD hS () [] rfl (by decide) trivial (by decide) (by decide) d_String_checkIndex_9
set_option maxHeartbeats 4000000 in
set_option maxRecDepth 100000 in
theorem c_Lat_charAt (l : Launch) (K : mx_K) (sn : Nat) (k : Nat) (sz : Nat) (hsn : sn < mx_nS) (hk : k < mx_len.getD sn 0) : mx_I l y_StringLatin1_charAt b_StringLatin1_charAt 2 .char { frames := 2, cells := 0, slots := 0, locals := 43 } K [.ref (K.2.2.2 sn), .int (nI k)] [] sz (fun (r : Int32) (u : Unit) => narrow .char (.int r) = .int r) (fun u : Unit => []) := by
  refine mx_of (by decide) (Nat.le_of_ble_eq_true rfl) ?_
  intro p e s m below meth c A ls H locs hAe F hr hlk hin hsz hP hD hS hl
  rw [hAe]
  have hl : lv_has ls 2 [(0, .ref (K.2.2.2 sn)), (1, .int (nI k))] := hl
  obtain ⟨hx, hb, hml, hown, hT, hK, hN, hE, hA⟩ := id F
  have hll := mx_len_lt sn hsn
  refine lv_iload_n hx hb d_StringLatin1_charAt_0 rfl (lv_at hl 1 rfl) ?_
  refine lv_aload_n hx hb d_StringLatin1_charAt_1 rfl (lv_at hl 0 rfl) ?_
  refine va_tlen (v := nI (mx_len.getD sn 0)) hx hb (hE.1 sn hsn).2.2.2 hS rfl d_StringLatin1_charAt_2 ?_
  refine mx_cv (wr := []) F (mx_runS (As := [.int (nI k), .int (nI (mx_len.getD sn 0))]) (rest := []) (n := 2) F (c_Str_checkIndex l K k (mx_len.getD sn 0) H.size hll hk) k_174 (Or.inl k_172) k_173 k_9 p_String_checkIndex rfl rfl hP hD hS [] rfl (by decide)  rfl hl.1 rfl (Nat.le_of_ble_eq_true rfl) ⟨by decide, by decide⟩ ⟨by decide, by decide⟩ d_StringLatin1_charAt_3) hP hD hS [] [] rfl rfl (by decide) (by decide) (fun _ H locs hq_1 hP hD hS => ?_)
  have hP : va_P K.1 mx_cl [] H := hP
  have hD : va_D A [] := hD
  refine W.cs (cells' := 0) (slots' := 0) rfl rfl ?_
  refine lv_aload_n hx hb d_StringLatin1_charAt_6 rfl (lv_at hl 0 rfl) ?_
  refine lv_iload_n hx hb d_StringLatin1_charAt_7 rfl (lv_at hl 1 rfl) ?_
  refine va_tb hx hb (hE.1 sn hsn).2.2.2 hS (i := nI k) (vp_in_nI hk (by omega)) rfl d_StringLatin1_charAt_8 ?_
  refine lv_topi (fun z_3 ez_3 => ?_)
  refine lv_sipush (v := 255) hx hb d_StringLatin1_charAt_9 (by decide) ?_
  refine lv_iand hx hb d_StringLatin1_charAt_12 ?_
  refine lv_i2c (v := ((z_3 &&& (255 : Int32)).toUInt32 % 65536).toInt32) hx hb d_StringLatin1_charAt_13 rfl ?_
  exact mx_ri F hr hlk (pk_nc _) hP hD hS () [] rfl (by decide) (pk_nc _) (by decide) (by decide) d_StringLatin1_charAt_14
set_option maxHeartbeats 4000000 in
set_option maxRecDepth 100000 in
theorem c_Str_charAt (l : Launch) (K : mx_K) (sn : Nat) (k : Nat) (sz : Nat) (hsn : sn < mx_nS) (hk : k < mx_len.getD sn 0) : mx_I l y_String_charAt b_String_charAt 2 .char { frames := 3, cells := 0, slots := 0, locals := 64 } K [.ref (K.2.2.1 sn), .int (nI k)] [] sz (fun (r : Int32) (u : Unit) => narrow .char (.int r) = .int r) (fun u : Unit => []) := by
  refine mx_of (by decide) (Nat.le_of_ble_eq_true rfl) ?_
  intro p e s m below meth c A ls H locs hAe F hr hlk hin hsz hP hD hS hl
  rw [hAe]
  have hl : lv_has ls 2 [(0, .ref (K.2.2.1 sn)), (1, .int (nI k))] := hl
  obtain ⟨hx, hb, hml, hown, hT, hK, hN, hE, hA⟩ := id F
  refine lv_aload_n hx hb d_String_charAt_0 rfl (lv_at hl 0 rfl) ?_
  refine mx_ci (wr := []) F (mx_runV (As := []) (rest := []) (n := 0) F (c_Str_isLatin1 l K sn H.size hsn) k_168 (Or.inl k_165) k_166 k_167 k_9 p_String_isLatin1 rfl rfl hP hD hS [] rfl (by decide) (mx_recvS hE hsn hS) rfl hl.1 rfl (Nat.le_of_ble_eq_true rfl) ⟨by decide, by decide⟩ ⟨by decide, by decide⟩ d_String_charAt_1) hP hD hS [] [] rfl rfl (by decide) (by decide) (fun r_2 _ H locs hq_1 hP hD hS => ?_)
  obtain rfl : r_2 = 1 := hq_1
  have hP : va_P K.1 mx_cl [] H := hP
  have hD : va_D A [] := hD
  refine W.cs (cells' := 0) (slots' := 0) rfl rfl ?_
  refine lv_if_eq (tgt := 16) hx hb d_String_charAt_4 (by decide) (fun h => absurd h (by decide)) (fun _ => ?_)
  refine lv_aload_n hx hb d_String_charAt_7 rfl (lv_at hl 0 rfl) ?_
  refine vk_getf hx hb (hE.1 sn hsn).2.2.1 hS hown (hT _ k_1423) (fun _ h9 => h9) d_String_charAt_8 ?_
  refine lv_iload_n hx hb d_String_charAt_11 rfl (lv_at hl 1 rfl) ?_
  refine mx_ci (wr := []) F (mx_runS (As := [.ref (K.2.2.2 sn), .int (nI k)]) (rest := []) (n := 2) F (c_Lat_charAt l K sn k H.size hsn hk) k_171 (Or.inl k_169) k_170 k_10 p_StringLatin1_charAt rfl rfl hP hD hS [] rfl (by decide)  rfl hl.1 rfl (Nat.le_of_ble_eq_true rfl) ⟨by decide, by decide⟩ ⟨by decide, by decide⟩ d_String_charAt_12) hP hD hS [] [] rfl rfl (by decide) (by decide) (fun r_5 _ H locs hq_4 hP hD hS => ?_)
  have hP : va_P K.1 mx_cl [] H := hP
  have hD : va_D A [] := hD
  refine W.cs (cells' := 0) (slots' := 0) rfl rfl ?_
  have hqc := hq_4
  exact mx_ri F hr hlk hqc hP hD hS () [] rfl (by decide) hqc (by decide) (by decide) d_String_charAt_15
set_option maxHeartbeats 4000000 in
set_option maxRecDepth 100000 in
theorem lp_learn {p : Program} {l : Launch} {e : Env} {R : Room} {s : State} {m : MethodId} {args : Array Value} {below : List Frame} {meth : Method} {c : Code} {cells slots : Nat} {Q : State → Prop} {K : mx_K} {A : Nat → Prop} (h0 : Nat) (q : Nat) (sn : Nat) (a0 : Nat) (b : Nat) (F : mx_F p s m args c b_Opn_learn 7 "LittleMix$Operations" K A) (hRf : 4 ≤ R.frames) (hRl : 85 ≤ R.locals) (hRc : cells ≤ R.cells) (hRs : slots ≤ R.slots)
    (kk : ∀ (f : Nat → Int64) (ls : Array Slot) (H : Heap) (locs : List Loc), lv_has ls 7 [(0, .ref h0)] → va_P K.1 mx_cl [(h0, .inr (3, [.ref q])), (q, .inl (K.2.1.1, 262, .inr (.inl f)))] H → va_D A [(h0, .inr (3, [.ref q])), (q, .inl (K.2.1.1, 262, .inr (.inl f)))] → va_S A s.heap H locs → W p l e R s m args below meth c H locs cells slots Q (F0 m 76 ls [])) :
    ∀ (n : Nat) (k : Nat) (a : Nat) (f : Nat → Int64) (ls : Array Slot) (H : Heap) (locs : List Loc), n + k = mx_len.getD sn 0 → a ≤ 264 → b ≤ 2 → sn < mx_nS → lv_has ls 7 [(5, .int (nI k)), (4, .int (nI a)), (3, .ref (K.2.2.1 sn)), (2, .int (nI b)), (1, .int (nI a0)), (0, .ref h0)] → va_P K.1 mx_cl [(h0, .inr (3, [.ref q])), (q, .inl (K.2.1.1, 262, .inr (.inl f)))] H → va_D A [(h0, .inr (3, [.ref q])), (q, .inl (K.2.1.1, 262, .inr (.inl f)))] → va_S A s.heap H locs → W p l e R s m args below meth c H locs cells slots Q (F0 m 6 ls []) := by
  obtain ⟨hx, hb, hml, hown, hT, hK, hN, hE, hA⟩ := id F
  intro n
  induction n with
  | zero =>
    intro k a f ls H locs hn ha hb2 hsn hl hP hD hS
    refine lv_iload hx hb d_Opn_learn_6 (lv_at hl 0 rfl) ?_
    refine lv_aload_n hx hb d_Opn_learn_8 rfl (lv_at hl 2 rfl) ?_
    have hll := mx_len_lt sn hsn
    refine mx_ci (wr := [(h0, .inr (3, [.ref q])), (q, .inl (K.2.1.1, 262, .inr (.inl f)))]) F (mx_runV (As := []) (rest := [.int (nI k)]) (n := 0) F (c_Str_length l K sn H.size hsn) k_154 (Or.inl k_151) k_152 k_153 k_9 p_String_length rfl rfl hP hD hS [] rfl (by decide) (mx_recvS hE hsn hS) rfl hl.1 rfl (Nat.le_of_ble_eq_true rfl) ⟨Nat.le_trans (m := 4) (by decide) hRf, Nat.le_trans (m := 85) (by decide) hRl⟩ ⟨hRc, hRs⟩ d_Opn_learn_9) hP hD hS [] [0, 1] rfl rfl (by decide) (by decide) (fun r_2 _ H locs hq_1 hP hD hS => ?_)
    obtain rfl : r_2 = nI (mx_len.getD sn 0) := hq_1
    have hP : va_P K.1 mx_cl [(h0, .inr (3, [.ref q])), (q, .inl (K.2.1.1, 262, .inr (.inl f)))] H := hP
    have hD : va_D A [(h0, .inr (3, [.ref q])), (q, .inl (K.2.1.1, 262, .inr (.inl f)))] := hD
    refine W.cs (cells' := cells) (slots' := slots) rfl rfl ?_
    refine lv_icmp_ge (tgt := 76) hx hb d_Opn_learn_12 (by decide) (fun h_3 => ?_) (fun h => absurd (nI_le (a := (mx_len.getD sn 0)) (b := k) (by omega) (by omega)) h)
    exact kk f _ _ _  (lv_sub hl [5] rfl) hP hD hS
  | succ n ih =>
    intro k a f ls H locs hn ha hb2 hsn hl hP hD hS
    refine lv_iload hx hb d_Opn_learn_6 (lv_at hl 0 rfl) ?_
    refine lv_aload_n hx hb d_Opn_learn_8 rfl (lv_at hl 2 rfl) ?_
    have hll := mx_len_lt sn hsn
    refine mx_ci (wr := [(h0, .inr (3, [.ref q])), (q, .inl (K.2.1.1, 262, .inr (.inl f)))]) F (mx_runV (As := []) (rest := [.int (nI k)]) (n := 0) F (c_Str_length l K sn H.size hsn) k_154 (Or.inl k_151) k_152 k_153 k_9 p_String_length rfl rfl hP hD hS [] rfl (by decide) (mx_recvS hE hsn hS) rfl hl.1 rfl (Nat.le_of_ble_eq_true rfl) ⟨Nat.le_trans (m := 4) (by decide) hRf, Nat.le_trans (m := 85) (by decide) hRl⟩ ⟨hRc, hRs⟩ d_Opn_learn_9) hP hD hS [] [0, 1] rfl rfl (by decide) (by decide) (fun r_2 _ H locs hq_1 hP hD hS => ?_)
    obtain rfl : r_2 = nI (mx_len.getD sn 0) := hq_1
    have hP : va_P K.1 mx_cl [(h0, .inr (3, [.ref q])), (q, .inl (K.2.1.1, 262, .inr (.inl f)))] H := hP
    have hD : va_D A [(h0, .inr (3, [.ref q])), (q, .inl (K.2.1.1, 262, .inr (.inl f)))] := hD
    refine W.cs (cells' := cells) (slots' := slots) rfl rfl ?_
    refine lv_icmp_ge (tgt := 76) hx hb d_Opn_learn_12 (by decide) (fun h => absurd h (nI_ge (a := k) (b := (mx_len.getD sn 0)) (by omega) (by omega))) (fun h_3 => ?_)
    refine lv_iload hx hb d_Opn_learn_15 (lv_at hl 1 rfl) ?_
    refine lv_aload_n hx hb d_Opn_learn_17 rfl (lv_at hl 5 rfl) ?_
    refine va_get (D := K.1) (ci := 3) (v := .ref q) (C := R_Opn) (T := T_Opn) (N := 1) hx hb hT in_Opn hown hK hP 0 rfl rfl 0 (by decide) (hT _ k_212) (fun _ h9 => h9) rfl d_Opn_learn_18 ?_
    refine va_alen (v := 262) hx hb hK hP 1 0 rfl rfl rfl d_Opn_learn_21 ?_
    refine lv_icmp_ge (tgt := 76) hx hb d_Opn_learn_22 (by decide) (fun h22 => ?_) (fun h22 => ?_)
    · exact kk f _ _ _  (lv_sub hl [5] rfl) hP hD hS
    · have h22n : a < 262 := by
        rw [show (262 : Int32) = nI 262 from rfl, nI_leI (by omega) (by omega)] at h22
        omega
      refine lv_aload_n hx hb d_Opn_learn_25 rfl (lv_at hl 2 rfl) ?_
      refine lv_iload hx hb d_Opn_learn_26 (lv_at hl 0 rfl) ?_
      refine mx_ci (wr := [(h0, .inr (3, [.ref q])), (q, .inl (K.2.1.1, 262, .inr (.inl f)))]) F (mx_runV (As := [.int (nI k)]) (rest := []) (n := 1) F (c_Str_charAt l K sn k H.size hsn (by omega)) k_164 (Or.inl k_161) k_162 k_163 k_9 p_String_charAt rfl rfl hP hD hS [] rfl (by decide) (mx_recvS hE hsn hS) rfl hl.1 rfl (Nat.le_of_ble_eq_true rfl) ⟨Nat.le_trans (m := 4) (by decide) hRf, Nat.le_trans (m := 85) (by decide) hRl⟩ ⟨hRc, hRs⟩ d_Opn_learn_28) hP hD hS [] [0, 1] rfl rfl (by decide) (by decide) (fun r_5 _ H locs hq_4 hP hD hS => ?_)
      have hP : va_P K.1 mx_cl [(h0, .inr (3, [.ref q])), (q, .inl (K.2.1.1, 262, .inr (.inl f)))] H := hP
      have hD : va_D A [(h0, .inr (3, [.ref q])), (q, .inl (K.2.1.1, 262, .inr (.inl f)))] := hD
      refine W.cs (cells' := cells) (slots' := slots) rfl rfl ?_
      refine lv_istore (lv' := [(6, .int r_5), (5, .int (nI k)), (4, .int (nI a)), (3, .ref (K.2.2.1 sn)), (2, .int (nI b)), (1, .int (nI a0)), (0, .ref h0)]) hx hb d_Opn_learn_31 hl (by decide) rfl (fun ls hl => ?_)
      refine lv_iload hx hb d_Opn_learn_33 (lv_at hl 0 rfl) ?_
      refine lv_bipush (v := 32) hx hb d_Opn_learn_35 (by decide) ?_
      refine lv_icmp_ne (tgt := 49) hx hb d_Opn_learn_37 (by decide) (fun h_6 => ?_) (fun h_6 => ?_)
      · refine lv_aload_n hx hb d_Opn_learn_49 rfl (lv_at hl 6 rfl) ?_
        refine va_get (D := K.1) (ci := 3) (v := .ref q) (C := R_Opn) (T := T_Opn) (N := 1) hx hb hT in_Opn hown hK hP 0 rfl rfl 0 (by decide) (hT _ k_212) (fun _ h9 => h9) rfl d_Opn_learn_50 ?_
        refine lv_iload hx hb d_Opn_learn_53 (lv_at hl 2 rfl) ?_
        refine lv_aload_n hx hb d_Opn_learn_55 rfl (lv_at hl 6 rfl) ?_
        refine va_get (D := K.1) (ci := 3) (v := .ref q) (C := R_Opn) (T := T_Opn) (N := 1) hx hb hT in_Opn hown hK hP 0 rfl rfl 0 (by decide) (hT _ k_212) (fun _ h9 => h9) rfl d_Opn_learn_56 ?_
        refine lv_iload hx hb d_Opn_learn_59 (lv_at hl 2 rfl) ?_
        refine va_lald hx hb hK hP 1 0 rfl rfl (i := nI a) (vp_in_nI (n := a) (N := 262) (by omega) (by decide)) d_Opn_learn_61 ?_
        refine lv_topl (fun z_7 ez_7 => ?_)
        refine lv_bipush (v := 8) hx hb d_Opn_learn_62 (by decide) ?_
        refine lv_lshl (v := z_7 <<< ((8 : Int32).toInt64 &&& 63)) hx hb d_Opn_learn_64 rfl ?_
        refine lv_iload hx hb d_Opn_learn_65 (lv_at hl 0 rfl) ?_
        refine lv_i2l (v := r_5.toInt64) hx hb d_Opn_learn_67 rfl ?_
        refine lv_lor hx hb d_Opn_learn_68 ?_
        refine va_last hx hb hK hP hD hS 1 0 rfl rfl (i := nI a) (x := (z_7 <<< ((8 : Int32).toInt64 &&& 63)) ||| r_5.toInt64) (vp_in_nI (n := a) (N := 262) (by omega) (by decide)) d_Opn_learn_69 (fun H locs hP hD hS => ?_)
        have hP : va_P K.1 mx_cl [(h0, .inr (3, [.ref q])), (q, .inl (K.2.1.1, 262, .inr (.inl (vp_updL f (nI a).toNatClampNeg ((z_7 <<< ((8 : Int32).toInt64 &&& 63)) ||| r_5.toInt64)))))] H := hP
        have hD : va_D A [(h0, .inr (3, [.ref q])), (q, .inl (K.2.1.1, 262, .inr (.inl (vp_updL f (nI a).toNatClampNeg ((z_7 <<< ((8 : Int32).toInt64 &&& 63)) ||| r_5.toInt64)))))] := hD
        generalize ef_8 : vp_updL f (nI a).toNatClampNeg ((z_7 <<< ((8 : Int32).toInt64 &&& 63)) ||| r_5.toInt64) = f_8 at hP hD
        refine lv_iinc (lv' := [(5, .int (nI (k + 1))), (6, .int r_5), (4, .int (nI a)), (3, .ref (K.2.2.1 sn)), (2, .int (nI b)), (1, .int (nI a0)), (0, .ref h0)]) (v := nI (k + 1)) (k := 1) hx hb d_Opn_learn_70 hl rfl (mx_inc k) (by decide) rfl (fun ls hl => ?_)
        refine lv_goto (tgt := 6) hx hb d_Opn_learn_73 (by decide) ?_
        exact ih (k + 1) a f_8 _ _ _ (by omega) (by omega) hb2 hsn (lv_sub hl [0, 2, 3, 4, 5, 6] rfl) hP hD hS
      · refine lv_iload hx hb d_Opn_learn_40 (lv_at hl 2 rfl) ?_
        refine lv_iload_n hx hb d_Opn_learn_42 rfl (lv_at hl 4 rfl) ?_
        refine lv_iadd hx hb d_Opn_learn_43 ?_
        refine lv_topi (fun z_9 ez_9 => ?_)
        obtain rfl : z_9 = nI (a + b) := ez_9.trans (nI_add a b)
        refine lv_istore (lv' := [(4, .int (nI (a + b))), (6, .int r_5), (5, .int (nI k)), (3, .ref (K.2.2.1 sn)), (2, .int (nI b)), (1, .int (nI a0)), (0, .ref h0)]) hx hb d_Opn_learn_44 hl (by decide) rfl (fun ls hl => ?_)
        refine lv_goto (tgt := 70) hx hb d_Opn_learn_46 (by decide) ?_
        refine lv_iinc (lv' := [(5, .int (nI (k + 1))), (4, .int (nI (a + b))), (6, .int r_5), (3, .ref (K.2.2.1 sn)), (2, .int (nI b)), (1, .int (nI a0)), (0, .ref h0)]) (v := nI (k + 1)) (k := 2) hx hb d_Opn_learn_70 hl rfl (mx_inc k) (by decide) rfl (fun ls hl => ?_)
        refine lv_goto (tgt := 6) hx hb d_Opn_learn_73 (by decide) ?_
        exact ih (k + 1) (a + b) f _ _ _ (by omega) (by omega) hb2 hsn (lv_sub hl [0, 1, 3, 4, 5, 6] rfl) hP hD hS
set_option maxHeartbeats 4000000 in
set_option maxRecDepth 100000 in
theorem c_Opn_learn (l : Launch) (K : mx_K) (h0 : Nat) (q : Nat) (f : Nat → Int64) (a : Nat) (b : Nat) (sn : Nat) (sz : Nat) (ha : a ≤ 264) (hb2 : b ≤ 2) (hsn : sn < mx_nS) : mx_V l y_Opn_learn b_Opn_learn 7 { frames := 4, cells := 0, slots := 0, locals := 85 } K [.ref h0, .int (nI a), .int (nI b), .ref (K.2.2.1 sn)] [(h0, .inr (3, [.ref q])), (q, .inl (K.2.1.1, 262, .inr (.inl f)))] sz (fun u : (Nat → Int64) => True) (fun u : (Nat → Int64) => [(h0, .inr (3, [.ref q])), (q, .inl (K.2.1.1, 262, .inr (.inl u)))]) := by
  refine mx_of (by decide) (Nat.le_of_ble_eq_true rfl) ?_
  intro p e s m below meth c A ls H locs hAe F hr hlk hin hsz hP hD hS hl
  rw [hAe]
  have hl : lv_has ls 7 [(0, .ref h0), (1, .int (nI a)), (2, .int (nI b)), (3, .ref (K.2.2.1 sn))] := hl
  obtain ⟨hx, hb, hml, hown, hT, hK, hN, hE, hA⟩ := id F
  refine lv_iload_n hx hb d_Opn_learn_0 rfl (lv_at hl 1 rfl) ?_
  refine lv_istore (lv' := [(4, .int (nI a)), (0, .ref h0), (1, .int (nI a)), (2, .int (nI b)), (3, .ref (K.2.2.1 sn))]) hx hb d_Opn_learn_1 hl (by decide) rfl (fun ls hl => ?_)
  refine lv_iconst (v := 0) hx hb d_Opn_learn_3 (by decide) ?_
  refine lv_istore (lv' := [(5, .int 0), (4, .int (nI a)), (0, .ref h0), (1, .int (nI a)), (2, .int (nI b)), (3, .ref (K.2.2.1 sn))]) hx hb d_Opn_learn_4 hl (by decide) rfl (fun ls hl => ?_)
  refine lp_learn h0 q sn a b F (by decide) (by decide) (by decide) (by decide) (fun f ls H locs hl hP hD hS => ?_) (mx_len.getD sn 0) 0 a f _ _ _ (by omega) ha hb2 hsn (lv_sub hl [0, 1, 5, 4, 3, 2] rfl) hP hD hS
  exact mx_rv F hr hlk hP hD hS (f) [0, 1] rfl (by decide) trivial (by decide) (by decide) d_Opn_learn_76
