set_option maxHeartbeats 4000000 in
set_option maxRecDepth 100000 in
theorem s_Lab_clear (l : Launch) (K : mx_K) (lb : Nat) (t : Nat) (la : Nat) (lz : Nat) (lv : Nat) (lr : Nat) (cn : Nat) (sz : Nat) : mx_V l y_Lab_clear b_Lab_clear 1 { frames := 1, cells := 0, slots := 0, locals := 20 } K [.ref lb] [(lb, .inr (5, [.int (nI cn), .ref t, .ref la, .ref lz, .ref lv, .ref lr]))] sz (fun u : Unit => True) (fun u : Unit => [(lb, .inr (5, [.int 0, .ref t, .ref la, .ref lz, .ref lv, .ref lr]))]) := by
  refine mx_of (by decide) (Nat.le_of_ble_eq_true rfl) ?_
  intro p e s m below meth c A ls H locs hAe F hr hlk hin hsz hP hD hS hl
  rw [hAe]
  have hl : lv_has ls 1 [(0, .ref lb)] := hl
  obtain ⟨hx, hb, hml, hown, hT, hK, hN, hE, hA⟩ := id F
  refine lv_aload_n hx hb d_Lab_clear_0 rfl (lv_at hl 0 rfl) ?_
  refine lv_iconst (v := 0) hx hb d_Lab_clear_1 (by decide) ?_
  refine va_put (D := K.1) (ci := 5) (v := .int 0) (ty := .int) (C := R_Lab) (T := T_Lab) (N := 6) hx hb hT in_Lab t_Lab t_Lab_ok n_Lab hown hK hP hD hS 0 rfl rfl 0 (by decide) (hT _ k_119) (fun _ h9 => h9) rfl (by decide +kernel) rfl rfl (Nat.le_of_ble_eq_true rfl) d_Lab_clear_2 (fun H locs hP hD hS => ?_)
  have hP : va_P K.1 mx_cl [(lb, .inr (5, [.int 0, .ref t, .ref la, .ref lz, .ref lv, .ref lr]))] H := hP
  have hD : va_D A [(lb, .inr (5, [.int 0, .ref t, .ref la, .ref lz, .ref lv, .ref lr]))] := hD
  exact mx_rv F hr hlk hP hD hS () [0] rfl (by decide) trivial (by decide) (by decide) d_Lab_clear_5
set_option maxHeartbeats 4000000 in
set_option maxRecDepth 100000 in
theorem s_Lab_find_b61 {p : Program} {l : Launch} {e : Env} {R : Room} {s : State} {m : MethodId} {args : Array Value} {below : List Frame} {meth : Method} {c : Code} {K : mx_K} {A : Nat → Prop} (lb : Nat) (a : Nat) (z : Nat) (t : Nat) (la : Nat) (lz : Nat) (lv : Nat) (lr : Nat) (fs : Nat → Int32) (fz : Nat → Int32) (f : Nat → Int32) (cn : Nat) (hcn : cn ≤ 40) (hlab : mx_lab fs fz cn) (haz : a + z ≤ 1600) (F : mx_F p s m args c b_Lab_find 5 "LittleMix$Labels" K A) (hr : meth.sig.returnType = some .int) (hlk : meth.locks = false) (hRf : 1 ≤ R.frames) (hRl : 20 ≤ R.locals)
    (N2 : Nat) (N13 : Nat)
    (kk2 : ∀ (n3 : Nat) (ls : Array Slot) (H : Heap) (locs : List Loc), cn - n3 < N2 → (n3 ≤ cn) → lv_has ls 5 [(0, .ref lb), (1, .int (nI a)), (2, .int (nI z)), (3, .int (nI n3))] → va_P K.1 mx_cl [(lb, .inr (5, [.int (nI cn), .ref t, .ref la, .ref lz, .ref lv, .ref lr])), (la, .inl (K.2.1.2.1, 40, .inl fs)), (lz, .inl (K.2.1.2.1, 40, .inl fz)), (t, .inl (K.2.1.2.2.1, 1600, .inl f))] H → va_D A [(lb, .inr (5, [.int (nI cn), .ref t, .ref la, .ref lz, .ref lv, .ref lr])), (la, .inl (K.2.1.2.1, 40, .inl fs)), (lz, .inl (K.2.1.2.1, 40, .inl fz)), (t, .inl (K.2.1.2.2.1, 1600, .inl f))] → va_S A s.heap H locs → W p l e R s m args below meth c H locs 0 0 (MQ below (va_Qi (fun (r : Int32) (u : Unit) => True) (mx_B K A (fun u : Unit => [(lb, .inr (5, [.int (nI cn), .ref t, .ref la, .ref lz, .ref lv, .ref lr])), (la, .inl (K.2.1.2.1, 40, .inl fs)), (lz, .inl (K.2.1.2.1, 40, .inl fz)), (t, .inl (K.2.1.2.2.1, 1600, .inl f))])) A) args s 0 0 A) (F0 m 2 ls []))
    : ∀ (n3 : Nat) (n4 : Nat) (ls : Array Slot) (H : Heap) (locs : List Loc), (n3 ≤ cn) → (cn - n3 < N2 + 1) → (n4 ≤ z) → (z - n4 < N13 + 1) → (n3 < cn) → lv_has ls 5 [(0, .ref lb), (1, .int (nI a)), (2, .int (nI z)), (3, .int (nI n3)), (4, .int (nI n4))] → va_P K.1 mx_cl [(lb, .inr (5, [.int (nI cn), .ref t, .ref la, .ref lz, .ref lv, .ref lr])), (la, .inl (K.2.1.2.1, 40, .inl fs)), (lz, .inl (K.2.1.2.1, 40, .inl fz)), (t, .inl (K.2.1.2.2.1, 1600, .inl f))] H → va_D A [(lb, .inr (5, [.int (nI cn), .ref t, .ref la, .ref lz, .ref lv, .ref lr])), (la, .inl (K.2.1.2.1, 40, .inl fs)), (lz, .inl (K.2.1.2.1, 40, .inl fz)), (t, .inl (K.2.1.2.2.1, 1600, .inl f))] → va_S A s.heap H locs → W p l e R s m args below meth c H locs 0 0 (MQ below (va_Qi (fun (r : Int32) (u : Unit) => True) (mx_B K A (fun u : Unit => [(lb, .inr (5, [.int (nI cn), .ref t, .ref la, .ref lz, .ref lv, .ref lr])), (la, .inl (K.2.1.2.1, 40, .inl fs)), (lz, .inl (K.2.1.2.1, 40, .inl fz)), (t, .inl (K.2.1.2.2.1, 1600, .inl f))])) A) args s 0 0 A) (F0 m 61 ls []) := by
  obtain ⟨hx, hb, hml, hown, hT, hK, hN, hE, hA⟩ := id F
  intro n3 n4 ls H locs hfa0 hfa1 hfa2 hfa3 h3 hl hP hD hS
  refine lv_iload hx hb d_Lab_find_61 (lv_at hl 4 rfl) ?_
  refine lv_iload_n hx hb d_Lab_find_63 rfl (lv_at hl 2 rfl) ?_
  refine lv_icmp_ne (tgt := 69) hx hb d_Lab_find_64 (by decide) (fun h_1 => ?_) (fun h_1 => ?_)
  · have h_1n := mx_fNe (a := n4) (b := z) (by omega) (by omega) h_1
    refine lv_iinc (lv' := [(3, .int (nI (n3 + 1))), (0, .ref lb), (1, .int (nI a)), (2, .int (nI z)), (4, .int (nI n4))]) (v := nI (n3 + 1)) (k := 3) hx hb d_Lab_find_69 hl rfl (mx_inc n3) (by decide) rfl (fun ls hl => ?_)
    refine lv_goto (tgt := 2) hx hb d_Lab_find_72 (by decide) ?_
    exact kk2 (n3 + 1) _ _ _ (by omega) (by first | assumption | omega | exact mx_ch_0) (lv_sub hl [1, 2, 3, 0] rfl) hP hD hS
  · have h_1n := mx_fEq (a := n4) (b := z) (by omega) (by omega) h_1
    refine lv_iload_n hx hb d_Lab_find_67 rfl (lv_at hl 3 rfl) ?_
    exact mx_ri F hr hlk rfl hP hD hS () [0, 1, 2, 3] rfl (by decide) trivial (by decide) (by decide) d_Lab_find_68
set_option maxHeartbeats 4000000 in
set_option maxRecDepth 100000 in
theorem s_Lab_find_b13 {p : Program} {l : Launch} {e : Env} {R : Room} {s : State} {m : MethodId} {args : Array Value} {below : List Frame} {meth : Method} {c : Code} {K : mx_K} {A : Nat → Prop} (lb : Nat) (a : Nat) (z : Nat) (t : Nat) (la : Nat) (lz : Nat) (lv : Nat) (lr : Nat) (fs : Nat → Int32) (fz : Nat → Int32) (f : Nat → Int32) (cn : Nat) (hcn : cn ≤ 40) (hlab : mx_lab fs fz cn) (haz : a + z ≤ 1600) (F : mx_F p s m args c b_Lab_find 5 "LittleMix$Labels" K A) (hr : meth.sig.returnType = some .int) (hlk : meth.locks = false) (hRf : 1 ≤ R.frames) (hRl : 20 ≤ R.locals)
    (N2 : Nat)
    (kk2 : ∀ (n3 : Nat) (ls : Array Slot) (H : Heap) (locs : List Loc), cn - n3 < N2 → (n3 ≤ cn) → lv_has ls 5 [(0, .ref lb), (1, .int (nI a)), (2, .int (nI z)), (3, .int (nI n3))] → va_P K.1 mx_cl [(lb, .inr (5, [.int (nI cn), .ref t, .ref la, .ref lz, .ref lv, .ref lr])), (la, .inl (K.2.1.2.1, 40, .inl fs)), (lz, .inl (K.2.1.2.1, 40, .inl fz)), (t, .inl (K.2.1.2.2.1, 1600, .inl f))] H → va_D A [(lb, .inr (5, [.int (nI cn), .ref t, .ref la, .ref lz, .ref lv, .ref lr])), (la, .inl (K.2.1.2.1, 40, .inl fs)), (lz, .inl (K.2.1.2.1, 40, .inl fz)), (t, .inl (K.2.1.2.2.1, 1600, .inl f))] → va_S A s.heap H locs → W p l e R s m args below meth c H locs 0 0 (MQ below (va_Qi (fun (r : Int32) (u : Unit) => True) (mx_B K A (fun u : Unit => [(lb, .inr (5, [.int (nI cn), .ref t, .ref la, .ref lz, .ref lv, .ref lr])), (la, .inl (K.2.1.2.1, 40, .inl fs)), (lz, .inl (K.2.1.2.1, 40, .inl fz)), (t, .inl (K.2.1.2.2.1, 1600, .inl f))])) A) args s 0 0 A) (F0 m 2 ls []))
    : ∀ n : Nat, ∀ (n3 : Nat) (n4 : Nat) (ls : Array Slot) (H : Heap) (locs : List Loc), z - n4 < n → (n3 ≤ cn) → (cn - n3 < N2 + 1) → (n4 ≤ z) → (n3 < cn) → lv_has ls 5 [(0, .ref lb), (1, .int (nI a)), (2, .int (nI z)), (3, .int (nI n3)), (4, .int (nI n4))] → va_P K.1 mx_cl [(lb, .inr (5, [.int (nI cn), .ref t, .ref la, .ref lz, .ref lv, .ref lr])), (la, .inl (K.2.1.2.1, 40, .inl fs)), (lz, .inl (K.2.1.2.1, 40, .inl fz)), (t, .inl (K.2.1.2.2.1, 1600, .inl f))] H → va_D A [(lb, .inr (5, [.int (nI cn), .ref t, .ref la, .ref lz, .ref lv, .ref lr])), (la, .inl (K.2.1.2.1, 40, .inl fs)), (lz, .inl (K.2.1.2.1, 40, .inl fz)), (t, .inl (K.2.1.2.2.1, 1600, .inl f))] → va_S A s.heap H locs → W p l e R s m args below meth c H locs 0 0 (MQ below (va_Qi (fun (r : Int32) (u : Unit) => True) (mx_B K A (fun u : Unit => [(lb, .inr (5, [.int (nI cn), .ref t, .ref la, .ref lz, .ref lv, .ref lr])), (la, .inl (K.2.1.2.1, 40, .inl fs)), (lz, .inl (K.2.1.2.1, 40, .inl fz)), (t, .inl (K.2.1.2.2.1, 1600, .inl f))])) A) args s 0 0 A) (F0 m 13 ls []) := by
  obtain ⟨hx, hb, hml, hown, hT, hK, hN, hE, hA⟩ := id F
  intro n
  induction n with
  | zero =>
    intro n3 n4 ls H locs hmu hfa0 hfa1 h4 h3 hl hP hD hS
    exact absurd hmu (Nat.not_lt_zero _)
  | succ n ih =>
    intro n3 n4 ls H locs hmu hfa0 hfa1 h4 h3 hl hP hD hS
    refine lv_iload hx hb d_Lab_find_13 (lv_at hl 4 rfl) ?_
    refine lv_iload_n hx hb d_Lab_find_15 rfl (lv_at hl 2 rfl) ?_
    refine lv_icmp_ge (tgt := 61) hx hb d_Lab_find_16 (by decide) (fun h_1 => ?_) (fun h_1 => ?_)
    · have h_1n := mx_fLe (a := z) (b := n4) (by omega) (by omega) h_1
      exact s_Lab_find_b61 lb a z t la lz lv lr fs fz f cn hcn hlab haz F hr hlk hRf hRl N2 n kk2 n3 n4 _ _ _ (by first | assumption | omega | exact mx_ch_0) (by first | assumption | omega | exact mx_ch_0) (by first | assumption | omega | exact mx_ch_0) (by first | assumption | omega | exact mx_ch_0) (by first | assumption | omega | exact mx_ch_0) (lv_sub hl [0, 1, 2, 3, 4] rfl) hP hD hS
    · have h_1n := mx_fNle (a := z) (b := n4) (by omega) (by omega) h_1
      obtain ⟨sa_, sz_, hs1, hs2, hs3⟩ := hlab n3 (by omega)
      refine lv_aload_n hx hb d_Lab_find_19 rfl (lv_at hl 0 rfl) ?_
      refine va_get (D := K.1) (ci := 5) (v := .ref lz) (C := R_Lab) (T := T_Lab) (N := 6) hx hb hT in_Lab hown hK hP 0 rfl rfl 3 (by decide) (hT _ k_116) (fun _ h9 => h9) rfl d_Lab_find_20 ?_
      refine lv_iload_n hx hb d_Lab_find_23 rfl (lv_at hl 3 rfl) ?_
      refine va_iald hx hb hK hP 2 1 rfl rfl (i := nI n3) (vp_in_nI (n := n3) (N := 40) (by omega) (by decide)) d_Lab_find_24 ?_
      refine lv_topi (fun z_2 ez_2 => ?_)
      obtain rfl : z_2 = nI sz_ := ez_2.trans (by rw [nI_clamp (by omega)]; exact hs2)
      refine lv_iload_n hx hb d_Lab_find_25 rfl (lv_at hl 2 rfl) ?_
      refine lv_icmp_ne (tgt := 61) hx hb d_Lab_find_26 (by decide) (fun h_3 => ?_) (fun h_3 => ?_)
      · have h_3n := mx_fNe (a := sz_) (b := z) (by omega) (by omega) h_3
        exact s_Lab_find_b61 lb a z t la lz lv lr fs fz f cn hcn hlab haz F hr hlk hRf hRl N2 n kk2 n3 n4 _ _ _ (by first | assumption | omega | exact mx_ch_0) (by first | assumption | omega | exact mx_ch_0) (by first | assumption | omega | exact mx_ch_0) (by first | assumption | omega | exact mx_ch_0) (by first | assumption | omega | exact mx_ch_0) (lv_sub hl [0, 1, 2, 3, 4] rfl) hP hD hS
      · have h_3n := mx_fEq (a := sz_) (b := z) (by omega) (by omega) h_3
        refine lv_aload_n hx hb d_Lab_find_29 rfl (lv_at hl 0 rfl) ?_
        refine va_get (D := K.1) (ci := 5) (v := .ref t) (C := R_Lab) (T := T_Lab) (N := 6) hx hb hT in_Lab hown hK hP 0 rfl rfl 1 (by decide) (hT _ k_114) (fun _ h9 => h9) rfl d_Lab_find_30 ?_
        refine lv_aload_n hx hb d_Lab_find_33 rfl (lv_at hl 0 rfl) ?_
        refine va_get (D := K.1) (ci := 5) (v := .ref la) (C := R_Lab) (T := T_Lab) (N := 6) hx hb hT in_Lab hown hK hP 0 rfl rfl 2 (by decide) (hT _ k_115) (fun _ h9 => h9) rfl d_Lab_find_34 ?_
        refine lv_iload_n hx hb d_Lab_find_37 rfl (lv_at hl 3 rfl) ?_
        refine va_iald hx hb hK hP 1 1 rfl rfl (i := nI n3) (vp_in_nI (n := n3) (N := 40) (by omega) (by decide)) d_Lab_find_38 ?_
        refine lv_topi (fun z_4 ez_4 => ?_)
        obtain rfl : z_4 = nI sa_ := ez_4.trans (by rw [nI_clamp (by omega)]; exact hs1)
        refine lv_iload hx hb d_Lab_find_39 (lv_at hl 4 rfl) ?_
        refine lv_iadd hx hb d_Lab_find_41 ?_
        refine lv_topi (fun z_5 ez_5 => ?_)
        obtain rfl : z_5 = nI (sa_ + n4) := ez_5.trans (nI_add sa_ n4)
        refine va_cald hx hb hK hP 3 2 rfl rfl (i := nI (sa_ + n4)) (vp_in_nI (n := (sa_ + n4)) (N := 1600) (by omega) (by decide)) d_Lab_find_42 ?_
        refine lv_topi (fun z_6 ez_6 => ?_)
        refine lv_aload_n hx hb d_Lab_find_43 rfl (lv_at hl 0 rfl) ?_
        refine va_get (D := K.1) (ci := 5) (v := .ref t) (C := R_Lab) (T := T_Lab) (N := 6) hx hb hT in_Lab hown hK hP 0 rfl rfl 1 (by decide) (hT _ k_114) (fun _ h9 => h9) rfl d_Lab_find_44 ?_
        refine lv_iload_n hx hb d_Lab_find_47 rfl (lv_at hl 1 rfl) ?_
        refine lv_iload hx hb d_Lab_find_48 (lv_at hl 4 rfl) ?_
        refine lv_iadd hx hb d_Lab_find_50 ?_
        refine lv_topi (fun z_7 ez_7 => ?_)
        obtain rfl : z_7 = nI (a + n4) := ez_7.trans (nI_add a n4)
        refine va_cald hx hb hK hP 3 2 rfl rfl (i := nI (a + n4)) (vp_in_nI (n := (a + n4)) (N := 1600) (by omega) (by decide)) d_Lab_find_51 ?_
        refine lv_topi (fun z_8 ez_8 => ?_)
        refine lv_icmp_ne (tgt := 61) hx hb d_Lab_find_52 (by decide) (fun h_9 => ?_) (fun h_9 => ?_)
        · exact s_Lab_find_b61 lb a z t la lz lv lr fs fz f cn hcn hlab haz F hr hlk hRf hRl N2 n kk2 n3 n4 _ _ _ (by first | assumption | omega | exact mx_ch_0) (by first | assumption | omega | exact mx_ch_0) (by first | assumption | omega | exact mx_ch_0) (by first | assumption | omega | exact mx_ch_0) (by first | assumption | omega | exact mx_ch_0) (lv_sub hl [0, 1, 2, 3, 4] rfl) hP hD hS
        · refine lv_iinc (lv' := [(4, .int (nI (n4 + 1))), (0, .ref lb), (1, .int (nI a)), (2, .int (nI z)), (3, .int (nI n3))]) (v := nI (n4 + 1)) (k := 4) hx hb d_Lab_find_55 hl rfl (mx_inc n4) (by decide) rfl (fun ls hl => ?_)
          refine lv_goto (tgt := 13) hx hb d_Lab_find_58 (by decide) ?_
          exact ih n3 (n4 + 1) _ _ _ (by omega) (by first | assumption | omega | exact mx_ch_0) (by first | assumption | omega | exact mx_ch_0) (by first | assumption | omega | exact mx_ch_0) (by first | assumption | omega | exact mx_ch_0) (lv_sub hl [1, 2, 3, 4, 0] rfl) hP hD hS
set_option maxHeartbeats 4000000 in
set_option maxRecDepth 100000 in
theorem s_Lab_find_b2 {p : Program} {l : Launch} {e : Env} {R : Room} {s : State} {m : MethodId} {args : Array Value} {below : List Frame} {meth : Method} {c : Code} {K : mx_K} {A : Nat → Prop} (lb : Nat) (a : Nat) (z : Nat) (t : Nat) (la : Nat) (lz : Nat) (lv : Nat) (lr : Nat) (fs : Nat → Int32) (fz : Nat → Int32) (f : Nat → Int32) (cn : Nat) (hcn : cn ≤ 40) (hlab : mx_lab fs fz cn) (haz : a + z ≤ 1600) (F : mx_F p s m args c b_Lab_find 5 "LittleMix$Labels" K A) (hr : meth.sig.returnType = some .int) (hlk : meth.locks = false) (hRf : 1 ≤ R.frames) (hRl : 20 ≤ R.locals)
    : ∀ n : Nat, ∀ (n3 : Nat) (ls : Array Slot) (H : Heap) (locs : List Loc), cn - n3 < n → (n3 ≤ cn) → lv_has ls 5 [(0, .ref lb), (1, .int (nI a)), (2, .int (nI z)), (3, .int (nI n3))] → va_P K.1 mx_cl [(lb, .inr (5, [.int (nI cn), .ref t, .ref la, .ref lz, .ref lv, .ref lr])), (la, .inl (K.2.1.2.1, 40, .inl fs)), (lz, .inl (K.2.1.2.1, 40, .inl fz)), (t, .inl (K.2.1.2.2.1, 1600, .inl f))] H → va_D A [(lb, .inr (5, [.int (nI cn), .ref t, .ref la, .ref lz, .ref lv, .ref lr])), (la, .inl (K.2.1.2.1, 40, .inl fs)), (lz, .inl (K.2.1.2.1, 40, .inl fz)), (t, .inl (K.2.1.2.2.1, 1600, .inl f))] → va_S A s.heap H locs → W p l e R s m args below meth c H locs 0 0 (MQ below (va_Qi (fun (r : Int32) (u : Unit) => True) (mx_B K A (fun u : Unit => [(lb, .inr (5, [.int (nI cn), .ref t, .ref la, .ref lz, .ref lv, .ref lr])), (la, .inl (K.2.1.2.1, 40, .inl fs)), (lz, .inl (K.2.1.2.1, 40, .inl fz)), (t, .inl (K.2.1.2.2.1, 1600, .inl f))])) A) args s 0 0 A) (F0 m 2 ls []) := by
  obtain ⟨hx, hb, hml, hown, hT, hK, hN, hE, hA⟩ := id F
  intro n
  induction n with
  | zero =>
    intro n3 ls H locs hmu h3 hl hP hD hS
    exact absurd hmu (Nat.not_lt_zero _)
  | succ n ih =>
    intro n3 ls H locs hmu h3 hl hP hD hS
    refine lv_iload_n hx hb d_Lab_find_2 rfl (lv_at hl 3 rfl) ?_
    refine lv_aload_n hx hb d_Lab_find_3 rfl (lv_at hl 0 rfl) ?_
    refine va_get (D := K.1) (ci := 5) (v := .int (nI cn)) (C := R_Lab) (T := T_Lab) (N := 6) hx hb hT in_Lab hown hK hP 0 rfl rfl 0 (by decide) (hT _ k_119) (fun _ h9 => h9) rfl d_Lab_find_4 ?_
    refine lv_icmp_ge (tgt := 75) hx hb d_Lab_find_7 (by decide) (fun h_1 => ?_) (fun h_1 => ?_)
    · have h_1n := mx_fLe (a := cn) (b := n3) (by omega) (by omega) h_1
      refine lv_iconst (v := (-1)) hx hb d_Lab_find_75 (by decide) ?_
      exact mx_ri F hr hlk rfl hP hD hS () [0, 1, 2, 3] rfl (by decide) trivial (by decide) (by decide) d_Lab_find_76
    · have h_1n := mx_fNle (a := cn) (b := n3) (by omega) (by omega) h_1
      refine lv_iconst (v := 0) hx hb d_Lab_find_10 (by decide) ?_
      refine lv_istore (lv' := [(4, .int 0), (0, .ref lb), (1, .int (nI a)), (2, .int (nI z)), (3, .int (nI n3))]) hx hb d_Lab_find_11 hl (by decide) rfl (fun ls hl => ?_)
      exact s_Lab_find_b13 lb a z t la lz lv lr fs fz f cn hcn hlab haz F hr hlk hRf hRl n ih (z - 0 + 1) n3 0 _ _ _ (by omega) (by first | assumption | omega | exact mx_ch_0) (by first | assumption | omega | exact mx_ch_0) (by first | assumption | omega | exact mx_ch_0) (by first | assumption | omega | exact mx_ch_0) (lv_sub hl [1, 2, 3, 4, 0] rfl) hP hD hS
set_option maxHeartbeats 4000000 in
set_option maxRecDepth 100000 in
theorem s_Lab_find (l : Launch) (K : mx_K) (lb : Nat) (a : Nat) (z : Nat) (t : Nat) (la : Nat) (lz : Nat) (lv : Nat) (lr : Nat) (fs : Nat → Int32) (fz : Nat → Int32) (f : Nat → Int32) (cn : Nat) (sz : Nat) (hcn : cn ≤ 40) (hlab : mx_lab fs fz cn) (haz : a + z ≤ 1600) : mx_I l y_Lab_find b_Lab_find 5 .int { frames := 1, cells := 0, slots := 0, locals := 20 } K [.ref lb, .int (nI a), .int (nI z)] [(lb, .inr (5, [.int (nI cn), .ref t, .ref la, .ref lz, .ref lv, .ref lr])), (la, .inl (K.2.1.2.1, 40, .inl fs)), (lz, .inl (K.2.1.2.1, 40, .inl fz)), (t, .inl (K.2.1.2.2.1, 1600, .inl f))] sz (fun (r : Int32) (u : Unit) => True) (fun u : Unit => [(lb, .inr (5, [.int (nI cn), .ref t, .ref la, .ref lz, .ref lv, .ref lr])), (la, .inl (K.2.1.2.1, 40, .inl fs)), (lz, .inl (K.2.1.2.1, 40, .inl fz)), (t, .inl (K.2.1.2.2.1, 1600, .inl f))]) := by
  refine mx_of (by decide) (Nat.le_of_ble_eq_true rfl) ?_
  intro p e s m below meth c A ls H locs hAe F hr hlk hin hsz hP hD hS hl
  rw [hAe]
  have hl : lv_has ls 5 [(0, .ref lb), (1, .int (nI a)), (2, .int (nI z))] := hl
  obtain ⟨hx, hb, hml, hown, hT, hK, hN, hE, hA⟩ := id F
  refine lv_iconst (v := 0) hx hb d_Lab_find_0 (by decide) ?_
  refine lv_istore_n (lv' := [(3, .int 0), (0, .ref lb), (1, .int (nI a)), (2, .int (nI z))]) hx hb d_Lab_find_1 rfl hl (by decide) rfl (fun ls hl => ?_)
  exact s_Lab_find_b2 lb a z t la lz lv lr fs fz f cn hcn hlab haz F hr hlk (by decide) (by decide) (cn - 0 + 1) 0 _ _ _ (by omega) (by first | assumption | omega | exact mx_ch_0) (lv_sub hl [1, 2, 3, 0] rfl) hP hD hS
set_option maxHeartbeats 4000000 in
set_option maxRecDepth 100000 in
theorem s_Lab_isRegister (l : Launch) (K : mx_K) (lb : Nat) (k : Int32) (t : Nat) (la : Nat) (lz : Nat) (lv : Nat) (lr : Nat) (fr : Nat → Int32) (cn : Nat) (sz : Nat) (hcn : cn ≤ 40) : mx_I l y_Lab_isRegister b_Lab_isRegister 2 .boolean { frames := 1, cells := 0, slots := 0, locals := 20 } K [.ref lb, .int k] [(lb, .inr (5, [.int (nI cn), .ref t, .ref la, .ref lz, .ref lv, .ref lr])), (lr, .inl (K.2.1.2.2.2, 40, .inl fr))] sz (fun (r : Int32) (u : Unit) => r = 0 ∨ r = 1) (fun u : Unit => [(lb, .inr (5, [.int (nI cn), .ref t, .ref la, .ref lz, .ref lv, .ref lr])), (lr, .inl (K.2.1.2.2.2, 40, .inl fr))]) := by
  refine mx_of (by decide) (Nat.le_of_ble_eq_true rfl) ?_
  intro p e s m below meth c A ls H locs hAe F hr hlk hin hsz hP hD hS hl
  rw [hAe]
  have hl : lv_has ls 2 [(0, .ref lb), (1, .int k)] := hl
  obtain ⟨hx, hb, hml, hown, hT, hK, hN, hE, hA⟩ := id F
  refine lv_iload_n hx hb d_Lab_isRegister_0 rfl (lv_at hl 1 rfl) ?_
  refine lv_if_lt (tgt := 25) hx hb d_Lab_isRegister_1 (by decide) (fun h1 => ?_) (fun h1 => ?_)
  · refine lv_iconst (v := 0) hx hb d_Lab_isRegister_25 (by decide) ?_
    exact mx_ri F hr hlk (by decide) hP hD hS () [0, 1] rfl (by decide) (Or.inl rfl) (by decide) (by decide) d_Lab_isRegister_26
  · refine lv_iload_n hx hb d_Lab_isRegister_4 rfl (lv_at hl 1 rfl) ?_
    refine lv_aload_n hx hb d_Lab_isRegister_5 rfl (lv_at hl 0 rfl) ?_
    refine va_get (D := K.1) (ci := 5) (v := .int (nI cn)) (C := R_Lab) (T := T_Lab) (N := 6) hx hb hT in_Lab hown hK hP 0 rfl rfl 0 (by decide) (hT _ k_119) (fun _ h9 => h9) rfl d_Lab_isRegister_6 ?_
    refine lv_icmp_ge (tgt := 25) hx hb d_Lab_isRegister_9 (by decide) (fun h9 => ?_) (fun h9 => ?_)
    · refine lv_iconst (v := 0) hx hb d_Lab_isRegister_25 (by decide) ?_
      exact mx_ri F hr hlk (by decide) hP hD hS () [0, 1] rfl (by decide) (Or.inl rfl) (by decide) (by decide) d_Lab_isRegister_26
    · refine lv_aload_n hx hb d_Lab_isRegister_12 rfl (lv_at hl 0 rfl) ?_
      refine va_get (D := K.1) (ci := 5) (v := .ref lr) (C := R_Lab) (T := T_Lab) (N := 6) hx hb hT in_Lab hown hK hP 0 rfl rfl 5 (by decide) (hT _ k_118) (fun _ h9 => h9) rfl d_Lab_isRegister_13 ?_
      refine lv_iload_n hx hb d_Lab_isRegister_16 rfl (lv_at hl 1 rfl) ?_
      refine va_zald hx hb hK hP 1 3 rfl rfl (i := k) (mx_in2 h1 h9 hcn (by decide)) d_Lab_isRegister_17 ?_
      refine lv_topi (fun z_1 ez_1 => ?_)
      refine lv_if_eq (tgt := 25) hx hb d_Lab_isRegister_18 (by decide) (fun h_2 => ?_) (fun h_2 => ?_)
      · refine lv_iconst (v := 0) hx hb d_Lab_isRegister_25 (by decide) ?_
        exact mx_ri F hr hlk (by decide) hP hD hS () [0, 1] rfl (by decide) (Or.inl rfl) (by decide) (by decide) d_Lab_isRegister_26
      · refine lv_iconst (v := 1) hx hb d_Lab_isRegister_21 (by decide) ?_
        refine lv_goto (tgt := 26) hx hb d_Lab_isRegister_22 (by decide) ?_
        exact mx_ri F hr hlk (by decide) hP hD hS () [0, 1] rfl (by decide) (Or.inr rfl) (by decide) (by decide) d_Lab_isRegister_26
set_option maxHeartbeats 4000000 in
set_option maxRecDepth 100000 in
theorem s_Lab_valueOf (l : Launch) (K : mx_K) (lb : Nat) (k : Int32) (t : Nat) (la : Nat) (lz : Nat) (lv : Nat) (lr : Nat) (fv : Nat → Int64) (cn : Nat) (sz : Nat) (hcn : cn ≤ 40) : mx_L l y_Lab_valueOf b_Lab_valueOf 2 { frames := 1, cells := 0, slots := 0, locals := 20 } K [.ref lb, .int k] [(lb, .inr (5, [.int (nI cn), .ref t, .ref la, .ref lz, .ref lv, .ref lr])), (lv, .inl (K.2.1.1, 40, .inr (.inl fv)))] sz (fun (r : Int64) (u : Unit) => True) (fun u : Unit => [(lb, .inr (5, [.int (nI cn), .ref t, .ref la, .ref lz, .ref lv, .ref lr])), (lv, .inl (K.2.1.1, 40, .inr (.inl fv)))]) := by
  refine mx_of (by decide) (Nat.le_of_ble_eq_true rfl) ?_
  intro p e s m below meth c A ls H locs hAe F hr hlk hin hsz hP hD hS hl
  rw [hAe]
  have hl : lv_has ls 2 [(0, .ref lb), (1, .int k)] := hl
  obtain ⟨hx, hb, hml, hown, hT, hK, hN, hE, hA⟩ := id F
  refine lv_iload_n hx hb d_Lab_valueOf_0 rfl (lv_at hl 1 rfl) ?_
  refine lv_if_lt (tgt := 21) hx hb d_Lab_valueOf_1 (by decide) (fun h1 => ?_) (fun h1 => ?_)
  · refine lv_lconst (v := 0) hx hb d_Lab_valueOf_21 (by decide) ?_
    exact mx_rl F hr hlk hP hD hS () [0, 1] rfl (by decide) trivial (by decide) (by decide) d_Lab_valueOf_22
  · refine lv_iload_n hx hb d_Lab_valueOf_4 rfl (lv_at hl 1 rfl) ?_
    refine lv_aload_n hx hb d_Lab_valueOf_5 rfl (lv_at hl 0 rfl) ?_
    refine va_get (D := K.1) (ci := 5) (v := .int (nI cn)) (C := R_Lab) (T := T_Lab) (N := 6) hx hb hT in_Lab hown hK hP 0 rfl rfl 0 (by decide) (hT _ k_119) (fun _ h9 => h9) rfl d_Lab_valueOf_6 ?_
    refine lv_icmp_ge (tgt := 21) hx hb d_Lab_valueOf_9 (by decide) (fun h9 => ?_) (fun h9 => ?_)
    · refine lv_lconst (v := 0) hx hb d_Lab_valueOf_21 (by decide) ?_
      exact mx_rl F hr hlk hP hD hS () [0, 1] rfl (by decide) trivial (by decide) (by decide) d_Lab_valueOf_22
    · refine lv_aload_n hx hb d_Lab_valueOf_12 rfl (lv_at hl 0 rfl) ?_
      refine va_get (D := K.1) (ci := 5) (v := .ref lv) (C := R_Lab) (T := T_Lab) (N := 6) hx hb hT in_Lab hown hK hP 0 rfl rfl 4 (by decide) (hT _ k_117) (fun _ h9 => h9) rfl d_Lab_valueOf_13 ?_
      refine lv_iload_n hx hb d_Lab_valueOf_16 rfl (lv_at hl 1 rfl) ?_
      refine va_lald hx hb hK hP 1 0 rfl rfl (i := k) (mx_in2 h1 h9 hcn (by decide)) d_Lab_valueOf_17 ?_
      refine lv_topl (fun z_1 ez_1 => ?_)
      refine lv_goto (tgt := 22) hx hb d_Lab_valueOf_18 (by decide) ?_
      exact mx_rl F hr hlk hP hD hS () [0, 1] rfl (by decide) trivial (by decide) (by decide) d_Lab_valueOf_22
set_option maxHeartbeats 4000000 in
set_option maxRecDepth 100000 in
theorem s_Lab_add (l : Launch) (K : mx_K) (lb : Nat) (a : Nat) (z : Nat) (ir : Int32) (v : Int64) (t : Nat) (la : Nat) (lz : Nat) (lv : Nat) (lr : Nat) (fs : Nat → Int32) (fz : Nat → Int32) (fv : Nat → Int64) (fr : Nat → Int32) (f : Nat → Int32) (cn : Nat) (sz : Nat) (hcn : cn ≤ 40) (hlab : mx_lab fs fz cn) (haz : a + z ≤ 1600) : mx_I l y_Lab_add b_Lab_add 6 .boolean { frames := 6, cells := 0, slots := 0, locals := 134 } K [.ref lb, .int (nI a), .int (nI z), .int ir, .long v] [(lb, .inr (5, [.int (nI cn), .ref t, .ref la, .ref lz, .ref lv, .ref lr])), (la, .inl (K.2.1.2.1, 40, .inl fs)), (lz, .inl (K.2.1.2.1, 40, .inl fz)), (lv, .inl (K.2.1.1, 40, .inr (.inl fv))), (lr, .inl (K.2.1.2.2.2, 40, .inl fr)), (t, .inl (K.2.1.2.2.1, 1600, .inl f))] sz (fun (r : Int32) (u : va_W) => (r = 0 ∨ r = 1) ∧ (∃ (cn2 : Nat) (fs2 : Nat → Int32) (fz2 : Nat → Int32) (fv2 : Nat → Int64) (fr2 : Nat → Int32), (cn2 ≤ 40) ∧ (mx_lab fs2 fz2 cn2) ∧ u = [(lb, .inr (5, [.int (nI cn2), .ref t, .ref la, .ref lz, .ref lv, .ref lr])), (la, .inl (K.2.1.2.1, 40, .inl fs2)), (lz, .inl (K.2.1.2.1, 40, .inl fz2)), (lv, .inl (K.2.1.1, 40, .inr (.inl fv2))), (lr, .inl (K.2.1.2.2.2, 40, .inl fr2)), (t, .inl (K.2.1.2.2.1, 1600, .inl f))])) (fun u : va_W => u) := by
  refine mx_of (by decide) (Nat.le_of_ble_eq_true rfl) ?_
  intro p e s m below meth c A ls H locs hAe F hr hlk hin hsz hP hD hS hl
  rw [hAe]
  have hl : lv_has ls 6 [(0, .ref lb), (1, .int (nI a)), (2, .int (nI z)), (3, .int ir), (4, .long v)] := hl
  obtain ⟨hx, hb, hml, hown, hT, hK, hN, hE, hA⟩ := id F
  refine lv_aload_n hx hb d_Lab_add_0 rfl (lv_at hl 0 rfl) ?_
  refine va_get (D := K.1) (ci := 5) (v := .int (nI cn)) (C := R_Lab) (T := T_Lab) (N := 6) hx hb hT in_Lab hown hK hP 0 rfl rfl 0 (by decide) (hT _ k_119) (fun _ h9 => h9) rfl d_Lab_add_1 ?_
  refine lv_bipush (v := 40) hx hb d_Lab_add_4 (by decide) ?_
  refine lv_icmp_eq (tgt := 32) hx hb d_Lab_add_6 (by decide) (fun h_1 => ?_) (fun h_1 => ?_)
  · have h_1n := mx_fEq (a := cn) (b := 40) (by omega) (by omega) h_1
    refine lv_iconst (v := 0) hx hb d_Lab_add_32 (by decide) ?_
    exact mx_ri F hr hlk (by decide) hP hD hS [(lb, .inr (5, [.int (nI cn), .ref t, .ref la, .ref lz, .ref lv, .ref lr])), (la, .inl (K.2.1.2.1, 40, .inl fs)), (lz, .inl (K.2.1.2.1, 40, .inl fz)), (lv, .inl (K.2.1.1, 40, .inr (.inl fv))), (lr, .inl (K.2.1.2.2.2, 40, .inl fr)), (t, .inl (K.2.1.2.2.1, 1600, .inl f))] [0, 1, 2, 3, 4, 5] rfl (by decide) ⟨(Or.inl rfl), ⟨cn, fs, fz, fv, fr, (by first | assumption | omega | exact mx_ch_0), (by first | assumption | omega | exact mx_ch_0), rfl⟩⟩ (by decide) (by decide) d_Lab_add_33
  · have h_1n := mx_fNe (a := cn) (b := 40) (by omega) (by omega) h_1
    refine lv_aload_n hx hb d_Lab_add_9 rfl (lv_at hl 0 rfl) ?_
    refine lv_iload_n hx hb d_Lab_add_10 rfl (lv_at hl 1 rfl) ?_
    refine lv_iload_n hx hb d_Lab_add_11 rfl (lv_at hl 2 rfl) ?_
    refine mx_ci (wr := [(lv, .inl (K.2.1.1, 40, .inr (.inl fv))), (lr, .inl (K.2.1.2.2.2, 40, .inl fr))]) F (mx_runV (As := [.int (nI a), .int (nI z)]) (rest := []) (n := 2) F (s_Lab_find l K lb a z t la lz lv lr fs fz f cn H.size (by first | assumption | omega | exact mx_ch_0) (by first | assumption | omega | exact mx_ch_0) (by first | assumption | omega | exact mx_ch_0)) k_554 (Or.inl k_629) k_552 k_553 k_6 p_Lab_find rfl rfl hP hD hS [0, 1, 2, 5] rfl (by decide) (va_recv (q := (R_Lab, T_Lab, 6)) (ci := 5) (q0 := 0) hK hP rfl rfl) rfl hl.1 rfl (Nat.le_of_ble_eq_true rfl) ⟨by decide, by decide⟩ ⟨by decide, by decide⟩ d_Lab_add_12) hP hD hS [0, 1, 2, 5] [3, 4] rfl rfl (by decide) (by decide) (fun r_3 _ H locs hq_2 hP hD hS => ?_)
    have hP : va_P K.1 mx_cl [(lv, .inl (K.2.1.1, 40, .inr (.inl fv))), (lr, .inl (K.2.1.2.2.2, 40, .inl fr)), (lb, .inr (5, [.int (nI cn), .ref t, .ref la, .ref lz, .ref lv, .ref lr])), (la, .inl (K.2.1.2.1, 40, .inl fs)), (lz, .inl (K.2.1.2.1, 40, .inl fz)), (t, .inl (K.2.1.2.2.1, 1600, .inl f))] H := hP
    have hD : va_D A [(lv, .inl (K.2.1.1, 40, .inr (.inl fv))), (lr, .inl (K.2.1.2.2.2, 40, .inl fr)), (lb, .inr (5, [.int (nI cn), .ref t, .ref la, .ref lz, .ref lv, .ref lr])), (la, .inl (K.2.1.2.1, 40, .inl fs)), (lz, .inl (K.2.1.2.1, 40, .inl fz)), (t, .inl (K.2.1.2.2.1, 1600, .inl f))] := hD
    refine W.cs (cells' := 0) (slots' := 0) rfl rfl ?_
    refine lv_iconst (v := (-1)) hx hb d_Lab_add_15 (by decide) ?_
    refine lv_icmp_ne (tgt := 32) hx hb d_Lab_add_16 (by decide) (fun h_4 => ?_) (fun h_4 => ?_)
    · refine lv_iconst (v := 0) hx hb d_Lab_add_32 (by decide) ?_
      exact mx_ri F hr hlk (by decide) hP hD hS [(lb, .inr (5, [.int (nI cn), .ref t, .ref la, .ref lz, .ref lv, .ref lr])), (la, .inl (K.2.1.2.1, 40, .inl fs)), (lz, .inl (K.2.1.2.1, 40, .inl fz)), (lv, .inl (K.2.1.1, 40, .inr (.inl fv))), (lr, .inl (K.2.1.2.2.2, 40, .inl fr)), (t, .inl (K.2.1.2.2.1, 1600, .inl f))] [2, 3, 4, 0, 1, 5] rfl (by decide) ⟨(Or.inl rfl), ⟨cn, fs, fz, fv, fr, (by first | assumption | omega | exact mx_ch_0), (by first | assumption | omega | exact mx_ch_0), rfl⟩⟩ (by decide) (by decide) d_Lab_add_33
    · refine lv_aload_n hx hb d_Lab_add_19 rfl (lv_at hl 0 rfl) ?_
      refine va_get (D := K.1) (ci := 5) (v := .ref t) (C := R_Lab) (T := T_Lab) (N := 6) hx hb hT in_Lab hown hK hP 2 rfl rfl 1 (by decide) (hT _ k_114) (fun _ h9 => h9) rfl d_Lab_add_20 ?_
      refine lv_iload_n hx hb d_Lab_add_23 rfl (lv_at hl 1 rfl) ?_
      refine lv_iload_n hx hb d_Lab_add_24 rfl (lv_at hl 2 rfl) ?_
      refine mx_ci (wr := [(lv, .inl (K.2.1.1, 40, .inr (.inl fv))), (lr, .inl (K.2.1.2.2.2, 40, .inl fr)), (lb, .inr (5, [.int (nI cn), .ref t, .ref la, .ref lz, .ref lv, .ref lr])), (la, .inl (K.2.1.2.1, 40, .inl fs)), (lz, .inl (K.2.1.2.1, 40, .inl fz))]) F (mx_runS (As := [.ref t, .int (nI a), .int (nI z)]) (rest := []) (n := 3) F (s_Spe_named l K t a z f H.size (by first | assumption | omega | exact mx_ch_0)) k_488 (Or.inl k_630) k_487 k_16 p_LittleMix_Specials_named rfl rfl hP hD hS [5] rfl (by decide)  rfl hl.1 rfl (Nat.le_of_ble_eq_true rfl) ⟨by decide, by decide⟩ ⟨by decide, by decide⟩ d_Lab_add_25) hP hD hS [5] [0, 1, 2, 3, 4] rfl rfl (by decide) (by decide) (fun r_6 _ H locs hq_5 hP hD hS => ?_)
      have hP : va_P K.1 mx_cl [(lv, .inl (K.2.1.1, 40, .inr (.inl fv))), (lr, .inl (K.2.1.2.2.2, 40, .inl fr)), (lb, .inr (5, [.int (nI cn), .ref t, .ref la, .ref lz, .ref lv, .ref lr])), (la, .inl (K.2.1.2.1, 40, .inl fs)), (lz, .inl (K.2.1.2.1, 40, .inl fz)), (t, .inl (K.2.1.2.2.1, 1600, .inl f))] H := hP
      have hD : va_D A [(lv, .inl (K.2.1.1, 40, .inr (.inl fv))), (lr, .inl (K.2.1.2.2.2, 40, .inl fr)), (lb, .inr (5, [.int (nI cn), .ref t, .ref la, .ref lz, .ref lv, .ref lr])), (la, .inl (K.2.1.2.1, 40, .inl fs)), (lz, .inl (K.2.1.2.1, 40, .inl fz)), (t, .inl (K.2.1.2.2.1, 1600, .inl f))] := hD
      refine W.cs (cells' := 0) (slots' := 0) rfl rfl ?_
      refine lv_iconst (v := (-1)) hx hb d_Lab_add_28 (by decide) ?_
      refine lv_icmp_eq (tgt := 34) hx hb d_Lab_add_29 (by decide) (fun h_7 => ?_) (fun h_7 => ?_)
      · refine lv_aload_n hx hb d_Lab_add_34 rfl (lv_at hl 0 rfl) ?_
        refine va_get (D := K.1) (ci := 5) (v := .ref la) (C := R_Lab) (T := T_Lab) (N := 6) hx hb hT in_Lab hown hK hP 2 rfl rfl 2 (by decide) (hT _ k_115) (fun _ h9 => h9) rfl d_Lab_add_35 ?_
        refine lv_aload_n hx hb d_Lab_add_38 rfl (lv_at hl 0 rfl) ?_
        refine va_get (D := K.1) (ci := 5) (v := .int (nI cn)) (C := R_Lab) (T := T_Lab) (N := 6) hx hb hT in_Lab hown hK hP 2 rfl rfl 0 (by decide) (hT _ k_119) (fun _ h9 => h9) rfl d_Lab_add_39 ?_
        refine lv_iload_n hx hb d_Lab_add_42 rfl (lv_at hl 1 rfl) ?_
        refine va_iast hx hb hK hP hD hS 3 1 rfl rfl (i := nI cn) (x := nI a) (vp_in_nI (n := cn) (N := 40) (by omega) (by decide)) d_Lab_add_43 (fun H locs hP hD hS => ?_)
        have hP : va_P K.1 mx_cl [(lv, .inl (K.2.1.1, 40, .inr (.inl fv))), (lr, .inl (K.2.1.2.2.2, 40, .inl fr)), (lb, .inr (5, [.int (nI cn), .ref t, .ref la, .ref lz, .ref lv, .ref lr])), (la, .inl (K.2.1.2.1, 40, .inl (upd fs (nI cn).toNatClampNeg (nI a)))), (lz, .inl (K.2.1.2.1, 40, .inl fz)), (t, .inl (K.2.1.2.2.1, 1600, .inl f))] H := hP
        have hD : va_D A [(lv, .inl (K.2.1.1, 40, .inr (.inl fv))), (lr, .inl (K.2.1.2.2.2, 40, .inl fr)), (lb, .inr (5, [.int (nI cn), .ref t, .ref la, .ref lz, .ref lv, .ref lr])), (la, .inl (K.2.1.2.1, 40, .inl (upd fs (nI cn).toNatClampNeg (nI a)))), (lz, .inl (K.2.1.2.1, 40, .inl fz)), (t, .inl (K.2.1.2.2.1, 1600, .inl f))] := hD
        generalize ef_8 : upd fs (nI cn).toNatClampNeg (nI a) = f_8 at hP hD
        refine lv_aload_n hx hb d_Lab_add_44 rfl (lv_at hl 0 rfl) ?_
        refine va_get (D := K.1) (ci := 5) (v := .ref lz) (C := R_Lab) (T := T_Lab) (N := 6) hx hb hT in_Lab hown hK hP 2 rfl rfl 3 (by decide) (hT _ k_116) (fun _ h9 => h9) rfl d_Lab_add_45 ?_
        refine lv_aload_n hx hb d_Lab_add_48 rfl (lv_at hl 0 rfl) ?_
        refine va_get (D := K.1) (ci := 5) (v := .int (nI cn)) (C := R_Lab) (T := T_Lab) (N := 6) hx hb hT in_Lab hown hK hP 2 rfl rfl 0 (by decide) (hT _ k_119) (fun _ h9 => h9) rfl d_Lab_add_49 ?_
        refine lv_iload_n hx hb d_Lab_add_52 rfl (lv_at hl 2 rfl) ?_
        refine va_iast hx hb hK hP hD hS 4 1 rfl rfl (i := nI cn) (x := nI z) (vp_in_nI (n := cn) (N := 40) (by omega) (by decide)) d_Lab_add_53 (fun H locs hP hD hS => ?_)
        have hP : va_P K.1 mx_cl [(lv, .inl (K.2.1.1, 40, .inr (.inl fv))), (lr, .inl (K.2.1.2.2.2, 40, .inl fr)), (lb, .inr (5, [.int (nI cn), .ref t, .ref la, .ref lz, .ref lv, .ref lr])), (la, .inl (K.2.1.2.1, 40, .inl f_8)), (lz, .inl (K.2.1.2.1, 40, .inl (upd fz (nI cn).toNatClampNeg (nI z)))), (t, .inl (K.2.1.2.2.1, 1600, .inl f))] H := hP
        have hD : va_D A [(lv, .inl (K.2.1.1, 40, .inr (.inl fv))), (lr, .inl (K.2.1.2.2.2, 40, .inl fr)), (lb, .inr (5, [.int (nI cn), .ref t, .ref la, .ref lz, .ref lv, .ref lr])), (la, .inl (K.2.1.2.1, 40, .inl f_8)), (lz, .inl (K.2.1.2.1, 40, .inl (upd fz (nI cn).toNatClampNeg (nI z)))), (t, .inl (K.2.1.2.2.1, 1600, .inl f))] := hD
        generalize ef_9 : upd fz (nI cn).toNatClampNeg (nI z) = f_9 at hP hD
        refine lv_aload_n hx hb d_Lab_add_54 rfl (lv_at hl 0 rfl) ?_
        refine va_get (D := K.1) (ci := 5) (v := .ref lv) (C := R_Lab) (T := T_Lab) (N := 6) hx hb hT in_Lab hown hK hP 2 rfl rfl 4 (by decide) (hT _ k_117) (fun _ h9 => h9) rfl d_Lab_add_55 ?_
        refine lv_aload_n hx hb d_Lab_add_58 rfl (lv_at hl 0 rfl) ?_
        refine va_get (D := K.1) (ci := 5) (v := .int (nI cn)) (C := R_Lab) (T := T_Lab) (N := 6) hx hb hT in_Lab hown hK hP 2 rfl rfl 0 (by decide) (hT _ k_119) (fun _ h9 => h9) rfl d_Lab_add_59 ?_
        refine lv_lload hx hb d_Lab_add_62 (lv_at hl 4 rfl) ?_
        refine va_last hx hb hK hP hD hS 0 0 rfl rfl (i := nI cn) (x := v) (vp_in_nI (n := cn) (N := 40) (by omega) (by decide)) d_Lab_add_64 (fun H locs hP hD hS => ?_)
        have hP : va_P K.1 mx_cl [(lv, .inl (K.2.1.1, 40, .inr (.inl (vp_updL fv (nI cn).toNatClampNeg v)))), (lr, .inl (K.2.1.2.2.2, 40, .inl fr)), (lb, .inr (5, [.int (nI cn), .ref t, .ref la, .ref lz, .ref lv, .ref lr])), (la, .inl (K.2.1.2.1, 40, .inl f_8)), (lz, .inl (K.2.1.2.1, 40, .inl f_9)), (t, .inl (K.2.1.2.2.1, 1600, .inl f))] H := hP
        have hD : va_D A [(lv, .inl (K.2.1.1, 40, .inr (.inl (vp_updL fv (nI cn).toNatClampNeg v)))), (lr, .inl (K.2.1.2.2.2, 40, .inl fr)), (lb, .inr (5, [.int (nI cn), .ref t, .ref la, .ref lz, .ref lv, .ref lr])), (la, .inl (K.2.1.2.1, 40, .inl f_8)), (lz, .inl (K.2.1.2.1, 40, .inl f_9)), (t, .inl (K.2.1.2.2.1, 1600, .inl f))] := hD
        generalize ef_10 : vp_updL fv (nI cn).toNatClampNeg v = f_10 at hP hD
        refine lv_aload_n hx hb d_Lab_add_65 rfl (lv_at hl 0 rfl) ?_
        refine va_get (D := K.1) (ci := 5) (v := .ref lr) (C := R_Lab) (T := T_Lab) (N := 6) hx hb hT in_Lab hown hK hP 2 rfl rfl 5 (by decide) (hT _ k_118) (fun _ h9 => h9) rfl d_Lab_add_66 ?_
        refine lv_aload_n hx hb d_Lab_add_69 rfl (lv_at hl 0 rfl) ?_
        refine va_get (D := K.1) (ci := 5) (v := .int (nI cn)) (C := R_Lab) (T := T_Lab) (N := 6) hx hb hT in_Lab hown hK hP 2 rfl rfl 0 (by decide) (hT _ k_119) (fun _ h9 => h9) rfl d_Lab_add_70 ?_
        refine lv_iload_n hx hb d_Lab_add_73 rfl (lv_at hl 3 rfl) ?_
        refine va_zast hx hb hK hP hD hS 1 3 rfl rfl (i := nI cn) (x := ir) (vp_in_nI (n := cn) (N := 40) (by omega) (by decide)) d_Lab_add_74 (fun H locs hP hD hS => ?_)
        have hP : va_P K.1 mx_cl [(lv, .inl (K.2.1.1, 40, .inr (.inl f_10))), (lr, .inl (K.2.1.2.2.2, 40, .inl (upd fr (nI cn).toNatClampNeg (vp_nar .boolean ir)))), (lb, .inr (5, [.int (nI cn), .ref t, .ref la, .ref lz, .ref lv, .ref lr])), (la, .inl (K.2.1.2.1, 40, .inl f_8)), (lz, .inl (K.2.1.2.1, 40, .inl f_9)), (t, .inl (K.2.1.2.2.1, 1600, .inl f))] H := hP
        have hD : va_D A [(lv, .inl (K.2.1.1, 40, .inr (.inl f_10))), (lr, .inl (K.2.1.2.2.2, 40, .inl (upd fr (nI cn).toNatClampNeg (vp_nar .boolean ir)))), (lb, .inr (5, [.int (nI cn), .ref t, .ref la, .ref lz, .ref lv, .ref lr])), (la, .inl (K.2.1.2.1, 40, .inl f_8)), (lz, .inl (K.2.1.2.1, 40, .inl f_9)), (t, .inl (K.2.1.2.2.1, 1600, .inl f))] := hD
        generalize ef_11 : upd fr (nI cn).toNatClampNeg (vp_nar .boolean ir) = f_11 at hP hD
        refine lv_aload_n hx hb d_Lab_add_75 rfl (lv_at hl 0 rfl) ?_
        refine lv_dup hx hb d_Lab_add_76 rfl ?_
        refine va_get (D := K.1) (ci := 5) (v := .int (nI cn)) (C := R_Lab) (T := T_Lab) (N := 6) hx hb hT in_Lab hown hK hP 2 rfl rfl 0 (by decide) (hT _ k_119) (fun _ h9 => h9) rfl d_Lab_add_77 ?_
        refine lv_iconst (v := 1) hx hb d_Lab_add_80 (by decide) ?_
        refine lv_iadd hx hb d_Lab_add_81 ?_
        refine lv_topi (fun z_12 ez_12 => ?_)
        obtain rfl : z_12 = nI (cn + 1) := ez_12.trans (nI_add cn 1)
        refine va_put (D := K.1) (ci := 5) (v := .int (nI (cn + 1))) (ty := .int) (C := R_Lab) (T := T_Lab) (N := 6) hx hb hT in_Lab t_Lab t_Lab_ok n_Lab hown hK hP hD hS 2 rfl rfl 0 (by decide) (hT _ k_119) (fun _ h9 => h9) rfl (by decide +kernel) rfl rfl (Nat.le_of_ble_eq_true rfl) d_Lab_add_82 (fun H locs hP hD hS => ?_)
        have hP : va_P K.1 mx_cl [(lv, .inl (K.2.1.1, 40, .inr (.inl f_10))), (lr, .inl (K.2.1.2.2.2, 40, .inl f_11)), (lb, .inr (5, [.int (nI (cn + 1)), .ref t, .ref la, .ref lz, .ref lv, .ref lr])), (la, .inl (K.2.1.2.1, 40, .inl f_8)), (lz, .inl (K.2.1.2.1, 40, .inl f_9)), (t, .inl (K.2.1.2.2.1, 1600, .inl f))] H := hP
        have hD : va_D A [(lv, .inl (K.2.1.1, 40, .inr (.inl f_10))), (lr, .inl (K.2.1.2.2.2, 40, .inl f_11)), (lb, .inr (5, [.int (nI (cn + 1)), .ref t, .ref la, .ref lz, .ref lv, .ref lr])), (la, .inl (K.2.1.2.1, 40, .inl f_8)), (lz, .inl (K.2.1.2.1, 40, .inl f_9)), (t, .inl (K.2.1.2.2.1, 1600, .inl f))] := hD
        refine lv_iconst (v := 1) hx hb d_Lab_add_85 (by decide) ?_
        exact mx_ri F hr hlk (by decide) hP hD hS [(lb, .inr (5, [.int (nI (cn + 1)), .ref t, .ref la, .ref lz, .ref lv, .ref lr])), (la, .inl (K.2.1.2.1, 40, .inl f_8)), (lz, .inl (K.2.1.2.1, 40, .inl f_9)), (lv, .inl (K.2.1.1, 40, .inr (.inl f_10))), (lr, .inl (K.2.1.2.2.2, 40, .inl f_11)), (t, .inl (K.2.1.2.2.1, 1600, .inl f))] [2, 3, 4, 0, 1, 5] rfl (by decide) ⟨(Or.inr rfl), ⟨(cn + 1), f_8, f_9, f_10, f_11, (by first | assumption | omega | exact mx_ch_0), (mx_lab_add hlab haz (by omega) ef_8 ef_9), rfl⟩⟩ (by decide) (by decide) d_Lab_add_86
      · refine lv_iconst (v := 0) hx hb d_Lab_add_32 (by decide) ?_
        exact mx_ri F hr hlk (by decide) hP hD hS [(lb, .inr (5, [.int (nI cn), .ref t, .ref la, .ref lz, .ref lv, .ref lr])), (la, .inl (K.2.1.2.1, 40, .inl fs)), (lz, .inl (K.2.1.2.1, 40, .inl fz)), (lv, .inl (K.2.1.1, 40, .inr (.inl fv))), (lr, .inl (K.2.1.2.2.2, 40, .inl fr)), (t, .inl (K.2.1.2.2.1, 1600, .inl f))] [2, 3, 4, 0, 1, 5] rfl (by decide) ⟨(Or.inl rfl), ⟨cn, fs, fz, fv, fr, (by first | assumption | omega | exact mx_ch_0), (by first | assumption | omega | exact mx_ch_0), rfl⟩⟩ (by decide) (by decide) d_Lab_add_33
set_option maxHeartbeats 4000000 in
set_option maxRecDepth 100000 in
theorem s_Lab_tell_b2 {p : Program} {l : Launch} {e : Env} {R : Room} {s : State} {m : MethodId} {args : Array Value} {below : List Frame} {meth : Method} {c : Code} {K : mx_K} {A : Nat → Prop} (lb : Nat) (an : Nat) (t : Nat) (la : Nat) (lz : Nat) (lv : Nat) (lr : Nat) (fv : Nat → Int64) (fr : Nat → Int32) (fa : Nat → Int64) (cn : Nat) (hcn : cn ≤ 40) (F : mx_F p s m args c b_Lab_tell 3 "LittleMix$Labels" K A) (hr : meth.sig.returnType = some .int) (hlk : meth.locks = false) (hRf : 1 ≤ R.frames) (hRl : 20 ≤ R.locals)
    : ∀ n : Nat, ∀ (n2 : Nat) (f_an : Nat → Int64) (ls : Array Slot) (H : Heap) (locs : List Loc), cn - n2 < n → (n2 ≤ cn) → lv_has ls 3 [(0, .ref lb), (1, .ref an), (2, .int (nI n2))] → va_P K.1 mx_cl [(lb, .inr (5, [.int (nI cn), .ref t, .ref la, .ref lz, .ref lv, .ref lr])), (lv, .inl (K.2.1.1, 40, .inr (.inl fv))), (lr, .inl (K.2.1.2.2.2, 40, .inl fr)), (an, .inl (K.2.1.1, 40, .inr (.inl f_an)))] H → va_D A [(lb, .inr (5, [.int (nI cn), .ref t, .ref la, .ref lz, .ref lv, .ref lr])), (lv, .inl (K.2.1.1, 40, .inr (.inl fv))), (lr, .inl (K.2.1.2.2.2, 40, .inl fr)), (an, .inl (K.2.1.1, 40, .inr (.inl f_an)))] → va_S A s.heap H locs → W p l e R s m args below meth c H locs 0 0 (MQ below (va_Qi (fun (r : Int32) (u : va_W) => (r = nI cn) ∧ (∃ (fa2 : Nat → Int64), u = [(lb, .inr (5, [.int (nI cn), .ref t, .ref la, .ref lz, .ref lv, .ref lr])), (lv, .inl (K.2.1.1, 40, .inr (.inl fv))), (lr, .inl (K.2.1.2.2.2, 40, .inl fr)), (an, .inl (K.2.1.1, 40, .inr (.inl fa2)))])) (mx_B K A (fun u : va_W => u)) A) args s 0 0 A) (F0 m 2 ls []) := by
  obtain ⟨hx, hb, hml, hown, hT, hK, hN, hE, hA⟩ := id F
  intro n
  induction n with
  | zero =>
    intro n2 f_an ls H locs hmu h2 hl hP hD hS
    exact absurd hmu (Nat.not_lt_zero _)
  | succ n ih =>
    intro n2 f_an ls H locs hmu h2 hl hP hD hS
    refine lv_iload_n hx hb d_Lab_tell_2 rfl (lv_at hl 2 rfl) ?_
    refine lv_aload_n hx hb d_Lab_tell_3 rfl (lv_at hl 0 rfl) ?_
    refine va_get (D := K.1) (ci := 5) (v := .int (nI cn)) (C := R_Lab) (T := T_Lab) (N := 6) hx hb hT in_Lab hown hK hP 0 rfl rfl 0 (by decide) (hT _ k_119) (fun _ h9 => h9) rfl d_Lab_tell_4 ?_
    refine lv_icmp_ge (tgt := 53) hx hb d_Lab_tell_7 (by decide) (fun h_1 => ?_) (fun h_1 => ?_)
    · have h_1n := mx_fLe (a := cn) (b := n2) (by omega) (by omega) h_1
      refine lv_aload_n hx hb d_Lab_tell_53 rfl (lv_at hl 0 rfl) ?_
      refine va_get (D := K.1) (ci := 5) (v := .int (nI cn)) (C := R_Lab) (T := T_Lab) (N := 6) hx hb hT in_Lab hown hK hP 0 rfl rfl 0 (by decide) (hT _ k_119) (fun _ h9 => h9) rfl d_Lab_tell_54 ?_
      exact mx_ri F hr hlk rfl hP hD hS [(lb, .inr (5, [.int (nI cn), .ref t, .ref la, .ref lz, .ref lv, .ref lr])), (lv, .inl (K.2.1.1, 40, .inr (.inl fv))), (lr, .inl (K.2.1.2.2.2, 40, .inl fr)), (an, .inl (K.2.1.1, 40, .inr (.inl f_an)))] [0, 1, 2, 3] rfl (by decide) ⟨rfl, ⟨f_an, rfl⟩⟩ (by decide) (by decide) d_Lab_tell_57
    · have h_1n := mx_fNle (a := cn) (b := n2) (by omega) (by omega) h_1
      refine lv_iload_n hx hb d_Lab_tell_10 rfl (lv_at hl 2 rfl) ?_
      refine lv_aload_n hx hb d_Lab_tell_11 rfl (lv_at hl 1 rfl) ?_
      refine va_alen (v := 40) hx hb hK hP 3 0 rfl rfl rfl d_Lab_tell_12 ?_
      refine lv_icmp_ge (tgt := 53) hx hb d_Lab_tell_13 (by decide) (fun h_2 => ?_) (fun h_2 => ?_)
      · have h_2n := mx_fLe (a := 40) (b := n2) (by omega) (by omega) h_2
        refine lv_aload_n hx hb d_Lab_tell_53 rfl (lv_at hl 0 rfl) ?_
        refine va_get (D := K.1) (ci := 5) (v := .int (nI cn)) (C := R_Lab) (T := T_Lab) (N := 6) hx hb hT in_Lab hown hK hP 0 rfl rfl 0 (by decide) (hT _ k_119) (fun _ h9 => h9) rfl d_Lab_tell_54 ?_
        exact mx_ri F hr hlk rfl hP hD hS [(lb, .inr (5, [.int (nI cn), .ref t, .ref la, .ref lz, .ref lv, .ref lr])), (lv, .inl (K.2.1.1, 40, .inr (.inl fv))), (lr, .inl (K.2.1.2.2.2, 40, .inl fr)), (an, .inl (K.2.1.1, 40, .inr (.inl f_an)))] [0, 1, 2, 3] rfl (by decide) ⟨rfl, ⟨f_an, rfl⟩⟩ (by decide) (by decide) d_Lab_tell_57
      · have h_2n := mx_fNle (a := 40) (b := n2) (by omega) (by omega) h_2
        refine lv_aload_n hx hb d_Lab_tell_16 rfl (lv_at hl 1 rfl) ?_
        refine lv_iload_n hx hb d_Lab_tell_17 rfl (lv_at hl 2 rfl) ?_
        refine lv_aload_n hx hb d_Lab_tell_18 rfl (lv_at hl 0 rfl) ?_
        refine va_get (D := K.1) (ci := 5) (v := .ref lr) (C := R_Lab) (T := T_Lab) (N := 6) hx hb hT in_Lab hown hK hP 0 rfl rfl 5 (by decide) (hT _ k_118) (fun _ h9 => h9) rfl d_Lab_tell_19 ?_
        refine lv_iload_n hx hb d_Lab_tell_22 rfl (lv_at hl 2 rfl) ?_
        refine va_zald hx hb hK hP 2 3 rfl rfl (i := nI n2) (vp_in_nI (n := n2) (N := 40) (by omega) (by decide)) d_Lab_tell_23 ?_
        refine lv_topi (fun z_3 ez_3 => ?_)
        refine lv_if_eq (tgt := 40) hx hb d_Lab_tell_24 (by decide) (fun h_4 => ?_) (fun h_4 => ?_)
        · refine lv_aload_n hx hb d_Lab_tell_40 rfl (lv_at hl 0 rfl) ?_
          refine va_get (D := K.1) (ci := 5) (v := .ref lv) (C := R_Lab) (T := T_Lab) (N := 6) hx hb hT in_Lab hown hK hP 0 rfl rfl 4 (by decide) (hT _ k_117) (fun _ h9 => h9) rfl d_Lab_tell_41 ?_
          refine lv_iload_n hx hb d_Lab_tell_44 rfl (lv_at hl 2 rfl) ?_
          refine va_lald hx hb hK hP 1 0 rfl rfl (i := nI n2) (vp_in_nI (n := n2) (N := 40) (by omega) (by decide)) d_Lab_tell_45 ?_
          refine lv_topl (fun z_5 ez_5 => ?_)
          refine va_last hx hb hK hP hD hS 3 0 rfl rfl (i := nI n2) (x := z_5) (vp_in_nI (n := n2) (N := 40) (by omega) (by decide)) d_Lab_tell_46 (fun H locs hP hD hS => ?_)
          have hP : va_P K.1 mx_cl [(lb, .inr (5, [.int (nI cn), .ref t, .ref la, .ref lz, .ref lv, .ref lr])), (lv, .inl (K.2.1.1, 40, .inr (.inl fv))), (lr, .inl (K.2.1.2.2.2, 40, .inl fr)), (an, .inl (K.2.1.1, 40, .inr (.inl (vp_updL f_an (nI n2).toNatClampNeg z_5))))] H := hP
          have hD : va_D A [(lb, .inr (5, [.int (nI cn), .ref t, .ref la, .ref lz, .ref lv, .ref lr])), (lv, .inl (K.2.1.1, 40, .inr (.inl fv))), (lr, .inl (K.2.1.2.2.2, 40, .inl fr)), (an, .inl (K.2.1.1, 40, .inr (.inl (vp_updL f_an (nI n2).toNatClampNeg z_5))))] := hD
          generalize ef_6 : vp_updL f_an (nI n2).toNatClampNeg z_5 = f_6 at hP hD
          refine lv_iinc (lv' := [(2, .int (nI (n2 + 1))), (0, .ref lb), (1, .ref an)]) (v := nI (n2 + 1)) (k := 2) hx hb d_Lab_tell_47 hl rfl (mx_inc n2) (by decide) rfl (fun ls hl => ?_)
          refine lv_goto (tgt := 2) hx hb d_Lab_tell_50 (by decide) ?_
          exact ih (n2 + 1) f_6 _ _ _ (by omega) (by first | assumption | omega | exact mx_ch_0) (lv_sub hl [1, 2, 0] rfl) hP hD hS
        · refine lv_ldc2 (v := 1099511627776) hx hb hown (hT _ k_685) d_Lab_tell_27 ?_
          refine lv_aload_n hx hb d_Lab_tell_30 rfl (lv_at hl 0 rfl) ?_
          refine va_get (D := K.1) (ci := 5) (v := .ref lv) (C := R_Lab) (T := T_Lab) (N := 6) hx hb hT in_Lab hown hK hP 0 rfl rfl 4 (by decide) (hT _ k_117) (fun _ h9 => h9) rfl d_Lab_tell_31 ?_
          refine lv_iload_n hx hb d_Lab_tell_34 rfl (lv_at hl 2 rfl) ?_
          refine va_lald hx hb hK hP 1 0 rfl rfl (i := nI n2) (vp_in_nI (n := n2) (N := 40) (by omega) (by decide)) d_Lab_tell_35 ?_
          refine lv_topl (fun z_7 ez_7 => ?_)
          refine lv_ladd hx hb d_Lab_tell_36 ?_
          refine lv_goto (tgt := 46) hx hb d_Lab_tell_37 (by decide) ?_
          refine va_last hx hb hK hP hD hS 3 0 rfl rfl (i := nI n2) (x := (1099511627776 : Int64) + z_7) (vp_in_nI (n := n2) (N := 40) (by omega) (by decide)) d_Lab_tell_46 (fun H locs hP hD hS => ?_)
          have hP : va_P K.1 mx_cl [(lb, .inr (5, [.int (nI cn), .ref t, .ref la, .ref lz, .ref lv, .ref lr])), (lv, .inl (K.2.1.1, 40, .inr (.inl fv))), (lr, .inl (K.2.1.2.2.2, 40, .inl fr)), (an, .inl (K.2.1.1, 40, .inr (.inl (vp_updL f_an (nI n2).toNatClampNeg ((1099511627776 : Int64) + z_7)))))] H := hP
          have hD : va_D A [(lb, .inr (5, [.int (nI cn), .ref t, .ref la, .ref lz, .ref lv, .ref lr])), (lv, .inl (K.2.1.1, 40, .inr (.inl fv))), (lr, .inl (K.2.1.2.2.2, 40, .inl fr)), (an, .inl (K.2.1.1, 40, .inr (.inl (vp_updL f_an (nI n2).toNatClampNeg ((1099511627776 : Int64) + z_7)))))] := hD
          generalize ef_8 : vp_updL f_an (nI n2).toNatClampNeg ((1099511627776 : Int64) + z_7) = f_8 at hP hD
          refine lv_iinc (lv' := [(2, .int (nI (n2 + 1))), (0, .ref lb), (1, .ref an)]) (v := nI (n2 + 1)) (k := 2) hx hb d_Lab_tell_47 hl rfl (mx_inc n2) (by decide) rfl (fun ls hl => ?_)
          refine lv_goto (tgt := 2) hx hb d_Lab_tell_50 (by decide) ?_
          exact ih (n2 + 1) f_8 _ _ _ (by omega) (by first | assumption | omega | exact mx_ch_0) (lv_sub hl [1, 2, 0] rfl) hP hD hS
set_option maxHeartbeats 4000000 in
set_option maxRecDepth 100000 in
theorem s_Lab_tell (l : Launch) (K : mx_K) (lb : Nat) (an : Nat) (t : Nat) (la : Nat) (lz : Nat) (lv : Nat) (lr : Nat) (fv : Nat → Int64) (fr : Nat → Int32) (fa : Nat → Int64) (cn : Nat) (sz : Nat) (hcn : cn ≤ 40) : mx_I l y_Lab_tell b_Lab_tell 3 .int { frames := 1, cells := 0, slots := 0, locals := 20 } K [.ref lb, .ref an] [(lb, .inr (5, [.int (nI cn), .ref t, .ref la, .ref lz, .ref lv, .ref lr])), (lv, .inl (K.2.1.1, 40, .inr (.inl fv))), (lr, .inl (K.2.1.2.2.2, 40, .inl fr)), (an, .inl (K.2.1.1, 40, .inr (.inl fa)))] sz (fun (r : Int32) (u : va_W) => (r = nI cn) ∧ (∃ (fa2 : Nat → Int64), u = [(lb, .inr (5, [.int (nI cn), .ref t, .ref la, .ref lz, .ref lv, .ref lr])), (lv, .inl (K.2.1.1, 40, .inr (.inl fv))), (lr, .inl (K.2.1.2.2.2, 40, .inl fr)), (an, .inl (K.2.1.1, 40, .inr (.inl fa2)))])) (fun u : va_W => u) := by
  refine mx_of (by decide) (Nat.le_of_ble_eq_true rfl) ?_
  intro p e s m below meth c A ls H locs hAe F hr hlk hin hsz hP hD hS hl
  rw [hAe]
  have hl : lv_has ls 3 [(0, .ref lb), (1, .ref an)] := hl
  obtain ⟨hx, hb, hml, hown, hT, hK, hN, hE, hA⟩ := id F
  refine lv_iconst (v := 0) hx hb d_Lab_tell_0 (by decide) ?_
  refine lv_istore_n (lv' := [(2, .int 0), (0, .ref lb), (1, .ref an)]) hx hb d_Lab_tell_1 rfl hl (by decide) rfl (fun ls hl => ?_)
  exact s_Lab_tell_b2 lb an t la lz lv lr fv fr fa cn hcn F hr hlk (by decide) (by decide) (cn - 0 + 1) 0 fa _ _ _ (by omega) (by first | assumption | omega | exact mx_ch_0) (lv_sub hl [1, 2, 0] rfl) hP hD hS
