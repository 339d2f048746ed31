set_option maxHeartbeats 4000000 in
set_option maxRecDepth 100000 in
theorem c_Lab_clear (l : Launch) (K : mx_K) (lb : Nat) (lb_count : Int32) (lb_text : Nat) (lb_starts : Nat) (lb_sizes : Nat) (lb_values : Nat) (lb_registers : Nat) (sz : Nat) : mx_V l y_Lab_clear b_Lab_clear 1 { frames := 0, cells := 0, slots := 0, locals := 0 } K [.ref lb] [(lb, .inr (5, [.int lb_count, .ref lb_text, .ref lb_starts, .ref lb_sizes, .ref lb_values, .ref lb_registers]))] sz (fun u : Unit => True) (fun u : Unit => [(lb, .inr (5, [.int 0, .ref lb_text, .ref lb_starts, .ref lb_sizes, .ref lb_values, .ref lb_registers]))]) := by
  refine mx_of (by decide) (Nat.le_of_ble_eq_true rfl) ?_
  intro p e s m below meth c A ls H locs hAe F hr hlk hin hsz hP hD hS hl
  rw [hAe]
  have hl : lv_has ls 1 [(0, .ref lb)] := hl
  obtain ⟨hx, hb, hml, hown, hT, hK, hN, hE, hA⟩ := id F
  refine lv_aload_n hx hb d_Lab_clear_0 rfl (lv_at hl 0 rfl) ?_
  refine lv_iconst (v := 0) hx hb d_Lab_clear_1 (by decide) ?_
  refine va_put (D := K.1) (ci := 5) (v := .int 0) (ty := .int) (C := R_Lab) (T := T_Lab) (N := 6) hx hb hT in_Lab t_Lab t_Lab_ok n_Lab hown hK hP hD hS 0 rfl rfl 0 (by decide) (hT _ k_119) (fun _ h9 => h9) rfl (by decide +kernel) rfl rfl (Nat.le_of_ble_eq_true rfl) d_Lab_clear_2 (fun H locs hP hD hS => ?_)
  have hP : va_P K.1 mx_cl [(lb, .inr (5, [.int 0, .ref lb_text, .ref lb_starts, .ref lb_sizes, .ref lb_values, .ref lb_registers]))] H := hP
  have hD : va_D A [(lb, .inr (5, [.int 0, .ref lb_text, .ref lb_starts, .ref lb_sizes, .ref lb_values, .ref lb_registers]))] := hD
  exact mx_rv F hr hlk hP hD hS () [0] rfl (by decide) trivial (by decide) (by decide) d_Lab_clear_5
set_option maxHeartbeats 4000000 in
set_option maxRecDepth 100000 in
theorem c_Lab_tell (l : Launch) (K : mx_K) (lb : Nat) (an : Nat) (lb_text : Nat) (lb_starts : Nat) (lb_sizes : Nat) (lb_values : Nat) (lb_registers : Nat) (sz : Nat) : mx_I l y_Lab_tell b_Lab_tell 3 .int { frames := 0, cells := 0, slots := 0, locals := 0 } K [.ref lb, .ref an] [(lb, .inr (5, [.int 0, .ref lb_text, .ref lb_starts, .ref lb_sizes, .ref lb_values, .ref lb_registers]))] sz (fun (r : Int32) (u : Unit) => r = 0) (fun u : Unit => []) := by
  refine mx_of (by decide) (Nat.le_of_ble_eq_true rfl) ?_
  intro p e s m below meth c A ls H locs hAe F hr hlk hin hsz hP hD hS hl
  rw [hAe]
  have hl : lv_has ls 3 [(0, .ref lb), (1, .ref an)] := hl
  obtain ⟨hx, hb, hml, hown, hT, hK, hN, hE, hA⟩ := id F
  refine lv_iconst (v := 0) hx hb d_Lab_tell_0 (by decide) ?_
  refine lv_istore_n (lv' := [(2, .int 0), (0, .ref lb), (1, .ref an)]) hx hb d_Lab_tell_1 rfl hl (by decide) rfl (fun ls hl => ?_)
  refine lv_iload_n hx hb d_Lab_tell_2 rfl (lv_at hl 0 rfl) ?_
  refine lv_aload_n hx hb d_Lab_tell_3 rfl (lv_at hl 1 rfl) ?_
  refine va_get (D := K.1) (ci := 5) (v := .int 0) (C := R_Lab) (T := T_Lab) (N := 6) hx hb hT in_Lab hown hK hP 0 rfl rfl 0 (by decide) (hT _ k_119) (fun _ h9 => h9) rfl d_Lab_tell_4 ?_
  refine lv_icmp_ge (tgt := 53) hx hb d_Lab_tell_7 (by decide) (fun _ => ?_) (fun h => absurd h (by decide))
  refine lv_aload_n hx hb d_Lab_tell_53 rfl (lv_at hl 1 rfl) ?_
  refine va_get (D := K.1) (ci := 5) (v := .int 0) (C := R_Lab) (T := T_Lab) (N := 6) hx hb hT in_Lab hown hK hP 0 rfl rfl 0 (by decide) (hT _ k_119) (fun _ h9 => h9) rfl d_Lab_tell_54 ?_
  exact mx_ri F hr hlk rfl hP hD hS () [] rfl (by decide) rfl (by decide) (by decide) d_Lab_tell_57
set_option maxHeartbeats 4000000 in
set_option maxRecDepth 100000 in
theorem c_Asm_answer (l : Launch) (K : mx_K) (sm : Nat) (k : Int32) (lb : Nat) (li : Nat) (su : Nat) (od : Nat) (an : Nat) (im : Nat) (sz : Nat) : mx_L l y_Asm_answer b_Asm_answer 2 { frames := 0, cells := 0, slots := 0, locals := 0 } K [.ref sm, .int k] [(sm, .inr (8, [.int 0, .int (-1), .int 0, .int 0, .ref lb, .ref li, .ref su, .ref od, .ref an, .ref im]))] sz (fun (r : Int64) (u : Unit) => r = -1) (fun u : Unit => []) := by
  refine mx_of (by decide) (Nat.le_of_ble_eq_true rfl) ?_
  intro p e s m below meth c A ls H locs hAe F hr hlk hin hsz hP hD hS hl
  rw [hAe]
  have hl : lv_has ls 2 [(0, .ref sm), (1, .int k)] := hl
  obtain ⟨hx, hb, hml, hown, hT, hK, hN, hE, hA⟩ := id F
  refine lv_iload_n hx hb d_Asm_answer_0 rfl (lv_at hl 1 rfl) ?_
  refine lv_if_lt (tgt := 30) hx hb d_Asm_answer_1 (by decide) (fun h1 => ?_) (fun h1 => ?_)
  · refine lv_ldc2 (v := (-1)) hx hb hown (hT _ k_717) d_Asm_answer_30 ?_
    exact mx_rl F hr hlk hP hD hS () [] rfl (by decide) rfl (by decide) (by decide) d_Asm_answer_33
  · refine lv_iload_n hx hb d_Asm_answer_4 rfl (lv_at hl 1 rfl) ?_
    refine lv_aload_n hx hb d_Asm_answer_5 rfl (lv_at hl 0 rfl) ?_
    refine va_get (D := K.1) (ci := 8) (v := .int 0) (C := R_Asm) (T := T_Asm) (N := 10) hx hb hT in_Asm hown hK hP 0 rfl rfl 0 (by decide) (hT _ k_295) (fun _ h9 => h9) rfl d_Asm_answer_6 ?_
    refine lv_icmp_ge (tgt := 30) hx hb d_Asm_answer_9 (by decide) (fun h1 => ?_) (fun h => absurd (Int32.not_lt.mp h1) h)
    refine lv_ldc2 (v := (-1)) hx hb hown (hT _ k_717) d_Asm_answer_30 ?_
    exact mx_rl F hr hlk hP hD hS () [] rfl (by decide) rfl (by decide) (by decide) d_Asm_answer_33
set_option maxHeartbeats 4000000 in
set_option maxRecDepth 100000 in
theorem c_Asm_translate (l : Launch) (K : mx_K) (sm : Nat) (lb : Nat) (li : Nat) (su : Nat) (od : Nat) (an : Nat) (im : Nat) (t : Nat) (la : Nat) (lz : Nat) (lv : Nat) (lr : Nat) (io : Nat) (sz : Nat) : mx_I l y_Asm_translate b_Asm_translate 7 .boolean { frames := 2, cells := 0, slots := 0, locals := 41 } K [.ref sm, .int 0] [(sm, .inr (8, [.int 0, .int (-1), .int 0, .int 0, .ref lb, .ref li, .ref su, .ref od, .ref an, .ref im])), (lb, .inr (5, [.int 0, .ref t, .ref la, .ref lz, .ref lv, .ref lr])), (im, .inr (1, [.ref io])), (io, .inl (K.2.1.1, 512, .inr (.inl (fun _ => 0))))] sz (fun (r : Int32) (u : Unit) => r = 1) (fun u : Unit => [(sm, .inr (8, [.int 0, .int (-1), .int 256, .int 0, .ref lb, .ref li, .ref su, .ref od, .ref an, .ref im])), (im, .inr (1, [.ref io])), (io, .inl (K.2.1.1, 512, .inr (.inl (fun _ => 0))))]) := by
  refine mx_of (by decide) (Nat.le_of_ble_eq_true rfl) ?_
  intro p e s m below meth c A ls H locs hAe F hr hlk hin hsz hP hD hS hl
  rw [hAe]
  have hl : lv_has ls 7 [(0, .ref sm), (1, .int 0)] := hl
  obtain ⟨hx, hb, hml, hown, hT, hK, hN, hE, hA⟩ := id F
  refine lv_aload_n hx hb d_Asm_translate_0 rfl (lv_at hl 0 rfl) ?_
  refine va_get (D := K.1) (ci := 8) (v := .ref lb) (C := R_Asm) (T := T_Asm) (N := 10) hx hb hT in_Asm hown hK hP 0 rfl rfl 4 (by decide) (hT _ k_288) (fun _ h9 => h9) rfl d_Asm_translate_1 ?_
  refine mx_cv (wr := [(sm, .inr (8, [.int 0, .int (-1), .int 0, .int 0, .ref lb, .ref li, .ref su, .ref od, .ref an, .ref im])), (im, .inr (1, [.ref io])), (io, .inl (K.2.1.1, 512, .inr (.inl (fun _ => 0))))]) F (mx_runV (As := []) (rest := []) (n := 0) F (c_Lab_clear l K lb 0 t la lz lv lr H.size) k_419 (Or.inl k_416) k_417 k_418 k_6 p_Lab_clear rfl rfl hP hD hS [1] rfl (by decide) (va_recv (q := (R_Lab, T_Lab, 6)) (ci := 5) (q0 := 1) hK hP rfl rfl) rfl hl.1 rfl (Nat.le_of_ble_eq_true rfl) ⟨by decide, by decide⟩ ⟨by decide, by decide⟩ d_Asm_translate_4) hP hD hS [1] [0, 2, 3] rfl rfl (by decide) (by decide) (fun _ H locs hq1 hP hD hS => ?_)
  have hP : va_P K.1 mx_cl [(sm, .inr (8, [.int 0, .int (-1), .int 0, .int 0, .ref lb, .ref li, .ref su, .ref od, .ref an, .ref im])), (im, .inr (1, [.ref io])), (io, .inl (K.2.1.1, 512, .inr (.inl (fun _ => 0)))), (lb, .inr (5, [.int 0, .ref t, .ref la, .ref lz, .ref lv, .ref lr]))] H := hP
  have hD : va_D A [(sm, .inr (8, [.int 0, .int (-1), .int 0, .int 0, .ref lb, .ref li, .ref su, .ref od, .ref an, .ref im])), (im, .inr (1, [.ref io])), (io, .inl (K.2.1.1, 512, .inr (.inl (fun _ => 0)))), (lb, .inr (5, [.int 0, .ref t, .ref la, .ref lz, .ref lv, .ref lr]))] := hD
  refine W.cs (cells' := 0) (slots' := 0) rfl rfl ?_
  refine lv_aload_n hx hb d_Asm_translate_7 rfl (lv_at hl 0 rfl) ?_
  refine va_get (D := K.1) (ci := 8) (v := .ref im) (C := R_Asm) (T := T_Asm) (N := 10) hx hb hT in_Asm hown hK hP 0 rfl rfl 9 (by decide) (hT _ k_293) (fun _ h9 => h9) rfl d_Asm_translate_8 ?_
  refine mx_cv (wr := [(sm, .inr (8, [.int 0, .int (-1), .int 0, .int 0, .ref lb, .ref li, .ref su, .ref od, .ref an, .ref im])), (lb, .inr (5, [.int 0, .ref t, .ref la, .ref lz, .ref lv, .ref lr]))]) F (mx_runV (As := []) (rest := []) (n := 0) F (c_Mem_clear l K im io H.size) k_423 (Or.inl k_420) k_421 k_422 k_2 p_Mem_clear rfl rfl hP hD hS [1, 2] rfl (by decide) (va_recv (q := (R_Mem, T_Mem, 1)) (ci := 1) (q0 := 1) hK hP rfl rfl) rfl hl.1 rfl (Nat.le_of_ble_eq_true rfl) ⟨by decide, by decide⟩ ⟨by decide, by decide⟩ d_Asm_translate_11) hP hD hS [1, 2] [0, 3] rfl rfl (by decide) (by decide) (fun _ H locs hq3 hP hD hS => ?_)
  have hP : va_P K.1 mx_cl [(sm, .inr (8, [.int 0, .int (-1), .int 0, .int 0, .ref lb, .ref li, .ref su, .ref od, .ref an, .ref im])), (lb, .inr (5, [.int 0, .ref t, .ref la, .ref lz, .ref lv, .ref lr])), (im, .inr (1, [.ref io])), (io, .inl (K.2.1.1, 512, .inr (.inl (fun _ => 0))))] H := hP
  have hD : va_D A [(sm, .inr (8, [.int 0, .int (-1), .int 0, .int 0, .ref lb, .ref li, .ref su, .ref od, .ref an, .ref im])), (lb, .inr (5, [.int 0, .ref t, .ref la, .ref lz, .ref lv, .ref lr])), (im, .inr (1, [.ref io])), (io, .inl (K.2.1.1, 512, .inr (.inl (fun _ => 0))))] := hD
  refine W.cs (cells' := 0) (slots' := 0) rfl rfl ?_
  refine lv_aload_n hx hb d_Asm_translate_14 rfl (lv_at hl 0 rfl) ?_
  refine lv_iconst (v := (-1)) hx hb d_Asm_translate_15 (by decide) ?_
  refine va_put (D := K.1) (ci := 8) (v := .int (-1)) (ty := .int) (C := R_Asm) (T := T_Asm) (N := 10) hx hb hT in_Asm t_Asm t_Asm_ok n_Asm hown hK hP hD hS 0 rfl rfl 1 (by decide) (hT _ k_296) (fun _ h9 => h9) rfl (by decide +kernel) rfl rfl (Nat.le_of_ble_eq_true rfl) d_Asm_translate_16 (fun H locs hP hD hS => ?_)
  have hP : va_P K.1 mx_cl [(sm, .inr (8, [.int 0, .int (-1), .int 0, .int 0, .ref lb, .ref li, .ref su, .ref od, .ref an, .ref im])), (lb, .inr (5, [.int 0, .ref t, .ref la, .ref lz, .ref lv, .ref lr])), (im, .inr (1, [.ref io])), (io, .inl (K.2.1.1, 512, .inr (.inl (fun _ => 0))))] H := hP
  have hD : va_D A [(sm, .inr (8, [.int 0, .int (-1), .int 0, .int 0, .ref lb, .ref li, .ref su, .ref od, .ref an, .ref im])), (lb, .inr (5, [.int 0, .ref t, .ref la, .ref lz, .ref lv, .ref lr])), (im, .inr (1, [.ref io])), (io, .inl (K.2.1.1, 512, .inr (.inl (fun _ => 0))))] := hD
  refine lv_iconst (v := 0) hx hb d_Asm_translate_19 (by decide) ?_
  refine lv_istore_n (lv' := [(2, .int 0), (0, .ref sm), (1, .int 0)]) hx hb d_Asm_translate_20 rfl hl (by decide) rfl (fun ls hl => ?_)
  refine lv_iload_n hx hb d_Asm_translate_21 rfl (lv_at hl 0 rfl) ?_
  refine lv_iconst (v := 2) hx hb d_Asm_translate_22 (by decide) ?_
  refine lv_icmp_ge (tgt := 183) hx hb d_Asm_translate_23 (by decide) (fun h => absurd h (by decide)) (fun _ => ?_)
  refine lv_aload_n hx hb d_Asm_translate_26 rfl (lv_at hl 1 rfl) ?_
  refine va_get (D := K.1) (ci := 8) (v := .int (-1)) (C := R_Asm) (T := T_Asm) (N := 10) hx hb hT in_Asm hown hK hP 0 rfl rfl 1 (by decide) (hT _ k_296) (fun _ h9 => h9) rfl d_Asm_translate_27 ?_
  refine lv_iconst (v := (-1)) hx hb d_Asm_translate_30 (by decide) ?_
  refine lv_icmp_ne (tgt := 183) hx hb d_Asm_translate_31 (by decide) (fun h => absurd h (by decide)) (fun _ => ?_)
  refine lv_iload_n hx hb d_Asm_translate_34 rfl (lv_at hl 0 rfl) ?_
  refine lv_if_ne (tgt := 42) hx hb d_Asm_translate_35 (by decide) (fun h => absurd h (by decide)) (fun _ => ?_)
  refine lv_iconst (v := 1) hx hb d_Asm_translate_38 (by decide) ?_
  refine lv_goto (tgt := 43) hx hb d_Asm_translate_39 (by decide) ?_
  refine lv_istore_n (lv' := [(3, .int 1), (2, .int 0), (0, .ref sm), (1, .int 0)]) hx hb d_Asm_translate_43 rfl hl (by decide) rfl (fun ls hl => ?_)
  refine lv_aload_n hx hb d_Asm_translate_44 rfl (lv_at hl 2 rfl) ?_
  refine lv_sipush (v := 256) hx hb d_Asm_translate_45 (by decide) ?_
  refine va_put (D := K.1) (ci := 8) (v := .int 256) (ty := .int) (C := R_Asm) (T := T_Asm) (N := 10) hx hb hT in_Asm t_Asm t_Asm_ok n_Asm hown hK hP hD hS 0 rfl rfl 2 (by decide) (hT _ k_298) (fun _ h9 => h9) rfl (by decide +kernel) rfl rfl (Nat.le_of_ble_eq_true rfl) d_Asm_translate_48 (fun H locs hP hD hS => ?_)
  have hP : va_P K.1 mx_cl [(sm, .inr (8, [.int 0, .int (-1), .int 256, .int 0, .ref lb, .ref li, .ref su, .ref od, .ref an, .ref im])), (lb, .inr (5, [.int 0, .ref t, .ref la, .ref lz, .ref lv, .ref lr])), (im, .inr (1, [.ref io])), (io, .inl (K.2.1.1, 512, .inr (.inl (fun _ => 0))))] H := hP
  have hD : va_D A [(sm, .inr (8, [.int 0, .int (-1), .int 256, .int 0, .ref lb, .ref li, .ref su, .ref od, .ref an, .ref im])), (lb, .inr (5, [.int 0, .ref t, .ref la, .ref lz, .ref lv, .ref lr])), (im, .inr (1, [.ref io])), (io, .inl (K.2.1.1, 512, .inr (.inl (fun _ => 0))))] := hD
  refine lv_aload_n hx hb d_Asm_translate_51 rfl (lv_at hl 2 rfl) ?_
  refine lv_iconst (v := 0) hx hb d_Asm_translate_52 (by decide) ?_
  refine va_put (D := K.1) (ci := 8) (v := .int 0) (ty := .int) (C := R_Asm) (T := T_Asm) (N := 10) hx hb hT in_Asm t_Asm t_Asm_ok n_Asm hown hK hP hD hS 0 rfl rfl 3 (by decide) (hT _ k_299) (fun _ h9 => h9) rfl (by decide +kernel) rfl rfl (Nat.le_of_ble_eq_true rfl) d_Asm_translate_53 (fun H locs hP hD hS => ?_)
  have hP : va_P K.1 mx_cl [(sm, .inr (8, [.int 0, .int (-1), .int 256, .int 0, .ref lb, .ref li, .ref su, .ref od, .ref an, .ref im])), (lb, .inr (5, [.int 0, .ref t, .ref la, .ref lz, .ref lv, .ref lr])), (im, .inr (1, [.ref io])), (io, .inl (K.2.1.1, 512, .inr (.inl (fun _ => 0))))] H := hP
  have hD : va_D A [(sm, .inr (8, [.int 0, .int (-1), .int 256, .int 0, .ref lb, .ref li, .ref su, .ref od, .ref an, .ref im])), (lb, .inr (5, [.int 0, .ref t, .ref la, .ref lz, .ref lv, .ref lr])), (im, .inr (1, [.ref io])), (io, .inl (K.2.1.1, 512, .inr (.inl (fun _ => 0))))] := hD
  refine lv_iconst (v := 0) hx hb d_Asm_translate_56 (by decide) ?_
  refine lv_istore (lv' := [(4, .int 0), (3, .int 1), (2, .int 0), (0, .ref sm), (1, .int 0)]) hx hb d_Asm_translate_57 hl (by decide) rfl (fun ls hl => ?_)
  refine lv_iconst (v := 0) hx hb d_Asm_translate_59 (by decide) ?_
  refine lv_istore (lv' := [(5, .int 0), (4, .int 0), (3, .int 1), (2, .int 0), (0, .ref sm), (1, .int 0)]) hx hb d_Asm_translate_60 hl (by decide) rfl (fun ls hl => ?_)
  refine lv_iload hx hb d_Asm_translate_62 (lv_at hl 0 rfl) ?_
  refine lv_iload_n hx hb d_Asm_translate_64 rfl (lv_at hl 5 rfl) ?_
  refine lv_icmp_ge (tgt := 177) hx hb d_Asm_translate_65 (by decide) (fun _ => ?_) (fun h => absurd h (by decide))
  refine lv_iinc (lv' := [(2, .int 1), (5, .int 0), (4, .int 0), (3, .int 1), (0, .ref sm), (1, .int 0)]) (v := 1) (k := 3) hx hb d_Asm_translate_177 hl rfl (by decide) (by decide) rfl (fun ls hl => ?_)
  refine lv_goto (tgt := 21) hx hb d_Asm_translate_180 (by decide) ?_
  refine lv_iload_n hx hb d_Asm_translate_21 rfl (lv_at hl 0 rfl) ?_
  refine lv_iconst (v := 2) hx hb d_Asm_translate_22 (by decide) ?_
  refine lv_icmp_ge (tgt := 183) hx hb d_Asm_translate_23 (by decide) (fun h => absurd h (by decide)) (fun _ => ?_)
  refine lv_aload_n hx hb d_Asm_translate_26 rfl (lv_at hl 4 rfl) ?_
  refine va_get (D := K.1) (ci := 8) (v := .int (-1)) (C := R_Asm) (T := T_Asm) (N := 10) hx hb hT in_Asm hown hK hP 0 rfl rfl 1 (by decide) (hT _ k_296) (fun _ h9 => h9) rfl d_Asm_translate_27 ?_
  refine lv_iconst (v := (-1)) hx hb d_Asm_translate_30 (by decide) ?_
  refine lv_icmp_ne (tgt := 183) hx hb d_Asm_translate_31 (by decide) (fun h => absurd h (by decide)) (fun _ => ?_)
  refine lv_iload_n hx hb d_Asm_translate_34 rfl (lv_at hl 0 rfl) ?_
  refine lv_if_ne (tgt := 42) hx hb d_Asm_translate_35 (by decide) (fun _ => ?_) (fun h => absurd h (by decide))
  refine lv_iconst (v := 0) hx hb d_Asm_translate_42 (by decide) ?_
  refine lv_istore_n (lv' := [(3, .int 0), (2, .int 1), (5, .int 0), (4, .int 0), (0, .ref sm), (1, .int 0)]) hx hb d_Asm_translate_43 rfl hl (by decide) rfl (fun ls hl => ?_)
  refine lv_aload_n hx hb d_Asm_translate_44 rfl (lv_at hl 4 rfl) ?_
  refine lv_sipush (v := 256) hx hb d_Asm_translate_45 (by decide) ?_
  refine va_put (D := K.1) (ci := 8) (v := .int 256) (ty := .int) (C := R_Asm) (T := T_Asm) (N := 10) hx hb hT in_Asm t_Asm t_Asm_ok n_Asm hown hK hP hD hS 0 rfl rfl 2 (by decide) (hT _ k_298) (fun _ h9 => h9) rfl (by decide +kernel) rfl rfl (Nat.le_of_ble_eq_true rfl) d_Asm_translate_48 (fun H locs hP hD hS => ?_)
  have hP : va_P K.1 mx_cl [(sm, .inr (8, [.int 0, .int (-1), .int 256, .int 0, .ref lb, .ref li, .ref su, .ref od, .ref an, .ref im])), (lb, .inr (5, [.int 0, .ref t, .ref la, .ref lz, .ref lv, .ref lr])), (im, .inr (1, [.ref io])), (io, .inl (K.2.1.1, 512, .inr (.inl (fun _ => 0))))] H := hP
  have hD : va_D A [(sm, .inr (8, [.int 0, .int (-1), .int 256, .int 0, .ref lb, .ref li, .ref su, .ref od, .ref an, .ref im])), (lb, .inr (5, [.int 0, .ref t, .ref la, .ref lz, .ref lv, .ref lr])), (im, .inr (1, [.ref io])), (io, .inl (K.2.1.1, 512, .inr (.inl (fun _ => 0))))] := hD
  refine lv_aload_n hx hb d_Asm_translate_51 rfl (lv_at hl 4 rfl) ?_
  refine lv_iconst (v := 0) hx hb d_Asm_translate_52 (by decide) ?_
  refine va_put (D := K.1) (ci := 8) (v := .int 0) (ty := .int) (C := R_Asm) (T := T_Asm) (N := 10) hx hb hT in_Asm t_Asm t_Asm_ok n_Asm hown hK hP hD hS 0 rfl rfl 3 (by decide) (hT _ k_299) (fun _ h9 => h9) rfl (by decide +kernel) rfl rfl (Nat.le_of_ble_eq_true rfl) d_Asm_translate_53 (fun H locs hP hD hS => ?_)
  have hP : va_P K.1 mx_cl [(sm, .inr (8, [.int 0, .int (-1), .int 256, .int 0, .ref lb, .ref li, .ref su, .ref od, .ref an, .ref im])), (lb, .inr (5, [.int 0, .ref t, .ref la, .ref lz, .ref lv, .ref lr])), (im, .inr (1, [.ref io])), (io, .inl (K.2.1.1, 512, .inr (.inl (fun _ => 0))))] H := hP
  have hD : va_D A [(sm, .inr (8, [.int 0, .int (-1), .int 256, .int 0, .ref lb, .ref li, .ref su, .ref od, .ref an, .ref im])), (lb, .inr (5, [.int 0, .ref t, .ref la, .ref lz, .ref lv, .ref lr])), (im, .inr (1, [.ref io])), (io, .inl (K.2.1.1, 512, .inr (.inl (fun _ => 0))))] := hD
  refine lv_iconst (v := 0) hx hb d_Asm_translate_56 (by decide) ?_
  refine lv_istore (lv' := [(4, .int 0), (3, .int 0), (2, .int 1), (5, .int 0), (0, .ref sm), (1, .int 0)]) hx hb d_Asm_translate_57 hl (by decide) rfl (fun ls hl => ?_)
  refine lv_iconst (v := 0) hx hb d_Asm_translate_59 (by decide) ?_
  refine lv_istore (lv' := [(5, .int 0), (4, .int 0), (3, .int 0), (2, .int 1), (0, .ref sm), (1, .int 0)]) hx hb d_Asm_translate_60 hl (by decide) rfl (fun ls hl => ?_)
  refine lv_iload hx hb d_Asm_translate_62 (lv_at hl 0 rfl) ?_
  refine lv_iload_n hx hb d_Asm_translate_64 rfl (lv_at hl 5 rfl) ?_
  refine lv_icmp_ge (tgt := 177) hx hb d_Asm_translate_65 (by decide) (fun _ => ?_) (fun h => absurd h (by decide))
  refine lv_iinc (lv' := [(2, .int 2), (5, .int 0), (4, .int 0), (3, .int 0), (0, .ref sm), (1, .int 0)]) (v := 2) (k := 3) hx hb d_Asm_translate_177 hl rfl (by decide) (by decide) rfl (fun ls hl => ?_)
  refine lv_goto (tgt := 21) hx hb d_Asm_translate_180 (by decide) ?_
  refine lv_iload_n hx hb d_Asm_translate_21 rfl (lv_at hl 0 rfl) ?_
  refine lv_iconst (v := 2) hx hb d_Asm_translate_22 (by decide) ?_
  refine lv_icmp_ge (tgt := 183) hx hb d_Asm_translate_23 (by decide) (fun _ => ?_) (fun h => absurd h (by decide))
  refine lv_aload_n hx hb d_Asm_translate_183 rfl (lv_at hl 4 rfl) ?_
  refine va_get (D := K.1) (ci := 8) (v := .int (-1)) (C := R_Asm) (T := T_Asm) (N := 10) hx hb hT in_Asm hown hK hP 0 rfl rfl 1 (by decide) (hT _ k_296) (fun _ h9 => h9) rfl d_Asm_translate_184 ?_
  refine lv_iconst (v := (-1)) hx hb d_Asm_translate_187 (by decide) ?_
  refine lv_icmp_ne (tgt := 206) hx hb d_Asm_translate_188 (by decide) (fun h => absurd h (by decide)) (fun _ => ?_)
  refine lv_aload_n hx hb d_Asm_translate_191 rfl (lv_at hl 4 rfl) ?_
  refine lv_aload_n hx hb d_Asm_translate_192 rfl (lv_at hl 4 rfl) ?_
  refine va_get (D := K.1) (ci := 8) (v := .ref lb) (C := R_Asm) (T := T_Asm) (N := 10) hx hb hT in_Asm hown hK hP 0 rfl rfl 4 (by decide) (hT _ k_288) (fun _ h9 => h9) rfl d_Asm_translate_193 ?_
  refine lv_aload_n hx hb d_Asm_translate_196 rfl (lv_at hl 4 rfl) ?_
  refine va_get (D := K.1) (ci := 8) (v := .ref an) (C := R_Asm) (T := T_Asm) (N := 10) hx hb hT in_Asm hown hK hP 0 rfl rfl 8 (by decide) (hT _ k_292) (fun _ h9 => h9) rfl d_Asm_translate_197 ?_
  refine mx_ci (wr := [(sm, .inr (8, [.int 0, .int (-1), .int 256, .int 0, .ref lb, .ref li, .ref su, .ref od, .ref an, .ref im])), (im, .inr (1, [.ref io])), (io, .inl (K.2.1.1, 512, .inr (.inl (fun _ => 0))))]) F (mx_runV (As := [.ref an]) (rest := [.ref sm]) (n := 1) F (c_Lab_tell l K lb an t la lz lv lr H.size) k_684 (Or.inl k_681) k_682 k_683 k_6 p_Lab_tell rfl rfl hP hD hS [1] rfl (by decide) (va_recv (q := (R_Lab, T_Lab, 6)) (ci := 5) (q0 := 1) hK hP rfl rfl) rfl hl.1 rfl (Nat.le_of_ble_eq_true rfl) ⟨by decide, by decide⟩ ⟨by decide, by decide⟩ d_Asm_translate_200) hP hD hS [1] [0, 2, 3] rfl rfl (by decide) (by decide) (fun r16 _ H locs hq15 hP hD hS => ?_)
  obtain rfl : r16 = 0 := hq15
  have hP : va_P K.1 mx_cl [(sm, .inr (8, [.int 0, .int (-1), .int 256, .int 0, .ref lb, .ref li, .ref su, .ref od, .ref an, .ref im])), (im, .inr (1, [.ref io])), (io, .inl (K.2.1.1, 512, .inr (.inl (fun _ => 0))))] H := hP
  have hD : va_D A [(sm, .inr (8, [.int 0, .int (-1), .int 256, .int 0, .ref lb, .ref li, .ref su, .ref od, .ref an, .ref im])), (im, .inr (1, [.ref io])), (io, .inl (K.2.1.1, 512, .inr (.inl (fun _ => 0))))] := hD
  refine W.cs (cells' := 0) (slots' := 0) rfl rfl ?_
  refine va_put (D := K.1) (ci := 8) (v := .int 0) (ty := .int) (C := R_Asm) (T := T_Asm) (N := 10) hx hb hT in_Asm t_Asm t_Asm_ok n_Asm hown hK hP hD hS 0 rfl rfl 0 (by decide) (hT _ k_295) (fun _ h9 => h9) rfl (by decide +kernel) rfl rfl (Nat.le_of_ble_eq_true rfl) d_Asm_translate_203 (fun H locs hP hD hS => ?_)
  have hP : va_P K.1 mx_cl [(sm, .inr (8, [.int 0, .int (-1), .int 256, .int 0, .ref lb, .ref li, .ref su, .ref od, .ref an, .ref im])), (im, .inr (1, [.ref io])), (io, .inl (K.2.1.1, 512, .inr (.inl (fun _ => 0))))] H := hP
  have hD : va_D A [(sm, .inr (8, [.int 0, .int (-1), .int 256, .int 0, .ref lb, .ref li, .ref su, .ref od, .ref an, .ref im])), (im, .inr (1, [.ref io])), (io, .inl (K.2.1.1, 512, .inr (.inl (fun _ => 0))))] := hD
  refine lv_aload_n hx hb d_Asm_translate_206 rfl (lv_at hl 4 rfl) ?_
  refine va_get (D := K.1) (ci := 8) (v := .int (-1)) (C := R_Asm) (T := T_Asm) (N := 10) hx hb hT in_Asm hown hK hP 0 rfl rfl 1 (by decide) (hT _ k_296) (fun _ h9 => h9) rfl d_Asm_translate_207 ?_
  refine lv_iconst (v := (-1)) hx hb d_Asm_translate_210 (by decide) ?_
  refine lv_icmp_ne (tgt := 218) hx hb d_Asm_translate_211 (by decide) (fun h => absurd h (by decide)) (fun _ => ?_)
  refine lv_iconst (v := 1) hx hb d_Asm_translate_214 (by decide) ?_
  refine lv_goto (tgt := 219) hx hb d_Asm_translate_215 (by decide) ?_
  exact mx_ri F hr hlk (by decide) hP hD hS () [0, 1, 2] rfl (by decide) rfl (by decide) (by decide) d_Asm_translate_219
