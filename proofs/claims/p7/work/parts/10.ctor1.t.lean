set_option maxHeartbeats 4000000 in
set_option maxRecDepth 100000 in
theorem c_Mem_init (l : Launch) (K : mx_K) (h0 : Nat) (sz : Nat) : mx_V l y_Mem_init b_Mem_init 1 { frames := 1, cells := 1, slots := 512, locals := 20 } K [.ref h0] [(h0, .inr (1, [.null]))] sz (fun u : Nat => True) (fun u : Nat => [(h0, .inr (1, [.ref u])), (u, .inl (K.2.1.1, 512, .inr (.inl (fun _ => 0))))]) := by
  refine mx_of (by decide) (Nat.le_of_ble_eq_true rfl) ?_
  intro p e s m below meth c A ls H locs hAe F hr hlk hin hsz hP hD hS hl
  rw [hAe]
  have hl : lv_has ls 1 [(0, .ref h0)] := hl
  obtain ⟨hx, hb, hml, hown, hT, hK, hN, hE, hA⟩ := id F
  refine lv_aload_n hx hb d_Mem_init_0 rfl (lv_at hl 0 rfl) ?_
  refine W.objInit hx hb hown (hT _ k_35) (hT _ k_28) (hT _ k_29) rfl (by rw [hml]; exact hl.1) rfl d_Mem_init_1 (by decide) (Nat.le_of_ble_eq_true rfl) ?_
  refine W.eq (g2 := F0 m 4 ls []) rfl ?_
  refine lv_aload_n hx hb d_Mem_init_4 rfl (lv_at hl 0 rfl) ?_
  refine lv_sipush (v := 512) hx hb d_Mem_init_5 (by decide) ?_
  refine mx_newa (a0 := (512, .inr (.inl (fun _ => 0)))) (N' := 512) F k_41 rfl 0 rfl hP hD hS (fun _ => rfl) (by decide) (by decide) (by decide) (by decide) (by decide) d_Mem_init_8 (fun _ h => by cases h) (fun q_1 H hP hD hS => ?_)
  have hP : va_P K.1 mx_cl [(h0, .inr (1, [.null])), (q_1, .inl (K.2.1.1, 512, .inr (.inl (fun _ => 0))))] H := hP
  have hD : va_D A [(h0, .inr (1, [.null])), (q_1, .inl (K.2.1.1, 512, .inr (.inl (fun _ => 0))))] := hD
  refine W.cs (cells' := 1) (slots' := 512) rfl rfl ?_
  refine va_putF (D := K.1) (ci := 1) (v := .ref q_1) (ty := (.array .long)) (C := R_Mem) (T := T_Mem) (N := 1) hx hb hT in_Mem t_Mem t_Mem_ok n_Mem hown hK hP hD hS 0 rfl rfl 0 (by decide) (hT _ k_36) (fun _ h9 => h9) rfl hin rfl (by decide +kernel) rfl rfl (Nat.le_of_ble_eq_true rfl) d_Mem_init_10 (fun H locs hP hD hS => ?_)
  have hP : va_P K.1 mx_cl [(h0, .inr (1, [.ref q_1])), (q_1, .inl (K.2.1.1, 512, .inr (.inl (fun _ => 0))))] H := hP
  have hD : va_D A [(h0, .inr (1, [.ref q_1])), (q_1, .inl (K.2.1.1, 512, .inr (.inl (fun _ => 0))))] := hD
  exact mx_rv F hr hlk hP hD hS (q_1) [0, 1] rfl (by decide) trivial (by decide) (by decide) d_Mem_init_13
set_option maxHeartbeats 4000000 in
set_option maxRecDepth 100000 in
theorem c_Reg_init (l : Launch) (K : mx_K) (h0 : Nat) (sz : Nat) : mx_V l y_Reg_init b_Reg_init 1 { frames := 1, cells := 3, slots := 584, locals := 20 } K [.ref h0] [(h0, .inr (2, [.int 0, .int 0, .int 0, .null, .null, .null]))] sz (fun u : Nat × Nat × Nat => True) (fun u : Nat × Nat × Nat => [(h0, .inr (2, [.int 0, .int 0, .int 255, .ref u.1, .ref u.2.1, .ref u.2.2])), (u.1, .inl (K.2.1.1, 256, .inr (.inl (fun _ => 0)))), (u.2.1, .inl (K.2.1.1, 28, .inr (.inl (fun _ => 0)))), (u.2.2, .inl (K.2.1.1, 300, .inr (.inl (fun _ => 0))))]) := by
  refine mx_of (by decide) (Nat.le_of_ble_eq_true rfl) ?_
  intro p e s m below meth c A ls H locs hAe F hr hlk hin hsz hP hD hS hl
  rw [hAe]
  have hl : lv_has ls 1 [(0, .ref h0)] := hl
  obtain ⟨hx, hb, hml, hown, hT, hK, hN, hE, hA⟩ := id F
  refine lv_aload_n hx hb d_Reg_init_0 rfl (lv_at hl 0 rfl) ?_
  refine W.objInit hx hb hown (hT _ k_47) (hT _ k_28) (hT _ k_29) rfl (by rw [hml]; exact hl.1) rfl d_Reg_init_1 (by decide) (Nat.le_of_ble_eq_true rfl) ?_
  refine W.eq (g2 := F0 m 4 ls []) rfl ?_
  refine lv_aload_n hx hb d_Reg_init_4 rfl (lv_at hl 0 rfl) ?_
  refine lv_sipush (v := 256) hx hb d_Reg_init_5 (by decide) ?_
  refine mx_newa (a0 := (256, .inr (.inl (fun _ => 0)))) (N' := 256) F k_41 rfl 0 rfl hP hD hS (fun _ => rfl) (by decide) (by decide) (by decide) (by decide) (by decide) d_Reg_init_8 (fun _ h => by cases h) (fun q_1 H hP hD hS => ?_)
  have hP : va_P K.1 mx_cl [(h0, .inr (2, [.int 0, .int 0, .int 0, .null, .null, .null])), (q_1, .inl (K.2.1.1, 256, .inr (.inl (fun _ => 0))))] H := hP
  have hD : va_D A [(h0, .inr (2, [.int 0, .int 0, .int 0, .null, .null, .null])), (q_1, .inl (K.2.1.1, 256, .inr (.inl (fun _ => 0))))] := hD
  refine W.cs (cells' := 1) (slots' := 256) rfl rfl ?_
  refine va_putF (D := K.1) (ci := 2) (v := .ref q_1) (ty := (.array .long)) (C := R_Reg) (T := T_Reg) (N := 6) hx hb hT in_Reg t_Reg t_Reg_ok n_Reg hown hK hP hD hS 0 rfl rfl 3 (by decide) (hT _ k_48) (fun _ h9 => h9) rfl hin rfl (by decide +kernel) rfl rfl (Nat.le_of_ble_eq_true rfl) d_Reg_init_10 (fun H locs hP hD hS => ?_)
  have hP : va_P K.1 mx_cl [(h0, .inr (2, [.int 0, .int 0, .int 0, .ref q_1, .null, .null])), (q_1, .inl (K.2.1.1, 256, .inr (.inl (fun _ => 0))))] H := hP
  have hD : va_D A [(h0, .inr (2, [.int 0, .int 0, .int 0, .ref q_1, .null, .null])), (q_1, .inl (K.2.1.1, 256, .inr (.inl (fun _ => 0))))] := hD
  refine lv_aload_n hx hb d_Reg_init_13 rfl (lv_at hl 0 rfl) ?_
  refine lv_bipush (v := 28) hx hb d_Reg_init_14 (by decide) ?_
  refine mx_newa (a0 := (28, .inr (.inl (fun _ => 0)))) (N' := 28) F k_41 rfl 0 rfl hP hD hS (fun _ => rfl) (by decide) (by decide) (by decide) (by decide) (by decide) d_Reg_init_16 (fun _ h => by cases h) (fun q_2 H hP hD hS => ?_)
  have hP : va_P K.1 mx_cl [(h0, .inr (2, [.int 0, .int 0, .int 0, .ref q_1, .null, .null])), (q_1, .inl (K.2.1.1, 256, .inr (.inl (fun _ => 0)))), (q_2, .inl (K.2.1.1, 28, .inr (.inl (fun _ => 0))))] H := hP
  have hD : va_D A [(h0, .inr (2, [.int 0, .int 0, .int 0, .ref q_1, .null, .null])), (q_1, .inl (K.2.1.1, 256, .inr (.inl (fun _ => 0)))), (q_2, .inl (K.2.1.1, 28, .inr (.inl (fun _ => 0))))] := hD
  refine W.cs (cells' := 2) (slots' := 284) rfl rfl ?_
  refine va_putF (D := K.1) (ci := 2) (v := .ref q_2) (ty := (.array .long)) (C := R_Reg) (T := T_Reg) (N := 6) hx hb hT in_Reg t_Reg t_Reg_ok n_Reg hown hK hP hD hS 0 rfl rfl 4 (by decide) (hT _ k_49) (fun _ h9 => h9) rfl hin rfl (by decide +kernel) rfl rfl (Nat.le_of_ble_eq_true rfl) d_Reg_init_18 (fun H locs hP hD hS => ?_)
  have hP : va_P K.1 mx_cl [(h0, .inr (2, [.int 0, .int 0, .int 0, .ref q_1, .ref q_2, .null])), (q_1, .inl (K.2.1.1, 256, .inr (.inl (fun _ => 0)))), (q_2, .inl (K.2.1.1, 28, .inr (.inl (fun _ => 0))))] H := hP
  have hD : va_D A [(h0, .inr (2, [.int 0, .int 0, .int 0, .ref q_1, .ref q_2, .null])), (q_1, .inl (K.2.1.1, 256, .inr (.inl (fun _ => 0)))), (q_2, .inl (K.2.1.1, 28, .inr (.inl (fun _ => 0))))] := hD
  refine lv_aload_n hx hb d_Reg_init_21 rfl (lv_at hl 0 rfl) ?_
  refine lv_sipush (v := 300) hx hb d_Reg_init_22 (by decide) ?_
  refine mx_newa (a0 := (300, .inr (.inl (fun _ => 0)))) (N' := 300) F k_41 rfl 0 rfl hP hD hS (fun _ => rfl) (by decide) (by decide) (by decide) (by decide) (by decide) d_Reg_init_25 (fun _ h => by cases h) (fun q_3 H hP hD hS => ?_)
  have hP : va_P K.1 mx_cl [(h0, .inr (2, [.int 0, .int 0, .int 0, .ref q_1, .ref q_2, .null])), (q_1, .inl (K.2.1.1, 256, .inr (.inl (fun _ => 0)))), (q_2, .inl (K.2.1.1, 28, .inr (.inl (fun _ => 0)))), (q_3, .inl (K.2.1.1, 300, .inr (.inl (fun _ => 0))))] H := hP
  have hD : va_D A [(h0, .inr (2, [.int 0, .int 0, .int 0, .ref q_1, .ref q_2, .null])), (q_1, .inl (K.2.1.1, 256, .inr (.inl (fun _ => 0)))), (q_2, .inl (K.2.1.1, 28, .inr (.inl (fun _ => 0)))), (q_3, .inl (K.2.1.1, 300, .inr (.inl (fun _ => 0))))] := hD
  refine W.cs (cells' := 3) (slots' := 584) rfl rfl ?_
  refine va_putF (D := K.1) (ci := 2) (v := .ref q_3) (ty := (.array .long)) (C := R_Reg) (T := T_Reg) (N := 6) hx hb hT in_Reg t_Reg t_Reg_ok n_Reg hown hK hP hD hS 0 rfl rfl 5 (by decide) (hT _ k_50) (fun _ h9 => h9) rfl hin rfl (by decide +kernel) rfl rfl (Nat.le_of_ble_eq_true rfl) d_Reg_init_27 (fun H locs hP hD hS => ?_)
  have hP : va_P K.1 mx_cl [(h0, .inr (2, [.int 0, .int 0, .int 0, .ref q_1, .ref q_2, .ref q_3])), (q_1, .inl (K.2.1.1, 256, .inr (.inl (fun _ => 0)))), (q_2, .inl (K.2.1.1, 28, .inr (.inl (fun _ => 0)))), (q_3, .inl (K.2.1.1, 300, .inr (.inl (fun _ => 0))))] H := hP
  have hD : va_D A [(h0, .inr (2, [.int 0, .int 0, .int 0, .ref q_1, .ref q_2, .ref q_3])), (q_1, .inl (K.2.1.1, 256, .inr (.inl (fun _ => 0)))), (q_2, .inl (K.2.1.1, 28, .inr (.inl (fun _ => 0)))), (q_3, .inl (K.2.1.1, 300, .inr (.inl (fun _ => 0))))] := hD
  refine lv_aload_n hx hb d_Reg_init_30 rfl (lv_at hl 0 rfl) ?_
  refine lv_sipush (v := 255) hx hb d_Reg_init_31 (by decide) ?_
  refine va_put (D := K.1) (ci := 2) (v := .int 255) (ty := .int) (C := R_Reg) (T := T_Reg) (N := 6) hx hb hT in_Reg t_Reg t_Reg_ok n_Reg hown hK hP hD hS 0 rfl rfl 2 (by decide) (hT _ k_54) (fun _ h9 => h9) rfl (by decide +kernel) rfl rfl (Nat.le_of_ble_eq_true rfl) d_Reg_init_34 (fun H locs hP hD hS => ?_)
  have hP : va_P K.1 mx_cl [(h0, .inr (2, [.int 0, .int 0, .int 255, .ref q_1, .ref q_2, .ref q_3])), (q_1, .inl (K.2.1.1, 256, .inr (.inl (fun _ => 0)))), (q_2, .inl (K.2.1.1, 28, .inr (.inl (fun _ => 0)))), (q_3, .inl (K.2.1.1, 300, .inr (.inl (fun _ => 0))))] H := hP
  have hD : va_D A [(h0, .inr (2, [.int 0, .int 0, .int 255, .ref q_1, .ref q_2, .ref q_3])), (q_1, .inl (K.2.1.1, 256, .inr (.inl (fun _ => 0)))), (q_2, .inl (K.2.1.1, 28, .inr (.inl (fun _ => 0)))), (q_3, .inl (K.2.1.1, 300, .inr (.inl (fun _ => 0))))] := hD
  exact mx_rv F hr hlk hP hD hS (q_1, q_2, q_3) [0, 1, 2, 3] rfl (by decide) trivial (by decide) (by decide) d_Reg_init_37
set_option maxHeartbeats 4000000 in
set_option maxRecDepth 100000 in
theorem c_Opd_init (l : Launch) (K : mx_K) (h0 : Nat) (sz : Nat) : mx_V l y_Opd_init b_Opd_init 1 { frames := 1, cells := 2, slots := 6, locals := 20 } K [.ref h0] [(h0, .inr (7, [.int 0, .int 0, .int 0, .int 0, .null, .null]))] sz (fun u : Nat × Nat => True) (fun u : Nat × Nat => [(h0, .inr (7, [.int 0, .int 0, .int 0, .int 0, .ref u.1, .ref u.2])), (u.1, .inl (K.2.1.1, 3, .inr (.inl (fun _ => 0)))), (u.2, .inl (K.2.1.2.2.2, 3, .inl (fun _ => 0)))]) := by
  refine mx_of (by decide) (Nat.le_of_ble_eq_true rfl) ?_
  intro p e s m below meth c A ls H locs hAe F hr hlk hin hsz hP hD hS hl
  rw [hAe]
  have hl : lv_has ls 1 [(0, .ref h0)] := hl
  obtain ⟨hx, hb, hml, hown, hT, hK, hN, hE, hA⟩ := id F
  refine lv_aload_n hx hb d_Opd_init_0 rfl (lv_at hl 0 rfl) ?_
  refine W.objInit hx hb hown (hT _ k_79) (hT _ k_28) (hT _ k_29) rfl (by rw [hml]; exact hl.1) rfl d_Opd_init_1 (by decide) (Nat.le_of_ble_eq_true rfl) ?_
  refine W.eq (g2 := F0 m 4 ls []) rfl ?_
  refine lv_aload_n hx hb d_Opd_init_4 rfl (lv_at hl 0 rfl) ?_
  refine lv_iconst (v := 3) hx hb d_Opd_init_5 (by decide) ?_
  refine mx_newa (a0 := (3, .inr (.inl (fun _ => 0)))) (N' := 3) F k_41 rfl 0 rfl hP hD hS (fun _ => rfl) (by decide) (by decide) (by decide) (by decide) (by decide) d_Opd_init_6 (fun _ h => by cases h) (fun q_1 H hP hD hS => ?_)
  have hP : va_P K.1 mx_cl [(h0, .inr (7, [.int 0, .int 0, .int 0, .int 0, .null, .null])), (q_1, .inl (K.2.1.1, 3, .inr (.inl (fun _ => 0))))] H := hP
  have hD : va_D A [(h0, .inr (7, [.int 0, .int 0, .int 0, .int 0, .null, .null])), (q_1, .inl (K.2.1.1, 3, .inr (.inl (fun _ => 0))))] := hD
  refine W.cs (cells' := 1) (slots' := 3) rfl rfl ?_
  refine va_putF (D := K.1) (ci := 7) (v := .ref q_1) (ty := (.array .long)) (C := R_Opd) (T := T_Opd) (N := 6) hx hb hT in_Opd t_Opd t_Opd_ok n_Opd hown hK hP hD hS 0 rfl rfl 4 (by decide) (hT _ k_80) (fun _ h9 => h9) rfl hin rfl (by decide +kernel) rfl rfl (Nat.le_of_ble_eq_true rfl) d_Opd_init_8 (fun H locs hP hD hS => ?_)
  have hP : va_P K.1 mx_cl [(h0, .inr (7, [.int 0, .int 0, .int 0, .int 0, .ref q_1, .null])), (q_1, .inl (K.2.1.1, 3, .inr (.inl (fun _ => 0))))] H := hP
  have hD : va_D A [(h0, .inr (7, [.int 0, .int 0, .int 0, .int 0, .ref q_1, .null])), (q_1, .inl (K.2.1.1, 3, .inr (.inl (fun _ => 0))))] := hD
  refine lv_aload_n hx hb d_Opd_init_11 rfl (lv_at hl 0 rfl) ?_
  refine lv_iconst (v := 3) hx hb d_Opd_init_12 (by decide) ?_
  refine mx_newa (a0 := (3, .inl (fun _ => 0))) (N' := 3) F k_105 rfl 3 rfl hP hD hS (fun _ => rfl) (by decide) (by decide) (by decide) (by decide) (by decide) d_Opd_init_13 (fun _ h => by cases h) (fun q_2 H hP hD hS => ?_)
  have hP : va_P K.1 mx_cl [(h0, .inr (7, [.int 0, .int 0, .int 0, .int 0, .ref q_1, .null])), (q_1, .inl (K.2.1.1, 3, .inr (.inl (fun _ => 0)))), (q_2, .inl (K.2.1.2.2.2, 3, .inl (fun _ => 0)))] H := hP
  have hD : va_D A [(h0, .inr (7, [.int 0, .int 0, .int 0, .int 0, .ref q_1, .null])), (q_1, .inl (K.2.1.1, 3, .inr (.inl (fun _ => 0)))), (q_2, .inl (K.2.1.2.2.2, 3, .inl (fun _ => 0)))] := hD
  refine W.cs (cells' := 2) (slots' := 6) rfl rfl ?_
  refine va_putF (D := K.1) (ci := 7) (v := .ref q_2) (ty := (.array .boolean)) (C := R_Opd) (T := T_Opd) (N := 6) hx hb hT in_Opd t_Opd t_Opd_ok n_Opd hown hK hP hD hS 0 rfl rfl 5 (by decide) (hT _ k_82) (fun _ h9 => h9) rfl hin rfl (by decide +kernel) rfl rfl (Nat.le_of_ble_eq_true rfl) d_Opd_init_15 (fun H locs hP hD hS => ?_)
  have hP : va_P K.1 mx_cl [(h0, .inr (7, [.int 0, .int 0, .int 0, .int 0, .ref q_1, .ref q_2])), (q_1, .inl (K.2.1.1, 3, .inr (.inl (fun _ => 0)))), (q_2, .inl (K.2.1.2.2.2, 3, .inl (fun _ => 0)))] H := hP
  have hD : va_D A [(h0, .inr (7, [.int 0, .int 0, .int 0, .int 0, .ref q_1, .ref q_2])), (q_1, .inl (K.2.1.1, 3, .inr (.inl (fun _ => 0)))), (q_2, .inl (K.2.1.2.2.2, 3, .inl (fun _ => 0)))] := hD
  exact mx_rv F hr hlk hP hD hS (q_1, q_2) [0, 1, 2] rfl (by decide) trivial (by decide) (by decide) d_Opd_init_18
set_option maxHeartbeats 4000000 in
set_option maxRecDepth 100000 in
theorem c_Lab_init (l : Launch) (K : mx_K) (h0 : Nat) (t : Nat) (sz : Nat) : mx_V l y_Lab_init b_Lab_init 2 { frames := 1, cells := 4, slots := 160, locals := 20 } K [.ref h0, .ref t] [(h0, .inr (5, [.int 0, .null, .null, .null, .null, .null]))] sz (fun u : Nat × Nat × Nat × Nat => True) (fun u : Nat × Nat × Nat × Nat => [(h0, .inr (5, [.int 0, .ref t, .ref u.1, .ref u.2.1, .ref u.2.2.1, .ref u.2.2.2])), (u.1, .inl (K.2.1.2.1, 40, .inl (fun _ => 0))), (u.2.1, .inl (K.2.1.2.1, 40, .inl (fun _ => 0))), (u.2.2.1, .inl (K.2.1.1, 40, .inr (.inl (fun _ => 0)))), (u.2.2.2, .inl (K.2.1.2.2.2, 40, .inl (fun _ => 0)))]) := by
  refine mx_of (by decide) (Nat.le_of_ble_eq_true rfl) ?_
  intro p e s m below meth c A ls H locs hAe F hr hlk hin hsz hP hD hS hl
  rw [hAe]
  have hl : lv_has ls 2 [(0, .ref h0), (1, .ref t)] := hl
  obtain ⟨hx, hb, hml, hown, hT, hK, hN, hE, hA⟩ := id F
  refine lv_aload_n hx hb d_Lab_init_0 rfl (lv_at hl 0 rfl) ?_
  refine W.objInit hx hb hown (hT _ k_113) (hT _ k_28) (hT _ k_29) rfl (by rw [hml]; exact hl.1) rfl d_Lab_init_1 (by decide) (Nat.le_of_ble_eq_true rfl) ?_
  refine W.eq (g2 := F0 m 4 ls []) rfl ?_
  refine lv_aload_n hx hb d_Lab_init_4 rfl (lv_at hl 0 rfl) ?_
  refine lv_bipush (v := 40) hx hb d_Lab_init_5 (by decide) ?_
  refine mx_newa (a0 := (40, .inl (fun _ => 0))) (N' := 40) F k_133 rfl 1 rfl hP hD hS (fun _ => rfl) (by decide) (by decide) (by decide) (by decide) (by decide) d_Lab_init_7 (fun _ h => by cases h) (fun q_1 H hP hD hS => ?_)
  have hP : va_P K.1 mx_cl [(h0, .inr (5, [.int 0, .null, .null, .null, .null, .null])), (q_1, .inl (K.2.1.2.1, 40, .inl (fun _ => 0)))] H := hP
  have hD : va_D A [(h0, .inr (5, [.int 0, .null, .null, .null, .null, .null])), (q_1, .inl (K.2.1.2.1, 40, .inl (fun _ => 0)))] := hD
  refine W.cs (cells' := 1) (slots' := 40) rfl rfl ?_
  refine va_putF (D := K.1) (ci := 5) (v := .ref q_1) (ty := (.array .int)) (C := R_Lab) (T := T_Lab) (N := 6) hx hb hT in_Lab t_Lab t_Lab_ok n_Lab hown hK hP hD hS 0 rfl rfl 2 (by decide) (hT _ k_115) (fun _ h9 => h9) rfl hin rfl (by decide +kernel) rfl rfl (Nat.le_of_ble_eq_true rfl) d_Lab_init_9 (fun H locs hP hD hS => ?_)
  have hP : va_P K.1 mx_cl [(h0, .inr (5, [.int 0, .null, .ref q_1, .null, .null, .null])), (q_1, .inl (K.2.1.2.1, 40, .inl (fun _ => 0)))] H := hP
  have hD : va_D A [(h0, .inr (5, [.int 0, .null, .ref q_1, .null, .null, .null])), (q_1, .inl (K.2.1.2.1, 40, .inl (fun _ => 0)))] := hD
  refine lv_aload_n hx hb d_Lab_init_12 rfl (lv_at hl 0 rfl) ?_
  refine lv_bipush (v := 40) hx hb d_Lab_init_13 (by decide) ?_
  refine mx_newa (a0 := (40, .inl (fun _ => 0))) (N' := 40) F k_133 rfl 1 rfl hP hD hS (fun _ => rfl) (by decide) (by decide) (by decide) (by decide) (by decide) d_Lab_init_15 (fun _ h => by cases h) (fun q_2 H hP hD hS => ?_)
  have hP : va_P K.1 mx_cl [(h0, .inr (5, [.int 0, .null, .ref q_1, .null, .null, .null])), (q_1, .inl (K.2.1.2.1, 40, .inl (fun _ => 0))), (q_2, .inl (K.2.1.2.1, 40, .inl (fun _ => 0)))] H := hP
  have hD : va_D A [(h0, .inr (5, [.int 0, .null, .ref q_1, .null, .null, .null])), (q_1, .inl (K.2.1.2.1, 40, .inl (fun _ => 0))), (q_2, .inl (K.2.1.2.1, 40, .inl (fun _ => 0)))] := hD
  refine W.cs (cells' := 2) (slots' := 80) rfl rfl ?_
  refine va_putF (D := K.1) (ci := 5) (v := .ref q_2) (ty := (.array .int)) (C := R_Lab) (T := T_Lab) (N := 6) hx hb hT in_Lab t_Lab t_Lab_ok n_Lab hown hK hP hD hS 0 rfl rfl 3 (by decide) (hT _ k_116) (fun _ h9 => h9) rfl hin rfl (by decide +kernel) rfl rfl (Nat.le_of_ble_eq_true rfl) d_Lab_init_17 (fun H locs hP hD hS => ?_)
  have hP : va_P K.1 mx_cl [(h0, .inr (5, [.int 0, .null, .ref q_1, .ref q_2, .null, .null])), (q_1, .inl (K.2.1.2.1, 40, .inl (fun _ => 0))), (q_2, .inl (K.2.1.2.1, 40, .inl (fun _ => 0)))] H := hP
  have hD : va_D A [(h0, .inr (5, [.int 0, .null, .ref q_1, .ref q_2, .null, .null])), (q_1, .inl (K.2.1.2.1, 40, .inl (fun _ => 0))), (q_2, .inl (K.2.1.2.1, 40, .inl (fun _ => 0)))] := hD
  refine lv_aload_n hx hb d_Lab_init_20 rfl (lv_at hl 0 rfl) ?_
  refine lv_bipush (v := 40) hx hb d_Lab_init_21 (by decide) ?_
  refine mx_newa (a0 := (40, .inr (.inl (fun _ => 0)))) (N' := 40) F k_41 rfl 0 rfl hP hD hS (fun _ => rfl) (by decide) (by decide) (by decide) (by decide) (by decide) d_Lab_init_23 (fun _ h => by cases h) (fun q_3 H hP hD hS => ?_)
  have hP : va_P K.1 mx_cl [(h0, .inr (5, [.int 0, .null, .ref q_1, .ref q_2, .null, .null])), (q_1, .inl (K.2.1.2.1, 40, .inl (fun _ => 0))), (q_2, .inl (K.2.1.2.1, 40, .inl (fun _ => 0))), (q_3, .inl (K.2.1.1, 40, .inr (.inl (fun _ => 0))))] H := hP
  have hD : va_D A [(h0, .inr (5, [.int 0, .null, .ref q_1, .ref q_2, .null, .null])), (q_1, .inl (K.2.1.2.1, 40, .inl (fun _ => 0))), (q_2, .inl (K.2.1.2.1, 40, .inl (fun _ => 0))), (q_3, .inl (K.2.1.1, 40, .inr (.inl (fun _ => 0))))] := hD
  refine W.cs (cells' := 3) (slots' := 120) rfl rfl ?_
  refine va_putF (D := K.1) (ci := 5) (v := .ref q_3) (ty := (.array .long)) (C := R_Lab) (T := T_Lab) (N := 6) hx hb hT in_Lab t_Lab t_Lab_ok n_Lab hown hK hP hD hS 0 rfl rfl 4 (by decide) (hT _ k_117) (fun _ h9 => h9) rfl hin rfl (by decide +kernel) rfl rfl (Nat.le_of_ble_eq_true rfl) d_Lab_init_25 (fun H locs hP hD hS => ?_)
  have hP : va_P K.1 mx_cl [(h0, .inr (5, [.int 0, .null, .ref q_1, .ref q_2, .ref q_3, .null])), (q_1, .inl (K.2.1.2.1, 40, .inl (fun _ => 0))), (q_2, .inl (K.2.1.2.1, 40, .inl (fun _ => 0))), (q_3, .inl (K.2.1.1, 40, .inr (.inl (fun _ => 0))))] H := hP
  have hD : va_D A [(h0, .inr (5, [.int 0, .null, .ref q_1, .ref q_2, .ref q_3, .null])), (q_1, .inl (K.2.1.2.1, 40, .inl (fun _ => 0))), (q_2, .inl (K.2.1.2.1, 40, .inl (fun _ => 0))), (q_3, .inl (K.2.1.1, 40, .inr (.inl (fun _ => 0))))] := hD
  refine lv_aload_n hx hb d_Lab_init_28 rfl (lv_at hl 0 rfl) ?_
  refine lv_bipush (v := 40) hx hb d_Lab_init_29 (by decide) ?_
  refine mx_newa (a0 := (40, .inl (fun _ => 0))) (N' := 40) F k_105 rfl 3 rfl hP hD hS (fun _ => rfl) (by decide) (by decide) (by decide) (by decide) (by decide) d_Lab_init_31 (fun _ h => by cases h) (fun q_4 H hP hD hS => ?_)
  have hP : va_P K.1 mx_cl [(h0, .inr (5, [.int 0, .null, .ref q_1, .ref q_2, .ref q_3, .null])), (q_1, .inl (K.2.1.2.1, 40, .inl (fun _ => 0))), (q_2, .inl (K.2.1.2.1, 40, .inl (fun _ => 0))), (q_3, .inl (K.2.1.1, 40, .inr (.inl (fun _ => 0)))), (q_4, .inl (K.2.1.2.2.2, 40, .inl (fun _ => 0)))] H := hP
  have hD : va_D A [(h0, .inr (5, [.int 0, .null, .ref q_1, .ref q_2, .ref q_3, .null])), (q_1, .inl (K.2.1.2.1, 40, .inl (fun _ => 0))), (q_2, .inl (K.2.1.2.1, 40, .inl (fun _ => 0))), (q_3, .inl (K.2.1.1, 40, .inr (.inl (fun _ => 0)))), (q_4, .inl (K.2.1.2.2.2, 40, .inl (fun _ => 0)))] := hD
  refine W.cs (cells' := 4) (slots' := 160) rfl rfl ?_
  refine va_putF (D := K.1) (ci := 5) (v := .ref q_4) (ty := (.array .boolean)) (C := R_Lab) (T := T_Lab) (N := 6) hx hb hT in_Lab t_Lab t_Lab_ok n_Lab hown hK hP hD hS 0 rfl rfl 5 (by decide) (hT _ k_118) (fun _ h9 => h9) rfl hin rfl (by decide +kernel) rfl rfl (Nat.le_of_ble_eq_true rfl) d_Lab_init_33 (fun H locs hP hD hS => ?_)
  have hP : va_P K.1 mx_cl [(h0, .inr (5, [.int 0, .null, .ref q_1, .ref q_2, .ref q_3, .ref q_4])), (q_1, .inl (K.2.1.2.1, 40, .inl (fun _ => 0))), (q_2, .inl (K.2.1.2.1, 40, .inl (fun _ => 0))), (q_3, .inl (K.2.1.1, 40, .inr (.inl (fun _ => 0)))), (q_4, .inl (K.2.1.2.2.2, 40, .inl (fun _ => 0)))] H := hP
  have hD : va_D A [(h0, .inr (5, [.int 0, .null, .ref q_1, .ref q_2, .ref q_3, .ref q_4])), (q_1, .inl (K.2.1.2.1, 40, .inl (fun _ => 0))), (q_2, .inl (K.2.1.2.1, 40, .inl (fun _ => 0))), (q_3, .inl (K.2.1.1, 40, .inr (.inl (fun _ => 0)))), (q_4, .inl (K.2.1.2.2.2, 40, .inl (fun _ => 0)))] := hD
  refine lv_aload_n hx hb d_Lab_init_36 rfl (lv_at hl 0 rfl) ?_
  refine lv_aload_n hx hb d_Lab_init_37 rfl (lv_at hl 1 rfl) ?_
  refine va_putF (D := K.1) (ci := 5) (v := .ref t) (ty := (.array .char)) (C := R_Lab) (T := T_Lab) (N := 6) hx hb hT in_Lab t_Lab t_Lab_ok n_Lab hown hK hP hD hS 0 rfl rfl 1 (by decide) (hT _ k_114) (fun _ h9 => h9) rfl hin rfl (by decide +kernel) rfl rfl (Nat.le_of_ble_eq_true rfl) d_Lab_init_38 (fun H locs hP hD hS => ?_)
  have hP : va_P K.1 mx_cl [(h0, .inr (5, [.int 0, .ref t, .ref q_1, .ref q_2, .ref q_3, .ref q_4])), (q_1, .inl (K.2.1.2.1, 40, .inl (fun _ => 0))), (q_2, .inl (K.2.1.2.1, 40, .inl (fun _ => 0))), (q_3, .inl (K.2.1.1, 40, .inr (.inl (fun _ => 0)))), (q_4, .inl (K.2.1.2.2.2, 40, .inl (fun _ => 0)))] H := hP
  have hD : va_D A [(h0, .inr (5, [.int 0, .ref t, .ref q_1, .ref q_2, .ref q_3, .ref q_4])), (q_1, .inl (K.2.1.2.1, 40, .inl (fun _ => 0))), (q_2, .inl (K.2.1.2.1, 40, .inl (fun _ => 0))), (q_3, .inl (K.2.1.1, 40, .inr (.inl (fun _ => 0)))), (q_4, .inl (K.2.1.2.2.2, 40, .inl (fun _ => 0)))] := hD
  exact mx_rv F hr hlk hP hD hS (q_1, q_2, q_3, q_4) [0, 1, 2, 3, 4] rfl (by decide) trivial (by decide) (by decide) d_Lab_init_41
set_option maxHeartbeats 4000000 in
set_option maxRecDepth 100000 in
theorem c_Sum_init (l : Launch) (K : mx_K) (h0 : Nat) (t : Nat) (b : Nat) (sz : Nat) : mx_V l y_Sum_init b_Sum_init 3 { frames := 1, cells := 0, slots := 0, locals := 20 } K [.ref h0, .ref t, .ref b] [(h0, .inr (6, [.int 0, .int 0, .long 0, .int 0, .int 0, .long 0, .int 0, .int 0, .long 0, .null, .null]))] sz (fun u : Unit => True) (fun u : Unit => [(h0, .inr (6, [.int 0, .int 0, .long 0, .int 0, .int 0, .long 0, .int 0, .int 0, .long 0, .ref t, .ref b]))]) := by
  refine mx_of (by decide) (Nat.le_of_ble_eq_true rfl) ?_
  intro p e s m below meth c A ls H locs hAe F hr hlk hin hsz hP hD hS hl
  rw [hAe]
  have hl : lv_has ls 3 [(0, .ref h0), (1, .ref t), (2, .ref b)] := hl
  obtain ⟨hx, hb, hml, hown, hT, hK, hN, hE, hA⟩ := id F
  refine lv_aload_n hx hb d_Sum_init_0 rfl (lv_at hl 0 rfl) ?_
  refine W.objInit hx hb hown (hT _ k_249) (hT _ k_28) (hT _ k_29) rfl (by rw [hml]; exact hl.1) rfl d_Sum_init_1 (by decide) (Nat.le_of_ble_eq_true rfl) ?_
  refine W.eq (g2 := F0 m 4 ls []) rfl ?_
  refine lv_aload_n hx hb d_Sum_init_4 rfl (lv_at hl 0 rfl) ?_
  refine lv_aload_n hx hb d_Sum_init_5 rfl (lv_at hl 1 rfl) ?_
  refine va_putF (D := K.1) (ci := 6) (v := .ref t) (ty := (.array .char)) (C := R_Sum) (T := T_Sum) (N := 11) hx hb hT in_Sum t_Sum t_Sum_ok n_Sum hown hK hP hD hS 0 rfl rfl 9 (by decide) (hT _ k_250) (fun _ h9 => h9) rfl hin rfl (by decide +kernel) rfl rfl (Nat.le_of_ble_eq_true rfl) d_Sum_init_6 (fun H locs hP hD hS => ?_)
  have hP : va_P K.1 mx_cl [(h0, .inr (6, [.int 0, .int 0, .long 0, .int 0, .int 0, .long 0, .int 0, .int 0, .long 0, .ref t, .null]))] H := hP
  have hD : va_D A [(h0, .inr (6, [.int 0, .int 0, .long 0, .int 0, .int 0, .long 0, .int 0, .int 0, .long 0, .ref t, .null]))] := hD
  refine lv_aload_n hx hb d_Sum_init_9 rfl (lv_at hl 0 rfl) ?_
  refine lv_aload_n hx hb d_Sum_init_10 rfl (lv_at hl 2 rfl) ?_
  refine va_putF (D := K.1) (ci := 6) (v := .ref b) (ty := (.object "LittleMix$Labels")) (C := R_Sum) (T := T_Sum) (N := 11) hx hb hT in_Sum t_Sum t_Sum_ok n_Sum hown hK hP hD hS 0 rfl rfl 10 (by decide) (hT _ k_251) (fun _ h9 => h9) rfl hin rfl (by decide +kernel) rfl rfl (Nat.le_of_ble_eq_true rfl) d_Sum_init_11 (fun H locs hP hD hS => ?_)
  have hP : va_P K.1 mx_cl [(h0, .inr (6, [.int 0, .int 0, .long 0, .int 0, .int 0, .long 0, .int 0, .int 0, .long 0, .ref t, .ref b]))] H := hP
  have hD : va_D A [(h0, .inr (6, [.int 0, .int 0, .long 0, .int 0, .int 0, .long 0, .int 0, .int 0, .long 0, .ref t, .ref b]))] := hD
  exact mx_rv F hr hlk hP hD hS () [0] rfl (by decide) trivial (by decide) (by decide) d_Sum_init_14
set_option maxHeartbeats 4000000 in
set_option maxRecDepth 100000 in
theorem c_Mac_init (l : Launch) (K : mx_K) (h0 : Nat) (a : Nat) (b : Nat) (sz : Nat) : mx_V l y_Mac_init b_Mac_init 3 { frames := 1, cells := 0, slots := 0, locals := 20 } K [.ref h0, .ref a, .ref b] [(h0, .inr (9, [.long 0, .int 0, .int 0, .int 0, .int 0, .int 0, .int 0, .int 0, .int 0, .long 0, .long 0, .long 0, .int 0, .int 0, .null, .null]))] sz (fun u : Unit => True) (fun u : Unit => [(h0, .inr (9, [.long 256, .int 0, .int 0, .int 0, .int 0, .int 0, .int 0, .int 0, .int 0, .long 0, .long 0, .long 0, .int 0, .int 0, .ref a, .ref b]))]) := by
  refine mx_of (by decide) (Nat.le_of_ble_eq_true rfl) ?_
  intro p e s m below meth c A ls H locs hAe F hr hlk hin hsz hP hD hS hl
  rw [hAe]
  have hl : lv_has ls 3 [(0, .ref h0), (1, .ref a), (2, .ref b)] := hl
  obtain ⟨hx, hb, hml, hown, hT, hK, hN, hE, hA⟩ := id F
  refine lv_aload_n hx hb d_Mac_init_0 rfl (lv_at hl 0 rfl) ?_
  refine W.objInit hx hb hown (hT _ k_326) (hT _ k_28) (hT _ k_29) rfl (by rw [hml]; exact hl.1) rfl d_Mac_init_1 (by decide) (Nat.le_of_ble_eq_true rfl) ?_
  refine W.eq (g2 := F0 m 4 ls []) rfl ?_
  refine lv_aload_n hx hb d_Mac_init_4 rfl (lv_at hl 0 rfl) ?_
  refine lv_aload_n hx hb d_Mac_init_5 rfl (lv_at hl 1 rfl) ?_
  refine va_putF (D := K.1) (ci := 9) (v := .ref a) (ty := (.object "LittleMix$Memory")) (C := R_Mac) (T := T_Mac) (N := 16) hx hb hT in_Mac t_Mac t_Mac_ok n_Mac hown hK hP hD hS 0 rfl rfl 14 (by decide) (hT _ k_328) (fun _ h9 => h9) rfl hin rfl (by decide +kernel) rfl rfl (Nat.le_of_ble_eq_true rfl) d_Mac_init_6 (fun H locs hP hD hS => ?_)
  have hP : va_P K.1 mx_cl [(h0, .inr (9, [.long 0, .int 0, .int 0, .int 0, .int 0, .int 0, .int 0, .int 0, .int 0, .long 0, .long 0, .long 0, .int 0, .int 0, .ref a, .null]))] H := hP
  have hD : va_D A [(h0, .inr (9, [.long 0, .int 0, .int 0, .int 0, .int 0, .int 0, .int 0, .int 0, .int 0, .long 0, .long 0, .long 0, .int 0, .int 0, .ref a, .null]))] := hD
  refine lv_aload_n hx hb d_Mac_init_9 rfl (lv_at hl 0 rfl) ?_
  refine lv_aload_n hx hb d_Mac_init_10 rfl (lv_at hl 2 rfl) ?_
  refine va_putF (D := K.1) (ci := 9) (v := .ref b) (ty := (.object "LittleMix$Registers")) (C := R_Mac) (T := T_Mac) (N := 16) hx hb hT in_Mac t_Mac t_Mac_ok n_Mac hown hK hP hD hS 0 rfl rfl 15 (by decide) (hT _ k_329) (fun _ h9 => h9) rfl hin rfl (by decide +kernel) rfl rfl (Nat.le_of_ble_eq_true rfl) d_Mac_init_11 (fun H locs hP hD hS => ?_)
  have hP : va_P K.1 mx_cl [(h0, .inr (9, [.long 0, .int 0, .int 0, .int 0, .int 0, .int 0, .int 0, .int 0, .int 0, .long 0, .long 0, .long 0, .int 0, .int 0, .ref a, .ref b]))] H := hP
  have hD : va_D A [(h0, .inr (9, [.long 0, .int 0, .int 0, .int 0, .int 0, .int 0, .int 0, .int 0, .int 0, .long 0, .long 0, .long 0, .int 0, .int 0, .ref a, .ref b]))] := hD
  refine lv_aload_n hx hb d_Mac_init_14 rfl (lv_at hl 0 rfl) ?_
  refine lv_ldc2 (v := 256) hx hb hown (hT _ k_327) d_Mac_init_15 ?_
  refine va_put (D := K.1) (ci := 9) (v := .long 256) (ty := .long) (C := R_Mac) (T := T_Mac) (N := 16) hx hb hT in_Mac t_Mac t_Mac_ok n_Mac hown hK hP hD hS 0 rfl rfl 0 (by decide) (hT _ k_330) (fun _ h9 => h9) rfl (by decide +kernel) rfl rfl (Nat.le_of_ble_eq_true rfl) d_Mac_init_18 (fun H locs hP hD hS => ?_)
  have hP : va_P K.1 mx_cl [(h0, .inr (9, [.long 256, .int 0, .int 0, .int 0, .int 0, .int 0, .int 0, .int 0, .int 0, .long 0, .long 0, .long 0, .int 0, .int 0, .ref a, .ref b]))] H := hP
  have hD : va_D A [(h0, .inr (9, [.long 256, .int 0, .int 0, .int 0, .int 0, .int 0, .int 0, .int 0, .int 0, .long 0, .long 0, .long 0, .int 0, .int 0, .ref a, .ref b]))] := hD
  exact mx_rv F hr hlk hP hD hS () [0] rfl (by decide) trivial (by decide) (by decide) d_Mac_init_21
