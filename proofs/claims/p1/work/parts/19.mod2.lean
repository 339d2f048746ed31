set_option maxHeartbeats 4000000 in
set_option maxRecDepth 100000 in
theorem c_Mod_feed (l : Launch) (K : mx_K) (zm : Nat) (a1 : Int32) (a2 : Int32) (a3 : Int32) (a4 : Int32) (a5 : Int32) (mt : Nat) (mx : Nat) (mla : Nat) (mll : Nat) (mli : Nat) (mlr : Nat) (mk : Nat) (mm : Nat) (md : Nat) (mr : Nat) (ms : Nat) (mst : Nat) (mas : Nat) (sz : Nat) : mx_I l y_Mod_feed b_Mod_feed 8 .boolean { frames := 0, cells := 0, slots := 0, locals := 0 } K [.ref zm, .int a1, .int a2, .int a3, .int a4, .int a5] [(zm, .inr (10, [.int 0, .int 0, .int 0, .int (-1), .int 0, .int 0, .int 0, .int 0, .int 255, .int 0, .int 0, .int 0, .long 256, .long 0, .int 0, .int 0, .long 0, .int 0, .int 0, .int 0, .int 0, .int 0, .int 0, .int 0, .int 0, .long 0, .long 0, .int 0, .long 0, .long 0, .long 0, .ref mt, .ref mx, .ref mla, .ref mll, .ref mli, .ref mlr, .ref mk, .ref mm, .ref md, .ref mr, .ref ms, .ref mst, .ref mas])), (mt, .inl (K.2.1.2.1, 1600, .inl (fun _ => 0)))] sz (fun (r : Int32) (u : Unit) => r = 1) (fun u : Unit => []) := by
  refine mx_of (by decide) (Nat.le_of_ble_eq_true rfl) ?_
  intro p e s m below meth c A ls H locs hAe F hr hlk hin hsz hP hD hS hl
  rw [hAe]
  have hl : lv_has ls 8 [(0, .ref zm), (1, .int a1), (2, .int a2), (3, .int a3), (4, .int a4), (5, .int a5)] := hl
  obtain ⟨hx, hb, hml, hown, hT, hK, hN, hE, hA⟩ := id F
  refine lv_aload_n hx hb d_Mod_feed_0 rfl (lv_at hl 0 rfl) ?_
  refine lv_iconst (v := 0) hx hb d_Mod_feed_1 (by decide) ?_
  refine va_put (D := K.1) (ci := 10) (v := .int 0) (ty := .int) (C := R_Mod) (T := T_Mod) (N := 44) hx hb hT in_Mod t_Mod t_Mod_ok n_Mod hown hK hP hD hS 0 rfl rfl 0 (by decide) (hT _ k_978) (fun _ h9 => h9) rfl (by decide +kernel) rfl rfl (Nat.le_of_ble_eq_true rfl) d_Mod_feed_2 (fun H locs hP hD hS => ?_)
  have hP : va_P K.1 mx_cl [(zm, .inr (10, [.int 0, .int 0, .int 0, .int (-1), .int 0, .int 0, .int 0, .int 0, .int 255, .int 0, .int 0, .int 0, .long 256, .long 0, .int 0, .int 0, .long 0, .int 0, .int 0, .int 0, .int 0, .int 0, .int 0, .int 0, .int 0, .long 0, .long 0, .int 0, .long 0, .long 0, .long 0, .ref mt, .ref mx, .ref mla, .ref mll, .ref mli, .ref mlr, .ref mk, .ref mm, .ref md, .ref mr, .ref ms, .ref mst, .ref mas])), (mt, .inl (K.2.1.2.1, 1600, .inl (fun _ => 0)))] H := hP
  have hD : va_D A [(zm, .inr (10, [.int 0, .int 0, .int 0, .int (-1), .int 0, .int 0, .int 0, .int 0, .int 255, .int 0, .int 0, .int 0, .long 256, .long 0, .int 0, .int 0, .long 0, .int 0, .int 0, .int 0, .int 0, .int 0, .int 0, .int 0, .int 0, .long 0, .long 0, .int 0, .long 0, .long 0, .long 0, .ref mt, .ref mx, .ref mla, .ref mll, .ref mli, .ref mlr, .ref mk, .ref mm, .ref md, .ref mr, .ref ms, .ref mst, .ref mas])), (mt, .inl (K.2.1.2.1, 1600, .inl (fun _ => 0)))] := hD
  refine lv_aload_n hx hb d_Mod_feed_5 rfl (lv_at hl 0 rfl) ?_
  refine va_get (D := K.1) (ci := 10) (v := .int 0) (C := R_Mod) (T := T_Mod) (N := 44) hx hb hT in_Mod hown hK hP 0 rfl rfl 1 (by decide) (hT _ k_981) (fun _ h9 => h9) rfl d_Mod_feed_6 ?_
  refine lv_bipush (v := 20) hx hb d_Mod_feed_9 (by decide) ?_
  refine lv_iadd hx hb d_Mod_feed_11 ?_
  refine lv_topi (fun z1 ez1 => ?_)
  obtain rfl : z1 = 20 := ez1.trans (by decide)
  refine lv_sipush (v := 1600) hx hb d_Mod_feed_12 (by decide) ?_
  refine lv_icmp_le (tgt := 20) hx hb d_Mod_feed_15 (by decide) (fun _ => ?_) (fun h => absurd h (by decide))
  refine lv_iconst (v := 0) hx hb d_Mod_feed_20 (by decide) ?_
  refine lv_istore (lv' := [(6, .int 0), (0, .ref zm), (1, .int a1), (2, .int a2), (3, .int a3), (4, .int a4), (5, .int a5)]) hx hb d_Mod_feed_21 hl (by decide) rfl (fun ls hl => ?_)
  refine lv_iload hx hb d_Mod_feed_23 (lv_at hl 0 rfl) ?_
  refine lv_bipush (v := 20) hx hb d_Mod_feed_25 (by decide) ?_
  refine lv_icmp_ge (tgt := 113) hx hb d_Mod_feed_27 (by decide) (fun h => absurd h (by decide)) (fun _ => ?_)
  refine lv_iload hx hb d_Mod_feed_30 (lv_at hl 0 rfl) ?_
  refine lv_iconst (v := 4) hx hb d_Mod_feed_32 (by decide) ?_
  refine lv_icmp_ge (tgt := 40) hx hb d_Mod_feed_33 (by decide) (fun h => absurd h (by decide)) (fun _ => ?_)
  refine lv_iload_n hx hb d_Mod_feed_36 rfl (lv_at hl 2 rfl) ?_
  refine lv_goto (tgt := 76) hx hb d_Mod_feed_37 (by decide) ?_
  refine lv_istore (lv' := [(7, .int a1), (6, .int 0), (0, .ref zm), (1, .int a1), (2, .int a2), (3, .int a3), (4, .int a4), (5, .int a5)]) hx hb d_Mod_feed_76 hl (by decide) rfl (fun ls hl => ?_)
  refine lv_aload_n hx hb d_Mod_feed_78 rfl (lv_at hl 2 rfl) ?_
  refine va_get (D := K.1) (ci := 10) (v := .ref mt) (C := R_Mod) (T := T_Mod) (N := 44) hx hb hT in_Mod hown hK hP 0 rfl rfl 31 (by decide) (hT _ k_979) (fun _ h9 => h9) rfl d_Mod_feed_79 ?_
  refine lv_aload_n hx hb d_Mod_feed_82 rfl (lv_at hl 2 rfl) ?_
  refine va_get (D := K.1) (ci := 10) (v := .int 0) (C := R_Mod) (T := T_Mod) (N := 44) hx hb hT in_Mod hown hK hP 0 rfl rfl 1 (by decide) (hT _ k_981) (fun _ h9 => h9) rfl d_Mod_feed_83 ?_
  refine lv_iload hx hb d_Mod_feed_86 (lv_at hl 1 rfl) ?_
  refine lv_iadd hx hb d_Mod_feed_88 ?_
  refine lv_topi (fun z5 ez5 => ?_)
  obtain rfl : z5 = 0 := ez5.trans (by decide)
  refine lv_iload hx hb d_Mod_feed_89 (lv_at hl 0 rfl) ?_
  refine lv_bipush (v := 24) hx hb d_Mod_feed_91 (by decide) ?_
  refine lv_bipush (v := 8) hx hb d_Mod_feed_93 (by decide) ?_
  refine lv_iload hx hb d_Mod_feed_95 (lv_at hl 1 rfl) ?_
  refine lv_iconst (v := 4) hx hb d_Mod_feed_97 (by decide) ?_
  refine lv_irem hx hb d_Mod_feed_98 (by decide) ?_
  refine lv_topi (fun z6 ez6 => ?_)
  obtain rfl : z6 = 0 := ez6.trans (by decide)
  refine lv_imul hx hb d_Mod_feed_99 ?_
  refine lv_topi (fun z7 ez7 => ?_)
  obtain rfl : z7 = 0 := ez7.trans (by decide)
  refine lv_isub hx hb d_Mod_feed_100 ?_
  refine lv_topi (fun z8 ez8 => ?_)
  obtain rfl : z8 = 24 := ez8.trans (by decide)
  refine lv_ishr hx hb d_Mod_feed_101 ?_
  refine lv_sipush (v := 255) hx hb d_Mod_feed_102 (by decide) ?_
  refine lv_iand hx hb d_Mod_feed_105 ?_
  refine va_iast hx hb hK hP hD hS 1 1 rfl rfl (i := 0) (x := (a1 >>> ((24 : Int32) &&& 31)) &&& (255 : Int32)) (vp_in_nI (n := 0) (N := 1600) (by decide) (by decide)) d_Mod_feed_106 (fun H locs hP hD hS => ?_)
  have hP : va_P K.1 mx_cl [(zm, .inr (10, [.int 0, .int 0, .int 0, .int (-1), .int 0, .int 0, .int 0, .int 0, .int 255, .int 0, .int 0, .int 0, .long 256, .long 0, .int 0, .int 0, .long 0, .int 0, .int 0, .int 0, .int 0, .int 0, .int 0, .int 0, .int 0, .long 0, .long 0, .int 0, .long 0, .long 0, .long 0, .ref mt, .ref mx, .ref mla, .ref mll, .ref mli, .ref mlr, .ref mk, .ref mm, .ref md, .ref mr, .ref ms, .ref mst, .ref mas])), (mt, .inl (K.2.1.2.1, 1600, .inl (upd (fun _ => 0) (0 : Int32).toNatClampNeg ((a1 >>> ((24 : Int32) &&& 31)) &&& (255 : Int32)))))] H := hP
  have hD : va_D A [(zm, .inr (10, [.int 0, .int 0, .int 0, .int (-1), .int 0, .int 0, .int 0, .int 0, .int 255, .int 0, .int 0, .int 0, .long 256, .long 0, .int 0, .int 0, .long 0, .int 0, .int 0, .int 0, .int 0, .int 0, .int 0, .int 0, .int 0, .long 0, .long 0, .int 0, .long 0, .long 0, .long 0, .ref mt, .ref mx, .ref mla, .ref mll, .ref mli, .ref mlr, .ref mk, .ref mm, .ref md, .ref mr, .ref ms, .ref mst, .ref mas])), (mt, .inl (K.2.1.2.1, 1600, .inl (upd (fun _ => 0) (0 : Int32).toNatClampNeg ((a1 >>> ((24 : Int32) &&& 31)) &&& (255 : Int32)))))] := hD
  generalize ef9 : upd (fun _ => 0) (0 : Int32).toNatClampNeg ((a1 >>> ((24 : Int32) &&& 31)) &&& (255 : Int32)) = f9 at hP hD
  refine lv_iinc (lv' := [(6, .int 1), (7, .int a1), (0, .ref zm), (1, .int a1), (2, .int a2), (3, .int a3), (4, .int a4), (5, .int a5)]) (v := 1) (k := 1) hx hb d_Mod_feed_107 hl rfl (by decide) (by decide) rfl (fun ls hl => ?_)
  refine lv_goto (tgt := 23) hx hb d_Mod_feed_110 (by decide) ?_
  refine lv_iload hx hb d_Mod_feed_23 (lv_at hl 0 rfl) ?_
  refine lv_bipush (v := 20) hx hb d_Mod_feed_25 (by decide) ?_
  refine lv_icmp_ge (tgt := 113) hx hb d_Mod_feed_27 (by decide) (fun h => absurd h (by decide)) (fun _ => ?_)
  refine lv_iload hx hb d_Mod_feed_30 (lv_at hl 0 rfl) ?_
  refine lv_iconst (v := 4) hx hb d_Mod_feed_32 (by decide) ?_
  refine lv_icmp_ge (tgt := 40) hx hb d_Mod_feed_33 (by decide) (fun h => absurd h (by decide)) (fun _ => ?_)
  refine lv_iload_n hx hb d_Mod_feed_36 rfl (lv_at hl 3 rfl) ?_
  refine lv_goto (tgt := 76) hx hb d_Mod_feed_37 (by decide) ?_
  refine lv_istore (lv' := [(7, .int a1), (6, .int 1), (0, .ref zm), (1, .int a1), (2, .int a2), (3, .int a3), (4, .int a4), (5, .int a5)]) hx hb d_Mod_feed_76 hl (by decide) rfl (fun ls hl => ?_)
  refine lv_aload_n hx hb d_Mod_feed_78 rfl (lv_at hl 2 rfl) ?_
  refine va_get (D := K.1) (ci := 10) (v := .ref mt) (C := R_Mod) (T := T_Mod) (N := 44) hx hb hT in_Mod hown hK hP 0 rfl rfl 31 (by decide) (hT _ k_979) (fun _ h9 => h9) rfl d_Mod_feed_79 ?_
  refine lv_aload_n hx hb d_Mod_feed_82 rfl (lv_at hl 2 rfl) ?_
  refine va_get (D := K.1) (ci := 10) (v := .int 0) (C := R_Mod) (T := T_Mod) (N := 44) hx hb hT in_Mod hown hK hP 0 rfl rfl 1 (by decide) (hT _ k_981) (fun _ h9 => h9) rfl d_Mod_feed_83 ?_
  refine lv_iload hx hb d_Mod_feed_86 (lv_at hl 1 rfl) ?_
  refine lv_iadd hx hb d_Mod_feed_88 ?_
  refine lv_topi (fun z12 ez12 => ?_)
  obtain rfl : z12 = 1 := ez12.trans (by decide)
  refine lv_iload hx hb d_Mod_feed_89 (lv_at hl 0 rfl) ?_
  refine lv_bipush (v := 24) hx hb d_Mod_feed_91 (by decide) ?_
  refine lv_bipush (v := 8) hx hb d_Mod_feed_93 (by decide) ?_
  refine lv_iload hx hb d_Mod_feed_95 (lv_at hl 1 rfl) ?_
  refine lv_iconst (v := 4) hx hb d_Mod_feed_97 (by decide) ?_
  refine lv_irem hx hb d_Mod_feed_98 (by decide) ?_
  refine lv_topi (fun z13 ez13 => ?_)
  obtain rfl : z13 = 1 := ez13.trans (by decide)
  refine lv_imul hx hb d_Mod_feed_99 ?_
  refine lv_topi (fun z14 ez14 => ?_)
  obtain rfl : z14 = 8 := ez14.trans (by decide)
  refine lv_isub hx hb d_Mod_feed_100 ?_
  refine lv_topi (fun z15 ez15 => ?_)
  obtain rfl : z15 = 16 := ez15.trans (by decide)
  refine lv_ishr hx hb d_Mod_feed_101 ?_
  refine lv_sipush (v := 255) hx hb d_Mod_feed_102 (by decide) ?_
  refine lv_iand hx hb d_Mod_feed_105 ?_
  refine va_iast hx hb hK hP hD hS 1 1 rfl rfl (i := 1) (x := (a1 >>> ((16 : Int32) &&& 31)) &&& (255 : Int32)) (vp_in_nI (n := 1) (N := 1600) (by decide) (by decide)) d_Mod_feed_106 (fun H locs hP hD hS => ?_)
  have hP : va_P K.1 mx_cl [(zm, .inr (10, [.int 0, .int 0, .int 0, .int (-1), .int 0, .int 0, .int 0, .int 0, .int 255, .int 0, .int 0, .int 0, .long 256, .long 0, .int 0, .int 0, .long 0, .int 0, .int 0, .int 0, .int 0, .int 0, .int 0, .int 0, .int 0, .long 0, .long 0, .int 0, .long 0, .long 0, .long 0, .ref mt, .ref mx, .ref mla, .ref mll, .ref mli, .ref mlr, .ref mk, .ref mm, .ref md, .ref mr, .ref ms, .ref mst, .ref mas])), (mt, .inl (K.2.1.2.1, 1600, .inl (upd f9 (1 : Int32).toNatClampNeg ((a1 >>> ((16 : Int32) &&& 31)) &&& (255 : Int32)))))] H := hP
  have hD : va_D A [(zm, .inr (10, [.int 0, .int 0, .int 0, .int (-1), .int 0, .int 0, .int 0, .int 0, .int 255, .int 0, .int 0, .int 0, .long 256, .long 0, .int 0, .int 0, .long 0, .int 0, .int 0, .int 0, .int 0, .int 0, .int 0, .int 0, .int 0, .long 0, .long 0, .int 0, .long 0, .long 0, .long 0, .ref mt, .ref mx, .ref mla, .ref mll, .ref mli, .ref mlr, .ref mk, .ref mm, .ref md, .ref mr, .ref ms, .ref mst, .ref mas])), (mt, .inl (K.2.1.2.1, 1600, .inl (upd f9 (1 : Int32).toNatClampNeg ((a1 >>> ((16 : Int32) &&& 31)) &&& (255 : Int32)))))] := hD
  generalize ef16 : upd f9 (1 : Int32).toNatClampNeg ((a1 >>> ((16 : Int32) &&& 31)) &&& (255 : Int32)) = f16 at hP hD
  refine lv_iinc (lv' := [(6, .int 2), (7, .int a1), (0, .ref zm), (1, .int a1), (2, .int a2), (3, .int a3), (4, .int a4), (5, .int a5)]) (v := 2) (k := 1) hx hb d_Mod_feed_107 hl rfl (by decide) (by decide) rfl (fun ls hl => ?_)
  refine lv_goto (tgt := 23) hx hb d_Mod_feed_110 (by decide) ?_
  refine lv_iload hx hb d_Mod_feed_23 (lv_at hl 0 rfl) ?_
  refine lv_bipush (v := 20) hx hb d_Mod_feed_25 (by decide) ?_
  refine lv_icmp_ge (tgt := 113) hx hb d_Mod_feed_27 (by decide) (fun h => absurd h (by decide)) (fun _ => ?_)
  refine lv_iload hx hb d_Mod_feed_30 (lv_at hl 0 rfl) ?_
  refine lv_iconst (v := 4) hx hb d_Mod_feed_32 (by decide) ?_
  refine lv_icmp_ge (tgt := 40) hx hb d_Mod_feed_33 (by decide) (fun h => absurd h (by decide)) (fun _ => ?_)
  refine lv_iload_n hx hb d_Mod_feed_36 rfl (lv_at hl 3 rfl) ?_
  refine lv_goto (tgt := 76) hx hb d_Mod_feed_37 (by decide) ?_
  refine lv_istore (lv' := [(7, .int a1), (6, .int 2), (0, .ref zm), (1, .int a1), (2, .int a2), (3, .int a3), (4, .int a4), (5, .int a5)]) hx hb d_Mod_feed_76 hl (by decide) rfl (fun ls hl => ?_)
  refine lv_aload_n hx hb d_Mod_feed_78 rfl (lv_at hl 2 rfl) ?_
  refine va_get (D := K.1) (ci := 10) (v := .ref mt) (C := R_Mod) (T := T_Mod) (N := 44) hx hb hT in_Mod hown hK hP 0 rfl rfl 31 (by decide) (hT _ k_979) (fun _ h9 => h9) rfl d_Mod_feed_79 ?_
  refine lv_aload_n hx hb d_Mod_feed_82 rfl (lv_at hl 2 rfl) ?_
  refine va_get (D := K.1) (ci := 10) (v := .int 0) (C := R_Mod) (T := T_Mod) (N := 44) hx hb hT in_Mod hown hK hP 0 rfl rfl 1 (by decide) (hT _ k_981) (fun _ h9 => h9) rfl d_Mod_feed_83 ?_
  refine lv_iload hx hb d_Mod_feed_86 (lv_at hl 1 rfl) ?_
  refine lv_iadd hx hb d_Mod_feed_88 ?_
  refine lv_topi (fun z19 ez19 => ?_)
  obtain rfl : z19 = 2 := ez19.trans (by decide)
  refine lv_iload hx hb d_Mod_feed_89 (lv_at hl 0 rfl) ?_
  refine lv_bipush (v := 24) hx hb d_Mod_feed_91 (by decide) ?_
  refine lv_bipush (v := 8) hx hb d_Mod_feed_93 (by decide) ?_
  refine lv_iload hx hb d_Mod_feed_95 (lv_at hl 1 rfl) ?_
  refine lv_iconst (v := 4) hx hb d_Mod_feed_97 (by decide) ?_
  refine lv_irem hx hb d_Mod_feed_98 (by decide) ?_
  refine lv_topi (fun z20 ez20 => ?_)
  obtain rfl : z20 = 2 := ez20.trans (by decide)
  refine lv_imul hx hb d_Mod_feed_99 ?_
  refine lv_topi (fun z21 ez21 => ?_)
  obtain rfl : z21 = 16 := ez21.trans (by decide)
  refine lv_isub hx hb d_Mod_feed_100 ?_
  refine lv_topi (fun z22 ez22 => ?_)
  obtain rfl : z22 = 8 := ez22.trans (by decide)
  refine lv_ishr hx hb d_Mod_feed_101 ?_
  refine lv_sipush (v := 255) hx hb d_Mod_feed_102 (by decide) ?_
  refine lv_iand hx hb d_Mod_feed_105 ?_
  refine va_iast hx hb hK hP hD hS 1 1 rfl rfl (i := 2) (x := (a1 >>> ((8 : Int32) &&& 31)) &&& (255 : Int32)) (vp_in_nI (n := 2) (N := 1600) (by decide) (by decide)) d_Mod_feed_106 (fun H locs hP hD hS => ?_)
  have hP : va_P K.1 mx_cl [(zm, .inr (10, [.int 0, .int 0, .int 0, .int (-1), .int 0, .int 0, .int 0, .int 0, .int 255, .int 0, .int 0, .int 0, .long 256, .long 0, .int 0, .int 0, .long 0, .int 0, .int 0, .int 0, .int 0, .int 0, .int 0, .int 0, .int 0, .long 0, .long 0, .int 0, .long 0, .long 0, .long 0, .ref mt, .ref mx, .ref mla, .ref mll, .ref mli, .ref mlr, .ref mk, .ref mm, .ref md, .ref mr, .ref ms, .ref mst, .ref mas])), (mt, .inl (K.2.1.2.1, 1600, .inl (upd f16 (2 : Int32).toNatClampNeg ((a1 >>> ((8 : Int32) &&& 31)) &&& (255 : Int32)))))] H := hP
  have hD : va_D A [(zm, .inr (10, [.int 0, .int 0, .int 0, .int (-1), .int 0, .int 0, .int 0, .int 0, .int 255, .int 0, .int 0, .int 0, .long 256, .long 0, .int 0, .int 0, .long 0, .int 0, .int 0, .int 0, .int 0, .int 0, .int 0, .int 0, .int 0, .long 0, .long 0, .int 0, .long 0, .long 0, .long 0, .ref mt, .ref mx, .ref mla, .ref mll, .ref mli, .ref mlr, .ref mk, .ref mm, .ref md, .ref mr, .ref ms, .ref mst, .ref mas])), (mt, .inl (K.2.1.2.1, 1600, .inl (upd f16 (2 : Int32).toNatClampNeg ((a1 >>> ((8 : Int32) &&& 31)) &&& (255 : Int32)))))] := hD
  generalize ef23 : upd f16 (2 : Int32).toNatClampNeg ((a1 >>> ((8 : Int32) &&& 31)) &&& (255 : Int32)) = f23 at hP hD
  refine lv_iinc (lv' := [(6, .int 3), (7, .int a1), (0, .ref zm), (1, .int a1), (2, .int a2), (3, .int a3), (4, .int a4), (5, .int a5)]) (v := 3) (k := 1) hx hb d_Mod_feed_107 hl rfl (by decide) (by decide) rfl (fun ls hl => ?_)
  refine lv_goto (tgt := 23) hx hb d_Mod_feed_110 (by decide) ?_
  refine lv_iload hx hb d_Mod_feed_23 (lv_at hl 0 rfl) ?_
  refine lv_bipush (v := 20) hx hb d_Mod_feed_25 (by decide) ?_
  refine lv_icmp_ge (tgt := 113) hx hb d_Mod_feed_27 (by decide) (fun h => absurd h (by decide)) (fun _ => ?_)
  refine lv_iload hx hb d_Mod_feed_30 (lv_at hl 0 rfl) ?_
  refine lv_iconst (v := 4) hx hb d_Mod_feed_32 (by decide) ?_
  refine lv_icmp_ge (tgt := 40) hx hb d_Mod_feed_33 (by decide) (fun h => absurd h (by decide)) (fun _ => ?_)
  refine lv_iload_n hx hb d_Mod_feed_36 rfl (lv_at hl 3 rfl) ?_
  refine lv_goto (tgt := 76) hx hb d_Mod_feed_37 (by decide) ?_
  refine lv_istore (lv' := [(7, .int a1), (6, .int 3), (0, .ref zm), (1, .int a1), (2, .int a2), (3, .int a3), (4, .int a4), (5, .int a5)]) hx hb d_Mod_feed_76 hl (by decide) rfl (fun ls hl => ?_)
  refine lv_aload_n hx hb d_Mod_feed_78 rfl (lv_at hl 2 rfl) ?_
  refine va_get (D := K.1) (ci := 10) (v := .ref mt) (C := R_Mod) (T := T_Mod) (N := 44) hx hb hT in_Mod hown hK hP 0 rfl rfl 31 (by decide) (hT _ k_979) (fun _ h9 => h9) rfl d_Mod_feed_79 ?_
  refine lv_aload_n hx hb d_Mod_feed_82 rfl (lv_at hl 2 rfl) ?_
  refine va_get (D := K.1) (ci := 10) (v := .int 0) (C := R_Mod) (T := T_Mod) (N := 44) hx hb hT in_Mod hown hK hP 0 rfl rfl 1 (by decide) (hT _ k_981) (fun _ h9 => h9) rfl d_Mod_feed_83 ?_
  refine lv_iload hx hb d_Mod_feed_86 (lv_at hl 1 rfl) ?_
  refine lv_iadd hx hb d_Mod_feed_88 ?_
  refine lv_topi (fun z26 ez26 => ?_)
  obtain rfl : z26 = 3 := ez26.trans (by decide)
  refine lv_iload hx hb d_Mod_feed_89 (lv_at hl 0 rfl) ?_
  refine lv_bipush (v := 24) hx hb d_Mod_feed_91 (by decide) ?_
  refine lv_bipush (v := 8) hx hb d_Mod_feed_93 (by decide) ?_
  refine lv_iload hx hb d_Mod_feed_95 (lv_at hl 1 rfl) ?_
  refine lv_iconst (v := 4) hx hb d_Mod_feed_97 (by decide) ?_
  refine lv_irem hx hb d_Mod_feed_98 (by decide) ?_
  refine lv_topi (fun z27 ez27 => ?_)
  obtain rfl : z27 = 3 := ez27.trans (by decide)
  refine lv_imul hx hb d_Mod_feed_99 ?_
  refine lv_topi (fun z28 ez28 => ?_)
  obtain rfl : z28 = 24 := ez28.trans (by decide)
  refine lv_isub hx hb d_Mod_feed_100 ?_
  refine lv_topi (fun z29 ez29 => ?_)
  obtain rfl : z29 = 0 := ez29.trans (by decide)
  refine lv_ishr hx hb d_Mod_feed_101 ?_
  refine lv_sipush (v := 255) hx hb d_Mod_feed_102 (by decide) ?_
  refine lv_iand hx hb d_Mod_feed_105 ?_
  refine va_iast hx hb hK hP hD hS 1 1 rfl rfl (i := 3) (x := (a1 >>> ((0 : Int32) &&& 31)) &&& (255 : Int32)) (vp_in_nI (n := 3) (N := 1600) (by decide) (by decide)) d_Mod_feed_106 (fun H locs hP hD hS => ?_)
  have hP : va_P K.1 mx_cl [(zm, .inr (10, [.int 0, .int 0, .int 0, .int (-1), .int 0, .int 0, .int 0, .int 0, .int 255, .int 0, .int 0, .int 0, .long 256, .long 0, .int 0, .int 0, .long 0, .int 0, .int 0, .int 0, .int 0, .int 0, .int 0, .int 0, .int 0, .long 0, .long 0, .int 0, .long 0, .long 0, .long 0, .ref mt, .ref mx, .ref mla, .ref mll, .ref mli, .ref mlr, .ref mk, .ref mm, .ref md, .ref mr, .ref ms, .ref mst, .ref mas])), (mt, .inl (K.2.1.2.1, 1600, .inl (upd f23 (3 : Int32).toNatClampNeg ((a1 >>> ((0 : Int32) &&& 31)) &&& (255 : Int32)))))] H := hP
  have hD : va_D A [(zm, .inr (10, [.int 0, .int 0, .int 0, .int (-1), .int 0, .int 0, .int 0, .int 0, .int 255, .int 0, .int 0, .int 0, .long 256, .long 0, .int 0, .int 0, .long 0, .int 0, .int 0, .int 0, .int 0, .int 0, .int 0, .int 0, .int 0, .long 0, .long 0, .int 0, .long 0, .long 0, .long 0, .ref mt, .ref mx, .ref mla, .ref mll, .ref mli, .ref mlr, .ref mk, .ref mm, .ref md, .ref mr, .ref ms, .ref mst, .ref mas])), (mt, .inl (K.2.1.2.1, 1600, .inl (upd f23 (3 : Int32).toNatClampNeg ((a1 >>> ((0 : Int32) &&& 31)) &&& (255 : Int32)))))] := hD
  generalize ef30 : upd f23 (3 : Int32).toNatClampNeg ((a1 >>> ((0 : Int32) &&& 31)) &&& (255 : Int32)) = f30 at hP hD
  refine lv_iinc (lv' := [(6, .int 4), (7, .int a1), (0, .ref zm), (1, .int a1), (2, .int a2), (3, .int a3), (4, .int a4), (5, .int a5)]) (v := 4) (k := 1) hx hb d_Mod_feed_107 hl rfl (by decide) (by decide) rfl (fun ls hl => ?_)
  refine lv_goto (tgt := 23) hx hb d_Mod_feed_110 (by decide) ?_
  refine lv_iload hx hb d_Mod_feed_23 (lv_at hl 0 rfl) ?_
  refine lv_bipush (v := 20) hx hb d_Mod_feed_25 (by decide) ?_
  refine lv_icmp_ge (tgt := 113) hx hb d_Mod_feed_27 (by decide) (fun h => absurd h (by decide)) (fun _ => ?_)
  refine lv_iload hx hb d_Mod_feed_30 (lv_at hl 0 rfl) ?_
  refine lv_iconst (v := 4) hx hb d_Mod_feed_32 (by decide) ?_
  refine lv_icmp_ge (tgt := 40) hx hb d_Mod_feed_33 (by decide) (fun _ => ?_) (fun h => absurd h (by decide))
  refine lv_iload hx hb d_Mod_feed_40 (lv_at hl 0 rfl) ?_
  refine lv_bipush (v := 8) hx hb d_Mod_feed_42 (by decide) ?_
  refine lv_icmp_ge (tgt := 51) hx hb d_Mod_feed_44 (by decide) (fun h => absurd h (by decide)) (fun _ => ?_)
  refine lv_iload_n hx hb d_Mod_feed_47 rfl (lv_at hl 4 rfl) ?_
  refine lv_goto (tgt := 76) hx hb d_Mod_feed_48 (by decide) ?_
  refine lv_istore (lv' := [(7, .int a2), (6, .int 4), (0, .ref zm), (1, .int a1), (2, .int a2), (3, .int a3), (4, .int a4), (5, .int a5)]) hx hb d_Mod_feed_76 hl (by decide) rfl (fun ls hl => ?_)
  refine lv_aload_n hx hb d_Mod_feed_78 rfl (lv_at hl 2 rfl) ?_
  refine va_get (D := K.1) (ci := 10) (v := .ref mt) (C := R_Mod) (T := T_Mod) (N := 44) hx hb hT in_Mod hown hK hP 0 rfl rfl 31 (by decide) (hT _ k_979) (fun _ h9 => h9) rfl d_Mod_feed_79 ?_
  refine lv_aload_n hx hb d_Mod_feed_82 rfl (lv_at hl 2 rfl) ?_
  refine va_get (D := K.1) (ci := 10) (v := .int 0) (C := R_Mod) (T := T_Mod) (N := 44) hx hb hT in_Mod hown hK hP 0 rfl rfl 1 (by decide) (hT _ k_981) (fun _ h9 => h9) rfl d_Mod_feed_83 ?_
  refine lv_iload hx hb d_Mod_feed_86 (lv_at hl 1 rfl) ?_
  refine lv_iadd hx hb d_Mod_feed_88 ?_
  refine lv_topi (fun z34 ez34 => ?_)
  obtain rfl : z34 = 4 := ez34.trans (by decide)
  refine lv_iload hx hb d_Mod_feed_89 (lv_at hl 0 rfl) ?_
  refine lv_bipush (v := 24) hx hb d_Mod_feed_91 (by decide) ?_
  refine lv_bipush (v := 8) hx hb d_Mod_feed_93 (by decide) ?_
  refine lv_iload hx hb d_Mod_feed_95 (lv_at hl 1 rfl) ?_
  refine lv_iconst (v := 4) hx hb d_Mod_feed_97 (by decide) ?_
  refine lv_irem hx hb d_Mod_feed_98 (by decide) ?_
  refine lv_topi (fun z35 ez35 => ?_)
  obtain rfl : z35 = 0 := ez35.trans (by decide)
  refine lv_imul hx hb d_Mod_feed_99 ?_
  refine lv_topi (fun z36 ez36 => ?_)
  obtain rfl : z36 = 0 := ez36.trans (by decide)
  refine lv_isub hx hb d_Mod_feed_100 ?_
  refine lv_topi (fun z37 ez37 => ?_)
  obtain rfl : z37 = 24 := ez37.trans (by decide)
  refine lv_ishr hx hb d_Mod_feed_101 ?_
  refine lv_sipush (v := 255) hx hb d_Mod_feed_102 (by decide) ?_
  refine lv_iand hx hb d_Mod_feed_105 ?_
  refine va_iast hx hb hK hP hD hS 1 1 rfl rfl (i := 4) (x := (a2 >>> ((24 : Int32) &&& 31)) &&& (255 : Int32)) (vp_in_nI (n := 4) (N := 1600) (by decide) (by decide)) d_Mod_feed_106 (fun H locs hP hD hS => ?_)
  have hP : va_P K.1 mx_cl [(zm, .inr (10, [.int 0, .int 0, .int 0, .int (-1), .int 0, .int 0, .int 0, .int 0, .int 255, .int 0, .int 0, .int 0, .long 256, .long 0, .int 0, .int 0, .long 0, .int 0, .int 0, .int 0, .int 0, .int 0, .int 0, .int 0, .int 0, .long 0, .long 0, .int 0, .long 0, .long 0, .long 0, .ref mt, .ref mx, .ref mla, .ref mll, .ref mli, .ref mlr, .ref mk, .ref mm, .ref md, .ref mr, .ref ms, .ref mst, .ref mas])), (mt, .inl (K.2.1.2.1, 1600, .inl (upd f30 (4 : Int32).toNatClampNeg ((a2 >>> ((24 : Int32) &&& 31)) &&& (255 : Int32)))))] H := hP
  have hD : va_D A [(zm, .inr (10, [.int 0, .int 0, .int 0, .int (-1), .int 0, .int 0, .int 0, .int 0, .int 255, .int 0, .int 0, .int 0, .long 256, .long 0, .int 0, .int 0, .long 0, .int 0, .int 0, .int 0, .int 0, .int 0, .int 0, .int 0, .int 0, .long 0, .long 0, .int 0, .long 0, .long 0, .long 0, .ref mt, .ref mx, .ref mla, .ref mll, .ref mli, .ref mlr, .ref mk, .ref mm, .ref md, .ref mr, .ref ms, .ref mst, .ref mas])), (mt, .inl (K.2.1.2.1, 1600, .inl (upd f30 (4 : Int32).toNatClampNeg ((a2 >>> ((24 : Int32) &&& 31)) &&& (255 : Int32)))))] := hD
  generalize ef38 : upd f30 (4 : Int32).toNatClampNeg ((a2 >>> ((24 : Int32) &&& 31)) &&& (255 : Int32)) = f38 at hP hD
  refine lv_iinc (lv' := [(6, .int 5), (7, .int a2), (0, .ref zm), (1, .int a1), (2, .int a2), (3, .int a3), (4, .int a4), (5, .int a5)]) (v := 5) (k := 1) hx hb d_Mod_feed_107 hl rfl (by decide) (by decide) rfl (fun ls hl => ?_)
  refine lv_goto (tgt := 23) hx hb d_Mod_feed_110 (by decide) ?_
  refine lv_iload hx hb d_Mod_feed_23 (lv_at hl 0 rfl) ?_
  refine lv_bipush (v := 20) hx hb d_Mod_feed_25 (by decide) ?_
  refine lv_icmp_ge (tgt := 113) hx hb d_Mod_feed_27 (by decide) (fun h => absurd h (by decide)) (fun _ => ?_)
  refine lv_iload hx hb d_Mod_feed_30 (lv_at hl 0 rfl) ?_
  refine lv_iconst (v := 4) hx hb d_Mod_feed_32 (by decide) ?_
  refine lv_icmp_ge (tgt := 40) hx hb d_Mod_feed_33 (by decide) (fun _ => ?_) (fun h => absurd h (by decide))
  refine lv_iload hx hb d_Mod_feed_40 (lv_at hl 0 rfl) ?_
  refine lv_bipush (v := 8) hx hb d_Mod_feed_42 (by decide) ?_
  refine lv_icmp_ge (tgt := 51) hx hb d_Mod_feed_44 (by decide) (fun h => absurd h (by decide)) (fun _ => ?_)
  refine lv_iload_n hx hb d_Mod_feed_47 rfl (lv_at hl 4 rfl) ?_
  refine lv_goto (tgt := 76) hx hb d_Mod_feed_48 (by decide) ?_
  refine lv_istore (lv' := [(7, .int a2), (6, .int 5), (0, .ref zm), (1, .int a1), (2, .int a2), (3, .int a3), (4, .int a4), (5, .int a5)]) hx hb d_Mod_feed_76 hl (by decide) rfl (fun ls hl => ?_)
  refine lv_aload_n hx hb d_Mod_feed_78 rfl (lv_at hl 2 rfl) ?_
  refine va_get (D := K.1) (ci := 10) (v := .ref mt) (C := R_Mod) (T := T_Mod) (N := 44) hx hb hT in_Mod hown hK hP 0 rfl rfl 31 (by decide) (hT _ k_979) (fun _ h9 => h9) rfl d_Mod_feed_79 ?_
  refine lv_aload_n hx hb d_Mod_feed_82 rfl (lv_at hl 2 rfl) ?_
  refine va_get (D := K.1) (ci := 10) (v := .int 0) (C := R_Mod) (T := T_Mod) (N := 44) hx hb hT in_Mod hown hK hP 0 rfl rfl 1 (by decide) (hT _ k_981) (fun _ h9 => h9) rfl d_Mod_feed_83 ?_
  refine lv_iload hx hb d_Mod_feed_86 (lv_at hl 1 rfl) ?_
  refine lv_iadd hx hb d_Mod_feed_88 ?_
  refine lv_topi (fun z42 ez42 => ?_)
  obtain rfl : z42 = 5 := ez42.trans (by decide)
  refine lv_iload hx hb d_Mod_feed_89 (lv_at hl 0 rfl) ?_
  refine lv_bipush (v := 24) hx hb d_Mod_feed_91 (by decide) ?_
  refine lv_bipush (v := 8) hx hb d_Mod_feed_93 (by decide) ?_
  refine lv_iload hx hb d_Mod_feed_95 (lv_at hl 1 rfl) ?_
  refine lv_iconst (v := 4) hx hb d_Mod_feed_97 (by decide) ?_
  refine lv_irem hx hb d_Mod_feed_98 (by decide) ?_
  refine lv_topi (fun z43 ez43 => ?_)
  obtain rfl : z43 = 1 := ez43.trans (by decide)
  refine lv_imul hx hb d_Mod_feed_99 ?_
  refine lv_topi (fun z44 ez44 => ?_)
  obtain rfl : z44 = 8 := ez44.trans (by decide)
  refine lv_isub hx hb d_Mod_feed_100 ?_
  refine lv_topi (fun z45 ez45 => ?_)
  obtain rfl : z45 = 16 := ez45.trans (by decide)
  refine lv_ishr hx hb d_Mod_feed_101 ?_
  refine lv_sipush (v := 255) hx hb d_Mod_feed_102 (by decide) ?_
  refine lv_iand hx hb d_Mod_feed_105 ?_
  refine va_iast hx hb hK hP hD hS 1 1 rfl rfl (i := 5) (x := (a2 >>> ((16 : Int32) &&& 31)) &&& (255 : Int32)) (vp_in_nI (n := 5) (N := 1600) (by decide) (by decide)) d_Mod_feed_106 (fun H locs hP hD hS => ?_)
  have hP : va_P K.1 mx_cl [(zm, .inr (10, [.int 0, .int 0, .int 0, .int (-1), .int 0, .int 0, .int 0, .int 0, .int 255, .int 0, .int 0, .int 0, .long 256, .long 0, .int 0, .int 0, .long 0, .int 0, .int 0, .int 0, .int 0, .int 0, .int 0, .int 0, .int 0, .long 0, .long 0, .int 0, .long 0, .long 0, .long 0, .ref mt, .ref mx, .ref mla, .ref mll, .ref mli, .ref mlr, .ref mk, .ref mm, .ref md, .ref mr, .ref ms, .ref mst, .ref mas])), (mt, .inl (K.2.1.2.1, 1600, .inl (upd f38 (5 : Int32).toNatClampNeg ((a2 >>> ((16 : Int32) &&& 31)) &&& (255 : Int32)))))] H := hP
  have hD : va_D A [(zm, .inr (10, [.int 0, .int 0, .int 0, .int (-1), .int 0, .int 0, .int 0, .int 0, .int 255, .int 0, .int 0, .int 0, .long 256, .long 0, .int 0, .int 0, .long 0, .int 0, .int 0, .int 0, .int 0, .int 0, .int 0, .int 0, .int 0, .long 0, .long 0, .int 0, .long 0, .long 0, .long 0, .ref mt, .ref mx, .ref mla, .ref mll, .ref mli, .ref mlr, .ref mk, .ref mm, .ref md, .ref mr, .ref ms, .ref mst, .ref mas])), (mt, .inl (K.2.1.2.1, 1600, .inl (upd f38 (5 : Int32).toNatClampNeg ((a2 >>> ((16 : Int32) &&& 31)) &&& (255 : Int32)))))] := hD
  generalize ef46 : upd f38 (5 : Int32).toNatClampNeg ((a2 >>> ((16 : Int32) &&& 31)) &&& (255 : Int32)) = f46 at hP hD
  refine lv_iinc (lv' := [(6, .int 6), (7, .int a2), (0, .ref zm), (1, .int a1), (2, .int a2), (3, .int a3), (4, .int a4), (5, .int a5)]) (v := 6) (k := 1) hx hb d_Mod_feed_107 hl rfl (by decide) (by decide) rfl (fun ls hl => ?_)
  refine lv_goto (tgt := 23) hx hb d_Mod_feed_110 (by decide) ?_
  refine lv_iload hx hb d_Mod_feed_23 (lv_at hl 0 rfl) ?_
  refine lv_bipush (v := 20) hx hb d_Mod_feed_25 (by decide) ?_
  refine lv_icmp_ge (tgt := 113) hx hb d_Mod_feed_27 (by decide) (fun h => absurd h (by decide)) (fun _ => ?_)
  refine lv_iload hx hb d_Mod_feed_30 (lv_at hl 0 rfl) ?_
  refine lv_iconst (v := 4) hx hb d_Mod_feed_32 (by decide) ?_
  refine lv_icmp_ge (tgt := 40) hx hb d_Mod_feed_33 (by decide) (fun _ => ?_) (fun h => absurd h (by decide))
  refine lv_iload hx hb d_Mod_feed_40 (lv_at hl 0 rfl) ?_
  refine lv_bipush (v := 8) hx hb d_Mod_feed_42 (by decide) ?_
  refine lv_icmp_ge (tgt := 51) hx hb d_Mod_feed_44 (by decide) (fun h => absurd h (by decide)) (fun _ => ?_)
  refine lv_iload_n hx hb d_Mod_feed_47 rfl (lv_at hl 4 rfl) ?_
  refine lv_goto (tgt := 76) hx hb d_Mod_feed_48 (by decide) ?_
  refine lv_istore (lv' := [(7, .int a2), (6, .int 6), (0, .ref zm), (1, .int a1), (2, .int a2), (3, .int a3), (4, .int a4), (5, .int a5)]) hx hb d_Mod_feed_76 hl (by decide) rfl (fun ls hl => ?_)
  refine lv_aload_n hx hb d_Mod_feed_78 rfl (lv_at hl 2 rfl) ?_
  refine va_get (D := K.1) (ci := 10) (v := .ref mt) (C := R_Mod) (T := T_Mod) (N := 44) hx hb hT in_Mod hown hK hP 0 rfl rfl 31 (by decide) (hT _ k_979) (fun _ h9 => h9) rfl d_Mod_feed_79 ?_
  refine lv_aload_n hx hb d_Mod_feed_82 rfl (lv_at hl 2 rfl) ?_
  refine va_get (D := K.1) (ci := 10) (v := .int 0) (C := R_Mod) (T := T_Mod) (N := 44) hx hb hT in_Mod hown hK hP 0 rfl rfl 1 (by decide) (hT _ k_981) (fun _ h9 => h9) rfl d_Mod_feed_83 ?_
  refine lv_iload hx hb d_Mod_feed_86 (lv_at hl 1 rfl) ?_
  refine lv_iadd hx hb d_Mod_feed_88 ?_
  refine lv_topi (fun z50 ez50 => ?_)
  obtain rfl : z50 = 6 := ez50.trans (by decide)
  refine lv_iload hx hb d_Mod_feed_89 (lv_at hl 0 rfl) ?_
  refine lv_bipush (v := 24) hx hb d_Mod_feed_91 (by decide) ?_
  refine lv_bipush (v := 8) hx hb d_Mod_feed_93 (by decide) ?_
  refine lv_iload hx hb d_Mod_feed_95 (lv_at hl 1 rfl) ?_
  refine lv_iconst (v := 4) hx hb d_Mod_feed_97 (by decide) ?_
  refine lv_irem hx hb d_Mod_feed_98 (by decide) ?_
  refine lv_topi (fun z51 ez51 => ?_)
  obtain rfl : z51 = 2 := ez51.trans (by decide)
  refine lv_imul hx hb d_Mod_feed_99 ?_
  refine lv_topi (fun z52 ez52 => ?_)
  obtain rfl : z52 = 16 := ez52.trans (by decide)
  refine lv_isub hx hb d_Mod_feed_100 ?_
  refine lv_topi (fun z53 ez53 => ?_)
  obtain rfl : z53 = 8 := ez53.trans (by decide)
  refine lv_ishr hx hb d_Mod_feed_101 ?_
  refine lv_sipush (v := 255) hx hb d_Mod_feed_102 (by decide) ?_
  refine lv_iand hx hb d_Mod_feed_105 ?_
  refine va_iast hx hb hK hP hD hS 1 1 rfl rfl (i := 6) (x := (a2 >>> ((8 : Int32) &&& 31)) &&& (255 : Int32)) (vp_in_nI (n := 6) (N := 1600) (by decide) (by decide)) d_Mod_feed_106 (fun H locs hP hD hS => ?_)
  have hP : va_P K.1 mx_cl [(zm, .inr (10, [.int 0, .int 0, .int 0, .int (-1), .int 0, .int 0, .int 0, .int 0, .int 255, .int 0, .int 0, .int 0, .long 256, .long 0, .int 0, .int 0, .long 0, .int 0, .int 0, .int 0, .int 0, .int 0, .int 0, .int 0, .int 0, .long 0, .long 0, .int 0, .long 0, .long 0, .long 0, .ref mt, .ref mx, .ref mla, .ref mll, .ref mli, .ref mlr, .ref mk, .ref mm, .ref md, .ref mr, .ref ms, .ref mst, .ref mas])), (mt, .inl (K.2.1.2.1, 1600, .inl (upd f46 (6 : Int32).toNatClampNeg ((a2 >>> ((8 : Int32) &&& 31)) &&& (255 : Int32)))))] H := hP
  have hD : va_D A [(zm, .inr (10, [.int 0, .int 0, .int 0, .int (-1), .int 0, .int 0, .int 0, .int 0, .int 255, .int 0, .int 0, .int 0, .long 256, .long 0, .int 0, .int 0, .long 0, .int 0, .int 0, .int 0, .int 0, .int 0, .int 0, .int 0, .int 0, .long 0, .long 0, .int 0, .long 0, .long 0, .long 0, .ref mt, .ref mx, .ref mla, .ref mll, .ref mli, .ref mlr, .ref mk, .ref mm, .ref md, .ref mr, .ref ms, .ref mst, .ref mas])), (mt, .inl (K.2.1.2.1, 1600, .inl (upd f46 (6 : Int32).toNatClampNeg ((a2 >>> ((8 : Int32) &&& 31)) &&& (255 : Int32)))))] := hD
  generalize ef54 : upd f46 (6 : Int32).toNatClampNeg ((a2 >>> ((8 : Int32) &&& 31)) &&& (255 : Int32)) = f54 at hP hD
  refine lv_iinc (lv' := [(6, .int 7), (7, .int a2), (0, .ref zm), (1, .int a1), (2, .int a2), (3, .int a3), (4, .int a4), (5, .int a5)]) (v := 7) (k := 1) hx hb d_Mod_feed_107 hl rfl (by decide) (by decide) rfl (fun ls hl => ?_)
  refine lv_goto (tgt := 23) hx hb d_Mod_feed_110 (by decide) ?_
  refine lv_iload hx hb d_Mod_feed_23 (lv_at hl 0 rfl) ?_
  refine lv_bipush (v := 20) hx hb d_Mod_feed_25 (by decide) ?_
  refine lv_icmp_ge (tgt := 113) hx hb d_Mod_feed_27 (by decide) (fun h => absurd h (by decide)) (fun _ => ?_)
  refine lv_iload hx hb d_Mod_feed_30 (lv_at hl 0 rfl) ?_
  refine lv_iconst (v := 4) hx hb d_Mod_feed_32 (by decide) ?_
  refine lv_icmp_ge (tgt := 40) hx hb d_Mod_feed_33 (by decide) (fun _ => ?_) (fun h => absurd h (by decide))
  refine lv_iload hx hb d_Mod_feed_40 (lv_at hl 0 rfl) ?_
  refine lv_bipush (v := 8) hx hb d_Mod_feed_42 (by decide) ?_
  refine lv_icmp_ge (tgt := 51) hx hb d_Mod_feed_44 (by decide) (fun h => absurd h (by decide)) (fun _ => ?_)
  refine lv_iload_n hx hb d_Mod_feed_47 rfl (lv_at hl 4 rfl) ?_
  refine lv_goto (tgt := 76) hx hb d_Mod_feed_48 (by decide) ?_
  refine lv_istore (lv' := [(7, .int a2), (6, .int 7), (0, .ref zm), (1, .int a1), (2, .int a2), (3, .int a3), (4, .int a4), (5, .int a5)]) hx hb d_Mod_feed_76 hl (by decide) rfl (fun ls hl => ?_)
  refine lv_aload_n hx hb d_Mod_feed_78 rfl (lv_at hl 2 rfl) ?_
  refine va_get (D := K.1) (ci := 10) (v := .ref mt) (C := R_Mod) (T := T_Mod) (N := 44) hx hb hT in_Mod hown hK hP 0 rfl rfl 31 (by decide) (hT _ k_979) (fun _ h9 => h9) rfl d_Mod_feed_79 ?_
  refine lv_aload_n hx hb d_Mod_feed_82 rfl (lv_at hl 2 rfl) ?_
  refine va_get (D := K.1) (ci := 10) (v := .int 0) (C := R_Mod) (T := T_Mod) (N := 44) hx hb hT in_Mod hown hK hP 0 rfl rfl 1 (by decide) (hT _ k_981) (fun _ h9 => h9) rfl d_Mod_feed_83 ?_
  refine lv_iload hx hb d_Mod_feed_86 (lv_at hl 1 rfl) ?_
  refine lv_iadd hx hb d_Mod_feed_88 ?_
  refine lv_topi (fun z58 ez58 => ?_)
  obtain rfl : z58 = 7 := ez58.trans (by decide)
  refine lv_iload hx hb d_Mod_feed_89 (lv_at hl 0 rfl) ?_
  refine lv_bipush (v := 24) hx hb d_Mod_feed_91 (by decide) ?_
  refine lv_bipush (v := 8) hx hb d_Mod_feed_93 (by decide) ?_
  refine lv_iload hx hb d_Mod_feed_95 (lv_at hl 1 rfl) ?_
  refine lv_iconst (v := 4) hx hb d_Mod_feed_97 (by decide) ?_
  refine lv_irem hx hb d_Mod_feed_98 (by decide) ?_
  refine lv_topi (fun z59 ez59 => ?_)
  obtain rfl : z59 = 3 := ez59.trans (by decide)
  refine lv_imul hx hb d_Mod_feed_99 ?_
  refine lv_topi (fun z60 ez60 => ?_)
  obtain rfl : z60 = 24 := ez60.trans (by decide)
  refine lv_isub hx hb d_Mod_feed_100 ?_
  refine lv_topi (fun z61 ez61 => ?_)
  obtain rfl : z61 = 0 := ez61.trans (by decide)
  refine lv_ishr hx hb d_Mod_feed_101 ?_
  refine lv_sipush (v := 255) hx hb d_Mod_feed_102 (by decide) ?_
  refine lv_iand hx hb d_Mod_feed_105 ?_
  refine va_iast hx hb hK hP hD hS 1 1 rfl rfl (i := 7) (x := (a2 >>> ((0 : Int32) &&& 31)) &&& (255 : Int32)) (vp_in_nI (n := 7) (N := 1600) (by decide) (by decide)) d_Mod_feed_106 (fun H locs hP hD hS => ?_)
  have hP : va_P K.1 mx_cl [(zm, .inr (10, [.int 0, .int 0, .int 0, .int (-1), .int 0, .int 0, .int 0, .int 0, .int 255, .int 0, .int 0, .int 0, .long 256, .long 0, .int 0, .int 0, .long 0, .int 0, .int 0, .int 0, .int 0, .int 0, .int 0, .int 0, .int 0, .long 0, .long 0, .int 0, .long 0, .long 0, .long 0, .ref mt, .ref mx, .ref mla, .ref mll, .ref mli, .ref mlr, .ref mk, .ref mm, .ref md, .ref mr, .ref ms, .ref mst, .ref mas])), (mt, .inl (K.2.1.2.1, 1600, .inl (upd f54 (7 : Int32).toNatClampNeg ((a2 >>> ((0 : Int32) &&& 31)) &&& (255 : Int32)))))] H := hP
  have hD : va_D A [(zm, .inr (10, [.int 0, .int 0, .int 0, .int (-1), .int 0, .int 0, .int 0, .int 0, .int 255, .int 0, .int 0, .int 0, .long 256, .long 0, .int 0, .int 0, .long 0, .int 0, .int 0, .int 0, .int 0, .int 0, .int 0, .int 0, .int 0, .long 0, .long 0, .int 0, .long 0, .long 0, .long 0, .ref mt, .ref mx, .ref mla, .ref mll, .ref mli, .ref mlr, .ref mk, .ref mm, .ref md, .ref mr, .ref ms, .ref mst, .ref mas])), (mt, .inl (K.2.1.2.1, 1600, .inl (upd f54 (7 : Int32).toNatClampNeg ((a2 >>> ((0 : Int32) &&& 31)) &&& (255 : Int32)))))] := hD
  generalize ef62 : upd f54 (7 : Int32).toNatClampNeg ((a2 >>> ((0 : Int32) &&& 31)) &&& (255 : Int32)) = f62 at hP hD
  refine lv_iinc (lv' := [(6, .int 8), (7, .int a2), (0, .ref zm), (1, .int a1), (2, .int a2), (3, .int a3), (4, .int a4), (5, .int a5)]) (v := 8) (k := 1) hx hb d_Mod_feed_107 hl rfl (by decide) (by decide) rfl (fun ls hl => ?_)
  refine lv_goto (tgt := 23) hx hb d_Mod_feed_110 (by decide) ?_
  refine lv_iload hx hb d_Mod_feed_23 (lv_at hl 0 rfl) ?_
  refine lv_bipush (v := 20) hx hb d_Mod_feed_25 (by decide) ?_
  refine lv_icmp_ge (tgt := 113) hx hb d_Mod_feed_27 (by decide) (fun h => absurd h (by decide)) (fun _ => ?_)
  refine lv_iload hx hb d_Mod_feed_30 (lv_at hl 0 rfl) ?_
  refine lv_iconst (v := 4) hx hb d_Mod_feed_32 (by decide) ?_
  refine lv_icmp_ge (tgt := 40) hx hb d_Mod_feed_33 (by decide) (fun _ => ?_) (fun h => absurd h (by decide))
  refine lv_iload hx hb d_Mod_feed_40 (lv_at hl 0 rfl) ?_
  refine lv_bipush (v := 8) hx hb d_Mod_feed_42 (by decide) ?_
  refine lv_icmp_ge (tgt := 51) hx hb d_Mod_feed_44 (by decide) (fun _ => ?_) (fun h => absurd h (by decide))
  refine lv_iload hx hb d_Mod_feed_51 (lv_at hl 0 rfl) ?_
  refine lv_bipush (v := 12) hx hb d_Mod_feed_53 (by decide) ?_
  refine lv_icmp_ge (tgt := 62) hx hb d_Mod_feed_55 (by decide) (fun h => absurd h (by decide)) (fun _ => ?_)
  refine lv_iload_n hx hb d_Mod_feed_58 rfl (lv_at hl 5 rfl) ?_
  refine lv_goto (tgt := 76) hx hb d_Mod_feed_59 (by decide) ?_
  refine lv_istore (lv' := [(7, .int a3), (6, .int 8), (0, .ref zm), (1, .int a1), (2, .int a2), (3, .int a3), (4, .int a4), (5, .int a5)]) hx hb d_Mod_feed_76 hl (by decide) rfl (fun ls hl => ?_)
  refine lv_aload_n hx hb d_Mod_feed_78 rfl (lv_at hl 2 rfl) ?_
  refine va_get (D := K.1) (ci := 10) (v := .ref mt) (C := R_Mod) (T := T_Mod) (N := 44) hx hb hT in_Mod hown hK hP 0 rfl rfl 31 (by decide) (hT _ k_979) (fun _ h9 => h9) rfl d_Mod_feed_79 ?_
  refine lv_aload_n hx hb d_Mod_feed_82 rfl (lv_at hl 2 rfl) ?_
  refine va_get (D := K.1) (ci := 10) (v := .int 0) (C := R_Mod) (T := T_Mod) (N := 44) hx hb hT in_Mod hown hK hP 0 rfl rfl 1 (by decide) (hT _ k_981) (fun _ h9 => h9) rfl d_Mod_feed_83 ?_
  refine lv_iload hx hb d_Mod_feed_86 (lv_at hl 1 rfl) ?_
  refine lv_iadd hx hb d_Mod_feed_88 ?_
  refine lv_topi (fun z67 ez67 => ?_)
  obtain rfl : z67 = 8 := ez67.trans (by decide)
  refine lv_iload hx hb d_Mod_feed_89 (lv_at hl 0 rfl) ?_
  refine lv_bipush (v := 24) hx hb d_Mod_feed_91 (by decide) ?_
  refine lv_bipush (v := 8) hx hb d_Mod_feed_93 (by decide) ?_
  refine lv_iload hx hb d_Mod_feed_95 (lv_at hl 1 rfl) ?_
  refine lv_iconst (v := 4) hx hb d_Mod_feed_97 (by decide) ?_
  refine lv_irem hx hb d_Mod_feed_98 (by decide) ?_
  refine lv_topi (fun z68 ez68 => ?_)
  obtain rfl : z68 = 0 := ez68.trans (by decide)
  refine lv_imul hx hb d_Mod_feed_99 ?_
  refine lv_topi (fun z69 ez69 => ?_)
  obtain rfl : z69 = 0 := ez69.trans (by decide)
  refine lv_isub hx hb d_Mod_feed_100 ?_
  refine lv_topi (fun z70 ez70 => ?_)
  obtain rfl : z70 = 24 := ez70.trans (by decide)
  refine lv_ishr hx hb d_Mod_feed_101 ?_
  refine lv_sipush (v := 255) hx hb d_Mod_feed_102 (by decide) ?_
  refine lv_iand hx hb d_Mod_feed_105 ?_
  refine va_iast hx hb hK hP hD hS 1 1 rfl rfl (i := 8) (x := (a3 >>> ((24 : Int32) &&& 31)) &&& (255 : Int32)) (vp_in_nI (n := 8) (N := 1600) (by decide) (by decide)) d_Mod_feed_106 (fun H locs hP hD hS => ?_)
  have hP : va_P K.1 mx_cl [(zm, .inr (10, [.int 0, .int 0, .int 0, .int (-1), .int 0, .int 0, .int 0, .int 0, .int 255, .int 0, .int 0, .int 0, .long 256, .long 0, .int 0, .int 0, .long 0, .int 0, .int 0, .int 0, .int 0, .int 0, .int 0, .int 0, .int 0, .long 0, .long 0, .int 0, .long 0, .long 0, .long 0, .ref mt, .ref mx, .ref mla, .ref mll, .ref mli, .ref mlr, .ref mk, .ref mm, .ref md, .ref mr, .ref ms, .ref mst, .ref mas])), (mt, .inl (K.2.1.2.1, 1600, .inl (upd f62 (8 : Int32).toNatClampNeg ((a3 >>> ((24 : Int32) &&& 31)) &&& (255 : Int32)))))] H := hP
  have hD : va_D A [(zm, .inr (10, [.int 0, .int 0, .int 0, .int (-1), .int 0, .int 0, .int 0, .int 0, .int 255, .int 0, .int 0, .int 0, .long 256, .long 0, .int 0, .int 0, .long 0, .int 0, .int 0, .int 0, .int 0, .int 0, .int 0, .int 0, .int 0, .long 0, .long 0, .int 0, .long 0, .long 0, .long 0, .ref mt, .ref mx, .ref mla, .ref mll, .ref mli, .ref mlr, .ref mk, .ref mm, .ref md, .ref mr, .ref ms, .ref mst, .ref mas])), (mt, .inl (K.2.1.2.1, 1600, .inl (upd f62 (8 : Int32).toNatClampNeg ((a3 >>> ((24 : Int32) &&& 31)) &&& (255 : Int32)))))] := hD
  generalize ef71 : upd f62 (8 : Int32).toNatClampNeg ((a3 >>> ((24 : Int32) &&& 31)) &&& (255 : Int32)) = f71 at hP hD
  refine lv_iinc (lv' := [(6, .int 9), (7, .int a3), (0, .ref zm), (1, .int a1), (2, .int a2), (3, .int a3), (4, .int a4), (5, .int a5)]) (v := 9) (k := 1) hx hb d_Mod_feed_107 hl rfl (by decide) (by decide) rfl (fun ls hl => ?_)
  refine lv_goto (tgt := 23) hx hb d_Mod_feed_110 (by decide) ?_
  refine lv_iload hx hb d_Mod_feed_23 (lv_at hl 0 rfl) ?_
  refine lv_bipush (v := 20) hx hb d_Mod_feed_25 (by decide) ?_
  refine lv_icmp_ge (tgt := 113) hx hb d_Mod_feed_27 (by decide) (fun h => absurd h (by decide)) (fun _ => ?_)
  refine lv_iload hx hb d_Mod_feed_30 (lv_at hl 0 rfl) ?_
  refine lv_iconst (v := 4) hx hb d_Mod_feed_32 (by decide) ?_
  refine lv_icmp_ge (tgt := 40) hx hb d_Mod_feed_33 (by decide) (fun _ => ?_) (fun h => absurd h (by decide))
  refine lv_iload hx hb d_Mod_feed_40 (lv_at hl 0 rfl) ?_
  refine lv_bipush (v := 8) hx hb d_Mod_feed_42 (by decide) ?_
  refine lv_icmp_ge (tgt := 51) hx hb d_Mod_feed_44 (by decide) (fun _ => ?_) (fun h => absurd h (by decide))
  refine lv_iload hx hb d_Mod_feed_51 (lv_at hl 0 rfl) ?_
  refine lv_bipush (v := 12) hx hb d_Mod_feed_53 (by decide) ?_
  refine lv_icmp_ge (tgt := 62) hx hb d_Mod_feed_55 (by decide) (fun h => absurd h (by decide)) (fun _ => ?_)
  refine lv_iload_n hx hb d_Mod_feed_58 rfl (lv_at hl 5 rfl) ?_
  refine lv_goto (tgt := 76) hx hb d_Mod_feed_59 (by decide) ?_
  refine lv_istore (lv' := [(7, .int a3), (6, .int 9), (0, .ref zm), (1, .int a1), (2, .int a2), (3, .int a3), (4, .int a4), (5, .int a5)]) hx hb d_Mod_feed_76 hl (by decide) rfl (fun ls hl => ?_)
  refine lv_aload_n hx hb d_Mod_feed_78 rfl (lv_at hl 2 rfl) ?_
  refine va_get (D := K.1) (ci := 10) (v := .ref mt) (C := R_Mod) (T := T_Mod) (N := 44) hx hb hT in_Mod hown hK hP 0 rfl rfl 31 (by decide) (hT _ k_979) (fun _ h9 => h9) rfl d_Mod_feed_79 ?_
  refine lv_aload_n hx hb d_Mod_feed_82 rfl (lv_at hl 2 rfl) ?_
  refine va_get (D := K.1) (ci := 10) (v := .int 0) (C := R_Mod) (T := T_Mod) (N := 44) hx hb hT in_Mod hown hK hP 0 rfl rfl 1 (by decide) (hT _ k_981) (fun _ h9 => h9) rfl d_Mod_feed_83 ?_
  refine lv_iload hx hb d_Mod_feed_86 (lv_at hl 1 rfl) ?_
  refine lv_iadd hx hb d_Mod_feed_88 ?_
  refine lv_topi (fun z76 ez76 => ?_)
  obtain rfl : z76 = 9 := ez76.trans (by decide)
  refine lv_iload hx hb d_Mod_feed_89 (lv_at hl 0 rfl) ?_
  refine lv_bipush (v := 24) hx hb d_Mod_feed_91 (by decide) ?_
  refine lv_bipush (v := 8) hx hb d_Mod_feed_93 (by decide) ?_
  refine lv_iload hx hb d_Mod_feed_95 (lv_at hl 1 rfl) ?_
  refine lv_iconst (v := 4) hx hb d_Mod_feed_97 (by decide) ?_
  refine lv_irem hx hb d_Mod_feed_98 (by decide) ?_
  refine lv_topi (fun z77 ez77 => ?_)
  obtain rfl : z77 = 1 := ez77.trans (by decide)
  refine lv_imul hx hb d_Mod_feed_99 ?_
  refine lv_topi (fun z78 ez78 => ?_)
  obtain rfl : z78 = 8 := ez78.trans (by decide)
  refine lv_isub hx hb d_Mod_feed_100 ?_
  refine lv_topi (fun z79 ez79 => ?_)
  obtain rfl : z79 = 16 := ez79.trans (by decide)
  refine lv_ishr hx hb d_Mod_feed_101 ?_
  refine lv_sipush (v := 255) hx hb d_Mod_feed_102 (by decide) ?_
  refine lv_iand hx hb d_Mod_feed_105 ?_
  refine va_iast hx hb hK hP hD hS 1 1 rfl rfl (i := 9) (x := (a3 >>> ((16 : Int32) &&& 31)) &&& (255 : Int32)) (vp_in_nI (n := 9) (N := 1600) (by decide) (by decide)) d_Mod_feed_106 (fun H locs hP hD hS => ?_)
  have hP : va_P K.1 mx_cl [(zm, .inr (10, [.int 0, .int 0, .int 0, .int (-1), .int 0, .int 0, .int 0, .int 0, .int 255, .int 0, .int 0, .int 0, .long 256, .long 0, .int 0, .int 0, .long 0, .int 0, .int 0, .int 0, .int 0, .int 0, .int 0, .int 0, .int 0, .long 0, .long 0, .int 0, .long 0, .long 0, .long 0, .ref mt, .ref mx, .ref mla, .ref mll, .ref mli, .ref mlr, .ref mk, .ref mm, .ref md, .ref mr, .ref ms, .ref mst, .ref mas])), (mt, .inl (K.2.1.2.1, 1600, .inl (upd f71 (9 : Int32).toNatClampNeg ((a3 >>> ((16 : Int32) &&& 31)) &&& (255 : Int32)))))] H := hP
  have hD : va_D A [(zm, .inr (10, [.int 0, .int 0, .int 0, .int (-1), .int 0, .int 0, .int 0, .int 0, .int 255, .int 0, .int 0, .int 0, .long 256, .long 0, .int 0, .int 0, .long 0, .int 0, .int 0, .int 0, .int 0, .int 0, .int 0, .int 0, .int 0, .long 0, .long 0, .int 0, .long 0, .long 0, .long 0, .ref mt, .ref mx, .ref mla, .ref mll, .ref mli, .ref mlr, .ref mk, .ref mm, .ref md, .ref mr, .ref ms, .ref mst, .ref mas])), (mt, .inl (K.2.1.2.1, 1600, .inl (upd f71 (9 : Int32).toNatClampNeg ((a3 >>> ((16 : Int32) &&& 31)) &&& (255 : Int32)))))] := hD
  generalize ef80 : upd f71 (9 : Int32).toNatClampNeg ((a3 >>> ((16 : Int32) &&& 31)) &&& (255 : Int32)) = f80 at hP hD
  refine lv_iinc (lv' := [(6, .int 10), (7, .int a3), (0, .ref zm), (1, .int a1), (2, .int a2), (3, .int a3), (4, .int a4), (5, .int a5)]) (v := 10) (k := 1) hx hb d_Mod_feed_107 hl rfl (by decide) (by decide) rfl (fun ls hl => ?_)
  refine lv_goto (tgt := 23) hx hb d_Mod_feed_110 (by decide) ?_
  refine lv_iload hx hb d_Mod_feed_23 (lv_at hl 0 rfl) ?_
  refine lv_bipush (v := 20) hx hb d_Mod_feed_25 (by decide) ?_
  refine lv_icmp_ge (tgt := 113) hx hb d_Mod_feed_27 (by decide) (fun h => absurd h (by decide)) (fun _ => ?_)
  refine lv_iload hx hb d_Mod_feed_30 (lv_at hl 0 rfl) ?_
  refine lv_iconst (v := 4) hx hb d_Mod_feed_32 (by decide) ?_
  refine lv_icmp_ge (tgt := 40) hx hb d_Mod_feed_33 (by decide) (fun _ => ?_) (fun h => absurd h (by decide))
  refine lv_iload hx hb d_Mod_feed_40 (lv_at hl 0 rfl) ?_
  refine lv_bipush (v := 8) hx hb d_Mod_feed_42 (by decide) ?_
  refine lv_icmp_ge (tgt := 51) hx hb d_Mod_feed_44 (by decide) (fun _ => ?_) (fun h => absurd h (by decide))
  refine lv_iload hx hb d_Mod_feed_51 (lv_at hl 0 rfl) ?_
  refine lv_bipush (v := 12) hx hb d_Mod_feed_53 (by decide) ?_
  refine lv_icmp_ge (tgt := 62) hx hb d_Mod_feed_55 (by decide) (fun h => absurd h (by decide)) (fun _ => ?_)
  refine lv_iload_n hx hb d_Mod_feed_58 rfl (lv_at hl 5 rfl) ?_
  refine lv_goto (tgt := 76) hx hb d_Mod_feed_59 (by decide) ?_
  refine lv_istore (lv' := [(7, .int a3), (6, .int 10), (0, .ref zm), (1, .int a1), (2, .int a2), (3, .int a3), (4, .int a4), (5, .int a5)]) hx hb d_Mod_feed_76 hl (by decide) rfl (fun ls hl => ?_)
  refine lv_aload_n hx hb d_Mod_feed_78 rfl (lv_at hl 2 rfl) ?_
  refine va_get (D := K.1) (ci := 10) (v := .ref mt) (C := R_Mod) (T := T_Mod) (N := 44) hx hb hT in_Mod hown hK hP 0 rfl rfl 31 (by decide) (hT _ k_979) (fun _ h9 => h9) rfl d_Mod_feed_79 ?_
  refine lv_aload_n hx hb d_Mod_feed_82 rfl (lv_at hl 2 rfl) ?_
  refine va_get (D := K.1) (ci := 10) (v := .int 0) (C := R_Mod) (T := T_Mod) (N := 44) hx hb hT in_Mod hown hK hP 0 rfl rfl 1 (by decide) (hT _ k_981) (fun _ h9 => h9) rfl d_Mod_feed_83 ?_
  refine lv_iload hx hb d_Mod_feed_86 (lv_at hl 1 rfl) ?_
  refine lv_iadd hx hb d_Mod_feed_88 ?_
  refine lv_topi (fun z85 ez85 => ?_)
  obtain rfl : z85 = 10 := ez85.trans (by decide)
  refine lv_iload hx hb d_Mod_feed_89 (lv_at hl 0 rfl) ?_
  refine lv_bipush (v := 24) hx hb d_Mod_feed_91 (by decide) ?_
  refine lv_bipush (v := 8) hx hb d_Mod_feed_93 (by decide) ?_
  refine lv_iload hx hb d_Mod_feed_95 (lv_at hl 1 rfl) ?_
  refine lv_iconst (v := 4) hx hb d_Mod_feed_97 (by decide) ?_
  refine lv_irem hx hb d_Mod_feed_98 (by decide) ?_
  refine lv_topi (fun z86 ez86 => ?_)
  obtain rfl : z86 = 2 := ez86.trans (by decide)
  refine lv_imul hx hb d_Mod_feed_99 ?_
  refine lv_topi (fun z87 ez87 => ?_)
  obtain rfl : z87 = 16 := ez87.trans (by decide)
  refine lv_isub hx hb d_Mod_feed_100 ?_
  refine lv_topi (fun z88 ez88 => ?_)
  obtain rfl : z88 = 8 := ez88.trans (by decide)
  refine lv_ishr hx hb d_Mod_feed_101 ?_
  refine lv_sipush (v := 255) hx hb d_Mod_feed_102 (by decide) ?_
  refine lv_iand hx hb d_Mod_feed_105 ?_
  refine va_iast hx hb hK hP hD hS 1 1 rfl rfl (i := 10) (x := (a3 >>> ((8 : Int32) &&& 31)) &&& (255 : Int32)) (vp_in_nI (n := 10) (N := 1600) (by decide) (by decide)) d_Mod_feed_106 (fun H locs hP hD hS => ?_)
  have hP : va_P K.1 mx_cl [(zm, .inr (10, [.int 0, .int 0, .int 0, .int (-1), .int 0, .int 0, .int 0, .int 0, .int 255, .int 0, .int 0, .int 0, .long 256, .long 0, .int 0, .int 0, .long 0, .int 0, .int 0, .int 0, .int 0, .int 0, .int 0, .int 0, .int 0, .long 0, .long 0, .int 0, .long 0, .long 0, .long 0, .ref mt, .ref mx, .ref mla, .ref mll, .ref mli, .ref mlr, .ref mk, .ref mm, .ref md, .ref mr, .ref ms, .ref mst, .ref mas])), (mt, .inl (K.2.1.2.1, 1600, .inl (upd f80 (10 : Int32).toNatClampNeg ((a3 >>> ((8 : Int32) &&& 31)) &&& (255 : Int32)))))] H := hP
  have hD : va_D A [(zm, .inr (10, [.int 0, .int 0, .int 0, .int (-1), .int 0, .int 0, .int 0, .int 0, .int 255, .int 0, .int 0, .int 0, .long 256, .long 0, .int 0, .int 0, .long 0, .int 0, .int 0, .int 0, .int 0, .int 0, .int 0, .int 0, .int 0, .long 0, .long 0, .int 0, .long 0, .long 0, .long 0, .ref mt, .ref mx, .ref mla, .ref mll, .ref mli, .ref mlr, .ref mk, .ref mm, .ref md, .ref mr, .ref ms, .ref mst, .ref mas])), (mt, .inl (K.2.1.2.1, 1600, .inl (upd f80 (10 : Int32).toNatClampNeg ((a3 >>> ((8 : Int32) &&& 31)) &&& (255 : Int32)))))] := hD
  generalize ef89 : upd f80 (10 : Int32).toNatClampNeg ((a3 >>> ((8 : Int32) &&& 31)) &&& (255 : Int32)) = f89 at hP hD
  refine lv_iinc (lv' := [(6, .int 11), (7, .int a3), (0, .ref zm), (1, .int a1), (2, .int a2), (3, .int a3), (4, .int a4), (5, .int a5)]) (v := 11) (k := 1) hx hb d_Mod_feed_107 hl rfl (by decide) (by decide) rfl (fun ls hl => ?_)
  refine lv_goto (tgt := 23) hx hb d_Mod_feed_110 (by decide) ?_
  refine lv_iload hx hb d_Mod_feed_23 (lv_at hl 0 rfl) ?_
  refine lv_bipush (v := 20) hx hb d_Mod_feed_25 (by decide) ?_
  refine lv_icmp_ge (tgt := 113) hx hb d_Mod_feed_27 (by decide) (fun h => absurd h (by decide)) (fun _ => ?_)
  refine lv_iload hx hb d_Mod_feed_30 (lv_at hl 0 rfl) ?_
  refine lv_iconst (v := 4) hx hb d_Mod_feed_32 (by decide) ?_
  refine lv_icmp_ge (tgt := 40) hx hb d_Mod_feed_33 (by decide) (fun _ => ?_) (fun h => absurd h (by decide))
  refine lv_iload hx hb d_Mod_feed_40 (lv_at hl 0 rfl) ?_
  refine lv_bipush (v := 8) hx hb d_Mod_feed_42 (by decide) ?_
  refine lv_icmp_ge (tgt := 51) hx hb d_Mod_feed_44 (by decide) (fun _ => ?_) (fun h => absurd h (by decide))
  refine lv_iload hx hb d_Mod_feed_51 (lv_at hl 0 rfl) ?_
  refine lv_bipush (v := 12) hx hb d_Mod_feed_53 (by decide) ?_
  refine lv_icmp_ge (tgt := 62) hx hb d_Mod_feed_55 (by decide) (fun h => absurd h (by decide)) (fun _ => ?_)
  refine lv_iload_n hx hb d_Mod_feed_58 rfl (lv_at hl 5 rfl) ?_
  refine lv_goto (tgt := 76) hx hb d_Mod_feed_59 (by decide) ?_
  refine lv_istore (lv' := [(7, .int a3), (6, .int 11), (0, .ref zm), (1, .int a1), (2, .int a2), (3, .int a3), (4, .int a4), (5, .int a5)]) hx hb d_Mod_feed_76 hl (by decide) rfl (fun ls hl => ?_)
  refine lv_aload_n hx hb d_Mod_feed_78 rfl (lv_at hl 2 rfl) ?_
  refine va_get (D := K.1) (ci := 10) (v := .ref mt) (C := R_Mod) (T := T_Mod) (N := 44) hx hb hT in_Mod hown hK hP 0 rfl rfl 31 (by decide) (hT _ k_979) (fun _ h9 => h9) rfl d_Mod_feed_79 ?_
  refine lv_aload_n hx hb d_Mod_feed_82 rfl (lv_at hl 2 rfl) ?_
  refine va_get (D := K.1) (ci := 10) (v := .int 0) (C := R_Mod) (T := T_Mod) (N := 44) hx hb hT in_Mod hown hK hP 0 rfl rfl 1 (by decide) (hT _ k_981) (fun _ h9 => h9) rfl d_Mod_feed_83 ?_
  refine lv_iload hx hb d_Mod_feed_86 (lv_at hl 1 rfl) ?_
  refine lv_iadd hx hb d_Mod_feed_88 ?_
  refine lv_topi (fun z94 ez94 => ?_)
  obtain rfl : z94 = 11 := ez94.trans (by decide)
  refine lv_iload hx hb d_Mod_feed_89 (lv_at hl 0 rfl) ?_
  refine lv_bipush (v := 24) hx hb d_Mod_feed_91 (by decide) ?_
  refine lv_bipush (v := 8) hx hb d_Mod_feed_93 (by decide) ?_
  refine lv_iload hx hb d_Mod_feed_95 (lv_at hl 1 rfl) ?_
  refine lv_iconst (v := 4) hx hb d_Mod_feed_97 (by decide) ?_
  refine lv_irem hx hb d_Mod_feed_98 (by decide) ?_
  refine lv_topi (fun z95 ez95 => ?_)
  obtain rfl : z95 = 3 := ez95.trans (by decide)
  refine lv_imul hx hb d_Mod_feed_99 ?_
  refine lv_topi (fun z96 ez96 => ?_)
  obtain rfl : z96 = 24 := ez96.trans (by decide)
  refine lv_isub hx hb d_Mod_feed_100 ?_
  refine lv_topi (fun z97 ez97 => ?_)
  obtain rfl : z97 = 0 := ez97.trans (by decide)
  refine lv_ishr hx hb d_Mod_feed_101 ?_
  refine lv_sipush (v := 255) hx hb d_Mod_feed_102 (by decide) ?_
  refine lv_iand hx hb d_Mod_feed_105 ?_
  refine va_iast hx hb hK hP hD hS 1 1 rfl rfl (i := 11) (x := (a3 >>> ((0 : Int32) &&& 31)) &&& (255 : Int32)) (vp_in_nI (n := 11) (N := 1600) (by decide) (by decide)) d_Mod_feed_106 (fun H locs hP hD hS => ?_)
  have hP : va_P K.1 mx_cl [(zm, .inr (10, [.int 0, .int 0, .int 0, .int (-1), .int 0, .int 0, .int 0, .int 0, .int 255, .int 0, .int 0, .int 0, .long 256, .long 0, .int 0, .int 0, .long 0, .int 0, .int 0, .int 0, .int 0, .int 0, .int 0, .int 0, .int 0, .long 0, .long 0, .int 0, .long 0, .long 0, .long 0, .ref mt, .ref mx, .ref mla, .ref mll, .ref mli, .ref mlr, .ref mk, .ref mm, .ref md, .ref mr, .ref ms, .ref mst, .ref mas])), (mt, .inl (K.2.1.2.1, 1600, .inl (upd f89 (11 : Int32).toNatClampNeg ((a3 >>> ((0 : Int32) &&& 31)) &&& (255 : Int32)))))] H := hP
  have hD : va_D A [(zm, .inr (10, [.int 0, .int 0, .int 0, .int (-1), .int 0, .int 0, .int 0, .int 0, .int 255, .int 0, .int 0, .int 0, .long 256, .long 0, .int 0, .int 0, .long 0, .int 0, .int 0, .int 0, .int 0, .int 0, .int 0, .int 0, .int 0, .long 0, .long 0, .int 0, .long 0, .long 0, .long 0, .ref mt, .ref mx, .ref mla, .ref mll, .ref mli, .ref mlr, .ref mk, .ref mm, .ref md, .ref mr, .ref ms, .ref mst, .ref mas])), (mt, .inl (K.2.1.2.1, 1600, .inl (upd f89 (11 : Int32).toNatClampNeg ((a3 >>> ((0 : Int32) &&& 31)) &&& (255 : Int32)))))] := hD
  generalize ef98 : upd f89 (11 : Int32).toNatClampNeg ((a3 >>> ((0 : Int32) &&& 31)) &&& (255 : Int32)) = f98 at hP hD
  refine lv_iinc (lv' := [(6, .int 12), (7, .int a3), (0, .ref zm), (1, .int a1), (2, .int a2), (3, .int a3), (4, .int a4), (5, .int a5)]) (v := 12) (k := 1) hx hb d_Mod_feed_107 hl rfl (by decide) (by decide) rfl (fun ls hl => ?_)
  refine lv_goto (tgt := 23) hx hb d_Mod_feed_110 (by decide) ?_
  refine lv_iload hx hb d_Mod_feed_23 (lv_at hl 0 rfl) ?_
  refine lv_bipush (v := 20) hx hb d_Mod_feed_25 (by decide) ?_
  refine lv_icmp_ge (tgt := 113) hx hb d_Mod_feed_27 (by decide) (fun h => absurd h (by decide)) (fun _ => ?_)
  refine lv_iload hx hb d_Mod_feed_30 (lv_at hl 0 rfl) ?_
  refine lv_iconst (v := 4) hx hb d_Mod_feed_32 (by decide) ?_
  refine lv_icmp_ge (tgt := 40) hx hb d_Mod_feed_33 (by decide) (fun _ => ?_) (fun h => absurd h (by decide))
  refine lv_iload hx hb d_Mod_feed_40 (lv_at hl 0 rfl) ?_
  refine lv_bipush (v := 8) hx hb d_Mod_feed_42 (by decide) ?_
  refine lv_icmp_ge (tgt := 51) hx hb d_Mod_feed_44 (by decide) (fun _ => ?_) (fun h => absurd h (by decide))
  refine lv_iload hx hb d_Mod_feed_51 (lv_at hl 0 rfl) ?_
  refine lv_bipush (v := 12) hx hb d_Mod_feed_53 (by decide) ?_
  refine lv_icmp_ge (tgt := 62) hx hb d_Mod_feed_55 (by decide) (fun _ => ?_) (fun h => absurd h (by decide))
  refine lv_iload hx hb d_Mod_feed_62 (lv_at hl 0 rfl) ?_
  refine lv_bipush (v := 16) hx hb d_Mod_feed_64 (by decide) ?_
  refine lv_icmp_ge (tgt := 74) hx hb d_Mod_feed_66 (by decide) (fun h => absurd h (by decide)) (fun _ => ?_)
  refine lv_iload hx hb d_Mod_feed_69 (lv_at hl 6 rfl) ?_
  refine lv_goto (tgt := 76) hx hb d_Mod_feed_71 (by decide) ?_
  refine lv_istore (lv' := [(7, .int a4), (6, .int 12), (0, .ref zm), (1, .int a1), (2, .int a2), (3, .int a3), (4, .int a4), (5, .int a5)]) hx hb d_Mod_feed_76 hl (by decide) rfl (fun ls hl => ?_)
  refine lv_aload_n hx hb d_Mod_feed_78 rfl (lv_at hl 2 rfl) ?_
  refine va_get (D := K.1) (ci := 10) (v := .ref mt) (C := R_Mod) (T := T_Mod) (N := 44) hx hb hT in_Mod hown hK hP 0 rfl rfl 31 (by decide) (hT _ k_979) (fun _ h9 => h9) rfl d_Mod_feed_79 ?_
  refine lv_aload_n hx hb d_Mod_feed_82 rfl (lv_at hl 2 rfl) ?_
  refine va_get (D := K.1) (ci := 10) (v := .int 0) (C := R_Mod) (T := T_Mod) (N := 44) hx hb hT in_Mod hown hK hP 0 rfl rfl 1 (by decide) (hT _ k_981) (fun _ h9 => h9) rfl d_Mod_feed_83 ?_
  refine lv_iload hx hb d_Mod_feed_86 (lv_at hl 1 rfl) ?_
  refine lv_iadd hx hb d_Mod_feed_88 ?_
  refine lv_topi (fun z104 ez104 => ?_)
  obtain rfl : z104 = 12 := ez104.trans (by decide)
  refine lv_iload hx hb d_Mod_feed_89 (lv_at hl 0 rfl) ?_
  refine lv_bipush (v := 24) hx hb d_Mod_feed_91 (by decide) ?_
  refine lv_bipush (v := 8) hx hb d_Mod_feed_93 (by decide) ?_
  refine lv_iload hx hb d_Mod_feed_95 (lv_at hl 1 rfl) ?_
  refine lv_iconst (v := 4) hx hb d_Mod_feed_97 (by decide) ?_
  refine lv_irem hx hb d_Mod_feed_98 (by decide) ?_
  refine lv_topi (fun z105 ez105 => ?_)
  obtain rfl : z105 = 0 := ez105.trans (by decide)
  refine lv_imul hx hb d_Mod_feed_99 ?_
  refine lv_topi (fun z106 ez106 => ?_)
  obtain rfl : z106 = 0 := ez106.trans (by decide)
  refine lv_isub hx hb d_Mod_feed_100 ?_
  refine lv_topi (fun z107 ez107 => ?_)
  obtain rfl : z107 = 24 := ez107.trans (by decide)
  refine lv_ishr hx hb d_Mod_feed_101 ?_
  refine lv_sipush (v := 255) hx hb d_Mod_feed_102 (by decide) ?_
  refine lv_iand hx hb d_Mod_feed_105 ?_
  refine va_iast hx hb hK hP hD hS 1 1 rfl rfl (i := 12) (x := (a4 >>> ((24 : Int32) &&& 31)) &&& (255 : Int32)) (vp_in_nI (n := 12) (N := 1600) (by decide) (by decide)) d_Mod_feed_106 (fun H locs hP hD hS => ?_)
  have hP : va_P K.1 mx_cl [(zm, .inr (10, [.int 0, .int 0, .int 0, .int (-1), .int 0, .int 0, .int 0, .int 0, .int 255, .int 0, .int 0, .int 0, .long 256, .long 0, .int 0, .int 0, .long 0, .int 0, .int 0, .int 0, .int 0, .int 0, .int 0, .int 0, .int 0, .long 0, .long 0, .int 0, .long 0, .long 0, .long 0, .ref mt, .ref mx, .ref mla, .ref mll, .ref mli, .ref mlr, .ref mk, .ref mm, .ref md, .ref mr, .ref ms, .ref mst, .ref mas])), (mt, .inl (K.2.1.2.1, 1600, .inl (upd f98 (12 : Int32).toNatClampNeg ((a4 >>> ((24 : Int32) &&& 31)) &&& (255 : Int32)))))] H := hP
  have hD : va_D A [(zm, .inr (10, [.int 0, .int 0, .int 0, .int (-1), .int 0, .int 0, .int 0, .int 0, .int 255, .int 0, .int 0, .int 0, .long 256, .long 0, .int 0, .int 0, .long 0, .int 0, .int 0, .int 0, .int 0, .int 0, .int 0, .int 0, .int 0, .long 0, .long 0, .int 0, .long 0, .long 0, .long 0, .ref mt, .ref mx, .ref mla, .ref mll, .ref mli, .ref mlr, .ref mk, .ref mm, .ref md, .ref mr, .ref ms, .ref mst, .ref mas])), (mt, .inl (K.2.1.2.1, 1600, .inl (upd f98 (12 : Int32).toNatClampNeg ((a4 >>> ((24 : Int32) &&& 31)) &&& (255 : Int32)))))] := hD
  generalize ef108 : upd f98 (12 : Int32).toNatClampNeg ((a4 >>> ((24 : Int32) &&& 31)) &&& (255 : Int32)) = f108 at hP hD
  refine lv_iinc (lv' := [(6, .int 13), (7, .int a4), (0, .ref zm), (1, .int a1), (2, .int a2), (3, .int a3), (4, .int a4), (5, .int a5)]) (v := 13) (k := 1) hx hb d_Mod_feed_107 hl rfl (by decide) (by decide) rfl (fun ls hl => ?_)
  refine lv_goto (tgt := 23) hx hb d_Mod_feed_110 (by decide) ?_
  refine lv_iload hx hb d_Mod_feed_23 (lv_at hl 0 rfl) ?_
  refine lv_bipush (v := 20) hx hb d_Mod_feed_25 (by decide) ?_
  refine lv_icmp_ge (tgt := 113) hx hb d_Mod_feed_27 (by decide) (fun h => absurd h (by decide)) (fun _ => ?_)
  refine lv_iload hx hb d_Mod_feed_30 (lv_at hl 0 rfl) ?_
  refine lv_iconst (v := 4) hx hb d_Mod_feed_32 (by decide) ?_
  refine lv_icmp_ge (tgt := 40) hx hb d_Mod_feed_33 (by decide) (fun _ => ?_) (fun h => absurd h (by decide))
  refine lv_iload hx hb d_Mod_feed_40 (lv_at hl 0 rfl) ?_
  refine lv_bipush (v := 8) hx hb d_Mod_feed_42 (by decide) ?_
  refine lv_icmp_ge (tgt := 51) hx hb d_Mod_feed_44 (by decide) (fun _ => ?_) (fun h => absurd h (by decide))
  refine lv_iload hx hb d_Mod_feed_51 (lv_at hl 0 rfl) ?_
  refine lv_bipush (v := 12) hx hb d_Mod_feed_53 (by decide) ?_
  refine lv_icmp_ge (tgt := 62) hx hb d_Mod_feed_55 (by decide) (fun _ => ?_) (fun h => absurd h (by decide))
  refine lv_iload hx hb d_Mod_feed_62 (lv_at hl 0 rfl) ?_
  refine lv_bipush (v := 16) hx hb d_Mod_feed_64 (by decide) ?_
  refine lv_icmp_ge (tgt := 74) hx hb d_Mod_feed_66 (by decide) (fun h => absurd h (by decide)) (fun _ => ?_)
  refine lv_iload hx hb d_Mod_feed_69 (lv_at hl 6 rfl) ?_
  refine lv_goto (tgt := 76) hx hb d_Mod_feed_71 (by decide) ?_
  refine lv_istore (lv' := [(7, .int a4), (6, .int 13), (0, .ref zm), (1, .int a1), (2, .int a2), (3, .int a3), (4, .int a4), (5, .int a5)]) hx hb d_Mod_feed_76 hl (by decide) rfl (fun ls hl => ?_)
  refine lv_aload_n hx hb d_Mod_feed_78 rfl (lv_at hl 2 rfl) ?_
  refine va_get (D := K.1) (ci := 10) (v := .ref mt) (C := R_Mod) (T := T_Mod) (N := 44) hx hb hT in_Mod hown hK hP 0 rfl rfl 31 (by decide) (hT _ k_979) (fun _ h9 => h9) rfl d_Mod_feed_79 ?_
  refine lv_aload_n hx hb d_Mod_feed_82 rfl (lv_at hl 2 rfl) ?_
  refine va_get (D := K.1) (ci := 10) (v := .int 0) (C := R_Mod) (T := T_Mod) (N := 44) hx hb hT in_Mod hown hK hP 0 rfl rfl 1 (by decide) (hT _ k_981) (fun _ h9 => h9) rfl d_Mod_feed_83 ?_
  refine lv_iload hx hb d_Mod_feed_86 (lv_at hl 1 rfl) ?_
  refine lv_iadd hx hb d_Mod_feed_88 ?_
  refine lv_topi (fun z114 ez114 => ?_)
  obtain rfl : z114 = 13 := ez114.trans (by decide)
  refine lv_iload hx hb d_Mod_feed_89 (lv_at hl 0 rfl) ?_
  refine lv_bipush (v := 24) hx hb d_Mod_feed_91 (by decide) ?_
  refine lv_bipush (v := 8) hx hb d_Mod_feed_93 (by decide) ?_
  refine lv_iload hx hb d_Mod_feed_95 (lv_at hl 1 rfl) ?_
  refine lv_iconst (v := 4) hx hb d_Mod_feed_97 (by decide) ?_
  refine lv_irem hx hb d_Mod_feed_98 (by decide) ?_
  refine lv_topi (fun z115 ez115 => ?_)
  obtain rfl : z115 = 1 := ez115.trans (by decide)
  refine lv_imul hx hb d_Mod_feed_99 ?_
  refine lv_topi (fun z116 ez116 => ?_)
  obtain rfl : z116 = 8 := ez116.trans (by decide)
  refine lv_isub hx hb d_Mod_feed_100 ?_
  refine lv_topi (fun z117 ez117 => ?_)
  obtain rfl : z117 = 16 := ez117.trans (by decide)
  refine lv_ishr hx hb d_Mod_feed_101 ?_
  refine lv_sipush (v := 255) hx hb d_Mod_feed_102 (by decide) ?_
  refine lv_iand hx hb d_Mod_feed_105 ?_
  refine va_iast hx hb hK hP hD hS 1 1 rfl rfl (i := 13) (x := (a4 >>> ((16 : Int32) &&& 31)) &&& (255 : Int32)) (vp_in_nI (n := 13) (N := 1600) (by decide) (by decide)) d_Mod_feed_106 (fun H locs hP hD hS => ?_)
  have hP : va_P K.1 mx_cl [(zm, .inr (10, [.int 0, .int 0, .int 0, .int (-1), .int 0, .int 0, .int 0, .int 0, .int 255, .int 0, .int 0, .int 0, .long 256, .long 0, .int 0, .int 0, .long 0, .int 0, .int 0, .int 0, .int 0, .int 0, .int 0, .int 0, .int 0, .long 0, .long 0, .int 0, .long 0, .long 0, .long 0, .ref mt, .ref mx, .ref mla, .ref mll, .ref mli, .ref mlr, .ref mk, .ref mm, .ref md, .ref mr, .ref ms, .ref mst, .ref mas])), (mt, .inl (K.2.1.2.1, 1600, .inl (upd f108 (13 : Int32).toNatClampNeg ((a4 >>> ((16 : Int32) &&& 31)) &&& (255 : Int32)))))] H := hP
  have hD : va_D A [(zm, .inr (10, [.int 0, .int 0, .int 0, .int (-1), .int 0, .int 0, .int 0, .int 0, .int 255, .int 0, .int 0, .int 0, .long 256, .long 0, .int 0, .int 0, .long 0, .int 0, .int 0, .int 0, .int 0, .int 0, .int 0, .int 0, .int 0, .long 0, .long 0, .int 0, .long 0, .long 0, .long 0, .ref mt, .ref mx, .ref mla, .ref mll, .ref mli, .ref mlr, .ref mk, .ref mm, .ref md, .ref mr, .ref ms, .ref mst, .ref mas])), (mt, .inl (K.2.1.2.1, 1600, .inl (upd f108 (13 : Int32).toNatClampNeg ((a4 >>> ((16 : Int32) &&& 31)) &&& (255 : Int32)))))] := hD
  generalize ef118 : upd f108 (13 : Int32).toNatClampNeg ((a4 >>> ((16 : Int32) &&& 31)) &&& (255 : Int32)) = f118 at hP hD
  refine lv_iinc (lv' := [(6, .int 14), (7, .int a4), (0, .ref zm), (1, .int a1), (2, .int a2), (3, .int a3), (4, .int a4), (5, .int a5)]) (v := 14) (k := 1) hx hb d_Mod_feed_107 hl rfl (by decide) (by decide) rfl (fun ls hl => ?_)
  refine lv_goto (tgt := 23) hx hb d_Mod_feed_110 (by decide) ?_
  refine lv_iload hx hb d_Mod_feed_23 (lv_at hl 0 rfl) ?_
  refine lv_bipush (v := 20) hx hb d_Mod_feed_25 (by decide) ?_
  refine lv_icmp_ge (tgt := 113) hx hb d_Mod_feed_27 (by decide) (fun h => absurd h (by decide)) (fun _ => ?_)
  refine lv_iload hx hb d_Mod_feed_30 (lv_at hl 0 rfl) ?_
  refine lv_iconst (v := 4) hx hb d_Mod_feed_32 (by decide) ?_
  refine lv_icmp_ge (tgt := 40) hx hb d_Mod_feed_33 (by decide) (fun _ => ?_) (fun h => absurd h (by decide))
  refine lv_iload hx hb d_Mod_feed_40 (lv_at hl 0 rfl) ?_
  refine lv_bipush (v := 8) hx hb d_Mod_feed_42 (by decide) ?_
  refine lv_icmp_ge (tgt := 51) hx hb d_Mod_feed_44 (by decide) (fun _ => ?_) (fun h => absurd h (by decide))
  refine lv_iload hx hb d_Mod_feed_51 (lv_at hl 0 rfl) ?_
  refine lv_bipush (v := 12) hx hb d_Mod_feed_53 (by decide) ?_
  refine lv_icmp_ge (tgt := 62) hx hb d_Mod_feed_55 (by decide) (fun _ => ?_) (fun h => absurd h (by decide))
  refine lv_iload hx hb d_Mod_feed_62 (lv_at hl 0 rfl) ?_
  refine lv_bipush (v := 16) hx hb d_Mod_feed_64 (by decide) ?_
  refine lv_icmp_ge (tgt := 74) hx hb d_Mod_feed_66 (by decide) (fun h => absurd h (by decide)) (fun _ => ?_)
  refine lv_iload hx hb d_Mod_feed_69 (lv_at hl 6 rfl) ?_
  refine lv_goto (tgt := 76) hx hb d_Mod_feed_71 (by decide) ?_
  refine lv_istore (lv' := [(7, .int a4), (6, .int 14), (0, .ref zm), (1, .int a1), (2, .int a2), (3, .int a3), (4, .int a4), (5, .int a5)]) hx hb d_Mod_feed_76 hl (by decide) rfl (fun ls hl => ?_)
  refine lv_aload_n hx hb d_Mod_feed_78 rfl (lv_at hl 2 rfl) ?_
  refine va_get (D := K.1) (ci := 10) (v := .ref mt) (C := R_Mod) (T := T_Mod) (N := 44) hx hb hT in_Mod hown hK hP 0 rfl rfl 31 (by decide) (hT _ k_979) (fun _ h9 => h9) rfl d_Mod_feed_79 ?_
  refine lv_aload_n hx hb d_Mod_feed_82 rfl (lv_at hl 2 rfl) ?_
  refine va_get (D := K.1) (ci := 10) (v := .int 0) (C := R_Mod) (T := T_Mod) (N := 44) hx hb hT in_Mod hown hK hP 0 rfl rfl 1 (by decide) (hT _ k_981) (fun _ h9 => h9) rfl d_Mod_feed_83 ?_
  refine lv_iload hx hb d_Mod_feed_86 (lv_at hl 1 rfl) ?_
  refine lv_iadd hx hb d_Mod_feed_88 ?_
  refine lv_topi (fun z124 ez124 => ?_)
  obtain rfl : z124 = 14 := ez124.trans (by decide)
  refine lv_iload hx hb d_Mod_feed_89 (lv_at hl 0 rfl) ?_
  refine lv_bipush (v := 24) hx hb d_Mod_feed_91 (by decide) ?_
  refine lv_bipush (v := 8) hx hb d_Mod_feed_93 (by decide) ?_
  refine lv_iload hx hb d_Mod_feed_95 (lv_at hl 1 rfl) ?_
  refine lv_iconst (v := 4) hx hb d_Mod_feed_97 (by decide) ?_
  refine lv_irem hx hb d_Mod_feed_98 (by decide) ?_
  refine lv_topi (fun z125 ez125 => ?_)
  obtain rfl : z125 = 2 := ez125.trans (by decide)
  refine lv_imul hx hb d_Mod_feed_99 ?_
  refine lv_topi (fun z126 ez126 => ?_)
  obtain rfl : z126 = 16 := ez126.trans (by decide)
  refine lv_isub hx hb d_Mod_feed_100 ?_
  refine lv_topi (fun z127 ez127 => ?_)
  obtain rfl : z127 = 8 := ez127.trans (by decide)
  refine lv_ishr hx hb d_Mod_feed_101 ?_
  refine lv_sipush (v := 255) hx hb d_Mod_feed_102 (by decide) ?_
  refine lv_iand hx hb d_Mod_feed_105 ?_
  refine va_iast hx hb hK hP hD hS 1 1 rfl rfl (i := 14) (x := (a4 >>> ((8 : Int32) &&& 31)) &&& (255 : Int32)) (vp_in_nI (n := 14) (N := 1600) (by decide) (by decide)) d_Mod_feed_106 (fun H locs hP hD hS => ?_)
  have hP : va_P K.1 mx_cl [(zm, .inr (10, [.int 0, .int 0, .int 0, .int (-1), .int 0, .int 0, .int 0, .int 0, .int 255, .int 0, .int 0, .int 0, .long 256, .long 0, .int 0, .int 0, .long 0, .int 0, .int 0, .int 0, .int 0, .int 0, .int 0, .int 0, .int 0, .long 0, .long 0, .int 0, .long 0, .long 0, .long 0, .ref mt, .ref mx, .ref mla, .ref mll, .ref mli, .ref mlr, .ref mk, .ref mm, .ref md, .ref mr, .ref ms, .ref mst, .ref mas])), (mt, .inl (K.2.1.2.1, 1600, .inl (upd f118 (14 : Int32).toNatClampNeg ((a4 >>> ((8 : Int32) &&& 31)) &&& (255 : Int32)))))] H := hP
  have hD : va_D A [(zm, .inr (10, [.int 0, .int 0, .int 0, .int (-1), .int 0, .int 0, .int 0, .int 0, .int 255, .int 0, .int 0, .int 0, .long 256, .long 0, .int 0, .int 0, .long 0, .int 0, .int 0, .int 0, .int 0, .int 0, .int 0, .int 0, .int 0, .long 0, .long 0, .int 0, .long 0, .long 0, .long 0, .ref mt, .ref mx, .ref mla, .ref mll, .ref mli, .ref mlr, .ref mk, .ref mm, .ref md, .ref mr, .ref ms, .ref mst, .ref mas])), (mt, .inl (K.2.1.2.1, 1600, .inl (upd f118 (14 : Int32).toNatClampNeg ((a4 >>> ((8 : Int32) &&& 31)) &&& (255 : Int32)))))] := hD
  generalize ef128 : upd f118 (14 : Int32).toNatClampNeg ((a4 >>> ((8 : Int32) &&& 31)) &&& (255 : Int32)) = f128 at hP hD
  refine lv_iinc (lv' := [(6, .int 15), (7, .int a4), (0, .ref zm), (1, .int a1), (2, .int a2), (3, .int a3), (4, .int a4), (5, .int a5)]) (v := 15) (k := 1) hx hb d_Mod_feed_107 hl rfl (by decide) (by decide) rfl (fun ls hl => ?_)
  refine lv_goto (tgt := 23) hx hb d_Mod_feed_110 (by decide) ?_
  refine lv_iload hx hb d_Mod_feed_23 (lv_at hl 0 rfl) ?_
  refine lv_bipush (v := 20) hx hb d_Mod_feed_25 (by decide) ?_
  refine lv_icmp_ge (tgt := 113) hx hb d_Mod_feed_27 (by decide) (fun h => absurd h (by decide)) (fun _ => ?_)
  refine lv_iload hx hb d_Mod_feed_30 (lv_at hl 0 rfl) ?_
  refine lv_iconst (v := 4) hx hb d_Mod_feed_32 (by decide) ?_
  refine lv_icmp_ge (tgt := 40) hx hb d_Mod_feed_33 (by decide) (fun _ => ?_) (fun h => absurd h (by decide))
  refine lv_iload hx hb d_Mod_feed_40 (lv_at hl 0 rfl) ?_
  refine lv_bipush (v := 8) hx hb d_Mod_feed_42 (by decide) ?_
  refine lv_icmp_ge (tgt := 51) hx hb d_Mod_feed_44 (by decide) (fun _ => ?_) (fun h => absurd h (by decide))
  refine lv_iload hx hb d_Mod_feed_51 (lv_at hl 0 rfl) ?_
  refine lv_bipush (v := 12) hx hb d_Mod_feed_53 (by decide) ?_
  refine lv_icmp_ge (tgt := 62) hx hb d_Mod_feed_55 (by decide) (fun _ => ?_) (fun h => absurd h (by decide))
  refine lv_iload hx hb d_Mod_feed_62 (lv_at hl 0 rfl) ?_
  refine lv_bipush (v := 16) hx hb d_Mod_feed_64 (by decide) ?_
  refine lv_icmp_ge (tgt := 74) hx hb d_Mod_feed_66 (by decide) (fun h => absurd h (by decide)) (fun _ => ?_)
  refine lv_iload hx hb d_Mod_feed_69 (lv_at hl 6 rfl) ?_
  refine lv_goto (tgt := 76) hx hb d_Mod_feed_71 (by decide) ?_
  refine lv_istore (lv' := [(7, .int a4), (6, .int 15), (0, .ref zm), (1, .int a1), (2, .int a2), (3, .int a3), (4, .int a4), (5, .int a5)]) hx hb d_Mod_feed_76 hl (by decide) rfl (fun ls hl => ?_)
  refine lv_aload_n hx hb d_Mod_feed_78 rfl (lv_at hl 2 rfl) ?_
  refine va_get (D := K.1) (ci := 10) (v := .ref mt) (C := R_Mod) (T := T_Mod) (N := 44) hx hb hT in_Mod hown hK hP 0 rfl rfl 31 (by decide) (hT _ k_979) (fun _ h9 => h9) rfl d_Mod_feed_79 ?_
  refine lv_aload_n hx hb d_Mod_feed_82 rfl (lv_at hl 2 rfl) ?_
  refine va_get (D := K.1) (ci := 10) (v := .int 0) (C := R_Mod) (T := T_Mod) (N := 44) hx hb hT in_Mod hown hK hP 0 rfl rfl 1 (by decide) (hT _ k_981) (fun _ h9 => h9) rfl d_Mod_feed_83 ?_
  refine lv_iload hx hb d_Mod_feed_86 (lv_at hl 1 rfl) ?_
  refine lv_iadd hx hb d_Mod_feed_88 ?_
  refine lv_topi (fun z134 ez134 => ?_)
  obtain rfl : z134 = 15 := ez134.trans (by decide)
  refine lv_iload hx hb d_Mod_feed_89 (lv_at hl 0 rfl) ?_
  refine lv_bipush (v := 24) hx hb d_Mod_feed_91 (by decide) ?_
  refine lv_bipush (v := 8) hx hb d_Mod_feed_93 (by decide) ?_
  refine lv_iload hx hb d_Mod_feed_95 (lv_at hl 1 rfl) ?_
  refine lv_iconst (v := 4) hx hb d_Mod_feed_97 (by decide) ?_
  refine lv_irem hx hb d_Mod_feed_98 (by decide) ?_
  refine lv_topi (fun z135 ez135 => ?_)
  obtain rfl : z135 = 3 := ez135.trans (by decide)
  refine lv_imul hx hb d_Mod_feed_99 ?_
  refine lv_topi (fun z136 ez136 => ?_)
  obtain rfl : z136 = 24 := ez136.trans (by decide)
  refine lv_isub hx hb d_Mod_feed_100 ?_
  refine lv_topi (fun z137 ez137 => ?_)
  obtain rfl : z137 = 0 := ez137.trans (by decide)
  refine lv_ishr hx hb d_Mod_feed_101 ?_
  refine lv_sipush (v := 255) hx hb d_Mod_feed_102 (by decide) ?_
  refine lv_iand hx hb d_Mod_feed_105 ?_
  refine va_iast hx hb hK hP hD hS 1 1 rfl rfl (i := 15) (x := (a4 >>> ((0 : Int32) &&& 31)) &&& (255 : Int32)) (vp_in_nI (n := 15) (N := 1600) (by decide) (by decide)) d_Mod_feed_106 (fun H locs hP hD hS => ?_)
  have hP : va_P K.1 mx_cl [(zm, .inr (10, [.int 0, .int 0, .int 0, .int (-1), .int 0, .int 0, .int 0, .int 0, .int 255, .int 0, .int 0, .int 0, .long 256, .long 0, .int 0, .int 0, .long 0, .int 0, .int 0, .int 0, .int 0, .int 0, .int 0, .int 0, .int 0, .long 0, .long 0, .int 0, .long 0, .long 0, .long 0, .ref mt, .ref mx, .ref mla, .ref mll, .ref mli, .ref mlr, .ref mk, .ref mm, .ref md, .ref mr, .ref ms, .ref mst, .ref mas])), (mt, .inl (K.2.1.2.1, 1600, .inl (upd f128 (15 : Int32).toNatClampNeg ((a4 >>> ((0 : Int32) &&& 31)) &&& (255 : Int32)))))] H := hP
  have hD : va_D A [(zm, .inr (10, [.int 0, .int 0, .int 0, .int (-1), .int 0, .int 0, .int 0, .int 0, .int 255, .int 0, .int 0, .int 0, .long 256, .long 0, .int 0, .int 0, .long 0, .int 0, .int 0, .int 0, .int 0, .int 0, .int 0, .int 0, .int 0, .long 0, .long 0, .int 0, .long 0, .long 0, .long 0, .ref mt, .ref mx, .ref mla, .ref mll, .ref mli, .ref mlr, .ref mk, .ref mm, .ref md, .ref mr, .ref ms, .ref mst, .ref mas])), (mt, .inl (K.2.1.2.1, 1600, .inl (upd f128 (15 : Int32).toNatClampNeg ((a4 >>> ((0 : Int32) &&& 31)) &&& (255 : Int32)))))] := hD
  generalize ef138 : upd f128 (15 : Int32).toNatClampNeg ((a4 >>> ((0 : Int32) &&& 31)) &&& (255 : Int32)) = f138 at hP hD
  refine lv_iinc (lv' := [(6, .int 16), (7, .int a4), (0, .ref zm), (1, .int a1), (2, .int a2), (3, .int a3), (4, .int a4), (5, .int a5)]) (v := 16) (k := 1) hx hb d_Mod_feed_107 hl rfl (by decide) (by decide) rfl (fun ls hl => ?_)
  refine lv_goto (tgt := 23) hx hb d_Mod_feed_110 (by decide) ?_
  refine lv_iload hx hb d_Mod_feed_23 (lv_at hl 0 rfl) ?_
  refine lv_bipush (v := 20) hx hb d_Mod_feed_25 (by decide) ?_
  refine lv_icmp_ge (tgt := 113) hx hb d_Mod_feed_27 (by decide) (fun h => absurd h (by decide)) (fun _ => ?_)
  refine lv_iload hx hb d_Mod_feed_30 (lv_at hl 0 rfl) ?_
  refine lv_iconst (v := 4) hx hb d_Mod_feed_32 (by decide) ?_
  refine lv_icmp_ge (tgt := 40) hx hb d_Mod_feed_33 (by decide) (fun _ => ?_) (fun h => absurd h (by decide))
  refine lv_iload hx hb d_Mod_feed_40 (lv_at hl 0 rfl) ?_
  refine lv_bipush (v := 8) hx hb d_Mod_feed_42 (by decide) ?_
  refine lv_icmp_ge (tgt := 51) hx hb d_Mod_feed_44 (by decide) (fun _ => ?_) (fun h => absurd h (by decide))
  refine lv_iload hx hb d_Mod_feed_51 (lv_at hl 0 rfl) ?_
  refine lv_bipush (v := 12) hx hb d_Mod_feed_53 (by decide) ?_
  refine lv_icmp_ge (tgt := 62) hx hb d_Mod_feed_55 (by decide) (fun _ => ?_) (fun h => absurd h (by decide))
  refine lv_iload hx hb d_Mod_feed_62 (lv_at hl 0 rfl) ?_
  refine lv_bipush (v := 16) hx hb d_Mod_feed_64 (by decide) ?_
  refine lv_icmp_ge (tgt := 74) hx hb d_Mod_feed_66 (by decide) (fun _ => ?_) (fun h => absurd h (by decide))
  refine lv_iload hx hb d_Mod_feed_74 (lv_at hl 7 rfl) ?_
  refine lv_istore (lv' := [(7, .int a5), (6, .int 16), (0, .ref zm), (1, .int a1), (2, .int a2), (3, .int a3), (4, .int a4), (5, .int a5)]) hx hb d_Mod_feed_76 hl (by decide) rfl (fun ls hl => ?_)
  refine lv_aload_n hx hb d_Mod_feed_78 rfl (lv_at hl 2 rfl) ?_
  refine va_get (D := K.1) (ci := 10) (v := .ref mt) (C := R_Mod) (T := T_Mod) (N := 44) hx hb hT in_Mod hown hK hP 0 rfl rfl 31 (by decide) (hT _ k_979) (fun _ h9 => h9) rfl d_Mod_feed_79 ?_
  refine lv_aload_n hx hb d_Mod_feed_82 rfl (lv_at hl 2 rfl) ?_
  refine va_get (D := K.1) (ci := 10) (v := .int 0) (C := R_Mod) (T := T_Mod) (N := 44) hx hb hT in_Mod hown hK hP 0 rfl rfl 1 (by decide) (hT _ k_981) (fun _ h9 => h9) rfl d_Mod_feed_83 ?_
  refine lv_iload hx hb d_Mod_feed_86 (lv_at hl 1 rfl) ?_
  refine lv_iadd hx hb d_Mod_feed_88 ?_
  refine lv_topi (fun z144 ez144 => ?_)
  obtain rfl : z144 = 16 := ez144.trans (by decide)
  refine lv_iload hx hb d_Mod_feed_89 (lv_at hl 0 rfl) ?_
  refine lv_bipush (v := 24) hx hb d_Mod_feed_91 (by decide) ?_
  refine lv_bipush (v := 8) hx hb d_Mod_feed_93 (by decide) ?_
  refine lv_iload hx hb d_Mod_feed_95 (lv_at hl 1 rfl) ?_
  refine lv_iconst (v := 4) hx hb d_Mod_feed_97 (by decide) ?_
  refine lv_irem hx hb d_Mod_feed_98 (by decide) ?_
  refine lv_topi (fun z145 ez145 => ?_)
  obtain rfl : z145 = 0 := ez145.trans (by decide)
  refine lv_imul hx hb d_Mod_feed_99 ?_
  refine lv_topi (fun z146 ez146 => ?_)
  obtain rfl : z146 = 0 := ez146.trans (by decide)
  refine lv_isub hx hb d_Mod_feed_100 ?_
  refine lv_topi (fun z147 ez147 => ?_)
  obtain rfl : z147 = 24 := ez147.trans (by decide)
  refine lv_ishr hx hb d_Mod_feed_101 ?_
  refine lv_sipush (v := 255) hx hb d_Mod_feed_102 (by decide) ?_
  refine lv_iand hx hb d_Mod_feed_105 ?_
  refine va_iast hx hb hK hP hD hS 1 1 rfl rfl (i := 16) (x := (a5 >>> ((24 : Int32) &&& 31)) &&& (255 : Int32)) (vp_in_nI (n := 16) (N := 1600) (by decide) (by decide)) d_Mod_feed_106 (fun H locs hP hD hS => ?_)
  have hP : va_P K.1 mx_cl [(zm, .inr (10, [.int 0, .int 0, .int 0, .int (-1), .int 0, .int 0, .int 0, .int 0, .int 255, .int 0, .int 0, .int 0, .long 256, .long 0, .int 0, .int 0, .long 0, .int 0, .int 0, .int 0, .int 0, .int 0, .int 0, .int 0, .int 0, .long 0, .long 0, .int 0, .long 0, .long 0, .long 0, .ref mt, .ref mx, .ref mla, .ref mll, .ref mli, .ref mlr, .ref mk, .ref mm, .ref md, .ref mr, .ref ms, .ref mst, .ref mas])), (mt, .inl (K.2.1.2.1, 1600, .inl (upd f138 (16 : Int32).toNatClampNeg ((a5 >>> ((24 : Int32) &&& 31)) &&& (255 : Int32)))))] H := hP
  have hD : va_D A [(zm, .inr (10, [.int 0, .int 0, .int 0, .int (-1), .int 0, .int 0, .int 0, .int 0, .int 255, .int 0, .int 0, .int 0, .long 256, .long 0, .int 0, .int 0, .long 0, .int 0, .int 0, .int 0, .int 0, .int 0, .int 0, .int 0, .int 0, .long 0, .long 0, .int 0, .long 0, .long 0, .long 0, .ref mt, .ref mx, .ref mla, .ref mll, .ref mli, .ref mlr, .ref mk, .ref mm, .ref md, .ref mr, .ref ms, .ref mst, .ref mas])), (mt, .inl (K.2.1.2.1, 1600, .inl (upd f138 (16 : Int32).toNatClampNeg ((a5 >>> ((24 : Int32) &&& 31)) &&& (255 : Int32)))))] := hD
  generalize ef148 : upd f138 (16 : Int32).toNatClampNeg ((a5 >>> ((24 : Int32) &&& 31)) &&& (255 : Int32)) = f148 at hP hD
  refine lv_iinc (lv' := [(6, .int 17), (7, .int a5), (0, .ref zm), (1, .int a1), (2, .int a2), (3, .int a3), (4, .int a4), (5, .int a5)]) (v := 17) (k := 1) hx hb d_Mod_feed_107 hl rfl (by decide) (by decide) rfl (fun ls hl => ?_)
  refine lv_goto (tgt := 23) hx hb d_Mod_feed_110 (by decide) ?_
  refine lv_iload hx hb d_Mod_feed_23 (lv_at hl 0 rfl) ?_
  refine lv_bipush (v := 20) hx hb d_Mod_feed_25 (by decide) ?_
  refine lv_icmp_ge (tgt := 113) hx hb d_Mod_feed_27 (by decide) (fun h => absurd h (by decide)) (fun _ => ?_)
  refine lv_iload hx hb d_Mod_feed_30 (lv_at hl 0 rfl) ?_
  refine lv_iconst (v := 4) hx hb d_Mod_feed_32 (by decide) ?_
  refine lv_icmp_ge (tgt := 40) hx hb d_Mod_feed_33 (by decide) (fun _ => ?_) (fun h => absurd h (by decide))
  refine lv_iload hx hb d_Mod_feed_40 (lv_at hl 0 rfl) ?_
  refine lv_bipush (v := 8) hx hb d_Mod_feed_42 (by decide) ?_
  refine lv_icmp_ge (tgt := 51) hx hb d_Mod_feed_44 (by decide) (fun _ => ?_) (fun h => absurd h (by decide))
  refine lv_iload hx hb d_Mod_feed_51 (lv_at hl 0 rfl) ?_
  refine lv_bipush (v := 12) hx hb d_Mod_feed_53 (by decide) ?_
  refine lv_icmp_ge (tgt := 62) hx hb d_Mod_feed_55 (by decide) (fun _ => ?_) (fun h => absurd h (by decide))
  refine lv_iload hx hb d_Mod_feed_62 (lv_at hl 0 rfl) ?_
  refine lv_bipush (v := 16) hx hb d_Mod_feed_64 (by decide) ?_
  refine lv_icmp_ge (tgt := 74) hx hb d_Mod_feed_66 (by decide) (fun _ => ?_) (fun h => absurd h (by decide))
  refine lv_iload hx hb d_Mod_feed_74 (lv_at hl 7 rfl) ?_
  refine lv_istore (lv' := [(7, .int a5), (6, .int 17), (0, .ref zm), (1, .int a1), (2, .int a2), (3, .int a3), (4, .int a4), (5, .int a5)]) hx hb d_Mod_feed_76 hl (by decide) rfl (fun ls hl => ?_)
  refine lv_aload_n hx hb d_Mod_feed_78 rfl (lv_at hl 2 rfl) ?_
  refine va_get (D := K.1) (ci := 10) (v := .ref mt) (C := R_Mod) (T := T_Mod) (N := 44) hx hb hT in_Mod hown hK hP 0 rfl rfl 31 (by decide) (hT _ k_979) (fun _ h9 => h9) rfl d_Mod_feed_79 ?_
  refine lv_aload_n hx hb d_Mod_feed_82 rfl (lv_at hl 2 rfl) ?_
  refine va_get (D := K.1) (ci := 10) (v := .int 0) (C := R_Mod) (T := T_Mod) (N := 44) hx hb hT in_Mod hown hK hP 0 rfl rfl 1 (by decide) (hT _ k_981) (fun _ h9 => h9) rfl d_Mod_feed_83 ?_
  refine lv_iload hx hb d_Mod_feed_86 (lv_at hl 1 rfl) ?_
  refine lv_iadd hx hb d_Mod_feed_88 ?_
  refine lv_topi (fun z154 ez154 => ?_)
  obtain rfl : z154 = 17 := ez154.trans (by decide)
  refine lv_iload hx hb d_Mod_feed_89 (lv_at hl 0 rfl) ?_
  refine lv_bipush (v := 24) hx hb d_Mod_feed_91 (by decide) ?_
  refine lv_bipush (v := 8) hx hb d_Mod_feed_93 (by decide) ?_
  refine lv_iload hx hb d_Mod_feed_95 (lv_at hl 1 rfl) ?_
  refine lv_iconst (v := 4) hx hb d_Mod_feed_97 (by decide) ?_
  refine lv_irem hx hb d_Mod_feed_98 (by decide) ?_
  refine lv_topi (fun z155 ez155 => ?_)
  obtain rfl : z155 = 1 := ez155.trans (by decide)
  refine lv_imul hx hb d_Mod_feed_99 ?_
  refine lv_topi (fun z156 ez156 => ?_)
  obtain rfl : z156 = 8 := ez156.trans (by decide)
  refine lv_isub hx hb d_Mod_feed_100 ?_
  refine lv_topi (fun z157 ez157 => ?_)
  obtain rfl : z157 = 16 := ez157.trans (by decide)
  refine lv_ishr hx hb d_Mod_feed_101 ?_
  refine lv_sipush (v := 255) hx hb d_Mod_feed_102 (by decide) ?_
  refine lv_iand hx hb d_Mod_feed_105 ?_
  refine va_iast hx hb hK hP hD hS 1 1 rfl rfl (i := 17) (x := (a5 >>> ((16 : Int32) &&& 31)) &&& (255 : Int32)) (vp_in_nI (n := 17) (N := 1600) (by decide) (by decide)) d_Mod_feed_106 (fun H locs hP hD hS => ?_)
  have hP : va_P K.1 mx_cl [(zm, .inr (10, [.int 0, .int 0, .int 0, .int (-1), .int 0, .int 0, .int 0, .int 0, .int 255, .int 0, .int 0, .int 0, .long 256, .long 0, .int 0, .int 0, .long 0, .int 0, .int 0, .int 0, .int 0, .int 0, .int 0, .int 0, .int 0, .long 0, .long 0, .int 0, .long 0, .long 0, .long 0, .ref mt, .ref mx, .ref mla, .ref mll, .ref mli, .ref mlr, .ref mk, .ref mm, .ref md, .ref mr, .ref ms, .ref mst, .ref mas])), (mt, .inl (K.2.1.2.1, 1600, .inl (upd f148 (17 : Int32).toNatClampNeg ((a5 >>> ((16 : Int32) &&& 31)) &&& (255 : Int32)))))] H := hP
  have hD : va_D A [(zm, .inr (10, [.int 0, .int 0, .int 0, .int (-1), .int 0, .int 0, .int 0, .int 0, .int 255, .int 0, .int 0, .int 0, .long 256, .long 0, .int 0, .int 0, .long 0, .int 0, .int 0, .int 0, .int 0, .int 0, .int 0, .int 0, .int 0, .long 0, .long 0, .int 0, .long 0, .long 0, .long 0, .ref mt, .ref mx, .ref mla, .ref mll, .ref mli, .ref mlr, .ref mk, .ref mm, .ref md, .ref mr, .ref ms, .ref mst, .ref mas])), (mt, .inl (K.2.1.2.1, 1600, .inl (upd f148 (17 : Int32).toNatClampNeg ((a5 >>> ((16 : Int32) &&& 31)) &&& (255 : Int32)))))] := hD
  generalize ef158 : upd f148 (17 : Int32).toNatClampNeg ((a5 >>> ((16 : Int32) &&& 31)) &&& (255 : Int32)) = f158 at hP hD
  refine lv_iinc (lv' := [(6, .int 18), (7, .int a5), (0, .ref zm), (1, .int a1), (2, .int a2), (3, .int a3), (4, .int a4), (5, .int a5)]) (v := 18) (k := 1) hx hb d_Mod_feed_107 hl rfl (by decide) (by decide) rfl (fun ls hl => ?_)
  refine lv_goto (tgt := 23) hx hb d_Mod_feed_110 (by decide) ?_
  refine lv_iload hx hb d_Mod_feed_23 (lv_at hl 0 rfl) ?_
  refine lv_bipush (v := 20) hx hb d_Mod_feed_25 (by decide) ?_
  refine lv_icmp_ge (tgt := 113) hx hb d_Mod_feed_27 (by decide) (fun h => absurd h (by decide)) (fun _ => ?_)
  refine lv_iload hx hb d_Mod_feed_30 (lv_at hl 0 rfl) ?_
  refine lv_iconst (v := 4) hx hb d_Mod_feed_32 (by decide) ?_
  refine lv_icmp_ge (tgt := 40) hx hb d_Mod_feed_33 (by decide) (fun _ => ?_) (fun h => absurd h (by decide))
  refine lv_iload hx hb d_Mod_feed_40 (lv_at hl 0 rfl) ?_
  refine lv_bipush (v := 8) hx hb d_Mod_feed_42 (by decide) ?_
  refine lv_icmp_ge (tgt := 51) hx hb d_Mod_feed_44 (by decide) (fun _ => ?_) (fun h => absurd h (by decide))
  refine lv_iload hx hb d_Mod_feed_51 (lv_at hl 0 rfl) ?_
  refine lv_bipush (v := 12) hx hb d_Mod_feed_53 (by decide) ?_
  refine lv_icmp_ge (tgt := 62) hx hb d_Mod_feed_55 (by decide) (fun _ => ?_) (fun h => absurd h (by decide))
  refine lv_iload hx hb d_Mod_feed_62 (lv_at hl 0 rfl) ?_
  refine lv_bipush (v := 16) hx hb d_Mod_feed_64 (by decide) ?_
  refine lv_icmp_ge (tgt := 74) hx hb d_Mod_feed_66 (by decide) (fun _ => ?_) (fun h => absurd h (by decide))
  refine lv_iload hx hb d_Mod_feed_74 (lv_at hl 7 rfl) ?_
  refine lv_istore (lv' := [(7, .int a5), (6, .int 18), (0, .ref zm), (1, .int a1), (2, .int a2), (3, .int a3), (4, .int a4), (5, .int a5)]) hx hb d_Mod_feed_76 hl (by decide) rfl (fun ls hl => ?_)
  refine lv_aload_n hx hb d_Mod_feed_78 rfl (lv_at hl 2 rfl) ?_
  refine va_get (D := K.1) (ci := 10) (v := .ref mt) (C := R_Mod) (T := T_Mod) (N := 44) hx hb hT in_Mod hown hK hP 0 rfl rfl 31 (by decide) (hT _ k_979) (fun _ h9 => h9) rfl d_Mod_feed_79 ?_
  refine lv_aload_n hx hb d_Mod_feed_82 rfl (lv_at hl 2 rfl) ?_
  refine va_get (D := K.1) (ci := 10) (v := .int 0) (C := R_Mod) (T := T_Mod) (N := 44) hx hb hT in_Mod hown hK hP 0 rfl rfl 1 (by decide) (hT _ k_981) (fun _ h9 => h9) rfl d_Mod_feed_83 ?_
  refine lv_iload hx hb d_Mod_feed_86 (lv_at hl 1 rfl) ?_
  refine lv_iadd hx hb d_Mod_feed_88 ?_
  refine lv_topi (fun z164 ez164 => ?_)
  obtain rfl : z164 = 18 := ez164.trans (by decide)
  refine lv_iload hx hb d_Mod_feed_89 (lv_at hl 0 rfl) ?_
  refine lv_bipush (v := 24) hx hb d_Mod_feed_91 (by decide) ?_
  refine lv_bipush (v := 8) hx hb d_Mod_feed_93 (by decide) ?_
  refine lv_iload hx hb d_Mod_feed_95 (lv_at hl 1 rfl) ?_
  refine lv_iconst (v := 4) hx hb d_Mod_feed_97 (by decide) ?_
  refine lv_irem hx hb d_Mod_feed_98 (by decide) ?_
  refine lv_topi (fun z165 ez165 => ?_)
  obtain rfl : z165 = 2 := ez165.trans (by decide)
  refine lv_imul hx hb d_Mod_feed_99 ?_
  refine lv_topi (fun z166 ez166 => ?_)
  obtain rfl : z166 = 16 := ez166.trans (by decide)
  refine lv_isub hx hb d_Mod_feed_100 ?_
  refine lv_topi (fun z167 ez167 => ?_)
  obtain rfl : z167 = 8 := ez167.trans (by decide)
  refine lv_ishr hx hb d_Mod_feed_101 ?_
  refine lv_sipush (v := 255) hx hb d_Mod_feed_102 (by decide) ?_
  refine lv_iand hx hb d_Mod_feed_105 ?_
  refine va_iast hx hb hK hP hD hS 1 1 rfl rfl (i := 18) (x := (a5 >>> ((8 : Int32) &&& 31)) &&& (255 : Int32)) (vp_in_nI (n := 18) (N := 1600) (by decide) (by decide)) d_Mod_feed_106 (fun H locs hP hD hS => ?_)
  have hP : va_P K.1 mx_cl [(zm, .inr (10, [.int 0, .int 0, .int 0, .int (-1), .int 0, .int 0, .int 0, .int 0, .int 255, .int 0, .int 0, .int 0, .long 256, .long 0, .int 0, .int 0, .long 0, .int 0, .int 0, .int 0, .int 0, .int 0, .int 0, .int 0, .int 0, .long 0, .long 0, .int 0, .long 0, .long 0, .long 0, .ref mt, .ref mx, .ref mla, .ref mll, .ref mli, .ref mlr, .ref mk, .ref mm, .ref md, .ref mr, .ref ms, .ref mst, .ref mas])), (mt, .inl (K.2.1.2.1, 1600, .inl (upd f158 (18 : Int32).toNatClampNeg ((a5 >>> ((8 : Int32) &&& 31)) &&& (255 : Int32)))))] H := hP
  have hD : va_D A [(zm, .inr (10, [.int 0, .int 0, .int 0, .int (-1), .int 0, .int 0, .int 0, .int 0, .int 255, .int 0, .int 0, .int 0, .long 256, .long 0, .int 0, .int 0, .long 0, .int 0, .int 0, .int 0, .int 0, .int 0, .int 0, .int 0, .int 0, .long 0, .long 0, .int 0, .long 0, .long 0, .long 0, .ref mt, .ref mx, .ref mla, .ref mll, .ref mli, .ref mlr, .ref mk, .ref mm, .ref md, .ref mr, .ref ms, .ref mst, .ref mas])), (mt, .inl (K.2.1.2.1, 1600, .inl (upd f158 (18 : Int32).toNatClampNeg ((a5 >>> ((8 : Int32) &&& 31)) &&& (255 : Int32)))))] := hD
  generalize ef168 : upd f158 (18 : Int32).toNatClampNeg ((a5 >>> ((8 : Int32) &&& 31)) &&& (255 : Int32)) = f168 at hP hD
  refine lv_iinc (lv' := [(6, .int 19), (7, .int a5), (0, .ref zm), (1, .int a1), (2, .int a2), (3, .int a3), (4, .int a4), (5, .int a5)]) (v := 19) (k := 1) hx hb d_Mod_feed_107 hl rfl (by decide) (by decide) rfl (fun ls hl => ?_)
  refine lv_goto (tgt := 23) hx hb d_Mod_feed_110 (by decide) ?_
  refine lv_iload hx hb d_Mod_feed_23 (lv_at hl 0 rfl) ?_
  refine lv_bipush (v := 20) hx hb d_Mod_feed_25 (by decide) ?_
  refine lv_icmp_ge (tgt := 113) hx hb d_Mod_feed_27 (by decide) (fun h => absurd h (by decide)) (fun _ => ?_)
  refine lv_iload hx hb d_Mod_feed_30 (lv_at hl 0 rfl) ?_
  refine lv_iconst (v := 4) hx hb d_Mod_feed_32 (by decide) ?_
  refine lv_icmp_ge (tgt := 40) hx hb d_Mod_feed_33 (by decide) (fun _ => ?_) (fun h => absurd h (by decide))
  refine lv_iload hx hb d_Mod_feed_40 (lv_at hl 0 rfl) ?_
  refine lv_bipush (v := 8) hx hb d_Mod_feed_42 (by decide) ?_
  refine lv_icmp_ge (tgt := 51) hx hb d_Mod_feed_44 (by decide) (fun _ => ?_) (fun h => absurd h (by decide))
  refine lv_iload hx hb d_Mod_feed_51 (lv_at hl 0 rfl) ?_
  refine lv_bipush (v := 12) hx hb d_Mod_feed_53 (by decide) ?_
  refine lv_icmp_ge (tgt := 62) hx hb d_Mod_feed_55 (by decide) (fun _ => ?_) (fun h => absurd h (by decide))
  refine lv_iload hx hb d_Mod_feed_62 (lv_at hl 0 rfl) ?_
  refine lv_bipush (v := 16) hx hb d_Mod_feed_64 (by decide) ?_
  refine lv_icmp_ge (tgt := 74) hx hb d_Mod_feed_66 (by decide) (fun _ => ?_) (fun h => absurd h (by decide))
  refine lv_iload hx hb d_Mod_feed_74 (lv_at hl 7 rfl) ?_
  refine lv_istore (lv' := [(7, .int a5), (6, .int 19), (0, .ref zm), (1, .int a1), (2, .int a2), (3, .int a3), (4, .int a4), (5, .int a5)]) hx hb d_Mod_feed_76 hl (by decide) rfl (fun ls hl => ?_)
  refine lv_aload_n hx hb d_Mod_feed_78 rfl (lv_at hl 2 rfl) ?_
  refine va_get (D := K.1) (ci := 10) (v := .ref mt) (C := R_Mod) (T := T_Mod) (N := 44) hx hb hT in_Mod hown hK hP 0 rfl rfl 31 (by decide) (hT _ k_979) (fun _ h9 => h9) rfl d_Mod_feed_79 ?_
  refine lv_aload_n hx hb d_Mod_feed_82 rfl (lv_at hl 2 rfl) ?_
  refine va_get (D := K.1) (ci := 10) (v := .int 0) (C := R_Mod) (T := T_Mod) (N := 44) hx hb hT in_Mod hown hK hP 0 rfl rfl 1 (by decide) (hT _ k_981) (fun _ h9 => h9) rfl d_Mod_feed_83 ?_
  refine lv_iload hx hb d_Mod_feed_86 (lv_at hl 1 rfl) ?_
  refine lv_iadd hx hb d_Mod_feed_88 ?_
  refine lv_topi (fun z174 ez174 => ?_)
  obtain rfl : z174 = 19 := ez174.trans (by decide)
  refine lv_iload hx hb d_Mod_feed_89 (lv_at hl 0 rfl) ?_
  refine lv_bipush (v := 24) hx hb d_Mod_feed_91 (by decide) ?_
  refine lv_bipush (v := 8) hx hb d_Mod_feed_93 (by decide) ?_
  refine lv_iload hx hb d_Mod_feed_95 (lv_at hl 1 rfl) ?_
  refine lv_iconst (v := 4) hx hb d_Mod_feed_97 (by decide) ?_
  refine lv_irem hx hb d_Mod_feed_98 (by decide) ?_
  refine lv_topi (fun z175 ez175 => ?_)
  obtain rfl : z175 = 3 := ez175.trans (by decide)
  refine lv_imul hx hb d_Mod_feed_99 ?_
  refine lv_topi (fun z176 ez176 => ?_)
  obtain rfl : z176 = 24 := ez176.trans (by decide)
  refine lv_isub hx hb d_Mod_feed_100 ?_
  refine lv_topi (fun z177 ez177 => ?_)
  obtain rfl : z177 = 0 := ez177.trans (by decide)
  refine lv_ishr hx hb d_Mod_feed_101 ?_
  refine lv_sipush (v := 255) hx hb d_Mod_feed_102 (by decide) ?_
  refine lv_iand hx hb d_Mod_feed_105 ?_
  refine va_iast hx hb hK hP hD hS 1 1 rfl rfl (i := 19) (x := (a5 >>> ((0 : Int32) &&& 31)) &&& (255 : Int32)) (vp_in_nI (n := 19) (N := 1600) (by decide) (by decide)) d_Mod_feed_106 (fun H locs hP hD hS => ?_)
  have hP : va_P K.1 mx_cl [(zm, .inr (10, [.int 0, .int 0, .int 0, .int (-1), .int 0, .int 0, .int 0, .int 0, .int 255, .int 0, .int 0, .int 0, .long 256, .long 0, .int 0, .int 0, .long 0, .int 0, .int 0, .int 0, .int 0, .int 0, .int 0, .int 0, .int 0, .long 0, .long 0, .int 0, .long 0, .long 0, .long 0, .ref mt, .ref mx, .ref mla, .ref mll, .ref mli, .ref mlr, .ref mk, .ref mm, .ref md, .ref mr, .ref ms, .ref mst, .ref mas])), (mt, .inl (K.2.1.2.1, 1600, .inl (upd f168 (19 : Int32).toNatClampNeg ((a5 >>> ((0 : Int32) &&& 31)) &&& (255 : Int32)))))] H := hP
  have hD : va_D A [(zm, .inr (10, [.int 0, .int 0, .int 0, .int (-1), .int 0, .int 0, .int 0, .int 0, .int 255, .int 0, .int 0, .int 0, .long 256, .long 0, .int 0, .int 0, .long 0, .int 0, .int 0, .int 0, .int 0, .int 0, .int 0, .int 0, .int 0, .long 0, .long 0, .int 0, .long 0, .long 0, .long 0, .ref mt, .ref mx, .ref mla, .ref mll, .ref mli, .ref mlr, .ref mk, .ref mm, .ref md, .ref mr, .ref ms, .ref mst, .ref mas])), (mt, .inl (K.2.1.2.1, 1600, .inl (upd f168 (19 : Int32).toNatClampNeg ((a5 >>> ((0 : Int32) &&& 31)) &&& (255 : Int32)))))] := hD
  generalize ef178 : upd f168 (19 : Int32).toNatClampNeg ((a5 >>> ((0 : Int32) &&& 31)) &&& (255 : Int32)) = f178 at hP hD
  refine lv_iinc (lv' := [(6, .int 20), (7, .int a5), (0, .ref zm), (1, .int a1), (2, .int a2), (3, .int a3), (4, .int a4), (5, .int a5)]) (v := 20) (k := 1) hx hb d_Mod_feed_107 hl rfl (by decide) (by decide) rfl (fun ls hl => ?_)
  refine lv_goto (tgt := 23) hx hb d_Mod_feed_110 (by decide) ?_
  refine lv_iload hx hb d_Mod_feed_23 (lv_at hl 0 rfl) ?_
  refine lv_bipush (v := 20) hx hb d_Mod_feed_25 (by decide) ?_
  refine lv_icmp_ge (tgt := 113) hx hb d_Mod_feed_27 (by decide) (fun _ => ?_) (fun h => absurd h (by decide))
  refine lv_aload_n hx hb d_Mod_feed_113 rfl (lv_at hl 2 rfl) ?_
  refine lv_dup hx hb d_Mod_feed_114 rfl ?_
  refine va_get (D := K.1) (ci := 10) (v := .int 0) (C := R_Mod) (T := T_Mod) (N := 44) hx hb hT in_Mod hown hK hP 0 rfl rfl 1 (by decide) (hT _ k_981) (fun _ h9 => h9) rfl d_Mod_feed_115 ?_
  refine lv_bipush (v := 20) hx hb d_Mod_feed_118 (by decide) ?_
  refine lv_iadd hx hb d_Mod_feed_120 ?_
  refine lv_topi (fun z180 ez180 => ?_)
  obtain rfl : z180 = 20 := ez180.trans (by decide)
  refine va_put (D := K.1) (ci := 10) (v := .int 20) (ty := .int) (C := R_Mod) (T := T_Mod) (N := 44) hx hb hT in_Mod t_Mod t_Mod_ok n_Mod hown hK hP hD hS 0 rfl rfl 1 (by decide) (hT _ k_981) (fun _ h9 => h9) rfl (by decide +kernel) rfl rfl (Nat.le_of_ble_eq_true rfl) d_Mod_feed_121 (fun H locs hP hD hS => ?_)
  have hP : va_P K.1 mx_cl [(zm, .inr (10, [.int 0, .int 20, .int 0, .int (-1), .int 0, .int 0, .int 0, .int 0, .int 255, .int 0, .int 0, .int 0, .long 256, .long 0, .int 0, .int 0, .long 0, .int 0, .int 0, .int 0, .int 0, .int 0, .int 0, .int 0, .int 0, .long 0, .long 0, .int 0, .long 0, .long 0, .long 0, .ref mt, .ref mx, .ref mla, .ref mll, .ref mli, .ref mlr, .ref mk, .ref mm, .ref md, .ref mr, .ref ms, .ref mst, .ref mas])), (mt, .inl (K.2.1.2.1, 1600, .inl f178))] H := hP
  have hD : va_D A [(zm, .inr (10, [.int 0, .int 20, .int 0, .int (-1), .int 0, .int 0, .int 0, .int 0, .int 255, .int 0, .int 0, .int 0, .long 256, .long 0, .int 0, .int 0, .long 0, .int 0, .int 0, .int 0, .int 0, .int 0, .int 0, .int 0, .int 0, .long 0, .long 0, .int 0, .long 0, .long 0, .long 0, .ref mt, .ref mx, .ref mla, .ref mll, .ref mli, .ref mlr, .ref mk, .ref mm, .ref md, .ref mr, .ref ms, .ref mst, .ref mas])), (mt, .inl (K.2.1.2.1, 1600, .inl f178))] := hD
  refine lv_iconst (v := 1) hx hb d_Mod_feed_124 (by decide) ?_
  exact mx_ri F hr hlk (by decide) hP hD hS () [] rfl (by decide) rfl (by decide) (by decide) d_Mod_feed_125
