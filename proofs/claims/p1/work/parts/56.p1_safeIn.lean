set_option maxHeartbeats 4000000 in
set_option maxRecDepth 100000 in
theorem au_X10_putBytes_52 (l : Launch) (D : va_G) (cy : Nat → ClassId) (a : Nat → Nat) (v1_ : Int32) : Cv l yX10_putBytes cX10_putBytes 3 none { frames := 0, cells := 0, slots := 0, locals := 0 } D cy [.ref (a 0), .int v1_] [((a 0), .inr (10, [.ref (a 1), .int 0, .int 0, .int (-1), .ref (a 2), .ref (a 3), .ref (a 4), .ref (a 5), .ref (a 6), .ref (a 7), .ref (a 8), .ref (a 9), .int 0])), ((a 1), .inl (cy 1, 900, .inl (fun _ => 0)))] (fun W1 => (W1 = [((a 0), .inr (10, [.ref (a 1), .int 4, .int 0, .int (-1), .ref (a 2), .ref (a 3), .ref (a 4), .ref (a 5), .ref (a 6), .ref (a 7), .ref (a 8), .ref (a 9), .int 0])), ((a 1), .inl (cy 1, 900, .inl (upd (upd (upd (upd (fun _ => 0) ((0 : Int32).toNatClampNeg) (vp_nar .byte (((v1_.toUInt32 >>> ((24 : Int32).toUInt32 &&& Int32.toUInt32 31)).toInt32).toInt8.toInt32))) ((1 : Int32).toNatClampNeg) (vp_nar .byte (((v1_.toUInt32 >>> ((16 : Int32).toUInt32 &&& Int32.toUInt32 31)).toInt32).toInt8.toInt32))) ((2 : Int32).toNatClampNeg) (vp_nar .byte (((v1_.toUInt32 >>> ((8 : Int32).toUInt32 &&& Int32.toUInt32 31)).toInt32).toInt8.toInt32))) ((3 : Int32).toNatClampNeg) (vp_nar .byte (((v1_.toUInt32 >>> ((0 : Int32).toUInt32 &&& Int32.toUInt32 31)).toInt32).toInt8.toInt32)))))])) := by
  refine Cv.of (by decide) (Nat.le_of_ble_eq_true rfl) ?_
  intro p e s m below meth c A ls hX hE hP hD hl hin
  obtain ⟨hx, hb, hr, hml, hown, htA, hlk⟩ := id hX
  have hK := hE.1
  have hS : va_S A s.heap s.heap [] := va_S.rf
  have hl : lv_has ls 3 [(0, .ref (a 0)), (1, .int v1_)] := hl
  refine lv_bipush (v := 24) hx hb dX10_putBytes_0 (by decide) ?_
  refine lv_istore_n (lv' := [(2, .int 24), (0, .ref (a 0)), (1, .int v1_)]) hx hb dX10_putBytes_2 rfl hl (by decide) rfl (fun ls hl => ?_)
  refine lv_iload_n hx hb dX10_putBytes_3 rfl (lv_at hl 0 rfl) ?_
  refine lv_if_lt (tgt := 46) hx hb dX10_putBytes_4 (by decide) (fun q => absurd q (by decide)) (fun _ => ?_)
  refine lv_aload_n hx hb dX10_putBytes_7 rfl (lv_at hl 1 rfl) ?_
  refine va_get (ci := 10) (v := .int 0) (C := RX10) (T := TX10) (N := 13) hx hb htA in_X10 hown hK hP 0 rfl rfl 1 (by decide) (htA _ wd_309) (fun _ h => h) rfl dX10_putBytes_8 ?_
  refine lv_sipush (v := 900) hx hb dX10_putBytes_11 (by decide) ?_
  refine lv_icmp_ge (tgt := 46) hx hb dX10_putBytes_14 (by decide) (fun q => absurd q (by decide)) (fun _ => ?_)
  refine lv_aload_n hx hb dX10_putBytes_17 rfl (lv_at hl 1 rfl) ?_
  refine va_get (ci := 10) (v := .ref (a 1)) (C := RX10) (T := TX10) (N := 13) hx hb htA in_X10 hown hK hP 0 rfl rfl 0 (by decide) (htA _ wd_308) (fun _ h => h) rfl dX10_putBytes_18 ?_
  refine lv_aload_n hx hb dX10_putBytes_21 rfl (lv_at hl 1 rfl) ?_
  refine va_get (ci := 10) (v := .int 0) (C := RX10) (T := TX10) (N := 13) hx hb htA in_X10 hown hK hP 0 rfl rfl 1 (by decide) (htA _ wd_309) (fun _ h => h) rfl dX10_putBytes_22 ?_
  refine lv_iload_n hx hb dX10_putBytes_25 rfl (lv_at hl 2 rfl) ?_
  refine lv_iload_n hx hb dX10_putBytes_26 rfl (lv_at hl 0 rfl) ?_
  refine lv_iushr hx hb dX10_putBytes_27 rfl ?_
  refine lv_i2b hx hb dX10_putBytes_28 rfl ?_
  refine va_bast hx hb hK hP hD hS 1 1 rfl rfl (in_lit (by decide)) dX10_putBytes_29 (fun H locs hP hD hS => ?_)
  have hP : va_P D vwCl [((a 0), .inr (10, [.ref (a 1), .int 0, .int 0, .int (-1), .ref (a 2), .ref (a 3), .ref (a 4), .ref (a 5), .ref (a 6), .ref (a 7), .ref (a 8), .ref (a 9), .int 0])), ((a 1), .inl (cy 1, 900, .inl (upd (fun _ => 0) ((0 : Int32).toNatClampNeg) (vp_nar .byte (((v1_.toUInt32 >>> ((24 : Int32).toUInt32 &&& Int32.toUInt32 31)).toInt32).toInt8.toInt32)))))] H := hP
  have hD : va_D A [((a 0), .inr (10, [.ref (a 1), .int 0, .int 0, .int (-1), .ref (a 2), .ref (a 3), .ref (a 4), .ref (a 5), .ref (a 6), .ref (a 7), .ref (a 8), .ref (a 9), .int 0])), ((a 1), .inl (cy 1, 900, .inl (upd (fun _ => 0) ((0 : Int32).toNatClampNeg) (vp_nar .byte (((v1_.toUInt32 >>> ((24 : Int32).toUInt32 &&& Int32.toUInt32 31)).toInt32).toInt8.toInt32)))))] := hD
  refine lv_aload_n hx hb dX10_putBytes_30 rfl (lv_at hl 1 rfl) ?_
  refine lv_dup hx hb dX10_putBytes_31 rfl ?_
  refine va_get (ci := 10) (v := .int 0) (C := RX10) (T := TX10) (N := 13) hx hb htA in_X10 hown hK hP 0 rfl rfl 1 (by decide) (htA _ wd_309) (fun _ h => h) rfl dX10_putBytes_32 ?_
  refine lv_iconst (v := 1) hx hb dX10_putBytes_35 (by decide) ?_
  refine lv_iadd hx hb dX10_putBytes_36 ?_
  refine lv_topi (fun x3 ex3 => ?_)
  obtain rfl : x3 = 1 := ex3.trans (by decide)
  refine va_put (ci := 10) (v := .int 1) (ty := .int) (C := RX10) (T := TX10) (N := 13) hx hb htA in_X10 tyX10 tyX10_ok nmX10 hown hK hP hD hS 0 rfl rfl 1 (by decide) (htA _ wd_309) (fun _ h => h) rfl (by decide +kernel) rfl rfl (Nat.le_of_ble_eq_true rfl) dX10_putBytes_37 (fun H locs hP hD hS => ?_)
  have hP : va_P D vwCl [((a 0), .inr (10, [.ref (a 1), .int 1, .int 0, .int (-1), .ref (a 2), .ref (a 3), .ref (a 4), .ref (a 5), .ref (a 6), .ref (a 7), .ref (a 8), .ref (a 9), .int 0])), ((a 1), .inl (cy 1, 900, .inl (upd (fun _ => 0) ((0 : Int32).toNatClampNeg) (vp_nar .byte (((v1_.toUInt32 >>> ((24 : Int32).toUInt32 &&& Int32.toUInt32 31)).toInt32).toInt8.toInt32)))))] H := hP
  have hD : va_D A [((a 0), .inr (10, [.ref (a 1), .int 1, .int 0, .int (-1), .ref (a 2), .ref (a 3), .ref (a 4), .ref (a 5), .ref (a 6), .ref (a 7), .ref (a 8), .ref (a 9), .int 0])), ((a 1), .inl (cy 1, 900, .inl (upd (fun _ => 0) ((0 : Int32).toNatClampNeg) (vp_nar .byte (((v1_.toUInt32 >>> ((24 : Int32).toUInt32 &&& Int32.toUInt32 31)).toInt32).toInt8.toInt32)))))] := hD
  refine lv_iinc (v := 16) (lv' := [(2, .int 16), (0, .ref (a 0)), (1, .int v1_)]) hx hb dX10_putBytes_40 hl (k := 0) rfl (by decide) (by decide) rfl (fun ls hl => ?_)
  refine lv_goto (tgt := 3) hx hb dX10_putBytes_43 (by decide) ?_
  refine lv_iload_n hx hb dX10_putBytes_3 rfl (lv_at hl 0 rfl) ?_
  refine lv_if_lt (tgt := 46) hx hb dX10_putBytes_4 (by decide) (fun q => absurd q (by decide)) (fun _ => ?_)
  refine lv_aload_n hx hb dX10_putBytes_7 rfl (lv_at hl 1 rfl) ?_
  refine va_get (ci := 10) (v := .int 1) (C := RX10) (T := TX10) (N := 13) hx hb htA in_X10 hown hK hP 0 rfl rfl 1 (by decide) (htA _ wd_309) (fun _ h => h) rfl dX10_putBytes_8 ?_
  refine lv_sipush (v := 900) hx hb dX10_putBytes_11 (by decide) ?_
  refine lv_icmp_ge (tgt := 46) hx hb dX10_putBytes_14 (by decide) (fun q => absurd q (by decide)) (fun _ => ?_)
  refine lv_aload_n hx hb dX10_putBytes_17 rfl (lv_at hl 1 rfl) ?_
  refine va_get (ci := 10) (v := .ref (a 1)) (C := RX10) (T := TX10) (N := 13) hx hb htA in_X10 hown hK hP 0 rfl rfl 0 (by decide) (htA _ wd_308) (fun _ h => h) rfl dX10_putBytes_18 ?_
  refine lv_aload_n hx hb dX10_putBytes_21 rfl (lv_at hl 1 rfl) ?_
  refine va_get (ci := 10) (v := .int 1) (C := RX10) (T := TX10) (N := 13) hx hb htA in_X10 hown hK hP 0 rfl rfl 1 (by decide) (htA _ wd_309) (fun _ h => h) rfl dX10_putBytes_22 ?_
  refine lv_iload_n hx hb dX10_putBytes_25 rfl (lv_at hl 2 rfl) ?_
  refine lv_iload_n hx hb dX10_putBytes_26 rfl (lv_at hl 0 rfl) ?_
  refine lv_iushr hx hb dX10_putBytes_27 rfl ?_
  refine lv_i2b hx hb dX10_putBytes_28 rfl ?_
  refine va_bast hx hb hK hP hD hS 1 1 rfl rfl (in_lit (by decide)) dX10_putBytes_29 (fun H locs hP hD hS => ?_)
  have hP : va_P D vwCl [((a 0), .inr (10, [.ref (a 1), .int 1, .int 0, .int (-1), .ref (a 2), .ref (a 3), .ref (a 4), .ref (a 5), .ref (a 6), .ref (a 7), .ref (a 8), .ref (a 9), .int 0])), ((a 1), .inl (cy 1, 900, .inl (upd (upd (fun _ => 0) ((0 : Int32).toNatClampNeg) (vp_nar .byte (((v1_.toUInt32 >>> ((24 : Int32).toUInt32 &&& Int32.toUInt32 31)).toInt32).toInt8.toInt32))) ((1 : Int32).toNatClampNeg) (vp_nar .byte (((v1_.toUInt32 >>> ((16 : Int32).toUInt32 &&& Int32.toUInt32 31)).toInt32).toInt8.toInt32)))))] H := hP
  have hD : va_D A [((a 0), .inr (10, [.ref (a 1), .int 1, .int 0, .int (-1), .ref (a 2), .ref (a 3), .ref (a 4), .ref (a 5), .ref (a 6), .ref (a 7), .ref (a 8), .ref (a 9), .int 0])), ((a 1), .inl (cy 1, 900, .inl (upd (upd (fun _ => 0) ((0 : Int32).toNatClampNeg) (vp_nar .byte (((v1_.toUInt32 >>> ((24 : Int32).toUInt32 &&& Int32.toUInt32 31)).toInt32).toInt8.toInt32))) ((1 : Int32).toNatClampNeg) (vp_nar .byte (((v1_.toUInt32 >>> ((16 : Int32).toUInt32 &&& Int32.toUInt32 31)).toInt32).toInt8.toInt32)))))] := hD
  refine lv_aload_n hx hb dX10_putBytes_30 rfl (lv_at hl 1 rfl) ?_
  refine lv_dup hx hb dX10_putBytes_31 rfl ?_
  refine va_get (ci := 10) (v := .int 1) (C := RX10) (T := TX10) (N := 13) hx hb htA in_X10 hown hK hP 0 rfl rfl 1 (by decide) (htA _ wd_309) (fun _ h => h) rfl dX10_putBytes_32 ?_
  refine lv_iconst (v := 1) hx hb dX10_putBytes_35 (by decide) ?_
  refine lv_iadd hx hb dX10_putBytes_36 ?_
  refine lv_topi (fun x6 ex6 => ?_)
  obtain rfl : x6 = 2 := ex6.trans (by decide)
  refine va_put (ci := 10) (v := .int 2) (ty := .int) (C := RX10) (T := TX10) (N := 13) hx hb htA in_X10 tyX10 tyX10_ok nmX10 hown hK hP hD hS 0 rfl rfl 1 (by decide) (htA _ wd_309) (fun _ h => h) rfl (by decide +kernel) rfl rfl (Nat.le_of_ble_eq_true rfl) dX10_putBytes_37 (fun H locs hP hD hS => ?_)
  have hP : va_P D vwCl [((a 0), .inr (10, [.ref (a 1), .int 2, .int 0, .int (-1), .ref (a 2), .ref (a 3), .ref (a 4), .ref (a 5), .ref (a 6), .ref (a 7), .ref (a 8), .ref (a 9), .int 0])), ((a 1), .inl (cy 1, 900, .inl (upd (upd (fun _ => 0) ((0 : Int32).toNatClampNeg) (vp_nar .byte (((v1_.toUInt32 >>> ((24 : Int32).toUInt32 &&& Int32.toUInt32 31)).toInt32).toInt8.toInt32))) ((1 : Int32).toNatClampNeg) (vp_nar .byte (((v1_.toUInt32 >>> ((16 : Int32).toUInt32 &&& Int32.toUInt32 31)).toInt32).toInt8.toInt32)))))] H := hP
  have hD : va_D A [((a 0), .inr (10, [.ref (a 1), .int 2, .int 0, .int (-1), .ref (a 2), .ref (a 3), .ref (a 4), .ref (a 5), .ref (a 6), .ref (a 7), .ref (a 8), .ref (a 9), .int 0])), ((a 1), .inl (cy 1, 900, .inl (upd (upd (fun _ => 0) ((0 : Int32).toNatClampNeg) (vp_nar .byte (((v1_.toUInt32 >>> ((24 : Int32).toUInt32 &&& Int32.toUInt32 31)).toInt32).toInt8.toInt32))) ((1 : Int32).toNatClampNeg) (vp_nar .byte (((v1_.toUInt32 >>> ((16 : Int32).toUInt32 &&& Int32.toUInt32 31)).toInt32).toInt8.toInt32)))))] := hD
  refine lv_iinc (v := 8) (lv' := [(2, .int 8), (0, .ref (a 0)), (1, .int v1_)]) hx hb dX10_putBytes_40 hl (k := 0) rfl (by decide) (by decide) rfl (fun ls hl => ?_)
  refine lv_goto (tgt := 3) hx hb dX10_putBytes_43 (by decide) ?_
  refine lv_iload_n hx hb dX10_putBytes_3 rfl (lv_at hl 0 rfl) ?_
  refine lv_if_lt (tgt := 46) hx hb dX10_putBytes_4 (by decide) (fun q => absurd q (by decide)) (fun _ => ?_)
  refine lv_aload_n hx hb dX10_putBytes_7 rfl (lv_at hl 1 rfl) ?_
  refine va_get (ci := 10) (v := .int 2) (C := RX10) (T := TX10) (N := 13) hx hb htA in_X10 hown hK hP 0 rfl rfl 1 (by decide) (htA _ wd_309) (fun _ h => h) rfl dX10_putBytes_8 ?_
  refine lv_sipush (v := 900) hx hb dX10_putBytes_11 (by decide) ?_
  refine lv_icmp_ge (tgt := 46) hx hb dX10_putBytes_14 (by decide) (fun q => absurd q (by decide)) (fun _ => ?_)
  refine lv_aload_n hx hb dX10_putBytes_17 rfl (lv_at hl 1 rfl) ?_
  refine va_get (ci := 10) (v := .ref (a 1)) (C := RX10) (T := TX10) (N := 13) hx hb htA in_X10 hown hK hP 0 rfl rfl 0 (by decide) (htA _ wd_308) (fun _ h => h) rfl dX10_putBytes_18 ?_
  refine lv_aload_n hx hb dX10_putBytes_21 rfl (lv_at hl 1 rfl) ?_
  refine va_get (ci := 10) (v := .int 2) (C := RX10) (T := TX10) (N := 13) hx hb htA in_X10 hown hK hP 0 rfl rfl 1 (by decide) (htA _ wd_309) (fun _ h => h) rfl dX10_putBytes_22 ?_
  refine lv_iload_n hx hb dX10_putBytes_25 rfl (lv_at hl 2 rfl) ?_
  refine lv_iload_n hx hb dX10_putBytes_26 rfl (lv_at hl 0 rfl) ?_
  refine lv_iushr hx hb dX10_putBytes_27 rfl ?_
  refine lv_i2b hx hb dX10_putBytes_28 rfl ?_
  refine va_bast hx hb hK hP hD hS 1 1 rfl rfl (in_lit (by decide)) dX10_putBytes_29 (fun H locs hP hD hS => ?_)
  have hP : va_P D vwCl [((a 0), .inr (10, [.ref (a 1), .int 2, .int 0, .int (-1), .ref (a 2), .ref (a 3), .ref (a 4), .ref (a 5), .ref (a 6), .ref (a 7), .ref (a 8), .ref (a 9), .int 0])), ((a 1), .inl (cy 1, 900, .inl (upd (upd (upd (fun _ => 0) ((0 : Int32).toNatClampNeg) (vp_nar .byte (((v1_.toUInt32 >>> ((24 : Int32).toUInt32 &&& Int32.toUInt32 31)).toInt32).toInt8.toInt32))) ((1 : Int32).toNatClampNeg) (vp_nar .byte (((v1_.toUInt32 >>> ((16 : Int32).toUInt32 &&& Int32.toUInt32 31)).toInt32).toInt8.toInt32))) ((2 : Int32).toNatClampNeg) (vp_nar .byte (((v1_.toUInt32 >>> ((8 : Int32).toUInt32 &&& Int32.toUInt32 31)).toInt32).toInt8.toInt32)))))] H := hP
  have hD : va_D A [((a 0), .inr (10, [.ref (a 1), .int 2, .int 0, .int (-1), .ref (a 2), .ref (a 3), .ref (a 4), .ref (a 5), .ref (a 6), .ref (a 7), .ref (a 8), .ref (a 9), .int 0])), ((a 1), .inl (cy 1, 900, .inl (upd (upd (upd (fun _ => 0) ((0 : Int32).toNatClampNeg) (vp_nar .byte (((v1_.toUInt32 >>> ((24 : Int32).toUInt32 &&& Int32.toUInt32 31)).toInt32).toInt8.toInt32))) ((1 : Int32).toNatClampNeg) (vp_nar .byte (((v1_.toUInt32 >>> ((16 : Int32).toUInt32 &&& Int32.toUInt32 31)).toInt32).toInt8.toInt32))) ((2 : Int32).toNatClampNeg) (vp_nar .byte (((v1_.toUInt32 >>> ((8 : Int32).toUInt32 &&& Int32.toUInt32 31)).toInt32).toInt8.toInt32)))))] := hD
  refine lv_aload_n hx hb dX10_putBytes_30 rfl (lv_at hl 1 rfl) ?_
  refine lv_dup hx hb dX10_putBytes_31 rfl ?_
  refine va_get (ci := 10) (v := .int 2) (C := RX10) (T := TX10) (N := 13) hx hb htA in_X10 hown hK hP 0 rfl rfl 1 (by decide) (htA _ wd_309) (fun _ h => h) rfl dX10_putBytes_32 ?_
  refine lv_iconst (v := 1) hx hb dX10_putBytes_35 (by decide) ?_
  refine lv_iadd hx hb dX10_putBytes_36 ?_
  refine lv_topi (fun x9 ex9 => ?_)
  obtain rfl : x9 = 3 := ex9.trans (by decide)
  refine va_put (ci := 10) (v := .int 3) (ty := .int) (C := RX10) (T := TX10) (N := 13) hx hb htA in_X10 tyX10 tyX10_ok nmX10 hown hK hP hD hS 0 rfl rfl 1 (by decide) (htA _ wd_309) (fun _ h => h) rfl (by decide +kernel) rfl rfl (Nat.le_of_ble_eq_true rfl) dX10_putBytes_37 (fun H locs hP hD hS => ?_)
  have hP : va_P D vwCl [((a 0), .inr (10, [.ref (a 1), .int 3, .int 0, .int (-1), .ref (a 2), .ref (a 3), .ref (a 4), .ref (a 5), .ref (a 6), .ref (a 7), .ref (a 8), .ref (a 9), .int 0])), ((a 1), .inl (cy 1, 900, .inl (upd (upd (upd (fun _ => 0) ((0 : Int32).toNatClampNeg) (vp_nar .byte (((v1_.toUInt32 >>> ((24 : Int32).toUInt32 &&& Int32.toUInt32 31)).toInt32).toInt8.toInt32))) ((1 : Int32).toNatClampNeg) (vp_nar .byte (((v1_.toUInt32 >>> ((16 : Int32).toUInt32 &&& Int32.toUInt32 31)).toInt32).toInt8.toInt32))) ((2 : Int32).toNatClampNeg) (vp_nar .byte (((v1_.toUInt32 >>> ((8 : Int32).toUInt32 &&& Int32.toUInt32 31)).toInt32).toInt8.toInt32)))))] H := hP
  have hD : va_D A [((a 0), .inr (10, [.ref (a 1), .int 3, .int 0, .int (-1), .ref (a 2), .ref (a 3), .ref (a 4), .ref (a 5), .ref (a 6), .ref (a 7), .ref (a 8), .ref (a 9), .int 0])), ((a 1), .inl (cy 1, 900, .inl (upd (upd (upd (fun _ => 0) ((0 : Int32).toNatClampNeg) (vp_nar .byte (((v1_.toUInt32 >>> ((24 : Int32).toUInt32 &&& Int32.toUInt32 31)).toInt32).toInt8.toInt32))) ((1 : Int32).toNatClampNeg) (vp_nar .byte (((v1_.toUInt32 >>> ((16 : Int32).toUInt32 &&& Int32.toUInt32 31)).toInt32).toInt8.toInt32))) ((2 : Int32).toNatClampNeg) (vp_nar .byte (((v1_.toUInt32 >>> ((8 : Int32).toUInt32 &&& Int32.toUInt32 31)).toInt32).toInt8.toInt32)))))] := hD
  refine lv_iinc (v := 0) (lv' := [(2, .int 0), (0, .ref (a 0)), (1, .int v1_)]) hx hb dX10_putBytes_40 hl (k := 0) rfl (by decide) (by decide) rfl (fun ls hl => ?_)
  refine lv_goto (tgt := 3) hx hb dX10_putBytes_43 (by decide) ?_
  refine lv_iload_n hx hb dX10_putBytes_3 rfl (lv_at hl 0 rfl) ?_
  refine lv_if_lt (tgt := 46) hx hb dX10_putBytes_4 (by decide) (fun q => absurd q (by decide)) (fun _ => ?_)
  refine lv_aload_n hx hb dX10_putBytes_7 rfl (lv_at hl 1 rfl) ?_
  refine va_get (ci := 10) (v := .int 3) (C := RX10) (T := TX10) (N := 13) hx hb htA in_X10 hown hK hP 0 rfl rfl 1 (by decide) (htA _ wd_309) (fun _ h => h) rfl dX10_putBytes_8 ?_
  refine lv_sipush (v := 900) hx hb dX10_putBytes_11 (by decide) ?_
  refine lv_icmp_ge (tgt := 46) hx hb dX10_putBytes_14 (by decide) (fun q => absurd q (by decide)) (fun _ => ?_)
  refine lv_aload_n hx hb dX10_putBytes_17 rfl (lv_at hl 1 rfl) ?_
  refine va_get (ci := 10) (v := .ref (a 1)) (C := RX10) (T := TX10) (N := 13) hx hb htA in_X10 hown hK hP 0 rfl rfl 0 (by decide) (htA _ wd_308) (fun _ h => h) rfl dX10_putBytes_18 ?_
  refine lv_aload_n hx hb dX10_putBytes_21 rfl (lv_at hl 1 rfl) ?_
  refine va_get (ci := 10) (v := .int 3) (C := RX10) (T := TX10) (N := 13) hx hb htA in_X10 hown hK hP 0 rfl rfl 1 (by decide) (htA _ wd_309) (fun _ h => h) rfl dX10_putBytes_22 ?_
  refine lv_iload_n hx hb dX10_putBytes_25 rfl (lv_at hl 2 rfl) ?_
  refine lv_iload_n hx hb dX10_putBytes_26 rfl (lv_at hl 0 rfl) ?_
  refine lv_iushr hx hb dX10_putBytes_27 rfl ?_
  refine lv_i2b hx hb dX10_putBytes_28 rfl ?_
  refine va_bast hx hb hK hP hD hS 1 1 rfl rfl (in_lit (by decide)) dX10_putBytes_29 (fun H locs hP hD hS => ?_)
  have hP : va_P D vwCl [((a 0), .inr (10, [.ref (a 1), .int 3, .int 0, .int (-1), .ref (a 2), .ref (a 3), .ref (a 4), .ref (a 5), .ref (a 6), .ref (a 7), .ref (a 8), .ref (a 9), .int 0])), ((a 1), .inl (cy 1, 900, .inl (upd (upd (upd (upd (fun _ => 0) ((0 : Int32).toNatClampNeg) (vp_nar .byte (((v1_.toUInt32 >>> ((24 : Int32).toUInt32 &&& Int32.toUInt32 31)).toInt32).toInt8.toInt32))) ((1 : Int32).toNatClampNeg) (vp_nar .byte (((v1_.toUInt32 >>> ((16 : Int32).toUInt32 &&& Int32.toUInt32 31)).toInt32).toInt8.toInt32))) ((2 : Int32).toNatClampNeg) (vp_nar .byte (((v1_.toUInt32 >>> ((8 : Int32).toUInt32 &&& Int32.toUInt32 31)).toInt32).toInt8.toInt32))) ((3 : Int32).toNatClampNeg) (vp_nar .byte (((v1_.toUInt32 >>> ((0 : Int32).toUInt32 &&& Int32.toUInt32 31)).toInt32).toInt8.toInt32)))))] H := hP
  have hD : va_D A [((a 0), .inr (10, [.ref (a 1), .int 3, .int 0, .int (-1), .ref (a 2), .ref (a 3), .ref (a 4), .ref (a 5), .ref (a 6), .ref (a 7), .ref (a 8), .ref (a 9), .int 0])), ((a 1), .inl (cy 1, 900, .inl (upd (upd (upd (upd (fun _ => 0) ((0 : Int32).toNatClampNeg) (vp_nar .byte (((v1_.toUInt32 >>> ((24 : Int32).toUInt32 &&& Int32.toUInt32 31)).toInt32).toInt8.toInt32))) ((1 : Int32).toNatClampNeg) (vp_nar .byte (((v1_.toUInt32 >>> ((16 : Int32).toUInt32 &&& Int32.toUInt32 31)).toInt32).toInt8.toInt32))) ((2 : Int32).toNatClampNeg) (vp_nar .byte (((v1_.toUInt32 >>> ((8 : Int32).toUInt32 &&& Int32.toUInt32 31)).toInt32).toInt8.toInt32))) ((3 : Int32).toNatClampNeg) (vp_nar .byte (((v1_.toUInt32 >>> ((0 : Int32).toUInt32 &&& Int32.toUInt32 31)).toInt32).toInt8.toInt32)))))] := hD
  refine lv_aload_n hx hb dX10_putBytes_30 rfl (lv_at hl 1 rfl) ?_
  refine lv_dup hx hb dX10_putBytes_31 rfl ?_
  refine va_get (ci := 10) (v := .int 3) (C := RX10) (T := TX10) (N := 13) hx hb htA in_X10 hown hK hP 0 rfl rfl 1 (by decide) (htA _ wd_309) (fun _ h => h) rfl dX10_putBytes_32 ?_
  refine lv_iconst (v := 1) hx hb dX10_putBytes_35 (by decide) ?_
  refine lv_iadd hx hb dX10_putBytes_36 ?_
  refine lv_topi (fun x12 ex12 => ?_)
  obtain rfl : x12 = 4 := ex12.trans (by decide)
  refine va_put (ci := 10) (v := .int 4) (ty := .int) (C := RX10) (T := TX10) (N := 13) hx hb htA in_X10 tyX10 tyX10_ok nmX10 hown hK hP hD hS 0 rfl rfl 1 (by decide) (htA _ wd_309) (fun _ h => h) rfl (by decide +kernel) rfl rfl (Nat.le_of_ble_eq_true rfl) dX10_putBytes_37 (fun H locs hP hD hS => ?_)
  have hP : va_P D vwCl [((a 0), .inr (10, [.ref (a 1), .int 4, .int 0, .int (-1), .ref (a 2), .ref (a 3), .ref (a 4), .ref (a 5), .ref (a 6), .ref (a 7), .ref (a 8), .ref (a 9), .int 0])), ((a 1), .inl (cy 1, 900, .inl (upd (upd (upd (upd (fun _ => 0) ((0 : Int32).toNatClampNeg) (vp_nar .byte (((v1_.toUInt32 >>> ((24 : Int32).toUInt32 &&& Int32.toUInt32 31)).toInt32).toInt8.toInt32))) ((1 : Int32).toNatClampNeg) (vp_nar .byte (((v1_.toUInt32 >>> ((16 : Int32).toUInt32 &&& Int32.toUInt32 31)).toInt32).toInt8.toInt32))) ((2 : Int32).toNatClampNeg) (vp_nar .byte (((v1_.toUInt32 >>> ((8 : Int32).toUInt32 &&& Int32.toUInt32 31)).toInt32).toInt8.toInt32))) ((3 : Int32).toNatClampNeg) (vp_nar .byte (((v1_.toUInt32 >>> ((0 : Int32).toUInt32 &&& Int32.toUInt32 31)).toInt32).toInt8.toInt32)))))] H := hP
  have hD : va_D A [((a 0), .inr (10, [.ref (a 1), .int 4, .int 0, .int (-1), .ref (a 2), .ref (a 3), .ref (a 4), .ref (a 5), .ref (a 6), .ref (a 7), .ref (a 8), .ref (a 9), .int 0])), ((a 1), .inl (cy 1, 900, .inl (upd (upd (upd (upd (fun _ => 0) ((0 : Int32).toNatClampNeg) (vp_nar .byte (((v1_.toUInt32 >>> ((24 : Int32).toUInt32 &&& Int32.toUInt32 31)).toInt32).toInt8.toInt32))) ((1 : Int32).toNatClampNeg) (vp_nar .byte (((v1_.toUInt32 >>> ((16 : Int32).toUInt32 &&& Int32.toUInt32 31)).toInt32).toInt8.toInt32))) ((2 : Int32).toNatClampNeg) (vp_nar .byte (((v1_.toUInt32 >>> ((8 : Int32).toUInt32 &&& Int32.toUInt32 31)).toInt32).toInt8.toInt32))) ((3 : Int32).toNatClampNeg) (vp_nar .byte (((v1_.toUInt32 >>> ((0 : Int32).toUInt32 &&& Int32.toUInt32 31)).toInt32).toInt8.toInt32)))))] := hD
  refine lv_iinc (v := (-8)) (lv' := [(2, .int (-8)), (0, .ref (a 0)), (1, .int v1_)]) hx hb dX10_putBytes_40 hl (k := 0) rfl (by decide) (by decide) rfl (fun ls hl => ?_)
  refine lv_goto (tgt := 3) hx hb dX10_putBytes_43 (by decide) ?_
  refine lv_iload_n hx hb dX10_putBytes_3 rfl (lv_at hl 0 rfl) ?_
  refine lv_if_lt (tgt := 46) hx hb dX10_putBytes_4 (by decide) (fun _ => ?_) (fun q => absurd (by decide) q)
  exact rV hX hE hP hD hS dX10_putBytes_46 (by decide) (by decide) (rfl)
set_option maxHeartbeats 4000000 in
set_option maxRecDepth 100000 in
theorem au_X10_putBytes_53 (l : Launch) (D : va_G) (cy : Nat → ClassId) (a : Nat → Nat) (v1_ : Int32) (g2_ : Nat → Int32) : Cv l yX10_putBytes cX10_putBytes 3 none { frames := 0, cells := 0, slots := 0, locals := 0 } D cy [.ref (a 0), .int v1_] [((a 0), .inr (10, [.ref (a 1), .int 4, .int 0, .int (-1), .ref (a 2), .ref (a 3), .ref (a 4), .ref (a 5), .ref (a 6), .ref (a 7), .ref (a 8), .ref (a 9), .int 0])), ((a 1), .inl (cy 1, 900, .inl (g2_)))] (fun W1 => (W1 = [((a 0), .inr (10, [.ref (a 1), .int 8, .int 0, .int (-1), .ref (a 2), .ref (a 3), .ref (a 4), .ref (a 5), .ref (a 6), .ref (a 7), .ref (a 8), .ref (a 9), .int 0])), ((a 1), .inl (cy 1, 900, .inl (upd (upd (upd (upd g2_ ((4 : Int32).toNatClampNeg) (vp_nar .byte (((v1_.toUInt32 >>> ((24 : Int32).toUInt32 &&& Int32.toUInt32 31)).toInt32).toInt8.toInt32))) ((5 : Int32).toNatClampNeg) (vp_nar .byte (((v1_.toUInt32 >>> ((16 : Int32).toUInt32 &&& Int32.toUInt32 31)).toInt32).toInt8.toInt32))) ((6 : Int32).toNatClampNeg) (vp_nar .byte (((v1_.toUInt32 >>> ((8 : Int32).toUInt32 &&& Int32.toUInt32 31)).toInt32).toInt8.toInt32))) ((7 : Int32).toNatClampNeg) (vp_nar .byte (((v1_.toUInt32 >>> ((0 : Int32).toUInt32 &&& Int32.toUInt32 31)).toInt32).toInt8.toInt32)))))])) := by
  refine Cv.of (by decide) (Nat.le_of_ble_eq_true rfl) ?_
  intro p e s m below meth c A ls hX hE hP hD hl hin
  obtain ⟨hx, hb, hr, hml, hown, htA, hlk⟩ := id hX
  have hK := hE.1
  have hS : va_S A s.heap s.heap [] := va_S.rf
  have hl : lv_has ls 3 [(0, .ref (a 0)), (1, .int v1_)] := hl
  refine lv_bipush (v := 24) hx hb dX10_putBytes_0 (by decide) ?_
  refine lv_istore_n (lv' := [(2, .int 24), (0, .ref (a 0)), (1, .int v1_)]) hx hb dX10_putBytes_2 rfl hl (by decide) rfl (fun ls hl => ?_)
  refine lv_iload_n hx hb dX10_putBytes_3 rfl (lv_at hl 0 rfl) ?_
  refine lv_if_lt (tgt := 46) hx hb dX10_putBytes_4 (by decide) (fun q => absurd q (by decide)) (fun _ => ?_)
  refine lv_aload_n hx hb dX10_putBytes_7 rfl (lv_at hl 1 rfl) ?_
  refine va_get (ci := 10) (v := .int 4) (C := RX10) (T := TX10) (N := 13) hx hb htA in_X10 hown hK hP 0 rfl rfl 1 (by decide) (htA _ wd_309) (fun _ h => h) rfl dX10_putBytes_8 ?_
  refine lv_sipush (v := 900) hx hb dX10_putBytes_11 (by decide) ?_
  refine lv_icmp_ge (tgt := 46) hx hb dX10_putBytes_14 (by decide) (fun q => absurd q (by decide)) (fun _ => ?_)
  refine lv_aload_n hx hb dX10_putBytes_17 rfl (lv_at hl 1 rfl) ?_
  refine va_get (ci := 10) (v := .ref (a 1)) (C := RX10) (T := TX10) (N := 13) hx hb htA in_X10 hown hK hP 0 rfl rfl 0 (by decide) (htA _ wd_308) (fun _ h => h) rfl dX10_putBytes_18 ?_
  refine lv_aload_n hx hb dX10_putBytes_21 rfl (lv_at hl 1 rfl) ?_
  refine va_get (ci := 10) (v := .int 4) (C := RX10) (T := TX10) (N := 13) hx hb htA in_X10 hown hK hP 0 rfl rfl 1 (by decide) (htA _ wd_309) (fun _ h => h) rfl dX10_putBytes_22 ?_
  refine lv_iload_n hx hb dX10_putBytes_25 rfl (lv_at hl 2 rfl) ?_
  refine lv_iload_n hx hb dX10_putBytes_26 rfl (lv_at hl 0 rfl) ?_
  refine lv_iushr hx hb dX10_putBytes_27 rfl ?_
  refine lv_i2b hx hb dX10_putBytes_28 rfl ?_
  refine va_bast hx hb hK hP hD hS 1 1 rfl rfl (in_lit (by decide)) dX10_putBytes_29 (fun H locs hP hD hS => ?_)
  have hP : va_P D vwCl [((a 0), .inr (10, [.ref (a 1), .int 4, .int 0, .int (-1), .ref (a 2), .ref (a 3), .ref (a 4), .ref (a 5), .ref (a 6), .ref (a 7), .ref (a 8), .ref (a 9), .int 0])), ((a 1), .inl (cy 1, 900, .inl (upd g2_ ((4 : Int32).toNatClampNeg) (vp_nar .byte (((v1_.toUInt32 >>> ((24 : Int32).toUInt32 &&& Int32.toUInt32 31)).toInt32).toInt8.toInt32)))))] H := hP
  have hD : va_D A [((a 0), .inr (10, [.ref (a 1), .int 4, .int 0, .int (-1), .ref (a 2), .ref (a 3), .ref (a 4), .ref (a 5), .ref (a 6), .ref (a 7), .ref (a 8), .ref (a 9), .int 0])), ((a 1), .inl (cy 1, 900, .inl (upd g2_ ((4 : Int32).toNatClampNeg) (vp_nar .byte (((v1_.toUInt32 >>> ((24 : Int32).toUInt32 &&& Int32.toUInt32 31)).toInt32).toInt8.toInt32)))))] := hD
  refine lv_aload_n hx hb dX10_putBytes_30 rfl (lv_at hl 1 rfl) ?_
  refine lv_dup hx hb dX10_putBytes_31 rfl ?_
  refine va_get (ci := 10) (v := .int 4) (C := RX10) (T := TX10) (N := 13) hx hb htA in_X10 hown hK hP 0 rfl rfl 1 (by decide) (htA _ wd_309) (fun _ h => h) rfl dX10_putBytes_32 ?_
  refine lv_iconst (v := 1) hx hb dX10_putBytes_35 (by decide) ?_
  refine lv_iadd hx hb dX10_putBytes_36 ?_
  refine lv_topi (fun x3 ex3 => ?_)
  obtain rfl : x3 = 5 := ex3.trans (by decide)
  refine va_put (ci := 10) (v := .int 5) (ty := .int) (C := RX10) (T := TX10) (N := 13) hx hb htA in_X10 tyX10 tyX10_ok nmX10 hown hK hP hD hS 0 rfl rfl 1 (by decide) (htA _ wd_309) (fun _ h => h) rfl (by decide +kernel) rfl rfl (Nat.le_of_ble_eq_true rfl) dX10_putBytes_37 (fun H locs hP hD hS => ?_)
  have hP : va_P D vwCl [((a 0), .inr (10, [.ref (a 1), .int 5, .int 0, .int (-1), .ref (a 2), .ref (a 3), .ref (a 4), .ref (a 5), .ref (a 6), .ref (a 7), .ref (a 8), .ref (a 9), .int 0])), ((a 1), .inl (cy 1, 900, .inl (upd g2_ ((4 : Int32).toNatClampNeg) (vp_nar .byte (((v1_.toUInt32 >>> ((24 : Int32).toUInt32 &&& Int32.toUInt32 31)).toInt32).toInt8.toInt32)))))] H := hP
  have hD : va_D A [((a 0), .inr (10, [.ref (a 1), .int 5, .int 0, .int (-1), .ref (a 2), .ref (a 3), .ref (a 4), .ref (a 5), .ref (a 6), .ref (a 7), .ref (a 8), .ref (a 9), .int 0])), ((a 1), .inl (cy 1, 900, .inl (upd g2_ ((4 : Int32).toNatClampNeg) (vp_nar .byte (((v1_.toUInt32 >>> ((24 : Int32).toUInt32 &&& Int32.toUInt32 31)).toInt32).toInt8.toInt32)))))] := hD
  refine lv_iinc (v := 16) (lv' := [(2, .int 16), (0, .ref (a 0)), (1, .int v1_)]) hx hb dX10_putBytes_40 hl (k := 0) rfl (by decide) (by decide) rfl (fun ls hl => ?_)
  refine lv_goto (tgt := 3) hx hb dX10_putBytes_43 (by decide) ?_
  refine lv_iload_n hx hb dX10_putBytes_3 rfl (lv_at hl 0 rfl) ?_
  refine lv_if_lt (tgt := 46) hx hb dX10_putBytes_4 (by decide) (fun q => absurd q (by decide)) (fun _ => ?_)
  refine lv_aload_n hx hb dX10_putBytes_7 rfl (lv_at hl 1 rfl) ?_
  refine va_get (ci := 10) (v := .int 5) (C := RX10) (T := TX10) (N := 13) hx hb htA in_X10 hown hK hP 0 rfl rfl 1 (by decide) (htA _ wd_309) (fun _ h => h) rfl dX10_putBytes_8 ?_
  refine lv_sipush (v := 900) hx hb dX10_putBytes_11 (by decide) ?_
  refine lv_icmp_ge (tgt := 46) hx hb dX10_putBytes_14 (by decide) (fun q => absurd q (by decide)) (fun _ => ?_)
  refine lv_aload_n hx hb dX10_putBytes_17 rfl (lv_at hl 1 rfl) ?_
  refine va_get (ci := 10) (v := .ref (a 1)) (C := RX10) (T := TX10) (N := 13) hx hb htA in_X10 hown hK hP 0 rfl rfl 0 (by decide) (htA _ wd_308) (fun _ h => h) rfl dX10_putBytes_18 ?_
  refine lv_aload_n hx hb dX10_putBytes_21 rfl (lv_at hl 1 rfl) ?_
  refine va_get (ci := 10) (v := .int 5) (C := RX10) (T := TX10) (N := 13) hx hb htA in_X10 hown hK hP 0 rfl rfl 1 (by decide) (htA _ wd_309) (fun _ h => h) rfl dX10_putBytes_22 ?_
  refine lv_iload_n hx hb dX10_putBytes_25 rfl (lv_at hl 2 rfl) ?_
  refine lv_iload_n hx hb dX10_putBytes_26 rfl (lv_at hl 0 rfl) ?_
  refine lv_iushr hx hb dX10_putBytes_27 rfl ?_
  refine lv_i2b hx hb dX10_putBytes_28 rfl ?_
  refine va_bast hx hb hK hP hD hS 1 1 rfl rfl (in_lit (by decide)) dX10_putBytes_29 (fun H locs hP hD hS => ?_)
  have hP : va_P D vwCl [((a 0), .inr (10, [.ref (a 1), .int 5, .int 0, .int (-1), .ref (a 2), .ref (a 3), .ref (a 4), .ref (a 5), .ref (a 6), .ref (a 7), .ref (a 8), .ref (a 9), .int 0])), ((a 1), .inl (cy 1, 900, .inl (upd (upd g2_ ((4 : Int32).toNatClampNeg) (vp_nar .byte (((v1_.toUInt32 >>> ((24 : Int32).toUInt32 &&& Int32.toUInt32 31)).toInt32).toInt8.toInt32))) ((5 : Int32).toNatClampNeg) (vp_nar .byte (((v1_.toUInt32 >>> ((16 : Int32).toUInt32 &&& Int32.toUInt32 31)).toInt32).toInt8.toInt32)))))] H := hP
  have hD : va_D A [((a 0), .inr (10, [.ref (a 1), .int 5, .int 0, .int (-1), .ref (a 2), .ref (a 3), .ref (a 4), .ref (a 5), .ref (a 6), .ref (a 7), .ref (a 8), .ref (a 9), .int 0])), ((a 1), .inl (cy 1, 900, .inl (upd (upd g2_ ((4 : Int32).toNatClampNeg) (vp_nar .byte (((v1_.toUInt32 >>> ((24 : Int32).toUInt32 &&& Int32.toUInt32 31)).toInt32).toInt8.toInt32))) ((5 : Int32).toNatClampNeg) (vp_nar .byte (((v1_.toUInt32 >>> ((16 : Int32).toUInt32 &&& Int32.toUInt32 31)).toInt32).toInt8.toInt32)))))] := hD
  refine lv_aload_n hx hb dX10_putBytes_30 rfl (lv_at hl 1 rfl) ?_
  refine lv_dup hx hb dX10_putBytes_31 rfl ?_
  refine va_get (ci := 10) (v := .int 5) (C := RX10) (T := TX10) (N := 13) hx hb htA in_X10 hown hK hP 0 rfl rfl 1 (by decide) (htA _ wd_309) (fun _ h => h) rfl dX10_putBytes_32 ?_
  refine lv_iconst (v := 1) hx hb dX10_putBytes_35 (by decide) ?_
  refine lv_iadd hx hb dX10_putBytes_36 ?_
  refine lv_topi (fun x6 ex6 => ?_)
  obtain rfl : x6 = 6 := ex6.trans (by decide)
  refine va_put (ci := 10) (v := .int 6) (ty := .int) (C := RX10) (T := TX10) (N := 13) hx hb htA in_X10 tyX10 tyX10_ok nmX10 hown hK hP hD hS 0 rfl rfl 1 (by decide) (htA _ wd_309) (fun _ h => h) rfl (by decide +kernel) rfl rfl (Nat.le_of_ble_eq_true rfl) dX10_putBytes_37 (fun H locs hP hD hS => ?_)
  have hP : va_P D vwCl [((a 0), .inr (10, [.ref (a 1), .int 6, .int 0, .int (-1), .ref (a 2), .ref (a 3), .ref (a 4), .ref (a 5), .ref (a 6), .ref (a 7), .ref (a 8), .ref (a 9), .int 0])), ((a 1), .inl (cy 1, 900, .inl (upd (upd g2_ ((4 : Int32).toNatClampNeg) (vp_nar .byte (((v1_.toUInt32 >>> ((24 : Int32).toUInt32 &&& Int32.toUInt32 31)).toInt32).toInt8.toInt32))) ((5 : Int32).toNatClampNeg) (vp_nar .byte (((v1_.toUInt32 >>> ((16 : Int32).toUInt32 &&& Int32.toUInt32 31)).toInt32).toInt8.toInt32)))))] H := hP
  have hD : va_D A [((a 0), .inr (10, [.ref (a 1), .int 6, .int 0, .int (-1), .ref (a 2), .ref (a 3), .ref (a 4), .ref (a 5), .ref (a 6), .ref (a 7), .ref (a 8), .ref (a 9), .int 0])), ((a 1), .inl (cy 1, 900, .inl (upd (upd g2_ ((4 : Int32).toNatClampNeg) (vp_nar .byte (((v1_.toUInt32 >>> ((24 : Int32).toUInt32 &&& Int32.toUInt32 31)).toInt32).toInt8.toInt32))) ((5 : Int32).toNatClampNeg) (vp_nar .byte (((v1_.toUInt32 >>> ((16 : Int32).toUInt32 &&& Int32.toUInt32 31)).toInt32).toInt8.toInt32)))))] := hD
  refine lv_iinc (v := 8) (lv' := [(2, .int 8), (0, .ref (a 0)), (1, .int v1_)]) hx hb dX10_putBytes_40 hl (k := 0) rfl (by decide) (by decide) rfl (fun ls hl => ?_)
  refine lv_goto (tgt := 3) hx hb dX10_putBytes_43 (by decide) ?_
  refine lv_iload_n hx hb dX10_putBytes_3 rfl (lv_at hl 0 rfl) ?_
  refine lv_if_lt (tgt := 46) hx hb dX10_putBytes_4 (by decide) (fun q => absurd q (by decide)) (fun _ => ?_)
  refine lv_aload_n hx hb dX10_putBytes_7 rfl (lv_at hl 1 rfl) ?_
  refine va_get (ci := 10) (v := .int 6) (C := RX10) (T := TX10) (N := 13) hx hb htA in_X10 hown hK hP 0 rfl rfl 1 (by decide) (htA _ wd_309) (fun _ h => h) rfl dX10_putBytes_8 ?_
  refine lv_sipush (v := 900) hx hb dX10_putBytes_11 (by decide) ?_
  refine lv_icmp_ge (tgt := 46) hx hb dX10_putBytes_14 (by decide) (fun q => absurd q (by decide)) (fun _ => ?_)
  refine lv_aload_n hx hb dX10_putBytes_17 rfl (lv_at hl 1 rfl) ?_
  refine va_get (ci := 10) (v := .ref (a 1)) (C := RX10) (T := TX10) (N := 13) hx hb htA in_X10 hown hK hP 0 rfl rfl 0 (by decide) (htA _ wd_308) (fun _ h => h) rfl dX10_putBytes_18 ?_
  refine lv_aload_n hx hb dX10_putBytes_21 rfl (lv_at hl 1 rfl) ?_
  refine va_get (ci := 10) (v := .int 6) (C := RX10) (T := TX10) (N := 13) hx hb htA in_X10 hown hK hP 0 rfl rfl 1 (by decide) (htA _ wd_309) (fun _ h => h) rfl dX10_putBytes_22 ?_
  refine lv_iload_n hx hb dX10_putBytes_25 rfl (lv_at hl 2 rfl) ?_
  refine lv_iload_n hx hb dX10_putBytes_26 rfl (lv_at hl 0 rfl) ?_
  refine lv_iushr hx hb dX10_putBytes_27 rfl ?_
  refine lv_i2b hx hb dX10_putBytes_28 rfl ?_
  refine va_bast hx hb hK hP hD hS 1 1 rfl rfl (in_lit (by decide)) dX10_putBytes_29 (fun H locs hP hD hS => ?_)
  have hP : va_P D vwCl [((a 0), .inr (10, [.ref (a 1), .int 6, .int 0, .int (-1), .ref (a 2), .ref (a 3), .ref (a 4), .ref (a 5), .ref (a 6), .ref (a 7), .ref (a 8), .ref (a 9), .int 0])), ((a 1), .inl (cy 1, 900, .inl (upd (upd (upd g2_ ((4 : Int32).toNatClampNeg) (vp_nar .byte (((v1_.toUInt32 >>> ((24 : Int32).toUInt32 &&& Int32.toUInt32 31)).toInt32).toInt8.toInt32))) ((5 : Int32).toNatClampNeg) (vp_nar .byte (((v1_.toUInt32 >>> ((16 : Int32).toUInt32 &&& Int32.toUInt32 31)).toInt32).toInt8.toInt32))) ((6 : Int32).toNatClampNeg) (vp_nar .byte (((v1_.toUInt32 >>> ((8 : Int32).toUInt32 &&& Int32.toUInt32 31)).toInt32).toInt8.toInt32)))))] H := hP
  have hD : va_D A [((a 0), .inr (10, [.ref (a 1), .int 6, .int 0, .int (-1), .ref (a 2), .ref (a 3), .ref (a 4), .ref (a 5), .ref (a 6), .ref (a 7), .ref (a 8), .ref (a 9), .int 0])), ((a 1), .inl (cy 1, 900, .inl (upd (upd (upd g2_ ((4 : Int32).toNatClampNeg) (vp_nar .byte (((v1_.toUInt32 >>> ((24 : Int32).toUInt32 &&& Int32.toUInt32 31)).toInt32).toInt8.toInt32))) ((5 : Int32).toNatClampNeg) (vp_nar .byte (((v1_.toUInt32 >>> ((16 : Int32).toUInt32 &&& Int32.toUInt32 31)).toInt32).toInt8.toInt32))) ((6 : Int32).toNatClampNeg) (vp_nar .byte (((v1_.toUInt32 >>> ((8 : Int32).toUInt32 &&& Int32.toUInt32 31)).toInt32).toInt8.toInt32)))))] := hD
  refine lv_aload_n hx hb dX10_putBytes_30 rfl (lv_at hl 1 rfl) ?_
  refine lv_dup hx hb dX10_putBytes_31 rfl ?_
  refine va_get (ci := 10) (v := .int 6) (C := RX10) (T := TX10) (N := 13) hx hb htA in_X10 hown hK hP 0 rfl rfl 1 (by decide) (htA _ wd_309) (fun _ h => h) rfl dX10_putBytes_32 ?_
  refine lv_iconst (v := 1) hx hb dX10_putBytes_35 (by decide) ?_
  refine lv_iadd hx hb dX10_putBytes_36 ?_
  refine lv_topi (fun x9 ex9 => ?_)
  obtain rfl : x9 = 7 := ex9.trans (by decide)
  refine va_put (ci := 10) (v := .int 7) (ty := .int) (C := RX10) (T := TX10) (N := 13) hx hb htA in_X10 tyX10 tyX10_ok nmX10 hown hK hP hD hS 0 rfl rfl 1 (by decide) (htA _ wd_309) (fun _ h => h) rfl (by decide +kernel) rfl rfl (Nat.le_of_ble_eq_true rfl) dX10_putBytes_37 (fun H locs hP hD hS => ?_)
  have hP : va_P D vwCl [((a 0), .inr (10, [.ref (a 1), .int 7, .int 0, .int (-1), .ref (a 2), .ref (a 3), .ref (a 4), .ref (a 5), .ref (a 6), .ref (a 7), .ref (a 8), .ref (a 9), .int 0])), ((a 1), .inl (cy 1, 900, .inl (upd (upd (upd g2_ ((4 : Int32).toNatClampNeg) (vp_nar .byte (((v1_.toUInt32 >>> ((24 : Int32).toUInt32 &&& Int32.toUInt32 31)).toInt32).toInt8.toInt32))) ((5 : Int32).toNatClampNeg) (vp_nar .byte (((v1_.toUInt32 >>> ((16 : Int32).toUInt32 &&& Int32.toUInt32 31)).toInt32).toInt8.toInt32))) ((6 : Int32).toNatClampNeg) (vp_nar .byte (((v1_.toUInt32 >>> ((8 : Int32).toUInt32 &&& Int32.toUInt32 31)).toInt32).toInt8.toInt32)))))] H := hP
  have hD : va_D A [((a 0), .inr (10, [.ref (a 1), .int 7, .int 0, .int (-1), .ref (a 2), .ref (a 3), .ref (a 4), .ref (a 5), .ref (a 6), .ref (a 7), .ref (a 8), .ref (a 9), .int 0])), ((a 1), .inl (cy 1, 900, .inl (upd (upd (upd g2_ ((4 : Int32).toNatClampNeg) (vp_nar .byte (((v1_.toUInt32 >>> ((24 : Int32).toUInt32 &&& Int32.toUInt32 31)).toInt32).toInt8.toInt32))) ((5 : Int32).toNatClampNeg) (vp_nar .byte (((v1_.toUInt32 >>> ((16 : Int32).toUInt32 &&& Int32.toUInt32 31)).toInt32).toInt8.toInt32))) ((6 : Int32).toNatClampNeg) (vp_nar .byte (((v1_.toUInt32 >>> ((8 : Int32).toUInt32 &&& Int32.toUInt32 31)).toInt32).toInt8.toInt32)))))] := hD
  refine lv_iinc (v := 0) (lv' := [(2, .int 0), (0, .ref (a 0)), (1, .int v1_)]) hx hb dX10_putBytes_40 hl (k := 0) rfl (by decide) (by decide) rfl (fun ls hl => ?_)
  refine lv_goto (tgt := 3) hx hb dX10_putBytes_43 (by decide) ?_
  refine lv_iload_n hx hb dX10_putBytes_3 rfl (lv_at hl 0 rfl) ?_
  refine lv_if_lt (tgt := 46) hx hb dX10_putBytes_4 (by decide) (fun q => absurd q (by decide)) (fun _ => ?_)
  refine lv_aload_n hx hb dX10_putBytes_7 rfl (lv_at hl 1 rfl) ?_
  refine va_get (ci := 10) (v := .int 7) (C := RX10) (T := TX10) (N := 13) hx hb htA in_X10 hown hK hP 0 rfl rfl 1 (by decide) (htA _ wd_309) (fun _ h => h) rfl dX10_putBytes_8 ?_
  refine lv_sipush (v := 900) hx hb dX10_putBytes_11 (by decide) ?_
  refine lv_icmp_ge (tgt := 46) hx hb dX10_putBytes_14 (by decide) (fun q => absurd q (by decide)) (fun _ => ?_)
  refine lv_aload_n hx hb dX10_putBytes_17 rfl (lv_at hl 1 rfl) ?_
  refine va_get (ci := 10) (v := .ref (a 1)) (C := RX10) (T := TX10) (N := 13) hx hb htA in_X10 hown hK hP 0 rfl rfl 0 (by decide) (htA _ wd_308) (fun _ h => h) rfl dX10_putBytes_18 ?_
  refine lv_aload_n hx hb dX10_putBytes_21 rfl (lv_at hl 1 rfl) ?_
  refine va_get (ci := 10) (v := .int 7) (C := RX10) (T := TX10) (N := 13) hx hb htA in_X10 hown hK hP 0 rfl rfl 1 (by decide) (htA _ wd_309) (fun _ h => h) rfl dX10_putBytes_22 ?_
  refine lv_iload_n hx hb dX10_putBytes_25 rfl (lv_at hl 2 rfl) ?_
  refine lv_iload_n hx hb dX10_putBytes_26 rfl (lv_at hl 0 rfl) ?_
  refine lv_iushr hx hb dX10_putBytes_27 rfl ?_
  refine lv_i2b hx hb dX10_putBytes_28 rfl ?_
  refine va_bast hx hb hK hP hD hS 1 1 rfl rfl (in_lit (by decide)) dX10_putBytes_29 (fun H locs hP hD hS => ?_)
  have hP : va_P D vwCl [((a 0), .inr (10, [.ref (a 1), .int 7, .int 0, .int (-1), .ref (a 2), .ref (a 3), .ref (a 4), .ref (a 5), .ref (a 6), .ref (a 7), .ref (a 8), .ref (a 9), .int 0])), ((a 1), .inl (cy 1, 900, .inl (upd (upd (upd (upd g2_ ((4 : Int32).toNatClampNeg) (vp_nar .byte (((v1_.toUInt32 >>> ((24 : Int32).toUInt32 &&& Int32.toUInt32 31)).toInt32).toInt8.toInt32))) ((5 : Int32).toNatClampNeg) (vp_nar .byte (((v1_.toUInt32 >>> ((16 : Int32).toUInt32 &&& Int32.toUInt32 31)).toInt32).toInt8.toInt32))) ((6 : Int32).toNatClampNeg) (vp_nar .byte (((v1_.toUInt32 >>> ((8 : Int32).toUInt32 &&& Int32.toUInt32 31)).toInt32).toInt8.toInt32))) ((7 : Int32).toNatClampNeg) (vp_nar .byte (((v1_.toUInt32 >>> ((0 : Int32).toUInt32 &&& Int32.toUInt32 31)).toInt32).toInt8.toInt32)))))] H := hP
  have hD : va_D A [((a 0), .inr (10, [.ref (a 1), .int 7, .int 0, .int (-1), .ref (a 2), .ref (a 3), .ref (a 4), .ref (a 5), .ref (a 6), .ref (a 7), .ref (a 8), .ref (a 9), .int 0])), ((a 1), .inl (cy 1, 900, .inl (upd (upd (upd (upd g2_ ((4 : Int32).toNatClampNeg) (vp_nar .byte (((v1_.toUInt32 >>> ((24 : Int32).toUInt32 &&& Int32.toUInt32 31)).toInt32).toInt8.toInt32))) ((5 : Int32).toNatClampNeg) (vp_nar .byte (((v1_.toUInt32 >>> ((16 : Int32).toUInt32 &&& Int32.toUInt32 31)).toInt32).toInt8.toInt32))) ((6 : Int32).toNatClampNeg) (vp_nar .byte (((v1_.toUInt32 >>> ((8 : Int32).toUInt32 &&& Int32.toUInt32 31)).toInt32).toInt8.toInt32))) ((7 : Int32).toNatClampNeg) (vp_nar .byte (((v1_.toUInt32 >>> ((0 : Int32).toUInt32 &&& Int32.toUInt32 31)).toInt32).toInt8.toInt32)))))] := hD
  refine lv_aload_n hx hb dX10_putBytes_30 rfl (lv_at hl 1 rfl) ?_
  refine lv_dup hx hb dX10_putBytes_31 rfl ?_
  refine va_get (ci := 10) (v := .int 7) (C := RX10) (T := TX10) (N := 13) hx hb htA in_X10 hown hK hP 0 rfl rfl 1 (by decide) (htA _ wd_309) (fun _ h => h) rfl dX10_putBytes_32 ?_
  refine lv_iconst (v := 1) hx hb dX10_putBytes_35 (by decide) ?_
  refine lv_iadd hx hb dX10_putBytes_36 ?_
  refine lv_topi (fun x12 ex12 => ?_)
  obtain rfl : x12 = 8 := ex12.trans (by decide)
  refine va_put (ci := 10) (v := .int 8) (ty := .int) (C := RX10) (T := TX10) (N := 13) hx hb htA in_X10 tyX10 tyX10_ok nmX10 hown hK hP hD hS 0 rfl rfl 1 (by decide) (htA _ wd_309) (fun _ h => h) rfl (by decide +kernel) rfl rfl (Nat.le_of_ble_eq_true rfl) dX10_putBytes_37 (fun H locs hP hD hS => ?_)
  have hP : va_P D vwCl [((a 0), .inr (10, [.ref (a 1), .int 8, .int 0, .int (-1), .ref (a 2), .ref (a 3), .ref (a 4), .ref (a 5), .ref (a 6), .ref (a 7), .ref (a 8), .ref (a 9), .int 0])), ((a 1), .inl (cy 1, 900, .inl (upd (upd (upd (upd g2_ ((4 : Int32).toNatClampNeg) (vp_nar .byte (((v1_.toUInt32 >>> ((24 : Int32).toUInt32 &&& Int32.toUInt32 31)).toInt32).toInt8.toInt32))) ((5 : Int32).toNatClampNeg) (vp_nar .byte (((v1_.toUInt32 >>> ((16 : Int32).toUInt32 &&& Int32.toUInt32 31)).toInt32).toInt8.toInt32))) ((6 : Int32).toNatClampNeg) (vp_nar .byte (((v1_.toUInt32 >>> ((8 : Int32).toUInt32 &&& Int32.toUInt32 31)).toInt32).toInt8.toInt32))) ((7 : Int32).toNatClampNeg) (vp_nar .byte (((v1_.toUInt32 >>> ((0 : Int32).toUInt32 &&& Int32.toUInt32 31)).toInt32).toInt8.toInt32)))))] H := hP
  have hD : va_D A [((a 0), .inr (10, [.ref (a 1), .int 8, .int 0, .int (-1), .ref (a 2), .ref (a 3), .ref (a 4), .ref (a 5), .ref (a 6), .ref (a 7), .ref (a 8), .ref (a 9), .int 0])), ((a 1), .inl (cy 1, 900, .inl (upd (upd (upd (upd g2_ ((4 : Int32).toNatClampNeg) (vp_nar .byte (((v1_.toUInt32 >>> ((24 : Int32).toUInt32 &&& Int32.toUInt32 31)).toInt32).toInt8.toInt32))) ((5 : Int32).toNatClampNeg) (vp_nar .byte (((v1_.toUInt32 >>> ((16 : Int32).toUInt32 &&& Int32.toUInt32 31)).toInt32).toInt8.toInt32))) ((6 : Int32).toNatClampNeg) (vp_nar .byte (((v1_.toUInt32 >>> ((8 : Int32).toUInt32 &&& Int32.toUInt32 31)).toInt32).toInt8.toInt32))) ((7 : Int32).toNatClampNeg) (vp_nar .byte (((v1_.toUInt32 >>> ((0 : Int32).toUInt32 &&& Int32.toUInt32 31)).toInt32).toInt8.toInt32)))))] := hD
  refine lv_iinc (v := (-8)) (lv' := [(2, .int (-8)), (0, .ref (a 0)), (1, .int v1_)]) hx hb dX10_putBytes_40 hl (k := 0) rfl (by decide) (by decide) rfl (fun ls hl => ?_)
  refine lv_goto (tgt := 3) hx hb dX10_putBytes_43 (by decide) ?_
  refine lv_iload_n hx hb dX10_putBytes_3 rfl (lv_at hl 0 rfl) ?_
  refine lv_if_lt (tgt := 46) hx hb dX10_putBytes_4 (by decide) (fun _ => ?_) (fun q => absurd (by decide) q)
  exact rV hX hE hP hD hS dX10_putBytes_46 (by decide) (by decide) (rfl)
set_option maxHeartbeats 4000000 in
set_option maxRecDepth 100000 in
theorem au_X10_putBytes_54 (l : Launch) (D : va_G) (cy : Nat → ClassId) (a : Nat → Nat) (v1_ : Int32) (g2_ : Nat → Int32) : Cv l yX10_putBytes cX10_putBytes 3 none { frames := 0, cells := 0, slots := 0, locals := 0 } D cy [.ref (a 0), .int v1_] [((a 0), .inr (10, [.ref (a 1), .int 8, .int 0, .int (-1), .ref (a 2), .ref (a 3), .ref (a 4), .ref (a 5), .ref (a 6), .ref (a 7), .ref (a 8), .ref (a 9), .int 0])), ((a 1), .inl (cy 1, 900, .inl (g2_)))] (fun W1 => (W1 = [((a 0), .inr (10, [.ref (a 1), .int 12, .int 0, .int (-1), .ref (a 2), .ref (a 3), .ref (a 4), .ref (a 5), .ref (a 6), .ref (a 7), .ref (a 8), .ref (a 9), .int 0])), ((a 1), .inl (cy 1, 900, .inl (upd (upd (upd (upd g2_ ((8 : Int32).toNatClampNeg) (vp_nar .byte (((v1_.toUInt32 >>> ((24 : Int32).toUInt32 &&& Int32.toUInt32 31)).toInt32).toInt8.toInt32))) ((9 : Int32).toNatClampNeg) (vp_nar .byte (((v1_.toUInt32 >>> ((16 : Int32).toUInt32 &&& Int32.toUInt32 31)).toInt32).toInt8.toInt32))) ((10 : Int32).toNatClampNeg) (vp_nar .byte (((v1_.toUInt32 >>> ((8 : Int32).toUInt32 &&& Int32.toUInt32 31)).toInt32).toInt8.toInt32))) ((11 : Int32).toNatClampNeg) (vp_nar .byte (((v1_.toUInt32 >>> ((0 : Int32).toUInt32 &&& Int32.toUInt32 31)).toInt32).toInt8.toInt32)))))])) := by
  refine Cv.of (by decide) (Nat.le_of_ble_eq_true rfl) ?_
  intro p e s m below meth c A ls hX hE hP hD hl hin
  obtain ⟨hx, hb, hr, hml, hown, htA, hlk⟩ := id hX
  have hK := hE.1
  have hS : va_S A s.heap s.heap [] := va_S.rf
  have hl : lv_has ls 3 [(0, .ref (a 0)), (1, .int v1_)] := hl
  refine lv_bipush (v := 24) hx hb dX10_putBytes_0 (by decide) ?_
  refine lv_istore_n (lv' := [(2, .int 24), (0, .ref (a 0)), (1, .int v1_)]) hx hb dX10_putBytes_2 rfl hl (by decide) rfl (fun ls hl => ?_)
  refine lv_iload_n hx hb dX10_putBytes_3 rfl (lv_at hl 0 rfl) ?_
  refine lv_if_lt (tgt := 46) hx hb dX10_putBytes_4 (by decide) (fun q => absurd q (by decide)) (fun _ => ?_)
  refine lv_aload_n hx hb dX10_putBytes_7 rfl (lv_at hl 1 rfl) ?_
  refine va_get (ci := 10) (v := .int 8) (C := RX10) (T := TX10) (N := 13) hx hb htA in_X10 hown hK hP 0 rfl rfl 1 (by decide) (htA _ wd_309) (fun _ h => h) rfl dX10_putBytes_8 ?_
  refine lv_sipush (v := 900) hx hb dX10_putBytes_11 (by decide) ?_
  refine lv_icmp_ge (tgt := 46) hx hb dX10_putBytes_14 (by decide) (fun q => absurd q (by decide)) (fun _ => ?_)
  refine lv_aload_n hx hb dX10_putBytes_17 rfl (lv_at hl 1 rfl) ?_
  refine va_get (ci := 10) (v := .ref (a 1)) (C := RX10) (T := TX10) (N := 13) hx hb htA in_X10 hown hK hP 0 rfl rfl 0 (by decide) (htA _ wd_308) (fun _ h => h) rfl dX10_putBytes_18 ?_
  refine lv_aload_n hx hb dX10_putBytes_21 rfl (lv_at hl 1 rfl) ?_
  refine va_get (ci := 10) (v := .int 8) (C := RX10) (T := TX10) (N := 13) hx hb htA in_X10 hown hK hP 0 rfl rfl 1 (by decide) (htA _ wd_309) (fun _ h => h) rfl dX10_putBytes_22 ?_
  refine lv_iload_n hx hb dX10_putBytes_25 rfl (lv_at hl 2 rfl) ?_
  refine lv_iload_n hx hb dX10_putBytes_26 rfl (lv_at hl 0 rfl) ?_
  refine lv_iushr hx hb dX10_putBytes_27 rfl ?_
  refine lv_i2b hx hb dX10_putBytes_28 rfl ?_
  refine va_bast hx hb hK hP hD hS 1 1 rfl rfl (in_lit (by decide)) dX10_putBytes_29 (fun H locs hP hD hS => ?_)
  have hP : va_P D vwCl [((a 0), .inr (10, [.ref (a 1), .int 8, .int 0, .int (-1), .ref (a 2), .ref (a 3), .ref (a 4), .ref (a 5), .ref (a 6), .ref (a 7), .ref (a 8), .ref (a 9), .int 0])), ((a 1), .inl (cy 1, 900, .inl (upd g2_ ((8 : Int32).toNatClampNeg) (vp_nar .byte (((v1_.toUInt32 >>> ((24 : Int32).toUInt32 &&& Int32.toUInt32 31)).toInt32).toInt8.toInt32)))))] H := hP
  have hD : va_D A [((a 0), .inr (10, [.ref (a 1), .int 8, .int 0, .int (-1), .ref (a 2), .ref (a 3), .ref (a 4), .ref (a 5), .ref (a 6), .ref (a 7), .ref (a 8), .ref (a 9), .int 0])), ((a 1), .inl (cy 1, 900, .inl (upd g2_ ((8 : Int32).toNatClampNeg) (vp_nar .byte (((v1_.toUInt32 >>> ((24 : Int32).toUInt32 &&& Int32.toUInt32 31)).toInt32).toInt8.toInt32)))))] := hD
  refine lv_aload_n hx hb dX10_putBytes_30 rfl (lv_at hl 1 rfl) ?_
  refine lv_dup hx hb dX10_putBytes_31 rfl ?_
  refine va_get (ci := 10) (v := .int 8) (C := RX10) (T := TX10) (N := 13) hx hb htA in_X10 hown hK hP 0 rfl rfl 1 (by decide) (htA _ wd_309) (fun _ h => h) rfl dX10_putBytes_32 ?_
  refine lv_iconst (v := 1) hx hb dX10_putBytes_35 (by decide) ?_
  refine lv_iadd hx hb dX10_putBytes_36 ?_
  refine lv_topi (fun x3 ex3 => ?_)
  obtain rfl : x3 = 9 := ex3.trans (by decide)
  refine va_put (ci := 10) (v := .int 9) (ty := .int) (C := RX10) (T := TX10) (N := 13) hx hb htA in_X10 tyX10 tyX10_ok nmX10 hown hK hP hD hS 0 rfl rfl 1 (by decide) (htA _ wd_309) (fun _ h => h) rfl (by decide +kernel) rfl rfl (Nat.le_of_ble_eq_true rfl) dX10_putBytes_37 (fun H locs hP hD hS => ?_)
  have hP : va_P D vwCl [((a 0), .inr (10, [.ref (a 1), .int 9, .int 0, .int (-1), .ref (a 2), .ref (a 3), .ref (a 4), .ref (a 5), .ref (a 6), .ref (a 7), .ref (a 8), .ref (a 9), .int 0])), ((a 1), .inl (cy 1, 900, .inl (upd g2_ ((8 : Int32).toNatClampNeg) (vp_nar .byte (((v1_.toUInt32 >>> ((24 : Int32).toUInt32 &&& Int32.toUInt32 31)).toInt32).toInt8.toInt32)))))] H := hP
  have hD : va_D A [((a 0), .inr (10, [.ref (a 1), .int 9, .int 0, .int (-1), .ref (a 2), .ref (a 3), .ref (a 4), .ref (a 5), .ref (a 6), .ref (a 7), .ref (a 8), .ref (a 9), .int 0])), ((a 1), .inl (cy 1, 900, .inl (upd g2_ ((8 : Int32).toNatClampNeg) (vp_nar .byte (((v1_.toUInt32 >>> ((24 : Int32).toUInt32 &&& Int32.toUInt32 31)).toInt32).toInt8.toInt32)))))] := hD
  refine lv_iinc (v := 16) (lv' := [(2, .int 16), (0, .ref (a 0)), (1, .int v1_)]) hx hb dX10_putBytes_40 hl (k := 0) rfl (by decide) (by decide) rfl (fun ls hl => ?_)
  refine lv_goto (tgt := 3) hx hb dX10_putBytes_43 (by decide) ?_
  refine lv_iload_n hx hb dX10_putBytes_3 rfl (lv_at hl 0 rfl) ?_
  refine lv_if_lt (tgt := 46) hx hb dX10_putBytes_4 (by decide) (fun q => absurd q (by decide)) (fun _ => ?_)
  refine lv_aload_n hx hb dX10_putBytes_7 rfl (lv_at hl 1 rfl) ?_
  refine va_get (ci := 10) (v := .int 9) (C := RX10) (T := TX10) (N := 13) hx hb htA in_X10 hown hK hP 0 rfl rfl 1 (by decide) (htA _ wd_309) (fun _ h => h) rfl dX10_putBytes_8 ?_
  refine lv_sipush (v := 900) hx hb dX10_putBytes_11 (by decide) ?_
  refine lv_icmp_ge (tgt := 46) hx hb dX10_putBytes_14 (by decide) (fun q => absurd q (by decide)) (fun _ => ?_)
  refine lv_aload_n hx hb dX10_putBytes_17 rfl (lv_at hl 1 rfl) ?_
  refine va_get (ci := 10) (v := .ref (a 1)) (C := RX10) (T := TX10) (N := 13) hx hb htA in_X10 hown hK hP 0 rfl rfl 0 (by decide) (htA _ wd_308) (fun _ h => h) rfl dX10_putBytes_18 ?_
  refine lv_aload_n hx hb dX10_putBytes_21 rfl (lv_at hl 1 rfl) ?_
  refine va_get (ci := 10) (v := .int 9) (C := RX10) (T := TX10) (N := 13) hx hb htA in_X10 hown hK hP 0 rfl rfl 1 (by decide) (htA _ wd_309) (fun _ h => h) rfl dX10_putBytes_22 ?_
  refine lv_iload_n hx hb dX10_putBytes_25 rfl (lv_at hl 2 rfl) ?_
  refine lv_iload_n hx hb dX10_putBytes_26 rfl (lv_at hl 0 rfl) ?_
  refine lv_iushr hx hb dX10_putBytes_27 rfl ?_
  refine lv_i2b hx hb dX10_putBytes_28 rfl ?_
  refine va_bast hx hb hK hP hD hS 1 1 rfl rfl (in_lit (by decide)) dX10_putBytes_29 (fun H locs hP hD hS => ?_)
  have hP : va_P D vwCl [((a 0), .inr (10, [.ref (a 1), .int 9, .int 0, .int (-1), .ref (a 2), .ref (a 3), .ref (a 4), .ref (a 5), .ref (a 6), .ref (a 7), .ref (a 8), .ref (a 9), .int 0])), ((a 1), .inl (cy 1, 900, .inl (upd (upd g2_ ((8 : Int32).toNatClampNeg) (vp_nar .byte (((v1_.toUInt32 >>> ((24 : Int32).toUInt32 &&& Int32.toUInt32 31)).toInt32).toInt8.toInt32))) ((9 : Int32).toNatClampNeg) (vp_nar .byte (((v1_.toUInt32 >>> ((16 : Int32).toUInt32 &&& Int32.toUInt32 31)).toInt32).toInt8.toInt32)))))] H := hP
  have hD : va_D A [((a 0), .inr (10, [.ref (a 1), .int 9, .int 0, .int (-1), .ref (a 2), .ref (a 3), .ref (a 4), .ref (a 5), .ref (a 6), .ref (a 7), .ref (a 8), .ref (a 9), .int 0])), ((a 1), .inl (cy 1, 900, .inl (upd (upd g2_ ((8 : Int32).toNatClampNeg) (vp_nar .byte (((v1_.toUInt32 >>> ((24 : Int32).toUInt32 &&& Int32.toUInt32 31)).toInt32).toInt8.toInt32))) ((9 : Int32).toNatClampNeg) (vp_nar .byte (((v1_.toUInt32 >>> ((16 : Int32).toUInt32 &&& Int32.toUInt32 31)).toInt32).toInt8.toInt32)))))] := hD
  refine lv_aload_n hx hb dX10_putBytes_30 rfl (lv_at hl 1 rfl) ?_
  refine lv_dup hx hb dX10_putBytes_31 rfl ?_
  refine va_get (ci := 10) (v := .int 9) (C := RX10) (T := TX10) (N := 13) hx hb htA in_X10 hown hK hP 0 rfl rfl 1 (by decide) (htA _ wd_309) (fun _ h => h) rfl dX10_putBytes_32 ?_
  refine lv_iconst (v := 1) hx hb dX10_putBytes_35 (by decide) ?_
  refine lv_iadd hx hb dX10_putBytes_36 ?_
  refine lv_topi (fun x6 ex6 => ?_)
  obtain rfl : x6 = 10 := ex6.trans (by decide)
  refine va_put (ci := 10) (v := .int 10) (ty := .int) (C := RX10) (T := TX10) (N := 13) hx hb htA in_X10 tyX10 tyX10_ok nmX10 hown hK hP hD hS 0 rfl rfl 1 (by decide) (htA _ wd_309) (fun _ h => h) rfl (by decide +kernel) rfl rfl (Nat.le_of_ble_eq_true rfl) dX10_putBytes_37 (fun H locs hP hD hS => ?_)
  have hP : va_P D vwCl [((a 0), .inr (10, [.ref (a 1), .int 10, .int 0, .int (-1), .ref (a 2), .ref (a 3), .ref (a 4), .ref (a 5), .ref (a 6), .ref (a 7), .ref (a 8), .ref (a 9), .int 0])), ((a 1), .inl (cy 1, 900, .inl (upd (upd g2_ ((8 : Int32).toNatClampNeg) (vp_nar .byte (((v1_.toUInt32 >>> ((24 : Int32).toUInt32 &&& Int32.toUInt32 31)).toInt32).toInt8.toInt32))) ((9 : Int32).toNatClampNeg) (vp_nar .byte (((v1_.toUInt32 >>> ((16 : Int32).toUInt32 &&& Int32.toUInt32 31)).toInt32).toInt8.toInt32)))))] H := hP
  have hD : va_D A [((a 0), .inr (10, [.ref (a 1), .int 10, .int 0, .int (-1), .ref (a 2), .ref (a 3), .ref (a 4), .ref (a 5), .ref (a 6), .ref (a 7), .ref (a 8), .ref (a 9), .int 0])), ((a 1), .inl (cy 1, 900, .inl (upd (upd g2_ ((8 : Int32).toNatClampNeg) (vp_nar .byte (((v1_.toUInt32 >>> ((24 : Int32).toUInt32 &&& Int32.toUInt32 31)).toInt32).toInt8.toInt32))) ((9 : Int32).toNatClampNeg) (vp_nar .byte (((v1_.toUInt32 >>> ((16 : Int32).toUInt32 &&& Int32.toUInt32 31)).toInt32).toInt8.toInt32)))))] := hD
  refine lv_iinc (v := 8) (lv' := [(2, .int 8), (0, .ref (a 0)), (1, .int v1_)]) hx hb dX10_putBytes_40 hl (k := 0) rfl (by decide) (by decide) rfl (fun ls hl => ?_)
  refine lv_goto (tgt := 3) hx hb dX10_putBytes_43 (by decide) ?_
  refine lv_iload_n hx hb dX10_putBytes_3 rfl (lv_at hl 0 rfl) ?_
  refine lv_if_lt (tgt := 46) hx hb dX10_putBytes_4 (by decide) (fun q => absurd q (by decide)) (fun _ => ?_)
  refine lv_aload_n hx hb dX10_putBytes_7 rfl (lv_at hl 1 rfl) ?_
  refine va_get (ci := 10) (v := .int 10) (C := RX10) (T := TX10) (N := 13) hx hb htA in_X10 hown hK hP 0 rfl rfl 1 (by decide) (htA _ wd_309) (fun _ h => h) rfl dX10_putBytes_8 ?_
  refine lv_sipush (v := 900) hx hb dX10_putBytes_11 (by decide) ?_
  refine lv_icmp_ge (tgt := 46) hx hb dX10_putBytes_14 (by decide) (fun q => absurd q (by decide)) (fun _ => ?_)
  refine lv_aload_n hx hb dX10_putBytes_17 rfl (lv_at hl 1 rfl) ?_
  refine va_get (ci := 10) (v := .ref (a 1)) (C := RX10) (T := TX10) (N := 13) hx hb htA in_X10 hown hK hP 0 rfl rfl 0 (by decide) (htA _ wd_308) (fun _ h => h) rfl dX10_putBytes_18 ?_
  refine lv_aload_n hx hb dX10_putBytes_21 rfl (lv_at hl 1 rfl) ?_
  refine va_get (ci := 10) (v := .int 10) (C := RX10) (T := TX10) (N := 13) hx hb htA in_X10 hown hK hP 0 rfl rfl 1 (by decide) (htA _ wd_309) (fun _ h => h) rfl dX10_putBytes_22 ?_
  refine lv_iload_n hx hb dX10_putBytes_25 rfl (lv_at hl 2 rfl) ?_
  refine lv_iload_n hx hb dX10_putBytes_26 rfl (lv_at hl 0 rfl) ?_
  refine lv_iushr hx hb dX10_putBytes_27 rfl ?_
  refine lv_i2b hx hb dX10_putBytes_28 rfl ?_
  refine va_bast hx hb hK hP hD hS 1 1 rfl rfl (in_lit (by decide)) dX10_putBytes_29 (fun H locs hP hD hS => ?_)
  have hP : va_P D vwCl [((a 0), .inr (10, [.ref (a 1), .int 10, .int 0, .int (-1), .ref (a 2), .ref (a 3), .ref (a 4), .ref (a 5), .ref (a 6), .ref (a 7), .ref (a 8), .ref (a 9), .int 0])), ((a 1), .inl (cy 1, 900, .inl (upd (upd (upd g2_ ((8 : Int32).toNatClampNeg) (vp_nar .byte (((v1_.toUInt32 >>> ((24 : Int32).toUInt32 &&& Int32.toUInt32 31)).toInt32).toInt8.toInt32))) ((9 : Int32).toNatClampNeg) (vp_nar .byte (((v1_.toUInt32 >>> ((16 : Int32).toUInt32 &&& Int32.toUInt32 31)).toInt32).toInt8.toInt32))) ((10 : Int32).toNatClampNeg) (vp_nar .byte (((v1_.toUInt32 >>> ((8 : Int32).toUInt32 &&& Int32.toUInt32 31)).toInt32).toInt8.toInt32)))))] H := hP
  have hD : va_D A [((a 0), .inr (10, [.ref (a 1), .int 10, .int 0, .int (-1), .ref (a 2), .ref (a 3), .ref (a 4), .ref (a 5), .ref (a 6), .ref (a 7), .ref (a 8), .ref (a 9), .int 0])), ((a 1), .inl (cy 1, 900, .inl (upd (upd (upd g2_ ((8 : Int32).toNatClampNeg) (vp_nar .byte (((v1_.toUInt32 >>> ((24 : Int32).toUInt32 &&& Int32.toUInt32 31)).toInt32).toInt8.toInt32))) ((9 : Int32).toNatClampNeg) (vp_nar .byte (((v1_.toUInt32 >>> ((16 : Int32).toUInt32 &&& Int32.toUInt32 31)).toInt32).toInt8.toInt32))) ((10 : Int32).toNatClampNeg) (vp_nar .byte (((v1_.toUInt32 >>> ((8 : Int32).toUInt32 &&& Int32.toUInt32 31)).toInt32).toInt8.toInt32)))))] := hD
  refine lv_aload_n hx hb dX10_putBytes_30 rfl (lv_at hl 1 rfl) ?_
  refine lv_dup hx hb dX10_putBytes_31 rfl ?_
  refine va_get (ci := 10) (v := .int 10) (C := RX10) (T := TX10) (N := 13) hx hb htA in_X10 hown hK hP 0 rfl rfl 1 (by decide) (htA _ wd_309) (fun _ h => h) rfl dX10_putBytes_32 ?_
  refine lv_iconst (v := 1) hx hb dX10_putBytes_35 (by decide) ?_
  refine lv_iadd hx hb dX10_putBytes_36 ?_
  refine lv_topi (fun x9 ex9 => ?_)
  obtain rfl : x9 = 11 := ex9.trans (by decide)
  refine va_put (ci := 10) (v := .int 11) (ty := .int) (C := RX10) (T := TX10) (N := 13) hx hb htA in_X10 tyX10 tyX10_ok nmX10 hown hK hP hD hS 0 rfl rfl 1 (by decide) (htA _ wd_309) (fun _ h => h) rfl (by decide +kernel) rfl rfl (Nat.le_of_ble_eq_true rfl) dX10_putBytes_37 (fun H locs hP hD hS => ?_)
  have hP : va_P D vwCl [((a 0), .inr (10, [.ref (a 1), .int 11, .int 0, .int (-1), .ref (a 2), .ref (a 3), .ref (a 4), .ref (a 5), .ref (a 6), .ref (a 7), .ref (a 8), .ref (a 9), .int 0])), ((a 1), .inl (cy 1, 900, .inl (upd (upd (upd g2_ ((8 : Int32).toNatClampNeg) (vp_nar .byte (((v1_.toUInt32 >>> ((24 : Int32).toUInt32 &&& Int32.toUInt32 31)).toInt32).toInt8.toInt32))) ((9 : Int32).toNatClampNeg) (vp_nar .byte (((v1_.toUInt32 >>> ((16 : Int32).toUInt32 &&& Int32.toUInt32 31)).toInt32).toInt8.toInt32))) ((10 : Int32).toNatClampNeg) (vp_nar .byte (((v1_.toUInt32 >>> ((8 : Int32).toUInt32 &&& Int32.toUInt32 31)).toInt32).toInt8.toInt32)))))] H := hP
  have hD : va_D A [((a 0), .inr (10, [.ref (a 1), .int 11, .int 0, .int (-1), .ref (a 2), .ref (a 3), .ref (a 4), .ref (a 5), .ref (a 6), .ref (a 7), .ref (a 8), .ref (a 9), .int 0])), ((a 1), .inl (cy 1, 900, .inl (upd (upd (upd g2_ ((8 : Int32).toNatClampNeg) (vp_nar .byte (((v1_.toUInt32 >>> ((24 : Int32).toUInt32 &&& Int32.toUInt32 31)).toInt32).toInt8.toInt32))) ((9 : Int32).toNatClampNeg) (vp_nar .byte (((v1_.toUInt32 >>> ((16 : Int32).toUInt32 &&& Int32.toUInt32 31)).toInt32).toInt8.toInt32))) ((10 : Int32).toNatClampNeg) (vp_nar .byte (((v1_.toUInt32 >>> ((8 : Int32).toUInt32 &&& Int32.toUInt32 31)).toInt32).toInt8.toInt32)))))] := hD
  refine lv_iinc (v := 0) (lv' := [(2, .int 0), (0, .ref (a 0)), (1, .int v1_)]) hx hb dX10_putBytes_40 hl (k := 0) rfl (by decide) (by decide) rfl (fun ls hl => ?_)
  refine lv_goto (tgt := 3) hx hb dX10_putBytes_43 (by decide) ?_
  refine lv_iload_n hx hb dX10_putBytes_3 rfl (lv_at hl 0 rfl) ?_
  refine lv_if_lt (tgt := 46) hx hb dX10_putBytes_4 (by decide) (fun q => absurd q (by decide)) (fun _ => ?_)
  refine lv_aload_n hx hb dX10_putBytes_7 rfl (lv_at hl 1 rfl) ?_
  refine va_get (ci := 10) (v := .int 11) (C := RX10) (T := TX10) (N := 13) hx hb htA in_X10 hown hK hP 0 rfl rfl 1 (by decide) (htA _ wd_309) (fun _ h => h) rfl dX10_putBytes_8 ?_
  refine lv_sipush (v := 900) hx hb dX10_putBytes_11 (by decide) ?_
  refine lv_icmp_ge (tgt := 46) hx hb dX10_putBytes_14 (by decide) (fun q => absurd q (by decide)) (fun _ => ?_)
  refine lv_aload_n hx hb dX10_putBytes_17 rfl (lv_at hl 1 rfl) ?_
  refine va_get (ci := 10) (v := .ref (a 1)) (C := RX10) (T := TX10) (N := 13) hx hb htA in_X10 hown hK hP 0 rfl rfl 0 (by decide) (htA _ wd_308) (fun _ h => h) rfl dX10_putBytes_18 ?_
  refine lv_aload_n hx hb dX10_putBytes_21 rfl (lv_at hl 1 rfl) ?_
  refine va_get (ci := 10) (v := .int 11) (C := RX10) (T := TX10) (N := 13) hx hb htA in_X10 hown hK hP 0 rfl rfl 1 (by decide) (htA _ wd_309) (fun _ h => h) rfl dX10_putBytes_22 ?_
  refine lv_iload_n hx hb dX10_putBytes_25 rfl (lv_at hl 2 rfl) ?_
  refine lv_iload_n hx hb dX10_putBytes_26 rfl (lv_at hl 0 rfl) ?_
  refine lv_iushr hx hb dX10_putBytes_27 rfl ?_
  refine lv_i2b hx hb dX10_putBytes_28 rfl ?_
  refine va_bast hx hb hK hP hD hS 1 1 rfl rfl (in_lit (by decide)) dX10_putBytes_29 (fun H locs hP hD hS => ?_)
  have hP : va_P D vwCl [((a 0), .inr (10, [.ref (a 1), .int 11, .int 0, .int (-1), .ref (a 2), .ref (a 3), .ref (a 4), .ref (a 5), .ref (a 6), .ref (a 7), .ref (a 8), .ref (a 9), .int 0])), ((a 1), .inl (cy 1, 900, .inl (upd (upd (upd (upd g2_ ((8 : Int32).toNatClampNeg) (vp_nar .byte (((v1_.toUInt32 >>> ((24 : Int32).toUInt32 &&& Int32.toUInt32 31)).toInt32).toInt8.toInt32))) ((9 : Int32).toNatClampNeg) (vp_nar .byte (((v1_.toUInt32 >>> ((16 : Int32).toUInt32 &&& Int32.toUInt32 31)).toInt32).toInt8.toInt32))) ((10 : Int32).toNatClampNeg) (vp_nar .byte (((v1_.toUInt32 >>> ((8 : Int32).toUInt32 &&& Int32.toUInt32 31)).toInt32).toInt8.toInt32))) ((11 : Int32).toNatClampNeg) (vp_nar .byte (((v1_.toUInt32 >>> ((0 : Int32).toUInt32 &&& Int32.toUInt32 31)).toInt32).toInt8.toInt32)))))] H := hP
  have hD : va_D A [((a 0), .inr (10, [.ref (a 1), .int 11, .int 0, .int (-1), .ref (a 2), .ref (a 3), .ref (a 4), .ref (a 5), .ref (a 6), .ref (a 7), .ref (a 8), .ref (a 9), .int 0])), ((a 1), .inl (cy 1, 900, .inl (upd (upd (upd (upd g2_ ((8 : Int32).toNatClampNeg) (vp_nar .byte (((v1_.toUInt32 >>> ((24 : Int32).toUInt32 &&& Int32.toUInt32 31)).toInt32).toInt8.toInt32))) ((9 : Int32).toNatClampNeg) (vp_nar .byte (((v1_.toUInt32 >>> ((16 : Int32).toUInt32 &&& Int32.toUInt32 31)).toInt32).toInt8.toInt32))) ((10 : Int32).toNatClampNeg) (vp_nar .byte (((v1_.toUInt32 >>> ((8 : Int32).toUInt32 &&& Int32.toUInt32 31)).toInt32).toInt8.toInt32))) ((11 : Int32).toNatClampNeg) (vp_nar .byte (((v1_.toUInt32 >>> ((0 : Int32).toUInt32 &&& Int32.toUInt32 31)).toInt32).toInt8.toInt32)))))] := hD
  refine lv_aload_n hx hb dX10_putBytes_30 rfl (lv_at hl 1 rfl) ?_
  refine lv_dup hx hb dX10_putBytes_31 rfl ?_
  refine va_get (ci := 10) (v := .int 11) (C := RX10) (T := TX10) (N := 13) hx hb htA in_X10 hown hK hP 0 rfl rfl 1 (by decide) (htA _ wd_309) (fun _ h => h) rfl dX10_putBytes_32 ?_
  refine lv_iconst (v := 1) hx hb dX10_putBytes_35 (by decide) ?_
  refine lv_iadd hx hb dX10_putBytes_36 ?_
  refine lv_topi (fun x12 ex12 => ?_)
  obtain rfl : x12 = 12 := ex12.trans (by decide)
  refine va_put (ci := 10) (v := .int 12) (ty := .int) (C := RX10) (T := TX10) (N := 13) hx hb htA in_X10 tyX10 tyX10_ok nmX10 hown hK hP hD hS 0 rfl rfl 1 (by decide) (htA _ wd_309) (fun _ h => h) rfl (by decide +kernel) rfl rfl (Nat.le_of_ble_eq_true rfl) dX10_putBytes_37 (fun H locs hP hD hS => ?_)
  have hP : va_P D vwCl [((a 0), .inr (10, [.ref (a 1), .int 12, .int 0, .int (-1), .ref (a 2), .ref (a 3), .ref (a 4), .ref (a 5), .ref (a 6), .ref (a 7), .ref (a 8), .ref (a 9), .int 0])), ((a 1), .inl (cy 1, 900, .inl (upd (upd (upd (upd g2_ ((8 : Int32).toNatClampNeg) (vp_nar .byte (((v1_.toUInt32 >>> ((24 : Int32).toUInt32 &&& Int32.toUInt32 31)).toInt32).toInt8.toInt32))) ((9 : Int32).toNatClampNeg) (vp_nar .byte (((v1_.toUInt32 >>> ((16 : Int32).toUInt32 &&& Int32.toUInt32 31)).toInt32).toInt8.toInt32))) ((10 : Int32).toNatClampNeg) (vp_nar .byte (((v1_.toUInt32 >>> ((8 : Int32).toUInt32 &&& Int32.toUInt32 31)).toInt32).toInt8.toInt32))) ((11 : Int32).toNatClampNeg) (vp_nar .byte (((v1_.toUInt32 >>> ((0 : Int32).toUInt32 &&& Int32.toUInt32 31)).toInt32).toInt8.toInt32)))))] H := hP
  have hD : va_D A [((a 0), .inr (10, [.ref (a 1), .int 12, .int 0, .int (-1), .ref (a 2), .ref (a 3), .ref (a 4), .ref (a 5), .ref (a 6), .ref (a 7), .ref (a 8), .ref (a 9), .int 0])), ((a 1), .inl (cy 1, 900, .inl (upd (upd (upd (upd g2_ ((8 : Int32).toNatClampNeg) (vp_nar .byte (((v1_.toUInt32 >>> ((24 : Int32).toUInt32 &&& Int32.toUInt32 31)).toInt32).toInt8.toInt32))) ((9 : Int32).toNatClampNeg) (vp_nar .byte (((v1_.toUInt32 >>> ((16 : Int32).toUInt32 &&& Int32.toUInt32 31)).toInt32).toInt8.toInt32))) ((10 : Int32).toNatClampNeg) (vp_nar .byte (((v1_.toUInt32 >>> ((8 : Int32).toUInt32 &&& Int32.toUInt32 31)).toInt32).toInt8.toInt32))) ((11 : Int32).toNatClampNeg) (vp_nar .byte (((v1_.toUInt32 >>> ((0 : Int32).toUInt32 &&& Int32.toUInt32 31)).toInt32).toInt8.toInt32)))))] := hD
  refine lv_iinc (v := (-8)) (lv' := [(2, .int (-8)), (0, .ref (a 0)), (1, .int v1_)]) hx hb dX10_putBytes_40 hl (k := 0) rfl (by decide) (by decide) rfl (fun ls hl => ?_)
  refine lv_goto (tgt := 3) hx hb dX10_putBytes_43 (by decide) ?_
  refine lv_iload_n hx hb dX10_putBytes_3 rfl (lv_at hl 0 rfl) ?_
  refine lv_if_lt (tgt := 46) hx hb dX10_putBytes_4 (by decide) (fun _ => ?_) (fun q => absurd (by decide) q)
  exact rV hX hE hP hD hS dX10_putBytes_46 (by decide) (by decide) (rfl)
set_option maxHeartbeats 4000000 in
set_option maxRecDepth 100000 in
theorem au_X10_putBytes_55 (l : Launch) (D : va_G) (cy : Nat → ClassId) (a : Nat → Nat) (v1_ : Int32) (g2_ : Nat → Int32) : Cv l yX10_putBytes cX10_putBytes 3 none { frames := 0, cells := 0, slots := 0, locals := 0 } D cy [.ref (a 0), .int v1_] [((a 0), .inr (10, [.ref (a 1), .int 12, .int 0, .int (-1), .ref (a 2), .ref (a 3), .ref (a 4), .ref (a 5), .ref (a 6), .ref (a 7), .ref (a 8), .ref (a 9), .int 0])), ((a 1), .inl (cy 1, 900, .inl (g2_)))] (fun W1 => (W1 = [((a 0), .inr (10, [.ref (a 1), .int 16, .int 0, .int (-1), .ref (a 2), .ref (a 3), .ref (a 4), .ref (a 5), .ref (a 6), .ref (a 7), .ref (a 8), .ref (a 9), .int 0])), ((a 1), .inl (cy 1, 900, .inl (upd (upd (upd (upd g2_ ((12 : Int32).toNatClampNeg) (vp_nar .byte (((v1_.toUInt32 >>> ((24 : Int32).toUInt32 &&& Int32.toUInt32 31)).toInt32).toInt8.toInt32))) ((13 : Int32).toNatClampNeg) (vp_nar .byte (((v1_.toUInt32 >>> ((16 : Int32).toUInt32 &&& Int32.toUInt32 31)).toInt32).toInt8.toInt32))) ((14 : Int32).toNatClampNeg) (vp_nar .byte (((v1_.toUInt32 >>> ((8 : Int32).toUInt32 &&& Int32.toUInt32 31)).toInt32).toInt8.toInt32))) ((15 : Int32).toNatClampNeg) (vp_nar .byte (((v1_.toUInt32 >>> ((0 : Int32).toUInt32 &&& Int32.toUInt32 31)).toInt32).toInt8.toInt32)))))])) := by
  refine Cv.of (by decide) (Nat.le_of_ble_eq_true rfl) ?_
  intro p e s m below meth c A ls hX hE hP hD hl hin
  obtain ⟨hx, hb, hr, hml, hown, htA, hlk⟩ := id hX
  have hK := hE.1
  have hS : va_S A s.heap s.heap [] := va_S.rf
  have hl : lv_has ls 3 [(0, .ref (a 0)), (1, .int v1_)] := hl
  refine lv_bipush (v := 24) hx hb dX10_putBytes_0 (by decide) ?_
  refine lv_istore_n (lv' := [(2, .int 24), (0, .ref (a 0)), (1, .int v1_)]) hx hb dX10_putBytes_2 rfl hl (by decide) rfl (fun ls hl => ?_)
  refine lv_iload_n hx hb dX10_putBytes_3 rfl (lv_at hl 0 rfl) ?_
  refine lv_if_lt (tgt := 46) hx hb dX10_putBytes_4 (by decide) (fun q => absurd q (by decide)) (fun _ => ?_)
  refine lv_aload_n hx hb dX10_putBytes_7 rfl (lv_at hl 1 rfl) ?_
  refine va_get (ci := 10) (v := .int 12) (C := RX10) (T := TX10) (N := 13) hx hb htA in_X10 hown hK hP 0 rfl rfl 1 (by decide) (htA _ wd_309) (fun _ h => h) rfl dX10_putBytes_8 ?_
  refine lv_sipush (v := 900) hx hb dX10_putBytes_11 (by decide) ?_
  refine lv_icmp_ge (tgt := 46) hx hb dX10_putBytes_14 (by decide) (fun q => absurd q (by decide)) (fun _ => ?_)
  refine lv_aload_n hx hb dX10_putBytes_17 rfl (lv_at hl 1 rfl) ?_
  refine va_get (ci := 10) (v := .ref (a 1)) (C := RX10) (T := TX10) (N := 13) hx hb htA in_X10 hown hK hP 0 rfl rfl 0 (by decide) (htA _ wd_308) (fun _ h => h) rfl dX10_putBytes_18 ?_
  refine lv_aload_n hx hb dX10_putBytes_21 rfl (lv_at hl 1 rfl) ?_
  refine va_get (ci := 10) (v := .int 12) (C := RX10) (T := TX10) (N := 13) hx hb htA in_X10 hown hK hP 0 rfl rfl 1 (by decide) (htA _ wd_309) (fun _ h => h) rfl dX10_putBytes_22 ?_
  refine lv_iload_n hx hb dX10_putBytes_25 rfl (lv_at hl 2 rfl) ?_
  refine lv_iload_n hx hb dX10_putBytes_26 rfl (lv_at hl 0 rfl) ?_
  refine lv_iushr hx hb dX10_putBytes_27 rfl ?_
  refine lv_i2b hx hb dX10_putBytes_28 rfl ?_
  refine va_bast hx hb hK hP hD hS 1 1 rfl rfl (in_lit (by decide)) dX10_putBytes_29 (fun H locs hP hD hS => ?_)
  have hP : va_P D vwCl [((a 0), .inr (10, [.ref (a 1), .int 12, .int 0, .int (-1), .ref (a 2), .ref (a 3), .ref (a 4), .ref (a 5), .ref (a 6), .ref (a 7), .ref (a 8), .ref (a 9), .int 0])), ((a 1), .inl (cy 1, 900, .inl (upd g2_ ((12 : Int32).toNatClampNeg) (vp_nar .byte (((v1_.toUInt32 >>> ((24 : Int32).toUInt32 &&& Int32.toUInt32 31)).toInt32).toInt8.toInt32)))))] H := hP
  have hD : va_D A [((a 0), .inr (10, [.ref (a 1), .int 12, .int 0, .int (-1), .ref (a 2), .ref (a 3), .ref (a 4), .ref (a 5), .ref (a 6), .ref (a 7), .ref (a 8), .ref (a 9), .int 0])), ((a 1), .inl (cy 1, 900, .inl (upd g2_ ((12 : Int32).toNatClampNeg) (vp_nar .byte (((v1_.toUInt32 >>> ((24 : Int32).toUInt32 &&& Int32.toUInt32 31)).toInt32).toInt8.toInt32)))))] := hD
  refine lv_aload_n hx hb dX10_putBytes_30 rfl (lv_at hl 1 rfl) ?_
  refine lv_dup hx hb dX10_putBytes_31 rfl ?_
  refine va_get (ci := 10) (v := .int 12) (C := RX10) (T := TX10) (N := 13) hx hb htA in_X10 hown hK hP 0 rfl rfl 1 (by decide) (htA _ wd_309) (fun _ h => h) rfl dX10_putBytes_32 ?_
  refine lv_iconst (v := 1) hx hb dX10_putBytes_35 (by decide) ?_
  refine lv_iadd hx hb dX10_putBytes_36 ?_
  refine lv_topi (fun x3 ex3 => ?_)
  obtain rfl : x3 = 13 := ex3.trans (by decide)
  refine va_put (ci := 10) (v := .int 13) (ty := .int) (C := RX10) (T := TX10) (N := 13) hx hb htA in_X10 tyX10 tyX10_ok nmX10 hown hK hP hD hS 0 rfl rfl 1 (by decide) (htA _ wd_309) (fun _ h => h) rfl (by decide +kernel) rfl rfl (Nat.le_of_ble_eq_true rfl) dX10_putBytes_37 (fun H locs hP hD hS => ?_)
  have hP : va_P D vwCl [((a 0), .inr (10, [.ref (a 1), .int 13, .int 0, .int (-1), .ref (a 2), .ref (a 3), .ref (a 4), .ref (a 5), .ref (a 6), .ref (a 7), .ref (a 8), .ref (a 9), .int 0])), ((a 1), .inl (cy 1, 900, .inl (upd g2_ ((12 : Int32).toNatClampNeg) (vp_nar .byte (((v1_.toUInt32 >>> ((24 : Int32).toUInt32 &&& Int32.toUInt32 31)).toInt32).toInt8.toInt32)))))] H := hP
  have hD : va_D A [((a 0), .inr (10, [.ref (a 1), .int 13, .int 0, .int (-1), .ref (a 2), .ref (a 3), .ref (a 4), .ref (a 5), .ref (a 6), .ref (a 7), .ref (a 8), .ref (a 9), .int 0])), ((a 1), .inl (cy 1, 900, .inl (upd g2_ ((12 : Int32).toNatClampNeg) (vp_nar .byte (((v1_.toUInt32 >>> ((24 : Int32).toUInt32 &&& Int32.toUInt32 31)).toInt32).toInt8.toInt32)))))] := hD
  refine lv_iinc (v := 16) (lv' := [(2, .int 16), (0, .ref (a 0)), (1, .int v1_)]) hx hb dX10_putBytes_40 hl (k := 0) rfl (by decide) (by decide) rfl (fun ls hl => ?_)
  refine lv_goto (tgt := 3) hx hb dX10_putBytes_43 (by decide) ?_
  refine lv_iload_n hx hb dX10_putBytes_3 rfl (lv_at hl 0 rfl) ?_
  refine lv_if_lt (tgt := 46) hx hb dX10_putBytes_4 (by decide) (fun q => absurd q (by decide)) (fun _ => ?_)
  refine lv_aload_n hx hb dX10_putBytes_7 rfl (lv_at hl 1 rfl) ?_
  refine va_get (ci := 10) (v := .int 13) (C := RX10) (T := TX10) (N := 13) hx hb htA in_X10 hown hK hP 0 rfl rfl 1 (by decide) (htA _ wd_309) (fun _ h => h) rfl dX10_putBytes_8 ?_
  refine lv_sipush (v := 900) hx hb dX10_putBytes_11 (by decide) ?_
  refine lv_icmp_ge (tgt := 46) hx hb dX10_putBytes_14 (by decide) (fun q => absurd q (by decide)) (fun _ => ?_)
  refine lv_aload_n hx hb dX10_putBytes_17 rfl (lv_at hl 1 rfl) ?_
  refine va_get (ci := 10) (v := .ref (a 1)) (C := RX10) (T := TX10) (N := 13) hx hb htA in_X10 hown hK hP 0 rfl rfl 0 (by decide) (htA _ wd_308) (fun _ h => h) rfl dX10_putBytes_18 ?_
  refine lv_aload_n hx hb dX10_putBytes_21 rfl (lv_at hl 1 rfl) ?_
  refine va_get (ci := 10) (v := .int 13) (C := RX10) (T := TX10) (N := 13) hx hb htA in_X10 hown hK hP 0 rfl rfl 1 (by decide) (htA _ wd_309) (fun _ h => h) rfl dX10_putBytes_22 ?_
  refine lv_iload_n hx hb dX10_putBytes_25 rfl (lv_at hl 2 rfl) ?_
  refine lv_iload_n hx hb dX10_putBytes_26 rfl (lv_at hl 0 rfl) ?_
  refine lv_iushr hx hb dX10_putBytes_27 rfl ?_
  refine lv_i2b hx hb dX10_putBytes_28 rfl ?_
  refine va_bast hx hb hK hP hD hS 1 1 rfl rfl (in_lit (by decide)) dX10_putBytes_29 (fun H locs hP hD hS => ?_)
  have hP : va_P D vwCl [((a 0), .inr (10, [.ref (a 1), .int 13, .int 0, .int (-1), .ref (a 2), .ref (a 3), .ref (a 4), .ref (a 5), .ref (a 6), .ref (a 7), .ref (a 8), .ref (a 9), .int 0])), ((a 1), .inl (cy 1, 900, .inl (upd (upd g2_ ((12 : Int32).toNatClampNeg) (vp_nar .byte (((v1_.toUInt32 >>> ((24 : Int32).toUInt32 &&& Int32.toUInt32 31)).toInt32).toInt8.toInt32))) ((13 : Int32).toNatClampNeg) (vp_nar .byte (((v1_.toUInt32 >>> ((16 : Int32).toUInt32 &&& Int32.toUInt32 31)).toInt32).toInt8.toInt32)))))] H := hP
  have hD : va_D A [((a 0), .inr (10, [.ref (a 1), .int 13, .int 0, .int (-1), .ref (a 2), .ref (a 3), .ref (a 4), .ref (a 5), .ref (a 6), .ref (a 7), .ref (a 8), .ref (a 9), .int 0])), ((a 1), .inl (cy 1, 900, .inl (upd (upd g2_ ((12 : Int32).toNatClampNeg) (vp_nar .byte (((v1_.toUInt32 >>> ((24 : Int32).toUInt32 &&& Int32.toUInt32 31)).toInt32).toInt8.toInt32))) ((13 : Int32).toNatClampNeg) (vp_nar .byte (((v1_.toUInt32 >>> ((16 : Int32).toUInt32 &&& Int32.toUInt32 31)).toInt32).toInt8.toInt32)))))] := hD
  refine lv_aload_n hx hb dX10_putBytes_30 rfl (lv_at hl 1 rfl) ?_
  refine lv_dup hx hb dX10_putBytes_31 rfl ?_
  refine va_get (ci := 10) (v := .int 13) (C := RX10) (T := TX10) (N := 13) hx hb htA in_X10 hown hK hP 0 rfl rfl 1 (by decide) (htA _ wd_309) (fun _ h => h) rfl dX10_putBytes_32 ?_
  refine lv_iconst (v := 1) hx hb dX10_putBytes_35 (by decide) ?_
  refine lv_iadd hx hb dX10_putBytes_36 ?_
  refine lv_topi (fun x6 ex6 => ?_)
  obtain rfl : x6 = 14 := ex6.trans (by decide)
  refine va_put (ci := 10) (v := .int 14) (ty := .int) (C := RX10) (T := TX10) (N := 13) hx hb htA in_X10 tyX10 tyX10_ok nmX10 hown hK hP hD hS 0 rfl rfl 1 (by decide) (htA _ wd_309) (fun _ h => h) rfl (by decide +kernel) rfl rfl (Nat.le_of_ble_eq_true rfl) dX10_putBytes_37 (fun H locs hP hD hS => ?_)
  have hP : va_P D vwCl [((a 0), .inr (10, [.ref (a 1), .int 14, .int 0, .int (-1), .ref (a 2), .ref (a 3), .ref (a 4), .ref (a 5), .ref (a 6), .ref (a 7), .ref (a 8), .ref (a 9), .int 0])), ((a 1), .inl (cy 1, 900, .inl (upd (upd g2_ ((12 : Int32).toNatClampNeg) (vp_nar .byte (((v1_.toUInt32 >>> ((24 : Int32).toUInt32 &&& Int32.toUInt32 31)).toInt32).toInt8.toInt32))) ((13 : Int32).toNatClampNeg) (vp_nar .byte (((v1_.toUInt32 >>> ((16 : Int32).toUInt32 &&& Int32.toUInt32 31)).toInt32).toInt8.toInt32)))))] H := hP
  have hD : va_D A [((a 0), .inr (10, [.ref (a 1), .int 14, .int 0, .int (-1), .ref (a 2), .ref (a 3), .ref (a 4), .ref (a 5), .ref (a 6), .ref (a 7), .ref (a 8), .ref (a 9), .int 0])), ((a 1), .inl (cy 1, 900, .inl (upd (upd g2_ ((12 : Int32).toNatClampNeg) (vp_nar .byte (((v1_.toUInt32 >>> ((24 : Int32).toUInt32 &&& Int32.toUInt32 31)).toInt32).toInt8.toInt32))) ((13 : Int32).toNatClampNeg) (vp_nar .byte (((v1_.toUInt32 >>> ((16 : Int32).toUInt32 &&& Int32.toUInt32 31)).toInt32).toInt8.toInt32)))))] := hD
  refine lv_iinc (v := 8) (lv' := [(2, .int 8), (0, .ref (a 0)), (1, .int v1_)]) hx hb dX10_putBytes_40 hl (k := 0) rfl (by decide) (by decide) rfl (fun ls hl => ?_)
  refine lv_goto (tgt := 3) hx hb dX10_putBytes_43 (by decide) ?_
  refine lv_iload_n hx hb dX10_putBytes_3 rfl (lv_at hl 0 rfl) ?_
  refine lv_if_lt (tgt := 46) hx hb dX10_putBytes_4 (by decide) (fun q => absurd q (by decide)) (fun _ => ?_)
  refine lv_aload_n hx hb dX10_putBytes_7 rfl (lv_at hl 1 rfl) ?_
  refine va_get (ci := 10) (v := .int 14) (C := RX10) (T := TX10) (N := 13) hx hb htA in_X10 hown hK hP 0 rfl rfl 1 (by decide) (htA _ wd_309) (fun _ h => h) rfl dX10_putBytes_8 ?_
  refine lv_sipush (v := 900) hx hb dX10_putBytes_11 (by decide) ?_
  refine lv_icmp_ge (tgt := 46) hx hb dX10_putBytes_14 (by decide) (fun q => absurd q (by decide)) (fun _ => ?_)
  refine lv_aload_n hx hb dX10_putBytes_17 rfl (lv_at hl 1 rfl) ?_
  refine va_get (ci := 10) (v := .ref (a 1)) (C := RX10) (T := TX10) (N := 13) hx hb htA in_X10 hown hK hP 0 rfl rfl 0 (by decide) (htA _ wd_308) (fun _ h => h) rfl dX10_putBytes_18 ?_
  refine lv_aload_n hx hb dX10_putBytes_21 rfl (lv_at hl 1 rfl) ?_
  refine va_get (ci := 10) (v := .int 14) (C := RX10) (T := TX10) (N := 13) hx hb htA in_X10 hown hK hP 0 rfl rfl 1 (by decide) (htA _ wd_309) (fun _ h => h) rfl dX10_putBytes_22 ?_
  refine lv_iload_n hx hb dX10_putBytes_25 rfl (lv_at hl 2 rfl) ?_
  refine lv_iload_n hx hb dX10_putBytes_26 rfl (lv_at hl 0 rfl) ?_
  refine lv_iushr hx hb dX10_putBytes_27 rfl ?_
  refine lv_i2b hx hb dX10_putBytes_28 rfl ?_
  refine va_bast hx hb hK hP hD hS 1 1 rfl rfl (in_lit (by decide)) dX10_putBytes_29 (fun H locs hP hD hS => ?_)
  have hP : va_P D vwCl [((a 0), .inr (10, [.ref (a 1), .int 14, .int 0, .int (-1), .ref (a 2), .ref (a 3), .ref (a 4), .ref (a 5), .ref (a 6), .ref (a 7), .ref (a 8), .ref (a 9), .int 0])), ((a 1), .inl (cy 1, 900, .inl (upd (upd (upd g2_ ((12 : Int32).toNatClampNeg) (vp_nar .byte (((v1_.toUInt32 >>> ((24 : Int32).toUInt32 &&& Int32.toUInt32 31)).toInt32).toInt8.toInt32))) ((13 : Int32).toNatClampNeg) (vp_nar .byte (((v1_.toUInt32 >>> ((16 : Int32).toUInt32 &&& Int32.toUInt32 31)).toInt32).toInt8.toInt32))) ((14 : Int32).toNatClampNeg) (vp_nar .byte (((v1_.toUInt32 >>> ((8 : Int32).toUInt32 &&& Int32.toUInt32 31)).toInt32).toInt8.toInt32)))))] H := hP
  have hD : va_D A [((a 0), .inr (10, [.ref (a 1), .int 14, .int 0, .int (-1), .ref (a 2), .ref (a 3), .ref (a 4), .ref (a 5), .ref (a 6), .ref (a 7), .ref (a 8), .ref (a 9), .int 0])), ((a 1), .inl (cy 1, 900, .inl (upd (upd (upd g2_ ((12 : Int32).toNatClampNeg) (vp_nar .byte (((v1_.toUInt32 >>> ((24 : Int32).toUInt32 &&& Int32.toUInt32 31)).toInt32).toInt8.toInt32))) ((13 : Int32).toNatClampNeg) (vp_nar .byte (((v1_.toUInt32 >>> ((16 : Int32).toUInt32 &&& Int32.toUInt32 31)).toInt32).toInt8.toInt32))) ((14 : Int32).toNatClampNeg) (vp_nar .byte (((v1_.toUInt32 >>> ((8 : Int32).toUInt32 &&& Int32.toUInt32 31)).toInt32).toInt8.toInt32)))))] := hD
  refine lv_aload_n hx hb dX10_putBytes_30 rfl (lv_at hl 1 rfl) ?_
  refine lv_dup hx hb dX10_putBytes_31 rfl ?_
  refine va_get (ci := 10) (v := .int 14) (C := RX10) (T := TX10) (N := 13) hx hb htA in_X10 hown hK hP 0 rfl rfl 1 (by decide) (htA _ wd_309) (fun _ h => h) rfl dX10_putBytes_32 ?_
  refine lv_iconst (v := 1) hx hb dX10_putBytes_35 (by decide) ?_
  refine lv_iadd hx hb dX10_putBytes_36 ?_
  refine lv_topi (fun x9 ex9 => ?_)
  obtain rfl : x9 = 15 := ex9.trans (by decide)
  refine va_put (ci := 10) (v := .int 15) (ty := .int) (C := RX10) (T := TX10) (N := 13) hx hb htA in_X10 tyX10 tyX10_ok nmX10 hown hK hP hD hS 0 rfl rfl 1 (by decide) (htA _ wd_309) (fun _ h => h) rfl (by decide +kernel) rfl rfl (Nat.le_of_ble_eq_true rfl) dX10_putBytes_37 (fun H locs hP hD hS => ?_)
  have hP : va_P D vwCl [((a 0), .inr (10, [.ref (a 1), .int 15, .int 0, .int (-1), .ref (a 2), .ref (a 3), .ref (a 4), .ref (a 5), .ref (a 6), .ref (a 7), .ref (a 8), .ref (a 9), .int 0])), ((a 1), .inl (cy 1, 900, .inl (upd (upd (upd g2_ ((12 : Int32).toNatClampNeg) (vp_nar .byte (((v1_.toUInt32 >>> ((24 : Int32).toUInt32 &&& Int32.toUInt32 31)).toInt32).toInt8.toInt32))) ((13 : Int32).toNatClampNeg) (vp_nar .byte (((v1_.toUInt32 >>> ((16 : Int32).toUInt32 &&& Int32.toUInt32 31)).toInt32).toInt8.toInt32))) ((14 : Int32).toNatClampNeg) (vp_nar .byte (((v1_.toUInt32 >>> ((8 : Int32).toUInt32 &&& Int32.toUInt32 31)).toInt32).toInt8.toInt32)))))] H := hP
  have hD : va_D A [((a 0), .inr (10, [.ref (a 1), .int 15, .int 0, .int (-1), .ref (a 2), .ref (a 3), .ref (a 4), .ref (a 5), .ref (a 6), .ref (a 7), .ref (a 8), .ref (a 9), .int 0])), ((a 1), .inl (cy 1, 900, .inl (upd (upd (upd g2_ ((12 : Int32).toNatClampNeg) (vp_nar .byte (((v1_.toUInt32 >>> ((24 : Int32).toUInt32 &&& Int32.toUInt32 31)).toInt32).toInt8.toInt32))) ((13 : Int32).toNatClampNeg) (vp_nar .byte (((v1_.toUInt32 >>> ((16 : Int32).toUInt32 &&& Int32.toUInt32 31)).toInt32).toInt8.toInt32))) ((14 : Int32).toNatClampNeg) (vp_nar .byte (((v1_.toUInt32 >>> ((8 : Int32).toUInt32 &&& Int32.toUInt32 31)).toInt32).toInt8.toInt32)))))] := hD
  refine lv_iinc (v := 0) (lv' := [(2, .int 0), (0, .ref (a 0)), (1, .int v1_)]) hx hb dX10_putBytes_40 hl (k := 0) rfl (by decide) (by decide) rfl (fun ls hl => ?_)
  refine lv_goto (tgt := 3) hx hb dX10_putBytes_43 (by decide) ?_
  refine lv_iload_n hx hb dX10_putBytes_3 rfl (lv_at hl 0 rfl) ?_
  refine lv_if_lt (tgt := 46) hx hb dX10_putBytes_4 (by decide) (fun q => absurd q (by decide)) (fun _ => ?_)
  refine lv_aload_n hx hb dX10_putBytes_7 rfl (lv_at hl 1 rfl) ?_
  refine va_get (ci := 10) (v := .int 15) (C := RX10) (T := TX10) (N := 13) hx hb htA in_X10 hown hK hP 0 rfl rfl 1 (by decide) (htA _ wd_309) (fun _ h => h) rfl dX10_putBytes_8 ?_
  refine lv_sipush (v := 900) hx hb dX10_putBytes_11 (by decide) ?_
  refine lv_icmp_ge (tgt := 46) hx hb dX10_putBytes_14 (by decide) (fun q => absurd q (by decide)) (fun _ => ?_)
  refine lv_aload_n hx hb dX10_putBytes_17 rfl (lv_at hl 1 rfl) ?_
  refine va_get (ci := 10) (v := .ref (a 1)) (C := RX10) (T := TX10) (N := 13) hx hb htA in_X10 hown hK hP 0 rfl rfl 0 (by decide) (htA _ wd_308) (fun _ h => h) rfl dX10_putBytes_18 ?_
  refine lv_aload_n hx hb dX10_putBytes_21 rfl (lv_at hl 1 rfl) ?_
  refine va_get (ci := 10) (v := .int 15) (C := RX10) (T := TX10) (N := 13) hx hb htA in_X10 hown hK hP 0 rfl rfl 1 (by decide) (htA _ wd_309) (fun _ h => h) rfl dX10_putBytes_22 ?_
  refine lv_iload_n hx hb dX10_putBytes_25 rfl (lv_at hl 2 rfl) ?_
  refine lv_iload_n hx hb dX10_putBytes_26 rfl (lv_at hl 0 rfl) ?_
  refine lv_iushr hx hb dX10_putBytes_27 rfl ?_
  refine lv_i2b hx hb dX10_putBytes_28 rfl ?_
  refine va_bast hx hb hK hP hD hS 1 1 rfl rfl (in_lit (by decide)) dX10_putBytes_29 (fun H locs hP hD hS => ?_)
  have hP : va_P D vwCl [((a 0), .inr (10, [.ref (a 1), .int 15, .int 0, .int (-1), .ref (a 2), .ref (a 3), .ref (a 4), .ref (a 5), .ref (a 6), .ref (a 7), .ref (a 8), .ref (a 9), .int 0])), ((a 1), .inl (cy 1, 900, .inl (upd (upd (upd (upd g2_ ((12 : Int32).toNatClampNeg) (vp_nar .byte (((v1_.toUInt32 >>> ((24 : Int32).toUInt32 &&& Int32.toUInt32 31)).toInt32).toInt8.toInt32))) ((13 : Int32).toNatClampNeg) (vp_nar .byte (((v1_.toUInt32 >>> ((16 : Int32).toUInt32 &&& Int32.toUInt32 31)).toInt32).toInt8.toInt32))) ((14 : Int32).toNatClampNeg) (vp_nar .byte (((v1_.toUInt32 >>> ((8 : Int32).toUInt32 &&& Int32.toUInt32 31)).toInt32).toInt8.toInt32))) ((15 : Int32).toNatClampNeg) (vp_nar .byte (((v1_.toUInt32 >>> ((0 : Int32).toUInt32 &&& Int32.toUInt32 31)).toInt32).toInt8.toInt32)))))] H := hP
  have hD : va_D A [((a 0), .inr (10, [.ref (a 1), .int 15, .int 0, .int (-1), .ref (a 2), .ref (a 3), .ref (a 4), .ref (a 5), .ref (a 6), .ref (a 7), .ref (a 8), .ref (a 9), .int 0])), ((a 1), .inl (cy 1, 900, .inl (upd (upd (upd (upd g2_ ((12 : Int32).toNatClampNeg) (vp_nar .byte (((v1_.toUInt32 >>> ((24 : Int32).toUInt32 &&& Int32.toUInt32 31)).toInt32).toInt8.toInt32))) ((13 : Int32).toNatClampNeg) (vp_nar .byte (((v1_.toUInt32 >>> ((16 : Int32).toUInt32 &&& Int32.toUInt32 31)).toInt32).toInt8.toInt32))) ((14 : Int32).toNatClampNeg) (vp_nar .byte (((v1_.toUInt32 >>> ((8 : Int32).toUInt32 &&& Int32.toUInt32 31)).toInt32).toInt8.toInt32))) ((15 : Int32).toNatClampNeg) (vp_nar .byte (((v1_.toUInt32 >>> ((0 : Int32).toUInt32 &&& Int32.toUInt32 31)).toInt32).toInt8.toInt32)))))] := hD
  refine lv_aload_n hx hb dX10_putBytes_30 rfl (lv_at hl 1 rfl) ?_
  refine lv_dup hx hb dX10_putBytes_31 rfl ?_
  refine va_get (ci := 10) (v := .int 15) (C := RX10) (T := TX10) (N := 13) hx hb htA in_X10 hown hK hP 0 rfl rfl 1 (by decide) (htA _ wd_309) (fun _ h => h) rfl dX10_putBytes_32 ?_
  refine lv_iconst (v := 1) hx hb dX10_putBytes_35 (by decide) ?_
  refine lv_iadd hx hb dX10_putBytes_36 ?_
  refine lv_topi (fun x12 ex12 => ?_)
  obtain rfl : x12 = 16 := ex12.trans (by decide)
  refine va_put (ci := 10) (v := .int 16) (ty := .int) (C := RX10) (T := TX10) (N := 13) hx hb htA in_X10 tyX10 tyX10_ok nmX10 hown hK hP hD hS 0 rfl rfl 1 (by decide) (htA _ wd_309) (fun _ h => h) rfl (by decide +kernel) rfl rfl (Nat.le_of_ble_eq_true rfl) dX10_putBytes_37 (fun H locs hP hD hS => ?_)
  have hP : va_P D vwCl [((a 0), .inr (10, [.ref (a 1), .int 16, .int 0, .int (-1), .ref (a 2), .ref (a 3), .ref (a 4), .ref (a 5), .ref (a 6), .ref (a 7), .ref (a 8), .ref (a 9), .int 0])), ((a 1), .inl (cy 1, 900, .inl (upd (upd (upd (upd g2_ ((12 : Int32).toNatClampNeg) (vp_nar .byte (((v1_.toUInt32 >>> ((24 : Int32).toUInt32 &&& Int32.toUInt32 31)).toInt32).toInt8.toInt32))) ((13 : Int32).toNatClampNeg) (vp_nar .byte (((v1_.toUInt32 >>> ((16 : Int32).toUInt32 &&& Int32.toUInt32 31)).toInt32).toInt8.toInt32))) ((14 : Int32).toNatClampNeg) (vp_nar .byte (((v1_.toUInt32 >>> ((8 : Int32).toUInt32 &&& Int32.toUInt32 31)).toInt32).toInt8.toInt32))) ((15 : Int32).toNatClampNeg) (vp_nar .byte (((v1_.toUInt32 >>> ((0 : Int32).toUInt32 &&& Int32.toUInt32 31)).toInt32).toInt8.toInt32)))))] H := hP
  have hD : va_D A [((a 0), .inr (10, [.ref (a 1), .int 16, .int 0, .int (-1), .ref (a 2), .ref (a 3), .ref (a 4), .ref (a 5), .ref (a 6), .ref (a 7), .ref (a 8), .ref (a 9), .int 0])), ((a 1), .inl (cy 1, 900, .inl (upd (upd (upd (upd g2_ ((12 : Int32).toNatClampNeg) (vp_nar .byte (((v1_.toUInt32 >>> ((24 : Int32).toUInt32 &&& Int32.toUInt32 31)).toInt32).toInt8.toInt32))) ((13 : Int32).toNatClampNeg) (vp_nar .byte (((v1_.toUInt32 >>> ((16 : Int32).toUInt32 &&& Int32.toUInt32 31)).toInt32).toInt8.toInt32))) ((14 : Int32).toNatClampNeg) (vp_nar .byte (((v1_.toUInt32 >>> ((8 : Int32).toUInt32 &&& Int32.toUInt32 31)).toInt32).toInt8.toInt32))) ((15 : Int32).toNatClampNeg) (vp_nar .byte (((v1_.toUInt32 >>> ((0 : Int32).toUInt32 &&& Int32.toUInt32 31)).toInt32).toInt8.toInt32)))))] := hD
  refine lv_iinc (v := (-8)) (lv' := [(2, .int (-8)), (0, .ref (a 0)), (1, .int v1_)]) hx hb dX10_putBytes_40 hl (k := 0) rfl (by decide) (by decide) rfl (fun ls hl => ?_)
  refine lv_goto (tgt := 3) hx hb dX10_putBytes_43 (by decide) ?_
  refine lv_iload_n hx hb dX10_putBytes_3 rfl (lv_at hl 0 rfl) ?_
  refine lv_if_lt (tgt := 46) hx hb dX10_putBytes_4 (by decide) (fun _ => ?_) (fun q => absurd (by decide) q)
  exact rV hX hE hP hD hS dX10_putBytes_46 (by decide) (by decide) (rfl)
set_option maxHeartbeats 4000000 in
set_option maxRecDepth 100000 in
theorem au_X10_putBytes_56 (l : Launch) (D : va_G) (cy : Nat → ClassId) (a : Nat → Nat) (v1_ : Int32) (g2_ : Nat → Int32) : Cv l yX10_putBytes cX10_putBytes 3 none { frames := 0, cells := 0, slots := 0, locals := 0 } D cy [.ref (a 0), .int v1_] [((a 0), .inr (10, [.ref (a 1), .int 16, .int 0, .int (-1), .ref (a 2), .ref (a 3), .ref (a 4), .ref (a 5), .ref (a 6), .ref (a 7), .ref (a 8), .ref (a 9), .int 0])), ((a 1), .inl (cy 1, 900, .inl (g2_)))] (fun W1 => (W1 = [((a 0), .inr (10, [.ref (a 1), .int 20, .int 0, .int (-1), .ref (a 2), .ref (a 3), .ref (a 4), .ref (a 5), .ref (a 6), .ref (a 7), .ref (a 8), .ref (a 9), .int 0])), ((a 1), .inl (cy 1, 900, .inl (upd (upd (upd (upd g2_ ((16 : Int32).toNatClampNeg) (vp_nar .byte (((v1_.toUInt32 >>> ((24 : Int32).toUInt32 &&& Int32.toUInt32 31)).toInt32).toInt8.toInt32))) ((17 : Int32).toNatClampNeg) (vp_nar .byte (((v1_.toUInt32 >>> ((16 : Int32).toUInt32 &&& Int32.toUInt32 31)).toInt32).toInt8.toInt32))) ((18 : Int32).toNatClampNeg) (vp_nar .byte (((v1_.toUInt32 >>> ((8 : Int32).toUInt32 &&& Int32.toUInt32 31)).toInt32).toInt8.toInt32))) ((19 : Int32).toNatClampNeg) (vp_nar .byte (((v1_.toUInt32 >>> ((0 : Int32).toUInt32 &&& Int32.toUInt32 31)).toInt32).toInt8.toInt32)))))])) := by
  refine Cv.of (by decide) (Nat.le_of_ble_eq_true rfl) ?_
  intro p e s m below meth c A ls hX hE hP hD hl hin
  obtain ⟨hx, hb, hr, hml, hown, htA, hlk⟩ := id hX
  have hK := hE.1
  have hS : va_S A s.heap s.heap [] := va_S.rf
  have hl : lv_has ls 3 [(0, .ref (a 0)), (1, .int v1_)] := hl
  refine lv_bipush (v := 24) hx hb dX10_putBytes_0 (by decide) ?_
  refine lv_istore_n (lv' := [(2, .int 24), (0, .ref (a 0)), (1, .int v1_)]) hx hb dX10_putBytes_2 rfl hl (by decide) rfl (fun ls hl => ?_)
  refine lv_iload_n hx hb dX10_putBytes_3 rfl (lv_at hl 0 rfl) ?_
  refine lv_if_lt (tgt := 46) hx hb dX10_putBytes_4 (by decide) (fun q => absurd q (by decide)) (fun _ => ?_)
  refine lv_aload_n hx hb dX10_putBytes_7 rfl (lv_at hl 1 rfl) ?_
  refine va_get (ci := 10) (v := .int 16) (C := RX10) (T := TX10) (N := 13) hx hb htA in_X10 hown hK hP 0 rfl rfl 1 (by decide) (htA _ wd_309) (fun _ h => h) rfl dX10_putBytes_8 ?_
  refine lv_sipush (v := 900) hx hb dX10_putBytes_11 (by decide) ?_
  refine lv_icmp_ge (tgt := 46) hx hb dX10_putBytes_14 (by decide) (fun q => absurd q (by decide)) (fun _ => ?_)
  refine lv_aload_n hx hb dX10_putBytes_17 rfl (lv_at hl 1 rfl) ?_
  refine va_get (ci := 10) (v := .ref (a 1)) (C := RX10) (T := TX10) (N := 13) hx hb htA in_X10 hown hK hP 0 rfl rfl 0 (by decide) (htA _ wd_308) (fun _ h => h) rfl dX10_putBytes_18 ?_
  refine lv_aload_n hx hb dX10_putBytes_21 rfl (lv_at hl 1 rfl) ?_
  refine va_get (ci := 10) (v := .int 16) (C := RX10) (T := TX10) (N := 13) hx hb htA in_X10 hown hK hP 0 rfl rfl 1 (by decide) (htA _ wd_309) (fun _ h => h) rfl dX10_putBytes_22 ?_
  refine lv_iload_n hx hb dX10_putBytes_25 rfl (lv_at hl 2 rfl) ?_
  refine lv_iload_n hx hb dX10_putBytes_26 rfl (lv_at hl 0 rfl) ?_
  refine lv_iushr hx hb dX10_putBytes_27 rfl ?_
  refine lv_i2b hx hb dX10_putBytes_28 rfl ?_
  refine va_bast hx hb hK hP hD hS 1 1 rfl rfl (in_lit (by decide)) dX10_putBytes_29 (fun H locs hP hD hS => ?_)
  have hP : va_P D vwCl [((a 0), .inr (10, [.ref (a 1), .int 16, .int 0, .int (-1), .ref (a 2), .ref (a 3), .ref (a 4), .ref (a 5), .ref (a 6), .ref (a 7), .ref (a 8), .ref (a 9), .int 0])), ((a 1), .inl (cy 1, 900, .inl (upd g2_ ((16 : Int32).toNatClampNeg) (vp_nar .byte (((v1_.toUInt32 >>> ((24 : Int32).toUInt32 &&& Int32.toUInt32 31)).toInt32).toInt8.toInt32)))))] H := hP
  have hD : va_D A [((a 0), .inr (10, [.ref (a 1), .int 16, .int 0, .int (-1), .ref (a 2), .ref (a 3), .ref (a 4), .ref (a 5), .ref (a 6), .ref (a 7), .ref (a 8), .ref (a 9), .int 0])), ((a 1), .inl (cy 1, 900, .inl (upd g2_ ((16 : Int32).toNatClampNeg) (vp_nar .byte (((v1_.toUInt32 >>> ((24 : Int32).toUInt32 &&& Int32.toUInt32 31)).toInt32).toInt8.toInt32)))))] := hD
  refine lv_aload_n hx hb dX10_putBytes_30 rfl (lv_at hl 1 rfl) ?_
  refine lv_dup hx hb dX10_putBytes_31 rfl ?_
  refine va_get (ci := 10) (v := .int 16) (C := RX10) (T := TX10) (N := 13) hx hb htA in_X10 hown hK hP 0 rfl rfl 1 (by decide) (htA _ wd_309) (fun _ h => h) rfl dX10_putBytes_32 ?_
  refine lv_iconst (v := 1) hx hb dX10_putBytes_35 (by decide) ?_
  refine lv_iadd hx hb dX10_putBytes_36 ?_
  refine lv_topi (fun x3 ex3 => ?_)
  obtain rfl : x3 = 17 := ex3.trans (by decide)
  refine va_put (ci := 10) (v := .int 17) (ty := .int) (C := RX10) (T := TX10) (N := 13) hx hb htA in_X10 tyX10 tyX10_ok nmX10 hown hK hP hD hS 0 rfl rfl 1 (by decide) (htA _ wd_309) (fun _ h => h) rfl (by decide +kernel) rfl rfl (Nat.le_of_ble_eq_true rfl) dX10_putBytes_37 (fun H locs hP hD hS => ?_)
  have hP : va_P D vwCl [((a 0), .inr (10, [.ref (a 1), .int 17, .int 0, .int (-1), .ref (a 2), .ref (a 3), .ref (a 4), .ref (a 5), .ref (a 6), .ref (a 7), .ref (a 8), .ref (a 9), .int 0])), ((a 1), .inl (cy 1, 900, .inl (upd g2_ ((16 : Int32).toNatClampNeg) (vp_nar .byte (((v1_.toUInt32 >>> ((24 : Int32).toUInt32 &&& Int32.toUInt32 31)).toInt32).toInt8.toInt32)))))] H := hP
  have hD : va_D A [((a 0), .inr (10, [.ref (a 1), .int 17, .int 0, .int (-1), .ref (a 2), .ref (a 3), .ref (a 4), .ref (a 5), .ref (a 6), .ref (a 7), .ref (a 8), .ref (a 9), .int 0])), ((a 1), .inl (cy 1, 900, .inl (upd g2_ ((16 : Int32).toNatClampNeg) (vp_nar .byte (((v1_.toUInt32 >>> ((24 : Int32).toUInt32 &&& Int32.toUInt32 31)).toInt32).toInt8.toInt32)))))] := hD
  refine lv_iinc (v := 16) (lv' := [(2, .int 16), (0, .ref (a 0)), (1, .int v1_)]) hx hb dX10_putBytes_40 hl (k := 0) rfl (by decide) (by decide) rfl (fun ls hl => ?_)
  refine lv_goto (tgt := 3) hx hb dX10_putBytes_43 (by decide) ?_
  refine lv_iload_n hx hb dX10_putBytes_3 rfl (lv_at hl 0 rfl) ?_
  refine lv_if_lt (tgt := 46) hx hb dX10_putBytes_4 (by decide) (fun q => absurd q (by decide)) (fun _ => ?_)
  refine lv_aload_n hx hb dX10_putBytes_7 rfl (lv_at hl 1 rfl) ?_
  refine va_get (ci := 10) (v := .int 17) (C := RX10) (T := TX10) (N := 13) hx hb htA in_X10 hown hK hP 0 rfl rfl 1 (by decide) (htA _ wd_309) (fun _ h => h) rfl dX10_putBytes_8 ?_
  refine lv_sipush (v := 900) hx hb dX10_putBytes_11 (by decide) ?_
  refine lv_icmp_ge (tgt := 46) hx hb dX10_putBytes_14 (by decide) (fun q => absurd q (by decide)) (fun _ => ?_)
  refine lv_aload_n hx hb dX10_putBytes_17 rfl (lv_at hl 1 rfl) ?_
  refine va_get (ci := 10) (v := .ref (a 1)) (C := RX10) (T := TX10) (N := 13) hx hb htA in_X10 hown hK hP 0 rfl rfl 0 (by decide) (htA _ wd_308) (fun _ h => h) rfl dX10_putBytes_18 ?_
  refine lv_aload_n hx hb dX10_putBytes_21 rfl (lv_at hl 1 rfl) ?_
  refine va_get (ci := 10) (v := .int 17) (C := RX10) (T := TX10) (N := 13) hx hb htA in_X10 hown hK hP 0 rfl rfl 1 (by decide) (htA _ wd_309) (fun _ h => h) rfl dX10_putBytes_22 ?_
  refine lv_iload_n hx hb dX10_putBytes_25 rfl (lv_at hl 2 rfl) ?_
  refine lv_iload_n hx hb dX10_putBytes_26 rfl (lv_at hl 0 rfl) ?_
  refine lv_iushr hx hb dX10_putBytes_27 rfl ?_
  refine lv_i2b hx hb dX10_putBytes_28 rfl ?_
  refine va_bast hx hb hK hP hD hS 1 1 rfl rfl (in_lit (by decide)) dX10_putBytes_29 (fun H locs hP hD hS => ?_)
  have hP : va_P D vwCl [((a 0), .inr (10, [.ref (a 1), .int 17, .int 0, .int (-1), .ref (a 2), .ref (a 3), .ref (a 4), .ref (a 5), .ref (a 6), .ref (a 7), .ref (a 8), .ref (a 9), .int 0])), ((a 1), .inl (cy 1, 900, .inl (upd (upd g2_ ((16 : Int32).toNatClampNeg) (vp_nar .byte (((v1_.toUInt32 >>> ((24 : Int32).toUInt32 &&& Int32.toUInt32 31)).toInt32).toInt8.toInt32))) ((17 : Int32).toNatClampNeg) (vp_nar .byte (((v1_.toUInt32 >>> ((16 : Int32).toUInt32 &&& Int32.toUInt32 31)).toInt32).toInt8.toInt32)))))] H := hP
  have hD : va_D A [((a 0), .inr (10, [.ref (a 1), .int 17, .int 0, .int (-1), .ref (a 2), .ref (a 3), .ref (a 4), .ref (a 5), .ref (a 6), .ref (a 7), .ref (a 8), .ref (a 9), .int 0])), ((a 1), .inl (cy 1, 900, .inl (upd (upd g2_ ((16 : Int32).toNatClampNeg) (vp_nar .byte (((v1_.toUInt32 >>> ((24 : Int32).toUInt32 &&& Int32.toUInt32 31)).toInt32).toInt8.toInt32))) ((17 : Int32).toNatClampNeg) (vp_nar .byte (((v1_.toUInt32 >>> ((16 : Int32).toUInt32 &&& Int32.toUInt32 31)).toInt32).toInt8.toInt32)))))] := hD
  refine lv_aload_n hx hb dX10_putBytes_30 rfl (lv_at hl 1 rfl) ?_
  refine lv_dup hx hb dX10_putBytes_31 rfl ?_
  refine va_get (ci := 10) (v := .int 17) (C := RX10) (T := TX10) (N := 13) hx hb htA in_X10 hown hK hP 0 rfl rfl 1 (by decide) (htA _ wd_309) (fun _ h => h) rfl dX10_putBytes_32 ?_
  refine lv_iconst (v := 1) hx hb dX10_putBytes_35 (by decide) ?_
  refine lv_iadd hx hb dX10_putBytes_36 ?_
  refine lv_topi (fun x6 ex6 => ?_)
  obtain rfl : x6 = 18 := ex6.trans (by decide)
  refine va_put (ci := 10) (v := .int 18) (ty := .int) (C := RX10) (T := TX10) (N := 13) hx hb htA in_X10 tyX10 tyX10_ok nmX10 hown hK hP hD hS 0 rfl rfl 1 (by decide) (htA _ wd_309) (fun _ h => h) rfl (by decide +kernel) rfl rfl (Nat.le_of_ble_eq_true rfl) dX10_putBytes_37 (fun H locs hP hD hS => ?_)
  have hP : va_P D vwCl [((a 0), .inr (10, [.ref (a 1), .int 18, .int 0, .int (-1), .ref (a 2), .ref (a 3), .ref (a 4), .ref (a 5), .ref (a 6), .ref (a 7), .ref (a 8), .ref (a 9), .int 0])), ((a 1), .inl (cy 1, 900, .inl (upd (upd g2_ ((16 : Int32).toNatClampNeg) (vp_nar .byte (((v1_.toUInt32 >>> ((24 : Int32).toUInt32 &&& Int32.toUInt32 31)).toInt32).toInt8.toInt32))) ((17 : Int32).toNatClampNeg) (vp_nar .byte (((v1_.toUInt32 >>> ((16 : Int32).toUInt32 &&& Int32.toUInt32 31)).toInt32).toInt8.toInt32)))))] H := hP
  have hD : va_D A [((a 0), .inr (10, [.ref (a 1), .int 18, .int 0, .int (-1), .ref (a 2), .ref (a 3), .ref (a 4), .ref (a 5), .ref (a 6), .ref (a 7), .ref (a 8), .ref (a 9), .int 0])), ((a 1), .inl (cy 1, 900, .inl (upd (upd g2_ ((16 : Int32).toNatClampNeg) (vp_nar .byte (((v1_.toUInt32 >>> ((24 : Int32).toUInt32 &&& Int32.toUInt32 31)).toInt32).toInt8.toInt32))) ((17 : Int32).toNatClampNeg) (vp_nar .byte (((v1_.toUInt32 >>> ((16 : Int32).toUInt32 &&& Int32.toUInt32 31)).toInt32).toInt8.toInt32)))))] := hD
  refine lv_iinc (v := 8) (lv' := [(2, .int 8), (0, .ref (a 0)), (1, .int v1_)]) hx hb dX10_putBytes_40 hl (k := 0) rfl (by decide) (by decide) rfl (fun ls hl => ?_)
  refine lv_goto (tgt := 3) hx hb dX10_putBytes_43 (by decide) ?_
  refine lv_iload_n hx hb dX10_putBytes_3 rfl (lv_at hl 0 rfl) ?_
  refine lv_if_lt (tgt := 46) hx hb dX10_putBytes_4 (by decide) (fun q => absurd q (by decide)) (fun _ => ?_)
  refine lv_aload_n hx hb dX10_putBytes_7 rfl (lv_at hl 1 rfl) ?_
  refine va_get (ci := 10) (v := .int 18) (C := RX10) (T := TX10) (N := 13) hx hb htA in_X10 hown hK hP 0 rfl rfl 1 (by decide) (htA _ wd_309) (fun _ h => h) rfl dX10_putBytes_8 ?_
  refine lv_sipush (v := 900) hx hb dX10_putBytes_11 (by decide) ?_
  refine lv_icmp_ge (tgt := 46) hx hb dX10_putBytes_14 (by decide) (fun q => absurd q (by decide)) (fun _ => ?_)
  refine lv_aload_n hx hb dX10_putBytes_17 rfl (lv_at hl 1 rfl) ?_
  refine va_get (ci := 10) (v := .ref (a 1)) (C := RX10) (T := TX10) (N := 13) hx hb htA in_X10 hown hK hP 0 rfl rfl 0 (by decide) (htA _ wd_308) (fun _ h => h) rfl dX10_putBytes_18 ?_
  refine lv_aload_n hx hb dX10_putBytes_21 rfl (lv_at hl 1 rfl) ?_
  refine va_get (ci := 10) (v := .int 18) (C := RX10) (T := TX10) (N := 13) hx hb htA in_X10 hown hK hP 0 rfl rfl 1 (by decide) (htA _ wd_309) (fun _ h => h) rfl dX10_putBytes_22 ?_
  refine lv_iload_n hx hb dX10_putBytes_25 rfl (lv_at hl 2 rfl) ?_
  refine lv_iload_n hx hb dX10_putBytes_26 rfl (lv_at hl 0 rfl) ?_
  refine lv_iushr hx hb dX10_putBytes_27 rfl ?_
  refine lv_i2b hx hb dX10_putBytes_28 rfl ?_
  refine va_bast hx hb hK hP hD hS 1 1 rfl rfl (in_lit (by decide)) dX10_putBytes_29 (fun H locs hP hD hS => ?_)
  have hP : va_P D vwCl [((a 0), .inr (10, [.ref (a 1), .int 18, .int 0, .int (-1), .ref (a 2), .ref (a 3), .ref (a 4), .ref (a 5), .ref (a 6), .ref (a 7), .ref (a 8), .ref (a 9), .int 0])), ((a 1), .inl (cy 1, 900, .inl (upd (upd (upd g2_ ((16 : Int32).toNatClampNeg) (vp_nar .byte (((v1_.toUInt32 >>> ((24 : Int32).toUInt32 &&& Int32.toUInt32 31)).toInt32).toInt8.toInt32))) ((17 : Int32).toNatClampNeg) (vp_nar .byte (((v1_.toUInt32 >>> ((16 : Int32).toUInt32 &&& Int32.toUInt32 31)).toInt32).toInt8.toInt32))) ((18 : Int32).toNatClampNeg) (vp_nar .byte (((v1_.toUInt32 >>> ((8 : Int32).toUInt32 &&& Int32.toUInt32 31)).toInt32).toInt8.toInt32)))))] H := hP
  have hD : va_D A [((a 0), .inr (10, [.ref (a 1), .int 18, .int 0, .int (-1), .ref (a 2), .ref (a 3), .ref (a 4), .ref (a 5), .ref (a 6), .ref (a 7), .ref (a 8), .ref (a 9), .int 0])), ((a 1), .inl (cy 1, 900, .inl (upd (upd (upd g2_ ((16 : Int32).toNatClampNeg) (vp_nar .byte (((v1_.toUInt32 >>> ((24 : Int32).toUInt32 &&& Int32.toUInt32 31)).toInt32).toInt8.toInt32))) ((17 : Int32).toNatClampNeg) (vp_nar .byte (((v1_.toUInt32 >>> ((16 : Int32).toUInt32 &&& Int32.toUInt32 31)).toInt32).toInt8.toInt32))) ((18 : Int32).toNatClampNeg) (vp_nar .byte (((v1_.toUInt32 >>> ((8 : Int32).toUInt32 &&& Int32.toUInt32 31)).toInt32).toInt8.toInt32)))))] := hD
  refine lv_aload_n hx hb dX10_putBytes_30 rfl (lv_at hl 1 rfl) ?_
  refine lv_dup hx hb dX10_putBytes_31 rfl ?_
  refine va_get (ci := 10) (v := .int 18) (C := RX10) (T := TX10) (N := 13) hx hb htA in_X10 hown hK hP 0 rfl rfl 1 (by decide) (htA _ wd_309) (fun _ h => h) rfl dX10_putBytes_32 ?_
  refine lv_iconst (v := 1) hx hb dX10_putBytes_35 (by decide) ?_
  refine lv_iadd hx hb dX10_putBytes_36 ?_
  refine lv_topi (fun x9 ex9 => ?_)
  obtain rfl : x9 = 19 := ex9.trans (by decide)
  refine va_put (ci := 10) (v := .int 19) (ty := .int) (C := RX10) (T := TX10) (N := 13) hx hb htA in_X10 tyX10 tyX10_ok nmX10 hown hK hP hD hS 0 rfl rfl 1 (by decide) (htA _ wd_309) (fun _ h => h) rfl (by decide +kernel) rfl rfl (Nat.le_of_ble_eq_true rfl) dX10_putBytes_37 (fun H locs hP hD hS => ?_)
  have hP : va_P D vwCl [((a 0), .inr (10, [.ref (a 1), .int 19, .int 0, .int (-1), .ref (a 2), .ref (a 3), .ref (a 4), .ref (a 5), .ref (a 6), .ref (a 7), .ref (a 8), .ref (a 9), .int 0])), ((a 1), .inl (cy 1, 900, .inl (upd (upd (upd g2_ ((16 : Int32).toNatClampNeg) (vp_nar .byte (((v1_.toUInt32 >>> ((24 : Int32).toUInt32 &&& Int32.toUInt32 31)).toInt32).toInt8.toInt32))) ((17 : Int32).toNatClampNeg) (vp_nar .byte (((v1_.toUInt32 >>> ((16 : Int32).toUInt32 &&& Int32.toUInt32 31)).toInt32).toInt8.toInt32))) ((18 : Int32).toNatClampNeg) (vp_nar .byte (((v1_.toUInt32 >>> ((8 : Int32).toUInt32 &&& Int32.toUInt32 31)).toInt32).toInt8.toInt32)))))] H := hP
  have hD : va_D A [((a 0), .inr (10, [.ref (a 1), .int 19, .int 0, .int (-1), .ref (a 2), .ref (a 3), .ref (a 4), .ref (a 5), .ref (a 6), .ref (a 7), .ref (a 8), .ref (a 9), .int 0])), ((a 1), .inl (cy 1, 900, .inl (upd (upd (upd g2_ ((16 : Int32).toNatClampNeg) (vp_nar .byte (((v1_.toUInt32 >>> ((24 : Int32).toUInt32 &&& Int32.toUInt32 31)).toInt32).toInt8.toInt32))) ((17 : Int32).toNatClampNeg) (vp_nar .byte (((v1_.toUInt32 >>> ((16 : Int32).toUInt32 &&& Int32.toUInt32 31)).toInt32).toInt8.toInt32))) ((18 : Int32).toNatClampNeg) (vp_nar .byte (((v1_.toUInt32 >>> ((8 : Int32).toUInt32 &&& Int32.toUInt32 31)).toInt32).toInt8.toInt32)))))] := hD
  refine lv_iinc (v := 0) (lv' := [(2, .int 0), (0, .ref (a 0)), (1, .int v1_)]) hx hb dX10_putBytes_40 hl (k := 0) rfl (by decide) (by decide) rfl (fun ls hl => ?_)
  refine lv_goto (tgt := 3) hx hb dX10_putBytes_43 (by decide) ?_
  refine lv_iload_n hx hb dX10_putBytes_3 rfl (lv_at hl 0 rfl) ?_
  refine lv_if_lt (tgt := 46) hx hb dX10_putBytes_4 (by decide) (fun q => absurd q (by decide)) (fun _ => ?_)
  refine lv_aload_n hx hb dX10_putBytes_7 rfl (lv_at hl 1 rfl) ?_
  refine va_get (ci := 10) (v := .int 19) (C := RX10) (T := TX10) (N := 13) hx hb htA in_X10 hown hK hP 0 rfl rfl 1 (by decide) (htA _ wd_309) (fun _ h => h) rfl dX10_putBytes_8 ?_
  refine lv_sipush (v := 900) hx hb dX10_putBytes_11 (by decide) ?_
  refine lv_icmp_ge (tgt := 46) hx hb dX10_putBytes_14 (by decide) (fun q => absurd q (by decide)) (fun _ => ?_)
  refine lv_aload_n hx hb dX10_putBytes_17 rfl (lv_at hl 1 rfl) ?_
  refine va_get (ci := 10) (v := .ref (a 1)) (C := RX10) (T := TX10) (N := 13) hx hb htA in_X10 hown hK hP 0 rfl rfl 0 (by decide) (htA _ wd_308) (fun _ h => h) rfl dX10_putBytes_18 ?_
  refine lv_aload_n hx hb dX10_putBytes_21 rfl (lv_at hl 1 rfl) ?_
  refine va_get (ci := 10) (v := .int 19) (C := RX10) (T := TX10) (N := 13) hx hb htA in_X10 hown hK hP 0 rfl rfl 1 (by decide) (htA _ wd_309) (fun _ h => h) rfl dX10_putBytes_22 ?_
  refine lv_iload_n hx hb dX10_putBytes_25 rfl (lv_at hl 2 rfl) ?_
  refine lv_iload_n hx hb dX10_putBytes_26 rfl (lv_at hl 0 rfl) ?_
  refine lv_iushr hx hb dX10_putBytes_27 rfl ?_
  refine lv_i2b hx hb dX10_putBytes_28 rfl ?_
  refine va_bast hx hb hK hP hD hS 1 1 rfl rfl (in_lit (by decide)) dX10_putBytes_29 (fun H locs hP hD hS => ?_)
  have hP : va_P D vwCl [((a 0), .inr (10, [.ref (a 1), .int 19, .int 0, .int (-1), .ref (a 2), .ref (a 3), .ref (a 4), .ref (a 5), .ref (a 6), .ref (a 7), .ref (a 8), .ref (a 9), .int 0])), ((a 1), .inl (cy 1, 900, .inl (upd (upd (upd (upd g2_ ((16 : Int32).toNatClampNeg) (vp_nar .byte (((v1_.toUInt32 >>> ((24 : Int32).toUInt32 &&& Int32.toUInt32 31)).toInt32).toInt8.toInt32))) ((17 : Int32).toNatClampNeg) (vp_nar .byte (((v1_.toUInt32 >>> ((16 : Int32).toUInt32 &&& Int32.toUInt32 31)).toInt32).toInt8.toInt32))) ((18 : Int32).toNatClampNeg) (vp_nar .byte (((v1_.toUInt32 >>> ((8 : Int32).toUInt32 &&& Int32.toUInt32 31)).toInt32).toInt8.toInt32))) ((19 : Int32).toNatClampNeg) (vp_nar .byte (((v1_.toUInt32 >>> ((0 : Int32).toUInt32 &&& Int32.toUInt32 31)).toInt32).toInt8.toInt32)))))] H := hP
  have hD : va_D A [((a 0), .inr (10, [.ref (a 1), .int 19, .int 0, .int (-1), .ref (a 2), .ref (a 3), .ref (a 4), .ref (a 5), .ref (a 6), .ref (a 7), .ref (a 8), .ref (a 9), .int 0])), ((a 1), .inl (cy 1, 900, .inl (upd (upd (upd (upd g2_ ((16 : Int32).toNatClampNeg) (vp_nar .byte (((v1_.toUInt32 >>> ((24 : Int32).toUInt32 &&& Int32.toUInt32 31)).toInt32).toInt8.toInt32))) ((17 : Int32).toNatClampNeg) (vp_nar .byte (((v1_.toUInt32 >>> ((16 : Int32).toUInt32 &&& Int32.toUInt32 31)).toInt32).toInt8.toInt32))) ((18 : Int32).toNatClampNeg) (vp_nar .byte (((v1_.toUInt32 >>> ((8 : Int32).toUInt32 &&& Int32.toUInt32 31)).toInt32).toInt8.toInt32))) ((19 : Int32).toNatClampNeg) (vp_nar .byte (((v1_.toUInt32 >>> ((0 : Int32).toUInt32 &&& Int32.toUInt32 31)).toInt32).toInt8.toInt32)))))] := hD
  refine lv_aload_n hx hb dX10_putBytes_30 rfl (lv_at hl 1 rfl) ?_
  refine lv_dup hx hb dX10_putBytes_31 rfl ?_
  refine va_get (ci := 10) (v := .int 19) (C := RX10) (T := TX10) (N := 13) hx hb htA in_X10 hown hK hP 0 rfl rfl 1 (by decide) (htA _ wd_309) (fun _ h => h) rfl dX10_putBytes_32 ?_
  refine lv_iconst (v := 1) hx hb dX10_putBytes_35 (by decide) ?_
  refine lv_iadd hx hb dX10_putBytes_36 ?_
  refine lv_topi (fun x12 ex12 => ?_)
  obtain rfl : x12 = 20 := ex12.trans (by decide)
  refine va_put (ci := 10) (v := .int 20) (ty := .int) (C := RX10) (T := TX10) (N := 13) hx hb htA in_X10 tyX10 tyX10_ok nmX10 hown hK hP hD hS 0 rfl rfl 1 (by decide) (htA _ wd_309) (fun _ h => h) rfl (by decide +kernel) rfl rfl (Nat.le_of_ble_eq_true rfl) dX10_putBytes_37 (fun H locs hP hD hS => ?_)
  have hP : va_P D vwCl [((a 0), .inr (10, [.ref (a 1), .int 20, .int 0, .int (-1), .ref (a 2), .ref (a 3), .ref (a 4), .ref (a 5), .ref (a 6), .ref (a 7), .ref (a 8), .ref (a 9), .int 0])), ((a 1), .inl (cy 1, 900, .inl (upd (upd (upd (upd g2_ ((16 : Int32).toNatClampNeg) (vp_nar .byte (((v1_.toUInt32 >>> ((24 : Int32).toUInt32 &&& Int32.toUInt32 31)).toInt32).toInt8.toInt32))) ((17 : Int32).toNatClampNeg) (vp_nar .byte (((v1_.toUInt32 >>> ((16 : Int32).toUInt32 &&& Int32.toUInt32 31)).toInt32).toInt8.toInt32))) ((18 : Int32).toNatClampNeg) (vp_nar .byte (((v1_.toUInt32 >>> ((8 : Int32).toUInt32 &&& Int32.toUInt32 31)).toInt32).toInt8.toInt32))) ((19 : Int32).toNatClampNeg) (vp_nar .byte (((v1_.toUInt32 >>> ((0 : Int32).toUInt32 &&& Int32.toUInt32 31)).toInt32).toInt8.toInt32)))))] H := hP
  have hD : va_D A [((a 0), .inr (10, [.ref (a 1), .int 20, .int 0, .int (-1), .ref (a 2), .ref (a 3), .ref (a 4), .ref (a 5), .ref (a 6), .ref (a 7), .ref (a 8), .ref (a 9), .int 0])), ((a 1), .inl (cy 1, 900, .inl (upd (upd (upd (upd g2_ ((16 : Int32).toNatClampNeg) (vp_nar .byte (((v1_.toUInt32 >>> ((24 : Int32).toUInt32 &&& Int32.toUInt32 31)).toInt32).toInt8.toInt32))) ((17 : Int32).toNatClampNeg) (vp_nar .byte (((v1_.toUInt32 >>> ((16 : Int32).toUInt32 &&& Int32.toUInt32 31)).toInt32).toInt8.toInt32))) ((18 : Int32).toNatClampNeg) (vp_nar .byte (((v1_.toUInt32 >>> ((8 : Int32).toUInt32 &&& Int32.toUInt32 31)).toInt32).toInt8.toInt32))) ((19 : Int32).toNatClampNeg) (vp_nar .byte (((v1_.toUInt32 >>> ((0 : Int32).toUInt32 &&& Int32.toUInt32 31)).toInt32).toInt8.toInt32)))))] := hD
  refine lv_iinc (v := (-8)) (lv' := [(2, .int (-8)), (0, .ref (a 0)), (1, .int v1_)]) hx hb dX10_putBytes_40 hl (k := 0) rfl (by decide) (by decide) rfl (fun ls hl => ?_)
  refine lv_goto (tgt := 3) hx hb dX10_putBytes_43 (by decide) ?_
  refine lv_iload_n hx hb dX10_putBytes_3 rfl (lv_at hl 0 rfl) ?_
  refine lv_if_lt (tgt := 46) hx hb dX10_putBytes_4 (by decide) (fun _ => ?_) (fun q => absurd (by decide) q)
  exact rV hX hE hP hD hS dX10_putBytes_46 (by decide) (by decide) (rfl)
set_option maxHeartbeats 4000000 in
set_option maxRecDepth 100000 in
theorem m_feed (l : Launch) (D : va_G) (cy : Nat → ClassId) (a : Nat → Nat) (p1 : Int32) (p2 : Int32) (p3 : Int32) (p4 : Int32) (p5 : Int32) : Ci l yX10_feed cX10_feed 6 (some .int) { frames := 1, cells := 0, slots := 0, locals := 22 } D cy [.ref (a 0), .int p1, .int p2, .int p3, .int p4, .int p5] [((a 0), .inr (10, [.ref (a 1), .int 0, .int 0, .int (-1), .ref (a 2), .ref (a 3), .ref (a 4), .ref (a 5), .ref (a 6), .ref (a 7), .ref (a 8), .ref (a 9), .int 0])), ((a 1), .inl (cy 1, 900, .inl (fun _ => 0)))] (fun r _ => r = vi_feed p1 p2 p3 p4 p5) := by
  refine Ci.of (by decide) (Nat.le_of_ble_eq_true rfl) ?_
  intro p e s m below meth c A ls hX hE hP hD hl
  obtain ⟨hx, hb, hr, hml, hown, htA, hlk⟩ := id hX
  have hK := hE.1
  have hS : va_S A s.heap s.heap [] := va_S.rf
  have hl : lv_has ls 6 [(0, .ref (a 0)), (1, .int p1), (2, .int p2), (3, .int p3), (4, .int p4), (5, .int p5)] := hl
  refine lv_aload_n hx hb dX10_feed_0 rfl (lv_at hl 0 rfl) ?_
  refine va_get (ci := 10) (v := .int 0) (C := RX10) (T := TX10) (N := 13) hx hb htA in_X10 hown hK hP 0 rfl rfl 1 (by decide) (htA _ wd_309) (fun _ h => h) rfl dX10_feed_1 ?_
  refine lv_bipush (v := 20) hx hb dX10_feed_4 (by decide) ?_
  refine lv_iadd hx hb dX10_feed_6 ?_
  refine lv_topi (fun x1 ex1 => ?_)
  obtain rfl : x1 = 20 := ex1.trans (by decide)
  refine lv_sipush (v := 900) hx hb dX10_feed_7 (by decide) ?_
  refine lv_icmp_le (tgt := 15) hx hb dX10_feed_10 (by decide) (fun _ => ?_) (fun q => absurd (by decide) q)
  refine lv_aload_n hx hb dX10_feed_15 rfl (lv_at hl 0 rfl) ?_
  refine lv_iload_n hx hb dX10_feed_16 rfl (lv_at hl 1 rfl) ?_
  refine kVv (As := [.int p1]) (rest := []) (wr := []) hX hE (au_X10_putBytes_52 l D cy a p1) (cwVA 1 htA wd_355 wd_352 wd_1 wd_354 wp_0 (by decide +kernel) ⟨by decide, by decide⟩) hP hD hS [0, 1] [] rfl rfl (by decide) 0 rfl rfl rfl rfl hl.1 rfl (Nat.le_of_ble_eq_true rfl) dX10_feed_17 (by decide) (fun W1 H locs hw hP hD hS => ?_)
  refine W.widen (k := 0) (n := 0) (by decide) (by decide) ?_
  obtain rfl := hw
  have hP : va_P D vwCl [((a 0), .inr (10, [.ref (a 1), .int 4, .int 0, .int (-1), .ref (a 2), .ref (a 3), .ref (a 4), .ref (a 5), .ref (a 6), .ref (a 7), .ref (a 8), .ref (a 9), .int 0])), ((a 1), .inl (cy 1, 900, .inl (upd (upd (upd (upd (fun _ => 0) ((0 : Int32).toNatClampNeg) (vp_nar .byte (((p1.toUInt32 >>> ((24 : Int32).toUInt32 &&& Int32.toUInt32 31)).toInt32).toInt8.toInt32))) ((1 : Int32).toNatClampNeg) (vp_nar .byte (((p1.toUInt32 >>> ((16 : Int32).toUInt32 &&& Int32.toUInt32 31)).toInt32).toInt8.toInt32))) ((2 : Int32).toNatClampNeg) (vp_nar .byte (((p1.toUInt32 >>> ((8 : Int32).toUInt32 &&& Int32.toUInt32 31)).toInt32).toInt8.toInt32))) ((3 : Int32).toNatClampNeg) (vp_nar .byte (((p1.toUInt32 >>> ((0 : Int32).toUInt32 &&& Int32.toUInt32 31)).toInt32).toInt8.toInt32)))))] H := hP
  have hD : va_D A [((a 0), .inr (10, [.ref (a 1), .int 4, .int 0, .int (-1), .ref (a 2), .ref (a 3), .ref (a 4), .ref (a 5), .ref (a 6), .ref (a 7), .ref (a 8), .ref (a 9), .int 0])), ((a 1), .inl (cy 1, 900, .inl (upd (upd (upd (upd (fun _ => 0) ((0 : Int32).toNatClampNeg) (vp_nar .byte (((p1.toUInt32 >>> ((24 : Int32).toUInt32 &&& Int32.toUInt32 31)).toInt32).toInt8.toInt32))) ((1 : Int32).toNatClampNeg) (vp_nar .byte (((p1.toUInt32 >>> ((16 : Int32).toUInt32 &&& Int32.toUInt32 31)).toInt32).toInt8.toInt32))) ((2 : Int32).toNatClampNeg) (vp_nar .byte (((p1.toUInt32 >>> ((8 : Int32).toUInt32 &&& Int32.toUInt32 31)).toInt32).toInt8.toInt32))) ((3 : Int32).toNatClampNeg) (vp_nar .byte (((p1.toUInt32 >>> ((0 : Int32).toUInt32 &&& Int32.toUInt32 31)).toInt32).toInt8.toInt32)))))] := hD
  refine lv_aload_n hx hb dX10_feed_20 rfl (lv_at hl 0 rfl) ?_
  refine lv_iload_n hx hb dX10_feed_21 rfl (lv_at hl 2 rfl) ?_
  refine kVv (As := [.int p2]) (rest := []) (wr := []) hX hE (au_X10_putBytes_53 l D cy a p2 (upd (upd (upd (upd (fun _ => 0) ((0 : Int32).toNatClampNeg) (vp_nar .byte (((p1.toUInt32 >>> ((24 : Int32).toUInt32 &&& Int32.toUInt32 31)).toInt32).toInt8.toInt32))) ((1 : Int32).toNatClampNeg) (vp_nar .byte (((p1.toUInt32 >>> ((16 : Int32).toUInt32 &&& Int32.toUInt32 31)).toInt32).toInt8.toInt32))) ((2 : Int32).toNatClampNeg) (vp_nar .byte (((p1.toUInt32 >>> ((8 : Int32).toUInt32 &&& Int32.toUInt32 31)).toInt32).toInt8.toInt32))) ((3 : Int32).toNatClampNeg) (vp_nar .byte (((p1.toUInt32 >>> ((0 : Int32).toUInt32 &&& Int32.toUInt32 31)).toInt32).toInt8.toInt32)))) (cwVA 1 htA wd_355 wd_352 wd_1 wd_354 wp_0 (by decide +kernel) ⟨by decide, by decide⟩) hP hD hS [0, 1] [] rfl rfl (by decide) 0 rfl rfl rfl rfl hl.1 rfl (Nat.le_of_ble_eq_true rfl) dX10_feed_22 (by decide) (fun W1 H locs hw hP hD hS => ?_)
  refine W.widen (k := 0) (n := 0) (by decide) (by decide) ?_
  obtain rfl := hw
  have hP : va_P D vwCl [((a 0), .inr (10, [.ref (a 1), .int 8, .int 0, .int (-1), .ref (a 2), .ref (a 3), .ref (a 4), .ref (a 5), .ref (a 6), .ref (a 7), .ref (a 8), .ref (a 9), .int 0])), ((a 1), .inl (cy 1, 900, .inl (upd (upd (upd (upd (upd (upd (upd (upd (fun _ => 0) ((0 : Int32).toNatClampNeg) (vp_nar .byte (((p1.toUInt32 >>> ((24 : Int32).toUInt32 &&& Int32.toUInt32 31)).toInt32).toInt8.toInt32))) ((1 : Int32).toNatClampNeg) (vp_nar .byte (((p1.toUInt32 >>> ((16 : Int32).toUInt32 &&& Int32.toUInt32 31)).toInt32).toInt8.toInt32))) ((2 : Int32).toNatClampNeg) (vp_nar .byte (((p1.toUInt32 >>> ((8 : Int32).toUInt32 &&& Int32.toUInt32 31)).toInt32).toInt8.toInt32))) ((3 : Int32).toNatClampNeg) (vp_nar .byte (((p1.toUInt32 >>> ((0 : Int32).toUInt32 &&& Int32.toUInt32 31)).toInt32).toInt8.toInt32))) ((4 : Int32).toNatClampNeg) (vp_nar .byte (((p2.toUInt32 >>> ((24 : Int32).toUInt32 &&& Int32.toUInt32 31)).toInt32).toInt8.toInt32))) ((5 : Int32).toNatClampNeg) (vp_nar .byte (((p2.toUInt32 >>> ((16 : Int32).toUInt32 &&& Int32.toUInt32 31)).toInt32).toInt8.toInt32))) ((6 : Int32).toNatClampNeg) (vp_nar .byte (((p2.toUInt32 >>> ((8 : Int32).toUInt32 &&& Int32.toUInt32 31)).toInt32).toInt8.toInt32))) ((7 : Int32).toNatClampNeg) (vp_nar .byte (((p2.toUInt32 >>> ((0 : Int32).toUInt32 &&& Int32.toUInt32 31)).toInt32).toInt8.toInt32)))))] H := hP
  have hD : va_D A [((a 0), .inr (10, [.ref (a 1), .int 8, .int 0, .int (-1), .ref (a 2), .ref (a 3), .ref (a 4), .ref (a 5), .ref (a 6), .ref (a 7), .ref (a 8), .ref (a 9), .int 0])), ((a 1), .inl (cy 1, 900, .inl (upd (upd (upd (upd (upd (upd (upd (upd (fun _ => 0) ((0 : Int32).toNatClampNeg) (vp_nar .byte (((p1.toUInt32 >>> ((24 : Int32).toUInt32 &&& Int32.toUInt32 31)).toInt32).toInt8.toInt32))) ((1 : Int32).toNatClampNeg) (vp_nar .byte (((p1.toUInt32 >>> ((16 : Int32).toUInt32 &&& Int32.toUInt32 31)).toInt32).toInt8.toInt32))) ((2 : Int32).toNatClampNeg) (vp_nar .byte (((p1.toUInt32 >>> ((8 : Int32).toUInt32 &&& Int32.toUInt32 31)).toInt32).toInt8.toInt32))) ((3 : Int32).toNatClampNeg) (vp_nar .byte (((p1.toUInt32 >>> ((0 : Int32).toUInt32 &&& Int32.toUInt32 31)).toInt32).toInt8.toInt32))) ((4 : Int32).toNatClampNeg) (vp_nar .byte (((p2.toUInt32 >>> ((24 : Int32).toUInt32 &&& Int32.toUInt32 31)).toInt32).toInt8.toInt32))) ((5 : Int32).toNatClampNeg) (vp_nar .byte (((p2.toUInt32 >>> ((16 : Int32).toUInt32 &&& Int32.toUInt32 31)).toInt32).toInt8.toInt32))) ((6 : Int32).toNatClampNeg) (vp_nar .byte (((p2.toUInt32 >>> ((8 : Int32).toUInt32 &&& Int32.toUInt32 31)).toInt32).toInt8.toInt32))) ((7 : Int32).toNatClampNeg) (vp_nar .byte (((p2.toUInt32 >>> ((0 : Int32).toUInt32 &&& Int32.toUInt32 31)).toInt32).toInt8.toInt32)))))] := hD
  refine lv_aload_n hx hb dX10_feed_25 rfl (lv_at hl 0 rfl) ?_
  refine lv_iload_n hx hb dX10_feed_26 rfl (lv_at hl 3 rfl) ?_
  refine kVv (As := [.int p3]) (rest := []) (wr := []) hX hE (au_X10_putBytes_54 l D cy a p3 (upd (upd (upd (upd (upd (upd (upd (upd (fun _ => 0) ((0 : Int32).toNatClampNeg) (vp_nar .byte (((p1.toUInt32 >>> ((24 : Int32).toUInt32 &&& Int32.toUInt32 31)).toInt32).toInt8.toInt32))) ((1 : Int32).toNatClampNeg) (vp_nar .byte (((p1.toUInt32 >>> ((16 : Int32).toUInt32 &&& Int32.toUInt32 31)).toInt32).toInt8.toInt32))) ((2 : Int32).toNatClampNeg) (vp_nar .byte (((p1.toUInt32 >>> ((8 : Int32).toUInt32 &&& Int32.toUInt32 31)).toInt32).toInt8.toInt32))) ((3 : Int32).toNatClampNeg) (vp_nar .byte (((p1.toUInt32 >>> ((0 : Int32).toUInt32 &&& Int32.toUInt32 31)).toInt32).toInt8.toInt32))) ((4 : Int32).toNatClampNeg) (vp_nar .byte (((p2.toUInt32 >>> ((24 : Int32).toUInt32 &&& Int32.toUInt32 31)).toInt32).toInt8.toInt32))) ((5 : Int32).toNatClampNeg) (vp_nar .byte (((p2.toUInt32 >>> ((16 : Int32).toUInt32 &&& Int32.toUInt32 31)).toInt32).toInt8.toInt32))) ((6 : Int32).toNatClampNeg) (vp_nar .byte (((p2.toUInt32 >>> ((8 : Int32).toUInt32 &&& Int32.toUInt32 31)).toInt32).toInt8.toInt32))) ((7 : Int32).toNatClampNeg) (vp_nar .byte (((p2.toUInt32 >>> ((0 : Int32).toUInt32 &&& Int32.toUInt32 31)).toInt32).toInt8.toInt32)))) (cwVA 1 htA wd_355 wd_352 wd_1 wd_354 wp_0 (by decide +kernel) ⟨by decide, by decide⟩) hP hD hS [0, 1] [] rfl rfl (by decide) 0 rfl rfl rfl rfl hl.1 rfl (Nat.le_of_ble_eq_true rfl) dX10_feed_27 (by decide) (fun W1 H locs hw hP hD hS => ?_)
  refine W.widen (k := 0) (n := 0) (by decide) (by decide) ?_
  obtain rfl := hw
  have hP : va_P D vwCl [((a 0), .inr (10, [.ref (a 1), .int 12, .int 0, .int (-1), .ref (a 2), .ref (a 3), .ref (a 4), .ref (a 5), .ref (a 6), .ref (a 7), .ref (a 8), .ref (a 9), .int 0])), ((a 1), .inl (cy 1, 900, .inl (upd (upd (upd (upd (upd (upd (upd (upd (upd (upd (upd (upd (fun _ => 0) ((0 : Int32).toNatClampNeg) (vp_nar .byte (((p1.toUInt32 >>> ((24 : Int32).toUInt32 &&& Int32.toUInt32 31)).toInt32).toInt8.toInt32))) ((1 : Int32).toNatClampNeg) (vp_nar .byte (((p1.toUInt32 >>> ((16 : Int32).toUInt32 &&& Int32.toUInt32 31)).toInt32).toInt8.toInt32))) ((2 : Int32).toNatClampNeg) (vp_nar .byte (((p1.toUInt32 >>> ((8 : Int32).toUInt32 &&& Int32.toUInt32 31)).toInt32).toInt8.toInt32))) ((3 : Int32).toNatClampNeg) (vp_nar .byte (((p1.toUInt32 >>> ((0 : Int32).toUInt32 &&& Int32.toUInt32 31)).toInt32).toInt8.toInt32))) ((4 : Int32).toNatClampNeg) (vp_nar .byte (((p2.toUInt32 >>> ((24 : Int32).toUInt32 &&& Int32.toUInt32 31)).toInt32).toInt8.toInt32))) ((5 : Int32).toNatClampNeg) (vp_nar .byte (((p2.toUInt32 >>> ((16 : Int32).toUInt32 &&& Int32.toUInt32 31)).toInt32).toInt8.toInt32))) ((6 : Int32).toNatClampNeg) (vp_nar .byte (((p2.toUInt32 >>> ((8 : Int32).toUInt32 &&& Int32.toUInt32 31)).toInt32).toInt8.toInt32))) ((7 : Int32).toNatClampNeg) (vp_nar .byte (((p2.toUInt32 >>> ((0 : Int32).toUInt32 &&& Int32.toUInt32 31)).toInt32).toInt8.toInt32))) ((8 : Int32).toNatClampNeg) (vp_nar .byte (((p3.toUInt32 >>> ((24 : Int32).toUInt32 &&& Int32.toUInt32 31)).toInt32).toInt8.toInt32))) ((9 : Int32).toNatClampNeg) (vp_nar .byte (((p3.toUInt32 >>> ((16 : Int32).toUInt32 &&& Int32.toUInt32 31)).toInt32).toInt8.toInt32))) ((10 : Int32).toNatClampNeg) (vp_nar .byte (((p3.toUInt32 >>> ((8 : Int32).toUInt32 &&& Int32.toUInt32 31)).toInt32).toInt8.toInt32))) ((11 : Int32).toNatClampNeg) (vp_nar .byte (((p3.toUInt32 >>> ((0 : Int32).toUInt32 &&& Int32.toUInt32 31)).toInt32).toInt8.toInt32)))))] H := hP
  have hD : va_D A [((a 0), .inr (10, [.ref (a 1), .int 12, .int 0, .int (-1), .ref (a 2), .ref (a 3), .ref (a 4), .ref (a 5), .ref (a 6), .ref (a 7), .ref (a 8), .ref (a 9), .int 0])), ((a 1), .inl (cy 1, 900, .inl (upd (upd (upd (upd (upd (upd (upd (upd (upd (upd (upd (upd (fun _ => 0) ((0 : Int32).toNatClampNeg) (vp_nar .byte (((p1.toUInt32 >>> ((24 : Int32).toUInt32 &&& Int32.toUInt32 31)).toInt32).toInt8.toInt32))) ((1 : Int32).toNatClampNeg) (vp_nar .byte (((p1.toUInt32 >>> ((16 : Int32).toUInt32 &&& Int32.toUInt32 31)).toInt32).toInt8.toInt32))) ((2 : Int32).toNatClampNeg) (vp_nar .byte (((p1.toUInt32 >>> ((8 : Int32).toUInt32 &&& Int32.toUInt32 31)).toInt32).toInt8.toInt32))) ((3 : Int32).toNatClampNeg) (vp_nar .byte (((p1.toUInt32 >>> ((0 : Int32).toUInt32 &&& Int32.toUInt32 31)).toInt32).toInt8.toInt32))) ((4 : Int32).toNatClampNeg) (vp_nar .byte (((p2.toUInt32 >>> ((24 : Int32).toUInt32 &&& Int32.toUInt32 31)).toInt32).toInt8.toInt32))) ((5 : Int32).toNatClampNeg) (vp_nar .byte (((p2.toUInt32 >>> ((16 : Int32).toUInt32 &&& Int32.toUInt32 31)).toInt32).toInt8.toInt32))) ((6 : Int32).toNatClampNeg) (vp_nar .byte (((p2.toUInt32 >>> ((8 : Int32).toUInt32 &&& Int32.toUInt32 31)).toInt32).toInt8.toInt32))) ((7 : Int32).toNatClampNeg) (vp_nar .byte (((p2.toUInt32 >>> ((0 : Int32).toUInt32 &&& Int32.toUInt32 31)).toInt32).toInt8.toInt32))) ((8 : Int32).toNatClampNeg) (vp_nar .byte (((p3.toUInt32 >>> ((24 : Int32).toUInt32 &&& Int32.toUInt32 31)).toInt32).toInt8.toInt32))) ((9 : Int32).toNatClampNeg) (vp_nar .byte (((p3.toUInt32 >>> ((16 : Int32).toUInt32 &&& Int32.toUInt32 31)).toInt32).toInt8.toInt32))) ((10 : Int32).toNatClampNeg) (vp_nar .byte (((p3.toUInt32 >>> ((8 : Int32).toUInt32 &&& Int32.toUInt32 31)).toInt32).toInt8.toInt32))) ((11 : Int32).toNatClampNeg) (vp_nar .byte (((p3.toUInt32 >>> ((0 : Int32).toUInt32 &&& Int32.toUInt32 31)).toInt32).toInt8.toInt32)))))] := hD
  refine lv_aload_n hx hb dX10_feed_30 rfl (lv_at hl 0 rfl) ?_
  refine lv_iload hx hb dX10_feed_31 (lv_at hl 4 rfl) ?_
  refine kVv (As := [.int p4]) (rest := []) (wr := []) hX hE (au_X10_putBytes_55 l D cy a p4 (upd (upd (upd (upd (upd (upd (upd (upd (upd (upd (upd (upd (fun _ => 0) ((0 : Int32).toNatClampNeg) (vp_nar .byte (((p1.toUInt32 >>> ((24 : Int32).toUInt32 &&& Int32.toUInt32 31)).toInt32).toInt8.toInt32))) ((1 : Int32).toNatClampNeg) (vp_nar .byte (((p1.toUInt32 >>> ((16 : Int32).toUInt32 &&& Int32.toUInt32 31)).toInt32).toInt8.toInt32))) ((2 : Int32).toNatClampNeg) (vp_nar .byte (((p1.toUInt32 >>> ((8 : Int32).toUInt32 &&& Int32.toUInt32 31)).toInt32).toInt8.toInt32))) ((3 : Int32).toNatClampNeg) (vp_nar .byte (((p1.toUInt32 >>> ((0 : Int32).toUInt32 &&& Int32.toUInt32 31)).toInt32).toInt8.toInt32))) ((4 : Int32).toNatClampNeg) (vp_nar .byte (((p2.toUInt32 >>> ((24 : Int32).toUInt32 &&& Int32.toUInt32 31)).toInt32).toInt8.toInt32))) ((5 : Int32).toNatClampNeg) (vp_nar .byte (((p2.toUInt32 >>> ((16 : Int32).toUInt32 &&& Int32.toUInt32 31)).toInt32).toInt8.toInt32))) ((6 : Int32).toNatClampNeg) (vp_nar .byte (((p2.toUInt32 >>> ((8 : Int32).toUInt32 &&& Int32.toUInt32 31)).toInt32).toInt8.toInt32))) ((7 : Int32).toNatClampNeg) (vp_nar .byte (((p2.toUInt32 >>> ((0 : Int32).toUInt32 &&& Int32.toUInt32 31)).toInt32).toInt8.toInt32))) ((8 : Int32).toNatClampNeg) (vp_nar .byte (((p3.toUInt32 >>> ((24 : Int32).toUInt32 &&& Int32.toUInt32 31)).toInt32).toInt8.toInt32))) ((9 : Int32).toNatClampNeg) (vp_nar .byte (((p3.toUInt32 >>> ((16 : Int32).toUInt32 &&& Int32.toUInt32 31)).toInt32).toInt8.toInt32))) ((10 : Int32).toNatClampNeg) (vp_nar .byte (((p3.toUInt32 >>> ((8 : Int32).toUInt32 &&& Int32.toUInt32 31)).toInt32).toInt8.toInt32))) ((11 : Int32).toNatClampNeg) (vp_nar .byte (((p3.toUInt32 >>> ((0 : Int32).toUInt32 &&& Int32.toUInt32 31)).toInt32).toInt8.toInt32)))) (cwVA 1 htA wd_355 wd_352 wd_1 wd_354 wp_0 (by decide +kernel) ⟨by decide, by decide⟩) hP hD hS [0, 1] [] rfl rfl (by decide) 0 rfl rfl rfl rfl hl.1 rfl (Nat.le_of_ble_eq_true rfl) dX10_feed_33 (by decide) (fun W1 H locs hw hP hD hS => ?_)
  refine W.widen (k := 0) (n := 0) (by decide) (by decide) ?_
  obtain rfl := hw
  have hP : va_P D vwCl [((a 0), .inr (10, [.ref (a 1), .int 16, .int 0, .int (-1), .ref (a 2), .ref (a 3), .ref (a 4), .ref (a 5), .ref (a 6), .ref (a 7), .ref (a 8), .ref (a 9), .int 0])), ((a 1), .inl (cy 1, 900, .inl (upd (upd (upd (upd (upd (upd (upd (upd (upd (upd (upd (upd (upd (upd (upd (upd (fun _ => 0) ((0 : Int32).toNatClampNeg) (vp_nar .byte (((p1.toUInt32 >>> ((24 : Int32).toUInt32 &&& Int32.toUInt32 31)).toInt32).toInt8.toInt32))) ((1 : Int32).toNatClampNeg) (vp_nar .byte (((p1.toUInt32 >>> ((16 : Int32).toUInt32 &&& Int32.toUInt32 31)).toInt32).toInt8.toInt32))) ((2 : Int32).toNatClampNeg) (vp_nar .byte (((p1.toUInt32 >>> ((8 : Int32).toUInt32 &&& Int32.toUInt32 31)).toInt32).toInt8.toInt32))) ((3 : Int32).toNatClampNeg) (vp_nar .byte (((p1.toUInt32 >>> ((0 : Int32).toUInt32 &&& Int32.toUInt32 31)).toInt32).toInt8.toInt32))) ((4 : Int32).toNatClampNeg) (vp_nar .byte (((p2.toUInt32 >>> ((24 : Int32).toUInt32 &&& Int32.toUInt32 31)).toInt32).toInt8.toInt32))) ((5 : Int32).toNatClampNeg) (vp_nar .byte (((p2.toUInt32 >>> ((16 : Int32).toUInt32 &&& Int32.toUInt32 31)).toInt32).toInt8.toInt32))) ((6 : Int32).toNatClampNeg) (vp_nar .byte (((p2.toUInt32 >>> ((8 : Int32).toUInt32 &&& Int32.toUInt32 31)).toInt32).toInt8.toInt32))) ((7 : Int32).toNatClampNeg) (vp_nar .byte (((p2.toUInt32 >>> ((0 : Int32).toUInt32 &&& Int32.toUInt32 31)).toInt32).toInt8.toInt32))) ((8 : Int32).toNatClampNeg) (vp_nar .byte (((p3.toUInt32 >>> ((24 : Int32).toUInt32 &&& Int32.toUInt32 31)).toInt32).toInt8.toInt32))) ((9 : Int32).toNatClampNeg) (vp_nar .byte (((p3.toUInt32 >>> ((16 : Int32).toUInt32 &&& Int32.toUInt32 31)).toInt32).toInt8.toInt32))) ((10 : Int32).toNatClampNeg) (vp_nar .byte (((p3.toUInt32 >>> ((8 : Int32).toUInt32 &&& Int32.toUInt32 31)).toInt32).toInt8.toInt32))) ((11 : Int32).toNatClampNeg) (vp_nar .byte (((p3.toUInt32 >>> ((0 : Int32).toUInt32 &&& Int32.toUInt32 31)).toInt32).toInt8.toInt32))) ((12 : Int32).toNatClampNeg) (vp_nar .byte (((p4.toUInt32 >>> ((24 : Int32).toUInt32 &&& Int32.toUInt32 31)).toInt32).toInt8.toInt32))) ((13 : Int32).toNatClampNeg) (vp_nar .byte (((p4.toUInt32 >>> ((16 : Int32).toUInt32 &&& Int32.toUInt32 31)).toInt32).toInt8.toInt32))) ((14 : Int32).toNatClampNeg) (vp_nar .byte (((p4.toUInt32 >>> ((8 : Int32).toUInt32 &&& Int32.toUInt32 31)).toInt32).toInt8.toInt32))) ((15 : Int32).toNatClampNeg) (vp_nar .byte (((p4.toUInt32 >>> ((0 : Int32).toUInt32 &&& Int32.toUInt32 31)).toInt32).toInt8.toInt32)))))] H := hP
  have hD : va_D A [((a 0), .inr (10, [.ref (a 1), .int 16, .int 0, .int (-1), .ref (a 2), .ref (a 3), .ref (a 4), .ref (a 5), .ref (a 6), .ref (a 7), .ref (a 8), .ref (a 9), .int 0])), ((a 1), .inl (cy 1, 900, .inl (upd (upd (upd (upd (upd (upd (upd (upd (upd (upd (upd (upd (upd (upd (upd (upd (fun _ => 0) ((0 : Int32).toNatClampNeg) (vp_nar .byte (((p1.toUInt32 >>> ((24 : Int32).toUInt32 &&& Int32.toUInt32 31)).toInt32).toInt8.toInt32))) ((1 : Int32).toNatClampNeg) (vp_nar .byte (((p1.toUInt32 >>> ((16 : Int32).toUInt32 &&& Int32.toUInt32 31)).toInt32).toInt8.toInt32))) ((2 : Int32).toNatClampNeg) (vp_nar .byte (((p1.toUInt32 >>> ((8 : Int32).toUInt32 &&& Int32.toUInt32 31)).toInt32).toInt8.toInt32))) ((3 : Int32).toNatClampNeg) (vp_nar .byte (((p1.toUInt32 >>> ((0 : Int32).toUInt32 &&& Int32.toUInt32 31)).toInt32).toInt8.toInt32))) ((4 : Int32).toNatClampNeg) (vp_nar .byte (((p2.toUInt32 >>> ((24 : Int32).toUInt32 &&& Int32.toUInt32 31)).toInt32).toInt8.toInt32))) ((5 : Int32).toNatClampNeg) (vp_nar .byte (((p2.toUInt32 >>> ((16 : Int32).toUInt32 &&& Int32.toUInt32 31)).toInt32).toInt8.toInt32))) ((6 : Int32).toNatClampNeg) (vp_nar .byte (((p2.toUInt32 >>> ((8 : Int32).toUInt32 &&& Int32.toUInt32 31)).toInt32).toInt8.toInt32))) ((7 : Int32).toNatClampNeg) (vp_nar .byte (((p2.toUInt32 >>> ((0 : Int32).toUInt32 &&& Int32.toUInt32 31)).toInt32).toInt8.toInt32))) ((8 : Int32).toNatClampNeg) (vp_nar .byte (((p3.toUInt32 >>> ((24 : Int32).toUInt32 &&& Int32.toUInt32 31)).toInt32).toInt8.toInt32))) ((9 : Int32).toNatClampNeg) (vp_nar .byte (((p3.toUInt32 >>> ((16 : Int32).toUInt32 &&& Int32.toUInt32 31)).toInt32).toInt8.toInt32))) ((10 : Int32).toNatClampNeg) (vp_nar .byte (((p3.toUInt32 >>> ((8 : Int32).toUInt32 &&& Int32.toUInt32 31)).toInt32).toInt8.toInt32))) ((11 : Int32).toNatClampNeg) (vp_nar .byte (((p3.toUInt32 >>> ((0 : Int32).toUInt32 &&& Int32.toUInt32 31)).toInt32).toInt8.toInt32))) ((12 : Int32).toNatClampNeg) (vp_nar .byte (((p4.toUInt32 >>> ((24 : Int32).toUInt32 &&& Int32.toUInt32 31)).toInt32).toInt8.toInt32))) ((13 : Int32).toNatClampNeg) (vp_nar .byte (((p4.toUInt32 >>> ((16 : Int32).toUInt32 &&& Int32.toUInt32 31)).toInt32).toInt8.toInt32))) ((14 : Int32).toNatClampNeg) (vp_nar .byte (((p4.toUInt32 >>> ((8 : Int32).toUInt32 &&& Int32.toUInt32 31)).toInt32).toInt8.toInt32))) ((15 : Int32).toNatClampNeg) (vp_nar .byte (((p4.toUInt32 >>> ((0 : Int32).toUInt32 &&& Int32.toUInt32 31)).toInt32).toInt8.toInt32)))))] := hD
  refine lv_aload_n hx hb dX10_feed_36 rfl (lv_at hl 0 rfl) ?_
  refine lv_iload hx hb dX10_feed_37 (lv_at hl 5 rfl) ?_
  refine kVv (As := [.int p5]) (rest := []) (wr := []) hX hE (au_X10_putBytes_56 l D cy a p5 (upd (upd (upd (upd (upd (upd (upd (upd (upd (upd (upd (upd (upd (upd (upd (upd (fun _ => 0) ((0 : Int32).toNatClampNeg) (vp_nar .byte (((p1.toUInt32 >>> ((24 : Int32).toUInt32 &&& Int32.toUInt32 31)).toInt32).toInt8.toInt32))) ((1 : Int32).toNatClampNeg) (vp_nar .byte (((p1.toUInt32 >>> ((16 : Int32).toUInt32 &&& Int32.toUInt32 31)).toInt32).toInt8.toInt32))) ((2 : Int32).toNatClampNeg) (vp_nar .byte (((p1.toUInt32 >>> ((8 : Int32).toUInt32 &&& Int32.toUInt32 31)).toInt32).toInt8.toInt32))) ((3 : Int32).toNatClampNeg) (vp_nar .byte (((p1.toUInt32 >>> ((0 : Int32).toUInt32 &&& Int32.toUInt32 31)).toInt32).toInt8.toInt32))) ((4 : Int32).toNatClampNeg) (vp_nar .byte (((p2.toUInt32 >>> ((24 : Int32).toUInt32 &&& Int32.toUInt32 31)).toInt32).toInt8.toInt32))) ((5 : Int32).toNatClampNeg) (vp_nar .byte (((p2.toUInt32 >>> ((16 : Int32).toUInt32 &&& Int32.toUInt32 31)).toInt32).toInt8.toInt32))) ((6 : Int32).toNatClampNeg) (vp_nar .byte (((p2.toUInt32 >>> ((8 : Int32).toUInt32 &&& Int32.toUInt32 31)).toInt32).toInt8.toInt32))) ((7 : Int32).toNatClampNeg) (vp_nar .byte (((p2.toUInt32 >>> ((0 : Int32).toUInt32 &&& Int32.toUInt32 31)).toInt32).toInt8.toInt32))) ((8 : Int32).toNatClampNeg) (vp_nar .byte (((p3.toUInt32 >>> ((24 : Int32).toUInt32 &&& Int32.toUInt32 31)).toInt32).toInt8.toInt32))) ((9 : Int32).toNatClampNeg) (vp_nar .byte (((p3.toUInt32 >>> ((16 : Int32).toUInt32 &&& Int32.toUInt32 31)).toInt32).toInt8.toInt32))) ((10 : Int32).toNatClampNeg) (vp_nar .byte (((p3.toUInt32 >>> ((8 : Int32).toUInt32 &&& Int32.toUInt32 31)).toInt32).toInt8.toInt32))) ((11 : Int32).toNatClampNeg) (vp_nar .byte (((p3.toUInt32 >>> ((0 : Int32).toUInt32 &&& Int32.toUInt32 31)).toInt32).toInt8.toInt32))) ((12 : Int32).toNatClampNeg) (vp_nar .byte (((p4.toUInt32 >>> ((24 : Int32).toUInt32 &&& Int32.toUInt32 31)).toInt32).toInt8.toInt32))) ((13 : Int32).toNatClampNeg) (vp_nar .byte (((p4.toUInt32 >>> ((16 : Int32).toUInt32 &&& Int32.toUInt32 31)).toInt32).toInt8.toInt32))) ((14 : Int32).toNatClampNeg) (vp_nar .byte (((p4.toUInt32 >>> ((8 : Int32).toUInt32 &&& Int32.toUInt32 31)).toInt32).toInt8.toInt32))) ((15 : Int32).toNatClampNeg) (vp_nar .byte (((p4.toUInt32 >>> ((0 : Int32).toUInt32 &&& Int32.toUInt32 31)).toInt32).toInt8.toInt32)))) (cwVA 1 htA wd_355 wd_352 wd_1 wd_354 wp_0 (by decide +kernel) ⟨by decide, by decide⟩) hP hD hS [0, 1] [] rfl rfl (by decide) 0 rfl rfl rfl rfl hl.1 rfl (Nat.le_of_ble_eq_true rfl) dX10_feed_39 (by decide) (fun W1 H locs hw hP hD hS => ?_)
  refine W.widen (k := 0) (n := 0) (by decide) (by decide) ?_
  obtain rfl := hw
  have hP : va_P D vwCl [((a 0), .inr (10, [.ref (a 1), .int 20, .int 0, .int (-1), .ref (a 2), .ref (a 3), .ref (a 4), .ref (a 5), .ref (a 6), .ref (a 7), .ref (a 8), .ref (a 9), .int 0])), ((a 1), .inl (cy 1, 900, .inl (upd (upd (upd (upd (upd (upd (upd (upd (upd (upd (upd (upd (upd (upd (upd (upd (upd (upd (upd (upd (fun _ => 0) ((0 : Int32).toNatClampNeg) (vp_nar .byte (((p1.toUInt32 >>> ((24 : Int32).toUInt32 &&& Int32.toUInt32 31)).toInt32).toInt8.toInt32))) ((1 : Int32).toNatClampNeg) (vp_nar .byte (((p1.toUInt32 >>> ((16 : Int32).toUInt32 &&& Int32.toUInt32 31)).toInt32).toInt8.toInt32))) ((2 : Int32).toNatClampNeg) (vp_nar .byte (((p1.toUInt32 >>> ((8 : Int32).toUInt32 &&& Int32.toUInt32 31)).toInt32).toInt8.toInt32))) ((3 : Int32).toNatClampNeg) (vp_nar .byte (((p1.toUInt32 >>> ((0 : Int32).toUInt32 &&& Int32.toUInt32 31)).toInt32).toInt8.toInt32))) ((4 : Int32).toNatClampNeg) (vp_nar .byte (((p2.toUInt32 >>> ((24 : Int32).toUInt32 &&& Int32.toUInt32 31)).toInt32).toInt8.toInt32))) ((5 : Int32).toNatClampNeg) (vp_nar .byte (((p2.toUInt32 >>> ((16 : Int32).toUInt32 &&& Int32.toUInt32 31)).toInt32).toInt8.toInt32))) ((6 : Int32).toNatClampNeg) (vp_nar .byte (((p2.toUInt32 >>> ((8 : Int32).toUInt32 &&& Int32.toUInt32 31)).toInt32).toInt8.toInt32))) ((7 : Int32).toNatClampNeg) (vp_nar .byte (((p2.toUInt32 >>> ((0 : Int32).toUInt32 &&& Int32.toUInt32 31)).toInt32).toInt8.toInt32))) ((8 : Int32).toNatClampNeg) (vp_nar .byte (((p3.toUInt32 >>> ((24 : Int32).toUInt32 &&& Int32.toUInt32 31)).toInt32).toInt8.toInt32))) ((9 : Int32).toNatClampNeg) (vp_nar .byte (((p3.toUInt32 >>> ((16 : Int32).toUInt32 &&& Int32.toUInt32 31)).toInt32).toInt8.toInt32))) ((10 : Int32).toNatClampNeg) (vp_nar .byte (((p3.toUInt32 >>> ((8 : Int32).toUInt32 &&& Int32.toUInt32 31)).toInt32).toInt8.toInt32))) ((11 : Int32).toNatClampNeg) (vp_nar .byte (((p3.toUInt32 >>> ((0 : Int32).toUInt32 &&& Int32.toUInt32 31)).toInt32).toInt8.toInt32))) ((12 : Int32).toNatClampNeg) (vp_nar .byte (((p4.toUInt32 >>> ((24 : Int32).toUInt32 &&& Int32.toUInt32 31)).toInt32).toInt8.toInt32))) ((13 : Int32).toNatClampNeg) (vp_nar .byte (((p4.toUInt32 >>> ((16 : Int32).toUInt32 &&& Int32.toUInt32 31)).toInt32).toInt8.toInt32))) ((14 : Int32).toNatClampNeg) (vp_nar .byte (((p4.toUInt32 >>> ((8 : Int32).toUInt32 &&& Int32.toUInt32 31)).toInt32).toInt8.toInt32))) ((15 : Int32).toNatClampNeg) (vp_nar .byte (((p4.toUInt32 >>> ((0 : Int32).toUInt32 &&& Int32.toUInt32 31)).toInt32).toInt8.toInt32))) ((16 : Int32).toNatClampNeg) (vp_nar .byte (((p5.toUInt32 >>> ((24 : Int32).toUInt32 &&& Int32.toUInt32 31)).toInt32).toInt8.toInt32))) ((17 : Int32).toNatClampNeg) (vp_nar .byte (((p5.toUInt32 >>> ((16 : Int32).toUInt32 &&& Int32.toUInt32 31)).toInt32).toInt8.toInt32))) ((18 : Int32).toNatClampNeg) (vp_nar .byte (((p5.toUInt32 >>> ((8 : Int32).toUInt32 &&& Int32.toUInt32 31)).toInt32).toInt8.toInt32))) ((19 : Int32).toNatClampNeg) (vp_nar .byte (((p5.toUInt32 >>> ((0 : Int32).toUInt32 &&& Int32.toUInt32 31)).toInt32).toInt8.toInt32)))))] H := hP
  have hD : va_D A [((a 0), .inr (10, [.ref (a 1), .int 20, .int 0, .int (-1), .ref (a 2), .ref (a 3), .ref (a 4), .ref (a 5), .ref (a 6), .ref (a 7), .ref (a 8), .ref (a 9), .int 0])), ((a 1), .inl (cy 1, 900, .inl (upd (upd (upd (upd (upd (upd (upd (upd (upd (upd (upd (upd (upd (upd (upd (upd (upd (upd (upd (upd (fun _ => 0) ((0 : Int32).toNatClampNeg) (vp_nar .byte (((p1.toUInt32 >>> ((24 : Int32).toUInt32 &&& Int32.toUInt32 31)).toInt32).toInt8.toInt32))) ((1 : Int32).toNatClampNeg) (vp_nar .byte (((p1.toUInt32 >>> ((16 : Int32).toUInt32 &&& Int32.toUInt32 31)).toInt32).toInt8.toInt32))) ((2 : Int32).toNatClampNeg) (vp_nar .byte (((p1.toUInt32 >>> ((8 : Int32).toUInt32 &&& Int32.toUInt32 31)).toInt32).toInt8.toInt32))) ((3 : Int32).toNatClampNeg) (vp_nar .byte (((p1.toUInt32 >>> ((0 : Int32).toUInt32 &&& Int32.toUInt32 31)).toInt32).toInt8.toInt32))) ((4 : Int32).toNatClampNeg) (vp_nar .byte (((p2.toUInt32 >>> ((24 : Int32).toUInt32 &&& Int32.toUInt32 31)).toInt32).toInt8.toInt32))) ((5 : Int32).toNatClampNeg) (vp_nar .byte (((p2.toUInt32 >>> ((16 : Int32).toUInt32 &&& Int32.toUInt32 31)).toInt32).toInt8.toInt32))) ((6 : Int32).toNatClampNeg) (vp_nar .byte (((p2.toUInt32 >>> ((8 : Int32).toUInt32 &&& Int32.toUInt32 31)).toInt32).toInt8.toInt32))) ((7 : Int32).toNatClampNeg) (vp_nar .byte (((p2.toUInt32 >>> ((0 : Int32).toUInt32 &&& Int32.toUInt32 31)).toInt32).toInt8.toInt32))) ((8 : Int32).toNatClampNeg) (vp_nar .byte (((p3.toUInt32 >>> ((24 : Int32).toUInt32 &&& Int32.toUInt32 31)).toInt32).toInt8.toInt32))) ((9 : Int32).toNatClampNeg) (vp_nar .byte (((p3.toUInt32 >>> ((16 : Int32).toUInt32 &&& Int32.toUInt32 31)).toInt32).toInt8.toInt32))) ((10 : Int32).toNatClampNeg) (vp_nar .byte (((p3.toUInt32 >>> ((8 : Int32).toUInt32 &&& Int32.toUInt32 31)).toInt32).toInt8.toInt32))) ((11 : Int32).toNatClampNeg) (vp_nar .byte (((p3.toUInt32 >>> ((0 : Int32).toUInt32 &&& Int32.toUInt32 31)).toInt32).toInt8.toInt32))) ((12 : Int32).toNatClampNeg) (vp_nar .byte (((p4.toUInt32 >>> ((24 : Int32).toUInt32 &&& Int32.toUInt32 31)).toInt32).toInt8.toInt32))) ((13 : Int32).toNatClampNeg) (vp_nar .byte (((p4.toUInt32 >>> ((16 : Int32).toUInt32 &&& Int32.toUInt32 31)).toInt32).toInt8.toInt32))) ((14 : Int32).toNatClampNeg) (vp_nar .byte (((p4.toUInt32 >>> ((8 : Int32).toUInt32 &&& Int32.toUInt32 31)).toInt32).toInt8.toInt32))) ((15 : Int32).toNatClampNeg) (vp_nar .byte (((p4.toUInt32 >>> ((0 : Int32).toUInt32 &&& Int32.toUInt32 31)).toInt32).toInt8.toInt32))) ((16 : Int32).toNatClampNeg) (vp_nar .byte (((p5.toUInt32 >>> ((24 : Int32).toUInt32 &&& Int32.toUInt32 31)).toInt32).toInt8.toInt32))) ((17 : Int32).toNatClampNeg) (vp_nar .byte (((p5.toUInt32 >>> ((16 : Int32).toUInt32 &&& Int32.toUInt32 31)).toInt32).toInt8.toInt32))) ((18 : Int32).toNatClampNeg) (vp_nar .byte (((p5.toUInt32 >>> ((8 : Int32).toUInt32 &&& Int32.toUInt32 31)).toInt32).toInt8.toInt32))) ((19 : Int32).toNatClampNeg) (vp_nar .byte (((p5.toUInt32 >>> ((0 : Int32).toUInt32 &&& Int32.toUInt32 31)).toInt32).toInt8.toInt32)))))] := hD
  refine lv_aload_n hx hb dX10_feed_42 rfl (lv_at hl 0 rfl) ?_
  refine va_get (ci := 10) (v := .int 20) (C := RX10) (T := TX10) (N := 13) hx hb htA in_X10 hown hK hP 0 rfl rfl 1 (by decide) (htA _ wd_309) (fun _ h => h) rfl dX10_feed_43 ?_
  exact rI hX hE hP hD hS dX10_feed_46 (by decide) (by decide) ((by first | rfl | decide | (unfold vi_feed; (repeat' split) <;> first | rfl | decide | (exfalso; omega))))
set_option maxHeartbeats 40000000 in
set_option maxRecDepth 100000 in
theorem m_shelter (l : Launch) (D : va_G) (cy : Nat → ClassId) (a : Nat → Nat) : Ci l yX10_shelter cX10_shelter 6 (some .int) { frames := 3, cells := 0, slots := 0, locals := 103 } D cy [.ref (a 0)] [((a 0), .inr (10, [.ref (a 1), .int 0, .int 0, .int (-1), .ref (a 2), .ref (a 3), .ref (a 4), .ref (a 5), .ref (a 6), .ref (a 7), .ref (a 8), .ref (a 9), .int 0])), ((a 3), .inr (6, [.ref (a 10), .int 0, .ref (a 21), .ref (a 22), .ref (a 23), .ref (a 24), .ref (a 25), .int 0])), ((a 21), .inl (cy 0, 8, .inl (fun _ => 0))), ((a 22), .inl (cy 0, 8, .inl (fun _ => 0))), ((a 23), .inl (cy 0, 8, .inl (fun _ => 0))), ((a 24), .inl (cy 0, 8, .inl (fun _ => 0))), ((a 25), .inl (cy 0, 4, .inl (fun _ => 0))), ((a 10), .inr (0, [.int 0, .int 1, .int 1, .int 0, .int 0, .ref (a 11), .ref (a 12), .ref (a 13), .null, .null])), ((a 5), .inr (1, [.ref (a 40), .int 0, .int 0, .ref (a 46), .ref (a 47)])), ((a 40), .inr (6, [.ref (a 10), .int 0, .ref (a 41), .ref (a 42), .ref (a 43), .ref (a 44), .ref (a 45), .int 0])), ((a 41), .inl (cy 0, 8, .inl (fun _ => 0))), ((a 42), .inl (cy 0, 8, .inl (fun _ => 0))), ((a 43), .inl (cy 0, 8, .inl (fun _ => 0))), ((a 44), .inl (cy 0, 8, .inl (fun _ => 0))), ((a 45), .inl (cy 0, 4, .inl (fun _ => 0)))] (fun r _ => r = vi_shelter) := by
  refine Ci.of (by decide) (Nat.le_of_ble_eq_true rfl) ?_
  intro p e s m below meth c A ls hX hE hP hD hl
  obtain ⟨hx, hb, hr, hml, hown, htA, hlk⟩ := id hX
  have hK := hE.1
  have hS : va_S A s.heap s.heap [] := va_S.rf
  have hl : lv_has ls 6 [(0, .ref (a 0))] := hl
  refine lv_aload_n hx hb dX10_shelter_0 rfl (lv_at hl 0 rfl) ?_
  refine va_get (ci := 10) (v := .ref (a 5)) (C := RX10) (T := TX10) (N := 13) hx hb htA in_X10 hown hK hP 0 rfl rfl 7 (by decide) (htA _ wd_315) (fun _ h => h) rfl dX10_shelter_1 ?_
  refine lv_aload_n hx hb dX10_shelter_4 rfl (lv_at hl 0 rfl) ?_
  refine va_get (ci := 10) (v := .ref (a 3)) (C := RX10) (T := TX10) (N := 13) hx hb htA in_X10 hown hK hP 0 rfl rfl 5 (by decide) (htA _ wd_313) (fun _ h => h) rfl dX10_shelter_5 ?_
  refine kVv (As := [.ref (a 3)]) (rest := []) (wr := [((a 0), .inr (10, [.ref (a 1), .int 0, .int 0, .int (-1), .ref (a 2), .ref (a 3), .ref (a 4), .ref (a 5), .ref (a 6), .ref (a 7), .ref (a 8), .ref (a 9), .int 0]))]) hX hE (au_X1_look_28 l D cy a) (cwVA 1 htA wd_488 wd_485 wd_8 wd_486 wd_487 (by decide +kernel) ⟨by decide, by decide⟩) hP hD hS [1, 2, 3, 4, 5, 6, 7, 8, 9, 10, 11, 12, 13, 14] [0] rfl rfl (by decide +kernel) 7 rfl rfl rfl rfl hl.1 rfl (Nat.le_of_ble_eq_true rfl) dX10_shelter_8 (by decide) (fun W1 H locs hw hP hD hS => ?_)
  refine W.widen (k := 0) (n := 0) (by decide) (by decide) ?_
  obtain rfl := hw
  have hP : va_P D vwCl [((a 0), .inr (10, [.ref (a 1), .int 0, .int 0, .int (-1), .ref (a 2), .ref (a 3), .ref (a 4), .ref (a 5), .ref (a 6), .ref (a 7), .ref (a 8), .ref (a 9), .int 0])), ((a 5), .inr (1, [.ref (a 40), .int 0, .int 0, .ref (a 46), .ref (a 47)])), ((a 3), .inr (6, [.ref (a 10), .int 0, .ref (a 21), .ref (a 22), .ref (a 23), .ref (a 24), .ref (a 25), .int 0])), ((a 21), .inl (cy 0, 8, .inl (fun _ => 0))), ((a 22), .inl (cy 0, 8, .inl (fun _ => 0))), ((a 23), .inl (cy 0, 8, .inl (fun _ => 0))), ((a 24), .inl (cy 0, 8, .inl (fun _ => 0))), ((a 25), .inl (cy 0, 4, .inl (fun _ => 0))), ((a 41), .inl (cy 0, 8, .inl (fun _ => 0))), ((a 42), .inl (cy 0, 8, .inl (fun _ => 0))), ((a 43), .inl (cy 0, 8, .inl (fun _ => 0))), ((a 44), .inl (cy 0, 8, .inl (fun _ => 0))), ((a 45), .inl (cy 0, 4, .inl (fun _ => 0))), ((a 10), .inr (0, [.int 0, .int 1, .int 1, .int 0, .int 0, .ref (a 11), .ref (a 12), .ref (a 13), .null, .null])), ((a 40), .inr (6, [.ref (a 10), .int 0, .ref (a 41), .ref (a 42), .ref (a 43), .ref (a 44), .ref (a 45), .int 0]))] H := hP
  have hD := va_ca hP hD
  refine lv_iconst (v := 0) hx hb dX10_shelter_11 (by decide) ?_
  refine lv_istore_n (lv' := [(1, .int 0), (0, .ref (a 0))]) hx hb dX10_shelter_12 rfl hl (by decide) rfl (fun ls hl => ?_)
  refine lv_iconst (v := (-1)) hx hb dX10_shelter_13 (by decide) ?_
  refine lv_istore_n (lv' := [(2, .int (-1)), (1, .int 0), (0, .ref (a 0))]) hx hb dX10_shelter_14 rfl hl (by decide) rfl (fun ls hl => ?_)
  refine lv_iconst (v := 0) hx hb dX10_shelter_15 (by decide) ?_
  refine lv_istore_n (lv' := [(3, .int 0), (2, .int (-1)), (1, .int 0), (0, .ref (a 0))]) hx hb dX10_shelter_16 rfl hl (by decide) rfl (fun ls hl => ?_)
  refine lv_iload_n hx hb dX10_shelter_17 rfl (lv_at hl 0 rfl) ?_
  refine lv_aload_n hx hb dX10_shelter_18 rfl (lv_at hl 3 rfl) ?_
  refine va_get (ci := 10) (v := .ref (a 3)) (C := RX10) (T := TX10) (N := 13) hx hb htA in_X10 hown hK hP 0 rfl rfl 5 (by decide) (htA _ wd_313) (fun _ h => h) rfl dX10_shelter_19 ?_
  refine va_get (ci := 6) (v := .ref (a 10)) (C := RX6) (T := TX6) (N := 8) hx hb htA in_X6 hown hK hP 2 rfl rfl 0 (by decide) (htA _ wd_168) (fun _ h => h) rfl dX10_shelter_22 ?_
  refine va_get (ci := 0) (v := .int 1) (C := RX0) (T := TX0) (N := 10) hx hb htA in_X0 hown hK hP 13 rfl rfl 1 (by decide) (htA _ wd_80) (fun _ h => h) rfl dX10_shelter_25 ?_
  refine lv_icmp_ge (tgt := 105) hx hb dX10_shelter_28 (by decide) (fun q => absurd q (by decide)) (fun _ => ?_)
  refine lv_bipush (v := 60) hx hb dX10_shelter_31 (by decide) ?_
  refine lv_istore (lv' := [(4, .int 60), (3, .int 0), (2, .int (-1)), (1, .int 0), (0, .ref (a 0))]) hx hb dX10_shelter_33 hl (by decide) rfl (fun ls hl => ?_)
  refine lv_iconst (v := 0) hx hb dX10_shelter_35 (by decide) ?_
  refine lv_istore (lv' := [(5, .int 0), (4, .int 60), (3, .int 0), (2, .int (-1)), (1, .int 0), (0, .ref (a 0))]) hx hb dX10_shelter_36 hl (by decide) rfl (fun ls hl => ?_)
  refine lv_iload hx hb dX10_shelter_38 (lv_at hl 0 rfl) ?_
  refine lv_aload_n hx hb dX10_shelter_40 rfl (lv_at hl 5 rfl) ?_
  refine va_get (ci := 10) (v := .ref (a 5)) (C := RX10) (T := TX10) (N := 13) hx hb htA in_X10 hown hK hP 0 rfl rfl 7 (by decide) (htA _ wd_315) (fun _ h => h) rfl dX10_shelter_41 ?_
  refine va_get (ci := 1) (v := .int 0) (C := RX1) (T := TX1) (N := 5) hx hb htA in_X1 hown hK hP 1 rfl rfl 2 (by decide) (htA _ wd_273) (fun _ h => h) rfl dX10_shelter_44 ?_
  refine lv_icmp_ge (tgt := 88) hx hb dX10_shelter_47 (by decide) (fun _ => ?_) (fun q => absurd (by decide) q)
  refine lv_iload hx hb dX10_shelter_88 (lv_at hl 1 rfl) ?_
  refine lv_iload_n hx hb dX10_shelter_90 rfl (lv_at hl 3 rfl) ?_
  refine lv_icmp_le (tgt := 99) hx hb dX10_shelter_91 (by decide) (fun q => absurd q (by decide)) (fun _ => ?_)
  refine lv_iload hx hb dX10_shelter_94 (lv_at hl 1 rfl) ?_
  refine lv_istore_n (lv' := [(2, .int 60), (5, .int 0), (4, .int 60), (3, .int 0), (1, .int 0), (0, .ref (a 0))]) hx hb dX10_shelter_96 rfl hl (by decide) rfl (fun ls hl => ?_)
  refine lv_iload_n hx hb dX10_shelter_97 rfl (lv_at hl 3 rfl) ?_
  refine lv_istore_n (lv' := [(1, .int 0), (2, .int 60), (5, .int 0), (4, .int 60), (3, .int 0), (0, .ref (a 0))]) hx hb dX10_shelter_98 rfl hl (by decide) rfl (fun ls hl => ?_)
  refine lv_iinc (v := 1) (lv' := [(3, .int 1), (1, .int 0), (2, .int 60), (5, .int 0), (4, .int 60), (0, .ref (a 0))]) hx hb dX10_shelter_99 hl (k := 4) rfl (by decide) (by decide) rfl (fun ls hl => ?_)
  refine lv_goto (tgt := 17) hx hb dX10_shelter_102 (by decide) ?_
  refine lv_iload_n hx hb dX10_shelter_17 rfl (lv_at hl 0 rfl) ?_
  refine lv_aload_n hx hb dX10_shelter_18 rfl (lv_at hl 5 rfl) ?_
  refine va_get (ci := 10) (v := .ref (a 3)) (C := RX10) (T := TX10) (N := 13) hx hb htA in_X10 hown hK hP 0 rfl rfl 5 (by decide) (htA _ wd_313) (fun _ h => h) rfl dX10_shelter_19 ?_
  refine va_get (ci := 6) (v := .ref (a 10)) (C := RX6) (T := TX6) (N := 8) hx hb htA in_X6 hown hK hP 2 rfl rfl 0 (by decide) (htA _ wd_168) (fun _ h => h) rfl dX10_shelter_22 ?_
  refine va_get (ci := 0) (v := .int 1) (C := RX0) (T := TX0) (N := 10) hx hb htA in_X0 hown hK hP 13 rfl rfl 1 (by decide) (htA _ wd_80) (fun _ h => h) rfl dX10_shelter_25 ?_
  refine lv_icmp_ge (tgt := 105) hx hb dX10_shelter_28 (by decide) (fun _ => ?_) (fun q => absurd (by decide) q)
  refine lv_iload_n hx hb dX10_shelter_105 rfl (lv_at hl 1 rfl) ?_
  exact rI hX hE hP hD hS dX10_shelter_106 (by decide) (by decide) ((by first | rfl | decide | (unfold vi_shelter; (repeat' split) <;> first | rfl | decide | (exfalso; omega))))
set_option maxHeartbeats 4000000 in
set_option maxRecDepth 100000 in
theorem au_X1_look_57 (l : Launch) (D : va_G) (cy : Nat → ClassId) (a : Nat → Nat) : Cv l yX1_look cX1_look 3 none { frames := 2, cells := 0, slots := 0, locals := 81 } D cy [.ref (a 5), .ref (a 3)] [((a 21), .inl (cy 0, 8, .inl (fun _ => 0))), ((a 22), .inl (cy 0, 8, .inl (fun _ => 0))), ((a 23), .inl (cy 0, 8, .inl (fun _ => 0))), ((a 24), .inl (cy 0, 8, .inl (fun _ => 0))), ((a 25), .inl (cy 0, 4, .inl (fun _ => 0))), ((a 5), .inr (1, [.ref (a 40), .int 0, .int 0, .ref (a 46), .ref (a 47)])), ((a 40), .inr (6, [.ref (a 10), .int 0, .ref (a 41), .ref (a 42), .ref (a 43), .ref (a 44), .ref (a 45), .int 0])), ((a 41), .inl (cy 0, 8, .inl (fun _ => 0))), ((a 42), .inl (cy 0, 8, .inl (fun _ => 0))), ((a 43), .inl (cy 0, 8, .inl (fun _ => 0))), ((a 44), .inl (cy 0, 8, .inl (fun _ => 0))), ((a 45), .inl (cy 0, 4, .inl (fun _ => 0))), ((a 3), .inr (6, [.ref (a 10), .int 0, .ref (a 21), .ref (a 22), .ref (a 23), .ref (a 24), .ref (a 25), .int 0])), ((a 10), .inr (0, [.int 0, .int 1, .int 1, .int 0, .int 0, .ref (a 11), .ref (a 12), .ref (a 13), .null, .null]))] (fun W1 => (W1 = [((a 5), .inr (1, [.ref (a 40), .int 0, .int 0, .ref (a 46), .ref (a 47)])), ((a 21), .inl (cy 0, 8, .inl (fun _ => 0))), ((a 22), .inl (cy 0, 8, .inl (fun _ => 0))), ((a 23), .inl (cy 0, 8, .inl (fun _ => 0))), ((a 24), .inl (cy 0, 8, .inl (fun _ => 0))), ((a 25), .inl (cy 0, 4, .inl (fun _ => 0))), ((a 41), .inl (cy 0, 8, .inl (fun _ => 0))), ((a 42), .inl (cy 0, 8, .inl (fun _ => 0))), ((a 43), .inl (cy 0, 8, .inl (fun _ => 0))), ((a 44), .inl (cy 0, 8, .inl (fun _ => 0))), ((a 45), .inl (cy 0, 4, .inl (fun _ => 0))), ((a 3), .inr (6, [.ref (a 10), .int 0, .ref (a 21), .ref (a 22), .ref (a 23), .ref (a 24), .ref (a 25), .int 0])), ((a 10), .inr (0, [.int 0, .int 1, .int 1, .int 0, .int 0, .ref (a 11), .ref (a 12), .ref (a 13), .null, .null])), ((a 40), .inr (6, [.ref (a 10), .int 0, .ref (a 41), .ref (a 42), .ref (a 43), .ref (a 44), .ref (a 45), .int 0]))])) := by
  refine Cv.of (by decide) (Nat.le_of_ble_eq_true rfl) ?_
  intro p e s m below meth c A ls hX hE hP hD hl hin
  obtain ⟨hx, hb, hr, hml, hown, htA, hlk⟩ := id hX
  have hK := hE.1
  have hS : va_S A s.heap s.heap [] := va_S.rf
  have hl : lv_has ls 3 [(0, .ref (a 5)), (1, .ref (a 3))] := hl
  refine lv_aload_n hx hb dX1_look_0 rfl (lv_at hl 0 rfl) ?_
  refine va_get (ci := 1) (v := .ref (a 40)) (C := RX1) (T := TX1) (N := 5) hx hb htA in_X1 hown hK hP 5 rfl rfl 0 (by decide) (htA _ wd_267) (fun _ h => h) rfl dX1_look_1 ?_
  refine lv_aload_n hx hb dX1_look_4 rfl (lv_at hl 1 rfl) ?_
  refine kVv (As := [.ref (a 3)]) (rest := []) (wr := [((a 5), .inr (1, [.ref (a 40), .int 0, .int 0, .ref (a 46), .ref (a 47)])), ((a 10), .inr (0, [.int 0, .int 1, .int 1, .int 0, .int 0, .ref (a 11), .ref (a 12), .ref (a 13), .null, .null]))]) hX hE (au_X6_copyFrom_31 l D cy a) (cwVA 1 htA wd_391 wd_489 wd_6 wd_389 wd_390 (by decide +kernel) ⟨by decide, by decide⟩) hP hD hS [0, 1, 2, 3, 4, 6, 7, 8, 9, 10, 11, 12] [5, 13] rfl rfl (by decide +kernel) 5 rfl rfl rfl rfl hl.1 rfl (Nat.le_of_ble_eq_true rfl) dX1_look_5 (by decide) (fun W1 H locs hw hP hD hS => ?_)
  refine W.widen (k := 0) (n := 0) (by decide) (by decide) ?_
  obtain rfl := hw
  have hP : va_P D vwCl [((a 5), .inr (1, [.ref (a 40), .int 0, .int 0, .ref (a 46), .ref (a 47)])), ((a 10), .inr (0, [.int 0, .int 1, .int 1, .int 0, .int 0, .ref (a 11), .ref (a 12), .ref (a 13), .null, .null])), ((a 21), .inl (cy 0, 8, .inl (fun _ => 0))), ((a 22), .inl (cy 0, 8, .inl (fun _ => 0))), ((a 23), .inl (cy 0, 8, .inl (fun _ => 0))), ((a 24), .inl (cy 0, 8, .inl (fun _ => 0))), ((a 25), .inl (cy 0, 4, .inl (fun _ => 0))), ((a 40), .inr (6, [.ref (a 10), .int 0, .ref (a 41), .ref (a 42), .ref (a 43), .ref (a 44), .ref (a 45), .int 0])), ((a 41), .inl (cy 0, 8, .inl (fun _ => 0))), ((a 42), .inl (cy 0, 8, .inl (fun _ => 0))), ((a 43), .inl (cy 0, 8, .inl (fun _ => 0))), ((a 44), .inl (cy 0, 8, .inl (fun _ => 0))), ((a 45), .inl (cy 0, 4, .inl (fun _ => 0))), ((a 3), .inr (6, [.ref (a 10), .int 0, .ref (a 21), .ref (a 22), .ref (a 23), .ref (a 24), .ref (a 25), .int 0]))] H := hP
  have hD := va_ca hP hD
  refine lv_aload_n hx hb dX1_look_8 rfl (lv_at hl 0 rfl) ?_
  refine lv_aload_n hx hb dX1_look_9 rfl (lv_at hl 1 rfl) ?_
  refine va_get (ci := 6) (v := .int 0) (C := RX6) (T := TX6) (N := 8) hx hb htA in_X6 hown hK hP 13 rfl rfl 1 (by decide) (htA _ wd_171) (fun _ h => h) rfl dX1_look_10 ?_
  refine va_put (ci := 1) (v := .int 0) (ty := .int) (C := RX1) (T := TX1) (N := 5) hx hb htA in_X1 tyX1 tyX1_ok nmX1 hown hK hP hD hS 0 rfl rfl 1 (by decide) (htA _ wd_270) (fun _ h => h) rfl (by decide +kernel) rfl rfl (Nat.le_of_ble_eq_true rfl) dX1_look_13 (fun H locs hP hD hS => ?_)
  have hP : va_P D vwCl [((a 5), .inr (1, [.ref (a 40), .int 0, .int 0, .ref (a 46), .ref (a 47)])), ((a 10), .inr (0, [.int 0, .int 1, .int 1, .int 0, .int 0, .ref (a 11), .ref (a 12), .ref (a 13), .null, .null])), ((a 21), .inl (cy 0, 8, .inl (fun _ => 0))), ((a 22), .inl (cy 0, 8, .inl (fun _ => 0))), ((a 23), .inl (cy 0, 8, .inl (fun _ => 0))), ((a 24), .inl (cy 0, 8, .inl (fun _ => 0))), ((a 25), .inl (cy 0, 4, .inl (fun _ => 0))), ((a 40), .inr (6, [.ref (a 10), .int 0, .ref (a 41), .ref (a 42), .ref (a 43), .ref (a 44), .ref (a 45), .int 0])), ((a 41), .inl (cy 0, 8, .inl (fun _ => 0))), ((a 42), .inl (cy 0, 8, .inl (fun _ => 0))), ((a 43), .inl (cy 0, 8, .inl (fun _ => 0))), ((a 44), .inl (cy 0, 8, .inl (fun _ => 0))), ((a 45), .inl (cy 0, 4, .inl (fun _ => 0))), ((a 3), .inr (6, [.ref (a 10), .int 0, .ref (a 21), .ref (a 22), .ref (a 23), .ref (a 24), .ref (a 25), .int 0]))] H := hP
  have hD := va_ca hP hD
  refine lv_aload_n hx hb dX1_look_16 rfl (lv_at hl 0 rfl) ?_
  refine lv_iconst (v := 0) hx hb dX1_look_17 (by decide) ?_
  refine va_put (ci := 1) (v := .int 0) (ty := .int) (C := RX1) (T := TX1) (N := 5) hx hb htA in_X1 tyX1 tyX1_ok nmX1 hown hK hP hD hS 0 rfl rfl 2 (by decide) (htA _ wd_271) (fun _ h => h) rfl (by decide +kernel) rfl rfl (Nat.le_of_ble_eq_true rfl) dX1_look_18 (fun H locs hP hD hS => ?_)
  have hP : va_P D vwCl [((a 5), .inr (1, [.ref (a 40), .int 0, .int 0, .ref (a 46), .ref (a 47)])), ((a 10), .inr (0, [.int 0, .int 1, .int 1, .int 0, .int 0, .ref (a 11), .ref (a 12), .ref (a 13), .null, .null])), ((a 21), .inl (cy 0, 8, .inl (fun _ => 0))), ((a 22), .inl (cy 0, 8, .inl (fun _ => 0))), ((a 23), .inl (cy 0, 8, .inl (fun _ => 0))), ((a 24), .inl (cy 0, 8, .inl (fun _ => 0))), ((a 25), .inl (cy 0, 4, .inl (fun _ => 0))), ((a 40), .inr (6, [.ref (a 10), .int 0, .ref (a 41), .ref (a 42), .ref (a 43), .ref (a 44), .ref (a 45), .int 0])), ((a 41), .inl (cy 0, 8, .inl (fun _ => 0))), ((a 42), .inl (cy 0, 8, .inl (fun _ => 0))), ((a 43), .inl (cy 0, 8, .inl (fun _ => 0))), ((a 44), .inl (cy 0, 8, .inl (fun _ => 0))), ((a 45), .inl (cy 0, 4, .inl (fun _ => 0))), ((a 3), .inr (6, [.ref (a 10), .int 0, .ref (a 21), .ref (a 22), .ref (a 23), .ref (a 24), .ref (a 25), .int 0]))] H := hP
  have hD := va_ca hP hD
  refine lv_iconst (v := 0) hx hb dX1_look_21 (by decide) ?_
  refine lv_istore_n (lv' := [(2, .int 0), (0, .ref (a 5)), (1, .ref (a 3))]) hx hb dX1_look_22 rfl hl (by decide) rfl (fun ls hl => ?_)
  refine lv_iload_n hx hb dX1_look_23 rfl (lv_at hl 0 rfl) ?_
  refine lv_bipush (v := 8) hx hb dX1_look_24 (by decide) ?_
  refine lv_icmp_ge (tgt := 88) hx hb dX1_look_26 (by decide) (fun q => absurd q (by decide)) (fun _ => ?_)
  refine lv_aload_n hx hb dX1_look_29 rfl (lv_at hl 1 rfl) ?_
  refine va_get (ci := 1) (v := .ref (a 40)) (C := RX1) (T := TX1) (N := 5) hx hb htA in_X1 hown hK hP 0 rfl rfl 0 (by decide) (htA _ wd_267) (fun _ h => h) rfl dX1_look_30 ?_
  refine lv_ldc hx hb hown (htA _ wd_490) dX1_look_33 ?_
  refine kVi (As := [.int 2147483647]) (rest := []) (wr := [((a 5), .inr (1, [.ref (a 40), .int 0, .int 0, .ref (a 46), .ref (a 47)])), ((a 21), .inl (cy 0, 8, .inl (fun _ => 0))), ((a 22), .inl (cy 0, 8, .inl (fun _ => 0))), ((a 23), .inl (cy 0, 8, .inl (fun _ => 0))), ((a 24), .inl (cy 0, 8, .inl (fun _ => 0))), ((a 25), .inl (cy 0, 4, .inl (fun _ => 0))), ((a 41), .inl (cy 0, 8, .inl (fun _ => 0))), ((a 42), .inl (cy 0, 8, .inl (fun _ => 0))), ((a 43), .inl (cy 0, 8, .inl (fun _ => 0))), ((a 44), .inl (cy 0, 8, .inl (fun _ => 0))), ((a 45), .inl (cy 0, 4, .inl (fun _ => 0))), ((a 3), .inr (6, [.ref (a 10), .int 0, .ref (a 21), .ref (a 22), .ref (a 23), .ref (a 24), .ref (a 25), .int 0]))]) hX hE (au_X6_nextFall_27 l D cy a) (cwVA 1 htA wd_494 wd_491 wd_6 wd_492 wd_493 (by decide +kernel) ⟨by decide, by decide⟩) hP hD hS [1, 7] [0, 2, 3, 4, 5, 6, 8, 9, 10, 11, 12, 13] rfl rfl (by decide +kernel) 1 rfl rfl rfl rfl hl.1 rfl (Nat.le_of_ble_eq_true rfl) dX1_look_35 (by decide) (fun r_ W1 H locs hw hP hD hS => ?_)
  refine W.widen (k := 0) (n := 0) (by decide) (by decide) ?_
  obtain ⟨rfl, rfl⟩ := hw
  have hP : va_P D vwCl [((a 5), .inr (1, [.ref (a 40), .int 0, .int 0, .ref (a 46), .ref (a 47)])), ((a 21), .inl (cy 0, 8, .inl (fun _ => 0))), ((a 22), .inl (cy 0, 8, .inl (fun _ => 0))), ((a 23), .inl (cy 0, 8, .inl (fun _ => 0))), ((a 24), .inl (cy 0, 8, .inl (fun _ => 0))), ((a 25), .inl (cy 0, 4, .inl (fun _ => 0))), ((a 41), .inl (cy 0, 8, .inl (fun _ => 0))), ((a 42), .inl (cy 0, 8, .inl (fun _ => 0))), ((a 43), .inl (cy 0, 8, .inl (fun _ => 0))), ((a 44), .inl (cy 0, 8, .inl (fun _ => 0))), ((a 45), .inl (cy 0, 4, .inl (fun _ => 0))), ((a 3), .inr (6, [.ref (a 10), .int 0, .ref (a 21), .ref (a 22), .ref (a 23), .ref (a 24), .ref (a 25), .int 0])), ((a 10), .inr (0, [.int 0, .int 1, .int 1, .int 0, .int 0, .ref (a 11), .ref (a 12), .ref (a 13), .null, .null])), ((a 40), .inr (6, [.ref (a 10), .int 0, .ref (a 41), .ref (a 42), .ref (a 43), .ref (a 44), .ref (a 45), .int 0]))] H := hP
  have hD := va_ca hP hD
  refine lv_if_ne (tgt := 44) hx hb dX1_look_38 (by decide) (fun q => absurd rfl q) (fun _ => ?_)
  refine lv_goto (tgt := 88) hx hb dX1_look_41 (by decide) ?_
  exact rV hX hE hP hD hS dX1_look_88 (by decide) (by decide) (rfl)
set_option maxHeartbeats 4000000 in
set_option maxRecDepth 100000 in
theorem au_X9_near_58 (l : Launch) (D : va_G) (cy : Nat → ClassId) (a : Nat → Nat) : Ci l yX9_near cX9_near 2 (some .int) { frames := 0, cells := 0, slots := 0, locals := 0 } D cy [.ref (a 6), .int 1] [((a 6), .inr (9, [.int 1, .ref (a 51), .ref (a 52), .ref (a 53), .ref (a 54), .ref (a 55)]))] (fun r W1 => (W1 = [((a 6), .inr (9, [.int 1, .ref (a 51), .ref (a 52), .ref (a 53), .ref (a 54), .ref (a 55)]))] ∧ r = 1)) := by
  refine Ci.of (by decide) (Nat.le_of_ble_eq_true rfl) ?_
  intro p e s m below meth c A ls hX hE hP hD hl
  obtain ⟨hx, hb, hr, hml, hown, htA, hlk⟩ := id hX
  have hK := hE.1
  have hS : va_S A s.heap s.heap [] := va_S.rf
  have hl : lv_has ls 2 [(0, .ref (a 6)), (1, .int 1)] := hl
  refine lv_iload_n hx hb dX9_near_0 rfl (lv_at hl 1 rfl) ?_
  refine lv_iload_n hx hb dX9_near_1 rfl (lv_at hl 1 rfl) ?_
  refine lv_iconst (v := 1) hx hb dX9_near_2 (by decide) ?_
  refine lv_ishl hx hb dX9_near_3 ?_
  refine lv_topi (fun x1 ex1 => ?_)
  obtain rfl : x1 = 2 := ex1.trans (by decide)
  refine lv_ior hx hb dX9_near_4 ?_
  refine lv_topi (fun x2 ex2 => ?_)
  obtain rfl : x2 = 3 := ex2.trans (by decide)
  refine lv_iload_n hx hb dX9_near_5 rfl (lv_at hl 1 rfl) ?_
  refine lv_iconst (v := 1) hx hb dX9_near_6 (by decide) ?_
  refine lv_ishr hx hb dX9_near_7 ?_
  refine lv_topi (fun x3 ex3 => ?_)
  obtain rfl : x3 = 0 := ex3.trans (by decide)
  refine lv_ior hx hb dX9_near_8 ?_
  refine lv_topi (fun x4 ex4 => ?_)
  obtain rfl : x4 = 3 := ex4.trans (by decide)
  refine lv_aload_n hx hb dX9_near_9 rfl (lv_at hl 0 rfl) ?_
  refine va_get (ci := 9) (v := .int 1) (C := RX9) (T := TX9) (N := 6) hx hb htA in_X9 hown hK hP 0 rfl rfl 0 (by decide) (htA _ wd_42) (fun _ h => h) rfl dX9_near_10 ?_
  refine lv_iand hx hb dX9_near_13 ?_
  refine lv_topi (fun x5 ex5 => ?_)
  obtain rfl : x5 = 1 := ex5.trans (by decide)
  exact rI hX hE hP hD hS dX9_near_14 (by decide) (by decide) (⟨rfl, rfl⟩)
set_option maxHeartbeats 4000000 in
set_option maxRecDepth 100000 in
theorem au_X9_look_59 (l : Launch) (D : va_G) (cy : Nat → ClassId) (a : Nat → Nat) : Cv l yX9_look cX9_look 7 none { frames := 1, cells := 0, slots := 0, locals := 21 } D cy [.ref (a 6), .ref (a 5), .int 0] [((a 6), .inr (9, [.int 0, .ref (a 51), .ref (a 52), .ref (a 53), .ref (a 54), .ref (a 55)])), ((a 51), .inl (cy 0, 61, .inl (fun _ => 0))), ((a 52), .inl (cy 0, 61, .inl (fun _ => 0))), ((a 5), .inr (1, [.ref (a 40), .int 0, .int 0, .ref (a 46), .ref (a 47)])), ((a 10), .inr (0, [.int 0, .int 1, .int 1, .int 0, .int 0, .ref (a 11), .ref (a 12), .ref (a 13), .null, .null])), ((a 40), .inr (6, [.ref (a 10), .int 0, .ref (a 41), .ref (a 42), .ref (a 43), .ref (a 44), .ref (a 45), .int 0]))] (fun W1 => (W1 = [((a 51), .inl (cy 0, 61, .inl (fun _ => 0))), ((a 52), .inl (cy 0, 61, .inl (rc 61))), ((a 5), .inr (1, [.ref (a 40), .int 0, .int 0, .ref (a 46), .ref (a 47)])), ((a 10), .inr (0, [.int 0, .int 1, .int 1, .int 0, .int 0, .ref (a 11), .ref (a 12), .ref (a 13), .null, .null])), ((a 40), .inr (6, [.ref (a 10), .int 0, .ref (a 41), .ref (a 42), .ref (a 43), .ref (a 44), .ref (a 45), .int 0])), ((a 6), .inr (9, [.int 1, .ref (a 51), .ref (a 52), .ref (a 53), .ref (a 54), .ref (a 55)]))])) := by
  refine Cv.of (by decide) (Nat.le_of_ble_eq_true rfl) ?_
  intro p e s m below meth c A ls hX hE hP hD hl hin
  obtain ⟨hx, hb, hr, hml, hown, htA, hlk⟩ := id hX
  have hK := hE.1
  have hS : va_S A s.heap s.heap [] := va_S.rf
  have hl : lv_has ls 7 [(0, .ref (a 6)), (1, .ref (a 5)), (2, .int 0)] := hl
  refine lv_aload_n hx hb dX9_look_0 rfl (lv_at hl 1 rfl) ?_
  refine va_get (ci := 1) (v := .ref (a 40)) (C := RX1) (T := TX1) (N := 5) hx hb htA in_X1 hown hK hP 3 rfl rfl 0 (by decide) (htA _ wd_268) (fun _ h => h) rfl dX9_look_1 ?_
  refine va_get (ci := 6) (v := .ref (a 10)) (C := RX6) (T := TX6) (N := 8) hx hb htA in_X6 hown hK hP 5 rfl rfl 0 (by decide) (htA _ wd_167) (fun _ h => h) rfl dX9_look_4 ?_
  refine va_get (ci := 0) (v := .int 1) (C := RX0) (T := TX0) (N := 10) hx hb htA in_X0 hown hK hP 4 rfl rfl 1 (by decide) (htA _ wd_78) (fun _ h => h) rfl dX9_look_7 ?_
  refine lv_istore_n (lv' := [(3, .int 1), (0, .ref (a 6)), (1, .ref (a 5)), (2, .int 0)]) hx hb dX9_look_10 rfl hl (by decide) rfl (fun ls hl => ?_)
  refine lv_aload_n hx hb dX9_look_11 rfl (lv_at hl 1 rfl) ?_
  refine lv_iconst (v := 1) hx hb dX9_look_12 (by decide) ?_
  refine lv_iload_n hx hb dX9_look_13 rfl (lv_at hl 0 rfl) ?_
  refine lv_ishl hx hb dX9_look_14 ?_
  refine lv_topi (fun x1 ex1 => ?_)
  obtain rfl : x1 = 2 := ex1.trans (by decide)
  refine lv_iconst (v := 1) hx hb dX9_look_15 (by decide) ?_
  refine lv_isub hx hb dX9_look_16 ?_
  refine lv_topi (fun x2 ex2 => ?_)
  obtain rfl : x2 = 1 := ex2.trans (by decide)
  refine va_put (ci := 9) (v := .int 1) (ty := .int) (C := RX9) (T := TX9) (N := 6) hx hb htA in_X9 tyX9 tyX9_ok nmX9 hown hK hP hD hS 0 rfl rfl 0 (by decide) (htA _ wd_42) (fun _ h => h) rfl (by decide +kernel) rfl rfl (Nat.le_of_ble_eq_true rfl) dX9_look_17 (fun H locs hP hD hS => ?_)
  have hP : va_P D vwCl [((a 6), .inr (9, [.int 1, .ref (a 51), .ref (a 52), .ref (a 53), .ref (a 54), .ref (a 55)])), ((a 51), .inl (cy 0, 61, .inl (fun _ => 0))), ((a 52), .inl (cy 0, 61, .inl (fun _ => 0))), ((a 5), .inr (1, [.ref (a 40), .int 0, .int 0, .ref (a 46), .ref (a 47)])), ((a 10), .inr (0, [.int 0, .int 1, .int 1, .int 0, .int 0, .ref (a 11), .ref (a 12), .ref (a 13), .null, .null])), ((a 40), .inr (6, [.ref (a 10), .int 0, .ref (a 41), .ref (a 42), .ref (a 43), .ref (a 44), .ref (a 45), .int 0]))] H := hP
  have hD := va_ca hP hD
  refine lv_iconst (v := 0) hx hb dX9_look_20 (by decide) ?_
  refine lv_istore (lv' := [(4, .int 0), (3, .int 1), (0, .ref (a 6)), (1, .ref (a 5)), (2, .int 0)]) hx hb dX9_look_21 hl (by decide) rfl (fun ls hl => ?_)
  refine lv_iload hx hb dX9_look_23 (lv_at hl 0 rfl) ?_
  refine lv_bipush (v := 60) hx hb dX9_look_25 (by decide) ?_
  refine lv_icmp_gt (tgt := 44) hx hb dX9_look_27 (by decide) (fun q => absurd q (by decide)) (fun _ => ?_)
  refine lv_aload_n hx hb dX9_look_30 rfl (lv_at hl 2 rfl) ?_
  refine va_get (ci := 9) (v := .ref (a 51)) (C := RX9) (T := TX9) (N := 6) hx hb htA in_X9 hown hK hP 0 rfl rfl 1 (by decide) (htA _ wd_43) (fun _ h => h) rfl dX9_look_31 ?_
  refine lv_iload hx hb dX9_look_34 (lv_at hl 0 rfl) ?_
  refine lv_iconst (v := 0) hx hb dX9_look_36 (by decide) ?_
  refine va_iast hx hb hK hP hD hS 1 0 rfl rfl (in_lit (by decide)) dX9_look_37 (fun H locs hP hD hS => ?_)
  rw [fa_upd_same (f := fun _ => 0) (i := (0 : Int32).toNatClampNeg) (x := 0) (by first | decide | rfl)] at hP hD
  have hP : va_P D vwCl [((a 6), .inr (9, [.int 1, .ref (a 51), .ref (a 52), .ref (a 53), .ref (a 54), .ref (a 55)])), ((a 51), .inl (cy 0, 61, .inl (fun _ => 0))), ((a 52), .inl (cy 0, 61, .inl (fun _ => 0))), ((a 5), .inr (1, [.ref (a 40), .int 0, .int 0, .ref (a 46), .ref (a 47)])), ((a 10), .inr (0, [.int 0, .int 1, .int 1, .int 0, .int 0, .ref (a 11), .ref (a 12), .ref (a 13), .null, .null])), ((a 40), .inr (6, [.ref (a 10), .int 0, .ref (a 41), .ref (a 42), .ref (a 43), .ref (a 44), .ref (a 45), .int 0]))] H := hP
  have hD := va_ca hP hD
  refine lv_iinc (v := 1) (lv' := [(4, .int 1), (3, .int 1), (0, .ref (a 6)), (1, .ref (a 5)), (2, .int 0)]) hx hb dX9_look_38 hl (k := 0) rfl (by decide) (by decide) rfl (fun ls hl => ?_)
  refine lv_goto (tgt := 23) hx hb dX9_look_41 (by decide) ?_
  refine lv_iload hx hb dX9_look_23 (lv_at hl 0 rfl) ?_
  refine lv_bipush (v := 60) hx hb dX9_look_25 (by decide) ?_
  refine lv_icmp_gt (tgt := 44) hx hb dX9_look_27 (by decide) (fun q => absurd q (by decide)) (fun _ => ?_)
  refine lv_aload_n hx hb dX9_look_30 rfl (lv_at hl 2 rfl) ?_
  refine va_get (ci := 9) (v := .ref (a 51)) (C := RX9) (T := TX9) (N := 6) hx hb htA in_X9 hown hK hP 0 rfl rfl 1 (by decide) (htA _ wd_43) (fun _ h => h) rfl dX9_look_31 ?_
  refine lv_iload hx hb dX9_look_34 (lv_at hl 0 rfl) ?_
  refine lv_iconst (v := 0) hx hb dX9_look_36 (by decide) ?_
  refine va_iast hx hb hK hP hD hS 1 0 rfl rfl (in_lit (by decide)) dX9_look_37 (fun H locs hP hD hS => ?_)
  rw [fa_upd_same (f := fun _ => 0) (i := (1 : Int32).toNatClampNeg) (x := 0) (by first | decide | rfl)] at hP hD
  have hP : va_P D vwCl [((a 6), .inr (9, [.int 1, .ref (a 51), .ref (a 52), .ref (a 53), .ref (a 54), .ref (a 55)])), ((a 51), .inl (cy 0, 61, .inl (fun _ => 0))), ((a 52), .inl (cy 0, 61, .inl (fun _ => 0))), ((a 5), .inr (1, [.ref (a 40), .int 0, .int 0, .ref (a 46), .ref (a 47)])), ((a 10), .inr (0, [.int 0, .int 1, .int 1, .int 0, .int 0, .ref (a 11), .ref (a 12), .ref (a 13), .null, .null])), ((a 40), .inr (6, [.ref (a 10), .int 0, .ref (a 41), .ref (a 42), .ref (a 43), .ref (a 44), .ref (a 45), .int 0]))] H := hP
  have hD := va_ca hP hD
  refine lv_iinc (v := 2) (lv' := [(4, .int 2), (3, .int 1), (0, .ref (a 6)), (1, .ref (a 5)), (2, .int 0)]) hx hb dX9_look_38 hl (k := 0) rfl (by decide) (by decide) rfl (fun ls hl => ?_)
  refine lv_goto (tgt := 23) hx hb dX9_look_41 (by decide) ?_
  refine lv_iload hx hb dX9_look_23 (lv_at hl 0 rfl) ?_
  refine lv_bipush (v := 60) hx hb dX9_look_25 (by decide) ?_
  refine lv_icmp_gt (tgt := 44) hx hb dX9_look_27 (by decide) (fun q => absurd q (by decide)) (fun _ => ?_)
  refine lv_aload_n hx hb dX9_look_30 rfl (lv_at hl 2 rfl) ?_
  refine va_get (ci := 9) (v := .ref (a 51)) (C := RX9) (T := TX9) (N := 6) hx hb htA in_X9 hown hK hP 0 rfl rfl 1 (by decide) (htA _ wd_43) (fun _ h => h) rfl dX9_look_31 ?_
  refine lv_iload hx hb dX9_look_34 (lv_at hl 0 rfl) ?_
  refine lv_iconst (v := 0) hx hb dX9_look_36 (by decide) ?_
  refine va_iast hx hb hK hP hD hS 1 0 rfl rfl (in_lit (by decide)) dX9_look_37 (fun H locs hP hD hS => ?_)
  rw [fa_upd_same (f := fun _ => 0) (i := (2 : Int32).toNatClampNeg) (x := 0) (by first | decide | rfl)] at hP hD
  have hP : va_P D vwCl [((a 6), .inr (9, [.int 1, .ref (a 51), .ref (a 52), .ref (a 53), .ref (a 54), .ref (a 55)])), ((a 51), .inl (cy 0, 61, .inl (fun _ => 0))), ((a 52), .inl (cy 0, 61, .inl (fun _ => 0))), ((a 5), .inr (1, [.ref (a 40), .int 0, .int 0, .ref (a 46), .ref (a 47)])), ((a 10), .inr (0, [.int 0, .int 1, .int 1, .int 0, .int 0, .ref (a 11), .ref (a 12), .ref (a 13), .null, .null])), ((a 40), .inr (6, [.ref (a 10), .int 0, .ref (a 41), .ref (a 42), .ref (a 43), .ref (a 44), .ref (a 45), .int 0]))] H := hP
  have hD := va_ca hP hD
  refine lv_iinc (v := 3) (lv' := [(4, .int 3), (3, .int 1), (0, .ref (a 6)), (1, .ref (a 5)), (2, .int 0)]) hx hb dX9_look_38 hl (k := 0) rfl (by decide) (by decide) rfl (fun ls hl => ?_)
  refine lv_goto (tgt := 23) hx hb dX9_look_41 (by decide) ?_
  refine lv_iload hx hb dX9_look_23 (lv_at hl 0 rfl) ?_
  refine lv_bipush (v := 60) hx hb dX9_look_25 (by decide) ?_
  refine lv_icmp_gt (tgt := 44) hx hb dX9_look_27 (by decide) (fun q => absurd q (by decide)) (fun _ => ?_)
  refine lv_aload_n hx hb dX9_look_30 rfl (lv_at hl 2 rfl) ?_
  refine va_get (ci := 9) (v := .ref (a 51)) (C := RX9) (T := TX9) (N := 6) hx hb htA in_X9 hown hK hP 0 rfl rfl 1 (by decide) (htA _ wd_43) (fun _ h => h) rfl dX9_look_31 ?_
  refine lv_iload hx hb dX9_look_34 (lv_at hl 0 rfl) ?_
  refine lv_iconst (v := 0) hx hb dX9_look_36 (by decide) ?_
  refine va_iast hx hb hK hP hD hS 1 0 rfl rfl (in_lit (by decide)) dX9_look_37 (fun H locs hP hD hS => ?_)
  rw [fa_upd_same (f := fun _ => 0) (i := (3 : Int32).toNatClampNeg) (x := 0) (by first | decide | rfl)] at hP hD
  have hP : va_P D vwCl [((a 6), .inr (9, [.int 1, .ref (a 51), .ref (a 52), .ref (a 53), .ref (a 54), .ref (a 55)])), ((a 51), .inl (cy 0, 61, .inl (fun _ => 0))), ((a 52), .inl (cy 0, 61, .inl (fun _ => 0))), ((a 5), .inr (1, [.ref (a 40), .int 0, .int 0, .ref (a 46), .ref (a 47)])), ((a 10), .inr (0, [.int 0, .int 1, .int 1, .int 0, .int 0, .ref (a 11), .ref (a 12), .ref (a 13), .null, .null])), ((a 40), .inr (6, [.ref (a 10), .int 0, .ref (a 41), .ref (a 42), .ref (a 43), .ref (a 44), .ref (a 45), .int 0]))] H := hP
  have hD := va_ca hP hD
  refine lv_iinc (v := 4) (lv' := [(4, .int 4), (3, .int 1), (0, .ref (a 6)), (1, .ref (a 5)), (2, .int 0)]) hx hb dX9_look_38 hl (k := 0) rfl (by decide) (by decide) rfl (fun ls hl => ?_)
  refine lv_goto (tgt := 23) hx hb dX9_look_41 (by decide) ?_
  refine lv_iload hx hb dX9_look_23 (lv_at hl 0 rfl) ?_
  refine lv_bipush (v := 60) hx hb dX9_look_25 (by decide) ?_
  refine lv_icmp_gt (tgt := 44) hx hb dX9_look_27 (by decide) (fun q => absurd q (by decide)) (fun _ => ?_)
  refine lv_aload_n hx hb dX9_look_30 rfl (lv_at hl 2 rfl) ?_
  refine va_get (ci := 9) (v := .ref (a 51)) (C := RX9) (T := TX9) (N := 6) hx hb htA in_X9 hown hK hP 0 rfl rfl 1 (by decide) (htA _ wd_43) (fun _ h => h) rfl dX9_look_31 ?_
  refine lv_iload hx hb dX9_look_34 (lv_at hl 0 rfl) ?_
  refine lv_iconst (v := 0) hx hb dX9_look_36 (by decide) ?_
  refine va_iast hx hb hK hP hD hS 1 0 rfl rfl (in_lit (by decide)) dX9_look_37 (fun H locs hP hD hS => ?_)
  rw [fa_upd_same (f := fun _ => 0) (i := (4 : Int32).toNatClampNeg) (x := 0) (by first | decide | rfl)] at hP hD
  have hP : va_P D vwCl [((a 6), .inr (9, [.int 1, .ref (a 51), .ref (a 52), .ref (a 53), .ref (a 54), .ref (a 55)])), ((a 51), .inl (cy 0, 61, .inl (fun _ => 0))), ((a 52), .inl (cy 0, 61, .inl (fun _ => 0))), ((a 5), .inr (1, [.ref (a 40), .int 0, .int 0, .ref (a 46), .ref (a 47)])), ((a 10), .inr (0, [.int 0, .int 1, .int 1, .int 0, .int 0, .ref (a 11), .ref (a 12), .ref (a 13), .null, .null])), ((a 40), .inr (6, [.ref (a 10), .int 0, .ref (a 41), .ref (a 42), .ref (a 43), .ref (a 44), .ref (a 45), .int 0]))] H := hP
  have hD := va_ca hP hD
  refine lv_iinc (v := 5) (lv' := [(4, .int 5), (3, .int 1), (0, .ref (a 6)), (1, .ref (a 5)), (2, .int 0)]) hx hb dX9_look_38 hl (k := 0) rfl (by decide) (by decide) rfl (fun ls hl => ?_)
  refine lv_goto (tgt := 23) hx hb dX9_look_41 (by decide) ?_
  refine lv_iload hx hb dX9_look_23 (lv_at hl 0 rfl) ?_
  refine lv_bipush (v := 60) hx hb dX9_look_25 (by decide) ?_
  refine lv_icmp_gt (tgt := 44) hx hb dX9_look_27 (by decide) (fun q => absurd q (by decide)) (fun _ => ?_)
  refine lv_aload_n hx hb dX9_look_30 rfl (lv_at hl 2 rfl) ?_
  refine va_get (ci := 9) (v := .ref (a 51)) (C := RX9) (T := TX9) (N := 6) hx hb htA in_X9 hown hK hP 0 rfl rfl 1 (by decide) (htA _ wd_43) (fun _ h => h) rfl dX9_look_31 ?_
  refine lv_iload hx hb dX9_look_34 (lv_at hl 0 rfl) ?_
  refine lv_iconst (v := 0) hx hb dX9_look_36 (by decide) ?_
  refine va_iast hx hb hK hP hD hS 1 0 rfl rfl (in_lit (by decide)) dX9_look_37 (fun H locs hP hD hS => ?_)
  rw [fa_upd_same (f := fun _ => 0) (i := (5 : Int32).toNatClampNeg) (x := 0) (by first | decide | rfl)] at hP hD
  have hP : va_P D vwCl [((a 6), .inr (9, [.int 1, .ref (a 51), .ref (a 52), .ref (a 53), .ref (a 54), .ref (a 55)])), ((a 51), .inl (cy 0, 61, .inl (fun _ => 0))), ((a 52), .inl (cy 0, 61, .inl (fun _ => 0))), ((a 5), .inr (1, [.ref (a 40), .int 0, .int 0, .ref (a 46), .ref (a 47)])), ((a 10), .inr (0, [.int 0, .int 1, .int 1, .int 0, .int 0, .ref (a 11), .ref (a 12), .ref (a 13), .null, .null])), ((a 40), .inr (6, [.ref (a 10), .int 0, .ref (a 41), .ref (a 42), .ref (a 43), .ref (a 44), .ref (a 45), .int 0]))] H := hP
  have hD := va_ca hP hD
  refine lv_iinc (v := 6) (lv' := [(4, .int 6), (3, .int 1), (0, .ref (a 6)), (1, .ref (a 5)), (2, .int 0)]) hx hb dX9_look_38 hl (k := 0) rfl (by decide) (by decide) rfl (fun ls hl => ?_)
  refine lv_goto (tgt := 23) hx hb dX9_look_41 (by decide) ?_
  refine lv_iload hx hb dX9_look_23 (lv_at hl 0 rfl) ?_
  refine lv_bipush (v := 60) hx hb dX9_look_25 (by decide) ?_
  refine lv_icmp_gt (tgt := 44) hx hb dX9_look_27 (by decide) (fun q => absurd q (by decide)) (fun _ => ?_)
  refine lv_aload_n hx hb dX9_look_30 rfl (lv_at hl 2 rfl) ?_
  refine va_get (ci := 9) (v := .ref (a 51)) (C := RX9) (T := TX9) (N := 6) hx hb htA in_X9 hown hK hP 0 rfl rfl 1 (by decide) (htA _ wd_43) (fun _ h => h) rfl dX9_look_31 ?_
  refine lv_iload hx hb dX9_look_34 (lv_at hl 0 rfl) ?_
  refine lv_iconst (v := 0) hx hb dX9_look_36 (by decide) ?_
  refine va_iast hx hb hK hP hD hS 1 0 rfl rfl (in_lit (by decide)) dX9_look_37 (fun H locs hP hD hS => ?_)
  rw [fa_upd_same (f := fun _ => 0) (i := (6 : Int32).toNatClampNeg) (x := 0) (by first | decide | rfl)] at hP hD
  have hP : va_P D vwCl [((a 6), .inr (9, [.int 1, .ref (a 51), .ref (a 52), .ref (a 53), .ref (a 54), .ref (a 55)])), ((a 51), .inl (cy 0, 61, .inl (fun _ => 0))), ((a 52), .inl (cy 0, 61, .inl (fun _ => 0))), ((a 5), .inr (1, [.ref (a 40), .int 0, .int 0, .ref (a 46), .ref (a 47)])), ((a 10), .inr (0, [.int 0, .int 1, .int 1, .int 0, .int 0, .ref (a 11), .ref (a 12), .ref (a 13), .null, .null])), ((a 40), .inr (6, [.ref (a 10), .int 0, .ref (a 41), .ref (a 42), .ref (a 43), .ref (a 44), .ref (a 45), .int 0]))] H := hP
  have hD := va_ca hP hD
  refine lv_iinc (v := 7) (lv' := [(4, .int 7), (3, .int 1), (0, .ref (a 6)), (1, .ref (a 5)), (2, .int 0)]) hx hb dX9_look_38 hl (k := 0) rfl (by decide) (by decide) rfl (fun ls hl => ?_)
  refine lv_goto (tgt := 23) hx hb dX9_look_41 (by decide) ?_
  refine lv_iload hx hb dX9_look_23 (lv_at hl 0 rfl) ?_
  refine lv_bipush (v := 60) hx hb dX9_look_25 (by decide) ?_
  refine lv_icmp_gt (tgt := 44) hx hb dX9_look_27 (by decide) (fun q => absurd q (by decide)) (fun _ => ?_)
  refine lv_aload_n hx hb dX9_look_30 rfl (lv_at hl 2 rfl) ?_
  refine va_get (ci := 9) (v := .ref (a 51)) (C := RX9) (T := TX9) (N := 6) hx hb htA in_X9 hown hK hP 0 rfl rfl 1 (by decide) (htA _ wd_43) (fun _ h => h) rfl dX9_look_31 ?_
  refine lv_iload hx hb dX9_look_34 (lv_at hl 0 rfl) ?_
  refine lv_iconst (v := 0) hx hb dX9_look_36 (by decide) ?_
  refine va_iast hx hb hK hP hD hS 1 0 rfl rfl (in_lit (by decide)) dX9_look_37 (fun H locs hP hD hS => ?_)
  rw [fa_upd_same (f := fun _ => 0) (i := (7 : Int32).toNatClampNeg) (x := 0) (by first | decide | rfl)] at hP hD
  have hP : va_P D vwCl [((a 6), .inr (9, [.int 1, .ref (a 51), .ref (a 52), .ref (a 53), .ref (a 54), .ref (a 55)])), ((a 51), .inl (cy 0, 61, .inl (fun _ => 0))), ((a 52), .inl (cy 0, 61, .inl (fun _ => 0))), ((a 5), .inr (1, [.ref (a 40), .int 0, .int 0, .ref (a 46), .ref (a 47)])), ((a 10), .inr (0, [.int 0, .int 1, .int 1, .int 0, .int 0, .ref (a 11), .ref (a 12), .ref (a 13), .null, .null])), ((a 40), .inr (6, [.ref (a 10), .int 0, .ref (a 41), .ref (a 42), .ref (a 43), .ref (a 44), .ref (a 45), .int 0]))] H := hP
  have hD := va_ca hP hD
  refine lv_iinc (v := 8) (lv' := [(4, .int 8), (3, .int 1), (0, .ref (a 6)), (1, .ref (a 5)), (2, .int 0)]) hx hb dX9_look_38 hl (k := 0) rfl (by decide) (by decide) rfl (fun ls hl => ?_)
  refine lv_goto (tgt := 23) hx hb dX9_look_41 (by decide) ?_
  refine lv_iload hx hb dX9_look_23 (lv_at hl 0 rfl) ?_
  refine lv_bipush (v := 60) hx hb dX9_look_25 (by decide) ?_
  refine lv_icmp_gt (tgt := 44) hx hb dX9_look_27 (by decide) (fun q => absurd q (by decide)) (fun _ => ?_)
  refine lv_aload_n hx hb dX9_look_30 rfl (lv_at hl 2 rfl) ?_
  refine va_get (ci := 9) (v := .ref (a 51)) (C := RX9) (T := TX9) (N := 6) hx hb htA in_X9 hown hK hP 0 rfl rfl 1 (by decide) (htA _ wd_43) (fun _ h => h) rfl dX9_look_31 ?_
  refine lv_iload hx hb dX9_look_34 (lv_at hl 0 rfl) ?_
  refine lv_iconst (v := 0) hx hb dX9_look_36 (by decide) ?_
  refine va_iast hx hb hK hP hD hS 1 0 rfl rfl (in_lit (by decide)) dX9_look_37 (fun H locs hP hD hS => ?_)
  rw [fa_upd_same (f := fun _ => 0) (i := (8 : Int32).toNatClampNeg) (x := 0) (by first | decide | rfl)] at hP hD
  have hP : va_P D vwCl [((a 6), .inr (9, [.int 1, .ref (a 51), .ref (a 52), .ref (a 53), .ref (a 54), .ref (a 55)])), ((a 51), .inl (cy 0, 61, .inl (fun _ => 0))), ((a 52), .inl (cy 0, 61, .inl (fun _ => 0))), ((a 5), .inr (1, [.ref (a 40), .int 0, .int 0, .ref (a 46), .ref (a 47)])), ((a 10), .inr (0, [.int 0, .int 1, .int 1, .int 0, .int 0, .ref (a 11), .ref (a 12), .ref (a 13), .null, .null])), ((a 40), .inr (6, [.ref (a 10), .int 0, .ref (a 41), .ref (a 42), .ref (a 43), .ref (a 44), .ref (a 45), .int 0]))] H := hP
  have hD := va_ca hP hD
  refine lv_iinc (v := 9) (lv' := [(4, .int 9), (3, .int 1), (0, .ref (a 6)), (1, .ref (a 5)), (2, .int 0)]) hx hb dX9_look_38 hl (k := 0) rfl (by decide) (by decide) rfl (fun ls hl => ?_)
  refine lv_goto (tgt := 23) hx hb dX9_look_41 (by decide) ?_
  refine lv_iload hx hb dX9_look_23 (lv_at hl 0 rfl) ?_
  refine lv_bipush (v := 60) hx hb dX9_look_25 (by decide) ?_
  refine lv_icmp_gt (tgt := 44) hx hb dX9_look_27 (by decide) (fun q => absurd q (by decide)) (fun _ => ?_)
  refine lv_aload_n hx hb dX9_look_30 rfl (lv_at hl 2 rfl) ?_
  refine va_get (ci := 9) (v := .ref (a 51)) (C := RX9) (T := TX9) (N := 6) hx hb htA in_X9 hown hK hP 0 rfl rfl 1 (by decide) (htA _ wd_43) (fun _ h => h) rfl dX9_look_31 ?_
  refine lv_iload hx hb dX9_look_34 (lv_at hl 0 rfl) ?_
  refine lv_iconst (v := 0) hx hb dX9_look_36 (by decide) ?_
  refine va_iast hx hb hK hP hD hS 1 0 rfl rfl (in_lit (by decide)) dX9_look_37 (fun H locs hP hD hS => ?_)
  rw [fa_upd_same (f := fun _ => 0) (i := (9 : Int32).toNatClampNeg) (x := 0) (by first | decide | rfl)] at hP hD
  have hP : va_P D vwCl [((a 6), .inr (9, [.int 1, .ref (a 51), .ref (a 52), .ref (a 53), .ref (a 54), .ref (a 55)])), ((a 51), .inl (cy 0, 61, .inl (fun _ => 0))), ((a 52), .inl (cy 0, 61, .inl (fun _ => 0))), ((a 5), .inr (1, [.ref (a 40), .int 0, .int 0, .ref (a 46), .ref (a 47)])), ((a 10), .inr (0, [.int 0, .int 1, .int 1, .int 0, .int 0, .ref (a 11), .ref (a 12), .ref (a 13), .null, .null])), ((a 40), .inr (6, [.ref (a 10), .int 0, .ref (a 41), .ref (a 42), .ref (a 43), .ref (a 44), .ref (a 45), .int 0]))] H := hP
  have hD := va_ca hP hD
  refine lv_iinc (v := 10) (lv' := [(4, .int 10), (3, .int 1), (0, .ref (a 6)), (1, .ref (a 5)), (2, .int 0)]) hx hb dX9_look_38 hl (k := 0) rfl (by decide) (by decide) rfl (fun ls hl => ?_)
  refine lv_goto (tgt := 23) hx hb dX9_look_41 (by decide) ?_
  refine lv_iload hx hb dX9_look_23 (lv_at hl 0 rfl) ?_
  refine lv_bipush (v := 60) hx hb dX9_look_25 (by decide) ?_
  refine lv_icmp_gt (tgt := 44) hx hb dX9_look_27 (by decide) (fun q => absurd q (by decide)) (fun _ => ?_)
  refine lv_aload_n hx hb dX9_look_30 rfl (lv_at hl 2 rfl) ?_
  refine va_get (ci := 9) (v := .ref (a 51)) (C := RX9) (T := TX9) (N := 6) hx hb htA in_X9 hown hK hP 0 rfl rfl 1 (by decide) (htA _ wd_43) (fun _ h => h) rfl dX9_look_31 ?_
  refine lv_iload hx hb dX9_look_34 (lv_at hl 0 rfl) ?_
  refine lv_iconst (v := 0) hx hb dX9_look_36 (by decide) ?_
  refine va_iast hx hb hK hP hD hS 1 0 rfl rfl (in_lit (by decide)) dX9_look_37 (fun H locs hP hD hS => ?_)
  rw [fa_upd_same (f := fun _ => 0) (i := (10 : Int32).toNatClampNeg) (x := 0) (by first | decide | rfl)] at hP hD
  have hP : va_P D vwCl [((a 6), .inr (9, [.int 1, .ref (a 51), .ref (a 52), .ref (a 53), .ref (a 54), .ref (a 55)])), ((a 51), .inl (cy 0, 61, .inl (fun _ => 0))), ((a 52), .inl (cy 0, 61, .inl (fun _ => 0))), ((a 5), .inr (1, [.ref (a 40), .int 0, .int 0, .ref (a 46), .ref (a 47)])), ((a 10), .inr (0, [.int 0, .int 1, .int 1, .int 0, .int 0, .ref (a 11), .ref (a 12), .ref (a 13), .null, .null])), ((a 40), .inr (6, [.ref (a 10), .int 0, .ref (a 41), .ref (a 42), .ref (a 43), .ref (a 44), .ref (a 45), .int 0]))] H := hP
  have hD := va_ca hP hD
  refine lv_iinc (v := 11) (lv' := [(4, .int 11), (3, .int 1), (0, .ref (a 6)), (1, .ref (a 5)), (2, .int 0)]) hx hb dX9_look_38 hl (k := 0) rfl (by decide) (by decide) rfl (fun ls hl => ?_)
  refine lv_goto (tgt := 23) hx hb dX9_look_41 (by decide) ?_
  refine lv_iload hx hb dX9_look_23 (lv_at hl 0 rfl) ?_
  refine lv_bipush (v := 60) hx hb dX9_look_25 (by decide) ?_
  refine lv_icmp_gt (tgt := 44) hx hb dX9_look_27 (by decide) (fun q => absurd q (by decide)) (fun _ => ?_)
  refine lv_aload_n hx hb dX9_look_30 rfl (lv_at hl 2 rfl) ?_
  refine va_get (ci := 9) (v := .ref (a 51)) (C := RX9) (T := TX9) (N := 6) hx hb htA in_X9 hown hK hP 0 rfl rfl 1 (by decide) (htA _ wd_43) (fun _ h => h) rfl dX9_look_31 ?_
  refine lv_iload hx hb dX9_look_34 (lv_at hl 0 rfl) ?_
  refine lv_iconst (v := 0) hx hb dX9_look_36 (by decide) ?_
  refine va_iast hx hb hK hP hD hS 1 0 rfl rfl (in_lit (by decide)) dX9_look_37 (fun H locs hP hD hS => ?_)
  rw [fa_upd_same (f := fun _ => 0) (i := (11 : Int32).toNatClampNeg) (x := 0) (by first | decide | rfl)] at hP hD
  have hP : va_P D vwCl [((a 6), .inr (9, [.int 1, .ref (a 51), .ref (a 52), .ref (a 53), .ref (a 54), .ref (a 55)])), ((a 51), .inl (cy 0, 61, .inl (fun _ => 0))), ((a 52), .inl (cy 0, 61, .inl (fun _ => 0))), ((a 5), .inr (1, [.ref (a 40), .int 0, .int 0, .ref (a 46), .ref (a 47)])), ((a 10), .inr (0, [.int 0, .int 1, .int 1, .int 0, .int 0, .ref (a 11), .ref (a 12), .ref (a 13), .null, .null])), ((a 40), .inr (6, [.ref (a 10), .int 0, .ref (a 41), .ref (a 42), .ref (a 43), .ref (a 44), .ref (a 45), .int 0]))] H := hP
  have hD := va_ca hP hD
  refine lv_iinc (v := 12) (lv' := [(4, .int 12), (3, .int 1), (0, .ref (a 6)), (1, .ref (a 5)), (2, .int 0)]) hx hb dX9_look_38 hl (k := 0) rfl (by decide) (by decide) rfl (fun ls hl => ?_)
  refine lv_goto (tgt := 23) hx hb dX9_look_41 (by decide) ?_
  refine lv_iload hx hb dX9_look_23 (lv_at hl 0 rfl) ?_
  refine lv_bipush (v := 60) hx hb dX9_look_25 (by decide) ?_
  refine lv_icmp_gt (tgt := 44) hx hb dX9_look_27 (by decide) (fun q => absurd q (by decide)) (fun _ => ?_)
  refine lv_aload_n hx hb dX9_look_30 rfl (lv_at hl 2 rfl) ?_
  refine va_get (ci := 9) (v := .ref (a 51)) (C := RX9) (T := TX9) (N := 6) hx hb htA in_X9 hown hK hP 0 rfl rfl 1 (by decide) (htA _ wd_43) (fun _ h => h) rfl dX9_look_31 ?_
  refine lv_iload hx hb dX9_look_34 (lv_at hl 0 rfl) ?_
  refine lv_iconst (v := 0) hx hb dX9_look_36 (by decide) ?_
  refine va_iast hx hb hK hP hD hS 1 0 rfl rfl (in_lit (by decide)) dX9_look_37 (fun H locs hP hD hS => ?_)
  rw [fa_upd_same (f := fun _ => 0) (i := (12 : Int32).toNatClampNeg) (x := 0) (by first | decide | rfl)] at hP hD
  have hP : va_P D vwCl [((a 6), .inr (9, [.int 1, .ref (a 51), .ref (a 52), .ref (a 53), .ref (a 54), .ref (a 55)])), ((a 51), .inl (cy 0, 61, .inl (fun _ => 0))), ((a 52), .inl (cy 0, 61, .inl (fun _ => 0))), ((a 5), .inr (1, [.ref (a 40), .int 0, .int 0, .ref (a 46), .ref (a 47)])), ((a 10), .inr (0, [.int 0, .int 1, .int 1, .int 0, .int 0, .ref (a 11), .ref (a 12), .ref (a 13), .null, .null])), ((a 40), .inr (6, [.ref (a 10), .int 0, .ref (a 41), .ref (a 42), .ref (a 43), .ref (a 44), .ref (a 45), .int 0]))] H := hP
  have hD := va_ca hP hD
  refine lv_iinc (v := 13) (lv' := [(4, .int 13), (3, .int 1), (0, .ref (a 6)), (1, .ref (a 5)), (2, .int 0)]) hx hb dX9_look_38 hl (k := 0) rfl (by decide) (by decide) rfl (fun ls hl => ?_)
  refine lv_goto (tgt := 23) hx hb dX9_look_41 (by decide) ?_
  refine lv_iload hx hb dX9_look_23 (lv_at hl 0 rfl) ?_
  refine lv_bipush (v := 60) hx hb dX9_look_25 (by decide) ?_
  refine lv_icmp_gt (tgt := 44) hx hb dX9_look_27 (by decide) (fun q => absurd q (by decide)) (fun _ => ?_)
  refine lv_aload_n hx hb dX9_look_30 rfl (lv_at hl 2 rfl) ?_
  refine va_get (ci := 9) (v := .ref (a 51)) (C := RX9) (T := TX9) (N := 6) hx hb htA in_X9 hown hK hP 0 rfl rfl 1 (by decide) (htA _ wd_43) (fun _ h => h) rfl dX9_look_31 ?_
  refine lv_iload hx hb dX9_look_34 (lv_at hl 0 rfl) ?_
  refine lv_iconst (v := 0) hx hb dX9_look_36 (by decide) ?_
  refine va_iast hx hb hK hP hD hS 1 0 rfl rfl (in_lit (by decide)) dX9_look_37 (fun H locs hP hD hS => ?_)
  rw [fa_upd_same (f := fun _ => 0) (i := (13 : Int32).toNatClampNeg) (x := 0) (by first | decide | rfl)] at hP hD
  have hP : va_P D vwCl [((a 6), .inr (9, [.int 1, .ref (a 51), .ref (a 52), .ref (a 53), .ref (a 54), .ref (a 55)])), ((a 51), .inl (cy 0, 61, .inl (fun _ => 0))), ((a 52), .inl (cy 0, 61, .inl (fun _ => 0))), ((a 5), .inr (1, [.ref (a 40), .int 0, .int 0, .ref (a 46), .ref (a 47)])), ((a 10), .inr (0, [.int 0, .int 1, .int 1, .int 0, .int 0, .ref (a 11), .ref (a 12), .ref (a 13), .null, .null])), ((a 40), .inr (6, [.ref (a 10), .int 0, .ref (a 41), .ref (a 42), .ref (a 43), .ref (a 44), .ref (a 45), .int 0]))] H := hP
  have hD := va_ca hP hD
  refine lv_iinc (v := 14) (lv' := [(4, .int 14), (3, .int 1), (0, .ref (a 6)), (1, .ref (a 5)), (2, .int 0)]) hx hb dX9_look_38 hl (k := 0) rfl (by decide) (by decide) rfl (fun ls hl => ?_)
  refine lv_goto (tgt := 23) hx hb dX9_look_41 (by decide) ?_
  refine lv_iload hx hb dX9_look_23 (lv_at hl 0 rfl) ?_
  refine lv_bipush (v := 60) hx hb dX9_look_25 (by decide) ?_
  refine lv_icmp_gt (tgt := 44) hx hb dX9_look_27 (by decide) (fun q => absurd q (by decide)) (fun _ => ?_)
  refine lv_aload_n hx hb dX9_look_30 rfl (lv_at hl 2 rfl) ?_
  refine va_get (ci := 9) (v := .ref (a 51)) (C := RX9) (T := TX9) (N := 6) hx hb htA in_X9 hown hK hP 0 rfl rfl 1 (by decide) (htA _ wd_43) (fun _ h => h) rfl dX9_look_31 ?_
  refine lv_iload hx hb dX9_look_34 (lv_at hl 0 rfl) ?_
  refine lv_iconst (v := 0) hx hb dX9_look_36 (by decide) ?_
  refine va_iast hx hb hK hP hD hS 1 0 rfl rfl (in_lit (by decide)) dX9_look_37 (fun H locs hP hD hS => ?_)
  rw [fa_upd_same (f := fun _ => 0) (i := (14 : Int32).toNatClampNeg) (x := 0) (by first | decide | rfl)] at hP hD
  have hP : va_P D vwCl [((a 6), .inr (9, [.int 1, .ref (a 51), .ref (a 52), .ref (a 53), .ref (a 54), .ref (a 55)])), ((a 51), .inl (cy 0, 61, .inl (fun _ => 0))), ((a 52), .inl (cy 0, 61, .inl (fun _ => 0))), ((a 5), .inr (1, [.ref (a 40), .int 0, .int 0, .ref (a 46), .ref (a 47)])), ((a 10), .inr (0, [.int 0, .int 1, .int 1, .int 0, .int 0, .ref (a 11), .ref (a 12), .ref (a 13), .null, .null])), ((a 40), .inr (6, [.ref (a 10), .int 0, .ref (a 41), .ref (a 42), .ref (a 43), .ref (a 44), .ref (a 45), .int 0]))] H := hP
  have hD := va_ca hP hD
  refine lv_iinc (v := 15) (lv' := [(4, .int 15), (3, .int 1), (0, .ref (a 6)), (1, .ref (a 5)), (2, .int 0)]) hx hb dX9_look_38 hl (k := 0) rfl (by decide) (by decide) rfl (fun ls hl => ?_)
  refine lv_goto (tgt := 23) hx hb dX9_look_41 (by decide) ?_
  refine lv_iload hx hb dX9_look_23 (lv_at hl 0 rfl) ?_
  refine lv_bipush (v := 60) hx hb dX9_look_25 (by decide) ?_
  refine lv_icmp_gt (tgt := 44) hx hb dX9_look_27 (by decide) (fun q => absurd q (by decide)) (fun _ => ?_)
  refine lv_aload_n hx hb dX9_look_30 rfl (lv_at hl 2 rfl) ?_
  refine va_get (ci := 9) (v := .ref (a 51)) (C := RX9) (T := TX9) (N := 6) hx hb htA in_X9 hown hK hP 0 rfl rfl 1 (by decide) (htA _ wd_43) (fun _ h => h) rfl dX9_look_31 ?_
  refine lv_iload hx hb dX9_look_34 (lv_at hl 0 rfl) ?_
  refine lv_iconst (v := 0) hx hb dX9_look_36 (by decide) ?_
  refine va_iast hx hb hK hP hD hS 1 0 rfl rfl (in_lit (by decide)) dX9_look_37 (fun H locs hP hD hS => ?_)
  rw [fa_upd_same (f := fun _ => 0) (i := (15 : Int32).toNatClampNeg) (x := 0) (by first | decide | rfl)] at hP hD
  have hP : va_P D vwCl [((a 6), .inr (9, [.int 1, .ref (a 51), .ref (a 52), .ref (a 53), .ref (a 54), .ref (a 55)])), ((a 51), .inl (cy 0, 61, .inl (fun _ => 0))), ((a 52), .inl (cy 0, 61, .inl (fun _ => 0))), ((a 5), .inr (1, [.ref (a 40), .int 0, .int 0, .ref (a 46), .ref (a 47)])), ((a 10), .inr (0, [.int 0, .int 1, .int 1, .int 0, .int 0, .ref (a 11), .ref (a 12), .ref (a 13), .null, .null])), ((a 40), .inr (6, [.ref (a 10), .int 0, .ref (a 41), .ref (a 42), .ref (a 43), .ref (a 44), .ref (a 45), .int 0]))] H := hP
  have hD := va_ca hP hD
  refine lv_iinc (v := 16) (lv' := [(4, .int 16), (3, .int 1), (0, .ref (a 6)), (1, .ref (a 5)), (2, .int 0)]) hx hb dX9_look_38 hl (k := 0) rfl (by decide) (by decide) rfl (fun ls hl => ?_)
  refine lv_goto (tgt := 23) hx hb dX9_look_41 (by decide) ?_
  refine lv_iload hx hb dX9_look_23 (lv_at hl 0 rfl) ?_
  refine lv_bipush (v := 60) hx hb dX9_look_25 (by decide) ?_
  refine lv_icmp_gt (tgt := 44) hx hb dX9_look_27 (by decide) (fun q => absurd q (by decide)) (fun _ => ?_)
  refine lv_aload_n hx hb dX9_look_30 rfl (lv_at hl 2 rfl) ?_
  refine va_get (ci := 9) (v := .ref (a 51)) (C := RX9) (T := TX9) (N := 6) hx hb htA in_X9 hown hK hP 0 rfl rfl 1 (by decide) (htA _ wd_43) (fun _ h => h) rfl dX9_look_31 ?_
  refine lv_iload hx hb dX9_look_34 (lv_at hl 0 rfl) ?_
  refine lv_iconst (v := 0) hx hb dX9_look_36 (by decide) ?_
  refine va_iast hx hb hK hP hD hS 1 0 rfl rfl (in_lit (by decide)) dX9_look_37 (fun H locs hP hD hS => ?_)
  rw [fa_upd_same (f := fun _ => 0) (i := (16 : Int32).toNatClampNeg) (x := 0) (by first | decide | rfl)] at hP hD
  have hP : va_P D vwCl [((a 6), .inr (9, [.int 1, .ref (a 51), .ref (a 52), .ref (a 53), .ref (a 54), .ref (a 55)])), ((a 51), .inl (cy 0, 61, .inl (fun _ => 0))), ((a 52), .inl (cy 0, 61, .inl (fun _ => 0))), ((a 5), .inr (1, [.ref (a 40), .int 0, .int 0, .ref (a 46), .ref (a 47)])), ((a 10), .inr (0, [.int 0, .int 1, .int 1, .int 0, .int 0, .ref (a 11), .ref (a 12), .ref (a 13), .null, .null])), ((a 40), .inr (6, [.ref (a 10), .int 0, .ref (a 41), .ref (a 42), .ref (a 43), .ref (a 44), .ref (a 45), .int 0]))] H := hP
  have hD := va_ca hP hD
  refine lv_iinc (v := 17) (lv' := [(4, .int 17), (3, .int 1), (0, .ref (a 6)), (1, .ref (a 5)), (2, .int 0)]) hx hb dX9_look_38 hl (k := 0) rfl (by decide) (by decide) rfl (fun ls hl => ?_)
  refine lv_goto (tgt := 23) hx hb dX9_look_41 (by decide) ?_
  refine lv_iload hx hb dX9_look_23 (lv_at hl 0 rfl) ?_
  refine lv_bipush (v := 60) hx hb dX9_look_25 (by decide) ?_
  refine lv_icmp_gt (tgt := 44) hx hb dX9_look_27 (by decide) (fun q => absurd q (by decide)) (fun _ => ?_)
  refine lv_aload_n hx hb dX9_look_30 rfl (lv_at hl 2 rfl) ?_
  refine va_get (ci := 9) (v := .ref (a 51)) (C := RX9) (T := TX9) (N := 6) hx hb htA in_X9 hown hK hP 0 rfl rfl 1 (by decide) (htA _ wd_43) (fun _ h => h) rfl dX9_look_31 ?_
  refine lv_iload hx hb dX9_look_34 (lv_at hl 0 rfl) ?_
  refine lv_iconst (v := 0) hx hb dX9_look_36 (by decide) ?_
  refine va_iast hx hb hK hP hD hS 1 0 rfl rfl (in_lit (by decide)) dX9_look_37 (fun H locs hP hD hS => ?_)
  rw [fa_upd_same (f := fun _ => 0) (i := (17 : Int32).toNatClampNeg) (x := 0) (by first | decide | rfl)] at hP hD
  have hP : va_P D vwCl [((a 6), .inr (9, [.int 1, .ref (a 51), .ref (a 52), .ref (a 53), .ref (a 54), .ref (a 55)])), ((a 51), .inl (cy 0, 61, .inl (fun _ => 0))), ((a 52), .inl (cy 0, 61, .inl (fun _ => 0))), ((a 5), .inr (1, [.ref (a 40), .int 0, .int 0, .ref (a 46), .ref (a 47)])), ((a 10), .inr (0, [.int 0, .int 1, .int 1, .int 0, .int 0, .ref (a 11), .ref (a 12), .ref (a 13), .null, .null])), ((a 40), .inr (6, [.ref (a 10), .int 0, .ref (a 41), .ref (a 42), .ref (a 43), .ref (a 44), .ref (a 45), .int 0]))] H := hP
  have hD := va_ca hP hD
  refine lv_iinc (v := 18) (lv' := [(4, .int 18), (3, .int 1), (0, .ref (a 6)), (1, .ref (a 5)), (2, .int 0)]) hx hb dX9_look_38 hl (k := 0) rfl (by decide) (by decide) rfl (fun ls hl => ?_)
  refine lv_goto (tgt := 23) hx hb dX9_look_41 (by decide) ?_
  refine lv_iload hx hb dX9_look_23 (lv_at hl 0 rfl) ?_
  refine lv_bipush (v := 60) hx hb dX9_look_25 (by decide) ?_
  refine lv_icmp_gt (tgt := 44) hx hb dX9_look_27 (by decide) (fun q => absurd q (by decide)) (fun _ => ?_)
  refine lv_aload_n hx hb dX9_look_30 rfl (lv_at hl 2 rfl) ?_
  refine va_get (ci := 9) (v := .ref (a 51)) (C := RX9) (T := TX9) (N := 6) hx hb htA in_X9 hown hK hP 0 rfl rfl 1 (by decide) (htA _ wd_43) (fun _ h => h) rfl dX9_look_31 ?_
  refine lv_iload hx hb dX9_look_34 (lv_at hl 0 rfl) ?_
  refine lv_iconst (v := 0) hx hb dX9_look_36 (by decide) ?_
  refine va_iast hx hb hK hP hD hS 1 0 rfl rfl (in_lit (by decide)) dX9_look_37 (fun H locs hP hD hS => ?_)
  rw [fa_upd_same (f := fun _ => 0) (i := (18 : Int32).toNatClampNeg) (x := 0) (by first | decide | rfl)] at hP hD
  have hP : va_P D vwCl [((a 6), .inr (9, [.int 1, .ref (a 51), .ref (a 52), .ref (a 53), .ref (a 54), .ref (a 55)])), ((a 51), .inl (cy 0, 61, .inl (fun _ => 0))), ((a 52), .inl (cy 0, 61, .inl (fun _ => 0))), ((a 5), .inr (1, [.ref (a 40), .int 0, .int 0, .ref (a 46), .ref (a 47)])), ((a 10), .inr (0, [.int 0, .int 1, .int 1, .int 0, .int 0, .ref (a 11), .ref (a 12), .ref (a 13), .null, .null])), ((a 40), .inr (6, [.ref (a 10), .int 0, .ref (a 41), .ref (a 42), .ref (a 43), .ref (a 44), .ref (a 45), .int 0]))] H := hP
  have hD := va_ca hP hD
  refine lv_iinc (v := 19) (lv' := [(4, .int 19), (3, .int 1), (0, .ref (a 6)), (1, .ref (a 5)), (2, .int 0)]) hx hb dX9_look_38 hl (k := 0) rfl (by decide) (by decide) rfl (fun ls hl => ?_)
  refine lv_goto (tgt := 23) hx hb dX9_look_41 (by decide) ?_
  refine lv_iload hx hb dX9_look_23 (lv_at hl 0 rfl) ?_
  refine lv_bipush (v := 60) hx hb dX9_look_25 (by decide) ?_
  refine lv_icmp_gt (tgt := 44) hx hb dX9_look_27 (by decide) (fun q => absurd q (by decide)) (fun _ => ?_)
  refine lv_aload_n hx hb dX9_look_30 rfl (lv_at hl 2 rfl) ?_
  refine va_get (ci := 9) (v := .ref (a 51)) (C := RX9) (T := TX9) (N := 6) hx hb htA in_X9 hown hK hP 0 rfl rfl 1 (by decide) (htA _ wd_43) (fun _ h => h) rfl dX9_look_31 ?_
  refine lv_iload hx hb dX9_look_34 (lv_at hl 0 rfl) ?_
  refine lv_iconst (v := 0) hx hb dX9_look_36 (by decide) ?_
  refine va_iast hx hb hK hP hD hS 1 0 rfl rfl (in_lit (by decide)) dX9_look_37 (fun H locs hP hD hS => ?_)
  rw [fa_upd_same (f := fun _ => 0) (i := (19 : Int32).toNatClampNeg) (x := 0) (by first | decide | rfl)] at hP hD
  have hP : va_P D vwCl [((a 6), .inr (9, [.int 1, .ref (a 51), .ref (a 52), .ref (a 53), .ref (a 54), .ref (a 55)])), ((a 51), .inl (cy 0, 61, .inl (fun _ => 0))), ((a 52), .inl (cy 0, 61, .inl (fun _ => 0))), ((a 5), .inr (1, [.ref (a 40), .int 0, .int 0, .ref (a 46), .ref (a 47)])), ((a 10), .inr (0, [.int 0, .int 1, .int 1, .int 0, .int 0, .ref (a 11), .ref (a 12), .ref (a 13), .null, .null])), ((a 40), .inr (6, [.ref (a 10), .int 0, .ref (a 41), .ref (a 42), .ref (a 43), .ref (a 44), .ref (a 45), .int 0]))] H := hP
  have hD := va_ca hP hD
  refine lv_iinc (v := 20) (lv' := [(4, .int 20), (3, .int 1), (0, .ref (a 6)), (1, .ref (a 5)), (2, .int 0)]) hx hb dX9_look_38 hl (k := 0) rfl (by decide) (by decide) rfl (fun ls hl => ?_)
  refine lv_goto (tgt := 23) hx hb dX9_look_41 (by decide) ?_
  refine lv_iload hx hb dX9_look_23 (lv_at hl 0 rfl) ?_
  refine lv_bipush (v := 60) hx hb dX9_look_25 (by decide) ?_
  refine lv_icmp_gt (tgt := 44) hx hb dX9_look_27 (by decide) (fun q => absurd q (by decide)) (fun _ => ?_)
  refine lv_aload_n hx hb dX9_look_30 rfl (lv_at hl 2 rfl) ?_
  refine va_get (ci := 9) (v := .ref (a 51)) (C := RX9) (T := TX9) (N := 6) hx hb htA in_X9 hown hK hP 0 rfl rfl 1 (by decide) (htA _ wd_43) (fun _ h => h) rfl dX9_look_31 ?_
  refine lv_iload hx hb dX9_look_34 (lv_at hl 0 rfl) ?_
  refine lv_iconst (v := 0) hx hb dX9_look_36 (by decide) ?_
  refine va_iast hx hb hK hP hD hS 1 0 rfl rfl (in_lit (by decide)) dX9_look_37 (fun H locs hP hD hS => ?_)
  rw [fa_upd_same (f := fun _ => 0) (i := (20 : Int32).toNatClampNeg) (x := 0) (by first | decide | rfl)] at hP hD
  have hP : va_P D vwCl [((a 6), .inr (9, [.int 1, .ref (a 51), .ref (a 52), .ref (a 53), .ref (a 54), .ref (a 55)])), ((a 51), .inl (cy 0, 61, .inl (fun _ => 0))), ((a 52), .inl (cy 0, 61, .inl (fun _ => 0))), ((a 5), .inr (1, [.ref (a 40), .int 0, .int 0, .ref (a 46), .ref (a 47)])), ((a 10), .inr (0, [.int 0, .int 1, .int 1, .int 0, .int 0, .ref (a 11), .ref (a 12), .ref (a 13), .null, .null])), ((a 40), .inr (6, [.ref (a 10), .int 0, .ref (a 41), .ref (a 42), .ref (a 43), .ref (a 44), .ref (a 45), .int 0]))] H := hP
  have hD := va_ca hP hD
  refine lv_iinc (v := 21) (lv' := [(4, .int 21), (3, .int 1), (0, .ref (a 6)), (1, .ref (a 5)), (2, .int 0)]) hx hb dX9_look_38 hl (k := 0) rfl (by decide) (by decide) rfl (fun ls hl => ?_)
  refine lv_goto (tgt := 23) hx hb dX9_look_41 (by decide) ?_
  refine lv_iload hx hb dX9_look_23 (lv_at hl 0 rfl) ?_
  refine lv_bipush (v := 60) hx hb dX9_look_25 (by decide) ?_
  refine lv_icmp_gt (tgt := 44) hx hb dX9_look_27 (by decide) (fun q => absurd q (by decide)) (fun _ => ?_)
  refine lv_aload_n hx hb dX9_look_30 rfl (lv_at hl 2 rfl) ?_
  refine va_get (ci := 9) (v := .ref (a 51)) (C := RX9) (T := TX9) (N := 6) hx hb htA in_X9 hown hK hP 0 rfl rfl 1 (by decide) (htA _ wd_43) (fun _ h => h) rfl dX9_look_31 ?_
  refine lv_iload hx hb dX9_look_34 (lv_at hl 0 rfl) ?_
  refine lv_iconst (v := 0) hx hb dX9_look_36 (by decide) ?_
  refine va_iast hx hb hK hP hD hS 1 0 rfl rfl (in_lit (by decide)) dX9_look_37 (fun H locs hP hD hS => ?_)
  rw [fa_upd_same (f := fun _ => 0) (i := (21 : Int32).toNatClampNeg) (x := 0) (by first | decide | rfl)] at hP hD
  have hP : va_P D vwCl [((a 6), .inr (9, [.int 1, .ref (a 51), .ref (a 52), .ref (a 53), .ref (a 54), .ref (a 55)])), ((a 51), .inl (cy 0, 61, .inl (fun _ => 0))), ((a 52), .inl (cy 0, 61, .inl (fun _ => 0))), ((a 5), .inr (1, [.ref (a 40), .int 0, .int 0, .ref (a 46), .ref (a 47)])), ((a 10), .inr (0, [.int 0, .int 1, .int 1, .int 0, .int 0, .ref (a 11), .ref (a 12), .ref (a 13), .null, .null])), ((a 40), .inr (6, [.ref (a 10), .int 0, .ref (a 41), .ref (a 42), .ref (a 43), .ref (a 44), .ref (a 45), .int 0]))] H := hP
  have hD := va_ca hP hD
  refine lv_iinc (v := 22) (lv' := [(4, .int 22), (3, .int 1), (0, .ref (a 6)), (1, .ref (a 5)), (2, .int 0)]) hx hb dX9_look_38 hl (k := 0) rfl (by decide) (by decide) rfl (fun ls hl => ?_)
  refine lv_goto (tgt := 23) hx hb dX9_look_41 (by decide) ?_
  refine lv_iload hx hb dX9_look_23 (lv_at hl 0 rfl) ?_
  refine lv_bipush (v := 60) hx hb dX9_look_25 (by decide) ?_
  refine lv_icmp_gt (tgt := 44) hx hb dX9_look_27 (by decide) (fun q => absurd q (by decide)) (fun _ => ?_)
  refine lv_aload_n hx hb dX9_look_30 rfl (lv_at hl 2 rfl) ?_
  refine va_get (ci := 9) (v := .ref (a 51)) (C := RX9) (T := TX9) (N := 6) hx hb htA in_X9 hown hK hP 0 rfl rfl 1 (by decide) (htA _ wd_43) (fun _ h => h) rfl dX9_look_31 ?_
  refine lv_iload hx hb dX9_look_34 (lv_at hl 0 rfl) ?_
  refine lv_iconst (v := 0) hx hb dX9_look_36 (by decide) ?_
  refine va_iast hx hb hK hP hD hS 1 0 rfl rfl (in_lit (by decide)) dX9_look_37 (fun H locs hP hD hS => ?_)
  rw [fa_upd_same (f := fun _ => 0) (i := (22 : Int32).toNatClampNeg) (x := 0) (by first | decide | rfl)] at hP hD
  have hP : va_P D vwCl [((a 6), .inr (9, [.int 1, .ref (a 51), .ref (a 52), .ref (a 53), .ref (a 54), .ref (a 55)])), ((a 51), .inl (cy 0, 61, .inl (fun _ => 0))), ((a 52), .inl (cy 0, 61, .inl (fun _ => 0))), ((a 5), .inr (1, [.ref (a 40), .int 0, .int 0, .ref (a 46), .ref (a 47)])), ((a 10), .inr (0, [.int 0, .int 1, .int 1, .int 0, .int 0, .ref (a 11), .ref (a 12), .ref (a 13), .null, .null])), ((a 40), .inr (6, [.ref (a 10), .int 0, .ref (a 41), .ref (a 42), .ref (a 43), .ref (a 44), .ref (a 45), .int 0]))] H := hP
  have hD := va_ca hP hD
  refine lv_iinc (v := 23) (lv' := [(4, .int 23), (3, .int 1), (0, .ref (a 6)), (1, .ref (a 5)), (2, .int 0)]) hx hb dX9_look_38 hl (k := 0) rfl (by decide) (by decide) rfl (fun ls hl => ?_)
  refine lv_goto (tgt := 23) hx hb dX9_look_41 (by decide) ?_
  refine lv_iload hx hb dX9_look_23 (lv_at hl 0 rfl) ?_
  refine lv_bipush (v := 60) hx hb dX9_look_25 (by decide) ?_
  refine lv_icmp_gt (tgt := 44) hx hb dX9_look_27 (by decide) (fun q => absurd q (by decide)) (fun _ => ?_)
  refine lv_aload_n hx hb dX9_look_30 rfl (lv_at hl 2 rfl) ?_
  refine va_get (ci := 9) (v := .ref (a 51)) (C := RX9) (T := TX9) (N := 6) hx hb htA in_X9 hown hK hP 0 rfl rfl 1 (by decide) (htA _ wd_43) (fun _ h => h) rfl dX9_look_31 ?_
  refine lv_iload hx hb dX9_look_34 (lv_at hl 0 rfl) ?_
  refine lv_iconst (v := 0) hx hb dX9_look_36 (by decide) ?_
  refine va_iast hx hb hK hP hD hS 1 0 rfl rfl (in_lit (by decide)) dX9_look_37 (fun H locs hP hD hS => ?_)
  rw [fa_upd_same (f := fun _ => 0) (i := (23 : Int32).toNatClampNeg) (x := 0) (by first | decide | rfl)] at hP hD
  have hP : va_P D vwCl [((a 6), .inr (9, [.int 1, .ref (a 51), .ref (a 52), .ref (a 53), .ref (a 54), .ref (a 55)])), ((a 51), .inl (cy 0, 61, .inl (fun _ => 0))), ((a 52), .inl (cy 0, 61, .inl (fun _ => 0))), ((a 5), .inr (1, [.ref (a 40), .int 0, .int 0, .ref (a 46), .ref (a 47)])), ((a 10), .inr (0, [.int 0, .int 1, .int 1, .int 0, .int 0, .ref (a 11), .ref (a 12), .ref (a 13), .null, .null])), ((a 40), .inr (6, [.ref (a 10), .int 0, .ref (a 41), .ref (a 42), .ref (a 43), .ref (a 44), .ref (a 45), .int 0]))] H := hP
  have hD := va_ca hP hD
  refine lv_iinc (v := 24) (lv' := [(4, .int 24), (3, .int 1), (0, .ref (a 6)), (1, .ref (a 5)), (2, .int 0)]) hx hb dX9_look_38 hl (k := 0) rfl (by decide) (by decide) rfl (fun ls hl => ?_)
  refine lv_goto (tgt := 23) hx hb dX9_look_41 (by decide) ?_
  refine lv_iload hx hb dX9_look_23 (lv_at hl 0 rfl) ?_
  refine lv_bipush (v := 60) hx hb dX9_look_25 (by decide) ?_
  refine lv_icmp_gt (tgt := 44) hx hb dX9_look_27 (by decide) (fun q => absurd q (by decide)) (fun _ => ?_)
  refine lv_aload_n hx hb dX9_look_30 rfl (lv_at hl 2 rfl) ?_
  refine va_get (ci := 9) (v := .ref (a 51)) (C := RX9) (T := TX9) (N := 6) hx hb htA in_X9 hown hK hP 0 rfl rfl 1 (by decide) (htA _ wd_43) (fun _ h => h) rfl dX9_look_31 ?_
  refine lv_iload hx hb dX9_look_34 (lv_at hl 0 rfl) ?_
  refine lv_iconst (v := 0) hx hb dX9_look_36 (by decide) ?_
  refine va_iast hx hb hK hP hD hS 1 0 rfl rfl (in_lit (by decide)) dX9_look_37 (fun H locs hP hD hS => ?_)
  rw [fa_upd_same (f := fun _ => 0) (i := (24 : Int32).toNatClampNeg) (x := 0) (by first | decide | rfl)] at hP hD
  have hP : va_P D vwCl [((a 6), .inr (9, [.int 1, .ref (a 51), .ref (a 52), .ref (a 53), .ref (a 54), .ref (a 55)])), ((a 51), .inl (cy 0, 61, .inl (fun _ => 0))), ((a 52), .inl (cy 0, 61, .inl (fun _ => 0))), ((a 5), .inr (1, [.ref (a 40), .int 0, .int 0, .ref (a 46), .ref (a 47)])), ((a 10), .inr (0, [.int 0, .int 1, .int 1, .int 0, .int 0, .ref (a 11), .ref (a 12), .ref (a 13), .null, .null])), ((a 40), .inr (6, [.ref (a 10), .int 0, .ref (a 41), .ref (a 42), .ref (a 43), .ref (a 44), .ref (a 45), .int 0]))] H := hP
  have hD := va_ca hP hD
  refine lv_iinc (v := 25) (lv' := [(4, .int 25), (3, .int 1), (0, .ref (a 6)), (1, .ref (a 5)), (2, .int 0)]) hx hb dX9_look_38 hl (k := 0) rfl (by decide) (by decide) rfl (fun ls hl => ?_)
  refine lv_goto (tgt := 23) hx hb dX9_look_41 (by decide) ?_
  refine lv_iload hx hb dX9_look_23 (lv_at hl 0 rfl) ?_
  refine lv_bipush (v := 60) hx hb dX9_look_25 (by decide) ?_
  refine lv_icmp_gt (tgt := 44) hx hb dX9_look_27 (by decide) (fun q => absurd q (by decide)) (fun _ => ?_)
  refine lv_aload_n hx hb dX9_look_30 rfl (lv_at hl 2 rfl) ?_
  refine va_get (ci := 9) (v := .ref (a 51)) (C := RX9) (T := TX9) (N := 6) hx hb htA in_X9 hown hK hP 0 rfl rfl 1 (by decide) (htA _ wd_43) (fun _ h => h) rfl dX9_look_31 ?_
  refine lv_iload hx hb dX9_look_34 (lv_at hl 0 rfl) ?_
  refine lv_iconst (v := 0) hx hb dX9_look_36 (by decide) ?_
  refine va_iast hx hb hK hP hD hS 1 0 rfl rfl (in_lit (by decide)) dX9_look_37 (fun H locs hP hD hS => ?_)
  rw [fa_upd_same (f := fun _ => 0) (i := (25 : Int32).toNatClampNeg) (x := 0) (by first | decide | rfl)] at hP hD
  have hP : va_P D vwCl [((a 6), .inr (9, [.int 1, .ref (a 51), .ref (a 52), .ref (a 53), .ref (a 54), .ref (a 55)])), ((a 51), .inl (cy 0, 61, .inl (fun _ => 0))), ((a 52), .inl (cy 0, 61, .inl (fun _ => 0))), ((a 5), .inr (1, [.ref (a 40), .int 0, .int 0, .ref (a 46), .ref (a 47)])), ((a 10), .inr (0, [.int 0, .int 1, .int 1, .int 0, .int 0, .ref (a 11), .ref (a 12), .ref (a 13), .null, .null])), ((a 40), .inr (6, [.ref (a 10), .int 0, .ref (a 41), .ref (a 42), .ref (a 43), .ref (a 44), .ref (a 45), .int 0]))] H := hP
  have hD := va_ca hP hD
  refine lv_iinc (v := 26) (lv' := [(4, .int 26), (3, .int 1), (0, .ref (a 6)), (1, .ref (a 5)), (2, .int 0)]) hx hb dX9_look_38 hl (k := 0) rfl (by decide) (by decide) rfl (fun ls hl => ?_)
  refine lv_goto (tgt := 23) hx hb dX9_look_41 (by decide) ?_
  refine lv_iload hx hb dX9_look_23 (lv_at hl 0 rfl) ?_
  refine lv_bipush (v := 60) hx hb dX9_look_25 (by decide) ?_
  refine lv_icmp_gt (tgt := 44) hx hb dX9_look_27 (by decide) (fun q => absurd q (by decide)) (fun _ => ?_)
  refine lv_aload_n hx hb dX9_look_30 rfl (lv_at hl 2 rfl) ?_
  refine va_get (ci := 9) (v := .ref (a 51)) (C := RX9) (T := TX9) (N := 6) hx hb htA in_X9 hown hK hP 0 rfl rfl 1 (by decide) (htA _ wd_43) (fun _ h => h) rfl dX9_look_31 ?_
  refine lv_iload hx hb dX9_look_34 (lv_at hl 0 rfl) ?_
  refine lv_iconst (v := 0) hx hb dX9_look_36 (by decide) ?_
  refine va_iast hx hb hK hP hD hS 1 0 rfl rfl (in_lit (by decide)) dX9_look_37 (fun H locs hP hD hS => ?_)
  rw [fa_upd_same (f := fun _ => 0) (i := (26 : Int32).toNatClampNeg) (x := 0) (by first | decide | rfl)] at hP hD
  have hP : va_P D vwCl [((a 6), .inr (9, [.int 1, .ref (a 51), .ref (a 52), .ref (a 53), .ref (a 54), .ref (a 55)])), ((a 51), .inl (cy 0, 61, .inl (fun _ => 0))), ((a 52), .inl (cy 0, 61, .inl (fun _ => 0))), ((a 5), .inr (1, [.ref (a 40), .int 0, .int 0, .ref (a 46), .ref (a 47)])), ((a 10), .inr (0, [.int 0, .int 1, .int 1, .int 0, .int 0, .ref (a 11), .ref (a 12), .ref (a 13), .null, .null])), ((a 40), .inr (6, [.ref (a 10), .int 0, .ref (a 41), .ref (a 42), .ref (a 43), .ref (a 44), .ref (a 45), .int 0]))] H := hP
  have hD := va_ca hP hD
  refine lv_iinc (v := 27) (lv' := [(4, .int 27), (3, .int 1), (0, .ref (a 6)), (1, .ref (a 5)), (2, .int 0)]) hx hb dX9_look_38 hl (k := 0) rfl (by decide) (by decide) rfl (fun ls hl => ?_)
  refine lv_goto (tgt := 23) hx hb dX9_look_41 (by decide) ?_
  refine lv_iload hx hb dX9_look_23 (lv_at hl 0 rfl) ?_
  refine lv_bipush (v := 60) hx hb dX9_look_25 (by decide) ?_
  refine lv_icmp_gt (tgt := 44) hx hb dX9_look_27 (by decide) (fun q => absurd q (by decide)) (fun _ => ?_)
  refine lv_aload_n hx hb dX9_look_30 rfl (lv_at hl 2 rfl) ?_
  refine va_get (ci := 9) (v := .ref (a 51)) (C := RX9) (T := TX9) (N := 6) hx hb htA in_X9 hown hK hP 0 rfl rfl 1 (by decide) (htA _ wd_43) (fun _ h => h) rfl dX9_look_31 ?_
  refine lv_iload hx hb dX9_look_34 (lv_at hl 0 rfl) ?_
  refine lv_iconst (v := 0) hx hb dX9_look_36 (by decide) ?_
  refine va_iast hx hb hK hP hD hS 1 0 rfl rfl (in_lit (by decide)) dX9_look_37 (fun H locs hP hD hS => ?_)
  rw [fa_upd_same (f := fun _ => 0) (i := (27 : Int32).toNatClampNeg) (x := 0) (by first | decide | rfl)] at hP hD
  have hP : va_P D vwCl [((a 6), .inr (9, [.int 1, .ref (a 51), .ref (a 52), .ref (a 53), .ref (a 54), .ref (a 55)])), ((a 51), .inl (cy 0, 61, .inl (fun _ => 0))), ((a 52), .inl (cy 0, 61, .inl (fun _ => 0))), ((a 5), .inr (1, [.ref (a 40), .int 0, .int 0, .ref (a 46), .ref (a 47)])), ((a 10), .inr (0, [.int 0, .int 1, .int 1, .int 0, .int 0, .ref (a 11), .ref (a 12), .ref (a 13), .null, .null])), ((a 40), .inr (6, [.ref (a 10), .int 0, .ref (a 41), .ref (a 42), .ref (a 43), .ref (a 44), .ref (a 45), .int 0]))] H := hP
  have hD := va_ca hP hD
  refine lv_iinc (v := 28) (lv' := [(4, .int 28), (3, .int 1), (0, .ref (a 6)), (1, .ref (a 5)), (2, .int 0)]) hx hb dX9_look_38 hl (k := 0) rfl (by decide) (by decide) rfl (fun ls hl => ?_)
  refine lv_goto (tgt := 23) hx hb dX9_look_41 (by decide) ?_
  refine lv_iload hx hb dX9_look_23 (lv_at hl 0 rfl) ?_
  refine lv_bipush (v := 60) hx hb dX9_look_25 (by decide) ?_
  refine lv_icmp_gt (tgt := 44) hx hb dX9_look_27 (by decide) (fun q => absurd q (by decide)) (fun _ => ?_)
  refine lv_aload_n hx hb dX9_look_30 rfl (lv_at hl 2 rfl) ?_
  refine va_get (ci := 9) (v := .ref (a 51)) (C := RX9) (T := TX9) (N := 6) hx hb htA in_X9 hown hK hP 0 rfl rfl 1 (by decide) (htA _ wd_43) (fun _ h => h) rfl dX9_look_31 ?_
  refine lv_iload hx hb dX9_look_34 (lv_at hl 0 rfl) ?_
  refine lv_iconst (v := 0) hx hb dX9_look_36 (by decide) ?_
  refine va_iast hx hb hK hP hD hS 1 0 rfl rfl (in_lit (by decide)) dX9_look_37 (fun H locs hP hD hS => ?_)
  rw [fa_upd_same (f := fun _ => 0) (i := (28 : Int32).toNatClampNeg) (x := 0) (by first | decide | rfl)] at hP hD
  have hP : va_P D vwCl [((a 6), .inr (9, [.int 1, .ref (a 51), .ref (a 52), .ref (a 53), .ref (a 54), .ref (a 55)])), ((a 51), .inl (cy 0, 61, .inl (fun _ => 0))), ((a 52), .inl (cy 0, 61, .inl (fun _ => 0))), ((a 5), .inr (1, [.ref (a 40), .int 0, .int 0, .ref (a 46), .ref (a 47)])), ((a 10), .inr (0, [.int 0, .int 1, .int 1, .int 0, .int 0, .ref (a 11), .ref (a 12), .ref (a 13), .null, .null])), ((a 40), .inr (6, [.ref (a 10), .int 0, .ref (a 41), .ref (a 42), .ref (a 43), .ref (a 44), .ref (a 45), .int 0]))] H := hP
  have hD := va_ca hP hD
  refine lv_iinc (v := 29) (lv' := [(4, .int 29), (3, .int 1), (0, .ref (a 6)), (1, .ref (a 5)), (2, .int 0)]) hx hb dX9_look_38 hl (k := 0) rfl (by decide) (by decide) rfl (fun ls hl => ?_)
  refine lv_goto (tgt := 23) hx hb dX9_look_41 (by decide) ?_
  refine lv_iload hx hb dX9_look_23 (lv_at hl 0 rfl) ?_
  refine lv_bipush (v := 60) hx hb dX9_look_25 (by decide) ?_
  refine lv_icmp_gt (tgt := 44) hx hb dX9_look_27 (by decide) (fun q => absurd q (by decide)) (fun _ => ?_)
  refine lv_aload_n hx hb dX9_look_30 rfl (lv_at hl 2 rfl) ?_
  refine va_get (ci := 9) (v := .ref (a 51)) (C := RX9) (T := TX9) (N := 6) hx hb htA in_X9 hown hK hP 0 rfl rfl 1 (by decide) (htA _ wd_43) (fun _ h => h) rfl dX9_look_31 ?_
  refine lv_iload hx hb dX9_look_34 (lv_at hl 0 rfl) ?_
  refine lv_iconst (v := 0) hx hb dX9_look_36 (by decide) ?_
  refine va_iast hx hb hK hP hD hS 1 0 rfl rfl (in_lit (by decide)) dX9_look_37 (fun H locs hP hD hS => ?_)
  rw [fa_upd_same (f := fun _ => 0) (i := (29 : Int32).toNatClampNeg) (x := 0) (by first | decide | rfl)] at hP hD
  have hP : va_P D vwCl [((a 6), .inr (9, [.int 1, .ref (a 51), .ref (a 52), .ref (a 53), .ref (a 54), .ref (a 55)])), ((a 51), .inl (cy 0, 61, .inl (fun _ => 0))), ((a 52), .inl (cy 0, 61, .inl (fun _ => 0))), ((a 5), .inr (1, [.ref (a 40), .int 0, .int 0, .ref (a 46), .ref (a 47)])), ((a 10), .inr (0, [.int 0, .int 1, .int 1, .int 0, .int 0, .ref (a 11), .ref (a 12), .ref (a 13), .null, .null])), ((a 40), .inr (6, [.ref (a 10), .int 0, .ref (a 41), .ref (a 42), .ref (a 43), .ref (a 44), .ref (a 45), .int 0]))] H := hP
  have hD := va_ca hP hD
  refine lv_iinc (v := 30) (lv' := [(4, .int 30), (3, .int 1), (0, .ref (a 6)), (1, .ref (a 5)), (2, .int 0)]) hx hb dX9_look_38 hl (k := 0) rfl (by decide) (by decide) rfl (fun ls hl => ?_)
  refine lv_goto (tgt := 23) hx hb dX9_look_41 (by decide) ?_
  refine lv_iload hx hb dX9_look_23 (lv_at hl 0 rfl) ?_
  refine lv_bipush (v := 60) hx hb dX9_look_25 (by decide) ?_
  refine lv_icmp_gt (tgt := 44) hx hb dX9_look_27 (by decide) (fun q => absurd q (by decide)) (fun _ => ?_)
  refine lv_aload_n hx hb dX9_look_30 rfl (lv_at hl 2 rfl) ?_
  refine va_get (ci := 9) (v := .ref (a 51)) (C := RX9) (T := TX9) (N := 6) hx hb htA in_X9 hown hK hP 0 rfl rfl 1 (by decide) (htA _ wd_43) (fun _ h => h) rfl dX9_look_31 ?_
  refine lv_iload hx hb dX9_look_34 (lv_at hl 0 rfl) ?_
  refine lv_iconst (v := 0) hx hb dX9_look_36 (by decide) ?_
  refine va_iast hx hb hK hP hD hS 1 0 rfl rfl (in_lit (by decide)) dX9_look_37 (fun H locs hP hD hS => ?_)
  rw [fa_upd_same (f := fun _ => 0) (i := (30 : Int32).toNatClampNeg) (x := 0) (by first | decide | rfl)] at hP hD
  have hP : va_P D vwCl [((a 6), .inr (9, [.int 1, .ref (a 51), .ref (a 52), .ref (a 53), .ref (a 54), .ref (a 55)])), ((a 51), .inl (cy 0, 61, .inl (fun _ => 0))), ((a 52), .inl (cy 0, 61, .inl (fun _ => 0))), ((a 5), .inr (1, [.ref (a 40), .int 0, .int 0, .ref (a 46), .ref (a 47)])), ((a 10), .inr (0, [.int 0, .int 1, .int 1, .int 0, .int 0, .ref (a 11), .ref (a 12), .ref (a 13), .null, .null])), ((a 40), .inr (6, [.ref (a 10), .int 0, .ref (a 41), .ref (a 42), .ref (a 43), .ref (a 44), .ref (a 45), .int 0]))] H := hP
  have hD := va_ca hP hD
  refine lv_iinc (v := 31) (lv' := [(4, .int 31), (3, .int 1), (0, .ref (a 6)), (1, .ref (a 5)), (2, .int 0)]) hx hb dX9_look_38 hl (k := 0) rfl (by decide) (by decide) rfl (fun ls hl => ?_)
  refine lv_goto (tgt := 23) hx hb dX9_look_41 (by decide) ?_
  refine lv_iload hx hb dX9_look_23 (lv_at hl 0 rfl) ?_
  refine lv_bipush (v := 60) hx hb dX9_look_25 (by decide) ?_
  refine lv_icmp_gt (tgt := 44) hx hb dX9_look_27 (by decide) (fun q => absurd q (by decide)) (fun _ => ?_)
  refine lv_aload_n hx hb dX9_look_30 rfl (lv_at hl 2 rfl) ?_
  refine va_get (ci := 9) (v := .ref (a 51)) (C := RX9) (T := TX9) (N := 6) hx hb htA in_X9 hown hK hP 0 rfl rfl 1 (by decide) (htA _ wd_43) (fun _ h => h) rfl dX9_look_31 ?_
  refine lv_iload hx hb dX9_look_34 (lv_at hl 0 rfl) ?_
  refine lv_iconst (v := 0) hx hb dX9_look_36 (by decide) ?_
  refine va_iast hx hb hK hP hD hS 1 0 rfl rfl (in_lit (by decide)) dX9_look_37 (fun H locs hP hD hS => ?_)
  rw [fa_upd_same (f := fun _ => 0) (i := (31 : Int32).toNatClampNeg) (x := 0) (by first | decide | rfl)] at hP hD
  have hP : va_P D vwCl [((a 6), .inr (9, [.int 1, .ref (a 51), .ref (a 52), .ref (a 53), .ref (a 54), .ref (a 55)])), ((a 51), .inl (cy 0, 61, .inl (fun _ => 0))), ((a 52), .inl (cy 0, 61, .inl (fun _ => 0))), ((a 5), .inr (1, [.ref (a 40), .int 0, .int 0, .ref (a 46), .ref (a 47)])), ((a 10), .inr (0, [.int 0, .int 1, .int 1, .int 0, .int 0, .ref (a 11), .ref (a 12), .ref (a 13), .null, .null])), ((a 40), .inr (6, [.ref (a 10), .int 0, .ref (a 41), .ref (a 42), .ref (a 43), .ref (a 44), .ref (a 45), .int 0]))] H := hP
  have hD := va_ca hP hD
  refine lv_iinc (v := 32) (lv' := [(4, .int 32), (3, .int 1), (0, .ref (a 6)), (1, .ref (a 5)), (2, .int 0)]) hx hb dX9_look_38 hl (k := 0) rfl (by decide) (by decide) rfl (fun ls hl => ?_)
  refine lv_goto (tgt := 23) hx hb dX9_look_41 (by decide) ?_
  refine lv_iload hx hb dX9_look_23 (lv_at hl 0 rfl) ?_
  refine lv_bipush (v := 60) hx hb dX9_look_25 (by decide) ?_
  refine lv_icmp_gt (tgt := 44) hx hb dX9_look_27 (by decide) (fun q => absurd q (by decide)) (fun _ => ?_)
  refine lv_aload_n hx hb dX9_look_30 rfl (lv_at hl 2 rfl) ?_
  refine va_get (ci := 9) (v := .ref (a 51)) (C := RX9) (T := TX9) (N := 6) hx hb htA in_X9 hown hK hP 0 rfl rfl 1 (by decide) (htA _ wd_43) (fun _ h => h) rfl dX9_look_31 ?_
  refine lv_iload hx hb dX9_look_34 (lv_at hl 0 rfl) ?_
  refine lv_iconst (v := 0) hx hb dX9_look_36 (by decide) ?_
  refine va_iast hx hb hK hP hD hS 1 0 rfl rfl (in_lit (by decide)) dX9_look_37 (fun H locs hP hD hS => ?_)
  rw [fa_upd_same (f := fun _ => 0) (i := (32 : Int32).toNatClampNeg) (x := 0) (by first | decide | rfl)] at hP hD
  have hP : va_P D vwCl [((a 6), .inr (9, [.int 1, .ref (a 51), .ref (a 52), .ref (a 53), .ref (a 54), .ref (a 55)])), ((a 51), .inl (cy 0, 61, .inl (fun _ => 0))), ((a 52), .inl (cy 0, 61, .inl (fun _ => 0))), ((a 5), .inr (1, [.ref (a 40), .int 0, .int 0, .ref (a 46), .ref (a 47)])), ((a 10), .inr (0, [.int 0, .int 1, .int 1, .int 0, .int 0, .ref (a 11), .ref (a 12), .ref (a 13), .null, .null])), ((a 40), .inr (6, [.ref (a 10), .int 0, .ref (a 41), .ref (a 42), .ref (a 43), .ref (a 44), .ref (a 45), .int 0]))] H := hP
  have hD := va_ca hP hD
  refine lv_iinc (v := 33) (lv' := [(4, .int 33), (3, .int 1), (0, .ref (a 6)), (1, .ref (a 5)), (2, .int 0)]) hx hb dX9_look_38 hl (k := 0) rfl (by decide) (by decide) rfl (fun ls hl => ?_)
  refine lv_goto (tgt := 23) hx hb dX9_look_41 (by decide) ?_
  refine lv_iload hx hb dX9_look_23 (lv_at hl 0 rfl) ?_
  refine lv_bipush (v := 60) hx hb dX9_look_25 (by decide) ?_
  refine lv_icmp_gt (tgt := 44) hx hb dX9_look_27 (by decide) (fun q => absurd q (by decide)) (fun _ => ?_)
  refine lv_aload_n hx hb dX9_look_30 rfl (lv_at hl 2 rfl) ?_
  refine va_get (ci := 9) (v := .ref (a 51)) (C := RX9) (T := TX9) (N := 6) hx hb htA in_X9 hown hK hP 0 rfl rfl 1 (by decide) (htA _ wd_43) (fun _ h => h) rfl dX9_look_31 ?_
  refine lv_iload hx hb dX9_look_34 (lv_at hl 0 rfl) ?_
  refine lv_iconst (v := 0) hx hb dX9_look_36 (by decide) ?_
  refine va_iast hx hb hK hP hD hS 1 0 rfl rfl (in_lit (by decide)) dX9_look_37 (fun H locs hP hD hS => ?_)
  rw [fa_upd_same (f := fun _ => 0) (i := (33 : Int32).toNatClampNeg) (x := 0) (by first | decide | rfl)] at hP hD
  have hP : va_P D vwCl [((a 6), .inr (9, [.int 1, .ref (a 51), .ref (a 52), .ref (a 53), .ref (a 54), .ref (a 55)])), ((a 51), .inl (cy 0, 61, .inl (fun _ => 0))), ((a 52), .inl (cy 0, 61, .inl (fun _ => 0))), ((a 5), .inr (1, [.ref (a 40), .int 0, .int 0, .ref (a 46), .ref (a 47)])), ((a 10), .inr (0, [.int 0, .int 1, .int 1, .int 0, .int 0, .ref (a 11), .ref (a 12), .ref (a 13), .null, .null])), ((a 40), .inr (6, [.ref (a 10), .int 0, .ref (a 41), .ref (a 42), .ref (a 43), .ref (a 44), .ref (a 45), .int 0]))] H := hP
  have hD := va_ca hP hD
  refine lv_iinc (v := 34) (lv' := [(4, .int 34), (3, .int 1), (0, .ref (a 6)), (1, .ref (a 5)), (2, .int 0)]) hx hb dX9_look_38 hl (k := 0) rfl (by decide) (by decide) rfl (fun ls hl => ?_)
  refine lv_goto (tgt := 23) hx hb dX9_look_41 (by decide) ?_
  refine lv_iload hx hb dX9_look_23 (lv_at hl 0 rfl) ?_
  refine lv_bipush (v := 60) hx hb dX9_look_25 (by decide) ?_
  refine lv_icmp_gt (tgt := 44) hx hb dX9_look_27 (by decide) (fun q => absurd q (by decide)) (fun _ => ?_)
  refine lv_aload_n hx hb dX9_look_30 rfl (lv_at hl 2 rfl) ?_
  refine va_get (ci := 9) (v := .ref (a 51)) (C := RX9) (T := TX9) (N := 6) hx hb htA in_X9 hown hK hP 0 rfl rfl 1 (by decide) (htA _ wd_43) (fun _ h => h) rfl dX9_look_31 ?_
  refine lv_iload hx hb dX9_look_34 (lv_at hl 0 rfl) ?_
  refine lv_iconst (v := 0) hx hb dX9_look_36 (by decide) ?_
  refine va_iast hx hb hK hP hD hS 1 0 rfl rfl (in_lit (by decide)) dX9_look_37 (fun H locs hP hD hS => ?_)
  rw [fa_upd_same (f := fun _ => 0) (i := (34 : Int32).toNatClampNeg) (x := 0) (by first | decide | rfl)] at hP hD
  have hP : va_P D vwCl [((a 6), .inr (9, [.int 1, .ref (a 51), .ref (a 52), .ref (a 53), .ref (a 54), .ref (a 55)])), ((a 51), .inl (cy 0, 61, .inl (fun _ => 0))), ((a 52), .inl (cy 0, 61, .inl (fun _ => 0))), ((a 5), .inr (1, [.ref (a 40), .int 0, .int 0, .ref (a 46), .ref (a 47)])), ((a 10), .inr (0, [.int 0, .int 1, .int 1, .int 0, .int 0, .ref (a 11), .ref (a 12), .ref (a 13), .null, .null])), ((a 40), .inr (6, [.ref (a 10), .int 0, .ref (a 41), .ref (a 42), .ref (a 43), .ref (a 44), .ref (a 45), .int 0]))] H := hP
  have hD := va_ca hP hD
  refine lv_iinc (v := 35) (lv' := [(4, .int 35), (3, .int 1), (0, .ref (a 6)), (1, .ref (a 5)), (2, .int 0)]) hx hb dX9_look_38 hl (k := 0) rfl (by decide) (by decide) rfl (fun ls hl => ?_)
  refine lv_goto (tgt := 23) hx hb dX9_look_41 (by decide) ?_
  refine lv_iload hx hb dX9_look_23 (lv_at hl 0 rfl) ?_
  refine lv_bipush (v := 60) hx hb dX9_look_25 (by decide) ?_
  refine lv_icmp_gt (tgt := 44) hx hb dX9_look_27 (by decide) (fun q => absurd q (by decide)) (fun _ => ?_)
  refine lv_aload_n hx hb dX9_look_30 rfl (lv_at hl 2 rfl) ?_
  refine va_get (ci := 9) (v := .ref (a 51)) (C := RX9) (T := TX9) (N := 6) hx hb htA in_X9 hown hK hP 0 rfl rfl 1 (by decide) (htA _ wd_43) (fun _ h => h) rfl dX9_look_31 ?_
  refine lv_iload hx hb dX9_look_34 (lv_at hl 0 rfl) ?_
  refine lv_iconst (v := 0) hx hb dX9_look_36 (by decide) ?_
  refine va_iast hx hb hK hP hD hS 1 0 rfl rfl (in_lit (by decide)) dX9_look_37 (fun H locs hP hD hS => ?_)
  rw [fa_upd_same (f := fun _ => 0) (i := (35 : Int32).toNatClampNeg) (x := 0) (by first | decide | rfl)] at hP hD
  have hP : va_P D vwCl [((a 6), .inr (9, [.int 1, .ref (a 51), .ref (a 52), .ref (a 53), .ref (a 54), .ref (a 55)])), ((a 51), .inl (cy 0, 61, .inl (fun _ => 0))), ((a 52), .inl (cy 0, 61, .inl (fun _ => 0))), ((a 5), .inr (1, [.ref (a 40), .int 0, .int 0, .ref (a 46), .ref (a 47)])), ((a 10), .inr (0, [.int 0, .int 1, .int 1, .int 0, .int 0, .ref (a 11), .ref (a 12), .ref (a 13), .null, .null])), ((a 40), .inr (6, [.ref (a 10), .int 0, .ref (a 41), .ref (a 42), .ref (a 43), .ref (a 44), .ref (a 45), .int 0]))] H := hP
  have hD := va_ca hP hD
  refine lv_iinc (v := 36) (lv' := [(4, .int 36), (3, .int 1), (0, .ref (a 6)), (1, .ref (a 5)), (2, .int 0)]) hx hb dX9_look_38 hl (k := 0) rfl (by decide) (by decide) rfl (fun ls hl => ?_)
  refine lv_goto (tgt := 23) hx hb dX9_look_41 (by decide) ?_
  refine lv_iload hx hb dX9_look_23 (lv_at hl 0 rfl) ?_
  refine lv_bipush (v := 60) hx hb dX9_look_25 (by decide) ?_
  refine lv_icmp_gt (tgt := 44) hx hb dX9_look_27 (by decide) (fun q => absurd q (by decide)) (fun _ => ?_)
  refine lv_aload_n hx hb dX9_look_30 rfl (lv_at hl 2 rfl) ?_
  refine va_get (ci := 9) (v := .ref (a 51)) (C := RX9) (T := TX9) (N := 6) hx hb htA in_X9 hown hK hP 0 rfl rfl 1 (by decide) (htA _ wd_43) (fun _ h => h) rfl dX9_look_31 ?_
  refine lv_iload hx hb dX9_look_34 (lv_at hl 0 rfl) ?_
  refine lv_iconst (v := 0) hx hb dX9_look_36 (by decide) ?_
  refine va_iast hx hb hK hP hD hS 1 0 rfl rfl (in_lit (by decide)) dX9_look_37 (fun H locs hP hD hS => ?_)
  rw [fa_upd_same (f := fun _ => 0) (i := (36 : Int32).toNatClampNeg) (x := 0) (by first | decide | rfl)] at hP hD
  have hP : va_P D vwCl [((a 6), .inr (9, [.int 1, .ref (a 51), .ref (a 52), .ref (a 53), .ref (a 54), .ref (a 55)])), ((a 51), .inl (cy 0, 61, .inl (fun _ => 0))), ((a 52), .inl (cy 0, 61, .inl (fun _ => 0))), ((a 5), .inr (1, [.ref (a 40), .int 0, .int 0, .ref (a 46), .ref (a 47)])), ((a 10), .inr (0, [.int 0, .int 1, .int 1, .int 0, .int 0, .ref (a 11), .ref (a 12), .ref (a 13), .null, .null])), ((a 40), .inr (6, [.ref (a 10), .int 0, .ref (a 41), .ref (a 42), .ref (a 43), .ref (a 44), .ref (a 45), .int 0]))] H := hP
  have hD := va_ca hP hD
  refine lv_iinc (v := 37) (lv' := [(4, .int 37), (3, .int 1), (0, .ref (a 6)), (1, .ref (a 5)), (2, .int 0)]) hx hb dX9_look_38 hl (k := 0) rfl (by decide) (by decide) rfl (fun ls hl => ?_)
  refine lv_goto (tgt := 23) hx hb dX9_look_41 (by decide) ?_
  refine lv_iload hx hb dX9_look_23 (lv_at hl 0 rfl) ?_
  refine lv_bipush (v := 60) hx hb dX9_look_25 (by decide) ?_
  refine lv_icmp_gt (tgt := 44) hx hb dX9_look_27 (by decide) (fun q => absurd q (by decide)) (fun _ => ?_)
  refine lv_aload_n hx hb dX9_look_30 rfl (lv_at hl 2 rfl) ?_
  refine va_get (ci := 9) (v := .ref (a 51)) (C := RX9) (T := TX9) (N := 6) hx hb htA in_X9 hown hK hP 0 rfl rfl 1 (by decide) (htA _ wd_43) (fun _ h => h) rfl dX9_look_31 ?_
  refine lv_iload hx hb dX9_look_34 (lv_at hl 0 rfl) ?_
  refine lv_iconst (v := 0) hx hb dX9_look_36 (by decide) ?_
  refine va_iast hx hb hK hP hD hS 1 0 rfl rfl (in_lit (by decide)) dX9_look_37 (fun H locs hP hD hS => ?_)
  rw [fa_upd_same (f := fun _ => 0) (i := (37 : Int32).toNatClampNeg) (x := 0) (by first | decide | rfl)] at hP hD
  have hP : va_P D vwCl [((a 6), .inr (9, [.int 1, .ref (a 51), .ref (a 52), .ref (a 53), .ref (a 54), .ref (a 55)])), ((a 51), .inl (cy 0, 61, .inl (fun _ => 0))), ((a 52), .inl (cy 0, 61, .inl (fun _ => 0))), ((a 5), .inr (1, [.ref (a 40), .int 0, .int 0, .ref (a 46), .ref (a 47)])), ((a 10), .inr (0, [.int 0, .int 1, .int 1, .int 0, .int 0, .ref (a 11), .ref (a 12), .ref (a 13), .null, .null])), ((a 40), .inr (6, [.ref (a 10), .int 0, .ref (a 41), .ref (a 42), .ref (a 43), .ref (a 44), .ref (a 45), .int 0]))] H := hP
  have hD := va_ca hP hD
  refine lv_iinc (v := 38) (lv' := [(4, .int 38), (3, .int 1), (0, .ref (a 6)), (1, .ref (a 5)), (2, .int 0)]) hx hb dX9_look_38 hl (k := 0) rfl (by decide) (by decide) rfl (fun ls hl => ?_)
  refine lv_goto (tgt := 23) hx hb dX9_look_41 (by decide) ?_
  refine lv_iload hx hb dX9_look_23 (lv_at hl 0 rfl) ?_
  refine lv_bipush (v := 60) hx hb dX9_look_25 (by decide) ?_
  refine lv_icmp_gt (tgt := 44) hx hb dX9_look_27 (by decide) (fun q => absurd q (by decide)) (fun _ => ?_)
  refine lv_aload_n hx hb dX9_look_30 rfl (lv_at hl 2 rfl) ?_
  refine va_get (ci := 9) (v := .ref (a 51)) (C := RX9) (T := TX9) (N := 6) hx hb htA in_X9 hown hK hP 0 rfl rfl 1 (by decide) (htA _ wd_43) (fun _ h => h) rfl dX9_look_31 ?_
  refine lv_iload hx hb dX9_look_34 (lv_at hl 0 rfl) ?_
  refine lv_iconst (v := 0) hx hb dX9_look_36 (by decide) ?_
  refine va_iast hx hb hK hP hD hS 1 0 rfl rfl (in_lit (by decide)) dX9_look_37 (fun H locs hP hD hS => ?_)
  rw [fa_upd_same (f := fun _ => 0) (i := (38 : Int32).toNatClampNeg) (x := 0) (by first | decide | rfl)] at hP hD
  have hP : va_P D vwCl [((a 6), .inr (9, [.int 1, .ref (a 51), .ref (a 52), .ref (a 53), .ref (a 54), .ref (a 55)])), ((a 51), .inl (cy 0, 61, .inl (fun _ => 0))), ((a 52), .inl (cy 0, 61, .inl (fun _ => 0))), ((a 5), .inr (1, [.ref (a 40), .int 0, .int 0, .ref (a 46), .ref (a 47)])), ((a 10), .inr (0, [.int 0, .int 1, .int 1, .int 0, .int 0, .ref (a 11), .ref (a 12), .ref (a 13), .null, .null])), ((a 40), .inr (6, [.ref (a 10), .int 0, .ref (a 41), .ref (a 42), .ref (a 43), .ref (a 44), .ref (a 45), .int 0]))] H := hP
  have hD := va_ca hP hD
  refine lv_iinc (v := 39) (lv' := [(4, .int 39), (3, .int 1), (0, .ref (a 6)), (1, .ref (a 5)), (2, .int 0)]) hx hb dX9_look_38 hl (k := 0) rfl (by decide) (by decide) rfl (fun ls hl => ?_)
  refine lv_goto (tgt := 23) hx hb dX9_look_41 (by decide) ?_
  refine lv_iload hx hb dX9_look_23 (lv_at hl 0 rfl) ?_
  refine lv_bipush (v := 60) hx hb dX9_look_25 (by decide) ?_
  refine lv_icmp_gt (tgt := 44) hx hb dX9_look_27 (by decide) (fun q => absurd q (by decide)) (fun _ => ?_)
  refine lv_aload_n hx hb dX9_look_30 rfl (lv_at hl 2 rfl) ?_
  refine va_get (ci := 9) (v := .ref (a 51)) (C := RX9) (T := TX9) (N := 6) hx hb htA in_X9 hown hK hP 0 rfl rfl 1 (by decide) (htA _ wd_43) (fun _ h => h) rfl dX9_look_31 ?_
  refine lv_iload hx hb dX9_look_34 (lv_at hl 0 rfl) ?_
  refine lv_iconst (v := 0) hx hb dX9_look_36 (by decide) ?_
  refine va_iast hx hb hK hP hD hS 1 0 rfl rfl (in_lit (by decide)) dX9_look_37 (fun H locs hP hD hS => ?_)
  rw [fa_upd_same (f := fun _ => 0) (i := (39 : Int32).toNatClampNeg) (x := 0) (by first | decide | rfl)] at hP hD
  have hP : va_P D vwCl [((a 6), .inr (9, [.int 1, .ref (a 51), .ref (a 52), .ref (a 53), .ref (a 54), .ref (a 55)])), ((a 51), .inl (cy 0, 61, .inl (fun _ => 0))), ((a 52), .inl (cy 0, 61, .inl (fun _ => 0))), ((a 5), .inr (1, [.ref (a 40), .int 0, .int 0, .ref (a 46), .ref (a 47)])), ((a 10), .inr (0, [.int 0, .int 1, .int 1, .int 0, .int 0, .ref (a 11), .ref (a 12), .ref (a 13), .null, .null])), ((a 40), .inr (6, [.ref (a 10), .int 0, .ref (a 41), .ref (a 42), .ref (a 43), .ref (a 44), .ref (a 45), .int 0]))] H := hP
  have hD := va_ca hP hD
  refine lv_iinc (v := 40) (lv' := [(4, .int 40), (3, .int 1), (0, .ref (a 6)), (1, .ref (a 5)), (2, .int 0)]) hx hb dX9_look_38 hl (k := 0) rfl (by decide) (by decide) rfl (fun ls hl => ?_)
  refine lv_goto (tgt := 23) hx hb dX9_look_41 (by decide) ?_
  refine lv_iload hx hb dX9_look_23 (lv_at hl 0 rfl) ?_
  refine lv_bipush (v := 60) hx hb dX9_look_25 (by decide) ?_
  refine lv_icmp_gt (tgt := 44) hx hb dX9_look_27 (by decide) (fun q => absurd q (by decide)) (fun _ => ?_)
  refine lv_aload_n hx hb dX9_look_30 rfl (lv_at hl 2 rfl) ?_
  refine va_get (ci := 9) (v := .ref (a 51)) (C := RX9) (T := TX9) (N := 6) hx hb htA in_X9 hown hK hP 0 rfl rfl 1 (by decide) (htA _ wd_43) (fun _ h => h) rfl dX9_look_31 ?_
  refine lv_iload hx hb dX9_look_34 (lv_at hl 0 rfl) ?_
  refine lv_iconst (v := 0) hx hb dX9_look_36 (by decide) ?_
  refine va_iast hx hb hK hP hD hS 1 0 rfl rfl (in_lit (by decide)) dX9_look_37 (fun H locs hP hD hS => ?_)
  rw [fa_upd_same (f := fun _ => 0) (i := (40 : Int32).toNatClampNeg) (x := 0) (by first | decide | rfl)] at hP hD
  have hP : va_P D vwCl [((a 6), .inr (9, [.int 1, .ref (a 51), .ref (a 52), .ref (a 53), .ref (a 54), .ref (a 55)])), ((a 51), .inl (cy 0, 61, .inl (fun _ => 0))), ((a 52), .inl (cy 0, 61, .inl (fun _ => 0))), ((a 5), .inr (1, [.ref (a 40), .int 0, .int 0, .ref (a 46), .ref (a 47)])), ((a 10), .inr (0, [.int 0, .int 1, .int 1, .int 0, .int 0, .ref (a 11), .ref (a 12), .ref (a 13), .null, .null])), ((a 40), .inr (6, [.ref (a 10), .int 0, .ref (a 41), .ref (a 42), .ref (a 43), .ref (a 44), .ref (a 45), .int 0]))] H := hP
  have hD := va_ca hP hD
  refine lv_iinc (v := 41) (lv' := [(4, .int 41), (3, .int 1), (0, .ref (a 6)), (1, .ref (a 5)), (2, .int 0)]) hx hb dX9_look_38 hl (k := 0) rfl (by decide) (by decide) rfl (fun ls hl => ?_)
  refine lv_goto (tgt := 23) hx hb dX9_look_41 (by decide) ?_
  refine lv_iload hx hb dX9_look_23 (lv_at hl 0 rfl) ?_
  refine lv_bipush (v := 60) hx hb dX9_look_25 (by decide) ?_
  refine lv_icmp_gt (tgt := 44) hx hb dX9_look_27 (by decide) (fun q => absurd q (by decide)) (fun _ => ?_)
  refine lv_aload_n hx hb dX9_look_30 rfl (lv_at hl 2 rfl) ?_
  refine va_get (ci := 9) (v := .ref (a 51)) (C := RX9) (T := TX9) (N := 6) hx hb htA in_X9 hown hK hP 0 rfl rfl 1 (by decide) (htA _ wd_43) (fun _ h => h) rfl dX9_look_31 ?_
  refine lv_iload hx hb dX9_look_34 (lv_at hl 0 rfl) ?_
  refine lv_iconst (v := 0) hx hb dX9_look_36 (by decide) ?_
  refine va_iast hx hb hK hP hD hS 1 0 rfl rfl (in_lit (by decide)) dX9_look_37 (fun H locs hP hD hS => ?_)
  rw [fa_upd_same (f := fun _ => 0) (i := (41 : Int32).toNatClampNeg) (x := 0) (by first | decide | rfl)] at hP hD
  have hP : va_P D vwCl [((a 6), .inr (9, [.int 1, .ref (a 51), .ref (a 52), .ref (a 53), .ref (a 54), .ref (a 55)])), ((a 51), .inl (cy 0, 61, .inl (fun _ => 0))), ((a 52), .inl (cy 0, 61, .inl (fun _ => 0))), ((a 5), .inr (1, [.ref (a 40), .int 0, .int 0, .ref (a 46), .ref (a 47)])), ((a 10), .inr (0, [.int 0, .int 1, .int 1, .int 0, .int 0, .ref (a 11), .ref (a 12), .ref (a 13), .null, .null])), ((a 40), .inr (6, [.ref (a 10), .int 0, .ref (a 41), .ref (a 42), .ref (a 43), .ref (a 44), .ref (a 45), .int 0]))] H := hP
  have hD := va_ca hP hD
  refine lv_iinc (v := 42) (lv' := [(4, .int 42), (3, .int 1), (0, .ref (a 6)), (1, .ref (a 5)), (2, .int 0)]) hx hb dX9_look_38 hl (k := 0) rfl (by decide) (by decide) rfl (fun ls hl => ?_)
  refine lv_goto (tgt := 23) hx hb dX9_look_41 (by decide) ?_
  refine lv_iload hx hb dX9_look_23 (lv_at hl 0 rfl) ?_
  refine lv_bipush (v := 60) hx hb dX9_look_25 (by decide) ?_
  refine lv_icmp_gt (tgt := 44) hx hb dX9_look_27 (by decide) (fun q => absurd q (by decide)) (fun _ => ?_)
  refine lv_aload_n hx hb dX9_look_30 rfl (lv_at hl 2 rfl) ?_
  refine va_get (ci := 9) (v := .ref (a 51)) (C := RX9) (T := TX9) (N := 6) hx hb htA in_X9 hown hK hP 0 rfl rfl 1 (by decide) (htA _ wd_43) (fun _ h => h) rfl dX9_look_31 ?_
  refine lv_iload hx hb dX9_look_34 (lv_at hl 0 rfl) ?_
  refine lv_iconst (v := 0) hx hb dX9_look_36 (by decide) ?_
  refine va_iast hx hb hK hP hD hS 1 0 rfl rfl (in_lit (by decide)) dX9_look_37 (fun H locs hP hD hS => ?_)
  rw [fa_upd_same (f := fun _ => 0) (i := (42 : Int32).toNatClampNeg) (x := 0) (by first | decide | rfl)] at hP hD
  have hP : va_P D vwCl [((a 6), .inr (9, [.int 1, .ref (a 51), .ref (a 52), .ref (a 53), .ref (a 54), .ref (a 55)])), ((a 51), .inl (cy 0, 61, .inl (fun _ => 0))), ((a 52), .inl (cy 0, 61, .inl (fun _ => 0))), ((a 5), .inr (1, [.ref (a 40), .int 0, .int 0, .ref (a 46), .ref (a 47)])), ((a 10), .inr (0, [.int 0, .int 1, .int 1, .int 0, .int 0, .ref (a 11), .ref (a 12), .ref (a 13), .null, .null])), ((a 40), .inr (6, [.ref (a 10), .int 0, .ref (a 41), .ref (a 42), .ref (a 43), .ref (a 44), .ref (a 45), .int 0]))] H := hP
  have hD := va_ca hP hD
  refine lv_iinc (v := 43) (lv' := [(4, .int 43), (3, .int 1), (0, .ref (a 6)), (1, .ref (a 5)), (2, .int 0)]) hx hb dX9_look_38 hl (k := 0) rfl (by decide) (by decide) rfl (fun ls hl => ?_)
  refine lv_goto (tgt := 23) hx hb dX9_look_41 (by decide) ?_
  refine lv_iload hx hb dX9_look_23 (lv_at hl 0 rfl) ?_
  refine lv_bipush (v := 60) hx hb dX9_look_25 (by decide) ?_
  refine lv_icmp_gt (tgt := 44) hx hb dX9_look_27 (by decide) (fun q => absurd q (by decide)) (fun _ => ?_)
  refine lv_aload_n hx hb dX9_look_30 rfl (lv_at hl 2 rfl) ?_
  refine va_get (ci := 9) (v := .ref (a 51)) (C := RX9) (T := TX9) (N := 6) hx hb htA in_X9 hown hK hP 0 rfl rfl 1 (by decide) (htA _ wd_43) (fun _ h => h) rfl dX9_look_31 ?_
  refine lv_iload hx hb dX9_look_34 (lv_at hl 0 rfl) ?_
  refine lv_iconst (v := 0) hx hb dX9_look_36 (by decide) ?_
  refine va_iast hx hb hK hP hD hS 1 0 rfl rfl (in_lit (by decide)) dX9_look_37 (fun H locs hP hD hS => ?_)
  rw [fa_upd_same (f := fun _ => 0) (i := (43 : Int32).toNatClampNeg) (x := 0) (by first | decide | rfl)] at hP hD
  have hP : va_P D vwCl [((a 6), .inr (9, [.int 1, .ref (a 51), .ref (a 52), .ref (a 53), .ref (a 54), .ref (a 55)])), ((a 51), .inl (cy 0, 61, .inl (fun _ => 0))), ((a 52), .inl (cy 0, 61, .inl (fun _ => 0))), ((a 5), .inr (1, [.ref (a 40), .int 0, .int 0, .ref (a 46), .ref (a 47)])), ((a 10), .inr (0, [.int 0, .int 1, .int 1, .int 0, .int 0, .ref (a 11), .ref (a 12), .ref (a 13), .null, .null])), ((a 40), .inr (6, [.ref (a 10), .int 0, .ref (a 41), .ref (a 42), .ref (a 43), .ref (a 44), .ref (a 45), .int 0]))] H := hP
  have hD := va_ca hP hD
  refine lv_iinc (v := 44) (lv' := [(4, .int 44), (3, .int 1), (0, .ref (a 6)), (1, .ref (a 5)), (2, .int 0)]) hx hb dX9_look_38 hl (k := 0) rfl (by decide) (by decide) rfl (fun ls hl => ?_)
  refine lv_goto (tgt := 23) hx hb dX9_look_41 (by decide) ?_
  refine lv_iload hx hb dX9_look_23 (lv_at hl 0 rfl) ?_
  refine lv_bipush (v := 60) hx hb dX9_look_25 (by decide) ?_
  refine lv_icmp_gt (tgt := 44) hx hb dX9_look_27 (by decide) (fun q => absurd q (by decide)) (fun _ => ?_)
  refine lv_aload_n hx hb dX9_look_30 rfl (lv_at hl 2 rfl) ?_
  refine va_get (ci := 9) (v := .ref (a 51)) (C := RX9) (T := TX9) (N := 6) hx hb htA in_X9 hown hK hP 0 rfl rfl 1 (by decide) (htA _ wd_43) (fun _ h => h) rfl dX9_look_31 ?_
  refine lv_iload hx hb dX9_look_34 (lv_at hl 0 rfl) ?_
  refine lv_iconst (v := 0) hx hb dX9_look_36 (by decide) ?_
  refine va_iast hx hb hK hP hD hS 1 0 rfl rfl (in_lit (by decide)) dX9_look_37 (fun H locs hP hD hS => ?_)
  rw [fa_upd_same (f := fun _ => 0) (i := (44 : Int32).toNatClampNeg) (x := 0) (by first | decide | rfl)] at hP hD
  have hP : va_P D vwCl [((a 6), .inr (9, [.int 1, .ref (a 51), .ref (a 52), .ref (a 53), .ref (a 54), .ref (a 55)])), ((a 51), .inl (cy 0, 61, .inl (fun _ => 0))), ((a 52), .inl (cy 0, 61, .inl (fun _ => 0))), ((a 5), .inr (1, [.ref (a 40), .int 0, .int 0, .ref (a 46), .ref (a 47)])), ((a 10), .inr (0, [.int 0, .int 1, .int 1, .int 0, .int 0, .ref (a 11), .ref (a 12), .ref (a 13), .null, .null])), ((a 40), .inr (6, [.ref (a 10), .int 0, .ref (a 41), .ref (a 42), .ref (a 43), .ref (a 44), .ref (a 45), .int 0]))] H := hP
  have hD := va_ca hP hD
  refine lv_iinc (v := 45) (lv' := [(4, .int 45), (3, .int 1), (0, .ref (a 6)), (1, .ref (a 5)), (2, .int 0)]) hx hb dX9_look_38 hl (k := 0) rfl (by decide) (by decide) rfl (fun ls hl => ?_)
  refine lv_goto (tgt := 23) hx hb dX9_look_41 (by decide) ?_
  refine lv_iload hx hb dX9_look_23 (lv_at hl 0 rfl) ?_
  refine lv_bipush (v := 60) hx hb dX9_look_25 (by decide) ?_
  refine lv_icmp_gt (tgt := 44) hx hb dX9_look_27 (by decide) (fun q => absurd q (by decide)) (fun _ => ?_)
  refine lv_aload_n hx hb dX9_look_30 rfl (lv_at hl 2 rfl) ?_
  refine va_get (ci := 9) (v := .ref (a 51)) (C := RX9) (T := TX9) (N := 6) hx hb htA in_X9 hown hK hP 0 rfl rfl 1 (by decide) (htA _ wd_43) (fun _ h => h) rfl dX9_look_31 ?_
  refine lv_iload hx hb dX9_look_34 (lv_at hl 0 rfl) ?_
  refine lv_iconst (v := 0) hx hb dX9_look_36 (by decide) ?_
  refine va_iast hx hb hK hP hD hS 1 0 rfl rfl (in_lit (by decide)) dX9_look_37 (fun H locs hP hD hS => ?_)
  rw [fa_upd_same (f := fun _ => 0) (i := (45 : Int32).toNatClampNeg) (x := 0) (by first | decide | rfl)] at hP hD
  have hP : va_P D vwCl [((a 6), .inr (9, [.int 1, .ref (a 51), .ref (a 52), .ref (a 53), .ref (a 54), .ref (a 55)])), ((a 51), .inl (cy 0, 61, .inl (fun _ => 0))), ((a 52), .inl (cy 0, 61, .inl (fun _ => 0))), ((a 5), .inr (1, [.ref (a 40), .int 0, .int 0, .ref (a 46), .ref (a 47)])), ((a 10), .inr (0, [.int 0, .int 1, .int 1, .int 0, .int 0, .ref (a 11), .ref (a 12), .ref (a 13), .null, .null])), ((a 40), .inr (6, [.ref (a 10), .int 0, .ref (a 41), .ref (a 42), .ref (a 43), .ref (a 44), .ref (a 45), .int 0]))] H := hP
  have hD := va_ca hP hD
  refine lv_iinc (v := 46) (lv' := [(4, .int 46), (3, .int 1), (0, .ref (a 6)), (1, .ref (a 5)), (2, .int 0)]) hx hb dX9_look_38 hl (k := 0) rfl (by decide) (by decide) rfl (fun ls hl => ?_)
  refine lv_goto (tgt := 23) hx hb dX9_look_41 (by decide) ?_
  refine lv_iload hx hb dX9_look_23 (lv_at hl 0 rfl) ?_
  refine lv_bipush (v := 60) hx hb dX9_look_25 (by decide) ?_
  refine lv_icmp_gt (tgt := 44) hx hb dX9_look_27 (by decide) (fun q => absurd q (by decide)) (fun _ => ?_)
  refine lv_aload_n hx hb dX9_look_30 rfl (lv_at hl 2 rfl) ?_
  refine va_get (ci := 9) (v := .ref (a 51)) (C := RX9) (T := TX9) (N := 6) hx hb htA in_X9 hown hK hP 0 rfl rfl 1 (by decide) (htA _ wd_43) (fun _ h => h) rfl dX9_look_31 ?_
  refine lv_iload hx hb dX9_look_34 (lv_at hl 0 rfl) ?_
  refine lv_iconst (v := 0) hx hb dX9_look_36 (by decide) ?_
  refine va_iast hx hb hK hP hD hS 1 0 rfl rfl (in_lit (by decide)) dX9_look_37 (fun H locs hP hD hS => ?_)
  rw [fa_upd_same (f := fun _ => 0) (i := (46 : Int32).toNatClampNeg) (x := 0) (by first | decide | rfl)] at hP hD
  have hP : va_P D vwCl [((a 6), .inr (9, [.int 1, .ref (a 51), .ref (a 52), .ref (a 53), .ref (a 54), .ref (a 55)])), ((a 51), .inl (cy 0, 61, .inl (fun _ => 0))), ((a 52), .inl (cy 0, 61, .inl (fun _ => 0))), ((a 5), .inr (1, [.ref (a 40), .int 0, .int 0, .ref (a 46), .ref (a 47)])), ((a 10), .inr (0, [.int 0, .int 1, .int 1, .int 0, .int 0, .ref (a 11), .ref (a 12), .ref (a 13), .null, .null])), ((a 40), .inr (6, [.ref (a 10), .int 0, .ref (a 41), .ref (a 42), .ref (a 43), .ref (a 44), .ref (a 45), .int 0]))] H := hP
  have hD := va_ca hP hD
  refine lv_iinc (v := 47) (lv' := [(4, .int 47), (3, .int 1), (0, .ref (a 6)), (1, .ref (a 5)), (2, .int 0)]) hx hb dX9_look_38 hl (k := 0) rfl (by decide) (by decide) rfl (fun ls hl => ?_)
  refine lv_goto (tgt := 23) hx hb dX9_look_41 (by decide) ?_
  refine lv_iload hx hb dX9_look_23 (lv_at hl 0 rfl) ?_
  refine lv_bipush (v := 60) hx hb dX9_look_25 (by decide) ?_
  refine lv_icmp_gt (tgt := 44) hx hb dX9_look_27 (by decide) (fun q => absurd q (by decide)) (fun _ => ?_)
  refine lv_aload_n hx hb dX9_look_30 rfl (lv_at hl 2 rfl) ?_
  refine va_get (ci := 9) (v := .ref (a 51)) (C := RX9) (T := TX9) (N := 6) hx hb htA in_X9 hown hK hP 0 rfl rfl 1 (by decide) (htA _ wd_43) (fun _ h => h) rfl dX9_look_31 ?_
  refine lv_iload hx hb dX9_look_34 (lv_at hl 0 rfl) ?_
  refine lv_iconst (v := 0) hx hb dX9_look_36 (by decide) ?_
  refine va_iast hx hb hK hP hD hS 1 0 rfl rfl (in_lit (by decide)) dX9_look_37 (fun H locs hP hD hS => ?_)
  rw [fa_upd_same (f := fun _ => 0) (i := (47 : Int32).toNatClampNeg) (x := 0) (by first | decide | rfl)] at hP hD
  have hP : va_P D vwCl [((a 6), .inr (9, [.int 1, .ref (a 51), .ref (a 52), .ref (a 53), .ref (a 54), .ref (a 55)])), ((a 51), .inl (cy 0, 61, .inl (fun _ => 0))), ((a 52), .inl (cy 0, 61, .inl (fun _ => 0))), ((a 5), .inr (1, [.ref (a 40), .int 0, .int 0, .ref (a 46), .ref (a 47)])), ((a 10), .inr (0, [.int 0, .int 1, .int 1, .int 0, .int 0, .ref (a 11), .ref (a 12), .ref (a 13), .null, .null])), ((a 40), .inr (6, [.ref (a 10), .int 0, .ref (a 41), .ref (a 42), .ref (a 43), .ref (a 44), .ref (a 45), .int 0]))] H := hP
  have hD := va_ca hP hD
  refine lv_iinc (v := 48) (lv' := [(4, .int 48), (3, .int 1), (0, .ref (a 6)), (1, .ref (a 5)), (2, .int 0)]) hx hb dX9_look_38 hl (k := 0) rfl (by decide) (by decide) rfl (fun ls hl => ?_)
  refine lv_goto (tgt := 23) hx hb dX9_look_41 (by decide) ?_
  refine lv_iload hx hb dX9_look_23 (lv_at hl 0 rfl) ?_
  refine lv_bipush (v := 60) hx hb dX9_look_25 (by decide) ?_
  refine lv_icmp_gt (tgt := 44) hx hb dX9_look_27 (by decide) (fun q => absurd q (by decide)) (fun _ => ?_)
  refine lv_aload_n hx hb dX9_look_30 rfl (lv_at hl 2 rfl) ?_
  refine va_get (ci := 9) (v := .ref (a 51)) (C := RX9) (T := TX9) (N := 6) hx hb htA in_X9 hown hK hP 0 rfl rfl 1 (by decide) (htA _ wd_43) (fun _ h => h) rfl dX9_look_31 ?_
  refine lv_iload hx hb dX9_look_34 (lv_at hl 0 rfl) ?_
  refine lv_iconst (v := 0) hx hb dX9_look_36 (by decide) ?_
  refine va_iast hx hb hK hP hD hS 1 0 rfl rfl (in_lit (by decide)) dX9_look_37 (fun H locs hP hD hS => ?_)
  rw [fa_upd_same (f := fun _ => 0) (i := (48 : Int32).toNatClampNeg) (x := 0) (by first | decide | rfl)] at hP hD
  have hP : va_P D vwCl [((a 6), .inr (9, [.int 1, .ref (a 51), .ref (a 52), .ref (a 53), .ref (a 54), .ref (a 55)])), ((a 51), .inl (cy 0, 61, .inl (fun _ => 0))), ((a 52), .inl (cy 0, 61, .inl (fun _ => 0))), ((a 5), .inr (1, [.ref (a 40), .int 0, .int 0, .ref (a 46), .ref (a 47)])), ((a 10), .inr (0, [.int 0, .int 1, .int 1, .int 0, .int 0, .ref (a 11), .ref (a 12), .ref (a 13), .null, .null])), ((a 40), .inr (6, [.ref (a 10), .int 0, .ref (a 41), .ref (a 42), .ref (a 43), .ref (a 44), .ref (a 45), .int 0]))] H := hP
  have hD := va_ca hP hD
  refine lv_iinc (v := 49) (lv' := [(4, .int 49), (3, .int 1), (0, .ref (a 6)), (1, .ref (a 5)), (2, .int 0)]) hx hb dX9_look_38 hl (k := 0) rfl (by decide) (by decide) rfl (fun ls hl => ?_)
  refine lv_goto (tgt := 23) hx hb dX9_look_41 (by decide) ?_
  refine lv_iload hx hb dX9_look_23 (lv_at hl 0 rfl) ?_
  refine lv_bipush (v := 60) hx hb dX9_look_25 (by decide) ?_
  refine lv_icmp_gt (tgt := 44) hx hb dX9_look_27 (by decide) (fun q => absurd q (by decide)) (fun _ => ?_)
  refine lv_aload_n hx hb dX9_look_30 rfl (lv_at hl 2 rfl) ?_
  refine va_get (ci := 9) (v := .ref (a 51)) (C := RX9) (T := TX9) (N := 6) hx hb htA in_X9 hown hK hP 0 rfl rfl 1 (by decide) (htA _ wd_43) (fun _ h => h) rfl dX9_look_31 ?_
  refine lv_iload hx hb dX9_look_34 (lv_at hl 0 rfl) ?_
  refine lv_iconst (v := 0) hx hb dX9_look_36 (by decide) ?_
  refine va_iast hx hb hK hP hD hS 1 0 rfl rfl (in_lit (by decide)) dX9_look_37 (fun H locs hP hD hS => ?_)
  rw [fa_upd_same (f := fun _ => 0) (i := (49 : Int32).toNatClampNeg) (x := 0) (by first | decide | rfl)] at hP hD
  have hP : va_P D vwCl [((a 6), .inr (9, [.int 1, .ref (a 51), .ref (a 52), .ref (a 53), .ref (a 54), .ref (a 55)])), ((a 51), .inl (cy 0, 61, .inl (fun _ => 0))), ((a 52), .inl (cy 0, 61, .inl (fun _ => 0))), ((a 5), .inr (1, [.ref (a 40), .int 0, .int 0, .ref (a 46), .ref (a 47)])), ((a 10), .inr (0, [.int 0, .int 1, .int 1, .int 0, .int 0, .ref (a 11), .ref (a 12), .ref (a 13), .null, .null])), ((a 40), .inr (6, [.ref (a 10), .int 0, .ref (a 41), .ref (a 42), .ref (a 43), .ref (a 44), .ref (a 45), .int 0]))] H := hP
  have hD := va_ca hP hD
  refine lv_iinc (v := 50) (lv' := [(4, .int 50), (3, .int 1), (0, .ref (a 6)), (1, .ref (a 5)), (2, .int 0)]) hx hb dX9_look_38 hl (k := 0) rfl (by decide) (by decide) rfl (fun ls hl => ?_)
  refine lv_goto (tgt := 23) hx hb dX9_look_41 (by decide) ?_
  refine lv_iload hx hb dX9_look_23 (lv_at hl 0 rfl) ?_
  refine lv_bipush (v := 60) hx hb dX9_look_25 (by decide) ?_
  refine lv_icmp_gt (tgt := 44) hx hb dX9_look_27 (by decide) (fun q => absurd q (by decide)) (fun _ => ?_)
  refine lv_aload_n hx hb dX9_look_30 rfl (lv_at hl 2 rfl) ?_
  refine va_get (ci := 9) (v := .ref (a 51)) (C := RX9) (T := TX9) (N := 6) hx hb htA in_X9 hown hK hP 0 rfl rfl 1 (by decide) (htA _ wd_43) (fun _ h => h) rfl dX9_look_31 ?_
  refine lv_iload hx hb dX9_look_34 (lv_at hl 0 rfl) ?_
  refine lv_iconst (v := 0) hx hb dX9_look_36 (by decide) ?_
  refine va_iast hx hb hK hP hD hS 1 0 rfl rfl (in_lit (by decide)) dX9_look_37 (fun H locs hP hD hS => ?_)
  rw [fa_upd_same (f := fun _ => 0) (i := (50 : Int32).toNatClampNeg) (x := 0) (by first | decide | rfl)] at hP hD
  have hP : va_P D vwCl [((a 6), .inr (9, [.int 1, .ref (a 51), .ref (a 52), .ref (a 53), .ref (a 54), .ref (a 55)])), ((a 51), .inl (cy 0, 61, .inl (fun _ => 0))), ((a 52), .inl (cy 0, 61, .inl (fun _ => 0))), ((a 5), .inr (1, [.ref (a 40), .int 0, .int 0, .ref (a 46), .ref (a 47)])), ((a 10), .inr (0, [.int 0, .int 1, .int 1, .int 0, .int 0, .ref (a 11), .ref (a 12), .ref (a 13), .null, .null])), ((a 40), .inr (6, [.ref (a 10), .int 0, .ref (a 41), .ref (a 42), .ref (a 43), .ref (a 44), .ref (a 45), .int 0]))] H := hP
  have hD := va_ca hP hD
  refine lv_iinc (v := 51) (lv' := [(4, .int 51), (3, .int 1), (0, .ref (a 6)), (1, .ref (a 5)), (2, .int 0)]) hx hb dX9_look_38 hl (k := 0) rfl (by decide) (by decide) rfl (fun ls hl => ?_)
  refine lv_goto (tgt := 23) hx hb dX9_look_41 (by decide) ?_
  refine lv_iload hx hb dX9_look_23 (lv_at hl 0 rfl) ?_
  refine lv_bipush (v := 60) hx hb dX9_look_25 (by decide) ?_
  refine lv_icmp_gt (tgt := 44) hx hb dX9_look_27 (by decide) (fun q => absurd q (by decide)) (fun _ => ?_)
  refine lv_aload_n hx hb dX9_look_30 rfl (lv_at hl 2 rfl) ?_
  refine va_get (ci := 9) (v := .ref (a 51)) (C := RX9) (T := TX9) (N := 6) hx hb htA in_X9 hown hK hP 0 rfl rfl 1 (by decide) (htA _ wd_43) (fun _ h => h) rfl dX9_look_31 ?_
  refine lv_iload hx hb dX9_look_34 (lv_at hl 0 rfl) ?_
  refine lv_iconst (v := 0) hx hb dX9_look_36 (by decide) ?_
  refine va_iast hx hb hK hP hD hS 1 0 rfl rfl (in_lit (by decide)) dX9_look_37 (fun H locs hP hD hS => ?_)
  rw [fa_upd_same (f := fun _ => 0) (i := (51 : Int32).toNatClampNeg) (x := 0) (by first | decide | rfl)] at hP hD
  have hP : va_P D vwCl [((a 6), .inr (9, [.int 1, .ref (a 51), .ref (a 52), .ref (a 53), .ref (a 54), .ref (a 55)])), ((a 51), .inl (cy 0, 61, .inl (fun _ => 0))), ((a 52), .inl (cy 0, 61, .inl (fun _ => 0))), ((a 5), .inr (1, [.ref (a 40), .int 0, .int 0, .ref (a 46), .ref (a 47)])), ((a 10), .inr (0, [.int 0, .int 1, .int 1, .int 0, .int 0, .ref (a 11), .ref (a 12), .ref (a 13), .null, .null])), ((a 40), .inr (6, [.ref (a 10), .int 0, .ref (a 41), .ref (a 42), .ref (a 43), .ref (a 44), .ref (a 45), .int 0]))] H := hP
  have hD := va_ca hP hD
  refine lv_iinc (v := 52) (lv' := [(4, .int 52), (3, .int 1), (0, .ref (a 6)), (1, .ref (a 5)), (2, .int 0)]) hx hb dX9_look_38 hl (k := 0) rfl (by decide) (by decide) rfl (fun ls hl => ?_)
  refine lv_goto (tgt := 23) hx hb dX9_look_41 (by decide) ?_
  refine lv_iload hx hb dX9_look_23 (lv_at hl 0 rfl) ?_
  refine lv_bipush (v := 60) hx hb dX9_look_25 (by decide) ?_
  refine lv_icmp_gt (tgt := 44) hx hb dX9_look_27 (by decide) (fun q => absurd q (by decide)) (fun _ => ?_)
  refine lv_aload_n hx hb dX9_look_30 rfl (lv_at hl 2 rfl) ?_
  refine va_get (ci := 9) (v := .ref (a 51)) (C := RX9) (T := TX9) (N := 6) hx hb htA in_X9 hown hK hP 0 rfl rfl 1 (by decide) (htA _ wd_43) (fun _ h => h) rfl dX9_look_31 ?_
  refine lv_iload hx hb dX9_look_34 (lv_at hl 0 rfl) ?_
  refine lv_iconst (v := 0) hx hb dX9_look_36 (by decide) ?_
  refine va_iast hx hb hK hP hD hS 1 0 rfl rfl (in_lit (by decide)) dX9_look_37 (fun H locs hP hD hS => ?_)
  rw [fa_upd_same (f := fun _ => 0) (i := (52 : Int32).toNatClampNeg) (x := 0) (by first | decide | rfl)] at hP hD
  have hP : va_P D vwCl [((a 6), .inr (9, [.int 1, .ref (a 51), .ref (a 52), .ref (a 53), .ref (a 54), .ref (a 55)])), ((a 51), .inl (cy 0, 61, .inl (fun _ => 0))), ((a 52), .inl (cy 0, 61, .inl (fun _ => 0))), ((a 5), .inr (1, [.ref (a 40), .int 0, .int 0, .ref (a 46), .ref (a 47)])), ((a 10), .inr (0, [.int 0, .int 1, .int 1, .int 0, .int 0, .ref (a 11), .ref (a 12), .ref (a 13), .null, .null])), ((a 40), .inr (6, [.ref (a 10), .int 0, .ref (a 41), .ref (a 42), .ref (a 43), .ref (a 44), .ref (a 45), .int 0]))] H := hP
  have hD := va_ca hP hD
  refine lv_iinc (v := 53) (lv' := [(4, .int 53), (3, .int 1), (0, .ref (a 6)), (1, .ref (a 5)), (2, .int 0)]) hx hb dX9_look_38 hl (k := 0) rfl (by decide) (by decide) rfl (fun ls hl => ?_)
  refine lv_goto (tgt := 23) hx hb dX9_look_41 (by decide) ?_
  refine lv_iload hx hb dX9_look_23 (lv_at hl 0 rfl) ?_
  refine lv_bipush (v := 60) hx hb dX9_look_25 (by decide) ?_
  refine lv_icmp_gt (tgt := 44) hx hb dX9_look_27 (by decide) (fun q => absurd q (by decide)) (fun _ => ?_)
  refine lv_aload_n hx hb dX9_look_30 rfl (lv_at hl 2 rfl) ?_
  refine va_get (ci := 9) (v := .ref (a 51)) (C := RX9) (T := TX9) (N := 6) hx hb htA in_X9 hown hK hP 0 rfl rfl 1 (by decide) (htA _ wd_43) (fun _ h => h) rfl dX9_look_31 ?_
  refine lv_iload hx hb dX9_look_34 (lv_at hl 0 rfl) ?_
  refine lv_iconst (v := 0) hx hb dX9_look_36 (by decide) ?_
  refine va_iast hx hb hK hP hD hS 1 0 rfl rfl (in_lit (by decide)) dX9_look_37 (fun H locs hP hD hS => ?_)
  rw [fa_upd_same (f := fun _ => 0) (i := (53 : Int32).toNatClampNeg) (x := 0) (by first | decide | rfl)] at hP hD
  have hP : va_P D vwCl [((a 6), .inr (9, [.int 1, .ref (a 51), .ref (a 52), .ref (a 53), .ref (a 54), .ref (a 55)])), ((a 51), .inl (cy 0, 61, .inl (fun _ => 0))), ((a 52), .inl (cy 0, 61, .inl (fun _ => 0))), ((a 5), .inr (1, [.ref (a 40), .int 0, .int 0, .ref (a 46), .ref (a 47)])), ((a 10), .inr (0, [.int 0, .int 1, .int 1, .int 0, .int 0, .ref (a 11), .ref (a 12), .ref (a 13), .null, .null])), ((a 40), .inr (6, [.ref (a 10), .int 0, .ref (a 41), .ref (a 42), .ref (a 43), .ref (a 44), .ref (a 45), .int 0]))] H := hP
  have hD := va_ca hP hD
  refine lv_iinc (v := 54) (lv' := [(4, .int 54), (3, .int 1), (0, .ref (a 6)), (1, .ref (a 5)), (2, .int 0)]) hx hb dX9_look_38 hl (k := 0) rfl (by decide) (by decide) rfl (fun ls hl => ?_)
  refine lv_goto (tgt := 23) hx hb dX9_look_41 (by decide) ?_
  refine lv_iload hx hb dX9_look_23 (lv_at hl 0 rfl) ?_
  refine lv_bipush (v := 60) hx hb dX9_look_25 (by decide) ?_
  refine lv_icmp_gt (tgt := 44) hx hb dX9_look_27 (by decide) (fun q => absurd q (by decide)) (fun _ => ?_)
  refine lv_aload_n hx hb dX9_look_30 rfl (lv_at hl 2 rfl) ?_
  refine va_get (ci := 9) (v := .ref (a 51)) (C := RX9) (T := TX9) (N := 6) hx hb htA in_X9 hown hK hP 0 rfl rfl 1 (by decide) (htA _ wd_43) (fun _ h => h) rfl dX9_look_31 ?_
  refine lv_iload hx hb dX9_look_34 (lv_at hl 0 rfl) ?_
  refine lv_iconst (v := 0) hx hb dX9_look_36 (by decide) ?_
  refine va_iast hx hb hK hP hD hS 1 0 rfl rfl (in_lit (by decide)) dX9_look_37 (fun H locs hP hD hS => ?_)
  rw [fa_upd_same (f := fun _ => 0) (i := (54 : Int32).toNatClampNeg) (x := 0) (by first | decide | rfl)] at hP hD
  have hP : va_P D vwCl [((a 6), .inr (9, [.int 1, .ref (a 51), .ref (a 52), .ref (a 53), .ref (a 54), .ref (a 55)])), ((a 51), .inl (cy 0, 61, .inl (fun _ => 0))), ((a 52), .inl (cy 0, 61, .inl (fun _ => 0))), ((a 5), .inr (1, [.ref (a 40), .int 0, .int 0, .ref (a 46), .ref (a 47)])), ((a 10), .inr (0, [.int 0, .int 1, .int 1, .int 0, .int 0, .ref (a 11), .ref (a 12), .ref (a 13), .null, .null])), ((a 40), .inr (6, [.ref (a 10), .int 0, .ref (a 41), .ref (a 42), .ref (a 43), .ref (a 44), .ref (a 45), .int 0]))] H := hP
  have hD := va_ca hP hD
  refine lv_iinc (v := 55) (lv' := [(4, .int 55), (3, .int 1), (0, .ref (a 6)), (1, .ref (a 5)), (2, .int 0)]) hx hb dX9_look_38 hl (k := 0) rfl (by decide) (by decide) rfl (fun ls hl => ?_)
  refine lv_goto (tgt := 23) hx hb dX9_look_41 (by decide) ?_
  refine lv_iload hx hb dX9_look_23 (lv_at hl 0 rfl) ?_
  refine lv_bipush (v := 60) hx hb dX9_look_25 (by decide) ?_
  refine lv_icmp_gt (tgt := 44) hx hb dX9_look_27 (by decide) (fun q => absurd q (by decide)) (fun _ => ?_)
  refine lv_aload_n hx hb dX9_look_30 rfl (lv_at hl 2 rfl) ?_
  refine va_get (ci := 9) (v := .ref (a 51)) (C := RX9) (T := TX9) (N := 6) hx hb htA in_X9 hown hK hP 0 rfl rfl 1 (by decide) (htA _ wd_43) (fun _ h => h) rfl dX9_look_31 ?_
  refine lv_iload hx hb dX9_look_34 (lv_at hl 0 rfl) ?_
  refine lv_iconst (v := 0) hx hb dX9_look_36 (by decide) ?_
  refine va_iast hx hb hK hP hD hS 1 0 rfl rfl (in_lit (by decide)) dX9_look_37 (fun H locs hP hD hS => ?_)
  rw [fa_upd_same (f := fun _ => 0) (i := (55 : Int32).toNatClampNeg) (x := 0) (by first | decide | rfl)] at hP hD
  have hP : va_P D vwCl [((a 6), .inr (9, [.int 1, .ref (a 51), .ref (a 52), .ref (a 53), .ref (a 54), .ref (a 55)])), ((a 51), .inl (cy 0, 61, .inl (fun _ => 0))), ((a 52), .inl (cy 0, 61, .inl (fun _ => 0))), ((a 5), .inr (1, [.ref (a 40), .int 0, .int 0, .ref (a 46), .ref (a 47)])), ((a 10), .inr (0, [.int 0, .int 1, .int 1, .int 0, .int 0, .ref (a 11), .ref (a 12), .ref (a 13), .null, .null])), ((a 40), .inr (6, [.ref (a 10), .int 0, .ref (a 41), .ref (a 42), .ref (a 43), .ref (a 44), .ref (a 45), .int 0]))] H := hP
  have hD := va_ca hP hD
  refine lv_iinc (v := 56) (lv' := [(4, .int 56), (3, .int 1), (0, .ref (a 6)), (1, .ref (a 5)), (2, .int 0)]) hx hb dX9_look_38 hl (k := 0) rfl (by decide) (by decide) rfl (fun ls hl => ?_)
  refine lv_goto (tgt := 23) hx hb dX9_look_41 (by decide) ?_
  refine lv_iload hx hb dX9_look_23 (lv_at hl 0 rfl) ?_
  refine lv_bipush (v := 60) hx hb dX9_look_25 (by decide) ?_
  refine lv_icmp_gt (tgt := 44) hx hb dX9_look_27 (by decide) (fun q => absurd q (by decide)) (fun _ => ?_)
  refine lv_aload_n hx hb dX9_look_30 rfl (lv_at hl 2 rfl) ?_
  refine va_get (ci := 9) (v := .ref (a 51)) (C := RX9) (T := TX9) (N := 6) hx hb htA in_X9 hown hK hP 0 rfl rfl 1 (by decide) (htA _ wd_43) (fun _ h => h) rfl dX9_look_31 ?_
  refine lv_iload hx hb dX9_look_34 (lv_at hl 0 rfl) ?_
  refine lv_iconst (v := 0) hx hb dX9_look_36 (by decide) ?_
  refine va_iast hx hb hK hP hD hS 1 0 rfl rfl (in_lit (by decide)) dX9_look_37 (fun H locs hP hD hS => ?_)
  rw [fa_upd_same (f := fun _ => 0) (i := (56 : Int32).toNatClampNeg) (x := 0) (by first | decide | rfl)] at hP hD
  have hP : va_P D vwCl [((a 6), .inr (9, [.int 1, .ref (a 51), .ref (a 52), .ref (a 53), .ref (a 54), .ref (a 55)])), ((a 51), .inl (cy 0, 61, .inl (fun _ => 0))), ((a 52), .inl (cy 0, 61, .inl (fun _ => 0))), ((a 5), .inr (1, [.ref (a 40), .int 0, .int 0, .ref (a 46), .ref (a 47)])), ((a 10), .inr (0, [.int 0, .int 1, .int 1, .int 0, .int 0, .ref (a 11), .ref (a 12), .ref (a 13), .null, .null])), ((a 40), .inr (6, [.ref (a 10), .int 0, .ref (a 41), .ref (a 42), .ref (a 43), .ref (a 44), .ref (a 45), .int 0]))] H := hP
  have hD := va_ca hP hD
  refine lv_iinc (v := 57) (lv' := [(4, .int 57), (3, .int 1), (0, .ref (a 6)), (1, .ref (a 5)), (2, .int 0)]) hx hb dX9_look_38 hl (k := 0) rfl (by decide) (by decide) rfl (fun ls hl => ?_)
  refine lv_goto (tgt := 23) hx hb dX9_look_41 (by decide) ?_
  refine lv_iload hx hb dX9_look_23 (lv_at hl 0 rfl) ?_
  refine lv_bipush (v := 60) hx hb dX9_look_25 (by decide) ?_
  refine lv_icmp_gt (tgt := 44) hx hb dX9_look_27 (by decide) (fun q => absurd q (by decide)) (fun _ => ?_)
  refine lv_aload_n hx hb dX9_look_30 rfl (lv_at hl 2 rfl) ?_
  refine va_get (ci := 9) (v := .ref (a 51)) (C := RX9) (T := TX9) (N := 6) hx hb htA in_X9 hown hK hP 0 rfl rfl 1 (by decide) (htA _ wd_43) (fun _ h => h) rfl dX9_look_31 ?_
  refine lv_iload hx hb dX9_look_34 (lv_at hl 0 rfl) ?_
  refine lv_iconst (v := 0) hx hb dX9_look_36 (by decide) ?_
  refine va_iast hx hb hK hP hD hS 1 0 rfl rfl (in_lit (by decide)) dX9_look_37 (fun H locs hP hD hS => ?_)
  rw [fa_upd_same (f := fun _ => 0) (i := (57 : Int32).toNatClampNeg) (x := 0) (by first | decide | rfl)] at hP hD
  have hP : va_P D vwCl [((a 6), .inr (9, [.int 1, .ref (a 51), .ref (a 52), .ref (a 53), .ref (a 54), .ref (a 55)])), ((a 51), .inl (cy 0, 61, .inl (fun _ => 0))), ((a 52), .inl (cy 0, 61, .inl (fun _ => 0))), ((a 5), .inr (1, [.ref (a 40), .int 0, .int 0, .ref (a 46), .ref (a 47)])), ((a 10), .inr (0, [.int 0, .int 1, .int 1, .int 0, .int 0, .ref (a 11), .ref (a 12), .ref (a 13), .null, .null])), ((a 40), .inr (6, [.ref (a 10), .int 0, .ref (a 41), .ref (a 42), .ref (a 43), .ref (a 44), .ref (a 45), .int 0]))] H := hP
  have hD := va_ca hP hD
  refine lv_iinc (v := 58) (lv' := [(4, .int 58), (3, .int 1), (0, .ref (a 6)), (1, .ref (a 5)), (2, .int 0)]) hx hb dX9_look_38 hl (k := 0) rfl (by decide) (by decide) rfl (fun ls hl => ?_)
  refine lv_goto (tgt := 23) hx hb dX9_look_41 (by decide) ?_
  refine lv_iload hx hb dX9_look_23 (lv_at hl 0 rfl) ?_
  refine lv_bipush (v := 60) hx hb dX9_look_25 (by decide) ?_
  refine lv_icmp_gt (tgt := 44) hx hb dX9_look_27 (by decide) (fun q => absurd q (by decide)) (fun _ => ?_)
  refine lv_aload_n hx hb dX9_look_30 rfl (lv_at hl 2 rfl) ?_
  refine va_get (ci := 9) (v := .ref (a 51)) (C := RX9) (T := TX9) (N := 6) hx hb htA in_X9 hown hK hP 0 rfl rfl 1 (by decide) (htA _ wd_43) (fun _ h => h) rfl dX9_look_31 ?_
  refine lv_iload hx hb dX9_look_34 (lv_at hl 0 rfl) ?_
  refine lv_iconst (v := 0) hx hb dX9_look_36 (by decide) ?_
  refine va_iast hx hb hK hP hD hS 1 0 rfl rfl (in_lit (by decide)) dX9_look_37 (fun H locs hP hD hS => ?_)
  rw [fa_upd_same (f := fun _ => 0) (i := (58 : Int32).toNatClampNeg) (x := 0) (by first | decide | rfl)] at hP hD
  have hP : va_P D vwCl [((a 6), .inr (9, [.int 1, .ref (a 51), .ref (a 52), .ref (a 53), .ref (a 54), .ref (a 55)])), ((a 51), .inl (cy 0, 61, .inl (fun _ => 0))), ((a 52), .inl (cy 0, 61, .inl (fun _ => 0))), ((a 5), .inr (1, [.ref (a 40), .int 0, .int 0, .ref (a 46), .ref (a 47)])), ((a 10), .inr (0, [.int 0, .int 1, .int 1, .int 0, .int 0, .ref (a 11), .ref (a 12), .ref (a 13), .null, .null])), ((a 40), .inr (6, [.ref (a 10), .int 0, .ref (a 41), .ref (a 42), .ref (a 43), .ref (a 44), .ref (a 45), .int 0]))] H := hP
  have hD := va_ca hP hD
  refine lv_iinc (v := 59) (lv' := [(4, .int 59), (3, .int 1), (0, .ref (a 6)), (1, .ref (a 5)), (2, .int 0)]) hx hb dX9_look_38 hl (k := 0) rfl (by decide) (by decide) rfl (fun ls hl => ?_)
  refine lv_goto (tgt := 23) hx hb dX9_look_41 (by decide) ?_
  refine lv_iload hx hb dX9_look_23 (lv_at hl 0 rfl) ?_
  refine lv_bipush (v := 60) hx hb dX9_look_25 (by decide) ?_
  refine lv_icmp_gt (tgt := 44) hx hb dX9_look_27 (by decide) (fun q => absurd q (by decide)) (fun _ => ?_)
  refine lv_aload_n hx hb dX9_look_30 rfl (lv_at hl 2 rfl) ?_
  refine va_get (ci := 9) (v := .ref (a 51)) (C := RX9) (T := TX9) (N := 6) hx hb htA in_X9 hown hK hP 0 rfl rfl 1 (by decide) (htA _ wd_43) (fun _ h => h) rfl dX9_look_31 ?_
  refine lv_iload hx hb dX9_look_34 (lv_at hl 0 rfl) ?_
  refine lv_iconst (v := 0) hx hb dX9_look_36 (by decide) ?_
  refine va_iast hx hb hK hP hD hS 1 0 rfl rfl (in_lit (by decide)) dX9_look_37 (fun H locs hP hD hS => ?_)
  rw [fa_upd_same (f := fun _ => 0) (i := (59 : Int32).toNatClampNeg) (x := 0) (by first | decide | rfl)] at hP hD
  have hP : va_P D vwCl [((a 6), .inr (9, [.int 1, .ref (a 51), .ref (a 52), .ref (a 53), .ref (a 54), .ref (a 55)])), ((a 51), .inl (cy 0, 61, .inl (fun _ => 0))), ((a 52), .inl (cy 0, 61, .inl (fun _ => 0))), ((a 5), .inr (1, [.ref (a 40), .int 0, .int 0, .ref (a 46), .ref (a 47)])), ((a 10), .inr (0, [.int 0, .int 1, .int 1, .int 0, .int 0, .ref (a 11), .ref (a 12), .ref (a 13), .null, .null])), ((a 40), .inr (6, [.ref (a 10), .int 0, .ref (a 41), .ref (a 42), .ref (a 43), .ref (a 44), .ref (a 45), .int 0]))] H := hP
  have hD := va_ca hP hD
  refine lv_iinc (v := 60) (lv' := [(4, .int 60), (3, .int 1), (0, .ref (a 6)), (1, .ref (a 5)), (2, .int 0)]) hx hb dX9_look_38 hl (k := 0) rfl (by decide) (by decide) rfl (fun ls hl => ?_)
  refine lv_goto (tgt := 23) hx hb dX9_look_41 (by decide) ?_
  refine lv_iload hx hb dX9_look_23 (lv_at hl 0 rfl) ?_
  refine lv_bipush (v := 60) hx hb dX9_look_25 (by decide) ?_
  refine lv_icmp_gt (tgt := 44) hx hb dX9_look_27 (by decide) (fun q => absurd q (by decide)) (fun _ => ?_)
  refine lv_aload_n hx hb dX9_look_30 rfl (lv_at hl 2 rfl) ?_
  refine va_get (ci := 9) (v := .ref (a 51)) (C := RX9) (T := TX9) (N := 6) hx hb htA in_X9 hown hK hP 0 rfl rfl 1 (by decide) (htA _ wd_43) (fun _ h => h) rfl dX9_look_31 ?_
  refine lv_iload hx hb dX9_look_34 (lv_at hl 0 rfl) ?_
  refine lv_iconst (v := 0) hx hb dX9_look_36 (by decide) ?_
  refine va_iast hx hb hK hP hD hS 1 0 rfl rfl (in_lit (by decide)) dX9_look_37 (fun H locs hP hD hS => ?_)
  rw [fa_upd_same (f := fun _ => 0) (i := (60 : Int32).toNatClampNeg) (x := 0) (by first | decide | rfl)] at hP hD
  have hP : va_P D vwCl [((a 6), .inr (9, [.int 1, .ref (a 51), .ref (a 52), .ref (a 53), .ref (a 54), .ref (a 55)])), ((a 51), .inl (cy 0, 61, .inl (fun _ => 0))), ((a 52), .inl (cy 0, 61, .inl (fun _ => 0))), ((a 5), .inr (1, [.ref (a 40), .int 0, .int 0, .ref (a 46), .ref (a 47)])), ((a 10), .inr (0, [.int 0, .int 1, .int 1, .int 0, .int 0, .ref (a 11), .ref (a 12), .ref (a 13), .null, .null])), ((a 40), .inr (6, [.ref (a 10), .int 0, .ref (a 41), .ref (a 42), .ref (a 43), .ref (a 44), .ref (a 45), .int 0]))] H := hP
  have hD := va_ca hP hD
  refine lv_iinc (v := 61) (lv' := [(4, .int 61), (3, .int 1), (0, .ref (a 6)), (1, .ref (a 5)), (2, .int 0)]) hx hb dX9_look_38 hl (k := 0) rfl (by decide) (by decide) rfl (fun ls hl => ?_)
  refine lv_goto (tgt := 23) hx hb dX9_look_41 (by decide) ?_
  refine lv_iload hx hb dX9_look_23 (lv_at hl 0 rfl) ?_
  refine lv_bipush (v := 60) hx hb dX9_look_25 (by decide) ?_
  refine lv_icmp_gt (tgt := 44) hx hb dX9_look_27 (by decide) (fun _ => ?_) (fun q => absurd (by decide) q)
  refine lv_iconst (v := 0) hx hb dX9_look_44 (by decide) ?_
  refine lv_istore (lv' := [(4, .int 0), (3, .int 1), (0, .ref (a 6)), (1, .ref (a 5)), (2, .int 0)]) hx hb dX9_look_45 hl (by decide) rfl (fun ls hl => ?_)
  refine lv_iload hx hb dX9_look_47 (lv_at hl 0 rfl) ?_
  refine lv_aload_n hx hb dX9_look_49 rfl (lv_at hl 3 rfl) ?_
  refine va_get (ci := 1) (v := .int 0) (C := RX1) (T := TX1) (N := 5) hx hb htA in_X1 hown hK hP 3 rfl rfl 2 (by decide) (htA _ wd_272) (fun _ h => h) rfl dX9_look_50 ?_
  refine lv_icmp_ge (tgt := 123) hx hb dX9_look_53 (by decide) (fun _ => ?_) (fun q => absurd (by decide) q)
  refine lv_aload_n hx hb dX9_look_123 rfl (lv_at hl 2 rfl) ?_
  refine va_get (ci := 9) (v := .ref (a 52)) (C := RX9) (T := TX9) (N := 6) hx hb htA in_X9 hown hK hP 0 rfl rfl 2 (by decide) (htA _ wd_44) (fun _ h => h) rfl dX9_look_124 ?_
  refine lv_iconst (v := 0) hx hb dX9_look_127 (by decide) ?_
  refine lv_iconst (v := 1) hx hb dX9_look_128 (by decide) ?_
  refine lv_iload_n hx hb dX9_look_129 rfl (lv_at hl 4 rfl) ?_
  refine lv_ishl hx hb dX9_look_130 ?_
  refine lv_topi (fun x3 ex3 => ?_)
  obtain rfl : x3 = 1 := ex3.trans (by decide)
  refine va_iast hx hb hK hP hD hS 2 0 rfl rfl (in_lit (by decide)) dX9_look_131 (fun H locs hP hD hS => ?_)
  rw [rc_1] at hP hD
  have hP : va_P D vwCl [((a 6), .inr (9, [.int 1, .ref (a 51), .ref (a 52), .ref (a 53), .ref (a 54), .ref (a 55)])), ((a 51), .inl (cy 0, 61, .inl (fun _ => 0))), ((a 52), .inl (cy 0, 61, .inl (rc 1))), ((a 5), .inr (1, [.ref (a 40), .int 0, .int 0, .ref (a 46), .ref (a 47)])), ((a 10), .inr (0, [.int 0, .int 1, .int 1, .int 0, .int 0, .ref (a 11), .ref (a 12), .ref (a 13), .null, .null])), ((a 40), .inr (6, [.ref (a 10), .int 0, .ref (a 41), .ref (a 42), .ref (a 43), .ref (a 44), .ref (a 45), .int 0]))] H := hP
  have hD := va_ca hP hD
  refine lv_iconst (v := 1) hx hb dX9_look_132 (by decide) ?_
  refine lv_istore (lv' := [(4, .int 1), (3, .int 1), (0, .ref (a 6)), (1, .ref (a 5)), (2, .int 0)]) hx hb dX9_look_133 hl (by decide) rfl (fun ls hl => ?_)
  refine lv_iload hx hb dX9_look_135 (lv_at hl 0 rfl) ?_
  refine lv_bipush (v := 60) hx hb dX9_look_137 (by decide) ?_
  refine lv_icmp_gt (tgt := 178) hx hb dX9_look_139 (by decide) (fun q => absurd q (by decide)) (fun _ => ?_)
  refine lv_aload_n hx hb dX9_look_142 rfl (lv_at hl 2 rfl) ?_
  refine va_get (ci := 9) (v := .ref (a 52)) (C := RX9) (T := TX9) (N := 6) hx hb htA in_X9 hown hK hP 0 rfl rfl 2 (by decide) (htA _ wd_44) (fun _ h => h) rfl dX9_look_143 ?_
  refine lv_iload hx hb dX9_look_146 (lv_at hl 0 rfl) ?_
  refine lv_aload_n hx hb dX9_look_148 rfl (lv_at hl 2 rfl) ?_
  refine lv_aload_n hx hb dX9_look_149 rfl (lv_at hl 2 rfl) ?_
  refine va_get (ci := 9) (v := .ref (a 52)) (C := RX9) (T := TX9) (N := 6) hx hb htA in_X9 hown hK hP 0 rfl rfl 2 (by decide) (htA _ wd_44) (fun _ h => h) rfl dX9_look_150 ?_
  refine lv_iload hx hb dX9_look_153 (lv_at hl 0 rfl) ?_
  refine lv_iconst (v := 1) hx hb dX9_look_155 (by decide) ?_
  refine lv_isub hx hb dX9_look_156 ?_
  refine lv_topi (fun x4 ex4 => ?_)
  obtain rfl : x4 = 0 := ex4.trans (by decide)
  refine va_iald hx hb hK hP 2 0 rfl rfl (in_lit (by decide)) dX9_look_157 ?_
  refine lv_topi (fun x5 ex5 => ?_)
  obtain rfl : x5 = 1 := ex5.trans (by decide)
  refine kVi (As := [.int 1]) (rest := [.int 1, .ref (a 52)]) (wr := [((a 51), .inl (cy 0, 61, .inl (fun _ => 0))), ((a 52), .inl (cy 0, 61, .inl (rc 1))), ((a 5), .inr (1, [.ref (a 40), .int 0, .int 0, .ref (a 46), .ref (a 47)])), ((a 10), .inr (0, [.int 0, .int 1, .int 1, .int 0, .int 0, .ref (a 11), .ref (a 12), .ref (a 13), .null, .null])), ((a 40), .inr (6, [.ref (a 10), .int 0, .ref (a 41), .ref (a 42), .ref (a 43), .ref (a 44), .ref (a 45), .int 0]))]) hX hE (au_X9_near_58 l D cy a) (cwVA 1 htA wd_1188 wd_1185 wd_2 wd_1187 wp_37 (by decide +kernel) ⟨by decide, by decide⟩) hP hD hS [0] [1, 2, 3, 4, 5] rfl rfl (by decide +kernel) 0 rfl rfl rfl rfl hl.1 rfl (Nat.le_of_ble_eq_true rfl) dX9_look_158 (by decide) (fun r_ W1 H locs hw hP hD hS => ?_)
  refine W.widen (k := 0) (n := 0) (by decide) (by decide) ?_
  obtain ⟨rfl, rfl⟩ := hw
  have hP : va_P D vwCl [((a 51), .inl (cy 0, 61, .inl (fun _ => 0))), ((a 52), .inl (cy 0, 61, .inl (rc 1))), ((a 5), .inr (1, [.ref (a 40), .int 0, .int 0, .ref (a 46), .ref (a 47)])), ((a 10), .inr (0, [.int 0, .int 1, .int 1, .int 0, .int 0, .ref (a 11), .ref (a 12), .ref (a 13), .null, .null])), ((a 40), .inr (6, [.ref (a 10), .int 0, .ref (a 41), .ref (a 42), .ref (a 43), .ref (a 44), .ref (a 45), .int 0])), ((a 6), .inr (9, [.int 1, .ref (a 51), .ref (a 52), .ref (a 53), .ref (a 54), .ref (a 55)]))] H := hP
  have hD := va_ca hP hD
  refine lv_aload_n hx hb dX9_look_161 rfl (lv_at hl 2 rfl) ?_
  refine va_get (ci := 9) (v := .ref (a 51)) (C := RX9) (T := TX9) (N := 6) hx hb htA in_X9 hown hK hP 5 rfl rfl 1 (by decide) (htA _ wd_43) (fun _ h => h) rfl dX9_look_162 ?_
  refine lv_iload hx hb dX9_look_165 (lv_at hl 0 rfl) ?_
  refine va_iald hx hb hK hP 0 0 rfl rfl (in_lit (by decide)) dX9_look_167 ?_
  refine lv_topi (fun x6 ex6 => ?_)
  obtain rfl : x6 = 0 := ex6
  refine lv_iconst (v := (-1)) hx hb dX9_look_168 (by decide) ?_
  refine lv_ixor hx hb dX9_look_169 ?_
  refine lv_topi (fun x7 ex7 => ?_)
  obtain rfl : x7 = (-1) := ex7.trans (by decide)
  refine lv_iand hx hb dX9_look_170 ?_
  refine lv_topi (fun x8 ex8 => ?_)
  obtain rfl : x8 = 1 := ex8.trans (by decide)
  refine va_iast hx hb hK hP hD hS 1 0 rfl rfl (in_lit (by decide)) dX9_look_171 (fun H locs hP hD hS => ?_)
  rw [rc_s 1 1 (by decide)] at hP hD
  have hP : va_P D vwCl [((a 51), .inl (cy 0, 61, .inl (fun _ => 0))), ((a 52), .inl (cy 0, 61, .inl (rc 2))), ((a 5), .inr (1, [.ref (a 40), .int 0, .int 0, .ref (a 46), .ref (a 47)])), ((a 10), .inr (0, [.int 0, .int 1, .int 1, .int 0, .int 0, .ref (a 11), .ref (a 12), .ref (a 13), .null, .null])), ((a 40), .inr (6, [.ref (a 10), .int 0, .ref (a 41), .ref (a 42), .ref (a 43), .ref (a 44), .ref (a 45), .int 0])), ((a 6), .inr (9, [.int 1, .ref (a 51), .ref (a 52), .ref (a 53), .ref (a 54), .ref (a 55)]))] H := hP
  have hD := va_ca hP hD
  refine lv_iinc (v := 2) (lv' := [(4, .int 2), (3, .int 1), (0, .ref (a 6)), (1, .ref (a 5)), (2, .int 0)]) hx hb dX9_look_172 hl (k := 0) rfl (by decide) (by decide) rfl (fun ls hl => ?_)
  refine lv_goto (tgt := 135) hx hb dX9_look_175 (by decide) ?_
  refine lv_iload hx hb dX9_look_135 (lv_at hl 0 rfl) ?_
  refine lv_bipush (v := 60) hx hb dX9_look_137 (by decide) ?_
  refine lv_icmp_gt (tgt := 178) hx hb dX9_look_139 (by decide) (fun q => absurd q (by decide)) (fun _ => ?_)
  refine lv_aload_n hx hb dX9_look_142 rfl (lv_at hl 2 rfl) ?_
  refine va_get (ci := 9) (v := .ref (a 52)) (C := RX9) (T := TX9) (N := 6) hx hb htA in_X9 hown hK hP 5 rfl rfl 2 (by decide) (htA _ wd_44) (fun _ h => h) rfl dX9_look_143 ?_
  refine lv_iload hx hb dX9_look_146 (lv_at hl 0 rfl) ?_
  refine lv_aload_n hx hb dX9_look_148 rfl (lv_at hl 2 rfl) ?_
  refine lv_aload_n hx hb dX9_look_149 rfl (lv_at hl 2 rfl) ?_
  refine va_get (ci := 9) (v := .ref (a 52)) (C := RX9) (T := TX9) (N := 6) hx hb htA in_X9 hown hK hP 5 rfl rfl 2 (by decide) (htA _ wd_44) (fun _ h => h) rfl dX9_look_150 ?_
  refine lv_iload hx hb dX9_look_153 (lv_at hl 0 rfl) ?_
  refine lv_iconst (v := 1) hx hb dX9_look_155 (by decide) ?_
  refine lv_isub hx hb dX9_look_156 ?_
  refine lv_topi (fun x9 ex9 => ?_)
  obtain rfl : x9 = 1 := ex9.trans (by decide)
  refine va_iald hx hb hK hP 1 0 rfl rfl (in_lit (by decide)) dX9_look_157 ?_
  refine lv_topi (fun x10 ex10 => ?_)
  obtain rfl : x10 = 1 := ex10.trans (by decide)
  refine kVi (As := [.int 1]) (rest := [.int 2, .ref (a 52)]) (wr := [((a 51), .inl (cy 0, 61, .inl (fun _ => 0))), ((a 52), .inl (cy 0, 61, .inl (rc 2))), ((a 5), .inr (1, [.ref (a 40), .int 0, .int 0, .ref (a 46), .ref (a 47)])), ((a 10), .inr (0, [.int 0, .int 1, .int 1, .int 0, .int 0, .ref (a 11), .ref (a 12), .ref (a 13), .null, .null])), ((a 40), .inr (6, [.ref (a 10), .int 0, .ref (a 41), .ref (a 42), .ref (a 43), .ref (a 44), .ref (a 45), .int 0]))]) hX hE (au_X9_near_58 l D cy a) (cwVA 1 htA wd_1188 wd_1185 wd_2 wd_1187 wp_37 (by decide +kernel) ⟨by decide, by decide⟩) hP hD hS [5] [0, 1, 2, 3, 4] rfl rfl (by decide +kernel) 0 rfl rfl rfl rfl hl.1 rfl (Nat.le_of_ble_eq_true rfl) dX9_look_158 (by decide) (fun r_ W1 H locs hw hP hD hS => ?_)
  refine W.widen (k := 0) (n := 0) (by decide) (by decide) ?_
  obtain ⟨rfl, rfl⟩ := hw
  have hP : va_P D vwCl [((a 51), .inl (cy 0, 61, .inl (fun _ => 0))), ((a 52), .inl (cy 0, 61, .inl (rc 2))), ((a 5), .inr (1, [.ref (a 40), .int 0, .int 0, .ref (a 46), .ref (a 47)])), ((a 10), .inr (0, [.int 0, .int 1, .int 1, .int 0, .int 0, .ref (a 11), .ref (a 12), .ref (a 13), .null, .null])), ((a 40), .inr (6, [.ref (a 10), .int 0, .ref (a 41), .ref (a 42), .ref (a 43), .ref (a 44), .ref (a 45), .int 0])), ((a 6), .inr (9, [.int 1, .ref (a 51), .ref (a 52), .ref (a 53), .ref (a 54), .ref (a 55)]))] H := hP
  have hD := va_ca hP hD
  refine lv_aload_n hx hb dX9_look_161 rfl (lv_at hl 2 rfl) ?_
  refine va_get (ci := 9) (v := .ref (a 51)) (C := RX9) (T := TX9) (N := 6) hx hb htA in_X9 hown hK hP 5 rfl rfl 1 (by decide) (htA _ wd_43) (fun _ h => h) rfl dX9_look_162 ?_
  refine lv_iload hx hb dX9_look_165 (lv_at hl 0 rfl) ?_
  refine va_iald hx hb hK hP 0 0 rfl rfl (in_lit (by decide)) dX9_look_167 ?_
  refine lv_topi (fun x11 ex11 => ?_)
  obtain rfl : x11 = 0 := ex11
  refine lv_iconst (v := (-1)) hx hb dX9_look_168 (by decide) ?_
  refine lv_ixor hx hb dX9_look_169 ?_
  refine lv_topi (fun x12 ex12 => ?_)
  obtain rfl : x12 = (-1) := ex12.trans (by decide)
  refine lv_iand hx hb dX9_look_170 ?_
  refine lv_topi (fun x13 ex13 => ?_)
  obtain rfl : x13 = 1 := ex13.trans (by decide)
  refine va_iast hx hb hK hP hD hS 1 0 rfl rfl (in_lit (by decide)) dX9_look_171 (fun H locs hP hD hS => ?_)
  rw [rc_s 2 2 (by decide)] at hP hD
  have hP : va_P D vwCl [((a 51), .inl (cy 0, 61, .inl (fun _ => 0))), ((a 52), .inl (cy 0, 61, .inl (rc 3))), ((a 5), .inr (1, [.ref (a 40), .int 0, .int 0, .ref (a 46), .ref (a 47)])), ((a 10), .inr (0, [.int 0, .int 1, .int 1, .int 0, .int 0, .ref (a 11), .ref (a 12), .ref (a 13), .null, .null])), ((a 40), .inr (6, [.ref (a 10), .int 0, .ref (a 41), .ref (a 42), .ref (a 43), .ref (a 44), .ref (a 45), .int 0])), ((a 6), .inr (9, [.int 1, .ref (a 51), .ref (a 52), .ref (a 53), .ref (a 54), .ref (a 55)]))] H := hP
  have hD := va_ca hP hD
  refine lv_iinc (v := 3) (lv' := [(4, .int 3), (3, .int 1), (0, .ref (a 6)), (1, .ref (a 5)), (2, .int 0)]) hx hb dX9_look_172 hl (k := 0) rfl (by decide) (by decide) rfl (fun ls hl => ?_)
  refine lv_goto (tgt := 135) hx hb dX9_look_175 (by decide) ?_
  refine lv_iload hx hb dX9_look_135 (lv_at hl 0 rfl) ?_
  refine lv_bipush (v := 60) hx hb dX9_look_137 (by decide) ?_
  refine lv_icmp_gt (tgt := 178) hx hb dX9_look_139 (by decide) (fun q => absurd q (by decide)) (fun _ => ?_)
  refine lv_aload_n hx hb dX9_look_142 rfl (lv_at hl 2 rfl) ?_
  refine va_get (ci := 9) (v := .ref (a 52)) (C := RX9) (T := TX9) (N := 6) hx hb htA in_X9 hown hK hP 5 rfl rfl 2 (by decide) (htA _ wd_44) (fun _ h => h) rfl dX9_look_143 ?_
  refine lv_iload hx hb dX9_look_146 (lv_at hl 0 rfl) ?_
  refine lv_aload_n hx hb dX9_look_148 rfl (lv_at hl 2 rfl) ?_
  refine lv_aload_n hx hb dX9_look_149 rfl (lv_at hl 2 rfl) ?_
  refine va_get (ci := 9) (v := .ref (a 52)) (C := RX9) (T := TX9) (N := 6) hx hb htA in_X9 hown hK hP 5 rfl rfl 2 (by decide) (htA _ wd_44) (fun _ h => h) rfl dX9_look_150 ?_
  refine lv_iload hx hb dX9_look_153 (lv_at hl 0 rfl) ?_
  refine lv_iconst (v := 1) hx hb dX9_look_155 (by decide) ?_
  refine lv_isub hx hb dX9_look_156 ?_
  refine lv_topi (fun x14 ex14 => ?_)
  obtain rfl : x14 = 2 := ex14.trans (by decide)
  refine va_iald hx hb hK hP 1 0 rfl rfl (in_lit (by decide)) dX9_look_157 ?_
  refine lv_topi (fun x15 ex15 => ?_)
  obtain rfl : x15 = 1 := ex15.trans (by decide)
  refine kVi (As := [.int 1]) (rest := [.int 3, .ref (a 52)]) (wr := [((a 51), .inl (cy 0, 61, .inl (fun _ => 0))), ((a 52), .inl (cy 0, 61, .inl (rc 3))), ((a 5), .inr (1, [.ref (a 40), .int 0, .int 0, .ref (a 46), .ref (a 47)])), ((a 10), .inr (0, [.int 0, .int 1, .int 1, .int 0, .int 0, .ref (a 11), .ref (a 12), .ref (a 13), .null, .null])), ((a 40), .inr (6, [.ref (a 10), .int 0, .ref (a 41), .ref (a 42), .ref (a 43), .ref (a 44), .ref (a 45), .int 0]))]) hX hE (au_X9_near_58 l D cy a) (cwVA 1 htA wd_1188 wd_1185 wd_2 wd_1187 wp_37 (by decide +kernel) ⟨by decide, by decide⟩) hP hD hS [5] [0, 1, 2, 3, 4] rfl rfl (by decide +kernel) 0 rfl rfl rfl rfl hl.1 rfl (Nat.le_of_ble_eq_true rfl) dX9_look_158 (by decide) (fun r_ W1 H locs hw hP hD hS => ?_)
  refine W.widen (k := 0) (n := 0) (by decide) (by decide) ?_
  obtain ⟨rfl, rfl⟩ := hw
  have hP : va_P D vwCl [((a 51), .inl (cy 0, 61, .inl (fun _ => 0))), ((a 52), .inl (cy 0, 61, .inl (rc 3))), ((a 5), .inr (1, [.ref (a 40), .int 0, .int 0, .ref (a 46), .ref (a 47)])), ((a 10), .inr (0, [.int 0, .int 1, .int 1, .int 0, .int 0, .ref (a 11), .ref (a 12), .ref (a 13), .null, .null])), ((a 40), .inr (6, [.ref (a 10), .int 0, .ref (a 41), .ref (a 42), .ref (a 43), .ref (a 44), .ref (a 45), .int 0])), ((a 6), .inr (9, [.int 1, .ref (a 51), .ref (a 52), .ref (a 53), .ref (a 54), .ref (a 55)]))] H := hP
  have hD := va_ca hP hD
  refine lv_aload_n hx hb dX9_look_161 rfl (lv_at hl 2 rfl) ?_
  refine va_get (ci := 9) (v := .ref (a 51)) (C := RX9) (T := TX9) (N := 6) hx hb htA in_X9 hown hK hP 5 rfl rfl 1 (by decide) (htA _ wd_43) (fun _ h => h) rfl dX9_look_162 ?_
  refine lv_iload hx hb dX9_look_165 (lv_at hl 0 rfl) ?_
  refine va_iald hx hb hK hP 0 0 rfl rfl (in_lit (by decide)) dX9_look_167 ?_
  refine lv_topi (fun x16 ex16 => ?_)
  obtain rfl : x16 = 0 := ex16
  refine lv_iconst (v := (-1)) hx hb dX9_look_168 (by decide) ?_
  refine lv_ixor hx hb dX9_look_169 ?_
  refine lv_topi (fun x17 ex17 => ?_)
  obtain rfl : x17 = (-1) := ex17.trans (by decide)
  refine lv_iand hx hb dX9_look_170 ?_
  refine lv_topi (fun x18 ex18 => ?_)
  obtain rfl : x18 = 1 := ex18.trans (by decide)
  refine va_iast hx hb hK hP hD hS 1 0 rfl rfl (in_lit (by decide)) dX9_look_171 (fun H locs hP hD hS => ?_)
  rw [rc_s 3 3 (by decide)] at hP hD
  have hP : va_P D vwCl [((a 51), .inl (cy 0, 61, .inl (fun _ => 0))), ((a 52), .inl (cy 0, 61, .inl (rc 4))), ((a 5), .inr (1, [.ref (a 40), .int 0, .int 0, .ref (a 46), .ref (a 47)])), ((a 10), .inr (0, [.int 0, .int 1, .int 1, .int 0, .int 0, .ref (a 11), .ref (a 12), .ref (a 13), .null, .null])), ((a 40), .inr (6, [.ref (a 10), .int 0, .ref (a 41), .ref (a 42), .ref (a 43), .ref (a 44), .ref (a 45), .int 0])), ((a 6), .inr (9, [.int 1, .ref (a 51), .ref (a 52), .ref (a 53), .ref (a 54), .ref (a 55)]))] H := hP
  have hD := va_ca hP hD
  refine lv_iinc (v := 4) (lv' := [(4, .int 4), (3, .int 1), (0, .ref (a 6)), (1, .ref (a 5)), (2, .int 0)]) hx hb dX9_look_172 hl (k := 0) rfl (by decide) (by decide) rfl (fun ls hl => ?_)
  refine lv_goto (tgt := 135) hx hb dX9_look_175 (by decide) ?_
  refine lv_iload hx hb dX9_look_135 (lv_at hl 0 rfl) ?_
  refine lv_bipush (v := 60) hx hb dX9_look_137 (by decide) ?_
  refine lv_icmp_gt (tgt := 178) hx hb dX9_look_139 (by decide) (fun q => absurd q (by decide)) (fun _ => ?_)
  refine lv_aload_n hx hb dX9_look_142 rfl (lv_at hl 2 rfl) ?_
  refine va_get (ci := 9) (v := .ref (a 52)) (C := RX9) (T := TX9) (N := 6) hx hb htA in_X9 hown hK hP 5 rfl rfl 2 (by decide) (htA _ wd_44) (fun _ h => h) rfl dX9_look_143 ?_
  refine lv_iload hx hb dX9_look_146 (lv_at hl 0 rfl) ?_
  refine lv_aload_n hx hb dX9_look_148 rfl (lv_at hl 2 rfl) ?_
  refine lv_aload_n hx hb dX9_look_149 rfl (lv_at hl 2 rfl) ?_
  refine va_get (ci := 9) (v := .ref (a 52)) (C := RX9) (T := TX9) (N := 6) hx hb htA in_X9 hown hK hP 5 rfl rfl 2 (by decide) (htA _ wd_44) (fun _ h => h) rfl dX9_look_150 ?_
  refine lv_iload hx hb dX9_look_153 (lv_at hl 0 rfl) ?_
  refine lv_iconst (v := 1) hx hb dX9_look_155 (by decide) ?_
  refine lv_isub hx hb dX9_look_156 ?_
  refine lv_topi (fun x19 ex19 => ?_)
  obtain rfl : x19 = 3 := ex19.trans (by decide)
  refine va_iald hx hb hK hP 1 0 rfl rfl (in_lit (by decide)) dX9_look_157 ?_
  refine lv_topi (fun x20 ex20 => ?_)
  obtain rfl : x20 = 1 := ex20.trans (by decide)
  refine kVi (As := [.int 1]) (rest := [.int 4, .ref (a 52)]) (wr := [((a 51), .inl (cy 0, 61, .inl (fun _ => 0))), ((a 52), .inl (cy 0, 61, .inl (rc 4))), ((a 5), .inr (1, [.ref (a 40), .int 0, .int 0, .ref (a 46), .ref (a 47)])), ((a 10), .inr (0, [.int 0, .int 1, .int 1, .int 0, .int 0, .ref (a 11), .ref (a 12), .ref (a 13), .null, .null])), ((a 40), .inr (6, [.ref (a 10), .int 0, .ref (a 41), .ref (a 42), .ref (a 43), .ref (a 44), .ref (a 45), .int 0]))]) hX hE (au_X9_near_58 l D cy a) (cwVA 1 htA wd_1188 wd_1185 wd_2 wd_1187 wp_37 (by decide +kernel) ⟨by decide, by decide⟩) hP hD hS [5] [0, 1, 2, 3, 4] rfl rfl (by decide +kernel) 0 rfl rfl rfl rfl hl.1 rfl (Nat.le_of_ble_eq_true rfl) dX9_look_158 (by decide) (fun r_ W1 H locs hw hP hD hS => ?_)
  refine W.widen (k := 0) (n := 0) (by decide) (by decide) ?_
  obtain ⟨rfl, rfl⟩ := hw
  have hP : va_P D vwCl [((a 51), .inl (cy 0, 61, .inl (fun _ => 0))), ((a 52), .inl (cy 0, 61, .inl (rc 4))), ((a 5), .inr (1, [.ref (a 40), .int 0, .int 0, .ref (a 46), .ref (a 47)])), ((a 10), .inr (0, [.int 0, .int 1, .int 1, .int 0, .int 0, .ref (a 11), .ref (a 12), .ref (a 13), .null, .null])), ((a 40), .inr (6, [.ref (a 10), .int 0, .ref (a 41), .ref (a 42), .ref (a 43), .ref (a 44), .ref (a 45), .int 0])), ((a 6), .inr (9, [.int 1, .ref (a 51), .ref (a 52), .ref (a 53), .ref (a 54), .ref (a 55)]))] H := hP
  have hD := va_ca hP hD
  refine lv_aload_n hx hb dX9_look_161 rfl (lv_at hl 2 rfl) ?_
  refine va_get (ci := 9) (v := .ref (a 51)) (C := RX9) (T := TX9) (N := 6) hx hb htA in_X9 hown hK hP 5 rfl rfl 1 (by decide) (htA _ wd_43) (fun _ h => h) rfl dX9_look_162 ?_
  refine lv_iload hx hb dX9_look_165 (lv_at hl 0 rfl) ?_
  refine va_iald hx hb hK hP 0 0 rfl rfl (in_lit (by decide)) dX9_look_167 ?_
  refine lv_topi (fun x21 ex21 => ?_)
  obtain rfl : x21 = 0 := ex21
  refine lv_iconst (v := (-1)) hx hb dX9_look_168 (by decide) ?_
  refine lv_ixor hx hb dX9_look_169 ?_
  refine lv_topi (fun x22 ex22 => ?_)
  obtain rfl : x22 = (-1) := ex22.trans (by decide)
  refine lv_iand hx hb dX9_look_170 ?_
  refine lv_topi (fun x23 ex23 => ?_)
  obtain rfl : x23 = 1 := ex23.trans (by decide)
  refine va_iast hx hb hK hP hD hS 1 0 rfl rfl (in_lit (by decide)) dX9_look_171 (fun H locs hP hD hS => ?_)
  rw [rc_s 4 4 (by decide)] at hP hD
  have hP : va_P D vwCl [((a 51), .inl (cy 0, 61, .inl (fun _ => 0))), ((a 52), .inl (cy 0, 61, .inl (rc 5))), ((a 5), .inr (1, [.ref (a 40), .int 0, .int 0, .ref (a 46), .ref (a 47)])), ((a 10), .inr (0, [.int 0, .int 1, .int 1, .int 0, .int 0, .ref (a 11), .ref (a 12), .ref (a 13), .null, .null])), ((a 40), .inr (6, [.ref (a 10), .int 0, .ref (a 41), .ref (a 42), .ref (a 43), .ref (a 44), .ref (a 45), .int 0])), ((a 6), .inr (9, [.int 1, .ref (a 51), .ref (a 52), .ref (a 53), .ref (a 54), .ref (a 55)]))] H := hP
  have hD := va_ca hP hD
  refine lv_iinc (v := 5) (lv' := [(4, .int 5), (3, .int 1), (0, .ref (a 6)), (1, .ref (a 5)), (2, .int 0)]) hx hb dX9_look_172 hl (k := 0) rfl (by decide) (by decide) rfl (fun ls hl => ?_)
  refine lv_goto (tgt := 135) hx hb dX9_look_175 (by decide) ?_
  refine lv_iload hx hb dX9_look_135 (lv_at hl 0 rfl) ?_
  refine lv_bipush (v := 60) hx hb dX9_look_137 (by decide) ?_
  refine lv_icmp_gt (tgt := 178) hx hb dX9_look_139 (by decide) (fun q => absurd q (by decide)) (fun _ => ?_)
  refine lv_aload_n hx hb dX9_look_142 rfl (lv_at hl 2 rfl) ?_
  refine va_get (ci := 9) (v := .ref (a 52)) (C := RX9) (T := TX9) (N := 6) hx hb htA in_X9 hown hK hP 5 rfl rfl 2 (by decide) (htA _ wd_44) (fun _ h => h) rfl dX9_look_143 ?_
  refine lv_iload hx hb dX9_look_146 (lv_at hl 0 rfl) ?_
  refine lv_aload_n hx hb dX9_look_148 rfl (lv_at hl 2 rfl) ?_
  refine lv_aload_n hx hb dX9_look_149 rfl (lv_at hl 2 rfl) ?_
  refine va_get (ci := 9) (v := .ref (a 52)) (C := RX9) (T := TX9) (N := 6) hx hb htA in_X9 hown hK hP 5 rfl rfl 2 (by decide) (htA _ wd_44) (fun _ h => h) rfl dX9_look_150 ?_
  refine lv_iload hx hb dX9_look_153 (lv_at hl 0 rfl) ?_
  refine lv_iconst (v := 1) hx hb dX9_look_155 (by decide) ?_
  refine lv_isub hx hb dX9_look_156 ?_
  refine lv_topi (fun x24 ex24 => ?_)
  obtain rfl : x24 = 4 := ex24.trans (by decide)
  refine va_iald hx hb hK hP 1 0 rfl rfl (in_lit (by decide)) dX9_look_157 ?_
  refine lv_topi (fun x25 ex25 => ?_)
  obtain rfl : x25 = 1 := ex25.trans (by decide)
  refine kVi (As := [.int 1]) (rest := [.int 5, .ref (a 52)]) (wr := [((a 51), .inl (cy 0, 61, .inl (fun _ => 0))), ((a 52), .inl (cy 0, 61, .inl (rc 5))), ((a 5), .inr (1, [.ref (a 40), .int 0, .int 0, .ref (a 46), .ref (a 47)])), ((a 10), .inr (0, [.int 0, .int 1, .int 1, .int 0, .int 0, .ref (a 11), .ref (a 12), .ref (a 13), .null, .null])), ((a 40), .inr (6, [.ref (a 10), .int 0, .ref (a 41), .ref (a 42), .ref (a 43), .ref (a 44), .ref (a 45), .int 0]))]) hX hE (au_X9_near_58 l D cy a) (cwVA 1 htA wd_1188 wd_1185 wd_2 wd_1187 wp_37 (by decide +kernel) ⟨by decide, by decide⟩) hP hD hS [5] [0, 1, 2, 3, 4] rfl rfl (by decide +kernel) 0 rfl rfl rfl rfl hl.1 rfl (Nat.le_of_ble_eq_true rfl) dX9_look_158 (by decide) (fun r_ W1 H locs hw hP hD hS => ?_)
  refine W.widen (k := 0) (n := 0) (by decide) (by decide) ?_
  obtain ⟨rfl, rfl⟩ := hw
  have hP : va_P D vwCl [((a 51), .inl (cy 0, 61, .inl (fun _ => 0))), ((a 52), .inl (cy 0, 61, .inl (rc 5))), ((a 5), .inr (1, [.ref (a 40), .int 0, .int 0, .ref (a 46), .ref (a 47)])), ((a 10), .inr (0, [.int 0, .int 1, .int 1, .int 0, .int 0, .ref (a 11), .ref (a 12), .ref (a 13), .null, .null])), ((a 40), .inr (6, [.ref (a 10), .int 0, .ref (a 41), .ref (a 42), .ref (a 43), .ref (a 44), .ref (a 45), .int 0])), ((a 6), .inr (9, [.int 1, .ref (a 51), .ref (a 52), .ref (a 53), .ref (a 54), .ref (a 55)]))] H := hP
  have hD := va_ca hP hD
  refine lv_aload_n hx hb dX9_look_161 rfl (lv_at hl 2 rfl) ?_
  refine va_get (ci := 9) (v := .ref (a 51)) (C := RX9) (T := TX9) (N := 6) hx hb htA in_X9 hown hK hP 5 rfl rfl 1 (by decide) (htA _ wd_43) (fun _ h => h) rfl dX9_look_162 ?_
  refine lv_iload hx hb dX9_look_165 (lv_at hl 0 rfl) ?_
  refine va_iald hx hb hK hP 0 0 rfl rfl (in_lit (by decide)) dX9_look_167 ?_
  refine lv_topi (fun x26 ex26 => ?_)
  obtain rfl : x26 = 0 := ex26
  refine lv_iconst (v := (-1)) hx hb dX9_look_168 (by decide) ?_
  refine lv_ixor hx hb dX9_look_169 ?_
  refine lv_topi (fun x27 ex27 => ?_)
  obtain rfl : x27 = (-1) := ex27.trans (by decide)
  refine lv_iand hx hb dX9_look_170 ?_
  refine lv_topi (fun x28 ex28 => ?_)
  obtain rfl : x28 = 1 := ex28.trans (by decide)
  refine va_iast hx hb hK hP hD hS 1 0 rfl rfl (in_lit (by decide)) dX9_look_171 (fun H locs hP hD hS => ?_)
  rw [rc_s 5 5 (by decide)] at hP hD
  have hP : va_P D vwCl [((a 51), .inl (cy 0, 61, .inl (fun _ => 0))), ((a 52), .inl (cy 0, 61, .inl (rc 6))), ((a 5), .inr (1, [.ref (a 40), .int 0, .int 0, .ref (a 46), .ref (a 47)])), ((a 10), .inr (0, [.int 0, .int 1, .int 1, .int 0, .int 0, .ref (a 11), .ref (a 12), .ref (a 13), .null, .null])), ((a 40), .inr (6, [.ref (a 10), .int 0, .ref (a 41), .ref (a 42), .ref (a 43), .ref (a 44), .ref (a 45), .int 0])), ((a 6), .inr (9, [.int 1, .ref (a 51), .ref (a 52), .ref (a 53), .ref (a 54), .ref (a 55)]))] H := hP
  have hD := va_ca hP hD
  refine lv_iinc (v := 6) (lv' := [(4, .int 6), (3, .int 1), (0, .ref (a 6)), (1, .ref (a 5)), (2, .int 0)]) hx hb dX9_look_172 hl (k := 0) rfl (by decide) (by decide) rfl (fun ls hl => ?_)
  refine lv_goto (tgt := 135) hx hb dX9_look_175 (by decide) ?_
  refine lv_iload hx hb dX9_look_135 (lv_at hl 0 rfl) ?_
  refine lv_bipush (v := 60) hx hb dX9_look_137 (by decide) ?_
  refine lv_icmp_gt (tgt := 178) hx hb dX9_look_139 (by decide) (fun q => absurd q (by decide)) (fun _ => ?_)
  refine lv_aload_n hx hb dX9_look_142 rfl (lv_at hl 2 rfl) ?_
  refine va_get (ci := 9) (v := .ref (a 52)) (C := RX9) (T := TX9) (N := 6) hx hb htA in_X9 hown hK hP 5 rfl rfl 2 (by decide) (htA _ wd_44) (fun _ h => h) rfl dX9_look_143 ?_
  refine lv_iload hx hb dX9_look_146 (lv_at hl 0 rfl) ?_
  refine lv_aload_n hx hb dX9_look_148 rfl (lv_at hl 2 rfl) ?_
  refine lv_aload_n hx hb dX9_look_149 rfl (lv_at hl 2 rfl) ?_
  refine va_get (ci := 9) (v := .ref (a 52)) (C := RX9) (T := TX9) (N := 6) hx hb htA in_X9 hown hK hP 5 rfl rfl 2 (by decide) (htA _ wd_44) (fun _ h => h) rfl dX9_look_150 ?_
  refine lv_iload hx hb dX9_look_153 (lv_at hl 0 rfl) ?_
  refine lv_iconst (v := 1) hx hb dX9_look_155 (by decide) ?_
  refine lv_isub hx hb dX9_look_156 ?_
  refine lv_topi (fun x29 ex29 => ?_)
  obtain rfl : x29 = 5 := ex29.trans (by decide)
  refine va_iald hx hb hK hP 1 0 rfl rfl (in_lit (by decide)) dX9_look_157 ?_
  refine lv_topi (fun x30 ex30 => ?_)
  obtain rfl : x30 = 1 := ex30.trans (by decide)
  refine kVi (As := [.int 1]) (rest := [.int 6, .ref (a 52)]) (wr := [((a 51), .inl (cy 0, 61, .inl (fun _ => 0))), ((a 52), .inl (cy 0, 61, .inl (rc 6))), ((a 5), .inr (1, [.ref (a 40), .int 0, .int 0, .ref (a 46), .ref (a 47)])), ((a 10), .inr (0, [.int 0, .int 1, .int 1, .int 0, .int 0, .ref (a 11), .ref (a 12), .ref (a 13), .null, .null])), ((a 40), .inr (6, [.ref (a 10), .int 0, .ref (a 41), .ref (a 42), .ref (a 43), .ref (a 44), .ref (a 45), .int 0]))]) hX hE (au_X9_near_58 l D cy a) (cwVA 1 htA wd_1188 wd_1185 wd_2 wd_1187 wp_37 (by decide +kernel) ⟨by decide, by decide⟩) hP hD hS [5] [0, 1, 2, 3, 4] rfl rfl (by decide +kernel) 0 rfl rfl rfl rfl hl.1 rfl (Nat.le_of_ble_eq_true rfl) dX9_look_158 (by decide) (fun r_ W1 H locs hw hP hD hS => ?_)
  refine W.widen (k := 0) (n := 0) (by decide) (by decide) ?_
  obtain ⟨rfl, rfl⟩ := hw
  have hP : va_P D vwCl [((a 51), .inl (cy 0, 61, .inl (fun _ => 0))), ((a 52), .inl (cy 0, 61, .inl (rc 6))), ((a 5), .inr (1, [.ref (a 40), .int 0, .int 0, .ref (a 46), .ref (a 47)])), ((a 10), .inr (0, [.int 0, .int 1, .int 1, .int 0, .int 0, .ref (a 11), .ref (a 12), .ref (a 13), .null, .null])), ((a 40), .inr (6, [.ref (a 10), .int 0, .ref (a 41), .ref (a 42), .ref (a 43), .ref (a 44), .ref (a 45), .int 0])), ((a 6), .inr (9, [.int 1, .ref (a 51), .ref (a 52), .ref (a 53), .ref (a 54), .ref (a 55)]))] H := hP
  have hD := va_ca hP hD
  refine lv_aload_n hx hb dX9_look_161 rfl (lv_at hl 2 rfl) ?_
  refine va_get (ci := 9) (v := .ref (a 51)) (C := RX9) (T := TX9) (N := 6) hx hb htA in_X9 hown hK hP 5 rfl rfl 1 (by decide) (htA _ wd_43) (fun _ h => h) rfl dX9_look_162 ?_
  refine lv_iload hx hb dX9_look_165 (lv_at hl 0 rfl) ?_
  refine va_iald hx hb hK hP 0 0 rfl rfl (in_lit (by decide)) dX9_look_167 ?_
  refine lv_topi (fun x31 ex31 => ?_)
  obtain rfl : x31 = 0 := ex31
  refine lv_iconst (v := (-1)) hx hb dX9_look_168 (by decide) ?_
  refine lv_ixor hx hb dX9_look_169 ?_
  refine lv_topi (fun x32 ex32 => ?_)
  obtain rfl : x32 = (-1) := ex32.trans (by decide)
  refine lv_iand hx hb dX9_look_170 ?_
  refine lv_topi (fun x33 ex33 => ?_)
  obtain rfl : x33 = 1 := ex33.trans (by decide)
  refine va_iast hx hb hK hP hD hS 1 0 rfl rfl (in_lit (by decide)) dX9_look_171 (fun H locs hP hD hS => ?_)
  rw [rc_s 6 6 (by decide)] at hP hD
  have hP : va_P D vwCl [((a 51), .inl (cy 0, 61, .inl (fun _ => 0))), ((a 52), .inl (cy 0, 61, .inl (rc 7))), ((a 5), .inr (1, [.ref (a 40), .int 0, .int 0, .ref (a 46), .ref (a 47)])), ((a 10), .inr (0, [.int 0, .int 1, .int 1, .int 0, .int 0, .ref (a 11), .ref (a 12), .ref (a 13), .null, .null])), ((a 40), .inr (6, [.ref (a 10), .int 0, .ref (a 41), .ref (a 42), .ref (a 43), .ref (a 44), .ref (a 45), .int 0])), ((a 6), .inr (9, [.int 1, .ref (a 51), .ref (a 52), .ref (a 53), .ref (a 54), .ref (a 55)]))] H := hP
  have hD := va_ca hP hD
  refine lv_iinc (v := 7) (lv' := [(4, .int 7), (3, .int 1), (0, .ref (a 6)), (1, .ref (a 5)), (2, .int 0)]) hx hb dX9_look_172 hl (k := 0) rfl (by decide) (by decide) rfl (fun ls hl => ?_)
  refine lv_goto (tgt := 135) hx hb dX9_look_175 (by decide) ?_
  refine lv_iload hx hb dX9_look_135 (lv_at hl 0 rfl) ?_
  refine lv_bipush (v := 60) hx hb dX9_look_137 (by decide) ?_
  refine lv_icmp_gt (tgt := 178) hx hb dX9_look_139 (by decide) (fun q => absurd q (by decide)) (fun _ => ?_)
  refine lv_aload_n hx hb dX9_look_142 rfl (lv_at hl 2 rfl) ?_
  refine va_get (ci := 9) (v := .ref (a 52)) (C := RX9) (T := TX9) (N := 6) hx hb htA in_X9 hown hK hP 5 rfl rfl 2 (by decide) (htA _ wd_44) (fun _ h => h) rfl dX9_look_143 ?_
  refine lv_iload hx hb dX9_look_146 (lv_at hl 0 rfl) ?_
  refine lv_aload_n hx hb dX9_look_148 rfl (lv_at hl 2 rfl) ?_
  refine lv_aload_n hx hb dX9_look_149 rfl (lv_at hl 2 rfl) ?_
  refine va_get (ci := 9) (v := .ref (a 52)) (C := RX9) (T := TX9) (N := 6) hx hb htA in_X9 hown hK hP 5 rfl rfl 2 (by decide) (htA _ wd_44) (fun _ h => h) rfl dX9_look_150 ?_
  refine lv_iload hx hb dX9_look_153 (lv_at hl 0 rfl) ?_
  refine lv_iconst (v := 1) hx hb dX9_look_155 (by decide) ?_
  refine lv_isub hx hb dX9_look_156 ?_
  refine lv_topi (fun x34 ex34 => ?_)
  obtain rfl : x34 = 6 := ex34.trans (by decide)
  refine va_iald hx hb hK hP 1 0 rfl rfl (in_lit (by decide)) dX9_look_157 ?_
  refine lv_topi (fun x35 ex35 => ?_)
  obtain rfl : x35 = 1 := ex35.trans (by decide)
  refine kVi (As := [.int 1]) (rest := [.int 7, .ref (a 52)]) (wr := [((a 51), .inl (cy 0, 61, .inl (fun _ => 0))), ((a 52), .inl (cy 0, 61, .inl (rc 7))), ((a 5), .inr (1, [.ref (a 40), .int 0, .int 0, .ref (a 46), .ref (a 47)])), ((a 10), .inr (0, [.int 0, .int 1, .int 1, .int 0, .int 0, .ref (a 11), .ref (a 12), .ref (a 13), .null, .null])), ((a 40), .inr (6, [.ref (a 10), .int 0, .ref (a 41), .ref (a 42), .ref (a 43), .ref (a 44), .ref (a 45), .int 0]))]) hX hE (au_X9_near_58 l D cy a) (cwVA 1 htA wd_1188 wd_1185 wd_2 wd_1187 wp_37 (by decide +kernel) ⟨by decide, by decide⟩) hP hD hS [5] [0, 1, 2, 3, 4] rfl rfl (by decide +kernel) 0 rfl rfl rfl rfl hl.1 rfl (Nat.le_of_ble_eq_true rfl) dX9_look_158 (by decide) (fun r_ W1 H locs hw hP hD hS => ?_)
  refine W.widen (k := 0) (n := 0) (by decide) (by decide) ?_
  obtain ⟨rfl, rfl⟩ := hw
  have hP : va_P D vwCl [((a 51), .inl (cy 0, 61, .inl (fun _ => 0))), ((a 52), .inl (cy 0, 61, .inl (rc 7))), ((a 5), .inr (1, [.ref (a 40), .int 0, .int 0, .ref (a 46), .ref (a 47)])), ((a 10), .inr (0, [.int 0, .int 1, .int 1, .int 0, .int 0, .ref (a 11), .ref (a 12), .ref (a 13), .null, .null])), ((a 40), .inr (6, [.ref (a 10), .int 0, .ref (a 41), .ref (a 42), .ref (a 43), .ref (a 44), .ref (a 45), .int 0])), ((a 6), .inr (9, [.int 1, .ref (a 51), .ref (a 52), .ref (a 53), .ref (a 54), .ref (a 55)]))] H := hP
  have hD := va_ca hP hD
  refine lv_aload_n hx hb dX9_look_161 rfl (lv_at hl 2 rfl) ?_
  refine va_get (ci := 9) (v := .ref (a 51)) (C := RX9) (T := TX9) (N := 6) hx hb htA in_X9 hown hK hP 5 rfl rfl 1 (by decide) (htA _ wd_43) (fun _ h => h) rfl dX9_look_162 ?_
  refine lv_iload hx hb dX9_look_165 (lv_at hl 0 rfl) ?_
  refine va_iald hx hb hK hP 0 0 rfl rfl (in_lit (by decide)) dX9_look_167 ?_
  refine lv_topi (fun x36 ex36 => ?_)
  obtain rfl : x36 = 0 := ex36
  refine lv_iconst (v := (-1)) hx hb dX9_look_168 (by decide) ?_
  refine lv_ixor hx hb dX9_look_169 ?_
  refine lv_topi (fun x37 ex37 => ?_)
  obtain rfl : x37 = (-1) := ex37.trans (by decide)
  refine lv_iand hx hb dX9_look_170 ?_
  refine lv_topi (fun x38 ex38 => ?_)
  obtain rfl : x38 = 1 := ex38.trans (by decide)
  refine va_iast hx hb hK hP hD hS 1 0 rfl rfl (in_lit (by decide)) dX9_look_171 (fun H locs hP hD hS => ?_)
  rw [rc_s 7 7 (by decide)] at hP hD
  have hP : va_P D vwCl [((a 51), .inl (cy 0, 61, .inl (fun _ => 0))), ((a 52), .inl (cy 0, 61, .inl (rc 8))), ((a 5), .inr (1, [.ref (a 40), .int 0, .int 0, .ref (a 46), .ref (a 47)])), ((a 10), .inr (0, [.int 0, .int 1, .int 1, .int 0, .int 0, .ref (a 11), .ref (a 12), .ref (a 13), .null, .null])), ((a 40), .inr (6, [.ref (a 10), .int 0, .ref (a 41), .ref (a 42), .ref (a 43), .ref (a 44), .ref (a 45), .int 0])), ((a 6), .inr (9, [.int 1, .ref (a 51), .ref (a 52), .ref (a 53), .ref (a 54), .ref (a 55)]))] H := hP
  have hD := va_ca hP hD
  refine lv_iinc (v := 8) (lv' := [(4, .int 8), (3, .int 1), (0, .ref (a 6)), (1, .ref (a 5)), (2, .int 0)]) hx hb dX9_look_172 hl (k := 0) rfl (by decide) (by decide) rfl (fun ls hl => ?_)
  refine lv_goto (tgt := 135) hx hb dX9_look_175 (by decide) ?_
  refine lv_iload hx hb dX9_look_135 (lv_at hl 0 rfl) ?_
  refine lv_bipush (v := 60) hx hb dX9_look_137 (by decide) ?_
  refine lv_icmp_gt (tgt := 178) hx hb dX9_look_139 (by decide) (fun q => absurd q (by decide)) (fun _ => ?_)
  refine lv_aload_n hx hb dX9_look_142 rfl (lv_at hl 2 rfl) ?_
  refine va_get (ci := 9) (v := .ref (a 52)) (C := RX9) (T := TX9) (N := 6) hx hb htA in_X9 hown hK hP 5 rfl rfl 2 (by decide) (htA _ wd_44) (fun _ h => h) rfl dX9_look_143 ?_
  refine lv_iload hx hb dX9_look_146 (lv_at hl 0 rfl) ?_
  refine lv_aload_n hx hb dX9_look_148 rfl (lv_at hl 2 rfl) ?_
  refine lv_aload_n hx hb dX9_look_149 rfl (lv_at hl 2 rfl) ?_
  refine va_get (ci := 9) (v := .ref (a 52)) (C := RX9) (T := TX9) (N := 6) hx hb htA in_X9 hown hK hP 5 rfl rfl 2 (by decide) (htA _ wd_44) (fun _ h => h) rfl dX9_look_150 ?_
  refine lv_iload hx hb dX9_look_153 (lv_at hl 0 rfl) ?_
  refine lv_iconst (v := 1) hx hb dX9_look_155 (by decide) ?_
  refine lv_isub hx hb dX9_look_156 ?_
  refine lv_topi (fun x39 ex39 => ?_)
  obtain rfl : x39 = 7 := ex39.trans (by decide)
  refine va_iald hx hb hK hP 1 0 rfl rfl (in_lit (by decide)) dX9_look_157 ?_
  refine lv_topi (fun x40 ex40 => ?_)
  obtain rfl : x40 = 1 := ex40.trans (by decide)
  refine kVi (As := [.int 1]) (rest := [.int 8, .ref (a 52)]) (wr := [((a 51), .inl (cy 0, 61, .inl (fun _ => 0))), ((a 52), .inl (cy 0, 61, .inl (rc 8))), ((a 5), .inr (1, [.ref (a 40), .int 0, .int 0, .ref (a 46), .ref (a 47)])), ((a 10), .inr (0, [.int 0, .int 1, .int 1, .int 0, .int 0, .ref (a 11), .ref (a 12), .ref (a 13), .null, .null])), ((a 40), .inr (6, [.ref (a 10), .int 0, .ref (a 41), .ref (a 42), .ref (a 43), .ref (a 44), .ref (a 45), .int 0]))]) hX hE (au_X9_near_58 l D cy a) (cwVA 1 htA wd_1188 wd_1185 wd_2 wd_1187 wp_37 (by decide +kernel) ⟨by decide, by decide⟩) hP hD hS [5] [0, 1, 2, 3, 4] rfl rfl (by decide +kernel) 0 rfl rfl rfl rfl hl.1 rfl (Nat.le_of_ble_eq_true rfl) dX9_look_158 (by decide) (fun r_ W1 H locs hw hP hD hS => ?_)
  refine W.widen (k := 0) (n := 0) (by decide) (by decide) ?_
  obtain ⟨rfl, rfl⟩ := hw
  have hP : va_P D vwCl [((a 51), .inl (cy 0, 61, .inl (fun _ => 0))), ((a 52), .inl (cy 0, 61, .inl (rc 8))), ((a 5), .inr (1, [.ref (a 40), .int 0, .int 0, .ref (a 46), .ref (a 47)])), ((a 10), .inr (0, [.int 0, .int 1, .int 1, .int 0, .int 0, .ref (a 11), .ref (a 12), .ref (a 13), .null, .null])), ((a 40), .inr (6, [.ref (a 10), .int 0, .ref (a 41), .ref (a 42), .ref (a 43), .ref (a 44), .ref (a 45), .int 0])), ((a 6), .inr (9, [.int 1, .ref (a 51), .ref (a 52), .ref (a 53), .ref (a 54), .ref (a 55)]))] H := hP
  have hD := va_ca hP hD
  refine lv_aload_n hx hb dX9_look_161 rfl (lv_at hl 2 rfl) ?_
  refine va_get (ci := 9) (v := .ref (a 51)) (C := RX9) (T := TX9) (N := 6) hx hb htA in_X9 hown hK hP 5 rfl rfl 1 (by decide) (htA _ wd_43) (fun _ h => h) rfl dX9_look_162 ?_
  refine lv_iload hx hb dX9_look_165 (lv_at hl 0 rfl) ?_
  refine va_iald hx hb hK hP 0 0 rfl rfl (in_lit (by decide)) dX9_look_167 ?_
  refine lv_topi (fun x41 ex41 => ?_)
  obtain rfl : x41 = 0 := ex41
  refine lv_iconst (v := (-1)) hx hb dX9_look_168 (by decide) ?_
  refine lv_ixor hx hb dX9_look_169 ?_
  refine lv_topi (fun x42 ex42 => ?_)
  obtain rfl : x42 = (-1) := ex42.trans (by decide)
  refine lv_iand hx hb dX9_look_170 ?_
  refine lv_topi (fun x43 ex43 => ?_)
  obtain rfl : x43 = 1 := ex43.trans (by decide)
  refine va_iast hx hb hK hP hD hS 1 0 rfl rfl (in_lit (by decide)) dX9_look_171 (fun H locs hP hD hS => ?_)
  rw [rc_s 8 8 (by decide)] at hP hD
  have hP : va_P D vwCl [((a 51), .inl (cy 0, 61, .inl (fun _ => 0))), ((a 52), .inl (cy 0, 61, .inl (rc 9))), ((a 5), .inr (1, [.ref (a 40), .int 0, .int 0, .ref (a 46), .ref (a 47)])), ((a 10), .inr (0, [.int 0, .int 1, .int 1, .int 0, .int 0, .ref (a 11), .ref (a 12), .ref (a 13), .null, .null])), ((a 40), .inr (6, [.ref (a 10), .int 0, .ref (a 41), .ref (a 42), .ref (a 43), .ref (a 44), .ref (a 45), .int 0])), ((a 6), .inr (9, [.int 1, .ref (a 51), .ref (a 52), .ref (a 53), .ref (a 54), .ref (a 55)]))] H := hP
  have hD := va_ca hP hD
  refine lv_iinc (v := 9) (lv' := [(4, .int 9), (3, .int 1), (0, .ref (a 6)), (1, .ref (a 5)), (2, .int 0)]) hx hb dX9_look_172 hl (k := 0) rfl (by decide) (by decide) rfl (fun ls hl => ?_)
  refine lv_goto (tgt := 135) hx hb dX9_look_175 (by decide) ?_
  refine lv_iload hx hb dX9_look_135 (lv_at hl 0 rfl) ?_
  refine lv_bipush (v := 60) hx hb dX9_look_137 (by decide) ?_
  refine lv_icmp_gt (tgt := 178) hx hb dX9_look_139 (by decide) (fun q => absurd q (by decide)) (fun _ => ?_)
  refine lv_aload_n hx hb dX9_look_142 rfl (lv_at hl 2 rfl) ?_
  refine va_get (ci := 9) (v := .ref (a 52)) (C := RX9) (T := TX9) (N := 6) hx hb htA in_X9 hown hK hP 5 rfl rfl 2 (by decide) (htA _ wd_44) (fun _ h => h) rfl dX9_look_143 ?_
  refine lv_iload hx hb dX9_look_146 (lv_at hl 0 rfl) ?_
  refine lv_aload_n hx hb dX9_look_148 rfl (lv_at hl 2 rfl) ?_
  refine lv_aload_n hx hb dX9_look_149 rfl (lv_at hl 2 rfl) ?_
  refine va_get (ci := 9) (v := .ref (a 52)) (C := RX9) (T := TX9) (N := 6) hx hb htA in_X9 hown hK hP 5 rfl rfl 2 (by decide) (htA _ wd_44) (fun _ h => h) rfl dX9_look_150 ?_
  refine lv_iload hx hb dX9_look_153 (lv_at hl 0 rfl) ?_
  refine lv_iconst (v := 1) hx hb dX9_look_155 (by decide) ?_
  refine lv_isub hx hb dX9_look_156 ?_
  refine lv_topi (fun x44 ex44 => ?_)
  obtain rfl : x44 = 8 := ex44.trans (by decide)
  refine va_iald hx hb hK hP 1 0 rfl rfl (in_lit (by decide)) dX9_look_157 ?_
  refine lv_topi (fun x45 ex45 => ?_)
  obtain rfl : x45 = 1 := ex45.trans (by decide)
  refine kVi (As := [.int 1]) (rest := [.int 9, .ref (a 52)]) (wr := [((a 51), .inl (cy 0, 61, .inl (fun _ => 0))), ((a 52), .inl (cy 0, 61, .inl (rc 9))), ((a 5), .inr (1, [.ref (a 40), .int 0, .int 0, .ref (a 46), .ref (a 47)])), ((a 10), .inr (0, [.int 0, .int 1, .int 1, .int 0, .int 0, .ref (a 11), .ref (a 12), .ref (a 13), .null, .null])), ((a 40), .inr (6, [.ref (a 10), .int 0, .ref (a 41), .ref (a 42), .ref (a 43), .ref (a 44), .ref (a 45), .int 0]))]) hX hE (au_X9_near_58 l D cy a) (cwVA 1 htA wd_1188 wd_1185 wd_2 wd_1187 wp_37 (by decide +kernel) ⟨by decide, by decide⟩) hP hD hS [5] [0, 1, 2, 3, 4] rfl rfl (by decide +kernel) 0 rfl rfl rfl rfl hl.1 rfl (Nat.le_of_ble_eq_true rfl) dX9_look_158 (by decide) (fun r_ W1 H locs hw hP hD hS => ?_)
  refine W.widen (k := 0) (n := 0) (by decide) (by decide) ?_
  obtain ⟨rfl, rfl⟩ := hw
  have hP : va_P D vwCl [((a 51), .inl (cy 0, 61, .inl (fun _ => 0))), ((a 52), .inl (cy 0, 61, .inl (rc 9))), ((a 5), .inr (1, [.ref (a 40), .int 0, .int 0, .ref (a 46), .ref (a 47)])), ((a 10), .inr (0, [.int 0, .int 1, .int 1, .int 0, .int 0, .ref (a 11), .ref (a 12), .ref (a 13), .null, .null])), ((a 40), .inr (6, [.ref (a 10), .int 0, .ref (a 41), .ref (a 42), .ref (a 43), .ref (a 44), .ref (a 45), .int 0])), ((a 6), .inr (9, [.int 1, .ref (a 51), .ref (a 52), .ref (a 53), .ref (a 54), .ref (a 55)]))] H := hP
  have hD := va_ca hP hD
  refine lv_aload_n hx hb dX9_look_161 rfl (lv_at hl 2 rfl) ?_
  refine va_get (ci := 9) (v := .ref (a 51)) (C := RX9) (T := TX9) (N := 6) hx hb htA in_X9 hown hK hP 5 rfl rfl 1 (by decide) (htA _ wd_43) (fun _ h => h) rfl dX9_look_162 ?_
  refine lv_iload hx hb dX9_look_165 (lv_at hl 0 rfl) ?_
  refine va_iald hx hb hK hP 0 0 rfl rfl (in_lit (by decide)) dX9_look_167 ?_
  refine lv_topi (fun x46 ex46 => ?_)
  obtain rfl : x46 = 0 := ex46
  refine lv_iconst (v := (-1)) hx hb dX9_look_168 (by decide) ?_
  refine lv_ixor hx hb dX9_look_169 ?_
  refine lv_topi (fun x47 ex47 => ?_)
  obtain rfl : x47 = (-1) := ex47.trans (by decide)
  refine lv_iand hx hb dX9_look_170 ?_
  refine lv_topi (fun x48 ex48 => ?_)
  obtain rfl : x48 = 1 := ex48.trans (by decide)
  refine va_iast hx hb hK hP hD hS 1 0 rfl rfl (in_lit (by decide)) dX9_look_171 (fun H locs hP hD hS => ?_)
  rw [rc_s 9 9 (by decide)] at hP hD
  have hP : va_P D vwCl [((a 51), .inl (cy 0, 61, .inl (fun _ => 0))), ((a 52), .inl (cy 0, 61, .inl (rc 10))), ((a 5), .inr (1, [.ref (a 40), .int 0, .int 0, .ref (a 46), .ref (a 47)])), ((a 10), .inr (0, [.int 0, .int 1, .int 1, .int 0, .int 0, .ref (a 11), .ref (a 12), .ref (a 13), .null, .null])), ((a 40), .inr (6, [.ref (a 10), .int 0, .ref (a 41), .ref (a 42), .ref (a 43), .ref (a 44), .ref (a 45), .int 0])), ((a 6), .inr (9, [.int 1, .ref (a 51), .ref (a 52), .ref (a 53), .ref (a 54), .ref (a 55)]))] H := hP
  have hD := va_ca hP hD
  refine lv_iinc (v := 10) (lv' := [(4, .int 10), (3, .int 1), (0, .ref (a 6)), (1, .ref (a 5)), (2, .int 0)]) hx hb dX9_look_172 hl (k := 0) rfl (by decide) (by decide) rfl (fun ls hl => ?_)
  refine lv_goto (tgt := 135) hx hb dX9_look_175 (by decide) ?_
  refine lv_iload hx hb dX9_look_135 (lv_at hl 0 rfl) ?_
  refine lv_bipush (v := 60) hx hb dX9_look_137 (by decide) ?_
  refine lv_icmp_gt (tgt := 178) hx hb dX9_look_139 (by decide) (fun q => absurd q (by decide)) (fun _ => ?_)
  refine lv_aload_n hx hb dX9_look_142 rfl (lv_at hl 2 rfl) ?_
  refine va_get (ci := 9) (v := .ref (a 52)) (C := RX9) (T := TX9) (N := 6) hx hb htA in_X9 hown hK hP 5 rfl rfl 2 (by decide) (htA _ wd_44) (fun _ h => h) rfl dX9_look_143 ?_
  refine lv_iload hx hb dX9_look_146 (lv_at hl 0 rfl) ?_
  refine lv_aload_n hx hb dX9_look_148 rfl (lv_at hl 2 rfl) ?_
  refine lv_aload_n hx hb dX9_look_149 rfl (lv_at hl 2 rfl) ?_
  refine va_get (ci := 9) (v := .ref (a 52)) (C := RX9) (T := TX9) (N := 6) hx hb htA in_X9 hown hK hP 5 rfl rfl 2 (by decide) (htA _ wd_44) (fun _ h => h) rfl dX9_look_150 ?_
  refine lv_iload hx hb dX9_look_153 (lv_at hl 0 rfl) ?_
  refine lv_iconst (v := 1) hx hb dX9_look_155 (by decide) ?_
  refine lv_isub hx hb dX9_look_156 ?_
  refine lv_topi (fun x49 ex49 => ?_)
  obtain rfl : x49 = 9 := ex49.trans (by decide)
  refine va_iald hx hb hK hP 1 0 rfl rfl (in_lit (by decide)) dX9_look_157 ?_
  refine lv_topi (fun x50 ex50 => ?_)
  obtain rfl : x50 = 1 := ex50.trans (by decide)
  refine kVi (As := [.int 1]) (rest := [.int 10, .ref (a 52)]) (wr := [((a 51), .inl (cy 0, 61, .inl (fun _ => 0))), ((a 52), .inl (cy 0, 61, .inl (rc 10))), ((a 5), .inr (1, [.ref (a 40), .int 0, .int 0, .ref (a 46), .ref (a 47)])), ((a 10), .inr (0, [.int 0, .int 1, .int 1, .int 0, .int 0, .ref (a 11), .ref (a 12), .ref (a 13), .null, .null])), ((a 40), .inr (6, [.ref (a 10), .int 0, .ref (a 41), .ref (a 42), .ref (a 43), .ref (a 44), .ref (a 45), .int 0]))]) hX hE (au_X9_near_58 l D cy a) (cwVA 1 htA wd_1188 wd_1185 wd_2 wd_1187 wp_37 (by decide +kernel) ⟨by decide, by decide⟩) hP hD hS [5] [0, 1, 2, 3, 4] rfl rfl (by decide +kernel) 0 rfl rfl rfl rfl hl.1 rfl (Nat.le_of_ble_eq_true rfl) dX9_look_158 (by decide) (fun r_ W1 H locs hw hP hD hS => ?_)
  refine W.widen (k := 0) (n := 0) (by decide) (by decide) ?_
  obtain ⟨rfl, rfl⟩ := hw
  have hP : va_P D vwCl [((a 51), .inl (cy 0, 61, .inl (fun _ => 0))), ((a 52), .inl (cy 0, 61, .inl (rc 10))), ((a 5), .inr (1, [.ref (a 40), .int 0, .int 0, .ref (a 46), .ref (a 47)])), ((a 10), .inr (0, [.int 0, .int 1, .int 1, .int 0, .int 0, .ref (a 11), .ref (a 12), .ref (a 13), .null, .null])), ((a 40), .inr (6, [.ref (a 10), .int 0, .ref (a 41), .ref (a 42), .ref (a 43), .ref (a 44), .ref (a 45), .int 0])), ((a 6), .inr (9, [.int 1, .ref (a 51), .ref (a 52), .ref (a 53), .ref (a 54), .ref (a 55)]))] H := hP
  have hD := va_ca hP hD
  refine lv_aload_n hx hb dX9_look_161 rfl (lv_at hl 2 rfl) ?_
  refine va_get (ci := 9) (v := .ref (a 51)) (C := RX9) (T := TX9) (N := 6) hx hb htA in_X9 hown hK hP 5 rfl rfl 1 (by decide) (htA _ wd_43) (fun _ h => h) rfl dX9_look_162 ?_
  refine lv_iload hx hb dX9_look_165 (lv_at hl 0 rfl) ?_
  refine va_iald hx hb hK hP 0 0 rfl rfl (in_lit (by decide)) dX9_look_167 ?_
  refine lv_topi (fun x51 ex51 => ?_)
  obtain rfl : x51 = 0 := ex51
  refine lv_iconst (v := (-1)) hx hb dX9_look_168 (by decide) ?_
  refine lv_ixor hx hb dX9_look_169 ?_
  refine lv_topi (fun x52 ex52 => ?_)
  obtain rfl : x52 = (-1) := ex52.trans (by decide)
  refine lv_iand hx hb dX9_look_170 ?_
  refine lv_topi (fun x53 ex53 => ?_)
  obtain rfl : x53 = 1 := ex53.trans (by decide)
  refine va_iast hx hb hK hP hD hS 1 0 rfl rfl (in_lit (by decide)) dX9_look_171 (fun H locs hP hD hS => ?_)
  rw [rc_s 10 10 (by decide)] at hP hD
  have hP : va_P D vwCl [((a 51), .inl (cy 0, 61, .inl (fun _ => 0))), ((a 52), .inl (cy 0, 61, .inl (rc 11))), ((a 5), .inr (1, [.ref (a 40), .int 0, .int 0, .ref (a 46), .ref (a 47)])), ((a 10), .inr (0, [.int 0, .int 1, .int 1, .int 0, .int 0, .ref (a 11), .ref (a 12), .ref (a 13), .null, .null])), ((a 40), .inr (6, [.ref (a 10), .int 0, .ref (a 41), .ref (a 42), .ref (a 43), .ref (a 44), .ref (a 45), .int 0])), ((a 6), .inr (9, [.int 1, .ref (a 51), .ref (a 52), .ref (a 53), .ref (a 54), .ref (a 55)]))] H := hP
  have hD := va_ca hP hD
  refine lv_iinc (v := 11) (lv' := [(4, .int 11), (3, .int 1), (0, .ref (a 6)), (1, .ref (a 5)), (2, .int 0)]) hx hb dX9_look_172 hl (k := 0) rfl (by decide) (by decide) rfl (fun ls hl => ?_)
  refine lv_goto (tgt := 135) hx hb dX9_look_175 (by decide) ?_
  refine lv_iload hx hb dX9_look_135 (lv_at hl 0 rfl) ?_
  refine lv_bipush (v := 60) hx hb dX9_look_137 (by decide) ?_
  refine lv_icmp_gt (tgt := 178) hx hb dX9_look_139 (by decide) (fun q => absurd q (by decide)) (fun _ => ?_)
  refine lv_aload_n hx hb dX9_look_142 rfl (lv_at hl 2 rfl) ?_
  refine va_get (ci := 9) (v := .ref (a 52)) (C := RX9) (T := TX9) (N := 6) hx hb htA in_X9 hown hK hP 5 rfl rfl 2 (by decide) (htA _ wd_44) (fun _ h => h) rfl dX9_look_143 ?_
  refine lv_iload hx hb dX9_look_146 (lv_at hl 0 rfl) ?_
  refine lv_aload_n hx hb dX9_look_148 rfl (lv_at hl 2 rfl) ?_
  refine lv_aload_n hx hb dX9_look_149 rfl (lv_at hl 2 rfl) ?_
  refine va_get (ci := 9) (v := .ref (a 52)) (C := RX9) (T := TX9) (N := 6) hx hb htA in_X9 hown hK hP 5 rfl rfl 2 (by decide) (htA _ wd_44) (fun _ h => h) rfl dX9_look_150 ?_
  refine lv_iload hx hb dX9_look_153 (lv_at hl 0 rfl) ?_
  refine lv_iconst (v := 1) hx hb dX9_look_155 (by decide) ?_
  refine lv_isub hx hb dX9_look_156 ?_
  refine lv_topi (fun x54 ex54 => ?_)
  obtain rfl : x54 = 10 := ex54.trans (by decide)
  refine va_iald hx hb hK hP 1 0 rfl rfl (in_lit (by decide)) dX9_look_157 ?_
  refine lv_topi (fun x55 ex55 => ?_)
  obtain rfl : x55 = 1 := ex55.trans (by decide)
  refine kVi (As := [.int 1]) (rest := [.int 11, .ref (a 52)]) (wr := [((a 51), .inl (cy 0, 61, .inl (fun _ => 0))), ((a 52), .inl (cy 0, 61, .inl (rc 11))), ((a 5), .inr (1, [.ref (a 40), .int 0, .int 0, .ref (a 46), .ref (a 47)])), ((a 10), .inr (0, [.int 0, .int 1, .int 1, .int 0, .int 0, .ref (a 11), .ref (a 12), .ref (a 13), .null, .null])), ((a 40), .inr (6, [.ref (a 10), .int 0, .ref (a 41), .ref (a 42), .ref (a 43), .ref (a 44), .ref (a 45), .int 0]))]) hX hE (au_X9_near_58 l D cy a) (cwVA 1 htA wd_1188 wd_1185 wd_2 wd_1187 wp_37 (by decide +kernel) ⟨by decide, by decide⟩) hP hD hS [5] [0, 1, 2, 3, 4] rfl rfl (by decide +kernel) 0 rfl rfl rfl rfl hl.1 rfl (Nat.le_of_ble_eq_true rfl) dX9_look_158 (by decide) (fun r_ W1 H locs hw hP hD hS => ?_)
  refine W.widen (k := 0) (n := 0) (by decide) (by decide) ?_
  obtain ⟨rfl, rfl⟩ := hw
  have hP : va_P D vwCl [((a 51), .inl (cy 0, 61, .inl (fun _ => 0))), ((a 52), .inl (cy 0, 61, .inl (rc 11))), ((a 5), .inr (1, [.ref (a 40), .int 0, .int 0, .ref (a 46), .ref (a 47)])), ((a 10), .inr (0, [.int 0, .int 1, .int 1, .int 0, .int 0, .ref (a 11), .ref (a 12), .ref (a 13), .null, .null])), ((a 40), .inr (6, [.ref (a 10), .int 0, .ref (a 41), .ref (a 42), .ref (a 43), .ref (a 44), .ref (a 45), .int 0])), ((a 6), .inr (9, [.int 1, .ref (a 51), .ref (a 52), .ref (a 53), .ref (a 54), .ref (a 55)]))] H := hP
  have hD := va_ca hP hD
  refine lv_aload_n hx hb dX9_look_161 rfl (lv_at hl 2 rfl) ?_
  refine va_get (ci := 9) (v := .ref (a 51)) (C := RX9) (T := TX9) (N := 6) hx hb htA in_X9 hown hK hP 5 rfl rfl 1 (by decide) (htA _ wd_43) (fun _ h => h) rfl dX9_look_162 ?_
  refine lv_iload hx hb dX9_look_165 (lv_at hl 0 rfl) ?_
  refine va_iald hx hb hK hP 0 0 rfl rfl (in_lit (by decide)) dX9_look_167 ?_
  refine lv_topi (fun x56 ex56 => ?_)
  obtain rfl : x56 = 0 := ex56
  refine lv_iconst (v := (-1)) hx hb dX9_look_168 (by decide) ?_
  refine lv_ixor hx hb dX9_look_169 ?_
  refine lv_topi (fun x57 ex57 => ?_)
  obtain rfl : x57 = (-1) := ex57.trans (by decide)
  refine lv_iand hx hb dX9_look_170 ?_
  refine lv_topi (fun x58 ex58 => ?_)
  obtain rfl : x58 = 1 := ex58.trans (by decide)
  refine va_iast hx hb hK hP hD hS 1 0 rfl rfl (in_lit (by decide)) dX9_look_171 (fun H locs hP hD hS => ?_)
  rw [rc_s 11 11 (by decide)] at hP hD
  have hP : va_P D vwCl [((a 51), .inl (cy 0, 61, .inl (fun _ => 0))), ((a 52), .inl (cy 0, 61, .inl (rc 12))), ((a 5), .inr (1, [.ref (a 40), .int 0, .int 0, .ref (a 46), .ref (a 47)])), ((a 10), .inr (0, [.int 0, .int 1, .int 1, .int 0, .int 0, .ref (a 11), .ref (a 12), .ref (a 13), .null, .null])), ((a 40), .inr (6, [.ref (a 10), .int 0, .ref (a 41), .ref (a 42), .ref (a 43), .ref (a 44), .ref (a 45), .int 0])), ((a 6), .inr (9, [.int 1, .ref (a 51), .ref (a 52), .ref (a 53), .ref (a 54), .ref (a 55)]))] H := hP
  have hD := va_ca hP hD
  refine lv_iinc (v := 12) (lv' := [(4, .int 12), (3, .int 1), (0, .ref (a 6)), (1, .ref (a 5)), (2, .int 0)]) hx hb dX9_look_172 hl (k := 0) rfl (by decide) (by decide) rfl (fun ls hl => ?_)
  refine lv_goto (tgt := 135) hx hb dX9_look_175 (by decide) ?_
  refine lv_iload hx hb dX9_look_135 (lv_at hl 0 rfl) ?_
  refine lv_bipush (v := 60) hx hb dX9_look_137 (by decide) ?_
  refine lv_icmp_gt (tgt := 178) hx hb dX9_look_139 (by decide) (fun q => absurd q (by decide)) (fun _ => ?_)
  refine lv_aload_n hx hb dX9_look_142 rfl (lv_at hl 2 rfl) ?_
  refine va_get (ci := 9) (v := .ref (a 52)) (C := RX9) (T := TX9) (N := 6) hx hb htA in_X9 hown hK hP 5 rfl rfl 2 (by decide) (htA _ wd_44) (fun _ h => h) rfl dX9_look_143 ?_
  refine lv_iload hx hb dX9_look_146 (lv_at hl 0 rfl) ?_
  refine lv_aload_n hx hb dX9_look_148 rfl (lv_at hl 2 rfl) ?_
  refine lv_aload_n hx hb dX9_look_149 rfl (lv_at hl 2 rfl) ?_
  refine va_get (ci := 9) (v := .ref (a 52)) (C := RX9) (T := TX9) (N := 6) hx hb htA in_X9 hown hK hP 5 rfl rfl 2 (by decide) (htA _ wd_44) (fun _ h => h) rfl dX9_look_150 ?_
  refine lv_iload hx hb dX9_look_153 (lv_at hl 0 rfl) ?_
  refine lv_iconst (v := 1) hx hb dX9_look_155 (by decide) ?_
  refine lv_isub hx hb dX9_look_156 ?_
  refine lv_topi (fun x59 ex59 => ?_)
  obtain rfl : x59 = 11 := ex59.trans (by decide)
  refine va_iald hx hb hK hP 1 0 rfl rfl (in_lit (by decide)) dX9_look_157 ?_
  refine lv_topi (fun x60 ex60 => ?_)
  obtain rfl : x60 = 1 := ex60.trans (by decide)
  refine kVi (As := [.int 1]) (rest := [.int 12, .ref (a 52)]) (wr := [((a 51), .inl (cy 0, 61, .inl (fun _ => 0))), ((a 52), .inl (cy 0, 61, .inl (rc 12))), ((a 5), .inr (1, [.ref (a 40), .int 0, .int 0, .ref (a 46), .ref (a 47)])), ((a 10), .inr (0, [.int 0, .int 1, .int 1, .int 0, .int 0, .ref (a 11), .ref (a 12), .ref (a 13), .null, .null])), ((a 40), .inr (6, [.ref (a 10), .int 0, .ref (a 41), .ref (a 42), .ref (a 43), .ref (a 44), .ref (a 45), .int 0]))]) hX hE (au_X9_near_58 l D cy a) (cwVA 1 htA wd_1188 wd_1185 wd_2 wd_1187 wp_37 (by decide +kernel) ⟨by decide, by decide⟩) hP hD hS [5] [0, 1, 2, 3, 4] rfl rfl (by decide +kernel) 0 rfl rfl rfl rfl hl.1 rfl (Nat.le_of_ble_eq_true rfl) dX9_look_158 (by decide) (fun r_ W1 H locs hw hP hD hS => ?_)
  refine W.widen (k := 0) (n := 0) (by decide) (by decide) ?_
  obtain ⟨rfl, rfl⟩ := hw
  have hP : va_P D vwCl [((a 51), .inl (cy 0, 61, .inl (fun _ => 0))), ((a 52), .inl (cy 0, 61, .inl (rc 12))), ((a 5), .inr (1, [.ref (a 40), .int 0, .int 0, .ref (a 46), .ref (a 47)])), ((a 10), .inr (0, [.int 0, .int 1, .int 1, .int 0, .int 0, .ref (a 11), .ref (a 12), .ref (a 13), .null, .null])), ((a 40), .inr (6, [.ref (a 10), .int 0, .ref (a 41), .ref (a 42), .ref (a 43), .ref (a 44), .ref (a 45), .int 0])), ((a 6), .inr (9, [.int 1, .ref (a 51), .ref (a 52), .ref (a 53), .ref (a 54), .ref (a 55)]))] H := hP
  have hD := va_ca hP hD
  refine lv_aload_n hx hb dX9_look_161 rfl (lv_at hl 2 rfl) ?_
  refine va_get (ci := 9) (v := .ref (a 51)) (C := RX9) (T := TX9) (N := 6) hx hb htA in_X9 hown hK hP 5 rfl rfl 1 (by decide) (htA _ wd_43) (fun _ h => h) rfl dX9_look_162 ?_
  refine lv_iload hx hb dX9_look_165 (lv_at hl 0 rfl) ?_
  refine va_iald hx hb hK hP 0 0 rfl rfl (in_lit (by decide)) dX9_look_167 ?_
  refine lv_topi (fun x61 ex61 => ?_)
  obtain rfl : x61 = 0 := ex61
  refine lv_iconst (v := (-1)) hx hb dX9_look_168 (by decide) ?_
  refine lv_ixor hx hb dX9_look_169 ?_
  refine lv_topi (fun x62 ex62 => ?_)
  obtain rfl : x62 = (-1) := ex62.trans (by decide)
  refine lv_iand hx hb dX9_look_170 ?_
  refine lv_topi (fun x63 ex63 => ?_)
  obtain rfl : x63 = 1 := ex63.trans (by decide)
  refine va_iast hx hb hK hP hD hS 1 0 rfl rfl (in_lit (by decide)) dX9_look_171 (fun H locs hP hD hS => ?_)
  rw [rc_s 12 12 (by decide)] at hP hD
  have hP : va_P D vwCl [((a 51), .inl (cy 0, 61, .inl (fun _ => 0))), ((a 52), .inl (cy 0, 61, .inl (rc 13))), ((a 5), .inr (1, [.ref (a 40), .int 0, .int 0, .ref (a 46), .ref (a 47)])), ((a 10), .inr (0, [.int 0, .int 1, .int 1, .int 0, .int 0, .ref (a 11), .ref (a 12), .ref (a 13), .null, .null])), ((a 40), .inr (6, [.ref (a 10), .int 0, .ref (a 41), .ref (a 42), .ref (a 43), .ref (a 44), .ref (a 45), .int 0])), ((a 6), .inr (9, [.int 1, .ref (a 51), .ref (a 52), .ref (a 53), .ref (a 54), .ref (a 55)]))] H := hP
  have hD := va_ca hP hD
  refine lv_iinc (v := 13) (lv' := [(4, .int 13), (3, .int 1), (0, .ref (a 6)), (1, .ref (a 5)), (2, .int 0)]) hx hb dX9_look_172 hl (k := 0) rfl (by decide) (by decide) rfl (fun ls hl => ?_)
  refine lv_goto (tgt := 135) hx hb dX9_look_175 (by decide) ?_
  refine lv_iload hx hb dX9_look_135 (lv_at hl 0 rfl) ?_
  refine lv_bipush (v := 60) hx hb dX9_look_137 (by decide) ?_
  refine lv_icmp_gt (tgt := 178) hx hb dX9_look_139 (by decide) (fun q => absurd q (by decide)) (fun _ => ?_)
  refine lv_aload_n hx hb dX9_look_142 rfl (lv_at hl 2 rfl) ?_
  refine va_get (ci := 9) (v := .ref (a 52)) (C := RX9) (T := TX9) (N := 6) hx hb htA in_X9 hown hK hP 5 rfl rfl 2 (by decide) (htA _ wd_44) (fun _ h => h) rfl dX9_look_143 ?_
  refine lv_iload hx hb dX9_look_146 (lv_at hl 0 rfl) ?_
  refine lv_aload_n hx hb dX9_look_148 rfl (lv_at hl 2 rfl) ?_
  refine lv_aload_n hx hb dX9_look_149 rfl (lv_at hl 2 rfl) ?_
  refine va_get (ci := 9) (v := .ref (a 52)) (C := RX9) (T := TX9) (N := 6) hx hb htA in_X9 hown hK hP 5 rfl rfl 2 (by decide) (htA _ wd_44) (fun _ h => h) rfl dX9_look_150 ?_
  refine lv_iload hx hb dX9_look_153 (lv_at hl 0 rfl) ?_
  refine lv_iconst (v := 1) hx hb dX9_look_155 (by decide) ?_
  refine lv_isub hx hb dX9_look_156 ?_
  refine lv_topi (fun x64 ex64 => ?_)
  obtain rfl : x64 = 12 := ex64.trans (by decide)
  refine va_iald hx hb hK hP 1 0 rfl rfl (in_lit (by decide)) dX9_look_157 ?_
  refine lv_topi (fun x65 ex65 => ?_)
  obtain rfl : x65 = 1 := ex65.trans (by decide)
  refine kVi (As := [.int 1]) (rest := [.int 13, .ref (a 52)]) (wr := [((a 51), .inl (cy 0, 61, .inl (fun _ => 0))), ((a 52), .inl (cy 0, 61, .inl (rc 13))), ((a 5), .inr (1, [.ref (a 40), .int 0, .int 0, .ref (a 46), .ref (a 47)])), ((a 10), .inr (0, [.int 0, .int 1, .int 1, .int 0, .int 0, .ref (a 11), .ref (a 12), .ref (a 13), .null, .null])), ((a 40), .inr (6, [.ref (a 10), .int 0, .ref (a 41), .ref (a 42), .ref (a 43), .ref (a 44), .ref (a 45), .int 0]))]) hX hE (au_X9_near_58 l D cy a) (cwVA 1 htA wd_1188 wd_1185 wd_2 wd_1187 wp_37 (by decide +kernel) ⟨by decide, by decide⟩) hP hD hS [5] [0, 1, 2, 3, 4] rfl rfl (by decide +kernel) 0 rfl rfl rfl rfl hl.1 rfl (Nat.le_of_ble_eq_true rfl) dX9_look_158 (by decide) (fun r_ W1 H locs hw hP hD hS => ?_)
  refine W.widen (k := 0) (n := 0) (by decide) (by decide) ?_
  obtain ⟨rfl, rfl⟩ := hw
  have hP : va_P D vwCl [((a 51), .inl (cy 0, 61, .inl (fun _ => 0))), ((a 52), .inl (cy 0, 61, .inl (rc 13))), ((a 5), .inr (1, [.ref (a 40), .int 0, .int 0, .ref (a 46), .ref (a 47)])), ((a 10), .inr (0, [.int 0, .int 1, .int 1, .int 0, .int 0, .ref (a 11), .ref (a 12), .ref (a 13), .null, .null])), ((a 40), .inr (6, [.ref (a 10), .int 0, .ref (a 41), .ref (a 42), .ref (a 43), .ref (a 44), .ref (a 45), .int 0])), ((a 6), .inr (9, [.int 1, .ref (a 51), .ref (a 52), .ref (a 53), .ref (a 54), .ref (a 55)]))] H := hP
  have hD := va_ca hP hD
  refine lv_aload_n hx hb dX9_look_161 rfl (lv_at hl 2 rfl) ?_
  refine va_get (ci := 9) (v := .ref (a 51)) (C := RX9) (T := TX9) (N := 6) hx hb htA in_X9 hown hK hP 5 rfl rfl 1 (by decide) (htA _ wd_43) (fun _ h => h) rfl dX9_look_162 ?_
  refine lv_iload hx hb dX9_look_165 (lv_at hl 0 rfl) ?_
  refine va_iald hx hb hK hP 0 0 rfl rfl (in_lit (by decide)) dX9_look_167 ?_
  refine lv_topi (fun x66 ex66 => ?_)
  obtain rfl : x66 = 0 := ex66
  refine lv_iconst (v := (-1)) hx hb dX9_look_168 (by decide) ?_
  refine lv_ixor hx hb dX9_look_169 ?_
  refine lv_topi (fun x67 ex67 => ?_)
  obtain rfl : x67 = (-1) := ex67.trans (by decide)
  refine lv_iand hx hb dX9_look_170 ?_
  refine lv_topi (fun x68 ex68 => ?_)
  obtain rfl : x68 = 1 := ex68.trans (by decide)
  refine va_iast hx hb hK hP hD hS 1 0 rfl rfl (in_lit (by decide)) dX9_look_171 (fun H locs hP hD hS => ?_)
  rw [rc_s 13 13 (by decide)] at hP hD
  have hP : va_P D vwCl [((a 51), .inl (cy 0, 61, .inl (fun _ => 0))), ((a 52), .inl (cy 0, 61, .inl (rc 14))), ((a 5), .inr (1, [.ref (a 40), .int 0, .int 0, .ref (a 46), .ref (a 47)])), ((a 10), .inr (0, [.int 0, .int 1, .int 1, .int 0, .int 0, .ref (a 11), .ref (a 12), .ref (a 13), .null, .null])), ((a 40), .inr (6, [.ref (a 10), .int 0, .ref (a 41), .ref (a 42), .ref (a 43), .ref (a 44), .ref (a 45), .int 0])), ((a 6), .inr (9, [.int 1, .ref (a 51), .ref (a 52), .ref (a 53), .ref (a 54), .ref (a 55)]))] H := hP
  have hD := va_ca hP hD
  refine lv_iinc (v := 14) (lv' := [(4, .int 14), (3, .int 1), (0, .ref (a 6)), (1, .ref (a 5)), (2, .int 0)]) hx hb dX9_look_172 hl (k := 0) rfl (by decide) (by decide) rfl (fun ls hl => ?_)
  refine lv_goto (tgt := 135) hx hb dX9_look_175 (by decide) ?_
  refine lv_iload hx hb dX9_look_135 (lv_at hl 0 rfl) ?_
  refine lv_bipush (v := 60) hx hb dX9_look_137 (by decide) ?_
  refine lv_icmp_gt (tgt := 178) hx hb dX9_look_139 (by decide) (fun q => absurd q (by decide)) (fun _ => ?_)
  refine lv_aload_n hx hb dX9_look_142 rfl (lv_at hl 2 rfl) ?_
  refine va_get (ci := 9) (v := .ref (a 52)) (C := RX9) (T := TX9) (N := 6) hx hb htA in_X9 hown hK hP 5 rfl rfl 2 (by decide) (htA _ wd_44) (fun _ h => h) rfl dX9_look_143 ?_
  refine lv_iload hx hb dX9_look_146 (lv_at hl 0 rfl) ?_
  refine lv_aload_n hx hb dX9_look_148 rfl (lv_at hl 2 rfl) ?_
  refine lv_aload_n hx hb dX9_look_149 rfl (lv_at hl 2 rfl) ?_
  refine va_get (ci := 9) (v := .ref (a 52)) (C := RX9) (T := TX9) (N := 6) hx hb htA in_X9 hown hK hP 5 rfl rfl 2 (by decide) (htA _ wd_44) (fun _ h => h) rfl dX9_look_150 ?_
  refine lv_iload hx hb dX9_look_153 (lv_at hl 0 rfl) ?_
  refine lv_iconst (v := 1) hx hb dX9_look_155 (by decide) ?_
  refine lv_isub hx hb dX9_look_156 ?_
  refine lv_topi (fun x69 ex69 => ?_)
  obtain rfl : x69 = 13 := ex69.trans (by decide)
  refine va_iald hx hb hK hP 1 0 rfl rfl (in_lit (by decide)) dX9_look_157 ?_
  refine lv_topi (fun x70 ex70 => ?_)
  obtain rfl : x70 = 1 := ex70.trans (by decide)
  refine kVi (As := [.int 1]) (rest := [.int 14, .ref (a 52)]) (wr := [((a 51), .inl (cy 0, 61, .inl (fun _ => 0))), ((a 52), .inl (cy 0, 61, .inl (rc 14))), ((a 5), .inr (1, [.ref (a 40), .int 0, .int 0, .ref (a 46), .ref (a 47)])), ((a 10), .inr (0, [.int 0, .int 1, .int 1, .int 0, .int 0, .ref (a 11), .ref (a 12), .ref (a 13), .null, .null])), ((a 40), .inr (6, [.ref (a 10), .int 0, .ref (a 41), .ref (a 42), .ref (a 43), .ref (a 44), .ref (a 45), .int 0]))]) hX hE (au_X9_near_58 l D cy a) (cwVA 1 htA wd_1188 wd_1185 wd_2 wd_1187 wp_37 (by decide +kernel) ⟨by decide, by decide⟩) hP hD hS [5] [0, 1, 2, 3, 4] rfl rfl (by decide +kernel) 0 rfl rfl rfl rfl hl.1 rfl (Nat.le_of_ble_eq_true rfl) dX9_look_158 (by decide) (fun r_ W1 H locs hw hP hD hS => ?_)
  refine W.widen (k := 0) (n := 0) (by decide) (by decide) ?_
  obtain ⟨rfl, rfl⟩ := hw
  have hP : va_P D vwCl [((a 51), .inl (cy 0, 61, .inl (fun _ => 0))), ((a 52), .inl (cy 0, 61, .inl (rc 14))), ((a 5), .inr (1, [.ref (a 40), .int 0, .int 0, .ref (a 46), .ref (a 47)])), ((a 10), .inr (0, [.int 0, .int 1, .int 1, .int 0, .int 0, .ref (a 11), .ref (a 12), .ref (a 13), .null, .null])), ((a 40), .inr (6, [.ref (a 10), .int 0, .ref (a 41), .ref (a 42), .ref (a 43), .ref (a 44), .ref (a 45), .int 0])), ((a 6), .inr (9, [.int 1, .ref (a 51), .ref (a 52), .ref (a 53), .ref (a 54), .ref (a 55)]))] H := hP
  have hD := va_ca hP hD
  refine lv_aload_n hx hb dX9_look_161 rfl (lv_at hl 2 rfl) ?_
  refine va_get (ci := 9) (v := .ref (a 51)) (C := RX9) (T := TX9) (N := 6) hx hb htA in_X9 hown hK hP 5 rfl rfl 1 (by decide) (htA _ wd_43) (fun _ h => h) rfl dX9_look_162 ?_
  refine lv_iload hx hb dX9_look_165 (lv_at hl 0 rfl) ?_
  refine va_iald hx hb hK hP 0 0 rfl rfl (in_lit (by decide)) dX9_look_167 ?_
  refine lv_topi (fun x71 ex71 => ?_)
  obtain rfl : x71 = 0 := ex71
  refine lv_iconst (v := (-1)) hx hb dX9_look_168 (by decide) ?_
  refine lv_ixor hx hb dX9_look_169 ?_
  refine lv_topi (fun x72 ex72 => ?_)
  obtain rfl : x72 = (-1) := ex72.trans (by decide)
  refine lv_iand hx hb dX9_look_170 ?_
  refine lv_topi (fun x73 ex73 => ?_)
  obtain rfl : x73 = 1 := ex73.trans (by decide)
  refine va_iast hx hb hK hP hD hS 1 0 rfl rfl (in_lit (by decide)) dX9_look_171 (fun H locs hP hD hS => ?_)
  rw [rc_s 14 14 (by decide)] at hP hD
  have hP : va_P D vwCl [((a 51), .inl (cy 0, 61, .inl (fun _ => 0))), ((a 52), .inl (cy 0, 61, .inl (rc 15))), ((a 5), .inr (1, [.ref (a 40), .int 0, .int 0, .ref (a 46), .ref (a 47)])), ((a 10), .inr (0, [.int 0, .int 1, .int 1, .int 0, .int 0, .ref (a 11), .ref (a 12), .ref (a 13), .null, .null])), ((a 40), .inr (6, [.ref (a 10), .int 0, .ref (a 41), .ref (a 42), .ref (a 43), .ref (a 44), .ref (a 45), .int 0])), ((a 6), .inr (9, [.int 1, .ref (a 51), .ref (a 52), .ref (a 53), .ref (a 54), .ref (a 55)]))] H := hP
  have hD := va_ca hP hD
  refine lv_iinc (v := 15) (lv' := [(4, .int 15), (3, .int 1), (0, .ref (a 6)), (1, .ref (a 5)), (2, .int 0)]) hx hb dX9_look_172 hl (k := 0) rfl (by decide) (by decide) rfl (fun ls hl => ?_)
  refine lv_goto (tgt := 135) hx hb dX9_look_175 (by decide) ?_
  refine lv_iload hx hb dX9_look_135 (lv_at hl 0 rfl) ?_
  refine lv_bipush (v := 60) hx hb dX9_look_137 (by decide) ?_
  refine lv_icmp_gt (tgt := 178) hx hb dX9_look_139 (by decide) (fun q => absurd q (by decide)) (fun _ => ?_)
  refine lv_aload_n hx hb dX9_look_142 rfl (lv_at hl 2 rfl) ?_
  refine va_get (ci := 9) (v := .ref (a 52)) (C := RX9) (T := TX9) (N := 6) hx hb htA in_X9 hown hK hP 5 rfl rfl 2 (by decide) (htA _ wd_44) (fun _ h => h) rfl dX9_look_143 ?_
  refine lv_iload hx hb dX9_look_146 (lv_at hl 0 rfl) ?_
  refine lv_aload_n hx hb dX9_look_148 rfl (lv_at hl 2 rfl) ?_
  refine lv_aload_n hx hb dX9_look_149 rfl (lv_at hl 2 rfl) ?_
  refine va_get (ci := 9) (v := .ref (a 52)) (C := RX9) (T := TX9) (N := 6) hx hb htA in_X9 hown hK hP 5 rfl rfl 2 (by decide) (htA _ wd_44) (fun _ h => h) rfl dX9_look_150 ?_
  refine lv_iload hx hb dX9_look_153 (lv_at hl 0 rfl) ?_
  refine lv_iconst (v := 1) hx hb dX9_look_155 (by decide) ?_
  refine lv_isub hx hb dX9_look_156 ?_
  refine lv_topi (fun x74 ex74 => ?_)
  obtain rfl : x74 = 14 := ex74.trans (by decide)
  refine va_iald hx hb hK hP 1 0 rfl rfl (in_lit (by decide)) dX9_look_157 ?_
  refine lv_topi (fun x75 ex75 => ?_)
  obtain rfl : x75 = 1 := ex75.trans (by decide)
  refine kVi (As := [.int 1]) (rest := [.int 15, .ref (a 52)]) (wr := [((a 51), .inl (cy 0, 61, .inl (fun _ => 0))), ((a 52), .inl (cy 0, 61, .inl (rc 15))), ((a 5), .inr (1, [.ref (a 40), .int 0, .int 0, .ref (a 46), .ref (a 47)])), ((a 10), .inr (0, [.int 0, .int 1, .int 1, .int 0, .int 0, .ref (a 11), .ref (a 12), .ref (a 13), .null, .null])), ((a 40), .inr (6, [.ref (a 10), .int 0, .ref (a 41), .ref (a 42), .ref (a 43), .ref (a 44), .ref (a 45), .int 0]))]) hX hE (au_X9_near_58 l D cy a) (cwVA 1 htA wd_1188 wd_1185 wd_2 wd_1187 wp_37 (by decide +kernel) ⟨by decide, by decide⟩) hP hD hS [5] [0, 1, 2, 3, 4] rfl rfl (by decide +kernel) 0 rfl rfl rfl rfl hl.1 rfl (Nat.le_of_ble_eq_true rfl) dX9_look_158 (by decide) (fun r_ W1 H locs hw hP hD hS => ?_)
  refine W.widen (k := 0) (n := 0) (by decide) (by decide) ?_
  obtain ⟨rfl, rfl⟩ := hw
  have hP : va_P D vwCl [((a 51), .inl (cy 0, 61, .inl (fun _ => 0))), ((a 52), .inl (cy 0, 61, .inl (rc 15))), ((a 5), .inr (1, [.ref (a 40), .int 0, .int 0, .ref (a 46), .ref (a 47)])), ((a 10), .inr (0, [.int 0, .int 1, .int 1, .int 0, .int 0, .ref (a 11), .ref (a 12), .ref (a 13), .null, .null])), ((a 40), .inr (6, [.ref (a 10), .int 0, .ref (a 41), .ref (a 42), .ref (a 43), .ref (a 44), .ref (a 45), .int 0])), ((a 6), .inr (9, [.int 1, .ref (a 51), .ref (a 52), .ref (a 53), .ref (a 54), .ref (a 55)]))] H := hP
  have hD := va_ca hP hD
  refine lv_aload_n hx hb dX9_look_161 rfl (lv_at hl 2 rfl) ?_
  refine va_get (ci := 9) (v := .ref (a 51)) (C := RX9) (T := TX9) (N := 6) hx hb htA in_X9 hown hK hP 5 rfl rfl 1 (by decide) (htA _ wd_43) (fun _ h => h) rfl dX9_look_162 ?_
  refine lv_iload hx hb dX9_look_165 (lv_at hl 0 rfl) ?_
  refine va_iald hx hb hK hP 0 0 rfl rfl (in_lit (by decide)) dX9_look_167 ?_
  refine lv_topi (fun x76 ex76 => ?_)
  obtain rfl : x76 = 0 := ex76
  refine lv_iconst (v := (-1)) hx hb dX9_look_168 (by decide) ?_
  refine lv_ixor hx hb dX9_look_169 ?_
  refine lv_topi (fun x77 ex77 => ?_)
  obtain rfl : x77 = (-1) := ex77.trans (by decide)
  refine lv_iand hx hb dX9_look_170 ?_
  refine lv_topi (fun x78 ex78 => ?_)
  obtain rfl : x78 = 1 := ex78.trans (by decide)
  refine va_iast hx hb hK hP hD hS 1 0 rfl rfl (in_lit (by decide)) dX9_look_171 (fun H locs hP hD hS => ?_)
  rw [rc_s 15 15 (by decide)] at hP hD
  have hP : va_P D vwCl [((a 51), .inl (cy 0, 61, .inl (fun _ => 0))), ((a 52), .inl (cy 0, 61, .inl (rc 16))), ((a 5), .inr (1, [.ref (a 40), .int 0, .int 0, .ref (a 46), .ref (a 47)])), ((a 10), .inr (0, [.int 0, .int 1, .int 1, .int 0, .int 0, .ref (a 11), .ref (a 12), .ref (a 13), .null, .null])), ((a 40), .inr (6, [.ref (a 10), .int 0, .ref (a 41), .ref (a 42), .ref (a 43), .ref (a 44), .ref (a 45), .int 0])), ((a 6), .inr (9, [.int 1, .ref (a 51), .ref (a 52), .ref (a 53), .ref (a 54), .ref (a 55)]))] H := hP
  have hD := va_ca hP hD
  refine lv_iinc (v := 16) (lv' := [(4, .int 16), (3, .int 1), (0, .ref (a 6)), (1, .ref (a 5)), (2, .int 0)]) hx hb dX9_look_172 hl (k := 0) rfl (by decide) (by decide) rfl (fun ls hl => ?_)
  refine lv_goto (tgt := 135) hx hb dX9_look_175 (by decide) ?_
  refine lv_iload hx hb dX9_look_135 (lv_at hl 0 rfl) ?_
  refine lv_bipush (v := 60) hx hb dX9_look_137 (by decide) ?_
  refine lv_icmp_gt (tgt := 178) hx hb dX9_look_139 (by decide) (fun q => absurd q (by decide)) (fun _ => ?_)
  refine lv_aload_n hx hb dX9_look_142 rfl (lv_at hl 2 rfl) ?_
  refine va_get (ci := 9) (v := .ref (a 52)) (C := RX9) (T := TX9) (N := 6) hx hb htA in_X9 hown hK hP 5 rfl rfl 2 (by decide) (htA _ wd_44) (fun _ h => h) rfl dX9_look_143 ?_
  refine lv_iload hx hb dX9_look_146 (lv_at hl 0 rfl) ?_
  refine lv_aload_n hx hb dX9_look_148 rfl (lv_at hl 2 rfl) ?_
  refine lv_aload_n hx hb dX9_look_149 rfl (lv_at hl 2 rfl) ?_
  refine va_get (ci := 9) (v := .ref (a 52)) (C := RX9) (T := TX9) (N := 6) hx hb htA in_X9 hown hK hP 5 rfl rfl 2 (by decide) (htA _ wd_44) (fun _ h => h) rfl dX9_look_150 ?_
  refine lv_iload hx hb dX9_look_153 (lv_at hl 0 rfl) ?_
  refine lv_iconst (v := 1) hx hb dX9_look_155 (by decide) ?_
  refine lv_isub hx hb dX9_look_156 ?_
  refine lv_topi (fun x79 ex79 => ?_)
  obtain rfl : x79 = 15 := ex79.trans (by decide)
  refine va_iald hx hb hK hP 1 0 rfl rfl (in_lit (by decide)) dX9_look_157 ?_
  refine lv_topi (fun x80 ex80 => ?_)
  obtain rfl : x80 = 1 := ex80.trans (by decide)
  refine kVi (As := [.int 1]) (rest := [.int 16, .ref (a 52)]) (wr := [((a 51), .inl (cy 0, 61, .inl (fun _ => 0))), ((a 52), .inl (cy 0, 61, .inl (rc 16))), ((a 5), .inr (1, [.ref (a 40), .int 0, .int 0, .ref (a 46), .ref (a 47)])), ((a 10), .inr (0, [.int 0, .int 1, .int 1, .int 0, .int 0, .ref (a 11), .ref (a 12), .ref (a 13), .null, .null])), ((a 40), .inr (6, [.ref (a 10), .int 0, .ref (a 41), .ref (a 42), .ref (a 43), .ref (a 44), .ref (a 45), .int 0]))]) hX hE (au_X9_near_58 l D cy a) (cwVA 1 htA wd_1188 wd_1185 wd_2 wd_1187 wp_37 (by decide +kernel) ⟨by decide, by decide⟩) hP hD hS [5] [0, 1, 2, 3, 4] rfl rfl (by decide +kernel) 0 rfl rfl rfl rfl hl.1 rfl (Nat.le_of_ble_eq_true rfl) dX9_look_158 (by decide) (fun r_ W1 H locs hw hP hD hS => ?_)
  refine W.widen (k := 0) (n := 0) (by decide) (by decide) ?_
  obtain ⟨rfl, rfl⟩ := hw
  have hP : va_P D vwCl [((a 51), .inl (cy 0, 61, .inl (fun _ => 0))), ((a 52), .inl (cy 0, 61, .inl (rc 16))), ((a 5), .inr (1, [.ref (a 40), .int 0, .int 0, .ref (a 46), .ref (a 47)])), ((a 10), .inr (0, [.int 0, .int 1, .int 1, .int 0, .int 0, .ref (a 11), .ref (a 12), .ref (a 13), .null, .null])), ((a 40), .inr (6, [.ref (a 10), .int 0, .ref (a 41), .ref (a 42), .ref (a 43), .ref (a 44), .ref (a 45), .int 0])), ((a 6), .inr (9, [.int 1, .ref (a 51), .ref (a 52), .ref (a 53), .ref (a 54), .ref (a 55)]))] H := hP
  have hD := va_ca hP hD
  refine lv_aload_n hx hb dX9_look_161 rfl (lv_at hl 2 rfl) ?_
  refine va_get (ci := 9) (v := .ref (a 51)) (C := RX9) (T := TX9) (N := 6) hx hb htA in_X9 hown hK hP 5 rfl rfl 1 (by decide) (htA _ wd_43) (fun _ h => h) rfl dX9_look_162 ?_
  refine lv_iload hx hb dX9_look_165 (lv_at hl 0 rfl) ?_
  refine va_iald hx hb hK hP 0 0 rfl rfl (in_lit (by decide)) dX9_look_167 ?_
  refine lv_topi (fun x81 ex81 => ?_)
  obtain rfl : x81 = 0 := ex81
  refine lv_iconst (v := (-1)) hx hb dX9_look_168 (by decide) ?_
  refine lv_ixor hx hb dX9_look_169 ?_
  refine lv_topi (fun x82 ex82 => ?_)
  obtain rfl : x82 = (-1) := ex82.trans (by decide)
  refine lv_iand hx hb dX9_look_170 ?_
  refine lv_topi (fun x83 ex83 => ?_)
  obtain rfl : x83 = 1 := ex83.trans (by decide)
  refine va_iast hx hb hK hP hD hS 1 0 rfl rfl (in_lit (by decide)) dX9_look_171 (fun H locs hP hD hS => ?_)
  rw [rc_s 16 16 (by decide)] at hP hD
  have hP : va_P D vwCl [((a 51), .inl (cy 0, 61, .inl (fun _ => 0))), ((a 52), .inl (cy 0, 61, .inl (rc 17))), ((a 5), .inr (1, [.ref (a 40), .int 0, .int 0, .ref (a 46), .ref (a 47)])), ((a 10), .inr (0, [.int 0, .int 1, .int 1, .int 0, .int 0, .ref (a 11), .ref (a 12), .ref (a 13), .null, .null])), ((a 40), .inr (6, [.ref (a 10), .int 0, .ref (a 41), .ref (a 42), .ref (a 43), .ref (a 44), .ref (a 45), .int 0])), ((a 6), .inr (9, [.int 1, .ref (a 51), .ref (a 52), .ref (a 53), .ref (a 54), .ref (a 55)]))] H := hP
  have hD := va_ca hP hD
  refine lv_iinc (v := 17) (lv' := [(4, .int 17), (3, .int 1), (0, .ref (a 6)), (1, .ref (a 5)), (2, .int 0)]) hx hb dX9_look_172 hl (k := 0) rfl (by decide) (by decide) rfl (fun ls hl => ?_)
  refine lv_goto (tgt := 135) hx hb dX9_look_175 (by decide) ?_
  refine lv_iload hx hb dX9_look_135 (lv_at hl 0 rfl) ?_
  refine lv_bipush (v := 60) hx hb dX9_look_137 (by decide) ?_
  refine lv_icmp_gt (tgt := 178) hx hb dX9_look_139 (by decide) (fun q => absurd q (by decide)) (fun _ => ?_)
  refine lv_aload_n hx hb dX9_look_142 rfl (lv_at hl 2 rfl) ?_
  refine va_get (ci := 9) (v := .ref (a 52)) (C := RX9) (T := TX9) (N := 6) hx hb htA in_X9 hown hK hP 5 rfl rfl 2 (by decide) (htA _ wd_44) (fun _ h => h) rfl dX9_look_143 ?_
  refine lv_iload hx hb dX9_look_146 (lv_at hl 0 rfl) ?_
  refine lv_aload_n hx hb dX9_look_148 rfl (lv_at hl 2 rfl) ?_
  refine lv_aload_n hx hb dX9_look_149 rfl (lv_at hl 2 rfl) ?_
  refine va_get (ci := 9) (v := .ref (a 52)) (C := RX9) (T := TX9) (N := 6) hx hb htA in_X9 hown hK hP 5 rfl rfl 2 (by decide) (htA _ wd_44) (fun _ h => h) rfl dX9_look_150 ?_
  refine lv_iload hx hb dX9_look_153 (lv_at hl 0 rfl) ?_
  refine lv_iconst (v := 1) hx hb dX9_look_155 (by decide) ?_
  refine lv_isub hx hb dX9_look_156 ?_
  refine lv_topi (fun x84 ex84 => ?_)
  obtain rfl : x84 = 16 := ex84.trans (by decide)
  refine va_iald hx hb hK hP 1 0 rfl rfl (in_lit (by decide)) dX9_look_157 ?_
  refine lv_topi (fun x85 ex85 => ?_)
  obtain rfl : x85 = 1 := ex85.trans (by decide)
  refine kVi (As := [.int 1]) (rest := [.int 17, .ref (a 52)]) (wr := [((a 51), .inl (cy 0, 61, .inl (fun _ => 0))), ((a 52), .inl (cy 0, 61, .inl (rc 17))), ((a 5), .inr (1, [.ref (a 40), .int 0, .int 0, .ref (a 46), .ref (a 47)])), ((a 10), .inr (0, [.int 0, .int 1, .int 1, .int 0, .int 0, .ref (a 11), .ref (a 12), .ref (a 13), .null, .null])), ((a 40), .inr (6, [.ref (a 10), .int 0, .ref (a 41), .ref (a 42), .ref (a 43), .ref (a 44), .ref (a 45), .int 0]))]) hX hE (au_X9_near_58 l D cy a) (cwVA 1 htA wd_1188 wd_1185 wd_2 wd_1187 wp_37 (by decide +kernel) ⟨by decide, by decide⟩) hP hD hS [5] [0, 1, 2, 3, 4] rfl rfl (by decide +kernel) 0 rfl rfl rfl rfl hl.1 rfl (Nat.le_of_ble_eq_true rfl) dX9_look_158 (by decide) (fun r_ W1 H locs hw hP hD hS => ?_)
  refine W.widen (k := 0) (n := 0) (by decide) (by decide) ?_
  obtain ⟨rfl, rfl⟩ := hw
  have hP : va_P D vwCl [((a 51), .inl (cy 0, 61, .inl (fun _ => 0))), ((a 52), .inl (cy 0, 61, .inl (rc 17))), ((a 5), .inr (1, [.ref (a 40), .int 0, .int 0, .ref (a 46), .ref (a 47)])), ((a 10), .inr (0, [.int 0, .int 1, .int 1, .int 0, .int 0, .ref (a 11), .ref (a 12), .ref (a 13), .null, .null])), ((a 40), .inr (6, [.ref (a 10), .int 0, .ref (a 41), .ref (a 42), .ref (a 43), .ref (a 44), .ref (a 45), .int 0])), ((a 6), .inr (9, [.int 1, .ref (a 51), .ref (a 52), .ref (a 53), .ref (a 54), .ref (a 55)]))] H := hP
  have hD := va_ca hP hD
  refine lv_aload_n hx hb dX9_look_161 rfl (lv_at hl 2 rfl) ?_
  refine va_get (ci := 9) (v := .ref (a 51)) (C := RX9) (T := TX9) (N := 6) hx hb htA in_X9 hown hK hP 5 rfl rfl 1 (by decide) (htA _ wd_43) (fun _ h => h) rfl dX9_look_162 ?_
  refine lv_iload hx hb dX9_look_165 (lv_at hl 0 rfl) ?_
  refine va_iald hx hb hK hP 0 0 rfl rfl (in_lit (by decide)) dX9_look_167 ?_
  refine lv_topi (fun x86 ex86 => ?_)
  obtain rfl : x86 = 0 := ex86
  refine lv_iconst (v := (-1)) hx hb dX9_look_168 (by decide) ?_
  refine lv_ixor hx hb dX9_look_169 ?_
  refine lv_topi (fun x87 ex87 => ?_)
  obtain rfl : x87 = (-1) := ex87.trans (by decide)
  refine lv_iand hx hb dX9_look_170 ?_
  refine lv_topi (fun x88 ex88 => ?_)
  obtain rfl : x88 = 1 := ex88.trans (by decide)
  refine va_iast hx hb hK hP hD hS 1 0 rfl rfl (in_lit (by decide)) dX9_look_171 (fun H locs hP hD hS => ?_)
  rw [rc_s 17 17 (by decide)] at hP hD
  have hP : va_P D vwCl [((a 51), .inl (cy 0, 61, .inl (fun _ => 0))), ((a 52), .inl (cy 0, 61, .inl (rc 18))), ((a 5), .inr (1, [.ref (a 40), .int 0, .int 0, .ref (a 46), .ref (a 47)])), ((a 10), .inr (0, [.int 0, .int 1, .int 1, .int 0, .int 0, .ref (a 11), .ref (a 12), .ref (a 13), .null, .null])), ((a 40), .inr (6, [.ref (a 10), .int 0, .ref (a 41), .ref (a 42), .ref (a 43), .ref (a 44), .ref (a 45), .int 0])), ((a 6), .inr (9, [.int 1, .ref (a 51), .ref (a 52), .ref (a 53), .ref (a 54), .ref (a 55)]))] H := hP
  have hD := va_ca hP hD
  refine lv_iinc (v := 18) (lv' := [(4, .int 18), (3, .int 1), (0, .ref (a 6)), (1, .ref (a 5)), (2, .int 0)]) hx hb dX9_look_172 hl (k := 0) rfl (by decide) (by decide) rfl (fun ls hl => ?_)
  refine lv_goto (tgt := 135) hx hb dX9_look_175 (by decide) ?_
  refine lv_iload hx hb dX9_look_135 (lv_at hl 0 rfl) ?_
  refine lv_bipush (v := 60) hx hb dX9_look_137 (by decide) ?_
  refine lv_icmp_gt (tgt := 178) hx hb dX9_look_139 (by decide) (fun q => absurd q (by decide)) (fun _ => ?_)
  refine lv_aload_n hx hb dX9_look_142 rfl (lv_at hl 2 rfl) ?_
  refine va_get (ci := 9) (v := .ref (a 52)) (C := RX9) (T := TX9) (N := 6) hx hb htA in_X9 hown hK hP 5 rfl rfl 2 (by decide) (htA _ wd_44) (fun _ h => h) rfl dX9_look_143 ?_
  refine lv_iload hx hb dX9_look_146 (lv_at hl 0 rfl) ?_
  refine lv_aload_n hx hb dX9_look_148 rfl (lv_at hl 2 rfl) ?_
  refine lv_aload_n hx hb dX9_look_149 rfl (lv_at hl 2 rfl) ?_
  refine va_get (ci := 9) (v := .ref (a 52)) (C := RX9) (T := TX9) (N := 6) hx hb htA in_X9 hown hK hP 5 rfl rfl 2 (by decide) (htA _ wd_44) (fun _ h => h) rfl dX9_look_150 ?_
  refine lv_iload hx hb dX9_look_153 (lv_at hl 0 rfl) ?_
  refine lv_iconst (v := 1) hx hb dX9_look_155 (by decide) ?_
  refine lv_isub hx hb dX9_look_156 ?_
  refine lv_topi (fun x89 ex89 => ?_)
  obtain rfl : x89 = 17 := ex89.trans (by decide)
  refine va_iald hx hb hK hP 1 0 rfl rfl (in_lit (by decide)) dX9_look_157 ?_
  refine lv_topi (fun x90 ex90 => ?_)
  obtain rfl : x90 = 1 := ex90.trans (by decide)
  refine kVi (As := [.int 1]) (rest := [.int 18, .ref (a 52)]) (wr := [((a 51), .inl (cy 0, 61, .inl (fun _ => 0))), ((a 52), .inl (cy 0, 61, .inl (rc 18))), ((a 5), .inr (1, [.ref (a 40), .int 0, .int 0, .ref (a 46), .ref (a 47)])), ((a 10), .inr (0, [.int 0, .int 1, .int 1, .int 0, .int 0, .ref (a 11), .ref (a 12), .ref (a 13), .null, .null])), ((a 40), .inr (6, [.ref (a 10), .int 0, .ref (a 41), .ref (a 42), .ref (a 43), .ref (a 44), .ref (a 45), .int 0]))]) hX hE (au_X9_near_58 l D cy a) (cwVA 1 htA wd_1188 wd_1185 wd_2 wd_1187 wp_37 (by decide +kernel) ⟨by decide, by decide⟩) hP hD hS [5] [0, 1, 2, 3, 4] rfl rfl (by decide +kernel) 0 rfl rfl rfl rfl hl.1 rfl (Nat.le_of_ble_eq_true rfl) dX9_look_158 (by decide) (fun r_ W1 H locs hw hP hD hS => ?_)
  refine W.widen (k := 0) (n := 0) (by decide) (by decide) ?_
  obtain ⟨rfl, rfl⟩ := hw
  have hP : va_P D vwCl [((a 51), .inl (cy 0, 61, .inl (fun _ => 0))), ((a 52), .inl (cy 0, 61, .inl (rc 18))), ((a 5), .inr (1, [.ref (a 40), .int 0, .int 0, .ref (a 46), .ref (a 47)])), ((a 10), .inr (0, [.int 0, .int 1, .int 1, .int 0, .int 0, .ref (a 11), .ref (a 12), .ref (a 13), .null, .null])), ((a 40), .inr (6, [.ref (a 10), .int 0, .ref (a 41), .ref (a 42), .ref (a 43), .ref (a 44), .ref (a 45), .int 0])), ((a 6), .inr (9, [.int 1, .ref (a 51), .ref (a 52), .ref (a 53), .ref (a 54), .ref (a 55)]))] H := hP
  have hD := va_ca hP hD
  refine lv_aload_n hx hb dX9_look_161 rfl (lv_at hl 2 rfl) ?_
  refine va_get (ci := 9) (v := .ref (a 51)) (C := RX9) (T := TX9) (N := 6) hx hb htA in_X9 hown hK hP 5 rfl rfl 1 (by decide) (htA _ wd_43) (fun _ h => h) rfl dX9_look_162 ?_
  refine lv_iload hx hb dX9_look_165 (lv_at hl 0 rfl) ?_
  refine va_iald hx hb hK hP 0 0 rfl rfl (in_lit (by decide)) dX9_look_167 ?_
  refine lv_topi (fun x91 ex91 => ?_)
  obtain rfl : x91 = 0 := ex91
  refine lv_iconst (v := (-1)) hx hb dX9_look_168 (by decide) ?_
  refine lv_ixor hx hb dX9_look_169 ?_
  refine lv_topi (fun x92 ex92 => ?_)
  obtain rfl : x92 = (-1) := ex92.trans (by decide)
  refine lv_iand hx hb dX9_look_170 ?_
  refine lv_topi (fun x93 ex93 => ?_)
  obtain rfl : x93 = 1 := ex93.trans (by decide)
  refine va_iast hx hb hK hP hD hS 1 0 rfl rfl (in_lit (by decide)) dX9_look_171 (fun H locs hP hD hS => ?_)
  rw [rc_s 18 18 (by decide)] at hP hD
  have hP : va_P D vwCl [((a 51), .inl (cy 0, 61, .inl (fun _ => 0))), ((a 52), .inl (cy 0, 61, .inl (rc 19))), ((a 5), .inr (1, [.ref (a 40), .int 0, .int 0, .ref (a 46), .ref (a 47)])), ((a 10), .inr (0, [.int 0, .int 1, .int 1, .int 0, .int 0, .ref (a 11), .ref (a 12), .ref (a 13), .null, .null])), ((a 40), .inr (6, [.ref (a 10), .int 0, .ref (a 41), .ref (a 42), .ref (a 43), .ref (a 44), .ref (a 45), .int 0])), ((a 6), .inr (9, [.int 1, .ref (a 51), .ref (a 52), .ref (a 53), .ref (a 54), .ref (a 55)]))] H := hP
  have hD := va_ca hP hD
  refine lv_iinc (v := 19) (lv' := [(4, .int 19), (3, .int 1), (0, .ref (a 6)), (1, .ref (a 5)), (2, .int 0)]) hx hb dX9_look_172 hl (k := 0) rfl (by decide) (by decide) rfl (fun ls hl => ?_)
  refine lv_goto (tgt := 135) hx hb dX9_look_175 (by decide) ?_
  refine lv_iload hx hb dX9_look_135 (lv_at hl 0 rfl) ?_
  refine lv_bipush (v := 60) hx hb dX9_look_137 (by decide) ?_
  refine lv_icmp_gt (tgt := 178) hx hb dX9_look_139 (by decide) (fun q => absurd q (by decide)) (fun _ => ?_)
  refine lv_aload_n hx hb dX9_look_142 rfl (lv_at hl 2 rfl) ?_
  refine va_get (ci := 9) (v := .ref (a 52)) (C := RX9) (T := TX9) (N := 6) hx hb htA in_X9 hown hK hP 5 rfl rfl 2 (by decide) (htA _ wd_44) (fun _ h => h) rfl dX9_look_143 ?_
  refine lv_iload hx hb dX9_look_146 (lv_at hl 0 rfl) ?_
  refine lv_aload_n hx hb dX9_look_148 rfl (lv_at hl 2 rfl) ?_
  refine lv_aload_n hx hb dX9_look_149 rfl (lv_at hl 2 rfl) ?_
  refine va_get (ci := 9) (v := .ref (a 52)) (C := RX9) (T := TX9) (N := 6) hx hb htA in_X9 hown hK hP 5 rfl rfl 2 (by decide) (htA _ wd_44) (fun _ h => h) rfl dX9_look_150 ?_
  refine lv_iload hx hb dX9_look_153 (lv_at hl 0 rfl) ?_
  refine lv_iconst (v := 1) hx hb dX9_look_155 (by decide) ?_
  refine lv_isub hx hb dX9_look_156 ?_
  refine lv_topi (fun x94 ex94 => ?_)
  obtain rfl : x94 = 18 := ex94.trans (by decide)
  refine va_iald hx hb hK hP 1 0 rfl rfl (in_lit (by decide)) dX9_look_157 ?_
  refine lv_topi (fun x95 ex95 => ?_)
  obtain rfl : x95 = 1 := ex95.trans (by decide)
  refine kVi (As := [.int 1]) (rest := [.int 19, .ref (a 52)]) (wr := [((a 51), .inl (cy 0, 61, .inl (fun _ => 0))), ((a 52), .inl (cy 0, 61, .inl (rc 19))), ((a 5), .inr (1, [.ref (a 40), .int 0, .int 0, .ref (a 46), .ref (a 47)])), ((a 10), .inr (0, [.int 0, .int 1, .int 1, .int 0, .int 0, .ref (a 11), .ref (a 12), .ref (a 13), .null, .null])), ((a 40), .inr (6, [.ref (a 10), .int 0, .ref (a 41), .ref (a 42), .ref (a 43), .ref (a 44), .ref (a 45), .int 0]))]) hX hE (au_X9_near_58 l D cy a) (cwVA 1 htA wd_1188 wd_1185 wd_2 wd_1187 wp_37 (by decide +kernel) ⟨by decide, by decide⟩) hP hD hS [5] [0, 1, 2, 3, 4] rfl rfl (by decide +kernel) 0 rfl rfl rfl rfl hl.1 rfl (Nat.le_of_ble_eq_true rfl) dX9_look_158 (by decide) (fun r_ W1 H locs hw hP hD hS => ?_)
  refine W.widen (k := 0) (n := 0) (by decide) (by decide) ?_
  obtain ⟨rfl, rfl⟩ := hw
  have hP : va_P D vwCl [((a 51), .inl (cy 0, 61, .inl (fun _ => 0))), ((a 52), .inl (cy 0, 61, .inl (rc 19))), ((a 5), .inr (1, [.ref (a 40), .int 0, .int 0, .ref (a 46), .ref (a 47)])), ((a 10), .inr (0, [.int 0, .int 1, .int 1, .int 0, .int 0, .ref (a 11), .ref (a 12), .ref (a 13), .null, .null])), ((a 40), .inr (6, [.ref (a 10), .int 0, .ref (a 41), .ref (a 42), .ref (a 43), .ref (a 44), .ref (a 45), .int 0])), ((a 6), .inr (9, [.int 1, .ref (a 51), .ref (a 52), .ref (a 53), .ref (a 54), .ref (a 55)]))] H := hP
  have hD := va_ca hP hD
  refine lv_aload_n hx hb dX9_look_161 rfl (lv_at hl 2 rfl) ?_
  refine va_get (ci := 9) (v := .ref (a 51)) (C := RX9) (T := TX9) (N := 6) hx hb htA in_X9 hown hK hP 5 rfl rfl 1 (by decide) (htA _ wd_43) (fun _ h => h) rfl dX9_look_162 ?_
  refine lv_iload hx hb dX9_look_165 (lv_at hl 0 rfl) ?_
  refine va_iald hx hb hK hP 0 0 rfl rfl (in_lit (by decide)) dX9_look_167 ?_
  refine lv_topi (fun x96 ex96 => ?_)
  obtain rfl : x96 = 0 := ex96
  refine lv_iconst (v := (-1)) hx hb dX9_look_168 (by decide) ?_
  refine lv_ixor hx hb dX9_look_169 ?_
  refine lv_topi (fun x97 ex97 => ?_)
  obtain rfl : x97 = (-1) := ex97.trans (by decide)
  refine lv_iand hx hb dX9_look_170 ?_
  refine lv_topi (fun x98 ex98 => ?_)
  obtain rfl : x98 = 1 := ex98.trans (by decide)
  refine va_iast hx hb hK hP hD hS 1 0 rfl rfl (in_lit (by decide)) dX9_look_171 (fun H locs hP hD hS => ?_)
  rw [rc_s 19 19 (by decide)] at hP hD
  have hP : va_P D vwCl [((a 51), .inl (cy 0, 61, .inl (fun _ => 0))), ((a 52), .inl (cy 0, 61, .inl (rc 20))), ((a 5), .inr (1, [.ref (a 40), .int 0, .int 0, .ref (a 46), .ref (a 47)])), ((a 10), .inr (0, [.int 0, .int 1, .int 1, .int 0, .int 0, .ref (a 11), .ref (a 12), .ref (a 13), .null, .null])), ((a 40), .inr (6, [.ref (a 10), .int 0, .ref (a 41), .ref (a 42), .ref (a 43), .ref (a 44), .ref (a 45), .int 0])), ((a 6), .inr (9, [.int 1, .ref (a 51), .ref (a 52), .ref (a 53), .ref (a 54), .ref (a 55)]))] H := hP
  have hD := va_ca hP hD
  refine lv_iinc (v := 20) (lv' := [(4, .int 20), (3, .int 1), (0, .ref (a 6)), (1, .ref (a 5)), (2, .int 0)]) hx hb dX9_look_172 hl (k := 0) rfl (by decide) (by decide) rfl (fun ls hl => ?_)
  refine lv_goto (tgt := 135) hx hb dX9_look_175 (by decide) ?_
  refine lv_iload hx hb dX9_look_135 (lv_at hl 0 rfl) ?_
  refine lv_bipush (v := 60) hx hb dX9_look_137 (by decide) ?_
  refine lv_icmp_gt (tgt := 178) hx hb dX9_look_139 (by decide) (fun q => absurd q (by decide)) (fun _ => ?_)
  refine lv_aload_n hx hb dX9_look_142 rfl (lv_at hl 2 rfl) ?_
  refine va_get (ci := 9) (v := .ref (a 52)) (C := RX9) (T := TX9) (N := 6) hx hb htA in_X9 hown hK hP 5 rfl rfl 2 (by decide) (htA _ wd_44) (fun _ h => h) rfl dX9_look_143 ?_
  refine lv_iload hx hb dX9_look_146 (lv_at hl 0 rfl) ?_
  refine lv_aload_n hx hb dX9_look_148 rfl (lv_at hl 2 rfl) ?_
  refine lv_aload_n hx hb dX9_look_149 rfl (lv_at hl 2 rfl) ?_
  refine va_get (ci := 9) (v := .ref (a 52)) (C := RX9) (T := TX9) (N := 6) hx hb htA in_X9 hown hK hP 5 rfl rfl 2 (by decide) (htA _ wd_44) (fun _ h => h) rfl dX9_look_150 ?_
  refine lv_iload hx hb dX9_look_153 (lv_at hl 0 rfl) ?_
  refine lv_iconst (v := 1) hx hb dX9_look_155 (by decide) ?_
  refine lv_isub hx hb dX9_look_156 ?_
  refine lv_topi (fun x99 ex99 => ?_)
  obtain rfl : x99 = 19 := ex99.trans (by decide)
  refine va_iald hx hb hK hP 1 0 rfl rfl (in_lit (by decide)) dX9_look_157 ?_
  refine lv_topi (fun x100 ex100 => ?_)
  obtain rfl : x100 = 1 := ex100.trans (by decide)
  refine kVi (As := [.int 1]) (rest := [.int 20, .ref (a 52)]) (wr := [((a 51), .inl (cy 0, 61, .inl (fun _ => 0))), ((a 52), .inl (cy 0, 61, .inl (rc 20))), ((a 5), .inr (1, [.ref (a 40), .int 0, .int 0, .ref (a 46), .ref (a 47)])), ((a 10), .inr (0, [.int 0, .int 1, .int 1, .int 0, .int 0, .ref (a 11), .ref (a 12), .ref (a 13), .null, .null])), ((a 40), .inr (6, [.ref (a 10), .int 0, .ref (a 41), .ref (a 42), .ref (a 43), .ref (a 44), .ref (a 45), .int 0]))]) hX hE (au_X9_near_58 l D cy a) (cwVA 1 htA wd_1188 wd_1185 wd_2 wd_1187 wp_37 (by decide +kernel) ⟨by decide, by decide⟩) hP hD hS [5] [0, 1, 2, 3, 4] rfl rfl (by decide +kernel) 0 rfl rfl rfl rfl hl.1 rfl (Nat.le_of_ble_eq_true rfl) dX9_look_158 (by decide) (fun r_ W1 H locs hw hP hD hS => ?_)
  refine W.widen (k := 0) (n := 0) (by decide) (by decide) ?_
  obtain ⟨rfl, rfl⟩ := hw
  have hP : va_P D vwCl [((a 51), .inl (cy 0, 61, .inl (fun _ => 0))), ((a 52), .inl (cy 0, 61, .inl (rc 20))), ((a 5), .inr (1, [.ref (a 40), .int 0, .int 0, .ref (a 46), .ref (a 47)])), ((a 10), .inr (0, [.int 0, .int 1, .int 1, .int 0, .int 0, .ref (a 11), .ref (a 12), .ref (a 13), .null, .null])), ((a 40), .inr (6, [.ref (a 10), .int 0, .ref (a 41), .ref (a 42), .ref (a 43), .ref (a 44), .ref (a 45), .int 0])), ((a 6), .inr (9, [.int 1, .ref (a 51), .ref (a 52), .ref (a 53), .ref (a 54), .ref (a 55)]))] H := hP
  have hD := va_ca hP hD
  refine lv_aload_n hx hb dX9_look_161 rfl (lv_at hl 2 rfl) ?_
  refine va_get (ci := 9) (v := .ref (a 51)) (C := RX9) (T := TX9) (N := 6) hx hb htA in_X9 hown hK hP 5 rfl rfl 1 (by decide) (htA _ wd_43) (fun _ h => h) rfl dX9_look_162 ?_
  refine lv_iload hx hb dX9_look_165 (lv_at hl 0 rfl) ?_
  refine va_iald hx hb hK hP 0 0 rfl rfl (in_lit (by decide)) dX9_look_167 ?_
  refine lv_topi (fun x101 ex101 => ?_)
  obtain rfl : x101 = 0 := ex101
  refine lv_iconst (v := (-1)) hx hb dX9_look_168 (by decide) ?_
  refine lv_ixor hx hb dX9_look_169 ?_
  refine lv_topi (fun x102 ex102 => ?_)
  obtain rfl : x102 = (-1) := ex102.trans (by decide)
  refine lv_iand hx hb dX9_look_170 ?_
  refine lv_topi (fun x103 ex103 => ?_)
  obtain rfl : x103 = 1 := ex103.trans (by decide)
  refine va_iast hx hb hK hP hD hS 1 0 rfl rfl (in_lit (by decide)) dX9_look_171 (fun H locs hP hD hS => ?_)
  rw [rc_s 20 20 (by decide)] at hP hD
  have hP : va_P D vwCl [((a 51), .inl (cy 0, 61, .inl (fun _ => 0))), ((a 52), .inl (cy 0, 61, .inl (rc 21))), ((a 5), .inr (1, [.ref (a 40), .int 0, .int 0, .ref (a 46), .ref (a 47)])), ((a 10), .inr (0, [.int 0, .int 1, .int 1, .int 0, .int 0, .ref (a 11), .ref (a 12), .ref (a 13), .null, .null])), ((a 40), .inr (6, [.ref (a 10), .int 0, .ref (a 41), .ref (a 42), .ref (a 43), .ref (a 44), .ref (a 45), .int 0])), ((a 6), .inr (9, [.int 1, .ref (a 51), .ref (a 52), .ref (a 53), .ref (a 54), .ref (a 55)]))] H := hP
  have hD := va_ca hP hD
  refine lv_iinc (v := 21) (lv' := [(4, .int 21), (3, .int 1), (0, .ref (a 6)), (1, .ref (a 5)), (2, .int 0)]) hx hb dX9_look_172 hl (k := 0) rfl (by decide) (by decide) rfl (fun ls hl => ?_)
  refine lv_goto (tgt := 135) hx hb dX9_look_175 (by decide) ?_
  refine lv_iload hx hb dX9_look_135 (lv_at hl 0 rfl) ?_
  refine lv_bipush (v := 60) hx hb dX9_look_137 (by decide) ?_
  refine lv_icmp_gt (tgt := 178) hx hb dX9_look_139 (by decide) (fun q => absurd q (by decide)) (fun _ => ?_)
  refine lv_aload_n hx hb dX9_look_142 rfl (lv_at hl 2 rfl) ?_
  refine va_get (ci := 9) (v := .ref (a 52)) (C := RX9) (T := TX9) (N := 6) hx hb htA in_X9 hown hK hP 5 rfl rfl 2 (by decide) (htA _ wd_44) (fun _ h => h) rfl dX9_look_143 ?_
  refine lv_iload hx hb dX9_look_146 (lv_at hl 0 rfl) ?_
  refine lv_aload_n hx hb dX9_look_148 rfl (lv_at hl 2 rfl) ?_
  refine lv_aload_n hx hb dX9_look_149 rfl (lv_at hl 2 rfl) ?_
  refine va_get (ci := 9) (v := .ref (a 52)) (C := RX9) (T := TX9) (N := 6) hx hb htA in_X9 hown hK hP 5 rfl rfl 2 (by decide) (htA _ wd_44) (fun _ h => h) rfl dX9_look_150 ?_
  refine lv_iload hx hb dX9_look_153 (lv_at hl 0 rfl) ?_
  refine lv_iconst (v := 1) hx hb dX9_look_155 (by decide) ?_
  refine lv_isub hx hb dX9_look_156 ?_
  refine lv_topi (fun x104 ex104 => ?_)
  obtain rfl : x104 = 20 := ex104.trans (by decide)
  refine va_iald hx hb hK hP 1 0 rfl rfl (in_lit (by decide)) dX9_look_157 ?_
  refine lv_topi (fun x105 ex105 => ?_)
  obtain rfl : x105 = 1 := ex105.trans (by decide)
  refine kVi (As := [.int 1]) (rest := [.int 21, .ref (a 52)]) (wr := [((a 51), .inl (cy 0, 61, .inl (fun _ => 0))), ((a 52), .inl (cy 0, 61, .inl (rc 21))), ((a 5), .inr (1, [.ref (a 40), .int 0, .int 0, .ref (a 46), .ref (a 47)])), ((a 10), .inr (0, [.int 0, .int 1, .int 1, .int 0, .int 0, .ref (a 11), .ref (a 12), .ref (a 13), .null, .null])), ((a 40), .inr (6, [.ref (a 10), .int 0, .ref (a 41), .ref (a 42), .ref (a 43), .ref (a 44), .ref (a 45), .int 0]))]) hX hE (au_X9_near_58 l D cy a) (cwVA 1 htA wd_1188 wd_1185 wd_2 wd_1187 wp_37 (by decide +kernel) ⟨by decide, by decide⟩) hP hD hS [5] [0, 1, 2, 3, 4] rfl rfl (by decide +kernel) 0 rfl rfl rfl rfl hl.1 rfl (Nat.le_of_ble_eq_true rfl) dX9_look_158 (by decide) (fun r_ W1 H locs hw hP hD hS => ?_)
  refine W.widen (k := 0) (n := 0) (by decide) (by decide) ?_
  obtain ⟨rfl, rfl⟩ := hw
  have hP : va_P D vwCl [((a 51), .inl (cy 0, 61, .inl (fun _ => 0))), ((a 52), .inl (cy 0, 61, .inl (rc 21))), ((a 5), .inr (1, [.ref (a 40), .int 0, .int 0, .ref (a 46), .ref (a 47)])), ((a 10), .inr (0, [.int 0, .int 1, .int 1, .int 0, .int 0, .ref (a 11), .ref (a 12), .ref (a 13), .null, .null])), ((a 40), .inr (6, [.ref (a 10), .int 0, .ref (a 41), .ref (a 42), .ref (a 43), .ref (a 44), .ref (a 45), .int 0])), ((a 6), .inr (9, [.int 1, .ref (a 51), .ref (a 52), .ref (a 53), .ref (a 54), .ref (a 55)]))] H := hP
  have hD := va_ca hP hD
  refine lv_aload_n hx hb dX9_look_161 rfl (lv_at hl 2 rfl) ?_
  refine va_get (ci := 9) (v := .ref (a 51)) (C := RX9) (T := TX9) (N := 6) hx hb htA in_X9 hown hK hP 5 rfl rfl 1 (by decide) (htA _ wd_43) (fun _ h => h) rfl dX9_look_162 ?_
  refine lv_iload hx hb dX9_look_165 (lv_at hl 0 rfl) ?_
  refine va_iald hx hb hK hP 0 0 rfl rfl (in_lit (by decide)) dX9_look_167 ?_
  refine lv_topi (fun x106 ex106 => ?_)
  obtain rfl : x106 = 0 := ex106
  refine lv_iconst (v := (-1)) hx hb dX9_look_168 (by decide) ?_
  refine lv_ixor hx hb dX9_look_169 ?_
  refine lv_topi (fun x107 ex107 => ?_)
  obtain rfl : x107 = (-1) := ex107.trans (by decide)
  refine lv_iand hx hb dX9_look_170 ?_
  refine lv_topi (fun x108 ex108 => ?_)
  obtain rfl : x108 = 1 := ex108.trans (by decide)
  refine va_iast hx hb hK hP hD hS 1 0 rfl rfl (in_lit (by decide)) dX9_look_171 (fun H locs hP hD hS => ?_)
  rw [rc_s 21 21 (by decide)] at hP hD
  have hP : va_P D vwCl [((a 51), .inl (cy 0, 61, .inl (fun _ => 0))), ((a 52), .inl (cy 0, 61, .inl (rc 22))), ((a 5), .inr (1, [.ref (a 40), .int 0, .int 0, .ref (a 46), .ref (a 47)])), ((a 10), .inr (0, [.int 0, .int 1, .int 1, .int 0, .int 0, .ref (a 11), .ref (a 12), .ref (a 13), .null, .null])), ((a 40), .inr (6, [.ref (a 10), .int 0, .ref (a 41), .ref (a 42), .ref (a 43), .ref (a 44), .ref (a 45), .int 0])), ((a 6), .inr (9, [.int 1, .ref (a 51), .ref (a 52), .ref (a 53), .ref (a 54), .ref (a 55)]))] H := hP
  have hD := va_ca hP hD
  refine lv_iinc (v := 22) (lv' := [(4, .int 22), (3, .int 1), (0, .ref (a 6)), (1, .ref (a 5)), (2, .int 0)]) hx hb dX9_look_172 hl (k := 0) rfl (by decide) (by decide) rfl (fun ls hl => ?_)
  refine lv_goto (tgt := 135) hx hb dX9_look_175 (by decide) ?_
  refine lv_iload hx hb dX9_look_135 (lv_at hl 0 rfl) ?_
  refine lv_bipush (v := 60) hx hb dX9_look_137 (by decide) ?_
  refine lv_icmp_gt (tgt := 178) hx hb dX9_look_139 (by decide) (fun q => absurd q (by decide)) (fun _ => ?_)
  refine lv_aload_n hx hb dX9_look_142 rfl (lv_at hl 2 rfl) ?_
  refine va_get (ci := 9) (v := .ref (a 52)) (C := RX9) (T := TX9) (N := 6) hx hb htA in_X9 hown hK hP 5 rfl rfl 2 (by decide) (htA _ wd_44) (fun _ h => h) rfl dX9_look_143 ?_
  refine lv_iload hx hb dX9_look_146 (lv_at hl 0 rfl) ?_
  refine lv_aload_n hx hb dX9_look_148 rfl (lv_at hl 2 rfl) ?_
  refine lv_aload_n hx hb dX9_look_149 rfl (lv_at hl 2 rfl) ?_
  refine va_get (ci := 9) (v := .ref (a 52)) (C := RX9) (T := TX9) (N := 6) hx hb htA in_X9 hown hK hP 5 rfl rfl 2 (by decide) (htA _ wd_44) (fun _ h => h) rfl dX9_look_150 ?_
  refine lv_iload hx hb dX9_look_153 (lv_at hl 0 rfl) ?_
  refine lv_iconst (v := 1) hx hb dX9_look_155 (by decide) ?_
  refine lv_isub hx hb dX9_look_156 ?_
  refine lv_topi (fun x109 ex109 => ?_)
  obtain rfl : x109 = 21 := ex109.trans (by decide)
  refine va_iald hx hb hK hP 1 0 rfl rfl (in_lit (by decide)) dX9_look_157 ?_
  refine lv_topi (fun x110 ex110 => ?_)
  obtain rfl : x110 = 1 := ex110.trans (by decide)
  refine kVi (As := [.int 1]) (rest := [.int 22, .ref (a 52)]) (wr := [((a 51), .inl (cy 0, 61, .inl (fun _ => 0))), ((a 52), .inl (cy 0, 61, .inl (rc 22))), ((a 5), .inr (1, [.ref (a 40), .int 0, .int 0, .ref (a 46), .ref (a 47)])), ((a 10), .inr (0, [.int 0, .int 1, .int 1, .int 0, .int 0, .ref (a 11), .ref (a 12), .ref (a 13), .null, .null])), ((a 40), .inr (6, [.ref (a 10), .int 0, .ref (a 41), .ref (a 42), .ref (a 43), .ref (a 44), .ref (a 45), .int 0]))]) hX hE (au_X9_near_58 l D cy a) (cwVA 1 htA wd_1188 wd_1185 wd_2 wd_1187 wp_37 (by decide +kernel) ⟨by decide, by decide⟩) hP hD hS [5] [0, 1, 2, 3, 4] rfl rfl (by decide +kernel) 0 rfl rfl rfl rfl hl.1 rfl (Nat.le_of_ble_eq_true rfl) dX9_look_158 (by decide) (fun r_ W1 H locs hw hP hD hS => ?_)
  refine W.widen (k := 0) (n := 0) (by decide) (by decide) ?_
  obtain ⟨rfl, rfl⟩ := hw
  have hP : va_P D vwCl [((a 51), .inl (cy 0, 61, .inl (fun _ => 0))), ((a 52), .inl (cy 0, 61, .inl (rc 22))), ((a 5), .inr (1, [.ref (a 40), .int 0, .int 0, .ref (a 46), .ref (a 47)])), ((a 10), .inr (0, [.int 0, .int 1, .int 1, .int 0, .int 0, .ref (a 11), .ref (a 12), .ref (a 13), .null, .null])), ((a 40), .inr (6, [.ref (a 10), .int 0, .ref (a 41), .ref (a 42), .ref (a 43), .ref (a 44), .ref (a 45), .int 0])), ((a 6), .inr (9, [.int 1, .ref (a 51), .ref (a 52), .ref (a 53), .ref (a 54), .ref (a 55)]))] H := hP
  have hD := va_ca hP hD
  refine lv_aload_n hx hb dX9_look_161 rfl (lv_at hl 2 rfl) ?_
  refine va_get (ci := 9) (v := .ref (a 51)) (C := RX9) (T := TX9) (N := 6) hx hb htA in_X9 hown hK hP 5 rfl rfl 1 (by decide) (htA _ wd_43) (fun _ h => h) rfl dX9_look_162 ?_
  refine lv_iload hx hb dX9_look_165 (lv_at hl 0 rfl) ?_
  refine va_iald hx hb hK hP 0 0 rfl rfl (in_lit (by decide)) dX9_look_167 ?_
  refine lv_topi (fun x111 ex111 => ?_)
  obtain rfl : x111 = 0 := ex111
  refine lv_iconst (v := (-1)) hx hb dX9_look_168 (by decide) ?_
  refine lv_ixor hx hb dX9_look_169 ?_
  refine lv_topi (fun x112 ex112 => ?_)
  obtain rfl : x112 = (-1) := ex112.trans (by decide)
  refine lv_iand hx hb dX9_look_170 ?_
  refine lv_topi (fun x113 ex113 => ?_)
  obtain rfl : x113 = 1 := ex113.trans (by decide)
  refine va_iast hx hb hK hP hD hS 1 0 rfl rfl (in_lit (by decide)) dX9_look_171 (fun H locs hP hD hS => ?_)
  rw [rc_s 22 22 (by decide)] at hP hD
  have hP : va_P D vwCl [((a 51), .inl (cy 0, 61, .inl (fun _ => 0))), ((a 52), .inl (cy 0, 61, .inl (rc 23))), ((a 5), .inr (1, [.ref (a 40), .int 0, .int 0, .ref (a 46), .ref (a 47)])), ((a 10), .inr (0, [.int 0, .int 1, .int 1, .int 0, .int 0, .ref (a 11), .ref (a 12), .ref (a 13), .null, .null])), ((a 40), .inr (6, [.ref (a 10), .int 0, .ref (a 41), .ref (a 42), .ref (a 43), .ref (a 44), .ref (a 45), .int 0])), ((a 6), .inr (9, [.int 1, .ref (a 51), .ref (a 52), .ref (a 53), .ref (a 54), .ref (a 55)]))] H := hP
  have hD := va_ca hP hD
  refine lv_iinc (v := 23) (lv' := [(4, .int 23), (3, .int 1), (0, .ref (a 6)), (1, .ref (a 5)), (2, .int 0)]) hx hb dX9_look_172 hl (k := 0) rfl (by decide) (by decide) rfl (fun ls hl => ?_)
  refine lv_goto (tgt := 135) hx hb dX9_look_175 (by decide) ?_
  refine lv_iload hx hb dX9_look_135 (lv_at hl 0 rfl) ?_
  refine lv_bipush (v := 60) hx hb dX9_look_137 (by decide) ?_
  refine lv_icmp_gt (tgt := 178) hx hb dX9_look_139 (by decide) (fun q => absurd q (by decide)) (fun _ => ?_)
  refine lv_aload_n hx hb dX9_look_142 rfl (lv_at hl 2 rfl) ?_
  refine va_get (ci := 9) (v := .ref (a 52)) (C := RX9) (T := TX9) (N := 6) hx hb htA in_X9 hown hK hP 5 rfl rfl 2 (by decide) (htA _ wd_44) (fun _ h => h) rfl dX9_look_143 ?_
  refine lv_iload hx hb dX9_look_146 (lv_at hl 0 rfl) ?_
  refine lv_aload_n hx hb dX9_look_148 rfl (lv_at hl 2 rfl) ?_
  refine lv_aload_n hx hb dX9_look_149 rfl (lv_at hl 2 rfl) ?_
  refine va_get (ci := 9) (v := .ref (a 52)) (C := RX9) (T := TX9) (N := 6) hx hb htA in_X9 hown hK hP 5 rfl rfl 2 (by decide) (htA _ wd_44) (fun _ h => h) rfl dX9_look_150 ?_
  refine lv_iload hx hb dX9_look_153 (lv_at hl 0 rfl) ?_
  refine lv_iconst (v := 1) hx hb dX9_look_155 (by decide) ?_
  refine lv_isub hx hb dX9_look_156 ?_
  refine lv_topi (fun x114 ex114 => ?_)
  obtain rfl : x114 = 22 := ex114.trans (by decide)
  refine va_iald hx hb hK hP 1 0 rfl rfl (in_lit (by decide)) dX9_look_157 ?_
  refine lv_topi (fun x115 ex115 => ?_)
  obtain rfl : x115 = 1 := ex115.trans (by decide)
  refine kVi (As := [.int 1]) (rest := [.int 23, .ref (a 52)]) (wr := [((a 51), .inl (cy 0, 61, .inl (fun _ => 0))), ((a 52), .inl (cy 0, 61, .inl (rc 23))), ((a 5), .inr (1, [.ref (a 40), .int 0, .int 0, .ref (a 46), .ref (a 47)])), ((a 10), .inr (0, [.int 0, .int 1, .int 1, .int 0, .int 0, .ref (a 11), .ref (a 12), .ref (a 13), .null, .null])), ((a 40), .inr (6, [.ref (a 10), .int 0, .ref (a 41), .ref (a 42), .ref (a 43), .ref (a 44), .ref (a 45), .int 0]))]) hX hE (au_X9_near_58 l D cy a) (cwVA 1 htA wd_1188 wd_1185 wd_2 wd_1187 wp_37 (by decide +kernel) ⟨by decide, by decide⟩) hP hD hS [5] [0, 1, 2, 3, 4] rfl rfl (by decide +kernel) 0 rfl rfl rfl rfl hl.1 rfl (Nat.le_of_ble_eq_true rfl) dX9_look_158 (by decide) (fun r_ W1 H locs hw hP hD hS => ?_)
  refine W.widen (k := 0) (n := 0) (by decide) (by decide) ?_
  obtain ⟨rfl, rfl⟩ := hw
  have hP : va_P D vwCl [((a 51), .inl (cy 0, 61, .inl (fun _ => 0))), ((a 52), .inl (cy 0, 61, .inl (rc 23))), ((a 5), .inr (1, [.ref (a 40), .int 0, .int 0, .ref (a 46), .ref (a 47)])), ((a 10), .inr (0, [.int 0, .int 1, .int 1, .int 0, .int 0, .ref (a 11), .ref (a 12), .ref (a 13), .null, .null])), ((a 40), .inr (6, [.ref (a 10), .int 0, .ref (a 41), .ref (a 42), .ref (a 43), .ref (a 44), .ref (a 45), .int 0])), ((a 6), .inr (9, [.int 1, .ref (a 51), .ref (a 52), .ref (a 53), .ref (a 54), .ref (a 55)]))] H := hP
  have hD := va_ca hP hD
  refine lv_aload_n hx hb dX9_look_161 rfl (lv_at hl 2 rfl) ?_
  refine va_get (ci := 9) (v := .ref (a 51)) (C := RX9) (T := TX9) (N := 6) hx hb htA in_X9 hown hK hP 5 rfl rfl 1 (by decide) (htA _ wd_43) (fun _ h => h) rfl dX9_look_162 ?_
  refine lv_iload hx hb dX9_look_165 (lv_at hl 0 rfl) ?_
  refine va_iald hx hb hK hP 0 0 rfl rfl (in_lit (by decide)) dX9_look_167 ?_
  refine lv_topi (fun x116 ex116 => ?_)
  obtain rfl : x116 = 0 := ex116
  refine lv_iconst (v := (-1)) hx hb dX9_look_168 (by decide) ?_
  refine lv_ixor hx hb dX9_look_169 ?_
  refine lv_topi (fun x117 ex117 => ?_)
  obtain rfl : x117 = (-1) := ex117.trans (by decide)
  refine lv_iand hx hb dX9_look_170 ?_
  refine lv_topi (fun x118 ex118 => ?_)
  obtain rfl : x118 = 1 := ex118.trans (by decide)
  refine va_iast hx hb hK hP hD hS 1 0 rfl rfl (in_lit (by decide)) dX9_look_171 (fun H locs hP hD hS => ?_)
  rw [rc_s 23 23 (by decide)] at hP hD
  have hP : va_P D vwCl [((a 51), .inl (cy 0, 61, .inl (fun _ => 0))), ((a 52), .inl (cy 0, 61, .inl (rc 24))), ((a 5), .inr (1, [.ref (a 40), .int 0, .int 0, .ref (a 46), .ref (a 47)])), ((a 10), .inr (0, [.int 0, .int 1, .int 1, .int 0, .int 0, .ref (a 11), .ref (a 12), .ref (a 13), .null, .null])), ((a 40), .inr (6, [.ref (a 10), .int 0, .ref (a 41), .ref (a 42), .ref (a 43), .ref (a 44), .ref (a 45), .int 0])), ((a 6), .inr (9, [.int 1, .ref (a 51), .ref (a 52), .ref (a 53), .ref (a 54), .ref (a 55)]))] H := hP
  have hD := va_ca hP hD
  refine lv_iinc (v := 24) (lv' := [(4, .int 24), (3, .int 1), (0, .ref (a 6)), (1, .ref (a 5)), (2, .int 0)]) hx hb dX9_look_172 hl (k := 0) rfl (by decide) (by decide) rfl (fun ls hl => ?_)
  refine lv_goto (tgt := 135) hx hb dX9_look_175 (by decide) ?_
  refine lv_iload hx hb dX9_look_135 (lv_at hl 0 rfl) ?_
  refine lv_bipush (v := 60) hx hb dX9_look_137 (by decide) ?_
  refine lv_icmp_gt (tgt := 178) hx hb dX9_look_139 (by decide) (fun q => absurd q (by decide)) (fun _ => ?_)
  refine lv_aload_n hx hb dX9_look_142 rfl (lv_at hl 2 rfl) ?_
  refine va_get (ci := 9) (v := .ref (a 52)) (C := RX9) (T := TX9) (N := 6) hx hb htA in_X9 hown hK hP 5 rfl rfl 2 (by decide) (htA _ wd_44) (fun _ h => h) rfl dX9_look_143 ?_
  refine lv_iload hx hb dX9_look_146 (lv_at hl 0 rfl) ?_
  refine lv_aload_n hx hb dX9_look_148 rfl (lv_at hl 2 rfl) ?_
  refine lv_aload_n hx hb dX9_look_149 rfl (lv_at hl 2 rfl) ?_
  refine va_get (ci := 9) (v := .ref (a 52)) (C := RX9) (T := TX9) (N := 6) hx hb htA in_X9 hown hK hP 5 rfl rfl 2 (by decide) (htA _ wd_44) (fun _ h => h) rfl dX9_look_150 ?_
  refine lv_iload hx hb dX9_look_153 (lv_at hl 0 rfl) ?_
  refine lv_iconst (v := 1) hx hb dX9_look_155 (by decide) ?_
  refine lv_isub hx hb dX9_look_156 ?_
  refine lv_topi (fun x119 ex119 => ?_)
  obtain rfl : x119 = 23 := ex119.trans (by decide)
  refine va_iald hx hb hK hP 1 0 rfl rfl (in_lit (by decide)) dX9_look_157 ?_
  refine lv_topi (fun x120 ex120 => ?_)
  obtain rfl : x120 = 1 := ex120.trans (by decide)
  refine kVi (As := [.int 1]) (rest := [.int 24, .ref (a 52)]) (wr := [((a 51), .inl (cy 0, 61, .inl (fun _ => 0))), ((a 52), .inl (cy 0, 61, .inl (rc 24))), ((a 5), .inr (1, [.ref (a 40), .int 0, .int 0, .ref (a 46), .ref (a 47)])), ((a 10), .inr (0, [.int 0, .int 1, .int 1, .int 0, .int 0, .ref (a 11), .ref (a 12), .ref (a 13), .null, .null])), ((a 40), .inr (6, [.ref (a 10), .int 0, .ref (a 41), .ref (a 42), .ref (a 43), .ref (a 44), .ref (a 45), .int 0]))]) hX hE (au_X9_near_58 l D cy a) (cwVA 1 htA wd_1188 wd_1185 wd_2 wd_1187 wp_37 (by decide +kernel) ⟨by decide, by decide⟩) hP hD hS [5] [0, 1, 2, 3, 4] rfl rfl (by decide +kernel) 0 rfl rfl rfl rfl hl.1 rfl (Nat.le_of_ble_eq_true rfl) dX9_look_158 (by decide) (fun r_ W1 H locs hw hP hD hS => ?_)
  refine W.widen (k := 0) (n := 0) (by decide) (by decide) ?_
  obtain ⟨rfl, rfl⟩ := hw
  have hP : va_P D vwCl [((a 51), .inl (cy 0, 61, .inl (fun _ => 0))), ((a 52), .inl (cy 0, 61, .inl (rc 24))), ((a 5), .inr (1, [.ref (a 40), .int 0, .int 0, .ref (a 46), .ref (a 47)])), ((a 10), .inr (0, [.int 0, .int 1, .int 1, .int 0, .int 0, .ref (a 11), .ref (a 12), .ref (a 13), .null, .null])), ((a 40), .inr (6, [.ref (a 10), .int 0, .ref (a 41), .ref (a 42), .ref (a 43), .ref (a 44), .ref (a 45), .int 0])), ((a 6), .inr (9, [.int 1, .ref (a 51), .ref (a 52), .ref (a 53), .ref (a 54), .ref (a 55)]))] H := hP
  have hD := va_ca hP hD
  refine lv_aload_n hx hb dX9_look_161 rfl (lv_at hl 2 rfl) ?_
  refine va_get (ci := 9) (v := .ref (a 51)) (C := RX9) (T := TX9) (N := 6) hx hb htA in_X9 hown hK hP 5 rfl rfl 1 (by decide) (htA _ wd_43) (fun _ h => h) rfl dX9_look_162 ?_
  refine lv_iload hx hb dX9_look_165 (lv_at hl 0 rfl) ?_
  refine va_iald hx hb hK hP 0 0 rfl rfl (in_lit (by decide)) dX9_look_167 ?_
  refine lv_topi (fun x121 ex121 => ?_)
  obtain rfl : x121 = 0 := ex121
  refine lv_iconst (v := (-1)) hx hb dX9_look_168 (by decide) ?_
  refine lv_ixor hx hb dX9_look_169 ?_
  refine lv_topi (fun x122 ex122 => ?_)
  obtain rfl : x122 = (-1) := ex122.trans (by decide)
  refine lv_iand hx hb dX9_look_170 ?_
  refine lv_topi (fun x123 ex123 => ?_)
  obtain rfl : x123 = 1 := ex123.trans (by decide)
  refine va_iast hx hb hK hP hD hS 1 0 rfl rfl (in_lit (by decide)) dX9_look_171 (fun H locs hP hD hS => ?_)
  rw [rc_s 24 24 (by decide)] at hP hD
  have hP : va_P D vwCl [((a 51), .inl (cy 0, 61, .inl (fun _ => 0))), ((a 52), .inl (cy 0, 61, .inl (rc 25))), ((a 5), .inr (1, [.ref (a 40), .int 0, .int 0, .ref (a 46), .ref (a 47)])), ((a 10), .inr (0, [.int 0, .int 1, .int 1, .int 0, .int 0, .ref (a 11), .ref (a 12), .ref (a 13), .null, .null])), ((a 40), .inr (6, [.ref (a 10), .int 0, .ref (a 41), .ref (a 42), .ref (a 43), .ref (a 44), .ref (a 45), .int 0])), ((a 6), .inr (9, [.int 1, .ref (a 51), .ref (a 52), .ref (a 53), .ref (a 54), .ref (a 55)]))] H := hP
  have hD := va_ca hP hD
  refine lv_iinc (v := 25) (lv' := [(4, .int 25), (3, .int 1), (0, .ref (a 6)), (1, .ref (a 5)), (2, .int 0)]) hx hb dX9_look_172 hl (k := 0) rfl (by decide) (by decide) rfl (fun ls hl => ?_)
  refine lv_goto (tgt := 135) hx hb dX9_look_175 (by decide) ?_
  refine lv_iload hx hb dX9_look_135 (lv_at hl 0 rfl) ?_
  refine lv_bipush (v := 60) hx hb dX9_look_137 (by decide) ?_
  refine lv_icmp_gt (tgt := 178) hx hb dX9_look_139 (by decide) (fun q => absurd q (by decide)) (fun _ => ?_)
  refine lv_aload_n hx hb dX9_look_142 rfl (lv_at hl 2 rfl) ?_
  refine va_get (ci := 9) (v := .ref (a 52)) (C := RX9) (T := TX9) (N := 6) hx hb htA in_X9 hown hK hP 5 rfl rfl 2 (by decide) (htA _ wd_44) (fun _ h => h) rfl dX9_look_143 ?_
  refine lv_iload hx hb dX9_look_146 (lv_at hl 0 rfl) ?_
  refine lv_aload_n hx hb dX9_look_148 rfl (lv_at hl 2 rfl) ?_
  refine lv_aload_n hx hb dX9_look_149 rfl (lv_at hl 2 rfl) ?_
  refine va_get (ci := 9) (v := .ref (a 52)) (C := RX9) (T := TX9) (N := 6) hx hb htA in_X9 hown hK hP 5 rfl rfl 2 (by decide) (htA _ wd_44) (fun _ h => h) rfl dX9_look_150 ?_
  refine lv_iload hx hb dX9_look_153 (lv_at hl 0 rfl) ?_
  refine lv_iconst (v := 1) hx hb dX9_look_155 (by decide) ?_
  refine lv_isub hx hb dX9_look_156 ?_
  refine lv_topi (fun x124 ex124 => ?_)
  obtain rfl : x124 = 24 := ex124.trans (by decide)
  refine va_iald hx hb hK hP 1 0 rfl rfl (in_lit (by decide)) dX9_look_157 ?_
  refine lv_topi (fun x125 ex125 => ?_)
  obtain rfl : x125 = 1 := ex125.trans (by decide)
  refine kVi (As := [.int 1]) (rest := [.int 25, .ref (a 52)]) (wr := [((a 51), .inl (cy 0, 61, .inl (fun _ => 0))), ((a 52), .inl (cy 0, 61, .inl (rc 25))), ((a 5), .inr (1, [.ref (a 40), .int 0, .int 0, .ref (a 46), .ref (a 47)])), ((a 10), .inr (0, [.int 0, .int 1, .int 1, .int 0, .int 0, .ref (a 11), .ref (a 12), .ref (a 13), .null, .null])), ((a 40), .inr (6, [.ref (a 10), .int 0, .ref (a 41), .ref (a 42), .ref (a 43), .ref (a 44), .ref (a 45), .int 0]))]) hX hE (au_X9_near_58 l D cy a) (cwVA 1 htA wd_1188 wd_1185 wd_2 wd_1187 wp_37 (by decide +kernel) ⟨by decide, by decide⟩) hP hD hS [5] [0, 1, 2, 3, 4] rfl rfl (by decide +kernel) 0 rfl rfl rfl rfl hl.1 rfl (Nat.le_of_ble_eq_true rfl) dX9_look_158 (by decide) (fun r_ W1 H locs hw hP hD hS => ?_)
  refine W.widen (k := 0) (n := 0) (by decide) (by decide) ?_
  obtain ⟨rfl, rfl⟩ := hw
  have hP : va_P D vwCl [((a 51), .inl (cy 0, 61, .inl (fun _ => 0))), ((a 52), .inl (cy 0, 61, .inl (rc 25))), ((a 5), .inr (1, [.ref (a 40), .int 0, .int 0, .ref (a 46), .ref (a 47)])), ((a 10), .inr (0, [.int 0, .int 1, .int 1, .int 0, .int 0, .ref (a 11), .ref (a 12), .ref (a 13), .null, .null])), ((a 40), .inr (6, [.ref (a 10), .int 0, .ref (a 41), .ref (a 42), .ref (a 43), .ref (a 44), .ref (a 45), .int 0])), ((a 6), .inr (9, [.int 1, .ref (a 51), .ref (a 52), .ref (a 53), .ref (a 54), .ref (a 55)]))] H := hP
  have hD := va_ca hP hD
  refine lv_aload_n hx hb dX9_look_161 rfl (lv_at hl 2 rfl) ?_
  refine va_get (ci := 9) (v := .ref (a 51)) (C := RX9) (T := TX9) (N := 6) hx hb htA in_X9 hown hK hP 5 rfl rfl 1 (by decide) (htA _ wd_43) (fun _ h => h) rfl dX9_look_162 ?_
  refine lv_iload hx hb dX9_look_165 (lv_at hl 0 rfl) ?_
  refine va_iald hx hb hK hP 0 0 rfl rfl (in_lit (by decide)) dX9_look_167 ?_
  refine lv_topi (fun x126 ex126 => ?_)
  obtain rfl : x126 = 0 := ex126
  refine lv_iconst (v := (-1)) hx hb dX9_look_168 (by decide) ?_
  refine lv_ixor hx hb dX9_look_169 ?_
  refine lv_topi (fun x127 ex127 => ?_)
  obtain rfl : x127 = (-1) := ex127.trans (by decide)
  refine lv_iand hx hb dX9_look_170 ?_
  refine lv_topi (fun x128 ex128 => ?_)
  obtain rfl : x128 = 1 := ex128.trans (by decide)
  refine va_iast hx hb hK hP hD hS 1 0 rfl rfl (in_lit (by decide)) dX9_look_171 (fun H locs hP hD hS => ?_)
  rw [rc_s 25 25 (by decide)] at hP hD
  have hP : va_P D vwCl [((a 51), .inl (cy 0, 61, .inl (fun _ => 0))), ((a 52), .inl (cy 0, 61, .inl (rc 26))), ((a 5), .inr (1, [.ref (a 40), .int 0, .int 0, .ref (a 46), .ref (a 47)])), ((a 10), .inr (0, [.int 0, .int 1, .int 1, .int 0, .int 0, .ref (a 11), .ref (a 12), .ref (a 13), .null, .null])), ((a 40), .inr (6, [.ref (a 10), .int 0, .ref (a 41), .ref (a 42), .ref (a 43), .ref (a 44), .ref (a 45), .int 0])), ((a 6), .inr (9, [.int 1, .ref (a 51), .ref (a 52), .ref (a 53), .ref (a 54), .ref (a 55)]))] H := hP
  have hD := va_ca hP hD
  refine lv_iinc (v := 26) (lv' := [(4, .int 26), (3, .int 1), (0, .ref (a 6)), (1, .ref (a 5)), (2, .int 0)]) hx hb dX9_look_172 hl (k := 0) rfl (by decide) (by decide) rfl (fun ls hl => ?_)
  refine lv_goto (tgt := 135) hx hb dX9_look_175 (by decide) ?_
  refine lv_iload hx hb dX9_look_135 (lv_at hl 0 rfl) ?_
  refine lv_bipush (v := 60) hx hb dX9_look_137 (by decide) ?_
  refine lv_icmp_gt (tgt := 178) hx hb dX9_look_139 (by decide) (fun q => absurd q (by decide)) (fun _ => ?_)
  refine lv_aload_n hx hb dX9_look_142 rfl (lv_at hl 2 rfl) ?_
  refine va_get (ci := 9) (v := .ref (a 52)) (C := RX9) (T := TX9) (N := 6) hx hb htA in_X9 hown hK hP 5 rfl rfl 2 (by decide) (htA _ wd_44) (fun _ h => h) rfl dX9_look_143 ?_
  refine lv_iload hx hb dX9_look_146 (lv_at hl 0 rfl) ?_
  refine lv_aload_n hx hb dX9_look_148 rfl (lv_at hl 2 rfl) ?_
  refine lv_aload_n hx hb dX9_look_149 rfl (lv_at hl 2 rfl) ?_
  refine va_get (ci := 9) (v := .ref (a 52)) (C := RX9) (T := TX9) (N := 6) hx hb htA in_X9 hown hK hP 5 rfl rfl 2 (by decide) (htA _ wd_44) (fun _ h => h) rfl dX9_look_150 ?_
  refine lv_iload hx hb dX9_look_153 (lv_at hl 0 rfl) ?_
  refine lv_iconst (v := 1) hx hb dX9_look_155 (by decide) ?_
  refine lv_isub hx hb dX9_look_156 ?_
  refine lv_topi (fun x129 ex129 => ?_)
  obtain rfl : x129 = 25 := ex129.trans (by decide)
  refine va_iald hx hb hK hP 1 0 rfl rfl (in_lit (by decide)) dX9_look_157 ?_
  refine lv_topi (fun x130 ex130 => ?_)
  obtain rfl : x130 = 1 := ex130.trans (by decide)
  refine kVi (As := [.int 1]) (rest := [.int 26, .ref (a 52)]) (wr := [((a 51), .inl (cy 0, 61, .inl (fun _ => 0))), ((a 52), .inl (cy 0, 61, .inl (rc 26))), ((a 5), .inr (1, [.ref (a 40), .int 0, .int 0, .ref (a 46), .ref (a 47)])), ((a 10), .inr (0, [.int 0, .int 1, .int 1, .int 0, .int 0, .ref (a 11), .ref (a 12), .ref (a 13), .null, .null])), ((a 40), .inr (6, [.ref (a 10), .int 0, .ref (a 41), .ref (a 42), .ref (a 43), .ref (a 44), .ref (a 45), .int 0]))]) hX hE (au_X9_near_58 l D cy a) (cwVA 1 htA wd_1188 wd_1185 wd_2 wd_1187 wp_37 (by decide +kernel) ⟨by decide, by decide⟩) hP hD hS [5] [0, 1, 2, 3, 4] rfl rfl (by decide +kernel) 0 rfl rfl rfl rfl hl.1 rfl (Nat.le_of_ble_eq_true rfl) dX9_look_158 (by decide) (fun r_ W1 H locs hw hP hD hS => ?_)
  refine W.widen (k := 0) (n := 0) (by decide) (by decide) ?_
  obtain ⟨rfl, rfl⟩ := hw
  have hP : va_P D vwCl [((a 51), .inl (cy 0, 61, .inl (fun _ => 0))), ((a 52), .inl (cy 0, 61, .inl (rc 26))), ((a 5), .inr (1, [.ref (a 40), .int 0, .int 0, .ref (a 46), .ref (a 47)])), ((a 10), .inr (0, [.int 0, .int 1, .int 1, .int 0, .int 0, .ref (a 11), .ref (a 12), .ref (a 13), .null, .null])), ((a 40), .inr (6, [.ref (a 10), .int 0, .ref (a 41), .ref (a 42), .ref (a 43), .ref (a 44), .ref (a 45), .int 0])), ((a 6), .inr (9, [.int 1, .ref (a 51), .ref (a 52), .ref (a 53), .ref (a 54), .ref (a 55)]))] H := hP
  have hD := va_ca hP hD
  refine lv_aload_n hx hb dX9_look_161 rfl (lv_at hl 2 rfl) ?_
  refine va_get (ci := 9) (v := .ref (a 51)) (C := RX9) (T := TX9) (N := 6) hx hb htA in_X9 hown hK hP 5 rfl rfl 1 (by decide) (htA _ wd_43) (fun _ h => h) rfl dX9_look_162 ?_
  refine lv_iload hx hb dX9_look_165 (lv_at hl 0 rfl) ?_
  refine va_iald hx hb hK hP 0 0 rfl rfl (in_lit (by decide)) dX9_look_167 ?_
  refine lv_topi (fun x131 ex131 => ?_)
  obtain rfl : x131 = 0 := ex131
  refine lv_iconst (v := (-1)) hx hb dX9_look_168 (by decide) ?_
  refine lv_ixor hx hb dX9_look_169 ?_
  refine lv_topi (fun x132 ex132 => ?_)
  obtain rfl : x132 = (-1) := ex132.trans (by decide)
  refine lv_iand hx hb dX9_look_170 ?_
  refine lv_topi (fun x133 ex133 => ?_)
  obtain rfl : x133 = 1 := ex133.trans (by decide)
  refine va_iast hx hb hK hP hD hS 1 0 rfl rfl (in_lit (by decide)) dX9_look_171 (fun H locs hP hD hS => ?_)
  rw [rc_s 26 26 (by decide)] at hP hD
  have hP : va_P D vwCl [((a 51), .inl (cy 0, 61, .inl (fun _ => 0))), ((a 52), .inl (cy 0, 61, .inl (rc 27))), ((a 5), .inr (1, [.ref (a 40), .int 0, .int 0, .ref (a 46), .ref (a 47)])), ((a 10), .inr (0, [.int 0, .int 1, .int 1, .int 0, .int 0, .ref (a 11), .ref (a 12), .ref (a 13), .null, .null])), ((a 40), .inr (6, [.ref (a 10), .int 0, .ref (a 41), .ref (a 42), .ref (a 43), .ref (a 44), .ref (a 45), .int 0])), ((a 6), .inr (9, [.int 1, .ref (a 51), .ref (a 52), .ref (a 53), .ref (a 54), .ref (a 55)]))] H := hP
  have hD := va_ca hP hD
  refine lv_iinc (v := 27) (lv' := [(4, .int 27), (3, .int 1), (0, .ref (a 6)), (1, .ref (a 5)), (2, .int 0)]) hx hb dX9_look_172 hl (k := 0) rfl (by decide) (by decide) rfl (fun ls hl => ?_)
  refine lv_goto (tgt := 135) hx hb dX9_look_175 (by decide) ?_
  refine lv_iload hx hb dX9_look_135 (lv_at hl 0 rfl) ?_
  refine lv_bipush (v := 60) hx hb dX9_look_137 (by decide) ?_
  refine lv_icmp_gt (tgt := 178) hx hb dX9_look_139 (by decide) (fun q => absurd q (by decide)) (fun _ => ?_)
  refine lv_aload_n hx hb dX9_look_142 rfl (lv_at hl 2 rfl) ?_
  refine va_get (ci := 9) (v := .ref (a 52)) (C := RX9) (T := TX9) (N := 6) hx hb htA in_X9 hown hK hP 5 rfl rfl 2 (by decide) (htA _ wd_44) (fun _ h => h) rfl dX9_look_143 ?_
  refine lv_iload hx hb dX9_look_146 (lv_at hl 0 rfl) ?_
  refine lv_aload_n hx hb dX9_look_148 rfl (lv_at hl 2 rfl) ?_
  refine lv_aload_n hx hb dX9_look_149 rfl (lv_at hl 2 rfl) ?_
  refine va_get (ci := 9) (v := .ref (a 52)) (C := RX9) (T := TX9) (N := 6) hx hb htA in_X9 hown hK hP 5 rfl rfl 2 (by decide) (htA _ wd_44) (fun _ h => h) rfl dX9_look_150 ?_
  refine lv_iload hx hb dX9_look_153 (lv_at hl 0 rfl) ?_
  refine lv_iconst (v := 1) hx hb dX9_look_155 (by decide) ?_
  refine lv_isub hx hb dX9_look_156 ?_
  refine lv_topi (fun x134 ex134 => ?_)
  obtain rfl : x134 = 26 := ex134.trans (by decide)
  refine va_iald hx hb hK hP 1 0 rfl rfl (in_lit (by decide)) dX9_look_157 ?_
  refine lv_topi (fun x135 ex135 => ?_)
  obtain rfl : x135 = 1 := ex135.trans (by decide)
  refine kVi (As := [.int 1]) (rest := [.int 27, .ref (a 52)]) (wr := [((a 51), .inl (cy 0, 61, .inl (fun _ => 0))), ((a 52), .inl (cy 0, 61, .inl (rc 27))), ((a 5), .inr (1, [.ref (a 40), .int 0, .int 0, .ref (a 46), .ref (a 47)])), ((a 10), .inr (0, [.int 0, .int 1, .int 1, .int 0, .int 0, .ref (a 11), .ref (a 12), .ref (a 13), .null, .null])), ((a 40), .inr (6, [.ref (a 10), .int 0, .ref (a 41), .ref (a 42), .ref (a 43), .ref (a 44), .ref (a 45), .int 0]))]) hX hE (au_X9_near_58 l D cy a) (cwVA 1 htA wd_1188 wd_1185 wd_2 wd_1187 wp_37 (by decide +kernel) ⟨by decide, by decide⟩) hP hD hS [5] [0, 1, 2, 3, 4] rfl rfl (by decide +kernel) 0 rfl rfl rfl rfl hl.1 rfl (Nat.le_of_ble_eq_true rfl) dX9_look_158 (by decide) (fun r_ W1 H locs hw hP hD hS => ?_)
  refine W.widen (k := 0) (n := 0) (by decide) (by decide) ?_
  obtain ⟨rfl, rfl⟩ := hw
  have hP : va_P D vwCl [((a 51), .inl (cy 0, 61, .inl (fun _ => 0))), ((a 52), .inl (cy 0, 61, .inl (rc 27))), ((a 5), .inr (1, [.ref (a 40), .int 0, .int 0, .ref (a 46), .ref (a 47)])), ((a 10), .inr (0, [.int 0, .int 1, .int 1, .int 0, .int 0, .ref (a 11), .ref (a 12), .ref (a 13), .null, .null])), ((a 40), .inr (6, [.ref (a 10), .int 0, .ref (a 41), .ref (a 42), .ref (a 43), .ref (a 44), .ref (a 45), .int 0])), ((a 6), .inr (9, [.int 1, .ref (a 51), .ref (a 52), .ref (a 53), .ref (a 54), .ref (a 55)]))] H := hP
  have hD := va_ca hP hD
  refine lv_aload_n hx hb dX9_look_161 rfl (lv_at hl 2 rfl) ?_
  refine va_get (ci := 9) (v := .ref (a 51)) (C := RX9) (T := TX9) (N := 6) hx hb htA in_X9 hown hK hP 5 rfl rfl 1 (by decide) (htA _ wd_43) (fun _ h => h) rfl dX9_look_162 ?_
  refine lv_iload hx hb dX9_look_165 (lv_at hl 0 rfl) ?_
  refine va_iald hx hb hK hP 0 0 rfl rfl (in_lit (by decide)) dX9_look_167 ?_
  refine lv_topi (fun x136 ex136 => ?_)
  obtain rfl : x136 = 0 := ex136
  refine lv_iconst (v := (-1)) hx hb dX9_look_168 (by decide) ?_
  refine lv_ixor hx hb dX9_look_169 ?_
  refine lv_topi (fun x137 ex137 => ?_)
  obtain rfl : x137 = (-1) := ex137.trans (by decide)
  refine lv_iand hx hb dX9_look_170 ?_
  refine lv_topi (fun x138 ex138 => ?_)
  obtain rfl : x138 = 1 := ex138.trans (by decide)
  refine va_iast hx hb hK hP hD hS 1 0 rfl rfl (in_lit (by decide)) dX9_look_171 (fun H locs hP hD hS => ?_)
  rw [rc_s 27 27 (by decide)] at hP hD
  have hP : va_P D vwCl [((a 51), .inl (cy 0, 61, .inl (fun _ => 0))), ((a 52), .inl (cy 0, 61, .inl (rc 28))), ((a 5), .inr (1, [.ref (a 40), .int 0, .int 0, .ref (a 46), .ref (a 47)])), ((a 10), .inr (0, [.int 0, .int 1, .int 1, .int 0, .int 0, .ref (a 11), .ref (a 12), .ref (a 13), .null, .null])), ((a 40), .inr (6, [.ref (a 10), .int 0, .ref (a 41), .ref (a 42), .ref (a 43), .ref (a 44), .ref (a 45), .int 0])), ((a 6), .inr (9, [.int 1, .ref (a 51), .ref (a 52), .ref (a 53), .ref (a 54), .ref (a 55)]))] H := hP
  have hD := va_ca hP hD
  refine lv_iinc (v := 28) (lv' := [(4, .int 28), (3, .int 1), (0, .ref (a 6)), (1, .ref (a 5)), (2, .int 0)]) hx hb dX9_look_172 hl (k := 0) rfl (by decide) (by decide) rfl (fun ls hl => ?_)
  refine lv_goto (tgt := 135) hx hb dX9_look_175 (by decide) ?_
  refine lv_iload hx hb dX9_look_135 (lv_at hl 0 rfl) ?_
  refine lv_bipush (v := 60) hx hb dX9_look_137 (by decide) ?_
  refine lv_icmp_gt (tgt := 178) hx hb dX9_look_139 (by decide) (fun q => absurd q (by decide)) (fun _ => ?_)
  refine lv_aload_n hx hb dX9_look_142 rfl (lv_at hl 2 rfl) ?_
  refine va_get (ci := 9) (v := .ref (a 52)) (C := RX9) (T := TX9) (N := 6) hx hb htA in_X9 hown hK hP 5 rfl rfl 2 (by decide) (htA _ wd_44) (fun _ h => h) rfl dX9_look_143 ?_
  refine lv_iload hx hb dX9_look_146 (lv_at hl 0 rfl) ?_
  refine lv_aload_n hx hb dX9_look_148 rfl (lv_at hl 2 rfl) ?_
  refine lv_aload_n hx hb dX9_look_149 rfl (lv_at hl 2 rfl) ?_
  refine va_get (ci := 9) (v := .ref (a 52)) (C := RX9) (T := TX9) (N := 6) hx hb htA in_X9 hown hK hP 5 rfl rfl 2 (by decide) (htA _ wd_44) (fun _ h => h) rfl dX9_look_150 ?_
  refine lv_iload hx hb dX9_look_153 (lv_at hl 0 rfl) ?_
  refine lv_iconst (v := 1) hx hb dX9_look_155 (by decide) ?_
  refine lv_isub hx hb dX9_look_156 ?_
  refine lv_topi (fun x139 ex139 => ?_)
  obtain rfl : x139 = 27 := ex139.trans (by decide)
  refine va_iald hx hb hK hP 1 0 rfl rfl (in_lit (by decide)) dX9_look_157 ?_
  refine lv_topi (fun x140 ex140 => ?_)
  obtain rfl : x140 = 1 := ex140.trans (by decide)
  refine kVi (As := [.int 1]) (rest := [.int 28, .ref (a 52)]) (wr := [((a 51), .inl (cy 0, 61, .inl (fun _ => 0))), ((a 52), .inl (cy 0, 61, .inl (rc 28))), ((a 5), .inr (1, [.ref (a 40), .int 0, .int 0, .ref (a 46), .ref (a 47)])), ((a 10), .inr (0, [.int 0, .int 1, .int 1, .int 0, .int 0, .ref (a 11), .ref (a 12), .ref (a 13), .null, .null])), ((a 40), .inr (6, [.ref (a 10), .int 0, .ref (a 41), .ref (a 42), .ref (a 43), .ref (a 44), .ref (a 45), .int 0]))]) hX hE (au_X9_near_58 l D cy a) (cwVA 1 htA wd_1188 wd_1185 wd_2 wd_1187 wp_37 (by decide +kernel) ⟨by decide, by decide⟩) hP hD hS [5] [0, 1, 2, 3, 4] rfl rfl (by decide +kernel) 0 rfl rfl rfl rfl hl.1 rfl (Nat.le_of_ble_eq_true rfl) dX9_look_158 (by decide) (fun r_ W1 H locs hw hP hD hS => ?_)
  refine W.widen (k := 0) (n := 0) (by decide) (by decide) ?_
  obtain ⟨rfl, rfl⟩ := hw
  have hP : va_P D vwCl [((a 51), .inl (cy 0, 61, .inl (fun _ => 0))), ((a 52), .inl (cy 0, 61, .inl (rc 28))), ((a 5), .inr (1, [.ref (a 40), .int 0, .int 0, .ref (a 46), .ref (a 47)])), ((a 10), .inr (0, [.int 0, .int 1, .int 1, .int 0, .int 0, .ref (a 11), .ref (a 12), .ref (a 13), .null, .null])), ((a 40), .inr (6, [.ref (a 10), .int 0, .ref (a 41), .ref (a 42), .ref (a 43), .ref (a 44), .ref (a 45), .int 0])), ((a 6), .inr (9, [.int 1, .ref (a 51), .ref (a 52), .ref (a 53), .ref (a 54), .ref (a 55)]))] H := hP
  have hD := va_ca hP hD
  refine lv_aload_n hx hb dX9_look_161 rfl (lv_at hl 2 rfl) ?_
  refine va_get (ci := 9) (v := .ref (a 51)) (C := RX9) (T := TX9) (N := 6) hx hb htA in_X9 hown hK hP 5 rfl rfl 1 (by decide) (htA _ wd_43) (fun _ h => h) rfl dX9_look_162 ?_
  refine lv_iload hx hb dX9_look_165 (lv_at hl 0 rfl) ?_
  refine va_iald hx hb hK hP 0 0 rfl rfl (in_lit (by decide)) dX9_look_167 ?_
  refine lv_topi (fun x141 ex141 => ?_)
  obtain rfl : x141 = 0 := ex141
  refine lv_iconst (v := (-1)) hx hb dX9_look_168 (by decide) ?_
  refine lv_ixor hx hb dX9_look_169 ?_
  refine lv_topi (fun x142 ex142 => ?_)
  obtain rfl : x142 = (-1) := ex142.trans (by decide)
  refine lv_iand hx hb dX9_look_170 ?_
  refine lv_topi (fun x143 ex143 => ?_)
  obtain rfl : x143 = 1 := ex143.trans (by decide)
  refine va_iast hx hb hK hP hD hS 1 0 rfl rfl (in_lit (by decide)) dX9_look_171 (fun H locs hP hD hS => ?_)
  rw [rc_s 28 28 (by decide)] at hP hD
  have hP : va_P D vwCl [((a 51), .inl (cy 0, 61, .inl (fun _ => 0))), ((a 52), .inl (cy 0, 61, .inl (rc 29))), ((a 5), .inr (1, [.ref (a 40), .int 0, .int 0, .ref (a 46), .ref (a 47)])), ((a 10), .inr (0, [.int 0, .int 1, .int 1, .int 0, .int 0, .ref (a 11), .ref (a 12), .ref (a 13), .null, .null])), ((a 40), .inr (6, [.ref (a 10), .int 0, .ref (a 41), .ref (a 42), .ref (a 43), .ref (a 44), .ref (a 45), .int 0])), ((a 6), .inr (9, [.int 1, .ref (a 51), .ref (a 52), .ref (a 53), .ref (a 54), .ref (a 55)]))] H := hP
  have hD := va_ca hP hD
  refine lv_iinc (v := 29) (lv' := [(4, .int 29), (3, .int 1), (0, .ref (a 6)), (1, .ref (a 5)), (2, .int 0)]) hx hb dX9_look_172 hl (k := 0) rfl (by decide) (by decide) rfl (fun ls hl => ?_)
  refine lv_goto (tgt := 135) hx hb dX9_look_175 (by decide) ?_
  refine lv_iload hx hb dX9_look_135 (lv_at hl 0 rfl) ?_
  refine lv_bipush (v := 60) hx hb dX9_look_137 (by decide) ?_
  refine lv_icmp_gt (tgt := 178) hx hb dX9_look_139 (by decide) (fun q => absurd q (by decide)) (fun _ => ?_)
  refine lv_aload_n hx hb dX9_look_142 rfl (lv_at hl 2 rfl) ?_
  refine va_get (ci := 9) (v := .ref (a 52)) (C := RX9) (T := TX9) (N := 6) hx hb htA in_X9 hown hK hP 5 rfl rfl 2 (by decide) (htA _ wd_44) (fun _ h => h) rfl dX9_look_143 ?_
  refine lv_iload hx hb dX9_look_146 (lv_at hl 0 rfl) ?_
  refine lv_aload_n hx hb dX9_look_148 rfl (lv_at hl 2 rfl) ?_
  refine lv_aload_n hx hb dX9_look_149 rfl (lv_at hl 2 rfl) ?_
  refine va_get (ci := 9) (v := .ref (a 52)) (C := RX9) (T := TX9) (N := 6) hx hb htA in_X9 hown hK hP 5 rfl rfl 2 (by decide) (htA _ wd_44) (fun _ h => h) rfl dX9_look_150 ?_
  refine lv_iload hx hb dX9_look_153 (lv_at hl 0 rfl) ?_
  refine lv_iconst (v := 1) hx hb dX9_look_155 (by decide) ?_
  refine lv_isub hx hb dX9_look_156 ?_
  refine lv_topi (fun x144 ex144 => ?_)
  obtain rfl : x144 = 28 := ex144.trans (by decide)
  refine va_iald hx hb hK hP 1 0 rfl rfl (in_lit (by decide)) dX9_look_157 ?_
  refine lv_topi (fun x145 ex145 => ?_)
  obtain rfl : x145 = 1 := ex145.trans (by decide)
  refine kVi (As := [.int 1]) (rest := [.int 29, .ref (a 52)]) (wr := [((a 51), .inl (cy 0, 61, .inl (fun _ => 0))), ((a 52), .inl (cy 0, 61, .inl (rc 29))), ((a 5), .inr (1, [.ref (a 40), .int 0, .int 0, .ref (a 46), .ref (a 47)])), ((a 10), .inr (0, [.int 0, .int 1, .int 1, .int 0, .int 0, .ref (a 11), .ref (a 12), .ref (a 13), .null, .null])), ((a 40), .inr (6, [.ref (a 10), .int 0, .ref (a 41), .ref (a 42), .ref (a 43), .ref (a 44), .ref (a 45), .int 0]))]) hX hE (au_X9_near_58 l D cy a) (cwVA 1 htA wd_1188 wd_1185 wd_2 wd_1187 wp_37 (by decide +kernel) ⟨by decide, by decide⟩) hP hD hS [5] [0, 1, 2, 3, 4] rfl rfl (by decide +kernel) 0 rfl rfl rfl rfl hl.1 rfl (Nat.le_of_ble_eq_true rfl) dX9_look_158 (by decide) (fun r_ W1 H locs hw hP hD hS => ?_)
  refine W.widen (k := 0) (n := 0) (by decide) (by decide) ?_
  obtain ⟨rfl, rfl⟩ := hw
  have hP : va_P D vwCl [((a 51), .inl (cy 0, 61, .inl (fun _ => 0))), ((a 52), .inl (cy 0, 61, .inl (rc 29))), ((a 5), .inr (1, [.ref (a 40), .int 0, .int 0, .ref (a 46), .ref (a 47)])), ((a 10), .inr (0, [.int 0, .int 1, .int 1, .int 0, .int 0, .ref (a 11), .ref (a 12), .ref (a 13), .null, .null])), ((a 40), .inr (6, [.ref (a 10), .int 0, .ref (a 41), .ref (a 42), .ref (a 43), .ref (a 44), .ref (a 45), .int 0])), ((a 6), .inr (9, [.int 1, .ref (a 51), .ref (a 52), .ref (a 53), .ref (a 54), .ref (a 55)]))] H := hP
  have hD := va_ca hP hD
  refine lv_aload_n hx hb dX9_look_161 rfl (lv_at hl 2 rfl) ?_
  refine va_get (ci := 9) (v := .ref (a 51)) (C := RX9) (T := TX9) (N := 6) hx hb htA in_X9 hown hK hP 5 rfl rfl 1 (by decide) (htA _ wd_43) (fun _ h => h) rfl dX9_look_162 ?_
  refine lv_iload hx hb dX9_look_165 (lv_at hl 0 rfl) ?_
  refine va_iald hx hb hK hP 0 0 rfl rfl (in_lit (by decide)) dX9_look_167 ?_
  refine lv_topi (fun x146 ex146 => ?_)
  obtain rfl : x146 = 0 := ex146
  refine lv_iconst (v := (-1)) hx hb dX9_look_168 (by decide) ?_
  refine lv_ixor hx hb dX9_look_169 ?_
  refine lv_topi (fun x147 ex147 => ?_)
  obtain rfl : x147 = (-1) := ex147.trans (by decide)
  refine lv_iand hx hb dX9_look_170 ?_
  refine lv_topi (fun x148 ex148 => ?_)
  obtain rfl : x148 = 1 := ex148.trans (by decide)
  refine va_iast hx hb hK hP hD hS 1 0 rfl rfl (in_lit (by decide)) dX9_look_171 (fun H locs hP hD hS => ?_)
  rw [rc_s 29 29 (by decide)] at hP hD
  have hP : va_P D vwCl [((a 51), .inl (cy 0, 61, .inl (fun _ => 0))), ((a 52), .inl (cy 0, 61, .inl (rc 30))), ((a 5), .inr (1, [.ref (a 40), .int 0, .int 0, .ref (a 46), .ref (a 47)])), ((a 10), .inr (0, [.int 0, .int 1, .int 1, .int 0, .int 0, .ref (a 11), .ref (a 12), .ref (a 13), .null, .null])), ((a 40), .inr (6, [.ref (a 10), .int 0, .ref (a 41), .ref (a 42), .ref (a 43), .ref (a 44), .ref (a 45), .int 0])), ((a 6), .inr (9, [.int 1, .ref (a 51), .ref (a 52), .ref (a 53), .ref (a 54), .ref (a 55)]))] H := hP
  have hD := va_ca hP hD
  refine lv_iinc (v := 30) (lv' := [(4, .int 30), (3, .int 1), (0, .ref (a 6)), (1, .ref (a 5)), (2, .int 0)]) hx hb dX9_look_172 hl (k := 0) rfl (by decide) (by decide) rfl (fun ls hl => ?_)
  refine lv_goto (tgt := 135) hx hb dX9_look_175 (by decide) ?_
  refine lv_iload hx hb dX9_look_135 (lv_at hl 0 rfl) ?_
  refine lv_bipush (v := 60) hx hb dX9_look_137 (by decide) ?_
  refine lv_icmp_gt (tgt := 178) hx hb dX9_look_139 (by decide) (fun q => absurd q (by decide)) (fun _ => ?_)
  refine lv_aload_n hx hb dX9_look_142 rfl (lv_at hl 2 rfl) ?_
  refine va_get (ci := 9) (v := .ref (a 52)) (C := RX9) (T := TX9) (N := 6) hx hb htA in_X9 hown hK hP 5 rfl rfl 2 (by decide) (htA _ wd_44) (fun _ h => h) rfl dX9_look_143 ?_
  refine lv_iload hx hb dX9_look_146 (lv_at hl 0 rfl) ?_
  refine lv_aload_n hx hb dX9_look_148 rfl (lv_at hl 2 rfl) ?_
  refine lv_aload_n hx hb dX9_look_149 rfl (lv_at hl 2 rfl) ?_
  refine va_get (ci := 9) (v := .ref (a 52)) (C := RX9) (T := TX9) (N := 6) hx hb htA in_X9 hown hK hP 5 rfl rfl 2 (by decide) (htA _ wd_44) (fun _ h => h) rfl dX9_look_150 ?_
  refine lv_iload hx hb dX9_look_153 (lv_at hl 0 rfl) ?_
  refine lv_iconst (v := 1) hx hb dX9_look_155 (by decide) ?_
  refine lv_isub hx hb dX9_look_156 ?_
  refine lv_topi (fun x149 ex149 => ?_)
  obtain rfl : x149 = 29 := ex149.trans (by decide)
  refine va_iald hx hb hK hP 1 0 rfl rfl (in_lit (by decide)) dX9_look_157 ?_
  refine lv_topi (fun x150 ex150 => ?_)
  obtain rfl : x150 = 1 := ex150.trans (by decide)
  refine kVi (As := [.int 1]) (rest := [.int 30, .ref (a 52)]) (wr := [((a 51), .inl (cy 0, 61, .inl (fun _ => 0))), ((a 52), .inl (cy 0, 61, .inl (rc 30))), ((a 5), .inr (1, [.ref (a 40), .int 0, .int 0, .ref (a 46), .ref (a 47)])), ((a 10), .inr (0, [.int 0, .int 1, .int 1, .int 0, .int 0, .ref (a 11), .ref (a 12), .ref (a 13), .null, .null])), ((a 40), .inr (6, [.ref (a 10), .int 0, .ref (a 41), .ref (a 42), .ref (a 43), .ref (a 44), .ref (a 45), .int 0]))]) hX hE (au_X9_near_58 l D cy a) (cwVA 1 htA wd_1188 wd_1185 wd_2 wd_1187 wp_37 (by decide +kernel) ⟨by decide, by decide⟩) hP hD hS [5] [0, 1, 2, 3, 4] rfl rfl (by decide +kernel) 0 rfl rfl rfl rfl hl.1 rfl (Nat.le_of_ble_eq_true rfl) dX9_look_158 (by decide) (fun r_ W1 H locs hw hP hD hS => ?_)
  refine W.widen (k := 0) (n := 0) (by decide) (by decide) ?_
  obtain ⟨rfl, rfl⟩ := hw
  have hP : va_P D vwCl [((a 51), .inl (cy 0, 61, .inl (fun _ => 0))), ((a 52), .inl (cy 0, 61, .inl (rc 30))), ((a 5), .inr (1, [.ref (a 40), .int 0, .int 0, .ref (a 46), .ref (a 47)])), ((a 10), .inr (0, [.int 0, .int 1, .int 1, .int 0, .int 0, .ref (a 11), .ref (a 12), .ref (a 13), .null, .null])), ((a 40), .inr (6, [.ref (a 10), .int 0, .ref (a 41), .ref (a 42), .ref (a 43), .ref (a 44), .ref (a 45), .int 0])), ((a 6), .inr (9, [.int 1, .ref (a 51), .ref (a 52), .ref (a 53), .ref (a 54), .ref (a 55)]))] H := hP
  have hD := va_ca hP hD
  refine lv_aload_n hx hb dX9_look_161 rfl (lv_at hl 2 rfl) ?_
  refine va_get (ci := 9) (v := .ref (a 51)) (C := RX9) (T := TX9) (N := 6) hx hb htA in_X9 hown hK hP 5 rfl rfl 1 (by decide) (htA _ wd_43) (fun _ h => h) rfl dX9_look_162 ?_
  refine lv_iload hx hb dX9_look_165 (lv_at hl 0 rfl) ?_
  refine va_iald hx hb hK hP 0 0 rfl rfl (in_lit (by decide)) dX9_look_167 ?_
  refine lv_topi (fun x151 ex151 => ?_)
  obtain rfl : x151 = 0 := ex151
  refine lv_iconst (v := (-1)) hx hb dX9_look_168 (by decide) ?_
  refine lv_ixor hx hb dX9_look_169 ?_
  refine lv_topi (fun x152 ex152 => ?_)
  obtain rfl : x152 = (-1) := ex152.trans (by decide)
  refine lv_iand hx hb dX9_look_170 ?_
  refine lv_topi (fun x153 ex153 => ?_)
  obtain rfl : x153 = 1 := ex153.trans (by decide)
  refine va_iast hx hb hK hP hD hS 1 0 rfl rfl (in_lit (by decide)) dX9_look_171 (fun H locs hP hD hS => ?_)
  rw [rc_s 30 30 (by decide)] at hP hD
  have hP : va_P D vwCl [((a 51), .inl (cy 0, 61, .inl (fun _ => 0))), ((a 52), .inl (cy 0, 61, .inl (rc 31))), ((a 5), .inr (1, [.ref (a 40), .int 0, .int 0, .ref (a 46), .ref (a 47)])), ((a 10), .inr (0, [.int 0, .int 1, .int 1, .int 0, .int 0, .ref (a 11), .ref (a 12), .ref (a 13), .null, .null])), ((a 40), .inr (6, [.ref (a 10), .int 0, .ref (a 41), .ref (a 42), .ref (a 43), .ref (a 44), .ref (a 45), .int 0])), ((a 6), .inr (9, [.int 1, .ref (a 51), .ref (a 52), .ref (a 53), .ref (a 54), .ref (a 55)]))] H := hP
  have hD := va_ca hP hD
  refine lv_iinc (v := 31) (lv' := [(4, .int 31), (3, .int 1), (0, .ref (a 6)), (1, .ref (a 5)), (2, .int 0)]) hx hb dX9_look_172 hl (k := 0) rfl (by decide) (by decide) rfl (fun ls hl => ?_)
  refine lv_goto (tgt := 135) hx hb dX9_look_175 (by decide) ?_
  refine lv_iload hx hb dX9_look_135 (lv_at hl 0 rfl) ?_
  refine lv_bipush (v := 60) hx hb dX9_look_137 (by decide) ?_
  refine lv_icmp_gt (tgt := 178) hx hb dX9_look_139 (by decide) (fun q => absurd q (by decide)) (fun _ => ?_)
  refine lv_aload_n hx hb dX9_look_142 rfl (lv_at hl 2 rfl) ?_
  refine va_get (ci := 9) (v := .ref (a 52)) (C := RX9) (T := TX9) (N := 6) hx hb htA in_X9 hown hK hP 5 rfl rfl 2 (by decide) (htA _ wd_44) (fun _ h => h) rfl dX9_look_143 ?_
  refine lv_iload hx hb dX9_look_146 (lv_at hl 0 rfl) ?_
  refine lv_aload_n hx hb dX9_look_148 rfl (lv_at hl 2 rfl) ?_
  refine lv_aload_n hx hb dX9_look_149 rfl (lv_at hl 2 rfl) ?_
  refine va_get (ci := 9) (v := .ref (a 52)) (C := RX9) (T := TX9) (N := 6) hx hb htA in_X9 hown hK hP 5 rfl rfl 2 (by decide) (htA _ wd_44) (fun _ h => h) rfl dX9_look_150 ?_
  refine lv_iload hx hb dX9_look_153 (lv_at hl 0 rfl) ?_
  refine lv_iconst (v := 1) hx hb dX9_look_155 (by decide) ?_
  refine lv_isub hx hb dX9_look_156 ?_
  refine lv_topi (fun x154 ex154 => ?_)
  obtain rfl : x154 = 30 := ex154.trans (by decide)
  refine va_iald hx hb hK hP 1 0 rfl rfl (in_lit (by decide)) dX9_look_157 ?_
  refine lv_topi (fun x155 ex155 => ?_)
  obtain rfl : x155 = 1 := ex155.trans (by decide)
  refine kVi (As := [.int 1]) (rest := [.int 31, .ref (a 52)]) (wr := [((a 51), .inl (cy 0, 61, .inl (fun _ => 0))), ((a 52), .inl (cy 0, 61, .inl (rc 31))), ((a 5), .inr (1, [.ref (a 40), .int 0, .int 0, .ref (a 46), .ref (a 47)])), ((a 10), .inr (0, [.int 0, .int 1, .int 1, .int 0, .int 0, .ref (a 11), .ref (a 12), .ref (a 13), .null, .null])), ((a 40), .inr (6, [.ref (a 10), .int 0, .ref (a 41), .ref (a 42), .ref (a 43), .ref (a 44), .ref (a 45), .int 0]))]) hX hE (au_X9_near_58 l D cy a) (cwVA 1 htA wd_1188 wd_1185 wd_2 wd_1187 wp_37 (by decide +kernel) ⟨by decide, by decide⟩) hP hD hS [5] [0, 1, 2, 3, 4] rfl rfl (by decide +kernel) 0 rfl rfl rfl rfl hl.1 rfl (Nat.le_of_ble_eq_true rfl) dX9_look_158 (by decide) (fun r_ W1 H locs hw hP hD hS => ?_)
  refine W.widen (k := 0) (n := 0) (by decide) (by decide) ?_
  obtain ⟨rfl, rfl⟩ := hw
  have hP : va_P D vwCl [((a 51), .inl (cy 0, 61, .inl (fun _ => 0))), ((a 52), .inl (cy 0, 61, .inl (rc 31))), ((a 5), .inr (1, [.ref (a 40), .int 0, .int 0, .ref (a 46), .ref (a 47)])), ((a 10), .inr (0, [.int 0, .int 1, .int 1, .int 0, .int 0, .ref (a 11), .ref (a 12), .ref (a 13), .null, .null])), ((a 40), .inr (6, [.ref (a 10), .int 0, .ref (a 41), .ref (a 42), .ref (a 43), .ref (a 44), .ref (a 45), .int 0])), ((a 6), .inr (9, [.int 1, .ref (a 51), .ref (a 52), .ref (a 53), .ref (a 54), .ref (a 55)]))] H := hP
  have hD := va_ca hP hD
  refine lv_aload_n hx hb dX9_look_161 rfl (lv_at hl 2 rfl) ?_
  refine va_get (ci := 9) (v := .ref (a 51)) (C := RX9) (T := TX9) (N := 6) hx hb htA in_X9 hown hK hP 5 rfl rfl 1 (by decide) (htA _ wd_43) (fun _ h => h) rfl dX9_look_162 ?_
  refine lv_iload hx hb dX9_look_165 (lv_at hl 0 rfl) ?_
  refine va_iald hx hb hK hP 0 0 rfl rfl (in_lit (by decide)) dX9_look_167 ?_
  refine lv_topi (fun x156 ex156 => ?_)
  obtain rfl : x156 = 0 := ex156
  refine lv_iconst (v := (-1)) hx hb dX9_look_168 (by decide) ?_
  refine lv_ixor hx hb dX9_look_169 ?_
  refine lv_topi (fun x157 ex157 => ?_)
  obtain rfl : x157 = (-1) := ex157.trans (by decide)
  refine lv_iand hx hb dX9_look_170 ?_
  refine lv_topi (fun x158 ex158 => ?_)
  obtain rfl : x158 = 1 := ex158.trans (by decide)
  refine va_iast hx hb hK hP hD hS 1 0 rfl rfl (in_lit (by decide)) dX9_look_171 (fun H locs hP hD hS => ?_)
  rw [rc_s 31 31 (by decide)] at hP hD
  have hP : va_P D vwCl [((a 51), .inl (cy 0, 61, .inl (fun _ => 0))), ((a 52), .inl (cy 0, 61, .inl (rc 32))), ((a 5), .inr (1, [.ref (a 40), .int 0, .int 0, .ref (a 46), .ref (a 47)])), ((a 10), .inr (0, [.int 0, .int 1, .int 1, .int 0, .int 0, .ref (a 11), .ref (a 12), .ref (a 13), .null, .null])), ((a 40), .inr (6, [.ref (a 10), .int 0, .ref (a 41), .ref (a 42), .ref (a 43), .ref (a 44), .ref (a 45), .int 0])), ((a 6), .inr (9, [.int 1, .ref (a 51), .ref (a 52), .ref (a 53), .ref (a 54), .ref (a 55)]))] H := hP
  have hD := va_ca hP hD
  refine lv_iinc (v := 32) (lv' := [(4, .int 32), (3, .int 1), (0, .ref (a 6)), (1, .ref (a 5)), (2, .int 0)]) hx hb dX9_look_172 hl (k := 0) rfl (by decide) (by decide) rfl (fun ls hl => ?_)
  refine lv_goto (tgt := 135) hx hb dX9_look_175 (by decide) ?_
  refine lv_iload hx hb dX9_look_135 (lv_at hl 0 rfl) ?_
  refine lv_bipush (v := 60) hx hb dX9_look_137 (by decide) ?_
  refine lv_icmp_gt (tgt := 178) hx hb dX9_look_139 (by decide) (fun q => absurd q (by decide)) (fun _ => ?_)
  refine lv_aload_n hx hb dX9_look_142 rfl (lv_at hl 2 rfl) ?_
  refine va_get (ci := 9) (v := .ref (a 52)) (C := RX9) (T := TX9) (N := 6) hx hb htA in_X9 hown hK hP 5 rfl rfl 2 (by decide) (htA _ wd_44) (fun _ h => h) rfl dX9_look_143 ?_
  refine lv_iload hx hb dX9_look_146 (lv_at hl 0 rfl) ?_
  refine lv_aload_n hx hb dX9_look_148 rfl (lv_at hl 2 rfl) ?_
  refine lv_aload_n hx hb dX9_look_149 rfl (lv_at hl 2 rfl) ?_
  refine va_get (ci := 9) (v := .ref (a 52)) (C := RX9) (T := TX9) (N := 6) hx hb htA in_X9 hown hK hP 5 rfl rfl 2 (by decide) (htA _ wd_44) (fun _ h => h) rfl dX9_look_150 ?_
  refine lv_iload hx hb dX9_look_153 (lv_at hl 0 rfl) ?_
  refine lv_iconst (v := 1) hx hb dX9_look_155 (by decide) ?_
  refine lv_isub hx hb dX9_look_156 ?_
  refine lv_topi (fun x159 ex159 => ?_)
  obtain rfl : x159 = 31 := ex159.trans (by decide)
  refine va_iald hx hb hK hP 1 0 rfl rfl (in_lit (by decide)) dX9_look_157 ?_
  refine lv_topi (fun x160 ex160 => ?_)
  obtain rfl : x160 = 1 := ex160.trans (by decide)
  refine kVi (As := [.int 1]) (rest := [.int 32, .ref (a 52)]) (wr := [((a 51), .inl (cy 0, 61, .inl (fun _ => 0))), ((a 52), .inl (cy 0, 61, .inl (rc 32))), ((a 5), .inr (1, [.ref (a 40), .int 0, .int 0, .ref (a 46), .ref (a 47)])), ((a 10), .inr (0, [.int 0, .int 1, .int 1, .int 0, .int 0, .ref (a 11), .ref (a 12), .ref (a 13), .null, .null])), ((a 40), .inr (6, [.ref (a 10), .int 0, .ref (a 41), .ref (a 42), .ref (a 43), .ref (a 44), .ref (a 45), .int 0]))]) hX hE (au_X9_near_58 l D cy a) (cwVA 1 htA wd_1188 wd_1185 wd_2 wd_1187 wp_37 (by decide +kernel) ⟨by decide, by decide⟩) hP hD hS [5] [0, 1, 2, 3, 4] rfl rfl (by decide +kernel) 0 rfl rfl rfl rfl hl.1 rfl (Nat.le_of_ble_eq_true rfl) dX9_look_158 (by decide) (fun r_ W1 H locs hw hP hD hS => ?_)
  refine W.widen (k := 0) (n := 0) (by decide) (by decide) ?_
  obtain ⟨rfl, rfl⟩ := hw
  have hP : va_P D vwCl [((a 51), .inl (cy 0, 61, .inl (fun _ => 0))), ((a 52), .inl (cy 0, 61, .inl (rc 32))), ((a 5), .inr (1, [.ref (a 40), .int 0, .int 0, .ref (a 46), .ref (a 47)])), ((a 10), .inr (0, [.int 0, .int 1, .int 1, .int 0, .int 0, .ref (a 11), .ref (a 12), .ref (a 13), .null, .null])), ((a 40), .inr (6, [.ref (a 10), .int 0, .ref (a 41), .ref (a 42), .ref (a 43), .ref (a 44), .ref (a 45), .int 0])), ((a 6), .inr (9, [.int 1, .ref (a 51), .ref (a 52), .ref (a 53), .ref (a 54), .ref (a 55)]))] H := hP
  have hD := va_ca hP hD
  refine lv_aload_n hx hb dX9_look_161 rfl (lv_at hl 2 rfl) ?_
  refine va_get (ci := 9) (v := .ref (a 51)) (C := RX9) (T := TX9) (N := 6) hx hb htA in_X9 hown hK hP 5 rfl rfl 1 (by decide) (htA _ wd_43) (fun _ h => h) rfl dX9_look_162 ?_
  refine lv_iload hx hb dX9_look_165 (lv_at hl 0 rfl) ?_
  refine va_iald hx hb hK hP 0 0 rfl rfl (in_lit (by decide)) dX9_look_167 ?_
  refine lv_topi (fun x161 ex161 => ?_)
  obtain rfl : x161 = 0 := ex161
  refine lv_iconst (v := (-1)) hx hb dX9_look_168 (by decide) ?_
  refine lv_ixor hx hb dX9_look_169 ?_
  refine lv_topi (fun x162 ex162 => ?_)
  obtain rfl : x162 = (-1) := ex162.trans (by decide)
  refine lv_iand hx hb dX9_look_170 ?_
  refine lv_topi (fun x163 ex163 => ?_)
  obtain rfl : x163 = 1 := ex163.trans (by decide)
  refine va_iast hx hb hK hP hD hS 1 0 rfl rfl (in_lit (by decide)) dX9_look_171 (fun H locs hP hD hS => ?_)
  rw [rc_s 32 32 (by decide)] at hP hD
  have hP : va_P D vwCl [((a 51), .inl (cy 0, 61, .inl (fun _ => 0))), ((a 52), .inl (cy 0, 61, .inl (rc 33))), ((a 5), .inr (1, [.ref (a 40), .int 0, .int 0, .ref (a 46), .ref (a 47)])), ((a 10), .inr (0, [.int 0, .int 1, .int 1, .int 0, .int 0, .ref (a 11), .ref (a 12), .ref (a 13), .null, .null])), ((a 40), .inr (6, [.ref (a 10), .int 0, .ref (a 41), .ref (a 42), .ref (a 43), .ref (a 44), .ref (a 45), .int 0])), ((a 6), .inr (9, [.int 1, .ref (a 51), .ref (a 52), .ref (a 53), .ref (a 54), .ref (a 55)]))] H := hP
  have hD := va_ca hP hD
  refine lv_iinc (v := 33) (lv' := [(4, .int 33), (3, .int 1), (0, .ref (a 6)), (1, .ref (a 5)), (2, .int 0)]) hx hb dX9_look_172 hl (k := 0) rfl (by decide) (by decide) rfl (fun ls hl => ?_)
  refine lv_goto (tgt := 135) hx hb dX9_look_175 (by decide) ?_
  refine lv_iload hx hb dX9_look_135 (lv_at hl 0 rfl) ?_
  refine lv_bipush (v := 60) hx hb dX9_look_137 (by decide) ?_
  refine lv_icmp_gt (tgt := 178) hx hb dX9_look_139 (by decide) (fun q => absurd q (by decide)) (fun _ => ?_)
  refine lv_aload_n hx hb dX9_look_142 rfl (lv_at hl 2 rfl) ?_
  refine va_get (ci := 9) (v := .ref (a 52)) (C := RX9) (T := TX9) (N := 6) hx hb htA in_X9 hown hK hP 5 rfl rfl 2 (by decide) (htA _ wd_44) (fun _ h => h) rfl dX9_look_143 ?_
  refine lv_iload hx hb dX9_look_146 (lv_at hl 0 rfl) ?_
  refine lv_aload_n hx hb dX9_look_148 rfl (lv_at hl 2 rfl) ?_
  refine lv_aload_n hx hb dX9_look_149 rfl (lv_at hl 2 rfl) ?_
  refine va_get (ci := 9) (v := .ref (a 52)) (C := RX9) (T := TX9) (N := 6) hx hb htA in_X9 hown hK hP 5 rfl rfl 2 (by decide) (htA _ wd_44) (fun _ h => h) rfl dX9_look_150 ?_
  refine lv_iload hx hb dX9_look_153 (lv_at hl 0 rfl) ?_
  refine lv_iconst (v := 1) hx hb dX9_look_155 (by decide) ?_
  refine lv_isub hx hb dX9_look_156 ?_
  refine lv_topi (fun x164 ex164 => ?_)
  obtain rfl : x164 = 32 := ex164.trans (by decide)
  refine va_iald hx hb hK hP 1 0 rfl rfl (in_lit (by decide)) dX9_look_157 ?_
  refine lv_topi (fun x165 ex165 => ?_)
  obtain rfl : x165 = 1 := ex165.trans (by decide)
  refine kVi (As := [.int 1]) (rest := [.int 33, .ref (a 52)]) (wr := [((a 51), .inl (cy 0, 61, .inl (fun _ => 0))), ((a 52), .inl (cy 0, 61, .inl (rc 33))), ((a 5), .inr (1, [.ref (a 40), .int 0, .int 0, .ref (a 46), .ref (a 47)])), ((a 10), .inr (0, [.int 0, .int 1, .int 1, .int 0, .int 0, .ref (a 11), .ref (a 12), .ref (a 13), .null, .null])), ((a 40), .inr (6, [.ref (a 10), .int 0, .ref (a 41), .ref (a 42), .ref (a 43), .ref (a 44), .ref (a 45), .int 0]))]) hX hE (au_X9_near_58 l D cy a) (cwVA 1 htA wd_1188 wd_1185 wd_2 wd_1187 wp_37 (by decide +kernel) ⟨by decide, by decide⟩) hP hD hS [5] [0, 1, 2, 3, 4] rfl rfl (by decide +kernel) 0 rfl rfl rfl rfl hl.1 rfl (Nat.le_of_ble_eq_true rfl) dX9_look_158 (by decide) (fun r_ W1 H locs hw hP hD hS => ?_)
  refine W.widen (k := 0) (n := 0) (by decide) (by decide) ?_
  obtain ⟨rfl, rfl⟩ := hw
  have hP : va_P D vwCl [((a 51), .inl (cy 0, 61, .inl (fun _ => 0))), ((a 52), .inl (cy 0, 61, .inl (rc 33))), ((a 5), .inr (1, [.ref (a 40), .int 0, .int 0, .ref (a 46), .ref (a 47)])), ((a 10), .inr (0, [.int 0, .int 1, .int 1, .int 0, .int 0, .ref (a 11), .ref (a 12), .ref (a 13), .null, .null])), ((a 40), .inr (6, [.ref (a 10), .int 0, .ref (a 41), .ref (a 42), .ref (a 43), .ref (a 44), .ref (a 45), .int 0])), ((a 6), .inr (9, [.int 1, .ref (a 51), .ref (a 52), .ref (a 53), .ref (a 54), .ref (a 55)]))] H := hP
  have hD := va_ca hP hD
  refine lv_aload_n hx hb dX9_look_161 rfl (lv_at hl 2 rfl) ?_
  refine va_get (ci := 9) (v := .ref (a 51)) (C := RX9) (T := TX9) (N := 6) hx hb htA in_X9 hown hK hP 5 rfl rfl 1 (by decide) (htA _ wd_43) (fun _ h => h) rfl dX9_look_162 ?_
  refine lv_iload hx hb dX9_look_165 (lv_at hl 0 rfl) ?_
  refine va_iald hx hb hK hP 0 0 rfl rfl (in_lit (by decide)) dX9_look_167 ?_
  refine lv_topi (fun x166 ex166 => ?_)
  obtain rfl : x166 = 0 := ex166
  refine lv_iconst (v := (-1)) hx hb dX9_look_168 (by decide) ?_
  refine lv_ixor hx hb dX9_look_169 ?_
  refine lv_topi (fun x167 ex167 => ?_)
  obtain rfl : x167 = (-1) := ex167.trans (by decide)
  refine lv_iand hx hb dX9_look_170 ?_
  refine lv_topi (fun x168 ex168 => ?_)
  obtain rfl : x168 = 1 := ex168.trans (by decide)
  refine va_iast hx hb hK hP hD hS 1 0 rfl rfl (in_lit (by decide)) dX9_look_171 (fun H locs hP hD hS => ?_)
  rw [rc_s 33 33 (by decide)] at hP hD
  have hP : va_P D vwCl [((a 51), .inl (cy 0, 61, .inl (fun _ => 0))), ((a 52), .inl (cy 0, 61, .inl (rc 34))), ((a 5), .inr (1, [.ref (a 40), .int 0, .int 0, .ref (a 46), .ref (a 47)])), ((a 10), .inr (0, [.int 0, .int 1, .int 1, .int 0, .int 0, .ref (a 11), .ref (a 12), .ref (a 13), .null, .null])), ((a 40), .inr (6, [.ref (a 10), .int 0, .ref (a 41), .ref (a 42), .ref (a 43), .ref (a 44), .ref (a 45), .int 0])), ((a 6), .inr (9, [.int 1, .ref (a 51), .ref (a 52), .ref (a 53), .ref (a 54), .ref (a 55)]))] H := hP
  have hD := va_ca hP hD
  refine lv_iinc (v := 34) (lv' := [(4, .int 34), (3, .int 1), (0, .ref (a 6)), (1, .ref (a 5)), (2, .int 0)]) hx hb dX9_look_172 hl (k := 0) rfl (by decide) (by decide) rfl (fun ls hl => ?_)
  refine lv_goto (tgt := 135) hx hb dX9_look_175 (by decide) ?_
  refine lv_iload hx hb dX9_look_135 (lv_at hl 0 rfl) ?_
  refine lv_bipush (v := 60) hx hb dX9_look_137 (by decide) ?_
  refine lv_icmp_gt (tgt := 178) hx hb dX9_look_139 (by decide) (fun q => absurd q (by decide)) (fun _ => ?_)
  refine lv_aload_n hx hb dX9_look_142 rfl (lv_at hl 2 rfl) ?_
  refine va_get (ci := 9) (v := .ref (a 52)) (C := RX9) (T := TX9) (N := 6) hx hb htA in_X9 hown hK hP 5 rfl rfl 2 (by decide) (htA _ wd_44) (fun _ h => h) rfl dX9_look_143 ?_
  refine lv_iload hx hb dX9_look_146 (lv_at hl 0 rfl) ?_
  refine lv_aload_n hx hb dX9_look_148 rfl (lv_at hl 2 rfl) ?_
  refine lv_aload_n hx hb dX9_look_149 rfl (lv_at hl 2 rfl) ?_
  refine va_get (ci := 9) (v := .ref (a 52)) (C := RX9) (T := TX9) (N := 6) hx hb htA in_X9 hown hK hP 5 rfl rfl 2 (by decide) (htA _ wd_44) (fun _ h => h) rfl dX9_look_150 ?_
  refine lv_iload hx hb dX9_look_153 (lv_at hl 0 rfl) ?_
  refine lv_iconst (v := 1) hx hb dX9_look_155 (by decide) ?_
  refine lv_isub hx hb dX9_look_156 ?_
  refine lv_topi (fun x169 ex169 => ?_)
  obtain rfl : x169 = 33 := ex169.trans (by decide)
  refine va_iald hx hb hK hP 1 0 rfl rfl (in_lit (by decide)) dX9_look_157 ?_
  refine lv_topi (fun x170 ex170 => ?_)
  obtain rfl : x170 = 1 := ex170.trans (by decide)
  refine kVi (As := [.int 1]) (rest := [.int 34, .ref (a 52)]) (wr := [((a 51), .inl (cy 0, 61, .inl (fun _ => 0))), ((a 52), .inl (cy 0, 61, .inl (rc 34))), ((a 5), .inr (1, [.ref (a 40), .int 0, .int 0, .ref (a 46), .ref (a 47)])), ((a 10), .inr (0, [.int 0, .int 1, .int 1, .int 0, .int 0, .ref (a 11), .ref (a 12), .ref (a 13), .null, .null])), ((a 40), .inr (6, [.ref (a 10), .int 0, .ref (a 41), .ref (a 42), .ref (a 43), .ref (a 44), .ref (a 45), .int 0]))]) hX hE (au_X9_near_58 l D cy a) (cwVA 1 htA wd_1188 wd_1185 wd_2 wd_1187 wp_37 (by decide +kernel) ⟨by decide, by decide⟩) hP hD hS [5] [0, 1, 2, 3, 4] rfl rfl (by decide +kernel) 0 rfl rfl rfl rfl hl.1 rfl (Nat.le_of_ble_eq_true rfl) dX9_look_158 (by decide) (fun r_ W1 H locs hw hP hD hS => ?_)
  refine W.widen (k := 0) (n := 0) (by decide) (by decide) ?_
  obtain ⟨rfl, rfl⟩ := hw
  have hP : va_P D vwCl [((a 51), .inl (cy 0, 61, .inl (fun _ => 0))), ((a 52), .inl (cy 0, 61, .inl (rc 34))), ((a 5), .inr (1, [.ref (a 40), .int 0, .int 0, .ref (a 46), .ref (a 47)])), ((a 10), .inr (0, [.int 0, .int 1, .int 1, .int 0, .int 0, .ref (a 11), .ref (a 12), .ref (a 13), .null, .null])), ((a 40), .inr (6, [.ref (a 10), .int 0, .ref (a 41), .ref (a 42), .ref (a 43), .ref (a 44), .ref (a 45), .int 0])), ((a 6), .inr (9, [.int 1, .ref (a 51), .ref (a 52), .ref (a 53), .ref (a 54), .ref (a 55)]))] H := hP
  have hD := va_ca hP hD
  refine lv_aload_n hx hb dX9_look_161 rfl (lv_at hl 2 rfl) ?_
  refine va_get (ci := 9) (v := .ref (a 51)) (C := RX9) (T := TX9) (N := 6) hx hb htA in_X9 hown hK hP 5 rfl rfl 1 (by decide) (htA _ wd_43) (fun _ h => h) rfl dX9_look_162 ?_
  refine lv_iload hx hb dX9_look_165 (lv_at hl 0 rfl) ?_
  refine va_iald hx hb hK hP 0 0 rfl rfl (in_lit (by decide)) dX9_look_167 ?_
  refine lv_topi (fun x171 ex171 => ?_)
  obtain rfl : x171 = 0 := ex171
  refine lv_iconst (v := (-1)) hx hb dX9_look_168 (by decide) ?_
  refine lv_ixor hx hb dX9_look_169 ?_
  refine lv_topi (fun x172 ex172 => ?_)
  obtain rfl : x172 = (-1) := ex172.trans (by decide)
  refine lv_iand hx hb dX9_look_170 ?_
  refine lv_topi (fun x173 ex173 => ?_)
  obtain rfl : x173 = 1 := ex173.trans (by decide)
  refine va_iast hx hb hK hP hD hS 1 0 rfl rfl (in_lit (by decide)) dX9_look_171 (fun H locs hP hD hS => ?_)
  rw [rc_s 34 34 (by decide)] at hP hD
  have hP : va_P D vwCl [((a 51), .inl (cy 0, 61, .inl (fun _ => 0))), ((a 52), .inl (cy 0, 61, .inl (rc 35))), ((a 5), .inr (1, [.ref (a 40), .int 0, .int 0, .ref (a 46), .ref (a 47)])), ((a 10), .inr (0, [.int 0, .int 1, .int 1, .int 0, .int 0, .ref (a 11), .ref (a 12), .ref (a 13), .null, .null])), ((a 40), .inr (6, [.ref (a 10), .int 0, .ref (a 41), .ref (a 42), .ref (a 43), .ref (a 44), .ref (a 45), .int 0])), ((a 6), .inr (9, [.int 1, .ref (a 51), .ref (a 52), .ref (a 53), .ref (a 54), .ref (a 55)]))] H := hP
  have hD := va_ca hP hD
  refine lv_iinc (v := 35) (lv' := [(4, .int 35), (3, .int 1), (0, .ref (a 6)), (1, .ref (a 5)), (2, .int 0)]) hx hb dX9_look_172 hl (k := 0) rfl (by decide) (by decide) rfl (fun ls hl => ?_)
  refine lv_goto (tgt := 135) hx hb dX9_look_175 (by decide) ?_
  refine lv_iload hx hb dX9_look_135 (lv_at hl 0 rfl) ?_
  refine lv_bipush (v := 60) hx hb dX9_look_137 (by decide) ?_
  refine lv_icmp_gt (tgt := 178) hx hb dX9_look_139 (by decide) (fun q => absurd q (by decide)) (fun _ => ?_)
  refine lv_aload_n hx hb dX9_look_142 rfl (lv_at hl 2 rfl) ?_
  refine va_get (ci := 9) (v := .ref (a 52)) (C := RX9) (T := TX9) (N := 6) hx hb htA in_X9 hown hK hP 5 rfl rfl 2 (by decide) (htA _ wd_44) (fun _ h => h) rfl dX9_look_143 ?_
  refine lv_iload hx hb dX9_look_146 (lv_at hl 0 rfl) ?_
  refine lv_aload_n hx hb dX9_look_148 rfl (lv_at hl 2 rfl) ?_
  refine lv_aload_n hx hb dX9_look_149 rfl (lv_at hl 2 rfl) ?_
  refine va_get (ci := 9) (v := .ref (a 52)) (C := RX9) (T := TX9) (N := 6) hx hb htA in_X9 hown hK hP 5 rfl rfl 2 (by decide) (htA _ wd_44) (fun _ h => h) rfl dX9_look_150 ?_
  refine lv_iload hx hb dX9_look_153 (lv_at hl 0 rfl) ?_
  refine lv_iconst (v := 1) hx hb dX9_look_155 (by decide) ?_
  refine lv_isub hx hb dX9_look_156 ?_
  refine lv_topi (fun x174 ex174 => ?_)
  obtain rfl : x174 = 34 := ex174.trans (by decide)
  refine va_iald hx hb hK hP 1 0 rfl rfl (in_lit (by decide)) dX9_look_157 ?_
  refine lv_topi (fun x175 ex175 => ?_)
  obtain rfl : x175 = 1 := ex175.trans (by decide)
  refine kVi (As := [.int 1]) (rest := [.int 35, .ref (a 52)]) (wr := [((a 51), .inl (cy 0, 61, .inl (fun _ => 0))), ((a 52), .inl (cy 0, 61, .inl (rc 35))), ((a 5), .inr (1, [.ref (a 40), .int 0, .int 0, .ref (a 46), .ref (a 47)])), ((a 10), .inr (0, [.int 0, .int 1, .int 1, .int 0, .int 0, .ref (a 11), .ref (a 12), .ref (a 13), .null, .null])), ((a 40), .inr (6, [.ref (a 10), .int 0, .ref (a 41), .ref (a 42), .ref (a 43), .ref (a 44), .ref (a 45), .int 0]))]) hX hE (au_X9_near_58 l D cy a) (cwVA 1 htA wd_1188 wd_1185 wd_2 wd_1187 wp_37 (by decide +kernel) ⟨by decide, by decide⟩) hP hD hS [5] [0, 1, 2, 3, 4] rfl rfl (by decide +kernel) 0 rfl rfl rfl rfl hl.1 rfl (Nat.le_of_ble_eq_true rfl) dX9_look_158 (by decide) (fun r_ W1 H locs hw hP hD hS => ?_)
  refine W.widen (k := 0) (n := 0) (by decide) (by decide) ?_
  obtain ⟨rfl, rfl⟩ := hw
  have hP : va_P D vwCl [((a 51), .inl (cy 0, 61, .inl (fun _ => 0))), ((a 52), .inl (cy 0, 61, .inl (rc 35))), ((a 5), .inr (1, [.ref (a 40), .int 0, .int 0, .ref (a 46), .ref (a 47)])), ((a 10), .inr (0, [.int 0, .int 1, .int 1, .int 0, .int 0, .ref (a 11), .ref (a 12), .ref (a 13), .null, .null])), ((a 40), .inr (6, [.ref (a 10), .int 0, .ref (a 41), .ref (a 42), .ref (a 43), .ref (a 44), .ref (a 45), .int 0])), ((a 6), .inr (9, [.int 1, .ref (a 51), .ref (a 52), .ref (a 53), .ref (a 54), .ref (a 55)]))] H := hP
  have hD := va_ca hP hD
  refine lv_aload_n hx hb dX9_look_161 rfl (lv_at hl 2 rfl) ?_
  refine va_get (ci := 9) (v := .ref (a 51)) (C := RX9) (T := TX9) (N := 6) hx hb htA in_X9 hown hK hP 5 rfl rfl 1 (by decide) (htA _ wd_43) (fun _ h => h) rfl dX9_look_162 ?_
  refine lv_iload hx hb dX9_look_165 (lv_at hl 0 rfl) ?_
  refine va_iald hx hb hK hP 0 0 rfl rfl (in_lit (by decide)) dX9_look_167 ?_
  refine lv_topi (fun x176 ex176 => ?_)
  obtain rfl : x176 = 0 := ex176
  refine lv_iconst (v := (-1)) hx hb dX9_look_168 (by decide) ?_
  refine lv_ixor hx hb dX9_look_169 ?_
  refine lv_topi (fun x177 ex177 => ?_)
  obtain rfl : x177 = (-1) := ex177.trans (by decide)
  refine lv_iand hx hb dX9_look_170 ?_
  refine lv_topi (fun x178 ex178 => ?_)
  obtain rfl : x178 = 1 := ex178.trans (by decide)
  refine va_iast hx hb hK hP hD hS 1 0 rfl rfl (in_lit (by decide)) dX9_look_171 (fun H locs hP hD hS => ?_)
  rw [rc_s 35 35 (by decide)] at hP hD
  have hP : va_P D vwCl [((a 51), .inl (cy 0, 61, .inl (fun _ => 0))), ((a 52), .inl (cy 0, 61, .inl (rc 36))), ((a 5), .inr (1, [.ref (a 40), .int 0, .int 0, .ref (a 46), .ref (a 47)])), ((a 10), .inr (0, [.int 0, .int 1, .int 1, .int 0, .int 0, .ref (a 11), .ref (a 12), .ref (a 13), .null, .null])), ((a 40), .inr (6, [.ref (a 10), .int 0, .ref (a 41), .ref (a 42), .ref (a 43), .ref (a 44), .ref (a 45), .int 0])), ((a 6), .inr (9, [.int 1, .ref (a 51), .ref (a 52), .ref (a 53), .ref (a 54), .ref (a 55)]))] H := hP
  have hD := va_ca hP hD
  refine lv_iinc (v := 36) (lv' := [(4, .int 36), (3, .int 1), (0, .ref (a 6)), (1, .ref (a 5)), (2, .int 0)]) hx hb dX9_look_172 hl (k := 0) rfl (by decide) (by decide) rfl (fun ls hl => ?_)
  refine lv_goto (tgt := 135) hx hb dX9_look_175 (by decide) ?_
  refine lv_iload hx hb dX9_look_135 (lv_at hl 0 rfl) ?_
  refine lv_bipush (v := 60) hx hb dX9_look_137 (by decide) ?_
  refine lv_icmp_gt (tgt := 178) hx hb dX9_look_139 (by decide) (fun q => absurd q (by decide)) (fun _ => ?_)
  refine lv_aload_n hx hb dX9_look_142 rfl (lv_at hl 2 rfl) ?_
  refine va_get (ci := 9) (v := .ref (a 52)) (C := RX9) (T := TX9) (N := 6) hx hb htA in_X9 hown hK hP 5 rfl rfl 2 (by decide) (htA _ wd_44) (fun _ h => h) rfl dX9_look_143 ?_
  refine lv_iload hx hb dX9_look_146 (lv_at hl 0 rfl) ?_
  refine lv_aload_n hx hb dX9_look_148 rfl (lv_at hl 2 rfl) ?_
  refine lv_aload_n hx hb dX9_look_149 rfl (lv_at hl 2 rfl) ?_
  refine va_get (ci := 9) (v := .ref (a 52)) (C := RX9) (T := TX9) (N := 6) hx hb htA in_X9 hown hK hP 5 rfl rfl 2 (by decide) (htA _ wd_44) (fun _ h => h) rfl dX9_look_150 ?_
  refine lv_iload hx hb dX9_look_153 (lv_at hl 0 rfl) ?_
  refine lv_iconst (v := 1) hx hb dX9_look_155 (by decide) ?_
  refine lv_isub hx hb dX9_look_156 ?_
  refine lv_topi (fun x179 ex179 => ?_)
  obtain rfl : x179 = 35 := ex179.trans (by decide)
  refine va_iald hx hb hK hP 1 0 rfl rfl (in_lit (by decide)) dX9_look_157 ?_
  refine lv_topi (fun x180 ex180 => ?_)
  obtain rfl : x180 = 1 := ex180.trans (by decide)
  refine kVi (As := [.int 1]) (rest := [.int 36, .ref (a 52)]) (wr := [((a 51), .inl (cy 0, 61, .inl (fun _ => 0))), ((a 52), .inl (cy 0, 61, .inl (rc 36))), ((a 5), .inr (1, [.ref (a 40), .int 0, .int 0, .ref (a 46), .ref (a 47)])), ((a 10), .inr (0, [.int 0, .int 1, .int 1, .int 0, .int 0, .ref (a 11), .ref (a 12), .ref (a 13), .null, .null])), ((a 40), .inr (6, [.ref (a 10), .int 0, .ref (a 41), .ref (a 42), .ref (a 43), .ref (a 44), .ref (a 45), .int 0]))]) hX hE (au_X9_near_58 l D cy a) (cwVA 1 htA wd_1188 wd_1185 wd_2 wd_1187 wp_37 (by decide +kernel) ⟨by decide, by decide⟩) hP hD hS [5] [0, 1, 2, 3, 4] rfl rfl (by decide +kernel) 0 rfl rfl rfl rfl hl.1 rfl (Nat.le_of_ble_eq_true rfl) dX9_look_158 (by decide) (fun r_ W1 H locs hw hP hD hS => ?_)
  refine W.widen (k := 0) (n := 0) (by decide) (by decide) ?_
  obtain ⟨rfl, rfl⟩ := hw
  have hP : va_P D vwCl [((a 51), .inl (cy 0, 61, .inl (fun _ => 0))), ((a 52), .inl (cy 0, 61, .inl (rc 36))), ((a 5), .inr (1, [.ref (a 40), .int 0, .int 0, .ref (a 46), .ref (a 47)])), ((a 10), .inr (0, [.int 0, .int 1, .int 1, .int 0, .int 0, .ref (a 11), .ref (a 12), .ref (a 13), .null, .null])), ((a 40), .inr (6, [.ref (a 10), .int 0, .ref (a 41), .ref (a 42), .ref (a 43), .ref (a 44), .ref (a 45), .int 0])), ((a 6), .inr (9, [.int 1, .ref (a 51), .ref (a 52), .ref (a 53), .ref (a 54), .ref (a 55)]))] H := hP
  have hD := va_ca hP hD
  refine lv_aload_n hx hb dX9_look_161 rfl (lv_at hl 2 rfl) ?_
  refine va_get (ci := 9) (v := .ref (a 51)) (C := RX9) (T := TX9) (N := 6) hx hb htA in_X9 hown hK hP 5 rfl rfl 1 (by decide) (htA _ wd_43) (fun _ h => h) rfl dX9_look_162 ?_
  refine lv_iload hx hb dX9_look_165 (lv_at hl 0 rfl) ?_
  refine va_iald hx hb hK hP 0 0 rfl rfl (in_lit (by decide)) dX9_look_167 ?_
  refine lv_topi (fun x181 ex181 => ?_)
  obtain rfl : x181 = 0 := ex181
  refine lv_iconst (v := (-1)) hx hb dX9_look_168 (by decide) ?_
  refine lv_ixor hx hb dX9_look_169 ?_
  refine lv_topi (fun x182 ex182 => ?_)
  obtain rfl : x182 = (-1) := ex182.trans (by decide)
  refine lv_iand hx hb dX9_look_170 ?_
  refine lv_topi (fun x183 ex183 => ?_)
  obtain rfl : x183 = 1 := ex183.trans (by decide)
  refine va_iast hx hb hK hP hD hS 1 0 rfl rfl (in_lit (by decide)) dX9_look_171 (fun H locs hP hD hS => ?_)
  rw [rc_s 36 36 (by decide)] at hP hD
  have hP : va_P D vwCl [((a 51), .inl (cy 0, 61, .inl (fun _ => 0))), ((a 52), .inl (cy 0, 61, .inl (rc 37))), ((a 5), .inr (1, [.ref (a 40), .int 0, .int 0, .ref (a 46), .ref (a 47)])), ((a 10), .inr (0, [.int 0, .int 1, .int 1, .int 0, .int 0, .ref (a 11), .ref (a 12), .ref (a 13), .null, .null])), ((a 40), .inr (6, [.ref (a 10), .int 0, .ref (a 41), .ref (a 42), .ref (a 43), .ref (a 44), .ref (a 45), .int 0])), ((a 6), .inr (9, [.int 1, .ref (a 51), .ref (a 52), .ref (a 53), .ref (a 54), .ref (a 55)]))] H := hP
  have hD := va_ca hP hD
  refine lv_iinc (v := 37) (lv' := [(4, .int 37), (3, .int 1), (0, .ref (a 6)), (1, .ref (a 5)), (2, .int 0)]) hx hb dX9_look_172 hl (k := 0) rfl (by decide) (by decide) rfl (fun ls hl => ?_)
  refine lv_goto (tgt := 135) hx hb dX9_look_175 (by decide) ?_
  refine lv_iload hx hb dX9_look_135 (lv_at hl 0 rfl) ?_
  refine lv_bipush (v := 60) hx hb dX9_look_137 (by decide) ?_
  refine lv_icmp_gt (tgt := 178) hx hb dX9_look_139 (by decide) (fun q => absurd q (by decide)) (fun _ => ?_)
  refine lv_aload_n hx hb dX9_look_142 rfl (lv_at hl 2 rfl) ?_
  refine va_get (ci := 9) (v := .ref (a 52)) (C := RX9) (T := TX9) (N := 6) hx hb htA in_X9 hown hK hP 5 rfl rfl 2 (by decide) (htA _ wd_44) (fun _ h => h) rfl dX9_look_143 ?_
  refine lv_iload hx hb dX9_look_146 (lv_at hl 0 rfl) ?_
  refine lv_aload_n hx hb dX9_look_148 rfl (lv_at hl 2 rfl) ?_
  refine lv_aload_n hx hb dX9_look_149 rfl (lv_at hl 2 rfl) ?_
  refine va_get (ci := 9) (v := .ref (a 52)) (C := RX9) (T := TX9) (N := 6) hx hb htA in_X9 hown hK hP 5 rfl rfl 2 (by decide) (htA _ wd_44) (fun _ h => h) rfl dX9_look_150 ?_
  refine lv_iload hx hb dX9_look_153 (lv_at hl 0 rfl) ?_
  refine lv_iconst (v := 1) hx hb dX9_look_155 (by decide) ?_
  refine lv_isub hx hb dX9_look_156 ?_
  refine lv_topi (fun x184 ex184 => ?_)
  obtain rfl : x184 = 36 := ex184.trans (by decide)
  refine va_iald hx hb hK hP 1 0 rfl rfl (in_lit (by decide)) dX9_look_157 ?_
  refine lv_topi (fun x185 ex185 => ?_)
  obtain rfl : x185 = 1 := ex185.trans (by decide)
  refine kVi (As := [.int 1]) (rest := [.int 37, .ref (a 52)]) (wr := [((a 51), .inl (cy 0, 61, .inl (fun _ => 0))), ((a 52), .inl (cy 0, 61, .inl (rc 37))), ((a 5), .inr (1, [.ref (a 40), .int 0, .int 0, .ref (a 46), .ref (a 47)])), ((a 10), .inr (0, [.int 0, .int 1, .int 1, .int 0, .int 0, .ref (a 11), .ref (a 12), .ref (a 13), .null, .null])), ((a 40), .inr (6, [.ref (a 10), .int 0, .ref (a 41), .ref (a 42), .ref (a 43), .ref (a 44), .ref (a 45), .int 0]))]) hX hE (au_X9_near_58 l D cy a) (cwVA 1 htA wd_1188 wd_1185 wd_2 wd_1187 wp_37 (by decide +kernel) ⟨by decide, by decide⟩) hP hD hS [5] [0, 1, 2, 3, 4] rfl rfl (by decide +kernel) 0 rfl rfl rfl rfl hl.1 rfl (Nat.le_of_ble_eq_true rfl) dX9_look_158 (by decide) (fun r_ W1 H locs hw hP hD hS => ?_)
  refine W.widen (k := 0) (n := 0) (by decide) (by decide) ?_
  obtain ⟨rfl, rfl⟩ := hw
  have hP : va_P D vwCl [((a 51), .inl (cy 0, 61, .inl (fun _ => 0))), ((a 52), .inl (cy 0, 61, .inl (rc 37))), ((a 5), .inr (1, [.ref (a 40), .int 0, .int 0, .ref (a 46), .ref (a 47)])), ((a 10), .inr (0, [.int 0, .int 1, .int 1, .int 0, .int 0, .ref (a 11), .ref (a 12), .ref (a 13), .null, .null])), ((a 40), .inr (6, [.ref (a 10), .int 0, .ref (a 41), .ref (a 42), .ref (a 43), .ref (a 44), .ref (a 45), .int 0])), ((a 6), .inr (9, [.int 1, .ref (a 51), .ref (a 52), .ref (a 53), .ref (a 54), .ref (a 55)]))] H := hP
  have hD := va_ca hP hD
  refine lv_aload_n hx hb dX9_look_161 rfl (lv_at hl 2 rfl) ?_
  refine va_get (ci := 9) (v := .ref (a 51)) (C := RX9) (T := TX9) (N := 6) hx hb htA in_X9 hown hK hP 5 rfl rfl 1 (by decide) (htA _ wd_43) (fun _ h => h) rfl dX9_look_162 ?_
  refine lv_iload hx hb dX9_look_165 (lv_at hl 0 rfl) ?_
  refine va_iald hx hb hK hP 0 0 rfl rfl (in_lit (by decide)) dX9_look_167 ?_
  refine lv_topi (fun x186 ex186 => ?_)
  obtain rfl : x186 = 0 := ex186
  refine lv_iconst (v := (-1)) hx hb dX9_look_168 (by decide) ?_
  refine lv_ixor hx hb dX9_look_169 ?_
  refine lv_topi (fun x187 ex187 => ?_)
  obtain rfl : x187 = (-1) := ex187.trans (by decide)
  refine lv_iand hx hb dX9_look_170 ?_
  refine lv_topi (fun x188 ex188 => ?_)
  obtain rfl : x188 = 1 := ex188.trans (by decide)
  refine va_iast hx hb hK hP hD hS 1 0 rfl rfl (in_lit (by decide)) dX9_look_171 (fun H locs hP hD hS => ?_)
  rw [rc_s 37 37 (by decide)] at hP hD
  have hP : va_P D vwCl [((a 51), .inl (cy 0, 61, .inl (fun _ => 0))), ((a 52), .inl (cy 0, 61, .inl (rc 38))), ((a 5), .inr (1, [.ref (a 40), .int 0, .int 0, .ref (a 46), .ref (a 47)])), ((a 10), .inr (0, [.int 0, .int 1, .int 1, .int 0, .int 0, .ref (a 11), .ref (a 12), .ref (a 13), .null, .null])), ((a 40), .inr (6, [.ref (a 10), .int 0, .ref (a 41), .ref (a 42), .ref (a 43), .ref (a 44), .ref (a 45), .int 0])), ((a 6), .inr (9, [.int 1, .ref (a 51), .ref (a 52), .ref (a 53), .ref (a 54), .ref (a 55)]))] H := hP
  have hD := va_ca hP hD
  refine lv_iinc (v := 38) (lv' := [(4, .int 38), (3, .int 1), (0, .ref (a 6)), (1, .ref (a 5)), (2, .int 0)]) hx hb dX9_look_172 hl (k := 0) rfl (by decide) (by decide) rfl (fun ls hl => ?_)
  refine lv_goto (tgt := 135) hx hb dX9_look_175 (by decide) ?_
  refine lv_iload hx hb dX9_look_135 (lv_at hl 0 rfl) ?_
  refine lv_bipush (v := 60) hx hb dX9_look_137 (by decide) ?_
  refine lv_icmp_gt (tgt := 178) hx hb dX9_look_139 (by decide) (fun q => absurd q (by decide)) (fun _ => ?_)
  refine lv_aload_n hx hb dX9_look_142 rfl (lv_at hl 2 rfl) ?_
  refine va_get (ci := 9) (v := .ref (a 52)) (C := RX9) (T := TX9) (N := 6) hx hb htA in_X9 hown hK hP 5 rfl rfl 2 (by decide) (htA _ wd_44) (fun _ h => h) rfl dX9_look_143 ?_
  refine lv_iload hx hb dX9_look_146 (lv_at hl 0 rfl) ?_
  refine lv_aload_n hx hb dX9_look_148 rfl (lv_at hl 2 rfl) ?_
  refine lv_aload_n hx hb dX9_look_149 rfl (lv_at hl 2 rfl) ?_
  refine va_get (ci := 9) (v := .ref (a 52)) (C := RX9) (T := TX9) (N := 6) hx hb htA in_X9 hown hK hP 5 rfl rfl 2 (by decide) (htA _ wd_44) (fun _ h => h) rfl dX9_look_150 ?_
  refine lv_iload hx hb dX9_look_153 (lv_at hl 0 rfl) ?_
  refine lv_iconst (v := 1) hx hb dX9_look_155 (by decide) ?_
  refine lv_isub hx hb dX9_look_156 ?_
  refine lv_topi (fun x189 ex189 => ?_)
  obtain rfl : x189 = 37 := ex189.trans (by decide)
  refine va_iald hx hb hK hP 1 0 rfl rfl (in_lit (by decide)) dX9_look_157 ?_
  refine lv_topi (fun x190 ex190 => ?_)
  obtain rfl : x190 = 1 := ex190.trans (by decide)
  refine kVi (As := [.int 1]) (rest := [.int 38, .ref (a 52)]) (wr := [((a 51), .inl (cy 0, 61, .inl (fun _ => 0))), ((a 52), .inl (cy 0, 61, .inl (rc 38))), ((a 5), .inr (1, [.ref (a 40), .int 0, .int 0, .ref (a 46), .ref (a 47)])), ((a 10), .inr (0, [.int 0, .int 1, .int 1, .int 0, .int 0, .ref (a 11), .ref (a 12), .ref (a 13), .null, .null])), ((a 40), .inr (6, [.ref (a 10), .int 0, .ref (a 41), .ref (a 42), .ref (a 43), .ref (a 44), .ref (a 45), .int 0]))]) hX hE (au_X9_near_58 l D cy a) (cwVA 1 htA wd_1188 wd_1185 wd_2 wd_1187 wp_37 (by decide +kernel) ⟨by decide, by decide⟩) hP hD hS [5] [0, 1, 2, 3, 4] rfl rfl (by decide +kernel) 0 rfl rfl rfl rfl hl.1 rfl (Nat.le_of_ble_eq_true rfl) dX9_look_158 (by decide) (fun r_ W1 H locs hw hP hD hS => ?_)
  refine W.widen (k := 0) (n := 0) (by decide) (by decide) ?_
  obtain ⟨rfl, rfl⟩ := hw
  have hP : va_P D vwCl [((a 51), .inl (cy 0, 61, .inl (fun _ => 0))), ((a 52), .inl (cy 0, 61, .inl (rc 38))), ((a 5), .inr (1, [.ref (a 40), .int 0, .int 0, .ref (a 46), .ref (a 47)])), ((a 10), .inr (0, [.int 0, .int 1, .int 1, .int 0, .int 0, .ref (a 11), .ref (a 12), .ref (a 13), .null, .null])), ((a 40), .inr (6, [.ref (a 10), .int 0, .ref (a 41), .ref (a 42), .ref (a 43), .ref (a 44), .ref (a 45), .int 0])), ((a 6), .inr (9, [.int 1, .ref (a 51), .ref (a 52), .ref (a 53), .ref (a 54), .ref (a 55)]))] H := hP
  have hD := va_ca hP hD
  refine lv_aload_n hx hb dX9_look_161 rfl (lv_at hl 2 rfl) ?_
  refine va_get (ci := 9) (v := .ref (a 51)) (C := RX9) (T := TX9) (N := 6) hx hb htA in_X9 hown hK hP 5 rfl rfl 1 (by decide) (htA _ wd_43) (fun _ h => h) rfl dX9_look_162 ?_
  refine lv_iload hx hb dX9_look_165 (lv_at hl 0 rfl) ?_
  refine va_iald hx hb hK hP 0 0 rfl rfl (in_lit (by decide)) dX9_look_167 ?_
  refine lv_topi (fun x191 ex191 => ?_)
  obtain rfl : x191 = 0 := ex191
  refine lv_iconst (v := (-1)) hx hb dX9_look_168 (by decide) ?_
  refine lv_ixor hx hb dX9_look_169 ?_
  refine lv_topi (fun x192 ex192 => ?_)
  obtain rfl : x192 = (-1) := ex192.trans (by decide)
  refine lv_iand hx hb dX9_look_170 ?_
  refine lv_topi (fun x193 ex193 => ?_)
  obtain rfl : x193 = 1 := ex193.trans (by decide)
  refine va_iast hx hb hK hP hD hS 1 0 rfl rfl (in_lit (by decide)) dX9_look_171 (fun H locs hP hD hS => ?_)
  rw [rc_s 38 38 (by decide)] at hP hD
  have hP : va_P D vwCl [((a 51), .inl (cy 0, 61, .inl (fun _ => 0))), ((a 52), .inl (cy 0, 61, .inl (rc 39))), ((a 5), .inr (1, [.ref (a 40), .int 0, .int 0, .ref (a 46), .ref (a 47)])), ((a 10), .inr (0, [.int 0, .int 1, .int 1, .int 0, .int 0, .ref (a 11), .ref (a 12), .ref (a 13), .null, .null])), ((a 40), .inr (6, [.ref (a 10), .int 0, .ref (a 41), .ref (a 42), .ref (a 43), .ref (a 44), .ref (a 45), .int 0])), ((a 6), .inr (9, [.int 1, .ref (a 51), .ref (a 52), .ref (a 53), .ref (a 54), .ref (a 55)]))] H := hP
  have hD := va_ca hP hD
  refine lv_iinc (v := 39) (lv' := [(4, .int 39), (3, .int 1), (0, .ref (a 6)), (1, .ref (a 5)), (2, .int 0)]) hx hb dX9_look_172 hl (k := 0) rfl (by decide) (by decide) rfl (fun ls hl => ?_)
  refine lv_goto (tgt := 135) hx hb dX9_look_175 (by decide) ?_
  refine lv_iload hx hb dX9_look_135 (lv_at hl 0 rfl) ?_
  refine lv_bipush (v := 60) hx hb dX9_look_137 (by decide) ?_
  refine lv_icmp_gt (tgt := 178) hx hb dX9_look_139 (by decide) (fun q => absurd q (by decide)) (fun _ => ?_)
  refine lv_aload_n hx hb dX9_look_142 rfl (lv_at hl 2 rfl) ?_
  refine va_get (ci := 9) (v := .ref (a 52)) (C := RX9) (T := TX9) (N := 6) hx hb htA in_X9 hown hK hP 5 rfl rfl 2 (by decide) (htA _ wd_44) (fun _ h => h) rfl dX9_look_143 ?_
  refine lv_iload hx hb dX9_look_146 (lv_at hl 0 rfl) ?_
  refine lv_aload_n hx hb dX9_look_148 rfl (lv_at hl 2 rfl) ?_
  refine lv_aload_n hx hb dX9_look_149 rfl (lv_at hl 2 rfl) ?_
  refine va_get (ci := 9) (v := .ref (a 52)) (C := RX9) (T := TX9) (N := 6) hx hb htA in_X9 hown hK hP 5 rfl rfl 2 (by decide) (htA _ wd_44) (fun _ h => h) rfl dX9_look_150 ?_
  refine lv_iload hx hb dX9_look_153 (lv_at hl 0 rfl) ?_
  refine lv_iconst (v := 1) hx hb dX9_look_155 (by decide) ?_
  refine lv_isub hx hb dX9_look_156 ?_
  refine lv_topi (fun x194 ex194 => ?_)
  obtain rfl : x194 = 38 := ex194.trans (by decide)
  refine va_iald hx hb hK hP 1 0 rfl rfl (in_lit (by decide)) dX9_look_157 ?_
  refine lv_topi (fun x195 ex195 => ?_)
  obtain rfl : x195 = 1 := ex195.trans (by decide)
  refine kVi (As := [.int 1]) (rest := [.int 39, .ref (a 52)]) (wr := [((a 51), .inl (cy 0, 61, .inl (fun _ => 0))), ((a 52), .inl (cy 0, 61, .inl (rc 39))), ((a 5), .inr (1, [.ref (a 40), .int 0, .int 0, .ref (a 46), .ref (a 47)])), ((a 10), .inr (0, [.int 0, .int 1, .int 1, .int 0, .int 0, .ref (a 11), .ref (a 12), .ref (a 13), .null, .null])), ((a 40), .inr (6, [.ref (a 10), .int 0, .ref (a 41), .ref (a 42), .ref (a 43), .ref (a 44), .ref (a 45), .int 0]))]) hX hE (au_X9_near_58 l D cy a) (cwVA 1 htA wd_1188 wd_1185 wd_2 wd_1187 wp_37 (by decide +kernel) ⟨by decide, by decide⟩) hP hD hS [5] [0, 1, 2, 3, 4] rfl rfl (by decide +kernel) 0 rfl rfl rfl rfl hl.1 rfl (Nat.le_of_ble_eq_true rfl) dX9_look_158 (by decide) (fun r_ W1 H locs hw hP hD hS => ?_)
  refine W.widen (k := 0) (n := 0) (by decide) (by decide) ?_
  obtain ⟨rfl, rfl⟩ := hw
  have hP : va_P D vwCl [((a 51), .inl (cy 0, 61, .inl (fun _ => 0))), ((a 52), .inl (cy 0, 61, .inl (rc 39))), ((a 5), .inr (1, [.ref (a 40), .int 0, .int 0, .ref (a 46), .ref (a 47)])), ((a 10), .inr (0, [.int 0, .int 1, .int 1, .int 0, .int 0, .ref (a 11), .ref (a 12), .ref (a 13), .null, .null])), ((a 40), .inr (6, [.ref (a 10), .int 0, .ref (a 41), .ref (a 42), .ref (a 43), .ref (a 44), .ref (a 45), .int 0])), ((a 6), .inr (9, [.int 1, .ref (a 51), .ref (a 52), .ref (a 53), .ref (a 54), .ref (a 55)]))] H := hP
  have hD := va_ca hP hD
  refine lv_aload_n hx hb dX9_look_161 rfl (lv_at hl 2 rfl) ?_
  refine va_get (ci := 9) (v := .ref (a 51)) (C := RX9) (T := TX9) (N := 6) hx hb htA in_X9 hown hK hP 5 rfl rfl 1 (by decide) (htA _ wd_43) (fun _ h => h) rfl dX9_look_162 ?_
  refine lv_iload hx hb dX9_look_165 (lv_at hl 0 rfl) ?_
  refine va_iald hx hb hK hP 0 0 rfl rfl (in_lit (by decide)) dX9_look_167 ?_
  refine lv_topi (fun x196 ex196 => ?_)
  obtain rfl : x196 = 0 := ex196
  refine lv_iconst (v := (-1)) hx hb dX9_look_168 (by decide) ?_
  refine lv_ixor hx hb dX9_look_169 ?_
  refine lv_topi (fun x197 ex197 => ?_)
  obtain rfl : x197 = (-1) := ex197.trans (by decide)
  refine lv_iand hx hb dX9_look_170 ?_
  refine lv_topi (fun x198 ex198 => ?_)
  obtain rfl : x198 = 1 := ex198.trans (by decide)
  refine va_iast hx hb hK hP hD hS 1 0 rfl rfl (in_lit (by decide)) dX9_look_171 (fun H locs hP hD hS => ?_)
  rw [rc_s 39 39 (by decide)] at hP hD
  have hP : va_P D vwCl [((a 51), .inl (cy 0, 61, .inl (fun _ => 0))), ((a 52), .inl (cy 0, 61, .inl (rc 40))), ((a 5), .inr (1, [.ref (a 40), .int 0, .int 0, .ref (a 46), .ref (a 47)])), ((a 10), .inr (0, [.int 0, .int 1, .int 1, .int 0, .int 0, .ref (a 11), .ref (a 12), .ref (a 13), .null, .null])), ((a 40), .inr (6, [.ref (a 10), .int 0, .ref (a 41), .ref (a 42), .ref (a 43), .ref (a 44), .ref (a 45), .int 0])), ((a 6), .inr (9, [.int 1, .ref (a 51), .ref (a 52), .ref (a 53), .ref (a 54), .ref (a 55)]))] H := hP
  have hD := va_ca hP hD
  refine lv_iinc (v := 40) (lv' := [(4, .int 40), (3, .int 1), (0, .ref (a 6)), (1, .ref (a 5)), (2, .int 0)]) hx hb dX9_look_172 hl (k := 0) rfl (by decide) (by decide) rfl (fun ls hl => ?_)
  refine lv_goto (tgt := 135) hx hb dX9_look_175 (by decide) ?_
  refine lv_iload hx hb dX9_look_135 (lv_at hl 0 rfl) ?_
  refine lv_bipush (v := 60) hx hb dX9_look_137 (by decide) ?_
  refine lv_icmp_gt (tgt := 178) hx hb dX9_look_139 (by decide) (fun q => absurd q (by decide)) (fun _ => ?_)
  refine lv_aload_n hx hb dX9_look_142 rfl (lv_at hl 2 rfl) ?_
  refine va_get (ci := 9) (v := .ref (a 52)) (C := RX9) (T := TX9) (N := 6) hx hb htA in_X9 hown hK hP 5 rfl rfl 2 (by decide) (htA _ wd_44) (fun _ h => h) rfl dX9_look_143 ?_
  refine lv_iload hx hb dX9_look_146 (lv_at hl 0 rfl) ?_
  refine lv_aload_n hx hb dX9_look_148 rfl (lv_at hl 2 rfl) ?_
  refine lv_aload_n hx hb dX9_look_149 rfl (lv_at hl 2 rfl) ?_
  refine va_get (ci := 9) (v := .ref (a 52)) (C := RX9) (T := TX9) (N := 6) hx hb htA in_X9 hown hK hP 5 rfl rfl 2 (by decide) (htA _ wd_44) (fun _ h => h) rfl dX9_look_150 ?_
  refine lv_iload hx hb dX9_look_153 (lv_at hl 0 rfl) ?_
  refine lv_iconst (v := 1) hx hb dX9_look_155 (by decide) ?_
  refine lv_isub hx hb dX9_look_156 ?_
  refine lv_topi (fun x199 ex199 => ?_)
  obtain rfl : x199 = 39 := ex199.trans (by decide)
  refine va_iald hx hb hK hP 1 0 rfl rfl (in_lit (by decide)) dX9_look_157 ?_
  refine lv_topi (fun x200 ex200 => ?_)
  obtain rfl : x200 = 1 := ex200.trans (by decide)
  refine kVi (As := [.int 1]) (rest := [.int 40, .ref (a 52)]) (wr := [((a 51), .inl (cy 0, 61, .inl (fun _ => 0))), ((a 52), .inl (cy 0, 61, .inl (rc 40))), ((a 5), .inr (1, [.ref (a 40), .int 0, .int 0, .ref (a 46), .ref (a 47)])), ((a 10), .inr (0, [.int 0, .int 1, .int 1, .int 0, .int 0, .ref (a 11), .ref (a 12), .ref (a 13), .null, .null])), ((a 40), .inr (6, [.ref (a 10), .int 0, .ref (a 41), .ref (a 42), .ref (a 43), .ref (a 44), .ref (a 45), .int 0]))]) hX hE (au_X9_near_58 l D cy a) (cwVA 1 htA wd_1188 wd_1185 wd_2 wd_1187 wp_37 (by decide +kernel) ⟨by decide, by decide⟩) hP hD hS [5] [0, 1, 2, 3, 4] rfl rfl (by decide +kernel) 0 rfl rfl rfl rfl hl.1 rfl (Nat.le_of_ble_eq_true rfl) dX9_look_158 (by decide) (fun r_ W1 H locs hw hP hD hS => ?_)
  refine W.widen (k := 0) (n := 0) (by decide) (by decide) ?_
  obtain ⟨rfl, rfl⟩ := hw
  have hP : va_P D vwCl [((a 51), .inl (cy 0, 61, .inl (fun _ => 0))), ((a 52), .inl (cy 0, 61, .inl (rc 40))), ((a 5), .inr (1, [.ref (a 40), .int 0, .int 0, .ref (a 46), .ref (a 47)])), ((a 10), .inr (0, [.int 0, .int 1, .int 1, .int 0, .int 0, .ref (a 11), .ref (a 12), .ref (a 13), .null, .null])), ((a 40), .inr (6, [.ref (a 10), .int 0, .ref (a 41), .ref (a 42), .ref (a 43), .ref (a 44), .ref (a 45), .int 0])), ((a 6), .inr (9, [.int 1, .ref (a 51), .ref (a 52), .ref (a 53), .ref (a 54), .ref (a 55)]))] H := hP
  have hD := va_ca hP hD
  refine lv_aload_n hx hb dX9_look_161 rfl (lv_at hl 2 rfl) ?_
  refine va_get (ci := 9) (v := .ref (a 51)) (C := RX9) (T := TX9) (N := 6) hx hb htA in_X9 hown hK hP 5 rfl rfl 1 (by decide) (htA _ wd_43) (fun _ h => h) rfl dX9_look_162 ?_
  refine lv_iload hx hb dX9_look_165 (lv_at hl 0 rfl) ?_
  refine va_iald hx hb hK hP 0 0 rfl rfl (in_lit (by decide)) dX9_look_167 ?_
  refine lv_topi (fun x201 ex201 => ?_)
  obtain rfl : x201 = 0 := ex201
  refine lv_iconst (v := (-1)) hx hb dX9_look_168 (by decide) ?_
  refine lv_ixor hx hb dX9_look_169 ?_
  refine lv_topi (fun x202 ex202 => ?_)
  obtain rfl : x202 = (-1) := ex202.trans (by decide)
  refine lv_iand hx hb dX9_look_170 ?_
  refine lv_topi (fun x203 ex203 => ?_)
  obtain rfl : x203 = 1 := ex203.trans (by decide)
  refine va_iast hx hb hK hP hD hS 1 0 rfl rfl (in_lit (by decide)) dX9_look_171 (fun H locs hP hD hS => ?_)
  rw [rc_s 40 40 (by decide)] at hP hD
  have hP : va_P D vwCl [((a 51), .inl (cy 0, 61, .inl (fun _ => 0))), ((a 52), .inl (cy 0, 61, .inl (rc 41))), ((a 5), .inr (1, [.ref (a 40), .int 0, .int 0, .ref (a 46), .ref (a 47)])), ((a 10), .inr (0, [.int 0, .int 1, .int 1, .int 0, .int 0, .ref (a 11), .ref (a 12), .ref (a 13), .null, .null])), ((a 40), .inr (6, [.ref (a 10), .int 0, .ref (a 41), .ref (a 42), .ref (a 43), .ref (a 44), .ref (a 45), .int 0])), ((a 6), .inr (9, [.int 1, .ref (a 51), .ref (a 52), .ref (a 53), .ref (a 54), .ref (a 55)]))] H := hP
  have hD := va_ca hP hD
  refine lv_iinc (v := 41) (lv' := [(4, .int 41), (3, .int 1), (0, .ref (a 6)), (1, .ref (a 5)), (2, .int 0)]) hx hb dX9_look_172 hl (k := 0) rfl (by decide) (by decide) rfl (fun ls hl => ?_)
  refine lv_goto (tgt := 135) hx hb dX9_look_175 (by decide) ?_
  refine lv_iload hx hb dX9_look_135 (lv_at hl 0 rfl) ?_
  refine lv_bipush (v := 60) hx hb dX9_look_137 (by decide) ?_
  refine lv_icmp_gt (tgt := 178) hx hb dX9_look_139 (by decide) (fun q => absurd q (by decide)) (fun _ => ?_)
  refine lv_aload_n hx hb dX9_look_142 rfl (lv_at hl 2 rfl) ?_
  refine va_get (ci := 9) (v := .ref (a 52)) (C := RX9) (T := TX9) (N := 6) hx hb htA in_X9 hown hK hP 5 rfl rfl 2 (by decide) (htA _ wd_44) (fun _ h => h) rfl dX9_look_143 ?_
  refine lv_iload hx hb dX9_look_146 (lv_at hl 0 rfl) ?_
  refine lv_aload_n hx hb dX9_look_148 rfl (lv_at hl 2 rfl) ?_
  refine lv_aload_n hx hb dX9_look_149 rfl (lv_at hl 2 rfl) ?_
  refine va_get (ci := 9) (v := .ref (a 52)) (C := RX9) (T := TX9) (N := 6) hx hb htA in_X9 hown hK hP 5 rfl rfl 2 (by decide) (htA _ wd_44) (fun _ h => h) rfl dX9_look_150 ?_
  refine lv_iload hx hb dX9_look_153 (lv_at hl 0 rfl) ?_
  refine lv_iconst (v := 1) hx hb dX9_look_155 (by decide) ?_
  refine lv_isub hx hb dX9_look_156 ?_
  refine lv_topi (fun x204 ex204 => ?_)
  obtain rfl : x204 = 40 := ex204.trans (by decide)
  refine va_iald hx hb hK hP 1 0 rfl rfl (in_lit (by decide)) dX9_look_157 ?_
  refine lv_topi (fun x205 ex205 => ?_)
  obtain rfl : x205 = 1 := ex205.trans (by decide)
  refine kVi (As := [.int 1]) (rest := [.int 41, .ref (a 52)]) (wr := [((a 51), .inl (cy 0, 61, .inl (fun _ => 0))), ((a 52), .inl (cy 0, 61, .inl (rc 41))), ((a 5), .inr (1, [.ref (a 40), .int 0, .int 0, .ref (a 46), .ref (a 47)])), ((a 10), .inr (0, [.int 0, .int 1, .int 1, .int 0, .int 0, .ref (a 11), .ref (a 12), .ref (a 13), .null, .null])), ((a 40), .inr (6, [.ref (a 10), .int 0, .ref (a 41), .ref (a 42), .ref (a 43), .ref (a 44), .ref (a 45), .int 0]))]) hX hE (au_X9_near_58 l D cy a) (cwVA 1 htA wd_1188 wd_1185 wd_2 wd_1187 wp_37 (by decide +kernel) ⟨by decide, by decide⟩) hP hD hS [5] [0, 1, 2, 3, 4] rfl rfl (by decide +kernel) 0 rfl rfl rfl rfl hl.1 rfl (Nat.le_of_ble_eq_true rfl) dX9_look_158 (by decide) (fun r_ W1 H locs hw hP hD hS => ?_)
  refine W.widen (k := 0) (n := 0) (by decide) (by decide) ?_
  obtain ⟨rfl, rfl⟩ := hw
  have hP : va_P D vwCl [((a 51), .inl (cy 0, 61, .inl (fun _ => 0))), ((a 52), .inl (cy 0, 61, .inl (rc 41))), ((a 5), .inr (1, [.ref (a 40), .int 0, .int 0, .ref (a 46), .ref (a 47)])), ((a 10), .inr (0, [.int 0, .int 1, .int 1, .int 0, .int 0, .ref (a 11), .ref (a 12), .ref (a 13), .null, .null])), ((a 40), .inr (6, [.ref (a 10), .int 0, .ref (a 41), .ref (a 42), .ref (a 43), .ref (a 44), .ref (a 45), .int 0])), ((a 6), .inr (9, [.int 1, .ref (a 51), .ref (a 52), .ref (a 53), .ref (a 54), .ref (a 55)]))] H := hP
  have hD := va_ca hP hD
  refine lv_aload_n hx hb dX9_look_161 rfl (lv_at hl 2 rfl) ?_
  refine va_get (ci := 9) (v := .ref (a 51)) (C := RX9) (T := TX9) (N := 6) hx hb htA in_X9 hown hK hP 5 rfl rfl 1 (by decide) (htA _ wd_43) (fun _ h => h) rfl dX9_look_162 ?_
  refine lv_iload hx hb dX9_look_165 (lv_at hl 0 rfl) ?_
  refine va_iald hx hb hK hP 0 0 rfl rfl (in_lit (by decide)) dX9_look_167 ?_
  refine lv_topi (fun x206 ex206 => ?_)
  obtain rfl : x206 = 0 := ex206
  refine lv_iconst (v := (-1)) hx hb dX9_look_168 (by decide) ?_
  refine lv_ixor hx hb dX9_look_169 ?_
  refine lv_topi (fun x207 ex207 => ?_)
  obtain rfl : x207 = (-1) := ex207.trans (by decide)
  refine lv_iand hx hb dX9_look_170 ?_
  refine lv_topi (fun x208 ex208 => ?_)
  obtain rfl : x208 = 1 := ex208.trans (by decide)
  refine va_iast hx hb hK hP hD hS 1 0 rfl rfl (in_lit (by decide)) dX9_look_171 (fun H locs hP hD hS => ?_)
  rw [rc_s 41 41 (by decide)] at hP hD
  have hP : va_P D vwCl [((a 51), .inl (cy 0, 61, .inl (fun _ => 0))), ((a 52), .inl (cy 0, 61, .inl (rc 42))), ((a 5), .inr (1, [.ref (a 40), .int 0, .int 0, .ref (a 46), .ref (a 47)])), ((a 10), .inr (0, [.int 0, .int 1, .int 1, .int 0, .int 0, .ref (a 11), .ref (a 12), .ref (a 13), .null, .null])), ((a 40), .inr (6, [.ref (a 10), .int 0, .ref (a 41), .ref (a 42), .ref (a 43), .ref (a 44), .ref (a 45), .int 0])), ((a 6), .inr (9, [.int 1, .ref (a 51), .ref (a 52), .ref (a 53), .ref (a 54), .ref (a 55)]))] H := hP
  have hD := va_ca hP hD
  refine lv_iinc (v := 42) (lv' := [(4, .int 42), (3, .int 1), (0, .ref (a 6)), (1, .ref (a 5)), (2, .int 0)]) hx hb dX9_look_172 hl (k := 0) rfl (by decide) (by decide) rfl (fun ls hl => ?_)
  refine lv_goto (tgt := 135) hx hb dX9_look_175 (by decide) ?_
  refine lv_iload hx hb dX9_look_135 (lv_at hl 0 rfl) ?_
  refine lv_bipush (v := 60) hx hb dX9_look_137 (by decide) ?_
  refine lv_icmp_gt (tgt := 178) hx hb dX9_look_139 (by decide) (fun q => absurd q (by decide)) (fun _ => ?_)
  refine lv_aload_n hx hb dX9_look_142 rfl (lv_at hl 2 rfl) ?_
  refine va_get (ci := 9) (v := .ref (a 52)) (C := RX9) (T := TX9) (N := 6) hx hb htA in_X9 hown hK hP 5 rfl rfl 2 (by decide) (htA _ wd_44) (fun _ h => h) rfl dX9_look_143 ?_
  refine lv_iload hx hb dX9_look_146 (lv_at hl 0 rfl) ?_
  refine lv_aload_n hx hb dX9_look_148 rfl (lv_at hl 2 rfl) ?_
  refine lv_aload_n hx hb dX9_look_149 rfl (lv_at hl 2 rfl) ?_
  refine va_get (ci := 9) (v := .ref (a 52)) (C := RX9) (T := TX9) (N := 6) hx hb htA in_X9 hown hK hP 5 rfl rfl 2 (by decide) (htA _ wd_44) (fun _ h => h) rfl dX9_look_150 ?_
  refine lv_iload hx hb dX9_look_153 (lv_at hl 0 rfl) ?_
  refine lv_iconst (v := 1) hx hb dX9_look_155 (by decide) ?_
  refine lv_isub hx hb dX9_look_156 ?_
  refine lv_topi (fun x209 ex209 => ?_)
  obtain rfl : x209 = 41 := ex209.trans (by decide)
  refine va_iald hx hb hK hP 1 0 rfl rfl (in_lit (by decide)) dX9_look_157 ?_
  refine lv_topi (fun x210 ex210 => ?_)
  obtain rfl : x210 = 1 := ex210.trans (by decide)
  refine kVi (As := [.int 1]) (rest := [.int 42, .ref (a 52)]) (wr := [((a 51), .inl (cy 0, 61, .inl (fun _ => 0))), ((a 52), .inl (cy 0, 61, .inl (rc 42))), ((a 5), .inr (1, [.ref (a 40), .int 0, .int 0, .ref (a 46), .ref (a 47)])), ((a 10), .inr (0, [.int 0, .int 1, .int 1, .int 0, .int 0, .ref (a 11), .ref (a 12), .ref (a 13), .null, .null])), ((a 40), .inr (6, [.ref (a 10), .int 0, .ref (a 41), .ref (a 42), .ref (a 43), .ref (a 44), .ref (a 45), .int 0]))]) hX hE (au_X9_near_58 l D cy a) (cwVA 1 htA wd_1188 wd_1185 wd_2 wd_1187 wp_37 (by decide +kernel) ⟨by decide, by decide⟩) hP hD hS [5] [0, 1, 2, 3, 4] rfl rfl (by decide +kernel) 0 rfl rfl rfl rfl hl.1 rfl (Nat.le_of_ble_eq_true rfl) dX9_look_158 (by decide) (fun r_ W1 H locs hw hP hD hS => ?_)
  refine W.widen (k := 0) (n := 0) (by decide) (by decide) ?_
  obtain ⟨rfl, rfl⟩ := hw
  have hP : va_P D vwCl [((a 51), .inl (cy 0, 61, .inl (fun _ => 0))), ((a 52), .inl (cy 0, 61, .inl (rc 42))), ((a 5), .inr (1, [.ref (a 40), .int 0, .int 0, .ref (a 46), .ref (a 47)])), ((a 10), .inr (0, [.int 0, .int 1, .int 1, .int 0, .int 0, .ref (a 11), .ref (a 12), .ref (a 13), .null, .null])), ((a 40), .inr (6, [.ref (a 10), .int 0, .ref (a 41), .ref (a 42), .ref (a 43), .ref (a 44), .ref (a 45), .int 0])), ((a 6), .inr (9, [.int 1, .ref (a 51), .ref (a 52), .ref (a 53), .ref (a 54), .ref (a 55)]))] H := hP
  have hD := va_ca hP hD
  refine lv_aload_n hx hb dX9_look_161 rfl (lv_at hl 2 rfl) ?_
  refine va_get (ci := 9) (v := .ref (a 51)) (C := RX9) (T := TX9) (N := 6) hx hb htA in_X9 hown hK hP 5 rfl rfl 1 (by decide) (htA _ wd_43) (fun _ h => h) rfl dX9_look_162 ?_
  refine lv_iload hx hb dX9_look_165 (lv_at hl 0 rfl) ?_
  refine va_iald hx hb hK hP 0 0 rfl rfl (in_lit (by decide)) dX9_look_167 ?_
  refine lv_topi (fun x211 ex211 => ?_)
  obtain rfl : x211 = 0 := ex211
  refine lv_iconst (v := (-1)) hx hb dX9_look_168 (by decide) ?_
  refine lv_ixor hx hb dX9_look_169 ?_
  refine lv_topi (fun x212 ex212 => ?_)
  obtain rfl : x212 = (-1) := ex212.trans (by decide)
  refine lv_iand hx hb dX9_look_170 ?_
  refine lv_topi (fun x213 ex213 => ?_)
  obtain rfl : x213 = 1 := ex213.trans (by decide)
  refine va_iast hx hb hK hP hD hS 1 0 rfl rfl (in_lit (by decide)) dX9_look_171 (fun H locs hP hD hS => ?_)
  rw [rc_s 42 42 (by decide)] at hP hD
  have hP : va_P D vwCl [((a 51), .inl (cy 0, 61, .inl (fun _ => 0))), ((a 52), .inl (cy 0, 61, .inl (rc 43))), ((a 5), .inr (1, [.ref (a 40), .int 0, .int 0, .ref (a 46), .ref (a 47)])), ((a 10), .inr (0, [.int 0, .int 1, .int 1, .int 0, .int 0, .ref (a 11), .ref (a 12), .ref (a 13), .null, .null])), ((a 40), .inr (6, [.ref (a 10), .int 0, .ref (a 41), .ref (a 42), .ref (a 43), .ref (a 44), .ref (a 45), .int 0])), ((a 6), .inr (9, [.int 1, .ref (a 51), .ref (a 52), .ref (a 53), .ref (a 54), .ref (a 55)]))] H := hP
  have hD := va_ca hP hD
  refine lv_iinc (v := 43) (lv' := [(4, .int 43), (3, .int 1), (0, .ref (a 6)), (1, .ref (a 5)), (2, .int 0)]) hx hb dX9_look_172 hl (k := 0) rfl (by decide) (by decide) rfl (fun ls hl => ?_)
  refine lv_goto (tgt := 135) hx hb dX9_look_175 (by decide) ?_
  refine lv_iload hx hb dX9_look_135 (lv_at hl 0 rfl) ?_
  refine lv_bipush (v := 60) hx hb dX9_look_137 (by decide) ?_
  refine lv_icmp_gt (tgt := 178) hx hb dX9_look_139 (by decide) (fun q => absurd q (by decide)) (fun _ => ?_)
  refine lv_aload_n hx hb dX9_look_142 rfl (lv_at hl 2 rfl) ?_
  refine va_get (ci := 9) (v := .ref (a 52)) (C := RX9) (T := TX9) (N := 6) hx hb htA in_X9 hown hK hP 5 rfl rfl 2 (by decide) (htA _ wd_44) (fun _ h => h) rfl dX9_look_143 ?_
  refine lv_iload hx hb dX9_look_146 (lv_at hl 0 rfl) ?_
  refine lv_aload_n hx hb dX9_look_148 rfl (lv_at hl 2 rfl) ?_
  refine lv_aload_n hx hb dX9_look_149 rfl (lv_at hl 2 rfl) ?_
  refine va_get (ci := 9) (v := .ref (a 52)) (C := RX9) (T := TX9) (N := 6) hx hb htA in_X9 hown hK hP 5 rfl rfl 2 (by decide) (htA _ wd_44) (fun _ h => h) rfl dX9_look_150 ?_
  refine lv_iload hx hb dX9_look_153 (lv_at hl 0 rfl) ?_
  refine lv_iconst (v := 1) hx hb dX9_look_155 (by decide) ?_
  refine lv_isub hx hb dX9_look_156 ?_
  refine lv_topi (fun x214 ex214 => ?_)
  obtain rfl : x214 = 42 := ex214.trans (by decide)
  refine va_iald hx hb hK hP 1 0 rfl rfl (in_lit (by decide)) dX9_look_157 ?_
  refine lv_topi (fun x215 ex215 => ?_)
  obtain rfl : x215 = 1 := ex215.trans (by decide)
  refine kVi (As := [.int 1]) (rest := [.int 43, .ref (a 52)]) (wr := [((a 51), .inl (cy 0, 61, .inl (fun _ => 0))), ((a 52), .inl (cy 0, 61, .inl (rc 43))), ((a 5), .inr (1, [.ref (a 40), .int 0, .int 0, .ref (a 46), .ref (a 47)])), ((a 10), .inr (0, [.int 0, .int 1, .int 1, .int 0, .int 0, .ref (a 11), .ref (a 12), .ref (a 13), .null, .null])), ((a 40), .inr (6, [.ref (a 10), .int 0, .ref (a 41), .ref (a 42), .ref (a 43), .ref (a 44), .ref (a 45), .int 0]))]) hX hE (au_X9_near_58 l D cy a) (cwVA 1 htA wd_1188 wd_1185 wd_2 wd_1187 wp_37 (by decide +kernel) ⟨by decide, by decide⟩) hP hD hS [5] [0, 1, 2, 3, 4] rfl rfl (by decide +kernel) 0 rfl rfl rfl rfl hl.1 rfl (Nat.le_of_ble_eq_true rfl) dX9_look_158 (by decide) (fun r_ W1 H locs hw hP hD hS => ?_)
  refine W.widen (k := 0) (n := 0) (by decide) (by decide) ?_
  obtain ⟨rfl, rfl⟩ := hw
  have hP : va_P D vwCl [((a 51), .inl (cy 0, 61, .inl (fun _ => 0))), ((a 52), .inl (cy 0, 61, .inl (rc 43))), ((a 5), .inr (1, [.ref (a 40), .int 0, .int 0, .ref (a 46), .ref (a 47)])), ((a 10), .inr (0, [.int 0, .int 1, .int 1, .int 0, .int 0, .ref (a 11), .ref (a 12), .ref (a 13), .null, .null])), ((a 40), .inr (6, [.ref (a 10), .int 0, .ref (a 41), .ref (a 42), .ref (a 43), .ref (a 44), .ref (a 45), .int 0])), ((a 6), .inr (9, [.int 1, .ref (a 51), .ref (a 52), .ref (a 53), .ref (a 54), .ref (a 55)]))] H := hP
  have hD := va_ca hP hD
  refine lv_aload_n hx hb dX9_look_161 rfl (lv_at hl 2 rfl) ?_
  refine va_get (ci := 9) (v := .ref (a 51)) (C := RX9) (T := TX9) (N := 6) hx hb htA in_X9 hown hK hP 5 rfl rfl 1 (by decide) (htA _ wd_43) (fun _ h => h) rfl dX9_look_162 ?_
  refine lv_iload hx hb dX9_look_165 (lv_at hl 0 rfl) ?_
  refine va_iald hx hb hK hP 0 0 rfl rfl (in_lit (by decide)) dX9_look_167 ?_
  refine lv_topi (fun x216 ex216 => ?_)
  obtain rfl : x216 = 0 := ex216
  refine lv_iconst (v := (-1)) hx hb dX9_look_168 (by decide) ?_
  refine lv_ixor hx hb dX9_look_169 ?_
  refine lv_topi (fun x217 ex217 => ?_)
  obtain rfl : x217 = (-1) := ex217.trans (by decide)
  refine lv_iand hx hb dX9_look_170 ?_
  refine lv_topi (fun x218 ex218 => ?_)
  obtain rfl : x218 = 1 := ex218.trans (by decide)
  refine va_iast hx hb hK hP hD hS 1 0 rfl rfl (in_lit (by decide)) dX9_look_171 (fun H locs hP hD hS => ?_)
  rw [rc_s 43 43 (by decide)] at hP hD
  have hP : va_P D vwCl [((a 51), .inl (cy 0, 61, .inl (fun _ => 0))), ((a 52), .inl (cy 0, 61, .inl (rc 44))), ((a 5), .inr (1, [.ref (a 40), .int 0, .int 0, .ref (a 46), .ref (a 47)])), ((a 10), .inr (0, [.int 0, .int 1, .int 1, .int 0, .int 0, .ref (a 11), .ref (a 12), .ref (a 13), .null, .null])), ((a 40), .inr (6, [.ref (a 10), .int 0, .ref (a 41), .ref (a 42), .ref (a 43), .ref (a 44), .ref (a 45), .int 0])), ((a 6), .inr (9, [.int 1, .ref (a 51), .ref (a 52), .ref (a 53), .ref (a 54), .ref (a 55)]))] H := hP
  have hD := va_ca hP hD
  refine lv_iinc (v := 44) (lv' := [(4, .int 44), (3, .int 1), (0, .ref (a 6)), (1, .ref (a 5)), (2, .int 0)]) hx hb dX9_look_172 hl (k := 0) rfl (by decide) (by decide) rfl (fun ls hl => ?_)
  refine lv_goto (tgt := 135) hx hb dX9_look_175 (by decide) ?_
  refine lv_iload hx hb dX9_look_135 (lv_at hl 0 rfl) ?_
  refine lv_bipush (v := 60) hx hb dX9_look_137 (by decide) ?_
  refine lv_icmp_gt (tgt := 178) hx hb dX9_look_139 (by decide) (fun q => absurd q (by decide)) (fun _ => ?_)
  refine lv_aload_n hx hb dX9_look_142 rfl (lv_at hl 2 rfl) ?_
  refine va_get (ci := 9) (v := .ref (a 52)) (C := RX9) (T := TX9) (N := 6) hx hb htA in_X9 hown hK hP 5 rfl rfl 2 (by decide) (htA _ wd_44) (fun _ h => h) rfl dX9_look_143 ?_
  refine lv_iload hx hb dX9_look_146 (lv_at hl 0 rfl) ?_
  refine lv_aload_n hx hb dX9_look_148 rfl (lv_at hl 2 rfl) ?_
  refine lv_aload_n hx hb dX9_look_149 rfl (lv_at hl 2 rfl) ?_
  refine va_get (ci := 9) (v := .ref (a 52)) (C := RX9) (T := TX9) (N := 6) hx hb htA in_X9 hown hK hP 5 rfl rfl 2 (by decide) (htA _ wd_44) (fun _ h => h) rfl dX9_look_150 ?_
  refine lv_iload hx hb dX9_look_153 (lv_at hl 0 rfl) ?_
  refine lv_iconst (v := 1) hx hb dX9_look_155 (by decide) ?_
  refine lv_isub hx hb dX9_look_156 ?_
  refine lv_topi (fun x219 ex219 => ?_)
  obtain rfl : x219 = 43 := ex219.trans (by decide)
  refine va_iald hx hb hK hP 1 0 rfl rfl (in_lit (by decide)) dX9_look_157 ?_
  refine lv_topi (fun x220 ex220 => ?_)
  obtain rfl : x220 = 1 := ex220.trans (by decide)
  refine kVi (As := [.int 1]) (rest := [.int 44, .ref (a 52)]) (wr := [((a 51), .inl (cy 0, 61, .inl (fun _ => 0))), ((a 52), .inl (cy 0, 61, .inl (rc 44))), ((a 5), .inr (1, [.ref (a 40), .int 0, .int 0, .ref (a 46), .ref (a 47)])), ((a 10), .inr (0, [.int 0, .int 1, .int 1, .int 0, .int 0, .ref (a 11), .ref (a 12), .ref (a 13), .null, .null])), ((a 40), .inr (6, [.ref (a 10), .int 0, .ref (a 41), .ref (a 42), .ref (a 43), .ref (a 44), .ref (a 45), .int 0]))]) hX hE (au_X9_near_58 l D cy a) (cwVA 1 htA wd_1188 wd_1185 wd_2 wd_1187 wp_37 (by decide +kernel) ⟨by decide, by decide⟩) hP hD hS [5] [0, 1, 2, 3, 4] rfl rfl (by decide +kernel) 0 rfl rfl rfl rfl hl.1 rfl (Nat.le_of_ble_eq_true rfl) dX9_look_158 (by decide) (fun r_ W1 H locs hw hP hD hS => ?_)
  refine W.widen (k := 0) (n := 0) (by decide) (by decide) ?_
  obtain ⟨rfl, rfl⟩ := hw
  have hP : va_P D vwCl [((a 51), .inl (cy 0, 61, .inl (fun _ => 0))), ((a 52), .inl (cy 0, 61, .inl (rc 44))), ((a 5), .inr (1, [.ref (a 40), .int 0, .int 0, .ref (a 46), .ref (a 47)])), ((a 10), .inr (0, [.int 0, .int 1, .int 1, .int 0, .int 0, .ref (a 11), .ref (a 12), .ref (a 13), .null, .null])), ((a 40), .inr (6, [.ref (a 10), .int 0, .ref (a 41), .ref (a 42), .ref (a 43), .ref (a 44), .ref (a 45), .int 0])), ((a 6), .inr (9, [.int 1, .ref (a 51), .ref (a 52), .ref (a 53), .ref (a 54), .ref (a 55)]))] H := hP
  have hD := va_ca hP hD
  refine lv_aload_n hx hb dX9_look_161 rfl (lv_at hl 2 rfl) ?_
  refine va_get (ci := 9) (v := .ref (a 51)) (C := RX9) (T := TX9) (N := 6) hx hb htA in_X9 hown hK hP 5 rfl rfl 1 (by decide) (htA _ wd_43) (fun _ h => h) rfl dX9_look_162 ?_
  refine lv_iload hx hb dX9_look_165 (lv_at hl 0 rfl) ?_
  refine va_iald hx hb hK hP 0 0 rfl rfl (in_lit (by decide)) dX9_look_167 ?_
  refine lv_topi (fun x221 ex221 => ?_)
  obtain rfl : x221 = 0 := ex221
  refine lv_iconst (v := (-1)) hx hb dX9_look_168 (by decide) ?_
  refine lv_ixor hx hb dX9_look_169 ?_
  refine lv_topi (fun x222 ex222 => ?_)
  obtain rfl : x222 = (-1) := ex222.trans (by decide)
  refine lv_iand hx hb dX9_look_170 ?_
  refine lv_topi (fun x223 ex223 => ?_)
  obtain rfl : x223 = 1 := ex223.trans (by decide)
  refine va_iast hx hb hK hP hD hS 1 0 rfl rfl (in_lit (by decide)) dX9_look_171 (fun H locs hP hD hS => ?_)
  rw [rc_s 44 44 (by decide)] at hP hD
  have hP : va_P D vwCl [((a 51), .inl (cy 0, 61, .inl (fun _ => 0))), ((a 52), .inl (cy 0, 61, .inl (rc 45))), ((a 5), .inr (1, [.ref (a 40), .int 0, .int 0, .ref (a 46), .ref (a 47)])), ((a 10), .inr (0, [.int 0, .int 1, .int 1, .int 0, .int 0, .ref (a 11), .ref (a 12), .ref (a 13), .null, .null])), ((a 40), .inr (6, [.ref (a 10), .int 0, .ref (a 41), .ref (a 42), .ref (a 43), .ref (a 44), .ref (a 45), .int 0])), ((a 6), .inr (9, [.int 1, .ref (a 51), .ref (a 52), .ref (a 53), .ref (a 54), .ref (a 55)]))] H := hP
  have hD := va_ca hP hD
  refine lv_iinc (v := 45) (lv' := [(4, .int 45), (3, .int 1), (0, .ref (a 6)), (1, .ref (a 5)), (2, .int 0)]) hx hb dX9_look_172 hl (k := 0) rfl (by decide) (by decide) rfl (fun ls hl => ?_)
  refine lv_goto (tgt := 135) hx hb dX9_look_175 (by decide) ?_
  refine lv_iload hx hb dX9_look_135 (lv_at hl 0 rfl) ?_
  refine lv_bipush (v := 60) hx hb dX9_look_137 (by decide) ?_
  refine lv_icmp_gt (tgt := 178) hx hb dX9_look_139 (by decide) (fun q => absurd q (by decide)) (fun _ => ?_)
  refine lv_aload_n hx hb dX9_look_142 rfl (lv_at hl 2 rfl) ?_
  refine va_get (ci := 9) (v := .ref (a 52)) (C := RX9) (T := TX9) (N := 6) hx hb htA in_X9 hown hK hP 5 rfl rfl 2 (by decide) (htA _ wd_44) (fun _ h => h) rfl dX9_look_143 ?_
  refine lv_iload hx hb dX9_look_146 (lv_at hl 0 rfl) ?_
  refine lv_aload_n hx hb dX9_look_148 rfl (lv_at hl 2 rfl) ?_
  refine lv_aload_n hx hb dX9_look_149 rfl (lv_at hl 2 rfl) ?_
  refine va_get (ci := 9) (v := .ref (a 52)) (C := RX9) (T := TX9) (N := 6) hx hb htA in_X9 hown hK hP 5 rfl rfl 2 (by decide) (htA _ wd_44) (fun _ h => h) rfl dX9_look_150 ?_
  refine lv_iload hx hb dX9_look_153 (lv_at hl 0 rfl) ?_
  refine lv_iconst (v := 1) hx hb dX9_look_155 (by decide) ?_
  refine lv_isub hx hb dX9_look_156 ?_
  refine lv_topi (fun x224 ex224 => ?_)
  obtain rfl : x224 = 44 := ex224.trans (by decide)
  refine va_iald hx hb hK hP 1 0 rfl rfl (in_lit (by decide)) dX9_look_157 ?_
  refine lv_topi (fun x225 ex225 => ?_)
  obtain rfl : x225 = 1 := ex225.trans (by decide)
  refine kVi (As := [.int 1]) (rest := [.int 45, .ref (a 52)]) (wr := [((a 51), .inl (cy 0, 61, .inl (fun _ => 0))), ((a 52), .inl (cy 0, 61, .inl (rc 45))), ((a 5), .inr (1, [.ref (a 40), .int 0, .int 0, .ref (a 46), .ref (a 47)])), ((a 10), .inr (0, [.int 0, .int 1, .int 1, .int 0, .int 0, .ref (a 11), .ref (a 12), .ref (a 13), .null, .null])), ((a 40), .inr (6, [.ref (a 10), .int 0, .ref (a 41), .ref (a 42), .ref (a 43), .ref (a 44), .ref (a 45), .int 0]))]) hX hE (au_X9_near_58 l D cy a) (cwVA 1 htA wd_1188 wd_1185 wd_2 wd_1187 wp_37 (by decide +kernel) ⟨by decide, by decide⟩) hP hD hS [5] [0, 1, 2, 3, 4] rfl rfl (by decide +kernel) 0 rfl rfl rfl rfl hl.1 rfl (Nat.le_of_ble_eq_true rfl) dX9_look_158 (by decide) (fun r_ W1 H locs hw hP hD hS => ?_)
  refine W.widen (k := 0) (n := 0) (by decide) (by decide) ?_
  obtain ⟨rfl, rfl⟩ := hw
  have hP : va_P D vwCl [((a 51), .inl (cy 0, 61, .inl (fun _ => 0))), ((a 52), .inl (cy 0, 61, .inl (rc 45))), ((a 5), .inr (1, [.ref (a 40), .int 0, .int 0, .ref (a 46), .ref (a 47)])), ((a 10), .inr (0, [.int 0, .int 1, .int 1, .int 0, .int 0, .ref (a 11), .ref (a 12), .ref (a 13), .null, .null])), ((a 40), .inr (6, [.ref (a 10), .int 0, .ref (a 41), .ref (a 42), .ref (a 43), .ref (a 44), .ref (a 45), .int 0])), ((a 6), .inr (9, [.int 1, .ref (a 51), .ref (a 52), .ref (a 53), .ref (a 54), .ref (a 55)]))] H := hP
  have hD := va_ca hP hD
  refine lv_aload_n hx hb dX9_look_161 rfl (lv_at hl 2 rfl) ?_
  refine va_get (ci := 9) (v := .ref (a 51)) (C := RX9) (T := TX9) (N := 6) hx hb htA in_X9 hown hK hP 5 rfl rfl 1 (by decide) (htA _ wd_43) (fun _ h => h) rfl dX9_look_162 ?_
  refine lv_iload hx hb dX9_look_165 (lv_at hl 0 rfl) ?_
  refine va_iald hx hb hK hP 0 0 rfl rfl (in_lit (by decide)) dX9_look_167 ?_
  refine lv_topi (fun x226 ex226 => ?_)
  obtain rfl : x226 = 0 := ex226
  refine lv_iconst (v := (-1)) hx hb dX9_look_168 (by decide) ?_
  refine lv_ixor hx hb dX9_look_169 ?_
  refine lv_topi (fun x227 ex227 => ?_)
  obtain rfl : x227 = (-1) := ex227.trans (by decide)
  refine lv_iand hx hb dX9_look_170 ?_
  refine lv_topi (fun x228 ex228 => ?_)
  obtain rfl : x228 = 1 := ex228.trans (by decide)
  refine va_iast hx hb hK hP hD hS 1 0 rfl rfl (in_lit (by decide)) dX9_look_171 (fun H locs hP hD hS => ?_)
  rw [rc_s 45 45 (by decide)] at hP hD
  have hP : va_P D vwCl [((a 51), .inl (cy 0, 61, .inl (fun _ => 0))), ((a 52), .inl (cy 0, 61, .inl (rc 46))), ((a 5), .inr (1, [.ref (a 40), .int 0, .int 0, .ref (a 46), .ref (a 47)])), ((a 10), .inr (0, [.int 0, .int 1, .int 1, .int 0, .int 0, .ref (a 11), .ref (a 12), .ref (a 13), .null, .null])), ((a 40), .inr (6, [.ref (a 10), .int 0, .ref (a 41), .ref (a 42), .ref (a 43), .ref (a 44), .ref (a 45), .int 0])), ((a 6), .inr (9, [.int 1, .ref (a 51), .ref (a 52), .ref (a 53), .ref (a 54), .ref (a 55)]))] H := hP
  have hD := va_ca hP hD
  refine lv_iinc (v := 46) (lv' := [(4, .int 46), (3, .int 1), (0, .ref (a 6)), (1, .ref (a 5)), (2, .int 0)]) hx hb dX9_look_172 hl (k := 0) rfl (by decide) (by decide) rfl (fun ls hl => ?_)
  refine lv_goto (tgt := 135) hx hb dX9_look_175 (by decide) ?_
  refine lv_iload hx hb dX9_look_135 (lv_at hl 0 rfl) ?_
  refine lv_bipush (v := 60) hx hb dX9_look_137 (by decide) ?_
  refine lv_icmp_gt (tgt := 178) hx hb dX9_look_139 (by decide) (fun q => absurd q (by decide)) (fun _ => ?_)
  refine lv_aload_n hx hb dX9_look_142 rfl (lv_at hl 2 rfl) ?_
  refine va_get (ci := 9) (v := .ref (a 52)) (C := RX9) (T := TX9) (N := 6) hx hb htA in_X9 hown hK hP 5 rfl rfl 2 (by decide) (htA _ wd_44) (fun _ h => h) rfl dX9_look_143 ?_
  refine lv_iload hx hb dX9_look_146 (lv_at hl 0 rfl) ?_
  refine lv_aload_n hx hb dX9_look_148 rfl (lv_at hl 2 rfl) ?_
  refine lv_aload_n hx hb dX9_look_149 rfl (lv_at hl 2 rfl) ?_
  refine va_get (ci := 9) (v := .ref (a 52)) (C := RX9) (T := TX9) (N := 6) hx hb htA in_X9 hown hK hP 5 rfl rfl 2 (by decide) (htA _ wd_44) (fun _ h => h) rfl dX9_look_150 ?_
  refine lv_iload hx hb dX9_look_153 (lv_at hl 0 rfl) ?_
  refine lv_iconst (v := 1) hx hb dX9_look_155 (by decide) ?_
  refine lv_isub hx hb dX9_look_156 ?_
  refine lv_topi (fun x229 ex229 => ?_)
  obtain rfl : x229 = 45 := ex229.trans (by decide)
  refine va_iald hx hb hK hP 1 0 rfl rfl (in_lit (by decide)) dX9_look_157 ?_
  refine lv_topi (fun x230 ex230 => ?_)
  obtain rfl : x230 = 1 := ex230.trans (by decide)
  refine kVi (As := [.int 1]) (rest := [.int 46, .ref (a 52)]) (wr := [((a 51), .inl (cy 0, 61, .inl (fun _ => 0))), ((a 52), .inl (cy 0, 61, .inl (rc 46))), ((a 5), .inr (1, [.ref (a 40), .int 0, .int 0, .ref (a 46), .ref (a 47)])), ((a 10), .inr (0, [.int 0, .int 1, .int 1, .int 0, .int 0, .ref (a 11), .ref (a 12), .ref (a 13), .null, .null])), ((a 40), .inr (6, [.ref (a 10), .int 0, .ref (a 41), .ref (a 42), .ref (a 43), .ref (a 44), .ref (a 45), .int 0]))]) hX hE (au_X9_near_58 l D cy a) (cwVA 1 htA wd_1188 wd_1185 wd_2 wd_1187 wp_37 (by decide +kernel) ⟨by decide, by decide⟩) hP hD hS [5] [0, 1, 2, 3, 4] rfl rfl (by decide +kernel) 0 rfl rfl rfl rfl hl.1 rfl (Nat.le_of_ble_eq_true rfl) dX9_look_158 (by decide) (fun r_ W1 H locs hw hP hD hS => ?_)
  refine W.widen (k := 0) (n := 0) (by decide) (by decide) ?_
  obtain ⟨rfl, rfl⟩ := hw
  have hP : va_P D vwCl [((a 51), .inl (cy 0, 61, .inl (fun _ => 0))), ((a 52), .inl (cy 0, 61, .inl (rc 46))), ((a 5), .inr (1, [.ref (a 40), .int 0, .int 0, .ref (a 46), .ref (a 47)])), ((a 10), .inr (0, [.int 0, .int 1, .int 1, .int 0, .int 0, .ref (a 11), .ref (a 12), .ref (a 13), .null, .null])), ((a 40), .inr (6, [.ref (a 10), .int 0, .ref (a 41), .ref (a 42), .ref (a 43), .ref (a 44), .ref (a 45), .int 0])), ((a 6), .inr (9, [.int 1, .ref (a 51), .ref (a 52), .ref (a 53), .ref (a 54), .ref (a 55)]))] H := hP
  have hD := va_ca hP hD
  refine lv_aload_n hx hb dX9_look_161 rfl (lv_at hl 2 rfl) ?_
  refine va_get (ci := 9) (v := .ref (a 51)) (C := RX9) (T := TX9) (N := 6) hx hb htA in_X9 hown hK hP 5 rfl rfl 1 (by decide) (htA _ wd_43) (fun _ h => h) rfl dX9_look_162 ?_
  refine lv_iload hx hb dX9_look_165 (lv_at hl 0 rfl) ?_
  refine va_iald hx hb hK hP 0 0 rfl rfl (in_lit (by decide)) dX9_look_167 ?_
  refine lv_topi (fun x231 ex231 => ?_)
  obtain rfl : x231 = 0 := ex231
  refine lv_iconst (v := (-1)) hx hb dX9_look_168 (by decide) ?_
  refine lv_ixor hx hb dX9_look_169 ?_
  refine lv_topi (fun x232 ex232 => ?_)
  obtain rfl : x232 = (-1) := ex232.trans (by decide)
  refine lv_iand hx hb dX9_look_170 ?_
  refine lv_topi (fun x233 ex233 => ?_)
  obtain rfl : x233 = 1 := ex233.trans (by decide)
  refine va_iast hx hb hK hP hD hS 1 0 rfl rfl (in_lit (by decide)) dX9_look_171 (fun H locs hP hD hS => ?_)
  rw [rc_s 46 46 (by decide)] at hP hD
  have hP : va_P D vwCl [((a 51), .inl (cy 0, 61, .inl (fun _ => 0))), ((a 52), .inl (cy 0, 61, .inl (rc 47))), ((a 5), .inr (1, [.ref (a 40), .int 0, .int 0, .ref (a 46), .ref (a 47)])), ((a 10), .inr (0, [.int 0, .int 1, .int 1, .int 0, .int 0, .ref (a 11), .ref (a 12), .ref (a 13), .null, .null])), ((a 40), .inr (6, [.ref (a 10), .int 0, .ref (a 41), .ref (a 42), .ref (a 43), .ref (a 44), .ref (a 45), .int 0])), ((a 6), .inr (9, [.int 1, .ref (a 51), .ref (a 52), .ref (a 53), .ref (a 54), .ref (a 55)]))] H := hP
  have hD := va_ca hP hD
  refine lv_iinc (v := 47) (lv' := [(4, .int 47), (3, .int 1), (0, .ref (a 6)), (1, .ref (a 5)), (2, .int 0)]) hx hb dX9_look_172 hl (k := 0) rfl (by decide) (by decide) rfl (fun ls hl => ?_)
  refine lv_goto (tgt := 135) hx hb dX9_look_175 (by decide) ?_
  refine lv_iload hx hb dX9_look_135 (lv_at hl 0 rfl) ?_
  refine lv_bipush (v := 60) hx hb dX9_look_137 (by decide) ?_
  refine lv_icmp_gt (tgt := 178) hx hb dX9_look_139 (by decide) (fun q => absurd q (by decide)) (fun _ => ?_)
  refine lv_aload_n hx hb dX9_look_142 rfl (lv_at hl 2 rfl) ?_
  refine va_get (ci := 9) (v := .ref (a 52)) (C := RX9) (T := TX9) (N := 6) hx hb htA in_X9 hown hK hP 5 rfl rfl 2 (by decide) (htA _ wd_44) (fun _ h => h) rfl dX9_look_143 ?_
  refine lv_iload hx hb dX9_look_146 (lv_at hl 0 rfl) ?_
  refine lv_aload_n hx hb dX9_look_148 rfl (lv_at hl 2 rfl) ?_
  refine lv_aload_n hx hb dX9_look_149 rfl (lv_at hl 2 rfl) ?_
  refine va_get (ci := 9) (v := .ref (a 52)) (C := RX9) (T := TX9) (N := 6) hx hb htA in_X9 hown hK hP 5 rfl rfl 2 (by decide) (htA _ wd_44) (fun _ h => h) rfl dX9_look_150 ?_
  refine lv_iload hx hb dX9_look_153 (lv_at hl 0 rfl) ?_
  refine lv_iconst (v := 1) hx hb dX9_look_155 (by decide) ?_
  refine lv_isub hx hb dX9_look_156 ?_
  refine lv_topi (fun x234 ex234 => ?_)
  obtain rfl : x234 = 46 := ex234.trans (by decide)
  refine va_iald hx hb hK hP 1 0 rfl rfl (in_lit (by decide)) dX9_look_157 ?_
  refine lv_topi (fun x235 ex235 => ?_)
  obtain rfl : x235 = 1 := ex235.trans (by decide)
  refine kVi (As := [.int 1]) (rest := [.int 47, .ref (a 52)]) (wr := [((a 51), .inl (cy 0, 61, .inl (fun _ => 0))), ((a 52), .inl (cy 0, 61, .inl (rc 47))), ((a 5), .inr (1, [.ref (a 40), .int 0, .int 0, .ref (a 46), .ref (a 47)])), ((a 10), .inr (0, [.int 0, .int 1, .int 1, .int 0, .int 0, .ref (a 11), .ref (a 12), .ref (a 13), .null, .null])), ((a 40), .inr (6, [.ref (a 10), .int 0, .ref (a 41), .ref (a 42), .ref (a 43), .ref (a 44), .ref (a 45), .int 0]))]) hX hE (au_X9_near_58 l D cy a) (cwVA 1 htA wd_1188 wd_1185 wd_2 wd_1187 wp_37 (by decide +kernel) ⟨by decide, by decide⟩) hP hD hS [5] [0, 1, 2, 3, 4] rfl rfl (by decide +kernel) 0 rfl rfl rfl rfl hl.1 rfl (Nat.le_of_ble_eq_true rfl) dX9_look_158 (by decide) (fun r_ W1 H locs hw hP hD hS => ?_)
  refine W.widen (k := 0) (n := 0) (by decide) (by decide) ?_
  obtain ⟨rfl, rfl⟩ := hw
  have hP : va_P D vwCl [((a 51), .inl (cy 0, 61, .inl (fun _ => 0))), ((a 52), .inl (cy 0, 61, .inl (rc 47))), ((a 5), .inr (1, [.ref (a 40), .int 0, .int 0, .ref (a 46), .ref (a 47)])), ((a 10), .inr (0, [.int 0, .int 1, .int 1, .int 0, .int 0, .ref (a 11), .ref (a 12), .ref (a 13), .null, .null])), ((a 40), .inr (6, [.ref (a 10), .int 0, .ref (a 41), .ref (a 42), .ref (a 43), .ref (a 44), .ref (a 45), .int 0])), ((a 6), .inr (9, [.int 1, .ref (a 51), .ref (a 52), .ref (a 53), .ref (a 54), .ref (a 55)]))] H := hP
  have hD := va_ca hP hD
  refine lv_aload_n hx hb dX9_look_161 rfl (lv_at hl 2 rfl) ?_
  refine va_get (ci := 9) (v := .ref (a 51)) (C := RX9) (T := TX9) (N := 6) hx hb htA in_X9 hown hK hP 5 rfl rfl 1 (by decide) (htA _ wd_43) (fun _ h => h) rfl dX9_look_162 ?_
  refine lv_iload hx hb dX9_look_165 (lv_at hl 0 rfl) ?_
  refine va_iald hx hb hK hP 0 0 rfl rfl (in_lit (by decide)) dX9_look_167 ?_
  refine lv_topi (fun x236 ex236 => ?_)
  obtain rfl : x236 = 0 := ex236
  refine lv_iconst (v := (-1)) hx hb dX9_look_168 (by decide) ?_
  refine lv_ixor hx hb dX9_look_169 ?_
  refine lv_topi (fun x237 ex237 => ?_)
  obtain rfl : x237 = (-1) := ex237.trans (by decide)
  refine lv_iand hx hb dX9_look_170 ?_
  refine lv_topi (fun x238 ex238 => ?_)
  obtain rfl : x238 = 1 := ex238.trans (by decide)
  refine va_iast hx hb hK hP hD hS 1 0 rfl rfl (in_lit (by decide)) dX9_look_171 (fun H locs hP hD hS => ?_)
  rw [rc_s 47 47 (by decide)] at hP hD
  have hP : va_P D vwCl [((a 51), .inl (cy 0, 61, .inl (fun _ => 0))), ((a 52), .inl (cy 0, 61, .inl (rc 48))), ((a 5), .inr (1, [.ref (a 40), .int 0, .int 0, .ref (a 46), .ref (a 47)])), ((a 10), .inr (0, [.int 0, .int 1, .int 1, .int 0, .int 0, .ref (a 11), .ref (a 12), .ref (a 13), .null, .null])), ((a 40), .inr (6, [.ref (a 10), .int 0, .ref (a 41), .ref (a 42), .ref (a 43), .ref (a 44), .ref (a 45), .int 0])), ((a 6), .inr (9, [.int 1, .ref (a 51), .ref (a 52), .ref (a 53), .ref (a 54), .ref (a 55)]))] H := hP
  have hD := va_ca hP hD
  refine lv_iinc (v := 48) (lv' := [(4, .int 48), (3, .int 1), (0, .ref (a 6)), (1, .ref (a 5)), (2, .int 0)]) hx hb dX9_look_172 hl (k := 0) rfl (by decide) (by decide) rfl (fun ls hl => ?_)
  refine lv_goto (tgt := 135) hx hb dX9_look_175 (by decide) ?_
  refine lv_iload hx hb dX9_look_135 (lv_at hl 0 rfl) ?_
  refine lv_bipush (v := 60) hx hb dX9_look_137 (by decide) ?_
  refine lv_icmp_gt (tgt := 178) hx hb dX9_look_139 (by decide) (fun q => absurd q (by decide)) (fun _ => ?_)
  refine lv_aload_n hx hb dX9_look_142 rfl (lv_at hl 2 rfl) ?_
  refine va_get (ci := 9) (v := .ref (a 52)) (C := RX9) (T := TX9) (N := 6) hx hb htA in_X9 hown hK hP 5 rfl rfl 2 (by decide) (htA _ wd_44) (fun _ h => h) rfl dX9_look_143 ?_
  refine lv_iload hx hb dX9_look_146 (lv_at hl 0 rfl) ?_
  refine lv_aload_n hx hb dX9_look_148 rfl (lv_at hl 2 rfl) ?_
  refine lv_aload_n hx hb dX9_look_149 rfl (lv_at hl 2 rfl) ?_
  refine va_get (ci := 9) (v := .ref (a 52)) (C := RX9) (T := TX9) (N := 6) hx hb htA in_X9 hown hK hP 5 rfl rfl 2 (by decide) (htA _ wd_44) (fun _ h => h) rfl dX9_look_150 ?_
  refine lv_iload hx hb dX9_look_153 (lv_at hl 0 rfl) ?_
  refine lv_iconst (v := 1) hx hb dX9_look_155 (by decide) ?_
  refine lv_isub hx hb dX9_look_156 ?_
  refine lv_topi (fun x239 ex239 => ?_)
  obtain rfl : x239 = 47 := ex239.trans (by decide)
  refine va_iald hx hb hK hP 1 0 rfl rfl (in_lit (by decide)) dX9_look_157 ?_
  refine lv_topi (fun x240 ex240 => ?_)
  obtain rfl : x240 = 1 := ex240.trans (by decide)
  refine kVi (As := [.int 1]) (rest := [.int 48, .ref (a 52)]) (wr := [((a 51), .inl (cy 0, 61, .inl (fun _ => 0))), ((a 52), .inl (cy 0, 61, .inl (rc 48))), ((a 5), .inr (1, [.ref (a 40), .int 0, .int 0, .ref (a 46), .ref (a 47)])), ((a 10), .inr (0, [.int 0, .int 1, .int 1, .int 0, .int 0, .ref (a 11), .ref (a 12), .ref (a 13), .null, .null])), ((a 40), .inr (6, [.ref (a 10), .int 0, .ref (a 41), .ref (a 42), .ref (a 43), .ref (a 44), .ref (a 45), .int 0]))]) hX hE (au_X9_near_58 l D cy a) (cwVA 1 htA wd_1188 wd_1185 wd_2 wd_1187 wp_37 (by decide +kernel) ⟨by decide, by decide⟩) hP hD hS [5] [0, 1, 2, 3, 4] rfl rfl (by decide +kernel) 0 rfl rfl rfl rfl hl.1 rfl (Nat.le_of_ble_eq_true rfl) dX9_look_158 (by decide) (fun r_ W1 H locs hw hP hD hS => ?_)
  refine W.widen (k := 0) (n := 0) (by decide) (by decide) ?_
  obtain ⟨rfl, rfl⟩ := hw
  have hP : va_P D vwCl [((a 51), .inl (cy 0, 61, .inl (fun _ => 0))), ((a 52), .inl (cy 0, 61, .inl (rc 48))), ((a 5), .inr (1, [.ref (a 40), .int 0, .int 0, .ref (a 46), .ref (a 47)])), ((a 10), .inr (0, [.int 0, .int 1, .int 1, .int 0, .int 0, .ref (a 11), .ref (a 12), .ref (a 13), .null, .null])), ((a 40), .inr (6, [.ref (a 10), .int 0, .ref (a 41), .ref (a 42), .ref (a 43), .ref (a 44), .ref (a 45), .int 0])), ((a 6), .inr (9, [.int 1, .ref (a 51), .ref (a 52), .ref (a 53), .ref (a 54), .ref (a 55)]))] H := hP
  have hD := va_ca hP hD
  refine lv_aload_n hx hb dX9_look_161 rfl (lv_at hl 2 rfl) ?_
  refine va_get (ci := 9) (v := .ref (a 51)) (C := RX9) (T := TX9) (N := 6) hx hb htA in_X9 hown hK hP 5 rfl rfl 1 (by decide) (htA _ wd_43) (fun _ h => h) rfl dX9_look_162 ?_
  refine lv_iload hx hb dX9_look_165 (lv_at hl 0 rfl) ?_
  refine va_iald hx hb hK hP 0 0 rfl rfl (in_lit (by decide)) dX9_look_167 ?_
  refine lv_topi (fun x241 ex241 => ?_)
  obtain rfl : x241 = 0 := ex241
  refine lv_iconst (v := (-1)) hx hb dX9_look_168 (by decide) ?_
  refine lv_ixor hx hb dX9_look_169 ?_
  refine lv_topi (fun x242 ex242 => ?_)
  obtain rfl : x242 = (-1) := ex242.trans (by decide)
  refine lv_iand hx hb dX9_look_170 ?_
  refine lv_topi (fun x243 ex243 => ?_)
  obtain rfl : x243 = 1 := ex243.trans (by decide)
  refine va_iast hx hb hK hP hD hS 1 0 rfl rfl (in_lit (by decide)) dX9_look_171 (fun H locs hP hD hS => ?_)
  rw [rc_s 48 48 (by decide)] at hP hD
  have hP : va_P D vwCl [((a 51), .inl (cy 0, 61, .inl (fun _ => 0))), ((a 52), .inl (cy 0, 61, .inl (rc 49))), ((a 5), .inr (1, [.ref (a 40), .int 0, .int 0, .ref (a 46), .ref (a 47)])), ((a 10), .inr (0, [.int 0, .int 1, .int 1, .int 0, .int 0, .ref (a 11), .ref (a 12), .ref (a 13), .null, .null])), ((a 40), .inr (6, [.ref (a 10), .int 0, .ref (a 41), .ref (a 42), .ref (a 43), .ref (a 44), .ref (a 45), .int 0])), ((a 6), .inr (9, [.int 1, .ref (a 51), .ref (a 52), .ref (a 53), .ref (a 54), .ref (a 55)]))] H := hP
  have hD := va_ca hP hD
  refine lv_iinc (v := 49) (lv' := [(4, .int 49), (3, .int 1), (0, .ref (a 6)), (1, .ref (a 5)), (2, .int 0)]) hx hb dX9_look_172 hl (k := 0) rfl (by decide) (by decide) rfl (fun ls hl => ?_)
  refine lv_goto (tgt := 135) hx hb dX9_look_175 (by decide) ?_
  refine lv_iload hx hb dX9_look_135 (lv_at hl 0 rfl) ?_
  refine lv_bipush (v := 60) hx hb dX9_look_137 (by decide) ?_
  refine lv_icmp_gt (tgt := 178) hx hb dX9_look_139 (by decide) (fun q => absurd q (by decide)) (fun _ => ?_)
  refine lv_aload_n hx hb dX9_look_142 rfl (lv_at hl 2 rfl) ?_
  refine va_get (ci := 9) (v := .ref (a 52)) (C := RX9) (T := TX9) (N := 6) hx hb htA in_X9 hown hK hP 5 rfl rfl 2 (by decide) (htA _ wd_44) (fun _ h => h) rfl dX9_look_143 ?_
  refine lv_iload hx hb dX9_look_146 (lv_at hl 0 rfl) ?_
  refine lv_aload_n hx hb dX9_look_148 rfl (lv_at hl 2 rfl) ?_
  refine lv_aload_n hx hb dX9_look_149 rfl (lv_at hl 2 rfl) ?_
  refine va_get (ci := 9) (v := .ref (a 52)) (C := RX9) (T := TX9) (N := 6) hx hb htA in_X9 hown hK hP 5 rfl rfl 2 (by decide) (htA _ wd_44) (fun _ h => h) rfl dX9_look_150 ?_
  refine lv_iload hx hb dX9_look_153 (lv_at hl 0 rfl) ?_
  refine lv_iconst (v := 1) hx hb dX9_look_155 (by decide) ?_
  refine lv_isub hx hb dX9_look_156 ?_
  refine lv_topi (fun x244 ex244 => ?_)
  obtain rfl : x244 = 48 := ex244.trans (by decide)
  refine va_iald hx hb hK hP 1 0 rfl rfl (in_lit (by decide)) dX9_look_157 ?_
  refine lv_topi (fun x245 ex245 => ?_)
  obtain rfl : x245 = 1 := ex245.trans (by decide)
  refine kVi (As := [.int 1]) (rest := [.int 49, .ref (a 52)]) (wr := [((a 51), .inl (cy 0, 61, .inl (fun _ => 0))), ((a 52), .inl (cy 0, 61, .inl (rc 49))), ((a 5), .inr (1, [.ref (a 40), .int 0, .int 0, .ref (a 46), .ref (a 47)])), ((a 10), .inr (0, [.int 0, .int 1, .int 1, .int 0, .int 0, .ref (a 11), .ref (a 12), .ref (a 13), .null, .null])), ((a 40), .inr (6, [.ref (a 10), .int 0, .ref (a 41), .ref (a 42), .ref (a 43), .ref (a 44), .ref (a 45), .int 0]))]) hX hE (au_X9_near_58 l D cy a) (cwVA 1 htA wd_1188 wd_1185 wd_2 wd_1187 wp_37 (by decide +kernel) ⟨by decide, by decide⟩) hP hD hS [5] [0, 1, 2, 3, 4] rfl rfl (by decide +kernel) 0 rfl rfl rfl rfl hl.1 rfl (Nat.le_of_ble_eq_true rfl) dX9_look_158 (by decide) (fun r_ W1 H locs hw hP hD hS => ?_)
  refine W.widen (k := 0) (n := 0) (by decide) (by decide) ?_
  obtain ⟨rfl, rfl⟩ := hw
  have hP : va_P D vwCl [((a 51), .inl (cy 0, 61, .inl (fun _ => 0))), ((a 52), .inl (cy 0, 61, .inl (rc 49))), ((a 5), .inr (1, [.ref (a 40), .int 0, .int 0, .ref (a 46), .ref (a 47)])), ((a 10), .inr (0, [.int 0, .int 1, .int 1, .int 0, .int 0, .ref (a 11), .ref (a 12), .ref (a 13), .null, .null])), ((a 40), .inr (6, [.ref (a 10), .int 0, .ref (a 41), .ref (a 42), .ref (a 43), .ref (a 44), .ref (a 45), .int 0])), ((a 6), .inr (9, [.int 1, .ref (a 51), .ref (a 52), .ref (a 53), .ref (a 54), .ref (a 55)]))] H := hP
  have hD := va_ca hP hD
  refine lv_aload_n hx hb dX9_look_161 rfl (lv_at hl 2 rfl) ?_
  refine va_get (ci := 9) (v := .ref (a 51)) (C := RX9) (T := TX9) (N := 6) hx hb htA in_X9 hown hK hP 5 rfl rfl 1 (by decide) (htA _ wd_43) (fun _ h => h) rfl dX9_look_162 ?_
  refine lv_iload hx hb dX9_look_165 (lv_at hl 0 rfl) ?_
  refine va_iald hx hb hK hP 0 0 rfl rfl (in_lit (by decide)) dX9_look_167 ?_
  refine lv_topi (fun x246 ex246 => ?_)
  obtain rfl : x246 = 0 := ex246
  refine lv_iconst (v := (-1)) hx hb dX9_look_168 (by decide) ?_
  refine lv_ixor hx hb dX9_look_169 ?_
  refine lv_topi (fun x247 ex247 => ?_)
  obtain rfl : x247 = (-1) := ex247.trans (by decide)
  refine lv_iand hx hb dX9_look_170 ?_
  refine lv_topi (fun x248 ex248 => ?_)
  obtain rfl : x248 = 1 := ex248.trans (by decide)
  refine va_iast hx hb hK hP hD hS 1 0 rfl rfl (in_lit (by decide)) dX9_look_171 (fun H locs hP hD hS => ?_)
  rw [rc_s 49 49 (by decide)] at hP hD
  have hP : va_P D vwCl [((a 51), .inl (cy 0, 61, .inl (fun _ => 0))), ((a 52), .inl (cy 0, 61, .inl (rc 50))), ((a 5), .inr (1, [.ref (a 40), .int 0, .int 0, .ref (a 46), .ref (a 47)])), ((a 10), .inr (0, [.int 0, .int 1, .int 1, .int 0, .int 0, .ref (a 11), .ref (a 12), .ref (a 13), .null, .null])), ((a 40), .inr (6, [.ref (a 10), .int 0, .ref (a 41), .ref (a 42), .ref (a 43), .ref (a 44), .ref (a 45), .int 0])), ((a 6), .inr (9, [.int 1, .ref (a 51), .ref (a 52), .ref (a 53), .ref (a 54), .ref (a 55)]))] H := hP
  have hD := va_ca hP hD
  refine lv_iinc (v := 50) (lv' := [(4, .int 50), (3, .int 1), (0, .ref (a 6)), (1, .ref (a 5)), (2, .int 0)]) hx hb dX9_look_172 hl (k := 0) rfl (by decide) (by decide) rfl (fun ls hl => ?_)
  refine lv_goto (tgt := 135) hx hb dX9_look_175 (by decide) ?_
  refine lv_iload hx hb dX9_look_135 (lv_at hl 0 rfl) ?_
  refine lv_bipush (v := 60) hx hb dX9_look_137 (by decide) ?_
  refine lv_icmp_gt (tgt := 178) hx hb dX9_look_139 (by decide) (fun q => absurd q (by decide)) (fun _ => ?_)
  refine lv_aload_n hx hb dX9_look_142 rfl (lv_at hl 2 rfl) ?_
  refine va_get (ci := 9) (v := .ref (a 52)) (C := RX9) (T := TX9) (N := 6) hx hb htA in_X9 hown hK hP 5 rfl rfl 2 (by decide) (htA _ wd_44) (fun _ h => h) rfl dX9_look_143 ?_
  refine lv_iload hx hb dX9_look_146 (lv_at hl 0 rfl) ?_
  refine lv_aload_n hx hb dX9_look_148 rfl (lv_at hl 2 rfl) ?_
  refine lv_aload_n hx hb dX9_look_149 rfl (lv_at hl 2 rfl) ?_
  refine va_get (ci := 9) (v := .ref (a 52)) (C := RX9) (T := TX9) (N := 6) hx hb htA in_X9 hown hK hP 5 rfl rfl 2 (by decide) (htA _ wd_44) (fun _ h => h) rfl dX9_look_150 ?_
  refine lv_iload hx hb dX9_look_153 (lv_at hl 0 rfl) ?_
  refine lv_iconst (v := 1) hx hb dX9_look_155 (by decide) ?_
  refine lv_isub hx hb dX9_look_156 ?_
  refine lv_topi (fun x249 ex249 => ?_)
  obtain rfl : x249 = 49 := ex249.trans (by decide)
  refine va_iald hx hb hK hP 1 0 rfl rfl (in_lit (by decide)) dX9_look_157 ?_
  refine lv_topi (fun x250 ex250 => ?_)
  obtain rfl : x250 = 1 := ex250.trans (by decide)
  refine kVi (As := [.int 1]) (rest := [.int 50, .ref (a 52)]) (wr := [((a 51), .inl (cy 0, 61, .inl (fun _ => 0))), ((a 52), .inl (cy 0, 61, .inl (rc 50))), ((a 5), .inr (1, [.ref (a 40), .int 0, .int 0, .ref (a 46), .ref (a 47)])), ((a 10), .inr (0, [.int 0, .int 1, .int 1, .int 0, .int 0, .ref (a 11), .ref (a 12), .ref (a 13), .null, .null])), ((a 40), .inr (6, [.ref (a 10), .int 0, .ref (a 41), .ref (a 42), .ref (a 43), .ref (a 44), .ref (a 45), .int 0]))]) hX hE (au_X9_near_58 l D cy a) (cwVA 1 htA wd_1188 wd_1185 wd_2 wd_1187 wp_37 (by decide +kernel) ⟨by decide, by decide⟩) hP hD hS [5] [0, 1, 2, 3, 4] rfl rfl (by decide +kernel) 0 rfl rfl rfl rfl hl.1 rfl (Nat.le_of_ble_eq_true rfl) dX9_look_158 (by decide) (fun r_ W1 H locs hw hP hD hS => ?_)
  refine W.widen (k := 0) (n := 0) (by decide) (by decide) ?_
  obtain ⟨rfl, rfl⟩ := hw
  have hP : va_P D vwCl [((a 51), .inl (cy 0, 61, .inl (fun _ => 0))), ((a 52), .inl (cy 0, 61, .inl (rc 50))), ((a 5), .inr (1, [.ref (a 40), .int 0, .int 0, .ref (a 46), .ref (a 47)])), ((a 10), .inr (0, [.int 0, .int 1, .int 1, .int 0, .int 0, .ref (a 11), .ref (a 12), .ref (a 13), .null, .null])), ((a 40), .inr (6, [.ref (a 10), .int 0, .ref (a 41), .ref (a 42), .ref (a 43), .ref (a 44), .ref (a 45), .int 0])), ((a 6), .inr (9, [.int 1, .ref (a 51), .ref (a 52), .ref (a 53), .ref (a 54), .ref (a 55)]))] H := hP
  have hD := va_ca hP hD
  refine lv_aload_n hx hb dX9_look_161 rfl (lv_at hl 2 rfl) ?_
  refine va_get (ci := 9) (v := .ref (a 51)) (C := RX9) (T := TX9) (N := 6) hx hb htA in_X9 hown hK hP 5 rfl rfl 1 (by decide) (htA _ wd_43) (fun _ h => h) rfl dX9_look_162 ?_
  refine lv_iload hx hb dX9_look_165 (lv_at hl 0 rfl) ?_
  refine va_iald hx hb hK hP 0 0 rfl rfl (in_lit (by decide)) dX9_look_167 ?_
  refine lv_topi (fun x251 ex251 => ?_)
  obtain rfl : x251 = 0 := ex251
  refine lv_iconst (v := (-1)) hx hb dX9_look_168 (by decide) ?_
  refine lv_ixor hx hb dX9_look_169 ?_
  refine lv_topi (fun x252 ex252 => ?_)
  obtain rfl : x252 = (-1) := ex252.trans (by decide)
  refine lv_iand hx hb dX9_look_170 ?_
  refine lv_topi (fun x253 ex253 => ?_)
  obtain rfl : x253 = 1 := ex253.trans (by decide)
  refine va_iast hx hb hK hP hD hS 1 0 rfl rfl (in_lit (by decide)) dX9_look_171 (fun H locs hP hD hS => ?_)
  rw [rc_s 50 50 (by decide)] at hP hD
  have hP : va_P D vwCl [((a 51), .inl (cy 0, 61, .inl (fun _ => 0))), ((a 52), .inl (cy 0, 61, .inl (rc 51))), ((a 5), .inr (1, [.ref (a 40), .int 0, .int 0, .ref (a 46), .ref (a 47)])), ((a 10), .inr (0, [.int 0, .int 1, .int 1, .int 0, .int 0, .ref (a 11), .ref (a 12), .ref (a 13), .null, .null])), ((a 40), .inr (6, [.ref (a 10), .int 0, .ref (a 41), .ref (a 42), .ref (a 43), .ref (a 44), .ref (a 45), .int 0])), ((a 6), .inr (9, [.int 1, .ref (a 51), .ref (a 52), .ref (a 53), .ref (a 54), .ref (a 55)]))] H := hP
  have hD := va_ca hP hD
  refine lv_iinc (v := 51) (lv' := [(4, .int 51), (3, .int 1), (0, .ref (a 6)), (1, .ref (a 5)), (2, .int 0)]) hx hb dX9_look_172 hl (k := 0) rfl (by decide) (by decide) rfl (fun ls hl => ?_)
  refine lv_goto (tgt := 135) hx hb dX9_look_175 (by decide) ?_
  refine lv_iload hx hb dX9_look_135 (lv_at hl 0 rfl) ?_
  refine lv_bipush (v := 60) hx hb dX9_look_137 (by decide) ?_
  refine lv_icmp_gt (tgt := 178) hx hb dX9_look_139 (by decide) (fun q => absurd q (by decide)) (fun _ => ?_)
  refine lv_aload_n hx hb dX9_look_142 rfl (lv_at hl 2 rfl) ?_
  refine va_get (ci := 9) (v := .ref (a 52)) (C := RX9) (T := TX9) (N := 6) hx hb htA in_X9 hown hK hP 5 rfl rfl 2 (by decide) (htA _ wd_44) (fun _ h => h) rfl dX9_look_143 ?_
  refine lv_iload hx hb dX9_look_146 (lv_at hl 0 rfl) ?_
  refine lv_aload_n hx hb dX9_look_148 rfl (lv_at hl 2 rfl) ?_
  refine lv_aload_n hx hb dX9_look_149 rfl (lv_at hl 2 rfl) ?_
  refine va_get (ci := 9) (v := .ref (a 52)) (C := RX9) (T := TX9) (N := 6) hx hb htA in_X9 hown hK hP 5 rfl rfl 2 (by decide) (htA _ wd_44) (fun _ h => h) rfl dX9_look_150 ?_
  refine lv_iload hx hb dX9_look_153 (lv_at hl 0 rfl) ?_
  refine lv_iconst (v := 1) hx hb dX9_look_155 (by decide) ?_
  refine lv_isub hx hb dX9_look_156 ?_
  refine lv_topi (fun x254 ex254 => ?_)
  obtain rfl : x254 = 50 := ex254.trans (by decide)
  refine va_iald hx hb hK hP 1 0 rfl rfl (in_lit (by decide)) dX9_look_157 ?_
  refine lv_topi (fun x255 ex255 => ?_)
  obtain rfl : x255 = 1 := ex255.trans (by decide)
  refine kVi (As := [.int 1]) (rest := [.int 51, .ref (a 52)]) (wr := [((a 51), .inl (cy 0, 61, .inl (fun _ => 0))), ((a 52), .inl (cy 0, 61, .inl (rc 51))), ((a 5), .inr (1, [.ref (a 40), .int 0, .int 0, .ref (a 46), .ref (a 47)])), ((a 10), .inr (0, [.int 0, .int 1, .int 1, .int 0, .int 0, .ref (a 11), .ref (a 12), .ref (a 13), .null, .null])), ((a 40), .inr (6, [.ref (a 10), .int 0, .ref (a 41), .ref (a 42), .ref (a 43), .ref (a 44), .ref (a 45), .int 0]))]) hX hE (au_X9_near_58 l D cy a) (cwVA 1 htA wd_1188 wd_1185 wd_2 wd_1187 wp_37 (by decide +kernel) ⟨by decide, by decide⟩) hP hD hS [5] [0, 1, 2, 3, 4] rfl rfl (by decide +kernel) 0 rfl rfl rfl rfl hl.1 rfl (Nat.le_of_ble_eq_true rfl) dX9_look_158 (by decide) (fun r_ W1 H locs hw hP hD hS => ?_)
  refine W.widen (k := 0) (n := 0) (by decide) (by decide) ?_
  obtain ⟨rfl, rfl⟩ := hw
  have hP : va_P D vwCl [((a 51), .inl (cy 0, 61, .inl (fun _ => 0))), ((a 52), .inl (cy 0, 61, .inl (rc 51))), ((a 5), .inr (1, [.ref (a 40), .int 0, .int 0, .ref (a 46), .ref (a 47)])), ((a 10), .inr (0, [.int 0, .int 1, .int 1, .int 0, .int 0, .ref (a 11), .ref (a 12), .ref (a 13), .null, .null])), ((a 40), .inr (6, [.ref (a 10), .int 0, .ref (a 41), .ref (a 42), .ref (a 43), .ref (a 44), .ref (a 45), .int 0])), ((a 6), .inr (9, [.int 1, .ref (a 51), .ref (a 52), .ref (a 53), .ref (a 54), .ref (a 55)]))] H := hP
  have hD := va_ca hP hD
  refine lv_aload_n hx hb dX9_look_161 rfl (lv_at hl 2 rfl) ?_
  refine va_get (ci := 9) (v := .ref (a 51)) (C := RX9) (T := TX9) (N := 6) hx hb htA in_X9 hown hK hP 5 rfl rfl 1 (by decide) (htA _ wd_43) (fun _ h => h) rfl dX9_look_162 ?_
  refine lv_iload hx hb dX9_look_165 (lv_at hl 0 rfl) ?_
  refine va_iald hx hb hK hP 0 0 rfl rfl (in_lit (by decide)) dX9_look_167 ?_
  refine lv_topi (fun x256 ex256 => ?_)
  obtain rfl : x256 = 0 := ex256
  refine lv_iconst (v := (-1)) hx hb dX9_look_168 (by decide) ?_
  refine lv_ixor hx hb dX9_look_169 ?_
  refine lv_topi (fun x257 ex257 => ?_)
  obtain rfl : x257 = (-1) := ex257.trans (by decide)
  refine lv_iand hx hb dX9_look_170 ?_
  refine lv_topi (fun x258 ex258 => ?_)
  obtain rfl : x258 = 1 := ex258.trans (by decide)
  refine va_iast hx hb hK hP hD hS 1 0 rfl rfl (in_lit (by decide)) dX9_look_171 (fun H locs hP hD hS => ?_)
  rw [rc_s 51 51 (by decide)] at hP hD
  have hP : va_P D vwCl [((a 51), .inl (cy 0, 61, .inl (fun _ => 0))), ((a 52), .inl (cy 0, 61, .inl (rc 52))), ((a 5), .inr (1, [.ref (a 40), .int 0, .int 0, .ref (a 46), .ref (a 47)])), ((a 10), .inr (0, [.int 0, .int 1, .int 1, .int 0, .int 0, .ref (a 11), .ref (a 12), .ref (a 13), .null, .null])), ((a 40), .inr (6, [.ref (a 10), .int 0, .ref (a 41), .ref (a 42), .ref (a 43), .ref (a 44), .ref (a 45), .int 0])), ((a 6), .inr (9, [.int 1, .ref (a 51), .ref (a 52), .ref (a 53), .ref (a 54), .ref (a 55)]))] H := hP
  have hD := va_ca hP hD
  refine lv_iinc (v := 52) (lv' := [(4, .int 52), (3, .int 1), (0, .ref (a 6)), (1, .ref (a 5)), (2, .int 0)]) hx hb dX9_look_172 hl (k := 0) rfl (by decide) (by decide) rfl (fun ls hl => ?_)
  refine lv_goto (tgt := 135) hx hb dX9_look_175 (by decide) ?_
  refine lv_iload hx hb dX9_look_135 (lv_at hl 0 rfl) ?_
  refine lv_bipush (v := 60) hx hb dX9_look_137 (by decide) ?_
  refine lv_icmp_gt (tgt := 178) hx hb dX9_look_139 (by decide) (fun q => absurd q (by decide)) (fun _ => ?_)
  refine lv_aload_n hx hb dX9_look_142 rfl (lv_at hl 2 rfl) ?_
  refine va_get (ci := 9) (v := .ref (a 52)) (C := RX9) (T := TX9) (N := 6) hx hb htA in_X9 hown hK hP 5 rfl rfl 2 (by decide) (htA _ wd_44) (fun _ h => h) rfl dX9_look_143 ?_
  refine lv_iload hx hb dX9_look_146 (lv_at hl 0 rfl) ?_
  refine lv_aload_n hx hb dX9_look_148 rfl (lv_at hl 2 rfl) ?_
  refine lv_aload_n hx hb dX9_look_149 rfl (lv_at hl 2 rfl) ?_
  refine va_get (ci := 9) (v := .ref (a 52)) (C := RX9) (T := TX9) (N := 6) hx hb htA in_X9 hown hK hP 5 rfl rfl 2 (by decide) (htA _ wd_44) (fun _ h => h) rfl dX9_look_150 ?_
  refine lv_iload hx hb dX9_look_153 (lv_at hl 0 rfl) ?_
  refine lv_iconst (v := 1) hx hb dX9_look_155 (by decide) ?_
  refine lv_isub hx hb dX9_look_156 ?_
  refine lv_topi (fun x259 ex259 => ?_)
  obtain rfl : x259 = 51 := ex259.trans (by decide)
  refine va_iald hx hb hK hP 1 0 rfl rfl (in_lit (by decide)) dX9_look_157 ?_
  refine lv_topi (fun x260 ex260 => ?_)
  obtain rfl : x260 = 1 := ex260.trans (by decide)
  refine kVi (As := [.int 1]) (rest := [.int 52, .ref (a 52)]) (wr := [((a 51), .inl (cy 0, 61, .inl (fun _ => 0))), ((a 52), .inl (cy 0, 61, .inl (rc 52))), ((a 5), .inr (1, [.ref (a 40), .int 0, .int 0, .ref (a 46), .ref (a 47)])), ((a 10), .inr (0, [.int 0, .int 1, .int 1, .int 0, .int 0, .ref (a 11), .ref (a 12), .ref (a 13), .null, .null])), ((a 40), .inr (6, [.ref (a 10), .int 0, .ref (a 41), .ref (a 42), .ref (a 43), .ref (a 44), .ref (a 45), .int 0]))]) hX hE (au_X9_near_58 l D cy a) (cwVA 1 htA wd_1188 wd_1185 wd_2 wd_1187 wp_37 (by decide +kernel) ⟨by decide, by decide⟩) hP hD hS [5] [0, 1, 2, 3, 4] rfl rfl (by decide +kernel) 0 rfl rfl rfl rfl hl.1 rfl (Nat.le_of_ble_eq_true rfl) dX9_look_158 (by decide) (fun r_ W1 H locs hw hP hD hS => ?_)
  refine W.widen (k := 0) (n := 0) (by decide) (by decide) ?_
  obtain ⟨rfl, rfl⟩ := hw
  have hP : va_P D vwCl [((a 51), .inl (cy 0, 61, .inl (fun _ => 0))), ((a 52), .inl (cy 0, 61, .inl (rc 52))), ((a 5), .inr (1, [.ref (a 40), .int 0, .int 0, .ref (a 46), .ref (a 47)])), ((a 10), .inr (0, [.int 0, .int 1, .int 1, .int 0, .int 0, .ref (a 11), .ref (a 12), .ref (a 13), .null, .null])), ((a 40), .inr (6, [.ref (a 10), .int 0, .ref (a 41), .ref (a 42), .ref (a 43), .ref (a 44), .ref (a 45), .int 0])), ((a 6), .inr (9, [.int 1, .ref (a 51), .ref (a 52), .ref (a 53), .ref (a 54), .ref (a 55)]))] H := hP
  have hD := va_ca hP hD
  refine lv_aload_n hx hb dX9_look_161 rfl (lv_at hl 2 rfl) ?_
  refine va_get (ci := 9) (v := .ref (a 51)) (C := RX9) (T := TX9) (N := 6) hx hb htA in_X9 hown hK hP 5 rfl rfl 1 (by decide) (htA _ wd_43) (fun _ h => h) rfl dX9_look_162 ?_
  refine lv_iload hx hb dX9_look_165 (lv_at hl 0 rfl) ?_
  refine va_iald hx hb hK hP 0 0 rfl rfl (in_lit (by decide)) dX9_look_167 ?_
  refine lv_topi (fun x261 ex261 => ?_)
  obtain rfl : x261 = 0 := ex261
  refine lv_iconst (v := (-1)) hx hb dX9_look_168 (by decide) ?_
  refine lv_ixor hx hb dX9_look_169 ?_
  refine lv_topi (fun x262 ex262 => ?_)
  obtain rfl : x262 = (-1) := ex262.trans (by decide)
  refine lv_iand hx hb dX9_look_170 ?_
  refine lv_topi (fun x263 ex263 => ?_)
  obtain rfl : x263 = 1 := ex263.trans (by decide)
  refine va_iast hx hb hK hP hD hS 1 0 rfl rfl (in_lit (by decide)) dX9_look_171 (fun H locs hP hD hS => ?_)
  rw [rc_s 52 52 (by decide)] at hP hD
  have hP : va_P D vwCl [((a 51), .inl (cy 0, 61, .inl (fun _ => 0))), ((a 52), .inl (cy 0, 61, .inl (rc 53))), ((a 5), .inr (1, [.ref (a 40), .int 0, .int 0, .ref (a 46), .ref (a 47)])), ((a 10), .inr (0, [.int 0, .int 1, .int 1, .int 0, .int 0, .ref (a 11), .ref (a 12), .ref (a 13), .null, .null])), ((a 40), .inr (6, [.ref (a 10), .int 0, .ref (a 41), .ref (a 42), .ref (a 43), .ref (a 44), .ref (a 45), .int 0])), ((a 6), .inr (9, [.int 1, .ref (a 51), .ref (a 52), .ref (a 53), .ref (a 54), .ref (a 55)]))] H := hP
  have hD := va_ca hP hD
  refine lv_iinc (v := 53) (lv' := [(4, .int 53), (3, .int 1), (0, .ref (a 6)), (1, .ref (a 5)), (2, .int 0)]) hx hb dX9_look_172 hl (k := 0) rfl (by decide) (by decide) rfl (fun ls hl => ?_)
  refine lv_goto (tgt := 135) hx hb dX9_look_175 (by decide) ?_
  refine lv_iload hx hb dX9_look_135 (lv_at hl 0 rfl) ?_
  refine lv_bipush (v := 60) hx hb dX9_look_137 (by decide) ?_
  refine lv_icmp_gt (tgt := 178) hx hb dX9_look_139 (by decide) (fun q => absurd q (by decide)) (fun _ => ?_)
  refine lv_aload_n hx hb dX9_look_142 rfl (lv_at hl 2 rfl) ?_
  refine va_get (ci := 9) (v := .ref (a 52)) (C := RX9) (T := TX9) (N := 6) hx hb htA in_X9 hown hK hP 5 rfl rfl 2 (by decide) (htA _ wd_44) (fun _ h => h) rfl dX9_look_143 ?_
  refine lv_iload hx hb dX9_look_146 (lv_at hl 0 rfl) ?_
  refine lv_aload_n hx hb dX9_look_148 rfl (lv_at hl 2 rfl) ?_
  refine lv_aload_n hx hb dX9_look_149 rfl (lv_at hl 2 rfl) ?_
  refine va_get (ci := 9) (v := .ref (a 52)) (C := RX9) (T := TX9) (N := 6) hx hb htA in_X9 hown hK hP 5 rfl rfl 2 (by decide) (htA _ wd_44) (fun _ h => h) rfl dX9_look_150 ?_
  refine lv_iload hx hb dX9_look_153 (lv_at hl 0 rfl) ?_
  refine lv_iconst (v := 1) hx hb dX9_look_155 (by decide) ?_
  refine lv_isub hx hb dX9_look_156 ?_
  refine lv_topi (fun x264 ex264 => ?_)
  obtain rfl : x264 = 52 := ex264.trans (by decide)
  refine va_iald hx hb hK hP 1 0 rfl rfl (in_lit (by decide)) dX9_look_157 ?_
  refine lv_topi (fun x265 ex265 => ?_)
  obtain rfl : x265 = 1 := ex265.trans (by decide)
  refine kVi (As := [.int 1]) (rest := [.int 53, .ref (a 52)]) (wr := [((a 51), .inl (cy 0, 61, .inl (fun _ => 0))), ((a 52), .inl (cy 0, 61, .inl (rc 53))), ((a 5), .inr (1, [.ref (a 40), .int 0, .int 0, .ref (a 46), .ref (a 47)])), ((a 10), .inr (0, [.int 0, .int 1, .int 1, .int 0, .int 0, .ref (a 11), .ref (a 12), .ref (a 13), .null, .null])), ((a 40), .inr (6, [.ref (a 10), .int 0, .ref (a 41), .ref (a 42), .ref (a 43), .ref (a 44), .ref (a 45), .int 0]))]) hX hE (au_X9_near_58 l D cy a) (cwVA 1 htA wd_1188 wd_1185 wd_2 wd_1187 wp_37 (by decide +kernel) ⟨by decide, by decide⟩) hP hD hS [5] [0, 1, 2, 3, 4] rfl rfl (by decide +kernel) 0 rfl rfl rfl rfl hl.1 rfl (Nat.le_of_ble_eq_true rfl) dX9_look_158 (by decide) (fun r_ W1 H locs hw hP hD hS => ?_)
  refine W.widen (k := 0) (n := 0) (by decide) (by decide) ?_
  obtain ⟨rfl, rfl⟩ := hw
  have hP : va_P D vwCl [((a 51), .inl (cy 0, 61, .inl (fun _ => 0))), ((a 52), .inl (cy 0, 61, .inl (rc 53))), ((a 5), .inr (1, [.ref (a 40), .int 0, .int 0, .ref (a 46), .ref (a 47)])), ((a 10), .inr (0, [.int 0, .int 1, .int 1, .int 0, .int 0, .ref (a 11), .ref (a 12), .ref (a 13), .null, .null])), ((a 40), .inr (6, [.ref (a 10), .int 0, .ref (a 41), .ref (a 42), .ref (a 43), .ref (a 44), .ref (a 45), .int 0])), ((a 6), .inr (9, [.int 1, .ref (a 51), .ref (a 52), .ref (a 53), .ref (a 54), .ref (a 55)]))] H := hP
  have hD := va_ca hP hD
  refine lv_aload_n hx hb dX9_look_161 rfl (lv_at hl 2 rfl) ?_
  refine va_get (ci := 9) (v := .ref (a 51)) (C := RX9) (T := TX9) (N := 6) hx hb htA in_X9 hown hK hP 5 rfl rfl 1 (by decide) (htA _ wd_43) (fun _ h => h) rfl dX9_look_162 ?_
  refine lv_iload hx hb dX9_look_165 (lv_at hl 0 rfl) ?_
  refine va_iald hx hb hK hP 0 0 rfl rfl (in_lit (by decide)) dX9_look_167 ?_
  refine lv_topi (fun x266 ex266 => ?_)
  obtain rfl : x266 = 0 := ex266
  refine lv_iconst (v := (-1)) hx hb dX9_look_168 (by decide) ?_
  refine lv_ixor hx hb dX9_look_169 ?_
  refine lv_topi (fun x267 ex267 => ?_)
  obtain rfl : x267 = (-1) := ex267.trans (by decide)
  refine lv_iand hx hb dX9_look_170 ?_
  refine lv_topi (fun x268 ex268 => ?_)
  obtain rfl : x268 = 1 := ex268.trans (by decide)
  refine va_iast hx hb hK hP hD hS 1 0 rfl rfl (in_lit (by decide)) dX9_look_171 (fun H locs hP hD hS => ?_)
  rw [rc_s 53 53 (by decide)] at hP hD
  have hP : va_P D vwCl [((a 51), .inl (cy 0, 61, .inl (fun _ => 0))), ((a 52), .inl (cy 0, 61, .inl (rc 54))), ((a 5), .inr (1, [.ref (a 40), .int 0, .int 0, .ref (a 46), .ref (a 47)])), ((a 10), .inr (0, [.int 0, .int 1, .int 1, .int 0, .int 0, .ref (a 11), .ref (a 12), .ref (a 13), .null, .null])), ((a 40), .inr (6, [.ref (a 10), .int 0, .ref (a 41), .ref (a 42), .ref (a 43), .ref (a 44), .ref (a 45), .int 0])), ((a 6), .inr (9, [.int 1, .ref (a 51), .ref (a 52), .ref (a 53), .ref (a 54), .ref (a 55)]))] H := hP
  have hD := va_ca hP hD
  refine lv_iinc (v := 54) (lv' := [(4, .int 54), (3, .int 1), (0, .ref (a 6)), (1, .ref (a 5)), (2, .int 0)]) hx hb dX9_look_172 hl (k := 0) rfl (by decide) (by decide) rfl (fun ls hl => ?_)
  refine lv_goto (tgt := 135) hx hb dX9_look_175 (by decide) ?_
  refine lv_iload hx hb dX9_look_135 (lv_at hl 0 rfl) ?_
  refine lv_bipush (v := 60) hx hb dX9_look_137 (by decide) ?_
  refine lv_icmp_gt (tgt := 178) hx hb dX9_look_139 (by decide) (fun q => absurd q (by decide)) (fun _ => ?_)
  refine lv_aload_n hx hb dX9_look_142 rfl (lv_at hl 2 rfl) ?_
  refine va_get (ci := 9) (v := .ref (a 52)) (C := RX9) (T := TX9) (N := 6) hx hb htA in_X9 hown hK hP 5 rfl rfl 2 (by decide) (htA _ wd_44) (fun _ h => h) rfl dX9_look_143 ?_
  refine lv_iload hx hb dX9_look_146 (lv_at hl 0 rfl) ?_
  refine lv_aload_n hx hb dX9_look_148 rfl (lv_at hl 2 rfl) ?_
  refine lv_aload_n hx hb dX9_look_149 rfl (lv_at hl 2 rfl) ?_
  refine va_get (ci := 9) (v := .ref (a 52)) (C := RX9) (T := TX9) (N := 6) hx hb htA in_X9 hown hK hP 5 rfl rfl 2 (by decide) (htA _ wd_44) (fun _ h => h) rfl dX9_look_150 ?_
  refine lv_iload hx hb dX9_look_153 (lv_at hl 0 rfl) ?_
  refine lv_iconst (v := 1) hx hb dX9_look_155 (by decide) ?_
  refine lv_isub hx hb dX9_look_156 ?_
  refine lv_topi (fun x269 ex269 => ?_)
  obtain rfl : x269 = 53 := ex269.trans (by decide)
  refine va_iald hx hb hK hP 1 0 rfl rfl (in_lit (by decide)) dX9_look_157 ?_
  refine lv_topi (fun x270 ex270 => ?_)
  obtain rfl : x270 = 1 := ex270.trans (by decide)
  refine kVi (As := [.int 1]) (rest := [.int 54, .ref (a 52)]) (wr := [((a 51), .inl (cy 0, 61, .inl (fun _ => 0))), ((a 52), .inl (cy 0, 61, .inl (rc 54))), ((a 5), .inr (1, [.ref (a 40), .int 0, .int 0, .ref (a 46), .ref (a 47)])), ((a 10), .inr (0, [.int 0, .int 1, .int 1, .int 0, .int 0, .ref (a 11), .ref (a 12), .ref (a 13), .null, .null])), ((a 40), .inr (6, [.ref (a 10), .int 0, .ref (a 41), .ref (a 42), .ref (a 43), .ref (a 44), .ref (a 45), .int 0]))]) hX hE (au_X9_near_58 l D cy a) (cwVA 1 htA wd_1188 wd_1185 wd_2 wd_1187 wp_37 (by decide +kernel) ⟨by decide, by decide⟩) hP hD hS [5] [0, 1, 2, 3, 4] rfl rfl (by decide +kernel) 0 rfl rfl rfl rfl hl.1 rfl (Nat.le_of_ble_eq_true rfl) dX9_look_158 (by decide) (fun r_ W1 H locs hw hP hD hS => ?_)
  refine W.widen (k := 0) (n := 0) (by decide) (by decide) ?_
  obtain ⟨rfl, rfl⟩ := hw
  have hP : va_P D vwCl [((a 51), .inl (cy 0, 61, .inl (fun _ => 0))), ((a 52), .inl (cy 0, 61, .inl (rc 54))), ((a 5), .inr (1, [.ref (a 40), .int 0, .int 0, .ref (a 46), .ref (a 47)])), ((a 10), .inr (0, [.int 0, .int 1, .int 1, .int 0, .int 0, .ref (a 11), .ref (a 12), .ref (a 13), .null, .null])), ((a 40), .inr (6, [.ref (a 10), .int 0, .ref (a 41), .ref (a 42), .ref (a 43), .ref (a 44), .ref (a 45), .int 0])), ((a 6), .inr (9, [.int 1, .ref (a 51), .ref (a 52), .ref (a 53), .ref (a 54), .ref (a 55)]))] H := hP
  have hD := va_ca hP hD
  refine lv_aload_n hx hb dX9_look_161 rfl (lv_at hl 2 rfl) ?_
  refine va_get (ci := 9) (v := .ref (a 51)) (C := RX9) (T := TX9) (N := 6) hx hb htA in_X9 hown hK hP 5 rfl rfl 1 (by decide) (htA _ wd_43) (fun _ h => h) rfl dX9_look_162 ?_
  refine lv_iload hx hb dX9_look_165 (lv_at hl 0 rfl) ?_
  refine va_iald hx hb hK hP 0 0 rfl rfl (in_lit (by decide)) dX9_look_167 ?_
  refine lv_topi (fun x271 ex271 => ?_)
  obtain rfl : x271 = 0 := ex271
  refine lv_iconst (v := (-1)) hx hb dX9_look_168 (by decide) ?_
  refine lv_ixor hx hb dX9_look_169 ?_
  refine lv_topi (fun x272 ex272 => ?_)
  obtain rfl : x272 = (-1) := ex272.trans (by decide)
  refine lv_iand hx hb dX9_look_170 ?_
  refine lv_topi (fun x273 ex273 => ?_)
  obtain rfl : x273 = 1 := ex273.trans (by decide)
  refine va_iast hx hb hK hP hD hS 1 0 rfl rfl (in_lit (by decide)) dX9_look_171 (fun H locs hP hD hS => ?_)
  rw [rc_s 54 54 (by decide)] at hP hD
  have hP : va_P D vwCl [((a 51), .inl (cy 0, 61, .inl (fun _ => 0))), ((a 52), .inl (cy 0, 61, .inl (rc 55))), ((a 5), .inr (1, [.ref (a 40), .int 0, .int 0, .ref (a 46), .ref (a 47)])), ((a 10), .inr (0, [.int 0, .int 1, .int 1, .int 0, .int 0, .ref (a 11), .ref (a 12), .ref (a 13), .null, .null])), ((a 40), .inr (6, [.ref (a 10), .int 0, .ref (a 41), .ref (a 42), .ref (a 43), .ref (a 44), .ref (a 45), .int 0])), ((a 6), .inr (9, [.int 1, .ref (a 51), .ref (a 52), .ref (a 53), .ref (a 54), .ref (a 55)]))] H := hP
  have hD := va_ca hP hD
  refine lv_iinc (v := 55) (lv' := [(4, .int 55), (3, .int 1), (0, .ref (a 6)), (1, .ref (a 5)), (2, .int 0)]) hx hb dX9_look_172 hl (k := 0) rfl (by decide) (by decide) rfl (fun ls hl => ?_)
  refine lv_goto (tgt := 135) hx hb dX9_look_175 (by decide) ?_
  refine lv_iload hx hb dX9_look_135 (lv_at hl 0 rfl) ?_
  refine lv_bipush (v := 60) hx hb dX9_look_137 (by decide) ?_
  refine lv_icmp_gt (tgt := 178) hx hb dX9_look_139 (by decide) (fun q => absurd q (by decide)) (fun _ => ?_)
  refine lv_aload_n hx hb dX9_look_142 rfl (lv_at hl 2 rfl) ?_
  refine va_get (ci := 9) (v := .ref (a 52)) (C := RX9) (T := TX9) (N := 6) hx hb htA in_X9 hown hK hP 5 rfl rfl 2 (by decide) (htA _ wd_44) (fun _ h => h) rfl dX9_look_143 ?_
  refine lv_iload hx hb dX9_look_146 (lv_at hl 0 rfl) ?_
  refine lv_aload_n hx hb dX9_look_148 rfl (lv_at hl 2 rfl) ?_
  refine lv_aload_n hx hb dX9_look_149 rfl (lv_at hl 2 rfl) ?_
  refine va_get (ci := 9) (v := .ref (a 52)) (C := RX9) (T := TX9) (N := 6) hx hb htA in_X9 hown hK hP 5 rfl rfl 2 (by decide) (htA _ wd_44) (fun _ h => h) rfl dX9_look_150 ?_
  refine lv_iload hx hb dX9_look_153 (lv_at hl 0 rfl) ?_
  refine lv_iconst (v := 1) hx hb dX9_look_155 (by decide) ?_
  refine lv_isub hx hb dX9_look_156 ?_
  refine lv_topi (fun x274 ex274 => ?_)
  obtain rfl : x274 = 54 := ex274.trans (by decide)
  refine va_iald hx hb hK hP 1 0 rfl rfl (in_lit (by decide)) dX9_look_157 ?_
  refine lv_topi (fun x275 ex275 => ?_)
  obtain rfl : x275 = 1 := ex275.trans (by decide)
  refine kVi (As := [.int 1]) (rest := [.int 55, .ref (a 52)]) (wr := [((a 51), .inl (cy 0, 61, .inl (fun _ => 0))), ((a 52), .inl (cy 0, 61, .inl (rc 55))), ((a 5), .inr (1, [.ref (a 40), .int 0, .int 0, .ref (a 46), .ref (a 47)])), ((a 10), .inr (0, [.int 0, .int 1, .int 1, .int 0, .int 0, .ref (a 11), .ref (a 12), .ref (a 13), .null, .null])), ((a 40), .inr (6, [.ref (a 10), .int 0, .ref (a 41), .ref (a 42), .ref (a 43), .ref (a 44), .ref (a 45), .int 0]))]) hX hE (au_X9_near_58 l D cy a) (cwVA 1 htA wd_1188 wd_1185 wd_2 wd_1187 wp_37 (by decide +kernel) ⟨by decide, by decide⟩) hP hD hS [5] [0, 1, 2, 3, 4] rfl rfl (by decide +kernel) 0 rfl rfl rfl rfl hl.1 rfl (Nat.le_of_ble_eq_true rfl) dX9_look_158 (by decide) (fun r_ W1 H locs hw hP hD hS => ?_)
  refine W.widen (k := 0) (n := 0) (by decide) (by decide) ?_
  obtain ⟨rfl, rfl⟩ := hw
  have hP : va_P D vwCl [((a 51), .inl (cy 0, 61, .inl (fun _ => 0))), ((a 52), .inl (cy 0, 61, .inl (rc 55))), ((a 5), .inr (1, [.ref (a 40), .int 0, .int 0, .ref (a 46), .ref (a 47)])), ((a 10), .inr (0, [.int 0, .int 1, .int 1, .int 0, .int 0, .ref (a 11), .ref (a 12), .ref (a 13), .null, .null])), ((a 40), .inr (6, [.ref (a 10), .int 0, .ref (a 41), .ref (a 42), .ref (a 43), .ref (a 44), .ref (a 45), .int 0])), ((a 6), .inr (9, [.int 1, .ref (a 51), .ref (a 52), .ref (a 53), .ref (a 54), .ref (a 55)]))] H := hP
  have hD := va_ca hP hD
  refine lv_aload_n hx hb dX9_look_161 rfl (lv_at hl 2 rfl) ?_
  refine va_get (ci := 9) (v := .ref (a 51)) (C := RX9) (T := TX9) (N := 6) hx hb htA in_X9 hown hK hP 5 rfl rfl 1 (by decide) (htA _ wd_43) (fun _ h => h) rfl dX9_look_162 ?_
  refine lv_iload hx hb dX9_look_165 (lv_at hl 0 rfl) ?_
  refine va_iald hx hb hK hP 0 0 rfl rfl (in_lit (by decide)) dX9_look_167 ?_
  refine lv_topi (fun x276 ex276 => ?_)
  obtain rfl : x276 = 0 := ex276
  refine lv_iconst (v := (-1)) hx hb dX9_look_168 (by decide) ?_
  refine lv_ixor hx hb dX9_look_169 ?_
  refine lv_topi (fun x277 ex277 => ?_)
  obtain rfl : x277 = (-1) := ex277.trans (by decide)
  refine lv_iand hx hb dX9_look_170 ?_
  refine lv_topi (fun x278 ex278 => ?_)
  obtain rfl : x278 = 1 := ex278.trans (by decide)
  refine va_iast hx hb hK hP hD hS 1 0 rfl rfl (in_lit (by decide)) dX9_look_171 (fun H locs hP hD hS => ?_)
  rw [rc_s 55 55 (by decide)] at hP hD
  have hP : va_P D vwCl [((a 51), .inl (cy 0, 61, .inl (fun _ => 0))), ((a 52), .inl (cy 0, 61, .inl (rc 56))), ((a 5), .inr (1, [.ref (a 40), .int 0, .int 0, .ref (a 46), .ref (a 47)])), ((a 10), .inr (0, [.int 0, .int 1, .int 1, .int 0, .int 0, .ref (a 11), .ref (a 12), .ref (a 13), .null, .null])), ((a 40), .inr (6, [.ref (a 10), .int 0, .ref (a 41), .ref (a 42), .ref (a 43), .ref (a 44), .ref (a 45), .int 0])), ((a 6), .inr (9, [.int 1, .ref (a 51), .ref (a 52), .ref (a 53), .ref (a 54), .ref (a 55)]))] H := hP
  have hD := va_ca hP hD
  refine lv_iinc (v := 56) (lv' := [(4, .int 56), (3, .int 1), (0, .ref (a 6)), (1, .ref (a 5)), (2, .int 0)]) hx hb dX9_look_172 hl (k := 0) rfl (by decide) (by decide) rfl (fun ls hl => ?_)
  refine lv_goto (tgt := 135) hx hb dX9_look_175 (by decide) ?_
  refine lv_iload hx hb dX9_look_135 (lv_at hl 0 rfl) ?_
  refine lv_bipush (v := 60) hx hb dX9_look_137 (by decide) ?_
  refine lv_icmp_gt (tgt := 178) hx hb dX9_look_139 (by decide) (fun q => absurd q (by decide)) (fun _ => ?_)
  refine lv_aload_n hx hb dX9_look_142 rfl (lv_at hl 2 rfl) ?_
  refine va_get (ci := 9) (v := .ref (a 52)) (C := RX9) (T := TX9) (N := 6) hx hb htA in_X9 hown hK hP 5 rfl rfl 2 (by decide) (htA _ wd_44) (fun _ h => h) rfl dX9_look_143 ?_
  refine lv_iload hx hb dX9_look_146 (lv_at hl 0 rfl) ?_
  refine lv_aload_n hx hb dX9_look_148 rfl (lv_at hl 2 rfl) ?_
  refine lv_aload_n hx hb dX9_look_149 rfl (lv_at hl 2 rfl) ?_
  refine va_get (ci := 9) (v := .ref (a 52)) (C := RX9) (T := TX9) (N := 6) hx hb htA in_X9 hown hK hP 5 rfl rfl 2 (by decide) (htA _ wd_44) (fun _ h => h) rfl dX9_look_150 ?_
  refine lv_iload hx hb dX9_look_153 (lv_at hl 0 rfl) ?_
  refine lv_iconst (v := 1) hx hb dX9_look_155 (by decide) ?_
  refine lv_isub hx hb dX9_look_156 ?_
  refine lv_topi (fun x279 ex279 => ?_)
  obtain rfl : x279 = 55 := ex279.trans (by decide)
  refine va_iald hx hb hK hP 1 0 rfl rfl (in_lit (by decide)) dX9_look_157 ?_
  refine lv_topi (fun x280 ex280 => ?_)
  obtain rfl : x280 = 1 := ex280.trans (by decide)
  refine kVi (As := [.int 1]) (rest := [.int 56, .ref (a 52)]) (wr := [((a 51), .inl (cy 0, 61, .inl (fun _ => 0))), ((a 52), .inl (cy 0, 61, .inl (rc 56))), ((a 5), .inr (1, [.ref (a 40), .int 0, .int 0, .ref (a 46), .ref (a 47)])), ((a 10), .inr (0, [.int 0, .int 1, .int 1, .int 0, .int 0, .ref (a 11), .ref (a 12), .ref (a 13), .null, .null])), ((a 40), .inr (6, [.ref (a 10), .int 0, .ref (a 41), .ref (a 42), .ref (a 43), .ref (a 44), .ref (a 45), .int 0]))]) hX hE (au_X9_near_58 l D cy a) (cwVA 1 htA wd_1188 wd_1185 wd_2 wd_1187 wp_37 (by decide +kernel) ⟨by decide, by decide⟩) hP hD hS [5] [0, 1, 2, 3, 4] rfl rfl (by decide +kernel) 0 rfl rfl rfl rfl hl.1 rfl (Nat.le_of_ble_eq_true rfl) dX9_look_158 (by decide) (fun r_ W1 H locs hw hP hD hS => ?_)
  refine W.widen (k := 0) (n := 0) (by decide) (by decide) ?_
  obtain ⟨rfl, rfl⟩ := hw
  have hP : va_P D vwCl [((a 51), .inl (cy 0, 61, .inl (fun _ => 0))), ((a 52), .inl (cy 0, 61, .inl (rc 56))), ((a 5), .inr (1, [.ref (a 40), .int 0, .int 0, .ref (a 46), .ref (a 47)])), ((a 10), .inr (0, [.int 0, .int 1, .int 1, .int 0, .int 0, .ref (a 11), .ref (a 12), .ref (a 13), .null, .null])), ((a 40), .inr (6, [.ref (a 10), .int 0, .ref (a 41), .ref (a 42), .ref (a 43), .ref (a 44), .ref (a 45), .int 0])), ((a 6), .inr (9, [.int 1, .ref (a 51), .ref (a 52), .ref (a 53), .ref (a 54), .ref (a 55)]))] H := hP
  have hD := va_ca hP hD
  refine lv_aload_n hx hb dX9_look_161 rfl (lv_at hl 2 rfl) ?_
  refine va_get (ci := 9) (v := .ref (a 51)) (C := RX9) (T := TX9) (N := 6) hx hb htA in_X9 hown hK hP 5 rfl rfl 1 (by decide) (htA _ wd_43) (fun _ h => h) rfl dX9_look_162 ?_
  refine lv_iload hx hb dX9_look_165 (lv_at hl 0 rfl) ?_
  refine va_iald hx hb hK hP 0 0 rfl rfl (in_lit (by decide)) dX9_look_167 ?_
  refine lv_topi (fun x281 ex281 => ?_)
  obtain rfl : x281 = 0 := ex281
  refine lv_iconst (v := (-1)) hx hb dX9_look_168 (by decide) ?_
  refine lv_ixor hx hb dX9_look_169 ?_
  refine lv_topi (fun x282 ex282 => ?_)
  obtain rfl : x282 = (-1) := ex282.trans (by decide)
  refine lv_iand hx hb dX9_look_170 ?_
  refine lv_topi (fun x283 ex283 => ?_)
  obtain rfl : x283 = 1 := ex283.trans (by decide)
  refine va_iast hx hb hK hP hD hS 1 0 rfl rfl (in_lit (by decide)) dX9_look_171 (fun H locs hP hD hS => ?_)
  rw [rc_s 56 56 (by decide)] at hP hD
  have hP : va_P D vwCl [((a 51), .inl (cy 0, 61, .inl (fun _ => 0))), ((a 52), .inl (cy 0, 61, .inl (rc 57))), ((a 5), .inr (1, [.ref (a 40), .int 0, .int 0, .ref (a 46), .ref (a 47)])), ((a 10), .inr (0, [.int 0, .int 1, .int 1, .int 0, .int 0, .ref (a 11), .ref (a 12), .ref (a 13), .null, .null])), ((a 40), .inr (6, [.ref (a 10), .int 0, .ref (a 41), .ref (a 42), .ref (a 43), .ref (a 44), .ref (a 45), .int 0])), ((a 6), .inr (9, [.int 1, .ref (a 51), .ref (a 52), .ref (a 53), .ref (a 54), .ref (a 55)]))] H := hP
  have hD := va_ca hP hD
  refine lv_iinc (v := 57) (lv' := [(4, .int 57), (3, .int 1), (0, .ref (a 6)), (1, .ref (a 5)), (2, .int 0)]) hx hb dX9_look_172 hl (k := 0) rfl (by decide) (by decide) rfl (fun ls hl => ?_)
  refine lv_goto (tgt := 135) hx hb dX9_look_175 (by decide) ?_
  refine lv_iload hx hb dX9_look_135 (lv_at hl 0 rfl) ?_
  refine lv_bipush (v := 60) hx hb dX9_look_137 (by decide) ?_
  refine lv_icmp_gt (tgt := 178) hx hb dX9_look_139 (by decide) (fun q => absurd q (by decide)) (fun _ => ?_)
  refine lv_aload_n hx hb dX9_look_142 rfl (lv_at hl 2 rfl) ?_
  refine va_get (ci := 9) (v := .ref (a 52)) (C := RX9) (T := TX9) (N := 6) hx hb htA in_X9 hown hK hP 5 rfl rfl 2 (by decide) (htA _ wd_44) (fun _ h => h) rfl dX9_look_143 ?_
  refine lv_iload hx hb dX9_look_146 (lv_at hl 0 rfl) ?_
  refine lv_aload_n hx hb dX9_look_148 rfl (lv_at hl 2 rfl) ?_
  refine lv_aload_n hx hb dX9_look_149 rfl (lv_at hl 2 rfl) ?_
  refine va_get (ci := 9) (v := .ref (a 52)) (C := RX9) (T := TX9) (N := 6) hx hb htA in_X9 hown hK hP 5 rfl rfl 2 (by decide) (htA _ wd_44) (fun _ h => h) rfl dX9_look_150 ?_
  refine lv_iload hx hb dX9_look_153 (lv_at hl 0 rfl) ?_
  refine lv_iconst (v := 1) hx hb dX9_look_155 (by decide) ?_
  refine lv_isub hx hb dX9_look_156 ?_
  refine lv_topi (fun x284 ex284 => ?_)
  obtain rfl : x284 = 56 := ex284.trans (by decide)
  refine va_iald hx hb hK hP 1 0 rfl rfl (in_lit (by decide)) dX9_look_157 ?_
  refine lv_topi (fun x285 ex285 => ?_)
  obtain rfl : x285 = 1 := ex285.trans (by decide)
  refine kVi (As := [.int 1]) (rest := [.int 57, .ref (a 52)]) (wr := [((a 51), .inl (cy 0, 61, .inl (fun _ => 0))), ((a 52), .inl (cy 0, 61, .inl (rc 57))), ((a 5), .inr (1, [.ref (a 40), .int 0, .int 0, .ref (a 46), .ref (a 47)])), ((a 10), .inr (0, [.int 0, .int 1, .int 1, .int 0, .int 0, .ref (a 11), .ref (a 12), .ref (a 13), .null, .null])), ((a 40), .inr (6, [.ref (a 10), .int 0, .ref (a 41), .ref (a 42), .ref (a 43), .ref (a 44), .ref (a 45), .int 0]))]) hX hE (au_X9_near_58 l D cy a) (cwVA 1 htA wd_1188 wd_1185 wd_2 wd_1187 wp_37 (by decide +kernel) ⟨by decide, by decide⟩) hP hD hS [5] [0, 1, 2, 3, 4] rfl rfl (by decide +kernel) 0 rfl rfl rfl rfl hl.1 rfl (Nat.le_of_ble_eq_true rfl) dX9_look_158 (by decide) (fun r_ W1 H locs hw hP hD hS => ?_)
  refine W.widen (k := 0) (n := 0) (by decide) (by decide) ?_
  obtain ⟨rfl, rfl⟩ := hw
  have hP : va_P D vwCl [((a 51), .inl (cy 0, 61, .inl (fun _ => 0))), ((a 52), .inl (cy 0, 61, .inl (rc 57))), ((a 5), .inr (1, [.ref (a 40), .int 0, .int 0, .ref (a 46), .ref (a 47)])), ((a 10), .inr (0, [.int 0, .int 1, .int 1, .int 0, .int 0, .ref (a 11), .ref (a 12), .ref (a 13), .null, .null])), ((a 40), .inr (6, [.ref (a 10), .int 0, .ref (a 41), .ref (a 42), .ref (a 43), .ref (a 44), .ref (a 45), .int 0])), ((a 6), .inr (9, [.int 1, .ref (a 51), .ref (a 52), .ref (a 53), .ref (a 54), .ref (a 55)]))] H := hP
  have hD := va_ca hP hD
  refine lv_aload_n hx hb dX9_look_161 rfl (lv_at hl 2 rfl) ?_
  refine va_get (ci := 9) (v := .ref (a 51)) (C := RX9) (T := TX9) (N := 6) hx hb htA in_X9 hown hK hP 5 rfl rfl 1 (by decide) (htA _ wd_43) (fun _ h => h) rfl dX9_look_162 ?_
  refine lv_iload hx hb dX9_look_165 (lv_at hl 0 rfl) ?_
  refine va_iald hx hb hK hP 0 0 rfl rfl (in_lit (by decide)) dX9_look_167 ?_
  refine lv_topi (fun x286 ex286 => ?_)
  obtain rfl : x286 = 0 := ex286
  refine lv_iconst (v := (-1)) hx hb dX9_look_168 (by decide) ?_
  refine lv_ixor hx hb dX9_look_169 ?_
  refine lv_topi (fun x287 ex287 => ?_)
  obtain rfl : x287 = (-1) := ex287.trans (by decide)
  refine lv_iand hx hb dX9_look_170 ?_
  refine lv_topi (fun x288 ex288 => ?_)
  obtain rfl : x288 = 1 := ex288.trans (by decide)
  refine va_iast hx hb hK hP hD hS 1 0 rfl rfl (in_lit (by decide)) dX9_look_171 (fun H locs hP hD hS => ?_)
  rw [rc_s 57 57 (by decide)] at hP hD
  have hP : va_P D vwCl [((a 51), .inl (cy 0, 61, .inl (fun _ => 0))), ((a 52), .inl (cy 0, 61, .inl (rc 58))), ((a 5), .inr (1, [.ref (a 40), .int 0, .int 0, .ref (a 46), .ref (a 47)])), ((a 10), .inr (0, [.int 0, .int 1, .int 1, .int 0, .int 0, .ref (a 11), .ref (a 12), .ref (a 13), .null, .null])), ((a 40), .inr (6, [.ref (a 10), .int 0, .ref (a 41), .ref (a 42), .ref (a 43), .ref (a 44), .ref (a 45), .int 0])), ((a 6), .inr (9, [.int 1, .ref (a 51), .ref (a 52), .ref (a 53), .ref (a 54), .ref (a 55)]))] H := hP
  have hD := va_ca hP hD
  refine lv_iinc (v := 58) (lv' := [(4, .int 58), (3, .int 1), (0, .ref (a 6)), (1, .ref (a 5)), (2, .int 0)]) hx hb dX9_look_172 hl (k := 0) rfl (by decide) (by decide) rfl (fun ls hl => ?_)
  refine lv_goto (tgt := 135) hx hb dX9_look_175 (by decide) ?_
  refine lv_iload hx hb dX9_look_135 (lv_at hl 0 rfl) ?_
  refine lv_bipush (v := 60) hx hb dX9_look_137 (by decide) ?_
  refine lv_icmp_gt (tgt := 178) hx hb dX9_look_139 (by decide) (fun q => absurd q (by decide)) (fun _ => ?_)
  refine lv_aload_n hx hb dX9_look_142 rfl (lv_at hl 2 rfl) ?_
  refine va_get (ci := 9) (v := .ref (a 52)) (C := RX9) (T := TX9) (N := 6) hx hb htA in_X9 hown hK hP 5 rfl rfl 2 (by decide) (htA _ wd_44) (fun _ h => h) rfl dX9_look_143 ?_
  refine lv_iload hx hb dX9_look_146 (lv_at hl 0 rfl) ?_
  refine lv_aload_n hx hb dX9_look_148 rfl (lv_at hl 2 rfl) ?_
  refine lv_aload_n hx hb dX9_look_149 rfl (lv_at hl 2 rfl) ?_
  refine va_get (ci := 9) (v := .ref (a 52)) (C := RX9) (T := TX9) (N := 6) hx hb htA in_X9 hown hK hP 5 rfl rfl 2 (by decide) (htA _ wd_44) (fun _ h => h) rfl dX9_look_150 ?_
  refine lv_iload hx hb dX9_look_153 (lv_at hl 0 rfl) ?_
  refine lv_iconst (v := 1) hx hb dX9_look_155 (by decide) ?_
  refine lv_isub hx hb dX9_look_156 ?_
  refine lv_topi (fun x289 ex289 => ?_)
  obtain rfl : x289 = 57 := ex289.trans (by decide)
  refine va_iald hx hb hK hP 1 0 rfl rfl (in_lit (by decide)) dX9_look_157 ?_
  refine lv_topi (fun x290 ex290 => ?_)
  obtain rfl : x290 = 1 := ex290.trans (by decide)
  refine kVi (As := [.int 1]) (rest := [.int 58, .ref (a 52)]) (wr := [((a 51), .inl (cy 0, 61, .inl (fun _ => 0))), ((a 52), .inl (cy 0, 61, .inl (rc 58))), ((a 5), .inr (1, [.ref (a 40), .int 0, .int 0, .ref (a 46), .ref (a 47)])), ((a 10), .inr (0, [.int 0, .int 1, .int 1, .int 0, .int 0, .ref (a 11), .ref (a 12), .ref (a 13), .null, .null])), ((a 40), .inr (6, [.ref (a 10), .int 0, .ref (a 41), .ref (a 42), .ref (a 43), .ref (a 44), .ref (a 45), .int 0]))]) hX hE (au_X9_near_58 l D cy a) (cwVA 1 htA wd_1188 wd_1185 wd_2 wd_1187 wp_37 (by decide +kernel) ⟨by decide, by decide⟩) hP hD hS [5] [0, 1, 2, 3, 4] rfl rfl (by decide +kernel) 0 rfl rfl rfl rfl hl.1 rfl (Nat.le_of_ble_eq_true rfl) dX9_look_158 (by decide) (fun r_ W1 H locs hw hP hD hS => ?_)
  refine W.widen (k := 0) (n := 0) (by decide) (by decide) ?_
  obtain ⟨rfl, rfl⟩ := hw
  have hP : va_P D vwCl [((a 51), .inl (cy 0, 61, .inl (fun _ => 0))), ((a 52), .inl (cy 0, 61, .inl (rc 58))), ((a 5), .inr (1, [.ref (a 40), .int 0, .int 0, .ref (a 46), .ref (a 47)])), ((a 10), .inr (0, [.int 0, .int 1, .int 1, .int 0, .int 0, .ref (a 11), .ref (a 12), .ref (a 13), .null, .null])), ((a 40), .inr (6, [.ref (a 10), .int 0, .ref (a 41), .ref (a 42), .ref (a 43), .ref (a 44), .ref (a 45), .int 0])), ((a 6), .inr (9, [.int 1, .ref (a 51), .ref (a 52), .ref (a 53), .ref (a 54), .ref (a 55)]))] H := hP
  have hD := va_ca hP hD
  refine lv_aload_n hx hb dX9_look_161 rfl (lv_at hl 2 rfl) ?_
  refine va_get (ci := 9) (v := .ref (a 51)) (C := RX9) (T := TX9) (N := 6) hx hb htA in_X9 hown hK hP 5 rfl rfl 1 (by decide) (htA _ wd_43) (fun _ h => h) rfl dX9_look_162 ?_
  refine lv_iload hx hb dX9_look_165 (lv_at hl 0 rfl) ?_
  refine va_iald hx hb hK hP 0 0 rfl rfl (in_lit (by decide)) dX9_look_167 ?_
  refine lv_topi (fun x291 ex291 => ?_)
  obtain rfl : x291 = 0 := ex291
  refine lv_iconst (v := (-1)) hx hb dX9_look_168 (by decide) ?_
  refine lv_ixor hx hb dX9_look_169 ?_
  refine lv_topi (fun x292 ex292 => ?_)
  obtain rfl : x292 = (-1) := ex292.trans (by decide)
  refine lv_iand hx hb dX9_look_170 ?_
  refine lv_topi (fun x293 ex293 => ?_)
  obtain rfl : x293 = 1 := ex293.trans (by decide)
  refine va_iast hx hb hK hP hD hS 1 0 rfl rfl (in_lit (by decide)) dX9_look_171 (fun H locs hP hD hS => ?_)
  rw [rc_s 58 58 (by decide)] at hP hD
  have hP : va_P D vwCl [((a 51), .inl (cy 0, 61, .inl (fun _ => 0))), ((a 52), .inl (cy 0, 61, .inl (rc 59))), ((a 5), .inr (1, [.ref (a 40), .int 0, .int 0, .ref (a 46), .ref (a 47)])), ((a 10), .inr (0, [.int 0, .int 1, .int 1, .int 0, .int 0, .ref (a 11), .ref (a 12), .ref (a 13), .null, .null])), ((a 40), .inr (6, [.ref (a 10), .int 0, .ref (a 41), .ref (a 42), .ref (a 43), .ref (a 44), .ref (a 45), .int 0])), ((a 6), .inr (9, [.int 1, .ref (a 51), .ref (a 52), .ref (a 53), .ref (a 54), .ref (a 55)]))] H := hP
  have hD := va_ca hP hD
  refine lv_iinc (v := 59) (lv' := [(4, .int 59), (3, .int 1), (0, .ref (a 6)), (1, .ref (a 5)), (2, .int 0)]) hx hb dX9_look_172 hl (k := 0) rfl (by decide) (by decide) rfl (fun ls hl => ?_)
  refine lv_goto (tgt := 135) hx hb dX9_look_175 (by decide) ?_
  refine lv_iload hx hb dX9_look_135 (lv_at hl 0 rfl) ?_
  refine lv_bipush (v := 60) hx hb dX9_look_137 (by decide) ?_
  refine lv_icmp_gt (tgt := 178) hx hb dX9_look_139 (by decide) (fun q => absurd q (by decide)) (fun _ => ?_)
  refine lv_aload_n hx hb dX9_look_142 rfl (lv_at hl 2 rfl) ?_
  refine va_get (ci := 9) (v := .ref (a 52)) (C := RX9) (T := TX9) (N := 6) hx hb htA in_X9 hown hK hP 5 rfl rfl 2 (by decide) (htA _ wd_44) (fun _ h => h) rfl dX9_look_143 ?_
  refine lv_iload hx hb dX9_look_146 (lv_at hl 0 rfl) ?_
  refine lv_aload_n hx hb dX9_look_148 rfl (lv_at hl 2 rfl) ?_
  refine lv_aload_n hx hb dX9_look_149 rfl (lv_at hl 2 rfl) ?_
  refine va_get (ci := 9) (v := .ref (a 52)) (C := RX9) (T := TX9) (N := 6) hx hb htA in_X9 hown hK hP 5 rfl rfl 2 (by decide) (htA _ wd_44) (fun _ h => h) rfl dX9_look_150 ?_
  refine lv_iload hx hb dX9_look_153 (lv_at hl 0 rfl) ?_
  refine lv_iconst (v := 1) hx hb dX9_look_155 (by decide) ?_
  refine lv_isub hx hb dX9_look_156 ?_
  refine lv_topi (fun x294 ex294 => ?_)
  obtain rfl : x294 = 58 := ex294.trans (by decide)
  refine va_iald hx hb hK hP 1 0 rfl rfl (in_lit (by decide)) dX9_look_157 ?_
  refine lv_topi (fun x295 ex295 => ?_)
  obtain rfl : x295 = 1 := ex295.trans (by decide)
  refine kVi (As := [.int 1]) (rest := [.int 59, .ref (a 52)]) (wr := [((a 51), .inl (cy 0, 61, .inl (fun _ => 0))), ((a 52), .inl (cy 0, 61, .inl (rc 59))), ((a 5), .inr (1, [.ref (a 40), .int 0, .int 0, .ref (a 46), .ref (a 47)])), ((a 10), .inr (0, [.int 0, .int 1, .int 1, .int 0, .int 0, .ref (a 11), .ref (a 12), .ref (a 13), .null, .null])), ((a 40), .inr (6, [.ref (a 10), .int 0, .ref (a 41), .ref (a 42), .ref (a 43), .ref (a 44), .ref (a 45), .int 0]))]) hX hE (au_X9_near_58 l D cy a) (cwVA 1 htA wd_1188 wd_1185 wd_2 wd_1187 wp_37 (by decide +kernel) ⟨by decide, by decide⟩) hP hD hS [5] [0, 1, 2, 3, 4] rfl rfl (by decide +kernel) 0 rfl rfl rfl rfl hl.1 rfl (Nat.le_of_ble_eq_true rfl) dX9_look_158 (by decide) (fun r_ W1 H locs hw hP hD hS => ?_)
  refine W.widen (k := 0) (n := 0) (by decide) (by decide) ?_
  obtain ⟨rfl, rfl⟩ := hw
  have hP : va_P D vwCl [((a 51), .inl (cy 0, 61, .inl (fun _ => 0))), ((a 52), .inl (cy 0, 61, .inl (rc 59))), ((a 5), .inr (1, [.ref (a 40), .int 0, .int 0, .ref (a 46), .ref (a 47)])), ((a 10), .inr (0, [.int 0, .int 1, .int 1, .int 0, .int 0, .ref (a 11), .ref (a 12), .ref (a 13), .null, .null])), ((a 40), .inr (6, [.ref (a 10), .int 0, .ref (a 41), .ref (a 42), .ref (a 43), .ref (a 44), .ref (a 45), .int 0])), ((a 6), .inr (9, [.int 1, .ref (a 51), .ref (a 52), .ref (a 53), .ref (a 54), .ref (a 55)]))] H := hP
  have hD := va_ca hP hD
  refine lv_aload_n hx hb dX9_look_161 rfl (lv_at hl 2 rfl) ?_
  refine va_get (ci := 9) (v := .ref (a 51)) (C := RX9) (T := TX9) (N := 6) hx hb htA in_X9 hown hK hP 5 rfl rfl 1 (by decide) (htA _ wd_43) (fun _ h => h) rfl dX9_look_162 ?_
  refine lv_iload hx hb dX9_look_165 (lv_at hl 0 rfl) ?_
  refine va_iald hx hb hK hP 0 0 rfl rfl (in_lit (by decide)) dX9_look_167 ?_
  refine lv_topi (fun x296 ex296 => ?_)
  obtain rfl : x296 = 0 := ex296
  refine lv_iconst (v := (-1)) hx hb dX9_look_168 (by decide) ?_
  refine lv_ixor hx hb dX9_look_169 ?_
  refine lv_topi (fun x297 ex297 => ?_)
  obtain rfl : x297 = (-1) := ex297.trans (by decide)
  refine lv_iand hx hb dX9_look_170 ?_
  refine lv_topi (fun x298 ex298 => ?_)
  obtain rfl : x298 = 1 := ex298.trans (by decide)
  refine va_iast hx hb hK hP hD hS 1 0 rfl rfl (in_lit (by decide)) dX9_look_171 (fun H locs hP hD hS => ?_)
  rw [rc_s 59 59 (by decide)] at hP hD
  have hP : va_P D vwCl [((a 51), .inl (cy 0, 61, .inl (fun _ => 0))), ((a 52), .inl (cy 0, 61, .inl (rc 60))), ((a 5), .inr (1, [.ref (a 40), .int 0, .int 0, .ref (a 46), .ref (a 47)])), ((a 10), .inr (0, [.int 0, .int 1, .int 1, .int 0, .int 0, .ref (a 11), .ref (a 12), .ref (a 13), .null, .null])), ((a 40), .inr (6, [.ref (a 10), .int 0, .ref (a 41), .ref (a 42), .ref (a 43), .ref (a 44), .ref (a 45), .int 0])), ((a 6), .inr (9, [.int 1, .ref (a 51), .ref (a 52), .ref (a 53), .ref (a 54), .ref (a 55)]))] H := hP
  have hD := va_ca hP hD
  refine lv_iinc (v := 60) (lv' := [(4, .int 60), (3, .int 1), (0, .ref (a 6)), (1, .ref (a 5)), (2, .int 0)]) hx hb dX9_look_172 hl (k := 0) rfl (by decide) (by decide) rfl (fun ls hl => ?_)
  refine lv_goto (tgt := 135) hx hb dX9_look_175 (by decide) ?_
  refine lv_iload hx hb dX9_look_135 (lv_at hl 0 rfl) ?_
  refine lv_bipush (v := 60) hx hb dX9_look_137 (by decide) ?_
  refine lv_icmp_gt (tgt := 178) hx hb dX9_look_139 (by decide) (fun q => absurd q (by decide)) (fun _ => ?_)
  refine lv_aload_n hx hb dX9_look_142 rfl (lv_at hl 2 rfl) ?_
  refine va_get (ci := 9) (v := .ref (a 52)) (C := RX9) (T := TX9) (N := 6) hx hb htA in_X9 hown hK hP 5 rfl rfl 2 (by decide) (htA _ wd_44) (fun _ h => h) rfl dX9_look_143 ?_
  refine lv_iload hx hb dX9_look_146 (lv_at hl 0 rfl) ?_
  refine lv_aload_n hx hb dX9_look_148 rfl (lv_at hl 2 rfl) ?_
  refine lv_aload_n hx hb dX9_look_149 rfl (lv_at hl 2 rfl) ?_
  refine va_get (ci := 9) (v := .ref (a 52)) (C := RX9) (T := TX9) (N := 6) hx hb htA in_X9 hown hK hP 5 rfl rfl 2 (by decide) (htA _ wd_44) (fun _ h => h) rfl dX9_look_150 ?_
  refine lv_iload hx hb dX9_look_153 (lv_at hl 0 rfl) ?_
  refine lv_iconst (v := 1) hx hb dX9_look_155 (by decide) ?_
  refine lv_isub hx hb dX9_look_156 ?_
  refine lv_topi (fun x299 ex299 => ?_)
  obtain rfl : x299 = 59 := ex299.trans (by decide)
  refine va_iald hx hb hK hP 1 0 rfl rfl (in_lit (by decide)) dX9_look_157 ?_
  refine lv_topi (fun x300 ex300 => ?_)
  obtain rfl : x300 = 1 := ex300.trans (by decide)
  refine kVi (As := [.int 1]) (rest := [.int 60, .ref (a 52)]) (wr := [((a 51), .inl (cy 0, 61, .inl (fun _ => 0))), ((a 52), .inl (cy 0, 61, .inl (rc 60))), ((a 5), .inr (1, [.ref (a 40), .int 0, .int 0, .ref (a 46), .ref (a 47)])), ((a 10), .inr (0, [.int 0, .int 1, .int 1, .int 0, .int 0, .ref (a 11), .ref (a 12), .ref (a 13), .null, .null])), ((a 40), .inr (6, [.ref (a 10), .int 0, .ref (a 41), .ref (a 42), .ref (a 43), .ref (a 44), .ref (a 45), .int 0]))]) hX hE (au_X9_near_58 l D cy a) (cwVA 1 htA wd_1188 wd_1185 wd_2 wd_1187 wp_37 (by decide +kernel) ⟨by decide, by decide⟩) hP hD hS [5] [0, 1, 2, 3, 4] rfl rfl (by decide +kernel) 0 rfl rfl rfl rfl hl.1 rfl (Nat.le_of_ble_eq_true rfl) dX9_look_158 (by decide) (fun r_ W1 H locs hw hP hD hS => ?_)
  refine W.widen (k := 0) (n := 0) (by decide) (by decide) ?_
  obtain ⟨rfl, rfl⟩ := hw
  have hP : va_P D vwCl [((a 51), .inl (cy 0, 61, .inl (fun _ => 0))), ((a 52), .inl (cy 0, 61, .inl (rc 60))), ((a 5), .inr (1, [.ref (a 40), .int 0, .int 0, .ref (a 46), .ref (a 47)])), ((a 10), .inr (0, [.int 0, .int 1, .int 1, .int 0, .int 0, .ref (a 11), .ref (a 12), .ref (a 13), .null, .null])), ((a 40), .inr (6, [.ref (a 10), .int 0, .ref (a 41), .ref (a 42), .ref (a 43), .ref (a 44), .ref (a 45), .int 0])), ((a 6), .inr (9, [.int 1, .ref (a 51), .ref (a 52), .ref (a 53), .ref (a 54), .ref (a 55)]))] H := hP
  have hD := va_ca hP hD
  refine lv_aload_n hx hb dX9_look_161 rfl (lv_at hl 2 rfl) ?_
  refine va_get (ci := 9) (v := .ref (a 51)) (C := RX9) (T := TX9) (N := 6) hx hb htA in_X9 hown hK hP 5 rfl rfl 1 (by decide) (htA _ wd_43) (fun _ h => h) rfl dX9_look_162 ?_
  refine lv_iload hx hb dX9_look_165 (lv_at hl 0 rfl) ?_
  refine va_iald hx hb hK hP 0 0 rfl rfl (in_lit (by decide)) dX9_look_167 ?_
  refine lv_topi (fun x301 ex301 => ?_)
  obtain rfl : x301 = 0 := ex301
  refine lv_iconst (v := (-1)) hx hb dX9_look_168 (by decide) ?_
  refine lv_ixor hx hb dX9_look_169 ?_
  refine lv_topi (fun x302 ex302 => ?_)
  obtain rfl : x302 = (-1) := ex302.trans (by decide)
  refine lv_iand hx hb dX9_look_170 ?_
  refine lv_topi (fun x303 ex303 => ?_)
  obtain rfl : x303 = 1 := ex303.trans (by decide)
  refine va_iast hx hb hK hP hD hS 1 0 rfl rfl (in_lit (by decide)) dX9_look_171 (fun H locs hP hD hS => ?_)
  rw [rc_s 60 60 (by decide)] at hP hD
  have hP : va_P D vwCl [((a 51), .inl (cy 0, 61, .inl (fun _ => 0))), ((a 52), .inl (cy 0, 61, .inl (rc 61))), ((a 5), .inr (1, [.ref (a 40), .int 0, .int 0, .ref (a 46), .ref (a 47)])), ((a 10), .inr (0, [.int 0, .int 1, .int 1, .int 0, .int 0, .ref (a 11), .ref (a 12), .ref (a 13), .null, .null])), ((a 40), .inr (6, [.ref (a 10), .int 0, .ref (a 41), .ref (a 42), .ref (a 43), .ref (a 44), .ref (a 45), .int 0])), ((a 6), .inr (9, [.int 1, .ref (a 51), .ref (a 52), .ref (a 53), .ref (a 54), .ref (a 55)]))] H := hP
  have hD := va_ca hP hD
  refine lv_iinc (v := 61) (lv' := [(4, .int 61), (3, .int 1), (0, .ref (a 6)), (1, .ref (a 5)), (2, .int 0)]) hx hb dX9_look_172 hl (k := 0) rfl (by decide) (by decide) rfl (fun ls hl => ?_)
  refine lv_goto (tgt := 135) hx hb dX9_look_175 (by decide) ?_
  refine lv_iload hx hb dX9_look_135 (lv_at hl 0 rfl) ?_
  refine lv_bipush (v := 60) hx hb dX9_look_137 (by decide) ?_
  refine lv_icmp_gt (tgt := 178) hx hb dX9_look_139 (by decide) (fun _ => ?_) (fun q => absurd (by decide) q)
  exact rV hX hE hP hD hS dX9_look_178 (by decide) (by decide) (rfl)
set_option maxHeartbeats 40000000 in
set_option maxRecDepth 100000 in
theorem m_safeIn (l : Launch) (hlt : l.stackTraces = false) (D : va_G) (cy : Nat → ClassId) (a : Nat → Nat) (p1 : Int32) (p2 : Int32) : Xi l yX10_safeIn cX10_safeIn 3 (some .int) { frames := 7, cells := 2, slots := 12, locals := 112 } D cy [.ref (a 0), .int p1, .int p2] [((a 0), .inr (10, [.ref (a 1), .int 0, .int 0, .int (-1), .ref (a 2), .ref (a 3), .ref (a 4), .ref (a 5), .ref (a 6), .ref (a 7), .ref (a 8), .ref (a 9), .int 0])), ((a 3), .inr (6, [.ref (a 10), .int 0, .ref (a 21), .ref (a 22), .ref (a 23), .ref (a 24), .ref (a 25), .int 0])), ((a 21), .inl (cy 0, 8, .inl (fun _ => 0))), ((a 22), .inl (cy 0, 8, .inl (fun _ => 0))), ((a 23), .inl (cy 0, 8, .inl (fun _ => 0))), ((a 24), .inl (cy 0, 8, .inl (fun _ => 0))), ((a 25), .inl (cy 0, 4, .inl (fun _ => 0))), ((a 10), .inr (0, [.int 0, .int 1, .int 1, .int 0, .int 0, .ref (a 11), .ref (a 12), .ref (a 13), .null, .null])), ((a 5), .inr (1, [.ref (a 40), .int 0, .int 0, .ref (a 46), .ref (a 47)])), ((a 40), .inr (6, [.ref (a 10), .int 0, .ref (a 41), .ref (a 42), .ref (a 43), .ref (a 44), .ref (a 45), .int 0])), ((a 41), .inl (cy 0, 8, .inl (fun _ => 0))), ((a 42), .inl (cy 0, 8, .inl (fun _ => 0))), ((a 43), .inl (cy 0, 8, .inl (fun _ => 0))), ((a 44), .inl (cy 0, 8, .inl (fun _ => 0))), ((a 45), .inl (cy 0, 4, .inl (fun _ => 0))), ((a 6), .inr (9, [.int 0, .ref (a 51), .ref (a 52), .ref (a 53), .ref (a 54), .ref (a 55)])), ((a 51), .inl (cy 0, 61, .inl (fun _ => 0))), ((a 52), .inl (cy 0, 61, .inl (fun _ => 0))), ((a 53), .inl (cy 0, 61, .inl (fun _ => 0))), ((a 54), .inl (cy 2, 6, .inr (.inl (fun _ => 0)))), ((a 55), .inl (cy 2, 6, .inr (.inl (fun _ => 0))))] (fun r _ => kf_safeIn p1 p2 = 0 ∧ r.toInt64 = vf_safeIn p1 p2) (fun E _ => (E = "java/util/NoSuchElementException" ∧ kf_safeIn p1 p2 = 1) ∨ (E = "java/lang/IllegalArgumentException" ∧ kf_safeIn p1 p2 = 2)) := by
  refine Xi.of (by decide) (Nat.le_of_ble_eq_true rfl) ?_
  intro p e s m below meth c A ls hX hE hP hD hl hxt
  obtain ⟨hx, hb, hr, hml, hown, htA, hlk⟩ := id hX
  have hK := hE.1
  have hS : va_S A s.heap s.heap [] := va_S.rf
  have hl : lv_has ls 3 [(0, .ref (a 0)), (1, .int p1), (2, .int p2)] := hl
  refine lv_aload_n hx hb dX10_safeIn_0 rfl (lv_at hl 0 rfl) ?_
  refine lv_iload_n hx hb dX10_safeIn_1 rfl (lv_at hl 1 rfl) ?_
  refine xVv (As := [.int p1]) (rest := []) (wr := [((a 21), .inl (cy 0, 8, .inl (fun _ => 0))), ((a 22), .inl (cy 0, 8, .inl (fun _ => 0))), ((a 23), .inl (cy 0, 8, .inl (fun _ => 0))), ((a 24), .inl (cy 0, 8, .inl (fun _ => 0))), ((a 25), .inl (cy 0, 4, .inl (fun _ => 0))), ((a 5), .inr (1, [.ref (a 40), .int 0, .int 0, .ref (a 46), .ref (a 47)])), ((a 40), .inr (6, [.ref (a 10), .int 0, .ref (a 41), .ref (a 42), .ref (a 43), .ref (a 44), .ref (a 45), .int 0])), ((a 41), .inl (cy 0, 8, .inl (fun _ => 0))), ((a 42), .inl (cy 0, 8, .inl (fun _ => 0))), ((a 43), .inl (cy 0, 8, .inl (fun _ => 0))), ((a 44), .inl (cy 0, 8, .inl (fun _ => 0))), ((a 45), .inl (cy 0, 4, .inl (fun _ => 0))), ((a 6), .inr (9, [.int 0, .ref (a 51), .ref (a 52), .ref (a 53), .ref (a 54), .ref (a 55)])), ((a 51), .inl (cy 0, 61, .inl (fun _ => 0))), ((a 52), .inl (cy 0, 61, .inl (fun _ => 0))), ((a 53), .inl (cy 0, 61, .inl (fun _ => 0))), ((a 54), .inl (cy 2, 6, .inr (.inl (fun _ => 0)))), ((a 55), .inl (cy 2, 6, .inr (.inl (fun _ => 0))))]) hX hE (au_X10_needColumn_3 l hlt D cy a p1) (cwVA 1 htA wd_909 wd_906 wd_1 wd_908 wp_28 (by decide +kernel) ⟨by decide, by decide⟩) hP hD hS [0, 1, 7] [2, 3, 4, 5, 6, 8, 9, 10, 11, 12, 13, 14, 15, 16, 17, 18, 19, 20] rfl rfl (by decide +kernel) 0 rfl rfl rfl rfl hl.1 rfl (Nat.le_of_ble_eq_true rfl) dX10_safeIn_2 (by decide) (fun E ce q9 W1 H locs hw hP hD hS hce hcv hcl => ?_) (fun W1 H locs hw hP hD hS => ?_)
  · rcases hw with ⟨g4, rfl⟩ | ⟨g5, g6, rfl⟩
    · exact xO hX hE hxt hP hD hS hce hcv hcl (by decide) (by decide) (Or.inl (⟨rfl, (by have kg4 := g4; (try simp only [lg_cmp_lt, lg_cmp_le, lg_cmp_ge, lg_cmp_gt, lg_cmp_eq, fa_lt, fa_le, fa_eq, fa_lt64, fa_le64, fa_eq64, Int32.toInt_toInt64, li_0, lj_0] at kg4); first | rfl | (unfold kf_safeIn; (repeat' split) <;> first | rfl | (exfalso; omega)))⟩))
    · exact xO hX hE hxt hP hD hS hce hcv hcl (by decide) (by decide) (Or.inl (⟨rfl, (by have kg5 := g5; have kg6 := g6; (try simp only [lg_cmp_lt, lg_cmp_le, lg_cmp_ge, lg_cmp_gt, lg_cmp_eq, fa_lt, fa_le, fa_eq, fa_lt64, fa_le64, fa_eq64, Int32.toInt_toInt64, li_0, lj_0, li_1, lj_1] at kg5); (try simp only [lg_cmp_lt, lg_cmp_le, lg_cmp_ge, lg_cmp_gt, lg_cmp_eq, fa_lt, fa_le, fa_eq, fa_lt64, fa_le64, fa_eq64, Int32.toInt_toInt64, li_0, lj_0, li_1, lj_1] at kg6); first | rfl | (unfold kf_safeIn; (repeat' split) <;> first | rfl | (exfalso; omega)))⟩))
  · refine W.widen (k := 1) (n := 6) (by decide) (by decide) ?_
    obtain ⟨g1, g2, g3, rfl⟩ := hw
    have hP : va_P D vwCl [((a 21), .inl (cy 0, 8, .inl (fun _ => 0))), ((a 22), .inl (cy 0, 8, .inl (fun _ => 0))), ((a 23), .inl (cy 0, 8, .inl (fun _ => 0))), ((a 24), .inl (cy 0, 8, .inl (fun _ => 0))), ((a 25), .inl (cy 0, 4, .inl (fun _ => 0))), ((a 5), .inr (1, [.ref (a 40), .int 0, .int 0, .ref (a 46), .ref (a 47)])), ((a 40), .inr (6, [.ref (a 10), .int 0, .ref (a 41), .ref (a 42), .ref (a 43), .ref (a 44), .ref (a 45), .int 0])), ((a 41), .inl (cy 0, 8, .inl (fun _ => 0))), ((a 42), .inl (cy 0, 8, .inl (fun _ => 0))), ((a 43), .inl (cy 0, 8, .inl (fun _ => 0))), ((a 44), .inl (cy 0, 8, .inl (fun _ => 0))), ((a 45), .inl (cy 0, 4, .inl (fun _ => 0))), ((a 6), .inr (9, [.int 0, .ref (a 51), .ref (a 52), .ref (a 53), .ref (a 54), .ref (a 55)])), ((a 51), .inl (cy 0, 61, .inl (fun _ => 0))), ((a 52), .inl (cy 0, 61, .inl (fun _ => 0))), ((a 53), .inl (cy 0, 61, .inl (fun _ => 0))), ((a 54), .inl (cy 2, 6, .inr (.inl (fun _ => 0)))), ((a 55), .inl (cy 2, 6, .inr (.inl (fun _ => 0)))), ((a 0), .inr (10, [.ref (a 1), .int 0, .int 0, .int (-1), .ref (a 2), .ref (a 3), .ref (a 4), .ref (a 5), .ref (a 6), .ref (a 7), .ref (a 8), .ref (a 9), .int 0])), ((a 3), .inr (6, [.ref (a 10), .int 0, .ref (a 21), .ref (a 22), .ref (a 23), .ref (a 24), .ref (a 25), .int 0])), ((a 10), .inr (0, [.int 0, .int 1, .int 1, .int 0, .int 0, .ref (a 11), .ref (a 12), .ref (a 13), .null, .null]))] H := hP
    have hD := va_ca hP hD
    obtain rfl : p1 = 0 := (by have kg1 := g1; have kg2 := g2; have kg3 := g3; (try simp only [lg_cmp_lt, lg_cmp_le, lg_cmp_ge, lg_cmp_gt, lg_cmp_eq, fa_lt, fa_le, fa_eq, fa_lt64, fa_le64, fa_eq64, Int32.toInt_toInt64, li_0, lj_0, li_1, lj_1] at kg1); (try simp only [lg_cmp_lt, lg_cmp_le, lg_cmp_ge, lg_cmp_gt, lg_cmp_eq, fa_lt, fa_le, fa_eq, fa_lt64, fa_le64, fa_eq64, Int32.toInt_toInt64, li_0, lj_0, li_1, lj_1] at kg2); (try simp only [lg_cmp_lt, lg_cmp_le, lg_cmp_ge, lg_cmp_gt, lg_cmp_eq, fa_lt, fa_le, fa_eq, fa_lt64, fa_le64, fa_eq64, Int32.toInt_toInt64, li_0, lj_0, li_1, lj_1] at kg3); rw [fa_eq, li_0]; omega)
    refine lv_iload_n hx hb dX10_safeIn_5 rfl (lv_at hl 2 rfl) ?_
    refine lv_iconst (v := 0) hx hb dX10_safeIn_6 (by decide) ?_
    refine lv_bipush (v := 60) hx hb dX10_safeIn_7 (by decide) ?_
    refine xSv (As := [.int p2, .int 0, .int 60]) (rest := []) (wr := [((a 21), .inl (cy 0, 8, .inl (fun _ => 0))), ((a 22), .inl (cy 0, 8, .inl (fun _ => 0))), ((a 23), .inl (cy 0, 8, .inl (fun _ => 0))), ((a 24), .inl (cy 0, 8, .inl (fun _ => 0))), ((a 25), .inl (cy 0, 4, .inl (fun _ => 0))), ((a 5), .inr (1, [.ref (a 40), .int 0, .int 0, .ref (a 46), .ref (a 47)])), ((a 40), .inr (6, [.ref (a 10), .int 0, .ref (a 41), .ref (a 42), .ref (a 43), .ref (a 44), .ref (a 45), .int 0])), ((a 41), .inl (cy 0, 8, .inl (fun _ => 0))), ((a 42), .inl (cy 0, 8, .inl (fun _ => 0))), ((a 43), .inl (cy 0, 8, .inl (fun _ => 0))), ((a 44), .inl (cy 0, 8, .inl (fun _ => 0))), ((a 45), .inl (cy 0, 4, .inl (fun _ => 0))), ((a 6), .inr (9, [.int 0, .ref (a 51), .ref (a 52), .ref (a 53), .ref (a 54), .ref (a 55)])), ((a 51), .inl (cy 0, 61, .inl (fun _ => 0))), ((a 52), .inl (cy 0, 61, .inl (fun _ => 0))), ((a 53), .inl (cy 0, 61, .inl (fun _ => 0))), ((a 54), .inl (cy 2, 6, .inr (.inl (fun _ => 0)))), ((a 55), .inl (cy 2, 6, .inr (.inl (fun _ => 0)))), ((a 0), .inr (10, [.ref (a 1), .int 0, .int 0, .int (-1), .ref (a 2), .ref (a 3), .ref (a 4), .ref (a 5), .ref (a 6), .ref (a 7), .ref (a 8), .ref (a 9), .int 0])), ((a 3), .inr (6, [.ref (a 10), .int 0, .ref (a 21), .ref (a 22), .ref (a 23), .ref (a 24), .ref (a 25), .int 0])), ((a 10), .inr (0, [.int 0, .int 1, .int 1, .int 0, .int 0, .ref (a 11), .ref (a 12), .ref (a 13), .null, .null]))]) hX hE (au_X10_needWithin_44 l hlt D cy a p2) (cwSA 3 htA wd_935 wd_933 wd_1 wd_934 (by decide +kernel) ⟨by decide, by decide⟩) hP hD hS [] [0, 1, 2, 3, 4, 5, 6, 7, 8, 9, 10, 11, 12, 13, 14, 15, 16, 17, 18, 19, 20] rfl rfl (by decide +kernel) rfl hl.1 rfl (Nat.le_of_ble_eq_true rfl) dX10_safeIn_9 (by decide) (fun E ce q9 W1 H locs hw hP hD hS hce hcv hcl => ?_) (fun W1 H locs hw hP hD hS => ?_)
    · rcases hw with ⟨g9, rfl⟩ | ⟨g10, g11, rfl⟩
      · exact xO hX hE hxt hP hD hS hce hcv hcl (by decide) (by decide) (Or.inr (⟨rfl, (by have kg1 := g1; have kg2 := g2; have kg3 := g3; have kg9 := g9; (try simp only [lg_cmp_lt, lg_cmp_le, lg_cmp_ge, lg_cmp_gt, lg_cmp_eq, fa_lt, fa_le, fa_eq, fa_lt64, fa_le64, fa_eq64, Int32.toInt_toInt64, li_0, lj_0, li_1, lj_1] at kg1); (try simp only [lg_cmp_lt, lg_cmp_le, lg_cmp_ge, lg_cmp_gt, lg_cmp_eq, fa_lt, fa_le, fa_eq, fa_lt64, fa_le64, fa_eq64, Int32.toInt_toInt64, li_0, lj_0, li_1, lj_1] at kg2); (try simp only [lg_cmp_lt, lg_cmp_le, lg_cmp_ge, lg_cmp_gt, lg_cmp_eq, fa_lt, fa_le, fa_eq, fa_lt64, fa_le64, fa_eq64, Int32.toInt_toInt64, li_0, lj_0, li_1, lj_1] at kg3); (try simp only [lg_cmp_lt, lg_cmp_le, lg_cmp_ge, lg_cmp_gt, lg_cmp_eq, fa_lt, fa_le, fa_eq, fa_lt64, fa_le64, fa_eq64, Int32.toInt_toInt64, li_0, lj_0, li_1, lj_1] at kg9); first | rfl | (unfold kf_safeIn; (try simp only [li_0, and_self, and_true, true_and, if_true]); (repeat' split) <;> first | rfl | (exfalso; omega)))⟩))
      · exact xO hX hE hxt hP hD hS hce hcv hcl (by decide) (by decide) (Or.inr (⟨rfl, (by have kg1 := g1; have kg2 := g2; have kg3 := g3; have kg10 := g10; have kg11 := g11; (try simp only [lg_cmp_lt, lg_cmp_le, lg_cmp_ge, lg_cmp_gt, lg_cmp_eq, fa_lt, fa_le, fa_eq, fa_lt64, fa_le64, fa_eq64, Int32.toInt_toInt64, li_0, lj_0, li_1, lj_1, li_60, lj_60] at kg1); (try simp only [lg_cmp_lt, lg_cmp_le, lg_cmp_ge, lg_cmp_gt, lg_cmp_eq, fa_lt, fa_le, fa_eq, fa_lt64, fa_le64, fa_eq64, Int32.toInt_toInt64, li_0, lj_0, li_1, lj_1, li_60, lj_60] at kg2); (try simp only [lg_cmp_lt, lg_cmp_le, lg_cmp_ge, lg_cmp_gt, lg_cmp_eq, fa_lt, fa_le, fa_eq, fa_lt64, fa_le64, fa_eq64, Int32.toInt_toInt64, li_0, lj_0, li_1, lj_1, li_60, lj_60] at kg3); (try simp only [lg_cmp_lt, lg_cmp_le, lg_cmp_ge, lg_cmp_gt, lg_cmp_eq, fa_lt, fa_le, fa_eq, fa_lt64, fa_le64, fa_eq64, Int32.toInt_toInt64, li_0, lj_0, li_1, lj_1, li_60, lj_60] at kg10); (try simp only [lg_cmp_lt, lg_cmp_le, lg_cmp_ge, lg_cmp_gt, lg_cmp_eq, fa_lt, fa_le, fa_eq, fa_lt64, fa_le64, fa_eq64, Int32.toInt_toInt64, li_0, lj_0, li_1, lj_1, li_60, lj_60] at kg11); first | rfl | (unfold kf_safeIn; (try simp only [li_0, and_self, and_true, true_and, if_true]); (repeat' split) <;> first | rfl | (exfalso; omega)))⟩))
    · refine W.widen (k := 2) (n := 12) (by decide) (by decide) ?_
      obtain ⟨g7, g8, rfl⟩ := hw
      have hP : va_P D vwCl [((a 21), .inl (cy 0, 8, .inl (fun _ => 0))), ((a 22), .inl (cy 0, 8, .inl (fun _ => 0))), ((a 23), .inl (cy 0, 8, .inl (fun _ => 0))), ((a 24), .inl (cy 0, 8, .inl (fun _ => 0))), ((a 25), .inl (cy 0, 4, .inl (fun _ => 0))), ((a 5), .inr (1, [.ref (a 40), .int 0, .int 0, .ref (a 46), .ref (a 47)])), ((a 40), .inr (6, [.ref (a 10), .int 0, .ref (a 41), .ref (a 42), .ref (a 43), .ref (a 44), .ref (a 45), .int 0])), ((a 41), .inl (cy 0, 8, .inl (fun _ => 0))), ((a 42), .inl (cy 0, 8, .inl (fun _ => 0))), ((a 43), .inl (cy 0, 8, .inl (fun _ => 0))), ((a 44), .inl (cy 0, 8, .inl (fun _ => 0))), ((a 45), .inl (cy 0, 4, .inl (fun _ => 0))), ((a 6), .inr (9, [.int 0, .ref (a 51), .ref (a 52), .ref (a 53), .ref (a 54), .ref (a 55)])), ((a 51), .inl (cy 0, 61, .inl (fun _ => 0))), ((a 52), .inl (cy 0, 61, .inl (fun _ => 0))), ((a 53), .inl (cy 0, 61, .inl (fun _ => 0))), ((a 54), .inl (cy 2, 6, .inr (.inl (fun _ => 0)))), ((a 55), .inl (cy 2, 6, .inr (.inl (fun _ => 0)))), ((a 0), .inr (10, [.ref (a 1), .int 0, .int 0, .int (-1), .ref (a 2), .ref (a 3), .ref (a 4), .ref (a 5), .ref (a 6), .ref (a 7), .ref (a 8), .ref (a 9), .int 0])), ((a 3), .inr (6, [.ref (a 10), .int 0, .ref (a 21), .ref (a 22), .ref (a 23), .ref (a 24), .ref (a 25), .int 0])), ((a 10), .inr (0, [.int 0, .int 1, .int 1, .int 0, .int 0, .ref (a 11), .ref (a 12), .ref (a 13), .null, .null]))] H := hP
      have hD := va_ca hP hD
      refine lv_aload_n hx hb dX10_safeIn_12 rfl (lv_at hl 0 rfl) ?_
      refine va_get (ci := 10) (v := .ref (a 5)) (C := RX10) (T := TX10) (N := 13) hx hb htA in_X10 hown hK hP 18 rfl rfl 7 (by decide) (htA _ wd_315) (fun _ h => h) rfl dX10_safeIn_13 ?_
      refine lv_aload_n hx hb dX10_safeIn_16 rfl (lv_at hl 0 rfl) ?_
      refine va_get (ci := 10) (v := .ref (a 3)) (C := RX10) (T := TX10) (N := 13) hx hb htA in_X10 hown hK hP 18 rfl rfl 5 (by decide) (htA _ wd_313) (fun _ h => h) rfl dX10_safeIn_17 ?_
      refine kVv (As := [.ref (a 3)]) (rest := []) (wr := [((a 6), .inr (9, [.int 0, .ref (a 51), .ref (a 52), .ref (a 53), .ref (a 54), .ref (a 55)])), ((a 51), .inl (cy 0, 61, .inl (fun _ => 0))), ((a 52), .inl (cy 0, 61, .inl (fun _ => 0))), ((a 53), .inl (cy 0, 61, .inl (fun _ => 0))), ((a 54), .inl (cy 2, 6, .inr (.inl (fun _ => 0)))), ((a 55), .inl (cy 2, 6, .inr (.inl (fun _ => 0)))), ((a 0), .inr (10, [.ref (a 1), .int 0, .int 0, .int (-1), .ref (a 2), .ref (a 3), .ref (a 4), .ref (a 5), .ref (a 6), .ref (a 7), .ref (a 8), .ref (a 9), .int 0]))]) hX hE (au_X1_look_57 l D cy a) (cwVA 1 htA wd_488 wd_485 wd_8 wd_486 wd_487 (by decide +kernel) ⟨by decide, by decide⟩) hP hD hS [0, 1, 2, 3, 4, 5, 6, 7, 8, 9, 10, 11, 19, 20] [12, 13, 14, 15, 16, 17, 18] rfl rfl (by decide +kernel) 5 rfl rfl rfl rfl hl.1 rfl (Nat.le_of_ble_eq_true rfl) dX10_safeIn_20 (by decide) (fun W1 H locs hw hP hD hS => ?_)
      refine W.widen (k := 2) (n := 12) (by decide) (by decide) ?_
      obtain rfl := hw
      have hP : va_P D vwCl [((a 6), .inr (9, [.int 0, .ref (a 51), .ref (a 52), .ref (a 53), .ref (a 54), .ref (a 55)])), ((a 51), .inl (cy 0, 61, .inl (fun _ => 0))), ((a 52), .inl (cy 0, 61, .inl (fun _ => 0))), ((a 53), .inl (cy 0, 61, .inl (fun _ => 0))), ((a 54), .inl (cy 2, 6, .inr (.inl (fun _ => 0)))), ((a 55), .inl (cy 2, 6, .inr (.inl (fun _ => 0)))), ((a 0), .inr (10, [.ref (a 1), .int 0, .int 0, .int (-1), .ref (a 2), .ref (a 3), .ref (a 4), .ref (a 5), .ref (a 6), .ref (a 7), .ref (a 8), .ref (a 9), .int 0])), ((a 5), .inr (1, [.ref (a 40), .int 0, .int 0, .ref (a 46), .ref (a 47)])), ((a 21), .inl (cy 0, 8, .inl (fun _ => 0))), ((a 22), .inl (cy 0, 8, .inl (fun _ => 0))), ((a 23), .inl (cy 0, 8, .inl (fun _ => 0))), ((a 24), .inl (cy 0, 8, .inl (fun _ => 0))), ((a 25), .inl (cy 0, 4, .inl (fun _ => 0))), ((a 41), .inl (cy 0, 8, .inl (fun _ => 0))), ((a 42), .inl (cy 0, 8, .inl (fun _ => 0))), ((a 43), .inl (cy 0, 8, .inl (fun _ => 0))), ((a 44), .inl (cy 0, 8, .inl (fun _ => 0))), ((a 45), .inl (cy 0, 4, .inl (fun _ => 0))), ((a 3), .inr (6, [.ref (a 10), .int 0, .ref (a 21), .ref (a 22), .ref (a 23), .ref (a 24), .ref (a 25), .int 0])), ((a 10), .inr (0, [.int 0, .int 1, .int 1, .int 0, .int 0, .ref (a 11), .ref (a 12), .ref (a 13), .null, .null])), ((a 40), .inr (6, [.ref (a 10), .int 0, .ref (a 41), .ref (a 42), .ref (a 43), .ref (a 44), .ref (a 45), .int 0]))] H := hP
      have hD := va_ca hP hD
      refine lv_aload_n hx hb dX10_safeIn_23 rfl (lv_at hl 0 rfl) ?_
      refine va_get (ci := 10) (v := .ref (a 6)) (C := RX10) (T := TX10) (N := 13) hx hb htA in_X10 hown hK hP 6 rfl rfl 8 (by decide) (htA _ wd_316) (fun _ h => h) rfl dX10_safeIn_24 ?_
      refine lv_aload_n hx hb dX10_safeIn_27 rfl (lv_at hl 0 rfl) ?_
      refine va_get (ci := 10) (v := .ref (a 5)) (C := RX10) (T := TX10) (N := 13) hx hb htA in_X10 hown hK hP 6 rfl rfl 7 (by decide) (htA _ wd_315) (fun _ h => h) rfl dX10_safeIn_28 ?_
      refine lv_iload_n hx hb dX10_safeIn_31 rfl (lv_at hl 1 rfl) ?_
      refine kVv (As := [.ref (a 5), .int 0]) (rest := []) (wr := [((a 53), .inl (cy 0, 61, .inl (fun _ => 0))), ((a 54), .inl (cy 2, 6, .inr (.inl (fun _ => 0)))), ((a 55), .inl (cy 2, 6, .inr (.inl (fun _ => 0)))), ((a 0), .inr (10, [.ref (a 1), .int 0, .int 0, .int (-1), .ref (a 2), .ref (a 3), .ref (a 4), .ref (a 5), .ref (a 6), .ref (a 7), .ref (a 8), .ref (a 9), .int 0])), ((a 21), .inl (cy 0, 8, .inl (fun _ => 0))), ((a 22), .inl (cy 0, 8, .inl (fun _ => 0))), ((a 23), .inl (cy 0, 8, .inl (fun _ => 0))), ((a 24), .inl (cy 0, 8, .inl (fun _ => 0))), ((a 25), .inl (cy 0, 4, .inl (fun _ => 0))), ((a 41), .inl (cy 0, 8, .inl (fun _ => 0))), ((a 42), .inl (cy 0, 8, .inl (fun _ => 0))), ((a 43), .inl (cy 0, 8, .inl (fun _ => 0))), ((a 44), .inl (cy 0, 8, .inl (fun _ => 0))), ((a 45), .inl (cy 0, 4, .inl (fun _ => 0))), ((a 3), .inr (6, [.ref (a 10), .int 0, .ref (a 21), .ref (a 22), .ref (a 23), .ref (a 24), .ref (a 25), .int 0]))]) hX hE (au_X9_look_59 l D cy a) (cwVA 2 htA wd_1183 wd_1180 wd_2 wd_1181 wd_1182 (by decide +kernel) ⟨by decide, by decide⟩) hP hD hS [0, 1, 2, 7, 19, 20] [3, 4, 5, 6, 8, 9, 10, 11, 12, 13, 14, 15, 16, 17, 18] rfl rfl (by decide +kernel) 0 rfl rfl rfl rfl hl.1 rfl (Nat.le_of_ble_eq_true rfl) dX10_safeIn_32 (by decide) (fun W1 H locs hw hP hD hS => ?_)
      refine W.widen (k := 2) (n := 12) (by decide) (by decide) ?_
      obtain rfl := hw
      have hP : va_P D vwCl [((a 53), .inl (cy 0, 61, .inl (fun _ => 0))), ((a 54), .inl (cy 2, 6, .inr (.inl (fun _ => 0)))), ((a 55), .inl (cy 2, 6, .inr (.inl (fun _ => 0)))), ((a 0), .inr (10, [.ref (a 1), .int 0, .int 0, .int (-1), .ref (a 2), .ref (a 3), .ref (a 4), .ref (a 5), .ref (a 6), .ref (a 7), .ref (a 8), .ref (a 9), .int 0])), ((a 21), .inl (cy 0, 8, .inl (fun _ => 0))), ((a 22), .inl (cy 0, 8, .inl (fun _ => 0))), ((a 23), .inl (cy 0, 8, .inl (fun _ => 0))), ((a 24), .inl (cy 0, 8, .inl (fun _ => 0))), ((a 25), .inl (cy 0, 4, .inl (fun _ => 0))), ((a 41), .inl (cy 0, 8, .inl (fun _ => 0))), ((a 42), .inl (cy 0, 8, .inl (fun _ => 0))), ((a 43), .inl (cy 0, 8, .inl (fun _ => 0))), ((a 44), .inl (cy 0, 8, .inl (fun _ => 0))), ((a 45), .inl (cy 0, 4, .inl (fun _ => 0))), ((a 3), .inr (6, [.ref (a 10), .int 0, .ref (a 21), .ref (a 22), .ref (a 23), .ref (a 24), .ref (a 25), .int 0])), ((a 51), .inl (cy 0, 61, .inl (fun _ => 0))), ((a 52), .inl (cy 0, 61, .inl (rc 61))), ((a 5), .inr (1, [.ref (a 40), .int 0, .int 0, .ref (a 46), .ref (a 47)])), ((a 10), .inr (0, [.int 0, .int 1, .int 1, .int 0, .int 0, .ref (a 11), .ref (a 12), .ref (a 13), .null, .null])), ((a 40), .inr (6, [.ref (a 10), .int 0, .ref (a 41), .ref (a 42), .ref (a 43), .ref (a 44), .ref (a 45), .int 0])), ((a 6), .inr (9, [.int 1, .ref (a 51), .ref (a 52), .ref (a 53), .ref (a 54), .ref (a 55)]))] H := hP
      have hD := va_ca hP hD
      refine lv_aload_n hx hb dX10_safeIn_35 rfl (lv_at hl 0 rfl) ?_
      refine va_get (ci := 10) (v := .ref (a 6)) (C := RX10) (T := TX10) (N := 13) hx hb htA in_X10 hown hK hP 3 rfl rfl 8 (by decide) (htA _ wd_316) (fun _ h => h) rfl dX10_safeIn_36 ?_
      refine va_get (ci := 9) (v := .ref (a 52)) (C := RX9) (T := TX9) (N := 6) hx hb htA in_X9 hown hK hP 20 rfl rfl 2 (by decide) (htA _ wd_45) (fun _ h => h) rfl dX10_safeIn_39 ?_
      refine lv_iload_n hx hb dX10_safeIn_42 rfl (lv_at hl 2 rfl) ?_
      refine va_iald hx hb hK hP 16 0 rfl rfl (vp_in_iff.mpr (by have kg1 := g1; have kg2 := g2; have kg3 := g3; have kg7 := g7; have kg8 := g8; (try simp only [lg_cmp_lt, lg_cmp_le, lg_cmp_ge, lg_cmp_gt, lg_cmp_eq, fa_lt, fa_le, fa_eq, fa_lt64, fa_le64, fa_eq64, Int32.toInt_toInt64, li_0, lj_0, li_1, lj_1, li_60, lj_60] at kg1); (try simp only [lg_cmp_lt, lg_cmp_le, lg_cmp_ge, lg_cmp_gt, lg_cmp_eq, fa_lt, fa_le, fa_eq, fa_lt64, fa_le64, fa_eq64, Int32.toInt_toInt64, li_0, lj_0, li_1, lj_1, li_60, lj_60] at kg2); (try simp only [lg_cmp_lt, lg_cmp_le, lg_cmp_ge, lg_cmp_gt, lg_cmp_eq, fa_lt, fa_le, fa_eq, fa_lt64, fa_le64, fa_eq64, Int32.toInt_toInt64, li_0, lj_0, li_1, lj_1, li_60, lj_60] at kg3); (try simp only [lg_cmp_lt, lg_cmp_le, lg_cmp_ge, lg_cmp_gt, lg_cmp_eq, fa_lt, fa_le, fa_eq, fa_lt64, fa_le64, fa_eq64, Int32.toInt_toInt64, li_0, lj_0, li_1, lj_1, li_60, lj_60] at kg7); (try simp only [lg_cmp_lt, lg_cmp_le, lg_cmp_ge, lg_cmp_gt, lg_cmp_eq, fa_lt, fa_le, fa_eq, fa_lt64, fa_le64, fa_eq64, Int32.toInt_toInt64, li_0, lj_0, li_1, lj_1, li_60, lj_60] at kg8); constructor <;> omega)) dX10_safeIn_43 ?_
      refine lv_topi (fun x12 ex12 => ?_)
      obtain rfl : x12 = 1 := ex12.trans (rc_at (vp_in_iff.mpr (by have kg1 := g1; have kg2 := g2; have kg3 := g3; have kg7 := g7; have kg8 := g8; (try simp only [lg_cmp_lt, lg_cmp_le, lg_cmp_ge, lg_cmp_gt, lg_cmp_eq, fa_lt, fa_le, fa_eq, fa_lt64, fa_le64, fa_eq64, Int32.toInt_toInt64, li_0, lj_0, li_1, lj_1, li_60, lj_60] at kg1); (try simp only [lg_cmp_lt, lg_cmp_le, lg_cmp_ge, lg_cmp_gt, lg_cmp_eq, fa_lt, fa_le, fa_eq, fa_lt64, fa_le64, fa_eq64, Int32.toInt_toInt64, li_0, lj_0, li_1, lj_1, li_60, lj_60] at kg2); (try simp only [lg_cmp_lt, lg_cmp_le, lg_cmp_ge, lg_cmp_gt, lg_cmp_eq, fa_lt, fa_le, fa_eq, fa_lt64, fa_le64, fa_eq64, Int32.toInt_toInt64, li_0, lj_0, li_1, lj_1, li_60, lj_60] at kg3); (try simp only [lg_cmp_lt, lg_cmp_le, lg_cmp_ge, lg_cmp_gt, lg_cmp_eq, fa_lt, fa_le, fa_eq, fa_lt64, fa_le64, fa_eq64, Int32.toInt_toInt64, li_0, lj_0, li_1, lj_1, li_60, lj_60] at kg7); (try simp only [lg_cmp_lt, lg_cmp_le, lg_cmp_ge, lg_cmp_gt, lg_cmp_eq, fa_lt, fa_le, fa_eq, fa_lt64, fa_le64, fa_eq64, Int32.toInt_toInt64, li_0, lj_0, li_1, lj_1, li_60, lj_60] at kg8); constructor <;> omega)))
      exact vx_ret (rI hX hE hP hD hS dX10_safeIn_44 (by decide) (by decide) (⟨(by have kg1 := g1; have kg2 := g2; have kg3 := g3; have kg7 := g7; have kg8 := g8; (try simp only [lg_cmp_lt, lg_cmp_le, lg_cmp_ge, lg_cmp_gt, lg_cmp_eq, fa_lt, fa_le, fa_eq, fa_lt64, fa_le64, fa_eq64, Int32.toInt_toInt64, li_0, lj_0, li_1, lj_1, li_60, lj_60] at kg1); (try simp only [lg_cmp_lt, lg_cmp_le, lg_cmp_ge, lg_cmp_gt, lg_cmp_eq, fa_lt, fa_le, fa_eq, fa_lt64, fa_le64, fa_eq64, Int32.toInt_toInt64, li_0, lj_0, li_1, lj_1, li_60, lj_60] at kg2); (try simp only [lg_cmp_lt, lg_cmp_le, lg_cmp_ge, lg_cmp_gt, lg_cmp_eq, fa_lt, fa_le, fa_eq, fa_lt64, fa_le64, fa_eq64, Int32.toInt_toInt64, li_0, lj_0, li_1, lj_1, li_60, lj_60] at kg3); (try simp only [lg_cmp_lt, lg_cmp_le, lg_cmp_ge, lg_cmp_gt, lg_cmp_eq, fa_lt, fa_le, fa_eq, fa_lt64, fa_le64, fa_eq64, Int32.toInt_toInt64, li_0, lj_0, li_1, lj_1, li_60, lj_60] at kg7); (try simp only [lg_cmp_lt, lg_cmp_le, lg_cmp_ge, lg_cmp_gt, lg_cmp_eq, fa_lt, fa_le, fa_eq, fa_lt64, fa_le64, fa_eq64, Int32.toInt_toInt64, li_0, lj_0, li_1, lj_1, li_60, lj_60] at kg8); first | rfl | (unfold kf_safeIn; (try simp only [li_0, and_self, and_true, true_and, if_true]); (repeat' split) <;> first | rfl | (exfalso; omega))), (by have kg1 := g1; have kg2 := g2; have kg3 := g3; have kg7 := g7; have kg8 := g8; (try simp only [lg_cmp_lt, lg_cmp_le, lg_cmp_ge, lg_cmp_gt, lg_cmp_eq, fa_lt, fa_le, fa_eq, fa_lt64, fa_le64, fa_eq64, Int32.toInt_toInt64, li_0, lj_0, li_1, lj_1, li_60, lj_60] at kg1); (try simp only [lg_cmp_lt, lg_cmp_le, lg_cmp_ge, lg_cmp_gt, lg_cmp_eq, fa_lt, fa_le, fa_eq, fa_lt64, fa_le64, fa_eq64, Int32.toInt_toInt64, li_0, lj_0, li_1, lj_1, li_60, lj_60] at kg2); (try simp only [lg_cmp_lt, lg_cmp_le, lg_cmp_ge, lg_cmp_gt, lg_cmp_eq, fa_lt, fa_le, fa_eq, fa_lt64, fa_le64, fa_eq64, Int32.toInt_toInt64, li_0, lj_0, li_1, lj_1, li_60, lj_60] at kg3); (try simp only [lg_cmp_lt, lg_cmp_le, lg_cmp_ge, lg_cmp_gt, lg_cmp_eq, fa_lt, fa_le, fa_eq, fa_lt64, fa_le64, fa_eq64, Int32.toInt_toInt64, li_0, lj_0, li_1, lj_1, li_60, lj_60] at kg7); (try simp only [lg_cmp_lt, lg_cmp_le, lg_cmp_ge, lg_cmp_gt, lg_cmp_eq, fa_lt, fa_le, fa_eq, fa_lt64, fa_le64, fa_eq64, Int32.toInt_toInt64, li_0, lj_0, li_1, lj_1, li_60, lj_60] at kg8); first | rfl | decide | (unfold vf_safeIn; (try simp only [li_0, and_self, and_true, true_and, if_true]); (repeat' split) <;> first | rfl | decide | (exfalso; omega)))⟩))
