theorem li_536870912 : (536870912 : Int32).toInt = 536870912 := by decide
theorem lj_536870912 : (536870912 : Int64).toInt = 536870912 := by decide
set_option maxHeartbeats 4000000 in
set_option maxRecDepth 100000 in
theorem au_X11_keeps_90 (l : Launch) (D : va_G) (cy : Nat → ClassId) (a : Nat → Nat) : Cv l yX11_keeps cX11_keeps 2 none { frames := 0, cells := 0, slots := 0, locals := 0 } D cy [.ref (a 200)] [((a 200), .inr (11, [.ref (a 201), .ref (a 202), .ref (a 203), .ref (a 204), .int 0, .ref (a 205), .int 0, .int 0, .int 0, .int 0, .int 0, .int 0, .int 0, .int 0, .int 0, .int (-1), .int 0, .int 0, .int 0, .ref (a 206), .ref (a 207), .int 0, .int 0, .ref (a 208), .int 0, .int 0, .int 0, .int 0, .ref (a 209), .ref (a 210), .ref (a 211), .ref (a 212), .ref (a 213), .ref (a 214), .ref (a 215), .int 0, .ref (a 216), .ref (a 217), .ref (a 218)])), ((a 201), .inl (cy 0, 2260, .inl (upd (upd (fun _ => 0) (1 : Int32).toNatClampNeg 1) (2 : Int32).toNatClampNeg 1)))] (fun W1 => (W1 = [((a 200), .inr (11, [.ref (a 201), .ref (a 202), .ref (a 203), .ref (a 204), .int 0, .ref (a 205), .int 0, .int 0, .int 0, .int 0, .int 0, .int 0, .int 0, .int 0, .int 0, .int (-1), .int 0, .int 0, .int 0, .ref (a 206), .ref (a 207), .int 0, .int 0, .ref (a 208), .int 0, .int 0, .int 0, .int 0, .ref (a 209), .ref (a 210), .ref (a 211), .ref (a 212), .ref (a 213), .ref (a 214), .ref (a 215), .int 0, .ref (a 216), .ref (a 217), .ref (a 218)])), ((a 201), .inl (cy 0, 2260, .inl (upd (upd (upd (fun _ => 0) (1 : Int32).toNatClampNeg 1) (2 : Int32).toNatClampNeg 1) (7 : Int32).toNatClampNeg 1)))])) := by
  refine Cv.of (by decide) (Nat.le_of_ble_eq_true rfl) ?_
  intro p e s m below meth c A ls hX hE hP hD hl hin
  obtain ⟨hx, hb, hr, hml, hown, htA, hlk⟩ := id hX
  have hK := hE.1
  have hS : va_S A s.heap s.heap [] := va_S.rf
  have hl : lv_has ls 2 [(0, .ref (a 200))] := hl
  refine lv_aload_n hx hb dX11_keeps_0 rfl (lv_at hl 0 rfl) ?_
  refine va_get (ci := 11) (v := .ref (a 201)) (C := RX11) (T := TX11) (N := 39) hx hb htA in_X11 hown hK hP 0 rfl rfl 0 (by decide) (htA _ wd_1354) (fun _ h => h) rfl dX11_keeps_1 ?_
  refine lv_bipush (v := 7) hx hb dX11_keeps_4 (by decide) ?_
  refine va_iald hx hb hK hP 1 0 rfl rfl (in_lit (by decide)) dX11_keeps_6 ?_
  refine lv_topi (fun x1 ex1 => ?_)
  obtain rfl : x1 = 0 := ex1.trans (by first | decide | rfl)
  refine lv_bipush (v := 10) hx hb dX11_keeps_7 (by decide) ?_
  refine lv_icmp_ne (tgt := 54) hx hb dX11_keeps_9 (by decide) (fun _ => ?_) (fun q => absurd q (by decide))
  refine lv_iconst (v := 0) hx hb dX11_keeps_54 (by decide) ?_
  refine lv_istore_n (lv' := [(1, .int 0), (0, .ref (a 200))]) hx hb dX11_keeps_55 rfl hl (by decide) rfl (fun ls hl => ?_)
  refine lv_iload_n hx hb dX11_keeps_56 rfl (lv_at hl 0 rfl) ?_
  refine lv_bipush (v := 37) hx hb dX11_keeps_57 (by decide) ?_
  refine lv_icmp_ge (tgt := 97) hx hb dX11_keeps_59 (by decide) (fun q => absurd q (by decide)) (fun _ => ?_)
  refine lv_aload_n hx hb dX11_keeps_62 rfl (lv_at hl 1 rfl) ?_
  refine va_get (ci := 11) (v := .ref (a 201)) (C := RX11) (T := TX11) (N := 39) hx hb htA in_X11 hown hK hP 0 rfl rfl 0 (by decide) (htA _ wd_1354) (fun _ h => h) rfl dX11_keeps_63 ?_
  refine lv_bipush (v := 89) hx hb dX11_keeps_66 (by decide) ?_
  refine lv_bipush (v := 37) hx hb dX11_keeps_68 (by decide) ?_
  refine lv_aload_n hx hb dX11_keeps_70 rfl (lv_at hl 1 rfl) ?_
  refine va_get (ci := 11) (v := .ref (a 201)) (C := RX11) (T := TX11) (N := 39) hx hb htA in_X11 hown hK hP 0 rfl rfl 0 (by decide) (htA _ wd_1354) (fun _ h => h) rfl dX11_keeps_71 ?_
  refine lv_bipush (v := 7) hx hb dX11_keeps_74 (by decide) ?_
  refine va_iald hx hb hK hP 1 0 rfl rfl (in_lit (by decide)) dX11_keeps_76 ?_
  refine lv_topi (fun x2 ex2 => ?_)
  obtain rfl : x2 = 0 := ex2.trans (by first | decide | rfl)
  refine lv_imul hx hb dX11_keeps_77 ?_
  refine lv_topi (fun x3 ex3 => ?_)
  obtain rfl : x3 = 0 := ex3.trans (by decide)
  refine lv_iadd hx hb dX11_keeps_78 ?_
  refine lv_topi (fun x4 ex4 => ?_)
  obtain rfl : x4 = 89 := ex4.trans (by decide)
  refine lv_iload_n hx hb dX11_keeps_79 rfl (lv_at hl 0 rfl) ?_
  refine lv_iadd hx hb dX11_keeps_80 ?_
  refine lv_topi (fun x5 ex5 => ?_)
  obtain rfl : x5 = 89 := ex5.trans (by decide)
  refine lv_aload_n hx hb dX11_keeps_81 rfl (lv_at hl 1 rfl) ?_
  refine va_get (ci := 11) (v := .ref (a 201)) (C := RX11) (T := TX11) (N := 39) hx hb htA in_X11 hown hK hP 0 rfl rfl 0 (by decide) (htA _ wd_1354) (fun _ h => h) rfl dX11_keeps_82 ?_
  refine lv_bipush (v := 8) hx hb dX11_keeps_85 (by decide) ?_
  refine lv_iload_n hx hb dX11_keeps_87 rfl (lv_at hl 0 rfl) ?_
  refine lv_iadd hx hb dX11_keeps_88 ?_
  refine lv_topi (fun x6 ex6 => ?_)
  obtain rfl : x6 = 8 := ex6.trans (by decide)
  refine va_iald hx hb hK hP 1 0 rfl rfl (in_lit (by decide)) dX11_keeps_89 ?_
  refine lv_topi (fun x7 ex7 => ?_)
  obtain rfl : x7 = 0 := ex7.trans (by first | decide | rfl)
  refine va_iast hx hb hK hP hD hS 1 0 rfl rfl (in_lit (by decide)) dX11_keeps_90 (fun H locs hP hD hS => ?_)
  rw [fa_upd_same (f := upd (upd (fun _ => 0) (1 : Int32).toNatClampNeg 1) (2 : Int32).toNatClampNeg 1) (i := (89 : Int32).toNatClampNeg) (x := 0) (by first | decide | rfl)] at hP hD
  have hP : va_P D vwCl [((a 200), .inr (11, [.ref (a 201), .ref (a 202), .ref (a 203), .ref (a 204), .int 0, .ref (a 205), .int 0, .int 0, .int 0, .int 0, .int 0, .int 0, .int 0, .int 0, .int 0, .int (-1), .int 0, .int 0, .int 0, .ref (a 206), .ref (a 207), .int 0, .int 0, .ref (a 208), .int 0, .int 0, .int 0, .int 0, .ref (a 209), .ref (a 210), .ref (a 211), .ref (a 212), .ref (a 213), .ref (a 214), .ref (a 215), .int 0, .ref (a 216), .ref (a 217), .ref (a 218)])), ((a 201), .inl (cy 0, 2260, .inl (upd (upd (fun _ => 0) (1 : Int32).toNatClampNeg 1) (2 : Int32).toNatClampNeg 1)))] H := hP
  have hD := va_ca hP hD
  refine lv_iinc (v := 1) (lv' := [(1, .int 1), (0, .ref (a 200))]) hx hb dX11_keeps_91 hl (k := 0) rfl (by decide) (by decide) rfl (fun ls hl => ?_)
  refine lv_goto (tgt := 56) hx hb dX11_keeps_94 (by decide) ?_
  refine lv_iload_n hx hb dX11_keeps_56 rfl (lv_at hl 0 rfl) ?_
  refine lv_bipush (v := 37) hx hb dX11_keeps_57 (by decide) ?_
  refine lv_icmp_ge (tgt := 97) hx hb dX11_keeps_59 (by decide) (fun q => absurd q (by decide)) (fun _ => ?_)
  refine lv_aload_n hx hb dX11_keeps_62 rfl (lv_at hl 1 rfl) ?_
  refine va_get (ci := 11) (v := .ref (a 201)) (C := RX11) (T := TX11) (N := 39) hx hb htA in_X11 hown hK hP 0 rfl rfl 0 (by decide) (htA _ wd_1354) (fun _ h => h) rfl dX11_keeps_63 ?_
  refine lv_bipush (v := 89) hx hb dX11_keeps_66 (by decide) ?_
  refine lv_bipush (v := 37) hx hb dX11_keeps_68 (by decide) ?_
  refine lv_aload_n hx hb dX11_keeps_70 rfl (lv_at hl 1 rfl) ?_
  refine va_get (ci := 11) (v := .ref (a 201)) (C := RX11) (T := TX11) (N := 39) hx hb htA in_X11 hown hK hP 0 rfl rfl 0 (by decide) (htA _ wd_1354) (fun _ h => h) rfl dX11_keeps_71 ?_
  refine lv_bipush (v := 7) hx hb dX11_keeps_74 (by decide) ?_
  refine va_iald hx hb hK hP 1 0 rfl rfl (in_lit (by decide)) dX11_keeps_76 ?_
  refine lv_topi (fun x8 ex8 => ?_)
  obtain rfl : x8 = 0 := ex8.trans (by first | decide | rfl)
  refine lv_imul hx hb dX11_keeps_77 ?_
  refine lv_topi (fun x9 ex9 => ?_)
  obtain rfl : x9 = 0 := ex9.trans (by decide)
  refine lv_iadd hx hb dX11_keeps_78 ?_
  refine lv_topi (fun x10 ex10 => ?_)
  obtain rfl : x10 = 89 := ex10.trans (by decide)
  refine lv_iload_n hx hb dX11_keeps_79 rfl (lv_at hl 0 rfl) ?_
  refine lv_iadd hx hb dX11_keeps_80 ?_
  refine lv_topi (fun x11 ex11 => ?_)
  obtain rfl : x11 = 90 := ex11.trans (by decide)
  refine lv_aload_n hx hb dX11_keeps_81 rfl (lv_at hl 1 rfl) ?_
  refine va_get (ci := 11) (v := .ref (a 201)) (C := RX11) (T := TX11) (N := 39) hx hb htA in_X11 hown hK hP 0 rfl rfl 0 (by decide) (htA _ wd_1354) (fun _ h => h) rfl dX11_keeps_82 ?_
  refine lv_bipush (v := 8) hx hb dX11_keeps_85 (by decide) ?_
  refine lv_iload_n hx hb dX11_keeps_87 rfl (lv_at hl 0 rfl) ?_
  refine lv_iadd hx hb dX11_keeps_88 ?_
  refine lv_topi (fun x12 ex12 => ?_)
  obtain rfl : x12 = 9 := ex12.trans (by decide)
  refine va_iald hx hb hK hP 1 0 rfl rfl (in_lit (by decide)) dX11_keeps_89 ?_
  refine lv_topi (fun x13 ex13 => ?_)
  obtain rfl : x13 = 0 := ex13.trans (by first | decide | rfl)
  refine va_iast hx hb hK hP hD hS 1 0 rfl rfl (in_lit (by decide)) dX11_keeps_90 (fun H locs hP hD hS => ?_)
  rw [fa_upd_same (f := upd (upd (fun _ => 0) (1 : Int32).toNatClampNeg 1) (2 : Int32).toNatClampNeg 1) (i := (90 : Int32).toNatClampNeg) (x := 0) (by first | decide | rfl)] at hP hD
  have hP : va_P D vwCl [((a 200), .inr (11, [.ref (a 201), .ref (a 202), .ref (a 203), .ref (a 204), .int 0, .ref (a 205), .int 0, .int 0, .int 0, .int 0, .int 0, .int 0, .int 0, .int 0, .int 0, .int (-1), .int 0, .int 0, .int 0, .ref (a 206), .ref (a 207), .int 0, .int 0, .ref (a 208), .int 0, .int 0, .int 0, .int 0, .ref (a 209), .ref (a 210), .ref (a 211), .ref (a 212), .ref (a 213), .ref (a 214), .ref (a 215), .int 0, .ref (a 216), .ref (a 217), .ref (a 218)])), ((a 201), .inl (cy 0, 2260, .inl (upd (upd (fun _ => 0) (1 : Int32).toNatClampNeg 1) (2 : Int32).toNatClampNeg 1)))] H := hP
  have hD := va_ca hP hD
  refine lv_iinc (v := 2) (lv' := [(1, .int 2), (0, .ref (a 200))]) hx hb dX11_keeps_91 hl (k := 0) rfl (by decide) (by decide) rfl (fun ls hl => ?_)
  refine lv_goto (tgt := 56) hx hb dX11_keeps_94 (by decide) ?_
  refine lv_iload_n hx hb dX11_keeps_56 rfl (lv_at hl 0 rfl) ?_
  refine lv_bipush (v := 37) hx hb dX11_keeps_57 (by decide) ?_
  refine lv_icmp_ge (tgt := 97) hx hb dX11_keeps_59 (by decide) (fun q => absurd q (by decide)) (fun _ => ?_)
  refine lv_aload_n hx hb dX11_keeps_62 rfl (lv_at hl 1 rfl) ?_
  refine va_get (ci := 11) (v := .ref (a 201)) (C := RX11) (T := TX11) (N := 39) hx hb htA in_X11 hown hK hP 0 rfl rfl 0 (by decide) (htA _ wd_1354) (fun _ h => h) rfl dX11_keeps_63 ?_
  refine lv_bipush (v := 89) hx hb dX11_keeps_66 (by decide) ?_
  refine lv_bipush (v := 37) hx hb dX11_keeps_68 (by decide) ?_
  refine lv_aload_n hx hb dX11_keeps_70 rfl (lv_at hl 1 rfl) ?_
  refine va_get (ci := 11) (v := .ref (a 201)) (C := RX11) (T := TX11) (N := 39) hx hb htA in_X11 hown hK hP 0 rfl rfl 0 (by decide) (htA _ wd_1354) (fun _ h => h) rfl dX11_keeps_71 ?_
  refine lv_bipush (v := 7) hx hb dX11_keeps_74 (by decide) ?_
  refine va_iald hx hb hK hP 1 0 rfl rfl (in_lit (by decide)) dX11_keeps_76 ?_
  refine lv_topi (fun x14 ex14 => ?_)
  obtain rfl : x14 = 0 := ex14.trans (by first | decide | rfl)
  refine lv_imul hx hb dX11_keeps_77 ?_
  refine lv_topi (fun x15 ex15 => ?_)
  obtain rfl : x15 = 0 := ex15.trans (by decide)
  refine lv_iadd hx hb dX11_keeps_78 ?_
  refine lv_topi (fun x16 ex16 => ?_)
  obtain rfl : x16 = 89 := ex16.trans (by decide)
  refine lv_iload_n hx hb dX11_keeps_79 rfl (lv_at hl 0 rfl) ?_
  refine lv_iadd hx hb dX11_keeps_80 ?_
  refine lv_topi (fun x17 ex17 => ?_)
  obtain rfl : x17 = 91 := ex17.trans (by decide)
  refine lv_aload_n hx hb dX11_keeps_81 rfl (lv_at hl 1 rfl) ?_
  refine va_get (ci := 11) (v := .ref (a 201)) (C := RX11) (T := TX11) (N := 39) hx hb htA in_X11 hown hK hP 0 rfl rfl 0 (by decide) (htA _ wd_1354) (fun _ h => h) rfl dX11_keeps_82 ?_
  refine lv_bipush (v := 8) hx hb dX11_keeps_85 (by decide) ?_
  refine lv_iload_n hx hb dX11_keeps_87 rfl (lv_at hl 0 rfl) ?_
  refine lv_iadd hx hb dX11_keeps_88 ?_
  refine lv_topi (fun x18 ex18 => ?_)
  obtain rfl : x18 = 10 := ex18.trans (by decide)
  refine va_iald hx hb hK hP 1 0 rfl rfl (in_lit (by decide)) dX11_keeps_89 ?_
  refine lv_topi (fun x19 ex19 => ?_)
  obtain rfl : x19 = 0 := ex19.trans (by first | decide | rfl)
  refine va_iast hx hb hK hP hD hS 1 0 rfl rfl (in_lit (by decide)) dX11_keeps_90 (fun H locs hP hD hS => ?_)
  rw [fa_upd_same (f := upd (upd (fun _ => 0) (1 : Int32).toNatClampNeg 1) (2 : Int32).toNatClampNeg 1) (i := (91 : Int32).toNatClampNeg) (x := 0) (by first | decide | rfl)] at hP hD
  have hP : va_P D vwCl [((a 200), .inr (11, [.ref (a 201), .ref (a 202), .ref (a 203), .ref (a 204), .int 0, .ref (a 205), .int 0, .int 0, .int 0, .int 0, .int 0, .int 0, .int 0, .int 0, .int 0, .int (-1), .int 0, .int 0, .int 0, .ref (a 206), .ref (a 207), .int 0, .int 0, .ref (a 208), .int 0, .int 0, .int 0, .int 0, .ref (a 209), .ref (a 210), .ref (a 211), .ref (a 212), .ref (a 213), .ref (a 214), .ref (a 215), .int 0, .ref (a 216), .ref (a 217), .ref (a 218)])), ((a 201), .inl (cy 0, 2260, .inl (upd (upd (fun _ => 0) (1 : Int32).toNatClampNeg 1) (2 : Int32).toNatClampNeg 1)))] H := hP
  have hD := va_ca hP hD
  refine lv_iinc (v := 3) (lv' := [(1, .int 3), (0, .ref (a 200))]) hx hb dX11_keeps_91 hl (k := 0) rfl (by decide) (by decide) rfl (fun ls hl => ?_)
  refine lv_goto (tgt := 56) hx hb dX11_keeps_94 (by decide) ?_
  refine lv_iload_n hx hb dX11_keeps_56 rfl (lv_at hl 0 rfl) ?_
  refine lv_bipush (v := 37) hx hb dX11_keeps_57 (by decide) ?_
  refine lv_icmp_ge (tgt := 97) hx hb dX11_keeps_59 (by decide) (fun q => absurd q (by decide)) (fun _ => ?_)
  refine lv_aload_n hx hb dX11_keeps_62 rfl (lv_at hl 1 rfl) ?_
  refine va_get (ci := 11) (v := .ref (a 201)) (C := RX11) (T := TX11) (N := 39) hx hb htA in_X11 hown hK hP 0 rfl rfl 0 (by decide) (htA _ wd_1354) (fun _ h => h) rfl dX11_keeps_63 ?_
  refine lv_bipush (v := 89) hx hb dX11_keeps_66 (by decide) ?_
  refine lv_bipush (v := 37) hx hb dX11_keeps_68 (by decide) ?_
  refine lv_aload_n hx hb dX11_keeps_70 rfl (lv_at hl 1 rfl) ?_
  refine va_get (ci := 11) (v := .ref (a 201)) (C := RX11) (T := TX11) (N := 39) hx hb htA in_X11 hown hK hP 0 rfl rfl 0 (by decide) (htA _ wd_1354) (fun _ h => h) rfl dX11_keeps_71 ?_
  refine lv_bipush (v := 7) hx hb dX11_keeps_74 (by decide) ?_
  refine va_iald hx hb hK hP 1 0 rfl rfl (in_lit (by decide)) dX11_keeps_76 ?_
  refine lv_topi (fun x20 ex20 => ?_)
  obtain rfl : x20 = 0 := ex20.trans (by first | decide | rfl)
  refine lv_imul hx hb dX11_keeps_77 ?_
  refine lv_topi (fun x21 ex21 => ?_)
  obtain rfl : x21 = 0 := ex21.trans (by decide)
  refine lv_iadd hx hb dX11_keeps_78 ?_
  refine lv_topi (fun x22 ex22 => ?_)
  obtain rfl : x22 = 89 := ex22.trans (by decide)
  refine lv_iload_n hx hb dX11_keeps_79 rfl (lv_at hl 0 rfl) ?_
  refine lv_iadd hx hb dX11_keeps_80 ?_
  refine lv_topi (fun x23 ex23 => ?_)
  obtain rfl : x23 = 92 := ex23.trans (by decide)
  refine lv_aload_n hx hb dX11_keeps_81 rfl (lv_at hl 1 rfl) ?_
  refine va_get (ci := 11) (v := .ref (a 201)) (C := RX11) (T := TX11) (N := 39) hx hb htA in_X11 hown hK hP 0 rfl rfl 0 (by decide) (htA _ wd_1354) (fun _ h => h) rfl dX11_keeps_82 ?_
  refine lv_bipush (v := 8) hx hb dX11_keeps_85 (by decide) ?_
  refine lv_iload_n hx hb dX11_keeps_87 rfl (lv_at hl 0 rfl) ?_
  refine lv_iadd hx hb dX11_keeps_88 ?_
  refine lv_topi (fun x24 ex24 => ?_)
  obtain rfl : x24 = 11 := ex24.trans (by decide)
  refine va_iald hx hb hK hP 1 0 rfl rfl (in_lit (by decide)) dX11_keeps_89 ?_
  refine lv_topi (fun x25 ex25 => ?_)
  obtain rfl : x25 = 0 := ex25.trans (by first | decide | rfl)
  refine va_iast hx hb hK hP hD hS 1 0 rfl rfl (in_lit (by decide)) dX11_keeps_90 (fun H locs hP hD hS => ?_)
  rw [fa_upd_same (f := upd (upd (fun _ => 0) (1 : Int32).toNatClampNeg 1) (2 : Int32).toNatClampNeg 1) (i := (92 : Int32).toNatClampNeg) (x := 0) (by first | decide | rfl)] at hP hD
  have hP : va_P D vwCl [((a 200), .inr (11, [.ref (a 201), .ref (a 202), .ref (a 203), .ref (a 204), .int 0, .ref (a 205), .int 0, .int 0, .int 0, .int 0, .int 0, .int 0, .int 0, .int 0, .int 0, .int (-1), .int 0, .int 0, .int 0, .ref (a 206), .ref (a 207), .int 0, .int 0, .ref (a 208), .int 0, .int 0, .int 0, .int 0, .ref (a 209), .ref (a 210), .ref (a 211), .ref (a 212), .ref (a 213), .ref (a 214), .ref (a 215), .int 0, .ref (a 216), .ref (a 217), .ref (a 218)])), ((a 201), .inl (cy 0, 2260, .inl (upd (upd (fun _ => 0) (1 : Int32).toNatClampNeg 1) (2 : Int32).toNatClampNeg 1)))] H := hP
  have hD := va_ca hP hD
  refine lv_iinc (v := 4) (lv' := [(1, .int 4), (0, .ref (a 200))]) hx hb dX11_keeps_91 hl (k := 0) rfl (by decide) (by decide) rfl (fun ls hl => ?_)
  refine lv_goto (tgt := 56) hx hb dX11_keeps_94 (by decide) ?_
  refine lv_iload_n hx hb dX11_keeps_56 rfl (lv_at hl 0 rfl) ?_
  refine lv_bipush (v := 37) hx hb dX11_keeps_57 (by decide) ?_
  refine lv_icmp_ge (tgt := 97) hx hb dX11_keeps_59 (by decide) (fun q => absurd q (by decide)) (fun _ => ?_)
  refine lv_aload_n hx hb dX11_keeps_62 rfl (lv_at hl 1 rfl) ?_
  refine va_get (ci := 11) (v := .ref (a 201)) (C := RX11) (T := TX11) (N := 39) hx hb htA in_X11 hown hK hP 0 rfl rfl 0 (by decide) (htA _ wd_1354) (fun _ h => h) rfl dX11_keeps_63 ?_
  refine lv_bipush (v := 89) hx hb dX11_keeps_66 (by decide) ?_
  refine lv_bipush (v := 37) hx hb dX11_keeps_68 (by decide) ?_
  refine lv_aload_n hx hb dX11_keeps_70 rfl (lv_at hl 1 rfl) ?_
  refine va_get (ci := 11) (v := .ref (a 201)) (C := RX11) (T := TX11) (N := 39) hx hb htA in_X11 hown hK hP 0 rfl rfl 0 (by decide) (htA _ wd_1354) (fun _ h => h) rfl dX11_keeps_71 ?_
  refine lv_bipush (v := 7) hx hb dX11_keeps_74 (by decide) ?_
  refine va_iald hx hb hK hP 1 0 rfl rfl (in_lit (by decide)) dX11_keeps_76 ?_
  refine lv_topi (fun x26 ex26 => ?_)
  obtain rfl : x26 = 0 := ex26.trans (by first | decide | rfl)
  refine lv_imul hx hb dX11_keeps_77 ?_
  refine lv_topi (fun x27 ex27 => ?_)
  obtain rfl : x27 = 0 := ex27.trans (by decide)
  refine lv_iadd hx hb dX11_keeps_78 ?_
  refine lv_topi (fun x28 ex28 => ?_)
  obtain rfl : x28 = 89 := ex28.trans (by decide)
  refine lv_iload_n hx hb dX11_keeps_79 rfl (lv_at hl 0 rfl) ?_
  refine lv_iadd hx hb dX11_keeps_80 ?_
  refine lv_topi (fun x29 ex29 => ?_)
  obtain rfl : x29 = 93 := ex29.trans (by decide)
  refine lv_aload_n hx hb dX11_keeps_81 rfl (lv_at hl 1 rfl) ?_
  refine va_get (ci := 11) (v := .ref (a 201)) (C := RX11) (T := TX11) (N := 39) hx hb htA in_X11 hown hK hP 0 rfl rfl 0 (by decide) (htA _ wd_1354) (fun _ h => h) rfl dX11_keeps_82 ?_
  refine lv_bipush (v := 8) hx hb dX11_keeps_85 (by decide) ?_
  refine lv_iload_n hx hb dX11_keeps_87 rfl (lv_at hl 0 rfl) ?_
  refine lv_iadd hx hb dX11_keeps_88 ?_
  refine lv_topi (fun x30 ex30 => ?_)
  obtain rfl : x30 = 12 := ex30.trans (by decide)
  refine va_iald hx hb hK hP 1 0 rfl rfl (in_lit (by decide)) dX11_keeps_89 ?_
  refine lv_topi (fun x31 ex31 => ?_)
  obtain rfl : x31 = 0 := ex31.trans (by first | decide | rfl)
  refine va_iast hx hb hK hP hD hS 1 0 rfl rfl (in_lit (by decide)) dX11_keeps_90 (fun H locs hP hD hS => ?_)
  rw [fa_upd_same (f := upd (upd (fun _ => 0) (1 : Int32).toNatClampNeg 1) (2 : Int32).toNatClampNeg 1) (i := (93 : Int32).toNatClampNeg) (x := 0) (by first | decide | rfl)] at hP hD
  have hP : va_P D vwCl [((a 200), .inr (11, [.ref (a 201), .ref (a 202), .ref (a 203), .ref (a 204), .int 0, .ref (a 205), .int 0, .int 0, .int 0, .int 0, .int 0, .int 0, .int 0, .int 0, .int 0, .int (-1), .int 0, .int 0, .int 0, .ref (a 206), .ref (a 207), .int 0, .int 0, .ref (a 208), .int 0, .int 0, .int 0, .int 0, .ref (a 209), .ref (a 210), .ref (a 211), .ref (a 212), .ref (a 213), .ref (a 214), .ref (a 215), .int 0, .ref (a 216), .ref (a 217), .ref (a 218)])), ((a 201), .inl (cy 0, 2260, .inl (upd (upd (fun _ => 0) (1 : Int32).toNatClampNeg 1) (2 : Int32).toNatClampNeg 1)))] H := hP
  have hD := va_ca hP hD
  refine lv_iinc (v := 5) (lv' := [(1, .int 5), (0, .ref (a 200))]) hx hb dX11_keeps_91 hl (k := 0) rfl (by decide) (by decide) rfl (fun ls hl => ?_)
  refine lv_goto (tgt := 56) hx hb dX11_keeps_94 (by decide) ?_
  refine lv_iload_n hx hb dX11_keeps_56 rfl (lv_at hl 0 rfl) ?_
  refine lv_bipush (v := 37) hx hb dX11_keeps_57 (by decide) ?_
  refine lv_icmp_ge (tgt := 97) hx hb dX11_keeps_59 (by decide) (fun q => absurd q (by decide)) (fun _ => ?_)
  refine lv_aload_n hx hb dX11_keeps_62 rfl (lv_at hl 1 rfl) ?_
  refine va_get (ci := 11) (v := .ref (a 201)) (C := RX11) (T := TX11) (N := 39) hx hb htA in_X11 hown hK hP 0 rfl rfl 0 (by decide) (htA _ wd_1354) (fun _ h => h) rfl dX11_keeps_63 ?_
  refine lv_bipush (v := 89) hx hb dX11_keeps_66 (by decide) ?_
  refine lv_bipush (v := 37) hx hb dX11_keeps_68 (by decide) ?_
  refine lv_aload_n hx hb dX11_keeps_70 rfl (lv_at hl 1 rfl) ?_
  refine va_get (ci := 11) (v := .ref (a 201)) (C := RX11) (T := TX11) (N := 39) hx hb htA in_X11 hown hK hP 0 rfl rfl 0 (by decide) (htA _ wd_1354) (fun _ h => h) rfl dX11_keeps_71 ?_
  refine lv_bipush (v := 7) hx hb dX11_keeps_74 (by decide) ?_
  refine va_iald hx hb hK hP 1 0 rfl rfl (in_lit (by decide)) dX11_keeps_76 ?_
  refine lv_topi (fun x32 ex32 => ?_)
  obtain rfl : x32 = 0 := ex32.trans (by first | decide | rfl)
  refine lv_imul hx hb dX11_keeps_77 ?_
  refine lv_topi (fun x33 ex33 => ?_)
  obtain rfl : x33 = 0 := ex33.trans (by decide)
  refine lv_iadd hx hb dX11_keeps_78 ?_
  refine lv_topi (fun x34 ex34 => ?_)
  obtain rfl : x34 = 89 := ex34.trans (by decide)
  refine lv_iload_n hx hb dX11_keeps_79 rfl (lv_at hl 0 rfl) ?_
  refine lv_iadd hx hb dX11_keeps_80 ?_
  refine lv_topi (fun x35 ex35 => ?_)
  obtain rfl : x35 = 94 := ex35.trans (by decide)
  refine lv_aload_n hx hb dX11_keeps_81 rfl (lv_at hl 1 rfl) ?_
  refine va_get (ci := 11) (v := .ref (a 201)) (C := RX11) (T := TX11) (N := 39) hx hb htA in_X11 hown hK hP 0 rfl rfl 0 (by decide) (htA _ wd_1354) (fun _ h => h) rfl dX11_keeps_82 ?_
  refine lv_bipush (v := 8) hx hb dX11_keeps_85 (by decide) ?_
  refine lv_iload_n hx hb dX11_keeps_87 rfl (lv_at hl 0 rfl) ?_
  refine lv_iadd hx hb dX11_keeps_88 ?_
  refine lv_topi (fun x36 ex36 => ?_)
  obtain rfl : x36 = 13 := ex36.trans (by decide)
  refine va_iald hx hb hK hP 1 0 rfl rfl (in_lit (by decide)) dX11_keeps_89 ?_
  refine lv_topi (fun x37 ex37 => ?_)
  obtain rfl : x37 = 0 := ex37.trans (by first | decide | rfl)
  refine va_iast hx hb hK hP hD hS 1 0 rfl rfl (in_lit (by decide)) dX11_keeps_90 (fun H locs hP hD hS => ?_)
  rw [fa_upd_same (f := upd (upd (fun _ => 0) (1 : Int32).toNatClampNeg 1) (2 : Int32).toNatClampNeg 1) (i := (94 : Int32).toNatClampNeg) (x := 0) (by first | decide | rfl)] at hP hD
  have hP : va_P D vwCl [((a 200), .inr (11, [.ref (a 201), .ref (a 202), .ref (a 203), .ref (a 204), .int 0, .ref (a 205), .int 0, .int 0, .int 0, .int 0, .int 0, .int 0, .int 0, .int 0, .int 0, .int (-1), .int 0, .int 0, .int 0, .ref (a 206), .ref (a 207), .int 0, .int 0, .ref (a 208), .int 0, .int 0, .int 0, .int 0, .ref (a 209), .ref (a 210), .ref (a 211), .ref (a 212), .ref (a 213), .ref (a 214), .ref (a 215), .int 0, .ref (a 216), .ref (a 217), .ref (a 218)])), ((a 201), .inl (cy 0, 2260, .inl (upd (upd (fun _ => 0) (1 : Int32).toNatClampNeg 1) (2 : Int32).toNatClampNeg 1)))] H := hP
  have hD := va_ca hP hD
  refine lv_iinc (v := 6) (lv' := [(1, .int 6), (0, .ref (a 200))]) hx hb dX11_keeps_91 hl (k := 0) rfl (by decide) (by decide) rfl (fun ls hl => ?_)
  refine lv_goto (tgt := 56) hx hb dX11_keeps_94 (by decide) ?_
  refine lv_iload_n hx hb dX11_keeps_56 rfl (lv_at hl 0 rfl) ?_
  refine lv_bipush (v := 37) hx hb dX11_keeps_57 (by decide) ?_
  refine lv_icmp_ge (tgt := 97) hx hb dX11_keeps_59 (by decide) (fun q => absurd q (by decide)) (fun _ => ?_)
  refine lv_aload_n hx hb dX11_keeps_62 rfl (lv_at hl 1 rfl) ?_
  refine va_get (ci := 11) (v := .ref (a 201)) (C := RX11) (T := TX11) (N := 39) hx hb htA in_X11 hown hK hP 0 rfl rfl 0 (by decide) (htA _ wd_1354) (fun _ h => h) rfl dX11_keeps_63 ?_
  refine lv_bipush (v := 89) hx hb dX11_keeps_66 (by decide) ?_
  refine lv_bipush (v := 37) hx hb dX11_keeps_68 (by decide) ?_
  refine lv_aload_n hx hb dX11_keeps_70 rfl (lv_at hl 1 rfl) ?_
  refine va_get (ci := 11) (v := .ref (a 201)) (C := RX11) (T := TX11) (N := 39) hx hb htA in_X11 hown hK hP 0 rfl rfl 0 (by decide) (htA _ wd_1354) (fun _ h => h) rfl dX11_keeps_71 ?_
  refine lv_bipush (v := 7) hx hb dX11_keeps_74 (by decide) ?_
  refine va_iald hx hb hK hP 1 0 rfl rfl (in_lit (by decide)) dX11_keeps_76 ?_
  refine lv_topi (fun x38 ex38 => ?_)
  obtain rfl : x38 = 0 := ex38.trans (by first | decide | rfl)
  refine lv_imul hx hb dX11_keeps_77 ?_
  refine lv_topi (fun x39 ex39 => ?_)
  obtain rfl : x39 = 0 := ex39.trans (by decide)
  refine lv_iadd hx hb dX11_keeps_78 ?_
  refine lv_topi (fun x40 ex40 => ?_)
  obtain rfl : x40 = 89 := ex40.trans (by decide)
  refine lv_iload_n hx hb dX11_keeps_79 rfl (lv_at hl 0 rfl) ?_
  refine lv_iadd hx hb dX11_keeps_80 ?_
  refine lv_topi (fun x41 ex41 => ?_)
  obtain rfl : x41 = 95 := ex41.trans (by decide)
  refine lv_aload_n hx hb dX11_keeps_81 rfl (lv_at hl 1 rfl) ?_
  refine va_get (ci := 11) (v := .ref (a 201)) (C := RX11) (T := TX11) (N := 39) hx hb htA in_X11 hown hK hP 0 rfl rfl 0 (by decide) (htA _ wd_1354) (fun _ h => h) rfl dX11_keeps_82 ?_
  refine lv_bipush (v := 8) hx hb dX11_keeps_85 (by decide) ?_
  refine lv_iload_n hx hb dX11_keeps_87 rfl (lv_at hl 0 rfl) ?_
  refine lv_iadd hx hb dX11_keeps_88 ?_
  refine lv_topi (fun x42 ex42 => ?_)
  obtain rfl : x42 = 14 := ex42.trans (by decide)
  refine va_iald hx hb hK hP 1 0 rfl rfl (in_lit (by decide)) dX11_keeps_89 ?_
  refine lv_topi (fun x43 ex43 => ?_)
  obtain rfl : x43 = 0 := ex43.trans (by first | decide | rfl)
  refine va_iast hx hb hK hP hD hS 1 0 rfl rfl (in_lit (by decide)) dX11_keeps_90 (fun H locs hP hD hS => ?_)
  rw [fa_upd_same (f := upd (upd (fun _ => 0) (1 : Int32).toNatClampNeg 1) (2 : Int32).toNatClampNeg 1) (i := (95 : Int32).toNatClampNeg) (x := 0) (by first | decide | rfl)] at hP hD
  have hP : va_P D vwCl [((a 200), .inr (11, [.ref (a 201), .ref (a 202), .ref (a 203), .ref (a 204), .int 0, .ref (a 205), .int 0, .int 0, .int 0, .int 0, .int 0, .int 0, .int 0, .int 0, .int 0, .int (-1), .int 0, .int 0, .int 0, .ref (a 206), .ref (a 207), .int 0, .int 0, .ref (a 208), .int 0, .int 0, .int 0, .int 0, .ref (a 209), .ref (a 210), .ref (a 211), .ref (a 212), .ref (a 213), .ref (a 214), .ref (a 215), .int 0, .ref (a 216), .ref (a 217), .ref (a 218)])), ((a 201), .inl (cy 0, 2260, .inl (upd (upd (fun _ => 0) (1 : Int32).toNatClampNeg 1) (2 : Int32).toNatClampNeg 1)))] H := hP
  have hD := va_ca hP hD
  refine lv_iinc (v := 7) (lv' := [(1, .int 7), (0, .ref (a 200))]) hx hb dX11_keeps_91 hl (k := 0) rfl (by decide) (by decide) rfl (fun ls hl => ?_)
  refine lv_goto (tgt := 56) hx hb dX11_keeps_94 (by decide) ?_
  refine lv_iload_n hx hb dX11_keeps_56 rfl (lv_at hl 0 rfl) ?_
  refine lv_bipush (v := 37) hx hb dX11_keeps_57 (by decide) ?_
  refine lv_icmp_ge (tgt := 97) hx hb dX11_keeps_59 (by decide) (fun q => absurd q (by decide)) (fun _ => ?_)
  refine lv_aload_n hx hb dX11_keeps_62 rfl (lv_at hl 1 rfl) ?_
  refine va_get (ci := 11) (v := .ref (a 201)) (C := RX11) (T := TX11) (N := 39) hx hb htA in_X11 hown hK hP 0 rfl rfl 0 (by decide) (htA _ wd_1354) (fun _ h => h) rfl dX11_keeps_63 ?_
  refine lv_bipush (v := 89) hx hb dX11_keeps_66 (by decide) ?_
  refine lv_bipush (v := 37) hx hb dX11_keeps_68 (by decide) ?_
  refine lv_aload_n hx hb dX11_keeps_70 rfl (lv_at hl 1 rfl) ?_
  refine va_get (ci := 11) (v := .ref (a 201)) (C := RX11) (T := TX11) (N := 39) hx hb htA in_X11 hown hK hP 0 rfl rfl 0 (by decide) (htA _ wd_1354) (fun _ h => h) rfl dX11_keeps_71 ?_
  refine lv_bipush (v := 7) hx hb dX11_keeps_74 (by decide) ?_
  refine va_iald hx hb hK hP 1 0 rfl rfl (in_lit (by decide)) dX11_keeps_76 ?_
  refine lv_topi (fun x44 ex44 => ?_)
  obtain rfl : x44 = 0 := ex44.trans (by first | decide | rfl)
  refine lv_imul hx hb dX11_keeps_77 ?_
  refine lv_topi (fun x45 ex45 => ?_)
  obtain rfl : x45 = 0 := ex45.trans (by decide)
  refine lv_iadd hx hb dX11_keeps_78 ?_
  refine lv_topi (fun x46 ex46 => ?_)
  obtain rfl : x46 = 89 := ex46.trans (by decide)
  refine lv_iload_n hx hb dX11_keeps_79 rfl (lv_at hl 0 rfl) ?_
  refine lv_iadd hx hb dX11_keeps_80 ?_
  refine lv_topi (fun x47 ex47 => ?_)
  obtain rfl : x47 = 96 := ex47.trans (by decide)
  refine lv_aload_n hx hb dX11_keeps_81 rfl (lv_at hl 1 rfl) ?_
  refine va_get (ci := 11) (v := .ref (a 201)) (C := RX11) (T := TX11) (N := 39) hx hb htA in_X11 hown hK hP 0 rfl rfl 0 (by decide) (htA _ wd_1354) (fun _ h => h) rfl dX11_keeps_82 ?_
  refine lv_bipush (v := 8) hx hb dX11_keeps_85 (by decide) ?_
  refine lv_iload_n hx hb dX11_keeps_87 rfl (lv_at hl 0 rfl) ?_
  refine lv_iadd hx hb dX11_keeps_88 ?_
  refine lv_topi (fun x48 ex48 => ?_)
  obtain rfl : x48 = 15 := ex48.trans (by decide)
  refine va_iald hx hb hK hP 1 0 rfl rfl (in_lit (by decide)) dX11_keeps_89 ?_
  refine lv_topi (fun x49 ex49 => ?_)
  obtain rfl : x49 = 0 := ex49.trans (by first | decide | rfl)
  refine va_iast hx hb hK hP hD hS 1 0 rfl rfl (in_lit (by decide)) dX11_keeps_90 (fun H locs hP hD hS => ?_)
  rw [fa_upd_same (f := upd (upd (fun _ => 0) (1 : Int32).toNatClampNeg 1) (2 : Int32).toNatClampNeg 1) (i := (96 : Int32).toNatClampNeg) (x := 0) (by first | decide | rfl)] at hP hD
  have hP : va_P D vwCl [((a 200), .inr (11, [.ref (a 201), .ref (a 202), .ref (a 203), .ref (a 204), .int 0, .ref (a 205), .int 0, .int 0, .int 0, .int 0, .int 0, .int 0, .int 0, .int 0, .int 0, .int (-1), .int 0, .int 0, .int 0, .ref (a 206), .ref (a 207), .int 0, .int 0, .ref (a 208), .int 0, .int 0, .int 0, .int 0, .ref (a 209), .ref (a 210), .ref (a 211), .ref (a 212), .ref (a 213), .ref (a 214), .ref (a 215), .int 0, .ref (a 216), .ref (a 217), .ref (a 218)])), ((a 201), .inl (cy 0, 2260, .inl (upd (upd (fun _ => 0) (1 : Int32).toNatClampNeg 1) (2 : Int32).toNatClampNeg 1)))] H := hP
  have hD := va_ca hP hD
  refine lv_iinc (v := 8) (lv' := [(1, .int 8), (0, .ref (a 200))]) hx hb dX11_keeps_91 hl (k := 0) rfl (by decide) (by decide) rfl (fun ls hl => ?_)
  refine lv_goto (tgt := 56) hx hb dX11_keeps_94 (by decide) ?_
  refine lv_iload_n hx hb dX11_keeps_56 rfl (lv_at hl 0 rfl) ?_
  refine lv_bipush (v := 37) hx hb dX11_keeps_57 (by decide) ?_
  refine lv_icmp_ge (tgt := 97) hx hb dX11_keeps_59 (by decide) (fun q => absurd q (by decide)) (fun _ => ?_)
  refine lv_aload_n hx hb dX11_keeps_62 rfl (lv_at hl 1 rfl) ?_
  refine va_get (ci := 11) (v := .ref (a 201)) (C := RX11) (T := TX11) (N := 39) hx hb htA in_X11 hown hK hP 0 rfl rfl 0 (by decide) (htA _ wd_1354) (fun _ h => h) rfl dX11_keeps_63 ?_
  refine lv_bipush (v := 89) hx hb dX11_keeps_66 (by decide) ?_
  refine lv_bipush (v := 37) hx hb dX11_keeps_68 (by decide) ?_
  refine lv_aload_n hx hb dX11_keeps_70 rfl (lv_at hl 1 rfl) ?_
  refine va_get (ci := 11) (v := .ref (a 201)) (C := RX11) (T := TX11) (N := 39) hx hb htA in_X11 hown hK hP 0 rfl rfl 0 (by decide) (htA _ wd_1354) (fun _ h => h) rfl dX11_keeps_71 ?_
  refine lv_bipush (v := 7) hx hb dX11_keeps_74 (by decide) ?_
  refine va_iald hx hb hK hP 1 0 rfl rfl (in_lit (by decide)) dX11_keeps_76 ?_
  refine lv_topi (fun x50 ex50 => ?_)
  obtain rfl : x50 = 0 := ex50.trans (by first | decide | rfl)
  refine lv_imul hx hb dX11_keeps_77 ?_
  refine lv_topi (fun x51 ex51 => ?_)
  obtain rfl : x51 = 0 := ex51.trans (by decide)
  refine lv_iadd hx hb dX11_keeps_78 ?_
  refine lv_topi (fun x52 ex52 => ?_)
  obtain rfl : x52 = 89 := ex52.trans (by decide)
  refine lv_iload_n hx hb dX11_keeps_79 rfl (lv_at hl 0 rfl) ?_
  refine lv_iadd hx hb dX11_keeps_80 ?_
  refine lv_topi (fun x53 ex53 => ?_)
  obtain rfl : x53 = 97 := ex53.trans (by decide)
  refine lv_aload_n hx hb dX11_keeps_81 rfl (lv_at hl 1 rfl) ?_
  refine va_get (ci := 11) (v := .ref (a 201)) (C := RX11) (T := TX11) (N := 39) hx hb htA in_X11 hown hK hP 0 rfl rfl 0 (by decide) (htA _ wd_1354) (fun _ h => h) rfl dX11_keeps_82 ?_
  refine lv_bipush (v := 8) hx hb dX11_keeps_85 (by decide) ?_
  refine lv_iload_n hx hb dX11_keeps_87 rfl (lv_at hl 0 rfl) ?_
  refine lv_iadd hx hb dX11_keeps_88 ?_
  refine lv_topi (fun x54 ex54 => ?_)
  obtain rfl : x54 = 16 := ex54.trans (by decide)
  refine va_iald hx hb hK hP 1 0 rfl rfl (in_lit (by decide)) dX11_keeps_89 ?_
  refine lv_topi (fun x55 ex55 => ?_)
  obtain rfl : x55 = 0 := ex55.trans (by first | decide | rfl)
  refine va_iast hx hb hK hP hD hS 1 0 rfl rfl (in_lit (by decide)) dX11_keeps_90 (fun H locs hP hD hS => ?_)
  rw [fa_upd_same (f := upd (upd (fun _ => 0) (1 : Int32).toNatClampNeg 1) (2 : Int32).toNatClampNeg 1) (i := (97 : Int32).toNatClampNeg) (x := 0) (by first | decide | rfl)] at hP hD
  have hP : va_P D vwCl [((a 200), .inr (11, [.ref (a 201), .ref (a 202), .ref (a 203), .ref (a 204), .int 0, .ref (a 205), .int 0, .int 0, .int 0, .int 0, .int 0, .int 0, .int 0, .int 0, .int 0, .int (-1), .int 0, .int 0, .int 0, .ref (a 206), .ref (a 207), .int 0, .int 0, .ref (a 208), .int 0, .int 0, .int 0, .int 0, .ref (a 209), .ref (a 210), .ref (a 211), .ref (a 212), .ref (a 213), .ref (a 214), .ref (a 215), .int 0, .ref (a 216), .ref (a 217), .ref (a 218)])), ((a 201), .inl (cy 0, 2260, .inl (upd (upd (fun _ => 0) (1 : Int32).toNatClampNeg 1) (2 : Int32).toNatClampNeg 1)))] H := hP
  have hD := va_ca hP hD
  refine lv_iinc (v := 9) (lv' := [(1, .int 9), (0, .ref (a 200))]) hx hb dX11_keeps_91 hl (k := 0) rfl (by decide) (by decide) rfl (fun ls hl => ?_)
  refine lv_goto (tgt := 56) hx hb dX11_keeps_94 (by decide) ?_
  refine lv_iload_n hx hb dX11_keeps_56 rfl (lv_at hl 0 rfl) ?_
  refine lv_bipush (v := 37) hx hb dX11_keeps_57 (by decide) ?_
  refine lv_icmp_ge (tgt := 97) hx hb dX11_keeps_59 (by decide) (fun q => absurd q (by decide)) (fun _ => ?_)
  refine lv_aload_n hx hb dX11_keeps_62 rfl (lv_at hl 1 rfl) ?_
  refine va_get (ci := 11) (v := .ref (a 201)) (C := RX11) (T := TX11) (N := 39) hx hb htA in_X11 hown hK hP 0 rfl rfl 0 (by decide) (htA _ wd_1354) (fun _ h => h) rfl dX11_keeps_63 ?_
  refine lv_bipush (v := 89) hx hb dX11_keeps_66 (by decide) ?_
  refine lv_bipush (v := 37) hx hb dX11_keeps_68 (by decide) ?_
  refine lv_aload_n hx hb dX11_keeps_70 rfl (lv_at hl 1 rfl) ?_
  refine va_get (ci := 11) (v := .ref (a 201)) (C := RX11) (T := TX11) (N := 39) hx hb htA in_X11 hown hK hP 0 rfl rfl 0 (by decide) (htA _ wd_1354) (fun _ h => h) rfl dX11_keeps_71 ?_
  refine lv_bipush (v := 7) hx hb dX11_keeps_74 (by decide) ?_
  refine va_iald hx hb hK hP 1 0 rfl rfl (in_lit (by decide)) dX11_keeps_76 ?_
  refine lv_topi (fun x56 ex56 => ?_)
  obtain rfl : x56 = 0 := ex56.trans (by first | decide | rfl)
  refine lv_imul hx hb dX11_keeps_77 ?_
  refine lv_topi (fun x57 ex57 => ?_)
  obtain rfl : x57 = 0 := ex57.trans (by decide)
  refine lv_iadd hx hb dX11_keeps_78 ?_
  refine lv_topi (fun x58 ex58 => ?_)
  obtain rfl : x58 = 89 := ex58.trans (by decide)
  refine lv_iload_n hx hb dX11_keeps_79 rfl (lv_at hl 0 rfl) ?_
  refine lv_iadd hx hb dX11_keeps_80 ?_
  refine lv_topi (fun x59 ex59 => ?_)
  obtain rfl : x59 = 98 := ex59.trans (by decide)
  refine lv_aload_n hx hb dX11_keeps_81 rfl (lv_at hl 1 rfl) ?_
  refine va_get (ci := 11) (v := .ref (a 201)) (C := RX11) (T := TX11) (N := 39) hx hb htA in_X11 hown hK hP 0 rfl rfl 0 (by decide) (htA _ wd_1354) (fun _ h => h) rfl dX11_keeps_82 ?_
  refine lv_bipush (v := 8) hx hb dX11_keeps_85 (by decide) ?_
  refine lv_iload_n hx hb dX11_keeps_87 rfl (lv_at hl 0 rfl) ?_
  refine lv_iadd hx hb dX11_keeps_88 ?_
  refine lv_topi (fun x60 ex60 => ?_)
  obtain rfl : x60 = 17 := ex60.trans (by decide)
  refine va_iald hx hb hK hP 1 0 rfl rfl (in_lit (by decide)) dX11_keeps_89 ?_
  refine lv_topi (fun x61 ex61 => ?_)
  obtain rfl : x61 = 0 := ex61.trans (by first | decide | rfl)
  refine va_iast hx hb hK hP hD hS 1 0 rfl rfl (in_lit (by decide)) dX11_keeps_90 (fun H locs hP hD hS => ?_)
  rw [fa_upd_same (f := upd (upd (fun _ => 0) (1 : Int32).toNatClampNeg 1) (2 : Int32).toNatClampNeg 1) (i := (98 : Int32).toNatClampNeg) (x := 0) (by first | decide | rfl)] at hP hD
  have hP : va_P D vwCl [((a 200), .inr (11, [.ref (a 201), .ref (a 202), .ref (a 203), .ref (a 204), .int 0, .ref (a 205), .int 0, .int 0, .int 0, .int 0, .int 0, .int 0, .int 0, .int 0, .int 0, .int (-1), .int 0, .int 0, .int 0, .ref (a 206), .ref (a 207), .int 0, .int 0, .ref (a 208), .int 0, .int 0, .int 0, .int 0, .ref (a 209), .ref (a 210), .ref (a 211), .ref (a 212), .ref (a 213), .ref (a 214), .ref (a 215), .int 0, .ref (a 216), .ref (a 217), .ref (a 218)])), ((a 201), .inl (cy 0, 2260, .inl (upd (upd (fun _ => 0) (1 : Int32).toNatClampNeg 1) (2 : Int32).toNatClampNeg 1)))] H := hP
  have hD := va_ca hP hD
  refine lv_iinc (v := 10) (lv' := [(1, .int 10), (0, .ref (a 200))]) hx hb dX11_keeps_91 hl (k := 0) rfl (by decide) (by decide) rfl (fun ls hl => ?_)
  refine lv_goto (tgt := 56) hx hb dX11_keeps_94 (by decide) ?_
  refine lv_iload_n hx hb dX11_keeps_56 rfl (lv_at hl 0 rfl) ?_
  refine lv_bipush (v := 37) hx hb dX11_keeps_57 (by decide) ?_
  refine lv_icmp_ge (tgt := 97) hx hb dX11_keeps_59 (by decide) (fun q => absurd q (by decide)) (fun _ => ?_)
  refine lv_aload_n hx hb dX11_keeps_62 rfl (lv_at hl 1 rfl) ?_
  refine va_get (ci := 11) (v := .ref (a 201)) (C := RX11) (T := TX11) (N := 39) hx hb htA in_X11 hown hK hP 0 rfl rfl 0 (by decide) (htA _ wd_1354) (fun _ h => h) rfl dX11_keeps_63 ?_
  refine lv_bipush (v := 89) hx hb dX11_keeps_66 (by decide) ?_
  refine lv_bipush (v := 37) hx hb dX11_keeps_68 (by decide) ?_
  refine lv_aload_n hx hb dX11_keeps_70 rfl (lv_at hl 1 rfl) ?_
  refine va_get (ci := 11) (v := .ref (a 201)) (C := RX11) (T := TX11) (N := 39) hx hb htA in_X11 hown hK hP 0 rfl rfl 0 (by decide) (htA _ wd_1354) (fun _ h => h) rfl dX11_keeps_71 ?_
  refine lv_bipush (v := 7) hx hb dX11_keeps_74 (by decide) ?_
  refine va_iald hx hb hK hP 1 0 rfl rfl (in_lit (by decide)) dX11_keeps_76 ?_
  refine lv_topi (fun x62 ex62 => ?_)
  obtain rfl : x62 = 0 := ex62.trans (by first | decide | rfl)
  refine lv_imul hx hb dX11_keeps_77 ?_
  refine lv_topi (fun x63 ex63 => ?_)
  obtain rfl : x63 = 0 := ex63.trans (by decide)
  refine lv_iadd hx hb dX11_keeps_78 ?_
  refine lv_topi (fun x64 ex64 => ?_)
  obtain rfl : x64 = 89 := ex64.trans (by decide)
  refine lv_iload_n hx hb dX11_keeps_79 rfl (lv_at hl 0 rfl) ?_
  refine lv_iadd hx hb dX11_keeps_80 ?_
  refine lv_topi (fun x65 ex65 => ?_)
  obtain rfl : x65 = 99 := ex65.trans (by decide)
  refine lv_aload_n hx hb dX11_keeps_81 rfl (lv_at hl 1 rfl) ?_
  refine va_get (ci := 11) (v := .ref (a 201)) (C := RX11) (T := TX11) (N := 39) hx hb htA in_X11 hown hK hP 0 rfl rfl 0 (by decide) (htA _ wd_1354) (fun _ h => h) rfl dX11_keeps_82 ?_
  refine lv_bipush (v := 8) hx hb dX11_keeps_85 (by decide) ?_
  refine lv_iload_n hx hb dX11_keeps_87 rfl (lv_at hl 0 rfl) ?_
  refine lv_iadd hx hb dX11_keeps_88 ?_
  refine lv_topi (fun x66 ex66 => ?_)
  obtain rfl : x66 = 18 := ex66.trans (by decide)
  refine va_iald hx hb hK hP 1 0 rfl rfl (in_lit (by decide)) dX11_keeps_89 ?_
  refine lv_topi (fun x67 ex67 => ?_)
  obtain rfl : x67 = 0 := ex67.trans (by first | decide | rfl)
  refine va_iast hx hb hK hP hD hS 1 0 rfl rfl (in_lit (by decide)) dX11_keeps_90 (fun H locs hP hD hS => ?_)
  rw [fa_upd_same (f := upd (upd (fun _ => 0) (1 : Int32).toNatClampNeg 1) (2 : Int32).toNatClampNeg 1) (i := (99 : Int32).toNatClampNeg) (x := 0) (by first | decide | rfl)] at hP hD
  have hP : va_P D vwCl [((a 200), .inr (11, [.ref (a 201), .ref (a 202), .ref (a 203), .ref (a 204), .int 0, .ref (a 205), .int 0, .int 0, .int 0, .int 0, .int 0, .int 0, .int 0, .int 0, .int 0, .int (-1), .int 0, .int 0, .int 0, .ref (a 206), .ref (a 207), .int 0, .int 0, .ref (a 208), .int 0, .int 0, .int 0, .int 0, .ref (a 209), .ref (a 210), .ref (a 211), .ref (a 212), .ref (a 213), .ref (a 214), .ref (a 215), .int 0, .ref (a 216), .ref (a 217), .ref (a 218)])), ((a 201), .inl (cy 0, 2260, .inl (upd (upd (fun _ => 0) (1 : Int32).toNatClampNeg 1) (2 : Int32).toNatClampNeg 1)))] H := hP
  have hD := va_ca hP hD
  refine lv_iinc (v := 11) (lv' := [(1, .int 11), (0, .ref (a 200))]) hx hb dX11_keeps_91 hl (k := 0) rfl (by decide) (by decide) rfl (fun ls hl => ?_)
  refine lv_goto (tgt := 56) hx hb dX11_keeps_94 (by decide) ?_
  refine lv_iload_n hx hb dX11_keeps_56 rfl (lv_at hl 0 rfl) ?_
  refine lv_bipush (v := 37) hx hb dX11_keeps_57 (by decide) ?_
  refine lv_icmp_ge (tgt := 97) hx hb dX11_keeps_59 (by decide) (fun q => absurd q (by decide)) (fun _ => ?_)
  refine lv_aload_n hx hb dX11_keeps_62 rfl (lv_at hl 1 rfl) ?_
  refine va_get (ci := 11) (v := .ref (a 201)) (C := RX11) (T := TX11) (N := 39) hx hb htA in_X11 hown hK hP 0 rfl rfl 0 (by decide) (htA _ wd_1354) (fun _ h => h) rfl dX11_keeps_63 ?_
  refine lv_bipush (v := 89) hx hb dX11_keeps_66 (by decide) ?_
  refine lv_bipush (v := 37) hx hb dX11_keeps_68 (by decide) ?_
  refine lv_aload_n hx hb dX11_keeps_70 rfl (lv_at hl 1 rfl) ?_
  refine va_get (ci := 11) (v := .ref (a 201)) (C := RX11) (T := TX11) (N := 39) hx hb htA in_X11 hown hK hP 0 rfl rfl 0 (by decide) (htA _ wd_1354) (fun _ h => h) rfl dX11_keeps_71 ?_
  refine lv_bipush (v := 7) hx hb dX11_keeps_74 (by decide) ?_
  refine va_iald hx hb hK hP 1 0 rfl rfl (in_lit (by decide)) dX11_keeps_76 ?_
  refine lv_topi (fun x68 ex68 => ?_)
  obtain rfl : x68 = 0 := ex68.trans (by first | decide | rfl)
  refine lv_imul hx hb dX11_keeps_77 ?_
  refine lv_topi (fun x69 ex69 => ?_)
  obtain rfl : x69 = 0 := ex69.trans (by decide)
  refine lv_iadd hx hb dX11_keeps_78 ?_
  refine lv_topi (fun x70 ex70 => ?_)
  obtain rfl : x70 = 89 := ex70.trans (by decide)
  refine lv_iload_n hx hb dX11_keeps_79 rfl (lv_at hl 0 rfl) ?_
  refine lv_iadd hx hb dX11_keeps_80 ?_
  refine lv_topi (fun x71 ex71 => ?_)
  obtain rfl : x71 = 100 := ex71.trans (by decide)
  refine lv_aload_n hx hb dX11_keeps_81 rfl (lv_at hl 1 rfl) ?_
  refine va_get (ci := 11) (v := .ref (a 201)) (C := RX11) (T := TX11) (N := 39) hx hb htA in_X11 hown hK hP 0 rfl rfl 0 (by decide) (htA _ wd_1354) (fun _ h => h) rfl dX11_keeps_82 ?_
  refine lv_bipush (v := 8) hx hb dX11_keeps_85 (by decide) ?_
  refine lv_iload_n hx hb dX11_keeps_87 rfl (lv_at hl 0 rfl) ?_
  refine lv_iadd hx hb dX11_keeps_88 ?_
  refine lv_topi (fun x72 ex72 => ?_)
  obtain rfl : x72 = 19 := ex72.trans (by decide)
  refine va_iald hx hb hK hP 1 0 rfl rfl (in_lit (by decide)) dX11_keeps_89 ?_
  refine lv_topi (fun x73 ex73 => ?_)
  obtain rfl : x73 = 0 := ex73.trans (by first | decide | rfl)
  refine va_iast hx hb hK hP hD hS 1 0 rfl rfl (in_lit (by decide)) dX11_keeps_90 (fun H locs hP hD hS => ?_)
  rw [fa_upd_same (f := upd (upd (fun _ => 0) (1 : Int32).toNatClampNeg 1) (2 : Int32).toNatClampNeg 1) (i := (100 : Int32).toNatClampNeg) (x := 0) (by first | decide | rfl)] at hP hD
  have hP : va_P D vwCl [((a 200), .inr (11, [.ref (a 201), .ref (a 202), .ref (a 203), .ref (a 204), .int 0, .ref (a 205), .int 0, .int 0, .int 0, .int 0, .int 0, .int 0, .int 0, .int 0, .int 0, .int (-1), .int 0, .int 0, .int 0, .ref (a 206), .ref (a 207), .int 0, .int 0, .ref (a 208), .int 0, .int 0, .int 0, .int 0, .ref (a 209), .ref (a 210), .ref (a 211), .ref (a 212), .ref (a 213), .ref (a 214), .ref (a 215), .int 0, .ref (a 216), .ref (a 217), .ref (a 218)])), ((a 201), .inl (cy 0, 2260, .inl (upd (upd (fun _ => 0) (1 : Int32).toNatClampNeg 1) (2 : Int32).toNatClampNeg 1)))] H := hP
  have hD := va_ca hP hD
  refine lv_iinc (v := 12) (lv' := [(1, .int 12), (0, .ref (a 200))]) hx hb dX11_keeps_91 hl (k := 0) rfl (by decide) (by decide) rfl (fun ls hl => ?_)
  refine lv_goto (tgt := 56) hx hb dX11_keeps_94 (by decide) ?_
  refine lv_iload_n hx hb dX11_keeps_56 rfl (lv_at hl 0 rfl) ?_
  refine lv_bipush (v := 37) hx hb dX11_keeps_57 (by decide) ?_
  refine lv_icmp_ge (tgt := 97) hx hb dX11_keeps_59 (by decide) (fun q => absurd q (by decide)) (fun _ => ?_)
  refine lv_aload_n hx hb dX11_keeps_62 rfl (lv_at hl 1 rfl) ?_
  refine va_get (ci := 11) (v := .ref (a 201)) (C := RX11) (T := TX11) (N := 39) hx hb htA in_X11 hown hK hP 0 rfl rfl 0 (by decide) (htA _ wd_1354) (fun _ h => h) rfl dX11_keeps_63 ?_
  refine lv_bipush (v := 89) hx hb dX11_keeps_66 (by decide) ?_
  refine lv_bipush (v := 37) hx hb dX11_keeps_68 (by decide) ?_
  refine lv_aload_n hx hb dX11_keeps_70 rfl (lv_at hl 1 rfl) ?_
  refine va_get (ci := 11) (v := .ref (a 201)) (C := RX11) (T := TX11) (N := 39) hx hb htA in_X11 hown hK hP 0 rfl rfl 0 (by decide) (htA _ wd_1354) (fun _ h => h) rfl dX11_keeps_71 ?_
  refine lv_bipush (v := 7) hx hb dX11_keeps_74 (by decide) ?_
  refine va_iald hx hb hK hP 1 0 rfl rfl (in_lit (by decide)) dX11_keeps_76 ?_
  refine lv_topi (fun x74 ex74 => ?_)
  obtain rfl : x74 = 0 := ex74.trans (by first | decide | rfl)
  refine lv_imul hx hb dX11_keeps_77 ?_
  refine lv_topi (fun x75 ex75 => ?_)
  obtain rfl : x75 = 0 := ex75.trans (by decide)
  refine lv_iadd hx hb dX11_keeps_78 ?_
  refine lv_topi (fun x76 ex76 => ?_)
  obtain rfl : x76 = 89 := ex76.trans (by decide)
  refine lv_iload_n hx hb dX11_keeps_79 rfl (lv_at hl 0 rfl) ?_
  refine lv_iadd hx hb dX11_keeps_80 ?_
  refine lv_topi (fun x77 ex77 => ?_)
  obtain rfl : x77 = 101 := ex77.trans (by decide)
  refine lv_aload_n hx hb dX11_keeps_81 rfl (lv_at hl 1 rfl) ?_
  refine va_get (ci := 11) (v := .ref (a 201)) (C := RX11) (T := TX11) (N := 39) hx hb htA in_X11 hown hK hP 0 rfl rfl 0 (by decide) (htA _ wd_1354) (fun _ h => h) rfl dX11_keeps_82 ?_
  refine lv_bipush (v := 8) hx hb dX11_keeps_85 (by decide) ?_
  refine lv_iload_n hx hb dX11_keeps_87 rfl (lv_at hl 0 rfl) ?_
  refine lv_iadd hx hb dX11_keeps_88 ?_
  refine lv_topi (fun x78 ex78 => ?_)
  obtain rfl : x78 = 20 := ex78.trans (by decide)
  refine va_iald hx hb hK hP 1 0 rfl rfl (in_lit (by decide)) dX11_keeps_89 ?_
  refine lv_topi (fun x79 ex79 => ?_)
  obtain rfl : x79 = 0 := ex79.trans (by first | decide | rfl)
  refine va_iast hx hb hK hP hD hS 1 0 rfl rfl (in_lit (by decide)) dX11_keeps_90 (fun H locs hP hD hS => ?_)
  rw [fa_upd_same (f := upd (upd (fun _ => 0) (1 : Int32).toNatClampNeg 1) (2 : Int32).toNatClampNeg 1) (i := (101 : Int32).toNatClampNeg) (x := 0) (by first | decide | rfl)] at hP hD
  have hP : va_P D vwCl [((a 200), .inr (11, [.ref (a 201), .ref (a 202), .ref (a 203), .ref (a 204), .int 0, .ref (a 205), .int 0, .int 0, .int 0, .int 0, .int 0, .int 0, .int 0, .int 0, .int 0, .int (-1), .int 0, .int 0, .int 0, .ref (a 206), .ref (a 207), .int 0, .int 0, .ref (a 208), .int 0, .int 0, .int 0, .int 0, .ref (a 209), .ref (a 210), .ref (a 211), .ref (a 212), .ref (a 213), .ref (a 214), .ref (a 215), .int 0, .ref (a 216), .ref (a 217), .ref (a 218)])), ((a 201), .inl (cy 0, 2260, .inl (upd (upd (fun _ => 0) (1 : Int32).toNatClampNeg 1) (2 : Int32).toNatClampNeg 1)))] H := hP
  have hD := va_ca hP hD
  refine lv_iinc (v := 13) (lv' := [(1, .int 13), (0, .ref (a 200))]) hx hb dX11_keeps_91 hl (k := 0) rfl (by decide) (by decide) rfl (fun ls hl => ?_)
  refine lv_goto (tgt := 56) hx hb dX11_keeps_94 (by decide) ?_
  refine lv_iload_n hx hb dX11_keeps_56 rfl (lv_at hl 0 rfl) ?_
  refine lv_bipush (v := 37) hx hb dX11_keeps_57 (by decide) ?_
  refine lv_icmp_ge (tgt := 97) hx hb dX11_keeps_59 (by decide) (fun q => absurd q (by decide)) (fun _ => ?_)
  refine lv_aload_n hx hb dX11_keeps_62 rfl (lv_at hl 1 rfl) ?_
  refine va_get (ci := 11) (v := .ref (a 201)) (C := RX11) (T := TX11) (N := 39) hx hb htA in_X11 hown hK hP 0 rfl rfl 0 (by decide) (htA _ wd_1354) (fun _ h => h) rfl dX11_keeps_63 ?_
  refine lv_bipush (v := 89) hx hb dX11_keeps_66 (by decide) ?_
  refine lv_bipush (v := 37) hx hb dX11_keeps_68 (by decide) ?_
  refine lv_aload_n hx hb dX11_keeps_70 rfl (lv_at hl 1 rfl) ?_
  refine va_get (ci := 11) (v := .ref (a 201)) (C := RX11) (T := TX11) (N := 39) hx hb htA in_X11 hown hK hP 0 rfl rfl 0 (by decide) (htA _ wd_1354) (fun _ h => h) rfl dX11_keeps_71 ?_
  refine lv_bipush (v := 7) hx hb dX11_keeps_74 (by decide) ?_
  refine va_iald hx hb hK hP 1 0 rfl rfl (in_lit (by decide)) dX11_keeps_76 ?_
  refine lv_topi (fun x80 ex80 => ?_)
  obtain rfl : x80 = 0 := ex80.trans (by first | decide | rfl)
  refine lv_imul hx hb dX11_keeps_77 ?_
  refine lv_topi (fun x81 ex81 => ?_)
  obtain rfl : x81 = 0 := ex81.trans (by decide)
  refine lv_iadd hx hb dX11_keeps_78 ?_
  refine lv_topi (fun x82 ex82 => ?_)
  obtain rfl : x82 = 89 := ex82.trans (by decide)
  refine lv_iload_n hx hb dX11_keeps_79 rfl (lv_at hl 0 rfl) ?_
  refine lv_iadd hx hb dX11_keeps_80 ?_
  refine lv_topi (fun x83 ex83 => ?_)
  obtain rfl : x83 = 102 := ex83.trans (by decide)
  refine lv_aload_n hx hb dX11_keeps_81 rfl (lv_at hl 1 rfl) ?_
  refine va_get (ci := 11) (v := .ref (a 201)) (C := RX11) (T := TX11) (N := 39) hx hb htA in_X11 hown hK hP 0 rfl rfl 0 (by decide) (htA _ wd_1354) (fun _ h => h) rfl dX11_keeps_82 ?_
  refine lv_bipush (v := 8) hx hb dX11_keeps_85 (by decide) ?_
  refine lv_iload_n hx hb dX11_keeps_87 rfl (lv_at hl 0 rfl) ?_
  refine lv_iadd hx hb dX11_keeps_88 ?_
  refine lv_topi (fun x84 ex84 => ?_)
  obtain rfl : x84 = 21 := ex84.trans (by decide)
  refine va_iald hx hb hK hP 1 0 rfl rfl (in_lit (by decide)) dX11_keeps_89 ?_
  refine lv_topi (fun x85 ex85 => ?_)
  obtain rfl : x85 = 0 := ex85.trans (by first | decide | rfl)
  refine va_iast hx hb hK hP hD hS 1 0 rfl rfl (in_lit (by decide)) dX11_keeps_90 (fun H locs hP hD hS => ?_)
  rw [fa_upd_same (f := upd (upd (fun _ => 0) (1 : Int32).toNatClampNeg 1) (2 : Int32).toNatClampNeg 1) (i := (102 : Int32).toNatClampNeg) (x := 0) (by first | decide | rfl)] at hP hD
  have hP : va_P D vwCl [((a 200), .inr (11, [.ref (a 201), .ref (a 202), .ref (a 203), .ref (a 204), .int 0, .ref (a 205), .int 0, .int 0, .int 0, .int 0, .int 0, .int 0, .int 0, .int 0, .int 0, .int (-1), .int 0, .int 0, .int 0, .ref (a 206), .ref (a 207), .int 0, .int 0, .ref (a 208), .int 0, .int 0, .int 0, .int 0, .ref (a 209), .ref (a 210), .ref (a 211), .ref (a 212), .ref (a 213), .ref (a 214), .ref (a 215), .int 0, .ref (a 216), .ref (a 217), .ref (a 218)])), ((a 201), .inl (cy 0, 2260, .inl (upd (upd (fun _ => 0) (1 : Int32).toNatClampNeg 1) (2 : Int32).toNatClampNeg 1)))] H := hP
  have hD := va_ca hP hD
  refine lv_iinc (v := 14) (lv' := [(1, .int 14), (0, .ref (a 200))]) hx hb dX11_keeps_91 hl (k := 0) rfl (by decide) (by decide) rfl (fun ls hl => ?_)
  refine lv_goto (tgt := 56) hx hb dX11_keeps_94 (by decide) ?_
  refine lv_iload_n hx hb dX11_keeps_56 rfl (lv_at hl 0 rfl) ?_
  refine lv_bipush (v := 37) hx hb dX11_keeps_57 (by decide) ?_
  refine lv_icmp_ge (tgt := 97) hx hb dX11_keeps_59 (by decide) (fun q => absurd q (by decide)) (fun _ => ?_)
  refine lv_aload_n hx hb dX11_keeps_62 rfl (lv_at hl 1 rfl) ?_
  refine va_get (ci := 11) (v := .ref (a 201)) (C := RX11) (T := TX11) (N := 39) hx hb htA in_X11 hown hK hP 0 rfl rfl 0 (by decide) (htA _ wd_1354) (fun _ h => h) rfl dX11_keeps_63 ?_
  refine lv_bipush (v := 89) hx hb dX11_keeps_66 (by decide) ?_
  refine lv_bipush (v := 37) hx hb dX11_keeps_68 (by decide) ?_
  refine lv_aload_n hx hb dX11_keeps_70 rfl (lv_at hl 1 rfl) ?_
  refine va_get (ci := 11) (v := .ref (a 201)) (C := RX11) (T := TX11) (N := 39) hx hb htA in_X11 hown hK hP 0 rfl rfl 0 (by decide) (htA _ wd_1354) (fun _ h => h) rfl dX11_keeps_71 ?_
  refine lv_bipush (v := 7) hx hb dX11_keeps_74 (by decide) ?_
  refine va_iald hx hb hK hP 1 0 rfl rfl (in_lit (by decide)) dX11_keeps_76 ?_
  refine lv_topi (fun x86 ex86 => ?_)
  obtain rfl : x86 = 0 := ex86.trans (by first | decide | rfl)
  refine lv_imul hx hb dX11_keeps_77 ?_
  refine lv_topi (fun x87 ex87 => ?_)
  obtain rfl : x87 = 0 := ex87.trans (by decide)
  refine lv_iadd hx hb dX11_keeps_78 ?_
  refine lv_topi (fun x88 ex88 => ?_)
  obtain rfl : x88 = 89 := ex88.trans (by decide)
  refine lv_iload_n hx hb dX11_keeps_79 rfl (lv_at hl 0 rfl) ?_
  refine lv_iadd hx hb dX11_keeps_80 ?_
  refine lv_topi (fun x89 ex89 => ?_)
  obtain rfl : x89 = 103 := ex89.trans (by decide)
  refine lv_aload_n hx hb dX11_keeps_81 rfl (lv_at hl 1 rfl) ?_
  refine va_get (ci := 11) (v := .ref (a 201)) (C := RX11) (T := TX11) (N := 39) hx hb htA in_X11 hown hK hP 0 rfl rfl 0 (by decide) (htA _ wd_1354) (fun _ h => h) rfl dX11_keeps_82 ?_
  refine lv_bipush (v := 8) hx hb dX11_keeps_85 (by decide) ?_
  refine lv_iload_n hx hb dX11_keeps_87 rfl (lv_at hl 0 rfl) ?_
  refine lv_iadd hx hb dX11_keeps_88 ?_
  refine lv_topi (fun x90 ex90 => ?_)
  obtain rfl : x90 = 22 := ex90.trans (by decide)
  refine va_iald hx hb hK hP 1 0 rfl rfl (in_lit (by decide)) dX11_keeps_89 ?_
  refine lv_topi (fun x91 ex91 => ?_)
  obtain rfl : x91 = 0 := ex91.trans (by first | decide | rfl)
  refine va_iast hx hb hK hP hD hS 1 0 rfl rfl (in_lit (by decide)) dX11_keeps_90 (fun H locs hP hD hS => ?_)
  rw [fa_upd_same (f := upd (upd (fun _ => 0) (1 : Int32).toNatClampNeg 1) (2 : Int32).toNatClampNeg 1) (i := (103 : Int32).toNatClampNeg) (x := 0) (by first | decide | rfl)] at hP hD
  have hP : va_P D vwCl [((a 200), .inr (11, [.ref (a 201), .ref (a 202), .ref (a 203), .ref (a 204), .int 0, .ref (a 205), .int 0, .int 0, .int 0, .int 0, .int 0, .int 0, .int 0, .int 0, .int 0, .int (-1), .int 0, .int 0, .int 0, .ref (a 206), .ref (a 207), .int 0, .int 0, .ref (a 208), .int 0, .int 0, .int 0, .int 0, .ref (a 209), .ref (a 210), .ref (a 211), .ref (a 212), .ref (a 213), .ref (a 214), .ref (a 215), .int 0, .ref (a 216), .ref (a 217), .ref (a 218)])), ((a 201), .inl (cy 0, 2260, .inl (upd (upd (fun _ => 0) (1 : Int32).toNatClampNeg 1) (2 : Int32).toNatClampNeg 1)))] H := hP
  have hD := va_ca hP hD
  refine lv_iinc (v := 15) (lv' := [(1, .int 15), (0, .ref (a 200))]) hx hb dX11_keeps_91 hl (k := 0) rfl (by decide) (by decide) rfl (fun ls hl => ?_)
  refine lv_goto (tgt := 56) hx hb dX11_keeps_94 (by decide) ?_
  refine lv_iload_n hx hb dX11_keeps_56 rfl (lv_at hl 0 rfl) ?_
  refine lv_bipush (v := 37) hx hb dX11_keeps_57 (by decide) ?_
  refine lv_icmp_ge (tgt := 97) hx hb dX11_keeps_59 (by decide) (fun q => absurd q (by decide)) (fun _ => ?_)
  refine lv_aload_n hx hb dX11_keeps_62 rfl (lv_at hl 1 rfl) ?_
  refine va_get (ci := 11) (v := .ref (a 201)) (C := RX11) (T := TX11) (N := 39) hx hb htA in_X11 hown hK hP 0 rfl rfl 0 (by decide) (htA _ wd_1354) (fun _ h => h) rfl dX11_keeps_63 ?_
  refine lv_bipush (v := 89) hx hb dX11_keeps_66 (by decide) ?_
  refine lv_bipush (v := 37) hx hb dX11_keeps_68 (by decide) ?_
  refine lv_aload_n hx hb dX11_keeps_70 rfl (lv_at hl 1 rfl) ?_
  refine va_get (ci := 11) (v := .ref (a 201)) (C := RX11) (T := TX11) (N := 39) hx hb htA in_X11 hown hK hP 0 rfl rfl 0 (by decide) (htA _ wd_1354) (fun _ h => h) rfl dX11_keeps_71 ?_
  refine lv_bipush (v := 7) hx hb dX11_keeps_74 (by decide) ?_
  refine va_iald hx hb hK hP 1 0 rfl rfl (in_lit (by decide)) dX11_keeps_76 ?_
  refine lv_topi (fun x92 ex92 => ?_)
  obtain rfl : x92 = 0 := ex92.trans (by first | decide | rfl)
  refine lv_imul hx hb dX11_keeps_77 ?_
  refine lv_topi (fun x93 ex93 => ?_)
  obtain rfl : x93 = 0 := ex93.trans (by decide)
  refine lv_iadd hx hb dX11_keeps_78 ?_
  refine lv_topi (fun x94 ex94 => ?_)
  obtain rfl : x94 = 89 := ex94.trans (by decide)
  refine lv_iload_n hx hb dX11_keeps_79 rfl (lv_at hl 0 rfl) ?_
  refine lv_iadd hx hb dX11_keeps_80 ?_
  refine lv_topi (fun x95 ex95 => ?_)
  obtain rfl : x95 = 104 := ex95.trans (by decide)
  refine lv_aload_n hx hb dX11_keeps_81 rfl (lv_at hl 1 rfl) ?_
  refine va_get (ci := 11) (v := .ref (a 201)) (C := RX11) (T := TX11) (N := 39) hx hb htA in_X11 hown hK hP 0 rfl rfl 0 (by decide) (htA _ wd_1354) (fun _ h => h) rfl dX11_keeps_82 ?_
  refine lv_bipush (v := 8) hx hb dX11_keeps_85 (by decide) ?_
  refine lv_iload_n hx hb dX11_keeps_87 rfl (lv_at hl 0 rfl) ?_
  refine lv_iadd hx hb dX11_keeps_88 ?_
  refine lv_topi (fun x96 ex96 => ?_)
  obtain rfl : x96 = 23 := ex96.trans (by decide)
  refine va_iald hx hb hK hP 1 0 rfl rfl (in_lit (by decide)) dX11_keeps_89 ?_
  refine lv_topi (fun x97 ex97 => ?_)
  obtain rfl : x97 = 0 := ex97.trans (by first | decide | rfl)
  refine va_iast hx hb hK hP hD hS 1 0 rfl rfl (in_lit (by decide)) dX11_keeps_90 (fun H locs hP hD hS => ?_)
  rw [fa_upd_same (f := upd (upd (fun _ => 0) (1 : Int32).toNatClampNeg 1) (2 : Int32).toNatClampNeg 1) (i := (104 : Int32).toNatClampNeg) (x := 0) (by first | decide | rfl)] at hP hD
  have hP : va_P D vwCl [((a 200), .inr (11, [.ref (a 201), .ref (a 202), .ref (a 203), .ref (a 204), .int 0, .ref (a 205), .int 0, .int 0, .int 0, .int 0, .int 0, .int 0, .int 0, .int 0, .int 0, .int (-1), .int 0, .int 0, .int 0, .ref (a 206), .ref (a 207), .int 0, .int 0, .ref (a 208), .int 0, .int 0, .int 0, .int 0, .ref (a 209), .ref (a 210), .ref (a 211), .ref (a 212), .ref (a 213), .ref (a 214), .ref (a 215), .int 0, .ref (a 216), .ref (a 217), .ref (a 218)])), ((a 201), .inl (cy 0, 2260, .inl (upd (upd (fun _ => 0) (1 : Int32).toNatClampNeg 1) (2 : Int32).toNatClampNeg 1)))] H := hP
  have hD := va_ca hP hD
  refine lv_iinc (v := 16) (lv' := [(1, .int 16), (0, .ref (a 200))]) hx hb dX11_keeps_91 hl (k := 0) rfl (by decide) (by decide) rfl (fun ls hl => ?_)
  refine lv_goto (tgt := 56) hx hb dX11_keeps_94 (by decide) ?_
  refine lv_iload_n hx hb dX11_keeps_56 rfl (lv_at hl 0 rfl) ?_
  refine lv_bipush (v := 37) hx hb dX11_keeps_57 (by decide) ?_
  refine lv_icmp_ge (tgt := 97) hx hb dX11_keeps_59 (by decide) (fun q => absurd q (by decide)) (fun _ => ?_)
  refine lv_aload_n hx hb dX11_keeps_62 rfl (lv_at hl 1 rfl) ?_
  refine va_get (ci := 11) (v := .ref (a 201)) (C := RX11) (T := TX11) (N := 39) hx hb htA in_X11 hown hK hP 0 rfl rfl 0 (by decide) (htA _ wd_1354) (fun _ h => h) rfl dX11_keeps_63 ?_
  refine lv_bipush (v := 89) hx hb dX11_keeps_66 (by decide) ?_
  refine lv_bipush (v := 37) hx hb dX11_keeps_68 (by decide) ?_
  refine lv_aload_n hx hb dX11_keeps_70 rfl (lv_at hl 1 rfl) ?_
  refine va_get (ci := 11) (v := .ref (a 201)) (C := RX11) (T := TX11) (N := 39) hx hb htA in_X11 hown hK hP 0 rfl rfl 0 (by decide) (htA _ wd_1354) (fun _ h => h) rfl dX11_keeps_71 ?_
  refine lv_bipush (v := 7) hx hb dX11_keeps_74 (by decide) ?_
  refine va_iald hx hb hK hP 1 0 rfl rfl (in_lit (by decide)) dX11_keeps_76 ?_
  refine lv_topi (fun x98 ex98 => ?_)
  obtain rfl : x98 = 0 := ex98.trans (by first | decide | rfl)
  refine lv_imul hx hb dX11_keeps_77 ?_
  refine lv_topi (fun x99 ex99 => ?_)
  obtain rfl : x99 = 0 := ex99.trans (by decide)
  refine lv_iadd hx hb dX11_keeps_78 ?_
  refine lv_topi (fun x100 ex100 => ?_)
  obtain rfl : x100 = 89 := ex100.trans (by decide)
  refine lv_iload_n hx hb dX11_keeps_79 rfl (lv_at hl 0 rfl) ?_
  refine lv_iadd hx hb dX11_keeps_80 ?_
  refine lv_topi (fun x101 ex101 => ?_)
  obtain rfl : x101 = 105 := ex101.trans (by decide)
  refine lv_aload_n hx hb dX11_keeps_81 rfl (lv_at hl 1 rfl) ?_
  refine va_get (ci := 11) (v := .ref (a 201)) (C := RX11) (T := TX11) (N := 39) hx hb htA in_X11 hown hK hP 0 rfl rfl 0 (by decide) (htA _ wd_1354) (fun _ h => h) rfl dX11_keeps_82 ?_
  refine lv_bipush (v := 8) hx hb dX11_keeps_85 (by decide) ?_
  refine lv_iload_n hx hb dX11_keeps_87 rfl (lv_at hl 0 rfl) ?_
  refine lv_iadd hx hb dX11_keeps_88 ?_
  refine lv_topi (fun x102 ex102 => ?_)
  obtain rfl : x102 = 24 := ex102.trans (by decide)
  refine va_iald hx hb hK hP 1 0 rfl rfl (in_lit (by decide)) dX11_keeps_89 ?_
  refine lv_topi (fun x103 ex103 => ?_)
  obtain rfl : x103 = 0 := ex103.trans (by first | decide | rfl)
  refine va_iast hx hb hK hP hD hS 1 0 rfl rfl (in_lit (by decide)) dX11_keeps_90 (fun H locs hP hD hS => ?_)
  rw [fa_upd_same (f := upd (upd (fun _ => 0) (1 : Int32).toNatClampNeg 1) (2 : Int32).toNatClampNeg 1) (i := (105 : Int32).toNatClampNeg) (x := 0) (by first | decide | rfl)] at hP hD
  have hP : va_P D vwCl [((a 200), .inr (11, [.ref (a 201), .ref (a 202), .ref (a 203), .ref (a 204), .int 0, .ref (a 205), .int 0, .int 0, .int 0, .int 0, .int 0, .int 0, .int 0, .int 0, .int 0, .int (-1), .int 0, .int 0, .int 0, .ref (a 206), .ref (a 207), .int 0, .int 0, .ref (a 208), .int 0, .int 0, .int 0, .int 0, .ref (a 209), .ref (a 210), .ref (a 211), .ref (a 212), .ref (a 213), .ref (a 214), .ref (a 215), .int 0, .ref (a 216), .ref (a 217), .ref (a 218)])), ((a 201), .inl (cy 0, 2260, .inl (upd (upd (fun _ => 0) (1 : Int32).toNatClampNeg 1) (2 : Int32).toNatClampNeg 1)))] H := hP
  have hD := va_ca hP hD
  refine lv_iinc (v := 17) (lv' := [(1, .int 17), (0, .ref (a 200))]) hx hb dX11_keeps_91 hl (k := 0) rfl (by decide) (by decide) rfl (fun ls hl => ?_)
  refine lv_goto (tgt := 56) hx hb dX11_keeps_94 (by decide) ?_
  refine lv_iload_n hx hb dX11_keeps_56 rfl (lv_at hl 0 rfl) ?_
  refine lv_bipush (v := 37) hx hb dX11_keeps_57 (by decide) ?_
  refine lv_icmp_ge (tgt := 97) hx hb dX11_keeps_59 (by decide) (fun q => absurd q (by decide)) (fun _ => ?_)
  refine lv_aload_n hx hb dX11_keeps_62 rfl (lv_at hl 1 rfl) ?_
  refine va_get (ci := 11) (v := .ref (a 201)) (C := RX11) (T := TX11) (N := 39) hx hb htA in_X11 hown hK hP 0 rfl rfl 0 (by decide) (htA _ wd_1354) (fun _ h => h) rfl dX11_keeps_63 ?_
  refine lv_bipush (v := 89) hx hb dX11_keeps_66 (by decide) ?_
  refine lv_bipush (v := 37) hx hb dX11_keeps_68 (by decide) ?_
  refine lv_aload_n hx hb dX11_keeps_70 rfl (lv_at hl 1 rfl) ?_
  refine va_get (ci := 11) (v := .ref (a 201)) (C := RX11) (T := TX11) (N := 39) hx hb htA in_X11 hown hK hP 0 rfl rfl 0 (by decide) (htA _ wd_1354) (fun _ h => h) rfl dX11_keeps_71 ?_
  refine lv_bipush (v := 7) hx hb dX11_keeps_74 (by decide) ?_
  refine va_iald hx hb hK hP 1 0 rfl rfl (in_lit (by decide)) dX11_keeps_76 ?_
  refine lv_topi (fun x104 ex104 => ?_)
  obtain rfl : x104 = 0 := ex104.trans (by first | decide | rfl)
  refine lv_imul hx hb dX11_keeps_77 ?_
  refine lv_topi (fun x105 ex105 => ?_)
  obtain rfl : x105 = 0 := ex105.trans (by decide)
  refine lv_iadd hx hb dX11_keeps_78 ?_
  refine lv_topi (fun x106 ex106 => ?_)
  obtain rfl : x106 = 89 := ex106.trans (by decide)
  refine lv_iload_n hx hb dX11_keeps_79 rfl (lv_at hl 0 rfl) ?_
  refine lv_iadd hx hb dX11_keeps_80 ?_
  refine lv_topi (fun x107 ex107 => ?_)
  obtain rfl : x107 = 106 := ex107.trans (by decide)
  refine lv_aload_n hx hb dX11_keeps_81 rfl (lv_at hl 1 rfl) ?_
  refine va_get (ci := 11) (v := .ref (a 201)) (C := RX11) (T := TX11) (N := 39) hx hb htA in_X11 hown hK hP 0 rfl rfl 0 (by decide) (htA _ wd_1354) (fun _ h => h) rfl dX11_keeps_82 ?_
  refine lv_bipush (v := 8) hx hb dX11_keeps_85 (by decide) ?_
  refine lv_iload_n hx hb dX11_keeps_87 rfl (lv_at hl 0 rfl) ?_
  refine lv_iadd hx hb dX11_keeps_88 ?_
  refine lv_topi (fun x108 ex108 => ?_)
  obtain rfl : x108 = 25 := ex108.trans (by decide)
  refine va_iald hx hb hK hP 1 0 rfl rfl (in_lit (by decide)) dX11_keeps_89 ?_
  refine lv_topi (fun x109 ex109 => ?_)
  obtain rfl : x109 = 0 := ex109.trans (by first | decide | rfl)
  refine va_iast hx hb hK hP hD hS 1 0 rfl rfl (in_lit (by decide)) dX11_keeps_90 (fun H locs hP hD hS => ?_)
  rw [fa_upd_same (f := upd (upd (fun _ => 0) (1 : Int32).toNatClampNeg 1) (2 : Int32).toNatClampNeg 1) (i := (106 : Int32).toNatClampNeg) (x := 0) (by first | decide | rfl)] at hP hD
  have hP : va_P D vwCl [((a 200), .inr (11, [.ref (a 201), .ref (a 202), .ref (a 203), .ref (a 204), .int 0, .ref (a 205), .int 0, .int 0, .int 0, .int 0, .int 0, .int 0, .int 0, .int 0, .int 0, .int (-1), .int 0, .int 0, .int 0, .ref (a 206), .ref (a 207), .int 0, .int 0, .ref (a 208), .int 0, .int 0, .int 0, .int 0, .ref (a 209), .ref (a 210), .ref (a 211), .ref (a 212), .ref (a 213), .ref (a 214), .ref (a 215), .int 0, .ref (a 216), .ref (a 217), .ref (a 218)])), ((a 201), .inl (cy 0, 2260, .inl (upd (upd (fun _ => 0) (1 : Int32).toNatClampNeg 1) (2 : Int32).toNatClampNeg 1)))] H := hP
  have hD := va_ca hP hD
  refine lv_iinc (v := 18) (lv' := [(1, .int 18), (0, .ref (a 200))]) hx hb dX11_keeps_91 hl (k := 0) rfl (by decide) (by decide) rfl (fun ls hl => ?_)
  refine lv_goto (tgt := 56) hx hb dX11_keeps_94 (by decide) ?_
  refine lv_iload_n hx hb dX11_keeps_56 rfl (lv_at hl 0 rfl) ?_
  refine lv_bipush (v := 37) hx hb dX11_keeps_57 (by decide) ?_
  refine lv_icmp_ge (tgt := 97) hx hb dX11_keeps_59 (by decide) (fun q => absurd q (by decide)) (fun _ => ?_)
  refine lv_aload_n hx hb dX11_keeps_62 rfl (lv_at hl 1 rfl) ?_
  refine va_get (ci := 11) (v := .ref (a 201)) (C := RX11) (T := TX11) (N := 39) hx hb htA in_X11 hown hK hP 0 rfl rfl 0 (by decide) (htA _ wd_1354) (fun _ h => h) rfl dX11_keeps_63 ?_
  refine lv_bipush (v := 89) hx hb dX11_keeps_66 (by decide) ?_
  refine lv_bipush (v := 37) hx hb dX11_keeps_68 (by decide) ?_
  refine lv_aload_n hx hb dX11_keeps_70 rfl (lv_at hl 1 rfl) ?_
  refine va_get (ci := 11) (v := .ref (a 201)) (C := RX11) (T := TX11) (N := 39) hx hb htA in_X11 hown hK hP 0 rfl rfl 0 (by decide) (htA _ wd_1354) (fun _ h => h) rfl dX11_keeps_71 ?_
  refine lv_bipush (v := 7) hx hb dX11_keeps_74 (by decide) ?_
  refine va_iald hx hb hK hP 1 0 rfl rfl (in_lit (by decide)) dX11_keeps_76 ?_
  refine lv_topi (fun x110 ex110 => ?_)
  obtain rfl : x110 = 0 := ex110.trans (by first | decide | rfl)
  refine lv_imul hx hb dX11_keeps_77 ?_
  refine lv_topi (fun x111 ex111 => ?_)
  obtain rfl : x111 = 0 := ex111.trans (by decide)
  refine lv_iadd hx hb dX11_keeps_78 ?_
  refine lv_topi (fun x112 ex112 => ?_)
  obtain rfl : x112 = 89 := ex112.trans (by decide)
  refine lv_iload_n hx hb dX11_keeps_79 rfl (lv_at hl 0 rfl) ?_
  refine lv_iadd hx hb dX11_keeps_80 ?_
  refine lv_topi (fun x113 ex113 => ?_)
  obtain rfl : x113 = 107 := ex113.trans (by decide)
  refine lv_aload_n hx hb dX11_keeps_81 rfl (lv_at hl 1 rfl) ?_
  refine va_get (ci := 11) (v := .ref (a 201)) (C := RX11) (T := TX11) (N := 39) hx hb htA in_X11 hown hK hP 0 rfl rfl 0 (by decide) (htA _ wd_1354) (fun _ h => h) rfl dX11_keeps_82 ?_
  refine lv_bipush (v := 8) hx hb dX11_keeps_85 (by decide) ?_
  refine lv_iload_n hx hb dX11_keeps_87 rfl (lv_at hl 0 rfl) ?_
  refine lv_iadd hx hb dX11_keeps_88 ?_
  refine lv_topi (fun x114 ex114 => ?_)
  obtain rfl : x114 = 26 := ex114.trans (by decide)
  refine va_iald hx hb hK hP 1 0 rfl rfl (in_lit (by decide)) dX11_keeps_89 ?_
  refine lv_topi (fun x115 ex115 => ?_)
  obtain rfl : x115 = 0 := ex115.trans (by first | decide | rfl)
  refine va_iast hx hb hK hP hD hS 1 0 rfl rfl (in_lit (by decide)) dX11_keeps_90 (fun H locs hP hD hS => ?_)
  rw [fa_upd_same (f := upd (upd (fun _ => 0) (1 : Int32).toNatClampNeg 1) (2 : Int32).toNatClampNeg 1) (i := (107 : Int32).toNatClampNeg) (x := 0) (by first | decide | rfl)] at hP hD
  have hP : va_P D vwCl [((a 200), .inr (11, [.ref (a 201), .ref (a 202), .ref (a 203), .ref (a 204), .int 0, .ref (a 205), .int 0, .int 0, .int 0, .int 0, .int 0, .int 0, .int 0, .int 0, .int 0, .int (-1), .int 0, .int 0, .int 0, .ref (a 206), .ref (a 207), .int 0, .int 0, .ref (a 208), .int 0, .int 0, .int 0, .int 0, .ref (a 209), .ref (a 210), .ref (a 211), .ref (a 212), .ref (a 213), .ref (a 214), .ref (a 215), .int 0, .ref (a 216), .ref (a 217), .ref (a 218)])), ((a 201), .inl (cy 0, 2260, .inl (upd (upd (fun _ => 0) (1 : Int32).toNatClampNeg 1) (2 : Int32).toNatClampNeg 1)))] H := hP
  have hD := va_ca hP hD
  refine lv_iinc (v := 19) (lv' := [(1, .int 19), (0, .ref (a 200))]) hx hb dX11_keeps_91 hl (k := 0) rfl (by decide) (by decide) rfl (fun ls hl => ?_)
  refine lv_goto (tgt := 56) hx hb dX11_keeps_94 (by decide) ?_
  refine lv_iload_n hx hb dX11_keeps_56 rfl (lv_at hl 0 rfl) ?_
  refine lv_bipush (v := 37) hx hb dX11_keeps_57 (by decide) ?_
  refine lv_icmp_ge (tgt := 97) hx hb dX11_keeps_59 (by decide) (fun q => absurd q (by decide)) (fun _ => ?_)
  refine lv_aload_n hx hb dX11_keeps_62 rfl (lv_at hl 1 rfl) ?_
  refine va_get (ci := 11) (v := .ref (a 201)) (C := RX11) (T := TX11) (N := 39) hx hb htA in_X11 hown hK hP 0 rfl rfl 0 (by decide) (htA _ wd_1354) (fun _ h => h) rfl dX11_keeps_63 ?_
  refine lv_bipush (v := 89) hx hb dX11_keeps_66 (by decide) ?_
  refine lv_bipush (v := 37) hx hb dX11_keeps_68 (by decide) ?_
  refine lv_aload_n hx hb dX11_keeps_70 rfl (lv_at hl 1 rfl) ?_
  refine va_get (ci := 11) (v := .ref (a 201)) (C := RX11) (T := TX11) (N := 39) hx hb htA in_X11 hown hK hP 0 rfl rfl 0 (by decide) (htA _ wd_1354) (fun _ h => h) rfl dX11_keeps_71 ?_
  refine lv_bipush (v := 7) hx hb dX11_keeps_74 (by decide) ?_
  refine va_iald hx hb hK hP 1 0 rfl rfl (in_lit (by decide)) dX11_keeps_76 ?_
  refine lv_topi (fun x116 ex116 => ?_)
  obtain rfl : x116 = 0 := ex116.trans (by first | decide | rfl)
  refine lv_imul hx hb dX11_keeps_77 ?_
  refine lv_topi (fun x117 ex117 => ?_)
  obtain rfl : x117 = 0 := ex117.trans (by decide)
  refine lv_iadd hx hb dX11_keeps_78 ?_
  refine lv_topi (fun x118 ex118 => ?_)
  obtain rfl : x118 = 89 := ex118.trans (by decide)
  refine lv_iload_n hx hb dX11_keeps_79 rfl (lv_at hl 0 rfl) ?_
  refine lv_iadd hx hb dX11_keeps_80 ?_
  refine lv_topi (fun x119 ex119 => ?_)
  obtain rfl : x119 = 108 := ex119.trans (by decide)
  refine lv_aload_n hx hb dX11_keeps_81 rfl (lv_at hl 1 rfl) ?_
  refine va_get (ci := 11) (v := .ref (a 201)) (C := RX11) (T := TX11) (N := 39) hx hb htA in_X11 hown hK hP 0 rfl rfl 0 (by decide) (htA _ wd_1354) (fun _ h => h) rfl dX11_keeps_82 ?_
  refine lv_bipush (v := 8) hx hb dX11_keeps_85 (by decide) ?_
  refine lv_iload_n hx hb dX11_keeps_87 rfl (lv_at hl 0 rfl) ?_
  refine lv_iadd hx hb dX11_keeps_88 ?_
  refine lv_topi (fun x120 ex120 => ?_)
  obtain rfl : x120 = 27 := ex120.trans (by decide)
  refine va_iald hx hb hK hP 1 0 rfl rfl (in_lit (by decide)) dX11_keeps_89 ?_
  refine lv_topi (fun x121 ex121 => ?_)
  obtain rfl : x121 = 0 := ex121.trans (by first | decide | rfl)
  refine va_iast hx hb hK hP hD hS 1 0 rfl rfl (in_lit (by decide)) dX11_keeps_90 (fun H locs hP hD hS => ?_)
  rw [fa_upd_same (f := upd (upd (fun _ => 0) (1 : Int32).toNatClampNeg 1) (2 : Int32).toNatClampNeg 1) (i := (108 : Int32).toNatClampNeg) (x := 0) (by first | decide | rfl)] at hP hD
  have hP : va_P D vwCl [((a 200), .inr (11, [.ref (a 201), .ref (a 202), .ref (a 203), .ref (a 204), .int 0, .ref (a 205), .int 0, .int 0, .int 0, .int 0, .int 0, .int 0, .int 0, .int 0, .int 0, .int (-1), .int 0, .int 0, .int 0, .ref (a 206), .ref (a 207), .int 0, .int 0, .ref (a 208), .int 0, .int 0, .int 0, .int 0, .ref (a 209), .ref (a 210), .ref (a 211), .ref (a 212), .ref (a 213), .ref (a 214), .ref (a 215), .int 0, .ref (a 216), .ref (a 217), .ref (a 218)])), ((a 201), .inl (cy 0, 2260, .inl (upd (upd (fun _ => 0) (1 : Int32).toNatClampNeg 1) (2 : Int32).toNatClampNeg 1)))] H := hP
  have hD := va_ca hP hD
  refine lv_iinc (v := 20) (lv' := [(1, .int 20), (0, .ref (a 200))]) hx hb dX11_keeps_91 hl (k := 0) rfl (by decide) (by decide) rfl (fun ls hl => ?_)
  refine lv_goto (tgt := 56) hx hb dX11_keeps_94 (by decide) ?_
  refine lv_iload_n hx hb dX11_keeps_56 rfl (lv_at hl 0 rfl) ?_
  refine lv_bipush (v := 37) hx hb dX11_keeps_57 (by decide) ?_
  refine lv_icmp_ge (tgt := 97) hx hb dX11_keeps_59 (by decide) (fun q => absurd q (by decide)) (fun _ => ?_)
  refine lv_aload_n hx hb dX11_keeps_62 rfl (lv_at hl 1 rfl) ?_
  refine va_get (ci := 11) (v := .ref (a 201)) (C := RX11) (T := TX11) (N := 39) hx hb htA in_X11 hown hK hP 0 rfl rfl 0 (by decide) (htA _ wd_1354) (fun _ h => h) rfl dX11_keeps_63 ?_
  refine lv_bipush (v := 89) hx hb dX11_keeps_66 (by decide) ?_
  refine lv_bipush (v := 37) hx hb dX11_keeps_68 (by decide) ?_
  refine lv_aload_n hx hb dX11_keeps_70 rfl (lv_at hl 1 rfl) ?_
  refine va_get (ci := 11) (v := .ref (a 201)) (C := RX11) (T := TX11) (N := 39) hx hb htA in_X11 hown hK hP 0 rfl rfl 0 (by decide) (htA _ wd_1354) (fun _ h => h) rfl dX11_keeps_71 ?_
  refine lv_bipush (v := 7) hx hb dX11_keeps_74 (by decide) ?_
  refine va_iald hx hb hK hP 1 0 rfl rfl (in_lit (by decide)) dX11_keeps_76 ?_
  refine lv_topi (fun x122 ex122 => ?_)
  obtain rfl : x122 = 0 := ex122.trans (by first | decide | rfl)
  refine lv_imul hx hb dX11_keeps_77 ?_
  refine lv_topi (fun x123 ex123 => ?_)
  obtain rfl : x123 = 0 := ex123.trans (by decide)
  refine lv_iadd hx hb dX11_keeps_78 ?_
  refine lv_topi (fun x124 ex124 => ?_)
  obtain rfl : x124 = 89 := ex124.trans (by decide)
  refine lv_iload_n hx hb dX11_keeps_79 rfl (lv_at hl 0 rfl) ?_
  refine lv_iadd hx hb dX11_keeps_80 ?_
  refine lv_topi (fun x125 ex125 => ?_)
  obtain rfl : x125 = 109 := ex125.trans (by decide)
  refine lv_aload_n hx hb dX11_keeps_81 rfl (lv_at hl 1 rfl) ?_
  refine va_get (ci := 11) (v := .ref (a 201)) (C := RX11) (T := TX11) (N := 39) hx hb htA in_X11 hown hK hP 0 rfl rfl 0 (by decide) (htA _ wd_1354) (fun _ h => h) rfl dX11_keeps_82 ?_
  refine lv_bipush (v := 8) hx hb dX11_keeps_85 (by decide) ?_
  refine lv_iload_n hx hb dX11_keeps_87 rfl (lv_at hl 0 rfl) ?_
  refine lv_iadd hx hb dX11_keeps_88 ?_
  refine lv_topi (fun x126 ex126 => ?_)
  obtain rfl : x126 = 28 := ex126.trans (by decide)
  refine va_iald hx hb hK hP 1 0 rfl rfl (in_lit (by decide)) dX11_keeps_89 ?_
  refine lv_topi (fun x127 ex127 => ?_)
  obtain rfl : x127 = 0 := ex127.trans (by first | decide | rfl)
  refine va_iast hx hb hK hP hD hS 1 0 rfl rfl (in_lit (by decide)) dX11_keeps_90 (fun H locs hP hD hS => ?_)
  rw [fa_upd_same (f := upd (upd (fun _ => 0) (1 : Int32).toNatClampNeg 1) (2 : Int32).toNatClampNeg 1) (i := (109 : Int32).toNatClampNeg) (x := 0) (by first | decide | rfl)] at hP hD
  have hP : va_P D vwCl [((a 200), .inr (11, [.ref (a 201), .ref (a 202), .ref (a 203), .ref (a 204), .int 0, .ref (a 205), .int 0, .int 0, .int 0, .int 0, .int 0, .int 0, .int 0, .int 0, .int 0, .int (-1), .int 0, .int 0, .int 0, .ref (a 206), .ref (a 207), .int 0, .int 0, .ref (a 208), .int 0, .int 0, .int 0, .int 0, .ref (a 209), .ref (a 210), .ref (a 211), .ref (a 212), .ref (a 213), .ref (a 214), .ref (a 215), .int 0, .ref (a 216), .ref (a 217), .ref (a 218)])), ((a 201), .inl (cy 0, 2260, .inl (upd (upd (fun _ => 0) (1 : Int32).toNatClampNeg 1) (2 : Int32).toNatClampNeg 1)))] H := hP
  have hD := va_ca hP hD
  refine lv_iinc (v := 21) (lv' := [(1, .int 21), (0, .ref (a 200))]) hx hb dX11_keeps_91 hl (k := 0) rfl (by decide) (by decide) rfl (fun ls hl => ?_)
  refine lv_goto (tgt := 56) hx hb dX11_keeps_94 (by decide) ?_
  refine lv_iload_n hx hb dX11_keeps_56 rfl (lv_at hl 0 rfl) ?_
  refine lv_bipush (v := 37) hx hb dX11_keeps_57 (by decide) ?_
  refine lv_icmp_ge (tgt := 97) hx hb dX11_keeps_59 (by decide) (fun q => absurd q (by decide)) (fun _ => ?_)
  refine lv_aload_n hx hb dX11_keeps_62 rfl (lv_at hl 1 rfl) ?_
  refine va_get (ci := 11) (v := .ref (a 201)) (C := RX11) (T := TX11) (N := 39) hx hb htA in_X11 hown hK hP 0 rfl rfl 0 (by decide) (htA _ wd_1354) (fun _ h => h) rfl dX11_keeps_63 ?_
  refine lv_bipush (v := 89) hx hb dX11_keeps_66 (by decide) ?_
  refine lv_bipush (v := 37) hx hb dX11_keeps_68 (by decide) ?_
  refine lv_aload_n hx hb dX11_keeps_70 rfl (lv_at hl 1 rfl) ?_
  refine va_get (ci := 11) (v := .ref (a 201)) (C := RX11) (T := TX11) (N := 39) hx hb htA in_X11 hown hK hP 0 rfl rfl 0 (by decide) (htA _ wd_1354) (fun _ h => h) rfl dX11_keeps_71 ?_
  refine lv_bipush (v := 7) hx hb dX11_keeps_74 (by decide) ?_
  refine va_iald hx hb hK hP 1 0 rfl rfl (in_lit (by decide)) dX11_keeps_76 ?_
  refine lv_topi (fun x128 ex128 => ?_)
  obtain rfl : x128 = 0 := ex128.trans (by first | decide | rfl)
  refine lv_imul hx hb dX11_keeps_77 ?_
  refine lv_topi (fun x129 ex129 => ?_)
  obtain rfl : x129 = 0 := ex129.trans (by decide)
  refine lv_iadd hx hb dX11_keeps_78 ?_
  refine lv_topi (fun x130 ex130 => ?_)
  obtain rfl : x130 = 89 := ex130.trans (by decide)
  refine lv_iload_n hx hb dX11_keeps_79 rfl (lv_at hl 0 rfl) ?_
  refine lv_iadd hx hb dX11_keeps_80 ?_
  refine lv_topi (fun x131 ex131 => ?_)
  obtain rfl : x131 = 110 := ex131.trans (by decide)
  refine lv_aload_n hx hb dX11_keeps_81 rfl (lv_at hl 1 rfl) ?_
  refine va_get (ci := 11) (v := .ref (a 201)) (C := RX11) (T := TX11) (N := 39) hx hb htA in_X11 hown hK hP 0 rfl rfl 0 (by decide) (htA _ wd_1354) (fun _ h => h) rfl dX11_keeps_82 ?_
  refine lv_bipush (v := 8) hx hb dX11_keeps_85 (by decide) ?_
  refine lv_iload_n hx hb dX11_keeps_87 rfl (lv_at hl 0 rfl) ?_
  refine lv_iadd hx hb dX11_keeps_88 ?_
  refine lv_topi (fun x132 ex132 => ?_)
  obtain rfl : x132 = 29 := ex132.trans (by decide)
  refine va_iald hx hb hK hP 1 0 rfl rfl (in_lit (by decide)) dX11_keeps_89 ?_
  refine lv_topi (fun x133 ex133 => ?_)
  obtain rfl : x133 = 0 := ex133.trans (by first | decide | rfl)
  refine va_iast hx hb hK hP hD hS 1 0 rfl rfl (in_lit (by decide)) dX11_keeps_90 (fun H locs hP hD hS => ?_)
  rw [fa_upd_same (f := upd (upd (fun _ => 0) (1 : Int32).toNatClampNeg 1) (2 : Int32).toNatClampNeg 1) (i := (110 : Int32).toNatClampNeg) (x := 0) (by first | decide | rfl)] at hP hD
  have hP : va_P D vwCl [((a 200), .inr (11, [.ref (a 201), .ref (a 202), .ref (a 203), .ref (a 204), .int 0, .ref (a 205), .int 0, .int 0, .int 0, .int 0, .int 0, .int 0, .int 0, .int 0, .int 0, .int (-1), .int 0, .int 0, .int 0, .ref (a 206), .ref (a 207), .int 0, .int 0, .ref (a 208), .int 0, .int 0, .int 0, .int 0, .ref (a 209), .ref (a 210), .ref (a 211), .ref (a 212), .ref (a 213), .ref (a 214), .ref (a 215), .int 0, .ref (a 216), .ref (a 217), .ref (a 218)])), ((a 201), .inl (cy 0, 2260, .inl (upd (upd (fun _ => 0) (1 : Int32).toNatClampNeg 1) (2 : Int32).toNatClampNeg 1)))] H := hP
  have hD := va_ca hP hD
  refine lv_iinc (v := 22) (lv' := [(1, .int 22), (0, .ref (a 200))]) hx hb dX11_keeps_91 hl (k := 0) rfl (by decide) (by decide) rfl (fun ls hl => ?_)
  refine lv_goto (tgt := 56) hx hb dX11_keeps_94 (by decide) ?_
  refine lv_iload_n hx hb dX11_keeps_56 rfl (lv_at hl 0 rfl) ?_
  refine lv_bipush (v := 37) hx hb dX11_keeps_57 (by decide) ?_
  refine lv_icmp_ge (tgt := 97) hx hb dX11_keeps_59 (by decide) (fun q => absurd q (by decide)) (fun _ => ?_)
  refine lv_aload_n hx hb dX11_keeps_62 rfl (lv_at hl 1 rfl) ?_
  refine va_get (ci := 11) (v := .ref (a 201)) (C := RX11) (T := TX11) (N := 39) hx hb htA in_X11 hown hK hP 0 rfl rfl 0 (by decide) (htA _ wd_1354) (fun _ h => h) rfl dX11_keeps_63 ?_
  refine lv_bipush (v := 89) hx hb dX11_keeps_66 (by decide) ?_
  refine lv_bipush (v := 37) hx hb dX11_keeps_68 (by decide) ?_
  refine lv_aload_n hx hb dX11_keeps_70 rfl (lv_at hl 1 rfl) ?_
  refine va_get (ci := 11) (v := .ref (a 201)) (C := RX11) (T := TX11) (N := 39) hx hb htA in_X11 hown hK hP 0 rfl rfl 0 (by decide) (htA _ wd_1354) (fun _ h => h) rfl dX11_keeps_71 ?_
  refine lv_bipush (v := 7) hx hb dX11_keeps_74 (by decide) ?_
  refine va_iald hx hb hK hP 1 0 rfl rfl (in_lit (by decide)) dX11_keeps_76 ?_
  refine lv_topi (fun x134 ex134 => ?_)
  obtain rfl : x134 = 0 := ex134.trans (by first | decide | rfl)
  refine lv_imul hx hb dX11_keeps_77 ?_
  refine lv_topi (fun x135 ex135 => ?_)
  obtain rfl : x135 = 0 := ex135.trans (by decide)
  refine lv_iadd hx hb dX11_keeps_78 ?_
  refine lv_topi (fun x136 ex136 => ?_)
  obtain rfl : x136 = 89 := ex136.trans (by decide)
  refine lv_iload_n hx hb dX11_keeps_79 rfl (lv_at hl 0 rfl) ?_
  refine lv_iadd hx hb dX11_keeps_80 ?_
  refine lv_topi (fun x137 ex137 => ?_)
  obtain rfl : x137 = 111 := ex137.trans (by decide)
  refine lv_aload_n hx hb dX11_keeps_81 rfl (lv_at hl 1 rfl) ?_
  refine va_get (ci := 11) (v := .ref (a 201)) (C := RX11) (T := TX11) (N := 39) hx hb htA in_X11 hown hK hP 0 rfl rfl 0 (by decide) (htA _ wd_1354) (fun _ h => h) rfl dX11_keeps_82 ?_
  refine lv_bipush (v := 8) hx hb dX11_keeps_85 (by decide) ?_
  refine lv_iload_n hx hb dX11_keeps_87 rfl (lv_at hl 0 rfl) ?_
  refine lv_iadd hx hb dX11_keeps_88 ?_
  refine lv_topi (fun x138 ex138 => ?_)
  obtain rfl : x138 = 30 := ex138.trans (by decide)
  refine va_iald hx hb hK hP 1 0 rfl rfl (in_lit (by decide)) dX11_keeps_89 ?_
  refine lv_topi (fun x139 ex139 => ?_)
  obtain rfl : x139 = 0 := ex139.trans (by first | decide | rfl)
  refine va_iast hx hb hK hP hD hS 1 0 rfl rfl (in_lit (by decide)) dX11_keeps_90 (fun H locs hP hD hS => ?_)
  rw [fa_upd_same (f := upd (upd (fun _ => 0) (1 : Int32).toNatClampNeg 1) (2 : Int32).toNatClampNeg 1) (i := (111 : Int32).toNatClampNeg) (x := 0) (by first | decide | rfl)] at hP hD
  have hP : va_P D vwCl [((a 200), .inr (11, [.ref (a 201), .ref (a 202), .ref (a 203), .ref (a 204), .int 0, .ref (a 205), .int 0, .int 0, .int 0, .int 0, .int 0, .int 0, .int 0, .int 0, .int 0, .int (-1), .int 0, .int 0, .int 0, .ref (a 206), .ref (a 207), .int 0, .int 0, .ref (a 208), .int 0, .int 0, .int 0, .int 0, .ref (a 209), .ref (a 210), .ref (a 211), .ref (a 212), .ref (a 213), .ref (a 214), .ref (a 215), .int 0, .ref (a 216), .ref (a 217), .ref (a 218)])), ((a 201), .inl (cy 0, 2260, .inl (upd (upd (fun _ => 0) (1 : Int32).toNatClampNeg 1) (2 : Int32).toNatClampNeg 1)))] H := hP
  have hD := va_ca hP hD
  refine lv_iinc (v := 23) (lv' := [(1, .int 23), (0, .ref (a 200))]) hx hb dX11_keeps_91 hl (k := 0) rfl (by decide) (by decide) rfl (fun ls hl => ?_)
  refine lv_goto (tgt := 56) hx hb dX11_keeps_94 (by decide) ?_
  refine lv_iload_n hx hb dX11_keeps_56 rfl (lv_at hl 0 rfl) ?_
  refine lv_bipush (v := 37) hx hb dX11_keeps_57 (by decide) ?_
  refine lv_icmp_ge (tgt := 97) hx hb dX11_keeps_59 (by decide) (fun q => absurd q (by decide)) (fun _ => ?_)
  refine lv_aload_n hx hb dX11_keeps_62 rfl (lv_at hl 1 rfl) ?_
  refine va_get (ci := 11) (v := .ref (a 201)) (C := RX11) (T := TX11) (N := 39) hx hb htA in_X11 hown hK hP 0 rfl rfl 0 (by decide) (htA _ wd_1354) (fun _ h => h) rfl dX11_keeps_63 ?_
  refine lv_bipush (v := 89) hx hb dX11_keeps_66 (by decide) ?_
  refine lv_bipush (v := 37) hx hb dX11_keeps_68 (by decide) ?_
  refine lv_aload_n hx hb dX11_keeps_70 rfl (lv_at hl 1 rfl) ?_
  refine va_get (ci := 11) (v := .ref (a 201)) (C := RX11) (T := TX11) (N := 39) hx hb htA in_X11 hown hK hP 0 rfl rfl 0 (by decide) (htA _ wd_1354) (fun _ h => h) rfl dX11_keeps_71 ?_
  refine lv_bipush (v := 7) hx hb dX11_keeps_74 (by decide) ?_
  refine va_iald hx hb hK hP 1 0 rfl rfl (in_lit (by decide)) dX11_keeps_76 ?_
  refine lv_topi (fun x140 ex140 => ?_)
  obtain rfl : x140 = 0 := ex140.trans (by first | decide | rfl)
  refine lv_imul hx hb dX11_keeps_77 ?_
  refine lv_topi (fun x141 ex141 => ?_)
  obtain rfl : x141 = 0 := ex141.trans (by decide)
  refine lv_iadd hx hb dX11_keeps_78 ?_
  refine lv_topi (fun x142 ex142 => ?_)
  obtain rfl : x142 = 89 := ex142.trans (by decide)
  refine lv_iload_n hx hb dX11_keeps_79 rfl (lv_at hl 0 rfl) ?_
  refine lv_iadd hx hb dX11_keeps_80 ?_
  refine lv_topi (fun x143 ex143 => ?_)
  obtain rfl : x143 = 112 := ex143.trans (by decide)
  refine lv_aload_n hx hb dX11_keeps_81 rfl (lv_at hl 1 rfl) ?_
  refine va_get (ci := 11) (v := .ref (a 201)) (C := RX11) (T := TX11) (N := 39) hx hb htA in_X11 hown hK hP 0 rfl rfl 0 (by decide) (htA _ wd_1354) (fun _ h => h) rfl dX11_keeps_82 ?_
  refine lv_bipush (v := 8) hx hb dX11_keeps_85 (by decide) ?_
  refine lv_iload_n hx hb dX11_keeps_87 rfl (lv_at hl 0 rfl) ?_
  refine lv_iadd hx hb dX11_keeps_88 ?_
  refine lv_topi (fun x144 ex144 => ?_)
  obtain rfl : x144 = 31 := ex144.trans (by decide)
  refine va_iald hx hb hK hP 1 0 rfl rfl (in_lit (by decide)) dX11_keeps_89 ?_
  refine lv_topi (fun x145 ex145 => ?_)
  obtain rfl : x145 = 0 := ex145.trans (by first | decide | rfl)
  refine va_iast hx hb hK hP hD hS 1 0 rfl rfl (in_lit (by decide)) dX11_keeps_90 (fun H locs hP hD hS => ?_)
  rw [fa_upd_same (f := upd (upd (fun _ => 0) (1 : Int32).toNatClampNeg 1) (2 : Int32).toNatClampNeg 1) (i := (112 : Int32).toNatClampNeg) (x := 0) (by first | decide | rfl)] at hP hD
  have hP : va_P D vwCl [((a 200), .inr (11, [.ref (a 201), .ref (a 202), .ref (a 203), .ref (a 204), .int 0, .ref (a 205), .int 0, .int 0, .int 0, .int 0, .int 0, .int 0, .int 0, .int 0, .int 0, .int (-1), .int 0, .int 0, .int 0, .ref (a 206), .ref (a 207), .int 0, .int 0, .ref (a 208), .int 0, .int 0, .int 0, .int 0, .ref (a 209), .ref (a 210), .ref (a 211), .ref (a 212), .ref (a 213), .ref (a 214), .ref (a 215), .int 0, .ref (a 216), .ref (a 217), .ref (a 218)])), ((a 201), .inl (cy 0, 2260, .inl (upd (upd (fun _ => 0) (1 : Int32).toNatClampNeg 1) (2 : Int32).toNatClampNeg 1)))] H := hP
  have hD := va_ca hP hD
  refine lv_iinc (v := 24) (lv' := [(1, .int 24), (0, .ref (a 200))]) hx hb dX11_keeps_91 hl (k := 0) rfl (by decide) (by decide) rfl (fun ls hl => ?_)
  refine lv_goto (tgt := 56) hx hb dX11_keeps_94 (by decide) ?_
  refine lv_iload_n hx hb dX11_keeps_56 rfl (lv_at hl 0 rfl) ?_
  refine lv_bipush (v := 37) hx hb dX11_keeps_57 (by decide) ?_
  refine lv_icmp_ge (tgt := 97) hx hb dX11_keeps_59 (by decide) (fun q => absurd q (by decide)) (fun _ => ?_)
  refine lv_aload_n hx hb dX11_keeps_62 rfl (lv_at hl 1 rfl) ?_
  refine va_get (ci := 11) (v := .ref (a 201)) (C := RX11) (T := TX11) (N := 39) hx hb htA in_X11 hown hK hP 0 rfl rfl 0 (by decide) (htA _ wd_1354) (fun _ h => h) rfl dX11_keeps_63 ?_
  refine lv_bipush (v := 89) hx hb dX11_keeps_66 (by decide) ?_
  refine lv_bipush (v := 37) hx hb dX11_keeps_68 (by decide) ?_
  refine lv_aload_n hx hb dX11_keeps_70 rfl (lv_at hl 1 rfl) ?_
  refine va_get (ci := 11) (v := .ref (a 201)) (C := RX11) (T := TX11) (N := 39) hx hb htA in_X11 hown hK hP 0 rfl rfl 0 (by decide) (htA _ wd_1354) (fun _ h => h) rfl dX11_keeps_71 ?_
  refine lv_bipush (v := 7) hx hb dX11_keeps_74 (by decide) ?_
  refine va_iald hx hb hK hP 1 0 rfl rfl (in_lit (by decide)) dX11_keeps_76 ?_
  refine lv_topi (fun x146 ex146 => ?_)
  obtain rfl : x146 = 0 := ex146.trans (by first | decide | rfl)
  refine lv_imul hx hb dX11_keeps_77 ?_
  refine lv_topi (fun x147 ex147 => ?_)
  obtain rfl : x147 = 0 := ex147.trans (by decide)
  refine lv_iadd hx hb dX11_keeps_78 ?_
  refine lv_topi (fun x148 ex148 => ?_)
  obtain rfl : x148 = 89 := ex148.trans (by decide)
  refine lv_iload_n hx hb dX11_keeps_79 rfl (lv_at hl 0 rfl) ?_
  refine lv_iadd hx hb dX11_keeps_80 ?_
  refine lv_topi (fun x149 ex149 => ?_)
  obtain rfl : x149 = 113 := ex149.trans (by decide)
  refine lv_aload_n hx hb dX11_keeps_81 rfl (lv_at hl 1 rfl) ?_
  refine va_get (ci := 11) (v := .ref (a 201)) (C := RX11) (T := TX11) (N := 39) hx hb htA in_X11 hown hK hP 0 rfl rfl 0 (by decide) (htA _ wd_1354) (fun _ h => h) rfl dX11_keeps_82 ?_
  refine lv_bipush (v := 8) hx hb dX11_keeps_85 (by decide) ?_
  refine lv_iload_n hx hb dX11_keeps_87 rfl (lv_at hl 0 rfl) ?_
  refine lv_iadd hx hb dX11_keeps_88 ?_
  refine lv_topi (fun x150 ex150 => ?_)
  obtain rfl : x150 = 32 := ex150.trans (by decide)
  refine va_iald hx hb hK hP 1 0 rfl rfl (in_lit (by decide)) dX11_keeps_89 ?_
  refine lv_topi (fun x151 ex151 => ?_)
  obtain rfl : x151 = 0 := ex151.trans (by first | decide | rfl)
  refine va_iast hx hb hK hP hD hS 1 0 rfl rfl (in_lit (by decide)) dX11_keeps_90 (fun H locs hP hD hS => ?_)
  rw [fa_upd_same (f := upd (upd (fun _ => 0) (1 : Int32).toNatClampNeg 1) (2 : Int32).toNatClampNeg 1) (i := (113 : Int32).toNatClampNeg) (x := 0) (by first | decide | rfl)] at hP hD
  have hP : va_P D vwCl [((a 200), .inr (11, [.ref (a 201), .ref (a 202), .ref (a 203), .ref (a 204), .int 0, .ref (a 205), .int 0, .int 0, .int 0, .int 0, .int 0, .int 0, .int 0, .int 0, .int 0, .int (-1), .int 0, .int 0, .int 0, .ref (a 206), .ref (a 207), .int 0, .int 0, .ref (a 208), .int 0, .int 0, .int 0, .int 0, .ref (a 209), .ref (a 210), .ref (a 211), .ref (a 212), .ref (a 213), .ref (a 214), .ref (a 215), .int 0, .ref (a 216), .ref (a 217), .ref (a 218)])), ((a 201), .inl (cy 0, 2260, .inl (upd (upd (fun _ => 0) (1 : Int32).toNatClampNeg 1) (2 : Int32).toNatClampNeg 1)))] H := hP
  have hD := va_ca hP hD
  refine lv_iinc (v := 25) (lv' := [(1, .int 25), (0, .ref (a 200))]) hx hb dX11_keeps_91 hl (k := 0) rfl (by decide) (by decide) rfl (fun ls hl => ?_)
  refine lv_goto (tgt := 56) hx hb dX11_keeps_94 (by decide) ?_
  refine lv_iload_n hx hb dX11_keeps_56 rfl (lv_at hl 0 rfl) ?_
  refine lv_bipush (v := 37) hx hb dX11_keeps_57 (by decide) ?_
  refine lv_icmp_ge (tgt := 97) hx hb dX11_keeps_59 (by decide) (fun q => absurd q (by decide)) (fun _ => ?_)
  refine lv_aload_n hx hb dX11_keeps_62 rfl (lv_at hl 1 rfl) ?_
  refine va_get (ci := 11) (v := .ref (a 201)) (C := RX11) (T := TX11) (N := 39) hx hb htA in_X11 hown hK hP 0 rfl rfl 0 (by decide) (htA _ wd_1354) (fun _ h => h) rfl dX11_keeps_63 ?_
  refine lv_bipush (v := 89) hx hb dX11_keeps_66 (by decide) ?_
  refine lv_bipush (v := 37) hx hb dX11_keeps_68 (by decide) ?_
  refine lv_aload_n hx hb dX11_keeps_70 rfl (lv_at hl 1 rfl) ?_
  refine va_get (ci := 11) (v := .ref (a 201)) (C := RX11) (T := TX11) (N := 39) hx hb htA in_X11 hown hK hP 0 rfl rfl 0 (by decide) (htA _ wd_1354) (fun _ h => h) rfl dX11_keeps_71 ?_
  refine lv_bipush (v := 7) hx hb dX11_keeps_74 (by decide) ?_
  refine va_iald hx hb hK hP 1 0 rfl rfl (in_lit (by decide)) dX11_keeps_76 ?_
  refine lv_topi (fun x152 ex152 => ?_)
  obtain rfl : x152 = 0 := ex152.trans (by first | decide | rfl)
  refine lv_imul hx hb dX11_keeps_77 ?_
  refine lv_topi (fun x153 ex153 => ?_)
  obtain rfl : x153 = 0 := ex153.trans (by decide)
  refine lv_iadd hx hb dX11_keeps_78 ?_
  refine lv_topi (fun x154 ex154 => ?_)
  obtain rfl : x154 = 89 := ex154.trans (by decide)
  refine lv_iload_n hx hb dX11_keeps_79 rfl (lv_at hl 0 rfl) ?_
  refine lv_iadd hx hb dX11_keeps_80 ?_
  refine lv_topi (fun x155 ex155 => ?_)
  obtain rfl : x155 = 114 := ex155.trans (by decide)
  refine lv_aload_n hx hb dX11_keeps_81 rfl (lv_at hl 1 rfl) ?_
  refine va_get (ci := 11) (v := .ref (a 201)) (C := RX11) (T := TX11) (N := 39) hx hb htA in_X11 hown hK hP 0 rfl rfl 0 (by decide) (htA _ wd_1354) (fun _ h => h) rfl dX11_keeps_82 ?_
  refine lv_bipush (v := 8) hx hb dX11_keeps_85 (by decide) ?_
  refine lv_iload_n hx hb dX11_keeps_87 rfl (lv_at hl 0 rfl) ?_
  refine lv_iadd hx hb dX11_keeps_88 ?_
  refine lv_topi (fun x156 ex156 => ?_)
  obtain rfl : x156 = 33 := ex156.trans (by decide)
  refine va_iald hx hb hK hP 1 0 rfl rfl (in_lit (by decide)) dX11_keeps_89 ?_
  refine lv_topi (fun x157 ex157 => ?_)
  obtain rfl : x157 = 0 := ex157.trans (by first | decide | rfl)
  refine va_iast hx hb hK hP hD hS 1 0 rfl rfl (in_lit (by decide)) dX11_keeps_90 (fun H locs hP hD hS => ?_)
  rw [fa_upd_same (f := upd (upd (fun _ => 0) (1 : Int32).toNatClampNeg 1) (2 : Int32).toNatClampNeg 1) (i := (114 : Int32).toNatClampNeg) (x := 0) (by first | decide | rfl)] at hP hD
  have hP : va_P D vwCl [((a 200), .inr (11, [.ref (a 201), .ref (a 202), .ref (a 203), .ref (a 204), .int 0, .ref (a 205), .int 0, .int 0, .int 0, .int 0, .int 0, .int 0, .int 0, .int 0, .int 0, .int (-1), .int 0, .int 0, .int 0, .ref (a 206), .ref (a 207), .int 0, .int 0, .ref (a 208), .int 0, .int 0, .int 0, .int 0, .ref (a 209), .ref (a 210), .ref (a 211), .ref (a 212), .ref (a 213), .ref (a 214), .ref (a 215), .int 0, .ref (a 216), .ref (a 217), .ref (a 218)])), ((a 201), .inl (cy 0, 2260, .inl (upd (upd (fun _ => 0) (1 : Int32).toNatClampNeg 1) (2 : Int32).toNatClampNeg 1)))] H := hP
  have hD := va_ca hP hD
  refine lv_iinc (v := 26) (lv' := [(1, .int 26), (0, .ref (a 200))]) hx hb dX11_keeps_91 hl (k := 0) rfl (by decide) (by decide) rfl (fun ls hl => ?_)
  refine lv_goto (tgt := 56) hx hb dX11_keeps_94 (by decide) ?_
  refine lv_iload_n hx hb dX11_keeps_56 rfl (lv_at hl 0 rfl) ?_
  refine lv_bipush (v := 37) hx hb dX11_keeps_57 (by decide) ?_
  refine lv_icmp_ge (tgt := 97) hx hb dX11_keeps_59 (by decide) (fun q => absurd q (by decide)) (fun _ => ?_)
  refine lv_aload_n hx hb dX11_keeps_62 rfl (lv_at hl 1 rfl) ?_
  refine va_get (ci := 11) (v := .ref (a 201)) (C := RX11) (T := TX11) (N := 39) hx hb htA in_X11 hown hK hP 0 rfl rfl 0 (by decide) (htA _ wd_1354) (fun _ h => h) rfl dX11_keeps_63 ?_
  refine lv_bipush (v := 89) hx hb dX11_keeps_66 (by decide) ?_
  refine lv_bipush (v := 37) hx hb dX11_keeps_68 (by decide) ?_
  refine lv_aload_n hx hb dX11_keeps_70 rfl (lv_at hl 1 rfl) ?_
  refine va_get (ci := 11) (v := .ref (a 201)) (C := RX11) (T := TX11) (N := 39) hx hb htA in_X11 hown hK hP 0 rfl rfl 0 (by decide) (htA _ wd_1354) (fun _ h => h) rfl dX11_keeps_71 ?_
  refine lv_bipush (v := 7) hx hb dX11_keeps_74 (by decide) ?_
  refine va_iald hx hb hK hP 1 0 rfl rfl (in_lit (by decide)) dX11_keeps_76 ?_
  refine lv_topi (fun x158 ex158 => ?_)
  obtain rfl : x158 = 0 := ex158.trans (by first | decide | rfl)
  refine lv_imul hx hb dX11_keeps_77 ?_
  refine lv_topi (fun x159 ex159 => ?_)
  obtain rfl : x159 = 0 := ex159.trans (by decide)
  refine lv_iadd hx hb dX11_keeps_78 ?_
  refine lv_topi (fun x160 ex160 => ?_)
  obtain rfl : x160 = 89 := ex160.trans (by decide)
  refine lv_iload_n hx hb dX11_keeps_79 rfl (lv_at hl 0 rfl) ?_
  refine lv_iadd hx hb dX11_keeps_80 ?_
  refine lv_topi (fun x161 ex161 => ?_)
  obtain rfl : x161 = 115 := ex161.trans (by decide)
  refine lv_aload_n hx hb dX11_keeps_81 rfl (lv_at hl 1 rfl) ?_
  refine va_get (ci := 11) (v := .ref (a 201)) (C := RX11) (T := TX11) (N := 39) hx hb htA in_X11 hown hK hP 0 rfl rfl 0 (by decide) (htA _ wd_1354) (fun _ h => h) rfl dX11_keeps_82 ?_
  refine lv_bipush (v := 8) hx hb dX11_keeps_85 (by decide) ?_
  refine lv_iload_n hx hb dX11_keeps_87 rfl (lv_at hl 0 rfl) ?_
  refine lv_iadd hx hb dX11_keeps_88 ?_
  refine lv_topi (fun x162 ex162 => ?_)
  obtain rfl : x162 = 34 := ex162.trans (by decide)
  refine va_iald hx hb hK hP 1 0 rfl rfl (in_lit (by decide)) dX11_keeps_89 ?_
  refine lv_topi (fun x163 ex163 => ?_)
  obtain rfl : x163 = 0 := ex163.trans (by first | decide | rfl)
  refine va_iast hx hb hK hP hD hS 1 0 rfl rfl (in_lit (by decide)) dX11_keeps_90 (fun H locs hP hD hS => ?_)
  rw [fa_upd_same (f := upd (upd (fun _ => 0) (1 : Int32).toNatClampNeg 1) (2 : Int32).toNatClampNeg 1) (i := (115 : Int32).toNatClampNeg) (x := 0) (by first | decide | rfl)] at hP hD
  have hP : va_P D vwCl [((a 200), .inr (11, [.ref (a 201), .ref (a 202), .ref (a 203), .ref (a 204), .int 0, .ref (a 205), .int 0, .int 0, .int 0, .int 0, .int 0, .int 0, .int 0, .int 0, .int 0, .int (-1), .int 0, .int 0, .int 0, .ref (a 206), .ref (a 207), .int 0, .int 0, .ref (a 208), .int 0, .int 0, .int 0, .int 0, .ref (a 209), .ref (a 210), .ref (a 211), .ref (a 212), .ref (a 213), .ref (a 214), .ref (a 215), .int 0, .ref (a 216), .ref (a 217), .ref (a 218)])), ((a 201), .inl (cy 0, 2260, .inl (upd (upd (fun _ => 0) (1 : Int32).toNatClampNeg 1) (2 : Int32).toNatClampNeg 1)))] H := hP
  have hD := va_ca hP hD
  refine lv_iinc (v := 27) (lv' := [(1, .int 27), (0, .ref (a 200))]) hx hb dX11_keeps_91 hl (k := 0) rfl (by decide) (by decide) rfl (fun ls hl => ?_)
  refine lv_goto (tgt := 56) hx hb dX11_keeps_94 (by decide) ?_
  refine lv_iload_n hx hb dX11_keeps_56 rfl (lv_at hl 0 rfl) ?_
  refine lv_bipush (v := 37) hx hb dX11_keeps_57 (by decide) ?_
  refine lv_icmp_ge (tgt := 97) hx hb dX11_keeps_59 (by decide) (fun q => absurd q (by decide)) (fun _ => ?_)
  refine lv_aload_n hx hb dX11_keeps_62 rfl (lv_at hl 1 rfl) ?_
  refine va_get (ci := 11) (v := .ref (a 201)) (C := RX11) (T := TX11) (N := 39) hx hb htA in_X11 hown hK hP 0 rfl rfl 0 (by decide) (htA _ wd_1354) (fun _ h => h) rfl dX11_keeps_63 ?_
  refine lv_bipush (v := 89) hx hb dX11_keeps_66 (by decide) ?_
  refine lv_bipush (v := 37) hx hb dX11_keeps_68 (by decide) ?_
  refine lv_aload_n hx hb dX11_keeps_70 rfl (lv_at hl 1 rfl) ?_
  refine va_get (ci := 11) (v := .ref (a 201)) (C := RX11) (T := TX11) (N := 39) hx hb htA in_X11 hown hK hP 0 rfl rfl 0 (by decide) (htA _ wd_1354) (fun _ h => h) rfl dX11_keeps_71 ?_
  refine lv_bipush (v := 7) hx hb dX11_keeps_74 (by decide) ?_
  refine va_iald hx hb hK hP 1 0 rfl rfl (in_lit (by decide)) dX11_keeps_76 ?_
  refine lv_topi (fun x164 ex164 => ?_)
  obtain rfl : x164 = 0 := ex164.trans (by first | decide | rfl)
  refine lv_imul hx hb dX11_keeps_77 ?_
  refine lv_topi (fun x165 ex165 => ?_)
  obtain rfl : x165 = 0 := ex165.trans (by decide)
  refine lv_iadd hx hb dX11_keeps_78 ?_
  refine lv_topi (fun x166 ex166 => ?_)
  obtain rfl : x166 = 89 := ex166.trans (by decide)
  refine lv_iload_n hx hb dX11_keeps_79 rfl (lv_at hl 0 rfl) ?_
  refine lv_iadd hx hb dX11_keeps_80 ?_
  refine lv_topi (fun x167 ex167 => ?_)
  obtain rfl : x167 = 116 := ex167.trans (by decide)
  refine lv_aload_n hx hb dX11_keeps_81 rfl (lv_at hl 1 rfl) ?_
  refine va_get (ci := 11) (v := .ref (a 201)) (C := RX11) (T := TX11) (N := 39) hx hb htA in_X11 hown hK hP 0 rfl rfl 0 (by decide) (htA _ wd_1354) (fun _ h => h) rfl dX11_keeps_82 ?_
  refine lv_bipush (v := 8) hx hb dX11_keeps_85 (by decide) ?_
  refine lv_iload_n hx hb dX11_keeps_87 rfl (lv_at hl 0 rfl) ?_
  refine lv_iadd hx hb dX11_keeps_88 ?_
  refine lv_topi (fun x168 ex168 => ?_)
  obtain rfl : x168 = 35 := ex168.trans (by decide)
  refine va_iald hx hb hK hP 1 0 rfl rfl (in_lit (by decide)) dX11_keeps_89 ?_
  refine lv_topi (fun x169 ex169 => ?_)
  obtain rfl : x169 = 0 := ex169.trans (by first | decide | rfl)
  refine va_iast hx hb hK hP hD hS 1 0 rfl rfl (in_lit (by decide)) dX11_keeps_90 (fun H locs hP hD hS => ?_)
  rw [fa_upd_same (f := upd (upd (fun _ => 0) (1 : Int32).toNatClampNeg 1) (2 : Int32).toNatClampNeg 1) (i := (116 : Int32).toNatClampNeg) (x := 0) (by first | decide | rfl)] at hP hD
  have hP : va_P D vwCl [((a 200), .inr (11, [.ref (a 201), .ref (a 202), .ref (a 203), .ref (a 204), .int 0, .ref (a 205), .int 0, .int 0, .int 0, .int 0, .int 0, .int 0, .int 0, .int 0, .int 0, .int (-1), .int 0, .int 0, .int 0, .ref (a 206), .ref (a 207), .int 0, .int 0, .ref (a 208), .int 0, .int 0, .int 0, .int 0, .ref (a 209), .ref (a 210), .ref (a 211), .ref (a 212), .ref (a 213), .ref (a 214), .ref (a 215), .int 0, .ref (a 216), .ref (a 217), .ref (a 218)])), ((a 201), .inl (cy 0, 2260, .inl (upd (upd (fun _ => 0) (1 : Int32).toNatClampNeg 1) (2 : Int32).toNatClampNeg 1)))] H := hP
  have hD := va_ca hP hD
  refine lv_iinc (v := 28) (lv' := [(1, .int 28), (0, .ref (a 200))]) hx hb dX11_keeps_91 hl (k := 0) rfl (by decide) (by decide) rfl (fun ls hl => ?_)
  refine lv_goto (tgt := 56) hx hb dX11_keeps_94 (by decide) ?_
  refine lv_iload_n hx hb dX11_keeps_56 rfl (lv_at hl 0 rfl) ?_
  refine lv_bipush (v := 37) hx hb dX11_keeps_57 (by decide) ?_
  refine lv_icmp_ge (tgt := 97) hx hb dX11_keeps_59 (by decide) (fun q => absurd q (by decide)) (fun _ => ?_)
  refine lv_aload_n hx hb dX11_keeps_62 rfl (lv_at hl 1 rfl) ?_
  refine va_get (ci := 11) (v := .ref (a 201)) (C := RX11) (T := TX11) (N := 39) hx hb htA in_X11 hown hK hP 0 rfl rfl 0 (by decide) (htA _ wd_1354) (fun _ h => h) rfl dX11_keeps_63 ?_
  refine lv_bipush (v := 89) hx hb dX11_keeps_66 (by decide) ?_
  refine lv_bipush (v := 37) hx hb dX11_keeps_68 (by decide) ?_
  refine lv_aload_n hx hb dX11_keeps_70 rfl (lv_at hl 1 rfl) ?_
  refine va_get (ci := 11) (v := .ref (a 201)) (C := RX11) (T := TX11) (N := 39) hx hb htA in_X11 hown hK hP 0 rfl rfl 0 (by decide) (htA _ wd_1354) (fun _ h => h) rfl dX11_keeps_71 ?_
  refine lv_bipush (v := 7) hx hb dX11_keeps_74 (by decide) ?_
  refine va_iald hx hb hK hP 1 0 rfl rfl (in_lit (by decide)) dX11_keeps_76 ?_
  refine lv_topi (fun x170 ex170 => ?_)
  obtain rfl : x170 = 0 := ex170.trans (by first | decide | rfl)
  refine lv_imul hx hb dX11_keeps_77 ?_
  refine lv_topi (fun x171 ex171 => ?_)
  obtain rfl : x171 = 0 := ex171.trans (by decide)
  refine lv_iadd hx hb dX11_keeps_78 ?_
  refine lv_topi (fun x172 ex172 => ?_)
  obtain rfl : x172 = 89 := ex172.trans (by decide)
  refine lv_iload_n hx hb dX11_keeps_79 rfl (lv_at hl 0 rfl) ?_
  refine lv_iadd hx hb dX11_keeps_80 ?_
  refine lv_topi (fun x173 ex173 => ?_)
  obtain rfl : x173 = 117 := ex173.trans (by decide)
  refine lv_aload_n hx hb dX11_keeps_81 rfl (lv_at hl 1 rfl) ?_
  refine va_get (ci := 11) (v := .ref (a 201)) (C := RX11) (T := TX11) (N := 39) hx hb htA in_X11 hown hK hP 0 rfl rfl 0 (by decide) (htA _ wd_1354) (fun _ h => h) rfl dX11_keeps_82 ?_
  refine lv_bipush (v := 8) hx hb dX11_keeps_85 (by decide) ?_
  refine lv_iload_n hx hb dX11_keeps_87 rfl (lv_at hl 0 rfl) ?_
  refine lv_iadd hx hb dX11_keeps_88 ?_
  refine lv_topi (fun x174 ex174 => ?_)
  obtain rfl : x174 = 36 := ex174.trans (by decide)
  refine va_iald hx hb hK hP 1 0 rfl rfl (in_lit (by decide)) dX11_keeps_89 ?_
  refine lv_topi (fun x175 ex175 => ?_)
  obtain rfl : x175 = 0 := ex175.trans (by first | decide | rfl)
  refine va_iast hx hb hK hP hD hS 1 0 rfl rfl (in_lit (by decide)) dX11_keeps_90 (fun H locs hP hD hS => ?_)
  rw [fa_upd_same (f := upd (upd (fun _ => 0) (1 : Int32).toNatClampNeg 1) (2 : Int32).toNatClampNeg 1) (i := (117 : Int32).toNatClampNeg) (x := 0) (by first | decide | rfl)] at hP hD
  have hP : va_P D vwCl [((a 200), .inr (11, [.ref (a 201), .ref (a 202), .ref (a 203), .ref (a 204), .int 0, .ref (a 205), .int 0, .int 0, .int 0, .int 0, .int 0, .int 0, .int 0, .int 0, .int 0, .int (-1), .int 0, .int 0, .int 0, .ref (a 206), .ref (a 207), .int 0, .int 0, .ref (a 208), .int 0, .int 0, .int 0, .int 0, .ref (a 209), .ref (a 210), .ref (a 211), .ref (a 212), .ref (a 213), .ref (a 214), .ref (a 215), .int 0, .ref (a 216), .ref (a 217), .ref (a 218)])), ((a 201), .inl (cy 0, 2260, .inl (upd (upd (fun _ => 0) (1 : Int32).toNatClampNeg 1) (2 : Int32).toNatClampNeg 1)))] H := hP
  have hD := va_ca hP hD
  refine lv_iinc (v := 29) (lv' := [(1, .int 29), (0, .ref (a 200))]) hx hb dX11_keeps_91 hl (k := 0) rfl (by decide) (by decide) rfl (fun ls hl => ?_)
  refine lv_goto (tgt := 56) hx hb dX11_keeps_94 (by decide) ?_
  refine lv_iload_n hx hb dX11_keeps_56 rfl (lv_at hl 0 rfl) ?_
  refine lv_bipush (v := 37) hx hb dX11_keeps_57 (by decide) ?_
  refine lv_icmp_ge (tgt := 97) hx hb dX11_keeps_59 (by decide) (fun q => absurd q (by decide)) (fun _ => ?_)
  refine lv_aload_n hx hb dX11_keeps_62 rfl (lv_at hl 1 rfl) ?_
  refine va_get (ci := 11) (v := .ref (a 201)) (C := RX11) (T := TX11) (N := 39) hx hb htA in_X11 hown hK hP 0 rfl rfl 0 (by decide) (htA _ wd_1354) (fun _ h => h) rfl dX11_keeps_63 ?_
  refine lv_bipush (v := 89) hx hb dX11_keeps_66 (by decide) ?_
  refine lv_bipush (v := 37) hx hb dX11_keeps_68 (by decide) ?_
  refine lv_aload_n hx hb dX11_keeps_70 rfl (lv_at hl 1 rfl) ?_
  refine va_get (ci := 11) (v := .ref (a 201)) (C := RX11) (T := TX11) (N := 39) hx hb htA in_X11 hown hK hP 0 rfl rfl 0 (by decide) (htA _ wd_1354) (fun _ h => h) rfl dX11_keeps_71 ?_
  refine lv_bipush (v := 7) hx hb dX11_keeps_74 (by decide) ?_
  refine va_iald hx hb hK hP 1 0 rfl rfl (in_lit (by decide)) dX11_keeps_76 ?_
  refine lv_topi (fun x176 ex176 => ?_)
  obtain rfl : x176 = 0 := ex176.trans (by first | decide | rfl)
  refine lv_imul hx hb dX11_keeps_77 ?_
  refine lv_topi (fun x177 ex177 => ?_)
  obtain rfl : x177 = 0 := ex177.trans (by decide)
  refine lv_iadd hx hb dX11_keeps_78 ?_
  refine lv_topi (fun x178 ex178 => ?_)
  obtain rfl : x178 = 89 := ex178.trans (by decide)
  refine lv_iload_n hx hb dX11_keeps_79 rfl (lv_at hl 0 rfl) ?_
  refine lv_iadd hx hb dX11_keeps_80 ?_
  refine lv_topi (fun x179 ex179 => ?_)
  obtain rfl : x179 = 118 := ex179.trans (by decide)
  refine lv_aload_n hx hb dX11_keeps_81 rfl (lv_at hl 1 rfl) ?_
  refine va_get (ci := 11) (v := .ref (a 201)) (C := RX11) (T := TX11) (N := 39) hx hb htA in_X11 hown hK hP 0 rfl rfl 0 (by decide) (htA _ wd_1354) (fun _ h => h) rfl dX11_keeps_82 ?_
  refine lv_bipush (v := 8) hx hb dX11_keeps_85 (by decide) ?_
  refine lv_iload_n hx hb dX11_keeps_87 rfl (lv_at hl 0 rfl) ?_
  refine lv_iadd hx hb dX11_keeps_88 ?_
  refine lv_topi (fun x180 ex180 => ?_)
  obtain rfl : x180 = 37 := ex180.trans (by decide)
  refine va_iald hx hb hK hP 1 0 rfl rfl (in_lit (by decide)) dX11_keeps_89 ?_
  refine lv_topi (fun x181 ex181 => ?_)
  obtain rfl : x181 = 0 := ex181.trans (by first | decide | rfl)
  refine va_iast hx hb hK hP hD hS 1 0 rfl rfl (in_lit (by decide)) dX11_keeps_90 (fun H locs hP hD hS => ?_)
  rw [fa_upd_same (f := upd (upd (fun _ => 0) (1 : Int32).toNatClampNeg 1) (2 : Int32).toNatClampNeg 1) (i := (118 : Int32).toNatClampNeg) (x := 0) (by first | decide | rfl)] at hP hD
  have hP : va_P D vwCl [((a 200), .inr (11, [.ref (a 201), .ref (a 202), .ref (a 203), .ref (a 204), .int 0, .ref (a 205), .int 0, .int 0, .int 0, .int 0, .int 0, .int 0, .int 0, .int 0, .int 0, .int (-1), .int 0, .int 0, .int 0, .ref (a 206), .ref (a 207), .int 0, .int 0, .ref (a 208), .int 0, .int 0, .int 0, .int 0, .ref (a 209), .ref (a 210), .ref (a 211), .ref (a 212), .ref (a 213), .ref (a 214), .ref (a 215), .int 0, .ref (a 216), .ref (a 217), .ref (a 218)])), ((a 201), .inl (cy 0, 2260, .inl (upd (upd (fun _ => 0) (1 : Int32).toNatClampNeg 1) (2 : Int32).toNatClampNeg 1)))] H := hP
  have hD := va_ca hP hD
  refine lv_iinc (v := 30) (lv' := [(1, .int 30), (0, .ref (a 200))]) hx hb dX11_keeps_91 hl (k := 0) rfl (by decide) (by decide) rfl (fun ls hl => ?_)
  refine lv_goto (tgt := 56) hx hb dX11_keeps_94 (by decide) ?_
  refine lv_iload_n hx hb dX11_keeps_56 rfl (lv_at hl 0 rfl) ?_
  refine lv_bipush (v := 37) hx hb dX11_keeps_57 (by decide) ?_
  refine lv_icmp_ge (tgt := 97) hx hb dX11_keeps_59 (by decide) (fun q => absurd q (by decide)) (fun _ => ?_)
  refine lv_aload_n hx hb dX11_keeps_62 rfl (lv_at hl 1 rfl) ?_
  refine va_get (ci := 11) (v := .ref (a 201)) (C := RX11) (T := TX11) (N := 39) hx hb htA in_X11 hown hK hP 0 rfl rfl 0 (by decide) (htA _ wd_1354) (fun _ h => h) rfl dX11_keeps_63 ?_
  refine lv_bipush (v := 89) hx hb dX11_keeps_66 (by decide) ?_
  refine lv_bipush (v := 37) hx hb dX11_keeps_68 (by decide) ?_
  refine lv_aload_n hx hb dX11_keeps_70 rfl (lv_at hl 1 rfl) ?_
  refine va_get (ci := 11) (v := .ref (a 201)) (C := RX11) (T := TX11) (N := 39) hx hb htA in_X11 hown hK hP 0 rfl rfl 0 (by decide) (htA _ wd_1354) (fun _ h => h) rfl dX11_keeps_71 ?_
  refine lv_bipush (v := 7) hx hb dX11_keeps_74 (by decide) ?_
  refine va_iald hx hb hK hP 1 0 rfl rfl (in_lit (by decide)) dX11_keeps_76 ?_
  refine lv_topi (fun x182 ex182 => ?_)
  obtain rfl : x182 = 0 := ex182.trans (by first | decide | rfl)
  refine lv_imul hx hb dX11_keeps_77 ?_
  refine lv_topi (fun x183 ex183 => ?_)
  obtain rfl : x183 = 0 := ex183.trans (by decide)
  refine lv_iadd hx hb dX11_keeps_78 ?_
  refine lv_topi (fun x184 ex184 => ?_)
  obtain rfl : x184 = 89 := ex184.trans (by decide)
  refine lv_iload_n hx hb dX11_keeps_79 rfl (lv_at hl 0 rfl) ?_
  refine lv_iadd hx hb dX11_keeps_80 ?_
  refine lv_topi (fun x185 ex185 => ?_)
  obtain rfl : x185 = 119 := ex185.trans (by decide)
  refine lv_aload_n hx hb dX11_keeps_81 rfl (lv_at hl 1 rfl) ?_
  refine va_get (ci := 11) (v := .ref (a 201)) (C := RX11) (T := TX11) (N := 39) hx hb htA in_X11 hown hK hP 0 rfl rfl 0 (by decide) (htA _ wd_1354) (fun _ h => h) rfl dX11_keeps_82 ?_
  refine lv_bipush (v := 8) hx hb dX11_keeps_85 (by decide) ?_
  refine lv_iload_n hx hb dX11_keeps_87 rfl (lv_at hl 0 rfl) ?_
  refine lv_iadd hx hb dX11_keeps_88 ?_
  refine lv_topi (fun x186 ex186 => ?_)
  obtain rfl : x186 = 38 := ex186.trans (by decide)
  refine va_iald hx hb hK hP 1 0 rfl rfl (in_lit (by decide)) dX11_keeps_89 ?_
  refine lv_topi (fun x187 ex187 => ?_)
  obtain rfl : x187 = 0 := ex187.trans (by first | decide | rfl)
  refine va_iast hx hb hK hP hD hS 1 0 rfl rfl (in_lit (by decide)) dX11_keeps_90 (fun H locs hP hD hS => ?_)
  rw [fa_upd_same (f := upd (upd (fun _ => 0) (1 : Int32).toNatClampNeg 1) (2 : Int32).toNatClampNeg 1) (i := (119 : Int32).toNatClampNeg) (x := 0) (by first | decide | rfl)] at hP hD
  have hP : va_P D vwCl [((a 200), .inr (11, [.ref (a 201), .ref (a 202), .ref (a 203), .ref (a 204), .int 0, .ref (a 205), .int 0, .int 0, .int 0, .int 0, .int 0, .int 0, .int 0, .int 0, .int 0, .int (-1), .int 0, .int 0, .int 0, .ref (a 206), .ref (a 207), .int 0, .int 0, .ref (a 208), .int 0, .int 0, .int 0, .int 0, .ref (a 209), .ref (a 210), .ref (a 211), .ref (a 212), .ref (a 213), .ref (a 214), .ref (a 215), .int 0, .ref (a 216), .ref (a 217), .ref (a 218)])), ((a 201), .inl (cy 0, 2260, .inl (upd (upd (fun _ => 0) (1 : Int32).toNatClampNeg 1) (2 : Int32).toNatClampNeg 1)))] H := hP
  have hD := va_ca hP hD
  refine lv_iinc (v := 31) (lv' := [(1, .int 31), (0, .ref (a 200))]) hx hb dX11_keeps_91 hl (k := 0) rfl (by decide) (by decide) rfl (fun ls hl => ?_)
  refine lv_goto (tgt := 56) hx hb dX11_keeps_94 (by decide) ?_
  refine lv_iload_n hx hb dX11_keeps_56 rfl (lv_at hl 0 rfl) ?_
  refine lv_bipush (v := 37) hx hb dX11_keeps_57 (by decide) ?_
  refine lv_icmp_ge (tgt := 97) hx hb dX11_keeps_59 (by decide) (fun q => absurd q (by decide)) (fun _ => ?_)
  refine lv_aload_n hx hb dX11_keeps_62 rfl (lv_at hl 1 rfl) ?_
  refine va_get (ci := 11) (v := .ref (a 201)) (C := RX11) (T := TX11) (N := 39) hx hb htA in_X11 hown hK hP 0 rfl rfl 0 (by decide) (htA _ wd_1354) (fun _ h => h) rfl dX11_keeps_63 ?_
  refine lv_bipush (v := 89) hx hb dX11_keeps_66 (by decide) ?_
  refine lv_bipush (v := 37) hx hb dX11_keeps_68 (by decide) ?_
  refine lv_aload_n hx hb dX11_keeps_70 rfl (lv_at hl 1 rfl) ?_
  refine va_get (ci := 11) (v := .ref (a 201)) (C := RX11) (T := TX11) (N := 39) hx hb htA in_X11 hown hK hP 0 rfl rfl 0 (by decide) (htA _ wd_1354) (fun _ h => h) rfl dX11_keeps_71 ?_
  refine lv_bipush (v := 7) hx hb dX11_keeps_74 (by decide) ?_
  refine va_iald hx hb hK hP 1 0 rfl rfl (in_lit (by decide)) dX11_keeps_76 ?_
  refine lv_topi (fun x188 ex188 => ?_)
  obtain rfl : x188 = 0 := ex188.trans (by first | decide | rfl)
  refine lv_imul hx hb dX11_keeps_77 ?_
  refine lv_topi (fun x189 ex189 => ?_)
  obtain rfl : x189 = 0 := ex189.trans (by decide)
  refine lv_iadd hx hb dX11_keeps_78 ?_
  refine lv_topi (fun x190 ex190 => ?_)
  obtain rfl : x190 = 89 := ex190.trans (by decide)
  refine lv_iload_n hx hb dX11_keeps_79 rfl (lv_at hl 0 rfl) ?_
  refine lv_iadd hx hb dX11_keeps_80 ?_
  refine lv_topi (fun x191 ex191 => ?_)
  obtain rfl : x191 = 120 := ex191.trans (by decide)
  refine lv_aload_n hx hb dX11_keeps_81 rfl (lv_at hl 1 rfl) ?_
  refine va_get (ci := 11) (v := .ref (a 201)) (C := RX11) (T := TX11) (N := 39) hx hb htA in_X11 hown hK hP 0 rfl rfl 0 (by decide) (htA _ wd_1354) (fun _ h => h) rfl dX11_keeps_82 ?_
  refine lv_bipush (v := 8) hx hb dX11_keeps_85 (by decide) ?_
  refine lv_iload_n hx hb dX11_keeps_87 rfl (lv_at hl 0 rfl) ?_
  refine lv_iadd hx hb dX11_keeps_88 ?_
  refine lv_topi (fun x192 ex192 => ?_)
  obtain rfl : x192 = 39 := ex192.trans (by decide)
  refine va_iald hx hb hK hP 1 0 rfl rfl (in_lit (by decide)) dX11_keeps_89 ?_
  refine lv_topi (fun x193 ex193 => ?_)
  obtain rfl : x193 = 0 := ex193.trans (by first | decide | rfl)
  refine va_iast hx hb hK hP hD hS 1 0 rfl rfl (in_lit (by decide)) dX11_keeps_90 (fun H locs hP hD hS => ?_)
  rw [fa_upd_same (f := upd (upd (fun _ => 0) (1 : Int32).toNatClampNeg 1) (2 : Int32).toNatClampNeg 1) (i := (120 : Int32).toNatClampNeg) (x := 0) (by first | decide | rfl)] at hP hD
  have hP : va_P D vwCl [((a 200), .inr (11, [.ref (a 201), .ref (a 202), .ref (a 203), .ref (a 204), .int 0, .ref (a 205), .int 0, .int 0, .int 0, .int 0, .int 0, .int 0, .int 0, .int 0, .int 0, .int (-1), .int 0, .int 0, .int 0, .ref (a 206), .ref (a 207), .int 0, .int 0, .ref (a 208), .int 0, .int 0, .int 0, .int 0, .ref (a 209), .ref (a 210), .ref (a 211), .ref (a 212), .ref (a 213), .ref (a 214), .ref (a 215), .int 0, .ref (a 216), .ref (a 217), .ref (a 218)])), ((a 201), .inl (cy 0, 2260, .inl (upd (upd (fun _ => 0) (1 : Int32).toNatClampNeg 1) (2 : Int32).toNatClampNeg 1)))] H := hP
  have hD := va_ca hP hD
  refine lv_iinc (v := 32) (lv' := [(1, .int 32), (0, .ref (a 200))]) hx hb dX11_keeps_91 hl (k := 0) rfl (by decide) (by decide) rfl (fun ls hl => ?_)
  refine lv_goto (tgt := 56) hx hb dX11_keeps_94 (by decide) ?_
  refine lv_iload_n hx hb dX11_keeps_56 rfl (lv_at hl 0 rfl) ?_
  refine lv_bipush (v := 37) hx hb dX11_keeps_57 (by decide) ?_
  refine lv_icmp_ge (tgt := 97) hx hb dX11_keeps_59 (by decide) (fun q => absurd q (by decide)) (fun _ => ?_)
  refine lv_aload_n hx hb dX11_keeps_62 rfl (lv_at hl 1 rfl) ?_
  refine va_get (ci := 11) (v := .ref (a 201)) (C := RX11) (T := TX11) (N := 39) hx hb htA in_X11 hown hK hP 0 rfl rfl 0 (by decide) (htA _ wd_1354) (fun _ h => h) rfl dX11_keeps_63 ?_
  refine lv_bipush (v := 89) hx hb dX11_keeps_66 (by decide) ?_
  refine lv_bipush (v := 37) hx hb dX11_keeps_68 (by decide) ?_
  refine lv_aload_n hx hb dX11_keeps_70 rfl (lv_at hl 1 rfl) ?_
  refine va_get (ci := 11) (v := .ref (a 201)) (C := RX11) (T := TX11) (N := 39) hx hb htA in_X11 hown hK hP 0 rfl rfl 0 (by decide) (htA _ wd_1354) (fun _ h => h) rfl dX11_keeps_71 ?_
  refine lv_bipush (v := 7) hx hb dX11_keeps_74 (by decide) ?_
  refine va_iald hx hb hK hP 1 0 rfl rfl (in_lit (by decide)) dX11_keeps_76 ?_
  refine lv_topi (fun x194 ex194 => ?_)
  obtain rfl : x194 = 0 := ex194.trans (by first | decide | rfl)
  refine lv_imul hx hb dX11_keeps_77 ?_
  refine lv_topi (fun x195 ex195 => ?_)
  obtain rfl : x195 = 0 := ex195.trans (by decide)
  refine lv_iadd hx hb dX11_keeps_78 ?_
  refine lv_topi (fun x196 ex196 => ?_)
  obtain rfl : x196 = 89 := ex196.trans (by decide)
  refine lv_iload_n hx hb dX11_keeps_79 rfl (lv_at hl 0 rfl) ?_
  refine lv_iadd hx hb dX11_keeps_80 ?_
  refine lv_topi (fun x197 ex197 => ?_)
  obtain rfl : x197 = 121 := ex197.trans (by decide)
  refine lv_aload_n hx hb dX11_keeps_81 rfl (lv_at hl 1 rfl) ?_
  refine va_get (ci := 11) (v := .ref (a 201)) (C := RX11) (T := TX11) (N := 39) hx hb htA in_X11 hown hK hP 0 rfl rfl 0 (by decide) (htA _ wd_1354) (fun _ h => h) rfl dX11_keeps_82 ?_
  refine lv_bipush (v := 8) hx hb dX11_keeps_85 (by decide) ?_
  refine lv_iload_n hx hb dX11_keeps_87 rfl (lv_at hl 0 rfl) ?_
  refine lv_iadd hx hb dX11_keeps_88 ?_
  refine lv_topi (fun x198 ex198 => ?_)
  obtain rfl : x198 = 40 := ex198.trans (by decide)
  refine va_iald hx hb hK hP 1 0 rfl rfl (in_lit (by decide)) dX11_keeps_89 ?_
  refine lv_topi (fun x199 ex199 => ?_)
  obtain rfl : x199 = 0 := ex199.trans (by first | decide | rfl)
  refine va_iast hx hb hK hP hD hS 1 0 rfl rfl (in_lit (by decide)) dX11_keeps_90 (fun H locs hP hD hS => ?_)
  rw [fa_upd_same (f := upd (upd (fun _ => 0) (1 : Int32).toNatClampNeg 1) (2 : Int32).toNatClampNeg 1) (i := (121 : Int32).toNatClampNeg) (x := 0) (by first | decide | rfl)] at hP hD
  have hP : va_P D vwCl [((a 200), .inr (11, [.ref (a 201), .ref (a 202), .ref (a 203), .ref (a 204), .int 0, .ref (a 205), .int 0, .int 0, .int 0, .int 0, .int 0, .int 0, .int 0, .int 0, .int 0, .int (-1), .int 0, .int 0, .int 0, .ref (a 206), .ref (a 207), .int 0, .int 0, .ref (a 208), .int 0, .int 0, .int 0, .int 0, .ref (a 209), .ref (a 210), .ref (a 211), .ref (a 212), .ref (a 213), .ref (a 214), .ref (a 215), .int 0, .ref (a 216), .ref (a 217), .ref (a 218)])), ((a 201), .inl (cy 0, 2260, .inl (upd (upd (fun _ => 0) (1 : Int32).toNatClampNeg 1) (2 : Int32).toNatClampNeg 1)))] H := hP
  have hD := va_ca hP hD
  refine lv_iinc (v := 33) (lv' := [(1, .int 33), (0, .ref (a 200))]) hx hb dX11_keeps_91 hl (k := 0) rfl (by decide) (by decide) rfl (fun ls hl => ?_)
  refine lv_goto (tgt := 56) hx hb dX11_keeps_94 (by decide) ?_
  refine lv_iload_n hx hb dX11_keeps_56 rfl (lv_at hl 0 rfl) ?_
  refine lv_bipush (v := 37) hx hb dX11_keeps_57 (by decide) ?_
  refine lv_icmp_ge (tgt := 97) hx hb dX11_keeps_59 (by decide) (fun q => absurd q (by decide)) (fun _ => ?_)
  refine lv_aload_n hx hb dX11_keeps_62 rfl (lv_at hl 1 rfl) ?_
  refine va_get (ci := 11) (v := .ref (a 201)) (C := RX11) (T := TX11) (N := 39) hx hb htA in_X11 hown hK hP 0 rfl rfl 0 (by decide) (htA _ wd_1354) (fun _ h => h) rfl dX11_keeps_63 ?_
  refine lv_bipush (v := 89) hx hb dX11_keeps_66 (by decide) ?_
  refine lv_bipush (v := 37) hx hb dX11_keeps_68 (by decide) ?_
  refine lv_aload_n hx hb dX11_keeps_70 rfl (lv_at hl 1 rfl) ?_
  refine va_get (ci := 11) (v := .ref (a 201)) (C := RX11) (T := TX11) (N := 39) hx hb htA in_X11 hown hK hP 0 rfl rfl 0 (by decide) (htA _ wd_1354) (fun _ h => h) rfl dX11_keeps_71 ?_
  refine lv_bipush (v := 7) hx hb dX11_keeps_74 (by decide) ?_
  refine va_iald hx hb hK hP 1 0 rfl rfl (in_lit (by decide)) dX11_keeps_76 ?_
  refine lv_topi (fun x200 ex200 => ?_)
  obtain rfl : x200 = 0 := ex200.trans (by first | decide | rfl)
  refine lv_imul hx hb dX11_keeps_77 ?_
  refine lv_topi (fun x201 ex201 => ?_)
  obtain rfl : x201 = 0 := ex201.trans (by decide)
  refine lv_iadd hx hb dX11_keeps_78 ?_
  refine lv_topi (fun x202 ex202 => ?_)
  obtain rfl : x202 = 89 := ex202.trans (by decide)
  refine lv_iload_n hx hb dX11_keeps_79 rfl (lv_at hl 0 rfl) ?_
  refine lv_iadd hx hb dX11_keeps_80 ?_
  refine lv_topi (fun x203 ex203 => ?_)
  obtain rfl : x203 = 122 := ex203.trans (by decide)
  refine lv_aload_n hx hb dX11_keeps_81 rfl (lv_at hl 1 rfl) ?_
  refine va_get (ci := 11) (v := .ref (a 201)) (C := RX11) (T := TX11) (N := 39) hx hb htA in_X11 hown hK hP 0 rfl rfl 0 (by decide) (htA _ wd_1354) (fun _ h => h) rfl dX11_keeps_82 ?_
  refine lv_bipush (v := 8) hx hb dX11_keeps_85 (by decide) ?_
  refine lv_iload_n hx hb dX11_keeps_87 rfl (lv_at hl 0 rfl) ?_
  refine lv_iadd hx hb dX11_keeps_88 ?_
  refine lv_topi (fun x204 ex204 => ?_)
  obtain rfl : x204 = 41 := ex204.trans (by decide)
  refine va_iald hx hb hK hP 1 0 rfl rfl (in_lit (by decide)) dX11_keeps_89 ?_
  refine lv_topi (fun x205 ex205 => ?_)
  obtain rfl : x205 = 0 := ex205.trans (by first | decide | rfl)
  refine va_iast hx hb hK hP hD hS 1 0 rfl rfl (in_lit (by decide)) dX11_keeps_90 (fun H locs hP hD hS => ?_)
  rw [fa_upd_same (f := upd (upd (fun _ => 0) (1 : Int32).toNatClampNeg 1) (2 : Int32).toNatClampNeg 1) (i := (122 : Int32).toNatClampNeg) (x := 0) (by first | decide | rfl)] at hP hD
  have hP : va_P D vwCl [((a 200), .inr (11, [.ref (a 201), .ref (a 202), .ref (a 203), .ref (a 204), .int 0, .ref (a 205), .int 0, .int 0, .int 0, .int 0, .int 0, .int 0, .int 0, .int 0, .int 0, .int (-1), .int 0, .int 0, .int 0, .ref (a 206), .ref (a 207), .int 0, .int 0, .ref (a 208), .int 0, .int 0, .int 0, .int 0, .ref (a 209), .ref (a 210), .ref (a 211), .ref (a 212), .ref (a 213), .ref (a 214), .ref (a 215), .int 0, .ref (a 216), .ref (a 217), .ref (a 218)])), ((a 201), .inl (cy 0, 2260, .inl (upd (upd (fun _ => 0) (1 : Int32).toNatClampNeg 1) (2 : Int32).toNatClampNeg 1)))] H := hP
  have hD := va_ca hP hD
  refine lv_iinc (v := 34) (lv' := [(1, .int 34), (0, .ref (a 200))]) hx hb dX11_keeps_91 hl (k := 0) rfl (by decide) (by decide) rfl (fun ls hl => ?_)
  refine lv_goto (tgt := 56) hx hb dX11_keeps_94 (by decide) ?_
  refine lv_iload_n hx hb dX11_keeps_56 rfl (lv_at hl 0 rfl) ?_
  refine lv_bipush (v := 37) hx hb dX11_keeps_57 (by decide) ?_
  refine lv_icmp_ge (tgt := 97) hx hb dX11_keeps_59 (by decide) (fun q => absurd q (by decide)) (fun _ => ?_)
  refine lv_aload_n hx hb dX11_keeps_62 rfl (lv_at hl 1 rfl) ?_
  refine va_get (ci := 11) (v := .ref (a 201)) (C := RX11) (T := TX11) (N := 39) hx hb htA in_X11 hown hK hP 0 rfl rfl 0 (by decide) (htA _ wd_1354) (fun _ h => h) rfl dX11_keeps_63 ?_
  refine lv_bipush (v := 89) hx hb dX11_keeps_66 (by decide) ?_
  refine lv_bipush (v := 37) hx hb dX11_keeps_68 (by decide) ?_
  refine lv_aload_n hx hb dX11_keeps_70 rfl (lv_at hl 1 rfl) ?_
  refine va_get (ci := 11) (v := .ref (a 201)) (C := RX11) (T := TX11) (N := 39) hx hb htA in_X11 hown hK hP 0 rfl rfl 0 (by decide) (htA _ wd_1354) (fun _ h => h) rfl dX11_keeps_71 ?_
  refine lv_bipush (v := 7) hx hb dX11_keeps_74 (by decide) ?_
  refine va_iald hx hb hK hP 1 0 rfl rfl (in_lit (by decide)) dX11_keeps_76 ?_
  refine lv_topi (fun x206 ex206 => ?_)
  obtain rfl : x206 = 0 := ex206.trans (by first | decide | rfl)
  refine lv_imul hx hb dX11_keeps_77 ?_
  refine lv_topi (fun x207 ex207 => ?_)
  obtain rfl : x207 = 0 := ex207.trans (by decide)
  refine lv_iadd hx hb dX11_keeps_78 ?_
  refine lv_topi (fun x208 ex208 => ?_)
  obtain rfl : x208 = 89 := ex208.trans (by decide)
  refine lv_iload_n hx hb dX11_keeps_79 rfl (lv_at hl 0 rfl) ?_
  refine lv_iadd hx hb dX11_keeps_80 ?_
  refine lv_topi (fun x209 ex209 => ?_)
  obtain rfl : x209 = 123 := ex209.trans (by decide)
  refine lv_aload_n hx hb dX11_keeps_81 rfl (lv_at hl 1 rfl) ?_
  refine va_get (ci := 11) (v := .ref (a 201)) (C := RX11) (T := TX11) (N := 39) hx hb htA in_X11 hown hK hP 0 rfl rfl 0 (by decide) (htA _ wd_1354) (fun _ h => h) rfl dX11_keeps_82 ?_
  refine lv_bipush (v := 8) hx hb dX11_keeps_85 (by decide) ?_
  refine lv_iload_n hx hb dX11_keeps_87 rfl (lv_at hl 0 rfl) ?_
  refine lv_iadd hx hb dX11_keeps_88 ?_
  refine lv_topi (fun x210 ex210 => ?_)
  obtain rfl : x210 = 42 := ex210.trans (by decide)
  refine va_iald hx hb hK hP 1 0 rfl rfl (in_lit (by decide)) dX11_keeps_89 ?_
  refine lv_topi (fun x211 ex211 => ?_)
  obtain rfl : x211 = 0 := ex211.trans (by first | decide | rfl)
  refine va_iast hx hb hK hP hD hS 1 0 rfl rfl (in_lit (by decide)) dX11_keeps_90 (fun H locs hP hD hS => ?_)
  rw [fa_upd_same (f := upd (upd (fun _ => 0) (1 : Int32).toNatClampNeg 1) (2 : Int32).toNatClampNeg 1) (i := (123 : Int32).toNatClampNeg) (x := 0) (by first | decide | rfl)] at hP hD
  have hP : va_P D vwCl [((a 200), .inr (11, [.ref (a 201), .ref (a 202), .ref (a 203), .ref (a 204), .int 0, .ref (a 205), .int 0, .int 0, .int 0, .int 0, .int 0, .int 0, .int 0, .int 0, .int 0, .int (-1), .int 0, .int 0, .int 0, .ref (a 206), .ref (a 207), .int 0, .int 0, .ref (a 208), .int 0, .int 0, .int 0, .int 0, .ref (a 209), .ref (a 210), .ref (a 211), .ref (a 212), .ref (a 213), .ref (a 214), .ref (a 215), .int 0, .ref (a 216), .ref (a 217), .ref (a 218)])), ((a 201), .inl (cy 0, 2260, .inl (upd (upd (fun _ => 0) (1 : Int32).toNatClampNeg 1) (2 : Int32).toNatClampNeg 1)))] H := hP
  have hD := va_ca hP hD
  refine lv_iinc (v := 35) (lv' := [(1, .int 35), (0, .ref (a 200))]) hx hb dX11_keeps_91 hl (k := 0) rfl (by decide) (by decide) rfl (fun ls hl => ?_)
  refine lv_goto (tgt := 56) hx hb dX11_keeps_94 (by decide) ?_
  refine lv_iload_n hx hb dX11_keeps_56 rfl (lv_at hl 0 rfl) ?_
  refine lv_bipush (v := 37) hx hb dX11_keeps_57 (by decide) ?_
  refine lv_icmp_ge (tgt := 97) hx hb dX11_keeps_59 (by decide) (fun q => absurd q (by decide)) (fun _ => ?_)
  refine lv_aload_n hx hb dX11_keeps_62 rfl (lv_at hl 1 rfl) ?_
  refine va_get (ci := 11) (v := .ref (a 201)) (C := RX11) (T := TX11) (N := 39) hx hb htA in_X11 hown hK hP 0 rfl rfl 0 (by decide) (htA _ wd_1354) (fun _ h => h) rfl dX11_keeps_63 ?_
  refine lv_bipush (v := 89) hx hb dX11_keeps_66 (by decide) ?_
  refine lv_bipush (v := 37) hx hb dX11_keeps_68 (by decide) ?_
  refine lv_aload_n hx hb dX11_keeps_70 rfl (lv_at hl 1 rfl) ?_
  refine va_get (ci := 11) (v := .ref (a 201)) (C := RX11) (T := TX11) (N := 39) hx hb htA in_X11 hown hK hP 0 rfl rfl 0 (by decide) (htA _ wd_1354) (fun _ h => h) rfl dX11_keeps_71 ?_
  refine lv_bipush (v := 7) hx hb dX11_keeps_74 (by decide) ?_
  refine va_iald hx hb hK hP 1 0 rfl rfl (in_lit (by decide)) dX11_keeps_76 ?_
  refine lv_topi (fun x212 ex212 => ?_)
  obtain rfl : x212 = 0 := ex212.trans (by first | decide | rfl)
  refine lv_imul hx hb dX11_keeps_77 ?_
  refine lv_topi (fun x213 ex213 => ?_)
  obtain rfl : x213 = 0 := ex213.trans (by decide)
  refine lv_iadd hx hb dX11_keeps_78 ?_
  refine lv_topi (fun x214 ex214 => ?_)
  obtain rfl : x214 = 89 := ex214.trans (by decide)
  refine lv_iload_n hx hb dX11_keeps_79 rfl (lv_at hl 0 rfl) ?_
  refine lv_iadd hx hb dX11_keeps_80 ?_
  refine lv_topi (fun x215 ex215 => ?_)
  obtain rfl : x215 = 124 := ex215.trans (by decide)
  refine lv_aload_n hx hb dX11_keeps_81 rfl (lv_at hl 1 rfl) ?_
  refine va_get (ci := 11) (v := .ref (a 201)) (C := RX11) (T := TX11) (N := 39) hx hb htA in_X11 hown hK hP 0 rfl rfl 0 (by decide) (htA _ wd_1354) (fun _ h => h) rfl dX11_keeps_82 ?_
  refine lv_bipush (v := 8) hx hb dX11_keeps_85 (by decide) ?_
  refine lv_iload_n hx hb dX11_keeps_87 rfl (lv_at hl 0 rfl) ?_
  refine lv_iadd hx hb dX11_keeps_88 ?_
  refine lv_topi (fun x216 ex216 => ?_)
  obtain rfl : x216 = 43 := ex216.trans (by decide)
  refine va_iald hx hb hK hP 1 0 rfl rfl (in_lit (by decide)) dX11_keeps_89 ?_
  refine lv_topi (fun x217 ex217 => ?_)
  obtain rfl : x217 = 0 := ex217.trans (by first | decide | rfl)
  refine va_iast hx hb hK hP hD hS 1 0 rfl rfl (in_lit (by decide)) dX11_keeps_90 (fun H locs hP hD hS => ?_)
  rw [fa_upd_same (f := upd (upd (fun _ => 0) (1 : Int32).toNatClampNeg 1) (2 : Int32).toNatClampNeg 1) (i := (124 : Int32).toNatClampNeg) (x := 0) (by first | decide | rfl)] at hP hD
  have hP : va_P D vwCl [((a 200), .inr (11, [.ref (a 201), .ref (a 202), .ref (a 203), .ref (a 204), .int 0, .ref (a 205), .int 0, .int 0, .int 0, .int 0, .int 0, .int 0, .int 0, .int 0, .int 0, .int (-1), .int 0, .int 0, .int 0, .ref (a 206), .ref (a 207), .int 0, .int 0, .ref (a 208), .int 0, .int 0, .int 0, .int 0, .ref (a 209), .ref (a 210), .ref (a 211), .ref (a 212), .ref (a 213), .ref (a 214), .ref (a 215), .int 0, .ref (a 216), .ref (a 217), .ref (a 218)])), ((a 201), .inl (cy 0, 2260, .inl (upd (upd (fun _ => 0) (1 : Int32).toNatClampNeg 1) (2 : Int32).toNatClampNeg 1)))] H := hP
  have hD := va_ca hP hD
  refine lv_iinc (v := 36) (lv' := [(1, .int 36), (0, .ref (a 200))]) hx hb dX11_keeps_91 hl (k := 0) rfl (by decide) (by decide) rfl (fun ls hl => ?_)
  refine lv_goto (tgt := 56) hx hb dX11_keeps_94 (by decide) ?_
  refine lv_iload_n hx hb dX11_keeps_56 rfl (lv_at hl 0 rfl) ?_
  refine lv_bipush (v := 37) hx hb dX11_keeps_57 (by decide) ?_
  refine lv_icmp_ge (tgt := 97) hx hb dX11_keeps_59 (by decide) (fun q => absurd q (by decide)) (fun _ => ?_)
  refine lv_aload_n hx hb dX11_keeps_62 rfl (lv_at hl 1 rfl) ?_
  refine va_get (ci := 11) (v := .ref (a 201)) (C := RX11) (T := TX11) (N := 39) hx hb htA in_X11 hown hK hP 0 rfl rfl 0 (by decide) (htA _ wd_1354) (fun _ h => h) rfl dX11_keeps_63 ?_
  refine lv_bipush (v := 89) hx hb dX11_keeps_66 (by decide) ?_
  refine lv_bipush (v := 37) hx hb dX11_keeps_68 (by decide) ?_
  refine lv_aload_n hx hb dX11_keeps_70 rfl (lv_at hl 1 rfl) ?_
  refine va_get (ci := 11) (v := .ref (a 201)) (C := RX11) (T := TX11) (N := 39) hx hb htA in_X11 hown hK hP 0 rfl rfl 0 (by decide) (htA _ wd_1354) (fun _ h => h) rfl dX11_keeps_71 ?_
  refine lv_bipush (v := 7) hx hb dX11_keeps_74 (by decide) ?_
  refine va_iald hx hb hK hP 1 0 rfl rfl (in_lit (by decide)) dX11_keeps_76 ?_
  refine lv_topi (fun x218 ex218 => ?_)
  obtain rfl : x218 = 0 := ex218.trans (by first | decide | rfl)
  refine lv_imul hx hb dX11_keeps_77 ?_
  refine lv_topi (fun x219 ex219 => ?_)
  obtain rfl : x219 = 0 := ex219.trans (by decide)
  refine lv_iadd hx hb dX11_keeps_78 ?_
  refine lv_topi (fun x220 ex220 => ?_)
  obtain rfl : x220 = 89 := ex220.trans (by decide)
  refine lv_iload_n hx hb dX11_keeps_79 rfl (lv_at hl 0 rfl) ?_
  refine lv_iadd hx hb dX11_keeps_80 ?_
  refine lv_topi (fun x221 ex221 => ?_)
  obtain rfl : x221 = 125 := ex221.trans (by decide)
  refine lv_aload_n hx hb dX11_keeps_81 rfl (lv_at hl 1 rfl) ?_
  refine va_get (ci := 11) (v := .ref (a 201)) (C := RX11) (T := TX11) (N := 39) hx hb htA in_X11 hown hK hP 0 rfl rfl 0 (by decide) (htA _ wd_1354) (fun _ h => h) rfl dX11_keeps_82 ?_
  refine lv_bipush (v := 8) hx hb dX11_keeps_85 (by decide) ?_
  refine lv_iload_n hx hb dX11_keeps_87 rfl (lv_at hl 0 rfl) ?_
  refine lv_iadd hx hb dX11_keeps_88 ?_
  refine lv_topi (fun x222 ex222 => ?_)
  obtain rfl : x222 = 44 := ex222.trans (by decide)
  refine va_iald hx hb hK hP 1 0 rfl rfl (in_lit (by decide)) dX11_keeps_89 ?_
  refine lv_topi (fun x223 ex223 => ?_)
  obtain rfl : x223 = 0 := ex223.trans (by first | decide | rfl)
  refine va_iast hx hb hK hP hD hS 1 0 rfl rfl (in_lit (by decide)) dX11_keeps_90 (fun H locs hP hD hS => ?_)
  rw [fa_upd_same (f := upd (upd (fun _ => 0) (1 : Int32).toNatClampNeg 1) (2 : Int32).toNatClampNeg 1) (i := (125 : Int32).toNatClampNeg) (x := 0) (by first | decide | rfl)] at hP hD
  have hP : va_P D vwCl [((a 200), .inr (11, [.ref (a 201), .ref (a 202), .ref (a 203), .ref (a 204), .int 0, .ref (a 205), .int 0, .int 0, .int 0, .int 0, .int 0, .int 0, .int 0, .int 0, .int 0, .int (-1), .int 0, .int 0, .int 0, .ref (a 206), .ref (a 207), .int 0, .int 0, .ref (a 208), .int 0, .int 0, .int 0, .int 0, .ref (a 209), .ref (a 210), .ref (a 211), .ref (a 212), .ref (a 213), .ref (a 214), .ref (a 215), .int 0, .ref (a 216), .ref (a 217), .ref (a 218)])), ((a 201), .inl (cy 0, 2260, .inl (upd (upd (fun _ => 0) (1 : Int32).toNatClampNeg 1) (2 : Int32).toNatClampNeg 1)))] H := hP
  have hD := va_ca hP hD
  refine lv_iinc (v := 37) (lv' := [(1, .int 37), (0, .ref (a 200))]) hx hb dX11_keeps_91 hl (k := 0) rfl (by decide) (by decide) rfl (fun ls hl => ?_)
  refine lv_goto (tgt := 56) hx hb dX11_keeps_94 (by decide) ?_
  refine lv_iload_n hx hb dX11_keeps_56 rfl (lv_at hl 0 rfl) ?_
  refine lv_bipush (v := 37) hx hb dX11_keeps_57 (by decide) ?_
  refine lv_icmp_ge (tgt := 97) hx hb dX11_keeps_59 (by decide) (fun _ => ?_) (fun q => absurd (by decide) q)
  refine lv_aload_n hx hb dX11_keeps_97 rfl (lv_at hl 1 rfl) ?_
  refine va_get (ci := 11) (v := .ref (a 201)) (C := RX11) (T := TX11) (N := 39) hx hb htA in_X11 hown hK hP 0 rfl rfl 0 (by decide) (htA _ wd_1354) (fun _ h => h) rfl dX11_keeps_98 ?_
  refine lv_bipush (v := 7) hx hb dX11_keeps_101 (by decide) ?_
  refine lv_dup2_11 hx hb dX11_keeps_103 rfl rfl ?_
  refine va_iald hx hb hK hP 1 0 rfl rfl (in_lit (by decide)) dX11_keeps_104 ?_
  refine lv_topi (fun x224 ex224 => ?_)
  obtain rfl : x224 = 0 := ex224.trans (by first | decide | rfl)
  refine lv_iconst (v := 1) hx hb dX11_keeps_105 (by decide) ?_
  refine lv_iadd hx hb dX11_keeps_106 ?_
  refine lv_topi (fun x225 ex225 => ?_)
  obtain rfl : x225 = 1 := ex225.trans (by decide)
  refine va_iast hx hb hK hP hD hS 1 0 rfl rfl (in_lit (by decide)) dX11_keeps_107 (fun H locs hP hD hS => ?_)
  have hP : va_P D vwCl [((a 200), .inr (11, [.ref (a 201), .ref (a 202), .ref (a 203), .ref (a 204), .int 0, .ref (a 205), .int 0, .int 0, .int 0, .int 0, .int 0, .int 0, .int 0, .int 0, .int 0, .int (-1), .int 0, .int 0, .int 0, .ref (a 206), .ref (a 207), .int 0, .int 0, .ref (a 208), .int 0, .int 0, .int 0, .int 0, .ref (a 209), .ref (a 210), .ref (a 211), .ref (a 212), .ref (a 213), .ref (a 214), .ref (a 215), .int 0, .ref (a 216), .ref (a 217), .ref (a 218)])), ((a 201), .inl (cy 0, 2260, .inl (upd (upd (upd (fun _ => 0) (1 : Int32).toNatClampNeg 1) (2 : Int32).toNatClampNeg 1) (7 : Int32).toNatClampNeg 1)))] H := hP
  have hD := va_ca hP hD
  exact rV hX hE hP hD hS dX11_keeps_108 (by decide) (by decide) (rfl)
set_option maxHeartbeats 4000000 in
set_option maxRecDepth 100000 in
theorem au_X11_things_91 (l : Launch) (D : va_G) (cy : Nat → ClassId) (a : Nat → Nat) : Ci l yX11_things cX11_things 1 (some .int) { frames := 0, cells := 0, slots := 0, locals := 0 } D cy [.ref (a 200)] [((a 200), .inr (11, [.ref (a 201), .ref (a 202), .ref (a 203), .ref (a 204), .int 0, .ref (a 205), .int 0, .int 0, .int 0, .int 0, .int 0, .int 0, .int 0, .int 0, .int 0, .int (-1), .int 0, .int 0, .int 0, .ref (a 206), .ref (a 207), .int 0, .int 0, .ref (a 208), .int 0, .int 0, .int 0, .int 0, .ref (a 209), .ref (a 210), .ref (a 211), .ref (a 212), .ref (a 213), .ref (a 214), .ref (a 215), .int 0, .ref (a 216), .ref (a 217), .ref (a 218)])), ((a 201), .inl (cy 0, 2260, .inl (upd (upd (upd (upd (fun _ => 0) (1 : Int32).toNatClampNeg 1) (2 : Int32).toNatClampNeg 1) (7 : Int32).toNatClampNeg 1) (40 : Int32).toNatClampNeg 1)))] (fun r W1 => (W1 = [((a 200), .inr (11, [.ref (a 201), .ref (a 202), .ref (a 203), .ref (a 204), .int 0, .ref (a 205), .int 0, .int 0, .int 0, .int 0, .int 0, .int 0, .int 0, .int 0, .int 0, .int (-1), .int 0, .int 0, .int 0, .ref (a 206), .ref (a 207), .int 0, .int 0, .ref (a 208), .int 0, .int 0, .int 0, .int 0, .ref (a 209), .ref (a 210), .ref (a 211), .ref (a 212), .ref (a 213), .ref (a 214), .ref (a 215), .int 0, .ref (a 216), .ref (a 217), .ref (a 218)])), ((a 201), .inl (cy 0, 2260, .inl (upd (upd (upd (upd (fun _ => 0) (1 : Int32).toNatClampNeg 1) (2 : Int32).toNatClampNeg 1) (7 : Int32).toNatClampNeg 1) (40 : Int32).toNatClampNeg 1)))] ∧ r = 0)) := by
  refine Ci.of (by decide) (Nat.le_of_ble_eq_true rfl) ?_
  intro p e s m below meth c A ls hX hE hP hD hl
  obtain ⟨hx, hb, hr, hml, hown, htA, hlk⟩ := id hX
  have hK := hE.1
  have hS : va_S A s.heap s.heap [] := va_S.rf
  have hl : lv_has ls 1 [(0, .ref (a 200))] := hl
  refine lv_aload_n hx hb dX11_things_0 rfl (lv_at hl 0 rfl) ?_
  refine va_get (ci := 11) (v := .ref (a 201)) (C := RX11) (T := TX11) (N := 39) hx hb htA in_X11 hown hK hP 0 rfl rfl 0 (by decide) (htA _ wd_1354) (fun _ h => h) rfl dX11_things_1 ?_
  refine lv_iconst (v := 3) hx hb dX11_things_4 (by decide) ?_
  refine va_iald hx hb hK hP 1 0 rfl rfl (in_lit (by decide)) dX11_things_5 ?_
  refine lv_topi (fun x1 ex1 => ?_)
  obtain rfl : x1 = 0 := ex1.trans (by first | decide | rfl)
  exact rI hX hE hP hD hS dX11_things_6 (by decide) (by decide) (⟨rfl, rfl⟩)
set_option maxHeartbeats 4000000 in
set_option maxRecDepth 100000 in
theorem au_X11_drops_92 (l : Launch) (D : va_G) (cy : Nat → ClassId) (a : Nat → Nat) : Cv l yX11_drops cX11_drops 8 none { frames := 0, cells := 0, slots := 0, locals := 0 } D cy [.ref (a 200), .int 0, .int 0] [((a 200), .inr (11, [.ref (a 201), .ref (a 202), .ref (a 203), .ref (a 204), .int 0, .ref (a 205), .int 0, .int 0, .int 0, .int 0, .int 0, .int 0, .int 0, .int 0, .int 0, .int (-1), .int 0, .int 0, .int 0, .ref (a 206), .ref (a 207), .int 0, .int 0, .ref (a 208), .int 0, .int 0, .int 0, .int 0, .ref (a 209), .ref (a 210), .ref (a 211), .ref (a 212), .ref (a 213), .ref (a 214), .ref (a 215), .int 0, .ref (a 216), .ref (a 217), .ref (a 218)]))] (fun W1 => (W1 = [((a 200), .inr (11, [.ref (a 201), .ref (a 202), .ref (a 203), .ref (a 204), .int 0, .ref (a 205), .int 0, .int 0, .int 0, .int 0, .int 0, .int 0, .int 0, .int 0, .int 0, .int (-1), .int 0, .int 0, .int 0, .ref (a 206), .ref (a 207), .int 0, .int 0, .ref (a 208), .int 0, .int 0, .int 0, .int 0, .ref (a 209), .ref (a 210), .ref (a 211), .ref (a 212), .ref (a 213), .ref (a 214), .ref (a 215), .int 0, .ref (a 216), .ref (a 217), .ref (a 218)]))])) := by
  refine Cv.of (by decide) (Nat.le_of_ble_eq_true rfl) ?_
  intro p e s m below meth c A ls hX hE hP hD hl hin
  obtain ⟨hx, hb, hr, hml, hown, htA, hlk⟩ := id hX
  have hK := hE.1
  have hS : va_S A s.heap s.heap [] := va_S.rf
  have hl : lv_has ls 8 [(0, .ref (a 200)), (1, .int 0), (2, .int 0)] := hl
  refine lv_iload_n hx hb dX11_drops_0 rfl (lv_at hl 2 rfl) ?_
  refine lv_if_ne (tgt := 5) hx hb dX11_drops_1 (by decide) (fun q => absurd rfl q) (fun _ => ?_)
  exact rV hX hE hP hD hS dX11_drops_4 (by decide) (by decide) (rfl)
set_option maxHeartbeats 4000000 in
set_option maxRecDepth 100000 in
theorem au_X11_fallAll_93 (l : Launch) (D : va_G) (cy : Nat → ClassId) (a : Nat → Nat) : Cv l yX11_fallAll cX11_fallAll 5 none { frames := 1, cells := 0, slots := 0, locals := 27 } D cy [.ref (a 200), .int 0] [((a 200), .inr (11, [.ref (a 201), .ref (a 202), .ref (a 203), .ref (a 204), .int 0, .ref (a 205), .int 0, .int 0, .int 0, .int 0, .int 0, .int 0, .int 0, .int 0, .int 0, .int (-1), .int 0, .int 0, .int 0, .ref (a 206), .ref (a 207), .int 0, .int 0, .ref (a 208), .int 0, .int 0, .int 0, .int 0, .ref (a 209), .ref (a 210), .ref (a 211), .ref (a 212), .ref (a 213), .ref (a 214), .ref (a 215), .int 0, .ref (a 216), .ref (a 217), .ref (a 218)])), ((a 201), .inl (cy 0, 2260, .inl (upd (upd (upd (upd (fun _ => 0) (1 : Int32).toNatClampNeg 1) (2 : Int32).toNatClampNeg 1) (7 : Int32).toNatClampNeg 1) (40 : Int32).toNatClampNeg 1)))] (fun W1 => (W1 = [((a 201), .inl (cy 0, 2260, .inl (upd (upd (upd (upd (fun _ => 0) (1 : Int32).toNatClampNeg 1) (2 : Int32).toNatClampNeg 1) (7 : Int32).toNatClampNeg 1) (40 : Int32).toNatClampNeg 1))), ((a 200), .inr (11, [.ref (a 201), .ref (a 202), .ref (a 203), .ref (a 204), .int 0, .ref (a 205), .int 0, .int 0, .int 0, .int 0, .int 0, .int 0, .int 0, .int 0, .int 0, .int (-1), .int 0, .int 0, .int 0, .ref (a 206), .ref (a 207), .int 0, .int 0, .ref (a 208), .int 0, .int 0, .int 0, .int 0, .ref (a 209), .ref (a 210), .ref (a 211), .ref (a 212), .ref (a 213), .ref (a 214), .ref (a 215), .int 0, .ref (a 216), .ref (a 217), .ref (a 218)]))])) := by
  refine Cv.of (by decide) (Nat.le_of_ble_eq_true rfl) ?_
  intro p e s m below meth c A ls hX hE hP hD hl hin
  obtain ⟨hx, hb, hr, hml, hown, htA, hlk⟩ := id hX
  have hK := hE.1
  have hS : va_S A s.heap s.heap [] := va_S.rf
  have hl : lv_has ls 5 [(0, .ref (a 200)), (1, .int 0)] := hl
  refine lv_iconst (v := 0) hx hb dX11_fallAll_0 (by decide) ?_
  refine lv_istore_n (lv' := [(2, .int 0), (0, .ref (a 200)), (1, .int 0)]) hx hb dX11_fallAll_1 rfl hl (by decide) rfl (fun ls hl => ?_)
  refine lv_iload_n hx hb dX11_fallAll_2 rfl (lv_at hl 0 rfl) ?_
  refine lv_aload_n hx hb dX11_fallAll_3 rfl (lv_at hl 1 rfl) ?_
  refine va_get (ci := 11) (v := .ref (a 201)) (C := RX11) (T := TX11) (N := 39) hx hb htA in_X11 hown hK hP 0 rfl rfl 0 (by decide) (htA _ wd_1354) (fun _ h => h) rfl dX11_fallAll_4 ?_
  refine lv_iconst (v := 1) hx hb dX11_fallAll_7 (by decide) ?_
  refine va_iald hx hb hK hP 1 0 rfl rfl (in_lit (by decide)) dX11_fallAll_8 ?_
  refine lv_topi (fun x1 ex1 => ?_)
  obtain rfl : x1 = 1 := ex1.trans (by first | decide | rfl)
  refine lv_icmp_ge (tgt := 89) hx hb dX11_fallAll_9 (by decide) (fun q => absurd q (by decide)) (fun _ => ?_)
  refine lv_iconst (v := 0) hx hb dX11_fallAll_12 (by decide) ?_
  refine lv_istore_n (lv' := [(3, .int 0), (2, .int 0), (0, .ref (a 200)), (1, .int 0)]) hx hb dX11_fallAll_13 rfl hl (by decide) rfl (fun ls hl => ?_)
  refine lv_iconst (v := 0) hx hb dX11_fallAll_14 (by decide) ?_
  refine lv_istore (lv' := [(4, .int 0), (3, .int 0), (2, .int 0), (0, .ref (a 200)), (1, .int 0)]) hx hb dX11_fallAll_15 hl (by decide) rfl (fun ls hl => ?_)
  refine lv_iload hx hb dX11_fallAll_17 (lv_at hl 0 rfl) ?_
  refine lv_aload_n hx hb dX11_fallAll_19 rfl (lv_at hl 3 rfl) ?_
  refine kVi (As := []) (rest := [.int 0]) (wr := []) hX hE (au_X11_things_91 l D cy a) (cwVA 0 htA wd_1649 wd_1646 wd_10 wd_1648 wp_71 (by decide +kernel) ⟨by decide, by decide⟩) hP hD hS [0, 1] [] rfl rfl (by decide +kernel) 0 rfl rfl rfl rfl hl.1 rfl (Nat.le_of_ble_eq_true rfl) dX11_fallAll_20 (by decide) (fun r_ W1 H locs hw hP hD hS => ?_)
  refine W.widen (k := 0) (n := 0) (by decide) (by decide) ?_
  obtain ⟨rfl, rfl⟩ := hw
  have hP : va_P D vwCl [((a 200), .inr (11, [.ref (a 201), .ref (a 202), .ref (a 203), .ref (a 204), .int 0, .ref (a 205), .int 0, .int 0, .int 0, .int 0, .int 0, .int 0, .int 0, .int 0, .int 0, .int (-1), .int 0, .int 0, .int 0, .ref (a 206), .ref (a 207), .int 0, .int 0, .ref (a 208), .int 0, .int 0, .int 0, .int 0, .ref (a 209), .ref (a 210), .ref (a 211), .ref (a 212), .ref (a 213), .ref (a 214), .ref (a 215), .int 0, .ref (a 216), .ref (a 217), .ref (a 218)])), ((a 201), .inl (cy 0, 2260, .inl (upd (upd (upd (upd (fun _ => 0) (1 : Int32).toNatClampNeg 1) (2 : Int32).toNatClampNeg 1) (7 : Int32).toNatClampNeg 1) (40 : Int32).toNatClampNeg 1)))] H := hP
  have hD := va_ca hP hD
  refine lv_icmp_ge (tgt := 77) hx hb dX11_fallAll_23 (by decide) (fun _ => ?_) (fun q => absurd (by decide) q)
  refine lv_aload_n hx hb dX11_fallAll_77 rfl (lv_at hl 3 rfl) ?_
  refine lv_iload_n hx hb dX11_fallAll_78 rfl (lv_at hl 2 rfl) ?_
  refine lv_iload_n hx hb dX11_fallAll_79 rfl (lv_at hl 1 rfl) ?_
  refine kVv (As := [.int 0, .int 0]) (rest := []) (wr := [((a 201), .inl (cy 0, 2260, .inl (upd (upd (upd (upd (fun _ => 0) (1 : Int32).toNatClampNeg 1) (2 : Int32).toNatClampNeg 1) (7 : Int32).toNatClampNeg 1) (40 : Int32).toNatClampNeg 1)))]) hX hE (au_X11_drops_92 l D cy a) (cwVA 2 htA wd_1744 wd_1741 wd_10 wd_1743 wp_84 (by decide +kernel) ⟨by decide, by decide⟩) hP hD hS [0] [1] rfl rfl (by decide +kernel) 0 rfl rfl rfl rfl hl.1 rfl (Nat.le_of_ble_eq_true rfl) dX11_fallAll_80 (by decide) (fun W1 H locs hw hP hD hS => ?_)
  refine W.widen (k := 0) (n := 0) (by decide) (by decide) ?_
  obtain rfl := hw
  have hP : va_P D vwCl [((a 201), .inl (cy 0, 2260, .inl (upd (upd (upd (upd (fun _ => 0) (1 : Int32).toNatClampNeg 1) (2 : Int32).toNatClampNeg 1) (7 : Int32).toNatClampNeg 1) (40 : Int32).toNatClampNeg 1))), ((a 200), .inr (11, [.ref (a 201), .ref (a 202), .ref (a 203), .ref (a 204), .int 0, .ref (a 205), .int 0, .int 0, .int 0, .int 0, .int 0, .int 0, .int 0, .int 0, .int 0, .int (-1), .int 0, .int 0, .int 0, .ref (a 206), .ref (a 207), .int 0, .int 0, .ref (a 208), .int 0, .int 0, .int 0, .int 0, .ref (a 209), .ref (a 210), .ref (a 211), .ref (a 212), .ref (a 213), .ref (a 214), .ref (a 215), .int 0, .ref (a 216), .ref (a 217), .ref (a 218)]))] H := hP
  have hD := va_ca hP hD
  refine lv_iinc (v := 1) (lv' := [(2, .int 1), (4, .int 0), (3, .int 0), (0, .ref (a 200)), (1, .int 0)]) hx hb dX11_fallAll_83 hl (k := 2) rfl (by decide) (by decide) rfl (fun ls hl => ?_)
  refine lv_goto (tgt := 2) hx hb dX11_fallAll_86 (by decide) ?_
  refine lv_iload_n hx hb dX11_fallAll_2 rfl (lv_at hl 0 rfl) ?_
  refine lv_aload_n hx hb dX11_fallAll_3 rfl (lv_at hl 3 rfl) ?_
  refine va_get (ci := 11) (v := .ref (a 201)) (C := RX11) (T := TX11) (N := 39) hx hb htA in_X11 hown hK hP 1 rfl rfl 0 (by decide) (htA _ wd_1354) (fun _ h => h) rfl dX11_fallAll_4 ?_
  refine lv_iconst (v := 1) hx hb dX11_fallAll_7 (by decide) ?_
  refine va_iald hx hb hK hP 0 0 rfl rfl (in_lit (by decide)) dX11_fallAll_8 ?_
  refine lv_topi (fun x2 ex2 => ?_)
  obtain rfl : x2 = 1 := ex2.trans (by first | decide | rfl)
  refine lv_icmp_ge (tgt := 89) hx hb dX11_fallAll_9 (by decide) (fun _ => ?_) (fun q => absurd (by decide) q)
  exact rV hX hE hP hD hS dX11_fallAll_89 (by decide) (by decide) (rfl)
set_option maxHeartbeats 4000000 in
set_option maxRecDepth 100000 in
theorem au_X11_goesTo_94 (l : Launch) (D : va_G) (cy : Nat → ClassId) (a : Nat → Nat) : Cv l yX11_goesTo cX11_goesTo 2 none { frames := 2, cells := 0, slots := 0, locals := 51 } D cy [.ref (a 200), .int 1] [((a 200), .inr (11, [.ref (a 201), .ref (a 202), .ref (a 203), .ref (a 204), .int 0, .ref (a 205), .int 0, .int 0, .int 0, .int 0, .int 0, .int 0, .int 0, .int 0, .int 0, .int (-1), .int 0, .int 0, .int 0, .ref (a 206), .ref (a 207), .int 0, .int 0, .ref (a 208), .int 0, .int 0, .int 0, .int 0, .ref (a 209), .ref (a 210), .ref (a 211), .ref (a 212), .ref (a 213), .ref (a 214), .ref (a 215), .int 0, .ref (a 216), .ref (a 217), .ref (a 218)])), ((a 201), .inl (cy 0, 2260, .inl (upd (upd (upd (fun _ => 0) (1 : Int32).toNatClampNeg 1) (2 : Int32).toNatClampNeg 1) (7 : Int32).toNatClampNeg 1)))] (fun W1 => (W1 = [((a 201), .inl (cy 0, 2260, .inl (upd (upd (upd (upd (fun _ => 0) (1 : Int32).toNatClampNeg 1) (2 : Int32).toNatClampNeg 1) (7 : Int32).toNatClampNeg 1) (40 : Int32).toNatClampNeg 1))), ((a 200), .inr (11, [.ref (a 201), .ref (a 202), .ref (a 203), .ref (a 204), .int 0, .ref (a 205), .int 0, .int 0, .int 0, .int 0, .int 0, .int 0, .int 0, .int 0, .int 0, .int (-1), .int 0, .int 0, .int 0, .ref (a 206), .ref (a 207), .int 0, .int 0, .ref (a 208), .int 0, .int 0, .int 0, .int 0, .ref (a 209), .ref (a 210), .ref (a 211), .ref (a 212), .ref (a 213), .ref (a 214), .ref (a 215), .int 0, .ref (a 216), .ref (a 217), .ref (a 218)]))])) := by
  refine Cv.of (by decide) (Nat.le_of_ble_eq_true rfl) ?_
  intro p e s m below meth c A ls hX hE hP hD hl hin
  obtain ⟨hx, hb, hr, hml, hown, htA, hlk⟩ := id hX
  have hK := hE.1
  have hS : va_S A s.heap s.heap [] := va_S.rf
  have hl : lv_has ls 2 [(0, .ref (a 200)), (1, .int 1)] := hl
  refine lv_aload_n hx hb dX11_goesTo_0 rfl (lv_at hl 0 rfl) ?_
  refine va_get (ci := 11) (v := .ref (a 201)) (C := RX11) (T := TX11) (N := 39) hx hb htA in_X11 hown hK hP 0 rfl rfl 0 (by decide) (htA _ wd_1354) (fun _ h => h) rfl dX11_goesTo_1 ?_
  refine lv_bipush (v := 40) hx hb dX11_goesTo_4 (by decide) ?_
  refine lv_iload_n hx hb dX11_goesTo_6 rfl (lv_at hl 1 rfl) ?_
  refine va_iast hx hb hK hP hD hS 1 0 rfl rfl (in_lit (by decide)) dX11_goesTo_7 (fun H locs hP hD hS => ?_)
  have hP : va_P D vwCl [((a 200), .inr (11, [.ref (a 201), .ref (a 202), .ref (a 203), .ref (a 204), .int 0, .ref (a 205), .int 0, .int 0, .int 0, .int 0, .int 0, .int 0, .int 0, .int 0, .int 0, .int (-1), .int 0, .int 0, .int 0, .ref (a 206), .ref (a 207), .int 0, .int 0, .ref (a 208), .int 0, .int 0, .int 0, .int 0, .ref (a 209), .ref (a 210), .ref (a 211), .ref (a 212), .ref (a 213), .ref (a 214), .ref (a 215), .int 0, .ref (a 216), .ref (a 217), .ref (a 218)])), ((a 201), .inl (cy 0, 2260, .inl (upd (upd (upd (upd (fun _ => 0) (1 : Int32).toNatClampNeg 1) (2 : Int32).toNatClampNeg 1) (7 : Int32).toNatClampNeg 1) (40 : Int32).toNatClampNeg 1)))] H := hP
  have hD := va_ca hP hD
  refine lv_aload_n hx hb dX11_goesTo_8 rfl (lv_at hl 0 rfl) ?_
  refine lv_iconst (v := 0) hx hb dX11_goesTo_9 (by decide) ?_
  refine va_put (ci := 11) (v := .int 0) (ty := .int) (C := RX11) (T := TX11) (N := 39) hx hb htA in_X11 tyX11 tyX11_ok nmX11 hown hK hP hD hS 0 rfl rfl 21 (by decide) (htA _ wd_1375) (fun _ h => h) rfl (by decide +kernel) rfl rfl (Nat.le_of_ble_eq_true rfl) dX11_goesTo_10 (fun H locs hP hD hS => ?_)
  have hP : va_P D vwCl [((a 200), .inr (11, [.ref (a 201), .ref (a 202), .ref (a 203), .ref (a 204), .int 0, .ref (a 205), .int 0, .int 0, .int 0, .int 0, .int 0, .int 0, .int 0, .int 0, .int 0, .int (-1), .int 0, .int 0, .int 0, .ref (a 206), .ref (a 207), .int 0, .int 0, .ref (a 208), .int 0, .int 0, .int 0, .int 0, .ref (a 209), .ref (a 210), .ref (a 211), .ref (a 212), .ref (a 213), .ref (a 214), .ref (a 215), .int 0, .ref (a 216), .ref (a 217), .ref (a 218)])), ((a 201), .inl (cy 0, 2260, .inl (upd (upd (upd (upd (fun _ => 0) (1 : Int32).toNatClampNeg 1) (2 : Int32).toNatClampNeg 1) (7 : Int32).toNatClampNeg 1) (40 : Int32).toNatClampNeg 1)))] H := hP
  have hD := va_ca hP hD
  refine lv_aload_n hx hb dX11_goesTo_13 rfl (lv_at hl 0 rfl) ?_
  refine lv_iconst (v := 0) hx hb dX11_goesTo_14 (by decide) ?_
  refine va_put (ci := 11) (v := .int 0) (ty := .int) (C := RX11) (T := TX11) (N := 39) hx hb htA in_X11 tyX11 tyX11_ok nmX11 hown hK hP hD hS 0 rfl rfl 22 (by decide) (htA _ wd_1376) (fun _ h => h) rfl (by decide +kernel) rfl rfl (Nat.le_of_ble_eq_true rfl) dX11_goesTo_15 (fun H locs hP hD hS => ?_)
  have hP : va_P D vwCl [((a 200), .inr (11, [.ref (a 201), .ref (a 202), .ref (a 203), .ref (a 204), .int 0, .ref (a 205), .int 0, .int 0, .int 0, .int 0, .int 0, .int 0, .int 0, .int 0, .int 0, .int (-1), .int 0, .int 0, .int 0, .ref (a 206), .ref (a 207), .int 0, .int 0, .ref (a 208), .int 0, .int 0, .int 0, .int 0, .ref (a 209), .ref (a 210), .ref (a 211), .ref (a 212), .ref (a 213), .ref (a 214), .ref (a 215), .int 0, .ref (a 216), .ref (a 217), .ref (a 218)])), ((a 201), .inl (cy 0, 2260, .inl (upd (upd (upd (upd (fun _ => 0) (1 : Int32).toNatClampNeg 1) (2 : Int32).toNatClampNeg 1) (7 : Int32).toNatClampNeg 1) (40 : Int32).toNatClampNeg 1)))] H := hP
  have hD := va_ca hP hD
  refine lv_aload_n hx hb dX11_goesTo_18 rfl (lv_at hl 0 rfl) ?_
  refine lv_iconst (v := 0) hx hb dX11_goesTo_19 (by decide) ?_
  refine kVv (As := [.int 0]) (rest := []) (wr := []) hX hE (au_X11_fallAll_93 l D cy a) (cwVA 1 htA wd_1790 wd_1787 wd_10 wd_1789 wp_92 (by decide +kernel) ⟨by decide, by decide⟩) hP hD hS [0, 1] [] rfl rfl (by decide +kernel) 0 rfl rfl rfl rfl hl.1 rfl (Nat.le_of_ble_eq_true rfl) dX11_goesTo_20 (by decide) (fun W1 H locs hw hP hD hS => ?_)
  refine W.widen (k := 0) (n := 0) (by decide) (by decide) ?_
  obtain rfl := hw
  have hP : va_P D vwCl [((a 201), .inl (cy 0, 2260, .inl (upd (upd (upd (upd (fun _ => 0) (1 : Int32).toNatClampNeg 1) (2 : Int32).toNatClampNeg 1) (7 : Int32).toNatClampNeg 1) (40 : Int32).toNatClampNeg 1))), ((a 200), .inr (11, [.ref (a 201), .ref (a 202), .ref (a 203), .ref (a 204), .int 0, .ref (a 205), .int 0, .int 0, .int 0, .int 0, .int 0, .int 0, .int 0, .int 0, .int 0, .int (-1), .int 0, .int 0, .int 0, .ref (a 206), .ref (a 207), .int 0, .int 0, .ref (a 208), .int 0, .int 0, .int 0, .int 0, .ref (a 209), .ref (a 210), .ref (a 211), .ref (a 212), .ref (a 213), .ref (a 214), .ref (a 215), .int 0, .ref (a 216), .ref (a 217), .ref (a 218)]))] H := hP
  have hD := va_ca hP hD
  exact rV hX hE hP hD hS dX11_goesTo_23 (by decide) (by decide) (rfl)
set_option maxHeartbeats 4000000 in
set_option maxRecDepth 100000 in
theorem au_X11_hour_95 (l : Launch) (D : va_G) (cy : Nat → ClassId) (a : Nat → Nat) : Cv l yX11_hour cX11_hour 1 none { frames := 3, cells := 0, slots := 0, locals := 72 } D cy [.ref (a 200)] [((a 200), .inr (11, [.ref (a 201), .ref (a 202), .ref (a 203), .ref (a 204), .int 0, .ref (a 205), .int 0, .int 0, .int 0, .int 0, .int 0, .int 0, .int 0, .int 0, .int 0, .int (-1), .int 0, .int 0, .int 0, .ref (a 206), .ref (a 207), .int 0, .int 0, .ref (a 208), .int 0, .int 0, .int 0, .int 0, .ref (a 209), .ref (a 210), .ref (a 211), .ref (a 212), .ref (a 213), .ref (a 214), .ref (a 215), .int 0, .ref (a 216), .ref (a 217), .ref (a 218)])), ((a 201), .inl (cy 0, 2260, .inl (upd (upd (upd (fun _ => 0) (1 : Int32).toNatClampNeg 1) (2 : Int32).toNatClampNeg 1) (7 : Int32).toNatClampNeg 1)))] (fun W1 => (W1 = [((a 201), .inl (cy 0, 2260, .inl (upd (upd (upd (upd (fun _ => 0) (1 : Int32).toNatClampNeg 1) (2 : Int32).toNatClampNeg 1) (7 : Int32).toNatClampNeg 1) (40 : Int32).toNatClampNeg 1))), ((a 200), .inr (11, [.ref (a 201), .ref (a 202), .ref (a 203), .ref (a 204), .int 0, .ref (a 205), .int 0, .int 0, .int 0, .int 0, .int 0, .int 0, .int 0, .int 0, .int 0, .int (-1), .int 0, .int 0, .int 0, .ref (a 206), .ref (a 207), .int 0, .int 0, .ref (a 208), .int 0, .int 0, .int 0, .int 0, .ref (a 209), .ref (a 210), .ref (a 211), .ref (a 212), .ref (a 213), .ref (a 214), .ref (a 215), .int 0, .ref (a 216), .ref (a 217), .ref (a 218)]))])) := by
  refine Cv.of (by decide) (Nat.le_of_ble_eq_true rfl) ?_
  intro p e s m below meth c A ls hX hE hP hD hl hin
  obtain ⟨hx, hb, hr, hml, hown, htA, hlk⟩ := id hX
  have hK := hE.1
  have hS : va_S A s.heap s.heap [] := va_S.rf
  have hl : lv_has ls 1 [(0, .ref (a 200))] := hl
  refine lv_aload_n hx hb dX11_hour_0 rfl (lv_at hl 0 rfl) ?_
  refine lv_aload_n hx hb dX11_hour_1 rfl (lv_at hl 0 rfl) ?_
  refine va_get (ci := 11) (v := .ref (a 201)) (C := RX11) (T := TX11) (N := 39) hx hb htA in_X11 hown hK hP 0 rfl rfl 0 (by decide) (htA _ wd_1354) (fun _ h => h) rfl dX11_hour_2 ?_
  refine lv_bipush (v := 40) hx hb dX11_hour_5 (by decide) ?_
  refine va_iald hx hb hK hP 1 0 rfl rfl (in_lit (by decide)) dX11_hour_7 ?_
  refine lv_topi (fun x1 ex1 => ?_)
  obtain rfl : x1 = 0 := ex1.trans (by first | decide | rfl)
  refine lv_iconst (v := 1) hx hb dX11_hour_8 (by decide) ?_
  refine lv_iadd hx hb dX11_hour_9 ?_
  refine lv_topi (fun x2 ex2 => ?_)
  obtain rfl : x2 = 1 := ex2.trans (by decide)
  refine kVv (As := [.int 1]) (rest := []) (wr := []) hX hE (au_X11_goesTo_94 l D cy a) (cwVA 1 htA wd_1803 wd_1800 wd_10 wd_1802 wp_94 (by decide +kernel) ⟨by decide, by decide⟩) hP hD hS [0, 1] [] rfl rfl (by decide +kernel) 0 rfl rfl rfl rfl hl.1 rfl (Nat.le_of_ble_eq_true rfl) dX11_hour_10 (by decide) (fun W1 H locs hw hP hD hS => ?_)
  refine W.widen (k := 0) (n := 0) (by decide) (by decide) ?_
  obtain rfl := hw
  have hP : va_P D vwCl [((a 201), .inl (cy 0, 2260, .inl (upd (upd (upd (upd (fun _ => 0) (1 : Int32).toNatClampNeg 1) (2 : Int32).toNatClampNeg 1) (7 : Int32).toNatClampNeg 1) (40 : Int32).toNatClampNeg 1))), ((a 200), .inr (11, [.ref (a 201), .ref (a 202), .ref (a 203), .ref (a 204), .int 0, .ref (a 205), .int 0, .int 0, .int 0, .int 0, .int 0, .int 0, .int 0, .int 0, .int 0, .int (-1), .int 0, .int 0, .int 0, .ref (a 206), .ref (a 207), .int 0, .int 0, .ref (a 208), .int 0, .int 0, .int 0, .int 0, .ref (a 209), .ref (a 210), .ref (a 211), .ref (a 212), .ref (a 213), .ref (a 214), .ref (a 215), .int 0, .ref (a 216), .ref (a 217), .ref (a 218)]))] H := hP
  have hD := va_ca hP hD
  exact rV hX hE hP hD hS dX11_hour_13 (by decide) (by decide) (rfl)
set_option maxHeartbeats 4000000 in
set_option maxRecDepth 100000 in
theorem au_X11_size_96 (l : Launch) (D : va_G) (cy : Nat → ClassId) (a : Nat → Nat) : Ci l yX11_size cX11_size 3 (some .int) { frames := 0, cells := 0, slots := 0, locals := 0 } D cy [.int 0] [] (fun r W1 => (W1 = [] ∧ r = 0)) := by
  refine Ci.of (by decide) (Nat.le_of_ble_eq_true rfl) ?_
  intro p e s m below meth c A ls hX hE hP hD hl
  obtain ⟨hx, hb, hr, hml, hown, htA, hlk⟩ := id hX
  have hK := hE.1
  have hS : va_S A s.heap s.heap [] := va_S.rf
  have hl : lv_has ls 3 [(0, .int 0)] := hl
  refine lv_iconst (v := 0) hx hb dX11_size_0 (by decide) ?_
  refine lv_istore_n (lv' := [(1, .int 0), (0, .int 0)]) hx hb dX11_size_1 rfl hl (by decide) rfl (fun ls hl => ?_)
  refine lv_iload_n hx hb dX11_size_2 rfl (lv_at hl 1 rfl) ?_
  refine lv_istore_n (lv' := [(2, .int 0), (1, .int 0), (0, .int 0)]) hx hb dX11_size_3 rfl hl (by decide) rfl (fun ls hl => ?_)
  refine lv_iload_n hx hb dX11_size_4 rfl (lv_at hl 0 rfl) ?_
  refine lv_if_eq (tgt := 20) hx hb dX11_size_5 (by decide) (fun _ => ?_) (fun q => absurd (by decide) q)
  refine lv_iload_n hx hb dX11_size_20 rfl (lv_at hl 1 rfl) ?_
  exact rI hX hE hP hD hS dX11_size_21 (by decide) (by decide) (⟨rfl, rfl⟩)
set_option maxHeartbeats 4000000 in
set_option maxRecDepth 100000 in
theorem au_X11_things_97 (l : Launch) (D : va_G) (cy : Nat → ClassId) (a : Nat → Nat) (v1_ : Int32) : Ci l yX11_things cX11_things 1 (some .int) { frames := 0, cells := 0, slots := 0, locals := 0 } D cy [.ref (a 200)] [((a 201), .inl (cy 0, 2260, .inl (upd (upd (upd (upd (fun _ => 0) (1 : Int32).toNatClampNeg 1) (2 : Int32).toNatClampNeg 1) (7 : Int32).toNatClampNeg 1) (40 : Int32).toNatClampNeg v1_))), ((a 200), .inr (11, [.ref (a 201), .ref (a 202), .ref (a 203), .ref (a 204), .int 0, .ref (a 205), .int 0, .int 0, .int 0, .int 0, .int 0, .int 0, .int 0, .int 0, .int 0, .int (-1), .int 0, .int 0, .int 0, .ref (a 206), .ref (a 207), .int 0, .int 0, .ref (a 208), .int 0, .int 0, .int 0, .int 0, .ref (a 209), .ref (a 210), .ref (a 211), .ref (a 212), .ref (a 213), .ref (a 214), .ref (a 215), .int 0, .ref (a 216), .ref (a 217), .ref (a 218)]))] (fun r W1 => (W1 = [((a 201), .inl (cy 0, 2260, .inl (upd (upd (upd (upd (fun _ => 0) (1 : Int32).toNatClampNeg 1) (2 : Int32).toNatClampNeg 1) (7 : Int32).toNatClampNeg 1) (40 : Int32).toNatClampNeg v1_))), ((a 200), .inr (11, [.ref (a 201), .ref (a 202), .ref (a 203), .ref (a 204), .int 0, .ref (a 205), .int 0, .int 0, .int 0, .int 0, .int 0, .int 0, .int 0, .int 0, .int 0, .int (-1), .int 0, .int 0, .int 0, .ref (a 206), .ref (a 207), .int 0, .int 0, .ref (a 208), .int 0, .int 0, .int 0, .int 0, .ref (a 209), .ref (a 210), .ref (a 211), .ref (a 212), .ref (a 213), .ref (a 214), .ref (a 215), .int 0, .ref (a 216), .ref (a 217), .ref (a 218)]))] ∧ r = 0)) := by
  refine Ci.of (by decide) (Nat.le_of_ble_eq_true rfl) ?_
  intro p e s m below meth c A ls hX hE hP hD hl
  obtain ⟨hx, hb, hr, hml, hown, htA, hlk⟩ := id hX
  have hK := hE.1
  have hS : va_S A s.heap s.heap [] := va_S.rf
  have hl : lv_has ls 1 [(0, .ref (a 200))] := hl
  refine lv_aload_n hx hb dX11_things_0 rfl (lv_at hl 0 rfl) ?_
  refine va_get (ci := 11) (v := .ref (a 201)) (C := RX11) (T := TX11) (N := 39) hx hb htA in_X11 hown hK hP 1 rfl rfl 0 (by decide) (htA _ wd_1354) (fun _ h => h) rfl dX11_things_1 ?_
  refine lv_iconst (v := 3) hx hb dX11_things_4 (by decide) ?_
  refine va_iald hx hb hK hP 0 0 rfl rfl (in_lit (by decide)) dX11_things_5 ?_
  refine lv_topi (fun x1 ex1 => ?_)
  obtain rfl : x1 = 0 := ex1.trans (by first | decide | rfl)
  exact rI hX hE hP hD hS dX11_things_6 (by decide) (by decide) (⟨rfl, rfl⟩)
set_option maxHeartbeats 4000000 in
set_option maxRecDepth 100000 in
theorem au_X11_fallAll_98 (l : Launch) (D : va_G) (cy : Nat → ClassId) (a : Nat → Nat) (v1_ : Int32) : Cv l yX11_fallAll cX11_fallAll 5 none { frames := 1, cells := 0, slots := 0, locals := 27 } D cy [.ref (a 200), .int 0] [((a 201), .inl (cy 0, 2260, .inl (upd (upd (upd (upd (fun _ => 0) (1 : Int32).toNatClampNeg 1) (2 : Int32).toNatClampNeg 1) (7 : Int32).toNatClampNeg 1) (40 : Int32).toNatClampNeg v1_))), ((a 200), .inr (11, [.ref (a 201), .ref (a 202), .ref (a 203), .ref (a 204), .int 0, .ref (a 205), .int 0, .int 0, .int 0, .int 0, .int 0, .int 0, .int 0, .int 0, .int 0, .int (-1), .int 0, .int 0, .int 0, .ref (a 206), .ref (a 207), .int 0, .int 0, .ref (a 208), .int 0, .int 0, .int 0, .int 0, .ref (a 209), .ref (a 210), .ref (a 211), .ref (a 212), .ref (a 213), .ref (a 214), .ref (a 215), .int 0, .ref (a 216), .ref (a 217), .ref (a 218)]))] (fun W1 => (W1 = [((a 201), .inl (cy 0, 2260, .inl (upd (upd (upd (upd (fun _ => 0) (1 : Int32).toNatClampNeg 1) (2 : Int32).toNatClampNeg 1) (7 : Int32).toNatClampNeg 1) (40 : Int32).toNatClampNeg v1_))), ((a 200), .inr (11, [.ref (a 201), .ref (a 202), .ref (a 203), .ref (a 204), .int 0, .ref (a 205), .int 0, .int 0, .int 0, .int 0, .int 0, .int 0, .int 0, .int 0, .int 0, .int (-1), .int 0, .int 0, .int 0, .ref (a 206), .ref (a 207), .int 0, .int 0, .ref (a 208), .int 0, .int 0, .int 0, .int 0, .ref (a 209), .ref (a 210), .ref (a 211), .ref (a 212), .ref (a 213), .ref (a 214), .ref (a 215), .int 0, .ref (a 216), .ref (a 217), .ref (a 218)]))])) := by
  refine Cv.of (by decide) (Nat.le_of_ble_eq_true rfl) ?_
  intro p e s m below meth c A ls hX hE hP hD hl hin
  obtain ⟨hx, hb, hr, hml, hown, htA, hlk⟩ := id hX
  have hK := hE.1
  have hS : va_S A s.heap s.heap [] := va_S.rf
  have hl : lv_has ls 5 [(0, .ref (a 200)), (1, .int 0)] := hl
  refine lv_iconst (v := 0) hx hb dX11_fallAll_0 (by decide) ?_
  refine lv_istore_n (lv' := [(2, .int 0), (0, .ref (a 200)), (1, .int 0)]) hx hb dX11_fallAll_1 rfl hl (by decide) rfl (fun ls hl => ?_)
  refine lv_iload_n hx hb dX11_fallAll_2 rfl (lv_at hl 0 rfl) ?_
  refine lv_aload_n hx hb dX11_fallAll_3 rfl (lv_at hl 1 rfl) ?_
  refine va_get (ci := 11) (v := .ref (a 201)) (C := RX11) (T := TX11) (N := 39) hx hb htA in_X11 hown hK hP 1 rfl rfl 0 (by decide) (htA _ wd_1354) (fun _ h => h) rfl dX11_fallAll_4 ?_
  refine lv_iconst (v := 1) hx hb dX11_fallAll_7 (by decide) ?_
  refine va_iald hx hb hK hP 0 0 rfl rfl (in_lit (by decide)) dX11_fallAll_8 ?_
  refine lv_topi (fun x1 ex1 => ?_)
  obtain rfl : x1 = 1 := ex1.trans (by first | decide | rfl)
  refine lv_icmp_ge (tgt := 89) hx hb dX11_fallAll_9 (by decide) (fun q => absurd q (by decide)) (fun _ => ?_)
  refine lv_iconst (v := 0) hx hb dX11_fallAll_12 (by decide) ?_
  refine lv_istore_n (lv' := [(3, .int 0), (2, .int 0), (0, .ref (a 200)), (1, .int 0)]) hx hb dX11_fallAll_13 rfl hl (by decide) rfl (fun ls hl => ?_)
  refine lv_iconst (v := 0) hx hb dX11_fallAll_14 (by decide) ?_
  refine lv_istore (lv' := [(4, .int 0), (3, .int 0), (2, .int 0), (0, .ref (a 200)), (1, .int 0)]) hx hb dX11_fallAll_15 hl (by decide) rfl (fun ls hl => ?_)
  refine lv_iload hx hb dX11_fallAll_17 (lv_at hl 0 rfl) ?_
  refine lv_aload_n hx hb dX11_fallAll_19 rfl (lv_at hl 3 rfl) ?_
  refine kVi (As := []) (rest := [.int 0]) (wr := []) hX hE (au_X11_things_97 l D cy a v1_) (cwVA 0 htA wd_1649 wd_1646 wd_10 wd_1648 wp_71 (by decide +kernel) ⟨by decide, by decide⟩) hP hD hS [0, 1] [] rfl rfl (by decide +kernel) 1 rfl rfl rfl rfl hl.1 rfl (Nat.le_of_ble_eq_true rfl) dX11_fallAll_20 (by decide) (fun r_ W1 H locs hw hP hD hS => ?_)
  refine W.widen (k := 0) (n := 0) (by decide) (by decide) ?_
  obtain ⟨rfl, rfl⟩ := hw
  have hP : va_P D vwCl [((a 201), .inl (cy 0, 2260, .inl (upd (upd (upd (upd (fun _ => 0) (1 : Int32).toNatClampNeg 1) (2 : Int32).toNatClampNeg 1) (7 : Int32).toNatClampNeg 1) (40 : Int32).toNatClampNeg v1_))), ((a 200), .inr (11, [.ref (a 201), .ref (a 202), .ref (a 203), .ref (a 204), .int 0, .ref (a 205), .int 0, .int 0, .int 0, .int 0, .int 0, .int 0, .int 0, .int 0, .int 0, .int (-1), .int 0, .int 0, .int 0, .ref (a 206), .ref (a 207), .int 0, .int 0, .ref (a 208), .int 0, .int 0, .int 0, .int 0, .ref (a 209), .ref (a 210), .ref (a 211), .ref (a 212), .ref (a 213), .ref (a 214), .ref (a 215), .int 0, .ref (a 216), .ref (a 217), .ref (a 218)]))] H := hP
  have hD := va_ca hP hD
  refine lv_icmp_ge (tgt := 77) hx hb dX11_fallAll_23 (by decide) (fun _ => ?_) (fun q => absurd (by decide) q)
  refine lv_aload_n hx hb dX11_fallAll_77 rfl (lv_at hl 3 rfl) ?_
  refine lv_iload_n hx hb dX11_fallAll_78 rfl (lv_at hl 2 rfl) ?_
  refine lv_iload_n hx hb dX11_fallAll_79 rfl (lv_at hl 1 rfl) ?_
  refine kVv (As := [.int 0, .int 0]) (rest := []) (wr := [((a 201), .inl (cy 0, 2260, .inl (upd (upd (upd (upd (fun _ => 0) (1 : Int32).toNatClampNeg 1) (2 : Int32).toNatClampNeg 1) (7 : Int32).toNatClampNeg 1) (40 : Int32).toNatClampNeg v1_)))]) hX hE (au_X11_drops_92 l D cy a) (cwVA 2 htA wd_1744 wd_1741 wd_10 wd_1743 wp_84 (by decide +kernel) ⟨by decide, by decide⟩) hP hD hS [1] [0] rfl rfl (by decide +kernel) 0 rfl rfl rfl rfl hl.1 rfl (Nat.le_of_ble_eq_true rfl) dX11_fallAll_80 (by decide) (fun W1 H locs hw hP hD hS => ?_)
  refine W.widen (k := 0) (n := 0) (by decide) (by decide) ?_
  obtain rfl := hw
  have hP : va_P D vwCl [((a 201), .inl (cy 0, 2260, .inl (upd (upd (upd (upd (fun _ => 0) (1 : Int32).toNatClampNeg 1) (2 : Int32).toNatClampNeg 1) (7 : Int32).toNatClampNeg 1) (40 : Int32).toNatClampNeg v1_))), ((a 200), .inr (11, [.ref (a 201), .ref (a 202), .ref (a 203), .ref (a 204), .int 0, .ref (a 205), .int 0, .int 0, .int 0, .int 0, .int 0, .int 0, .int 0, .int 0, .int 0, .int (-1), .int 0, .int 0, .int 0, .ref (a 206), .ref (a 207), .int 0, .int 0, .ref (a 208), .int 0, .int 0, .int 0, .int 0, .ref (a 209), .ref (a 210), .ref (a 211), .ref (a 212), .ref (a 213), .ref (a 214), .ref (a 215), .int 0, .ref (a 216), .ref (a 217), .ref (a 218)]))] H := hP
  have hD := va_ca hP hD
  refine lv_iinc (v := 1) (lv' := [(2, .int 1), (4, .int 0), (3, .int 0), (0, .ref (a 200)), (1, .int 0)]) hx hb dX11_fallAll_83 hl (k := 2) rfl (by decide) (by decide) rfl (fun ls hl => ?_)
  refine lv_goto (tgt := 2) hx hb dX11_fallAll_86 (by decide) ?_
  refine lv_iload_n hx hb dX11_fallAll_2 rfl (lv_at hl 0 rfl) ?_
  refine lv_aload_n hx hb dX11_fallAll_3 rfl (lv_at hl 3 rfl) ?_
  refine va_get (ci := 11) (v := .ref (a 201)) (C := RX11) (T := TX11) (N := 39) hx hb htA in_X11 hown hK hP 1 rfl rfl 0 (by decide) (htA _ wd_1354) (fun _ h => h) rfl dX11_fallAll_4 ?_
  refine lv_iconst (v := 1) hx hb dX11_fallAll_7 (by decide) ?_
  refine va_iald hx hb hK hP 0 0 rfl rfl (in_lit (by decide)) dX11_fallAll_8 ?_
  refine lv_topi (fun x2 ex2 => ?_)
  obtain rfl : x2 = 1 := ex2.trans (by first | decide | rfl)
  refine lv_icmp_ge (tgt := 89) hx hb dX11_fallAll_9 (by decide) (fun _ => ?_) (fun q => absurd (by decide) q)
  exact rV hX hE hP hD hS dX11_fallAll_89 (by decide) (by decide) (rfl)
set_option maxHeartbeats 4000000 in
set_option maxRecDepth 100000 in
theorem au_X11_goesTo_99 (l : Launch) (D : va_G) (cy : Nat → ClassId) (a : Nat → Nat) (v1_ : Int32) (v2_ : Int32) : Cv l yX11_goesTo cX11_goesTo 2 none { frames := 2, cells := 0, slots := 0, locals := 51 } D cy [.ref (a 200), .int v1_] [((a 201), .inl (cy 0, 2260, .inl (upd (upd (upd (upd (fun _ => 0) (1 : Int32).toNatClampNeg 1) (2 : Int32).toNatClampNeg 1) (7 : Int32).toNatClampNeg 1) (40 : Int32).toNatClampNeg v2_))), ((a 200), .inr (11, [.ref (a 201), .ref (a 202), .ref (a 203), .ref (a 204), .int 0, .ref (a 205), .int 0, .int 0, .int 0, .int 0, .int 0, .int 0, .int 0, .int 0, .int 0, .int (-1), .int 0, .int 0, .int 0, .ref (a 206), .ref (a 207), .int 0, .int 0, .ref (a 208), .int 0, .int 0, .int 0, .int 0, .ref (a 209), .ref (a 210), .ref (a 211), .ref (a 212), .ref (a 213), .ref (a 214), .ref (a 215), .int 0, .ref (a 216), .ref (a 217), .ref (a 218)]))] (fun W1 => (W1 = [((a 201), .inl (cy 0, 2260, .inl (upd (upd (upd (upd (fun _ => 0) (1 : Int32).toNatClampNeg 1) (2 : Int32).toNatClampNeg 1) (7 : Int32).toNatClampNeg 1) (40 : Int32).toNatClampNeg v1_))), ((a 200), .inr (11, [.ref (a 201), .ref (a 202), .ref (a 203), .ref (a 204), .int 0, .ref (a 205), .int 0, .int 0, .int 0, .int 0, .int 0, .int 0, .int 0, .int 0, .int 0, .int (-1), .int 0, .int 0, .int 0, .ref (a 206), .ref (a 207), .int 0, .int 0, .ref (a 208), .int 0, .int 0, .int 0, .int 0, .ref (a 209), .ref (a 210), .ref (a 211), .ref (a 212), .ref (a 213), .ref (a 214), .ref (a 215), .int 0, .ref (a 216), .ref (a 217), .ref (a 218)]))])) := by
  refine Cv.of (by decide) (Nat.le_of_ble_eq_true rfl) ?_
  intro p e s m below meth c A ls hX hE hP hD hl hin
  obtain ⟨hx, hb, hr, hml, hown, htA, hlk⟩ := id hX
  have hK := hE.1
  have hS : va_S A s.heap s.heap [] := va_S.rf
  have hl : lv_has ls 2 [(0, .ref (a 200)), (1, .int v1_)] := hl
  refine lv_aload_n hx hb dX11_goesTo_0 rfl (lv_at hl 0 rfl) ?_
  refine va_get (ci := 11) (v := .ref (a 201)) (C := RX11) (T := TX11) (N := 39) hx hb htA in_X11 hown hK hP 1 rfl rfl 0 (by decide) (htA _ wd_1354) (fun _ h => h) rfl dX11_goesTo_1 ?_
  refine lv_bipush (v := 40) hx hb dX11_goesTo_4 (by decide) ?_
  refine lv_iload_n hx hb dX11_goesTo_6 rfl (lv_at hl 1 rfl) ?_
  refine va_iast hx hb hK hP hD hS 0 0 rfl rfl (in_lit (by decide)) dX11_goesTo_7 (fun H locs hP hD hS => ?_)
  rw [show upd (upd (upd (upd (upd (fun _ => 0) (1 : Int32).toNatClampNeg 1) (2 : Int32).toNatClampNeg 1) (7 : Int32).toNatClampNeg 1) (40 : Int32).toNatClampNeg v2_) (40 : Int32).toNatClampNeg v1_ = upd (upd (upd (upd (fun _ => 0) (1 : Int32).toNatClampNeg 1) (2 : Int32).toNatClampNeg 1) (7 : Int32).toNatClampNeg 1) (40 : Int32).toNatClampNeg v1_ from by rw [up_twice]] at hP hD
  have hP : va_P D vwCl [((a 201), .inl (cy 0, 2260, .inl (upd (upd (upd (upd (fun _ => 0) (1 : Int32).toNatClampNeg 1) (2 : Int32).toNatClampNeg 1) (7 : Int32).toNatClampNeg 1) (40 : Int32).toNatClampNeg v1_))), ((a 200), .inr (11, [.ref (a 201), .ref (a 202), .ref (a 203), .ref (a 204), .int 0, .ref (a 205), .int 0, .int 0, .int 0, .int 0, .int 0, .int 0, .int 0, .int 0, .int 0, .int (-1), .int 0, .int 0, .int 0, .ref (a 206), .ref (a 207), .int 0, .int 0, .ref (a 208), .int 0, .int 0, .int 0, .int 0, .ref (a 209), .ref (a 210), .ref (a 211), .ref (a 212), .ref (a 213), .ref (a 214), .ref (a 215), .int 0, .ref (a 216), .ref (a 217), .ref (a 218)]))] H := hP
  have hD := va_ca hP hD
  refine lv_aload_n hx hb dX11_goesTo_8 rfl (lv_at hl 0 rfl) ?_
  refine lv_iconst (v := 0) hx hb dX11_goesTo_9 (by decide) ?_
  refine va_put (ci := 11) (v := .int 0) (ty := .int) (C := RX11) (T := TX11) (N := 39) hx hb htA in_X11 tyX11 tyX11_ok nmX11 hown hK hP hD hS 1 rfl rfl 21 (by decide) (htA _ wd_1375) (fun _ h => h) rfl (by decide +kernel) rfl rfl (Nat.le_of_ble_eq_true rfl) dX11_goesTo_10 (fun H locs hP hD hS => ?_)
  have hP : va_P D vwCl [((a 201), .inl (cy 0, 2260, .inl (upd (upd (upd (upd (fun _ => 0) (1 : Int32).toNatClampNeg 1) (2 : Int32).toNatClampNeg 1) (7 : Int32).toNatClampNeg 1) (40 : Int32).toNatClampNeg v1_))), ((a 200), .inr (11, [.ref (a 201), .ref (a 202), .ref (a 203), .ref (a 204), .int 0, .ref (a 205), .int 0, .int 0, .int 0, .int 0, .int 0, .int 0, .int 0, .int 0, .int 0, .int (-1), .int 0, .int 0, .int 0, .ref (a 206), .ref (a 207), .int 0, .int 0, .ref (a 208), .int 0, .int 0, .int 0, .int 0, .ref (a 209), .ref (a 210), .ref (a 211), .ref (a 212), .ref (a 213), .ref (a 214), .ref (a 215), .int 0, .ref (a 216), .ref (a 217), .ref (a 218)]))] H := hP
  have hD := va_ca hP hD
  refine lv_aload_n hx hb dX11_goesTo_13 rfl (lv_at hl 0 rfl) ?_
  refine lv_iconst (v := 0) hx hb dX11_goesTo_14 (by decide) ?_
  refine va_put (ci := 11) (v := .int 0) (ty := .int) (C := RX11) (T := TX11) (N := 39) hx hb htA in_X11 tyX11 tyX11_ok nmX11 hown hK hP hD hS 1 rfl rfl 22 (by decide) (htA _ wd_1376) (fun _ h => h) rfl (by decide +kernel) rfl rfl (Nat.le_of_ble_eq_true rfl) dX11_goesTo_15 (fun H locs hP hD hS => ?_)
  have hP : va_P D vwCl [((a 201), .inl (cy 0, 2260, .inl (upd (upd (upd (upd (fun _ => 0) (1 : Int32).toNatClampNeg 1) (2 : Int32).toNatClampNeg 1) (7 : Int32).toNatClampNeg 1) (40 : Int32).toNatClampNeg v1_))), ((a 200), .inr (11, [.ref (a 201), .ref (a 202), .ref (a 203), .ref (a 204), .int 0, .ref (a 205), .int 0, .int 0, .int 0, .int 0, .int 0, .int 0, .int 0, .int 0, .int 0, .int (-1), .int 0, .int 0, .int 0, .ref (a 206), .ref (a 207), .int 0, .int 0, .ref (a 208), .int 0, .int 0, .int 0, .int 0, .ref (a 209), .ref (a 210), .ref (a 211), .ref (a 212), .ref (a 213), .ref (a 214), .ref (a 215), .int 0, .ref (a 216), .ref (a 217), .ref (a 218)]))] H := hP
  have hD := va_ca hP hD
  refine lv_aload_n hx hb dX11_goesTo_18 rfl (lv_at hl 0 rfl) ?_
  refine lv_iconst (v := 0) hx hb dX11_goesTo_19 (by decide) ?_
  refine kVv (As := [.int 0]) (rest := []) (wr := []) hX hE (au_X11_fallAll_98 l D cy a v1_) (cwVA 1 htA wd_1790 wd_1787 wd_10 wd_1789 wp_92 (by decide +kernel) ⟨by decide, by decide⟩) hP hD hS [0, 1] [] rfl rfl (by decide +kernel) 1 rfl rfl rfl rfl hl.1 rfl (Nat.le_of_ble_eq_true rfl) dX11_goesTo_20 (by decide) (fun W1 H locs hw hP hD hS => ?_)
  refine W.widen (k := 0) (n := 0) (by decide) (by decide) ?_
  obtain rfl := hw
  have hP : va_P D vwCl [((a 201), .inl (cy 0, 2260, .inl (upd (upd (upd (upd (fun _ => 0) (1 : Int32).toNatClampNeg 1) (2 : Int32).toNatClampNeg 1) (7 : Int32).toNatClampNeg 1) (40 : Int32).toNatClampNeg v1_))), ((a 200), .inr (11, [.ref (a 201), .ref (a 202), .ref (a 203), .ref (a 204), .int 0, .ref (a 205), .int 0, .int 0, .int 0, .int 0, .int 0, .int 0, .int 0, .int 0, .int 0, .int (-1), .int 0, .int 0, .int 0, .ref (a 206), .ref (a 207), .int 0, .int 0, .ref (a 208), .int 0, .int 0, .int 0, .int 0, .ref (a 209), .ref (a 210), .ref (a 211), .ref (a 212), .ref (a 213), .ref (a 214), .ref (a 215), .int 0, .ref (a 216), .ref (a 217), .ref (a 218)]))] H := hP
  have hD := va_ca hP hD
  exact rV hX hE hP hD hS dX11_goesTo_23 (by decide) (by decide) (rfl)
set_option maxHeartbeats 4000000 in
set_option maxRecDepth 100000 in
theorem au_X11_hour_100 (l : Launch) (D : va_G) (cy : Nat → ClassId) (a : Nat → Nat) (v1_ : Int32) : Cv l yX11_hour cX11_hour 1 none { frames := 3, cells := 0, slots := 0, locals := 72 } D cy [.ref (a 200)] [((a 201), .inl (cy 0, 2260, .inl (upd (upd (upd (upd (fun _ => 0) (1 : Int32).toNatClampNeg 1) (2 : Int32).toNatClampNeg 1) (7 : Int32).toNatClampNeg 1) (40 : Int32).toNatClampNeg v1_))), ((a 200), .inr (11, [.ref (a 201), .ref (a 202), .ref (a 203), .ref (a 204), .int 0, .ref (a 205), .int 0, .int 0, .int 0, .int 0, .int 0, .int 0, .int 0, .int 0, .int 0, .int (-1), .int 0, .int 0, .int 0, .ref (a 206), .ref (a 207), .int 0, .int 0, .ref (a 208), .int 0, .int 0, .int 0, .int 0, .ref (a 209), .ref (a 210), .ref (a 211), .ref (a 212), .ref (a 213), .ref (a 214), .ref (a 215), .int 0, .ref (a 216), .ref (a 217), .ref (a 218)]))] (fun W1 => (W1 = [((a 201), .inl (cy 0, 2260, .inl (upd (upd (upd (upd (fun _ => 0) (1 : Int32).toNatClampNeg 1) (2 : Int32).toNatClampNeg 1) (7 : Int32).toNatClampNeg 1) (40 : Int32).toNatClampNeg (v1_ + 1)))), ((a 200), .inr (11, [.ref (a 201), .ref (a 202), .ref (a 203), .ref (a 204), .int 0, .ref (a 205), .int 0, .int 0, .int 0, .int 0, .int 0, .int 0, .int 0, .int 0, .int 0, .int (-1), .int 0, .int 0, .int 0, .ref (a 206), .ref (a 207), .int 0, .int 0, .ref (a 208), .int 0, .int 0, .int 0, .int 0, .ref (a 209), .ref (a 210), .ref (a 211), .ref (a 212), .ref (a 213), .ref (a 214), .ref (a 215), .int 0, .ref (a 216), .ref (a 217), .ref (a 218)]))])) := by
  refine Cv.of (by decide) (Nat.le_of_ble_eq_true rfl) ?_
  intro p e s m below meth c A ls hX hE hP hD hl hin
  obtain ⟨hx, hb, hr, hml, hown, htA, hlk⟩ := id hX
  have hK := hE.1
  have hS : va_S A s.heap s.heap [] := va_S.rf
  have hl : lv_has ls 1 [(0, .ref (a 200))] := hl
  refine lv_aload_n hx hb dX11_hour_0 rfl (lv_at hl 0 rfl) ?_
  refine lv_aload_n hx hb dX11_hour_1 rfl (lv_at hl 0 rfl) ?_
  refine va_get (ci := 11) (v := .ref (a 201)) (C := RX11) (T := TX11) (N := 39) hx hb htA in_X11 hown hK hP 1 rfl rfl 0 (by decide) (htA _ wd_1354) (fun _ h => h) rfl dX11_hour_2 ?_
  refine lv_bipush (v := 40) hx hb dX11_hour_5 (by decide) ?_
  refine va_iald hx hb hK hP 0 0 rfl rfl (in_lit (by decide)) dX11_hour_7 ?_
  refine lv_topi (fun x1 ex1 => ?_)
  obtain rfl : v1_ = x1 := (ex1.trans (by first | decide | rfl)).symm
  refine lv_iconst (v := 1) hx hb dX11_hour_8 (by decide) ?_
  refine lv_iadd hx hb dX11_hour_9 ?_
  refine kVv (As := [.int (v1_ + 1)]) (rest := []) (wr := []) hX hE (au_X11_goesTo_99 l D cy a (v1_ + 1) v1_) (cwVA 1 htA wd_1803 wd_1800 wd_10 wd_1802 wp_94 (by decide +kernel) ⟨by decide, by decide⟩) hP hD hS [0, 1] [] rfl rfl (by decide +kernel) 1 rfl rfl rfl rfl hl.1 rfl (Nat.le_of_ble_eq_true rfl) dX11_hour_10 (by decide) (fun W1 H locs hw hP hD hS => ?_)
  refine W.widen (k := 0) (n := 0) (by decide) (by decide) ?_
  obtain rfl := hw
  have hP : va_P D vwCl [((a 201), .inl (cy 0, 2260, .inl (upd (upd (upd (upd (fun _ => 0) (1 : Int32).toNatClampNeg 1) (2 : Int32).toNatClampNeg 1) (7 : Int32).toNatClampNeg 1) (40 : Int32).toNatClampNeg (v1_ + 1)))), ((a 200), .inr (11, [.ref (a 201), .ref (a 202), .ref (a 203), .ref (a 204), .int 0, .ref (a 205), .int 0, .int 0, .int 0, .int 0, .int 0, .int 0, .int 0, .int 0, .int 0, .int (-1), .int 0, .int 0, .int 0, .ref (a 206), .ref (a 207), .int 0, .int 0, .ref (a 208), .int 0, .int 0, .int 0, .int 0, .ref (a 209), .ref (a 210), .ref (a 211), .ref (a 212), .ref (a 213), .ref (a 214), .ref (a 215), .int 0, .ref (a 216), .ref (a 217), .ref (a 218)]))] H := hP
  have hD := va_ca hP hD
  exact rV hX hE hP hD hS dX11_hour_13 (by decide) (by decide) (rfl)
set_option maxHeartbeats 40000000 in
set_option maxRecDepth 100000 in
theorem r_hours (l : Launch) (D : va_G) (cy : Nat → ClassId) (a : Nat → Nat) (p1 : Int32) : Ci l yX11_hours cX11_hours 4 (some .int) { frames := 4, cells := 0, slots := 0, locals := 92 } D cy [.ref (a 200), .int p1] [((a 200), .inr (11, [.ref (a 201), .ref (a 202), .ref (a 203), .ref (a 204), .int 0, .ref (a 205), .int 0, .int 0, .int 0, .int 0, .int 0, .int 0, .int 0, .int 0, .int 0, .int (-1), .int 0, .int 0, .int 0, .ref (a 206), .ref (a 207), .int 0, .int 0, .ref (a 208), .int 0, .int 0, .int 0, .int 0, .ref (a 209), .ref (a 210), .ref (a 211), .ref (a 212), .ref (a 213), .ref (a 214), .ref (a 215), .int 0, .ref (a 216), .ref (a 217), .ref (a 218)])), ((a 201), .inl (cy 0, 2260, .inl (upd (upd (fun _ => 0) (1 : Int32).toNatClampNeg 1) (2 : Int32).toNatClampNeg 1))), ((a 202), .inl (cy 0, 2260, .inl (fun _ => 0))), ((a 203), .inl (cy 0, 6780, .inl (fun _ => 0))), ((a 204), .inl (cy 3, 3, .inl (fun _ => 0))), ((a 205), .inl (cy 0, 900, .inl (fun _ => 0))), ((a 206), .inl (cy 0, 64, .inl (fun _ => 0))), ((a 207), .inl (cy 0, 6, .inl (fun _ => 0))), ((a 208), .inl (cy 0, 37, .inl (fun _ => 0))), ((a 209), .inl (cy 0, 61, .inl (fun _ => 0))), ((a 210), .inl (cy 0, 61, .inl (fun _ => 0))), ((a 211), .inl (cy 0, 61, .inl (fun _ => 0))), ((a 212), .inl (cy 0, 61, .inl (fun _ => 0))), ((a 213), .inl (cy 0, 61, .inl (fun _ => 0))), ((a 214), .inl (cy 2, 6, .inr (.inl (fun _ => 0)))), ((a 215), .inl (cy 2, 6, .inr (.inl (fun _ => 0)))), ((a 216), .inl (cy 0, 4, .inl (upd (upd (upd (upd (fun _ => 0) (0 : Int32).toNatClampNeg (-1)) (1 : Int32).toNatClampNeg (-1)) (2 : Int32).toNatClampNeg (-1)) (3 : Int32).toNatClampNeg (-1)))), ((a 217), .inl (cy 0, 4, .inl (fun _ => 0))), ((a 218), .inl (cy 2, 120, .inr (.inl (fun _ => 0))))] (fun r W1 => ∃ fs : List Value, W1 = [((a 200), .inr (11, fs))] ∧ fs[4]? = some (.int (kf_hours p1)) ∧ (kf_hours p1 = 0 → r.toInt64 = vf_hours p1)) := by
  refine Ci.of (by decide) (Nat.le_of_ble_eq_true rfl) ?_
  intro p e s m below meth c A ls hX hE hP hD hl
  obtain ⟨hx, hb, hr, hml, hown, htA, hlk⟩ := id hX
  have hK := hE.1
  have hS : va_S A s.heap s.heap [] := va_S.rf
  have hl : lv_has ls 4 [(0, .ref (a 200)), (1, .int p1)] := hl
  refine lv_aload_n hx hb dX11_hours_0 rfl (lv_at hl 0 rfl) ?_
  refine lv_iconst (v := 0) hx hb dX11_hours_1 (by decide) ?_
  refine va_put (ci := 11) (v := .int 0) (ty := .int) (C := RX11) (T := TX11) (N := 39) hx hb htA in_X11 tyX11 tyX11_ok nmX11 hown hK hP hD hS 0 rfl rfl 4 (by decide) (htA _ wd_1358) (fun _ h => h) rfl (by decide +kernel) rfl rfl (Nat.le_of_ble_eq_true rfl) dX11_hours_2 (fun H locs hP hD hS => ?_)
  have hP : va_P D vwCl [((a 200), .inr (11, [.ref (a 201), .ref (a 202), .ref (a 203), .ref (a 204), .int 0, .ref (a 205), .int 0, .int 0, .int 0, .int 0, .int 0, .int 0, .int 0, .int 0, .int 0, .int (-1), .int 0, .int 0, .int 0, .ref (a 206), .ref (a 207), .int 0, .int 0, .ref (a 208), .int 0, .int 0, .int 0, .int 0, .ref (a 209), .ref (a 210), .ref (a 211), .ref (a 212), .ref (a 213), .ref (a 214), .ref (a 215), .int 0, .ref (a 216), .ref (a 217), .ref (a 218)])), ((a 201), .inl (cy 0, 2260, .inl (upd (upd (fun _ => 0) (1 : Int32).toNatClampNeg 1) (2 : Int32).toNatClampNeg 1))), ((a 202), .inl (cy 0, 2260, .inl (fun _ => 0))), ((a 203), .inl (cy 0, 6780, .inl (fun _ => 0))), ((a 204), .inl (cy 3, 3, .inl (fun _ => 0))), ((a 205), .inl (cy 0, 900, .inl (fun _ => 0))), ((a 206), .inl (cy 0, 64, .inl (fun _ => 0))), ((a 207), .inl (cy 0, 6, .inl (fun _ => 0))), ((a 208), .inl (cy 0, 37, .inl (fun _ => 0))), ((a 209), .inl (cy 0, 61, .inl (fun _ => 0))), ((a 210), .inl (cy 0, 61, .inl (fun _ => 0))), ((a 211), .inl (cy 0, 61, .inl (fun _ => 0))), ((a 212), .inl (cy 0, 61, .inl (fun _ => 0))), ((a 213), .inl (cy 0, 61, .inl (fun _ => 0))), ((a 214), .inl (cy 2, 6, .inr (.inl (fun _ => 0)))), ((a 215), .inl (cy 2, 6, .inr (.inl (fun _ => 0)))), ((a 216), .inl (cy 0, 4, .inl (upd (upd (upd (upd (fun _ => 0) (0 : Int32).toNatClampNeg (-1)) (1 : Int32).toNatClampNeg (-1)) (2 : Int32).toNatClampNeg (-1)) (3 : Int32).toNatClampNeg (-1)))), ((a 217), .inl (cy 0, 4, .inl (fun _ => 0))), ((a 218), .inl (cy 2, 120, .inr (.inl (fun _ => 0))))] H := hP
  have hD := va_ca hP hD
  refine lv_iload_n hx hb dX11_hours_5 rfl (lv_at hl 1 rfl) ?_
  refine lv_i2l hx hb dX11_hours_6 rfl ?_
  refine lv_lconst (v := 1) hx hb dX11_hours_7 (by decide) ?_
  refine lv_ldc2 hx hb hown (htA _ wd_1795) dX11_hours_8 ?_
  refine kSi (As := [.long p1.toInt64, .long 1, .long 99]) (rest := []) (wr := [((a 200), .inr (11, [.ref (a 201), .ref (a 202), .ref (a 203), .ref (a 204), .int 0, .ref (a 205), .int 0, .int 0, .int 0, .int 0, .int 0, .int 0, .int 0, .int 0, .int 0, .int (-1), .int 0, .int 0, .int 0, .ref (a 206), .ref (a 207), .int 0, .int 0, .ref (a 208), .int 0, .int 0, .int 0, .int 0, .ref (a 209), .ref (a 210), .ref (a 211), .ref (a 212), .ref (a 213), .ref (a 214), .ref (a 215), .int 0, .ref (a 216), .ref (a 217), .ref (a 218)])), ((a 201), .inl (cy 0, 2260, .inl (upd (upd (fun _ => 0) (1 : Int32).toNatClampNeg 1) (2 : Int32).toNatClampNeg 1))), ((a 202), .inl (cy 0, 2260, .inl (fun _ => 0))), ((a 203), .inl (cy 0, 6780, .inl (fun _ => 0))), ((a 204), .inl (cy 3, 3, .inl (fun _ => 0))), ((a 205), .inl (cy 0, 900, .inl (fun _ => 0))), ((a 206), .inl (cy 0, 64, .inl (fun _ => 0))), ((a 207), .inl (cy 0, 6, .inl (fun _ => 0))), ((a 208), .inl (cy 0, 37, .inl (fun _ => 0))), ((a 209), .inl (cy 0, 61, .inl (fun _ => 0))), ((a 210), .inl (cy 0, 61, .inl (fun _ => 0))), ((a 211), .inl (cy 0, 61, .inl (fun _ => 0))), ((a 212), .inl (cy 0, 61, .inl (fun _ => 0))), ((a 213), .inl (cy 0, 61, .inl (fun _ => 0))), ((a 214), .inl (cy 2, 6, .inr (.inl (fun _ => 0)))), ((a 215), .inl (cy 2, 6, .inr (.inl (fun _ => 0)))), ((a 216), .inl (cy 0, 4, .inl (upd (upd (upd (upd (fun _ => 0) (0 : Int32).toNatClampNeg (-1)) (1 : Int32).toNatClampNeg (-1)) (2 : Int32).toNatClampNeg (-1)) (3 : Int32).toNatClampNeg (-1)))), ((a 217), .inl (cy 0, 4, .inl (fun _ => 0))), ((a 218), .inl (cy 2, 120, .inr (.inl (fun _ => 0))))]) hX hE (au_X11_within_86 l D cy a p1.toInt64) (cwSA 3 htA wd_1487 wd_1485 wd_10 wd_1486 (by decide +kernel) ⟨by decide, by decide⟩) hP hD hS [] [0, 1, 2, 3, 4, 5, 6, 7, 8, 9, 10, 11, 12, 13, 14, 15, 16, 17, 18] rfl rfl (by decide +kernel) rfl hl.1 rfl (Nat.le_of_ble_eq_true rfl) dX11_hours_11 (by decide) (fun r_ W1 H locs hw hP hD hS => ?_)
  refine W.widen (k := 0) (n := 0) (by decide) (by decide) ?_
  rcases hw with ⟨g2, rfl, rfl⟩ | ⟨g3, g4, rfl, rfl⟩ | ⟨g5, g6, rfl, rfl⟩
  · have hP : va_P D vwCl [((a 200), .inr (11, [.ref (a 201), .ref (a 202), .ref (a 203), .ref (a 204), .int 0, .ref (a 205), .int 0, .int 0, .int 0, .int 0, .int 0, .int 0, .int 0, .int 0, .int 0, .int (-1), .int 0, .int 0, .int 0, .ref (a 206), .ref (a 207), .int 0, .int 0, .ref (a 208), .int 0, .int 0, .int 0, .int 0, .ref (a 209), .ref (a 210), .ref (a 211), .ref (a 212), .ref (a 213), .ref (a 214), .ref (a 215), .int 0, .ref (a 216), .ref (a 217), .ref (a 218)])), ((a 201), .inl (cy 0, 2260, .inl (upd (upd (fun _ => 0) (1 : Int32).toNatClampNeg 1) (2 : Int32).toNatClampNeg 1))), ((a 202), .inl (cy 0, 2260, .inl (fun _ => 0))), ((a 203), .inl (cy 0, 6780, .inl (fun _ => 0))), ((a 204), .inl (cy 3, 3, .inl (fun _ => 0))), ((a 205), .inl (cy 0, 900, .inl (fun _ => 0))), ((a 206), .inl (cy 0, 64, .inl (fun _ => 0))), ((a 207), .inl (cy 0, 6, .inl (fun _ => 0))), ((a 208), .inl (cy 0, 37, .inl (fun _ => 0))), ((a 209), .inl (cy 0, 61, .inl (fun _ => 0))), ((a 210), .inl (cy 0, 61, .inl (fun _ => 0))), ((a 211), .inl (cy 0, 61, .inl (fun _ => 0))), ((a 212), .inl (cy 0, 61, .inl (fun _ => 0))), ((a 213), .inl (cy 0, 61, .inl (fun _ => 0))), ((a 214), .inl (cy 2, 6, .inr (.inl (fun _ => 0)))), ((a 215), .inl (cy 2, 6, .inr (.inl (fun _ => 0)))), ((a 216), .inl (cy 0, 4, .inl (upd (upd (upd (upd (fun _ => 0) (0 : Int32).toNatClampNeg (-1)) (1 : Int32).toNatClampNeg (-1)) (2 : Int32).toNatClampNeg (-1)) (3 : Int32).toNatClampNeg (-1)))), ((a 217), .inl (cy 0, 4, .inl (fun _ => 0))), ((a 218), .inl (cy 2, 120, .inr (.inl (fun _ => 0))))] H := hP
    have hD := va_ca hP hD
    refine lv_if_ne (tgt := 23) hx hb dX11_hours_14 (by decide) (fun q => absurd rfl q) (fun _ => ?_)
    refine lv_aload_n hx hb dX11_hours_17 rfl (lv_at hl 0 rfl) ?_
    refine lv_iconst (v := 1) hx hb dX11_hours_18 (by decide) ?_
    refine kVi (As := [.int 1]) (rest := []) (wr := [((a 201), .inl (cy 0, 2260, .inl (upd (upd (fun _ => 0) (1 : Int32).toNatClampNeg 1) (2 : Int32).toNatClampNeg 1))), ((a 202), .inl (cy 0, 2260, .inl (fun _ => 0))), ((a 203), .inl (cy 0, 6780, .inl (fun _ => 0))), ((a 204), .inl (cy 3, 3, .inl (fun _ => 0))), ((a 205), .inl (cy 0, 900, .inl (fun _ => 0))), ((a 206), .inl (cy 0, 64, .inl (fun _ => 0))), ((a 207), .inl (cy 0, 6, .inl (fun _ => 0))), ((a 208), .inl (cy 0, 37, .inl (fun _ => 0))), ((a 209), .inl (cy 0, 61, .inl (fun _ => 0))), ((a 210), .inl (cy 0, 61, .inl (fun _ => 0))), ((a 211), .inl (cy 0, 61, .inl (fun _ => 0))), ((a 212), .inl (cy 0, 61, .inl (fun _ => 0))), ((a 213), .inl (cy 0, 61, .inl (fun _ => 0))), ((a 214), .inl (cy 2, 6, .inr (.inl (fun _ => 0)))), ((a 215), .inl (cy 2, 6, .inr (.inl (fun _ => 0)))), ((a 216), .inl (cy 0, 4, .inl (upd (upd (upd (upd (fun _ => 0) (0 : Int32).toNatClampNeg (-1)) (1 : Int32).toNatClampNeg (-1)) (2 : Int32).toNatClampNeg (-1)) (3 : Int32).toNatClampNeg (-1)))), ((a 217), .inl (cy 0, 4, .inl (fun _ => 0))), ((a 218), .inl (cy 2, 120, .inr (.inl (fun _ => 0))))]) hX hE (au_X11_fails_66 l D cy a) (cwVA 1 htA wd_1491 wd_1488 wd_10 wd_1490 wp_41 (by decide +kernel) ⟨by decide, by decide⟩) hP hD hS [0] [1, 2, 3, 4, 5, 6, 7, 8, 9, 10, 11, 12, 13, 14, 15, 16, 17, 18] rfl rfl (by decide +kernel) 0 rfl rfl rfl rfl hl.1 rfl (Nat.le_of_ble_eq_true rfl) dX11_hours_19 (by decide) (fun r_ W1 H locs hw hP hD hS => ?_)
    refine W.widen (k := 0) (n := 0) (by decide) (by decide) ?_
    obtain ⟨rfl, rfl⟩ := hw
    have hP : va_P D vwCl [((a 201), .inl (cy 0, 2260, .inl (upd (upd (fun _ => 0) (1 : Int32).toNatClampNeg 1) (2 : Int32).toNatClampNeg 1))), ((a 202), .inl (cy 0, 2260, .inl (fun _ => 0))), ((a 203), .inl (cy 0, 6780, .inl (fun _ => 0))), ((a 204), .inl (cy 3, 3, .inl (fun _ => 0))), ((a 205), .inl (cy 0, 900, .inl (fun _ => 0))), ((a 206), .inl (cy 0, 64, .inl (fun _ => 0))), ((a 207), .inl (cy 0, 6, .inl (fun _ => 0))), ((a 208), .inl (cy 0, 37, .inl (fun _ => 0))), ((a 209), .inl (cy 0, 61, .inl (fun _ => 0))), ((a 210), .inl (cy 0, 61, .inl (fun _ => 0))), ((a 211), .inl (cy 0, 61, .inl (fun _ => 0))), ((a 212), .inl (cy 0, 61, .inl (fun _ => 0))), ((a 213), .inl (cy 0, 61, .inl (fun _ => 0))), ((a 214), .inl (cy 2, 6, .inr (.inl (fun _ => 0)))), ((a 215), .inl (cy 2, 6, .inr (.inl (fun _ => 0)))), ((a 216), .inl (cy 0, 4, .inl (upd (upd (upd (upd (fun _ => 0) (0 : Int32).toNatClampNeg (-1)) (1 : Int32).toNatClampNeg (-1)) (2 : Int32).toNatClampNeg (-1)) (3 : Int32).toNatClampNeg (-1)))), ((a 217), .inl (cy 0, 4, .inl (fun _ => 0))), ((a 218), .inl (cy 2, 120, .inr (.inl (fun _ => 0)))), ((a 200), .inr (11, [.ref (a 201), .ref (a 202), .ref (a 203), .ref (a 204), .int 1, .ref (a 205), .int 0, .int 0, .int 0, .int 0, .int 0, .int 0, .int 0, .int 0, .int 0, .int (-1), .int 0, .int 0, .int 0, .ref (a 206), .ref (a 207), .int 0, .int 0, .ref (a 208), .int 0, .int 0, .int 0, .int 0, .ref (a 209), .ref (a 210), .ref (a 211), .ref (a 212), .ref (a 213), .ref (a 214), .ref (a 215), .int 0, .ref (a 216), .ref (a 217), .ref (a 218)]))] H := hP
    have hD := va_ca hP hD
    exact rI hX hE (hP.sub [18] rfl) (hD.sub [18] (by decide +kernel) rfl) hS dX11_hours_22 (by decide) (by decide) (⟨_, rfl, (by have kg2 := g2; (try simp only [lg_cmp_lt, lg_cmp_le, lg_cmp_ge, lg_cmp_gt, lg_cmp_eq] at kg2); (try simp only [lg_cmp_lt, lg_cmp_le, lg_cmp_ge, lg_cmp_gt, lg_cmp_eq, fa_lt, fa_le, fa_eq, fa_lt64, fa_le64, fa_eq64, Int32.toInt_toInt64, li_0, lj_0, li_1, lj_1] at kg2); first | rfl | (congr 2; first | rfl | (unfold kf_hours; (repeat' split) <;> first | rfl | (exfalso; omega)))), (fun q => absurd q (by have hq : kf_hours p1 = 1 := (by have kg2 := g2; (try simp only [lg_cmp_lt, lg_cmp_le, lg_cmp_ge, lg_cmp_gt, lg_cmp_eq] at kg2); (try simp only [lg_cmp_lt, lg_cmp_le, lg_cmp_ge, lg_cmp_gt, lg_cmp_eq, fa_lt, fa_le, fa_eq, fa_lt64, fa_le64, fa_eq64, Int32.toInt_toInt64, li_0, lj_0, li_1, lj_1] at kg2); first | rfl | (unfold kf_hours; (repeat' split) <;> first | rfl | (exfalso; omega))); rw [hq]; decide))⟩)
  · have hP : va_P D vwCl [((a 200), .inr (11, [.ref (a 201), .ref (a 202), .ref (a 203), .ref (a 204), .int 0, .ref (a 205), .int 0, .int 0, .int 0, .int 0, .int 0, .int 0, .int 0, .int 0, .int 0, .int (-1), .int 0, .int 0, .int 0, .ref (a 206), .ref (a 207), .int 0, .int 0, .ref (a 208), .int 0, .int 0, .int 0, .int 0, .ref (a 209), .ref (a 210), .ref (a 211), .ref (a 212), .ref (a 213), .ref (a 214), .ref (a 215), .int 0, .ref (a 216), .ref (a 217), .ref (a 218)])), ((a 201), .inl (cy 0, 2260, .inl (upd (upd (fun _ => 0) (1 : Int32).toNatClampNeg 1) (2 : Int32).toNatClampNeg 1))), ((a 202), .inl (cy 0, 2260, .inl (fun _ => 0))), ((a 203), .inl (cy 0, 6780, .inl (fun _ => 0))), ((a 204), .inl (cy 3, 3, .inl (fun _ => 0))), ((a 205), .inl (cy 0, 900, .inl (fun _ => 0))), ((a 206), .inl (cy 0, 64, .inl (fun _ => 0))), ((a 207), .inl (cy 0, 6, .inl (fun _ => 0))), ((a 208), .inl (cy 0, 37, .inl (fun _ => 0))), ((a 209), .inl (cy 0, 61, .inl (fun _ => 0))), ((a 210), .inl (cy 0, 61, .inl (fun _ => 0))), ((a 211), .inl (cy 0, 61, .inl (fun _ => 0))), ((a 212), .inl (cy 0, 61, .inl (fun _ => 0))), ((a 213), .inl (cy 0, 61, .inl (fun _ => 0))), ((a 214), .inl (cy 2, 6, .inr (.inl (fun _ => 0)))), ((a 215), .inl (cy 2, 6, .inr (.inl (fun _ => 0)))), ((a 216), .inl (cy 0, 4, .inl (upd (upd (upd (upd (fun _ => 0) (0 : Int32).toNatClampNeg (-1)) (1 : Int32).toNatClampNeg (-1)) (2 : Int32).toNatClampNeg (-1)) (3 : Int32).toNatClampNeg (-1)))), ((a 217), .inl (cy 0, 4, .inl (fun _ => 0))), ((a 218), .inl (cy 2, 120, .inr (.inl (fun _ => 0))))] H := hP
    have hD := va_ca hP hD
    refine lv_if_ne (tgt := 23) hx hb dX11_hours_14 (by decide) (fun q => absurd rfl q) (fun _ => ?_)
    refine lv_aload_n hx hb dX11_hours_17 rfl (lv_at hl 0 rfl) ?_
    refine lv_iconst (v := 1) hx hb dX11_hours_18 (by decide) ?_
    refine kVi (As := [.int 1]) (rest := []) (wr := [((a 201), .inl (cy 0, 2260, .inl (upd (upd (fun _ => 0) (1 : Int32).toNatClampNeg 1) (2 : Int32).toNatClampNeg 1))), ((a 202), .inl (cy 0, 2260, .inl (fun _ => 0))), ((a 203), .inl (cy 0, 6780, .inl (fun _ => 0))), ((a 204), .inl (cy 3, 3, .inl (fun _ => 0))), ((a 205), .inl (cy 0, 900, .inl (fun _ => 0))), ((a 206), .inl (cy 0, 64, .inl (fun _ => 0))), ((a 207), .inl (cy 0, 6, .inl (fun _ => 0))), ((a 208), .inl (cy 0, 37, .inl (fun _ => 0))), ((a 209), .inl (cy 0, 61, .inl (fun _ => 0))), ((a 210), .inl (cy 0, 61, .inl (fun _ => 0))), ((a 211), .inl (cy 0, 61, .inl (fun _ => 0))), ((a 212), .inl (cy 0, 61, .inl (fun _ => 0))), ((a 213), .inl (cy 0, 61, .inl (fun _ => 0))), ((a 214), .inl (cy 2, 6, .inr (.inl (fun _ => 0)))), ((a 215), .inl (cy 2, 6, .inr (.inl (fun _ => 0)))), ((a 216), .inl (cy 0, 4, .inl (upd (upd (upd (upd (fun _ => 0) (0 : Int32).toNatClampNeg (-1)) (1 : Int32).toNatClampNeg (-1)) (2 : Int32).toNatClampNeg (-1)) (3 : Int32).toNatClampNeg (-1)))), ((a 217), .inl (cy 0, 4, .inl (fun _ => 0))), ((a 218), .inl (cy 2, 120, .inr (.inl (fun _ => 0))))]) hX hE (au_X11_fails_66 l D cy a) (cwVA 1 htA wd_1491 wd_1488 wd_10 wd_1490 wp_41 (by decide +kernel) ⟨by decide, by decide⟩) hP hD hS [0] [1, 2, 3, 4, 5, 6, 7, 8, 9, 10, 11, 12, 13, 14, 15, 16, 17, 18] rfl rfl (by decide +kernel) 0 rfl rfl rfl rfl hl.1 rfl (Nat.le_of_ble_eq_true rfl) dX11_hours_19 (by decide) (fun r_ W1 H locs hw hP hD hS => ?_)
    refine W.widen (k := 0) (n := 0) (by decide) (by decide) ?_
    obtain ⟨rfl, rfl⟩ := hw
    have hP : va_P D vwCl [((a 201), .inl (cy 0, 2260, .inl (upd (upd (fun _ => 0) (1 : Int32).toNatClampNeg 1) (2 : Int32).toNatClampNeg 1))), ((a 202), .inl (cy 0, 2260, .inl (fun _ => 0))), ((a 203), .inl (cy 0, 6780, .inl (fun _ => 0))), ((a 204), .inl (cy 3, 3, .inl (fun _ => 0))), ((a 205), .inl (cy 0, 900, .inl (fun _ => 0))), ((a 206), .inl (cy 0, 64, .inl (fun _ => 0))), ((a 207), .inl (cy 0, 6, .inl (fun _ => 0))), ((a 208), .inl (cy 0, 37, .inl (fun _ => 0))), ((a 209), .inl (cy 0, 61, .inl (fun _ => 0))), ((a 210), .inl (cy 0, 61, .inl (fun _ => 0))), ((a 211), .inl (cy 0, 61, .inl (fun _ => 0))), ((a 212), .inl (cy 0, 61, .inl (fun _ => 0))), ((a 213), .inl (cy 0, 61, .inl (fun _ => 0))), ((a 214), .inl (cy 2, 6, .inr (.inl (fun _ => 0)))), ((a 215), .inl (cy 2, 6, .inr (.inl (fun _ => 0)))), ((a 216), .inl (cy 0, 4, .inl (upd (upd (upd (upd (fun _ => 0) (0 : Int32).toNatClampNeg (-1)) (1 : Int32).toNatClampNeg (-1)) (2 : Int32).toNatClampNeg (-1)) (3 : Int32).toNatClampNeg (-1)))), ((a 217), .inl (cy 0, 4, .inl (fun _ => 0))), ((a 218), .inl (cy 2, 120, .inr (.inl (fun _ => 0)))), ((a 200), .inr (11, [.ref (a 201), .ref (a 202), .ref (a 203), .ref (a 204), .int 1, .ref (a 205), .int 0, .int 0, .int 0, .int 0, .int 0, .int 0, .int 0, .int 0, .int 0, .int (-1), .int 0, .int 0, .int 0, .ref (a 206), .ref (a 207), .int 0, .int 0, .ref (a 208), .int 0, .int 0, .int 0, .int 0, .ref (a 209), .ref (a 210), .ref (a 211), .ref (a 212), .ref (a 213), .ref (a 214), .ref (a 215), .int 0, .ref (a 216), .ref (a 217), .ref (a 218)]))] H := hP
    have hD := va_ca hP hD
    exact rI hX hE (hP.sub [18] rfl) (hD.sub [18] (by decide +kernel) rfl) hS dX11_hours_22 (by decide) (by decide) (⟨_, rfl, (by have kg3 := g3; have kg4 := g4; (try simp only [lg_cmp_lt, lg_cmp_le, lg_cmp_ge, lg_cmp_gt, lg_cmp_eq] at kg3); (try simp only [lg_cmp_lt, lg_cmp_le, lg_cmp_ge, lg_cmp_gt, lg_cmp_eq] at kg4); (try simp only [lg_cmp_lt, lg_cmp_le, lg_cmp_ge, lg_cmp_gt, lg_cmp_eq, fa_lt, fa_le, fa_eq, fa_lt64, fa_le64, fa_eq64, Int32.toInt_toInt64, li_0, lj_0, li_1, lj_1, li_99, lj_99] at kg3); (try simp only [lg_cmp_lt, lg_cmp_le, lg_cmp_ge, lg_cmp_gt, lg_cmp_eq, fa_lt, fa_le, fa_eq, fa_lt64, fa_le64, fa_eq64, Int32.toInt_toInt64, li_0, lj_0, li_1, lj_1, li_99, lj_99] at kg4); first | rfl | (congr 2; first | rfl | (unfold kf_hours; (repeat' split) <;> first | rfl | (exfalso; omega)))), (fun q => absurd q (by have hq : kf_hours p1 = 1 := (by have kg3 := g3; have kg4 := g4; (try simp only [lg_cmp_lt, lg_cmp_le, lg_cmp_ge, lg_cmp_gt, lg_cmp_eq] at kg3); (try simp only [lg_cmp_lt, lg_cmp_le, lg_cmp_ge, lg_cmp_gt, lg_cmp_eq] at kg4); (try simp only [lg_cmp_lt, lg_cmp_le, lg_cmp_ge, lg_cmp_gt, lg_cmp_eq, fa_lt, fa_le, fa_eq, fa_lt64, fa_le64, fa_eq64, Int32.toInt_toInt64, li_0, lj_0, li_1, lj_1, li_99, lj_99] at kg3); (try simp only [lg_cmp_lt, lg_cmp_le, lg_cmp_ge, lg_cmp_gt, lg_cmp_eq, fa_lt, fa_le, fa_eq, fa_lt64, fa_le64, fa_eq64, Int32.toInt_toInt64, li_0, lj_0, li_1, lj_1, li_99, lj_99] at kg4); first | rfl | (unfold kf_hours; (repeat' split) <;> first | rfl | (exfalso; omega))); rw [hq]; decide))⟩)
  · have hP : va_P D vwCl [((a 200), .inr (11, [.ref (a 201), .ref (a 202), .ref (a 203), .ref (a 204), .int 0, .ref (a 205), .int 0, .int 0, .int 0, .int 0, .int 0, .int 0, .int 0, .int 0, .int 0, .int (-1), .int 0, .int 0, .int 0, .ref (a 206), .ref (a 207), .int 0, .int 0, .ref (a 208), .int 0, .int 0, .int 0, .int 0, .ref (a 209), .ref (a 210), .ref (a 211), .ref (a 212), .ref (a 213), .ref (a 214), .ref (a 215), .int 0, .ref (a 216), .ref (a 217), .ref (a 218)])), ((a 201), .inl (cy 0, 2260, .inl (upd (upd (fun _ => 0) (1 : Int32).toNatClampNeg 1) (2 : Int32).toNatClampNeg 1))), ((a 202), .inl (cy 0, 2260, .inl (fun _ => 0))), ((a 203), .inl (cy 0, 6780, .inl (fun _ => 0))), ((a 204), .inl (cy 3, 3, .inl (fun _ => 0))), ((a 205), .inl (cy 0, 900, .inl (fun _ => 0))), ((a 206), .inl (cy 0, 64, .inl (fun _ => 0))), ((a 207), .inl (cy 0, 6, .inl (fun _ => 0))), ((a 208), .inl (cy 0, 37, .inl (fun _ => 0))), ((a 209), .inl (cy 0, 61, .inl (fun _ => 0))), ((a 210), .inl (cy 0, 61, .inl (fun _ => 0))), ((a 211), .inl (cy 0, 61, .inl (fun _ => 0))), ((a 212), .inl (cy 0, 61, .inl (fun _ => 0))), ((a 213), .inl (cy 0, 61, .inl (fun _ => 0))), ((a 214), .inl (cy 2, 6, .inr (.inl (fun _ => 0)))), ((a 215), .inl (cy 2, 6, .inr (.inl (fun _ => 0)))), ((a 216), .inl (cy 0, 4, .inl (upd (upd (upd (upd (fun _ => 0) (0 : Int32).toNatClampNeg (-1)) (1 : Int32).toNatClampNeg (-1)) (2 : Int32).toNatClampNeg (-1)) (3 : Int32).toNatClampNeg (-1)))), ((a 217), .inl (cy 0, 4, .inl (fun _ => 0))), ((a 218), .inl (cy 2, 120, .inr (.inl (fun _ => 0))))] H := hP
    have hD := va_ca hP hD
    refine lv_if_ne (tgt := 23) hx hb dX11_hours_14 (by decide) (fun _ => ?_) (fun q => absurd q (by decide))
    refine lv_aload_n hx hb dX11_hours_23 rfl (lv_at hl 0 rfl) ?_
    refine kVv (As := []) (rest := []) (wr := [((a 202), .inl (cy 0, 2260, .inl (fun _ => 0))), ((a 203), .inl (cy 0, 6780, .inl (fun _ => 0))), ((a 204), .inl (cy 3, 3, .inl (fun _ => 0))), ((a 205), .inl (cy 0, 900, .inl (fun _ => 0))), ((a 206), .inl (cy 0, 64, .inl (fun _ => 0))), ((a 207), .inl (cy 0, 6, .inl (fun _ => 0))), ((a 208), .inl (cy 0, 37, .inl (fun _ => 0))), ((a 209), .inl (cy 0, 61, .inl (fun _ => 0))), ((a 210), .inl (cy 0, 61, .inl (fun _ => 0))), ((a 211), .inl (cy 0, 61, .inl (fun _ => 0))), ((a 212), .inl (cy 0, 61, .inl (fun _ => 0))), ((a 213), .inl (cy 0, 61, .inl (fun _ => 0))), ((a 214), .inl (cy 2, 6, .inr (.inl (fun _ => 0)))), ((a 215), .inl (cy 2, 6, .inr (.inl (fun _ => 0)))), ((a 216), .inl (cy 0, 4, .inl (upd (upd (upd (upd (fun _ => 0) (0 : Int32).toNatClampNeg (-1)) (1 : Int32).toNatClampNeg (-1)) (2 : Int32).toNatClampNeg (-1)) (3 : Int32).toNatClampNeg (-1)))), ((a 217), .inl (cy 0, 4, .inl (fun _ => 0))), ((a 218), .inl (cy 2, 120, .inr (.inl (fun _ => 0))))]) hX hE (au_X11_keeps_90 l D cy a) (cwVA 0 htA wd_1736 wd_1733 wd_10 wd_1735 wp_82 (by decide +kernel) ⟨by decide, by decide⟩) hP hD hS [0, 1] [2, 3, 4, 5, 6, 7, 8, 9, 10, 11, 12, 13, 14, 15, 16, 17, 18] rfl rfl (by decide +kernel) 0 rfl rfl rfl rfl hl.1 rfl (Nat.le_of_ble_eq_true rfl) dX11_hours_24 (by decide) (fun W1 H locs hw hP hD hS => ?_)
    refine W.widen (k := 0) (n := 0) (by decide) (by decide) ?_
    obtain rfl := hw
    have hP : va_P D vwCl [((a 202), .inl (cy 0, 2260, .inl (fun _ => 0))), ((a 203), .inl (cy 0, 6780, .inl (fun _ => 0))), ((a 204), .inl (cy 3, 3, .inl (fun _ => 0))), ((a 205), .inl (cy 0, 900, .inl (fun _ => 0))), ((a 206), .inl (cy 0, 64, .inl (fun _ => 0))), ((a 207), .inl (cy 0, 6, .inl (fun _ => 0))), ((a 208), .inl (cy 0, 37, .inl (fun _ => 0))), ((a 209), .inl (cy 0, 61, .inl (fun _ => 0))), ((a 210), .inl (cy 0, 61, .inl (fun _ => 0))), ((a 211), .inl (cy 0, 61, .inl (fun _ => 0))), ((a 212), .inl (cy 0, 61, .inl (fun _ => 0))), ((a 213), .inl (cy 0, 61, .inl (fun _ => 0))), ((a 214), .inl (cy 2, 6, .inr (.inl (fun _ => 0)))), ((a 215), .inl (cy 2, 6, .inr (.inl (fun _ => 0)))), ((a 216), .inl (cy 0, 4, .inl (upd (upd (upd (upd (fun _ => 0) (0 : Int32).toNatClampNeg (-1)) (1 : Int32).toNatClampNeg (-1)) (2 : Int32).toNatClampNeg (-1)) (3 : Int32).toNatClampNeg (-1)))), ((a 217), .inl (cy 0, 4, .inl (fun _ => 0))), ((a 218), .inl (cy 2, 120, .inr (.inl (fun _ => 0)))), ((a 200), .inr (11, [.ref (a 201), .ref (a 202), .ref (a 203), .ref (a 204), .int 0, .ref (a 205), .int 0, .int 0, .int 0, .int 0, .int 0, .int 0, .int 0, .int 0, .int 0, .int (-1), .int 0, .int 0, .int 0, .ref (a 206), .ref (a 207), .int 0, .int 0, .ref (a 208), .int 0, .int 0, .int 0, .int 0, .ref (a 209), .ref (a 210), .ref (a 211), .ref (a 212), .ref (a 213), .ref (a 214), .ref (a 215), .int 0, .ref (a 216), .ref (a 217), .ref (a 218)])), ((a 201), .inl (cy 0, 2260, .inl (upd (upd (upd (fun _ => 0) (1 : Int32).toNatClampNeg 1) (2 : Int32).toNatClampNeg 1) (7 : Int32).toNatClampNeg 1)))] H := hP
    have hD := va_ca hP hD
    refine lv_iconst (v := 0) hx hb dX11_hours_27 (by decide) ?_
    refine lv_istore_n (lv' := [(2, .int 0), (0, .ref (a 200)), (1, .int p1)]) hx hb dX11_hours_28 rfl hl (by decide) rfl (fun ls hl => ?_)
    refine lv_iconst (v := 0) hx hb dX11_hours_29 (by decide) ?_
    refine lv_istore_n (lv' := [(3, .int 0), (2, .int 0), (0, .ref (a 200)), (1, .int p1)]) hx hb dX11_hours_30 rfl hl (by decide) rfl (fun ls hl => ?_)
    refine lv_iload_n hx hb dX11_hours_31 rfl (lv_at hl 0 rfl) ?_
    refine lv_iload_n hx hb dX11_hours_32 rfl (lv_at hl 3 rfl) ?_
    refine lv_icmp_ge (tgt := 56) hx hb dX11_hours_33 (by decide) (fun c7 => (by have kg5 := g5; have kg6 := g6; have kc7 := c7; (try simp only [lg_cmp_lt, lg_cmp_le, lg_cmp_ge, lg_cmp_gt, lg_cmp_eq] at kg5); (try simp only [lg_cmp_lt, lg_cmp_le, lg_cmp_ge, lg_cmp_gt, lg_cmp_eq] at kg6); (try simp only [lg_cmp_lt, lg_cmp_le, lg_cmp_ge, lg_cmp_gt, lg_cmp_eq, fa_lt, fa_le, fa_eq, fa_lt64, fa_le64, fa_eq64, Int32.toInt_toInt64, li_0, lj_0, li_1, lj_1, li_99, lj_99] at kg5); (try simp only [lg_cmp_lt, lg_cmp_le, lg_cmp_ge, lg_cmp_gt, lg_cmp_eq, fa_lt, fa_le, fa_eq, fa_lt64, fa_le64, fa_eq64, Int32.toInt_toInt64, li_0, lj_0, li_1, lj_1, li_99, lj_99] at kg6); (try simp only [lg_cmp_lt, lg_cmp_le, lg_cmp_ge, lg_cmp_gt, lg_cmp_eq, fa_lt, fa_le, fa_eq, fa_lt64, fa_le64, fa_eq64, Int32.toInt_toInt64, li_0, lj_0, li_1, lj_1, li_99, lj_99] at kc7); exfalso; omega)) (fun c7 => ?_)
    refine lv_aload_n hx hb dX11_hours_36 rfl (lv_at hl 2 rfl) ?_
    refine kVv (As := []) (rest := []) (wr := [((a 202), .inl (cy 0, 2260, .inl (fun _ => 0))), ((a 203), .inl (cy 0, 6780, .inl (fun _ => 0))), ((a 204), .inl (cy 3, 3, .inl (fun _ => 0))), ((a 205), .inl (cy 0, 900, .inl (fun _ => 0))), ((a 206), .inl (cy 0, 64, .inl (fun _ => 0))), ((a 207), .inl (cy 0, 6, .inl (fun _ => 0))), ((a 208), .inl (cy 0, 37, .inl (fun _ => 0))), ((a 209), .inl (cy 0, 61, .inl (fun _ => 0))), ((a 210), .inl (cy 0, 61, .inl (fun _ => 0))), ((a 211), .inl (cy 0, 61, .inl (fun _ => 0))), ((a 212), .inl (cy 0, 61, .inl (fun _ => 0))), ((a 213), .inl (cy 0, 61, .inl (fun _ => 0))), ((a 214), .inl (cy 2, 6, .inr (.inl (fun _ => 0)))), ((a 215), .inl (cy 2, 6, .inr (.inl (fun _ => 0)))), ((a 216), .inl (cy 0, 4, .inl (upd (upd (upd (upd (fun _ => 0) (0 : Int32).toNatClampNeg (-1)) (1 : Int32).toNatClampNeg (-1)) (2 : Int32).toNatClampNeg (-1)) (3 : Int32).toNatClampNeg (-1)))), ((a 217), .inl (cy 0, 4, .inl (fun _ => 0))), ((a 218), .inl (cy 2, 120, .inr (.inl (fun _ => 0))))]) hX hE (au_X11_hour_95 l D cy a) (cwVA 0 htA wd_1799 wd_1796 wd_10 wd_1798 wp_93 (by decide +kernel) ⟨by decide, by decide⟩) hP hD hS [17, 18] [0, 1, 2, 3, 4, 5, 6, 7, 8, 9, 10, 11, 12, 13, 14, 15, 16] rfl rfl (by decide +kernel) 0 rfl rfl rfl rfl hl.1 rfl (Nat.le_of_ble_eq_true rfl) dX11_hours_37 (by decide) (fun W1 H locs hw hP hD hS => ?_)
    refine W.widen (k := 0) (n := 0) (by decide) (by decide) ?_
    obtain rfl := hw
    have hP : va_P D vwCl [((a 202), .inl (cy 0, 2260, .inl (fun _ => 0))), ((a 203), .inl (cy 0, 6780, .inl (fun _ => 0))), ((a 204), .inl (cy 3, 3, .inl (fun _ => 0))), ((a 205), .inl (cy 0, 900, .inl (fun _ => 0))), ((a 206), .inl (cy 0, 64, .inl (fun _ => 0))), ((a 207), .inl (cy 0, 6, .inl (fun _ => 0))), ((a 208), .inl (cy 0, 37, .inl (fun _ => 0))), ((a 209), .inl (cy 0, 61, .inl (fun _ => 0))), ((a 210), .inl (cy 0, 61, .inl (fun _ => 0))), ((a 211), .inl (cy 0, 61, .inl (fun _ => 0))), ((a 212), .inl (cy 0, 61, .inl (fun _ => 0))), ((a 213), .inl (cy 0, 61, .inl (fun _ => 0))), ((a 214), .inl (cy 2, 6, .inr (.inl (fun _ => 0)))), ((a 215), .inl (cy 2, 6, .inr (.inl (fun _ => 0)))), ((a 216), .inl (cy 0, 4, .inl (upd (upd (upd (upd (fun _ => 0) (0 : Int32).toNatClampNeg (-1)) (1 : Int32).toNatClampNeg (-1)) (2 : Int32).toNatClampNeg (-1)) (3 : Int32).toNatClampNeg (-1)))), ((a 217), .inl (cy 0, 4, .inl (fun _ => 0))), ((a 218), .inl (cy 2, 120, .inr (.inl (fun _ => 0)))), ((a 201), .inl (cy 0, 2260, .inl (upd (upd (upd (upd (fun _ => 0) (1 : Int32).toNatClampNeg 1) (2 : Int32).toNatClampNeg 1) (7 : Int32).toNatClampNeg 1) (40 : Int32).toNatClampNeg 1))), ((a 200), .inr (11, [.ref (a 201), .ref (a 202), .ref (a 203), .ref (a 204), .int 0, .ref (a 205), .int 0, .int 0, .int 0, .int 0, .int 0, .int 0, .int 0, .int 0, .int 0, .int (-1), .int 0, .int 0, .int 0, .ref (a 206), .ref (a 207), .int 0, .int 0, .ref (a 208), .int 0, .int 0, .int 0, .int 0, .ref (a 209), .ref (a 210), .ref (a 211), .ref (a 212), .ref (a 213), .ref (a 214), .ref (a 215), .int 0, .ref (a 216), .ref (a 217), .ref (a 218)]))] H := hP
    have hD := va_ca hP hD
    refine lv_iload_n hx hb dX11_hours_40 rfl (lv_at hl 1 rfl) ?_
    refine lv_aload_n hx hb dX11_hours_41 rfl (lv_at hl 2 rfl) ?_
    refine va_get (ci := 11) (v := .int 0) (C := RX11) (T := TX11) (N := 39) hx hb htA in_X11 hown hK hP 18 rfl rfl 21 (by decide) (htA _ wd_1375) (fun _ h => h) rfl dX11_hours_42 ?_
    refine kSi (As := [.int 0]) (rest := [.int 0]) (wr := [((a 202), .inl (cy 0, 2260, .inl (fun _ => 0))), ((a 203), .inl (cy 0, 6780, .inl (fun _ => 0))), ((a 204), .inl (cy 3, 3, .inl (fun _ => 0))), ((a 205), .inl (cy 0, 900, .inl (fun _ => 0))), ((a 206), .inl (cy 0, 64, .inl (fun _ => 0))), ((a 207), .inl (cy 0, 6, .inl (fun _ => 0))), ((a 208), .inl (cy 0, 37, .inl (fun _ => 0))), ((a 209), .inl (cy 0, 61, .inl (fun _ => 0))), ((a 210), .inl (cy 0, 61, .inl (fun _ => 0))), ((a 211), .inl (cy 0, 61, .inl (fun _ => 0))), ((a 212), .inl (cy 0, 61, .inl (fun _ => 0))), ((a 213), .inl (cy 0, 61, .inl (fun _ => 0))), ((a 214), .inl (cy 2, 6, .inr (.inl (fun _ => 0)))), ((a 215), .inl (cy 2, 6, .inr (.inl (fun _ => 0)))), ((a 216), .inl (cy 0, 4, .inl (upd (upd (upd (upd (fun _ => 0) (0 : Int32).toNatClampNeg (-1)) (1 : Int32).toNatClampNeg (-1)) (2 : Int32).toNatClampNeg (-1)) (3 : Int32).toNatClampNeg (-1)))), ((a 217), .inl (cy 0, 4, .inl (fun _ => 0))), ((a 218), .inl (cy 2, 120, .inr (.inl (fun _ => 0)))), ((a 201), .inl (cy 0, 2260, .inl (upd (upd (upd (upd (fun _ => 0) (1 : Int32).toNatClampNeg 1) (2 : Int32).toNatClampNeg 1) (7 : Int32).toNatClampNeg 1) (40 : Int32).toNatClampNeg 1))), ((a 200), .inr (11, [.ref (a 201), .ref (a 202), .ref (a 203), .ref (a 204), .int 0, .ref (a 205), .int 0, .int 0, .int 0, .int 0, .int 0, .int 0, .int 0, .int 0, .int 0, .int (-1), .int 0, .int 0, .int 0, .ref (a 206), .ref (a 207), .int 0, .int 0, .ref (a 208), .int 0, .int 0, .int 0, .int 0, .ref (a 209), .ref (a 210), .ref (a 211), .ref (a 212), .ref (a 213), .ref (a 214), .ref (a 215), .int 0, .ref (a 216), .ref (a 217), .ref (a 218)]))]) hX hE (au_X11_size_96 l D cy a) (cwSA 1 htA wd_1762 wd_1760 wd_10 wd_1761 (by decide +kernel) ⟨by decide, by decide⟩) hP hD hS [] [0, 1, 2, 3, 4, 5, 6, 7, 8, 9, 10, 11, 12, 13, 14, 15, 16, 17, 18] rfl rfl (by decide +kernel) rfl hl.1 rfl (Nat.le_of_ble_eq_true rfl) dX11_hours_45 (by decide) (fun r_ W1 H locs hw hP hD hS => ?_)
    refine W.widen (k := 0) (n := 0) (by decide) (by decide) ?_
    obtain ⟨rfl, rfl⟩ := hw
    have hP : va_P D vwCl [((a 202), .inl (cy 0, 2260, .inl (fun _ => 0))), ((a 203), .inl (cy 0, 6780, .inl (fun _ => 0))), ((a 204), .inl (cy 3, 3, .inl (fun _ => 0))), ((a 205), .inl (cy 0, 900, .inl (fun _ => 0))), ((a 206), .inl (cy 0, 64, .inl (fun _ => 0))), ((a 207), .inl (cy 0, 6, .inl (fun _ => 0))), ((a 208), .inl (cy 0, 37, .inl (fun _ => 0))), ((a 209), .inl (cy 0, 61, .inl (fun _ => 0))), ((a 210), .inl (cy 0, 61, .inl (fun _ => 0))), ((a 211), .inl (cy 0, 61, .inl (fun _ => 0))), ((a 212), .inl (cy 0, 61, .inl (fun _ => 0))), ((a 213), .inl (cy 0, 61, .inl (fun _ => 0))), ((a 214), .inl (cy 2, 6, .inr (.inl (fun _ => 0)))), ((a 215), .inl (cy 2, 6, .inr (.inl (fun _ => 0)))), ((a 216), .inl (cy 0, 4, .inl (upd (upd (upd (upd (fun _ => 0) (0 : Int32).toNatClampNeg (-1)) (1 : Int32).toNatClampNeg (-1)) (2 : Int32).toNatClampNeg (-1)) (3 : Int32).toNatClampNeg (-1)))), ((a 217), .inl (cy 0, 4, .inl (fun _ => 0))), ((a 218), .inl (cy 2, 120, .inr (.inl (fun _ => 0)))), ((a 201), .inl (cy 0, 2260, .inl (upd (upd (upd (upd (fun _ => 0) (1 : Int32).toNatClampNeg 1) (2 : Int32).toNatClampNeg 1) (7 : Int32).toNatClampNeg 1) (40 : Int32).toNatClampNeg 1))), ((a 200), .inr (11, [.ref (a 201), .ref (a 202), .ref (a 203), .ref (a 204), .int 0, .ref (a 205), .int 0, .int 0, .int 0, .int 0, .int 0, .int 0, .int 0, .int 0, .int 0, .int (-1), .int 0, .int 0, .int 0, .ref (a 206), .ref (a 207), .int 0, .int 0, .ref (a 208), .int 0, .int 0, .int 0, .int 0, .ref (a 209), .ref (a 210), .ref (a 211), .ref (a 212), .ref (a 213), .ref (a 214), .ref (a 215), .int 0, .ref (a 216), .ref (a 217), .ref (a 218)]))] H := hP
    have hD := va_ca hP hD
    refine lv_iadd hx hb dX11_hours_48 ?_
    refine lv_topi (fun x8 ex8 => ?_)
    obtain rfl : x8 = 0 := ex8.trans (by decide)
    refine lv_istore_n (lv' := [(2, .int 0), (3, .int 0), (0, .ref (a 200)), (1, .int p1)]) hx hb dX11_hours_49 rfl hl (by decide) rfl (fun ls hl => ?_)
    refine lv_iinc (v := 1) (lv' := [(3, .int 1), (2, .int 0), (0, .ref (a 200)), (1, .int p1)]) hx hb dX11_hours_50 hl (k := 1) rfl (by decide) (by decide) rfl (fun ls hl => ?_)
    refine lv_goto (tgt := 31) hx hb dX11_hours_53 (by decide) ?_
    refine loopT (τ := Int32 × Int32) (WS := fun i => [((a 202), .inl (cy 0, 2260, .inl (fun _ => 0))), ((a 203), .inl (cy 0, 6780, .inl (fun _ => 0))), ((a 204), .inl (cy 3, 3, .inl (fun _ => 0))), ((a 205), .inl (cy 0, 900, .inl (fun _ => 0))), ((a 206), .inl (cy 0, 64, .inl (fun _ => 0))), ((a 207), .inl (cy 0, 6, .inl (fun _ => 0))), ((a 208), .inl (cy 0, 37, .inl (fun _ => 0))), ((a 209), .inl (cy 0, 61, .inl (fun _ => 0))), ((a 210), .inl (cy 0, 61, .inl (fun _ => 0))), ((a 211), .inl (cy 0, 61, .inl (fun _ => 0))), ((a 212), .inl (cy 0, 61, .inl (fun _ => 0))), ((a 213), .inl (cy 0, 61, .inl (fun _ => 0))), ((a 214), .inl (cy 2, 6, .inr (.inl (fun _ => 0)))), ((a 215), .inl (cy 2, 6, .inr (.inl (fun _ => 0)))), ((a 216), .inl (cy 0, 4, .inl (upd (upd (upd (upd (fun _ => 0) (0 : Int32).toNatClampNeg (-1)) (1 : Int32).toNatClampNeg (-1)) (2 : Int32).toNatClampNeg (-1)) (3 : Int32).toNatClampNeg (-1)))), ((a 217), .inl (cy 0, 4, .inl (fun _ => 0))), ((a 218), .inl (cy 2, 120, .inr (.inl (fun _ => 0)))), ((a 201), .inl (cy 0, 2260, .inl (upd (upd (upd (upd (fun _ => 0) (1 : Int32).toNatClampNeg 1) (2 : Int32).toNatClampNeg 1) (7 : Int32).toNatClampNeg 1) (40 : Int32).toNatClampNeg i.2))), ((a 200), .inr (11, [.ref (a 201), .ref (a 202), .ref (a 203), .ref (a 204), .int 0, .ref (a 205), .int 0, .int 0, .int 0, .int 0, .int 0, .int 0, .int 0, .int 0, .int 0, .int (-1), .int 0, .int 0, .int 0, .ref (a 206), .ref (a 207), .int 0, .int 0, .ref (a 208), .int 0, .int 0, .int 0, .int 0, .ref (a 209), .ref (a 210), .ref (a 211), .ref (a 212), .ref (a 213), .ref (a 214), .ref (a 215), .int 0, .ref (a 216), .ref (a 217), .ref (a 218)]))]) (LV := fun i => [(3, .int i.1), (2, .int 0), (0, .ref (a 200)), (1, .int p1)]) (fun i => (100 - i.1.toInt).toNat) (fun i => 1 ≤ i.1.toInt ∧ i.1.toInt ≤ 99) ?_ (1, 1) (by decide) hP hD hS hl
    intro i_ H locs ls hI ih hP hD hS hl
    obtain ⟨v90_, v91_⟩ := i_
    obtain ⟨gA, gB⟩ := hI
    have hP : va_P D vwCl [((a 202), .inl (cy 0, 2260, .inl (fun _ => 0))), ((a 203), .inl (cy 0, 6780, .inl (fun _ => 0))), ((a 204), .inl (cy 3, 3, .inl (fun _ => 0))), ((a 205), .inl (cy 0, 900, .inl (fun _ => 0))), ((a 206), .inl (cy 0, 64, .inl (fun _ => 0))), ((a 207), .inl (cy 0, 6, .inl (fun _ => 0))), ((a 208), .inl (cy 0, 37, .inl (fun _ => 0))), ((a 209), .inl (cy 0, 61, .inl (fun _ => 0))), ((a 210), .inl (cy 0, 61, .inl (fun _ => 0))), ((a 211), .inl (cy 0, 61, .inl (fun _ => 0))), ((a 212), .inl (cy 0, 61, .inl (fun _ => 0))), ((a 213), .inl (cy 0, 61, .inl (fun _ => 0))), ((a 214), .inl (cy 2, 6, .inr (.inl (fun _ => 0)))), ((a 215), .inl (cy 2, 6, .inr (.inl (fun _ => 0)))), ((a 216), .inl (cy 0, 4, .inl (upd (upd (upd (upd (fun _ => 0) (0 : Int32).toNatClampNeg (-1)) (1 : Int32).toNatClampNeg (-1)) (2 : Int32).toNatClampNeg (-1)) (3 : Int32).toNatClampNeg (-1)))), ((a 217), .inl (cy 0, 4, .inl (fun _ => 0))), ((a 218), .inl (cy 2, 120, .inr (.inl (fun _ => 0)))), ((a 201), .inl (cy 0, 2260, .inl (upd (upd (upd (upd (fun _ => 0) (1 : Int32).toNatClampNeg 1) (2 : Int32).toNatClampNeg 1) (7 : Int32).toNatClampNeg 1) (40 : Int32).toNatClampNeg v91_))), ((a 200), .inr (11, [.ref (a 201), .ref (a 202), .ref (a 203), .ref (a 204), .int 0, .ref (a 205), .int 0, .int 0, .int 0, .int 0, .int 0, .int 0, .int 0, .int 0, .int 0, .int (-1), .int 0, .int 0, .int 0, .ref (a 206), .ref (a 207), .int 0, .int 0, .ref (a 208), .int 0, .int 0, .int 0, .int 0, .ref (a 209), .ref (a 210), .ref (a 211), .ref (a 212), .ref (a 213), .ref (a 214), .ref (a 215), .int 0, .ref (a 216), .ref (a 217), .ref (a 218)]))] H := hP
    have hD := va_ca hP hD
    have hl : lv_has ls 4 [(3, .int v90_), (2, .int 0), (0, .ref (a 200)), (1, .int p1)] := hl
    simp only at gA gB
    refine lv_iload_n hx hb dX11_hours_31 rfl (lv_at hl 0 rfl) ?_
    refine lv_iload_n hx hb dX11_hours_32 rfl (lv_at hl 3 rfl) ?_
    refine lv_icmp_ge (tgt := 56) hx hb dX11_hours_33 (by decide) (fun c9 => ?_) (fun c9 => ?_)
    · refine lv_iload_n hx hb dX11_hours_56 rfl (lv_at hl 1 rfl) ?_
      exact rI hX hE (hP.sub [18] rfl) (hD.sub [18] (by decide +kernel) rfl) hS dX11_hours_57 (by decide) (by decide) (⟨_, rfl, (by have kg5 := g5; have kg6 := g6; have kc7 := c7; have kgA := gA; have kgB := gB; have kc9 := c9; (try simp only [lg_cmp_lt, lg_cmp_le, lg_cmp_ge, lg_cmp_gt, lg_cmp_eq] at kg5); (try simp only [lg_cmp_lt, lg_cmp_le, lg_cmp_ge, lg_cmp_gt, lg_cmp_eq] at kg6); (try simp only [lg_cmp_lt, lg_cmp_le, lg_cmp_ge, lg_cmp_gt, lg_cmp_eq, fa_lt, fa_le, fa_eq, fa_lt64, fa_le64, fa_eq64, Int32.toInt_toInt64, li_0, lj_0, li_1, lj_1, li_99, lj_99] at kg5); (try simp only [lg_cmp_lt, lg_cmp_le, lg_cmp_ge, lg_cmp_gt, lg_cmp_eq, fa_lt, fa_le, fa_eq, fa_lt64, fa_le64, fa_eq64, Int32.toInt_toInt64, li_0, lj_0, li_1, lj_1, li_99, lj_99] at kg6); (try simp only [lg_cmp_lt, lg_cmp_le, lg_cmp_ge, lg_cmp_gt, lg_cmp_eq, fa_lt, fa_le, fa_eq, fa_lt64, fa_le64, fa_eq64, Int32.toInt_toInt64, li_0, lj_0, li_1, lj_1, li_99, lj_99] at kc7); (try simp only [lg_cmp_lt, lg_cmp_le, lg_cmp_ge, lg_cmp_gt, lg_cmp_eq, fa_lt, fa_le, fa_eq, fa_lt64, fa_le64, fa_eq64, Int32.toInt_toInt64, li_0, lj_0, li_1, lj_1, li_99, lj_99] at kgA); (try simp only [lg_cmp_lt, lg_cmp_le, lg_cmp_ge, lg_cmp_gt, lg_cmp_eq, fa_lt, fa_le, fa_eq, fa_lt64, fa_le64, fa_eq64, Int32.toInt_toInt64, li_0, lj_0, li_1, lj_1, li_99, lj_99] at kgB); (try simp only [lg_cmp_lt, lg_cmp_le, lg_cmp_ge, lg_cmp_gt, lg_cmp_eq, fa_lt, fa_le, fa_eq, fa_lt64, fa_le64, fa_eq64, Int32.toInt_toInt64, li_0, lj_0, li_1, lj_1, li_99, lj_99] at kc9); first | rfl | (congr 2; first | rfl | (unfold kf_hours; (repeat' split) <;> first | rfl | (exfalso; omega)))), (fun _ => (by have kg5 := g5; have kg6 := g6; have kc7 := c7; have kgA := gA; have kgB := gB; have kc9 := c9; (try simp only [lg_cmp_lt, lg_cmp_le, lg_cmp_ge, lg_cmp_gt, lg_cmp_eq] at kg5); (try simp only [lg_cmp_lt, lg_cmp_le, lg_cmp_ge, lg_cmp_gt, lg_cmp_eq] at kg6); (try simp only [lg_cmp_lt, lg_cmp_le, lg_cmp_ge, lg_cmp_gt, lg_cmp_eq, fa_lt, fa_le, fa_eq, fa_lt64, fa_le64, fa_eq64, Int32.toInt_toInt64, li_0, lj_0, li_1, lj_1, li_99, lj_99] at kg5); (try simp only [lg_cmp_lt, lg_cmp_le, lg_cmp_ge, lg_cmp_gt, lg_cmp_eq, fa_lt, fa_le, fa_eq, fa_lt64, fa_le64, fa_eq64, Int32.toInt_toInt64, li_0, lj_0, li_1, lj_1, li_99, lj_99] at kg6); (try simp only [lg_cmp_lt, lg_cmp_le, lg_cmp_ge, lg_cmp_gt, lg_cmp_eq, fa_lt, fa_le, fa_eq, fa_lt64, fa_le64, fa_eq64, Int32.toInt_toInt64, li_0, lj_0, li_1, lj_1, li_99, lj_99] at kc7); (try simp only [lg_cmp_lt, lg_cmp_le, lg_cmp_ge, lg_cmp_gt, lg_cmp_eq, fa_lt, fa_le, fa_eq, fa_lt64, fa_le64, fa_eq64, Int32.toInt_toInt64, li_0, lj_0, li_1, lj_1, li_99, lj_99] at kgA); (try simp only [lg_cmp_lt, lg_cmp_le, lg_cmp_ge, lg_cmp_gt, lg_cmp_eq, fa_lt, fa_le, fa_eq, fa_lt64, fa_le64, fa_eq64, Int32.toInt_toInt64, li_0, lj_0, li_1, lj_1, li_99, lj_99] at kgB); (try simp only [lg_cmp_lt, lg_cmp_le, lg_cmp_ge, lg_cmp_gt, lg_cmp_eq, fa_lt, fa_le, fa_eq, fa_lt64, fa_le64, fa_eq64, Int32.toInt_toInt64, li_0, lj_0, li_1, lj_1, li_99, lj_99] at kc9); first | rfl | decide | (unfold vf_hours; (repeat' split) <;> first | rfl | decide | (exfalso; omega))))⟩)
    · refine lv_aload_n hx hb dX11_hours_36 rfl (lv_at hl 2 rfl) ?_
      refine kVv (As := []) (rest := []) (wr := [((a 202), .inl (cy 0, 2260, .inl (fun _ => 0))), ((a 203), .inl (cy 0, 6780, .inl (fun _ => 0))), ((a 204), .inl (cy 3, 3, .inl (fun _ => 0))), ((a 205), .inl (cy 0, 900, .inl (fun _ => 0))), ((a 206), .inl (cy 0, 64, .inl (fun _ => 0))), ((a 207), .inl (cy 0, 6, .inl (fun _ => 0))), ((a 208), .inl (cy 0, 37, .inl (fun _ => 0))), ((a 209), .inl (cy 0, 61, .inl (fun _ => 0))), ((a 210), .inl (cy 0, 61, .inl (fun _ => 0))), ((a 211), .inl (cy 0, 61, .inl (fun _ => 0))), ((a 212), .inl (cy 0, 61, .inl (fun _ => 0))), ((a 213), .inl (cy 0, 61, .inl (fun _ => 0))), ((a 214), .inl (cy 2, 6, .inr (.inl (fun _ => 0)))), ((a 215), .inl (cy 2, 6, .inr (.inl (fun _ => 0)))), ((a 216), .inl (cy 0, 4, .inl (upd (upd (upd (upd (fun _ => 0) (0 : Int32).toNatClampNeg (-1)) (1 : Int32).toNatClampNeg (-1)) (2 : Int32).toNatClampNeg (-1)) (3 : Int32).toNatClampNeg (-1)))), ((a 217), .inl (cy 0, 4, .inl (fun _ => 0))), ((a 218), .inl (cy 2, 120, .inr (.inl (fun _ => 0))))]) hX hE (au_X11_hour_100 l D cy a v91_) (cwVA 0 htA wd_1799 wd_1796 wd_10 wd_1798 wp_93 (by decide +kernel) ⟨by decide, by decide⟩) hP hD hS [17, 18] [0, 1, 2, 3, 4, 5, 6, 7, 8, 9, 10, 11, 12, 13, 14, 15, 16] rfl rfl (by decide +kernel) 1 rfl rfl rfl rfl hl.1 rfl (Nat.le_of_ble_eq_true rfl) dX11_hours_37 (by decide) (fun W1 H locs hw hP hD hS => ?_)
      refine W.widen (k := 0) (n := 0) (by decide) (by decide) ?_
      obtain rfl := hw
      have hP : va_P D vwCl [((a 202), .inl (cy 0, 2260, .inl (fun _ => 0))), ((a 203), .inl (cy 0, 6780, .inl (fun _ => 0))), ((a 204), .inl (cy 3, 3, .inl (fun _ => 0))), ((a 205), .inl (cy 0, 900, .inl (fun _ => 0))), ((a 206), .inl (cy 0, 64, .inl (fun _ => 0))), ((a 207), .inl (cy 0, 6, .inl (fun _ => 0))), ((a 208), .inl (cy 0, 37, .inl (fun _ => 0))), ((a 209), .inl (cy 0, 61, .inl (fun _ => 0))), ((a 210), .inl (cy 0, 61, .inl (fun _ => 0))), ((a 211), .inl (cy 0, 61, .inl (fun _ => 0))), ((a 212), .inl (cy 0, 61, .inl (fun _ => 0))), ((a 213), .inl (cy 0, 61, .inl (fun _ => 0))), ((a 214), .inl (cy 2, 6, .inr (.inl (fun _ => 0)))), ((a 215), .inl (cy 2, 6, .inr (.inl (fun _ => 0)))), ((a 216), .inl (cy 0, 4, .inl (upd (upd (upd (upd (fun _ => 0) (0 : Int32).toNatClampNeg (-1)) (1 : Int32).toNatClampNeg (-1)) (2 : Int32).toNatClampNeg (-1)) (3 : Int32).toNatClampNeg (-1)))), ((a 217), .inl (cy 0, 4, .inl (fun _ => 0))), ((a 218), .inl (cy 2, 120, .inr (.inl (fun _ => 0)))), ((a 201), .inl (cy 0, 2260, .inl (upd (upd (upd (upd (fun _ => 0) (1 : Int32).toNatClampNeg 1) (2 : Int32).toNatClampNeg 1) (7 : Int32).toNatClampNeg 1) (40 : Int32).toNatClampNeg (v91_ + 1)))), ((a 200), .inr (11, [.ref (a 201), .ref (a 202), .ref (a 203), .ref (a 204), .int 0, .ref (a 205), .int 0, .int 0, .int 0, .int 0, .int 0, .int 0, .int 0, .int 0, .int 0, .int (-1), .int 0, .int 0, .int 0, .ref (a 206), .ref (a 207), .int 0, .int 0, .ref (a 208), .int 0, .int 0, .int 0, .int 0, .ref (a 209), .ref (a 210), .ref (a 211), .ref (a 212), .ref (a 213), .ref (a 214), .ref (a 215), .int 0, .ref (a 216), .ref (a 217), .ref (a 218)]))] H := hP
      have hD := va_ca hP hD
      refine lv_iload_n hx hb dX11_hours_40 rfl (lv_at hl 1 rfl) ?_
      refine lv_aload_n hx hb dX11_hours_41 rfl (lv_at hl 2 rfl) ?_
      refine va_get (ci := 11) (v := .int 0) (C := RX11) (T := TX11) (N := 39) hx hb htA in_X11 hown hK hP 18 rfl rfl 21 (by decide) (htA _ wd_1375) (fun _ h => h) rfl dX11_hours_42 ?_
      refine kSi (As := [.int 0]) (rest := [.int 0]) (wr := [((a 202), .inl (cy 0, 2260, .inl (fun _ => 0))), ((a 203), .inl (cy 0, 6780, .inl (fun _ => 0))), ((a 204), .inl (cy 3, 3, .inl (fun _ => 0))), ((a 205), .inl (cy 0, 900, .inl (fun _ => 0))), ((a 206), .inl (cy 0, 64, .inl (fun _ => 0))), ((a 207), .inl (cy 0, 6, .inl (fun _ => 0))), ((a 208), .inl (cy 0, 37, .inl (fun _ => 0))), ((a 209), .inl (cy 0, 61, .inl (fun _ => 0))), ((a 210), .inl (cy 0, 61, .inl (fun _ => 0))), ((a 211), .inl (cy 0, 61, .inl (fun _ => 0))), ((a 212), .inl (cy 0, 61, .inl (fun _ => 0))), ((a 213), .inl (cy 0, 61, .inl (fun _ => 0))), ((a 214), .inl (cy 2, 6, .inr (.inl (fun _ => 0)))), ((a 215), .inl (cy 2, 6, .inr (.inl (fun _ => 0)))), ((a 216), .inl (cy 0, 4, .inl (upd (upd (upd (upd (fun _ => 0) (0 : Int32).toNatClampNeg (-1)) (1 : Int32).toNatClampNeg (-1)) (2 : Int32).toNatClampNeg (-1)) (3 : Int32).toNatClampNeg (-1)))), ((a 217), .inl (cy 0, 4, .inl (fun _ => 0))), ((a 218), .inl (cy 2, 120, .inr (.inl (fun _ => 0)))), ((a 201), .inl (cy 0, 2260, .inl (upd (upd (upd (upd (fun _ => 0) (1 : Int32).toNatClampNeg 1) (2 : Int32).toNatClampNeg 1) (7 : Int32).toNatClampNeg 1) (40 : Int32).toNatClampNeg (v91_ + 1)))), ((a 200), .inr (11, [.ref (a 201), .ref (a 202), .ref (a 203), .ref (a 204), .int 0, .ref (a 205), .int 0, .int 0, .int 0, .int 0, .int 0, .int 0, .int 0, .int 0, .int 0, .int (-1), .int 0, .int 0, .int 0, .ref (a 206), .ref (a 207), .int 0, .int 0, .ref (a 208), .int 0, .int 0, .int 0, .int 0, .ref (a 209), .ref (a 210), .ref (a 211), .ref (a 212), .ref (a 213), .ref (a 214), .ref (a 215), .int 0, .ref (a 216), .ref (a 217), .ref (a 218)]))]) hX hE (au_X11_size_96 l D cy a) (cwSA 1 htA wd_1762 wd_1760 wd_10 wd_1761 (by decide +kernel) ⟨by decide, by decide⟩) hP hD hS [] [0, 1, 2, 3, 4, 5, 6, 7, 8, 9, 10, 11, 12, 13, 14, 15, 16, 17, 18] rfl rfl (by decide +kernel) rfl hl.1 rfl (Nat.le_of_ble_eq_true rfl) dX11_hours_45 (by decide) (fun r_ W1 H locs hw hP hD hS => ?_)
      refine W.widen (k := 0) (n := 0) (by decide) (by decide) ?_
      obtain ⟨rfl, rfl⟩ := hw
      have hP : va_P D vwCl [((a 202), .inl (cy 0, 2260, .inl (fun _ => 0))), ((a 203), .inl (cy 0, 6780, .inl (fun _ => 0))), ((a 204), .inl (cy 3, 3, .inl (fun _ => 0))), ((a 205), .inl (cy 0, 900, .inl (fun _ => 0))), ((a 206), .inl (cy 0, 64, .inl (fun _ => 0))), ((a 207), .inl (cy 0, 6, .inl (fun _ => 0))), ((a 208), .inl (cy 0, 37, .inl (fun _ => 0))), ((a 209), .inl (cy 0, 61, .inl (fun _ => 0))), ((a 210), .inl (cy 0, 61, .inl (fun _ => 0))), ((a 211), .inl (cy 0, 61, .inl (fun _ => 0))), ((a 212), .inl (cy 0, 61, .inl (fun _ => 0))), ((a 213), .inl (cy 0, 61, .inl (fun _ => 0))), ((a 214), .inl (cy 2, 6, .inr (.inl (fun _ => 0)))), ((a 215), .inl (cy 2, 6, .inr (.inl (fun _ => 0)))), ((a 216), .inl (cy 0, 4, .inl (upd (upd (upd (upd (fun _ => 0) (0 : Int32).toNatClampNeg (-1)) (1 : Int32).toNatClampNeg (-1)) (2 : Int32).toNatClampNeg (-1)) (3 : Int32).toNatClampNeg (-1)))), ((a 217), .inl (cy 0, 4, .inl (fun _ => 0))), ((a 218), .inl (cy 2, 120, .inr (.inl (fun _ => 0)))), ((a 201), .inl (cy 0, 2260, .inl (upd (upd (upd (upd (fun _ => 0) (1 : Int32).toNatClampNeg 1) (2 : Int32).toNatClampNeg 1) (7 : Int32).toNatClampNeg 1) (40 : Int32).toNatClampNeg (v91_ + 1)))), ((a 200), .inr (11, [.ref (a 201), .ref (a 202), .ref (a 203), .ref (a 204), .int 0, .ref (a 205), .int 0, .int 0, .int 0, .int 0, .int 0, .int 0, .int 0, .int 0, .int 0, .int (-1), .int 0, .int 0, .int 0, .ref (a 206), .ref (a 207), .int 0, .int 0, .ref (a 208), .int 0, .int 0, .int 0, .int 0, .ref (a 209), .ref (a 210), .ref (a 211), .ref (a 212), .ref (a 213), .ref (a 214), .ref (a 215), .int 0, .ref (a 216), .ref (a 217), .ref (a 218)]))] H := hP
      have hD := va_ca hP hD
      refine lv_iadd hx hb dX11_hours_48 ?_
      refine lv_topi (fun x10 ex10 => ?_)
      obtain rfl : x10 = 0 := ex10.trans (by decide)
      refine lv_istore_n (lv' := [(2, .int 0), (3, .int v90_), (0, .ref (a 200)), (1, .int p1)]) hx hb dX11_hours_49 rfl hl (by decide) rfl (fun ls hl => ?_)
      refine lv_iinc (v := v90_ + 1) (lv' := [(3, .int (v90_ + 1)), (2, .int 0), (0, .ref (a 200)), (1, .int p1)]) hx hb dX11_hours_50 hl (k := 1) rfl rfl (by decide) rfl (fun ls hl => ?_)
      refine lv_goto (tgt := 31) hx hb dX11_hours_53 (by decide) ?_
      exact ih (v90_ + 1, (v91_ + 1)) H locs ls (by have kg5 := g5; have kg6 := g6; have kc7 := c7; have kgA := gA; have kgB := gB; have kc9 := c9; (try simp only [lg_cmp_lt, lg_cmp_le, lg_cmp_ge, lg_cmp_gt, lg_cmp_eq] at kg5); (try simp only [lg_cmp_lt, lg_cmp_le, lg_cmp_ge, lg_cmp_gt, lg_cmp_eq] at kg6); (try simp only [lg_cmp_lt, lg_cmp_le, lg_cmp_ge, lg_cmp_gt, lg_cmp_eq, fa_lt, fa_le, fa_eq, fa_lt64, fa_le64, fa_eq64, Int32.toInt_toInt64, li_0, lj_0, li_1, lj_1, li_99, lj_99] at kg5); (try simp only [lg_cmp_lt, lg_cmp_le, lg_cmp_ge, lg_cmp_gt, lg_cmp_eq, fa_lt, fa_le, fa_eq, fa_lt64, fa_le64, fa_eq64, Int32.toInt_toInt64, li_0, lj_0, li_1, lj_1, li_99, lj_99] at kg6); (try simp only [lg_cmp_lt, lg_cmp_le, lg_cmp_ge, lg_cmp_gt, lg_cmp_eq, fa_lt, fa_le, fa_eq, fa_lt64, fa_le64, fa_eq64, Int32.toInt_toInt64, li_0, lj_0, li_1, lj_1, li_99, lj_99] at kc7); (try simp only [lg_cmp_lt, lg_cmp_le, lg_cmp_ge, lg_cmp_gt, lg_cmp_eq, fa_lt, fa_le, fa_eq, fa_lt64, fa_le64, fa_eq64, Int32.toInt_toInt64, li_0, lj_0, li_1, lj_1, li_99, lj_99] at kgA); (try simp only [lg_cmp_lt, lg_cmp_le, lg_cmp_ge, lg_cmp_gt, lg_cmp_eq, fa_lt, fa_le, fa_eq, fa_lt64, fa_le64, fa_eq64, Int32.toInt_toInt64, li_0, lj_0, li_1, lj_1, li_99, lj_99] at kgB); (try simp only [lg_cmp_lt, lg_cmp_le, lg_cmp_ge, lg_cmp_gt, lg_cmp_eq, fa_lt, fa_le, fa_eq, fa_lt64, fa_le64, fa_eq64, Int32.toInt_toInt64, li_0, lj_0, li_1, lj_1, li_99, lj_99] at kc9); have hi1 := inc32 v90_ (by omega); simp only; constructor <;> omega) (by have kg5 := g5; have kg6 := g6; have kc7 := c7; have kgA := gA; have kgB := gB; have kc9 := c9; (try simp only [lg_cmp_lt, lg_cmp_le, lg_cmp_ge, lg_cmp_gt, lg_cmp_eq] at kg5); (try simp only [lg_cmp_lt, lg_cmp_le, lg_cmp_ge, lg_cmp_gt, lg_cmp_eq] at kg6); (try simp only [lg_cmp_lt, lg_cmp_le, lg_cmp_ge, lg_cmp_gt, lg_cmp_eq, fa_lt, fa_le, fa_eq, fa_lt64, fa_le64, fa_eq64, Int32.toInt_toInt64, li_0, lj_0, li_1, lj_1, li_99, lj_99] at kg5); (try simp only [lg_cmp_lt, lg_cmp_le, lg_cmp_ge, lg_cmp_gt, lg_cmp_eq, fa_lt, fa_le, fa_eq, fa_lt64, fa_le64, fa_eq64, Int32.toInt_toInt64, li_0, lj_0, li_1, lj_1, li_99, lj_99] at kg6); (try simp only [lg_cmp_lt, lg_cmp_le, lg_cmp_ge, lg_cmp_gt, lg_cmp_eq, fa_lt, fa_le, fa_eq, fa_lt64, fa_le64, fa_eq64, Int32.toInt_toInt64, li_0, lj_0, li_1, lj_1, li_99, lj_99] at kc7); (try simp only [lg_cmp_lt, lg_cmp_le, lg_cmp_ge, lg_cmp_gt, lg_cmp_eq, fa_lt, fa_le, fa_eq, fa_lt64, fa_le64, fa_eq64, Int32.toInt_toInt64, li_0, lj_0, li_1, lj_1, li_99, lj_99] at kgA); (try simp only [lg_cmp_lt, lg_cmp_le, lg_cmp_ge, lg_cmp_gt, lg_cmp_eq, fa_lt, fa_le, fa_eq, fa_lt64, fa_le64, fa_eq64, Int32.toInt_toInt64, li_0, lj_0, li_1, lj_1, li_99, lj_99] at kgB); (try simp only [lg_cmp_lt, lg_cmp_le, lg_cmp_ge, lg_cmp_gt, lg_cmp_eq, fa_lt, fa_le, fa_eq, fa_lt64, fa_le64, fa_eq64, Int32.toInt_toInt64, li_0, lj_0, li_1, lj_1, li_99, lj_99] at kc9); have hi1 := inc32 v90_ (by omega); simp only; omega) hP hD hS hl
set_option maxHeartbeats 4000000 in
set_option maxRecDepth 100000 in
theorem au_X11_within_101 (l : Launch) (D : va_G) (cy : Nat → ClassId) (a : Nat → Nat) (w1_ : Int64) : Ci l yX11_within cX11_within 6 (some .boolean) { frames := 0, cells := 0, slots := 0, locals := 0 } D cy [.long w1_, .long 0, .long 999] [] (fun r W1 => (((lg_cmp w1_ 0) < 0) ∧ W1 = [] ∧ r = 0) ∨ ((¬ (lg_cmp w1_ 0) < 0) ∧ (0 < (lg_cmp w1_ 999)) ∧ W1 = [] ∧ r = 0) ∨ ((¬ (lg_cmp w1_ 0) < 0) ∧ (¬ 0 < (lg_cmp w1_ 999)) ∧ W1 = [] ∧ r = 1)) := by
  refine Ci.of (by decide) (Nat.le_of_ble_eq_true rfl) ?_
  intro p e s m below meth c A ls hX hE hP hD hl
  obtain ⟨hx, hb, hr, hml, hown, htA, hlk⟩ := id hX
  have hK := hE.1
  have hS : va_S A s.heap s.heap [] := va_S.rf
  have hl : lv_has ls 6 [(0, .long w1_), (2, .long 0), (4, .long 999)] := hl
  refine lv_lload_n hx hb dX11_within_0 rfl (lv_at hl 0 rfl) ?_
  refine lv_lload_n hx hb dX11_within_1 rfl (lv_at hl 1 rfl) ?_
  refine W.lcmp hx hb dX11_within_2 ?_
  refine lv_if_lt (tgt := 17) hx hb dX11_within_3 (by decide) (fun c2 => ?_) (fun c2 => ?_)
  · refine lv_iconst (v := 0) hx hb dX11_within_17 (by decide) ?_
    exact rZ hX (by decide) hE hP hD hS dX11_within_18 (by decide) (by decide) (Or.inl (⟨c2, rfl, rfl⟩))
  · refine lv_lload_n hx hb dX11_within_6 rfl (lv_at hl 0 rfl) ?_
    refine lv_lload hx hb dX11_within_7 (lv_at hl 2 rfl) ?_
    refine W.lcmp hx hb dX11_within_9 ?_
    refine lv_if_gt (tgt := 17) hx hb dX11_within_10 (by decide) (fun c4 => ?_) (fun c4 => ?_)
    · refine lv_iconst (v := 0) hx hb dX11_within_17 (by decide) ?_
      exact rZ hX (by decide) hE hP hD hS dX11_within_18 (by decide) (by decide) (Or.inr (Or.inl (⟨c2, c4, rfl, rfl⟩)))
    · refine lv_iconst (v := 1) hx hb dX11_within_13 (by decide) ?_
      refine lv_goto (tgt := 18) hx hb dX11_within_14 (by decide) ?_
      exact rZ hX (by decide) hE hP hD hS dX11_within_18 (by decide) (by decide) (Or.inr (Or.inr (⟨c2, c4, rfl, rfl⟩)))
set_option maxHeartbeats 4000000 in
set_option maxRecDepth 100000 in
theorem au_X11_putsAside_102 (l : Launch) (D : va_G) (cy : Nat → ClassId) (a : Nat → Nat) : Cv l yX11_putsAside cX11_putsAside 2 none { frames := 0, cells := 0, slots := 0, locals := 0 } D cy [.ref (a 200)] [((a 208), .inl (cy 0, 37, .inl (fun _ => 0))), ((a 200), .inr (11, [.ref (a 201), .ref (a 202), .ref (a 203), .ref (a 204), .int 0, .ref (a 205), .int 0, .int 0, .int 0, .int 0, .int 0, .int 0, .int 0, .int 0, .int 0, .int (-1), .int 0, .int 0, .int 0, .ref (a 206), .ref (a 207), .int 0, .int 0, .ref (a 208), .int 0, .int 0, .int 0, .int 0, .ref (a 209), .ref (a 210), .ref (a 211), .ref (a 212), .ref (a 213), .ref (a 214), .ref (a 215), .int 0, .ref (a 216), .ref (a 217), .ref (a 218)])), ((a 201), .inl (cy 0, 2260, .inl (upd (upd (fun _ => 0) (1 : Int32).toNatClampNeg 1) (2 : Int32).toNatClampNeg 1)))] (fun W1 => (W1 = [((a 208), .inl (cy 0, 37, .inl (fun _ => 0))), ((a 200), .inr (11, [.ref (a 201), .ref (a 202), .ref (a 203), .ref (a 204), .int 0, .ref (a 205), .int 0, .int 0, .int 0, .int 0, .int 0, .int 0, .int 0, .int 0, .int 0, .int (-1), .int 0, .int 0, .int 0, .ref (a 206), .ref (a 207), .int 0, .int 0, .ref (a 208), .int 0, .int 0, .int 0, .int 0, .ref (a 209), .ref (a 210), .ref (a 211), .ref (a 212), .ref (a 213), .ref (a 214), .ref (a 215), .int 0, .ref (a 216), .ref (a 217), .ref (a 218)])), ((a 201), .inl (cy 0, 2260, .inl (upd (upd (fun _ => 0) (1 : Int32).toNatClampNeg 1) (2 : Int32).toNatClampNeg 1)))])) := by
  refine Cv.of (by decide) (Nat.le_of_ble_eq_true rfl) ?_
  intro p e s m below meth c A ls hX hE hP hD hl hin
  obtain ⟨hx, hb, hr, hml, hown, htA, hlk⟩ := id hX
  have hK := hE.1
  have hS : va_S A s.heap s.heap [] := va_S.rf
  have hl : lv_has ls 2 [(0, .ref (a 200))] := hl
  refine lv_iconst (v := 0) hx hb dX11_putsAside_0 (by decide) ?_
  refine lv_istore_n (lv' := [(1, .int 0), (0, .ref (a 200))]) hx hb dX11_putsAside_1 rfl hl (by decide) rfl (fun ls hl => ?_)
  refine lv_iload_n hx hb dX11_putsAside_2 rfl (lv_at hl 0 rfl) ?_
  refine lv_bipush (v := 37) hx hb dX11_putsAside_3 (by decide) ?_
  refine lv_icmp_ge (tgt := 29) hx hb dX11_putsAside_5 (by decide) (fun q => absurd q (by decide)) (fun _ => ?_)
  refine lv_aload_n hx hb dX11_putsAside_8 rfl (lv_at hl 1 rfl) ?_
  refine va_get (ci := 11) (v := .ref (a 208)) (C := RX11) (T := TX11) (N := 39) hx hb htA in_X11 hown hK hP 1 rfl rfl 23 (by decide) (htA _ wd_1377) (fun _ h => h) rfl dX11_putsAside_9 ?_
  refine lv_iload_n hx hb dX11_putsAside_12 rfl (lv_at hl 0 rfl) ?_
  refine lv_aload_n hx hb dX11_putsAside_13 rfl (lv_at hl 1 rfl) ?_
  refine va_get (ci := 11) (v := .ref (a 201)) (C := RX11) (T := TX11) (N := 39) hx hb htA in_X11 hown hK hP 1 rfl rfl 0 (by decide) (htA _ wd_1354) (fun _ h => h) rfl dX11_putsAside_14 ?_
  refine lv_bipush (v := 8) hx hb dX11_putsAside_17 (by decide) ?_
  refine lv_iload_n hx hb dX11_putsAside_19 rfl (lv_at hl 0 rfl) ?_
  refine lv_iadd hx hb dX11_putsAside_20 ?_
  refine lv_topi (fun x1 ex1 => ?_)
  obtain rfl : x1 = 8 := ex1.trans (by decide)
  refine va_iald hx hb hK hP 2 0 rfl rfl (in_lit (by decide)) dX11_putsAside_21 ?_
  refine lv_topi (fun x2 ex2 => ?_)
  obtain rfl : x2 = 0 := ex2.trans (by first | decide | rfl)
  refine va_iast hx hb hK hP hD hS 0 0 rfl rfl (in_lit (by decide)) dX11_putsAside_22 (fun H locs hP hD hS => ?_)
  rw [fa_upd_same (f := fun _ => 0) (i := (0 : Int32).toNatClampNeg) (x := 0) (by first | decide | rfl)] at hP hD
  have hP : va_P D vwCl [((a 208), .inl (cy 0, 37, .inl (fun _ => 0))), ((a 200), .inr (11, [.ref (a 201), .ref (a 202), .ref (a 203), .ref (a 204), .int 0, .ref (a 205), .int 0, .int 0, .int 0, .int 0, .int 0, .int 0, .int 0, .int 0, .int 0, .int (-1), .int 0, .int 0, .int 0, .ref (a 206), .ref (a 207), .int 0, .int 0, .ref (a 208), .int 0, .int 0, .int 0, .int 0, .ref (a 209), .ref (a 210), .ref (a 211), .ref (a 212), .ref (a 213), .ref (a 214), .ref (a 215), .int 0, .ref (a 216), .ref (a 217), .ref (a 218)])), ((a 201), .inl (cy 0, 2260, .inl (upd (upd (fun _ => 0) (1 : Int32).toNatClampNeg 1) (2 : Int32).toNatClampNeg 1)))] H := hP
  have hD := va_ca hP hD
  refine lv_iinc (v := 1) (lv' := [(1, .int 1), (0, .ref (a 200))]) hx hb dX11_putsAside_23 hl (k := 0) rfl (by decide) (by decide) rfl (fun ls hl => ?_)
  refine lv_goto (tgt := 2) hx hb dX11_putsAside_26 (by decide) ?_
  refine lv_iload_n hx hb dX11_putsAside_2 rfl (lv_at hl 0 rfl) ?_
  refine lv_bipush (v := 37) hx hb dX11_putsAside_3 (by decide) ?_
  refine lv_icmp_ge (tgt := 29) hx hb dX11_putsAside_5 (by decide) (fun q => absurd q (by decide)) (fun _ => ?_)
  refine lv_aload_n hx hb dX11_putsAside_8 rfl (lv_at hl 1 rfl) ?_
  refine va_get (ci := 11) (v := .ref (a 208)) (C := RX11) (T := TX11) (N := 39) hx hb htA in_X11 hown hK hP 1 rfl rfl 23 (by decide) (htA _ wd_1377) (fun _ h => h) rfl dX11_putsAside_9 ?_
  refine lv_iload_n hx hb dX11_putsAside_12 rfl (lv_at hl 0 rfl) ?_
  refine lv_aload_n hx hb dX11_putsAside_13 rfl (lv_at hl 1 rfl) ?_
  refine va_get (ci := 11) (v := .ref (a 201)) (C := RX11) (T := TX11) (N := 39) hx hb htA in_X11 hown hK hP 1 rfl rfl 0 (by decide) (htA _ wd_1354) (fun _ h => h) rfl dX11_putsAside_14 ?_
  refine lv_bipush (v := 8) hx hb dX11_putsAside_17 (by decide) ?_
  refine lv_iload_n hx hb dX11_putsAside_19 rfl (lv_at hl 0 rfl) ?_
  refine lv_iadd hx hb dX11_putsAside_20 ?_
  refine lv_topi (fun x3 ex3 => ?_)
  obtain rfl : x3 = 9 := ex3.trans (by decide)
  refine va_iald hx hb hK hP 2 0 rfl rfl (in_lit (by decide)) dX11_putsAside_21 ?_
  refine lv_topi (fun x4 ex4 => ?_)
  obtain rfl : x4 = 0 := ex4.trans (by first | decide | rfl)
  refine va_iast hx hb hK hP hD hS 0 0 rfl rfl (in_lit (by decide)) dX11_putsAside_22 (fun H locs hP hD hS => ?_)
  rw [fa_upd_same (f := fun _ => 0) (i := (1 : Int32).toNatClampNeg) (x := 0) (by first | decide | rfl)] at hP hD
  have hP : va_P D vwCl [((a 208), .inl (cy 0, 37, .inl (fun _ => 0))), ((a 200), .inr (11, [.ref (a 201), .ref (a 202), .ref (a 203), .ref (a 204), .int 0, .ref (a 205), .int 0, .int 0, .int 0, .int 0, .int 0, .int 0, .int 0, .int 0, .int 0, .int (-1), .int 0, .int 0, .int 0, .ref (a 206), .ref (a 207), .int 0, .int 0, .ref (a 208), .int 0, .int 0, .int 0, .int 0, .ref (a 209), .ref (a 210), .ref (a 211), .ref (a 212), .ref (a 213), .ref (a 214), .ref (a 215), .int 0, .ref (a 216), .ref (a 217), .ref (a 218)])), ((a 201), .inl (cy 0, 2260, .inl (upd (upd (fun _ => 0) (1 : Int32).toNatClampNeg 1) (2 : Int32).toNatClampNeg 1)))] H := hP
  have hD := va_ca hP hD
  refine lv_iinc (v := 2) (lv' := [(1, .int 2), (0, .ref (a 200))]) hx hb dX11_putsAside_23 hl (k := 0) rfl (by decide) (by decide) rfl (fun ls hl => ?_)
  refine lv_goto (tgt := 2) hx hb dX11_putsAside_26 (by decide) ?_
  refine lv_iload_n hx hb dX11_putsAside_2 rfl (lv_at hl 0 rfl) ?_
  refine lv_bipush (v := 37) hx hb dX11_putsAside_3 (by decide) ?_
  refine lv_icmp_ge (tgt := 29) hx hb dX11_putsAside_5 (by decide) (fun q => absurd q (by decide)) (fun _ => ?_)
  refine lv_aload_n hx hb dX11_putsAside_8 rfl (lv_at hl 1 rfl) ?_
  refine va_get (ci := 11) (v := .ref (a 208)) (C := RX11) (T := TX11) (N := 39) hx hb htA in_X11 hown hK hP 1 rfl rfl 23 (by decide) (htA _ wd_1377) (fun _ h => h) rfl dX11_putsAside_9 ?_
  refine lv_iload_n hx hb dX11_putsAside_12 rfl (lv_at hl 0 rfl) ?_
  refine lv_aload_n hx hb dX11_putsAside_13 rfl (lv_at hl 1 rfl) ?_
  refine va_get (ci := 11) (v := .ref (a 201)) (C := RX11) (T := TX11) (N := 39) hx hb htA in_X11 hown hK hP 1 rfl rfl 0 (by decide) (htA _ wd_1354) (fun _ h => h) rfl dX11_putsAside_14 ?_
  refine lv_bipush (v := 8) hx hb dX11_putsAside_17 (by decide) ?_
  refine lv_iload_n hx hb dX11_putsAside_19 rfl (lv_at hl 0 rfl) ?_
  refine lv_iadd hx hb dX11_putsAside_20 ?_
  refine lv_topi (fun x5 ex5 => ?_)
  obtain rfl : x5 = 10 := ex5.trans (by decide)
  refine va_iald hx hb hK hP 2 0 rfl rfl (in_lit (by decide)) dX11_putsAside_21 ?_
  refine lv_topi (fun x6 ex6 => ?_)
  obtain rfl : x6 = 0 := ex6.trans (by first | decide | rfl)
  refine va_iast hx hb hK hP hD hS 0 0 rfl rfl (in_lit (by decide)) dX11_putsAside_22 (fun H locs hP hD hS => ?_)
  rw [fa_upd_same (f := fun _ => 0) (i := (2 : Int32).toNatClampNeg) (x := 0) (by first | decide | rfl)] at hP hD
  have hP : va_P D vwCl [((a 208), .inl (cy 0, 37, .inl (fun _ => 0))), ((a 200), .inr (11, [.ref (a 201), .ref (a 202), .ref (a 203), .ref (a 204), .int 0, .ref (a 205), .int 0, .int 0, .int 0, .int 0, .int 0, .int 0, .int 0, .int 0, .int 0, .int (-1), .int 0, .int 0, .int 0, .ref (a 206), .ref (a 207), .int 0, .int 0, .ref (a 208), .int 0, .int 0, .int 0, .int 0, .ref (a 209), .ref (a 210), .ref (a 211), .ref (a 212), .ref (a 213), .ref (a 214), .ref (a 215), .int 0, .ref (a 216), .ref (a 217), .ref (a 218)])), ((a 201), .inl (cy 0, 2260, .inl (upd (upd (fun _ => 0) (1 : Int32).toNatClampNeg 1) (2 : Int32).toNatClampNeg 1)))] H := hP
  have hD := va_ca hP hD
  refine lv_iinc (v := 3) (lv' := [(1, .int 3), (0, .ref (a 200))]) hx hb dX11_putsAside_23 hl (k := 0) rfl (by decide) (by decide) rfl (fun ls hl => ?_)
  refine lv_goto (tgt := 2) hx hb dX11_putsAside_26 (by decide) ?_
  refine lv_iload_n hx hb dX11_putsAside_2 rfl (lv_at hl 0 rfl) ?_
  refine lv_bipush (v := 37) hx hb dX11_putsAside_3 (by decide) ?_
  refine lv_icmp_ge (tgt := 29) hx hb dX11_putsAside_5 (by decide) (fun q => absurd q (by decide)) (fun _ => ?_)
  refine lv_aload_n hx hb dX11_putsAside_8 rfl (lv_at hl 1 rfl) ?_
  refine va_get (ci := 11) (v := .ref (a 208)) (C := RX11) (T := TX11) (N := 39) hx hb htA in_X11 hown hK hP 1 rfl rfl 23 (by decide) (htA _ wd_1377) (fun _ h => h) rfl dX11_putsAside_9 ?_
  refine lv_iload_n hx hb dX11_putsAside_12 rfl (lv_at hl 0 rfl) ?_
  refine lv_aload_n hx hb dX11_putsAside_13 rfl (lv_at hl 1 rfl) ?_
  refine va_get (ci := 11) (v := .ref (a 201)) (C := RX11) (T := TX11) (N := 39) hx hb htA in_X11 hown hK hP 1 rfl rfl 0 (by decide) (htA _ wd_1354) (fun _ h => h) rfl dX11_putsAside_14 ?_
  refine lv_bipush (v := 8) hx hb dX11_putsAside_17 (by decide) ?_
  refine lv_iload_n hx hb dX11_putsAside_19 rfl (lv_at hl 0 rfl) ?_
  refine lv_iadd hx hb dX11_putsAside_20 ?_
  refine lv_topi (fun x7 ex7 => ?_)
  obtain rfl : x7 = 11 := ex7.trans (by decide)
  refine va_iald hx hb hK hP 2 0 rfl rfl (in_lit (by decide)) dX11_putsAside_21 ?_
  refine lv_topi (fun x8 ex8 => ?_)
  obtain rfl : x8 = 0 := ex8.trans (by first | decide | rfl)
  refine va_iast hx hb hK hP hD hS 0 0 rfl rfl (in_lit (by decide)) dX11_putsAside_22 (fun H locs hP hD hS => ?_)
  rw [fa_upd_same (f := fun _ => 0) (i := (3 : Int32).toNatClampNeg) (x := 0) (by first | decide | rfl)] at hP hD
  have hP : va_P D vwCl [((a 208), .inl (cy 0, 37, .inl (fun _ => 0))), ((a 200), .inr (11, [.ref (a 201), .ref (a 202), .ref (a 203), .ref (a 204), .int 0, .ref (a 205), .int 0, .int 0, .int 0, .int 0, .int 0, .int 0, .int 0, .int 0, .int 0, .int (-1), .int 0, .int 0, .int 0, .ref (a 206), .ref (a 207), .int 0, .int 0, .ref (a 208), .int 0, .int 0, .int 0, .int 0, .ref (a 209), .ref (a 210), .ref (a 211), .ref (a 212), .ref (a 213), .ref (a 214), .ref (a 215), .int 0, .ref (a 216), .ref (a 217), .ref (a 218)])), ((a 201), .inl (cy 0, 2260, .inl (upd (upd (fun _ => 0) (1 : Int32).toNatClampNeg 1) (2 : Int32).toNatClampNeg 1)))] H := hP
  have hD := va_ca hP hD
  refine lv_iinc (v := 4) (lv' := [(1, .int 4), (0, .ref (a 200))]) hx hb dX11_putsAside_23 hl (k := 0) rfl (by decide) (by decide) rfl (fun ls hl => ?_)
  refine lv_goto (tgt := 2) hx hb dX11_putsAside_26 (by decide) ?_
  refine lv_iload_n hx hb dX11_putsAside_2 rfl (lv_at hl 0 rfl) ?_
  refine lv_bipush (v := 37) hx hb dX11_putsAside_3 (by decide) ?_
  refine lv_icmp_ge (tgt := 29) hx hb dX11_putsAside_5 (by decide) (fun q => absurd q (by decide)) (fun _ => ?_)
  refine lv_aload_n hx hb dX11_putsAside_8 rfl (lv_at hl 1 rfl) ?_
  refine va_get (ci := 11) (v := .ref (a 208)) (C := RX11) (T := TX11) (N := 39) hx hb htA in_X11 hown hK hP 1 rfl rfl 23 (by decide) (htA _ wd_1377) (fun _ h => h) rfl dX11_putsAside_9 ?_
  refine lv_iload_n hx hb dX11_putsAside_12 rfl (lv_at hl 0 rfl) ?_
  refine lv_aload_n hx hb dX11_putsAside_13 rfl (lv_at hl 1 rfl) ?_
  refine va_get (ci := 11) (v := .ref (a 201)) (C := RX11) (T := TX11) (N := 39) hx hb htA in_X11 hown hK hP 1 rfl rfl 0 (by decide) (htA _ wd_1354) (fun _ h => h) rfl dX11_putsAside_14 ?_
  refine lv_bipush (v := 8) hx hb dX11_putsAside_17 (by decide) ?_
  refine lv_iload_n hx hb dX11_putsAside_19 rfl (lv_at hl 0 rfl) ?_
  refine lv_iadd hx hb dX11_putsAside_20 ?_
  refine lv_topi (fun x9 ex9 => ?_)
  obtain rfl : x9 = 12 := ex9.trans (by decide)
  refine va_iald hx hb hK hP 2 0 rfl rfl (in_lit (by decide)) dX11_putsAside_21 ?_
  refine lv_topi (fun x10 ex10 => ?_)
  obtain rfl : x10 = 0 := ex10.trans (by first | decide | rfl)
  refine va_iast hx hb hK hP hD hS 0 0 rfl rfl (in_lit (by decide)) dX11_putsAside_22 (fun H locs hP hD hS => ?_)
  rw [fa_upd_same (f := fun _ => 0) (i := (4 : Int32).toNatClampNeg) (x := 0) (by first | decide | rfl)] at hP hD
  have hP : va_P D vwCl [((a 208), .inl (cy 0, 37, .inl (fun _ => 0))), ((a 200), .inr (11, [.ref (a 201), .ref (a 202), .ref (a 203), .ref (a 204), .int 0, .ref (a 205), .int 0, .int 0, .int 0, .int 0, .int 0, .int 0, .int 0, .int 0, .int 0, .int (-1), .int 0, .int 0, .int 0, .ref (a 206), .ref (a 207), .int 0, .int 0, .ref (a 208), .int 0, .int 0, .int 0, .int 0, .ref (a 209), .ref (a 210), .ref (a 211), .ref (a 212), .ref (a 213), .ref (a 214), .ref (a 215), .int 0, .ref (a 216), .ref (a 217), .ref (a 218)])), ((a 201), .inl (cy 0, 2260, .inl (upd (upd (fun _ => 0) (1 : Int32).toNatClampNeg 1) (2 : Int32).toNatClampNeg 1)))] H := hP
  have hD := va_ca hP hD
  refine lv_iinc (v := 5) (lv' := [(1, .int 5), (0, .ref (a 200))]) hx hb dX11_putsAside_23 hl (k := 0) rfl (by decide) (by decide) rfl (fun ls hl => ?_)
  refine lv_goto (tgt := 2) hx hb dX11_putsAside_26 (by decide) ?_
  refine lv_iload_n hx hb dX11_putsAside_2 rfl (lv_at hl 0 rfl) ?_
  refine lv_bipush (v := 37) hx hb dX11_putsAside_3 (by decide) ?_
  refine lv_icmp_ge (tgt := 29) hx hb dX11_putsAside_5 (by decide) (fun q => absurd q (by decide)) (fun _ => ?_)
  refine lv_aload_n hx hb dX11_putsAside_8 rfl (lv_at hl 1 rfl) ?_
  refine va_get (ci := 11) (v := .ref (a 208)) (C := RX11) (T := TX11) (N := 39) hx hb htA in_X11 hown hK hP 1 rfl rfl 23 (by decide) (htA _ wd_1377) (fun _ h => h) rfl dX11_putsAside_9 ?_
  refine lv_iload_n hx hb dX11_putsAside_12 rfl (lv_at hl 0 rfl) ?_
  refine lv_aload_n hx hb dX11_putsAside_13 rfl (lv_at hl 1 rfl) ?_
  refine va_get (ci := 11) (v := .ref (a 201)) (C := RX11) (T := TX11) (N := 39) hx hb htA in_X11 hown hK hP 1 rfl rfl 0 (by decide) (htA _ wd_1354) (fun _ h => h) rfl dX11_putsAside_14 ?_
  refine lv_bipush (v := 8) hx hb dX11_putsAside_17 (by decide) ?_
  refine lv_iload_n hx hb dX11_putsAside_19 rfl (lv_at hl 0 rfl) ?_
  refine lv_iadd hx hb dX11_putsAside_20 ?_
  refine lv_topi (fun x11 ex11 => ?_)
  obtain rfl : x11 = 13 := ex11.trans (by decide)
  refine va_iald hx hb hK hP 2 0 rfl rfl (in_lit (by decide)) dX11_putsAside_21 ?_
  refine lv_topi (fun x12 ex12 => ?_)
  obtain rfl : x12 = 0 := ex12.trans (by first | decide | rfl)
  refine va_iast hx hb hK hP hD hS 0 0 rfl rfl (in_lit (by decide)) dX11_putsAside_22 (fun H locs hP hD hS => ?_)
  rw [fa_upd_same (f := fun _ => 0) (i := (5 : Int32).toNatClampNeg) (x := 0) (by first | decide | rfl)] at hP hD
  have hP : va_P D vwCl [((a 208), .inl (cy 0, 37, .inl (fun _ => 0))), ((a 200), .inr (11, [.ref (a 201), .ref (a 202), .ref (a 203), .ref (a 204), .int 0, .ref (a 205), .int 0, .int 0, .int 0, .int 0, .int 0, .int 0, .int 0, .int 0, .int 0, .int (-1), .int 0, .int 0, .int 0, .ref (a 206), .ref (a 207), .int 0, .int 0, .ref (a 208), .int 0, .int 0, .int 0, .int 0, .ref (a 209), .ref (a 210), .ref (a 211), .ref (a 212), .ref (a 213), .ref (a 214), .ref (a 215), .int 0, .ref (a 216), .ref (a 217), .ref (a 218)])), ((a 201), .inl (cy 0, 2260, .inl (upd (upd (fun _ => 0) (1 : Int32).toNatClampNeg 1) (2 : Int32).toNatClampNeg 1)))] H := hP
  have hD := va_ca hP hD
  refine lv_iinc (v := 6) (lv' := [(1, .int 6), (0, .ref (a 200))]) hx hb dX11_putsAside_23 hl (k := 0) rfl (by decide) (by decide) rfl (fun ls hl => ?_)
  refine lv_goto (tgt := 2) hx hb dX11_putsAside_26 (by decide) ?_
  refine lv_iload_n hx hb dX11_putsAside_2 rfl (lv_at hl 0 rfl) ?_
  refine lv_bipush (v := 37) hx hb dX11_putsAside_3 (by decide) ?_
  refine lv_icmp_ge (tgt := 29) hx hb dX11_putsAside_5 (by decide) (fun q => absurd q (by decide)) (fun _ => ?_)
  refine lv_aload_n hx hb dX11_putsAside_8 rfl (lv_at hl 1 rfl) ?_
  refine va_get (ci := 11) (v := .ref (a 208)) (C := RX11) (T := TX11) (N := 39) hx hb htA in_X11 hown hK hP 1 rfl rfl 23 (by decide) (htA _ wd_1377) (fun _ h => h) rfl dX11_putsAside_9 ?_
  refine lv_iload_n hx hb dX11_putsAside_12 rfl (lv_at hl 0 rfl) ?_
  refine lv_aload_n hx hb dX11_putsAside_13 rfl (lv_at hl 1 rfl) ?_
  refine va_get (ci := 11) (v := .ref (a 201)) (C := RX11) (T := TX11) (N := 39) hx hb htA in_X11 hown hK hP 1 rfl rfl 0 (by decide) (htA _ wd_1354) (fun _ h => h) rfl dX11_putsAside_14 ?_
  refine lv_bipush (v := 8) hx hb dX11_putsAside_17 (by decide) ?_
  refine lv_iload_n hx hb dX11_putsAside_19 rfl (lv_at hl 0 rfl) ?_
  refine lv_iadd hx hb dX11_putsAside_20 ?_
  refine lv_topi (fun x13 ex13 => ?_)
  obtain rfl : x13 = 14 := ex13.trans (by decide)
  refine va_iald hx hb hK hP 2 0 rfl rfl (in_lit (by decide)) dX11_putsAside_21 ?_
  refine lv_topi (fun x14 ex14 => ?_)
  obtain rfl : x14 = 0 := ex14.trans (by first | decide | rfl)
  refine va_iast hx hb hK hP hD hS 0 0 rfl rfl (in_lit (by decide)) dX11_putsAside_22 (fun H locs hP hD hS => ?_)
  rw [fa_upd_same (f := fun _ => 0) (i := (6 : Int32).toNatClampNeg) (x := 0) (by first | decide | rfl)] at hP hD
  have hP : va_P D vwCl [((a 208), .inl (cy 0, 37, .inl (fun _ => 0))), ((a 200), .inr (11, [.ref (a 201), .ref (a 202), .ref (a 203), .ref (a 204), .int 0, .ref (a 205), .int 0, .int 0, .int 0, .int 0, .int 0, .int 0, .int 0, .int 0, .int 0, .int (-1), .int 0, .int 0, .int 0, .ref (a 206), .ref (a 207), .int 0, .int 0, .ref (a 208), .int 0, .int 0, .int 0, .int 0, .ref (a 209), .ref (a 210), .ref (a 211), .ref (a 212), .ref (a 213), .ref (a 214), .ref (a 215), .int 0, .ref (a 216), .ref (a 217), .ref (a 218)])), ((a 201), .inl (cy 0, 2260, .inl (upd (upd (fun _ => 0) (1 : Int32).toNatClampNeg 1) (2 : Int32).toNatClampNeg 1)))] H := hP
  have hD := va_ca hP hD
  refine lv_iinc (v := 7) (lv' := [(1, .int 7), (0, .ref (a 200))]) hx hb dX11_putsAside_23 hl (k := 0) rfl (by decide) (by decide) rfl (fun ls hl => ?_)
  refine lv_goto (tgt := 2) hx hb dX11_putsAside_26 (by decide) ?_
  refine lv_iload_n hx hb dX11_putsAside_2 rfl (lv_at hl 0 rfl) ?_
  refine lv_bipush (v := 37) hx hb dX11_putsAside_3 (by decide) ?_
  refine lv_icmp_ge (tgt := 29) hx hb dX11_putsAside_5 (by decide) (fun q => absurd q (by decide)) (fun _ => ?_)
  refine lv_aload_n hx hb dX11_putsAside_8 rfl (lv_at hl 1 rfl) ?_
  refine va_get (ci := 11) (v := .ref (a 208)) (C := RX11) (T := TX11) (N := 39) hx hb htA in_X11 hown hK hP 1 rfl rfl 23 (by decide) (htA _ wd_1377) (fun _ h => h) rfl dX11_putsAside_9 ?_
  refine lv_iload_n hx hb dX11_putsAside_12 rfl (lv_at hl 0 rfl) ?_
  refine lv_aload_n hx hb dX11_putsAside_13 rfl (lv_at hl 1 rfl) ?_
  refine va_get (ci := 11) (v := .ref (a 201)) (C := RX11) (T := TX11) (N := 39) hx hb htA in_X11 hown hK hP 1 rfl rfl 0 (by decide) (htA _ wd_1354) (fun _ h => h) rfl dX11_putsAside_14 ?_
  refine lv_bipush (v := 8) hx hb dX11_putsAside_17 (by decide) ?_
  refine lv_iload_n hx hb dX11_putsAside_19 rfl (lv_at hl 0 rfl) ?_
  refine lv_iadd hx hb dX11_putsAside_20 ?_
  refine lv_topi (fun x15 ex15 => ?_)
  obtain rfl : x15 = 15 := ex15.trans (by decide)
  refine va_iald hx hb hK hP 2 0 rfl rfl (in_lit (by decide)) dX11_putsAside_21 ?_
  refine lv_topi (fun x16 ex16 => ?_)
  obtain rfl : x16 = 0 := ex16.trans (by first | decide | rfl)
  refine va_iast hx hb hK hP hD hS 0 0 rfl rfl (in_lit (by decide)) dX11_putsAside_22 (fun H locs hP hD hS => ?_)
  rw [fa_upd_same (f := fun _ => 0) (i := (7 : Int32).toNatClampNeg) (x := 0) (by first | decide | rfl)] at hP hD
  have hP : va_P D vwCl [((a 208), .inl (cy 0, 37, .inl (fun _ => 0))), ((a 200), .inr (11, [.ref (a 201), .ref (a 202), .ref (a 203), .ref (a 204), .int 0, .ref (a 205), .int 0, .int 0, .int 0, .int 0, .int 0, .int 0, .int 0, .int 0, .int 0, .int (-1), .int 0, .int 0, .int 0, .ref (a 206), .ref (a 207), .int 0, .int 0, .ref (a 208), .int 0, .int 0, .int 0, .int 0, .ref (a 209), .ref (a 210), .ref (a 211), .ref (a 212), .ref (a 213), .ref (a 214), .ref (a 215), .int 0, .ref (a 216), .ref (a 217), .ref (a 218)])), ((a 201), .inl (cy 0, 2260, .inl (upd (upd (fun _ => 0) (1 : Int32).toNatClampNeg 1) (2 : Int32).toNatClampNeg 1)))] H := hP
  have hD := va_ca hP hD
  refine lv_iinc (v := 8) (lv' := [(1, .int 8), (0, .ref (a 200))]) hx hb dX11_putsAside_23 hl (k := 0) rfl (by decide) (by decide) rfl (fun ls hl => ?_)
  refine lv_goto (tgt := 2) hx hb dX11_putsAside_26 (by decide) ?_
  refine lv_iload_n hx hb dX11_putsAside_2 rfl (lv_at hl 0 rfl) ?_
  refine lv_bipush (v := 37) hx hb dX11_putsAside_3 (by decide) ?_
  refine lv_icmp_ge (tgt := 29) hx hb dX11_putsAside_5 (by decide) (fun q => absurd q (by decide)) (fun _ => ?_)
  refine lv_aload_n hx hb dX11_putsAside_8 rfl (lv_at hl 1 rfl) ?_
  refine va_get (ci := 11) (v := .ref (a 208)) (C := RX11) (T := TX11) (N := 39) hx hb htA in_X11 hown hK hP 1 rfl rfl 23 (by decide) (htA _ wd_1377) (fun _ h => h) rfl dX11_putsAside_9 ?_
  refine lv_iload_n hx hb dX11_putsAside_12 rfl (lv_at hl 0 rfl) ?_
  refine lv_aload_n hx hb dX11_putsAside_13 rfl (lv_at hl 1 rfl) ?_
  refine va_get (ci := 11) (v := .ref (a 201)) (C := RX11) (T := TX11) (N := 39) hx hb htA in_X11 hown hK hP 1 rfl rfl 0 (by decide) (htA _ wd_1354) (fun _ h => h) rfl dX11_putsAside_14 ?_
  refine lv_bipush (v := 8) hx hb dX11_putsAside_17 (by decide) ?_
  refine lv_iload_n hx hb dX11_putsAside_19 rfl (lv_at hl 0 rfl) ?_
  refine lv_iadd hx hb dX11_putsAside_20 ?_
  refine lv_topi (fun x17 ex17 => ?_)
  obtain rfl : x17 = 16 := ex17.trans (by decide)
  refine va_iald hx hb hK hP 2 0 rfl rfl (in_lit (by decide)) dX11_putsAside_21 ?_
  refine lv_topi (fun x18 ex18 => ?_)
  obtain rfl : x18 = 0 := ex18.trans (by first | decide | rfl)
  refine va_iast hx hb hK hP hD hS 0 0 rfl rfl (in_lit (by decide)) dX11_putsAside_22 (fun H locs hP hD hS => ?_)
  rw [fa_upd_same (f := fun _ => 0) (i := (8 : Int32).toNatClampNeg) (x := 0) (by first | decide | rfl)] at hP hD
  have hP : va_P D vwCl [((a 208), .inl (cy 0, 37, .inl (fun _ => 0))), ((a 200), .inr (11, [.ref (a 201), .ref (a 202), .ref (a 203), .ref (a 204), .int 0, .ref (a 205), .int 0, .int 0, .int 0, .int 0, .int 0, .int 0, .int 0, .int 0, .int 0, .int (-1), .int 0, .int 0, .int 0, .ref (a 206), .ref (a 207), .int 0, .int 0, .ref (a 208), .int 0, .int 0, .int 0, .int 0, .ref (a 209), .ref (a 210), .ref (a 211), .ref (a 212), .ref (a 213), .ref (a 214), .ref (a 215), .int 0, .ref (a 216), .ref (a 217), .ref (a 218)])), ((a 201), .inl (cy 0, 2260, .inl (upd (upd (fun _ => 0) (1 : Int32).toNatClampNeg 1) (2 : Int32).toNatClampNeg 1)))] H := hP
  have hD := va_ca hP hD
  refine lv_iinc (v := 9) (lv' := [(1, .int 9), (0, .ref (a 200))]) hx hb dX11_putsAside_23 hl (k := 0) rfl (by decide) (by decide) rfl (fun ls hl => ?_)
  refine lv_goto (tgt := 2) hx hb dX11_putsAside_26 (by decide) ?_
  refine lv_iload_n hx hb dX11_putsAside_2 rfl (lv_at hl 0 rfl) ?_
  refine lv_bipush (v := 37) hx hb dX11_putsAside_3 (by decide) ?_
  refine lv_icmp_ge (tgt := 29) hx hb dX11_putsAside_5 (by decide) (fun q => absurd q (by decide)) (fun _ => ?_)
  refine lv_aload_n hx hb dX11_putsAside_8 rfl (lv_at hl 1 rfl) ?_
  refine va_get (ci := 11) (v := .ref (a 208)) (C := RX11) (T := TX11) (N := 39) hx hb htA in_X11 hown hK hP 1 rfl rfl 23 (by decide) (htA _ wd_1377) (fun _ h => h) rfl dX11_putsAside_9 ?_
  refine lv_iload_n hx hb dX11_putsAside_12 rfl (lv_at hl 0 rfl) ?_
  refine lv_aload_n hx hb dX11_putsAside_13 rfl (lv_at hl 1 rfl) ?_
  refine va_get (ci := 11) (v := .ref (a 201)) (C := RX11) (T := TX11) (N := 39) hx hb htA in_X11 hown hK hP 1 rfl rfl 0 (by decide) (htA _ wd_1354) (fun _ h => h) rfl dX11_putsAside_14 ?_
  refine lv_bipush (v := 8) hx hb dX11_putsAside_17 (by decide) ?_
  refine lv_iload_n hx hb dX11_putsAside_19 rfl (lv_at hl 0 rfl) ?_
  refine lv_iadd hx hb dX11_putsAside_20 ?_
  refine lv_topi (fun x19 ex19 => ?_)
  obtain rfl : x19 = 17 := ex19.trans (by decide)
  refine va_iald hx hb hK hP 2 0 rfl rfl (in_lit (by decide)) dX11_putsAside_21 ?_
  refine lv_topi (fun x20 ex20 => ?_)
  obtain rfl : x20 = 0 := ex20.trans (by first | decide | rfl)
  refine va_iast hx hb hK hP hD hS 0 0 rfl rfl (in_lit (by decide)) dX11_putsAside_22 (fun H locs hP hD hS => ?_)
  rw [fa_upd_same (f := fun _ => 0) (i := (9 : Int32).toNatClampNeg) (x := 0) (by first | decide | rfl)] at hP hD
  have hP : va_P D vwCl [((a 208), .inl (cy 0, 37, .inl (fun _ => 0))), ((a 200), .inr (11, [.ref (a 201), .ref (a 202), .ref (a 203), .ref (a 204), .int 0, .ref (a 205), .int 0, .int 0, .int 0, .int 0, .int 0, .int 0, .int 0, .int 0, .int 0, .int (-1), .int 0, .int 0, .int 0, .ref (a 206), .ref (a 207), .int 0, .int 0, .ref (a 208), .int 0, .int 0, .int 0, .int 0, .ref (a 209), .ref (a 210), .ref (a 211), .ref (a 212), .ref (a 213), .ref (a 214), .ref (a 215), .int 0, .ref (a 216), .ref (a 217), .ref (a 218)])), ((a 201), .inl (cy 0, 2260, .inl (upd (upd (fun _ => 0) (1 : Int32).toNatClampNeg 1) (2 : Int32).toNatClampNeg 1)))] H := hP
  have hD := va_ca hP hD
  refine lv_iinc (v := 10) (lv' := [(1, .int 10), (0, .ref (a 200))]) hx hb dX11_putsAside_23 hl (k := 0) rfl (by decide) (by decide) rfl (fun ls hl => ?_)
  refine lv_goto (tgt := 2) hx hb dX11_putsAside_26 (by decide) ?_
  refine lv_iload_n hx hb dX11_putsAside_2 rfl (lv_at hl 0 rfl) ?_
  refine lv_bipush (v := 37) hx hb dX11_putsAside_3 (by decide) ?_
  refine lv_icmp_ge (tgt := 29) hx hb dX11_putsAside_5 (by decide) (fun q => absurd q (by decide)) (fun _ => ?_)
  refine lv_aload_n hx hb dX11_putsAside_8 rfl (lv_at hl 1 rfl) ?_
  refine va_get (ci := 11) (v := .ref (a 208)) (C := RX11) (T := TX11) (N := 39) hx hb htA in_X11 hown hK hP 1 rfl rfl 23 (by decide) (htA _ wd_1377) (fun _ h => h) rfl dX11_putsAside_9 ?_
  refine lv_iload_n hx hb dX11_putsAside_12 rfl (lv_at hl 0 rfl) ?_
  refine lv_aload_n hx hb dX11_putsAside_13 rfl (lv_at hl 1 rfl) ?_
  refine va_get (ci := 11) (v := .ref (a 201)) (C := RX11) (T := TX11) (N := 39) hx hb htA in_X11 hown hK hP 1 rfl rfl 0 (by decide) (htA _ wd_1354) (fun _ h => h) rfl dX11_putsAside_14 ?_
  refine lv_bipush (v := 8) hx hb dX11_putsAside_17 (by decide) ?_
  refine lv_iload_n hx hb dX11_putsAside_19 rfl (lv_at hl 0 rfl) ?_
  refine lv_iadd hx hb dX11_putsAside_20 ?_
  refine lv_topi (fun x21 ex21 => ?_)
  obtain rfl : x21 = 18 := ex21.trans (by decide)
  refine va_iald hx hb hK hP 2 0 rfl rfl (in_lit (by decide)) dX11_putsAside_21 ?_
  refine lv_topi (fun x22 ex22 => ?_)
  obtain rfl : x22 = 0 := ex22.trans (by first | decide | rfl)
  refine va_iast hx hb hK hP hD hS 0 0 rfl rfl (in_lit (by decide)) dX11_putsAside_22 (fun H locs hP hD hS => ?_)
  rw [fa_upd_same (f := fun _ => 0) (i := (10 : Int32).toNatClampNeg) (x := 0) (by first | decide | rfl)] at hP hD
  have hP : va_P D vwCl [((a 208), .inl (cy 0, 37, .inl (fun _ => 0))), ((a 200), .inr (11, [.ref (a 201), .ref (a 202), .ref (a 203), .ref (a 204), .int 0, .ref (a 205), .int 0, .int 0, .int 0, .int 0, .int 0, .int 0, .int 0, .int 0, .int 0, .int (-1), .int 0, .int 0, .int 0, .ref (a 206), .ref (a 207), .int 0, .int 0, .ref (a 208), .int 0, .int 0, .int 0, .int 0, .ref (a 209), .ref (a 210), .ref (a 211), .ref (a 212), .ref (a 213), .ref (a 214), .ref (a 215), .int 0, .ref (a 216), .ref (a 217), .ref (a 218)])), ((a 201), .inl (cy 0, 2260, .inl (upd (upd (fun _ => 0) (1 : Int32).toNatClampNeg 1) (2 : Int32).toNatClampNeg 1)))] H := hP
  have hD := va_ca hP hD
  refine lv_iinc (v := 11) (lv' := [(1, .int 11), (0, .ref (a 200))]) hx hb dX11_putsAside_23 hl (k := 0) rfl (by decide) (by decide) rfl (fun ls hl => ?_)
  refine lv_goto (tgt := 2) hx hb dX11_putsAside_26 (by decide) ?_
  refine lv_iload_n hx hb dX11_putsAside_2 rfl (lv_at hl 0 rfl) ?_
  refine lv_bipush (v := 37) hx hb dX11_putsAside_3 (by decide) ?_
  refine lv_icmp_ge (tgt := 29) hx hb dX11_putsAside_5 (by decide) (fun q => absurd q (by decide)) (fun _ => ?_)
  refine lv_aload_n hx hb dX11_putsAside_8 rfl (lv_at hl 1 rfl) ?_
  refine va_get (ci := 11) (v := .ref (a 208)) (C := RX11) (T := TX11) (N := 39) hx hb htA in_X11 hown hK hP 1 rfl rfl 23 (by decide) (htA _ wd_1377) (fun _ h => h) rfl dX11_putsAside_9 ?_
  refine lv_iload_n hx hb dX11_putsAside_12 rfl (lv_at hl 0 rfl) ?_
  refine lv_aload_n hx hb dX11_putsAside_13 rfl (lv_at hl 1 rfl) ?_
  refine va_get (ci := 11) (v := .ref (a 201)) (C := RX11) (T := TX11) (N := 39) hx hb htA in_X11 hown hK hP 1 rfl rfl 0 (by decide) (htA _ wd_1354) (fun _ h => h) rfl dX11_putsAside_14 ?_
  refine lv_bipush (v := 8) hx hb dX11_putsAside_17 (by decide) ?_
  refine lv_iload_n hx hb dX11_putsAside_19 rfl (lv_at hl 0 rfl) ?_
  refine lv_iadd hx hb dX11_putsAside_20 ?_
  refine lv_topi (fun x23 ex23 => ?_)
  obtain rfl : x23 = 19 := ex23.trans (by decide)
  refine va_iald hx hb hK hP 2 0 rfl rfl (in_lit (by decide)) dX11_putsAside_21 ?_
  refine lv_topi (fun x24 ex24 => ?_)
  obtain rfl : x24 = 0 := ex24.trans (by first | decide | rfl)
  refine va_iast hx hb hK hP hD hS 0 0 rfl rfl (in_lit (by decide)) dX11_putsAside_22 (fun H locs hP hD hS => ?_)
  rw [fa_upd_same (f := fun _ => 0) (i := (11 : Int32).toNatClampNeg) (x := 0) (by first | decide | rfl)] at hP hD
  have hP : va_P D vwCl [((a 208), .inl (cy 0, 37, .inl (fun _ => 0))), ((a 200), .inr (11, [.ref (a 201), .ref (a 202), .ref (a 203), .ref (a 204), .int 0, .ref (a 205), .int 0, .int 0, .int 0, .int 0, .int 0, .int 0, .int 0, .int 0, .int 0, .int (-1), .int 0, .int 0, .int 0, .ref (a 206), .ref (a 207), .int 0, .int 0, .ref (a 208), .int 0, .int 0, .int 0, .int 0, .ref (a 209), .ref (a 210), .ref (a 211), .ref (a 212), .ref (a 213), .ref (a 214), .ref (a 215), .int 0, .ref (a 216), .ref (a 217), .ref (a 218)])), ((a 201), .inl (cy 0, 2260, .inl (upd (upd (fun _ => 0) (1 : Int32).toNatClampNeg 1) (2 : Int32).toNatClampNeg 1)))] H := hP
  have hD := va_ca hP hD
  refine lv_iinc (v := 12) (lv' := [(1, .int 12), (0, .ref (a 200))]) hx hb dX11_putsAside_23 hl (k := 0) rfl (by decide) (by decide) rfl (fun ls hl => ?_)
  refine lv_goto (tgt := 2) hx hb dX11_putsAside_26 (by decide) ?_
  refine lv_iload_n hx hb dX11_putsAside_2 rfl (lv_at hl 0 rfl) ?_
  refine lv_bipush (v := 37) hx hb dX11_putsAside_3 (by decide) ?_
  refine lv_icmp_ge (tgt := 29) hx hb dX11_putsAside_5 (by decide) (fun q => absurd q (by decide)) (fun _ => ?_)
  refine lv_aload_n hx hb dX11_putsAside_8 rfl (lv_at hl 1 rfl) ?_
  refine va_get (ci := 11) (v := .ref (a 208)) (C := RX11) (T := TX11) (N := 39) hx hb htA in_X11 hown hK hP 1 rfl rfl 23 (by decide) (htA _ wd_1377) (fun _ h => h) rfl dX11_putsAside_9 ?_
  refine lv_iload_n hx hb dX11_putsAside_12 rfl (lv_at hl 0 rfl) ?_
  refine lv_aload_n hx hb dX11_putsAside_13 rfl (lv_at hl 1 rfl) ?_
  refine va_get (ci := 11) (v := .ref (a 201)) (C := RX11) (T := TX11) (N := 39) hx hb htA in_X11 hown hK hP 1 rfl rfl 0 (by decide) (htA _ wd_1354) (fun _ h => h) rfl dX11_putsAside_14 ?_
  refine lv_bipush (v := 8) hx hb dX11_putsAside_17 (by decide) ?_
  refine lv_iload_n hx hb dX11_putsAside_19 rfl (lv_at hl 0 rfl) ?_
  refine lv_iadd hx hb dX11_putsAside_20 ?_
  refine lv_topi (fun x25 ex25 => ?_)
  obtain rfl : x25 = 20 := ex25.trans (by decide)
  refine va_iald hx hb hK hP 2 0 rfl rfl (in_lit (by decide)) dX11_putsAside_21 ?_
  refine lv_topi (fun x26 ex26 => ?_)
  obtain rfl : x26 = 0 := ex26.trans (by first | decide | rfl)
  refine va_iast hx hb hK hP hD hS 0 0 rfl rfl (in_lit (by decide)) dX11_putsAside_22 (fun H locs hP hD hS => ?_)
  rw [fa_upd_same (f := fun _ => 0) (i := (12 : Int32).toNatClampNeg) (x := 0) (by first | decide | rfl)] at hP hD
  have hP : va_P D vwCl [((a 208), .inl (cy 0, 37, .inl (fun _ => 0))), ((a 200), .inr (11, [.ref (a 201), .ref (a 202), .ref (a 203), .ref (a 204), .int 0, .ref (a 205), .int 0, .int 0, .int 0, .int 0, .int 0, .int 0, .int 0, .int 0, .int 0, .int (-1), .int 0, .int 0, .int 0, .ref (a 206), .ref (a 207), .int 0, .int 0, .ref (a 208), .int 0, .int 0, .int 0, .int 0, .ref (a 209), .ref (a 210), .ref (a 211), .ref (a 212), .ref (a 213), .ref (a 214), .ref (a 215), .int 0, .ref (a 216), .ref (a 217), .ref (a 218)])), ((a 201), .inl (cy 0, 2260, .inl (upd (upd (fun _ => 0) (1 : Int32).toNatClampNeg 1) (2 : Int32).toNatClampNeg 1)))] H := hP
  have hD := va_ca hP hD
  refine lv_iinc (v := 13) (lv' := [(1, .int 13), (0, .ref (a 200))]) hx hb dX11_putsAside_23 hl (k := 0) rfl (by decide) (by decide) rfl (fun ls hl => ?_)
  refine lv_goto (tgt := 2) hx hb dX11_putsAside_26 (by decide) ?_
  refine lv_iload_n hx hb dX11_putsAside_2 rfl (lv_at hl 0 rfl) ?_
  refine lv_bipush (v := 37) hx hb dX11_putsAside_3 (by decide) ?_
  refine lv_icmp_ge (tgt := 29) hx hb dX11_putsAside_5 (by decide) (fun q => absurd q (by decide)) (fun _ => ?_)
  refine lv_aload_n hx hb dX11_putsAside_8 rfl (lv_at hl 1 rfl) ?_
  refine va_get (ci := 11) (v := .ref (a 208)) (C := RX11) (T := TX11) (N := 39) hx hb htA in_X11 hown hK hP 1 rfl rfl 23 (by decide) (htA _ wd_1377) (fun _ h => h) rfl dX11_putsAside_9 ?_
  refine lv_iload_n hx hb dX11_putsAside_12 rfl (lv_at hl 0 rfl) ?_
  refine lv_aload_n hx hb dX11_putsAside_13 rfl (lv_at hl 1 rfl) ?_
  refine va_get (ci := 11) (v := .ref (a 201)) (C := RX11) (T := TX11) (N := 39) hx hb htA in_X11 hown hK hP 1 rfl rfl 0 (by decide) (htA _ wd_1354) (fun _ h => h) rfl dX11_putsAside_14 ?_
  refine lv_bipush (v := 8) hx hb dX11_putsAside_17 (by decide) ?_
  refine lv_iload_n hx hb dX11_putsAside_19 rfl (lv_at hl 0 rfl) ?_
  refine lv_iadd hx hb dX11_putsAside_20 ?_
  refine lv_topi (fun x27 ex27 => ?_)
  obtain rfl : x27 = 21 := ex27.trans (by decide)
  refine va_iald hx hb hK hP 2 0 rfl rfl (in_lit (by decide)) dX11_putsAside_21 ?_
  refine lv_topi (fun x28 ex28 => ?_)
  obtain rfl : x28 = 0 := ex28.trans (by first | decide | rfl)
  refine va_iast hx hb hK hP hD hS 0 0 rfl rfl (in_lit (by decide)) dX11_putsAside_22 (fun H locs hP hD hS => ?_)
  rw [fa_upd_same (f := fun _ => 0) (i := (13 : Int32).toNatClampNeg) (x := 0) (by first | decide | rfl)] at hP hD
  have hP : va_P D vwCl [((a 208), .inl (cy 0, 37, .inl (fun _ => 0))), ((a 200), .inr (11, [.ref (a 201), .ref (a 202), .ref (a 203), .ref (a 204), .int 0, .ref (a 205), .int 0, .int 0, .int 0, .int 0, .int 0, .int 0, .int 0, .int 0, .int 0, .int (-1), .int 0, .int 0, .int 0, .ref (a 206), .ref (a 207), .int 0, .int 0, .ref (a 208), .int 0, .int 0, .int 0, .int 0, .ref (a 209), .ref (a 210), .ref (a 211), .ref (a 212), .ref (a 213), .ref (a 214), .ref (a 215), .int 0, .ref (a 216), .ref (a 217), .ref (a 218)])), ((a 201), .inl (cy 0, 2260, .inl (upd (upd (fun _ => 0) (1 : Int32).toNatClampNeg 1) (2 : Int32).toNatClampNeg 1)))] H := hP
  have hD := va_ca hP hD
  refine lv_iinc (v := 14) (lv' := [(1, .int 14), (0, .ref (a 200))]) hx hb dX11_putsAside_23 hl (k := 0) rfl (by decide) (by decide) rfl (fun ls hl => ?_)
  refine lv_goto (tgt := 2) hx hb dX11_putsAside_26 (by decide) ?_
  refine lv_iload_n hx hb dX11_putsAside_2 rfl (lv_at hl 0 rfl) ?_
  refine lv_bipush (v := 37) hx hb dX11_putsAside_3 (by decide) ?_
  refine lv_icmp_ge (tgt := 29) hx hb dX11_putsAside_5 (by decide) (fun q => absurd q (by decide)) (fun _ => ?_)
  refine lv_aload_n hx hb dX11_putsAside_8 rfl (lv_at hl 1 rfl) ?_
  refine va_get (ci := 11) (v := .ref (a 208)) (C := RX11) (T := TX11) (N := 39) hx hb htA in_X11 hown hK hP 1 rfl rfl 23 (by decide) (htA _ wd_1377) (fun _ h => h) rfl dX11_putsAside_9 ?_
  refine lv_iload_n hx hb dX11_putsAside_12 rfl (lv_at hl 0 rfl) ?_
  refine lv_aload_n hx hb dX11_putsAside_13 rfl (lv_at hl 1 rfl) ?_
  refine va_get (ci := 11) (v := .ref (a 201)) (C := RX11) (T := TX11) (N := 39) hx hb htA in_X11 hown hK hP 1 rfl rfl 0 (by decide) (htA _ wd_1354) (fun _ h => h) rfl dX11_putsAside_14 ?_
  refine lv_bipush (v := 8) hx hb dX11_putsAside_17 (by decide) ?_
  refine lv_iload_n hx hb dX11_putsAside_19 rfl (lv_at hl 0 rfl) ?_
  refine lv_iadd hx hb dX11_putsAside_20 ?_
  refine lv_topi (fun x29 ex29 => ?_)
  obtain rfl : x29 = 22 := ex29.trans (by decide)
  refine va_iald hx hb hK hP 2 0 rfl rfl (in_lit (by decide)) dX11_putsAside_21 ?_
  refine lv_topi (fun x30 ex30 => ?_)
  obtain rfl : x30 = 0 := ex30.trans (by first | decide | rfl)
  refine va_iast hx hb hK hP hD hS 0 0 rfl rfl (in_lit (by decide)) dX11_putsAside_22 (fun H locs hP hD hS => ?_)
  rw [fa_upd_same (f := fun _ => 0) (i := (14 : Int32).toNatClampNeg) (x := 0) (by first | decide | rfl)] at hP hD
  have hP : va_P D vwCl [((a 208), .inl (cy 0, 37, .inl (fun _ => 0))), ((a 200), .inr (11, [.ref (a 201), .ref (a 202), .ref (a 203), .ref (a 204), .int 0, .ref (a 205), .int 0, .int 0, .int 0, .int 0, .int 0, .int 0, .int 0, .int 0, .int 0, .int (-1), .int 0, .int 0, .int 0, .ref (a 206), .ref (a 207), .int 0, .int 0, .ref (a 208), .int 0, .int 0, .int 0, .int 0, .ref (a 209), .ref (a 210), .ref (a 211), .ref (a 212), .ref (a 213), .ref (a 214), .ref (a 215), .int 0, .ref (a 216), .ref (a 217), .ref (a 218)])), ((a 201), .inl (cy 0, 2260, .inl (upd (upd (fun _ => 0) (1 : Int32).toNatClampNeg 1) (2 : Int32).toNatClampNeg 1)))] H := hP
  have hD := va_ca hP hD
  refine lv_iinc (v := 15) (lv' := [(1, .int 15), (0, .ref (a 200))]) hx hb dX11_putsAside_23 hl (k := 0) rfl (by decide) (by decide) rfl (fun ls hl => ?_)
  refine lv_goto (tgt := 2) hx hb dX11_putsAside_26 (by decide) ?_
  refine lv_iload_n hx hb dX11_putsAside_2 rfl (lv_at hl 0 rfl) ?_
  refine lv_bipush (v := 37) hx hb dX11_putsAside_3 (by decide) ?_
  refine lv_icmp_ge (tgt := 29) hx hb dX11_putsAside_5 (by decide) (fun q => absurd q (by decide)) (fun _ => ?_)
  refine lv_aload_n hx hb dX11_putsAside_8 rfl (lv_at hl 1 rfl) ?_
  refine va_get (ci := 11) (v := .ref (a 208)) (C := RX11) (T := TX11) (N := 39) hx hb htA in_X11 hown hK hP 1 rfl rfl 23 (by decide) (htA _ wd_1377) (fun _ h => h) rfl dX11_putsAside_9 ?_
  refine lv_iload_n hx hb dX11_putsAside_12 rfl (lv_at hl 0 rfl) ?_
  refine lv_aload_n hx hb dX11_putsAside_13 rfl (lv_at hl 1 rfl) ?_
  refine va_get (ci := 11) (v := .ref (a 201)) (C := RX11) (T := TX11) (N := 39) hx hb htA in_X11 hown hK hP 1 rfl rfl 0 (by decide) (htA _ wd_1354) (fun _ h => h) rfl dX11_putsAside_14 ?_
  refine lv_bipush (v := 8) hx hb dX11_putsAside_17 (by decide) ?_
  refine lv_iload_n hx hb dX11_putsAside_19 rfl (lv_at hl 0 rfl) ?_
  refine lv_iadd hx hb dX11_putsAside_20 ?_
  refine lv_topi (fun x31 ex31 => ?_)
  obtain rfl : x31 = 23 := ex31.trans (by decide)
  refine va_iald hx hb hK hP 2 0 rfl rfl (in_lit (by decide)) dX11_putsAside_21 ?_
  refine lv_topi (fun x32 ex32 => ?_)
  obtain rfl : x32 = 0 := ex32.trans (by first | decide | rfl)
  refine va_iast hx hb hK hP hD hS 0 0 rfl rfl (in_lit (by decide)) dX11_putsAside_22 (fun H locs hP hD hS => ?_)
  rw [fa_upd_same (f := fun _ => 0) (i := (15 : Int32).toNatClampNeg) (x := 0) (by first | decide | rfl)] at hP hD
  have hP : va_P D vwCl [((a 208), .inl (cy 0, 37, .inl (fun _ => 0))), ((a 200), .inr (11, [.ref (a 201), .ref (a 202), .ref (a 203), .ref (a 204), .int 0, .ref (a 205), .int 0, .int 0, .int 0, .int 0, .int 0, .int 0, .int 0, .int 0, .int 0, .int (-1), .int 0, .int 0, .int 0, .ref (a 206), .ref (a 207), .int 0, .int 0, .ref (a 208), .int 0, .int 0, .int 0, .int 0, .ref (a 209), .ref (a 210), .ref (a 211), .ref (a 212), .ref (a 213), .ref (a 214), .ref (a 215), .int 0, .ref (a 216), .ref (a 217), .ref (a 218)])), ((a 201), .inl (cy 0, 2260, .inl (upd (upd (fun _ => 0) (1 : Int32).toNatClampNeg 1) (2 : Int32).toNatClampNeg 1)))] H := hP
  have hD := va_ca hP hD
  refine lv_iinc (v := 16) (lv' := [(1, .int 16), (0, .ref (a 200))]) hx hb dX11_putsAside_23 hl (k := 0) rfl (by decide) (by decide) rfl (fun ls hl => ?_)
  refine lv_goto (tgt := 2) hx hb dX11_putsAside_26 (by decide) ?_
  refine lv_iload_n hx hb dX11_putsAside_2 rfl (lv_at hl 0 rfl) ?_
  refine lv_bipush (v := 37) hx hb dX11_putsAside_3 (by decide) ?_
  refine lv_icmp_ge (tgt := 29) hx hb dX11_putsAside_5 (by decide) (fun q => absurd q (by decide)) (fun _ => ?_)
  refine lv_aload_n hx hb dX11_putsAside_8 rfl (lv_at hl 1 rfl) ?_
  refine va_get (ci := 11) (v := .ref (a 208)) (C := RX11) (T := TX11) (N := 39) hx hb htA in_X11 hown hK hP 1 rfl rfl 23 (by decide) (htA _ wd_1377) (fun _ h => h) rfl dX11_putsAside_9 ?_
  refine lv_iload_n hx hb dX11_putsAside_12 rfl (lv_at hl 0 rfl) ?_
  refine lv_aload_n hx hb dX11_putsAside_13 rfl (lv_at hl 1 rfl) ?_
  refine va_get (ci := 11) (v := .ref (a 201)) (C := RX11) (T := TX11) (N := 39) hx hb htA in_X11 hown hK hP 1 rfl rfl 0 (by decide) (htA _ wd_1354) (fun _ h => h) rfl dX11_putsAside_14 ?_
  refine lv_bipush (v := 8) hx hb dX11_putsAside_17 (by decide) ?_
  refine lv_iload_n hx hb dX11_putsAside_19 rfl (lv_at hl 0 rfl) ?_
  refine lv_iadd hx hb dX11_putsAside_20 ?_
  refine lv_topi (fun x33 ex33 => ?_)
  obtain rfl : x33 = 24 := ex33.trans (by decide)
  refine va_iald hx hb hK hP 2 0 rfl rfl (in_lit (by decide)) dX11_putsAside_21 ?_
  refine lv_topi (fun x34 ex34 => ?_)
  obtain rfl : x34 = 0 := ex34.trans (by first | decide | rfl)
  refine va_iast hx hb hK hP hD hS 0 0 rfl rfl (in_lit (by decide)) dX11_putsAside_22 (fun H locs hP hD hS => ?_)
  rw [fa_upd_same (f := fun _ => 0) (i := (16 : Int32).toNatClampNeg) (x := 0) (by first | decide | rfl)] at hP hD
  have hP : va_P D vwCl [((a 208), .inl (cy 0, 37, .inl (fun _ => 0))), ((a 200), .inr (11, [.ref (a 201), .ref (a 202), .ref (a 203), .ref (a 204), .int 0, .ref (a 205), .int 0, .int 0, .int 0, .int 0, .int 0, .int 0, .int 0, .int 0, .int 0, .int (-1), .int 0, .int 0, .int 0, .ref (a 206), .ref (a 207), .int 0, .int 0, .ref (a 208), .int 0, .int 0, .int 0, .int 0, .ref (a 209), .ref (a 210), .ref (a 211), .ref (a 212), .ref (a 213), .ref (a 214), .ref (a 215), .int 0, .ref (a 216), .ref (a 217), .ref (a 218)])), ((a 201), .inl (cy 0, 2260, .inl (upd (upd (fun _ => 0) (1 : Int32).toNatClampNeg 1) (2 : Int32).toNatClampNeg 1)))] H := hP
  have hD := va_ca hP hD
  refine lv_iinc (v := 17) (lv' := [(1, .int 17), (0, .ref (a 200))]) hx hb dX11_putsAside_23 hl (k := 0) rfl (by decide) (by decide) rfl (fun ls hl => ?_)
  refine lv_goto (tgt := 2) hx hb dX11_putsAside_26 (by decide) ?_
  refine lv_iload_n hx hb dX11_putsAside_2 rfl (lv_at hl 0 rfl) ?_
  refine lv_bipush (v := 37) hx hb dX11_putsAside_3 (by decide) ?_
  refine lv_icmp_ge (tgt := 29) hx hb dX11_putsAside_5 (by decide) (fun q => absurd q (by decide)) (fun _ => ?_)
  refine lv_aload_n hx hb dX11_putsAside_8 rfl (lv_at hl 1 rfl) ?_
  refine va_get (ci := 11) (v := .ref (a 208)) (C := RX11) (T := TX11) (N := 39) hx hb htA in_X11 hown hK hP 1 rfl rfl 23 (by decide) (htA _ wd_1377) (fun _ h => h) rfl dX11_putsAside_9 ?_
  refine lv_iload_n hx hb dX11_putsAside_12 rfl (lv_at hl 0 rfl) ?_
  refine lv_aload_n hx hb dX11_putsAside_13 rfl (lv_at hl 1 rfl) ?_
  refine va_get (ci := 11) (v := .ref (a 201)) (C := RX11) (T := TX11) (N := 39) hx hb htA in_X11 hown hK hP 1 rfl rfl 0 (by decide) (htA _ wd_1354) (fun _ h => h) rfl dX11_putsAside_14 ?_
  refine lv_bipush (v := 8) hx hb dX11_putsAside_17 (by decide) ?_
  refine lv_iload_n hx hb dX11_putsAside_19 rfl (lv_at hl 0 rfl) ?_
  refine lv_iadd hx hb dX11_putsAside_20 ?_
  refine lv_topi (fun x35 ex35 => ?_)
  obtain rfl : x35 = 25 := ex35.trans (by decide)
  refine va_iald hx hb hK hP 2 0 rfl rfl (in_lit (by decide)) dX11_putsAside_21 ?_
  refine lv_topi (fun x36 ex36 => ?_)
  obtain rfl : x36 = 0 := ex36.trans (by first | decide | rfl)
  refine va_iast hx hb hK hP hD hS 0 0 rfl rfl (in_lit (by decide)) dX11_putsAside_22 (fun H locs hP hD hS => ?_)
  rw [fa_upd_same (f := fun _ => 0) (i := (17 : Int32).toNatClampNeg) (x := 0) (by first | decide | rfl)] at hP hD
  have hP : va_P D vwCl [((a 208), .inl (cy 0, 37, .inl (fun _ => 0))), ((a 200), .inr (11, [.ref (a 201), .ref (a 202), .ref (a 203), .ref (a 204), .int 0, .ref (a 205), .int 0, .int 0, .int 0, .int 0, .int 0, .int 0, .int 0, .int 0, .int 0, .int (-1), .int 0, .int 0, .int 0, .ref (a 206), .ref (a 207), .int 0, .int 0, .ref (a 208), .int 0, .int 0, .int 0, .int 0, .ref (a 209), .ref (a 210), .ref (a 211), .ref (a 212), .ref (a 213), .ref (a 214), .ref (a 215), .int 0, .ref (a 216), .ref (a 217), .ref (a 218)])), ((a 201), .inl (cy 0, 2260, .inl (upd (upd (fun _ => 0) (1 : Int32).toNatClampNeg 1) (2 : Int32).toNatClampNeg 1)))] H := hP
  have hD := va_ca hP hD
  refine lv_iinc (v := 18) (lv' := [(1, .int 18), (0, .ref (a 200))]) hx hb dX11_putsAside_23 hl (k := 0) rfl (by decide) (by decide) rfl (fun ls hl => ?_)
  refine lv_goto (tgt := 2) hx hb dX11_putsAside_26 (by decide) ?_
  refine lv_iload_n hx hb dX11_putsAside_2 rfl (lv_at hl 0 rfl) ?_
  refine lv_bipush (v := 37) hx hb dX11_putsAside_3 (by decide) ?_
  refine lv_icmp_ge (tgt := 29) hx hb dX11_putsAside_5 (by decide) (fun q => absurd q (by decide)) (fun _ => ?_)
  refine lv_aload_n hx hb dX11_putsAside_8 rfl (lv_at hl 1 rfl) ?_
  refine va_get (ci := 11) (v := .ref (a 208)) (C := RX11) (T := TX11) (N := 39) hx hb htA in_X11 hown hK hP 1 rfl rfl 23 (by decide) (htA _ wd_1377) (fun _ h => h) rfl dX11_putsAside_9 ?_
  refine lv_iload_n hx hb dX11_putsAside_12 rfl (lv_at hl 0 rfl) ?_
  refine lv_aload_n hx hb dX11_putsAside_13 rfl (lv_at hl 1 rfl) ?_
  refine va_get (ci := 11) (v := .ref (a 201)) (C := RX11) (T := TX11) (N := 39) hx hb htA in_X11 hown hK hP 1 rfl rfl 0 (by decide) (htA _ wd_1354) (fun _ h => h) rfl dX11_putsAside_14 ?_
  refine lv_bipush (v := 8) hx hb dX11_putsAside_17 (by decide) ?_
  refine lv_iload_n hx hb dX11_putsAside_19 rfl (lv_at hl 0 rfl) ?_
  refine lv_iadd hx hb dX11_putsAside_20 ?_
  refine lv_topi (fun x37 ex37 => ?_)
  obtain rfl : x37 = 26 := ex37.trans (by decide)
  refine va_iald hx hb hK hP 2 0 rfl rfl (in_lit (by decide)) dX11_putsAside_21 ?_
  refine lv_topi (fun x38 ex38 => ?_)
  obtain rfl : x38 = 0 := ex38.trans (by first | decide | rfl)
  refine va_iast hx hb hK hP hD hS 0 0 rfl rfl (in_lit (by decide)) dX11_putsAside_22 (fun H locs hP hD hS => ?_)
  rw [fa_upd_same (f := fun _ => 0) (i := (18 : Int32).toNatClampNeg) (x := 0) (by first | decide | rfl)] at hP hD
  have hP : va_P D vwCl [((a 208), .inl (cy 0, 37, .inl (fun _ => 0))), ((a 200), .inr (11, [.ref (a 201), .ref (a 202), .ref (a 203), .ref (a 204), .int 0, .ref (a 205), .int 0, .int 0, .int 0, .int 0, .int 0, .int 0, .int 0, .int 0, .int 0, .int (-1), .int 0, .int 0, .int 0, .ref (a 206), .ref (a 207), .int 0, .int 0, .ref (a 208), .int 0, .int 0, .int 0, .int 0, .ref (a 209), .ref (a 210), .ref (a 211), .ref (a 212), .ref (a 213), .ref (a 214), .ref (a 215), .int 0, .ref (a 216), .ref (a 217), .ref (a 218)])), ((a 201), .inl (cy 0, 2260, .inl (upd (upd (fun _ => 0) (1 : Int32).toNatClampNeg 1) (2 : Int32).toNatClampNeg 1)))] H := hP
  have hD := va_ca hP hD
  refine lv_iinc (v := 19) (lv' := [(1, .int 19), (0, .ref (a 200))]) hx hb dX11_putsAside_23 hl (k := 0) rfl (by decide) (by decide) rfl (fun ls hl => ?_)
  refine lv_goto (tgt := 2) hx hb dX11_putsAside_26 (by decide) ?_
  refine lv_iload_n hx hb dX11_putsAside_2 rfl (lv_at hl 0 rfl) ?_
  refine lv_bipush (v := 37) hx hb dX11_putsAside_3 (by decide) ?_
  refine lv_icmp_ge (tgt := 29) hx hb dX11_putsAside_5 (by decide) (fun q => absurd q (by decide)) (fun _ => ?_)
  refine lv_aload_n hx hb dX11_putsAside_8 rfl (lv_at hl 1 rfl) ?_
  refine va_get (ci := 11) (v := .ref (a 208)) (C := RX11) (T := TX11) (N := 39) hx hb htA in_X11 hown hK hP 1 rfl rfl 23 (by decide) (htA _ wd_1377) (fun _ h => h) rfl dX11_putsAside_9 ?_
  refine lv_iload_n hx hb dX11_putsAside_12 rfl (lv_at hl 0 rfl) ?_
  refine lv_aload_n hx hb dX11_putsAside_13 rfl (lv_at hl 1 rfl) ?_
  refine va_get (ci := 11) (v := .ref (a 201)) (C := RX11) (T := TX11) (N := 39) hx hb htA in_X11 hown hK hP 1 rfl rfl 0 (by decide) (htA _ wd_1354) (fun _ h => h) rfl dX11_putsAside_14 ?_
  refine lv_bipush (v := 8) hx hb dX11_putsAside_17 (by decide) ?_
  refine lv_iload_n hx hb dX11_putsAside_19 rfl (lv_at hl 0 rfl) ?_
  refine lv_iadd hx hb dX11_putsAside_20 ?_
  refine lv_topi (fun x39 ex39 => ?_)
  obtain rfl : x39 = 27 := ex39.trans (by decide)
  refine va_iald hx hb hK hP 2 0 rfl rfl (in_lit (by decide)) dX11_putsAside_21 ?_
  refine lv_topi (fun x40 ex40 => ?_)
  obtain rfl : x40 = 0 := ex40.trans (by first | decide | rfl)
  refine va_iast hx hb hK hP hD hS 0 0 rfl rfl (in_lit (by decide)) dX11_putsAside_22 (fun H locs hP hD hS => ?_)
  rw [fa_upd_same (f := fun _ => 0) (i := (19 : Int32).toNatClampNeg) (x := 0) (by first | decide | rfl)] at hP hD
  have hP : va_P D vwCl [((a 208), .inl (cy 0, 37, .inl (fun _ => 0))), ((a 200), .inr (11, [.ref (a 201), .ref (a 202), .ref (a 203), .ref (a 204), .int 0, .ref (a 205), .int 0, .int 0, .int 0, .int 0, .int 0, .int 0, .int 0, .int 0, .int 0, .int (-1), .int 0, .int 0, .int 0, .ref (a 206), .ref (a 207), .int 0, .int 0, .ref (a 208), .int 0, .int 0, .int 0, .int 0, .ref (a 209), .ref (a 210), .ref (a 211), .ref (a 212), .ref (a 213), .ref (a 214), .ref (a 215), .int 0, .ref (a 216), .ref (a 217), .ref (a 218)])), ((a 201), .inl (cy 0, 2260, .inl (upd (upd (fun _ => 0) (1 : Int32).toNatClampNeg 1) (2 : Int32).toNatClampNeg 1)))] H := hP
  have hD := va_ca hP hD
  refine lv_iinc (v := 20) (lv' := [(1, .int 20), (0, .ref (a 200))]) hx hb dX11_putsAside_23 hl (k := 0) rfl (by decide) (by decide) rfl (fun ls hl => ?_)
  refine lv_goto (tgt := 2) hx hb dX11_putsAside_26 (by decide) ?_
  refine lv_iload_n hx hb dX11_putsAside_2 rfl (lv_at hl 0 rfl) ?_
  refine lv_bipush (v := 37) hx hb dX11_putsAside_3 (by decide) ?_
  refine lv_icmp_ge (tgt := 29) hx hb dX11_putsAside_5 (by decide) (fun q => absurd q (by decide)) (fun _ => ?_)
  refine lv_aload_n hx hb dX11_putsAside_8 rfl (lv_at hl 1 rfl) ?_
  refine va_get (ci := 11) (v := .ref (a 208)) (C := RX11) (T := TX11) (N := 39) hx hb htA in_X11 hown hK hP 1 rfl rfl 23 (by decide) (htA _ wd_1377) (fun _ h => h) rfl dX11_putsAside_9 ?_
  refine lv_iload_n hx hb dX11_putsAside_12 rfl (lv_at hl 0 rfl) ?_
  refine lv_aload_n hx hb dX11_putsAside_13 rfl (lv_at hl 1 rfl) ?_
  refine va_get (ci := 11) (v := .ref (a 201)) (C := RX11) (T := TX11) (N := 39) hx hb htA in_X11 hown hK hP 1 rfl rfl 0 (by decide) (htA _ wd_1354) (fun _ h => h) rfl dX11_putsAside_14 ?_
  refine lv_bipush (v := 8) hx hb dX11_putsAside_17 (by decide) ?_
  refine lv_iload_n hx hb dX11_putsAside_19 rfl (lv_at hl 0 rfl) ?_
  refine lv_iadd hx hb dX11_putsAside_20 ?_
  refine lv_topi (fun x41 ex41 => ?_)
  obtain rfl : x41 = 28 := ex41.trans (by decide)
  refine va_iald hx hb hK hP 2 0 rfl rfl (in_lit (by decide)) dX11_putsAside_21 ?_
  refine lv_topi (fun x42 ex42 => ?_)
  obtain rfl : x42 = 0 := ex42.trans (by first | decide | rfl)
  refine va_iast hx hb hK hP hD hS 0 0 rfl rfl (in_lit (by decide)) dX11_putsAside_22 (fun H locs hP hD hS => ?_)
  rw [fa_upd_same (f := fun _ => 0) (i := (20 : Int32).toNatClampNeg) (x := 0) (by first | decide | rfl)] at hP hD
  have hP : va_P D vwCl [((a 208), .inl (cy 0, 37, .inl (fun _ => 0))), ((a 200), .inr (11, [.ref (a 201), .ref (a 202), .ref (a 203), .ref (a 204), .int 0, .ref (a 205), .int 0, .int 0, .int 0, .int 0, .int 0, .int 0, .int 0, .int 0, .int 0, .int (-1), .int 0, .int 0, .int 0, .ref (a 206), .ref (a 207), .int 0, .int 0, .ref (a 208), .int 0, .int 0, .int 0, .int 0, .ref (a 209), .ref (a 210), .ref (a 211), .ref (a 212), .ref (a 213), .ref (a 214), .ref (a 215), .int 0, .ref (a 216), .ref (a 217), .ref (a 218)])), ((a 201), .inl (cy 0, 2260, .inl (upd (upd (fun _ => 0) (1 : Int32).toNatClampNeg 1) (2 : Int32).toNatClampNeg 1)))] H := hP
  have hD := va_ca hP hD
  refine lv_iinc (v := 21) (lv' := [(1, .int 21), (0, .ref (a 200))]) hx hb dX11_putsAside_23 hl (k := 0) rfl (by decide) (by decide) rfl (fun ls hl => ?_)
  refine lv_goto (tgt := 2) hx hb dX11_putsAside_26 (by decide) ?_
  refine lv_iload_n hx hb dX11_putsAside_2 rfl (lv_at hl 0 rfl) ?_
  refine lv_bipush (v := 37) hx hb dX11_putsAside_3 (by decide) ?_
  refine lv_icmp_ge (tgt := 29) hx hb dX11_putsAside_5 (by decide) (fun q => absurd q (by decide)) (fun _ => ?_)
  refine lv_aload_n hx hb dX11_putsAside_8 rfl (lv_at hl 1 rfl) ?_
  refine va_get (ci := 11) (v := .ref (a 208)) (C := RX11) (T := TX11) (N := 39) hx hb htA in_X11 hown hK hP 1 rfl rfl 23 (by decide) (htA _ wd_1377) (fun _ h => h) rfl dX11_putsAside_9 ?_
  refine lv_iload_n hx hb dX11_putsAside_12 rfl (lv_at hl 0 rfl) ?_
  refine lv_aload_n hx hb dX11_putsAside_13 rfl (lv_at hl 1 rfl) ?_
  refine va_get (ci := 11) (v := .ref (a 201)) (C := RX11) (T := TX11) (N := 39) hx hb htA in_X11 hown hK hP 1 rfl rfl 0 (by decide) (htA _ wd_1354) (fun _ h => h) rfl dX11_putsAside_14 ?_
  refine lv_bipush (v := 8) hx hb dX11_putsAside_17 (by decide) ?_
  refine lv_iload_n hx hb dX11_putsAside_19 rfl (lv_at hl 0 rfl) ?_
  refine lv_iadd hx hb dX11_putsAside_20 ?_
  refine lv_topi (fun x43 ex43 => ?_)
  obtain rfl : x43 = 29 := ex43.trans (by decide)
  refine va_iald hx hb hK hP 2 0 rfl rfl (in_lit (by decide)) dX11_putsAside_21 ?_
  refine lv_topi (fun x44 ex44 => ?_)
  obtain rfl : x44 = 0 := ex44.trans (by first | decide | rfl)
  refine va_iast hx hb hK hP hD hS 0 0 rfl rfl (in_lit (by decide)) dX11_putsAside_22 (fun H locs hP hD hS => ?_)
  rw [fa_upd_same (f := fun _ => 0) (i := (21 : Int32).toNatClampNeg) (x := 0) (by first | decide | rfl)] at hP hD
  have hP : va_P D vwCl [((a 208), .inl (cy 0, 37, .inl (fun _ => 0))), ((a 200), .inr (11, [.ref (a 201), .ref (a 202), .ref (a 203), .ref (a 204), .int 0, .ref (a 205), .int 0, .int 0, .int 0, .int 0, .int 0, .int 0, .int 0, .int 0, .int 0, .int (-1), .int 0, .int 0, .int 0, .ref (a 206), .ref (a 207), .int 0, .int 0, .ref (a 208), .int 0, .int 0, .int 0, .int 0, .ref (a 209), .ref (a 210), .ref (a 211), .ref (a 212), .ref (a 213), .ref (a 214), .ref (a 215), .int 0, .ref (a 216), .ref (a 217), .ref (a 218)])), ((a 201), .inl (cy 0, 2260, .inl (upd (upd (fun _ => 0) (1 : Int32).toNatClampNeg 1) (2 : Int32).toNatClampNeg 1)))] H := hP
  have hD := va_ca hP hD
  refine lv_iinc (v := 22) (lv' := [(1, .int 22), (0, .ref (a 200))]) hx hb dX11_putsAside_23 hl (k := 0) rfl (by decide) (by decide) rfl (fun ls hl => ?_)
  refine lv_goto (tgt := 2) hx hb dX11_putsAside_26 (by decide) ?_
  refine lv_iload_n hx hb dX11_putsAside_2 rfl (lv_at hl 0 rfl) ?_
  refine lv_bipush (v := 37) hx hb dX11_putsAside_3 (by decide) ?_
  refine lv_icmp_ge (tgt := 29) hx hb dX11_putsAside_5 (by decide) (fun q => absurd q (by decide)) (fun _ => ?_)
  refine lv_aload_n hx hb dX11_putsAside_8 rfl (lv_at hl 1 rfl) ?_
  refine va_get (ci := 11) (v := .ref (a 208)) (C := RX11) (T := TX11) (N := 39) hx hb htA in_X11 hown hK hP 1 rfl rfl 23 (by decide) (htA _ wd_1377) (fun _ h => h) rfl dX11_putsAside_9 ?_
  refine lv_iload_n hx hb dX11_putsAside_12 rfl (lv_at hl 0 rfl) ?_
  refine lv_aload_n hx hb dX11_putsAside_13 rfl (lv_at hl 1 rfl) ?_
  refine va_get (ci := 11) (v := .ref (a 201)) (C := RX11) (T := TX11) (N := 39) hx hb htA in_X11 hown hK hP 1 rfl rfl 0 (by decide) (htA _ wd_1354) (fun _ h => h) rfl dX11_putsAside_14 ?_
  refine lv_bipush (v := 8) hx hb dX11_putsAside_17 (by decide) ?_
  refine lv_iload_n hx hb dX11_putsAside_19 rfl (lv_at hl 0 rfl) ?_
  refine lv_iadd hx hb dX11_putsAside_20 ?_
  refine lv_topi (fun x45 ex45 => ?_)
  obtain rfl : x45 = 30 := ex45.trans (by decide)
  refine va_iald hx hb hK hP 2 0 rfl rfl (in_lit (by decide)) dX11_putsAside_21 ?_
  refine lv_topi (fun x46 ex46 => ?_)
  obtain rfl : x46 = 0 := ex46.trans (by first | decide | rfl)
  refine va_iast hx hb hK hP hD hS 0 0 rfl rfl (in_lit (by decide)) dX11_putsAside_22 (fun H locs hP hD hS => ?_)
  rw [fa_upd_same (f := fun _ => 0) (i := (22 : Int32).toNatClampNeg) (x := 0) (by first | decide | rfl)] at hP hD
  have hP : va_P D vwCl [((a 208), .inl (cy 0, 37, .inl (fun _ => 0))), ((a 200), .inr (11, [.ref (a 201), .ref (a 202), .ref (a 203), .ref (a 204), .int 0, .ref (a 205), .int 0, .int 0, .int 0, .int 0, .int 0, .int 0, .int 0, .int 0, .int 0, .int (-1), .int 0, .int 0, .int 0, .ref (a 206), .ref (a 207), .int 0, .int 0, .ref (a 208), .int 0, .int 0, .int 0, .int 0, .ref (a 209), .ref (a 210), .ref (a 211), .ref (a 212), .ref (a 213), .ref (a 214), .ref (a 215), .int 0, .ref (a 216), .ref (a 217), .ref (a 218)])), ((a 201), .inl (cy 0, 2260, .inl (upd (upd (fun _ => 0) (1 : Int32).toNatClampNeg 1) (2 : Int32).toNatClampNeg 1)))] H := hP
  have hD := va_ca hP hD
  refine lv_iinc (v := 23) (lv' := [(1, .int 23), (0, .ref (a 200))]) hx hb dX11_putsAside_23 hl (k := 0) rfl (by decide) (by decide) rfl (fun ls hl => ?_)
  refine lv_goto (tgt := 2) hx hb dX11_putsAside_26 (by decide) ?_
  refine lv_iload_n hx hb dX11_putsAside_2 rfl (lv_at hl 0 rfl) ?_
  refine lv_bipush (v := 37) hx hb dX11_putsAside_3 (by decide) ?_
  refine lv_icmp_ge (tgt := 29) hx hb dX11_putsAside_5 (by decide) (fun q => absurd q (by decide)) (fun _ => ?_)
  refine lv_aload_n hx hb dX11_putsAside_8 rfl (lv_at hl 1 rfl) ?_
  refine va_get (ci := 11) (v := .ref (a 208)) (C := RX11) (T := TX11) (N := 39) hx hb htA in_X11 hown hK hP 1 rfl rfl 23 (by decide) (htA _ wd_1377) (fun _ h => h) rfl dX11_putsAside_9 ?_
  refine lv_iload_n hx hb dX11_putsAside_12 rfl (lv_at hl 0 rfl) ?_
  refine lv_aload_n hx hb dX11_putsAside_13 rfl (lv_at hl 1 rfl) ?_
  refine va_get (ci := 11) (v := .ref (a 201)) (C := RX11) (T := TX11) (N := 39) hx hb htA in_X11 hown hK hP 1 rfl rfl 0 (by decide) (htA _ wd_1354) (fun _ h => h) rfl dX11_putsAside_14 ?_
  refine lv_bipush (v := 8) hx hb dX11_putsAside_17 (by decide) ?_
  refine lv_iload_n hx hb dX11_putsAside_19 rfl (lv_at hl 0 rfl) ?_
  refine lv_iadd hx hb dX11_putsAside_20 ?_
  refine lv_topi (fun x47 ex47 => ?_)
  obtain rfl : x47 = 31 := ex47.trans (by decide)
  refine va_iald hx hb hK hP 2 0 rfl rfl (in_lit (by decide)) dX11_putsAside_21 ?_
  refine lv_topi (fun x48 ex48 => ?_)
  obtain rfl : x48 = 0 := ex48.trans (by first | decide | rfl)
  refine va_iast hx hb hK hP hD hS 0 0 rfl rfl (in_lit (by decide)) dX11_putsAside_22 (fun H locs hP hD hS => ?_)
  rw [fa_upd_same (f := fun _ => 0) (i := (23 : Int32).toNatClampNeg) (x := 0) (by first | decide | rfl)] at hP hD
  have hP : va_P D vwCl [((a 208), .inl (cy 0, 37, .inl (fun _ => 0))), ((a 200), .inr (11, [.ref (a 201), .ref (a 202), .ref (a 203), .ref (a 204), .int 0, .ref (a 205), .int 0, .int 0, .int 0, .int 0, .int 0, .int 0, .int 0, .int 0, .int 0, .int (-1), .int 0, .int 0, .int 0, .ref (a 206), .ref (a 207), .int 0, .int 0, .ref (a 208), .int 0, .int 0, .int 0, .int 0, .ref (a 209), .ref (a 210), .ref (a 211), .ref (a 212), .ref (a 213), .ref (a 214), .ref (a 215), .int 0, .ref (a 216), .ref (a 217), .ref (a 218)])), ((a 201), .inl (cy 0, 2260, .inl (upd (upd (fun _ => 0) (1 : Int32).toNatClampNeg 1) (2 : Int32).toNatClampNeg 1)))] H := hP
  have hD := va_ca hP hD
  refine lv_iinc (v := 24) (lv' := [(1, .int 24), (0, .ref (a 200))]) hx hb dX11_putsAside_23 hl (k := 0) rfl (by decide) (by decide) rfl (fun ls hl => ?_)
  refine lv_goto (tgt := 2) hx hb dX11_putsAside_26 (by decide) ?_
  refine lv_iload_n hx hb dX11_putsAside_2 rfl (lv_at hl 0 rfl) ?_
  refine lv_bipush (v := 37) hx hb dX11_putsAside_3 (by decide) ?_
  refine lv_icmp_ge (tgt := 29) hx hb dX11_putsAside_5 (by decide) (fun q => absurd q (by decide)) (fun _ => ?_)
  refine lv_aload_n hx hb dX11_putsAside_8 rfl (lv_at hl 1 rfl) ?_
  refine va_get (ci := 11) (v := .ref (a 208)) (C := RX11) (T := TX11) (N := 39) hx hb htA in_X11 hown hK hP 1 rfl rfl 23 (by decide) (htA _ wd_1377) (fun _ h => h) rfl dX11_putsAside_9 ?_
  refine lv_iload_n hx hb dX11_putsAside_12 rfl (lv_at hl 0 rfl) ?_
  refine lv_aload_n hx hb dX11_putsAside_13 rfl (lv_at hl 1 rfl) ?_
  refine va_get (ci := 11) (v := .ref (a 201)) (C := RX11) (T := TX11) (N := 39) hx hb htA in_X11 hown hK hP 1 rfl rfl 0 (by decide) (htA _ wd_1354) (fun _ h => h) rfl dX11_putsAside_14 ?_
  refine lv_bipush (v := 8) hx hb dX11_putsAside_17 (by decide) ?_
  refine lv_iload_n hx hb dX11_putsAside_19 rfl (lv_at hl 0 rfl) ?_
  refine lv_iadd hx hb dX11_putsAside_20 ?_
  refine lv_topi (fun x49 ex49 => ?_)
  obtain rfl : x49 = 32 := ex49.trans (by decide)
  refine va_iald hx hb hK hP 2 0 rfl rfl (in_lit (by decide)) dX11_putsAside_21 ?_
  refine lv_topi (fun x50 ex50 => ?_)
  obtain rfl : x50 = 0 := ex50.trans (by first | decide | rfl)
  refine va_iast hx hb hK hP hD hS 0 0 rfl rfl (in_lit (by decide)) dX11_putsAside_22 (fun H locs hP hD hS => ?_)
  rw [fa_upd_same (f := fun _ => 0) (i := (24 : Int32).toNatClampNeg) (x := 0) (by first | decide | rfl)] at hP hD
  have hP : va_P D vwCl [((a 208), .inl (cy 0, 37, .inl (fun _ => 0))), ((a 200), .inr (11, [.ref (a 201), .ref (a 202), .ref (a 203), .ref (a 204), .int 0, .ref (a 205), .int 0, .int 0, .int 0, .int 0, .int 0, .int 0, .int 0, .int 0, .int 0, .int (-1), .int 0, .int 0, .int 0, .ref (a 206), .ref (a 207), .int 0, .int 0, .ref (a 208), .int 0, .int 0, .int 0, .int 0, .ref (a 209), .ref (a 210), .ref (a 211), .ref (a 212), .ref (a 213), .ref (a 214), .ref (a 215), .int 0, .ref (a 216), .ref (a 217), .ref (a 218)])), ((a 201), .inl (cy 0, 2260, .inl (upd (upd (fun _ => 0) (1 : Int32).toNatClampNeg 1) (2 : Int32).toNatClampNeg 1)))] H := hP
  have hD := va_ca hP hD
  refine lv_iinc (v := 25) (lv' := [(1, .int 25), (0, .ref (a 200))]) hx hb dX11_putsAside_23 hl (k := 0) rfl (by decide) (by decide) rfl (fun ls hl => ?_)
  refine lv_goto (tgt := 2) hx hb dX11_putsAside_26 (by decide) ?_
  refine lv_iload_n hx hb dX11_putsAside_2 rfl (lv_at hl 0 rfl) ?_
  refine lv_bipush (v := 37) hx hb dX11_putsAside_3 (by decide) ?_
  refine lv_icmp_ge (tgt := 29) hx hb dX11_putsAside_5 (by decide) (fun q => absurd q (by decide)) (fun _ => ?_)
  refine lv_aload_n hx hb dX11_putsAside_8 rfl (lv_at hl 1 rfl) ?_
  refine va_get (ci := 11) (v := .ref (a 208)) (C := RX11) (T := TX11) (N := 39) hx hb htA in_X11 hown hK hP 1 rfl rfl 23 (by decide) (htA _ wd_1377) (fun _ h => h) rfl dX11_putsAside_9 ?_
  refine lv_iload_n hx hb dX11_putsAside_12 rfl (lv_at hl 0 rfl) ?_
  refine lv_aload_n hx hb dX11_putsAside_13 rfl (lv_at hl 1 rfl) ?_
  refine va_get (ci := 11) (v := .ref (a 201)) (C := RX11) (T := TX11) (N := 39) hx hb htA in_X11 hown hK hP 1 rfl rfl 0 (by decide) (htA _ wd_1354) (fun _ h => h) rfl dX11_putsAside_14 ?_
  refine lv_bipush (v := 8) hx hb dX11_putsAside_17 (by decide) ?_
  refine lv_iload_n hx hb dX11_putsAside_19 rfl (lv_at hl 0 rfl) ?_
  refine lv_iadd hx hb dX11_putsAside_20 ?_
  refine lv_topi (fun x51 ex51 => ?_)
  obtain rfl : x51 = 33 := ex51.trans (by decide)
  refine va_iald hx hb hK hP 2 0 rfl rfl (in_lit (by decide)) dX11_putsAside_21 ?_
  refine lv_topi (fun x52 ex52 => ?_)
  obtain rfl : x52 = 0 := ex52.trans (by first | decide | rfl)
  refine va_iast hx hb hK hP hD hS 0 0 rfl rfl (in_lit (by decide)) dX11_putsAside_22 (fun H locs hP hD hS => ?_)
  rw [fa_upd_same (f := fun _ => 0) (i := (25 : Int32).toNatClampNeg) (x := 0) (by first | decide | rfl)] at hP hD
  have hP : va_P D vwCl [((a 208), .inl (cy 0, 37, .inl (fun _ => 0))), ((a 200), .inr (11, [.ref (a 201), .ref (a 202), .ref (a 203), .ref (a 204), .int 0, .ref (a 205), .int 0, .int 0, .int 0, .int 0, .int 0, .int 0, .int 0, .int 0, .int 0, .int (-1), .int 0, .int 0, .int 0, .ref (a 206), .ref (a 207), .int 0, .int 0, .ref (a 208), .int 0, .int 0, .int 0, .int 0, .ref (a 209), .ref (a 210), .ref (a 211), .ref (a 212), .ref (a 213), .ref (a 214), .ref (a 215), .int 0, .ref (a 216), .ref (a 217), .ref (a 218)])), ((a 201), .inl (cy 0, 2260, .inl (upd (upd (fun _ => 0) (1 : Int32).toNatClampNeg 1) (2 : Int32).toNatClampNeg 1)))] H := hP
  have hD := va_ca hP hD
  refine lv_iinc (v := 26) (lv' := [(1, .int 26), (0, .ref (a 200))]) hx hb dX11_putsAside_23 hl (k := 0) rfl (by decide) (by decide) rfl (fun ls hl => ?_)
  refine lv_goto (tgt := 2) hx hb dX11_putsAside_26 (by decide) ?_
  refine lv_iload_n hx hb dX11_putsAside_2 rfl (lv_at hl 0 rfl) ?_
  refine lv_bipush (v := 37) hx hb dX11_putsAside_3 (by decide) ?_
  refine lv_icmp_ge (tgt := 29) hx hb dX11_putsAside_5 (by decide) (fun q => absurd q (by decide)) (fun _ => ?_)
  refine lv_aload_n hx hb dX11_putsAside_8 rfl (lv_at hl 1 rfl) ?_
  refine va_get (ci := 11) (v := .ref (a 208)) (C := RX11) (T := TX11) (N := 39) hx hb htA in_X11 hown hK hP 1 rfl rfl 23 (by decide) (htA _ wd_1377) (fun _ h => h) rfl dX11_putsAside_9 ?_
  refine lv_iload_n hx hb dX11_putsAside_12 rfl (lv_at hl 0 rfl) ?_
  refine lv_aload_n hx hb dX11_putsAside_13 rfl (lv_at hl 1 rfl) ?_
  refine va_get (ci := 11) (v := .ref (a 201)) (C := RX11) (T := TX11) (N := 39) hx hb htA in_X11 hown hK hP 1 rfl rfl 0 (by decide) (htA _ wd_1354) (fun _ h => h) rfl dX11_putsAside_14 ?_
  refine lv_bipush (v := 8) hx hb dX11_putsAside_17 (by decide) ?_
  refine lv_iload_n hx hb dX11_putsAside_19 rfl (lv_at hl 0 rfl) ?_
  refine lv_iadd hx hb dX11_putsAside_20 ?_
  refine lv_topi (fun x53 ex53 => ?_)
  obtain rfl : x53 = 34 := ex53.trans (by decide)
  refine va_iald hx hb hK hP 2 0 rfl rfl (in_lit (by decide)) dX11_putsAside_21 ?_
  refine lv_topi (fun x54 ex54 => ?_)
  obtain rfl : x54 = 0 := ex54.trans (by first | decide | rfl)
  refine va_iast hx hb hK hP hD hS 0 0 rfl rfl (in_lit (by decide)) dX11_putsAside_22 (fun H locs hP hD hS => ?_)
  rw [fa_upd_same (f := fun _ => 0) (i := (26 : Int32).toNatClampNeg) (x := 0) (by first | decide | rfl)] at hP hD
  have hP : va_P D vwCl [((a 208), .inl (cy 0, 37, .inl (fun _ => 0))), ((a 200), .inr (11, [.ref (a 201), .ref (a 202), .ref (a 203), .ref (a 204), .int 0, .ref (a 205), .int 0, .int 0, .int 0, .int 0, .int 0, .int 0, .int 0, .int 0, .int 0, .int (-1), .int 0, .int 0, .int 0, .ref (a 206), .ref (a 207), .int 0, .int 0, .ref (a 208), .int 0, .int 0, .int 0, .int 0, .ref (a 209), .ref (a 210), .ref (a 211), .ref (a 212), .ref (a 213), .ref (a 214), .ref (a 215), .int 0, .ref (a 216), .ref (a 217), .ref (a 218)])), ((a 201), .inl (cy 0, 2260, .inl (upd (upd (fun _ => 0) (1 : Int32).toNatClampNeg 1) (2 : Int32).toNatClampNeg 1)))] H := hP
  have hD := va_ca hP hD
  refine lv_iinc (v := 27) (lv' := [(1, .int 27), (0, .ref (a 200))]) hx hb dX11_putsAside_23 hl (k := 0) rfl (by decide) (by decide) rfl (fun ls hl => ?_)
  refine lv_goto (tgt := 2) hx hb dX11_putsAside_26 (by decide) ?_
  refine lv_iload_n hx hb dX11_putsAside_2 rfl (lv_at hl 0 rfl) ?_
  refine lv_bipush (v := 37) hx hb dX11_putsAside_3 (by decide) ?_
  refine lv_icmp_ge (tgt := 29) hx hb dX11_putsAside_5 (by decide) (fun q => absurd q (by decide)) (fun _ => ?_)
  refine lv_aload_n hx hb dX11_putsAside_8 rfl (lv_at hl 1 rfl) ?_
  refine va_get (ci := 11) (v := .ref (a 208)) (C := RX11) (T := TX11) (N := 39) hx hb htA in_X11 hown hK hP 1 rfl rfl 23 (by decide) (htA _ wd_1377) (fun _ h => h) rfl dX11_putsAside_9 ?_
  refine lv_iload_n hx hb dX11_putsAside_12 rfl (lv_at hl 0 rfl) ?_
  refine lv_aload_n hx hb dX11_putsAside_13 rfl (lv_at hl 1 rfl) ?_
  refine va_get (ci := 11) (v := .ref (a 201)) (C := RX11) (T := TX11) (N := 39) hx hb htA in_X11 hown hK hP 1 rfl rfl 0 (by decide) (htA _ wd_1354) (fun _ h => h) rfl dX11_putsAside_14 ?_
  refine lv_bipush (v := 8) hx hb dX11_putsAside_17 (by decide) ?_
  refine lv_iload_n hx hb dX11_putsAside_19 rfl (lv_at hl 0 rfl) ?_
  refine lv_iadd hx hb dX11_putsAside_20 ?_
  refine lv_topi (fun x55 ex55 => ?_)
  obtain rfl : x55 = 35 := ex55.trans (by decide)
  refine va_iald hx hb hK hP 2 0 rfl rfl (in_lit (by decide)) dX11_putsAside_21 ?_
  refine lv_topi (fun x56 ex56 => ?_)
  obtain rfl : x56 = 0 := ex56.trans (by first | decide | rfl)
  refine va_iast hx hb hK hP hD hS 0 0 rfl rfl (in_lit (by decide)) dX11_putsAside_22 (fun H locs hP hD hS => ?_)
  rw [fa_upd_same (f := fun _ => 0) (i := (27 : Int32).toNatClampNeg) (x := 0) (by first | decide | rfl)] at hP hD
  have hP : va_P D vwCl [((a 208), .inl (cy 0, 37, .inl (fun _ => 0))), ((a 200), .inr (11, [.ref (a 201), .ref (a 202), .ref (a 203), .ref (a 204), .int 0, .ref (a 205), .int 0, .int 0, .int 0, .int 0, .int 0, .int 0, .int 0, .int 0, .int 0, .int (-1), .int 0, .int 0, .int 0, .ref (a 206), .ref (a 207), .int 0, .int 0, .ref (a 208), .int 0, .int 0, .int 0, .int 0, .ref (a 209), .ref (a 210), .ref (a 211), .ref (a 212), .ref (a 213), .ref (a 214), .ref (a 215), .int 0, .ref (a 216), .ref (a 217), .ref (a 218)])), ((a 201), .inl (cy 0, 2260, .inl (upd (upd (fun _ => 0) (1 : Int32).toNatClampNeg 1) (2 : Int32).toNatClampNeg 1)))] H := hP
  have hD := va_ca hP hD
  refine lv_iinc (v := 28) (lv' := [(1, .int 28), (0, .ref (a 200))]) hx hb dX11_putsAside_23 hl (k := 0) rfl (by decide) (by decide) rfl (fun ls hl => ?_)
  refine lv_goto (tgt := 2) hx hb dX11_putsAside_26 (by decide) ?_
  refine lv_iload_n hx hb dX11_putsAside_2 rfl (lv_at hl 0 rfl) ?_
  refine lv_bipush (v := 37) hx hb dX11_putsAside_3 (by decide) ?_
  refine lv_icmp_ge (tgt := 29) hx hb dX11_putsAside_5 (by decide) (fun q => absurd q (by decide)) (fun _ => ?_)
  refine lv_aload_n hx hb dX11_putsAside_8 rfl (lv_at hl 1 rfl) ?_
  refine va_get (ci := 11) (v := .ref (a 208)) (C := RX11) (T := TX11) (N := 39) hx hb htA in_X11 hown hK hP 1 rfl rfl 23 (by decide) (htA _ wd_1377) (fun _ h => h) rfl dX11_putsAside_9 ?_
  refine lv_iload_n hx hb dX11_putsAside_12 rfl (lv_at hl 0 rfl) ?_
  refine lv_aload_n hx hb dX11_putsAside_13 rfl (lv_at hl 1 rfl) ?_
  refine va_get (ci := 11) (v := .ref (a 201)) (C := RX11) (T := TX11) (N := 39) hx hb htA in_X11 hown hK hP 1 rfl rfl 0 (by decide) (htA _ wd_1354) (fun _ h => h) rfl dX11_putsAside_14 ?_
  refine lv_bipush (v := 8) hx hb dX11_putsAside_17 (by decide) ?_
  refine lv_iload_n hx hb dX11_putsAside_19 rfl (lv_at hl 0 rfl) ?_
  refine lv_iadd hx hb dX11_putsAside_20 ?_
  refine lv_topi (fun x57 ex57 => ?_)
  obtain rfl : x57 = 36 := ex57.trans (by decide)
  refine va_iald hx hb hK hP 2 0 rfl rfl (in_lit (by decide)) dX11_putsAside_21 ?_
  refine lv_topi (fun x58 ex58 => ?_)
  obtain rfl : x58 = 0 := ex58.trans (by first | decide | rfl)
  refine va_iast hx hb hK hP hD hS 0 0 rfl rfl (in_lit (by decide)) dX11_putsAside_22 (fun H locs hP hD hS => ?_)
  rw [fa_upd_same (f := fun _ => 0) (i := (28 : Int32).toNatClampNeg) (x := 0) (by first | decide | rfl)] at hP hD
  have hP : va_P D vwCl [((a 208), .inl (cy 0, 37, .inl (fun _ => 0))), ((a 200), .inr (11, [.ref (a 201), .ref (a 202), .ref (a 203), .ref (a 204), .int 0, .ref (a 205), .int 0, .int 0, .int 0, .int 0, .int 0, .int 0, .int 0, .int 0, .int 0, .int (-1), .int 0, .int 0, .int 0, .ref (a 206), .ref (a 207), .int 0, .int 0, .ref (a 208), .int 0, .int 0, .int 0, .int 0, .ref (a 209), .ref (a 210), .ref (a 211), .ref (a 212), .ref (a 213), .ref (a 214), .ref (a 215), .int 0, .ref (a 216), .ref (a 217), .ref (a 218)])), ((a 201), .inl (cy 0, 2260, .inl (upd (upd (fun _ => 0) (1 : Int32).toNatClampNeg 1) (2 : Int32).toNatClampNeg 1)))] H := hP
  have hD := va_ca hP hD
  refine lv_iinc (v := 29) (lv' := [(1, .int 29), (0, .ref (a 200))]) hx hb dX11_putsAside_23 hl (k := 0) rfl (by decide) (by decide) rfl (fun ls hl => ?_)
  refine lv_goto (tgt := 2) hx hb dX11_putsAside_26 (by decide) ?_
  refine lv_iload_n hx hb dX11_putsAside_2 rfl (lv_at hl 0 rfl) ?_
  refine lv_bipush (v := 37) hx hb dX11_putsAside_3 (by decide) ?_
  refine lv_icmp_ge (tgt := 29) hx hb dX11_putsAside_5 (by decide) (fun q => absurd q (by decide)) (fun _ => ?_)
  refine lv_aload_n hx hb dX11_putsAside_8 rfl (lv_at hl 1 rfl) ?_
  refine va_get (ci := 11) (v := .ref (a 208)) (C := RX11) (T := TX11) (N := 39) hx hb htA in_X11 hown hK hP 1 rfl rfl 23 (by decide) (htA _ wd_1377) (fun _ h => h) rfl dX11_putsAside_9 ?_
  refine lv_iload_n hx hb dX11_putsAside_12 rfl (lv_at hl 0 rfl) ?_
  refine lv_aload_n hx hb dX11_putsAside_13 rfl (lv_at hl 1 rfl) ?_
  refine va_get (ci := 11) (v := .ref (a 201)) (C := RX11) (T := TX11) (N := 39) hx hb htA in_X11 hown hK hP 1 rfl rfl 0 (by decide) (htA _ wd_1354) (fun _ h => h) rfl dX11_putsAside_14 ?_
  refine lv_bipush (v := 8) hx hb dX11_putsAside_17 (by decide) ?_
  refine lv_iload_n hx hb dX11_putsAside_19 rfl (lv_at hl 0 rfl) ?_
  refine lv_iadd hx hb dX11_putsAside_20 ?_
  refine lv_topi (fun x59 ex59 => ?_)
  obtain rfl : x59 = 37 := ex59.trans (by decide)
  refine va_iald hx hb hK hP 2 0 rfl rfl (in_lit (by decide)) dX11_putsAside_21 ?_
  refine lv_topi (fun x60 ex60 => ?_)
  obtain rfl : x60 = 0 := ex60.trans (by first | decide | rfl)
  refine va_iast hx hb hK hP hD hS 0 0 rfl rfl (in_lit (by decide)) dX11_putsAside_22 (fun H locs hP hD hS => ?_)
  rw [fa_upd_same (f := fun _ => 0) (i := (29 : Int32).toNatClampNeg) (x := 0) (by first | decide | rfl)] at hP hD
  have hP : va_P D vwCl [((a 208), .inl (cy 0, 37, .inl (fun _ => 0))), ((a 200), .inr (11, [.ref (a 201), .ref (a 202), .ref (a 203), .ref (a 204), .int 0, .ref (a 205), .int 0, .int 0, .int 0, .int 0, .int 0, .int 0, .int 0, .int 0, .int 0, .int (-1), .int 0, .int 0, .int 0, .ref (a 206), .ref (a 207), .int 0, .int 0, .ref (a 208), .int 0, .int 0, .int 0, .int 0, .ref (a 209), .ref (a 210), .ref (a 211), .ref (a 212), .ref (a 213), .ref (a 214), .ref (a 215), .int 0, .ref (a 216), .ref (a 217), .ref (a 218)])), ((a 201), .inl (cy 0, 2260, .inl (upd (upd (fun _ => 0) (1 : Int32).toNatClampNeg 1) (2 : Int32).toNatClampNeg 1)))] H := hP
  have hD := va_ca hP hD
  refine lv_iinc (v := 30) (lv' := [(1, .int 30), (0, .ref (a 200))]) hx hb dX11_putsAside_23 hl (k := 0) rfl (by decide) (by decide) rfl (fun ls hl => ?_)
  refine lv_goto (tgt := 2) hx hb dX11_putsAside_26 (by decide) ?_
  refine lv_iload_n hx hb dX11_putsAside_2 rfl (lv_at hl 0 rfl) ?_
  refine lv_bipush (v := 37) hx hb dX11_putsAside_3 (by decide) ?_
  refine lv_icmp_ge (tgt := 29) hx hb dX11_putsAside_5 (by decide) (fun q => absurd q (by decide)) (fun _ => ?_)
  refine lv_aload_n hx hb dX11_putsAside_8 rfl (lv_at hl 1 rfl) ?_
  refine va_get (ci := 11) (v := .ref (a 208)) (C := RX11) (T := TX11) (N := 39) hx hb htA in_X11 hown hK hP 1 rfl rfl 23 (by decide) (htA _ wd_1377) (fun _ h => h) rfl dX11_putsAside_9 ?_
  refine lv_iload_n hx hb dX11_putsAside_12 rfl (lv_at hl 0 rfl) ?_
  refine lv_aload_n hx hb dX11_putsAside_13 rfl (lv_at hl 1 rfl) ?_
  refine va_get (ci := 11) (v := .ref (a 201)) (C := RX11) (T := TX11) (N := 39) hx hb htA in_X11 hown hK hP 1 rfl rfl 0 (by decide) (htA _ wd_1354) (fun _ h => h) rfl dX11_putsAside_14 ?_
  refine lv_bipush (v := 8) hx hb dX11_putsAside_17 (by decide) ?_
  refine lv_iload_n hx hb dX11_putsAside_19 rfl (lv_at hl 0 rfl) ?_
  refine lv_iadd hx hb dX11_putsAside_20 ?_
  refine lv_topi (fun x61 ex61 => ?_)
  obtain rfl : x61 = 38 := ex61.trans (by decide)
  refine va_iald hx hb hK hP 2 0 rfl rfl (in_lit (by decide)) dX11_putsAside_21 ?_
  refine lv_topi (fun x62 ex62 => ?_)
  obtain rfl : x62 = 0 := ex62.trans (by first | decide | rfl)
  refine va_iast hx hb hK hP hD hS 0 0 rfl rfl (in_lit (by decide)) dX11_putsAside_22 (fun H locs hP hD hS => ?_)
  rw [fa_upd_same (f := fun _ => 0) (i := (30 : Int32).toNatClampNeg) (x := 0) (by first | decide | rfl)] at hP hD
  have hP : va_P D vwCl [((a 208), .inl (cy 0, 37, .inl (fun _ => 0))), ((a 200), .inr (11, [.ref (a 201), .ref (a 202), .ref (a 203), .ref (a 204), .int 0, .ref (a 205), .int 0, .int 0, .int 0, .int 0, .int 0, .int 0, .int 0, .int 0, .int 0, .int (-1), .int 0, .int 0, .int 0, .ref (a 206), .ref (a 207), .int 0, .int 0, .ref (a 208), .int 0, .int 0, .int 0, .int 0, .ref (a 209), .ref (a 210), .ref (a 211), .ref (a 212), .ref (a 213), .ref (a 214), .ref (a 215), .int 0, .ref (a 216), .ref (a 217), .ref (a 218)])), ((a 201), .inl (cy 0, 2260, .inl (upd (upd (fun _ => 0) (1 : Int32).toNatClampNeg 1) (2 : Int32).toNatClampNeg 1)))] H := hP
  have hD := va_ca hP hD
  refine lv_iinc (v := 31) (lv' := [(1, .int 31), (0, .ref (a 200))]) hx hb dX11_putsAside_23 hl (k := 0) rfl (by decide) (by decide) rfl (fun ls hl => ?_)
  refine lv_goto (tgt := 2) hx hb dX11_putsAside_26 (by decide) ?_
  refine lv_iload_n hx hb dX11_putsAside_2 rfl (lv_at hl 0 rfl) ?_
  refine lv_bipush (v := 37) hx hb dX11_putsAside_3 (by decide) ?_
  refine lv_icmp_ge (tgt := 29) hx hb dX11_putsAside_5 (by decide) (fun q => absurd q (by decide)) (fun _ => ?_)
  refine lv_aload_n hx hb dX11_putsAside_8 rfl (lv_at hl 1 rfl) ?_
  refine va_get (ci := 11) (v := .ref (a 208)) (C := RX11) (T := TX11) (N := 39) hx hb htA in_X11 hown hK hP 1 rfl rfl 23 (by decide) (htA _ wd_1377) (fun _ h => h) rfl dX11_putsAside_9 ?_
  refine lv_iload_n hx hb dX11_putsAside_12 rfl (lv_at hl 0 rfl) ?_
  refine lv_aload_n hx hb dX11_putsAside_13 rfl (lv_at hl 1 rfl) ?_
  refine va_get (ci := 11) (v := .ref (a 201)) (C := RX11) (T := TX11) (N := 39) hx hb htA in_X11 hown hK hP 1 rfl rfl 0 (by decide) (htA _ wd_1354) (fun _ h => h) rfl dX11_putsAside_14 ?_
  refine lv_bipush (v := 8) hx hb dX11_putsAside_17 (by decide) ?_
  refine lv_iload_n hx hb dX11_putsAside_19 rfl (lv_at hl 0 rfl) ?_
  refine lv_iadd hx hb dX11_putsAside_20 ?_
  refine lv_topi (fun x63 ex63 => ?_)
  obtain rfl : x63 = 39 := ex63.trans (by decide)
  refine va_iald hx hb hK hP 2 0 rfl rfl (in_lit (by decide)) dX11_putsAside_21 ?_
  refine lv_topi (fun x64 ex64 => ?_)
  obtain rfl : x64 = 0 := ex64.trans (by first | decide | rfl)
  refine va_iast hx hb hK hP hD hS 0 0 rfl rfl (in_lit (by decide)) dX11_putsAside_22 (fun H locs hP hD hS => ?_)
  rw [fa_upd_same (f := fun _ => 0) (i := (31 : Int32).toNatClampNeg) (x := 0) (by first | decide | rfl)] at hP hD
  have hP : va_P D vwCl [((a 208), .inl (cy 0, 37, .inl (fun _ => 0))), ((a 200), .inr (11, [.ref (a 201), .ref (a 202), .ref (a 203), .ref (a 204), .int 0, .ref (a 205), .int 0, .int 0, .int 0, .int 0, .int 0, .int 0, .int 0, .int 0, .int 0, .int (-1), .int 0, .int 0, .int 0, .ref (a 206), .ref (a 207), .int 0, .int 0, .ref (a 208), .int 0, .int 0, .int 0, .int 0, .ref (a 209), .ref (a 210), .ref (a 211), .ref (a 212), .ref (a 213), .ref (a 214), .ref (a 215), .int 0, .ref (a 216), .ref (a 217), .ref (a 218)])), ((a 201), .inl (cy 0, 2260, .inl (upd (upd (fun _ => 0) (1 : Int32).toNatClampNeg 1) (2 : Int32).toNatClampNeg 1)))] H := hP
  have hD := va_ca hP hD
  refine lv_iinc (v := 32) (lv' := [(1, .int 32), (0, .ref (a 200))]) hx hb dX11_putsAside_23 hl (k := 0) rfl (by decide) (by decide) rfl (fun ls hl => ?_)
  refine lv_goto (tgt := 2) hx hb dX11_putsAside_26 (by decide) ?_
  refine lv_iload_n hx hb dX11_putsAside_2 rfl (lv_at hl 0 rfl) ?_
  refine lv_bipush (v := 37) hx hb dX11_putsAside_3 (by decide) ?_
  refine lv_icmp_ge (tgt := 29) hx hb dX11_putsAside_5 (by decide) (fun q => absurd q (by decide)) (fun _ => ?_)
  refine lv_aload_n hx hb dX11_putsAside_8 rfl (lv_at hl 1 rfl) ?_
  refine va_get (ci := 11) (v := .ref (a 208)) (C := RX11) (T := TX11) (N := 39) hx hb htA in_X11 hown hK hP 1 rfl rfl 23 (by decide) (htA _ wd_1377) (fun _ h => h) rfl dX11_putsAside_9 ?_
  refine lv_iload_n hx hb dX11_putsAside_12 rfl (lv_at hl 0 rfl) ?_
  refine lv_aload_n hx hb dX11_putsAside_13 rfl (lv_at hl 1 rfl) ?_
  refine va_get (ci := 11) (v := .ref (a 201)) (C := RX11) (T := TX11) (N := 39) hx hb htA in_X11 hown hK hP 1 rfl rfl 0 (by decide) (htA _ wd_1354) (fun _ h => h) rfl dX11_putsAside_14 ?_
  refine lv_bipush (v := 8) hx hb dX11_putsAside_17 (by decide) ?_
  refine lv_iload_n hx hb dX11_putsAside_19 rfl (lv_at hl 0 rfl) ?_
  refine lv_iadd hx hb dX11_putsAside_20 ?_
  refine lv_topi (fun x65 ex65 => ?_)
  obtain rfl : x65 = 40 := ex65.trans (by decide)
  refine va_iald hx hb hK hP 2 0 rfl rfl (in_lit (by decide)) dX11_putsAside_21 ?_
  refine lv_topi (fun x66 ex66 => ?_)
  obtain rfl : x66 = 0 := ex66.trans (by first | decide | rfl)
  refine va_iast hx hb hK hP hD hS 0 0 rfl rfl (in_lit (by decide)) dX11_putsAside_22 (fun H locs hP hD hS => ?_)
  rw [fa_upd_same (f := fun _ => 0) (i := (32 : Int32).toNatClampNeg) (x := 0) (by first | decide | rfl)] at hP hD
  have hP : va_P D vwCl [((a 208), .inl (cy 0, 37, .inl (fun _ => 0))), ((a 200), .inr (11, [.ref (a 201), .ref (a 202), .ref (a 203), .ref (a 204), .int 0, .ref (a 205), .int 0, .int 0, .int 0, .int 0, .int 0, .int 0, .int 0, .int 0, .int 0, .int (-1), .int 0, .int 0, .int 0, .ref (a 206), .ref (a 207), .int 0, .int 0, .ref (a 208), .int 0, .int 0, .int 0, .int 0, .ref (a 209), .ref (a 210), .ref (a 211), .ref (a 212), .ref (a 213), .ref (a 214), .ref (a 215), .int 0, .ref (a 216), .ref (a 217), .ref (a 218)])), ((a 201), .inl (cy 0, 2260, .inl (upd (upd (fun _ => 0) (1 : Int32).toNatClampNeg 1) (2 : Int32).toNatClampNeg 1)))] H := hP
  have hD := va_ca hP hD
  refine lv_iinc (v := 33) (lv' := [(1, .int 33), (0, .ref (a 200))]) hx hb dX11_putsAside_23 hl (k := 0) rfl (by decide) (by decide) rfl (fun ls hl => ?_)
  refine lv_goto (tgt := 2) hx hb dX11_putsAside_26 (by decide) ?_
  refine lv_iload_n hx hb dX11_putsAside_2 rfl (lv_at hl 0 rfl) ?_
  refine lv_bipush (v := 37) hx hb dX11_putsAside_3 (by decide) ?_
  refine lv_icmp_ge (tgt := 29) hx hb dX11_putsAside_5 (by decide) (fun q => absurd q (by decide)) (fun _ => ?_)
  refine lv_aload_n hx hb dX11_putsAside_8 rfl (lv_at hl 1 rfl) ?_
  refine va_get (ci := 11) (v := .ref (a 208)) (C := RX11) (T := TX11) (N := 39) hx hb htA in_X11 hown hK hP 1 rfl rfl 23 (by decide) (htA _ wd_1377) (fun _ h => h) rfl dX11_putsAside_9 ?_
  refine lv_iload_n hx hb dX11_putsAside_12 rfl (lv_at hl 0 rfl) ?_
  refine lv_aload_n hx hb dX11_putsAside_13 rfl (lv_at hl 1 rfl) ?_
  refine va_get (ci := 11) (v := .ref (a 201)) (C := RX11) (T := TX11) (N := 39) hx hb htA in_X11 hown hK hP 1 rfl rfl 0 (by decide) (htA _ wd_1354) (fun _ h => h) rfl dX11_putsAside_14 ?_
  refine lv_bipush (v := 8) hx hb dX11_putsAside_17 (by decide) ?_
  refine lv_iload_n hx hb dX11_putsAside_19 rfl (lv_at hl 0 rfl) ?_
  refine lv_iadd hx hb dX11_putsAside_20 ?_
  refine lv_topi (fun x67 ex67 => ?_)
  obtain rfl : x67 = 41 := ex67.trans (by decide)
  refine va_iald hx hb hK hP 2 0 rfl rfl (in_lit (by decide)) dX11_putsAside_21 ?_
  refine lv_topi (fun x68 ex68 => ?_)
  obtain rfl : x68 = 0 := ex68.trans (by first | decide | rfl)
  refine va_iast hx hb hK hP hD hS 0 0 rfl rfl (in_lit (by decide)) dX11_putsAside_22 (fun H locs hP hD hS => ?_)
  rw [fa_upd_same (f := fun _ => 0) (i := (33 : Int32).toNatClampNeg) (x := 0) (by first | decide | rfl)] at hP hD
  have hP : va_P D vwCl [((a 208), .inl (cy 0, 37, .inl (fun _ => 0))), ((a 200), .inr (11, [.ref (a 201), .ref (a 202), .ref (a 203), .ref (a 204), .int 0, .ref (a 205), .int 0, .int 0, .int 0, .int 0, .int 0, .int 0, .int 0, .int 0, .int 0, .int (-1), .int 0, .int 0, .int 0, .ref (a 206), .ref (a 207), .int 0, .int 0, .ref (a 208), .int 0, .int 0, .int 0, .int 0, .ref (a 209), .ref (a 210), .ref (a 211), .ref (a 212), .ref (a 213), .ref (a 214), .ref (a 215), .int 0, .ref (a 216), .ref (a 217), .ref (a 218)])), ((a 201), .inl (cy 0, 2260, .inl (upd (upd (fun _ => 0) (1 : Int32).toNatClampNeg 1) (2 : Int32).toNatClampNeg 1)))] H := hP
  have hD := va_ca hP hD
  refine lv_iinc (v := 34) (lv' := [(1, .int 34), (0, .ref (a 200))]) hx hb dX11_putsAside_23 hl (k := 0) rfl (by decide) (by decide) rfl (fun ls hl => ?_)
  refine lv_goto (tgt := 2) hx hb dX11_putsAside_26 (by decide) ?_
  refine lv_iload_n hx hb dX11_putsAside_2 rfl (lv_at hl 0 rfl) ?_
  refine lv_bipush (v := 37) hx hb dX11_putsAside_3 (by decide) ?_
  refine lv_icmp_ge (tgt := 29) hx hb dX11_putsAside_5 (by decide) (fun q => absurd q (by decide)) (fun _ => ?_)
  refine lv_aload_n hx hb dX11_putsAside_8 rfl (lv_at hl 1 rfl) ?_
  refine va_get (ci := 11) (v := .ref (a 208)) (C := RX11) (T := TX11) (N := 39) hx hb htA in_X11 hown hK hP 1 rfl rfl 23 (by decide) (htA _ wd_1377) (fun _ h => h) rfl dX11_putsAside_9 ?_
  refine lv_iload_n hx hb dX11_putsAside_12 rfl (lv_at hl 0 rfl) ?_
  refine lv_aload_n hx hb dX11_putsAside_13 rfl (lv_at hl 1 rfl) ?_
  refine va_get (ci := 11) (v := .ref (a 201)) (C := RX11) (T := TX11) (N := 39) hx hb htA in_X11 hown hK hP 1 rfl rfl 0 (by decide) (htA _ wd_1354) (fun _ h => h) rfl dX11_putsAside_14 ?_
  refine lv_bipush (v := 8) hx hb dX11_putsAside_17 (by decide) ?_
  refine lv_iload_n hx hb dX11_putsAside_19 rfl (lv_at hl 0 rfl) ?_
  refine lv_iadd hx hb dX11_putsAside_20 ?_
  refine lv_topi (fun x69 ex69 => ?_)
  obtain rfl : x69 = 42 := ex69.trans (by decide)
  refine va_iald hx hb hK hP 2 0 rfl rfl (in_lit (by decide)) dX11_putsAside_21 ?_
  refine lv_topi (fun x70 ex70 => ?_)
  obtain rfl : x70 = 0 := ex70.trans (by first | decide | rfl)
  refine va_iast hx hb hK hP hD hS 0 0 rfl rfl (in_lit (by decide)) dX11_putsAside_22 (fun H locs hP hD hS => ?_)
  rw [fa_upd_same (f := fun _ => 0) (i := (34 : Int32).toNatClampNeg) (x := 0) (by first | decide | rfl)] at hP hD
  have hP : va_P D vwCl [((a 208), .inl (cy 0, 37, .inl (fun _ => 0))), ((a 200), .inr (11, [.ref (a 201), .ref (a 202), .ref (a 203), .ref (a 204), .int 0, .ref (a 205), .int 0, .int 0, .int 0, .int 0, .int 0, .int 0, .int 0, .int 0, .int 0, .int (-1), .int 0, .int 0, .int 0, .ref (a 206), .ref (a 207), .int 0, .int 0, .ref (a 208), .int 0, .int 0, .int 0, .int 0, .ref (a 209), .ref (a 210), .ref (a 211), .ref (a 212), .ref (a 213), .ref (a 214), .ref (a 215), .int 0, .ref (a 216), .ref (a 217), .ref (a 218)])), ((a 201), .inl (cy 0, 2260, .inl (upd (upd (fun _ => 0) (1 : Int32).toNatClampNeg 1) (2 : Int32).toNatClampNeg 1)))] H := hP
  have hD := va_ca hP hD
  refine lv_iinc (v := 35) (lv' := [(1, .int 35), (0, .ref (a 200))]) hx hb dX11_putsAside_23 hl (k := 0) rfl (by decide) (by decide) rfl (fun ls hl => ?_)
  refine lv_goto (tgt := 2) hx hb dX11_putsAside_26 (by decide) ?_
  refine lv_iload_n hx hb dX11_putsAside_2 rfl (lv_at hl 0 rfl) ?_
  refine lv_bipush (v := 37) hx hb dX11_putsAside_3 (by decide) ?_
  refine lv_icmp_ge (tgt := 29) hx hb dX11_putsAside_5 (by decide) (fun q => absurd q (by decide)) (fun _ => ?_)
  refine lv_aload_n hx hb dX11_putsAside_8 rfl (lv_at hl 1 rfl) ?_
  refine va_get (ci := 11) (v := .ref (a 208)) (C := RX11) (T := TX11) (N := 39) hx hb htA in_X11 hown hK hP 1 rfl rfl 23 (by decide) (htA _ wd_1377) (fun _ h => h) rfl dX11_putsAside_9 ?_
  refine lv_iload_n hx hb dX11_putsAside_12 rfl (lv_at hl 0 rfl) ?_
  refine lv_aload_n hx hb dX11_putsAside_13 rfl (lv_at hl 1 rfl) ?_
  refine va_get (ci := 11) (v := .ref (a 201)) (C := RX11) (T := TX11) (N := 39) hx hb htA in_X11 hown hK hP 1 rfl rfl 0 (by decide) (htA _ wd_1354) (fun _ h => h) rfl dX11_putsAside_14 ?_
  refine lv_bipush (v := 8) hx hb dX11_putsAside_17 (by decide) ?_
  refine lv_iload_n hx hb dX11_putsAside_19 rfl (lv_at hl 0 rfl) ?_
  refine lv_iadd hx hb dX11_putsAside_20 ?_
  refine lv_topi (fun x71 ex71 => ?_)
  obtain rfl : x71 = 43 := ex71.trans (by decide)
  refine va_iald hx hb hK hP 2 0 rfl rfl (in_lit (by decide)) dX11_putsAside_21 ?_
  refine lv_topi (fun x72 ex72 => ?_)
  obtain rfl : x72 = 0 := ex72.trans (by first | decide | rfl)
  refine va_iast hx hb hK hP hD hS 0 0 rfl rfl (in_lit (by decide)) dX11_putsAside_22 (fun H locs hP hD hS => ?_)
  rw [fa_upd_same (f := fun _ => 0) (i := (35 : Int32).toNatClampNeg) (x := 0) (by first | decide | rfl)] at hP hD
  have hP : va_P D vwCl [((a 208), .inl (cy 0, 37, .inl (fun _ => 0))), ((a 200), .inr (11, [.ref (a 201), .ref (a 202), .ref (a 203), .ref (a 204), .int 0, .ref (a 205), .int 0, .int 0, .int 0, .int 0, .int 0, .int 0, .int 0, .int 0, .int 0, .int (-1), .int 0, .int 0, .int 0, .ref (a 206), .ref (a 207), .int 0, .int 0, .ref (a 208), .int 0, .int 0, .int 0, .int 0, .ref (a 209), .ref (a 210), .ref (a 211), .ref (a 212), .ref (a 213), .ref (a 214), .ref (a 215), .int 0, .ref (a 216), .ref (a 217), .ref (a 218)])), ((a 201), .inl (cy 0, 2260, .inl (upd (upd (fun _ => 0) (1 : Int32).toNatClampNeg 1) (2 : Int32).toNatClampNeg 1)))] H := hP
  have hD := va_ca hP hD
  refine lv_iinc (v := 36) (lv' := [(1, .int 36), (0, .ref (a 200))]) hx hb dX11_putsAside_23 hl (k := 0) rfl (by decide) (by decide) rfl (fun ls hl => ?_)
  refine lv_goto (tgt := 2) hx hb dX11_putsAside_26 (by decide) ?_
  refine lv_iload_n hx hb dX11_putsAside_2 rfl (lv_at hl 0 rfl) ?_
  refine lv_bipush (v := 37) hx hb dX11_putsAside_3 (by decide) ?_
  refine lv_icmp_ge (tgt := 29) hx hb dX11_putsAside_5 (by decide) (fun q => absurd q (by decide)) (fun _ => ?_)
  refine lv_aload_n hx hb dX11_putsAside_8 rfl (lv_at hl 1 rfl) ?_
  refine va_get (ci := 11) (v := .ref (a 208)) (C := RX11) (T := TX11) (N := 39) hx hb htA in_X11 hown hK hP 1 rfl rfl 23 (by decide) (htA _ wd_1377) (fun _ h => h) rfl dX11_putsAside_9 ?_
  refine lv_iload_n hx hb dX11_putsAside_12 rfl (lv_at hl 0 rfl) ?_
  refine lv_aload_n hx hb dX11_putsAside_13 rfl (lv_at hl 1 rfl) ?_
  refine va_get (ci := 11) (v := .ref (a 201)) (C := RX11) (T := TX11) (N := 39) hx hb htA in_X11 hown hK hP 1 rfl rfl 0 (by decide) (htA _ wd_1354) (fun _ h => h) rfl dX11_putsAside_14 ?_
  refine lv_bipush (v := 8) hx hb dX11_putsAside_17 (by decide) ?_
  refine lv_iload_n hx hb dX11_putsAside_19 rfl (lv_at hl 0 rfl) ?_
  refine lv_iadd hx hb dX11_putsAside_20 ?_
  refine lv_topi (fun x73 ex73 => ?_)
  obtain rfl : x73 = 44 := ex73.trans (by decide)
  refine va_iald hx hb hK hP 2 0 rfl rfl (in_lit (by decide)) dX11_putsAside_21 ?_
  refine lv_topi (fun x74 ex74 => ?_)
  obtain rfl : x74 = 0 := ex74.trans (by first | decide | rfl)
  refine va_iast hx hb hK hP hD hS 0 0 rfl rfl (in_lit (by decide)) dX11_putsAside_22 (fun H locs hP hD hS => ?_)
  rw [fa_upd_same (f := fun _ => 0) (i := (36 : Int32).toNatClampNeg) (x := 0) (by first | decide | rfl)] at hP hD
  have hP : va_P D vwCl [((a 208), .inl (cy 0, 37, .inl (fun _ => 0))), ((a 200), .inr (11, [.ref (a 201), .ref (a 202), .ref (a 203), .ref (a 204), .int 0, .ref (a 205), .int 0, .int 0, .int 0, .int 0, .int 0, .int 0, .int 0, .int 0, .int 0, .int (-1), .int 0, .int 0, .int 0, .ref (a 206), .ref (a 207), .int 0, .int 0, .ref (a 208), .int 0, .int 0, .int 0, .int 0, .ref (a 209), .ref (a 210), .ref (a 211), .ref (a 212), .ref (a 213), .ref (a 214), .ref (a 215), .int 0, .ref (a 216), .ref (a 217), .ref (a 218)])), ((a 201), .inl (cy 0, 2260, .inl (upd (upd (fun _ => 0) (1 : Int32).toNatClampNeg 1) (2 : Int32).toNatClampNeg 1)))] H := hP
  have hD := va_ca hP hD
  refine lv_iinc (v := 37) (lv' := [(1, .int 37), (0, .ref (a 200))]) hx hb dX11_putsAside_23 hl (k := 0) rfl (by decide) (by decide) rfl (fun ls hl => ?_)
  refine lv_goto (tgt := 2) hx hb dX11_putsAside_26 (by decide) ?_
  refine lv_iload_n hx hb dX11_putsAside_2 rfl (lv_at hl 0 rfl) ?_
  refine lv_bipush (v := 37) hx hb dX11_putsAside_3 (by decide) ?_
  refine lv_icmp_ge (tgt := 29) hx hb dX11_putsAside_5 (by decide) (fun _ => ?_) (fun q => absurd (by decide) q)
  exact rV hX hE hP hD hS dX11_putsAside_29 (by decide) (by decide) (rfl)
set_option maxHeartbeats 4000000 in
set_option maxRecDepth 100000 in
theorem au_X11_lyingIn_103 (l : Launch) (D : va_G) (cy : Nat → ClassId) (a : Nat → Nat) : Ci l yX11_lyingIn cX11_lyingIn 4 (some .int) { frames := 0, cells := 0, slots := 0, locals := 0 } D cy [.ref (a 201), .int 0] [((a 201), .inl (cy 0, 2260, .inl (upd (upd (fun _ => 0) (1 : Int32).toNatClampNeg 1) (2 : Int32).toNatClampNeg 1)))] (fun r W1 => (W1 = [((a 201), .inl (cy 0, 2260, .inl (upd (upd (fun _ => 0) (1 : Int32).toNatClampNeg 1) (2 : Int32).toNatClampNeg 1)))] ∧ r = 0)) := by
  refine Ci.of (by decide) (Nat.le_of_ble_eq_true rfl) ?_
  intro p e s m below meth c A ls hX hE hP hD hl
  obtain ⟨hx, hb, hr, hml, hown, htA, hlk⟩ := id hX
  have hK := hE.1
  have hS : va_S A s.heap s.heap [] := va_S.rf
  have hl : lv_has ls 4 [(0, .ref (a 201)), (1, .int 0)] := hl
  refine lv_iconst (v := 0) hx hb dX11_lyingIn_0 (by decide) ?_
  refine lv_istore_n (lv' := [(2, .int 0), (0, .ref (a 201)), (1, .int 0)]) hx hb dX11_lyingIn_1 rfl hl (by decide) rfl (fun ls hl => ?_)
  refine lv_iconst (v := 0) hx hb dX11_lyingIn_2 (by decide) ?_
  refine lv_istore_n (lv' := [(3, .int 0), (2, .int 0), (0, .ref (a 201)), (1, .int 0)]) hx hb dX11_lyingIn_3 rfl hl (by decide) rfl (fun ls hl => ?_)
  refine lv_iload_n hx hb dX11_lyingIn_4 rfl (lv_at hl 0 rfl) ?_
  refine lv_aload_n hx hb dX11_lyingIn_5 rfl (lv_at hl 2 rfl) ?_
  refine lv_iconst (v := 3) hx hb dX11_lyingIn_6 (by decide) ?_
  refine va_iald hx hb hK hP 0 0 rfl rfl (in_lit (by decide)) dX11_lyingIn_7 ?_
  refine lv_topi (fun x1 ex1 => ?_)
  obtain rfl : x1 = 0 := ex1.trans (by first | decide | rfl)
  refine lv_icmp_ge (tgt := 45) hx hb dX11_lyingIn_8 (by decide) (fun _ => ?_) (fun q => absurd (by decide) q)
  refine lv_iload_n hx hb dX11_lyingIn_45 rfl (lv_at hl 1 rfl) ?_
  exact rI hX hE hP hD hS dX11_lyingIn_46 (by decide) (by decide) (⟨rfl, rfl⟩)
set_option maxHeartbeats 4000000 in
set_option maxRecDepth 100000 in
theorem au_X11_lying_104 (l : Launch) (D : va_G) (cy : Nat → ClassId) (a : Nat → Nat) : Ci l yX11_lying cX11_lying 2 (some .int) { frames := 1, cells := 0, slots := 0, locals := 23 } D cy [.ref (a 200), .int 0] [((a 200), .inr (11, [.ref (a 201), .ref (a 202), .ref (a 203), .ref (a 204), .int 0, .ref (a 205), .int 0, .int 0, .int 0, .int 0, .int 0, .int 0, .int 0, .int 0, .int 0, .int (-1), .int 0, .int 0, .int 0, .ref (a 206), .ref (a 207), .int 0, .int 0, .ref (a 208), .int 0, .int 0, .int 0, .int 0, .ref (a 209), .ref (a 210), .ref (a 211), .ref (a 212), .ref (a 213), .ref (a 214), .ref (a 215), .int 0, .ref (a 216), .ref (a 217), .ref (a 218)])), ((a 201), .inl (cy 0, 2260, .inl (upd (upd (fun _ => 0) (1 : Int32).toNatClampNeg 1) (2 : Int32).toNatClampNeg 1)))] (fun r W1 => (W1 = [((a 200), .inr (11, [.ref (a 201), .ref (a 202), .ref (a 203), .ref (a 204), .int 0, .ref (a 205), .int 0, .int 0, .int 0, .int 0, .int 0, .int 0, .int 0, .int 0, .int 0, .int (-1), .int 0, .int 0, .int 0, .ref (a 206), .ref (a 207), .int 0, .int 0, .ref (a 208), .int 0, .int 0, .int 0, .int 0, .ref (a 209), .ref (a 210), .ref (a 211), .ref (a 212), .ref (a 213), .ref (a 214), .ref (a 215), .int 0, .ref (a 216), .ref (a 217), .ref (a 218)])), ((a 201), .inl (cy 0, 2260, .inl (upd (upd (fun _ => 0) (1 : Int32).toNatClampNeg 1) (2 : Int32).toNatClampNeg 1)))] ∧ r = 0)) := by
  refine Ci.of (by decide) (Nat.le_of_ble_eq_true rfl) ?_
  intro p e s m below meth c A ls hX hE hP hD hl
  obtain ⟨hx, hb, hr, hml, hown, htA, hlk⟩ := id hX
  have hK := hE.1
  have hS : va_S A s.heap s.heap [] := va_S.rf
  have hl : lv_has ls 2 [(0, .ref (a 200)), (1, .int 0)] := hl
  refine lv_aload_n hx hb dX11_lying_0 rfl (lv_at hl 0 rfl) ?_
  refine va_get (ci := 11) (v := .ref (a 201)) (C := RX11) (T := TX11) (N := 39) hx hb htA in_X11 hown hK hP 0 rfl rfl 0 (by decide) (htA _ wd_1354) (fun _ h => h) rfl dX11_lying_1 ?_
  refine lv_iload_n hx hb dX11_lying_4 rfl (lv_at hl 1 rfl) ?_
  refine kSi (As := [.ref (a 201), .int 0]) (rest := []) (wr := [((a 200), .inr (11, [.ref (a 201), .ref (a 202), .ref (a 203), .ref (a 204), .int 0, .ref (a 205), .int 0, .int 0, .int 0, .int 0, .int 0, .int 0, .int 0, .int 0, .int 0, .int (-1), .int 0, .int 0, .int 0, .ref (a 206), .ref (a 207), .int 0, .int 0, .ref (a 208), .int 0, .int 0, .int 0, .int 0, .ref (a 209), .ref (a 210), .ref (a 211), .ref (a 212), .ref (a 213), .ref (a 214), .ref (a 215), .int 0, .ref (a 216), .ref (a 217), .ref (a 218)]))]) hX hE (au_X11_lyingIn_103 l D cy a) (cwSA 2 htA wd_1568 wd_1566 wd_10 wd_1567 (by decide +kernel) ⟨by decide, by decide⟩) hP hD hS [1] [0] rfl rfl (by decide +kernel) rfl hl.1 rfl (Nat.le_of_ble_eq_true rfl) dX11_lying_5 (by decide) (fun r_ W1 H locs hw hP hD hS => ?_)
  refine W.widen (k := 0) (n := 0) (by decide) (by decide) ?_
  obtain ⟨rfl, rfl⟩ := hw
  have hP : va_P D vwCl [((a 200), .inr (11, [.ref (a 201), .ref (a 202), .ref (a 203), .ref (a 204), .int 0, .ref (a 205), .int 0, .int 0, .int 0, .int 0, .int 0, .int 0, .int 0, .int 0, .int 0, .int (-1), .int 0, .int 0, .int 0, .ref (a 206), .ref (a 207), .int 0, .int 0, .ref (a 208), .int 0, .int 0, .int 0, .int 0, .ref (a 209), .ref (a 210), .ref (a 211), .ref (a 212), .ref (a 213), .ref (a 214), .ref (a 215), .int 0, .ref (a 216), .ref (a 217), .ref (a 218)])), ((a 201), .inl (cy 0, 2260, .inl (upd (upd (fun _ => 0) (1 : Int32).toNatClampNeg 1) (2 : Int32).toNatClampNeg 1)))] H := hP
  have hD := va_ca hP hD
  exact rI hX hE hP hD hS dX11_lying_8 (by decide) (by decide) (⟨rfl, rfl⟩)
set_option maxHeartbeats 4000000 in
set_option maxRecDepth 100000 in
theorem au_X11_putsBack_105 (l : Launch) (D : va_G) (cy : Nat → ClassId) (a : Nat → Nat) : Cv l yX11_putsBack cX11_putsBack 2 none { frames := 0, cells := 0, slots := 0, locals := 0 } D cy [.ref (a 200)] [((a 208), .inl (cy 0, 37, .inl (fun _ => 0))), ((a 200), .inr (11, [.ref (a 201), .ref (a 202), .ref (a 203), .ref (a 204), .int 0, .ref (a 205), .int 0, .int 0, .int 0, .int 0, .int 0, .int 0, .int 0, .int 0, .int 0, .int (-1), .int 0, .int 0, .int 0, .ref (a 206), .ref (a 207), .int 0, .int 0, .ref (a 208), .int 0, .int 0, .int 0, .int 0, .ref (a 209), .ref (a 210), .ref (a 211), .ref (a 212), .ref (a 213), .ref (a 214), .ref (a 215), .int 0, .ref (a 216), .ref (a 217), .ref (a 218)])), ((a 201), .inl (cy 0, 2260, .inl (upd (upd (fun _ => 0) (1 : Int32).toNatClampNeg 1) (2 : Int32).toNatClampNeg 1)))] (fun W1 => (W1 = [((a 208), .inl (cy 0, 37, .inl (fun _ => 0))), ((a 200), .inr (11, [.ref (a 201), .ref (a 202), .ref (a 203), .ref (a 204), .int 0, .ref (a 205), .int 0, .int 0, .int 0, .int 0, .int 0, .int 0, .int 0, .int 0, .int 0, .int (-1), .int 0, .int 0, .int 0, .ref (a 206), .ref (a 207), .int 0, .int 0, .ref (a 208), .int 0, .int 0, .int 0, .int 0, .ref (a 209), .ref (a 210), .ref (a 211), .ref (a 212), .ref (a 213), .ref (a 214), .ref (a 215), .int 0, .ref (a 216), .ref (a 217), .ref (a 218)])), ((a 201), .inl (cy 0, 2260, .inl (upd (upd (fun _ => 0) (1 : Int32).toNatClampNeg 1) (2 : Int32).toNatClampNeg 1)))])) := by
  refine Cv.of (by decide) (Nat.le_of_ble_eq_true rfl) ?_
  intro p e s m below meth c A ls hX hE hP hD hl hin
  obtain ⟨hx, hb, hr, hml, hown, htA, hlk⟩ := id hX
  have hK := hE.1
  have hS : va_S A s.heap s.heap [] := va_S.rf
  have hl : lv_has ls 2 [(0, .ref (a 200))] := hl
  refine lv_iconst (v := 0) hx hb dX11_putsBack_0 (by decide) ?_
  refine lv_istore_n (lv' := [(1, .int 0), (0, .ref (a 200))]) hx hb dX11_putsBack_1 rfl hl (by decide) rfl (fun ls hl => ?_)
  refine lv_iload_n hx hb dX11_putsBack_2 rfl (lv_at hl 0 rfl) ?_
  refine lv_bipush (v := 37) hx hb dX11_putsBack_3 (by decide) ?_
  refine lv_icmp_ge (tgt := 29) hx hb dX11_putsBack_5 (by decide) (fun q => absurd q (by decide)) (fun _ => ?_)
  refine lv_aload_n hx hb dX11_putsBack_8 rfl (lv_at hl 1 rfl) ?_
  refine va_get (ci := 11) (v := .ref (a 201)) (C := RX11) (T := TX11) (N := 39) hx hb htA in_X11 hown hK hP 1 rfl rfl 0 (by decide) (htA _ wd_1354) (fun _ h => h) rfl dX11_putsBack_9 ?_
  refine lv_bipush (v := 8) hx hb dX11_putsBack_12 (by decide) ?_
  refine lv_iload_n hx hb dX11_putsBack_14 rfl (lv_at hl 0 rfl) ?_
  refine lv_iadd hx hb dX11_putsBack_15 ?_
  refine lv_topi (fun x1 ex1 => ?_)
  obtain rfl : x1 = 8 := ex1.trans (by decide)
  refine lv_aload_n hx hb dX11_putsBack_16 rfl (lv_at hl 1 rfl) ?_
  refine va_get (ci := 11) (v := .ref (a 208)) (C := RX11) (T := TX11) (N := 39) hx hb htA in_X11 hown hK hP 1 rfl rfl 23 (by decide) (htA _ wd_1377) (fun _ h => h) rfl dX11_putsBack_17 ?_
  refine lv_iload_n hx hb dX11_putsBack_20 rfl (lv_at hl 0 rfl) ?_
  refine va_iald hx hb hK hP 0 0 rfl rfl (in_lit (by decide)) dX11_putsBack_21 ?_
  refine lv_topi (fun x2 ex2 => ?_)
  obtain rfl : x2 = 0 := ex2
  refine va_iast hx hb hK hP hD hS 2 0 rfl rfl (in_lit (by decide)) dX11_putsBack_22 (fun H locs hP hD hS => ?_)
  rw [fa_upd_same (f := upd (upd (fun _ => 0) (1 : Int32).toNatClampNeg 1) (2 : Int32).toNatClampNeg 1) (i := (8 : Int32).toNatClampNeg) (x := 0) (by first | decide | rfl)] at hP hD
  have hP : va_P D vwCl [((a 208), .inl (cy 0, 37, .inl (fun _ => 0))), ((a 200), .inr (11, [.ref (a 201), .ref (a 202), .ref (a 203), .ref (a 204), .int 0, .ref (a 205), .int 0, .int 0, .int 0, .int 0, .int 0, .int 0, .int 0, .int 0, .int 0, .int (-1), .int 0, .int 0, .int 0, .ref (a 206), .ref (a 207), .int 0, .int 0, .ref (a 208), .int 0, .int 0, .int 0, .int 0, .ref (a 209), .ref (a 210), .ref (a 211), .ref (a 212), .ref (a 213), .ref (a 214), .ref (a 215), .int 0, .ref (a 216), .ref (a 217), .ref (a 218)])), ((a 201), .inl (cy 0, 2260, .inl (upd (upd (fun _ => 0) (1 : Int32).toNatClampNeg 1) (2 : Int32).toNatClampNeg 1)))] H := hP
  have hD := va_ca hP hD
  refine lv_iinc (v := 1) (lv' := [(1, .int 1), (0, .ref (a 200))]) hx hb dX11_putsBack_23 hl (k := 0) rfl (by decide) (by decide) rfl (fun ls hl => ?_)
  refine lv_goto (tgt := 2) hx hb dX11_putsBack_26 (by decide) ?_
  refine lv_iload_n hx hb dX11_putsBack_2 rfl (lv_at hl 0 rfl) ?_
  refine lv_bipush (v := 37) hx hb dX11_putsBack_3 (by decide) ?_
  refine lv_icmp_ge (tgt := 29) hx hb dX11_putsBack_5 (by decide) (fun q => absurd q (by decide)) (fun _ => ?_)
  refine lv_aload_n hx hb dX11_putsBack_8 rfl (lv_at hl 1 rfl) ?_
  refine va_get (ci := 11) (v := .ref (a 201)) (C := RX11) (T := TX11) (N := 39) hx hb htA in_X11 hown hK hP 1 rfl rfl 0 (by decide) (htA _ wd_1354) (fun _ h => h) rfl dX11_putsBack_9 ?_
  refine lv_bipush (v := 8) hx hb dX11_putsBack_12 (by decide) ?_
  refine lv_iload_n hx hb dX11_putsBack_14 rfl (lv_at hl 0 rfl) ?_
  refine lv_iadd hx hb dX11_putsBack_15 ?_
  refine lv_topi (fun x3 ex3 => ?_)
  obtain rfl : x3 = 9 := ex3.trans (by decide)
  refine lv_aload_n hx hb dX11_putsBack_16 rfl (lv_at hl 1 rfl) ?_
  refine va_get (ci := 11) (v := .ref (a 208)) (C := RX11) (T := TX11) (N := 39) hx hb htA in_X11 hown hK hP 1 rfl rfl 23 (by decide) (htA _ wd_1377) (fun _ h => h) rfl dX11_putsBack_17 ?_
  refine lv_iload_n hx hb dX11_putsBack_20 rfl (lv_at hl 0 rfl) ?_
  refine va_iald hx hb hK hP 0 0 rfl rfl (in_lit (by decide)) dX11_putsBack_21 ?_
  refine lv_topi (fun x4 ex4 => ?_)
  obtain rfl : x4 = 0 := ex4
  refine va_iast hx hb hK hP hD hS 2 0 rfl rfl (in_lit (by decide)) dX11_putsBack_22 (fun H locs hP hD hS => ?_)
  rw [fa_upd_same (f := upd (upd (fun _ => 0) (1 : Int32).toNatClampNeg 1) (2 : Int32).toNatClampNeg 1) (i := (9 : Int32).toNatClampNeg) (x := 0) (by first | decide | rfl)] at hP hD
  have hP : va_P D vwCl [((a 208), .inl (cy 0, 37, .inl (fun _ => 0))), ((a 200), .inr (11, [.ref (a 201), .ref (a 202), .ref (a 203), .ref (a 204), .int 0, .ref (a 205), .int 0, .int 0, .int 0, .int 0, .int 0, .int 0, .int 0, .int 0, .int 0, .int (-1), .int 0, .int 0, .int 0, .ref (a 206), .ref (a 207), .int 0, .int 0, .ref (a 208), .int 0, .int 0, .int 0, .int 0, .ref (a 209), .ref (a 210), .ref (a 211), .ref (a 212), .ref (a 213), .ref (a 214), .ref (a 215), .int 0, .ref (a 216), .ref (a 217), .ref (a 218)])), ((a 201), .inl (cy 0, 2260, .inl (upd (upd (fun _ => 0) (1 : Int32).toNatClampNeg 1) (2 : Int32).toNatClampNeg 1)))] H := hP
  have hD := va_ca hP hD
  refine lv_iinc (v := 2) (lv' := [(1, .int 2), (0, .ref (a 200))]) hx hb dX11_putsBack_23 hl (k := 0) rfl (by decide) (by decide) rfl (fun ls hl => ?_)
  refine lv_goto (tgt := 2) hx hb dX11_putsBack_26 (by decide) ?_
  refine lv_iload_n hx hb dX11_putsBack_2 rfl (lv_at hl 0 rfl) ?_
  refine lv_bipush (v := 37) hx hb dX11_putsBack_3 (by decide) ?_
  refine lv_icmp_ge (tgt := 29) hx hb dX11_putsBack_5 (by decide) (fun q => absurd q (by decide)) (fun _ => ?_)
  refine lv_aload_n hx hb dX11_putsBack_8 rfl (lv_at hl 1 rfl) ?_
  refine va_get (ci := 11) (v := .ref (a 201)) (C := RX11) (T := TX11) (N := 39) hx hb htA in_X11 hown hK hP 1 rfl rfl 0 (by decide) (htA _ wd_1354) (fun _ h => h) rfl dX11_putsBack_9 ?_
  refine lv_bipush (v := 8) hx hb dX11_putsBack_12 (by decide) ?_
  refine lv_iload_n hx hb dX11_putsBack_14 rfl (lv_at hl 0 rfl) ?_
  refine lv_iadd hx hb dX11_putsBack_15 ?_
  refine lv_topi (fun x5 ex5 => ?_)
  obtain rfl : x5 = 10 := ex5.trans (by decide)
  refine lv_aload_n hx hb dX11_putsBack_16 rfl (lv_at hl 1 rfl) ?_
  refine va_get (ci := 11) (v := .ref (a 208)) (C := RX11) (T := TX11) (N := 39) hx hb htA in_X11 hown hK hP 1 rfl rfl 23 (by decide) (htA _ wd_1377) (fun _ h => h) rfl dX11_putsBack_17 ?_
  refine lv_iload_n hx hb dX11_putsBack_20 rfl (lv_at hl 0 rfl) ?_
  refine va_iald hx hb hK hP 0 0 rfl rfl (in_lit (by decide)) dX11_putsBack_21 ?_
  refine lv_topi (fun x6 ex6 => ?_)
  obtain rfl : x6 = 0 := ex6
  refine va_iast hx hb hK hP hD hS 2 0 rfl rfl (in_lit (by decide)) dX11_putsBack_22 (fun H locs hP hD hS => ?_)
  rw [fa_upd_same (f := upd (upd (fun _ => 0) (1 : Int32).toNatClampNeg 1) (2 : Int32).toNatClampNeg 1) (i := (10 : Int32).toNatClampNeg) (x := 0) (by first | decide | rfl)] at hP hD
  have hP : va_P D vwCl [((a 208), .inl (cy 0, 37, .inl (fun _ => 0))), ((a 200), .inr (11, [.ref (a 201), .ref (a 202), .ref (a 203), .ref (a 204), .int 0, .ref (a 205), .int 0, .int 0, .int 0, .int 0, .int 0, .int 0, .int 0, .int 0, .int 0, .int (-1), .int 0, .int 0, .int 0, .ref (a 206), .ref (a 207), .int 0, .int 0, .ref (a 208), .int 0, .int 0, .int 0, .int 0, .ref (a 209), .ref (a 210), .ref (a 211), .ref (a 212), .ref (a 213), .ref (a 214), .ref (a 215), .int 0, .ref (a 216), .ref (a 217), .ref (a 218)])), ((a 201), .inl (cy 0, 2260, .inl (upd (upd (fun _ => 0) (1 : Int32).toNatClampNeg 1) (2 : Int32).toNatClampNeg 1)))] H := hP
  have hD := va_ca hP hD
  refine lv_iinc (v := 3) (lv' := [(1, .int 3), (0, .ref (a 200))]) hx hb dX11_putsBack_23 hl (k := 0) rfl (by decide) (by decide) rfl (fun ls hl => ?_)
  refine lv_goto (tgt := 2) hx hb dX11_putsBack_26 (by decide) ?_
  refine lv_iload_n hx hb dX11_putsBack_2 rfl (lv_at hl 0 rfl) ?_
  refine lv_bipush (v := 37) hx hb dX11_putsBack_3 (by decide) ?_
  refine lv_icmp_ge (tgt := 29) hx hb dX11_putsBack_5 (by decide) (fun q => absurd q (by decide)) (fun _ => ?_)
  refine lv_aload_n hx hb dX11_putsBack_8 rfl (lv_at hl 1 rfl) ?_
  refine va_get (ci := 11) (v := .ref (a 201)) (C := RX11) (T := TX11) (N := 39) hx hb htA in_X11 hown hK hP 1 rfl rfl 0 (by decide) (htA _ wd_1354) (fun _ h => h) rfl dX11_putsBack_9 ?_
  refine lv_bipush (v := 8) hx hb dX11_putsBack_12 (by decide) ?_
  refine lv_iload_n hx hb dX11_putsBack_14 rfl (lv_at hl 0 rfl) ?_
  refine lv_iadd hx hb dX11_putsBack_15 ?_
  refine lv_topi (fun x7 ex7 => ?_)
  obtain rfl : x7 = 11 := ex7.trans (by decide)
  refine lv_aload_n hx hb dX11_putsBack_16 rfl (lv_at hl 1 rfl) ?_
  refine va_get (ci := 11) (v := .ref (a 208)) (C := RX11) (T := TX11) (N := 39) hx hb htA in_X11 hown hK hP 1 rfl rfl 23 (by decide) (htA _ wd_1377) (fun _ h => h) rfl dX11_putsBack_17 ?_
  refine lv_iload_n hx hb dX11_putsBack_20 rfl (lv_at hl 0 rfl) ?_
  refine va_iald hx hb hK hP 0 0 rfl rfl (in_lit (by decide)) dX11_putsBack_21 ?_
  refine lv_topi (fun x8 ex8 => ?_)
  obtain rfl : x8 = 0 := ex8
  refine va_iast hx hb hK hP hD hS 2 0 rfl rfl (in_lit (by decide)) dX11_putsBack_22 (fun H locs hP hD hS => ?_)
  rw [fa_upd_same (f := upd (upd (fun _ => 0) (1 : Int32).toNatClampNeg 1) (2 : Int32).toNatClampNeg 1) (i := (11 : Int32).toNatClampNeg) (x := 0) (by first | decide | rfl)] at hP hD
  have hP : va_P D vwCl [((a 208), .inl (cy 0, 37, .inl (fun _ => 0))), ((a 200), .inr (11, [.ref (a 201), .ref (a 202), .ref (a 203), .ref (a 204), .int 0, .ref (a 205), .int 0, .int 0, .int 0, .int 0, .int 0, .int 0, .int 0, .int 0, .int 0, .int (-1), .int 0, .int 0, .int 0, .ref (a 206), .ref (a 207), .int 0, .int 0, .ref (a 208), .int 0, .int 0, .int 0, .int 0, .ref (a 209), .ref (a 210), .ref (a 211), .ref (a 212), .ref (a 213), .ref (a 214), .ref (a 215), .int 0, .ref (a 216), .ref (a 217), .ref (a 218)])), ((a 201), .inl (cy 0, 2260, .inl (upd (upd (fun _ => 0) (1 : Int32).toNatClampNeg 1) (2 : Int32).toNatClampNeg 1)))] H := hP
  have hD := va_ca hP hD
  refine lv_iinc (v := 4) (lv' := [(1, .int 4), (0, .ref (a 200))]) hx hb dX11_putsBack_23 hl (k := 0) rfl (by decide) (by decide) rfl (fun ls hl => ?_)
  refine lv_goto (tgt := 2) hx hb dX11_putsBack_26 (by decide) ?_
  refine lv_iload_n hx hb dX11_putsBack_2 rfl (lv_at hl 0 rfl) ?_
  refine lv_bipush (v := 37) hx hb dX11_putsBack_3 (by decide) ?_
  refine lv_icmp_ge (tgt := 29) hx hb dX11_putsBack_5 (by decide) (fun q => absurd q (by decide)) (fun _ => ?_)
  refine lv_aload_n hx hb dX11_putsBack_8 rfl (lv_at hl 1 rfl) ?_
  refine va_get (ci := 11) (v := .ref (a 201)) (C := RX11) (T := TX11) (N := 39) hx hb htA in_X11 hown hK hP 1 rfl rfl 0 (by decide) (htA _ wd_1354) (fun _ h => h) rfl dX11_putsBack_9 ?_
  refine lv_bipush (v := 8) hx hb dX11_putsBack_12 (by decide) ?_
  refine lv_iload_n hx hb dX11_putsBack_14 rfl (lv_at hl 0 rfl) ?_
  refine lv_iadd hx hb dX11_putsBack_15 ?_
  refine lv_topi (fun x9 ex9 => ?_)
  obtain rfl : x9 = 12 := ex9.trans (by decide)
  refine lv_aload_n hx hb dX11_putsBack_16 rfl (lv_at hl 1 rfl) ?_
  refine va_get (ci := 11) (v := .ref (a 208)) (C := RX11) (T := TX11) (N := 39) hx hb htA in_X11 hown hK hP 1 rfl rfl 23 (by decide) (htA _ wd_1377) (fun _ h => h) rfl dX11_putsBack_17 ?_
  refine lv_iload_n hx hb dX11_putsBack_20 rfl (lv_at hl 0 rfl) ?_
  refine va_iald hx hb hK hP 0 0 rfl rfl (in_lit (by decide)) dX11_putsBack_21 ?_
  refine lv_topi (fun x10 ex10 => ?_)
  obtain rfl : x10 = 0 := ex10
  refine va_iast hx hb hK hP hD hS 2 0 rfl rfl (in_lit (by decide)) dX11_putsBack_22 (fun H locs hP hD hS => ?_)
  rw [fa_upd_same (f := upd (upd (fun _ => 0) (1 : Int32).toNatClampNeg 1) (2 : Int32).toNatClampNeg 1) (i := (12 : Int32).toNatClampNeg) (x := 0) (by first | decide | rfl)] at hP hD
  have hP : va_P D vwCl [((a 208), .inl (cy 0, 37, .inl (fun _ => 0))), ((a 200), .inr (11, [.ref (a 201), .ref (a 202), .ref (a 203), .ref (a 204), .int 0, .ref (a 205), .int 0, .int 0, .int 0, .int 0, .int 0, .int 0, .int 0, .int 0, .int 0, .int (-1), .int 0, .int 0, .int 0, .ref (a 206), .ref (a 207), .int 0, .int 0, .ref (a 208), .int 0, .int 0, .int 0, .int 0, .ref (a 209), .ref (a 210), .ref (a 211), .ref (a 212), .ref (a 213), .ref (a 214), .ref (a 215), .int 0, .ref (a 216), .ref (a 217), .ref (a 218)])), ((a 201), .inl (cy 0, 2260, .inl (upd (upd (fun _ => 0) (1 : Int32).toNatClampNeg 1) (2 : Int32).toNatClampNeg 1)))] H := hP
  have hD := va_ca hP hD
  refine lv_iinc (v := 5) (lv' := [(1, .int 5), (0, .ref (a 200))]) hx hb dX11_putsBack_23 hl (k := 0) rfl (by decide) (by decide) rfl (fun ls hl => ?_)
  refine lv_goto (tgt := 2) hx hb dX11_putsBack_26 (by decide) ?_
  refine lv_iload_n hx hb dX11_putsBack_2 rfl (lv_at hl 0 rfl) ?_
  refine lv_bipush (v := 37) hx hb dX11_putsBack_3 (by decide) ?_
  refine lv_icmp_ge (tgt := 29) hx hb dX11_putsBack_5 (by decide) (fun q => absurd q (by decide)) (fun _ => ?_)
  refine lv_aload_n hx hb dX11_putsBack_8 rfl (lv_at hl 1 rfl) ?_
  refine va_get (ci := 11) (v := .ref (a 201)) (C := RX11) (T := TX11) (N := 39) hx hb htA in_X11 hown hK hP 1 rfl rfl 0 (by decide) (htA _ wd_1354) (fun _ h => h) rfl dX11_putsBack_9 ?_
  refine lv_bipush (v := 8) hx hb dX11_putsBack_12 (by decide) ?_
  refine lv_iload_n hx hb dX11_putsBack_14 rfl (lv_at hl 0 rfl) ?_
  refine lv_iadd hx hb dX11_putsBack_15 ?_
  refine lv_topi (fun x11 ex11 => ?_)
  obtain rfl : x11 = 13 := ex11.trans (by decide)
  refine lv_aload_n hx hb dX11_putsBack_16 rfl (lv_at hl 1 rfl) ?_
  refine va_get (ci := 11) (v := .ref (a 208)) (C := RX11) (T := TX11) (N := 39) hx hb htA in_X11 hown hK hP 1 rfl rfl 23 (by decide) (htA _ wd_1377) (fun _ h => h) rfl dX11_putsBack_17 ?_
  refine lv_iload_n hx hb dX11_putsBack_20 rfl (lv_at hl 0 rfl) ?_
  refine va_iald hx hb hK hP 0 0 rfl rfl (in_lit (by decide)) dX11_putsBack_21 ?_
  refine lv_topi (fun x12 ex12 => ?_)
  obtain rfl : x12 = 0 := ex12
  refine va_iast hx hb hK hP hD hS 2 0 rfl rfl (in_lit (by decide)) dX11_putsBack_22 (fun H locs hP hD hS => ?_)
  rw [fa_upd_same (f := upd (upd (fun _ => 0) (1 : Int32).toNatClampNeg 1) (2 : Int32).toNatClampNeg 1) (i := (13 : Int32).toNatClampNeg) (x := 0) (by first | decide | rfl)] at hP hD
  have hP : va_P D vwCl [((a 208), .inl (cy 0, 37, .inl (fun _ => 0))), ((a 200), .inr (11, [.ref (a 201), .ref (a 202), .ref (a 203), .ref (a 204), .int 0, .ref (a 205), .int 0, .int 0, .int 0, .int 0, .int 0, .int 0, .int 0, .int 0, .int 0, .int (-1), .int 0, .int 0, .int 0, .ref (a 206), .ref (a 207), .int 0, .int 0, .ref (a 208), .int 0, .int 0, .int 0, .int 0, .ref (a 209), .ref (a 210), .ref (a 211), .ref (a 212), .ref (a 213), .ref (a 214), .ref (a 215), .int 0, .ref (a 216), .ref (a 217), .ref (a 218)])), ((a 201), .inl (cy 0, 2260, .inl (upd (upd (fun _ => 0) (1 : Int32).toNatClampNeg 1) (2 : Int32).toNatClampNeg 1)))] H := hP
  have hD := va_ca hP hD
  refine lv_iinc (v := 6) (lv' := [(1, .int 6), (0, .ref (a 200))]) hx hb dX11_putsBack_23 hl (k := 0) rfl (by decide) (by decide) rfl (fun ls hl => ?_)
  refine lv_goto (tgt := 2) hx hb dX11_putsBack_26 (by decide) ?_
  refine lv_iload_n hx hb dX11_putsBack_2 rfl (lv_at hl 0 rfl) ?_
  refine lv_bipush (v := 37) hx hb dX11_putsBack_3 (by decide) ?_
  refine lv_icmp_ge (tgt := 29) hx hb dX11_putsBack_5 (by decide) (fun q => absurd q (by decide)) (fun _ => ?_)
  refine lv_aload_n hx hb dX11_putsBack_8 rfl (lv_at hl 1 rfl) ?_
  refine va_get (ci := 11) (v := .ref (a 201)) (C := RX11) (T := TX11) (N := 39) hx hb htA in_X11 hown hK hP 1 rfl rfl 0 (by decide) (htA _ wd_1354) (fun _ h => h) rfl dX11_putsBack_9 ?_
  refine lv_bipush (v := 8) hx hb dX11_putsBack_12 (by decide) ?_
  refine lv_iload_n hx hb dX11_putsBack_14 rfl (lv_at hl 0 rfl) ?_
  refine lv_iadd hx hb dX11_putsBack_15 ?_
  refine lv_topi (fun x13 ex13 => ?_)
  obtain rfl : x13 = 14 := ex13.trans (by decide)
  refine lv_aload_n hx hb dX11_putsBack_16 rfl (lv_at hl 1 rfl) ?_
  refine va_get (ci := 11) (v := .ref (a 208)) (C := RX11) (T := TX11) (N := 39) hx hb htA in_X11 hown hK hP 1 rfl rfl 23 (by decide) (htA _ wd_1377) (fun _ h => h) rfl dX11_putsBack_17 ?_
  refine lv_iload_n hx hb dX11_putsBack_20 rfl (lv_at hl 0 rfl) ?_
  refine va_iald hx hb hK hP 0 0 rfl rfl (in_lit (by decide)) dX11_putsBack_21 ?_
  refine lv_topi (fun x14 ex14 => ?_)
  obtain rfl : x14 = 0 := ex14
  refine va_iast hx hb hK hP hD hS 2 0 rfl rfl (in_lit (by decide)) dX11_putsBack_22 (fun H locs hP hD hS => ?_)
  rw [fa_upd_same (f := upd (upd (fun _ => 0) (1 : Int32).toNatClampNeg 1) (2 : Int32).toNatClampNeg 1) (i := (14 : Int32).toNatClampNeg) (x := 0) (by first | decide | rfl)] at hP hD
  have hP : va_P D vwCl [((a 208), .inl (cy 0, 37, .inl (fun _ => 0))), ((a 200), .inr (11, [.ref (a 201), .ref (a 202), .ref (a 203), .ref (a 204), .int 0, .ref (a 205), .int 0, .int 0, .int 0, .int 0, .int 0, .int 0, .int 0, .int 0, .int 0, .int (-1), .int 0, .int 0, .int 0, .ref (a 206), .ref (a 207), .int 0, .int 0, .ref (a 208), .int 0, .int 0, .int 0, .int 0, .ref (a 209), .ref (a 210), .ref (a 211), .ref (a 212), .ref (a 213), .ref (a 214), .ref (a 215), .int 0, .ref (a 216), .ref (a 217), .ref (a 218)])), ((a 201), .inl (cy 0, 2260, .inl (upd (upd (fun _ => 0) (1 : Int32).toNatClampNeg 1) (2 : Int32).toNatClampNeg 1)))] H := hP
  have hD := va_ca hP hD
  refine lv_iinc (v := 7) (lv' := [(1, .int 7), (0, .ref (a 200))]) hx hb dX11_putsBack_23 hl (k := 0) rfl (by decide) (by decide) rfl (fun ls hl => ?_)
  refine lv_goto (tgt := 2) hx hb dX11_putsBack_26 (by decide) ?_
  refine lv_iload_n hx hb dX11_putsBack_2 rfl (lv_at hl 0 rfl) ?_
  refine lv_bipush (v := 37) hx hb dX11_putsBack_3 (by decide) ?_
  refine lv_icmp_ge (tgt := 29) hx hb dX11_putsBack_5 (by decide) (fun q => absurd q (by decide)) (fun _ => ?_)
  refine lv_aload_n hx hb dX11_putsBack_8 rfl (lv_at hl 1 rfl) ?_
  refine va_get (ci := 11) (v := .ref (a 201)) (C := RX11) (T := TX11) (N := 39) hx hb htA in_X11 hown hK hP 1 rfl rfl 0 (by decide) (htA _ wd_1354) (fun _ h => h) rfl dX11_putsBack_9 ?_
  refine lv_bipush (v := 8) hx hb dX11_putsBack_12 (by decide) ?_
  refine lv_iload_n hx hb dX11_putsBack_14 rfl (lv_at hl 0 rfl) ?_
  refine lv_iadd hx hb dX11_putsBack_15 ?_
  refine lv_topi (fun x15 ex15 => ?_)
  obtain rfl : x15 = 15 := ex15.trans (by decide)
  refine lv_aload_n hx hb dX11_putsBack_16 rfl (lv_at hl 1 rfl) ?_
  refine va_get (ci := 11) (v := .ref (a 208)) (C := RX11) (T := TX11) (N := 39) hx hb htA in_X11 hown hK hP 1 rfl rfl 23 (by decide) (htA _ wd_1377) (fun _ h => h) rfl dX11_putsBack_17 ?_
  refine lv_iload_n hx hb dX11_putsBack_20 rfl (lv_at hl 0 rfl) ?_
  refine va_iald hx hb hK hP 0 0 rfl rfl (in_lit (by decide)) dX11_putsBack_21 ?_
  refine lv_topi (fun x16 ex16 => ?_)
  obtain rfl : x16 = 0 := ex16
  refine va_iast hx hb hK hP hD hS 2 0 rfl rfl (in_lit (by decide)) dX11_putsBack_22 (fun H locs hP hD hS => ?_)
  rw [fa_upd_same (f := upd (upd (fun _ => 0) (1 : Int32).toNatClampNeg 1) (2 : Int32).toNatClampNeg 1) (i := (15 : Int32).toNatClampNeg) (x := 0) (by first | decide | rfl)] at hP hD
  have hP : va_P D vwCl [((a 208), .inl (cy 0, 37, .inl (fun _ => 0))), ((a 200), .inr (11, [.ref (a 201), .ref (a 202), .ref (a 203), .ref (a 204), .int 0, .ref (a 205), .int 0, .int 0, .int 0, .int 0, .int 0, .int 0, .int 0, .int 0, .int 0, .int (-1), .int 0, .int 0, .int 0, .ref (a 206), .ref (a 207), .int 0, .int 0, .ref (a 208), .int 0, .int 0, .int 0, .int 0, .ref (a 209), .ref (a 210), .ref (a 211), .ref (a 212), .ref (a 213), .ref (a 214), .ref (a 215), .int 0, .ref (a 216), .ref (a 217), .ref (a 218)])), ((a 201), .inl (cy 0, 2260, .inl (upd (upd (fun _ => 0) (1 : Int32).toNatClampNeg 1) (2 : Int32).toNatClampNeg 1)))] H := hP
  have hD := va_ca hP hD
  refine lv_iinc (v := 8) (lv' := [(1, .int 8), (0, .ref (a 200))]) hx hb dX11_putsBack_23 hl (k := 0) rfl (by decide) (by decide) rfl (fun ls hl => ?_)
  refine lv_goto (tgt := 2) hx hb dX11_putsBack_26 (by decide) ?_
  refine lv_iload_n hx hb dX11_putsBack_2 rfl (lv_at hl 0 rfl) ?_
  refine lv_bipush (v := 37) hx hb dX11_putsBack_3 (by decide) ?_
  refine lv_icmp_ge (tgt := 29) hx hb dX11_putsBack_5 (by decide) (fun q => absurd q (by decide)) (fun _ => ?_)
  refine lv_aload_n hx hb dX11_putsBack_8 rfl (lv_at hl 1 rfl) ?_
  refine va_get (ci := 11) (v := .ref (a 201)) (C := RX11) (T := TX11) (N := 39) hx hb htA in_X11 hown hK hP 1 rfl rfl 0 (by decide) (htA _ wd_1354) (fun _ h => h) rfl dX11_putsBack_9 ?_
  refine lv_bipush (v := 8) hx hb dX11_putsBack_12 (by decide) ?_
  refine lv_iload_n hx hb dX11_putsBack_14 rfl (lv_at hl 0 rfl) ?_
  refine lv_iadd hx hb dX11_putsBack_15 ?_
  refine lv_topi (fun x17 ex17 => ?_)
  obtain rfl : x17 = 16 := ex17.trans (by decide)
  refine lv_aload_n hx hb dX11_putsBack_16 rfl (lv_at hl 1 rfl) ?_
  refine va_get (ci := 11) (v := .ref (a 208)) (C := RX11) (T := TX11) (N := 39) hx hb htA in_X11 hown hK hP 1 rfl rfl 23 (by decide) (htA _ wd_1377) (fun _ h => h) rfl dX11_putsBack_17 ?_
  refine lv_iload_n hx hb dX11_putsBack_20 rfl (lv_at hl 0 rfl) ?_
  refine va_iald hx hb hK hP 0 0 rfl rfl (in_lit (by decide)) dX11_putsBack_21 ?_
  refine lv_topi (fun x18 ex18 => ?_)
  obtain rfl : x18 = 0 := ex18
  refine va_iast hx hb hK hP hD hS 2 0 rfl rfl (in_lit (by decide)) dX11_putsBack_22 (fun H locs hP hD hS => ?_)
  rw [fa_upd_same (f := upd (upd (fun _ => 0) (1 : Int32).toNatClampNeg 1) (2 : Int32).toNatClampNeg 1) (i := (16 : Int32).toNatClampNeg) (x := 0) (by first | decide | rfl)] at hP hD
  have hP : va_P D vwCl [((a 208), .inl (cy 0, 37, .inl (fun _ => 0))), ((a 200), .inr (11, [.ref (a 201), .ref (a 202), .ref (a 203), .ref (a 204), .int 0, .ref (a 205), .int 0, .int 0, .int 0, .int 0, .int 0, .int 0, .int 0, .int 0, .int 0, .int (-1), .int 0, .int 0, .int 0, .ref (a 206), .ref (a 207), .int 0, .int 0, .ref (a 208), .int 0, .int 0, .int 0, .int 0, .ref (a 209), .ref (a 210), .ref (a 211), .ref (a 212), .ref (a 213), .ref (a 214), .ref (a 215), .int 0, .ref (a 216), .ref (a 217), .ref (a 218)])), ((a 201), .inl (cy 0, 2260, .inl (upd (upd (fun _ => 0) (1 : Int32).toNatClampNeg 1) (2 : Int32).toNatClampNeg 1)))] H := hP
  have hD := va_ca hP hD
  refine lv_iinc (v := 9) (lv' := [(1, .int 9), (0, .ref (a 200))]) hx hb dX11_putsBack_23 hl (k := 0) rfl (by decide) (by decide) rfl (fun ls hl => ?_)
  refine lv_goto (tgt := 2) hx hb dX11_putsBack_26 (by decide) ?_
  refine lv_iload_n hx hb dX11_putsBack_2 rfl (lv_at hl 0 rfl) ?_
  refine lv_bipush (v := 37) hx hb dX11_putsBack_3 (by decide) ?_
  refine lv_icmp_ge (tgt := 29) hx hb dX11_putsBack_5 (by decide) (fun q => absurd q (by decide)) (fun _ => ?_)
  refine lv_aload_n hx hb dX11_putsBack_8 rfl (lv_at hl 1 rfl) ?_
  refine va_get (ci := 11) (v := .ref (a 201)) (C := RX11) (T := TX11) (N := 39) hx hb htA in_X11 hown hK hP 1 rfl rfl 0 (by decide) (htA _ wd_1354) (fun _ h => h) rfl dX11_putsBack_9 ?_
  refine lv_bipush (v := 8) hx hb dX11_putsBack_12 (by decide) ?_
  refine lv_iload_n hx hb dX11_putsBack_14 rfl (lv_at hl 0 rfl) ?_
  refine lv_iadd hx hb dX11_putsBack_15 ?_
  refine lv_topi (fun x19 ex19 => ?_)
  obtain rfl : x19 = 17 := ex19.trans (by decide)
  refine lv_aload_n hx hb dX11_putsBack_16 rfl (lv_at hl 1 rfl) ?_
  refine va_get (ci := 11) (v := .ref (a 208)) (C := RX11) (T := TX11) (N := 39) hx hb htA in_X11 hown hK hP 1 rfl rfl 23 (by decide) (htA _ wd_1377) (fun _ h => h) rfl dX11_putsBack_17 ?_
  refine lv_iload_n hx hb dX11_putsBack_20 rfl (lv_at hl 0 rfl) ?_
  refine va_iald hx hb hK hP 0 0 rfl rfl (in_lit (by decide)) dX11_putsBack_21 ?_
  refine lv_topi (fun x20 ex20 => ?_)
  obtain rfl : x20 = 0 := ex20
  refine va_iast hx hb hK hP hD hS 2 0 rfl rfl (in_lit (by decide)) dX11_putsBack_22 (fun H locs hP hD hS => ?_)
  rw [fa_upd_same (f := upd (upd (fun _ => 0) (1 : Int32).toNatClampNeg 1) (2 : Int32).toNatClampNeg 1) (i := (17 : Int32).toNatClampNeg) (x := 0) (by first | decide | rfl)] at hP hD
  have hP : va_P D vwCl [((a 208), .inl (cy 0, 37, .inl (fun _ => 0))), ((a 200), .inr (11, [.ref (a 201), .ref (a 202), .ref (a 203), .ref (a 204), .int 0, .ref (a 205), .int 0, .int 0, .int 0, .int 0, .int 0, .int 0, .int 0, .int 0, .int 0, .int (-1), .int 0, .int 0, .int 0, .ref (a 206), .ref (a 207), .int 0, .int 0, .ref (a 208), .int 0, .int 0, .int 0, .int 0, .ref (a 209), .ref (a 210), .ref (a 211), .ref (a 212), .ref (a 213), .ref (a 214), .ref (a 215), .int 0, .ref (a 216), .ref (a 217), .ref (a 218)])), ((a 201), .inl (cy 0, 2260, .inl (upd (upd (fun _ => 0) (1 : Int32).toNatClampNeg 1) (2 : Int32).toNatClampNeg 1)))] H := hP
  have hD := va_ca hP hD
  refine lv_iinc (v := 10) (lv' := [(1, .int 10), (0, .ref (a 200))]) hx hb dX11_putsBack_23 hl (k := 0) rfl (by decide) (by decide) rfl (fun ls hl => ?_)
  refine lv_goto (tgt := 2) hx hb dX11_putsBack_26 (by decide) ?_
  refine lv_iload_n hx hb dX11_putsBack_2 rfl (lv_at hl 0 rfl) ?_
  refine lv_bipush (v := 37) hx hb dX11_putsBack_3 (by decide) ?_
  refine lv_icmp_ge (tgt := 29) hx hb dX11_putsBack_5 (by decide) (fun q => absurd q (by decide)) (fun _ => ?_)
  refine lv_aload_n hx hb dX11_putsBack_8 rfl (lv_at hl 1 rfl) ?_
  refine va_get (ci := 11) (v := .ref (a 201)) (C := RX11) (T := TX11) (N := 39) hx hb htA in_X11 hown hK hP 1 rfl rfl 0 (by decide) (htA _ wd_1354) (fun _ h => h) rfl dX11_putsBack_9 ?_
  refine lv_bipush (v := 8) hx hb dX11_putsBack_12 (by decide) ?_
  refine lv_iload_n hx hb dX11_putsBack_14 rfl (lv_at hl 0 rfl) ?_
  refine lv_iadd hx hb dX11_putsBack_15 ?_
  refine lv_topi (fun x21 ex21 => ?_)
  obtain rfl : x21 = 18 := ex21.trans (by decide)
  refine lv_aload_n hx hb dX11_putsBack_16 rfl (lv_at hl 1 rfl) ?_
  refine va_get (ci := 11) (v := .ref (a 208)) (C := RX11) (T := TX11) (N := 39) hx hb htA in_X11 hown hK hP 1 rfl rfl 23 (by decide) (htA _ wd_1377) (fun _ h => h) rfl dX11_putsBack_17 ?_
  refine lv_iload_n hx hb dX11_putsBack_20 rfl (lv_at hl 0 rfl) ?_
  refine va_iald hx hb hK hP 0 0 rfl rfl (in_lit (by decide)) dX11_putsBack_21 ?_
  refine lv_topi (fun x22 ex22 => ?_)
  obtain rfl : x22 = 0 := ex22
  refine va_iast hx hb hK hP hD hS 2 0 rfl rfl (in_lit (by decide)) dX11_putsBack_22 (fun H locs hP hD hS => ?_)
  rw [fa_upd_same (f := upd (upd (fun _ => 0) (1 : Int32).toNatClampNeg 1) (2 : Int32).toNatClampNeg 1) (i := (18 : Int32).toNatClampNeg) (x := 0) (by first | decide | rfl)] at hP hD
  have hP : va_P D vwCl [((a 208), .inl (cy 0, 37, .inl (fun _ => 0))), ((a 200), .inr (11, [.ref (a 201), .ref (a 202), .ref (a 203), .ref (a 204), .int 0, .ref (a 205), .int 0, .int 0, .int 0, .int 0, .int 0, .int 0, .int 0, .int 0, .int 0, .int (-1), .int 0, .int 0, .int 0, .ref (a 206), .ref (a 207), .int 0, .int 0, .ref (a 208), .int 0, .int 0, .int 0, .int 0, .ref (a 209), .ref (a 210), .ref (a 211), .ref (a 212), .ref (a 213), .ref (a 214), .ref (a 215), .int 0, .ref (a 216), .ref (a 217), .ref (a 218)])), ((a 201), .inl (cy 0, 2260, .inl (upd (upd (fun _ => 0) (1 : Int32).toNatClampNeg 1) (2 : Int32).toNatClampNeg 1)))] H := hP
  have hD := va_ca hP hD
  refine lv_iinc (v := 11) (lv' := [(1, .int 11), (0, .ref (a 200))]) hx hb dX11_putsBack_23 hl (k := 0) rfl (by decide) (by decide) rfl (fun ls hl => ?_)
  refine lv_goto (tgt := 2) hx hb dX11_putsBack_26 (by decide) ?_
  refine lv_iload_n hx hb dX11_putsBack_2 rfl (lv_at hl 0 rfl) ?_
  refine lv_bipush (v := 37) hx hb dX11_putsBack_3 (by decide) ?_
  refine lv_icmp_ge (tgt := 29) hx hb dX11_putsBack_5 (by decide) (fun q => absurd q (by decide)) (fun _ => ?_)
  refine lv_aload_n hx hb dX11_putsBack_8 rfl (lv_at hl 1 rfl) ?_
  refine va_get (ci := 11) (v := .ref (a 201)) (C := RX11) (T := TX11) (N := 39) hx hb htA in_X11 hown hK hP 1 rfl rfl 0 (by decide) (htA _ wd_1354) (fun _ h => h) rfl dX11_putsBack_9 ?_
  refine lv_bipush (v := 8) hx hb dX11_putsBack_12 (by decide) ?_
  refine lv_iload_n hx hb dX11_putsBack_14 rfl (lv_at hl 0 rfl) ?_
  refine lv_iadd hx hb dX11_putsBack_15 ?_
  refine lv_topi (fun x23 ex23 => ?_)
  obtain rfl : x23 = 19 := ex23.trans (by decide)
  refine lv_aload_n hx hb dX11_putsBack_16 rfl (lv_at hl 1 rfl) ?_
  refine va_get (ci := 11) (v := .ref (a 208)) (C := RX11) (T := TX11) (N := 39) hx hb htA in_X11 hown hK hP 1 rfl rfl 23 (by decide) (htA _ wd_1377) (fun _ h => h) rfl dX11_putsBack_17 ?_
  refine lv_iload_n hx hb dX11_putsBack_20 rfl (lv_at hl 0 rfl) ?_
  refine va_iald hx hb hK hP 0 0 rfl rfl (in_lit (by decide)) dX11_putsBack_21 ?_
  refine lv_topi (fun x24 ex24 => ?_)
  obtain rfl : x24 = 0 := ex24
  refine va_iast hx hb hK hP hD hS 2 0 rfl rfl (in_lit (by decide)) dX11_putsBack_22 (fun H locs hP hD hS => ?_)
  rw [fa_upd_same (f := upd (upd (fun _ => 0) (1 : Int32).toNatClampNeg 1) (2 : Int32).toNatClampNeg 1) (i := (19 : Int32).toNatClampNeg) (x := 0) (by first | decide | rfl)] at hP hD
  have hP : va_P D vwCl [((a 208), .inl (cy 0, 37, .inl (fun _ => 0))), ((a 200), .inr (11, [.ref (a 201), .ref (a 202), .ref (a 203), .ref (a 204), .int 0, .ref (a 205), .int 0, .int 0, .int 0, .int 0, .int 0, .int 0, .int 0, .int 0, .int 0, .int (-1), .int 0, .int 0, .int 0, .ref (a 206), .ref (a 207), .int 0, .int 0, .ref (a 208), .int 0, .int 0, .int 0, .int 0, .ref (a 209), .ref (a 210), .ref (a 211), .ref (a 212), .ref (a 213), .ref (a 214), .ref (a 215), .int 0, .ref (a 216), .ref (a 217), .ref (a 218)])), ((a 201), .inl (cy 0, 2260, .inl (upd (upd (fun _ => 0) (1 : Int32).toNatClampNeg 1) (2 : Int32).toNatClampNeg 1)))] H := hP
  have hD := va_ca hP hD
  refine lv_iinc (v := 12) (lv' := [(1, .int 12), (0, .ref (a 200))]) hx hb dX11_putsBack_23 hl (k := 0) rfl (by decide) (by decide) rfl (fun ls hl => ?_)
  refine lv_goto (tgt := 2) hx hb dX11_putsBack_26 (by decide) ?_
  refine lv_iload_n hx hb dX11_putsBack_2 rfl (lv_at hl 0 rfl) ?_
  refine lv_bipush (v := 37) hx hb dX11_putsBack_3 (by decide) ?_
  refine lv_icmp_ge (tgt := 29) hx hb dX11_putsBack_5 (by decide) (fun q => absurd q (by decide)) (fun _ => ?_)
  refine lv_aload_n hx hb dX11_putsBack_8 rfl (lv_at hl 1 rfl) ?_
  refine va_get (ci := 11) (v := .ref (a 201)) (C := RX11) (T := TX11) (N := 39) hx hb htA in_X11 hown hK hP 1 rfl rfl 0 (by decide) (htA _ wd_1354) (fun _ h => h) rfl dX11_putsBack_9 ?_
  refine lv_bipush (v := 8) hx hb dX11_putsBack_12 (by decide) ?_
  refine lv_iload_n hx hb dX11_putsBack_14 rfl (lv_at hl 0 rfl) ?_
  refine lv_iadd hx hb dX11_putsBack_15 ?_
  refine lv_topi (fun x25 ex25 => ?_)
  obtain rfl : x25 = 20 := ex25.trans (by decide)
  refine lv_aload_n hx hb dX11_putsBack_16 rfl (lv_at hl 1 rfl) ?_
  refine va_get (ci := 11) (v := .ref (a 208)) (C := RX11) (T := TX11) (N := 39) hx hb htA in_X11 hown hK hP 1 rfl rfl 23 (by decide) (htA _ wd_1377) (fun _ h => h) rfl dX11_putsBack_17 ?_
  refine lv_iload_n hx hb dX11_putsBack_20 rfl (lv_at hl 0 rfl) ?_
  refine va_iald hx hb hK hP 0 0 rfl rfl (in_lit (by decide)) dX11_putsBack_21 ?_
  refine lv_topi (fun x26 ex26 => ?_)
  obtain rfl : x26 = 0 := ex26
  refine va_iast hx hb hK hP hD hS 2 0 rfl rfl (in_lit (by decide)) dX11_putsBack_22 (fun H locs hP hD hS => ?_)
  rw [fa_upd_same (f := upd (upd (fun _ => 0) (1 : Int32).toNatClampNeg 1) (2 : Int32).toNatClampNeg 1) (i := (20 : Int32).toNatClampNeg) (x := 0) (by first | decide | rfl)] at hP hD
  have hP : va_P D vwCl [((a 208), .inl (cy 0, 37, .inl (fun _ => 0))), ((a 200), .inr (11, [.ref (a 201), .ref (a 202), .ref (a 203), .ref (a 204), .int 0, .ref (a 205), .int 0, .int 0, .int 0, .int 0, .int 0, .int 0, .int 0, .int 0, .int 0, .int (-1), .int 0, .int 0, .int 0, .ref (a 206), .ref (a 207), .int 0, .int 0, .ref (a 208), .int 0, .int 0, .int 0, .int 0, .ref (a 209), .ref (a 210), .ref (a 211), .ref (a 212), .ref (a 213), .ref (a 214), .ref (a 215), .int 0, .ref (a 216), .ref (a 217), .ref (a 218)])), ((a 201), .inl (cy 0, 2260, .inl (upd (upd (fun _ => 0) (1 : Int32).toNatClampNeg 1) (2 : Int32).toNatClampNeg 1)))] H := hP
  have hD := va_ca hP hD
  refine lv_iinc (v := 13) (lv' := [(1, .int 13), (0, .ref (a 200))]) hx hb dX11_putsBack_23 hl (k := 0) rfl (by decide) (by decide) rfl (fun ls hl => ?_)
  refine lv_goto (tgt := 2) hx hb dX11_putsBack_26 (by decide) ?_
  refine lv_iload_n hx hb dX11_putsBack_2 rfl (lv_at hl 0 rfl) ?_
  refine lv_bipush (v := 37) hx hb dX11_putsBack_3 (by decide) ?_
  refine lv_icmp_ge (tgt := 29) hx hb dX11_putsBack_5 (by decide) (fun q => absurd q (by decide)) (fun _ => ?_)
  refine lv_aload_n hx hb dX11_putsBack_8 rfl (lv_at hl 1 rfl) ?_
  refine va_get (ci := 11) (v := .ref (a 201)) (C := RX11) (T := TX11) (N := 39) hx hb htA in_X11 hown hK hP 1 rfl rfl 0 (by decide) (htA _ wd_1354) (fun _ h => h) rfl dX11_putsBack_9 ?_
  refine lv_bipush (v := 8) hx hb dX11_putsBack_12 (by decide) ?_
  refine lv_iload_n hx hb dX11_putsBack_14 rfl (lv_at hl 0 rfl) ?_
  refine lv_iadd hx hb dX11_putsBack_15 ?_
  refine lv_topi (fun x27 ex27 => ?_)
  obtain rfl : x27 = 21 := ex27.trans (by decide)
  refine lv_aload_n hx hb dX11_putsBack_16 rfl (lv_at hl 1 rfl) ?_
  refine va_get (ci := 11) (v := .ref (a 208)) (C := RX11) (T := TX11) (N := 39) hx hb htA in_X11 hown hK hP 1 rfl rfl 23 (by decide) (htA _ wd_1377) (fun _ h => h) rfl dX11_putsBack_17 ?_
  refine lv_iload_n hx hb dX11_putsBack_20 rfl (lv_at hl 0 rfl) ?_
  refine va_iald hx hb hK hP 0 0 rfl rfl (in_lit (by decide)) dX11_putsBack_21 ?_
  refine lv_topi (fun x28 ex28 => ?_)
  obtain rfl : x28 = 0 := ex28
  refine va_iast hx hb hK hP hD hS 2 0 rfl rfl (in_lit (by decide)) dX11_putsBack_22 (fun H locs hP hD hS => ?_)
  rw [fa_upd_same (f := upd (upd (fun _ => 0) (1 : Int32).toNatClampNeg 1) (2 : Int32).toNatClampNeg 1) (i := (21 : Int32).toNatClampNeg) (x := 0) (by first | decide | rfl)] at hP hD
  have hP : va_P D vwCl [((a 208), .inl (cy 0, 37, .inl (fun _ => 0))), ((a 200), .inr (11, [.ref (a 201), .ref (a 202), .ref (a 203), .ref (a 204), .int 0, .ref (a 205), .int 0, .int 0, .int 0, .int 0, .int 0, .int 0, .int 0, .int 0, .int 0, .int (-1), .int 0, .int 0, .int 0, .ref (a 206), .ref (a 207), .int 0, .int 0, .ref (a 208), .int 0, .int 0, .int 0, .int 0, .ref (a 209), .ref (a 210), .ref (a 211), .ref (a 212), .ref (a 213), .ref (a 214), .ref (a 215), .int 0, .ref (a 216), .ref (a 217), .ref (a 218)])), ((a 201), .inl (cy 0, 2260, .inl (upd (upd (fun _ => 0) (1 : Int32).toNatClampNeg 1) (2 : Int32).toNatClampNeg 1)))] H := hP
  have hD := va_ca hP hD
  refine lv_iinc (v := 14) (lv' := [(1, .int 14), (0, .ref (a 200))]) hx hb dX11_putsBack_23 hl (k := 0) rfl (by decide) (by decide) rfl (fun ls hl => ?_)
  refine lv_goto (tgt := 2) hx hb dX11_putsBack_26 (by decide) ?_
  refine lv_iload_n hx hb dX11_putsBack_2 rfl (lv_at hl 0 rfl) ?_
  refine lv_bipush (v := 37) hx hb dX11_putsBack_3 (by decide) ?_
  refine lv_icmp_ge (tgt := 29) hx hb dX11_putsBack_5 (by decide) (fun q => absurd q (by decide)) (fun _ => ?_)
  refine lv_aload_n hx hb dX11_putsBack_8 rfl (lv_at hl 1 rfl) ?_
  refine va_get (ci := 11) (v := .ref (a 201)) (C := RX11) (T := TX11) (N := 39) hx hb htA in_X11 hown hK hP 1 rfl rfl 0 (by decide) (htA _ wd_1354) (fun _ h => h) rfl dX11_putsBack_9 ?_
  refine lv_bipush (v := 8) hx hb dX11_putsBack_12 (by decide) ?_
  refine lv_iload_n hx hb dX11_putsBack_14 rfl (lv_at hl 0 rfl) ?_
  refine lv_iadd hx hb dX11_putsBack_15 ?_
  refine lv_topi (fun x29 ex29 => ?_)
  obtain rfl : x29 = 22 := ex29.trans (by decide)
  refine lv_aload_n hx hb dX11_putsBack_16 rfl (lv_at hl 1 rfl) ?_
  refine va_get (ci := 11) (v := .ref (a 208)) (C := RX11) (T := TX11) (N := 39) hx hb htA in_X11 hown hK hP 1 rfl rfl 23 (by decide) (htA _ wd_1377) (fun _ h => h) rfl dX11_putsBack_17 ?_
  refine lv_iload_n hx hb dX11_putsBack_20 rfl (lv_at hl 0 rfl) ?_
  refine va_iald hx hb hK hP 0 0 rfl rfl (in_lit (by decide)) dX11_putsBack_21 ?_
  refine lv_topi (fun x30 ex30 => ?_)
  obtain rfl : x30 = 0 := ex30
  refine va_iast hx hb hK hP hD hS 2 0 rfl rfl (in_lit (by decide)) dX11_putsBack_22 (fun H locs hP hD hS => ?_)
  rw [fa_upd_same (f := upd (upd (fun _ => 0) (1 : Int32).toNatClampNeg 1) (2 : Int32).toNatClampNeg 1) (i := (22 : Int32).toNatClampNeg) (x := 0) (by first | decide | rfl)] at hP hD
  have hP : va_P D vwCl [((a 208), .inl (cy 0, 37, .inl (fun _ => 0))), ((a 200), .inr (11, [.ref (a 201), .ref (a 202), .ref (a 203), .ref (a 204), .int 0, .ref (a 205), .int 0, .int 0, .int 0, .int 0, .int 0, .int 0, .int 0, .int 0, .int 0, .int (-1), .int 0, .int 0, .int 0, .ref (a 206), .ref (a 207), .int 0, .int 0, .ref (a 208), .int 0, .int 0, .int 0, .int 0, .ref (a 209), .ref (a 210), .ref (a 211), .ref (a 212), .ref (a 213), .ref (a 214), .ref (a 215), .int 0, .ref (a 216), .ref (a 217), .ref (a 218)])), ((a 201), .inl (cy 0, 2260, .inl (upd (upd (fun _ => 0) (1 : Int32).toNatClampNeg 1) (2 : Int32).toNatClampNeg 1)))] H := hP
  have hD := va_ca hP hD
  refine lv_iinc (v := 15) (lv' := [(1, .int 15), (0, .ref (a 200))]) hx hb dX11_putsBack_23 hl (k := 0) rfl (by decide) (by decide) rfl (fun ls hl => ?_)
  refine lv_goto (tgt := 2) hx hb dX11_putsBack_26 (by decide) ?_
  refine lv_iload_n hx hb dX11_putsBack_2 rfl (lv_at hl 0 rfl) ?_
  refine lv_bipush (v := 37) hx hb dX11_putsBack_3 (by decide) ?_
  refine lv_icmp_ge (tgt := 29) hx hb dX11_putsBack_5 (by decide) (fun q => absurd q (by decide)) (fun _ => ?_)
  refine lv_aload_n hx hb dX11_putsBack_8 rfl (lv_at hl 1 rfl) ?_
  refine va_get (ci := 11) (v := .ref (a 201)) (C := RX11) (T := TX11) (N := 39) hx hb htA in_X11 hown hK hP 1 rfl rfl 0 (by decide) (htA _ wd_1354) (fun _ h => h) rfl dX11_putsBack_9 ?_
  refine lv_bipush (v := 8) hx hb dX11_putsBack_12 (by decide) ?_
  refine lv_iload_n hx hb dX11_putsBack_14 rfl (lv_at hl 0 rfl) ?_
  refine lv_iadd hx hb dX11_putsBack_15 ?_
  refine lv_topi (fun x31 ex31 => ?_)
  obtain rfl : x31 = 23 := ex31.trans (by decide)
  refine lv_aload_n hx hb dX11_putsBack_16 rfl (lv_at hl 1 rfl) ?_
  refine va_get (ci := 11) (v := .ref (a 208)) (C := RX11) (T := TX11) (N := 39) hx hb htA in_X11 hown hK hP 1 rfl rfl 23 (by decide) (htA _ wd_1377) (fun _ h => h) rfl dX11_putsBack_17 ?_
  refine lv_iload_n hx hb dX11_putsBack_20 rfl (lv_at hl 0 rfl) ?_
  refine va_iald hx hb hK hP 0 0 rfl rfl (in_lit (by decide)) dX11_putsBack_21 ?_
  refine lv_topi (fun x32 ex32 => ?_)
  obtain rfl : x32 = 0 := ex32
  refine va_iast hx hb hK hP hD hS 2 0 rfl rfl (in_lit (by decide)) dX11_putsBack_22 (fun H locs hP hD hS => ?_)
  rw [fa_upd_same (f := upd (upd (fun _ => 0) (1 : Int32).toNatClampNeg 1) (2 : Int32).toNatClampNeg 1) (i := (23 : Int32).toNatClampNeg) (x := 0) (by first | decide | rfl)] at hP hD
  have hP : va_P D vwCl [((a 208), .inl (cy 0, 37, .inl (fun _ => 0))), ((a 200), .inr (11, [.ref (a 201), .ref (a 202), .ref (a 203), .ref (a 204), .int 0, .ref (a 205), .int 0, .int 0, .int 0, .int 0, .int 0, .int 0, .int 0, .int 0, .int 0, .int (-1), .int 0, .int 0, .int 0, .ref (a 206), .ref (a 207), .int 0, .int 0, .ref (a 208), .int 0, .int 0, .int 0, .int 0, .ref (a 209), .ref (a 210), .ref (a 211), .ref (a 212), .ref (a 213), .ref (a 214), .ref (a 215), .int 0, .ref (a 216), .ref (a 217), .ref (a 218)])), ((a 201), .inl (cy 0, 2260, .inl (upd (upd (fun _ => 0) (1 : Int32).toNatClampNeg 1) (2 : Int32).toNatClampNeg 1)))] H := hP
  have hD := va_ca hP hD
  refine lv_iinc (v := 16) (lv' := [(1, .int 16), (0, .ref (a 200))]) hx hb dX11_putsBack_23 hl (k := 0) rfl (by decide) (by decide) rfl (fun ls hl => ?_)
  refine lv_goto (tgt := 2) hx hb dX11_putsBack_26 (by decide) ?_
  refine lv_iload_n hx hb dX11_putsBack_2 rfl (lv_at hl 0 rfl) ?_
  refine lv_bipush (v := 37) hx hb dX11_putsBack_3 (by decide) ?_
  refine lv_icmp_ge (tgt := 29) hx hb dX11_putsBack_5 (by decide) (fun q => absurd q (by decide)) (fun _ => ?_)
  refine lv_aload_n hx hb dX11_putsBack_8 rfl (lv_at hl 1 rfl) ?_
  refine va_get (ci := 11) (v := .ref (a 201)) (C := RX11) (T := TX11) (N := 39) hx hb htA in_X11 hown hK hP 1 rfl rfl 0 (by decide) (htA _ wd_1354) (fun _ h => h) rfl dX11_putsBack_9 ?_
  refine lv_bipush (v := 8) hx hb dX11_putsBack_12 (by decide) ?_
  refine lv_iload_n hx hb dX11_putsBack_14 rfl (lv_at hl 0 rfl) ?_
  refine lv_iadd hx hb dX11_putsBack_15 ?_
  refine lv_topi (fun x33 ex33 => ?_)
  obtain rfl : x33 = 24 := ex33.trans (by decide)
  refine lv_aload_n hx hb dX11_putsBack_16 rfl (lv_at hl 1 rfl) ?_
  refine va_get (ci := 11) (v := .ref (a 208)) (C := RX11) (T := TX11) (N := 39) hx hb htA in_X11 hown hK hP 1 rfl rfl 23 (by decide) (htA _ wd_1377) (fun _ h => h) rfl dX11_putsBack_17 ?_
  refine lv_iload_n hx hb dX11_putsBack_20 rfl (lv_at hl 0 rfl) ?_
  refine va_iald hx hb hK hP 0 0 rfl rfl (in_lit (by decide)) dX11_putsBack_21 ?_
  refine lv_topi (fun x34 ex34 => ?_)
  obtain rfl : x34 = 0 := ex34
  refine va_iast hx hb hK hP hD hS 2 0 rfl rfl (in_lit (by decide)) dX11_putsBack_22 (fun H locs hP hD hS => ?_)
  rw [fa_upd_same (f := upd (upd (fun _ => 0) (1 : Int32).toNatClampNeg 1) (2 : Int32).toNatClampNeg 1) (i := (24 : Int32).toNatClampNeg) (x := 0) (by first | decide | rfl)] at hP hD
  have hP : va_P D vwCl [((a 208), .inl (cy 0, 37, .inl (fun _ => 0))), ((a 200), .inr (11, [.ref (a 201), .ref (a 202), .ref (a 203), .ref (a 204), .int 0, .ref (a 205), .int 0, .int 0, .int 0, .int 0, .int 0, .int 0, .int 0, .int 0, .int 0, .int (-1), .int 0, .int 0, .int 0, .ref (a 206), .ref (a 207), .int 0, .int 0, .ref (a 208), .int 0, .int 0, .int 0, .int 0, .ref (a 209), .ref (a 210), .ref (a 211), .ref (a 212), .ref (a 213), .ref (a 214), .ref (a 215), .int 0, .ref (a 216), .ref (a 217), .ref (a 218)])), ((a 201), .inl (cy 0, 2260, .inl (upd (upd (fun _ => 0) (1 : Int32).toNatClampNeg 1) (2 : Int32).toNatClampNeg 1)))] H := hP
  have hD := va_ca hP hD
  refine lv_iinc (v := 17) (lv' := [(1, .int 17), (0, .ref (a 200))]) hx hb dX11_putsBack_23 hl (k := 0) rfl (by decide) (by decide) rfl (fun ls hl => ?_)
  refine lv_goto (tgt := 2) hx hb dX11_putsBack_26 (by decide) ?_
  refine lv_iload_n hx hb dX11_putsBack_2 rfl (lv_at hl 0 rfl) ?_
  refine lv_bipush (v := 37) hx hb dX11_putsBack_3 (by decide) ?_
  refine lv_icmp_ge (tgt := 29) hx hb dX11_putsBack_5 (by decide) (fun q => absurd q (by decide)) (fun _ => ?_)
  refine lv_aload_n hx hb dX11_putsBack_8 rfl (lv_at hl 1 rfl) ?_
  refine va_get (ci := 11) (v := .ref (a 201)) (C := RX11) (T := TX11) (N := 39) hx hb htA in_X11 hown hK hP 1 rfl rfl 0 (by decide) (htA _ wd_1354) (fun _ h => h) rfl dX11_putsBack_9 ?_
  refine lv_bipush (v := 8) hx hb dX11_putsBack_12 (by decide) ?_
  refine lv_iload_n hx hb dX11_putsBack_14 rfl (lv_at hl 0 rfl) ?_
  refine lv_iadd hx hb dX11_putsBack_15 ?_
  refine lv_topi (fun x35 ex35 => ?_)
  obtain rfl : x35 = 25 := ex35.trans (by decide)
  refine lv_aload_n hx hb dX11_putsBack_16 rfl (lv_at hl 1 rfl) ?_
  refine va_get (ci := 11) (v := .ref (a 208)) (C := RX11) (T := TX11) (N := 39) hx hb htA in_X11 hown hK hP 1 rfl rfl 23 (by decide) (htA _ wd_1377) (fun _ h => h) rfl dX11_putsBack_17 ?_
  refine lv_iload_n hx hb dX11_putsBack_20 rfl (lv_at hl 0 rfl) ?_
  refine va_iald hx hb hK hP 0 0 rfl rfl (in_lit (by decide)) dX11_putsBack_21 ?_
  refine lv_topi (fun x36 ex36 => ?_)
  obtain rfl : x36 = 0 := ex36
  refine va_iast hx hb hK hP hD hS 2 0 rfl rfl (in_lit (by decide)) dX11_putsBack_22 (fun H locs hP hD hS => ?_)
  rw [fa_upd_same (f := upd (upd (fun _ => 0) (1 : Int32).toNatClampNeg 1) (2 : Int32).toNatClampNeg 1) (i := (25 : Int32).toNatClampNeg) (x := 0) (by first | decide | rfl)] at hP hD
  have hP : va_P D vwCl [((a 208), .inl (cy 0, 37, .inl (fun _ => 0))), ((a 200), .inr (11, [.ref (a 201), .ref (a 202), .ref (a 203), .ref (a 204), .int 0, .ref (a 205), .int 0, .int 0, .int 0, .int 0, .int 0, .int 0, .int 0, .int 0, .int 0, .int (-1), .int 0, .int 0, .int 0, .ref (a 206), .ref (a 207), .int 0, .int 0, .ref (a 208), .int 0, .int 0, .int 0, .int 0, .ref (a 209), .ref (a 210), .ref (a 211), .ref (a 212), .ref (a 213), .ref (a 214), .ref (a 215), .int 0, .ref (a 216), .ref (a 217), .ref (a 218)])), ((a 201), .inl (cy 0, 2260, .inl (upd (upd (fun _ => 0) (1 : Int32).toNatClampNeg 1) (2 : Int32).toNatClampNeg 1)))] H := hP
  have hD := va_ca hP hD
  refine lv_iinc (v := 18) (lv' := [(1, .int 18), (0, .ref (a 200))]) hx hb dX11_putsBack_23 hl (k := 0) rfl (by decide) (by decide) rfl (fun ls hl => ?_)
  refine lv_goto (tgt := 2) hx hb dX11_putsBack_26 (by decide) ?_
  refine lv_iload_n hx hb dX11_putsBack_2 rfl (lv_at hl 0 rfl) ?_
  refine lv_bipush (v := 37) hx hb dX11_putsBack_3 (by decide) ?_
  refine lv_icmp_ge (tgt := 29) hx hb dX11_putsBack_5 (by decide) (fun q => absurd q (by decide)) (fun _ => ?_)
  refine lv_aload_n hx hb dX11_putsBack_8 rfl (lv_at hl 1 rfl) ?_
  refine va_get (ci := 11) (v := .ref (a 201)) (C := RX11) (T := TX11) (N := 39) hx hb htA in_X11 hown hK hP 1 rfl rfl 0 (by decide) (htA _ wd_1354) (fun _ h => h) rfl dX11_putsBack_9 ?_
  refine lv_bipush (v := 8) hx hb dX11_putsBack_12 (by decide) ?_
  refine lv_iload_n hx hb dX11_putsBack_14 rfl (lv_at hl 0 rfl) ?_
  refine lv_iadd hx hb dX11_putsBack_15 ?_
  refine lv_topi (fun x37 ex37 => ?_)
  obtain rfl : x37 = 26 := ex37.trans (by decide)
  refine lv_aload_n hx hb dX11_putsBack_16 rfl (lv_at hl 1 rfl) ?_
  refine va_get (ci := 11) (v := .ref (a 208)) (C := RX11) (T := TX11) (N := 39) hx hb htA in_X11 hown hK hP 1 rfl rfl 23 (by decide) (htA _ wd_1377) (fun _ h => h) rfl dX11_putsBack_17 ?_
  refine lv_iload_n hx hb dX11_putsBack_20 rfl (lv_at hl 0 rfl) ?_
  refine va_iald hx hb hK hP 0 0 rfl rfl (in_lit (by decide)) dX11_putsBack_21 ?_
  refine lv_topi (fun x38 ex38 => ?_)
  obtain rfl : x38 = 0 := ex38
  refine va_iast hx hb hK hP hD hS 2 0 rfl rfl (in_lit (by decide)) dX11_putsBack_22 (fun H locs hP hD hS => ?_)
  rw [fa_upd_same (f := upd (upd (fun _ => 0) (1 : Int32).toNatClampNeg 1) (2 : Int32).toNatClampNeg 1) (i := (26 : Int32).toNatClampNeg) (x := 0) (by first | decide | rfl)] at hP hD
  have hP : va_P D vwCl [((a 208), .inl (cy 0, 37, .inl (fun _ => 0))), ((a 200), .inr (11, [.ref (a 201), .ref (a 202), .ref (a 203), .ref (a 204), .int 0, .ref (a 205), .int 0, .int 0, .int 0, .int 0, .int 0, .int 0, .int 0, .int 0, .int 0, .int (-1), .int 0, .int 0, .int 0, .ref (a 206), .ref (a 207), .int 0, .int 0, .ref (a 208), .int 0, .int 0, .int 0, .int 0, .ref (a 209), .ref (a 210), .ref (a 211), .ref (a 212), .ref (a 213), .ref (a 214), .ref (a 215), .int 0, .ref (a 216), .ref (a 217), .ref (a 218)])), ((a 201), .inl (cy 0, 2260, .inl (upd (upd (fun _ => 0) (1 : Int32).toNatClampNeg 1) (2 : Int32).toNatClampNeg 1)))] H := hP
  have hD := va_ca hP hD
  refine lv_iinc (v := 19) (lv' := [(1, .int 19), (0, .ref (a 200))]) hx hb dX11_putsBack_23 hl (k := 0) rfl (by decide) (by decide) rfl (fun ls hl => ?_)
  refine lv_goto (tgt := 2) hx hb dX11_putsBack_26 (by decide) ?_
  refine lv_iload_n hx hb dX11_putsBack_2 rfl (lv_at hl 0 rfl) ?_
  refine lv_bipush (v := 37) hx hb dX11_putsBack_3 (by decide) ?_
  refine lv_icmp_ge (tgt := 29) hx hb dX11_putsBack_5 (by decide) (fun q => absurd q (by decide)) (fun _ => ?_)
  refine lv_aload_n hx hb dX11_putsBack_8 rfl (lv_at hl 1 rfl) ?_
  refine va_get (ci := 11) (v := .ref (a 201)) (C := RX11) (T := TX11) (N := 39) hx hb htA in_X11 hown hK hP 1 rfl rfl 0 (by decide) (htA _ wd_1354) (fun _ h => h) rfl dX11_putsBack_9 ?_
  refine lv_bipush (v := 8) hx hb dX11_putsBack_12 (by decide) ?_
  refine lv_iload_n hx hb dX11_putsBack_14 rfl (lv_at hl 0 rfl) ?_
  refine lv_iadd hx hb dX11_putsBack_15 ?_
  refine lv_topi (fun x39 ex39 => ?_)
  obtain rfl : x39 = 27 := ex39.trans (by decide)
  refine lv_aload_n hx hb dX11_putsBack_16 rfl (lv_at hl 1 rfl) ?_
  refine va_get (ci := 11) (v := .ref (a 208)) (C := RX11) (T := TX11) (N := 39) hx hb htA in_X11 hown hK hP 1 rfl rfl 23 (by decide) (htA _ wd_1377) (fun _ h => h) rfl dX11_putsBack_17 ?_
  refine lv_iload_n hx hb dX11_putsBack_20 rfl (lv_at hl 0 rfl) ?_
  refine va_iald hx hb hK hP 0 0 rfl rfl (in_lit (by decide)) dX11_putsBack_21 ?_
  refine lv_topi (fun x40 ex40 => ?_)
  obtain rfl : x40 = 0 := ex40
  refine va_iast hx hb hK hP hD hS 2 0 rfl rfl (in_lit (by decide)) dX11_putsBack_22 (fun H locs hP hD hS => ?_)
  rw [fa_upd_same (f := upd (upd (fun _ => 0) (1 : Int32).toNatClampNeg 1) (2 : Int32).toNatClampNeg 1) (i := (27 : Int32).toNatClampNeg) (x := 0) (by first | decide | rfl)] at hP hD
  have hP : va_P D vwCl [((a 208), .inl (cy 0, 37, .inl (fun _ => 0))), ((a 200), .inr (11, [.ref (a 201), .ref (a 202), .ref (a 203), .ref (a 204), .int 0, .ref (a 205), .int 0, .int 0, .int 0, .int 0, .int 0, .int 0, .int 0, .int 0, .int 0, .int (-1), .int 0, .int 0, .int 0, .ref (a 206), .ref (a 207), .int 0, .int 0, .ref (a 208), .int 0, .int 0, .int 0, .int 0, .ref (a 209), .ref (a 210), .ref (a 211), .ref (a 212), .ref (a 213), .ref (a 214), .ref (a 215), .int 0, .ref (a 216), .ref (a 217), .ref (a 218)])), ((a 201), .inl (cy 0, 2260, .inl (upd (upd (fun _ => 0) (1 : Int32).toNatClampNeg 1) (2 : Int32).toNatClampNeg 1)))] H := hP
  have hD := va_ca hP hD
  refine lv_iinc (v := 20) (lv' := [(1, .int 20), (0, .ref (a 200))]) hx hb dX11_putsBack_23 hl (k := 0) rfl (by decide) (by decide) rfl (fun ls hl => ?_)
  refine lv_goto (tgt := 2) hx hb dX11_putsBack_26 (by decide) ?_
  refine lv_iload_n hx hb dX11_putsBack_2 rfl (lv_at hl 0 rfl) ?_
  refine lv_bipush (v := 37) hx hb dX11_putsBack_3 (by decide) ?_
  refine lv_icmp_ge (tgt := 29) hx hb dX11_putsBack_5 (by decide) (fun q => absurd q (by decide)) (fun _ => ?_)
  refine lv_aload_n hx hb dX11_putsBack_8 rfl (lv_at hl 1 rfl) ?_
  refine va_get (ci := 11) (v := .ref (a 201)) (C := RX11) (T := TX11) (N := 39) hx hb htA in_X11 hown hK hP 1 rfl rfl 0 (by decide) (htA _ wd_1354) (fun _ h => h) rfl dX11_putsBack_9 ?_
  refine lv_bipush (v := 8) hx hb dX11_putsBack_12 (by decide) ?_
  refine lv_iload_n hx hb dX11_putsBack_14 rfl (lv_at hl 0 rfl) ?_
  refine lv_iadd hx hb dX11_putsBack_15 ?_
  refine lv_topi (fun x41 ex41 => ?_)
  obtain rfl : x41 = 28 := ex41.trans (by decide)
  refine lv_aload_n hx hb dX11_putsBack_16 rfl (lv_at hl 1 rfl) ?_
  refine va_get (ci := 11) (v := .ref (a 208)) (C := RX11) (T := TX11) (N := 39) hx hb htA in_X11 hown hK hP 1 rfl rfl 23 (by decide) (htA _ wd_1377) (fun _ h => h) rfl dX11_putsBack_17 ?_
  refine lv_iload_n hx hb dX11_putsBack_20 rfl (lv_at hl 0 rfl) ?_
  refine va_iald hx hb hK hP 0 0 rfl rfl (in_lit (by decide)) dX11_putsBack_21 ?_
  refine lv_topi (fun x42 ex42 => ?_)
  obtain rfl : x42 = 0 := ex42
  refine va_iast hx hb hK hP hD hS 2 0 rfl rfl (in_lit (by decide)) dX11_putsBack_22 (fun H locs hP hD hS => ?_)
  rw [fa_upd_same (f := upd (upd (fun _ => 0) (1 : Int32).toNatClampNeg 1) (2 : Int32).toNatClampNeg 1) (i := (28 : Int32).toNatClampNeg) (x := 0) (by first | decide | rfl)] at hP hD
  have hP : va_P D vwCl [((a 208), .inl (cy 0, 37, .inl (fun _ => 0))), ((a 200), .inr (11, [.ref (a 201), .ref (a 202), .ref (a 203), .ref (a 204), .int 0, .ref (a 205), .int 0, .int 0, .int 0, .int 0, .int 0, .int 0, .int 0, .int 0, .int 0, .int (-1), .int 0, .int 0, .int 0, .ref (a 206), .ref (a 207), .int 0, .int 0, .ref (a 208), .int 0, .int 0, .int 0, .int 0, .ref (a 209), .ref (a 210), .ref (a 211), .ref (a 212), .ref (a 213), .ref (a 214), .ref (a 215), .int 0, .ref (a 216), .ref (a 217), .ref (a 218)])), ((a 201), .inl (cy 0, 2260, .inl (upd (upd (fun _ => 0) (1 : Int32).toNatClampNeg 1) (2 : Int32).toNatClampNeg 1)))] H := hP
  have hD := va_ca hP hD
  refine lv_iinc (v := 21) (lv' := [(1, .int 21), (0, .ref (a 200))]) hx hb dX11_putsBack_23 hl (k := 0) rfl (by decide) (by decide) rfl (fun ls hl => ?_)
  refine lv_goto (tgt := 2) hx hb dX11_putsBack_26 (by decide) ?_
  refine lv_iload_n hx hb dX11_putsBack_2 rfl (lv_at hl 0 rfl) ?_
  refine lv_bipush (v := 37) hx hb dX11_putsBack_3 (by decide) ?_
  refine lv_icmp_ge (tgt := 29) hx hb dX11_putsBack_5 (by decide) (fun q => absurd q (by decide)) (fun _ => ?_)
  refine lv_aload_n hx hb dX11_putsBack_8 rfl (lv_at hl 1 rfl) ?_
  refine va_get (ci := 11) (v := .ref (a 201)) (C := RX11) (T := TX11) (N := 39) hx hb htA in_X11 hown hK hP 1 rfl rfl 0 (by decide) (htA _ wd_1354) (fun _ h => h) rfl dX11_putsBack_9 ?_
  refine lv_bipush (v := 8) hx hb dX11_putsBack_12 (by decide) ?_
  refine lv_iload_n hx hb dX11_putsBack_14 rfl (lv_at hl 0 rfl) ?_
  refine lv_iadd hx hb dX11_putsBack_15 ?_
  refine lv_topi (fun x43 ex43 => ?_)
  obtain rfl : x43 = 29 := ex43.trans (by decide)
  refine lv_aload_n hx hb dX11_putsBack_16 rfl (lv_at hl 1 rfl) ?_
  refine va_get (ci := 11) (v := .ref (a 208)) (C := RX11) (T := TX11) (N := 39) hx hb htA in_X11 hown hK hP 1 rfl rfl 23 (by decide) (htA _ wd_1377) (fun _ h => h) rfl dX11_putsBack_17 ?_
  refine lv_iload_n hx hb dX11_putsBack_20 rfl (lv_at hl 0 rfl) ?_
  refine va_iald hx hb hK hP 0 0 rfl rfl (in_lit (by decide)) dX11_putsBack_21 ?_
  refine lv_topi (fun x44 ex44 => ?_)
  obtain rfl : x44 = 0 := ex44
  refine va_iast hx hb hK hP hD hS 2 0 rfl rfl (in_lit (by decide)) dX11_putsBack_22 (fun H locs hP hD hS => ?_)
  rw [fa_upd_same (f := upd (upd (fun _ => 0) (1 : Int32).toNatClampNeg 1) (2 : Int32).toNatClampNeg 1) (i := (29 : Int32).toNatClampNeg) (x := 0) (by first | decide | rfl)] at hP hD
  have hP : va_P D vwCl [((a 208), .inl (cy 0, 37, .inl (fun _ => 0))), ((a 200), .inr (11, [.ref (a 201), .ref (a 202), .ref (a 203), .ref (a 204), .int 0, .ref (a 205), .int 0, .int 0, .int 0, .int 0, .int 0, .int 0, .int 0, .int 0, .int 0, .int (-1), .int 0, .int 0, .int 0, .ref (a 206), .ref (a 207), .int 0, .int 0, .ref (a 208), .int 0, .int 0, .int 0, .int 0, .ref (a 209), .ref (a 210), .ref (a 211), .ref (a 212), .ref (a 213), .ref (a 214), .ref (a 215), .int 0, .ref (a 216), .ref (a 217), .ref (a 218)])), ((a 201), .inl (cy 0, 2260, .inl (upd (upd (fun _ => 0) (1 : Int32).toNatClampNeg 1) (2 : Int32).toNatClampNeg 1)))] H := hP
  have hD := va_ca hP hD
  refine lv_iinc (v := 22) (lv' := [(1, .int 22), (0, .ref (a 200))]) hx hb dX11_putsBack_23 hl (k := 0) rfl (by decide) (by decide) rfl (fun ls hl => ?_)
  refine lv_goto (tgt := 2) hx hb dX11_putsBack_26 (by decide) ?_
  refine lv_iload_n hx hb dX11_putsBack_2 rfl (lv_at hl 0 rfl) ?_
  refine lv_bipush (v := 37) hx hb dX11_putsBack_3 (by decide) ?_
  refine lv_icmp_ge (tgt := 29) hx hb dX11_putsBack_5 (by decide) (fun q => absurd q (by decide)) (fun _ => ?_)
  refine lv_aload_n hx hb dX11_putsBack_8 rfl (lv_at hl 1 rfl) ?_
  refine va_get (ci := 11) (v := .ref (a 201)) (C := RX11) (T := TX11) (N := 39) hx hb htA in_X11 hown hK hP 1 rfl rfl 0 (by decide) (htA _ wd_1354) (fun _ h => h) rfl dX11_putsBack_9 ?_
  refine lv_bipush (v := 8) hx hb dX11_putsBack_12 (by decide) ?_
  refine lv_iload_n hx hb dX11_putsBack_14 rfl (lv_at hl 0 rfl) ?_
  refine lv_iadd hx hb dX11_putsBack_15 ?_
  refine lv_topi (fun x45 ex45 => ?_)
  obtain rfl : x45 = 30 := ex45.trans (by decide)
  refine lv_aload_n hx hb dX11_putsBack_16 rfl (lv_at hl 1 rfl) ?_
  refine va_get (ci := 11) (v := .ref (a 208)) (C := RX11) (T := TX11) (N := 39) hx hb htA in_X11 hown hK hP 1 rfl rfl 23 (by decide) (htA _ wd_1377) (fun _ h => h) rfl dX11_putsBack_17 ?_
  refine lv_iload_n hx hb dX11_putsBack_20 rfl (lv_at hl 0 rfl) ?_
  refine va_iald hx hb hK hP 0 0 rfl rfl (in_lit (by decide)) dX11_putsBack_21 ?_
  refine lv_topi (fun x46 ex46 => ?_)
  obtain rfl : x46 = 0 := ex46
  refine va_iast hx hb hK hP hD hS 2 0 rfl rfl (in_lit (by decide)) dX11_putsBack_22 (fun H locs hP hD hS => ?_)
  rw [fa_upd_same (f := upd (upd (fun _ => 0) (1 : Int32).toNatClampNeg 1) (2 : Int32).toNatClampNeg 1) (i := (30 : Int32).toNatClampNeg) (x := 0) (by first | decide | rfl)] at hP hD
  have hP : va_P D vwCl [((a 208), .inl (cy 0, 37, .inl (fun _ => 0))), ((a 200), .inr (11, [.ref (a 201), .ref (a 202), .ref (a 203), .ref (a 204), .int 0, .ref (a 205), .int 0, .int 0, .int 0, .int 0, .int 0, .int 0, .int 0, .int 0, .int 0, .int (-1), .int 0, .int 0, .int 0, .ref (a 206), .ref (a 207), .int 0, .int 0, .ref (a 208), .int 0, .int 0, .int 0, .int 0, .ref (a 209), .ref (a 210), .ref (a 211), .ref (a 212), .ref (a 213), .ref (a 214), .ref (a 215), .int 0, .ref (a 216), .ref (a 217), .ref (a 218)])), ((a 201), .inl (cy 0, 2260, .inl (upd (upd (fun _ => 0) (1 : Int32).toNatClampNeg 1) (2 : Int32).toNatClampNeg 1)))] H := hP
  have hD := va_ca hP hD
  refine lv_iinc (v := 23) (lv' := [(1, .int 23), (0, .ref (a 200))]) hx hb dX11_putsBack_23 hl (k := 0) rfl (by decide) (by decide) rfl (fun ls hl => ?_)
  refine lv_goto (tgt := 2) hx hb dX11_putsBack_26 (by decide) ?_
  refine lv_iload_n hx hb dX11_putsBack_2 rfl (lv_at hl 0 rfl) ?_
  refine lv_bipush (v := 37) hx hb dX11_putsBack_3 (by decide) ?_
  refine lv_icmp_ge (tgt := 29) hx hb dX11_putsBack_5 (by decide) (fun q => absurd q (by decide)) (fun _ => ?_)
  refine lv_aload_n hx hb dX11_putsBack_8 rfl (lv_at hl 1 rfl) ?_
  refine va_get (ci := 11) (v := .ref (a 201)) (C := RX11) (T := TX11) (N := 39) hx hb htA in_X11 hown hK hP 1 rfl rfl 0 (by decide) (htA _ wd_1354) (fun _ h => h) rfl dX11_putsBack_9 ?_
  refine lv_bipush (v := 8) hx hb dX11_putsBack_12 (by decide) ?_
  refine lv_iload_n hx hb dX11_putsBack_14 rfl (lv_at hl 0 rfl) ?_
  refine lv_iadd hx hb dX11_putsBack_15 ?_
  refine lv_topi (fun x47 ex47 => ?_)
  obtain rfl : x47 = 31 := ex47.trans (by decide)
  refine lv_aload_n hx hb dX11_putsBack_16 rfl (lv_at hl 1 rfl) ?_
  refine va_get (ci := 11) (v := .ref (a 208)) (C := RX11) (T := TX11) (N := 39) hx hb htA in_X11 hown hK hP 1 rfl rfl 23 (by decide) (htA _ wd_1377) (fun _ h => h) rfl dX11_putsBack_17 ?_
  refine lv_iload_n hx hb dX11_putsBack_20 rfl (lv_at hl 0 rfl) ?_
  refine va_iald hx hb hK hP 0 0 rfl rfl (in_lit (by decide)) dX11_putsBack_21 ?_
  refine lv_topi (fun x48 ex48 => ?_)
  obtain rfl : x48 = 0 := ex48
  refine va_iast hx hb hK hP hD hS 2 0 rfl rfl (in_lit (by decide)) dX11_putsBack_22 (fun H locs hP hD hS => ?_)
  rw [fa_upd_same (f := upd (upd (fun _ => 0) (1 : Int32).toNatClampNeg 1) (2 : Int32).toNatClampNeg 1) (i := (31 : Int32).toNatClampNeg) (x := 0) (by first | decide | rfl)] at hP hD
  have hP : va_P D vwCl [((a 208), .inl (cy 0, 37, .inl (fun _ => 0))), ((a 200), .inr (11, [.ref (a 201), .ref (a 202), .ref (a 203), .ref (a 204), .int 0, .ref (a 205), .int 0, .int 0, .int 0, .int 0, .int 0, .int 0, .int 0, .int 0, .int 0, .int (-1), .int 0, .int 0, .int 0, .ref (a 206), .ref (a 207), .int 0, .int 0, .ref (a 208), .int 0, .int 0, .int 0, .int 0, .ref (a 209), .ref (a 210), .ref (a 211), .ref (a 212), .ref (a 213), .ref (a 214), .ref (a 215), .int 0, .ref (a 216), .ref (a 217), .ref (a 218)])), ((a 201), .inl (cy 0, 2260, .inl (upd (upd (fun _ => 0) (1 : Int32).toNatClampNeg 1) (2 : Int32).toNatClampNeg 1)))] H := hP
  have hD := va_ca hP hD
  refine lv_iinc (v := 24) (lv' := [(1, .int 24), (0, .ref (a 200))]) hx hb dX11_putsBack_23 hl (k := 0) rfl (by decide) (by decide) rfl (fun ls hl => ?_)
  refine lv_goto (tgt := 2) hx hb dX11_putsBack_26 (by decide) ?_
  refine lv_iload_n hx hb dX11_putsBack_2 rfl (lv_at hl 0 rfl) ?_
  refine lv_bipush (v := 37) hx hb dX11_putsBack_3 (by decide) ?_
  refine lv_icmp_ge (tgt := 29) hx hb dX11_putsBack_5 (by decide) (fun q => absurd q (by decide)) (fun _ => ?_)
  refine lv_aload_n hx hb dX11_putsBack_8 rfl (lv_at hl 1 rfl) ?_
  refine va_get (ci := 11) (v := .ref (a 201)) (C := RX11) (T := TX11) (N := 39) hx hb htA in_X11 hown hK hP 1 rfl rfl 0 (by decide) (htA _ wd_1354) (fun _ h => h) rfl dX11_putsBack_9 ?_
  refine lv_bipush (v := 8) hx hb dX11_putsBack_12 (by decide) ?_
  refine lv_iload_n hx hb dX11_putsBack_14 rfl (lv_at hl 0 rfl) ?_
  refine lv_iadd hx hb dX11_putsBack_15 ?_
  refine lv_topi (fun x49 ex49 => ?_)
  obtain rfl : x49 = 32 := ex49.trans (by decide)
  refine lv_aload_n hx hb dX11_putsBack_16 rfl (lv_at hl 1 rfl) ?_
  refine va_get (ci := 11) (v := .ref (a 208)) (C := RX11) (T := TX11) (N := 39) hx hb htA in_X11 hown hK hP 1 rfl rfl 23 (by decide) (htA _ wd_1377) (fun _ h => h) rfl dX11_putsBack_17 ?_
  refine lv_iload_n hx hb dX11_putsBack_20 rfl (lv_at hl 0 rfl) ?_
  refine va_iald hx hb hK hP 0 0 rfl rfl (in_lit (by decide)) dX11_putsBack_21 ?_
  refine lv_topi (fun x50 ex50 => ?_)
  obtain rfl : x50 = 0 := ex50
  refine va_iast hx hb hK hP hD hS 2 0 rfl rfl (in_lit (by decide)) dX11_putsBack_22 (fun H locs hP hD hS => ?_)
  rw [fa_upd_same (f := upd (upd (fun _ => 0) (1 : Int32).toNatClampNeg 1) (2 : Int32).toNatClampNeg 1) (i := (32 : Int32).toNatClampNeg) (x := 0) (by first | decide | rfl)] at hP hD
  have hP : va_P D vwCl [((a 208), .inl (cy 0, 37, .inl (fun _ => 0))), ((a 200), .inr (11, [.ref (a 201), .ref (a 202), .ref (a 203), .ref (a 204), .int 0, .ref (a 205), .int 0, .int 0, .int 0, .int 0, .int 0, .int 0, .int 0, .int 0, .int 0, .int (-1), .int 0, .int 0, .int 0, .ref (a 206), .ref (a 207), .int 0, .int 0, .ref (a 208), .int 0, .int 0, .int 0, .int 0, .ref (a 209), .ref (a 210), .ref (a 211), .ref (a 212), .ref (a 213), .ref (a 214), .ref (a 215), .int 0, .ref (a 216), .ref (a 217), .ref (a 218)])), ((a 201), .inl (cy 0, 2260, .inl (upd (upd (fun _ => 0) (1 : Int32).toNatClampNeg 1) (2 : Int32).toNatClampNeg 1)))] H := hP
  have hD := va_ca hP hD
  refine lv_iinc (v := 25) (lv' := [(1, .int 25), (0, .ref (a 200))]) hx hb dX11_putsBack_23 hl (k := 0) rfl (by decide) (by decide) rfl (fun ls hl => ?_)
  refine lv_goto (tgt := 2) hx hb dX11_putsBack_26 (by decide) ?_
  refine lv_iload_n hx hb dX11_putsBack_2 rfl (lv_at hl 0 rfl) ?_
  refine lv_bipush (v := 37) hx hb dX11_putsBack_3 (by decide) ?_
  refine lv_icmp_ge (tgt := 29) hx hb dX11_putsBack_5 (by decide) (fun q => absurd q (by decide)) (fun _ => ?_)
  refine lv_aload_n hx hb dX11_putsBack_8 rfl (lv_at hl 1 rfl) ?_
  refine va_get (ci := 11) (v := .ref (a 201)) (C := RX11) (T := TX11) (N := 39) hx hb htA in_X11 hown hK hP 1 rfl rfl 0 (by decide) (htA _ wd_1354) (fun _ h => h) rfl dX11_putsBack_9 ?_
  refine lv_bipush (v := 8) hx hb dX11_putsBack_12 (by decide) ?_
  refine lv_iload_n hx hb dX11_putsBack_14 rfl (lv_at hl 0 rfl) ?_
  refine lv_iadd hx hb dX11_putsBack_15 ?_
  refine lv_topi (fun x51 ex51 => ?_)
  obtain rfl : x51 = 33 := ex51.trans (by decide)
  refine lv_aload_n hx hb dX11_putsBack_16 rfl (lv_at hl 1 rfl) ?_
  refine va_get (ci := 11) (v := .ref (a 208)) (C := RX11) (T := TX11) (N := 39) hx hb htA in_X11 hown hK hP 1 rfl rfl 23 (by decide) (htA _ wd_1377) (fun _ h => h) rfl dX11_putsBack_17 ?_
  refine lv_iload_n hx hb dX11_putsBack_20 rfl (lv_at hl 0 rfl) ?_
  refine va_iald hx hb hK hP 0 0 rfl rfl (in_lit (by decide)) dX11_putsBack_21 ?_
  refine lv_topi (fun x52 ex52 => ?_)
  obtain rfl : x52 = 0 := ex52
  refine va_iast hx hb hK hP hD hS 2 0 rfl rfl (in_lit (by decide)) dX11_putsBack_22 (fun H locs hP hD hS => ?_)
  rw [fa_upd_same (f := upd (upd (fun _ => 0) (1 : Int32).toNatClampNeg 1) (2 : Int32).toNatClampNeg 1) (i := (33 : Int32).toNatClampNeg) (x := 0) (by first | decide | rfl)] at hP hD
  have hP : va_P D vwCl [((a 208), .inl (cy 0, 37, .inl (fun _ => 0))), ((a 200), .inr (11, [.ref (a 201), .ref (a 202), .ref (a 203), .ref (a 204), .int 0, .ref (a 205), .int 0, .int 0, .int 0, .int 0, .int 0, .int 0, .int 0, .int 0, .int 0, .int (-1), .int 0, .int 0, .int 0, .ref (a 206), .ref (a 207), .int 0, .int 0, .ref (a 208), .int 0, .int 0, .int 0, .int 0, .ref (a 209), .ref (a 210), .ref (a 211), .ref (a 212), .ref (a 213), .ref (a 214), .ref (a 215), .int 0, .ref (a 216), .ref (a 217), .ref (a 218)])), ((a 201), .inl (cy 0, 2260, .inl (upd (upd (fun _ => 0) (1 : Int32).toNatClampNeg 1) (2 : Int32).toNatClampNeg 1)))] H := hP
  have hD := va_ca hP hD
  refine lv_iinc (v := 26) (lv' := [(1, .int 26), (0, .ref (a 200))]) hx hb dX11_putsBack_23 hl (k := 0) rfl (by decide) (by decide) rfl (fun ls hl => ?_)
  refine lv_goto (tgt := 2) hx hb dX11_putsBack_26 (by decide) ?_
  refine lv_iload_n hx hb dX11_putsBack_2 rfl (lv_at hl 0 rfl) ?_
  refine lv_bipush (v := 37) hx hb dX11_putsBack_3 (by decide) ?_
  refine lv_icmp_ge (tgt := 29) hx hb dX11_putsBack_5 (by decide) (fun q => absurd q (by decide)) (fun _ => ?_)
  refine lv_aload_n hx hb dX11_putsBack_8 rfl (lv_at hl 1 rfl) ?_
  refine va_get (ci := 11) (v := .ref (a 201)) (C := RX11) (T := TX11) (N := 39) hx hb htA in_X11 hown hK hP 1 rfl rfl 0 (by decide) (htA _ wd_1354) (fun _ h => h) rfl dX11_putsBack_9 ?_
  refine lv_bipush (v := 8) hx hb dX11_putsBack_12 (by decide) ?_
  refine lv_iload_n hx hb dX11_putsBack_14 rfl (lv_at hl 0 rfl) ?_
  refine lv_iadd hx hb dX11_putsBack_15 ?_
  refine lv_topi (fun x53 ex53 => ?_)
  obtain rfl : x53 = 34 := ex53.trans (by decide)
  refine lv_aload_n hx hb dX11_putsBack_16 rfl (lv_at hl 1 rfl) ?_
  refine va_get (ci := 11) (v := .ref (a 208)) (C := RX11) (T := TX11) (N := 39) hx hb htA in_X11 hown hK hP 1 rfl rfl 23 (by decide) (htA _ wd_1377) (fun _ h => h) rfl dX11_putsBack_17 ?_
  refine lv_iload_n hx hb dX11_putsBack_20 rfl (lv_at hl 0 rfl) ?_
  refine va_iald hx hb hK hP 0 0 rfl rfl (in_lit (by decide)) dX11_putsBack_21 ?_
  refine lv_topi (fun x54 ex54 => ?_)
  obtain rfl : x54 = 0 := ex54
  refine va_iast hx hb hK hP hD hS 2 0 rfl rfl (in_lit (by decide)) dX11_putsBack_22 (fun H locs hP hD hS => ?_)
  rw [fa_upd_same (f := upd (upd (fun _ => 0) (1 : Int32).toNatClampNeg 1) (2 : Int32).toNatClampNeg 1) (i := (34 : Int32).toNatClampNeg) (x := 0) (by first | decide | rfl)] at hP hD
  have hP : va_P D vwCl [((a 208), .inl (cy 0, 37, .inl (fun _ => 0))), ((a 200), .inr (11, [.ref (a 201), .ref (a 202), .ref (a 203), .ref (a 204), .int 0, .ref (a 205), .int 0, .int 0, .int 0, .int 0, .int 0, .int 0, .int 0, .int 0, .int 0, .int (-1), .int 0, .int 0, .int 0, .ref (a 206), .ref (a 207), .int 0, .int 0, .ref (a 208), .int 0, .int 0, .int 0, .int 0, .ref (a 209), .ref (a 210), .ref (a 211), .ref (a 212), .ref (a 213), .ref (a 214), .ref (a 215), .int 0, .ref (a 216), .ref (a 217), .ref (a 218)])), ((a 201), .inl (cy 0, 2260, .inl (upd (upd (fun _ => 0) (1 : Int32).toNatClampNeg 1) (2 : Int32).toNatClampNeg 1)))] H := hP
  have hD := va_ca hP hD
  refine lv_iinc (v := 27) (lv' := [(1, .int 27), (0, .ref (a 200))]) hx hb dX11_putsBack_23 hl (k := 0) rfl (by decide) (by decide) rfl (fun ls hl => ?_)
  refine lv_goto (tgt := 2) hx hb dX11_putsBack_26 (by decide) ?_
  refine lv_iload_n hx hb dX11_putsBack_2 rfl (lv_at hl 0 rfl) ?_
  refine lv_bipush (v := 37) hx hb dX11_putsBack_3 (by decide) ?_
  refine lv_icmp_ge (tgt := 29) hx hb dX11_putsBack_5 (by decide) (fun q => absurd q (by decide)) (fun _ => ?_)
  refine lv_aload_n hx hb dX11_putsBack_8 rfl (lv_at hl 1 rfl) ?_
  refine va_get (ci := 11) (v := .ref (a 201)) (C := RX11) (T := TX11) (N := 39) hx hb htA in_X11 hown hK hP 1 rfl rfl 0 (by decide) (htA _ wd_1354) (fun _ h => h) rfl dX11_putsBack_9 ?_
  refine lv_bipush (v := 8) hx hb dX11_putsBack_12 (by decide) ?_
  refine lv_iload_n hx hb dX11_putsBack_14 rfl (lv_at hl 0 rfl) ?_
  refine lv_iadd hx hb dX11_putsBack_15 ?_
  refine lv_topi (fun x55 ex55 => ?_)
  obtain rfl : x55 = 35 := ex55.trans (by decide)
  refine lv_aload_n hx hb dX11_putsBack_16 rfl (lv_at hl 1 rfl) ?_
  refine va_get (ci := 11) (v := .ref (a 208)) (C := RX11) (T := TX11) (N := 39) hx hb htA in_X11 hown hK hP 1 rfl rfl 23 (by decide) (htA _ wd_1377) (fun _ h => h) rfl dX11_putsBack_17 ?_
  refine lv_iload_n hx hb dX11_putsBack_20 rfl (lv_at hl 0 rfl) ?_
  refine va_iald hx hb hK hP 0 0 rfl rfl (in_lit (by decide)) dX11_putsBack_21 ?_
  refine lv_topi (fun x56 ex56 => ?_)
  obtain rfl : x56 = 0 := ex56
  refine va_iast hx hb hK hP hD hS 2 0 rfl rfl (in_lit (by decide)) dX11_putsBack_22 (fun H locs hP hD hS => ?_)
  rw [fa_upd_same (f := upd (upd (fun _ => 0) (1 : Int32).toNatClampNeg 1) (2 : Int32).toNatClampNeg 1) (i := (35 : Int32).toNatClampNeg) (x := 0) (by first | decide | rfl)] at hP hD
  have hP : va_P D vwCl [((a 208), .inl (cy 0, 37, .inl (fun _ => 0))), ((a 200), .inr (11, [.ref (a 201), .ref (a 202), .ref (a 203), .ref (a 204), .int 0, .ref (a 205), .int 0, .int 0, .int 0, .int 0, .int 0, .int 0, .int 0, .int 0, .int 0, .int (-1), .int 0, .int 0, .int 0, .ref (a 206), .ref (a 207), .int 0, .int 0, .ref (a 208), .int 0, .int 0, .int 0, .int 0, .ref (a 209), .ref (a 210), .ref (a 211), .ref (a 212), .ref (a 213), .ref (a 214), .ref (a 215), .int 0, .ref (a 216), .ref (a 217), .ref (a 218)])), ((a 201), .inl (cy 0, 2260, .inl (upd (upd (fun _ => 0) (1 : Int32).toNatClampNeg 1) (2 : Int32).toNatClampNeg 1)))] H := hP
  have hD := va_ca hP hD
  refine lv_iinc (v := 28) (lv' := [(1, .int 28), (0, .ref (a 200))]) hx hb dX11_putsBack_23 hl (k := 0) rfl (by decide) (by decide) rfl (fun ls hl => ?_)
  refine lv_goto (tgt := 2) hx hb dX11_putsBack_26 (by decide) ?_
  refine lv_iload_n hx hb dX11_putsBack_2 rfl (lv_at hl 0 rfl) ?_
  refine lv_bipush (v := 37) hx hb dX11_putsBack_3 (by decide) ?_
  refine lv_icmp_ge (tgt := 29) hx hb dX11_putsBack_5 (by decide) (fun q => absurd q (by decide)) (fun _ => ?_)
  refine lv_aload_n hx hb dX11_putsBack_8 rfl (lv_at hl 1 rfl) ?_
  refine va_get (ci := 11) (v := .ref (a 201)) (C := RX11) (T := TX11) (N := 39) hx hb htA in_X11 hown hK hP 1 rfl rfl 0 (by decide) (htA _ wd_1354) (fun _ h => h) rfl dX11_putsBack_9 ?_
  refine lv_bipush (v := 8) hx hb dX11_putsBack_12 (by decide) ?_
  refine lv_iload_n hx hb dX11_putsBack_14 rfl (lv_at hl 0 rfl) ?_
  refine lv_iadd hx hb dX11_putsBack_15 ?_
  refine lv_topi (fun x57 ex57 => ?_)
  obtain rfl : x57 = 36 := ex57.trans (by decide)
  refine lv_aload_n hx hb dX11_putsBack_16 rfl (lv_at hl 1 rfl) ?_
  refine va_get (ci := 11) (v := .ref (a 208)) (C := RX11) (T := TX11) (N := 39) hx hb htA in_X11 hown hK hP 1 rfl rfl 23 (by decide) (htA _ wd_1377) (fun _ h => h) rfl dX11_putsBack_17 ?_
  refine lv_iload_n hx hb dX11_putsBack_20 rfl (lv_at hl 0 rfl) ?_
  refine va_iald hx hb hK hP 0 0 rfl rfl (in_lit (by decide)) dX11_putsBack_21 ?_
  refine lv_topi (fun x58 ex58 => ?_)
  obtain rfl : x58 = 0 := ex58
  refine va_iast hx hb hK hP hD hS 2 0 rfl rfl (in_lit (by decide)) dX11_putsBack_22 (fun H locs hP hD hS => ?_)
  rw [fa_upd_same (f := upd (upd (fun _ => 0) (1 : Int32).toNatClampNeg 1) (2 : Int32).toNatClampNeg 1) (i := (36 : Int32).toNatClampNeg) (x := 0) (by first | decide | rfl)] at hP hD
  have hP : va_P D vwCl [((a 208), .inl (cy 0, 37, .inl (fun _ => 0))), ((a 200), .inr (11, [.ref (a 201), .ref (a 202), .ref (a 203), .ref (a 204), .int 0, .ref (a 205), .int 0, .int 0, .int 0, .int 0, .int 0, .int 0, .int 0, .int 0, .int 0, .int (-1), .int 0, .int 0, .int 0, .ref (a 206), .ref (a 207), .int 0, .int 0, .ref (a 208), .int 0, .int 0, .int 0, .int 0, .ref (a 209), .ref (a 210), .ref (a 211), .ref (a 212), .ref (a 213), .ref (a 214), .ref (a 215), .int 0, .ref (a 216), .ref (a 217), .ref (a 218)])), ((a 201), .inl (cy 0, 2260, .inl (upd (upd (fun _ => 0) (1 : Int32).toNatClampNeg 1) (2 : Int32).toNatClampNeg 1)))] H := hP
  have hD := va_ca hP hD
  refine lv_iinc (v := 29) (lv' := [(1, .int 29), (0, .ref (a 200))]) hx hb dX11_putsBack_23 hl (k := 0) rfl (by decide) (by decide) rfl (fun ls hl => ?_)
  refine lv_goto (tgt := 2) hx hb dX11_putsBack_26 (by decide) ?_
  refine lv_iload_n hx hb dX11_putsBack_2 rfl (lv_at hl 0 rfl) ?_
  refine lv_bipush (v := 37) hx hb dX11_putsBack_3 (by decide) ?_
  refine lv_icmp_ge (tgt := 29) hx hb dX11_putsBack_5 (by decide) (fun q => absurd q (by decide)) (fun _ => ?_)
  refine lv_aload_n hx hb dX11_putsBack_8 rfl (lv_at hl 1 rfl) ?_
  refine va_get (ci := 11) (v := .ref (a 201)) (C := RX11) (T := TX11) (N := 39) hx hb htA in_X11 hown hK hP 1 rfl rfl 0 (by decide) (htA _ wd_1354) (fun _ h => h) rfl dX11_putsBack_9 ?_
  refine lv_bipush (v := 8) hx hb dX11_putsBack_12 (by decide) ?_
  refine lv_iload_n hx hb dX11_putsBack_14 rfl (lv_at hl 0 rfl) ?_
  refine lv_iadd hx hb dX11_putsBack_15 ?_
  refine lv_topi (fun x59 ex59 => ?_)
  obtain rfl : x59 = 37 := ex59.trans (by decide)
  refine lv_aload_n hx hb dX11_putsBack_16 rfl (lv_at hl 1 rfl) ?_
  refine va_get (ci := 11) (v := .ref (a 208)) (C := RX11) (T := TX11) (N := 39) hx hb htA in_X11 hown hK hP 1 rfl rfl 23 (by decide) (htA _ wd_1377) (fun _ h => h) rfl dX11_putsBack_17 ?_
  refine lv_iload_n hx hb dX11_putsBack_20 rfl (lv_at hl 0 rfl) ?_
  refine va_iald hx hb hK hP 0 0 rfl rfl (in_lit (by decide)) dX11_putsBack_21 ?_
  refine lv_topi (fun x60 ex60 => ?_)
  obtain rfl : x60 = 0 := ex60
  refine va_iast hx hb hK hP hD hS 2 0 rfl rfl (in_lit (by decide)) dX11_putsBack_22 (fun H locs hP hD hS => ?_)
  rw [fa_upd_same (f := upd (upd (fun _ => 0) (1 : Int32).toNatClampNeg 1) (2 : Int32).toNatClampNeg 1) (i := (37 : Int32).toNatClampNeg) (x := 0) (by first | decide | rfl)] at hP hD
  have hP : va_P D vwCl [((a 208), .inl (cy 0, 37, .inl (fun _ => 0))), ((a 200), .inr (11, [.ref (a 201), .ref (a 202), .ref (a 203), .ref (a 204), .int 0, .ref (a 205), .int 0, .int 0, .int 0, .int 0, .int 0, .int 0, .int 0, .int 0, .int 0, .int (-1), .int 0, .int 0, .int 0, .ref (a 206), .ref (a 207), .int 0, .int 0, .ref (a 208), .int 0, .int 0, .int 0, .int 0, .ref (a 209), .ref (a 210), .ref (a 211), .ref (a 212), .ref (a 213), .ref (a 214), .ref (a 215), .int 0, .ref (a 216), .ref (a 217), .ref (a 218)])), ((a 201), .inl (cy 0, 2260, .inl (upd (upd (fun _ => 0) (1 : Int32).toNatClampNeg 1) (2 : Int32).toNatClampNeg 1)))] H := hP
  have hD := va_ca hP hD
  refine lv_iinc (v := 30) (lv' := [(1, .int 30), (0, .ref (a 200))]) hx hb dX11_putsBack_23 hl (k := 0) rfl (by decide) (by decide) rfl (fun ls hl => ?_)
  refine lv_goto (tgt := 2) hx hb dX11_putsBack_26 (by decide) ?_
  refine lv_iload_n hx hb dX11_putsBack_2 rfl (lv_at hl 0 rfl) ?_
  refine lv_bipush (v := 37) hx hb dX11_putsBack_3 (by decide) ?_
  refine lv_icmp_ge (tgt := 29) hx hb dX11_putsBack_5 (by decide) (fun q => absurd q (by decide)) (fun _ => ?_)
  refine lv_aload_n hx hb dX11_putsBack_8 rfl (lv_at hl 1 rfl) ?_
  refine va_get (ci := 11) (v := .ref (a 201)) (C := RX11) (T := TX11) (N := 39) hx hb htA in_X11 hown hK hP 1 rfl rfl 0 (by decide) (htA _ wd_1354) (fun _ h => h) rfl dX11_putsBack_9 ?_
  refine lv_bipush (v := 8) hx hb dX11_putsBack_12 (by decide) ?_
  refine lv_iload_n hx hb dX11_putsBack_14 rfl (lv_at hl 0 rfl) ?_
  refine lv_iadd hx hb dX11_putsBack_15 ?_
  refine lv_topi (fun x61 ex61 => ?_)
  obtain rfl : x61 = 38 := ex61.trans (by decide)
  refine lv_aload_n hx hb dX11_putsBack_16 rfl (lv_at hl 1 rfl) ?_
  refine va_get (ci := 11) (v := .ref (a 208)) (C := RX11) (T := TX11) (N := 39) hx hb htA in_X11 hown hK hP 1 rfl rfl 23 (by decide) (htA _ wd_1377) (fun _ h => h) rfl dX11_putsBack_17 ?_
  refine lv_iload_n hx hb dX11_putsBack_20 rfl (lv_at hl 0 rfl) ?_
  refine va_iald hx hb hK hP 0 0 rfl rfl (in_lit (by decide)) dX11_putsBack_21 ?_
  refine lv_topi (fun x62 ex62 => ?_)
  obtain rfl : x62 = 0 := ex62
  refine va_iast hx hb hK hP hD hS 2 0 rfl rfl (in_lit (by decide)) dX11_putsBack_22 (fun H locs hP hD hS => ?_)
  rw [fa_upd_same (f := upd (upd (fun _ => 0) (1 : Int32).toNatClampNeg 1) (2 : Int32).toNatClampNeg 1) (i := (38 : Int32).toNatClampNeg) (x := 0) (by first | decide | rfl)] at hP hD
  have hP : va_P D vwCl [((a 208), .inl (cy 0, 37, .inl (fun _ => 0))), ((a 200), .inr (11, [.ref (a 201), .ref (a 202), .ref (a 203), .ref (a 204), .int 0, .ref (a 205), .int 0, .int 0, .int 0, .int 0, .int 0, .int 0, .int 0, .int 0, .int 0, .int (-1), .int 0, .int 0, .int 0, .ref (a 206), .ref (a 207), .int 0, .int 0, .ref (a 208), .int 0, .int 0, .int 0, .int 0, .ref (a 209), .ref (a 210), .ref (a 211), .ref (a 212), .ref (a 213), .ref (a 214), .ref (a 215), .int 0, .ref (a 216), .ref (a 217), .ref (a 218)])), ((a 201), .inl (cy 0, 2260, .inl (upd (upd (fun _ => 0) (1 : Int32).toNatClampNeg 1) (2 : Int32).toNatClampNeg 1)))] H := hP
  have hD := va_ca hP hD
  refine lv_iinc (v := 31) (lv' := [(1, .int 31), (0, .ref (a 200))]) hx hb dX11_putsBack_23 hl (k := 0) rfl (by decide) (by decide) rfl (fun ls hl => ?_)
  refine lv_goto (tgt := 2) hx hb dX11_putsBack_26 (by decide) ?_
  refine lv_iload_n hx hb dX11_putsBack_2 rfl (lv_at hl 0 rfl) ?_
  refine lv_bipush (v := 37) hx hb dX11_putsBack_3 (by decide) ?_
  refine lv_icmp_ge (tgt := 29) hx hb dX11_putsBack_5 (by decide) (fun q => absurd q (by decide)) (fun _ => ?_)
  refine lv_aload_n hx hb dX11_putsBack_8 rfl (lv_at hl 1 rfl) ?_
  refine va_get (ci := 11) (v := .ref (a 201)) (C := RX11) (T := TX11) (N := 39) hx hb htA in_X11 hown hK hP 1 rfl rfl 0 (by decide) (htA _ wd_1354) (fun _ h => h) rfl dX11_putsBack_9 ?_
  refine lv_bipush (v := 8) hx hb dX11_putsBack_12 (by decide) ?_
  refine lv_iload_n hx hb dX11_putsBack_14 rfl (lv_at hl 0 rfl) ?_
  refine lv_iadd hx hb dX11_putsBack_15 ?_
  refine lv_topi (fun x63 ex63 => ?_)
  obtain rfl : x63 = 39 := ex63.trans (by decide)
  refine lv_aload_n hx hb dX11_putsBack_16 rfl (lv_at hl 1 rfl) ?_
  refine va_get (ci := 11) (v := .ref (a 208)) (C := RX11) (T := TX11) (N := 39) hx hb htA in_X11 hown hK hP 1 rfl rfl 23 (by decide) (htA _ wd_1377) (fun _ h => h) rfl dX11_putsBack_17 ?_
  refine lv_iload_n hx hb dX11_putsBack_20 rfl (lv_at hl 0 rfl) ?_
  refine va_iald hx hb hK hP 0 0 rfl rfl (in_lit (by decide)) dX11_putsBack_21 ?_
  refine lv_topi (fun x64 ex64 => ?_)
  obtain rfl : x64 = 0 := ex64
  refine va_iast hx hb hK hP hD hS 2 0 rfl rfl (in_lit (by decide)) dX11_putsBack_22 (fun H locs hP hD hS => ?_)
  rw [fa_upd_same (f := upd (upd (fun _ => 0) (1 : Int32).toNatClampNeg 1) (2 : Int32).toNatClampNeg 1) (i := (39 : Int32).toNatClampNeg) (x := 0) (by first | decide | rfl)] at hP hD
  have hP : va_P D vwCl [((a 208), .inl (cy 0, 37, .inl (fun _ => 0))), ((a 200), .inr (11, [.ref (a 201), .ref (a 202), .ref (a 203), .ref (a 204), .int 0, .ref (a 205), .int 0, .int 0, .int 0, .int 0, .int 0, .int 0, .int 0, .int 0, .int 0, .int (-1), .int 0, .int 0, .int 0, .ref (a 206), .ref (a 207), .int 0, .int 0, .ref (a 208), .int 0, .int 0, .int 0, .int 0, .ref (a 209), .ref (a 210), .ref (a 211), .ref (a 212), .ref (a 213), .ref (a 214), .ref (a 215), .int 0, .ref (a 216), .ref (a 217), .ref (a 218)])), ((a 201), .inl (cy 0, 2260, .inl (upd (upd (fun _ => 0) (1 : Int32).toNatClampNeg 1) (2 : Int32).toNatClampNeg 1)))] H := hP
  have hD := va_ca hP hD
  refine lv_iinc (v := 32) (lv' := [(1, .int 32), (0, .ref (a 200))]) hx hb dX11_putsBack_23 hl (k := 0) rfl (by decide) (by decide) rfl (fun ls hl => ?_)
  refine lv_goto (tgt := 2) hx hb dX11_putsBack_26 (by decide) ?_
  refine lv_iload_n hx hb dX11_putsBack_2 rfl (lv_at hl 0 rfl) ?_
  refine lv_bipush (v := 37) hx hb dX11_putsBack_3 (by decide) ?_
  refine lv_icmp_ge (tgt := 29) hx hb dX11_putsBack_5 (by decide) (fun q => absurd q (by decide)) (fun _ => ?_)
  refine lv_aload_n hx hb dX11_putsBack_8 rfl (lv_at hl 1 rfl) ?_
  refine va_get (ci := 11) (v := .ref (a 201)) (C := RX11) (T := TX11) (N := 39) hx hb htA in_X11 hown hK hP 1 rfl rfl 0 (by decide) (htA _ wd_1354) (fun _ h => h) rfl dX11_putsBack_9 ?_
  refine lv_bipush (v := 8) hx hb dX11_putsBack_12 (by decide) ?_
  refine lv_iload_n hx hb dX11_putsBack_14 rfl (lv_at hl 0 rfl) ?_
  refine lv_iadd hx hb dX11_putsBack_15 ?_
  refine lv_topi (fun x65 ex65 => ?_)
  obtain rfl : x65 = 40 := ex65.trans (by decide)
  refine lv_aload_n hx hb dX11_putsBack_16 rfl (lv_at hl 1 rfl) ?_
  refine va_get (ci := 11) (v := .ref (a 208)) (C := RX11) (T := TX11) (N := 39) hx hb htA in_X11 hown hK hP 1 rfl rfl 23 (by decide) (htA _ wd_1377) (fun _ h => h) rfl dX11_putsBack_17 ?_
  refine lv_iload_n hx hb dX11_putsBack_20 rfl (lv_at hl 0 rfl) ?_
  refine va_iald hx hb hK hP 0 0 rfl rfl (in_lit (by decide)) dX11_putsBack_21 ?_
  refine lv_topi (fun x66 ex66 => ?_)
  obtain rfl : x66 = 0 := ex66
  refine va_iast hx hb hK hP hD hS 2 0 rfl rfl (in_lit (by decide)) dX11_putsBack_22 (fun H locs hP hD hS => ?_)
  rw [fa_upd_same (f := upd (upd (fun _ => 0) (1 : Int32).toNatClampNeg 1) (2 : Int32).toNatClampNeg 1) (i := (40 : Int32).toNatClampNeg) (x := 0) (by first | decide | rfl)] at hP hD
  have hP : va_P D vwCl [((a 208), .inl (cy 0, 37, .inl (fun _ => 0))), ((a 200), .inr (11, [.ref (a 201), .ref (a 202), .ref (a 203), .ref (a 204), .int 0, .ref (a 205), .int 0, .int 0, .int 0, .int 0, .int 0, .int 0, .int 0, .int 0, .int 0, .int (-1), .int 0, .int 0, .int 0, .ref (a 206), .ref (a 207), .int 0, .int 0, .ref (a 208), .int 0, .int 0, .int 0, .int 0, .ref (a 209), .ref (a 210), .ref (a 211), .ref (a 212), .ref (a 213), .ref (a 214), .ref (a 215), .int 0, .ref (a 216), .ref (a 217), .ref (a 218)])), ((a 201), .inl (cy 0, 2260, .inl (upd (upd (fun _ => 0) (1 : Int32).toNatClampNeg 1) (2 : Int32).toNatClampNeg 1)))] H := hP
  have hD := va_ca hP hD
  refine lv_iinc (v := 33) (lv' := [(1, .int 33), (0, .ref (a 200))]) hx hb dX11_putsBack_23 hl (k := 0) rfl (by decide) (by decide) rfl (fun ls hl => ?_)
  refine lv_goto (tgt := 2) hx hb dX11_putsBack_26 (by decide) ?_
  refine lv_iload_n hx hb dX11_putsBack_2 rfl (lv_at hl 0 rfl) ?_
  refine lv_bipush (v := 37) hx hb dX11_putsBack_3 (by decide) ?_
  refine lv_icmp_ge (tgt := 29) hx hb dX11_putsBack_5 (by decide) (fun q => absurd q (by decide)) (fun _ => ?_)
  refine lv_aload_n hx hb dX11_putsBack_8 rfl (lv_at hl 1 rfl) ?_
  refine va_get (ci := 11) (v := .ref (a 201)) (C := RX11) (T := TX11) (N := 39) hx hb htA in_X11 hown hK hP 1 rfl rfl 0 (by decide) (htA _ wd_1354) (fun _ h => h) rfl dX11_putsBack_9 ?_
  refine lv_bipush (v := 8) hx hb dX11_putsBack_12 (by decide) ?_
  refine lv_iload_n hx hb dX11_putsBack_14 rfl (lv_at hl 0 rfl) ?_
  refine lv_iadd hx hb dX11_putsBack_15 ?_
  refine lv_topi (fun x67 ex67 => ?_)
  obtain rfl : x67 = 41 := ex67.trans (by decide)
  refine lv_aload_n hx hb dX11_putsBack_16 rfl (lv_at hl 1 rfl) ?_
  refine va_get (ci := 11) (v := .ref (a 208)) (C := RX11) (T := TX11) (N := 39) hx hb htA in_X11 hown hK hP 1 rfl rfl 23 (by decide) (htA _ wd_1377) (fun _ h => h) rfl dX11_putsBack_17 ?_
  refine lv_iload_n hx hb dX11_putsBack_20 rfl (lv_at hl 0 rfl) ?_
  refine va_iald hx hb hK hP 0 0 rfl rfl (in_lit (by decide)) dX11_putsBack_21 ?_
  refine lv_topi (fun x68 ex68 => ?_)
  obtain rfl : x68 = 0 := ex68
  refine va_iast hx hb hK hP hD hS 2 0 rfl rfl (in_lit (by decide)) dX11_putsBack_22 (fun H locs hP hD hS => ?_)
  rw [fa_upd_same (f := upd (upd (fun _ => 0) (1 : Int32).toNatClampNeg 1) (2 : Int32).toNatClampNeg 1) (i := (41 : Int32).toNatClampNeg) (x := 0) (by first | decide | rfl)] at hP hD
  have hP : va_P D vwCl [((a 208), .inl (cy 0, 37, .inl (fun _ => 0))), ((a 200), .inr (11, [.ref (a 201), .ref (a 202), .ref (a 203), .ref (a 204), .int 0, .ref (a 205), .int 0, .int 0, .int 0, .int 0, .int 0, .int 0, .int 0, .int 0, .int 0, .int (-1), .int 0, .int 0, .int 0, .ref (a 206), .ref (a 207), .int 0, .int 0, .ref (a 208), .int 0, .int 0, .int 0, .int 0, .ref (a 209), .ref (a 210), .ref (a 211), .ref (a 212), .ref (a 213), .ref (a 214), .ref (a 215), .int 0, .ref (a 216), .ref (a 217), .ref (a 218)])), ((a 201), .inl (cy 0, 2260, .inl (upd (upd (fun _ => 0) (1 : Int32).toNatClampNeg 1) (2 : Int32).toNatClampNeg 1)))] H := hP
  have hD := va_ca hP hD
  refine lv_iinc (v := 34) (lv' := [(1, .int 34), (0, .ref (a 200))]) hx hb dX11_putsBack_23 hl (k := 0) rfl (by decide) (by decide) rfl (fun ls hl => ?_)
  refine lv_goto (tgt := 2) hx hb dX11_putsBack_26 (by decide) ?_
  refine lv_iload_n hx hb dX11_putsBack_2 rfl (lv_at hl 0 rfl) ?_
  refine lv_bipush (v := 37) hx hb dX11_putsBack_3 (by decide) ?_
  refine lv_icmp_ge (tgt := 29) hx hb dX11_putsBack_5 (by decide) (fun q => absurd q (by decide)) (fun _ => ?_)
  refine lv_aload_n hx hb dX11_putsBack_8 rfl (lv_at hl 1 rfl) ?_
  refine va_get (ci := 11) (v := .ref (a 201)) (C := RX11) (T := TX11) (N := 39) hx hb htA in_X11 hown hK hP 1 rfl rfl 0 (by decide) (htA _ wd_1354) (fun _ h => h) rfl dX11_putsBack_9 ?_
  refine lv_bipush (v := 8) hx hb dX11_putsBack_12 (by decide) ?_
  refine lv_iload_n hx hb dX11_putsBack_14 rfl (lv_at hl 0 rfl) ?_
  refine lv_iadd hx hb dX11_putsBack_15 ?_
  refine lv_topi (fun x69 ex69 => ?_)
  obtain rfl : x69 = 42 := ex69.trans (by decide)
  refine lv_aload_n hx hb dX11_putsBack_16 rfl (lv_at hl 1 rfl) ?_
  refine va_get (ci := 11) (v := .ref (a 208)) (C := RX11) (T := TX11) (N := 39) hx hb htA in_X11 hown hK hP 1 rfl rfl 23 (by decide) (htA _ wd_1377) (fun _ h => h) rfl dX11_putsBack_17 ?_
  refine lv_iload_n hx hb dX11_putsBack_20 rfl (lv_at hl 0 rfl) ?_
  refine va_iald hx hb hK hP 0 0 rfl rfl (in_lit (by decide)) dX11_putsBack_21 ?_
  refine lv_topi (fun x70 ex70 => ?_)
  obtain rfl : x70 = 0 := ex70
  refine va_iast hx hb hK hP hD hS 2 0 rfl rfl (in_lit (by decide)) dX11_putsBack_22 (fun H locs hP hD hS => ?_)
  rw [fa_upd_same (f := upd (upd (fun _ => 0) (1 : Int32).toNatClampNeg 1) (2 : Int32).toNatClampNeg 1) (i := (42 : Int32).toNatClampNeg) (x := 0) (by first | decide | rfl)] at hP hD
  have hP : va_P D vwCl [((a 208), .inl (cy 0, 37, .inl (fun _ => 0))), ((a 200), .inr (11, [.ref (a 201), .ref (a 202), .ref (a 203), .ref (a 204), .int 0, .ref (a 205), .int 0, .int 0, .int 0, .int 0, .int 0, .int 0, .int 0, .int 0, .int 0, .int (-1), .int 0, .int 0, .int 0, .ref (a 206), .ref (a 207), .int 0, .int 0, .ref (a 208), .int 0, .int 0, .int 0, .int 0, .ref (a 209), .ref (a 210), .ref (a 211), .ref (a 212), .ref (a 213), .ref (a 214), .ref (a 215), .int 0, .ref (a 216), .ref (a 217), .ref (a 218)])), ((a 201), .inl (cy 0, 2260, .inl (upd (upd (fun _ => 0) (1 : Int32).toNatClampNeg 1) (2 : Int32).toNatClampNeg 1)))] H := hP
  have hD := va_ca hP hD
  refine lv_iinc (v := 35) (lv' := [(1, .int 35), (0, .ref (a 200))]) hx hb dX11_putsBack_23 hl (k := 0) rfl (by decide) (by decide) rfl (fun ls hl => ?_)
  refine lv_goto (tgt := 2) hx hb dX11_putsBack_26 (by decide) ?_
  refine lv_iload_n hx hb dX11_putsBack_2 rfl (lv_at hl 0 rfl) ?_
  refine lv_bipush (v := 37) hx hb dX11_putsBack_3 (by decide) ?_
  refine lv_icmp_ge (tgt := 29) hx hb dX11_putsBack_5 (by decide) (fun q => absurd q (by decide)) (fun _ => ?_)
  refine lv_aload_n hx hb dX11_putsBack_8 rfl (lv_at hl 1 rfl) ?_
  refine va_get (ci := 11) (v := .ref (a 201)) (C := RX11) (T := TX11) (N := 39) hx hb htA in_X11 hown hK hP 1 rfl rfl 0 (by decide) (htA _ wd_1354) (fun _ h => h) rfl dX11_putsBack_9 ?_
  refine lv_bipush (v := 8) hx hb dX11_putsBack_12 (by decide) ?_
  refine lv_iload_n hx hb dX11_putsBack_14 rfl (lv_at hl 0 rfl) ?_
  refine lv_iadd hx hb dX11_putsBack_15 ?_
  refine lv_topi (fun x71 ex71 => ?_)
  obtain rfl : x71 = 43 := ex71.trans (by decide)
  refine lv_aload_n hx hb dX11_putsBack_16 rfl (lv_at hl 1 rfl) ?_
  refine va_get (ci := 11) (v := .ref (a 208)) (C := RX11) (T := TX11) (N := 39) hx hb htA in_X11 hown hK hP 1 rfl rfl 23 (by decide) (htA _ wd_1377) (fun _ h => h) rfl dX11_putsBack_17 ?_
  refine lv_iload_n hx hb dX11_putsBack_20 rfl (lv_at hl 0 rfl) ?_
  refine va_iald hx hb hK hP 0 0 rfl rfl (in_lit (by decide)) dX11_putsBack_21 ?_
  refine lv_topi (fun x72 ex72 => ?_)
  obtain rfl : x72 = 0 := ex72
  refine va_iast hx hb hK hP hD hS 2 0 rfl rfl (in_lit (by decide)) dX11_putsBack_22 (fun H locs hP hD hS => ?_)
  rw [fa_upd_same (f := upd (upd (fun _ => 0) (1 : Int32).toNatClampNeg 1) (2 : Int32).toNatClampNeg 1) (i := (43 : Int32).toNatClampNeg) (x := 0) (by first | decide | rfl)] at hP hD
  have hP : va_P D vwCl [((a 208), .inl (cy 0, 37, .inl (fun _ => 0))), ((a 200), .inr (11, [.ref (a 201), .ref (a 202), .ref (a 203), .ref (a 204), .int 0, .ref (a 205), .int 0, .int 0, .int 0, .int 0, .int 0, .int 0, .int 0, .int 0, .int 0, .int (-1), .int 0, .int 0, .int 0, .ref (a 206), .ref (a 207), .int 0, .int 0, .ref (a 208), .int 0, .int 0, .int 0, .int 0, .ref (a 209), .ref (a 210), .ref (a 211), .ref (a 212), .ref (a 213), .ref (a 214), .ref (a 215), .int 0, .ref (a 216), .ref (a 217), .ref (a 218)])), ((a 201), .inl (cy 0, 2260, .inl (upd (upd (fun _ => 0) (1 : Int32).toNatClampNeg 1) (2 : Int32).toNatClampNeg 1)))] H := hP
  have hD := va_ca hP hD
  refine lv_iinc (v := 36) (lv' := [(1, .int 36), (0, .ref (a 200))]) hx hb dX11_putsBack_23 hl (k := 0) rfl (by decide) (by decide) rfl (fun ls hl => ?_)
  refine lv_goto (tgt := 2) hx hb dX11_putsBack_26 (by decide) ?_
  refine lv_iload_n hx hb dX11_putsBack_2 rfl (lv_at hl 0 rfl) ?_
  refine lv_bipush (v := 37) hx hb dX11_putsBack_3 (by decide) ?_
  refine lv_icmp_ge (tgt := 29) hx hb dX11_putsBack_5 (by decide) (fun q => absurd q (by decide)) (fun _ => ?_)
  refine lv_aload_n hx hb dX11_putsBack_8 rfl (lv_at hl 1 rfl) ?_
  refine va_get (ci := 11) (v := .ref (a 201)) (C := RX11) (T := TX11) (N := 39) hx hb htA in_X11 hown hK hP 1 rfl rfl 0 (by decide) (htA _ wd_1354) (fun _ h => h) rfl dX11_putsBack_9 ?_
  refine lv_bipush (v := 8) hx hb dX11_putsBack_12 (by decide) ?_
  refine lv_iload_n hx hb dX11_putsBack_14 rfl (lv_at hl 0 rfl) ?_
  refine lv_iadd hx hb dX11_putsBack_15 ?_
  refine lv_topi (fun x73 ex73 => ?_)
  obtain rfl : x73 = 44 := ex73.trans (by decide)
  refine lv_aload_n hx hb dX11_putsBack_16 rfl (lv_at hl 1 rfl) ?_
  refine va_get (ci := 11) (v := .ref (a 208)) (C := RX11) (T := TX11) (N := 39) hx hb htA in_X11 hown hK hP 1 rfl rfl 23 (by decide) (htA _ wd_1377) (fun _ h => h) rfl dX11_putsBack_17 ?_
  refine lv_iload_n hx hb dX11_putsBack_20 rfl (lv_at hl 0 rfl) ?_
  refine va_iald hx hb hK hP 0 0 rfl rfl (in_lit (by decide)) dX11_putsBack_21 ?_
  refine lv_topi (fun x74 ex74 => ?_)
  obtain rfl : x74 = 0 := ex74
  refine va_iast hx hb hK hP hD hS 2 0 rfl rfl (in_lit (by decide)) dX11_putsBack_22 (fun H locs hP hD hS => ?_)
  rw [fa_upd_same (f := upd (upd (fun _ => 0) (1 : Int32).toNatClampNeg 1) (2 : Int32).toNatClampNeg 1) (i := (44 : Int32).toNatClampNeg) (x := 0) (by first | decide | rfl)] at hP hD
  have hP : va_P D vwCl [((a 208), .inl (cy 0, 37, .inl (fun _ => 0))), ((a 200), .inr (11, [.ref (a 201), .ref (a 202), .ref (a 203), .ref (a 204), .int 0, .ref (a 205), .int 0, .int 0, .int 0, .int 0, .int 0, .int 0, .int 0, .int 0, .int 0, .int (-1), .int 0, .int 0, .int 0, .ref (a 206), .ref (a 207), .int 0, .int 0, .ref (a 208), .int 0, .int 0, .int 0, .int 0, .ref (a 209), .ref (a 210), .ref (a 211), .ref (a 212), .ref (a 213), .ref (a 214), .ref (a 215), .int 0, .ref (a 216), .ref (a 217), .ref (a 218)])), ((a 201), .inl (cy 0, 2260, .inl (upd (upd (fun _ => 0) (1 : Int32).toNatClampNeg 1) (2 : Int32).toNatClampNeg 1)))] H := hP
  have hD := va_ca hP hD
  refine lv_iinc (v := 37) (lv' := [(1, .int 37), (0, .ref (a 200))]) hx hb dX11_putsBack_23 hl (k := 0) rfl (by decide) (by decide) rfl (fun ls hl => ?_)
  refine lv_goto (tgt := 2) hx hb dX11_putsBack_26 (by decide) ?_
  refine lv_iload_n hx hb dX11_putsBack_2 rfl (lv_at hl 0 rfl) ?_
  refine lv_bipush (v := 37) hx hb dX11_putsBack_3 (by decide) ?_
  refine lv_icmp_ge (tgt := 29) hx hb dX11_putsBack_5 (by decide) (fun _ => ?_) (fun q => absurd (by decide) q)
  exact rV hX hE hP hD hS dX11_putsBack_29 (by decide) (by decide) (rfl)
set_option maxHeartbeats 4000000 in
set_option maxRecDepth 100000 in
theorem au_X11_things_106 (l : Launch) (D : va_G) (cy : Nat → ClassId) (a : Nat → Nat) : Ci l yX11_things cX11_things 1 (some .int) { frames := 0, cells := 0, slots := 0, locals := 0 } D cy [.ref (a 200)] [((a 200), .inr (11, [.ref (a 201), .ref (a 202), .ref (a 203), .ref (a 204), .int 0, .ref (a 205), .int 0, .int 0, .int 0, .int 0, .int 0, .int 0, .int 0, .int 0, .int 0, .int (-1), .int 0, .int 0, .int 0, .ref (a 206), .ref (a 207), .int 0, .int 0, .ref (a 208), .int 0, .int 0, .int 0, .int 0, .ref (a 209), .ref (a 210), .ref (a 211), .ref (a 212), .ref (a 213), .ref (a 214), .ref (a 215), .int 0, .ref (a 216), .ref (a 217), .ref (a 218)])), ((a 201), .inl (cy 0, 2260, .inl (upd (upd (upd (fun _ => 0) (1 : Int32).toNatClampNeg 1) (2 : Int32).toNatClampNeg 1) (40 : Int32).toNatClampNeg 536870912)))] (fun r W1 => (W1 = [((a 200), .inr (11, [.ref (a 201), .ref (a 202), .ref (a 203), .ref (a 204), .int 0, .ref (a 205), .int 0, .int 0, .int 0, .int 0, .int 0, .int 0, .int 0, .int 0, .int 0, .int (-1), .int 0, .int 0, .int 0, .ref (a 206), .ref (a 207), .int 0, .int 0, .ref (a 208), .int 0, .int 0, .int 0, .int 0, .ref (a 209), .ref (a 210), .ref (a 211), .ref (a 212), .ref (a 213), .ref (a 214), .ref (a 215), .int 0, .ref (a 216), .ref (a 217), .ref (a 218)])), ((a 201), .inl (cy 0, 2260, .inl (upd (upd (upd (fun _ => 0) (1 : Int32).toNatClampNeg 1) (2 : Int32).toNatClampNeg 1) (40 : Int32).toNatClampNeg 536870912)))] ∧ r = 0)) := by
  refine Ci.of (by decide) (Nat.le_of_ble_eq_true rfl) ?_
  intro p e s m below meth c A ls hX hE hP hD hl
  obtain ⟨hx, hb, hr, hml, hown, htA, hlk⟩ := id hX
  have hK := hE.1
  have hS : va_S A s.heap s.heap [] := va_S.rf
  have hl : lv_has ls 1 [(0, .ref (a 200))] := hl
  refine lv_aload_n hx hb dX11_things_0 rfl (lv_at hl 0 rfl) ?_
  refine va_get (ci := 11) (v := .ref (a 201)) (C := RX11) (T := TX11) (N := 39) hx hb htA in_X11 hown hK hP 0 rfl rfl 0 (by decide) (htA _ wd_1354) (fun _ h => h) rfl dX11_things_1 ?_
  refine lv_iconst (v := 3) hx hb dX11_things_4 (by decide) ?_
  refine va_iald hx hb hK hP 1 0 rfl rfl (in_lit (by decide)) dX11_things_5 ?_
  refine lv_topi (fun x1 ex1 => ?_)
  obtain rfl : x1 = 0 := ex1.trans (by first | decide | rfl)
  exact rI hX hE hP hD hS dX11_things_6 (by decide) (by decide) (⟨rfl, rfl⟩)
set_option maxHeartbeats 4000000 in
set_option maxRecDepth 100000 in
theorem au_X11_fallAll_107 (l : Launch) (D : va_G) (cy : Nat → ClassId) (a : Nat → Nat) : Cv l yX11_fallAll cX11_fallAll 5 none { frames := 1, cells := 0, slots := 0, locals := 27 } D cy [.ref (a 200), .int 0] [((a 200), .inr (11, [.ref (a 201), .ref (a 202), .ref (a 203), .ref (a 204), .int 0, .ref (a 205), .int 0, .int 0, .int 0, .int 0, .int 0, .int 0, .int 0, .int 0, .int 0, .int (-1), .int 0, .int 0, .int 0, .ref (a 206), .ref (a 207), .int 0, .int 0, .ref (a 208), .int 0, .int 0, .int 0, .int 0, .ref (a 209), .ref (a 210), .ref (a 211), .ref (a 212), .ref (a 213), .ref (a 214), .ref (a 215), .int 0, .ref (a 216), .ref (a 217), .ref (a 218)])), ((a 201), .inl (cy 0, 2260, .inl (upd (upd (upd (fun _ => 0) (1 : Int32).toNatClampNeg 1) (2 : Int32).toNatClampNeg 1) (40 : Int32).toNatClampNeg 536870912)))] (fun W1 => (W1 = [((a 201), .inl (cy 0, 2260, .inl (upd (upd (upd (fun _ => 0) (1 : Int32).toNatClampNeg 1) (2 : Int32).toNatClampNeg 1) (40 : Int32).toNatClampNeg 536870912))), ((a 200), .inr (11, [.ref (a 201), .ref (a 202), .ref (a 203), .ref (a 204), .int 0, .ref (a 205), .int 0, .int 0, .int 0, .int 0, .int 0, .int 0, .int 0, .int 0, .int 0, .int (-1), .int 0, .int 0, .int 0, .ref (a 206), .ref (a 207), .int 0, .int 0, .ref (a 208), .int 0, .int 0, .int 0, .int 0, .ref (a 209), .ref (a 210), .ref (a 211), .ref (a 212), .ref (a 213), .ref (a 214), .ref (a 215), .int 0, .ref (a 216), .ref (a 217), .ref (a 218)]))])) := by
  refine Cv.of (by decide) (Nat.le_of_ble_eq_true rfl) ?_
  intro p e s m below meth c A ls hX hE hP hD hl hin
  obtain ⟨hx, hb, hr, hml, hown, htA, hlk⟩ := id hX
  have hK := hE.1
  have hS : va_S A s.heap s.heap [] := va_S.rf
  have hl : lv_has ls 5 [(0, .ref (a 200)), (1, .int 0)] := hl
  refine lv_iconst (v := 0) hx hb dX11_fallAll_0 (by decide) ?_
  refine lv_istore_n (lv' := [(2, .int 0), (0, .ref (a 200)), (1, .int 0)]) hx hb dX11_fallAll_1 rfl hl (by decide) rfl (fun ls hl => ?_)
  refine lv_iload_n hx hb dX11_fallAll_2 rfl (lv_at hl 0 rfl) ?_
  refine lv_aload_n hx hb dX11_fallAll_3 rfl (lv_at hl 1 rfl) ?_
  refine va_get (ci := 11) (v := .ref (a 201)) (C := RX11) (T := TX11) (N := 39) hx hb htA in_X11 hown hK hP 0 rfl rfl 0 (by decide) (htA _ wd_1354) (fun _ h => h) rfl dX11_fallAll_4 ?_
  refine lv_iconst (v := 1) hx hb dX11_fallAll_7 (by decide) ?_
  refine va_iald hx hb hK hP 1 0 rfl rfl (in_lit (by decide)) dX11_fallAll_8 ?_
  refine lv_topi (fun x1 ex1 => ?_)
  obtain rfl : x1 = 1 := ex1.trans (by first | decide | rfl)
  refine lv_icmp_ge (tgt := 89) hx hb dX11_fallAll_9 (by decide) (fun q => absurd q (by decide)) (fun _ => ?_)
  refine lv_iconst (v := 0) hx hb dX11_fallAll_12 (by decide) ?_
  refine lv_istore_n (lv' := [(3, .int 0), (2, .int 0), (0, .ref (a 200)), (1, .int 0)]) hx hb dX11_fallAll_13 rfl hl (by decide) rfl (fun ls hl => ?_)
  refine lv_iconst (v := 0) hx hb dX11_fallAll_14 (by decide) ?_
  refine lv_istore (lv' := [(4, .int 0), (3, .int 0), (2, .int 0), (0, .ref (a 200)), (1, .int 0)]) hx hb dX11_fallAll_15 hl (by decide) rfl (fun ls hl => ?_)
  refine lv_iload hx hb dX11_fallAll_17 (lv_at hl 0 rfl) ?_
  refine lv_aload_n hx hb dX11_fallAll_19 rfl (lv_at hl 3 rfl) ?_
  refine kVi (As := []) (rest := [.int 0]) (wr := []) hX hE (au_X11_things_106 l D cy a) (cwVA 0 htA wd_1649 wd_1646 wd_10 wd_1648 wp_71 (by decide +kernel) ⟨by decide, by decide⟩) hP hD hS [0, 1] [] rfl rfl (by decide +kernel) 0 rfl rfl rfl rfl hl.1 rfl (Nat.le_of_ble_eq_true rfl) dX11_fallAll_20 (by decide) (fun r_ W1 H locs hw hP hD hS => ?_)
  refine W.widen (k := 0) (n := 0) (by decide) (by decide) ?_
  obtain ⟨rfl, rfl⟩ := hw
  have hP : va_P D vwCl [((a 200), .inr (11, [.ref (a 201), .ref (a 202), .ref (a 203), .ref (a 204), .int 0, .ref (a 205), .int 0, .int 0, .int 0, .int 0, .int 0, .int 0, .int 0, .int 0, .int 0, .int (-1), .int 0, .int 0, .int 0, .ref (a 206), .ref (a 207), .int 0, .int 0, .ref (a 208), .int 0, .int 0, .int 0, .int 0, .ref (a 209), .ref (a 210), .ref (a 211), .ref (a 212), .ref (a 213), .ref (a 214), .ref (a 215), .int 0, .ref (a 216), .ref (a 217), .ref (a 218)])), ((a 201), .inl (cy 0, 2260, .inl (upd (upd (upd (fun _ => 0) (1 : Int32).toNatClampNeg 1) (2 : Int32).toNatClampNeg 1) (40 : Int32).toNatClampNeg 536870912)))] H := hP
  have hD := va_ca hP hD
  refine lv_icmp_ge (tgt := 77) hx hb dX11_fallAll_23 (by decide) (fun _ => ?_) (fun q => absurd (by decide) q)
  refine lv_aload_n hx hb dX11_fallAll_77 rfl (lv_at hl 3 rfl) ?_
  refine lv_iload_n hx hb dX11_fallAll_78 rfl (lv_at hl 2 rfl) ?_
  refine lv_iload_n hx hb dX11_fallAll_79 rfl (lv_at hl 1 rfl) ?_
  refine kVv (As := [.int 0, .int 0]) (rest := []) (wr := [((a 201), .inl (cy 0, 2260, .inl (upd (upd (upd (fun _ => 0) (1 : Int32).toNatClampNeg 1) (2 : Int32).toNatClampNeg 1) (40 : Int32).toNatClampNeg 536870912)))]) hX hE (au_X11_drops_92 l D cy a) (cwVA 2 htA wd_1744 wd_1741 wd_10 wd_1743 wp_84 (by decide +kernel) ⟨by decide, by decide⟩) hP hD hS [0] [1] rfl rfl (by decide +kernel) 0 rfl rfl rfl rfl hl.1 rfl (Nat.le_of_ble_eq_true rfl) dX11_fallAll_80 (by decide) (fun W1 H locs hw hP hD hS => ?_)
  refine W.widen (k := 0) (n := 0) (by decide) (by decide) ?_
  obtain rfl := hw
  have hP : va_P D vwCl [((a 201), .inl (cy 0, 2260, .inl (upd (upd (upd (fun _ => 0) (1 : Int32).toNatClampNeg 1) (2 : Int32).toNatClampNeg 1) (40 : Int32).toNatClampNeg 536870912))), ((a 200), .inr (11, [.ref (a 201), .ref (a 202), .ref (a 203), .ref (a 204), .int 0, .ref (a 205), .int 0, .int 0, .int 0, .int 0, .int 0, .int 0, .int 0, .int 0, .int 0, .int (-1), .int 0, .int 0, .int 0, .ref (a 206), .ref (a 207), .int 0, .int 0, .ref (a 208), .int 0, .int 0, .int 0, .int 0, .ref (a 209), .ref (a 210), .ref (a 211), .ref (a 212), .ref (a 213), .ref (a 214), .ref (a 215), .int 0, .ref (a 216), .ref (a 217), .ref (a 218)]))] H := hP
  have hD := va_ca hP hD
  refine lv_iinc (v := 1) (lv' := [(2, .int 1), (4, .int 0), (3, .int 0), (0, .ref (a 200)), (1, .int 0)]) hx hb dX11_fallAll_83 hl (k := 2) rfl (by decide) (by decide) rfl (fun ls hl => ?_)
  refine lv_goto (tgt := 2) hx hb dX11_fallAll_86 (by decide) ?_
  refine lv_iload_n hx hb dX11_fallAll_2 rfl (lv_at hl 0 rfl) ?_
  refine lv_aload_n hx hb dX11_fallAll_3 rfl (lv_at hl 3 rfl) ?_
  refine va_get (ci := 11) (v := .ref (a 201)) (C := RX11) (T := TX11) (N := 39) hx hb htA in_X11 hown hK hP 1 rfl rfl 0 (by decide) (htA _ wd_1354) (fun _ h => h) rfl dX11_fallAll_4 ?_
  refine lv_iconst (v := 1) hx hb dX11_fallAll_7 (by decide) ?_
  refine va_iald hx hb hK hP 0 0 rfl rfl (in_lit (by decide)) dX11_fallAll_8 ?_
  refine lv_topi (fun x2 ex2 => ?_)
  obtain rfl : x2 = 1 := ex2.trans (by first | decide | rfl)
  refine lv_icmp_ge (tgt := 89) hx hb dX11_fallAll_9 (by decide) (fun _ => ?_) (fun q => absurd (by decide) q)
  exact rV hX hE hP hD hS dX11_fallAll_89 (by decide) (by decide) (rfl)
set_option maxHeartbeats 4000000 in
set_option maxRecDepth 100000 in
theorem au_X11_goesTo_108 (l : Launch) (D : va_G) (cy : Nat → ClassId) (a : Nat → Nat) : Cv l yX11_goesTo cX11_goesTo 2 none { frames := 2, cells := 0, slots := 0, locals := 51 } D cy [.ref (a 200), .int 536870912] [((a 200), .inr (11, [.ref (a 201), .ref (a 202), .ref (a 203), .ref (a 204), .int 0, .ref (a 205), .int 0, .int 0, .int 0, .int 0, .int 0, .int 0, .int 0, .int 0, .int 0, .int (-1), .int 0, .int 0, .int 0, .ref (a 206), .ref (a 207), .int 0, .int 0, .ref (a 208), .int 0, .int 0, .int 0, .int 0, .ref (a 209), .ref (a 210), .ref (a 211), .ref (a 212), .ref (a 213), .ref (a 214), .ref (a 215), .int 0, .ref (a 216), .ref (a 217), .ref (a 218)])), ((a 201), .inl (cy 0, 2260, .inl (upd (upd (fun _ => 0) (1 : Int32).toNatClampNeg 1) (2 : Int32).toNatClampNeg 1)))] (fun W1 => (W1 = [((a 201), .inl (cy 0, 2260, .inl (upd (upd (upd (fun _ => 0) (1 : Int32).toNatClampNeg 1) (2 : Int32).toNatClampNeg 1) (40 : Int32).toNatClampNeg 536870912))), ((a 200), .inr (11, [.ref (a 201), .ref (a 202), .ref (a 203), .ref (a 204), .int 0, .ref (a 205), .int 0, .int 0, .int 0, .int 0, .int 0, .int 0, .int 0, .int 0, .int 0, .int (-1), .int 0, .int 0, .int 0, .ref (a 206), .ref (a 207), .int 0, .int 0, .ref (a 208), .int 0, .int 0, .int 0, .int 0, .ref (a 209), .ref (a 210), .ref (a 211), .ref (a 212), .ref (a 213), .ref (a 214), .ref (a 215), .int 0, .ref (a 216), .ref (a 217), .ref (a 218)]))])) := by
  refine Cv.of (by decide) (Nat.le_of_ble_eq_true rfl) ?_
  intro p e s m below meth c A ls hX hE hP hD hl hin
  obtain ⟨hx, hb, hr, hml, hown, htA, hlk⟩ := id hX
  have hK := hE.1
  have hS : va_S A s.heap s.heap [] := va_S.rf
  have hl : lv_has ls 2 [(0, .ref (a 200)), (1, .int 536870912)] := hl
  refine lv_aload_n hx hb dX11_goesTo_0 rfl (lv_at hl 0 rfl) ?_
  refine va_get (ci := 11) (v := .ref (a 201)) (C := RX11) (T := TX11) (N := 39) hx hb htA in_X11 hown hK hP 0 rfl rfl 0 (by decide) (htA _ wd_1354) (fun _ h => h) rfl dX11_goesTo_1 ?_
  refine lv_bipush (v := 40) hx hb dX11_goesTo_4 (by decide) ?_
  refine lv_iload_n hx hb dX11_goesTo_6 rfl (lv_at hl 1 rfl) ?_
  refine va_iast hx hb hK hP hD hS 1 0 rfl rfl (in_lit (by decide)) dX11_goesTo_7 (fun H locs hP hD hS => ?_)
  have hP : va_P D vwCl [((a 200), .inr (11, [.ref (a 201), .ref (a 202), .ref (a 203), .ref (a 204), .int 0, .ref (a 205), .int 0, .int 0, .int 0, .int 0, .int 0, .int 0, .int 0, .int 0, .int 0, .int (-1), .int 0, .int 0, .int 0, .ref (a 206), .ref (a 207), .int 0, .int 0, .ref (a 208), .int 0, .int 0, .int 0, .int 0, .ref (a 209), .ref (a 210), .ref (a 211), .ref (a 212), .ref (a 213), .ref (a 214), .ref (a 215), .int 0, .ref (a 216), .ref (a 217), .ref (a 218)])), ((a 201), .inl (cy 0, 2260, .inl (upd (upd (upd (fun _ => 0) (1 : Int32).toNatClampNeg 1) (2 : Int32).toNatClampNeg 1) (40 : Int32).toNatClampNeg 536870912)))] H := hP
  have hD := va_ca hP hD
  refine lv_aload_n hx hb dX11_goesTo_8 rfl (lv_at hl 0 rfl) ?_
  refine lv_iconst (v := 0) hx hb dX11_goesTo_9 (by decide) ?_
  refine va_put (ci := 11) (v := .int 0) (ty := .int) (C := RX11) (T := TX11) (N := 39) hx hb htA in_X11 tyX11 tyX11_ok nmX11 hown hK hP hD hS 0 rfl rfl 21 (by decide) (htA _ wd_1375) (fun _ h => h) rfl (by decide +kernel) rfl rfl (Nat.le_of_ble_eq_true rfl) dX11_goesTo_10 (fun H locs hP hD hS => ?_)
  have hP : va_P D vwCl [((a 200), .inr (11, [.ref (a 201), .ref (a 202), .ref (a 203), .ref (a 204), .int 0, .ref (a 205), .int 0, .int 0, .int 0, .int 0, .int 0, .int 0, .int 0, .int 0, .int 0, .int (-1), .int 0, .int 0, .int 0, .ref (a 206), .ref (a 207), .int 0, .int 0, .ref (a 208), .int 0, .int 0, .int 0, .int 0, .ref (a 209), .ref (a 210), .ref (a 211), .ref (a 212), .ref (a 213), .ref (a 214), .ref (a 215), .int 0, .ref (a 216), .ref (a 217), .ref (a 218)])), ((a 201), .inl (cy 0, 2260, .inl (upd (upd (upd (fun _ => 0) (1 : Int32).toNatClampNeg 1) (2 : Int32).toNatClampNeg 1) (40 : Int32).toNatClampNeg 536870912)))] H := hP
  have hD := va_ca hP hD
  refine lv_aload_n hx hb dX11_goesTo_13 rfl (lv_at hl 0 rfl) ?_
  refine lv_iconst (v := 0) hx hb dX11_goesTo_14 (by decide) ?_
  refine va_put (ci := 11) (v := .int 0) (ty := .int) (C := RX11) (T := TX11) (N := 39) hx hb htA in_X11 tyX11 tyX11_ok nmX11 hown hK hP hD hS 0 rfl rfl 22 (by decide) (htA _ wd_1376) (fun _ h => h) rfl (by decide +kernel) rfl rfl (Nat.le_of_ble_eq_true rfl) dX11_goesTo_15 (fun H locs hP hD hS => ?_)
  have hP : va_P D vwCl [((a 200), .inr (11, [.ref (a 201), .ref (a 202), .ref (a 203), .ref (a 204), .int 0, .ref (a 205), .int 0, .int 0, .int 0, .int 0, .int 0, .int 0, .int 0, .int 0, .int 0, .int (-1), .int 0, .int 0, .int 0, .ref (a 206), .ref (a 207), .int 0, .int 0, .ref (a 208), .int 0, .int 0, .int 0, .int 0, .ref (a 209), .ref (a 210), .ref (a 211), .ref (a 212), .ref (a 213), .ref (a 214), .ref (a 215), .int 0, .ref (a 216), .ref (a 217), .ref (a 218)])), ((a 201), .inl (cy 0, 2260, .inl (upd (upd (upd (fun _ => 0) (1 : Int32).toNatClampNeg 1) (2 : Int32).toNatClampNeg 1) (40 : Int32).toNatClampNeg 536870912)))] H := hP
  have hD := va_ca hP hD
  refine lv_aload_n hx hb dX11_goesTo_18 rfl (lv_at hl 0 rfl) ?_
  refine lv_iconst (v := 0) hx hb dX11_goesTo_19 (by decide) ?_
  refine kVv (As := [.int 0]) (rest := []) (wr := []) hX hE (au_X11_fallAll_107 l D cy a) (cwVA 1 htA wd_1790 wd_1787 wd_10 wd_1789 wp_92 (by decide +kernel) ⟨by decide, by decide⟩) hP hD hS [0, 1] [] rfl rfl (by decide +kernel) 0 rfl rfl rfl rfl hl.1 rfl (Nat.le_of_ble_eq_true rfl) dX11_goesTo_20 (by decide) (fun W1 H locs hw hP hD hS => ?_)
  refine W.widen (k := 0) (n := 0) (by decide) (by decide) ?_
  obtain rfl := hw
  have hP : va_P D vwCl [((a 201), .inl (cy 0, 2260, .inl (upd (upd (upd (fun _ => 0) (1 : Int32).toNatClampNeg 1) (2 : Int32).toNatClampNeg 1) (40 : Int32).toNatClampNeg 536870912))), ((a 200), .inr (11, [.ref (a 201), .ref (a 202), .ref (a 203), .ref (a 204), .int 0, .ref (a 205), .int 0, .int 0, .int 0, .int 0, .int 0, .int 0, .int 0, .int 0, .int 0, .int (-1), .int 0, .int 0, .int 0, .ref (a 206), .ref (a 207), .int 0, .int 0, .ref (a 208), .int 0, .int 0, .int 0, .int 0, .ref (a 209), .ref (a 210), .ref (a 211), .ref (a 212), .ref (a 213), .ref (a 214), .ref (a 215), .int 0, .ref (a 216), .ref (a 217), .ref (a 218)]))] H := hP
  have hD := va_ca hP hD
  exact rV hX hE hP hD hS dX11_goesTo_23 (by decide) (by decide) (rfl)
set_option maxHeartbeats 4000000 in
set_option maxRecDepth 100000 in
theorem au_X11_nextFall_109 (l : Launch) (D : va_G) (cy : Nat → ClassId) (a : Nat → Nat) (v1_ : Int32) : Ci l yX11_nextFall cX11_nextFall 3 (some .boolean) { frames := 3, cells := 0, slots := 0, locals := 72 } D cy [.ref (a 200), .int v1_] [((a 200), .inr (11, [.ref (a 201), .ref (a 202), .ref (a 203), .ref (a 204), .int 0, .ref (a 205), .int 0, .int 0, .int 0, .int 0, .int 0, .int 0, .int 0, .int 0, .int 0, .int (-1), .int 0, .int 0, .int 0, .ref (a 206), .ref (a 207), .int 0, .int 0, .ref (a 208), .int 0, .int 0, .int 0, .int 0, .ref (a 209), .ref (a 210), .ref (a 211), .ref (a 212), .ref (a 213), .ref (a 214), .ref (a 215), .int 0, .ref (a 216), .ref (a 217), .ref (a 218)])), ((a 201), .inl (cy 0, 2260, .inl (upd (upd (fun _ => 0) (1 : Int32).toNatClampNeg 1) (2 : Int32).toNatClampNeg 1)))] (fun r W1 => ((536870912 ≤ v1_) ∧ W1 = [((a 201), .inl (cy 0, 2260, .inl (upd (upd (upd (fun _ => 0) (1 : Int32).toNatClampNeg 1) (2 : Int32).toNatClampNeg 1) (40 : Int32).toNatClampNeg 536870912))), ((a 200), .inr (11, [.ref (a 201), .ref (a 202), .ref (a 203), .ref (a 204), .int 0, .ref (a 205), .int 0, .int 0, .int 0, .int 0, .int 0, .int 0, .int 0, .int 0, .int 0, .int (-1), .int 0, .int 0, .int 0, .ref (a 206), .ref (a 207), .int 0, .int 0, .ref (a 208), .int 0, .int 0, .int 0, .int 0, .ref (a 209), .ref (a 210), .ref (a 211), .ref (a 212), .ref (a 213), .ref (a 214), .ref (a 215), .int 0, .ref (a 216), .ref (a 217), .ref (a 218)]))] ∧ r = 1) ∨ ((¬ 536870912 ≤ v1_) ∧ W1 = [((a 200), .inr (11, [.ref (a 201), .ref (a 202), .ref (a 203), .ref (a 204), .int 0, .ref (a 205), .int 0, .int 0, .int 0, .int 0, .int 0, .int 0, .int 0, .int 0, .int 0, .int (-1), .int 0, .int 0, .int 0, .ref (a 206), .ref (a 207), .int 0, .int 0, .ref (a 208), .int 0, .int 0, .int 0, .int 0, .ref (a 209), .ref (a 210), .ref (a 211), .ref (a 212), .ref (a 213), .ref (a 214), .ref (a 215), .int 0, .ref (a 216), .ref (a 217), .ref (a 218)])), ((a 201), .inl (cy 0, 2260, .inl (upd (upd (fun _ => 0) (1 : Int32).toNatClampNeg 1) (2 : Int32).toNatClampNeg 1)))] ∧ r = 0)) := by
  refine Ci.of (by decide) (Nat.le_of_ble_eq_true rfl) ?_
  intro p e s m below meth c A ls hX hE hP hD hl
  obtain ⟨hx, hb, hr, hml, hown, htA, hlk⟩ := id hX
  have hK := hE.1
  have hS : va_S A s.heap s.heap [] := va_S.rf
  have hl : lv_has ls 3 [(0, .ref (a 200)), (1, .int v1_)] := hl
  refine lv_aload_n hx hb dX11_nextFall_0 rfl (lv_at hl 0 rfl) ?_
  refine kVi (As := []) (rest := []) (wr := []) hX hE (au_X11_nextHour_80 l D cy a) (cwVA 0 htA wd_1876 wd_1873 wd_10 wd_1875 wp_104 (by decide +kernel) ⟨by decide, by decide⟩) hP hD hS [0, 1] [] rfl rfl (by decide +kernel) 0 rfl rfl rfl rfl hl.1 rfl (Nat.le_of_ble_eq_true rfl) dX11_nextFall_1 (by decide) (fun r_ W1 H locs hw hP hD hS => ?_)
  refine W.widen (k := 0) (n := 0) (by decide) (by decide) ?_
  obtain ⟨rfl, rfl⟩ := hw
  have hP : va_P D vwCl [((a 200), .inr (11, [.ref (a 201), .ref (a 202), .ref (a 203), .ref (a 204), .int 0, .ref (a 205), .int 0, .int 0, .int 0, .int 0, .int 0, .int 0, .int 0, .int 0, .int 0, .int (-1), .int 0, .int 0, .int 0, .ref (a 206), .ref (a 207), .int 0, .int 0, .ref (a 208), .int 0, .int 0, .int 0, .int 0, .ref (a 209), .ref (a 210), .ref (a 211), .ref (a 212), .ref (a 213), .ref (a 214), .ref (a 215), .int 0, .ref (a 216), .ref (a 217), .ref (a 218)])), ((a 201), .inl (cy 0, 2260, .inl (upd (upd (fun _ => 0) (1 : Int32).toNatClampNeg 1) (2 : Int32).toNatClampNeg 1)))] H := hP
  have hD := va_ca hP hD
  refine lv_istore_n (lv' := [(2, .int 536870912), (0, .ref (a 200)), (1, .int v1_)]) hx hb dX11_nextFall_4 rfl hl (by decide) rfl (fun ls hl => ?_)
  refine lv_iload_n hx hb dX11_nextFall_5 rfl (lv_at hl 0 rfl) ?_
  refine lv_iload_n hx hb dX11_nextFall_6 rfl (lv_at hl 2 rfl) ?_
  refine lv_icmp_le (tgt := 12) hx hb dX11_nextFall_7 (by decide) (fun c1 => ?_) (fun c1 => ?_)
  · refine lv_aload_n hx hb dX11_nextFall_12 rfl (lv_at hl 1 rfl) ?_
    refine lv_iload_n hx hb dX11_nextFall_13 rfl (lv_at hl 0 rfl) ?_
    refine kVv (As := [.int 536870912]) (rest := []) (wr := []) hX hE (au_X11_goesTo_108 l D cy a) (cwVA 1 htA wd_1803 wd_1800 wd_10 wd_1802 wp_94 (by decide +kernel) ⟨by decide, by decide⟩) hP hD hS [0, 1] [] rfl rfl (by decide +kernel) 0 rfl rfl rfl rfl hl.1 rfl (Nat.le_of_ble_eq_true rfl) dX11_nextFall_14 (by decide) (fun W1 H locs hw hP hD hS => ?_)
    refine W.widen (k := 0) (n := 0) (by decide) (by decide) ?_
    obtain rfl := hw
    have hP : va_P D vwCl [((a 201), .inl (cy 0, 2260, .inl (upd (upd (upd (fun _ => 0) (1 : Int32).toNatClampNeg 1) (2 : Int32).toNatClampNeg 1) (40 : Int32).toNatClampNeg 536870912))), ((a 200), .inr (11, [.ref (a 201), .ref (a 202), .ref (a 203), .ref (a 204), .int 0, .ref (a 205), .int 0, .int 0, .int 0, .int 0, .int 0, .int 0, .int 0, .int 0, .int 0, .int (-1), .int 0, .int 0, .int 0, .ref (a 206), .ref (a 207), .int 0, .int 0, .ref (a 208), .int 0, .int 0, .int 0, .int 0, .ref (a 209), .ref (a 210), .ref (a 211), .ref (a 212), .ref (a 213), .ref (a 214), .ref (a 215), .int 0, .ref (a 216), .ref (a 217), .ref (a 218)]))] H := hP
    have hD := va_ca hP hD
    refine lv_iconst (v := 1) hx hb dX11_nextFall_17 (by decide) ?_
    exact rZ hX (by decide) hE hP hD hS dX11_nextFall_18 (by decide) (by decide) (Or.inl (⟨c1, rfl, rfl⟩))
  · refine lv_iconst (v := 0) hx hb dX11_nextFall_10 (by decide) ?_
    exact rZ hX (by decide) hE hP hD hS dX11_nextFall_11 (by decide) (by decide) (Or.inr (⟨c1, rfl, rfl⟩))
set_option maxHeartbeats 40000000 in
set_option maxRecDepth 100000 in
theorem r_heightIn (l : Launch) (D : va_G) (cy : Nat → ClassId) (a : Nat → Nat) (p1 : Int32) (p2 : Int32) : Ci l yX11_heightIn cX11_heightIn 6 (some .int) { frames := 4, cells := 0, slots := 0, locals := 94 } D cy [.ref (a 200), .int p1, .int p2] [((a 200), .inr (11, [.ref (a 201), .ref (a 202), .ref (a 203), .ref (a 204), .int 0, .ref (a 205), .int 0, .int 0, .int 0, .int 0, .int 0, .int 0, .int 0, .int 0, .int 0, .int (-1), .int 0, .int 0, .int 0, .ref (a 206), .ref (a 207), .int 0, .int 0, .ref (a 208), .int 0, .int 0, .int 0, .int 0, .ref (a 209), .ref (a 210), .ref (a 211), .ref (a 212), .ref (a 213), .ref (a 214), .ref (a 215), .int 0, .ref (a 216), .ref (a 217), .ref (a 218)])), ((a 201), .inl (cy 0, 2260, .inl (upd (upd (fun _ => 0) (1 : Int32).toNatClampNeg 1) (2 : Int32).toNatClampNeg 1))), ((a 202), .inl (cy 0, 2260, .inl (fun _ => 0))), ((a 203), .inl (cy 0, 6780, .inl (fun _ => 0))), ((a 204), .inl (cy 3, 3, .inl (fun _ => 0))), ((a 205), .inl (cy 0, 900, .inl (fun _ => 0))), ((a 206), .inl (cy 0, 64, .inl (fun _ => 0))), ((a 207), .inl (cy 0, 6, .inl (fun _ => 0))), ((a 208), .inl (cy 0, 37, .inl (fun _ => 0))), ((a 209), .inl (cy 0, 61, .inl (fun _ => 0))), ((a 210), .inl (cy 0, 61, .inl (fun _ => 0))), ((a 211), .inl (cy 0, 61, .inl (fun _ => 0))), ((a 212), .inl (cy 0, 61, .inl (fun _ => 0))), ((a 213), .inl (cy 0, 61, .inl (fun _ => 0))), ((a 214), .inl (cy 2, 6, .inr (.inl (fun _ => 0)))), ((a 215), .inl (cy 2, 6, .inr (.inl (fun _ => 0)))), ((a 216), .inl (cy 0, 4, .inl (upd (upd (upd (upd (fun _ => 0) (0 : Int32).toNatClampNeg (-1)) (1 : Int32).toNatClampNeg (-1)) (2 : Int32).toNatClampNeg (-1)) (3 : Int32).toNatClampNeg (-1)))), ((a 217), .inl (cy 0, 4, .inl (fun _ => 0))), ((a 218), .inl (cy 2, 120, .inr (.inl (fun _ => 0))))] (fun r W1 => ∃ fs : List Value, W1 = [((a 200), .inr (11, fs))] ∧ fs[4]? = some (.int (kf_heightIn p1 p2)) ∧ (kf_heightIn p1 p2 = 0 → r.toInt64 = vf_heightIn p1 p2)) := by
  refine Ci.of (by decide) (Nat.le_of_ble_eq_true rfl) ?_
  intro p e s m below meth c A ls hX hE hP hD hl
  obtain ⟨hx, hb, hr, hml, hown, htA, hlk⟩ := id hX
  have hK := hE.1
  have hS : va_S A s.heap s.heap [] := va_S.rf
  have hl : lv_has ls 6 [(0, .ref (a 200)), (1, .int p1), (2, .int p2)] := hl
  refine lv_aload_n hx hb dX11_heightIn_0 rfl (lv_at hl 0 rfl) ?_
  refine lv_aload_n hx hb dX11_heightIn_1 rfl (lv_at hl 0 rfl) ?_
  refine lv_iload_n hx hb dX11_heightIn_2 rfl (lv_at hl 1 rfl) ?_
  refine lv_i2l hx hb dX11_heightIn_3 rfl ?_
  refine kVi (As := [.long p1.toInt64]) (rest := [.ref (a 200)]) (wr := [((a 202), .inl (cy 0, 2260, .inl (fun _ => 0))), ((a 203), .inl (cy 0, 6780, .inl (fun _ => 0))), ((a 204), .inl (cy 3, 3, .inl (fun _ => 0))), ((a 205), .inl (cy 0, 900, .inl (fun _ => 0))), ((a 206), .inl (cy 0, 64, .inl (fun _ => 0))), ((a 207), .inl (cy 0, 6, .inl (fun _ => 0))), ((a 208), .inl (cy 0, 37, .inl (fun _ => 0))), ((a 209), .inl (cy 0, 61, .inl (fun _ => 0))), ((a 210), .inl (cy 0, 61, .inl (fun _ => 0))), ((a 211), .inl (cy 0, 61, .inl (fun _ => 0))), ((a 212), .inl (cy 0, 61, .inl (fun _ => 0))), ((a 213), .inl (cy 0, 61, .inl (fun _ => 0))), ((a 214), .inl (cy 2, 6, .inr (.inl (fun _ => 0)))), ((a 215), .inl (cy 2, 6, .inr (.inl (fun _ => 0)))), ((a 216), .inl (cy 0, 4, .inl (upd (upd (upd (upd (fun _ => 0) (0 : Int32).toNatClampNeg (-1)) (1 : Int32).toNatClampNeg (-1)) (2 : Int32).toNatClampNeg (-1)) (3 : Int32).toNatClampNeg (-1)))), ((a 217), .inl (cy 0, 4, .inl (fun _ => 0))), ((a 218), .inl (cy 2, 120, .inr (.inl (fun _ => 0))))]) hX hE (au_X11_isColumn_70 l D cy a p1.toInt64) (cwVA 1 htA wd_1687 wd_1684 wd_10 wd_1686 wp_76 (by decide +kernel) ⟨by decide, by decide⟩) hP hD hS [0, 1] [2, 3, 4, 5, 6, 7, 8, 9, 10, 11, 12, 13, 14, 15, 16, 17, 18] rfl rfl (by decide +kernel) 0 rfl rfl rfl rfl hl.1 rfl (Nat.le_of_ble_eq_true rfl) dX11_heightIn_4 (by decide) (fun r_ W1 H locs hw hP hD hS => ?_)
  refine W.widen (k := 0) (n := 0) (by decide) (by decide) ?_
  rcases hw with ⟨g2, rfl, rfl⟩ | ⟨g3, g4, rfl, rfl⟩ | ⟨g5, g6, rfl, rfl⟩
  · have hP : va_P D vwCl [((a 202), .inl (cy 0, 2260, .inl (fun _ => 0))), ((a 203), .inl (cy 0, 6780, .inl (fun _ => 0))), ((a 204), .inl (cy 3, 3, .inl (fun _ => 0))), ((a 205), .inl (cy 0, 900, .inl (fun _ => 0))), ((a 206), .inl (cy 0, 64, .inl (fun _ => 0))), ((a 207), .inl (cy 0, 6, .inl (fun _ => 0))), ((a 208), .inl (cy 0, 37, .inl (fun _ => 0))), ((a 209), .inl (cy 0, 61, .inl (fun _ => 0))), ((a 210), .inl (cy 0, 61, .inl (fun _ => 0))), ((a 211), .inl (cy 0, 61, .inl (fun _ => 0))), ((a 212), .inl (cy 0, 61, .inl (fun _ => 0))), ((a 213), .inl (cy 0, 61, .inl (fun _ => 0))), ((a 214), .inl (cy 2, 6, .inr (.inl (fun _ => 0)))), ((a 215), .inl (cy 2, 6, .inr (.inl (fun _ => 0)))), ((a 216), .inl (cy 0, 4, .inl (upd (upd (upd (upd (fun _ => 0) (0 : Int32).toNatClampNeg (-1)) (1 : Int32).toNatClampNeg (-1)) (2 : Int32).toNatClampNeg (-1)) (3 : Int32).toNatClampNeg (-1)))), ((a 217), .inl (cy 0, 4, .inl (fun _ => 0))), ((a 218), .inl (cy 2, 120, .inr (.inl (fun _ => 0)))), ((a 200), .inr (11, [.ref (a 201), .ref (a 202), .ref (a 203), .ref (a 204), .int 0, .ref (a 205), .int 0, .int 0, .int 0, .int 0, .int 0, .int 0, .int 0, .int 0, .int 0, .int (-1), .int 0, .int 0, .int 0, .ref (a 206), .ref (a 207), .int 0, .int 0, .ref (a 208), .int 0, .int 0, .int 0, .int 0, .ref (a 209), .ref (a 210), .ref (a 211), .ref (a 212), .ref (a 213), .ref (a 214), .ref (a 215), .int 0, .ref (a 216), .ref (a 217), .ref (a 218)])), ((a 201), .inl (cy 0, 2260, .inl (upd (upd (fun _ => 0) (1 : Int32).toNatClampNeg 1) (2 : Int32).toNatClampNeg 1)))] H := hP
    have hD := va_ca hP hD
    refine lv_if_ne (tgt := 14) hx hb dX11_heightIn_7 (by decide) (fun q => absurd rfl q) (fun _ => ?_)
    refine lv_iconst (v := 1) hx hb dX11_heightIn_10 (by decide) ?_
    refine lv_goto (tgt := 31) hx hb dX11_heightIn_11 (by decide) ?_
    refine va_put (ci := 11) (v := .int 1) (ty := .int) (C := RX11) (T := TX11) (N := 39) hx hb htA in_X11 tyX11 tyX11_ok nmX11 hown hK hP hD hS 17 rfl rfl 4 (by decide) (htA _ wd_1358) (fun _ h => h) rfl (by decide +kernel) rfl rfl (Nat.le_of_ble_eq_true rfl) dX11_heightIn_31 (fun H locs hP hD hS => ?_)
    have hP : va_P D vwCl [((a 202), .inl (cy 0, 2260, .inl (fun _ => 0))), ((a 203), .inl (cy 0, 6780, .inl (fun _ => 0))), ((a 204), .inl (cy 3, 3, .inl (fun _ => 0))), ((a 205), .inl (cy 0, 900, .inl (fun _ => 0))), ((a 206), .inl (cy 0, 64, .inl (fun _ => 0))), ((a 207), .inl (cy 0, 6, .inl (fun _ => 0))), ((a 208), .inl (cy 0, 37, .inl (fun _ => 0))), ((a 209), .inl (cy 0, 61, .inl (fun _ => 0))), ((a 210), .inl (cy 0, 61, .inl (fun _ => 0))), ((a 211), .inl (cy 0, 61, .inl (fun _ => 0))), ((a 212), .inl (cy 0, 61, .inl (fun _ => 0))), ((a 213), .inl (cy 0, 61, .inl (fun _ => 0))), ((a 214), .inl (cy 2, 6, .inr (.inl (fun _ => 0)))), ((a 215), .inl (cy 2, 6, .inr (.inl (fun _ => 0)))), ((a 216), .inl (cy 0, 4, .inl (upd (upd (upd (upd (fun _ => 0) (0 : Int32).toNatClampNeg (-1)) (1 : Int32).toNatClampNeg (-1)) (2 : Int32).toNatClampNeg (-1)) (3 : Int32).toNatClampNeg (-1)))), ((a 217), .inl (cy 0, 4, .inl (fun _ => 0))), ((a 218), .inl (cy 2, 120, .inr (.inl (fun _ => 0)))), ((a 200), .inr (11, [.ref (a 201), .ref (a 202), .ref (a 203), .ref (a 204), .int 1, .ref (a 205), .int 0, .int 0, .int 0, .int 0, .int 0, .int 0, .int 0, .int 0, .int 0, .int (-1), .int 0, .int 0, .int 0, .ref (a 206), .ref (a 207), .int 0, .int 0, .ref (a 208), .int 0, .int 0, .int 0, .int 0, .ref (a 209), .ref (a 210), .ref (a 211), .ref (a 212), .ref (a 213), .ref (a 214), .ref (a 215), .int 0, .ref (a 216), .ref (a 217), .ref (a 218)])), ((a 201), .inl (cy 0, 2260, .inl (upd (upd (fun _ => 0) (1 : Int32).toNatClampNeg 1) (2 : Int32).toNatClampNeg 1)))] H := hP
    have hD := va_ca hP hD
    refine lv_aload_n hx hb dX11_heightIn_34 rfl (lv_at hl 0 rfl) ?_
    refine va_get (ci := 11) (v := .int 1) (C := RX11) (T := TX11) (N := 39) hx hb htA in_X11 hown hK hP 17 rfl rfl 4 (by decide) (htA _ wd_1358) (fun _ h => h) rfl dX11_heightIn_35 ?_
    refine lv_if_le (tgt := 43) hx hb dX11_heightIn_38 (by decide) (fun q => absurd q (by decide)) (fun _ => ?_)
    refine lv_iconst (v := 0) hx hb dX11_heightIn_41 (by decide) ?_
    exact rI hX hE (hP.sub [17] rfl) (hD.sub [17] (by decide +kernel) rfl) hS dX11_heightIn_42 (by decide) (by decide) (⟨_, rfl, (by have kg2 := g2; (try simp only [lg_cmp_lt, lg_cmp_le, lg_cmp_ge, lg_cmp_gt, lg_cmp_eq] at kg2); (try simp only [lg_cmp_lt, lg_cmp_le, lg_cmp_ge, lg_cmp_gt, lg_cmp_eq, fa_lt, fa_le, fa_eq, fa_lt64, fa_le64, fa_eq64, Int32.toInt_toInt64, li_0, lj_0] at kg2); first | rfl | (congr 2; first | rfl | (unfold kf_heightIn; (repeat' split) <;> first | rfl | (exfalso; omega)))), (fun q => absurd q (by have hq : kf_heightIn p1 p2 = 1 := (by have kg2 := g2; (try simp only [lg_cmp_lt, lg_cmp_le, lg_cmp_ge, lg_cmp_gt, lg_cmp_eq] at kg2); (try simp only [lg_cmp_lt, lg_cmp_le, lg_cmp_ge, lg_cmp_gt, lg_cmp_eq, fa_lt, fa_le, fa_eq, fa_lt64, fa_le64, fa_eq64, Int32.toInt_toInt64, li_0, lj_0] at kg2); first | rfl | (unfold kf_heightIn; (repeat' split) <;> first | rfl | (exfalso; omega))); rw [hq]; decide))⟩)
  · have hP : va_P D vwCl [((a 202), .inl (cy 0, 2260, .inl (fun _ => 0))), ((a 203), .inl (cy 0, 6780, .inl (fun _ => 0))), ((a 204), .inl (cy 3, 3, .inl (fun _ => 0))), ((a 205), .inl (cy 0, 900, .inl (fun _ => 0))), ((a 206), .inl (cy 0, 64, .inl (fun _ => 0))), ((a 207), .inl (cy 0, 6, .inl (fun _ => 0))), ((a 208), .inl (cy 0, 37, .inl (fun _ => 0))), ((a 209), .inl (cy 0, 61, .inl (fun _ => 0))), ((a 210), .inl (cy 0, 61, .inl (fun _ => 0))), ((a 211), .inl (cy 0, 61, .inl (fun _ => 0))), ((a 212), .inl (cy 0, 61, .inl (fun _ => 0))), ((a 213), .inl (cy 0, 61, .inl (fun _ => 0))), ((a 214), .inl (cy 2, 6, .inr (.inl (fun _ => 0)))), ((a 215), .inl (cy 2, 6, .inr (.inl (fun _ => 0)))), ((a 216), .inl (cy 0, 4, .inl (upd (upd (upd (upd (fun _ => 0) (0 : Int32).toNatClampNeg (-1)) (1 : Int32).toNatClampNeg (-1)) (2 : Int32).toNatClampNeg (-1)) (3 : Int32).toNatClampNeg (-1)))), ((a 217), .inl (cy 0, 4, .inl (fun _ => 0))), ((a 218), .inl (cy 2, 120, .inr (.inl (fun _ => 0)))), ((a 200), .inr (11, [.ref (a 201), .ref (a 202), .ref (a 203), .ref (a 204), .int 0, .ref (a 205), .int 0, .int 0, .int 0, .int 0, .int 0, .int 0, .int 0, .int 0, .int 0, .int (-1), .int 0, .int 0, .int 0, .ref (a 206), .ref (a 207), .int 0, .int 0, .ref (a 208), .int 0, .int 0, .int 0, .int 0, .ref (a 209), .ref (a 210), .ref (a 211), .ref (a 212), .ref (a 213), .ref (a 214), .ref (a 215), .int 0, .ref (a 216), .ref (a 217), .ref (a 218)])), ((a 201), .inl (cy 0, 2260, .inl (upd (upd (fun _ => 0) (1 : Int32).toNatClampNeg 1) (2 : Int32).toNatClampNeg 1)))] H := hP
    have hD := va_ca hP hD
    refine lv_if_ne (tgt := 14) hx hb dX11_heightIn_7 (by decide) (fun q => absurd rfl q) (fun _ => ?_)
    refine lv_iconst (v := 1) hx hb dX11_heightIn_10 (by decide) ?_
    refine lv_goto (tgt := 31) hx hb dX11_heightIn_11 (by decide) ?_
    refine va_put (ci := 11) (v := .int 1) (ty := .int) (C := RX11) (T := TX11) (N := 39) hx hb htA in_X11 tyX11 tyX11_ok nmX11 hown hK hP hD hS 17 rfl rfl 4 (by decide) (htA _ wd_1358) (fun _ h => h) rfl (by decide +kernel) rfl rfl (Nat.le_of_ble_eq_true rfl) dX11_heightIn_31 (fun H locs hP hD hS => ?_)
    have hP : va_P D vwCl [((a 202), .inl (cy 0, 2260, .inl (fun _ => 0))), ((a 203), .inl (cy 0, 6780, .inl (fun _ => 0))), ((a 204), .inl (cy 3, 3, .inl (fun _ => 0))), ((a 205), .inl (cy 0, 900, .inl (fun _ => 0))), ((a 206), .inl (cy 0, 64, .inl (fun _ => 0))), ((a 207), .inl (cy 0, 6, .inl (fun _ => 0))), ((a 208), .inl (cy 0, 37, .inl (fun _ => 0))), ((a 209), .inl (cy 0, 61, .inl (fun _ => 0))), ((a 210), .inl (cy 0, 61, .inl (fun _ => 0))), ((a 211), .inl (cy 0, 61, .inl (fun _ => 0))), ((a 212), .inl (cy 0, 61, .inl (fun _ => 0))), ((a 213), .inl (cy 0, 61, .inl (fun _ => 0))), ((a 214), .inl (cy 2, 6, .inr (.inl (fun _ => 0)))), ((a 215), .inl (cy 2, 6, .inr (.inl (fun _ => 0)))), ((a 216), .inl (cy 0, 4, .inl (upd (upd (upd (upd (fun _ => 0) (0 : Int32).toNatClampNeg (-1)) (1 : Int32).toNatClampNeg (-1)) (2 : Int32).toNatClampNeg (-1)) (3 : Int32).toNatClampNeg (-1)))), ((a 217), .inl (cy 0, 4, .inl (fun _ => 0))), ((a 218), .inl (cy 2, 120, .inr (.inl (fun _ => 0)))), ((a 200), .inr (11, [.ref (a 201), .ref (a 202), .ref (a 203), .ref (a 204), .int 1, .ref (a 205), .int 0, .int 0, .int 0, .int 0, .int 0, .int 0, .int 0, .int 0, .int 0, .int (-1), .int 0, .int 0, .int 0, .ref (a 206), .ref (a 207), .int 0, .int 0, .ref (a 208), .int 0, .int 0, .int 0, .int 0, .ref (a 209), .ref (a 210), .ref (a 211), .ref (a 212), .ref (a 213), .ref (a 214), .ref (a 215), .int 0, .ref (a 216), .ref (a 217), .ref (a 218)])), ((a 201), .inl (cy 0, 2260, .inl (upd (upd (fun _ => 0) (1 : Int32).toNatClampNeg 1) (2 : Int32).toNatClampNeg 1)))] H := hP
    have hD := va_ca hP hD
    refine lv_aload_n hx hb dX11_heightIn_34 rfl (lv_at hl 0 rfl) ?_
    refine va_get (ci := 11) (v := .int 1) (C := RX11) (T := TX11) (N := 39) hx hb htA in_X11 hown hK hP 17 rfl rfl 4 (by decide) (htA _ wd_1358) (fun _ h => h) rfl dX11_heightIn_35 ?_
    refine lv_if_le (tgt := 43) hx hb dX11_heightIn_38 (by decide) (fun q => absurd q (by decide)) (fun _ => ?_)
    refine lv_iconst (v := 0) hx hb dX11_heightIn_41 (by decide) ?_
    exact rI hX hE (hP.sub [17] rfl) (hD.sub [17] (by decide +kernel) rfl) hS dX11_heightIn_42 (by decide) (by decide) (⟨_, rfl, (by have kg3 := g3; have kg4 := g4; (try simp only [lg_cmp_lt, lg_cmp_le, lg_cmp_ge, lg_cmp_gt, lg_cmp_eq] at kg3); (try simp only [lg_cmp_lt, lg_cmp_le, lg_cmp_ge, lg_cmp_gt, lg_cmp_eq] at kg4); (try simp only [lg_cmp_lt, lg_cmp_le, lg_cmp_ge, lg_cmp_gt, lg_cmp_eq, fa_lt, fa_le, fa_eq, fa_lt64, fa_le64, fa_eq64, Int32.toInt_toInt64, li_0, lj_0] at kg3); (try simp only [lg_cmp_lt, lg_cmp_le, lg_cmp_ge, lg_cmp_gt, lg_cmp_eq, fa_lt, fa_le, fa_eq, fa_lt64, fa_le64, fa_eq64, Int32.toInt_toInt64, li_0, lj_0] at kg4); first | rfl | (congr 2; first | rfl | (unfold kf_heightIn; (repeat' split) <;> first | rfl | (exfalso; omega)))), (fun q => absurd q (by have hq : kf_heightIn p1 p2 = 1 := (by have kg3 := g3; have kg4 := g4; (try simp only [lg_cmp_lt, lg_cmp_le, lg_cmp_ge, lg_cmp_gt, lg_cmp_eq] at kg3); (try simp only [lg_cmp_lt, lg_cmp_le, lg_cmp_ge, lg_cmp_gt, lg_cmp_eq] at kg4); (try simp only [lg_cmp_lt, lg_cmp_le, lg_cmp_ge, lg_cmp_gt, lg_cmp_eq, fa_lt, fa_le, fa_eq, fa_lt64, fa_le64, fa_eq64, Int32.toInt_toInt64, li_0, lj_0] at kg3); (try simp only [lg_cmp_lt, lg_cmp_le, lg_cmp_ge, lg_cmp_gt, lg_cmp_eq, fa_lt, fa_le, fa_eq, fa_lt64, fa_le64, fa_eq64, Int32.toInt_toInt64, li_0, lj_0] at kg4); first | rfl | (unfold kf_heightIn; (repeat' split) <;> first | rfl | (exfalso; omega))); rw [hq]; decide))⟩)
  · have hP : va_P D vwCl [((a 202), .inl (cy 0, 2260, .inl (fun _ => 0))), ((a 203), .inl (cy 0, 6780, .inl (fun _ => 0))), ((a 204), .inl (cy 3, 3, .inl (fun _ => 0))), ((a 205), .inl (cy 0, 900, .inl (fun _ => 0))), ((a 206), .inl (cy 0, 64, .inl (fun _ => 0))), ((a 207), .inl (cy 0, 6, .inl (fun _ => 0))), ((a 208), .inl (cy 0, 37, .inl (fun _ => 0))), ((a 209), .inl (cy 0, 61, .inl (fun _ => 0))), ((a 210), .inl (cy 0, 61, .inl (fun _ => 0))), ((a 211), .inl (cy 0, 61, .inl (fun _ => 0))), ((a 212), .inl (cy 0, 61, .inl (fun _ => 0))), ((a 213), .inl (cy 0, 61, .inl (fun _ => 0))), ((a 214), .inl (cy 2, 6, .inr (.inl (fun _ => 0)))), ((a 215), .inl (cy 2, 6, .inr (.inl (fun _ => 0)))), ((a 216), .inl (cy 0, 4, .inl (upd (upd (upd (upd (fun _ => 0) (0 : Int32).toNatClampNeg (-1)) (1 : Int32).toNatClampNeg (-1)) (2 : Int32).toNatClampNeg (-1)) (3 : Int32).toNatClampNeg (-1)))), ((a 217), .inl (cy 0, 4, .inl (fun _ => 0))), ((a 218), .inl (cy 2, 120, .inr (.inl (fun _ => 0)))), ((a 200), .inr (11, [.ref (a 201), .ref (a 202), .ref (a 203), .ref (a 204), .int 0, .ref (a 205), .int 0, .int 0, .int 0, .int 0, .int 0, .int 0, .int 0, .int 0, .int 0, .int (-1), .int 0, .int 0, .int 0, .ref (a 206), .ref (a 207), .int 0, .int 0, .ref (a 208), .int 0, .int 0, .int 0, .int 0, .ref (a 209), .ref (a 210), .ref (a 211), .ref (a 212), .ref (a 213), .ref (a 214), .ref (a 215), .int 0, .ref (a 216), .ref (a 217), .ref (a 218)])), ((a 201), .inl (cy 0, 2260, .inl (upd (upd (fun _ => 0) (1 : Int32).toNatClampNeg 1) (2 : Int32).toNatClampNeg 1)))] H := hP
    have hD := va_ca hP hD
    obtain rfl : p1 = 0 := (by have kg5 := g5; have kg6 := g6; (try simp only [lg_cmp_lt, lg_cmp_le, lg_cmp_ge, lg_cmp_gt, lg_cmp_eq] at kg5); (try simp only [lg_cmp_lt, lg_cmp_le, lg_cmp_ge, lg_cmp_gt, lg_cmp_eq] at kg6); (try simp only [lg_cmp_lt, lg_cmp_le, lg_cmp_ge, lg_cmp_gt, lg_cmp_eq, fa_lt, fa_le, fa_eq, fa_lt64, fa_le64, fa_eq64, Int32.toInt_toInt64, li_0, lj_0] at kg5); (try simp only [lg_cmp_lt, lg_cmp_le, lg_cmp_ge, lg_cmp_gt, lg_cmp_eq, fa_lt, fa_le, fa_eq, fa_lt64, fa_le64, fa_eq64, Int32.toInt_toInt64, li_0, lj_0] at kg6); rw [fa_eq, li_0]; omega)
    refine lv_if_ne (tgt := 14) hx hb dX11_heightIn_7 (by decide) (fun _ => ?_) (fun q => absurd q (by decide))
    refine lv_iload_n hx hb dX11_heightIn_14 rfl (lv_at hl 2 rfl) ?_
    refine lv_i2l hx hb dX11_heightIn_15 rfl ?_
    refine lv_lconst (v := 0) hx hb dX11_heightIn_16 (by decide) ?_
    refine lv_ldc2 hx hb hown (htA _ wd_1704) dX11_heightIn_17 ?_
    refine kSi (As := [.long p2.toInt64, .long 0, .long 999]) (rest := [.ref (a 200)]) (wr := [((a 202), .inl (cy 0, 2260, .inl (fun _ => 0))), ((a 203), .inl (cy 0, 6780, .inl (fun _ => 0))), ((a 204), .inl (cy 3, 3, .inl (fun _ => 0))), ((a 205), .inl (cy 0, 900, .inl (fun _ => 0))), ((a 206), .inl (cy 0, 64, .inl (fun _ => 0))), ((a 207), .inl (cy 0, 6, .inl (fun _ => 0))), ((a 208), .inl (cy 0, 37, .inl (fun _ => 0))), ((a 209), .inl (cy 0, 61, .inl (fun _ => 0))), ((a 210), .inl (cy 0, 61, .inl (fun _ => 0))), ((a 211), .inl (cy 0, 61, .inl (fun _ => 0))), ((a 212), .inl (cy 0, 61, .inl (fun _ => 0))), ((a 213), .inl (cy 0, 61, .inl (fun _ => 0))), ((a 214), .inl (cy 2, 6, .inr (.inl (fun _ => 0)))), ((a 215), .inl (cy 2, 6, .inr (.inl (fun _ => 0)))), ((a 216), .inl (cy 0, 4, .inl (upd (upd (upd (upd (fun _ => 0) (0 : Int32).toNatClampNeg (-1)) (1 : Int32).toNatClampNeg (-1)) (2 : Int32).toNatClampNeg (-1)) (3 : Int32).toNatClampNeg (-1)))), ((a 217), .inl (cy 0, 4, .inl (fun _ => 0))), ((a 218), .inl (cy 2, 120, .inr (.inl (fun _ => 0)))), ((a 200), .inr (11, [.ref (a 201), .ref (a 202), .ref (a 203), .ref (a 204), .int 0, .ref (a 205), .int 0, .int 0, .int 0, .int 0, .int 0, .int 0, .int 0, .int 0, .int 0, .int (-1), .int 0, .int 0, .int 0, .ref (a 206), .ref (a 207), .int 0, .int 0, .ref (a 208), .int 0, .int 0, .int 0, .int 0, .ref (a 209), .ref (a 210), .ref (a 211), .ref (a 212), .ref (a 213), .ref (a 214), .ref (a 215), .int 0, .ref (a 216), .ref (a 217), .ref (a 218)])), ((a 201), .inl (cy 0, 2260, .inl (upd (upd (fun _ => 0) (1 : Int32).toNatClampNeg 1) (2 : Int32).toNatClampNeg 1)))]) hX hE (au_X11_within_101 l D cy a p2.toInt64) (cwSA 3 htA wd_1487 wd_1485 wd_10 wd_1486 (by decide +kernel) ⟨by decide, by decide⟩) hP hD hS [] [0, 1, 2, 3, 4, 5, 6, 7, 8, 9, 10, 11, 12, 13, 14, 15, 16, 17, 18] rfl rfl (by decide +kernel) rfl hl.1 rfl (Nat.le_of_ble_eq_true rfl) dX11_heightIn_20 (by decide) (fun r_ W1 H locs hw hP hD hS => ?_)
    refine W.widen (k := 0) (n := 0) (by decide) (by decide) ?_
    rcases hw with ⟨g8, rfl, rfl⟩ | ⟨g9, g10, rfl, rfl⟩ | ⟨g11, g12, rfl, rfl⟩
    · have hP : va_P D vwCl [((a 202), .inl (cy 0, 2260, .inl (fun _ => 0))), ((a 203), .inl (cy 0, 6780, .inl (fun _ => 0))), ((a 204), .inl (cy 3, 3, .inl (fun _ => 0))), ((a 205), .inl (cy 0, 900, .inl (fun _ => 0))), ((a 206), .inl (cy 0, 64, .inl (fun _ => 0))), ((a 207), .inl (cy 0, 6, .inl (fun _ => 0))), ((a 208), .inl (cy 0, 37, .inl (fun _ => 0))), ((a 209), .inl (cy 0, 61, .inl (fun _ => 0))), ((a 210), .inl (cy 0, 61, .inl (fun _ => 0))), ((a 211), .inl (cy 0, 61, .inl (fun _ => 0))), ((a 212), .inl (cy 0, 61, .inl (fun _ => 0))), ((a 213), .inl (cy 0, 61, .inl (fun _ => 0))), ((a 214), .inl (cy 2, 6, .inr (.inl (fun _ => 0)))), ((a 215), .inl (cy 2, 6, .inr (.inl (fun _ => 0)))), ((a 216), .inl (cy 0, 4, .inl (upd (upd (upd (upd (fun _ => 0) (0 : Int32).toNatClampNeg (-1)) (1 : Int32).toNatClampNeg (-1)) (2 : Int32).toNatClampNeg (-1)) (3 : Int32).toNatClampNeg (-1)))), ((a 217), .inl (cy 0, 4, .inl (fun _ => 0))), ((a 218), .inl (cy 2, 120, .inr (.inl (fun _ => 0)))), ((a 200), .inr (11, [.ref (a 201), .ref (a 202), .ref (a 203), .ref (a 204), .int 0, .ref (a 205), .int 0, .int 0, .int 0, .int 0, .int 0, .int 0, .int 0, .int 0, .int 0, .int (-1), .int 0, .int 0, .int 0, .ref (a 206), .ref (a 207), .int 0, .int 0, .ref (a 208), .int 0, .int 0, .int 0, .int 0, .ref (a 209), .ref (a 210), .ref (a 211), .ref (a 212), .ref (a 213), .ref (a 214), .ref (a 215), .int 0, .ref (a 216), .ref (a 217), .ref (a 218)])), ((a 201), .inl (cy 0, 2260, .inl (upd (upd (fun _ => 0) (1 : Int32).toNatClampNeg 1) (2 : Int32).toNatClampNeg 1)))] H := hP
      have hD := va_ca hP hD
      refine lv_if_eq (tgt := 30) hx hb dX11_heightIn_23 (by decide) (fun _ => ?_) (fun q => absurd (by decide) q)
      refine lv_iconst (v := 2) hx hb dX11_heightIn_30 (by decide) ?_
      refine va_put (ci := 11) (v := .int 2) (ty := .int) (C := RX11) (T := TX11) (N := 39) hx hb htA in_X11 tyX11 tyX11_ok nmX11 hown hK hP hD hS 17 rfl rfl 4 (by decide) (htA _ wd_1358) (fun _ h => h) rfl (by decide +kernel) rfl rfl (Nat.le_of_ble_eq_true rfl) dX11_heightIn_31 (fun H locs hP hD hS => ?_)
      have hP : va_P D vwCl [((a 202), .inl (cy 0, 2260, .inl (fun _ => 0))), ((a 203), .inl (cy 0, 6780, .inl (fun _ => 0))), ((a 204), .inl (cy 3, 3, .inl (fun _ => 0))), ((a 205), .inl (cy 0, 900, .inl (fun _ => 0))), ((a 206), .inl (cy 0, 64, .inl (fun _ => 0))), ((a 207), .inl (cy 0, 6, .inl (fun _ => 0))), ((a 208), .inl (cy 0, 37, .inl (fun _ => 0))), ((a 209), .inl (cy 0, 61, .inl (fun _ => 0))), ((a 210), .inl (cy 0, 61, .inl (fun _ => 0))), ((a 211), .inl (cy 0, 61, .inl (fun _ => 0))), ((a 212), .inl (cy 0, 61, .inl (fun _ => 0))), ((a 213), .inl (cy 0, 61, .inl (fun _ => 0))), ((a 214), .inl (cy 2, 6, .inr (.inl (fun _ => 0)))), ((a 215), .inl (cy 2, 6, .inr (.inl (fun _ => 0)))), ((a 216), .inl (cy 0, 4, .inl (upd (upd (upd (upd (fun _ => 0) (0 : Int32).toNatClampNeg (-1)) (1 : Int32).toNatClampNeg (-1)) (2 : Int32).toNatClampNeg (-1)) (3 : Int32).toNatClampNeg (-1)))), ((a 217), .inl (cy 0, 4, .inl (fun _ => 0))), ((a 218), .inl (cy 2, 120, .inr (.inl (fun _ => 0)))), ((a 200), .inr (11, [.ref (a 201), .ref (a 202), .ref (a 203), .ref (a 204), .int 2, .ref (a 205), .int 0, .int 0, .int 0, .int 0, .int 0, .int 0, .int 0, .int 0, .int 0, .int (-1), .int 0, .int 0, .int 0, .ref (a 206), .ref (a 207), .int 0, .int 0, .ref (a 208), .int 0, .int 0, .int 0, .int 0, .ref (a 209), .ref (a 210), .ref (a 211), .ref (a 212), .ref (a 213), .ref (a 214), .ref (a 215), .int 0, .ref (a 216), .ref (a 217), .ref (a 218)])), ((a 201), .inl (cy 0, 2260, .inl (upd (upd (fun _ => 0) (1 : Int32).toNatClampNeg 1) (2 : Int32).toNatClampNeg 1)))] H := hP
      have hD := va_ca hP hD
      refine lv_aload_n hx hb dX11_heightIn_34 rfl (lv_at hl 0 rfl) ?_
      refine va_get (ci := 11) (v := .int 2) (C := RX11) (T := TX11) (N := 39) hx hb htA in_X11 hown hK hP 17 rfl rfl 4 (by decide) (htA _ wd_1358) (fun _ h => h) rfl dX11_heightIn_35 ?_
      refine lv_if_le (tgt := 43) hx hb dX11_heightIn_38 (by decide) (fun q => absurd q (by decide)) (fun _ => ?_)
      refine lv_iconst (v := 0) hx hb dX11_heightIn_41 (by decide) ?_
      exact rI hX hE (hP.sub [17] rfl) (hD.sub [17] (by decide +kernel) rfl) hS dX11_heightIn_42 (by decide) (by decide) (⟨_, rfl, (by have kg5 := g5; have kg6 := g6; have kg8 := g8; (try simp only [lg_cmp_lt, lg_cmp_le, lg_cmp_ge, lg_cmp_gt, lg_cmp_eq] at kg5); (try simp only [lg_cmp_lt, lg_cmp_le, lg_cmp_ge, lg_cmp_gt, lg_cmp_eq] at kg6); (try simp only [lg_cmp_lt, lg_cmp_le, lg_cmp_ge, lg_cmp_gt, lg_cmp_eq] at kg8); (try simp only [lg_cmp_lt, lg_cmp_le, lg_cmp_ge, lg_cmp_gt, lg_cmp_eq, fa_lt, fa_le, fa_eq, fa_lt64, fa_le64, fa_eq64, Int32.toInt_toInt64, li_0, lj_0] at kg5); (try simp only [lg_cmp_lt, lg_cmp_le, lg_cmp_ge, lg_cmp_gt, lg_cmp_eq, fa_lt, fa_le, fa_eq, fa_lt64, fa_le64, fa_eq64, Int32.toInt_toInt64, li_0, lj_0] at kg6); (try simp only [lg_cmp_lt, lg_cmp_le, lg_cmp_ge, lg_cmp_gt, lg_cmp_eq, fa_lt, fa_le, fa_eq, fa_lt64, fa_le64, fa_eq64, Int32.toInt_toInt64, li_0, lj_0] at kg8); first | rfl | (congr 2; first | rfl | (unfold kf_heightIn; (try simp only [li_0, and_self, and_true, true_and, if_true]); (repeat' split) <;> first | rfl | (exfalso; omega)))), (fun q => absurd q (by have hq : kf_heightIn 0 p2 = 2 := (by have kg5 := g5; have kg6 := g6; have kg8 := g8; (try simp only [lg_cmp_lt, lg_cmp_le, lg_cmp_ge, lg_cmp_gt, lg_cmp_eq] at kg5); (try simp only [lg_cmp_lt, lg_cmp_le, lg_cmp_ge, lg_cmp_gt, lg_cmp_eq] at kg6); (try simp only [lg_cmp_lt, lg_cmp_le, lg_cmp_ge, lg_cmp_gt, lg_cmp_eq] at kg8); (try simp only [lg_cmp_lt, lg_cmp_le, lg_cmp_ge, lg_cmp_gt, lg_cmp_eq, fa_lt, fa_le, fa_eq, fa_lt64, fa_le64, fa_eq64, Int32.toInt_toInt64, li_0, lj_0] at kg5); (try simp only [lg_cmp_lt, lg_cmp_le, lg_cmp_ge, lg_cmp_gt, lg_cmp_eq, fa_lt, fa_le, fa_eq, fa_lt64, fa_le64, fa_eq64, Int32.toInt_toInt64, li_0, lj_0] at kg6); (try simp only [lg_cmp_lt, lg_cmp_le, lg_cmp_ge, lg_cmp_gt, lg_cmp_eq, fa_lt, fa_le, fa_eq, fa_lt64, fa_le64, fa_eq64, Int32.toInt_toInt64, li_0, lj_0] at kg8); first | rfl | (unfold kf_heightIn; (try simp only [li_0, and_self, and_true, true_and, if_true]); (repeat' split) <;> first | rfl | (exfalso; omega))); rw [hq]; decide))⟩)
    · have hP : va_P D vwCl [((a 202), .inl (cy 0, 2260, .inl (fun _ => 0))), ((a 203), .inl (cy 0, 6780, .inl (fun _ => 0))), ((a 204), .inl (cy 3, 3, .inl (fun _ => 0))), ((a 205), .inl (cy 0, 900, .inl (fun _ => 0))), ((a 206), .inl (cy 0, 64, .inl (fun _ => 0))), ((a 207), .inl (cy 0, 6, .inl (fun _ => 0))), ((a 208), .inl (cy 0, 37, .inl (fun _ => 0))), ((a 209), .inl (cy 0, 61, .inl (fun _ => 0))), ((a 210), .inl (cy 0, 61, .inl (fun _ => 0))), ((a 211), .inl (cy 0, 61, .inl (fun _ => 0))), ((a 212), .inl (cy 0, 61, .inl (fun _ => 0))), ((a 213), .inl (cy 0, 61, .inl (fun _ => 0))), ((a 214), .inl (cy 2, 6, .inr (.inl (fun _ => 0)))), ((a 215), .inl (cy 2, 6, .inr (.inl (fun _ => 0)))), ((a 216), .inl (cy 0, 4, .inl (upd (upd (upd (upd (fun _ => 0) (0 : Int32).toNatClampNeg (-1)) (1 : Int32).toNatClampNeg (-1)) (2 : Int32).toNatClampNeg (-1)) (3 : Int32).toNatClampNeg (-1)))), ((a 217), .inl (cy 0, 4, .inl (fun _ => 0))), ((a 218), .inl (cy 2, 120, .inr (.inl (fun _ => 0)))), ((a 200), .inr (11, [.ref (a 201), .ref (a 202), .ref (a 203), .ref (a 204), .int 0, .ref (a 205), .int 0, .int 0, .int 0, .int 0, .int 0, .int 0, .int 0, .int 0, .int 0, .int (-1), .int 0, .int 0, .int 0, .ref (a 206), .ref (a 207), .int 0, .int 0, .ref (a 208), .int 0, .int 0, .int 0, .int 0, .ref (a 209), .ref (a 210), .ref (a 211), .ref (a 212), .ref (a 213), .ref (a 214), .ref (a 215), .int 0, .ref (a 216), .ref (a 217), .ref (a 218)])), ((a 201), .inl (cy 0, 2260, .inl (upd (upd (fun _ => 0) (1 : Int32).toNatClampNeg 1) (2 : Int32).toNatClampNeg 1)))] H := hP
      have hD := va_ca hP hD
      refine lv_if_eq (tgt := 30) hx hb dX11_heightIn_23 (by decide) (fun _ => ?_) (fun q => absurd (by decide) q)
      refine lv_iconst (v := 2) hx hb dX11_heightIn_30 (by decide) ?_
      refine va_put (ci := 11) (v := .int 2) (ty := .int) (C := RX11) (T := TX11) (N := 39) hx hb htA in_X11 tyX11 tyX11_ok nmX11 hown hK hP hD hS 17 rfl rfl 4 (by decide) (htA _ wd_1358) (fun _ h => h) rfl (by decide +kernel) rfl rfl (Nat.le_of_ble_eq_true rfl) dX11_heightIn_31 (fun H locs hP hD hS => ?_)
      have hP : va_P D vwCl [((a 202), .inl (cy 0, 2260, .inl (fun _ => 0))), ((a 203), .inl (cy 0, 6780, .inl (fun _ => 0))), ((a 204), .inl (cy 3, 3, .inl (fun _ => 0))), ((a 205), .inl (cy 0, 900, .inl (fun _ => 0))), ((a 206), .inl (cy 0, 64, .inl (fun _ => 0))), ((a 207), .inl (cy 0, 6, .inl (fun _ => 0))), ((a 208), .inl (cy 0, 37, .inl (fun _ => 0))), ((a 209), .inl (cy 0, 61, .inl (fun _ => 0))), ((a 210), .inl (cy 0, 61, .inl (fun _ => 0))), ((a 211), .inl (cy 0, 61, .inl (fun _ => 0))), ((a 212), .inl (cy 0, 61, .inl (fun _ => 0))), ((a 213), .inl (cy 0, 61, .inl (fun _ => 0))), ((a 214), .inl (cy 2, 6, .inr (.inl (fun _ => 0)))), ((a 215), .inl (cy 2, 6, .inr (.inl (fun _ => 0)))), ((a 216), .inl (cy 0, 4, .inl (upd (upd (upd (upd (fun _ => 0) (0 : Int32).toNatClampNeg (-1)) (1 : Int32).toNatClampNeg (-1)) (2 : Int32).toNatClampNeg (-1)) (3 : Int32).toNatClampNeg (-1)))), ((a 217), .inl (cy 0, 4, .inl (fun _ => 0))), ((a 218), .inl (cy 2, 120, .inr (.inl (fun _ => 0)))), ((a 200), .inr (11, [.ref (a 201), .ref (a 202), .ref (a 203), .ref (a 204), .int 2, .ref (a 205), .int 0, .int 0, .int 0, .int 0, .int 0, .int 0, .int 0, .int 0, .int 0, .int (-1), .int 0, .int 0, .int 0, .ref (a 206), .ref (a 207), .int 0, .int 0, .ref (a 208), .int 0, .int 0, .int 0, .int 0, .ref (a 209), .ref (a 210), .ref (a 211), .ref (a 212), .ref (a 213), .ref (a 214), .ref (a 215), .int 0, .ref (a 216), .ref (a 217), .ref (a 218)])), ((a 201), .inl (cy 0, 2260, .inl (upd (upd (fun _ => 0) (1 : Int32).toNatClampNeg 1) (2 : Int32).toNatClampNeg 1)))] H := hP
      have hD := va_ca hP hD
      refine lv_aload_n hx hb dX11_heightIn_34 rfl (lv_at hl 0 rfl) ?_
      refine va_get (ci := 11) (v := .int 2) (C := RX11) (T := TX11) (N := 39) hx hb htA in_X11 hown hK hP 17 rfl rfl 4 (by decide) (htA _ wd_1358) (fun _ h => h) rfl dX11_heightIn_35 ?_
      refine lv_if_le (tgt := 43) hx hb dX11_heightIn_38 (by decide) (fun q => absurd q (by decide)) (fun _ => ?_)
      refine lv_iconst (v := 0) hx hb dX11_heightIn_41 (by decide) ?_
      exact rI hX hE (hP.sub [17] rfl) (hD.sub [17] (by decide +kernel) rfl) hS dX11_heightIn_42 (by decide) (by decide) (⟨_, rfl, (by have kg5 := g5; have kg6 := g6; have kg9 := g9; have kg10 := g10; (try simp only [lg_cmp_lt, lg_cmp_le, lg_cmp_ge, lg_cmp_gt, lg_cmp_eq] at kg5); (try simp only [lg_cmp_lt, lg_cmp_le, lg_cmp_ge, lg_cmp_gt, lg_cmp_eq] at kg6); (try simp only [lg_cmp_lt, lg_cmp_le, lg_cmp_ge, lg_cmp_gt, lg_cmp_eq] at kg9); (try simp only [lg_cmp_lt, lg_cmp_le, lg_cmp_ge, lg_cmp_gt, lg_cmp_eq] at kg10); (try simp only [lg_cmp_lt, lg_cmp_le, lg_cmp_ge, lg_cmp_gt, lg_cmp_eq, fa_lt, fa_le, fa_eq, fa_lt64, fa_le64, fa_eq64, Int32.toInt_toInt64, li_0, lj_0, li_999, lj_999] at kg5); (try simp only [lg_cmp_lt, lg_cmp_le, lg_cmp_ge, lg_cmp_gt, lg_cmp_eq, fa_lt, fa_le, fa_eq, fa_lt64, fa_le64, fa_eq64, Int32.toInt_toInt64, li_0, lj_0, li_999, lj_999] at kg6); (try simp only [lg_cmp_lt, lg_cmp_le, lg_cmp_ge, lg_cmp_gt, lg_cmp_eq, fa_lt, fa_le, fa_eq, fa_lt64, fa_le64, fa_eq64, Int32.toInt_toInt64, li_0, lj_0, li_999, lj_999] at kg9); (try simp only [lg_cmp_lt, lg_cmp_le, lg_cmp_ge, lg_cmp_gt, lg_cmp_eq, fa_lt, fa_le, fa_eq, fa_lt64, fa_le64, fa_eq64, Int32.toInt_toInt64, li_0, lj_0, li_999, lj_999] at kg10); first | rfl | (congr 2; first | rfl | (unfold kf_heightIn; (try simp only [li_0, and_self, and_true, true_and, if_true]); (repeat' split) <;> first | rfl | (exfalso; omega)))), (fun q => absurd q (by have hq : kf_heightIn 0 p2 = 2 := (by have kg5 := g5; have kg6 := g6; have kg9 := g9; have kg10 := g10; (try simp only [lg_cmp_lt, lg_cmp_le, lg_cmp_ge, lg_cmp_gt, lg_cmp_eq] at kg5); (try simp only [lg_cmp_lt, lg_cmp_le, lg_cmp_ge, lg_cmp_gt, lg_cmp_eq] at kg6); (try simp only [lg_cmp_lt, lg_cmp_le, lg_cmp_ge, lg_cmp_gt, lg_cmp_eq] at kg9); (try simp only [lg_cmp_lt, lg_cmp_le, lg_cmp_ge, lg_cmp_gt, lg_cmp_eq] at kg10); (try simp only [lg_cmp_lt, lg_cmp_le, lg_cmp_ge, lg_cmp_gt, lg_cmp_eq, fa_lt, fa_le, fa_eq, fa_lt64, fa_le64, fa_eq64, Int32.toInt_toInt64, li_0, lj_0, li_999, lj_999] at kg5); (try simp only [lg_cmp_lt, lg_cmp_le, lg_cmp_ge, lg_cmp_gt, lg_cmp_eq, fa_lt, fa_le, fa_eq, fa_lt64, fa_le64, fa_eq64, Int32.toInt_toInt64, li_0, lj_0, li_999, lj_999] at kg6); (try simp only [lg_cmp_lt, lg_cmp_le, lg_cmp_ge, lg_cmp_gt, lg_cmp_eq, fa_lt, fa_le, fa_eq, fa_lt64, fa_le64, fa_eq64, Int32.toInt_toInt64, li_0, lj_0, li_999, lj_999] at kg9); (try simp only [lg_cmp_lt, lg_cmp_le, lg_cmp_ge, lg_cmp_gt, lg_cmp_eq, fa_lt, fa_le, fa_eq, fa_lt64, fa_le64, fa_eq64, Int32.toInt_toInt64, li_0, lj_0, li_999, lj_999] at kg10); first | rfl | (unfold kf_heightIn; (try simp only [li_0, and_self, and_true, true_and, if_true]); (repeat' split) <;> first | rfl | (exfalso; omega))); rw [hq]; decide))⟩)
    · have hP : va_P D vwCl [((a 202), .inl (cy 0, 2260, .inl (fun _ => 0))), ((a 203), .inl (cy 0, 6780, .inl (fun _ => 0))), ((a 204), .inl (cy 3, 3, .inl (fun _ => 0))), ((a 205), .inl (cy 0, 900, .inl (fun _ => 0))), ((a 206), .inl (cy 0, 64, .inl (fun _ => 0))), ((a 207), .inl (cy 0, 6, .inl (fun _ => 0))), ((a 208), .inl (cy 0, 37, .inl (fun _ => 0))), ((a 209), .inl (cy 0, 61, .inl (fun _ => 0))), ((a 210), .inl (cy 0, 61, .inl (fun _ => 0))), ((a 211), .inl (cy 0, 61, .inl (fun _ => 0))), ((a 212), .inl (cy 0, 61, .inl (fun _ => 0))), ((a 213), .inl (cy 0, 61, .inl (fun _ => 0))), ((a 214), .inl (cy 2, 6, .inr (.inl (fun _ => 0)))), ((a 215), .inl (cy 2, 6, .inr (.inl (fun _ => 0)))), ((a 216), .inl (cy 0, 4, .inl (upd (upd (upd (upd (fun _ => 0) (0 : Int32).toNatClampNeg (-1)) (1 : Int32).toNatClampNeg (-1)) (2 : Int32).toNatClampNeg (-1)) (3 : Int32).toNatClampNeg (-1)))), ((a 217), .inl (cy 0, 4, .inl (fun _ => 0))), ((a 218), .inl (cy 2, 120, .inr (.inl (fun _ => 0)))), ((a 200), .inr (11, [.ref (a 201), .ref (a 202), .ref (a 203), .ref (a 204), .int 0, .ref (a 205), .int 0, .int 0, .int 0, .int 0, .int 0, .int 0, .int 0, .int 0, .int 0, .int (-1), .int 0, .int 0, .int 0, .ref (a 206), .ref (a 207), .int 0, .int 0, .ref (a 208), .int 0, .int 0, .int 0, .int 0, .ref (a 209), .ref (a 210), .ref (a 211), .ref (a 212), .ref (a 213), .ref (a 214), .ref (a 215), .int 0, .ref (a 216), .ref (a 217), .ref (a 218)])), ((a 201), .inl (cy 0, 2260, .inl (upd (upd (fun _ => 0) (1 : Int32).toNatClampNeg 1) (2 : Int32).toNatClampNeg 1)))] H := hP
      have hD := va_ca hP hD
      refine lv_if_eq (tgt := 30) hx hb dX11_heightIn_23 (by decide) (fun q => absurd q (by decide)) (fun _ => ?_)
      refine lv_iconst (v := 0) hx hb dX11_heightIn_26 (by decide) ?_
      refine lv_goto (tgt := 31) hx hb dX11_heightIn_27 (by decide) ?_
      refine va_put (ci := 11) (v := .int 0) (ty := .int) (C := RX11) (T := TX11) (N := 39) hx hb htA in_X11 tyX11 tyX11_ok nmX11 hown hK hP hD hS 17 rfl rfl 4 (by decide) (htA _ wd_1358) (fun _ h => h) rfl (by decide +kernel) rfl rfl (Nat.le_of_ble_eq_true rfl) dX11_heightIn_31 (fun H locs hP hD hS => ?_)
      have hP : va_P D vwCl [((a 202), .inl (cy 0, 2260, .inl (fun _ => 0))), ((a 203), .inl (cy 0, 6780, .inl (fun _ => 0))), ((a 204), .inl (cy 3, 3, .inl (fun _ => 0))), ((a 205), .inl (cy 0, 900, .inl (fun _ => 0))), ((a 206), .inl (cy 0, 64, .inl (fun _ => 0))), ((a 207), .inl (cy 0, 6, .inl (fun _ => 0))), ((a 208), .inl (cy 0, 37, .inl (fun _ => 0))), ((a 209), .inl (cy 0, 61, .inl (fun _ => 0))), ((a 210), .inl (cy 0, 61, .inl (fun _ => 0))), ((a 211), .inl (cy 0, 61, .inl (fun _ => 0))), ((a 212), .inl (cy 0, 61, .inl (fun _ => 0))), ((a 213), .inl (cy 0, 61, .inl (fun _ => 0))), ((a 214), .inl (cy 2, 6, .inr (.inl (fun _ => 0)))), ((a 215), .inl (cy 2, 6, .inr (.inl (fun _ => 0)))), ((a 216), .inl (cy 0, 4, .inl (upd (upd (upd (upd (fun _ => 0) (0 : Int32).toNatClampNeg (-1)) (1 : Int32).toNatClampNeg (-1)) (2 : Int32).toNatClampNeg (-1)) (3 : Int32).toNatClampNeg (-1)))), ((a 217), .inl (cy 0, 4, .inl (fun _ => 0))), ((a 218), .inl (cy 2, 120, .inr (.inl (fun _ => 0)))), ((a 200), .inr (11, [.ref (a 201), .ref (a 202), .ref (a 203), .ref (a 204), .int 0, .ref (a 205), .int 0, .int 0, .int 0, .int 0, .int 0, .int 0, .int 0, .int 0, .int 0, .int (-1), .int 0, .int 0, .int 0, .ref (a 206), .ref (a 207), .int 0, .int 0, .ref (a 208), .int 0, .int 0, .int 0, .int 0, .ref (a 209), .ref (a 210), .ref (a 211), .ref (a 212), .ref (a 213), .ref (a 214), .ref (a 215), .int 0, .ref (a 216), .ref (a 217), .ref (a 218)])), ((a 201), .inl (cy 0, 2260, .inl (upd (upd (fun _ => 0) (1 : Int32).toNatClampNeg 1) (2 : Int32).toNatClampNeg 1)))] H := hP
      have hD := va_ca hP hD
      refine lv_aload_n hx hb dX11_heightIn_34 rfl (lv_at hl 0 rfl) ?_
      refine va_get (ci := 11) (v := .int 0) (C := RX11) (T := TX11) (N := 39) hx hb htA in_X11 hown hK hP 17 rfl rfl 4 (by decide) (htA _ wd_1358) (fun _ h => h) rfl dX11_heightIn_35 ?_
      refine lv_if_le (tgt := 43) hx hb dX11_heightIn_38 (by decide) (fun _ => ?_) (fun q => absurd (by decide) q)
      refine lv_aload_n hx hb dX11_heightIn_43 rfl (lv_at hl 0 rfl) ?_
      refine kVv (As := []) (rest := []) (wr := [((a 202), .inl (cy 0, 2260, .inl (fun _ => 0))), ((a 203), .inl (cy 0, 6780, .inl (fun _ => 0))), ((a 204), .inl (cy 3, 3, .inl (fun _ => 0))), ((a 205), .inl (cy 0, 900, .inl (fun _ => 0))), ((a 206), .inl (cy 0, 64, .inl (fun _ => 0))), ((a 207), .inl (cy 0, 6, .inl (fun _ => 0))), ((a 209), .inl (cy 0, 61, .inl (fun _ => 0))), ((a 210), .inl (cy 0, 61, .inl (fun _ => 0))), ((a 211), .inl (cy 0, 61, .inl (fun _ => 0))), ((a 212), .inl (cy 0, 61, .inl (fun _ => 0))), ((a 213), .inl (cy 0, 61, .inl (fun _ => 0))), ((a 214), .inl (cy 2, 6, .inr (.inl (fun _ => 0)))), ((a 215), .inl (cy 2, 6, .inr (.inl (fun _ => 0)))), ((a 216), .inl (cy 0, 4, .inl (upd (upd (upd (upd (fun _ => 0) (0 : Int32).toNatClampNeg (-1)) (1 : Int32).toNatClampNeg (-1)) (2 : Int32).toNatClampNeg (-1)) (3 : Int32).toNatClampNeg (-1)))), ((a 217), .inl (cy 0, 4, .inl (fun _ => 0))), ((a 218), .inl (cy 2, 120, .inr (.inl (fun _ => 0))))]) hX hE (au_X11_putsAside_102 l D cy a) (cwVA 0 htA wd_1824 wd_1821 wd_10 wd_1823 wp_96 (by decide +kernel) ⟨by decide, by decide⟩) hP hD hS [6, 17, 18] [0, 1, 2, 3, 4, 5, 7, 8, 9, 10, 11, 12, 13, 14, 15, 16] rfl rfl (by decide +kernel) 1 rfl rfl rfl rfl hl.1 rfl (Nat.le_of_ble_eq_true rfl) dX11_heightIn_44 (by decide) (fun W1 H locs hw hP hD hS => ?_)
      refine W.widen (k := 0) (n := 0) (by decide) (by decide) ?_
      obtain rfl := hw
      have hP : va_P D vwCl [((a 202), .inl (cy 0, 2260, .inl (fun _ => 0))), ((a 203), .inl (cy 0, 6780, .inl (fun _ => 0))), ((a 204), .inl (cy 3, 3, .inl (fun _ => 0))), ((a 205), .inl (cy 0, 900, .inl (fun _ => 0))), ((a 206), .inl (cy 0, 64, .inl (fun _ => 0))), ((a 207), .inl (cy 0, 6, .inl (fun _ => 0))), ((a 209), .inl (cy 0, 61, .inl (fun _ => 0))), ((a 210), .inl (cy 0, 61, .inl (fun _ => 0))), ((a 211), .inl (cy 0, 61, .inl (fun _ => 0))), ((a 212), .inl (cy 0, 61, .inl (fun _ => 0))), ((a 213), .inl (cy 0, 61, .inl (fun _ => 0))), ((a 214), .inl (cy 2, 6, .inr (.inl (fun _ => 0)))), ((a 215), .inl (cy 2, 6, .inr (.inl (fun _ => 0)))), ((a 216), .inl (cy 0, 4, .inl (upd (upd (upd (upd (fun _ => 0) (0 : Int32).toNatClampNeg (-1)) (1 : Int32).toNatClampNeg (-1)) (2 : Int32).toNatClampNeg (-1)) (3 : Int32).toNatClampNeg (-1)))), ((a 217), .inl (cy 0, 4, .inl (fun _ => 0))), ((a 218), .inl (cy 2, 120, .inr (.inl (fun _ => 0)))), ((a 208), .inl (cy 0, 37, .inl (fun _ => 0))), ((a 200), .inr (11, [.ref (a 201), .ref (a 202), .ref (a 203), .ref (a 204), .int 0, .ref (a 205), .int 0, .int 0, .int 0, .int 0, .int 0, .int 0, .int 0, .int 0, .int 0, .int (-1), .int 0, .int 0, .int 0, .ref (a 206), .ref (a 207), .int 0, .int 0, .ref (a 208), .int 0, .int 0, .int 0, .int 0, .ref (a 209), .ref (a 210), .ref (a 211), .ref (a 212), .ref (a 213), .ref (a 214), .ref (a 215), .int 0, .ref (a 216), .ref (a 217), .ref (a 218)])), ((a 201), .inl (cy 0, 2260, .inl (upd (upd (fun _ => 0) (1 : Int32).toNatClampNeg 1) (2 : Int32).toNatClampNeg 1)))] H := hP
      have hD := va_ca hP hD
      refine lv_aload_n hx hb dX11_heightIn_47 rfl (lv_at hl 0 rfl) ?_
      refine va_get (ci := 11) (v := .ref (a 201)) (C := RX11) (T := TX11) (N := 39) hx hb htA in_X11 hown hK hP 17 rfl rfl 0 (by decide) (htA _ wd_1354) (fun _ h => h) rfl dX11_heightIn_48 ?_
      refine lv_bipush (v := 40) hx hb dX11_heightIn_51 (by decide) ?_
      refine va_iald hx hb hK hP 18 0 rfl rfl (in_lit (by decide)) dX11_heightIn_53 ?_
      refine lv_topi (fun x13 ex13 => ?_)
      obtain rfl : x13 = 0 := ex13.trans (by first | decide | rfl)
      refine lv_iload_n hx hb dX11_heightIn_54 rfl (lv_at hl 2 rfl) ?_
      refine lv_iadd hx hb dX11_heightIn_55 ?_
      refine lv_topi (fun x14 ex14 => ?_)
      obtain rfl : p2 = x14 := (ex14.trans (Int32.zero_add _)).symm
      refine lv_istore_n (lv' := [(3, .int p2), (0, .ref (a 200)), (1, .int 0), (2, .int p2)]) hx hb dX11_heightIn_56 rfl hl (by decide) rfl (fun ls hl => ?_)
      refine lv_iload_n hx hb dX11_heightIn_57 rfl (lv_at hl 3 rfl) ?_
      refine lv_if_le (tgt := 65) hx hb dX11_heightIn_58 (by decide) (fun c15 => ?_) (fun c15 => ?_)
      · obtain rfl : p2 = 0 := (by have kg5 := g5; have kg6 := g6; have kg11 := g11; have kg12 := g12; have kc15 := c15; (try simp only [lg_cmp_lt, lg_cmp_le, lg_cmp_ge, lg_cmp_gt, lg_cmp_eq] at kg5); (try simp only [lg_cmp_lt, lg_cmp_le, lg_cmp_ge, lg_cmp_gt, lg_cmp_eq] at kg6); (try simp only [lg_cmp_lt, lg_cmp_le, lg_cmp_ge, lg_cmp_gt, lg_cmp_eq] at kg11); (try simp only [lg_cmp_lt, lg_cmp_le, lg_cmp_ge, lg_cmp_gt, lg_cmp_eq] at kg12); (try simp only [lg_cmp_lt, lg_cmp_le, lg_cmp_ge, lg_cmp_gt, lg_cmp_eq, fa_lt, fa_le, fa_eq, fa_lt64, fa_le64, fa_eq64, Int32.toInt_toInt64, li_0, lj_0, li_999, lj_999] at kg5); (try simp only [lg_cmp_lt, lg_cmp_le, lg_cmp_ge, lg_cmp_gt, lg_cmp_eq, fa_lt, fa_le, fa_eq, fa_lt64, fa_le64, fa_eq64, Int32.toInt_toInt64, li_0, lj_0, li_999, lj_999] at kg6); (try simp only [lg_cmp_lt, lg_cmp_le, lg_cmp_ge, lg_cmp_gt, lg_cmp_eq, fa_lt, fa_le, fa_eq, fa_lt64, fa_le64, fa_eq64, Int32.toInt_toInt64, li_0, lj_0, li_999, lj_999] at kg11); (try simp only [lg_cmp_lt, lg_cmp_le, lg_cmp_ge, lg_cmp_gt, lg_cmp_eq, fa_lt, fa_le, fa_eq, fa_lt64, fa_le64, fa_eq64, Int32.toInt_toInt64, li_0, lj_0, li_999, lj_999] at kg12); (try simp only [lg_cmp_lt, lg_cmp_le, lg_cmp_ge, lg_cmp_gt, lg_cmp_eq, fa_lt, fa_le, fa_eq, fa_lt64, fa_le64, fa_eq64, Int32.toInt_toInt64, li_0, lj_0, li_999, lj_999] at kc15); rw [fa_eq, li_0]; omega)
        refine lv_iconst (v := 0) hx hb dX11_heightIn_65 (by decide) ?_
        refine lv_istore (lv' := [(4, .int 0), (3, .int 0), (0, .ref (a 200)), (1, .int 0), (2, .int 0)]) hx hb dX11_heightIn_66 hl (by decide) rfl (fun ls hl => ?_)
        refine lv_iload hx hb dX11_heightIn_68 (lv_at hl 0 rfl) ?_
        refine lv_if_eq (tgt := 83) hx hb dX11_heightIn_70 (by decide) (fun _ => ?_) (fun q => absurd (by decide) q)
        refine lv_aload_n hx hb dX11_heightIn_83 rfl (lv_at hl 2 rfl) ?_
        refine lv_iload_n hx hb dX11_heightIn_84 rfl (lv_at hl 3 rfl) ?_
        refine kVi (As := [.int 0]) (rest := []) (wr := [((a 202), .inl (cy 0, 2260, .inl (fun _ => 0))), ((a 203), .inl (cy 0, 6780, .inl (fun _ => 0))), ((a 204), .inl (cy 3, 3, .inl (fun _ => 0))), ((a 205), .inl (cy 0, 900, .inl (fun _ => 0))), ((a 206), .inl (cy 0, 64, .inl (fun _ => 0))), ((a 207), .inl (cy 0, 6, .inl (fun _ => 0))), ((a 209), .inl (cy 0, 61, .inl (fun _ => 0))), ((a 210), .inl (cy 0, 61, .inl (fun _ => 0))), ((a 211), .inl (cy 0, 61, .inl (fun _ => 0))), ((a 212), .inl (cy 0, 61, .inl (fun _ => 0))), ((a 213), .inl (cy 0, 61, .inl (fun _ => 0))), ((a 214), .inl (cy 2, 6, .inr (.inl (fun _ => 0)))), ((a 215), .inl (cy 2, 6, .inr (.inl (fun _ => 0)))), ((a 216), .inl (cy 0, 4, .inl (upd (upd (upd (upd (fun _ => 0) (0 : Int32).toNatClampNeg (-1)) (1 : Int32).toNatClampNeg (-1)) (2 : Int32).toNatClampNeg (-1)) (3 : Int32).toNatClampNeg (-1)))), ((a 217), .inl (cy 0, 4, .inl (fun _ => 0))), ((a 218), .inl (cy 2, 120, .inr (.inl (fun _ => 0)))), ((a 208), .inl (cy 0, 37, .inl (fun _ => 0)))]) hX hE (au_X11_lying_104 l D cy a) (cwVA 1 htA wd_1691 wd_1688 wd_10 wd_1690 wp_77 (by decide +kernel) ⟨by decide, by decide⟩) hP hD hS [17, 18] [0, 1, 2, 3, 4, 5, 6, 7, 8, 9, 10, 11, 12, 13, 14, 15, 16] rfl rfl (by decide +kernel) 0 rfl rfl rfl rfl hl.1 rfl (Nat.le_of_ble_eq_true rfl) dX11_heightIn_85 (by decide) (fun r_ W1 H locs hw hP hD hS => ?_)
        refine W.widen (k := 0) (n := 0) (by decide) (by decide) ?_
        obtain ⟨rfl, rfl⟩ := hw
        have hP : va_P D vwCl [((a 202), .inl (cy 0, 2260, .inl (fun _ => 0))), ((a 203), .inl (cy 0, 6780, .inl (fun _ => 0))), ((a 204), .inl (cy 3, 3, .inl (fun _ => 0))), ((a 205), .inl (cy 0, 900, .inl (fun _ => 0))), ((a 206), .inl (cy 0, 64, .inl (fun _ => 0))), ((a 207), .inl (cy 0, 6, .inl (fun _ => 0))), ((a 209), .inl (cy 0, 61, .inl (fun _ => 0))), ((a 210), .inl (cy 0, 61, .inl (fun _ => 0))), ((a 211), .inl (cy 0, 61, .inl (fun _ => 0))), ((a 212), .inl (cy 0, 61, .inl (fun _ => 0))), ((a 213), .inl (cy 0, 61, .inl (fun _ => 0))), ((a 214), .inl (cy 2, 6, .inr (.inl (fun _ => 0)))), ((a 215), .inl (cy 2, 6, .inr (.inl (fun _ => 0)))), ((a 216), .inl (cy 0, 4, .inl (upd (upd (upd (upd (fun _ => 0) (0 : Int32).toNatClampNeg (-1)) (1 : Int32).toNatClampNeg (-1)) (2 : Int32).toNatClampNeg (-1)) (3 : Int32).toNatClampNeg (-1)))), ((a 217), .inl (cy 0, 4, .inl (fun _ => 0))), ((a 218), .inl (cy 2, 120, .inr (.inl (fun _ => 0)))), ((a 208), .inl (cy 0, 37, .inl (fun _ => 0))), ((a 200), .inr (11, [.ref (a 201), .ref (a 202), .ref (a 203), .ref (a 204), .int 0, .ref (a 205), .int 0, .int 0, .int 0, .int 0, .int 0, .int 0, .int 0, .int 0, .int 0, .int (-1), .int 0, .int 0, .int 0, .ref (a 206), .ref (a 207), .int 0, .int 0, .ref (a 208), .int 0, .int 0, .int 0, .int 0, .ref (a 209), .ref (a 210), .ref (a 211), .ref (a 212), .ref (a 213), .ref (a 214), .ref (a 215), .int 0, .ref (a 216), .ref (a 217), .ref (a 218)])), ((a 201), .inl (cy 0, 2260, .inl (upd (upd (fun _ => 0) (1 : Int32).toNatClampNeg 1) (2 : Int32).toNatClampNeg 1)))] H := hP
        have hD := va_ca hP hD
        refine lv_istore (lv' := [(5, .int 0), (4, .int 0), (3, .int 0), (0, .ref (a 200)), (1, .int 0), (2, .int 0)]) hx hb dX11_heightIn_88 hl (by decide) rfl (fun ls hl => ?_)
        refine lv_aload_n hx hb dX11_heightIn_90 rfl (lv_at hl 3 rfl) ?_
        refine kVv (As := []) (rest := []) (wr := [((a 202), .inl (cy 0, 2260, .inl (fun _ => 0))), ((a 203), .inl (cy 0, 6780, .inl (fun _ => 0))), ((a 204), .inl (cy 3, 3, .inl (fun _ => 0))), ((a 205), .inl (cy 0, 900, .inl (fun _ => 0))), ((a 206), .inl (cy 0, 64, .inl (fun _ => 0))), ((a 207), .inl (cy 0, 6, .inl (fun _ => 0))), ((a 209), .inl (cy 0, 61, .inl (fun _ => 0))), ((a 210), .inl (cy 0, 61, .inl (fun _ => 0))), ((a 211), .inl (cy 0, 61, .inl (fun _ => 0))), ((a 212), .inl (cy 0, 61, .inl (fun _ => 0))), ((a 213), .inl (cy 0, 61, .inl (fun _ => 0))), ((a 214), .inl (cy 2, 6, .inr (.inl (fun _ => 0)))), ((a 215), .inl (cy 2, 6, .inr (.inl (fun _ => 0)))), ((a 216), .inl (cy 0, 4, .inl (upd (upd (upd (upd (fun _ => 0) (0 : Int32).toNatClampNeg (-1)) (1 : Int32).toNatClampNeg (-1)) (2 : Int32).toNatClampNeg (-1)) (3 : Int32).toNatClampNeg (-1)))), ((a 217), .inl (cy 0, 4, .inl (fun _ => 0))), ((a 218), .inl (cy 2, 120, .inr (.inl (fun _ => 0))))]) hX hE (au_X11_putsBack_105 l D cy a) (cwVA 0 htA wd_1850 wd_1847 wd_10 wd_1849 wp_101 (by decide +kernel) ⟨by decide, by decide⟩) hP hD hS [16, 17, 18] [0, 1, 2, 3, 4, 5, 6, 7, 8, 9, 10, 11, 12, 13, 14, 15] rfl rfl (by decide +kernel) 1 rfl rfl rfl rfl hl.1 rfl (Nat.le_of_ble_eq_true rfl) dX11_heightIn_91 (by decide) (fun W1 H locs hw hP hD hS => ?_)
        refine W.widen (k := 0) (n := 0) (by decide) (by decide) ?_
        obtain rfl := hw
        have hP : va_P D vwCl [((a 202), .inl (cy 0, 2260, .inl (fun _ => 0))), ((a 203), .inl (cy 0, 6780, .inl (fun _ => 0))), ((a 204), .inl (cy 3, 3, .inl (fun _ => 0))), ((a 205), .inl (cy 0, 900, .inl (fun _ => 0))), ((a 206), .inl (cy 0, 64, .inl (fun _ => 0))), ((a 207), .inl (cy 0, 6, .inl (fun _ => 0))), ((a 209), .inl (cy 0, 61, .inl (fun _ => 0))), ((a 210), .inl (cy 0, 61, .inl (fun _ => 0))), ((a 211), .inl (cy 0, 61, .inl (fun _ => 0))), ((a 212), .inl (cy 0, 61, .inl (fun _ => 0))), ((a 213), .inl (cy 0, 61, .inl (fun _ => 0))), ((a 214), .inl (cy 2, 6, .inr (.inl (fun _ => 0)))), ((a 215), .inl (cy 2, 6, .inr (.inl (fun _ => 0)))), ((a 216), .inl (cy 0, 4, .inl (upd (upd (upd (upd (fun _ => 0) (0 : Int32).toNatClampNeg (-1)) (1 : Int32).toNatClampNeg (-1)) (2 : Int32).toNatClampNeg (-1)) (3 : Int32).toNatClampNeg (-1)))), ((a 217), .inl (cy 0, 4, .inl (fun _ => 0))), ((a 218), .inl (cy 2, 120, .inr (.inl (fun _ => 0)))), ((a 208), .inl (cy 0, 37, .inl (fun _ => 0))), ((a 200), .inr (11, [.ref (a 201), .ref (a 202), .ref (a 203), .ref (a 204), .int 0, .ref (a 205), .int 0, .int 0, .int 0, .int 0, .int 0, .int 0, .int 0, .int 0, .int 0, .int (-1), .int 0, .int 0, .int 0, .ref (a 206), .ref (a 207), .int 0, .int 0, .ref (a 208), .int 0, .int 0, .int 0, .int 0, .ref (a 209), .ref (a 210), .ref (a 211), .ref (a 212), .ref (a 213), .ref (a 214), .ref (a 215), .int 0, .ref (a 216), .ref (a 217), .ref (a 218)])), ((a 201), .inl (cy 0, 2260, .inl (upd (upd (fun _ => 0) (1 : Int32).toNatClampNeg 1) (2 : Int32).toNatClampNeg 1)))] H := hP
        have hD := va_ca hP hD
        refine lv_iload hx hb dX11_heightIn_94 (lv_at hl 0 rfl) ?_
        exact rI hX hE (hP.sub [17] rfl) (hD.sub [17] (by decide +kernel) rfl) hS dX11_heightIn_96 (by decide) (by decide) (⟨_, rfl, (by have kg5 := g5; have kg6 := g6; have kg11 := g11; have kg12 := g12; have kc15 := c15; (try simp only [lg_cmp_lt, lg_cmp_le, lg_cmp_ge, lg_cmp_gt, lg_cmp_eq] at kg5); (try simp only [lg_cmp_lt, lg_cmp_le, lg_cmp_ge, lg_cmp_gt, lg_cmp_eq] at kg6); (try simp only [lg_cmp_lt, lg_cmp_le, lg_cmp_ge, lg_cmp_gt, lg_cmp_eq] at kg11); (try simp only [lg_cmp_lt, lg_cmp_le, lg_cmp_ge, lg_cmp_gt, lg_cmp_eq] at kg12); (try simp only [lg_cmp_lt, lg_cmp_le, lg_cmp_ge, lg_cmp_gt, lg_cmp_eq, fa_lt, fa_le, fa_eq, fa_lt64, fa_le64, fa_eq64, Int32.toInt_toInt64, li_0, lj_0, li_999, lj_999] at kg5); (try simp only [lg_cmp_lt, lg_cmp_le, lg_cmp_ge, lg_cmp_gt, lg_cmp_eq, fa_lt, fa_le, fa_eq, fa_lt64, fa_le64, fa_eq64, Int32.toInt_toInt64, li_0, lj_0, li_999, lj_999] at kg6); (try simp only [lg_cmp_lt, lg_cmp_le, lg_cmp_ge, lg_cmp_gt, lg_cmp_eq, fa_lt, fa_le, fa_eq, fa_lt64, fa_le64, fa_eq64, Int32.toInt_toInt64, li_0, lj_0, li_999, lj_999] at kg11); (try simp only [lg_cmp_lt, lg_cmp_le, lg_cmp_ge, lg_cmp_gt, lg_cmp_eq, fa_lt, fa_le, fa_eq, fa_lt64, fa_le64, fa_eq64, Int32.toInt_toInt64, li_0, lj_0, li_999, lj_999] at kg12); (try simp only [lg_cmp_lt, lg_cmp_le, lg_cmp_ge, lg_cmp_gt, lg_cmp_eq, fa_lt, fa_le, fa_eq, fa_lt64, fa_le64, fa_eq64, Int32.toInt_toInt64, li_0, lj_0, li_999, lj_999] at kc15); first | rfl | (congr 2; first | rfl | (unfold kf_heightIn; (try simp only [li_0, and_self, and_true, true_and, if_true]); (repeat' split) <;> first | rfl | (exfalso; omega)))), (fun _ => (by have kg5 := g5; have kg6 := g6; have kg11 := g11; have kg12 := g12; have kc15 := c15; (try simp only [lg_cmp_lt, lg_cmp_le, lg_cmp_ge, lg_cmp_gt, lg_cmp_eq] at kg5); (try simp only [lg_cmp_lt, lg_cmp_le, lg_cmp_ge, lg_cmp_gt, lg_cmp_eq] at kg6); (try simp only [lg_cmp_lt, lg_cmp_le, lg_cmp_ge, lg_cmp_gt, lg_cmp_eq] at kg11); (try simp only [lg_cmp_lt, lg_cmp_le, lg_cmp_ge, lg_cmp_gt, lg_cmp_eq] at kg12); (try simp only [lg_cmp_lt, lg_cmp_le, lg_cmp_ge, lg_cmp_gt, lg_cmp_eq, fa_lt, fa_le, fa_eq, fa_lt64, fa_le64, fa_eq64, Int32.toInt_toInt64, li_0, lj_0, li_999, lj_999] at kg5); (try simp only [lg_cmp_lt, lg_cmp_le, lg_cmp_ge, lg_cmp_gt, lg_cmp_eq, fa_lt, fa_le, fa_eq, fa_lt64, fa_le64, fa_eq64, Int32.toInt_toInt64, li_0, lj_0, li_999, lj_999] at kg6); (try simp only [lg_cmp_lt, lg_cmp_le, lg_cmp_ge, lg_cmp_gt, lg_cmp_eq, fa_lt, fa_le, fa_eq, fa_lt64, fa_le64, fa_eq64, Int32.toInt_toInt64, li_0, lj_0, li_999, lj_999] at kg11); (try simp only [lg_cmp_lt, lg_cmp_le, lg_cmp_ge, lg_cmp_gt, lg_cmp_eq, fa_lt, fa_le, fa_eq, fa_lt64, fa_le64, fa_eq64, Int32.toInt_toInt64, li_0, lj_0, li_999, lj_999] at kg12); (try simp only [lg_cmp_lt, lg_cmp_le, lg_cmp_ge, lg_cmp_gt, lg_cmp_eq, fa_lt, fa_le, fa_eq, fa_lt64, fa_le64, fa_eq64, Int32.toInt_toInt64, li_0, lj_0, li_999, lj_999] at kc15); first | rfl | decide | (unfold vf_heightIn; (try simp only [li_0, and_self, and_true, true_and, if_true]); (repeat' split) <;> first | rfl | decide | (exfalso; omega))))⟩)
      · refine lv_iconst (v := 1) hx hb dX11_heightIn_61 (by decide) ?_
        refine lv_goto (tgt := 66) hx hb dX11_heightIn_62 (by decide) ?_
        refine lv_istore (lv' := [(4, .int 1), (3, .int p2), (0, .ref (a 200)), (1, .int 0), (2, .int p2)]) hx hb dX11_heightIn_66 hl (by decide) rfl (fun ls hl => ?_)
        refine lv_iload hx hb dX11_heightIn_68 (lv_at hl 0 rfl) ?_
        refine lv_if_eq (tgt := 83) hx hb dX11_heightIn_70 (by decide) (fun q => absurd q (by decide)) (fun _ => ?_)
        refine lv_aload_n hx hb dX11_heightIn_73 rfl (lv_at hl 2 rfl) ?_
        refine lv_iload_n hx hb dX11_heightIn_74 rfl (lv_at hl 1 rfl) ?_
        refine kVi (As := [.int p2]) (rest := []) (wr := [((a 202), .inl (cy 0, 2260, .inl (fun _ => 0))), ((a 203), .inl (cy 0, 6780, .inl (fun _ => 0))), ((a 204), .inl (cy 3, 3, .inl (fun _ => 0))), ((a 205), .inl (cy 0, 900, .inl (fun _ => 0))), ((a 206), .inl (cy 0, 64, .inl (fun _ => 0))), ((a 207), .inl (cy 0, 6, .inl (fun _ => 0))), ((a 209), .inl (cy 0, 61, .inl (fun _ => 0))), ((a 210), .inl (cy 0, 61, .inl (fun _ => 0))), ((a 211), .inl (cy 0, 61, .inl (fun _ => 0))), ((a 212), .inl (cy 0, 61, .inl (fun _ => 0))), ((a 213), .inl (cy 0, 61, .inl (fun _ => 0))), ((a 214), .inl (cy 2, 6, .inr (.inl (fun _ => 0)))), ((a 215), .inl (cy 2, 6, .inr (.inl (fun _ => 0)))), ((a 216), .inl (cy 0, 4, .inl (upd (upd (upd (upd (fun _ => 0) (0 : Int32).toNatClampNeg (-1)) (1 : Int32).toNatClampNeg (-1)) (2 : Int32).toNatClampNeg (-1)) (3 : Int32).toNatClampNeg (-1)))), ((a 217), .inl (cy 0, 4, .inl (fun _ => 0))), ((a 218), .inl (cy 2, 120, .inr (.inl (fun _ => 0)))), ((a 208), .inl (cy 0, 37, .inl (fun _ => 0)))]) hX hE (au_X11_nextFall_109 l D cy a p2) (cwVA 1 htA wd_1889 wd_1886 wd_10 wd_1888 wp_105 (by decide +kernel) ⟨by decide, by decide⟩) hP hD hS [17, 18] [0, 1, 2, 3, 4, 5, 6, 7, 8, 9, 10, 11, 12, 13, 14, 15, 16] rfl rfl (by decide +kernel) 0 rfl rfl rfl rfl hl.1 rfl (Nat.le_of_ble_eq_true rfl) dX11_heightIn_75 (by decide) (fun r_ W1 H locs hw hP hD hS => ?_)
        refine W.widen (k := 0) (n := 0) (by decide) (by decide) ?_
        rcases hw with ⟨g16, rfl, rfl⟩ | ⟨g17, rfl, rfl⟩
        · exact (by have kg5 := g5; have kg6 := g6; have kg11 := g11; have kg12 := g12; have kc15 := c15; have kg16 := g16; (try simp only [lg_cmp_lt, lg_cmp_le, lg_cmp_ge, lg_cmp_gt, lg_cmp_eq] at kg5); (try simp only [lg_cmp_lt, lg_cmp_le, lg_cmp_ge, lg_cmp_gt, lg_cmp_eq] at kg6); (try simp only [lg_cmp_lt, lg_cmp_le, lg_cmp_ge, lg_cmp_gt, lg_cmp_eq] at kg11); (try simp only [lg_cmp_lt, lg_cmp_le, lg_cmp_ge, lg_cmp_gt, lg_cmp_eq] at kg12); (try simp only [lg_cmp_lt, lg_cmp_le, lg_cmp_ge, lg_cmp_gt, lg_cmp_eq, fa_lt, fa_le, fa_eq, fa_lt64, fa_le64, fa_eq64, Int32.toInt_toInt64, li_0, lj_0, li_999, lj_999, li_536870912, lj_536870912] at kg5); (try simp only [lg_cmp_lt, lg_cmp_le, lg_cmp_ge, lg_cmp_gt, lg_cmp_eq, fa_lt, fa_le, fa_eq, fa_lt64, fa_le64, fa_eq64, Int32.toInt_toInt64, li_0, lj_0, li_999, lj_999, li_536870912, lj_536870912] at kg6); (try simp only [lg_cmp_lt, lg_cmp_le, lg_cmp_ge, lg_cmp_gt, lg_cmp_eq, fa_lt, fa_le, fa_eq, fa_lt64, fa_le64, fa_eq64, Int32.toInt_toInt64, li_0, lj_0, li_999, lj_999, li_536870912, lj_536870912] at kg11); (try simp only [lg_cmp_lt, lg_cmp_le, lg_cmp_ge, lg_cmp_gt, lg_cmp_eq, fa_lt, fa_le, fa_eq, fa_lt64, fa_le64, fa_eq64, Int32.toInt_toInt64, li_0, lj_0, li_999, lj_999, li_536870912, lj_536870912] at kg12); (try simp only [lg_cmp_lt, lg_cmp_le, lg_cmp_ge, lg_cmp_gt, lg_cmp_eq, fa_lt, fa_le, fa_eq, fa_lt64, fa_le64, fa_eq64, Int32.toInt_toInt64, li_0, lj_0, li_999, lj_999, li_536870912, lj_536870912] at kc15); (try simp only [lg_cmp_lt, lg_cmp_le, lg_cmp_ge, lg_cmp_gt, lg_cmp_eq, fa_lt, fa_le, fa_eq, fa_lt64, fa_le64, fa_eq64, Int32.toInt_toInt64, li_0, lj_0, li_999, lj_999, li_536870912, lj_536870912] at kg16); exfalso; omega)
        · have hP : va_P D vwCl [((a 202), .inl (cy 0, 2260, .inl (fun _ => 0))), ((a 203), .inl (cy 0, 6780, .inl (fun _ => 0))), ((a 204), .inl (cy 3, 3, .inl (fun _ => 0))), ((a 205), .inl (cy 0, 900, .inl (fun _ => 0))), ((a 206), .inl (cy 0, 64, .inl (fun _ => 0))), ((a 207), .inl (cy 0, 6, .inl (fun _ => 0))), ((a 209), .inl (cy 0, 61, .inl (fun _ => 0))), ((a 210), .inl (cy 0, 61, .inl (fun _ => 0))), ((a 211), .inl (cy 0, 61, .inl (fun _ => 0))), ((a 212), .inl (cy 0, 61, .inl (fun _ => 0))), ((a 213), .inl (cy 0, 61, .inl (fun _ => 0))), ((a 214), .inl (cy 2, 6, .inr (.inl (fun _ => 0)))), ((a 215), .inl (cy 2, 6, .inr (.inl (fun _ => 0)))), ((a 216), .inl (cy 0, 4, .inl (upd (upd (upd (upd (fun _ => 0) (0 : Int32).toNatClampNeg (-1)) (1 : Int32).toNatClampNeg (-1)) (2 : Int32).toNatClampNeg (-1)) (3 : Int32).toNatClampNeg (-1)))), ((a 217), .inl (cy 0, 4, .inl (fun _ => 0))), ((a 218), .inl (cy 2, 120, .inr (.inl (fun _ => 0)))), ((a 208), .inl (cy 0, 37, .inl (fun _ => 0))), ((a 200), .inr (11, [.ref (a 201), .ref (a 202), .ref (a 203), .ref (a 204), .int 0, .ref (a 205), .int 0, .int 0, .int 0, .int 0, .int 0, .int 0, .int 0, .int 0, .int 0, .int (-1), .int 0, .int 0, .int 0, .ref (a 206), .ref (a 207), .int 0, .int 0, .ref (a 208), .int 0, .int 0, .int 0, .int 0, .ref (a 209), .ref (a 210), .ref (a 211), .ref (a 212), .ref (a 213), .ref (a 214), .ref (a 215), .int 0, .ref (a 216), .ref (a 217), .ref (a 218)])), ((a 201), .inl (cy 0, 2260, .inl (upd (upd (fun _ => 0) (1 : Int32).toNatClampNeg 1) (2 : Int32).toNatClampNeg 1)))] H := hP
          have hD := va_ca hP hD
          refine lv_istore (lv' := [(4, .int 0), (3, .int p2), (0, .ref (a 200)), (1, .int 0), (2, .int p2)]) hx hb dX11_heightIn_78 hl (by decide) rfl (fun ls hl => ?_)
          refine lv_goto (tgt := 68) hx hb dX11_heightIn_80 (by decide) ?_
          refine lv_iload hx hb dX11_heightIn_68 (lv_at hl 0 rfl) ?_
          refine lv_if_eq (tgt := 83) hx hb dX11_heightIn_70 (by decide) (fun _ => ?_) (fun q => absurd (by decide) q)
          refine lv_aload_n hx hb dX11_heightIn_83 rfl (lv_at hl 2 rfl) ?_
          refine lv_iload_n hx hb dX11_heightIn_84 rfl (lv_at hl 3 rfl) ?_
          refine kVi (As := [.int 0]) (rest := []) (wr := [((a 202), .inl (cy 0, 2260, .inl (fun _ => 0))), ((a 203), .inl (cy 0, 6780, .inl (fun _ => 0))), ((a 204), .inl (cy 3, 3, .inl (fun _ => 0))), ((a 205), .inl (cy 0, 900, .inl (fun _ => 0))), ((a 206), .inl (cy 0, 64, .inl (fun _ => 0))), ((a 207), .inl (cy 0, 6, .inl (fun _ => 0))), ((a 209), .inl (cy 0, 61, .inl (fun _ => 0))), ((a 210), .inl (cy 0, 61, .inl (fun _ => 0))), ((a 211), .inl (cy 0, 61, .inl (fun _ => 0))), ((a 212), .inl (cy 0, 61, .inl (fun _ => 0))), ((a 213), .inl (cy 0, 61, .inl (fun _ => 0))), ((a 214), .inl (cy 2, 6, .inr (.inl (fun _ => 0)))), ((a 215), .inl (cy 2, 6, .inr (.inl (fun _ => 0)))), ((a 216), .inl (cy 0, 4, .inl (upd (upd (upd (upd (fun _ => 0) (0 : Int32).toNatClampNeg (-1)) (1 : Int32).toNatClampNeg (-1)) (2 : Int32).toNatClampNeg (-1)) (3 : Int32).toNatClampNeg (-1)))), ((a 217), .inl (cy 0, 4, .inl (fun _ => 0))), ((a 218), .inl (cy 2, 120, .inr (.inl (fun _ => 0)))), ((a 208), .inl (cy 0, 37, .inl (fun _ => 0)))]) hX hE (au_X11_lying_104 l D cy a) (cwVA 1 htA wd_1691 wd_1688 wd_10 wd_1690 wp_77 (by decide +kernel) ⟨by decide, by decide⟩) hP hD hS [17, 18] [0, 1, 2, 3, 4, 5, 6, 7, 8, 9, 10, 11, 12, 13, 14, 15, 16] rfl rfl (by decide +kernel) 0 rfl rfl rfl rfl hl.1 rfl (Nat.le_of_ble_eq_true rfl) dX11_heightIn_85 (by decide) (fun r_ W1 H locs hw hP hD hS => ?_)
          refine W.widen (k := 0) (n := 0) (by decide) (by decide) ?_
          obtain ⟨rfl, rfl⟩ := hw
          have hP : va_P D vwCl [((a 202), .inl (cy 0, 2260, .inl (fun _ => 0))), ((a 203), .inl (cy 0, 6780, .inl (fun _ => 0))), ((a 204), .inl (cy 3, 3, .inl (fun _ => 0))), ((a 205), .inl (cy 0, 900, .inl (fun _ => 0))), ((a 206), .inl (cy 0, 64, .inl (fun _ => 0))), ((a 207), .inl (cy 0, 6, .inl (fun _ => 0))), ((a 209), .inl (cy 0, 61, .inl (fun _ => 0))), ((a 210), .inl (cy 0, 61, .inl (fun _ => 0))), ((a 211), .inl (cy 0, 61, .inl (fun _ => 0))), ((a 212), .inl (cy 0, 61, .inl (fun _ => 0))), ((a 213), .inl (cy 0, 61, .inl (fun _ => 0))), ((a 214), .inl (cy 2, 6, .inr (.inl (fun _ => 0)))), ((a 215), .inl (cy 2, 6, .inr (.inl (fun _ => 0)))), ((a 216), .inl (cy 0, 4, .inl (upd (upd (upd (upd (fun _ => 0) (0 : Int32).toNatClampNeg (-1)) (1 : Int32).toNatClampNeg (-1)) (2 : Int32).toNatClampNeg (-1)) (3 : Int32).toNatClampNeg (-1)))), ((a 217), .inl (cy 0, 4, .inl (fun _ => 0))), ((a 218), .inl (cy 2, 120, .inr (.inl (fun _ => 0)))), ((a 208), .inl (cy 0, 37, .inl (fun _ => 0))), ((a 200), .inr (11, [.ref (a 201), .ref (a 202), .ref (a 203), .ref (a 204), .int 0, .ref (a 205), .int 0, .int 0, .int 0, .int 0, .int 0, .int 0, .int 0, .int 0, .int 0, .int (-1), .int 0, .int 0, .int 0, .ref (a 206), .ref (a 207), .int 0, .int 0, .ref (a 208), .int 0, .int 0, .int 0, .int 0, .ref (a 209), .ref (a 210), .ref (a 211), .ref (a 212), .ref (a 213), .ref (a 214), .ref (a 215), .int 0, .ref (a 216), .ref (a 217), .ref (a 218)])), ((a 201), .inl (cy 0, 2260, .inl (upd (upd (fun _ => 0) (1 : Int32).toNatClampNeg 1) (2 : Int32).toNatClampNeg 1)))] H := hP
          have hD := va_ca hP hD
          refine lv_istore (lv' := [(5, .int 0), (4, .int 0), (3, .int p2), (0, .ref (a 200)), (1, .int 0), (2, .int p2)]) hx hb dX11_heightIn_88 hl (by decide) rfl (fun ls hl => ?_)
          refine lv_aload_n hx hb dX11_heightIn_90 rfl (lv_at hl 3 rfl) ?_
          refine kVv (As := []) (rest := []) (wr := [((a 202), .inl (cy 0, 2260, .inl (fun _ => 0))), ((a 203), .inl (cy 0, 6780, .inl (fun _ => 0))), ((a 204), .inl (cy 3, 3, .inl (fun _ => 0))), ((a 205), .inl (cy 0, 900, .inl (fun _ => 0))), ((a 206), .inl (cy 0, 64, .inl (fun _ => 0))), ((a 207), .inl (cy 0, 6, .inl (fun _ => 0))), ((a 209), .inl (cy 0, 61, .inl (fun _ => 0))), ((a 210), .inl (cy 0, 61, .inl (fun _ => 0))), ((a 211), .inl (cy 0, 61, .inl (fun _ => 0))), ((a 212), .inl (cy 0, 61, .inl (fun _ => 0))), ((a 213), .inl (cy 0, 61, .inl (fun _ => 0))), ((a 214), .inl (cy 2, 6, .inr (.inl (fun _ => 0)))), ((a 215), .inl (cy 2, 6, .inr (.inl (fun _ => 0)))), ((a 216), .inl (cy 0, 4, .inl (upd (upd (upd (upd (fun _ => 0) (0 : Int32).toNatClampNeg (-1)) (1 : Int32).toNatClampNeg (-1)) (2 : Int32).toNatClampNeg (-1)) (3 : Int32).toNatClampNeg (-1)))), ((a 217), .inl (cy 0, 4, .inl (fun _ => 0))), ((a 218), .inl (cy 2, 120, .inr (.inl (fun _ => 0))))]) hX hE (au_X11_putsBack_105 l D cy a) (cwVA 0 htA wd_1850 wd_1847 wd_10 wd_1849 wp_101 (by decide +kernel) ⟨by decide, by decide⟩) hP hD hS [16, 17, 18] [0, 1, 2, 3, 4, 5, 6, 7, 8, 9, 10, 11, 12, 13, 14, 15] rfl rfl (by decide +kernel) 1 rfl rfl rfl rfl hl.1 rfl (Nat.le_of_ble_eq_true rfl) dX11_heightIn_91 (by decide) (fun W1 H locs hw hP hD hS => ?_)
          refine W.widen (k := 0) (n := 0) (by decide) (by decide) ?_
          obtain rfl := hw
          have hP : va_P D vwCl [((a 202), .inl (cy 0, 2260, .inl (fun _ => 0))), ((a 203), .inl (cy 0, 6780, .inl (fun _ => 0))), ((a 204), .inl (cy 3, 3, .inl (fun _ => 0))), ((a 205), .inl (cy 0, 900, .inl (fun _ => 0))), ((a 206), .inl (cy 0, 64, .inl (fun _ => 0))), ((a 207), .inl (cy 0, 6, .inl (fun _ => 0))), ((a 209), .inl (cy 0, 61, .inl (fun _ => 0))), ((a 210), .inl (cy 0, 61, .inl (fun _ => 0))), ((a 211), .inl (cy 0, 61, .inl (fun _ => 0))), ((a 212), .inl (cy 0, 61, .inl (fun _ => 0))), ((a 213), .inl (cy 0, 61, .inl (fun _ => 0))), ((a 214), .inl (cy 2, 6, .inr (.inl (fun _ => 0)))), ((a 215), .inl (cy 2, 6, .inr (.inl (fun _ => 0)))), ((a 216), .inl (cy 0, 4, .inl (upd (upd (upd (upd (fun _ => 0) (0 : Int32).toNatClampNeg (-1)) (1 : Int32).toNatClampNeg (-1)) (2 : Int32).toNatClampNeg (-1)) (3 : Int32).toNatClampNeg (-1)))), ((a 217), .inl (cy 0, 4, .inl (fun _ => 0))), ((a 218), .inl (cy 2, 120, .inr (.inl (fun _ => 0)))), ((a 208), .inl (cy 0, 37, .inl (fun _ => 0))), ((a 200), .inr (11, [.ref (a 201), .ref (a 202), .ref (a 203), .ref (a 204), .int 0, .ref (a 205), .int 0, .int 0, .int 0, .int 0, .int 0, .int 0, .int 0, .int 0, .int 0, .int (-1), .int 0, .int 0, .int 0, .ref (a 206), .ref (a 207), .int 0, .int 0, .ref (a 208), .int 0, .int 0, .int 0, .int 0, .ref (a 209), .ref (a 210), .ref (a 211), .ref (a 212), .ref (a 213), .ref (a 214), .ref (a 215), .int 0, .ref (a 216), .ref (a 217), .ref (a 218)])), ((a 201), .inl (cy 0, 2260, .inl (upd (upd (fun _ => 0) (1 : Int32).toNatClampNeg 1) (2 : Int32).toNatClampNeg 1)))] H := hP
          have hD := va_ca hP hD
          refine lv_iload hx hb dX11_heightIn_94 (lv_at hl 0 rfl) ?_
          exact rI hX hE (hP.sub [17] rfl) (hD.sub [17] (by decide +kernel) rfl) hS dX11_heightIn_96 (by decide) (by decide) (⟨_, rfl, (by have kg5 := g5; have kg6 := g6; have kg11 := g11; have kg12 := g12; have kc15 := c15; have kg17 := g17; (try simp only [lg_cmp_lt, lg_cmp_le, lg_cmp_ge, lg_cmp_gt, lg_cmp_eq] at kg5); (try simp only [lg_cmp_lt, lg_cmp_le, lg_cmp_ge, lg_cmp_gt, lg_cmp_eq] at kg6); (try simp only [lg_cmp_lt, lg_cmp_le, lg_cmp_ge, lg_cmp_gt, lg_cmp_eq] at kg11); (try simp only [lg_cmp_lt, lg_cmp_le, lg_cmp_ge, lg_cmp_gt, lg_cmp_eq] at kg12); (try simp only [lg_cmp_lt, lg_cmp_le, lg_cmp_ge, lg_cmp_gt, lg_cmp_eq, fa_lt, fa_le, fa_eq, fa_lt64, fa_le64, fa_eq64, Int32.toInt_toInt64, li_0, lj_0, li_999, lj_999, li_536870912, lj_536870912] at kg5); (try simp only [lg_cmp_lt, lg_cmp_le, lg_cmp_ge, lg_cmp_gt, lg_cmp_eq, fa_lt, fa_le, fa_eq, fa_lt64, fa_le64, fa_eq64, Int32.toInt_toInt64, li_0, lj_0, li_999, lj_999, li_536870912, lj_536870912] at kg6); (try simp only [lg_cmp_lt, lg_cmp_le, lg_cmp_ge, lg_cmp_gt, lg_cmp_eq, fa_lt, fa_le, fa_eq, fa_lt64, fa_le64, fa_eq64, Int32.toInt_toInt64, li_0, lj_0, li_999, lj_999, li_536870912, lj_536870912] at kg11); (try simp only [lg_cmp_lt, lg_cmp_le, lg_cmp_ge, lg_cmp_gt, lg_cmp_eq, fa_lt, fa_le, fa_eq, fa_lt64, fa_le64, fa_eq64, Int32.toInt_toInt64, li_0, lj_0, li_999, lj_999, li_536870912, lj_536870912] at kg12); (try simp only [lg_cmp_lt, lg_cmp_le, lg_cmp_ge, lg_cmp_gt, lg_cmp_eq, fa_lt, fa_le, fa_eq, fa_lt64, fa_le64, fa_eq64, Int32.toInt_toInt64, li_0, lj_0, li_999, lj_999, li_536870912, lj_536870912] at kc15); (try simp only [lg_cmp_lt, lg_cmp_le, lg_cmp_ge, lg_cmp_gt, lg_cmp_eq, fa_lt, fa_le, fa_eq, fa_lt64, fa_le64, fa_eq64, Int32.toInt_toInt64, li_0, lj_0, li_999, lj_999, li_536870912, lj_536870912] at kg17); first | rfl | (congr 2; first | rfl | (unfold kf_heightIn; (try simp only [li_0, and_self, and_true, true_and, if_true]); (repeat' split) <;> first | rfl | (exfalso; omega)))), (fun _ => (by have kg5 := g5; have kg6 := g6; have kg11 := g11; have kg12 := g12; have kc15 := c15; have kg17 := g17; (try simp only [lg_cmp_lt, lg_cmp_le, lg_cmp_ge, lg_cmp_gt, lg_cmp_eq] at kg5); (try simp only [lg_cmp_lt, lg_cmp_le, lg_cmp_ge, lg_cmp_gt, lg_cmp_eq] at kg6); (try simp only [lg_cmp_lt, lg_cmp_le, lg_cmp_ge, lg_cmp_gt, lg_cmp_eq] at kg11); (try simp only [lg_cmp_lt, lg_cmp_le, lg_cmp_ge, lg_cmp_gt, lg_cmp_eq] at kg12); (try simp only [lg_cmp_lt, lg_cmp_le, lg_cmp_ge, lg_cmp_gt, lg_cmp_eq, fa_lt, fa_le, fa_eq, fa_lt64, fa_le64, fa_eq64, Int32.toInt_toInt64, li_0, lj_0, li_999, lj_999, li_536870912, lj_536870912] at kg5); (try simp only [lg_cmp_lt, lg_cmp_le, lg_cmp_ge, lg_cmp_gt, lg_cmp_eq, fa_lt, fa_le, fa_eq, fa_lt64, fa_le64, fa_eq64, Int32.toInt_toInt64, li_0, lj_0, li_999, lj_999, li_536870912, lj_536870912] at kg6); (try simp only [lg_cmp_lt, lg_cmp_le, lg_cmp_ge, lg_cmp_gt, lg_cmp_eq, fa_lt, fa_le, fa_eq, fa_lt64, fa_le64, fa_eq64, Int32.toInt_toInt64, li_0, lj_0, li_999, lj_999, li_536870912, lj_536870912] at kg11); (try simp only [lg_cmp_lt, lg_cmp_le, lg_cmp_ge, lg_cmp_gt, lg_cmp_eq, fa_lt, fa_le, fa_eq, fa_lt64, fa_le64, fa_eq64, Int32.toInt_toInt64, li_0, lj_0, li_999, lj_999, li_536870912, lj_536870912] at kg12); (try simp only [lg_cmp_lt, lg_cmp_le, lg_cmp_ge, lg_cmp_gt, lg_cmp_eq, fa_lt, fa_le, fa_eq, fa_lt64, fa_le64, fa_eq64, Int32.toInt_toInt64, li_0, lj_0, li_999, lj_999, li_536870912, lj_536870912] at kc15); (try simp only [lg_cmp_lt, lg_cmp_le, lg_cmp_ge, lg_cmp_gt, lg_cmp_eq, fa_lt, fa_le, fa_eq, fa_lt64, fa_le64, fa_eq64, Int32.toInt_toInt64, li_0, lj_0, li_999, lj_999, li_536870912, lj_536870912] at kg17); first | rfl | decide | (unfold vf_heightIn; (try simp only [li_0, and_self, and_true, true_and, if_true]); (repeat' split) <;> first | rfl | decide | (exfalso; omega))))⟩)
set_option maxHeartbeats 4000000 in
set_option maxRecDepth 100000 in
theorem au_X11_within_110 (l : Launch) (D : va_G) (cy : Nat → ClassId) (a : Nat → Nat) (w1_ : Int64) : Ci l yX11_within cX11_within 6 (some .boolean) { frames := 0, cells := 0, slots := 0, locals := 0 } D cy [.long w1_, .long 1, .long 999] [] (fun r W1 => (((lg_cmp w1_ 1) < 0) ∧ W1 = [] ∧ r = 0) ∨ ((¬ (lg_cmp w1_ 1) < 0) ∧ (0 < (lg_cmp w1_ 999)) ∧ W1 = [] ∧ r = 0) ∨ ((¬ (lg_cmp w1_ 1) < 0) ∧ (¬ 0 < (lg_cmp w1_ 999)) ∧ W1 = [] ∧ r = 1)) := by
  refine Ci.of (by decide) (Nat.le_of_ble_eq_true rfl) ?_
  intro p e s m below meth c A ls hX hE hP hD hl
  obtain ⟨hx, hb, hr, hml, hown, htA, hlk⟩ := id hX
  have hK := hE.1
  have hS : va_S A s.heap s.heap [] := va_S.rf
  have hl : lv_has ls 6 [(0, .long w1_), (2, .long 1), (4, .long 999)] := hl
  refine lv_lload_n hx hb dX11_within_0 rfl (lv_at hl 0 rfl) ?_
  refine lv_lload_n hx hb dX11_within_1 rfl (lv_at hl 1 rfl) ?_
  refine W.lcmp hx hb dX11_within_2 ?_
  refine lv_if_lt (tgt := 17) hx hb dX11_within_3 (by decide) (fun c2 => ?_) (fun c2 => ?_)
  · refine lv_iconst (v := 0) hx hb dX11_within_17 (by decide) ?_
    exact rZ hX (by decide) hE hP hD hS dX11_within_18 (by decide) (by decide) (Or.inl (⟨c2, rfl, rfl⟩))
  · refine lv_lload_n hx hb dX11_within_6 rfl (lv_at hl 0 rfl) ?_
    refine lv_lload hx hb dX11_within_7 (lv_at hl 2 rfl) ?_
    refine W.lcmp hx hb dX11_within_9 ?_
    refine lv_if_gt (tgt := 17) hx hb dX11_within_10 (by decide) (fun c4 => ?_) (fun c4 => ?_)
    · refine lv_iconst (v := 0) hx hb dX11_within_17 (by decide) ?_
      exact rZ hX (by decide) hE hP hD hS dX11_within_18 (by decide) (by decide) (Or.inr (Or.inl (⟨c2, c4, rfl, rfl⟩)))
    · refine lv_iconst (v := 1) hx hb dX11_within_13 (by decide) ?_
      refine lv_goto (tgt := 18) hx hb dX11_within_14 (by decide) ?_
      exact rZ hX (by decide) hE hP hD hS dX11_within_18 (by decide) (by decide) (Or.inr (Or.inr (⟨c2, c4, rfl, rfl⟩)))
set_option maxHeartbeats 4000000 in
set_option maxRecDepth 100000 in
theorem au_X11_putsAside_111 (l : Launch) (D : va_G) (cy : Nat → ClassId) (a : Nat → Nat) : Cv l yX11_putsAside cX11_putsAside 2 none { frames := 0, cells := 0, slots := 0, locals := 0 } D cy [.ref (a 200)] [((a 200), .inr (11, [.ref (a 201), .ref (a 202), .ref (a 203), .ref (a 204), .int 0, .ref (a 205), .int 0, .int 0, .int 0, .int 0, .int 0, .int 0, .int 0, .int 0, .int 0, .int (-1), .int 0, .int 0, .int 0, .ref (a 206), .ref (a 207), .int 0, .int 0, .ref (a 208), .int 0, .int 0, .int 0, .int 0, .ref (a 209), .ref (a 210), .ref (a 211), .ref (a 212), .ref (a 213), .ref (a 214), .ref (a 215), .int 0, .ref (a 216), .ref (a 217), .ref (a 218)])), ((a 201), .inl (cy 0, 2260, .inl (upd (upd (fun _ => 0) (1 : Int32).toNatClampNeg 1) (2 : Int32).toNatClampNeg 1))), ((a 208), .inl (cy 0, 37, .inl (fun _ => 0)))] (fun W1 => (W1 = [((a 200), .inr (11, [.ref (a 201), .ref (a 202), .ref (a 203), .ref (a 204), .int 0, .ref (a 205), .int 0, .int 0, .int 0, .int 0, .int 0, .int 0, .int 0, .int 0, .int 0, .int (-1), .int 0, .int 0, .int 0, .ref (a 206), .ref (a 207), .int 0, .int 0, .ref (a 208), .int 0, .int 0, .int 0, .int 0, .ref (a 209), .ref (a 210), .ref (a 211), .ref (a 212), .ref (a 213), .ref (a 214), .ref (a 215), .int 0, .ref (a 216), .ref (a 217), .ref (a 218)])), ((a 201), .inl (cy 0, 2260, .inl (upd (upd (fun _ => 0) (1 : Int32).toNatClampNeg 1) (2 : Int32).toNatClampNeg 1))), ((a 208), .inl (cy 0, 37, .inl (fun _ => 0)))])) := by
  refine Cv.of (by decide) (Nat.le_of_ble_eq_true rfl) ?_
  intro p e s m below meth c A ls hX hE hP hD hl hin
  obtain ⟨hx, hb, hr, hml, hown, htA, hlk⟩ := id hX
  have hK := hE.1
  have hS : va_S A s.heap s.heap [] := va_S.rf
  have hl : lv_has ls 2 [(0, .ref (a 200))] := hl
  refine lv_iconst (v := 0) hx hb dX11_putsAside_0 (by decide) ?_
  refine lv_istore_n (lv' := [(1, .int 0), (0, .ref (a 200))]) hx hb dX11_putsAside_1 rfl hl (by decide) rfl (fun ls hl => ?_)
  refine lv_iload_n hx hb dX11_putsAside_2 rfl (lv_at hl 0 rfl) ?_
  refine lv_bipush (v := 37) hx hb dX11_putsAside_3 (by decide) ?_
  refine lv_icmp_ge (tgt := 29) hx hb dX11_putsAside_5 (by decide) (fun q => absurd q (by decide)) (fun _ => ?_)
  refine lv_aload_n hx hb dX11_putsAside_8 rfl (lv_at hl 1 rfl) ?_
  refine va_get (ci := 11) (v := .ref (a 208)) (C := RX11) (T := TX11) (N := 39) hx hb htA in_X11 hown hK hP 0 rfl rfl 23 (by decide) (htA _ wd_1377) (fun _ h => h) rfl dX11_putsAside_9 ?_
  refine lv_iload_n hx hb dX11_putsAside_12 rfl (lv_at hl 0 rfl) ?_
  refine lv_aload_n hx hb dX11_putsAside_13 rfl (lv_at hl 1 rfl) ?_
  refine va_get (ci := 11) (v := .ref (a 201)) (C := RX11) (T := TX11) (N := 39) hx hb htA in_X11 hown hK hP 0 rfl rfl 0 (by decide) (htA _ wd_1354) (fun _ h => h) rfl dX11_putsAside_14 ?_
  refine lv_bipush (v := 8) hx hb dX11_putsAside_17 (by decide) ?_
  refine lv_iload_n hx hb dX11_putsAside_19 rfl (lv_at hl 0 rfl) ?_
  refine lv_iadd hx hb dX11_putsAside_20 ?_
  refine lv_topi (fun x1 ex1 => ?_)
  obtain rfl : x1 = 8 := ex1.trans (by decide)
  refine va_iald hx hb hK hP 1 0 rfl rfl (in_lit (by decide)) dX11_putsAside_21 ?_
  refine lv_topi (fun x2 ex2 => ?_)
  obtain rfl : x2 = 0 := ex2.trans (by first | decide | rfl)
  refine va_iast hx hb hK hP hD hS 2 0 rfl rfl (in_lit (by decide)) dX11_putsAside_22 (fun H locs hP hD hS => ?_)
  rw [fa_upd_same (f := fun _ => 0) (i := (0 : Int32).toNatClampNeg) (x := 0) (by first | decide | rfl)] at hP hD
  have hP : va_P D vwCl [((a 200), .inr (11, [.ref (a 201), .ref (a 202), .ref (a 203), .ref (a 204), .int 0, .ref (a 205), .int 0, .int 0, .int 0, .int 0, .int 0, .int 0, .int 0, .int 0, .int 0, .int (-1), .int 0, .int 0, .int 0, .ref (a 206), .ref (a 207), .int 0, .int 0, .ref (a 208), .int 0, .int 0, .int 0, .int 0, .ref (a 209), .ref (a 210), .ref (a 211), .ref (a 212), .ref (a 213), .ref (a 214), .ref (a 215), .int 0, .ref (a 216), .ref (a 217), .ref (a 218)])), ((a 201), .inl (cy 0, 2260, .inl (upd (upd (fun _ => 0) (1 : Int32).toNatClampNeg 1) (2 : Int32).toNatClampNeg 1))), ((a 208), .inl (cy 0, 37, .inl (fun _ => 0)))] H := hP
  have hD := va_ca hP hD
  refine lv_iinc (v := 1) (lv' := [(1, .int 1), (0, .ref (a 200))]) hx hb dX11_putsAside_23 hl (k := 0) rfl (by decide) (by decide) rfl (fun ls hl => ?_)
  refine lv_goto (tgt := 2) hx hb dX11_putsAside_26 (by decide) ?_
  refine lv_iload_n hx hb dX11_putsAside_2 rfl (lv_at hl 0 rfl) ?_
  refine lv_bipush (v := 37) hx hb dX11_putsAside_3 (by decide) ?_
  refine lv_icmp_ge (tgt := 29) hx hb dX11_putsAside_5 (by decide) (fun q => absurd q (by decide)) (fun _ => ?_)
  refine lv_aload_n hx hb dX11_putsAside_8 rfl (lv_at hl 1 rfl) ?_
  refine va_get (ci := 11) (v := .ref (a 208)) (C := RX11) (T := TX11) (N := 39) hx hb htA in_X11 hown hK hP 0 rfl rfl 23 (by decide) (htA _ wd_1377) (fun _ h => h) rfl dX11_putsAside_9 ?_
  refine lv_iload_n hx hb dX11_putsAside_12 rfl (lv_at hl 0 rfl) ?_
  refine lv_aload_n hx hb dX11_putsAside_13 rfl (lv_at hl 1 rfl) ?_
  refine va_get (ci := 11) (v := .ref (a 201)) (C := RX11) (T := TX11) (N := 39) hx hb htA in_X11 hown hK hP 0 rfl rfl 0 (by decide) (htA _ wd_1354) (fun _ h => h) rfl dX11_putsAside_14 ?_
  refine lv_bipush (v := 8) hx hb dX11_putsAside_17 (by decide) ?_
  refine lv_iload_n hx hb dX11_putsAside_19 rfl (lv_at hl 0 rfl) ?_
  refine lv_iadd hx hb dX11_putsAside_20 ?_
  refine lv_topi (fun x3 ex3 => ?_)
  obtain rfl : x3 = 9 := ex3.trans (by decide)
  refine va_iald hx hb hK hP 1 0 rfl rfl (in_lit (by decide)) dX11_putsAside_21 ?_
  refine lv_topi (fun x4 ex4 => ?_)
  obtain rfl : x4 = 0 := ex4.trans (by first | decide | rfl)
  refine va_iast hx hb hK hP hD hS 2 0 rfl rfl (in_lit (by decide)) dX11_putsAside_22 (fun H locs hP hD hS => ?_)
  rw [fa_upd_same (f := fun _ => 0) (i := (1 : Int32).toNatClampNeg) (x := 0) (by first | decide | rfl)] at hP hD
  have hP : va_P D vwCl [((a 200), .inr (11, [.ref (a 201), .ref (a 202), .ref (a 203), .ref (a 204), .int 0, .ref (a 205), .int 0, .int 0, .int 0, .int 0, .int 0, .int 0, .int 0, .int 0, .int 0, .int (-1), .int 0, .int 0, .int 0, .ref (a 206), .ref (a 207), .int 0, .int 0, .ref (a 208), .int 0, .int 0, .int 0, .int 0, .ref (a 209), .ref (a 210), .ref (a 211), .ref (a 212), .ref (a 213), .ref (a 214), .ref (a 215), .int 0, .ref (a 216), .ref (a 217), .ref (a 218)])), ((a 201), .inl (cy 0, 2260, .inl (upd (upd (fun _ => 0) (1 : Int32).toNatClampNeg 1) (2 : Int32).toNatClampNeg 1))), ((a 208), .inl (cy 0, 37, .inl (fun _ => 0)))] H := hP
  have hD := va_ca hP hD
  refine lv_iinc (v := 2) (lv' := [(1, .int 2), (0, .ref (a 200))]) hx hb dX11_putsAside_23 hl (k := 0) rfl (by decide) (by decide) rfl (fun ls hl => ?_)
  refine lv_goto (tgt := 2) hx hb dX11_putsAside_26 (by decide) ?_
  refine lv_iload_n hx hb dX11_putsAside_2 rfl (lv_at hl 0 rfl) ?_
  refine lv_bipush (v := 37) hx hb dX11_putsAside_3 (by decide) ?_
  refine lv_icmp_ge (tgt := 29) hx hb dX11_putsAside_5 (by decide) (fun q => absurd q (by decide)) (fun _ => ?_)
  refine lv_aload_n hx hb dX11_putsAside_8 rfl (lv_at hl 1 rfl) ?_
  refine va_get (ci := 11) (v := .ref (a 208)) (C := RX11) (T := TX11) (N := 39) hx hb htA in_X11 hown hK hP 0 rfl rfl 23 (by decide) (htA _ wd_1377) (fun _ h => h) rfl dX11_putsAside_9 ?_
  refine lv_iload_n hx hb dX11_putsAside_12 rfl (lv_at hl 0 rfl) ?_
  refine lv_aload_n hx hb dX11_putsAside_13 rfl (lv_at hl 1 rfl) ?_
  refine va_get (ci := 11) (v := .ref (a 201)) (C := RX11) (T := TX11) (N := 39) hx hb htA in_X11 hown hK hP 0 rfl rfl 0 (by decide) (htA _ wd_1354) (fun _ h => h) rfl dX11_putsAside_14 ?_
  refine lv_bipush (v := 8) hx hb dX11_putsAside_17 (by decide) ?_
  refine lv_iload_n hx hb dX11_putsAside_19 rfl (lv_at hl 0 rfl) ?_
  refine lv_iadd hx hb dX11_putsAside_20 ?_
  refine lv_topi (fun x5 ex5 => ?_)
  obtain rfl : x5 = 10 := ex5.trans (by decide)
  refine va_iald hx hb hK hP 1 0 rfl rfl (in_lit (by decide)) dX11_putsAside_21 ?_
  refine lv_topi (fun x6 ex6 => ?_)
  obtain rfl : x6 = 0 := ex6.trans (by first | decide | rfl)
  refine va_iast hx hb hK hP hD hS 2 0 rfl rfl (in_lit (by decide)) dX11_putsAside_22 (fun H locs hP hD hS => ?_)
  rw [fa_upd_same (f := fun _ => 0) (i := (2 : Int32).toNatClampNeg) (x := 0) (by first | decide | rfl)] at hP hD
  have hP : va_P D vwCl [((a 200), .inr (11, [.ref (a 201), .ref (a 202), .ref (a 203), .ref (a 204), .int 0, .ref (a 205), .int 0, .int 0, .int 0, .int 0, .int 0, .int 0, .int 0, .int 0, .int 0, .int (-1), .int 0, .int 0, .int 0, .ref (a 206), .ref (a 207), .int 0, .int 0, .ref (a 208), .int 0, .int 0, .int 0, .int 0, .ref (a 209), .ref (a 210), .ref (a 211), .ref (a 212), .ref (a 213), .ref (a 214), .ref (a 215), .int 0, .ref (a 216), .ref (a 217), .ref (a 218)])), ((a 201), .inl (cy 0, 2260, .inl (upd (upd (fun _ => 0) (1 : Int32).toNatClampNeg 1) (2 : Int32).toNatClampNeg 1))), ((a 208), .inl (cy 0, 37, .inl (fun _ => 0)))] H := hP
  have hD := va_ca hP hD
  refine lv_iinc (v := 3) (lv' := [(1, .int 3), (0, .ref (a 200))]) hx hb dX11_putsAside_23 hl (k := 0) rfl (by decide) (by decide) rfl (fun ls hl => ?_)
  refine lv_goto (tgt := 2) hx hb dX11_putsAside_26 (by decide) ?_
  refine lv_iload_n hx hb dX11_putsAside_2 rfl (lv_at hl 0 rfl) ?_
  refine lv_bipush (v := 37) hx hb dX11_putsAside_3 (by decide) ?_
  refine lv_icmp_ge (tgt := 29) hx hb dX11_putsAside_5 (by decide) (fun q => absurd q (by decide)) (fun _ => ?_)
  refine lv_aload_n hx hb dX11_putsAside_8 rfl (lv_at hl 1 rfl) ?_
  refine va_get (ci := 11) (v := .ref (a 208)) (C := RX11) (T := TX11) (N := 39) hx hb htA in_X11 hown hK hP 0 rfl rfl 23 (by decide) (htA _ wd_1377) (fun _ h => h) rfl dX11_putsAside_9 ?_
  refine lv_iload_n hx hb dX11_putsAside_12 rfl (lv_at hl 0 rfl) ?_
  refine lv_aload_n hx hb dX11_putsAside_13 rfl (lv_at hl 1 rfl) ?_
  refine va_get (ci := 11) (v := .ref (a 201)) (C := RX11) (T := TX11) (N := 39) hx hb htA in_X11 hown hK hP 0 rfl rfl 0 (by decide) (htA _ wd_1354) (fun _ h => h) rfl dX11_putsAside_14 ?_
  refine lv_bipush (v := 8) hx hb dX11_putsAside_17 (by decide) ?_
  refine lv_iload_n hx hb dX11_putsAside_19 rfl (lv_at hl 0 rfl) ?_
  refine lv_iadd hx hb dX11_putsAside_20 ?_
  refine lv_topi (fun x7 ex7 => ?_)
  obtain rfl : x7 = 11 := ex7.trans (by decide)
  refine va_iald hx hb hK hP 1 0 rfl rfl (in_lit (by decide)) dX11_putsAside_21 ?_
  refine lv_topi (fun x8 ex8 => ?_)
  obtain rfl : x8 = 0 := ex8.trans (by first | decide | rfl)
  refine va_iast hx hb hK hP hD hS 2 0 rfl rfl (in_lit (by decide)) dX11_putsAside_22 (fun H locs hP hD hS => ?_)
  rw [fa_upd_same (f := fun _ => 0) (i := (3 : Int32).toNatClampNeg) (x := 0) (by first | decide | rfl)] at hP hD
  have hP : va_P D vwCl [((a 200), .inr (11, [.ref (a 201), .ref (a 202), .ref (a 203), .ref (a 204), .int 0, .ref (a 205), .int 0, .int 0, .int 0, .int 0, .int 0, .int 0, .int 0, .int 0, .int 0, .int (-1), .int 0, .int 0, .int 0, .ref (a 206), .ref (a 207), .int 0, .int 0, .ref (a 208), .int 0, .int 0, .int 0, .int 0, .ref (a 209), .ref (a 210), .ref (a 211), .ref (a 212), .ref (a 213), .ref (a 214), .ref (a 215), .int 0, .ref (a 216), .ref (a 217), .ref (a 218)])), ((a 201), .inl (cy 0, 2260, .inl (upd (upd (fun _ => 0) (1 : Int32).toNatClampNeg 1) (2 : Int32).toNatClampNeg 1))), ((a 208), .inl (cy 0, 37, .inl (fun _ => 0)))] H := hP
  have hD := va_ca hP hD
  refine lv_iinc (v := 4) (lv' := [(1, .int 4), (0, .ref (a 200))]) hx hb dX11_putsAside_23 hl (k := 0) rfl (by decide) (by decide) rfl (fun ls hl => ?_)
  refine lv_goto (tgt := 2) hx hb dX11_putsAside_26 (by decide) ?_
  refine lv_iload_n hx hb dX11_putsAside_2 rfl (lv_at hl 0 rfl) ?_
  refine lv_bipush (v := 37) hx hb dX11_putsAside_3 (by decide) ?_
  refine lv_icmp_ge (tgt := 29) hx hb dX11_putsAside_5 (by decide) (fun q => absurd q (by decide)) (fun _ => ?_)
  refine lv_aload_n hx hb dX11_putsAside_8 rfl (lv_at hl 1 rfl) ?_
  refine va_get (ci := 11) (v := .ref (a 208)) (C := RX11) (T := TX11) (N := 39) hx hb htA in_X11 hown hK hP 0 rfl rfl 23 (by decide) (htA _ wd_1377) (fun _ h => h) rfl dX11_putsAside_9 ?_
  refine lv_iload_n hx hb dX11_putsAside_12 rfl (lv_at hl 0 rfl) ?_
  refine lv_aload_n hx hb dX11_putsAside_13 rfl (lv_at hl 1 rfl) ?_
  refine va_get (ci := 11) (v := .ref (a 201)) (C := RX11) (T := TX11) (N := 39) hx hb htA in_X11 hown hK hP 0 rfl rfl 0 (by decide) (htA _ wd_1354) (fun _ h => h) rfl dX11_putsAside_14 ?_
  refine lv_bipush (v := 8) hx hb dX11_putsAside_17 (by decide) ?_
  refine lv_iload_n hx hb dX11_putsAside_19 rfl (lv_at hl 0 rfl) ?_
  refine lv_iadd hx hb dX11_putsAside_20 ?_
  refine lv_topi (fun x9 ex9 => ?_)
  obtain rfl : x9 = 12 := ex9.trans (by decide)
  refine va_iald hx hb hK hP 1 0 rfl rfl (in_lit (by decide)) dX11_putsAside_21 ?_
  refine lv_topi (fun x10 ex10 => ?_)
  obtain rfl : x10 = 0 := ex10.trans (by first | decide | rfl)
  refine va_iast hx hb hK hP hD hS 2 0 rfl rfl (in_lit (by decide)) dX11_putsAside_22 (fun H locs hP hD hS => ?_)
  rw [fa_upd_same (f := fun _ => 0) (i := (4 : Int32).toNatClampNeg) (x := 0) (by first | decide | rfl)] at hP hD
  have hP : va_P D vwCl [((a 200), .inr (11, [.ref (a 201), .ref (a 202), .ref (a 203), .ref (a 204), .int 0, .ref (a 205), .int 0, .int 0, .int 0, .int 0, .int 0, .int 0, .int 0, .int 0, .int 0, .int (-1), .int 0, .int 0, .int 0, .ref (a 206), .ref (a 207), .int 0, .int 0, .ref (a 208), .int 0, .int 0, .int 0, .int 0, .ref (a 209), .ref (a 210), .ref (a 211), .ref (a 212), .ref (a 213), .ref (a 214), .ref (a 215), .int 0, .ref (a 216), .ref (a 217), .ref (a 218)])), ((a 201), .inl (cy 0, 2260, .inl (upd (upd (fun _ => 0) (1 : Int32).toNatClampNeg 1) (2 : Int32).toNatClampNeg 1))), ((a 208), .inl (cy 0, 37, .inl (fun _ => 0)))] H := hP
  have hD := va_ca hP hD
  refine lv_iinc (v := 5) (lv' := [(1, .int 5), (0, .ref (a 200))]) hx hb dX11_putsAside_23 hl (k := 0) rfl (by decide) (by decide) rfl (fun ls hl => ?_)
  refine lv_goto (tgt := 2) hx hb dX11_putsAside_26 (by decide) ?_
  refine lv_iload_n hx hb dX11_putsAside_2 rfl (lv_at hl 0 rfl) ?_
  refine lv_bipush (v := 37) hx hb dX11_putsAside_3 (by decide) ?_
  refine lv_icmp_ge (tgt := 29) hx hb dX11_putsAside_5 (by decide) (fun q => absurd q (by decide)) (fun _ => ?_)
  refine lv_aload_n hx hb dX11_putsAside_8 rfl (lv_at hl 1 rfl) ?_
  refine va_get (ci := 11) (v := .ref (a 208)) (C := RX11) (T := TX11) (N := 39) hx hb htA in_X11 hown hK hP 0 rfl rfl 23 (by decide) (htA _ wd_1377) (fun _ h => h) rfl dX11_putsAside_9 ?_
  refine lv_iload_n hx hb dX11_putsAside_12 rfl (lv_at hl 0 rfl) ?_
  refine lv_aload_n hx hb dX11_putsAside_13 rfl (lv_at hl 1 rfl) ?_
  refine va_get (ci := 11) (v := .ref (a 201)) (C := RX11) (T := TX11) (N := 39) hx hb htA in_X11 hown hK hP 0 rfl rfl 0 (by decide) (htA _ wd_1354) (fun _ h => h) rfl dX11_putsAside_14 ?_
  refine lv_bipush (v := 8) hx hb dX11_putsAside_17 (by decide) ?_
  refine lv_iload_n hx hb dX11_putsAside_19 rfl (lv_at hl 0 rfl) ?_
  refine lv_iadd hx hb dX11_putsAside_20 ?_
  refine lv_topi (fun x11 ex11 => ?_)
  obtain rfl : x11 = 13 := ex11.trans (by decide)
  refine va_iald hx hb hK hP 1 0 rfl rfl (in_lit (by decide)) dX11_putsAside_21 ?_
  refine lv_topi (fun x12 ex12 => ?_)
  obtain rfl : x12 = 0 := ex12.trans (by first | decide | rfl)
  refine va_iast hx hb hK hP hD hS 2 0 rfl rfl (in_lit (by decide)) dX11_putsAside_22 (fun H locs hP hD hS => ?_)
  rw [fa_upd_same (f := fun _ => 0) (i := (5 : Int32).toNatClampNeg) (x := 0) (by first | decide | rfl)] at hP hD
  have hP : va_P D vwCl [((a 200), .inr (11, [.ref (a 201), .ref (a 202), .ref (a 203), .ref (a 204), .int 0, .ref (a 205), .int 0, .int 0, .int 0, .int 0, .int 0, .int 0, .int 0, .int 0, .int 0, .int (-1), .int 0, .int 0, .int 0, .ref (a 206), .ref (a 207), .int 0, .int 0, .ref (a 208), .int 0, .int 0, .int 0, .int 0, .ref (a 209), .ref (a 210), .ref (a 211), .ref (a 212), .ref (a 213), .ref (a 214), .ref (a 215), .int 0, .ref (a 216), .ref (a 217), .ref (a 218)])), ((a 201), .inl (cy 0, 2260, .inl (upd (upd (fun _ => 0) (1 : Int32).toNatClampNeg 1) (2 : Int32).toNatClampNeg 1))), ((a 208), .inl (cy 0, 37, .inl (fun _ => 0)))] H := hP
  have hD := va_ca hP hD
  refine lv_iinc (v := 6) (lv' := [(1, .int 6), (0, .ref (a 200))]) hx hb dX11_putsAside_23 hl (k := 0) rfl (by decide) (by decide) rfl (fun ls hl => ?_)
  refine lv_goto (tgt := 2) hx hb dX11_putsAside_26 (by decide) ?_
  refine lv_iload_n hx hb dX11_putsAside_2 rfl (lv_at hl 0 rfl) ?_
  refine lv_bipush (v := 37) hx hb dX11_putsAside_3 (by decide) ?_
  refine lv_icmp_ge (tgt := 29) hx hb dX11_putsAside_5 (by decide) (fun q => absurd q (by decide)) (fun _ => ?_)
  refine lv_aload_n hx hb dX11_putsAside_8 rfl (lv_at hl 1 rfl) ?_
  refine va_get (ci := 11) (v := .ref (a 208)) (C := RX11) (T := TX11) (N := 39) hx hb htA in_X11 hown hK hP 0 rfl rfl 23 (by decide) (htA _ wd_1377) (fun _ h => h) rfl dX11_putsAside_9 ?_
  refine lv_iload_n hx hb dX11_putsAside_12 rfl (lv_at hl 0 rfl) ?_
  refine lv_aload_n hx hb dX11_putsAside_13 rfl (lv_at hl 1 rfl) ?_
  refine va_get (ci := 11) (v := .ref (a 201)) (C := RX11) (T := TX11) (N := 39) hx hb htA in_X11 hown hK hP 0 rfl rfl 0 (by decide) (htA _ wd_1354) (fun _ h => h) rfl dX11_putsAside_14 ?_
  refine lv_bipush (v := 8) hx hb dX11_putsAside_17 (by decide) ?_
  refine lv_iload_n hx hb dX11_putsAside_19 rfl (lv_at hl 0 rfl) ?_
  refine lv_iadd hx hb dX11_putsAside_20 ?_
  refine lv_topi (fun x13 ex13 => ?_)
  obtain rfl : x13 = 14 := ex13.trans (by decide)
  refine va_iald hx hb hK hP 1 0 rfl rfl (in_lit (by decide)) dX11_putsAside_21 ?_
  refine lv_topi (fun x14 ex14 => ?_)
  obtain rfl : x14 = 0 := ex14.trans (by first | decide | rfl)
  refine va_iast hx hb hK hP hD hS 2 0 rfl rfl (in_lit (by decide)) dX11_putsAside_22 (fun H locs hP hD hS => ?_)
  rw [fa_upd_same (f := fun _ => 0) (i := (6 : Int32).toNatClampNeg) (x := 0) (by first | decide | rfl)] at hP hD
  have hP : va_P D vwCl [((a 200), .inr (11, [.ref (a 201), .ref (a 202), .ref (a 203), .ref (a 204), .int 0, .ref (a 205), .int 0, .int 0, .int 0, .int 0, .int 0, .int 0, .int 0, .int 0, .int 0, .int (-1), .int 0, .int 0, .int 0, .ref (a 206), .ref (a 207), .int 0, .int 0, .ref (a 208), .int 0, .int 0, .int 0, .int 0, .ref (a 209), .ref (a 210), .ref (a 211), .ref (a 212), .ref (a 213), .ref (a 214), .ref (a 215), .int 0, .ref (a 216), .ref (a 217), .ref (a 218)])), ((a 201), .inl (cy 0, 2260, .inl (upd (upd (fun _ => 0) (1 : Int32).toNatClampNeg 1) (2 : Int32).toNatClampNeg 1))), ((a 208), .inl (cy 0, 37, .inl (fun _ => 0)))] H := hP
  have hD := va_ca hP hD
  refine lv_iinc (v := 7) (lv' := [(1, .int 7), (0, .ref (a 200))]) hx hb dX11_putsAside_23 hl (k := 0) rfl (by decide) (by decide) rfl (fun ls hl => ?_)
  refine lv_goto (tgt := 2) hx hb dX11_putsAside_26 (by decide) ?_
  refine lv_iload_n hx hb dX11_putsAside_2 rfl (lv_at hl 0 rfl) ?_
  refine lv_bipush (v := 37) hx hb dX11_putsAside_3 (by decide) ?_
  refine lv_icmp_ge (tgt := 29) hx hb dX11_putsAside_5 (by decide) (fun q => absurd q (by decide)) (fun _ => ?_)
  refine lv_aload_n hx hb dX11_putsAside_8 rfl (lv_at hl 1 rfl) ?_
  refine va_get (ci := 11) (v := .ref (a 208)) (C := RX11) (T := TX11) (N := 39) hx hb htA in_X11 hown hK hP 0 rfl rfl 23 (by decide) (htA _ wd_1377) (fun _ h => h) rfl dX11_putsAside_9 ?_
  refine lv_iload_n hx hb dX11_putsAside_12 rfl (lv_at hl 0 rfl) ?_
  refine lv_aload_n hx hb dX11_putsAside_13 rfl (lv_at hl 1 rfl) ?_
  refine va_get (ci := 11) (v := .ref (a 201)) (C := RX11) (T := TX11) (N := 39) hx hb htA in_X11 hown hK hP 0 rfl rfl 0 (by decide) (htA _ wd_1354) (fun _ h => h) rfl dX11_putsAside_14 ?_
  refine lv_bipush (v := 8) hx hb dX11_putsAside_17 (by decide) ?_
  refine lv_iload_n hx hb dX11_putsAside_19 rfl (lv_at hl 0 rfl) ?_
  refine lv_iadd hx hb dX11_putsAside_20 ?_
  refine lv_topi (fun x15 ex15 => ?_)
  obtain rfl : x15 = 15 := ex15.trans (by decide)
  refine va_iald hx hb hK hP 1 0 rfl rfl (in_lit (by decide)) dX11_putsAside_21 ?_
  refine lv_topi (fun x16 ex16 => ?_)
  obtain rfl : x16 = 0 := ex16.trans (by first | decide | rfl)
  refine va_iast hx hb hK hP hD hS 2 0 rfl rfl (in_lit (by decide)) dX11_putsAside_22 (fun H locs hP hD hS => ?_)
  rw [fa_upd_same (f := fun _ => 0) (i := (7 : Int32).toNatClampNeg) (x := 0) (by first | decide | rfl)] at hP hD
  have hP : va_P D vwCl [((a 200), .inr (11, [.ref (a 201), .ref (a 202), .ref (a 203), .ref (a 204), .int 0, .ref (a 205), .int 0, .int 0, .int 0, .int 0, .int 0, .int 0, .int 0, .int 0, .int 0, .int (-1), .int 0, .int 0, .int 0, .ref (a 206), .ref (a 207), .int 0, .int 0, .ref (a 208), .int 0, .int 0, .int 0, .int 0, .ref (a 209), .ref (a 210), .ref (a 211), .ref (a 212), .ref (a 213), .ref (a 214), .ref (a 215), .int 0, .ref (a 216), .ref (a 217), .ref (a 218)])), ((a 201), .inl (cy 0, 2260, .inl (upd (upd (fun _ => 0) (1 : Int32).toNatClampNeg 1) (2 : Int32).toNatClampNeg 1))), ((a 208), .inl (cy 0, 37, .inl (fun _ => 0)))] H := hP
  have hD := va_ca hP hD
  refine lv_iinc (v := 8) (lv' := [(1, .int 8), (0, .ref (a 200))]) hx hb dX11_putsAside_23 hl (k := 0) rfl (by decide) (by decide) rfl (fun ls hl => ?_)
  refine lv_goto (tgt := 2) hx hb dX11_putsAside_26 (by decide) ?_
  refine lv_iload_n hx hb dX11_putsAside_2 rfl (lv_at hl 0 rfl) ?_
  refine lv_bipush (v := 37) hx hb dX11_putsAside_3 (by decide) ?_
  refine lv_icmp_ge (tgt := 29) hx hb dX11_putsAside_5 (by decide) (fun q => absurd q (by decide)) (fun _ => ?_)
  refine lv_aload_n hx hb dX11_putsAside_8 rfl (lv_at hl 1 rfl) ?_
  refine va_get (ci := 11) (v := .ref (a 208)) (C := RX11) (T := TX11) (N := 39) hx hb htA in_X11 hown hK hP 0 rfl rfl 23 (by decide) (htA _ wd_1377) (fun _ h => h) rfl dX11_putsAside_9 ?_
  refine lv_iload_n hx hb dX11_putsAside_12 rfl (lv_at hl 0 rfl) ?_
  refine lv_aload_n hx hb dX11_putsAside_13 rfl (lv_at hl 1 rfl) ?_
  refine va_get (ci := 11) (v := .ref (a 201)) (C := RX11) (T := TX11) (N := 39) hx hb htA in_X11 hown hK hP 0 rfl rfl 0 (by decide) (htA _ wd_1354) (fun _ h => h) rfl dX11_putsAside_14 ?_
  refine lv_bipush (v := 8) hx hb dX11_putsAside_17 (by decide) ?_
  refine lv_iload_n hx hb dX11_putsAside_19 rfl (lv_at hl 0 rfl) ?_
  refine lv_iadd hx hb dX11_putsAside_20 ?_
  refine lv_topi (fun x17 ex17 => ?_)
  obtain rfl : x17 = 16 := ex17.trans (by decide)
  refine va_iald hx hb hK hP 1 0 rfl rfl (in_lit (by decide)) dX11_putsAside_21 ?_
  refine lv_topi (fun x18 ex18 => ?_)
  obtain rfl : x18 = 0 := ex18.trans (by first | decide | rfl)
  refine va_iast hx hb hK hP hD hS 2 0 rfl rfl (in_lit (by decide)) dX11_putsAside_22 (fun H locs hP hD hS => ?_)
  rw [fa_upd_same (f := fun _ => 0) (i := (8 : Int32).toNatClampNeg) (x := 0) (by first | decide | rfl)] at hP hD
  have hP : va_P D vwCl [((a 200), .inr (11, [.ref (a 201), .ref (a 202), .ref (a 203), .ref (a 204), .int 0, .ref (a 205), .int 0, .int 0, .int 0, .int 0, .int 0, .int 0, .int 0, .int 0, .int 0, .int (-1), .int 0, .int 0, .int 0, .ref (a 206), .ref (a 207), .int 0, .int 0, .ref (a 208), .int 0, .int 0, .int 0, .int 0, .ref (a 209), .ref (a 210), .ref (a 211), .ref (a 212), .ref (a 213), .ref (a 214), .ref (a 215), .int 0, .ref (a 216), .ref (a 217), .ref (a 218)])), ((a 201), .inl (cy 0, 2260, .inl (upd (upd (fun _ => 0) (1 : Int32).toNatClampNeg 1) (2 : Int32).toNatClampNeg 1))), ((a 208), .inl (cy 0, 37, .inl (fun _ => 0)))] H := hP
  have hD := va_ca hP hD
  refine lv_iinc (v := 9) (lv' := [(1, .int 9), (0, .ref (a 200))]) hx hb dX11_putsAside_23 hl (k := 0) rfl (by decide) (by decide) rfl (fun ls hl => ?_)
  refine lv_goto (tgt := 2) hx hb dX11_putsAside_26 (by decide) ?_
  refine lv_iload_n hx hb dX11_putsAside_2 rfl (lv_at hl 0 rfl) ?_
  refine lv_bipush (v := 37) hx hb dX11_putsAside_3 (by decide) ?_
  refine lv_icmp_ge (tgt := 29) hx hb dX11_putsAside_5 (by decide) (fun q => absurd q (by decide)) (fun _ => ?_)
  refine lv_aload_n hx hb dX11_putsAside_8 rfl (lv_at hl 1 rfl) ?_
  refine va_get (ci := 11) (v := .ref (a 208)) (C := RX11) (T := TX11) (N := 39) hx hb htA in_X11 hown hK hP 0 rfl rfl 23 (by decide) (htA _ wd_1377) (fun _ h => h) rfl dX11_putsAside_9 ?_
  refine lv_iload_n hx hb dX11_putsAside_12 rfl (lv_at hl 0 rfl) ?_
  refine lv_aload_n hx hb dX11_putsAside_13 rfl (lv_at hl 1 rfl) ?_
  refine va_get (ci := 11) (v := .ref (a 201)) (C := RX11) (T := TX11) (N := 39) hx hb htA in_X11 hown hK hP 0 rfl rfl 0 (by decide) (htA _ wd_1354) (fun _ h => h) rfl dX11_putsAside_14 ?_
  refine lv_bipush (v := 8) hx hb dX11_putsAside_17 (by decide) ?_
  refine lv_iload_n hx hb dX11_putsAside_19 rfl (lv_at hl 0 rfl) ?_
  refine lv_iadd hx hb dX11_putsAside_20 ?_
  refine lv_topi (fun x19 ex19 => ?_)
  obtain rfl : x19 = 17 := ex19.trans (by decide)
  refine va_iald hx hb hK hP 1 0 rfl rfl (in_lit (by decide)) dX11_putsAside_21 ?_
  refine lv_topi (fun x20 ex20 => ?_)
  obtain rfl : x20 = 0 := ex20.trans (by first | decide | rfl)
  refine va_iast hx hb hK hP hD hS 2 0 rfl rfl (in_lit (by decide)) dX11_putsAside_22 (fun H locs hP hD hS => ?_)
  rw [fa_upd_same (f := fun _ => 0) (i := (9 : Int32).toNatClampNeg) (x := 0) (by first | decide | rfl)] at hP hD
  have hP : va_P D vwCl [((a 200), .inr (11, [.ref (a 201), .ref (a 202), .ref (a 203), .ref (a 204), .int 0, .ref (a 205), .int 0, .int 0, .int 0, .int 0, .int 0, .int 0, .int 0, .int 0, .int 0, .int (-1), .int 0, .int 0, .int 0, .ref (a 206), .ref (a 207), .int 0, .int 0, .ref (a 208), .int 0, .int 0, .int 0, .int 0, .ref (a 209), .ref (a 210), .ref (a 211), .ref (a 212), .ref (a 213), .ref (a 214), .ref (a 215), .int 0, .ref (a 216), .ref (a 217), .ref (a 218)])), ((a 201), .inl (cy 0, 2260, .inl (upd (upd (fun _ => 0) (1 : Int32).toNatClampNeg 1) (2 : Int32).toNatClampNeg 1))), ((a 208), .inl (cy 0, 37, .inl (fun _ => 0)))] H := hP
  have hD := va_ca hP hD
  refine lv_iinc (v := 10) (lv' := [(1, .int 10), (0, .ref (a 200))]) hx hb dX11_putsAside_23 hl (k := 0) rfl (by decide) (by decide) rfl (fun ls hl => ?_)
  refine lv_goto (tgt := 2) hx hb dX11_putsAside_26 (by decide) ?_
  refine lv_iload_n hx hb dX11_putsAside_2 rfl (lv_at hl 0 rfl) ?_
  refine lv_bipush (v := 37) hx hb dX11_putsAside_3 (by decide) ?_
  refine lv_icmp_ge (tgt := 29) hx hb dX11_putsAside_5 (by decide) (fun q => absurd q (by decide)) (fun _ => ?_)
  refine lv_aload_n hx hb dX11_putsAside_8 rfl (lv_at hl 1 rfl) ?_
  refine va_get (ci := 11) (v := .ref (a 208)) (C := RX11) (T := TX11) (N := 39) hx hb htA in_X11 hown hK hP 0 rfl rfl 23 (by decide) (htA _ wd_1377) (fun _ h => h) rfl dX11_putsAside_9 ?_
  refine lv_iload_n hx hb dX11_putsAside_12 rfl (lv_at hl 0 rfl) ?_
  refine lv_aload_n hx hb dX11_putsAside_13 rfl (lv_at hl 1 rfl) ?_
  refine va_get (ci := 11) (v := .ref (a 201)) (C := RX11) (T := TX11) (N := 39) hx hb htA in_X11 hown hK hP 0 rfl rfl 0 (by decide) (htA _ wd_1354) (fun _ h => h) rfl dX11_putsAside_14 ?_
  refine lv_bipush (v := 8) hx hb dX11_putsAside_17 (by decide) ?_
  refine lv_iload_n hx hb dX11_putsAside_19 rfl (lv_at hl 0 rfl) ?_
  refine lv_iadd hx hb dX11_putsAside_20 ?_
  refine lv_topi (fun x21 ex21 => ?_)
  obtain rfl : x21 = 18 := ex21.trans (by decide)
  refine va_iald hx hb hK hP 1 0 rfl rfl (in_lit (by decide)) dX11_putsAside_21 ?_
  refine lv_topi (fun x22 ex22 => ?_)
  obtain rfl : x22 = 0 := ex22.trans (by first | decide | rfl)
  refine va_iast hx hb hK hP hD hS 2 0 rfl rfl (in_lit (by decide)) dX11_putsAside_22 (fun H locs hP hD hS => ?_)
  rw [fa_upd_same (f := fun _ => 0) (i := (10 : Int32).toNatClampNeg) (x := 0) (by first | decide | rfl)] at hP hD
  have hP : va_P D vwCl [((a 200), .inr (11, [.ref (a 201), .ref (a 202), .ref (a 203), .ref (a 204), .int 0, .ref (a 205), .int 0, .int 0, .int 0, .int 0, .int 0, .int 0, .int 0, .int 0, .int 0, .int (-1), .int 0, .int 0, .int 0, .ref (a 206), .ref (a 207), .int 0, .int 0, .ref (a 208), .int 0, .int 0, .int 0, .int 0, .ref (a 209), .ref (a 210), .ref (a 211), .ref (a 212), .ref (a 213), .ref (a 214), .ref (a 215), .int 0, .ref (a 216), .ref (a 217), .ref (a 218)])), ((a 201), .inl (cy 0, 2260, .inl (upd (upd (fun _ => 0) (1 : Int32).toNatClampNeg 1) (2 : Int32).toNatClampNeg 1))), ((a 208), .inl (cy 0, 37, .inl (fun _ => 0)))] H := hP
  have hD := va_ca hP hD
  refine lv_iinc (v := 11) (lv' := [(1, .int 11), (0, .ref (a 200))]) hx hb dX11_putsAside_23 hl (k := 0) rfl (by decide) (by decide) rfl (fun ls hl => ?_)
  refine lv_goto (tgt := 2) hx hb dX11_putsAside_26 (by decide) ?_
  refine lv_iload_n hx hb dX11_putsAside_2 rfl (lv_at hl 0 rfl) ?_
  refine lv_bipush (v := 37) hx hb dX11_putsAside_3 (by decide) ?_
  refine lv_icmp_ge (tgt := 29) hx hb dX11_putsAside_5 (by decide) (fun q => absurd q (by decide)) (fun _ => ?_)
  refine lv_aload_n hx hb dX11_putsAside_8 rfl (lv_at hl 1 rfl) ?_
  refine va_get (ci := 11) (v := .ref (a 208)) (C := RX11) (T := TX11) (N := 39) hx hb htA in_X11 hown hK hP 0 rfl rfl 23 (by decide) (htA _ wd_1377) (fun _ h => h) rfl dX11_putsAside_9 ?_
  refine lv_iload_n hx hb dX11_putsAside_12 rfl (lv_at hl 0 rfl) ?_
  refine lv_aload_n hx hb dX11_putsAside_13 rfl (lv_at hl 1 rfl) ?_
  refine va_get (ci := 11) (v := .ref (a 201)) (C := RX11) (T := TX11) (N := 39) hx hb htA in_X11 hown hK hP 0 rfl rfl 0 (by decide) (htA _ wd_1354) (fun _ h => h) rfl dX11_putsAside_14 ?_
  refine lv_bipush (v := 8) hx hb dX11_putsAside_17 (by decide) ?_
  refine lv_iload_n hx hb dX11_putsAside_19 rfl (lv_at hl 0 rfl) ?_
  refine lv_iadd hx hb dX11_putsAside_20 ?_
  refine lv_topi (fun x23 ex23 => ?_)
  obtain rfl : x23 = 19 := ex23.trans (by decide)
  refine va_iald hx hb hK hP 1 0 rfl rfl (in_lit (by decide)) dX11_putsAside_21 ?_
  refine lv_topi (fun x24 ex24 => ?_)
  obtain rfl : x24 = 0 := ex24.trans (by first | decide | rfl)
  refine va_iast hx hb hK hP hD hS 2 0 rfl rfl (in_lit (by decide)) dX11_putsAside_22 (fun H locs hP hD hS => ?_)
  rw [fa_upd_same (f := fun _ => 0) (i := (11 : Int32).toNatClampNeg) (x := 0) (by first | decide | rfl)] at hP hD
  have hP : va_P D vwCl [((a 200), .inr (11, [.ref (a 201), .ref (a 202), .ref (a 203), .ref (a 204), .int 0, .ref (a 205), .int 0, .int 0, .int 0, .int 0, .int 0, .int 0, .int 0, .int 0, .int 0, .int (-1), .int 0, .int 0, .int 0, .ref (a 206), .ref (a 207), .int 0, .int 0, .ref (a 208), .int 0, .int 0, .int 0, .int 0, .ref (a 209), .ref (a 210), .ref (a 211), .ref (a 212), .ref (a 213), .ref (a 214), .ref (a 215), .int 0, .ref (a 216), .ref (a 217), .ref (a 218)])), ((a 201), .inl (cy 0, 2260, .inl (upd (upd (fun _ => 0) (1 : Int32).toNatClampNeg 1) (2 : Int32).toNatClampNeg 1))), ((a 208), .inl (cy 0, 37, .inl (fun _ => 0)))] H := hP
  have hD := va_ca hP hD
  refine lv_iinc (v := 12) (lv' := [(1, .int 12), (0, .ref (a 200))]) hx hb dX11_putsAside_23 hl (k := 0) rfl (by decide) (by decide) rfl (fun ls hl => ?_)
  refine lv_goto (tgt := 2) hx hb dX11_putsAside_26 (by decide) ?_
  refine lv_iload_n hx hb dX11_putsAside_2 rfl (lv_at hl 0 rfl) ?_
  refine lv_bipush (v := 37) hx hb dX11_putsAside_3 (by decide) ?_
  refine lv_icmp_ge (tgt := 29) hx hb dX11_putsAside_5 (by decide) (fun q => absurd q (by decide)) (fun _ => ?_)
  refine lv_aload_n hx hb dX11_putsAside_8 rfl (lv_at hl 1 rfl) ?_
  refine va_get (ci := 11) (v := .ref (a 208)) (C := RX11) (T := TX11) (N := 39) hx hb htA in_X11 hown hK hP 0 rfl rfl 23 (by decide) (htA _ wd_1377) (fun _ h => h) rfl dX11_putsAside_9 ?_
  refine lv_iload_n hx hb dX11_putsAside_12 rfl (lv_at hl 0 rfl) ?_
  refine lv_aload_n hx hb dX11_putsAside_13 rfl (lv_at hl 1 rfl) ?_
  refine va_get (ci := 11) (v := .ref (a 201)) (C := RX11) (T := TX11) (N := 39) hx hb htA in_X11 hown hK hP 0 rfl rfl 0 (by decide) (htA _ wd_1354) (fun _ h => h) rfl dX11_putsAside_14 ?_
  refine lv_bipush (v := 8) hx hb dX11_putsAside_17 (by decide) ?_
  refine lv_iload_n hx hb dX11_putsAside_19 rfl (lv_at hl 0 rfl) ?_
  refine lv_iadd hx hb dX11_putsAside_20 ?_
  refine lv_topi (fun x25 ex25 => ?_)
  obtain rfl : x25 = 20 := ex25.trans (by decide)
  refine va_iald hx hb hK hP 1 0 rfl rfl (in_lit (by decide)) dX11_putsAside_21 ?_
  refine lv_topi (fun x26 ex26 => ?_)
  obtain rfl : x26 = 0 := ex26.trans (by first | decide | rfl)
  refine va_iast hx hb hK hP hD hS 2 0 rfl rfl (in_lit (by decide)) dX11_putsAside_22 (fun H locs hP hD hS => ?_)
  rw [fa_upd_same (f := fun _ => 0) (i := (12 : Int32).toNatClampNeg) (x := 0) (by first | decide | rfl)] at hP hD
  have hP : va_P D vwCl [((a 200), .inr (11, [.ref (a 201), .ref (a 202), .ref (a 203), .ref (a 204), .int 0, .ref (a 205), .int 0, .int 0, .int 0, .int 0, .int 0, .int 0, .int 0, .int 0, .int 0, .int (-1), .int 0, .int 0, .int 0, .ref (a 206), .ref (a 207), .int 0, .int 0, .ref (a 208), .int 0, .int 0, .int 0, .int 0, .ref (a 209), .ref (a 210), .ref (a 211), .ref (a 212), .ref (a 213), .ref (a 214), .ref (a 215), .int 0, .ref (a 216), .ref (a 217), .ref (a 218)])), ((a 201), .inl (cy 0, 2260, .inl (upd (upd (fun _ => 0) (1 : Int32).toNatClampNeg 1) (2 : Int32).toNatClampNeg 1))), ((a 208), .inl (cy 0, 37, .inl (fun _ => 0)))] H := hP
  have hD := va_ca hP hD
  refine lv_iinc (v := 13) (lv' := [(1, .int 13), (0, .ref (a 200))]) hx hb dX11_putsAside_23 hl (k := 0) rfl (by decide) (by decide) rfl (fun ls hl => ?_)
  refine lv_goto (tgt := 2) hx hb dX11_putsAside_26 (by decide) ?_
  refine lv_iload_n hx hb dX11_putsAside_2 rfl (lv_at hl 0 rfl) ?_
  refine lv_bipush (v := 37) hx hb dX11_putsAside_3 (by decide) ?_
  refine lv_icmp_ge (tgt := 29) hx hb dX11_putsAside_5 (by decide) (fun q => absurd q (by decide)) (fun _ => ?_)
  refine lv_aload_n hx hb dX11_putsAside_8 rfl (lv_at hl 1 rfl) ?_
  refine va_get (ci := 11) (v := .ref (a 208)) (C := RX11) (T := TX11) (N := 39) hx hb htA in_X11 hown hK hP 0 rfl rfl 23 (by decide) (htA _ wd_1377) (fun _ h => h) rfl dX11_putsAside_9 ?_
  refine lv_iload_n hx hb dX11_putsAside_12 rfl (lv_at hl 0 rfl) ?_
  refine lv_aload_n hx hb dX11_putsAside_13 rfl (lv_at hl 1 rfl) ?_
  refine va_get (ci := 11) (v := .ref (a 201)) (C := RX11) (T := TX11) (N := 39) hx hb htA in_X11 hown hK hP 0 rfl rfl 0 (by decide) (htA _ wd_1354) (fun _ h => h) rfl dX11_putsAside_14 ?_
  refine lv_bipush (v := 8) hx hb dX11_putsAside_17 (by decide) ?_
  refine lv_iload_n hx hb dX11_putsAside_19 rfl (lv_at hl 0 rfl) ?_
  refine lv_iadd hx hb dX11_putsAside_20 ?_
  refine lv_topi (fun x27 ex27 => ?_)
  obtain rfl : x27 = 21 := ex27.trans (by decide)
  refine va_iald hx hb hK hP 1 0 rfl rfl (in_lit (by decide)) dX11_putsAside_21 ?_
  refine lv_topi (fun x28 ex28 => ?_)
  obtain rfl : x28 = 0 := ex28.trans (by first | decide | rfl)
  refine va_iast hx hb hK hP hD hS 2 0 rfl rfl (in_lit (by decide)) dX11_putsAside_22 (fun H locs hP hD hS => ?_)
  rw [fa_upd_same (f := fun _ => 0) (i := (13 : Int32).toNatClampNeg) (x := 0) (by first | decide | rfl)] at hP hD
  have hP : va_P D vwCl [((a 200), .inr (11, [.ref (a 201), .ref (a 202), .ref (a 203), .ref (a 204), .int 0, .ref (a 205), .int 0, .int 0, .int 0, .int 0, .int 0, .int 0, .int 0, .int 0, .int 0, .int (-1), .int 0, .int 0, .int 0, .ref (a 206), .ref (a 207), .int 0, .int 0, .ref (a 208), .int 0, .int 0, .int 0, .int 0, .ref (a 209), .ref (a 210), .ref (a 211), .ref (a 212), .ref (a 213), .ref (a 214), .ref (a 215), .int 0, .ref (a 216), .ref (a 217), .ref (a 218)])), ((a 201), .inl (cy 0, 2260, .inl (upd (upd (fun _ => 0) (1 : Int32).toNatClampNeg 1) (2 : Int32).toNatClampNeg 1))), ((a 208), .inl (cy 0, 37, .inl (fun _ => 0)))] H := hP
  have hD := va_ca hP hD
  refine lv_iinc (v := 14) (lv' := [(1, .int 14), (0, .ref (a 200))]) hx hb dX11_putsAside_23 hl (k := 0) rfl (by decide) (by decide) rfl (fun ls hl => ?_)
  refine lv_goto (tgt := 2) hx hb dX11_putsAside_26 (by decide) ?_
  refine lv_iload_n hx hb dX11_putsAside_2 rfl (lv_at hl 0 rfl) ?_
  refine lv_bipush (v := 37) hx hb dX11_putsAside_3 (by decide) ?_
  refine lv_icmp_ge (tgt := 29) hx hb dX11_putsAside_5 (by decide) (fun q => absurd q (by decide)) (fun _ => ?_)
  refine lv_aload_n hx hb dX11_putsAside_8 rfl (lv_at hl 1 rfl) ?_
  refine va_get (ci := 11) (v := .ref (a 208)) (C := RX11) (T := TX11) (N := 39) hx hb htA in_X11 hown hK hP 0 rfl rfl 23 (by decide) (htA _ wd_1377) (fun _ h => h) rfl dX11_putsAside_9 ?_
  refine lv_iload_n hx hb dX11_putsAside_12 rfl (lv_at hl 0 rfl) ?_
  refine lv_aload_n hx hb dX11_putsAside_13 rfl (lv_at hl 1 rfl) ?_
  refine va_get (ci := 11) (v := .ref (a 201)) (C := RX11) (T := TX11) (N := 39) hx hb htA in_X11 hown hK hP 0 rfl rfl 0 (by decide) (htA _ wd_1354) (fun _ h => h) rfl dX11_putsAside_14 ?_
  refine lv_bipush (v := 8) hx hb dX11_putsAside_17 (by decide) ?_
  refine lv_iload_n hx hb dX11_putsAside_19 rfl (lv_at hl 0 rfl) ?_
  refine lv_iadd hx hb dX11_putsAside_20 ?_
  refine lv_topi (fun x29 ex29 => ?_)
  obtain rfl : x29 = 22 := ex29.trans (by decide)
  refine va_iald hx hb hK hP 1 0 rfl rfl (in_lit (by decide)) dX11_putsAside_21 ?_
  refine lv_topi (fun x30 ex30 => ?_)
  obtain rfl : x30 = 0 := ex30.trans (by first | decide | rfl)
  refine va_iast hx hb hK hP hD hS 2 0 rfl rfl (in_lit (by decide)) dX11_putsAside_22 (fun H locs hP hD hS => ?_)
  rw [fa_upd_same (f := fun _ => 0) (i := (14 : Int32).toNatClampNeg) (x := 0) (by first | decide | rfl)] at hP hD
  have hP : va_P D vwCl [((a 200), .inr (11, [.ref (a 201), .ref (a 202), .ref (a 203), .ref (a 204), .int 0, .ref (a 205), .int 0, .int 0, .int 0, .int 0, .int 0, .int 0, .int 0, .int 0, .int 0, .int (-1), .int 0, .int 0, .int 0, .ref (a 206), .ref (a 207), .int 0, .int 0, .ref (a 208), .int 0, .int 0, .int 0, .int 0, .ref (a 209), .ref (a 210), .ref (a 211), .ref (a 212), .ref (a 213), .ref (a 214), .ref (a 215), .int 0, .ref (a 216), .ref (a 217), .ref (a 218)])), ((a 201), .inl (cy 0, 2260, .inl (upd (upd (fun _ => 0) (1 : Int32).toNatClampNeg 1) (2 : Int32).toNatClampNeg 1))), ((a 208), .inl (cy 0, 37, .inl (fun _ => 0)))] H := hP
  have hD := va_ca hP hD
  refine lv_iinc (v := 15) (lv' := [(1, .int 15), (0, .ref (a 200))]) hx hb dX11_putsAside_23 hl (k := 0) rfl (by decide) (by decide) rfl (fun ls hl => ?_)
  refine lv_goto (tgt := 2) hx hb dX11_putsAside_26 (by decide) ?_
  refine lv_iload_n hx hb dX11_putsAside_2 rfl (lv_at hl 0 rfl) ?_
  refine lv_bipush (v := 37) hx hb dX11_putsAside_3 (by decide) ?_
  refine lv_icmp_ge (tgt := 29) hx hb dX11_putsAside_5 (by decide) (fun q => absurd q (by decide)) (fun _ => ?_)
  refine lv_aload_n hx hb dX11_putsAside_8 rfl (lv_at hl 1 rfl) ?_
  refine va_get (ci := 11) (v := .ref (a 208)) (C := RX11) (T := TX11) (N := 39) hx hb htA in_X11 hown hK hP 0 rfl rfl 23 (by decide) (htA _ wd_1377) (fun _ h => h) rfl dX11_putsAside_9 ?_
  refine lv_iload_n hx hb dX11_putsAside_12 rfl (lv_at hl 0 rfl) ?_
  refine lv_aload_n hx hb dX11_putsAside_13 rfl (lv_at hl 1 rfl) ?_
  refine va_get (ci := 11) (v := .ref (a 201)) (C := RX11) (T := TX11) (N := 39) hx hb htA in_X11 hown hK hP 0 rfl rfl 0 (by decide) (htA _ wd_1354) (fun _ h => h) rfl dX11_putsAside_14 ?_
  refine lv_bipush (v := 8) hx hb dX11_putsAside_17 (by decide) ?_
  refine lv_iload_n hx hb dX11_putsAside_19 rfl (lv_at hl 0 rfl) ?_
  refine lv_iadd hx hb dX11_putsAside_20 ?_
  refine lv_topi (fun x31 ex31 => ?_)
  obtain rfl : x31 = 23 := ex31.trans (by decide)
  refine va_iald hx hb hK hP 1 0 rfl rfl (in_lit (by decide)) dX11_putsAside_21 ?_
  refine lv_topi (fun x32 ex32 => ?_)
  obtain rfl : x32 = 0 := ex32.trans (by first | decide | rfl)
  refine va_iast hx hb hK hP hD hS 2 0 rfl rfl (in_lit (by decide)) dX11_putsAside_22 (fun H locs hP hD hS => ?_)
  rw [fa_upd_same (f := fun _ => 0) (i := (15 : Int32).toNatClampNeg) (x := 0) (by first | decide | rfl)] at hP hD
  have hP : va_P D vwCl [((a 200), .inr (11, [.ref (a 201), .ref (a 202), .ref (a 203), .ref (a 204), .int 0, .ref (a 205), .int 0, .int 0, .int 0, .int 0, .int 0, .int 0, .int 0, .int 0, .int 0, .int (-1), .int 0, .int 0, .int 0, .ref (a 206), .ref (a 207), .int 0, .int 0, .ref (a 208), .int 0, .int 0, .int 0, .int 0, .ref (a 209), .ref (a 210), .ref (a 211), .ref (a 212), .ref (a 213), .ref (a 214), .ref (a 215), .int 0, .ref (a 216), .ref (a 217), .ref (a 218)])), ((a 201), .inl (cy 0, 2260, .inl (upd (upd (fun _ => 0) (1 : Int32).toNatClampNeg 1) (2 : Int32).toNatClampNeg 1))), ((a 208), .inl (cy 0, 37, .inl (fun _ => 0)))] H := hP
  have hD := va_ca hP hD
  refine lv_iinc (v := 16) (lv' := [(1, .int 16), (0, .ref (a 200))]) hx hb dX11_putsAside_23 hl (k := 0) rfl (by decide) (by decide) rfl (fun ls hl => ?_)
  refine lv_goto (tgt := 2) hx hb dX11_putsAside_26 (by decide) ?_
  refine lv_iload_n hx hb dX11_putsAside_2 rfl (lv_at hl 0 rfl) ?_
  refine lv_bipush (v := 37) hx hb dX11_putsAside_3 (by decide) ?_
  refine lv_icmp_ge (tgt := 29) hx hb dX11_putsAside_5 (by decide) (fun q => absurd q (by decide)) (fun _ => ?_)
  refine lv_aload_n hx hb dX11_putsAside_8 rfl (lv_at hl 1 rfl) ?_
  refine va_get (ci := 11) (v := .ref (a 208)) (C := RX11) (T := TX11) (N := 39) hx hb htA in_X11 hown hK hP 0 rfl rfl 23 (by decide) (htA _ wd_1377) (fun _ h => h) rfl dX11_putsAside_9 ?_
  refine lv_iload_n hx hb dX11_putsAside_12 rfl (lv_at hl 0 rfl) ?_
  refine lv_aload_n hx hb dX11_putsAside_13 rfl (lv_at hl 1 rfl) ?_
  refine va_get (ci := 11) (v := .ref (a 201)) (C := RX11) (T := TX11) (N := 39) hx hb htA in_X11 hown hK hP 0 rfl rfl 0 (by decide) (htA _ wd_1354) (fun _ h => h) rfl dX11_putsAside_14 ?_
  refine lv_bipush (v := 8) hx hb dX11_putsAside_17 (by decide) ?_
  refine lv_iload_n hx hb dX11_putsAside_19 rfl (lv_at hl 0 rfl) ?_
  refine lv_iadd hx hb dX11_putsAside_20 ?_
  refine lv_topi (fun x33 ex33 => ?_)
  obtain rfl : x33 = 24 := ex33.trans (by decide)
  refine va_iald hx hb hK hP 1 0 rfl rfl (in_lit (by decide)) dX11_putsAside_21 ?_
  refine lv_topi (fun x34 ex34 => ?_)
  obtain rfl : x34 = 0 := ex34.trans (by first | decide | rfl)
  refine va_iast hx hb hK hP hD hS 2 0 rfl rfl (in_lit (by decide)) dX11_putsAside_22 (fun H locs hP hD hS => ?_)
  rw [fa_upd_same (f := fun _ => 0) (i := (16 : Int32).toNatClampNeg) (x := 0) (by first | decide | rfl)] at hP hD
  have hP : va_P D vwCl [((a 200), .inr (11, [.ref (a 201), .ref (a 202), .ref (a 203), .ref (a 204), .int 0, .ref (a 205), .int 0, .int 0, .int 0, .int 0, .int 0, .int 0, .int 0, .int 0, .int 0, .int (-1), .int 0, .int 0, .int 0, .ref (a 206), .ref (a 207), .int 0, .int 0, .ref (a 208), .int 0, .int 0, .int 0, .int 0, .ref (a 209), .ref (a 210), .ref (a 211), .ref (a 212), .ref (a 213), .ref (a 214), .ref (a 215), .int 0, .ref (a 216), .ref (a 217), .ref (a 218)])), ((a 201), .inl (cy 0, 2260, .inl (upd (upd (fun _ => 0) (1 : Int32).toNatClampNeg 1) (2 : Int32).toNatClampNeg 1))), ((a 208), .inl (cy 0, 37, .inl (fun _ => 0)))] H := hP
  have hD := va_ca hP hD
  refine lv_iinc (v := 17) (lv' := [(1, .int 17), (0, .ref (a 200))]) hx hb dX11_putsAside_23 hl (k := 0) rfl (by decide) (by decide) rfl (fun ls hl => ?_)
  refine lv_goto (tgt := 2) hx hb dX11_putsAside_26 (by decide) ?_
  refine lv_iload_n hx hb dX11_putsAside_2 rfl (lv_at hl 0 rfl) ?_
  refine lv_bipush (v := 37) hx hb dX11_putsAside_3 (by decide) ?_
  refine lv_icmp_ge (tgt := 29) hx hb dX11_putsAside_5 (by decide) (fun q => absurd q (by decide)) (fun _ => ?_)
  refine lv_aload_n hx hb dX11_putsAside_8 rfl (lv_at hl 1 rfl) ?_
  refine va_get (ci := 11) (v := .ref (a 208)) (C := RX11) (T := TX11) (N := 39) hx hb htA in_X11 hown hK hP 0 rfl rfl 23 (by decide) (htA _ wd_1377) (fun _ h => h) rfl dX11_putsAside_9 ?_
  refine lv_iload_n hx hb dX11_putsAside_12 rfl (lv_at hl 0 rfl) ?_
  refine lv_aload_n hx hb dX11_putsAside_13 rfl (lv_at hl 1 rfl) ?_
  refine va_get (ci := 11) (v := .ref (a 201)) (C := RX11) (T := TX11) (N := 39) hx hb htA in_X11 hown hK hP 0 rfl rfl 0 (by decide) (htA _ wd_1354) (fun _ h => h) rfl dX11_putsAside_14 ?_
  refine lv_bipush (v := 8) hx hb dX11_putsAside_17 (by decide) ?_
  refine lv_iload_n hx hb dX11_putsAside_19 rfl (lv_at hl 0 rfl) ?_
  refine lv_iadd hx hb dX11_putsAside_20 ?_
  refine lv_topi (fun x35 ex35 => ?_)
  obtain rfl : x35 = 25 := ex35.trans (by decide)
  refine va_iald hx hb hK hP 1 0 rfl rfl (in_lit (by decide)) dX11_putsAside_21 ?_
  refine lv_topi (fun x36 ex36 => ?_)
  obtain rfl : x36 = 0 := ex36.trans (by first | decide | rfl)
  refine va_iast hx hb hK hP hD hS 2 0 rfl rfl (in_lit (by decide)) dX11_putsAside_22 (fun H locs hP hD hS => ?_)
  rw [fa_upd_same (f := fun _ => 0) (i := (17 : Int32).toNatClampNeg) (x := 0) (by first | decide | rfl)] at hP hD
  have hP : va_P D vwCl [((a 200), .inr (11, [.ref (a 201), .ref (a 202), .ref (a 203), .ref (a 204), .int 0, .ref (a 205), .int 0, .int 0, .int 0, .int 0, .int 0, .int 0, .int 0, .int 0, .int 0, .int (-1), .int 0, .int 0, .int 0, .ref (a 206), .ref (a 207), .int 0, .int 0, .ref (a 208), .int 0, .int 0, .int 0, .int 0, .ref (a 209), .ref (a 210), .ref (a 211), .ref (a 212), .ref (a 213), .ref (a 214), .ref (a 215), .int 0, .ref (a 216), .ref (a 217), .ref (a 218)])), ((a 201), .inl (cy 0, 2260, .inl (upd (upd (fun _ => 0) (1 : Int32).toNatClampNeg 1) (2 : Int32).toNatClampNeg 1))), ((a 208), .inl (cy 0, 37, .inl (fun _ => 0)))] H := hP
  have hD := va_ca hP hD
  refine lv_iinc (v := 18) (lv' := [(1, .int 18), (0, .ref (a 200))]) hx hb dX11_putsAside_23 hl (k := 0) rfl (by decide) (by decide) rfl (fun ls hl => ?_)
  refine lv_goto (tgt := 2) hx hb dX11_putsAside_26 (by decide) ?_
  refine lv_iload_n hx hb dX11_putsAside_2 rfl (lv_at hl 0 rfl) ?_
  refine lv_bipush (v := 37) hx hb dX11_putsAside_3 (by decide) ?_
  refine lv_icmp_ge (tgt := 29) hx hb dX11_putsAside_5 (by decide) (fun q => absurd q (by decide)) (fun _ => ?_)
  refine lv_aload_n hx hb dX11_putsAside_8 rfl (lv_at hl 1 rfl) ?_
  refine va_get (ci := 11) (v := .ref (a 208)) (C := RX11) (T := TX11) (N := 39) hx hb htA in_X11 hown hK hP 0 rfl rfl 23 (by decide) (htA _ wd_1377) (fun _ h => h) rfl dX11_putsAside_9 ?_
  refine lv_iload_n hx hb dX11_putsAside_12 rfl (lv_at hl 0 rfl) ?_
  refine lv_aload_n hx hb dX11_putsAside_13 rfl (lv_at hl 1 rfl) ?_
  refine va_get (ci := 11) (v := .ref (a 201)) (C := RX11) (T := TX11) (N := 39) hx hb htA in_X11 hown hK hP 0 rfl rfl 0 (by decide) (htA _ wd_1354) (fun _ h => h) rfl dX11_putsAside_14 ?_
  refine lv_bipush (v := 8) hx hb dX11_putsAside_17 (by decide) ?_
  refine lv_iload_n hx hb dX11_putsAside_19 rfl (lv_at hl 0 rfl) ?_
  refine lv_iadd hx hb dX11_putsAside_20 ?_
  refine lv_topi (fun x37 ex37 => ?_)
  obtain rfl : x37 = 26 := ex37.trans (by decide)
  refine va_iald hx hb hK hP 1 0 rfl rfl (in_lit (by decide)) dX11_putsAside_21 ?_
  refine lv_topi (fun x38 ex38 => ?_)
  obtain rfl : x38 = 0 := ex38.trans (by first | decide | rfl)
  refine va_iast hx hb hK hP hD hS 2 0 rfl rfl (in_lit (by decide)) dX11_putsAside_22 (fun H locs hP hD hS => ?_)
  rw [fa_upd_same (f := fun _ => 0) (i := (18 : Int32).toNatClampNeg) (x := 0) (by first | decide | rfl)] at hP hD
  have hP : va_P D vwCl [((a 200), .inr (11, [.ref (a 201), .ref (a 202), .ref (a 203), .ref (a 204), .int 0, .ref (a 205), .int 0, .int 0, .int 0, .int 0, .int 0, .int 0, .int 0, .int 0, .int 0, .int (-1), .int 0, .int 0, .int 0, .ref (a 206), .ref (a 207), .int 0, .int 0, .ref (a 208), .int 0, .int 0, .int 0, .int 0, .ref (a 209), .ref (a 210), .ref (a 211), .ref (a 212), .ref (a 213), .ref (a 214), .ref (a 215), .int 0, .ref (a 216), .ref (a 217), .ref (a 218)])), ((a 201), .inl (cy 0, 2260, .inl (upd (upd (fun _ => 0) (1 : Int32).toNatClampNeg 1) (2 : Int32).toNatClampNeg 1))), ((a 208), .inl (cy 0, 37, .inl (fun _ => 0)))] H := hP
  have hD := va_ca hP hD
  refine lv_iinc (v := 19) (lv' := [(1, .int 19), (0, .ref (a 200))]) hx hb dX11_putsAside_23 hl (k := 0) rfl (by decide) (by decide) rfl (fun ls hl => ?_)
  refine lv_goto (tgt := 2) hx hb dX11_putsAside_26 (by decide) ?_
  refine lv_iload_n hx hb dX11_putsAside_2 rfl (lv_at hl 0 rfl) ?_
  refine lv_bipush (v := 37) hx hb dX11_putsAside_3 (by decide) ?_
  refine lv_icmp_ge (tgt := 29) hx hb dX11_putsAside_5 (by decide) (fun q => absurd q (by decide)) (fun _ => ?_)
  refine lv_aload_n hx hb dX11_putsAside_8 rfl (lv_at hl 1 rfl) ?_
  refine va_get (ci := 11) (v := .ref (a 208)) (C := RX11) (T := TX11) (N := 39) hx hb htA in_X11 hown hK hP 0 rfl rfl 23 (by decide) (htA _ wd_1377) (fun _ h => h) rfl dX11_putsAside_9 ?_
  refine lv_iload_n hx hb dX11_putsAside_12 rfl (lv_at hl 0 rfl) ?_
  refine lv_aload_n hx hb dX11_putsAside_13 rfl (lv_at hl 1 rfl) ?_
  refine va_get (ci := 11) (v := .ref (a 201)) (C := RX11) (T := TX11) (N := 39) hx hb htA in_X11 hown hK hP 0 rfl rfl 0 (by decide) (htA _ wd_1354) (fun _ h => h) rfl dX11_putsAside_14 ?_
  refine lv_bipush (v := 8) hx hb dX11_putsAside_17 (by decide) ?_
  refine lv_iload_n hx hb dX11_putsAside_19 rfl (lv_at hl 0 rfl) ?_
  refine lv_iadd hx hb dX11_putsAside_20 ?_
  refine lv_topi (fun x39 ex39 => ?_)
  obtain rfl : x39 = 27 := ex39.trans (by decide)
  refine va_iald hx hb hK hP 1 0 rfl rfl (in_lit (by decide)) dX11_putsAside_21 ?_
  refine lv_topi (fun x40 ex40 => ?_)
  obtain rfl : x40 = 0 := ex40.trans (by first | decide | rfl)
  refine va_iast hx hb hK hP hD hS 2 0 rfl rfl (in_lit (by decide)) dX11_putsAside_22 (fun H locs hP hD hS => ?_)
  rw [fa_upd_same (f := fun _ => 0) (i := (19 : Int32).toNatClampNeg) (x := 0) (by first | decide | rfl)] at hP hD
  have hP : va_P D vwCl [((a 200), .inr (11, [.ref (a 201), .ref (a 202), .ref (a 203), .ref (a 204), .int 0, .ref (a 205), .int 0, .int 0, .int 0, .int 0, .int 0, .int 0, .int 0, .int 0, .int 0, .int (-1), .int 0, .int 0, .int 0, .ref (a 206), .ref (a 207), .int 0, .int 0, .ref (a 208), .int 0, .int 0, .int 0, .int 0, .ref (a 209), .ref (a 210), .ref (a 211), .ref (a 212), .ref (a 213), .ref (a 214), .ref (a 215), .int 0, .ref (a 216), .ref (a 217), .ref (a 218)])), ((a 201), .inl (cy 0, 2260, .inl (upd (upd (fun _ => 0) (1 : Int32).toNatClampNeg 1) (2 : Int32).toNatClampNeg 1))), ((a 208), .inl (cy 0, 37, .inl (fun _ => 0)))] H := hP
  have hD := va_ca hP hD
  refine lv_iinc (v := 20) (lv' := [(1, .int 20), (0, .ref (a 200))]) hx hb dX11_putsAside_23 hl (k := 0) rfl (by decide) (by decide) rfl (fun ls hl => ?_)
  refine lv_goto (tgt := 2) hx hb dX11_putsAside_26 (by decide) ?_
  refine lv_iload_n hx hb dX11_putsAside_2 rfl (lv_at hl 0 rfl) ?_
  refine lv_bipush (v := 37) hx hb dX11_putsAside_3 (by decide) ?_
  refine lv_icmp_ge (tgt := 29) hx hb dX11_putsAside_5 (by decide) (fun q => absurd q (by decide)) (fun _ => ?_)
  refine lv_aload_n hx hb dX11_putsAside_8 rfl (lv_at hl 1 rfl) ?_
  refine va_get (ci := 11) (v := .ref (a 208)) (C := RX11) (T := TX11) (N := 39) hx hb htA in_X11 hown hK hP 0 rfl rfl 23 (by decide) (htA _ wd_1377) (fun _ h => h) rfl dX11_putsAside_9 ?_
  refine lv_iload_n hx hb dX11_putsAside_12 rfl (lv_at hl 0 rfl) ?_
  refine lv_aload_n hx hb dX11_putsAside_13 rfl (lv_at hl 1 rfl) ?_
  refine va_get (ci := 11) (v := .ref (a 201)) (C := RX11) (T := TX11) (N := 39) hx hb htA in_X11 hown hK hP 0 rfl rfl 0 (by decide) (htA _ wd_1354) (fun _ h => h) rfl dX11_putsAside_14 ?_
  refine lv_bipush (v := 8) hx hb dX11_putsAside_17 (by decide) ?_
  refine lv_iload_n hx hb dX11_putsAside_19 rfl (lv_at hl 0 rfl) ?_
  refine lv_iadd hx hb dX11_putsAside_20 ?_
  refine lv_topi (fun x41 ex41 => ?_)
  obtain rfl : x41 = 28 := ex41.trans (by decide)
  refine va_iald hx hb hK hP 1 0 rfl rfl (in_lit (by decide)) dX11_putsAside_21 ?_
  refine lv_topi (fun x42 ex42 => ?_)
  obtain rfl : x42 = 0 := ex42.trans (by first | decide | rfl)
  refine va_iast hx hb hK hP hD hS 2 0 rfl rfl (in_lit (by decide)) dX11_putsAside_22 (fun H locs hP hD hS => ?_)
  rw [fa_upd_same (f := fun _ => 0) (i := (20 : Int32).toNatClampNeg) (x := 0) (by first | decide | rfl)] at hP hD
  have hP : va_P D vwCl [((a 200), .inr (11, [.ref (a 201), .ref (a 202), .ref (a 203), .ref (a 204), .int 0, .ref (a 205), .int 0, .int 0, .int 0, .int 0, .int 0, .int 0, .int 0, .int 0, .int 0, .int (-1), .int 0, .int 0, .int 0, .ref (a 206), .ref (a 207), .int 0, .int 0, .ref (a 208), .int 0, .int 0, .int 0, .int 0, .ref (a 209), .ref (a 210), .ref (a 211), .ref (a 212), .ref (a 213), .ref (a 214), .ref (a 215), .int 0, .ref (a 216), .ref (a 217), .ref (a 218)])), ((a 201), .inl (cy 0, 2260, .inl (upd (upd (fun _ => 0) (1 : Int32).toNatClampNeg 1) (2 : Int32).toNatClampNeg 1))), ((a 208), .inl (cy 0, 37, .inl (fun _ => 0)))] H := hP
  have hD := va_ca hP hD
  refine lv_iinc (v := 21) (lv' := [(1, .int 21), (0, .ref (a 200))]) hx hb dX11_putsAside_23 hl (k := 0) rfl (by decide) (by decide) rfl (fun ls hl => ?_)
  refine lv_goto (tgt := 2) hx hb dX11_putsAside_26 (by decide) ?_
  refine lv_iload_n hx hb dX11_putsAside_2 rfl (lv_at hl 0 rfl) ?_
  refine lv_bipush (v := 37) hx hb dX11_putsAside_3 (by decide) ?_
  refine lv_icmp_ge (tgt := 29) hx hb dX11_putsAside_5 (by decide) (fun q => absurd q (by decide)) (fun _ => ?_)
  refine lv_aload_n hx hb dX11_putsAside_8 rfl (lv_at hl 1 rfl) ?_
  refine va_get (ci := 11) (v := .ref (a 208)) (C := RX11) (T := TX11) (N := 39) hx hb htA in_X11 hown hK hP 0 rfl rfl 23 (by decide) (htA _ wd_1377) (fun _ h => h) rfl dX11_putsAside_9 ?_
  refine lv_iload_n hx hb dX11_putsAside_12 rfl (lv_at hl 0 rfl) ?_
  refine lv_aload_n hx hb dX11_putsAside_13 rfl (lv_at hl 1 rfl) ?_
  refine va_get (ci := 11) (v := .ref (a 201)) (C := RX11) (T := TX11) (N := 39) hx hb htA in_X11 hown hK hP 0 rfl rfl 0 (by decide) (htA _ wd_1354) (fun _ h => h) rfl dX11_putsAside_14 ?_
  refine lv_bipush (v := 8) hx hb dX11_putsAside_17 (by decide) ?_
  refine lv_iload_n hx hb dX11_putsAside_19 rfl (lv_at hl 0 rfl) ?_
  refine lv_iadd hx hb dX11_putsAside_20 ?_
  refine lv_topi (fun x43 ex43 => ?_)
  obtain rfl : x43 = 29 := ex43.trans (by decide)
  refine va_iald hx hb hK hP 1 0 rfl rfl (in_lit (by decide)) dX11_putsAside_21 ?_
  refine lv_topi (fun x44 ex44 => ?_)
  obtain rfl : x44 = 0 := ex44.trans (by first | decide | rfl)
  refine va_iast hx hb hK hP hD hS 2 0 rfl rfl (in_lit (by decide)) dX11_putsAside_22 (fun H locs hP hD hS => ?_)
  rw [fa_upd_same (f := fun _ => 0) (i := (21 : Int32).toNatClampNeg) (x := 0) (by first | decide | rfl)] at hP hD
  have hP : va_P D vwCl [((a 200), .inr (11, [.ref (a 201), .ref (a 202), .ref (a 203), .ref (a 204), .int 0, .ref (a 205), .int 0, .int 0, .int 0, .int 0, .int 0, .int 0, .int 0, .int 0, .int 0, .int (-1), .int 0, .int 0, .int 0, .ref (a 206), .ref (a 207), .int 0, .int 0, .ref (a 208), .int 0, .int 0, .int 0, .int 0, .ref (a 209), .ref (a 210), .ref (a 211), .ref (a 212), .ref (a 213), .ref (a 214), .ref (a 215), .int 0, .ref (a 216), .ref (a 217), .ref (a 218)])), ((a 201), .inl (cy 0, 2260, .inl (upd (upd (fun _ => 0) (1 : Int32).toNatClampNeg 1) (2 : Int32).toNatClampNeg 1))), ((a 208), .inl (cy 0, 37, .inl (fun _ => 0)))] H := hP
  have hD := va_ca hP hD
  refine lv_iinc (v := 22) (lv' := [(1, .int 22), (0, .ref (a 200))]) hx hb dX11_putsAside_23 hl (k := 0) rfl (by decide) (by decide) rfl (fun ls hl => ?_)
  refine lv_goto (tgt := 2) hx hb dX11_putsAside_26 (by decide) ?_
  refine lv_iload_n hx hb dX11_putsAside_2 rfl (lv_at hl 0 rfl) ?_
  refine lv_bipush (v := 37) hx hb dX11_putsAside_3 (by decide) ?_
  refine lv_icmp_ge (tgt := 29) hx hb dX11_putsAside_5 (by decide) (fun q => absurd q (by decide)) (fun _ => ?_)
  refine lv_aload_n hx hb dX11_putsAside_8 rfl (lv_at hl 1 rfl) ?_
  refine va_get (ci := 11) (v := .ref (a 208)) (C := RX11) (T := TX11) (N := 39) hx hb htA in_X11 hown hK hP 0 rfl rfl 23 (by decide) (htA _ wd_1377) (fun _ h => h) rfl dX11_putsAside_9 ?_
  refine lv_iload_n hx hb dX11_putsAside_12 rfl (lv_at hl 0 rfl) ?_
  refine lv_aload_n hx hb dX11_putsAside_13 rfl (lv_at hl 1 rfl) ?_
  refine va_get (ci := 11) (v := .ref (a 201)) (C := RX11) (T := TX11) (N := 39) hx hb htA in_X11 hown hK hP 0 rfl rfl 0 (by decide) (htA _ wd_1354) (fun _ h => h) rfl dX11_putsAside_14 ?_
  refine lv_bipush (v := 8) hx hb dX11_putsAside_17 (by decide) ?_
  refine lv_iload_n hx hb dX11_putsAside_19 rfl (lv_at hl 0 rfl) ?_
  refine lv_iadd hx hb dX11_putsAside_20 ?_
  refine lv_topi (fun x45 ex45 => ?_)
  obtain rfl : x45 = 30 := ex45.trans (by decide)
  refine va_iald hx hb hK hP 1 0 rfl rfl (in_lit (by decide)) dX11_putsAside_21 ?_
  refine lv_topi (fun x46 ex46 => ?_)
  obtain rfl : x46 = 0 := ex46.trans (by first | decide | rfl)
  refine va_iast hx hb hK hP hD hS 2 0 rfl rfl (in_lit (by decide)) dX11_putsAside_22 (fun H locs hP hD hS => ?_)
  rw [fa_upd_same (f := fun _ => 0) (i := (22 : Int32).toNatClampNeg) (x := 0) (by first | decide | rfl)] at hP hD
  have hP : va_P D vwCl [((a 200), .inr (11, [.ref (a 201), .ref (a 202), .ref (a 203), .ref (a 204), .int 0, .ref (a 205), .int 0, .int 0, .int 0, .int 0, .int 0, .int 0, .int 0, .int 0, .int 0, .int (-1), .int 0, .int 0, .int 0, .ref (a 206), .ref (a 207), .int 0, .int 0, .ref (a 208), .int 0, .int 0, .int 0, .int 0, .ref (a 209), .ref (a 210), .ref (a 211), .ref (a 212), .ref (a 213), .ref (a 214), .ref (a 215), .int 0, .ref (a 216), .ref (a 217), .ref (a 218)])), ((a 201), .inl (cy 0, 2260, .inl (upd (upd (fun _ => 0) (1 : Int32).toNatClampNeg 1) (2 : Int32).toNatClampNeg 1))), ((a 208), .inl (cy 0, 37, .inl (fun _ => 0)))] H := hP
  have hD := va_ca hP hD
  refine lv_iinc (v := 23) (lv' := [(1, .int 23), (0, .ref (a 200))]) hx hb dX11_putsAside_23 hl (k := 0) rfl (by decide) (by decide) rfl (fun ls hl => ?_)
  refine lv_goto (tgt := 2) hx hb dX11_putsAside_26 (by decide) ?_
  refine lv_iload_n hx hb dX11_putsAside_2 rfl (lv_at hl 0 rfl) ?_
  refine lv_bipush (v := 37) hx hb dX11_putsAside_3 (by decide) ?_
  refine lv_icmp_ge (tgt := 29) hx hb dX11_putsAside_5 (by decide) (fun q => absurd q (by decide)) (fun _ => ?_)
  refine lv_aload_n hx hb dX11_putsAside_8 rfl (lv_at hl 1 rfl) ?_
  refine va_get (ci := 11) (v := .ref (a 208)) (C := RX11) (T := TX11) (N := 39) hx hb htA in_X11 hown hK hP 0 rfl rfl 23 (by decide) (htA _ wd_1377) (fun _ h => h) rfl dX11_putsAside_9 ?_
  refine lv_iload_n hx hb dX11_putsAside_12 rfl (lv_at hl 0 rfl) ?_
  refine lv_aload_n hx hb dX11_putsAside_13 rfl (lv_at hl 1 rfl) ?_
  refine va_get (ci := 11) (v := .ref (a 201)) (C := RX11) (T := TX11) (N := 39) hx hb htA in_X11 hown hK hP 0 rfl rfl 0 (by decide) (htA _ wd_1354) (fun _ h => h) rfl dX11_putsAside_14 ?_
  refine lv_bipush (v := 8) hx hb dX11_putsAside_17 (by decide) ?_
  refine lv_iload_n hx hb dX11_putsAside_19 rfl (lv_at hl 0 rfl) ?_
  refine lv_iadd hx hb dX11_putsAside_20 ?_
  refine lv_topi (fun x47 ex47 => ?_)
  obtain rfl : x47 = 31 := ex47.trans (by decide)
  refine va_iald hx hb hK hP 1 0 rfl rfl (in_lit (by decide)) dX11_putsAside_21 ?_
  refine lv_topi (fun x48 ex48 => ?_)
  obtain rfl : x48 = 0 := ex48.trans (by first | decide | rfl)
  refine va_iast hx hb hK hP hD hS 2 0 rfl rfl (in_lit (by decide)) dX11_putsAside_22 (fun H locs hP hD hS => ?_)
  rw [fa_upd_same (f := fun _ => 0) (i := (23 : Int32).toNatClampNeg) (x := 0) (by first | decide | rfl)] at hP hD
  have hP : va_P D vwCl [((a 200), .inr (11, [.ref (a 201), .ref (a 202), .ref (a 203), .ref (a 204), .int 0, .ref (a 205), .int 0, .int 0, .int 0, .int 0, .int 0, .int 0, .int 0, .int 0, .int 0, .int (-1), .int 0, .int 0, .int 0, .ref (a 206), .ref (a 207), .int 0, .int 0, .ref (a 208), .int 0, .int 0, .int 0, .int 0, .ref (a 209), .ref (a 210), .ref (a 211), .ref (a 212), .ref (a 213), .ref (a 214), .ref (a 215), .int 0, .ref (a 216), .ref (a 217), .ref (a 218)])), ((a 201), .inl (cy 0, 2260, .inl (upd (upd (fun _ => 0) (1 : Int32).toNatClampNeg 1) (2 : Int32).toNatClampNeg 1))), ((a 208), .inl (cy 0, 37, .inl (fun _ => 0)))] H := hP
  have hD := va_ca hP hD
  refine lv_iinc (v := 24) (lv' := [(1, .int 24), (0, .ref (a 200))]) hx hb dX11_putsAside_23 hl (k := 0) rfl (by decide) (by decide) rfl (fun ls hl => ?_)
  refine lv_goto (tgt := 2) hx hb dX11_putsAside_26 (by decide) ?_
  refine lv_iload_n hx hb dX11_putsAside_2 rfl (lv_at hl 0 rfl) ?_
  refine lv_bipush (v := 37) hx hb dX11_putsAside_3 (by decide) ?_
  refine lv_icmp_ge (tgt := 29) hx hb dX11_putsAside_5 (by decide) (fun q => absurd q (by decide)) (fun _ => ?_)
  refine lv_aload_n hx hb dX11_putsAside_8 rfl (lv_at hl 1 rfl) ?_
  refine va_get (ci := 11) (v := .ref (a 208)) (C := RX11) (T := TX11) (N := 39) hx hb htA in_X11 hown hK hP 0 rfl rfl 23 (by decide) (htA _ wd_1377) (fun _ h => h) rfl dX11_putsAside_9 ?_
  refine lv_iload_n hx hb dX11_putsAside_12 rfl (lv_at hl 0 rfl) ?_
  refine lv_aload_n hx hb dX11_putsAside_13 rfl (lv_at hl 1 rfl) ?_
  refine va_get (ci := 11) (v := .ref (a 201)) (C := RX11) (T := TX11) (N := 39) hx hb htA in_X11 hown hK hP 0 rfl rfl 0 (by decide) (htA _ wd_1354) (fun _ h => h) rfl dX11_putsAside_14 ?_
  refine lv_bipush (v := 8) hx hb dX11_putsAside_17 (by decide) ?_
  refine lv_iload_n hx hb dX11_putsAside_19 rfl (lv_at hl 0 rfl) ?_
  refine lv_iadd hx hb dX11_putsAside_20 ?_
  refine lv_topi (fun x49 ex49 => ?_)
  obtain rfl : x49 = 32 := ex49.trans (by decide)
  refine va_iald hx hb hK hP 1 0 rfl rfl (in_lit (by decide)) dX11_putsAside_21 ?_
  refine lv_topi (fun x50 ex50 => ?_)
  obtain rfl : x50 = 0 := ex50.trans (by first | decide | rfl)
  refine va_iast hx hb hK hP hD hS 2 0 rfl rfl (in_lit (by decide)) dX11_putsAside_22 (fun H locs hP hD hS => ?_)
  rw [fa_upd_same (f := fun _ => 0) (i := (24 : Int32).toNatClampNeg) (x := 0) (by first | decide | rfl)] at hP hD
  have hP : va_P D vwCl [((a 200), .inr (11, [.ref (a 201), .ref (a 202), .ref (a 203), .ref (a 204), .int 0, .ref (a 205), .int 0, .int 0, .int 0, .int 0, .int 0, .int 0, .int 0, .int 0, .int 0, .int (-1), .int 0, .int 0, .int 0, .ref (a 206), .ref (a 207), .int 0, .int 0, .ref (a 208), .int 0, .int 0, .int 0, .int 0, .ref (a 209), .ref (a 210), .ref (a 211), .ref (a 212), .ref (a 213), .ref (a 214), .ref (a 215), .int 0, .ref (a 216), .ref (a 217), .ref (a 218)])), ((a 201), .inl (cy 0, 2260, .inl (upd (upd (fun _ => 0) (1 : Int32).toNatClampNeg 1) (2 : Int32).toNatClampNeg 1))), ((a 208), .inl (cy 0, 37, .inl (fun _ => 0)))] H := hP
  have hD := va_ca hP hD
  refine lv_iinc (v := 25) (lv' := [(1, .int 25), (0, .ref (a 200))]) hx hb dX11_putsAside_23 hl (k := 0) rfl (by decide) (by decide) rfl (fun ls hl => ?_)
  refine lv_goto (tgt := 2) hx hb dX11_putsAside_26 (by decide) ?_
  refine lv_iload_n hx hb dX11_putsAside_2 rfl (lv_at hl 0 rfl) ?_
  refine lv_bipush (v := 37) hx hb dX11_putsAside_3 (by decide) ?_
  refine lv_icmp_ge (tgt := 29) hx hb dX11_putsAside_5 (by decide) (fun q => absurd q (by decide)) (fun _ => ?_)
  refine lv_aload_n hx hb dX11_putsAside_8 rfl (lv_at hl 1 rfl) ?_
  refine va_get (ci := 11) (v := .ref (a 208)) (C := RX11) (T := TX11) (N := 39) hx hb htA in_X11 hown hK hP 0 rfl rfl 23 (by decide) (htA _ wd_1377) (fun _ h => h) rfl dX11_putsAside_9 ?_
  refine lv_iload_n hx hb dX11_putsAside_12 rfl (lv_at hl 0 rfl) ?_
  refine lv_aload_n hx hb dX11_putsAside_13 rfl (lv_at hl 1 rfl) ?_
  refine va_get (ci := 11) (v := .ref (a 201)) (C := RX11) (T := TX11) (N := 39) hx hb htA in_X11 hown hK hP 0 rfl rfl 0 (by decide) (htA _ wd_1354) (fun _ h => h) rfl dX11_putsAside_14 ?_
  refine lv_bipush (v := 8) hx hb dX11_putsAside_17 (by decide) ?_
  refine lv_iload_n hx hb dX11_putsAside_19 rfl (lv_at hl 0 rfl) ?_
  refine lv_iadd hx hb dX11_putsAside_20 ?_
  refine lv_topi (fun x51 ex51 => ?_)
  obtain rfl : x51 = 33 := ex51.trans (by decide)
  refine va_iald hx hb hK hP 1 0 rfl rfl (in_lit (by decide)) dX11_putsAside_21 ?_
  refine lv_topi (fun x52 ex52 => ?_)
  obtain rfl : x52 = 0 := ex52.trans (by first | decide | rfl)
  refine va_iast hx hb hK hP hD hS 2 0 rfl rfl (in_lit (by decide)) dX11_putsAside_22 (fun H locs hP hD hS => ?_)
  rw [fa_upd_same (f := fun _ => 0) (i := (25 : Int32).toNatClampNeg) (x := 0) (by first | decide | rfl)] at hP hD
  have hP : va_P D vwCl [((a 200), .inr (11, [.ref (a 201), .ref (a 202), .ref (a 203), .ref (a 204), .int 0, .ref (a 205), .int 0, .int 0, .int 0, .int 0, .int 0, .int 0, .int 0, .int 0, .int 0, .int (-1), .int 0, .int 0, .int 0, .ref (a 206), .ref (a 207), .int 0, .int 0, .ref (a 208), .int 0, .int 0, .int 0, .int 0, .ref (a 209), .ref (a 210), .ref (a 211), .ref (a 212), .ref (a 213), .ref (a 214), .ref (a 215), .int 0, .ref (a 216), .ref (a 217), .ref (a 218)])), ((a 201), .inl (cy 0, 2260, .inl (upd (upd (fun _ => 0) (1 : Int32).toNatClampNeg 1) (2 : Int32).toNatClampNeg 1))), ((a 208), .inl (cy 0, 37, .inl (fun _ => 0)))] H := hP
  have hD := va_ca hP hD
  refine lv_iinc (v := 26) (lv' := [(1, .int 26), (0, .ref (a 200))]) hx hb dX11_putsAside_23 hl (k := 0) rfl (by decide) (by decide) rfl (fun ls hl => ?_)
  refine lv_goto (tgt := 2) hx hb dX11_putsAside_26 (by decide) ?_
  refine lv_iload_n hx hb dX11_putsAside_2 rfl (lv_at hl 0 rfl) ?_
  refine lv_bipush (v := 37) hx hb dX11_putsAside_3 (by decide) ?_
  refine lv_icmp_ge (tgt := 29) hx hb dX11_putsAside_5 (by decide) (fun q => absurd q (by decide)) (fun _ => ?_)
  refine lv_aload_n hx hb dX11_putsAside_8 rfl (lv_at hl 1 rfl) ?_
  refine va_get (ci := 11) (v := .ref (a 208)) (C := RX11) (T := TX11) (N := 39) hx hb htA in_X11 hown hK hP 0 rfl rfl 23 (by decide) (htA _ wd_1377) (fun _ h => h) rfl dX11_putsAside_9 ?_
  refine lv_iload_n hx hb dX11_putsAside_12 rfl (lv_at hl 0 rfl) ?_
  refine lv_aload_n hx hb dX11_putsAside_13 rfl (lv_at hl 1 rfl) ?_
  refine va_get (ci := 11) (v := .ref (a 201)) (C := RX11) (T := TX11) (N := 39) hx hb htA in_X11 hown hK hP 0 rfl rfl 0 (by decide) (htA _ wd_1354) (fun _ h => h) rfl dX11_putsAside_14 ?_
  refine lv_bipush (v := 8) hx hb dX11_putsAside_17 (by decide) ?_
  refine lv_iload_n hx hb dX11_putsAside_19 rfl (lv_at hl 0 rfl) ?_
  refine lv_iadd hx hb dX11_putsAside_20 ?_
  refine lv_topi (fun x53 ex53 => ?_)
  obtain rfl : x53 = 34 := ex53.trans (by decide)
  refine va_iald hx hb hK hP 1 0 rfl rfl (in_lit (by decide)) dX11_putsAside_21 ?_
  refine lv_topi (fun x54 ex54 => ?_)
  obtain rfl : x54 = 0 := ex54.trans (by first | decide | rfl)
  refine va_iast hx hb hK hP hD hS 2 0 rfl rfl (in_lit (by decide)) dX11_putsAside_22 (fun H locs hP hD hS => ?_)
  rw [fa_upd_same (f := fun _ => 0) (i := (26 : Int32).toNatClampNeg) (x := 0) (by first | decide | rfl)] at hP hD
  have hP : va_P D vwCl [((a 200), .inr (11, [.ref (a 201), .ref (a 202), .ref (a 203), .ref (a 204), .int 0, .ref (a 205), .int 0, .int 0, .int 0, .int 0, .int 0, .int 0, .int 0, .int 0, .int 0, .int (-1), .int 0, .int 0, .int 0, .ref (a 206), .ref (a 207), .int 0, .int 0, .ref (a 208), .int 0, .int 0, .int 0, .int 0, .ref (a 209), .ref (a 210), .ref (a 211), .ref (a 212), .ref (a 213), .ref (a 214), .ref (a 215), .int 0, .ref (a 216), .ref (a 217), .ref (a 218)])), ((a 201), .inl (cy 0, 2260, .inl (upd (upd (fun _ => 0) (1 : Int32).toNatClampNeg 1) (2 : Int32).toNatClampNeg 1))), ((a 208), .inl (cy 0, 37, .inl (fun _ => 0)))] H := hP
  have hD := va_ca hP hD
  refine lv_iinc (v := 27) (lv' := [(1, .int 27), (0, .ref (a 200))]) hx hb dX11_putsAside_23 hl (k := 0) rfl (by decide) (by decide) rfl (fun ls hl => ?_)
  refine lv_goto (tgt := 2) hx hb dX11_putsAside_26 (by decide) ?_
  refine lv_iload_n hx hb dX11_putsAside_2 rfl (lv_at hl 0 rfl) ?_
  refine lv_bipush (v := 37) hx hb dX11_putsAside_3 (by decide) ?_
  refine lv_icmp_ge (tgt := 29) hx hb dX11_putsAside_5 (by decide) (fun q => absurd q (by decide)) (fun _ => ?_)
  refine lv_aload_n hx hb dX11_putsAside_8 rfl (lv_at hl 1 rfl) ?_
  refine va_get (ci := 11) (v := .ref (a 208)) (C := RX11) (T := TX11) (N := 39) hx hb htA in_X11 hown hK hP 0 rfl rfl 23 (by decide) (htA _ wd_1377) (fun _ h => h) rfl dX11_putsAside_9 ?_
  refine lv_iload_n hx hb dX11_putsAside_12 rfl (lv_at hl 0 rfl) ?_
  refine lv_aload_n hx hb dX11_putsAside_13 rfl (lv_at hl 1 rfl) ?_
  refine va_get (ci := 11) (v := .ref (a 201)) (C := RX11) (T := TX11) (N := 39) hx hb htA in_X11 hown hK hP 0 rfl rfl 0 (by decide) (htA _ wd_1354) (fun _ h => h) rfl dX11_putsAside_14 ?_
  refine lv_bipush (v := 8) hx hb dX11_putsAside_17 (by decide) ?_
  refine lv_iload_n hx hb dX11_putsAside_19 rfl (lv_at hl 0 rfl) ?_
  refine lv_iadd hx hb dX11_putsAside_20 ?_
  refine lv_topi (fun x55 ex55 => ?_)
  obtain rfl : x55 = 35 := ex55.trans (by decide)
  refine va_iald hx hb hK hP 1 0 rfl rfl (in_lit (by decide)) dX11_putsAside_21 ?_
  refine lv_topi (fun x56 ex56 => ?_)
  obtain rfl : x56 = 0 := ex56.trans (by first | decide | rfl)
  refine va_iast hx hb hK hP hD hS 2 0 rfl rfl (in_lit (by decide)) dX11_putsAside_22 (fun H locs hP hD hS => ?_)
  rw [fa_upd_same (f := fun _ => 0) (i := (27 : Int32).toNatClampNeg) (x := 0) (by first | decide | rfl)] at hP hD
  have hP : va_P D vwCl [((a 200), .inr (11, [.ref (a 201), .ref (a 202), .ref (a 203), .ref (a 204), .int 0, .ref (a 205), .int 0, .int 0, .int 0, .int 0, .int 0, .int 0, .int 0, .int 0, .int 0, .int (-1), .int 0, .int 0, .int 0, .ref (a 206), .ref (a 207), .int 0, .int 0, .ref (a 208), .int 0, .int 0, .int 0, .int 0, .ref (a 209), .ref (a 210), .ref (a 211), .ref (a 212), .ref (a 213), .ref (a 214), .ref (a 215), .int 0, .ref (a 216), .ref (a 217), .ref (a 218)])), ((a 201), .inl (cy 0, 2260, .inl (upd (upd (fun _ => 0) (1 : Int32).toNatClampNeg 1) (2 : Int32).toNatClampNeg 1))), ((a 208), .inl (cy 0, 37, .inl (fun _ => 0)))] H := hP
  have hD := va_ca hP hD
  refine lv_iinc (v := 28) (lv' := [(1, .int 28), (0, .ref (a 200))]) hx hb dX11_putsAside_23 hl (k := 0) rfl (by decide) (by decide) rfl (fun ls hl => ?_)
  refine lv_goto (tgt := 2) hx hb dX11_putsAside_26 (by decide) ?_
  refine lv_iload_n hx hb dX11_putsAside_2 rfl (lv_at hl 0 rfl) ?_
  refine lv_bipush (v := 37) hx hb dX11_putsAside_3 (by decide) ?_
  refine lv_icmp_ge (tgt := 29) hx hb dX11_putsAside_5 (by decide) (fun q => absurd q (by decide)) (fun _ => ?_)
  refine lv_aload_n hx hb dX11_putsAside_8 rfl (lv_at hl 1 rfl) ?_
  refine va_get (ci := 11) (v := .ref (a 208)) (C := RX11) (T := TX11) (N := 39) hx hb htA in_X11 hown hK hP 0 rfl rfl 23 (by decide) (htA _ wd_1377) (fun _ h => h) rfl dX11_putsAside_9 ?_
  refine lv_iload_n hx hb dX11_putsAside_12 rfl (lv_at hl 0 rfl) ?_
  refine lv_aload_n hx hb dX11_putsAside_13 rfl (lv_at hl 1 rfl) ?_
  refine va_get (ci := 11) (v := .ref (a 201)) (C := RX11) (T := TX11) (N := 39) hx hb htA in_X11 hown hK hP 0 rfl rfl 0 (by decide) (htA _ wd_1354) (fun _ h => h) rfl dX11_putsAside_14 ?_
  refine lv_bipush (v := 8) hx hb dX11_putsAside_17 (by decide) ?_
  refine lv_iload_n hx hb dX11_putsAside_19 rfl (lv_at hl 0 rfl) ?_
  refine lv_iadd hx hb dX11_putsAside_20 ?_
  refine lv_topi (fun x57 ex57 => ?_)
  obtain rfl : x57 = 36 := ex57.trans (by decide)
  refine va_iald hx hb hK hP 1 0 rfl rfl (in_lit (by decide)) dX11_putsAside_21 ?_
  refine lv_topi (fun x58 ex58 => ?_)
  obtain rfl : x58 = 0 := ex58.trans (by first | decide | rfl)
  refine va_iast hx hb hK hP hD hS 2 0 rfl rfl (in_lit (by decide)) dX11_putsAside_22 (fun H locs hP hD hS => ?_)
  rw [fa_upd_same (f := fun _ => 0) (i := (28 : Int32).toNatClampNeg) (x := 0) (by first | decide | rfl)] at hP hD
  have hP : va_P D vwCl [((a 200), .inr (11, [.ref (a 201), .ref (a 202), .ref (a 203), .ref (a 204), .int 0, .ref (a 205), .int 0, .int 0, .int 0, .int 0, .int 0, .int 0, .int 0, .int 0, .int 0, .int (-1), .int 0, .int 0, .int 0, .ref (a 206), .ref (a 207), .int 0, .int 0, .ref (a 208), .int 0, .int 0, .int 0, .int 0, .ref (a 209), .ref (a 210), .ref (a 211), .ref (a 212), .ref (a 213), .ref (a 214), .ref (a 215), .int 0, .ref (a 216), .ref (a 217), .ref (a 218)])), ((a 201), .inl (cy 0, 2260, .inl (upd (upd (fun _ => 0) (1 : Int32).toNatClampNeg 1) (2 : Int32).toNatClampNeg 1))), ((a 208), .inl (cy 0, 37, .inl (fun _ => 0)))] H := hP
  have hD := va_ca hP hD
  refine lv_iinc (v := 29) (lv' := [(1, .int 29), (0, .ref (a 200))]) hx hb dX11_putsAside_23 hl (k := 0) rfl (by decide) (by decide) rfl (fun ls hl => ?_)
  refine lv_goto (tgt := 2) hx hb dX11_putsAside_26 (by decide) ?_
  refine lv_iload_n hx hb dX11_putsAside_2 rfl (lv_at hl 0 rfl) ?_
  refine lv_bipush (v := 37) hx hb dX11_putsAside_3 (by decide) ?_
  refine lv_icmp_ge (tgt := 29) hx hb dX11_putsAside_5 (by decide) (fun q => absurd q (by decide)) (fun _ => ?_)
  refine lv_aload_n hx hb dX11_putsAside_8 rfl (lv_at hl 1 rfl) ?_
  refine va_get (ci := 11) (v := .ref (a 208)) (C := RX11) (T := TX11) (N := 39) hx hb htA in_X11 hown hK hP 0 rfl rfl 23 (by decide) (htA _ wd_1377) (fun _ h => h) rfl dX11_putsAside_9 ?_
  refine lv_iload_n hx hb dX11_putsAside_12 rfl (lv_at hl 0 rfl) ?_
  refine lv_aload_n hx hb dX11_putsAside_13 rfl (lv_at hl 1 rfl) ?_
  refine va_get (ci := 11) (v := .ref (a 201)) (C := RX11) (T := TX11) (N := 39) hx hb htA in_X11 hown hK hP 0 rfl rfl 0 (by decide) (htA _ wd_1354) (fun _ h => h) rfl dX11_putsAside_14 ?_
  refine lv_bipush (v := 8) hx hb dX11_putsAside_17 (by decide) ?_
  refine lv_iload_n hx hb dX11_putsAside_19 rfl (lv_at hl 0 rfl) ?_
  refine lv_iadd hx hb dX11_putsAside_20 ?_
  refine lv_topi (fun x59 ex59 => ?_)
  obtain rfl : x59 = 37 := ex59.trans (by decide)
  refine va_iald hx hb hK hP 1 0 rfl rfl (in_lit (by decide)) dX11_putsAside_21 ?_
  refine lv_topi (fun x60 ex60 => ?_)
  obtain rfl : x60 = 0 := ex60.trans (by first | decide | rfl)
  refine va_iast hx hb hK hP hD hS 2 0 rfl rfl (in_lit (by decide)) dX11_putsAside_22 (fun H locs hP hD hS => ?_)
  rw [fa_upd_same (f := fun _ => 0) (i := (29 : Int32).toNatClampNeg) (x := 0) (by first | decide | rfl)] at hP hD
  have hP : va_P D vwCl [((a 200), .inr (11, [.ref (a 201), .ref (a 202), .ref (a 203), .ref (a 204), .int 0, .ref (a 205), .int 0, .int 0, .int 0, .int 0, .int 0, .int 0, .int 0, .int 0, .int 0, .int (-1), .int 0, .int 0, .int 0, .ref (a 206), .ref (a 207), .int 0, .int 0, .ref (a 208), .int 0, .int 0, .int 0, .int 0, .ref (a 209), .ref (a 210), .ref (a 211), .ref (a 212), .ref (a 213), .ref (a 214), .ref (a 215), .int 0, .ref (a 216), .ref (a 217), .ref (a 218)])), ((a 201), .inl (cy 0, 2260, .inl (upd (upd (fun _ => 0) (1 : Int32).toNatClampNeg 1) (2 : Int32).toNatClampNeg 1))), ((a 208), .inl (cy 0, 37, .inl (fun _ => 0)))] H := hP
  have hD := va_ca hP hD
  refine lv_iinc (v := 30) (lv' := [(1, .int 30), (0, .ref (a 200))]) hx hb dX11_putsAside_23 hl (k := 0) rfl (by decide) (by decide) rfl (fun ls hl => ?_)
  refine lv_goto (tgt := 2) hx hb dX11_putsAside_26 (by decide) ?_
  refine lv_iload_n hx hb dX11_putsAside_2 rfl (lv_at hl 0 rfl) ?_
  refine lv_bipush (v := 37) hx hb dX11_putsAside_3 (by decide) ?_
  refine lv_icmp_ge (tgt := 29) hx hb dX11_putsAside_5 (by decide) (fun q => absurd q (by decide)) (fun _ => ?_)
  refine lv_aload_n hx hb dX11_putsAside_8 rfl (lv_at hl 1 rfl) ?_
  refine va_get (ci := 11) (v := .ref (a 208)) (C := RX11) (T := TX11) (N := 39) hx hb htA in_X11 hown hK hP 0 rfl rfl 23 (by decide) (htA _ wd_1377) (fun _ h => h) rfl dX11_putsAside_9 ?_
  refine lv_iload_n hx hb dX11_putsAside_12 rfl (lv_at hl 0 rfl) ?_
  refine lv_aload_n hx hb dX11_putsAside_13 rfl (lv_at hl 1 rfl) ?_
  refine va_get (ci := 11) (v := .ref (a 201)) (C := RX11) (T := TX11) (N := 39) hx hb htA in_X11 hown hK hP 0 rfl rfl 0 (by decide) (htA _ wd_1354) (fun _ h => h) rfl dX11_putsAside_14 ?_
  refine lv_bipush (v := 8) hx hb dX11_putsAside_17 (by decide) ?_
  refine lv_iload_n hx hb dX11_putsAside_19 rfl (lv_at hl 0 rfl) ?_
  refine lv_iadd hx hb dX11_putsAside_20 ?_
  refine lv_topi (fun x61 ex61 => ?_)
  obtain rfl : x61 = 38 := ex61.trans (by decide)
  refine va_iald hx hb hK hP 1 0 rfl rfl (in_lit (by decide)) dX11_putsAside_21 ?_
  refine lv_topi (fun x62 ex62 => ?_)
  obtain rfl : x62 = 0 := ex62.trans (by first | decide | rfl)
  refine va_iast hx hb hK hP hD hS 2 0 rfl rfl (in_lit (by decide)) dX11_putsAside_22 (fun H locs hP hD hS => ?_)
  rw [fa_upd_same (f := fun _ => 0) (i := (30 : Int32).toNatClampNeg) (x := 0) (by first | decide | rfl)] at hP hD
  have hP : va_P D vwCl [((a 200), .inr (11, [.ref (a 201), .ref (a 202), .ref (a 203), .ref (a 204), .int 0, .ref (a 205), .int 0, .int 0, .int 0, .int 0, .int 0, .int 0, .int 0, .int 0, .int 0, .int (-1), .int 0, .int 0, .int 0, .ref (a 206), .ref (a 207), .int 0, .int 0, .ref (a 208), .int 0, .int 0, .int 0, .int 0, .ref (a 209), .ref (a 210), .ref (a 211), .ref (a 212), .ref (a 213), .ref (a 214), .ref (a 215), .int 0, .ref (a 216), .ref (a 217), .ref (a 218)])), ((a 201), .inl (cy 0, 2260, .inl (upd (upd (fun _ => 0) (1 : Int32).toNatClampNeg 1) (2 : Int32).toNatClampNeg 1))), ((a 208), .inl (cy 0, 37, .inl (fun _ => 0)))] H := hP
  have hD := va_ca hP hD
  refine lv_iinc (v := 31) (lv' := [(1, .int 31), (0, .ref (a 200))]) hx hb dX11_putsAside_23 hl (k := 0) rfl (by decide) (by decide) rfl (fun ls hl => ?_)
  refine lv_goto (tgt := 2) hx hb dX11_putsAside_26 (by decide) ?_
  refine lv_iload_n hx hb dX11_putsAside_2 rfl (lv_at hl 0 rfl) ?_
  refine lv_bipush (v := 37) hx hb dX11_putsAside_3 (by decide) ?_
  refine lv_icmp_ge (tgt := 29) hx hb dX11_putsAside_5 (by decide) (fun q => absurd q (by decide)) (fun _ => ?_)
  refine lv_aload_n hx hb dX11_putsAside_8 rfl (lv_at hl 1 rfl) ?_
  refine va_get (ci := 11) (v := .ref (a 208)) (C := RX11) (T := TX11) (N := 39) hx hb htA in_X11 hown hK hP 0 rfl rfl 23 (by decide) (htA _ wd_1377) (fun _ h => h) rfl dX11_putsAside_9 ?_
  refine lv_iload_n hx hb dX11_putsAside_12 rfl (lv_at hl 0 rfl) ?_
  refine lv_aload_n hx hb dX11_putsAside_13 rfl (lv_at hl 1 rfl) ?_
  refine va_get (ci := 11) (v := .ref (a 201)) (C := RX11) (T := TX11) (N := 39) hx hb htA in_X11 hown hK hP 0 rfl rfl 0 (by decide) (htA _ wd_1354) (fun _ h => h) rfl dX11_putsAside_14 ?_
  refine lv_bipush (v := 8) hx hb dX11_putsAside_17 (by decide) ?_
  refine lv_iload_n hx hb dX11_putsAside_19 rfl (lv_at hl 0 rfl) ?_
  refine lv_iadd hx hb dX11_putsAside_20 ?_
  refine lv_topi (fun x63 ex63 => ?_)
  obtain rfl : x63 = 39 := ex63.trans (by decide)
  refine va_iald hx hb hK hP 1 0 rfl rfl (in_lit (by decide)) dX11_putsAside_21 ?_
  refine lv_topi (fun x64 ex64 => ?_)
  obtain rfl : x64 = 0 := ex64.trans (by first | decide | rfl)
  refine va_iast hx hb hK hP hD hS 2 0 rfl rfl (in_lit (by decide)) dX11_putsAside_22 (fun H locs hP hD hS => ?_)
  rw [fa_upd_same (f := fun _ => 0) (i := (31 : Int32).toNatClampNeg) (x := 0) (by first | decide | rfl)] at hP hD
  have hP : va_P D vwCl [((a 200), .inr (11, [.ref (a 201), .ref (a 202), .ref (a 203), .ref (a 204), .int 0, .ref (a 205), .int 0, .int 0, .int 0, .int 0, .int 0, .int 0, .int 0, .int 0, .int 0, .int (-1), .int 0, .int 0, .int 0, .ref (a 206), .ref (a 207), .int 0, .int 0, .ref (a 208), .int 0, .int 0, .int 0, .int 0, .ref (a 209), .ref (a 210), .ref (a 211), .ref (a 212), .ref (a 213), .ref (a 214), .ref (a 215), .int 0, .ref (a 216), .ref (a 217), .ref (a 218)])), ((a 201), .inl (cy 0, 2260, .inl (upd (upd (fun _ => 0) (1 : Int32).toNatClampNeg 1) (2 : Int32).toNatClampNeg 1))), ((a 208), .inl (cy 0, 37, .inl (fun _ => 0)))] H := hP
  have hD := va_ca hP hD
  refine lv_iinc (v := 32) (lv' := [(1, .int 32), (0, .ref (a 200))]) hx hb dX11_putsAside_23 hl (k := 0) rfl (by decide) (by decide) rfl (fun ls hl => ?_)
  refine lv_goto (tgt := 2) hx hb dX11_putsAside_26 (by decide) ?_
  refine lv_iload_n hx hb dX11_putsAside_2 rfl (lv_at hl 0 rfl) ?_
  refine lv_bipush (v := 37) hx hb dX11_putsAside_3 (by decide) ?_
  refine lv_icmp_ge (tgt := 29) hx hb dX11_putsAside_5 (by decide) (fun q => absurd q (by decide)) (fun _ => ?_)
  refine lv_aload_n hx hb dX11_putsAside_8 rfl (lv_at hl 1 rfl) ?_
  refine va_get (ci := 11) (v := .ref (a 208)) (C := RX11) (T := TX11) (N := 39) hx hb htA in_X11 hown hK hP 0 rfl rfl 23 (by decide) (htA _ wd_1377) (fun _ h => h) rfl dX11_putsAside_9 ?_
  refine lv_iload_n hx hb dX11_putsAside_12 rfl (lv_at hl 0 rfl) ?_
  refine lv_aload_n hx hb dX11_putsAside_13 rfl (lv_at hl 1 rfl) ?_
  refine va_get (ci := 11) (v := .ref (a 201)) (C := RX11) (T := TX11) (N := 39) hx hb htA in_X11 hown hK hP 0 rfl rfl 0 (by decide) (htA _ wd_1354) (fun _ h => h) rfl dX11_putsAside_14 ?_
  refine lv_bipush (v := 8) hx hb dX11_putsAside_17 (by decide) ?_
  refine lv_iload_n hx hb dX11_putsAside_19 rfl (lv_at hl 0 rfl) ?_
  refine lv_iadd hx hb dX11_putsAside_20 ?_
  refine lv_topi (fun x65 ex65 => ?_)
  obtain rfl : x65 = 40 := ex65.trans (by decide)
  refine va_iald hx hb hK hP 1 0 rfl rfl (in_lit (by decide)) dX11_putsAside_21 ?_
  refine lv_topi (fun x66 ex66 => ?_)
  obtain rfl : x66 = 0 := ex66.trans (by first | decide | rfl)
  refine va_iast hx hb hK hP hD hS 2 0 rfl rfl (in_lit (by decide)) dX11_putsAside_22 (fun H locs hP hD hS => ?_)
  rw [fa_upd_same (f := fun _ => 0) (i := (32 : Int32).toNatClampNeg) (x := 0) (by first | decide | rfl)] at hP hD
  have hP : va_P D vwCl [((a 200), .inr (11, [.ref (a 201), .ref (a 202), .ref (a 203), .ref (a 204), .int 0, .ref (a 205), .int 0, .int 0, .int 0, .int 0, .int 0, .int 0, .int 0, .int 0, .int 0, .int (-1), .int 0, .int 0, .int 0, .ref (a 206), .ref (a 207), .int 0, .int 0, .ref (a 208), .int 0, .int 0, .int 0, .int 0, .ref (a 209), .ref (a 210), .ref (a 211), .ref (a 212), .ref (a 213), .ref (a 214), .ref (a 215), .int 0, .ref (a 216), .ref (a 217), .ref (a 218)])), ((a 201), .inl (cy 0, 2260, .inl (upd (upd (fun _ => 0) (1 : Int32).toNatClampNeg 1) (2 : Int32).toNatClampNeg 1))), ((a 208), .inl (cy 0, 37, .inl (fun _ => 0)))] H := hP
  have hD := va_ca hP hD
  refine lv_iinc (v := 33) (lv' := [(1, .int 33), (0, .ref (a 200))]) hx hb dX11_putsAside_23 hl (k := 0) rfl (by decide) (by decide) rfl (fun ls hl => ?_)
  refine lv_goto (tgt := 2) hx hb dX11_putsAside_26 (by decide) ?_
  refine lv_iload_n hx hb dX11_putsAside_2 rfl (lv_at hl 0 rfl) ?_
  refine lv_bipush (v := 37) hx hb dX11_putsAside_3 (by decide) ?_
  refine lv_icmp_ge (tgt := 29) hx hb dX11_putsAside_5 (by decide) (fun q => absurd q (by decide)) (fun _ => ?_)
  refine lv_aload_n hx hb dX11_putsAside_8 rfl (lv_at hl 1 rfl) ?_
  refine va_get (ci := 11) (v := .ref (a 208)) (C := RX11) (T := TX11) (N := 39) hx hb htA in_X11 hown hK hP 0 rfl rfl 23 (by decide) (htA _ wd_1377) (fun _ h => h) rfl dX11_putsAside_9 ?_
  refine lv_iload_n hx hb dX11_putsAside_12 rfl (lv_at hl 0 rfl) ?_
  refine lv_aload_n hx hb dX11_putsAside_13 rfl (lv_at hl 1 rfl) ?_
  refine va_get (ci := 11) (v := .ref (a 201)) (C := RX11) (T := TX11) (N := 39) hx hb htA in_X11 hown hK hP 0 rfl rfl 0 (by decide) (htA _ wd_1354) (fun _ h => h) rfl dX11_putsAside_14 ?_
  refine lv_bipush (v := 8) hx hb dX11_putsAside_17 (by decide) ?_
  refine lv_iload_n hx hb dX11_putsAside_19 rfl (lv_at hl 0 rfl) ?_
  refine lv_iadd hx hb dX11_putsAside_20 ?_
  refine lv_topi (fun x67 ex67 => ?_)
  obtain rfl : x67 = 41 := ex67.trans (by decide)
  refine va_iald hx hb hK hP 1 0 rfl rfl (in_lit (by decide)) dX11_putsAside_21 ?_
  refine lv_topi (fun x68 ex68 => ?_)
  obtain rfl : x68 = 0 := ex68.trans (by first | decide | rfl)
  refine va_iast hx hb hK hP hD hS 2 0 rfl rfl (in_lit (by decide)) dX11_putsAside_22 (fun H locs hP hD hS => ?_)
  rw [fa_upd_same (f := fun _ => 0) (i := (33 : Int32).toNatClampNeg) (x := 0) (by first | decide | rfl)] at hP hD
  have hP : va_P D vwCl [((a 200), .inr (11, [.ref (a 201), .ref (a 202), .ref (a 203), .ref (a 204), .int 0, .ref (a 205), .int 0, .int 0, .int 0, .int 0, .int 0, .int 0, .int 0, .int 0, .int 0, .int (-1), .int 0, .int 0, .int 0, .ref (a 206), .ref (a 207), .int 0, .int 0, .ref (a 208), .int 0, .int 0, .int 0, .int 0, .ref (a 209), .ref (a 210), .ref (a 211), .ref (a 212), .ref (a 213), .ref (a 214), .ref (a 215), .int 0, .ref (a 216), .ref (a 217), .ref (a 218)])), ((a 201), .inl (cy 0, 2260, .inl (upd (upd (fun _ => 0) (1 : Int32).toNatClampNeg 1) (2 : Int32).toNatClampNeg 1))), ((a 208), .inl (cy 0, 37, .inl (fun _ => 0)))] H := hP
  have hD := va_ca hP hD
  refine lv_iinc (v := 34) (lv' := [(1, .int 34), (0, .ref (a 200))]) hx hb dX11_putsAside_23 hl (k := 0) rfl (by decide) (by decide) rfl (fun ls hl => ?_)
  refine lv_goto (tgt := 2) hx hb dX11_putsAside_26 (by decide) ?_
  refine lv_iload_n hx hb dX11_putsAside_2 rfl (lv_at hl 0 rfl) ?_
  refine lv_bipush (v := 37) hx hb dX11_putsAside_3 (by decide) ?_
  refine lv_icmp_ge (tgt := 29) hx hb dX11_putsAside_5 (by decide) (fun q => absurd q (by decide)) (fun _ => ?_)
  refine lv_aload_n hx hb dX11_putsAside_8 rfl (lv_at hl 1 rfl) ?_
  refine va_get (ci := 11) (v := .ref (a 208)) (C := RX11) (T := TX11) (N := 39) hx hb htA in_X11 hown hK hP 0 rfl rfl 23 (by decide) (htA _ wd_1377) (fun _ h => h) rfl dX11_putsAside_9 ?_
  refine lv_iload_n hx hb dX11_putsAside_12 rfl (lv_at hl 0 rfl) ?_
  refine lv_aload_n hx hb dX11_putsAside_13 rfl (lv_at hl 1 rfl) ?_
  refine va_get (ci := 11) (v := .ref (a 201)) (C := RX11) (T := TX11) (N := 39) hx hb htA in_X11 hown hK hP 0 rfl rfl 0 (by decide) (htA _ wd_1354) (fun _ h => h) rfl dX11_putsAside_14 ?_
  refine lv_bipush (v := 8) hx hb dX11_putsAside_17 (by decide) ?_
  refine lv_iload_n hx hb dX11_putsAside_19 rfl (lv_at hl 0 rfl) ?_
  refine lv_iadd hx hb dX11_putsAside_20 ?_
  refine lv_topi (fun x69 ex69 => ?_)
  obtain rfl : x69 = 42 := ex69.trans (by decide)
  refine va_iald hx hb hK hP 1 0 rfl rfl (in_lit (by decide)) dX11_putsAside_21 ?_
  refine lv_topi (fun x70 ex70 => ?_)
  obtain rfl : x70 = 0 := ex70.trans (by first | decide | rfl)
  refine va_iast hx hb hK hP hD hS 2 0 rfl rfl (in_lit (by decide)) dX11_putsAside_22 (fun H locs hP hD hS => ?_)
  rw [fa_upd_same (f := fun _ => 0) (i := (34 : Int32).toNatClampNeg) (x := 0) (by first | decide | rfl)] at hP hD
  have hP : va_P D vwCl [((a 200), .inr (11, [.ref (a 201), .ref (a 202), .ref (a 203), .ref (a 204), .int 0, .ref (a 205), .int 0, .int 0, .int 0, .int 0, .int 0, .int 0, .int 0, .int 0, .int 0, .int (-1), .int 0, .int 0, .int 0, .ref (a 206), .ref (a 207), .int 0, .int 0, .ref (a 208), .int 0, .int 0, .int 0, .int 0, .ref (a 209), .ref (a 210), .ref (a 211), .ref (a 212), .ref (a 213), .ref (a 214), .ref (a 215), .int 0, .ref (a 216), .ref (a 217), .ref (a 218)])), ((a 201), .inl (cy 0, 2260, .inl (upd (upd (fun _ => 0) (1 : Int32).toNatClampNeg 1) (2 : Int32).toNatClampNeg 1))), ((a 208), .inl (cy 0, 37, .inl (fun _ => 0)))] H := hP
  have hD := va_ca hP hD
  refine lv_iinc (v := 35) (lv' := [(1, .int 35), (0, .ref (a 200))]) hx hb dX11_putsAside_23 hl (k := 0) rfl (by decide) (by decide) rfl (fun ls hl => ?_)
  refine lv_goto (tgt := 2) hx hb dX11_putsAside_26 (by decide) ?_
  refine lv_iload_n hx hb dX11_putsAside_2 rfl (lv_at hl 0 rfl) ?_
  refine lv_bipush (v := 37) hx hb dX11_putsAside_3 (by decide) ?_
  refine lv_icmp_ge (tgt := 29) hx hb dX11_putsAside_5 (by decide) (fun q => absurd q (by decide)) (fun _ => ?_)
  refine lv_aload_n hx hb dX11_putsAside_8 rfl (lv_at hl 1 rfl) ?_
  refine va_get (ci := 11) (v := .ref (a 208)) (C := RX11) (T := TX11) (N := 39) hx hb htA in_X11 hown hK hP 0 rfl rfl 23 (by decide) (htA _ wd_1377) (fun _ h => h) rfl dX11_putsAside_9 ?_
  refine lv_iload_n hx hb dX11_putsAside_12 rfl (lv_at hl 0 rfl) ?_
  refine lv_aload_n hx hb dX11_putsAside_13 rfl (lv_at hl 1 rfl) ?_
  refine va_get (ci := 11) (v := .ref (a 201)) (C := RX11) (T := TX11) (N := 39) hx hb htA in_X11 hown hK hP 0 rfl rfl 0 (by decide) (htA _ wd_1354) (fun _ h => h) rfl dX11_putsAside_14 ?_
  refine lv_bipush (v := 8) hx hb dX11_putsAside_17 (by decide) ?_
  refine lv_iload_n hx hb dX11_putsAside_19 rfl (lv_at hl 0 rfl) ?_
  refine lv_iadd hx hb dX11_putsAside_20 ?_
  refine lv_topi (fun x71 ex71 => ?_)
  obtain rfl : x71 = 43 := ex71.trans (by decide)
  refine va_iald hx hb hK hP 1 0 rfl rfl (in_lit (by decide)) dX11_putsAside_21 ?_
  refine lv_topi (fun x72 ex72 => ?_)
  obtain rfl : x72 = 0 := ex72.trans (by first | decide | rfl)
  refine va_iast hx hb hK hP hD hS 2 0 rfl rfl (in_lit (by decide)) dX11_putsAside_22 (fun H locs hP hD hS => ?_)
  rw [fa_upd_same (f := fun _ => 0) (i := (35 : Int32).toNatClampNeg) (x := 0) (by first | decide | rfl)] at hP hD
  have hP : va_P D vwCl [((a 200), .inr (11, [.ref (a 201), .ref (a 202), .ref (a 203), .ref (a 204), .int 0, .ref (a 205), .int 0, .int 0, .int 0, .int 0, .int 0, .int 0, .int 0, .int 0, .int 0, .int (-1), .int 0, .int 0, .int 0, .ref (a 206), .ref (a 207), .int 0, .int 0, .ref (a 208), .int 0, .int 0, .int 0, .int 0, .ref (a 209), .ref (a 210), .ref (a 211), .ref (a 212), .ref (a 213), .ref (a 214), .ref (a 215), .int 0, .ref (a 216), .ref (a 217), .ref (a 218)])), ((a 201), .inl (cy 0, 2260, .inl (upd (upd (fun _ => 0) (1 : Int32).toNatClampNeg 1) (2 : Int32).toNatClampNeg 1))), ((a 208), .inl (cy 0, 37, .inl (fun _ => 0)))] H := hP
  have hD := va_ca hP hD
  refine lv_iinc (v := 36) (lv' := [(1, .int 36), (0, .ref (a 200))]) hx hb dX11_putsAside_23 hl (k := 0) rfl (by decide) (by decide) rfl (fun ls hl => ?_)
  refine lv_goto (tgt := 2) hx hb dX11_putsAside_26 (by decide) ?_
  refine lv_iload_n hx hb dX11_putsAside_2 rfl (lv_at hl 0 rfl) ?_
  refine lv_bipush (v := 37) hx hb dX11_putsAside_3 (by decide) ?_
  refine lv_icmp_ge (tgt := 29) hx hb dX11_putsAside_5 (by decide) (fun q => absurd q (by decide)) (fun _ => ?_)
  refine lv_aload_n hx hb dX11_putsAside_8 rfl (lv_at hl 1 rfl) ?_
  refine va_get (ci := 11) (v := .ref (a 208)) (C := RX11) (T := TX11) (N := 39) hx hb htA in_X11 hown hK hP 0 rfl rfl 23 (by decide) (htA _ wd_1377) (fun _ h => h) rfl dX11_putsAside_9 ?_
  refine lv_iload_n hx hb dX11_putsAside_12 rfl (lv_at hl 0 rfl) ?_
  refine lv_aload_n hx hb dX11_putsAside_13 rfl (lv_at hl 1 rfl) ?_
  refine va_get (ci := 11) (v := .ref (a 201)) (C := RX11) (T := TX11) (N := 39) hx hb htA in_X11 hown hK hP 0 rfl rfl 0 (by decide) (htA _ wd_1354) (fun _ h => h) rfl dX11_putsAside_14 ?_
  refine lv_bipush (v := 8) hx hb dX11_putsAside_17 (by decide) ?_
  refine lv_iload_n hx hb dX11_putsAside_19 rfl (lv_at hl 0 rfl) ?_
  refine lv_iadd hx hb dX11_putsAside_20 ?_
  refine lv_topi (fun x73 ex73 => ?_)
  obtain rfl : x73 = 44 := ex73.trans (by decide)
  refine va_iald hx hb hK hP 1 0 rfl rfl (in_lit (by decide)) dX11_putsAside_21 ?_
  refine lv_topi (fun x74 ex74 => ?_)
  obtain rfl : x74 = 0 := ex74.trans (by first | decide | rfl)
  refine va_iast hx hb hK hP hD hS 2 0 rfl rfl (in_lit (by decide)) dX11_putsAside_22 (fun H locs hP hD hS => ?_)
  rw [fa_upd_same (f := fun _ => 0) (i := (36 : Int32).toNatClampNeg) (x := 0) (by first | decide | rfl)] at hP hD
  have hP : va_P D vwCl [((a 200), .inr (11, [.ref (a 201), .ref (a 202), .ref (a 203), .ref (a 204), .int 0, .ref (a 205), .int 0, .int 0, .int 0, .int 0, .int 0, .int 0, .int 0, .int 0, .int 0, .int (-1), .int 0, .int 0, .int 0, .ref (a 206), .ref (a 207), .int 0, .int 0, .ref (a 208), .int 0, .int 0, .int 0, .int 0, .ref (a 209), .ref (a 210), .ref (a 211), .ref (a 212), .ref (a 213), .ref (a 214), .ref (a 215), .int 0, .ref (a 216), .ref (a 217), .ref (a 218)])), ((a 201), .inl (cy 0, 2260, .inl (upd (upd (fun _ => 0) (1 : Int32).toNatClampNeg 1) (2 : Int32).toNatClampNeg 1))), ((a 208), .inl (cy 0, 37, .inl (fun _ => 0)))] H := hP
  have hD := va_ca hP hD
  refine lv_iinc (v := 37) (lv' := [(1, .int 37), (0, .ref (a 200))]) hx hb dX11_putsAside_23 hl (k := 0) rfl (by decide) (by decide) rfl (fun ls hl => ?_)
  refine lv_goto (tgt := 2) hx hb dX11_putsAside_26 (by decide) ?_
  refine lv_iload_n hx hb dX11_putsAside_2 rfl (lv_at hl 0 rfl) ?_
  refine lv_bipush (v := 37) hx hb dX11_putsAside_3 (by decide) ?_
  refine lv_icmp_ge (tgt := 29) hx hb dX11_putsAside_5 (by decide) (fun _ => ?_) (fun q => absurd (by decide) q)
  exact rV hX hE hP hD hS dX11_putsAside_29 (by decide) (by decide) (rfl)
set_option maxHeartbeats 40000000 in
set_option maxRecDepth 100000 in
theorem r_fallIn (l : Launch) (D : va_G) (cy : Nat → ClassId) (a : Nat → Nat) (p1 : Int32) : Ci l yX11_fallIn cX11_fallIn 4 (some .int) { frames := 4, cells := 0, slots := 0, locals := 94 } D cy [.ref (a 200), .int p1] [((a 200), .inr (11, [.ref (a 201), .ref (a 202), .ref (a 203), .ref (a 204), .int 0, .ref (a 205), .int 0, .int 0, .int 0, .int 0, .int 0, .int 0, .int 0, .int 0, .int 0, .int (-1), .int 0, .int 0, .int 0, .ref (a 206), .ref (a 207), .int 0, .int 0, .ref (a 208), .int 0, .int 0, .int 0, .int 0, .ref (a 209), .ref (a 210), .ref (a 211), .ref (a 212), .ref (a 213), .ref (a 214), .ref (a 215), .int 0, .ref (a 216), .ref (a 217), .ref (a 218)])), ((a 201), .inl (cy 0, 2260, .inl (upd (upd (fun _ => 0) (1 : Int32).toNatClampNeg 1) (2 : Int32).toNatClampNeg 1))), ((a 202), .inl (cy 0, 2260, .inl (fun _ => 0))), ((a 203), .inl (cy 0, 6780, .inl (fun _ => 0))), ((a 204), .inl (cy 3, 3, .inl (fun _ => 0))), ((a 205), .inl (cy 0, 900, .inl (fun _ => 0))), ((a 206), .inl (cy 0, 64, .inl (fun _ => 0))), ((a 207), .inl (cy 0, 6, .inl (fun _ => 0))), ((a 208), .inl (cy 0, 37, .inl (fun _ => 0))), ((a 209), .inl (cy 0, 61, .inl (fun _ => 0))), ((a 210), .inl (cy 0, 61, .inl (fun _ => 0))), ((a 211), .inl (cy 0, 61, .inl (fun _ => 0))), ((a 212), .inl (cy 0, 61, .inl (fun _ => 0))), ((a 213), .inl (cy 0, 61, .inl (fun _ => 0))), ((a 214), .inl (cy 2, 6, .inr (.inl (fun _ => 0)))), ((a 215), .inl (cy 2, 6, .inr (.inl (fun _ => 0)))), ((a 216), .inl (cy 0, 4, .inl (upd (upd (upd (upd (fun _ => 0) (0 : Int32).toNatClampNeg (-1)) (1 : Int32).toNatClampNeg (-1)) (2 : Int32).toNatClampNeg (-1)) (3 : Int32).toNatClampNeg (-1)))), ((a 217), .inl (cy 0, 4, .inl (fun _ => 0))), ((a 218), .inl (cy 2, 120, .inr (.inl (fun _ => 0))))] (fun r W1 => ∃ fs : List Value, W1 = [((a 200), .inr (11, fs))] ∧ fs[4]? = some (.int (kf_fallIn p1)) ∧ (kf_fallIn p1 = 0 → r.toInt64 = vf_fallIn p1)) := by
  refine Ci.of (by decide) (Nat.le_of_ble_eq_true rfl) ?_
  intro p e s m below meth c A ls hX hE hP hD hl
  obtain ⟨hx, hb, hr, hml, hown, htA, hlk⟩ := id hX
  have hK := hE.1
  have hS : va_S A s.heap s.heap [] := va_S.rf
  have hl : lv_has ls 4 [(0, .ref (a 200)), (1, .int p1)] := hl
  refine lv_aload_n hx hb dX11_fallIn_0 rfl (lv_at hl 0 rfl) ?_
  refine lv_iconst (v := 0) hx hb dX11_fallIn_1 (by decide) ?_
  refine va_put (ci := 11) (v := .int 0) (ty := .int) (C := RX11) (T := TX11) (N := 39) hx hb htA in_X11 tyX11 tyX11_ok nmX11 hown hK hP hD hS 0 rfl rfl 4 (by decide) (htA _ wd_1358) (fun _ h => h) rfl (by decide +kernel) rfl rfl (Nat.le_of_ble_eq_true rfl) dX11_fallIn_2 (fun H locs hP hD hS => ?_)
  have hP : va_P D vwCl [((a 200), .inr (11, [.ref (a 201), .ref (a 202), .ref (a 203), .ref (a 204), .int 0, .ref (a 205), .int 0, .int 0, .int 0, .int 0, .int 0, .int 0, .int 0, .int 0, .int 0, .int (-1), .int 0, .int 0, .int 0, .ref (a 206), .ref (a 207), .int 0, .int 0, .ref (a 208), .int 0, .int 0, .int 0, .int 0, .ref (a 209), .ref (a 210), .ref (a 211), .ref (a 212), .ref (a 213), .ref (a 214), .ref (a 215), .int 0, .ref (a 216), .ref (a 217), .ref (a 218)])), ((a 201), .inl (cy 0, 2260, .inl (upd (upd (fun _ => 0) (1 : Int32).toNatClampNeg 1) (2 : Int32).toNatClampNeg 1))), ((a 202), .inl (cy 0, 2260, .inl (fun _ => 0))), ((a 203), .inl (cy 0, 6780, .inl (fun _ => 0))), ((a 204), .inl (cy 3, 3, .inl (fun _ => 0))), ((a 205), .inl (cy 0, 900, .inl (fun _ => 0))), ((a 206), .inl (cy 0, 64, .inl (fun _ => 0))), ((a 207), .inl (cy 0, 6, .inl (fun _ => 0))), ((a 208), .inl (cy 0, 37, .inl (fun _ => 0))), ((a 209), .inl (cy 0, 61, .inl (fun _ => 0))), ((a 210), .inl (cy 0, 61, .inl (fun _ => 0))), ((a 211), .inl (cy 0, 61, .inl (fun _ => 0))), ((a 212), .inl (cy 0, 61, .inl (fun _ => 0))), ((a 213), .inl (cy 0, 61, .inl (fun _ => 0))), ((a 214), .inl (cy 2, 6, .inr (.inl (fun _ => 0)))), ((a 215), .inl (cy 2, 6, .inr (.inl (fun _ => 0)))), ((a 216), .inl (cy 0, 4, .inl (upd (upd (upd (upd (fun _ => 0) (0 : Int32).toNatClampNeg (-1)) (1 : Int32).toNatClampNeg (-1)) (2 : Int32).toNatClampNeg (-1)) (3 : Int32).toNatClampNeg (-1)))), ((a 217), .inl (cy 0, 4, .inl (fun _ => 0))), ((a 218), .inl (cy 2, 120, .inr (.inl (fun _ => 0))))] H := hP
  have hD := va_ca hP hD
  refine lv_iload_n hx hb dX11_fallIn_5 rfl (lv_at hl 1 rfl) ?_
  refine lv_i2l hx hb dX11_fallIn_6 rfl ?_
  refine lv_lconst (v := 1) hx hb dX11_fallIn_7 (by decide) ?_
  refine lv_ldc2 hx hb hown (htA _ wd_1704) dX11_fallIn_8 ?_
  refine kSi (As := [.long p1.toInt64, .long 1, .long 999]) (rest := []) (wr := [((a 200), .inr (11, [.ref (a 201), .ref (a 202), .ref (a 203), .ref (a 204), .int 0, .ref (a 205), .int 0, .int 0, .int 0, .int 0, .int 0, .int 0, .int 0, .int 0, .int 0, .int (-1), .int 0, .int 0, .int 0, .ref (a 206), .ref (a 207), .int 0, .int 0, .ref (a 208), .int 0, .int 0, .int 0, .int 0, .ref (a 209), .ref (a 210), .ref (a 211), .ref (a 212), .ref (a 213), .ref (a 214), .ref (a 215), .int 0, .ref (a 216), .ref (a 217), .ref (a 218)])), ((a 201), .inl (cy 0, 2260, .inl (upd (upd (fun _ => 0) (1 : Int32).toNatClampNeg 1) (2 : Int32).toNatClampNeg 1))), ((a 202), .inl (cy 0, 2260, .inl (fun _ => 0))), ((a 203), .inl (cy 0, 6780, .inl (fun _ => 0))), ((a 204), .inl (cy 3, 3, .inl (fun _ => 0))), ((a 205), .inl (cy 0, 900, .inl (fun _ => 0))), ((a 206), .inl (cy 0, 64, .inl (fun _ => 0))), ((a 207), .inl (cy 0, 6, .inl (fun _ => 0))), ((a 208), .inl (cy 0, 37, .inl (fun _ => 0))), ((a 209), .inl (cy 0, 61, .inl (fun _ => 0))), ((a 210), .inl (cy 0, 61, .inl (fun _ => 0))), ((a 211), .inl (cy 0, 61, .inl (fun _ => 0))), ((a 212), .inl (cy 0, 61, .inl (fun _ => 0))), ((a 213), .inl (cy 0, 61, .inl (fun _ => 0))), ((a 214), .inl (cy 2, 6, .inr (.inl (fun _ => 0)))), ((a 215), .inl (cy 2, 6, .inr (.inl (fun _ => 0)))), ((a 216), .inl (cy 0, 4, .inl (upd (upd (upd (upd (fun _ => 0) (0 : Int32).toNatClampNeg (-1)) (1 : Int32).toNatClampNeg (-1)) (2 : Int32).toNatClampNeg (-1)) (3 : Int32).toNatClampNeg (-1)))), ((a 217), .inl (cy 0, 4, .inl (fun _ => 0))), ((a 218), .inl (cy 2, 120, .inr (.inl (fun _ => 0))))]) hX hE (au_X11_within_110 l D cy a p1.toInt64) (cwSA 3 htA wd_1487 wd_1485 wd_10 wd_1486 (by decide +kernel) ⟨by decide, by decide⟩) hP hD hS [] [0, 1, 2, 3, 4, 5, 6, 7, 8, 9, 10, 11, 12, 13, 14, 15, 16, 17, 18] rfl rfl (by decide +kernel) rfl hl.1 rfl (Nat.le_of_ble_eq_true rfl) dX11_fallIn_11 (by decide) (fun r_ W1 H locs hw hP hD hS => ?_)
  refine W.widen (k := 0) (n := 0) (by decide) (by decide) ?_
  rcases hw with ⟨g2, rfl, rfl⟩ | ⟨g3, g4, rfl, rfl⟩ | ⟨g5, g6, rfl, rfl⟩
  · have hP : va_P D vwCl [((a 200), .inr (11, [.ref (a 201), .ref (a 202), .ref (a 203), .ref (a 204), .int 0, .ref (a 205), .int 0, .int 0, .int 0, .int 0, .int 0, .int 0, .int 0, .int 0, .int 0, .int (-1), .int 0, .int 0, .int 0, .ref (a 206), .ref (a 207), .int 0, .int 0, .ref (a 208), .int 0, .int 0, .int 0, .int 0, .ref (a 209), .ref (a 210), .ref (a 211), .ref (a 212), .ref (a 213), .ref (a 214), .ref (a 215), .int 0, .ref (a 216), .ref (a 217), .ref (a 218)])), ((a 201), .inl (cy 0, 2260, .inl (upd (upd (fun _ => 0) (1 : Int32).toNatClampNeg 1) (2 : Int32).toNatClampNeg 1))), ((a 202), .inl (cy 0, 2260, .inl (fun _ => 0))), ((a 203), .inl (cy 0, 6780, .inl (fun _ => 0))), ((a 204), .inl (cy 3, 3, .inl (fun _ => 0))), ((a 205), .inl (cy 0, 900, .inl (fun _ => 0))), ((a 206), .inl (cy 0, 64, .inl (fun _ => 0))), ((a 207), .inl (cy 0, 6, .inl (fun _ => 0))), ((a 208), .inl (cy 0, 37, .inl (fun _ => 0))), ((a 209), .inl (cy 0, 61, .inl (fun _ => 0))), ((a 210), .inl (cy 0, 61, .inl (fun _ => 0))), ((a 211), .inl (cy 0, 61, .inl (fun _ => 0))), ((a 212), .inl (cy 0, 61, .inl (fun _ => 0))), ((a 213), .inl (cy 0, 61, .inl (fun _ => 0))), ((a 214), .inl (cy 2, 6, .inr (.inl (fun _ => 0)))), ((a 215), .inl (cy 2, 6, .inr (.inl (fun _ => 0)))), ((a 216), .inl (cy 0, 4, .inl (upd (upd (upd (upd (fun _ => 0) (0 : Int32).toNatClampNeg (-1)) (1 : Int32).toNatClampNeg (-1)) (2 : Int32).toNatClampNeg (-1)) (3 : Int32).toNatClampNeg (-1)))), ((a 217), .inl (cy 0, 4, .inl (fun _ => 0))), ((a 218), .inl (cy 2, 120, .inr (.inl (fun _ => 0))))] H := hP
    have hD := va_ca hP hD
    refine lv_if_ne (tgt := 23) hx hb dX11_fallIn_14 (by decide) (fun q => absurd rfl q) (fun _ => ?_)
    refine lv_aload_n hx hb dX11_fallIn_17 rfl (lv_at hl 0 rfl) ?_
    refine lv_iconst (v := 1) hx hb dX11_fallIn_18 (by decide) ?_
    refine kVi (As := [.int 1]) (rest := []) (wr := [((a 201), .inl (cy 0, 2260, .inl (upd (upd (fun _ => 0) (1 : Int32).toNatClampNeg 1) (2 : Int32).toNatClampNeg 1))), ((a 202), .inl (cy 0, 2260, .inl (fun _ => 0))), ((a 203), .inl (cy 0, 6780, .inl (fun _ => 0))), ((a 204), .inl (cy 3, 3, .inl (fun _ => 0))), ((a 205), .inl (cy 0, 900, .inl (fun _ => 0))), ((a 206), .inl (cy 0, 64, .inl (fun _ => 0))), ((a 207), .inl (cy 0, 6, .inl (fun _ => 0))), ((a 208), .inl (cy 0, 37, .inl (fun _ => 0))), ((a 209), .inl (cy 0, 61, .inl (fun _ => 0))), ((a 210), .inl (cy 0, 61, .inl (fun _ => 0))), ((a 211), .inl (cy 0, 61, .inl (fun _ => 0))), ((a 212), .inl (cy 0, 61, .inl (fun _ => 0))), ((a 213), .inl (cy 0, 61, .inl (fun _ => 0))), ((a 214), .inl (cy 2, 6, .inr (.inl (fun _ => 0)))), ((a 215), .inl (cy 2, 6, .inr (.inl (fun _ => 0)))), ((a 216), .inl (cy 0, 4, .inl (upd (upd (upd (upd (fun _ => 0) (0 : Int32).toNatClampNeg (-1)) (1 : Int32).toNatClampNeg (-1)) (2 : Int32).toNatClampNeg (-1)) (3 : Int32).toNatClampNeg (-1)))), ((a 217), .inl (cy 0, 4, .inl (fun _ => 0))), ((a 218), .inl (cy 2, 120, .inr (.inl (fun _ => 0))))]) hX hE (au_X11_fails_66 l D cy a) (cwVA 1 htA wd_1491 wd_1488 wd_10 wd_1490 wp_41 (by decide +kernel) ⟨by decide, by decide⟩) hP hD hS [0] [1, 2, 3, 4, 5, 6, 7, 8, 9, 10, 11, 12, 13, 14, 15, 16, 17, 18] rfl rfl (by decide +kernel) 0 rfl rfl rfl rfl hl.1 rfl (Nat.le_of_ble_eq_true rfl) dX11_fallIn_19 (by decide) (fun r_ W1 H locs hw hP hD hS => ?_)
    refine W.widen (k := 0) (n := 0) (by decide) (by decide) ?_
    obtain ⟨rfl, rfl⟩ := hw
    have hP : va_P D vwCl [((a 201), .inl (cy 0, 2260, .inl (upd (upd (fun _ => 0) (1 : Int32).toNatClampNeg 1) (2 : Int32).toNatClampNeg 1))), ((a 202), .inl (cy 0, 2260, .inl (fun _ => 0))), ((a 203), .inl (cy 0, 6780, .inl (fun _ => 0))), ((a 204), .inl (cy 3, 3, .inl (fun _ => 0))), ((a 205), .inl (cy 0, 900, .inl (fun _ => 0))), ((a 206), .inl (cy 0, 64, .inl (fun _ => 0))), ((a 207), .inl (cy 0, 6, .inl (fun _ => 0))), ((a 208), .inl (cy 0, 37, .inl (fun _ => 0))), ((a 209), .inl (cy 0, 61, .inl (fun _ => 0))), ((a 210), .inl (cy 0, 61, .inl (fun _ => 0))), ((a 211), .inl (cy 0, 61, .inl (fun _ => 0))), ((a 212), .inl (cy 0, 61, .inl (fun _ => 0))), ((a 213), .inl (cy 0, 61, .inl (fun _ => 0))), ((a 214), .inl (cy 2, 6, .inr (.inl (fun _ => 0)))), ((a 215), .inl (cy 2, 6, .inr (.inl (fun _ => 0)))), ((a 216), .inl (cy 0, 4, .inl (upd (upd (upd (upd (fun _ => 0) (0 : Int32).toNatClampNeg (-1)) (1 : Int32).toNatClampNeg (-1)) (2 : Int32).toNatClampNeg (-1)) (3 : Int32).toNatClampNeg (-1)))), ((a 217), .inl (cy 0, 4, .inl (fun _ => 0))), ((a 218), .inl (cy 2, 120, .inr (.inl (fun _ => 0)))), ((a 200), .inr (11, [.ref (a 201), .ref (a 202), .ref (a 203), .ref (a 204), .int 1, .ref (a 205), .int 0, .int 0, .int 0, .int 0, .int 0, .int 0, .int 0, .int 0, .int 0, .int (-1), .int 0, .int 0, .int 0, .ref (a 206), .ref (a 207), .int 0, .int 0, .ref (a 208), .int 0, .int 0, .int 0, .int 0, .ref (a 209), .ref (a 210), .ref (a 211), .ref (a 212), .ref (a 213), .ref (a 214), .ref (a 215), .int 0, .ref (a 216), .ref (a 217), .ref (a 218)]))] H := hP
    have hD := va_ca hP hD
    exact rI hX hE (hP.sub [18] rfl) (hD.sub [18] (by decide +kernel) rfl) hS dX11_fallIn_22 (by decide) (by decide) (⟨_, rfl, (by have kg2 := g2; (try simp only [lg_cmp_lt, lg_cmp_le, lg_cmp_ge, lg_cmp_gt, lg_cmp_eq] at kg2); (try simp only [lg_cmp_lt, lg_cmp_le, lg_cmp_ge, lg_cmp_gt, lg_cmp_eq, fa_lt, fa_le, fa_eq, fa_lt64, fa_le64, fa_eq64, Int32.toInt_toInt64, li_0, lj_0, li_1, lj_1] at kg2); first | rfl | (congr 2; first | rfl | (unfold kf_fallIn; (repeat' split) <;> first | rfl | (exfalso; omega)))), (fun q => absurd q (by have hq : kf_fallIn p1 = 1 := (by have kg2 := g2; (try simp only [lg_cmp_lt, lg_cmp_le, lg_cmp_ge, lg_cmp_gt, lg_cmp_eq] at kg2); (try simp only [lg_cmp_lt, lg_cmp_le, lg_cmp_ge, lg_cmp_gt, lg_cmp_eq, fa_lt, fa_le, fa_eq, fa_lt64, fa_le64, fa_eq64, Int32.toInt_toInt64, li_0, lj_0, li_1, lj_1] at kg2); first | rfl | (unfold kf_fallIn; (repeat' split) <;> first | rfl | (exfalso; omega))); rw [hq]; decide))⟩)
  · have hP : va_P D vwCl [((a 200), .inr (11, [.ref (a 201), .ref (a 202), .ref (a 203), .ref (a 204), .int 0, .ref (a 205), .int 0, .int 0, .int 0, .int 0, .int 0, .int 0, .int 0, .int 0, .int 0, .int (-1), .int 0, .int 0, .int 0, .ref (a 206), .ref (a 207), .int 0, .int 0, .ref (a 208), .int 0, .int 0, .int 0, .int 0, .ref (a 209), .ref (a 210), .ref (a 211), .ref (a 212), .ref (a 213), .ref (a 214), .ref (a 215), .int 0, .ref (a 216), .ref (a 217), .ref (a 218)])), ((a 201), .inl (cy 0, 2260, .inl (upd (upd (fun _ => 0) (1 : Int32).toNatClampNeg 1) (2 : Int32).toNatClampNeg 1))), ((a 202), .inl (cy 0, 2260, .inl (fun _ => 0))), ((a 203), .inl (cy 0, 6780, .inl (fun _ => 0))), ((a 204), .inl (cy 3, 3, .inl (fun _ => 0))), ((a 205), .inl (cy 0, 900, .inl (fun _ => 0))), ((a 206), .inl (cy 0, 64, .inl (fun _ => 0))), ((a 207), .inl (cy 0, 6, .inl (fun _ => 0))), ((a 208), .inl (cy 0, 37, .inl (fun _ => 0))), ((a 209), .inl (cy 0, 61, .inl (fun _ => 0))), ((a 210), .inl (cy 0, 61, .inl (fun _ => 0))), ((a 211), .inl (cy 0, 61, .inl (fun _ => 0))), ((a 212), .inl (cy 0, 61, .inl (fun _ => 0))), ((a 213), .inl (cy 0, 61, .inl (fun _ => 0))), ((a 214), .inl (cy 2, 6, .inr (.inl (fun _ => 0)))), ((a 215), .inl (cy 2, 6, .inr (.inl (fun _ => 0)))), ((a 216), .inl (cy 0, 4, .inl (upd (upd (upd (upd (fun _ => 0) (0 : Int32).toNatClampNeg (-1)) (1 : Int32).toNatClampNeg (-1)) (2 : Int32).toNatClampNeg (-1)) (3 : Int32).toNatClampNeg (-1)))), ((a 217), .inl (cy 0, 4, .inl (fun _ => 0))), ((a 218), .inl (cy 2, 120, .inr (.inl (fun _ => 0))))] H := hP
    have hD := va_ca hP hD
    refine lv_if_ne (tgt := 23) hx hb dX11_fallIn_14 (by decide) (fun q => absurd rfl q) (fun _ => ?_)
    refine lv_aload_n hx hb dX11_fallIn_17 rfl (lv_at hl 0 rfl) ?_
    refine lv_iconst (v := 1) hx hb dX11_fallIn_18 (by decide) ?_
    refine kVi (As := [.int 1]) (rest := []) (wr := [((a 201), .inl (cy 0, 2260, .inl (upd (upd (fun _ => 0) (1 : Int32).toNatClampNeg 1) (2 : Int32).toNatClampNeg 1))), ((a 202), .inl (cy 0, 2260, .inl (fun _ => 0))), ((a 203), .inl (cy 0, 6780, .inl (fun _ => 0))), ((a 204), .inl (cy 3, 3, .inl (fun _ => 0))), ((a 205), .inl (cy 0, 900, .inl (fun _ => 0))), ((a 206), .inl (cy 0, 64, .inl (fun _ => 0))), ((a 207), .inl (cy 0, 6, .inl (fun _ => 0))), ((a 208), .inl (cy 0, 37, .inl (fun _ => 0))), ((a 209), .inl (cy 0, 61, .inl (fun _ => 0))), ((a 210), .inl (cy 0, 61, .inl (fun _ => 0))), ((a 211), .inl (cy 0, 61, .inl (fun _ => 0))), ((a 212), .inl (cy 0, 61, .inl (fun _ => 0))), ((a 213), .inl (cy 0, 61, .inl (fun _ => 0))), ((a 214), .inl (cy 2, 6, .inr (.inl (fun _ => 0)))), ((a 215), .inl (cy 2, 6, .inr (.inl (fun _ => 0)))), ((a 216), .inl (cy 0, 4, .inl (upd (upd (upd (upd (fun _ => 0) (0 : Int32).toNatClampNeg (-1)) (1 : Int32).toNatClampNeg (-1)) (2 : Int32).toNatClampNeg (-1)) (3 : Int32).toNatClampNeg (-1)))), ((a 217), .inl (cy 0, 4, .inl (fun _ => 0))), ((a 218), .inl (cy 2, 120, .inr (.inl (fun _ => 0))))]) hX hE (au_X11_fails_66 l D cy a) (cwVA 1 htA wd_1491 wd_1488 wd_10 wd_1490 wp_41 (by decide +kernel) ⟨by decide, by decide⟩) hP hD hS [0] [1, 2, 3, 4, 5, 6, 7, 8, 9, 10, 11, 12, 13, 14, 15, 16, 17, 18] rfl rfl (by decide +kernel) 0 rfl rfl rfl rfl hl.1 rfl (Nat.le_of_ble_eq_true rfl) dX11_fallIn_19 (by decide) (fun r_ W1 H locs hw hP hD hS => ?_)
    refine W.widen (k := 0) (n := 0) (by decide) (by decide) ?_
    obtain ⟨rfl, rfl⟩ := hw
    have hP : va_P D vwCl [((a 201), .inl (cy 0, 2260, .inl (upd (upd (fun _ => 0) (1 : Int32).toNatClampNeg 1) (2 : Int32).toNatClampNeg 1))), ((a 202), .inl (cy 0, 2260, .inl (fun _ => 0))), ((a 203), .inl (cy 0, 6780, .inl (fun _ => 0))), ((a 204), .inl (cy 3, 3, .inl (fun _ => 0))), ((a 205), .inl (cy 0, 900, .inl (fun _ => 0))), ((a 206), .inl (cy 0, 64, .inl (fun _ => 0))), ((a 207), .inl (cy 0, 6, .inl (fun _ => 0))), ((a 208), .inl (cy 0, 37, .inl (fun _ => 0))), ((a 209), .inl (cy 0, 61, .inl (fun _ => 0))), ((a 210), .inl (cy 0, 61, .inl (fun _ => 0))), ((a 211), .inl (cy 0, 61, .inl (fun _ => 0))), ((a 212), .inl (cy 0, 61, .inl (fun _ => 0))), ((a 213), .inl (cy 0, 61, .inl (fun _ => 0))), ((a 214), .inl (cy 2, 6, .inr (.inl (fun _ => 0)))), ((a 215), .inl (cy 2, 6, .inr (.inl (fun _ => 0)))), ((a 216), .inl (cy 0, 4, .inl (upd (upd (upd (upd (fun _ => 0) (0 : Int32).toNatClampNeg (-1)) (1 : Int32).toNatClampNeg (-1)) (2 : Int32).toNatClampNeg (-1)) (3 : Int32).toNatClampNeg (-1)))), ((a 217), .inl (cy 0, 4, .inl (fun _ => 0))), ((a 218), .inl (cy 2, 120, .inr (.inl (fun _ => 0)))), ((a 200), .inr (11, [.ref (a 201), .ref (a 202), .ref (a 203), .ref (a 204), .int 1, .ref (a 205), .int 0, .int 0, .int 0, .int 0, .int 0, .int 0, .int 0, .int 0, .int 0, .int (-1), .int 0, .int 0, .int 0, .ref (a 206), .ref (a 207), .int 0, .int 0, .ref (a 208), .int 0, .int 0, .int 0, .int 0, .ref (a 209), .ref (a 210), .ref (a 211), .ref (a 212), .ref (a 213), .ref (a 214), .ref (a 215), .int 0, .ref (a 216), .ref (a 217), .ref (a 218)]))] H := hP
    have hD := va_ca hP hD
    exact rI hX hE (hP.sub [18] rfl) (hD.sub [18] (by decide +kernel) rfl) hS dX11_fallIn_22 (by decide) (by decide) (⟨_, rfl, (by have kg3 := g3; have kg4 := g4; (try simp only [lg_cmp_lt, lg_cmp_le, lg_cmp_ge, lg_cmp_gt, lg_cmp_eq] at kg3); (try simp only [lg_cmp_lt, lg_cmp_le, lg_cmp_ge, lg_cmp_gt, lg_cmp_eq] at kg4); (try simp only [lg_cmp_lt, lg_cmp_le, lg_cmp_ge, lg_cmp_gt, lg_cmp_eq, fa_lt, fa_le, fa_eq, fa_lt64, fa_le64, fa_eq64, Int32.toInt_toInt64, li_0, lj_0, li_1, lj_1, li_999, lj_999] at kg3); (try simp only [lg_cmp_lt, lg_cmp_le, lg_cmp_ge, lg_cmp_gt, lg_cmp_eq, fa_lt, fa_le, fa_eq, fa_lt64, fa_le64, fa_eq64, Int32.toInt_toInt64, li_0, lj_0, li_1, lj_1, li_999, lj_999] at kg4); first | rfl | (congr 2; first | rfl | (unfold kf_fallIn; (repeat' split) <;> first | rfl | (exfalso; omega)))), (fun q => absurd q (by have hq : kf_fallIn p1 = 1 := (by have kg3 := g3; have kg4 := g4; (try simp only [lg_cmp_lt, lg_cmp_le, lg_cmp_ge, lg_cmp_gt, lg_cmp_eq] at kg3); (try simp only [lg_cmp_lt, lg_cmp_le, lg_cmp_ge, lg_cmp_gt, lg_cmp_eq] at kg4); (try simp only [lg_cmp_lt, lg_cmp_le, lg_cmp_ge, lg_cmp_gt, lg_cmp_eq, fa_lt, fa_le, fa_eq, fa_lt64, fa_le64, fa_eq64, Int32.toInt_toInt64, li_0, lj_0, li_1, lj_1, li_999, lj_999] at kg3); (try simp only [lg_cmp_lt, lg_cmp_le, lg_cmp_ge, lg_cmp_gt, lg_cmp_eq, fa_lt, fa_le, fa_eq, fa_lt64, fa_le64, fa_eq64, Int32.toInt_toInt64, li_0, lj_0, li_1, lj_1, li_999, lj_999] at kg4); first | rfl | (unfold kf_fallIn; (repeat' split) <;> first | rfl | (exfalso; omega))); rw [hq]; decide))⟩)
  · have hP : va_P D vwCl [((a 200), .inr (11, [.ref (a 201), .ref (a 202), .ref (a 203), .ref (a 204), .int 0, .ref (a 205), .int 0, .int 0, .int 0, .int 0, .int 0, .int 0, .int 0, .int 0, .int 0, .int (-1), .int 0, .int 0, .int 0, .ref (a 206), .ref (a 207), .int 0, .int 0, .ref (a 208), .int 0, .int 0, .int 0, .int 0, .ref (a 209), .ref (a 210), .ref (a 211), .ref (a 212), .ref (a 213), .ref (a 214), .ref (a 215), .int 0, .ref (a 216), .ref (a 217), .ref (a 218)])), ((a 201), .inl (cy 0, 2260, .inl (upd (upd (fun _ => 0) (1 : Int32).toNatClampNeg 1) (2 : Int32).toNatClampNeg 1))), ((a 202), .inl (cy 0, 2260, .inl (fun _ => 0))), ((a 203), .inl (cy 0, 6780, .inl (fun _ => 0))), ((a 204), .inl (cy 3, 3, .inl (fun _ => 0))), ((a 205), .inl (cy 0, 900, .inl (fun _ => 0))), ((a 206), .inl (cy 0, 64, .inl (fun _ => 0))), ((a 207), .inl (cy 0, 6, .inl (fun _ => 0))), ((a 208), .inl (cy 0, 37, .inl (fun _ => 0))), ((a 209), .inl (cy 0, 61, .inl (fun _ => 0))), ((a 210), .inl (cy 0, 61, .inl (fun _ => 0))), ((a 211), .inl (cy 0, 61, .inl (fun _ => 0))), ((a 212), .inl (cy 0, 61, .inl (fun _ => 0))), ((a 213), .inl (cy 0, 61, .inl (fun _ => 0))), ((a 214), .inl (cy 2, 6, .inr (.inl (fun _ => 0)))), ((a 215), .inl (cy 2, 6, .inr (.inl (fun _ => 0)))), ((a 216), .inl (cy 0, 4, .inl (upd (upd (upd (upd (fun _ => 0) (0 : Int32).toNatClampNeg (-1)) (1 : Int32).toNatClampNeg (-1)) (2 : Int32).toNatClampNeg (-1)) (3 : Int32).toNatClampNeg (-1)))), ((a 217), .inl (cy 0, 4, .inl (fun _ => 0))), ((a 218), .inl (cy 2, 120, .inr (.inl (fun _ => 0))))] H := hP
    have hD := va_ca hP hD
    refine lv_if_ne (tgt := 23) hx hb dX11_fallIn_14 (by decide) (fun _ => ?_) (fun q => absurd q (by decide))
    refine lv_aload_n hx hb dX11_fallIn_23 rfl (lv_at hl 0 rfl) ?_
    refine kVv (As := []) (rest := []) (wr := [((a 202), .inl (cy 0, 2260, .inl (fun _ => 0))), ((a 203), .inl (cy 0, 6780, .inl (fun _ => 0))), ((a 204), .inl (cy 3, 3, .inl (fun _ => 0))), ((a 205), .inl (cy 0, 900, .inl (fun _ => 0))), ((a 206), .inl (cy 0, 64, .inl (fun _ => 0))), ((a 207), .inl (cy 0, 6, .inl (fun _ => 0))), ((a 209), .inl (cy 0, 61, .inl (fun _ => 0))), ((a 210), .inl (cy 0, 61, .inl (fun _ => 0))), ((a 211), .inl (cy 0, 61, .inl (fun _ => 0))), ((a 212), .inl (cy 0, 61, .inl (fun _ => 0))), ((a 213), .inl (cy 0, 61, .inl (fun _ => 0))), ((a 214), .inl (cy 2, 6, .inr (.inl (fun _ => 0)))), ((a 215), .inl (cy 2, 6, .inr (.inl (fun _ => 0)))), ((a 216), .inl (cy 0, 4, .inl (upd (upd (upd (upd (fun _ => 0) (0 : Int32).toNatClampNeg (-1)) (1 : Int32).toNatClampNeg (-1)) (2 : Int32).toNatClampNeg (-1)) (3 : Int32).toNatClampNeg (-1)))), ((a 217), .inl (cy 0, 4, .inl (fun _ => 0))), ((a 218), .inl (cy 2, 120, .inr (.inl (fun _ => 0))))]) hX hE (au_X11_putsAside_111 l D cy a) (cwVA 0 htA wd_1824 wd_1821 wd_10 wd_1823 wp_96 (by decide +kernel) ⟨by decide, by decide⟩) hP hD hS [0, 1, 8] [2, 3, 4, 5, 6, 7, 9, 10, 11, 12, 13, 14, 15, 16, 17, 18] rfl rfl (by decide +kernel) 0 rfl rfl rfl rfl hl.1 rfl (Nat.le_of_ble_eq_true rfl) dX11_fallIn_24 (by decide) (fun W1 H locs hw hP hD hS => ?_)
    refine W.widen (k := 0) (n := 0) (by decide) (by decide) ?_
    obtain rfl := hw
    have hP : va_P D vwCl [((a 202), .inl (cy 0, 2260, .inl (fun _ => 0))), ((a 203), .inl (cy 0, 6780, .inl (fun _ => 0))), ((a 204), .inl (cy 3, 3, .inl (fun _ => 0))), ((a 205), .inl (cy 0, 900, .inl (fun _ => 0))), ((a 206), .inl (cy 0, 64, .inl (fun _ => 0))), ((a 207), .inl (cy 0, 6, .inl (fun _ => 0))), ((a 209), .inl (cy 0, 61, .inl (fun _ => 0))), ((a 210), .inl (cy 0, 61, .inl (fun _ => 0))), ((a 211), .inl (cy 0, 61, .inl (fun _ => 0))), ((a 212), .inl (cy 0, 61, .inl (fun _ => 0))), ((a 213), .inl (cy 0, 61, .inl (fun _ => 0))), ((a 214), .inl (cy 2, 6, .inr (.inl (fun _ => 0)))), ((a 215), .inl (cy 2, 6, .inr (.inl (fun _ => 0)))), ((a 216), .inl (cy 0, 4, .inl (upd (upd (upd (upd (fun _ => 0) (0 : Int32).toNatClampNeg (-1)) (1 : Int32).toNatClampNeg (-1)) (2 : Int32).toNatClampNeg (-1)) (3 : Int32).toNatClampNeg (-1)))), ((a 217), .inl (cy 0, 4, .inl (fun _ => 0))), ((a 218), .inl (cy 2, 120, .inr (.inl (fun _ => 0)))), ((a 200), .inr (11, [.ref (a 201), .ref (a 202), .ref (a 203), .ref (a 204), .int 0, .ref (a 205), .int 0, .int 0, .int 0, .int 0, .int 0, .int 0, .int 0, .int 0, .int 0, .int (-1), .int 0, .int 0, .int 0, .ref (a 206), .ref (a 207), .int 0, .int 0, .ref (a 208), .int 0, .int 0, .int 0, .int 0, .ref (a 209), .ref (a 210), .ref (a 211), .ref (a 212), .ref (a 213), .ref (a 214), .ref (a 215), .int 0, .ref (a 216), .ref (a 217), .ref (a 218)])), ((a 201), .inl (cy 0, 2260, .inl (upd (upd (fun _ => 0) (1 : Int32).toNatClampNeg 1) (2 : Int32).toNatClampNeg 1))), ((a 208), .inl (cy 0, 37, .inl (fun _ => 0)))] H := hP
    have hD := va_ca hP hD
    refine lv_aload_n hx hb dX11_fallIn_27 rfl (lv_at hl 0 rfl) ?_
    refine va_get (ci := 11) (v := .ref (a 201)) (C := RX11) (T := TX11) (N := 39) hx hb htA in_X11 hown hK hP 16 rfl rfl 0 (by decide) (htA _ wd_1354) (fun _ h => h) rfl dX11_fallIn_28 ?_
    refine lv_bipush (v := 40) hx hb dX11_fallIn_31 (by decide) ?_
    refine va_iald hx hb hK hP 17 0 rfl rfl (in_lit (by decide)) dX11_fallIn_33 ?_
    refine lv_topi (fun x7 ex7 => ?_)
    obtain rfl : x7 = 0 := ex7.trans (by first | decide | rfl)
    refine lv_iload_n hx hb dX11_fallIn_34 rfl (lv_at hl 1 rfl) ?_
    refine lv_iadd hx hb dX11_fallIn_35 ?_
    refine lv_topi (fun x8 ex8 => ?_)
    obtain rfl : p1 = x8 := (ex8.trans (Int32.zero_add _)).symm
    refine lv_istore_n (lv' := [(2, .int p1), (0, .ref (a 200)), (1, .int p1)]) hx hb dX11_fallIn_36 rfl hl (by decide) rfl (fun ls hl => ?_)
    refine lv_iconst (v := 0) hx hb dX11_fallIn_37 (by decide) ?_
    refine lv_istore_n (lv' := [(3, .int 0), (2, .int p1), (0, .ref (a 200)), (1, .int p1)]) hx hb dX11_fallIn_38 rfl hl (by decide) rfl (fun ls hl => ?_)
    refine lv_aload_n hx hb dX11_fallIn_39 rfl (lv_at hl 2 rfl) ?_
    refine lv_iload_n hx hb dX11_fallIn_40 rfl (lv_at hl 1 rfl) ?_
    refine kVi (As := [.int p1]) (rest := []) (wr := [((a 202), .inl (cy 0, 2260, .inl (fun _ => 0))), ((a 203), .inl (cy 0, 6780, .inl (fun _ => 0))), ((a 204), .inl (cy 3, 3, .inl (fun _ => 0))), ((a 205), .inl (cy 0, 900, .inl (fun _ => 0))), ((a 206), .inl (cy 0, 64, .inl (fun _ => 0))), ((a 207), .inl (cy 0, 6, .inl (fun _ => 0))), ((a 209), .inl (cy 0, 61, .inl (fun _ => 0))), ((a 210), .inl (cy 0, 61, .inl (fun _ => 0))), ((a 211), .inl (cy 0, 61, .inl (fun _ => 0))), ((a 212), .inl (cy 0, 61, .inl (fun _ => 0))), ((a 213), .inl (cy 0, 61, .inl (fun _ => 0))), ((a 214), .inl (cy 2, 6, .inr (.inl (fun _ => 0)))), ((a 215), .inl (cy 2, 6, .inr (.inl (fun _ => 0)))), ((a 216), .inl (cy 0, 4, .inl (upd (upd (upd (upd (fun _ => 0) (0 : Int32).toNatClampNeg (-1)) (1 : Int32).toNatClampNeg (-1)) (2 : Int32).toNatClampNeg (-1)) (3 : Int32).toNatClampNeg (-1)))), ((a 217), .inl (cy 0, 4, .inl (fun _ => 0))), ((a 218), .inl (cy 2, 120, .inr (.inl (fun _ => 0)))), ((a 208), .inl (cy 0, 37, .inl (fun _ => 0)))]) hX hE (au_X11_nextFall_109 l D cy a p1) (cwVA 1 htA wd_1889 wd_1886 wd_10 wd_1888 wp_105 (by decide +kernel) ⟨by decide, by decide⟩) hP hD hS [16, 17] [0, 1, 2, 3, 4, 5, 6, 7, 8, 9, 10, 11, 12, 13, 14, 15, 18] rfl rfl (by decide +kernel) 0 rfl rfl rfl rfl hl.1 rfl (Nat.le_of_ble_eq_true rfl) dX11_fallIn_41 (by decide) (fun r_ W1 H locs hw hP hD hS => ?_)
    refine W.widen (k := 0) (n := 0) (by decide) (by decide) ?_
    rcases hw with ⟨g9, rfl, rfl⟩ | ⟨g10, rfl, rfl⟩
    · exact (by have kg5 := g5; have kg6 := g6; have kg9 := g9; (try simp only [lg_cmp_lt, lg_cmp_le, lg_cmp_ge, lg_cmp_gt, lg_cmp_eq] at kg5); (try simp only [lg_cmp_lt, lg_cmp_le, lg_cmp_ge, lg_cmp_gt, lg_cmp_eq] at kg6); (try simp only [lg_cmp_lt, lg_cmp_le, lg_cmp_ge, lg_cmp_gt, lg_cmp_eq, fa_lt, fa_le, fa_eq, fa_lt64, fa_le64, fa_eq64, Int32.toInt_toInt64, li_0, lj_0, li_1, lj_1, li_999, lj_999, li_536870912, lj_536870912] at kg5); (try simp only [lg_cmp_lt, lg_cmp_le, lg_cmp_ge, lg_cmp_gt, lg_cmp_eq, fa_lt, fa_le, fa_eq, fa_lt64, fa_le64, fa_eq64, Int32.toInt_toInt64, li_0, lj_0, li_1, lj_1, li_999, lj_999, li_536870912, lj_536870912] at kg6); (try simp only [lg_cmp_lt, lg_cmp_le, lg_cmp_ge, lg_cmp_gt, lg_cmp_eq, fa_lt, fa_le, fa_eq, fa_lt64, fa_le64, fa_eq64, Int32.toInt_toInt64, li_0, lj_0, li_1, lj_1, li_999, lj_999, li_536870912, lj_536870912] at kg9); exfalso; omega)
    · have hP : va_P D vwCl [((a 202), .inl (cy 0, 2260, .inl (fun _ => 0))), ((a 203), .inl (cy 0, 6780, .inl (fun _ => 0))), ((a 204), .inl (cy 3, 3, .inl (fun _ => 0))), ((a 205), .inl (cy 0, 900, .inl (fun _ => 0))), ((a 206), .inl (cy 0, 64, .inl (fun _ => 0))), ((a 207), .inl (cy 0, 6, .inl (fun _ => 0))), ((a 209), .inl (cy 0, 61, .inl (fun _ => 0))), ((a 210), .inl (cy 0, 61, .inl (fun _ => 0))), ((a 211), .inl (cy 0, 61, .inl (fun _ => 0))), ((a 212), .inl (cy 0, 61, .inl (fun _ => 0))), ((a 213), .inl (cy 0, 61, .inl (fun _ => 0))), ((a 214), .inl (cy 2, 6, .inr (.inl (fun _ => 0)))), ((a 215), .inl (cy 2, 6, .inr (.inl (fun _ => 0)))), ((a 216), .inl (cy 0, 4, .inl (upd (upd (upd (upd (fun _ => 0) (0 : Int32).toNatClampNeg (-1)) (1 : Int32).toNatClampNeg (-1)) (2 : Int32).toNatClampNeg (-1)) (3 : Int32).toNatClampNeg (-1)))), ((a 217), .inl (cy 0, 4, .inl (fun _ => 0))), ((a 218), .inl (cy 2, 120, .inr (.inl (fun _ => 0)))), ((a 208), .inl (cy 0, 37, .inl (fun _ => 0))), ((a 200), .inr (11, [.ref (a 201), .ref (a 202), .ref (a 203), .ref (a 204), .int 0, .ref (a 205), .int 0, .int 0, .int 0, .int 0, .int 0, .int 0, .int 0, .int 0, .int 0, .int (-1), .int 0, .int 0, .int 0, .ref (a 206), .ref (a 207), .int 0, .int 0, .ref (a 208), .int 0, .int 0, .int 0, .int 0, .ref (a 209), .ref (a 210), .ref (a 211), .ref (a 212), .ref (a 213), .ref (a 214), .ref (a 215), .int 0, .ref (a 216), .ref (a 217), .ref (a 218)])), ((a 201), .inl (cy 0, 2260, .inl (upd (upd (fun _ => 0) (1 : Int32).toNatClampNeg 1) (2 : Int32).toNatClampNeg 1)))] H := hP
      have hD := va_ca hP hD
      refine lv_if_eq (tgt := 70) hx hb dX11_fallIn_44 (by decide) (fun _ => ?_) (fun q => absurd (by decide) q)
      refine lv_aload_n hx hb dX11_fallIn_70 rfl (lv_at hl 2 rfl) ?_
      refine kVv (As := []) (rest := []) (wr := [((a 202), .inl (cy 0, 2260, .inl (fun _ => 0))), ((a 203), .inl (cy 0, 6780, .inl (fun _ => 0))), ((a 204), .inl (cy 3, 3, .inl (fun _ => 0))), ((a 205), .inl (cy 0, 900, .inl (fun _ => 0))), ((a 206), .inl (cy 0, 64, .inl (fun _ => 0))), ((a 207), .inl (cy 0, 6, .inl (fun _ => 0))), ((a 209), .inl (cy 0, 61, .inl (fun _ => 0))), ((a 210), .inl (cy 0, 61, .inl (fun _ => 0))), ((a 211), .inl (cy 0, 61, .inl (fun _ => 0))), ((a 212), .inl (cy 0, 61, .inl (fun _ => 0))), ((a 213), .inl (cy 0, 61, .inl (fun _ => 0))), ((a 214), .inl (cy 2, 6, .inr (.inl (fun _ => 0)))), ((a 215), .inl (cy 2, 6, .inr (.inl (fun _ => 0)))), ((a 216), .inl (cy 0, 4, .inl (upd (upd (upd (upd (fun _ => 0) (0 : Int32).toNatClampNeg (-1)) (1 : Int32).toNatClampNeg (-1)) (2 : Int32).toNatClampNeg (-1)) (3 : Int32).toNatClampNeg (-1)))), ((a 217), .inl (cy 0, 4, .inl (fun _ => 0))), ((a 218), .inl (cy 2, 120, .inr (.inl (fun _ => 0))))]) hX hE (au_X11_putsBack_105 l D cy a) (cwVA 0 htA wd_1850 wd_1847 wd_10 wd_1849 wp_101 (by decide +kernel) ⟨by decide, by decide⟩) hP hD hS [16, 17, 18] [0, 1, 2, 3, 4, 5, 6, 7, 8, 9, 10, 11, 12, 13, 14, 15] rfl rfl (by decide +kernel) 1 rfl rfl rfl rfl hl.1 rfl (Nat.le_of_ble_eq_true rfl) dX11_fallIn_71 (by decide) (fun W1 H locs hw hP hD hS => ?_)
      refine W.widen (k := 0) (n := 0) (by decide) (by decide) ?_
      obtain rfl := hw
      have hP : va_P D vwCl [((a 202), .inl (cy 0, 2260, .inl (fun _ => 0))), ((a 203), .inl (cy 0, 6780, .inl (fun _ => 0))), ((a 204), .inl (cy 3, 3, .inl (fun _ => 0))), ((a 205), .inl (cy 0, 900, .inl (fun _ => 0))), ((a 206), .inl (cy 0, 64, .inl (fun _ => 0))), ((a 207), .inl (cy 0, 6, .inl (fun _ => 0))), ((a 209), .inl (cy 0, 61, .inl (fun _ => 0))), ((a 210), .inl (cy 0, 61, .inl (fun _ => 0))), ((a 211), .inl (cy 0, 61, .inl (fun _ => 0))), ((a 212), .inl (cy 0, 61, .inl (fun _ => 0))), ((a 213), .inl (cy 0, 61, .inl (fun _ => 0))), ((a 214), .inl (cy 2, 6, .inr (.inl (fun _ => 0)))), ((a 215), .inl (cy 2, 6, .inr (.inl (fun _ => 0)))), ((a 216), .inl (cy 0, 4, .inl (upd (upd (upd (upd (fun _ => 0) (0 : Int32).toNatClampNeg (-1)) (1 : Int32).toNatClampNeg (-1)) (2 : Int32).toNatClampNeg (-1)) (3 : Int32).toNatClampNeg (-1)))), ((a 217), .inl (cy 0, 4, .inl (fun _ => 0))), ((a 218), .inl (cy 2, 120, .inr (.inl (fun _ => 0)))), ((a 208), .inl (cy 0, 37, .inl (fun _ => 0))), ((a 200), .inr (11, [.ref (a 201), .ref (a 202), .ref (a 203), .ref (a 204), .int 0, .ref (a 205), .int 0, .int 0, .int 0, .int 0, .int 0, .int 0, .int 0, .int 0, .int 0, .int (-1), .int 0, .int 0, .int 0, .ref (a 206), .ref (a 207), .int 0, .int 0, .ref (a 208), .int 0, .int 0, .int 0, .int 0, .ref (a 209), .ref (a 210), .ref (a 211), .ref (a 212), .ref (a 213), .ref (a 214), .ref (a 215), .int 0, .ref (a 216), .ref (a 217), .ref (a 218)])), ((a 201), .inl (cy 0, 2260, .inl (upd (upd (fun _ => 0) (1 : Int32).toNatClampNeg 1) (2 : Int32).toNatClampNeg 1)))] H := hP
      have hD := va_ca hP hD
      refine lv_iload_n hx hb dX11_fallIn_74 rfl (lv_at hl 0 rfl) ?_
      exact rI hX hE (hP.sub [17] rfl) (hD.sub [17] (by decide +kernel) rfl) hS dX11_fallIn_75 (by decide) (by decide) (⟨_, rfl, (by have kg5 := g5; have kg6 := g6; have kg10 := g10; (try simp only [lg_cmp_lt, lg_cmp_le, lg_cmp_ge, lg_cmp_gt, lg_cmp_eq] at kg5); (try simp only [lg_cmp_lt, lg_cmp_le, lg_cmp_ge, lg_cmp_gt, lg_cmp_eq] at kg6); (try simp only [lg_cmp_lt, lg_cmp_le, lg_cmp_ge, lg_cmp_gt, lg_cmp_eq, fa_lt, fa_le, fa_eq, fa_lt64, fa_le64, fa_eq64, Int32.toInt_toInt64, li_0, lj_0, li_1, lj_1, li_999, lj_999, li_536870912, lj_536870912] at kg5); (try simp only [lg_cmp_lt, lg_cmp_le, lg_cmp_ge, lg_cmp_gt, lg_cmp_eq, fa_lt, fa_le, fa_eq, fa_lt64, fa_le64, fa_eq64, Int32.toInt_toInt64, li_0, lj_0, li_1, lj_1, li_999, lj_999, li_536870912, lj_536870912] at kg6); (try simp only [lg_cmp_lt, lg_cmp_le, lg_cmp_ge, lg_cmp_gt, lg_cmp_eq, fa_lt, fa_le, fa_eq, fa_lt64, fa_le64, fa_eq64, Int32.toInt_toInt64, li_0, lj_0, li_1, lj_1, li_999, lj_999, li_536870912, lj_536870912] at kg10); first | rfl | (congr 2; first | rfl | (unfold kf_fallIn; (repeat' split) <;> first | rfl | (exfalso; omega)))), (fun _ => (by have kg5 := g5; have kg6 := g6; have kg10 := g10; (try simp only [lg_cmp_lt, lg_cmp_le, lg_cmp_ge, lg_cmp_gt, lg_cmp_eq] at kg5); (try simp only [lg_cmp_lt, lg_cmp_le, lg_cmp_ge, lg_cmp_gt, lg_cmp_eq] at kg6); (try simp only [lg_cmp_lt, lg_cmp_le, lg_cmp_ge, lg_cmp_gt, lg_cmp_eq, fa_lt, fa_le, fa_eq, fa_lt64, fa_le64, fa_eq64, Int32.toInt_toInt64, li_0, lj_0, li_1, lj_1, li_999, lj_999, li_536870912, lj_536870912] at kg5); (try simp only [lg_cmp_lt, lg_cmp_le, lg_cmp_ge, lg_cmp_gt, lg_cmp_eq, fa_lt, fa_le, fa_eq, fa_lt64, fa_le64, fa_eq64, Int32.toInt_toInt64, li_0, lj_0, li_1, lj_1, li_999, lj_999, li_536870912, lj_536870912] at kg6); (try simp only [lg_cmp_lt, lg_cmp_le, lg_cmp_ge, lg_cmp_gt, lg_cmp_eq, fa_lt, fa_le, fa_eq, fa_lt64, fa_le64, fa_eq64, Int32.toInt_toInt64, li_0, lj_0, li_1, lj_1, li_999, lj_999, li_536870912, lj_536870912] at kg10); first | rfl | decide | (unfold vf_fallIn; (repeat' split) <;> first | rfl | decide | (exfalso; omega))))⟩)
