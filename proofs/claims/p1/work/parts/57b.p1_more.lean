set_option maxHeartbeats 4000000 in
set_option maxRecDepth 100000 in
theorem au_X0_init_62 (l : Launch) (D : va_G) (cy : Nat → ClassId) (a : Nat → Nat) (n1_ : Nat) : Cv l yX0_init cX0_init 1 none { frames := 1, cells := 3, slots := 44, locals := 30 } D cy [.ref n1_] [(n1_, .inr (0, [.int 0, .int 0, .int 0, .int 0, .int 0, .null, .null, .null, .null, .null]))] (fun W1 => (∃ q1 q2 q3 : Nat, W1 = [(n1_, .inr (0, [.int 0, .int 1, .int 1, .int 0, .int 0, .ref q1, .ref q2, .ref q3, .null, .null])), (q1, .inl (cy 0, 8, .inl (fun _ => 0))), (q2, .inl (cy 0, 32, .inl (fun _ => 0))), (q3, .inl (cy 0, 4, .inl (fun _ => 0)))])) := by
  refine Cv.of (by decide) (Nat.le_of_ble_eq_true rfl) ?_
  intro p e s m below meth c A ls hX hE hP hD hl hin
  obtain ⟨hx, hb, hr, hml, hown, htA, hlk⟩ := id hX
  have hK := hE.1
  have hS : va_S A s.heap s.heap [] := va_S.rf
  have hl : lv_has ls 1 [(0, .ref n1_)] := hl
  refine lv_aload_n hx hb dX0_init_0 rfl (lv_at hl 0 rfl) ?_
  refine W.objInit hx hb hown (htA _ wd_74) (htA _ wd_34) (htA _ wd_objinit) rfl (by rw [hml]; exact hl.1) rfl dX0_init_1 (Nat.le_of_ble_eq_true rfl) (Nat.le_of_ble_eq_true rfl) ?_
  refine W.eq (g2 := F0 m 4 ls []) rfl ?_
  refine lv_aload_n hx hb dX0_init_4 rfl (lv_at hl 0 rfl) ?_
  refine lv_iconst (v := 1) hx hb dX0_init_5 (by decide) ?_
  refine va_put (ci := 0) (v := .int 1) (ty := .int) (C := RX0) (T := TX0) (N := 10) hx hb htA in_X0 tyX0 tyX0_ok nmX0 hown hK hP hD hS 0 rfl rfl 1 (by decide) (htA _ wd_77) (fun _ h => h) rfl (by decide +kernel) rfl rfl (Nat.le_of_ble_eq_true rfl) dX0_init_6 (fun H locs hP hD hS => ?_)
  have hP : va_P D vwCl [(n1_, .inr (0, [.int 0, .int 1, .int 0, .int 0, .int 0, .null, .null, .null, .null, .null]))] H := hP
  have hD : va_D A [(n1_, .inr (0, [.int 0, .int 1, .int 0, .int 0, .int 0, .null, .null, .null, .null, .null]))] := hD
  refine lv_aload_n hx hb dX0_init_9 rfl (lv_at hl 0 rfl) ?_
  refine lv_iconst (v := 1) hx hb dX0_init_10 (by decide) ?_
  refine va_put (ci := 0) (v := .int 1) (ty := .int) (C := RX0) (T := TX0) (N := 10) hx hb htA in_X0 tyX0 tyX0_ok nmX0 hown hK hP hD hS 0 rfl rfl 2 (by decide) (htA _ wd_82) (fun _ h => h) rfl (by decide +kernel) rfl rfl (Nat.le_of_ble_eq_true rfl) dX0_init_11 (fun H locs hP hD hS => ?_)
  have hP : va_P D vwCl [(n1_, .inr (0, [.int 0, .int 1, .int 1, .int 0, .int 0, .null, .null, .null, .null, .null]))] H := hP
  have hD : va_D A [(n1_, .inr (0, [.int 0, .int 1, .int 1, .int 0, .int 0, .null, .null, .null, .null, .null]))] := hD
  refine lv_aload_n hx hb dX0_init_14 rfl (lv_at hl 0 rfl) ?_
  refine lv_bipush (v := 8) hx hb dX0_init_15 (by decide) ?_
  refine k_newa0 hx hb (htA _ wd_63) hE hP hD hS (N := 8) (by decide) (by decide) (by decide) (by decide) (by decide) dX0_init_17 (fun q1 H hP hD hS => ?_)
  have hP : va_P D vwCl [(n1_, .inr (0, [.int 0, .int 1, .int 1, .int 0, .int 0, .null, .null, .null, .null, .null])), (q1, .inl (cy 0, 8, .inl (fun _ => 0)))] H := hP
  have hD : va_D A [(n1_, .inr (0, [.int 0, .int 1, .int 1, .int 0, .int 0, .null, .null, .null, .null, .null])), (q1, .inl (cy 0, 8, .inl (fun _ => 0)))] := hD
  refine W.widen (k := 1) (n := 8) (by decide) (by decide) ?_
  refine va_putF (ci := 0) (v := .ref q1) (ty := tyX0 5) (C := RX0) (T := TX0) (N := 10) hx hb htA in_X0 tyX0 tyX0_ok nmX0 hown hK hP hD hS 0 rfl rfl 5 (by decide) (htA _ wd_93) (fun _ h => h) rfl hin rfl (by decide +kernel) rfl rfl (Nat.le_of_ble_eq_true rfl) dX0_init_19 (fun H locs hP hD hS => ?_)
  have hP : va_P D vwCl [(n1_, .inr (0, [.int 0, .int 1, .int 1, .int 0, .int 0, .ref q1, .null, .null, .null, .null])), (q1, .inl (cy 0, 8, .inl (fun _ => 0)))] H := hP
  have hD : va_D A [(n1_, .inr (0, [.int 0, .int 1, .int 1, .int 0, .int 0, .ref q1, .null, .null, .null, .null])), (q1, .inl (cy 0, 8, .inl (fun _ => 0)))] := hD
  refine lv_aload_n hx hb dX0_init_22 rfl (lv_at hl 0 rfl) ?_
  refine lv_bipush (v := 32) hx hb dX0_init_23 (by decide) ?_
  refine k_newa0 hx hb (htA _ wd_63) hE hP hD hS (N := 32) (by decide) (by decide) (by decide) (by decide) (by decide) dX0_init_25 (fun q2 H hP hD hS => ?_)
  have hP : va_P D vwCl [(n1_, .inr (0, [.int 0, .int 1, .int 1, .int 0, .int 0, .ref q1, .null, .null, .null, .null])), (q1, .inl (cy 0, 8, .inl (fun _ => 0))), (q2, .inl (cy 0, 32, .inl (fun _ => 0)))] H := hP
  have hD : va_D A [(n1_, .inr (0, [.int 0, .int 1, .int 1, .int 0, .int 0, .ref q1, .null, .null, .null, .null])), (q1, .inl (cy 0, 8, .inl (fun _ => 0))), (q2, .inl (cy 0, 32, .inl (fun _ => 0)))] := hD
  refine W.widen (k := 2) (n := 40) (by decide) (by decide) ?_
  refine va_putF (ci := 0) (v := .ref q2) (ty := tyX0 6) (C := RX0) (T := TX0) (N := 10) hx hb htA in_X0 tyX0 tyX0_ok nmX0 hown hK hP hD hS 0 rfl rfl 6 (by decide) (htA _ wd_97) (fun _ h => h) rfl hin rfl (by decide +kernel) rfl rfl (Nat.le_of_ble_eq_true rfl) dX0_init_27 (fun H locs hP hD hS => ?_)
  have hP : va_P D vwCl [(n1_, .inr (0, [.int 0, .int 1, .int 1, .int 0, .int 0, .ref q1, .ref q2, .null, .null, .null])), (q1, .inl (cy 0, 8, .inl (fun _ => 0))), (q2, .inl (cy 0, 32, .inl (fun _ => 0)))] H := hP
  have hD : va_D A [(n1_, .inr (0, [.int 0, .int 1, .int 1, .int 0, .int 0, .ref q1, .ref q2, .null, .null, .null])), (q1, .inl (cy 0, 8, .inl (fun _ => 0))), (q2, .inl (cy 0, 32, .inl (fun _ => 0)))] := hD
  refine lv_aload_n hx hb dX0_init_30 rfl (lv_at hl 0 rfl) ?_
  refine lv_iconst (v := 4) hx hb dX0_init_31 (by decide) ?_
  refine k_newa0 hx hb (htA _ wd_63) hE hP hD hS (N := 4) (by decide) (by decide) (by decide) (by decide) (by decide) dX0_init_32 (fun q3 H hP hD hS => ?_)
  have hP : va_P D vwCl [(n1_, .inr (0, [.int 0, .int 1, .int 1, .int 0, .int 0, .ref q1, .ref q2, .null, .null, .null])), (q1, .inl (cy 0, 8, .inl (fun _ => 0))), (q2, .inl (cy 0, 32, .inl (fun _ => 0))), (q3, .inl (cy 0, 4, .inl (fun _ => 0)))] H := hP
  have hD : va_D A [(n1_, .inr (0, [.int 0, .int 1, .int 1, .int 0, .int 0, .ref q1, .ref q2, .null, .null, .null])), (q1, .inl (cy 0, 8, .inl (fun _ => 0))), (q2, .inl (cy 0, 32, .inl (fun _ => 0))), (q3, .inl (cy 0, 4, .inl (fun _ => 0)))] := hD
  refine W.widen (k := 3) (n := 44) (by decide) (by decide) ?_
  refine va_putF (ci := 0) (v := .ref q3) (ty := tyX0 7) (C := RX0) (T := TX0) (N := 10) hx hb htA in_X0 tyX0 tyX0_ok nmX0 hown hK hP hD hS 0 rfl rfl 7 (by decide) (htA _ wd_99) (fun _ h => h) rfl hin rfl (by decide +kernel) rfl rfl (Nat.le_of_ble_eq_true rfl) dX0_init_34 (fun H locs hP hD hS => ?_)
  have hP : va_P D vwCl [(n1_, .inr (0, [.int 0, .int 1, .int 1, .int 0, .int 0, .ref q1, .ref q2, .ref q3, .null, .null])), (q1, .inl (cy 0, 8, .inl (fun _ => 0))), (q2, .inl (cy 0, 32, .inl (fun _ => 0))), (q3, .inl (cy 0, 4, .inl (fun _ => 0)))] H := hP
  have hD : va_D A [(n1_, .inr (0, [.int 0, .int 1, .int 1, .int 0, .int 0, .ref q1, .ref q2, .ref q3, .null, .null])), (q1, .inl (cy 0, 8, .inl (fun _ => 0))), (q2, .inl (cy 0, 32, .inl (fun _ => 0))), (q3, .inl (cy 0, 4, .inl (fun _ => 0)))] := hD
  exact rV hX hE hP hD hS dX0_init_37 (by decide) (by decide) (⟨q1, q2, q3, rfl⟩)
set_option maxHeartbeats 4000000 in
set_option maxRecDepth 100000 in
theorem au_X6_begin_63 (l : Launch) (D : va_G) (cy : Nat → ClassId) (a : Nat → Nat) (n1_ : Nat) : Cv l yX6_begin cX6_begin 3 none { frames := 0, cells := 0, slots := 0, locals := 0 } D cy [.ref (a 30), .ref n1_] [((a 30), .inr (6, [.ref (a 10), .int 0, .ref (a 31), .ref (a 32), .ref (a 33), .ref (a 34), .ref (a 35), .int 0])), ((a 35), .inl (cy 0, 4, .inl (fun _ => 0)))] (fun W1 => (W1 = [((a 30), .inr (6, [.ref n1_, .int 0, .ref (a 31), .ref (a 32), .ref (a 33), .ref (a 34), .ref (a 35), .int 0])), ((a 35), .inl (cy 0, 4, .inl (fun _ => 0)))])) := by
  refine Cv.of (by decide) (Nat.le_of_ble_eq_true rfl) ?_
  intro p e s m below meth c A ls hX hE hP hD hl hin
  obtain ⟨hx, hb, hr, hml, hown, htA, hlk⟩ := id hX
  have hK := hE.1
  have hS : va_S A s.heap s.heap [] := va_S.rf
  have hl : lv_has ls 3 [(0, .ref (a 30)), (1, .ref n1_)] := hl
  refine lv_aload_n hx hb dX6_begin_0 rfl (lv_at hl 0 rfl) ?_
  refine lv_aload_n hx hb dX6_begin_1 rfl (lv_at hl 1 rfl) ?_
  refine va_put (ci := 6) (v := .ref n1_) (ty := tyX6 0) (C := RX6) (T := TX6) (N := 8) hx hb htA in_X6 tyX6 tyX6_ok nmX6 hown hK hP hD hS 0 rfl rfl 0 (by decide) (htA _ wd_166) (fun _ h => h) rfl (by decide +kernel) rfl rfl (Nat.le_of_ble_eq_true rfl) dX6_begin_2 (fun H locs hP hD hS => ?_)
  have hP : va_P D vwCl [((a 30), .inr (6, [.ref n1_, .int 0, .ref (a 31), .ref (a 32), .ref (a 33), .ref (a 34), .ref (a 35), .int 0])), ((a 35), .inl (cy 0, 4, .inl (fun _ => 0)))] H := hP
  have hD : va_D A [((a 30), .inr (6, [.ref n1_, .int 0, .ref (a 31), .ref (a 32), .ref (a 33), .ref (a 34), .ref (a 35), .int 0])), ((a 35), .inl (cy 0, 4, .inl (fun _ => 0)))] := hD
  refine lv_aload_n hx hb dX6_begin_5 rfl (lv_at hl 0 rfl) ?_
  refine lv_iconst (v := 0) hx hb dX6_begin_6 (by decide) ?_
  refine va_put (ci := 6) (v := .int 0) (ty := .int) (C := RX6) (T := TX6) (N := 8) hx hb htA in_X6 tyX6 tyX6_ok nmX6 hown hK hP hD hS 0 rfl rfl 1 (by decide) (htA _ wd_170) (fun _ h => h) rfl (by decide +kernel) rfl rfl (Nat.le_of_ble_eq_true rfl) dX6_begin_7 (fun H locs hP hD hS => ?_)
  have hP : va_P D vwCl [((a 30), .inr (6, [.ref n1_, .int 0, .ref (a 31), .ref (a 32), .ref (a 33), .ref (a 34), .ref (a 35), .int 0])), ((a 35), .inl (cy 0, 4, .inl (fun _ => 0)))] H := hP
  have hD : va_D A [((a 30), .inr (6, [.ref n1_, .int 0, .ref (a 31), .ref (a 32), .ref (a 33), .ref (a 34), .ref (a 35), .int 0])), ((a 35), .inl (cy 0, 4, .inl (fun _ => 0)))] := hD
  refine lv_aload_n hx hb dX6_begin_10 rfl (lv_at hl 0 rfl) ?_
  refine lv_iconst (v := 0) hx hb dX6_begin_11 (by decide) ?_
  refine va_put (ci := 6) (v := .int 0) (ty := .int) (C := RX6) (T := TX6) (N := 8) hx hb htA in_X6 tyX6 tyX6_ok nmX6 hown hK hP hD hS 0 rfl rfl 7 (by decide) (htA _ wd_189) (fun _ h => h) rfl (by decide +kernel) rfl rfl (Nat.le_of_ble_eq_true rfl) dX6_begin_12 (fun H locs hP hD hS => ?_)
  have hP : va_P D vwCl [((a 30), .inr (6, [.ref n1_, .int 0, .ref (a 31), .ref (a 32), .ref (a 33), .ref (a 34), .ref (a 35), .int 0])), ((a 35), .inl (cy 0, 4, .inl (fun _ => 0)))] H := hP
  have hD : va_D A [((a 30), .inr (6, [.ref n1_, .int 0, .ref (a 31), .ref (a 32), .ref (a 33), .ref (a 34), .ref (a 35), .int 0])), ((a 35), .inl (cy 0, 4, .inl (fun _ => 0)))] := hD
  refine lv_iconst (v := 0) hx hb dX6_begin_15 (by decide) ?_
  refine lv_istore_n (lv' := [(2, .int 0), (0, .ref (a 30)), (1, .ref n1_)]) hx hb dX6_begin_16 rfl hl (by decide) rfl (fun ls hl => ?_)
  refine lv_iload_n hx hb dX6_begin_17 rfl (lv_at hl 0 rfl) ?_
  refine lv_iconst (v := 4) hx hb dX6_begin_18 (by decide) ?_
  refine lv_icmp_ge (tgt := 35) hx hb dX6_begin_19 (by decide) (fun q => absurd q (by decide)) (fun _ => ?_)
  refine lv_aload_n hx hb dX6_begin_22 rfl (lv_at hl 1 rfl) ?_
  refine va_get (ci := 6) (v := .ref (a 35)) (C := RX6) (T := TX6) (N := 8) hx hb htA in_X6 hown hK hP 0 rfl rfl 6 (by decide) (htA _ wd_187) (fun _ h => h) rfl dX6_begin_23 ?_
  refine lv_iload_n hx hb dX6_begin_26 rfl (lv_at hl 0 rfl) ?_
  refine lv_iconst (v := 0) hx hb dX6_begin_27 (by decide) ?_
  refine va_iast hx hb hK hP hD hS 1 0 rfl rfl (in_lit (by decide)) dX6_begin_28 (fun H locs hP hD hS => ?_)
  rw [fa_upd_same (f := fun _ => 0) (i := (0 : Int32).toNatClampNeg) (x := 0) (by first | decide | rfl)] at hP hD
  have hP : va_P D vwCl [((a 30), .inr (6, [.ref n1_, .int 0, .ref (a 31), .ref (a 32), .ref (a 33), .ref (a 34), .ref (a 35), .int 0])), ((a 35), .inl (cy 0, 4, .inl (fun _ => 0)))] H := hP
  have hD : va_D A [((a 30), .inr (6, [.ref n1_, .int 0, .ref (a 31), .ref (a 32), .ref (a 33), .ref (a 34), .ref (a 35), .int 0])), ((a 35), .inl (cy 0, 4, .inl (fun _ => 0)))] := hD
  refine lv_iinc (v := 1) (lv' := [(2, .int 1), (0, .ref (a 30)), (1, .ref n1_)]) hx hb dX6_begin_29 hl (k := 0) rfl (by decide) (by decide) rfl (fun ls hl => ?_)
  refine lv_goto (tgt := 17) hx hb dX6_begin_32 (by decide) ?_
  refine lv_iload_n hx hb dX6_begin_17 rfl (lv_at hl 0 rfl) ?_
  refine lv_iconst (v := 4) hx hb dX6_begin_18 (by decide) ?_
  refine lv_icmp_ge (tgt := 35) hx hb dX6_begin_19 (by decide) (fun q => absurd q (by decide)) (fun _ => ?_)
  refine lv_aload_n hx hb dX6_begin_22 rfl (lv_at hl 1 rfl) ?_
  refine va_get (ci := 6) (v := .ref (a 35)) (C := RX6) (T := TX6) (N := 8) hx hb htA in_X6 hown hK hP 0 rfl rfl 6 (by decide) (htA _ wd_187) (fun _ h => h) rfl dX6_begin_23 ?_
  refine lv_iload_n hx hb dX6_begin_26 rfl (lv_at hl 0 rfl) ?_
  refine lv_iconst (v := 0) hx hb dX6_begin_27 (by decide) ?_
  refine va_iast hx hb hK hP hD hS 1 0 rfl rfl (in_lit (by decide)) dX6_begin_28 (fun H locs hP hD hS => ?_)
  rw [fa_upd_same (f := fun _ => 0) (i := (1 : Int32).toNatClampNeg) (x := 0) (by first | decide | rfl)] at hP hD
  have hP : va_P D vwCl [((a 30), .inr (6, [.ref n1_, .int 0, .ref (a 31), .ref (a 32), .ref (a 33), .ref (a 34), .ref (a 35), .int 0])), ((a 35), .inl (cy 0, 4, .inl (fun _ => 0)))] H := hP
  have hD : va_D A [((a 30), .inr (6, [.ref n1_, .int 0, .ref (a 31), .ref (a 32), .ref (a 33), .ref (a 34), .ref (a 35), .int 0])), ((a 35), .inl (cy 0, 4, .inl (fun _ => 0)))] := hD
  refine lv_iinc (v := 2) (lv' := [(2, .int 2), (0, .ref (a 30)), (1, .ref n1_)]) hx hb dX6_begin_29 hl (k := 0) rfl (by decide) (by decide) rfl (fun ls hl => ?_)
  refine lv_goto (tgt := 17) hx hb dX6_begin_32 (by decide) ?_
  refine lv_iload_n hx hb dX6_begin_17 rfl (lv_at hl 0 rfl) ?_
  refine lv_iconst (v := 4) hx hb dX6_begin_18 (by decide) ?_
  refine lv_icmp_ge (tgt := 35) hx hb dX6_begin_19 (by decide) (fun q => absurd q (by decide)) (fun _ => ?_)
  refine lv_aload_n hx hb dX6_begin_22 rfl (lv_at hl 1 rfl) ?_
  refine va_get (ci := 6) (v := .ref (a 35)) (C := RX6) (T := TX6) (N := 8) hx hb htA in_X6 hown hK hP 0 rfl rfl 6 (by decide) (htA _ wd_187) (fun _ h => h) rfl dX6_begin_23 ?_
  refine lv_iload_n hx hb dX6_begin_26 rfl (lv_at hl 0 rfl) ?_
  refine lv_iconst (v := 0) hx hb dX6_begin_27 (by decide) ?_
  refine va_iast hx hb hK hP hD hS 1 0 rfl rfl (in_lit (by decide)) dX6_begin_28 (fun H locs hP hD hS => ?_)
  rw [fa_upd_same (f := fun _ => 0) (i := (2 : Int32).toNatClampNeg) (x := 0) (by first | decide | rfl)] at hP hD
  have hP : va_P D vwCl [((a 30), .inr (6, [.ref n1_, .int 0, .ref (a 31), .ref (a 32), .ref (a 33), .ref (a 34), .ref (a 35), .int 0])), ((a 35), .inl (cy 0, 4, .inl (fun _ => 0)))] H := hP
  have hD : va_D A [((a 30), .inr (6, [.ref n1_, .int 0, .ref (a 31), .ref (a 32), .ref (a 33), .ref (a 34), .ref (a 35), .int 0])), ((a 35), .inl (cy 0, 4, .inl (fun _ => 0)))] := hD
  refine lv_iinc (v := 3) (lv' := [(2, .int 3), (0, .ref (a 30)), (1, .ref n1_)]) hx hb dX6_begin_29 hl (k := 0) rfl (by decide) (by decide) rfl (fun ls hl => ?_)
  refine lv_goto (tgt := 17) hx hb dX6_begin_32 (by decide) ?_
  refine lv_iload_n hx hb dX6_begin_17 rfl (lv_at hl 0 rfl) ?_
  refine lv_iconst (v := 4) hx hb dX6_begin_18 (by decide) ?_
  refine lv_icmp_ge (tgt := 35) hx hb dX6_begin_19 (by decide) (fun q => absurd q (by decide)) (fun _ => ?_)
  refine lv_aload_n hx hb dX6_begin_22 rfl (lv_at hl 1 rfl) ?_
  refine va_get (ci := 6) (v := .ref (a 35)) (C := RX6) (T := TX6) (N := 8) hx hb htA in_X6 hown hK hP 0 rfl rfl 6 (by decide) (htA _ wd_187) (fun _ h => h) rfl dX6_begin_23 ?_
  refine lv_iload_n hx hb dX6_begin_26 rfl (lv_at hl 0 rfl) ?_
  refine lv_iconst (v := 0) hx hb dX6_begin_27 (by decide) ?_
  refine va_iast hx hb hK hP hD hS 1 0 rfl rfl (in_lit (by decide)) dX6_begin_28 (fun H locs hP hD hS => ?_)
  rw [fa_upd_same (f := fun _ => 0) (i := (3 : Int32).toNatClampNeg) (x := 0) (by first | decide | rfl)] at hP hD
  have hP : va_P D vwCl [((a 30), .inr (6, [.ref n1_, .int 0, .ref (a 31), .ref (a 32), .ref (a 33), .ref (a 34), .ref (a 35), .int 0])), ((a 35), .inl (cy 0, 4, .inl (fun _ => 0)))] H := hP
  have hD : va_D A [((a 30), .inr (6, [.ref n1_, .int 0, .ref (a 31), .ref (a 32), .ref (a 33), .ref (a 34), .ref (a 35), .int 0])), ((a 35), .inl (cy 0, 4, .inl (fun _ => 0)))] := hD
  refine lv_iinc (v := 4) (lv' := [(2, .int 4), (0, .ref (a 30)), (1, .ref n1_)]) hx hb dX6_begin_29 hl (k := 0) rfl (by decide) (by decide) rfl (fun ls hl => ?_)
  refine lv_goto (tgt := 17) hx hb dX6_begin_32 (by decide) ?_
  refine lv_iload_n hx hb dX6_begin_17 rfl (lv_at hl 0 rfl) ?_
  refine lv_iconst (v := 4) hx hb dX6_begin_18 (by decide) ?_
  refine lv_icmp_ge (tgt := 35) hx hb dX6_begin_19 (by decide) (fun _ => ?_) (fun q => absurd (by decide) q)
  exact rV hX hE hP hD hS dX6_begin_35 (by decide) (by decide) (rfl)
set_option maxHeartbeats 4000000 in
set_option maxRecDepth 100000 in
theorem au_X7_append_64 (l : Launch) (D : va_G) (cy : Nat → ClassId) (a : Nat → Nat) : Cv l yX7_append cX7_append 3 none { frames := 0, cells := 0, slots := 0, locals := 0 } D cy [.ref (a 36), .int 0, .int 0] [((a 36), .inr (7, [.ref (a 37), .ref (a 38), .int 0, .int 0, .int 0, .int 0])), ((a 37), .inl (cy 0, 901, .inl (fun _ => 0))), ((a 38), .inl (cy 0, 901, .inl (fun _ => 0)))] (fun W1 => (W1 = [((a 36), .inr (7, [.ref (a 37), .ref (a 38), .int 1, .int 0, .int 0, .int 0])), ((a 37), .inl (cy 0, 901, .inl (fun _ => 0))), ((a 38), .inl (cy 0, 901, .inl (fun _ => 0)))])) := by
  refine Cv.of (by decide) (Nat.le_of_ble_eq_true rfl) ?_
  intro p e s m below meth c A ls hX hE hP hD hl hin
  obtain ⟨hx, hb, hr, hml, hown, htA, hlk⟩ := id hX
  have hK := hE.1
  have hS : va_S A s.heap s.heap [] := va_S.rf
  have hl : lv_has ls 3 [(0, .ref (a 36)), (1, .int 0), (2, .int 0)] := hl
  refine lv_aload_n hx hb dX7_append_0 rfl (lv_at hl 0 rfl) ?_
  refine va_get (ci := 7) (v := .int 0) (C := RX7) (T := TX7) (N := 6) hx hb htA in_X7 hown hK hP 0 rfl rfl 2 (by decide) (htA _ wd_141) (fun _ h => h) rfl dX7_append_1 ?_
  refine lv_aload_n hx hb dX7_append_4 rfl (lv_at hl 0 rfl) ?_
  refine va_get (ci := 7) (v := .ref (a 37)) (C := RX7) (T := TX7) (N := 6) hx hb htA in_X7 hown hK hP 0 rfl rfl 0 (by decide) (htA _ wd_139) (fun _ h => h) rfl dX7_append_5 ?_
  refine va_alen (v := 901) hx hb hK hP 1 0 rfl rfl (by decide) dX7_append_8 ?_
  refine lv_icmp_ge (tgt := 42) hx hb dX7_append_9 (by decide) (fun q => absurd q (by decide)) (fun _ => ?_)
  refine lv_aload_n hx hb dX7_append_12 rfl (lv_at hl 0 rfl) ?_
  refine va_get (ci := 7) (v := .ref (a 37)) (C := RX7) (T := TX7) (N := 6) hx hb htA in_X7 hown hK hP 0 rfl rfl 0 (by decide) (htA _ wd_139) (fun _ h => h) rfl dX7_append_13 ?_
  refine lv_aload_n hx hb dX7_append_16 rfl (lv_at hl 0 rfl) ?_
  refine va_get (ci := 7) (v := .int 0) (C := RX7) (T := TX7) (N := 6) hx hb htA in_X7 hown hK hP 0 rfl rfl 2 (by decide) (htA _ wd_141) (fun _ h => h) rfl dX7_append_17 ?_
  refine lv_iload_n hx hb dX7_append_20 rfl (lv_at hl 1 rfl) ?_
  refine va_iast hx hb hK hP hD hS 1 0 rfl rfl (in_lit (by decide)) dX7_append_21 (fun H locs hP hD hS => ?_)
  rw [fa_upd_same (f := fun _ => 0) (i := (0 : Int32).toNatClampNeg) (x := 0) (by first | decide | rfl)] at hP hD
  have hP : va_P D vwCl [((a 36), .inr (7, [.ref (a 37), .ref (a 38), .int 0, .int 0, .int 0, .int 0])), ((a 37), .inl (cy 0, 901, .inl (fun _ => 0))), ((a 38), .inl (cy 0, 901, .inl (fun _ => 0)))] H := hP
  have hD : va_D A [((a 36), .inr (7, [.ref (a 37), .ref (a 38), .int 0, .int 0, .int 0, .int 0])), ((a 37), .inl (cy 0, 901, .inl (fun _ => 0))), ((a 38), .inl (cy 0, 901, .inl (fun _ => 0)))] := hD
  refine lv_aload_n hx hb dX7_append_22 rfl (lv_at hl 0 rfl) ?_
  refine va_get (ci := 7) (v := .ref (a 38)) (C := RX7) (T := TX7) (N := 6) hx hb htA in_X7 hown hK hP 0 rfl rfl 1 (by decide) (htA _ wd_140) (fun _ h => h) rfl dX7_append_23 ?_
  refine lv_aload_n hx hb dX7_append_26 rfl (lv_at hl 0 rfl) ?_
  refine va_get (ci := 7) (v := .int 0) (C := RX7) (T := TX7) (N := 6) hx hb htA in_X7 hown hK hP 0 rfl rfl 2 (by decide) (htA _ wd_141) (fun _ h => h) rfl dX7_append_27 ?_
  refine lv_iload_n hx hb dX7_append_30 rfl (lv_at hl 2 rfl) ?_
  refine va_iast hx hb hK hP hD hS 2 0 rfl rfl (in_lit (by decide)) dX7_append_31 (fun H locs hP hD hS => ?_)
  rw [fa_upd_same (f := fun _ => 0) (i := (0 : Int32).toNatClampNeg) (x := 0) (by first | decide | rfl)] at hP hD
  have hP : va_P D vwCl [((a 36), .inr (7, [.ref (a 37), .ref (a 38), .int 0, .int 0, .int 0, .int 0])), ((a 37), .inl (cy 0, 901, .inl (fun _ => 0))), ((a 38), .inl (cy 0, 901, .inl (fun _ => 0)))] H := hP
  have hD : va_D A [((a 36), .inr (7, [.ref (a 37), .ref (a 38), .int 0, .int 0, .int 0, .int 0])), ((a 37), .inl (cy 0, 901, .inl (fun _ => 0))), ((a 38), .inl (cy 0, 901, .inl (fun _ => 0)))] := hD
  refine lv_aload_n hx hb dX7_append_32 rfl (lv_at hl 0 rfl) ?_
  refine lv_dup hx hb dX7_append_33 rfl ?_
  refine va_get (ci := 7) (v := .int 0) (C := RX7) (T := TX7) (N := 6) hx hb htA in_X7 hown hK hP 0 rfl rfl 2 (by decide) (htA _ wd_141) (fun _ h => h) rfl dX7_append_34 ?_
  refine lv_iconst (v := 1) hx hb dX7_append_37 (by decide) ?_
  refine lv_iadd hx hb dX7_append_38 ?_
  refine lv_topi (fun x1 ex1 => ?_)
  obtain rfl : x1 = 1 := ex1.trans (by decide)
  refine va_put (ci := 7) (v := .int 1) (ty := .int) (C := RX7) (T := TX7) (N := 6) hx hb htA in_X7 tyX7 tyX7_ok nmX7 hown hK hP hD hS 0 rfl rfl 2 (by decide) (htA _ wd_141) (fun _ h => h) rfl (by decide +kernel) rfl rfl (Nat.le_of_ble_eq_true rfl) dX7_append_39 (fun H locs hP hD hS => ?_)
  have hP : va_P D vwCl [((a 36), .inr (7, [.ref (a 37), .ref (a 38), .int 1, .int 0, .int 0, .int 0])), ((a 37), .inl (cy 0, 901, .inl (fun _ => 0))), ((a 38), .inl (cy 0, 901, .inl (fun _ => 0)))] H := hP
  have hD : va_D A [((a 36), .inr (7, [.ref (a 37), .ref (a 38), .int 1, .int 0, .int 0, .int 0])), ((a 37), .inl (cy 0, 901, .inl (fun _ => 0))), ((a 38), .inl (cy 0, 901, .inl (fun _ => 0)))] := hD
  exact rV hX hE hP hD hS dX7_append_42 (by decide) (by decide) (rfl)
set_option maxHeartbeats 4000000 in
set_option maxRecDepth 100000 in
theorem au_X7_scan_65 (l : Launch) (D : va_G) (cy : Nat → ClassId) (a : Nat → Nat) : Cv l yX7_scan cX7_scan 8 none { frames := 1, cells := 0, slots := 0, locals := 22 } D cy [.ref (a 36), .ref (a 1), .int 0] [((a 36), .inr (7, [.ref (a 37), .ref (a 38), .int 0, .int 0, .int 0, .int 0])), ((a 37), .inl (cy 0, 901, .inl (fun _ => 0))), ((a 38), .inl (cy 0, 901, .inl (fun _ => 0)))] (fun W1 => (W1 = [((a 36), .inr (7, [.ref (a 37), .ref (a 38), .int 1, .int 0, .int 0, .int 0])), ((a 37), .inl (cy 0, 901, .inl (fun _ => 0))), ((a 38), .inl (cy 0, 901, .inl (fun _ => 0)))])) := by
  refine Cv.of (by decide) (Nat.le_of_ble_eq_true rfl) ?_
  intro p e s m below meth c A ls hX hE hP hD hl hin
  obtain ⟨hx, hb, hr, hml, hown, htA, hlk⟩ := id hX
  have hK := hE.1
  have hS : va_S A s.heap s.heap [] := va_S.rf
  have hl : lv_has ls 8 [(0, .ref (a 36)), (1, .ref (a 1)), (2, .int 0)] := hl
  refine lv_aload_n hx hb dX7_scan_0 rfl (lv_at hl 0 rfl) ?_
  refine lv_iconst (v := 0) hx hb dX7_scan_1 (by decide) ?_
  refine va_put (ci := 7) (v := .int 0) (ty := .int) (C := RX7) (T := TX7) (N := 6) hx hb htA in_X7 tyX7 tyX7_ok nmX7 hown hK hP hD hS 0 rfl rfl 2 (by decide) (htA _ wd_141) (fun _ h => h) rfl (by decide +kernel) rfl rfl (Nat.le_of_ble_eq_true rfl) dX7_scan_2 (fun H locs hP hD hS => ?_)
  have hP : va_P D vwCl [((a 36), .inr (7, [.ref (a 37), .ref (a 38), .int 0, .int 0, .int 0, .int 0])), ((a 37), .inl (cy 0, 901, .inl (fun _ => 0))), ((a 38), .inl (cy 0, 901, .inl (fun _ => 0)))] H := hP
  have hD : va_D A [((a 36), .inr (7, [.ref (a 37), .ref (a 38), .int 0, .int 0, .int 0, .int 0])), ((a 37), .inl (cy 0, 901, .inl (fun _ => 0))), ((a 38), .inl (cy 0, 901, .inl (fun _ => 0)))] := hD
  refine lv_iconst (v := 0) hx hb dX7_scan_5 (by decide) ?_
  refine lv_istore_n (lv' := [(3, .int 0), (0, .ref (a 36)), (1, .ref (a 1)), (2, .int 0)]) hx hb dX7_scan_6 rfl hl (by decide) rfl (fun ls hl => ?_)
  refine lv_iconst (v := (-1)) hx hb dX7_scan_7 (by decide) ?_
  refine lv_istore (lv' := [(4, .int (-1)), (3, .int 0), (0, .ref (a 36)), (1, .ref (a 1)), (2, .int 0)]) hx hb dX7_scan_8 hl (by decide) rfl (fun ls hl => ?_)
  refine lv_iconst (v := 0) hx hb dX7_scan_10 (by decide) ?_
  refine lv_istore (lv' := [(5, .int 0), (4, .int (-1)), (3, .int 0), (0, .ref (a 36)), (1, .ref (a 1)), (2, .int 0)]) hx hb dX7_scan_11 hl (by decide) rfl (fun ls hl => ?_)
  refine lv_iload hx hb dX7_scan_13 (lv_at hl 0 rfl) ?_
  refine lv_iload_n hx hb dX7_scan_15 rfl (lv_at hl 5 rfl) ?_
  refine lv_icmp_ge (tgt := 187) hx hb dX7_scan_16 (by decide) (fun _ => ?_) (fun q => absurd (by decide) q)
  refine lv_iload hx hb dX7_scan_187 (lv_at hl 1 rfl) ?_
  refine lv_iconst (v := 1) hx hb dX7_scan_189 (by decide) ?_
  refine lv_icmp_eq (tgt := 199) hx hb dX7_scan_190 (by decide) (fun q => absurd q (by decide)) (fun _ => ?_)
  refine lv_aload_n hx hb dX7_scan_193 rfl (lv_at hl 3 rfl) ?_
  refine lv_iconst (v := 0) hx hb dX7_scan_194 (by decide) ?_
  refine lv_iload_n hx hb dX7_scan_195 rfl (lv_at hl 5 rfl) ?_
  refine kVv (As := [.int 0, .int 0]) (rest := []) (wr := []) hX hE (au_X7_append_64 l D cy a) (cwVA 2 htA wd_733 wd_730 wd_5 wd_732 wp_5 (by decide +kernel) ⟨by decide, by decide⟩) hP hD hS [0, 1, 2] [] rfl rfl (by decide) 0 rfl rfl rfl rfl hl.1 rfl (Nat.le_of_ble_eq_true rfl) dX7_scan_196 (by decide) (fun W1 H locs hw hP hD hS => ?_)
  refine W.widen (k := 0) (n := 0) (by decide) (by decide) ?_
  obtain rfl := hw
  have hP : va_P D vwCl [((a 36), .inr (7, [.ref (a 37), .ref (a 38), .int 1, .int 0, .int 0, .int 0])), ((a 37), .inl (cy 0, 901, .inl (fun _ => 0))), ((a 38), .inl (cy 0, 901, .inl (fun _ => 0)))] H := hP
  have hD : va_D A [((a 36), .inr (7, [.ref (a 37), .ref (a 38), .int 1, .int 0, .int 0, .int 0])), ((a 37), .inl (cy 0, 901, .inl (fun _ => 0))), ((a 38), .inl (cy 0, 901, .inl (fun _ => 0)))] := hD
  refine lv_aload_n hx hb dX7_scan_199 rfl (lv_at hl 3 rfl) ?_
  refine lv_iconst (v := 0) hx hb dX7_scan_200 (by decide) ?_
  refine va_put (ci := 7) (v := .int 0) (ty := .int) (C := RX7) (T := TX7) (N := 6) hx hb htA in_X7 tyX7 tyX7_ok nmX7 hown hK hP hD hS 0 rfl rfl 3 (by decide) (htA _ wd_142) (fun _ h => h) rfl (by decide +kernel) rfl rfl (Nat.le_of_ble_eq_true rfl) dX7_scan_201 (fun H locs hP hD hS => ?_)
  have hP : va_P D vwCl [((a 36), .inr (7, [.ref (a 37), .ref (a 38), .int 1, .int 0, .int 0, .int 0])), ((a 37), .inl (cy 0, 901, .inl (fun _ => 0))), ((a 38), .inl (cy 0, 901, .inl (fun _ => 0)))] H := hP
  have hD : va_D A [((a 36), .inr (7, [.ref (a 37), .ref (a 38), .int 1, .int 0, .int 0, .int 0])), ((a 37), .inl (cy 0, 901, .inl (fun _ => 0))), ((a 38), .inl (cy 0, 901, .inl (fun _ => 0)))] := hD
  refine lv_aload_n hx hb dX7_scan_204 rfl (lv_at hl 3 rfl) ?_
  refine lv_aload_n hx hb dX7_scan_205 rfl (lv_at hl 3 rfl) ?_
  refine va_get (ci := 7) (v := .ref (a 37)) (C := RX7) (T := TX7) (N := 6) hx hb htA in_X7 hown hK hP 0 rfl rfl 0 (by decide) (htA _ wd_139) (fun _ h => h) rfl dX7_scan_206 ?_
  refine lv_iconst (v := 0) hx hb dX7_scan_209 (by decide) ?_
  refine va_iald hx hb hK hP 1 0 rfl rfl (in_lit (by decide)) dX7_scan_210 ?_
  refine lv_topi (fun x1 ex1 => ?_)
  obtain rfl : x1 = 0 := ex1
  refine va_put (ci := 7) (v := .int 0) (ty := .int) (C := RX7) (T := TX7) (N := 6) hx hb htA in_X7 tyX7 tyX7_ok nmX7 hown hK hP hD hS 0 rfl rfl 4 (by decide) (htA _ wd_144) (fun _ h => h) rfl (by decide +kernel) rfl rfl (Nat.le_of_ble_eq_true rfl) dX7_scan_211 (fun H locs hP hD hS => ?_)
  have hP : va_P D vwCl [((a 36), .inr (7, [.ref (a 37), .ref (a 38), .int 1, .int 0, .int 0, .int 0])), ((a 37), .inl (cy 0, 901, .inl (fun _ => 0))), ((a 38), .inl (cy 0, 901, .inl (fun _ => 0)))] H := hP
  have hD : va_D A [((a 36), .inr (7, [.ref (a 37), .ref (a 38), .int 1, .int 0, .int 0, .int 0])), ((a 37), .inl (cy 0, 901, .inl (fun _ => 0))), ((a 38), .inl (cy 0, 901, .inl (fun _ => 0)))] := hD
  refine lv_aload_n hx hb dX7_scan_214 rfl (lv_at hl 3 rfl) ?_
  refine lv_aload_n hx hb dX7_scan_215 rfl (lv_at hl 3 rfl) ?_
  refine va_get (ci := 7) (v := .ref (a 38)) (C := RX7) (T := TX7) (N := 6) hx hb htA in_X7 hown hK hP 0 rfl rfl 1 (by decide) (htA _ wd_140) (fun _ h => h) rfl dX7_scan_216 ?_
  refine lv_iconst (v := 0) hx hb dX7_scan_219 (by decide) ?_
  refine va_iald hx hb hK hP 2 0 rfl rfl (in_lit (by decide)) dX7_scan_220 ?_
  refine lv_topi (fun x2 ex2 => ?_)
  obtain rfl : x2 = 0 := ex2
  refine va_put (ci := 7) (v := .int 0) (ty := .int) (C := RX7) (T := TX7) (N := 6) hx hb htA in_X7 tyX7 tyX7_ok nmX7 hown hK hP hD hS 0 rfl rfl 5 (by decide) (htA _ wd_145) (fun _ h => h) rfl (by decide +kernel) rfl rfl (Nat.le_of_ble_eq_true rfl) dX7_scan_221 (fun H locs hP hD hS => ?_)
  have hP : va_P D vwCl [((a 36), .inr (7, [.ref (a 37), .ref (a 38), .int 1, .int 0, .int 0, .int 0])), ((a 37), .inl (cy 0, 901, .inl (fun _ => 0))), ((a 38), .inl (cy 0, 901, .inl (fun _ => 0)))] H := hP
  have hD : va_D A [((a 36), .inr (7, [.ref (a 37), .ref (a 38), .int 1, .int 0, .int 0, .int 0])), ((a 37), .inl (cy 0, 901, .inl (fun _ => 0))), ((a 38), .inl (cy 0, 901, .inl (fun _ => 0)))] := hD
  exact rV hX hE hP hD hS dX7_scan_224 (by decide) (by decide) (rfl)
set_option maxHeartbeats 4000000 in
set_option maxRecDepth 100000 in
theorem au_X7_stop_66 (l : Launch) (D : va_G) (cy : Nat → ClassId) (a : Nat → Nat) : Cv l yX7_stop cX7_stop 1 none { frames := 0, cells := 0, slots := 0, locals := 0 } D cy [.ref (a 36)] [((a 36), .inr (7, [.ref (a 37), .ref (a 38), .int 1, .int 0, .int 0, .int 0]))] (fun W1 => (W1 = [((a 36), .inr (7, [.ref (a 37), .ref (a 38), .int 0, .int 0, .int 1, .int 0]))])) := by
  refine Cv.of (by decide) (Nat.le_of_ble_eq_true rfl) ?_
  intro p e s m below meth c A ls hX hE hP hD hl hin
  obtain ⟨hx, hb, hr, hml, hown, htA, hlk⟩ := id hX
  have hK := hE.1
  have hS : va_S A s.heap s.heap [] := va_S.rf
  have hl : lv_has ls 1 [(0, .ref (a 36))] := hl
  refine lv_aload_n hx hb dX7_stop_0 rfl (lv_at hl 0 rfl) ?_
  refine lv_iconst (v := 0) hx hb dX7_stop_1 (by decide) ?_
  refine va_put (ci := 7) (v := .int 0) (ty := .int) (C := RX7) (T := TX7) (N := 6) hx hb htA in_X7 tyX7 tyX7_ok nmX7 hown hK hP hD hS 0 rfl rfl 2 (by decide) (htA _ wd_141) (fun _ h => h) rfl (by decide +kernel) rfl rfl (Nat.le_of_ble_eq_true rfl) dX7_stop_2 (fun H locs hP hD hS => ?_)
  have hP : va_P D vwCl [((a 36), .inr (7, [.ref (a 37), .ref (a 38), .int 0, .int 0, .int 0, .int 0]))] H := hP
  have hD : va_D A [((a 36), .inr (7, [.ref (a 37), .ref (a 38), .int 0, .int 0, .int 0, .int 0]))] := hD
  refine lv_aload_n hx hb dX7_stop_5 rfl (lv_at hl 0 rfl) ?_
  refine lv_iconst (v := 1) hx hb dX7_stop_6 (by decide) ?_
  refine va_put (ci := 7) (v := .int 1) (ty := .int) (C := RX7) (T := TX7) (N := 6) hx hb htA in_X7 tyX7 tyX7_ok nmX7 hown hK hP hD hS 0 rfl rfl 4 (by decide) (htA _ wd_144) (fun _ h => h) rfl (by decide +kernel) rfl rfl (Nat.le_of_ble_eq_true rfl) dX7_stop_7 (fun H locs hP hD hS => ?_)
  have hP : va_P D vwCl [((a 36), .inr (7, [.ref (a 37), .ref (a 38), .int 0, .int 0, .int 1, .int 0]))] H := hP
  have hD : va_D A [((a 36), .inr (7, [.ref (a 37), .ref (a 38), .int 0, .int 0, .int 1, .int 0]))] := hD
  exact rV hX hE hP hD hS dX7_stop_10 (by decide) (by decide) (rfl)
set_option maxHeartbeats 4000000 in
set_option maxRecDepth 100000 in
theorem au_X5_refuse_67 (l : Launch) (D : va_G) (cy : Nat → ClassId) (a : Nat → Nat) (n1_ : Nat) : Cv l yX5_refuse cX5_refuse 2 none { frames := 1, cells := 0, slots := 0, locals := 20 } D cy [.ref (a 2), .int 2] [((a 2), .inr (5, [.ref (a 30), .int 0, .int (-1), .ref n1_, .ref (a 36), .ref (a 39), .int 0, .int 0])), ((a 36), .inr (7, [.ref (a 37), .ref (a 38), .int 1, .int 0, .int 0, .int 0]))] (fun W1 => (W1 = [((a 2), .inr (5, [.ref (a 30), .int 2, .int 0, .ref n1_, .ref (a 36), .ref (a 39), .int 0, .int 0])), ((a 36), .inr (7, [.ref (a 37), .ref (a 38), .int 0, .int 0, .int 1, .int 0]))])) := by
  refine Cv.of (by decide) (Nat.le_of_ble_eq_true rfl) ?_
  intro p e s m below meth c A ls hX hE hP hD hl hin
  obtain ⟨hx, hb, hr, hml, hown, htA, hlk⟩ := id hX
  have hK := hE.1
  have hS : va_S A s.heap s.heap [] := va_S.rf
  have hl : lv_has ls 2 [(0, .ref (a 2)), (1, .int 2)] := hl
  refine lv_aload_n hx hb dX5_refuse_0 rfl (lv_at hl 0 rfl) ?_
  refine va_get (ci := 5) (v := .int 0) (C := RX5) (T := TX5) (N := 8) hx hb htA in_X5 hown hK hP 0 rfl rfl 1 (by decide) (htA _ wd_211) (fun _ h => h) rfl dX5_refuse_1 ?_
  refine lv_if_ne (tgt := 45) hx hb dX5_refuse_4 (by decide) (fun q => absurd rfl q) (fun _ => ?_)
  refine lv_aload_n hx hb dX5_refuse_7 rfl (lv_at hl 0 rfl) ?_
  refine lv_aload_n hx hb dX5_refuse_8 rfl (lv_at hl 0 rfl) ?_
  refine va_get (ci := 5) (v := .ref (a 36)) (C := RX5) (T := TX5) (N := 8) hx hb htA in_X5 hown hK hP 0 rfl rfl 4 (by decide) (htA _ wd_216) (fun _ h => h) rfl dX5_refuse_9 ?_
  refine va_get (ci := 7) (v := .int 0) (C := RX7) (T := TX7) (N := 6) hx hb htA in_X7 hown hK hP 1 rfl rfl 4 (by decide) (htA _ wd_143) (fun _ h => h) rfl dX5_refuse_12 ?_
  refine lv_iconst (v := 1) hx hb dX5_refuse_15 (by decide) ?_
  refine lv_icmp_ne (tgt := 23) hx hb dX5_refuse_16 (by decide) (fun _ => ?_) (fun q => absurd q (by decide))
  refine lv_iload_n hx hb dX5_refuse_23 rfl (lv_at hl 1 rfl) ?_
  refine va_put (ci := 5) (v := .int 2) (ty := .int) (C := RX5) (T := TX5) (N := 8) hx hb htA in_X5 tyX5 tyX5_ok nmX5 hown hK hP hD hS 0 rfl rfl 1 (by decide) (htA _ wd_211) (fun _ h => h) rfl (by decide +kernel) rfl rfl (Nat.le_of_ble_eq_true rfl) dX5_refuse_24 (fun H locs hP hD hS => ?_)
  have hP : va_P D vwCl [((a 2), .inr (5, [.ref (a 30), .int 2, .int (-1), .ref n1_, .ref (a 36), .ref (a 39), .int 0, .int 0])), ((a 36), .inr (7, [.ref (a 37), .ref (a 38), .int 1, .int 0, .int 0, .int 0]))] H := hP
  have hD : va_D A [((a 2), .inr (5, [.ref (a 30), .int 2, .int (-1), .ref n1_, .ref (a 36), .ref (a 39), .int 0, .int 0])), ((a 36), .inr (7, [.ref (a 37), .ref (a 38), .int 1, .int 0, .int 0, .int 0]))] := hD
  refine lv_aload_n hx hb dX5_refuse_27 rfl (lv_at hl 0 rfl) ?_
  refine lv_aload_n hx hb dX5_refuse_28 rfl (lv_at hl 0 rfl) ?_
  refine va_get (ci := 5) (v := .ref (a 36)) (C := RX5) (T := TX5) (N := 8) hx hb htA in_X5 hown hK hP 0 rfl rfl 4 (by decide) (htA _ wd_216) (fun _ h => h) rfl dX5_refuse_29 ?_
  refine va_get (ci := 7) (v := .int 0) (C := RX7) (T := TX7) (N := 6) hx hb htA in_X7 hown hK hP 1 rfl rfl 5 (by decide) (htA _ wd_146) (fun _ h => h) rfl dX5_refuse_32 ?_
  refine va_put (ci := 5) (v := .int 0) (ty := .int) (C := RX5) (T := TX5) (N := 8) hx hb htA in_X5 tyX5 tyX5_ok nmX5 hown hK hP hD hS 0 rfl rfl 2 (by decide) (htA _ wd_213) (fun _ h => h) rfl (by decide +kernel) rfl rfl (Nat.le_of_ble_eq_true rfl) dX5_refuse_35 (fun H locs hP hD hS => ?_)
  have hP : va_P D vwCl [((a 2), .inr (5, [.ref (a 30), .int 2, .int 0, .ref n1_, .ref (a 36), .ref (a 39), .int 0, .int 0])), ((a 36), .inr (7, [.ref (a 37), .ref (a 38), .int 1, .int 0, .int 0, .int 0]))] H := hP
  have hD : va_D A [((a 2), .inr (5, [.ref (a 30), .int 2, .int 0, .ref n1_, .ref (a 36), .ref (a 39), .int 0, .int 0])), ((a 36), .inr (7, [.ref (a 37), .ref (a 38), .int 1, .int 0, .int 0, .int 0]))] := hD
  refine lv_aload_n hx hb dX5_refuse_38 rfl (lv_at hl 0 rfl) ?_
  refine va_get (ci := 5) (v := .ref (a 36)) (C := RX5) (T := TX5) (N := 8) hx hb htA in_X5 hown hK hP 0 rfl rfl 4 (by decide) (htA _ wd_216) (fun _ h => h) rfl dX5_refuse_39 ?_
  refine kVv (As := []) (rest := []) (wr := [((a 2), .inr (5, [.ref (a 30), .int 2, .int 0, .ref n1_, .ref (a 36), .ref (a 39), .int 0, .int 0]))]) hX hE (au_X7_stop_66 l D cy a) (cwVA 0 htA wd_753 wd_750 wd_5 wd_751 wd_752 (by decide +kernel) ⟨by decide, by decide⟩) hP hD hS [1] [0] rfl rfl (by decide) 0 rfl rfl rfl rfl hl.1 rfl (Nat.le_of_ble_eq_true rfl) dX5_refuse_42 (by decide) (fun W1 H locs hw hP hD hS => ?_)
  refine W.widen (k := 0) (n := 0) (by decide) (by decide) ?_
  obtain rfl := hw
  have hP : va_P D vwCl [((a 2), .inr (5, [.ref (a 30), .int 2, .int 0, .ref n1_, .ref (a 36), .ref (a 39), .int 0, .int 0])), ((a 36), .inr (7, [.ref (a 37), .ref (a 38), .int 0, .int 0, .int 1, .int 0]))] H := hP
  have hD : va_D A [((a 2), .inr (5, [.ref (a 30), .int 2, .int 0, .ref n1_, .ref (a 36), .ref (a 39), .int 0, .int 0])), ((a 36), .inr (7, [.ref (a 37), .ref (a 38), .int 0, .int 0, .int 1, .int 0]))] := hD
  exact rV hX hE hP hD hS dX5_refuse_45 (by decide) (by decide) (rfl)
set_option maxHeartbeats 4000000 in
set_option maxRecDepth 100000 in
theorem au_X5_expect_68 (l : Launch) (D : va_G) (cy : Nat → ClassId) (a : Nat → Nat) (n1_ : Nat) : Cv l yX5_expect cX5_expect 2 none { frames := 2, cells := 0, slots := 0, locals := 41 } D cy [.ref (a 2), .int 200] [((a 2), .inr (5, [.ref (a 30), .int 0, .int (-1), .ref n1_, .ref (a 36), .ref (a 39), .int 0, .int 0])), ((a 36), .inr (7, [.ref (a 37), .ref (a 38), .int 1, .int 0, .int 0, .int 0]))] (fun W1 => (W1 = [((a 2), .inr (5, [.ref (a 30), .int 2, .int 0, .ref n1_, .ref (a 36), .ref (a 39), .int 0, .int 0])), ((a 36), .inr (7, [.ref (a 37), .ref (a 38), .int 0, .int 0, .int 1, .int 0]))])) := by
  refine Cv.of (by decide) (Nat.le_of_ble_eq_true rfl) ?_
  intro p e s m below meth c A ls hX hE hP hD hl hin
  obtain ⟨hx, hb, hr, hml, hown, htA, hlk⟩ := id hX
  have hK := hE.1
  have hS : va_S A s.heap s.heap [] := va_S.rf
  have hl : lv_has ls 2 [(0, .ref (a 2)), (1, .int 200)] := hl
  refine lv_aload_n hx hb dX5_expect_0 rfl (lv_at hl 0 rfl) ?_
  refine va_get (ci := 5) (v := .ref (a 36)) (C := RX5) (T := TX5) (N := 8) hx hb htA in_X5 hown hK hP 0 rfl rfl 4 (by decide) (htA _ wd_216) (fun _ h => h) rfl dX5_expect_1 ?_
  refine va_get (ci := 7) (v := .int 0) (C := RX7) (T := TX7) (N := 6) hx hb htA in_X7 hown hK hP 1 rfl rfl 4 (by decide) (htA _ wd_143) (fun _ h => h) rfl dX5_expect_4 ?_
  refine lv_iload_n hx hb dX5_expect_7 rfl (lv_at hl 1 rfl) ?_
  refine lv_icmp_ne (tgt := 21) hx hb dX5_expect_8 (by decide) (fun _ => ?_) (fun q => absurd q (by decide))
  refine lv_aload_n hx hb dX5_expect_21 rfl (lv_at hl 0 rfl) ?_
  refine lv_iconst (v := 2) hx hb dX5_expect_22 (by decide) ?_
  refine kVv (As := [.int 2]) (rest := []) (wr := []) hX hE (au_X5_refuse_67 l D cy a n1_) (cwVA 1 htA wd_749 wd_746 wd_4 wd_748 wp_8 (by decide +kernel) ⟨by decide, by decide⟩) hP hD hS [0, 1] [] rfl rfl (by decide) 0 rfl rfl rfl rfl hl.1 rfl (Nat.le_of_ble_eq_true rfl) dX5_expect_23 (by decide) (fun W1 H locs hw hP hD hS => ?_)
  refine W.widen (k := 0) (n := 0) (by decide) (by decide) ?_
  obtain rfl := hw
  have hP : va_P D vwCl [((a 2), .inr (5, [.ref (a 30), .int 2, .int 0, .ref n1_, .ref (a 36), .ref (a 39), .int 0, .int 0])), ((a 36), .inr (7, [.ref (a 37), .ref (a 38), .int 0, .int 0, .int 1, .int 0]))] H := hP
  have hD : va_D A [((a 2), .inr (5, [.ref (a 30), .int 2, .int 0, .ref n1_, .ref (a 36), .ref (a 39), .int 0, .int 0])), ((a 36), .inr (7, [.ref (a 37), .ref (a 38), .int 0, .int 0, .int 1, .int 0]))] := hD
  exact rV hX hE hP hD hS dX5_expect_26 (by decide) (by decide) (rfl)
set_option maxHeartbeats 4000000 in
set_option maxRecDepth 100000 in
theorem au_X7_isNumber_69 (l : Launch) (D : va_G) (cy : Nat → ClassId) (a : Nat → Nat) : Ci l yX7_isNumber cX7_isNumber 1 (some .boolean) { frames := 0, cells := 0, slots := 0, locals := 0 } D cy [.ref (a 36)] [((a 36), .inr (7, [.ref (a 37), .ref (a 38), .int 0, .int 0, .int 1, .int 0]))] (fun r W1 => (W1 = [((a 36), .inr (7, [.ref (a 37), .ref (a 38), .int 0, .int 0, .int 1, .int 0]))] ∧ r = 0)) := by
  refine Ci.of (by decide) (Nat.le_of_ble_eq_true rfl) ?_
  intro p e s m below meth c A ls hX hE hP hD hl
  obtain ⟨hx, hb, hr, hml, hown, htA, hlk⟩ := id hX
  have hK := hE.1
  have hS : va_S A s.heap s.heap [] := va_S.rf
  have hl : lv_has ls 1 [(0, .ref (a 36))] := hl
  refine lv_aload_n hx hb dX7_isNumber_0 rfl (lv_at hl 0 rfl) ?_
  refine va_get (ci := 7) (v := .int 1) (C := RX7) (T := TX7) (N := 6) hx hb htA in_X7 hown hK hP 0 rfl rfl 4 (by decide) (htA _ wd_144) (fun _ h => h) rfl dX7_isNumber_1 ?_
  refine lv_sipush (v := 1000) hx hb dX7_isNumber_4 (by decide) ?_
  refine lv_icmp_lt (tgt := 14) hx hb dX7_isNumber_7 (by decide) (fun _ => ?_) (fun q => absurd (by decide) q)
  refine lv_iconst (v := 0) hx hb dX7_isNumber_14 (by decide) ?_
  exact rZ hX (by decide) hE hP hD hS dX7_isNumber_15 (by decide) (by decide) (⟨rfl, rfl⟩)
set_option maxHeartbeats 4000000 in
set_option maxRecDepth 100000 in
theorem au_X5_refuse_70 (l : Launch) (D : va_G) (cy : Nat → ClassId) (a : Nat → Nat) (n1_ : Nat) : Cv l yX5_refuse cX5_refuse 2 none { frames := 0, cells := 0, slots := 0, locals := 0 } D cy [.ref (a 2), .int 2] [((a 2), .inr (5, [.ref (a 30), .int 2, .int 0, .ref n1_, .ref (a 36), .ref (a 39), .int 0, .int 0]))] (fun W1 => (W1 = [((a 2), .inr (5, [.ref (a 30), .int 2, .int 0, .ref n1_, .ref (a 36), .ref (a 39), .int 0, .int 0]))])) := by
  refine Cv.of (by decide) (Nat.le_of_ble_eq_true rfl) ?_
  intro p e s m below meth c A ls hX hE hP hD hl hin
  obtain ⟨hx, hb, hr, hml, hown, htA, hlk⟩ := id hX
  have hK := hE.1
  have hS : va_S A s.heap s.heap [] := va_S.rf
  have hl : lv_has ls 2 [(0, .ref (a 2)), (1, .int 2)] := hl
  refine lv_aload_n hx hb dX5_refuse_0 rfl (lv_at hl 0 rfl) ?_
  refine va_get (ci := 5) (v := .int 2) (C := RX5) (T := TX5) (N := 8) hx hb htA in_X5 hown hK hP 0 rfl rfl 1 (by decide) (htA _ wd_211) (fun _ h => h) rfl dX5_refuse_1 ?_
  refine lv_if_ne (tgt := 45) hx hb dX5_refuse_4 (by decide) (fun _ => ?_) (fun q => absurd q (by decide))
  exact rV hX hE hP hD hS dX5_refuse_45 (by decide) (by decide) (rfl)
set_option maxHeartbeats 4000000 in
set_option maxRecDepth 100000 in
theorem au_X5_number_71 (l : Launch) (D : va_G) (cy : Nat → ClassId) (a : Nat → Nat) (n1_ : Nat) : Ci l yX5_number cX5_number 4 (some .int) { frames := 1, cells := 0, slots := 0, locals := 21 } D cy [.ref (a 2), .int 1, .int 6] [((a 2), .inr (5, [.ref (a 30), .int 2, .int 0, .ref n1_, .ref (a 36), .ref (a 39), .int 0, .int 0])), ((a 36), .inr (7, [.ref (a 37), .ref (a 38), .int 0, .int 0, .int 1, .int 0]))] (fun r W1 => (W1 = [((a 36), .inr (7, [.ref (a 37), .ref (a 38), .int 0, .int 0, .int 1, .int 0])), ((a 2), .inr (5, [.ref (a 30), .int 2, .int 0, .ref n1_, .ref (a 36), .ref (a 39), .int 0, .int 0]))] ∧ r = 1)) := by
  refine Ci.of (by decide) (Nat.le_of_ble_eq_true rfl) ?_
  intro p e s m below meth c A ls hX hE hP hD hl
  obtain ⟨hx, hb, hr, hml, hown, htA, hlk⟩ := id hX
  have hK := hE.1
  have hS : va_S A s.heap s.heap [] := va_S.rf
  have hl : lv_has ls 4 [(0, .ref (a 2)), (1, .int 1), (2, .int 6)] := hl
  refine lv_aload_n hx hb dX5_number_0 rfl (lv_at hl 0 rfl) ?_
  refine va_get (ci := 5) (v := .ref (a 36)) (C := RX5) (T := TX5) (N := 8) hx hb htA in_X5 hown hK hP 0 rfl rfl 4 (by decide) (htA _ wd_216) (fun _ h => h) rfl dX5_number_1 ?_
  refine kVi (As := []) (rest := []) (wr := [((a 2), .inr (5, [.ref (a 30), .int 2, .int 0, .ref n1_, .ref (a 36), .ref (a 39), .int 0, .int 0]))]) hX hE (au_X7_isNumber_69 l D cy a) (cwVA 0 htA wd_761 wd_758 wd_5 wd_759 wd_760 (by decide +kernel) ⟨by decide, by decide⟩) hP hD hS [1] [0] rfl rfl (by decide) 0 rfl rfl rfl rfl hl.1 rfl (Nat.le_of_ble_eq_true rfl) dX5_number_4 (by decide) (fun r_ W1 H locs hw hP hD hS => ?_)
  refine W.widen (k := 0) (n := 0) (by decide) (by decide) ?_
  obtain ⟨rfl, rfl⟩ := hw
  have hP : va_P D vwCl [((a 2), .inr (5, [.ref (a 30), .int 2, .int 0, .ref n1_, .ref (a 36), .ref (a 39), .int 0, .int 0])), ((a 36), .inr (7, [.ref (a 37), .ref (a 38), .int 0, .int 0, .int 1, .int 0]))] H := hP
  have hD : va_D A [((a 2), .inr (5, [.ref (a 30), .int 2, .int 0, .ref n1_, .ref (a 36), .ref (a 39), .int 0, .int 0])), ((a 36), .inr (7, [.ref (a 37), .ref (a 38), .int 0, .int 0, .int 1, .int 0]))] := hD
  refine lv_if_ne (tgt := 17) hx hb dX5_number_7 (by decide) (fun q => absurd rfl q) (fun _ => ?_)
  refine lv_aload_n hx hb dX5_number_10 rfl (lv_at hl 0 rfl) ?_
  refine lv_iconst (v := 2) hx hb dX5_number_11 (by decide) ?_
  refine kVv (As := [.int 2]) (rest := []) (wr := [((a 36), .inr (7, [.ref (a 37), .ref (a 38), .int 0, .int 0, .int 1, .int 0]))]) hX hE (au_X5_refuse_70 l D cy a n1_) (cwVA 1 htA wd_749 wd_746 wd_4 wd_748 wp_8 (by decide +kernel) ⟨by decide, by decide⟩) hP hD hS [0] [1] rfl rfl (by decide) 0 rfl rfl rfl rfl hl.1 rfl (Nat.le_of_ble_eq_true rfl) dX5_number_12 (by decide) (fun W1 H locs hw hP hD hS => ?_)
  refine W.widen (k := 0) (n := 0) (by decide) (by decide) ?_
  obtain rfl := hw
  have hP : va_P D vwCl [((a 36), .inr (7, [.ref (a 37), .ref (a 38), .int 0, .int 0, .int 1, .int 0])), ((a 2), .inr (5, [.ref (a 30), .int 2, .int 0, .ref n1_, .ref (a 36), .ref (a 39), .int 0, .int 0]))] H := hP
  have hD : va_D A [((a 36), .inr (7, [.ref (a 37), .ref (a 38), .int 0, .int 0, .int 1, .int 0])), ((a 2), .inr (5, [.ref (a 30), .int 2, .int 0, .ref n1_, .ref (a 36), .ref (a 39), .int 0, .int 0]))] := hD
  refine lv_iload_n hx hb dX5_number_15 rfl (lv_at hl 1 rfl) ?_
  exact rI hX hE hP hD hS dX5_number_16 (by decide) (by decide) (⟨rfl, rfl⟩)
set_option maxHeartbeats 4000000 in
set_option maxRecDepth 100000 in
theorem au_X7_advance_72 (l : Launch) (D : va_G) (cy : Nat → ClassId) (a : Nat → Nat) : Cv l yX7_advance cX7_advance 1 none { frames := 0, cells := 0, slots := 0, locals := 0 } D cy [.ref (a 36)] [((a 36), .inr (7, [.ref (a 37), .ref (a 38), .int 0, .int 0, .int 1, .int 0]))] (fun W1 => (W1 = [((a 36), .inr (7, [.ref (a 37), .ref (a 38), .int 0, .int 0, .int 1, .int 0]))])) := by
  refine Cv.of (by decide) (Nat.le_of_ble_eq_true rfl) ?_
  intro p e s m below meth c A ls hX hE hP hD hl hin
  obtain ⟨hx, hb, hr, hml, hown, htA, hlk⟩ := id hX
  have hK := hE.1
  have hS : va_S A s.heap s.heap [] := va_S.rf
  have hl : lv_has ls 1 [(0, .ref (a 36))] := hl
  refine lv_aload_n hx hb dX7_advance_0 rfl (lv_at hl 0 rfl) ?_
  refine va_get (ci := 7) (v := .int 0) (C := RX7) (T := TX7) (N := 6) hx hb htA in_X7 hown hK hP 0 rfl rfl 3 (by decide) (htA _ wd_142) (fun _ h => h) rfl dX7_advance_1 ?_
  refine lv_iconst (v := 1) hx hb dX7_advance_4 (by decide) ?_
  refine lv_iadd hx hb dX7_advance_5 ?_
  refine lv_topi (fun x1 ex1 => ?_)
  obtain rfl : x1 = 1 := ex1.trans (by decide)
  refine lv_aload_n hx hb dX7_advance_6 rfl (lv_at hl 0 rfl) ?_
  refine va_get (ci := 7) (v := .int 0) (C := RX7) (T := TX7) (N := 6) hx hb htA in_X7 hown hK hP 0 rfl rfl 2 (by decide) (htA _ wd_141) (fun _ h => h) rfl dX7_advance_7 ?_
  refine lv_icmp_ge (tgt := 49) hx hb dX7_advance_10 (by decide) (fun _ => ?_) (fun q => absurd (by decide) q)
  exact rV hX hE hP hD hS dX7_advance_49 (by decide) (by decide) (rfl)
set_option maxHeartbeats 4000000 in
set_option maxRecDepth 100000 in
theorem au_X5_number_73 (l : Launch) (D : va_G) (cy : Nat → ClassId) (a : Nat → Nat) (n1_ : Nat) : Ci l yX5_number cX5_number 4 (some .int) { frames := 1, cells := 0, slots := 0, locals := 21 } D cy [.ref (a 2), .int 1, .int 9] [((a 2), .inr (5, [.ref (a 30), .int 2, .int 0, .ref n1_, .ref (a 36), .ref (a 39), .int 0, .int 0])), ((a 36), .inr (7, [.ref (a 37), .ref (a 38), .int 0, .int 0, .int 1, .int 0]))] (fun r W1 => (W1 = [((a 36), .inr (7, [.ref (a 37), .ref (a 38), .int 0, .int 0, .int 1, .int 0])), ((a 2), .inr (5, [.ref (a 30), .int 2, .int 0, .ref n1_, .ref (a 36), .ref (a 39), .int 0, .int 0]))] ∧ r = 1)) := by
  refine Ci.of (by decide) (Nat.le_of_ble_eq_true rfl) ?_
  intro p e s m below meth c A ls hX hE hP hD hl
  obtain ⟨hx, hb, hr, hml, hown, htA, hlk⟩ := id hX
  have hK := hE.1
  have hS : va_S A s.heap s.heap [] := va_S.rf
  have hl : lv_has ls 4 [(0, .ref (a 2)), (1, .int 1), (2, .int 9)] := hl
  refine lv_aload_n hx hb dX5_number_0 rfl (lv_at hl 0 rfl) ?_
  refine va_get (ci := 5) (v := .ref (a 36)) (C := RX5) (T := TX5) (N := 8) hx hb htA in_X5 hown hK hP 0 rfl rfl 4 (by decide) (htA _ wd_216) (fun _ h => h) rfl dX5_number_1 ?_
  refine kVi (As := []) (rest := []) (wr := [((a 2), .inr (5, [.ref (a 30), .int 2, .int 0, .ref n1_, .ref (a 36), .ref (a 39), .int 0, .int 0]))]) hX hE (au_X7_isNumber_69 l D cy a) (cwVA 0 htA wd_761 wd_758 wd_5 wd_759 wd_760 (by decide +kernel) ⟨by decide, by decide⟩) hP hD hS [1] [0] rfl rfl (by decide) 0 rfl rfl rfl rfl hl.1 rfl (Nat.le_of_ble_eq_true rfl) dX5_number_4 (by decide) (fun r_ W1 H locs hw hP hD hS => ?_)
  refine W.widen (k := 0) (n := 0) (by decide) (by decide) ?_
  obtain ⟨rfl, rfl⟩ := hw
  have hP : va_P D vwCl [((a 2), .inr (5, [.ref (a 30), .int 2, .int 0, .ref n1_, .ref (a 36), .ref (a 39), .int 0, .int 0])), ((a 36), .inr (7, [.ref (a 37), .ref (a 38), .int 0, .int 0, .int 1, .int 0]))] H := hP
  have hD : va_D A [((a 2), .inr (5, [.ref (a 30), .int 2, .int 0, .ref n1_, .ref (a 36), .ref (a 39), .int 0, .int 0])), ((a 36), .inr (7, [.ref (a 37), .ref (a 38), .int 0, .int 0, .int 1, .int 0]))] := hD
  refine lv_if_ne (tgt := 17) hx hb dX5_number_7 (by decide) (fun q => absurd rfl q) (fun _ => ?_)
  refine lv_aload_n hx hb dX5_number_10 rfl (lv_at hl 0 rfl) ?_
  refine lv_iconst (v := 2) hx hb dX5_number_11 (by decide) ?_
  refine kVv (As := [.int 2]) (rest := []) (wr := [((a 36), .inr (7, [.ref (a 37), .ref (a 38), .int 0, .int 0, .int 1, .int 0]))]) hX hE (au_X5_refuse_70 l D cy a n1_) (cwVA 1 htA wd_749 wd_746 wd_4 wd_748 wp_8 (by decide +kernel) ⟨by decide, by decide⟩) hP hD hS [0] [1] rfl rfl (by decide) 0 rfl rfl rfl rfl hl.1 rfl (Nat.le_of_ble_eq_true rfl) dX5_number_12 (by decide) (fun W1 H locs hw hP hD hS => ?_)
  refine W.widen (k := 0) (n := 0) (by decide) (by decide) ?_
  obtain rfl := hw
  have hP : va_P D vwCl [((a 36), .inr (7, [.ref (a 37), .ref (a 38), .int 0, .int 0, .int 1, .int 0])), ((a 2), .inr (5, [.ref (a 30), .int 2, .int 0, .ref n1_, .ref (a 36), .ref (a 39), .int 0, .int 0]))] H := hP
  have hD : va_D A [((a 36), .inr (7, [.ref (a 37), .ref (a 38), .int 0, .int 0, .int 1, .int 0])), ((a 2), .inr (5, [.ref (a 30), .int 2, .int 0, .ref n1_, .ref (a 36), .ref (a 39), .int 0, .int 0]))] := hD
  refine lv_iload_n hx hb dX5_number_15 rfl (lv_at hl 1 rfl) ?_
  exact rI hX hE hP hD hS dX5_number_16 (by decide) (by decide) (⟨rfl, rfl⟩)
set_option maxHeartbeats 4000000 in
set_option maxRecDepth 100000 in
theorem au_X5_expect_74 (l : Launch) (D : va_G) (cy : Nat → ClassId) (a : Nat → Nat) (n1_ : Nat) : Cv l yX5_expect cX5_expect 2 none { frames := 1, cells := 0, slots := 0, locals := 21 } D cy [.ref (a 2), .int 59] [((a 2), .inr (5, [.ref (a 30), .int 2, .int 0, .ref n1_, .ref (a 36), .ref (a 39), .int 0, .int 0])), ((a 36), .inr (7, [.ref (a 37), .ref (a 38), .int 0, .int 0, .int 1, .int 0]))] (fun W1 => (W1 = [((a 36), .inr (7, [.ref (a 37), .ref (a 38), .int 0, .int 0, .int 1, .int 0])), ((a 2), .inr (5, [.ref (a 30), .int 2, .int 0, .ref n1_, .ref (a 36), .ref (a 39), .int 0, .int 0]))])) := by
  refine Cv.of (by decide) (Nat.le_of_ble_eq_true rfl) ?_
  intro p e s m below meth c A ls hX hE hP hD hl hin
  obtain ⟨hx, hb, hr, hml, hown, htA, hlk⟩ := id hX
  have hK := hE.1
  have hS : va_S A s.heap s.heap [] := va_S.rf
  have hl : lv_has ls 2 [(0, .ref (a 2)), (1, .int 59)] := hl
  refine lv_aload_n hx hb dX5_expect_0 rfl (lv_at hl 0 rfl) ?_
  refine va_get (ci := 5) (v := .ref (a 36)) (C := RX5) (T := TX5) (N := 8) hx hb htA in_X5 hown hK hP 0 rfl rfl 4 (by decide) (htA _ wd_216) (fun _ h => h) rfl dX5_expect_1 ?_
  refine va_get (ci := 7) (v := .int 1) (C := RX7) (T := TX7) (N := 6) hx hb htA in_X7 hown hK hP 1 rfl rfl 4 (by decide) (htA _ wd_143) (fun _ h => h) rfl dX5_expect_4 ?_
  refine lv_iload_n hx hb dX5_expect_7 rfl (lv_at hl 1 rfl) ?_
  refine lv_icmp_ne (tgt := 21) hx hb dX5_expect_8 (by decide) (fun _ => ?_) (fun q => absurd q (by decide))
  refine lv_aload_n hx hb dX5_expect_21 rfl (lv_at hl 0 rfl) ?_
  refine lv_iconst (v := 2) hx hb dX5_expect_22 (by decide) ?_
  refine kVv (As := [.int 2]) (rest := []) (wr := [((a 36), .inr (7, [.ref (a 37), .ref (a 38), .int 0, .int 0, .int 1, .int 0]))]) hX hE (au_X5_refuse_70 l D cy a n1_) (cwVA 1 htA wd_749 wd_746 wd_4 wd_748 wp_8 (by decide +kernel) ⟨by decide, by decide⟩) hP hD hS [0] [1] rfl rfl (by decide) 0 rfl rfl rfl rfl hl.1 rfl (Nat.le_of_ble_eq_true rfl) dX5_expect_23 (by decide) (fun W1 H locs hw hP hD hS => ?_)
  refine W.widen (k := 0) (n := 0) (by decide) (by decide) ?_
  obtain rfl := hw
  have hP : va_P D vwCl [((a 36), .inr (7, [.ref (a 37), .ref (a 38), .int 0, .int 0, .int 1, .int 0])), ((a 2), .inr (5, [.ref (a 30), .int 2, .int 0, .ref n1_, .ref (a 36), .ref (a 39), .int 0, .int 0]))] H := hP
  have hD : va_D A [((a 36), .inr (7, [.ref (a 37), .ref (a 38), .int 0, .int 0, .int 1, .int 0])), ((a 2), .inr (5, [.ref (a 30), .int 2, .int 0, .ref n1_, .ref (a 36), .ref (a 39), .int 0, .int 0]))] := hD
  exact rV hX hE hP hD hS dX5_expect_26 (by decide) (by decide) (rfl)
set_option maxHeartbeats 4000000 in
set_option maxRecDepth 100000 in
theorem au_X5_lineEnd_75 (l : Launch) (D : va_G) (cy : Nat → ClassId) (a : Nat → Nat) (n1_ : Nat) (n2_ : Nat) (n3_ : Nat) (n4_ : Nat) : Cv l yX5_lineEnd cX5_lineEnd 1 none { frames := 2, cells := 0, slots := 0, locals := 42 } D cy [.ref (a 2)] [(n1_, .inr (0, [.int 0, .int 1, .int 1, .int 0, .int 0, .ref n2_, .ref n3_, .ref n4_, .null, .null])), ((a 2), .inr (5, [.ref (a 30), .int 2, .int 0, .ref n1_, .ref (a 36), .ref (a 39), .int 0, .int 0])), ((a 36), .inr (7, [.ref (a 37), .ref (a 38), .int 0, .int 0, .int 1, .int 0]))] (fun W1 => (W1 = [(n1_, .inr (0, [.int 1, .int 1, .int 1, .int 0, .int 0, .ref n2_, .ref n3_, .ref n4_, .null, .null])), ((a 36), .inr (7, [.ref (a 37), .ref (a 38), .int 0, .int 0, .int 1, .int 0])), ((a 2), .inr (5, [.ref (a 30), .int 2, .int 0, .ref n1_, .ref (a 36), .ref (a 39), .int 0, .int 0]))])) := by
  refine Cv.of (by decide) (Nat.le_of_ble_eq_true rfl) ?_
  intro p e s m below meth c A ls hX hE hP hD hl hin
  obtain ⟨hx, hb, hr, hml, hown, htA, hlk⟩ := id hX
  have hK := hE.1
  have hS : va_S A s.heap s.heap [] := va_S.rf
  have hl : lv_has ls 1 [(0, .ref (a 2))] := hl
  refine lv_aload_n hx hb dX5_lineEnd_0 rfl (lv_at hl 0 rfl) ?_
  refine lv_bipush (v := 59) hx hb dX5_lineEnd_1 (by decide) ?_
  refine kVv (As := [.int 59]) (rest := []) (wr := [(n1_, .inr (0, [.int 0, .int 1, .int 1, .int 0, .int 0, .ref n2_, .ref n3_, .ref n4_, .null, .null]))]) hX hE (au_X5_expect_74 l D cy a n1_) (cwVA 1 htA wd_741 wd_738 wd_4 wd_740 wp_7 (by decide +kernel) ⟨by decide, by decide⟩) hP hD hS [1, 2] [0] rfl rfl (by decide) 0 rfl rfl rfl rfl hl.1 rfl (Nat.le_of_ble_eq_true rfl) dX5_lineEnd_3 (by decide) (fun W1 H locs hw hP hD hS => ?_)
  refine W.widen (k := 0) (n := 0) (by decide) (by decide) ?_
  obtain rfl := hw
  have hP : va_P D vwCl [(n1_, .inr (0, [.int 0, .int 1, .int 1, .int 0, .int 0, .ref n2_, .ref n3_, .ref n4_, .null, .null])), ((a 36), .inr (7, [.ref (a 37), .ref (a 38), .int 0, .int 0, .int 1, .int 0])), ((a 2), .inr (5, [.ref (a 30), .int 2, .int 0, .ref n1_, .ref (a 36), .ref (a 39), .int 0, .int 0]))] H := hP
  have hD : va_D A [(n1_, .inr (0, [.int 0, .int 1, .int 1, .int 0, .int 0, .ref n2_, .ref n3_, .ref n4_, .null, .null])), ((a 36), .inr (7, [.ref (a 37), .ref (a 38), .int 0, .int 0, .int 1, .int 0])), ((a 2), .inr (5, [.ref (a 30), .int 2, .int 0, .ref n1_, .ref (a 36), .ref (a 39), .int 0, .int 0]))] := hD
  refine lv_aload_n hx hb dX5_lineEnd_6 rfl (lv_at hl 0 rfl) ?_
  refine va_get (ci := 5) (v := .ref n1_) (C := RX5) (T := TX5) (N := 8) hx hb htA in_X5 hown hK hP 2 rfl rfl 3 (by decide) (htA _ wd_215) (fun _ h => h) rfl dX5_lineEnd_7 ?_
  refine lv_dup hx hb dX5_lineEnd_10 rfl ?_
  refine va_get (ci := 0) (v := .int 0) (C := RX0) (T := TX0) (N := 10) hx hb htA in_X0 hown hK hP 0 rfl rfl 0 (by decide) (htA _ wd_76) (fun _ h => h) rfl dX5_lineEnd_11 ?_
  refine lv_iconst (v := 1) hx hb dX5_lineEnd_14 (by decide) ?_
  refine lv_iadd hx hb dX5_lineEnd_15 ?_
  refine lv_topi (fun x1 ex1 => ?_)
  obtain rfl : x1 = 1 := ex1.trans (by decide)
  refine va_put (ci := 0) (v := .int 1) (ty := .int) (C := RX0) (T := TX0) (N := 10) hx hb htA in_X0 tyX0 tyX0_ok nmX0 hown hK hP hD hS 0 rfl rfl 0 (by decide) (htA _ wd_76) (fun _ h => h) rfl (by decide +kernel) rfl rfl (Nat.le_of_ble_eq_true rfl) dX5_lineEnd_16 (fun H locs hP hD hS => ?_)
  have hP : va_P D vwCl [(n1_, .inr (0, [.int 1, .int 1, .int 1, .int 0, .int 0, .ref n2_, .ref n3_, .ref n4_, .null, .null])), ((a 36), .inr (7, [.ref (a 37), .ref (a 38), .int 0, .int 0, .int 1, .int 0])), ((a 2), .inr (5, [.ref (a 30), .int 2, .int 0, .ref n1_, .ref (a 36), .ref (a 39), .int 0, .int 0]))] H := hP
  have hD : va_D A [(n1_, .inr (0, [.int 1, .int 1, .int 1, .int 0, .int 0, .ref n2_, .ref n3_, .ref n4_, .null, .null])), ((a 36), .inr (7, [.ref (a 37), .ref (a 38), .int 0, .int 0, .int 1, .int 0])), ((a 2), .inr (5, [.ref (a 30), .int 2, .int 0, .ref n1_, .ref (a 36), .ref (a 39), .int 0, .int 0]))] := hD
  exact rV hX hE hP hD hS dX5_lineEnd_19 (by decide) (by decide) (rfl)
set_option maxHeartbeats 4000000 in
set_option maxRecDepth 100000 in
theorem au_X5_fallLine_76 (l : Launch) (D : va_G) (cy : Nat → ClassId) (a : Nat → Nat) (n1_ : Nat) (n2_ : Nat) (n3_ : Nat) (n4_ : Nat) : Cv l yX5_fallLine cX5_fallLine 1 none { frames := 3, cells := 0, slots := 0, locals := 62 } D cy [.ref (a 2)] [((a 2), .inr (5, [.ref (a 30), .int 0, .int (-1), .ref n1_, .ref (a 36), .ref (a 39), .int 0, .int 0])), (n1_, .inr (0, [.int 0, .int 1, .int 1, .int 0, .int 0, .ref n2_, .ref n3_, .ref n4_, .null, .null])), ((a 36), .inr (7, [.ref (a 37), .ref (a 38), .int 1, .int 0, .int 0, .int 0]))] (fun W1 => (W1 = [(n1_, .inr (0, [.int 1, .int 1, .int 1, .int 0, .int 0, .ref n2_, .ref n3_, .ref n4_, .null, .null])), ((a 36), .inr (7, [.ref (a 37), .ref (a 38), .int 0, .int 0, .int 1, .int 0])), ((a 2), .inr (5, [.ref (a 30), .int 2, .int 0, .ref n1_, .ref (a 36), .ref (a 39), .int 0, .int 0]))])) := by
  refine Cv.of (by decide) (Nat.le_of_ble_eq_true rfl) ?_
  intro p e s m below meth c A ls hX hE hP hD hl hin
  obtain ⟨hx, hb, hr, hml, hown, htA, hlk⟩ := id hX
  have hK := hE.1
  have hS : va_S A s.heap s.heap [] := va_S.rf
  have hl : lv_has ls 1 [(0, .ref (a 2))] := hl
  refine lv_aload_n hx hb dX5_fallLine_0 rfl (lv_at hl 0 rfl) ?_
  refine lv_sipush (v := 200) hx hb dX5_fallLine_1 (by decide) ?_
  refine kVv (As := [.int 200]) (rest := []) (wr := [(n1_, .inr (0, [.int 0, .int 1, .int 1, .int 0, .int 0, .ref n2_, .ref n3_, .ref n4_, .null, .null]))]) hX hE (au_X5_expect_68 l D cy a n1_) (cwVA 1 htA wd_741 wd_738 wd_4 wd_740 wp_7 (by decide +kernel) ⟨by decide, by decide⟩) hP hD hS [0, 2] [1] rfl rfl (by decide) 0 rfl rfl rfl rfl hl.1 rfl (Nat.le_of_ble_eq_true rfl) dX5_fallLine_4 (by decide) (fun W1 H locs hw hP hD hS => ?_)
  refine W.widen (k := 0) (n := 0) (by decide) (by decide) ?_
  obtain rfl := hw
  have hP : va_P D vwCl [(n1_, .inr (0, [.int 0, .int 1, .int 1, .int 0, .int 0, .ref n2_, .ref n3_, .ref n4_, .null, .null])), ((a 2), .inr (5, [.ref (a 30), .int 2, .int 0, .ref n1_, .ref (a 36), .ref (a 39), .int 0, .int 0])), ((a 36), .inr (7, [.ref (a 37), .ref (a 38), .int 0, .int 0, .int 1, .int 0]))] H := hP
  have hD : va_D A [(n1_, .inr (0, [.int 0, .int 1, .int 1, .int 0, .int 0, .ref n2_, .ref n3_, .ref n4_, .null, .null])), ((a 2), .inr (5, [.ref (a 30), .int 2, .int 0, .ref n1_, .ref (a 36), .ref (a 39), .int 0, .int 0])), ((a 36), .inr (7, [.ref (a 37), .ref (a 38), .int 0, .int 0, .int 1, .int 0]))] := hD
  refine lv_aload_n hx hb dX5_fallLine_7 rfl (lv_at hl 0 rfl) ?_
  refine va_get (ci := 5) (v := .ref n1_) (C := RX5) (T := TX5) (N := 8) hx hb htA in_X5 hown hK hP 1 rfl rfl 3 (by decide) (htA _ wd_215) (fun _ h => h) rfl dX5_fallLine_8 ?_
  refine lv_aload_n hx hb dX5_fallLine_11 rfl (lv_at hl 0 rfl) ?_
  refine lv_iconst (v := 1) hx hb dX5_fallLine_12 (by decide) ?_
  refine lv_bipush (v := 6) hx hb dX5_fallLine_13 (by decide) ?_
  refine kVi (As := [.int 1, .int 6]) (rest := [.ref n1_]) (wr := [(n1_, .inr (0, [.int 0, .int 1, .int 1, .int 0, .int 0, .ref n2_, .ref n3_, .ref n4_, .null, .null]))]) hX hE (au_X5_number_71 l D cy a n1_) (cwVA 2 htA wd_757 wd_754 wd_4 wd_756 wp_9 (by decide +kernel) ⟨by decide, by decide⟩) hP hD hS [1, 2] [0] rfl rfl (by decide) 0 rfl rfl rfl rfl hl.1 rfl (Nat.le_of_ble_eq_true rfl) dX5_fallLine_15 (by decide) (fun r_ W1 H locs hw hP hD hS => ?_)
  refine W.widen (k := 0) (n := 0) (by decide) (by decide) ?_
  obtain ⟨rfl, rfl⟩ := hw
  have hP : va_P D vwCl [(n1_, .inr (0, [.int 0, .int 1, .int 1, .int 0, .int 0, .ref n2_, .ref n3_, .ref n4_, .null, .null])), ((a 36), .inr (7, [.ref (a 37), .ref (a 38), .int 0, .int 0, .int 1, .int 0])), ((a 2), .inr (5, [.ref (a 30), .int 2, .int 0, .ref n1_, .ref (a 36), .ref (a 39), .int 0, .int 0]))] H := hP
  have hD : va_D A [(n1_, .inr (0, [.int 0, .int 1, .int 1, .int 0, .int 0, .ref n2_, .ref n3_, .ref n4_, .null, .null])), ((a 36), .inr (7, [.ref (a 37), .ref (a 38), .int 0, .int 0, .int 1, .int 0])), ((a 2), .inr (5, [.ref (a 30), .int 2, .int 0, .ref n1_, .ref (a 36), .ref (a 39), .int 0, .int 0]))] := hD
  refine va_put (ci := 0) (v := .int 1) (ty := .int) (C := RX0) (T := TX0) (N := 10) hx hb htA in_X0 tyX0 tyX0_ok nmX0 hown hK hP hD hS 0 rfl rfl 1 (by decide) (htA _ wd_79) (fun _ h => h) rfl (by decide +kernel) rfl rfl (Nat.le_of_ble_eq_true rfl) dX5_fallLine_18 (fun H locs hP hD hS => ?_)
  have hP : va_P D vwCl [(n1_, .inr (0, [.int 0, .int 1, .int 1, .int 0, .int 0, .ref n2_, .ref n3_, .ref n4_, .null, .null])), ((a 36), .inr (7, [.ref (a 37), .ref (a 38), .int 0, .int 0, .int 1, .int 0])), ((a 2), .inr (5, [.ref (a 30), .int 2, .int 0, .ref n1_, .ref (a 36), .ref (a 39), .int 0, .int 0]))] H := hP
  have hD : va_D A [(n1_, .inr (0, [.int 0, .int 1, .int 1, .int 0, .int 0, .ref n2_, .ref n3_, .ref n4_, .null, .null])), ((a 36), .inr (7, [.ref (a 37), .ref (a 38), .int 0, .int 0, .int 1, .int 0])), ((a 2), .inr (5, [.ref (a 30), .int 2, .int 0, .ref n1_, .ref (a 36), .ref (a 39), .int 0, .int 0]))] := hD
  refine lv_aload_n hx hb dX5_fallLine_21 rfl (lv_at hl 0 rfl) ?_
  refine va_get (ci := 5) (v := .ref (a 36)) (C := RX5) (T := TX5) (N := 8) hx hb htA in_X5 hown hK hP 2 rfl rfl 4 (by decide) (htA _ wd_216) (fun _ h => h) rfl dX5_fallLine_22 ?_
  refine kVv (As := []) (rest := []) (wr := [(n1_, .inr (0, [.int 0, .int 1, .int 1, .int 0, .int 0, .ref n2_, .ref n3_, .ref n4_, .null, .null])), ((a 2), .inr (5, [.ref (a 30), .int 2, .int 0, .ref n1_, .ref (a 36), .ref (a 39), .int 0, .int 0]))]) hX hE (au_X7_advance_72 l D cy a) (cwVA 0 htA wd_745 wd_742 wd_5 wd_743 wd_744 (by decide +kernel) ⟨by decide, by decide⟩) hP hD hS [1] [0, 2] rfl rfl (by decide) 0 rfl rfl rfl rfl hl.1 rfl (Nat.le_of_ble_eq_true rfl) dX5_fallLine_25 (by decide) (fun W1 H locs hw hP hD hS => ?_)
  refine W.widen (k := 0) (n := 0) (by decide) (by decide) ?_
  obtain rfl := hw
  have hP : va_P D vwCl [(n1_, .inr (0, [.int 0, .int 1, .int 1, .int 0, .int 0, .ref n2_, .ref n3_, .ref n4_, .null, .null])), ((a 2), .inr (5, [.ref (a 30), .int 2, .int 0, .ref n1_, .ref (a 36), .ref (a 39), .int 0, .int 0])), ((a 36), .inr (7, [.ref (a 37), .ref (a 38), .int 0, .int 0, .int 1, .int 0]))] H := hP
  have hD : va_D A [(n1_, .inr (0, [.int 0, .int 1, .int 1, .int 0, .int 0, .ref n2_, .ref n3_, .ref n4_, .null, .null])), ((a 2), .inr (5, [.ref (a 30), .int 2, .int 0, .ref n1_, .ref (a 36), .ref (a 39), .int 0, .int 0])), ((a 36), .inr (7, [.ref (a 37), .ref (a 38), .int 0, .int 0, .int 1, .int 0]))] := hD
  refine lv_aload_n hx hb dX5_fallLine_28 rfl (lv_at hl 0 rfl) ?_
  refine va_get (ci := 5) (v := .ref n1_) (C := RX5) (T := TX5) (N := 8) hx hb htA in_X5 hown hK hP 1 rfl rfl 3 (by decide) (htA _ wd_215) (fun _ h => h) rfl dX5_fallLine_29 ?_
  refine lv_aload_n hx hb dX5_fallLine_32 rfl (lv_at hl 0 rfl) ?_
  refine lv_iconst (v := 1) hx hb dX5_fallLine_33 (by decide) ?_
  refine lv_bipush (v := 9) hx hb dX5_fallLine_34 (by decide) ?_
  refine kVi (As := [.int 1, .int 9]) (rest := [.ref n1_]) (wr := [(n1_, .inr (0, [.int 0, .int 1, .int 1, .int 0, .int 0, .ref n2_, .ref n3_, .ref n4_, .null, .null]))]) hX hE (au_X5_number_73 l D cy a n1_) (cwVA 2 htA wd_757 wd_754 wd_4 wd_756 wp_9 (by decide +kernel) ⟨by decide, by decide⟩) hP hD hS [1, 2] [0] rfl rfl (by decide) 0 rfl rfl rfl rfl hl.1 rfl (Nat.le_of_ble_eq_true rfl) dX5_fallLine_36 (by decide) (fun r_ W1 H locs hw hP hD hS => ?_)
  refine W.widen (k := 0) (n := 0) (by decide) (by decide) ?_
  obtain ⟨rfl, rfl⟩ := hw
  have hP : va_P D vwCl [(n1_, .inr (0, [.int 0, .int 1, .int 1, .int 0, .int 0, .ref n2_, .ref n3_, .ref n4_, .null, .null])), ((a 36), .inr (7, [.ref (a 37), .ref (a 38), .int 0, .int 0, .int 1, .int 0])), ((a 2), .inr (5, [.ref (a 30), .int 2, .int 0, .ref n1_, .ref (a 36), .ref (a 39), .int 0, .int 0]))] H := hP
  have hD : va_D A [(n1_, .inr (0, [.int 0, .int 1, .int 1, .int 0, .int 0, .ref n2_, .ref n3_, .ref n4_, .null, .null])), ((a 36), .inr (7, [.ref (a 37), .ref (a 38), .int 0, .int 0, .int 1, .int 0])), ((a 2), .inr (5, [.ref (a 30), .int 2, .int 0, .ref n1_, .ref (a 36), .ref (a 39), .int 0, .int 0]))] := hD
  refine va_put (ci := 0) (v := .int 1) (ty := .int) (C := RX0) (T := TX0) (N := 10) hx hb htA in_X0 tyX0 tyX0_ok nmX0 hown hK hP hD hS 0 rfl rfl 2 (by decide) (htA _ wd_83) (fun _ h => h) rfl (by decide +kernel) rfl rfl (Nat.le_of_ble_eq_true rfl) dX5_fallLine_39 (fun H locs hP hD hS => ?_)
  have hP : va_P D vwCl [(n1_, .inr (0, [.int 0, .int 1, .int 1, .int 0, .int 0, .ref n2_, .ref n3_, .ref n4_, .null, .null])), ((a 36), .inr (7, [.ref (a 37), .ref (a 38), .int 0, .int 0, .int 1, .int 0])), ((a 2), .inr (5, [.ref (a 30), .int 2, .int 0, .ref n1_, .ref (a 36), .ref (a 39), .int 0, .int 0]))] H := hP
  have hD : va_D A [(n1_, .inr (0, [.int 0, .int 1, .int 1, .int 0, .int 0, .ref n2_, .ref n3_, .ref n4_, .null, .null])), ((a 36), .inr (7, [.ref (a 37), .ref (a 38), .int 0, .int 0, .int 1, .int 0])), ((a 2), .inr (5, [.ref (a 30), .int 2, .int 0, .ref n1_, .ref (a 36), .ref (a 39), .int 0, .int 0]))] := hD
  refine lv_aload_n hx hb dX5_fallLine_42 rfl (lv_at hl 0 rfl) ?_
  refine va_get (ci := 5) (v := .ref (a 36)) (C := RX5) (T := TX5) (N := 8) hx hb htA in_X5 hown hK hP 2 rfl rfl 4 (by decide) (htA _ wd_216) (fun _ h => h) rfl dX5_fallLine_43 ?_
  refine kVv (As := []) (rest := []) (wr := [(n1_, .inr (0, [.int 0, .int 1, .int 1, .int 0, .int 0, .ref n2_, .ref n3_, .ref n4_, .null, .null])), ((a 2), .inr (5, [.ref (a 30), .int 2, .int 0, .ref n1_, .ref (a 36), .ref (a 39), .int 0, .int 0]))]) hX hE (au_X7_advance_72 l D cy a) (cwVA 0 htA wd_745 wd_742 wd_5 wd_743 wd_744 (by decide +kernel) ⟨by decide, by decide⟩) hP hD hS [1] [0, 2] rfl rfl (by decide) 0 rfl rfl rfl rfl hl.1 rfl (Nat.le_of_ble_eq_true rfl) dX5_fallLine_46 (by decide) (fun W1 H locs hw hP hD hS => ?_)
  refine W.widen (k := 0) (n := 0) (by decide) (by decide) ?_
  obtain rfl := hw
  have hP : va_P D vwCl [(n1_, .inr (0, [.int 0, .int 1, .int 1, .int 0, .int 0, .ref n2_, .ref n3_, .ref n4_, .null, .null])), ((a 2), .inr (5, [.ref (a 30), .int 2, .int 0, .ref n1_, .ref (a 36), .ref (a 39), .int 0, .int 0])), ((a 36), .inr (7, [.ref (a 37), .ref (a 38), .int 0, .int 0, .int 1, .int 0]))] H := hP
  have hD : va_D A [(n1_, .inr (0, [.int 0, .int 1, .int 1, .int 0, .int 0, .ref n2_, .ref n3_, .ref n4_, .null, .null])), ((a 2), .inr (5, [.ref (a 30), .int 2, .int 0, .ref n1_, .ref (a 36), .ref (a 39), .int 0, .int 0])), ((a 36), .inr (7, [.ref (a 37), .ref (a 38), .int 0, .int 0, .int 1, .int 0]))] := hD
  refine lv_aload_n hx hb dX5_fallLine_49 rfl (lv_at hl 0 rfl) ?_
  refine kVv (As := []) (rest := []) (wr := []) hX hE (au_X5_lineEnd_75 l D cy a n1_ n2_ n3_ n4_) (cwVA 0 htA wd_765 wd_762 wd_4 wd_764 wp_10 (by decide +kernel) ⟨by decide, by decide⟩) hP hD hS [0, 1, 2] [] rfl rfl (by decide) 1 rfl rfl rfl rfl hl.1 rfl (Nat.le_of_ble_eq_true rfl) dX5_fallLine_50 (by decide) (fun W1 H locs hw hP hD hS => ?_)
  refine W.widen (k := 0) (n := 0) (by decide) (by decide) ?_
  obtain rfl := hw
  have hP : va_P D vwCl [(n1_, .inr (0, [.int 1, .int 1, .int 1, .int 0, .int 0, .ref n2_, .ref n3_, .ref n4_, .null, .null])), ((a 36), .inr (7, [.ref (a 37), .ref (a 38), .int 0, .int 0, .int 1, .int 0])), ((a 2), .inr (5, [.ref (a 30), .int 2, .int 0, .ref n1_, .ref (a 36), .ref (a 39), .int 0, .int 0]))] H := hP
  have hD : va_D A [(n1_, .inr (0, [.int 1, .int 1, .int 1, .int 0, .int 0, .ref n2_, .ref n3_, .ref n4_, .null, .null])), ((a 36), .inr (7, [.ref (a 37), .ref (a 38), .int 0, .int 0, .int 1, .int 0])), ((a 2), .inr (5, [.ref (a 30), .int 2, .int 0, .ref n1_, .ref (a 36), .ref (a 39), .int 0, .int 0]))] := hD
  exact rV hX hE hP hD hS dX5_fallLine_53 (by decide) (by decide) (rfl)
set_option maxHeartbeats 4000000 in
set_option maxRecDepth 100000 in
theorem au_X5_countFromHour_77 (l : Launch) (D : va_G) (cy : Nat → ClassId) (a : Nat → Nat) (n1_ : Nat) (n2_ : Nat) (n3_ : Nat) (n4_ : Nat) : Cv l yX5_countFromHour cX5_countFromHour 2 none { frames := 0, cells := 0, slots := 0, locals := 0 } D cy [.ref (a 2)] [(n1_, .inr (0, [.int 1, .int 1, .int 1, .int 0, .int 0, .ref n2_, .ref n3_, .ref n4_, .null, .null])), ((a 2), .inr (5, [.ref (a 30), .int 2, .int 0, .ref n1_, .ref (a 36), .ref (a 39), .int 0, .int 0]))] (fun W1 => (W1 = [(n1_, .inr (0, [.int 1, .int 1, .int 1, .int 0, .int 0, .ref n2_, .ref n3_, .ref n4_, .null, .null])), ((a 2), .inr (5, [.ref (a 30), .int 2, .int 0, .ref n1_, .ref (a 36), .ref (a 39), .int 0, .int 0]))])) := by
  refine Cv.of (by decide) (Nat.le_of_ble_eq_true rfl) ?_
  intro p e s m below meth c A ls hX hE hP hD hl hin
  obtain ⟨hx, hb, hr, hml, hown, htA, hlk⟩ := id hX
  have hK := hE.1
  have hS : va_S A s.heap s.heap [] := va_S.rf
  have hl : lv_has ls 2 [(0, .ref (a 2))] := hl
  refine lv_iconst (v := 0) hx hb dX5_countFromHour_0 (by decide) ?_
  refine lv_istore_n (lv' := [(1, .int 0), (0, .ref (a 2))]) hx hb dX5_countFromHour_1 rfl hl (by decide) rfl (fun ls hl => ?_)
  refine lv_iload_n hx hb dX5_countFromHour_2 rfl (lv_at hl 0 rfl) ?_
  refine lv_aload_n hx hb dX5_countFromHour_3 rfl (lv_at hl 1 rfl) ?_
  refine va_get (ci := 5) (v := .ref n1_) (C := RX5) (T := TX5) (N := 8) hx hb htA in_X5 hown hK hP 1 rfl rfl 3 (by decide) (htA _ wd_215) (fun _ h => h) rfl dX5_countFromHour_4 ?_
  refine va_get (ci := 0) (v := .int 0) (C := RX0) (T := TX0) (N := 10) hx hb htA in_X0 hown hK hP 0 rfl rfl 3 (by decide) (htA _ wd_87) (fun _ h => h) rfl dX5_countFromHour_7 ?_
  refine lv_icmp_ge (tgt := 99) hx hb dX5_countFromHour_10 (by decide) (fun _ => ?_) (fun q => absurd (by decide) q)
  exact rV hX hE hP hD hS dX5_countFromHour_99 (by decide) (by decide) (rfl)
set_option maxHeartbeats 4000000 in
set_option maxRecDepth 100000 in
theorem au_X5_read_78 (l : Launch) (D : va_G) (cy : Nat → ClassId) (a : Nat → Nat) : Cv l yX5_read cX5_read 4 none { frames := 4, cells := 4, slots := 54, locals := 82 } D cy [.ref (a 2), .ref (a 1), .int 0] [((a 2), .inr (5, [.ref (a 30), .int 0, .int 0, .ref (a 10), .ref (a 36), .ref (a 39), .int 0, .int 0])), ((a 30), .inr (6, [.ref (a 10), .int 0, .ref (a 31), .ref (a 32), .ref (a 33), .ref (a 34), .ref (a 35), .int 0])), ((a 35), .inl (cy 0, 4, .inl (fun _ => 0))), ((a 36), .inr (7, [.ref (a 37), .ref (a 38), .int 0, .int 0, .int 0, .int 0])), ((a 37), .inl (cy 0, 901, .inl (fun _ => 0))), ((a 38), .inl (cy 0, 901, .inl (fun _ => 0)))] (fun W1 => (∃ q1 q2 q3 q4 : Nat, W1 = [(q2, .inl (cy 0, 8, .inl (fun _ => 0))), (q3, .inl (cy 0, 32, .inl (fun _ => 0))), (q4, .inl (cy 0, 4, .inl (fun _ => 0))), ((a 30), .inr (6, [.ref q1, .int 0, .ref (a 31), .ref (a 32), .ref (a 33), .ref (a 34), .ref (a 35), .int 0])), ((a 35), .inl (cy 0, 4, .inl (fun _ => 0))), ((a 37), .inl (cy 0, 901, .inl (fun _ => 0))), ((a 38), .inl (cy 0, 901, .inl (fun _ => 0))), ((a 36), .inr (7, [.ref (a 37), .ref (a 38), .int 0, .int 0, .int 1, .int 0])), (q1, .inr (0, [.int 1, .int 1, .int 1, .int 0, .int 0, .ref q2, .ref q3, .ref q4, .null, .null])), ((a 2), .inr (5, [.ref (a 30), .int 2, .int 0, .ref q1, .ref (a 36), .ref (a 39), .int 0, .int 0]))])) := by
  refine Cv.of (by decide) (Nat.le_of_ble_eq_true rfl) ?_
  intro p e s m below meth c A ls hX hE hP hD hl hin
  obtain ⟨hx, hb, hr, hml, hown, htA, hlk⟩ := id hX
  have hK := hE.1
  have hS : va_S A s.heap s.heap [] := va_S.rf
  have hl : lv_has ls 4 [(0, .ref (a 2)), (1, .ref (a 1)), (2, .int 0)] := hl
  refine lv_aload_n hx hb dX5_read_0 rfl (lv_at hl 0 rfl) ?_
  refine va_new (ci := 0) (fs := [.int 0, .int 0, .int 0, .int 0, .int 0, .null, .null, .null, .null, .null]) (C := RX0) (T := TX0) (N := 10) hx hb htA in_X0 tyX0 tyX0_ok hown (htA _ wd_603) (htA _ wd_70) (htA _ wd_3) hK hP hD hS hE.2.1 rfl dv_X0 (by decide) (by decide) dX5_read_1 (fun q1 H hP hD hS => ?_)
  have hP : va_P D vwCl [((a 2), .inr (5, [.ref (a 30), .int 0, .int 0, .ref (a 10), .ref (a 36), .ref (a 39), .int 0, .int 0])), ((a 30), .inr (6, [.ref (a 10), .int 0, .ref (a 31), .ref (a 32), .ref (a 33), .ref (a 34), .ref (a 35), .int 0])), ((a 35), .inl (cy 0, 4, .inl (fun _ => 0))), ((a 36), .inr (7, [.ref (a 37), .ref (a 38), .int 0, .int 0, .int 0, .int 0])), ((a 37), .inl (cy 0, 901, .inl (fun _ => 0))), ((a 38), .inl (cy 0, 901, .inl (fun _ => 0))), (q1, .inr (0, [.int 0, .int 0, .int 0, .int 0, .int 0, .null, .null, .null, .null, .null]))] H := hP
  have hD : va_D A [((a 2), .inr (5, [.ref (a 30), .int 0, .int 0, .ref (a 10), .ref (a 36), .ref (a 39), .int 0, .int 0])), ((a 30), .inr (6, [.ref (a 10), .int 0, .ref (a 31), .ref (a 32), .ref (a 33), .ref (a 34), .ref (a 35), .int 0])), ((a 35), .inl (cy 0, 4, .inl (fun _ => 0))), ((a 36), .inr (7, [.ref (a 37), .ref (a 38), .int 0, .int 0, .int 0, .int 0])), ((a 37), .inl (cy 0, 901, .inl (fun _ => 0))), ((a 38), .inl (cy 0, 901, .inl (fun _ => 0))), (q1, .inr (0, [.int 0, .int 0, .int 0, .int 0, .int 0, .null, .null, .null, .null, .null]))] := hD
  refine W.widen (k := 1) (n := 10) (by decide) (by decide) ?_
  refine lv_dup hx hb dX5_read_4 rfl ?_
  refine kNv (As := []) (rest := [.ref q1, .ref (a 2)]) (wr := [((a 2), .inr (5, [.ref (a 30), .int 0, .int 0, .ref (a 10), .ref (a 36), .ref (a 39), .int 0, .int 0])), ((a 30), .inr (6, [.ref (a 10), .int 0, .ref (a 31), .ref (a 32), .ref (a 33), .ref (a 34), .ref (a 35), .int 0])), ((a 35), .inl (cy 0, 4, .inl (fun _ => 0))), ((a 36), .inr (7, [.ref (a 37), .ref (a 38), .int 0, .int 0, .int 0, .int 0])), ((a 37), .inl (cy 0, 901, .inl (fun _ => 0))), ((a 38), .inl (cy 0, 901, .inl (fun _ => 0)))]) hX hE (au_X0_init_62 l D cy a q1) (cwNA (host := "LateFalls") 0 htA wd_73 (xEW_in hE.2.2.2 (by decide +kernel)) wd_3 wd_72 rfl (by decide +kernel) ⟨by decide, by decide⟩) hP hD hS [6] [0, 1, 2, 3, 4, 5] rfl rfl (by decide) rfl hl.1 rfl (Nat.le_of_ble_eq_true rfl) dX5_read_5 (by decide) (fun W1 H locs hw hP hD hS => ?_)
  refine W.widen (k := 4) (n := 54) (by decide) (by decide) ?_
  obtain ⟨q2, q3, q4, rfl⟩ := hw
  have hP : va_P D vwCl [((a 2), .inr (5, [.ref (a 30), .int 0, .int 0, .ref (a 10), .ref (a 36), .ref (a 39), .int 0, .int 0])), ((a 30), .inr (6, [.ref (a 10), .int 0, .ref (a 31), .ref (a 32), .ref (a 33), .ref (a 34), .ref (a 35), .int 0])), ((a 35), .inl (cy 0, 4, .inl (fun _ => 0))), ((a 36), .inr (7, [.ref (a 37), .ref (a 38), .int 0, .int 0, .int 0, .int 0])), ((a 37), .inl (cy 0, 901, .inl (fun _ => 0))), ((a 38), .inl (cy 0, 901, .inl (fun _ => 0))), (q1, .inr (0, [.int 0, .int 1, .int 1, .int 0, .int 0, .ref q2, .ref q3, .ref q4, .null, .null])), (q2, .inl (cy 0, 8, .inl (fun _ => 0))), (q3, .inl (cy 0, 32, .inl (fun _ => 0))), (q4, .inl (cy 0, 4, .inl (fun _ => 0)))] H := hP
  have hD : va_D A [((a 2), .inr (5, [.ref (a 30), .int 0, .int 0, .ref (a 10), .ref (a 36), .ref (a 39), .int 0, .int 0])), ((a 30), .inr (6, [.ref (a 10), .int 0, .ref (a 31), .ref (a 32), .ref (a 33), .ref (a 34), .ref (a 35), .int 0])), ((a 35), .inl (cy 0, 4, .inl (fun _ => 0))), ((a 36), .inr (7, [.ref (a 37), .ref (a 38), .int 0, .int 0, .int 0, .int 0])), ((a 37), .inl (cy 0, 901, .inl (fun _ => 0))), ((a 38), .inl (cy 0, 901, .inl (fun _ => 0))), (q1, .inr (0, [.int 0, .int 1, .int 1, .int 0, .int 0, .ref q2, .ref q3, .ref q4, .null, .null])), (q2, .inl (cy 0, 8, .inl (fun _ => 0))), (q3, .inl (cy 0, 32, .inl (fun _ => 0))), (q4, .inl (cy 0, 4, .inl (fun _ => 0)))] := hD
  refine va_put (ci := 5) (v := .ref q1) (ty := tyX5 3) (C := RX5) (T := TX5) (N := 8) hx hb htA in_X5 tyX5 tyX5_ok nmX5 hown hK hP hD hS 0 rfl rfl 3 (by decide) (htA _ wd_215) (fun _ h => h) rfl (by decide +kernel) rfl rfl (Nat.le_of_ble_eq_true rfl) dX5_read_8 (fun H locs hP hD hS => ?_)
  have hP : va_P D vwCl [((a 2), .inr (5, [.ref (a 30), .int 0, .int 0, .ref q1, .ref (a 36), .ref (a 39), .int 0, .int 0])), ((a 30), .inr (6, [.ref (a 10), .int 0, .ref (a 31), .ref (a 32), .ref (a 33), .ref (a 34), .ref (a 35), .int 0])), ((a 35), .inl (cy 0, 4, .inl (fun _ => 0))), ((a 36), .inr (7, [.ref (a 37), .ref (a 38), .int 0, .int 0, .int 0, .int 0])), ((a 37), .inl (cy 0, 901, .inl (fun _ => 0))), ((a 38), .inl (cy 0, 901, .inl (fun _ => 0))), (q1, .inr (0, [.int 0, .int 1, .int 1, .int 0, .int 0, .ref q2, .ref q3, .ref q4, .null, .null])), (q2, .inl (cy 0, 8, .inl (fun _ => 0))), (q3, .inl (cy 0, 32, .inl (fun _ => 0))), (q4, .inl (cy 0, 4, .inl (fun _ => 0)))] H := hP
  have hD : va_D A [((a 2), .inr (5, [.ref (a 30), .int 0, .int 0, .ref q1, .ref (a 36), .ref (a 39), .int 0, .int 0])), ((a 30), .inr (6, [.ref (a 10), .int 0, .ref (a 31), .ref (a 32), .ref (a 33), .ref (a 34), .ref (a 35), .int 0])), ((a 35), .inl (cy 0, 4, .inl (fun _ => 0))), ((a 36), .inr (7, [.ref (a 37), .ref (a 38), .int 0, .int 0, .int 0, .int 0])), ((a 37), .inl (cy 0, 901, .inl (fun _ => 0))), ((a 38), .inl (cy 0, 901, .inl (fun _ => 0))), (q1, .inr (0, [.int 0, .int 1, .int 1, .int 0, .int 0, .ref q2, .ref q3, .ref q4, .null, .null])), (q2, .inl (cy 0, 8, .inl (fun _ => 0))), (q3, .inl (cy 0, 32, .inl (fun _ => 0))), (q4, .inl (cy 0, 4, .inl (fun _ => 0)))] := hD
  refine lv_aload_n hx hb dX5_read_11 rfl (lv_at hl 0 rfl) ?_
  refine va_get (ci := 5) (v := .ref (a 30)) (C := RX5) (T := TX5) (N := 8) hx hb htA in_X5 hown hK hP 0 rfl rfl 0 (by decide) (htA _ wd_209) (fun _ h => h) rfl dX5_read_12 ?_
  refine lv_aload_n hx hb dX5_read_15 rfl (lv_at hl 0 rfl) ?_
  refine va_get (ci := 5) (v := .ref q1) (C := RX5) (T := TX5) (N := 8) hx hb htA in_X5 hown hK hP 0 rfl rfl 3 (by decide) (htA _ wd_215) (fun _ h => h) rfl dX5_read_16 ?_
  refine kVv (As := [.ref q1]) (rest := []) (wr := [((a 2), .inr (5, [.ref (a 30), .int 0, .int 0, .ref q1, .ref (a 36), .ref (a 39), .int 0, .int 0])), ((a 36), .inr (7, [.ref (a 37), .ref (a 38), .int 0, .int 0, .int 0, .int 0])), ((a 37), .inl (cy 0, 901, .inl (fun _ => 0))), ((a 38), .inl (cy 0, 901, .inl (fun _ => 0))), (q1, .inr (0, [.int 0, .int 1, .int 1, .int 0, .int 0, .ref q2, .ref q3, .ref q4, .null, .null])), (q2, .inl (cy 0, 8, .inl (fun _ => 0))), (q3, .inl (cy 0, 32, .inl (fun _ => 0))), (q4, .inl (cy 0, 4, .inl (fun _ => 0)))]) hX hE (au_X6_begin_63 l D cy a q1) (cwVA 1 htA wd_608 wd_605 wd_6 wd_606 wd_607 (by decide +kernel) ⟨by decide, by decide⟩) hP hD hS [1, 2] [0, 3, 4, 5, 6, 7, 8, 9] rfl rfl (by decide) 0 rfl rfl rfl rfl hl.1 rfl (Nat.le_of_ble_eq_true rfl) dX5_read_19 (by decide) (fun W1 H locs hw hP hD hS => ?_)
  refine W.widen (k := 4) (n := 54) (by decide) (by decide) ?_
  obtain rfl := hw
  have hP : va_P D vwCl [((a 2), .inr (5, [.ref (a 30), .int 0, .int 0, .ref q1, .ref (a 36), .ref (a 39), .int 0, .int 0])), ((a 36), .inr (7, [.ref (a 37), .ref (a 38), .int 0, .int 0, .int 0, .int 0])), ((a 37), .inl (cy 0, 901, .inl (fun _ => 0))), ((a 38), .inl (cy 0, 901, .inl (fun _ => 0))), (q1, .inr (0, [.int 0, .int 1, .int 1, .int 0, .int 0, .ref q2, .ref q3, .ref q4, .null, .null])), (q2, .inl (cy 0, 8, .inl (fun _ => 0))), (q3, .inl (cy 0, 32, .inl (fun _ => 0))), (q4, .inl (cy 0, 4, .inl (fun _ => 0))), ((a 30), .inr (6, [.ref q1, .int 0, .ref (a 31), .ref (a 32), .ref (a 33), .ref (a 34), .ref (a 35), .int 0])), ((a 35), .inl (cy 0, 4, .inl (fun _ => 0)))] H := hP
  have hD : va_D A [((a 2), .inr (5, [.ref (a 30), .int 0, .int 0, .ref q1, .ref (a 36), .ref (a 39), .int 0, .int 0])), ((a 36), .inr (7, [.ref (a 37), .ref (a 38), .int 0, .int 0, .int 0, .int 0])), ((a 37), .inl (cy 0, 901, .inl (fun _ => 0))), ((a 38), .inl (cy 0, 901, .inl (fun _ => 0))), (q1, .inr (0, [.int 0, .int 1, .int 1, .int 0, .int 0, .ref q2, .ref q3, .ref q4, .null, .null])), (q2, .inl (cy 0, 8, .inl (fun _ => 0))), (q3, .inl (cy 0, 32, .inl (fun _ => 0))), (q4, .inl (cy 0, 4, .inl (fun _ => 0))), ((a 30), .inr (6, [.ref q1, .int 0, .ref (a 31), .ref (a 32), .ref (a 33), .ref (a 34), .ref (a 35), .int 0])), ((a 35), .inl (cy 0, 4, .inl (fun _ => 0)))] := hD
  refine lv_aload_n hx hb dX5_read_22 rfl (lv_at hl 0 rfl) ?_
  refine lv_iconst (v := 0) hx hb dX5_read_23 (by decide) ?_
  refine va_put (ci := 5) (v := .int 0) (ty := .int) (C := RX5) (T := TX5) (N := 8) hx hb htA in_X5 tyX5 tyX5_ok nmX5 hown hK hP hD hS 0 rfl rfl 1 (by decide) (htA _ wd_211) (fun _ h => h) rfl (by decide +kernel) rfl rfl (Nat.le_of_ble_eq_true rfl) dX5_read_24 (fun H locs hP hD hS => ?_)
  have hP : va_P D vwCl [((a 2), .inr (5, [.ref (a 30), .int 0, .int 0, .ref q1, .ref (a 36), .ref (a 39), .int 0, .int 0])), ((a 36), .inr (7, [.ref (a 37), .ref (a 38), .int 0, .int 0, .int 0, .int 0])), ((a 37), .inl (cy 0, 901, .inl (fun _ => 0))), ((a 38), .inl (cy 0, 901, .inl (fun _ => 0))), (q1, .inr (0, [.int 0, .int 1, .int 1, .int 0, .int 0, .ref q2, .ref q3, .ref q4, .null, .null])), (q2, .inl (cy 0, 8, .inl (fun _ => 0))), (q3, .inl (cy 0, 32, .inl (fun _ => 0))), (q4, .inl (cy 0, 4, .inl (fun _ => 0))), ((a 30), .inr (6, [.ref q1, .int 0, .ref (a 31), .ref (a 32), .ref (a 33), .ref (a 34), .ref (a 35), .int 0])), ((a 35), .inl (cy 0, 4, .inl (fun _ => 0)))] H := hP
  have hD : va_D A [((a 2), .inr (5, [.ref (a 30), .int 0, .int 0, .ref q1, .ref (a 36), .ref (a 39), .int 0, .int 0])), ((a 36), .inr (7, [.ref (a 37), .ref (a 38), .int 0, .int 0, .int 0, .int 0])), ((a 37), .inl (cy 0, 901, .inl (fun _ => 0))), ((a 38), .inl (cy 0, 901, .inl (fun _ => 0))), (q1, .inr (0, [.int 0, .int 1, .int 1, .int 0, .int 0, .ref q2, .ref q3, .ref q4, .null, .null])), (q2, .inl (cy 0, 8, .inl (fun _ => 0))), (q3, .inl (cy 0, 32, .inl (fun _ => 0))), (q4, .inl (cy 0, 4, .inl (fun _ => 0))), ((a 30), .inr (6, [.ref q1, .int 0, .ref (a 31), .ref (a 32), .ref (a 33), .ref (a 34), .ref (a 35), .int 0])), ((a 35), .inl (cy 0, 4, .inl (fun _ => 0)))] := hD
  refine lv_aload_n hx hb dX5_read_27 rfl (lv_at hl 0 rfl) ?_
  refine lv_iconst (v := (-1)) hx hb dX5_read_28 (by decide) ?_
  refine va_put (ci := 5) (v := .int (-1)) (ty := .int) (C := RX5) (T := TX5) (N := 8) hx hb htA in_X5 tyX5 tyX5_ok nmX5 hown hK hP hD hS 0 rfl rfl 2 (by decide) (htA _ wd_213) (fun _ h => h) rfl (by decide +kernel) rfl rfl (Nat.le_of_ble_eq_true rfl) dX5_read_29 (fun H locs hP hD hS => ?_)
  have hP : va_P D vwCl [((a 2), .inr (5, [.ref (a 30), .int 0, .int (-1), .ref q1, .ref (a 36), .ref (a 39), .int 0, .int 0])), ((a 36), .inr (7, [.ref (a 37), .ref (a 38), .int 0, .int 0, .int 0, .int 0])), ((a 37), .inl (cy 0, 901, .inl (fun _ => 0))), ((a 38), .inl (cy 0, 901, .inl (fun _ => 0))), (q1, .inr (0, [.int 0, .int 1, .int 1, .int 0, .int 0, .ref q2, .ref q3, .ref q4, .null, .null])), (q2, .inl (cy 0, 8, .inl (fun _ => 0))), (q3, .inl (cy 0, 32, .inl (fun _ => 0))), (q4, .inl (cy 0, 4, .inl (fun _ => 0))), ((a 30), .inr (6, [.ref q1, .int 0, .ref (a 31), .ref (a 32), .ref (a 33), .ref (a 34), .ref (a 35), .int 0])), ((a 35), .inl (cy 0, 4, .inl (fun _ => 0)))] H := hP
  have hD : va_D A [((a 2), .inr (5, [.ref (a 30), .int 0, .int (-1), .ref q1, .ref (a 36), .ref (a 39), .int 0, .int 0])), ((a 36), .inr (7, [.ref (a 37), .ref (a 38), .int 0, .int 0, .int 0, .int 0])), ((a 37), .inl (cy 0, 901, .inl (fun _ => 0))), ((a 38), .inl (cy 0, 901, .inl (fun _ => 0))), (q1, .inr (0, [.int 0, .int 1, .int 1, .int 0, .int 0, .ref q2, .ref q3, .ref q4, .null, .null])), (q2, .inl (cy 0, 8, .inl (fun _ => 0))), (q3, .inl (cy 0, 32, .inl (fun _ => 0))), (q4, .inl (cy 0, 4, .inl (fun _ => 0))), ((a 30), .inr (6, [.ref q1, .int 0, .ref (a 31), .ref (a 32), .ref (a 33), .ref (a 34), .ref (a 35), .int 0])), ((a 35), .inl (cy 0, 4, .inl (fun _ => 0)))] := hD
  refine lv_aload_n hx hb dX5_read_32 rfl (lv_at hl 0 rfl) ?_
  refine va_get (ci := 5) (v := .ref (a 36)) (C := RX5) (T := TX5) (N := 8) hx hb htA in_X5 hown hK hP 0 rfl rfl 4 (by decide) (htA _ wd_216) (fun _ h => h) rfl dX5_read_33 ?_
  refine lv_aload_n hx hb dX5_read_36 rfl (lv_at hl 1 rfl) ?_
  refine lv_iload_n hx hb dX5_read_37 rfl (lv_at hl 2 rfl) ?_
  refine kVv (As := [.ref (a 1), .int 0]) (rest := []) (wr := [((a 2), .inr (5, [.ref (a 30), .int 0, .int (-1), .ref q1, .ref (a 36), .ref (a 39), .int 0, .int 0])), (q1, .inr (0, [.int 0, .int 1, .int 1, .int 0, .int 0, .ref q2, .ref q3, .ref q4, .null, .null])), (q2, .inl (cy 0, 8, .inl (fun _ => 0))), (q3, .inl (cy 0, 32, .inl (fun _ => 0))), (q4, .inl (cy 0, 4, .inl (fun _ => 0))), ((a 30), .inr (6, [.ref q1, .int 0, .ref (a 31), .ref (a 32), .ref (a 33), .ref (a 34), .ref (a 35), .int 0])), ((a 35), .inl (cy 0, 4, .inl (fun _ => 0)))]) hX hE (au_X7_scan_65 l D cy a) (cwVA 2 htA wd_612 wd_609 wd_5 wd_610 wd_611 (by decide +kernel) ⟨by decide, by decide⟩) hP hD hS [1, 2, 3] [0, 4, 5, 6, 7, 8, 9] rfl rfl (by decide) 0 rfl rfl rfl rfl hl.1 rfl (Nat.le_of_ble_eq_true rfl) dX5_read_38 (by decide) (fun W1 H locs hw hP hD hS => ?_)
  refine W.widen (k := 4) (n := 54) (by decide) (by decide) ?_
  obtain rfl := hw
  have hP : va_P D vwCl [((a 2), .inr (5, [.ref (a 30), .int 0, .int (-1), .ref q1, .ref (a 36), .ref (a 39), .int 0, .int 0])), (q1, .inr (0, [.int 0, .int 1, .int 1, .int 0, .int 0, .ref q2, .ref q3, .ref q4, .null, .null])), (q2, .inl (cy 0, 8, .inl (fun _ => 0))), (q3, .inl (cy 0, 32, .inl (fun _ => 0))), (q4, .inl (cy 0, 4, .inl (fun _ => 0))), ((a 30), .inr (6, [.ref q1, .int 0, .ref (a 31), .ref (a 32), .ref (a 33), .ref (a 34), .ref (a 35), .int 0])), ((a 35), .inl (cy 0, 4, .inl (fun _ => 0))), ((a 36), .inr (7, [.ref (a 37), .ref (a 38), .int 1, .int 0, .int 0, .int 0])), ((a 37), .inl (cy 0, 901, .inl (fun _ => 0))), ((a 38), .inl (cy 0, 901, .inl (fun _ => 0)))] H := hP
  have hD : va_D A [((a 2), .inr (5, [.ref (a 30), .int 0, .int (-1), .ref q1, .ref (a 36), .ref (a 39), .int 0, .int 0])), (q1, .inr (0, [.int 0, .int 1, .int 1, .int 0, .int 0, .ref q2, .ref q3, .ref q4, .null, .null])), (q2, .inl (cy 0, 8, .inl (fun _ => 0))), (q3, .inl (cy 0, 32, .inl (fun _ => 0))), (q4, .inl (cy 0, 4, .inl (fun _ => 0))), ((a 30), .inr (6, [.ref q1, .int 0, .ref (a 31), .ref (a 32), .ref (a 33), .ref (a 34), .ref (a 35), .int 0])), ((a 35), .inl (cy 0, 4, .inl (fun _ => 0))), ((a 36), .inr (7, [.ref (a 37), .ref (a 38), .int 1, .int 0, .int 0, .int 0])), ((a 37), .inl (cy 0, 901, .inl (fun _ => 0))), ((a 38), .inl (cy 0, 901, .inl (fun _ => 0)))] := hD
  refine lv_aload_n hx hb dX5_read_41 rfl (lv_at hl 0 rfl) ?_
  refine kVv (As := []) (rest := []) (wr := [(q2, .inl (cy 0, 8, .inl (fun _ => 0))), (q3, .inl (cy 0, 32, .inl (fun _ => 0))), (q4, .inl (cy 0, 4, .inl (fun _ => 0))), ((a 30), .inr (6, [.ref q1, .int 0, .ref (a 31), .ref (a 32), .ref (a 33), .ref (a 34), .ref (a 35), .int 0])), ((a 35), .inl (cy 0, 4, .inl (fun _ => 0))), ((a 37), .inl (cy 0, 901, .inl (fun _ => 0))), ((a 38), .inl (cy 0, 901, .inl (fun _ => 0)))]) hX hE (au_X5_fallLine_76 l D cy a q1 q2 q3 q4) (cwVA 0 htA wd_737 wd_734 wd_4 wd_736 wp_6 (by decide +kernel) ⟨by decide, by decide⟩) hP hD hS [0, 1, 7] [2, 3, 4, 5, 6, 8, 9] rfl rfl (by decide) 0 rfl rfl rfl rfl hl.1 rfl (Nat.le_of_ble_eq_true rfl) dX5_read_42 (by decide) (fun W1 H locs hw hP hD hS => ?_)
  refine W.widen (k := 4) (n := 54) (by decide) (by decide) ?_
  obtain rfl := hw
  have hP : va_P D vwCl [(q2, .inl (cy 0, 8, .inl (fun _ => 0))), (q3, .inl (cy 0, 32, .inl (fun _ => 0))), (q4, .inl (cy 0, 4, .inl (fun _ => 0))), ((a 30), .inr (6, [.ref q1, .int 0, .ref (a 31), .ref (a 32), .ref (a 33), .ref (a 34), .ref (a 35), .int 0])), ((a 35), .inl (cy 0, 4, .inl (fun _ => 0))), ((a 37), .inl (cy 0, 901, .inl (fun _ => 0))), ((a 38), .inl (cy 0, 901, .inl (fun _ => 0))), (q1, .inr (0, [.int 1, .int 1, .int 1, .int 0, .int 0, .ref q2, .ref q3, .ref q4, .null, .null])), ((a 36), .inr (7, [.ref (a 37), .ref (a 38), .int 0, .int 0, .int 1, .int 0])), ((a 2), .inr (5, [.ref (a 30), .int 2, .int 0, .ref q1, .ref (a 36), .ref (a 39), .int 0, .int 0]))] H := hP
  have hD : va_D A [(q2, .inl (cy 0, 8, .inl (fun _ => 0))), (q3, .inl (cy 0, 32, .inl (fun _ => 0))), (q4, .inl (cy 0, 4, .inl (fun _ => 0))), ((a 30), .inr (6, [.ref q1, .int 0, .ref (a 31), .ref (a 32), .ref (a 33), .ref (a 34), .ref (a 35), .int 0])), ((a 35), .inl (cy 0, 4, .inl (fun _ => 0))), ((a 37), .inl (cy 0, 901, .inl (fun _ => 0))), ((a 38), .inl (cy 0, 901, .inl (fun _ => 0))), (q1, .inr (0, [.int 1, .int 1, .int 1, .int 0, .int 0, .ref q2, .ref q3, .ref q4, .null, .null])), ((a 36), .inr (7, [.ref (a 37), .ref (a 38), .int 0, .int 0, .int 1, .int 0])), ((a 2), .inr (5, [.ref (a 30), .int 2, .int 0, .ref q1, .ref (a 36), .ref (a 39), .int 0, .int 0]))] := hD
  refine lv_iconst (v := 0) hx hb dX5_read_45 (by decide) ?_
  refine lv_istore_n (lv' := [(3, .int 0), (0, .ref (a 2)), (1, .ref (a 1)), (2, .int 0)]) hx hb dX5_read_46 rfl hl (by decide) rfl (fun ls hl => ?_)
  refine lv_iload_n hx hb dX5_read_47 rfl (lv_at hl 0 rfl) ?_
  refine lv_sipush (v := 900) hx hb dX5_read_48 (by decide) ?_
  refine lv_icmp_ge (tgt := 187) hx hb dX5_read_51 (by decide) (fun q => absurd q (by decide)) (fun _ => ?_)
  refine lv_aload_n hx hb dX5_read_54 rfl (lv_at hl 1 rfl) ?_
  refine va_get (ci := 5) (v := .int 2) (C := RX5) (T := TX5) (N := 8) hx hb htA in_X5 hown hK hP 9 rfl rfl 1 (by decide) (htA _ wd_211) (fun _ h => h) rfl dX5_read_55 ?_
  refine lv_if_ne (tgt := 187) hx hb dX5_read_58 (by decide) (fun _ => ?_) (fun q => absurd q (by decide))
  refine lv_aload_n hx hb dX5_read_187 rfl (lv_at hl 1 rfl) ?_
  refine kVv (As := []) (rest := []) (wr := [(q2, .inl (cy 0, 8, .inl (fun _ => 0))), (q3, .inl (cy 0, 32, .inl (fun _ => 0))), (q4, .inl (cy 0, 4, .inl (fun _ => 0))), ((a 30), .inr (6, [.ref q1, .int 0, .ref (a 31), .ref (a 32), .ref (a 33), .ref (a 34), .ref (a 35), .int 0])), ((a 35), .inl (cy 0, 4, .inl (fun _ => 0))), ((a 37), .inl (cy 0, 901, .inl (fun _ => 0))), ((a 38), .inl (cy 0, 901, .inl (fun _ => 0))), ((a 36), .inr (7, [.ref (a 37), .ref (a 38), .int 0, .int 0, .int 1, .int 0]))]) hX hE (au_X5_countFromHour_77 l D cy a q1 q2 q3 q4) (cwVA 0 htA wd_851 wd_848 wd_4 wd_850 wp_25 (by decide +kernel) ⟨by decide, by decide⟩) hP hD hS [7, 9] [0, 1, 2, 3, 4, 5, 6, 8] rfl rfl (by decide) 1 rfl rfl rfl rfl hl.1 rfl (Nat.le_of_ble_eq_true rfl) dX5_read_188 (by decide) (fun W1 H locs hw hP hD hS => ?_)
  refine W.widen (k := 4) (n := 54) (by decide) (by decide) ?_
  obtain rfl := hw
  have hP : va_P D vwCl [(q2, .inl (cy 0, 8, .inl (fun _ => 0))), (q3, .inl (cy 0, 32, .inl (fun _ => 0))), (q4, .inl (cy 0, 4, .inl (fun _ => 0))), ((a 30), .inr (6, [.ref q1, .int 0, .ref (a 31), .ref (a 32), .ref (a 33), .ref (a 34), .ref (a 35), .int 0])), ((a 35), .inl (cy 0, 4, .inl (fun _ => 0))), ((a 37), .inl (cy 0, 901, .inl (fun _ => 0))), ((a 38), .inl (cy 0, 901, .inl (fun _ => 0))), ((a 36), .inr (7, [.ref (a 37), .ref (a 38), .int 0, .int 0, .int 1, .int 0])), (q1, .inr (0, [.int 1, .int 1, .int 1, .int 0, .int 0, .ref q2, .ref q3, .ref q4, .null, .null])), ((a 2), .inr (5, [.ref (a 30), .int 2, .int 0, .ref q1, .ref (a 36), .ref (a 39), .int 0, .int 0]))] H := hP
  have hD : va_D A [(q2, .inl (cy 0, 8, .inl (fun _ => 0))), (q3, .inl (cy 0, 32, .inl (fun _ => 0))), (q4, .inl (cy 0, 4, .inl (fun _ => 0))), ((a 30), .inr (6, [.ref q1, .int 0, .ref (a 31), .ref (a 32), .ref (a 33), .ref (a 34), .ref (a 35), .int 0])), ((a 35), .inl (cy 0, 4, .inl (fun _ => 0))), ((a 37), .inl (cy 0, 901, .inl (fun _ => 0))), ((a 38), .inl (cy 0, 901, .inl (fun _ => 0))), ((a 36), .inr (7, [.ref (a 37), .ref (a 38), .int 0, .int 0, .int 1, .int 0])), (q1, .inr (0, [.int 1, .int 1, .int 1, .int 0, .int 0, .ref q2, .ref q3, .ref q4, .null, .null])), ((a 2), .inr (5, [.ref (a 30), .int 2, .int 0, .ref q1, .ref (a 36), .ref (a 39), .int 0, .int 0]))] := hD
  exact rV hX hE hP hD hS dX5_read_191 (by decide) (by decide) (⟨q1, q2, q3, q4, rfl⟩)
set_option maxHeartbeats 4000000 in
set_option maxRecDepth 100000 in
theorem m_district (l : Launch) (hlt : l.stackTraces = false) (D : va_G) (cy : Nat → ClassId) (a : Nat → Nat) (p1 : Int32) : Xi l yX10_district cX10_district 2 (some .int) { frames := 6, cells := 4, slots := 54, locals := 105 } D cy [.ref (a 0), .int p1] [((a 0), .inr (10, [.ref (a 1), .int 0, .int 0, .int (-1), .ref (a 2), .ref (a 3), .ref (a 4), .ref (a 5), .ref (a 6), .ref (a 7), .ref (a 8), .ref (a 9), .int 0])), ((a 1), .inl (cy 1, 900, .inl (fun _ => 0))), ((a 2), .inr (5, [.ref (a 30), .int 0, .int 0, .ref (a 10), .ref (a 36), .ref (a 39), .int 0, .int 0])), ((a 30), .inr (6, [.ref (a 10), .int 0, .ref (a 31), .ref (a 32), .ref (a 33), .ref (a 34), .ref (a 35), .int 0])), ((a 31), .inl (cy 0, 8, .inl (fun _ => 0))), ((a 32), .inl (cy 0, 8, .inl (fun _ => 0))), ((a 33), .inl (cy 0, 8, .inl (fun _ => 0))), ((a 34), .inl (cy 0, 8, .inl (fun _ => 0))), ((a 35), .inl (cy 0, 4, .inl (fun _ => 0))), ((a 36), .inr (7, [.ref (a 37), .ref (a 38), .int 0, .int 0, .int 0, .int 0])), ((a 37), .inl (cy 0, 901, .inl (fun _ => 0))), ((a 38), .inl (cy 0, 901, .inl (fun _ => 0))), ((a 39), .inl (cy 0, 900, .inl (fun _ => 0))), ((a 3), .inr (6, [.ref (a 10), .int 0, .ref (a 21), .ref (a 22), .ref (a 23), .ref (a 24), .ref (a 25), .int 0])), ((a 21), .inl (cy 0, 8, .inl (fun _ => 0))), ((a 22), .inl (cy 0, 8, .inl (fun _ => 0))), ((a 23), .inl (cy 0, 8, .inl (fun _ => 0))), ((a 24), .inl (cy 0, 8, .inl (fun _ => 0))), ((a 25), .inl (cy 0, 4, .inl (fun _ => 0))), ((a 10), .inr (0, [.int 0, .int 1, .int 1, .int 0, .int 0, .ref (a 11), .ref (a 12), .ref (a 13), .null, .null])), ((a 4), .inr (2, [.ref (a 70), .int 0, .int 0])), ((a 70), .inl (cy 4, 10, .inr (.inr (.inr (.inr (va_up (va_up (va_up (va_up (va_up (va_up (va_up (va_up (va_up (va_up (fun _ => none) (0 : Int32).toNatClampNeg (some (a 100))) (1 : Int32).toNatClampNeg (some (a 110))) (2 : Int32).toNatClampNeg (some (a 120))) (3 : Int32).toNatClampNeg (some (a 130))) (4 : Int32).toNatClampNeg (some (a 140))) (5 : Int32).toNatClampNeg (some (a 150))) (6 : Int32).toNatClampNeg (some (a 160))) (7 : Int32).toNatClampNeg (some (a 170))) (8 : Int32).toNatClampNeg (some (a 180))) (9 : Int32).toNatClampNeg (some (a 190))))))))] (fun r _ => kf_district p1 = 0 ∧ r.toInt64 = vf_district p1) (fun E _ => (E = "java/lang/IllegalArgumentException" ∧ kf_district p1 = 1)) := by
  refine Xi.of (by decide) (Nat.le_of_ble_eq_true rfl) ?_
  intro p e s m below meth c A ls hX hE hP hD hl hxt
  obtain ⟨hx, hb, hr, hml, hown, htA, hlk⟩ := id hX
  have hK := hE.1
  have hS : va_S A s.heap s.heap [] := va_S.rf
  have hl : lv_has ls 2 [(0, .ref (a 0)), (1, .int p1)] := hl
  refine lv_iload_n hx hb dX10_district_0 rfl (lv_at hl 1 rfl) ?_
  refine lv_if_lt (tgt := 12) hx hb dX10_district_1 (by decide) (fun c1 => ?_) (fun c1 => ?_)
  · exact k_throwS hlt hX hE hxt hP hD hS hl.1 (by decide) (htA _ wd_531) (htA _ wd_14) (xSW_in hE.2.2.2 "LateFalls" 85 "not so many bytes" (by decide)) (at_X10_87 htA hE.2.2.2) ot_X10_83_87 dX10_district_12 dX10_district_15 dX10_district_16 dX10_district_18 dX10_district_21 (by decide) (by decide) (by decide) (by decide) (by decide) (by decide) (⟨rfl, (by have kc1 := c1; (try simp only [lg_cmp_lt, lg_cmp_le, lg_cmp_ge, lg_cmp_gt, lg_cmp_eq, fa_lt, fa_le, fa_eq, fa_lt64, fa_le64, fa_eq64, Int32.toInt_toInt64, li_0, lj_0] at kc1); first | rfl | (unfold kf_district; (repeat' split) <;> first | rfl | (exfalso; omega)))⟩)
  · refine lv_iload_n hx hb dX10_district_4 rfl (lv_at hl 1 rfl) ?_
    refine lv_aload_n hx hb dX10_district_5 rfl (lv_at hl 0 rfl) ?_
    refine va_get (ci := 10) (v := .int 0) (C := RX10) (T := TX10) (N := 13) hx hb htA in_X10 hown hK hP 0 rfl rfl 1 (by decide) (htA _ wd_309) (fun _ h => h) rfl dX10_district_6 ?_
    refine lv_icmp_le (tgt := 22) hx hb dX10_district_9 (by decide) (fun c2 => ?_) (fun c2 => ?_)
    · obtain rfl : p1 = 0 := (by have kc1 := c1; have kc2 := c2; (try simp only [lg_cmp_lt, lg_cmp_le, lg_cmp_ge, lg_cmp_gt, lg_cmp_eq, fa_lt, fa_le, fa_eq, fa_lt64, fa_le64, fa_eq64, Int32.toInt_toInt64, li_0, lj_0] at kc1); (try simp only [lg_cmp_lt, lg_cmp_le, lg_cmp_ge, lg_cmp_gt, lg_cmp_eq, fa_lt, fa_le, fa_eq, fa_lt64, fa_le64, fa_eq64, Int32.toInt_toInt64, li_0, lj_0] at kc2); rw [fa_eq, li_0]; omega)
      refine lv_aload_n hx hb dX10_district_22 rfl (lv_at hl 0 rfl) ?_
      refine va_get (ci := 10) (v := .ref (a 2)) (C := RX10) (T := TX10) (N := 13) hx hb htA in_X10 hown hK hP 0 rfl rfl 4 (by decide) (htA _ wd_312) (fun _ h => h) rfl dX10_district_23 ?_
      refine lv_aload_n hx hb dX10_district_26 rfl (lv_at hl 0 rfl) ?_
      refine va_get (ci := 10) (v := .ref (a 1)) (C := RX10) (T := TX10) (N := 13) hx hb htA in_X10 hown hK hP 0 rfl rfl 0 (by decide) (htA _ wd_308) (fun _ h => h) rfl dX10_district_27 ?_
      refine lv_iload_n hx hb dX10_district_30 rfl (lv_at hl 1 rfl) ?_
      refine kVv (As := [.ref (a 1), .int 0]) (rest := []) (wr := [((a 0), .inr (10, [.ref (a 1), .int 0, .int 0, .int (-1), .ref (a 2), .ref (a 3), .ref (a 4), .ref (a 5), .ref (a 6), .ref (a 7), .ref (a 8), .ref (a 9), .int 0])), ((a 1), .inl (cy 1, 900, .inl (fun _ => 0))), ((a 31), .inl (cy 0, 8, .inl (fun _ => 0))), ((a 32), .inl (cy 0, 8, .inl (fun _ => 0))), ((a 33), .inl (cy 0, 8, .inl (fun _ => 0))), ((a 34), .inl (cy 0, 8, .inl (fun _ => 0))), ((a 39), .inl (cy 0, 900, .inl (fun _ => 0))), ((a 3), .inr (6, [.ref (a 10), .int 0, .ref (a 21), .ref (a 22), .ref (a 23), .ref (a 24), .ref (a 25), .int 0])), ((a 21), .inl (cy 0, 8, .inl (fun _ => 0))), ((a 22), .inl (cy 0, 8, .inl (fun _ => 0))), ((a 23), .inl (cy 0, 8, .inl (fun _ => 0))), ((a 24), .inl (cy 0, 8, .inl (fun _ => 0))), ((a 25), .inl (cy 0, 4, .inl (fun _ => 0))), ((a 10), .inr (0, [.int 0, .int 1, .int 1, .int 0, .int 0, .ref (a 11), .ref (a 12), .ref (a 13), .null, .null])), ((a 4), .inr (2, [.ref (a 70), .int 0, .int 0])), ((a 70), .inl (cy 4, 10, .inr (.inr (.inr (.inr (va_up (va_up (va_up (va_up (va_up (va_up (va_up (va_up (va_up (va_up (fun _ => none) (0 : Int32).toNatClampNeg (some (a 100))) (1 : Int32).toNatClampNeg (some (a 110))) (2 : Int32).toNatClampNeg (some (a 120))) (3 : Int32).toNatClampNeg (some (a 130))) (4 : Int32).toNatClampNeg (some (a 140))) (5 : Int32).toNatClampNeg (some (a 150))) (6 : Int32).toNatClampNeg (some (a 160))) (7 : Int32).toNatClampNeg (some (a 170))) (8 : Int32).toNatClampNeg (some (a 180))) (9 : Int32).toNatClampNeg (some (a 190))))))))]) hX hE (au_X5_read_78 l D cy a) (cwVA 2 htA wd_602 wd_599 wd_4 wd_600 wd_601 (by decide +kernel) ⟨by decide, by decide⟩) hP hD hS [2, 3, 8, 9, 10, 11] [0, 1, 4, 5, 6, 7, 12, 13, 14, 15, 16, 17, 18, 19, 20, 21] rfl rfl (by decide) 0 rfl rfl rfl rfl hl.1 rfl (Nat.le_of_ble_eq_true rfl) dX10_district_31 (by decide) (fun W1 H locs hw hP hD hS => ?_)
      refine W.widen (k := 4) (n := 54) (by decide) (by decide) ?_
      obtain ⟨q3, q4, q5, q6, rfl⟩ := hw
      have hP : va_P D vwCl [((a 0), .inr (10, [.ref (a 1), .int 0, .int 0, .int (-1), .ref (a 2), .ref (a 3), .ref (a 4), .ref (a 5), .ref (a 6), .ref (a 7), .ref (a 8), .ref (a 9), .int 0])), ((a 1), .inl (cy 1, 900, .inl (fun _ => 0))), ((a 31), .inl (cy 0, 8, .inl (fun _ => 0))), ((a 32), .inl (cy 0, 8, .inl (fun _ => 0))), ((a 33), .inl (cy 0, 8, .inl (fun _ => 0))), ((a 34), .inl (cy 0, 8, .inl (fun _ => 0))), ((a 39), .inl (cy 0, 900, .inl (fun _ => 0))), ((a 3), .inr (6, [.ref (a 10), .int 0, .ref (a 21), .ref (a 22), .ref (a 23), .ref (a 24), .ref (a 25), .int 0])), ((a 21), .inl (cy 0, 8, .inl (fun _ => 0))), ((a 22), .inl (cy 0, 8, .inl (fun _ => 0))), ((a 23), .inl (cy 0, 8, .inl (fun _ => 0))), ((a 24), .inl (cy 0, 8, .inl (fun _ => 0))), ((a 25), .inl (cy 0, 4, .inl (fun _ => 0))), ((a 10), .inr (0, [.int 0, .int 1, .int 1, .int 0, .int 0, .ref (a 11), .ref (a 12), .ref (a 13), .null, .null])), ((a 4), .inr (2, [.ref (a 70), .int 0, .int 0])), ((a 70), .inl (cy 4, 10, .inr (.inr (.inr (.inr (va_up (va_up (va_up (va_up (va_up (va_up (va_up (va_up (va_up (va_up (fun _ => none) (0 : Int32).toNatClampNeg (some (a 100))) (1 : Int32).toNatClampNeg (some (a 110))) (2 : Int32).toNatClampNeg (some (a 120))) (3 : Int32).toNatClampNeg (some (a 130))) (4 : Int32).toNatClampNeg (some (a 140))) (5 : Int32).toNatClampNeg (some (a 150))) (6 : Int32).toNatClampNeg (some (a 160))) (7 : Int32).toNatClampNeg (some (a 170))) (8 : Int32).toNatClampNeg (some (a 180))) (9 : Int32).toNatClampNeg (some (a 190)))))))), (q4, .inl (cy 0, 8, .inl (fun _ => 0))), (q5, .inl (cy 0, 32, .inl (fun _ => 0))), (q6, .inl (cy 0, 4, .inl (fun _ => 0))), ((a 30), .inr (6, [.ref q3, .int 0, .ref (a 31), .ref (a 32), .ref (a 33), .ref (a 34), .ref (a 35), .int 0])), ((a 35), .inl (cy 0, 4, .inl (fun _ => 0))), ((a 37), .inl (cy 0, 901, .inl (fun _ => 0))), ((a 38), .inl (cy 0, 901, .inl (fun _ => 0))), ((a 36), .inr (7, [.ref (a 37), .ref (a 38), .int 0, .int 0, .int 1, .int 0])), (q3, .inr (0, [.int 1, .int 1, .int 1, .int 0, .int 0, .ref q4, .ref q5, .ref q6, .null, .null])), ((a 2), .inr (5, [.ref (a 30), .int 2, .int 0, .ref q3, .ref (a 36), .ref (a 39), .int 0, .int 0]))] H := hP
      have hD : va_D A [((a 0), .inr (10, [.ref (a 1), .int 0, .int 0, .int (-1), .ref (a 2), .ref (a 3), .ref (a 4), .ref (a 5), .ref (a 6), .ref (a 7), .ref (a 8), .ref (a 9), .int 0])), ((a 1), .inl (cy 1, 900, .inl (fun _ => 0))), ((a 31), .inl (cy 0, 8, .inl (fun _ => 0))), ((a 32), .inl (cy 0, 8, .inl (fun _ => 0))), ((a 33), .inl (cy 0, 8, .inl (fun _ => 0))), ((a 34), .inl (cy 0, 8, .inl (fun _ => 0))), ((a 39), .inl (cy 0, 900, .inl (fun _ => 0))), ((a 3), .inr (6, [.ref (a 10), .int 0, .ref (a 21), .ref (a 22), .ref (a 23), .ref (a 24), .ref (a 25), .int 0])), ((a 21), .inl (cy 0, 8, .inl (fun _ => 0))), ((a 22), .inl (cy 0, 8, .inl (fun _ => 0))), ((a 23), .inl (cy 0, 8, .inl (fun _ => 0))), ((a 24), .inl (cy 0, 8, .inl (fun _ => 0))), ((a 25), .inl (cy 0, 4, .inl (fun _ => 0))), ((a 10), .inr (0, [.int 0, .int 1, .int 1, .int 0, .int 0, .ref (a 11), .ref (a 12), .ref (a 13), .null, .null])), ((a 4), .inr (2, [.ref (a 70), .int 0, .int 0])), ((a 70), .inl (cy 4, 10, .inr (.inr (.inr (.inr (va_up (va_up (va_up (va_up (va_up (va_up (va_up (va_up (va_up (va_up (fun _ => none) (0 : Int32).toNatClampNeg (some (a 100))) (1 : Int32).toNatClampNeg (some (a 110))) (2 : Int32).toNatClampNeg (some (a 120))) (3 : Int32).toNatClampNeg (some (a 130))) (4 : Int32).toNatClampNeg (some (a 140))) (5 : Int32).toNatClampNeg (some (a 150))) (6 : Int32).toNatClampNeg (some (a 160))) (7 : Int32).toNatClampNeg (some (a 170))) (8 : Int32).toNatClampNeg (some (a 180))) (9 : Int32).toNatClampNeg (some (a 190)))))))), (q4, .inl (cy 0, 8, .inl (fun _ => 0))), (q5, .inl (cy 0, 32, .inl (fun _ => 0))), (q6, .inl (cy 0, 4, .inl (fun _ => 0))), ((a 30), .inr (6, [.ref q3, .int 0, .ref (a 31), .ref (a 32), .ref (a 33), .ref (a 34), .ref (a 35), .int 0])), ((a 35), .inl (cy 0, 4, .inl (fun _ => 0))), ((a 37), .inl (cy 0, 901, .inl (fun _ => 0))), ((a 38), .inl (cy 0, 901, .inl (fun _ => 0))), ((a 36), .inr (7, [.ref (a 37), .ref (a 38), .int 0, .int 0, .int 1, .int 0])), (q3, .inr (0, [.int 1, .int 1, .int 1, .int 0, .int 0, .ref q4, .ref q5, .ref q6, .null, .null])), ((a 2), .inr (5, [.ref (a 30), .int 2, .int 0, .ref q3, .ref (a 36), .ref (a 39), .int 0, .int 0]))] := hD
      refine lv_aload_n hx hb dX10_district_34 rfl (lv_at hl 0 rfl) ?_
      refine lv_iconst (v := 0) hx hb dX10_district_35 (by decide) ?_
      refine va_put (ci := 10) (v := .int 0) (ty := .int) (C := RX10) (T := TX10) (N := 13) hx hb htA in_X10 tyX10 tyX10_ok nmX10 hown hK hP hD hS 0 rfl rfl 1 (by decide) (htA _ wd_309) (fun _ h => h) rfl (by decide +kernel) rfl rfl (Nat.le_of_ble_eq_true rfl) dX10_district_36 (fun H locs hP hD hS => ?_)
      have hP : va_P D vwCl [((a 0), .inr (10, [.ref (a 1), .int 0, .int 0, .int (-1), .ref (a 2), .ref (a 3), .ref (a 4), .ref (a 5), .ref (a 6), .ref (a 7), .ref (a 8), .ref (a 9), .int 0])), ((a 1), .inl (cy 1, 900, .inl (fun _ => 0))), ((a 31), .inl (cy 0, 8, .inl (fun _ => 0))), ((a 32), .inl (cy 0, 8, .inl (fun _ => 0))), ((a 33), .inl (cy 0, 8, .inl (fun _ => 0))), ((a 34), .inl (cy 0, 8, .inl (fun _ => 0))), ((a 39), .inl (cy 0, 900, .inl (fun _ => 0))), ((a 3), .inr (6, [.ref (a 10), .int 0, .ref (a 21), .ref (a 22), .ref (a 23), .ref (a 24), .ref (a 25), .int 0])), ((a 21), .inl (cy 0, 8, .inl (fun _ => 0))), ((a 22), .inl (cy 0, 8, .inl (fun _ => 0))), ((a 23), .inl (cy 0, 8, .inl (fun _ => 0))), ((a 24), .inl (cy 0, 8, .inl (fun _ => 0))), ((a 25), .inl (cy 0, 4, .inl (fun _ => 0))), ((a 10), .inr (0, [.int 0, .int 1, .int 1, .int 0, .int 0, .ref (a 11), .ref (a 12), .ref (a 13), .null, .null])), ((a 4), .inr (2, [.ref (a 70), .int 0, .int 0])), ((a 70), .inl (cy 4, 10, .inr (.inr (.inr (.inr (va_up (va_up (va_up (va_up (va_up (va_up (va_up (va_up (va_up (va_up (fun _ => none) (0 : Int32).toNatClampNeg (some (a 100))) (1 : Int32).toNatClampNeg (some (a 110))) (2 : Int32).toNatClampNeg (some (a 120))) (3 : Int32).toNatClampNeg (some (a 130))) (4 : Int32).toNatClampNeg (some (a 140))) (5 : Int32).toNatClampNeg (some (a 150))) (6 : Int32).toNatClampNeg (some (a 160))) (7 : Int32).toNatClampNeg (some (a 170))) (8 : Int32).toNatClampNeg (some (a 180))) (9 : Int32).toNatClampNeg (some (a 190)))))))), (q4, .inl (cy 0, 8, .inl (fun _ => 0))), (q5, .inl (cy 0, 32, .inl (fun _ => 0))), (q6, .inl (cy 0, 4, .inl (fun _ => 0))), ((a 30), .inr (6, [.ref q3, .int 0, .ref (a 31), .ref (a 32), .ref (a 33), .ref (a 34), .ref (a 35), .int 0])), ((a 35), .inl (cy 0, 4, .inl (fun _ => 0))), ((a 37), .inl (cy 0, 901, .inl (fun _ => 0))), ((a 38), .inl (cy 0, 901, .inl (fun _ => 0))), ((a 36), .inr (7, [.ref (a 37), .ref (a 38), .int 0, .int 0, .int 1, .int 0])), (q3, .inr (0, [.int 1, .int 1, .int 1, .int 0, .int 0, .ref q4, .ref q5, .ref q6, .null, .null])), ((a 2), .inr (5, [.ref (a 30), .int 2, .int 0, .ref q3, .ref (a 36), .ref (a 39), .int 0, .int 0]))] H := hP
      have hD : va_D A [((a 0), .inr (10, [.ref (a 1), .int 0, .int 0, .int (-1), .ref (a 2), .ref (a 3), .ref (a 4), .ref (a 5), .ref (a 6), .ref (a 7), .ref (a 8), .ref (a 9), .int 0])), ((a 1), .inl (cy 1, 900, .inl (fun _ => 0))), ((a 31), .inl (cy 0, 8, .inl (fun _ => 0))), ((a 32), .inl (cy 0, 8, .inl (fun _ => 0))), ((a 33), .inl (cy 0, 8, .inl (fun _ => 0))), ((a 34), .inl (cy 0, 8, .inl (fun _ => 0))), ((a 39), .inl (cy 0, 900, .inl (fun _ => 0))), ((a 3), .inr (6, [.ref (a 10), .int 0, .ref (a 21), .ref (a 22), .ref (a 23), .ref (a 24), .ref (a 25), .int 0])), ((a 21), .inl (cy 0, 8, .inl (fun _ => 0))), ((a 22), .inl (cy 0, 8, .inl (fun _ => 0))), ((a 23), .inl (cy 0, 8, .inl (fun _ => 0))), ((a 24), .inl (cy 0, 8, .inl (fun _ => 0))), ((a 25), .inl (cy 0, 4, .inl (fun _ => 0))), ((a 10), .inr (0, [.int 0, .int 1, .int 1, .int 0, .int 0, .ref (a 11), .ref (a 12), .ref (a 13), .null, .null])), ((a 4), .inr (2, [.ref (a 70), .int 0, .int 0])), ((a 70), .inl (cy 4, 10, .inr (.inr (.inr (.inr (va_up (va_up (va_up (va_up (va_up (va_up (va_up (va_up (va_up (va_up (fun _ => none) (0 : Int32).toNatClampNeg (some (a 100))) (1 : Int32).toNatClampNeg (some (a 110))) (2 : Int32).toNatClampNeg (some (a 120))) (3 : Int32).toNatClampNeg (some (a 130))) (4 : Int32).toNatClampNeg (some (a 140))) (5 : Int32).toNatClampNeg (some (a 150))) (6 : Int32).toNatClampNeg (some (a 160))) (7 : Int32).toNatClampNeg (some (a 170))) (8 : Int32).toNatClampNeg (some (a 180))) (9 : Int32).toNatClampNeg (some (a 190)))))))), (q4, .inl (cy 0, 8, .inl (fun _ => 0))), (q5, .inl (cy 0, 32, .inl (fun _ => 0))), (q6, .inl (cy 0, 4, .inl (fun _ => 0))), ((a 30), .inr (6, [.ref q3, .int 0, .ref (a 31), .ref (a 32), .ref (a 33), .ref (a 34), .ref (a 35), .int 0])), ((a 35), .inl (cy 0, 4, .inl (fun _ => 0))), ((a 37), .inl (cy 0, 901, .inl (fun _ => 0))), ((a 38), .inl (cy 0, 901, .inl (fun _ => 0))), ((a 36), .inr (7, [.ref (a 37), .ref (a 38), .int 0, .int 0, .int 1, .int 0])), (q3, .inr (0, [.int 1, .int 1, .int 1, .int 0, .int 0, .ref q4, .ref q5, .ref q6, .null, .null])), ((a 2), .inr (5, [.ref (a 30), .int 2, .int 0, .ref q3, .ref (a 36), .ref (a 39), .int 0, .int 0]))] := hD
      refine lv_aload_n hx hb dX10_district_39 rfl (lv_at hl 0 rfl) ?_
      refine lv_aload_n hx hb dX10_district_40 rfl (lv_at hl 0 rfl) ?_
      refine va_get (ci := 10) (v := .ref (a 2)) (C := RX10) (T := TX10) (N := 13) hx hb htA in_X10 hown hK hP 0 rfl rfl 4 (by decide) (htA _ wd_312) (fun _ h => h) rfl dX10_district_41 ?_
      refine va_get (ci := 5) (v := .int 2) (C := RX5) (T := TX5) (N := 8) hx hb htA in_X5 hown hK hP 25 rfl rfl 1 (by decide) (htA _ wd_212) (fun _ h => h) rfl dX10_district_44 ?_
      refine va_put (ci := 10) (v := .int 2) (ty := .int) (C := RX10) (T := TX10) (N := 13) hx hb htA in_X10 tyX10 tyX10_ok nmX10 hown hK hP hD hS 0 rfl rfl 2 (by decide) (htA _ wd_310) (fun _ h => h) rfl (by decide +kernel) rfl rfl (Nat.le_of_ble_eq_true rfl) dX10_district_47 (fun H locs hP hD hS => ?_)
      have hP : va_P D vwCl [((a 0), .inr (10, [.ref (a 1), .int 0, .int 2, .int (-1), .ref (a 2), .ref (a 3), .ref (a 4), .ref (a 5), .ref (a 6), .ref (a 7), .ref (a 8), .ref (a 9), .int 0])), ((a 1), .inl (cy 1, 900, .inl (fun _ => 0))), ((a 31), .inl (cy 0, 8, .inl (fun _ => 0))), ((a 32), .inl (cy 0, 8, .inl (fun _ => 0))), ((a 33), .inl (cy 0, 8, .inl (fun _ => 0))), ((a 34), .inl (cy 0, 8, .inl (fun _ => 0))), ((a 39), .inl (cy 0, 900, .inl (fun _ => 0))), ((a 3), .inr (6, [.ref (a 10), .int 0, .ref (a 21), .ref (a 22), .ref (a 23), .ref (a 24), .ref (a 25), .int 0])), ((a 21), .inl (cy 0, 8, .inl (fun _ => 0))), ((a 22), .inl (cy 0, 8, .inl (fun _ => 0))), ((a 23), .inl (cy 0, 8, .inl (fun _ => 0))), ((a 24), .inl (cy 0, 8, .inl (fun _ => 0))), ((a 25), .inl (cy 0, 4, .inl (fun _ => 0))), ((a 10), .inr (0, [.int 0, .int 1, .int 1, .int 0, .int 0, .ref (a 11), .ref (a 12), .ref (a 13), .null, .null])), ((a 4), .inr (2, [.ref (a 70), .int 0, .int 0])), ((a 70), .inl (cy 4, 10, .inr (.inr (.inr (.inr (va_up (va_up (va_up (va_up (va_up (va_up (va_up (va_up (va_up (va_up (fun _ => none) (0 : Int32).toNatClampNeg (some (a 100))) (1 : Int32).toNatClampNeg (some (a 110))) (2 : Int32).toNatClampNeg (some (a 120))) (3 : Int32).toNatClampNeg (some (a 130))) (4 : Int32).toNatClampNeg (some (a 140))) (5 : Int32).toNatClampNeg (some (a 150))) (6 : Int32).toNatClampNeg (some (a 160))) (7 : Int32).toNatClampNeg (some (a 170))) (8 : Int32).toNatClampNeg (some (a 180))) (9 : Int32).toNatClampNeg (some (a 190)))))))), (q4, .inl (cy 0, 8, .inl (fun _ => 0))), (q5, .inl (cy 0, 32, .inl (fun _ => 0))), (q6, .inl (cy 0, 4, .inl (fun _ => 0))), ((a 30), .inr (6, [.ref q3, .int 0, .ref (a 31), .ref (a 32), .ref (a 33), .ref (a 34), .ref (a 35), .int 0])), ((a 35), .inl (cy 0, 4, .inl (fun _ => 0))), ((a 37), .inl (cy 0, 901, .inl (fun _ => 0))), ((a 38), .inl (cy 0, 901, .inl (fun _ => 0))), ((a 36), .inr (7, [.ref (a 37), .ref (a 38), .int 0, .int 0, .int 1, .int 0])), (q3, .inr (0, [.int 1, .int 1, .int 1, .int 0, .int 0, .ref q4, .ref q5, .ref q6, .null, .null])), ((a 2), .inr (5, [.ref (a 30), .int 2, .int 0, .ref q3, .ref (a 36), .ref (a 39), .int 0, .int 0]))] H := hP
      have hD : va_D A [((a 0), .inr (10, [.ref (a 1), .int 0, .int 2, .int (-1), .ref (a 2), .ref (a 3), .ref (a 4), .ref (a 5), .ref (a 6), .ref (a 7), .ref (a 8), .ref (a 9), .int 0])), ((a 1), .inl (cy 1, 900, .inl (fun _ => 0))), ((a 31), .inl (cy 0, 8, .inl (fun _ => 0))), ((a 32), .inl (cy 0, 8, .inl (fun _ => 0))), ((a 33), .inl (cy 0, 8, .inl (fun _ => 0))), ((a 34), .inl (cy 0, 8, .inl (fun _ => 0))), ((a 39), .inl (cy 0, 900, .inl (fun _ => 0))), ((a 3), .inr (6, [.ref (a 10), .int 0, .ref (a 21), .ref (a 22), .ref (a 23), .ref (a 24), .ref (a 25), .int 0])), ((a 21), .inl (cy 0, 8, .inl (fun _ => 0))), ((a 22), .inl (cy 0, 8, .inl (fun _ => 0))), ((a 23), .inl (cy 0, 8, .inl (fun _ => 0))), ((a 24), .inl (cy 0, 8, .inl (fun _ => 0))), ((a 25), .inl (cy 0, 4, .inl (fun _ => 0))), ((a 10), .inr (0, [.int 0, .int 1, .int 1, .int 0, .int 0, .ref (a 11), .ref (a 12), .ref (a 13), .null, .null])), ((a 4), .inr (2, [.ref (a 70), .int 0, .int 0])), ((a 70), .inl (cy 4, 10, .inr (.inr (.inr (.inr (va_up (va_up (va_up (va_up (va_up (va_up (va_up (va_up (va_up (va_up (fun _ => none) (0 : Int32).toNatClampNeg (some (a 100))) (1 : Int32).toNatClampNeg (some (a 110))) (2 : Int32).toNatClampNeg (some (a 120))) (3 : Int32).toNatClampNeg (some (a 130))) (4 : Int32).toNatClampNeg (some (a 140))) (5 : Int32).toNatClampNeg (some (a 150))) (6 : Int32).toNatClampNeg (some (a 160))) (7 : Int32).toNatClampNeg (some (a 170))) (8 : Int32).toNatClampNeg (some (a 180))) (9 : Int32).toNatClampNeg (some (a 190)))))))), (q4, .inl (cy 0, 8, .inl (fun _ => 0))), (q5, .inl (cy 0, 32, .inl (fun _ => 0))), (q6, .inl (cy 0, 4, .inl (fun _ => 0))), ((a 30), .inr (6, [.ref q3, .int 0, .ref (a 31), .ref (a 32), .ref (a 33), .ref (a 34), .ref (a 35), .int 0])), ((a 35), .inl (cy 0, 4, .inl (fun _ => 0))), ((a 37), .inl (cy 0, 901, .inl (fun _ => 0))), ((a 38), .inl (cy 0, 901, .inl (fun _ => 0))), ((a 36), .inr (7, [.ref (a 37), .ref (a 38), .int 0, .int 0, .int 1, .int 0])), (q3, .inr (0, [.int 1, .int 1, .int 1, .int 0, .int 0, .ref q4, .ref q5, .ref q6, .null, .null])), ((a 2), .inr (5, [.ref (a 30), .int 2, .int 0, .ref q3, .ref (a 36), .ref (a 39), .int 0, .int 0]))] := hD
      refine lv_aload_n hx hb dX10_district_50 rfl (lv_at hl 0 rfl) ?_
      refine lv_aload_n hx hb dX10_district_51 rfl (lv_at hl 0 rfl) ?_
      refine va_get (ci := 10) (v := .ref (a 2)) (C := RX10) (T := TX10) (N := 13) hx hb htA in_X10 hown hK hP 0 rfl rfl 4 (by decide) (htA _ wd_312) (fun _ h => h) rfl dX10_district_52 ?_
      refine va_get (ci := 5) (v := .int 0) (C := RX5) (T := TX5) (N := 8) hx hb htA in_X5 hown hK hP 25 rfl rfl 2 (by decide) (htA _ wd_214) (fun _ h => h) rfl dX10_district_55 ?_
      refine va_put (ci := 10) (v := .int 0) (ty := .int) (C := RX10) (T := TX10) (N := 13) hx hb htA in_X10 tyX10 tyX10_ok nmX10 hown hK hP hD hS 0 rfl rfl 3 (by decide) (htA _ wd_311) (fun _ h => h) rfl (by decide +kernel) rfl rfl (Nat.le_of_ble_eq_true rfl) dX10_district_58 (fun H locs hP hD hS => ?_)
      have hP : va_P D vwCl [((a 0), .inr (10, [.ref (a 1), .int 0, .int 2, .int 0, .ref (a 2), .ref (a 3), .ref (a 4), .ref (a 5), .ref (a 6), .ref (a 7), .ref (a 8), .ref (a 9), .int 0])), ((a 1), .inl (cy 1, 900, .inl (fun _ => 0))), ((a 31), .inl (cy 0, 8, .inl (fun _ => 0))), ((a 32), .inl (cy 0, 8, .inl (fun _ => 0))), ((a 33), .inl (cy 0, 8, .inl (fun _ => 0))), ((a 34), .inl (cy 0, 8, .inl (fun _ => 0))), ((a 39), .inl (cy 0, 900, .inl (fun _ => 0))), ((a 3), .inr (6, [.ref (a 10), .int 0, .ref (a 21), .ref (a 22), .ref (a 23), .ref (a 24), .ref (a 25), .int 0])), ((a 21), .inl (cy 0, 8, .inl (fun _ => 0))), ((a 22), .inl (cy 0, 8, .inl (fun _ => 0))), ((a 23), .inl (cy 0, 8, .inl (fun _ => 0))), ((a 24), .inl (cy 0, 8, .inl (fun _ => 0))), ((a 25), .inl (cy 0, 4, .inl (fun _ => 0))), ((a 10), .inr (0, [.int 0, .int 1, .int 1, .int 0, .int 0, .ref (a 11), .ref (a 12), .ref (a 13), .null, .null])), ((a 4), .inr (2, [.ref (a 70), .int 0, .int 0])), ((a 70), .inl (cy 4, 10, .inr (.inr (.inr (.inr (va_up (va_up (va_up (va_up (va_up (va_up (va_up (va_up (va_up (va_up (fun _ => none) (0 : Int32).toNatClampNeg (some (a 100))) (1 : Int32).toNatClampNeg (some (a 110))) (2 : Int32).toNatClampNeg (some (a 120))) (3 : Int32).toNatClampNeg (some (a 130))) (4 : Int32).toNatClampNeg (some (a 140))) (5 : Int32).toNatClampNeg (some (a 150))) (6 : Int32).toNatClampNeg (some (a 160))) (7 : Int32).toNatClampNeg (some (a 170))) (8 : Int32).toNatClampNeg (some (a 180))) (9 : Int32).toNatClampNeg (some (a 190)))))))), (q4, .inl (cy 0, 8, .inl (fun _ => 0))), (q5, .inl (cy 0, 32, .inl (fun _ => 0))), (q6, .inl (cy 0, 4, .inl (fun _ => 0))), ((a 30), .inr (6, [.ref q3, .int 0, .ref (a 31), .ref (a 32), .ref (a 33), .ref (a 34), .ref (a 35), .int 0])), ((a 35), .inl (cy 0, 4, .inl (fun _ => 0))), ((a 37), .inl (cy 0, 901, .inl (fun _ => 0))), ((a 38), .inl (cy 0, 901, .inl (fun _ => 0))), ((a 36), .inr (7, [.ref (a 37), .ref (a 38), .int 0, .int 0, .int 1, .int 0])), (q3, .inr (0, [.int 1, .int 1, .int 1, .int 0, .int 0, .ref q4, .ref q5, .ref q6, .null, .null])), ((a 2), .inr (5, [.ref (a 30), .int 2, .int 0, .ref q3, .ref (a 36), .ref (a 39), .int 0, .int 0]))] H := hP
      have hD : va_D A [((a 0), .inr (10, [.ref (a 1), .int 0, .int 2, .int 0, .ref (a 2), .ref (a 3), .ref (a 4), .ref (a 5), .ref (a 6), .ref (a 7), .ref (a 8), .ref (a 9), .int 0])), ((a 1), .inl (cy 1, 900, .inl (fun _ => 0))), ((a 31), .inl (cy 0, 8, .inl (fun _ => 0))), ((a 32), .inl (cy 0, 8, .inl (fun _ => 0))), ((a 33), .inl (cy 0, 8, .inl (fun _ => 0))), ((a 34), .inl (cy 0, 8, .inl (fun _ => 0))), ((a 39), .inl (cy 0, 900, .inl (fun _ => 0))), ((a 3), .inr (6, [.ref (a 10), .int 0, .ref (a 21), .ref (a 22), .ref (a 23), .ref (a 24), .ref (a 25), .int 0])), ((a 21), .inl (cy 0, 8, .inl (fun _ => 0))), ((a 22), .inl (cy 0, 8, .inl (fun _ => 0))), ((a 23), .inl (cy 0, 8, .inl (fun _ => 0))), ((a 24), .inl (cy 0, 8, .inl (fun _ => 0))), ((a 25), .inl (cy 0, 4, .inl (fun _ => 0))), ((a 10), .inr (0, [.int 0, .int 1, .int 1, .int 0, .int 0, .ref (a 11), .ref (a 12), .ref (a 13), .null, .null])), ((a 4), .inr (2, [.ref (a 70), .int 0, .int 0])), ((a 70), .inl (cy 4, 10, .inr (.inr (.inr (.inr (va_up (va_up (va_up (va_up (va_up (va_up (va_up (va_up (va_up (va_up (fun _ => none) (0 : Int32).toNatClampNeg (some (a 100))) (1 : Int32).toNatClampNeg (some (a 110))) (2 : Int32).toNatClampNeg (some (a 120))) (3 : Int32).toNatClampNeg (some (a 130))) (4 : Int32).toNatClampNeg (some (a 140))) (5 : Int32).toNatClampNeg (some (a 150))) (6 : Int32).toNatClampNeg (some (a 160))) (7 : Int32).toNatClampNeg (some (a 170))) (8 : Int32).toNatClampNeg (some (a 180))) (9 : Int32).toNatClampNeg (some (a 190)))))))), (q4, .inl (cy 0, 8, .inl (fun _ => 0))), (q5, .inl (cy 0, 32, .inl (fun _ => 0))), (q6, .inl (cy 0, 4, .inl (fun _ => 0))), ((a 30), .inr (6, [.ref q3, .int 0, .ref (a 31), .ref (a 32), .ref (a 33), .ref (a 34), .ref (a 35), .int 0])), ((a 35), .inl (cy 0, 4, .inl (fun _ => 0))), ((a 37), .inl (cy 0, 901, .inl (fun _ => 0))), ((a 38), .inl (cy 0, 901, .inl (fun _ => 0))), ((a 36), .inr (7, [.ref (a 37), .ref (a 38), .int 0, .int 0, .int 1, .int 0])), (q3, .inr (0, [.int 1, .int 1, .int 1, .int 0, .int 0, .ref q4, .ref q5, .ref q6, .null, .null])), ((a 2), .inr (5, [.ref (a 30), .int 2, .int 0, .ref q3, .ref (a 36), .ref (a 39), .int 0, .int 0]))] := hD
      refine lv_aload_n hx hb dX10_district_61 rfl (lv_at hl 0 rfl) ?_
      refine va_get (ci := 10) (v := .int 2) (C := RX10) (T := TX10) (N := 13) hx hb htA in_X10 hown hK hP 0 rfl rfl 2 (by decide) (htA _ wd_310) (fun _ h => h) rfl dX10_district_62 ?_
      refine lv_if_eq (tgt := 76) hx hb dX10_district_65 (by decide) (fun q => absurd q (by decide)) (fun _ => ?_)
      refine lv_bipush (v := (-10)) hx hb dX10_district_68 (by decide) ?_
      refine lv_aload_n hx hb dX10_district_70 rfl (lv_at hl 0 rfl) ?_
      refine va_get (ci := 10) (v := .int 2) (C := RX10) (T := TX10) (N := 13) hx hb htA in_X10 hown hK hP 0 rfl rfl 2 (by decide) (htA _ wd_310) (fun _ h => h) rfl dX10_district_71 ?_
      refine lv_isub hx hb dX10_district_74 ?_
      refine lv_topi (fun x7 ex7 => ?_)
      obtain rfl : x7 = (-12) := ex7.trans (by decide)
      exact vx_ret (rI hX hE hP hD hS dX10_district_75 (by decide) (by decide) (⟨(by have kc1 := c1; have kc2 := c2; (try simp only [lg_cmp_lt, lg_cmp_le, lg_cmp_ge, lg_cmp_gt, lg_cmp_eq, fa_lt, fa_le, fa_eq, fa_lt64, fa_le64, fa_eq64, Int32.toInt_toInt64, li_0, lj_0] at kc1); (try simp only [lg_cmp_lt, lg_cmp_le, lg_cmp_ge, lg_cmp_gt, lg_cmp_eq, fa_lt, fa_le, fa_eq, fa_lt64, fa_le64, fa_eq64, Int32.toInt_toInt64, li_0, lj_0] at kc2); first | rfl | (unfold kf_district; (try simp only [li_0, and_self, and_true, true_and, if_true]); (repeat' split) <;> first | rfl | (exfalso; omega))), (by have kc1 := c1; have kc2 := c2; (try simp only [lg_cmp_lt, lg_cmp_le, lg_cmp_ge, lg_cmp_gt, lg_cmp_eq, fa_lt, fa_le, fa_eq, fa_lt64, fa_le64, fa_eq64, Int32.toInt_toInt64, li_0, lj_0] at kc1); (try simp only [lg_cmp_lt, lg_cmp_le, lg_cmp_ge, lg_cmp_gt, lg_cmp_eq, fa_lt, fa_le, fa_eq, fa_lt64, fa_le64, fa_eq64, Int32.toInt_toInt64, li_0, lj_0] at kc2); first | rfl | decide | (unfold vf_district; (try simp only [li_0, and_self, and_true, true_and, if_true]); (repeat' split) <;> first | rfl | decide | (exfalso; omega)))⟩))
    · exact k_throwS hlt hX hE hxt hP hD hS hl.1 (by decide) (htA _ wd_531) (htA _ wd_14) (xSW_in hE.2.2.2 "LateFalls" 85 "not so many bytes" (by decide)) (at_X10_87 htA hE.2.2.2) ot_X10_83_87 dX10_district_12 dX10_district_15 dX10_district_16 dX10_district_18 dX10_district_21 (by decide) (by decide) (by decide) (by decide) (by decide) (by decide) (⟨rfl, (by have kc1 := c1; have kc2 := c2; (try simp only [lg_cmp_lt, lg_cmp_le, lg_cmp_ge, lg_cmp_gt, lg_cmp_eq, fa_lt, fa_le, fa_eq, fa_lt64, fa_le64, fa_eq64, Int32.toInt_toInt64, li_0, lj_0] at kc1); (try simp only [lg_cmp_lt, lg_cmp_le, lg_cmp_ge, lg_cmp_gt, lg_cmp_eq, fa_lt, fa_le, fa_eq, fa_lt64, fa_le64, fa_eq64, Int32.toInt_toInt64, li_0, lj_0] at kc2); first | rfl | (unfold kf_district; (repeat' split) <;> first | rfl | (exfalso; omega)))⟩)
set_option maxHeartbeats 4000000 in
set_option maxRecDepth 100000 in
theorem au_X10_needWithin_79 (l : Launch) (hlt : l.stackTraces = false) (D : va_G) (cy : Nat → ClassId) (a : Nat → Nat) (v1_ : Int32) : Xv l yX10_needWithin cX10_needWithin 3 none { frames := 6, cells := 1, slots := 6, locals := 90 } D cy [.int v1_, .int 0, .int 20] [] (fun W1 => ((¬ v1_ < 0) ∧ (v1_ ≤ 20) ∧ W1 = [])) (fun E _ => ((v1_ < 0) ∧ E = "java/lang/IllegalArgumentException") ∨ ((¬ v1_ < 0) ∧ (¬ v1_ ≤ 20) ∧ E = "java/lang/IllegalArgumentException")) := by
  refine Xv.of (by decide) (Nat.le_of_ble_eq_true rfl) ?_
  intro p e s m below meth c A ls hX hE hP hD hl hxt
  obtain ⟨hx, hb, hr, hml, hown, htA, hlk⟩ := id hX
  have hK := hE.1
  have hS : va_S A s.heap s.heap [] := va_S.rf
  have hl : lv_has ls 3 [(0, .int v1_), (1, .int 0), (2, .int 20)] := hl
  refine lv_iload_n hx hb dX10_needWithin_0 rfl (lv_at hl 0 rfl) ?_
  refine lv_iload_n hx hb dX10_needWithin_1 rfl (lv_at hl 1 rfl) ?_
  refine lv_icmp_lt (tgt := 10) hx hb dX10_needWithin_2 (by decide) (fun c1 => ?_) (fun c1 => ?_)
  · exact k_throwS hlt hX hE hxt hP hD hS hl.1 (by decide) (htA _ wd_531) (htA _ wd_14) (xSW_in hE.2.2.2 "LateFalls" 202 "out of its bounds" (by decide)) (at_X10_87 htA hE.2.2.2) ot_X10_83_87 dX10_needWithin_10 dX10_needWithin_13 dX10_needWithin_14 dX10_needWithin_16 dX10_needWithin_19 (by decide) (by decide) (by decide) (by decide) (by decide) (by decide) (Or.inl (⟨c1, rfl⟩))
  · refine lv_iload_n hx hb dX10_needWithin_5 rfl (lv_at hl 0 rfl) ?_
    refine lv_iload_n hx hb dX10_needWithin_6 rfl (lv_at hl 2 rfl) ?_
    refine lv_icmp_le (tgt := 20) hx hb dX10_needWithin_7 (by decide) (fun c2 => ?_) (fun c2 => ?_)
    · exact vx_ret (rV hX hE hP hD hS dX10_needWithin_20 (by decide) (by decide) (⟨c1, c2, rfl⟩))
    · exact k_throwS hlt hX hE hxt hP hD hS hl.1 (by decide) (htA _ wd_531) (htA _ wd_14) (xSW_in hE.2.2.2 "LateFalls" 202 "out of its bounds" (by decide)) (at_X10_87 htA hE.2.2.2) ot_X10_83_87 dX10_needWithin_10 dX10_needWithin_13 dX10_needWithin_14 dX10_needWithin_16 dX10_needWithin_19 (by decide) (by decide) (by decide) (by decide) (by decide) (by decide) (Or.inr (⟨c1, c2, rfl⟩))
set_option maxHeartbeats 4000000 in
set_option maxRecDepth 100000 in
theorem au_X9_beside_80 (l : Launch) (D : va_G) (cy : Nat → ClassId) (a : Nat → Nat) : Cl l yX9_beside cX9_beside 2 (some .long) { frames := 0, cells := 0, slots := 0, locals := 0 } D cy [.ref (a 6), .int (-1)] [((a 6), .inr (9, [.int 1, .ref (a 51), .ref (a 52), .ref (a 53), .ref (a 54), .ref (a 55)]))] (fun r W1 => (W1 = [((a 6), .inr (9, [.int 1, .ref (a 51), .ref (a 52), .ref (a 53), .ref (a 54), .ref (a 55)]))] ∧ r = 0)) := by
  refine Cl.of (by decide) (Nat.le_of_ble_eq_true rfl) ?_
  intro p e s m below meth c A ls hX hE hP hD hl
  obtain ⟨hx, hb, hr, hml, hown, htA, hlk⟩ := id hX
  have hK := hE.1
  have hS : va_S A s.heap s.heap [] := va_S.rf
  have hl : lv_has ls 2 [(0, .ref (a 6)), (1, .int (-1))] := hl
  refine lv_iload_n hx hb dX9_beside_0 rfl (lv_at hl 1 rfl) ?_
  refine lv_if_lt (tgt := 19) hx hb dX9_beside_1 (by decide) (fun _ => ?_) (fun q => absurd (by decide) q)
  refine lv_lconst (v := 0) hx hb dX9_beside_19 (by decide) ?_
  exact rL hX hE hP hD hS dX9_beside_20 (by decide) (by decide) (⟨rfl, rfl⟩)
set_option maxHeartbeats 4000000 in
set_option maxRecDepth 100000 in
theorem au_X9_beside_81 (l : Launch) (D : va_G) (cy : Nat → ClassId) (a : Nat → Nat) : Cl l yX9_beside cX9_beside 2 (some .long) { frames := 0, cells := 0, slots := 0, locals := 0 } D cy [.ref (a 6), .int 1] [((a 55), .inl (cy 2, 6, .inr (.inl (mc)))), ((a 6), .inr (9, [.int 1, .ref (a 51), .ref (a 52), .ref (a 53), .ref (a 54), .ref (a 55)]))] (fun r W1 => (W1 = [((a 55), .inl (cy 2, 6, .inr (.inl (mc)))), ((a 6), .inr (9, [.int 1, .ref (a 51), .ref (a 52), .ref (a 53), .ref (a 54), .ref (a 55)]))] ∧ r = 0)) := by
  refine Cl.of (by decide) (Nat.le_of_ble_eq_true rfl) ?_
  intro p e s m below meth c A ls hX hE hP hD hl
  obtain ⟨hx, hb, hr, hml, hown, htA, hlk⟩ := id hX
  have hK := hE.1
  have hS : va_S A s.heap s.heap [] := va_S.rf
  have hl : lv_has ls 2 [(0, .ref (a 6)), (1, .int 1)] := hl
  refine lv_iload_n hx hb dX9_beside_0 rfl (lv_at hl 1 rfl) ?_
  refine lv_if_lt (tgt := 19) hx hb dX9_beside_1 (by decide) (fun q => absurd q (by decide)) (fun _ => ?_)
  refine lv_iload_n hx hb dX9_beside_4 rfl (lv_at hl 1 rfl) ?_
  refine lv_bipush (v := 6) hx hb dX9_beside_5 (by decide) ?_
  refine lv_icmp_ge (tgt := 19) hx hb dX9_beside_7 (by decide) (fun q => absurd q (by decide)) (fun _ => ?_)
  refine lv_aload_n hx hb dX9_beside_10 rfl (lv_at hl 0 rfl) ?_
  refine va_get (ci := 9) (v := .ref (a 55)) (C := RX9) (T := TX9) (N := 6) hx hb htA in_X9 hown hK hP 1 rfl rfl 5 (by decide) (htA _ wd_48) (fun _ h => h) rfl dX9_beside_11 ?_
  refine lv_iload_n hx hb dX9_beside_14 rfl (lv_at hl 1 rfl) ?_
  refine va_lald hx hb hK hP 0 2 rfl rfl (in_lit (by decide)) dX9_beside_15 ?_
  refine lv_topl (fun x1 ex1 => ?_)
  obtain rfl : x1 = 0 := ex1.trans (by decide)
  refine lv_goto (tgt := 20) hx hb dX9_beside_16 (by decide) ?_
  exact rL hX hE hP hD hS dX9_beside_20 (by decide) (by decide) (⟨rfl, rfl⟩)
set_option maxHeartbeats 4000000 in
set_option maxRecDepth 100000 in
theorem au_X9_howMany_82 (l : Launch) (D : va_G) (cy : Nat → ClassId) (a : Nat → Nat) (v1_ : Int32) : Cl l yX9_howMany cX9_howMany 7 (some .long) { frames := 1, cells := 0, slots := 0, locals := 60 } D cy [.ref (a 6), .int 0, .int 0, .int v1_] [((a 54), .inl (cy 2, 6, .inr (.inl (fun _ => 0)))), ((a 55), .inl (cy 2, 6, .inr (.inl (fun _ => 0)))), ((a 51), .inl (cy 0, 61, .inl (fun _ => 0))), ((a 6), .inr (9, [.int 1, .ref (a 51), .ref (a 52), .ref (a 53), .ref (a 54), .ref (a 55)]))] (fun r W1 => ((v1_ < 1) ∧ W1 = [((a 54), .inl (cy 2, 6, .inr (.inl (mc)))), ((a 55), .inl (cy 2, 6, .inr (.inl (fun _ => 0)))), ((a 51), .inl (cy 0, 61, .inl (fun _ => 0))), ((a 6), .inr (9, [.int 1, .ref (a 51), .ref (a 52), .ref (a 53), .ref (a 54), .ref (a 55)]))] ∧ r = 1) ∨ ((¬ v1_ < 1) ∧ W1 = [((a 54), .inl (cy 2, 6, .inr (.inl (mc)))), ((a 51), .inl (cy 0, 61, .inl (fun _ => 0))), ((a 55), .inl (cy 2, 6, .inr (.inl (mc)))), ((a 6), .inr (9, [.int 1, .ref (a 51), .ref (a 52), .ref (a 53), .ref (a 54), .ref (a 55)]))] ∧ r = 1) ∨ ((¬ v1_ < 1) ∧ W1 = [((a 54), .inl (cy 2, 6, .inr (.inl (mc)))), ((a 51), .inl (cy 0, 61, .inl (fun _ => 0))), ((a 55), .inl (cy 2, 6, .inr (.inl (mc)))), ((a 6), .inr (9, [.int 1, .ref (a 51), .ref (a 52), .ref (a 53), .ref (a 54), .ref (a 55)]))] ∧ r = 1)) := by
  refine Cl.of (by decide) (Nat.le_of_ble_eq_true rfl) ?_
  intro p e s m below meth c A ls hX hE hP hD hl
  obtain ⟨hx, hb, hr, hml, hown, htA, hlk⟩ := id hX
  have hK := hE.1
  have hS : va_S A s.heap s.heap [] := va_S.rf
  have hl : lv_has ls 7 [(0, .ref (a 6)), (1, .int 0), (2, .int 0), (3, .int v1_)] := hl
  refine lv_iconst (v := 0) hx hb dX9_howMany_0 (by decide) ?_
  refine lv_istore (lv' := [(4, .int 0), (0, .ref (a 6)), (1, .int 0), (2, .int 0), (3, .int v1_)]) hx hb dX9_howMany_1 hl (by decide) rfl (fun ls hl => ?_)
  refine lv_iload hx hb dX9_howMany_3 (lv_at hl 0 rfl) ?_
  refine lv_bipush (v := 6) hx hb dX9_howMany_5 (by decide) ?_
  refine lv_icmp_ge (tgt := 34) hx hb dX9_howMany_7 (by decide) (fun q => absurd q (by decide)) (fun _ => ?_)
  refine lv_aload_n hx hb dX9_howMany_10 rfl (lv_at hl 1 rfl) ?_
  refine va_get (ci := 9) (v := .ref (a 54)) (C := RX9) (T := TX9) (N := 6) hx hb htA in_X9 hown hK hP 3 rfl rfl 4 (by decide) (htA _ wd_47) (fun _ h => h) rfl dX9_howMany_11 ?_
  refine lv_iload hx hb dX9_howMany_14 (lv_at hl 0 rfl) ?_
  refine lv_iload hx hb dX9_howMany_16 (lv_at hl 0 rfl) ?_
  refine lv_iload_n hx hb dX9_howMany_18 rfl (lv_at hl 2 rfl) ?_
  refine lv_icmp_ne (tgt := 26) hx hb dX9_howMany_19 (by decide) (fun q => absurd rfl q) (fun _ => ?_)
  refine lv_lconst (v := 1) hx hb dX9_howMany_22 (by decide) ?_
  refine lv_goto (tgt := 27) hx hb dX9_howMany_23 (by decide) ?_
  refine va_last hx hb hK hP hD hS 0 2 rfl rfl (in_lit (by decide)) dX9_howMany_27 (fun H locs hP hD hS => ?_)
  rw [mc_1] at hP hD
  have hP : va_P D vwCl [((a 54), .inl (cy 2, 6, .inr (.inl (mc)))), ((a 55), .inl (cy 2, 6, .inr (.inl (fun _ => 0)))), ((a 51), .inl (cy 0, 61, .inl (fun _ => 0))), ((a 6), .inr (9, [.int 1, .ref (a 51), .ref (a 52), .ref (a 53), .ref (a 54), .ref (a 55)]))] H := hP
  have hD : va_D A [((a 54), .inl (cy 2, 6, .inr (.inl (mc)))), ((a 55), .inl (cy 2, 6, .inr (.inl (fun _ => 0)))), ((a 51), .inl (cy 0, 61, .inl (fun _ => 0))), ((a 6), .inr (9, [.int 1, .ref (a 51), .ref (a 52), .ref (a 53), .ref (a 54), .ref (a 55)]))] := hD
  refine lv_iinc (v := 1) (lv' := [(4, .int 1), (0, .ref (a 6)), (1, .int 0), (2, .int 0), (3, .int v1_)]) hx hb dX9_howMany_28 hl (k := 0) rfl (by decide) (by decide) rfl (fun ls hl => ?_)
  refine lv_goto (tgt := 3) hx hb dX9_howMany_31 (by decide) ?_
  refine lv_iload hx hb dX9_howMany_3 (lv_at hl 0 rfl) ?_
  refine lv_bipush (v := 6) hx hb dX9_howMany_5 (by decide) ?_
  refine lv_icmp_ge (tgt := 34) hx hb dX9_howMany_7 (by decide) (fun q => absurd q (by decide)) (fun _ => ?_)
  refine lv_aload_n hx hb dX9_howMany_10 rfl (lv_at hl 1 rfl) ?_
  refine va_get (ci := 9) (v := .ref (a 54)) (C := RX9) (T := TX9) (N := 6) hx hb htA in_X9 hown hK hP 3 rfl rfl 4 (by decide) (htA _ wd_47) (fun _ h => h) rfl dX9_howMany_11 ?_
  refine lv_iload hx hb dX9_howMany_14 (lv_at hl 0 rfl) ?_
  refine lv_iload hx hb dX9_howMany_16 (lv_at hl 0 rfl) ?_
  refine lv_iload_n hx hb dX9_howMany_18 rfl (lv_at hl 2 rfl) ?_
  refine lv_icmp_ne (tgt := 26) hx hb dX9_howMany_19 (by decide) (fun _ => ?_) (fun q => absurd q (by decide))
  refine lv_lconst (v := 0) hx hb dX9_howMany_26 (by decide) ?_
  refine va_last hx hb hK hP hD hS 0 2 rfl rfl (in_lit (by decide)) dX9_howMany_27 (fun H locs hP hD hS => ?_)
  rw [fa_upd_sameL (f := mc) (i := (1 : Int32).toNatClampNeg) (x := 0) (by decide)] at hP hD
  have hP : va_P D vwCl [((a 54), .inl (cy 2, 6, .inr (.inl (mc)))), ((a 55), .inl (cy 2, 6, .inr (.inl (fun _ => 0)))), ((a 51), .inl (cy 0, 61, .inl (fun _ => 0))), ((a 6), .inr (9, [.int 1, .ref (a 51), .ref (a 52), .ref (a 53), .ref (a 54), .ref (a 55)]))] H := hP
  have hD : va_D A [((a 54), .inl (cy 2, 6, .inr (.inl (mc)))), ((a 55), .inl (cy 2, 6, .inr (.inl (fun _ => 0)))), ((a 51), .inl (cy 0, 61, .inl (fun _ => 0))), ((a 6), .inr (9, [.int 1, .ref (a 51), .ref (a 52), .ref (a 53), .ref (a 54), .ref (a 55)]))] := hD
  refine lv_iinc (v := 2) (lv' := [(4, .int 2), (0, .ref (a 6)), (1, .int 0), (2, .int 0), (3, .int v1_)]) hx hb dX9_howMany_28 hl (k := 0) rfl (by decide) (by decide) rfl (fun ls hl => ?_)
  refine lv_goto (tgt := 3) hx hb dX9_howMany_31 (by decide) ?_
  refine lv_iload hx hb dX9_howMany_3 (lv_at hl 0 rfl) ?_
  refine lv_bipush (v := 6) hx hb dX9_howMany_5 (by decide) ?_
  refine lv_icmp_ge (tgt := 34) hx hb dX9_howMany_7 (by decide) (fun q => absurd q (by decide)) (fun _ => ?_)
  refine lv_aload_n hx hb dX9_howMany_10 rfl (lv_at hl 1 rfl) ?_
  refine va_get (ci := 9) (v := .ref (a 54)) (C := RX9) (T := TX9) (N := 6) hx hb htA in_X9 hown hK hP 3 rfl rfl 4 (by decide) (htA _ wd_47) (fun _ h => h) rfl dX9_howMany_11 ?_
  refine lv_iload hx hb dX9_howMany_14 (lv_at hl 0 rfl) ?_
  refine lv_iload hx hb dX9_howMany_16 (lv_at hl 0 rfl) ?_
  refine lv_iload_n hx hb dX9_howMany_18 rfl (lv_at hl 2 rfl) ?_
  refine lv_icmp_ne (tgt := 26) hx hb dX9_howMany_19 (by decide) (fun _ => ?_) (fun q => absurd q (by decide))
  refine lv_lconst (v := 0) hx hb dX9_howMany_26 (by decide) ?_
  refine va_last hx hb hK hP hD hS 0 2 rfl rfl (in_lit (by decide)) dX9_howMany_27 (fun H locs hP hD hS => ?_)
  rw [fa_upd_sameL (f := mc) (i := (2 : Int32).toNatClampNeg) (x := 0) (by decide)] at hP hD
  have hP : va_P D vwCl [((a 54), .inl (cy 2, 6, .inr (.inl (mc)))), ((a 55), .inl (cy 2, 6, .inr (.inl (fun _ => 0)))), ((a 51), .inl (cy 0, 61, .inl (fun _ => 0))), ((a 6), .inr (9, [.int 1, .ref (a 51), .ref (a 52), .ref (a 53), .ref (a 54), .ref (a 55)]))] H := hP
  have hD : va_D A [((a 54), .inl (cy 2, 6, .inr (.inl (mc)))), ((a 55), .inl (cy 2, 6, .inr (.inl (fun _ => 0)))), ((a 51), .inl (cy 0, 61, .inl (fun _ => 0))), ((a 6), .inr (9, [.int 1, .ref (a 51), .ref (a 52), .ref (a 53), .ref (a 54), .ref (a 55)]))] := hD
  refine lv_iinc (v := 3) (lv' := [(4, .int 3), (0, .ref (a 6)), (1, .int 0), (2, .int 0), (3, .int v1_)]) hx hb dX9_howMany_28 hl (k := 0) rfl (by decide) (by decide) rfl (fun ls hl => ?_)
  refine lv_goto (tgt := 3) hx hb dX9_howMany_31 (by decide) ?_
  refine lv_iload hx hb dX9_howMany_3 (lv_at hl 0 rfl) ?_
  refine lv_bipush (v := 6) hx hb dX9_howMany_5 (by decide) ?_
  refine lv_icmp_ge (tgt := 34) hx hb dX9_howMany_7 (by decide) (fun q => absurd q (by decide)) (fun _ => ?_)
  refine lv_aload_n hx hb dX9_howMany_10 rfl (lv_at hl 1 rfl) ?_
  refine va_get (ci := 9) (v := .ref (a 54)) (C := RX9) (T := TX9) (N := 6) hx hb htA in_X9 hown hK hP 3 rfl rfl 4 (by decide) (htA _ wd_47) (fun _ h => h) rfl dX9_howMany_11 ?_
  refine lv_iload hx hb dX9_howMany_14 (lv_at hl 0 rfl) ?_
  refine lv_iload hx hb dX9_howMany_16 (lv_at hl 0 rfl) ?_
  refine lv_iload_n hx hb dX9_howMany_18 rfl (lv_at hl 2 rfl) ?_
  refine lv_icmp_ne (tgt := 26) hx hb dX9_howMany_19 (by decide) (fun _ => ?_) (fun q => absurd q (by decide))
  refine lv_lconst (v := 0) hx hb dX9_howMany_26 (by decide) ?_
  refine va_last hx hb hK hP hD hS 0 2 rfl rfl (in_lit (by decide)) dX9_howMany_27 (fun H locs hP hD hS => ?_)
  rw [fa_upd_sameL (f := mc) (i := (3 : Int32).toNatClampNeg) (x := 0) (by decide)] at hP hD
  have hP : va_P D vwCl [((a 54), .inl (cy 2, 6, .inr (.inl (mc)))), ((a 55), .inl (cy 2, 6, .inr (.inl (fun _ => 0)))), ((a 51), .inl (cy 0, 61, .inl (fun _ => 0))), ((a 6), .inr (9, [.int 1, .ref (a 51), .ref (a 52), .ref (a 53), .ref (a 54), .ref (a 55)]))] H := hP
  have hD : va_D A [((a 54), .inl (cy 2, 6, .inr (.inl (mc)))), ((a 55), .inl (cy 2, 6, .inr (.inl (fun _ => 0)))), ((a 51), .inl (cy 0, 61, .inl (fun _ => 0))), ((a 6), .inr (9, [.int 1, .ref (a 51), .ref (a 52), .ref (a 53), .ref (a 54), .ref (a 55)]))] := hD
  refine lv_iinc (v := 4) (lv' := [(4, .int 4), (0, .ref (a 6)), (1, .int 0), (2, .int 0), (3, .int v1_)]) hx hb dX9_howMany_28 hl (k := 0) rfl (by decide) (by decide) rfl (fun ls hl => ?_)
  refine lv_goto (tgt := 3) hx hb dX9_howMany_31 (by decide) ?_
  refine lv_iload hx hb dX9_howMany_3 (lv_at hl 0 rfl) ?_
  refine lv_bipush (v := 6) hx hb dX9_howMany_5 (by decide) ?_
  refine lv_icmp_ge (tgt := 34) hx hb dX9_howMany_7 (by decide) (fun q => absurd q (by decide)) (fun _ => ?_)
  refine lv_aload_n hx hb dX9_howMany_10 rfl (lv_at hl 1 rfl) ?_
  refine va_get (ci := 9) (v := .ref (a 54)) (C := RX9) (T := TX9) (N := 6) hx hb htA in_X9 hown hK hP 3 rfl rfl 4 (by decide) (htA _ wd_47) (fun _ h => h) rfl dX9_howMany_11 ?_
  refine lv_iload hx hb dX9_howMany_14 (lv_at hl 0 rfl) ?_
  refine lv_iload hx hb dX9_howMany_16 (lv_at hl 0 rfl) ?_
  refine lv_iload_n hx hb dX9_howMany_18 rfl (lv_at hl 2 rfl) ?_
  refine lv_icmp_ne (tgt := 26) hx hb dX9_howMany_19 (by decide) (fun _ => ?_) (fun q => absurd q (by decide))
  refine lv_lconst (v := 0) hx hb dX9_howMany_26 (by decide) ?_
  refine va_last hx hb hK hP hD hS 0 2 rfl rfl (in_lit (by decide)) dX9_howMany_27 (fun H locs hP hD hS => ?_)
  rw [fa_upd_sameL (f := mc) (i := (4 : Int32).toNatClampNeg) (x := 0) (by decide)] at hP hD
  have hP : va_P D vwCl [((a 54), .inl (cy 2, 6, .inr (.inl (mc)))), ((a 55), .inl (cy 2, 6, .inr (.inl (fun _ => 0)))), ((a 51), .inl (cy 0, 61, .inl (fun _ => 0))), ((a 6), .inr (9, [.int 1, .ref (a 51), .ref (a 52), .ref (a 53), .ref (a 54), .ref (a 55)]))] H := hP
  have hD : va_D A [((a 54), .inl (cy 2, 6, .inr (.inl (mc)))), ((a 55), .inl (cy 2, 6, .inr (.inl (fun _ => 0)))), ((a 51), .inl (cy 0, 61, .inl (fun _ => 0))), ((a 6), .inr (9, [.int 1, .ref (a 51), .ref (a 52), .ref (a 53), .ref (a 54), .ref (a 55)]))] := hD
  refine lv_iinc (v := 5) (lv' := [(4, .int 5), (0, .ref (a 6)), (1, .int 0), (2, .int 0), (3, .int v1_)]) hx hb dX9_howMany_28 hl (k := 0) rfl (by decide) (by decide) rfl (fun ls hl => ?_)
  refine lv_goto (tgt := 3) hx hb dX9_howMany_31 (by decide) ?_
  refine lv_iload hx hb dX9_howMany_3 (lv_at hl 0 rfl) ?_
  refine lv_bipush (v := 6) hx hb dX9_howMany_5 (by decide) ?_
  refine lv_icmp_ge (tgt := 34) hx hb dX9_howMany_7 (by decide) (fun q => absurd q (by decide)) (fun _ => ?_)
  refine lv_aload_n hx hb dX9_howMany_10 rfl (lv_at hl 1 rfl) ?_
  refine va_get (ci := 9) (v := .ref (a 54)) (C := RX9) (T := TX9) (N := 6) hx hb htA in_X9 hown hK hP 3 rfl rfl 4 (by decide) (htA _ wd_47) (fun _ h => h) rfl dX9_howMany_11 ?_
  refine lv_iload hx hb dX9_howMany_14 (lv_at hl 0 rfl) ?_
  refine lv_iload hx hb dX9_howMany_16 (lv_at hl 0 rfl) ?_
  refine lv_iload_n hx hb dX9_howMany_18 rfl (lv_at hl 2 rfl) ?_
  refine lv_icmp_ne (tgt := 26) hx hb dX9_howMany_19 (by decide) (fun _ => ?_) (fun q => absurd q (by decide))
  refine lv_lconst (v := 0) hx hb dX9_howMany_26 (by decide) ?_
  refine va_last hx hb hK hP hD hS 0 2 rfl rfl (in_lit (by decide)) dX9_howMany_27 (fun H locs hP hD hS => ?_)
  rw [fa_upd_sameL (f := mc) (i := (5 : Int32).toNatClampNeg) (x := 0) (by decide)] at hP hD
  have hP : va_P D vwCl [((a 54), .inl (cy 2, 6, .inr (.inl (mc)))), ((a 55), .inl (cy 2, 6, .inr (.inl (fun _ => 0)))), ((a 51), .inl (cy 0, 61, .inl (fun _ => 0))), ((a 6), .inr (9, [.int 1, .ref (a 51), .ref (a 52), .ref (a 53), .ref (a 54), .ref (a 55)]))] H := hP
  have hD : va_D A [((a 54), .inl (cy 2, 6, .inr (.inl (mc)))), ((a 55), .inl (cy 2, 6, .inr (.inl (fun _ => 0)))), ((a 51), .inl (cy 0, 61, .inl (fun _ => 0))), ((a 6), .inr (9, [.int 1, .ref (a 51), .ref (a 52), .ref (a 53), .ref (a 54), .ref (a 55)]))] := hD
  refine lv_iinc (v := 6) (lv' := [(4, .int 6), (0, .ref (a 6)), (1, .int 0), (2, .int 0), (3, .int v1_)]) hx hb dX9_howMany_28 hl (k := 0) rfl (by decide) (by decide) rfl (fun ls hl => ?_)
  refine lv_goto (tgt := 3) hx hb dX9_howMany_31 (by decide) ?_
  refine lv_iload hx hb dX9_howMany_3 (lv_at hl 0 rfl) ?_
  refine lv_bipush (v := 6) hx hb dX9_howMany_5 (by decide) ?_
  refine lv_icmp_ge (tgt := 34) hx hb dX9_howMany_7 (by decide) (fun _ => ?_) (fun q => absurd (by decide) q)
  refine lv_iconst (v := 1) hx hb dX9_howMany_34 (by decide) ?_
  refine lv_istore (lv' := [(4, .int 1), (0, .ref (a 6)), (1, .int 0), (2, .int 0), (3, .int v1_)]) hx hb dX9_howMany_35 hl (by decide) rfl (fun ls hl => ?_)
  refine lv_iload hx hb dX9_howMany_37 (lv_at hl 0 rfl) ?_
  refine lv_iload_n hx hb dX9_howMany_39 rfl (lv_at hl 4 rfl) ?_
  refine lv_icmp_gt (tgt := 162) hx hb dX9_howMany_40 (by decide) (fun c1 => ?_) (fun c1 => ?_)
  · refine lv_iload_n hx hb dX9_howMany_162 rfl (lv_at hl 3 rfl) ?_
    refine lv_if_lt (tgt := 181) hx hb dX9_howMany_163 (by decide) (fun q => absurd q (by decide)) (fun _ => ?_)
    refine lv_iload_n hx hb dX9_howMany_166 rfl (lv_at hl 3 rfl) ?_
    refine lv_bipush (v := 6) hx hb dX9_howMany_167 (by decide) ?_
    refine lv_icmp_ge (tgt := 181) hx hb dX9_howMany_169 (by decide) (fun q => absurd q (by decide)) (fun _ => ?_)
    refine lv_aload_n hx hb dX9_howMany_172 rfl (lv_at hl 1 rfl) ?_
    refine va_get (ci := 9) (v := .ref (a 54)) (C := RX9) (T := TX9) (N := 6) hx hb htA in_X9 hown hK hP 3 rfl rfl 4 (by decide) (htA _ wd_47) (fun _ h => h) rfl dX9_howMany_173 ?_
    refine lv_iload_n hx hb dX9_howMany_176 rfl (lv_at hl 3 rfl) ?_
    refine va_lald hx hb hK hP 0 2 rfl rfl (in_lit (by decide)) dX9_howMany_177 ?_
    refine lv_topl (fun x2 ex2 => ?_)
    obtain rfl : x2 = 1 := ex2.trans (by decide)
    refine lv_goto (tgt := 182) hx hb dX9_howMany_178 (by decide) ?_
    exact rL hX hE hP hD hS dX9_howMany_182 (by decide) (by decide) (Or.inl (⟨c1, rfl, rfl⟩))
  · refine lv_iload hx hb dX9_howMany_43 (lv_at hl 0 rfl) ?_
    refine lv_bipush (v := 60) hx hb dX9_howMany_45 (by decide) ?_
    refine lv_icmp_gt (tgt := 162) hx hb dX9_howMany_47 (by decide) (fun q => absurd q (by decide)) (fun _ => ?_)
    refine lv_aload_n hx hb dX9_howMany_50 rfl (lv_at hl 1 rfl) ?_
    refine va_get (ci := 9) (v := .ref (a 54)) (C := RX9) (T := TX9) (N := 6) hx hb htA in_X9 hown hK hP 3 rfl rfl 4 (by decide) (htA _ wd_47) (fun _ h => h) rfl dX9_howMany_51 ?_
    refine lv_iconst (v := 0) hx hb dX9_howMany_54 (by decide) ?_
    refine lv_aload_n hx hb dX9_howMany_55 rfl (lv_at hl 1 rfl) ?_
    refine va_get (ci := 9) (v := .ref (a 55)) (C := RX9) (T := TX9) (N := 6) hx hb htA in_X9 hown hK hP 3 rfl rfl 5 (by decide) (htA _ wd_48) (fun _ h => h) rfl dX9_howMany_56 ?_
    refine lv_iconst (v := 0) hx hb dX9_howMany_59 (by decide) ?_
    refine lv_bipush (v := 6) hx hb dX9_howMany_60 (by decide) ?_
    refine va_copyl hx hb (hml.trans hl.1.symm) hown (htA _ wd_1212) (htA _ wd_394) (htA _ wd_393) (htA _ wd_22) hK hP hD hS 0 1 2 2 rfl rfl rfl rfl rfl (by decide) (by decide) (by decide) (by decide) (by decide) (fun _ _ => rfl) (by decide) (by decide) dX9_howMany_62 (fun H locs hP hD hS => ?_)
    rw [mc_c0] at hP hD
    have hP : va_P D vwCl [((a 54), .inl (cy 2, 6, .inr (.inl (mc)))), ((a 55), .inl (cy 2, 6, .inr (.inl (mc)))), ((a 51), .inl (cy 0, 61, .inl (fun _ => 0))), ((a 6), .inr (9, [.int 1, .ref (a 51), .ref (a 52), .ref (a 53), .ref (a 54), .ref (a 55)]))] H := hP
    have hD : va_D A [((a 54), .inl (cy 2, 6, .inr (.inl (mc)))), ((a 55), .inl (cy 2, 6, .inr (.inl (mc)))), ((a 51), .inl (cy 0, 61, .inl (fun _ => 0))), ((a 6), .inr (9, [.int 1, .ref (a 51), .ref (a 52), .ref (a 53), .ref (a 54), .ref (a 55)]))] := hD
    refine lv_iconst (v := 0) hx hb dX9_howMany_65 (by decide) ?_
    refine lv_istore (lv' := [(5, .int 0), (4, .int 1), (0, .ref (a 6)), (1, .int 0), (2, .int 0), (3, .int v1_)]) hx hb dX9_howMany_66 hl (by decide) rfl (fun ls hl => ?_)
    refine lv_iload hx hb dX9_howMany_68 (lv_at hl 0 rfl) ?_
    refine lv_bipush (v := 6) hx hb dX9_howMany_70 (by decide) ?_
    refine lv_icmp_ge (tgt := 156) hx hb dX9_howMany_72 (by decide) (fun q => absurd q (by decide)) (fun _ => ?_)
    refine lv_aload_n hx hb dX9_howMany_75 rfl (lv_at hl 2 rfl) ?_
    refine va_get (ci := 9) (v := .int 1) (C := RX9) (T := TX9) (N := 6) hx hb htA in_X9 hown hK hP 3 rfl rfl 0 (by decide) (htA _ wd_42) (fun _ h => h) rfl dX9_howMany_76 ?_
    refine lv_iload hx hb dX9_howMany_79 (lv_at hl 0 rfl) ?_
    refine lv_ishr hx hb dX9_howMany_81 ?_
    refine lv_topi (fun x3 ex3 => ?_)
    obtain rfl : x3 = 1 := ex3.trans (by decide)
    refine lv_iconst (v := 1) hx hb dX9_howMany_82 (by decide) ?_
    refine lv_iand hx hb dX9_howMany_83 ?_
    refine lv_topi (fun x4 ex4 => ?_)
    obtain rfl : x4 = 1 := ex4.trans (by decide)
    refine lv_if_eq (tgt := 106) hx hb dX9_howMany_84 (by decide) (fun q => absurd q (by decide)) (fun _ => ?_)
    refine lv_aload_n hx hb dX9_howMany_87 rfl (lv_at hl 2 rfl) ?_
    refine va_get (ci := 9) (v := .ref (a 51)) (C := RX9) (T := TX9) (N := 6) hx hb htA in_X9 hown hK hP 3 rfl rfl 1 (by decide) (htA _ wd_43) (fun _ h => h) rfl dX9_howMany_88 ?_
    refine lv_iload hx hb dX9_howMany_91 (lv_at hl 1 rfl) ?_
    refine va_iald hx hb hK hP 2 0 rfl rfl (in_lit (by decide)) dX9_howMany_93 ?_
    refine lv_topi (fun x5 ex5 => ?_)
    obtain rfl : x5 = 0 := ex5
    refine lv_iload hx hb dX9_howMany_94 (lv_at hl 0 rfl) ?_
    refine lv_ishr hx hb dX9_howMany_96 ?_
    refine lv_topi (fun x6 ex6 => ?_)
    obtain rfl : x6 = 0 := ex6.trans (by decide)
    refine lv_iconst (v := 1) hx hb dX9_howMany_97 (by decide) ?_
    refine lv_iand hx hb dX9_howMany_98 ?_
    refine lv_topi (fun x7 ex7 => ?_)
    obtain rfl : x7 = 0 := ex7.trans (by decide)
    refine lv_if_ne (tgt := 106) hx hb dX9_howMany_99 (by decide) (fun q => absurd rfl q) (fun _ => ?_)
    refine lv_iconst (v := 1) hx hb dX9_howMany_102 (by decide) ?_
    refine lv_goto (tgt := 107) hx hb dX9_howMany_103 (by decide) ?_
    refine lv_istore (lv' := [(6, .int 1), (5, .int 0), (4, .int 1), (0, .ref (a 6)), (1, .int 0), (2, .int 0), (3, .int v1_)]) hx hb dX9_howMany_107 hl (by decide) rfl (fun ls hl => ?_)
    refine lv_aload_n hx hb dX9_howMany_109 rfl (lv_at hl 3 rfl) ?_
    refine va_get (ci := 9) (v := .ref (a 54)) (C := RX9) (T := TX9) (N := 6) hx hb htA in_X9 hown hK hP 3 rfl rfl 4 (by decide) (htA _ wd_47) (fun _ h => h) rfl dX9_howMany_110 ?_
    refine lv_iload hx hb dX9_howMany_113 (lv_at hl 1 rfl) ?_
    refine lv_iload hx hb dX9_howMany_115 (lv_at hl 0 rfl) ?_
    refine lv_if_eq (tgt := 148) hx hb dX9_howMany_117 (by decide) (fun q => absurd q (by decide)) (fun _ => ?_)
    refine lv_aload_n hx hb dX9_howMany_120 rfl (lv_at hl 3 rfl) ?_
    refine va_get (ci := 9) (v := .ref (a 55)) (C := RX9) (T := TX9) (N := 6) hx hb htA in_X9 hown hK hP 3 rfl rfl 5 (by decide) (htA _ wd_48) (fun _ h => h) rfl dX9_howMany_121 ?_
    refine lv_iload hx hb dX9_howMany_124 (lv_at hl 1 rfl) ?_
    refine va_lald hx hb hK hP 1 2 rfl rfl (in_lit (by decide)) dX9_howMany_126 ?_
    refine lv_topl (fun x8 ex8 => ?_)
    obtain rfl : x8 = 1 := ex8.trans (by decide)
    refine lv_aload_n hx hb dX9_howMany_127 rfl (lv_at hl 3 rfl) ?_
    refine lv_iload hx hb dX9_howMany_128 (lv_at hl 1 rfl) ?_
    refine lv_iconst (v := 1) hx hb dX9_howMany_130 (by decide) ?_
    refine lv_isub hx hb dX9_howMany_131 ?_
    refine lv_topi (fun x9 ex9 => ?_)
    obtain rfl : x9 = (-1) := ex9.trans (by decide)
    refine kVl (As := [.int (-1)]) (rest := [.long 1, .int 0, .ref (a 54)]) (wr := [((a 54), .inl (cy 2, 6, .inr (.inl (mc)))), ((a 55), .inl (cy 2, 6, .inr (.inl (mc)))), ((a 51), .inl (cy 0, 61, .inl (fun _ => 0)))]) hX hE (au_X9_beside_80 l D cy a) (cwVA 1 htA wd_1216 wd_1213 wd_2 wd_1215 wp_38 (by decide +kernel) ⟨by decide, by decide⟩) hP hD hS [3] [0, 1, 2] rfl rfl (by decide) 0 rfl rfl rfl rfl hl.1 rfl (Nat.le_of_ble_eq_true rfl) dX9_howMany_132 (by decide) (fun r_ W1 H locs hw hP hD hS => ?_)
    refine W.widen (k := 0) (n := 0) (by decide) (by decide) ?_
    obtain ⟨rfl, rfl⟩ := hw
    have hP : va_P D vwCl [((a 54), .inl (cy 2, 6, .inr (.inl (mc)))), ((a 55), .inl (cy 2, 6, .inr (.inl (mc)))), ((a 51), .inl (cy 0, 61, .inl (fun _ => 0))), ((a 6), .inr (9, [.int 1, .ref (a 51), .ref (a 52), .ref (a 53), .ref (a 54), .ref (a 55)]))] H := hP
    have hD : va_D A [((a 54), .inl (cy 2, 6, .inr (.inl (mc)))), ((a 55), .inl (cy 2, 6, .inr (.inl (mc)))), ((a 51), .inl (cy 0, 61, .inl (fun _ => 0))), ((a 6), .inr (9, [.int 1, .ref (a 51), .ref (a 52), .ref (a 53), .ref (a 54), .ref (a 55)]))] := hD
    refine lv_ladd hx hb dX9_howMany_135 ?_
    refine lv_topl (fun x10 ex10 => ?_)
    obtain rfl : x10 = 1 := ex10.trans (by decide)
    refine lv_aload_n hx hb dX9_howMany_136 rfl (lv_at hl 3 rfl) ?_
    refine lv_iload hx hb dX9_howMany_137 (lv_at hl 1 rfl) ?_
    refine lv_iconst (v := 1) hx hb dX9_howMany_139 (by decide) ?_
    refine lv_iadd hx hb dX9_howMany_140 ?_
    refine lv_topi (fun x11 ex11 => ?_)
    obtain rfl : x11 = 1 := ex11.trans (by decide)
    refine kVl (As := [.int 1]) (rest := [.long 1, .int 0, .ref (a 54)]) (wr := [((a 54), .inl (cy 2, 6, .inr (.inl (mc)))), ((a 51), .inl (cy 0, 61, .inl (fun _ => 0)))]) hX hE (au_X9_beside_81 l D cy a) (cwVA 1 htA wd_1216 wd_1213 wd_2 wd_1215 wp_38 (by decide +kernel) ⟨by decide, by decide⟩) hP hD hS [1, 3] [0, 2] rfl rfl (by decide) 1 rfl rfl rfl rfl hl.1 rfl (Nat.le_of_ble_eq_true rfl) dX9_howMany_141 (by decide) (fun r_ W1 H locs hw hP hD hS => ?_)
    refine W.widen (k := 0) (n := 0) (by decide) (by decide) ?_
    obtain ⟨rfl, rfl⟩ := hw
    have hP : va_P D vwCl [((a 54), .inl (cy 2, 6, .inr (.inl (mc)))), ((a 51), .inl (cy 0, 61, .inl (fun _ => 0))), ((a 55), .inl (cy 2, 6, .inr (.inl (mc)))), ((a 6), .inr (9, [.int 1, .ref (a 51), .ref (a 52), .ref (a 53), .ref (a 54), .ref (a 55)]))] H := hP
    have hD : va_D A [((a 54), .inl (cy 2, 6, .inr (.inl (mc)))), ((a 51), .inl (cy 0, 61, .inl (fun _ => 0))), ((a 55), .inl (cy 2, 6, .inr (.inl (mc)))), ((a 6), .inr (9, [.int 1, .ref (a 51), .ref (a 52), .ref (a 53), .ref (a 54), .ref (a 55)]))] := hD
    refine lv_ladd hx hb dX9_howMany_144 ?_
    refine lv_topl (fun x12 ex12 => ?_)
    obtain rfl : x12 = 1 := ex12.trans (by decide)
    refine lv_goto (tgt := 149) hx hb dX9_howMany_145 (by decide) ?_
    refine va_last hx hb hK hP hD hS 0 2 rfl rfl (in_lit (by decide)) dX9_howMany_149 (fun H locs hP hD hS => ?_)
    rw [fa_upd_sameL (f := mc) (i := (0 : Int32).toNatClampNeg) (x := 1) (by decide)] at hP hD
    have hP : va_P D vwCl [((a 54), .inl (cy 2, 6, .inr (.inl (mc)))), ((a 51), .inl (cy 0, 61, .inl (fun _ => 0))), ((a 55), .inl (cy 2, 6, .inr (.inl (mc)))), ((a 6), .inr (9, [.int 1, .ref (a 51), .ref (a 52), .ref (a 53), .ref (a 54), .ref (a 55)]))] H := hP
    have hD : va_D A [((a 54), .inl (cy 2, 6, .inr (.inl (mc)))), ((a 51), .inl (cy 0, 61, .inl (fun _ => 0))), ((a 55), .inl (cy 2, 6, .inr (.inl (mc)))), ((a 6), .inr (9, [.int 1, .ref (a 51), .ref (a 52), .ref (a 53), .ref (a 54), .ref (a 55)]))] := hD
    refine lv_iinc (v := 1) (lv' := [(5, .int 1), (6, .int 1), (4, .int 1), (0, .ref (a 6)), (1, .int 0), (2, .int 0), (3, .int v1_)]) hx hb dX9_howMany_150 hl (k := 1) rfl (by decide) (by decide) rfl (fun ls hl => ?_)
    refine lv_goto (tgt := 68) hx hb dX9_howMany_153 (by decide) ?_
    refine lv_iload hx hb dX9_howMany_68 (lv_at hl 0 rfl) ?_
    refine lv_bipush (v := 6) hx hb dX9_howMany_70 (by decide) ?_
    refine lv_icmp_ge (tgt := 156) hx hb dX9_howMany_72 (by decide) (fun q => absurd q (by decide)) (fun _ => ?_)
    refine lv_aload_n hx hb dX9_howMany_75 rfl (lv_at hl 3 rfl) ?_
    refine va_get (ci := 9) (v := .int 1) (C := RX9) (T := TX9) (N := 6) hx hb htA in_X9 hown hK hP 3 rfl rfl 0 (by decide) (htA _ wd_42) (fun _ h => h) rfl dX9_howMany_76 ?_
    refine lv_iload hx hb dX9_howMany_79 (lv_at hl 0 rfl) ?_
    refine lv_ishr hx hb dX9_howMany_81 ?_
    refine lv_topi (fun x13 ex13 => ?_)
    obtain rfl : x13 = 0 := ex13.trans (by decide)
    refine lv_iconst (v := 1) hx hb dX9_howMany_82 (by decide) ?_
    refine lv_iand hx hb dX9_howMany_83 ?_
    refine lv_topi (fun x14 ex14 => ?_)
    obtain rfl : x14 = 0 := ex14.trans (by decide)
    refine lv_if_eq (tgt := 106) hx hb dX9_howMany_84 (by decide) (fun _ => ?_) (fun q => absurd (by decide) q)
    refine lv_iconst (v := 0) hx hb dX9_howMany_106 (by decide) ?_
    refine lv_istore (lv' := [(6, .int 0), (5, .int 1), (4, .int 1), (0, .ref (a 6)), (1, .int 0), (2, .int 0), (3, .int v1_)]) hx hb dX9_howMany_107 hl (by decide) rfl (fun ls hl => ?_)
    refine lv_aload_n hx hb dX9_howMany_109 rfl (lv_at hl 3 rfl) ?_
    refine va_get (ci := 9) (v := .ref (a 54)) (C := RX9) (T := TX9) (N := 6) hx hb htA in_X9 hown hK hP 3 rfl rfl 4 (by decide) (htA _ wd_47) (fun _ h => h) rfl dX9_howMany_110 ?_
    refine lv_iload hx hb dX9_howMany_113 (lv_at hl 1 rfl) ?_
    refine lv_iload hx hb dX9_howMany_115 (lv_at hl 0 rfl) ?_
    refine lv_if_eq (tgt := 148) hx hb dX9_howMany_117 (by decide) (fun _ => ?_) (fun q => absurd (by decide) q)
    refine lv_lconst (v := 0) hx hb dX9_howMany_148 (by decide) ?_
    refine va_last hx hb hK hP hD hS 0 2 rfl rfl (in_lit (by decide)) dX9_howMany_149 (fun H locs hP hD hS => ?_)
    rw [fa_upd_sameL (f := mc) (i := (1 : Int32).toNatClampNeg) (x := 0) (by decide)] at hP hD
    have hP : va_P D vwCl [((a 54), .inl (cy 2, 6, .inr (.inl (mc)))), ((a 51), .inl (cy 0, 61, .inl (fun _ => 0))), ((a 55), .inl (cy 2, 6, .inr (.inl (mc)))), ((a 6), .inr (9, [.int 1, .ref (a 51), .ref (a 52), .ref (a 53), .ref (a 54), .ref (a 55)]))] H := hP
    have hD : va_D A [((a 54), .inl (cy 2, 6, .inr (.inl (mc)))), ((a 51), .inl (cy 0, 61, .inl (fun _ => 0))), ((a 55), .inl (cy 2, 6, .inr (.inl (mc)))), ((a 6), .inr (9, [.int 1, .ref (a 51), .ref (a 52), .ref (a 53), .ref (a 54), .ref (a 55)]))] := hD
    refine lv_iinc (v := 2) (lv' := [(5, .int 2), (6, .int 0), (4, .int 1), (0, .ref (a 6)), (1, .int 0), (2, .int 0), (3, .int v1_)]) hx hb dX9_howMany_150 hl (k := 1) rfl (by decide) (by decide) rfl (fun ls hl => ?_)
    refine lv_goto (tgt := 68) hx hb dX9_howMany_153 (by decide) ?_
    refine lv_iload hx hb dX9_howMany_68 (lv_at hl 0 rfl) ?_
    refine lv_bipush (v := 6) hx hb dX9_howMany_70 (by decide) ?_
    refine lv_icmp_ge (tgt := 156) hx hb dX9_howMany_72 (by decide) (fun q => absurd q (by decide)) (fun _ => ?_)
    refine lv_aload_n hx hb dX9_howMany_75 rfl (lv_at hl 3 rfl) ?_
    refine va_get (ci := 9) (v := .int 1) (C := RX9) (T := TX9) (N := 6) hx hb htA in_X9 hown hK hP 3 rfl rfl 0 (by decide) (htA _ wd_42) (fun _ h => h) rfl dX9_howMany_76 ?_
    refine lv_iload hx hb dX9_howMany_79 (lv_at hl 0 rfl) ?_
    refine lv_ishr hx hb dX9_howMany_81 ?_
    refine lv_topi (fun x15 ex15 => ?_)
    obtain rfl : x15 = 0 := ex15.trans (by decide)
    refine lv_iconst (v := 1) hx hb dX9_howMany_82 (by decide) ?_
    refine lv_iand hx hb dX9_howMany_83 ?_
    refine lv_topi (fun x16 ex16 => ?_)
    obtain rfl : x16 = 0 := ex16.trans (by decide)
    refine lv_if_eq (tgt := 106) hx hb dX9_howMany_84 (by decide) (fun _ => ?_) (fun q => absurd (by decide) q)
    refine lv_iconst (v := 0) hx hb dX9_howMany_106 (by decide) ?_
    refine lv_istore (lv' := [(6, .int 0), (5, .int 2), (4, .int 1), (0, .ref (a 6)), (1, .int 0), (2, .int 0), (3, .int v1_)]) hx hb dX9_howMany_107 hl (by decide) rfl (fun ls hl => ?_)
    refine lv_aload_n hx hb dX9_howMany_109 rfl (lv_at hl 3 rfl) ?_
    refine va_get (ci := 9) (v := .ref (a 54)) (C := RX9) (T := TX9) (N := 6) hx hb htA in_X9 hown hK hP 3 rfl rfl 4 (by decide) (htA _ wd_47) (fun _ h => h) rfl dX9_howMany_110 ?_
    refine lv_iload hx hb dX9_howMany_113 (lv_at hl 1 rfl) ?_
    refine lv_iload hx hb dX9_howMany_115 (lv_at hl 0 rfl) ?_
    refine lv_if_eq (tgt := 148) hx hb dX9_howMany_117 (by decide) (fun _ => ?_) (fun q => absurd (by decide) q)
    refine lv_lconst (v := 0) hx hb dX9_howMany_148 (by decide) ?_
    refine va_last hx hb hK hP hD hS 0 2 rfl rfl (in_lit (by decide)) dX9_howMany_149 (fun H locs hP hD hS => ?_)
    rw [fa_upd_sameL (f := mc) (i := (2 : Int32).toNatClampNeg) (x := 0) (by decide)] at hP hD
    have hP : va_P D vwCl [((a 54), .inl (cy 2, 6, .inr (.inl (mc)))), ((a 51), .inl (cy 0, 61, .inl (fun _ => 0))), ((a 55), .inl (cy 2, 6, .inr (.inl (mc)))), ((a 6), .inr (9, [.int 1, .ref (a 51), .ref (a 52), .ref (a 53), .ref (a 54), .ref (a 55)]))] H := hP
    have hD : va_D A [((a 54), .inl (cy 2, 6, .inr (.inl (mc)))), ((a 51), .inl (cy 0, 61, .inl (fun _ => 0))), ((a 55), .inl (cy 2, 6, .inr (.inl (mc)))), ((a 6), .inr (9, [.int 1, .ref (a 51), .ref (a 52), .ref (a 53), .ref (a 54), .ref (a 55)]))] := hD
    refine lv_iinc (v := 3) (lv' := [(5, .int 3), (6, .int 0), (4, .int 1), (0, .ref (a 6)), (1, .int 0), (2, .int 0), (3, .int v1_)]) hx hb dX9_howMany_150 hl (k := 1) rfl (by decide) (by decide) rfl (fun ls hl => ?_)
    refine lv_goto (tgt := 68) hx hb dX9_howMany_153 (by decide) ?_
    refine lv_iload hx hb dX9_howMany_68 (lv_at hl 0 rfl) ?_
    refine lv_bipush (v := 6) hx hb dX9_howMany_70 (by decide) ?_
    refine lv_icmp_ge (tgt := 156) hx hb dX9_howMany_72 (by decide) (fun q => absurd q (by decide)) (fun _ => ?_)
    refine lv_aload_n hx hb dX9_howMany_75 rfl (lv_at hl 3 rfl) ?_
    refine va_get (ci := 9) (v := .int 1) (C := RX9) (T := TX9) (N := 6) hx hb htA in_X9 hown hK hP 3 rfl rfl 0 (by decide) (htA _ wd_42) (fun _ h => h) rfl dX9_howMany_76 ?_
    refine lv_iload hx hb dX9_howMany_79 (lv_at hl 0 rfl) ?_
    refine lv_ishr hx hb dX9_howMany_81 ?_
    refine lv_topi (fun x17 ex17 => ?_)
    obtain rfl : x17 = 0 := ex17.trans (by decide)
    refine lv_iconst (v := 1) hx hb dX9_howMany_82 (by decide) ?_
    refine lv_iand hx hb dX9_howMany_83 ?_
    refine lv_topi (fun x18 ex18 => ?_)
    obtain rfl : x18 = 0 := ex18.trans (by decide)
    refine lv_if_eq (tgt := 106) hx hb dX9_howMany_84 (by decide) (fun _ => ?_) (fun q => absurd (by decide) q)
    refine lv_iconst (v := 0) hx hb dX9_howMany_106 (by decide) ?_
    refine lv_istore (lv' := [(6, .int 0), (5, .int 3), (4, .int 1), (0, .ref (a 6)), (1, .int 0), (2, .int 0), (3, .int v1_)]) hx hb dX9_howMany_107 hl (by decide) rfl (fun ls hl => ?_)
    refine lv_aload_n hx hb dX9_howMany_109 rfl (lv_at hl 3 rfl) ?_
    refine va_get (ci := 9) (v := .ref (a 54)) (C := RX9) (T := TX9) (N := 6) hx hb htA in_X9 hown hK hP 3 rfl rfl 4 (by decide) (htA _ wd_47) (fun _ h => h) rfl dX9_howMany_110 ?_
    refine lv_iload hx hb dX9_howMany_113 (lv_at hl 1 rfl) ?_
    refine lv_iload hx hb dX9_howMany_115 (lv_at hl 0 rfl) ?_
    refine lv_if_eq (tgt := 148) hx hb dX9_howMany_117 (by decide) (fun _ => ?_) (fun q => absurd (by decide) q)
    refine lv_lconst (v := 0) hx hb dX9_howMany_148 (by decide) ?_
    refine va_last hx hb hK hP hD hS 0 2 rfl rfl (in_lit (by decide)) dX9_howMany_149 (fun H locs hP hD hS => ?_)
    rw [fa_upd_sameL (f := mc) (i := (3 : Int32).toNatClampNeg) (x := 0) (by decide)] at hP hD
    have hP : va_P D vwCl [((a 54), .inl (cy 2, 6, .inr (.inl (mc)))), ((a 51), .inl (cy 0, 61, .inl (fun _ => 0))), ((a 55), .inl (cy 2, 6, .inr (.inl (mc)))), ((a 6), .inr (9, [.int 1, .ref (a 51), .ref (a 52), .ref (a 53), .ref (a 54), .ref (a 55)]))] H := hP
    have hD : va_D A [((a 54), .inl (cy 2, 6, .inr (.inl (mc)))), ((a 51), .inl (cy 0, 61, .inl (fun _ => 0))), ((a 55), .inl (cy 2, 6, .inr (.inl (mc)))), ((a 6), .inr (9, [.int 1, .ref (a 51), .ref (a 52), .ref (a 53), .ref (a 54), .ref (a 55)]))] := hD
    refine lv_iinc (v := 4) (lv' := [(5, .int 4), (6, .int 0), (4, .int 1), (0, .ref (a 6)), (1, .int 0), (2, .int 0), (3, .int v1_)]) hx hb dX9_howMany_150 hl (k := 1) rfl (by decide) (by decide) rfl (fun ls hl => ?_)
    refine lv_goto (tgt := 68) hx hb dX9_howMany_153 (by decide) ?_
    refine lv_iload hx hb dX9_howMany_68 (lv_at hl 0 rfl) ?_
    refine lv_bipush (v := 6) hx hb dX9_howMany_70 (by decide) ?_
    refine lv_icmp_ge (tgt := 156) hx hb dX9_howMany_72 (by decide) (fun q => absurd q (by decide)) (fun _ => ?_)
    refine lv_aload_n hx hb dX9_howMany_75 rfl (lv_at hl 3 rfl) ?_
    refine va_get (ci := 9) (v := .int 1) (C := RX9) (T := TX9) (N := 6) hx hb htA in_X9 hown hK hP 3 rfl rfl 0 (by decide) (htA _ wd_42) (fun _ h => h) rfl dX9_howMany_76 ?_
    refine lv_iload hx hb dX9_howMany_79 (lv_at hl 0 rfl) ?_
    refine lv_ishr hx hb dX9_howMany_81 ?_
    refine lv_topi (fun x19 ex19 => ?_)
    obtain rfl : x19 = 0 := ex19.trans (by decide)
    refine lv_iconst (v := 1) hx hb dX9_howMany_82 (by decide) ?_
    refine lv_iand hx hb dX9_howMany_83 ?_
    refine lv_topi (fun x20 ex20 => ?_)
    obtain rfl : x20 = 0 := ex20.trans (by decide)
    refine lv_if_eq (tgt := 106) hx hb dX9_howMany_84 (by decide) (fun _ => ?_) (fun q => absurd (by decide) q)
    refine lv_iconst (v := 0) hx hb dX9_howMany_106 (by decide) ?_
    refine lv_istore (lv' := [(6, .int 0), (5, .int 4), (4, .int 1), (0, .ref (a 6)), (1, .int 0), (2, .int 0), (3, .int v1_)]) hx hb dX9_howMany_107 hl (by decide) rfl (fun ls hl => ?_)
    refine lv_aload_n hx hb dX9_howMany_109 rfl (lv_at hl 3 rfl) ?_
    refine va_get (ci := 9) (v := .ref (a 54)) (C := RX9) (T := TX9) (N := 6) hx hb htA in_X9 hown hK hP 3 rfl rfl 4 (by decide) (htA _ wd_47) (fun _ h => h) rfl dX9_howMany_110 ?_
    refine lv_iload hx hb dX9_howMany_113 (lv_at hl 1 rfl) ?_
    refine lv_iload hx hb dX9_howMany_115 (lv_at hl 0 rfl) ?_
    refine lv_if_eq (tgt := 148) hx hb dX9_howMany_117 (by decide) (fun _ => ?_) (fun q => absurd (by decide) q)
    refine lv_lconst (v := 0) hx hb dX9_howMany_148 (by decide) ?_
    refine va_last hx hb hK hP hD hS 0 2 rfl rfl (in_lit (by decide)) dX9_howMany_149 (fun H locs hP hD hS => ?_)
    rw [fa_upd_sameL (f := mc) (i := (4 : Int32).toNatClampNeg) (x := 0) (by decide)] at hP hD
    have hP : va_P D vwCl [((a 54), .inl (cy 2, 6, .inr (.inl (mc)))), ((a 51), .inl (cy 0, 61, .inl (fun _ => 0))), ((a 55), .inl (cy 2, 6, .inr (.inl (mc)))), ((a 6), .inr (9, [.int 1, .ref (a 51), .ref (a 52), .ref (a 53), .ref (a 54), .ref (a 55)]))] H := hP
    have hD : va_D A [((a 54), .inl (cy 2, 6, .inr (.inl (mc)))), ((a 51), .inl (cy 0, 61, .inl (fun _ => 0))), ((a 55), .inl (cy 2, 6, .inr (.inl (mc)))), ((a 6), .inr (9, [.int 1, .ref (a 51), .ref (a 52), .ref (a 53), .ref (a 54), .ref (a 55)]))] := hD
    refine lv_iinc (v := 5) (lv' := [(5, .int 5), (6, .int 0), (4, .int 1), (0, .ref (a 6)), (1, .int 0), (2, .int 0), (3, .int v1_)]) hx hb dX9_howMany_150 hl (k := 1) rfl (by decide) (by decide) rfl (fun ls hl => ?_)
    refine lv_goto (tgt := 68) hx hb dX9_howMany_153 (by decide) ?_
    refine lv_iload hx hb dX9_howMany_68 (lv_at hl 0 rfl) ?_
    refine lv_bipush (v := 6) hx hb dX9_howMany_70 (by decide) ?_
    refine lv_icmp_ge (tgt := 156) hx hb dX9_howMany_72 (by decide) (fun q => absurd q (by decide)) (fun _ => ?_)
    refine lv_aload_n hx hb dX9_howMany_75 rfl (lv_at hl 3 rfl) ?_
    refine va_get (ci := 9) (v := .int 1) (C := RX9) (T := TX9) (N := 6) hx hb htA in_X9 hown hK hP 3 rfl rfl 0 (by decide) (htA _ wd_42) (fun _ h => h) rfl dX9_howMany_76 ?_
    refine lv_iload hx hb dX9_howMany_79 (lv_at hl 0 rfl) ?_
    refine lv_ishr hx hb dX9_howMany_81 ?_
    refine lv_topi (fun x21 ex21 => ?_)
    obtain rfl : x21 = 0 := ex21.trans (by decide)
    refine lv_iconst (v := 1) hx hb dX9_howMany_82 (by decide) ?_
    refine lv_iand hx hb dX9_howMany_83 ?_
    refine lv_topi (fun x22 ex22 => ?_)
    obtain rfl : x22 = 0 := ex22.trans (by decide)
    refine lv_if_eq (tgt := 106) hx hb dX9_howMany_84 (by decide) (fun _ => ?_) (fun q => absurd (by decide) q)
    refine lv_iconst (v := 0) hx hb dX9_howMany_106 (by decide) ?_
    refine lv_istore (lv' := [(6, .int 0), (5, .int 5), (4, .int 1), (0, .ref (a 6)), (1, .int 0), (2, .int 0), (3, .int v1_)]) hx hb dX9_howMany_107 hl (by decide) rfl (fun ls hl => ?_)
    refine lv_aload_n hx hb dX9_howMany_109 rfl (lv_at hl 3 rfl) ?_
    refine va_get (ci := 9) (v := .ref (a 54)) (C := RX9) (T := TX9) (N := 6) hx hb htA in_X9 hown hK hP 3 rfl rfl 4 (by decide) (htA _ wd_47) (fun _ h => h) rfl dX9_howMany_110 ?_
    refine lv_iload hx hb dX9_howMany_113 (lv_at hl 1 rfl) ?_
    refine lv_iload hx hb dX9_howMany_115 (lv_at hl 0 rfl) ?_
    refine lv_if_eq (tgt := 148) hx hb dX9_howMany_117 (by decide) (fun _ => ?_) (fun q => absurd (by decide) q)
    refine lv_lconst (v := 0) hx hb dX9_howMany_148 (by decide) ?_
    refine va_last hx hb hK hP hD hS 0 2 rfl rfl (in_lit (by decide)) dX9_howMany_149 (fun H locs hP hD hS => ?_)
    rw [fa_upd_sameL (f := mc) (i := (5 : Int32).toNatClampNeg) (x := 0) (by decide)] at hP hD
    have hP : va_P D vwCl [((a 54), .inl (cy 2, 6, .inr (.inl (mc)))), ((a 51), .inl (cy 0, 61, .inl (fun _ => 0))), ((a 55), .inl (cy 2, 6, .inr (.inl (mc)))), ((a 6), .inr (9, [.int 1, .ref (a 51), .ref (a 52), .ref (a 53), .ref (a 54), .ref (a 55)]))] H := hP
    have hD : va_D A [((a 54), .inl (cy 2, 6, .inr (.inl (mc)))), ((a 51), .inl (cy 0, 61, .inl (fun _ => 0))), ((a 55), .inl (cy 2, 6, .inr (.inl (mc)))), ((a 6), .inr (9, [.int 1, .ref (a 51), .ref (a 52), .ref (a 53), .ref (a 54), .ref (a 55)]))] := hD
    refine lv_iinc (v := 6) (lv' := [(5, .int 6), (6, .int 0), (4, .int 1), (0, .ref (a 6)), (1, .int 0), (2, .int 0), (3, .int v1_)]) hx hb dX9_howMany_150 hl (k := 1) rfl (by decide) (by decide) rfl (fun ls hl => ?_)
    refine lv_goto (tgt := 68) hx hb dX9_howMany_153 (by decide) ?_
    refine lv_iload hx hb dX9_howMany_68 (lv_at hl 0 rfl) ?_
    refine lv_bipush (v := 6) hx hb dX9_howMany_70 (by decide) ?_
    refine lv_icmp_ge (tgt := 156) hx hb dX9_howMany_72 (by decide) (fun _ => ?_) (fun q => absurd (by decide) q)
    refine lv_iinc (v := 2) (lv' := [(4, .int 2), (5, .int 6), (6, .int 0), (0, .ref (a 6)), (1, .int 0), (2, .int 0), (3, .int v1_)]) hx hb dX9_howMany_156 hl (k := 2) rfl (by decide) (by decide) rfl (fun ls hl => ?_)
    refine lv_goto (tgt := 37) hx hb dX9_howMany_159 (by decide) ?_
    refine loopT (τ := Int32) (WS := fun i => [((a 54), .inl (cy 2, 6, .inr (.inl (mc)))), ((a 51), .inl (cy 0, 61, .inl (fun _ => 0))), ((a 55), .inl (cy 2, 6, .inr (.inl (mc)))), ((a 6), .inr (9, [.int 1, .ref (a 51), .ref (a 52), .ref (a 53), .ref (a 54), .ref (a 55)]))]) (LV := fun i => [(4, .int i), (5, .int 6), (6, .int 0), (0, .ref (a 6)), (1, .int 0), (2, .int 0), (3, .int v1_)]) (fun i => (62 - i.toInt).toNat) (fun i => 2 ≤ i.toInt ∧ i.toInt ≤ 61) ?_ 2 (by decide) hP hD hS hl
    intro v90_ H locs ls hI ih hP hD hS hl
    obtain ⟨gA, gB⟩ := hI
    have hP : va_P D vwCl [((a 54), .inl (cy 2, 6, .inr (.inl (mc)))), ((a 51), .inl (cy 0, 61, .inl (fun _ => 0))), ((a 55), .inl (cy 2, 6, .inr (.inl (mc)))), ((a 6), .inr (9, [.int 1, .ref (a 51), .ref (a 52), .ref (a 53), .ref (a 54), .ref (a 55)]))] H := hP
    have hD : va_D A [((a 54), .inl (cy 2, 6, .inr (.inl (mc)))), ((a 51), .inl (cy 0, 61, .inl (fun _ => 0))), ((a 55), .inl (cy 2, 6, .inr (.inl (mc)))), ((a 6), .inr (9, [.int 1, .ref (a 51), .ref (a 52), .ref (a 53), .ref (a 54), .ref (a 55)]))] := hD
    have hl : lv_has ls 7 [(4, .int v90_), (5, .int 6), (6, .int 0), (0, .ref (a 6)), (1, .int 0), (2, .int 0), (3, .int v1_)] := hl
    refine lv_iload hx hb dX9_howMany_37 (lv_at hl 0 rfl) ?_
    refine lv_iload_n hx hb dX9_howMany_39 rfl (lv_at hl 6 rfl) ?_
    refine lv_icmp_gt (tgt := 162) hx hb dX9_howMany_40 (by decide) (fun c23 => ?_) (fun c23 => ?_)
    · refine lv_iload_n hx hb dX9_howMany_162 rfl (lv_at hl 5 rfl) ?_
      refine lv_if_lt (tgt := 181) hx hb dX9_howMany_163 (by decide) (fun q => absurd q (by decide)) (fun _ => ?_)
      refine lv_iload_n hx hb dX9_howMany_166 rfl (lv_at hl 5 rfl) ?_
      refine lv_bipush (v := 6) hx hb dX9_howMany_167 (by decide) ?_
      refine lv_icmp_ge (tgt := 181) hx hb dX9_howMany_169 (by decide) (fun q => absurd q (by decide)) (fun _ => ?_)
      refine lv_aload_n hx hb dX9_howMany_172 rfl (lv_at hl 3 rfl) ?_
      refine va_get (ci := 9) (v := .ref (a 54)) (C := RX9) (T := TX9) (N := 6) hx hb htA in_X9 hown hK hP 3 rfl rfl 4 (by decide) (htA _ wd_47) (fun _ h => h) rfl dX9_howMany_173 ?_
      refine lv_iload_n hx hb dX9_howMany_176 rfl (lv_at hl 5 rfl) ?_
      refine va_lald hx hb hK hP 0 2 rfl rfl (in_lit (by decide)) dX9_howMany_177 ?_
      refine lv_topl (fun x24 ex24 => ?_)
      obtain rfl : x24 = 1 := ex24.trans (by decide)
      refine lv_goto (tgt := 182) hx hb dX9_howMany_178 (by decide) ?_
      exact rL hX hE hP hD hS dX9_howMany_182 (by decide) (by decide) (Or.inr (Or.inl (⟨c1, rfl, rfl⟩)))
    · refine lv_iload hx hb dX9_howMany_43 (lv_at hl 0 rfl) ?_
      refine lv_bipush (v := 60) hx hb dX9_howMany_45 (by decide) ?_
      refine lv_icmp_gt (tgt := 162) hx hb dX9_howMany_47 (by decide) (fun c25 => ?_) (fun c25 => ?_)
      · obtain rfl : v90_ = 61 := (by have kc1 := c1; have kgA := gA; have kgB := gB; have kc23 := c23; have kc25 := c25; (try simp only [lg_cmp_lt, lg_cmp_le, lg_cmp_ge, lg_cmp_gt, lg_cmp_eq, fa_lt, fa_le, fa_eq, fa_lt64, fa_le64, fa_eq64, Int32.toInt_toInt64, li_1, lj_1, li_2, lj_2, li_60, lj_60, li_61, lj_61] at kc1); (try simp only [lg_cmp_lt, lg_cmp_le, lg_cmp_ge, lg_cmp_gt, lg_cmp_eq, fa_lt, fa_le, fa_eq, fa_lt64, fa_le64, fa_eq64, Int32.toInt_toInt64, li_1, lj_1, li_2, lj_2, li_60, lj_60, li_61, lj_61] at kgA); (try simp only [lg_cmp_lt, lg_cmp_le, lg_cmp_ge, lg_cmp_gt, lg_cmp_eq, fa_lt, fa_le, fa_eq, fa_lt64, fa_le64, fa_eq64, Int32.toInt_toInt64, li_1, lj_1, li_2, lj_2, li_60, lj_60, li_61, lj_61] at kgB); (try simp only [lg_cmp_lt, lg_cmp_le, lg_cmp_ge, lg_cmp_gt, lg_cmp_eq, fa_lt, fa_le, fa_eq, fa_lt64, fa_le64, fa_eq64, Int32.toInt_toInt64, li_1, lj_1, li_2, lj_2, li_60, lj_60, li_61, lj_61] at kc23); (try simp only [lg_cmp_lt, lg_cmp_le, lg_cmp_ge, lg_cmp_gt, lg_cmp_eq, fa_lt, fa_le, fa_eq, fa_lt64, fa_le64, fa_eq64, Int32.toInt_toInt64, li_1, lj_1, li_2, lj_2, li_60, lj_60, li_61, lj_61] at kc25); rw [fa_eq, li_61]; omega)
        refine lv_iload_n hx hb dX9_howMany_162 rfl (lv_at hl 5 rfl) ?_
        refine lv_if_lt (tgt := 181) hx hb dX9_howMany_163 (by decide) (fun q => absurd q (by decide)) (fun _ => ?_)
        refine lv_iload_n hx hb dX9_howMany_166 rfl (lv_at hl 5 rfl) ?_
        refine lv_bipush (v := 6) hx hb dX9_howMany_167 (by decide) ?_
        refine lv_icmp_ge (tgt := 181) hx hb dX9_howMany_169 (by decide) (fun q => absurd q (by decide)) (fun _ => ?_)
        refine lv_aload_n hx hb dX9_howMany_172 rfl (lv_at hl 3 rfl) ?_
        refine va_get (ci := 9) (v := .ref (a 54)) (C := RX9) (T := TX9) (N := 6) hx hb htA in_X9 hown hK hP 3 rfl rfl 4 (by decide) (htA _ wd_47) (fun _ h => h) rfl dX9_howMany_173 ?_
        refine lv_iload_n hx hb dX9_howMany_176 rfl (lv_at hl 5 rfl) ?_
        refine va_lald hx hb hK hP 0 2 rfl rfl (in_lit (by decide)) dX9_howMany_177 ?_
        refine lv_topl (fun x26 ex26 => ?_)
        obtain rfl : x26 = 1 := ex26.trans (by decide)
        refine lv_goto (tgt := 182) hx hb dX9_howMany_178 (by decide) ?_
        exact rL hX hE hP hD hS dX9_howMany_182 (by decide) (by decide) (Or.inr (Or.inr (⟨c1, rfl, rfl⟩)))
      · refine lv_aload_n hx hb dX9_howMany_50 rfl (lv_at hl 3 rfl) ?_
        refine va_get (ci := 9) (v := .ref (a 54)) (C := RX9) (T := TX9) (N := 6) hx hb htA in_X9 hown hK hP 3 rfl rfl 4 (by decide) (htA _ wd_47) (fun _ h => h) rfl dX9_howMany_51 ?_
        refine lv_iconst (v := 0) hx hb dX9_howMany_54 (by decide) ?_
        refine lv_aload_n hx hb dX9_howMany_55 rfl (lv_at hl 3 rfl) ?_
        refine va_get (ci := 9) (v := .ref (a 55)) (C := RX9) (T := TX9) (N := 6) hx hb htA in_X9 hown hK hP 3 rfl rfl 5 (by decide) (htA _ wd_48) (fun _ h => h) rfl dX9_howMany_56 ?_
        refine lv_iconst (v := 0) hx hb dX9_howMany_59 (by decide) ?_
        refine lv_bipush (v := 6) hx hb dX9_howMany_60 (by decide) ?_
        refine va_copyl hx hb (hml.trans hl.1.symm) hown (htA _ wd_1212) (htA _ wd_394) (htA _ wd_393) (htA _ wd_22) hK hP hD hS 0 2 2 2 rfl rfl rfl rfl rfl (by decide) (by decide) (by decide) (by decide) (by decide) (fun _ _ => rfl) (by decide) (by decide) dX9_howMany_62 (fun H locs hP hD hS => ?_)
        rw [mc_c1] at hP hD
        have hP : va_P D vwCl [((a 54), .inl (cy 2, 6, .inr (.inl (mc)))), ((a 51), .inl (cy 0, 61, .inl (fun _ => 0))), ((a 55), .inl (cy 2, 6, .inr (.inl (mc)))), ((a 6), .inr (9, [.int 1, .ref (a 51), .ref (a 52), .ref (a 53), .ref (a 54), .ref (a 55)]))] H := hP
        have hD : va_D A [((a 54), .inl (cy 2, 6, .inr (.inl (mc)))), ((a 51), .inl (cy 0, 61, .inl (fun _ => 0))), ((a 55), .inl (cy 2, 6, .inr (.inl (mc)))), ((a 6), .inr (9, [.int 1, .ref (a 51), .ref (a 52), .ref (a 53), .ref (a 54), .ref (a 55)]))] := hD
        refine lv_iconst (v := 0) hx hb dX9_howMany_65 (by decide) ?_
        refine lv_istore (lv' := [(5, .int 0), (4, .int v90_), (6, .int 0), (0, .ref (a 6)), (1, .int 0), (2, .int 0), (3, .int v1_)]) hx hb dX9_howMany_66 hl (by decide) rfl (fun ls hl => ?_)
        refine lv_iload hx hb dX9_howMany_68 (lv_at hl 0 rfl) ?_
        refine lv_bipush (v := 6) hx hb dX9_howMany_70 (by decide) ?_
        refine lv_icmp_ge (tgt := 156) hx hb dX9_howMany_72 (by decide) (fun q => absurd q (by decide)) (fun _ => ?_)
        refine lv_aload_n hx hb dX9_howMany_75 rfl (lv_at hl 3 rfl) ?_
        refine va_get (ci := 9) (v := .int 1) (C := RX9) (T := TX9) (N := 6) hx hb htA in_X9 hown hK hP 3 rfl rfl 0 (by decide) (htA _ wd_42) (fun _ h => h) rfl dX9_howMany_76 ?_
        refine lv_iload hx hb dX9_howMany_79 (lv_at hl 0 rfl) ?_
        refine lv_ishr hx hb dX9_howMany_81 ?_
        refine lv_topi (fun x27 ex27 => ?_)
        obtain rfl : x27 = 1 := ex27.trans (by decide)
        refine lv_iconst (v := 1) hx hb dX9_howMany_82 (by decide) ?_
        refine lv_iand hx hb dX9_howMany_83 ?_
        refine lv_topi (fun x28 ex28 => ?_)
        obtain rfl : x28 = 1 := ex28.trans (by decide)
        refine lv_if_eq (tgt := 106) hx hb dX9_howMany_84 (by decide) (fun q => absurd q (by decide)) (fun _ => ?_)
        refine lv_aload_n hx hb dX9_howMany_87 rfl (lv_at hl 3 rfl) ?_
        refine va_get (ci := 9) (v := .ref (a 51)) (C := RX9) (T := TX9) (N := 6) hx hb htA in_X9 hown hK hP 3 rfl rfl 1 (by decide) (htA _ wd_43) (fun _ h => h) rfl dX9_howMany_88 ?_
        refine lv_iload hx hb dX9_howMany_91 (lv_at hl 1 rfl) ?_
        refine va_iald hx hb hK hP 1 0 rfl rfl (vp_in_iff.mpr (by have kc1 := c1; have kgA := gA; have kgB := gB; have kc23 := c23; have kc25 := c25; (try simp only [lg_cmp_lt, lg_cmp_le, lg_cmp_ge, lg_cmp_gt, lg_cmp_eq, fa_lt, fa_le, fa_eq, fa_lt64, fa_le64, fa_eq64, Int32.toInt_toInt64, li_1, lj_1, li_2, lj_2, li_60, lj_60, li_61, lj_61] at kc1); (try simp only [lg_cmp_lt, lg_cmp_le, lg_cmp_ge, lg_cmp_gt, lg_cmp_eq, fa_lt, fa_le, fa_eq, fa_lt64, fa_le64, fa_eq64, Int32.toInt_toInt64, li_1, lj_1, li_2, lj_2, li_60, lj_60, li_61, lj_61] at kgA); (try simp only [lg_cmp_lt, lg_cmp_le, lg_cmp_ge, lg_cmp_gt, lg_cmp_eq, fa_lt, fa_le, fa_eq, fa_lt64, fa_le64, fa_eq64, Int32.toInt_toInt64, li_1, lj_1, li_2, lj_2, li_60, lj_60, li_61, lj_61] at kgB); (try simp only [lg_cmp_lt, lg_cmp_le, lg_cmp_ge, lg_cmp_gt, lg_cmp_eq, fa_lt, fa_le, fa_eq, fa_lt64, fa_le64, fa_eq64, Int32.toInt_toInt64, li_1, lj_1, li_2, lj_2, li_60, lj_60, li_61, lj_61] at kc23); (try simp only [lg_cmp_lt, lg_cmp_le, lg_cmp_ge, lg_cmp_gt, lg_cmp_eq, fa_lt, fa_le, fa_eq, fa_lt64, fa_le64, fa_eq64, Int32.toInt_toInt64, li_1, lj_1, li_2, lj_2, li_60, lj_60, li_61, lj_61] at kc25); constructor <;> omega)) dX9_howMany_93 ?_
        refine lv_topi (fun x29 ex29 => ?_)
        obtain rfl : x29 = 0 := ex29
        refine lv_iload hx hb dX9_howMany_94 (lv_at hl 0 rfl) ?_
        refine lv_ishr hx hb dX9_howMany_96 ?_
        refine lv_topi (fun x30 ex30 => ?_)
        obtain rfl : x30 = 0 := ex30.trans (by decide)
        refine lv_iconst (v := 1) hx hb dX9_howMany_97 (by decide) ?_
        refine lv_iand hx hb dX9_howMany_98 ?_
        refine lv_topi (fun x31 ex31 => ?_)
        obtain rfl : x31 = 0 := ex31.trans (by decide)
        refine lv_if_ne (tgt := 106) hx hb dX9_howMany_99 (by decide) (fun q => absurd rfl q) (fun _ => ?_)
        refine lv_iconst (v := 1) hx hb dX9_howMany_102 (by decide) ?_
        refine lv_goto (tgt := 107) hx hb dX9_howMany_103 (by decide) ?_
        refine lv_istore (lv' := [(6, .int 1), (5, .int 0), (4, .int v90_), (0, .ref (a 6)), (1, .int 0), (2, .int 0), (3, .int v1_)]) hx hb dX9_howMany_107 hl (by decide) rfl (fun ls hl => ?_)
        refine lv_aload_n hx hb dX9_howMany_109 rfl (lv_at hl 3 rfl) ?_
        refine va_get (ci := 9) (v := .ref (a 54)) (C := RX9) (T := TX9) (N := 6) hx hb htA in_X9 hown hK hP 3 rfl rfl 4 (by decide) (htA _ wd_47) (fun _ h => h) rfl dX9_howMany_110 ?_
        refine lv_iload hx hb dX9_howMany_113 (lv_at hl 1 rfl) ?_
        refine lv_iload hx hb dX9_howMany_115 (lv_at hl 0 rfl) ?_
        refine lv_if_eq (tgt := 148) hx hb dX9_howMany_117 (by decide) (fun q => absurd q (by decide)) (fun _ => ?_)
        refine lv_aload_n hx hb dX9_howMany_120 rfl (lv_at hl 3 rfl) ?_
        refine va_get (ci := 9) (v := .ref (a 55)) (C := RX9) (T := TX9) (N := 6) hx hb htA in_X9 hown hK hP 3 rfl rfl 5 (by decide) (htA _ wd_48) (fun _ h => h) rfl dX9_howMany_121 ?_
        refine lv_iload hx hb dX9_howMany_124 (lv_at hl 1 rfl) ?_
        refine va_lald hx hb hK hP 2 2 rfl rfl (in_lit (by decide)) dX9_howMany_126 ?_
        refine lv_topl (fun x32 ex32 => ?_)
        obtain rfl : x32 = 1 := ex32.trans (by decide)
        refine lv_aload_n hx hb dX9_howMany_127 rfl (lv_at hl 3 rfl) ?_
        refine lv_iload hx hb dX9_howMany_128 (lv_at hl 1 rfl) ?_
        refine lv_iconst (v := 1) hx hb dX9_howMany_130 (by decide) ?_
        refine lv_isub hx hb dX9_howMany_131 ?_
        refine lv_topi (fun x33 ex33 => ?_)
        obtain rfl : x33 = (-1) := ex33.trans (by decide)
        refine kVl (As := [.int (-1)]) (rest := [.long 1, .int 0, .ref (a 54)]) (wr := [((a 54), .inl (cy 2, 6, .inr (.inl (mc)))), ((a 51), .inl (cy 0, 61, .inl (fun _ => 0))), ((a 55), .inl (cy 2, 6, .inr (.inl (mc))))]) hX hE (au_X9_beside_80 l D cy a) (cwVA 1 htA wd_1216 wd_1213 wd_2 wd_1215 wp_38 (by decide +kernel) ⟨by decide, by decide⟩) hP hD hS [3] [0, 1, 2] rfl rfl (by decide) 0 rfl rfl rfl rfl hl.1 rfl (Nat.le_of_ble_eq_true rfl) dX9_howMany_132 (by decide) (fun r_ W1 H locs hw hP hD hS => ?_)
        refine W.widen (k := 0) (n := 0) (by decide) (by decide) ?_
        obtain ⟨rfl, rfl⟩ := hw
        have hP : va_P D vwCl [((a 54), .inl (cy 2, 6, .inr (.inl (mc)))), ((a 51), .inl (cy 0, 61, .inl (fun _ => 0))), ((a 55), .inl (cy 2, 6, .inr (.inl (mc)))), ((a 6), .inr (9, [.int 1, .ref (a 51), .ref (a 52), .ref (a 53), .ref (a 54), .ref (a 55)]))] H := hP
        have hD : va_D A [((a 54), .inl (cy 2, 6, .inr (.inl (mc)))), ((a 51), .inl (cy 0, 61, .inl (fun _ => 0))), ((a 55), .inl (cy 2, 6, .inr (.inl (mc)))), ((a 6), .inr (9, [.int 1, .ref (a 51), .ref (a 52), .ref (a 53), .ref (a 54), .ref (a 55)]))] := hD
        refine lv_ladd hx hb dX9_howMany_135 ?_
        refine lv_topl (fun x34 ex34 => ?_)
        obtain rfl : x34 = 1 := ex34.trans (by decide)
        refine lv_aload_n hx hb dX9_howMany_136 rfl (lv_at hl 3 rfl) ?_
        refine lv_iload hx hb dX9_howMany_137 (lv_at hl 1 rfl) ?_
        refine lv_iconst (v := 1) hx hb dX9_howMany_139 (by decide) ?_
        refine lv_iadd hx hb dX9_howMany_140 ?_
        refine lv_topi (fun x35 ex35 => ?_)
        obtain rfl : x35 = 1 := ex35.trans (by decide)
        refine kVl (As := [.int 1]) (rest := [.long 1, .int 0, .ref (a 54)]) (wr := [((a 54), .inl (cy 2, 6, .inr (.inl (mc)))), ((a 51), .inl (cy 0, 61, .inl (fun _ => 0)))]) hX hE (au_X9_beside_81 l D cy a) (cwVA 1 htA wd_1216 wd_1213 wd_2 wd_1215 wp_38 (by decide +kernel) ⟨by decide, by decide⟩) hP hD hS [2, 3] [0, 1] rfl rfl (by decide) 1 rfl rfl rfl rfl hl.1 rfl (Nat.le_of_ble_eq_true rfl) dX9_howMany_141 (by decide) (fun r_ W1 H locs hw hP hD hS => ?_)
        refine W.widen (k := 0) (n := 0) (by decide) (by decide) ?_
        obtain ⟨rfl, rfl⟩ := hw
        have hP : va_P D vwCl [((a 54), .inl (cy 2, 6, .inr (.inl (mc)))), ((a 51), .inl (cy 0, 61, .inl (fun _ => 0))), ((a 55), .inl (cy 2, 6, .inr (.inl (mc)))), ((a 6), .inr (9, [.int 1, .ref (a 51), .ref (a 52), .ref (a 53), .ref (a 54), .ref (a 55)]))] H := hP
        have hD : va_D A [((a 54), .inl (cy 2, 6, .inr (.inl (mc)))), ((a 51), .inl (cy 0, 61, .inl (fun _ => 0))), ((a 55), .inl (cy 2, 6, .inr (.inl (mc)))), ((a 6), .inr (9, [.int 1, .ref (a 51), .ref (a 52), .ref (a 53), .ref (a 54), .ref (a 55)]))] := hD
        refine lv_ladd hx hb dX9_howMany_144 ?_
        refine lv_topl (fun x36 ex36 => ?_)
        obtain rfl : x36 = 1 := ex36.trans (by decide)
        refine lv_goto (tgt := 149) hx hb dX9_howMany_145 (by decide) ?_
        refine va_last hx hb hK hP hD hS 0 2 rfl rfl (in_lit (by decide)) dX9_howMany_149 (fun H locs hP hD hS => ?_)
        rw [fa_upd_sameL (f := mc) (i := (0 : Int32).toNatClampNeg) (x := 1) (by decide)] at hP hD
        have hP : va_P D vwCl [((a 54), .inl (cy 2, 6, .inr (.inl (mc)))), ((a 51), .inl (cy 0, 61, .inl (fun _ => 0))), ((a 55), .inl (cy 2, 6, .inr (.inl (mc)))), ((a 6), .inr (9, [.int 1, .ref (a 51), .ref (a 52), .ref (a 53), .ref (a 54), .ref (a 55)]))] H := hP
        have hD : va_D A [((a 54), .inl (cy 2, 6, .inr (.inl (mc)))), ((a 51), .inl (cy 0, 61, .inl (fun _ => 0))), ((a 55), .inl (cy 2, 6, .inr (.inl (mc)))), ((a 6), .inr (9, [.int 1, .ref (a 51), .ref (a 52), .ref (a 53), .ref (a 54), .ref (a 55)]))] := hD
        refine lv_iinc (v := 1) (lv' := [(5, .int 1), (6, .int 1), (4, .int v90_), (0, .ref (a 6)), (1, .int 0), (2, .int 0), (3, .int v1_)]) hx hb dX9_howMany_150 hl (k := 1) rfl (by decide) (by decide) rfl (fun ls hl => ?_)
        refine lv_goto (tgt := 68) hx hb dX9_howMany_153 (by decide) ?_
        refine lv_iload hx hb dX9_howMany_68 (lv_at hl 0 rfl) ?_
        refine lv_bipush (v := 6) hx hb dX9_howMany_70 (by decide) ?_
        refine lv_icmp_ge (tgt := 156) hx hb dX9_howMany_72 (by decide) (fun q => absurd q (by decide)) (fun _ => ?_)
        refine lv_aload_n hx hb dX9_howMany_75 rfl (lv_at hl 3 rfl) ?_
        refine va_get (ci := 9) (v := .int 1) (C := RX9) (T := TX9) (N := 6) hx hb htA in_X9 hown hK hP 3 rfl rfl 0 (by decide) (htA _ wd_42) (fun _ h => h) rfl dX9_howMany_76 ?_
        refine lv_iload hx hb dX9_howMany_79 (lv_at hl 0 rfl) ?_
        refine lv_ishr hx hb dX9_howMany_81 ?_
        refine lv_topi (fun x37 ex37 => ?_)
        obtain rfl : x37 = 0 := ex37.trans (by decide)
        refine lv_iconst (v := 1) hx hb dX9_howMany_82 (by decide) ?_
        refine lv_iand hx hb dX9_howMany_83 ?_
        refine lv_topi (fun x38 ex38 => ?_)
        obtain rfl : x38 = 0 := ex38.trans (by decide)
        refine lv_if_eq (tgt := 106) hx hb dX9_howMany_84 (by decide) (fun _ => ?_) (fun q => absurd (by decide) q)
        refine lv_iconst (v := 0) hx hb dX9_howMany_106 (by decide) ?_
        refine lv_istore (lv' := [(6, .int 0), (5, .int 1), (4, .int v90_), (0, .ref (a 6)), (1, .int 0), (2, .int 0), (3, .int v1_)]) hx hb dX9_howMany_107 hl (by decide) rfl (fun ls hl => ?_)
        refine lv_aload_n hx hb dX9_howMany_109 rfl (lv_at hl 3 rfl) ?_
        refine va_get (ci := 9) (v := .ref (a 54)) (C := RX9) (T := TX9) (N := 6) hx hb htA in_X9 hown hK hP 3 rfl rfl 4 (by decide) (htA _ wd_47) (fun _ h => h) rfl dX9_howMany_110 ?_
        refine lv_iload hx hb dX9_howMany_113 (lv_at hl 1 rfl) ?_
        refine lv_iload hx hb dX9_howMany_115 (lv_at hl 0 rfl) ?_
        refine lv_if_eq (tgt := 148) hx hb dX9_howMany_117 (by decide) (fun _ => ?_) (fun q => absurd (by decide) q)
        refine lv_lconst (v := 0) hx hb dX9_howMany_148 (by decide) ?_
        refine va_last hx hb hK hP hD hS 0 2 rfl rfl (in_lit (by decide)) dX9_howMany_149 (fun H locs hP hD hS => ?_)
        rw [fa_upd_sameL (f := mc) (i := (1 : Int32).toNatClampNeg) (x := 0) (by decide)] at hP hD
        have hP : va_P D vwCl [((a 54), .inl (cy 2, 6, .inr (.inl (mc)))), ((a 51), .inl (cy 0, 61, .inl (fun _ => 0))), ((a 55), .inl (cy 2, 6, .inr (.inl (mc)))), ((a 6), .inr (9, [.int 1, .ref (a 51), .ref (a 52), .ref (a 53), .ref (a 54), .ref (a 55)]))] H := hP
        have hD : va_D A [((a 54), .inl (cy 2, 6, .inr (.inl (mc)))), ((a 51), .inl (cy 0, 61, .inl (fun _ => 0))), ((a 55), .inl (cy 2, 6, .inr (.inl (mc)))), ((a 6), .inr (9, [.int 1, .ref (a 51), .ref (a 52), .ref (a 53), .ref (a 54), .ref (a 55)]))] := hD
        refine lv_iinc (v := 2) (lv' := [(5, .int 2), (6, .int 0), (4, .int v90_), (0, .ref (a 6)), (1, .int 0), (2, .int 0), (3, .int v1_)]) hx hb dX9_howMany_150 hl (k := 1) rfl (by decide) (by decide) rfl (fun ls hl => ?_)
        refine lv_goto (tgt := 68) hx hb dX9_howMany_153 (by decide) ?_
        refine lv_iload hx hb dX9_howMany_68 (lv_at hl 0 rfl) ?_
        refine lv_bipush (v := 6) hx hb dX9_howMany_70 (by decide) ?_
        refine lv_icmp_ge (tgt := 156) hx hb dX9_howMany_72 (by decide) (fun q => absurd q (by decide)) (fun _ => ?_)
        refine lv_aload_n hx hb dX9_howMany_75 rfl (lv_at hl 3 rfl) ?_
        refine va_get (ci := 9) (v := .int 1) (C := RX9) (T := TX9) (N := 6) hx hb htA in_X9 hown hK hP 3 rfl rfl 0 (by decide) (htA _ wd_42) (fun _ h => h) rfl dX9_howMany_76 ?_
        refine lv_iload hx hb dX9_howMany_79 (lv_at hl 0 rfl) ?_
        refine lv_ishr hx hb dX9_howMany_81 ?_
        refine lv_topi (fun x39 ex39 => ?_)
        obtain rfl : x39 = 0 := ex39.trans (by decide)
        refine lv_iconst (v := 1) hx hb dX9_howMany_82 (by decide) ?_
        refine lv_iand hx hb dX9_howMany_83 ?_
        refine lv_topi (fun x40 ex40 => ?_)
        obtain rfl : x40 = 0 := ex40.trans (by decide)
        refine lv_if_eq (tgt := 106) hx hb dX9_howMany_84 (by decide) (fun _ => ?_) (fun q => absurd (by decide) q)
        refine lv_iconst (v := 0) hx hb dX9_howMany_106 (by decide) ?_
        refine lv_istore (lv' := [(6, .int 0), (5, .int 2), (4, .int v90_), (0, .ref (a 6)), (1, .int 0), (2, .int 0), (3, .int v1_)]) hx hb dX9_howMany_107 hl (by decide) rfl (fun ls hl => ?_)
        refine lv_aload_n hx hb dX9_howMany_109 rfl (lv_at hl 3 rfl) ?_
        refine va_get (ci := 9) (v := .ref (a 54)) (C := RX9) (T := TX9) (N := 6) hx hb htA in_X9 hown hK hP 3 rfl rfl 4 (by decide) (htA _ wd_47) (fun _ h => h) rfl dX9_howMany_110 ?_
        refine lv_iload hx hb dX9_howMany_113 (lv_at hl 1 rfl) ?_
        refine lv_iload hx hb dX9_howMany_115 (lv_at hl 0 rfl) ?_
        refine lv_if_eq (tgt := 148) hx hb dX9_howMany_117 (by decide) (fun _ => ?_) (fun q => absurd (by decide) q)
        refine lv_lconst (v := 0) hx hb dX9_howMany_148 (by decide) ?_
        refine va_last hx hb hK hP hD hS 0 2 rfl rfl (in_lit (by decide)) dX9_howMany_149 (fun H locs hP hD hS => ?_)
        rw [fa_upd_sameL (f := mc) (i := (2 : Int32).toNatClampNeg) (x := 0) (by decide)] at hP hD
        have hP : va_P D vwCl [((a 54), .inl (cy 2, 6, .inr (.inl (mc)))), ((a 51), .inl (cy 0, 61, .inl (fun _ => 0))), ((a 55), .inl (cy 2, 6, .inr (.inl (mc)))), ((a 6), .inr (9, [.int 1, .ref (a 51), .ref (a 52), .ref (a 53), .ref (a 54), .ref (a 55)]))] H := hP
        have hD : va_D A [((a 54), .inl (cy 2, 6, .inr (.inl (mc)))), ((a 51), .inl (cy 0, 61, .inl (fun _ => 0))), ((a 55), .inl (cy 2, 6, .inr (.inl (mc)))), ((a 6), .inr (9, [.int 1, .ref (a 51), .ref (a 52), .ref (a 53), .ref (a 54), .ref (a 55)]))] := hD
        refine lv_iinc (v := 3) (lv' := [(5, .int 3), (6, .int 0), (4, .int v90_), (0, .ref (a 6)), (1, .int 0), (2, .int 0), (3, .int v1_)]) hx hb dX9_howMany_150 hl (k := 1) rfl (by decide) (by decide) rfl (fun ls hl => ?_)
        refine lv_goto (tgt := 68) hx hb dX9_howMany_153 (by decide) ?_
        refine lv_iload hx hb dX9_howMany_68 (lv_at hl 0 rfl) ?_
        refine lv_bipush (v := 6) hx hb dX9_howMany_70 (by decide) ?_
        refine lv_icmp_ge (tgt := 156) hx hb dX9_howMany_72 (by decide) (fun q => absurd q (by decide)) (fun _ => ?_)
        refine lv_aload_n hx hb dX9_howMany_75 rfl (lv_at hl 3 rfl) ?_
        refine va_get (ci := 9) (v := .int 1) (C := RX9) (T := TX9) (N := 6) hx hb htA in_X9 hown hK hP 3 rfl rfl 0 (by decide) (htA _ wd_42) (fun _ h => h) rfl dX9_howMany_76 ?_
        refine lv_iload hx hb dX9_howMany_79 (lv_at hl 0 rfl) ?_
        refine lv_ishr hx hb dX9_howMany_81 ?_
        refine lv_topi (fun x41 ex41 => ?_)
        obtain rfl : x41 = 0 := ex41.trans (by decide)
        refine lv_iconst (v := 1) hx hb dX9_howMany_82 (by decide) ?_
        refine lv_iand hx hb dX9_howMany_83 ?_
        refine lv_topi (fun x42 ex42 => ?_)
        obtain rfl : x42 = 0 := ex42.trans (by decide)
        refine lv_if_eq (tgt := 106) hx hb dX9_howMany_84 (by decide) (fun _ => ?_) (fun q => absurd (by decide) q)
        refine lv_iconst (v := 0) hx hb dX9_howMany_106 (by decide) ?_
        refine lv_istore (lv' := [(6, .int 0), (5, .int 3), (4, .int v90_), (0, .ref (a 6)), (1, .int 0), (2, .int 0), (3, .int v1_)]) hx hb dX9_howMany_107 hl (by decide) rfl (fun ls hl => ?_)
        refine lv_aload_n hx hb dX9_howMany_109 rfl (lv_at hl 3 rfl) ?_
        refine va_get (ci := 9) (v := .ref (a 54)) (C := RX9) (T := TX9) (N := 6) hx hb htA in_X9 hown hK hP 3 rfl rfl 4 (by decide) (htA _ wd_47) (fun _ h => h) rfl dX9_howMany_110 ?_
        refine lv_iload hx hb dX9_howMany_113 (lv_at hl 1 rfl) ?_
        refine lv_iload hx hb dX9_howMany_115 (lv_at hl 0 rfl) ?_
        refine lv_if_eq (tgt := 148) hx hb dX9_howMany_117 (by decide) (fun _ => ?_) (fun q => absurd (by decide) q)
        refine lv_lconst (v := 0) hx hb dX9_howMany_148 (by decide) ?_
        refine va_last hx hb hK hP hD hS 0 2 rfl rfl (in_lit (by decide)) dX9_howMany_149 (fun H locs hP hD hS => ?_)
        rw [fa_upd_sameL (f := mc) (i := (3 : Int32).toNatClampNeg) (x := 0) (by decide)] at hP hD
        have hP : va_P D vwCl [((a 54), .inl (cy 2, 6, .inr (.inl (mc)))), ((a 51), .inl (cy 0, 61, .inl (fun _ => 0))), ((a 55), .inl (cy 2, 6, .inr (.inl (mc)))), ((a 6), .inr (9, [.int 1, .ref (a 51), .ref (a 52), .ref (a 53), .ref (a 54), .ref (a 55)]))] H := hP
        have hD : va_D A [((a 54), .inl (cy 2, 6, .inr (.inl (mc)))), ((a 51), .inl (cy 0, 61, .inl (fun _ => 0))), ((a 55), .inl (cy 2, 6, .inr (.inl (mc)))), ((a 6), .inr (9, [.int 1, .ref (a 51), .ref (a 52), .ref (a 53), .ref (a 54), .ref (a 55)]))] := hD
        refine lv_iinc (v := 4) (lv' := [(5, .int 4), (6, .int 0), (4, .int v90_), (0, .ref (a 6)), (1, .int 0), (2, .int 0), (3, .int v1_)]) hx hb dX9_howMany_150 hl (k := 1) rfl (by decide) (by decide) rfl (fun ls hl => ?_)
        refine lv_goto (tgt := 68) hx hb dX9_howMany_153 (by decide) ?_
        refine lv_iload hx hb dX9_howMany_68 (lv_at hl 0 rfl) ?_
        refine lv_bipush (v := 6) hx hb dX9_howMany_70 (by decide) ?_
        refine lv_icmp_ge (tgt := 156) hx hb dX9_howMany_72 (by decide) (fun q => absurd q (by decide)) (fun _ => ?_)
        refine lv_aload_n hx hb dX9_howMany_75 rfl (lv_at hl 3 rfl) ?_
        refine va_get (ci := 9) (v := .int 1) (C := RX9) (T := TX9) (N := 6) hx hb htA in_X9 hown hK hP 3 rfl rfl 0 (by decide) (htA _ wd_42) (fun _ h => h) rfl dX9_howMany_76 ?_
        refine lv_iload hx hb dX9_howMany_79 (lv_at hl 0 rfl) ?_
        refine lv_ishr hx hb dX9_howMany_81 ?_
        refine lv_topi (fun x43 ex43 => ?_)
        obtain rfl : x43 = 0 := ex43.trans (by decide)
        refine lv_iconst (v := 1) hx hb dX9_howMany_82 (by decide) ?_
        refine lv_iand hx hb dX9_howMany_83 ?_
        refine lv_topi (fun x44 ex44 => ?_)
        obtain rfl : x44 = 0 := ex44.trans (by decide)
        refine lv_if_eq (tgt := 106) hx hb dX9_howMany_84 (by decide) (fun _ => ?_) (fun q => absurd (by decide) q)
        refine lv_iconst (v := 0) hx hb dX9_howMany_106 (by decide) ?_
        refine lv_istore (lv' := [(6, .int 0), (5, .int 4), (4, .int v90_), (0, .ref (a 6)), (1, .int 0), (2, .int 0), (3, .int v1_)]) hx hb dX9_howMany_107 hl (by decide) rfl (fun ls hl => ?_)
        refine lv_aload_n hx hb dX9_howMany_109 rfl (lv_at hl 3 rfl) ?_
        refine va_get (ci := 9) (v := .ref (a 54)) (C := RX9) (T := TX9) (N := 6) hx hb htA in_X9 hown hK hP 3 rfl rfl 4 (by decide) (htA _ wd_47) (fun _ h => h) rfl dX9_howMany_110 ?_
        refine lv_iload hx hb dX9_howMany_113 (lv_at hl 1 rfl) ?_
        refine lv_iload hx hb dX9_howMany_115 (lv_at hl 0 rfl) ?_
        refine lv_if_eq (tgt := 148) hx hb dX9_howMany_117 (by decide) (fun _ => ?_) (fun q => absurd (by decide) q)
        refine lv_lconst (v := 0) hx hb dX9_howMany_148 (by decide) ?_
        refine va_last hx hb hK hP hD hS 0 2 rfl rfl (in_lit (by decide)) dX9_howMany_149 (fun H locs hP hD hS => ?_)
        rw [fa_upd_sameL (f := mc) (i := (4 : Int32).toNatClampNeg) (x := 0) (by decide)] at hP hD
        have hP : va_P D vwCl [((a 54), .inl (cy 2, 6, .inr (.inl (mc)))), ((a 51), .inl (cy 0, 61, .inl (fun _ => 0))), ((a 55), .inl (cy 2, 6, .inr (.inl (mc)))), ((a 6), .inr (9, [.int 1, .ref (a 51), .ref (a 52), .ref (a 53), .ref (a 54), .ref (a 55)]))] H := hP
        have hD : va_D A [((a 54), .inl (cy 2, 6, .inr (.inl (mc)))), ((a 51), .inl (cy 0, 61, .inl (fun _ => 0))), ((a 55), .inl (cy 2, 6, .inr (.inl (mc)))), ((a 6), .inr (9, [.int 1, .ref (a 51), .ref (a 52), .ref (a 53), .ref (a 54), .ref (a 55)]))] := hD
        refine lv_iinc (v := 5) (lv' := [(5, .int 5), (6, .int 0), (4, .int v90_), (0, .ref (a 6)), (1, .int 0), (2, .int 0), (3, .int v1_)]) hx hb dX9_howMany_150 hl (k := 1) rfl (by decide) (by decide) rfl (fun ls hl => ?_)
        refine lv_goto (tgt := 68) hx hb dX9_howMany_153 (by decide) ?_
        refine lv_iload hx hb dX9_howMany_68 (lv_at hl 0 rfl) ?_
        refine lv_bipush (v := 6) hx hb dX9_howMany_70 (by decide) ?_
        refine lv_icmp_ge (tgt := 156) hx hb dX9_howMany_72 (by decide) (fun q => absurd q (by decide)) (fun _ => ?_)
        refine lv_aload_n hx hb dX9_howMany_75 rfl (lv_at hl 3 rfl) ?_
        refine va_get (ci := 9) (v := .int 1) (C := RX9) (T := TX9) (N := 6) hx hb htA in_X9 hown hK hP 3 rfl rfl 0 (by decide) (htA _ wd_42) (fun _ h => h) rfl dX9_howMany_76 ?_
        refine lv_iload hx hb dX9_howMany_79 (lv_at hl 0 rfl) ?_
        refine lv_ishr hx hb dX9_howMany_81 ?_
        refine lv_topi (fun x45 ex45 => ?_)
        obtain rfl : x45 = 0 := ex45.trans (by decide)
        refine lv_iconst (v := 1) hx hb dX9_howMany_82 (by decide) ?_
        refine lv_iand hx hb dX9_howMany_83 ?_
        refine lv_topi (fun x46 ex46 => ?_)
        obtain rfl : x46 = 0 := ex46.trans (by decide)
        refine lv_if_eq (tgt := 106) hx hb dX9_howMany_84 (by decide) (fun _ => ?_) (fun q => absurd (by decide) q)
        refine lv_iconst (v := 0) hx hb dX9_howMany_106 (by decide) ?_
        refine lv_istore (lv' := [(6, .int 0), (5, .int 5), (4, .int v90_), (0, .ref (a 6)), (1, .int 0), (2, .int 0), (3, .int v1_)]) hx hb dX9_howMany_107 hl (by decide) rfl (fun ls hl => ?_)
        refine lv_aload_n hx hb dX9_howMany_109 rfl (lv_at hl 3 rfl) ?_
        refine va_get (ci := 9) (v := .ref (a 54)) (C := RX9) (T := TX9) (N := 6) hx hb htA in_X9 hown hK hP 3 rfl rfl 4 (by decide) (htA _ wd_47) (fun _ h => h) rfl dX9_howMany_110 ?_
        refine lv_iload hx hb dX9_howMany_113 (lv_at hl 1 rfl) ?_
        refine lv_iload hx hb dX9_howMany_115 (lv_at hl 0 rfl) ?_
        refine lv_if_eq (tgt := 148) hx hb dX9_howMany_117 (by decide) (fun _ => ?_) (fun q => absurd (by decide) q)
        refine lv_lconst (v := 0) hx hb dX9_howMany_148 (by decide) ?_
        refine va_last hx hb hK hP hD hS 0 2 rfl rfl (in_lit (by decide)) dX9_howMany_149 (fun H locs hP hD hS => ?_)
        rw [fa_upd_sameL (f := mc) (i := (5 : Int32).toNatClampNeg) (x := 0) (by decide)] at hP hD
        have hP : va_P D vwCl [((a 54), .inl (cy 2, 6, .inr (.inl (mc)))), ((a 51), .inl (cy 0, 61, .inl (fun _ => 0))), ((a 55), .inl (cy 2, 6, .inr (.inl (mc)))), ((a 6), .inr (9, [.int 1, .ref (a 51), .ref (a 52), .ref (a 53), .ref (a 54), .ref (a 55)]))] H := hP
        have hD : va_D A [((a 54), .inl (cy 2, 6, .inr (.inl (mc)))), ((a 51), .inl (cy 0, 61, .inl (fun _ => 0))), ((a 55), .inl (cy 2, 6, .inr (.inl (mc)))), ((a 6), .inr (9, [.int 1, .ref (a 51), .ref (a 52), .ref (a 53), .ref (a 54), .ref (a 55)]))] := hD
        refine lv_iinc (v := 6) (lv' := [(5, .int 6), (6, .int 0), (4, .int v90_), (0, .ref (a 6)), (1, .int 0), (2, .int 0), (3, .int v1_)]) hx hb dX9_howMany_150 hl (k := 1) rfl (by decide) (by decide) rfl (fun ls hl => ?_)
        refine lv_goto (tgt := 68) hx hb dX9_howMany_153 (by decide) ?_
        refine lv_iload hx hb dX9_howMany_68 (lv_at hl 0 rfl) ?_
        refine lv_bipush (v := 6) hx hb dX9_howMany_70 (by decide) ?_
        refine lv_icmp_ge (tgt := 156) hx hb dX9_howMany_72 (by decide) (fun _ => ?_) (fun q => absurd (by decide) q)
        refine lv_iinc (v := v90_ + 1) (lv' := [(4, .int (v90_ + 1)), (5, .int 6), (6, .int 0), (0, .ref (a 6)), (1, .int 0), (2, .int 0), (3, .int v1_)]) hx hb dX9_howMany_156 hl (k := 2) rfl rfl (by decide) rfl (fun ls hl => ?_)
        refine lv_goto (tgt := 37) hx hb dX9_howMany_159 (by decide) ?_
        exact ih (v90_ + 1) H locs ls (by have kc1 := c1; have kgA := gA; have kgB := gB; have kc23 := c23; have kc25 := c25; (try simp only [lg_cmp_lt, lg_cmp_le, lg_cmp_ge, lg_cmp_gt, lg_cmp_eq, fa_lt, fa_le, fa_eq, fa_lt64, fa_le64, fa_eq64, Int32.toInt_toInt64, li_1, lj_1, li_2, lj_2, li_60, lj_60, li_61, lj_61] at kc1); (try simp only [lg_cmp_lt, lg_cmp_le, lg_cmp_ge, lg_cmp_gt, lg_cmp_eq, fa_lt, fa_le, fa_eq, fa_lt64, fa_le64, fa_eq64, Int32.toInt_toInt64, li_1, lj_1, li_2, lj_2, li_60, lj_60, li_61, lj_61] at kgA); (try simp only [lg_cmp_lt, lg_cmp_le, lg_cmp_ge, lg_cmp_gt, lg_cmp_eq, fa_lt, fa_le, fa_eq, fa_lt64, fa_le64, fa_eq64, Int32.toInt_toInt64, li_1, lj_1, li_2, lj_2, li_60, lj_60, li_61, lj_61] at kgB); (try simp only [lg_cmp_lt, lg_cmp_le, lg_cmp_ge, lg_cmp_gt, lg_cmp_eq, fa_lt, fa_le, fa_eq, fa_lt64, fa_le64, fa_eq64, Int32.toInt_toInt64, li_1, lj_1, li_2, lj_2, li_60, lj_60, li_61, lj_61] at kc23); (try simp only [lg_cmp_lt, lg_cmp_le, lg_cmp_ge, lg_cmp_gt, lg_cmp_eq, fa_lt, fa_le, fa_eq, fa_lt64, fa_le64, fa_eq64, Int32.toInt_toInt64, li_1, lj_1, li_2, lj_2, li_60, lj_60, li_61, lj_61] at kc25); have hi1 := inc32 v90_ (by omega); constructor <;> omega) (by have kc1 := c1; have kgA := gA; have kgB := gB; have kc23 := c23; have kc25 := c25; (try simp only [lg_cmp_lt, lg_cmp_le, lg_cmp_ge, lg_cmp_gt, lg_cmp_eq, fa_lt, fa_le, fa_eq, fa_lt64, fa_le64, fa_eq64, Int32.toInt_toInt64, li_1, lj_1, li_2, lj_2, li_60, lj_60, li_61, lj_61] at kc1); (try simp only [lg_cmp_lt, lg_cmp_le, lg_cmp_ge, lg_cmp_gt, lg_cmp_eq, fa_lt, fa_le, fa_eq, fa_lt64, fa_le64, fa_eq64, Int32.toInt_toInt64, li_1, lj_1, li_2, lj_2, li_60, lj_60, li_61, lj_61] at kgA); (try simp only [lg_cmp_lt, lg_cmp_le, lg_cmp_ge, lg_cmp_gt, lg_cmp_eq, fa_lt, fa_le, fa_eq, fa_lt64, fa_le64, fa_eq64, Int32.toInt_toInt64, li_1, lj_1, li_2, lj_2, li_60, lj_60, li_61, lj_61] at kgB); (try simp only [lg_cmp_lt, lg_cmp_le, lg_cmp_ge, lg_cmp_gt, lg_cmp_eq, fa_lt, fa_le, fa_eq, fa_lt64, fa_le64, fa_eq64, Int32.toInt_toInt64, li_1, lj_1, li_2, lj_2, li_60, lj_60, li_61, lj_61] at kc23); (try simp only [lg_cmp_lt, lg_cmp_le, lg_cmp_ge, lg_cmp_gt, lg_cmp_eq, fa_lt, fa_le, fa_eq, fa_lt64, fa_le64, fa_eq64, Int32.toInt_toInt64, li_1, lj_1, li_2, lj_2, li_60, lj_60, li_61, lj_61] at kc25); have hi1 := inc32 v90_ (by omega); omega) hP hD hS hl
set_option maxHeartbeats 4000000 in
set_option maxRecDepth 100000 in
theorem m_safeWays (l : Launch) (hlt : l.stackTraces = false) (D : va_G) (cy : Nat → ClassId) (a : Nat → Nat) (p1 : Int32) (p2 : Int32) (p3 : Int32) : Xl l yX10_safeWays cX10_safeWays 4 (some .long) { frames := 7, cells := 3, slots := 18, locals := 112 } D cy [.ref (a 0), .int p1, .int p2, .int p3] [((a 0), .inr (10, [.ref (a 1), .int 0, .int 0, .int (-1), .ref (a 2), .ref (a 3), .ref (a 4), .ref (a 5), .ref (a 6), .ref (a 7), .ref (a 8), .ref (a 9), .int 0])), ((a 3), .inr (6, [.ref (a 10), .int 0, .ref (a 21), .ref (a 22), .ref (a 23), .ref (a 24), .ref (a 25), .int 0])), ((a 21), .inl (cy 0, 8, .inl (fun _ => 0))), ((a 22), .inl (cy 0, 8, .inl (fun _ => 0))), ((a 23), .inl (cy 0, 8, .inl (fun _ => 0))), ((a 24), .inl (cy 0, 8, .inl (fun _ => 0))), ((a 25), .inl (cy 0, 4, .inl (fun _ => 0))), ((a 10), .inr (0, [.int 0, .int 1, .int 1, .int 0, .int 0, .ref (a 11), .ref (a 12), .ref (a 13), .null, .null])), ((a 5), .inr (1, [.ref (a 40), .int 0, .int 0, .ref (a 46), .ref (a 47)])), ((a 40), .inr (6, [.ref (a 10), .int 0, .ref (a 41), .ref (a 42), .ref (a 43), .ref (a 44), .ref (a 45), .int 0])), ((a 41), .inl (cy 0, 8, .inl (fun _ => 0))), ((a 42), .inl (cy 0, 8, .inl (fun _ => 0))), ((a 43), .inl (cy 0, 8, .inl (fun _ => 0))), ((a 44), .inl (cy 0, 8, .inl (fun _ => 0))), ((a 45), .inl (cy 0, 4, .inl (fun _ => 0))), ((a 6), .inr (9, [.int 0, .ref (a 51), .ref (a 52), .ref (a 53), .ref (a 54), .ref (a 55)])), ((a 51), .inl (cy 0, 61, .inl (fun _ => 0))), ((a 52), .inl (cy 0, 61, .inl (fun _ => 0))), ((a 53), .inl (cy 0, 61, .inl (fun _ => 0))), ((a 54), .inl (cy 2, 6, .inr (.inl (fun _ => 0)))), ((a 55), .inl (cy 2, 6, .inr (.inl (fun _ => 0))))] (fun r _ => kf_safeWays p1 p2 p3 = 0 ∧ r = vf_safeWays p1 p2 p3) (fun E _ => (E = "java/util/NoSuchElementException" ∧ kf_safeWays p1 p2 p3 = 1) ∨ (E = "java/lang/IllegalArgumentException" ∧ kf_safeWays p1 p2 p3 = 2)) := by
  refine Xl.of (by decide) (Nat.le_of_ble_eq_true rfl) ?_
  intro p e s m below meth c A ls hX hE hP hD hl hxt
  obtain ⟨hx, hb, hr, hml, hown, htA, hlk⟩ := id hX
  have hK := hE.1
  have hS : va_S A s.heap s.heap [] := va_S.rf
  have hl : lv_has ls 4 [(0, .ref (a 0)), (1, .int p1), (2, .int p2), (3, .int p3)] := hl
  refine lv_aload_n hx hb dX10_safeWays_0 rfl (lv_at hl 0 rfl) ?_
  refine lv_iload_n hx hb dX10_safeWays_1 rfl (lv_at hl 1 rfl) ?_
  refine xVv (As := [.int p1]) (rest := []) (wr := [((a 21), .inl (cy 0, 8, .inl (fun _ => 0))), ((a 22), .inl (cy 0, 8, .inl (fun _ => 0))), ((a 23), .inl (cy 0, 8, .inl (fun _ => 0))), ((a 24), .inl (cy 0, 8, .inl (fun _ => 0))), ((a 25), .inl (cy 0, 4, .inl (fun _ => 0))), ((a 5), .inr (1, [.ref (a 40), .int 0, .int 0, .ref (a 46), .ref (a 47)])), ((a 40), .inr (6, [.ref (a 10), .int 0, .ref (a 41), .ref (a 42), .ref (a 43), .ref (a 44), .ref (a 45), .int 0])), ((a 41), .inl (cy 0, 8, .inl (fun _ => 0))), ((a 42), .inl (cy 0, 8, .inl (fun _ => 0))), ((a 43), .inl (cy 0, 8, .inl (fun _ => 0))), ((a 44), .inl (cy 0, 8, .inl (fun _ => 0))), ((a 45), .inl (cy 0, 4, .inl (fun _ => 0))), ((a 6), .inr (9, [.int 0, .ref (a 51), .ref (a 52), .ref (a 53), .ref (a 54), .ref (a 55)])), ((a 51), .inl (cy 0, 61, .inl (fun _ => 0))), ((a 52), .inl (cy 0, 61, .inl (fun _ => 0))), ((a 53), .inl (cy 0, 61, .inl (fun _ => 0))), ((a 54), .inl (cy 2, 6, .inr (.inl (fun _ => 0)))), ((a 55), .inl (cy 2, 6, .inr (.inl (fun _ => 0))))]) hX hE (au_X10_needColumn_3 l hlt D cy a p1) (cwVA 1 htA wd_909 wd_906 wd_1 wd_908 wp_28 (by decide +kernel) ⟨by decide, by decide⟩) hP hD hS [0, 1, 7] [2, 3, 4, 5, 6, 8, 9, 10, 11, 12, 13, 14, 15, 16, 17, 18, 19, 20] rfl rfl (by decide) 0 rfl rfl rfl rfl hl.1 rfl (Nat.le_of_ble_eq_true rfl) dX10_safeWays_2 (by decide) (fun E ce q9 W1 H locs hw hP hD hS hce hcv hcl => ?_) (fun W1 H locs hw hP hD hS => ?_)
  · rcases hw with ⟨g4, rfl⟩ | ⟨g5, g6, rfl⟩
    · exact xO hX hE hxt hP hD hS hce hcv hcl (by decide) (by decide) (Or.inl (⟨rfl, (by have kg4 := g4; (try simp only [lg_cmp_lt, lg_cmp_le, lg_cmp_ge, lg_cmp_gt, lg_cmp_eq, fa_lt, fa_le, fa_eq, fa_lt64, fa_le64, fa_eq64, Int32.toInt_toInt64, li_0, lj_0] at kg4); first | rfl | (unfold kf_safeWays; (repeat' split) <;> first | rfl | (exfalso; omega)))⟩))
    · exact xO hX hE hxt hP hD hS hce hcv hcl (by decide) (by decide) (Or.inl (⟨rfl, (by have kg5 := g5; have kg6 := g6; (try simp only [lg_cmp_lt, lg_cmp_le, lg_cmp_ge, lg_cmp_gt, lg_cmp_eq, fa_lt, fa_le, fa_eq, fa_lt64, fa_le64, fa_eq64, Int32.toInt_toInt64, li_0, lj_0, li_1, lj_1] at kg5); (try simp only [lg_cmp_lt, lg_cmp_le, lg_cmp_ge, lg_cmp_gt, lg_cmp_eq, fa_lt, fa_le, fa_eq, fa_lt64, fa_le64, fa_eq64, Int32.toInt_toInt64, li_0, lj_0, li_1, lj_1] at kg6); first | rfl | (unfold kf_safeWays; (repeat' split) <;> first | rfl | (exfalso; omega)))⟩))
  · refine W.widen (k := 1) (n := 6) (by decide) (by decide) ?_
    obtain ⟨g1, g2, g3, rfl⟩ := hw
    have hP : va_P D vwCl [((a 21), .inl (cy 0, 8, .inl (fun _ => 0))), ((a 22), .inl (cy 0, 8, .inl (fun _ => 0))), ((a 23), .inl (cy 0, 8, .inl (fun _ => 0))), ((a 24), .inl (cy 0, 8, .inl (fun _ => 0))), ((a 25), .inl (cy 0, 4, .inl (fun _ => 0))), ((a 5), .inr (1, [.ref (a 40), .int 0, .int 0, .ref (a 46), .ref (a 47)])), ((a 40), .inr (6, [.ref (a 10), .int 0, .ref (a 41), .ref (a 42), .ref (a 43), .ref (a 44), .ref (a 45), .int 0])), ((a 41), .inl (cy 0, 8, .inl (fun _ => 0))), ((a 42), .inl (cy 0, 8, .inl (fun _ => 0))), ((a 43), .inl (cy 0, 8, .inl (fun _ => 0))), ((a 44), .inl (cy 0, 8, .inl (fun _ => 0))), ((a 45), .inl (cy 0, 4, .inl (fun _ => 0))), ((a 6), .inr (9, [.int 0, .ref (a 51), .ref (a 52), .ref (a 53), .ref (a 54), .ref (a 55)])), ((a 51), .inl (cy 0, 61, .inl (fun _ => 0))), ((a 52), .inl (cy 0, 61, .inl (fun _ => 0))), ((a 53), .inl (cy 0, 61, .inl (fun _ => 0))), ((a 54), .inl (cy 2, 6, .inr (.inl (fun _ => 0)))), ((a 55), .inl (cy 2, 6, .inr (.inl (fun _ => 0)))), ((a 0), .inr (10, [.ref (a 1), .int 0, .int 0, .int (-1), .ref (a 2), .ref (a 3), .ref (a 4), .ref (a 5), .ref (a 6), .ref (a 7), .ref (a 8), .ref (a 9), .int 0])), ((a 3), .inr (6, [.ref (a 10), .int 0, .ref (a 21), .ref (a 22), .ref (a 23), .ref (a 24), .ref (a 25), .int 0])), ((a 10), .inr (0, [.int 0, .int 1, .int 1, .int 0, .int 0, .ref (a 11), .ref (a 12), .ref (a 13), .null, .null]))] H := hP
    have hD : va_D A [((a 21), .inl (cy 0, 8, .inl (fun _ => 0))), ((a 22), .inl (cy 0, 8, .inl (fun _ => 0))), ((a 23), .inl (cy 0, 8, .inl (fun _ => 0))), ((a 24), .inl (cy 0, 8, .inl (fun _ => 0))), ((a 25), .inl (cy 0, 4, .inl (fun _ => 0))), ((a 5), .inr (1, [.ref (a 40), .int 0, .int 0, .ref (a 46), .ref (a 47)])), ((a 40), .inr (6, [.ref (a 10), .int 0, .ref (a 41), .ref (a 42), .ref (a 43), .ref (a 44), .ref (a 45), .int 0])), ((a 41), .inl (cy 0, 8, .inl (fun _ => 0))), ((a 42), .inl (cy 0, 8, .inl (fun _ => 0))), ((a 43), .inl (cy 0, 8, .inl (fun _ => 0))), ((a 44), .inl (cy 0, 8, .inl (fun _ => 0))), ((a 45), .inl (cy 0, 4, .inl (fun _ => 0))), ((a 6), .inr (9, [.int 0, .ref (a 51), .ref (a 52), .ref (a 53), .ref (a 54), .ref (a 55)])), ((a 51), .inl (cy 0, 61, .inl (fun _ => 0))), ((a 52), .inl (cy 0, 61, .inl (fun _ => 0))), ((a 53), .inl (cy 0, 61, .inl (fun _ => 0))), ((a 54), .inl (cy 2, 6, .inr (.inl (fun _ => 0)))), ((a 55), .inl (cy 2, 6, .inr (.inl (fun _ => 0)))), ((a 0), .inr (10, [.ref (a 1), .int 0, .int 0, .int (-1), .ref (a 2), .ref (a 3), .ref (a 4), .ref (a 5), .ref (a 6), .ref (a 7), .ref (a 8), .ref (a 9), .int 0])), ((a 3), .inr (6, [.ref (a 10), .int 0, .ref (a 21), .ref (a 22), .ref (a 23), .ref (a 24), .ref (a 25), .int 0])), ((a 10), .inr (0, [.int 0, .int 1, .int 1, .int 0, .int 0, .ref (a 11), .ref (a 12), .ref (a 13), .null, .null]))] := hD
    obtain rfl : p1 = 0 := (by have kg1 := g1; have kg2 := g2; have kg3 := g3; (try simp only [lg_cmp_lt, lg_cmp_le, lg_cmp_ge, lg_cmp_gt, lg_cmp_eq, fa_lt, fa_le, fa_eq, fa_lt64, fa_le64, fa_eq64, Int32.toInt_toInt64, li_0, lj_0, li_1, lj_1] at kg1); (try simp only [lg_cmp_lt, lg_cmp_le, lg_cmp_ge, lg_cmp_gt, lg_cmp_eq, fa_lt, fa_le, fa_eq, fa_lt64, fa_le64, fa_eq64, Int32.toInt_toInt64, li_0, lj_0, li_1, lj_1] at kg2); (try simp only [lg_cmp_lt, lg_cmp_le, lg_cmp_ge, lg_cmp_gt, lg_cmp_eq, fa_lt, fa_le, fa_eq, fa_lt64, fa_le64, fa_eq64, Int32.toInt_toInt64, li_0, lj_0, li_1, lj_1] at kg3); rw [fa_eq, li_0]; omega)
    refine lv_aload_n hx hb dX10_safeWays_5 rfl (lv_at hl 0 rfl) ?_
    refine lv_iload_n hx hb dX10_safeWays_6 rfl (lv_at hl 2 rfl) ?_
    refine xVv (As := [.int p2]) (rest := []) (wr := [((a 21), .inl (cy 0, 8, .inl (fun _ => 0))), ((a 22), .inl (cy 0, 8, .inl (fun _ => 0))), ((a 23), .inl (cy 0, 8, .inl (fun _ => 0))), ((a 24), .inl (cy 0, 8, .inl (fun _ => 0))), ((a 25), .inl (cy 0, 4, .inl (fun _ => 0))), ((a 5), .inr (1, [.ref (a 40), .int 0, .int 0, .ref (a 46), .ref (a 47)])), ((a 40), .inr (6, [.ref (a 10), .int 0, .ref (a 41), .ref (a 42), .ref (a 43), .ref (a 44), .ref (a 45), .int 0])), ((a 41), .inl (cy 0, 8, .inl (fun _ => 0))), ((a 42), .inl (cy 0, 8, .inl (fun _ => 0))), ((a 43), .inl (cy 0, 8, .inl (fun _ => 0))), ((a 44), .inl (cy 0, 8, .inl (fun _ => 0))), ((a 45), .inl (cy 0, 4, .inl (fun _ => 0))), ((a 6), .inr (9, [.int 0, .ref (a 51), .ref (a 52), .ref (a 53), .ref (a 54), .ref (a 55)])), ((a 51), .inl (cy 0, 61, .inl (fun _ => 0))), ((a 52), .inl (cy 0, 61, .inl (fun _ => 0))), ((a 53), .inl (cy 0, 61, .inl (fun _ => 0))), ((a 54), .inl (cy 2, 6, .inr (.inl (fun _ => 0)))), ((a 55), .inl (cy 2, 6, .inr (.inl (fun _ => 0))))]) hX hE (au_X10_needColumn_3 l hlt D cy a p2) (cwVA 1 htA wd_909 wd_906 wd_1 wd_908 wp_28 (by decide +kernel) ⟨by decide, by decide⟩) hP hD hS [18, 19, 20] [0, 1, 2, 3, 4, 5, 6, 7, 8, 9, 10, 11, 12, 13, 14, 15, 16, 17] rfl rfl (by decide) 0 rfl rfl rfl rfl hl.1 rfl (Nat.le_of_ble_eq_true rfl) dX10_safeWays_7 (by decide) (fun E ce q9 W1 H locs hw hP hD hS hce hcv hcl => ?_) (fun W1 H locs hw hP hD hS => ?_)
    · rcases hw with ⟨g10, rfl⟩ | ⟨g11, g12, rfl⟩
      · exact xO hX hE hxt hP hD hS hce hcv hcl (by decide) (by decide) (Or.inl (⟨rfl, (by have kg1 := g1; have kg2 := g2; have kg3 := g3; have kg10 := g10; (try simp only [lg_cmp_lt, lg_cmp_le, lg_cmp_ge, lg_cmp_gt, lg_cmp_eq, fa_lt, fa_le, fa_eq, fa_lt64, fa_le64, fa_eq64, Int32.toInt_toInt64, li_0, lj_0, li_1, lj_1] at kg1); (try simp only [lg_cmp_lt, lg_cmp_le, lg_cmp_ge, lg_cmp_gt, lg_cmp_eq, fa_lt, fa_le, fa_eq, fa_lt64, fa_le64, fa_eq64, Int32.toInt_toInt64, li_0, lj_0, li_1, lj_1] at kg2); (try simp only [lg_cmp_lt, lg_cmp_le, lg_cmp_ge, lg_cmp_gt, lg_cmp_eq, fa_lt, fa_le, fa_eq, fa_lt64, fa_le64, fa_eq64, Int32.toInt_toInt64, li_0, lj_0, li_1, lj_1] at kg3); (try simp only [lg_cmp_lt, lg_cmp_le, lg_cmp_ge, lg_cmp_gt, lg_cmp_eq, fa_lt, fa_le, fa_eq, fa_lt64, fa_le64, fa_eq64, Int32.toInt_toInt64, li_0, lj_0, li_1, lj_1] at kg10); first | rfl | (unfold kf_safeWays; (try simp only [li_0, and_self, and_true, true_and, if_true]); (repeat' split) <;> first | rfl | (exfalso; omega)))⟩))
      · exact xO hX hE hxt hP hD hS hce hcv hcl (by decide) (by decide) (Or.inl (⟨rfl, (by have kg1 := g1; have kg2 := g2; have kg3 := g3; have kg11 := g11; have kg12 := g12; (try simp only [lg_cmp_lt, lg_cmp_le, lg_cmp_ge, lg_cmp_gt, lg_cmp_eq, fa_lt, fa_le, fa_eq, fa_lt64, fa_le64, fa_eq64, Int32.toInt_toInt64, li_0, lj_0, li_1, lj_1] at kg1); (try simp only [lg_cmp_lt, lg_cmp_le, lg_cmp_ge, lg_cmp_gt, lg_cmp_eq, fa_lt, fa_le, fa_eq, fa_lt64, fa_le64, fa_eq64, Int32.toInt_toInt64, li_0, lj_0, li_1, lj_1] at kg2); (try simp only [lg_cmp_lt, lg_cmp_le, lg_cmp_ge, lg_cmp_gt, lg_cmp_eq, fa_lt, fa_le, fa_eq, fa_lt64, fa_le64, fa_eq64, Int32.toInt_toInt64, li_0, lj_0, li_1, lj_1] at kg3); (try simp only [lg_cmp_lt, lg_cmp_le, lg_cmp_ge, lg_cmp_gt, lg_cmp_eq, fa_lt, fa_le, fa_eq, fa_lt64, fa_le64, fa_eq64, Int32.toInt_toInt64, li_0, lj_0, li_1, lj_1] at kg11); (try simp only [lg_cmp_lt, lg_cmp_le, lg_cmp_ge, lg_cmp_gt, lg_cmp_eq, fa_lt, fa_le, fa_eq, fa_lt64, fa_le64, fa_eq64, Int32.toInt_toInt64, li_0, lj_0, li_1, lj_1] at kg12); first | rfl | (unfold kf_safeWays; (try simp only [li_0, and_self, and_true, true_and, if_true]); (repeat' split) <;> first | rfl | (exfalso; omega)))⟩))
    · refine W.widen (k := 2) (n := 12) (by decide) (by decide) ?_
      obtain ⟨g7, g8, g9, rfl⟩ := hw
      have hP : va_P D vwCl [((a 21), .inl (cy 0, 8, .inl (fun _ => 0))), ((a 22), .inl (cy 0, 8, .inl (fun _ => 0))), ((a 23), .inl (cy 0, 8, .inl (fun _ => 0))), ((a 24), .inl (cy 0, 8, .inl (fun _ => 0))), ((a 25), .inl (cy 0, 4, .inl (fun _ => 0))), ((a 5), .inr (1, [.ref (a 40), .int 0, .int 0, .ref (a 46), .ref (a 47)])), ((a 40), .inr (6, [.ref (a 10), .int 0, .ref (a 41), .ref (a 42), .ref (a 43), .ref (a 44), .ref (a 45), .int 0])), ((a 41), .inl (cy 0, 8, .inl (fun _ => 0))), ((a 42), .inl (cy 0, 8, .inl (fun _ => 0))), ((a 43), .inl (cy 0, 8, .inl (fun _ => 0))), ((a 44), .inl (cy 0, 8, .inl (fun _ => 0))), ((a 45), .inl (cy 0, 4, .inl (fun _ => 0))), ((a 6), .inr (9, [.int 0, .ref (a 51), .ref (a 52), .ref (a 53), .ref (a 54), .ref (a 55)])), ((a 51), .inl (cy 0, 61, .inl (fun _ => 0))), ((a 52), .inl (cy 0, 61, .inl (fun _ => 0))), ((a 53), .inl (cy 0, 61, .inl (fun _ => 0))), ((a 54), .inl (cy 2, 6, .inr (.inl (fun _ => 0)))), ((a 55), .inl (cy 2, 6, .inr (.inl (fun _ => 0)))), ((a 0), .inr (10, [.ref (a 1), .int 0, .int 0, .int (-1), .ref (a 2), .ref (a 3), .ref (a 4), .ref (a 5), .ref (a 6), .ref (a 7), .ref (a 8), .ref (a 9), .int 0])), ((a 3), .inr (6, [.ref (a 10), .int 0, .ref (a 21), .ref (a 22), .ref (a 23), .ref (a 24), .ref (a 25), .int 0])), ((a 10), .inr (0, [.int 0, .int 1, .int 1, .int 0, .int 0, .ref (a 11), .ref (a 12), .ref (a 13), .null, .null]))] H := hP
      have hD : va_D A [((a 21), .inl (cy 0, 8, .inl (fun _ => 0))), ((a 22), .inl (cy 0, 8, .inl (fun _ => 0))), ((a 23), .inl (cy 0, 8, .inl (fun _ => 0))), ((a 24), .inl (cy 0, 8, .inl (fun _ => 0))), ((a 25), .inl (cy 0, 4, .inl (fun _ => 0))), ((a 5), .inr (1, [.ref (a 40), .int 0, .int 0, .ref (a 46), .ref (a 47)])), ((a 40), .inr (6, [.ref (a 10), .int 0, .ref (a 41), .ref (a 42), .ref (a 43), .ref (a 44), .ref (a 45), .int 0])), ((a 41), .inl (cy 0, 8, .inl (fun _ => 0))), ((a 42), .inl (cy 0, 8, .inl (fun _ => 0))), ((a 43), .inl (cy 0, 8, .inl (fun _ => 0))), ((a 44), .inl (cy 0, 8, .inl (fun _ => 0))), ((a 45), .inl (cy 0, 4, .inl (fun _ => 0))), ((a 6), .inr (9, [.int 0, .ref (a 51), .ref (a 52), .ref (a 53), .ref (a 54), .ref (a 55)])), ((a 51), .inl (cy 0, 61, .inl (fun _ => 0))), ((a 52), .inl (cy 0, 61, .inl (fun _ => 0))), ((a 53), .inl (cy 0, 61, .inl (fun _ => 0))), ((a 54), .inl (cy 2, 6, .inr (.inl (fun _ => 0)))), ((a 55), .inl (cy 2, 6, .inr (.inl (fun _ => 0)))), ((a 0), .inr (10, [.ref (a 1), .int 0, .int 0, .int (-1), .ref (a 2), .ref (a 3), .ref (a 4), .ref (a 5), .ref (a 6), .ref (a 7), .ref (a 8), .ref (a 9), .int 0])), ((a 3), .inr (6, [.ref (a 10), .int 0, .ref (a 21), .ref (a 22), .ref (a 23), .ref (a 24), .ref (a 25), .int 0])), ((a 10), .inr (0, [.int 0, .int 1, .int 1, .int 0, .int 0, .ref (a 11), .ref (a 12), .ref (a 13), .null, .null]))] := hD
      obtain rfl : p2 = 0 := (by have kg1 := g1; have kg2 := g2; have kg3 := g3; have kg7 := g7; have kg8 := g8; have kg9 := g9; (try simp only [lg_cmp_lt, lg_cmp_le, lg_cmp_ge, lg_cmp_gt, lg_cmp_eq, fa_lt, fa_le, fa_eq, fa_lt64, fa_le64, fa_eq64, Int32.toInt_toInt64, li_0, lj_0, li_1, lj_1] at kg1); (try simp only [lg_cmp_lt, lg_cmp_le, lg_cmp_ge, lg_cmp_gt, lg_cmp_eq, fa_lt, fa_le, fa_eq, fa_lt64, fa_le64, fa_eq64, Int32.toInt_toInt64, li_0, lj_0, li_1, lj_1] at kg2); (try simp only [lg_cmp_lt, lg_cmp_le, lg_cmp_ge, lg_cmp_gt, lg_cmp_eq, fa_lt, fa_le, fa_eq, fa_lt64, fa_le64, fa_eq64, Int32.toInt_toInt64, li_0, lj_0, li_1, lj_1] at kg3); (try simp only [lg_cmp_lt, lg_cmp_le, lg_cmp_ge, lg_cmp_gt, lg_cmp_eq, fa_lt, fa_le, fa_eq, fa_lt64, fa_le64, fa_eq64, Int32.toInt_toInt64, li_0, lj_0, li_1, lj_1] at kg7); (try simp only [lg_cmp_lt, lg_cmp_le, lg_cmp_ge, lg_cmp_gt, lg_cmp_eq, fa_lt, fa_le, fa_eq, fa_lt64, fa_le64, fa_eq64, Int32.toInt_toInt64, li_0, lj_0, li_1, lj_1] at kg8); (try simp only [lg_cmp_lt, lg_cmp_le, lg_cmp_ge, lg_cmp_gt, lg_cmp_eq, fa_lt, fa_le, fa_eq, fa_lt64, fa_le64, fa_eq64, Int32.toInt_toInt64, li_0, lj_0, li_1, lj_1] at kg9); rw [fa_eq, li_0]; omega)
      refine lv_iload_n hx hb dX10_safeWays_10 rfl (lv_at hl 3 rfl) ?_
      refine lv_iconst (v := 0) hx hb dX10_safeWays_11 (by decide) ?_
      refine lv_bipush (v := 20) hx hb dX10_safeWays_12 (by decide) ?_
      refine xSv (As := [.int p3, .int 0, .int 20]) (rest := []) (wr := [((a 21), .inl (cy 0, 8, .inl (fun _ => 0))), ((a 22), .inl (cy 0, 8, .inl (fun _ => 0))), ((a 23), .inl (cy 0, 8, .inl (fun _ => 0))), ((a 24), .inl (cy 0, 8, .inl (fun _ => 0))), ((a 25), .inl (cy 0, 4, .inl (fun _ => 0))), ((a 5), .inr (1, [.ref (a 40), .int 0, .int 0, .ref (a 46), .ref (a 47)])), ((a 40), .inr (6, [.ref (a 10), .int 0, .ref (a 41), .ref (a 42), .ref (a 43), .ref (a 44), .ref (a 45), .int 0])), ((a 41), .inl (cy 0, 8, .inl (fun _ => 0))), ((a 42), .inl (cy 0, 8, .inl (fun _ => 0))), ((a 43), .inl (cy 0, 8, .inl (fun _ => 0))), ((a 44), .inl (cy 0, 8, .inl (fun _ => 0))), ((a 45), .inl (cy 0, 4, .inl (fun _ => 0))), ((a 6), .inr (9, [.int 0, .ref (a 51), .ref (a 52), .ref (a 53), .ref (a 54), .ref (a 55)])), ((a 51), .inl (cy 0, 61, .inl (fun _ => 0))), ((a 52), .inl (cy 0, 61, .inl (fun _ => 0))), ((a 53), .inl (cy 0, 61, .inl (fun _ => 0))), ((a 54), .inl (cy 2, 6, .inr (.inl (fun _ => 0)))), ((a 55), .inl (cy 2, 6, .inr (.inl (fun _ => 0)))), ((a 0), .inr (10, [.ref (a 1), .int 0, .int 0, .int (-1), .ref (a 2), .ref (a 3), .ref (a 4), .ref (a 5), .ref (a 6), .ref (a 7), .ref (a 8), .ref (a 9), .int 0])), ((a 3), .inr (6, [.ref (a 10), .int 0, .ref (a 21), .ref (a 22), .ref (a 23), .ref (a 24), .ref (a 25), .int 0])), ((a 10), .inr (0, [.int 0, .int 1, .int 1, .int 0, .int 0, .ref (a 11), .ref (a 12), .ref (a 13), .null, .null]))]) hX hE (au_X10_needWithin_79 l hlt D cy a p3) (cwSA 3 htA wd_935 wd_933 wd_1 wd_934 (by decide +kernel) ⟨by decide, by decide⟩) hP hD hS [] [0, 1, 2, 3, 4, 5, 6, 7, 8, 9, 10, 11, 12, 13, 14, 15, 16, 17, 18, 19, 20] rfl rfl (by decide) rfl hl.1 rfl (Nat.le_of_ble_eq_true rfl) dX10_safeWays_14 (by decide) (fun E ce q9 W1 H locs hw hP hD hS hce hcv hcl => ?_) (fun W1 H locs hw hP hD hS => ?_)
      · rcases hw with ⟨g15, rfl⟩ | ⟨g16, g17, rfl⟩
        · exact xO hX hE hxt hP hD hS hce hcv hcl (by decide) (by decide) (Or.inr (⟨rfl, (by have kg1 := g1; have kg2 := g2; have kg3 := g3; have kg7 := g7; have kg8 := g8; have kg9 := g9; have kg15 := g15; (try simp only [lg_cmp_lt, lg_cmp_le, lg_cmp_ge, lg_cmp_gt, lg_cmp_eq, fa_lt, fa_le, fa_eq, fa_lt64, fa_le64, fa_eq64, Int32.toInt_toInt64, li_0, lj_0, li_1, lj_1] at kg1); (try simp only [lg_cmp_lt, lg_cmp_le, lg_cmp_ge, lg_cmp_gt, lg_cmp_eq, fa_lt, fa_le, fa_eq, fa_lt64, fa_le64, fa_eq64, Int32.toInt_toInt64, li_0, lj_0, li_1, lj_1] at kg2); (try simp only [lg_cmp_lt, lg_cmp_le, lg_cmp_ge, lg_cmp_gt, lg_cmp_eq, fa_lt, fa_le, fa_eq, fa_lt64, fa_le64, fa_eq64, Int32.toInt_toInt64, li_0, lj_0, li_1, lj_1] at kg3); (try simp only [lg_cmp_lt, lg_cmp_le, lg_cmp_ge, lg_cmp_gt, lg_cmp_eq, fa_lt, fa_le, fa_eq, fa_lt64, fa_le64, fa_eq64, Int32.toInt_toInt64, li_0, lj_0, li_1, lj_1] at kg7); (try simp only [lg_cmp_lt, lg_cmp_le, lg_cmp_ge, lg_cmp_gt, lg_cmp_eq, fa_lt, fa_le, fa_eq, fa_lt64, fa_le64, fa_eq64, Int32.toInt_toInt64, li_0, lj_0, li_1, lj_1] at kg8); (try simp only [lg_cmp_lt, lg_cmp_le, lg_cmp_ge, lg_cmp_gt, lg_cmp_eq, fa_lt, fa_le, fa_eq, fa_lt64, fa_le64, fa_eq64, Int32.toInt_toInt64, li_0, lj_0, li_1, lj_1] at kg9); (try simp only [lg_cmp_lt, lg_cmp_le, lg_cmp_ge, lg_cmp_gt, lg_cmp_eq, fa_lt, fa_le, fa_eq, fa_lt64, fa_le64, fa_eq64, Int32.toInt_toInt64, li_0, lj_0, li_1, lj_1] at kg15); first | rfl | (unfold kf_safeWays; (try simp only [li_0, and_self, and_true, true_and, if_true]); (repeat' split) <;> first | rfl | (exfalso; omega)))⟩))
        · exact xO hX hE hxt hP hD hS hce hcv hcl (by decide) (by decide) (Or.inr (⟨rfl, (by have kg1 := g1; have kg2 := g2; have kg3 := g3; have kg7 := g7; have kg8 := g8; have kg9 := g9; have kg16 := g16; have kg17 := g17; (try simp only [lg_cmp_lt, lg_cmp_le, lg_cmp_ge, lg_cmp_gt, lg_cmp_eq, fa_lt, fa_le, fa_eq, fa_lt64, fa_le64, fa_eq64, Int32.toInt_toInt64, li_0, lj_0, li_1, lj_1, li_20, lj_20] at kg1); (try simp only [lg_cmp_lt, lg_cmp_le, lg_cmp_ge, lg_cmp_gt, lg_cmp_eq, fa_lt, fa_le, fa_eq, fa_lt64, fa_le64, fa_eq64, Int32.toInt_toInt64, li_0, lj_0, li_1, lj_1, li_20, lj_20] at kg2); (try simp only [lg_cmp_lt, lg_cmp_le, lg_cmp_ge, lg_cmp_gt, lg_cmp_eq, fa_lt, fa_le, fa_eq, fa_lt64, fa_le64, fa_eq64, Int32.toInt_toInt64, li_0, lj_0, li_1, lj_1, li_20, lj_20] at kg3); (try simp only [lg_cmp_lt, lg_cmp_le, lg_cmp_ge, lg_cmp_gt, lg_cmp_eq, fa_lt, fa_le, fa_eq, fa_lt64, fa_le64, fa_eq64, Int32.toInt_toInt64, li_0, lj_0, li_1, lj_1, li_20, lj_20] at kg7); (try simp only [lg_cmp_lt, lg_cmp_le, lg_cmp_ge, lg_cmp_gt, lg_cmp_eq, fa_lt, fa_le, fa_eq, fa_lt64, fa_le64, fa_eq64, Int32.toInt_toInt64, li_0, lj_0, li_1, lj_1, li_20, lj_20] at kg8); (try simp only [lg_cmp_lt, lg_cmp_le, lg_cmp_ge, lg_cmp_gt, lg_cmp_eq, fa_lt, fa_le, fa_eq, fa_lt64, fa_le64, fa_eq64, Int32.toInt_toInt64, li_0, lj_0, li_1, lj_1, li_20, lj_20] at kg9); (try simp only [lg_cmp_lt, lg_cmp_le, lg_cmp_ge, lg_cmp_gt, lg_cmp_eq, fa_lt, fa_le, fa_eq, fa_lt64, fa_le64, fa_eq64, Int32.toInt_toInt64, li_0, lj_0, li_1, lj_1, li_20, lj_20] at kg16); (try simp only [lg_cmp_lt, lg_cmp_le, lg_cmp_ge, lg_cmp_gt, lg_cmp_eq, fa_lt, fa_le, fa_eq, fa_lt64, fa_le64, fa_eq64, Int32.toInt_toInt64, li_0, lj_0, li_1, lj_1, li_20, lj_20] at kg17); first | rfl | (unfold kf_safeWays; (try simp only [li_0, and_self, and_true, true_and, if_true]); (repeat' split) <;> first | rfl | (exfalso; omega)))⟩))
      · refine W.widen (k := 3) (n := 18) (by decide) (by decide) ?_
        obtain ⟨g13, g14, rfl⟩ := hw
        have hP : va_P D vwCl [((a 21), .inl (cy 0, 8, .inl (fun _ => 0))), ((a 22), .inl (cy 0, 8, .inl (fun _ => 0))), ((a 23), .inl (cy 0, 8, .inl (fun _ => 0))), ((a 24), .inl (cy 0, 8, .inl (fun _ => 0))), ((a 25), .inl (cy 0, 4, .inl (fun _ => 0))), ((a 5), .inr (1, [.ref (a 40), .int 0, .int 0, .ref (a 46), .ref (a 47)])), ((a 40), .inr (6, [.ref (a 10), .int 0, .ref (a 41), .ref (a 42), .ref (a 43), .ref (a 44), .ref (a 45), .int 0])), ((a 41), .inl (cy 0, 8, .inl (fun _ => 0))), ((a 42), .inl (cy 0, 8, .inl (fun _ => 0))), ((a 43), .inl (cy 0, 8, .inl (fun _ => 0))), ((a 44), .inl (cy 0, 8, .inl (fun _ => 0))), ((a 45), .inl (cy 0, 4, .inl (fun _ => 0))), ((a 6), .inr (9, [.int 0, .ref (a 51), .ref (a 52), .ref (a 53), .ref (a 54), .ref (a 55)])), ((a 51), .inl (cy 0, 61, .inl (fun _ => 0))), ((a 52), .inl (cy 0, 61, .inl (fun _ => 0))), ((a 53), .inl (cy 0, 61, .inl (fun _ => 0))), ((a 54), .inl (cy 2, 6, .inr (.inl (fun _ => 0)))), ((a 55), .inl (cy 2, 6, .inr (.inl (fun _ => 0)))), ((a 0), .inr (10, [.ref (a 1), .int 0, .int 0, .int (-1), .ref (a 2), .ref (a 3), .ref (a 4), .ref (a 5), .ref (a 6), .ref (a 7), .ref (a 8), .ref (a 9), .int 0])), ((a 3), .inr (6, [.ref (a 10), .int 0, .ref (a 21), .ref (a 22), .ref (a 23), .ref (a 24), .ref (a 25), .int 0])), ((a 10), .inr (0, [.int 0, .int 1, .int 1, .int 0, .int 0, .ref (a 11), .ref (a 12), .ref (a 13), .null, .null]))] H := hP
        have hD : va_D A [((a 21), .inl (cy 0, 8, .inl (fun _ => 0))), ((a 22), .inl (cy 0, 8, .inl (fun _ => 0))), ((a 23), .inl (cy 0, 8, .inl (fun _ => 0))), ((a 24), .inl (cy 0, 8, .inl (fun _ => 0))), ((a 25), .inl (cy 0, 4, .inl (fun _ => 0))), ((a 5), .inr (1, [.ref (a 40), .int 0, .int 0, .ref (a 46), .ref (a 47)])), ((a 40), .inr (6, [.ref (a 10), .int 0, .ref (a 41), .ref (a 42), .ref (a 43), .ref (a 44), .ref (a 45), .int 0])), ((a 41), .inl (cy 0, 8, .inl (fun _ => 0))), ((a 42), .inl (cy 0, 8, .inl (fun _ => 0))), ((a 43), .inl (cy 0, 8, .inl (fun _ => 0))), ((a 44), .inl (cy 0, 8, .inl (fun _ => 0))), ((a 45), .inl (cy 0, 4, .inl (fun _ => 0))), ((a 6), .inr (9, [.int 0, .ref (a 51), .ref (a 52), .ref (a 53), .ref (a 54), .ref (a 55)])), ((a 51), .inl (cy 0, 61, .inl (fun _ => 0))), ((a 52), .inl (cy 0, 61, .inl (fun _ => 0))), ((a 53), .inl (cy 0, 61, .inl (fun _ => 0))), ((a 54), .inl (cy 2, 6, .inr (.inl (fun _ => 0)))), ((a 55), .inl (cy 2, 6, .inr (.inl (fun _ => 0)))), ((a 0), .inr (10, [.ref (a 1), .int 0, .int 0, .int (-1), .ref (a 2), .ref (a 3), .ref (a 4), .ref (a 5), .ref (a 6), .ref (a 7), .ref (a 8), .ref (a 9), .int 0])), ((a 3), .inr (6, [.ref (a 10), .int 0, .ref (a 21), .ref (a 22), .ref (a 23), .ref (a 24), .ref (a 25), .int 0])), ((a 10), .inr (0, [.int 0, .int 1, .int 1, .int 0, .int 0, .ref (a 11), .ref (a 12), .ref (a 13), .null, .null]))] := hD
        refine lv_aload_n hx hb dX10_safeWays_17 rfl (lv_at hl 0 rfl) ?_
        refine va_get (ci := 10) (v := .ref (a 5)) (C := RX10) (T := TX10) (N := 13) hx hb htA in_X10 hown hK hP 18 rfl rfl 7 (by decide) (htA _ wd_315) (fun _ h => h) rfl dX10_safeWays_18 ?_
        refine lv_aload_n hx hb dX10_safeWays_21 rfl (lv_at hl 0 rfl) ?_
        refine va_get (ci := 10) (v := .ref (a 3)) (C := RX10) (T := TX10) (N := 13) hx hb htA in_X10 hown hK hP 18 rfl rfl 5 (by decide) (htA _ wd_313) (fun _ h => h) rfl dX10_safeWays_22 ?_
        refine kVv (As := [.ref (a 3)]) (rest := []) (wr := [((a 6), .inr (9, [.int 0, .ref (a 51), .ref (a 52), .ref (a 53), .ref (a 54), .ref (a 55)])), ((a 51), .inl (cy 0, 61, .inl (fun _ => 0))), ((a 52), .inl (cy 0, 61, .inl (fun _ => 0))), ((a 53), .inl (cy 0, 61, .inl (fun _ => 0))), ((a 54), .inl (cy 2, 6, .inr (.inl (fun _ => 0)))), ((a 55), .inl (cy 2, 6, .inr (.inl (fun _ => 0)))), ((a 0), .inr (10, [.ref (a 1), .int 0, .int 0, .int (-1), .ref (a 2), .ref (a 3), .ref (a 4), .ref (a 5), .ref (a 6), .ref (a 7), .ref (a 8), .ref (a 9), .int 0]))]) hX hE (au_X1_look_57 l D cy a) (cwVA 1 htA wd_488 wd_485 wd_8 wd_486 wd_487 (by decide +kernel) ⟨by decide, by decide⟩) hP hD hS [0, 1, 2, 3, 4, 5, 6, 7, 8, 9, 10, 11, 19, 20] [12, 13, 14, 15, 16, 17, 18] rfl rfl (by decide) 5 rfl rfl rfl rfl hl.1 rfl (Nat.le_of_ble_eq_true rfl) dX10_safeWays_25 (by decide) (fun W1 H locs hw hP hD hS => ?_)
        refine W.widen (k := 3) (n := 18) (by decide) (by decide) ?_
        obtain rfl := hw
        have hP : va_P D vwCl [((a 6), .inr (9, [.int 0, .ref (a 51), .ref (a 52), .ref (a 53), .ref (a 54), .ref (a 55)])), ((a 51), .inl (cy 0, 61, .inl (fun _ => 0))), ((a 52), .inl (cy 0, 61, .inl (fun _ => 0))), ((a 53), .inl (cy 0, 61, .inl (fun _ => 0))), ((a 54), .inl (cy 2, 6, .inr (.inl (fun _ => 0)))), ((a 55), .inl (cy 2, 6, .inr (.inl (fun _ => 0)))), ((a 0), .inr (10, [.ref (a 1), .int 0, .int 0, .int (-1), .ref (a 2), .ref (a 3), .ref (a 4), .ref (a 5), .ref (a 6), .ref (a 7), .ref (a 8), .ref (a 9), .int 0])), ((a 5), .inr (1, [.ref (a 40), .int 0, .int 0, .ref (a 46), .ref (a 47)])), ((a 21), .inl (cy 0, 8, .inl (fun _ => 0))), ((a 22), .inl (cy 0, 8, .inl (fun _ => 0))), ((a 23), .inl (cy 0, 8, .inl (fun _ => 0))), ((a 24), .inl (cy 0, 8, .inl (fun _ => 0))), ((a 25), .inl (cy 0, 4, .inl (fun _ => 0))), ((a 41), .inl (cy 0, 8, .inl (fun _ => 0))), ((a 42), .inl (cy 0, 8, .inl (fun _ => 0))), ((a 43), .inl (cy 0, 8, .inl (fun _ => 0))), ((a 44), .inl (cy 0, 8, .inl (fun _ => 0))), ((a 45), .inl (cy 0, 4, .inl (fun _ => 0))), ((a 3), .inr (6, [.ref (a 10), .int 0, .ref (a 21), .ref (a 22), .ref (a 23), .ref (a 24), .ref (a 25), .int 0])), ((a 10), .inr (0, [.int 0, .int 1, .int 1, .int 0, .int 0, .ref (a 11), .ref (a 12), .ref (a 13), .null, .null])), ((a 40), .inr (6, [.ref (a 10), .int 0, .ref (a 41), .ref (a 42), .ref (a 43), .ref (a 44), .ref (a 45), .int 0]))] H := hP
        have hD : va_D A [((a 6), .inr (9, [.int 0, .ref (a 51), .ref (a 52), .ref (a 53), .ref (a 54), .ref (a 55)])), ((a 51), .inl (cy 0, 61, .inl (fun _ => 0))), ((a 52), .inl (cy 0, 61, .inl (fun _ => 0))), ((a 53), .inl (cy 0, 61, .inl (fun _ => 0))), ((a 54), .inl (cy 2, 6, .inr (.inl (fun _ => 0)))), ((a 55), .inl (cy 2, 6, .inr (.inl (fun _ => 0)))), ((a 0), .inr (10, [.ref (a 1), .int 0, .int 0, .int (-1), .ref (a 2), .ref (a 3), .ref (a 4), .ref (a 5), .ref (a 6), .ref (a 7), .ref (a 8), .ref (a 9), .int 0])), ((a 5), .inr (1, [.ref (a 40), .int 0, .int 0, .ref (a 46), .ref (a 47)])), ((a 21), .inl (cy 0, 8, .inl (fun _ => 0))), ((a 22), .inl (cy 0, 8, .inl (fun _ => 0))), ((a 23), .inl (cy 0, 8, .inl (fun _ => 0))), ((a 24), .inl (cy 0, 8, .inl (fun _ => 0))), ((a 25), .inl (cy 0, 4, .inl (fun _ => 0))), ((a 41), .inl (cy 0, 8, .inl (fun _ => 0))), ((a 42), .inl (cy 0, 8, .inl (fun _ => 0))), ((a 43), .inl (cy 0, 8, .inl (fun _ => 0))), ((a 44), .inl (cy 0, 8, .inl (fun _ => 0))), ((a 45), .inl (cy 0, 4, .inl (fun _ => 0))), ((a 3), .inr (6, [.ref (a 10), .int 0, .ref (a 21), .ref (a 22), .ref (a 23), .ref (a 24), .ref (a 25), .int 0])), ((a 10), .inr (0, [.int 0, .int 1, .int 1, .int 0, .int 0, .ref (a 11), .ref (a 12), .ref (a 13), .null, .null])), ((a 40), .inr (6, [.ref (a 10), .int 0, .ref (a 41), .ref (a 42), .ref (a 43), .ref (a 44), .ref (a 45), .int 0]))] := hD
        refine lv_aload_n hx hb dX10_safeWays_28 rfl (lv_at hl 0 rfl) ?_
        refine va_get (ci := 10) (v := .ref (a 6)) (C := RX10) (T := TX10) (N := 13) hx hb htA in_X10 hown hK hP 6 rfl rfl 8 (by decide) (htA _ wd_316) (fun _ h => h) rfl dX10_safeWays_29 ?_
        refine lv_aload_n hx hb dX10_safeWays_32 rfl (lv_at hl 0 rfl) ?_
        refine va_get (ci := 10) (v := .ref (a 5)) (C := RX10) (T := TX10) (N := 13) hx hb htA in_X10 hown hK hP 6 rfl rfl 7 (by decide) (htA _ wd_315) (fun _ h => h) rfl dX10_safeWays_33 ?_
        refine lv_iload_n hx hb dX10_safeWays_36 rfl (lv_at hl 1 rfl) ?_
        refine kVv (As := [.ref (a 5), .int 0]) (rest := []) (wr := [((a 53), .inl (cy 0, 61, .inl (fun _ => 0))), ((a 54), .inl (cy 2, 6, .inr (.inl (fun _ => 0)))), ((a 55), .inl (cy 2, 6, .inr (.inl (fun _ => 0)))), ((a 0), .inr (10, [.ref (a 1), .int 0, .int 0, .int (-1), .ref (a 2), .ref (a 3), .ref (a 4), .ref (a 5), .ref (a 6), .ref (a 7), .ref (a 8), .ref (a 9), .int 0])), ((a 21), .inl (cy 0, 8, .inl (fun _ => 0))), ((a 22), .inl (cy 0, 8, .inl (fun _ => 0))), ((a 23), .inl (cy 0, 8, .inl (fun _ => 0))), ((a 24), .inl (cy 0, 8, .inl (fun _ => 0))), ((a 25), .inl (cy 0, 4, .inl (fun _ => 0))), ((a 41), .inl (cy 0, 8, .inl (fun _ => 0))), ((a 42), .inl (cy 0, 8, .inl (fun _ => 0))), ((a 43), .inl (cy 0, 8, .inl (fun _ => 0))), ((a 44), .inl (cy 0, 8, .inl (fun _ => 0))), ((a 45), .inl (cy 0, 4, .inl (fun _ => 0))), ((a 3), .inr (6, [.ref (a 10), .int 0, .ref (a 21), .ref (a 22), .ref (a 23), .ref (a 24), .ref (a 25), .int 0]))]) hX hE (au_X9_look_59 l D cy a) (cwVA 2 htA wd_1183 wd_1180 wd_2 wd_1181 wd_1182 (by decide +kernel) ⟨by decide, by decide⟩) hP hD hS [0, 1, 2, 7, 19, 20] [3, 4, 5, 6, 8, 9, 10, 11, 12, 13, 14, 15, 16, 17, 18] rfl rfl (by decide) 0 rfl rfl rfl rfl hl.1 rfl (Nat.le_of_ble_eq_true rfl) dX10_safeWays_37 (by decide) (fun W1 H locs hw hP hD hS => ?_)
        refine W.widen (k := 3) (n := 18) (by decide) (by decide) ?_
        obtain rfl := hw
        have hP : va_P D vwCl [((a 53), .inl (cy 0, 61, .inl (fun _ => 0))), ((a 54), .inl (cy 2, 6, .inr (.inl (fun _ => 0)))), ((a 55), .inl (cy 2, 6, .inr (.inl (fun _ => 0)))), ((a 0), .inr (10, [.ref (a 1), .int 0, .int 0, .int (-1), .ref (a 2), .ref (a 3), .ref (a 4), .ref (a 5), .ref (a 6), .ref (a 7), .ref (a 8), .ref (a 9), .int 0])), ((a 21), .inl (cy 0, 8, .inl (fun _ => 0))), ((a 22), .inl (cy 0, 8, .inl (fun _ => 0))), ((a 23), .inl (cy 0, 8, .inl (fun _ => 0))), ((a 24), .inl (cy 0, 8, .inl (fun _ => 0))), ((a 25), .inl (cy 0, 4, .inl (fun _ => 0))), ((a 41), .inl (cy 0, 8, .inl (fun _ => 0))), ((a 42), .inl (cy 0, 8, .inl (fun _ => 0))), ((a 43), .inl (cy 0, 8, .inl (fun _ => 0))), ((a 44), .inl (cy 0, 8, .inl (fun _ => 0))), ((a 45), .inl (cy 0, 4, .inl (fun _ => 0))), ((a 3), .inr (6, [.ref (a 10), .int 0, .ref (a 21), .ref (a 22), .ref (a 23), .ref (a 24), .ref (a 25), .int 0])), ((a 51), .inl (cy 0, 61, .inl (fun _ => 0))), ((a 52), .inl (cy 0, 61, .inl (rc 61))), ((a 5), .inr (1, [.ref (a 40), .int 0, .int 0, .ref (a 46), .ref (a 47)])), ((a 10), .inr (0, [.int 0, .int 1, .int 1, .int 0, .int 0, .ref (a 11), .ref (a 12), .ref (a 13), .null, .null])), ((a 40), .inr (6, [.ref (a 10), .int 0, .ref (a 41), .ref (a 42), .ref (a 43), .ref (a 44), .ref (a 45), .int 0])), ((a 6), .inr (9, [.int 1, .ref (a 51), .ref (a 52), .ref (a 53), .ref (a 54), .ref (a 55)]))] H := hP
        have hD : va_D A [((a 53), .inl (cy 0, 61, .inl (fun _ => 0))), ((a 54), .inl (cy 2, 6, .inr (.inl (fun _ => 0)))), ((a 55), .inl (cy 2, 6, .inr (.inl (fun _ => 0)))), ((a 0), .inr (10, [.ref (a 1), .int 0, .int 0, .int (-1), .ref (a 2), .ref (a 3), .ref (a 4), .ref (a 5), .ref (a 6), .ref (a 7), .ref (a 8), .ref (a 9), .int 0])), ((a 21), .inl (cy 0, 8, .inl (fun _ => 0))), ((a 22), .inl (cy 0, 8, .inl (fun _ => 0))), ((a 23), .inl (cy 0, 8, .inl (fun _ => 0))), ((a 24), .inl (cy 0, 8, .inl (fun _ => 0))), ((a 25), .inl (cy 0, 4, .inl (fun _ => 0))), ((a 41), .inl (cy 0, 8, .inl (fun _ => 0))), ((a 42), .inl (cy 0, 8, .inl (fun _ => 0))), ((a 43), .inl (cy 0, 8, .inl (fun _ => 0))), ((a 44), .inl (cy 0, 8, .inl (fun _ => 0))), ((a 45), .inl (cy 0, 4, .inl (fun _ => 0))), ((a 3), .inr (6, [.ref (a 10), .int 0, .ref (a 21), .ref (a 22), .ref (a 23), .ref (a 24), .ref (a 25), .int 0])), ((a 51), .inl (cy 0, 61, .inl (fun _ => 0))), ((a 52), .inl (cy 0, 61, .inl (rc 61))), ((a 5), .inr (1, [.ref (a 40), .int 0, .int 0, .ref (a 46), .ref (a 47)])), ((a 10), .inr (0, [.int 0, .int 1, .int 1, .int 0, .int 0, .ref (a 11), .ref (a 12), .ref (a 13), .null, .null])), ((a 40), .inr (6, [.ref (a 10), .int 0, .ref (a 41), .ref (a 42), .ref (a 43), .ref (a 44), .ref (a 45), .int 0])), ((a 6), .inr (9, [.int 1, .ref (a 51), .ref (a 52), .ref (a 53), .ref (a 54), .ref (a 55)]))] := hD
        refine lv_aload_n hx hb dX10_safeWays_40 rfl (lv_at hl 0 rfl) ?_
        refine va_get (ci := 10) (v := .ref (a 6)) (C := RX10) (T := TX10) (N := 13) hx hb htA in_X10 hown hK hP 3 rfl rfl 8 (by decide) (htA _ wd_316) (fun _ h => h) rfl dX10_safeWays_41 ?_
        refine lv_iload_n hx hb dX10_safeWays_44 rfl (lv_at hl 1 rfl) ?_
        refine lv_iload_n hx hb dX10_safeWays_45 rfl (lv_at hl 2 rfl) ?_
        refine lv_iload_n hx hb dX10_safeWays_46 rfl (lv_at hl 3 rfl) ?_
        refine kVl (As := [.int 0, .int 0, .int p3]) (rest := []) (wr := [((a 53), .inl (cy 0, 61, .inl (fun _ => 0))), ((a 0), .inr (10, [.ref (a 1), .int 0, .int 0, .int (-1), .ref (a 2), .ref (a 3), .ref (a 4), .ref (a 5), .ref (a 6), .ref (a 7), .ref (a 8), .ref (a 9), .int 0])), ((a 21), .inl (cy 0, 8, .inl (fun _ => 0))), ((a 22), .inl (cy 0, 8, .inl (fun _ => 0))), ((a 23), .inl (cy 0, 8, .inl (fun _ => 0))), ((a 24), .inl (cy 0, 8, .inl (fun _ => 0))), ((a 25), .inl (cy 0, 4, .inl (fun _ => 0))), ((a 41), .inl (cy 0, 8, .inl (fun _ => 0))), ((a 42), .inl (cy 0, 8, .inl (fun _ => 0))), ((a 43), .inl (cy 0, 8, .inl (fun _ => 0))), ((a 44), .inl (cy 0, 8, .inl (fun _ => 0))), ((a 45), .inl (cy 0, 4, .inl (fun _ => 0))), ((a 3), .inr (6, [.ref (a 10), .int 0, .ref (a 21), .ref (a 22), .ref (a 23), .ref (a 24), .ref (a 25), .int 0])), ((a 52), .inl (cy 0, 61, .inl (rc 61))), ((a 5), .inr (1, [.ref (a 40), .int 0, .int 0, .ref (a 46), .ref (a 47)])), ((a 10), .inr (0, [.int 0, .int 1, .int 1, .int 0, .int 0, .ref (a 11), .ref (a 12), .ref (a 13), .null, .null])), ((a 40), .inr (6, [.ref (a 10), .int 0, .ref (a 41), .ref (a 42), .ref (a 43), .ref (a 44), .ref (a 45), .int 0]))]) hX hE (au_X9_howMany_82 l D cy a p3) (cwVA 3 htA wd_1211 wd_1208 wd_2 wd_1209 wd_1210 (by decide +kernel) ⟨by decide, by decide⟩) hP hD hS [1, 2, 15, 20] [0, 3, 4, 5, 6, 7, 8, 9, 10, 11, 12, 13, 14, 16, 17, 18, 19] rfl rfl (by decide) 3 rfl rfl rfl rfl hl.1 rfl (Nat.le_of_ble_eq_true rfl) dX10_safeWays_47 (by decide) (fun r_ W1 H locs hw hP hD hS => ?_)
        refine W.widen (k := 3) (n := 18) (by decide) (by decide) ?_
        rcases hw with ⟨g18, rfl, rfl⟩ | ⟨g19, rfl, rfl⟩ | ⟨g20, rfl, rfl⟩
        · have hP : va_P D vwCl [((a 53), .inl (cy 0, 61, .inl (fun _ => 0))), ((a 0), .inr (10, [.ref (a 1), .int 0, .int 0, .int (-1), .ref (a 2), .ref (a 3), .ref (a 4), .ref (a 5), .ref (a 6), .ref (a 7), .ref (a 8), .ref (a 9), .int 0])), ((a 21), .inl (cy 0, 8, .inl (fun _ => 0))), ((a 22), .inl (cy 0, 8, .inl (fun _ => 0))), ((a 23), .inl (cy 0, 8, .inl (fun _ => 0))), ((a 24), .inl (cy 0, 8, .inl (fun _ => 0))), ((a 25), .inl (cy 0, 4, .inl (fun _ => 0))), ((a 41), .inl (cy 0, 8, .inl (fun _ => 0))), ((a 42), .inl (cy 0, 8, .inl (fun _ => 0))), ((a 43), .inl (cy 0, 8, .inl (fun _ => 0))), ((a 44), .inl (cy 0, 8, .inl (fun _ => 0))), ((a 45), .inl (cy 0, 4, .inl (fun _ => 0))), ((a 3), .inr (6, [.ref (a 10), .int 0, .ref (a 21), .ref (a 22), .ref (a 23), .ref (a 24), .ref (a 25), .int 0])), ((a 52), .inl (cy 0, 61, .inl (rc 61))), ((a 5), .inr (1, [.ref (a 40), .int 0, .int 0, .ref (a 46), .ref (a 47)])), ((a 10), .inr (0, [.int 0, .int 1, .int 1, .int 0, .int 0, .ref (a 11), .ref (a 12), .ref (a 13), .null, .null])), ((a 40), .inr (6, [.ref (a 10), .int 0, .ref (a 41), .ref (a 42), .ref (a 43), .ref (a 44), .ref (a 45), .int 0])), ((a 54), .inl (cy 2, 6, .inr (.inl (mc)))), ((a 55), .inl (cy 2, 6, .inr (.inl (fun _ => 0)))), ((a 51), .inl (cy 0, 61, .inl (fun _ => 0))), ((a 6), .inr (9, [.int 1, .ref (a 51), .ref (a 52), .ref (a 53), .ref (a 54), .ref (a 55)]))] H := hP
          have hD : va_D A [((a 53), .inl (cy 0, 61, .inl (fun _ => 0))), ((a 0), .inr (10, [.ref (a 1), .int 0, .int 0, .int (-1), .ref (a 2), .ref (a 3), .ref (a 4), .ref (a 5), .ref (a 6), .ref (a 7), .ref (a 8), .ref (a 9), .int 0])), ((a 21), .inl (cy 0, 8, .inl (fun _ => 0))), ((a 22), .inl (cy 0, 8, .inl (fun _ => 0))), ((a 23), .inl (cy 0, 8, .inl (fun _ => 0))), ((a 24), .inl (cy 0, 8, .inl (fun _ => 0))), ((a 25), .inl (cy 0, 4, .inl (fun _ => 0))), ((a 41), .inl (cy 0, 8, .inl (fun _ => 0))), ((a 42), .inl (cy 0, 8, .inl (fun _ => 0))), ((a 43), .inl (cy 0, 8, .inl (fun _ => 0))), ((a 44), .inl (cy 0, 8, .inl (fun _ => 0))), ((a 45), .inl (cy 0, 4, .inl (fun _ => 0))), ((a 3), .inr (6, [.ref (a 10), .int 0, .ref (a 21), .ref (a 22), .ref (a 23), .ref (a 24), .ref (a 25), .int 0])), ((a 52), .inl (cy 0, 61, .inl (rc 61))), ((a 5), .inr (1, [.ref (a 40), .int 0, .int 0, .ref (a 46), .ref (a 47)])), ((a 10), .inr (0, [.int 0, .int 1, .int 1, .int 0, .int 0, .ref (a 11), .ref (a 12), .ref (a 13), .null, .null])), ((a 40), .inr (6, [.ref (a 10), .int 0, .ref (a 41), .ref (a 42), .ref (a 43), .ref (a 44), .ref (a 45), .int 0])), ((a 54), .inl (cy 2, 6, .inr (.inl (mc)))), ((a 55), .inl (cy 2, 6, .inr (.inl (fun _ => 0)))), ((a 51), .inl (cy 0, 61, .inl (fun _ => 0))), ((a 6), .inr (9, [.int 1, .ref (a 51), .ref (a 52), .ref (a 53), .ref (a 54), .ref (a 55)]))] := hD
          exact vx_ret (rL hX hE hP hD hS dX10_safeWays_50 (by decide) (by decide) (⟨(by have kg1 := g1; have kg2 := g2; have kg3 := g3; have kg7 := g7; have kg8 := g8; have kg9 := g9; have kg13 := g13; have kg14 := g14; have kg18 := g18; (try simp only [lg_cmp_lt, lg_cmp_le, lg_cmp_ge, lg_cmp_gt, lg_cmp_eq, fa_lt, fa_le, fa_eq, fa_lt64, fa_le64, fa_eq64, Int32.toInt_toInt64, li_0, lj_0, li_1, lj_1, li_20, lj_20] at kg1); (try simp only [lg_cmp_lt, lg_cmp_le, lg_cmp_ge, lg_cmp_gt, lg_cmp_eq, fa_lt, fa_le, fa_eq, fa_lt64, fa_le64, fa_eq64, Int32.toInt_toInt64, li_0, lj_0, li_1, lj_1, li_20, lj_20] at kg2); (try simp only [lg_cmp_lt, lg_cmp_le, lg_cmp_ge, lg_cmp_gt, lg_cmp_eq, fa_lt, fa_le, fa_eq, fa_lt64, fa_le64, fa_eq64, Int32.toInt_toInt64, li_0, lj_0, li_1, lj_1, li_20, lj_20] at kg3); (try simp only [lg_cmp_lt, lg_cmp_le, lg_cmp_ge, lg_cmp_gt, lg_cmp_eq, fa_lt, fa_le, fa_eq, fa_lt64, fa_le64, fa_eq64, Int32.toInt_toInt64, li_0, lj_0, li_1, lj_1, li_20, lj_20] at kg7); (try simp only [lg_cmp_lt, lg_cmp_le, lg_cmp_ge, lg_cmp_gt, lg_cmp_eq, fa_lt, fa_le, fa_eq, fa_lt64, fa_le64, fa_eq64, Int32.toInt_toInt64, li_0, lj_0, li_1, lj_1, li_20, lj_20] at kg8); (try simp only [lg_cmp_lt, lg_cmp_le, lg_cmp_ge, lg_cmp_gt, lg_cmp_eq, fa_lt, fa_le, fa_eq, fa_lt64, fa_le64, fa_eq64, Int32.toInt_toInt64, li_0, lj_0, li_1, lj_1, li_20, lj_20] at kg9); (try simp only [lg_cmp_lt, lg_cmp_le, lg_cmp_ge, lg_cmp_gt, lg_cmp_eq, fa_lt, fa_le, fa_eq, fa_lt64, fa_le64, fa_eq64, Int32.toInt_toInt64, li_0, lj_0, li_1, lj_1, li_20, lj_20] at kg13); (try simp only [lg_cmp_lt, lg_cmp_le, lg_cmp_ge, lg_cmp_gt, lg_cmp_eq, fa_lt, fa_le, fa_eq, fa_lt64, fa_le64, fa_eq64, Int32.toInt_toInt64, li_0, lj_0, li_1, lj_1, li_20, lj_20] at kg14); (try simp only [lg_cmp_lt, lg_cmp_le, lg_cmp_ge, lg_cmp_gt, lg_cmp_eq, fa_lt, fa_le, fa_eq, fa_lt64, fa_le64, fa_eq64, Int32.toInt_toInt64, li_0, lj_0, li_1, lj_1, li_20, lj_20] at kg18); first | rfl | (unfold kf_safeWays; (try simp only [li_0, and_self, and_true, true_and, if_true]); (repeat' split) <;> first | rfl | (exfalso; omega))), (by have kg1 := g1; have kg2 := g2; have kg3 := g3; have kg7 := g7; have kg8 := g8; have kg9 := g9; have kg13 := g13; have kg14 := g14; have kg18 := g18; (try simp only [lg_cmp_lt, lg_cmp_le, lg_cmp_ge, lg_cmp_gt, lg_cmp_eq, fa_lt, fa_le, fa_eq, fa_lt64, fa_le64, fa_eq64, Int32.toInt_toInt64, li_0, lj_0, li_1, lj_1, li_20, lj_20] at kg1); (try simp only [lg_cmp_lt, lg_cmp_le, lg_cmp_ge, lg_cmp_gt, lg_cmp_eq, fa_lt, fa_le, fa_eq, fa_lt64, fa_le64, fa_eq64, Int32.toInt_toInt64, li_0, lj_0, li_1, lj_1, li_20, lj_20] at kg2); (try simp only [lg_cmp_lt, lg_cmp_le, lg_cmp_ge, lg_cmp_gt, lg_cmp_eq, fa_lt, fa_le, fa_eq, fa_lt64, fa_le64, fa_eq64, Int32.toInt_toInt64, li_0, lj_0, li_1, lj_1, li_20, lj_20] at kg3); (try simp only [lg_cmp_lt, lg_cmp_le, lg_cmp_ge, lg_cmp_gt, lg_cmp_eq, fa_lt, fa_le, fa_eq, fa_lt64, fa_le64, fa_eq64, Int32.toInt_toInt64, li_0, lj_0, li_1, lj_1, li_20, lj_20] at kg7); (try simp only [lg_cmp_lt, lg_cmp_le, lg_cmp_ge, lg_cmp_gt, lg_cmp_eq, fa_lt, fa_le, fa_eq, fa_lt64, fa_le64, fa_eq64, Int32.toInt_toInt64, li_0, lj_0, li_1, lj_1, li_20, lj_20] at kg8); (try simp only [lg_cmp_lt, lg_cmp_le, lg_cmp_ge, lg_cmp_gt, lg_cmp_eq, fa_lt, fa_le, fa_eq, fa_lt64, fa_le64, fa_eq64, Int32.toInt_toInt64, li_0, lj_0, li_1, lj_1, li_20, lj_20] at kg9); (try simp only [lg_cmp_lt, lg_cmp_le, lg_cmp_ge, lg_cmp_gt, lg_cmp_eq, fa_lt, fa_le, fa_eq, fa_lt64, fa_le64, fa_eq64, Int32.toInt_toInt64, li_0, lj_0, li_1, lj_1, li_20, lj_20] at kg13); (try simp only [lg_cmp_lt, lg_cmp_le, lg_cmp_ge, lg_cmp_gt, lg_cmp_eq, fa_lt, fa_le, fa_eq, fa_lt64, fa_le64, fa_eq64, Int32.toInt_toInt64, li_0, lj_0, li_1, lj_1, li_20, lj_20] at kg14); (try simp only [lg_cmp_lt, lg_cmp_le, lg_cmp_ge, lg_cmp_gt, lg_cmp_eq, fa_lt, fa_le, fa_eq, fa_lt64, fa_le64, fa_eq64, Int32.toInt_toInt64, li_0, lj_0, li_1, lj_1, li_20, lj_20] at kg18); first | rfl | decide | (unfold vf_safeWays; (try simp only [li_0, and_self, and_true, true_and, if_true]); (repeat' split) <;> first | rfl | decide | (exfalso; omega)))⟩))
        · have hP : va_P D vwCl [((a 53), .inl (cy 0, 61, .inl (fun _ => 0))), ((a 0), .inr (10, [.ref (a 1), .int 0, .int 0, .int (-1), .ref (a 2), .ref (a 3), .ref (a 4), .ref (a 5), .ref (a 6), .ref (a 7), .ref (a 8), .ref (a 9), .int 0])), ((a 21), .inl (cy 0, 8, .inl (fun _ => 0))), ((a 22), .inl (cy 0, 8, .inl (fun _ => 0))), ((a 23), .inl (cy 0, 8, .inl (fun _ => 0))), ((a 24), .inl (cy 0, 8, .inl (fun _ => 0))), ((a 25), .inl (cy 0, 4, .inl (fun _ => 0))), ((a 41), .inl (cy 0, 8, .inl (fun _ => 0))), ((a 42), .inl (cy 0, 8, .inl (fun _ => 0))), ((a 43), .inl (cy 0, 8, .inl (fun _ => 0))), ((a 44), .inl (cy 0, 8, .inl (fun _ => 0))), ((a 45), .inl (cy 0, 4, .inl (fun _ => 0))), ((a 3), .inr (6, [.ref (a 10), .int 0, .ref (a 21), .ref (a 22), .ref (a 23), .ref (a 24), .ref (a 25), .int 0])), ((a 52), .inl (cy 0, 61, .inl (rc 61))), ((a 5), .inr (1, [.ref (a 40), .int 0, .int 0, .ref (a 46), .ref (a 47)])), ((a 10), .inr (0, [.int 0, .int 1, .int 1, .int 0, .int 0, .ref (a 11), .ref (a 12), .ref (a 13), .null, .null])), ((a 40), .inr (6, [.ref (a 10), .int 0, .ref (a 41), .ref (a 42), .ref (a 43), .ref (a 44), .ref (a 45), .int 0])), ((a 54), .inl (cy 2, 6, .inr (.inl (mc)))), ((a 51), .inl (cy 0, 61, .inl (fun _ => 0))), ((a 55), .inl (cy 2, 6, .inr (.inl (mc)))), ((a 6), .inr (9, [.int 1, .ref (a 51), .ref (a 52), .ref (a 53), .ref (a 54), .ref (a 55)]))] H := hP
          have hD : va_D A [((a 53), .inl (cy 0, 61, .inl (fun _ => 0))), ((a 0), .inr (10, [.ref (a 1), .int 0, .int 0, .int (-1), .ref (a 2), .ref (a 3), .ref (a 4), .ref (a 5), .ref (a 6), .ref (a 7), .ref (a 8), .ref (a 9), .int 0])), ((a 21), .inl (cy 0, 8, .inl (fun _ => 0))), ((a 22), .inl (cy 0, 8, .inl (fun _ => 0))), ((a 23), .inl (cy 0, 8, .inl (fun _ => 0))), ((a 24), .inl (cy 0, 8, .inl (fun _ => 0))), ((a 25), .inl (cy 0, 4, .inl (fun _ => 0))), ((a 41), .inl (cy 0, 8, .inl (fun _ => 0))), ((a 42), .inl (cy 0, 8, .inl (fun _ => 0))), ((a 43), .inl (cy 0, 8, .inl (fun _ => 0))), ((a 44), .inl (cy 0, 8, .inl (fun _ => 0))), ((a 45), .inl (cy 0, 4, .inl (fun _ => 0))), ((a 3), .inr (6, [.ref (a 10), .int 0, .ref (a 21), .ref (a 22), .ref (a 23), .ref (a 24), .ref (a 25), .int 0])), ((a 52), .inl (cy 0, 61, .inl (rc 61))), ((a 5), .inr (1, [.ref (a 40), .int 0, .int 0, .ref (a 46), .ref (a 47)])), ((a 10), .inr (0, [.int 0, .int 1, .int 1, .int 0, .int 0, .ref (a 11), .ref (a 12), .ref (a 13), .null, .null])), ((a 40), .inr (6, [.ref (a 10), .int 0, .ref (a 41), .ref (a 42), .ref (a 43), .ref (a 44), .ref (a 45), .int 0])), ((a 54), .inl (cy 2, 6, .inr (.inl (mc)))), ((a 51), .inl (cy 0, 61, .inl (fun _ => 0))), ((a 55), .inl (cy 2, 6, .inr (.inl (mc)))), ((a 6), .inr (9, [.int 1, .ref (a 51), .ref (a 52), .ref (a 53), .ref (a 54), .ref (a 55)]))] := hD
          exact vx_ret (rL hX hE hP hD hS dX10_safeWays_50 (by decide) (by decide) (⟨(by have kg1 := g1; have kg2 := g2; have kg3 := g3; have kg7 := g7; have kg8 := g8; have kg9 := g9; have kg13 := g13; have kg14 := g14; have kg19 := g19; (try simp only [lg_cmp_lt, lg_cmp_le, lg_cmp_ge, lg_cmp_gt, lg_cmp_eq, fa_lt, fa_le, fa_eq, fa_lt64, fa_le64, fa_eq64, Int32.toInt_toInt64, li_0, lj_0, li_1, lj_1, li_20, lj_20] at kg1); (try simp only [lg_cmp_lt, lg_cmp_le, lg_cmp_ge, lg_cmp_gt, lg_cmp_eq, fa_lt, fa_le, fa_eq, fa_lt64, fa_le64, fa_eq64, Int32.toInt_toInt64, li_0, lj_0, li_1, lj_1, li_20, lj_20] at kg2); (try simp only [lg_cmp_lt, lg_cmp_le, lg_cmp_ge, lg_cmp_gt, lg_cmp_eq, fa_lt, fa_le, fa_eq, fa_lt64, fa_le64, fa_eq64, Int32.toInt_toInt64, li_0, lj_0, li_1, lj_1, li_20, lj_20] at kg3); (try simp only [lg_cmp_lt, lg_cmp_le, lg_cmp_ge, lg_cmp_gt, lg_cmp_eq, fa_lt, fa_le, fa_eq, fa_lt64, fa_le64, fa_eq64, Int32.toInt_toInt64, li_0, lj_0, li_1, lj_1, li_20, lj_20] at kg7); (try simp only [lg_cmp_lt, lg_cmp_le, lg_cmp_ge, lg_cmp_gt, lg_cmp_eq, fa_lt, fa_le, fa_eq, fa_lt64, fa_le64, fa_eq64, Int32.toInt_toInt64, li_0, lj_0, li_1, lj_1, li_20, lj_20] at kg8); (try simp only [lg_cmp_lt, lg_cmp_le, lg_cmp_ge, lg_cmp_gt, lg_cmp_eq, fa_lt, fa_le, fa_eq, fa_lt64, fa_le64, fa_eq64, Int32.toInt_toInt64, li_0, lj_0, li_1, lj_1, li_20, lj_20] at kg9); (try simp only [lg_cmp_lt, lg_cmp_le, lg_cmp_ge, lg_cmp_gt, lg_cmp_eq, fa_lt, fa_le, fa_eq, fa_lt64, fa_le64, fa_eq64, Int32.toInt_toInt64, li_0, lj_0, li_1, lj_1, li_20, lj_20] at kg13); (try simp only [lg_cmp_lt, lg_cmp_le, lg_cmp_ge, lg_cmp_gt, lg_cmp_eq, fa_lt, fa_le, fa_eq, fa_lt64, fa_le64, fa_eq64, Int32.toInt_toInt64, li_0, lj_0, li_1, lj_1, li_20, lj_20] at kg14); (try simp only [lg_cmp_lt, lg_cmp_le, lg_cmp_ge, lg_cmp_gt, lg_cmp_eq, fa_lt, fa_le, fa_eq, fa_lt64, fa_le64, fa_eq64, Int32.toInt_toInt64, li_0, lj_0, li_1, lj_1, li_20, lj_20] at kg19); first | rfl | (unfold kf_safeWays; (try simp only [li_0, and_self, and_true, true_and, if_true]); (repeat' split) <;> first | rfl | (exfalso; omega))), (by have kg1 := g1; have kg2 := g2; have kg3 := g3; have kg7 := g7; have kg8 := g8; have kg9 := g9; have kg13 := g13; have kg14 := g14; have kg19 := g19; (try simp only [lg_cmp_lt, lg_cmp_le, lg_cmp_ge, lg_cmp_gt, lg_cmp_eq, fa_lt, fa_le, fa_eq, fa_lt64, fa_le64, fa_eq64, Int32.toInt_toInt64, li_0, lj_0, li_1, lj_1, li_20, lj_20] at kg1); (try simp only [lg_cmp_lt, lg_cmp_le, lg_cmp_ge, lg_cmp_gt, lg_cmp_eq, fa_lt, fa_le, fa_eq, fa_lt64, fa_le64, fa_eq64, Int32.toInt_toInt64, li_0, lj_0, li_1, lj_1, li_20, lj_20] at kg2); (try simp only [lg_cmp_lt, lg_cmp_le, lg_cmp_ge, lg_cmp_gt, lg_cmp_eq, fa_lt, fa_le, fa_eq, fa_lt64, fa_le64, fa_eq64, Int32.toInt_toInt64, li_0, lj_0, li_1, lj_1, li_20, lj_20] at kg3); (try simp only [lg_cmp_lt, lg_cmp_le, lg_cmp_ge, lg_cmp_gt, lg_cmp_eq, fa_lt, fa_le, fa_eq, fa_lt64, fa_le64, fa_eq64, Int32.toInt_toInt64, li_0, lj_0, li_1, lj_1, li_20, lj_20] at kg7); (try simp only [lg_cmp_lt, lg_cmp_le, lg_cmp_ge, lg_cmp_gt, lg_cmp_eq, fa_lt, fa_le, fa_eq, fa_lt64, fa_le64, fa_eq64, Int32.toInt_toInt64, li_0, lj_0, li_1, lj_1, li_20, lj_20] at kg8); (try simp only [lg_cmp_lt, lg_cmp_le, lg_cmp_ge, lg_cmp_gt, lg_cmp_eq, fa_lt, fa_le, fa_eq, fa_lt64, fa_le64, fa_eq64, Int32.toInt_toInt64, li_0, lj_0, li_1, lj_1, li_20, lj_20] at kg9); (try simp only [lg_cmp_lt, lg_cmp_le, lg_cmp_ge, lg_cmp_gt, lg_cmp_eq, fa_lt, fa_le, fa_eq, fa_lt64, fa_le64, fa_eq64, Int32.toInt_toInt64, li_0, lj_0, li_1, lj_1, li_20, lj_20] at kg13); (try simp only [lg_cmp_lt, lg_cmp_le, lg_cmp_ge, lg_cmp_gt, lg_cmp_eq, fa_lt, fa_le, fa_eq, fa_lt64, fa_le64, fa_eq64, Int32.toInt_toInt64, li_0, lj_0, li_1, lj_1, li_20, lj_20] at kg14); (try simp only [lg_cmp_lt, lg_cmp_le, lg_cmp_ge, lg_cmp_gt, lg_cmp_eq, fa_lt, fa_le, fa_eq, fa_lt64, fa_le64, fa_eq64, Int32.toInt_toInt64, li_0, lj_0, li_1, lj_1, li_20, lj_20] at kg19); first | rfl | decide | (unfold vf_safeWays; (try simp only [li_0, and_self, and_true, true_and, if_true]); (repeat' split) <;> first | rfl | decide | (exfalso; omega)))⟩))
        · have hP : va_P D vwCl [((a 53), .inl (cy 0, 61, .inl (fun _ => 0))), ((a 0), .inr (10, [.ref (a 1), .int 0, .int 0, .int (-1), .ref (a 2), .ref (a 3), .ref (a 4), .ref (a 5), .ref (a 6), .ref (a 7), .ref (a 8), .ref (a 9), .int 0])), ((a 21), .inl (cy 0, 8, .inl (fun _ => 0))), ((a 22), .inl (cy 0, 8, .inl (fun _ => 0))), ((a 23), .inl (cy 0, 8, .inl (fun _ => 0))), ((a 24), .inl (cy 0, 8, .inl (fun _ => 0))), ((a 25), .inl (cy 0, 4, .inl (fun _ => 0))), ((a 41), .inl (cy 0, 8, .inl (fun _ => 0))), ((a 42), .inl (cy 0, 8, .inl (fun _ => 0))), ((a 43), .inl (cy 0, 8, .inl (fun _ => 0))), ((a 44), .inl (cy 0, 8, .inl (fun _ => 0))), ((a 45), .inl (cy 0, 4, .inl (fun _ => 0))), ((a 3), .inr (6, [.ref (a 10), .int 0, .ref (a 21), .ref (a 22), .ref (a 23), .ref (a 24), .ref (a 25), .int 0])), ((a 52), .inl (cy 0, 61, .inl (rc 61))), ((a 5), .inr (1, [.ref (a 40), .int 0, .int 0, .ref (a 46), .ref (a 47)])), ((a 10), .inr (0, [.int 0, .int 1, .int 1, .int 0, .int 0, .ref (a 11), .ref (a 12), .ref (a 13), .null, .null])), ((a 40), .inr (6, [.ref (a 10), .int 0, .ref (a 41), .ref (a 42), .ref (a 43), .ref (a 44), .ref (a 45), .int 0])), ((a 54), .inl (cy 2, 6, .inr (.inl (mc)))), ((a 51), .inl (cy 0, 61, .inl (fun _ => 0))), ((a 55), .inl (cy 2, 6, .inr (.inl (mc)))), ((a 6), .inr (9, [.int 1, .ref (a 51), .ref (a 52), .ref (a 53), .ref (a 54), .ref (a 55)]))] H := hP
          have hD : va_D A [((a 53), .inl (cy 0, 61, .inl (fun _ => 0))), ((a 0), .inr (10, [.ref (a 1), .int 0, .int 0, .int (-1), .ref (a 2), .ref (a 3), .ref (a 4), .ref (a 5), .ref (a 6), .ref (a 7), .ref (a 8), .ref (a 9), .int 0])), ((a 21), .inl (cy 0, 8, .inl (fun _ => 0))), ((a 22), .inl (cy 0, 8, .inl (fun _ => 0))), ((a 23), .inl (cy 0, 8, .inl (fun _ => 0))), ((a 24), .inl (cy 0, 8, .inl (fun _ => 0))), ((a 25), .inl (cy 0, 4, .inl (fun _ => 0))), ((a 41), .inl (cy 0, 8, .inl (fun _ => 0))), ((a 42), .inl (cy 0, 8, .inl (fun _ => 0))), ((a 43), .inl (cy 0, 8, .inl (fun _ => 0))), ((a 44), .inl (cy 0, 8, .inl (fun _ => 0))), ((a 45), .inl (cy 0, 4, .inl (fun _ => 0))), ((a 3), .inr (6, [.ref (a 10), .int 0, .ref (a 21), .ref (a 22), .ref (a 23), .ref (a 24), .ref (a 25), .int 0])), ((a 52), .inl (cy 0, 61, .inl (rc 61))), ((a 5), .inr (1, [.ref (a 40), .int 0, .int 0, .ref (a 46), .ref (a 47)])), ((a 10), .inr (0, [.int 0, .int 1, .int 1, .int 0, .int 0, .ref (a 11), .ref (a 12), .ref (a 13), .null, .null])), ((a 40), .inr (6, [.ref (a 10), .int 0, .ref (a 41), .ref (a 42), .ref (a 43), .ref (a 44), .ref (a 45), .int 0])), ((a 54), .inl (cy 2, 6, .inr (.inl (mc)))), ((a 51), .inl (cy 0, 61, .inl (fun _ => 0))), ((a 55), .inl (cy 2, 6, .inr (.inl (mc)))), ((a 6), .inr (9, [.int 1, .ref (a 51), .ref (a 52), .ref (a 53), .ref (a 54), .ref (a 55)]))] := hD
          exact vx_ret (rL hX hE hP hD hS dX10_safeWays_50 (by decide) (by decide) (⟨(by have kg1 := g1; have kg2 := g2; have kg3 := g3; have kg7 := g7; have kg8 := g8; have kg9 := g9; have kg13 := g13; have kg14 := g14; have kg20 := g20; (try simp only [lg_cmp_lt, lg_cmp_le, lg_cmp_ge, lg_cmp_gt, lg_cmp_eq, fa_lt, fa_le, fa_eq, fa_lt64, fa_le64, fa_eq64, Int32.toInt_toInt64, li_0, lj_0, li_1, lj_1, li_20, lj_20] at kg1); (try simp only [lg_cmp_lt, lg_cmp_le, lg_cmp_ge, lg_cmp_gt, lg_cmp_eq, fa_lt, fa_le, fa_eq, fa_lt64, fa_le64, fa_eq64, Int32.toInt_toInt64, li_0, lj_0, li_1, lj_1, li_20, lj_20] at kg2); (try simp only [lg_cmp_lt, lg_cmp_le, lg_cmp_ge, lg_cmp_gt, lg_cmp_eq, fa_lt, fa_le, fa_eq, fa_lt64, fa_le64, fa_eq64, Int32.toInt_toInt64, li_0, lj_0, li_1, lj_1, li_20, lj_20] at kg3); (try simp only [lg_cmp_lt, lg_cmp_le, lg_cmp_ge, lg_cmp_gt, lg_cmp_eq, fa_lt, fa_le, fa_eq, fa_lt64, fa_le64, fa_eq64, Int32.toInt_toInt64, li_0, lj_0, li_1, lj_1, li_20, lj_20] at kg7); (try simp only [lg_cmp_lt, lg_cmp_le, lg_cmp_ge, lg_cmp_gt, lg_cmp_eq, fa_lt, fa_le, fa_eq, fa_lt64, fa_le64, fa_eq64, Int32.toInt_toInt64, li_0, lj_0, li_1, lj_1, li_20, lj_20] at kg8); (try simp only [lg_cmp_lt, lg_cmp_le, lg_cmp_ge, lg_cmp_gt, lg_cmp_eq, fa_lt, fa_le, fa_eq, fa_lt64, fa_le64, fa_eq64, Int32.toInt_toInt64, li_0, lj_0, li_1, lj_1, li_20, lj_20] at kg9); (try simp only [lg_cmp_lt, lg_cmp_le, lg_cmp_ge, lg_cmp_gt, lg_cmp_eq, fa_lt, fa_le, fa_eq, fa_lt64, fa_le64, fa_eq64, Int32.toInt_toInt64, li_0, lj_0, li_1, lj_1, li_20, lj_20] at kg13); (try simp only [lg_cmp_lt, lg_cmp_le, lg_cmp_ge, lg_cmp_gt, lg_cmp_eq, fa_lt, fa_le, fa_eq, fa_lt64, fa_le64, fa_eq64, Int32.toInt_toInt64, li_0, lj_0, li_1, lj_1, li_20, lj_20] at kg14); (try simp only [lg_cmp_lt, lg_cmp_le, lg_cmp_ge, lg_cmp_gt, lg_cmp_eq, fa_lt, fa_le, fa_eq, fa_lt64, fa_le64, fa_eq64, Int32.toInt_toInt64, li_0, lj_0, li_1, lj_1, li_20, lj_20] at kg20); first | rfl | (unfold kf_safeWays; (try simp only [li_0, and_self, and_true, true_and, if_true]); (repeat' split) <;> first | rfl | (exfalso; omega))), (by have kg1 := g1; have kg2 := g2; have kg3 := g3; have kg7 := g7; have kg8 := g8; have kg9 := g9; have kg13 := g13; have kg14 := g14; have kg20 := g20; (try simp only [lg_cmp_lt, lg_cmp_le, lg_cmp_ge, lg_cmp_gt, lg_cmp_eq, fa_lt, fa_le, fa_eq, fa_lt64, fa_le64, fa_eq64, Int32.toInt_toInt64, li_0, lj_0, li_1, lj_1, li_20, lj_20] at kg1); (try simp only [lg_cmp_lt, lg_cmp_le, lg_cmp_ge, lg_cmp_gt, lg_cmp_eq, fa_lt, fa_le, fa_eq, fa_lt64, fa_le64, fa_eq64, Int32.toInt_toInt64, li_0, lj_0, li_1, lj_1, li_20, lj_20] at kg2); (try simp only [lg_cmp_lt, lg_cmp_le, lg_cmp_ge, lg_cmp_gt, lg_cmp_eq, fa_lt, fa_le, fa_eq, fa_lt64, fa_le64, fa_eq64, Int32.toInt_toInt64, li_0, lj_0, li_1, lj_1, li_20, lj_20] at kg3); (try simp only [lg_cmp_lt, lg_cmp_le, lg_cmp_ge, lg_cmp_gt, lg_cmp_eq, fa_lt, fa_le, fa_eq, fa_lt64, fa_le64, fa_eq64, Int32.toInt_toInt64, li_0, lj_0, li_1, lj_1, li_20, lj_20] at kg7); (try simp only [lg_cmp_lt, lg_cmp_le, lg_cmp_ge, lg_cmp_gt, lg_cmp_eq, fa_lt, fa_le, fa_eq, fa_lt64, fa_le64, fa_eq64, Int32.toInt_toInt64, li_0, lj_0, li_1, lj_1, li_20, lj_20] at kg8); (try simp only [lg_cmp_lt, lg_cmp_le, lg_cmp_ge, lg_cmp_gt, lg_cmp_eq, fa_lt, fa_le, fa_eq, fa_lt64, fa_le64, fa_eq64, Int32.toInt_toInt64, li_0, lj_0, li_1, lj_1, li_20, lj_20] at kg9); (try simp only [lg_cmp_lt, lg_cmp_le, lg_cmp_ge, lg_cmp_gt, lg_cmp_eq, fa_lt, fa_le, fa_eq, fa_lt64, fa_le64, fa_eq64, Int32.toInt_toInt64, li_0, lj_0, li_1, lj_1, li_20, lj_20] at kg13); (try simp only [lg_cmp_lt, lg_cmp_le, lg_cmp_ge, lg_cmp_gt, lg_cmp_eq, fa_lt, fa_le, fa_eq, fa_lt64, fa_le64, fa_eq64, Int32.toInt_toInt64, li_0, lj_0, li_1, lj_1, li_20, lj_20] at kg14); (try simp only [lg_cmp_lt, lg_cmp_le, lg_cmp_ge, lg_cmp_gt, lg_cmp_eq, fa_lt, fa_le, fa_eq, fa_lt64, fa_le64, fa_eq64, Int32.toInt_toInt64, li_0, lj_0, li_1, lj_1, li_20, lj_20] at kg20); first | rfl | decide | (unfold vf_safeWays; (try simp only [li_0, and_self, and_true, true_and, if_true]); (repeat' split) <;> first | rfl | decide | (exfalso; omega)))⟩))
