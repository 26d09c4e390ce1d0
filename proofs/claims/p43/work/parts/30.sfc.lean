set_option maxHeartbeats 4000000 in
set_option maxRecDepth 100000 in
theorem sf_X0_hasPlace (l : Launch) (D : va_G) (cy : Nat → ClassId) (nd_ : Nat) (lines_ : Int32) (columns_ : Int32) (levels_ : Int32) (things_ : Int32) (walkers_ : Int32) (nw_ : Nat) (nr_ : Nat) (nq_ : Nat) (hangs_ : Value) (frees_ : Value) (c_ : Int32) (l_ : Int32) (rcolumns_ : rg (1) (6) columns_) (rlevels_ : rg (1) (9) levels_) (rthings_ : rg (0) (8) things_) (rwalkers_ : rg (0) (4) walkers_) : Ci l yX0_hasPlace cX0_hasPlace 3 (some .boolean) { frames := 0, cells := 0, slots := 0, locals := 0 } D cy [.ref nd_, .int c_, .int l_] [(nd_, .inr (0, [.int lines_, .int columns_, .int levels_, .int things_, .int walkers_, .ref nw_, .ref nr_, .ref nq_, hangs_, frees_]))] (fun r W1 => W1 = [(nd_, .inr (0, [.int lines_, .int columns_, .int levels_, .int things_, .int walkers_, .ref nw_, .ref nr_, .ref nq_, hangs_, frees_]))] ∧ rg (0) (1) r) := by
  refine Ci.of (by decide) (Nat.le_of_ble_eq_true rfl) ?_
  intro p e s m below meth c A ls hX hE hP hD hl
  obtain ⟨hx, hb, hr, hml, hown, htA, hlk⟩ := id hX
  have hK := hE.1
  have hS : va_S A s.heap s.heap [] := va_S.rf
  have hl : lv_has ls 3 [(0, .ref nd_), (1, .int c_), (2, .int l_)] := hl
  refine lv_iload_n hx hb dX0_hasPlace_0 rfl (lv_at hl 1 rfl) ?_
  refine joinT (D := D) (A := A) (pc := 29) (mL := 3) (τ := Int32) (WS := fun i => [(nd_, .inr (0, [.int lines_, .int columns_, .int levels_, .int things_, .int walkers_, .ref nw_, .ref nr_, .ref nq_, hangs_, frees_]))]) (LV := fun i => [(0, .ref nd_), (1, .int c_), (2, .int l_)]) (ST := fun i => [.int i]) (cells := 0) (slots := 0) (fun i => rg (0) (1) i) (fun v202900_ H locs ls hI hP hD hS hl => ?_) (fun j29_ => ?_)
  · have hI : rg (0) (1) v202900_ := hI
    have rv202900_ := hI
    have hP : va_P D vwCl [(nd_, .inr (0, [.int lines_, .int columns_, .int levels_, .int things_, .int walkers_, .ref nw_, .ref nr_, .ref nq_, hangs_, frees_]))] H := hP
    have hD := va_ca hP hD
    have hl : lv_has ls 3 [(0, .ref nd_), (1, .int c_), (2, .int l_)] := hl
    exact rZ hX (nz_of rv202900_) hE hP hD hS dX0_hasPlace_29 (by decide) (by decide) ⟨rfl, (rg_w rv202900_ (by decide) (by decide))⟩
  refine joinT (D := D) (A := A) (pc := 28) (mL := 3) (τ := Unit) (WS := fun i => [(nd_, .inr (0, [.int lines_, .int columns_, .int levels_, .int things_, .int walkers_, .ref nw_, .ref nr_, .ref nq_, hangs_, frees_]))]) (LV := fun i => [(0, .ref nd_), (1, .int c_), (2, .int l_)]) (ST := fun i => []) (cells := 0) (slots := 0) (fun i => True) (fun u0_ H locs ls hI hP hD hS hl => ?_) (fun j28_ => ?_)
  · have hP : va_P D vwCl [(nd_, .inr (0, [.int lines_, .int columns_, .int levels_, .int things_, .int walkers_, .ref nw_, .ref nr_, .ref nq_, hangs_, frees_]))] H := hP
    have hD := va_ca hP hD
    have hl : lv_has ls 3 [(0, .ref nd_), (1, .int c_), (2, .int l_)] := hl
    refine lv_iconst (v := 0) hx hb dX0_hasPlace_28 (by decide) ?_
    exact j29_ 0 _ _ ls (rg_w (rg_lit (by decide) : rg (0) (0) (0 : Int32)) (by decide) (by decide)) hP hD hS (lv_sub hl [0, 1, 2] rfl)
  refine lv_if_lt (tgt := 28) hx hb dX0_hasPlace_1 (by decide) (fun c1_ => ?_) (fun c1_ => ?_)
  · have g1_ : rg (-2147483648) (-1) c_ := rg_lt1 c1_ (rg_any _) (rg_lit (by decide) : rg (0) (0) (0 : Int32)) (by decide)
    exact j28_ () _ _ ls trivial hP hD hS (lv_sub hl [0, 1, 2] rfl)
  · have g2_ : rg (0) (2147483647) c_ := rg_le2 (rg_nlt c1_) (rg_lit (by decide) : rg (0) (0) (0 : Int32)) (rg_any _) (by decide)
    refine lv_iload_n hx hb dX0_hasPlace_4 rfl (lv_at hl 1 rfl) ?_
    refine lv_aload_n hx hb dX0_hasPlace_5 rfl (lv_at hl 0 rfl) ?_
    refine va_get (ci := 0) (v := .int columns_) (C := RX0) (T := TX0) (N := 10) hx hb htA in_X0 hown hK hP 0 rfl rfl 1 (by decide) (htA _ wd_77) (fun _ h => h) rfl dX0_hasPlace_6 ?_
    refine lv_icmp_ge (tgt := 28) hx hb dX0_hasPlace_9 (by decide) (fun c9_ => ?_) (fun c9_ => ?_)
    · have g3_ : rg (1) (2147483647) c_ := rg_le2 c9_ rcolumns_ g2_ (by decide)
      exact j28_ () _ _ ls trivial hP hD hS (lv_sub hl [0, 1, 2] rfl)
    · have g4_ : rg (0) (5) c_ := rg_lt1 (rg_nle c9_) g2_ rcolumns_ (by decide)
      refine lv_iload_n hx hb dX0_hasPlace_12 rfl (lv_at hl 2 rfl) ?_
      refine lv_if_lt (tgt := 28) hx hb dX0_hasPlace_13 (by decide) (fun c13_ => ?_) (fun c13_ => ?_)
      · have g5_ : rg (-2147483648) (-1) l_ := rg_lt1 c13_ (rg_any _) (rg_lit (by decide) : rg (0) (0) (0 : Int32)) (by decide)
        exact j28_ () _ _ ls trivial hP hD hS (lv_sub hl [0, 1, 2] rfl)
      · have g6_ : rg (0) (2147483647) l_ := rg_le2 (rg_nlt c13_) (rg_lit (by decide) : rg (0) (0) (0 : Int32)) (rg_any _) (by decide)
        refine lv_iload_n hx hb dX0_hasPlace_16 rfl (lv_at hl 2 rfl) ?_
        refine lv_aload_n hx hb dX0_hasPlace_17 rfl (lv_at hl 0 rfl) ?_
        refine va_get (ci := 0) (v := .int levels_) (C := RX0) (T := TX0) (N := 10) hx hb htA in_X0 hown hK hP 0 rfl rfl 2 (by decide) (htA _ wd_82) (fun _ h => h) rfl dX0_hasPlace_18 ?_
        refine lv_icmp_ge (tgt := 28) hx hb dX0_hasPlace_21 (by decide) (fun c21_ => ?_) (fun c21_ => ?_)
        · have g7_ : rg (1) (2147483647) l_ := rg_le2 c21_ rlevels_ g6_ (by decide)
          exact j28_ () _ _ ls trivial hP hD hS (lv_sub hl [0, 1, 2] rfl)
        · have g8_ : rg (0) (8) l_ := rg_lt1 (rg_nle c21_) g6_ rlevels_ (by decide)
          refine lv_iconst (v := 1) hx hb dX0_hasPlace_24 (by decide) ?_
          refine lv_goto (tgt := 29) hx hb dX0_hasPlace_25 (by decide) ?_
          exact j29_ 1 _ _ ls (rg_w (rg_lit (by decide) : rg (1) (1) (1 : Int32)) (by decide) (by decide)) hP hD hS (lv_sub hl [0, 1, 2] rfl)
set_option maxHeartbeats 4000000 in
set_option maxRecDepth 100000 in
theorem sf_X6_lying (l : Launch) (D : va_G) (cy : Nat → ClassId) (no_ : Nat) (nd_ : Nat) (hour_ : Int32) (ns_ : Nat) (nc_ : Nat) (nl_ : Nat) (nt_ : Nat) (nh_ : Nat) (fallen_ : Int32) (fs_ : Nat → Int32) (fc_ : Nat → Int32) (lines_ : Int32) (columns_ : Int32) (levels_ : Int32) (things_ : Int32) (walkers_ : Int32) (nw_ : Nat) (nr_ : Nat) (nq_ : Nat) (hangs_ : Value) (frees_ : Value) (c_ : Int32) (rcolumns_ : rg (1) (6) columns_) (rlevels_ : rg (1) (9) levels_) (rthings_ : rg (0) (8) things_) (rwalkers_ : rg (0) (4) walkers_) : Ci l yX6_lying cX6_lying 4 (some .int) { frames := 0, cells := 0, slots := 0, locals := 0 } D cy [.ref no_, .int c_] [(no_, .inr (6, [.ref nd_, .int hour_, .ref ns_, .ref nc_, .ref nl_, .ref nt_, .ref nh_, .int fallen_])), (ns_, .inl (cy 0, 8, .inl (fs_))), (nc_, .inl (cy 0, 8, .inl (fc_))), (nd_, .inr (0, [.int lines_, .int columns_, .int levels_, .int things_, .int walkers_, .ref nw_, .ref nr_, .ref nq_, hangs_, frees_]))] (fun r W1 => W1 = [(no_, .inr (6, [.ref nd_, .int hour_, .ref ns_, .ref nc_, .ref nl_, .ref nt_, .ref nh_, .int fallen_])), (ns_, .inl (cy 0, 8, .inl (fs_))), (nc_, .inl (cy 0, 8, .inl (fc_))), (nd_, .inr (0, [.int lines_, .int columns_, .int levels_, .int things_, .int walkers_, .ref nw_, .ref nr_, .ref nq_, hangs_, frees_]))]) := by
  refine Ci.of (by decide) (Nat.le_of_ble_eq_true rfl) ?_
  intro p e s m below meth c A ls hX hE hP hD hl
  obtain ⟨hx, hb, hr, hml, hown, htA, hlk⟩ := id hX
  have hK := hE.1
  have hS : va_S A s.heap s.heap [] := va_S.rf
  have hl : lv_has ls 4 [(0, .ref no_), (1, .int c_)] := hl
  refine lv_iconst (v := 0) hx hb dX6_lying_0 (by decide) ?_
  refine lv_istore_n (lv' := [(2, .int 0), (0, .ref no_), (1, .int c_)]) hx hb dX6_lying_1 rfl hl (by decide) rfl (fun ls hl => ?_)
  refine lv_iconst (v := 0) hx hb dX6_lying_2 (by decide) ?_
  refine lv_istore_n (lv' := [(3, .int 0), (2, .int 0), (0, .ref no_), (1, .int c_)]) hx hb dX6_lying_3 rfl hl (by decide) rfl (fun ls hl => ?_)
  refine loopT (τ := Int32 × Int32) (WS := fun i => [(no_, .inr (6, [.ref nd_, .int hour_, .ref ns_, .ref nc_, .ref nl_, .ref nt_, .ref nh_, .int fallen_])), (ns_, .inl (cy 0, 8, .inl (fs_))), (nc_, .inl (cy 0, 8, .inl (fc_))), (nd_, .inr (0, [.int lines_, .int columns_, .int levels_, .int things_, .int walkers_, .ref nw_, .ref nr_, .ref nq_, hangs_, frees_]))]) (LV := fun i => [(3, .int i.1), (2, .int i.2), (0, .ref no_), (1, .int c_)]) (fun i => (9 - i.1.toInt).toNat) (fun i => rg (0) (8) i.1) ?_ (0, 0) (rg_w (rg_lit (by decide) : rg (0) (0) (0 : Int32)) (by decide) (by decide)) hP hD hS (lv_sub hl [0, 1, 2, 3] rfl)
  intro i_ H locs ls hI ih4_ hP hD hS hl
  obtain ⟨v200400_, v200401_⟩ := i_
  have hI : rg (0) (8) v200400_ := hI
  have rv200400_ := hI
  have hP : va_P D vwCl [(no_, .inr (6, [.ref nd_, .int hour_, .ref ns_, .ref nc_, .ref nl_, .ref nt_, .ref nh_, .int fallen_])), (ns_, .inl (cy 0, 8, .inl (fs_))), (nc_, .inl (cy 0, 8, .inl (fc_))), (nd_, .inr (0, [.int lines_, .int columns_, .int levels_, .int things_, .int walkers_, .ref nw_, .ref nr_, .ref nq_, hangs_, frees_]))] H := hP
  have hD := va_ca hP hD
  have hl : lv_has ls 4 [(3, .int v200400_), (2, .int v200401_), (0, .ref no_), (1, .int c_)] := hl
  refine lv_iload_n hx hb dX6_lying_4 rfl (lv_at hl 0 rfl) ?_
  refine lv_aload_n hx hb dX6_lying_5 rfl (lv_at hl 2 rfl) ?_
  refine va_get (ci := 6) (v := .ref nd_) (C := RX6) (T := TX6) (N := 8) hx hb htA in_X6 hown hK hP 0 rfl rfl 0 (by decide) (htA _ wd_166) (fun _ h => h) rfl dX6_lying_6 ?_
  refine va_get (ci := 0) (v := .int things_) (C := RX0) (T := TX0) (N := 10) hx hb htA in_X0 hown hK hP 3 rfl rfl 3 (by decide) (htA _ wd_86) (fun _ h => h) rfl dX6_lying_9 ?_
  refine lv_icmp_ge (tgt := 44) hx hb dX6_lying_12 (by decide) (fun c12_ => ?_) (fun c12_ => ?_)
  · refine lv_iload_n hx hb dX6_lying_44 rfl (lv_at hl 1 rfl) ?_
    exact rI hX hE hP hD hS dX6_lying_45 (by decide) (by decide) rfl
  · have g1_ : rg (0) (7) v200400_ := rg_lt1 (rg_nle c12_) rv200400_ rthings_ (by decide)
    have g2_ : rg (1) (8) things_ := rg_lt2 (rg_nle c12_) rv200400_ rthings_ (by decide)
    refine lv_aload_n hx hb dX6_lying_15 rfl (lv_at hl 2 rfl) ?_
    refine va_get (ci := 6) (v := .ref ns_) (C := RX6) (T := TX6) (N := 8) hx hb htA in_X6 hown hK hP 0 rfl rfl 2 (by decide) (htA _ wd_174) (fun _ h => h) rfl dX6_lying_16 ?_
    refine lv_iload_n hx hb dX6_lying_19 rfl (lv_at hl 0 rfl) ?_
    refine va_iald hx hb hK hP 1 0 rfl rfl (rg_in g1_ (by decide) (by decide)) dX6_lying_20 ?_
    refine lv_topi (fun v10200_ ev10200_ => ?_)
    refine lv_iconst (v := 2) hx hb dX6_lying_21 (by decide) ?_
    refine joinT (D := D) (A := A) (pc := 38) (mL := 4) (τ := Int32) (WS := fun i => [(no_, .inr (6, [.ref nd_, .int hour_, .ref ns_, .ref nc_, .ref nl_, .ref nt_, .ref nh_, .int fallen_])), (ns_, .inl (cy 0, 8, .inl (fs_))), (nc_, .inl (cy 0, 8, .inl (fc_))), (nd_, .inr (0, [.int lines_, .int columns_, .int levels_, .int things_, .int walkers_, .ref nw_, .ref nr_, .ref nq_, hangs_, frees_]))]) (LV := fun i => [(3, .int v200400_), (2, .int i), (0, .ref no_), (1, .int c_)]) (ST := fun i => []) (cells := 0) (slots := 0) (fun i => True) (fun v203800_ H locs ls hI hP hD hS hl => ?_) (fun j38_ => ?_)
    · have hP : va_P D vwCl [(no_, .inr (6, [.ref nd_, .int hour_, .ref ns_, .ref nc_, .ref nl_, .ref nt_, .ref nh_, .int fallen_])), (ns_, .inl (cy 0, 8, .inl (fs_))), (nc_, .inl (cy 0, 8, .inl (fc_))), (nd_, .inr (0, [.int lines_, .int columns_, .int levels_, .int things_, .int walkers_, .ref nw_, .ref nr_, .ref nq_, hangs_, frees_]))] H := hP
      have hD := va_ca hP hD
      have hl : lv_has ls 4 [(3, .int v200400_), (2, .int v203800_), (0, .ref no_), (1, .int c_)] := hl
      refine lv_iinc (v := v200400_ + 1) (lv' := [(3, .int (v200400_ + 1)), (2, .int v203800_), (0, .ref no_), (1, .int c_)]) hx hb dX6_lying_38 hl (k := 0) rfl rfl (by decide) rfl (fun ls hl => ?_)
      have g3_ : rg (1) (8) (v200400_ + 1) := rg_add g1_ (rg_lit (by decide) : rg (1) (1) (1 : Int32)) (by decide) (by decide) (by decide) (by decide)
      refine lv_goto (tgt := 4) hx hb dX6_lying_41 (by decide) ?_
      exact ih4_ (v200400_ + 1, v203800_) _ _ ls (rg_w g3_ (by decide) (by decide)) (show (9 - (v200400_ + 1).toInt).toNat < (9 - v200400_.toInt).toNat from by rw [show (v200400_ + 1).toInt = v200400_.toInt + 1 from inc32 v200400_ (by have hq := (rv200400_).2; omega)]; have hq := (g1_).1; have hq2 := (g1_).2; omega) hP hD hS (lv_sub hl [0, 1, 2, 3] rfl)
    refine lv_icmp_ne (tgt := 38) hx hb dX6_lying_22 (by decide) (fun c22_ => ?_) (fun c22_ => ?_)
    · exact j38_ v200401_ _ _ ls trivial hP hD hS (lv_sub hl [0, 1, 2, 3] rfl)
    · have g4_ : rg (2) (2) v10200_ := rg_eq c22_ (rg_lit (by decide) : rg (2) (2) (2 : Int32))
      refine lv_aload_n hx hb dX6_lying_25 rfl (lv_at hl 2 rfl) ?_
      refine va_get (ci := 6) (v := .ref nc_) (C := RX6) (T := TX6) (N := 8) hx hb htA in_X6 hown hK hP 0 rfl rfl 3 (by decide) (htA _ wd_178) (fun _ h => h) rfl dX6_lying_26 ?_
      refine lv_iload_n hx hb dX6_lying_29 rfl (lv_at hl 0 rfl) ?_
      refine va_iald hx hb hK hP 2 0 rfl rfl (rg_in g1_ (by decide) (by decide)) dX6_lying_30 ?_
      refine lv_topi (fun v10300_ ev10300_ => ?_)
      refine lv_iload_n hx hb dX6_lying_31 rfl (lv_at hl 3 rfl) ?_
      refine lv_icmp_ne (tgt := 38) hx hb dX6_lying_32 (by decide) (fun c32_ => ?_) (fun c32_ => ?_)
      · exact j38_ v200401_ _ _ ls trivial hP hD hS (lv_sub hl [0, 1, 2, 3] rfl)
      · refine lv_iinc (v := v200401_ + 1) (lv' := [(2, .int (v200401_ + 1)), (3, .int v200400_), (0, .ref no_), (1, .int c_)]) hx hb dX6_lying_35 hl (k := 1) rfl rfl (by decide) rfl (fun ls hl => ?_)
        exact j38_ (v200401_ + 1) _ _ ls trivial hP hD hS (lv_sub hl [1, 0, 2, 3] rfl)
set_option maxHeartbeats 4000000 in
set_option maxRecDepth 100000 in
theorem sf_X6_thingAt (l : Launch) (D : va_G) (cy : Nat → ClassId) (no_ : Nat) (nd_ : Nat) (hour_ : Int32) (ns_ : Nat) (nc_ : Nat) (nl_ : Nat) (nt_ : Nat) (nh_ : Nat) (fallen_ : Int32) (fs_ : Nat → Int32) (fc_ : Nat → Int32) (fl_ : Nat → Int32) (lines_ : Int32) (columns_ : Int32) (levels_ : Int32) (things_ : Int32) (walkers_ : Int32) (nw_ : Nat) (nr_ : Nat) (nq_ : Nat) (hangs_ : Value) (frees_ : Value) (c_ : Int32) (l_ : Int32) (rcolumns_ : rg (1) (6) columns_) (rlevels_ : rg (1) (9) levels_) (rthings_ : rg (0) (8) things_) (rwalkers_ : rg (0) (4) walkers_) : Ci l yX6_thingAt cX6_thingAt 4 (some .int) { frames := 0, cells := 0, slots := 0, locals := 0 } D cy [.ref no_, .int c_, .int l_] [(no_, .inr (6, [.ref nd_, .int hour_, .ref ns_, .ref nc_, .ref nl_, .ref nt_, .ref nh_, .int fallen_])), (ns_, .inl (cy 0, 8, .inl (fs_))), (nc_, .inl (cy 0, 8, .inl (fc_))), (nl_, .inl (cy 0, 8, .inl (fl_))), (nd_, .inr (0, [.int lines_, .int columns_, .int levels_, .int things_, .int walkers_, .ref nw_, .ref nr_, .ref nq_, hangs_, frees_]))] (fun r W1 => W1 = [(no_, .inr (6, [.ref nd_, .int hour_, .ref ns_, .ref nc_, .ref nl_, .ref nt_, .ref nh_, .int fallen_])), (ns_, .inl (cy 0, 8, .inl (fs_))), (nc_, .inl (cy 0, 8, .inl (fc_))), (nl_, .inl (cy 0, 8, .inl (fl_))), (nd_, .inr (0, [.int lines_, .int columns_, .int levels_, .int things_, .int walkers_, .ref nw_, .ref nr_, .ref nq_, hangs_, frees_]))] ∧ rg (-1) (7) r) := by
  refine Ci.of (by decide) (Nat.le_of_ble_eq_true rfl) ?_
  intro p e s m below meth c A ls hX hE hP hD hl
  obtain ⟨hx, hb, hr, hml, hown, htA, hlk⟩ := id hX
  have hK := hE.1
  have hS : va_S A s.heap s.heap [] := va_S.rf
  have hl : lv_has ls 4 [(0, .ref no_), (1, .int c_), (2, .int l_)] := hl
  refine lv_iconst (v := 0) hx hb dX6_thingAt_0 (by decide) ?_
  refine lv_istore_n (lv' := [(3, .int 0), (0, .ref no_), (1, .int c_), (2, .int l_)]) hx hb dX6_thingAt_1 rfl hl (by decide) rfl (fun ls hl => ?_)
  refine loopT (τ := Int32) (WS := fun i => [(no_, .inr (6, [.ref nd_, .int hour_, .ref ns_, .ref nc_, .ref nl_, .ref nt_, .ref nh_, .int fallen_])), (ns_, .inl (cy 0, 8, .inl (fs_))), (nc_, .inl (cy 0, 8, .inl (fc_))), (nl_, .inl (cy 0, 8, .inl (fl_))), (nd_, .inr (0, [.int lines_, .int columns_, .int levels_, .int things_, .int walkers_, .ref nw_, .ref nr_, .ref nq_, hangs_, frees_]))]) (LV := fun i => [(3, .int i), (0, .ref no_), (1, .int c_), (2, .int l_)]) (fun i => (9 - i.toInt).toNat) (fun i => rg (0) (8) i) ?_ 0 (rg_w (rg_lit (by decide) : rg (0) (0) (0 : Int32)) (by decide) (by decide)) hP hD hS (lv_sub hl [0, 1, 2, 3] rfl)
  intro v200200_ H locs ls hI ih2_ hP hD hS hl
  have hI : rg (0) (8) v200200_ := hI
  have rv200200_ := hI
  have hP : va_P D vwCl [(no_, .inr (6, [.ref nd_, .int hour_, .ref ns_, .ref nc_, .ref nl_, .ref nt_, .ref nh_, .int fallen_])), (ns_, .inl (cy 0, 8, .inl (fs_))), (nc_, .inl (cy 0, 8, .inl (fc_))), (nl_, .inl (cy 0, 8, .inl (fl_))), (nd_, .inr (0, [.int lines_, .int columns_, .int levels_, .int things_, .int walkers_, .ref nw_, .ref nr_, .ref nq_, hangs_, frees_]))] H := hP
  have hD := va_ca hP hD
  have hl : lv_has ls 4 [(3, .int v200200_), (0, .ref no_), (1, .int c_), (2, .int l_)] := hl
  refine lv_iload_n hx hb dX6_thingAt_2 rfl (lv_at hl 0 rfl) ?_
  refine lv_aload_n hx hb dX6_thingAt_3 rfl (lv_at hl 1 rfl) ?_
  refine va_get (ci := 6) (v := .ref nd_) (C := RX6) (T := TX6) (N := 8) hx hb htA in_X6 hown hK hP 0 rfl rfl 0 (by decide) (htA _ wd_166) (fun _ h => h) rfl dX6_thingAt_4 ?_
  refine va_get (ci := 0) (v := .int things_) (C := RX0) (T := TX0) (N := 10) hx hb htA in_X0 hown hK hP 4 rfl rfl 3 (by decide) (htA _ wd_86) (fun _ h => h) rfl dX6_thingAt_7 ?_
  refine lv_icmp_ge (tgt := 50) hx hb dX6_thingAt_10 (by decide) (fun c10_ => ?_) (fun c10_ => ?_)
  · refine lv_iconst (v := (-1)) hx hb dX6_thingAt_50 (by decide) ?_
    exact rI hX hE hP hD hS dX6_thingAt_51 (by decide) (by decide) ⟨rfl, (rg_w (rg_lit (by decide) : rg (-1) (-1) ((-1) : Int32)) (by decide) (by decide))⟩
  · have g1_ : rg (0) (7) v200200_ := rg_lt1 (rg_nle c10_) rv200200_ rthings_ (by decide)
    have g2_ : rg (1) (8) things_ := rg_lt2 (rg_nle c10_) rv200200_ rthings_ (by decide)
    refine lv_aload_n hx hb dX6_thingAt_13 rfl (lv_at hl 1 rfl) ?_
    refine va_get (ci := 6) (v := .ref ns_) (C := RX6) (T := TX6) (N := 8) hx hb htA in_X6 hown hK hP 0 rfl rfl 2 (by decide) (htA _ wd_174) (fun _ h => h) rfl dX6_thingAt_14 ?_
    refine lv_iload_n hx hb dX6_thingAt_17 rfl (lv_at hl 0 rfl) ?_
    refine va_iald hx hb hK hP 1 0 rfl rfl (rg_in g1_ (by decide) (by decide)) dX6_thingAt_18 ?_
    refine lv_topi (fun v10180_ ev10180_ => ?_)
    refine joinT (D := D) (A := A) (pc := 44) (mL := 4) (τ := Unit) (WS := fun i => [(no_, .inr (6, [.ref nd_, .int hour_, .ref ns_, .ref nc_, .ref nl_, .ref nt_, .ref nh_, .int fallen_])), (ns_, .inl (cy 0, 8, .inl (fs_))), (nc_, .inl (cy 0, 8, .inl (fc_))), (nl_, .inl (cy 0, 8, .inl (fl_))), (nd_, .inr (0, [.int lines_, .int columns_, .int levels_, .int things_, .int walkers_, .ref nw_, .ref nr_, .ref nq_, hangs_, frees_]))]) (LV := fun i => [(3, .int v200200_), (0, .ref no_), (1, .int c_), (2, .int l_)]) (ST := fun i => []) (cells := 0) (slots := 0) (fun i => True) (fun u0_ H locs ls hI hP hD hS hl => ?_) (fun j44_ => ?_)
    · have hP : va_P D vwCl [(no_, .inr (6, [.ref nd_, .int hour_, .ref ns_, .ref nc_, .ref nl_, .ref nt_, .ref nh_, .int fallen_])), (ns_, .inl (cy 0, 8, .inl (fs_))), (nc_, .inl (cy 0, 8, .inl (fc_))), (nl_, .inl (cy 0, 8, .inl (fl_))), (nd_, .inr (0, [.int lines_, .int columns_, .int levels_, .int things_, .int walkers_, .ref nw_, .ref nr_, .ref nq_, hangs_, frees_]))] H := hP
      have hD := va_ca hP hD
      have hl : lv_has ls 4 [(3, .int v200200_), (0, .ref no_), (1, .int c_), (2, .int l_)] := hl
      refine lv_iinc (v := v200200_ + 1) (lv' := [(3, .int (v200200_ + 1)), (0, .ref no_), (1, .int c_), (2, .int l_)]) hx hb dX6_thingAt_44 hl (k := 0) rfl rfl (by decide) rfl (fun ls hl => ?_)
      have g3_ : rg (1) (8) (v200200_ + 1) := rg_add g1_ (rg_lit (by decide) : rg (1) (1) (1 : Int32)) (by decide) (by decide) (by decide) (by decide)
      refine lv_goto (tgt := 2) hx hb dX6_thingAt_47 (by decide) ?_
      exact ih2_ (v200200_ + 1) _ _ ls (rg_w g3_ (by decide) (by decide)) (show (9 - (v200200_ + 1).toInt).toNat < (9 - v200200_.toInt).toNat from by rw [show (v200200_ + 1).toInt = v200200_.toInt + 1 from inc32 v200200_ (by have hq := (rv200200_).2; omega)]; have hq := (g1_).1; have hq2 := (g1_).2; omega) hP hD hS (lv_sub hl [0, 1, 2, 3] rfl)
    refine lv_if_eq (tgt := 44) hx hb dX6_thingAt_19 (by decide) (fun c19_ => ?_) (fun c19_ => ?_)
    · have g4_ : rg (0) (0) v10180_ := rg_eq c19_ (rg_lit (by decide) : rg (0) (0) (0 : Int32))
      exact j44_ () _ _ ls trivial hP hD hS (lv_sub hl [0, 1, 2, 3] rfl)
    · refine lv_aload_n hx hb dX6_thingAt_22 rfl (lv_at hl 1 rfl) ?_
      refine va_get (ci := 6) (v := .ref nc_) (C := RX6) (T := TX6) (N := 8) hx hb htA in_X6 hown hK hP 0 rfl rfl 3 (by decide) (htA _ wd_178) (fun _ h => h) rfl dX6_thingAt_23 ?_
      refine lv_iload_n hx hb dX6_thingAt_26 rfl (lv_at hl 0 rfl) ?_
      refine va_iald hx hb hK hP 2 0 rfl rfl (rg_in g1_ (by decide) (by decide)) dX6_thingAt_27 ?_
      refine lv_topi (fun v10270_ ev10270_ => ?_)
      refine lv_iload_n hx hb dX6_thingAt_28 rfl (lv_at hl 2 rfl) ?_
      refine lv_icmp_ne (tgt := 44) hx hb dX6_thingAt_29 (by decide) (fun c29_ => ?_) (fun c29_ => ?_)
      · exact j44_ () _ _ ls trivial hP hD hS (lv_sub hl [0, 1, 2, 3] rfl)
      · refine lv_aload_n hx hb dX6_thingAt_32 rfl (lv_at hl 1 rfl) ?_
        refine va_get (ci := 6) (v := .ref nl_) (C := RX6) (T := TX6) (N := 8) hx hb htA in_X6 hown hK hP 0 rfl rfl 4 (by decide) (htA _ wd_181) (fun _ h => h) rfl dX6_thingAt_33 ?_
        refine lv_iload_n hx hb dX6_thingAt_36 rfl (lv_at hl 0 rfl) ?_
        refine va_iald hx hb hK hP 3 0 rfl rfl (rg_in g1_ (by decide) (by decide)) dX6_thingAt_37 ?_
        refine lv_topi (fun v10370_ ev10370_ => ?_)
        refine lv_iload_n hx hb dX6_thingAt_38 rfl (lv_at hl 3 rfl) ?_
        refine lv_icmp_ne (tgt := 44) hx hb dX6_thingAt_39 (by decide) (fun c39_ => ?_) (fun c39_ => ?_)
        · exact j44_ () _ _ ls trivial hP hD hS (lv_sub hl [0, 1, 2, 3] rfl)
        · refine lv_iload_n hx hb dX6_thingAt_42 rfl (lv_at hl 0 rfl) ?_
          exact rI hX hE hP hD hS dX6_thingAt_43 (by decide) (by decide) ⟨rfl, (rg_w g1_ (by decide) (by decide))⟩
set_option maxHeartbeats 4000000 in
set_option maxRecDepth 100000 in
theorem sf_X6_countOf (l : Launch) (D : va_G) (cy : Nat → ClassId) (no_ : Nat) (nd_ : Nat) (hour_ : Int32) (ns_ : Nat) (nc_ : Nat) (nl_ : Nat) (nt_ : Nat) (nh_ : Nat) (fallen_ : Int32) (fs_ : Nat → Int32) (lines_ : Int32) (columns_ : Int32) (levels_ : Int32) (things_ : Int32) (walkers_ : Int32) (nw_ : Nat) (nr_ : Nat) (nq_ : Nat) (hangs_ : Value) (frees_ : Value) (c_ : Int32) (rcolumns_ : rg (1) (6) columns_) (rlevels_ : rg (1) (9) levels_) (rthings_ : rg (0) (8) things_) (rwalkers_ : rg (0) (4) walkers_) : Ci l yX6_countOf cX6_countOf 4 (some .int) { frames := 0, cells := 0, slots := 0, locals := 0 } D cy [.ref no_, .int c_] [(no_, .inr (6, [.ref nd_, .int hour_, .ref ns_, .ref nc_, .ref nl_, .ref nt_, .ref nh_, .int fallen_])), (ns_, .inl (cy 0, 8, .inl (fs_))), (nd_, .inr (0, [.int lines_, .int columns_, .int levels_, .int things_, .int walkers_, .ref nw_, .ref nr_, .ref nq_, hangs_, frees_]))] (fun r W1 => W1 = [(no_, .inr (6, [.ref nd_, .int hour_, .ref ns_, .ref nc_, .ref nl_, .ref nt_, .ref nh_, .int fallen_])), (ns_, .inl (cy 0, 8, .inl (fs_))), (nd_, .inr (0, [.int lines_, .int columns_, .int levels_, .int things_, .int walkers_, .ref nw_, .ref nr_, .ref nq_, hangs_, frees_]))]) := by
  refine Ci.of (by decide) (Nat.le_of_ble_eq_true rfl) ?_
  intro p e s m below meth c A ls hX hE hP hD hl
  obtain ⟨hx, hb, hr, hml, hown, htA, hlk⟩ := id hX
  have hK := hE.1
  have hS : va_S A s.heap s.heap [] := va_S.rf
  have hl : lv_has ls 4 [(0, .ref no_), (1, .int c_)] := hl
  refine lv_iconst (v := 0) hx hb dX6_countOf_0 (by decide) ?_
  refine lv_istore_n (lv' := [(2, .int 0), (0, .ref no_), (1, .int c_)]) hx hb dX6_countOf_1 rfl hl (by decide) rfl (fun ls hl => ?_)
  refine lv_iconst (v := 0) hx hb dX6_countOf_2 (by decide) ?_
  refine lv_istore_n (lv' := [(3, .int 0), (2, .int 0), (0, .ref no_), (1, .int c_)]) hx hb dX6_countOf_3 rfl hl (by decide) rfl (fun ls hl => ?_)
  refine loopT (τ := Int32 × Int32) (WS := fun i => [(no_, .inr (6, [.ref nd_, .int hour_, .ref ns_, .ref nc_, .ref nl_, .ref nt_, .ref nh_, .int fallen_])), (ns_, .inl (cy 0, 8, .inl (fs_))), (nd_, .inr (0, [.int lines_, .int columns_, .int levels_, .int things_, .int walkers_, .ref nw_, .ref nr_, .ref nq_, hangs_, frees_]))]) (LV := fun i => [(3, .int i.1), (2, .int i.2), (0, .ref no_), (1, .int c_)]) (fun i => (9 - i.1.toInt).toNat) (fun i => rg (0) (8) i.1) ?_ (0, 0) (rg_w (rg_lit (by decide) : rg (0) (0) (0 : Int32)) (by decide) (by decide)) hP hD hS (lv_sub hl [0, 1, 2, 3] rfl)
  intro i_ H locs ls hI ih4_ hP hD hS hl
  obtain ⟨v200400_, v200401_⟩ := i_
  have hI : rg (0) (8) v200400_ := hI
  have rv200400_ := hI
  have hP : va_P D vwCl [(no_, .inr (6, [.ref nd_, .int hour_, .ref ns_, .ref nc_, .ref nl_, .ref nt_, .ref nh_, .int fallen_])), (ns_, .inl (cy 0, 8, .inl (fs_))), (nd_, .inr (0, [.int lines_, .int columns_, .int levels_, .int things_, .int walkers_, .ref nw_, .ref nr_, .ref nq_, hangs_, frees_]))] H := hP
  have hD := va_ca hP hD
  have hl : lv_has ls 4 [(3, .int v200400_), (2, .int v200401_), (0, .ref no_), (1, .int c_)] := hl
  refine lv_iload_n hx hb dX6_countOf_4 rfl (lv_at hl 0 rfl) ?_
  refine lv_aload_n hx hb dX6_countOf_5 rfl (lv_at hl 2 rfl) ?_
  refine va_get (ci := 6) (v := .ref nd_) (C := RX6) (T := TX6) (N := 8) hx hb htA in_X6 hown hK hP 0 rfl rfl 0 (by decide) (htA _ wd_166) (fun _ h => h) rfl dX6_countOf_6 ?_
  refine va_get (ci := 0) (v := .int things_) (C := RX0) (T := TX0) (N := 10) hx hb htA in_X0 hown hK hP 2 rfl rfl 3 (by decide) (htA _ wd_86) (fun _ h => h) rfl dX6_countOf_9 ?_
  refine lv_icmp_ge (tgt := 34) hx hb dX6_countOf_12 (by decide) (fun c12_ => ?_) (fun c12_ => ?_)
  · refine lv_iload_n hx hb dX6_countOf_34 rfl (lv_at hl 1 rfl) ?_
    exact rI hX hE hP hD hS dX6_countOf_35 (by decide) (by decide) rfl
  · have g1_ : rg (0) (7) v200400_ := rg_lt1 (rg_nle c12_) rv200400_ rthings_ (by decide)
    have g2_ : rg (1) (8) things_ := rg_lt2 (rg_nle c12_) rv200400_ rthings_ (by decide)
    refine lv_aload_n hx hb dX6_countOf_15 rfl (lv_at hl 2 rfl) ?_
    refine va_get (ci := 6) (v := .ref ns_) (C := RX6) (T := TX6) (N := 8) hx hb htA in_X6 hown hK hP 0 rfl rfl 2 (by decide) (htA _ wd_174) (fun _ h => h) rfl dX6_countOf_16 ?_
    refine lv_iload_n hx hb dX6_countOf_19 rfl (lv_at hl 0 rfl) ?_
    refine va_iald hx hb hK hP 1 0 rfl rfl (rg_in g1_ (by decide) (by decide)) dX6_countOf_20 ?_
    refine lv_topi (fun v10200_ ev10200_ => ?_)
    refine lv_iload_n hx hb dX6_countOf_21 rfl (lv_at hl 3 rfl) ?_
    refine joinT (D := D) (A := A) (pc := 28) (mL := 4) (τ := Int32) (WS := fun i => [(no_, .inr (6, [.ref nd_, .int hour_, .ref ns_, .ref nc_, .ref nl_, .ref nt_, .ref nh_, .int fallen_])), (ns_, .inl (cy 0, 8, .inl (fs_))), (nd_, .inr (0, [.int lines_, .int columns_, .int levels_, .int things_, .int walkers_, .ref nw_, .ref nr_, .ref nq_, hangs_, frees_]))]) (LV := fun i => [(3, .int v200400_), (2, .int i), (0, .ref no_), (1, .int c_)]) (ST := fun i => []) (cells := 0) (slots := 0) (fun i => True) (fun v202800_ H locs ls hI hP hD hS hl => ?_) (fun j28_ => ?_)
    · have hP : va_P D vwCl [(no_, .inr (6, [.ref nd_, .int hour_, .ref ns_, .ref nc_, .ref nl_, .ref nt_, .ref nh_, .int fallen_])), (ns_, .inl (cy 0, 8, .inl (fs_))), (nd_, .inr (0, [.int lines_, .int columns_, .int levels_, .int things_, .int walkers_, .ref nw_, .ref nr_, .ref nq_, hangs_, frees_]))] H := hP
      have hD := va_ca hP hD
      have hl : lv_has ls 4 [(3, .int v200400_), (2, .int v202800_), (0, .ref no_), (1, .int c_)] := hl
      refine lv_iinc (v := v200400_ + 1) (lv' := [(3, .int (v200400_ + 1)), (2, .int v202800_), (0, .ref no_), (1, .int c_)]) hx hb dX6_countOf_28 hl (k := 0) rfl rfl (by decide) rfl (fun ls hl => ?_)
      have g3_ : rg (1) (8) (v200400_ + 1) := rg_add g1_ (rg_lit (by decide) : rg (1) (1) (1 : Int32)) (by decide) (by decide) (by decide) (by decide)
      refine lv_goto (tgt := 4) hx hb dX6_countOf_31 (by decide) ?_
      exact ih4_ (v200400_ + 1, v202800_) _ _ ls (rg_w g3_ (by decide) (by decide)) (show (9 - (v200400_ + 1).toInt).toNat < (9 - v200400_.toInt).toNat from by rw [show (v200400_ + 1).toInt = v200400_.toInt + 1 from inc32 v200400_ (by have hq := (rv200400_).2; omega)]; have hq := (g1_).1; have hq2 := (g1_).2; omega) hP hD hS (lv_sub hl [0, 1, 2, 3] rfl)
    refine lv_icmp_ne (tgt := 28) hx hb dX6_countOf_22 (by decide) (fun c22_ => ?_) (fun c22_ => ?_)
    · exact j28_ v200401_ _ _ ls trivial hP hD hS (lv_sub hl [0, 1, 2, 3] rfl)
    · refine lv_iinc (v := v200401_ + 1) (lv' := [(2, .int (v200401_ + 1)), (3, .int v200400_), (0, .ref no_), (1, .int c_)]) hx hb dX6_countOf_25 hl (k := 1) rfl rfl (by decide) rfl (fun ls hl => ?_)
      exact j28_ (v200401_ + 1) _ _ ls trivial hP hD hS (lv_sub hl [1, 0, 2, 3] rfl)
set_option maxHeartbeats 4000000 in
set_option maxRecDepth 100000 in
theorem sf_X6_totalHurt (l : Launch) (D : va_G) (cy : Nat → ClassId) (no_ : Nat) (nd_ : Nat) (hour_ : Int32) (ns_ : Nat) (nc_ : Nat) (nl_ : Nat) (nt_ : Nat) (nh_ : Nat) (fallen_ : Int32) (fh_ : Nat → Int32) (lines_ : Int32) (columns_ : Int32) (levels_ : Int32) (things_ : Int32) (walkers_ : Int32) (nw_ : Nat) (nr_ : Nat) (nq_ : Nat) (hangs_ : Value) (frees_ : Value) (rcolumns_ : rg (1) (6) columns_) (rlevels_ : rg (1) (9) levels_) (rthings_ : rg (0) (8) things_) (rwalkers_ : rg (0) (4) walkers_) : Ci l yX6_totalHurt cX6_totalHurt 3 (some .int) { frames := 0, cells := 0, slots := 0, locals := 0 } D cy [.ref no_] [(no_, .inr (6, [.ref nd_, .int hour_, .ref ns_, .ref nc_, .ref nl_, .ref nt_, .ref nh_, .int fallen_])), (nh_, .inl (cy 0, 4, .inl (fh_))), (nd_, .inr (0, [.int lines_, .int columns_, .int levels_, .int things_, .int walkers_, .ref nw_, .ref nr_, .ref nq_, hangs_, frees_]))] (fun r W1 => W1 = [(no_, .inr (6, [.ref nd_, .int hour_, .ref ns_, .ref nc_, .ref nl_, .ref nt_, .ref nh_, .int fallen_])), (nh_, .inl (cy 0, 4, .inl (fh_))), (nd_, .inr (0, [.int lines_, .int columns_, .int levels_, .int things_, .int walkers_, .ref nw_, .ref nr_, .ref nq_, hangs_, frees_]))]) := by
  refine Ci.of (by decide) (Nat.le_of_ble_eq_true rfl) ?_
  intro p e s m below meth c A ls hX hE hP hD hl
  obtain ⟨hx, hb, hr, hml, hown, htA, hlk⟩ := id hX
  have hK := hE.1
  have hS : va_S A s.heap s.heap [] := va_S.rf
  have hl : lv_has ls 3 [(0, .ref no_)] := hl
  refine lv_iconst (v := 0) hx hb dX6_totalHurt_0 (by decide) ?_
  refine lv_istore_n (lv' := [(1, .int 0), (0, .ref no_)]) hx hb dX6_totalHurt_1 rfl hl (by decide) rfl (fun ls hl => ?_)
  refine lv_iconst (v := 0) hx hb dX6_totalHurt_2 (by decide) ?_
  refine lv_istore_n (lv' := [(2, .int 0), (1, .int 0), (0, .ref no_)]) hx hb dX6_totalHurt_3 rfl hl (by decide) rfl (fun ls hl => ?_)
  refine loopT (τ := Int32 × Int32) (WS := fun i => [(no_, .inr (6, [.ref nd_, .int hour_, .ref ns_, .ref nc_, .ref nl_, .ref nt_, .ref nh_, .int fallen_])), (nh_, .inl (cy 0, 4, .inl (fh_))), (nd_, .inr (0, [.int lines_, .int columns_, .int levels_, .int things_, .int walkers_, .ref nw_, .ref nr_, .ref nq_, hangs_, frees_]))]) (LV := fun i => [(2, .int i.1), (1, .int i.2), (0, .ref no_)]) (fun i => (5 - i.1.toInt).toNat) (fun i => rg (0) (4) i.1) ?_ (0, 0) (rg_w (rg_lit (by decide) : rg (0) (0) (0 : Int32)) (by decide) (by decide)) hP hD hS (lv_sub hl [0, 1, 2] rfl)
  intro i_ H locs ls hI ih4_ hP hD hS hl
  obtain ⟨v200400_, v200401_⟩ := i_
  have hI : rg (0) (4) v200400_ := hI
  have rv200400_ := hI
  have hP : va_P D vwCl [(no_, .inr (6, [.ref nd_, .int hour_, .ref ns_, .ref nc_, .ref nl_, .ref nt_, .ref nh_, .int fallen_])), (nh_, .inl (cy 0, 4, .inl (fh_))), (nd_, .inr (0, [.int lines_, .int columns_, .int levels_, .int things_, .int walkers_, .ref nw_, .ref nr_, .ref nq_, hangs_, frees_]))] H := hP
  have hD := va_ca hP hD
  have hl : lv_has ls 3 [(2, .int v200400_), (1, .int v200401_), (0, .ref no_)] := hl
  refine lv_iload_n hx hb dX6_totalHurt_4 rfl (lv_at hl 0 rfl) ?_
  refine lv_aload_n hx hb dX6_totalHurt_5 rfl (lv_at hl 2 rfl) ?_
  refine va_get (ci := 6) (v := .ref nd_) (C := RX6) (T := TX6) (N := 8) hx hb htA in_X6 hown hK hP 0 rfl rfl 0 (by decide) (htA _ wd_166) (fun _ h => h) rfl dX6_totalHurt_6 ?_
  refine va_get (ci := 0) (v := .int walkers_) (C := RX0) (T := TX0) (N := 10) hx hb htA in_X0 hown hK hP 2 rfl rfl 4 (by decide) (htA _ wd_90) (fun _ h => h) rfl dX6_totalHurt_9 ?_
  refine lv_icmp_ge (tgt := 30) hx hb dX6_totalHurt_12 (by decide) (fun c12_ => ?_) (fun c12_ => ?_)
  · refine lv_iload_n hx hb dX6_totalHurt_30 rfl (lv_at hl 1 rfl) ?_
    exact rI hX hE hP hD hS dX6_totalHurt_31 (by decide) (by decide) rfl
  · have g1_ : rg (0) (3) v200400_ := rg_lt1 (rg_nle c12_) rv200400_ rwalkers_ (by decide)
    have g2_ : rg (1) (4) walkers_ := rg_lt2 (rg_nle c12_) rv200400_ rwalkers_ (by decide)
    refine lv_iload_n hx hb dX6_totalHurt_15 rfl (lv_at hl 1 rfl) ?_
    refine lv_aload_n hx hb dX6_totalHurt_16 rfl (lv_at hl 2 rfl) ?_
    refine va_get (ci := 6) (v := .ref nh_) (C := RX6) (T := TX6) (N := 8) hx hb htA in_X6 hown hK hP 0 rfl rfl 6 (by decide) (htA _ wd_187) (fun _ h => h) rfl dX6_totalHurt_17 ?_
    refine lv_iload_n hx hb dX6_totalHurt_20 rfl (lv_at hl 0 rfl) ?_
    refine va_iald hx hb hK hP 1 0 rfl rfl (rg_in g1_ (by decide) (by decide)) dX6_totalHurt_21 ?_
    refine lv_topi (fun v10210_ ev10210_ => ?_)
    refine lv_iadd hx hb dX6_totalHurt_22 ?_
    refine lv_istore_n (lv' := [(1, .int (v200401_ + v10210_)), (2, .int v200400_), (0, .ref no_)]) hx hb dX6_totalHurt_23 rfl hl (by decide) rfl (fun ls hl => ?_)
    refine lv_iinc (v := v200400_ + 1) (lv' := [(2, .int (v200400_ + 1)), (1, .int (v200401_ + v10210_)), (0, .ref no_)]) hx hb dX6_totalHurt_24 hl (k := 1) rfl rfl (by decide) rfl (fun ls hl => ?_)
    have g3_ : rg (1) (4) (v200400_ + 1) := rg_add g1_ (rg_lit (by decide) : rg (1) (1) (1 : Int32)) (by decide) (by decide) (by decide) (by decide)
    refine lv_goto (tgt := 4) hx hb dX6_totalHurt_27 (by decide) ?_
    exact ih4_ (v200400_ + 1, v200401_ + v10210_) _ _ ls (rg_w g3_ (by decide) (by decide)) (show (5 - (v200400_ + 1).toInt).toNat < (5 - v200400_.toInt).toNat from by rw [show (v200400_ + 1).toInt = v200400_.toInt + 1 from inc32 v200400_ (by have hq := (rv200400_).2; omega)]; have hq := (g1_).1; have hq2 := (g1_).2; omega) hP hD hS (lv_sub hl [0, 1, 2] rfl)
set_option maxHeartbeats 4000000 in
set_option maxRecDepth 100000 in
theorem sf_X6_weightOf (l : Launch) (D : va_G) (cy : Nat → ClassId) (no_ : Nat) (nd_ : Nat) (hour_ : Int32) (ns_ : Nat) (nc_ : Nat) (nl_ : Nat) (nt_ : Nat) (nh_ : Nat) (fallen_ : Int32) (fc_ : Nat → Int32) (lines_ : Int32) (columns_ : Int32) (levels_ : Int32) (things_ : Int32) (walkers_ : Int32) (nw_ : Nat) (nr_ : Nat) (nq_ : Nat) (hangs_ : Value) (frees_ : Value) (fw_ : Nat → Int32) (b_ : Int32) (c_ : Int32) (rcolumns_ : rg (1) (6) columns_) (rlevels_ : rg (1) (9) levels_) (rthings_ : rg (0) (8) things_) (rwalkers_ : rg (0) (4) walkers_) : Ci l yX6_weightOf cX6_weightOf 5 (some .int) { frames := 0, cells := 0, slots := 0, locals := 0 } D cy [.ref no_, .int b_, .int c_] [(no_, .inr (6, [.ref nd_, .int hour_, .ref ns_, .ref nc_, .ref nl_, .ref nt_, .ref nh_, .int fallen_])), (nc_, .inl (cy 0, 8, .inl (fc_))), (nd_, .inr (0, [.int lines_, .int columns_, .int levels_, .int things_, .int walkers_, .ref nw_, .ref nr_, .ref nq_, hangs_, frees_])), (nw_, .inl (cy 0, 8, .inl (fw_)))] (fun r W1 => W1 = [(no_, .inr (6, [.ref nd_, .int hour_, .ref ns_, .ref nc_, .ref nl_, .ref nt_, .ref nh_, .int fallen_])), (nc_, .inl (cy 0, 8, .inl (fc_))), (nd_, .inr (0, [.int lines_, .int columns_, .int levels_, .int things_, .int walkers_, .ref nw_, .ref nr_, .ref nq_, hangs_, frees_])), (nw_, .inl (cy 0, 8, .inl (fw_)))]) := by
  refine Ci.of (by decide) (Nat.le_of_ble_eq_true rfl) ?_
  intro p e s m below meth c A ls hX hE hP hD hl
  obtain ⟨hx, hb, hr, hml, hown, htA, hlk⟩ := id hX
  have hK := hE.1
  have hS : va_S A s.heap s.heap [] := va_S.rf
  have hl : lv_has ls 5 [(0, .ref no_), (1, .int b_), (2, .int c_)] := hl
  refine lv_iconst (v := 0) hx hb dX6_weightOf_0 (by decide) ?_
  refine lv_istore_n (lv' := [(3, .int 0), (0, .ref no_), (1, .int b_), (2, .int c_)]) hx hb dX6_weightOf_1 rfl hl (by decide) rfl (fun ls hl => ?_)
  refine lv_iconst (v := 0) hx hb dX6_weightOf_2 (by decide) ?_
  refine lv_istore (lv' := [(4, .int 0), (3, .int 0), (0, .ref no_), (1, .int b_), (2, .int c_)]) hx hb dX6_weightOf_3 hl (by decide) rfl (fun ls hl => ?_)
  refine loopT (τ := Int32 × Int32) (WS := fun i => [(no_, .inr (6, [.ref nd_, .int hour_, .ref ns_, .ref nc_, .ref nl_, .ref nt_, .ref nh_, .int fallen_])), (nc_, .inl (cy 0, 8, .inl (fc_))), (nd_, .inr (0, [.int lines_, .int columns_, .int levels_, .int things_, .int walkers_, .ref nw_, .ref nr_, .ref nq_, hangs_, frees_])), (nw_, .inl (cy 0, 8, .inl (fw_)))]) (LV := fun i => [(4, .int i.1), (3, .int i.2), (0, .ref no_), (1, .int b_), (2, .int c_)]) (fun i => (9 - i.1.toInt).toNat) (fun i => rg (0) (8) i.1) ?_ (0, 0) (rg_w (rg_lit (by decide) : rg (0) (0) (0 : Int32)) (by decide) (by decide)) hP hD hS (lv_sub hl [0, 1, 2, 3, 4] rfl)
  intro i_ H locs ls hI ih5_ hP hD hS hl
  obtain ⟨v200500_, v200501_⟩ := i_
  have hI : rg (0) (8) v200500_ := hI
  have rv200500_ := hI
  have hP : va_P D vwCl [(no_, .inr (6, [.ref nd_, .int hour_, .ref ns_, .ref nc_, .ref nl_, .ref nt_, .ref nh_, .int fallen_])), (nc_, .inl (cy 0, 8, .inl (fc_))), (nd_, .inr (0, [.int lines_, .int columns_, .int levels_, .int things_, .int walkers_, .ref nw_, .ref nr_, .ref nq_, hangs_, frees_])), (nw_, .inl (cy 0, 8, .inl (fw_)))] H := hP
  have hD := va_ca hP hD
  have hl : lv_has ls 5 [(4, .int v200500_), (3, .int v200501_), (0, .ref no_), (1, .int b_), (2, .int c_)] := hl
  refine lv_iload hx hb dX6_weightOf_5 (lv_at hl 0 rfl) ?_
  refine lv_aload_n hx hb dX6_weightOf_7 rfl (lv_at hl 2 rfl) ?_
  refine va_get (ci := 6) (v := .ref nd_) (C := RX6) (T := TX6) (N := 8) hx hb htA in_X6 hown hK hP 0 rfl rfl 0 (by decide) (htA _ wd_166) (fun _ h => h) rfl dX6_weightOf_8 ?_
  refine va_get (ci := 0) (v := .int things_) (C := RX0) (T := TX0) (N := 10) hx hb htA in_X0 hown hK hP 2 rfl rfl 3 (by decide) (htA _ wd_86) (fun _ h => h) rfl dX6_weightOf_11 ?_
  refine lv_icmp_ge (tgt := 56) hx hb dX6_weightOf_14 (by decide) (fun c14_ => ?_) (fun c14_ => ?_)
  · refine lv_iload_n hx hb dX6_weightOf_56 rfl (lv_at hl 1 rfl) ?_
    exact rI hX hE hP hD hS dX6_weightOf_57 (by decide) (by decide) rfl
  · have g1_ : rg (0) (7) v200500_ := rg_lt1 (rg_nle c14_) rv200500_ rthings_ (by decide)
    have g2_ : rg (1) (8) things_ := rg_lt2 (rg_nle c14_) rv200500_ rthings_ (by decide)
    refine lv_iload_n hx hb dX6_weightOf_17 rfl (lv_at hl 3 rfl) ?_
    refine lv_iload hx hb dX6_weightOf_18 (lv_at hl 0 rfl) ?_
    refine lv_ishr hx hb dX6_weightOf_20 ?_
    refine lv_iconst (v := 1) hx hb dX6_weightOf_21 (by decide) ?_
    refine lv_iand hx hb dX6_weightOf_22 ?_
    refine joinT (D := D) (A := A) (pc := 50) (mL := 5) (τ := Int32) (WS := fun i => [(no_, .inr (6, [.ref nd_, .int hour_, .ref ns_, .ref nc_, .ref nl_, .ref nt_, .ref nh_, .int fallen_])), (nc_, .inl (cy 0, 8, .inl (fc_))), (nd_, .inr (0, [.int lines_, .int columns_, .int levels_, .int things_, .int walkers_, .ref nw_, .ref nr_, .ref nq_, hangs_, frees_])), (nw_, .inl (cy 0, 8, .inl (fw_)))]) (LV := fun i => [(4, .int v200500_), (3, .int i), (0, .ref no_), (1, .int b_), (2, .int c_)]) (ST := fun i => []) (cells := 0) (slots := 0) (fun i => True) (fun v205000_ H locs ls hI hP hD hS hl => ?_) (fun j50_ => ?_)
    · have hP : va_P D vwCl [(no_, .inr (6, [.ref nd_, .int hour_, .ref ns_, .ref nc_, .ref nl_, .ref nt_, .ref nh_, .int fallen_])), (nc_, .inl (cy 0, 8, .inl (fc_))), (nd_, .inr (0, [.int lines_, .int columns_, .int levels_, .int things_, .int walkers_, .ref nw_, .ref nr_, .ref nq_, hangs_, frees_])), (nw_, .inl (cy 0, 8, .inl (fw_)))] H := hP
      have hD := va_ca hP hD
      have hl : lv_has ls 5 [(4, .int v200500_), (3, .int v205000_), (0, .ref no_), (1, .int b_), (2, .int c_)] := hl
      refine lv_iinc (v := v200500_ + 1) (lv' := [(4, .int (v200500_ + 1)), (3, .int v205000_), (0, .ref no_), (1, .int b_), (2, .int c_)]) hx hb dX6_weightOf_50 hl (k := 0) rfl rfl (by decide) rfl (fun ls hl => ?_)
      have g3_ : rg (1) (8) (v200500_ + 1) := rg_add g1_ (rg_lit (by decide) : rg (1) (1) (1 : Int32)) (by decide) (by decide) (by decide) (by decide)
      refine lv_goto (tgt := 5) hx hb dX6_weightOf_53 (by decide) ?_
      exact ih5_ (v200500_ + 1, v205000_) _ _ ls (rg_w g3_ (by decide) (by decide)) (show (9 - (v200500_ + 1).toInt).toNat < (9 - v200500_.toInt).toNat from by rw [show (v200500_ + 1).toInt = v200500_.toInt + 1 from inc32 v200500_ (by have hq := (rv200500_).2; omega)]; have hq := (g1_).1; have hq2 := (g1_).2; omega) hP hD hS (lv_sub hl [0, 1, 2, 3, 4] rfl)
    refine lv_if_eq (tgt := 50) hx hb dX6_weightOf_23 (by decide) (fun c23_ => ?_) (fun c23_ => ?_)
    · have g4_ : rg (0) (0) ((b_ >>> (v200500_ &&& 31)) &&& 1) := rg_eq c23_ (rg_lit (by decide) : rg (0) (0) (0 : Int32))
      exact j50_ v200501_ _ _ ls trivial hP hD hS (lv_sub hl [0, 1, 2, 3, 4] rfl)
    · refine lv_aload_n hx hb dX6_weightOf_26 rfl (lv_at hl 2 rfl) ?_
      refine va_get (ci := 6) (v := .ref nc_) (C := RX6) (T := TX6) (N := 8) hx hb htA in_X6 hown hK hP 0 rfl rfl 3 (by decide) (htA _ wd_178) (fun _ h => h) rfl dX6_weightOf_27 ?_
      refine lv_iload hx hb dX6_weightOf_30 (lv_at hl 0 rfl) ?_
      refine va_iald hx hb hK hP 1 0 rfl rfl (rg_in g1_ (by decide) (by decide)) dX6_weightOf_32 ?_
      refine lv_topi (fun v10320_ ev10320_ => ?_)
      refine lv_iload_n hx hb dX6_weightOf_33 rfl (lv_at hl 4 rfl) ?_
      refine lv_icmp_ne (tgt := 50) hx hb dX6_weightOf_34 (by decide) (fun c34_ => ?_) (fun c34_ => ?_)
      · exact j50_ v200501_ _ _ ls trivial hP hD hS (lv_sub hl [0, 1, 2, 3, 4] rfl)
      · refine lv_iload_n hx hb dX6_weightOf_37 rfl (lv_at hl 1 rfl) ?_
        refine lv_aload_n hx hb dX6_weightOf_38 rfl (lv_at hl 2 rfl) ?_
        refine va_get (ci := 6) (v := .ref nd_) (C := RX6) (T := TX6) (N := 8) hx hb htA in_X6 hown hK hP 0 rfl rfl 0 (by decide) (htA _ wd_166) (fun _ h => h) rfl dX6_weightOf_39 ?_
        refine va_get (ci := 0) (v := .ref nw_) (C := RX0) (T := TX0) (N := 10) hx hb htA in_X0 hown hK hP 2 rfl rfl 5 (by decide) (htA _ wd_96) (fun _ h => h) rfl dX6_weightOf_42 ?_
        refine lv_iload hx hb dX6_weightOf_45 (lv_at hl 0 rfl) ?_
        refine va_iald hx hb hK hP 3 0 rfl rfl (rg_in g1_ (by decide) (by decide)) dX6_weightOf_47 ?_
        refine lv_topi (fun v10470_ ev10470_ => ?_)
        refine lv_iadd hx hb dX6_weightOf_48 ?_
        refine lv_istore_n (lv' := [(3, .int (v200501_ + v10470_)), (4, .int v200500_), (0, .ref no_), (1, .int b_), (2, .int c_)]) hx hb dX6_weightOf_49 rfl hl (by decide) rfl (fun ls hl => ?_)
        exact j50_ (v200501_ + v10470_) _ _ ls trivial hP hD hS (lv_sub hl [1, 0, 2, 3, 4] rfl)
set_option maxHeartbeats 4000000 in
set_option maxRecDepth 100000 in
theorem sf_X6_isFree (l : Launch) (D : va_G) (cy : Nat → ClassId) (no_ : Nat) (nd_ : Nat) (hour_ : Int32) (ns_ : Nat) (nc_ : Nat) (nl_ : Nat) (nt_ : Nat) (nh_ : Nat) (fallen_ : Int32) (fs_ : Nat → Int32) (fc_ : Nat → Int32) (fl_ : Nat → Int32) (lines_ : Int32) (columns_ : Int32) (levels_ : Int32) (things_ : Int32) (walkers_ : Int32) (nw_ : Nat) (nr_ : Nat) (nq_ : Nat) (hangs_ : Value) (frees_ : Value) (c_ : Int32) (l_ : Int32) (rcolumns_ : rg (1) (6) columns_) (rlevels_ : rg (1) (9) levels_) (rthings_ : rg (0) (8) things_) (rwalkers_ : rg (0) (4) walkers_) : Ci l yX6_isFree cX6_isFree 3 (some .boolean) { frames := 1, cells := 0, slots := 0, locals := 23 } D cy [.ref no_, .int c_, .int l_] [(no_, .inr (6, [.ref nd_, .int hour_, .ref ns_, .ref nc_, .ref nl_, .ref nt_, .ref nh_, .int fallen_])), (ns_, .inl (cy 0, 8, .inl (fs_))), (nc_, .inl (cy 0, 8, .inl (fc_))), (nl_, .inl (cy 0, 8, .inl (fl_))), (nd_, .inr (0, [.int lines_, .int columns_, .int levels_, .int things_, .int walkers_, .ref nw_, .ref nr_, .ref nq_, hangs_, frees_]))] (fun r W1 => W1 = [(no_, .inr (6, [.ref nd_, .int hour_, .ref ns_, .ref nc_, .ref nl_, .ref nt_, .ref nh_, .int fallen_])), (ns_, .inl (cy 0, 8, .inl (fs_))), (nc_, .inl (cy 0, 8, .inl (fc_))), (nl_, .inl (cy 0, 8, .inl (fl_))), (nd_, .inr (0, [.int lines_, .int columns_, .int levels_, .int things_, .int walkers_, .ref nw_, .ref nr_, .ref nq_, hangs_, frees_]))] ∧ rg (0) (1) r) := by
  refine Ci.of (by decide) (Nat.le_of_ble_eq_true rfl) ?_
  intro p e s m below meth c A ls hX hE hP hD hl
  obtain ⟨hx, hb, hr, hml, hown, htA, hlk⟩ := id hX
  have hK := hE.1
  have hS : va_S A s.heap s.heap [] := va_S.rf
  have hl : lv_has ls 3 [(0, .ref no_), (1, .int c_), (2, .int l_)] := hl
  refine lv_iload_n hx hb dX6_isFree_0 rfl (lv_at hl 2 rfl) ?_
  refine lv_aload_n hx hb dX6_isFree_1 rfl (lv_at hl 0 rfl) ?_
  refine lv_iload_n hx hb dX6_isFree_2 rfl (lv_at hl 1 rfl) ?_
  refine kVi (As := [.int c_]) (rest := [.int l_]) (wr := [(nl_, .inl (cy 0, 8, .inl (fl_)))]) hX hE (sf_X6_lying l D cy no_ nd_ hour_ ns_ nc_ nl_ nt_ nh_ fallen_ fs_ fc_ lines_ columns_ levels_ things_ walkers_ nw_ nr_ nq_ hangs_ frees_ c_ (rg_w rcolumns_ (by decide) (by decide)) (rg_w rlevels_ (by decide) (by decide)) (rg_w rthings_ (by decide) (by decide)) (rg_w rwalkers_ (by decide) (by decide))) (cwVA 1 htA wd_379 wd_376 wd_6 wd_377 wd_378 (by decide +kernel) ⟨by decide, by decide⟩) hP hD hS [0, 1, 2, 4] [3] rfl rfl (by decide +kernel) 0 rfl rfl rfl rfl hl.1 rfl (Nat.le_of_ble_eq_true rfl) dX6_isFree_3 (by decide) (fun v10030_ W1 H locs hw hP hD hS => ?_)
  refine W.widen (k := 0) (n := 0) (by decide) (by decide) ?_
  obtain rfl := hw
  have hP : va_P D vwCl [(nl_, .inl (cy 0, 8, .inl (fl_))), (no_, .inr (6, [.ref nd_, .int hour_, .ref ns_, .ref nc_, .ref nl_, .ref nt_, .ref nh_, .int fallen_])), (ns_, .inl (cy 0, 8, .inl (fs_))), (nc_, .inl (cy 0, 8, .inl (fc_))), (nd_, .inr (0, [.int lines_, .int columns_, .int levels_, .int things_, .int walkers_, .ref nw_, .ref nr_, .ref nq_, hangs_, frees_]))] H := hP
  have hD := va_ca hP hD
  refine joinT (D := D) (A := A) (pc := 24) (mL := 3) (τ := Int32) (WS := fun i => [(nl_, .inl (cy 0, 8, .inl (fl_))), (no_, .inr (6, [.ref nd_, .int hour_, .ref ns_, .ref nc_, .ref nl_, .ref nt_, .ref nh_, .int fallen_])), (ns_, .inl (cy 0, 8, .inl (fs_))), (nc_, .inl (cy 0, 8, .inl (fc_))), (nd_, .inr (0, [.int lines_, .int columns_, .int levels_, .int things_, .int walkers_, .ref nw_, .ref nr_, .ref nq_, hangs_, frees_]))]) (LV := fun i => [(0, .ref no_), (1, .int c_), (2, .int l_)]) (ST := fun i => [.int i]) (cells := 0) (slots := 0) (fun i => rg (0) (1) i) (fun v202400_ H locs ls hI hP hD hS hl => ?_) (fun j24_ => ?_)
  · have hI : rg (0) (1) v202400_ := hI
    have rv202400_ := hI
    have hP : va_P D vwCl [(nl_, .inl (cy 0, 8, .inl (fl_))), (no_, .inr (6, [.ref nd_, .int hour_, .ref ns_, .ref nc_, .ref nl_, .ref nt_, .ref nh_, .int fallen_])), (ns_, .inl (cy 0, 8, .inl (fs_))), (nc_, .inl (cy 0, 8, .inl (fc_))), (nd_, .inr (0, [.int lines_, .int columns_, .int levels_, .int things_, .int walkers_, .ref nw_, .ref nr_, .ref nq_, hangs_, frees_]))] H := hP
    have hD := va_ca hP hD
    have hl : lv_has ls 3 [(0, .ref no_), (1, .int c_), (2, .int l_)] := hl
    have hP : va_P D vwCl [(no_, .inr (6, [.ref nd_, .int hour_, .ref ns_, .ref nc_, .ref nl_, .ref nt_, .ref nh_, .int fallen_])), (ns_, .inl (cy 0, 8, .inl (fs_))), (nc_, .inl (cy 0, 8, .inl (fc_))), (nl_, .inl (cy 0, 8, .inl (fl_))), (nd_, .inr (0, [.int lines_, .int columns_, .int levels_, .int things_, .int walkers_, .ref nw_, .ref nr_, .ref nq_, hangs_, frees_]))] H := hP.sub [1, 2, 3, 0, 4] rfl
    have hD : va_D A [(no_, .inr (6, [.ref nd_, .int hour_, .ref ns_, .ref nc_, .ref nl_, .ref nt_, .ref nh_, .int fallen_])), (ns_, .inl (cy 0, 8, .inl (fs_))), (nc_, .inl (cy 0, 8, .inl (fc_))), (nl_, .inl (cy 0, 8, .inl (fl_))), (nd_, .inr (0, [.int lines_, .int columns_, .int levels_, .int things_, .int walkers_, .ref nw_, .ref nr_, .ref nq_, hangs_, frees_]))] := hD.sub [1, 2, 3, 0, 4] (by decide +kernel) rfl
    exact rZ hX (nz_of rv202400_) hE hP hD hS dX6_isFree_24 (by decide) (by decide) ⟨rfl, (rg_w rv202400_ (by decide) (by decide))⟩
  refine joinT (D := D) (A := A) (pc := 23) (mL := 3) (τ := Unit) (WS := fun i => [(nl_, .inl (cy 0, 8, .inl (fl_))), (no_, .inr (6, [.ref nd_, .int hour_, .ref ns_, .ref nc_, .ref nl_, .ref nt_, .ref nh_, .int fallen_])), (ns_, .inl (cy 0, 8, .inl (fs_))), (nc_, .inl (cy 0, 8, .inl (fc_))), (nd_, .inr (0, [.int lines_, .int columns_, .int levels_, .int things_, .int walkers_, .ref nw_, .ref nr_, .ref nq_, hangs_, frees_]))]) (LV := fun i => [(0, .ref no_), (1, .int c_), (2, .int l_)]) (ST := fun i => []) (cells := 0) (slots := 0) (fun i => True) (fun u0_ H locs ls hI hP hD hS hl => ?_) (fun j23_ => ?_)
  · have hP : va_P D vwCl [(nl_, .inl (cy 0, 8, .inl (fl_))), (no_, .inr (6, [.ref nd_, .int hour_, .ref ns_, .ref nc_, .ref nl_, .ref nt_, .ref nh_, .int fallen_])), (ns_, .inl (cy 0, 8, .inl (fs_))), (nc_, .inl (cy 0, 8, .inl (fc_))), (nd_, .inr (0, [.int lines_, .int columns_, .int levels_, .int things_, .int walkers_, .ref nw_, .ref nr_, .ref nq_, hangs_, frees_]))] H := hP
    have hD := va_ca hP hD
    have hl : lv_has ls 3 [(0, .ref no_), (1, .int c_), (2, .int l_)] := hl
    refine lv_iconst (v := 0) hx hb dX6_isFree_23 (by decide) ?_
    exact j24_ 0 _ _ ls (rg_w (rg_lit (by decide) : rg (0) (0) (0 : Int32)) (by decide) (by decide)) hP hD hS (lv_sub hl [0, 1, 2] rfl)
  refine lv_icmp_lt (tgt := 23) hx hb dX6_isFree_6 (by decide) (fun c6_ => ?_) (fun c6_ => ?_)
  · have g1_ : rg (-2147483648) (2147483646) l_ := rg_lt1 c6_ (rg_any _) (rg_any _) (by decide)
    have g2_ : rg (-2147483647) (2147483647) v10030_ := rg_lt2 c6_ (rg_any _) (rg_any _) (by decide)
    exact j23_ () _ _ ls trivial hP hD hS (lv_sub hl [0, 1, 2] rfl)
  · refine lv_aload_n hx hb dX6_isFree_9 rfl (lv_at hl 0 rfl) ?_
    refine lv_iload_n hx hb dX6_isFree_10 rfl (lv_at hl 1 rfl) ?_
    refine lv_iload_n hx hb dX6_isFree_11 rfl (lv_at hl 2 rfl) ?_
    refine kVi (As := [.int c_, .int l_]) (rest := []) (wr := []) hX hE (sf_X6_thingAt l D cy no_ nd_ hour_ ns_ nc_ nl_ nt_ nh_ fallen_ fs_ fc_ fl_ lines_ columns_ levels_ things_ walkers_ nw_ nr_ nq_ hangs_ frees_ c_ l_ (rg_w rcolumns_ (by decide) (by decide)) (rg_w rlevels_ (by decide) (by decide)) (rg_w rthings_ (by decide) (by decide)) (rg_w rwalkers_ (by decide) (by decide))) (cwVA 2 htA wd_383 wd_380 wd_6 wd_381 wd_382 (by decide +kernel) ⟨by decide, by decide⟩) hP hD hS [1, 2, 3, 0, 4] [] rfl rfl (by decide +kernel) 0 rfl rfl rfl rfl hl.1 rfl (Nat.le_of_ble_eq_true rfl) dX6_isFree_12 (by decide) (fun v10120_ W1 H locs hw hP hD hS => ?_)
    refine W.widen (k := 0) (n := 0) (by decide) (by decide) ?_
    obtain ⟨rfl, kr12_⟩ := hw
    have hP : va_P D vwCl [(no_, .inr (6, [.ref nd_, .int hour_, .ref ns_, .ref nc_, .ref nl_, .ref nt_, .ref nh_, .int fallen_])), (ns_, .inl (cy 0, 8, .inl (fs_))), (nc_, .inl (cy 0, 8, .inl (fc_))), (nl_, .inl (cy 0, 8, .inl (fl_))), (nd_, .inr (0, [.int lines_, .int columns_, .int levels_, .int things_, .int walkers_, .ref nw_, .ref nr_, .ref nq_, hangs_, frees_]))] H := hP
    have hD := va_ca hP hD
    refine lv_iconst (v := (-1)) hx hb dX6_isFree_15 (by decide) ?_
    refine lv_icmp_ne (tgt := 23) hx hb dX6_isFree_16 (by decide) (fun c16_ => ?_) (fun c16_ => ?_)
    · have g3_ : rg (0) (7) v10120_ := rg_ne1 c16_ kr12_ (by decide) (by decide)
      have hP : va_P D vwCl [(nl_, .inl (cy 0, 8, .inl (fl_))), (no_, .inr (6, [.ref nd_, .int hour_, .ref ns_, .ref nc_, .ref nl_, .ref nt_, .ref nh_, .int fallen_])), (ns_, .inl (cy 0, 8, .inl (fs_))), (nc_, .inl (cy 0, 8, .inl (fc_))), (nd_, .inr (0, [.int lines_, .int columns_, .int levels_, .int things_, .int walkers_, .ref nw_, .ref nr_, .ref nq_, hangs_, frees_]))] H := hP.sub [3, 0, 1, 2, 4] rfl
      have hD : va_D A [(nl_, .inl (cy 0, 8, .inl (fl_))), (no_, .inr (6, [.ref nd_, .int hour_, .ref ns_, .ref nc_, .ref nl_, .ref nt_, .ref nh_, .int fallen_])), (ns_, .inl (cy 0, 8, .inl (fs_))), (nc_, .inl (cy 0, 8, .inl (fc_))), (nd_, .inr (0, [.int lines_, .int columns_, .int levels_, .int things_, .int walkers_, .ref nw_, .ref nr_, .ref nq_, hangs_, frees_]))] := hD.sub [3, 0, 1, 2, 4] (by decide +kernel) rfl
      exact j23_ () _ _ ls trivial hP hD hS (lv_sub hl [0, 1, 2] rfl)
    · have g4_ : rg (-1) (-1) v10120_ := rg_eq c16_ (rg_lit (by decide) : rg (-1) (-1) ((-1) : Int32))
      refine lv_iconst (v := 1) hx hb dX6_isFree_19 (by decide) ?_
      refine lv_goto (tgt := 24) hx hb dX6_isFree_20 (by decide) ?_
      have hP : va_P D vwCl [(nl_, .inl (cy 0, 8, .inl (fl_))), (no_, .inr (6, [.ref nd_, .int hour_, .ref ns_, .ref nc_, .ref nl_, .ref nt_, .ref nh_, .int fallen_])), (ns_, .inl (cy 0, 8, .inl (fs_))), (nc_, .inl (cy 0, 8, .inl (fc_))), (nd_, .inr (0, [.int lines_, .int columns_, .int levels_, .int things_, .int walkers_, .ref nw_, .ref nr_, .ref nq_, hangs_, frees_]))] H := hP.sub [3, 0, 1, 2, 4] rfl
      have hD : va_D A [(nl_, .inl (cy 0, 8, .inl (fl_))), (no_, .inr (6, [.ref nd_, .int hour_, .ref ns_, .ref nc_, .ref nl_, .ref nt_, .ref nh_, .int fallen_])), (ns_, .inl (cy 0, 8, .inl (fs_))), (nc_, .inl (cy 0, 8, .inl (fc_))), (nd_, .inr (0, [.int lines_, .int columns_, .int levels_, .int things_, .int walkers_, .ref nw_, .ref nr_, .ref nq_, hangs_, frees_]))] := hD.sub [3, 0, 1, 2, 4] (by decide +kernel) rfl
      exact j24_ 1 _ _ ls (rg_w (rg_lit (by decide) : rg (1) (1) (1 : Int32)) (by decide) (by decide)) hP hD hS (lv_sub hl [0, 1, 2] rfl)
set_option maxHeartbeats 4000000 in
set_option maxRecDepth 100000 in
theorem sf_X6_whyNotLetGo (l : Launch) (D : va_G) (cy : Nat → ClassId) (no_ : Nat) (nd_ : Nat) (hour_ : Int32) (ns_ : Nat) (nc_ : Nat) (nl_ : Nat) (nt_ : Nat) (nh_ : Nat) (fallen_ : Int32) (fs_ : Nat → Int32) (fc_ : Nat → Int32) (fl_ : Nat → Int32) (lines_ : Int32) (columns_ : Int32) (levels_ : Int32) (things_ : Int32) (walkers_ : Int32) (nw_ : Nat) (nr_ : Nat) (nq_ : Nat) (hangs_ : Value) (frees_ : Value) (t_ : Int32) (c_ : Int32) (l_ : Int32) (rcolumns_ : rg (1) (6) columns_) (rlevels_ : rg (1) (9) levels_) (rthings_ : rg (0) (8) things_) (rwalkers_ : rg (0) (4) walkers_) : Ci l yX6_whyNotLetGo cX6_whyNotLetGo 4 (some .int) { frames := 2, cells := 0, slots := 0, locals := 45 } D cy [.ref no_, .int t_, .int c_, .int l_] [(no_, .inr (6, [.ref nd_, .int hour_, .ref ns_, .ref nc_, .ref nl_, .ref nt_, .ref nh_, .int fallen_])), (ns_, .inl (cy 0, 8, .inl (fs_))), (nc_, .inl (cy 0, 8, .inl (fc_))), (nl_, .inl (cy 0, 8, .inl (fl_))), (nd_, .inr (0, [.int lines_, .int columns_, .int levels_, .int things_, .int walkers_, .ref nw_, .ref nr_, .ref nq_, hangs_, frees_]))] (fun r W1 => W1 = [(no_, .inr (6, [.ref nd_, .int hour_, .ref ns_, .ref nc_, .ref nl_, .ref nt_, .ref nh_, .int fallen_])), (ns_, .inl (cy 0, 8, .inl (fs_))), (nc_, .inl (cy 0, 8, .inl (fc_))), (nl_, .inl (cy 0, 8, .inl (fl_))), (nd_, .inr (0, [.int lines_, .int columns_, .int levels_, .int things_, .int walkers_, .ref nw_, .ref nr_, .ref nq_, hangs_, frees_]))] ∧ rg (0) (3) r) := by
  refine Ci.of (by decide) (Nat.le_of_ble_eq_true rfl) ?_
  intro p e s m below meth c A ls hX hE hP hD hl
  obtain ⟨hx, hb, hr, hml, hown, htA, hlk⟩ := id hX
  have hK := hE.1
  have hS : va_S A s.heap s.heap [] := va_S.rf
  have hl : lv_has ls 4 [(0, .ref no_), (1, .int t_), (2, .int c_), (3, .int l_)] := hl
  refine lv_iload_n hx hb dX6_whyNotLetGo_0 rfl (lv_at hl 1 rfl) ?_
  refine joinT (D := D) (A := A) (pc := 27) (mL := 4) (τ := Unit) (WS := fun i => [(no_, .inr (6, [.ref nd_, .int hour_, .ref ns_, .ref nc_, .ref nl_, .ref nt_, .ref nh_, .int fallen_])), (ns_, .inl (cy 0, 8, .inl (fs_))), (nc_, .inl (cy 0, 8, .inl (fc_))), (nl_, .inl (cy 0, 8, .inl (fl_))), (nd_, .inr (0, [.int lines_, .int columns_, .int levels_, .int things_, .int walkers_, .ref nw_, .ref nr_, .ref nq_, hangs_, frees_]))]) (LV := fun i => [(0, .ref no_), (1, .int t_), (2, .int c_), (3, .int l_)]) (ST := fun i => []) (cells := 0) (slots := 0) (fun i => True) (fun u0_ H locs ls hI hP hD hS hl => ?_) (fun j27_ => ?_)
  · have hP : va_P D vwCl [(no_, .inr (6, [.ref nd_, .int hour_, .ref ns_, .ref nc_, .ref nl_, .ref nt_, .ref nh_, .int fallen_])), (ns_, .inl (cy 0, 8, .inl (fs_))), (nc_, .inl (cy 0, 8, .inl (fc_))), (nl_, .inl (cy 0, 8, .inl (fl_))), (nd_, .inr (0, [.int lines_, .int columns_, .int levels_, .int things_, .int walkers_, .ref nw_, .ref nr_, .ref nq_, hangs_, frees_]))] H := hP
    have hD := va_ca hP hD
    have hl : lv_has ls 4 [(0, .ref no_), (1, .int t_), (2, .int c_), (3, .int l_)] := hl
    refine lv_iconst (v := 1) hx hb dX6_whyNotLetGo_27 (by decide) ?_
    exact rI hX hE hP hD hS dX6_whyNotLetGo_28 (by decide) (by decide) ⟨rfl, (rg_w (rg_lit (by decide) : rg (1) (1) (1 : Int32)) (by decide) (by decide))⟩
  refine lv_if_lt (tgt := 27) hx hb dX6_whyNotLetGo_1 (by decide) (fun c1_ => ?_) (fun c1_ => ?_)
  · have g1_ : rg (-2147483648) (-1) t_ := rg_lt1 c1_ (rg_any _) (rg_lit (by decide) : rg (0) (0) (0 : Int32)) (by decide)
    exact j27_ () _ _ ls trivial hP hD hS (lv_sub hl [0, 1, 2, 3] rfl)
  · have g2_ : rg (0) (2147483647) t_ := rg_le2 (rg_nlt c1_) (rg_lit (by decide) : rg (0) (0) (0 : Int32)) (rg_any _) (by decide)
    refine lv_iload_n hx hb dX6_whyNotLetGo_4 rfl (lv_at hl 1 rfl) ?_
    refine lv_aload_n hx hb dX6_whyNotLetGo_5 rfl (lv_at hl 0 rfl) ?_
    refine va_get (ci := 6) (v := .ref nd_) (C := RX6) (T := TX6) (N := 8) hx hb htA in_X6 hown hK hP 0 rfl rfl 0 (by decide) (htA _ wd_166) (fun _ h => h) rfl dX6_whyNotLetGo_6 ?_
    refine va_get (ci := 0) (v := .int things_) (C := RX0) (T := TX0) (N := 10) hx hb htA in_X0 hown hK hP 4 rfl rfl 3 (by decide) (htA _ wd_86) (fun _ h => h) rfl dX6_whyNotLetGo_9 ?_
    refine lv_icmp_ge (tgt := 27) hx hb dX6_whyNotLetGo_12 (by decide) (fun c12_ => ?_) (fun c12_ => ?_)
    · exact j27_ () _ _ ls trivial hP hD hS (lv_sub hl [0, 1, 2, 3] rfl)
    · have g3_ : rg (0) (7) t_ := rg_lt1 (rg_nle c12_) g2_ rthings_ (by decide)
      have g4_ : rg (1) (8) things_ := rg_lt2 (rg_nle c12_) g2_ rthings_ (by decide)
      refine lv_aload_n hx hb dX6_whyNotLetGo_15 rfl (lv_at hl 0 rfl) ?_
      refine va_get (ci := 6) (v := .ref nd_) (C := RX6) (T := TX6) (N := 8) hx hb htA in_X6 hown hK hP 0 rfl rfl 0 (by decide) (htA _ wd_166) (fun _ h => h) rfl dX6_whyNotLetGo_16 ?_
      refine lv_iload_n hx hb dX6_whyNotLetGo_19 rfl (lv_at hl 2 rfl) ?_
      refine lv_iload_n hx hb dX6_whyNotLetGo_20 rfl (lv_at hl 3 rfl) ?_
      refine kVi (As := [.int c_, .int l_]) (rest := []) (wr := [(no_, .inr (6, [.ref nd_, .int hour_, .ref ns_, .ref nc_, .ref nl_, .ref nt_, .ref nh_, .int fallen_])), (ns_, .inl (cy 0, 8, .inl (fs_))), (nc_, .inl (cy 0, 8, .inl (fc_))), (nl_, .inl (cy 0, 8, .inl (fl_)))]) hX hE (sf_X0_hasPlace l D cy nd_ lines_ columns_ levels_ things_ walkers_ nw_ nr_ nq_ hangs_ frees_ c_ l_ (rg_w rcolumns_ (by decide) (by decide)) (rg_w rlevels_ (by decide) (by decide)) (rg_w g4_ (by decide) (by decide)) (rg_w rwalkers_ (by decide) (by decide))) (cwVA 2 htA wd_371 wd_368 wd_3 wd_369 wd_370 (by decide +kernel) ⟨by decide, by decide⟩) hP hD hS [4] [0, 1, 2, 3] rfl rfl (by decide +kernel) 0 rfl rfl rfl rfl hl.1 rfl (Nat.le_of_ble_eq_true rfl) dX6_whyNotLetGo_21 (by decide) (fun v10210_ W1 H locs hw hP hD hS => ?_)
      refine W.widen (k := 0) (n := 0) (by decide) (by decide) ?_
      obtain ⟨rfl, kr21_⟩ := hw
      have hP : va_P D vwCl [(no_, .inr (6, [.ref nd_, .int hour_, .ref ns_, .ref nc_, .ref nl_, .ref nt_, .ref nh_, .int fallen_])), (ns_, .inl (cy 0, 8, .inl (fs_))), (nc_, .inl (cy 0, 8, .inl (fc_))), (nl_, .inl (cy 0, 8, .inl (fl_))), (nd_, .inr (0, [.int lines_, .int columns_, .int levels_, .int things_, .int walkers_, .ref nw_, .ref nr_, .ref nq_, hangs_, frees_]))] H := hP
      have hD := va_ca hP hD
      refine lv_if_ne (tgt := 29) hx hb dX6_whyNotLetGo_24 (by decide) (fun c24_ => ?_) (fun c24_ => ?_)
      · have g5_ : rg (1) (1) v10210_ := rg_ne1 c24_ kr21_ (by decide) (by decide)
        refine lv_aload_n hx hb dX6_whyNotLetGo_29 rfl (lv_at hl 0 rfl) ?_
        refine va_get (ci := 6) (v := .ref ns_) (C := RX6) (T := TX6) (N := 8) hx hb htA in_X6 hown hK hP 0 rfl rfl 2 (by decide) (htA _ wd_174) (fun _ h => h) rfl dX6_whyNotLetGo_30 ?_
        refine lv_iload_n hx hb dX6_whyNotLetGo_33 rfl (lv_at hl 1 rfl) ?_
        refine va_iald hx hb hK hP 1 0 rfl rfl (rg_in g3_ (by decide) (by decide)) dX6_whyNotLetGo_34 ?_
        refine lv_topi (fun v10340_ ev10340_ => ?_)
        refine lv_if_eq (tgt := 40) hx hb dX6_whyNotLetGo_35 (by decide) (fun c35_ => ?_) (fun c35_ => ?_)
        · have g6_ : rg (0) (0) v10340_ := rg_eq c35_ (rg_lit (by decide) : rg (0) (0) (0 : Int32))
          refine lv_aload_n hx hb dX6_whyNotLetGo_40 rfl (lv_at hl 0 rfl) ?_
          refine lv_iload_n hx hb dX6_whyNotLetGo_41 rfl (lv_at hl 2 rfl) ?_
          refine lv_iload_n hx hb dX6_whyNotLetGo_42 rfl (lv_at hl 3 rfl) ?_
          refine kVi (As := [.int c_, .int l_]) (rest := []) (wr := []) hX hE (sf_X6_isFree l D cy no_ nd_ hour_ ns_ nc_ nl_ nt_ nh_ fallen_ fs_ fc_ fl_ lines_ columns_ levels_ things_ walkers_ nw_ nr_ nq_ hangs_ frees_ c_ l_ (rg_w rcolumns_ (by decide) (by decide)) (rg_w rlevels_ (by decide) (by decide)) (rg_w g4_ (by decide) (by decide)) (rg_w rwalkers_ (by decide) (by decide))) (cwVA 2 htA wd_375 wd_372 wd_6 wd_373 wd_374 (by decide +kernel) ⟨by decide, by decide⟩) hP hD hS [0, 1, 2, 3, 4] [] rfl rfl (by decide +kernel) 0 rfl rfl rfl rfl hl.1 rfl (Nat.le_of_ble_eq_true rfl) dX6_whyNotLetGo_43 (by decide) (fun v10430_ W1 H locs hw hP hD hS => ?_)
          refine W.widen (k := 0) (n := 0) (by decide) (by decide) ?_
          obtain ⟨rfl, kr43_⟩ := hw
          have hP : va_P D vwCl [(no_, .inr (6, [.ref nd_, .int hour_, .ref ns_, .ref nc_, .ref nl_, .ref nt_, .ref nh_, .int fallen_])), (ns_, .inl (cy 0, 8, .inl (fs_))), (nc_, .inl (cy 0, 8, .inl (fc_))), (nl_, .inl (cy 0, 8, .inl (fl_))), (nd_, .inr (0, [.int lines_, .int columns_, .int levels_, .int things_, .int walkers_, .ref nw_, .ref nr_, .ref nq_, hangs_, frees_]))] H := hP
          have hD := va_ca hP hD
          refine joinT (D := D) (A := A) (pc := 54) (mL := 4) (τ := Int32) (WS := fun i => [(no_, .inr (6, [.ref nd_, .int hour_, .ref ns_, .ref nc_, .ref nl_, .ref nt_, .ref nh_, .int fallen_])), (ns_, .inl (cy 0, 8, .inl (fs_))), (nc_, .inl (cy 0, 8, .inl (fc_))), (nl_, .inl (cy 0, 8, .inl (fl_))), (nd_, .inr (0, [.int lines_, .int columns_, .int levels_, .int things_, .int walkers_, .ref nw_, .ref nr_, .ref nq_, hangs_, frees_]))]) (LV := fun i => [(0, .ref no_), (1, .int t_), (2, .int c_), (3, .int l_)]) (ST := fun i => [.int i]) (cells := 0) (slots := 0) (fun i => rg (0) (3) i) (fun v205400_ H locs ls hI hP hD hS hl => ?_) (fun j54_ => ?_)
          · have hI : rg (0) (3) v205400_ := hI
            have rv205400_ := hI
            have hP : va_P D vwCl [(no_, .inr (6, [.ref nd_, .int hour_, .ref ns_, .ref nc_, .ref nl_, .ref nt_, .ref nh_, .int fallen_])), (ns_, .inl (cy 0, 8, .inl (fs_))), (nc_, .inl (cy 0, 8, .inl (fc_))), (nl_, .inl (cy 0, 8, .inl (fl_))), (nd_, .inr (0, [.int lines_, .int columns_, .int levels_, .int things_, .int walkers_, .ref nw_, .ref nr_, .ref nq_, hangs_, frees_]))] H := hP
            have hD := va_ca hP hD
            have hl : lv_has ls 4 [(0, .ref no_), (1, .int t_), (2, .int c_), (3, .int l_)] := hl
            exact rI hX hE hP hD hS dX6_whyNotLetGo_54 (by decide) (by decide) ⟨rfl, (rg_w rv205400_ (by decide) (by decide))⟩
          refine lv_if_eq (tgt := 53) hx hb dX6_whyNotLetGo_46 (by decide) (fun c46_ => ?_) (fun c46_ => ?_)
          · have g7_ : rg (0) (0) v10430_ := rg_eq c46_ (rg_lit (by decide) : rg (0) (0) (0 : Int32))
            refine lv_iconst (v := 3) hx hb dX6_whyNotLetGo_53 (by decide) ?_
            exact j54_ 3 _ _ ls (rg_w (rg_lit (by decide) : rg (3) (3) (3 : Int32)) (by decide) (by decide)) hP hD hS (lv_sub hl [0, 1, 2, 3] rfl)
          · have g8_ : rg (1) (1) v10430_ := rg_ne1 c46_ kr43_ (by decide) (by decide)
            refine lv_iconst (v := 0) hx hb dX6_whyNotLetGo_49 (by decide) ?_
            refine lv_goto (tgt := 54) hx hb dX6_whyNotLetGo_50 (by decide) ?_
            exact j54_ 0 _ _ ls (rg_w (rg_lit (by decide) : rg (0) (0) (0 : Int32)) (by decide) (by decide)) hP hD hS (lv_sub hl [0, 1, 2, 3] rfl)
        · refine lv_iconst (v := 2) hx hb dX6_whyNotLetGo_38 (by decide) ?_
          exact rI hX hE hP hD hS dX6_whyNotLetGo_39 (by decide) (by decide) ⟨rfl, (rg_w (rg_lit (by decide) : rg (2) (2) (2 : Int32)) (by decide) (by decide))⟩
      · have g9_ : rg (0) (0) v10210_ := rg_eq c24_ (rg_lit (by decide) : rg (0) (0) (0 : Int32))
        exact j27_ () _ _ ls trivial hP hD hS (lv_sub hl [0, 1, 2, 3] rfl)
set_option maxHeartbeats 4000000 in
set_option maxRecDepth 100000 in
theorem sf_X6_whyNotTake (l : Launch) (D : va_G) (cy : Nat → ClassId) (no_ : Nat) (nd_ : Nat) (hour_ : Int32) (ns_ : Nat) (nc_ : Nat) (nl_ : Nat) (nt_ : Nat) (nh_ : Nat) (fallen_ : Int32) (fs_ : Nat → Int32) (fc_ : Nat → Int32) (fl_ : Nat → Int32) (lines_ : Int32) (columns_ : Int32) (levels_ : Int32) (things_ : Int32) (walkers_ : Int32) (nw_ : Nat) (nr_ : Nat) (nq_ : Nat) (hangs_ : Value) (frees_ : Value) (t_ : Int32) (rcolumns_ : rg (1) (6) columns_) (rlevels_ : rg (1) (9) levels_) (rthings_ : rg (0) (8) things_) (rwalkers_ : rg (0) (4) walkers_) : Ci l yX6_whyNotTake cX6_whyNotTake 3 (some .int) { frames := 1, cells := 0, slots := 0, locals := 23 } D cy [.ref no_, .int t_] [(no_, .inr (6, [.ref nd_, .int hour_, .ref ns_, .ref nc_, .ref nl_, .ref nt_, .ref nh_, .int fallen_])), (ns_, .inl (cy 0, 8, .inl (fs_))), (nc_, .inl (cy 0, 8, .inl (fc_))), (nl_, .inl (cy 0, 8, .inl (fl_))), (nd_, .inr (0, [.int lines_, .int columns_, .int levels_, .int things_, .int walkers_, .ref nw_, .ref nr_, .ref nq_, hangs_, frees_]))] (fun r W1 => W1 = [(no_, .inr (6, [.ref nd_, .int hour_, .ref ns_, .ref nc_, .ref nl_, .ref nt_, .ref nh_, .int fallen_])), (ns_, .inl (cy 0, 8, .inl (fs_))), (nc_, .inl (cy 0, 8, .inl (fc_))), (nl_, .inl (cy 0, 8, .inl (fl_))), (nd_, .inr (0, [.int lines_, .int columns_, .int levels_, .int things_, .int walkers_, .ref nw_, .ref nr_, .ref nq_, hangs_, frees_]))] ∧ rg (0) (3) r) := by
  refine Ci.of (by decide) (Nat.le_of_ble_eq_true rfl) ?_
  intro p e s m below meth c A ls hX hE hP hD hl
  obtain ⟨hx, hb, hr, hml, hown, htA, hlk⟩ := id hX
  have hK := hE.1
  have hS : va_S A s.heap s.heap [] := va_S.rf
  have hl : lv_has ls 3 [(0, .ref no_), (1, .int t_)] := hl
  refine lv_iload_n hx hb dX6_whyNotTake_0 rfl (lv_at hl 1 rfl) ?_
  refine joinT (D := D) (A := A) (pc := 15) (mL := 3) (τ := Unit) (WS := fun i => [(no_, .inr (6, [.ref nd_, .int hour_, .ref ns_, .ref nc_, .ref nl_, .ref nt_, .ref nh_, .int fallen_])), (ns_, .inl (cy 0, 8, .inl (fs_))), (nc_, .inl (cy 0, 8, .inl (fc_))), (nl_, .inl (cy 0, 8, .inl (fl_))), (nd_, .inr (0, [.int lines_, .int columns_, .int levels_, .int things_, .int walkers_, .ref nw_, .ref nr_, .ref nq_, hangs_, frees_]))]) (LV := fun i => [(0, .ref no_), (1, .int t_)]) (ST := fun i => []) (cells := 0) (slots := 0) (fun i => True) (fun u0_ H locs ls hI hP hD hS hl => ?_) (fun j15_ => ?_)
  · have hP : va_P D vwCl [(no_, .inr (6, [.ref nd_, .int hour_, .ref ns_, .ref nc_, .ref nl_, .ref nt_, .ref nh_, .int fallen_])), (ns_, .inl (cy 0, 8, .inl (fs_))), (nc_, .inl (cy 0, 8, .inl (fc_))), (nl_, .inl (cy 0, 8, .inl (fl_))), (nd_, .inr (0, [.int lines_, .int columns_, .int levels_, .int things_, .int walkers_, .ref nw_, .ref nr_, .ref nq_, hangs_, frees_]))] H := hP
    have hD := va_ca hP hD
    have hl : lv_has ls 3 [(0, .ref no_), (1, .int t_)] := hl
    refine lv_iconst (v := 1) hx hb dX6_whyNotTake_15 (by decide) ?_
    exact rI hX hE hP hD hS dX6_whyNotTake_16 (by decide) (by decide) ⟨rfl, (rg_w (rg_lit (by decide) : rg (1) (1) (1 : Int32)) (by decide) (by decide))⟩
  refine lv_if_lt (tgt := 15) hx hb dX6_whyNotTake_1 (by decide) (fun c1_ => ?_) (fun c1_ => ?_)
  · have g1_ : rg (-2147483648) (-1) t_ := rg_lt1 c1_ (rg_any _) (rg_lit (by decide) : rg (0) (0) (0 : Int32)) (by decide)
    exact j15_ () _ _ ls trivial hP hD hS (lv_sub hl [0, 1] rfl)
  · have g2_ : rg (0) (2147483647) t_ := rg_le2 (rg_nlt c1_) (rg_lit (by decide) : rg (0) (0) (0 : Int32)) (rg_any _) (by decide)
    refine lv_iload_n hx hb dX6_whyNotTake_4 rfl (lv_at hl 1 rfl) ?_
    refine lv_aload_n hx hb dX6_whyNotTake_5 rfl (lv_at hl 0 rfl) ?_
    refine va_get (ci := 6) (v := .ref nd_) (C := RX6) (T := TX6) (N := 8) hx hb htA in_X6 hown hK hP 0 rfl rfl 0 (by decide) (htA _ wd_166) (fun _ h => h) rfl dX6_whyNotTake_6 ?_
    refine va_get (ci := 0) (v := .int things_) (C := RX0) (T := TX0) (N := 10) hx hb htA in_X0 hown hK hP 4 rfl rfl 3 (by decide) (htA _ wd_86) (fun _ h => h) rfl dX6_whyNotTake_9 ?_
    refine lv_icmp_lt (tgt := 17) hx hb dX6_whyNotTake_12 (by decide) (fun c12_ => ?_) (fun c12_ => ?_)
    · have g3_ : rg (0) (7) t_ := rg_lt1 c12_ g2_ rthings_ (by decide)
      have g4_ : rg (1) (8) things_ := rg_lt2 c12_ g2_ rthings_ (by decide)
      refine lv_aload_n hx hb dX6_whyNotTake_17 rfl (lv_at hl 0 rfl) ?_
      refine va_get (ci := 6) (v := .ref ns_) (C := RX6) (T := TX6) (N := 8) hx hb htA in_X6 hown hK hP 0 rfl rfl 2 (by decide) (htA _ wd_174) (fun _ h => h) rfl dX6_whyNotTake_18 ?_
      refine lv_iload_n hx hb dX6_whyNotTake_21 rfl (lv_at hl 1 rfl) ?_
      refine va_iald hx hb hK hP 1 0 rfl rfl (rg_in g3_ (by decide) (by decide)) dX6_whyNotTake_22 ?_
      refine lv_topi (fun v10220_ ev10220_ => ?_)
      refine lv_if_ne (tgt := 28) hx hb dX6_whyNotTake_23 (by decide) (fun c23_ => ?_) (fun c23_ => ?_)
      · refine lv_aload_n hx hb dX6_whyNotTake_28 rfl (lv_at hl 0 rfl) ?_
        refine va_get (ci := 6) (v := .ref ns_) (C := RX6) (T := TX6) (N := 8) hx hb htA in_X6 hown hK hP 0 rfl rfl 2 (by decide) (htA _ wd_174) (fun _ h => h) rfl dX6_whyNotTake_29 ?_
        refine lv_iload_n hx hb dX6_whyNotTake_32 rfl (lv_at hl 1 rfl) ?_
        refine va_iald hx hb hK hP 1 0 rfl rfl (rg_in g3_ (by decide) (by decide)) dX6_whyNotTake_33 ?_
        refine lv_topi (fun v10330_ ev10330_ => ?_)
        refine lv_iconst (v := 2) hx hb dX6_whyNotTake_34 (by decide) ?_
        refine joinT (D := D) (A := A) (pc := 64) (mL := 3) (τ := Int32) (WS := fun i => [(no_, .inr (6, [.ref nd_, .int hour_, .ref ns_, .ref nc_, .ref nl_, .ref nt_, .ref nh_, .int fallen_])), (ns_, .inl (cy 0, 8, .inl (fs_))), (nc_, .inl (cy 0, 8, .inl (fc_))), (nl_, .inl (cy 0, 8, .inl (fl_))), (nd_, .inr (0, [.int lines_, .int columns_, .int levels_, .int things_, .int walkers_, .ref nw_, .ref nr_, .ref nq_, hangs_, frees_]))]) (LV := fun i => [(0, .ref no_), (1, .int t_)]) (ST := fun i => [.int i]) (cells := 0) (slots := 0) (fun i => rg (0) (1) i) (fun v206400_ H locs ls hI hP hD hS hl => ?_) (fun j64_ => ?_)
        · have hI : rg (0) (1) v206400_ := hI
          have rv206400_ := hI
          have hP : va_P D vwCl [(no_, .inr (6, [.ref nd_, .int hour_, .ref ns_, .ref nc_, .ref nl_, .ref nt_, .ref nh_, .int fallen_])), (ns_, .inl (cy 0, 8, .inl (fs_))), (nc_, .inl (cy 0, 8, .inl (fc_))), (nl_, .inl (cy 0, 8, .inl (fl_))), (nd_, .inr (0, [.int lines_, .int columns_, .int levels_, .int things_, .int walkers_, .ref nw_, .ref nr_, .ref nq_, hangs_, frees_]))] H := hP
          have hD := va_ca hP hD
          have hl : lv_has ls 3 [(0, .ref no_), (1, .int t_)] := hl
          refine lv_istore_n (lv' := [(2, .int v206400_), (0, .ref no_), (1, .int t_)]) hx hb dX6_whyNotTake_64 rfl hl (by decide) rfl (fun ls hl => ?_)
          refine lv_iload_n hx hb dX6_whyNotTake_65 rfl (lv_at hl 0 rfl) ?_
          refine joinT (D := D) (A := A) (pc := 74) (mL := 3) (τ := Int32) (WS := fun i => [(no_, .inr (6, [.ref nd_, .int hour_, .ref ns_, .ref nc_, .ref nl_, .ref nt_, .ref nh_, .int fallen_])), (ns_, .inl (cy 0, 8, .inl (fs_))), (nc_, .inl (cy 0, 8, .inl (fc_))), (nl_, .inl (cy 0, 8, .inl (fl_))), (nd_, .inr (0, [.int lines_, .int columns_, .int levels_, .int things_, .int walkers_, .ref nw_, .ref nr_, .ref nq_, hangs_, frees_]))]) (LV := fun i => [(2, .int v206400_), (0, .ref no_), (1, .int t_)]) (ST := fun i => [.int i]) (cells := 0) (slots := 0) (fun i => rg (0) (3) i) (fun v207400_ H locs ls hI hP hD hS hl => ?_) (fun j74_ => ?_)
          · have hI : rg (0) (3) v207400_ := hI
            have rv207400_ := hI
            have hP : va_P D vwCl [(no_, .inr (6, [.ref nd_, .int hour_, .ref ns_, .ref nc_, .ref nl_, .ref nt_, .ref nh_, .int fallen_])), (ns_, .inl (cy 0, 8, .inl (fs_))), (nc_, .inl (cy 0, 8, .inl (fc_))), (nl_, .inl (cy 0, 8, .inl (fl_))), (nd_, .inr (0, [.int lines_, .int columns_, .int levels_, .int things_, .int walkers_, .ref nw_, .ref nr_, .ref nq_, hangs_, frees_]))] H := hP
            have hD := va_ca hP hD
            have hl : lv_has ls 3 [(2, .int v206400_), (0, .ref no_), (1, .int t_)] := hl
            exact rI hX hE hP hD hS dX6_whyNotTake_74 (by decide) (by decide) ⟨rfl, (rg_w rv207400_ (by decide) (by decide))⟩
          refine lv_if_eq (tgt := 73) hx hb dX6_whyNotTake_66 (by decide) (fun c66_ => ?_) (fun c66_ => ?_)
          · have g5_ : rg (0) (0) v206400_ := rg_eq c66_ (rg_lit (by decide) : rg (0) (0) (0 : Int32))
            refine lv_iconst (v := 0) hx hb dX6_whyNotTake_73 (by decide) ?_
            exact j74_ 0 _ _ ls (rg_w (rg_lit (by decide) : rg (0) (0) (0 : Int32)) (by decide) (by decide)) hP hD hS (lv_sub hl [0, 1, 2] rfl)
          · have g6_ : rg (1) (1) v206400_ := rg_ne1 c66_ rv206400_ (by decide) (by decide)
            refine lv_iconst (v := 3) hx hb dX6_whyNotTake_69 (by decide) ?_
            refine lv_goto (tgt := 74) hx hb dX6_whyNotTake_70 (by decide) ?_
            exact j74_ 3 _ _ ls (rg_w (rg_lit (by decide) : rg (3) (3) (3 : Int32)) (by decide) (by decide)) hP hD hS (lv_sub hl [0, 1, 2] rfl)
        refine joinT (D := D) (A := A) (pc := 63) (mL := 3) (τ := Unit) (WS := fun i => [(no_, .inr (6, [.ref nd_, .int hour_, .ref ns_, .ref nc_, .ref nl_, .ref nt_, .ref nh_, .int fallen_])), (ns_, .inl (cy 0, 8, .inl (fs_))), (nc_, .inl (cy 0, 8, .inl (fc_))), (nl_, .inl (cy 0, 8, .inl (fl_))), (nd_, .inr (0, [.int lines_, .int columns_, .int levels_, .int things_, .int walkers_, .ref nw_, .ref nr_, .ref nq_, hangs_, frees_]))]) (LV := fun i => [(0, .ref no_), (1, .int t_)]) (ST := fun i => []) (cells := 0) (slots := 0) (fun i => True) (fun u0_ H locs ls hI hP hD hS hl => ?_) (fun j63_ => ?_)
        · have hP : va_P D vwCl [(no_, .inr (6, [.ref nd_, .int hour_, .ref ns_, .ref nc_, .ref nl_, .ref nt_, .ref nh_, .int fallen_])), (ns_, .inl (cy 0, 8, .inl (fs_))), (nc_, .inl (cy 0, 8, .inl (fc_))), (nl_, .inl (cy 0, 8, .inl (fl_))), (nd_, .inr (0, [.int lines_, .int columns_, .int levels_, .int things_, .int walkers_, .ref nw_, .ref nr_, .ref nq_, hangs_, frees_]))] H := hP
          have hD := va_ca hP hD
          have hl : lv_has ls 3 [(0, .ref no_), (1, .int t_)] := hl
          refine lv_iconst (v := 0) hx hb dX6_whyNotTake_63 (by decide) ?_
          exact j64_ 0 _ _ ls (rg_w (rg_lit (by decide) : rg (0) (0) (0 : Int32)) (by decide) (by decide)) hP hD hS (lv_sub hl [0, 1] rfl)
        refine lv_icmp_ne (tgt := 63) hx hb dX6_whyNotTake_35 (by decide) (fun c35_ => ?_) (fun c35_ => ?_)
        · exact j63_ () _ _ ls trivial hP hD hS (lv_sub hl [0, 1] rfl)
        · have g7_ : rg (2) (2) v10330_ := rg_eq c35_ (rg_lit (by decide) : rg (2) (2) (2 : Int32))
          refine lv_aload_n hx hb dX6_whyNotTake_38 rfl (lv_at hl 0 rfl) ?_
          refine va_get (ci := 6) (v := .ref nl_) (C := RX6) (T := TX6) (N := 8) hx hb htA in_X6 hown hK hP 0 rfl rfl 4 (by decide) (htA _ wd_181) (fun _ h => h) rfl dX6_whyNotTake_39 ?_
          refine lv_iload_n hx hb dX6_whyNotTake_42 rfl (lv_at hl 1 rfl) ?_
          refine va_iald hx hb hK hP 3 0 rfl rfl (rg_in g3_ (by decide) (by decide)) dX6_whyNotTake_43 ?_
          refine lv_topi (fun v10430_ ev10430_ => ?_)
          refine lv_iconst (v := 1) hx hb dX6_whyNotTake_44 (by decide) ?_
          refine lv_iadd hx hb dX6_whyNotTake_45 ?_
          refine lv_aload_n hx hb dX6_whyNotTake_46 rfl (lv_at hl 0 rfl) ?_
          refine lv_aload_n hx hb dX6_whyNotTake_47 rfl (lv_at hl 0 rfl) ?_
          refine va_get (ci := 6) (v := .ref nc_) (C := RX6) (T := TX6) (N := 8) hx hb htA in_X6 hown hK hP 0 rfl rfl 3 (by decide) (htA _ wd_178) (fun _ h => h) rfl dX6_whyNotTake_48 ?_
          refine lv_iload_n hx hb dX6_whyNotTake_51 rfl (lv_at hl 1 rfl) ?_
          refine va_iald hx hb hK hP 2 0 rfl rfl (rg_in g3_ (by decide) (by decide)) dX6_whyNotTake_52 ?_
          refine lv_topi (fun v10520_ ev10520_ => ?_)
          refine kVi (As := [.int v10520_]) (rest := [.int (v10430_ + 1)]) (wr := [(nl_, .inl (cy 0, 8, .inl (fl_)))]) hX hE (sf_X6_lying l D cy no_ nd_ hour_ ns_ nc_ nl_ nt_ nh_ fallen_ fs_ fc_ lines_ columns_ levels_ things_ walkers_ nw_ nr_ nq_ hangs_ frees_ v10520_ (rg_w rcolumns_ (by decide) (by decide)) (rg_w rlevels_ (by decide) (by decide)) (rg_w g4_ (by decide) (by decide)) (rg_w rwalkers_ (by decide) (by decide))) (cwVA 1 htA wd_379 wd_376 wd_6 wd_377 wd_378 (by decide +kernel) ⟨by decide, by decide⟩) hP hD hS [0, 1, 2, 4] [3] rfl rfl (by decide +kernel) 0 rfl rfl rfl rfl hl.1 rfl (Nat.le_of_ble_eq_true rfl) dX6_whyNotTake_53 (by decide) (fun v10530_ W1 H locs hw hP hD hS => ?_)
          refine W.widen (k := 0) (n := 0) (by decide) (by decide) ?_
          obtain rfl := hw
          have hP : va_P D vwCl [(nl_, .inl (cy 0, 8, .inl (fl_))), (no_, .inr (6, [.ref nd_, .int hour_, .ref ns_, .ref nc_, .ref nl_, .ref nt_, .ref nh_, .int fallen_])), (ns_, .inl (cy 0, 8, .inl (fs_))), (nc_, .inl (cy 0, 8, .inl (fc_))), (nd_, .inr (0, [.int lines_, .int columns_, .int levels_, .int things_, .int walkers_, .ref nw_, .ref nr_, .ref nq_, hangs_, frees_]))] H := hP
          have hD := va_ca hP hD
          refine lv_icmp_ge (tgt := 63) hx hb dX6_whyNotTake_56 (by decide) (fun c56_ => ?_) (fun c56_ => ?_)
          · have hP : va_P D vwCl [(no_, .inr (6, [.ref nd_, .int hour_, .ref ns_, .ref nc_, .ref nl_, .ref nt_, .ref nh_, .int fallen_])), (ns_, .inl (cy 0, 8, .inl (fs_))), (nc_, .inl (cy 0, 8, .inl (fc_))), (nl_, .inl (cy 0, 8, .inl (fl_))), (nd_, .inr (0, [.int lines_, .int columns_, .int levels_, .int things_, .int walkers_, .ref nw_, .ref nr_, .ref nq_, hangs_, frees_]))] H := hP.sub [1, 2, 3, 0, 4] rfl
            have hD : va_D A [(no_, .inr (6, [.ref nd_, .int hour_, .ref ns_, .ref nc_, .ref nl_, .ref nt_, .ref nh_, .int fallen_])), (ns_, .inl (cy 0, 8, .inl (fs_))), (nc_, .inl (cy 0, 8, .inl (fc_))), (nl_, .inl (cy 0, 8, .inl (fl_))), (nd_, .inr (0, [.int lines_, .int columns_, .int levels_, .int things_, .int walkers_, .ref nw_, .ref nr_, .ref nq_, hangs_, frees_]))] := hD.sub [1, 2, 3, 0, 4] (by decide +kernel) rfl
            exact j63_ () _ _ ls trivial hP hD hS (lv_sub hl [0, 1] rfl)
          · have g8_ : rg (-2147483648) (2147483646) (v10430_ + 1) := rg_lt1 (rg_nle c56_) (rg_any _) (rg_any _) (by decide)
            have g9_ : rg (-2147483647) (2147483647) v10530_ := rg_lt2 (rg_nle c56_) (rg_any _) (rg_any _) (by decide)
            refine lv_iconst (v := 1) hx hb dX6_whyNotTake_59 (by decide) ?_
            refine lv_goto (tgt := 64) hx hb dX6_whyNotTake_60 (by decide) ?_
            have hP : va_P D vwCl [(no_, .inr (6, [.ref nd_, .int hour_, .ref ns_, .ref nc_, .ref nl_, .ref nt_, .ref nh_, .int fallen_])), (ns_, .inl (cy 0, 8, .inl (fs_))), (nc_, .inl (cy 0, 8, .inl (fc_))), (nl_, .inl (cy 0, 8, .inl (fl_))), (nd_, .inr (0, [.int lines_, .int columns_, .int levels_, .int things_, .int walkers_, .ref nw_, .ref nr_, .ref nq_, hangs_, frees_]))] H := hP.sub [1, 2, 3, 0, 4] rfl
            have hD : va_D A [(no_, .inr (6, [.ref nd_, .int hour_, .ref ns_, .ref nc_, .ref nl_, .ref nt_, .ref nh_, .int fallen_])), (ns_, .inl (cy 0, 8, .inl (fs_))), (nc_, .inl (cy 0, 8, .inl (fc_))), (nl_, .inl (cy 0, 8, .inl (fl_))), (nd_, .inr (0, [.int lines_, .int columns_, .int levels_, .int things_, .int walkers_, .ref nw_, .ref nr_, .ref nq_, hangs_, frees_]))] := hD.sub [1, 2, 3, 0, 4] (by decide +kernel) rfl
            exact j64_ 1 _ _ ls (rg_w (rg_lit (by decide) : rg (1) (1) (1 : Int32)) (by decide) (by decide)) hP hD hS (lv_sub hl [0, 1] rfl)
      · have g10_ : rg (0) (0) v10220_ := rg_eq c23_ (rg_lit (by decide) : rg (0) (0) (0 : Int32))
        refine lv_iconst (v := 2) hx hb dX6_whyNotTake_26 (by decide) ?_
        exact rI hX hE hP hD hS dX6_whyNotTake_27 (by decide) (by decide) ⟨rfl, (rg_w (rg_lit (by decide) : rg (2) (2) (2 : Int32)) (by decide) (by decide))⟩
    · exact j15_ () _ _ ls trivial hP hD hS (lv_sub hl [0, 1] rfl)
set_option maxHeartbeats 4000000 in
set_option maxRecDepth 100000 in
theorem sf_X6_pickUp (l : Launch) (D : va_G) (cy : Nat → ClassId) (no_ : Nat) (nd_ : Nat) (hour_ : Int32) (ns_ : Nat) (nc_ : Nat) (nl_ : Nat) (nt_ : Nat) (nh_ : Nat) (fallen_ : Int32) (fs_ : Nat → Int32) (ft_ : Nat → Int32) (t_ : Int32) (rt_ : rg (0) (7) t_) : Cv l yX6_pickUp cX6_pickUp 2 none { frames := 0, cells := 0, slots := 0, locals := 0 } D cy [.ref no_, .int t_] [(no_, .inr (6, [.ref nd_, .int hour_, .ref ns_, .ref nc_, .ref nl_, .ref nt_, .ref nh_, .int fallen_])), (ns_, .inl (cy 0, 8, .inl (fs_))), (nt_, .inl (cy 0, 8, .inl (ft_)))] (fun W1 => ∃ (x0_ : Nat → Int32) (x1_ : Nat → Int32), W1 = [(no_, .inr (6, [.ref nd_, .int hour_, .ref ns_, .ref nc_, .ref nl_, .ref nt_, .ref nh_, .int fallen_])), (ns_, .inl (cy 0, 8, .inl (x0_))), (nt_, .inl (cy 0, 8, .inl (x1_)))]) := by
  refine Cv.of (by decide) (Nat.le_of_ble_eq_true rfl) ?_
  intro p e s m below meth c A ls hX hE hP hD hl hin
  obtain ⟨hx, hb, hr, hml, hown, htA, hlk⟩ := id hX
  have hK := hE.1
  have hS : va_S A s.heap s.heap [] := va_S.rf
  have hl : lv_has ls 2 [(0, .ref no_), (1, .int t_)] := hl
  refine lv_aload_n hx hb dX6_pickUp_0 rfl (lv_at hl 0 rfl) ?_
  refine va_get (ci := 6) (v := .ref ns_) (C := RX6) (T := TX6) (N := 8) hx hb htA in_X6 hown hK hP 0 rfl rfl 2 (by decide) (htA _ wd_174) (fun _ h => h) rfl dX6_pickUp_1 ?_
  refine lv_iload_n hx hb dX6_pickUp_4 rfl (lv_at hl 1 rfl) ?_
  refine lv_iconst (v := 0) hx hb dX6_pickUp_5 (by decide) ?_
  refine va_iast hx hb hK hP hD hS 1 0 rfl rfl (rg_in rt_ (by decide) (by decide)) dX6_pickUp_6 (fun H locs hP hD hS => ?_)
  have hP : va_P D vwCl [(no_, .inr (6, [.ref nd_, .int hour_, .ref ns_, .ref nc_, .ref nl_, .ref nt_, .ref nh_, .int fallen_])), (ns_, .inl (cy 0, 8, .inl (upd fs_ t_.toNatClampNeg 0))), (nt_, .inl (cy 0, 8, .inl (ft_)))] H := hP
  have hD := va_ca hP hD
  refine lv_aload_n hx hb dX6_pickUp_7 rfl (lv_at hl 0 rfl) ?_
  refine va_get (ci := 6) (v := .ref nt_) (C := RX6) (T := TX6) (N := 8) hx hb htA in_X6 hown hK hP 0 rfl rfl 5 (by decide) (htA _ wd_184) (fun _ h => h) rfl dX6_pickUp_8 ?_
  refine lv_iload_n hx hb dX6_pickUp_11 rfl (lv_at hl 1 rfl) ?_
  refine lv_aload_n hx hb dX6_pickUp_12 rfl (lv_at hl 0 rfl) ?_
  refine va_get (ci := 6) (v := .int hour_) (C := RX6) (T := TX6) (N := 8) hx hb htA in_X6 hown hK hP 0 rfl rfl 1 (by decide) (htA _ wd_170) (fun _ h => h) rfl dX6_pickUp_13 ?_
  refine va_iast hx hb hK hP hD hS 2 0 rfl rfl (rg_in rt_ (by decide) (by decide)) dX6_pickUp_16 (fun H locs hP hD hS => ?_)
  have hP : va_P D vwCl [(no_, .inr (6, [.ref nd_, .int hour_, .ref ns_, .ref nc_, .ref nl_, .ref nt_, .ref nh_, .int fallen_])), (ns_, .inl (cy 0, 8, .inl (upd fs_ t_.toNatClampNeg 0))), (nt_, .inl (cy 0, 8, .inl (upd ft_ t_.toNatClampNeg hour_)))] H := hP
  have hD := va_ca hP hD
  exact rV hX hE hP hD hS dX6_pickUp_17 (by decide) (by decide) ⟨(upd fs_ t_.toNatClampNeg 0), (upd ft_ t_.toNatClampNeg hour_), rfl⟩
set_option maxHeartbeats 4000000 in
set_option maxRecDepth 100000 in
theorem sf_X6_dueIn (l : Launch) (D : va_G) (cy : Nat → ClassId) (no_ : Nat) (nd_ : Nat) (hour_ : Int32) (ns_ : Nat) (nc_ : Nat) (nl_ : Nat) (nt_ : Nat) (nh_ : Nat) (fallen_ : Int32) (fs_ : Nat → Int32) (fc_ : Nat → Int32) (ft_ : Nat → Int32) (lines_ : Int32) (columns_ : Int32) (levels_ : Int32) (things_ : Int32) (walkers_ : Int32) (nw_ : Nat) (nr_ : Nat) (nq_ : Nat) (hangs_ : Value) (frees_ : Value) (c_ : Int32) (latest_ : Int32) (rcolumns_ : rg (1) (6) columns_) (rlevels_ : rg (1) (9) levels_) (rthings_ : rg (0) (8) things_) (rwalkers_ : rg (0) (4) walkers_) : Ci l yX6_dueIn cX6_dueIn 5 (some .int) { frames := 0, cells := 0, slots := 0, locals := 0 } D cy [.ref no_, .int c_, .int latest_] [(no_, .inr (6, [.ref nd_, .int hour_, .ref ns_, .ref nc_, .ref nl_, .ref nt_, .ref nh_, .int fallen_])), (ns_, .inl (cy 0, 8, .inl (fs_))), (nc_, .inl (cy 0, 8, .inl (fc_))), (nt_, .inl (cy 0, 8, .inl (ft_))), (nd_, .inr (0, [.int lines_, .int columns_, .int levels_, .int things_, .int walkers_, .ref nw_, .ref nr_, .ref nq_, hangs_, frees_]))] (fun r W1 => W1 = [(no_, .inr (6, [.ref nd_, .int hour_, .ref ns_, .ref nc_, .ref nl_, .ref nt_, .ref nh_, .int fallen_])), (ns_, .inl (cy 0, 8, .inl (fs_))), (nc_, .inl (cy 0, 8, .inl (fc_))), (nt_, .inl (cy 0, 8, .inl (ft_))), (nd_, .inr (0, [.int lines_, .int columns_, .int levels_, .int things_, .int walkers_, .ref nw_, .ref nr_, .ref nq_, hangs_, frees_]))]) := by
  refine Ci.of (by decide) (Nat.le_of_ble_eq_true rfl) ?_
  intro p e s m below meth c A ls hX hE hP hD hl
  obtain ⟨hx, hb, hr, hml, hown, htA, hlk⟩ := id hX
  have hK := hE.1
  have hS : va_S A s.heap s.heap [] := va_S.rf
  have hl : lv_has ls 5 [(0, .ref no_), (1, .int c_), (2, .int latest_)] := hl
  refine lv_iconst (v := 0) hx hb dX6_dueIn_0 (by decide) ?_
  refine lv_istore_n (lv' := [(3, .int 0), (0, .ref no_), (1, .int c_), (2, .int latest_)]) hx hb dX6_dueIn_1 rfl hl (by decide) rfl (fun ls hl => ?_)
  refine lv_iconst (v := 0) hx hb dX6_dueIn_2 (by decide) ?_
  refine lv_istore (lv' := [(4, .int 0), (3, .int 0), (0, .ref no_), (1, .int c_), (2, .int latest_)]) hx hb dX6_dueIn_3 hl (by decide) rfl (fun ls hl => ?_)
  refine loopT (τ := Int32 × Int32) (WS := fun i => [(no_, .inr (6, [.ref nd_, .int hour_, .ref ns_, .ref nc_, .ref nl_, .ref nt_, .ref nh_, .int fallen_])), (ns_, .inl (cy 0, 8, .inl (fs_))), (nc_, .inl (cy 0, 8, .inl (fc_))), (nt_, .inl (cy 0, 8, .inl (ft_))), (nd_, .inr (0, [.int lines_, .int columns_, .int levels_, .int things_, .int walkers_, .ref nw_, .ref nr_, .ref nq_, hangs_, frees_]))]) (LV := fun i => [(4, .int i.1), (3, .int i.2), (0, .ref no_), (1, .int c_), (2, .int latest_)]) (fun i => (9 - i.1.toInt).toNat) (fun i => rg (0) (8) i.1) ?_ (0, 0) (rg_w (rg_lit (by decide) : rg (0) (0) (0 : Int32)) (by decide) (by decide)) hP hD hS (lv_sub hl [0, 1, 2, 3, 4] rfl)
  intro i_ H locs ls hI ih5_ hP hD hS hl
  obtain ⟨v200500_, v200501_⟩ := i_
  have hI : rg (0) (8) v200500_ := hI
  have rv200500_ := hI
  have hP : va_P D vwCl [(no_, .inr (6, [.ref nd_, .int hour_, .ref ns_, .ref nc_, .ref nl_, .ref nt_, .ref nh_, .int fallen_])), (ns_, .inl (cy 0, 8, .inl (fs_))), (nc_, .inl (cy 0, 8, .inl (fc_))), (nt_, .inl (cy 0, 8, .inl (ft_))), (nd_, .inr (0, [.int lines_, .int columns_, .int levels_, .int things_, .int walkers_, .ref nw_, .ref nr_, .ref nq_, hangs_, frees_]))] H := hP
  have hD := va_ca hP hD
  have hl : lv_has ls 5 [(4, .int v200500_), (3, .int v200501_), (0, .ref no_), (1, .int c_), (2, .int latest_)] := hl
  refine lv_iload hx hb dX6_dueIn_5 (lv_at hl 0 rfl) ?_
  refine lv_aload_n hx hb dX6_dueIn_7 rfl (lv_at hl 2 rfl) ?_
  refine va_get (ci := 6) (v := .ref nd_) (C := RX6) (T := TX6) (N := 8) hx hb htA in_X6 hown hK hP 0 rfl rfl 0 (by decide) (htA _ wd_166) (fun _ h => h) rfl dX6_dueIn_8 ?_
  refine va_get (ci := 0) (v := .int things_) (C := RX0) (T := TX0) (N := 10) hx hb htA in_X0 hown hK hP 4 rfl rfl 3 (by decide) (htA _ wd_86) (fun _ h => h) rfl dX6_dueIn_11 ?_
  refine lv_icmp_ge (tgt := 63) hx hb dX6_dueIn_14 (by decide) (fun c14_ => ?_) (fun c14_ => ?_)
  · refine lv_iload_n hx hb dX6_dueIn_63 rfl (lv_at hl 1 rfl) ?_
    exact rI hX hE hP hD hS dX6_dueIn_64 (by decide) (by decide) rfl
  · have g1_ : rg (0) (7) v200500_ := rg_lt1 (rg_nle c14_) rv200500_ rthings_ (by decide)
    have g2_ : rg (1) (8) things_ := rg_lt2 (rg_nle c14_) rv200500_ rthings_ (by decide)
    refine lv_aload_n hx hb dX6_dueIn_17 rfl (lv_at hl 2 rfl) ?_
    refine va_get (ci := 6) (v := .ref ns_) (C := RX6) (T := TX6) (N := 8) hx hb htA in_X6 hown hK hP 0 rfl rfl 2 (by decide) (htA _ wd_174) (fun _ h => h) rfl dX6_dueIn_18 ?_
    refine lv_iload hx hb dX6_dueIn_21 (lv_at hl 0 rfl) ?_
    refine va_iald hx hb hK hP 1 0 rfl rfl (rg_in g1_ (by decide) (by decide)) dX6_dueIn_23 ?_
    refine lv_topi (fun v10230_ ev10230_ => ?_)
    refine lv_iconst (v := 1) hx hb dX6_dueIn_24 (by decide) ?_
    refine joinT (D := D) (A := A) (pc := 57) (mL := 5) (τ := Int32) (WS := fun i => [(no_, .inr (6, [.ref nd_, .int hour_, .ref ns_, .ref nc_, .ref nl_, .ref nt_, .ref nh_, .int fallen_])), (ns_, .inl (cy 0, 8, .inl (fs_))), (nc_, .inl (cy 0, 8, .inl (fc_))), (nt_, .inl (cy 0, 8, .inl (ft_))), (nd_, .inr (0, [.int lines_, .int columns_, .int levels_, .int things_, .int walkers_, .ref nw_, .ref nr_, .ref nq_, hangs_, frees_]))]) (LV := fun i => [(4, .int v200500_), (3, .int i), (0, .ref no_), (1, .int c_), (2, .int latest_)]) (ST := fun i => []) (cells := 0) (slots := 0) (fun i => True) (fun v205700_ H locs ls hI hP hD hS hl => ?_) (fun j57_ => ?_)
    · have hP : va_P D vwCl [(no_, .inr (6, [.ref nd_, .int hour_, .ref ns_, .ref nc_, .ref nl_, .ref nt_, .ref nh_, .int fallen_])), (ns_, .inl (cy 0, 8, .inl (fs_))), (nc_, .inl (cy 0, 8, .inl (fc_))), (nt_, .inl (cy 0, 8, .inl (ft_))), (nd_, .inr (0, [.int lines_, .int columns_, .int levels_, .int things_, .int walkers_, .ref nw_, .ref nr_, .ref nq_, hangs_, frees_]))] H := hP
      have hD := va_ca hP hD
      have hl : lv_has ls 5 [(4, .int v200500_), (3, .int v205700_), (0, .ref no_), (1, .int c_), (2, .int latest_)] := hl
      refine lv_iinc (v := v200500_ + 1) (lv' := [(4, .int (v200500_ + 1)), (3, .int v205700_), (0, .ref no_), (1, .int c_), (2, .int latest_)]) hx hb dX6_dueIn_57 hl (k := 0) rfl rfl (by decide) rfl (fun ls hl => ?_)
      have g3_ : rg (1) (8) (v200500_ + 1) := rg_add g1_ (rg_lit (by decide) : rg (1) (1) (1 : Int32)) (by decide) (by decide) (by decide) (by decide)
      refine lv_goto (tgt := 5) hx hb dX6_dueIn_60 (by decide) ?_
      exact ih5_ (v200500_ + 1, v205700_) _ _ ls (rg_w g3_ (by decide) (by decide)) (show (9 - (v200500_ + 1).toInt).toNat < (9 - v200500_.toInt).toNat from by rw [show (v200500_ + 1).toInt = v200500_.toInt + 1 from inc32 v200500_ (by have hq := (rv200500_).2; omega)]; have hq := (g1_).1; have hq2 := (g1_).2; omega) hP hD hS (lv_sub hl [0, 1, 2, 3, 4] rfl)
    refine lv_icmp_ne (tgt := 57) hx hb dX6_dueIn_25 (by decide) (fun c25_ => ?_) (fun c25_ => ?_)
    · exact j57_ v200501_ _ _ ls trivial hP hD hS (lv_sub hl [0, 1, 2, 3, 4] rfl)
    · have g4_ : rg (1) (1) v10230_ := rg_eq c25_ (rg_lit (by decide) : rg (1) (1) (1 : Int32))
      refine lv_aload_n hx hb dX6_dueIn_28 rfl (lv_at hl 2 rfl) ?_
      refine va_get (ci := 6) (v := .ref nc_) (C := RX6) (T := TX6) (N := 8) hx hb htA in_X6 hown hK hP 0 rfl rfl 3 (by decide) (htA _ wd_178) (fun _ h => h) rfl dX6_dueIn_29 ?_
      refine lv_iload hx hb dX6_dueIn_32 (lv_at hl 0 rfl) ?_
      refine va_iald hx hb hK hP 2 0 rfl rfl (rg_in g1_ (by decide) (by decide)) dX6_dueIn_34 ?_
      refine lv_topi (fun v10340_ ev10340_ => ?_)
      refine lv_iload_n hx hb dX6_dueIn_35 rfl (lv_at hl 3 rfl) ?_
      refine lv_icmp_ne (tgt := 57) hx hb dX6_dueIn_36 (by decide) (fun c36_ => ?_) (fun c36_ => ?_)
      · exact j57_ v200501_ _ _ ls trivial hP hD hS (lv_sub hl [0, 1, 2, 3, 4] rfl)
      · refine lv_aload_n hx hb dX6_dueIn_39 rfl (lv_at hl 2 rfl) ?_
        refine va_get (ci := 6) (v := .ref nt_) (C := RX6) (T := TX6) (N := 8) hx hb htA in_X6 hown hK hP 0 rfl rfl 5 (by decide) (htA _ wd_184) (fun _ h => h) rfl dX6_dueIn_40 ?_
        refine lv_iload hx hb dX6_dueIn_43 (lv_at hl 0 rfl) ?_
        refine va_iald hx hb hK hP 3 0 rfl rfl (rg_in g1_ (by decide) (by decide)) dX6_dueIn_45 ?_
        refine lv_topi (fun v10450_ ev10450_ => ?_)
        refine lv_iload_n hx hb dX6_dueIn_46 rfl (lv_at hl 4 rfl) ?_
        refine lv_icmp_gt (tgt := 57) hx hb dX6_dueIn_47 (by decide) (fun c47_ => ?_) (fun c47_ => ?_)
        · have g5_ : rg (-2147483648) (2147483646) latest_ := rg_lt1 c47_ (rg_any _) (rg_any _) (by decide)
          have g6_ : rg (-2147483647) (2147483647) v10450_ := rg_lt2 c47_ (rg_any _) (rg_any _) (by decide)
          exact j57_ v200501_ _ _ ls trivial hP hD hS (lv_sub hl [0, 1, 2, 3, 4] rfl)
        · refine lv_iload_n hx hb dX6_dueIn_50 rfl (lv_at hl 1 rfl) ?_
          refine lv_iconst (v := 1) hx hb dX6_dueIn_51 (by decide) ?_
          refine lv_iload hx hb dX6_dueIn_52 (lv_at hl 0 rfl) ?_
          refine lv_ishl hx hb dX6_dueIn_54 ?_
          refine lv_ior hx hb dX6_dueIn_55 ?_
          refine lv_istore_n (lv' := [(3, .int (v200501_ ||| (1 <<< (v200500_ &&& 31)))), (4, .int v200500_), (0, .ref no_), (1, .int c_), (2, .int latest_)]) hx hb dX6_dueIn_56 rfl hl (by decide) rfl (fun ls hl => ?_)
          exact j57_ (v200501_ ||| (1 <<< (v200500_ &&& 31))) _ _ ls trivial hP hD hS (lv_sub hl [1, 0, 2, 3, 4] rfl)
set_option maxHeartbeats 4000000 in
set_option maxRecDepth 100000 in
theorem sf_X6_copyFrom (l : Launch) (D : va_G) (cy : Nat → ClassId) (no_ : Nat) (nd_ : Nat) (hour_ : Int32) (ns_ : Nat) (nc_ : Nat) (nl_ : Nat) (nt_ : Nat) (nh_ : Nat) (fallen_ : Int32) (fs_ : Nat → Int32) (fc_ : Nat → Int32) (fl_ : Nat → Int32) (ft_ : Nat → Int32) (fh_ : Nat → Int32) (noB_ : Nat) (ndB_ : Nat) (hourB_ : Int32) (nsB_ : Nat) (ncB_ : Nat) (nlB_ : Nat) (ntB_ : Nat) (nhB_ : Nat) (fallenB_ : Int32) (fsB_ : Nat → Int32) (fcB_ : Nat → Int32) (flB_ : Nat → Int32) (ftB_ : Nat → Int32) (fhB_ : Nat → Int32) : Cv l yX6_copyFrom cX6_copyFrom 2 none { frames := 1, cells := 0, slots := 0, locals := 60 } D cy [.ref no_, .ref noB_] [(no_, .inr (6, [.ref nd_, .int hour_, .ref ns_, .ref nc_, .ref nl_, .ref nt_, .ref nh_, .int fallen_])), (ns_, .inl (cy 0, 8, .inl (fs_))), (nc_, .inl (cy 0, 8, .inl (fc_))), (nl_, .inl (cy 0, 8, .inl (fl_))), (nt_, .inl (cy 0, 8, .inl (ft_))), (nh_, .inl (cy 0, 4, .inl (fh_))), (noB_, .inr (6, [.ref ndB_, .int hourB_, .ref nsB_, .ref ncB_, .ref nlB_, .ref ntB_, .ref nhB_, .int fallenB_])), (nsB_, .inl (cy 0, 8, .inl (fsB_))), (ncB_, .inl (cy 0, 8, .inl (fcB_))), (nlB_, .inl (cy 0, 8, .inl (flB_))), (ntB_, .inl (cy 0, 8, .inl (ftB_))), (nhB_, .inl (cy 0, 4, .inl (fhB_)))] (fun W1 => ∃ (x0_ : Nat) (x1_ : Int32) (x2_ : Int32) (x3_ : Nat → Int32) (x4_ : Nat → Int32) (x5_ : Nat → Int32) (x6_ : Nat → Int32) (x7_ : Nat → Int32), W1 = [(no_, .inr (6, [.ref x0_, .int x1_, .ref ns_, .ref nc_, .ref nl_, .ref nt_, .ref nh_, .int x2_])), (ns_, .inl (cy 0, 8, .inl (x3_))), (nc_, .inl (cy 0, 8, .inl (x4_))), (nl_, .inl (cy 0, 8, .inl (x5_))), (nt_, .inl (cy 0, 8, .inl (x6_))), (nh_, .inl (cy 0, 4, .inl (x7_))), (noB_, .inr (6, [.ref ndB_, .int hourB_, .ref nsB_, .ref ncB_, .ref nlB_, .ref ntB_, .ref nhB_, .int fallenB_])), (nsB_, .inl (cy 0, 8, .inl (fsB_))), (ncB_, .inl (cy 0, 8, .inl (fcB_))), (nlB_, .inl (cy 0, 8, .inl (flB_))), (ntB_, .inl (cy 0, 8, .inl (ftB_))), (nhB_, .inl (cy 0, 4, .inl (fhB_)))]) := by
  refine Cv.of (by decide) (Nat.le_of_ble_eq_true rfl) ?_
  intro p e s m below meth c A ls hX hE hP hD hl hin
  obtain ⟨hx, hb, hr, hml, hown, htA, hlk⟩ := id hX
  have hK := hE.1
  have hS : va_S A s.heap s.heap [] := va_S.rf
  have hl : lv_has ls 2 [(0, .ref no_), (1, .ref noB_)] := hl
  refine lv_aload_n hx hb dX6_copyFrom_0 rfl (lv_at hl 0 rfl) ?_
  refine lv_aload_n hx hb dX6_copyFrom_1 rfl (lv_at hl 1 rfl) ?_
  refine va_get (ci := 6) (v := .ref ndB_) (C := RX6) (T := TX6) (N := 8) hx hb htA in_X6 hown hK hP 6 rfl rfl 0 (by decide) (htA _ wd_166) (fun _ h => h) rfl dX6_copyFrom_2 ?_
  refine va_put (ci := 6) (v := .ref ndB_) (ty := tyX6 0) (C := RX6) (T := TX6) (N := 8) hx hb htA in_X6 tyX6 tyX6_ok nmX6 hown hK hP hD hS 0 rfl rfl 0 (by decide) (htA _ wd_166) (fun _ h => h) rfl (by decide +kernel) rfl rfl (Nat.le_of_ble_eq_true rfl) dX6_copyFrom_5 (fun H locs hP hD hS => ?_)
  have hP : va_P D vwCl [(no_, .inr (6, [.ref ndB_, .int hour_, .ref ns_, .ref nc_, .ref nl_, .ref nt_, .ref nh_, .int fallen_])), (ns_, .inl (cy 0, 8, .inl (fs_))), (nc_, .inl (cy 0, 8, .inl (fc_))), (nl_, .inl (cy 0, 8, .inl (fl_))), (nt_, .inl (cy 0, 8, .inl (ft_))), (nh_, .inl (cy 0, 4, .inl (fh_))), (noB_, .inr (6, [.ref ndB_, .int hourB_, .ref nsB_, .ref ncB_, .ref nlB_, .ref ntB_, .ref nhB_, .int fallenB_])), (nsB_, .inl (cy 0, 8, .inl (fsB_))), (ncB_, .inl (cy 0, 8, .inl (fcB_))), (nlB_, .inl (cy 0, 8, .inl (flB_))), (ntB_, .inl (cy 0, 8, .inl (ftB_))), (nhB_, .inl (cy 0, 4, .inl (fhB_)))] H := hP
  have hD := va_ca hP hD
  refine lv_aload_n hx hb dX6_copyFrom_8 rfl (lv_at hl 0 rfl) ?_
  refine lv_aload_n hx hb dX6_copyFrom_9 rfl (lv_at hl 1 rfl) ?_
  refine va_get (ci := 6) (v := .int hourB_) (C := RX6) (T := TX6) (N := 8) hx hb htA in_X6 hown hK hP 6 rfl rfl 1 (by decide) (htA _ wd_170) (fun _ h => h) rfl dX6_copyFrom_10 ?_
  refine va_put (ci := 6) (v := .int hourB_) (ty := .int) (C := RX6) (T := TX6) (N := 8) hx hb htA in_X6 tyX6 tyX6_ok nmX6 hown hK hP hD hS 0 rfl rfl 1 (by decide) (htA _ wd_170) (fun _ h => h) rfl (by decide +kernel) rfl rfl (Nat.le_of_ble_eq_true rfl) dX6_copyFrom_13 (fun H locs hP hD hS => ?_)
  have hP : va_P D vwCl [(no_, .inr (6, [.ref ndB_, .int hourB_, .ref ns_, .ref nc_, .ref nl_, .ref nt_, .ref nh_, .int fallen_])), (ns_, .inl (cy 0, 8, .inl (fs_))), (nc_, .inl (cy 0, 8, .inl (fc_))), (nl_, .inl (cy 0, 8, .inl (fl_))), (nt_, .inl (cy 0, 8, .inl (ft_))), (nh_, .inl (cy 0, 4, .inl (fh_))), (noB_, .inr (6, [.ref ndB_, .int hourB_, .ref nsB_, .ref ncB_, .ref nlB_, .ref ntB_, .ref nhB_, .int fallenB_])), (nsB_, .inl (cy 0, 8, .inl (fsB_))), (ncB_, .inl (cy 0, 8, .inl (fcB_))), (nlB_, .inl (cy 0, 8, .inl (flB_))), (ntB_, .inl (cy 0, 8, .inl (ftB_))), (nhB_, .inl (cy 0, 4, .inl (fhB_)))] H := hP
  have hD := va_ca hP hD
  refine lv_aload_n hx hb dX6_copyFrom_16 rfl (lv_at hl 0 rfl) ?_
  refine lv_aload_n hx hb dX6_copyFrom_17 rfl (lv_at hl 1 rfl) ?_
  refine va_get (ci := 6) (v := .int fallenB_) (C := RX6) (T := TX6) (N := 8) hx hb htA in_X6 hown hK hP 6 rfl rfl 7 (by decide) (htA _ wd_189) (fun _ h => h) rfl dX6_copyFrom_18 ?_
  refine va_put (ci := 6) (v := .int fallenB_) (ty := .int) (C := RX6) (T := TX6) (N := 8) hx hb htA in_X6 tyX6 tyX6_ok nmX6 hown hK hP hD hS 0 rfl rfl 7 (by decide) (htA _ wd_189) (fun _ h => h) rfl (by decide +kernel) rfl rfl (Nat.le_of_ble_eq_true rfl) dX6_copyFrom_21 (fun H locs hP hD hS => ?_)
  have hP : va_P D vwCl [(no_, .inr (6, [.ref ndB_, .int hourB_, .ref ns_, .ref nc_, .ref nl_, .ref nt_, .ref nh_, .int fallenB_])), (ns_, .inl (cy 0, 8, .inl (fs_))), (nc_, .inl (cy 0, 8, .inl (fc_))), (nl_, .inl (cy 0, 8, .inl (fl_))), (nt_, .inl (cy 0, 8, .inl (ft_))), (nh_, .inl (cy 0, 4, .inl (fh_))), (noB_, .inr (6, [.ref ndB_, .int hourB_, .ref nsB_, .ref ncB_, .ref nlB_, .ref ntB_, .ref nhB_, .int fallenB_])), (nsB_, .inl (cy 0, 8, .inl (fsB_))), (ncB_, .inl (cy 0, 8, .inl (fcB_))), (nlB_, .inl (cy 0, 8, .inl (flB_))), (ntB_, .inl (cy 0, 8, .inl (ftB_))), (nhB_, .inl (cy 0, 4, .inl (fhB_)))] H := hP
  have hD := va_ca hP hD
  refine lv_aload_n hx hb dX6_copyFrom_24 rfl (lv_at hl 1 rfl) ?_
  refine va_get (ci := 6) (v := .ref nsB_) (C := RX6) (T := TX6) (N := 8) hx hb htA in_X6 hown hK hP 6 rfl rfl 2 (by decide) (htA _ wd_174) (fun _ h => h) rfl dX6_copyFrom_25 ?_
  refine lv_iconst (v := 0) hx hb dX6_copyFrom_28 (by decide) ?_
  refine lv_aload_n hx hb dX6_copyFrom_29 rfl (lv_at hl 0 rfl) ?_
  refine va_get (ci := 6) (v := .ref ns_) (C := RX6) (T := TX6) (N := 8) hx hb htA in_X6 hown hK hP 0 rfl rfl 2 (by decide) (htA _ wd_174) (fun _ h => h) rfl dX6_copyFrom_30 ?_
  refine lv_iconst (v := 0) hx hb dX6_copyFrom_33 (by decide) ?_
  refine lv_bipush (v := 8) hx hb dX6_copyFrom_34 (by decide) ?_
  refine va_copyi hx hb (hml.trans hl.1.symm) hown (htA _ wd_392) (htA _ wd_394) (htA _ wd_393) (htA _ wd_22) hK hP hD hS 7 1 0 0 rfl rfl rfl rfl rfl (by decide) (by decide) (by decide) (by decide) (by decide) (fun _ _ => rfl) (by decide) (by decide) dX6_copyFrom_36 (fun H locs hP hD hS => ?_)
  have hP : va_P D vwCl [(no_, .inr (6, [.ref ndB_, .int hourB_, .ref ns_, .ref nc_, .ref nl_, .ref nt_, .ref nh_, .int fallenB_])), (ns_, .inl (cy 0, 8, .inl (va_cpy (fsB_) (fs_) (0 : Int32).toNatClampNeg (0 : Int32).toNatClampNeg (8 : Int32).toNatClampNeg))), (nc_, .inl (cy 0, 8, .inl (fc_))), (nl_, .inl (cy 0, 8, .inl (fl_))), (nt_, .inl (cy 0, 8, .inl (ft_))), (nh_, .inl (cy 0, 4, .inl (fh_))), (noB_, .inr (6, [.ref ndB_, .int hourB_, .ref nsB_, .ref ncB_, .ref nlB_, .ref ntB_, .ref nhB_, .int fallenB_])), (nsB_, .inl (cy 0, 8, .inl (fsB_))), (ncB_, .inl (cy 0, 8, .inl (fcB_))), (nlB_, .inl (cy 0, 8, .inl (flB_))), (ntB_, .inl (cy 0, 8, .inl (ftB_))), (nhB_, .inl (cy 0, 4, .inl (fhB_)))] H := hP
  have hD := va_ca hP hD
  refine lv_aload_n hx hb dX6_copyFrom_39 rfl (lv_at hl 1 rfl) ?_
  refine va_get (ci := 6) (v := .ref ncB_) (C := RX6) (T := TX6) (N := 8) hx hb htA in_X6 hown hK hP 6 rfl rfl 3 (by decide) (htA _ wd_178) (fun _ h => h) rfl dX6_copyFrom_40 ?_
  refine lv_iconst (v := 0) hx hb dX6_copyFrom_43 (by decide) ?_
  refine lv_aload_n hx hb dX6_copyFrom_44 rfl (lv_at hl 0 rfl) ?_
  refine va_get (ci := 6) (v := .ref nc_) (C := RX6) (T := TX6) (N := 8) hx hb htA in_X6 hown hK hP 0 rfl rfl 3 (by decide) (htA _ wd_178) (fun _ h => h) rfl dX6_copyFrom_45 ?_
  refine lv_iconst (v := 0) hx hb dX6_copyFrom_48 (by decide) ?_
  refine lv_bipush (v := 8) hx hb dX6_copyFrom_49 (by decide) ?_
  refine va_copyi hx hb (hml.trans hl.1.symm) hown (htA _ wd_392) (htA _ wd_394) (htA _ wd_393) (htA _ wd_22) hK hP hD hS 8 2 0 0 rfl rfl rfl rfl rfl (by decide) (by decide) (by decide) (by decide) (by decide) (fun _ _ => rfl) (by decide) (by decide) dX6_copyFrom_51 (fun H locs hP hD hS => ?_)
  have hP : va_P D vwCl [(no_, .inr (6, [.ref ndB_, .int hourB_, .ref ns_, .ref nc_, .ref nl_, .ref nt_, .ref nh_, .int fallenB_])), (ns_, .inl (cy 0, 8, .inl (va_cpy (fsB_) (fs_) (0 : Int32).toNatClampNeg (0 : Int32).toNatClampNeg (8 : Int32).toNatClampNeg))), (nc_, .inl (cy 0, 8, .inl (va_cpy (fcB_) (fc_) (0 : Int32).toNatClampNeg (0 : Int32).toNatClampNeg (8 : Int32).toNatClampNeg))), (nl_, .inl (cy 0, 8, .inl (fl_))), (nt_, .inl (cy 0, 8, .inl (ft_))), (nh_, .inl (cy 0, 4, .inl (fh_))), (noB_, .inr (6, [.ref ndB_, .int hourB_, .ref nsB_, .ref ncB_, .ref nlB_, .ref ntB_, .ref nhB_, .int fallenB_])), (nsB_, .inl (cy 0, 8, .inl (fsB_))), (ncB_, .inl (cy 0, 8, .inl (fcB_))), (nlB_, .inl (cy 0, 8, .inl (flB_))), (ntB_, .inl (cy 0, 8, .inl (ftB_))), (nhB_, .inl (cy 0, 4, .inl (fhB_)))] H := hP
  have hD := va_ca hP hD
  refine lv_aload_n hx hb dX6_copyFrom_54 rfl (lv_at hl 1 rfl) ?_
  refine va_get (ci := 6) (v := .ref nlB_) (C := RX6) (T := TX6) (N := 8) hx hb htA in_X6 hown hK hP 6 rfl rfl 4 (by decide) (htA _ wd_181) (fun _ h => h) rfl dX6_copyFrom_55 ?_
  refine lv_iconst (v := 0) hx hb dX6_copyFrom_58 (by decide) ?_
  refine lv_aload_n hx hb dX6_copyFrom_59 rfl (lv_at hl 0 rfl) ?_
  refine va_get (ci := 6) (v := .ref nl_) (C := RX6) (T := TX6) (N := 8) hx hb htA in_X6 hown hK hP 0 rfl rfl 4 (by decide) (htA _ wd_181) (fun _ h => h) rfl dX6_copyFrom_60 ?_
  refine lv_iconst (v := 0) hx hb dX6_copyFrom_63 (by decide) ?_
  refine lv_bipush (v := 8) hx hb dX6_copyFrom_64 (by decide) ?_
  refine va_copyi hx hb (hml.trans hl.1.symm) hown (htA _ wd_392) (htA _ wd_394) (htA _ wd_393) (htA _ wd_22) hK hP hD hS 9 3 0 0 rfl rfl rfl rfl rfl (by decide) (by decide) (by decide) (by decide) (by decide) (fun _ _ => rfl) (by decide) (by decide) dX6_copyFrom_66 (fun H locs hP hD hS => ?_)
  have hP : va_P D vwCl [(no_, .inr (6, [.ref ndB_, .int hourB_, .ref ns_, .ref nc_, .ref nl_, .ref nt_, .ref nh_, .int fallenB_])), (ns_, .inl (cy 0, 8, .inl (va_cpy (fsB_) (fs_) (0 : Int32).toNatClampNeg (0 : Int32).toNatClampNeg (8 : Int32).toNatClampNeg))), (nc_, .inl (cy 0, 8, .inl (va_cpy (fcB_) (fc_) (0 : Int32).toNatClampNeg (0 : Int32).toNatClampNeg (8 : Int32).toNatClampNeg))), (nl_, .inl (cy 0, 8, .inl (va_cpy (flB_) (fl_) (0 : Int32).toNatClampNeg (0 : Int32).toNatClampNeg (8 : Int32).toNatClampNeg))), (nt_, .inl (cy 0, 8, .inl (ft_))), (nh_, .inl (cy 0, 4, .inl (fh_))), (noB_, .inr (6, [.ref ndB_, .int hourB_, .ref nsB_, .ref ncB_, .ref nlB_, .ref ntB_, .ref nhB_, .int fallenB_])), (nsB_, .inl (cy 0, 8, .inl (fsB_))), (ncB_, .inl (cy 0, 8, .inl (fcB_))), (nlB_, .inl (cy 0, 8, .inl (flB_))), (ntB_, .inl (cy 0, 8, .inl (ftB_))), (nhB_, .inl (cy 0, 4, .inl (fhB_)))] H := hP
  have hD := va_ca hP hD
  refine lv_aload_n hx hb dX6_copyFrom_69 rfl (lv_at hl 1 rfl) ?_
  refine va_get (ci := 6) (v := .ref ntB_) (C := RX6) (T := TX6) (N := 8) hx hb htA in_X6 hown hK hP 6 rfl rfl 5 (by decide) (htA _ wd_184) (fun _ h => h) rfl dX6_copyFrom_70 ?_
  refine lv_iconst (v := 0) hx hb dX6_copyFrom_73 (by decide) ?_
  refine lv_aload_n hx hb dX6_copyFrom_74 rfl (lv_at hl 0 rfl) ?_
  refine va_get (ci := 6) (v := .ref nt_) (C := RX6) (T := TX6) (N := 8) hx hb htA in_X6 hown hK hP 0 rfl rfl 5 (by decide) (htA _ wd_184) (fun _ h => h) rfl dX6_copyFrom_75 ?_
  refine lv_iconst (v := 0) hx hb dX6_copyFrom_78 (by decide) ?_
  refine lv_bipush (v := 8) hx hb dX6_copyFrom_79 (by decide) ?_
  refine va_copyi hx hb (hml.trans hl.1.symm) hown (htA _ wd_392) (htA _ wd_394) (htA _ wd_393) (htA _ wd_22) hK hP hD hS 10 4 0 0 rfl rfl rfl rfl rfl (by decide) (by decide) (by decide) (by decide) (by decide) (fun _ _ => rfl) (by decide) (by decide) dX6_copyFrom_81 (fun H locs hP hD hS => ?_)
  have hP : va_P D vwCl [(no_, .inr (6, [.ref ndB_, .int hourB_, .ref ns_, .ref nc_, .ref nl_, .ref nt_, .ref nh_, .int fallenB_])), (ns_, .inl (cy 0, 8, .inl (va_cpy (fsB_) (fs_) (0 : Int32).toNatClampNeg (0 : Int32).toNatClampNeg (8 : Int32).toNatClampNeg))), (nc_, .inl (cy 0, 8, .inl (va_cpy (fcB_) (fc_) (0 : Int32).toNatClampNeg (0 : Int32).toNatClampNeg (8 : Int32).toNatClampNeg))), (nl_, .inl (cy 0, 8, .inl (va_cpy (flB_) (fl_) (0 : Int32).toNatClampNeg (0 : Int32).toNatClampNeg (8 : Int32).toNatClampNeg))), (nt_, .inl (cy 0, 8, .inl (va_cpy (ftB_) (ft_) (0 : Int32).toNatClampNeg (0 : Int32).toNatClampNeg (8 : Int32).toNatClampNeg))), (nh_, .inl (cy 0, 4, .inl (fh_))), (noB_, .inr (6, [.ref ndB_, .int hourB_, .ref nsB_, .ref ncB_, .ref nlB_, .ref ntB_, .ref nhB_, .int fallenB_])), (nsB_, .inl (cy 0, 8, .inl (fsB_))), (ncB_, .inl (cy 0, 8, .inl (fcB_))), (nlB_, .inl (cy 0, 8, .inl (flB_))), (ntB_, .inl (cy 0, 8, .inl (ftB_))), (nhB_, .inl (cy 0, 4, .inl (fhB_)))] H := hP
  have hD := va_ca hP hD
  refine lv_aload_n hx hb dX6_copyFrom_84 rfl (lv_at hl 1 rfl) ?_
  refine va_get (ci := 6) (v := .ref nhB_) (C := RX6) (T := TX6) (N := 8) hx hb htA in_X6 hown hK hP 6 rfl rfl 6 (by decide) (htA _ wd_187) (fun _ h => h) rfl dX6_copyFrom_85 ?_
  refine lv_iconst (v := 0) hx hb dX6_copyFrom_88 (by decide) ?_
  refine lv_aload_n hx hb dX6_copyFrom_89 rfl (lv_at hl 0 rfl) ?_
  refine va_get (ci := 6) (v := .ref nh_) (C := RX6) (T := TX6) (N := 8) hx hb htA in_X6 hown hK hP 0 rfl rfl 6 (by decide) (htA _ wd_187) (fun _ h => h) rfl dX6_copyFrom_90 ?_
  refine lv_iconst (v := 0) hx hb dX6_copyFrom_93 (by decide) ?_
  refine lv_iconst (v := 4) hx hb dX6_copyFrom_94 (by decide) ?_
  refine va_copyi hx hb (hml.trans hl.1.symm) hown (htA _ wd_392) (htA _ wd_394) (htA _ wd_393) (htA _ wd_22) hK hP hD hS 11 5 0 0 rfl rfl rfl rfl rfl (by decide) (by decide) (by decide) (by decide) (by decide) (fun _ _ => rfl) (by decide) (by decide) dX6_copyFrom_95 (fun H locs hP hD hS => ?_)
  have hP : va_P D vwCl [(no_, .inr (6, [.ref ndB_, .int hourB_, .ref ns_, .ref nc_, .ref nl_, .ref nt_, .ref nh_, .int fallenB_])), (ns_, .inl (cy 0, 8, .inl (va_cpy (fsB_) (fs_) (0 : Int32).toNatClampNeg (0 : Int32).toNatClampNeg (8 : Int32).toNatClampNeg))), (nc_, .inl (cy 0, 8, .inl (va_cpy (fcB_) (fc_) (0 : Int32).toNatClampNeg (0 : Int32).toNatClampNeg (8 : Int32).toNatClampNeg))), (nl_, .inl (cy 0, 8, .inl (va_cpy (flB_) (fl_) (0 : Int32).toNatClampNeg (0 : Int32).toNatClampNeg (8 : Int32).toNatClampNeg))), (nt_, .inl (cy 0, 8, .inl (va_cpy (ftB_) (ft_) (0 : Int32).toNatClampNeg (0 : Int32).toNatClampNeg (8 : Int32).toNatClampNeg))), (nh_, .inl (cy 0, 4, .inl (va_cpy (fhB_) (fh_) (0 : Int32).toNatClampNeg (0 : Int32).toNatClampNeg (4 : Int32).toNatClampNeg))), (noB_, .inr (6, [.ref ndB_, .int hourB_, .ref nsB_, .ref ncB_, .ref nlB_, .ref ntB_, .ref nhB_, .int fallenB_])), (nsB_, .inl (cy 0, 8, .inl (fsB_))), (ncB_, .inl (cy 0, 8, .inl (fcB_))), (nlB_, .inl (cy 0, 8, .inl (flB_))), (ntB_, .inl (cy 0, 8, .inl (ftB_))), (nhB_, .inl (cy 0, 4, .inl (fhB_)))] H := hP
  have hD := va_ca hP hD
  exact rV hX hE hP hD hS dX6_copyFrom_98 (by decide) (by decide) ⟨ndB_, hourB_, fallenB_, (va_cpy (fsB_) (fs_) (0 : Int32).toNatClampNeg (0 : Int32).toNatClampNeg (8 : Int32).toNatClampNeg), (va_cpy (fcB_) (fc_) (0 : Int32).toNatClampNeg (0 : Int32).toNatClampNeg (8 : Int32).toNatClampNeg), (va_cpy (flB_) (fl_) (0 : Int32).toNatClampNeg (0 : Int32).toNatClampNeg (8 : Int32).toNatClampNeg), (va_cpy (ftB_) (ft_) (0 : Int32).toNatClampNeg (0 : Int32).toNatClampNeg (8 : Int32).toNatClampNeg), (va_cpy (fhB_) (fh_) (0 : Int32).toNatClampNeg (0 : Int32).toNatClampNeg (4 : Int32).toNatClampNeg), rfl⟩
set_option maxHeartbeats 4000000 in
set_option maxRecDepth 100000 in
theorem sf_X6_begin (l : Launch) (D : va_G) (cy : Nat → ClassId) (no_ : Nat) (nd_ : Nat) (hour_ : Int32) (ns_ : Nat) (nc_ : Nat) (nl_ : Nat) (nt_ : Nat) (nh_ : Nat) (fallen_ : Int32) (fh_ : Nat → Int32) (nd2_ : Nat) : Cv l yX6_begin cX6_begin 3 none { frames := 0, cells := 0, slots := 0, locals := 0 } D cy [.ref no_, .ref nd2_] [(no_, .inr (6, [.ref nd_, .int hour_, .ref ns_, .ref nc_, .ref nl_, .ref nt_, .ref nh_, .int fallen_])), (nh_, .inl (cy 0, 4, .inl (fh_)))] (fun W1 => ∃ (x0_ : Nat) (x1_ : Int32) (x2_ : Int32) (x3_ : Nat → Int32), rg (0) (0) x1_ ∧ rg (0) (0) x2_ ∧ W1 = [(no_, .inr (6, [.ref x0_, .int x1_, .ref ns_, .ref nc_, .ref nl_, .ref nt_, .ref nh_, .int x2_])), (nh_, .inl (cy 0, 4, .inl (x3_)))]) := by
  refine Cv.of (by decide) (Nat.le_of_ble_eq_true rfl) ?_
  intro p e s m below meth c A ls hX hE hP hD hl hin
  obtain ⟨hx, hb, hr, hml, hown, htA, hlk⟩ := id hX
  have hK := hE.1
  have hS : va_S A s.heap s.heap [] := va_S.rf
  have hl : lv_has ls 3 [(0, .ref no_), (1, .ref nd2_)] := hl
  refine lv_aload_n hx hb dX6_begin_0 rfl (lv_at hl 0 rfl) ?_
  refine lv_aload_n hx hb dX6_begin_1 rfl (lv_at hl 1 rfl) ?_
  refine va_put (ci := 6) (v := .ref nd2_) (ty := tyX6 0) (C := RX6) (T := TX6) (N := 8) hx hb htA in_X6 tyX6 tyX6_ok nmX6 hown hK hP hD hS 0 rfl rfl 0 (by decide) (htA _ wd_166) (fun _ h => h) rfl (by decide +kernel) rfl rfl (Nat.le_of_ble_eq_true rfl) dX6_begin_2 (fun H locs hP hD hS => ?_)
  have hP : va_P D vwCl [(no_, .inr (6, [.ref nd2_, .int hour_, .ref ns_, .ref nc_, .ref nl_, .ref nt_, .ref nh_, .int fallen_])), (nh_, .inl (cy 0, 4, .inl (fh_)))] H := hP
  have hD := va_ca hP hD
  refine lv_aload_n hx hb dX6_begin_5 rfl (lv_at hl 0 rfl) ?_
  refine lv_iconst (v := 0) hx hb dX6_begin_6 (by decide) ?_
  refine va_put (ci := 6) (v := .int 0) (ty := .int) (C := RX6) (T := TX6) (N := 8) hx hb htA in_X6 tyX6 tyX6_ok nmX6 hown hK hP hD hS 0 rfl rfl 1 (by decide) (htA _ wd_170) (fun _ h => h) rfl (by decide +kernel) rfl rfl (Nat.le_of_ble_eq_true rfl) dX6_begin_7 (fun H locs hP hD hS => ?_)
  have hP : va_P D vwCl [(no_, .inr (6, [.ref nd2_, .int 0, .ref ns_, .ref nc_, .ref nl_, .ref nt_, .ref nh_, .int fallen_])), (nh_, .inl (cy 0, 4, .inl (fh_)))] H := hP
  have hD := va_ca hP hD
  refine lv_aload_n hx hb dX6_begin_10 rfl (lv_at hl 0 rfl) ?_
  refine lv_iconst (v := 0) hx hb dX6_begin_11 (by decide) ?_
  refine va_put (ci := 6) (v := .int 0) (ty := .int) (C := RX6) (T := TX6) (N := 8) hx hb htA in_X6 tyX6 tyX6_ok nmX6 hown hK hP hD hS 0 rfl rfl 7 (by decide) (htA _ wd_189) (fun _ h => h) rfl (by decide +kernel) rfl rfl (Nat.le_of_ble_eq_true rfl) dX6_begin_12 (fun H locs hP hD hS => ?_)
  have hP : va_P D vwCl [(no_, .inr (6, [.ref nd2_, .int 0, .ref ns_, .ref nc_, .ref nl_, .ref nt_, .ref nh_, .int 0])), (nh_, .inl (cy 0, 4, .inl (fh_)))] H := hP
  have hD := va_ca hP hD
  refine lv_iconst (v := 0) hx hb dX6_begin_15 (by decide) ?_
  refine lv_istore_n (lv' := [(2, .int 0), (0, .ref no_), (1, .ref nd2_)]) hx hb dX6_begin_16 rfl hl (by decide) rfl (fun ls hl => ?_)
  refine loopT (τ := Int32 × (Nat → Int32)) (WS := fun i => [(no_, .inr (6, [.ref nd2_, .int 0, .ref ns_, .ref nc_, .ref nl_, .ref nt_, .ref nh_, .int 0])), (nh_, .inl (cy 0, 4, .inl (i.2)))]) (LV := fun i => [(2, .int i.1), (0, .ref no_), (1, .ref nd2_)]) (fun i => (5 - i.1.toInt).toNat) (fun i => rg (0) (4) i.1) ?_ (0, fh_) (rg_w (rg_lit (by decide) : rg (0) (0) (0 : Int32)) (by decide) (by decide)) hP hD hS (lv_sub hl [0, 1, 2] rfl)
  intro i_ H locs ls hI ih17_ hP hD hS hl
  obtain ⟨v201700_, g201701_⟩ := i_
  have hI : rg (0) (4) v201700_ := hI
  have rv201700_ := hI
  have hP : va_P D vwCl [(no_, .inr (6, [.ref nd2_, .int 0, .ref ns_, .ref nc_, .ref nl_, .ref nt_, .ref nh_, .int 0])), (nh_, .inl (cy 0, 4, .inl (g201701_)))] H := hP
  have hD := va_ca hP hD
  have hl : lv_has ls 3 [(2, .int v201700_), (0, .ref no_), (1, .ref nd2_)] := hl
  refine lv_iload_n hx hb dX6_begin_17 rfl (lv_at hl 0 rfl) ?_
  refine lv_iconst (v := 4) hx hb dX6_begin_18 (by decide) ?_
  refine lv_icmp_ge (tgt := 35) hx hb dX6_begin_19 (by decide) (fun c19_ => ?_) (fun c19_ => ?_)
  · have g1_ : rg (4) (4) v201700_ := rg_le2 c19_ (rg_lit (by decide) : rg (4) (4) (4 : Int32)) rv201700_ (by decide)
    exact rV hX hE hP hD hS dX6_begin_35 (by decide) (by decide) ⟨nd2_, 0, 0, g201701_, (rg_w (rg_lit (by decide) : rg (0) (0) (0 : Int32)) (by decide) (by decide)), (rg_w (rg_lit (by decide) : rg (0) (0) (0 : Int32)) (by decide) (by decide)), rfl⟩
  · have g2_ : rg (0) (3) v201700_ := rg_lt1 (rg_nle c19_) rv201700_ (rg_lit (by decide) : rg (4) (4) (4 : Int32)) (by decide)
    refine lv_aload_n hx hb dX6_begin_22 rfl (lv_at hl 1 rfl) ?_
    refine va_get (ci := 6) (v := .ref nh_) (C := RX6) (T := TX6) (N := 8) hx hb htA in_X6 hown hK hP 0 rfl rfl 6 (by decide) (htA _ wd_187) (fun _ h => h) rfl dX6_begin_23 ?_
    refine lv_iload_n hx hb dX6_begin_26 rfl (lv_at hl 0 rfl) ?_
    refine lv_iconst (v := 0) hx hb dX6_begin_27 (by decide) ?_
    refine va_iast hx hb hK hP hD hS 1 0 rfl rfl (rg_in g2_ (by decide) (by decide)) dX6_begin_28 (fun H locs hP hD hS => ?_)
    have hP : va_P D vwCl [(no_, .inr (6, [.ref nd2_, .int 0, .ref ns_, .ref nc_, .ref nl_, .ref nt_, .ref nh_, .int 0])), (nh_, .inl (cy 0, 4, .inl (upd g201701_ v201700_.toNatClampNeg 0)))] H := hP
    have hD := va_ca hP hD
    refine lv_iinc (v := v201700_ + 1) (lv' := [(2, .int (v201700_ + 1)), (0, .ref no_), (1, .ref nd2_)]) hx hb dX6_begin_29 hl (k := 0) rfl rfl (by decide) rfl (fun ls hl => ?_)
    have g3_ : rg (1) (4) (v201700_ + 1) := rg_add g2_ (rg_lit (by decide) : rg (1) (1) (1 : Int32)) (by decide) (by decide) (by decide) (by decide)
    refine lv_goto (tgt := 17) hx hb dX6_begin_32 (by decide) ?_
    exact ih17_ (v201700_ + 1, upd g201701_ v201700_.toNatClampNeg 0) _ _ ls (rg_w g3_ (by decide) (by decide)) (show (5 - (v201700_ + 1).toInt).toNat < (5 - v201700_.toInt).toNat from by rw [show (v201700_ + 1).toInt = v201700_.toInt + 1 from inc32 v201700_ (by have hq := (rv201700_).2; omega)]; have hq := (g2_).1; have hq2 := (g2_).2; omega) hP hD hS (lv_sub hl [0, 1, 2] rfl)
