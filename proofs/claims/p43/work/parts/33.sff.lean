set_option maxHeartbeats 4000000 in
set_option maxRecDepth 100000 in
theorem sf_X10_needThing (l : Launch) (hlt : l.stackTraces = false) (D : va_G) (cy : Nat → ClassId) (nx_ : Nat) (ntp_ : Nat) (tapeLength_ : Int32) (faultKind_ : Int32) (faultPlace_ : Int32) (nrd_ : Nat) (no_ : Nat) (nhi_ : Nat) (nf_ : Nat) (ny_ : Nat) (nff_ : Nat) (nty_ : Nat) (nim_ : Nat) (drawn_ : Int32) (nd_ : Nat) (hour_ : Int32) (ns_ : Nat) (nc_ : Nat) (nl_ : Nat) (nt_ : Nat) (nh_ : Nat) (fallen_ : Int32) (lines_ : Int32) (columns_ : Int32) (levels_ : Int32) (things_ : Int32) (walkers_ : Int32) (nw_ : Nat) (nr_ : Nat) (nq_ : Nat) (hangs_ : Value) (frees_ : Value) (t_ : Int32) (rcolumns_ : rg (1) (6) columns_) (rlevels_ : rg (1) (9) levels_) (rthings_ : rg (0) (8) things_) (rwalkers_ : rg (0) (4) walkers_) (rtapeLength_ : rg (0) (900) tapeLength_) : Xv l yX10_needThing cX10_needThing 2 none { frames := 6, cells := 1, slots := 6, locals := 90 } D cy [.ref nx_, .int t_] [(nx_, .inr (10, [.ref ntp_, .int tapeLength_, .int faultKind_, .int faultPlace_, .ref nrd_, .ref no_, .ref nhi_, .ref nf_, .ref ny_, .ref nff_, .ref nty_, .ref nim_, .int drawn_])), (no_, .inr (6, [.ref nd_, .int hour_, .ref ns_, .ref nc_, .ref nl_, .ref nt_, .ref nh_, .int fallen_])), (nd_, .inr (0, [.int lines_, .int columns_, .int levels_, .int things_, .int walkers_, .ref nw_, .ref nr_, .ref nq_, hangs_, frees_]))] (fun W1 => rg (0) (7) t_ ∧ W1 = [(nx_, .inr (10, [.ref ntp_, .int tapeLength_, .int faultKind_, .int faultPlace_, .ref nrd_, .ref no_, .ref nhi_, .ref nf_, .ref ny_, .ref nff_, .ref nty_, .ref nim_, .int drawn_])), (no_, .inr (6, [.ref nd_, .int hour_, .ref ns_, .ref nc_, .ref nl_, .ref nt_, .ref nh_, .int fallen_])), (nd_, .inr (0, [.int lines_, .int columns_, .int levels_, .int things_, .int walkers_, .ref nw_, .ref nr_, .ref nq_, hangs_, frees_]))]) (fun E _ => E = "java/util/NoSuchElementException") := by
  refine Xv.of (by decide) (Nat.le_of_ble_eq_true rfl) ?_
  intro p e s m below meth c A ls hX hE hP hD hl hxt
  obtain ⟨hx, hb, hr, hml, hown, htA, hlk⟩ := id hX
  have hK := hE.1
  have hS : va_S A s.heap s.heap [] := va_S.rf
  have hl : lv_has ls 2 [(0, .ref nx_), (1, .int t_)] := hl
  refine lv_iload_n hx hb dX10_needThing_0 rfl (lv_at hl 1 rfl) ?_
  refine joinT (D := D) (A := A) (pc := 18) (mL := 2) (τ := Unit) (WS := fun i => [(nx_, .inr (10, [.ref ntp_, .int tapeLength_, .int faultKind_, .int faultPlace_, .ref nrd_, .ref no_, .ref nhi_, .ref nf_, .ref ny_, .ref nff_, .ref nty_, .ref nim_, .int drawn_])), (no_, .inr (6, [.ref nd_, .int hour_, .ref ns_, .ref nc_, .ref nl_, .ref nt_, .ref nh_, .int fallen_])), (nd_, .inr (0, [.int lines_, .int columns_, .int levels_, .int things_, .int walkers_, .ref nw_, .ref nr_, .ref nq_, hangs_, frees_]))]) (LV := fun i => [(0, .ref nx_), (1, .int t_)]) (ST := fun i => []) (cells := 0) (slots := 0) (fun i => True) (fun u0_ H locs ls hI hP hD hS hl => ?_) (fun j18_ => ?_)
  · have hP : va_P D vwCl [(nx_, .inr (10, [.ref ntp_, .int tapeLength_, .int faultKind_, .int faultPlace_, .ref nrd_, .ref no_, .ref nhi_, .ref nf_, .ref ny_, .ref nff_, .ref nty_, .ref nim_, .int drawn_])), (no_, .inr (6, [.ref nd_, .int hour_, .ref ns_, .ref nc_, .ref nl_, .ref nt_, .ref nh_, .int fallen_])), (nd_, .inr (0, [.int lines_, .int columns_, .int levels_, .int things_, .int walkers_, .ref nw_, .ref nr_, .ref nq_, hangs_, frees_]))] H := hP
    have hD := va_ca hP hD
    have hl : lv_has ls 2 [(0, .ref nx_), (1, .int t_)] := hl
    exact k_throwN rx_0 rx_1 rx_2 rx_5 hlt hX hE hxt hP hD hS hl.1 (by decide) (htA _ wd_869) (htA _ wd_23) (xSW_in hE.2.2.2 "LateFalls" 183 "no such thing" (by decide)) (at_X10_185 htA hE.2.2.2) ot_X10_181_185 (htA _ wd_881) (htA _ wd_880) dX10_needThing_18 dX10_needThing_21 dX10_needThing_22 dX10_needThing_24 dX10_needThing_27 (by decide) (by decide) (by decide) (by decide) (by decide) (by decide) (rfl)
  refine lv_if_lt (tgt := 18) hx hb dX10_needThing_1 (by decide) (fun c1_ => ?_) (fun c1_ => ?_)
  · have g1_ : rg (-2147483648) (-1) t_ := rg_lt1 c1_ (rg_any _) (rg_lit (by decide) : rg (0) (0) (0 : Int32)) (by decide)
    exact j18_ () _ _ ls trivial hP hD hS (lv_sub hl [0, 1] rfl)
  · have g2_ : rg (0) (2147483647) t_ := rg_le2 (rg_nlt c1_) (rg_lit (by decide) : rg (0) (0) (0 : Int32)) (rg_any _) (by decide)
    refine lv_iload_n hx hb dX10_needThing_4 rfl (lv_at hl 1 rfl) ?_
    refine lv_aload_n hx hb dX10_needThing_5 rfl (lv_at hl 0 rfl) ?_
    refine va_get (ci := 10) (v := .ref no_) (C := RX10) (T := TX10) (N := 13) hx hb htA in_X10 hown hK hP 0 rfl rfl 5 (by decide) (htA _ wd_313) (fun _ h => h) rfl dX10_needThing_6 ?_
    refine va_get (ci := 6) (v := .ref nd_) (C := RX6) (T := TX6) (N := 8) hx hb htA in_X6 hown hK hP 1 rfl rfl 0 (by decide) (htA _ wd_168) (fun _ h => h) rfl dX10_needThing_9 ?_
    refine va_get (ci := 0) (v := .int things_) (C := RX0) (T := TX0) (N := 10) hx hb htA in_X0 hown hK hP 2 rfl rfl 3 (by decide) (htA _ wd_88) (fun _ h => h) rfl dX10_needThing_12 ?_
    refine lv_icmp_lt (tgt := 28) hx hb dX10_needThing_15 (by decide) (fun c15_ => ?_) (fun c15_ => ?_)
    · have g3_ : rg (0) (7) t_ := rg_lt1 c15_ g2_ rthings_ (by decide)
      have g4_ : rg (1) (8) things_ := rg_lt2 c15_ g2_ rthings_ (by decide)
      exact vx_ret (rV hX hE hP hD hS dX10_needThing_28 (by decide) (by decide) ⟨(rg_w g3_ (by decide) (by decide)), rfl⟩)
    · exact j18_ () _ _ ls trivial hP hD hS (lv_sub hl [0, 1] rfl)
set_option maxHeartbeats 4000000 in
set_option maxRecDepth 100000 in
theorem sf_X10_needWalker (l : Launch) (hlt : l.stackTraces = false) (D : va_G) (cy : Nat → ClassId) (nx_ : Nat) (ntp_ : Nat) (tapeLength_ : Int32) (faultKind_ : Int32) (faultPlace_ : Int32) (nrd_ : Nat) (no_ : Nat) (nhi_ : Nat) (nf_ : Nat) (ny_ : Nat) (nff_ : Nat) (nty_ : Nat) (nim_ : Nat) (drawn_ : Int32) (nd_ : Nat) (hour_ : Int32) (ns_ : Nat) (nc_ : Nat) (nl_ : Nat) (nt_ : Nat) (nh_ : Nat) (fallen_ : Int32) (lines_ : Int32) (columns_ : Int32) (levels_ : Int32) (things_ : Int32) (walkers_ : Int32) (nw_ : Nat) (nr_ : Nat) (nq_ : Nat) (hangs_ : Value) (frees_ : Value) (w_ : Int32) (rcolumns_ : rg (1) (6) columns_) (rlevels_ : rg (1) (9) levels_) (rthings_ : rg (0) (8) things_) (rwalkers_ : rg (0) (4) walkers_) (rtapeLength_ : rg (0) (900) tapeLength_) : Xv l yX10_needWalker cX10_needWalker 2 none { frames := 6, cells := 1, slots := 6, locals := 90 } D cy [.ref nx_, .int w_] [(nx_, .inr (10, [.ref ntp_, .int tapeLength_, .int faultKind_, .int faultPlace_, .ref nrd_, .ref no_, .ref nhi_, .ref nf_, .ref ny_, .ref nff_, .ref nty_, .ref nim_, .int drawn_])), (no_, .inr (6, [.ref nd_, .int hour_, .ref ns_, .ref nc_, .ref nl_, .ref nt_, .ref nh_, .int fallen_])), (nd_, .inr (0, [.int lines_, .int columns_, .int levels_, .int things_, .int walkers_, .ref nw_, .ref nr_, .ref nq_, hangs_, frees_]))] (fun W1 => rg (0) (3) w_ ∧ W1 = [(nx_, .inr (10, [.ref ntp_, .int tapeLength_, .int faultKind_, .int faultPlace_, .ref nrd_, .ref no_, .ref nhi_, .ref nf_, .ref ny_, .ref nff_, .ref nty_, .ref nim_, .int drawn_])), (no_, .inr (6, [.ref nd_, .int hour_, .ref ns_, .ref nc_, .ref nl_, .ref nt_, .ref nh_, .int fallen_])), (nd_, .inr (0, [.int lines_, .int columns_, .int levels_, .int things_, .int walkers_, .ref nw_, .ref nr_, .ref nq_, hangs_, frees_]))]) (fun E _ => E = "java/util/NoSuchElementException") := by
  refine Xv.of (by decide) (Nat.le_of_ble_eq_true rfl) ?_
  intro p e s m below meth c A ls hX hE hP hD hl hxt
  obtain ⟨hx, hb, hr, hml, hown, htA, hlk⟩ := id hX
  have hK := hE.1
  have hS : va_S A s.heap s.heap [] := va_S.rf
  have hl : lv_has ls 2 [(0, .ref nx_), (1, .int w_)] := hl
  refine lv_iload_n hx hb dX10_needWalker_0 rfl (lv_at hl 1 rfl) ?_
  refine joinT (D := D) (A := A) (pc := 18) (mL := 2) (τ := Unit) (WS := fun i => [(nx_, .inr (10, [.ref ntp_, .int tapeLength_, .int faultKind_, .int faultPlace_, .ref nrd_, .ref no_, .ref nhi_, .ref nf_, .ref ny_, .ref nff_, .ref nty_, .ref nim_, .int drawn_])), (no_, .inr (6, [.ref nd_, .int hour_, .ref ns_, .ref nc_, .ref nl_, .ref nt_, .ref nh_, .int fallen_])), (nd_, .inr (0, [.int lines_, .int columns_, .int levels_, .int things_, .int walkers_, .ref nw_, .ref nr_, .ref nq_, hangs_, frees_]))]) (LV := fun i => [(0, .ref nx_), (1, .int w_)]) (ST := fun i => []) (cells := 0) (slots := 0) (fun i => True) (fun u0_ H locs ls hI hP hD hS hl => ?_) (fun j18_ => ?_)
  · have hP : va_P D vwCl [(nx_, .inr (10, [.ref ntp_, .int tapeLength_, .int faultKind_, .int faultPlace_, .ref nrd_, .ref no_, .ref nhi_, .ref nf_, .ref ny_, .ref nff_, .ref nty_, .ref nim_, .int drawn_])), (no_, .inr (6, [.ref nd_, .int hour_, .ref ns_, .ref nc_, .ref nl_, .ref nt_, .ref nh_, .int fallen_])), (nd_, .inr (0, [.int lines_, .int columns_, .int levels_, .int things_, .int walkers_, .ref nw_, .ref nr_, .ref nq_, hangs_, frees_]))] H := hP
    have hD := va_ca hP hD
    have hl : lv_has ls 2 [(0, .ref nx_), (1, .int w_)] := hl
    exact k_throwN rx_0 rx_1 rx_2 rx_5 hlt hX hE hxt hP hD hS hl.1 (by decide) (htA _ wd_869) (htA _ wd_23) (xSW_in hE.2.2.2 "LateFalls" 189 "no such walker" (by decide)) (at_X10_185 htA hE.2.2.2) ot_X10_181_185 (htA _ wd_881) (htA _ wd_880) dX10_needWalker_18 dX10_needWalker_21 dX10_needWalker_22 dX10_needWalker_24 dX10_needWalker_27 (by decide) (by decide) (by decide) (by decide) (by decide) (by decide) (rfl)
  refine lv_if_lt (tgt := 18) hx hb dX10_needWalker_1 (by decide) (fun c1_ => ?_) (fun c1_ => ?_)
  · have g1_ : rg (-2147483648) (-1) w_ := rg_lt1 c1_ (rg_any _) (rg_lit (by decide) : rg (0) (0) (0 : Int32)) (by decide)
    exact j18_ () _ _ ls trivial hP hD hS (lv_sub hl [0, 1] rfl)
  · have g2_ : rg (0) (2147483647) w_ := rg_le2 (rg_nlt c1_) (rg_lit (by decide) : rg (0) (0) (0 : Int32)) (rg_any _) (by decide)
    refine lv_iload_n hx hb dX10_needWalker_4 rfl (lv_at hl 1 rfl) ?_
    refine lv_aload_n hx hb dX10_needWalker_5 rfl (lv_at hl 0 rfl) ?_
    refine va_get (ci := 10) (v := .ref no_) (C := RX10) (T := TX10) (N := 13) hx hb htA in_X10 hown hK hP 0 rfl rfl 5 (by decide) (htA _ wd_313) (fun _ h => h) rfl dX10_needWalker_6 ?_
    refine va_get (ci := 6) (v := .ref nd_) (C := RX6) (T := TX6) (N := 8) hx hb htA in_X6 hown hK hP 1 rfl rfl 0 (by decide) (htA _ wd_168) (fun _ h => h) rfl dX10_needWalker_9 ?_
    refine va_get (ci := 0) (v := .int walkers_) (C := RX0) (T := TX0) (N := 10) hx hb htA in_X0 hown hK hP 2 rfl rfl 4 (by decide) (htA _ wd_92) (fun _ h => h) rfl dX10_needWalker_12 ?_
    refine lv_icmp_lt (tgt := 28) hx hb dX10_needWalker_15 (by decide) (fun c15_ => ?_) (fun c15_ => ?_)
    · have g3_ : rg (0) (3) w_ := rg_lt1 c15_ g2_ rwalkers_ (by decide)
      have g4_ : rg (1) (4) walkers_ := rg_lt2 c15_ g2_ rwalkers_ (by decide)
      exact vx_ret (rV hX hE hP hD hS dX10_needWalker_28 (by decide) (by decide) ⟨(rg_w g3_ (by decide) (by decide)), rfl⟩)
    · exact j18_ () _ _ ls trivial hP hD hS (lv_sub hl [0, 1] rfl)
set_option maxHeartbeats 4000000 in
set_option maxRecDepth 100000 in
theorem sf_X10_needColumn (l : Launch) (hlt : l.stackTraces = false) (D : va_G) (cy : Nat → ClassId) (nx_ : Nat) (ntp_ : Nat) (tapeLength_ : Int32) (faultKind_ : Int32) (faultPlace_ : Int32) (nrd_ : Nat) (no_ : Nat) (nhi_ : Nat) (nf_ : Nat) (ny_ : Nat) (nff_ : Nat) (nty_ : Nat) (nim_ : Nat) (drawn_ : Int32) (nd_ : Nat) (hour_ : Int32) (ns_ : Nat) (nc_ : Nat) (nl_ : Nat) (nt_ : Nat) (nh_ : Nat) (fallen_ : Int32) (lines_ : Int32) (columns_ : Int32) (levels_ : Int32) (things_ : Int32) (walkers_ : Int32) (nw_ : Nat) (nr_ : Nat) (nq_ : Nat) (hangs_ : Value) (frees_ : Value) (c_ : Int32) (rcolumns_ : rg (1) (6) columns_) (rlevels_ : rg (1) (9) levels_) (rthings_ : rg (0) (8) things_) (rwalkers_ : rg (0) (4) walkers_) (rtapeLength_ : rg (0) (900) tapeLength_) : Xv l yX10_needColumn cX10_needColumn 2 none { frames := 6, cells := 1, slots := 6, locals := 90 } D cy [.ref nx_, .int c_] [(nx_, .inr (10, [.ref ntp_, .int tapeLength_, .int faultKind_, .int faultPlace_, .ref nrd_, .ref no_, .ref nhi_, .ref nf_, .ref ny_, .ref nff_, .ref nty_, .ref nim_, .int drawn_])), (no_, .inr (6, [.ref nd_, .int hour_, .ref ns_, .ref nc_, .ref nl_, .ref nt_, .ref nh_, .int fallen_])), (nd_, .inr (0, [.int lines_, .int columns_, .int levels_, .int things_, .int walkers_, .ref nw_, .ref nr_, .ref nq_, hangs_, frees_]))] (fun W1 => rg (0) (5) c_ ∧ W1 = [(nx_, .inr (10, [.ref ntp_, .int tapeLength_, .int faultKind_, .int faultPlace_, .ref nrd_, .ref no_, .ref nhi_, .ref nf_, .ref ny_, .ref nff_, .ref nty_, .ref nim_, .int drawn_])), (no_, .inr (6, [.ref nd_, .int hour_, .ref ns_, .ref nc_, .ref nl_, .ref nt_, .ref nh_, .int fallen_])), (nd_, .inr (0, [.int lines_, .int columns_, .int levels_, .int things_, .int walkers_, .ref nw_, .ref nr_, .ref nq_, hangs_, frees_]))]) (fun E _ => E = "java/util/NoSuchElementException") := by
  refine Xv.of (by decide) (Nat.le_of_ble_eq_true rfl) ?_
  intro p e s m below meth c A ls hX hE hP hD hl hxt
  obtain ⟨hx, hb, hr, hml, hown, htA, hlk⟩ := id hX
  have hK := hE.1
  have hS : va_S A s.heap s.heap [] := va_S.rf
  have hl : lv_has ls 2 [(0, .ref nx_), (1, .int c_)] := hl
  refine lv_iload_n hx hb dX10_needColumn_0 rfl (lv_at hl 1 rfl) ?_
  refine joinT (D := D) (A := A) (pc := 18) (mL := 2) (τ := Unit) (WS := fun i => [(nx_, .inr (10, [.ref ntp_, .int tapeLength_, .int faultKind_, .int faultPlace_, .ref nrd_, .ref no_, .ref nhi_, .ref nf_, .ref ny_, .ref nff_, .ref nty_, .ref nim_, .int drawn_])), (no_, .inr (6, [.ref nd_, .int hour_, .ref ns_, .ref nc_, .ref nl_, .ref nt_, .ref nh_, .int fallen_])), (nd_, .inr (0, [.int lines_, .int columns_, .int levels_, .int things_, .int walkers_, .ref nw_, .ref nr_, .ref nq_, hangs_, frees_]))]) (LV := fun i => [(0, .ref nx_), (1, .int c_)]) (ST := fun i => []) (cells := 0) (slots := 0) (fun i => True) (fun u0_ H locs ls hI hP hD hS hl => ?_) (fun j18_ => ?_)
  · have hP : va_P D vwCl [(nx_, .inr (10, [.ref ntp_, .int tapeLength_, .int faultKind_, .int faultPlace_, .ref nrd_, .ref no_, .ref nhi_, .ref nf_, .ref ny_, .ref nff_, .ref nty_, .ref nim_, .int drawn_])), (no_, .inr (6, [.ref nd_, .int hour_, .ref ns_, .ref nc_, .ref nl_, .ref nt_, .ref nh_, .int fallen_])), (nd_, .inr (0, [.int lines_, .int columns_, .int levels_, .int things_, .int walkers_, .ref nw_, .ref nr_, .ref nq_, hangs_, frees_]))] H := hP
    have hD := va_ca hP hD
    have hl : lv_has ls 2 [(0, .ref nx_), (1, .int c_)] := hl
    exact k_throwN rx_0 rx_1 rx_2 rx_5 hlt hX hE hxt hP hD hS hl.1 (by decide) (htA _ wd_869) (htA _ wd_23) (xSW_in hE.2.2.2 "LateFalls" 194 "no such column" (by decide)) (at_X10_185 htA hE.2.2.2) ot_X10_181_185 (htA _ wd_881) (htA _ wd_880) dX10_needColumn_18 dX10_needColumn_21 dX10_needColumn_22 dX10_needColumn_24 dX10_needColumn_27 (by decide) (by decide) (by decide) (by decide) (by decide) (by decide) (rfl)
  refine lv_if_lt (tgt := 18) hx hb dX10_needColumn_1 (by decide) (fun c1_ => ?_) (fun c1_ => ?_)
  · have g1_ : rg (-2147483648) (-1) c_ := rg_lt1 c1_ (rg_any _) (rg_lit (by decide) : rg (0) (0) (0 : Int32)) (by decide)
    exact j18_ () _ _ ls trivial hP hD hS (lv_sub hl [0, 1] rfl)
  · have g2_ : rg (0) (2147483647) c_ := rg_le2 (rg_nlt c1_) (rg_lit (by decide) : rg (0) (0) (0 : Int32)) (rg_any _) (by decide)
    refine lv_iload_n hx hb dX10_needColumn_4 rfl (lv_at hl 1 rfl) ?_
    refine lv_aload_n hx hb dX10_needColumn_5 rfl (lv_at hl 0 rfl) ?_
    refine va_get (ci := 10) (v := .ref no_) (C := RX10) (T := TX10) (N := 13) hx hb htA in_X10 hown hK hP 0 rfl rfl 5 (by decide) (htA _ wd_313) (fun _ h => h) rfl dX10_needColumn_6 ?_
    refine va_get (ci := 6) (v := .ref nd_) (C := RX6) (T := TX6) (N := 8) hx hb htA in_X6 hown hK hP 1 rfl rfl 0 (by decide) (htA _ wd_168) (fun _ h => h) rfl dX10_needColumn_9 ?_
    refine va_get (ci := 0) (v := .int columns_) (C := RX0) (T := TX0) (N := 10) hx hb htA in_X0 hown hK hP 2 rfl rfl 1 (by decide) (htA _ wd_80) (fun _ h => h) rfl dX10_needColumn_12 ?_
    refine lv_icmp_lt (tgt := 28) hx hb dX10_needColumn_15 (by decide) (fun c15_ => ?_) (fun c15_ => ?_)
    · have g3_ : rg (0) (5) c_ := rg_lt1 c15_ g2_ rcolumns_ (by decide)
      exact vx_ret (rV hX hE hP hD hS dX10_needColumn_28 (by decide) (by decide) ⟨(rg_w g3_ (by decide) (by decide)), rfl⟩)
    · have g4_ : rg (1) (2147483647) c_ := rg_le2 (rg_nlt c15_) rcolumns_ g2_ (by decide)
      exact j18_ () _ _ ls trivial hP hD hS (lv_sub hl [0, 1] rfl)
set_option maxHeartbeats 4000000 in
set_option maxRecDepth 100000 in
theorem sf_X10_needPlace (l : Launch) (hlt : l.stackTraces = false) (D : va_G) (cy : Nat → ClassId) (nx_ : Nat) (ntp_ : Nat) (tapeLength_ : Int32) (faultKind_ : Int32) (faultPlace_ : Int32) (nrd_ : Nat) (no_ : Nat) (nhi_ : Nat) (nf_ : Nat) (ny_ : Nat) (nff_ : Nat) (nty_ : Nat) (nim_ : Nat) (drawn_ : Int32) (nd_ : Nat) (hour_ : Int32) (ns_ : Nat) (nc_ : Nat) (nl_ : Nat) (nt_ : Nat) (nh_ : Nat) (fallen_ : Int32) (lines_ : Int32) (columns_ : Int32) (levels_ : Int32) (things_ : Int32) (walkers_ : Int32) (nw_ : Nat) (nr_ : Nat) (nq_ : Nat) (hangs_ : Value) (frees_ : Value) (c_ : Int32) (l_ : Int32) (rcolumns_ : rg (1) (6) columns_) (rlevels_ : rg (1) (9) levels_) (rthings_ : rg (0) (8) things_) (rwalkers_ : rg (0) (4) walkers_) (rtapeLength_ : rg (0) (900) tapeLength_) : Xv l yX10_needPlace cX10_needPlace 3 none { frames := 6, cells := 1, slots := 6, locals := 90 } D cy [.ref nx_, .int c_, .int l_] [(nx_, .inr (10, [.ref ntp_, .int tapeLength_, .int faultKind_, .int faultPlace_, .ref nrd_, .ref no_, .ref nhi_, .ref nf_, .ref ny_, .ref nff_, .ref nty_, .ref nim_, .int drawn_])), (no_, .inr (6, [.ref nd_, .int hour_, .ref ns_, .ref nc_, .ref nl_, .ref nt_, .ref nh_, .int fallen_])), (nd_, .inr (0, [.int lines_, .int columns_, .int levels_, .int things_, .int walkers_, .ref nw_, .ref nr_, .ref nq_, hangs_, frees_]))] (fun W1 => W1 = [(nx_, .inr (10, [.ref ntp_, .int tapeLength_, .int faultKind_, .int faultPlace_, .ref nrd_, .ref no_, .ref nhi_, .ref nf_, .ref ny_, .ref nff_, .ref nty_, .ref nim_, .int drawn_])), (no_, .inr (6, [.ref nd_, .int hour_, .ref ns_, .ref nc_, .ref nl_, .ref nt_, .ref nh_, .int fallen_])), (nd_, .inr (0, [.int lines_, .int columns_, .int levels_, .int things_, .int walkers_, .ref nw_, .ref nr_, .ref nq_, hangs_, frees_]))]) (fun E _ => E = "java/util/NoSuchElementException") := by
  refine Xv.of (by decide) (Nat.le_of_ble_eq_true rfl) ?_
  intro p e s m below meth c A ls hX hE hP hD hl hxt
  obtain ⟨hx, hb, hr, hml, hown, htA, hlk⟩ := id hX
  have hK := hE.1
  have hS : va_S A s.heap s.heap [] := va_S.rf
  have hl : lv_has ls 3 [(0, .ref nx_), (1, .int c_), (2, .int l_)] := hl
  refine lv_aload_n hx hb dX10_needPlace_0 rfl (lv_at hl 0 rfl) ?_
  refine va_get (ci := 10) (v := .ref no_) (C := RX10) (T := TX10) (N := 13) hx hb htA in_X10 hown hK hP 0 rfl rfl 5 (by decide) (htA _ wd_313) (fun _ h => h) rfl dX10_needPlace_1 ?_
  refine va_get (ci := 6) (v := .ref nd_) (C := RX6) (T := TX6) (N := 8) hx hb htA in_X6 hown hK hP 1 rfl rfl 0 (by decide) (htA _ wd_168) (fun _ h => h) rfl dX10_needPlace_4 ?_
  refine lv_iload_n hx hb dX10_needPlace_7 rfl (lv_at hl 1 rfl) ?_
  refine lv_iload_n hx hb dX10_needPlace_8 rfl (lv_at hl 2 rfl) ?_
  refine kVi (As := [.int c_, .int l_]) (rest := []) (wr := [(nx_, .inr (10, [.ref ntp_, .int tapeLength_, .int faultKind_, .int faultPlace_, .ref nrd_, .ref no_, .ref nhi_, .ref nf_, .ref ny_, .ref nff_, .ref nty_, .ref nim_, .int drawn_])), (no_, .inr (6, [.ref nd_, .int hour_, .ref ns_, .ref nc_, .ref nl_, .ref nt_, .ref nh_, .int fallen_]))]) hX hE (sf_X0_hasPlace l D cy nd_ lines_ columns_ levels_ things_ walkers_ nw_ nr_ nq_ hangs_ frees_ c_ l_ (rg_w rcolumns_ (by decide) (by decide)) (rg_w rlevels_ (by decide) (by decide)) (rg_w rthings_ (by decide) (by decide)) (rg_w rwalkers_ (by decide) (by decide))) (cwVA 2 htA wd_371 wd_923 wd_3 wd_369 wd_370 (by decide +kernel) ⟨by decide, by decide⟩) hP hD hS [2] [0, 1] rfl rfl (by decide +kernel) 0 rfl rfl rfl rfl hl.1 rfl (Nat.le_of_ble_eq_true rfl) dX10_needPlace_9 (by decide) (fun v10090_ W1 H locs hw hP hD hS => ?_)
  refine W.widen (k := 0) (n := 0) (by decide) (by decide) ?_
  obtain ⟨rfl, kr9_⟩ := hw
  have hP : va_P D vwCl [(nx_, .inr (10, [.ref ntp_, .int tapeLength_, .int faultKind_, .int faultPlace_, .ref nrd_, .ref no_, .ref nhi_, .ref nf_, .ref ny_, .ref nff_, .ref nty_, .ref nim_, .int drawn_])), (no_, .inr (6, [.ref nd_, .int hour_, .ref ns_, .ref nc_, .ref nl_, .ref nt_, .ref nh_, .int fallen_])), (nd_, .inr (0, [.int lines_, .int columns_, .int levels_, .int things_, .int walkers_, .ref nw_, .ref nr_, .ref nq_, hangs_, frees_]))] H := hP
  have hD := va_ca hP hD
  refine lv_if_ne (tgt := 25) hx hb dX10_needPlace_12 (by decide) (fun c12_ => ?_) (fun c12_ => ?_)
  · have g1_ : rg (1) (1) v10090_ := rg_ne1 c12_ kr9_ (by decide) (by decide)
    exact vx_ret (rV hX hE hP hD hS dX10_needPlace_25 (by decide) (by decide) rfl)
  · have g2_ : rg (0) (0) v10090_ := rg_eq c12_ (rg_lit (by decide) : rg (0) (0) (0 : Int32))
    exact k_throwN rx_0 rx_1 rx_2 rx_5 hlt hX hE hxt hP hD hS hl.1 (by decide) (htA _ wd_869) (htA _ wd_23) (xSW_in hE.2.2.2 "LateFalls" 200 "no such place" (by decide)) (at_X10_185 htA hE.2.2.2) ot_X10_181_185 (htA _ wd_881) (htA _ wd_880) dX10_needPlace_15 dX10_needPlace_18 dX10_needPlace_19 dX10_needPlace_21 dX10_needPlace_24 (by decide) (by decide) (by decide) (by decide) (by decide) (by decide) (rfl)
set_option maxHeartbeats 4000000 in
set_option maxRecDepth 100000 in
theorem sf_X10_needWithin (l : Launch) (hlt : l.stackTraces = false) (D : va_G) (cy : Nat → ClassId) (n_ : Int32) (lo_ : Int32) (hi_ : Int32) : Xv l yX10_needWithin cX10_needWithin 3 none { frames := 6, cells := 1, slots := 6, locals := 90 } D cy [.int n_, .int lo_, .int hi_] [] (fun W1 => W1 = []) (fun E _ => E = "java/lang/IllegalArgumentException") := by
  refine Xv.of (by decide) (Nat.le_of_ble_eq_true rfl) ?_
  intro p e s m below meth c A ls hX hE hP hD hl hxt
  obtain ⟨hx, hb, hr, hml, hown, htA, hlk⟩ := id hX
  have hK := hE.1
  have hS : va_S A s.heap s.heap [] := va_S.rf
  have hl : lv_has ls 3 [(0, .int n_), (1, .int lo_), (2, .int hi_)] := hl
  refine lv_iload_n hx hb dX10_needWithin_0 rfl (lv_at hl 0 rfl) ?_
  refine lv_iload_n hx hb dX10_needWithin_1 rfl (lv_at hl 1 rfl) ?_
  refine joinT (D := D) (A := A) (pc := 10) (mL := 3) (τ := Unit) (WS := fun i => []) (LV := fun i => [(0, .int n_), (1, .int lo_), (2, .int hi_)]) (ST := fun i => []) (cells := 0) (slots := 0) (fun i => True) (fun u0_ H locs ls hI hP hD hS hl => ?_) (fun j10_ => ?_)
  · have hP : va_P D vwCl [] H := hP
    have hD := va_ca hP hD
    have hl : lv_has ls 3 [(0, .int n_), (1, .int lo_), (2, .int hi_)] := hl
    exact k_throwS hlt hX hE hxt hP hD hS hl.1 (by decide) (htA _ wd_531) (htA _ wd_14) (xSW_in hE.2.2.2 "LateFalls" 202 "out of its bounds" (by decide)) (at_X10_87 htA hE.2.2.2) ot_X10_83_87 dX10_needWithin_10 dX10_needWithin_13 dX10_needWithin_14 dX10_needWithin_16 dX10_needWithin_19 (by decide) (by decide) (by decide) (by decide) (by decide) (by decide) (rfl)
  refine lv_icmp_lt (tgt := 10) hx hb dX10_needWithin_2 (by decide) (fun c2_ => ?_) (fun c2_ => ?_)
  · have g1_ : rg (-2147483648) (2147483646) n_ := rg_lt1 c2_ (rg_any _) (rg_any _) (by decide)
    have g2_ : rg (-2147483647) (2147483647) lo_ := rg_lt2 c2_ (rg_any _) (rg_any _) (by decide)
    exact j10_ () _ _ ls trivial hP hD hS (lv_sub hl [0, 1, 2] rfl)
  · refine lv_iload_n hx hb dX10_needWithin_5 rfl (lv_at hl 0 rfl) ?_
    refine lv_iload_n hx hb dX10_needWithin_6 rfl (lv_at hl 2 rfl) ?_
    refine lv_icmp_le (tgt := 20) hx hb dX10_needWithin_7 (by decide) (fun c7_ => ?_) (fun c7_ => ?_)
    · exact vx_ret (rV hX hE hP hD hS dX10_needWithin_20 (by decide) (by decide) rfl)
    · have g3_ : rg (-2147483648) (2147483646) hi_ := rg_lt1 (rg_nle c7_) (rg_any _) (rg_any _) (by decide)
      have g4_ : rg (-2147483647) (2147483647) n_ := rg_lt2 (rg_nle c7_) (rg_any _) (rg_any _) (by decide)
      exact j10_ () _ _ ls trivial hP hD hS (lv_sub hl [0, 1, 2] rfl)
set_option maxHeartbeats 4000000 in
set_option maxRecDepth 100000 in
theorem sf_X10_putBytes (l : Launch) (D : va_G) (cy : Nat → ClassId) (nx_ : Nat) (ntp_ : Nat) (tapeLength_ : Int32) (faultKind_ : Int32) (faultPlace_ : Int32) (nrd_ : Nat) (no_ : Nat) (nhi_ : Nat) (nf_ : Nat) (ny_ : Nat) (nff_ : Nat) (nty_ : Nat) (nim_ : Nat) (drawn_ : Int32) (ftp_ : Nat → Int32) (b_ : Int32) (rtapeLength_ : rg (0) (900) tapeLength_) : Cv l yX10_putBytes cX10_putBytes 3 none { frames := 0, cells := 0, slots := 0, locals := 0 } D cy [.ref nx_, .int b_] [(nx_, .inr (10, [.ref ntp_, .int tapeLength_, .int faultKind_, .int faultPlace_, .ref nrd_, .ref no_, .ref nhi_, .ref nf_, .ref ny_, .ref nff_, .ref nty_, .ref nim_, .int drawn_])), (ntp_, .inl (cy 1, 900, .inl (ftp_)))] (fun W1 => ∃ (x0_ : Int32) (x1_ : Nat → Int32), rg (0) (900) x0_ ∧ W1 = [(nx_, .inr (10, [.ref ntp_, .int x0_, .int faultKind_, .int faultPlace_, .ref nrd_, .ref no_, .ref nhi_, .ref nf_, .ref ny_, .ref nff_, .ref nty_, .ref nim_, .int drawn_])), (ntp_, .inl (cy 1, 900, .inl (x1_)))]) := by
  refine Cv.of (by decide) (Nat.le_of_ble_eq_true rfl) ?_
  intro p e s m below meth c A ls hX hE hP hD hl hin
  obtain ⟨hx, hb, hr, hml, hown, htA, hlk⟩ := id hX
  have hK := hE.1
  have hS : va_S A s.heap s.heap [] := va_S.rf
  have hl : lv_has ls 3 [(0, .ref nx_), (1, .int b_)] := hl
  refine lv_bipush (v := 24) hx hb dX10_putBytes_0 (by decide) ?_
  refine lv_istore_n (lv' := [(2, .int 24), (0, .ref nx_), (1, .int b_)]) hx hb dX10_putBytes_2 rfl hl (by decide) rfl (fun ls hl => ?_)
  refine loopT (τ := Int32 × Int32 × (Nat → Int32)) (WS := fun i => [(nx_, .inr (10, [.ref ntp_, .int i.2.1, .int faultKind_, .int faultPlace_, .ref nrd_, .ref no_, .ref nhi_, .ref nf_, .ref ny_, .ref nff_, .ref nty_, .ref nim_, .int drawn_])), (ntp_, .inl (cy 1, 900, .inl (i.2.2)))]) (LV := fun i => [(2, .int i.1), (0, .ref nx_), (1, .int b_)]) (fun i => (i.1.toInt - (-8)).toNat) (fun i => rg (-8) (24) i.1 ∧ rg (0) (900) i.2.1) ?_ (24, tapeLength_, ftp_) ⟨(rg_w (rg_lit (by decide) : rg (24) (24) (24 : Int32)) (by decide) (by decide)), (rg_w rtapeLength_ (by decide) (by decide))⟩ hP hD hS (lv_sub hl [0, 1, 2] rfl)
  intro i_ H locs ls hI ih3_ hP hD hS hl
  obtain ⟨v200300_, v200301_, g200302_⟩ := i_
  have hI : rg (-8) (24) v200300_ ∧ rg (0) (900) v200301_ := hI
  obtain ⟨rv200300_, rv200301_⟩ := hI
  have hP : va_P D vwCl [(nx_, .inr (10, [.ref ntp_, .int v200301_, .int faultKind_, .int faultPlace_, .ref nrd_, .ref no_, .ref nhi_, .ref nf_, .ref ny_, .ref nff_, .ref nty_, .ref nim_, .int drawn_])), (ntp_, .inl (cy 1, 900, .inl (g200302_)))] H := hP
  have hD := va_ca hP hD
  have hl : lv_has ls 3 [(2, .int v200300_), (0, .ref nx_), (1, .int b_)] := hl
  refine lv_iload_n hx hb dX10_putBytes_3 rfl (lv_at hl 0 rfl) ?_
  refine joinT (D := D) (A := A) (pc := 46) (mL := 3) (τ := Unit) (WS := fun i => [(nx_, .inr (10, [.ref ntp_, .int v200301_, .int faultKind_, .int faultPlace_, .ref nrd_, .ref no_, .ref nhi_, .ref nf_, .ref ny_, .ref nff_, .ref nty_, .ref nim_, .int drawn_])), (ntp_, .inl (cy 1, 900, .inl (g200302_)))]) (LV := fun i => [(2, .int v200300_), (0, .ref nx_), (1, .int b_)]) (ST := fun i => []) (cells := 0) (slots := 0) (fun i => True) (fun u0_ H locs ls hI hP hD hS hl => ?_) (fun j46_ => ?_)
  · have hP : va_P D vwCl [(nx_, .inr (10, [.ref ntp_, .int v200301_, .int faultKind_, .int faultPlace_, .ref nrd_, .ref no_, .ref nhi_, .ref nf_, .ref ny_, .ref nff_, .ref nty_, .ref nim_, .int drawn_])), (ntp_, .inl (cy 1, 900, .inl (g200302_)))] H := hP
    have hD := va_ca hP hD
    have hl : lv_has ls 3 [(2, .int v200300_), (0, .ref nx_), (1, .int b_)] := hl
    exact rV hX hE hP hD hS dX10_putBytes_46 (by decide) (by decide) ⟨v200301_, g200302_, (rg_w rv200301_ (by decide) (by decide)), rfl⟩
  refine lv_if_lt (tgt := 46) hx hb dX10_putBytes_4 (by decide) (fun c4_ => ?_) (fun c4_ => ?_)
  · have g1_ : rg (-8) (-1) v200300_ := rg_lt1 c4_ rv200300_ (rg_lit (by decide) : rg (0) (0) (0 : Int32)) (by decide)
    exact j46_ () _ _ ls trivial hP hD hS (lv_sub hl [0, 1, 2] rfl)
  · have g2_ : rg (0) (24) v200300_ := rg_le2 (rg_nlt c4_) (rg_lit (by decide) : rg (0) (0) (0 : Int32)) rv200300_ (by decide)
    refine lv_aload_n hx hb dX10_putBytes_7 rfl (lv_at hl 1 rfl) ?_
    refine va_get (ci := 10) (v := .int v200301_) (C := RX10) (T := TX10) (N := 13) hx hb htA in_X10 hown hK hP 0 rfl rfl 1 (by decide) (htA _ wd_309) (fun _ h => h) rfl dX10_putBytes_8 ?_
    refine lv_sipush (v := 900) hx hb dX10_putBytes_11 (by decide) ?_
    refine lv_icmp_ge (tgt := 46) hx hb dX10_putBytes_14 (by decide) (fun c14_ => ?_) (fun c14_ => ?_)
    · have g3_ : rg (900) (900) v200301_ := rg_le2 c14_ (rg_lit (by decide) : rg (900) (900) (900 : Int32)) rv200301_ (by decide)
      exact j46_ () _ _ ls trivial hP hD hS (lv_sub hl [0, 1, 2] rfl)
    · have g4_ : rg (0) (899) v200301_ := rg_lt1 (rg_nle c14_) rv200301_ (rg_lit (by decide) : rg (900) (900) (900 : Int32)) (by decide)
      refine lv_aload_n hx hb dX10_putBytes_17 rfl (lv_at hl 1 rfl) ?_
      refine va_get (ci := 10) (v := .ref ntp_) (C := RX10) (T := TX10) (N := 13) hx hb htA in_X10 hown hK hP 0 rfl rfl 0 (by decide) (htA _ wd_308) (fun _ h => h) rfl dX10_putBytes_18 ?_
      refine lv_aload_n hx hb dX10_putBytes_21 rfl (lv_at hl 1 rfl) ?_
      refine va_get (ci := 10) (v := .int v200301_) (C := RX10) (T := TX10) (N := 13) hx hb htA in_X10 hown hK hP 0 rfl rfl 1 (by decide) (htA _ wd_309) (fun _ h => h) rfl dX10_putBytes_22 ?_
      refine lv_iload_n hx hb dX10_putBytes_25 rfl (lv_at hl 2 rfl) ?_
      refine lv_iload_n hx hb dX10_putBytes_26 rfl (lv_at hl 0 rfl) ?_
      refine lv_iushr hx hb dX10_putBytes_27 rfl ?_
      refine lv_i2b hx hb dX10_putBytes_28 rfl ?_
      refine va_bast hx hb hK hP hD hS 1 1 rfl rfl (rg_in g4_ (by decide) (by decide)) dX10_putBytes_29 (fun H locs hP hD hS => ?_)
      have hP : va_P D vwCl [(nx_, .inr (10, [.ref ntp_, .int v200301_, .int faultKind_, .int faultPlace_, .ref nrd_, .ref no_, .ref nhi_, .ref nf_, .ref ny_, .ref nff_, .ref nty_, .ref nim_, .int drawn_])), (ntp_, .inl (cy 1, 900, .inl (upd g200302_ v200301_.toNatClampNeg (vp_nar .byte (((b_.toUInt32 >>> (v200300_.toUInt32 &&& Int32.toUInt32 31)).toInt32).toInt8.toInt32)))))] H := hP
      have hD := va_ca hP hD
      refine lv_aload_n hx hb dX10_putBytes_30 rfl (lv_at hl 1 rfl) ?_
      refine lv_dup hx hb dX10_putBytes_31 rfl ?_
      refine va_get (ci := 10) (v := .int v200301_) (C := RX10) (T := TX10) (N := 13) hx hb htA in_X10 hown hK hP 0 rfl rfl 1 (by decide) (htA _ wd_309) (fun _ h => h) rfl dX10_putBytes_32 ?_
      refine lv_iconst (v := 1) hx hb dX10_putBytes_35 (by decide) ?_
      refine lv_iadd hx hb dX10_putBytes_36 ?_
      have g5_ : rg (1) (900) (v200301_ + 1) := rg_add g4_ (rg_lit (by decide) : rg (1) (1) (1 : Int32)) (by decide) (by decide) (by decide) (by decide)
      refine va_put (ci := 10) (v := .int (v200301_ + 1)) (ty := .int) (C := RX10) (T := TX10) (N := 13) hx hb htA in_X10 tyX10 tyX10_ok nmX10 hown hK hP hD hS 0 rfl rfl 1 (by decide) (htA _ wd_309) (fun _ h => h) rfl (by decide +kernel) rfl rfl (Nat.le_of_ble_eq_true rfl) dX10_putBytes_37 (fun H locs hP hD hS => ?_)
      have hP : va_P D vwCl [(nx_, .inr (10, [.ref ntp_, .int (v200301_ + 1), .int faultKind_, .int faultPlace_, .ref nrd_, .ref no_, .ref nhi_, .ref nf_, .ref ny_, .ref nff_, .ref nty_, .ref nim_, .int drawn_])), (ntp_, .inl (cy 1, 900, .inl (upd g200302_ v200301_.toNatClampNeg (vp_nar .byte (((b_.toUInt32 >>> (v200300_.toUInt32 &&& Int32.toUInt32 31)).toInt32).toInt8.toInt32)))))] H := hP
      have hD := va_ca hP hD
      refine lv_iinc (v := v200300_ + (-8)) (lv' := [(2, .int (v200300_ + (-8))), (0, .ref nx_), (1, .int b_)]) hx hb dX10_putBytes_40 hl (k := 0) rfl rfl (by decide) rfl (fun ls hl => ?_)
      have g6_ : rg (-8) (16) (v200300_ + (-8)) := rg_add g2_ (rg_lit (by decide) : rg (-8) (-8) ((-8) : Int32)) (by decide) (by decide) (by decide) (by decide)
      refine lv_goto (tgt := 3) hx hb dX10_putBytes_43 (by decide) ?_
      exact ih3_ (v200300_ + (-8), v200301_ + 1, upd g200302_ v200301_.toNatClampNeg (vp_nar .byte (((b_.toUInt32 >>> (v200300_.toUInt32 &&& Int32.toUInt32 31)).toInt32).toInt8.toInt32))) _ _ ls ⟨(rg_w g6_ (by decide) (by decide)), (rg_w g5_ (by decide) (by decide))⟩ (show ((v200300_ + (-8)).toInt - (-8)).toNat < (v200300_.toInt - (-8)).toNat from by rw [show (v200300_ + (-8)).toInt = v200300_.toInt + (-8) from by have hq := (rv200300_).1; have hq2 := (rv200300_).2; have hk : (-8 : Int32).toInt = -8 := (by decide); rw [add32 v200300_ (-8) (by rw [hk]; omega) (by rw [hk]; omega), hk]]; have hq := (g2_).1; have hq2 := (g2_).2; omega) hP hD hS (lv_sub hl [0, 1, 2] rfl)
set_option maxHeartbeats 4000000 in
set_option maxRecDepth 100000 in
theorem sf_X10_feed (l : Launch) (D : va_G) (cy : Nat → ClassId) (nx_ : Nat) (ntp_ : Nat) (tapeLength_ : Int32) (faultKind_ : Int32) (faultPlace_ : Int32) (nrd_ : Nat) (no_ : Nat) (nhi_ : Nat) (nf_ : Nat) (ny_ : Nat) (nff_ : Nat) (nty_ : Nat) (nim_ : Nat) (drawn_ : Int32) (ftp_ : Nat → Int32) (a_ : Int32) (b_ : Int32) (c_ : Int32) (d_ : Int32) (e_ : Int32) (rtapeLength_ : rg (0) (900) tapeLength_) : Ci l yX10_feed cX10_feed 6 (some .int) { frames := 1, cells := 0, slots := 0, locals := 22 } D cy [.ref nx_, .int a_, .int b_, .int c_, .int d_, .int e_] [(nx_, .inr (10, [.ref ntp_, .int tapeLength_, .int faultKind_, .int faultPlace_, .ref nrd_, .ref no_, .ref nhi_, .ref nf_, .ref ny_, .ref nff_, .ref nty_, .ref nim_, .int drawn_])), (ntp_, .inl (cy 1, 900, .inl (ftp_)))] (fun r W1 => ∃ (x0_ : Int32) (x1_ : Nat → Int32), rg (0) (900) x0_ ∧ W1 = [(nx_, .inr (10, [.ref ntp_, .int x0_, .int faultKind_, .int faultPlace_, .ref nrd_, .ref no_, .ref nhi_, .ref nf_, .ref ny_, .ref nff_, .ref nty_, .ref nim_, .int drawn_])), (ntp_, .inl (cy 1, 900, .inl (x1_)))] ∧ rg (-1) (900) r) := by
  refine Ci.of (by decide) (Nat.le_of_ble_eq_true rfl) ?_
  intro p e s m below meth c A ls hX hE hP hD hl
  obtain ⟨hx, hb, hr, hml, hown, htA, hlk⟩ := id hX
  have hK := hE.1
  have hS : va_S A s.heap s.heap [] := va_S.rf
  have hl : lv_has ls 6 [(0, .ref nx_), (1, .int a_), (2, .int b_), (3, .int c_), (4, .int d_), (5, .int e_)] := hl
  refine lv_aload_n hx hb dX10_feed_0 rfl (lv_at hl 0 rfl) ?_
  refine va_get (ci := 10) (v := .int tapeLength_) (C := RX10) (T := TX10) (N := 13) hx hb htA in_X10 hown hK hP 0 rfl rfl 1 (by decide) (htA _ wd_309) (fun _ h => h) rfl dX10_feed_1 ?_
  refine lv_bipush (v := 20) hx hb dX10_feed_4 (by decide) ?_
  refine lv_iadd hx hb dX10_feed_6 ?_
  have g1_ : rg (20) (920) (tapeLength_ + 20) := rg_add rtapeLength_ (rg_lit (by decide) : rg (20) (20) (20 : Int32)) (by decide) (by decide) (by decide) (by decide)
  refine lv_sipush (v := 900) hx hb dX10_feed_7 (by decide) ?_
  refine lv_icmp_le (tgt := 15) hx hb dX10_feed_10 (by decide) (fun c10_ => ?_) (fun c10_ => ?_)
  · have g2_ : rg (20) (900) (tapeLength_ + 20) := rg_le1 c10_ g1_ (rg_lit (by decide) : rg (900) (900) (900 : Int32)) (by decide)
    refine lv_aload_n hx hb dX10_feed_15 rfl (lv_at hl 0 rfl) ?_
    refine lv_iload_n hx hb dX10_feed_16 rfl (lv_at hl 1 rfl) ?_
    refine kVv (As := [.int a_]) (rest := []) (wr := []) hX hE (sf_X10_putBytes l D cy nx_ ntp_ tapeLength_ faultKind_ faultPlace_ nrd_ no_ nhi_ nf_ ny_ nff_ nty_ nim_ drawn_ ftp_ a_ (rg_w rtapeLength_ (by decide) (by decide))) (cwVA 1 htA wd_355 wd_352 wd_1 wd_354 wp_0 (by decide +kernel) ⟨by decide, by decide⟩) hP hD hS [0, 1] [] rfl rfl (by decide +kernel) 0 rfl rfl rfl rfl hl.1 rfl (Nat.le_of_ble_eq_true rfl) dX10_feed_17 (by decide) (fun W1 H locs hw hP hD hS => ?_)
    refine W.widen (k := 0) (n := 0) (by decide) (by decide) ?_
    obtain ⟨v10171_, g10172_, k17_0_, rfl⟩ := hw
    have hP : va_P D vwCl [(nx_, .inr (10, [.ref ntp_, .int v10171_, .int faultKind_, .int faultPlace_, .ref nrd_, .ref no_, .ref nhi_, .ref nf_, .ref ny_, .ref nff_, .ref nty_, .ref nim_, .int drawn_])), (ntp_, .inl (cy 1, 900, .inl (g10172_)))] H := hP
    have hD := va_ca hP hD
    refine lv_aload_n hx hb dX10_feed_20 rfl (lv_at hl 0 rfl) ?_
    refine lv_iload_n hx hb dX10_feed_21 rfl (lv_at hl 2 rfl) ?_
    refine kVv (As := [.int b_]) (rest := []) (wr := []) hX hE (sf_X10_putBytes l D cy nx_ ntp_ v10171_ faultKind_ faultPlace_ nrd_ no_ nhi_ nf_ ny_ nff_ nty_ nim_ drawn_ g10172_ b_ (rg_w k17_0_ (by decide) (by decide))) (cwVA 1 htA wd_355 wd_352 wd_1 wd_354 wp_0 (by decide +kernel) ⟨by decide, by decide⟩) hP hD hS [0, 1] [] rfl rfl (by decide +kernel) 0 rfl rfl rfl rfl hl.1 rfl (Nat.le_of_ble_eq_true rfl) dX10_feed_22 (by decide) (fun W1 H locs hw hP hD hS => ?_)
    refine W.widen (k := 0) (n := 0) (by decide) (by decide) ?_
    obtain ⟨v10221_, g10222_, k22_0_, rfl⟩ := hw
    have hP : va_P D vwCl [(nx_, .inr (10, [.ref ntp_, .int v10221_, .int faultKind_, .int faultPlace_, .ref nrd_, .ref no_, .ref nhi_, .ref nf_, .ref ny_, .ref nff_, .ref nty_, .ref nim_, .int drawn_])), (ntp_, .inl (cy 1, 900, .inl (g10222_)))] H := hP
    have hD := va_ca hP hD
    refine lv_aload_n hx hb dX10_feed_25 rfl (lv_at hl 0 rfl) ?_
    refine lv_iload_n hx hb dX10_feed_26 rfl (lv_at hl 3 rfl) ?_
    refine kVv (As := [.int c_]) (rest := []) (wr := []) hX hE (sf_X10_putBytes l D cy nx_ ntp_ v10221_ faultKind_ faultPlace_ nrd_ no_ nhi_ nf_ ny_ nff_ nty_ nim_ drawn_ g10222_ c_ (rg_w k22_0_ (by decide) (by decide))) (cwVA 1 htA wd_355 wd_352 wd_1 wd_354 wp_0 (by decide +kernel) ⟨by decide, by decide⟩) hP hD hS [0, 1] [] rfl rfl (by decide +kernel) 0 rfl rfl rfl rfl hl.1 rfl (Nat.le_of_ble_eq_true rfl) dX10_feed_27 (by decide) (fun W1 H locs hw hP hD hS => ?_)
    refine W.widen (k := 0) (n := 0) (by decide) (by decide) ?_
    obtain ⟨v10271_, g10272_, k27_0_, rfl⟩ := hw
    have hP : va_P D vwCl [(nx_, .inr (10, [.ref ntp_, .int v10271_, .int faultKind_, .int faultPlace_, .ref nrd_, .ref no_, .ref nhi_, .ref nf_, .ref ny_, .ref nff_, .ref nty_, .ref nim_, .int drawn_])), (ntp_, .inl (cy 1, 900, .inl (g10272_)))] H := hP
    have hD := va_ca hP hD
    refine lv_aload_n hx hb dX10_feed_30 rfl (lv_at hl 0 rfl) ?_
    refine lv_iload hx hb dX10_feed_31 (lv_at hl 4 rfl) ?_
    refine kVv (As := [.int d_]) (rest := []) (wr := []) hX hE (sf_X10_putBytes l D cy nx_ ntp_ v10271_ faultKind_ faultPlace_ nrd_ no_ nhi_ nf_ ny_ nff_ nty_ nim_ drawn_ g10272_ d_ (rg_w k27_0_ (by decide) (by decide))) (cwVA 1 htA wd_355 wd_352 wd_1 wd_354 wp_0 (by decide +kernel) ⟨by decide, by decide⟩) hP hD hS [0, 1] [] rfl rfl (by decide +kernel) 0 rfl rfl rfl rfl hl.1 rfl (Nat.le_of_ble_eq_true rfl) dX10_feed_33 (by decide) (fun W1 H locs hw hP hD hS => ?_)
    refine W.widen (k := 0) (n := 0) (by decide) (by decide) ?_
    obtain ⟨v10331_, g10332_, k33_0_, rfl⟩ := hw
    have hP : va_P D vwCl [(nx_, .inr (10, [.ref ntp_, .int v10331_, .int faultKind_, .int faultPlace_, .ref nrd_, .ref no_, .ref nhi_, .ref nf_, .ref ny_, .ref nff_, .ref nty_, .ref nim_, .int drawn_])), (ntp_, .inl (cy 1, 900, .inl (g10332_)))] H := hP
    have hD := va_ca hP hD
    refine lv_aload_n hx hb dX10_feed_36 rfl (lv_at hl 0 rfl) ?_
    refine lv_iload hx hb dX10_feed_37 (lv_at hl 5 rfl) ?_
    refine kVv (As := [.int e_]) (rest := []) (wr := []) hX hE (sf_X10_putBytes l D cy nx_ ntp_ v10331_ faultKind_ faultPlace_ nrd_ no_ nhi_ nf_ ny_ nff_ nty_ nim_ drawn_ g10332_ e_ (rg_w k33_0_ (by decide) (by decide))) (cwVA 1 htA wd_355 wd_352 wd_1 wd_354 wp_0 (by decide +kernel) ⟨by decide, by decide⟩) hP hD hS [0, 1] [] rfl rfl (by decide +kernel) 0 rfl rfl rfl rfl hl.1 rfl (Nat.le_of_ble_eq_true rfl) dX10_feed_39 (by decide) (fun W1 H locs hw hP hD hS => ?_)
    refine W.widen (k := 0) (n := 0) (by decide) (by decide) ?_
    obtain ⟨v10391_, g10392_, k39_0_, rfl⟩ := hw
    have hP : va_P D vwCl [(nx_, .inr (10, [.ref ntp_, .int v10391_, .int faultKind_, .int faultPlace_, .ref nrd_, .ref no_, .ref nhi_, .ref nf_, .ref ny_, .ref nff_, .ref nty_, .ref nim_, .int drawn_])), (ntp_, .inl (cy 1, 900, .inl (g10392_)))] H := hP
    have hD := va_ca hP hD
    refine lv_aload_n hx hb dX10_feed_42 rfl (lv_at hl 0 rfl) ?_
    refine va_get (ci := 10) (v := .int v10391_) (C := RX10) (T := TX10) (N := 13) hx hb htA in_X10 hown hK hP 0 rfl rfl 1 (by decide) (htA _ wd_309) (fun _ h => h) rfl dX10_feed_43 ?_
    exact rI hX hE hP hD hS dX10_feed_46 (by decide) (by decide) ⟨v10391_, g10392_, (rg_w k39_0_ (by decide) (by decide)), rfl, (rg_w k39_0_ (by decide) (by decide))⟩
  · have g3_ : rg (901) (920) (tapeLength_ + 20) := rg_lt2 (rg_nle c10_) (rg_lit (by decide) : rg (900) (900) (900 : Int32)) g1_ (by decide)
    refine lv_iconst (v := (-1)) hx hb dX10_feed_13 (by decide) ?_
    exact rI hX hE hP hD hS dX10_feed_14 (by decide) (by decide) ⟨tapeLength_, ftp_, (rg_w rtapeLength_ (by decide) (by decide)), rfl, (rg_w (rg_lit (by decide) : rg (-1) (-1) ((-1) : Int32)) (by decide) (by decide))⟩
set_option maxHeartbeats 4000000 in
set_option maxRecDepth 100000 in
theorem sf_X10_fault (l : Launch) (D : va_G) (cy : Nat → ClassId) (nx_ : Nat) (ntp_ : Nat) (tapeLength_ : Int32) (faultKind_ : Int32) (faultPlace_ : Int32) (nrd_ : Nat) (no_ : Nat) (nhi_ : Nat) (nf_ : Nat) (ny_ : Nat) (nff_ : Nat) (nty_ : Nat) (nim_ : Nat) (drawn_ : Int32) (w_ : Int32) (rtapeLength_ : rg (0) (900) tapeLength_) : Ci l yX10_fault cX10_fault 2 (some .int) { frames := 0, cells := 0, slots := 0, locals := 0 } D cy [.ref nx_, .int w_] [(nx_, .inr (10, [.ref ntp_, .int tapeLength_, .int faultKind_, .int faultPlace_, .ref nrd_, .ref no_, .ref nhi_, .ref nf_, .ref ny_, .ref nff_, .ref nty_, .ref nim_, .int drawn_]))] (fun r W1 => W1 = [(nx_, .inr (10, [.ref ntp_, .int tapeLength_, .int faultKind_, .int faultPlace_, .ref nrd_, .ref no_, .ref nhi_, .ref nf_, .ref ny_, .ref nff_, .ref nty_, .ref nim_, .int drawn_]))]) := by
  refine Ci.of (by decide) (Nat.le_of_ble_eq_true rfl) ?_
  intro p e s m below meth c A ls hX hE hP hD hl
  obtain ⟨hx, hb, hr, hml, hown, htA, hlk⟩ := id hX
  have hK := hE.1
  have hS : va_S A s.heap s.heap [] := va_S.rf
  have hl : lv_has ls 2 [(0, .ref nx_), (1, .int w_)] := hl
  refine lv_iload_n hx hb dX10_fault_0 rfl (lv_at hl 1 rfl) ?_
  refine lv_if_ne (tgt := 9) hx hb dX10_fault_1 (by decide) (fun c1_ => ?_) (fun c1_ => ?_)
  · refine lv_iload_n hx hb dX10_fault_9 rfl (lv_at hl 1 rfl) ?_
    refine lv_iconst (v := 1) hx hb dX10_fault_10 (by decide) ?_
    refine joinT (D := D) (A := A) (pc := 22) (mL := 2) (τ := Int32) (WS := fun i => [(nx_, .inr (10, [.ref ntp_, .int tapeLength_, .int faultKind_, .int faultPlace_, .ref nrd_, .ref no_, .ref nhi_, .ref nf_, .ref ny_, .ref nff_, .ref nty_, .ref nim_, .int drawn_]))]) (LV := fun i => [(0, .ref nx_), (1, .int w_)]) (ST := fun i => [.int i]) (cells := 0) (slots := 0) (fun i => True) (fun v202200_ H locs ls hI hP hD hS hl => ?_) (fun j22_ => ?_)
    · have hP : va_P D vwCl [(nx_, .inr (10, [.ref ntp_, .int tapeLength_, .int faultKind_, .int faultPlace_, .ref nrd_, .ref no_, .ref nhi_, .ref nf_, .ref ny_, .ref nff_, .ref nty_, .ref nim_, .int drawn_]))] H := hP
      have hD := va_ca hP hD
      have hl : lv_has ls 2 [(0, .ref nx_), (1, .int w_)] := hl
      exact rI hX hE hP hD hS dX10_fault_22 (by decide) (by decide) rfl
    refine lv_icmp_ne (tgt := 21) hx hb dX10_fault_11 (by decide) (fun c11_ => ?_) (fun c11_ => ?_)
    · refine lv_iconst (v := (-1)) hx hb dX10_fault_21 (by decide) ?_
      exact j22_ (-1) _ _ ls trivial hP hD hS (lv_sub hl [0, 1] rfl)
    · have g1_ : rg (1) (1) w_ := rg_eq c11_ (rg_lit (by decide) : rg (1) (1) (1 : Int32))
      refine lv_aload_n hx hb dX10_fault_14 rfl (lv_at hl 0 rfl) ?_
      refine va_get (ci := 10) (v := .int faultPlace_) (C := RX10) (T := TX10) (N := 13) hx hb htA in_X10 hown hK hP 0 rfl rfl 3 (by decide) (htA _ wd_311) (fun _ h => h) rfl dX10_fault_15 ?_
      refine lv_goto (tgt := 22) hx hb dX10_fault_18 (by decide) ?_
      exact j22_ faultPlace_ _ _ ls trivial hP hD hS (lv_sub hl [0, 1] rfl)
  · have g2_ : rg (0) (0) w_ := rg_eq c1_ (rg_lit (by decide) : rg (0) (0) (0 : Int32))
    refine lv_aload_n hx hb dX10_fault_4 rfl (lv_at hl 0 rfl) ?_
    refine va_get (ci := 10) (v := .int faultKind_) (C := RX10) (T := TX10) (N := 13) hx hb htA in_X10 hown hK hP 0 rfl rfl 2 (by decide) (htA _ wd_310) (fun _ h => h) rfl dX10_fault_5 ?_
    exact rI hX hE hP hD hS dX10_fault_8 (by decide) (by decide) rfl
set_option maxHeartbeats 4000000 in
set_option maxRecDepth 100000 in
theorem sf_X10_thing (l : Launch) (hlt : l.stackTraces = false) (D : va_G) (cy : Nat → ClassId) (nx_ : Nat) (ntp_ : Nat) (tapeLength_ : Int32) (faultKind_ : Int32) (faultPlace_ : Int32) (nrd_ : Nat) (no_ : Nat) (nhi_ : Nat) (nf_ : Nat) (ny_ : Nat) (nff_ : Nat) (nty_ : Nat) (nim_ : Nat) (drawn_ : Int32) (nd_ : Nat) (hour_ : Int32) (ns_ : Nat) (nc_ : Nat) (nl_ : Nat) (nt_ : Nat) (nh_ : Nat) (fallen_ : Int32) (fs_ : Nat → Int32) (fc_ : Nat → Int32) (fl_ : Nat → Int32) (ft_ : Nat → Int32) (lines_ : Int32) (columns_ : Int32) (levels_ : Int32) (things_ : Int32) (walkers_ : Int32) (nw_ : Nat) (nr_ : Nat) (nq_ : Nat) (hangs_ : Value) (frees_ : Value) (fw_ : Nat → Int32) (t_ : Int32) (w_ : Int32) (rcolumns_ : rg (1) (6) columns_) (rlevels_ : rg (1) (9) levels_) (rthings_ : rg (0) (8) things_) (rwalkers_ : rg (0) (4) walkers_) (rtapeLength_ : rg (0) (900) tapeLength_) : Xi l yX10_thing cX10_thing 4 (some .int) { frames := 7, cells := 2, slots := 12, locals := 111 } D cy [.ref nx_, .int t_, .int w_] [(nx_, .inr (10, [.ref ntp_, .int tapeLength_, .int faultKind_, .int faultPlace_, .ref nrd_, .ref no_, .ref nhi_, .ref nf_, .ref ny_, .ref nff_, .ref nty_, .ref nim_, .int drawn_])), (no_, .inr (6, [.ref nd_, .int hour_, .ref ns_, .ref nc_, .ref nl_, .ref nt_, .ref nh_, .int fallen_])), (ns_, .inl (cy 0, 8, .inl (fs_))), (nc_, .inl (cy 0, 8, .inl (fc_))), (nl_, .inl (cy 0, 8, .inl (fl_))), (nt_, .inl (cy 0, 8, .inl (ft_))), (nd_, .inr (0, [.int lines_, .int columns_, .int levels_, .int things_, .int walkers_, .ref nw_, .ref nr_, .ref nq_, hangs_, frees_])), (nw_, .inl (cy 0, 8, .inl (fw_)))] (fun r W1 => rg (0) (7) t_ ∧ rg (0) (5) w_ ∧ W1 = [(nx_, .inr (10, [.ref ntp_, .int tapeLength_, .int faultKind_, .int faultPlace_, .ref nrd_, .ref no_, .ref nhi_, .ref nf_, .ref ny_, .ref nff_, .ref nty_, .ref nim_, .int drawn_])), (no_, .inr (6, [.ref nd_, .int hour_, .ref ns_, .ref nc_, .ref nl_, .ref nt_, .ref nh_, .int fallen_])), (ns_, .inl (cy 0, 8, .inl (fs_))), (nc_, .inl (cy 0, 8, .inl (fc_))), (nl_, .inl (cy 0, 8, .inl (fl_))), (nt_, .inl (cy 0, 8, .inl (ft_))), (nd_, .inr (0, [.int lines_, .int columns_, .int levels_, .int things_, .int walkers_, .ref nw_, .ref nr_, .ref nq_, hangs_, frees_])), (nw_, .inl (cy 0, 8, .inl (fw_)))]) (fun E _ => E = "java/lang/IllegalArgumentException" ∨ E = "java/util/NoSuchElementException") := by
  refine Xi.of (by decide) (Nat.le_of_ble_eq_true rfl) ?_
  intro p e s m below meth c A ls hX hE hP hD hl hxt
  obtain ⟨hx, hb, hr, hml, hown, htA, hlk⟩ := id hX
  have hK := hE.1
  have hS : va_S A s.heap s.heap [] := va_S.rf
  have hl : lv_has ls 4 [(0, .ref nx_), (1, .int t_), (2, .int w_)] := hl
  refine lv_aload_n hx hb dX10_thing_0 rfl (lv_at hl 0 rfl) ?_
  refine lv_iload_n hx hb dX10_thing_1 rfl (lv_at hl 1 rfl) ?_
  refine xVv (As := [.int t_]) (rest := []) (wr := [(ns_, .inl (cy 0, 8, .inl (fs_))), (nc_, .inl (cy 0, 8, .inl (fc_))), (nl_, .inl (cy 0, 8, .inl (fl_))), (nt_, .inl (cy 0, 8, .inl (ft_))), (nw_, .inl (cy 0, 8, .inl (fw_)))]) hX hE (sf_X10_needThing l hlt D cy nx_ ntp_ tapeLength_ faultKind_ faultPlace_ nrd_ no_ nhi_ nf_ ny_ nff_ nty_ nim_ drawn_ nd_ hour_ ns_ nc_ nl_ nt_ nh_ fallen_ lines_ columns_ levels_ things_ walkers_ nw_ nr_ nq_ hangs_ frees_ t_ (rg_w rcolumns_ (by decide) (by decide)) (rg_w rlevels_ (by decide) (by decide)) (rg_w rthings_ (by decide) (by decide)) (rg_w rwalkers_ (by decide) (by decide)) (rg_w rtapeLength_ (by decide) (by decide))) (cwVA 1 htA wd_868 wd_865 wd_1 wd_867 wp_26 (by decide +kernel) ⟨by decide, by decide⟩) hP hD hS [0, 1, 6] [2, 3, 4, 5, 7] rfl rfl (by decide +kernel) 0 rfl rfl rfl rfl hl.1 rfl (Nat.le_of_ble_eq_true rfl) dX10_thing_2 (by decide) (fun E ce q9 W1 H locs hw hP hD hS hce hcv hcl => ?_) (fun W1 H locs hw hP hD hS => ?_)
  · rcases hw with rfl
    exact xO hX hE hxt hP hD hS hce hcv hcl (by decide) (by decide) (Or.inr (rfl))
  · refine W.widen (k := 1) (n := 6) (by decide) (by decide) ?_
    obtain ⟨k2_0_, rfl⟩ := hw
    have hP : va_P D vwCl [(ns_, .inl (cy 0, 8, .inl (fs_))), (nc_, .inl (cy 0, 8, .inl (fc_))), (nl_, .inl (cy 0, 8, .inl (fl_))), (nt_, .inl (cy 0, 8, .inl (ft_))), (nw_, .inl (cy 0, 8, .inl (fw_))), (nx_, .inr (10, [.ref ntp_, .int tapeLength_, .int faultKind_, .int faultPlace_, .ref nrd_, .ref no_, .ref nhi_, .ref nf_, .ref ny_, .ref nff_, .ref nty_, .ref nim_, .int drawn_])), (no_, .inr (6, [.ref nd_, .int hour_, .ref ns_, .ref nc_, .ref nl_, .ref nt_, .ref nh_, .int fallen_])), (nd_, .inr (0, [.int lines_, .int columns_, .int levels_, .int things_, .int walkers_, .ref nw_, .ref nr_, .ref nq_, hangs_, frees_]))] H := hP
    have hD := va_ca hP hD
    refine lv_aload_n hx hb dX10_thing_5 rfl (lv_at hl 0 rfl) ?_
    refine va_get (ci := 10) (v := .ref no_) (C := RX10) (T := TX10) (N := 13) hx hb htA in_X10 hown hK hP 5 rfl rfl 5 (by decide) (htA _ wd_313) (fun _ h => h) rfl dX10_thing_6 ?_
    refine va_get (ci := 6) (v := .ref ns_) (C := RX6) (T := TX6) (N := 8) hx hb htA in_X6 hown hK hP 6 rfl rfl 2 (by decide) (htA _ wd_175) (fun _ h => h) rfl dX10_thing_9 ?_
    refine lv_iload_n hx hb dX10_thing_12 rfl (lv_at hl 1 rfl) ?_
    refine va_iald hx hb hK hP 0 0 rfl rfl (rg_in k2_0_ (by decide) (by decide)) dX10_thing_13 ?_
    refine lv_topi (fun v10130_ ev10130_ => ?_)
    refine lv_istore_n (lv' := [(3, .int v10130_), (0, .ref nx_), (1, .int t_), (2, .int w_)]) hx hb dX10_thing_14 rfl hl (by decide) rfl (fun ls hl => ?_)
    refine lv_iload_n hx hb dX10_thing_15 rfl (lv_at hl 3 rfl) ?_
    refine lv_topi (fun sw16_ esw16_ => ?_)
    rcases sw_0_5 sw16_ with rfl | rfl | rfl | rfl | rfl | rfl | c16_
    · refine lv_tableIn (tgt := 56) hx hb dX10_thing_16 (by decide) (by decide) rfl (by decide) ?_
      have g1_ : rg (0) (0) w_ := rg_eq esw16_.symm (rg_lit (by decide) : rg (0) (0) (0 : Int32))
      refine lv_aload_n hx hb dX10_thing_56 rfl (lv_at hl 1 rfl) ?_
      refine va_get (ci := 10) (v := .ref no_) (C := RX10) (T := TX10) (N := 13) hx hb htA in_X10 hown hK hP 5 rfl rfl 5 (by decide) (htA _ wd_313) (fun _ h => h) rfl dX10_thing_57 ?_
      refine va_get (ci := 6) (v := .ref nd_) (C := RX6) (T := TX6) (N := 8) hx hb htA in_X6 hown hK hP 6 rfl rfl 0 (by decide) (htA _ wd_168) (fun _ h => h) rfl dX10_thing_60 ?_
      refine va_get (ci := 0) (v := .ref nw_) (C := RX0) (T := TX0) (N := 10) hx hb htA in_X0 hown hK hP 7 rfl rfl 5 (by decide) (htA _ wd_94) (fun _ h => h) rfl dX10_thing_63 ?_
      refine lv_iload_n hx hb dX10_thing_66 rfl (lv_at hl 2 rfl) ?_
      refine va_iald hx hb hK hP 4 0 rfl rfl (rg_in k2_0_ (by decide) (by decide)) dX10_thing_67 ?_
      refine lv_topi (fun v10670_ ev10670_ => ?_)
      have hP : va_P D vwCl [(nx_, .inr (10, [.ref ntp_, .int tapeLength_, .int faultKind_, .int faultPlace_, .ref nrd_, .ref no_, .ref nhi_, .ref nf_, .ref ny_, .ref nff_, .ref nty_, .ref nim_, .int drawn_])), (no_, .inr (6, [.ref nd_, .int hour_, .ref ns_, .ref nc_, .ref nl_, .ref nt_, .ref nh_, .int fallen_])), (ns_, .inl (cy 0, 8, .inl (fs_))), (nc_, .inl (cy 0, 8, .inl (fc_))), (nl_, .inl (cy 0, 8, .inl (fl_))), (nt_, .inl (cy 0, 8, .inl (ft_))), (nd_, .inr (0, [.int lines_, .int columns_, .int levels_, .int things_, .int walkers_, .ref nw_, .ref nr_, .ref nq_, hangs_, frees_])), (nw_, .inl (cy 0, 8, .inl (fw_)))] H := hP.sub [5, 6, 0, 1, 2, 3, 7, 4] rfl
      have hD : va_D A [(nx_, .inr (10, [.ref ntp_, .int tapeLength_, .int faultKind_, .int faultPlace_, .ref nrd_, .ref no_, .ref nhi_, .ref nf_, .ref ny_, .ref nff_, .ref nty_, .ref nim_, .int drawn_])), (no_, .inr (6, [.ref nd_, .int hour_, .ref ns_, .ref nc_, .ref nl_, .ref nt_, .ref nh_, .int fallen_])), (ns_, .inl (cy 0, 8, .inl (fs_))), (nc_, .inl (cy 0, 8, .inl (fc_))), (nl_, .inl (cy 0, 8, .inl (fl_))), (nt_, .inl (cy 0, 8, .inl (ft_))), (nd_, .inr (0, [.int lines_, .int columns_, .int levels_, .int things_, .int walkers_, .ref nw_, .ref nr_, .ref nq_, hangs_, frees_])), (nw_, .inl (cy 0, 8, .inl (fw_)))] := hD.sub [5, 6, 0, 1, 2, 3, 7, 4] (by decide +kernel) rfl
      exact vx_ret (rI hX hE hP hD hS dX10_thing_68 (by decide) (by decide) ⟨(rg_w k2_0_ (by decide) (by decide)), (rg_w g1_ (by decide) (by decide)), rfl⟩)
    · refine lv_tableIn (tgt := 69) hx hb dX10_thing_16 (by decide) (by decide) rfl (by decide) ?_
      have g2_ : rg (1) (1) w_ := rg_eq esw16_.symm (rg_lit (by decide) : rg (1) (1) (1 : Int32))
      refine lv_iload_n hx hb dX10_thing_69 rfl (lv_at hl 0 rfl) ?_
      have hP : va_P D vwCl [(nx_, .inr (10, [.ref ntp_, .int tapeLength_, .int faultKind_, .int faultPlace_, .ref nrd_, .ref no_, .ref nhi_, .ref nf_, .ref ny_, .ref nff_, .ref nty_, .ref nim_, .int drawn_])), (no_, .inr (6, [.ref nd_, .int hour_, .ref ns_, .ref nc_, .ref nl_, .ref nt_, .ref nh_, .int fallen_])), (ns_, .inl (cy 0, 8, .inl (fs_))), (nc_, .inl (cy 0, 8, .inl (fc_))), (nl_, .inl (cy 0, 8, .inl (fl_))), (nt_, .inl (cy 0, 8, .inl (ft_))), (nd_, .inr (0, [.int lines_, .int columns_, .int levels_, .int things_, .int walkers_, .ref nw_, .ref nr_, .ref nq_, hangs_, frees_])), (nw_, .inl (cy 0, 8, .inl (fw_)))] H := hP.sub [5, 6, 0, 1, 2, 3, 7, 4] rfl
      have hD : va_D A [(nx_, .inr (10, [.ref ntp_, .int tapeLength_, .int faultKind_, .int faultPlace_, .ref nrd_, .ref no_, .ref nhi_, .ref nf_, .ref ny_, .ref nff_, .ref nty_, .ref nim_, .int drawn_])), (no_, .inr (6, [.ref nd_, .int hour_, .ref ns_, .ref nc_, .ref nl_, .ref nt_, .ref nh_, .int fallen_])), (ns_, .inl (cy 0, 8, .inl (fs_))), (nc_, .inl (cy 0, 8, .inl (fc_))), (nl_, .inl (cy 0, 8, .inl (fl_))), (nt_, .inl (cy 0, 8, .inl (ft_))), (nd_, .inr (0, [.int lines_, .int columns_, .int levels_, .int things_, .int walkers_, .ref nw_, .ref nr_, .ref nq_, hangs_, frees_])), (nw_, .inl (cy 0, 8, .inl (fw_)))] := hD.sub [5, 6, 0, 1, 2, 3, 7, 4] (by decide +kernel) rfl
      exact vx_ret (rI hX hE hP hD hS dX10_thing_70 (by decide) (by decide) ⟨(rg_w k2_0_ (by decide) (by decide)), (rg_w g2_ (by decide) (by decide)), rfl⟩)
    · refine lv_tableIn (tgt := 71) hx hb dX10_thing_16 (by decide) (by decide) rfl (by decide) ?_
      have g3_ : rg (2) (2) w_ := rg_eq esw16_.symm (rg_lit (by decide) : rg (2) (2) (2 : Int32))
      refine lv_iload_n hx hb dX10_thing_71 rfl (lv_at hl 0 rfl) ?_
      refine joinT (D := D) (A := A) (pc := 88) (mL := 4) (τ := Int32) (WS := fun i => [(ns_, .inl (cy 0, 8, .inl (fs_))), (nc_, .inl (cy 0, 8, .inl (fc_))), (nl_, .inl (cy 0, 8, .inl (fl_))), (nt_, .inl (cy 0, 8, .inl (ft_))), (nw_, .inl (cy 0, 8, .inl (fw_))), (nx_, .inr (10, [.ref ntp_, .int tapeLength_, .int faultKind_, .int faultPlace_, .ref nrd_, .ref no_, .ref nhi_, .ref nf_, .ref ny_, .ref nff_, .ref nty_, .ref nim_, .int drawn_])), (no_, .inr (6, [.ref nd_, .int hour_, .ref ns_, .ref nc_, .ref nl_, .ref nt_, .ref nh_, .int fallen_])), (nd_, .inr (0, [.int lines_, .int columns_, .int levels_, .int things_, .int walkers_, .ref nw_, .ref nr_, .ref nq_, hangs_, frees_]))]) (LV := fun i => [(3, .int v10130_), (0, .ref nx_), (1, .int t_), (2, .int w_)]) (ST := fun i => [.int i]) (cells := 1) (slots := 6) (fun i => True) (fun v208800_ H locs ls hI hP hD hS hl => ?_) (fun j88_ => ?_)
      · have hP : va_P D vwCl [(ns_, .inl (cy 0, 8, .inl (fs_))), (nc_, .inl (cy 0, 8, .inl (fc_))), (nl_, .inl (cy 0, 8, .inl (fl_))), (nt_, .inl (cy 0, 8, .inl (ft_))), (nw_, .inl (cy 0, 8, .inl (fw_))), (nx_, .inr (10, [.ref ntp_, .int tapeLength_, .int faultKind_, .int faultPlace_, .ref nrd_, .ref no_, .ref nhi_, .ref nf_, .ref ny_, .ref nff_, .ref nty_, .ref nim_, .int drawn_])), (no_, .inr (6, [.ref nd_, .int hour_, .ref ns_, .ref nc_, .ref nl_, .ref nt_, .ref nh_, .int fallen_])), (nd_, .inr (0, [.int lines_, .int columns_, .int levels_, .int things_, .int walkers_, .ref nw_, .ref nr_, .ref nq_, hangs_, frees_]))] H := hP
        have hD := va_ca hP hD
        have hl : lv_has ls 4 [(3, .int v10130_), (0, .ref nx_), (1, .int t_), (2, .int w_)] := hl
        have hP : va_P D vwCl [(nx_, .inr (10, [.ref ntp_, .int tapeLength_, .int faultKind_, .int faultPlace_, .ref nrd_, .ref no_, .ref nhi_, .ref nf_, .ref ny_, .ref nff_, .ref nty_, .ref nim_, .int drawn_])), (no_, .inr (6, [.ref nd_, .int hour_, .ref ns_, .ref nc_, .ref nl_, .ref nt_, .ref nh_, .int fallen_])), (ns_, .inl (cy 0, 8, .inl (fs_))), (nc_, .inl (cy 0, 8, .inl (fc_))), (nl_, .inl (cy 0, 8, .inl (fl_))), (nt_, .inl (cy 0, 8, .inl (ft_))), (nd_, .inr (0, [.int lines_, .int columns_, .int levels_, .int things_, .int walkers_, .ref nw_, .ref nr_, .ref nq_, hangs_, frees_])), (nw_, .inl (cy 0, 8, .inl (fw_)))] H := hP.sub [5, 6, 0, 1, 2, 3, 7, 4] rfl
        have hD : va_D A [(nx_, .inr (10, [.ref ntp_, .int tapeLength_, .int faultKind_, .int faultPlace_, .ref nrd_, .ref no_, .ref nhi_, .ref nf_, .ref ny_, .ref nff_, .ref nty_, .ref nim_, .int drawn_])), (no_, .inr (6, [.ref nd_, .int hour_, .ref ns_, .ref nc_, .ref nl_, .ref nt_, .ref nh_, .int fallen_])), (ns_, .inl (cy 0, 8, .inl (fs_))), (nc_, .inl (cy 0, 8, .inl (fc_))), (nl_, .inl (cy 0, 8, .inl (fl_))), (nt_, .inl (cy 0, 8, .inl (ft_))), (nd_, .inr (0, [.int lines_, .int columns_, .int levels_, .int things_, .int walkers_, .ref nw_, .ref nr_, .ref nq_, hangs_, frees_])), (nw_, .inl (cy 0, 8, .inl (fw_)))] := hD.sub [5, 6, 0, 1, 2, 3, 7, 4] (by decide +kernel) rfl
        exact vx_ret (rI hX hE hP hD hS dX10_thing_88 (by decide) (by decide) ⟨(rg_w k2_0_ (by decide) (by decide)), (rg_w g3_ (by decide) (by decide)), rfl⟩)
      refine lv_if_ne (tgt := 79) hx hb dX10_thing_72 (by decide) (fun c72_ => ?_) (fun c72_ => ?_)
      · refine lv_aload_n hx hb dX10_thing_79 rfl (lv_at hl 1 rfl) ?_
        refine va_get (ci := 10) (v := .ref no_) (C := RX10) (T := TX10) (N := 13) hx hb htA in_X10 hown hK hP 5 rfl rfl 5 (by decide) (htA _ wd_313) (fun _ h => h) rfl dX10_thing_80 ?_
        refine va_get (ci := 6) (v := .ref nc_) (C := RX6) (T := TX6) (N := 8) hx hb htA in_X6 hown hK hP 6 rfl rfl 3 (by decide) (htA _ wd_179) (fun _ h => h) rfl dX10_thing_83 ?_
        refine lv_iload_n hx hb dX10_thing_86 rfl (lv_at hl 2 rfl) ?_
        refine va_iald hx hb hK hP 1 0 rfl rfl (rg_in k2_0_ (by decide) (by decide)) dX10_thing_87 ?_
        refine lv_topi (fun v10870_ ev10870_ => ?_)
        exact j88_ v10870_ _ _ ls trivial hP hD hS (lv_sub hl [0, 1, 2, 3] rfl)
      · have g4_ : rg (0) (0) v10130_ := rg_eq c72_ (rg_lit (by decide) : rg (0) (0) (0 : Int32))
        refine lv_iconst (v := (-1)) hx hb dX10_thing_75 (by decide) ?_
        refine lv_goto (tgt := 88) hx hb dX10_thing_76 (by decide) ?_
        exact j88_ (-1) _ _ ls trivial hP hD hS (lv_sub hl [0, 1, 2, 3] rfl)
    · refine lv_tableIn (tgt := 89) hx hb dX10_thing_16 (by decide) (by decide) rfl (by decide) ?_
      have g5_ : rg (3) (3) w_ := rg_eq esw16_.symm (rg_lit (by decide) : rg (3) (3) (3 : Int32))
      refine lv_iload_n hx hb dX10_thing_89 rfl (lv_at hl 0 rfl) ?_
      refine joinT (D := D) (A := A) (pc := 106) (mL := 4) (τ := Int32) (WS := fun i => [(ns_, .inl (cy 0, 8, .inl (fs_))), (nc_, .inl (cy 0, 8, .inl (fc_))), (nl_, .inl (cy 0, 8, .inl (fl_))), (nt_, .inl (cy 0, 8, .inl (ft_))), (nw_, .inl (cy 0, 8, .inl (fw_))), (nx_, .inr (10, [.ref ntp_, .int tapeLength_, .int faultKind_, .int faultPlace_, .ref nrd_, .ref no_, .ref nhi_, .ref nf_, .ref ny_, .ref nff_, .ref nty_, .ref nim_, .int drawn_])), (no_, .inr (6, [.ref nd_, .int hour_, .ref ns_, .ref nc_, .ref nl_, .ref nt_, .ref nh_, .int fallen_])), (nd_, .inr (0, [.int lines_, .int columns_, .int levels_, .int things_, .int walkers_, .ref nw_, .ref nr_, .ref nq_, hangs_, frees_]))]) (LV := fun i => [(3, .int v10130_), (0, .ref nx_), (1, .int t_), (2, .int w_)]) (ST := fun i => [.int i]) (cells := 1) (slots := 6) (fun i => True) (fun v210600_ H locs ls hI hP hD hS hl => ?_) (fun j106_ => ?_)
      · have hP : va_P D vwCl [(ns_, .inl (cy 0, 8, .inl (fs_))), (nc_, .inl (cy 0, 8, .inl (fc_))), (nl_, .inl (cy 0, 8, .inl (fl_))), (nt_, .inl (cy 0, 8, .inl (ft_))), (nw_, .inl (cy 0, 8, .inl (fw_))), (nx_, .inr (10, [.ref ntp_, .int tapeLength_, .int faultKind_, .int faultPlace_, .ref nrd_, .ref no_, .ref nhi_, .ref nf_, .ref ny_, .ref nff_, .ref nty_, .ref nim_, .int drawn_])), (no_, .inr (6, [.ref nd_, .int hour_, .ref ns_, .ref nc_, .ref nl_, .ref nt_, .ref nh_, .int fallen_])), (nd_, .inr (0, [.int lines_, .int columns_, .int levels_, .int things_, .int walkers_, .ref nw_, .ref nr_, .ref nq_, hangs_, frees_]))] H := hP
        have hD := va_ca hP hD
        have hl : lv_has ls 4 [(3, .int v10130_), (0, .ref nx_), (1, .int t_), (2, .int w_)] := hl
        have hP : va_P D vwCl [(nx_, .inr (10, [.ref ntp_, .int tapeLength_, .int faultKind_, .int faultPlace_, .ref nrd_, .ref no_, .ref nhi_, .ref nf_, .ref ny_, .ref nff_, .ref nty_, .ref nim_, .int drawn_])), (no_, .inr (6, [.ref nd_, .int hour_, .ref ns_, .ref nc_, .ref nl_, .ref nt_, .ref nh_, .int fallen_])), (ns_, .inl (cy 0, 8, .inl (fs_))), (nc_, .inl (cy 0, 8, .inl (fc_))), (nl_, .inl (cy 0, 8, .inl (fl_))), (nt_, .inl (cy 0, 8, .inl (ft_))), (nd_, .inr (0, [.int lines_, .int columns_, .int levels_, .int things_, .int walkers_, .ref nw_, .ref nr_, .ref nq_, hangs_, frees_])), (nw_, .inl (cy 0, 8, .inl (fw_)))] H := hP.sub [5, 6, 0, 1, 2, 3, 7, 4] rfl
        have hD : va_D A [(nx_, .inr (10, [.ref ntp_, .int tapeLength_, .int faultKind_, .int faultPlace_, .ref nrd_, .ref no_, .ref nhi_, .ref nf_, .ref ny_, .ref nff_, .ref nty_, .ref nim_, .int drawn_])), (no_, .inr (6, [.ref nd_, .int hour_, .ref ns_, .ref nc_, .ref nl_, .ref nt_, .ref nh_, .int fallen_])), (ns_, .inl (cy 0, 8, .inl (fs_))), (nc_, .inl (cy 0, 8, .inl (fc_))), (nl_, .inl (cy 0, 8, .inl (fl_))), (nt_, .inl (cy 0, 8, .inl (ft_))), (nd_, .inr (0, [.int lines_, .int columns_, .int levels_, .int things_, .int walkers_, .ref nw_, .ref nr_, .ref nq_, hangs_, frees_])), (nw_, .inl (cy 0, 8, .inl (fw_)))] := hD.sub [5, 6, 0, 1, 2, 3, 7, 4] (by decide +kernel) rfl
        exact vx_ret (rI hX hE hP hD hS dX10_thing_106 (by decide) (by decide) ⟨(rg_w k2_0_ (by decide) (by decide)), (rg_w g5_ (by decide) (by decide)), rfl⟩)
      refine lv_if_ne (tgt := 97) hx hb dX10_thing_90 (by decide) (fun c90_ => ?_) (fun c90_ => ?_)
      · refine lv_aload_n hx hb dX10_thing_97 rfl (lv_at hl 1 rfl) ?_
        refine va_get (ci := 10) (v := .ref no_) (C := RX10) (T := TX10) (N := 13) hx hb htA in_X10 hown hK hP 5 rfl rfl 5 (by decide) (htA _ wd_313) (fun _ h => h) rfl dX10_thing_98 ?_
        refine va_get (ci := 6) (v := .ref nl_) (C := RX6) (T := TX6) (N := 8) hx hb htA in_X6 hown hK hP 6 rfl rfl 4 (by decide) (htA _ wd_182) (fun _ h => h) rfl dX10_thing_101 ?_
        refine lv_iload_n hx hb dX10_thing_104 rfl (lv_at hl 2 rfl) ?_
        refine va_iald hx hb hK hP 2 0 rfl rfl (rg_in k2_0_ (by decide) (by decide)) dX10_thing_105 ?_
        refine lv_topi (fun v11050_ ev11050_ => ?_)
        exact j106_ v11050_ _ _ ls trivial hP hD hS (lv_sub hl [0, 1, 2, 3] rfl)
      · have g6_ : rg (0) (0) v10130_ := rg_eq c90_ (rg_lit (by decide) : rg (0) (0) (0 : Int32))
        refine lv_iconst (v := (-1)) hx hb dX10_thing_93 (by decide) ?_
        refine lv_goto (tgt := 106) hx hb dX10_thing_94 (by decide) ?_
        exact j106_ (-1) _ _ ls trivial hP hD hS (lv_sub hl [0, 1, 2, 3] rfl)
    · refine lv_tableIn (tgt := 107) hx hb dX10_thing_16 (by decide) (by decide) rfl (by decide) ?_
      have g7_ : rg (4) (4) w_ := rg_eq esw16_.symm (rg_lit (by decide) : rg (4) (4) (4 : Int32))
      refine lv_iload_n hx hb dX10_thing_107 rfl (lv_at hl 0 rfl) ?_
      refine joinT (D := D) (A := A) (pc := 132) (mL := 4) (τ := Int32) (WS := fun i => [(ns_, .inl (cy 0, 8, .inl (fs_))), (nc_, .inl (cy 0, 8, .inl (fc_))), (nl_, .inl (cy 0, 8, .inl (fl_))), (nt_, .inl (cy 0, 8, .inl (ft_))), (nw_, .inl (cy 0, 8, .inl (fw_))), (nx_, .inr (10, [.ref ntp_, .int tapeLength_, .int faultKind_, .int faultPlace_, .ref nrd_, .ref no_, .ref nhi_, .ref nf_, .ref ny_, .ref nff_, .ref nty_, .ref nim_, .int drawn_])), (no_, .inr (6, [.ref nd_, .int hour_, .ref ns_, .ref nc_, .ref nl_, .ref nt_, .ref nh_, .int fallen_])), (nd_, .inr (0, [.int lines_, .int columns_, .int levels_, .int things_, .int walkers_, .ref nw_, .ref nr_, .ref nq_, hangs_, frees_]))]) (LV := fun i => [(3, .int v10130_), (0, .ref nx_), (1, .int t_), (2, .int w_)]) (ST := fun i => [.int i]) (cells := 1) (slots := 6) (fun i => True) (fun v213200_ H locs ls hI hP hD hS hl => ?_) (fun j132_ => ?_)
      · have hP : va_P D vwCl [(ns_, .inl (cy 0, 8, .inl (fs_))), (nc_, .inl (cy 0, 8, .inl (fc_))), (nl_, .inl (cy 0, 8, .inl (fl_))), (nt_, .inl (cy 0, 8, .inl (ft_))), (nw_, .inl (cy 0, 8, .inl (fw_))), (nx_, .inr (10, [.ref ntp_, .int tapeLength_, .int faultKind_, .int faultPlace_, .ref nrd_, .ref no_, .ref nhi_, .ref nf_, .ref ny_, .ref nff_, .ref nty_, .ref nim_, .int drawn_])), (no_, .inr (6, [.ref nd_, .int hour_, .ref ns_, .ref nc_, .ref nl_, .ref nt_, .ref nh_, .int fallen_])), (nd_, .inr (0, [.int lines_, .int columns_, .int levels_, .int things_, .int walkers_, .ref nw_, .ref nr_, .ref nq_, hangs_, frees_]))] H := hP
        have hD := va_ca hP hD
        have hl : lv_has ls 4 [(3, .int v10130_), (0, .ref nx_), (1, .int t_), (2, .int w_)] := hl
        have hP : va_P D vwCl [(nx_, .inr (10, [.ref ntp_, .int tapeLength_, .int faultKind_, .int faultPlace_, .ref nrd_, .ref no_, .ref nhi_, .ref nf_, .ref ny_, .ref nff_, .ref nty_, .ref nim_, .int drawn_])), (no_, .inr (6, [.ref nd_, .int hour_, .ref ns_, .ref nc_, .ref nl_, .ref nt_, .ref nh_, .int fallen_])), (ns_, .inl (cy 0, 8, .inl (fs_))), (nc_, .inl (cy 0, 8, .inl (fc_))), (nl_, .inl (cy 0, 8, .inl (fl_))), (nt_, .inl (cy 0, 8, .inl (ft_))), (nd_, .inr (0, [.int lines_, .int columns_, .int levels_, .int things_, .int walkers_, .ref nw_, .ref nr_, .ref nq_, hangs_, frees_])), (nw_, .inl (cy 0, 8, .inl (fw_)))] H := hP.sub [5, 6, 0, 1, 2, 3, 7, 4] rfl
        have hD : va_D A [(nx_, .inr (10, [.ref ntp_, .int tapeLength_, .int faultKind_, .int faultPlace_, .ref nrd_, .ref no_, .ref nhi_, .ref nf_, .ref ny_, .ref nff_, .ref nty_, .ref nim_, .int drawn_])), (no_, .inr (6, [.ref nd_, .int hour_, .ref ns_, .ref nc_, .ref nl_, .ref nt_, .ref nh_, .int fallen_])), (ns_, .inl (cy 0, 8, .inl (fs_))), (nc_, .inl (cy 0, 8, .inl (fc_))), (nl_, .inl (cy 0, 8, .inl (fl_))), (nt_, .inl (cy 0, 8, .inl (ft_))), (nd_, .inr (0, [.int lines_, .int columns_, .int levels_, .int things_, .int walkers_, .ref nw_, .ref nr_, .ref nq_, hangs_, frees_])), (nw_, .inl (cy 0, 8, .inl (fw_)))] := hD.sub [5, 6, 0, 1, 2, 3, 7, 4] (by decide +kernel) rfl
        exact vx_ret (rI hX hE hP hD hS dX10_thing_132 (by decide) (by decide) ⟨(rg_w k2_0_ (by decide) (by decide)), (rg_w g7_ (by decide) (by decide)), rfl⟩)
      refine lv_if_ne (tgt := 131) hx hb dX10_thing_108 (by decide) (fun c108_ => ?_) (fun c108_ => ?_)
      · refine lv_iconst (v := (-1)) hx hb dX10_thing_131 (by decide) ?_
        exact j132_ (-1) _ _ ls trivial hP hD hS (lv_sub hl [0, 1, 2, 3] rfl)
      · have g8_ : rg (0) (0) v10130_ := rg_eq c108_ (rg_lit (by decide) : rg (0) (0) (0 : Int32))
        refine lv_aload_n hx hb dX10_thing_111 rfl (lv_at hl 1 rfl) ?_
        refine va_get (ci := 10) (v := .ref no_) (C := RX10) (T := TX10) (N := 13) hx hb htA in_X10 hown hK hP 5 rfl rfl 5 (by decide) (htA _ wd_313) (fun _ h => h) rfl dX10_thing_112 ?_
        refine va_get (ci := 6) (v := .int hour_) (C := RX6) (T := TX6) (N := 8) hx hb htA in_X6 hown hK hP 6 rfl rfl 1 (by decide) (htA _ wd_173) (fun _ h => h) rfl dX10_thing_115 ?_
        refine lv_aload_n hx hb dX10_thing_118 rfl (lv_at hl 1 rfl) ?_
        refine va_get (ci := 10) (v := .ref no_) (C := RX10) (T := TX10) (N := 13) hx hb htA in_X10 hown hK hP 5 rfl rfl 5 (by decide) (htA _ wd_313) (fun _ h => h) rfl dX10_thing_119 ?_
        refine va_get (ci := 6) (v := .ref nt_) (C := RX6) (T := TX6) (N := 8) hx hb htA in_X6 hown hK hP 6 rfl rfl 5 (by decide) (htA _ wd_185) (fun _ h => h) rfl dX10_thing_122 ?_
        refine lv_iload_n hx hb dX10_thing_125 rfl (lv_at hl 2 rfl) ?_
        refine va_iald hx hb hK hP 3 0 rfl rfl (rg_in k2_0_ (by decide) (by decide)) dX10_thing_126 ?_
        refine lv_topi (fun v11260_ ev11260_ => ?_)
        refine lv_isub hx hb dX10_thing_127 ?_
        refine lv_goto (tgt := 132) hx hb dX10_thing_128 (by decide) ?_
        exact j132_ (hour_ - v11260_) _ _ ls trivial hP hD hS (lv_sub hl [0, 1, 2, 3] rfl)
    · refine lv_tableIn (tgt := 133) hx hb dX10_thing_16 (by decide) (by decide) rfl (by decide) ?_
      have g9_ : rg (5) (5) w_ := rg_eq esw16_.symm (rg_lit (by decide) : rg (5) (5) (5 : Int32))
      refine lv_iload_n hx hb dX10_thing_133 rfl (lv_at hl 0 rfl) ?_
      refine lv_iconst (v := 1) hx hb dX10_thing_134 (by decide) ?_
      refine joinT (D := D) (A := A) (pc := 159) (mL := 4) (τ := Int32) (WS := fun i => [(ns_, .inl (cy 0, 8, .inl (fs_))), (nc_, .inl (cy 0, 8, .inl (fc_))), (nl_, .inl (cy 0, 8, .inl (fl_))), (nt_, .inl (cy 0, 8, .inl (ft_))), (nw_, .inl (cy 0, 8, .inl (fw_))), (nx_, .inr (10, [.ref ntp_, .int tapeLength_, .int faultKind_, .int faultPlace_, .ref nrd_, .ref no_, .ref nhi_, .ref nf_, .ref ny_, .ref nff_, .ref nty_, .ref nim_, .int drawn_])), (no_, .inr (6, [.ref nd_, .int hour_, .ref ns_, .ref nc_, .ref nl_, .ref nt_, .ref nh_, .int fallen_])), (nd_, .inr (0, [.int lines_, .int columns_, .int levels_, .int things_, .int walkers_, .ref nw_, .ref nr_, .ref nq_, hangs_, frees_]))]) (LV := fun i => [(3, .int v10130_), (0, .ref nx_), (1, .int t_), (2, .int w_)]) (ST := fun i => [.int i]) (cells := 1) (slots := 6) (fun i => True) (fun v215900_ H locs ls hI hP hD hS hl => ?_) (fun j159_ => ?_)
      · have hP : va_P D vwCl [(ns_, .inl (cy 0, 8, .inl (fs_))), (nc_, .inl (cy 0, 8, .inl (fc_))), (nl_, .inl (cy 0, 8, .inl (fl_))), (nt_, .inl (cy 0, 8, .inl (ft_))), (nw_, .inl (cy 0, 8, .inl (fw_))), (nx_, .inr (10, [.ref ntp_, .int tapeLength_, .int faultKind_, .int faultPlace_, .ref nrd_, .ref no_, .ref nhi_, .ref nf_, .ref ny_, .ref nff_, .ref nty_, .ref nim_, .int drawn_])), (no_, .inr (6, [.ref nd_, .int hour_, .ref ns_, .ref nc_, .ref nl_, .ref nt_, .ref nh_, .int fallen_])), (nd_, .inr (0, [.int lines_, .int columns_, .int levels_, .int things_, .int walkers_, .ref nw_, .ref nr_, .ref nq_, hangs_, frees_]))] H := hP
        have hD := va_ca hP hD
        have hl : lv_has ls 4 [(3, .int v10130_), (0, .ref nx_), (1, .int t_), (2, .int w_)] := hl
        have hP : va_P D vwCl [(nx_, .inr (10, [.ref ntp_, .int tapeLength_, .int faultKind_, .int faultPlace_, .ref nrd_, .ref no_, .ref nhi_, .ref nf_, .ref ny_, .ref nff_, .ref nty_, .ref nim_, .int drawn_])), (no_, .inr (6, [.ref nd_, .int hour_, .ref ns_, .ref nc_, .ref nl_, .ref nt_, .ref nh_, .int fallen_])), (ns_, .inl (cy 0, 8, .inl (fs_))), (nc_, .inl (cy 0, 8, .inl (fc_))), (nl_, .inl (cy 0, 8, .inl (fl_))), (nt_, .inl (cy 0, 8, .inl (ft_))), (nd_, .inr (0, [.int lines_, .int columns_, .int levels_, .int things_, .int walkers_, .ref nw_, .ref nr_, .ref nq_, hangs_, frees_])), (nw_, .inl (cy 0, 8, .inl (fw_)))] H := hP.sub [5, 6, 0, 1, 2, 3, 7, 4] rfl
        have hD : va_D A [(nx_, .inr (10, [.ref ntp_, .int tapeLength_, .int faultKind_, .int faultPlace_, .ref nrd_, .ref no_, .ref nhi_, .ref nf_, .ref ny_, .ref nff_, .ref nty_, .ref nim_, .int drawn_])), (no_, .inr (6, [.ref nd_, .int hour_, .ref ns_, .ref nc_, .ref nl_, .ref nt_, .ref nh_, .int fallen_])), (ns_, .inl (cy 0, 8, .inl (fs_))), (nc_, .inl (cy 0, 8, .inl (fc_))), (nl_, .inl (cy 0, 8, .inl (fl_))), (nt_, .inl (cy 0, 8, .inl (ft_))), (nd_, .inr (0, [.int lines_, .int columns_, .int levels_, .int things_, .int walkers_, .ref nw_, .ref nr_, .ref nq_, hangs_, frees_])), (nw_, .inl (cy 0, 8, .inl (fw_)))] := hD.sub [5, 6, 0, 1, 2, 3, 7, 4] (by decide +kernel) rfl
        exact vx_ret (rI hX hE hP hD hS dX10_thing_159 (by decide) (by decide) ⟨(rg_w k2_0_ (by decide) (by decide)), (rg_w g9_ (by decide) (by decide)), rfl⟩)
      refine lv_icmp_ne (tgt := 158) hx hb dX10_thing_135 (by decide) (fun c135_ => ?_) (fun c135_ => ?_)
      · refine lv_iconst (v := (-1)) hx hb dX10_thing_158 (by decide) ?_
        exact j159_ (-1) _ _ ls trivial hP hD hS (lv_sub hl [0, 1, 2, 3] rfl)
      · have g10_ : rg (1) (1) v10130_ := rg_eq c135_ (rg_lit (by decide) : rg (1) (1) (1 : Int32))
        refine lv_aload_n hx hb dX10_thing_138 rfl (lv_at hl 1 rfl) ?_
        refine va_get (ci := 10) (v := .ref no_) (C := RX10) (T := TX10) (N := 13) hx hb htA in_X10 hown hK hP 5 rfl rfl 5 (by decide) (htA _ wd_313) (fun _ h => h) rfl dX10_thing_139 ?_
        refine va_get (ci := 6) (v := .ref nt_) (C := RX6) (T := TX6) (N := 8) hx hb htA in_X6 hown hK hP 6 rfl rfl 5 (by decide) (htA _ wd_185) (fun _ h => h) rfl dX10_thing_142 ?_
        refine lv_iload_n hx hb dX10_thing_145 rfl (lv_at hl 2 rfl) ?_
        refine va_iald hx hb hK hP 3 0 rfl rfl (rg_in k2_0_ (by decide) (by decide)) dX10_thing_146 ?_
        refine lv_topi (fun v11460_ ev11460_ => ?_)
        refine lv_aload_n hx hb dX10_thing_147 rfl (lv_at hl 1 rfl) ?_
        refine va_get (ci := 10) (v := .ref no_) (C := RX10) (T := TX10) (N := 13) hx hb htA in_X10 hown hK hP 5 rfl rfl 5 (by decide) (htA _ wd_313) (fun _ h => h) rfl dX10_thing_148 ?_
        refine va_get (ci := 6) (v := .int hour_) (C := RX6) (T := TX6) (N := 8) hx hb htA in_X6 hown hK hP 6 rfl rfl 1 (by decide) (htA _ wd_173) (fun _ h => h) rfl dX10_thing_151 ?_
        refine lv_isub hx hb dX10_thing_154 ?_
        refine lv_goto (tgt := 159) hx hb dX10_thing_155 (by decide) ?_
        exact j159_ (v11460_ - hour_) _ _ ls trivial hP hD hS (lv_sub hl [0, 1, 2, 3] rfl)
    · refine lv_tableOut (tgt := 160) hx hb dX10_thing_16 c16_ (by decide) ?_
      exact k_throwS hlt hX hE hxt hP hD hS hl.1 (by decide) (htA _ wd_531) (htA _ wd_14) (xSW_in hE.2.2.2 "LateFalls" 141 "no such what" (by decide)) (at_X10_87 htA hE.2.2.2) ot_X10_83_87 dX10_thing_160 dX10_thing_163 dX10_thing_164 dX10_thing_166 dX10_thing_169 (by decide) (by decide) (by decide) (by decide) (by decide) (by decide) (Or.inl rfl)
set_option maxHeartbeats 4000000 in
set_option maxRecDepth 100000 in
theorem sf_X10_walker (l : Launch) (hlt : l.stackTraces = false) (D : va_G) (cy : Nat → ClassId) (nx_ : Nat) (ntp_ : Nat) (tapeLength_ : Int32) (faultKind_ : Int32) (faultPlace_ : Int32) (nrd_ : Nat) (no_ : Nat) (nhi_ : Nat) (nf_ : Nat) (ny_ : Nat) (nff_ : Nat) (nty_ : Nat) (nim_ : Nat) (drawn_ : Int32) (nd_ : Nat) (hour_ : Int32) (ns_ : Nat) (nc_ : Nat) (nl_ : Nat) (nt_ : Nat) (nh_ : Nat) (fallen_ : Int32) (fh_ : Nat → Int32) (lines_ : Int32) (columns_ : Int32) (levels_ : Int32) (things_ : Int32) (walkers_ : Int32) (nw_ : Nat) (nr_ : Nat) (nq_ : Nat) (hangs_ : Value) (frees_ : Value) (fr_ : Nat → Int32) (fq_ : Nat → Int32) (w_ : Int32) (v_ : Int32) (rcolumns_ : rg (1) (6) columns_) (rlevels_ : rg (1) (9) levels_) (rthings_ : rg (0) (8) things_) (rwalkers_ : rg (0) (4) walkers_) (rtapeLength_ : rg (0) (900) tapeLength_) (rfq_ : ag (0) (8) 4 fq_) : Xi l yX10_walker cX10_walker 3 (some .int) { frames := 7, cells := 2, slots := 12, locals := 111 } D cy [.ref nx_, .int w_, .int v_] [(nx_, .inr (10, [.ref ntp_, .int tapeLength_, .int faultKind_, .int faultPlace_, .ref nrd_, .ref no_, .ref nhi_, .ref nf_, .ref ny_, .ref nff_, .ref nty_, .ref nim_, .int drawn_])), (no_, .inr (6, [.ref nd_, .int hour_, .ref ns_, .ref nc_, .ref nl_, .ref nt_, .ref nh_, .int fallen_])), (nh_, .inl (cy 0, 4, .inl (fh_))), (nd_, .inr (0, [.int lines_, .int columns_, .int levels_, .int things_, .int walkers_, .ref nw_, .ref nr_, .ref nq_, hangs_, frees_])), (nr_, .inl (cy 0, 32, .inl (fr_))), (nq_, .inl (cy 0, 4, .inl (fq_)))] (fun r W1 => rg (0) (3) w_ ∧ rg (0) (2) v_ ∧ W1 = [(nx_, .inr (10, [.ref ntp_, .int tapeLength_, .int faultKind_, .int faultPlace_, .ref nrd_, .ref no_, .ref nhi_, .ref nf_, .ref ny_, .ref nff_, .ref nty_, .ref nim_, .int drawn_])), (no_, .inr (6, [.ref nd_, .int hour_, .ref ns_, .ref nc_, .ref nl_, .ref nt_, .ref nh_, .int fallen_])), (nh_, .inl (cy 0, 4, .inl (fh_))), (nd_, .inr (0, [.int lines_, .int columns_, .int levels_, .int things_, .int walkers_, .ref nw_, .ref nr_, .ref nq_, hangs_, frees_])), (nr_, .inl (cy 0, 32, .inl (fr_))), (nq_, .inl (cy 0, 4, .inl (fq_)))]) (fun E _ => E = "java/lang/IllegalArgumentException" ∨ E = "java/util/NoSuchElementException") := by
  refine Xi.of (by decide) (Nat.le_of_ble_eq_true rfl) ?_
  intro p e s m below meth c A ls hX hE hP hD hl hxt
  obtain ⟨hx, hb, hr, hml, hown, htA, hlk⟩ := id hX
  have hK := hE.1
  have hS : va_S A s.heap s.heap [] := va_S.rf
  have hl : lv_has ls 3 [(0, .ref nx_), (1, .int w_), (2, .int v_)] := hl
  refine lv_aload_n hx hb dX10_walker_0 rfl (lv_at hl 0 rfl) ?_
  refine lv_iload_n hx hb dX10_walker_1 rfl (lv_at hl 1 rfl) ?_
  refine xVv (As := [.int w_]) (rest := []) (wr := [(nh_, .inl (cy 0, 4, .inl (fh_))), (nr_, .inl (cy 0, 32, .inl (fr_))), (nq_, .inl (cy 0, 4, .inl (fq_)))]) hX hE (sf_X10_needWalker l hlt D cy nx_ ntp_ tapeLength_ faultKind_ faultPlace_ nrd_ no_ nhi_ nf_ ny_ nff_ nty_ nim_ drawn_ nd_ hour_ ns_ nc_ nl_ nt_ nh_ fallen_ lines_ columns_ levels_ things_ walkers_ nw_ nr_ nq_ hangs_ frees_ w_ (rg_w rcolumns_ (by decide) (by decide)) (rg_w rlevels_ (by decide) (by decide)) (rg_w rthings_ (by decide) (by decide)) (rg_w rwalkers_ (by decide) (by decide)) (rg_w rtapeLength_ (by decide) (by decide))) (cwVA 1 htA wd_896 wd_893 wd_1 wd_895 wp_27 (by decide +kernel) ⟨by decide, by decide⟩) hP hD hS [0, 1, 3] [2, 4, 5] rfl rfl (by decide +kernel) 0 rfl rfl rfl rfl hl.1 rfl (Nat.le_of_ble_eq_true rfl) dX10_walker_2 (by decide) (fun E ce q9 W1 H locs hw hP hD hS hce hcv hcl => ?_) (fun W1 H locs hw hP hD hS => ?_)
  · rcases hw with rfl
    exact xO hX hE hxt hP hD hS hce hcv hcl (by decide) (by decide) (Or.inr (rfl))
  · refine W.widen (k := 1) (n := 6) (by decide) (by decide) ?_
    obtain ⟨k2_0_, rfl⟩ := hw
    have hP : va_P D vwCl [(nh_, .inl (cy 0, 4, .inl (fh_))), (nr_, .inl (cy 0, 32, .inl (fr_))), (nq_, .inl (cy 0, 4, .inl (fq_))), (nx_, .inr (10, [.ref ntp_, .int tapeLength_, .int faultKind_, .int faultPlace_, .ref nrd_, .ref no_, .ref nhi_, .ref nf_, .ref ny_, .ref nff_, .ref nty_, .ref nim_, .int drawn_])), (no_, .inr (6, [.ref nd_, .int hour_, .ref ns_, .ref nc_, .ref nl_, .ref nt_, .ref nh_, .int fallen_])), (nd_, .inr (0, [.int lines_, .int columns_, .int levels_, .int things_, .int walkers_, .ref nw_, .ref nr_, .ref nq_, hangs_, frees_]))] H := hP
    have hD := va_ca hP hD
    refine lv_iload_n hx hb dX10_walker_5 rfl (lv_at hl 2 rfl) ?_
    refine lv_topi (fun sw6_ esw6_ => ?_)
    rcases sw_0_2 sw6_ with rfl | rfl | rfl | c6_
    · refine lv_tableIn (tgt := 32) hx hb dX10_walker_6 (by decide) (by decide) rfl (by decide) ?_
      have g1_ : rg (0) (0) v_ := rg_eq esw6_.symm (rg_lit (by decide) : rg (0) (0) (0 : Int32))
      refine lv_aload_n hx hb dX10_walker_32 rfl (lv_at hl 0 rfl) ?_
      refine va_get (ci := 10) (v := .ref no_) (C := RX10) (T := TX10) (N := 13) hx hb htA in_X10 hown hK hP 3 rfl rfl 5 (by decide) (htA _ wd_313) (fun _ h => h) rfl dX10_walker_33 ?_
      refine va_get (ci := 6) (v := .ref nd_) (C := RX6) (T := TX6) (N := 8) hx hb htA in_X6 hown hK hP 4 rfl rfl 0 (by decide) (htA _ wd_168) (fun _ h => h) rfl dX10_walker_36 ?_
      refine lv_iload_n hx hb dX10_walker_39 rfl (lv_at hl 1 rfl) ?_
      refine lv_aload_n hx hb dX10_walker_40 rfl (lv_at hl 0 rfl) ?_
      refine va_get (ci := 10) (v := .ref no_) (C := RX10) (T := TX10) (N := 13) hx hb htA in_X10 hown hK hP 3 rfl rfl 5 (by decide) (htA _ wd_313) (fun _ h => h) rfl dX10_walker_41 ?_
      refine va_get (ci := 6) (v := .int hour_) (C := RX6) (T := TX6) (N := 8) hx hb htA in_X6 hown hK hP 4 rfl rfl 1 (by decide) (htA _ wd_173) (fun _ h => h) rfl dX10_walker_44 ?_
      refine kVi (As := [.int w_, .int hour_]) (rest := []) (wr := [(nh_, .inl (cy 0, 4, .inl (fh_))), (nx_, .inr (10, [.ref ntp_, .int tapeLength_, .int faultKind_, .int faultPlace_, .ref nrd_, .ref no_, .ref nhi_, .ref nf_, .ref ny_, .ref nff_, .ref nty_, .ref nim_, .int drawn_])), (no_, .inr (6, [.ref nd_, .int hour_, .ref ns_, .ref nc_, .ref nl_, .ref nt_, .ref nh_, .int fallen_]))]) hX hE (sf_X0_walkerColumn l D cy nd_ lines_ columns_ levels_ things_ walkers_ nw_ nr_ nq_ hangs_ frees_ fr_ fq_ w_ hour_ (rg_w rcolumns_ (by decide) (by decide)) (rg_w rlevels_ (by decide) (by decide)) (rg_w rthings_ (by decide) (by decide)) (rg_w rwalkers_ (by decide) (by decide)) rfq_) (cwVA 2 htA wd_455 wd_898 wd_3 wd_453 wd_454 (by decide +kernel) ⟨by decide, by decide⟩) hP hD hS [5, 1, 2] [0, 3, 4] rfl rfl (by decide +kernel) 0 rfl rfl rfl rfl hl.1 rfl (Nat.le_of_ble_eq_true rfl) dX10_walker_47 (by decide) (fun v10470_ W1 H locs hw hP hD hS => ?_)
      refine W.widen (k := 1) (n := 6) (by decide) (by decide) ?_
      obtain rfl := hw
      have hP : va_P D vwCl [(nh_, .inl (cy 0, 4, .inl (fh_))), (nx_, .inr (10, [.ref ntp_, .int tapeLength_, .int faultKind_, .int faultPlace_, .ref nrd_, .ref no_, .ref nhi_, .ref nf_, .ref ny_, .ref nff_, .ref nty_, .ref nim_, .int drawn_])), (no_, .inr (6, [.ref nd_, .int hour_, .ref ns_, .ref nc_, .ref nl_, .ref nt_, .ref nh_, .int fallen_])), (nd_, .inr (0, [.int lines_, .int columns_, .int levels_, .int things_, .int walkers_, .ref nw_, .ref nr_, .ref nq_, hangs_, frees_])), (nr_, .inl (cy 0, 32, .inl (fr_))), (nq_, .inl (cy 0, 4, .inl (fq_)))] H := hP
      have hD := va_ca hP hD
      have hP : va_P D vwCl [(nx_, .inr (10, [.ref ntp_, .int tapeLength_, .int faultKind_, .int faultPlace_, .ref nrd_, .ref no_, .ref nhi_, .ref nf_, .ref ny_, .ref nff_, .ref nty_, .ref nim_, .int drawn_])), (no_, .inr (6, [.ref nd_, .int hour_, .ref ns_, .ref nc_, .ref nl_, .ref nt_, .ref nh_, .int fallen_])), (nh_, .inl (cy 0, 4, .inl (fh_))), (nd_, .inr (0, [.int lines_, .int columns_, .int levels_, .int things_, .int walkers_, .ref nw_, .ref nr_, .ref nq_, hangs_, frees_])), (nr_, .inl (cy 0, 32, .inl (fr_))), (nq_, .inl (cy 0, 4, .inl (fq_)))] H := hP.sub [1, 2, 0, 3, 4, 5] rfl
      have hD : va_D A [(nx_, .inr (10, [.ref ntp_, .int tapeLength_, .int faultKind_, .int faultPlace_, .ref nrd_, .ref no_, .ref nhi_, .ref nf_, .ref ny_, .ref nff_, .ref nty_, .ref nim_, .int drawn_])), (no_, .inr (6, [.ref nd_, .int hour_, .ref ns_, .ref nc_, .ref nl_, .ref nt_, .ref nh_, .int fallen_])), (nh_, .inl (cy 0, 4, .inl (fh_))), (nd_, .inr (0, [.int lines_, .int columns_, .int levels_, .int things_, .int walkers_, .ref nw_, .ref nr_, .ref nq_, hangs_, frees_])), (nr_, .inl (cy 0, 32, .inl (fr_))), (nq_, .inl (cy 0, 4, .inl (fq_)))] := hD.sub [1, 2, 0, 3, 4, 5] (by decide +kernel) rfl
      exact vx_ret (rI hX hE hP hD hS dX10_walker_50 (by decide) (by decide) ⟨(rg_w k2_0_ (by decide) (by decide)), (rg_w g1_ (by decide) (by decide)), rfl⟩)
    · refine lv_tableIn (tgt := 51) hx hb dX10_walker_6 (by decide) (by decide) rfl (by decide) ?_
      have g2_ : rg (1) (1) v_ := rg_eq esw6_.symm (rg_lit (by decide) : rg (1) (1) (1 : Int32))
      refine lv_aload_n hx hb dX10_walker_51 rfl (lv_at hl 0 rfl) ?_
      refine va_get (ci := 10) (v := .ref no_) (C := RX10) (T := TX10) (N := 13) hx hb htA in_X10 hown hK hP 3 rfl rfl 5 (by decide) (htA _ wd_313) (fun _ h => h) rfl dX10_walker_52 ?_
      refine va_get (ci := 6) (v := .ref nh_) (C := RX6) (T := TX6) (N := 8) hx hb htA in_X6 hown hK hP 4 rfl rfl 6 (by decide) (htA _ wd_188) (fun _ h => h) rfl dX10_walker_55 ?_
      refine lv_iload_n hx hb dX10_walker_58 rfl (lv_at hl 1 rfl) ?_
      refine va_iald hx hb hK hP 0 0 rfl rfl (rg_in k2_0_ (by decide) (by decide)) dX10_walker_59 ?_
      refine lv_topi (fun v10590_ ev10590_ => ?_)
      have hP : va_P D vwCl [(nx_, .inr (10, [.ref ntp_, .int tapeLength_, .int faultKind_, .int faultPlace_, .ref nrd_, .ref no_, .ref nhi_, .ref nf_, .ref ny_, .ref nff_, .ref nty_, .ref nim_, .int drawn_])), (no_, .inr (6, [.ref nd_, .int hour_, .ref ns_, .ref nc_, .ref nl_, .ref nt_, .ref nh_, .int fallen_])), (nh_, .inl (cy 0, 4, .inl (fh_))), (nd_, .inr (0, [.int lines_, .int columns_, .int levels_, .int things_, .int walkers_, .ref nw_, .ref nr_, .ref nq_, hangs_, frees_])), (nr_, .inl (cy 0, 32, .inl (fr_))), (nq_, .inl (cy 0, 4, .inl (fq_)))] H := hP.sub [3, 4, 0, 5, 1, 2] rfl
      have hD : va_D A [(nx_, .inr (10, [.ref ntp_, .int tapeLength_, .int faultKind_, .int faultPlace_, .ref nrd_, .ref no_, .ref nhi_, .ref nf_, .ref ny_, .ref nff_, .ref nty_, .ref nim_, .int drawn_])), (no_, .inr (6, [.ref nd_, .int hour_, .ref ns_, .ref nc_, .ref nl_, .ref nt_, .ref nh_, .int fallen_])), (nh_, .inl (cy 0, 4, .inl (fh_))), (nd_, .inr (0, [.int lines_, .int columns_, .int levels_, .int things_, .int walkers_, .ref nw_, .ref nr_, .ref nq_, hangs_, frees_])), (nr_, .inl (cy 0, 32, .inl (fr_))), (nq_, .inl (cy 0, 4, .inl (fq_)))] := hD.sub [3, 4, 0, 5, 1, 2] (by decide +kernel) rfl
      exact vx_ret (rI hX hE hP hD hS dX10_walker_60 (by decide) (by decide) ⟨(rg_w k2_0_ (by decide) (by decide)), (rg_w g2_ (by decide) (by decide)), rfl⟩)
    · refine lv_tableIn (tgt := 61) hx hb dX10_walker_6 (by decide) (by decide) rfl (by decide) ?_
      have g3_ : rg (2) (2) v_ := rg_eq esw6_.symm (rg_lit (by decide) : rg (2) (2) (2 : Int32))
      refine lv_aload_n hx hb dX10_walker_61 rfl (lv_at hl 0 rfl) ?_
      refine va_get (ci := 10) (v := .ref no_) (C := RX10) (T := TX10) (N := 13) hx hb htA in_X10 hown hK hP 3 rfl rfl 5 (by decide) (htA _ wd_313) (fun _ h => h) rfl dX10_walker_62 ?_
      refine va_get (ci := 6) (v := .ref nd_) (C := RX6) (T := TX6) (N := 8) hx hb htA in_X6 hown hK hP 4 rfl rfl 0 (by decide) (htA _ wd_168) (fun _ h => h) rfl dX10_walker_65 ?_
      refine va_get (ci := 0) (v := .ref nq_) (C := RX0) (T := TX0) (N := 10) hx hb htA in_X0 hown hK hP 5 rfl rfl 7 (by decide) (htA _ wd_100) (fun _ h => h) rfl dX10_walker_68 ?_
      refine lv_iload_n hx hb dX10_walker_71 rfl (lv_at hl 1 rfl) ?_
      refine va_iald hx hb hK hP 2 0 rfl rfl (rg_in k2_0_ (by decide) (by decide)) dX10_walker_72 ?_
      refine lv_topi (fun v10720_ ev10720_ => ?_)
      have g4_ : rg (0) (8) v10720_ := by rw [ev10720_]; exact ag_at rfq_ (rg_in k2_0_ (by decide) (by decide))
      have hP : va_P D vwCl [(nx_, .inr (10, [.ref ntp_, .int tapeLength_, .int faultKind_, .int faultPlace_, .ref nrd_, .ref no_, .ref nhi_, .ref nf_, .ref ny_, .ref nff_, .ref nty_, .ref nim_, .int drawn_])), (no_, .inr (6, [.ref nd_, .int hour_, .ref ns_, .ref nc_, .ref nl_, .ref nt_, .ref nh_, .int fallen_])), (nh_, .inl (cy 0, 4, .inl (fh_))), (nd_, .inr (0, [.int lines_, .int columns_, .int levels_, .int things_, .int walkers_, .ref nw_, .ref nr_, .ref nq_, hangs_, frees_])), (nr_, .inl (cy 0, 32, .inl (fr_))), (nq_, .inl (cy 0, 4, .inl (fq_)))] H := hP.sub [3, 4, 0, 5, 1, 2] rfl
      have hD : va_D A [(nx_, .inr (10, [.ref ntp_, .int tapeLength_, .int faultKind_, .int faultPlace_, .ref nrd_, .ref no_, .ref nhi_, .ref nf_, .ref ny_, .ref nff_, .ref nty_, .ref nim_, .int drawn_])), (no_, .inr (6, [.ref nd_, .int hour_, .ref ns_, .ref nc_, .ref nl_, .ref nt_, .ref nh_, .int fallen_])), (nh_, .inl (cy 0, 4, .inl (fh_))), (nd_, .inr (0, [.int lines_, .int columns_, .int levels_, .int things_, .int walkers_, .ref nw_, .ref nr_, .ref nq_, hangs_, frees_])), (nr_, .inl (cy 0, 32, .inl (fr_))), (nq_, .inl (cy 0, 4, .inl (fq_)))] := hD.sub [3, 4, 0, 5, 1, 2] (by decide +kernel) rfl
      exact vx_ret (rI hX hE hP hD hS dX10_walker_73 (by decide) (by decide) ⟨(rg_w k2_0_ (by decide) (by decide)), (rg_w g3_ (by decide) (by decide)), rfl⟩)
    · refine lv_tableOut (tgt := 74) hx hb dX10_walker_6 c6_ (by decide) ?_
      exact k_throwS hlt hX hE hxt hP hD hS hl.1 (by decide) (htA _ wd_531) (htA _ wd_14) (xSW_in hE.2.2.2 "LateFalls" 141 "no such what" (by decide)) (at_X10_87 htA hE.2.2.2) ot_X10_83_87 dX10_walker_74 dX10_walker_77 dX10_walker_78 dX10_walker_80 dX10_walker_83 (by decide) (by decide) (by decide) (by decide) (by decide) (by decide) (Or.inl rfl)
set_option maxHeartbeats 4000000 in
set_option maxRecDepth 100000 in
theorem sf_X10_height (l : Launch) (hlt : l.stackTraces = false) (D : va_G) (cy : Nat → ClassId) (nx_ : Nat) (ntp_ : Nat) (tapeLength_ : Int32) (faultKind_ : Int32) (faultPlace_ : Int32) (nrd_ : Nat) (no_ : Nat) (nhi_ : Nat) (nf_ : Nat) (ny_ : Nat) (nff_ : Nat) (nty_ : Nat) (nim_ : Nat) (drawn_ : Int32) (nd_ : Nat) (hour_ : Int32) (ns_ : Nat) (nc_ : Nat) (nl_ : Nat) (nt_ : Nat) (nh_ : Nat) (fallen_ : Int32) (fs_ : Nat → Int32) (fc_ : Nat → Int32) (lines_ : Int32) (columns_ : Int32) (levels_ : Int32) (things_ : Int32) (walkers_ : Int32) (nw_ : Nat) (nr_ : Nat) (nq_ : Nat) (hangs_ : Value) (frees_ : Value) (c_ : Int32) (rcolumns_ : rg (1) (6) columns_) (rlevels_ : rg (1) (9) levels_) (rthings_ : rg (0) (8) things_) (rwalkers_ : rg (0) (4) walkers_) (rtapeLength_ : rg (0) (900) tapeLength_) : Xi l yX10_height cX10_height 2 (some .int) { frames := 7, cells := 1, slots := 6, locals := 111 } D cy [.ref nx_, .int c_] [(nx_, .inr (10, [.ref ntp_, .int tapeLength_, .int faultKind_, .int faultPlace_, .ref nrd_, .ref no_, .ref nhi_, .ref nf_, .ref ny_, .ref nff_, .ref nty_, .ref nim_, .int drawn_])), (no_, .inr (6, [.ref nd_, .int hour_, .ref ns_, .ref nc_, .ref nl_, .ref nt_, .ref nh_, .int fallen_])), (ns_, .inl (cy 0, 8, .inl (fs_))), (nc_, .inl (cy 0, 8, .inl (fc_))), (nd_, .inr (0, [.int lines_, .int columns_, .int levels_, .int things_, .int walkers_, .ref nw_, .ref nr_, .ref nq_, hangs_, frees_]))] (fun r W1 => rg (0) (5) c_ ∧ W1 = [(nx_, .inr (10, [.ref ntp_, .int tapeLength_, .int faultKind_, .int faultPlace_, .ref nrd_, .ref no_, .ref nhi_, .ref nf_, .ref ny_, .ref nff_, .ref nty_, .ref nim_, .int drawn_])), (no_, .inr (6, [.ref nd_, .int hour_, .ref ns_, .ref nc_, .ref nl_, .ref nt_, .ref nh_, .int fallen_])), (ns_, .inl (cy 0, 8, .inl (fs_))), (nc_, .inl (cy 0, 8, .inl (fc_))), (nd_, .inr (0, [.int lines_, .int columns_, .int levels_, .int things_, .int walkers_, .ref nw_, .ref nr_, .ref nq_, hangs_, frees_]))]) (fun E _ => E = "java/util/NoSuchElementException") := by
  refine Xi.of (by decide) (Nat.le_of_ble_eq_true rfl) ?_
  intro p e s m below meth c A ls hX hE hP hD hl hxt
  obtain ⟨hx, hb, hr, hml, hown, htA, hlk⟩ := id hX
  have hK := hE.1
  have hS : va_S A s.heap s.heap [] := va_S.rf
  have hl : lv_has ls 2 [(0, .ref nx_), (1, .int c_)] := hl
  refine lv_aload_n hx hb dX10_height_0 rfl (lv_at hl 0 rfl) ?_
  refine lv_iload_n hx hb dX10_height_1 rfl (lv_at hl 1 rfl) ?_
  refine xVv (As := [.int c_]) (rest := []) (wr := [(ns_, .inl (cy 0, 8, .inl (fs_))), (nc_, .inl (cy 0, 8, .inl (fc_)))]) hX hE (sf_X10_needColumn l hlt D cy nx_ ntp_ tapeLength_ faultKind_ faultPlace_ nrd_ no_ nhi_ nf_ ny_ nff_ nty_ nim_ drawn_ nd_ hour_ ns_ nc_ nl_ nt_ nh_ fallen_ lines_ columns_ levels_ things_ walkers_ nw_ nr_ nq_ hangs_ frees_ c_ (rg_w rcolumns_ (by decide) (by decide)) (rg_w rlevels_ (by decide) (by decide)) (rg_w rthings_ (by decide) (by decide)) (rg_w rwalkers_ (by decide) (by decide)) (rg_w rtapeLength_ (by decide) (by decide))) (cwVA 1 htA wd_909 wd_906 wd_1 wd_908 wp_28 (by decide +kernel) ⟨by decide, by decide⟩) hP hD hS [0, 1, 4] [2, 3] rfl rfl (by decide +kernel) 0 rfl rfl rfl rfl hl.1 rfl (Nat.le_of_ble_eq_true rfl) dX10_height_2 (by decide) (fun E ce q9 W1 H locs hw hP hD hS hce hcv hcl => ?_) (fun W1 H locs hw hP hD hS => ?_)
  · rcases hw with rfl
    exact xO hX hE hxt hP hD hS hce hcv hcl (by decide) (by decide) (rfl)
  · refine W.widen (k := 1) (n := 6) (by decide) (by decide) ?_
    obtain ⟨k2_0_, rfl⟩ := hw
    have hP : va_P D vwCl [(ns_, .inl (cy 0, 8, .inl (fs_))), (nc_, .inl (cy 0, 8, .inl (fc_))), (nx_, .inr (10, [.ref ntp_, .int tapeLength_, .int faultKind_, .int faultPlace_, .ref nrd_, .ref no_, .ref nhi_, .ref nf_, .ref ny_, .ref nff_, .ref nty_, .ref nim_, .int drawn_])), (no_, .inr (6, [.ref nd_, .int hour_, .ref ns_, .ref nc_, .ref nl_, .ref nt_, .ref nh_, .int fallen_])), (nd_, .inr (0, [.int lines_, .int columns_, .int levels_, .int things_, .int walkers_, .ref nw_, .ref nr_, .ref nq_, hangs_, frees_]))] H := hP
    have hD := va_ca hP hD
    refine lv_aload_n hx hb dX10_height_5 rfl (lv_at hl 0 rfl) ?_
    refine va_get (ci := 10) (v := .ref no_) (C := RX10) (T := TX10) (N := 13) hx hb htA in_X10 hown hK hP 2 rfl rfl 5 (by decide) (htA _ wd_313) (fun _ h => h) rfl dX10_height_6 ?_
    refine lv_iload_n hx hb dX10_height_9 rfl (lv_at hl 1 rfl) ?_
    refine kVi (As := [.int c_]) (rest := []) (wr := [(nx_, .inr (10, [.ref ntp_, .int tapeLength_, .int faultKind_, .int faultPlace_, .ref nrd_, .ref no_, .ref nhi_, .ref nf_, .ref ny_, .ref nff_, .ref nty_, .ref nim_, .int drawn_]))]) hX hE (sf_X6_lying l D cy no_ nd_ hour_ ns_ nc_ nl_ nt_ nh_ fallen_ fs_ fc_ lines_ columns_ levels_ things_ walkers_ nw_ nr_ nq_ hangs_ frees_ c_ (rg_w rcolumns_ (by decide) (by decide)) (rg_w rlevels_ (by decide) (by decide)) (rg_w rthings_ (by decide) (by decide)) (rg_w rwalkers_ (by decide) (by decide))) (cwVA 1 htA wd_379 wd_911 wd_6 wd_377 wd_378 (by decide +kernel) ⟨by decide, by decide⟩) hP hD hS [3, 0, 1, 4] [2] rfl rfl (by decide +kernel) 0 rfl rfl rfl rfl hl.1 rfl (Nat.le_of_ble_eq_true rfl) dX10_height_10 (by decide) (fun v10100_ W1 H locs hw hP hD hS => ?_)
    refine W.widen (k := 1) (n := 6) (by decide) (by decide) ?_
    obtain rfl := hw
    have hP : va_P D vwCl [(nx_, .inr (10, [.ref ntp_, .int tapeLength_, .int faultKind_, .int faultPlace_, .ref nrd_, .ref no_, .ref nhi_, .ref nf_, .ref ny_, .ref nff_, .ref nty_, .ref nim_, .int drawn_])), (no_, .inr (6, [.ref nd_, .int hour_, .ref ns_, .ref nc_, .ref nl_, .ref nt_, .ref nh_, .int fallen_])), (ns_, .inl (cy 0, 8, .inl (fs_))), (nc_, .inl (cy 0, 8, .inl (fc_))), (nd_, .inr (0, [.int lines_, .int columns_, .int levels_, .int things_, .int walkers_, .ref nw_, .ref nr_, .ref nq_, hangs_, frees_]))] H := hP
    have hD := va_ca hP hD
    exact vx_ret (rI hX hE hP hD hS dX10_height_13 (by decide) (by decide) ⟨(rg_w k2_0_ (by decide) (by decide)), rfl⟩)
set_option maxHeartbeats 4000000 in
set_option maxRecDepth 100000 in
theorem sf_X10_at (l : Launch) (hlt : l.stackTraces = false) (D : va_G) (cy : Nat → ClassId) (nx_ : Nat) (ntp_ : Nat) (tapeLength_ : Int32) (faultKind_ : Int32) (faultPlace_ : Int32) (nrd_ : Nat) (no_ : Nat) (nhi_ : Nat) (nf_ : Nat) (ny_ : Nat) (nff_ : Nat) (nty_ : Nat) (nim_ : Nat) (drawn_ : Int32) (nd_ : Nat) (hour_ : Int32) (ns_ : Nat) (nc_ : Nat) (nl_ : Nat) (nt_ : Nat) (nh_ : Nat) (fallen_ : Int32) (fs_ : Nat → Int32) (fc_ : Nat → Int32) (fl_ : Nat → Int32) (lines_ : Int32) (columns_ : Int32) (levels_ : Int32) (things_ : Int32) (walkers_ : Int32) (nw_ : Nat) (nr_ : Nat) (nq_ : Nat) (hangs_ : Value) (frees_ : Value) (c_ : Int32) (l_ : Int32) (rcolumns_ : rg (1) (6) columns_) (rlevels_ : rg (1) (9) levels_) (rthings_ : rg (0) (8) things_) (rwalkers_ : rg (0) (4) walkers_) (rtapeLength_ : rg (0) (900) tapeLength_) : Xi l yX10_at cX10_at 3 (some .int) { frames := 7, cells := 1, slots := 6, locals := 112 } D cy [.ref nx_, .int c_, .int l_] [(nx_, .inr (10, [.ref ntp_, .int tapeLength_, .int faultKind_, .int faultPlace_, .ref nrd_, .ref no_, .ref nhi_, .ref nf_, .ref ny_, .ref nff_, .ref nty_, .ref nim_, .int drawn_])), (no_, .inr (6, [.ref nd_, .int hour_, .ref ns_, .ref nc_, .ref nl_, .ref nt_, .ref nh_, .int fallen_])), (ns_, .inl (cy 0, 8, .inl (fs_))), (nc_, .inl (cy 0, 8, .inl (fc_))), (nl_, .inl (cy 0, 8, .inl (fl_))), (nd_, .inr (0, [.int lines_, .int columns_, .int levels_, .int things_, .int walkers_, .ref nw_, .ref nr_, .ref nq_, hangs_, frees_]))] (fun r W1 => W1 = [(nx_, .inr (10, [.ref ntp_, .int tapeLength_, .int faultKind_, .int faultPlace_, .ref nrd_, .ref no_, .ref nhi_, .ref nf_, .ref ny_, .ref nff_, .ref nty_, .ref nim_, .int drawn_])), (no_, .inr (6, [.ref nd_, .int hour_, .ref ns_, .ref nc_, .ref nl_, .ref nt_, .ref nh_, .int fallen_])), (ns_, .inl (cy 0, 8, .inl (fs_))), (nc_, .inl (cy 0, 8, .inl (fc_))), (nl_, .inl (cy 0, 8, .inl (fl_))), (nd_, .inr (0, [.int lines_, .int columns_, .int levels_, .int things_, .int walkers_, .ref nw_, .ref nr_, .ref nq_, hangs_, frees_]))] ∧ rg (-1) (7) r) (fun E _ => E = "java/util/NoSuchElementException") := by
  refine Xi.of (by decide) (Nat.le_of_ble_eq_true rfl) ?_
  intro p e s m below meth c A ls hX hE hP hD hl hxt
  obtain ⟨hx, hb, hr, hml, hown, htA, hlk⟩ := id hX
  have hK := hE.1
  have hS : va_S A s.heap s.heap [] := va_S.rf
  have hl : lv_has ls 3 [(0, .ref nx_), (1, .int c_), (2, .int l_)] := hl
  refine lv_aload_n hx hb dX10_at_0 rfl (lv_at hl 0 rfl) ?_
  refine lv_iload_n hx hb dX10_at_1 rfl (lv_at hl 1 rfl) ?_
  refine lv_iload_n hx hb dX10_at_2 rfl (lv_at hl 2 rfl) ?_
  refine xVv (As := [.int c_, .int l_]) (rest := []) (wr := [(ns_, .inl (cy 0, 8, .inl (fs_))), (nc_, .inl (cy 0, 8, .inl (fc_))), (nl_, .inl (cy 0, 8, .inl (fl_)))]) hX hE (sf_X10_needPlace l hlt D cy nx_ ntp_ tapeLength_ faultKind_ faultPlace_ nrd_ no_ nhi_ nf_ ny_ nff_ nty_ nim_ drawn_ nd_ hour_ ns_ nc_ nl_ nt_ nh_ fallen_ lines_ columns_ levels_ things_ walkers_ nw_ nr_ nq_ hangs_ frees_ c_ l_ (rg_w rcolumns_ (by decide) (by decide)) (rg_w rlevels_ (by decide) (by decide)) (rg_w rthings_ (by decide) (by decide)) (rg_w rwalkers_ (by decide) (by decide)) (rg_w rtapeLength_ (by decide) (by decide))) (cwVA 2 htA wd_922 wd_919 wd_1 wd_921 wp_29 (by decide +kernel) ⟨by decide, by decide⟩) hP hD hS [0, 1, 5] [2, 3, 4] rfl rfl (by decide +kernel) 0 rfl rfl rfl rfl hl.1 rfl (Nat.le_of_ble_eq_true rfl) dX10_at_3 (by decide) (fun E ce q9 W1 H locs hw hP hD hS hce hcv hcl => ?_) (fun W1 H locs hw hP hD hS => ?_)
  · rcases hw with rfl
    exact xO hX hE hxt hP hD hS hce hcv hcl (by decide) (by decide) (rfl)
  · refine W.widen (k := 1) (n := 6) (by decide) (by decide) ?_
    obtain rfl := hw
    have hP : va_P D vwCl [(ns_, .inl (cy 0, 8, .inl (fs_))), (nc_, .inl (cy 0, 8, .inl (fc_))), (nl_, .inl (cy 0, 8, .inl (fl_))), (nx_, .inr (10, [.ref ntp_, .int tapeLength_, .int faultKind_, .int faultPlace_, .ref nrd_, .ref no_, .ref nhi_, .ref nf_, .ref ny_, .ref nff_, .ref nty_, .ref nim_, .int drawn_])), (no_, .inr (6, [.ref nd_, .int hour_, .ref ns_, .ref nc_, .ref nl_, .ref nt_, .ref nh_, .int fallen_])), (nd_, .inr (0, [.int lines_, .int columns_, .int levels_, .int things_, .int walkers_, .ref nw_, .ref nr_, .ref nq_, hangs_, frees_]))] H := hP
    have hD := va_ca hP hD
    refine lv_aload_n hx hb dX10_at_6 rfl (lv_at hl 0 rfl) ?_
    refine va_get (ci := 10) (v := .ref no_) (C := RX10) (T := TX10) (N := 13) hx hb htA in_X10 hown hK hP 3 rfl rfl 5 (by decide) (htA _ wd_313) (fun _ h => h) rfl dX10_at_7 ?_
    refine lv_iload_n hx hb dX10_at_10 rfl (lv_at hl 1 rfl) ?_
    refine lv_iload_n hx hb dX10_at_11 rfl (lv_at hl 2 rfl) ?_
    refine kVi (As := [.int c_, .int l_]) (rest := []) (wr := [(nx_, .inr (10, [.ref ntp_, .int tapeLength_, .int faultKind_, .int faultPlace_, .ref nrd_, .ref no_, .ref nhi_, .ref nf_, .ref ny_, .ref nff_, .ref nty_, .ref nim_, .int drawn_]))]) hX hE (sf_X6_thingAt l D cy no_ nd_ hour_ ns_ nc_ nl_ nt_ nh_ fallen_ fs_ fc_ fl_ lines_ columns_ levels_ things_ walkers_ nw_ nr_ nq_ hangs_ frees_ c_ l_ (rg_w rcolumns_ (by decide) (by decide)) (rg_w rlevels_ (by decide) (by decide)) (rg_w rthings_ (by decide) (by decide)) (rg_w rwalkers_ (by decide) (by decide))) (cwVA 2 htA wd_383 wd_925 wd_6 wd_381 wd_382 (by decide +kernel) ⟨by decide, by decide⟩) hP hD hS [4, 0, 1, 2, 5] [3] rfl rfl (by decide +kernel) 0 rfl rfl rfl rfl hl.1 rfl (Nat.le_of_ble_eq_true rfl) dX10_at_12 (by decide) (fun v10120_ W1 H locs hw hP hD hS => ?_)
    refine W.widen (k := 1) (n := 6) (by decide) (by decide) ?_
    obtain ⟨rfl, kr12_⟩ := hw
    have hP : va_P D vwCl [(nx_, .inr (10, [.ref ntp_, .int tapeLength_, .int faultKind_, .int faultPlace_, .ref nrd_, .ref no_, .ref nhi_, .ref nf_, .ref ny_, .ref nff_, .ref nty_, .ref nim_, .int drawn_])), (no_, .inr (6, [.ref nd_, .int hour_, .ref ns_, .ref nc_, .ref nl_, .ref nt_, .ref nh_, .int fallen_])), (ns_, .inl (cy 0, 8, .inl (fs_))), (nc_, .inl (cy 0, 8, .inl (fc_))), (nl_, .inl (cy 0, 8, .inl (fl_))), (nd_, .inr (0, [.int lines_, .int columns_, .int levels_, .int things_, .int walkers_, .ref nw_, .ref nr_, .ref nq_, hangs_, frees_]))] H := hP
    have hD := va_ca hP hD
    exact vx_ret (rI hX hE hP hD hS dX10_at_15 (by decide) (by decide) ⟨rfl, (rg_w kr12_ (by decide) (by decide))⟩)
set_option maxHeartbeats 4000000 in
set_option maxRecDepth 100000 in
theorem sf_X10_hanging_Nx (l : Launch) (hlt : l.stackTraces = false) (D : va_G) (cy : Nat → ClassId) (nx_ : Nat) (ntp_ : Nat) (tapeLength_ : Int32) (faultKind_ : Int32) (faultPlace_ : Int32) (nrd_ : Nat) (no_ : Nat) (nhi_ : Nat) (nf_ : Nat) (ny_ : Nat) (nff_ : Nat) (nty_ : Nat) (nim_ : Nat) (drawn_ : Int32) (nd_ : Nat) (hour_ : Int32) (ns_ : Nat) (nc_ : Nat) (nl_ : Nat) (nt_ : Nat) (nh_ : Nat) (fallen_ : Int32) (fs_ : Nat → Int32) (fc_ : Nat → Int32) (lines_ : Int32) (columns_ : Int32) (levels_ : Int32) (things_ : Int32) (walkers_ : Int32) (nw_ : Nat) (nr_ : Nat) (nq_ : Nat) (frees_ : Value) (fw_ : Nat → Int32) (t_ : Int32) (c_ : Int32) (l_ : Int32) (h_ : Int32) (rcolumns_ : rg (1) (6) columns_) (rlevels_ : rg (1) (9) levels_) (rthings_ : rg (0) (8) things_) (rwalkers_ : rg (0) (4) walkers_) (rtapeLength_ : rg (0) (900) tapeLength_) : Xi l yX10_hanging cX10_hanging 6 (some .int) { frames := 7, cells := 3, slots := 18, locals := 112 } D cy [.ref nx_, .int t_, .int c_, .int l_, .int h_] [(nx_, .inr (10, [.ref ntp_, .int tapeLength_, .int faultKind_, .int faultPlace_, .ref nrd_, .ref no_, .ref nhi_, .ref nf_, .ref ny_, .ref nff_, .ref nty_, .ref nim_, .int drawn_])), (no_, .inr (6, [.ref nd_, .int hour_, .ref ns_, .ref nc_, .ref nl_, .ref nt_, .ref nh_, .int fallen_])), (ns_, .inl (cy 0, 8, .inl (fs_))), (nc_, .inl (cy 0, 8, .inl (fc_))), (nd_, .inr (0, [.int lines_, .int columns_, .int levels_, .int things_, .int walkers_, .ref nw_, .ref nr_, .ref nq_, .null, frees_])), (nw_, .inl (cy 0, 8, .inl (fw_)))] (fun r W1 => rg (0) (7) t_ ∧ W1 = [(nx_, .inr (10, [.ref ntp_, .int tapeLength_, .int faultKind_, .int faultPlace_, .ref nrd_, .ref no_, .ref nhi_, .ref nf_, .ref ny_, .ref nff_, .ref nty_, .ref nim_, .int drawn_])), (no_, .inr (6, [.ref nd_, .int hour_, .ref ns_, .ref nc_, .ref nl_, .ref nt_, .ref nh_, .int fallen_])), (ns_, .inl (cy 0, 8, .inl (fs_))), (nc_, .inl (cy 0, 8, .inl (fc_))), (nd_, .inr (0, [.int lines_, .int columns_, .int levels_, .int things_, .int walkers_, .ref nw_, .ref nr_, .ref nq_, .null, frees_])), (nw_, .inl (cy 0, 8, .inl (fw_)))]) (fun E _ => E = "java/lang/IllegalArgumentException" ∨ E = "java/util/NoSuchElementException") := by
  refine Xi.of (by decide) (Nat.le_of_ble_eq_true rfl) ?_
  intro p e s m below meth c A ls hX hE hP hD hl hxt
  obtain ⟨hx, hb, hr, hml, hown, htA, hlk⟩ := id hX
  have hK := hE.1
  have hS : va_S A s.heap s.heap [] := va_S.rf
  have hl : lv_has ls 6 [(0, .ref nx_), (1, .int t_), (2, .int c_), (3, .int l_), (4, .int h_)] := hl
  refine lv_aload_n hx hb dX10_hanging_0 rfl (lv_at hl 0 rfl) ?_
  refine lv_iload_n hx hb dX10_hanging_1 rfl (lv_at hl 1 rfl) ?_
  refine xVv (As := [.int t_]) (rest := []) (wr := [(ns_, .inl (cy 0, 8, .inl (fs_))), (nc_, .inl (cy 0, 8, .inl (fc_))), (nw_, .inl (cy 0, 8, .inl (fw_)))]) hX hE (sf_X10_needThing l hlt D cy nx_ ntp_ tapeLength_ faultKind_ faultPlace_ nrd_ no_ nhi_ nf_ ny_ nff_ nty_ nim_ drawn_ nd_ hour_ ns_ nc_ nl_ nt_ nh_ fallen_ lines_ columns_ levels_ things_ walkers_ nw_ nr_ nq_ .null frees_ t_ (rg_w rcolumns_ (by decide) (by decide)) (rg_w rlevels_ (by decide) (by decide)) (rg_w rthings_ (by decide) (by decide)) (rg_w rwalkers_ (by decide) (by decide)) (rg_w rtapeLength_ (by decide) (by decide))) (cwVA 1 htA wd_868 wd_865 wd_1 wd_867 wp_26 (by decide +kernel) ⟨by decide, by decide⟩) hP hD hS [0, 1, 4] [2, 3, 5] rfl rfl (by decide +kernel) 0 rfl rfl rfl rfl hl.1 rfl (Nat.le_of_ble_eq_true rfl) dX10_hanging_2 (by decide) (fun E ce q9 W1 H locs hw hP hD hS hce hcv hcl => ?_) (fun W1 H locs hw hP hD hS => ?_)
  · rcases hw with rfl
    exact xO hX hE hxt hP hD hS hce hcv hcl (by decide) (by decide) (Or.inr (rfl))
  · refine W.widen (k := 1) (n := 6) (by decide) (by decide) ?_
    obtain ⟨k2_0_, rfl⟩ := hw
    have hP : va_P D vwCl [(ns_, .inl (cy 0, 8, .inl (fs_))), (nc_, .inl (cy 0, 8, .inl (fc_))), (nw_, .inl (cy 0, 8, .inl (fw_))), (nx_, .inr (10, [.ref ntp_, .int tapeLength_, .int faultKind_, .int faultPlace_, .ref nrd_, .ref no_, .ref nhi_, .ref nf_, .ref ny_, .ref nff_, .ref nty_, .ref nim_, .int drawn_])), (no_, .inr (6, [.ref nd_, .int hour_, .ref ns_, .ref nc_, .ref nl_, .ref nt_, .ref nh_, .int fallen_])), (nd_, .inr (0, [.int lines_, .int columns_, .int levels_, .int things_, .int walkers_, .ref nw_, .ref nr_, .ref nq_, .null, frees_]))] H := hP
    have hD := va_ca hP hD
    refine lv_aload_n hx hb dX10_hanging_5 rfl (lv_at hl 0 rfl) ?_
    refine lv_iload_n hx hb dX10_hanging_6 rfl (lv_at hl 2 rfl) ?_
    refine lv_iload_n hx hb dX10_hanging_7 rfl (lv_at hl 3 rfl) ?_
    refine xVv (As := [.int c_, .int l_]) (rest := []) (wr := [(ns_, .inl (cy 0, 8, .inl (fs_))), (nc_, .inl (cy 0, 8, .inl (fc_))), (nw_, .inl (cy 0, 8, .inl (fw_)))]) hX hE (sf_X10_needPlace l hlt D cy nx_ ntp_ tapeLength_ faultKind_ faultPlace_ nrd_ no_ nhi_ nf_ ny_ nff_ nty_ nim_ drawn_ nd_ hour_ ns_ nc_ nl_ nt_ nh_ fallen_ lines_ columns_ levels_ things_ walkers_ nw_ nr_ nq_ .null frees_ c_ l_ (rg_w rcolumns_ (by decide) (by decide)) (rg_w rlevels_ (by decide) (by decide)) (rg_w rthings_ (by decide) (by decide)) (rg_w rwalkers_ (by decide) (by decide)) (rg_w rtapeLength_ (by decide) (by decide))) (cwVA 2 htA wd_922 wd_919 wd_1 wd_921 wp_29 (by decide +kernel) ⟨by decide, by decide⟩) hP hD hS [3, 4, 5] [0, 1, 2] rfl rfl (by decide +kernel) 0 rfl rfl rfl rfl hl.1 rfl (Nat.le_of_ble_eq_true rfl) dX10_hanging_8 (by decide) (fun E ce q9 W1 H locs hw hP hD hS hce hcv hcl => ?_) (fun W1 H locs hw hP hD hS => ?_)
    · rcases hw with rfl
      exact xO hX hE hxt hP hD hS hce hcv hcl (by decide) (by decide) (Or.inr (rfl))
    · refine W.widen (k := 2) (n := 12) (by decide) (by decide) ?_
      obtain rfl := hw
      have hP : va_P D vwCl [(ns_, .inl (cy 0, 8, .inl (fs_))), (nc_, .inl (cy 0, 8, .inl (fc_))), (nw_, .inl (cy 0, 8, .inl (fw_))), (nx_, .inr (10, [.ref ntp_, .int tapeLength_, .int faultKind_, .int faultPlace_, .ref nrd_, .ref no_, .ref nhi_, .ref nf_, .ref ny_, .ref nff_, .ref nty_, .ref nim_, .int drawn_])), (no_, .inr (6, [.ref nd_, .int hour_, .ref ns_, .ref nc_, .ref nl_, .ref nt_, .ref nh_, .int fallen_])), (nd_, .inr (0, [.int lines_, .int columns_, .int levels_, .int things_, .int walkers_, .ref nw_, .ref nr_, .ref nq_, .null, frees_]))] H := hP
      have hD := va_ca hP hD
      refine lv_iload hx hb dX10_hanging_11 (lv_at hl 4 rfl) ?_
      refine lv_iconst (v := 0) hx hb dX10_hanging_13 (by decide) ?_
      refine lv_sipush (v := 999) hx hb dX10_hanging_14 (by decide) ?_
      refine xSv (As := [.int h_, .int 0, .int 999]) (rest := []) (wr := [(ns_, .inl (cy 0, 8, .inl (fs_))), (nc_, .inl (cy 0, 8, .inl (fc_))), (nw_, .inl (cy 0, 8, .inl (fw_))), (nx_, .inr (10, [.ref ntp_, .int tapeLength_, .int faultKind_, .int faultPlace_, .ref nrd_, .ref no_, .ref nhi_, .ref nf_, .ref ny_, .ref nff_, .ref nty_, .ref nim_, .int drawn_])), (no_, .inr (6, [.ref nd_, .int hour_, .ref ns_, .ref nc_, .ref nl_, .ref nt_, .ref nh_, .int fallen_])), (nd_, .inr (0, [.int lines_, .int columns_, .int levels_, .int things_, .int walkers_, .ref nw_, .ref nr_, .ref nq_, .null, frees_]))]) hX hE (sf_X10_needWithin l hlt D cy h_ (0 : Int32) (999 : Int32) ) (cwSA 3 htA wd_935 wd_933 wd_1 wd_934 (by decide +kernel) ⟨by decide, by decide⟩) hP hD hS [] [0, 1, 2, 3, 4, 5] rfl rfl (by decide +kernel) rfl hl.1 rfl (Nat.le_of_ble_eq_true rfl) dX10_hanging_17 (by decide) (fun E ce q9 W1 H locs hw hP hD hS hce hcv hcl => ?_) (fun W1 H locs hw hP hD hS => ?_)
      · rcases hw with rfl
        exact xO hX hE hxt hP hD hS hce hcv hcl (by decide) (by decide) (Or.inl rfl)
      · refine W.widen (k := 3) (n := 18) (by decide) (by decide) ?_
        obtain rfl := hw
        have hP : va_P D vwCl [(ns_, .inl (cy 0, 8, .inl (fs_))), (nc_, .inl (cy 0, 8, .inl (fc_))), (nw_, .inl (cy 0, 8, .inl (fw_))), (nx_, .inr (10, [.ref ntp_, .int tapeLength_, .int faultKind_, .int faultPlace_, .ref nrd_, .ref no_, .ref nhi_, .ref nf_, .ref ny_, .ref nff_, .ref nty_, .ref nim_, .int drawn_])), (no_, .inr (6, [.ref nd_, .int hour_, .ref ns_, .ref nc_, .ref nl_, .ref nt_, .ref nh_, .int fallen_])), (nd_, .inr (0, [.int lines_, .int columns_, .int levels_, .int things_, .int walkers_, .ref nw_, .ref nr_, .ref nq_, .null, frees_]))] H := hP
        have hD := va_ca hP hD
        refine lv_aload_n hx hb dX10_hanging_20 rfl (lv_at hl 0 rfl) ?_
        refine va_get (ci := 10) (v := .ref no_) (C := RX10) (T := TX10) (N := 13) hx hb htA in_X10 hown hK hP 3 rfl rfl 5 (by decide) (htA _ wd_313) (fun _ h => h) rfl dX10_hanging_21 ?_
        refine va_get (ci := 6) (v := .ref nd_) (C := RX6) (T := TX6) (N := 8) hx hb htA in_X6 hown hK hP 4 rfl rfl 0 (by decide) (htA _ wd_168) (fun _ h => h) rfl dX10_hanging_24 ?_
        refine lv_astore (lv' := [(5, .ref nd_), (0, .ref nx_), (1, .int t_), (2, .int c_), (3, .int l_), (4, .int h_)]) hx hb dX10_hanging_27 hl (by decide) rfl (fun ls hl => ?_)
        refine lv_aload hx hb dX10_hanging_29 (lv_at hl 0 rfl) ?_
        refine lv_iload hx hb dX10_hanging_31 (lv_at hl 5 rfl) ?_
        refine lv_aload hx hb dX10_hanging_33 (lv_at hl 0 rfl) ?_
        refine va_get (ci := 0) (v := .ref nw_) (C := RX0) (T := TX0) (N := 10) hx hb htA in_X0 hown hK hP 5 rfl rfl 5 (by decide) (htA _ wd_94) (fun _ h => h) rfl dX10_hanging_35 ?_
        refine lv_iload_n hx hb dX10_hanging_38 rfl (lv_at hl 2 rfl) ?_
        refine va_iald hx hb hK hP 2 0 rfl rfl (rg_in k2_0_ (by decide) (by decide)) dX10_hanging_39 ?_
        refine lv_topi (fun v10390_ ev10390_ => ?_)
        refine lv_iload_n hx hb dX10_hanging_40 rfl (lv_at hl 3 rfl) ?_
        refine lv_iload_n hx hb dX10_hanging_41 rfl (lv_at hl 4 rfl) ?_
        refine lv_aload_n hx hb dX10_hanging_42 rfl (lv_at hl 1 rfl) ?_
        refine va_get (ci := 10) (v := .ref no_) (C := RX10) (T := TX10) (N := 13) hx hb htA in_X10 hown hK hP 3 rfl rfl 5 (by decide) (htA _ wd_313) (fun _ h => h) rfl dX10_hanging_43 ?_
        refine va_get (ci := 6) (v := .int hour_) (C := RX6) (T := TX6) (N := 8) hx hb htA in_X6 hown hK hP 4 rfl rfl 1 (by decide) (htA _ wd_173) (fun _ h => h) rfl dX10_hanging_46 ?_
        refine lv_aload_n hx hb dX10_hanging_49 rfl (lv_at hl 1 rfl) ?_
        refine va_get (ci := 10) (v := .ref no_) (C := RX10) (T := TX10) (N := 13) hx hb htA in_X10 hown hK hP 3 rfl rfl 5 (by decide) (htA _ wd_313) (fun _ h => h) rfl dX10_hanging_50 ?_
        refine lv_iload_n hx hb dX10_hanging_53 rfl (lv_at hl 3 rfl) ?_
        refine kVi (As := [.int c_]) (rest := [.int hour_, .int l_, .int c_, .int v10390_, .int h_, .ref nd_]) (wr := [(nw_, .inl (cy 0, 8, .inl (fw_))), (nx_, .inr (10, [.ref ntp_, .int tapeLength_, .int faultKind_, .int faultPlace_, .ref nrd_, .ref no_, .ref nhi_, .ref nf_, .ref ny_, .ref nff_, .ref nty_, .ref nim_, .int drawn_]))]) hX hE (sf_X6_lying l D cy no_ nd_ hour_ ns_ nc_ nl_ nt_ nh_ fallen_ fs_ fc_ lines_ columns_ levels_ things_ walkers_ nw_ nr_ nq_ .null frees_ c_ (rg_w rcolumns_ (by decide) (by decide)) (rg_w rlevels_ (by decide) (by decide)) (rg_w rthings_ (by decide) (by decide)) (rg_w rwalkers_ (by decide) (by decide))) (cwVA 1 htA wd_379 wd_911 wd_6 wd_377 wd_378 (by decide +kernel) ⟨by decide, by decide⟩) hP hD hS [4, 0, 1, 5] [2, 3] rfl rfl (by decide +kernel) 0 rfl rfl rfl rfl hl.1 rfl (Nat.le_of_ble_eq_true rfl) dX10_hanging_54 (by decide) (fun v10540_ W1 H locs hw hP hD hS => ?_)
        refine W.widen (k := 3) (n := 18) (by decide) (by decide) ?_
        obtain rfl := hw
        have hP : va_P D vwCl [(nw_, .inl (cy 0, 8, .inl (fw_))), (nx_, .inr (10, [.ref ntp_, .int tapeLength_, .int faultKind_, .int faultPlace_, .ref nrd_, .ref no_, .ref nhi_, .ref nf_, .ref ny_, .ref nff_, .ref nty_, .ref nim_, .int drawn_])), (no_, .inr (6, [.ref nd_, .int hour_, .ref ns_, .ref nc_, .ref nl_, .ref nt_, .ref nh_, .int fallen_])), (ns_, .inl (cy 0, 8, .inl (fs_))), (nc_, .inl (cy 0, 8, .inl (fc_))), (nd_, .inr (0, [.int lines_, .int columns_, .int levels_, .int things_, .int walkers_, .ref nw_, .ref nr_, .ref nq_, .null, frees_]))] H := hP
        have hD := va_ca hP hD
        refine kVi (As := [.int h_, .int v10390_, .int c_, .int l_, .int hour_, .int v10540_]) (rest := []) (wr := [(nw_, .inl (cy 0, 8, .inl (fw_))), (nx_, .inr (10, [.ref ntp_, .int tapeLength_, .int faultKind_, .int faultPlace_, .ref nrd_, .ref no_, .ref nhi_, .ref nf_, .ref ny_, .ref nff_, .ref nty_, .ref nim_, .int drawn_])), (no_, .inr (6, [.ref nd_, .int hour_, .ref ns_, .ref nc_, .ref nl_, .ref nt_, .ref nh_, .int fallen_])), (ns_, .inl (cy 0, 8, .inl (fs_))), (nc_, .inl (cy 0, 8, .inl (fc_)))]) hX hE (sf_X0_hangTime_Nx l D cy nd_ lines_ columns_ levels_ things_ walkers_ nw_ nr_ nq_ frees_ h_ v10390_ c_ l_ hour_ v10540_ (rg_w rcolumns_ (by decide) (by decide)) (rg_w rlevels_ (by decide) (by decide)) (rg_w rthings_ (by decide) (by decide)) (rg_w rwalkers_ (by decide) (by decide))) (cwVA 6 htA wd_402 wd_937 wd_3 wd_400 wd_401 (by decide +kernel) ⟨by decide, by decide⟩) hP hD hS [5] [0, 1, 2, 3, 4] rfl rfl (by decide +kernel) 0 rfl rfl rfl rfl hl.1 rfl (Nat.le_of_ble_eq_true rfl) dX10_hanging_57 (by decide) (fun v10570_ W1 H locs hw hP hD hS => ?_)
        refine W.widen (k := 3) (n := 18) (by decide) (by decide) ?_
        obtain rfl := hw
        have hP : va_P D vwCl [(nw_, .inl (cy 0, 8, .inl (fw_))), (nx_, .inr (10, [.ref ntp_, .int tapeLength_, .int faultKind_, .int faultPlace_, .ref nrd_, .ref no_, .ref nhi_, .ref nf_, .ref ny_, .ref nff_, .ref nty_, .ref nim_, .int drawn_])), (no_, .inr (6, [.ref nd_, .int hour_, .ref ns_, .ref nc_, .ref nl_, .ref nt_, .ref nh_, .int fallen_])), (ns_, .inl (cy 0, 8, .inl (fs_))), (nc_, .inl (cy 0, 8, .inl (fc_))), (nd_, .inr (0, [.int lines_, .int columns_, .int levels_, .int things_, .int walkers_, .ref nw_, .ref nr_, .ref nq_, .null, frees_]))] H := hP
        have hD := va_ca hP hD
        have hP : va_P D vwCl [(nx_, .inr (10, [.ref ntp_, .int tapeLength_, .int faultKind_, .int faultPlace_, .ref nrd_, .ref no_, .ref nhi_, .ref nf_, .ref ny_, .ref nff_, .ref nty_, .ref nim_, .int drawn_])), (no_, .inr (6, [.ref nd_, .int hour_, .ref ns_, .ref nc_, .ref nl_, .ref nt_, .ref nh_, .int fallen_])), (ns_, .inl (cy 0, 8, .inl (fs_))), (nc_, .inl (cy 0, 8, .inl (fc_))), (nd_, .inr (0, [.int lines_, .int columns_, .int levels_, .int things_, .int walkers_, .ref nw_, .ref nr_, .ref nq_, .null, frees_])), (nw_, .inl (cy 0, 8, .inl (fw_)))] H := hP.sub [1, 2, 3, 4, 5, 0] rfl
        have hD : va_D A [(nx_, .inr (10, [.ref ntp_, .int tapeLength_, .int faultKind_, .int faultPlace_, .ref nrd_, .ref no_, .ref nhi_, .ref nf_, .ref ny_, .ref nff_, .ref nty_, .ref nim_, .int drawn_])), (no_, .inr (6, [.ref nd_, .int hour_, .ref ns_, .ref nc_, .ref nl_, .ref nt_, .ref nh_, .int fallen_])), (ns_, .inl (cy 0, 8, .inl (fs_))), (nc_, .inl (cy 0, 8, .inl (fc_))), (nd_, .inr (0, [.int lines_, .int columns_, .int levels_, .int things_, .int walkers_, .ref nw_, .ref nr_, .ref nq_, .null, frees_])), (nw_, .inl (cy 0, 8, .inl (fw_)))] := hD.sub [1, 2, 3, 4, 5, 0] (by decide +kernel) rfl
        exact vx_ret (rI hX hE hP hD hS dX10_hanging_60 (by decide) (by decide) ⟨(rg_w k2_0_ (by decide) (by decide)), rfl⟩)
set_option maxHeartbeats 4000000 in
set_option maxRecDepth 100000 in
theorem sf_X10_hanging_Rx (l : Launch) (hlt : l.stackTraces = false) (D : va_G) (cy : Nat → ClassId) (nx_ : Nat) (ntp_ : Nat) (tapeLength_ : Int32) (faultKind_ : Int32) (faultPlace_ : Int32) (nrd_ : Nat) (no_ : Nat) (nhi_ : Nat) (nf_ : Nat) (ny_ : Nat) (nff_ : Nat) (nty_ : Nat) (nim_ : Nat) (drawn_ : Int32) (nd_ : Nat) (hour_ : Int32) (ns_ : Nat) (nc_ : Nat) (nl_ : Nat) (nt_ : Nat) (nh_ : Nat) (fallen_ : Int32) (fs_ : Nat → Int32) (fc_ : Nat → Int32) (lines_ : Int32) (columns_ : Int32) (levels_ : Int32) (things_ : Int32) (walkers_ : Int32) (nw_ : Nat) (nr_ : Nat) (nq_ : Nat) (nLH_ : Nat) (frees_ : Value) (fw_ : Nat → Int32) (npH_ : Nat) (ngH_ : Nat) (nkH_ : Nat) (lenH_ : Nat) (fpH_ : Nat → Int32) (fgH_ : Nat → Int32) (fkH_ : Nat → Int32) (t_ : Int32) (c_ : Int32) (l_ : Int32) (h_ : Int32) (hlenH_ : lenH_ ≤ 900) (rcolumns_ : rg (1) (6) columns_) (rlevels_ : rg (1) (9) levels_) (rthings_ : rg (0) (8) things_) (rwalkers_ : rg (0) (4) walkers_) (rtapeLength_ : rg (0) (900) tapeLength_) : Xi l yX10_hanging cX10_hanging 6 (some .int) { frames := 7, cells := 3, slots := 18, locals := 112 } D cy [.ref nx_, .int t_, .int c_, .int l_, .int h_] [(nx_, .inr (10, [.ref ntp_, .int tapeLength_, .int faultKind_, .int faultPlace_, .ref nrd_, .ref no_, .ref nhi_, .ref nf_, .ref ny_, .ref nff_, .ref nty_, .ref nim_, .int drawn_])), (no_, .inr (6, [.ref nd_, .int hour_, .ref ns_, .ref nc_, .ref nl_, .ref nt_, .ref nh_, .int fallen_])), (ns_, .inl (cy 0, 8, .inl (fs_))), (nc_, .inl (cy 0, 8, .inl (fc_))), (nd_, .inr (0, [.int lines_, .int columns_, .int levels_, .int things_, .int walkers_, .ref nw_, .ref nr_, .ref nq_, .ref nLH_, frees_])), (nw_, .inl (cy 0, 8, .inl (fw_))), (nLH_, .inr (4, [.ref npH_, .ref ngH_, .ref nkH_])), (npH_, .inl (cy 0, lenH_, .inl (fpH_))), (ngH_, .inl (cy 0, 6, .inl (fgH_))), (nkH_, .inl (cy 0, 32, .inl (fkH_)))] (fun r W1 => ∃ (x0_ : Nat → Int32) (x1_ : Nat → Int32), rg (0) (7) t_ ∧ W1 = [(nx_, .inr (10, [.ref ntp_, .int tapeLength_, .int faultKind_, .int faultPlace_, .ref nrd_, .ref no_, .ref nhi_, .ref nf_, .ref ny_, .ref nff_, .ref nty_, .ref nim_, .int drawn_])), (no_, .inr (6, [.ref nd_, .int hour_, .ref ns_, .ref nc_, .ref nl_, .ref nt_, .ref nh_, .int fallen_])), (ns_, .inl (cy 0, 8, .inl (fs_))), (nc_, .inl (cy 0, 8, .inl (fc_))), (nd_, .inr (0, [.int lines_, .int columns_, .int levels_, .int things_, .int walkers_, .ref nw_, .ref nr_, .ref nq_, .ref nLH_, frees_])), (nw_, .inl (cy 0, 8, .inl (fw_))), (nLH_, .inr (4, [.ref npH_, .ref ngH_, .ref nkH_])), (npH_, .inl (cy 0, lenH_, .inl (fpH_))), (ngH_, .inl (cy 0, 6, .inl (x0_))), (nkH_, .inl (cy 0, 32, .inl (x1_)))] ∧ rg (0) (999) r) (fun E _ => E = "java/lang/IllegalArgumentException" ∨ E = "java/util/NoSuchElementException") := by
  refine Xi.of (by decide) (Nat.le_of_ble_eq_true rfl) ?_
  intro p e s m below meth c A ls hX hE hP hD hl hxt
  obtain ⟨hx, hb, hr, hml, hown, htA, hlk⟩ := id hX
  have hK := hE.1
  have hS : va_S A s.heap s.heap [] := va_S.rf
  have hl : lv_has ls 6 [(0, .ref nx_), (1, .int t_), (2, .int c_), (3, .int l_), (4, .int h_)] := hl
  refine lv_aload_n hx hb dX10_hanging_0 rfl (lv_at hl 0 rfl) ?_
  refine lv_iload_n hx hb dX10_hanging_1 rfl (lv_at hl 1 rfl) ?_
  refine xVv (As := [.int t_]) (rest := []) (wr := [(ns_, .inl (cy 0, 8, .inl (fs_))), (nc_, .inl (cy 0, 8, .inl (fc_))), (nw_, .inl (cy 0, 8, .inl (fw_))), (nLH_, .inr (4, [.ref npH_, .ref ngH_, .ref nkH_])), (npH_, .inl (cy 0, lenH_, .inl (fpH_))), (ngH_, .inl (cy 0, 6, .inl (fgH_))), (nkH_, .inl (cy 0, 32, .inl (fkH_)))]) hX hE (sf_X10_needThing l hlt D cy nx_ ntp_ tapeLength_ faultKind_ faultPlace_ nrd_ no_ nhi_ nf_ ny_ nff_ nty_ nim_ drawn_ nd_ hour_ ns_ nc_ nl_ nt_ nh_ fallen_ lines_ columns_ levels_ things_ walkers_ nw_ nr_ nq_ (.ref nLH_) frees_ t_ (rg_w rcolumns_ (by decide) (by decide)) (rg_w rlevels_ (by decide) (by decide)) (rg_w rthings_ (by decide) (by decide)) (rg_w rwalkers_ (by decide) (by decide)) (rg_w rtapeLength_ (by decide) (by decide))) (cwVA 1 htA wd_868 wd_865 wd_1 wd_867 wp_26 (by decide +kernel) ⟨by decide, by decide⟩) hP hD hS [0, 1, 4] [2, 3, 5, 6, 7, 8, 9] rfl rfl (by decide +kernel) 0 rfl rfl rfl rfl hl.1 rfl (Nat.le_of_ble_eq_true rfl) dX10_hanging_2 (by decide) (fun E ce q9 W1 H locs hw hP hD hS hce hcv hcl => ?_) (fun W1 H locs hw hP hD hS => ?_)
  · rcases hw with rfl
    exact xO hX hE hxt hP hD hS hce hcv hcl (by decide) (by decide) (Or.inr (rfl))
  · refine W.widen (k := 1) (n := 6) (by decide) (by decide) ?_
    obtain ⟨k2_0_, rfl⟩ := hw
    have hP : va_P D vwCl [(ns_, .inl (cy 0, 8, .inl (fs_))), (nc_, .inl (cy 0, 8, .inl (fc_))), (nw_, .inl (cy 0, 8, .inl (fw_))), (nLH_, .inr (4, [.ref npH_, .ref ngH_, .ref nkH_])), (npH_, .inl (cy 0, lenH_, .inl (fpH_))), (ngH_, .inl (cy 0, 6, .inl (fgH_))), (nkH_, .inl (cy 0, 32, .inl (fkH_))), (nx_, .inr (10, [.ref ntp_, .int tapeLength_, .int faultKind_, .int faultPlace_, .ref nrd_, .ref no_, .ref nhi_, .ref nf_, .ref ny_, .ref nff_, .ref nty_, .ref nim_, .int drawn_])), (no_, .inr (6, [.ref nd_, .int hour_, .ref ns_, .ref nc_, .ref nl_, .ref nt_, .ref nh_, .int fallen_])), (nd_, .inr (0, [.int lines_, .int columns_, .int levels_, .int things_, .int walkers_, .ref nw_, .ref nr_, .ref nq_, .ref nLH_, frees_]))] H := hP
    have hD := va_ca hP hD
    refine lv_aload_n hx hb dX10_hanging_5 rfl (lv_at hl 0 rfl) ?_
    refine lv_iload_n hx hb dX10_hanging_6 rfl (lv_at hl 2 rfl) ?_
    refine lv_iload_n hx hb dX10_hanging_7 rfl (lv_at hl 3 rfl) ?_
    refine xVv (As := [.int c_, .int l_]) (rest := []) (wr := [(ns_, .inl (cy 0, 8, .inl (fs_))), (nc_, .inl (cy 0, 8, .inl (fc_))), (nw_, .inl (cy 0, 8, .inl (fw_))), (nLH_, .inr (4, [.ref npH_, .ref ngH_, .ref nkH_])), (npH_, .inl (cy 0, lenH_, .inl (fpH_))), (ngH_, .inl (cy 0, 6, .inl (fgH_))), (nkH_, .inl (cy 0, 32, .inl (fkH_)))]) hX hE (sf_X10_needPlace l hlt D cy nx_ ntp_ tapeLength_ faultKind_ faultPlace_ nrd_ no_ nhi_ nf_ ny_ nff_ nty_ nim_ drawn_ nd_ hour_ ns_ nc_ nl_ nt_ nh_ fallen_ lines_ columns_ levels_ things_ walkers_ nw_ nr_ nq_ (.ref nLH_) frees_ c_ l_ (rg_w rcolumns_ (by decide) (by decide)) (rg_w rlevels_ (by decide) (by decide)) (rg_w rthings_ (by decide) (by decide)) (rg_w rwalkers_ (by decide) (by decide)) (rg_w rtapeLength_ (by decide) (by decide))) (cwVA 2 htA wd_922 wd_919 wd_1 wd_921 wp_29 (by decide +kernel) ⟨by decide, by decide⟩) hP hD hS [7, 8, 9] [0, 1, 2, 3, 4, 5, 6] rfl rfl (by decide +kernel) 0 rfl rfl rfl rfl hl.1 rfl (Nat.le_of_ble_eq_true rfl) dX10_hanging_8 (by decide) (fun E ce q9 W1 H locs hw hP hD hS hce hcv hcl => ?_) (fun W1 H locs hw hP hD hS => ?_)
    · rcases hw with rfl
      exact xO hX hE hxt hP hD hS hce hcv hcl (by decide) (by decide) (Or.inr (rfl))
    · refine W.widen (k := 2) (n := 12) (by decide) (by decide) ?_
      obtain rfl := hw
      have hP : va_P D vwCl [(ns_, .inl (cy 0, 8, .inl (fs_))), (nc_, .inl (cy 0, 8, .inl (fc_))), (nw_, .inl (cy 0, 8, .inl (fw_))), (nLH_, .inr (4, [.ref npH_, .ref ngH_, .ref nkH_])), (npH_, .inl (cy 0, lenH_, .inl (fpH_))), (ngH_, .inl (cy 0, 6, .inl (fgH_))), (nkH_, .inl (cy 0, 32, .inl (fkH_))), (nx_, .inr (10, [.ref ntp_, .int tapeLength_, .int faultKind_, .int faultPlace_, .ref nrd_, .ref no_, .ref nhi_, .ref nf_, .ref ny_, .ref nff_, .ref nty_, .ref nim_, .int drawn_])), (no_, .inr (6, [.ref nd_, .int hour_, .ref ns_, .ref nc_, .ref nl_, .ref nt_, .ref nh_, .int fallen_])), (nd_, .inr (0, [.int lines_, .int columns_, .int levels_, .int things_, .int walkers_, .ref nw_, .ref nr_, .ref nq_, .ref nLH_, frees_]))] H := hP
      have hD := va_ca hP hD
      refine lv_iload hx hb dX10_hanging_11 (lv_at hl 4 rfl) ?_
      refine lv_iconst (v := 0) hx hb dX10_hanging_13 (by decide) ?_
      refine lv_sipush (v := 999) hx hb dX10_hanging_14 (by decide) ?_
      refine xSv (As := [.int h_, .int 0, .int 999]) (rest := []) (wr := [(ns_, .inl (cy 0, 8, .inl (fs_))), (nc_, .inl (cy 0, 8, .inl (fc_))), (nw_, .inl (cy 0, 8, .inl (fw_))), (nLH_, .inr (4, [.ref npH_, .ref ngH_, .ref nkH_])), (npH_, .inl (cy 0, lenH_, .inl (fpH_))), (ngH_, .inl (cy 0, 6, .inl (fgH_))), (nkH_, .inl (cy 0, 32, .inl (fkH_))), (nx_, .inr (10, [.ref ntp_, .int tapeLength_, .int faultKind_, .int faultPlace_, .ref nrd_, .ref no_, .ref nhi_, .ref nf_, .ref ny_, .ref nff_, .ref nty_, .ref nim_, .int drawn_])), (no_, .inr (6, [.ref nd_, .int hour_, .ref ns_, .ref nc_, .ref nl_, .ref nt_, .ref nh_, .int fallen_])), (nd_, .inr (0, [.int lines_, .int columns_, .int levels_, .int things_, .int walkers_, .ref nw_, .ref nr_, .ref nq_, .ref nLH_, frees_]))]) hX hE (sf_X10_needWithin l hlt D cy h_ (0 : Int32) (999 : Int32) ) (cwSA 3 htA wd_935 wd_933 wd_1 wd_934 (by decide +kernel) ⟨by decide, by decide⟩) hP hD hS [] [0, 1, 2, 3, 4, 5, 6, 7, 8, 9] rfl rfl (by decide +kernel) rfl hl.1 rfl (Nat.le_of_ble_eq_true rfl) dX10_hanging_17 (by decide) (fun E ce q9 W1 H locs hw hP hD hS hce hcv hcl => ?_) (fun W1 H locs hw hP hD hS => ?_)
      · rcases hw with rfl
        exact xO hX hE hxt hP hD hS hce hcv hcl (by decide) (by decide) (Or.inl rfl)
      · refine W.widen (k := 3) (n := 18) (by decide) (by decide) ?_
        obtain rfl := hw
        have hP : va_P D vwCl [(ns_, .inl (cy 0, 8, .inl (fs_))), (nc_, .inl (cy 0, 8, .inl (fc_))), (nw_, .inl (cy 0, 8, .inl (fw_))), (nLH_, .inr (4, [.ref npH_, .ref ngH_, .ref nkH_])), (npH_, .inl (cy 0, lenH_, .inl (fpH_))), (ngH_, .inl (cy 0, 6, .inl (fgH_))), (nkH_, .inl (cy 0, 32, .inl (fkH_))), (nx_, .inr (10, [.ref ntp_, .int tapeLength_, .int faultKind_, .int faultPlace_, .ref nrd_, .ref no_, .ref nhi_, .ref nf_, .ref ny_, .ref nff_, .ref nty_, .ref nim_, .int drawn_])), (no_, .inr (6, [.ref nd_, .int hour_, .ref ns_, .ref nc_, .ref nl_, .ref nt_, .ref nh_, .int fallen_])), (nd_, .inr (0, [.int lines_, .int columns_, .int levels_, .int things_, .int walkers_, .ref nw_, .ref nr_, .ref nq_, .ref nLH_, frees_]))] H := hP
        have hD := va_ca hP hD
        refine lv_aload_n hx hb dX10_hanging_20 rfl (lv_at hl 0 rfl) ?_
        refine va_get (ci := 10) (v := .ref no_) (C := RX10) (T := TX10) (N := 13) hx hb htA in_X10 hown hK hP 7 rfl rfl 5 (by decide) (htA _ wd_313) (fun _ h => h) rfl dX10_hanging_21 ?_
        refine va_get (ci := 6) (v := .ref nd_) (C := RX6) (T := TX6) (N := 8) hx hb htA in_X6 hown hK hP 8 rfl rfl 0 (by decide) (htA _ wd_168) (fun _ h => h) rfl dX10_hanging_24 ?_
        refine lv_astore (lv' := [(5, .ref nd_), (0, .ref nx_), (1, .int t_), (2, .int c_), (3, .int l_), (4, .int h_)]) hx hb dX10_hanging_27 hl (by decide) rfl (fun ls hl => ?_)
        refine lv_aload hx hb dX10_hanging_29 (lv_at hl 0 rfl) ?_
        refine lv_iload hx hb dX10_hanging_31 (lv_at hl 5 rfl) ?_
        refine lv_aload hx hb dX10_hanging_33 (lv_at hl 0 rfl) ?_
        refine va_get (ci := 0) (v := .ref nw_) (C := RX0) (T := TX0) (N := 10) hx hb htA in_X0 hown hK hP 9 rfl rfl 5 (by decide) (htA _ wd_94) (fun _ h => h) rfl dX10_hanging_35 ?_
        refine lv_iload_n hx hb dX10_hanging_38 rfl (lv_at hl 2 rfl) ?_
        refine va_iald hx hb hK hP 2 0 rfl rfl (rg_in k2_0_ (by decide) (by decide)) dX10_hanging_39 ?_
        refine lv_topi (fun v10390_ ev10390_ => ?_)
        refine lv_iload_n hx hb dX10_hanging_40 rfl (lv_at hl 3 rfl) ?_
        refine lv_iload_n hx hb dX10_hanging_41 rfl (lv_at hl 4 rfl) ?_
        refine lv_aload_n hx hb dX10_hanging_42 rfl (lv_at hl 1 rfl) ?_
        refine va_get (ci := 10) (v := .ref no_) (C := RX10) (T := TX10) (N := 13) hx hb htA in_X10 hown hK hP 7 rfl rfl 5 (by decide) (htA _ wd_313) (fun _ h => h) rfl dX10_hanging_43 ?_
        refine va_get (ci := 6) (v := .int hour_) (C := RX6) (T := TX6) (N := 8) hx hb htA in_X6 hown hK hP 8 rfl rfl 1 (by decide) (htA _ wd_173) (fun _ h => h) rfl dX10_hanging_46 ?_
        refine lv_aload_n hx hb dX10_hanging_49 rfl (lv_at hl 1 rfl) ?_
        refine va_get (ci := 10) (v := .ref no_) (C := RX10) (T := TX10) (N := 13) hx hb htA in_X10 hown hK hP 7 rfl rfl 5 (by decide) (htA _ wd_313) (fun _ h => h) rfl dX10_hanging_50 ?_
        refine lv_iload_n hx hb dX10_hanging_53 rfl (lv_at hl 3 rfl) ?_
        refine kVi (As := [.int c_]) (rest := [.int hour_, .int l_, .int c_, .int v10390_, .int h_, .ref nd_]) (wr := [(nw_, .inl (cy 0, 8, .inl (fw_))), (nLH_, .inr (4, [.ref npH_, .ref ngH_, .ref nkH_])), (npH_, .inl (cy 0, lenH_, .inl (fpH_))), (ngH_, .inl (cy 0, 6, .inl (fgH_))), (nkH_, .inl (cy 0, 32, .inl (fkH_))), (nx_, .inr (10, [.ref ntp_, .int tapeLength_, .int faultKind_, .int faultPlace_, .ref nrd_, .ref no_, .ref nhi_, .ref nf_, .ref ny_, .ref nff_, .ref nty_, .ref nim_, .int drawn_]))]) hX hE (sf_X6_lying l D cy no_ nd_ hour_ ns_ nc_ nl_ nt_ nh_ fallen_ fs_ fc_ lines_ columns_ levels_ things_ walkers_ nw_ nr_ nq_ (.ref nLH_) frees_ c_ (rg_w rcolumns_ (by decide) (by decide)) (rg_w rlevels_ (by decide) (by decide)) (rg_w rthings_ (by decide) (by decide)) (rg_w rwalkers_ (by decide) (by decide))) (cwVA 1 htA wd_379 wd_911 wd_6 wd_377 wd_378 (by decide +kernel) ⟨by decide, by decide⟩) hP hD hS [8, 0, 1, 9] [2, 3, 4, 5, 6, 7] rfl rfl (by decide +kernel) 0 rfl rfl rfl rfl hl.1 rfl (Nat.le_of_ble_eq_true rfl) dX10_hanging_54 (by decide) (fun v10540_ W1 H locs hw hP hD hS => ?_)
        refine W.widen (k := 3) (n := 18) (by decide) (by decide) ?_
        obtain rfl := hw
        have hP : va_P D vwCl [(nw_, .inl (cy 0, 8, .inl (fw_))), (nLH_, .inr (4, [.ref npH_, .ref ngH_, .ref nkH_])), (npH_, .inl (cy 0, lenH_, .inl (fpH_))), (ngH_, .inl (cy 0, 6, .inl (fgH_))), (nkH_, .inl (cy 0, 32, .inl (fkH_))), (nx_, .inr (10, [.ref ntp_, .int tapeLength_, .int faultKind_, .int faultPlace_, .ref nrd_, .ref no_, .ref nhi_, .ref nf_, .ref ny_, .ref nff_, .ref nty_, .ref nim_, .int drawn_])), (no_, .inr (6, [.ref nd_, .int hour_, .ref ns_, .ref nc_, .ref nl_, .ref nt_, .ref nh_, .int fallen_])), (ns_, .inl (cy 0, 8, .inl (fs_))), (nc_, .inl (cy 0, 8, .inl (fc_))), (nd_, .inr (0, [.int lines_, .int columns_, .int levels_, .int things_, .int walkers_, .ref nw_, .ref nr_, .ref nq_, .ref nLH_, frees_]))] H := hP
        have hD := va_ca hP hD
        refine kVi (As := [.int h_, .int v10390_, .int c_, .int l_, .int hour_, .int v10540_]) (rest := []) (wr := [(nw_, .inl (cy 0, 8, .inl (fw_))), (nx_, .inr (10, [.ref ntp_, .int tapeLength_, .int faultKind_, .int faultPlace_, .ref nrd_, .ref no_, .ref nhi_, .ref nf_, .ref ny_, .ref nff_, .ref nty_, .ref nim_, .int drawn_])), (no_, .inr (6, [.ref nd_, .int hour_, .ref ns_, .ref nc_, .ref nl_, .ref nt_, .ref nh_, .int fallen_])), (ns_, .inl (cy 0, 8, .inl (fs_))), (nc_, .inl (cy 0, 8, .inl (fc_)))]) hX hE (sf_X0_hangTime_Rx l D cy nd_ lines_ columns_ levels_ things_ walkers_ nw_ nr_ nq_ nLH_ frees_ npH_ ngH_ nkH_ lenH_ fpH_ fgH_ fkH_ h_ v10390_ c_ l_ hour_ v10540_ hlenH_ (rg_w rcolumns_ (by decide) (by decide)) (rg_w rlevels_ (by decide) (by decide)) (rg_w rthings_ (by decide) (by decide)) (rg_w rwalkers_ (by decide) (by decide))) (cwVA 6 htA wd_402 wd_937 wd_3 wd_400 wd_401 (by decide +kernel) ⟨by decide, by decide⟩) hP hD hS [9, 1, 2, 3, 4] [0, 5, 6, 7, 8] rfl rfl (by decide +kernel) 0 rfl rfl rfl rfl hl.1 rfl (Nat.le_of_ble_eq_true rfl) dX10_hanging_57 (by decide) (fun v10570_ W1 H locs hw hP hD hS => ?_)
        refine W.widen (k := 3) (n := 18) (by decide) (by decide) ?_
        obtain ⟨g10571_, g10572_, rfl, kr57_⟩ := hw
        have hP : va_P D vwCl [(nw_, .inl (cy 0, 8, .inl (fw_))), (nx_, .inr (10, [.ref ntp_, .int tapeLength_, .int faultKind_, .int faultPlace_, .ref nrd_, .ref no_, .ref nhi_, .ref nf_, .ref ny_, .ref nff_, .ref nty_, .ref nim_, .int drawn_])), (no_, .inr (6, [.ref nd_, .int hour_, .ref ns_, .ref nc_, .ref nl_, .ref nt_, .ref nh_, .int fallen_])), (ns_, .inl (cy 0, 8, .inl (fs_))), (nc_, .inl (cy 0, 8, .inl (fc_))), (nd_, .inr (0, [.int lines_, .int columns_, .int levels_, .int things_, .int walkers_, .ref nw_, .ref nr_, .ref nq_, .ref nLH_, frees_])), (nLH_, .inr (4, [.ref npH_, .ref ngH_, .ref nkH_])), (npH_, .inl (cy 0, lenH_, .inl (fpH_))), (ngH_, .inl (cy 0, 6, .inl (g10571_))), (nkH_, .inl (cy 0, 32, .inl (g10572_)))] H := hP
        have hD := va_ca hP hD
        have hP : va_P D vwCl [(nx_, .inr (10, [.ref ntp_, .int tapeLength_, .int faultKind_, .int faultPlace_, .ref nrd_, .ref no_, .ref nhi_, .ref nf_, .ref ny_, .ref nff_, .ref nty_, .ref nim_, .int drawn_])), (no_, .inr (6, [.ref nd_, .int hour_, .ref ns_, .ref nc_, .ref nl_, .ref nt_, .ref nh_, .int fallen_])), (ns_, .inl (cy 0, 8, .inl (fs_))), (nc_, .inl (cy 0, 8, .inl (fc_))), (nd_, .inr (0, [.int lines_, .int columns_, .int levels_, .int things_, .int walkers_, .ref nw_, .ref nr_, .ref nq_, .ref nLH_, frees_])), (nw_, .inl (cy 0, 8, .inl (fw_))), (nLH_, .inr (4, [.ref npH_, .ref ngH_, .ref nkH_])), (npH_, .inl (cy 0, lenH_, .inl (fpH_))), (ngH_, .inl (cy 0, 6, .inl (g10571_))), (nkH_, .inl (cy 0, 32, .inl (g10572_)))] H := hP.sub [1, 2, 3, 4, 5, 0, 6, 7, 8, 9] rfl
        have hD : va_D A [(nx_, .inr (10, [.ref ntp_, .int tapeLength_, .int faultKind_, .int faultPlace_, .ref nrd_, .ref no_, .ref nhi_, .ref nf_, .ref ny_, .ref nff_, .ref nty_, .ref nim_, .int drawn_])), (no_, .inr (6, [.ref nd_, .int hour_, .ref ns_, .ref nc_, .ref nl_, .ref nt_, .ref nh_, .int fallen_])), (ns_, .inl (cy 0, 8, .inl (fs_))), (nc_, .inl (cy 0, 8, .inl (fc_))), (nd_, .inr (0, [.int lines_, .int columns_, .int levels_, .int things_, .int walkers_, .ref nw_, .ref nr_, .ref nq_, .ref nLH_, frees_])), (nw_, .inl (cy 0, 8, .inl (fw_))), (nLH_, .inr (4, [.ref npH_, .ref ngH_, .ref nkH_])), (npH_, .inl (cy 0, lenH_, .inl (fpH_))), (ngH_, .inl (cy 0, 6, .inl (g10571_))), (nkH_, .inl (cy 0, 32, .inl (g10572_)))] := hD.sub [1, 2, 3, 4, 5, 0, 6, 7, 8, 9] (by decide +kernel) rfl
        exact vx_ret (rI hX hE hP hD hS dX10_hanging_60 (by decide) (by decide) ⟨g10571_, g10572_, (rg_w k2_0_ (by decide) (by decide)), rfl, (rg_w kr57_ (by decide) (by decide))⟩)
