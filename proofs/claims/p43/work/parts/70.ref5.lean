set_option maxHeartbeats 4000000 in
set_option maxRecDepth 100000 in
theorem sf_X11_lawOf_5 (l : Launch) (D : va_G) (cy : Nat → ClassId) (nm_ : Nat) (nknown_ : Nat) (ntelling_ : Nat) (nimages_ : Nat) (nisImage_ : Nat) (mthrown_ : Int32) (ntape_ : Nat) (mtaped_ : Int32) (mlength_ : Int32) (mhead_ : Int32) (mbegin_ : Int32) (mtoken_ : Int32) (mvalue_ : Int32) (mbad_ : Int32) (mbadPlace_ : Int32) (mfaultKind_ : Int32) (mfaultPlace_ : Int32) (mdeep_ : Int32) (mlawMany_ : Int32) (mlawAt_ : Int32) (nstack_ : Nat) (nasked_ : Nat) (mfell_ : Int32) (mfellIn_ : Int32) (naside_ : Nat) (mstate_ : Int32) (mlanded_ : Int32) (mwaitFalls_ : Int32) (mwaitWeight_ : Int32) (nfallsAfter_ : Nat) (nfalling_ : Nat) (ncomes_ : Nat) (ngoesOn_ : Nat) (nwayRow_ : Nat) (nmany_ : Nat) (nmanyThen_ : Nat) (mtoldLet_ : Int32) (ntSort_ : Nat) (ntMany_ : Nat) (nnumbers_ : Nat) (fknown_ : Nat → Int32) (fstack_ : Nat → Int32) (fasked_ : Nat → Int32) (hb_ : Int) (hhb_ : hb_ ≤ 1000000) (rmtaped_ : rg (0) (900) mtaped_) (rmlength_ : rg (0) (900) mlength_) (rmhead_ : rg (0) (900) mhead_) (rmbegin_ : rg (0) (900) mbegin_) (rfknown_ : KX hb_ fknown_) : Ci l yX11_lawOf cX11_lawOf 6 (some .int) { frames := 3, cells := 0, slots := 0, locals := 68 } D cy [.ref nm_, .int 5, .int 459] [(nm_, .inr (11, [.ref nknown_, .ref ntelling_, .ref nimages_, .ref nisImage_, .int mthrown_, .ref ntape_, .int mtaped_, .int mlength_, .int mhead_, .int mbegin_, .int mtoken_, .int mvalue_, .int mbad_, .int mbadPlace_, .int mfaultKind_, .int mfaultPlace_, .int mdeep_, .int mlawMany_, .int mlawAt_, .ref nstack_, .ref nasked_, .int mfell_, .int mfellIn_, .ref naside_, .int mstate_, .int mlanded_, .int mwaitFalls_, .int mwaitWeight_, .ref nfallsAfter_, .ref nfalling_, .ref ncomes_, .ref ngoesOn_, .ref nwayRow_, .ref nmany_, .ref nmanyThen_, .int mtoldLet_, .ref ntSort_, .ref ntMany_, .ref nnumbers_])), (nknown_, .inl (cy 0, 2260, .inl (fknown_))), (nstack_, .inl (cy 0, 64, .inl (fstack_))), (nasked_, .inl (cy 0, 6, .inl (fasked_)))] (fun r W1 => ∃ (x0_ : Nat → Int32), W1 = [(nm_, .inr (11, [.ref nknown_, .ref ntelling_, .ref nimages_, .ref nisImage_, .int mthrown_, .ref ntape_, .int mtaped_, .int mlength_, .int mhead_, .int mbegin_, .int mtoken_, .int mvalue_, .int mbad_, .int mbadPlace_, .int mfaultKind_, .int mfaultPlace_, .int mdeep_, .int mlawMany_, .int mlawAt_, .ref nstack_, .ref nasked_, .int mfell_, .int mfellIn_, .ref naside_, .int mstate_, .int mlanded_, .int mwaitFalls_, .int mwaitWeight_, .ref nfallsAfter_, .ref nfalling_, .ref ncomes_, .ref ngoesOn_, .ref nwayRow_, .ref nmany_, .ref nmanyThen_, .int mtoldLet_, .ref ntSort_, .ref ntMany_, .ref nnumbers_])), (nknown_, .inl (cy 0, 2260, .inl (fknown_))), (nstack_, .inl (cy 0, 64, .inl (x0_))), (nasked_, .inl (cy 0, 6, .inl (fasked_)))]) := by
  refine Ci.of (by decide) (Nat.le_of_ble_eq_true rfl) ?_
  intro p e s m below meth c A ls hX hE hP hD hl
  obtain ⟨hx, hb, hr, hml, hown, htA, hlk⟩ := id hX
  have hK := hE.1
  have hS : va_S A s.heap s.heap [] := va_S.rf
  have hl : lv_has ls 6 [(0, .ref nm_), (1, .int 5), (2, .int 459)] := hl
  refine lv_iconst (v := 0) hx hb dX11_lawOf_0 (by decide) ?_
  refine lv_istore_n (lv' := [(3, .int 0), (0, .ref nm_), (1, .int 5), (2, .int 459)]) hx hb dX11_lawOf_1 rfl hl (by decide) rfl (fun ls hl => ?_)
  refine lv_iconst (v := 0) hx hb dX11_lawOf_2 (by decide) ?_
  refine lv_istore (lv' := [(4, .int 0), (3, .int 0), (0, .ref nm_), (1, .int 5), (2, .int 459)]) hx hb dX11_lawOf_3 hl (by decide) rfl (fun ls hl => ?_)
  refine loopT (τ := Int32 × Int32 × (Nat → Int32)) (WS := fun i => [(nm_, .inr (11, [.ref nknown_, .ref ntelling_, .ref nimages_, .ref nisImage_, .int mthrown_, .ref ntape_, .int mtaped_, .int mlength_, .int mhead_, .int mbegin_, .int mtoken_, .int mvalue_, .int mbad_, .int mbadPlace_, .int mfaultKind_, .int mfaultPlace_, .int mdeep_, .int mlawMany_, .int mlawAt_, .ref nstack_, .ref nasked_, .int mfell_, .int mfellIn_, .ref naside_, .int mstate_, .int mlanded_, .int mwaitFalls_, .int mwaitWeight_, .ref nfallsAfter_, .ref nfalling_, .ref ncomes_, .ref ngoesOn_, .ref nwayRow_, .ref nmany_, .ref nmanyThen_, .int mtoldLet_, .ref ntSort_, .ref ntMany_, .ref nnumbers_])), (nknown_, .inl (cy 0, 2260, .inl (fknown_))), (nstack_, .inl (cy 0, 64, .inl (i.2.2))), (nasked_, .inl (cy 0, 6, .inl (fasked_)))]) (LV := fun i => [(4, .int i.1), (3, .int i.2.1), (0, .ref nm_), (1, .int 5), (2, .int 459)]) (fun i => (901 - i.1.toInt).toNat) (fun i => rg (0) (900) i.1 ∧ rg (-1) (99) i.2.1 ∧ i.2.1.toInt = dpt fknown_ 459 i.1.toNatClampNeg) ?_ (0, 0, fstack_) ⟨(rg_w (rg_lit (by decide) : rg (0) (0) (0 : Int32)) (by decide) (by decide)), (rg_w (rg_lit (by decide) : rg (0) (0) (0 : Int32)) (by decide) (by decide)), lw_0⟩ hP hD hS (lv_sub hl [0, 1, 2, 3, 4] rfl)
  intro i_ H locs ls hI ih5_ hP hD hS hl
  obtain ⟨v200500_, v200501_, g200502_⟩ := i_
  have hI : rg (0) (900) v200500_ ∧ rg (-1) (99) v200501_ ∧ v200501_.toInt = dpt fknown_ 459 v200500_.toNatClampNeg := hI
  obtain ⟨rv200500_, rv200501_, xi5_⟩ := hI
  have hP : va_P D vwCl [(nm_, .inr (11, [.ref nknown_, .ref ntelling_, .ref nimages_, .ref nisImage_, .int mthrown_, .ref ntape_, .int mtaped_, .int mlength_, .int mhead_, .int mbegin_, .int mtoken_, .int mvalue_, .int mbad_, .int mbadPlace_, .int mfaultKind_, .int mfaultPlace_, .int mdeep_, .int mlawMany_, .int mlawAt_, .ref nstack_, .ref nasked_, .int mfell_, .int mfellIn_, .ref naside_, .int mstate_, .int mlanded_, .int mwaitFalls_, .int mwaitWeight_, .ref nfallsAfter_, .ref nfalling_, .ref ncomes_, .ref ngoesOn_, .ref nwayRow_, .ref nmany_, .ref nmanyThen_, .int mtoldLet_, .ref ntSort_, .ref ntMany_, .ref nnumbers_])), (nknown_, .inl (cy 0, 2260, .inl (fknown_))), (nstack_, .inl (cy 0, 64, .inl (g200502_))), (nasked_, .inl (cy 0, 6, .inl (fasked_)))] H := hP
  have hD := va_ca hP hD
  have hl : lv_has ls 6 [(4, .int v200500_), (3, .int v200501_), (0, .ref nm_), (1, .int 5), (2, .int 459)] := hl
  refine lv_iload hx hb dX11_lawOf_5 (lv_at hl 0 rfl) ?_
  refine lv_aload_n hx hb dX11_lawOf_7 rfl (lv_at hl 2 rfl) ?_
  refine va_get (ci := 11) (v := .ref nknown_) (C := RX11) (T := TX11) (N := 39) hx hb htA in_X11 hown hK hP 0 rfl rfl 0 (by decide) (htA _ wd_1354) (fun _ h => h) rfl dX11_lawOf_8 ?_
  refine lv_iload_n hx hb dX11_lawOf_11 rfl (lv_at hl 3 rfl) ?_
  refine va_iald hx hb hK hP 1 0 rfl rfl (in_lit (by decide)) dX11_lawOf_12 ?_
  refine lv_topi (fun v10120_ ev10120_ => ?_)
  have g1_ : rg (0) (900) v10120_ := by rw [ev10120_]; exact KX_l kb_5 rfknown_ (rg_lit (by decide) : rg (5) (5) (5 : Int32)) (by decide) (by decide)
  refine lv_icmp_ge (tgt := 139) hx hb dX11_lawOf_13 (by decide) (fun c13_ => ?_) (fun c13_ => ?_)
  · refine lv_aload_n hx hb dX11_lawOf_139 rfl (lv_at hl 2 rfl) ?_
    refine va_get (ci := 11) (v := .ref nstack_) (C := RX11) (T := TX11) (N := 39) hx hb htA in_X11 hown hK hP 0 rfl rfl 19 (by decide) (htA _ wd_1373) (fun _ h => h) rfl dX11_lawOf_140 ?_
    refine lv_iconst (v := 0) hx hb dX11_lawOf_143 (by decide) ?_
    refine va_iald hx hb hK hP 2 0 rfl rfl (in_lit (by decide)) dX11_lawOf_144 ?_
    refine lv_topi (fun v11440_ ev11440_ => ?_)
    exact rI hX hE hP hD hS dX11_lawOf_145 (by decide) (by decide) ⟨g200502_, rfl⟩
  · have g2_ : rg (0) (899) v200500_ := rg_lt1 (rg_nle c13_) rv200500_ g1_ (by decide)
    have g3_ : rg (1) (900) v10120_ := rg_lt2 (rg_nle c13_) rv200500_ g1_ (by decide)
    refine lv_aload_n hx hb dX11_lawOf_16 rfl (lv_at hl 2 rfl) ?_
    refine va_get (ci := 11) (v := .ref nknown_) (C := RX11) (T := TX11) (N := 39) hx hb htA in_X11 hown hK hP 0 rfl rfl 0 (by decide) (htA _ wd_1354) (fun _ h => h) rfl dX11_lawOf_17 ?_
    refine lv_iload_n hx hb dX11_lawOf_20 rfl (lv_at hl 4 rfl) ?_
    refine lv_iload hx hb dX11_lawOf_21 (lv_at hl 0 rfl) ?_
    refine lv_iadd hx hb dX11_lawOf_23 ?_
    have g4_ : rg (459) (1358) (459 + v200500_) := rg_add (rg_lit (by decide) : rg (459) (459) (459 : Int32)) g2_ (by decide) (by decide) (by decide) (by decide)
    refine va_iald hx hb hK hP 1 0 rfl rfl (rg_in g4_ (by decide) (by decide)) dX11_lawOf_24 ?_
    refine lv_topi (fun v10240_ ev10240_ => ?_)
    refine lv_istore (lv' := [(5, .int v10240_), (4, .int v200500_), (3, .int v200501_), (0, .ref nm_), (1, .int 5), (2, .int 459)]) hx hb dX11_lawOf_25 hl (by decide) rfl (fun ls hl => ?_)
    refine lv_iload hx hb dX11_lawOf_27 (lv_at hl 0 rfl) ?_
    refine lv_bipush (v := 100) hx hb dX11_lawOf_29 (by decide) ?_
    refine lv_icmp_lt (tgt := 73) hx hb dX11_lawOf_31 (by decide) (fun c31_ => ?_) (fun c31_ => ?_)
    · have g5_ : rg (-2147483648) (99) v10240_ := rg_lt1 c31_ (rg_any _) (rg_lit (by decide) : rg (100) (100) (100 : Int32)) (by decide)
      refine lv_iload hx hb dX11_lawOf_73 (lv_at hl 0 rfl) ?_
      refine lv_bipush (v := 18) hx hb dX11_lawOf_75 (by decide) ?_
      refine lv_icmp_ne (tgt := 101) hx hb dX11_lawOf_77 (by decide) (fun c10000077_ => ?_) (fun c10000077_ => ?_)
      · have hq101_ := lw_3 (lw_N5 rfknown_ ev10120_) (by decide : (459 : Int32).toInt = ((459 : Nat) : Int)) (by decide) (rg_nle c13_) (rg_w g2_ (by decide) (by decide)) ev10240_ xi5_ g5_ (by decide) c10000077_
        refine lv_iinc (v := v200501_ + (-1)) (lv' := [(3, .int (v200501_ + (-1))), (5, .int v10240_), (4, .int v200500_), (0, .ref nm_), (1, .int 5), (2, .int 459)]) hx hb dX11_lawOf_101 hl (k := 2) rfl rfl (by decide) rfl (fun ls hl => ?_)
        have g6_ : rg (1) (63) (v200501_ + (-1)) := rg_add hq101_ (rg_lit (by decide) : rg (-1) (-1) ((-1) : Int32)) (by decide) (by decide) (by decide) (by decide)
        refine lv_aload_n hx hb dX11_lawOf_104 rfl (lv_at hl 3 rfl) ?_
        refine va_get (ci := 11) (v := .ref nstack_) (C := RX11) (T := TX11) (N := 39) hx hb htA in_X11 hown hK hP 0 rfl rfl 19 (by decide) (htA _ wd_1373) (fun _ h => h) rfl dX11_lawOf_105 ?_
        refine lv_iload_n hx hb dX11_lawOf_108 rfl (lv_at hl 0 rfl) ?_
        refine lv_iconst (v := 1) hx hb dX11_lawOf_109 (by decide) ?_
        refine lv_isub hx hb dX11_lawOf_110 ?_
        have g7_ : rg (0) (62) ((v200501_ + (-1)) - 1) := rg_sub g6_ (rg_lit (by decide) : rg (1) (1) (1 : Int32)) (by decide) (by decide) (by decide) (by decide)
        refine lv_iload hx hb dX11_lawOf_111 (lv_at hl 1 rfl) ?_
        refine lv_aload_n hx hb dX11_lawOf_113 rfl (lv_at hl 3 rfl) ?_
        refine va_get (ci := 11) (v := .ref nstack_) (C := RX11) (T := TX11) (N := 39) hx hb htA in_X11 hown hK hP 0 rfl rfl 19 (by decide) (htA _ wd_1373) (fun _ h => h) rfl dX11_lawOf_114 ?_
        refine lv_iload_n hx hb dX11_lawOf_117 rfl (lv_at hl 0 rfl) ?_
        refine lv_iconst (v := 1) hx hb dX11_lawOf_118 (by decide) ?_
        refine lv_isub hx hb dX11_lawOf_119 ?_
        refine va_iald hx hb hK hP 2 0 rfl rfl (rg_in g7_ (by decide) (by decide)) dX11_lawOf_120 ?_
        refine lv_topi (fun v20011200_ ev20011200_ => ?_)
        refine lv_i2l hx hb dX11_lawOf_121 rfl ?_
        have g8_ : rl (-2147483648) (2147483647) v20011200_.toInt64 := rl_i2l (rg_any _)
        refine lv_aload_n hx hb dX11_lawOf_122 rfl (lv_at hl 3 rfl) ?_
        refine va_get (ci := 11) (v := .ref nstack_) (C := RX11) (T := TX11) (N := 39) hx hb htA in_X11 hown hK hP 0 rfl rfl 19 (by decide) (htA _ wd_1373) (fun _ h => h) rfl dX11_lawOf_123 ?_
        refine lv_iload_n hx hb dX11_lawOf_126 rfl (lv_at hl 0 rfl) ?_
        refine va_iald hx hb hK hP 2 0 rfl rfl (rg_in g6_ (by decide) (by decide)) dX11_lawOf_127 ?_
        refine lv_topi (fun v20011270_ ev20011270_ => ?_)
        refine lv_i2l hx hb dX11_lawOf_128 rfl ?_
        have g9_ : rl (-2147483648) (2147483647) v20011270_.toInt64 := rl_i2l (rg_any _)
        refine kSi (As := [.int v10240_, .long v20011200_.toInt64, .long v20011270_.toInt64]) (rest := [.int ((v200501_ + (-1)) - 1), .ref nstack_]) (wr := [(nm_, .inr (11, [.ref nknown_, .ref ntelling_, .ref nimages_, .ref nisImage_, .int mthrown_, .ref ntape_, .int mtaped_, .int mlength_, .int mhead_, .int mbegin_, .int mtoken_, .int mvalue_, .int mbad_, .int mbadPlace_, .int mfaultKind_, .int mfaultPlace_, .int mdeep_, .int mlawMany_, .int mlawAt_, .ref nstack_, .ref nasked_, .int mfell_, .int mfellIn_, .ref naside_, .int mstate_, .int mlanded_, .int mwaitFalls_, .int mwaitWeight_, .ref nfallsAfter_, .ref nfalling_, .ref ncomes_, .ref ngoesOn_, .ref nwayRow_, .ref nmany_, .ref nmanyThen_, .int mtoldLet_, .ref ntSort_, .ref ntMany_, .ref nnumbers_])), (nknown_, .inl (cy 0, 2260, .inl (fknown_))), (nstack_, .inl (cy 0, 64, .inl (g200502_))), (nasked_, .inl (cy 0, 6, .inl (fasked_)))]) hX hE (sf_X11_done l D cy v10240_ v20011200_.toInt64 v20011270_.toInt64 ) (cwSA 3 htA wd_1715 wd_1713 wd_10 wd_1714 (by decide +kernel) ⟨by decide, by decide⟩) hP hD hS [] [0, 1, 2, 3] rfl rfl (by decide +kernel) rfl hl.1 rfl (Nat.le_of_ble_eq_true rfl) dX11_lawOf_129 (by decide) (fun v20011290_ W1 H locs hw hP hD hS => ?_)
        refine W.widen (k := 0) (n := 0) (by decide) (by decide) ?_
        obtain rfl := hw
        have hP : va_P D vwCl [(nm_, .inr (11, [.ref nknown_, .ref ntelling_, .ref nimages_, .ref nisImage_, .int mthrown_, .ref ntape_, .int mtaped_, .int mlength_, .int mhead_, .int mbegin_, .int mtoken_, .int mvalue_, .int mbad_, .int mbadPlace_, .int mfaultKind_, .int mfaultPlace_, .int mdeep_, .int mlawMany_, .int mlawAt_, .ref nstack_, .ref nasked_, .int mfell_, .int mfellIn_, .ref naside_, .int mstate_, .int mlanded_, .int mwaitFalls_, .int mwaitWeight_, .ref nfallsAfter_, .ref nfalling_, .ref ncomes_, .ref ngoesOn_, .ref nwayRow_, .ref nmany_, .ref nmanyThen_, .int mtoldLet_, .ref ntSort_, .ref ntMany_, .ref nnumbers_])), (nknown_, .inl (cy 0, 2260, .inl (fknown_))), (nstack_, .inl (cy 0, 64, .inl (g200502_))), (nasked_, .inl (cy 0, 6, .inl (fasked_)))] H := hP
        have hD := va_ca hP hD
        refine va_iast hx hb hK hP hD hS 2 0 rfl rfl (rg_in g7_ (by decide) (by decide)) dX11_lawOf_132 (fun H locs hP hD hS => ?_)
        have hP : va_P D vwCl [(nm_, .inr (11, [.ref nknown_, .ref ntelling_, .ref nimages_, .ref nisImage_, .int mthrown_, .ref ntape_, .int mtaped_, .int mlength_, .int mhead_, .int mbegin_, .int mtoken_, .int mvalue_, .int mbad_, .int mbadPlace_, .int mfaultKind_, .int mfaultPlace_, .int mdeep_, .int mlawMany_, .int mlawAt_, .ref nstack_, .ref nasked_, .int mfell_, .int mfellIn_, .ref naside_, .int mstate_, .int mlanded_, .int mwaitFalls_, .int mwaitWeight_, .ref nfallsAfter_, .ref nfalling_, .ref ncomes_, .ref ngoesOn_, .ref nwayRow_, .ref nmany_, .ref nmanyThen_, .int mtoldLet_, .ref ntSort_, .ref ntMany_, .ref nnumbers_])), (nknown_, .inl (cy 0, 2260, .inl (fknown_))), (nstack_, .inl (cy 0, 64, .inl (upd g200502_ (((v200501_ + (-1)) - 1).toNatClampNeg) v20011290_))), (nasked_, .inl (cy 0, 6, .inl (fasked_)))] H := hP
        have hD := va_ca hP hD
        refine lv_iinc (v := v200500_ + 1) (lv' := [(4, .int (v200500_ + 1)), (3, .int (v200501_ + (-1))), (5, .int v10240_), (0, .ref nm_), (1, .int 5), (2, .int 459)]) hx hb dX11_lawOf_133 hl (k := 2) rfl rfl (by decide) rfl (fun ls hl => ?_)
        have g10_ : rg (1) (900) (v200500_ + 1) := rg_add g2_ (rg_lit (by decide) : rg (1) (1) (1 : Int32)) (by decide) (by decide) (by decide) (by decide)
        refine lv_goto (tgt := 5) hx hb dX11_lawOf_136 (by decide) ?_
        exact ih5_ (v200500_ + 1, v200501_ + (-1), upd g200502_ (((v200501_ + (-1)) - 1).toNatClampNeg) v20011290_) _ _ ls ⟨(rg_w g10_ (by decide) (by decide)), (rg_w g6_ (by decide) (by decide)), (lw_s3 (by decide : (459 : Int32).toInt = ((459 : Nat) : Int)) (by decide) (rg_w g2_ (by decide) (by decide)) ev10240_ xi5_ g5_ (by decide) c10000077_ hq101_)⟩ (show (901 - (v200500_ + 1).toInt).toNat < (901 - v200500_.toInt).toNat from by rw [show (v200500_ + 1).toInt = v200500_.toInt + 1 from inc32 v200500_ (by have hq := (rv200500_).2; omega)]; have hq := (g2_).1; have hq2 := (g2_).2; omega) hP hD hS (lv_sub hl [0, 1, 3, 4, 5] rfl)
      · have g11_ : rg (18) (18) v10240_ := rg_eq c10000077_ (rg_lit (by decide) : rg (18) (18) (18 : Int32))
        have hq80_ := lw_2 (lw_N5 rfknown_ ev10120_) (by decide : (459 : Int32).toInt = ((459 : Nat) : Int)) (by decide) (rg_nle c13_) (rg_w g2_ (by decide) (by decide)) ev10240_ xi5_ g11_
        refine lv_aload_n hx hb dX11_lawOf_80 rfl (lv_at hl 3 rfl) ?_
        refine va_get (ci := 11) (v := .ref nstack_) (C := RX11) (T := TX11) (N := 39) hx hb htA in_X11 hown hK hP 0 rfl rfl 19 (by decide) (htA _ wd_1373) (fun _ h => h) rfl dX11_lawOf_81 ?_
        refine lv_iload_n hx hb dX11_lawOf_84 rfl (lv_at hl 2 rfl) ?_
        refine lv_iconst (v := 1) hx hb dX11_lawOf_85 (by decide) ?_
        refine lv_isub hx hb dX11_lawOf_86 ?_
        have g12_ : rg (0) (63) (v200501_ - 1) := rg_sub hq80_ (rg_lit (by decide) : rg (1) (1) (1 : Int32)) (by decide) (by decide) (by decide) (by decide)
        refine lv_iconst (v := 1) hx hb dX11_lawOf_87 (by decide) ?_
        refine lv_aload_n hx hb dX11_lawOf_88 rfl (lv_at hl 3 rfl) ?_
        refine va_get (ci := 11) (v := .ref nstack_) (C := RX11) (T := TX11) (N := 39) hx hb htA in_X11 hown hK hP 0 rfl rfl 19 (by decide) (htA _ wd_1373) (fun _ h => h) rfl dX11_lawOf_89 ?_
        refine lv_iload_n hx hb dX11_lawOf_92 rfl (lv_at hl 2 rfl) ?_
        refine lv_iconst (v := 1) hx hb dX11_lawOf_93 (by decide) ?_
        refine lv_isub hx hb dX11_lawOf_94 ?_
        refine va_iald hx hb hK hP 2 0 rfl rfl (rg_in g12_ (by decide) (by decide)) dX11_lawOf_95 ?_
        refine lv_topi (fun v30010950_ ev30010950_ => ?_)
        refine lv_isub hx hb dX11_lawOf_96 ?_
        refine va_iast hx hb hK hP hD hS 2 0 rfl rfl (rg_in g12_ (by decide) (by decide)) dX11_lawOf_97 (fun H locs hP hD hS => ?_)
        have hP : va_P D vwCl [(nm_, .inr (11, [.ref nknown_, .ref ntelling_, .ref nimages_, .ref nisImage_, .int mthrown_, .ref ntape_, .int mtaped_, .int mlength_, .int mhead_, .int mbegin_, .int mtoken_, .int mvalue_, .int mbad_, .int mbadPlace_, .int mfaultKind_, .int mfaultPlace_, .int mdeep_, .int mlawMany_, .int mlawAt_, .ref nstack_, .ref nasked_, .int mfell_, .int mfellIn_, .ref naside_, .int mstate_, .int mlanded_, .int mwaitFalls_, .int mwaitWeight_, .ref nfallsAfter_, .ref nfalling_, .ref ncomes_, .ref ngoesOn_, .ref nwayRow_, .ref nmany_, .ref nmanyThen_, .int mtoldLet_, .ref ntSort_, .ref ntMany_, .ref nnumbers_])), (nknown_, .inl (cy 0, 2260, .inl (fknown_))), (nstack_, .inl (cy 0, 64, .inl (upd g200502_ ((v200501_ - 1).toNatClampNeg) (1 - v30010950_)))), (nasked_, .inl (cy 0, 6, .inl (fasked_)))] H := hP
        have hD := va_ca hP hD
        refine lv_goto (tgt := 133) hx hb dX11_lawOf_98 (by decide) ?_
        refine lv_iinc (v := v200500_ + 1) (lv' := [(4, .int (v200500_ + 1)), (5, .int v10240_), (3, .int v200501_), (0, .ref nm_), (1, .int 5), (2, .int 459)]) hx hb dX11_lawOf_133 hl (k := 1) rfl rfl (by decide) rfl (fun ls hl => ?_)
        have g13_ : rg (1) (900) (v200500_ + 1) := rg_add g2_ (rg_lit (by decide) : rg (1) (1) (1 : Int32)) (by decide) (by decide) (by decide) (by decide)
        refine lv_goto (tgt := 5) hx hb dX11_lawOf_136 (by decide) ?_
        exact ih5_ (v200500_ + 1, v200501_, upd g200502_ ((v200501_ - 1).toNatClampNeg) (1 - v30010950_)) _ _ ls ⟨(rg_w g13_ (by decide) (by decide)), (rg_w hq80_ (by decide) (by decide)), (lw_s2 (by decide : (459 : Int32).toInt = ((459 : Nat) : Int)) (by decide) (rg_w g2_ (by decide) (by decide)) ev10240_ xi5_ g11_)⟩ (show (901 - (v200500_ + 1).toInt).toNat < (901 - v200500_.toInt).toNat from by rw [show (v200500_ + 1).toInt = v200500_.toInt + 1 from inc32 v200500_ (by have hq := (rv200500_).2; omega)]; have hq := (g2_).1; have hq2 := (g2_).2; omega) hP hD hS (lv_sub hl [0, 2, 3, 4, 5] rfl)
    · have g14_ : rg (100) (2147483647) v10240_ := rg_le2 (rg_nlt c31_) (rg_lit (by decide) : rg (100) (100) (100 : Int32)) (rg_any _) (by decide)
      have hq34_ := lw_1 (lw_N5 rfknown_ ev10120_) (by decide : (459 : Int32).toInt = ((459 : Nat) : Int)) (by decide) (rg_nle c13_) (rg_w g2_ (by decide) (by decide)) ev10240_ xi5_ g14_ (by decide)
      refine lv_aload_n hx hb dX11_lawOf_34 rfl (lv_at hl 3 rfl) ?_
      refine va_get (ci := 11) (v := .ref nstack_) (C := RX11) (T := TX11) (N := 39) hx hb htA in_X11 hown hK hP 0 rfl rfl 19 (by decide) (htA _ wd_1373) (fun _ h => h) rfl dX11_lawOf_35 ?_
      refine lv_iload_n hx hb dX11_lawOf_38 rfl (lv_at hl 2 rfl) ?_
      refine lv_iload hx hb dX11_lawOf_39 (lv_at hl 0 rfl) ?_
      refine lv_sipush (v := 1000) hx hb dX11_lawOf_41 (by decide) ?_
      refine joinT (D := D) (A := A) (pc := 66) (mL := 6) (τ := Int32) (WS := fun i => [(nm_, .inr (11, [.ref nknown_, .ref ntelling_, .ref nimages_, .ref nisImage_, .int mthrown_, .ref ntape_, .int mtaped_, .int mlength_, .int mhead_, .int mbegin_, .int mtoken_, .int mvalue_, .int mbad_, .int mbadPlace_, .int mfaultKind_, .int mfaultPlace_, .int mdeep_, .int mlawMany_, .int mlawAt_, .ref nstack_, .ref nasked_, .int mfell_, .int mfellIn_, .ref naside_, .int mstate_, .int mlanded_, .int mwaitFalls_, .int mwaitWeight_, .ref nfallsAfter_, .ref nfalling_, .ref ncomes_, .ref ngoesOn_, .ref nwayRow_, .ref nmany_, .ref nmanyThen_, .int mtoldLet_, .ref ntSort_, .ref ntMany_, .ref nnumbers_])), (nknown_, .inl (cy 0, 2260, .inl (fknown_))), (nstack_, .inl (cy 0, 64, .inl (g200502_))), (nasked_, .inl (cy 0, 6, .inl (fasked_)))]) (LV := fun i => [(5, .int v10240_), (4, .int v200500_), (3, .int v200501_), (0, .ref nm_), (1, .int 5), (2, .int 459)]) (ST := fun i => [.int i, .int v200501_, .ref nstack_]) (cells := 0) (slots := 0) (fun i => True) (fun v40206600_ H locs ls hI hP hD hS hl => ?_) (fun j66_ => ?_)
      · have hP : va_P D vwCl [(nm_, .inr (11, [.ref nknown_, .ref ntelling_, .ref nimages_, .ref nisImage_, .int mthrown_, .ref ntape_, .int mtaped_, .int mlength_, .int mhead_, .int mbegin_, .int mtoken_, .int mvalue_, .int mbad_, .int mbadPlace_, .int mfaultKind_, .int mfaultPlace_, .int mdeep_, .int mlawMany_, .int mlawAt_, .ref nstack_, .ref nasked_, .int mfell_, .int mfellIn_, .ref naside_, .int mstate_, .int mlanded_, .int mwaitFalls_, .int mwaitWeight_, .ref nfallsAfter_, .ref nfalling_, .ref ncomes_, .ref ngoesOn_, .ref nwayRow_, .ref nmany_, .ref nmanyThen_, .int mtoldLet_, .ref ntSort_, .ref ntMany_, .ref nnumbers_])), (nknown_, .inl (cy 0, 2260, .inl (fknown_))), (nstack_, .inl (cy 0, 64, .inl (g200502_))), (nasked_, .inl (cy 0, 6, .inl (fasked_)))] H := hP
        have hD := va_ca hP hD
        have hl : lv_has ls 6 [(5, .int v10240_), (4, .int v200500_), (3, .int v200501_), (0, .ref nm_), (1, .int 5), (2, .int 459)] := hl
        refine va_iast hx hb hK hP hD hS 2 0 rfl rfl (rg_in hq34_.1 (by decide) (by decide)) dX11_lawOf_66 (fun H locs hP hD hS => ?_)
        have hP : va_P D vwCl [(nm_, .inr (11, [.ref nknown_, .ref ntelling_, .ref nimages_, .ref nisImage_, .int mthrown_, .ref ntape_, .int mtaped_, .int mlength_, .int mhead_, .int mbegin_, .int mtoken_, .int mvalue_, .int mbad_, .int mbadPlace_, .int mfaultKind_, .int mfaultPlace_, .int mdeep_, .int mlawMany_, .int mlawAt_, .ref nstack_, .ref nasked_, .int mfell_, .int mfellIn_, .ref naside_, .int mstate_, .int mlanded_, .int mwaitFalls_, .int mwaitWeight_, .ref nfallsAfter_, .ref nfalling_, .ref ncomes_, .ref ngoesOn_, .ref nwayRow_, .ref nmany_, .ref nmanyThen_, .int mtoldLet_, .ref ntSort_, .ref ntMany_, .ref nnumbers_])), (nknown_, .inl (cy 0, 2260, .inl (fknown_))), (nstack_, .inl (cy 0, 64, .inl (upd g200502_ v200501_.toNatClampNeg v40206600_))), (nasked_, .inl (cy 0, 6, .inl (fasked_)))] H := hP
        have hD := va_ca hP hD
        refine lv_iinc (v := v200501_ + 1) (lv' := [(3, .int (v200501_ + 1)), (5, .int v10240_), (4, .int v200500_), (0, .ref nm_), (1, .int 5), (2, .int 459)]) hx hb dX11_lawOf_67 hl (k := 2) rfl rfl (by decide) rfl (fun ls hl => ?_)
        have g15_ : rg (1) (64) (v200501_ + 1) := rg_add hq34_.1 (rg_lit (by decide) : rg (1) (1) (1 : Int32)) (by decide) (by decide) (by decide) (by decide)
        refine lv_goto (tgt := 133) hx hb dX11_lawOf_70 (by decide) ?_
        refine lv_iinc (v := v200500_ + 1) (lv' := [(4, .int (v200500_ + 1)), (3, .int (v200501_ + 1)), (5, .int v10240_), (0, .ref nm_), (1, .int 5), (2, .int 459)]) hx hb dX11_lawOf_133 hl (k := 2) rfl rfl (by decide) rfl (fun ls hl => ?_)
        have g16_ : rg (1) (900) (v200500_ + 1) := rg_add g2_ (rg_lit (by decide) : rg (1) (1) (1 : Int32)) (by decide) (by decide) (by decide) (by decide)
        refine lv_goto (tgt := 5) hx hb dX11_lawOf_136 (by decide) ?_
        exact ih5_ (v200500_ + 1, v200501_ + 1, upd g200502_ v200501_.toNatClampNeg v40206600_) _ _ ls ⟨(rg_w g16_ (by decide) (by decide)), (rg_w g15_ (by decide) (by decide)), (lw_s1 (by decide : (459 : Int32).toInt = ((459 : Nat) : Int)) (by decide) (rg_w g2_ (by decide) (by decide)) ev10240_ xi5_ g14_ (by decide) hq34_.1)⟩ (show (901 - (v200500_ + 1).toInt).toNat < (901 - v200500_.toInt).toNat from by rw [show (v200500_ + 1).toInt = v200500_.toInt + 1 from inc32 v200500_ (by have hq := (rv200500_).2; omega)]; have hq := (g2_).1; have hq2 := (g2_).2; omega) hP hD hS (lv_sub hl [0, 1, 3, 4, 5] rfl)
      refine lv_icmp_lt (tgt := 56) hx hb dX11_lawOf_44 (by decide) (fun c40000044_ => ?_) (fun c40000044_ => ?_)
      · have g17_ : rg (100) (999) v10240_ := rg_lt1 c40000044_ g14_ (rg_lit (by decide) : rg (1000) (1000) (1000 : Int32)) (by decide)
        refine lv_aload_n hx hb dX11_lawOf_56 rfl (lv_at hl 3 rfl) ?_
        refine va_get (ci := 11) (v := .ref nasked_) (C := RX11) (T := TX11) (N := 39) hx hb htA in_X11 hown hK hP 0 rfl rfl 20 (by decide) (htA _ wd_1374) (fun _ h => h) rfl dX11_lawOf_57 ?_
        refine lv_iload hx hb dX11_lawOf_60 (lv_at hl 0 rfl) ?_
        refine lv_bipush (v := 100) hx hb dX11_lawOf_62 (by decide) ?_
        refine lv_isub hx hb dX11_lawOf_64 ?_
        have g18_ : rg (0) (5) (v10240_ - 100) := rg_subl (rg_nlt c31_) (hq34_.2 c40000044_) (rg_lit (by decide) : rg (100) (100) (100 : Int32)) (by decide) (by decide)
        refine va_iald hx hb hK hP 3 0 rfl rfl (rg_in g18_ (by decide) (by decide)) dX11_lawOf_65 ?_
        refine lv_topi (fun v40010650_ ev40010650_ => ?_)
        exact j66_ v40010650_ _ _ ls trivial hP hD hS (lv_sub hl [0, 1, 2, 3, 4, 5] rfl)
      · have g19_ : rg (1000) (2147483647) v10240_ := rg_le2 (rg_nlt c40000044_) (rg_lit (by decide) : rg (1000) (1000) (1000 : Int32)) g14_ (by decide)
        refine lv_iload hx hb dX11_lawOf_47 (lv_at hl 0 rfl) ?_
        refine lv_sipush (v := 1000) hx hb dX11_lawOf_49 (by decide) ?_
        refine lv_isub hx hb dX11_lawOf_52 ?_
        have g20_ : rg (0) (2147482647) (v10240_ - 1000) := rg_subl (rg_nlt c40000044_) g19_ (rg_lit (by decide) : rg (1000) (1000) (1000 : Int32)) (by decide) (by decide)
        refine lv_goto (tgt := 66) hx hb dX11_lawOf_53 (by decide) ?_
        exact j66_ (v10240_ - 1000) _ _ ls trivial hP hD hS (lv_sub hl [0, 1, 2, 3, 4, 5] rfl)
set_option maxHeartbeats 4000000 in
set_option maxRecDepth 100000 in
theorem sf_X11_lawOf_6 (l : Launch) (D : va_G) (cy : Nat → ClassId) (nm_ : Nat) (nknown_ : Nat) (ntelling_ : Nat) (nimages_ : Nat) (nisImage_ : Nat) (mthrown_ : Int32) (ntape_ : Nat) (mtaped_ : Int32) (mlength_ : Int32) (mhead_ : Int32) (mbegin_ : Int32) (mtoken_ : Int32) (mvalue_ : Int32) (mbad_ : Int32) (mbadPlace_ : Int32) (mfaultKind_ : Int32) (mfaultPlace_ : Int32) (mdeep_ : Int32) (mlawMany_ : Int32) (mlawAt_ : Int32) (nstack_ : Nat) (nasked_ : Nat) (mfell_ : Int32) (mfellIn_ : Int32) (naside_ : Nat) (mstate_ : Int32) (mlanded_ : Int32) (mwaitFalls_ : Int32) (mwaitWeight_ : Int32) (nfallsAfter_ : Nat) (nfalling_ : Nat) (ncomes_ : Nat) (ngoesOn_ : Nat) (nwayRow_ : Nat) (nmany_ : Nat) (nmanyThen_ : Nat) (mtoldLet_ : Int32) (ntSort_ : Nat) (ntMany_ : Nat) (nnumbers_ : Nat) (fknown_ : Nat → Int32) (fstack_ : Nat → Int32) (fasked_ : Nat → Int32) (hb_ : Int) (hhb_ : hb_ ≤ 1000000) (rmtaped_ : rg (0) (900) mtaped_) (rmlength_ : rg (0) (900) mlength_) (rmhead_ : rg (0) (900) mhead_) (rmbegin_ : rg (0) (900) mbegin_) (rfknown_ : KX hb_ fknown_) : Ci l yX11_lawOf cX11_lawOf 6 (some .int) { frames := 3, cells := 0, slots := 0, locals := 68 } D cy [.ref nm_, .int 6, .int 1359] [(nm_, .inr (11, [.ref nknown_, .ref ntelling_, .ref nimages_, .ref nisImage_, .int mthrown_, .ref ntape_, .int mtaped_, .int mlength_, .int mhead_, .int mbegin_, .int mtoken_, .int mvalue_, .int mbad_, .int mbadPlace_, .int mfaultKind_, .int mfaultPlace_, .int mdeep_, .int mlawMany_, .int mlawAt_, .ref nstack_, .ref nasked_, .int mfell_, .int mfellIn_, .ref naside_, .int mstate_, .int mlanded_, .int mwaitFalls_, .int mwaitWeight_, .ref nfallsAfter_, .ref nfalling_, .ref ncomes_, .ref ngoesOn_, .ref nwayRow_, .ref nmany_, .ref nmanyThen_, .int mtoldLet_, .ref ntSort_, .ref ntMany_, .ref nnumbers_])), (nknown_, .inl (cy 0, 2260, .inl (fknown_))), (nstack_, .inl (cy 0, 64, .inl (fstack_))), (nasked_, .inl (cy 0, 6, .inl (fasked_)))] (fun r W1 => ∃ (x0_ : Nat → Int32), W1 = [(nm_, .inr (11, [.ref nknown_, .ref ntelling_, .ref nimages_, .ref nisImage_, .int mthrown_, .ref ntape_, .int mtaped_, .int mlength_, .int mhead_, .int mbegin_, .int mtoken_, .int mvalue_, .int mbad_, .int mbadPlace_, .int mfaultKind_, .int mfaultPlace_, .int mdeep_, .int mlawMany_, .int mlawAt_, .ref nstack_, .ref nasked_, .int mfell_, .int mfellIn_, .ref naside_, .int mstate_, .int mlanded_, .int mwaitFalls_, .int mwaitWeight_, .ref nfallsAfter_, .ref nfalling_, .ref ncomes_, .ref ngoesOn_, .ref nwayRow_, .ref nmany_, .ref nmanyThen_, .int mtoldLet_, .ref ntSort_, .ref ntMany_, .ref nnumbers_])), (nknown_, .inl (cy 0, 2260, .inl (fknown_))), (nstack_, .inl (cy 0, 64, .inl (x0_))), (nasked_, .inl (cy 0, 6, .inl (fasked_)))]) := by
  refine Ci.of (by decide) (Nat.le_of_ble_eq_true rfl) ?_
  intro p e s m below meth c A ls hX hE hP hD hl
  obtain ⟨hx, hb, hr, hml, hown, htA, hlk⟩ := id hX
  have hK := hE.1
  have hS : va_S A s.heap s.heap [] := va_S.rf
  have hl : lv_has ls 6 [(0, .ref nm_), (1, .int 6), (2, .int 1359)] := hl
  refine lv_iconst (v := 0) hx hb dX11_lawOf_0 (by decide) ?_
  refine lv_istore_n (lv' := [(3, .int 0), (0, .ref nm_), (1, .int 6), (2, .int 1359)]) hx hb dX11_lawOf_1 rfl hl (by decide) rfl (fun ls hl => ?_)
  refine lv_iconst (v := 0) hx hb dX11_lawOf_2 (by decide) ?_
  refine lv_istore (lv' := [(4, .int 0), (3, .int 0), (0, .ref nm_), (1, .int 6), (2, .int 1359)]) hx hb dX11_lawOf_3 hl (by decide) rfl (fun ls hl => ?_)
  refine loopT (τ := Int32 × Int32 × (Nat → Int32)) (WS := fun i => [(nm_, .inr (11, [.ref nknown_, .ref ntelling_, .ref nimages_, .ref nisImage_, .int mthrown_, .ref ntape_, .int mtaped_, .int mlength_, .int mhead_, .int mbegin_, .int mtoken_, .int mvalue_, .int mbad_, .int mbadPlace_, .int mfaultKind_, .int mfaultPlace_, .int mdeep_, .int mlawMany_, .int mlawAt_, .ref nstack_, .ref nasked_, .int mfell_, .int mfellIn_, .ref naside_, .int mstate_, .int mlanded_, .int mwaitFalls_, .int mwaitWeight_, .ref nfallsAfter_, .ref nfalling_, .ref ncomes_, .ref ngoesOn_, .ref nwayRow_, .ref nmany_, .ref nmanyThen_, .int mtoldLet_, .ref ntSort_, .ref ntMany_, .ref nnumbers_])), (nknown_, .inl (cy 0, 2260, .inl (fknown_))), (nstack_, .inl (cy 0, 64, .inl (i.2.2))), (nasked_, .inl (cy 0, 6, .inl (fasked_)))]) (LV := fun i => [(4, .int i.1), (3, .int i.2.1), (0, .ref nm_), (1, .int 6), (2, .int 1359)]) (fun i => (901 - i.1.toInt).toNat) (fun i => rg (0) (900) i.1 ∧ rg (-1) (99) i.2.1 ∧ i.2.1.toInt = dpt fknown_ 1359 i.1.toNatClampNeg) ?_ (0, 0, fstack_) ⟨(rg_w (rg_lit (by decide) : rg (0) (0) (0 : Int32)) (by decide) (by decide)), (rg_w (rg_lit (by decide) : rg (0) (0) (0 : Int32)) (by decide) (by decide)), lw_0⟩ hP hD hS (lv_sub hl [0, 1, 2, 3, 4] rfl)
  intro i_ H locs ls hI ih5_ hP hD hS hl
  obtain ⟨v200500_, v200501_, g200502_⟩ := i_
  have hI : rg (0) (900) v200500_ ∧ rg (-1) (99) v200501_ ∧ v200501_.toInt = dpt fknown_ 1359 v200500_.toNatClampNeg := hI
  obtain ⟨rv200500_, rv200501_, xi5_⟩ := hI
  have hP : va_P D vwCl [(nm_, .inr (11, [.ref nknown_, .ref ntelling_, .ref nimages_, .ref nisImage_, .int mthrown_, .ref ntape_, .int mtaped_, .int mlength_, .int mhead_, .int mbegin_, .int mtoken_, .int mvalue_, .int mbad_, .int mbadPlace_, .int mfaultKind_, .int mfaultPlace_, .int mdeep_, .int mlawMany_, .int mlawAt_, .ref nstack_, .ref nasked_, .int mfell_, .int mfellIn_, .ref naside_, .int mstate_, .int mlanded_, .int mwaitFalls_, .int mwaitWeight_, .ref nfallsAfter_, .ref nfalling_, .ref ncomes_, .ref ngoesOn_, .ref nwayRow_, .ref nmany_, .ref nmanyThen_, .int mtoldLet_, .ref ntSort_, .ref ntMany_, .ref nnumbers_])), (nknown_, .inl (cy 0, 2260, .inl (fknown_))), (nstack_, .inl (cy 0, 64, .inl (g200502_))), (nasked_, .inl (cy 0, 6, .inl (fasked_)))] H := hP
  have hD := va_ca hP hD
  have hl : lv_has ls 6 [(4, .int v200500_), (3, .int v200501_), (0, .ref nm_), (1, .int 6), (2, .int 1359)] := hl
  refine lv_iload hx hb dX11_lawOf_5 (lv_at hl 0 rfl) ?_
  refine lv_aload_n hx hb dX11_lawOf_7 rfl (lv_at hl 2 rfl) ?_
  refine va_get (ci := 11) (v := .ref nknown_) (C := RX11) (T := TX11) (N := 39) hx hb htA in_X11 hown hK hP 0 rfl rfl 0 (by decide) (htA _ wd_1354) (fun _ h => h) rfl dX11_lawOf_8 ?_
  refine lv_iload_n hx hb dX11_lawOf_11 rfl (lv_at hl 3 rfl) ?_
  refine va_iald hx hb hK hP 1 0 rfl rfl (in_lit (by decide)) dX11_lawOf_12 ?_
  refine lv_topi (fun v10120_ ev10120_ => ?_)
  have g1_ : rg (0) (900) v10120_ := by rw [ev10120_]; exact KX_l kb_6 rfknown_ (rg_lit (by decide) : rg (6) (6) (6 : Int32)) (by decide) (by decide)
  refine lv_icmp_ge (tgt := 139) hx hb dX11_lawOf_13 (by decide) (fun c13_ => ?_) (fun c13_ => ?_)
  · refine lv_aload_n hx hb dX11_lawOf_139 rfl (lv_at hl 2 rfl) ?_
    refine va_get (ci := 11) (v := .ref nstack_) (C := RX11) (T := TX11) (N := 39) hx hb htA in_X11 hown hK hP 0 rfl rfl 19 (by decide) (htA _ wd_1373) (fun _ h => h) rfl dX11_lawOf_140 ?_
    refine lv_iconst (v := 0) hx hb dX11_lawOf_143 (by decide) ?_
    refine va_iald hx hb hK hP 2 0 rfl rfl (in_lit (by decide)) dX11_lawOf_144 ?_
    refine lv_topi (fun v11440_ ev11440_ => ?_)
    exact rI hX hE hP hD hS dX11_lawOf_145 (by decide) (by decide) ⟨g200502_, rfl⟩
  · have g2_ : rg (0) (899) v200500_ := rg_lt1 (rg_nle c13_) rv200500_ g1_ (by decide)
    have g3_ : rg (1) (900) v10120_ := rg_lt2 (rg_nle c13_) rv200500_ g1_ (by decide)
    refine lv_aload_n hx hb dX11_lawOf_16 rfl (lv_at hl 2 rfl) ?_
    refine va_get (ci := 11) (v := .ref nknown_) (C := RX11) (T := TX11) (N := 39) hx hb htA in_X11 hown hK hP 0 rfl rfl 0 (by decide) (htA _ wd_1354) (fun _ h => h) rfl dX11_lawOf_17 ?_
    refine lv_iload_n hx hb dX11_lawOf_20 rfl (lv_at hl 4 rfl) ?_
    refine lv_iload hx hb dX11_lawOf_21 (lv_at hl 0 rfl) ?_
    refine lv_iadd hx hb dX11_lawOf_23 ?_
    have g4_ : rg (1359) (2258) (1359 + v200500_) := rg_add (rg_lit (by decide) : rg (1359) (1359) (1359 : Int32)) g2_ (by decide) (by decide) (by decide) (by decide)
    refine va_iald hx hb hK hP 1 0 rfl rfl (rg_in g4_ (by decide) (by decide)) dX11_lawOf_24 ?_
    refine lv_topi (fun v10240_ ev10240_ => ?_)
    refine lv_istore (lv' := [(5, .int v10240_), (4, .int v200500_), (3, .int v200501_), (0, .ref nm_), (1, .int 6), (2, .int 1359)]) hx hb dX11_lawOf_25 hl (by decide) rfl (fun ls hl => ?_)
    refine lv_iload hx hb dX11_lawOf_27 (lv_at hl 0 rfl) ?_
    refine lv_bipush (v := 100) hx hb dX11_lawOf_29 (by decide) ?_
    refine lv_icmp_lt (tgt := 73) hx hb dX11_lawOf_31 (by decide) (fun c31_ => ?_) (fun c31_ => ?_)
    · have g5_ : rg (-2147483648) (99) v10240_ := rg_lt1 c31_ (rg_any _) (rg_lit (by decide) : rg (100) (100) (100 : Int32)) (by decide)
      refine lv_iload hx hb dX11_lawOf_73 (lv_at hl 0 rfl) ?_
      refine lv_bipush (v := 18) hx hb dX11_lawOf_75 (by decide) ?_
      refine lv_icmp_ne (tgt := 101) hx hb dX11_lawOf_77 (by decide) (fun c10000077_ => ?_) (fun c10000077_ => ?_)
      · have hq101_ := lw_3 (lw_N6 rfknown_ ev10120_) (by decide : (1359 : Int32).toInt = ((1359 : Nat) : Int)) (by decide) (rg_nle c13_) (rg_w g2_ (by decide) (by decide)) ev10240_ xi5_ g5_ (by decide) c10000077_
        refine lv_iinc (v := v200501_ + (-1)) (lv' := [(3, .int (v200501_ + (-1))), (5, .int v10240_), (4, .int v200500_), (0, .ref nm_), (1, .int 6), (2, .int 1359)]) hx hb dX11_lawOf_101 hl (k := 2) rfl rfl (by decide) rfl (fun ls hl => ?_)
        have g6_ : rg (1) (63) (v200501_ + (-1)) := rg_add hq101_ (rg_lit (by decide) : rg (-1) (-1) ((-1) : Int32)) (by decide) (by decide) (by decide) (by decide)
        refine lv_aload_n hx hb dX11_lawOf_104 rfl (lv_at hl 3 rfl) ?_
        refine va_get (ci := 11) (v := .ref nstack_) (C := RX11) (T := TX11) (N := 39) hx hb htA in_X11 hown hK hP 0 rfl rfl 19 (by decide) (htA _ wd_1373) (fun _ h => h) rfl dX11_lawOf_105 ?_
        refine lv_iload_n hx hb dX11_lawOf_108 rfl (lv_at hl 0 rfl) ?_
        refine lv_iconst (v := 1) hx hb dX11_lawOf_109 (by decide) ?_
        refine lv_isub hx hb dX11_lawOf_110 ?_
        have g7_ : rg (0) (62) ((v200501_ + (-1)) - 1) := rg_sub g6_ (rg_lit (by decide) : rg (1) (1) (1 : Int32)) (by decide) (by decide) (by decide) (by decide)
        refine lv_iload hx hb dX11_lawOf_111 (lv_at hl 1 rfl) ?_
        refine lv_aload_n hx hb dX11_lawOf_113 rfl (lv_at hl 3 rfl) ?_
        refine va_get (ci := 11) (v := .ref nstack_) (C := RX11) (T := TX11) (N := 39) hx hb htA in_X11 hown hK hP 0 rfl rfl 19 (by decide) (htA _ wd_1373) (fun _ h => h) rfl dX11_lawOf_114 ?_
        refine lv_iload_n hx hb dX11_lawOf_117 rfl (lv_at hl 0 rfl) ?_
        refine lv_iconst (v := 1) hx hb dX11_lawOf_118 (by decide) ?_
        refine lv_isub hx hb dX11_lawOf_119 ?_
        refine va_iald hx hb hK hP 2 0 rfl rfl (rg_in g7_ (by decide) (by decide)) dX11_lawOf_120 ?_
        refine lv_topi (fun v20011200_ ev20011200_ => ?_)
        refine lv_i2l hx hb dX11_lawOf_121 rfl ?_
        have g8_ : rl (-2147483648) (2147483647) v20011200_.toInt64 := rl_i2l (rg_any _)
        refine lv_aload_n hx hb dX11_lawOf_122 rfl (lv_at hl 3 rfl) ?_
        refine va_get (ci := 11) (v := .ref nstack_) (C := RX11) (T := TX11) (N := 39) hx hb htA in_X11 hown hK hP 0 rfl rfl 19 (by decide) (htA _ wd_1373) (fun _ h => h) rfl dX11_lawOf_123 ?_
        refine lv_iload_n hx hb dX11_lawOf_126 rfl (lv_at hl 0 rfl) ?_
        refine va_iald hx hb hK hP 2 0 rfl rfl (rg_in g6_ (by decide) (by decide)) dX11_lawOf_127 ?_
        refine lv_topi (fun v20011270_ ev20011270_ => ?_)
        refine lv_i2l hx hb dX11_lawOf_128 rfl ?_
        have g9_ : rl (-2147483648) (2147483647) v20011270_.toInt64 := rl_i2l (rg_any _)
        refine kSi (As := [.int v10240_, .long v20011200_.toInt64, .long v20011270_.toInt64]) (rest := [.int ((v200501_ + (-1)) - 1), .ref nstack_]) (wr := [(nm_, .inr (11, [.ref nknown_, .ref ntelling_, .ref nimages_, .ref nisImage_, .int mthrown_, .ref ntape_, .int mtaped_, .int mlength_, .int mhead_, .int mbegin_, .int mtoken_, .int mvalue_, .int mbad_, .int mbadPlace_, .int mfaultKind_, .int mfaultPlace_, .int mdeep_, .int mlawMany_, .int mlawAt_, .ref nstack_, .ref nasked_, .int mfell_, .int mfellIn_, .ref naside_, .int mstate_, .int mlanded_, .int mwaitFalls_, .int mwaitWeight_, .ref nfallsAfter_, .ref nfalling_, .ref ncomes_, .ref ngoesOn_, .ref nwayRow_, .ref nmany_, .ref nmanyThen_, .int mtoldLet_, .ref ntSort_, .ref ntMany_, .ref nnumbers_])), (nknown_, .inl (cy 0, 2260, .inl (fknown_))), (nstack_, .inl (cy 0, 64, .inl (g200502_))), (nasked_, .inl (cy 0, 6, .inl (fasked_)))]) hX hE (sf_X11_done l D cy v10240_ v20011200_.toInt64 v20011270_.toInt64 ) (cwSA 3 htA wd_1715 wd_1713 wd_10 wd_1714 (by decide +kernel) ⟨by decide, by decide⟩) hP hD hS [] [0, 1, 2, 3] rfl rfl (by decide +kernel) rfl hl.1 rfl (Nat.le_of_ble_eq_true rfl) dX11_lawOf_129 (by decide) (fun v20011290_ W1 H locs hw hP hD hS => ?_)
        refine W.widen (k := 0) (n := 0) (by decide) (by decide) ?_
        obtain rfl := hw
        have hP : va_P D vwCl [(nm_, .inr (11, [.ref nknown_, .ref ntelling_, .ref nimages_, .ref nisImage_, .int mthrown_, .ref ntape_, .int mtaped_, .int mlength_, .int mhead_, .int mbegin_, .int mtoken_, .int mvalue_, .int mbad_, .int mbadPlace_, .int mfaultKind_, .int mfaultPlace_, .int mdeep_, .int mlawMany_, .int mlawAt_, .ref nstack_, .ref nasked_, .int mfell_, .int mfellIn_, .ref naside_, .int mstate_, .int mlanded_, .int mwaitFalls_, .int mwaitWeight_, .ref nfallsAfter_, .ref nfalling_, .ref ncomes_, .ref ngoesOn_, .ref nwayRow_, .ref nmany_, .ref nmanyThen_, .int mtoldLet_, .ref ntSort_, .ref ntMany_, .ref nnumbers_])), (nknown_, .inl (cy 0, 2260, .inl (fknown_))), (nstack_, .inl (cy 0, 64, .inl (g200502_))), (nasked_, .inl (cy 0, 6, .inl (fasked_)))] H := hP
        have hD := va_ca hP hD
        refine va_iast hx hb hK hP hD hS 2 0 rfl rfl (rg_in g7_ (by decide) (by decide)) dX11_lawOf_132 (fun H locs hP hD hS => ?_)
        have hP : va_P D vwCl [(nm_, .inr (11, [.ref nknown_, .ref ntelling_, .ref nimages_, .ref nisImage_, .int mthrown_, .ref ntape_, .int mtaped_, .int mlength_, .int mhead_, .int mbegin_, .int mtoken_, .int mvalue_, .int mbad_, .int mbadPlace_, .int mfaultKind_, .int mfaultPlace_, .int mdeep_, .int mlawMany_, .int mlawAt_, .ref nstack_, .ref nasked_, .int mfell_, .int mfellIn_, .ref naside_, .int mstate_, .int mlanded_, .int mwaitFalls_, .int mwaitWeight_, .ref nfallsAfter_, .ref nfalling_, .ref ncomes_, .ref ngoesOn_, .ref nwayRow_, .ref nmany_, .ref nmanyThen_, .int mtoldLet_, .ref ntSort_, .ref ntMany_, .ref nnumbers_])), (nknown_, .inl (cy 0, 2260, .inl (fknown_))), (nstack_, .inl (cy 0, 64, .inl (upd g200502_ (((v200501_ + (-1)) - 1).toNatClampNeg) v20011290_))), (nasked_, .inl (cy 0, 6, .inl (fasked_)))] H := hP
        have hD := va_ca hP hD
        refine lv_iinc (v := v200500_ + 1) (lv' := [(4, .int (v200500_ + 1)), (3, .int (v200501_ + (-1))), (5, .int v10240_), (0, .ref nm_), (1, .int 6), (2, .int 1359)]) hx hb dX11_lawOf_133 hl (k := 2) rfl rfl (by decide) rfl (fun ls hl => ?_)
        have g10_ : rg (1) (900) (v200500_ + 1) := rg_add g2_ (rg_lit (by decide) : rg (1) (1) (1 : Int32)) (by decide) (by decide) (by decide) (by decide)
        refine lv_goto (tgt := 5) hx hb dX11_lawOf_136 (by decide) ?_
        exact ih5_ (v200500_ + 1, v200501_ + (-1), upd g200502_ (((v200501_ + (-1)) - 1).toNatClampNeg) v20011290_) _ _ ls ⟨(rg_w g10_ (by decide) (by decide)), (rg_w g6_ (by decide) (by decide)), (lw_s3 (by decide : (1359 : Int32).toInt = ((1359 : Nat) : Int)) (by decide) (rg_w g2_ (by decide) (by decide)) ev10240_ xi5_ g5_ (by decide) c10000077_ hq101_)⟩ (show (901 - (v200500_ + 1).toInt).toNat < (901 - v200500_.toInt).toNat from by rw [show (v200500_ + 1).toInt = v200500_.toInt + 1 from inc32 v200500_ (by have hq := (rv200500_).2; omega)]; have hq := (g2_).1; have hq2 := (g2_).2; omega) hP hD hS (lv_sub hl [0, 1, 3, 4, 5] rfl)
      · have g11_ : rg (18) (18) v10240_ := rg_eq c10000077_ (rg_lit (by decide) : rg (18) (18) (18 : Int32))
        have hq80_ := lw_2 (lw_N6 rfknown_ ev10120_) (by decide : (1359 : Int32).toInt = ((1359 : Nat) : Int)) (by decide) (rg_nle c13_) (rg_w g2_ (by decide) (by decide)) ev10240_ xi5_ g11_
        refine lv_aload_n hx hb dX11_lawOf_80 rfl (lv_at hl 3 rfl) ?_
        refine va_get (ci := 11) (v := .ref nstack_) (C := RX11) (T := TX11) (N := 39) hx hb htA in_X11 hown hK hP 0 rfl rfl 19 (by decide) (htA _ wd_1373) (fun _ h => h) rfl dX11_lawOf_81 ?_
        refine lv_iload_n hx hb dX11_lawOf_84 rfl (lv_at hl 2 rfl) ?_
        refine lv_iconst (v := 1) hx hb dX11_lawOf_85 (by decide) ?_
        refine lv_isub hx hb dX11_lawOf_86 ?_
        have g12_ : rg (0) (63) (v200501_ - 1) := rg_sub hq80_ (rg_lit (by decide) : rg (1) (1) (1 : Int32)) (by decide) (by decide) (by decide) (by decide)
        refine lv_iconst (v := 1) hx hb dX11_lawOf_87 (by decide) ?_
        refine lv_aload_n hx hb dX11_lawOf_88 rfl (lv_at hl 3 rfl) ?_
        refine va_get (ci := 11) (v := .ref nstack_) (C := RX11) (T := TX11) (N := 39) hx hb htA in_X11 hown hK hP 0 rfl rfl 19 (by decide) (htA _ wd_1373) (fun _ h => h) rfl dX11_lawOf_89 ?_
        refine lv_iload_n hx hb dX11_lawOf_92 rfl (lv_at hl 2 rfl) ?_
        refine lv_iconst (v := 1) hx hb dX11_lawOf_93 (by decide) ?_
        refine lv_isub hx hb dX11_lawOf_94 ?_
        refine va_iald hx hb hK hP 2 0 rfl rfl (rg_in g12_ (by decide) (by decide)) dX11_lawOf_95 ?_
        refine lv_topi (fun v30010950_ ev30010950_ => ?_)
        refine lv_isub hx hb dX11_lawOf_96 ?_
        refine va_iast hx hb hK hP hD hS 2 0 rfl rfl (rg_in g12_ (by decide) (by decide)) dX11_lawOf_97 (fun H locs hP hD hS => ?_)
        have hP : va_P D vwCl [(nm_, .inr (11, [.ref nknown_, .ref ntelling_, .ref nimages_, .ref nisImage_, .int mthrown_, .ref ntape_, .int mtaped_, .int mlength_, .int mhead_, .int mbegin_, .int mtoken_, .int mvalue_, .int mbad_, .int mbadPlace_, .int mfaultKind_, .int mfaultPlace_, .int mdeep_, .int mlawMany_, .int mlawAt_, .ref nstack_, .ref nasked_, .int mfell_, .int mfellIn_, .ref naside_, .int mstate_, .int mlanded_, .int mwaitFalls_, .int mwaitWeight_, .ref nfallsAfter_, .ref nfalling_, .ref ncomes_, .ref ngoesOn_, .ref nwayRow_, .ref nmany_, .ref nmanyThen_, .int mtoldLet_, .ref ntSort_, .ref ntMany_, .ref nnumbers_])), (nknown_, .inl (cy 0, 2260, .inl (fknown_))), (nstack_, .inl (cy 0, 64, .inl (upd g200502_ ((v200501_ - 1).toNatClampNeg) (1 - v30010950_)))), (nasked_, .inl (cy 0, 6, .inl (fasked_)))] H := hP
        have hD := va_ca hP hD
        refine lv_goto (tgt := 133) hx hb dX11_lawOf_98 (by decide) ?_
        refine lv_iinc (v := v200500_ + 1) (lv' := [(4, .int (v200500_ + 1)), (5, .int v10240_), (3, .int v200501_), (0, .ref nm_), (1, .int 6), (2, .int 1359)]) hx hb dX11_lawOf_133 hl (k := 1) rfl rfl (by decide) rfl (fun ls hl => ?_)
        have g13_ : rg (1) (900) (v200500_ + 1) := rg_add g2_ (rg_lit (by decide) : rg (1) (1) (1 : Int32)) (by decide) (by decide) (by decide) (by decide)
        refine lv_goto (tgt := 5) hx hb dX11_lawOf_136 (by decide) ?_
        exact ih5_ (v200500_ + 1, v200501_, upd g200502_ ((v200501_ - 1).toNatClampNeg) (1 - v30010950_)) _ _ ls ⟨(rg_w g13_ (by decide) (by decide)), (rg_w hq80_ (by decide) (by decide)), (lw_s2 (by decide : (1359 : Int32).toInt = ((1359 : Nat) : Int)) (by decide) (rg_w g2_ (by decide) (by decide)) ev10240_ xi5_ g11_)⟩ (show (901 - (v200500_ + 1).toInt).toNat < (901 - v200500_.toInt).toNat from by rw [show (v200500_ + 1).toInt = v200500_.toInt + 1 from inc32 v200500_ (by have hq := (rv200500_).2; omega)]; have hq := (g2_).1; have hq2 := (g2_).2; omega) hP hD hS (lv_sub hl [0, 2, 3, 4, 5] rfl)
    · have g14_ : rg (100) (2147483647) v10240_ := rg_le2 (rg_nlt c31_) (rg_lit (by decide) : rg (100) (100) (100 : Int32)) (rg_any _) (by decide)
      have hq34_ := lw_1 (lw_N6 rfknown_ ev10120_) (by decide : (1359 : Int32).toInt = ((1359 : Nat) : Int)) (by decide) (rg_nle c13_) (rg_w g2_ (by decide) (by decide)) ev10240_ xi5_ g14_ (by decide)
      refine lv_aload_n hx hb dX11_lawOf_34 rfl (lv_at hl 3 rfl) ?_
      refine va_get (ci := 11) (v := .ref nstack_) (C := RX11) (T := TX11) (N := 39) hx hb htA in_X11 hown hK hP 0 rfl rfl 19 (by decide) (htA _ wd_1373) (fun _ h => h) rfl dX11_lawOf_35 ?_
      refine lv_iload_n hx hb dX11_lawOf_38 rfl (lv_at hl 2 rfl) ?_
      refine lv_iload hx hb dX11_lawOf_39 (lv_at hl 0 rfl) ?_
      refine lv_sipush (v := 1000) hx hb dX11_lawOf_41 (by decide) ?_
      refine joinT (D := D) (A := A) (pc := 66) (mL := 6) (τ := Int32) (WS := fun i => [(nm_, .inr (11, [.ref nknown_, .ref ntelling_, .ref nimages_, .ref nisImage_, .int mthrown_, .ref ntape_, .int mtaped_, .int mlength_, .int mhead_, .int mbegin_, .int mtoken_, .int mvalue_, .int mbad_, .int mbadPlace_, .int mfaultKind_, .int mfaultPlace_, .int mdeep_, .int mlawMany_, .int mlawAt_, .ref nstack_, .ref nasked_, .int mfell_, .int mfellIn_, .ref naside_, .int mstate_, .int mlanded_, .int mwaitFalls_, .int mwaitWeight_, .ref nfallsAfter_, .ref nfalling_, .ref ncomes_, .ref ngoesOn_, .ref nwayRow_, .ref nmany_, .ref nmanyThen_, .int mtoldLet_, .ref ntSort_, .ref ntMany_, .ref nnumbers_])), (nknown_, .inl (cy 0, 2260, .inl (fknown_))), (nstack_, .inl (cy 0, 64, .inl (g200502_))), (nasked_, .inl (cy 0, 6, .inl (fasked_)))]) (LV := fun i => [(5, .int v10240_), (4, .int v200500_), (3, .int v200501_), (0, .ref nm_), (1, .int 6), (2, .int 1359)]) (ST := fun i => [.int i, .int v200501_, .ref nstack_]) (cells := 0) (slots := 0) (fun i => True) (fun v40206600_ H locs ls hI hP hD hS hl => ?_) (fun j66_ => ?_)
      · have hP : va_P D vwCl [(nm_, .inr (11, [.ref nknown_, .ref ntelling_, .ref nimages_, .ref nisImage_, .int mthrown_, .ref ntape_, .int mtaped_, .int mlength_, .int mhead_, .int mbegin_, .int mtoken_, .int mvalue_, .int mbad_, .int mbadPlace_, .int mfaultKind_, .int mfaultPlace_, .int mdeep_, .int mlawMany_, .int mlawAt_, .ref nstack_, .ref nasked_, .int mfell_, .int mfellIn_, .ref naside_, .int mstate_, .int mlanded_, .int mwaitFalls_, .int mwaitWeight_, .ref nfallsAfter_, .ref nfalling_, .ref ncomes_, .ref ngoesOn_, .ref nwayRow_, .ref nmany_, .ref nmanyThen_, .int mtoldLet_, .ref ntSort_, .ref ntMany_, .ref nnumbers_])), (nknown_, .inl (cy 0, 2260, .inl (fknown_))), (nstack_, .inl (cy 0, 64, .inl (g200502_))), (nasked_, .inl (cy 0, 6, .inl (fasked_)))] H := hP
        have hD := va_ca hP hD
        have hl : lv_has ls 6 [(5, .int v10240_), (4, .int v200500_), (3, .int v200501_), (0, .ref nm_), (1, .int 6), (2, .int 1359)] := hl
        refine va_iast hx hb hK hP hD hS 2 0 rfl rfl (rg_in hq34_.1 (by decide) (by decide)) dX11_lawOf_66 (fun H locs hP hD hS => ?_)
        have hP : va_P D vwCl [(nm_, .inr (11, [.ref nknown_, .ref ntelling_, .ref nimages_, .ref nisImage_, .int mthrown_, .ref ntape_, .int mtaped_, .int mlength_, .int mhead_, .int mbegin_, .int mtoken_, .int mvalue_, .int mbad_, .int mbadPlace_, .int mfaultKind_, .int mfaultPlace_, .int mdeep_, .int mlawMany_, .int mlawAt_, .ref nstack_, .ref nasked_, .int mfell_, .int mfellIn_, .ref naside_, .int mstate_, .int mlanded_, .int mwaitFalls_, .int mwaitWeight_, .ref nfallsAfter_, .ref nfalling_, .ref ncomes_, .ref ngoesOn_, .ref nwayRow_, .ref nmany_, .ref nmanyThen_, .int mtoldLet_, .ref ntSort_, .ref ntMany_, .ref nnumbers_])), (nknown_, .inl (cy 0, 2260, .inl (fknown_))), (nstack_, .inl (cy 0, 64, .inl (upd g200502_ v200501_.toNatClampNeg v40206600_))), (nasked_, .inl (cy 0, 6, .inl (fasked_)))] H := hP
        have hD := va_ca hP hD
        refine lv_iinc (v := v200501_ + 1) (lv' := [(3, .int (v200501_ + 1)), (5, .int v10240_), (4, .int v200500_), (0, .ref nm_), (1, .int 6), (2, .int 1359)]) hx hb dX11_lawOf_67 hl (k := 2) rfl rfl (by decide) rfl (fun ls hl => ?_)
        have g15_ : rg (1) (64) (v200501_ + 1) := rg_add hq34_.1 (rg_lit (by decide) : rg (1) (1) (1 : Int32)) (by decide) (by decide) (by decide) (by decide)
        refine lv_goto (tgt := 133) hx hb dX11_lawOf_70 (by decide) ?_
        refine lv_iinc (v := v200500_ + 1) (lv' := [(4, .int (v200500_ + 1)), (3, .int (v200501_ + 1)), (5, .int v10240_), (0, .ref nm_), (1, .int 6), (2, .int 1359)]) hx hb dX11_lawOf_133 hl (k := 2) rfl rfl (by decide) rfl (fun ls hl => ?_)
        have g16_ : rg (1) (900) (v200500_ + 1) := rg_add g2_ (rg_lit (by decide) : rg (1) (1) (1 : Int32)) (by decide) (by decide) (by decide) (by decide)
        refine lv_goto (tgt := 5) hx hb dX11_lawOf_136 (by decide) ?_
        exact ih5_ (v200500_ + 1, v200501_ + 1, upd g200502_ v200501_.toNatClampNeg v40206600_) _ _ ls ⟨(rg_w g16_ (by decide) (by decide)), (rg_w g15_ (by decide) (by decide)), (lw_s1 (by decide : (1359 : Int32).toInt = ((1359 : Nat) : Int)) (by decide) (rg_w g2_ (by decide) (by decide)) ev10240_ xi5_ g14_ (by decide) hq34_.1)⟩ (show (901 - (v200500_ + 1).toInt).toNat < (901 - v200500_.toInt).toNat from by rw [show (v200500_ + 1).toInt = v200500_.toInt + 1 from inc32 v200500_ (by have hq := (rv200500_).2; omega)]; have hq := (g2_).1; have hq2 := (g2_).2; omega) hP hD hS (lv_sub hl [0, 1, 3, 4, 5] rfl)
      refine lv_icmp_lt (tgt := 56) hx hb dX11_lawOf_44 (by decide) (fun c40000044_ => ?_) (fun c40000044_ => ?_)
      · have g17_ : rg (100) (999) v10240_ := rg_lt1 c40000044_ g14_ (rg_lit (by decide) : rg (1000) (1000) (1000 : Int32)) (by decide)
        refine lv_aload_n hx hb dX11_lawOf_56 rfl (lv_at hl 3 rfl) ?_
        refine va_get (ci := 11) (v := .ref nasked_) (C := RX11) (T := TX11) (N := 39) hx hb htA in_X11 hown hK hP 0 rfl rfl 20 (by decide) (htA _ wd_1374) (fun _ h => h) rfl dX11_lawOf_57 ?_
        refine lv_iload hx hb dX11_lawOf_60 (lv_at hl 0 rfl) ?_
        refine lv_bipush (v := 100) hx hb dX11_lawOf_62 (by decide) ?_
        refine lv_isub hx hb dX11_lawOf_64 ?_
        have g18_ : rg (0) (5) (v10240_ - 100) := rg_subl (rg_nlt c31_) (hq34_.2 c40000044_) (rg_lit (by decide) : rg (100) (100) (100 : Int32)) (by decide) (by decide)
        refine va_iald hx hb hK hP 3 0 rfl rfl (rg_in g18_ (by decide) (by decide)) dX11_lawOf_65 ?_
        refine lv_topi (fun v40010650_ ev40010650_ => ?_)
        exact j66_ v40010650_ _ _ ls trivial hP hD hS (lv_sub hl [0, 1, 2, 3, 4, 5] rfl)
      · have g19_ : rg (1000) (2147483647) v10240_ := rg_le2 (rg_nlt c40000044_) (rg_lit (by decide) : rg (1000) (1000) (1000 : Int32)) g14_ (by decide)
        refine lv_iload hx hb dX11_lawOf_47 (lv_at hl 0 rfl) ?_
        refine lv_sipush (v := 1000) hx hb dX11_lawOf_49 (by decide) ?_
        refine lv_isub hx hb dX11_lawOf_52 ?_
        have g20_ : rg (0) (2147482647) (v10240_ - 1000) := rg_subl (rg_nlt c40000044_) g19_ (rg_lit (by decide) : rg (1000) (1000) (1000 : Int32)) (by decide) (by decide)
        refine lv_goto (tgt := 66) hx hb dX11_lawOf_53 (by decide) ?_
        exact j66_ (v10240_ - 1000) _ _ ls trivial hP hD hS (lv_sub hl [0, 1, 2, 3, 4, 5] rfl)
