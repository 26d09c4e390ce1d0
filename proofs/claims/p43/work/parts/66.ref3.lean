set_option maxHeartbeats 4000000 in
set_option maxRecDepth 100000 in
theorem sf_X11_putsAside (l : Launch) (D : va_G) (cy : Nat → ClassId) (nm_ : Nat) (nknown_ : Nat) (ntelling_ : Nat) (nimages_ : Nat) (nisImage_ : Nat) (mthrown_ : Int32) (ntape_ : Nat) (mtaped_ : Int32) (mlength_ : Int32) (mhead_ : Int32) (mbegin_ : Int32) (mtoken_ : Int32) (mvalue_ : Int32) (mbad_ : Int32) (mbadPlace_ : Int32) (mfaultKind_ : Int32) (mfaultPlace_ : Int32) (mdeep_ : Int32) (mlawMany_ : Int32) (mlawAt_ : Int32) (nstack_ : Nat) (nasked_ : Nat) (mfell_ : Int32) (mfellIn_ : Int32) (naside_ : Nat) (mstate_ : Int32) (mlanded_ : Int32) (mwaitFalls_ : Int32) (mwaitWeight_ : Int32) (nfallsAfter_ : Nat) (nfalling_ : Nat) (ncomes_ : Nat) (ngoesOn_ : Nat) (nwayRow_ : Nat) (nmany_ : Nat) (nmanyThen_ : Nat) (mtoldLet_ : Int32) (ntSort_ : Nat) (ntMany_ : Nat) (nnumbers_ : Nat) (fknown_ : Nat → Int32) (faside_ : Nat → Int32) (C_ : Int) (L_ : Int) (hb_ : Int) (ha_ : Int) (hc_ : Int) (hha_ : -2000000 ≤ ha_) (hhc_ : hc_ ≤ 4000000) (hhb_ : hb_ ≤ 1000000) (rmtaped_ : rg (0) (900) mtaped_) (rmlength_ : rg (0) (900) mlength_) (rmhead_ : rg (0) (900) mhead_) (rmbegin_ : rg (0) (900) mbegin_) (rfknown_ : KX C_ L_ ha_ hc_ hb_ fknown_) : Cv l yX11_putsAside cX11_putsAside 2 none { frames := 0, cells := 0, slots := 0, locals := 0 } D cy [.ref nm_] [(nm_, .inr (11, [.ref nknown_, .ref ntelling_, .ref nimages_, .ref nisImage_, .int mthrown_, .ref ntape_, .int mtaped_, .int mlength_, .int mhead_, .int mbegin_, .int mtoken_, .int mvalue_, .int mbad_, .int mbadPlace_, .int mfaultKind_, .int mfaultPlace_, .int mdeep_, .int mlawMany_, .int mlawAt_, .ref nstack_, .ref nasked_, .int mfell_, .int mfellIn_, .ref naside_, .int mstate_, .int mlanded_, .int mwaitFalls_, .int mwaitWeight_, .ref nfallsAfter_, .ref nfalling_, .ref ncomes_, .ref ngoesOn_, .ref nwayRow_, .ref nmany_, .ref nmanyThen_, .int mtoldLet_, .ref ntSort_, .ref ntMany_, .ref nnumbers_])), (nknown_, .inl (cy 0, 2260, .inl (fknown_))), (naside_, .inl (cy 0, 37, .inl (faside_)))] (fun W1 => ∃ (x0_ : Nat → Int32), CP8 x0_ fknown_ ∧ W1 = [(nm_, .inr (11, [.ref nknown_, .ref ntelling_, .ref nimages_, .ref nisImage_, .int mthrown_, .ref ntape_, .int mtaped_, .int mlength_, .int mhead_, .int mbegin_, .int mtoken_, .int mvalue_, .int mbad_, .int mbadPlace_, .int mfaultKind_, .int mfaultPlace_, .int mdeep_, .int mlawMany_, .int mlawAt_, .ref nstack_, .ref nasked_, .int mfell_, .int mfellIn_, .ref naside_, .int mstate_, .int mlanded_, .int mwaitFalls_, .int mwaitWeight_, .ref nfallsAfter_, .ref nfalling_, .ref ncomes_, .ref ngoesOn_, .ref nwayRow_, .ref nmany_, .ref nmanyThen_, .int mtoldLet_, .ref ntSort_, .ref ntMany_, .ref nnumbers_])), (nknown_, .inl (cy 0, 2260, .inl (fknown_))), (naside_, .inl (cy 0, 37, .inl (x0_)))]) := by
  refine Cv.of (by decide) (Nat.le_of_ble_eq_true rfl) ?_
  intro p e s m below meth c A ls hX hE hP hD hl hin
  obtain ⟨hx, hb, hr, hml, hown, htA, hlk⟩ := id hX
  have hK := hE.1
  have hS : va_S A s.heap s.heap [] := va_S.rf
  have hl : lv_has ls 2 [(0, .ref nm_)] := hl
  refine lv_iconst (v := 0) hx hb dX11_putsAside_0 (by decide) ?_
  refine lv_istore_n (lv' := [(1, .int 0), (0, .ref nm_)]) hx hb dX11_putsAside_1 rfl hl (by decide) rfl (fun ls hl => ?_)
  refine loopT (τ := Int32 × (Nat → Int32)) (WS := fun i => [(nm_, .inr (11, [.ref nknown_, .ref ntelling_, .ref nimages_, .ref nisImage_, .int mthrown_, .ref ntape_, .int mtaped_, .int mlength_, .int mhead_, .int mbegin_, .int mtoken_, .int mvalue_, .int mbad_, .int mbadPlace_, .int mfaultKind_, .int mfaultPlace_, .int mdeep_, .int mlawMany_, .int mlawAt_, .ref nstack_, .ref nasked_, .int mfell_, .int mfellIn_, .ref naside_, .int mstate_, .int mlanded_, .int mwaitFalls_, .int mwaitWeight_, .ref nfallsAfter_, .ref nfalling_, .ref ncomes_, .ref ngoesOn_, .ref nwayRow_, .ref nmany_, .ref nmanyThen_, .int mtoldLet_, .ref ntSort_, .ref ntMany_, .ref nnumbers_])), (nknown_, .inl (cy 0, 2260, .inl (fknown_))), (naside_, .inl (cy 0, 37, .inl (i.2)))]) (LV := fun i => [(1, .int i.1), (0, .ref nm_)]) (fun i => (38 - i.1.toInt).toNat) (fun i => rg (0) (37) i.1 ∧ i.2 = cp fknown_ faside_ 8 0 i.1.toNatClampNeg) ?_ (0, faside_) ⟨(rg_w (rg_lit (by decide) : rg (0) (0) (0 : Int32)) (by decide) (by decide)), pa_0⟩ hP hD hS (lv_sub hl [0, 1] rfl)
  intro i_ H locs ls hI ih2_ hP hD hS hl
  obtain ⟨v200200_, g200201_⟩ := i_
  have hI : rg (0) (37) v200200_ ∧ g200201_ = cp fknown_ faside_ 8 0 v200200_.toNatClampNeg := hI
  obtain ⟨rv200200_, xi2_⟩ := hI
  have hP : va_P D vwCl [(nm_, .inr (11, [.ref nknown_, .ref ntelling_, .ref nimages_, .ref nisImage_, .int mthrown_, .ref ntape_, .int mtaped_, .int mlength_, .int mhead_, .int mbegin_, .int mtoken_, .int mvalue_, .int mbad_, .int mbadPlace_, .int mfaultKind_, .int mfaultPlace_, .int mdeep_, .int mlawMany_, .int mlawAt_, .ref nstack_, .ref nasked_, .int mfell_, .int mfellIn_, .ref naside_, .int mstate_, .int mlanded_, .int mwaitFalls_, .int mwaitWeight_, .ref nfallsAfter_, .ref nfalling_, .ref ncomes_, .ref ngoesOn_, .ref nwayRow_, .ref nmany_, .ref nmanyThen_, .int mtoldLet_, .ref ntSort_, .ref ntMany_, .ref nnumbers_])), (nknown_, .inl (cy 0, 2260, .inl (fknown_))), (naside_, .inl (cy 0, 37, .inl (g200201_)))] H := hP
  have hD := va_ca hP hD
  have hl : lv_has ls 2 [(1, .int v200200_), (0, .ref nm_)] := hl
  refine lv_iload_n hx hb dX11_putsAside_2 rfl (lv_at hl 0 rfl) ?_
  refine lv_bipush (v := 37) hx hb dX11_putsAside_3 (by decide) ?_
  refine lv_icmp_ge (tgt := 29) hx hb dX11_putsAside_5 (by decide) (fun c5_ => ?_) (fun c5_ => ?_)
  · have g1_ : rg (37) (37) v200200_ := rg_le2 c5_ (rg_lit (by decide) : rg (37) (37) (37 : Int32)) rv200200_ (by decide)
    exact rV hX hE hP hD hS dX11_putsAside_29 (by decide) (by decide) ⟨g200201_, (pa_e xi2_ g1_ (by decide) (by decide)), rfl⟩
  · have g2_ : rg (0) (36) v200200_ := rg_lt1 (rg_nle c5_) rv200200_ (rg_lit (by decide) : rg (37) (37) (37 : Int32)) (by decide)
    refine lv_aload_n hx hb dX11_putsAside_8 rfl (lv_at hl 1 rfl) ?_
    refine va_get (ci := 11) (v := .ref naside_) (C := RX11) (T := TX11) (N := 39) hx hb htA in_X11 hown hK hP 0 rfl rfl 23 (by decide) (htA _ wd_1377) (fun _ h => h) rfl dX11_putsAside_9 ?_
    refine lv_iload_n hx hb dX11_putsAside_12 rfl (lv_at hl 0 rfl) ?_
    refine lv_aload_n hx hb dX11_putsAside_13 rfl (lv_at hl 1 rfl) ?_
    refine va_get (ci := 11) (v := .ref nknown_) (C := RX11) (T := TX11) (N := 39) hx hb htA in_X11 hown hK hP 0 rfl rfl 0 (by decide) (htA _ wd_1354) (fun _ h => h) rfl dX11_putsAside_14 ?_
    refine lv_bipush (v := 8) hx hb dX11_putsAside_17 (by decide) ?_
    refine lv_iload_n hx hb dX11_putsAside_19 rfl (lv_at hl 0 rfl) ?_
    refine lv_iadd hx hb dX11_putsAside_20 ?_
    have g3_ : rg (8) (44) (8 + v200200_) := rg_add (rg_lit (by decide) : rg (8) (8) (8 : Int32)) g2_ (by decide) (by decide) (by decide) (by decide)
    refine va_iald hx hb hK hP 1 0 rfl rfl (rg_in g3_ (by decide) (by decide)) dX11_putsAside_21 ?_
    refine lv_topi (fun v10210_ ev10210_ => ?_)
    refine va_iast hx hb hK hP hD hS 2 0 rfl rfl (rg_in g2_ (by decide) (by decide)) dX11_putsAside_22 (fun H locs hP hD hS => ?_)
    have hP : va_P D vwCl [(nm_, .inr (11, [.ref nknown_, .ref ntelling_, .ref nimages_, .ref nisImage_, .int mthrown_, .ref ntape_, .int mtaped_, .int mlength_, .int mhead_, .int mbegin_, .int mtoken_, .int mvalue_, .int mbad_, .int mbadPlace_, .int mfaultKind_, .int mfaultPlace_, .int mdeep_, .int mlawMany_, .int mlawAt_, .ref nstack_, .ref nasked_, .int mfell_, .int mfellIn_, .ref naside_, .int mstate_, .int mlanded_, .int mwaitFalls_, .int mwaitWeight_, .ref nfallsAfter_, .ref nfalling_, .ref ncomes_, .ref ngoesOn_, .ref nwayRow_, .ref nmany_, .ref nmanyThen_, .int mtoldLet_, .ref ntSort_, .ref ntMany_, .ref nnumbers_])), (nknown_, .inl (cy 0, 2260, .inl (fknown_))), (naside_, .inl (cy 0, 37, .inl (upd g200201_ v200200_.toNatClampNeg v10210_)))] H := hP
    have hD := va_ca hP hD
    refine lv_iinc (v := v200200_ + 1) (lv' := [(1, .int (v200200_ + 1)), (0, .ref nm_)]) hx hb dX11_putsAside_23 hl (k := 0) rfl rfl (by decide) rfl (fun ls hl => ?_)
    have g4_ : rg (1) (37) (v200200_ + 1) := rg_add g2_ (rg_lit (by decide) : rg (1) (1) (1 : Int32)) (by decide) (by decide) (by decide) (by decide)
    refine lv_goto (tgt := 2) hx hb dX11_putsAside_26 (by decide) ?_
    exact ih2_ (v200200_ + 1, upd g200201_ v200200_.toNatClampNeg v10210_) _ _ ls ⟨(rg_w g4_ (by decide) (by decide)), (pa_s xi2_ (rg_w g2_ (by decide) (by decide)) ev10210_)⟩ (show (38 - (v200200_ + 1).toInt).toNat < (38 - v200200_.toInt).toNat from by rw [show (v200200_ + 1).toInt = v200200_.toInt + 1 from inc32 v200200_ (by have hq := (rv200200_).2; omega)]; have hq := (g2_).1; have hq2 := (g2_).2; omega) hP hD hS (lv_sub hl [0, 1] rfl)
set_option maxHeartbeats 4000000 in
set_option maxRecDepth 100000 in
theorem sf_X11_putsBack (l : Launch) (D : va_G) (cy : Nat → ClassId) (nm_ : Nat) (nknown_ : Nat) (ntelling_ : Nat) (nimages_ : Nat) (nisImage_ : Nat) (mthrown_ : Int32) (ntape_ : Nat) (mtaped_ : Int32) (mlength_ : Int32) (mhead_ : Int32) (mbegin_ : Int32) (mtoken_ : Int32) (mvalue_ : Int32) (mbad_ : Int32) (mbadPlace_ : Int32) (mfaultKind_ : Int32) (mfaultPlace_ : Int32) (mdeep_ : Int32) (mlawMany_ : Int32) (mlawAt_ : Int32) (nstack_ : Nat) (nasked_ : Nat) (mfell_ : Int32) (mfellIn_ : Int32) (naside_ : Nat) (mstate_ : Int32) (mlanded_ : Int32) (mwaitFalls_ : Int32) (mwaitWeight_ : Int32) (nfallsAfter_ : Nat) (nfalling_ : Nat) (ncomes_ : Nat) (ngoesOn_ : Nat) (nwayRow_ : Nat) (nmany_ : Nat) (nmanyThen_ : Nat) (mtoldLet_ : Int32) (ntSort_ : Nat) (ntMany_ : Nat) (nnumbers_ : Nat) (fknown_ : Nat → Int32) (faside_ : Nat → Int32) (C_ : Int) (L_ : Int) (hb_ : Int) (ha_ : Int) (hc_ : Int) (g0_ : Nat → Int32) (hha_ : -2000000 ≤ ha_) (hhc_ : hc_ ≤ 4000000) (hhb_ : hb_ ≤ 1000000) (rmtaped_ : rg (0) (900) mtaped_) (rmlength_ : rg (0) (900) mlength_) (rmhead_ : rg (0) (900) mhead_) (rmbegin_ : rg (0) (900) mbegin_) (rfknown_ : KX C_ L_ ha_ hc_ hb_ fknown_) (hcp_ : CP8 faside_ g0_) (hsu_ : SU g0_ fknown_) : Cv l yX11_putsBack cX11_putsBack 2 none { frames := 0, cells := 0, slots := 0, locals := 0 } D cy [.ref nm_] [(nm_, .inr (11, [.ref nknown_, .ref ntelling_, .ref nimages_, .ref nisImage_, .int mthrown_, .ref ntape_, .int mtaped_, .int mlength_, .int mhead_, .int mbegin_, .int mtoken_, .int mvalue_, .int mbad_, .int mbadPlace_, .int mfaultKind_, .int mfaultPlace_, .int mdeep_, .int mlawMany_, .int mlawAt_, .ref nstack_, .ref nasked_, .int mfell_, .int mfellIn_, .ref naside_, .int mstate_, .int mlanded_, .int mwaitFalls_, .int mwaitWeight_, .ref nfallsAfter_, .ref nfalling_, .ref ncomes_, .ref ngoesOn_, .ref nwayRow_, .ref nmany_, .ref nmanyThen_, .int mtoldLet_, .ref ntSort_, .ref ntMany_, .ref nnumbers_])), (nknown_, .inl (cy 0, 2260, .inl (fknown_))), (naside_, .inl (cy 0, 37, .inl (faside_)))] (fun W1 => W1 = [(nm_, .inr (11, [.ref nknown_, .ref ntelling_, .ref nimages_, .ref nisImage_, .int mthrown_, .ref ntape_, .int mtaped_, .int mlength_, .int mhead_, .int mbegin_, .int mtoken_, .int mvalue_, .int mbad_, .int mbadPlace_, .int mfaultKind_, .int mfaultPlace_, .int mdeep_, .int mlawMany_, .int mlawAt_, .ref nstack_, .ref nasked_, .int mfell_, .int mfellIn_, .ref naside_, .int mstate_, .int mlanded_, .int mwaitFalls_, .int mwaitWeight_, .ref nfallsAfter_, .ref nfalling_, .ref ncomes_, .ref ngoesOn_, .ref nwayRow_, .ref nmany_, .ref nmanyThen_, .int mtoldLet_, .ref ntSort_, .ref ntMany_, .ref nnumbers_])), (nknown_, .inl (cy 0, 2260, .inl (g0_))), (naside_, .inl (cy 0, 37, .inl (faside_)))]) := by
  refine Cv.of (by decide) (Nat.le_of_ble_eq_true rfl) ?_
  intro p e s m below meth c A ls hX hE hP hD hl hin
  obtain ⟨hx, hb, hr, hml, hown, htA, hlk⟩ := id hX
  have hK := hE.1
  have hS : va_S A s.heap s.heap [] := va_S.rf
  have hl : lv_has ls 2 [(0, .ref nm_)] := hl
  refine lv_iconst (v := 0) hx hb dX11_putsBack_0 (by decide) ?_
  refine lv_istore_n (lv' := [(1, .int 0), (0, .ref nm_)]) hx hb dX11_putsBack_1 rfl hl (by decide) rfl (fun ls hl => ?_)
  refine loopT (τ := Int32 × (Nat → Int32)) (WS := fun i => [(nm_, .inr (11, [.ref nknown_, .ref ntelling_, .ref nimages_, .ref nisImage_, .int mthrown_, .ref ntape_, .int mtaped_, .int mlength_, .int mhead_, .int mbegin_, .int mtoken_, .int mvalue_, .int mbad_, .int mbadPlace_, .int mfaultKind_, .int mfaultPlace_, .int mdeep_, .int mlawMany_, .int mlawAt_, .ref nstack_, .ref nasked_, .int mfell_, .int mfellIn_, .ref naside_, .int mstate_, .int mlanded_, .int mwaitFalls_, .int mwaitWeight_, .ref nfallsAfter_, .ref nfalling_, .ref ncomes_, .ref ngoesOn_, .ref nwayRow_, .ref nmany_, .ref nmanyThen_, .int mtoldLet_, .ref ntSort_, .ref ntMany_, .ref nnumbers_])), (nknown_, .inl (cy 0, 2260, .inl (i.2))), (naside_, .inl (cy 0, 37, .inl (faside_)))]) (LV := fun i => [(1, .int i.1), (0, .ref nm_)]) (fun i => (38 - i.1.toInt).toNat) (fun i => rg (0) (37) i.1 ∧ i.2 = cp faside_ fknown_ 0 8 i.1.toNatClampNeg) ?_ (0, fknown_) ⟨(rg_w (rg_lit (by decide) : rg (0) (0) (0 : Int32)) (by decide) (by decide)), pb_0⟩ hP hD hS (lv_sub hl [0, 1] rfl)
  intro i_ H locs ls hI ih2_ hP hD hS hl
  obtain ⟨v200200_, g200201_⟩ := i_
  have hI : rg (0) (37) v200200_ ∧ g200201_ = cp faside_ fknown_ 0 8 v200200_.toNatClampNeg := hI
  obtain ⟨rv200200_, xi2_⟩ := hI
  have hP : va_P D vwCl [(nm_, .inr (11, [.ref nknown_, .ref ntelling_, .ref nimages_, .ref nisImage_, .int mthrown_, .ref ntape_, .int mtaped_, .int mlength_, .int mhead_, .int mbegin_, .int mtoken_, .int mvalue_, .int mbad_, .int mbadPlace_, .int mfaultKind_, .int mfaultPlace_, .int mdeep_, .int mlawMany_, .int mlawAt_, .ref nstack_, .ref nasked_, .int mfell_, .int mfellIn_, .ref naside_, .int mstate_, .int mlanded_, .int mwaitFalls_, .int mwaitWeight_, .ref nfallsAfter_, .ref nfalling_, .ref ncomes_, .ref ngoesOn_, .ref nwayRow_, .ref nmany_, .ref nmanyThen_, .int mtoldLet_, .ref ntSort_, .ref ntMany_, .ref nnumbers_])), (nknown_, .inl (cy 0, 2260, .inl (g200201_))), (naside_, .inl (cy 0, 37, .inl (faside_)))] H := hP
  have hD := va_ca hP hD
  have hl : lv_has ls 2 [(1, .int v200200_), (0, .ref nm_)] := hl
  refine lv_iload_n hx hb dX11_putsBack_2 rfl (lv_at hl 0 rfl) ?_
  refine lv_bipush (v := 37) hx hb dX11_putsBack_3 (by decide) ?_
  refine lv_icmp_ge (tgt := 29) hx hb dX11_putsBack_5 (by decide) (fun c5_ => ?_) (fun c5_ => ?_)
  · have g1_ : rg (37) (37) v200200_ := rg_le2 c5_ (rg_lit (by decide) : rg (37) (37) (37 : Int32)) rv200200_ (by decide)
    obtain rfl : g0_ = g200201_ := (pb_e xi2_ g1_ (by decide) (by decide) hcp_ hsu_).symm
    have hP : va_P D vwCl [(nm_, .inr (11, [.ref nknown_, .ref ntelling_, .ref nimages_, .ref nisImage_, .int mthrown_, .ref ntape_, .int mtaped_, .int mlength_, .int mhead_, .int mbegin_, .int mtoken_, .int mvalue_, .int mbad_, .int mbadPlace_, .int mfaultKind_, .int mfaultPlace_, .int mdeep_, .int mlawMany_, .int mlawAt_, .ref nstack_, .ref nasked_, .int mfell_, .int mfellIn_, .ref naside_, .int mstate_, .int mlanded_, .int mwaitFalls_, .int mwaitWeight_, .ref nfallsAfter_, .ref nfalling_, .ref ncomes_, .ref ngoesOn_, .ref nwayRow_, .ref nmany_, .ref nmanyThen_, .int mtoldLet_, .ref ntSort_, .ref ntMany_, .ref nnumbers_])), (nknown_, .inl (cy 0, 2260, .inl (g0_))), (naside_, .inl (cy 0, 37, .inl (faside_)))] H := hP
    have hD := va_ca hP hD
    exact rV hX hE hP hD hS dX11_putsBack_29 (by decide) (by decide) rfl
  · have g2_ : rg (0) (36) v200200_ := rg_lt1 (rg_nle c5_) rv200200_ (rg_lit (by decide) : rg (37) (37) (37 : Int32)) (by decide)
    refine lv_aload_n hx hb dX11_putsBack_8 rfl (lv_at hl 1 rfl) ?_
    refine va_get (ci := 11) (v := .ref nknown_) (C := RX11) (T := TX11) (N := 39) hx hb htA in_X11 hown hK hP 0 rfl rfl 0 (by decide) (htA _ wd_1354) (fun _ h => h) rfl dX11_putsBack_9 ?_
    refine lv_bipush (v := 8) hx hb dX11_putsBack_12 (by decide) ?_
    refine lv_iload_n hx hb dX11_putsBack_14 rfl (lv_at hl 0 rfl) ?_
    refine lv_iadd hx hb dX11_putsBack_15 ?_
    have g3_ : rg (8) (44) (8 + v200200_) := rg_add (rg_lit (by decide) : rg (8) (8) (8 : Int32)) g2_ (by decide) (by decide) (by decide) (by decide)
    refine lv_aload_n hx hb dX11_putsBack_16 rfl (lv_at hl 1 rfl) ?_
    refine va_get (ci := 11) (v := .ref naside_) (C := RX11) (T := TX11) (N := 39) hx hb htA in_X11 hown hK hP 0 rfl rfl 23 (by decide) (htA _ wd_1377) (fun _ h => h) rfl dX11_putsBack_17 ?_
    refine lv_iload_n hx hb dX11_putsBack_20 rfl (lv_at hl 0 rfl) ?_
    refine va_iald hx hb hK hP 2 0 rfl rfl (rg_in g2_ (by decide) (by decide)) dX11_putsBack_21 ?_
    refine lv_topi (fun v10210_ ev10210_ => ?_)
    refine va_iast hx hb hK hP hD hS 1 0 rfl rfl (rg_in g3_ (by decide) (by decide)) dX11_putsBack_22 (fun H locs hP hD hS => ?_)
    have hP : va_P D vwCl [(nm_, .inr (11, [.ref nknown_, .ref ntelling_, .ref nimages_, .ref nisImage_, .int mthrown_, .ref ntape_, .int mtaped_, .int mlength_, .int mhead_, .int mbegin_, .int mtoken_, .int mvalue_, .int mbad_, .int mbadPlace_, .int mfaultKind_, .int mfaultPlace_, .int mdeep_, .int mlawMany_, .int mlawAt_, .ref nstack_, .ref nasked_, .int mfell_, .int mfellIn_, .ref naside_, .int mstate_, .int mlanded_, .int mwaitFalls_, .int mwaitWeight_, .ref nfallsAfter_, .ref nfalling_, .ref ncomes_, .ref ngoesOn_, .ref nwayRow_, .ref nmany_, .ref nmanyThen_, .int mtoldLet_, .ref ntSort_, .ref ntMany_, .ref nnumbers_])), (nknown_, .inl (cy 0, 2260, .inl (upd g200201_ ((8 + v200200_).toNatClampNeg) v10210_))), (naside_, .inl (cy 0, 37, .inl (faside_)))] H := hP
    have hD := va_ca hP hD
    refine lv_iinc (v := v200200_ + 1) (lv' := [(1, .int (v200200_ + 1)), (0, .ref nm_)]) hx hb dX11_putsBack_23 hl (k := 0) rfl rfl (by decide) rfl (fun ls hl => ?_)
    have g4_ : rg (1) (37) (v200200_ + 1) := rg_add g2_ (rg_lit (by decide) : rg (1) (1) (1 : Int32)) (by decide) (by decide) (by decide) (by decide)
    refine lv_goto (tgt := 2) hx hb dX11_putsBack_26 (by decide) ?_
    exact ih2_ (v200200_ + 1, upd g200201_ ((8 + v200200_).toNatClampNeg) v10210_) _ _ ls ⟨(rg_w g4_ (by decide) (by decide)), (pb_s xi2_ (rg_w g2_ (by decide) (by decide)) ev10210_)⟩ (show (38 - (v200200_ + 1).toInt).toNat < (38 - v200200_.toInt).toNat from by rw [show (v200200_ + 1).toInt = v200200_.toInt + 1 from inc32 v200200_ (by have hq := (rv200200_).2; omega)]; have hq := (g2_).1; have hq2 := (g2_).2; omega) hP hD hS (lv_sub hl [0, 1] rfl)
set_option maxHeartbeats 4000000 in
set_option maxRecDepth 100000 in
theorem sf_X11_keeps (l : Launch) (D : va_G) (cy : Nat → ClassId) (nm_ : Nat) (nknown_ : Nat) (ntelling_ : Nat) (nimages_ : Nat) (nisImage_ : Nat) (mthrown_ : Int32) (ntape_ : Nat) (mtaped_ : Int32) (mlength_ : Int32) (mhead_ : Int32) (mbegin_ : Int32) (mtoken_ : Int32) (mvalue_ : Int32) (mbad_ : Int32) (mbadPlace_ : Int32) (mfaultKind_ : Int32) (mfaultPlace_ : Int32) (mdeep_ : Int32) (mlawMany_ : Int32) (mlawAt_ : Int32) (nstack_ : Nat) (nasked_ : Nat) (mfell_ : Int32) (mfellIn_ : Int32) (naside_ : Nat) (mstate_ : Int32) (mlanded_ : Int32) (mwaitFalls_ : Int32) (mwaitWeight_ : Int32) (nfallsAfter_ : Nat) (nfalling_ : Nat) (ncomes_ : Nat) (ngoesOn_ : Nat) (nwayRow_ : Nat) (nmany_ : Nat) (nmanyThen_ : Nat) (mtoldLet_ : Int32) (ntSort_ : Nat) (ntMany_ : Nat) (nnumbers_ : Nat) (fknown_ : Nat → Int32) (C_ : Int) (L_ : Int) (hb_ : Int) (hhb_ : hb_ ≤ 1000000) (rmtaped_ : rg (0) (900) mtaped_) (rmlength_ : rg (0) (900) mlength_) (rmhead_ : rg (0) (900) mhead_) (rmbegin_ : rg (0) (900) mbegin_) (rfknown_ : KX C_ L_ 0 hb_ hb_ fknown_) : Cv l yX11_keeps cX11_keeps 2 none { frames := 0, cells := 0, slots := 0, locals := 0 } D cy [.ref nm_] [(nm_, .inr (11, [.ref nknown_, .ref ntelling_, .ref nimages_, .ref nisImage_, .int mthrown_, .ref ntape_, .int mtaped_, .int mlength_, .int mhead_, .int mbegin_, .int mtoken_, .int mvalue_, .int mbad_, .int mbadPlace_, .int mfaultKind_, .int mfaultPlace_, .int mdeep_, .int mlawMany_, .int mlawAt_, .ref nstack_, .ref nasked_, .int mfell_, .int mfellIn_, .ref naside_, .int mstate_, .int mlanded_, .int mwaitFalls_, .int mwaitWeight_, .ref nfallsAfter_, .ref nfalling_, .ref ncomes_, .ref ngoesOn_, .ref nwayRow_, .ref nmany_, .ref nmanyThen_, .int mtoldLet_, .ref ntSort_, .ref ntMany_, .ref nnumbers_])), (nknown_, .inl (cy 0, 2260, .inl (fknown_)))] (fun W1 => ∃ (x0_ : Nat → Int32), KX C_ L_ 0 hb_ hb_ x0_ ∧ KK fknown_ x0_ ∧ W1 = [(nm_, .inr (11, [.ref nknown_, .ref ntelling_, .ref nimages_, .ref nisImage_, .int mthrown_, .ref ntape_, .int mtaped_, .int mlength_, .int mhead_, .int mbegin_, .int mtoken_, .int mvalue_, .int mbad_, .int mbadPlace_, .int mfaultKind_, .int mfaultPlace_, .int mdeep_, .int mlawMany_, .int mlawAt_, .ref nstack_, .ref nasked_, .int mfell_, .int mfellIn_, .ref naside_, .int mstate_, .int mlanded_, .int mwaitFalls_, .int mwaitWeight_, .ref nfallsAfter_, .ref nfalling_, .ref ncomes_, .ref ngoesOn_, .ref nwayRow_, .ref nmany_, .ref nmanyThen_, .int mtoldLet_, .ref ntSort_, .ref ntMany_, .ref nnumbers_])), (nknown_, .inl (cy 0, 2260, .inl (x0_)))]) := by
  refine Cv.of (by decide) (Nat.le_of_ble_eq_true rfl) ?_
  intro p e s m below meth c A ls hX hE hP hD hl hin
  obtain ⟨hx, hb, hr, hml, hown, htA, hlk⟩ := id hX
  have hK := hE.1
  have hS : va_S A s.heap s.heap [] := va_S.rf
  have hl : lv_has ls 2 [(0, .ref nm_)] := hl
  refine lv_aload_n hx hb dX11_keeps_0 rfl (lv_at hl 0 rfl) ?_
  refine va_get (ci := 11) (v := .ref nknown_) (C := RX11) (T := TX11) (N := 39) hx hb htA in_X11 hown hK hP 0 rfl rfl 0 (by decide) (htA _ wd_1354) (fun _ h => h) rfl dX11_keeps_1 ?_
  refine lv_bipush (v := 7) hx hb dX11_keeps_4 (by decide) ?_
  refine va_iald hx hb hK hP 1 0 rfl rfl (in_lit (by decide)) dX11_keeps_6 ?_
  refine lv_topi (fun v10060_ ev10060_ => ?_)
  have g1_ : rg (0) (10) v10060_ := by rw [ev10060_]; exact KX_l kb_7 rfknown_ (rg_lit (by decide) : rg (7) (7) (7 : Int32)) (by decide) (by decide)
  refine lv_bipush (v := 10) hx hb dX11_keeps_7 (by decide) ?_
  refine joinT (D := D) (A := A) (pc := 54) (mL := 2) (τ := (Nat → Int32)) (WS := fun i => [(nm_, .inr (11, [.ref nknown_, .ref ntelling_, .ref nimages_, .ref nisImage_, .int mthrown_, .ref ntape_, .int mtaped_, .int mlength_, .int mhead_, .int mbegin_, .int mtoken_, .int mvalue_, .int mbad_, .int mbadPlace_, .int mfaultKind_, .int mfaultPlace_, .int mdeep_, .int mlawMany_, .int mlawAt_, .ref nstack_, .ref nasked_, .int mfell_, .int mfellIn_, .ref naside_, .int mstate_, .int mlanded_, .int mwaitFalls_, .int mwaitWeight_, .ref nfallsAfter_, .ref nfalling_, .ref ncomes_, .ref ngoesOn_, .ref nwayRow_, .ref nmany_, .ref nmanyThen_, .int mtoldLet_, .ref ntSort_, .ref ntMany_, .ref nnumbers_])), (nknown_, .inl (cy 0, 2260, .inl (i)))]) (LV := fun i => [(0, .ref nm_)]) (ST := fun i => []) (cells := 0) (slots := 0) (fun i => KX C_ L_ 0 hb_ hb_ i ∧ KK fknown_ i ∧ rg (0) (9) (i 7)) (fun g205400_ H locs ls hI hP hD hS hl => ?_) (fun j54_ => ?_)
  · have hI : KX C_ L_ 0 hb_ hb_ g205400_ ∧ KK fknown_ g205400_ ∧ rg (0) (9) (g205400_ 7) := hI
    obtain ⟨rg205400_, xi54_, el54_7_⟩ := hI
    have hP : va_P D vwCl [(nm_, .inr (11, [.ref nknown_, .ref ntelling_, .ref nimages_, .ref nisImage_, .int mthrown_, .ref ntape_, .int mtaped_, .int mlength_, .int mhead_, .int mbegin_, .int mtoken_, .int mvalue_, .int mbad_, .int mbadPlace_, .int mfaultKind_, .int mfaultPlace_, .int mdeep_, .int mlawMany_, .int mlawAt_, .ref nstack_, .ref nasked_, .int mfell_, .int mfellIn_, .ref naside_, .int mstate_, .int mlanded_, .int mwaitFalls_, .int mwaitWeight_, .ref nfallsAfter_, .ref nfalling_, .ref ncomes_, .ref ngoesOn_, .ref nwayRow_, .ref nmany_, .ref nmanyThen_, .int mtoldLet_, .ref ntSort_, .ref ntMany_, .ref nnumbers_])), (nknown_, .inl (cy 0, 2260, .inl (g205400_)))] H := hP
    have hD := va_ca hP hD
    have hl : lv_has ls 2 [(0, .ref nm_)] := hl
    refine lv_iconst (v := 0) hx hb dX11_keeps_54 (by decide) ?_
    refine lv_istore_n (lv' := [(1, .int 0), (0, .ref nm_)]) hx hb dX11_keeps_55 rfl hl (by decide) rfl (fun ls hl => ?_)
    refine loopT (τ := Int32 × (Nat → Int32)) (WS := fun i => [(nm_, .inr (11, [.ref nknown_, .ref ntelling_, .ref nimages_, .ref nisImage_, .int mthrown_, .ref ntape_, .int mtaped_, .int mlength_, .int mhead_, .int mbegin_, .int mtoken_, .int mvalue_, .int mbad_, .int mbadPlace_, .int mfaultKind_, .int mfaultPlace_, .int mdeep_, .int mlawMany_, .int mlawAt_, .ref nstack_, .ref nasked_, .int mfell_, .int mfellIn_, .ref naside_, .int mstate_, .int mlanded_, .int mwaitFalls_, .int mwaitWeight_, .ref nfallsAfter_, .ref nfalling_, .ref ncomes_, .ref ngoesOn_, .ref nwayRow_, .ref nmany_, .ref nmanyThen_, .int mtoldLet_, .ref ntSort_, .ref ntMany_, .ref nnumbers_])), (nknown_, .inl (cy 0, 2260, .inl (i.2)))]) (LV := fun i => [(1, .int i.1), (0, .ref nm_)]) (fun i => (38 - i.1.toInt).toNat) (fun i => rg (0) (37) i.1 ∧ i.2 = cp g205400_ g205400_ 8 (89 + 37 * (g205400_ 7).toNatClampNeg) i.1.toNatClampNeg) ?_ (0, g205400_) ⟨(rg_w (rg_lit (by decide) : rg (0) (0) (0 : Int32)) (by decide) (by decide)), ku_0⟩ hP hD hS (lv_sub hl [0, 1] rfl)
    intro i_ H locs ls hI ih56_ hP hD hS hl
    obtain ⟨v205600_, g205601_⟩ := i_
    have hI : rg (0) (37) v205600_ ∧ g205601_ = cp g205400_ g205400_ 8 (89 + 37 * (g205400_ 7).toNatClampNeg) v205600_.toNatClampNeg := hI
    obtain ⟨rv205600_, xi56_⟩ := hI
    have hP : va_P D vwCl [(nm_, .inr (11, [.ref nknown_, .ref ntelling_, .ref nimages_, .ref nisImage_, .int mthrown_, .ref ntape_, .int mtaped_, .int mlength_, .int mhead_, .int mbegin_, .int mtoken_, .int mvalue_, .int mbad_, .int mbadPlace_, .int mfaultKind_, .int mfaultPlace_, .int mdeep_, .int mlawMany_, .int mlawAt_, .ref nstack_, .ref nasked_, .int mfell_, .int mfellIn_, .ref naside_, .int mstate_, .int mlanded_, .int mwaitFalls_, .int mwaitWeight_, .ref nfallsAfter_, .ref nfalling_, .ref ncomes_, .ref ngoesOn_, .ref nwayRow_, .ref nmany_, .ref nmanyThen_, .int mtoldLet_, .ref ntSort_, .ref ntMany_, .ref nnumbers_])), (nknown_, .inl (cy 0, 2260, .inl (g205601_)))] H := hP
    have hD := va_ca hP hD
    have hl : lv_has ls 2 [(1, .int v205600_), (0, .ref nm_)] := hl
    refine lv_iload_n hx hb dX11_keeps_56 rfl (lv_at hl 0 rfl) ?_
    refine lv_bipush (v := 37) hx hb dX11_keeps_57 (by decide) ?_
    refine lv_icmp_ge (tgt := 97) hx hb dX11_keeps_59 (by decide) (fun c59_ => ?_) (fun c59_ => ?_)
    · have g2_ : rg (37) (37) v205600_ := rg_le2 c59_ (rg_lit (by decide) : rg (37) (37) (37 : Int32)) rv205600_ (by decide)
      have hq97_ := ku_e xi56_ g2_ (by decide) (by decide) (rg_w el54_7_ (by decide) (by decide)) rg205400_ (by omega) (by omega)
      refine lv_aload_n hx hb dX11_keeps_97 rfl (lv_at hl 1 rfl) ?_
      refine va_get (ci := 11) (v := .ref nknown_) (C := RX11) (T := TX11) (N := 39) hx hb htA in_X11 hown hK hP 0 rfl rfl 0 (by decide) (htA _ wd_1354) (fun _ h => h) rfl dX11_keeps_98 ?_
      refine lv_bipush (v := 7) hx hb dX11_keeps_101 (by decide) ?_
      refine lv_dup2_11 hx hb dX11_keeps_103 rfl rfl ?_
      refine va_iald hx hb hK hP 1 0 rfl rfl (in_lit (by decide)) dX11_keeps_104 ?_
      refine lv_topi (fun v11040_ ev11040_ => ?_)
      have g3_ : rg (0) (10) v11040_ := by rw [ev11040_]; exact KX_l kb_7 hq97_.1 (rg_lit (by decide) : rg (7) (7) (7 : Int32)) (by decide) (by decide)
      have g4_ : rg (0) (9) v11040_ := by rw [ev11040_]; exact (ku_7 hq97_.2 (rg_w el54_7_ (by decide) (by decide)))
      refine lv_iconst (v := 1) hx hb dX11_keeps_105 (by decide) ?_
      refine lv_iadd hx hb dX11_keeps_106 ?_
      have g5_ : rg (1) (10) (v11040_ + 1) := rg_add g4_ (rg_lit (by decide) : rg (1) (1) (1 : Int32)) (by decide) (by decide) (by decide) (by decide)
      refine va_iast hx hb hK hP hD hS 1 0 rfl rfl (in_lit (by decide)) dX11_keeps_107 (fun H locs hP hD hS => ?_)
      have ga6_ : KX C_ L_ 0 hb_ hb_ (upd g205601_ ((7 : Int32).toNatClampNeg) (v11040_ + 1)) := KX_s kb_7 hq97_.1 (rg_lit (by decide) : rg (7) (7) (7 : Int32)) (rg_w g5_ (by decide) (by decide)) (by decide) (by decide) (by decide)
      have hP : va_P D vwCl [(nm_, .inr (11, [.ref nknown_, .ref ntelling_, .ref nimages_, .ref nisImage_, .int mthrown_, .ref ntape_, .int mtaped_, .int mlength_, .int mhead_, .int mbegin_, .int mtoken_, .int mvalue_, .int mbad_, .int mbadPlace_, .int mfaultKind_, .int mfaultPlace_, .int mdeep_, .int mlawMany_, .int mlawAt_, .ref nstack_, .ref nasked_, .int mfell_, .int mfellIn_, .ref naside_, .int mstate_, .int mlanded_, .int mwaitFalls_, .int mwaitWeight_, .ref nfallsAfter_, .ref nfalling_, .ref ncomes_, .ref ngoesOn_, .ref nwayRow_, .ref nmany_, .ref nmanyThen_, .int mtoldLet_, .ref ntSort_, .ref ntMany_, .ref nnumbers_])), (nknown_, .inl (cy 0, 2260, .inl (upd g205601_ ((7 : Int32).toNatClampNeg) (v11040_ + 1))))] H := hP
      have hD := va_ca hP hD
      exact rV hX hE hP hD hS dX11_keeps_108 (by decide) (by decide) ⟨(upd g205601_ ((7 : Int32).toNatClampNeg) (v11040_ + 1)), ga6_, (KK_7 (KK_tr xi54_ (KK_cu xi56_))), rfl⟩
    · have g7_ : rg (0) (36) v205600_ := rg_lt1 (rg_nle c59_) rv205600_ (rg_lit (by decide) : rg (37) (37) (37 : Int32)) (by decide)
      refine lv_aload_n hx hb dX11_keeps_62 rfl (lv_at hl 1 rfl) ?_
      refine va_get (ci := 11) (v := .ref nknown_) (C := RX11) (T := TX11) (N := 39) hx hb htA in_X11 hown hK hP 0 rfl rfl 0 (by decide) (htA _ wd_1354) (fun _ h => h) rfl dX11_keeps_63 ?_
      refine lv_bipush (v := 89) hx hb dX11_keeps_66 (by decide) ?_
      refine lv_bipush (v := 37) hx hb dX11_keeps_68 (by decide) ?_
      refine lv_aload_n hx hb dX11_keeps_70 rfl (lv_at hl 1 rfl) ?_
      refine va_get (ci := 11) (v := .ref nknown_) (C := RX11) (T := TX11) (N := 39) hx hb htA in_X11 hown hK hP 0 rfl rfl 0 (by decide) (htA _ wd_1354) (fun _ h => h) rfl dX11_keeps_71 ?_
      refine lv_bipush (v := 7) hx hb dX11_keeps_74 (by decide) ?_
      refine va_iald hx hb hK hP 1 0 rfl rfl (in_lit (by decide)) dX11_keeps_76 ?_
      refine lv_topi (fun v10760_ ev10760_ => ?_)
      have g77_ : rg (0) (9) v10760_ := by rw [ku_v xi56_ ev10760_]; exact (rg_w el54_7_ (by decide) (by decide))
      refine lv_imul hx hb dX11_keeps_77 ?_
      have g8_ : rg (0) (333) (37 * v10760_) := rg_mulc (k := 37) (by decide) g77_ (by decide) (by decide) (by decide) (by decide) (by decide)
      refine lv_iadd hx hb dX11_keeps_78 ?_
      have g9_ : rg (89) (422) (89 + (37 * v10760_)) := rg_add (rg_lit (by decide) : rg (89) (89) (89 : Int32)) g8_ (by decide) (by decide) (by decide) (by decide)
      refine lv_iload_n hx hb dX11_keeps_79 rfl (lv_at hl 0 rfl) ?_
      refine lv_iadd hx hb dX11_keeps_80 ?_
      have g10_ : rg (89) (458) ((89 + (37 * v10760_)) + v205600_) := rg_add g9_ g7_ (by decide) (by decide) (by decide) (by decide)
      refine lv_aload_n hx hb dX11_keeps_81 rfl (lv_at hl 1 rfl) ?_
      refine va_get (ci := 11) (v := .ref nknown_) (C := RX11) (T := TX11) (N := 39) hx hb htA in_X11 hown hK hP 0 rfl rfl 0 (by decide) (htA _ wd_1354) (fun _ h => h) rfl dX11_keeps_82 ?_
      refine lv_bipush (v := 8) hx hb dX11_keeps_85 (by decide) ?_
      refine lv_iload_n hx hb dX11_keeps_87 rfl (lv_at hl 0 rfl) ?_
      refine lv_iadd hx hb dX11_keeps_88 ?_
      have g11_ : rg (8) (44) (8 + v205600_) := rg_add (rg_lit (by decide) : rg (8) (8) (8 : Int32)) g7_ (by decide) (by decide) (by decide) (by decide)
      refine va_iald hx hb hK hP 1 0 rfl rfl (rg_in g11_ (by decide) (by decide)) dX11_keeps_89 ?_
      refine lv_topi (fun v10890_ ev10890_ => ?_)
      refine va_iast hx hb hK hP hD hS 1 0 rfl rfl (rg_in g10_ (by decide) (by decide)) dX11_keeps_90 (fun H locs hP hD hS => ?_)
      have hP : va_P D vwCl [(nm_, .inr (11, [.ref nknown_, .ref ntelling_, .ref nimages_, .ref nisImage_, .int mthrown_, .ref ntape_, .int mtaped_, .int mlength_, .int mhead_, .int mbegin_, .int mtoken_, .int mvalue_, .int mbad_, .int mbadPlace_, .int mfaultKind_, .int mfaultPlace_, .int mdeep_, .int mlawMany_, .int mlawAt_, .ref nstack_, .ref nasked_, .int mfell_, .int mfellIn_, .ref naside_, .int mstate_, .int mlanded_, .int mwaitFalls_, .int mwaitWeight_, .ref nfallsAfter_, .ref nfalling_, .ref ncomes_, .ref ngoesOn_, .ref nwayRow_, .ref nmany_, .ref nmanyThen_, .int mtoldLet_, .ref ntSort_, .ref ntMany_, .ref nnumbers_])), (nknown_, .inl (cy 0, 2260, .inl (upd g205601_ (((89 + (37 * v10760_)) + v205600_).toNatClampNeg) v10890_)))] H := hP
      have hD := va_ca hP hD
      refine lv_iinc (v := v205600_ + 1) (lv' := [(1, .int (v205600_ + 1)), (0, .ref nm_)]) hx hb dX11_keeps_91 hl (k := 0) rfl rfl (by decide) rfl (fun ls hl => ?_)
      have g12_ : rg (1) (37) (v205600_ + 1) := rg_add g7_ (rg_lit (by decide) : rg (1) (1) (1 : Int32)) (by decide) (by decide) (by decide) (by decide)
      refine lv_goto (tgt := 56) hx hb dX11_keeps_94 (by decide) ?_
      exact ih56_ (v205600_ + 1, upd g205601_ (((89 + (37 * v10760_)) + v205600_).toNatClampNeg) v10890_) _ _ ls ⟨(rg_w g12_ (by decide) (by decide)), (ku_s xi56_ (rg_w g7_ (by decide) (by decide)) (rg_w el54_7_ (by decide) (by decide)) ev10760_ ev10890_)⟩ (show (38 - (v205600_ + 1).toInt).toNat < (38 - v205600_.toInt).toNat from by rw [show (v205600_ + 1).toInt = v205600_.toInt + 1 from inc32 v205600_ (by have hq := (rv205600_).2; omega)]; have hq := (g7_).1; have hq2 := (g7_).2; omega) hP hD hS (lv_sub hl [0, 1] rfl)
  refine lv_icmp_ne (tgt := 54) hx hb dX11_keeps_9 (by decide) (fun c9_ => ?_) (fun c9_ => ?_)
  · have g13_ : rg (0) (9) v10060_ := rg_ne2 c9_ g1_ (by decide) (by decide)
    exact j54_ fknown_ _ _ ls ⟨rfknown_, KK_rf, (rg_w (el_of ev10060_ g13_) (by decide) (by decide))⟩ hP hD hS (lv_sub hl [0] rfl)
  · have g14_ : rg (10) (10) v10060_ := rg_eq c9_ (rg_lit (by decide) : rg (10) (10) (10 : Int32))
    refine lv_bipush (v := 89) hx hb dX11_keeps_12 (by decide) ?_
    refine lv_istore_n (lv' := [(1, .int 89), (0, .ref nm_)]) hx hb dX11_keeps_14 rfl hl (by decide) rfl (fun ls hl => ?_)
    refine loopT (τ := Int32 × (Nat → Int32)) (WS := fun i => [(nm_, .inr (11, [.ref nknown_, .ref ntelling_, .ref nimages_, .ref nisImage_, .int mthrown_, .ref ntape_, .int mtaped_, .int mlength_, .int mhead_, .int mbegin_, .int mtoken_, .int mvalue_, .int mbad_, .int mbadPlace_, .int mfaultKind_, .int mfaultPlace_, .int mdeep_, .int mlawMany_, .int mlawAt_, .ref nstack_, .ref nasked_, .int mfell_, .int mfellIn_, .ref naside_, .int mstate_, .int mlanded_, .int mwaitFalls_, .int mwaitWeight_, .ref nfallsAfter_, .ref nfalling_, .ref ncomes_, .ref ngoesOn_, .ref nwayRow_, .ref nmany_, .ref nmanyThen_, .int mtoldLet_, .ref ntSort_, .ref ntMany_, .ref nnumbers_])), (nknown_, .inl (cy 0, 2260, .inl (i.2)))]) (LV := fun i => [(1, .int i.1), (0, .ref nm_)]) (fun i => (423 - i.1.toInt).toNat) (fun i => rg (89) (422) i.1 ∧ i.2 = cp fknown_ fknown_ 126 89 (i.1.toNatClampNeg - 89)) ?_ (89, fknown_) ⟨(rg_w (rg_lit (by decide) : rg (89) (89) (89 : Int32)) (by decide) (by decide)), ks_0⟩ hP hD hS (lv_sub hl [0, 1] rfl)
    intro i_ H locs ls hI ih15_ hP hD hS hl
    obtain ⟨v201500_, g201501_⟩ := i_
    have hI : rg (89) (422) v201500_ ∧ g201501_ = cp fknown_ fknown_ 126 89 (v201500_.toNatClampNeg - 89) := hI
    obtain ⟨rv201500_, xi15_⟩ := hI
    have hP : va_P D vwCl [(nm_, .inr (11, [.ref nknown_, .ref ntelling_, .ref nimages_, .ref nisImage_, .int mthrown_, .ref ntape_, .int mtaped_, .int mlength_, .int mhead_, .int mbegin_, .int mtoken_, .int mvalue_, .int mbad_, .int mbadPlace_, .int mfaultKind_, .int mfaultPlace_, .int mdeep_, .int mlawMany_, .int mlawAt_, .ref nstack_, .ref nasked_, .int mfell_, .int mfellIn_, .ref naside_, .int mstate_, .int mlanded_, .int mwaitFalls_, .int mwaitWeight_, .ref nfallsAfter_, .ref nfalling_, .ref ncomes_, .ref ngoesOn_, .ref nwayRow_, .ref nmany_, .ref nmanyThen_, .int mtoldLet_, .ref ntSort_, .ref ntMany_, .ref nnumbers_])), (nknown_, .inl (cy 0, 2260, .inl (g201501_)))] H := hP
    have hD := va_ca hP hD
    have hl : lv_has ls 2 [(1, .int v201500_), (0, .ref nm_)] := hl
    refine lv_iload_n hx hb dX11_keeps_15 rfl (lv_at hl 0 rfl) ?_
    refine lv_sipush (v := 422) hx hb dX11_keeps_16 (by decide) ?_
    refine lv_icmp_ge (tgt := 43) hx hb dX11_keeps_19 (by decide) (fun c19_ => ?_) (fun c19_ => ?_)
    · have g15_ : rg (422) (422) v201500_ := rg_le2 c19_ (rg_lit (by decide) : rg (422) (422) (422 : Int32)) rv201500_ (by decide)
      have ga16_ : KX C_ L_ 0 hb_ hb_ g201501_ := ks_e xi15_ g15_ (by decide) (by decide) rfknown_
      have hel_ := ks_7 xi15_ ev10060_ c9_
      refine lv_aload_n hx hb dX11_keeps_43 rfl (lv_at hl 1 rfl) ?_
      refine va_get (ci := 11) (v := .ref nknown_) (C := RX11) (T := TX11) (N := 39) hx hb htA in_X11 hown hK hP 0 rfl rfl 0 (by decide) (htA _ wd_1354) (fun _ h => h) rfl dX11_keeps_44 ?_
      refine lv_bipush (v := 7) hx hb dX11_keeps_47 (by decide) ?_
      refine lv_dup2_11 hx hb dX11_keeps_49 rfl rfl ?_
      refine va_iald hx hb hK hP 1 0 rfl rfl (in_lit (by decide)) dX11_keeps_50 ?_
      refine lv_topi (fun v10500_ ev10500_ => ?_)
      have g17_ : rg (0) (10) v10500_ := by rw [ev10500_]; exact KX_l kb_7 ga16_ (rg_lit (by decide) : rg (7) (7) (7 : Int32)) (by decide) (by decide)
      have g18_ : rg (10) (10) v10500_ := by rw [ev10500_]; exact hel_
      refine lv_iconst (v := 1) hx hb dX11_keeps_51 (by decide) ?_
      refine lv_isub hx hb dX11_keeps_52 ?_
      have g19_ : rg (9) (9) (v10500_ - 1) := rg_sub g18_ (rg_lit (by decide) : rg (1) (1) (1 : Int32)) (by decide) (by decide) (by decide) (by decide)
      refine va_iast hx hb hK hP hD hS 1 0 rfl rfl (in_lit (by decide)) dX11_keeps_53 (fun H locs hP hD hS => ?_)
      have ga20_ : KX C_ L_ 0 hb_ hb_ (upd g201501_ ((7 : Int32).toNatClampNeg) (v10500_ - 1)) := KX_s kb_7 ga16_ (rg_lit (by decide) : rg (7) (7) (7 : Int32)) (rg_w g19_ (by decide) (by decide)) (by decide) (by decide) (by decide)
      have hP : va_P D vwCl [(nm_, .inr (11, [.ref nknown_, .ref ntelling_, .ref nimages_, .ref nisImage_, .int mthrown_, .ref ntape_, .int mtaped_, .int mlength_, .int mhead_, .int mbegin_, .int mtoken_, .int mvalue_, .int mbad_, .int mbadPlace_, .int mfaultKind_, .int mfaultPlace_, .int mdeep_, .int mlawMany_, .int mlawAt_, .ref nstack_, .ref nasked_, .int mfell_, .int mfellIn_, .ref naside_, .int mstate_, .int mlanded_, .int mwaitFalls_, .int mwaitWeight_, .ref nfallsAfter_, .ref nfalling_, .ref ncomes_, .ref ngoesOn_, .ref nwayRow_, .ref nmany_, .ref nmanyThen_, .int mtoldLet_, .ref ntSort_, .ref ntMany_, .ref nnumbers_])), (nknown_, .inl (cy 0, 2260, .inl (upd g201501_ ((7 : Int32).toNatClampNeg) (v10500_ - 1))))] H := hP
      have hD := va_ca hP hD
      exact j54_ (upd g201501_ ((7 : Int32).toNatClampNeg) (v10500_ - 1)) _ _ ls ⟨ga20_, (KK_7 (KK_sh xi15_)), (rg_w (el_st g19_) (by decide) (by decide))⟩ hP hD hS (lv_sub hl [1] rfl)
    · have g21_ : rg (89) (421) v201500_ := rg_lt1 (rg_nle c19_) rv201500_ (rg_lit (by decide) : rg (422) (422) (422 : Int32)) (by decide)
      refine lv_aload_n hx hb dX11_keeps_22 rfl (lv_at hl 1 rfl) ?_
      refine va_get (ci := 11) (v := .ref nknown_) (C := RX11) (T := TX11) (N := 39) hx hb htA in_X11 hown hK hP 0 rfl rfl 0 (by decide) (htA _ wd_1354) (fun _ h => h) rfl dX11_keeps_23 ?_
      refine lv_iload_n hx hb dX11_keeps_26 rfl (lv_at hl 0 rfl) ?_
      refine lv_aload_n hx hb dX11_keeps_27 rfl (lv_at hl 1 rfl) ?_
      refine va_get (ci := 11) (v := .ref nknown_) (C := RX11) (T := TX11) (N := 39) hx hb htA in_X11 hown hK hP 0 rfl rfl 0 (by decide) (htA _ wd_1354) (fun _ h => h) rfl dX11_keeps_28 ?_
      refine lv_iload_n hx hb dX11_keeps_31 rfl (lv_at hl 0 rfl) ?_
      refine lv_bipush (v := 37) hx hb dX11_keeps_32 (by decide) ?_
      refine lv_iadd hx hb dX11_keeps_34 ?_
      have g22_ : rg (126) (458) (v201500_ + 37) := rg_add g21_ (rg_lit (by decide) : rg (37) (37) (37 : Int32)) (by decide) (by decide) (by decide) (by decide)
      refine va_iald hx hb hK hP 1 0 rfl rfl (rg_in g22_ (by decide) (by decide)) dX11_keeps_35 ?_
      refine lv_topi (fun v10350_ ev10350_ => ?_)
      refine va_iast hx hb hK hP hD hS 1 0 rfl rfl (rg_in g21_ (by decide) (by decide)) dX11_keeps_36 (fun H locs hP hD hS => ?_)
      have hP : va_P D vwCl [(nm_, .inr (11, [.ref nknown_, .ref ntelling_, .ref nimages_, .ref nisImage_, .int mthrown_, .ref ntape_, .int mtaped_, .int mlength_, .int mhead_, .int mbegin_, .int mtoken_, .int mvalue_, .int mbad_, .int mbadPlace_, .int mfaultKind_, .int mfaultPlace_, .int mdeep_, .int mlawMany_, .int mlawAt_, .ref nstack_, .ref nasked_, .int mfell_, .int mfellIn_, .ref naside_, .int mstate_, .int mlanded_, .int mwaitFalls_, .int mwaitWeight_, .ref nfallsAfter_, .ref nfalling_, .ref ncomes_, .ref ngoesOn_, .ref nwayRow_, .ref nmany_, .ref nmanyThen_, .int mtoldLet_, .ref ntSort_, .ref ntMany_, .ref nnumbers_])), (nknown_, .inl (cy 0, 2260, .inl (upd g201501_ v201500_.toNatClampNeg v10350_)))] H := hP
      have hD := va_ca hP hD
      refine lv_iinc (v := v201500_ + 1) (lv' := [(1, .int (v201500_ + 1)), (0, .ref nm_)]) hx hb dX11_keeps_37 hl (k := 0) rfl rfl (by decide) rfl (fun ls hl => ?_)
      have g23_ : rg (90) (422) (v201500_ + 1) := rg_add g21_ (rg_lit (by decide) : rg (1) (1) (1 : Int32)) (by decide) (by decide) (by decide) (by decide)
      refine lv_goto (tgt := 15) hx hb dX11_keeps_40 (by decide) ?_
      exact ih15_ (v201500_ + 1, upd g201501_ v201500_.toNatClampNeg v10350_) _ _ ls ⟨(rg_w g23_ (by decide) (by decide)), (ks_s xi15_ (rg_w g21_ (by decide) (by decide)) ev10350_)⟩ (show (423 - (v201500_ + 1).toInt).toNat < (423 - v201500_.toInt).toNat from by rw [show (v201500_ + 1).toInt = v201500_.toInt + 1 from inc32 v201500_ (by have hq := (rv201500_).2; omega)]; have hq := (g21_).1; have hq2 := (g21_).2; omega) hP hD hS (lv_sub hl [0, 1] rfl)
set_option maxHeartbeats 4000000 in
set_option maxRecDepth 100000 in
theorem sf_X11_undo (l : Launch) (D : va_G) (cy : Nat → ClassId) (nm_ : Nat) (nknown_ : Nat) (ntelling_ : Nat) (nimages_ : Nat) (nisImage_ : Nat) (mthrown_ : Int32) (ntape_ : Nat) (mtaped_ : Int32) (mlength_ : Int32) (mhead_ : Int32) (mbegin_ : Int32) (mtoken_ : Int32) (mvalue_ : Int32) (mbad_ : Int32) (mbadPlace_ : Int32) (mfaultKind_ : Int32) (mfaultPlace_ : Int32) (mdeep_ : Int32) (mlawMany_ : Int32) (mlawAt_ : Int32) (nstack_ : Nat) (nasked_ : Nat) (mfell_ : Int32) (mfellIn_ : Int32) (naside_ : Nat) (mstate_ : Int32) (mlanded_ : Int32) (mwaitFalls_ : Int32) (mwaitWeight_ : Int32) (nfallsAfter_ : Nat) (nfalling_ : Nat) (ncomes_ : Nat) (ngoesOn_ : Nat) (nwayRow_ : Nat) (nmany_ : Nat) (nmanyThen_ : Nat) (mtoldLet_ : Int32) (ntSort_ : Nat) (ntMany_ : Nat) (nnumbers_ : Nat) (fknown_ : Nat → Int32) (n_ : Int32) (C_ : Int) (L_ : Int) (hb_ : Int) (hhb_ : hb_ ≤ 1000000) (rmtaped_ : rg (0) (900) mtaped_) (rmlength_ : rg (0) (900) mlength_) (rmhead_ : rg (0) (900) mhead_) (rmbegin_ : rg (0) (900) mbegin_) (rfknown_ : KX C_ L_ 0 hb_ hb_ fknown_) : Ci l yX11_undo cX11_undo 3 (some .int) { frames := 1, cells := 0, slots := 0, locals := 25 } D cy [.ref nm_, .int n_] [(nm_, .inr (11, [.ref nknown_, .ref ntelling_, .ref nimages_, .ref nisImage_, .int mthrown_, .ref ntape_, .int mtaped_, .int mlength_, .int mhead_, .int mbegin_, .int mtoken_, .int mvalue_, .int mbad_, .int mbadPlace_, .int mfaultKind_, .int mfaultPlace_, .int mdeep_, .int mlawMany_, .int mlawAt_, .ref nstack_, .ref nasked_, .int mfell_, .int mfellIn_, .ref naside_, .int mstate_, .int mlanded_, .int mwaitFalls_, .int mwaitWeight_, .ref nfallsAfter_, .ref nfalling_, .ref ncomes_, .ref ngoesOn_, .ref nwayRow_, .ref nmany_, .ref nmanyThen_, .int mtoldLet_, .ref ntSort_, .ref ntMany_, .ref nnumbers_])), (nknown_, .inl (cy 0, 2260, .inl (fknown_)))] (fun r W1 => ∃ (x0_ : Int32) (x1_ : Nat → Int32), rg (0) (1) x0_ ∧ KX C_ L_ 0 hb_ hb_ x1_ ∧ W1 = [(nm_, .inr (11, [.ref nknown_, .ref ntelling_, .ref nimages_, .ref nisImage_, .int x0_, .ref ntape_, .int mtaped_, .int mlength_, .int mhead_, .int mbegin_, .int mtoken_, .int mvalue_, .int mbad_, .int mbadPlace_, .int mfaultKind_, .int mfaultPlace_, .int mdeep_, .int mlawMany_, .int mlawAt_, .ref nstack_, .ref nasked_, .int mfell_, .int mfellIn_, .ref naside_, .int mstate_, .int mlanded_, .int mwaitFalls_, .int mwaitWeight_, .ref nfallsAfter_, .ref nfalling_, .ref ncomes_, .ref ngoesOn_, .ref nwayRow_, .ref nmany_, .ref nmanyThen_, .int mtoldLet_, .ref ntSort_, .ref ntMany_, .ref nnumbers_])), (nknown_, .inl (cy 0, 2260, .inl (x1_)))] ∧ rg (0) (10) r) := by
  refine Ci.of (by decide) (Nat.le_of_ble_eq_true rfl) ?_
  intro p e s m below meth c A ls hX hE hP hD hl
  obtain ⟨hx, hb, hr, hml, hown, htA, hlk⟩ := id hX
  have hK := hE.1
  have hS : va_S A s.heap s.heap [] := va_S.rf
  have hl : lv_has ls 3 [(0, .ref nm_), (1, .int n_)] := hl
  refine lv_aload_n hx hb dX11_undo_0 rfl (lv_at hl 0 rfl) ?_
  refine lv_iconst (v := 0) hx hb dX11_undo_1 (by decide) ?_
  refine va_put (ci := 11) (v := .int 0) (ty := .int) (C := RX11) (T := TX11) (N := 39) hx hb htA in_X11 tyX11 tyX11_ok nmX11 hown hK hP hD hS 0 rfl rfl 4 (by decide) (htA _ wd_1358) (fun _ h => h) rfl (by decide +kernel) rfl rfl (Nat.le_of_ble_eq_true rfl) dX11_undo_2 (fun H locs hP hD hS => ?_)
  have hP : va_P D vwCl [(nm_, .inr (11, [.ref nknown_, .ref ntelling_, .ref nimages_, .ref nisImage_, .int 0, .ref ntape_, .int mtaped_, .int mlength_, .int mhead_, .int mbegin_, .int mtoken_, .int mvalue_, .int mbad_, .int mbadPlace_, .int mfaultKind_, .int mfaultPlace_, .int mdeep_, .int mlawMany_, .int mlawAt_, .ref nstack_, .ref nasked_, .int mfell_, .int mfellIn_, .ref naside_, .int mstate_, .int mlanded_, .int mwaitFalls_, .int mwaitWeight_, .ref nfallsAfter_, .ref nfalling_, .ref ncomes_, .ref ngoesOn_, .ref nwayRow_, .ref nmany_, .ref nmanyThen_, .int mtoldLet_, .ref ntSort_, .ref ntMany_, .ref nnumbers_])), (nknown_, .inl (cy 0, 2260, .inl (fknown_)))] H := hP
  have hD := va_ca hP hD
  refine lv_iload_n hx hb dX11_undo_5 rfl (lv_at hl 1 rfl) ?_
  refine lv_i2l hx hb dX11_undo_6 rfl ?_
  have g1_ : rl (-2147483648) (2147483647) n_.toInt64 := rl_i2l (rg_any _)
  refine lv_lconst (v := 1) hx hb dX11_undo_7 (by decide) ?_
  refine lv_ldc2 hx hb hown (htA _ wd_1808) dX11_undo_8 ?_
  refine kSi (As := [.long n_.toInt64, .long 1, .long 10]) (rest := []) (wr := [(nm_, .inr (11, [.ref nknown_, .ref ntelling_, .ref nimages_, .ref nisImage_, .int 0, .ref ntape_, .int mtaped_, .int mlength_, .int mhead_, .int mbegin_, .int mtoken_, .int mvalue_, .int mbad_, .int mbadPlace_, .int mfaultKind_, .int mfaultPlace_, .int mdeep_, .int mlawMany_, .int mlawAt_, .ref nstack_, .ref nasked_, .int mfell_, .int mfellIn_, .ref naside_, .int mstate_, .int mlanded_, .int mwaitFalls_, .int mwaitWeight_, .ref nfallsAfter_, .ref nfalling_, .ref ncomes_, .ref ngoesOn_, .ref nwayRow_, .ref nmany_, .ref nmanyThen_, .int mtoldLet_, .ref ntSort_, .ref ntMany_, .ref nnumbers_])), (nknown_, .inl (cy 0, 2260, .inl (fknown_)))]) hX hE (sf_X11_within_w l D cy n_.toInt64 (1 : Int64) (10 : Int64) ) (cwSA 3 htA wd_1487 wd_1485 wd_10 wd_1486 (by decide +kernel) ⟨by decide, by decide⟩) hP hD hS [] [0, 1] rfl rfl (by decide +kernel) rfl hl.1 rfl (Nat.le_of_ble_eq_true rfl) dX11_undo_11 (by decide) (fun v10110_ W1 H locs hw hP hD hS => ?_)
  refine W.widen (k := 0) (n := 0) (by decide) (by decide) ?_
  rcases hw with ⟨k11_0_, k11_1_, k11_2_, rfl, kr11_⟩ | ⟨k11_0_, k11_1_, k11_2_, k11_3_, rfl, kr11_⟩ | ⟨k11_0_, k11_1_, rfl, kr11_⟩
  · have hP : va_P D vwCl [(nm_, .inr (11, [.ref nknown_, .ref ntelling_, .ref nimages_, .ref nisImage_, .int 0, .ref ntape_, .int mtaped_, .int mlength_, .int mhead_, .int mbegin_, .int mtoken_, .int mvalue_, .int mbad_, .int mbadPlace_, .int mfaultKind_, .int mfaultPlace_, .int mdeep_, .int mlawMany_, .int mlawAt_, .ref nstack_, .ref nasked_, .int mfell_, .int mfellIn_, .ref naside_, .int mstate_, .int mlanded_, .int mwaitFalls_, .int mwaitWeight_, .ref nfallsAfter_, .ref nfalling_, .ref ncomes_, .ref ngoesOn_, .ref nwayRow_, .ref nmany_, .ref nmanyThen_, .int mtoldLet_, .ref ntSort_, .ref ntMany_, .ref nnumbers_])), (nknown_, .inl (cy 0, 2260, .inl (fknown_)))] H := hP
    have hD := va_ca hP hD
    have g2_ : rl (-2147483648) (1) n_.toInt64 := rl_le1 k11_2_ (rl_cut g1_ k11_0_) (rl_lit (by decide) : rl (1) (1) (1 : Int64)) (by decide)
    refine lv_if_eq (tgt := 28) hx hb dX11_undo_14 (by decide) (fun c10000014_ => ?_) (fun c10000014_ => rg_ne0 c10000014_ kr11_ (rg_lit (by decide) : rg (0) (0) (0 : Int32)))
    refine lv_aload_n hx hb dX11_undo_28 rfl (lv_at hl 0 rfl) ?_
    refine lv_iconst (v := 1) hx hb dX11_undo_29 (by decide) ?_
    refine kVi (As := [.int 1]) (rest := []) (wr := [(nknown_, .inl (cy 0, 2260, .inl (fknown_)))]) hX hE (sf_X11_fails l D cy nm_ nknown_ ntelling_ nimages_ nisImage_ (0 : Int32) ntape_ mtaped_ mlength_ mhead_ mbegin_ mtoken_ mvalue_ mbad_ mbadPlace_ mfaultKind_ mfaultPlace_ mdeep_ mlawMany_ mlawAt_ nstack_ nasked_ mfell_ mfellIn_ naside_ mstate_ mlanded_ mwaitFalls_ mwaitWeight_ nfallsAfter_ nfalling_ ncomes_ ngoesOn_ nwayRow_ nmany_ nmanyThen_ mtoldLet_ ntSort_ ntMany_ nnumbers_ (1 : Int32) (rg_w rmtaped_ (by decide) (by decide)) (rg_w rmlength_ (by decide) (by decide)) (rg_w rmhead_ (by decide) (by decide)) (rg_w rmbegin_ (by decide) (by decide))) (cwVA 1 htA wd_1491 wd_1488 wd_10 wd_1490 wp_41 (by decide +kernel) ⟨by decide, by decide⟩) hP hD hS [0] [1] rfl rfl (by decide +kernel) 0 rfl rfl rfl rfl hl.1 rfl (Nat.le_of_ble_eq_true rfl) dX11_undo_30 (by decide) (fun v10010300_ W1 H locs hw hP hD hS => ?_)
    refine W.widen (k := 0) (n := 0) (by decide) (by decide) ?_
    obtain ⟨rfl, kr10000030_⟩ := hw
    have hP : va_P D vwCl [(nknown_, .inl (cy 0, 2260, .inl (fknown_))), (nm_, .inr (11, [.ref nknown_, .ref ntelling_, .ref nimages_, .ref nisImage_, .int 1, .ref ntape_, .int mtaped_, .int mlength_, .int mhead_, .int mbegin_, .int mtoken_, .int mvalue_, .int mbad_, .int mbadPlace_, .int mfaultKind_, .int mfaultPlace_, .int mdeep_, .int mlawMany_, .int mlawAt_, .ref nstack_, .ref nasked_, .int mfell_, .int mfellIn_, .ref naside_, .int mstate_, .int mlanded_, .int mwaitFalls_, .int mwaitWeight_, .ref nfallsAfter_, .ref nfalling_, .ref ncomes_, .ref ngoesOn_, .ref nwayRow_, .ref nmany_, .ref nmanyThen_, .int mtoldLet_, .ref ntSort_, .ref ntMany_, .ref nnumbers_]))] H := hP
    have hD := va_ca hP hD
    have hP : va_P D vwCl [(nm_, .inr (11, [.ref nknown_, .ref ntelling_, .ref nimages_, .ref nisImage_, .int 1, .ref ntape_, .int mtaped_, .int mlength_, .int mhead_, .int mbegin_, .int mtoken_, .int mvalue_, .int mbad_, .int mbadPlace_, .int mfaultKind_, .int mfaultPlace_, .int mdeep_, .int mlawMany_, .int mlawAt_, .ref nstack_, .ref nasked_, .int mfell_, .int mfellIn_, .ref naside_, .int mstate_, .int mlanded_, .int mwaitFalls_, .int mwaitWeight_, .ref nfallsAfter_, .ref nfalling_, .ref ncomes_, .ref ngoesOn_, .ref nwayRow_, .ref nmany_, .ref nmanyThen_, .int mtoldLet_, .ref ntSort_, .ref ntMany_, .ref nnumbers_])), (nknown_, .inl (cy 0, 2260, .inl (fknown_)))] H := hP.sub [1, 0] rfl
    have hD : va_D A [(nm_, .inr (11, [.ref nknown_, .ref ntelling_, .ref nimages_, .ref nisImage_, .int 1, .ref ntape_, .int mtaped_, .int mlength_, .int mhead_, .int mbegin_, .int mtoken_, .int mvalue_, .int mbad_, .int mbadPlace_, .int mfaultKind_, .int mfaultPlace_, .int mdeep_, .int mlawMany_, .int mlawAt_, .ref nstack_, .ref nasked_, .int mfell_, .int mfellIn_, .ref naside_, .int mstate_, .int mlanded_, .int mwaitFalls_, .int mwaitWeight_, .ref nfallsAfter_, .ref nfalling_, .ref ncomes_, .ref ngoesOn_, .ref nwayRow_, .ref nmany_, .ref nmanyThen_, .int mtoldLet_, .ref ntSort_, .ref ntMany_, .ref nnumbers_])), (nknown_, .inl (cy 0, 2260, .inl (fknown_)))] := hD.sub [1, 0] (by decide +kernel) rfl
    exact rI hX hE hP hD hS dX11_undo_33 (by decide) (by decide) ⟨1, fknown_, (rg_w (rg_lit (by decide) : rg (1) (1) (1 : Int32)) (by decide) (by decide)), rfknown_, rfl, (rg_w kr10000030_ (by decide) (by decide))⟩
  · have hP : va_P D vwCl [(nm_, .inr (11, [.ref nknown_, .ref ntelling_, .ref nimages_, .ref nisImage_, .int 0, .ref ntape_, .int mtaped_, .int mlength_, .int mhead_, .int mbegin_, .int mtoken_, .int mvalue_, .int mbad_, .int mbadPlace_, .int mfaultKind_, .int mfaultPlace_, .int mdeep_, .int mlawMany_, .int mlawAt_, .ref nstack_, .ref nasked_, .int mfell_, .int mfellIn_, .ref naside_, .int mstate_, .int mlanded_, .int mwaitFalls_, .int mwaitWeight_, .ref nfallsAfter_, .ref nfalling_, .ref ncomes_, .ref ngoesOn_, .ref nwayRow_, .ref nmany_, .ref nmanyThen_, .int mtoldLet_, .ref ntSort_, .ref ntMany_, .ref nnumbers_])), (nknown_, .inl (cy 0, 2260, .inl (fknown_)))] H := hP
    have hD := va_ca hP hD
    have g3_ : rl (1) (2147483647) n_.toInt64 := rl_le2 k11_2_ (rl_lit (by decide) : rl (1) (1) (1 : Int64)) (rl_cut g1_ k11_0_) (by decide)
    have g4_ : rl (10) (2147483647) n_.toInt64 := rl_le2 k11_3_ (rl_lit (by decide) : rl (10) (10) (10 : Int64)) g3_ (by decide)
    refine lv_if_eq (tgt := 28) hx hb dX11_undo_14 (by decide) (fun c20000014_ => ?_) (fun c20000014_ => rg_ne0 c20000014_ kr11_ (rg_lit (by decide) : rg (0) (0) (0 : Int32)))
    refine lv_aload_n hx hb dX11_undo_28 rfl (lv_at hl 0 rfl) ?_
    refine lv_iconst (v := 1) hx hb dX11_undo_29 (by decide) ?_
    refine kVi (As := [.int 1]) (rest := []) (wr := [(nknown_, .inl (cy 0, 2260, .inl (fknown_)))]) hX hE (sf_X11_fails l D cy nm_ nknown_ ntelling_ nimages_ nisImage_ (0 : Int32) ntape_ mtaped_ mlength_ mhead_ mbegin_ mtoken_ mvalue_ mbad_ mbadPlace_ mfaultKind_ mfaultPlace_ mdeep_ mlawMany_ mlawAt_ nstack_ nasked_ mfell_ mfellIn_ naside_ mstate_ mlanded_ mwaitFalls_ mwaitWeight_ nfallsAfter_ nfalling_ ncomes_ ngoesOn_ nwayRow_ nmany_ nmanyThen_ mtoldLet_ ntSort_ ntMany_ nnumbers_ (1 : Int32) (rg_w rmtaped_ (by decide) (by decide)) (rg_w rmlength_ (by decide) (by decide)) (rg_w rmhead_ (by decide) (by decide)) (rg_w rmbegin_ (by decide) (by decide))) (cwVA 1 htA wd_1491 wd_1488 wd_10 wd_1490 wp_41 (by decide +kernel) ⟨by decide, by decide⟩) hP hD hS [0] [1] rfl rfl (by decide +kernel) 0 rfl rfl rfl rfl hl.1 rfl (Nat.le_of_ble_eq_true rfl) dX11_undo_30 (by decide) (fun v20010300_ W1 H locs hw hP hD hS => ?_)
    refine W.widen (k := 0) (n := 0) (by decide) (by decide) ?_
    obtain ⟨rfl, kr20000030_⟩ := hw
    have hP : va_P D vwCl [(nknown_, .inl (cy 0, 2260, .inl (fknown_))), (nm_, .inr (11, [.ref nknown_, .ref ntelling_, .ref nimages_, .ref nisImage_, .int 1, .ref ntape_, .int mtaped_, .int mlength_, .int mhead_, .int mbegin_, .int mtoken_, .int mvalue_, .int mbad_, .int mbadPlace_, .int mfaultKind_, .int mfaultPlace_, .int mdeep_, .int mlawMany_, .int mlawAt_, .ref nstack_, .ref nasked_, .int mfell_, .int mfellIn_, .ref naside_, .int mstate_, .int mlanded_, .int mwaitFalls_, .int mwaitWeight_, .ref nfallsAfter_, .ref nfalling_, .ref ncomes_, .ref ngoesOn_, .ref nwayRow_, .ref nmany_, .ref nmanyThen_, .int mtoldLet_, .ref ntSort_, .ref ntMany_, .ref nnumbers_]))] H := hP
    have hD := va_ca hP hD
    have hP : va_P D vwCl [(nm_, .inr (11, [.ref nknown_, .ref ntelling_, .ref nimages_, .ref nisImage_, .int 1, .ref ntape_, .int mtaped_, .int mlength_, .int mhead_, .int mbegin_, .int mtoken_, .int mvalue_, .int mbad_, .int mbadPlace_, .int mfaultKind_, .int mfaultPlace_, .int mdeep_, .int mlawMany_, .int mlawAt_, .ref nstack_, .ref nasked_, .int mfell_, .int mfellIn_, .ref naside_, .int mstate_, .int mlanded_, .int mwaitFalls_, .int mwaitWeight_, .ref nfallsAfter_, .ref nfalling_, .ref ncomes_, .ref ngoesOn_, .ref nwayRow_, .ref nmany_, .ref nmanyThen_, .int mtoldLet_, .ref ntSort_, .ref ntMany_, .ref nnumbers_])), (nknown_, .inl (cy 0, 2260, .inl (fknown_)))] H := hP.sub [1, 0] rfl
    have hD : va_D A [(nm_, .inr (11, [.ref nknown_, .ref ntelling_, .ref nimages_, .ref nisImage_, .int 1, .ref ntape_, .int mtaped_, .int mlength_, .int mhead_, .int mbegin_, .int mtoken_, .int mvalue_, .int mbad_, .int mbadPlace_, .int mfaultKind_, .int mfaultPlace_, .int mdeep_, .int mlawMany_, .int mlawAt_, .ref nstack_, .ref nasked_, .int mfell_, .int mfellIn_, .ref naside_, .int mstate_, .int mlanded_, .int mwaitFalls_, .int mwaitWeight_, .ref nfallsAfter_, .ref nfalling_, .ref ncomes_, .ref ngoesOn_, .ref nwayRow_, .ref nmany_, .ref nmanyThen_, .int mtoldLet_, .ref ntSort_, .ref ntMany_, .ref nnumbers_])), (nknown_, .inl (cy 0, 2260, .inl (fknown_)))] := hD.sub [1, 0] (by decide +kernel) rfl
    exact rI hX hE hP hD hS dX11_undo_33 (by decide) (by decide) ⟨1, fknown_, (rg_w (rg_lit (by decide) : rg (1) (1) (1 : Int32)) (by decide) (by decide)), rfknown_, rfl, (rg_w kr20000030_ (by decide) (by decide))⟩
  · have hP : va_P D vwCl [(nm_, .inr (11, [.ref nknown_, .ref ntelling_, .ref nimages_, .ref nisImage_, .int 0, .ref ntape_, .int mtaped_, .int mlength_, .int mhead_, .int mbegin_, .int mtoken_, .int mvalue_, .int mbad_, .int mbadPlace_, .int mfaultKind_, .int mfaultPlace_, .int mdeep_, .int mlawMany_, .int mlawAt_, .ref nstack_, .ref nasked_, .int mfell_, .int mfellIn_, .ref naside_, .int mstate_, .int mlanded_, .int mwaitFalls_, .int mwaitWeight_, .ref nfallsAfter_, .ref nfalling_, .ref ncomes_, .ref ngoesOn_, .ref nwayRow_, .ref nmany_, .ref nmanyThen_, .int mtoldLet_, .ref ntSort_, .ref ntMany_, .ref nnumbers_])), (nknown_, .inl (cy 0, 2260, .inl (fknown_)))] H := hP
    have hD := va_ca hP hD
    have g5_ : rl (-2147483648) (10) n_.toInt64 := rl_le1 k11_0_ g1_ (rl_lit (by decide) : rl (10) (10) (10 : Int64)) (by decide)
    have g6_ : rl (1) (10) n_.toInt64 := rl_le2 k11_1_ (rl_lit (by decide) : rl (1) (1) (1 : Int64)) g5_ (by decide)
    refine lv_if_eq (tgt := 28) hx hb dX11_undo_14 (by decide) (fun c30000014_ => rg_eqab c30000014_ kr11_ (rg_lit (by decide) : rg (0) (0) (0 : Int32)) (by decide)) (fun c30000014_ => ?_)
    refine lv_iload_n hx hb dX11_undo_17 rfl (lv_at hl 1 rfl) ?_
    refine lv_aload_n hx hb dX11_undo_18 rfl (lv_at hl 0 rfl) ?_
    refine va_get (ci := 11) (v := .ref nknown_) (C := RX11) (T := TX11) (N := 39) hx hb htA in_X11 hown hK hP 0 rfl rfl 0 (by decide) (htA _ wd_1354) (fun _ h => h) rfl dX11_undo_19 ?_
    refine lv_bipush (v := 7) hx hb dX11_undo_22 (by decide) ?_
    refine va_iald hx hb hK hP 1 0 rfl rfl (in_lit (by decide)) dX11_undo_24 ?_
    refine lv_topi (fun v30010240_ ev30010240_ => ?_)
    have g7_ : rg (0) (10) v30010240_ := by rw [ev30010240_]; exact KX_l kb_7 rfknown_ (rg_lit (by decide) : rg (7) (7) (7 : Int32)) (by decide) (by decide)
    refine lv_icmp_le (tgt := 34) hx hb dX11_undo_25 (by decide) (fun c30000025_ => ?_) (fun c30000025_ => ?_)
    · have g8_ : rg (1) (10) v30010240_ := rg_le2 c30000025_ (rl_b g6_) g7_ (by decide)
      refine lv_aload_n hx hb dX11_undo_34 rfl (lv_at hl 0 rfl) ?_
      refine va_get (ci := 11) (v := .ref nknown_) (C := RX11) (T := TX11) (N := 39) hx hb htA in_X11 hown hK hP 0 rfl rfl 0 (by decide) (htA _ wd_1354) (fun _ h => h) rfl dX11_undo_35 ?_
      refine lv_bipush (v := 7) hx hb dX11_undo_38 (by decide) ?_
      refine lv_dup2_11 hx hb dX11_undo_40 rfl rfl ?_
      refine va_iald hx hb hK hP 1 0 rfl rfl (in_lit (by decide)) dX11_undo_41 ?_
      refine lv_topi (fun v30010410_ ev30010410_ => ?_)
      obtain rfl : v30010240_ = v30010410_ := ev30010240_.trans ev30010410_.symm
      refine lv_iload_n hx hb dX11_undo_42 rfl (lv_at hl 1 rfl) ?_
      refine lv_isub hx hb dX11_undo_43 ?_
      have g9_ : rg (0) (9) (v30010240_ - n_) := rg_subl c30000025_ g8_ (rl_b g6_) (by decide) (by decide)
      refine va_iast hx hb hK hP hD hS 1 0 rfl rfl (in_lit (by decide)) dX11_undo_44 (fun H locs hP hD hS => ?_)
      have ga10_ : KX C_ L_ 0 hb_ hb_ (upd fknown_ ((7 : Int32).toNatClampNeg) (v30010240_ - n_)) := KX_s kb_7 rfknown_ (rg_lit (by decide) : rg (7) (7) (7 : Int32)) (rg_w g9_ (by decide) (by decide)) (by decide) (by decide) (by decide)
      have hP : va_P D vwCl [(nm_, .inr (11, [.ref nknown_, .ref ntelling_, .ref nimages_, .ref nisImage_, .int 0, .ref ntape_, .int mtaped_, .int mlength_, .int mhead_, .int mbegin_, .int mtoken_, .int mvalue_, .int mbad_, .int mbadPlace_, .int mfaultKind_, .int mfaultPlace_, .int mdeep_, .int mlawMany_, .int mlawAt_, .ref nstack_, .ref nasked_, .int mfell_, .int mfellIn_, .ref naside_, .int mstate_, .int mlanded_, .int mwaitFalls_, .int mwaitWeight_, .ref nfallsAfter_, .ref nfalling_, .ref ncomes_, .ref ngoesOn_, .ref nwayRow_, .ref nmany_, .ref nmanyThen_, .int mtoldLet_, .ref ntSort_, .ref ntMany_, .ref nnumbers_])), (nknown_, .inl (cy 0, 2260, .inl (upd fknown_ ((7 : Int32).toNatClampNeg) (v30010240_ - n_))))] H := hP
      have hD := va_ca hP hD
      refine lv_iconst (v := 0) hx hb dX11_undo_45 (by decide) ?_
      refine lv_istore_n (lv' := [(2, .int 0), (0, .ref nm_), (1, .int n_)]) hx hb dX11_undo_46 rfl hl (by decide) rfl (fun ls hl => ?_)
      refine loopT (τ := Int32 × (Nat → Int32)) (WS := fun i => [(nm_, .inr (11, [.ref nknown_, .ref ntelling_, .ref nimages_, .ref nisImage_, .int 0, .ref ntape_, .int mtaped_, .int mlength_, .int mhead_, .int mbegin_, .int mtoken_, .int mvalue_, .int mbad_, .int mbadPlace_, .int mfaultKind_, .int mfaultPlace_, .int mdeep_, .int mlawMany_, .int mlawAt_, .ref nstack_, .ref nasked_, .int mfell_, .int mfellIn_, .ref naside_, .int mstate_, .int mlanded_, .int mwaitFalls_, .int mwaitWeight_, .ref nfallsAfter_, .ref nfalling_, .ref ncomes_, .ref ngoesOn_, .ref nwayRow_, .ref nmany_, .ref nmanyThen_, .int mtoldLet_, .ref ntSort_, .ref ntMany_, .ref nnumbers_])), (nknown_, .inl (cy 0, 2260, .inl (i.2)))]) (LV := fun i => [(2, .int i.1), (0, .ref nm_), (1, .int n_)]) (fun i => (38 - i.1.toInt).toNat) (fun i => rg (0) (37) i.1 ∧ i.2 = cp (upd fknown_ ((7 : Int32).toNatClampNeg) (v30010240_ - n_)) (upd fknown_ ((7 : Int32).toNatClampNeg) (v30010240_ - n_)) (89 + 37 * ((upd fknown_ ((7 : Int32).toNatClampNeg) (v30010240_ - n_)) 7).toNatClampNeg) 8 i.1.toNatClampNeg) ?_ (0, upd fknown_ ((7 : Int32).toNatClampNeg) (v30010240_ - n_)) ⟨(rg_w (rg_lit (by decide) : rg (0) (0) (0 : Int32)) (by decide) (by decide)), kv_0⟩ hP hD hS (lv_sub hl [0, 1, 2] rfl)
      intro i_ H locs ls hI ih47_ hP hD hS hl
      obtain ⟨v30204700_, g30204701_⟩ := i_
      have hI : rg (0) (37) v30204700_ ∧ g30204701_ = cp (upd fknown_ ((7 : Int32).toNatClampNeg) (v30010240_ - n_)) (upd fknown_ ((7 : Int32).toNatClampNeg) (v30010240_ - n_)) (89 + 37 * ((upd fknown_ ((7 : Int32).toNatClampNeg) (v30010240_ - n_)) 7).toNatClampNeg) 8 v30204700_.toNatClampNeg := hI
      obtain ⟨rv30204700_, xi47_⟩ := hI
      have hP : va_P D vwCl [(nm_, .inr (11, [.ref nknown_, .ref ntelling_, .ref nimages_, .ref nisImage_, .int 0, .ref ntape_, .int mtaped_, .int mlength_, .int mhead_, .int mbegin_, .int mtoken_, .int mvalue_, .int mbad_, .int mbadPlace_, .int mfaultKind_, .int mfaultPlace_, .int mdeep_, .int mlawMany_, .int mlawAt_, .ref nstack_, .ref nasked_, .int mfell_, .int mfellIn_, .ref naside_, .int mstate_, .int mlanded_, .int mwaitFalls_, .int mwaitWeight_, .ref nfallsAfter_, .ref nfalling_, .ref ncomes_, .ref ngoesOn_, .ref nwayRow_, .ref nmany_, .ref nmanyThen_, .int mtoldLet_, .ref ntSort_, .ref ntMany_, .ref nnumbers_])), (nknown_, .inl (cy 0, 2260, .inl (g30204701_)))] H := hP
      have hD := va_ca hP hD
      have hl : lv_has ls 3 [(2, .int v30204700_), (0, .ref nm_), (1, .int n_)] := hl
      refine lv_iload_n hx hb dX11_undo_47 rfl (lv_at hl 0 rfl) ?_
      refine lv_bipush (v := 37) hx hb dX11_undo_48 (by decide) ?_
      refine lv_icmp_ge (tgt := 88) hx hb dX11_undo_50 (by decide) (fun c30000050_ => ?_) (fun c30000050_ => ?_)
      · have g11_ : rg (37) (37) v30204700_ := rg_le2 c30000050_ (rg_lit (by decide) : rg (37) (37) (37 : Int32)) rv30204700_ (by decide)
        have hq88_ := kv_e xi47_ g11_ (by decide) (by decide) (rg_w (el_st g9_) (by decide) (by decide)) ga10_
        refine lv_aload_n hx hb dX11_undo_88 rfl (lv_at hl 1 rfl) ?_
        refine va_get (ci := 11) (v := .ref nknown_) (C := RX11) (T := TX11) (N := 39) hx hb htA in_X11 hown hK hP 0 rfl rfl 0 (by decide) (htA _ wd_1354) (fun _ h => h) rfl dX11_undo_89 ?_
        refine lv_bipush (v := 7) hx hb dX11_undo_92 (by decide) ?_
        refine va_iald hx hb hK hP 1 0 rfl rfl (in_lit (by decide)) dX11_undo_94 ?_
        refine lv_topi (fun v30010940_ ev30010940_ => ?_)
        have g12_ : rg (0) (10) v30010940_ := by rw [ev30010940_]; exact KX_l kb_7 hq88_.1 (rg_lit (by decide) : rg (7) (7) (7 : Int32)) (by decide) (by decide)
        exact rI hX hE hP hD hS dX11_undo_95 (by decide) (by decide) ⟨0, g30204701_, (rg_w (rg_lit (by decide) : rg (0) (0) (0 : Int32)) (by decide) (by decide)), hq88_.1, rfl, (rg_w g12_ (by decide) (by decide))⟩
      · have g13_ : rg (0) (36) v30204700_ := rg_lt1 (rg_nle c30000050_) rv30204700_ (rg_lit (by decide) : rg (37) (37) (37 : Int32)) (by decide)
        refine lv_aload_n hx hb dX11_undo_53 rfl (lv_at hl 1 rfl) ?_
        refine va_get (ci := 11) (v := .ref nknown_) (C := RX11) (T := TX11) (N := 39) hx hb htA in_X11 hown hK hP 0 rfl rfl 0 (by decide) (htA _ wd_1354) (fun _ h => h) rfl dX11_undo_54 ?_
        refine lv_bipush (v := 8) hx hb dX11_undo_57 (by decide) ?_
        refine lv_iload_n hx hb dX11_undo_59 rfl (lv_at hl 0 rfl) ?_
        refine lv_iadd hx hb dX11_undo_60 ?_
        have g14_ : rg (8) (44) (8 + v30204700_) := rg_add (rg_lit (by decide) : rg (8) (8) (8 : Int32)) g13_ (by decide) (by decide) (by decide) (by decide)
        refine lv_aload_n hx hb dX11_undo_61 rfl (lv_at hl 1 rfl) ?_
        refine va_get (ci := 11) (v := .ref nknown_) (C := RX11) (T := TX11) (N := 39) hx hb htA in_X11 hown hK hP 0 rfl rfl 0 (by decide) (htA _ wd_1354) (fun _ h => h) rfl dX11_undo_62 ?_
        refine lv_bipush (v := 89) hx hb dX11_undo_65 (by decide) ?_
        refine lv_bipush (v := 37) hx hb dX11_undo_67 (by decide) ?_
        refine lv_aload_n hx hb dX11_undo_69 rfl (lv_at hl 1 rfl) ?_
        refine va_get (ci := 11) (v := .ref nknown_) (C := RX11) (T := TX11) (N := 39) hx hb htA in_X11 hown hK hP 0 rfl rfl 0 (by decide) (htA _ wd_1354) (fun _ h => h) rfl dX11_undo_70 ?_
        refine lv_bipush (v := 7) hx hb dX11_undo_73 (by decide) ?_
        refine va_iald hx hb hK hP 1 0 rfl rfl (in_lit (by decide)) dX11_undo_75 ?_
        refine lv_topi (fun v30010750_ ev30010750_ => ?_)
        have g76_ : rg (0) (9) v30010750_ := by rw [kv_v xi47_ ev30010750_]; exact (rg_w (el_st g9_) (by decide) (by decide))
        refine lv_imul hx hb dX11_undo_76 ?_
        have g15_ : rg (0) (333) (37 * v30010750_) := rg_mulc (k := 37) (by decide) g76_ (by decide) (by decide) (by decide) (by decide) (by decide)
        refine lv_iadd hx hb dX11_undo_77 ?_
        have g16_ : rg (89) (422) (89 + (37 * v30010750_)) := rg_add (rg_lit (by decide) : rg (89) (89) (89 : Int32)) g15_ (by decide) (by decide) (by decide) (by decide)
        refine lv_iload_n hx hb dX11_undo_78 rfl (lv_at hl 0 rfl) ?_
        refine lv_iadd hx hb dX11_undo_79 ?_
        have g17_ : rg (89) (458) ((89 + (37 * v30010750_)) + v30204700_) := rg_add g16_ g13_ (by decide) (by decide) (by decide) (by decide)
        refine va_iald hx hb hK hP 1 0 rfl rfl (rg_in g17_ (by decide) (by decide)) dX11_undo_80 ?_
        refine lv_topi (fun v30010800_ ev30010800_ => ?_)
        refine va_iast hx hb hK hP hD hS 1 0 rfl rfl (rg_in g14_ (by decide) (by decide)) dX11_undo_81 (fun H locs hP hD hS => ?_)
        have hP : va_P D vwCl [(nm_, .inr (11, [.ref nknown_, .ref ntelling_, .ref nimages_, .ref nisImage_, .int 0, .ref ntape_, .int mtaped_, .int mlength_, .int mhead_, .int mbegin_, .int mtoken_, .int mvalue_, .int mbad_, .int mbadPlace_, .int mfaultKind_, .int mfaultPlace_, .int mdeep_, .int mlawMany_, .int mlawAt_, .ref nstack_, .ref nasked_, .int mfell_, .int mfellIn_, .ref naside_, .int mstate_, .int mlanded_, .int mwaitFalls_, .int mwaitWeight_, .ref nfallsAfter_, .ref nfalling_, .ref ncomes_, .ref ngoesOn_, .ref nwayRow_, .ref nmany_, .ref nmanyThen_, .int mtoldLet_, .ref ntSort_, .ref ntMany_, .ref nnumbers_])), (nknown_, .inl (cy 0, 2260, .inl (upd g30204701_ ((8 + v30204700_).toNatClampNeg) v30010800_)))] H := hP
        have hD := va_ca hP hD
        refine lv_iinc (v := v30204700_ + 1) (lv' := [(2, .int (v30204700_ + 1)), (0, .ref nm_), (1, .int n_)]) hx hb dX11_undo_82 hl (k := 0) rfl rfl (by decide) rfl (fun ls hl => ?_)
        have g18_ : rg (1) (37) (v30204700_ + 1) := rg_add g13_ (rg_lit (by decide) : rg (1) (1) (1 : Int32)) (by decide) (by decide) (by decide) (by decide)
        refine lv_goto (tgt := 47) hx hb dX11_undo_85 (by decide) ?_
        exact ih47_ (v30204700_ + 1, upd g30204701_ ((8 + v30204700_).toNatClampNeg) v30010800_) _ _ ls ⟨(rg_w g18_ (by decide) (by decide)), (kv_s xi47_ (rg_w g13_ (by decide) (by decide)) (rg_w (el_st g9_) (by decide) (by decide)) ev30010750_ ev30010800_)⟩ (show (38 - (v30204700_ + 1).toInt).toNat < (38 - v30204700_.toInt).toNat from by rw [show (v30204700_ + 1).toInt = v30204700_.toInt + 1 from inc32 v30204700_ (by have hq := (rv30204700_).2; omega)]; have hq := (g13_).1; have hq2 := (g13_).2; omega) hP hD hS (lv_sub hl [0, 1, 2] rfl)
    · have g19_ : rg (0) (9) v30010240_ := rg_lt1 (rg_nle c30000025_) g7_ (rl_b g6_) (by decide)
      refine lv_aload_n hx hb dX11_undo_28 rfl (lv_at hl 0 rfl) ?_
      refine lv_iconst (v := 1) hx hb dX11_undo_29 (by decide) ?_
      refine kVi (As := [.int 1]) (rest := []) (wr := [(nknown_, .inl (cy 0, 2260, .inl (fknown_)))]) hX hE (sf_X11_fails l D cy nm_ nknown_ ntelling_ nimages_ nisImage_ (0 : Int32) ntape_ mtaped_ mlength_ mhead_ mbegin_ mtoken_ mvalue_ mbad_ mbadPlace_ mfaultKind_ mfaultPlace_ mdeep_ mlawMany_ mlawAt_ nstack_ nasked_ mfell_ mfellIn_ naside_ mstate_ mlanded_ mwaitFalls_ mwaitWeight_ nfallsAfter_ nfalling_ ncomes_ ngoesOn_ nwayRow_ nmany_ nmanyThen_ mtoldLet_ ntSort_ ntMany_ nnumbers_ (1 : Int32) (rg_w rmtaped_ (by decide) (by decide)) (rg_w rmlength_ (by decide) (by decide)) (rg_w rmhead_ (by decide) (by decide)) (rg_w rmbegin_ (by decide) (by decide))) (cwVA 1 htA wd_1491 wd_1488 wd_10 wd_1490 wp_41 (by decide +kernel) ⟨by decide, by decide⟩) hP hD hS [0] [1] rfl rfl (by decide +kernel) 0 rfl rfl rfl rfl hl.1 rfl (Nat.le_of_ble_eq_true rfl) dX11_undo_30 (by decide) (fun v30010300_ W1 H locs hw hP hD hS => ?_)
      refine W.widen (k := 0) (n := 0) (by decide) (by decide) ?_
      obtain ⟨rfl, kr30000030_⟩ := hw
      have hP : va_P D vwCl [(nknown_, .inl (cy 0, 2260, .inl (fknown_))), (nm_, .inr (11, [.ref nknown_, .ref ntelling_, .ref nimages_, .ref nisImage_, .int 1, .ref ntape_, .int mtaped_, .int mlength_, .int mhead_, .int mbegin_, .int mtoken_, .int mvalue_, .int mbad_, .int mbadPlace_, .int mfaultKind_, .int mfaultPlace_, .int mdeep_, .int mlawMany_, .int mlawAt_, .ref nstack_, .ref nasked_, .int mfell_, .int mfellIn_, .ref naside_, .int mstate_, .int mlanded_, .int mwaitFalls_, .int mwaitWeight_, .ref nfallsAfter_, .ref nfalling_, .ref ncomes_, .ref ngoesOn_, .ref nwayRow_, .ref nmany_, .ref nmanyThen_, .int mtoldLet_, .ref ntSort_, .ref ntMany_, .ref nnumbers_]))] H := hP
      have hD := va_ca hP hD
      have hP : va_P D vwCl [(nm_, .inr (11, [.ref nknown_, .ref ntelling_, .ref nimages_, .ref nisImage_, .int 1, .ref ntape_, .int mtaped_, .int mlength_, .int mhead_, .int mbegin_, .int mtoken_, .int mvalue_, .int mbad_, .int mbadPlace_, .int mfaultKind_, .int mfaultPlace_, .int mdeep_, .int mlawMany_, .int mlawAt_, .ref nstack_, .ref nasked_, .int mfell_, .int mfellIn_, .ref naside_, .int mstate_, .int mlanded_, .int mwaitFalls_, .int mwaitWeight_, .ref nfallsAfter_, .ref nfalling_, .ref ncomes_, .ref ngoesOn_, .ref nwayRow_, .ref nmany_, .ref nmanyThen_, .int mtoldLet_, .ref ntSort_, .ref ntMany_, .ref nnumbers_])), (nknown_, .inl (cy 0, 2260, .inl (fknown_)))] H := hP.sub [1, 0] rfl
      have hD : va_D A [(nm_, .inr (11, [.ref nknown_, .ref ntelling_, .ref nimages_, .ref nisImage_, .int 1, .ref ntape_, .int mtaped_, .int mlength_, .int mhead_, .int mbegin_, .int mtoken_, .int mvalue_, .int mbad_, .int mbadPlace_, .int mfaultKind_, .int mfaultPlace_, .int mdeep_, .int mlawMany_, .int mlawAt_, .ref nstack_, .ref nasked_, .int mfell_, .int mfellIn_, .ref naside_, .int mstate_, .int mlanded_, .int mwaitFalls_, .int mwaitWeight_, .ref nfallsAfter_, .ref nfalling_, .ref ncomes_, .ref ngoesOn_, .ref nwayRow_, .ref nmany_, .ref nmanyThen_, .int mtoldLet_, .ref ntSort_, .ref ntMany_, .ref nnumbers_])), (nknown_, .inl (cy 0, 2260, .inl (fknown_)))] := hD.sub [1, 0] (by decide +kernel) rfl
      exact rI hX hE hP hD hS dX11_undo_33 (by decide) (by decide) ⟨1, fknown_, (rg_w (rg_lit (by decide) : rg (1) (1) (1 : Int32)) (by decide) (by decide)), rfknown_, rfl, (rg_w kr30000030_ (by decide) (by decide))⟩
