def R_X11_laysStep_5_w_e (mbad_ : Int32) (ftelling_ : Nat → Int32) (st_ : Int32) (x0_ : Nat → Int32) : Prop := (∃ (v10010240_ : Int32) (v10010370_ : Int32), mbad_ = (0 : Int32) ∧ v10010240_ = ftelling_ (5 : Int32).toNatClampNeg ∧ v10010370_ = (upd ftelling_ ((459 + v10010240_).toNatClampNeg) st_) (5 : Int32).toNatClampNeg ∧ x0_ = upd (upd ftelling_ ((459 + v10010240_).toNatClampNeg) st_) ((5 : Int32).toNatClampNeg) (v10010370_ + 1)) ∨ (¬ (mbad_ = (0 : Int32)) ∧ x0_ = ftelling_) ∨ False
set_option maxHeartbeats 4000000 in
set_option maxRecDepth 100000 in
theorem sf_X11_laysStep_5_w (l : Launch) (D : va_G) (cy : Nat → ClassId) (nm_ : Nat) (nknown_ : Nat) (ntelling_ : Nat) (nimages_ : Nat) (nisImage_ : Nat) (mthrown_ : Int32) (ntape_ : Nat) (mtaped_ : Int32) (mlength_ : Int32) (mhead_ : Int32) (mbegin_ : Int32) (mtoken_ : Int32) (mvalue_ : Int32) (mbad_ : Int32) (mbadPlace_ : Int32) (mfaultKind_ : Int32) (mfaultPlace_ : Int32) (mdeep_ : Int32) (nstack_ : Nat) (nasked_ : Nat) (mfell_ : Int32) (mfellIn_ : Int32) (naside_ : Nat) (mstate_ : Int32) (mlanded_ : Int32) (mwaitFalls_ : Int32) (mwaitWeight_ : Int32) (nfallsAfter_ : Nat) (nfalling_ : Nat) (ncomes_ : Nat) (ngoesOn_ : Nat) (nwayRow_ : Nat) (nmany_ : Nat) (nmanyThen_ : Nat) (mtoldLet_ : Int32) (ntSort_ : Nat) (ntMany_ : Nat) (nnumbers_ : Nat) (ftelling_ : Nat → Int32) (st_ : Int32) (C_ : Int) (L_ : Int) (D_ : Int) (sg_ : Int) (rmtaped_ : rg (0) (900) mtaped_) (rmlength_ : rg (0) (900) mlength_) (rmhead_ : rg (0) (900) mhead_) (rmbegin_ : rg (0) (900) mbegin_) (rmbad_ : rg (0) (4) mbad_) (rst_ : rg (100) (105) st_) (rftelling_ : TX C_ L_ ftelling_) (hls_ : PA 5 459 (D_) (sg_ + 1) ftelling_ mbad_ mbegin_) (hsg_ : 0 ≤ sg_) (hD_ : 0 ≤ D_ ∧ D_ ≤ 63) : Cv l yX11_laysStep cX11_laysStep 2 none { frames := 0, cells := 0, slots := 0, locals := 0 } D cy [.ref nm_, .int st_] [(nm_, .inr (11, [.ref nknown_, .ref ntelling_, .ref nimages_, .ref nisImage_, .int mthrown_, .ref ntape_, .int mtaped_, .int mlength_, .int mhead_, .int mbegin_, .int mtoken_, .int mvalue_, .int mbad_, .int mbadPlace_, .int mfaultKind_, .int mfaultPlace_, .int mdeep_, .int 5, .int 459, .ref nstack_, .ref nasked_, .int mfell_, .int mfellIn_, .ref naside_, .int mstate_, .int mlanded_, .int mwaitFalls_, .int mwaitWeight_, .ref nfallsAfter_, .ref nfalling_, .ref ncomes_, .ref ngoesOn_, .ref nwayRow_, .ref nmany_, .ref nmanyThen_, .int mtoldLet_, .ref ntSort_, .ref ntMany_, .ref nnumbers_])), (ntelling_, .inl (cy 0, 2260, .inl (ftelling_)))] (fun W1 => ∃ (x0_ : Nat → Int32), TX C_ L_ x0_ ∧ PA 5 459 (D_ + 1) (sg_) x0_ mbad_ mbegin_ ∧ R_X11_laysStep_5_w_e mbad_ ftelling_ st_ x0_ ∧ W1 = [(nm_, .inr (11, [.ref nknown_, .ref ntelling_, .ref nimages_, .ref nisImage_, .int mthrown_, .ref ntape_, .int mtaped_, .int mlength_, .int mhead_, .int mbegin_, .int mtoken_, .int mvalue_, .int mbad_, .int mbadPlace_, .int mfaultKind_, .int mfaultPlace_, .int mdeep_, .int 5, .int 459, .ref nstack_, .ref nasked_, .int mfell_, .int mfellIn_, .ref naside_, .int mstate_, .int mlanded_, .int mwaitFalls_, .int mwaitWeight_, .ref nfallsAfter_, .ref nfalling_, .ref ncomes_, .ref ngoesOn_, .ref nwayRow_, .ref nmany_, .ref nmanyThen_, .int mtoldLet_, .ref ntSort_, .ref ntMany_, .ref nnumbers_])), (ntelling_, .inl (cy 0, 2260, .inl (x0_)))]) := by
  refine Cv.of (by decide) (Nat.le_of_ble_eq_true rfl) ?_
  intro p e s m below meth c A ls hX hE hP hD hl hin
  obtain ⟨hx, hb, hr, hml, hown, htA, hlk⟩ := id hX
  have hK := hE.1
  have hS : va_S A s.heap s.heap [] := va_S.rf
  have hl : lv_has ls 2 [(0, .ref nm_), (1, .int st_)] := hl
  refine lv_aload_n hx hb dX11_laysStep_0 rfl (lv_at hl 0 rfl) ?_
  refine va_get (ci := 11) (v := .int mbad_) (C := RX11) (T := TX11) (N := 39) hx hb htA in_X11 hown hK hP 0 rfl rfl 12 (by decide) (htA _ wd_1366) (fun _ h => h) rfl dX11_laysStep_1 ?_
  refine lv_if_eq (tgt := 8) hx hb dX11_laysStep_4 (by decide) (fun c4_ => ?_) (fun c4_ => ?_)
  · have g1_ : rg (0) (0) mbad_ := rg_eq c4_ (rg_lit (by decide) : rg (0) (0) (0 : Int32))
    refine lv_aload_n hx hb dX11_laysStep_8 rfl (lv_at hl 0 rfl) ?_
    refine va_get (ci := 11) (v := .ref ntelling_) (C := RX11) (T := TX11) (N := 39) hx hb htA in_X11 hown hK hP 0 rfl rfl 1 (by decide) (htA _ wd_1355) (fun _ h => h) rfl dX11_laysStep_9 ?_
    refine lv_aload_n hx hb dX11_laysStep_12 rfl (lv_at hl 0 rfl) ?_
    refine va_get (ci := 11) (v := .int 459) (C := RX11) (T := TX11) (N := 39) hx hb htA in_X11 hown hK hP 0 rfl rfl 18 (by decide) (htA _ wd_1372) (fun _ h => h) rfl dX11_laysStep_13 ?_
    refine lv_aload_n hx hb dX11_laysStep_16 rfl (lv_at hl 0 rfl) ?_
    refine va_get (ci := 11) (v := .ref ntelling_) (C := RX11) (T := TX11) (N := 39) hx hb htA in_X11 hown hK hP 0 rfl rfl 1 (by decide) (htA _ wd_1355) (fun _ h => h) rfl dX11_laysStep_17 ?_
    refine lv_aload_n hx hb dX11_laysStep_20 rfl (lv_at hl 0 rfl) ?_
    refine va_get (ci := 11) (v := .int 5) (C := RX11) (T := TX11) (N := 39) hx hb htA in_X11 hown hK hP 0 rfl rfl 17 (by decide) (htA _ wd_1371) (fun _ h => h) rfl dX11_laysStep_21 ?_
    refine va_iald hx hb hK hP 1 0 rfl rfl (in_lit (by decide)) dX11_laysStep_24 ?_
    refine lv_topi (fun v10010240_ ev10010240_ => ?_)
    have g2_ : rg (0) (900) v10010240_ := by rw [ev10010240_]; exact TX_l kb_5 rftelling_ (rg_lit (by decide) : rg (5) (5) (5 : Int32)) (by decide) (by decide)
    refine lv_iadd hx hb dX11_laysStep_25 ?_
    have g3_ : rg (459) (1359) (459 + v10010240_) := rg_add (rg_lit (by decide) : rg (459) (459) (459 : Int32)) g2_ (by decide) (by decide) (by decide) (by decide)
    refine lv_iload_n hx hb dX11_laysStep_26 rfl (lv_at hl 1 rfl) ?_
    refine va_iast hx hb hK hP hD hS 1 0 rfl rfl (rg_in g3_ (by decide) (by decide)) dX11_laysStep_27 (fun H locs hP hD hS => ?_)
    have hP : va_P D vwCl [(nm_, .inr (11, [.ref nknown_, .ref ntelling_, .ref nimages_, .ref nisImage_, .int mthrown_, .ref ntape_, .int mtaped_, .int mlength_, .int mhead_, .int mbegin_, .int mtoken_, .int mvalue_, .int mbad_, .int mbadPlace_, .int mfaultKind_, .int mfaultPlace_, .int mdeep_, .int 5, .int 459, .ref nstack_, .ref nasked_, .int mfell_, .int mfellIn_, .ref naside_, .int mstate_, .int mlanded_, .int mwaitFalls_, .int mwaitWeight_, .ref nfallsAfter_, .ref nfalling_, .ref ncomes_, .ref ngoesOn_, .ref nwayRow_, .ref nmany_, .ref nmanyThen_, .int mtoldLet_, .ref ntSort_, .ref ntMany_, .ref nnumbers_])), (ntelling_, .inl (cy 0, 2260, .inl (upd ftelling_ ((459 + v10010240_).toNatClampNeg) st_)))] H := hP
    have hD := va_ca hP hD
    refine lv_aload_n hx hb dX11_laysStep_28 rfl (lv_at hl 0 rfl) ?_
    refine va_get (ci := 11) (v := .ref ntelling_) (C := RX11) (T := TX11) (N := 39) hx hb htA in_X11 hown hK hP 0 rfl rfl 1 (by decide) (htA _ wd_1355) (fun _ h => h) rfl dX11_laysStep_29 ?_
    refine lv_aload_n hx hb dX11_laysStep_32 rfl (lv_at hl 0 rfl) ?_
    refine va_get (ci := 11) (v := .int 5) (C := RX11) (T := TX11) (N := 39) hx hb htA in_X11 hown hK hP 0 rfl rfl 17 (by decide) (htA _ wd_1371) (fun _ h => h) rfl dX11_laysStep_33 ?_
    refine lv_dup2_11 hx hb dX11_laysStep_36 rfl rfl ?_
    refine va_iald hx hb hK hP 1 0 rfl rfl (in_lit (by decide)) dX11_laysStep_37 ?_
    refine lv_topi (fun v10010370_ ev10010370_ => ?_)
    refine lv_iconst (v := 1) hx hb dX11_laysStep_38 (by decide) ?_
    refine lv_iadd hx hb dX11_laysStep_39 ?_
    refine va_iast hx hb hK hP hD hS 1 0 rfl rfl (in_lit (by decide)) dX11_laysStep_40 (fun H locs hP hD hS => ?_)
    have hP : va_P D vwCl [(nm_, .inr (11, [.ref nknown_, .ref ntelling_, .ref nimages_, .ref nisImage_, .int mthrown_, .ref ntape_, .int mtaped_, .int mlength_, .int mhead_, .int mbegin_, .int mtoken_, .int mvalue_, .int mbad_, .int mbadPlace_, .int mfaultKind_, .int mfaultPlace_, .int mdeep_, .int 5, .int 459, .ref nstack_, .ref nasked_, .int mfell_, .int mfellIn_, .ref naside_, .int mstate_, .int mlanded_, .int mwaitFalls_, .int mwaitWeight_, .ref nfallsAfter_, .ref nfalling_, .ref ncomes_, .ref ngoesOn_, .ref nwayRow_, .ref nmany_, .ref nmanyThen_, .int mtoldLet_, .ref ntSort_, .ref ntMany_, .ref nnumbers_])), (ntelling_, .inl (cy 0, 2260, .inl (upd (upd ftelling_ ((459 + v10010240_).toNatClampNeg) st_) ((5 : Int32).toNatClampNeg) (v10010370_ + 1))))] H := hP
    have hD := va_ca hP hD
    have hq41_ := ls_of (Or.inl ⟨rfl, rfl⟩) (by decide : (459 : Int32).toInt = ((459 : Nat) : Int)) (by decide : (5 : Int32).toNatClampNeg = 5) rftelling_ hls_ hsg_ g1_ rmbegin_ (okS_p rst_ (Or.inl (by decide)) hD_).1 (okS_p rst_ (Or.inl (by decide)) hD_).2 ev10010240_ ev10010370_
    exact rV hX hE hP hD hS dX11_laysStep_41 (by decide) (by decide) ⟨(upd (upd ftelling_ ((459 + v10010240_).toNatClampNeg) st_) ((5 : Int32).toNatClampNeg) (v10010370_ + 1)), hq41_.1, hq41_.2, (Or.inl ⟨v10010240_, v10010370_, c4_, ev10010240_, ev10010370_, rfl⟩), rfl⟩
  · have g4_ : rg (1) (4) mbad_ := rg_ne1 c4_ rmbad_ (by decide) (by decide)
    exact rV hX hE hP hD hS dX11_laysStep_7 (by decide) (by decide) ⟨ftelling_, rftelling_, (PA_n g4_ (by decide)), (Or.inr (Or.inl ⟨c4_, rfl⟩)), rfl⟩
def R_X11_laysStep_5_v_e (mbad_ : Int32) (ftelling_ : Nat → Int32) (st_ : Int32) (x0_ : Nat → Int32) : Prop := (∃ (v10010240_ : Int32) (v10010370_ : Int32), mbad_ = (0 : Int32) ∧ v10010240_ = ftelling_ (5 : Int32).toNatClampNeg ∧ v10010370_ = (upd ftelling_ ((459 + v10010240_).toNatClampNeg) st_) (5 : Int32).toNatClampNeg ∧ x0_ = upd (upd ftelling_ ((459 + v10010240_).toNatClampNeg) st_) ((5 : Int32).toNatClampNeg) (v10010370_ + 1)) ∨ (¬ (mbad_ = (0 : Int32)) ∧ x0_ = ftelling_) ∨ False
set_option maxHeartbeats 4000000 in
set_option maxRecDepth 100000 in
theorem sf_X11_laysStep_5_v (l : Launch) (D : va_G) (cy : Nat → ClassId) (nm_ : Nat) (nknown_ : Nat) (ntelling_ : Nat) (nimages_ : Nat) (nisImage_ : Nat) (mthrown_ : Int32) (ntape_ : Nat) (mtaped_ : Int32) (mlength_ : Int32) (mhead_ : Int32) (mbegin_ : Int32) (mtoken_ : Int32) (mvalue_ : Int32) (mbad_ : Int32) (mbadPlace_ : Int32) (mfaultKind_ : Int32) (mfaultPlace_ : Int32) (mdeep_ : Int32) (nstack_ : Nat) (nasked_ : Nat) (mfell_ : Int32) (mfellIn_ : Int32) (naside_ : Nat) (mstate_ : Int32) (mlanded_ : Int32) (mwaitFalls_ : Int32) (mwaitWeight_ : Int32) (nfallsAfter_ : Nat) (nfalling_ : Nat) (ncomes_ : Nat) (ngoesOn_ : Nat) (nwayRow_ : Nat) (nmany_ : Nat) (nmanyThen_ : Nat) (mtoldLet_ : Int32) (ntSort_ : Nat) (ntMany_ : Nat) (nnumbers_ : Nat) (ftelling_ : Nat → Int32) (st_ : Int32) (C_ : Int) (L_ : Int) (D_ : Int) (sg_ : Int) (rmtaped_ : rg (0) (900) mtaped_) (rmlength_ : rg (0) (900) mlength_) (rmhead_ : rg (0) (900) mhead_) (rmbegin_ : rg (0) (900) mbegin_) (rmbad_ : rg (0) (4) mbad_) (rst_ : rg (1000) (1999) st_) (rftelling_ : TX C_ L_ ftelling_) (hls_ : PA 5 459 (D_) (sg_ + 1) ftelling_ mbad_ mbegin_) (hsg_ : 0 ≤ sg_) (hD_ : 0 ≤ D_ ∧ D_ ≤ 63) : Cv l yX11_laysStep cX11_laysStep 2 none { frames := 0, cells := 0, slots := 0, locals := 0 } D cy [.ref nm_, .int st_] [(nm_, .inr (11, [.ref nknown_, .ref ntelling_, .ref nimages_, .ref nisImage_, .int mthrown_, .ref ntape_, .int mtaped_, .int mlength_, .int mhead_, .int mbegin_, .int mtoken_, .int mvalue_, .int mbad_, .int mbadPlace_, .int mfaultKind_, .int mfaultPlace_, .int mdeep_, .int 5, .int 459, .ref nstack_, .ref nasked_, .int mfell_, .int mfellIn_, .ref naside_, .int mstate_, .int mlanded_, .int mwaitFalls_, .int mwaitWeight_, .ref nfallsAfter_, .ref nfalling_, .ref ncomes_, .ref ngoesOn_, .ref nwayRow_, .ref nmany_, .ref nmanyThen_, .int mtoldLet_, .ref ntSort_, .ref ntMany_, .ref nnumbers_])), (ntelling_, .inl (cy 0, 2260, .inl (ftelling_)))] (fun W1 => ∃ (x0_ : Nat → Int32), TX C_ L_ x0_ ∧ PA 5 459 (D_ + 1) (sg_) x0_ mbad_ mbegin_ ∧ R_X11_laysStep_5_v_e mbad_ ftelling_ st_ x0_ ∧ W1 = [(nm_, .inr (11, [.ref nknown_, .ref ntelling_, .ref nimages_, .ref nisImage_, .int mthrown_, .ref ntape_, .int mtaped_, .int mlength_, .int mhead_, .int mbegin_, .int mtoken_, .int mvalue_, .int mbad_, .int mbadPlace_, .int mfaultKind_, .int mfaultPlace_, .int mdeep_, .int 5, .int 459, .ref nstack_, .ref nasked_, .int mfell_, .int mfellIn_, .ref naside_, .int mstate_, .int mlanded_, .int mwaitFalls_, .int mwaitWeight_, .ref nfallsAfter_, .ref nfalling_, .ref ncomes_, .ref ngoesOn_, .ref nwayRow_, .ref nmany_, .ref nmanyThen_, .int mtoldLet_, .ref ntSort_, .ref ntMany_, .ref nnumbers_])), (ntelling_, .inl (cy 0, 2260, .inl (x0_)))]) := by
  refine Cv.of (by decide) (Nat.le_of_ble_eq_true rfl) ?_
  intro p e s m below meth c A ls hX hE hP hD hl hin
  obtain ⟨hx, hb, hr, hml, hown, htA, hlk⟩ := id hX
  have hK := hE.1
  have hS : va_S A s.heap s.heap [] := va_S.rf
  have hl : lv_has ls 2 [(0, .ref nm_), (1, .int st_)] := hl
  refine lv_aload_n hx hb dX11_laysStep_0 rfl (lv_at hl 0 rfl) ?_
  refine va_get (ci := 11) (v := .int mbad_) (C := RX11) (T := TX11) (N := 39) hx hb htA in_X11 hown hK hP 0 rfl rfl 12 (by decide) (htA _ wd_1366) (fun _ h => h) rfl dX11_laysStep_1 ?_
  refine lv_if_eq (tgt := 8) hx hb dX11_laysStep_4 (by decide) (fun c4_ => ?_) (fun c4_ => ?_)
  · have g1_ : rg (0) (0) mbad_ := rg_eq c4_ (rg_lit (by decide) : rg (0) (0) (0 : Int32))
    refine lv_aload_n hx hb dX11_laysStep_8 rfl (lv_at hl 0 rfl) ?_
    refine va_get (ci := 11) (v := .ref ntelling_) (C := RX11) (T := TX11) (N := 39) hx hb htA in_X11 hown hK hP 0 rfl rfl 1 (by decide) (htA _ wd_1355) (fun _ h => h) rfl dX11_laysStep_9 ?_
    refine lv_aload_n hx hb dX11_laysStep_12 rfl (lv_at hl 0 rfl) ?_
    refine va_get (ci := 11) (v := .int 459) (C := RX11) (T := TX11) (N := 39) hx hb htA in_X11 hown hK hP 0 rfl rfl 18 (by decide) (htA _ wd_1372) (fun _ h => h) rfl dX11_laysStep_13 ?_
    refine lv_aload_n hx hb dX11_laysStep_16 rfl (lv_at hl 0 rfl) ?_
    refine va_get (ci := 11) (v := .ref ntelling_) (C := RX11) (T := TX11) (N := 39) hx hb htA in_X11 hown hK hP 0 rfl rfl 1 (by decide) (htA _ wd_1355) (fun _ h => h) rfl dX11_laysStep_17 ?_
    refine lv_aload_n hx hb dX11_laysStep_20 rfl (lv_at hl 0 rfl) ?_
    refine va_get (ci := 11) (v := .int 5) (C := RX11) (T := TX11) (N := 39) hx hb htA in_X11 hown hK hP 0 rfl rfl 17 (by decide) (htA _ wd_1371) (fun _ h => h) rfl dX11_laysStep_21 ?_
    refine va_iald hx hb hK hP 1 0 rfl rfl (in_lit (by decide)) dX11_laysStep_24 ?_
    refine lv_topi (fun v10010240_ ev10010240_ => ?_)
    have g2_ : rg (0) (900) v10010240_ := by rw [ev10010240_]; exact TX_l kb_5 rftelling_ (rg_lit (by decide) : rg (5) (5) (5 : Int32)) (by decide) (by decide)
    refine lv_iadd hx hb dX11_laysStep_25 ?_
    have g3_ : rg (459) (1359) (459 + v10010240_) := rg_add (rg_lit (by decide) : rg (459) (459) (459 : Int32)) g2_ (by decide) (by decide) (by decide) (by decide)
    refine lv_iload_n hx hb dX11_laysStep_26 rfl (lv_at hl 1 rfl) ?_
    refine va_iast hx hb hK hP hD hS 1 0 rfl rfl (rg_in g3_ (by decide) (by decide)) dX11_laysStep_27 (fun H locs hP hD hS => ?_)
    have hP : va_P D vwCl [(nm_, .inr (11, [.ref nknown_, .ref ntelling_, .ref nimages_, .ref nisImage_, .int mthrown_, .ref ntape_, .int mtaped_, .int mlength_, .int mhead_, .int mbegin_, .int mtoken_, .int mvalue_, .int mbad_, .int mbadPlace_, .int mfaultKind_, .int mfaultPlace_, .int mdeep_, .int 5, .int 459, .ref nstack_, .ref nasked_, .int mfell_, .int mfellIn_, .ref naside_, .int mstate_, .int mlanded_, .int mwaitFalls_, .int mwaitWeight_, .ref nfallsAfter_, .ref nfalling_, .ref ncomes_, .ref ngoesOn_, .ref nwayRow_, .ref nmany_, .ref nmanyThen_, .int mtoldLet_, .ref ntSort_, .ref ntMany_, .ref nnumbers_])), (ntelling_, .inl (cy 0, 2260, .inl (upd ftelling_ ((459 + v10010240_).toNatClampNeg) st_)))] H := hP
    have hD := va_ca hP hD
    refine lv_aload_n hx hb dX11_laysStep_28 rfl (lv_at hl 0 rfl) ?_
    refine va_get (ci := 11) (v := .ref ntelling_) (C := RX11) (T := TX11) (N := 39) hx hb htA in_X11 hown hK hP 0 rfl rfl 1 (by decide) (htA _ wd_1355) (fun _ h => h) rfl dX11_laysStep_29 ?_
    refine lv_aload_n hx hb dX11_laysStep_32 rfl (lv_at hl 0 rfl) ?_
    refine va_get (ci := 11) (v := .int 5) (C := RX11) (T := TX11) (N := 39) hx hb htA in_X11 hown hK hP 0 rfl rfl 17 (by decide) (htA _ wd_1371) (fun _ h => h) rfl dX11_laysStep_33 ?_
    refine lv_dup2_11 hx hb dX11_laysStep_36 rfl rfl ?_
    refine va_iald hx hb hK hP 1 0 rfl rfl (in_lit (by decide)) dX11_laysStep_37 ?_
    refine lv_topi (fun v10010370_ ev10010370_ => ?_)
    refine lv_iconst (v := 1) hx hb dX11_laysStep_38 (by decide) ?_
    refine lv_iadd hx hb dX11_laysStep_39 ?_
    refine va_iast hx hb hK hP hD hS 1 0 rfl rfl (in_lit (by decide)) dX11_laysStep_40 (fun H locs hP hD hS => ?_)
    have hP : va_P D vwCl [(nm_, .inr (11, [.ref nknown_, .ref ntelling_, .ref nimages_, .ref nisImage_, .int mthrown_, .ref ntape_, .int mtaped_, .int mlength_, .int mhead_, .int mbegin_, .int mtoken_, .int mvalue_, .int mbad_, .int mbadPlace_, .int mfaultKind_, .int mfaultPlace_, .int mdeep_, .int 5, .int 459, .ref nstack_, .ref nasked_, .int mfell_, .int mfellIn_, .ref naside_, .int mstate_, .int mlanded_, .int mwaitFalls_, .int mwaitWeight_, .ref nfallsAfter_, .ref nfalling_, .ref ncomes_, .ref ngoesOn_, .ref nwayRow_, .ref nmany_, .ref nmanyThen_, .int mtoldLet_, .ref ntSort_, .ref ntMany_, .ref nnumbers_])), (ntelling_, .inl (cy 0, 2260, .inl (upd (upd ftelling_ ((459 + v10010240_).toNatClampNeg) st_) ((5 : Int32).toNatClampNeg) (v10010370_ + 1))))] H := hP
    have hD := va_ca hP hD
    have hq41_ := ls_of (Or.inl ⟨rfl, rfl⟩) (by decide : (459 : Int32).toInt = ((459 : Nat) : Int)) (by decide : (5 : Int32).toNatClampNeg = 5) rftelling_ hls_ hsg_ g1_ rmbegin_ (okS_p rst_ (Or.inr (by decide)) hD_).1 (okS_p rst_ (Or.inr (by decide)) hD_).2 ev10010240_ ev10010370_
    exact rV hX hE hP hD hS dX11_laysStep_41 (by decide) (by decide) ⟨(upd (upd ftelling_ ((459 + v10010240_).toNatClampNeg) st_) ((5 : Int32).toNatClampNeg) (v10010370_ + 1)), hq41_.1, hq41_.2, (Or.inl ⟨v10010240_, v10010370_, c4_, ev10010240_, ev10010370_, rfl⟩), rfl⟩
  · have g4_ : rg (1) (4) mbad_ := rg_ne1 c4_ rmbad_ (by decide) (by decide)
    exact rV hX hE hP hD hS dX11_laysStep_7 (by decide) (by decide) ⟨ftelling_, rftelling_, (PA_n g4_ (by decide)), (Or.inr (Or.inl ⟨c4_, rfl⟩)), rfl⟩
def R_X11_laysStep_5_n_e (mbad_ : Int32) (ftelling_ : Nat → Int32) (x0_ : Nat → Int32) : Prop := (∃ (v10010240_ : Int32) (v10010370_ : Int32), mbad_ = (0 : Int32) ∧ v10010240_ = ftelling_ (5 : Int32).toNatClampNeg ∧ v10010370_ = (upd ftelling_ ((459 + v10010240_).toNatClampNeg) 18) (5 : Int32).toNatClampNeg ∧ x0_ = upd (upd ftelling_ ((459 + v10010240_).toNatClampNeg) 18) ((5 : Int32).toNatClampNeg) (v10010370_ + 1)) ∨ (¬ (mbad_ = (0 : Int32)) ∧ x0_ = ftelling_) ∨ False
set_option maxHeartbeats 4000000 in
set_option maxRecDepth 100000 in
theorem sf_X11_laysStep_5_n (l : Launch) (D : va_G) (cy : Nat → ClassId) (nm_ : Nat) (nknown_ : Nat) (ntelling_ : Nat) (nimages_ : Nat) (nisImage_ : Nat) (mthrown_ : Int32) (ntape_ : Nat) (mtaped_ : Int32) (mlength_ : Int32) (mhead_ : Int32) (mbegin_ : Int32) (mtoken_ : Int32) (mvalue_ : Int32) (mbad_ : Int32) (mbadPlace_ : Int32) (mfaultKind_ : Int32) (mfaultPlace_ : Int32) (mdeep_ : Int32) (nstack_ : Nat) (nasked_ : Nat) (mfell_ : Int32) (mfellIn_ : Int32) (naside_ : Nat) (mstate_ : Int32) (mlanded_ : Int32) (mwaitFalls_ : Int32) (mwaitWeight_ : Int32) (nfallsAfter_ : Nat) (nfalling_ : Nat) (ncomes_ : Nat) (ngoesOn_ : Nat) (nwayRow_ : Nat) (nmany_ : Nat) (nmanyThen_ : Nat) (mtoldLet_ : Int32) (ntSort_ : Nat) (ntMany_ : Nat) (nnumbers_ : Nat) (ftelling_ : Nat → Int32) (C_ : Int) (L_ : Int) (D_ : Int) (sg_ : Int) (rmtaped_ : rg (0) (900) mtaped_) (rmlength_ : rg (0) (900) mlength_) (rmhead_ : rg (0) (900) mhead_) (rmbegin_ : rg (0) (900) mbegin_) (rmbad_ : rg (0) (4) mbad_) (rftelling_ : TX C_ L_ ftelling_) (hls_ : PA 5 459 (D_) (sg_ + 1) ftelling_ mbad_ mbegin_) (hsg_ : 0 ≤ sg_) (hD_ : 1 ≤ D_ ∧ D_ ≤ 64) : Cv l yX11_laysStep cX11_laysStep 2 none { frames := 0, cells := 0, slots := 0, locals := 0 } D cy [.ref nm_, .int 18] [(nm_, .inr (11, [.ref nknown_, .ref ntelling_, .ref nimages_, .ref nisImage_, .int mthrown_, .ref ntape_, .int mtaped_, .int mlength_, .int mhead_, .int mbegin_, .int mtoken_, .int mvalue_, .int mbad_, .int mbadPlace_, .int mfaultKind_, .int mfaultPlace_, .int mdeep_, .int 5, .int 459, .ref nstack_, .ref nasked_, .int mfell_, .int mfellIn_, .ref naside_, .int mstate_, .int mlanded_, .int mwaitFalls_, .int mwaitWeight_, .ref nfallsAfter_, .ref nfalling_, .ref ncomes_, .ref ngoesOn_, .ref nwayRow_, .ref nmany_, .ref nmanyThen_, .int mtoldLet_, .ref ntSort_, .ref ntMany_, .ref nnumbers_])), (ntelling_, .inl (cy 0, 2260, .inl (ftelling_)))] (fun W1 => ∃ (x0_ : Nat → Int32), TX C_ L_ x0_ ∧ PA 5 459 (D_) (sg_) x0_ mbad_ mbegin_ ∧ R_X11_laysStep_5_n_e mbad_ ftelling_ x0_ ∧ W1 = [(nm_, .inr (11, [.ref nknown_, .ref ntelling_, .ref nimages_, .ref nisImage_, .int mthrown_, .ref ntape_, .int mtaped_, .int mlength_, .int mhead_, .int mbegin_, .int mtoken_, .int mvalue_, .int mbad_, .int mbadPlace_, .int mfaultKind_, .int mfaultPlace_, .int mdeep_, .int 5, .int 459, .ref nstack_, .ref nasked_, .int mfell_, .int mfellIn_, .ref naside_, .int mstate_, .int mlanded_, .int mwaitFalls_, .int mwaitWeight_, .ref nfallsAfter_, .ref nfalling_, .ref ncomes_, .ref ngoesOn_, .ref nwayRow_, .ref nmany_, .ref nmanyThen_, .int mtoldLet_, .ref ntSort_, .ref ntMany_, .ref nnumbers_])), (ntelling_, .inl (cy 0, 2260, .inl (x0_)))]) := by
  refine Cv.of (by decide) (Nat.le_of_ble_eq_true rfl) ?_
  intro p e s m below meth c A ls hX hE hP hD hl hin
  obtain ⟨hx, hb, hr, hml, hown, htA, hlk⟩ := id hX
  have hK := hE.1
  have hS : va_S A s.heap s.heap [] := va_S.rf
  have hl : lv_has ls 2 [(0, .ref nm_), (1, .int 18)] := hl
  refine lv_aload_n hx hb dX11_laysStep_0 rfl (lv_at hl 0 rfl) ?_
  refine va_get (ci := 11) (v := .int mbad_) (C := RX11) (T := TX11) (N := 39) hx hb htA in_X11 hown hK hP 0 rfl rfl 12 (by decide) (htA _ wd_1366) (fun _ h => h) rfl dX11_laysStep_1 ?_
  refine lv_if_eq (tgt := 8) hx hb dX11_laysStep_4 (by decide) (fun c4_ => ?_) (fun c4_ => ?_)
  · have g1_ : rg (0) (0) mbad_ := rg_eq c4_ (rg_lit (by decide) : rg (0) (0) (0 : Int32))
    refine lv_aload_n hx hb dX11_laysStep_8 rfl (lv_at hl 0 rfl) ?_
    refine va_get (ci := 11) (v := .ref ntelling_) (C := RX11) (T := TX11) (N := 39) hx hb htA in_X11 hown hK hP 0 rfl rfl 1 (by decide) (htA _ wd_1355) (fun _ h => h) rfl dX11_laysStep_9 ?_
    refine lv_aload_n hx hb dX11_laysStep_12 rfl (lv_at hl 0 rfl) ?_
    refine va_get (ci := 11) (v := .int 459) (C := RX11) (T := TX11) (N := 39) hx hb htA in_X11 hown hK hP 0 rfl rfl 18 (by decide) (htA _ wd_1372) (fun _ h => h) rfl dX11_laysStep_13 ?_
    refine lv_aload_n hx hb dX11_laysStep_16 rfl (lv_at hl 0 rfl) ?_
    refine va_get (ci := 11) (v := .ref ntelling_) (C := RX11) (T := TX11) (N := 39) hx hb htA in_X11 hown hK hP 0 rfl rfl 1 (by decide) (htA _ wd_1355) (fun _ h => h) rfl dX11_laysStep_17 ?_
    refine lv_aload_n hx hb dX11_laysStep_20 rfl (lv_at hl 0 rfl) ?_
    refine va_get (ci := 11) (v := .int 5) (C := RX11) (T := TX11) (N := 39) hx hb htA in_X11 hown hK hP 0 rfl rfl 17 (by decide) (htA _ wd_1371) (fun _ h => h) rfl dX11_laysStep_21 ?_
    refine va_iald hx hb hK hP 1 0 rfl rfl (in_lit (by decide)) dX11_laysStep_24 ?_
    refine lv_topi (fun v10010240_ ev10010240_ => ?_)
    have g2_ : rg (0) (900) v10010240_ := by rw [ev10010240_]; exact TX_l kb_5 rftelling_ (rg_lit (by decide) : rg (5) (5) (5 : Int32)) (by decide) (by decide)
    refine lv_iadd hx hb dX11_laysStep_25 ?_
    have g3_ : rg (459) (1359) (459 + v10010240_) := rg_add (rg_lit (by decide) : rg (459) (459) (459 : Int32)) g2_ (by decide) (by decide) (by decide) (by decide)
    refine lv_iload_n hx hb dX11_laysStep_26 rfl (lv_at hl 1 rfl) ?_
    refine va_iast hx hb hK hP hD hS 1 0 rfl rfl (rg_in g3_ (by decide) (by decide)) dX11_laysStep_27 (fun H locs hP hD hS => ?_)
    have hP : va_P D vwCl [(nm_, .inr (11, [.ref nknown_, .ref ntelling_, .ref nimages_, .ref nisImage_, .int mthrown_, .ref ntape_, .int mtaped_, .int mlength_, .int mhead_, .int mbegin_, .int mtoken_, .int mvalue_, .int mbad_, .int mbadPlace_, .int mfaultKind_, .int mfaultPlace_, .int mdeep_, .int 5, .int 459, .ref nstack_, .ref nasked_, .int mfell_, .int mfellIn_, .ref naside_, .int mstate_, .int mlanded_, .int mwaitFalls_, .int mwaitWeight_, .ref nfallsAfter_, .ref nfalling_, .ref ncomes_, .ref ngoesOn_, .ref nwayRow_, .ref nmany_, .ref nmanyThen_, .int mtoldLet_, .ref ntSort_, .ref ntMany_, .ref nnumbers_])), (ntelling_, .inl (cy 0, 2260, .inl (upd ftelling_ ((459 + v10010240_).toNatClampNeg) 18)))] H := hP
    have hD := va_ca hP hD
    refine lv_aload_n hx hb dX11_laysStep_28 rfl (lv_at hl 0 rfl) ?_
    refine va_get (ci := 11) (v := .ref ntelling_) (C := RX11) (T := TX11) (N := 39) hx hb htA in_X11 hown hK hP 0 rfl rfl 1 (by decide) (htA _ wd_1355) (fun _ h => h) rfl dX11_laysStep_29 ?_
    refine lv_aload_n hx hb dX11_laysStep_32 rfl (lv_at hl 0 rfl) ?_
    refine va_get (ci := 11) (v := .int 5) (C := RX11) (T := TX11) (N := 39) hx hb htA in_X11 hown hK hP 0 rfl rfl 17 (by decide) (htA _ wd_1371) (fun _ h => h) rfl dX11_laysStep_33 ?_
    refine lv_dup2_11 hx hb dX11_laysStep_36 rfl rfl ?_
    refine va_iald hx hb hK hP 1 0 rfl rfl (in_lit (by decide)) dX11_laysStep_37 ?_
    refine lv_topi (fun v10010370_ ev10010370_ => ?_)
    refine lv_iconst (v := 1) hx hb dX11_laysStep_38 (by decide) ?_
    refine lv_iadd hx hb dX11_laysStep_39 ?_
    refine va_iast hx hb hK hP hD hS 1 0 rfl rfl (in_lit (by decide)) dX11_laysStep_40 (fun H locs hP hD hS => ?_)
    have hP : va_P D vwCl [(nm_, .inr (11, [.ref nknown_, .ref ntelling_, .ref nimages_, .ref nisImage_, .int mthrown_, .ref ntape_, .int mtaped_, .int mlength_, .int mhead_, .int mbegin_, .int mtoken_, .int mvalue_, .int mbad_, .int mbadPlace_, .int mfaultKind_, .int mfaultPlace_, .int mdeep_, .int 5, .int 459, .ref nstack_, .ref nasked_, .int mfell_, .int mfellIn_, .ref naside_, .int mstate_, .int mlanded_, .int mwaitFalls_, .int mwaitWeight_, .ref nfallsAfter_, .ref nfalling_, .ref ncomes_, .ref ngoesOn_, .ref nwayRow_, .ref nmany_, .ref nmanyThen_, .int mtoldLet_, .ref ntSort_, .ref ntMany_, .ref nnumbers_])), (ntelling_, .inl (cy 0, 2260, .inl (upd (upd ftelling_ ((459 + v10010240_).toNatClampNeg) 18) ((5 : Int32).toNatClampNeg) (v10010370_ + 1))))] H := hP
    have hD := va_ca hP hD
    have hq41_ := ls_of (Or.inl ⟨rfl, rfl⟩) (by decide : (459 : Int32).toInt = ((459 : Nat) : Int)) (by decide : (5 : Int32).toNatClampNeg = 5) rftelling_ hls_ hsg_ g1_ rmbegin_ (okS_n hD_).1 (okS_n hD_).2 ev10010240_ ev10010370_
    exact rV hX hE hP hD hS dX11_laysStep_41 (by decide) (by decide) ⟨(upd (upd ftelling_ ((459 + v10010240_).toNatClampNeg) 18) ((5 : Int32).toNatClampNeg) (v10010370_ + 1)), hq41_.1, hq41_.2, (Or.inl ⟨v10010240_, v10010370_, c4_, ev10010240_, ev10010370_, rfl⟩), rfl⟩
  · have g4_ : rg (1) (4) mbad_ := rg_ne1 c4_ rmbad_ (by decide) (by decide)
    exact rV hX hE hP hD hS dX11_laysStep_7 (by decide) (by decide) ⟨ftelling_, rftelling_, (PA_n g4_ (by decide)), (Or.inr (Or.inl ⟨c4_, rfl⟩)), rfl⟩
def R_X11_laysStep_5_b_e (mbad_ : Int32) (ftelling_ : Nat → Int32) (st_ : Int32) (x0_ : Nat → Int32) : Prop := (∃ (v10010240_ : Int32) (v10010370_ : Int32), mbad_ = (0 : Int32) ∧ v10010240_ = ftelling_ (5 : Int32).toNatClampNeg ∧ v10010370_ = (upd ftelling_ ((459 + v10010240_).toNatClampNeg) st_) (5 : Int32).toNatClampNeg ∧ x0_ = upd (upd ftelling_ ((459 + v10010240_).toNatClampNeg) st_) ((5 : Int32).toNatClampNeg) (v10010370_ + 1)) ∨ (¬ (mbad_ = (0 : Int32)) ∧ x0_ = ftelling_) ∨ False
set_option maxHeartbeats 4000000 in
set_option maxRecDepth 100000 in
theorem sf_X11_laysStep_5_b (l : Launch) (D : va_G) (cy : Nat → ClassId) (nm_ : Nat) (nknown_ : Nat) (ntelling_ : Nat) (nimages_ : Nat) (nisImage_ : Nat) (mthrown_ : Int32) (ntape_ : Nat) (mtaped_ : Int32) (mlength_ : Int32) (mhead_ : Int32) (mbegin_ : Int32) (mtoken_ : Int32) (mvalue_ : Int32) (mbad_ : Int32) (mbadPlace_ : Int32) (mfaultKind_ : Int32) (mfaultPlace_ : Int32) (mdeep_ : Int32) (nstack_ : Nat) (nasked_ : Nat) (mfell_ : Int32) (mfellIn_ : Int32) (naside_ : Nat) (mstate_ : Int32) (mlanded_ : Int32) (mwaitFalls_ : Int32) (mwaitWeight_ : Int32) (nfallsAfter_ : Nat) (nfalling_ : Nat) (ncomes_ : Nat) (ngoesOn_ : Nat) (nwayRow_ : Nat) (nmany_ : Nat) (nmanyThen_ : Nat) (mtoldLet_ : Int32) (ntSort_ : Nat) (ntMany_ : Nat) (nnumbers_ : Nat) (ftelling_ : Nat → Int32) (st_ : Int32) (C_ : Int) (L_ : Int) (D_ : Int) (sg_ : Int) (rmtaped_ : rg (0) (900) mtaped_) (rmlength_ : rg (0) (900) mlength_) (rmhead_ : rg (0) (900) mhead_) (rmbegin_ : rg (0) (900) mbegin_) (rmbad_ : rg (0) (4) mbad_) (rst_ : rg (10) (17) st_) (rftelling_ : TX C_ L_ ftelling_) (hls_ : PA 5 459 (D_) (sg_ + 1) ftelling_ mbad_ mbegin_) (hsg_ : 0 ≤ sg_) (hD_ : 2 ≤ D_ ∧ D_ ≤ 64) : Cv l yX11_laysStep cX11_laysStep 2 none { frames := 0, cells := 0, slots := 0, locals := 0 } D cy [.ref nm_, .int st_] [(nm_, .inr (11, [.ref nknown_, .ref ntelling_, .ref nimages_, .ref nisImage_, .int mthrown_, .ref ntape_, .int mtaped_, .int mlength_, .int mhead_, .int mbegin_, .int mtoken_, .int mvalue_, .int mbad_, .int mbadPlace_, .int mfaultKind_, .int mfaultPlace_, .int mdeep_, .int 5, .int 459, .ref nstack_, .ref nasked_, .int mfell_, .int mfellIn_, .ref naside_, .int mstate_, .int mlanded_, .int mwaitFalls_, .int mwaitWeight_, .ref nfallsAfter_, .ref nfalling_, .ref ncomes_, .ref ngoesOn_, .ref nwayRow_, .ref nmany_, .ref nmanyThen_, .int mtoldLet_, .ref ntSort_, .ref ntMany_, .ref nnumbers_])), (ntelling_, .inl (cy 0, 2260, .inl (ftelling_)))] (fun W1 => ∃ (x0_ : Nat → Int32), TX C_ L_ x0_ ∧ PA 5 459 (D_ - 1) (sg_) x0_ mbad_ mbegin_ ∧ R_X11_laysStep_5_b_e mbad_ ftelling_ st_ x0_ ∧ W1 = [(nm_, .inr (11, [.ref nknown_, .ref ntelling_, .ref nimages_, .ref nisImage_, .int mthrown_, .ref ntape_, .int mtaped_, .int mlength_, .int mhead_, .int mbegin_, .int mtoken_, .int mvalue_, .int mbad_, .int mbadPlace_, .int mfaultKind_, .int mfaultPlace_, .int mdeep_, .int 5, .int 459, .ref nstack_, .ref nasked_, .int mfell_, .int mfellIn_, .ref naside_, .int mstate_, .int mlanded_, .int mwaitFalls_, .int mwaitWeight_, .ref nfallsAfter_, .ref nfalling_, .ref ncomes_, .ref ngoesOn_, .ref nwayRow_, .ref nmany_, .ref nmanyThen_, .int mtoldLet_, .ref ntSort_, .ref ntMany_, .ref nnumbers_])), (ntelling_, .inl (cy 0, 2260, .inl (x0_)))]) := by
  refine Cv.of (by decide) (Nat.le_of_ble_eq_true rfl) ?_
  intro p e s m below meth c A ls hX hE hP hD hl hin
  obtain ⟨hx, hb, hr, hml, hown, htA, hlk⟩ := id hX
  have hK := hE.1
  have hS : va_S A s.heap s.heap [] := va_S.rf
  have hl : lv_has ls 2 [(0, .ref nm_), (1, .int st_)] := hl
  refine lv_aload_n hx hb dX11_laysStep_0 rfl (lv_at hl 0 rfl) ?_
  refine va_get (ci := 11) (v := .int mbad_) (C := RX11) (T := TX11) (N := 39) hx hb htA in_X11 hown hK hP 0 rfl rfl 12 (by decide) (htA _ wd_1366) (fun _ h => h) rfl dX11_laysStep_1 ?_
  refine lv_if_eq (tgt := 8) hx hb dX11_laysStep_4 (by decide) (fun c4_ => ?_) (fun c4_ => ?_)
  · have g1_ : rg (0) (0) mbad_ := rg_eq c4_ (rg_lit (by decide) : rg (0) (0) (0 : Int32))
    refine lv_aload_n hx hb dX11_laysStep_8 rfl (lv_at hl 0 rfl) ?_
    refine va_get (ci := 11) (v := .ref ntelling_) (C := RX11) (T := TX11) (N := 39) hx hb htA in_X11 hown hK hP 0 rfl rfl 1 (by decide) (htA _ wd_1355) (fun _ h => h) rfl dX11_laysStep_9 ?_
    refine lv_aload_n hx hb dX11_laysStep_12 rfl (lv_at hl 0 rfl) ?_
    refine va_get (ci := 11) (v := .int 459) (C := RX11) (T := TX11) (N := 39) hx hb htA in_X11 hown hK hP 0 rfl rfl 18 (by decide) (htA _ wd_1372) (fun _ h => h) rfl dX11_laysStep_13 ?_
    refine lv_aload_n hx hb dX11_laysStep_16 rfl (lv_at hl 0 rfl) ?_
    refine va_get (ci := 11) (v := .ref ntelling_) (C := RX11) (T := TX11) (N := 39) hx hb htA in_X11 hown hK hP 0 rfl rfl 1 (by decide) (htA _ wd_1355) (fun _ h => h) rfl dX11_laysStep_17 ?_
    refine lv_aload_n hx hb dX11_laysStep_20 rfl (lv_at hl 0 rfl) ?_
    refine va_get (ci := 11) (v := .int 5) (C := RX11) (T := TX11) (N := 39) hx hb htA in_X11 hown hK hP 0 rfl rfl 17 (by decide) (htA _ wd_1371) (fun _ h => h) rfl dX11_laysStep_21 ?_
    refine va_iald hx hb hK hP 1 0 rfl rfl (in_lit (by decide)) dX11_laysStep_24 ?_
    refine lv_topi (fun v10010240_ ev10010240_ => ?_)
    have g2_ : rg (0) (900) v10010240_ := by rw [ev10010240_]; exact TX_l kb_5 rftelling_ (rg_lit (by decide) : rg (5) (5) (5 : Int32)) (by decide) (by decide)
    refine lv_iadd hx hb dX11_laysStep_25 ?_
    have g3_ : rg (459) (1359) (459 + v10010240_) := rg_add (rg_lit (by decide) : rg (459) (459) (459 : Int32)) g2_ (by decide) (by decide) (by decide) (by decide)
    refine lv_iload_n hx hb dX11_laysStep_26 rfl (lv_at hl 1 rfl) ?_
    refine va_iast hx hb hK hP hD hS 1 0 rfl rfl (rg_in g3_ (by decide) (by decide)) dX11_laysStep_27 (fun H locs hP hD hS => ?_)
    have hP : va_P D vwCl [(nm_, .inr (11, [.ref nknown_, .ref ntelling_, .ref nimages_, .ref nisImage_, .int mthrown_, .ref ntape_, .int mtaped_, .int mlength_, .int mhead_, .int mbegin_, .int mtoken_, .int mvalue_, .int mbad_, .int mbadPlace_, .int mfaultKind_, .int mfaultPlace_, .int mdeep_, .int 5, .int 459, .ref nstack_, .ref nasked_, .int mfell_, .int mfellIn_, .ref naside_, .int mstate_, .int mlanded_, .int mwaitFalls_, .int mwaitWeight_, .ref nfallsAfter_, .ref nfalling_, .ref ncomes_, .ref ngoesOn_, .ref nwayRow_, .ref nmany_, .ref nmanyThen_, .int mtoldLet_, .ref ntSort_, .ref ntMany_, .ref nnumbers_])), (ntelling_, .inl (cy 0, 2260, .inl (upd ftelling_ ((459 + v10010240_).toNatClampNeg) st_)))] H := hP
    have hD := va_ca hP hD
    refine lv_aload_n hx hb dX11_laysStep_28 rfl (lv_at hl 0 rfl) ?_
    refine va_get (ci := 11) (v := .ref ntelling_) (C := RX11) (T := TX11) (N := 39) hx hb htA in_X11 hown hK hP 0 rfl rfl 1 (by decide) (htA _ wd_1355) (fun _ h => h) rfl dX11_laysStep_29 ?_
    refine lv_aload_n hx hb dX11_laysStep_32 rfl (lv_at hl 0 rfl) ?_
    refine va_get (ci := 11) (v := .int 5) (C := RX11) (T := TX11) (N := 39) hx hb htA in_X11 hown hK hP 0 rfl rfl 17 (by decide) (htA _ wd_1371) (fun _ h => h) rfl dX11_laysStep_33 ?_
    refine lv_dup2_11 hx hb dX11_laysStep_36 rfl rfl ?_
    refine va_iald hx hb hK hP 1 0 rfl rfl (in_lit (by decide)) dX11_laysStep_37 ?_
    refine lv_topi (fun v10010370_ ev10010370_ => ?_)
    refine lv_iconst (v := 1) hx hb dX11_laysStep_38 (by decide) ?_
    refine lv_iadd hx hb dX11_laysStep_39 ?_
    refine va_iast hx hb hK hP hD hS 1 0 rfl rfl (in_lit (by decide)) dX11_laysStep_40 (fun H locs hP hD hS => ?_)
    have hP : va_P D vwCl [(nm_, .inr (11, [.ref nknown_, .ref ntelling_, .ref nimages_, .ref nisImage_, .int mthrown_, .ref ntape_, .int mtaped_, .int mlength_, .int mhead_, .int mbegin_, .int mtoken_, .int mvalue_, .int mbad_, .int mbadPlace_, .int mfaultKind_, .int mfaultPlace_, .int mdeep_, .int 5, .int 459, .ref nstack_, .ref nasked_, .int mfell_, .int mfellIn_, .ref naside_, .int mstate_, .int mlanded_, .int mwaitFalls_, .int mwaitWeight_, .ref nfallsAfter_, .ref nfalling_, .ref ncomes_, .ref ngoesOn_, .ref nwayRow_, .ref nmany_, .ref nmanyThen_, .int mtoldLet_, .ref ntSort_, .ref ntMany_, .ref nnumbers_])), (ntelling_, .inl (cy 0, 2260, .inl (upd (upd ftelling_ ((459 + v10010240_).toNatClampNeg) st_) ((5 : Int32).toNatClampNeg) (v10010370_ + 1))))] H := hP
    have hD := va_ca hP hD
    have hq41_ := ls_of (Or.inl ⟨rfl, rfl⟩) (by decide : (459 : Int32).toInt = ((459 : Nat) : Int)) (by decide : (5 : Int32).toNatClampNeg = 5) rftelling_ hls_ hsg_ g1_ rmbegin_ (okS_b rst_ (by decide) hD_).1 (okS_b rst_ (by decide) hD_).2 ev10010240_ ev10010370_
    exact rV hX hE hP hD hS dX11_laysStep_41 (by decide) (by decide) ⟨(upd (upd ftelling_ ((459 + v10010240_).toNatClampNeg) st_) ((5 : Int32).toNatClampNeg) (v10010370_ + 1)), hq41_.1, hq41_.2, (Or.inl ⟨v10010240_, v10010370_, c4_, ev10010240_, ev10010370_, rfl⟩), rfl⟩
  · have g4_ : rg (1) (4) mbad_ := rg_ne1 c4_ rmbad_ (by decide) (by decide)
    exact rV hX hE hP hD hS dX11_laysStep_7 (by decide) (by decide) ⟨ftelling_, rftelling_, (PA_n g4_ (by decide)), (Or.inr (Or.inl ⟨c4_, rfl⟩)), rfl⟩
def R_X11_laysStep_6_w_e (mbad_ : Int32) (ftelling_ : Nat → Int32) (st_ : Int32) (x0_ : Nat → Int32) : Prop := (∃ (v10010240_ : Int32) (v10010370_ : Int32), mbad_ = (0 : Int32) ∧ v10010240_ = ftelling_ (6 : Int32).toNatClampNeg ∧ v10010370_ = (upd ftelling_ ((1359 + v10010240_).toNatClampNeg) st_) (6 : Int32).toNatClampNeg ∧ x0_ = upd (upd ftelling_ ((1359 + v10010240_).toNatClampNeg) st_) ((6 : Int32).toNatClampNeg) (v10010370_ + 1)) ∨ (¬ (mbad_ = (0 : Int32)) ∧ x0_ = ftelling_) ∨ False
set_option maxHeartbeats 4000000 in
set_option maxRecDepth 100000 in
theorem sf_X11_laysStep_6_w (l : Launch) (D : va_G) (cy : Nat → ClassId) (nm_ : Nat) (nknown_ : Nat) (ntelling_ : Nat) (nimages_ : Nat) (nisImage_ : Nat) (mthrown_ : Int32) (ntape_ : Nat) (mtaped_ : Int32) (mlength_ : Int32) (mhead_ : Int32) (mbegin_ : Int32) (mtoken_ : Int32) (mvalue_ : Int32) (mbad_ : Int32) (mbadPlace_ : Int32) (mfaultKind_ : Int32) (mfaultPlace_ : Int32) (mdeep_ : Int32) (nstack_ : Nat) (nasked_ : Nat) (mfell_ : Int32) (mfellIn_ : Int32) (naside_ : Nat) (mstate_ : Int32) (mlanded_ : Int32) (mwaitFalls_ : Int32) (mwaitWeight_ : Int32) (nfallsAfter_ : Nat) (nfalling_ : Nat) (ncomes_ : Nat) (ngoesOn_ : Nat) (nwayRow_ : Nat) (nmany_ : Nat) (nmanyThen_ : Nat) (mtoldLet_ : Int32) (ntSort_ : Nat) (ntMany_ : Nat) (nnumbers_ : Nat) (ftelling_ : Nat → Int32) (st_ : Int32) (C_ : Int) (L_ : Int) (D_ : Int) (sg_ : Int) (rmtaped_ : rg (0) (900) mtaped_) (rmlength_ : rg (0) (900) mlength_) (rmhead_ : rg (0) (900) mhead_) (rmbegin_ : rg (0) (900) mbegin_) (rmbad_ : rg (0) (4) mbad_) (rst_ : rg (100) (105) st_) (rftelling_ : TX C_ L_ ftelling_) (hls_ : PA 6 1359 (D_) (sg_ + 1) ftelling_ mbad_ mbegin_) (hsg_ : 0 ≤ sg_) (hD_ : 0 ≤ D_ ∧ D_ ≤ 63) : Cv l yX11_laysStep cX11_laysStep 2 none { frames := 0, cells := 0, slots := 0, locals := 0 } D cy [.ref nm_, .int st_] [(nm_, .inr (11, [.ref nknown_, .ref ntelling_, .ref nimages_, .ref nisImage_, .int mthrown_, .ref ntape_, .int mtaped_, .int mlength_, .int mhead_, .int mbegin_, .int mtoken_, .int mvalue_, .int mbad_, .int mbadPlace_, .int mfaultKind_, .int mfaultPlace_, .int mdeep_, .int 6, .int 1359, .ref nstack_, .ref nasked_, .int mfell_, .int mfellIn_, .ref naside_, .int mstate_, .int mlanded_, .int mwaitFalls_, .int mwaitWeight_, .ref nfallsAfter_, .ref nfalling_, .ref ncomes_, .ref ngoesOn_, .ref nwayRow_, .ref nmany_, .ref nmanyThen_, .int mtoldLet_, .ref ntSort_, .ref ntMany_, .ref nnumbers_])), (ntelling_, .inl (cy 0, 2260, .inl (ftelling_)))] (fun W1 => ∃ (x0_ : Nat → Int32), TX C_ L_ x0_ ∧ PA 6 1359 (D_ + 1) (sg_) x0_ mbad_ mbegin_ ∧ R_X11_laysStep_6_w_e mbad_ ftelling_ st_ x0_ ∧ W1 = [(nm_, .inr (11, [.ref nknown_, .ref ntelling_, .ref nimages_, .ref nisImage_, .int mthrown_, .ref ntape_, .int mtaped_, .int mlength_, .int mhead_, .int mbegin_, .int mtoken_, .int mvalue_, .int mbad_, .int mbadPlace_, .int mfaultKind_, .int mfaultPlace_, .int mdeep_, .int 6, .int 1359, .ref nstack_, .ref nasked_, .int mfell_, .int mfellIn_, .ref naside_, .int mstate_, .int mlanded_, .int mwaitFalls_, .int mwaitWeight_, .ref nfallsAfter_, .ref nfalling_, .ref ncomes_, .ref ngoesOn_, .ref nwayRow_, .ref nmany_, .ref nmanyThen_, .int mtoldLet_, .ref ntSort_, .ref ntMany_, .ref nnumbers_])), (ntelling_, .inl (cy 0, 2260, .inl (x0_)))]) := by
  refine Cv.of (by decide) (Nat.le_of_ble_eq_true rfl) ?_
  intro p e s m below meth c A ls hX hE hP hD hl hin
  obtain ⟨hx, hb, hr, hml, hown, htA, hlk⟩ := id hX
  have hK := hE.1
  have hS : va_S A s.heap s.heap [] := va_S.rf
  have hl : lv_has ls 2 [(0, .ref nm_), (1, .int st_)] := hl
  refine lv_aload_n hx hb dX11_laysStep_0 rfl (lv_at hl 0 rfl) ?_
  refine va_get (ci := 11) (v := .int mbad_) (C := RX11) (T := TX11) (N := 39) hx hb htA in_X11 hown hK hP 0 rfl rfl 12 (by decide) (htA _ wd_1366) (fun _ h => h) rfl dX11_laysStep_1 ?_
  refine lv_if_eq (tgt := 8) hx hb dX11_laysStep_4 (by decide) (fun c4_ => ?_) (fun c4_ => ?_)
  · have g1_ : rg (0) (0) mbad_ := rg_eq c4_ (rg_lit (by decide) : rg (0) (0) (0 : Int32))
    refine lv_aload_n hx hb dX11_laysStep_8 rfl (lv_at hl 0 rfl) ?_
    refine va_get (ci := 11) (v := .ref ntelling_) (C := RX11) (T := TX11) (N := 39) hx hb htA in_X11 hown hK hP 0 rfl rfl 1 (by decide) (htA _ wd_1355) (fun _ h => h) rfl dX11_laysStep_9 ?_
    refine lv_aload_n hx hb dX11_laysStep_12 rfl (lv_at hl 0 rfl) ?_
    refine va_get (ci := 11) (v := .int 1359) (C := RX11) (T := TX11) (N := 39) hx hb htA in_X11 hown hK hP 0 rfl rfl 18 (by decide) (htA _ wd_1372) (fun _ h => h) rfl dX11_laysStep_13 ?_
    refine lv_aload_n hx hb dX11_laysStep_16 rfl (lv_at hl 0 rfl) ?_
    refine va_get (ci := 11) (v := .ref ntelling_) (C := RX11) (T := TX11) (N := 39) hx hb htA in_X11 hown hK hP 0 rfl rfl 1 (by decide) (htA _ wd_1355) (fun _ h => h) rfl dX11_laysStep_17 ?_
    refine lv_aload_n hx hb dX11_laysStep_20 rfl (lv_at hl 0 rfl) ?_
    refine va_get (ci := 11) (v := .int 6) (C := RX11) (T := TX11) (N := 39) hx hb htA in_X11 hown hK hP 0 rfl rfl 17 (by decide) (htA _ wd_1371) (fun _ h => h) rfl dX11_laysStep_21 ?_
    refine va_iald hx hb hK hP 1 0 rfl rfl (in_lit (by decide)) dX11_laysStep_24 ?_
    refine lv_topi (fun v10010240_ ev10010240_ => ?_)
    have g2_ : rg (0) (900) v10010240_ := by rw [ev10010240_]; exact TX_l kb_6 rftelling_ (rg_lit (by decide) : rg (6) (6) (6 : Int32)) (by decide) (by decide)
    refine lv_iadd hx hb dX11_laysStep_25 ?_
    have g3_ : rg (1359) (2259) (1359 + v10010240_) := rg_add (rg_lit (by decide) : rg (1359) (1359) (1359 : Int32)) g2_ (by decide) (by decide) (by decide) (by decide)
    refine lv_iload_n hx hb dX11_laysStep_26 rfl (lv_at hl 1 rfl) ?_
    refine va_iast hx hb hK hP hD hS 1 0 rfl rfl (rg_in g3_ (by decide) (by decide)) dX11_laysStep_27 (fun H locs hP hD hS => ?_)
    have hP : va_P D vwCl [(nm_, .inr (11, [.ref nknown_, .ref ntelling_, .ref nimages_, .ref nisImage_, .int mthrown_, .ref ntape_, .int mtaped_, .int mlength_, .int mhead_, .int mbegin_, .int mtoken_, .int mvalue_, .int mbad_, .int mbadPlace_, .int mfaultKind_, .int mfaultPlace_, .int mdeep_, .int 6, .int 1359, .ref nstack_, .ref nasked_, .int mfell_, .int mfellIn_, .ref naside_, .int mstate_, .int mlanded_, .int mwaitFalls_, .int mwaitWeight_, .ref nfallsAfter_, .ref nfalling_, .ref ncomes_, .ref ngoesOn_, .ref nwayRow_, .ref nmany_, .ref nmanyThen_, .int mtoldLet_, .ref ntSort_, .ref ntMany_, .ref nnumbers_])), (ntelling_, .inl (cy 0, 2260, .inl (upd ftelling_ ((1359 + v10010240_).toNatClampNeg) st_)))] H := hP
    have hD := va_ca hP hD
    refine lv_aload_n hx hb dX11_laysStep_28 rfl (lv_at hl 0 rfl) ?_
    refine va_get (ci := 11) (v := .ref ntelling_) (C := RX11) (T := TX11) (N := 39) hx hb htA in_X11 hown hK hP 0 rfl rfl 1 (by decide) (htA _ wd_1355) (fun _ h => h) rfl dX11_laysStep_29 ?_
    refine lv_aload_n hx hb dX11_laysStep_32 rfl (lv_at hl 0 rfl) ?_
    refine va_get (ci := 11) (v := .int 6) (C := RX11) (T := TX11) (N := 39) hx hb htA in_X11 hown hK hP 0 rfl rfl 17 (by decide) (htA _ wd_1371) (fun _ h => h) rfl dX11_laysStep_33 ?_
    refine lv_dup2_11 hx hb dX11_laysStep_36 rfl rfl ?_
    refine va_iald hx hb hK hP 1 0 rfl rfl (in_lit (by decide)) dX11_laysStep_37 ?_
    refine lv_topi (fun v10010370_ ev10010370_ => ?_)
    refine lv_iconst (v := 1) hx hb dX11_laysStep_38 (by decide) ?_
    refine lv_iadd hx hb dX11_laysStep_39 ?_
    refine va_iast hx hb hK hP hD hS 1 0 rfl rfl (in_lit (by decide)) dX11_laysStep_40 (fun H locs hP hD hS => ?_)
    have hP : va_P D vwCl [(nm_, .inr (11, [.ref nknown_, .ref ntelling_, .ref nimages_, .ref nisImage_, .int mthrown_, .ref ntape_, .int mtaped_, .int mlength_, .int mhead_, .int mbegin_, .int mtoken_, .int mvalue_, .int mbad_, .int mbadPlace_, .int mfaultKind_, .int mfaultPlace_, .int mdeep_, .int 6, .int 1359, .ref nstack_, .ref nasked_, .int mfell_, .int mfellIn_, .ref naside_, .int mstate_, .int mlanded_, .int mwaitFalls_, .int mwaitWeight_, .ref nfallsAfter_, .ref nfalling_, .ref ncomes_, .ref ngoesOn_, .ref nwayRow_, .ref nmany_, .ref nmanyThen_, .int mtoldLet_, .ref ntSort_, .ref ntMany_, .ref nnumbers_])), (ntelling_, .inl (cy 0, 2260, .inl (upd (upd ftelling_ ((1359 + v10010240_).toNatClampNeg) st_) ((6 : Int32).toNatClampNeg) (v10010370_ + 1))))] H := hP
    have hD := va_ca hP hD
    have hq41_ := ls_of (Or.inr ⟨rfl, rfl⟩) (by decide : (1359 : Int32).toInt = ((1359 : Nat) : Int)) (by decide : (6 : Int32).toNatClampNeg = 6) rftelling_ hls_ hsg_ g1_ rmbegin_ (okS_p rst_ (Or.inl (by decide)) hD_).1 (okS_p rst_ (Or.inl (by decide)) hD_).2 ev10010240_ ev10010370_
    exact rV hX hE hP hD hS dX11_laysStep_41 (by decide) (by decide) ⟨(upd (upd ftelling_ ((1359 + v10010240_).toNatClampNeg) st_) ((6 : Int32).toNatClampNeg) (v10010370_ + 1)), hq41_.1, hq41_.2, (Or.inl ⟨v10010240_, v10010370_, c4_, ev10010240_, ev10010370_, rfl⟩), rfl⟩
  · have g4_ : rg (1) (4) mbad_ := rg_ne1 c4_ rmbad_ (by decide) (by decide)
    exact rV hX hE hP hD hS dX11_laysStep_7 (by decide) (by decide) ⟨ftelling_, rftelling_, (PA_n g4_ (by decide)), (Or.inr (Or.inl ⟨c4_, rfl⟩)), rfl⟩
def R_X11_laysStep_6_v_e (mbad_ : Int32) (ftelling_ : Nat → Int32) (st_ : Int32) (x0_ : Nat → Int32) : Prop := (∃ (v10010240_ : Int32) (v10010370_ : Int32), mbad_ = (0 : Int32) ∧ v10010240_ = ftelling_ (6 : Int32).toNatClampNeg ∧ v10010370_ = (upd ftelling_ ((1359 + v10010240_).toNatClampNeg) st_) (6 : Int32).toNatClampNeg ∧ x0_ = upd (upd ftelling_ ((1359 + v10010240_).toNatClampNeg) st_) ((6 : Int32).toNatClampNeg) (v10010370_ + 1)) ∨ (¬ (mbad_ = (0 : Int32)) ∧ x0_ = ftelling_) ∨ False
set_option maxHeartbeats 4000000 in
set_option maxRecDepth 100000 in
theorem sf_X11_laysStep_6_v (l : Launch) (D : va_G) (cy : Nat → ClassId) (nm_ : Nat) (nknown_ : Nat) (ntelling_ : Nat) (nimages_ : Nat) (nisImage_ : Nat) (mthrown_ : Int32) (ntape_ : Nat) (mtaped_ : Int32) (mlength_ : Int32) (mhead_ : Int32) (mbegin_ : Int32) (mtoken_ : Int32) (mvalue_ : Int32) (mbad_ : Int32) (mbadPlace_ : Int32) (mfaultKind_ : Int32) (mfaultPlace_ : Int32) (mdeep_ : Int32) (nstack_ : Nat) (nasked_ : Nat) (mfell_ : Int32) (mfellIn_ : Int32) (naside_ : Nat) (mstate_ : Int32) (mlanded_ : Int32) (mwaitFalls_ : Int32) (mwaitWeight_ : Int32) (nfallsAfter_ : Nat) (nfalling_ : Nat) (ncomes_ : Nat) (ngoesOn_ : Nat) (nwayRow_ : Nat) (nmany_ : Nat) (nmanyThen_ : Nat) (mtoldLet_ : Int32) (ntSort_ : Nat) (ntMany_ : Nat) (nnumbers_ : Nat) (ftelling_ : Nat → Int32) (st_ : Int32) (C_ : Int) (L_ : Int) (D_ : Int) (sg_ : Int) (rmtaped_ : rg (0) (900) mtaped_) (rmlength_ : rg (0) (900) mlength_) (rmhead_ : rg (0) (900) mhead_) (rmbegin_ : rg (0) (900) mbegin_) (rmbad_ : rg (0) (4) mbad_) (rst_ : rg (1000) (1999) st_) (rftelling_ : TX C_ L_ ftelling_) (hls_ : PA 6 1359 (D_) (sg_ + 1) ftelling_ mbad_ mbegin_) (hsg_ : 0 ≤ sg_) (hD_ : 0 ≤ D_ ∧ D_ ≤ 63) : Cv l yX11_laysStep cX11_laysStep 2 none { frames := 0, cells := 0, slots := 0, locals := 0 } D cy [.ref nm_, .int st_] [(nm_, .inr (11, [.ref nknown_, .ref ntelling_, .ref nimages_, .ref nisImage_, .int mthrown_, .ref ntape_, .int mtaped_, .int mlength_, .int mhead_, .int mbegin_, .int mtoken_, .int mvalue_, .int mbad_, .int mbadPlace_, .int mfaultKind_, .int mfaultPlace_, .int mdeep_, .int 6, .int 1359, .ref nstack_, .ref nasked_, .int mfell_, .int mfellIn_, .ref naside_, .int mstate_, .int mlanded_, .int mwaitFalls_, .int mwaitWeight_, .ref nfallsAfter_, .ref nfalling_, .ref ncomes_, .ref ngoesOn_, .ref nwayRow_, .ref nmany_, .ref nmanyThen_, .int mtoldLet_, .ref ntSort_, .ref ntMany_, .ref nnumbers_])), (ntelling_, .inl (cy 0, 2260, .inl (ftelling_)))] (fun W1 => ∃ (x0_ : Nat → Int32), TX C_ L_ x0_ ∧ PA 6 1359 (D_ + 1) (sg_) x0_ mbad_ mbegin_ ∧ R_X11_laysStep_6_v_e mbad_ ftelling_ st_ x0_ ∧ W1 = [(nm_, .inr (11, [.ref nknown_, .ref ntelling_, .ref nimages_, .ref nisImage_, .int mthrown_, .ref ntape_, .int mtaped_, .int mlength_, .int mhead_, .int mbegin_, .int mtoken_, .int mvalue_, .int mbad_, .int mbadPlace_, .int mfaultKind_, .int mfaultPlace_, .int mdeep_, .int 6, .int 1359, .ref nstack_, .ref nasked_, .int mfell_, .int mfellIn_, .ref naside_, .int mstate_, .int mlanded_, .int mwaitFalls_, .int mwaitWeight_, .ref nfallsAfter_, .ref nfalling_, .ref ncomes_, .ref ngoesOn_, .ref nwayRow_, .ref nmany_, .ref nmanyThen_, .int mtoldLet_, .ref ntSort_, .ref ntMany_, .ref nnumbers_])), (ntelling_, .inl (cy 0, 2260, .inl (x0_)))]) := by
  refine Cv.of (by decide) (Nat.le_of_ble_eq_true rfl) ?_
  intro p e s m below meth c A ls hX hE hP hD hl hin
  obtain ⟨hx, hb, hr, hml, hown, htA, hlk⟩ := id hX
  have hK := hE.1
  have hS : va_S A s.heap s.heap [] := va_S.rf
  have hl : lv_has ls 2 [(0, .ref nm_), (1, .int st_)] := hl
  refine lv_aload_n hx hb dX11_laysStep_0 rfl (lv_at hl 0 rfl) ?_
  refine va_get (ci := 11) (v := .int mbad_) (C := RX11) (T := TX11) (N := 39) hx hb htA in_X11 hown hK hP 0 rfl rfl 12 (by decide) (htA _ wd_1366) (fun _ h => h) rfl dX11_laysStep_1 ?_
  refine lv_if_eq (tgt := 8) hx hb dX11_laysStep_4 (by decide) (fun c4_ => ?_) (fun c4_ => ?_)
  · have g1_ : rg (0) (0) mbad_ := rg_eq c4_ (rg_lit (by decide) : rg (0) (0) (0 : Int32))
    refine lv_aload_n hx hb dX11_laysStep_8 rfl (lv_at hl 0 rfl) ?_
    refine va_get (ci := 11) (v := .ref ntelling_) (C := RX11) (T := TX11) (N := 39) hx hb htA in_X11 hown hK hP 0 rfl rfl 1 (by decide) (htA _ wd_1355) (fun _ h => h) rfl dX11_laysStep_9 ?_
    refine lv_aload_n hx hb dX11_laysStep_12 rfl (lv_at hl 0 rfl) ?_
    refine va_get (ci := 11) (v := .int 1359) (C := RX11) (T := TX11) (N := 39) hx hb htA in_X11 hown hK hP 0 rfl rfl 18 (by decide) (htA _ wd_1372) (fun _ h => h) rfl dX11_laysStep_13 ?_
    refine lv_aload_n hx hb dX11_laysStep_16 rfl (lv_at hl 0 rfl) ?_
    refine va_get (ci := 11) (v := .ref ntelling_) (C := RX11) (T := TX11) (N := 39) hx hb htA in_X11 hown hK hP 0 rfl rfl 1 (by decide) (htA _ wd_1355) (fun _ h => h) rfl dX11_laysStep_17 ?_
    refine lv_aload_n hx hb dX11_laysStep_20 rfl (lv_at hl 0 rfl) ?_
    refine va_get (ci := 11) (v := .int 6) (C := RX11) (T := TX11) (N := 39) hx hb htA in_X11 hown hK hP 0 rfl rfl 17 (by decide) (htA _ wd_1371) (fun _ h => h) rfl dX11_laysStep_21 ?_
    refine va_iald hx hb hK hP 1 0 rfl rfl (in_lit (by decide)) dX11_laysStep_24 ?_
    refine lv_topi (fun v10010240_ ev10010240_ => ?_)
    have g2_ : rg (0) (900) v10010240_ := by rw [ev10010240_]; exact TX_l kb_6 rftelling_ (rg_lit (by decide) : rg (6) (6) (6 : Int32)) (by decide) (by decide)
    refine lv_iadd hx hb dX11_laysStep_25 ?_
    have g3_ : rg (1359) (2259) (1359 + v10010240_) := rg_add (rg_lit (by decide) : rg (1359) (1359) (1359 : Int32)) g2_ (by decide) (by decide) (by decide) (by decide)
    refine lv_iload_n hx hb dX11_laysStep_26 rfl (lv_at hl 1 rfl) ?_
    refine va_iast hx hb hK hP hD hS 1 0 rfl rfl (rg_in g3_ (by decide) (by decide)) dX11_laysStep_27 (fun H locs hP hD hS => ?_)
    have hP : va_P D vwCl [(nm_, .inr (11, [.ref nknown_, .ref ntelling_, .ref nimages_, .ref nisImage_, .int mthrown_, .ref ntape_, .int mtaped_, .int mlength_, .int mhead_, .int mbegin_, .int mtoken_, .int mvalue_, .int mbad_, .int mbadPlace_, .int mfaultKind_, .int mfaultPlace_, .int mdeep_, .int 6, .int 1359, .ref nstack_, .ref nasked_, .int mfell_, .int mfellIn_, .ref naside_, .int mstate_, .int mlanded_, .int mwaitFalls_, .int mwaitWeight_, .ref nfallsAfter_, .ref nfalling_, .ref ncomes_, .ref ngoesOn_, .ref nwayRow_, .ref nmany_, .ref nmanyThen_, .int mtoldLet_, .ref ntSort_, .ref ntMany_, .ref nnumbers_])), (ntelling_, .inl (cy 0, 2260, .inl (upd ftelling_ ((1359 + v10010240_).toNatClampNeg) st_)))] H := hP
    have hD := va_ca hP hD
    refine lv_aload_n hx hb dX11_laysStep_28 rfl (lv_at hl 0 rfl) ?_
    refine va_get (ci := 11) (v := .ref ntelling_) (C := RX11) (T := TX11) (N := 39) hx hb htA in_X11 hown hK hP 0 rfl rfl 1 (by decide) (htA _ wd_1355) (fun _ h => h) rfl dX11_laysStep_29 ?_
    refine lv_aload_n hx hb dX11_laysStep_32 rfl (lv_at hl 0 rfl) ?_
    refine va_get (ci := 11) (v := .int 6) (C := RX11) (T := TX11) (N := 39) hx hb htA in_X11 hown hK hP 0 rfl rfl 17 (by decide) (htA _ wd_1371) (fun _ h => h) rfl dX11_laysStep_33 ?_
    refine lv_dup2_11 hx hb dX11_laysStep_36 rfl rfl ?_
    refine va_iald hx hb hK hP 1 0 rfl rfl (in_lit (by decide)) dX11_laysStep_37 ?_
    refine lv_topi (fun v10010370_ ev10010370_ => ?_)
    refine lv_iconst (v := 1) hx hb dX11_laysStep_38 (by decide) ?_
    refine lv_iadd hx hb dX11_laysStep_39 ?_
    refine va_iast hx hb hK hP hD hS 1 0 rfl rfl (in_lit (by decide)) dX11_laysStep_40 (fun H locs hP hD hS => ?_)
    have hP : va_P D vwCl [(nm_, .inr (11, [.ref nknown_, .ref ntelling_, .ref nimages_, .ref nisImage_, .int mthrown_, .ref ntape_, .int mtaped_, .int mlength_, .int mhead_, .int mbegin_, .int mtoken_, .int mvalue_, .int mbad_, .int mbadPlace_, .int mfaultKind_, .int mfaultPlace_, .int mdeep_, .int 6, .int 1359, .ref nstack_, .ref nasked_, .int mfell_, .int mfellIn_, .ref naside_, .int mstate_, .int mlanded_, .int mwaitFalls_, .int mwaitWeight_, .ref nfallsAfter_, .ref nfalling_, .ref ncomes_, .ref ngoesOn_, .ref nwayRow_, .ref nmany_, .ref nmanyThen_, .int mtoldLet_, .ref ntSort_, .ref ntMany_, .ref nnumbers_])), (ntelling_, .inl (cy 0, 2260, .inl (upd (upd ftelling_ ((1359 + v10010240_).toNatClampNeg) st_) ((6 : Int32).toNatClampNeg) (v10010370_ + 1))))] H := hP
    have hD := va_ca hP hD
    have hq41_ := ls_of (Or.inr ⟨rfl, rfl⟩) (by decide : (1359 : Int32).toInt = ((1359 : Nat) : Int)) (by decide : (6 : Int32).toNatClampNeg = 6) rftelling_ hls_ hsg_ g1_ rmbegin_ (okS_p rst_ (Or.inr (by decide)) hD_).1 (okS_p rst_ (Or.inr (by decide)) hD_).2 ev10010240_ ev10010370_
    exact rV hX hE hP hD hS dX11_laysStep_41 (by decide) (by decide) ⟨(upd (upd ftelling_ ((1359 + v10010240_).toNatClampNeg) st_) ((6 : Int32).toNatClampNeg) (v10010370_ + 1)), hq41_.1, hq41_.2, (Or.inl ⟨v10010240_, v10010370_, c4_, ev10010240_, ev10010370_, rfl⟩), rfl⟩
  · have g4_ : rg (1) (4) mbad_ := rg_ne1 c4_ rmbad_ (by decide) (by decide)
    exact rV hX hE hP hD hS dX11_laysStep_7 (by decide) (by decide) ⟨ftelling_, rftelling_, (PA_n g4_ (by decide)), (Or.inr (Or.inl ⟨c4_, rfl⟩)), rfl⟩
def R_X11_laysStep_6_n_e (mbad_ : Int32) (ftelling_ : Nat → Int32) (x0_ : Nat → Int32) : Prop := (∃ (v10010240_ : Int32) (v10010370_ : Int32), mbad_ = (0 : Int32) ∧ v10010240_ = ftelling_ (6 : Int32).toNatClampNeg ∧ v10010370_ = (upd ftelling_ ((1359 + v10010240_).toNatClampNeg) 18) (6 : Int32).toNatClampNeg ∧ x0_ = upd (upd ftelling_ ((1359 + v10010240_).toNatClampNeg) 18) ((6 : Int32).toNatClampNeg) (v10010370_ + 1)) ∨ (¬ (mbad_ = (0 : Int32)) ∧ x0_ = ftelling_) ∨ False
set_option maxHeartbeats 4000000 in
set_option maxRecDepth 100000 in
theorem sf_X11_laysStep_6_n (l : Launch) (D : va_G) (cy : Nat → ClassId) (nm_ : Nat) (nknown_ : Nat) (ntelling_ : Nat) (nimages_ : Nat) (nisImage_ : Nat) (mthrown_ : Int32) (ntape_ : Nat) (mtaped_ : Int32) (mlength_ : Int32) (mhead_ : Int32) (mbegin_ : Int32) (mtoken_ : Int32) (mvalue_ : Int32) (mbad_ : Int32) (mbadPlace_ : Int32) (mfaultKind_ : Int32) (mfaultPlace_ : Int32) (mdeep_ : Int32) (nstack_ : Nat) (nasked_ : Nat) (mfell_ : Int32) (mfellIn_ : Int32) (naside_ : Nat) (mstate_ : Int32) (mlanded_ : Int32) (mwaitFalls_ : Int32) (mwaitWeight_ : Int32) (nfallsAfter_ : Nat) (nfalling_ : Nat) (ncomes_ : Nat) (ngoesOn_ : Nat) (nwayRow_ : Nat) (nmany_ : Nat) (nmanyThen_ : Nat) (mtoldLet_ : Int32) (ntSort_ : Nat) (ntMany_ : Nat) (nnumbers_ : Nat) (ftelling_ : Nat → Int32) (C_ : Int) (L_ : Int) (D_ : Int) (sg_ : Int) (rmtaped_ : rg (0) (900) mtaped_) (rmlength_ : rg (0) (900) mlength_) (rmhead_ : rg (0) (900) mhead_) (rmbegin_ : rg (0) (900) mbegin_) (rmbad_ : rg (0) (4) mbad_) (rftelling_ : TX C_ L_ ftelling_) (hls_ : PA 6 1359 (D_) (sg_ + 1) ftelling_ mbad_ mbegin_) (hsg_ : 0 ≤ sg_) (hD_ : 1 ≤ D_ ∧ D_ ≤ 64) : Cv l yX11_laysStep cX11_laysStep 2 none { frames := 0, cells := 0, slots := 0, locals := 0 } D cy [.ref nm_, .int 18] [(nm_, .inr (11, [.ref nknown_, .ref ntelling_, .ref nimages_, .ref nisImage_, .int mthrown_, .ref ntape_, .int mtaped_, .int mlength_, .int mhead_, .int mbegin_, .int mtoken_, .int mvalue_, .int mbad_, .int mbadPlace_, .int mfaultKind_, .int mfaultPlace_, .int mdeep_, .int 6, .int 1359, .ref nstack_, .ref nasked_, .int mfell_, .int mfellIn_, .ref naside_, .int mstate_, .int mlanded_, .int mwaitFalls_, .int mwaitWeight_, .ref nfallsAfter_, .ref nfalling_, .ref ncomes_, .ref ngoesOn_, .ref nwayRow_, .ref nmany_, .ref nmanyThen_, .int mtoldLet_, .ref ntSort_, .ref ntMany_, .ref nnumbers_])), (ntelling_, .inl (cy 0, 2260, .inl (ftelling_)))] (fun W1 => ∃ (x0_ : Nat → Int32), TX C_ L_ x0_ ∧ PA 6 1359 (D_) (sg_) x0_ mbad_ mbegin_ ∧ R_X11_laysStep_6_n_e mbad_ ftelling_ x0_ ∧ W1 = [(nm_, .inr (11, [.ref nknown_, .ref ntelling_, .ref nimages_, .ref nisImage_, .int mthrown_, .ref ntape_, .int mtaped_, .int mlength_, .int mhead_, .int mbegin_, .int mtoken_, .int mvalue_, .int mbad_, .int mbadPlace_, .int mfaultKind_, .int mfaultPlace_, .int mdeep_, .int 6, .int 1359, .ref nstack_, .ref nasked_, .int mfell_, .int mfellIn_, .ref naside_, .int mstate_, .int mlanded_, .int mwaitFalls_, .int mwaitWeight_, .ref nfallsAfter_, .ref nfalling_, .ref ncomes_, .ref ngoesOn_, .ref nwayRow_, .ref nmany_, .ref nmanyThen_, .int mtoldLet_, .ref ntSort_, .ref ntMany_, .ref nnumbers_])), (ntelling_, .inl (cy 0, 2260, .inl (x0_)))]) := by
  refine Cv.of (by decide) (Nat.le_of_ble_eq_true rfl) ?_
  intro p e s m below meth c A ls hX hE hP hD hl hin
  obtain ⟨hx, hb, hr, hml, hown, htA, hlk⟩ := id hX
  have hK := hE.1
  have hS : va_S A s.heap s.heap [] := va_S.rf
  have hl : lv_has ls 2 [(0, .ref nm_), (1, .int 18)] := hl
  refine lv_aload_n hx hb dX11_laysStep_0 rfl (lv_at hl 0 rfl) ?_
  refine va_get (ci := 11) (v := .int mbad_) (C := RX11) (T := TX11) (N := 39) hx hb htA in_X11 hown hK hP 0 rfl rfl 12 (by decide) (htA _ wd_1366) (fun _ h => h) rfl dX11_laysStep_1 ?_
  refine lv_if_eq (tgt := 8) hx hb dX11_laysStep_4 (by decide) (fun c4_ => ?_) (fun c4_ => ?_)
  · have g1_ : rg (0) (0) mbad_ := rg_eq c4_ (rg_lit (by decide) : rg (0) (0) (0 : Int32))
    refine lv_aload_n hx hb dX11_laysStep_8 rfl (lv_at hl 0 rfl) ?_
    refine va_get (ci := 11) (v := .ref ntelling_) (C := RX11) (T := TX11) (N := 39) hx hb htA in_X11 hown hK hP 0 rfl rfl 1 (by decide) (htA _ wd_1355) (fun _ h => h) rfl dX11_laysStep_9 ?_
    refine lv_aload_n hx hb dX11_laysStep_12 rfl (lv_at hl 0 rfl) ?_
    refine va_get (ci := 11) (v := .int 1359) (C := RX11) (T := TX11) (N := 39) hx hb htA in_X11 hown hK hP 0 rfl rfl 18 (by decide) (htA _ wd_1372) (fun _ h => h) rfl dX11_laysStep_13 ?_
    refine lv_aload_n hx hb dX11_laysStep_16 rfl (lv_at hl 0 rfl) ?_
    refine va_get (ci := 11) (v := .ref ntelling_) (C := RX11) (T := TX11) (N := 39) hx hb htA in_X11 hown hK hP 0 rfl rfl 1 (by decide) (htA _ wd_1355) (fun _ h => h) rfl dX11_laysStep_17 ?_
    refine lv_aload_n hx hb dX11_laysStep_20 rfl (lv_at hl 0 rfl) ?_
    refine va_get (ci := 11) (v := .int 6) (C := RX11) (T := TX11) (N := 39) hx hb htA in_X11 hown hK hP 0 rfl rfl 17 (by decide) (htA _ wd_1371) (fun _ h => h) rfl dX11_laysStep_21 ?_
    refine va_iald hx hb hK hP 1 0 rfl rfl (in_lit (by decide)) dX11_laysStep_24 ?_
    refine lv_topi (fun v10010240_ ev10010240_ => ?_)
    have g2_ : rg (0) (900) v10010240_ := by rw [ev10010240_]; exact TX_l kb_6 rftelling_ (rg_lit (by decide) : rg (6) (6) (6 : Int32)) (by decide) (by decide)
    refine lv_iadd hx hb dX11_laysStep_25 ?_
    have g3_ : rg (1359) (2259) (1359 + v10010240_) := rg_add (rg_lit (by decide) : rg (1359) (1359) (1359 : Int32)) g2_ (by decide) (by decide) (by decide) (by decide)
    refine lv_iload_n hx hb dX11_laysStep_26 rfl (lv_at hl 1 rfl) ?_
    refine va_iast hx hb hK hP hD hS 1 0 rfl rfl (rg_in g3_ (by decide) (by decide)) dX11_laysStep_27 (fun H locs hP hD hS => ?_)
    have hP : va_P D vwCl [(nm_, .inr (11, [.ref nknown_, .ref ntelling_, .ref nimages_, .ref nisImage_, .int mthrown_, .ref ntape_, .int mtaped_, .int mlength_, .int mhead_, .int mbegin_, .int mtoken_, .int mvalue_, .int mbad_, .int mbadPlace_, .int mfaultKind_, .int mfaultPlace_, .int mdeep_, .int 6, .int 1359, .ref nstack_, .ref nasked_, .int mfell_, .int mfellIn_, .ref naside_, .int mstate_, .int mlanded_, .int mwaitFalls_, .int mwaitWeight_, .ref nfallsAfter_, .ref nfalling_, .ref ncomes_, .ref ngoesOn_, .ref nwayRow_, .ref nmany_, .ref nmanyThen_, .int mtoldLet_, .ref ntSort_, .ref ntMany_, .ref nnumbers_])), (ntelling_, .inl (cy 0, 2260, .inl (upd ftelling_ ((1359 + v10010240_).toNatClampNeg) 18)))] H := hP
    have hD := va_ca hP hD
    refine lv_aload_n hx hb dX11_laysStep_28 rfl (lv_at hl 0 rfl) ?_
    refine va_get (ci := 11) (v := .ref ntelling_) (C := RX11) (T := TX11) (N := 39) hx hb htA in_X11 hown hK hP 0 rfl rfl 1 (by decide) (htA _ wd_1355) (fun _ h => h) rfl dX11_laysStep_29 ?_
    refine lv_aload_n hx hb dX11_laysStep_32 rfl (lv_at hl 0 rfl) ?_
    refine va_get (ci := 11) (v := .int 6) (C := RX11) (T := TX11) (N := 39) hx hb htA in_X11 hown hK hP 0 rfl rfl 17 (by decide) (htA _ wd_1371) (fun _ h => h) rfl dX11_laysStep_33 ?_
    refine lv_dup2_11 hx hb dX11_laysStep_36 rfl rfl ?_
    refine va_iald hx hb hK hP 1 0 rfl rfl (in_lit (by decide)) dX11_laysStep_37 ?_
    refine lv_topi (fun v10010370_ ev10010370_ => ?_)
    refine lv_iconst (v := 1) hx hb dX11_laysStep_38 (by decide) ?_
    refine lv_iadd hx hb dX11_laysStep_39 ?_
    refine va_iast hx hb hK hP hD hS 1 0 rfl rfl (in_lit (by decide)) dX11_laysStep_40 (fun H locs hP hD hS => ?_)
    have hP : va_P D vwCl [(nm_, .inr (11, [.ref nknown_, .ref ntelling_, .ref nimages_, .ref nisImage_, .int mthrown_, .ref ntape_, .int mtaped_, .int mlength_, .int mhead_, .int mbegin_, .int mtoken_, .int mvalue_, .int mbad_, .int mbadPlace_, .int mfaultKind_, .int mfaultPlace_, .int mdeep_, .int 6, .int 1359, .ref nstack_, .ref nasked_, .int mfell_, .int mfellIn_, .ref naside_, .int mstate_, .int mlanded_, .int mwaitFalls_, .int mwaitWeight_, .ref nfallsAfter_, .ref nfalling_, .ref ncomes_, .ref ngoesOn_, .ref nwayRow_, .ref nmany_, .ref nmanyThen_, .int mtoldLet_, .ref ntSort_, .ref ntMany_, .ref nnumbers_])), (ntelling_, .inl (cy 0, 2260, .inl (upd (upd ftelling_ ((1359 + v10010240_).toNatClampNeg) 18) ((6 : Int32).toNatClampNeg) (v10010370_ + 1))))] H := hP
    have hD := va_ca hP hD
    have hq41_ := ls_of (Or.inr ⟨rfl, rfl⟩) (by decide : (1359 : Int32).toInt = ((1359 : Nat) : Int)) (by decide : (6 : Int32).toNatClampNeg = 6) rftelling_ hls_ hsg_ g1_ rmbegin_ (okS_n hD_).1 (okS_n hD_).2 ev10010240_ ev10010370_
    exact rV hX hE hP hD hS dX11_laysStep_41 (by decide) (by decide) ⟨(upd (upd ftelling_ ((1359 + v10010240_).toNatClampNeg) 18) ((6 : Int32).toNatClampNeg) (v10010370_ + 1)), hq41_.1, hq41_.2, (Or.inl ⟨v10010240_, v10010370_, c4_, ev10010240_, ev10010370_, rfl⟩), rfl⟩
  · have g4_ : rg (1) (4) mbad_ := rg_ne1 c4_ rmbad_ (by decide) (by decide)
    exact rV hX hE hP hD hS dX11_laysStep_7 (by decide) (by decide) ⟨ftelling_, rftelling_, (PA_n g4_ (by decide)), (Or.inr (Or.inl ⟨c4_, rfl⟩)), rfl⟩
def R_X11_laysStep_6_b_e (mbad_ : Int32) (ftelling_ : Nat → Int32) (st_ : Int32) (x0_ : Nat → Int32) : Prop := (∃ (v10010240_ : Int32) (v10010370_ : Int32), mbad_ = (0 : Int32) ∧ v10010240_ = ftelling_ (6 : Int32).toNatClampNeg ∧ v10010370_ = (upd ftelling_ ((1359 + v10010240_).toNatClampNeg) st_) (6 : Int32).toNatClampNeg ∧ x0_ = upd (upd ftelling_ ((1359 + v10010240_).toNatClampNeg) st_) ((6 : Int32).toNatClampNeg) (v10010370_ + 1)) ∨ (¬ (mbad_ = (0 : Int32)) ∧ x0_ = ftelling_) ∨ False
set_option maxHeartbeats 4000000 in
set_option maxRecDepth 100000 in
theorem sf_X11_laysStep_6_b (l : Launch) (D : va_G) (cy : Nat → ClassId) (nm_ : Nat) (nknown_ : Nat) (ntelling_ : Nat) (nimages_ : Nat) (nisImage_ : Nat) (mthrown_ : Int32) (ntape_ : Nat) (mtaped_ : Int32) (mlength_ : Int32) (mhead_ : Int32) (mbegin_ : Int32) (mtoken_ : Int32) (mvalue_ : Int32) (mbad_ : Int32) (mbadPlace_ : Int32) (mfaultKind_ : Int32) (mfaultPlace_ : Int32) (mdeep_ : Int32) (nstack_ : Nat) (nasked_ : Nat) (mfell_ : Int32) (mfellIn_ : Int32) (naside_ : Nat) (mstate_ : Int32) (mlanded_ : Int32) (mwaitFalls_ : Int32) (mwaitWeight_ : Int32) (nfallsAfter_ : Nat) (nfalling_ : Nat) (ncomes_ : Nat) (ngoesOn_ : Nat) (nwayRow_ : Nat) (nmany_ : Nat) (nmanyThen_ : Nat) (mtoldLet_ : Int32) (ntSort_ : Nat) (ntMany_ : Nat) (nnumbers_ : Nat) (ftelling_ : Nat → Int32) (st_ : Int32) (C_ : Int) (L_ : Int) (D_ : Int) (sg_ : Int) (rmtaped_ : rg (0) (900) mtaped_) (rmlength_ : rg (0) (900) mlength_) (rmhead_ : rg (0) (900) mhead_) (rmbegin_ : rg (0) (900) mbegin_) (rmbad_ : rg (0) (4) mbad_) (rst_ : rg (10) (17) st_) (rftelling_ : TX C_ L_ ftelling_) (hls_ : PA 6 1359 (D_) (sg_ + 1) ftelling_ mbad_ mbegin_) (hsg_ : 0 ≤ sg_) (hD_ : 2 ≤ D_ ∧ D_ ≤ 64) : Cv l yX11_laysStep cX11_laysStep 2 none { frames := 0, cells := 0, slots := 0, locals := 0 } D cy [.ref nm_, .int st_] [(nm_, .inr (11, [.ref nknown_, .ref ntelling_, .ref nimages_, .ref nisImage_, .int mthrown_, .ref ntape_, .int mtaped_, .int mlength_, .int mhead_, .int mbegin_, .int mtoken_, .int mvalue_, .int mbad_, .int mbadPlace_, .int mfaultKind_, .int mfaultPlace_, .int mdeep_, .int 6, .int 1359, .ref nstack_, .ref nasked_, .int mfell_, .int mfellIn_, .ref naside_, .int mstate_, .int mlanded_, .int mwaitFalls_, .int mwaitWeight_, .ref nfallsAfter_, .ref nfalling_, .ref ncomes_, .ref ngoesOn_, .ref nwayRow_, .ref nmany_, .ref nmanyThen_, .int mtoldLet_, .ref ntSort_, .ref ntMany_, .ref nnumbers_])), (ntelling_, .inl (cy 0, 2260, .inl (ftelling_)))] (fun W1 => ∃ (x0_ : Nat → Int32), TX C_ L_ x0_ ∧ PA 6 1359 (D_ - 1) (sg_) x0_ mbad_ mbegin_ ∧ R_X11_laysStep_6_b_e mbad_ ftelling_ st_ x0_ ∧ W1 = [(nm_, .inr (11, [.ref nknown_, .ref ntelling_, .ref nimages_, .ref nisImage_, .int mthrown_, .ref ntape_, .int mtaped_, .int mlength_, .int mhead_, .int mbegin_, .int mtoken_, .int mvalue_, .int mbad_, .int mbadPlace_, .int mfaultKind_, .int mfaultPlace_, .int mdeep_, .int 6, .int 1359, .ref nstack_, .ref nasked_, .int mfell_, .int mfellIn_, .ref naside_, .int mstate_, .int mlanded_, .int mwaitFalls_, .int mwaitWeight_, .ref nfallsAfter_, .ref nfalling_, .ref ncomes_, .ref ngoesOn_, .ref nwayRow_, .ref nmany_, .ref nmanyThen_, .int mtoldLet_, .ref ntSort_, .ref ntMany_, .ref nnumbers_])), (ntelling_, .inl (cy 0, 2260, .inl (x0_)))]) := by
  refine Cv.of (by decide) (Nat.le_of_ble_eq_true rfl) ?_
  intro p e s m below meth c A ls hX hE hP hD hl hin
  obtain ⟨hx, hb, hr, hml, hown, htA, hlk⟩ := id hX
  have hK := hE.1
  have hS : va_S A s.heap s.heap [] := va_S.rf
  have hl : lv_has ls 2 [(0, .ref nm_), (1, .int st_)] := hl
  refine lv_aload_n hx hb dX11_laysStep_0 rfl (lv_at hl 0 rfl) ?_
  refine va_get (ci := 11) (v := .int mbad_) (C := RX11) (T := TX11) (N := 39) hx hb htA in_X11 hown hK hP 0 rfl rfl 12 (by decide) (htA _ wd_1366) (fun _ h => h) rfl dX11_laysStep_1 ?_
  refine lv_if_eq (tgt := 8) hx hb dX11_laysStep_4 (by decide) (fun c4_ => ?_) (fun c4_ => ?_)
  · have g1_ : rg (0) (0) mbad_ := rg_eq c4_ (rg_lit (by decide) : rg (0) (0) (0 : Int32))
    refine lv_aload_n hx hb dX11_laysStep_8 rfl (lv_at hl 0 rfl) ?_
    refine va_get (ci := 11) (v := .ref ntelling_) (C := RX11) (T := TX11) (N := 39) hx hb htA in_X11 hown hK hP 0 rfl rfl 1 (by decide) (htA _ wd_1355) (fun _ h => h) rfl dX11_laysStep_9 ?_
    refine lv_aload_n hx hb dX11_laysStep_12 rfl (lv_at hl 0 rfl) ?_
    refine va_get (ci := 11) (v := .int 1359) (C := RX11) (T := TX11) (N := 39) hx hb htA in_X11 hown hK hP 0 rfl rfl 18 (by decide) (htA _ wd_1372) (fun _ h => h) rfl dX11_laysStep_13 ?_
    refine lv_aload_n hx hb dX11_laysStep_16 rfl (lv_at hl 0 rfl) ?_
    refine va_get (ci := 11) (v := .ref ntelling_) (C := RX11) (T := TX11) (N := 39) hx hb htA in_X11 hown hK hP 0 rfl rfl 1 (by decide) (htA _ wd_1355) (fun _ h => h) rfl dX11_laysStep_17 ?_
    refine lv_aload_n hx hb dX11_laysStep_20 rfl (lv_at hl 0 rfl) ?_
    refine va_get (ci := 11) (v := .int 6) (C := RX11) (T := TX11) (N := 39) hx hb htA in_X11 hown hK hP 0 rfl rfl 17 (by decide) (htA _ wd_1371) (fun _ h => h) rfl dX11_laysStep_21 ?_
    refine va_iald hx hb hK hP 1 0 rfl rfl (in_lit (by decide)) dX11_laysStep_24 ?_
    refine lv_topi (fun v10010240_ ev10010240_ => ?_)
    have g2_ : rg (0) (900) v10010240_ := by rw [ev10010240_]; exact TX_l kb_6 rftelling_ (rg_lit (by decide) : rg (6) (6) (6 : Int32)) (by decide) (by decide)
    refine lv_iadd hx hb dX11_laysStep_25 ?_
    have g3_ : rg (1359) (2259) (1359 + v10010240_) := rg_add (rg_lit (by decide) : rg (1359) (1359) (1359 : Int32)) g2_ (by decide) (by decide) (by decide) (by decide)
    refine lv_iload_n hx hb dX11_laysStep_26 rfl (lv_at hl 1 rfl) ?_
    refine va_iast hx hb hK hP hD hS 1 0 rfl rfl (rg_in g3_ (by decide) (by decide)) dX11_laysStep_27 (fun H locs hP hD hS => ?_)
    have hP : va_P D vwCl [(nm_, .inr (11, [.ref nknown_, .ref ntelling_, .ref nimages_, .ref nisImage_, .int mthrown_, .ref ntape_, .int mtaped_, .int mlength_, .int mhead_, .int mbegin_, .int mtoken_, .int mvalue_, .int mbad_, .int mbadPlace_, .int mfaultKind_, .int mfaultPlace_, .int mdeep_, .int 6, .int 1359, .ref nstack_, .ref nasked_, .int mfell_, .int mfellIn_, .ref naside_, .int mstate_, .int mlanded_, .int mwaitFalls_, .int mwaitWeight_, .ref nfallsAfter_, .ref nfalling_, .ref ncomes_, .ref ngoesOn_, .ref nwayRow_, .ref nmany_, .ref nmanyThen_, .int mtoldLet_, .ref ntSort_, .ref ntMany_, .ref nnumbers_])), (ntelling_, .inl (cy 0, 2260, .inl (upd ftelling_ ((1359 + v10010240_).toNatClampNeg) st_)))] H := hP
    have hD := va_ca hP hD
    refine lv_aload_n hx hb dX11_laysStep_28 rfl (lv_at hl 0 rfl) ?_
    refine va_get (ci := 11) (v := .ref ntelling_) (C := RX11) (T := TX11) (N := 39) hx hb htA in_X11 hown hK hP 0 rfl rfl 1 (by decide) (htA _ wd_1355) (fun _ h => h) rfl dX11_laysStep_29 ?_
    refine lv_aload_n hx hb dX11_laysStep_32 rfl (lv_at hl 0 rfl) ?_
    refine va_get (ci := 11) (v := .int 6) (C := RX11) (T := TX11) (N := 39) hx hb htA in_X11 hown hK hP 0 rfl rfl 17 (by decide) (htA _ wd_1371) (fun _ h => h) rfl dX11_laysStep_33 ?_
    refine lv_dup2_11 hx hb dX11_laysStep_36 rfl rfl ?_
    refine va_iald hx hb hK hP 1 0 rfl rfl (in_lit (by decide)) dX11_laysStep_37 ?_
    refine lv_topi (fun v10010370_ ev10010370_ => ?_)
    refine lv_iconst (v := 1) hx hb dX11_laysStep_38 (by decide) ?_
    refine lv_iadd hx hb dX11_laysStep_39 ?_
    refine va_iast hx hb hK hP hD hS 1 0 rfl rfl (in_lit (by decide)) dX11_laysStep_40 (fun H locs hP hD hS => ?_)
    have hP : va_P D vwCl [(nm_, .inr (11, [.ref nknown_, .ref ntelling_, .ref nimages_, .ref nisImage_, .int mthrown_, .ref ntape_, .int mtaped_, .int mlength_, .int mhead_, .int mbegin_, .int mtoken_, .int mvalue_, .int mbad_, .int mbadPlace_, .int mfaultKind_, .int mfaultPlace_, .int mdeep_, .int 6, .int 1359, .ref nstack_, .ref nasked_, .int mfell_, .int mfellIn_, .ref naside_, .int mstate_, .int mlanded_, .int mwaitFalls_, .int mwaitWeight_, .ref nfallsAfter_, .ref nfalling_, .ref ncomes_, .ref ngoesOn_, .ref nwayRow_, .ref nmany_, .ref nmanyThen_, .int mtoldLet_, .ref ntSort_, .ref ntMany_, .ref nnumbers_])), (ntelling_, .inl (cy 0, 2260, .inl (upd (upd ftelling_ ((1359 + v10010240_).toNatClampNeg) st_) ((6 : Int32).toNatClampNeg) (v10010370_ + 1))))] H := hP
    have hD := va_ca hP hD
    have hq41_ := ls_of (Or.inr ⟨rfl, rfl⟩) (by decide : (1359 : Int32).toInt = ((1359 : Nat) : Int)) (by decide : (6 : Int32).toNatClampNeg = 6) rftelling_ hls_ hsg_ g1_ rmbegin_ (okS_b rst_ (by decide) hD_).1 (okS_b rst_ (by decide) hD_).2 ev10010240_ ev10010370_
    exact rV hX hE hP hD hS dX11_laysStep_41 (by decide) (by decide) ⟨(upd (upd ftelling_ ((1359 + v10010240_).toNatClampNeg) st_) ((6 : Int32).toNatClampNeg) (v10010370_ + 1)), hq41_.1, hq41_.2, (Or.inl ⟨v10010240_, v10010370_, c4_, ev10010240_, ev10010370_, rfl⟩), rfl⟩
  · have g4_ : rg (1) (4) mbad_ := rg_ne1 c4_ rmbad_ (by decide) (by decide)
    exact rV hX hE hP hD hS dX11_laysStep_7 (by decide) (by decide) ⟨ftelling_, rftelling_, (PA_n g4_ (by decide)), (Or.inr (Or.inl ⟨c4_, rfl⟩)), rfl⟩
