theorem sw_0_4 (x : Int32) : x = 0 ∨ x = 1 ∨ x = 2 ∨ x = 3 ∨ x = 4 ∨ (x.toInt < 0 ∨ 4 < x.toInt) := by
  by_cases h : 0 ≤ x.toInt ∧ x.toInt ≤ 4
  · obtain ⟨j, hj, hx⟩ := vp_in_of (vp_in_iff.mpr ⟨by omega, by omega⟩ : vp_in x 5) (by decide)
    subst hx
    have h2 : (nI j).toInt = j := nI_toInt (by omega)
    rw [h2] at h
    obtain ⟨i, rfl⟩ : ∃ i : Nat, j = 0 + i := ⟨j - 0, by omega⟩
    have hi : i < 5 := by omega
    clear h h2 hj
    match i, hi with
    | 0, _ => exact (Or.inl (by decide))
    | 1, _ => exact Or.inr ((Or.inl (by decide)))
    | 2, _ => exact Or.inr (Or.inr ((Or.inl (by decide))))
    | 3, _ => exact Or.inr (Or.inr (Or.inr ((Or.inl (by decide)))))
    | 4, _ => exact Or.inr (Or.inr (Or.inr (Or.inr ((Or.inl (by decide))))))
    | k + 5, hk => exact absurd hk (by omega)
  · exact Or.inr (Or.inr (Or.inr (Or.inr (Or.inr ((by omega))))))
theorem sw_10_16 (x : Int32) : x = 10 ∨ x = 11 ∨ x = 12 ∨ x = 13 ∨ x = 14 ∨ x = 15 ∨ x = 16 ∨ (x.toInt < 10 ∨ 16 < x.toInt) := by
  by_cases h : 10 ≤ x.toInt ∧ x.toInt ≤ 16
  · obtain ⟨j, hj, hx⟩ := vp_in_of (vp_in_iff.mpr ⟨by omega, by omega⟩ : vp_in x 17) (by decide)
    subst hx
    have h2 : (nI j).toInt = j := nI_toInt (by omega)
    rw [h2] at h
    obtain ⟨i, rfl⟩ : ∃ i : Nat, j = 10 + i := ⟨j - 10, by omega⟩
    have hi : i < 7 := by omega
    clear h h2 hj
    match i, hi with
    | 0, _ => exact (Or.inl (by decide))
    | 1, _ => exact Or.inr ((Or.inl (by decide)))
    | 2, _ => exact Or.inr (Or.inr ((Or.inl (by decide))))
    | 3, _ => exact Or.inr (Or.inr (Or.inr ((Or.inl (by decide)))))
    | 4, _ => exact Or.inr (Or.inr (Or.inr (Or.inr ((Or.inl (by decide))))))
    | 5, _ => exact Or.inr (Or.inr (Or.inr (Or.inr (Or.inr ((Or.inl (by decide)))))))
    | 6, _ => exact Or.inr (Or.inr (Or.inr (Or.inr (Or.inr (Or.inr ((Or.inl (by decide))))))))
    | k + 7, hk => exact absurd hk (by omega)
  · exact Or.inr (Or.inr (Or.inr (Or.inr (Or.inr (Or.inr (Or.inr ((by omega))))))))
set_option maxHeartbeats 4000000 in
set_option maxRecDepth 100000 in
def R_X11_fails_e (r : Int32) : Prop := (r = (0 : Int32)) ∨ False
set_option maxHeartbeats 4000000 in
set_option maxRecDepth 100000 in
theorem sf_X11_fails (l : Launch) (D : va_G) (cy : Nat → ClassId) (nm_ : Nat) (nknown_ : Nat) (ntelling_ : Nat) (nimages_ : Nat) (nisImage_ : Nat) (mthrown_ : Int32) (ntape_ : Nat) (mtaped_ : Int32) (mlength_ : Int32) (mhead_ : Int32) (mbegin_ : Int32) (mtoken_ : Int32) (mvalue_ : Int32) (mbad_ : Int32) (mbadPlace_ : Int32) (mfaultKind_ : Int32) (mfaultPlace_ : Int32) (mdeep_ : Int32) (mlawMany_ : Int32) (mlawAt_ : Int32) (nstack_ : Nat) (nasked_ : Nat) (mfell_ : Int32) (mfellIn_ : Int32) (naside_ : Nat) (mstate_ : Int32) (mlanded_ : Int32) (mwaitFalls_ : Int32) (mwaitWeight_ : Int32) (nfallsAfter_ : Nat) (nfalling_ : Nat) (ncomes_ : Nat) (ngoesOn_ : Nat) (nwayRow_ : Nat) (nmany_ : Nat) (nmanyThen_ : Nat) (mtoldLet_ : Int32) (ntSort_ : Nat) (ntMany_ : Nat) (nnumbers_ : Nat) (k_ : Int32) (rmtaped_ : rg (0) (900) mtaped_) (rmlength_ : rg (0) (900) mlength_) (rmhead_ : rg (0) (900) mhead_) (rmbegin_ : rg (0) (900) mbegin_) : Ci l yX11_fails cX11_fails 2 (some .int) { frames := 0, cells := 0, slots := 0, locals := 0 } D cy [.ref nm_, .int k_] [(nm_, .inr (11, [.ref nknown_, .ref ntelling_, .ref nimages_, .ref nisImage_, .int mthrown_, .ref ntape_, .int mtaped_, .int mlength_, .int mhead_, .int mbegin_, .int mtoken_, .int mvalue_, .int mbad_, .int mbadPlace_, .int mfaultKind_, .int mfaultPlace_, .int mdeep_, .int mlawMany_, .int mlawAt_, .ref nstack_, .ref nasked_, .int mfell_, .int mfellIn_, .ref naside_, .int mstate_, .int mlanded_, .int mwaitFalls_, .int mwaitWeight_, .ref nfallsAfter_, .ref nfalling_, .ref ncomes_, .ref ngoesOn_, .ref nwayRow_, .ref nmany_, .ref nmanyThen_, .int mtoldLet_, .ref ntSort_, .ref ntMany_, .ref nnumbers_]))] (fun r W1 => R_X11_fails_e r ∧ W1 = [(nm_, .inr (11, [.ref nknown_, .ref ntelling_, .ref nimages_, .ref nisImage_, .int k_, .ref ntape_, .int mtaped_, .int mlength_, .int mhead_, .int mbegin_, .int mtoken_, .int mvalue_, .int mbad_, .int mbadPlace_, .int mfaultKind_, .int mfaultPlace_, .int mdeep_, .int mlawMany_, .int mlawAt_, .ref nstack_, .ref nasked_, .int mfell_, .int mfellIn_, .ref naside_, .int mstate_, .int mlanded_, .int mwaitFalls_, .int mwaitWeight_, .ref nfallsAfter_, .ref nfalling_, .ref ncomes_, .ref ngoesOn_, .ref nwayRow_, .ref nmany_, .ref nmanyThen_, .int mtoldLet_, .ref ntSort_, .ref ntMany_, .ref nnumbers_]))] ∧ rg (0) (0) r) := by
  refine Ci.of (by decide) (Nat.le_of_ble_eq_true rfl) ?_
  intro p e s m below meth c A ls hX hE hP hD hl
  obtain ⟨hx, hb, hr, hml, hown, htA, hlk⟩ := id hX
  have hK := hE.1
  have hS : va_S A s.heap s.heap [] := va_S.rf
  have hl : lv_has ls 2 [(0, .ref nm_), (1, .int k_)] := hl
  refine lv_aload_n hx hb dX11_fails_0 rfl (lv_at hl 0 rfl) ?_
  refine lv_iload_n hx hb dX11_fails_1 rfl (lv_at hl 1 rfl) ?_
  refine va_put (ci := 11) (v := .int k_) (ty := .int) (C := RX11) (T := TX11) (N := 39) hx hb htA in_X11 tyX11 tyX11_ok nmX11 hown hK hP hD hS 0 rfl rfl 4 (by decide) (htA _ wd_1358) (fun _ h => h) rfl (by decide +kernel) rfl rfl (Nat.le_of_ble_eq_true rfl) dX11_fails_2 (fun H locs hP hD hS => ?_)
  have hP : va_P D vwCl [(nm_, .inr (11, [.ref nknown_, .ref ntelling_, .ref nimages_, .ref nisImage_, .int k_, .ref ntape_, .int mtaped_, .int mlength_, .int mhead_, .int mbegin_, .int mtoken_, .int mvalue_, .int mbad_, .int mbadPlace_, .int mfaultKind_, .int mfaultPlace_, .int mdeep_, .int mlawMany_, .int mlawAt_, .ref nstack_, .ref nasked_, .int mfell_, .int mfellIn_, .ref naside_, .int mstate_, .int mlanded_, .int mwaitFalls_, .int mwaitWeight_, .ref nfallsAfter_, .ref nfalling_, .ref ncomes_, .ref ngoesOn_, .ref nwayRow_, .ref nmany_, .ref nmanyThen_, .int mtoldLet_, .ref ntSort_, .ref ntMany_, .ref nnumbers_]))] H := hP
  have hD := va_ca hP hD
  refine lv_iconst (v := 0) hx hb dX11_fails_5 (by decide) ?_
  exact rI hX hE hP hD hS dX11_fails_6 (by decide) (by decide) ⟨(Or.inl rfl), rfl, (rg_w (rg_lit (by decide) : rg (0) (0) (0 : Int32)) (by decide) (by decide))⟩
def R_X11_within_j3 (v_ : Int64) (a_ : Int64) (b_ : Int64) : Prop := ((lg_cmp v_ a_) < (0 : Int32)) ∨ (¬ ((lg_cmp v_ a_) < (0 : Int32)) ∧ (0 : Int32) < (lg_cmp v_ b_)) ∨ False
def R_X11_within_j1 (v_ : Int64) (a_ : Int64) (b_ : Int64) (v201800_ : Int32) : Prop := (R_X11_within_j3 v_ a_ b_ ∧ v201800_ = (0 : Int32)) ∨ (¬ ((lg_cmp v_ a_) < (0 : Int32)) ∧ ¬ ((0 : Int32) < (lg_cmp v_ b_)) ∧ v201800_ = (1 : Int32)) ∨ False
def R_X11_within_e (v_ : Int64) (a_ : Int64) (b_ : Int64) (r : Int32) : Prop := (∃ (v201800_ : Int32), R_X11_within_j1 v_ a_ b_ v201800_ ∧ r = v201800_) ∨ False
set_option maxHeartbeats 4000000 in
set_option maxRecDepth 100000 in
theorem sf_X11_within (l : Launch) (D : va_G) (cy : Nat → ClassId) (v_ : Int64) (a_ : Int64) (b_ : Int64) : Ci l yX11_within cX11_within 6 (some .boolean) { frames := 0, cells := 0, slots := 0, locals := 0 } D cy [.long v_, .long a_, .long b_] [] (fun r W1 => R_X11_within_e v_ a_ b_ r ∧ W1 = [] ∧ rg (0) (1) r) := by
  refine Ci.of (by decide) (Nat.le_of_ble_eq_true rfl) ?_
  intro p e s m below meth c A ls hX hE hP hD hl
  obtain ⟨hx, hb, hr, hml, hown, htA, hlk⟩ := id hX
  have hK := hE.1
  have hS : va_S A s.heap s.heap [] := va_S.rf
  have hl : lv_has ls 6 [(0, .long v_), (2, .long a_), (4, .long b_)] := hl
  refine lv_lload_n hx hb dX11_within_0 rfl (lv_at hl 0 rfl) ?_
  refine lv_lload_n hx hb dX11_within_1 rfl (lv_at hl 1 rfl) ?_
  refine W.lcmp hx hb dX11_within_2 ?_
  refine joinT (D := D) (A := A) (pc := 18) (mL := 6) (τ := Int32) (WS := fun i => []) (LV := fun i => [(0, .long v_), (2, .long a_), (4, .long b_)]) (ST := fun i => [.int i]) (cells := 0) (slots := 0) (fun i => rg (0) (1) i ∧ R_X11_within_j1 v_ a_ b_ i) (fun v201800_ H locs ls hI hP hD hS hl => ?_) (fun j18_ => ?_)
  · have hI : rg (0) (1) v201800_ ∧ R_X11_within_j1 v_ a_ b_ v201800_ := hI
    obtain ⟨rv201800_, hR1_⟩ := hI
    have hP : va_P D vwCl [] H := hP
    have hD := va_ca hP hD
    have hl : lv_has ls 6 [(0, .long v_), (2, .long a_), (4, .long b_)] := hl
    exact rZ hX (nz_of rv201800_) hE hP hD hS dX11_within_18 (by decide) (by decide) ⟨(Or.inl ⟨v201800_, hR1_, rfl⟩), rfl, (rg_w rv201800_ (by decide) (by decide))⟩
  refine joinT (D := D) (A := A) (pc := 17) (mL := 6) (τ := Unit) (WS := fun i => []) (LV := fun i => [(0, .long v_), (2, .long a_), (4, .long b_)]) (ST := fun i => []) (cells := 0) (slots := 0) (fun i => R_X11_within_j3 v_ a_ b_) (fun u0_ H locs ls hI hP hD hS hl => ?_) (fun j17_ => ?_)
  · have hI : R_X11_within_j3 v_ a_ b_ := hI
    have hR3_ := hI
    have hP : va_P D vwCl [] H := hP
    have hD := va_ca hP hD
    have hl : lv_has ls 6 [(0, .long v_), (2, .long a_), (4, .long b_)] := hl
    refine lv_iconst (v := 0) hx hb dX11_within_17 (by decide) ?_
    exact j18_ 0 _ _ ls ⟨(rg_w (rg_lit (by decide) : rg (0) (0) (0 : Int32)) (by decide) (by decide)), (Or.inl ⟨hR3_, rfl⟩)⟩ hP hD hS (lv_sub hl [0, 1, 2] rfl)
  refine lv_if_lt (tgt := 17) hx hb dX11_within_3 (by decide) (fun c3_ => ?_) (fun c3_ => ?_)
  · have g1_ : rl (-9223372036854775808) (9223372036854775806) v_ := rl_lt1 ((lg_cmp_lt _ _).mp c3_) (rl_any _) (rl_any _) (by decide)
    have g2_ : rl (-9223372036854775807) (9223372036854775807) a_ := rl_lt2 ((lg_cmp_lt _ _).mp c3_) (rl_any _) (rl_any _) (by decide)
    exact j17_ () _ _ ls (Or.inl c3_) hP hD hS (lv_sub hl [0, 1, 2] rfl)
  · refine lv_lload_n hx hb dX11_within_6 rfl (lv_at hl 0 rfl) ?_
    refine lv_lload hx hb dX11_within_7 (lv_at hl 2 rfl) ?_
    refine W.lcmp hx hb dX11_within_9 ?_
    refine lv_if_gt (tgt := 17) hx hb dX11_within_10 (by decide) (fun c10_ => ?_) (fun c10_ => ?_)
    · have g3_ : rl (-9223372036854775808) (9223372036854775806) b_ := rl_lt1 ((lg_cmp_gt _ _).mp c10_) (rl_any _) (rl_any _) (by decide)
      have g4_ : rl (-9223372036854775807) (9223372036854775807) v_ := rl_lt2 ((lg_cmp_gt _ _).mp c10_) (rl_any _) (rl_any _) (by decide)
      exact j17_ () _ _ ls (Or.inr (Or.inl ⟨c3_, c10_⟩)) hP hD hS (lv_sub hl [0, 1, 2] rfl)
    · refine lv_iconst (v := 1) hx hb dX11_within_13 (by decide) ?_
      refine lv_goto (tgt := 18) hx hb dX11_within_14 (by decide) ?_
      exact j18_ 1 _ _ ls ⟨(rg_w (rg_lit (by decide) : rg (1) (1) (1 : Int32)) (by decide) (by decide)), (Or.inr (Or.inl ⟨c3_, c10_, rfl⟩))⟩ hP hD hS (lv_sub hl [0, 1, 2] rfl)
def R_X11_has_j1 (s_ : Int32) (k_ : Int32) (v201400_ : Int32) : Prop := (¬ ((s_ >>> (k_ &&& 31)) &&& 1) = (1 : Int32) ∧ v201400_ = (0 : Int32)) ∨ (((s_ >>> (k_ &&& 31)) &&& 1) = (1 : Int32) ∧ v201400_ = (1 : Int32)) ∨ False
def R_X11_has_e (s_ : Int32) (k_ : Int32) (r : Int32) : Prop := (∃ (v201400_ : Int32), R_X11_has_j1 s_ k_ v201400_ ∧ r = v201400_) ∨ False
set_option maxHeartbeats 4000000 in
set_option maxRecDepth 100000 in
theorem sf_X11_has (l : Launch) (D : va_G) (cy : Nat → ClassId) (s_ : Int32) (k_ : Int32) : Ci l yX11_has cX11_has 2 (some .boolean) { frames := 0, cells := 0, slots := 0, locals := 0 } D cy [.int s_, .int k_] [] (fun r W1 => R_X11_has_e s_ k_ r ∧ W1 = [] ∧ rg (0) (1) r) := by
  refine Ci.of (by decide) (Nat.le_of_ble_eq_true rfl) ?_
  intro p e s m below meth c A ls hX hE hP hD hl
  obtain ⟨hx, hb, hr, hml, hown, htA, hlk⟩ := id hX
  have hK := hE.1
  have hS : va_S A s.heap s.heap [] := va_S.rf
  have hl : lv_has ls 2 [(0, .int s_), (1, .int k_)] := hl
  refine lv_iload_n hx hb dX11_has_0 rfl (lv_at hl 0 rfl) ?_
  refine lv_iload_n hx hb dX11_has_1 rfl (lv_at hl 1 rfl) ?_
  refine lv_ishr hx hb dX11_has_2 ?_
  refine lv_iconst (v := 1) hx hb dX11_has_3 (by decide) ?_
  refine lv_iand hx hb dX11_has_4 ?_
  have g1_ : rg (0) (1) ((s_ >>> (k_ &&& 31)) &&& 1) := rg_and (by decide) (by decide)
  refine lv_iconst (v := 1) hx hb dX11_has_5 (by decide) ?_
  refine joinT (D := D) (A := A) (pc := 14) (mL := 2) (τ := Int32) (WS := fun i => []) (LV := fun i => [(0, .int s_), (1, .int k_)]) (ST := fun i => [.int i]) (cells := 0) (slots := 0) (fun i => rg (0) (1) i ∧ R_X11_has_j1 s_ k_ i) (fun v201400_ H locs ls hI hP hD hS hl => ?_) (fun j14_ => ?_)
  · have hI : rg (0) (1) v201400_ ∧ R_X11_has_j1 s_ k_ v201400_ := hI
    obtain ⟨rv201400_, hR1_⟩ := hI
    have hP : va_P D vwCl [] H := hP
    have hD := va_ca hP hD
    have hl : lv_has ls 2 [(0, .int s_), (1, .int k_)] := hl
    exact rZ hX (nz_of rv201400_) hE hP hD hS dX11_has_14 (by decide) (by decide) ⟨(Or.inl ⟨v201400_, hR1_, rfl⟩), rfl, (rg_w rv201400_ (by decide) (by decide))⟩
  refine lv_icmp_ne (tgt := 13) hx hb dX11_has_6 (by decide) (fun c6_ => ?_) (fun c6_ => ?_)
  · have g2_ : rg (0) (0) ((s_ >>> (k_ &&& 31)) &&& 1) := rg_ne2 c6_ g1_ (by decide) (by decide)
    refine lv_iconst (v := 0) hx hb dX11_has_13 (by decide) ?_
    exact j14_ 0 _ _ ls ⟨(rg_w (rg_lit (by decide) : rg (0) (0) (0 : Int32)) (by decide) (by decide)), (Or.inl ⟨c6_, rfl⟩)⟩ hP hD hS (lv_sub hl [0, 1] rfl)
  · have g3_ : rg (1) (1) ((s_ >>> (k_ &&& 31)) &&& 1) := rg_eq c6_ (rg_lit (by decide) : rg (1) (1) (1 : Int32))
    refine lv_iconst (v := 1) hx hb dX11_has_9 (by decide) ?_
    refine lv_goto (tgt := 14) hx hb dX11_has_10 (by decide) ?_
    exact j14_ 1 _ _ ls ⟨(rg_w (rg_lit (by decide) : rg (1) (1) (1 : Int32)) (by decide) (by decide)), (Or.inr (Or.inl ⟨c6_, rfl⟩))⟩ hP hD hS (lv_sub hl [0, 1] rfl)
def R_X11_feed_j3 (v202300_ : Int32) (e_ : Int32) (d_ : Int32) (c_ : Int32) (b_ : Int32) (a_ : Int32) (v207600_ : Int32) : Prop := ((4 : Int32) ≤ v202300_ ∧ (8 : Int32) ≤ v202300_ ∧ (12 : Int32) ≤ v202300_ ∧ (16 : Int32) ≤ v202300_ ∧ v207600_ = e_) ∨ ((4 : Int32) ≤ v202300_ ∧ (8 : Int32) ≤ v202300_ ∧ (12 : Int32) ≤ v202300_ ∧ ¬ ((16 : Int32) ≤ v202300_) ∧ v207600_ = d_) ∨ ((4 : Int32) ≤ v202300_ ∧ (8 : Int32) ≤ v202300_ ∧ ¬ ((12 : Int32) ≤ v202300_) ∧ v207600_ = c_) ∨ ((4 : Int32) ≤ v202300_ ∧ ¬ ((8 : Int32) ≤ v202300_) ∧ v207600_ = b_) ∨ (¬ ((4 : Int32) ≤ v202300_) ∧ v207600_ = a_) ∨ False
def R_X11_feed_b1 (e_ : Int32) (d_ : Int32) (c_ : Int32) (b_ : Int32) (a_ : Int32) (uZ_ vZ_ : Int32 × Int32 × (Nat → Int32)) : Prop := (∃ (v207600_ : Int32), ¬ ((20 : Int32) ≤ uZ_.1) ∧ R_X11_feed_j3 uZ_.1 e_ d_ c_ b_ a_ v207600_ ∧ vZ_ = (uZ_.1 + 1, uZ_.2.1 + 1, upd uZ_.2.2 uZ_.2.1.toNatClampNeg (((v207600_.toUInt32 >>> ((24 - (8 * (uZ_.1 &&& 3))).toUInt32 &&& Int32.toUInt32 31)).toInt32) &&& 255))) ∨ False
def R_X11_feed_e (mtaped_ : Int32) (e_ : Int32) (d_ : Int32) (c_ : Int32) (b_ : Int32) (a_ : Int32) (ftape_ : Nat → Int32) (x0_ : Int32) (x1_ : Nat → Int32) (r : Int32) : Prop := (∃ (v202300_ : Int32) (v202301_ : Int32) (g202302_ : Nat → Int32), (mtaped_ + 20) ≤ (900 : Int32) ∧ Itr (R_X11_feed_b1 e_ d_ c_ b_ a_) (0, mtaped_, ftape_) (v202300_, v202301_, g202302_) ∧ (20 : Int32) ≤ v202300_ ∧ x0_ = v202301_ ∧ x1_ = g202302_ ∧ r = v202301_) ∨ (¬ ((mtaped_ + 20) ≤ (900 : Int32)) ∧ x0_ = mtaped_ ∧ x1_ = ftape_ ∧ r = ((-1) : Int32)) ∨ False
set_option maxHeartbeats 4000000 in
set_option maxRecDepth 100000 in
theorem sf_X11_feed (l : Launch) (D : va_G) (cy : Nat → ClassId) (nm_ : Nat) (nknown_ : Nat) (ntelling_ : Nat) (nimages_ : Nat) (nisImage_ : Nat) (mthrown_ : Int32) (ntape_ : Nat) (mtaped_ : Int32) (mlength_ : Int32) (mhead_ : Int32) (mbegin_ : Int32) (mtoken_ : Int32) (mvalue_ : Int32) (mbad_ : Int32) (mbadPlace_ : Int32) (mfaultKind_ : Int32) (mfaultPlace_ : Int32) (mdeep_ : Int32) (mlawMany_ : Int32) (mlawAt_ : Int32) (nstack_ : Nat) (nasked_ : Nat) (mfell_ : Int32) (mfellIn_ : Int32) (naside_ : Nat) (mstate_ : Int32) (mlanded_ : Int32) (mwaitFalls_ : Int32) (mwaitWeight_ : Int32) (nfallsAfter_ : Nat) (nfalling_ : Nat) (ncomes_ : Nat) (ngoesOn_ : Nat) (nwayRow_ : Nat) (nmany_ : Nat) (nmanyThen_ : Nat) (mtoldLet_ : Int32) (ntSort_ : Nat) (ntMany_ : Nat) (nnumbers_ : Nat) (ftape_ : Nat → Int32) (a_ : Int32) (b_ : Int32) (c_ : Int32) (d_ : Int32) (e_ : Int32) (rmtaped_ : rg (0) (900) mtaped_) (rmlength_ : rg (0) (900) mlength_) (rmhead_ : rg (0) (900) mhead_) (rmbegin_ : rg (0) (900) mbegin_) : Ci l yX11_feed cX11_feed 8 (some .int) { frames := 0, cells := 0, slots := 0, locals := 0 } D cy [.ref nm_, .int a_, .int b_, .int c_, .int d_, .int e_] [(nm_, .inr (11, [.ref nknown_, .ref ntelling_, .ref nimages_, .ref nisImage_, .int mthrown_, .ref ntape_, .int mtaped_, .int mlength_, .int mhead_, .int mbegin_, .int mtoken_, .int mvalue_, .int mbad_, .int mbadPlace_, .int mfaultKind_, .int mfaultPlace_, .int mdeep_, .int mlawMany_, .int mlawAt_, .ref nstack_, .ref nasked_, .int mfell_, .int mfellIn_, .ref naside_, .int mstate_, .int mlanded_, .int mwaitFalls_, .int mwaitWeight_, .ref nfallsAfter_, .ref nfalling_, .ref ncomes_, .ref ngoesOn_, .ref nwayRow_, .ref nmany_, .ref nmanyThen_, .int mtoldLet_, .ref ntSort_, .ref ntMany_, .ref nnumbers_])), (ntape_, .inl (cy 0, 900, .inl (ftape_)))] (fun r W1 => ∃ (x0_ : Int32) (x1_ : Nat → Int32), rg (0) (900) x0_ ∧ R_X11_feed_e mtaped_ e_ d_ c_ b_ a_ ftape_ x0_ x1_ r ∧ W1 = [(nm_, .inr (11, [.ref nknown_, .ref ntelling_, .ref nimages_, .ref nisImage_, .int 0, .ref ntape_, .int x0_, .int mlength_, .int mhead_, .int mbegin_, .int mtoken_, .int mvalue_, .int mbad_, .int mbadPlace_, .int mfaultKind_, .int mfaultPlace_, .int mdeep_, .int mlawMany_, .int mlawAt_, .ref nstack_, .ref nasked_, .int mfell_, .int mfellIn_, .ref naside_, .int mstate_, .int mlanded_, .int mwaitFalls_, .int mwaitWeight_, .ref nfallsAfter_, .ref nfalling_, .ref ncomes_, .ref ngoesOn_, .ref nwayRow_, .ref nmany_, .ref nmanyThen_, .int mtoldLet_, .ref ntSort_, .ref ntMany_, .ref nnumbers_])), (ntape_, .inl (cy 0, 900, .inl (x1_)))] ∧ rg (-1) (900) r) := by
  refine Ci.of (by decide) (Nat.le_of_ble_eq_true rfl) ?_
  intro p e s m below meth c A ls hX hE hP hD hl
  obtain ⟨hx, hb, hr, hml, hown, htA, hlk⟩ := id hX
  have hK := hE.1
  have hS : va_S A s.heap s.heap [] := va_S.rf
  have hl : lv_has ls 8 [(0, .ref nm_), (1, .int a_), (2, .int b_), (3, .int c_), (4, .int d_), (5, .int e_)] := hl
  refine lv_aload_n hx hb dX11_feed_0 rfl (lv_at hl 0 rfl) ?_
  refine lv_iconst (v := 0) hx hb dX11_feed_1 (by decide) ?_
  refine va_put (ci := 11) (v := .int 0) (ty := .int) (C := RX11) (T := TX11) (N := 39) hx hb htA in_X11 tyX11 tyX11_ok nmX11 hown hK hP hD hS 0 rfl rfl 4 (by decide) (htA _ wd_1358) (fun _ h => h) rfl (by decide +kernel) rfl rfl (Nat.le_of_ble_eq_true rfl) dX11_feed_2 (fun H locs hP hD hS => ?_)
  have hP : va_P D vwCl [(nm_, .inr (11, [.ref nknown_, .ref ntelling_, .ref nimages_, .ref nisImage_, .int 0, .ref ntape_, .int mtaped_, .int mlength_, .int mhead_, .int mbegin_, .int mtoken_, .int mvalue_, .int mbad_, .int mbadPlace_, .int mfaultKind_, .int mfaultPlace_, .int mdeep_, .int mlawMany_, .int mlawAt_, .ref nstack_, .ref nasked_, .int mfell_, .int mfellIn_, .ref naside_, .int mstate_, .int mlanded_, .int mwaitFalls_, .int mwaitWeight_, .ref nfallsAfter_, .ref nfalling_, .ref ncomes_, .ref ngoesOn_, .ref nwayRow_, .ref nmany_, .ref nmanyThen_, .int mtoldLet_, .ref ntSort_, .ref ntMany_, .ref nnumbers_])), (ntape_, .inl (cy 0, 900, .inl (ftape_)))] H := hP
  have hD := va_ca hP hD
  refine lv_aload_n hx hb dX11_feed_5 rfl (lv_at hl 0 rfl) ?_
  refine va_get (ci := 11) (v := .int mtaped_) (C := RX11) (T := TX11) (N := 39) hx hb htA in_X11 hown hK hP 0 rfl rfl 6 (by decide) (htA _ wd_1360) (fun _ h => h) rfl dX11_feed_6 ?_
  refine lv_bipush (v := 20) hx hb dX11_feed_9 (by decide) ?_
  refine lv_iadd hx hb dX11_feed_11 ?_
  have g1_ : rg (20) (920) (mtaped_ + 20) := rg_add rmtaped_ (rg_lit (by decide) : rg (20) (20) (20 : Int32)) (by decide) (by decide) (by decide) (by decide)
  refine lv_sipush (v := 900) hx hb dX11_feed_12 (by decide) ?_
  refine lv_icmp_le (tgt := 20) hx hb dX11_feed_15 (by decide) (fun c15_ => ?_) (fun c15_ => ?_)
  · have g2_ : rg (0) (880) mtaped_ := rg_ai (rg_le1 c15_ g1_ (rg_lit (by decide) : rg (900) (900) (900 : Int32)) (Int.le_refl _)) rmtaped_ (by decide : (20 : Int32).toInt = 20) (by decide) (by decide) (by decide)
    have g3_ : rg (20) (900) (mtaped_ + 20) := rg_le1 c15_ g1_ (rg_lit (by decide) : rg (900) (900) (900 : Int32)) (by decide)
    refine lv_iconst (v := 0) hx hb dX11_feed_20 (by decide) ?_
    refine lv_istore (lv' := [(6, .int 0), (0, .ref nm_), (1, .int a_), (2, .int b_), (3, .int c_), (4, .int d_), (5, .int e_)]) hx hb dX11_feed_21 hl (by decide) rfl (fun ls hl => ?_)
    refine loopT (τ := Int32 × Int32 × (Nat → Int32)) (WS := fun i => [(nm_, .inr (11, [.ref nknown_, .ref ntelling_, .ref nimages_, .ref nisImage_, .int 0, .ref ntape_, .int i.2.1, .int mlength_, .int mhead_, .int mbegin_, .int mtoken_, .int mvalue_, .int mbad_, .int mbadPlace_, .int mfaultKind_, .int mfaultPlace_, .int mdeep_, .int mlawMany_, .int mlawAt_, .ref nstack_, .ref nasked_, .int mfell_, .int mfellIn_, .ref naside_, .int mstate_, .int mlanded_, .int mwaitFalls_, .int mwaitWeight_, .ref nfallsAfter_, .ref nfalling_, .ref ncomes_, .ref ngoesOn_, .ref nwayRow_, .ref nmany_, .ref nmanyThen_, .int mtoldLet_, .ref ntSort_, .ref ntMany_, .ref nnumbers_])), (ntape_, .inl (cy 0, 900, .inl (i.2.2)))]) (LV := fun i => [(6, .int i.1), (0, .ref nm_), (1, .int a_), (2, .int b_), (3, .int c_), (4, .int d_), (5, .int e_)]) (fun i => (21 - i.1.toInt).toNat) (fun i => rg (0) (20) i.1 ∧ rg (0) (901) i.2.1 ∧ Itr (R_X11_feed_b1 e_ d_ c_ b_ a_) (0, mtaped_, ftape_) (i.1, i.2.1, i.2.2) ∧ db i.2.1 i.1 (880)) ?_ (0, mtaped_, ftape_) ⟨(rg_w (rg_lit (by decide) : rg (0) (0) (0 : Int32)) (by decide) (by decide)), (rg_w g2_ (by decide) (by decide)), (Itr.rf _ _), (db_w (db_rg (e := 880) g2_ (rg_lit (by decide) : rg (0) (0) (0 : Int32)) (by decide)) (by decide))⟩ hP hD hS (lv_sub hl [0, 1, 2, 3, 4, 5, 6] rfl)
    intro i_ H locs ls hI ih23_ hP hD hS hl
    obtain ⟨v202300_, v202301_, g202302_⟩ := i_
    have hI : rg (0) (20) v202300_ ∧ rg (0) (901) v202301_ ∧ Itr (R_X11_feed_b1 e_ d_ c_ b_ a_) (0, mtaped_, ftape_) (v202300_, v202301_, g202302_) ∧ db v202301_ v202300_ (880) := hI
    obtain ⟨rv202300_, rv202301_, hR1_, hb23_0_⟩ := hI
    have hP : va_P D vwCl [(nm_, .inr (11, [.ref nknown_, .ref ntelling_, .ref nimages_, .ref nisImage_, .int 0, .ref ntape_, .int v202301_, .int mlength_, .int mhead_, .int mbegin_, .int mtoken_, .int mvalue_, .int mbad_, .int mbadPlace_, .int mfaultKind_, .int mfaultPlace_, .int mdeep_, .int mlawMany_, .int mlawAt_, .ref nstack_, .ref nasked_, .int mfell_, .int mfellIn_, .ref naside_, .int mstate_, .int mlanded_, .int mwaitFalls_, .int mwaitWeight_, .ref nfallsAfter_, .ref nfalling_, .ref ncomes_, .ref ngoesOn_, .ref nwayRow_, .ref nmany_, .ref nmanyThen_, .int mtoldLet_, .ref ntSort_, .ref ntMany_, .ref nnumbers_])), (ntape_, .inl (cy 0, 900, .inl (g202302_)))] H := hP
    have hD := va_ca hP hD
    have hl : lv_has ls 8 [(6, .int v202300_), (0, .ref nm_), (1, .int a_), (2, .int b_), (3, .int c_), (4, .int d_), (5, .int e_)] := hl
    refine lv_iload hx hb dX11_feed_23 (lv_at hl 0 rfl) ?_
    refine lv_bipush (v := 20) hx hb dX11_feed_25 (by decide) ?_
    refine lv_icmp_ge (tgt := 120) hx hb dX11_feed_27 (by decide) (fun c27_ => ?_) (fun c27_ => ?_)
    · have g4_ : rg (20) (20) v202300_ := rg_le2 c27_ (rg_lit (by decide) : rg (20) (20) (20 : Int32)) rv202300_ (by decide)
      refine lv_aload_n hx hb dX11_feed_120 rfl (lv_at hl 1 rfl) ?_
      refine va_get (ci := 11) (v := .int v202301_) (C := RX11) (T := TX11) (N := 39) hx hb htA in_X11 hown hK hP 0 rfl rfl 6 (by decide) (htA _ wd_1360) (fun _ h => h) rfl dX11_feed_121 ?_
      exact rI hX hE hP hD hS dX11_feed_124 (by decide) (by decide) ⟨v202301_, g202302_, (rg_w (db_hi (f := 900) hb23_0_ rv202301_ rv202300_ (by decide)) (by decide) (by decide)), (Or.inl ⟨v202300_, v202301_, g202302_, c15_, hR1_, c27_, rfl, rfl, rfl⟩), rfl, (rg_w (db_hi (f := 900) hb23_0_ rv202301_ rv202300_ (by decide)) (by decide) (by decide))⟩
    · have g5_ : rg (0) (19) v202300_ := rg_lt1 (rg_nle c27_) rv202300_ (rg_lit (by decide) : rg (20) (20) (20 : Int32)) (by decide)
      refine lv_iload hx hb dX11_feed_30 (lv_at hl 0 rfl) ?_
      refine lv_iconst (v := 4) hx hb dX11_feed_32 (by decide) ?_
      refine joinT (D := D) (A := A) (pc := 76) (mL := 8) (τ := Int32) (WS := fun i => [(nm_, .inr (11, [.ref nknown_, .ref ntelling_, .ref nimages_, .ref nisImage_, .int 0, .ref ntape_, .int v202301_, .int mlength_, .int mhead_, .int mbegin_, .int mtoken_, .int mvalue_, .int mbad_, .int mbadPlace_, .int mfaultKind_, .int mfaultPlace_, .int mdeep_, .int mlawMany_, .int mlawAt_, .ref nstack_, .ref nasked_, .int mfell_, .int mfellIn_, .ref naside_, .int mstate_, .int mlanded_, .int mwaitFalls_, .int mwaitWeight_, .ref nfallsAfter_, .ref nfalling_, .ref ncomes_, .ref ngoesOn_, .ref nwayRow_, .ref nmany_, .ref nmanyThen_, .int mtoldLet_, .ref ntSort_, .ref ntMany_, .ref nnumbers_])), (ntape_, .inl (cy 0, 900, .inl (g202302_)))]) (LV := fun i => [(6, .int v202300_), (0, .ref nm_), (1, .int a_), (2, .int b_), (3, .int c_), (4, .int d_), (5, .int e_)]) (ST := fun i => [.int i]) (cells := 0) (slots := 0) (fun i => R_X11_feed_j3 v202300_ e_ d_ c_ b_ a_ i) (fun v207600_ H locs ls hI hP hD hS hl => ?_) (fun j76_ => ?_)
      · have hI : R_X11_feed_j3 v202300_ e_ d_ c_ b_ a_ v207600_ := hI
        have hR3_ := hI
        have hP : va_P D vwCl [(nm_, .inr (11, [.ref nknown_, .ref ntelling_, .ref nimages_, .ref nisImage_, .int 0, .ref ntape_, .int v202301_, .int mlength_, .int mhead_, .int mbegin_, .int mtoken_, .int mvalue_, .int mbad_, .int mbadPlace_, .int mfaultKind_, .int mfaultPlace_, .int mdeep_, .int mlawMany_, .int mlawAt_, .ref nstack_, .ref nasked_, .int mfell_, .int mfellIn_, .ref naside_, .int mstate_, .int mlanded_, .int mwaitFalls_, .int mwaitWeight_, .ref nfallsAfter_, .ref nfalling_, .ref ncomes_, .ref ngoesOn_, .ref nwayRow_, .ref nmany_, .ref nmanyThen_, .int mtoldLet_, .ref ntSort_, .ref ntMany_, .ref nnumbers_])), (ntape_, .inl (cy 0, 900, .inl (g202302_)))] H := hP
        have hD := va_ca hP hD
        have hl : lv_has ls 8 [(6, .int v202300_), (0, .ref nm_), (1, .int a_), (2, .int b_), (3, .int c_), (4, .int d_), (5, .int e_)] := hl
        refine lv_istore (lv' := [(7, .int v207600_), (6, .int v202300_), (0, .ref nm_), (1, .int a_), (2, .int b_), (3, .int c_), (4, .int d_), (5, .int e_)]) hx hb dX11_feed_76 hl (by decide) rfl (fun ls hl => ?_)
        refine lv_aload_n hx hb dX11_feed_78 rfl (lv_at hl 2 rfl) ?_
        refine va_get (ci := 11) (v := .ref ntape_) (C := RX11) (T := TX11) (N := 39) hx hb htA in_X11 hown hK hP 0 rfl rfl 5 (by decide) (htA _ wd_1359) (fun _ h => h) rfl dX11_feed_79 ?_
        refine lv_aload_n hx hb dX11_feed_82 rfl (lv_at hl 2 rfl) ?_
        refine va_get (ci := 11) (v := .int v202301_) (C := RX11) (T := TX11) (N := 39) hx hb htA in_X11 hown hK hP 0 rfl rfl 6 (by decide) (htA _ wd_1360) (fun _ h => h) rfl dX11_feed_83 ?_
        refine lv_iload hx hb dX11_feed_86 (lv_at hl 0 rfl) ?_
        refine lv_bipush (v := 24) hx hb dX11_feed_88 (by decide) ?_
        refine lv_bipush (v := 8) hx hb dX11_feed_90 (by decide) ?_
        refine lv_iload hx hb dX11_feed_92 (lv_at hl 1 rfl) ?_
        refine lv_iconst (v := 3) hx hb dX11_feed_94 (by decide) ?_
        refine lv_iand hx hb dX11_feed_95 ?_
        have g6_ : rg (0) (3) (v202300_ &&& 3) := rg_and (by decide) (by decide)
        refine lv_imul hx hb dX11_feed_96 ?_
        have g7_ : rg (0) (24) (8 * (v202300_ &&& 3)) := rg_mulc (k := 8) (by decide) g6_ (by decide) (by decide) (by decide) (by decide) (by decide)
        refine lv_isub hx hb dX11_feed_97 ?_
        have g8_ : rg (0) (24) (24 - (8 * (v202300_ &&& 3))) := rg_sub (rg_lit (by decide) : rg (24) (24) (24 : Int32)) g7_ (by decide) (by decide) (by decide) (by decide)
        refine lv_iushr hx hb dX11_feed_98 rfl ?_
        refine lv_sipush (v := 255) hx hb dX11_feed_99 (by decide) ?_
        refine lv_iand hx hb dX11_feed_102 ?_
        have g9_ : rg (0) (255) (((v207600_.toUInt32 >>> ((24 - (8 * (v202300_ &&& 3))).toUInt32 &&& Int32.toUInt32 31)).toInt32) &&& 255) := rg_and (by decide) (by decide)
        refine va_iast hx hb hK hP hD hS 1 0 rfl rfl (rg_in (db_hi (f := 899) hb23_0_ (db_hi (f := 900) hb23_0_ rv202301_ rv202300_ (by decide)) g5_ (by decide)) (by decide) (by decide)) dX11_feed_103 (fun H locs hP hD hS => ?_)
        have hP : va_P D vwCl [(nm_, .inr (11, [.ref nknown_, .ref ntelling_, .ref nimages_, .ref nisImage_, .int 0, .ref ntape_, .int v202301_, .int mlength_, .int mhead_, .int mbegin_, .int mtoken_, .int mvalue_, .int mbad_, .int mbadPlace_, .int mfaultKind_, .int mfaultPlace_, .int mdeep_, .int mlawMany_, .int mlawAt_, .ref nstack_, .ref nasked_, .int mfell_, .int mfellIn_, .ref naside_, .int mstate_, .int mlanded_, .int mwaitFalls_, .int mwaitWeight_, .ref nfallsAfter_, .ref nfalling_, .ref ncomes_, .ref ngoesOn_, .ref nwayRow_, .ref nmany_, .ref nmanyThen_, .int mtoldLet_, .ref ntSort_, .ref ntMany_, .ref nnumbers_])), (ntape_, .inl (cy 0, 900, .inl (upd g202302_ v202301_.toNatClampNeg (((v207600_.toUInt32 >>> ((24 - (8 * (v202300_ &&& 3))).toUInt32 &&& Int32.toUInt32 31)).toInt32) &&& 255))))] H := hP
        have hD := va_ca hP hD
        refine lv_aload_n hx hb dX11_feed_104 rfl (lv_at hl 2 rfl) ?_
        refine lv_dup hx hb dX11_feed_105 rfl ?_
        refine va_get (ci := 11) (v := .int v202301_) (C := RX11) (T := TX11) (N := 39) hx hb htA in_X11 hown hK hP 0 rfl rfl 6 (by decide) (htA _ wd_1360) (fun _ h => h) rfl dX11_feed_106 ?_
        refine lv_iconst (v := 1) hx hb dX11_feed_109 (by decide) ?_
        refine lv_iadd hx hb dX11_feed_110 ?_
        have g10_ : rg (1) (901) (v202301_ + 1) := rg_add (db_hi (f := 900) hb23_0_ rv202301_ rv202300_ (by decide)) (rg_lit (by decide) : rg (1) (1) (1 : Int32)) (by decide) (by decide) (by decide) (by decide)
        refine va_put (ci := 11) (v := .int (v202301_ + 1)) (ty := .int) (C := RX11) (T := TX11) (N := 39) hx hb htA in_X11 tyX11 tyX11_ok nmX11 hown hK hP hD hS 0 rfl rfl 6 (by decide) (htA _ wd_1360) (fun _ h => h) rfl (by decide +kernel) rfl rfl (Nat.le_of_ble_eq_true rfl) dX11_feed_111 (fun H locs hP hD hS => ?_)
        have hP : va_P D vwCl [(nm_, .inr (11, [.ref nknown_, .ref ntelling_, .ref nimages_, .ref nisImage_, .int 0, .ref ntape_, .int (v202301_ + 1), .int mlength_, .int mhead_, .int mbegin_, .int mtoken_, .int mvalue_, .int mbad_, .int mbadPlace_, .int mfaultKind_, .int mfaultPlace_, .int mdeep_, .int mlawMany_, .int mlawAt_, .ref nstack_, .ref nasked_, .int mfell_, .int mfellIn_, .ref naside_, .int mstate_, .int mlanded_, .int mwaitFalls_, .int mwaitWeight_, .ref nfallsAfter_, .ref nfalling_, .ref ncomes_, .ref ngoesOn_, .ref nwayRow_, .ref nmany_, .ref nmanyThen_, .int mtoldLet_, .ref ntSort_, .ref ntMany_, .ref nnumbers_])), (ntape_, .inl (cy 0, 900, .inl (upd g202302_ v202301_.toNatClampNeg (((v207600_.toUInt32 >>> ((24 - (8 * (v202300_ &&& 3))).toUInt32 &&& Int32.toUInt32 31)).toInt32) &&& 255))))] H := hP
        have hD := va_ca hP hD
        refine lv_iinc (v := v202300_ + 1) (lv' := [(6, .int (v202300_ + 1)), (7, .int v207600_), (0, .ref nm_), (1, .int a_), (2, .int b_), (3, .int c_), (4, .int d_), (5, .int e_)]) hx hb dX11_feed_114 hl (k := 1) rfl rfl (by decide) rfl (fun ls hl => ?_)
        have g11_ : rg (1) (20) (v202300_ + 1) := rg_add g5_ (rg_lit (by decide) : rg (1) (1) (1 : Int32)) (by decide) (by decide) (by decide) (by decide)
        refine lv_goto (tgt := 23) hx hb dX11_feed_117 (by decide) ?_
        exact ih23_ (v202300_ + 1, v202301_ + 1, upd g202302_ v202301_.toNatClampNeg (((v207600_.toUInt32 >>> ((24 - (8 * (v202300_ &&& 3))).toUInt32 &&& Int32.toUInt32 31)).toInt32) &&& 255)) _ _ ls ⟨(rg_w g11_ (by decide) (by decide)), (rg_w g10_ (by decide) (by decide)), (Itr.st hR1_ (Or.inl ⟨v207600_, c27_, hR3_, rfl⟩)), (db_w (db_al (db_ar hb23_0_ g5_ (by decide : (1 : Int32).toInt = 1) (by decide) (by decide)) (db_hi (f := 900) hb23_0_ rv202301_ rv202300_ (by decide)) (by decide : (1 : Int32).toInt = 1) (by decide) (by decide)) (by decide))⟩ (show (21 - (v202300_ + 1).toInt).toNat < (21 - v202300_.toInt).toNat from by rw [show (v202300_ + 1).toInt = v202300_.toInt + 1 from inc32 v202300_ (by have hq := (rv202300_).2; omega)]; have hq := (g5_).1; have hq2 := (g5_).2; omega) hP hD hS (lv_sub hl [0, 2, 3, 4, 5, 6, 7] rfl)
      refine lv_icmp_ge (tgt := 40) hx hb dX11_feed_33 (by decide) (fun c33_ => ?_) (fun c33_ => ?_)
      · have g12_ : rg (4) (19) v202300_ := rg_le2 c33_ (rg_lit (by decide) : rg (4) (4) (4 : Int32)) g5_ (by decide)
        refine lv_iload hx hb dX11_feed_40 (lv_at hl 0 rfl) ?_
        refine lv_bipush (v := 8) hx hb dX11_feed_42 (by decide) ?_
        refine lv_icmp_ge (tgt := 51) hx hb dX11_feed_44 (by decide) (fun c44_ => ?_) (fun c44_ => ?_)
        · have g13_ : rg (8) (19) v202300_ := rg_le2 c44_ (rg_lit (by decide) : rg (8) (8) (8 : Int32)) g12_ (by decide)
          refine lv_iload hx hb dX11_feed_51 (lv_at hl 0 rfl) ?_
          refine lv_bipush (v := 12) hx hb dX11_feed_53 (by decide) ?_
          refine lv_icmp_ge (tgt := 62) hx hb dX11_feed_55 (by decide) (fun c55_ => ?_) (fun c55_ => ?_)
          · have g14_ : rg (12) (19) v202300_ := rg_le2 c55_ (rg_lit (by decide) : rg (12) (12) (12 : Int32)) g13_ (by decide)
            refine lv_iload hx hb dX11_feed_62 (lv_at hl 0 rfl) ?_
            refine lv_bipush (v := 16) hx hb dX11_feed_64 (by decide) ?_
            refine lv_icmp_ge (tgt := 74) hx hb dX11_feed_66 (by decide) (fun c66_ => ?_) (fun c66_ => ?_)
            · have g15_ : rg (16) (19) v202300_ := rg_le2 c66_ (rg_lit (by decide) : rg (16) (16) (16 : Int32)) g14_ (by decide)
              refine lv_iload hx hb dX11_feed_74 (lv_at hl 6 rfl) ?_
              exact j76_ e_ _ _ ls (Or.inl ⟨c33_, c44_, c55_, c66_, rfl⟩) hP hD hS (lv_sub hl [0, 1, 2, 3, 4, 5, 6] rfl)
            · have g16_ : rg (12) (15) v202300_ := rg_lt1 (rg_nle c66_) g14_ (rg_lit (by decide) : rg (16) (16) (16 : Int32)) (by decide)
              refine lv_iload hx hb dX11_feed_69 (lv_at hl 5 rfl) ?_
              refine lv_goto (tgt := 76) hx hb dX11_feed_71 (by decide) ?_
              exact j76_ d_ _ _ ls (Or.inr (Or.inl ⟨c33_, c44_, c55_, c66_, rfl⟩)) hP hD hS (lv_sub hl [0, 1, 2, 3, 4, 5, 6] rfl)
          · have g17_ : rg (8) (11) v202300_ := rg_lt1 (rg_nle c55_) g13_ (rg_lit (by decide) : rg (12) (12) (12 : Int32)) (by decide)
            refine lv_iload_n hx hb dX11_feed_58 rfl (lv_at hl 4 rfl) ?_
            refine lv_goto (tgt := 76) hx hb dX11_feed_59 (by decide) ?_
            exact j76_ c_ _ _ ls (Or.inr (Or.inr (Or.inl ⟨c33_, c44_, c55_, rfl⟩))) hP hD hS (lv_sub hl [0, 1, 2, 3, 4, 5, 6] rfl)
        · have g18_ : rg (4) (7) v202300_ := rg_lt1 (rg_nle c44_) g12_ (rg_lit (by decide) : rg (8) (8) (8 : Int32)) (by decide)
          refine lv_iload_n hx hb dX11_feed_47 rfl (lv_at hl 3 rfl) ?_
          refine lv_goto (tgt := 76) hx hb dX11_feed_48 (by decide) ?_
          exact j76_ b_ _ _ ls (Or.inr (Or.inr (Or.inr (Or.inl ⟨c33_, c44_, rfl⟩)))) hP hD hS (lv_sub hl [0, 1, 2, 3, 4, 5, 6] rfl)
      · have g19_ : rg (0) (3) v202300_ := rg_lt1 (rg_nle c33_) g5_ (rg_lit (by decide) : rg (4) (4) (4 : Int32)) (by decide)
        refine lv_iload_n hx hb dX11_feed_36 rfl (lv_at hl 2 rfl) ?_
        refine lv_goto (tgt := 76) hx hb dX11_feed_37 (by decide) ?_
        exact j76_ a_ _ _ ls (Or.inr (Or.inr (Or.inr (Or.inr (Or.inl ⟨c33_, rfl⟩))))) hP hD hS (lv_sub hl [0, 1, 2, 3, 4, 5, 6] rfl)
  · have g20_ : rg (901) (920) (mtaped_ + 20) := rg_lt2 (rg_nle c15_) (rg_lit (by decide) : rg (900) (900) (900 : Int32)) g1_ (by decide)
    refine lv_iconst (v := (-1)) hx hb dX11_feed_18 (by decide) ?_
    exact rI hX hE hP hD hS dX11_feed_19 (by decide) (by decide) ⟨mtaped_, ftape_, (rg_w rmtaped_ (by decide) (by decide)), (Or.inr (Or.inl ⟨c15_, rfl, rfl, rfl⟩)), rfl, (rg_w (rg_lit (by decide) : rg (-1) (-1) ((-1) : Int32)) (by decide) (by decide))⟩
def R_X11_see_j1 (mlength_ : Int32) (k_ : Int32) (ftape_ : Nat → Int32) (v201800_ : Int32) : Prop := (mlength_ ≤ k_ ∧ v201800_ = (0 : Int32)) ∨ (∃ (v10130_ : Int32), ¬ (mlength_ ≤ k_) ∧ v10130_ = ftape_ k_.toNatClampNeg ∧ v201800_ = v10130_) ∨ False
def R_X11_see_e (mlength_ : Int32) (k_ : Int32) (ftape_ : Nat → Int32) (r : Int32) : Prop := (∃ (v201800_ : Int32), R_X11_see_j1 mlength_ k_ ftape_ v201800_ ∧ r = v201800_) ∨ False
set_option maxHeartbeats 4000000 in
set_option maxRecDepth 100000 in
theorem sf_X11_see (l : Launch) (D : va_G) (cy : Nat → ClassId) (nm_ : Nat) (nknown_ : Nat) (ntelling_ : Nat) (nimages_ : Nat) (nisImage_ : Nat) (mthrown_ : Int32) (ntape_ : Nat) (mtaped_ : Int32) (mlength_ : Int32) (mhead_ : Int32) (mbegin_ : Int32) (mtoken_ : Int32) (mvalue_ : Int32) (mbad_ : Int32) (mbadPlace_ : Int32) (mfaultKind_ : Int32) (mfaultPlace_ : Int32) (mdeep_ : Int32) (mlawMany_ : Int32) (mlawAt_ : Int32) (nstack_ : Nat) (nasked_ : Nat) (mfell_ : Int32) (mfellIn_ : Int32) (naside_ : Nat) (mstate_ : Int32) (mlanded_ : Int32) (mwaitFalls_ : Int32) (mwaitWeight_ : Int32) (nfallsAfter_ : Nat) (nfalling_ : Nat) (ncomes_ : Nat) (ngoesOn_ : Nat) (nwayRow_ : Nat) (nmany_ : Nat) (nmanyThen_ : Nat) (mtoldLet_ : Int32) (ntSort_ : Nat) (ntMany_ : Nat) (nnumbers_ : Nat) (ftape_ : Nat → Int32) (k_ : Int32) (rmtaped_ : rg (0) (900) mtaped_) (rmlength_ : rg (0) (900) mlength_) (rmhead_ : rg (0) (900) mhead_) (rmbegin_ : rg (0) (900) mbegin_) (rk_ : rg (0) (900) k_) : Ci l yX11_see cX11_see 2 (some .int) { frames := 0, cells := 0, slots := 0, locals := 0 } D cy [.ref nm_, .int k_] [(nm_, .inr (11, [.ref nknown_, .ref ntelling_, .ref nimages_, .ref nisImage_, .int mthrown_, .ref ntape_, .int mtaped_, .int mlength_, .int mhead_, .int mbegin_, .int mtoken_, .int mvalue_, .int mbad_, .int mbadPlace_, .int mfaultKind_, .int mfaultPlace_, .int mdeep_, .int mlawMany_, .int mlawAt_, .ref nstack_, .ref nasked_, .int mfell_, .int mfellIn_, .ref naside_, .int mstate_, .int mlanded_, .int mwaitFalls_, .int mwaitWeight_, .ref nfallsAfter_, .ref nfalling_, .ref ncomes_, .ref ngoesOn_, .ref nwayRow_, .ref nmany_, .ref nmanyThen_, .int mtoldLet_, .ref ntSort_, .ref ntMany_, .ref nnumbers_])), (ntape_, .inl (cy 0, 900, .inl (ftape_)))] (fun r W1 => R_X11_see_e mlength_ k_ ftape_ r ∧ W1 = [(nm_, .inr (11, [.ref nknown_, .ref ntelling_, .ref nimages_, .ref nisImage_, .int mthrown_, .ref ntape_, .int mtaped_, .int mlength_, .int mhead_, .int mbegin_, .int mtoken_, .int mvalue_, .int mbad_, .int mbadPlace_, .int mfaultKind_, .int mfaultPlace_, .int mdeep_, .int mlawMany_, .int mlawAt_, .ref nstack_, .ref nasked_, .int mfell_, .int mfellIn_, .ref naside_, .int mstate_, .int mlanded_, .int mwaitFalls_, .int mwaitWeight_, .ref nfallsAfter_, .ref nfalling_, .ref ncomes_, .ref ngoesOn_, .ref nwayRow_, .ref nmany_, .ref nmanyThen_, .int mtoldLet_, .ref ntSort_, .ref ntMany_, .ref nnumbers_])), (ntape_, .inl (cy 0, 900, .inl (ftape_)))]) := by
  refine Ci.of (by decide) (Nat.le_of_ble_eq_true rfl) ?_
  intro p e s m below meth c A ls hX hE hP hD hl
  obtain ⟨hx, hb, hr, hml, hown, htA, hlk⟩ := id hX
  have hK := hE.1
  have hS : va_S A s.heap s.heap [] := va_S.rf
  have hl : lv_has ls 2 [(0, .ref nm_), (1, .int k_)] := hl
  refine lv_iload_n hx hb dX11_see_0 rfl (lv_at hl 1 rfl) ?_
  refine lv_aload_n hx hb dX11_see_1 rfl (lv_at hl 0 rfl) ?_
  refine va_get (ci := 11) (v := .int mlength_) (C := RX11) (T := TX11) (N := 39) hx hb htA in_X11 hown hK hP 0 rfl rfl 7 (by decide) (htA _ wd_1361) (fun _ h => h) rfl dX11_see_2 ?_
  refine joinT (D := D) (A := A) (pc := 18) (mL := 2) (τ := Int32) (WS := fun i => [(nm_, .inr (11, [.ref nknown_, .ref ntelling_, .ref nimages_, .ref nisImage_, .int mthrown_, .ref ntape_, .int mtaped_, .int mlength_, .int mhead_, .int mbegin_, .int mtoken_, .int mvalue_, .int mbad_, .int mbadPlace_, .int mfaultKind_, .int mfaultPlace_, .int mdeep_, .int mlawMany_, .int mlawAt_, .ref nstack_, .ref nasked_, .int mfell_, .int mfellIn_, .ref naside_, .int mstate_, .int mlanded_, .int mwaitFalls_, .int mwaitWeight_, .ref nfallsAfter_, .ref nfalling_, .ref ncomes_, .ref ngoesOn_, .ref nwayRow_, .ref nmany_, .ref nmanyThen_, .int mtoldLet_, .ref ntSort_, .ref ntMany_, .ref nnumbers_])), (ntape_, .inl (cy 0, 900, .inl (ftape_)))]) (LV := fun i => [(0, .ref nm_), (1, .int k_)]) (ST := fun i => [.int i]) (cells := 0) (slots := 0) (fun i => R_X11_see_j1 mlength_ k_ ftape_ i) (fun v201800_ H locs ls hI hP hD hS hl => ?_) (fun j18_ => ?_)
  · have hI : R_X11_see_j1 mlength_ k_ ftape_ v201800_ := hI
    have hR1_ := hI
    have hP : va_P D vwCl [(nm_, .inr (11, [.ref nknown_, .ref ntelling_, .ref nimages_, .ref nisImage_, .int mthrown_, .ref ntape_, .int mtaped_, .int mlength_, .int mhead_, .int mbegin_, .int mtoken_, .int mvalue_, .int mbad_, .int mbadPlace_, .int mfaultKind_, .int mfaultPlace_, .int mdeep_, .int mlawMany_, .int mlawAt_, .ref nstack_, .ref nasked_, .int mfell_, .int mfellIn_, .ref naside_, .int mstate_, .int mlanded_, .int mwaitFalls_, .int mwaitWeight_, .ref nfallsAfter_, .ref nfalling_, .ref ncomes_, .ref ngoesOn_, .ref nwayRow_, .ref nmany_, .ref nmanyThen_, .int mtoldLet_, .ref ntSort_, .ref ntMany_, .ref nnumbers_])), (ntape_, .inl (cy 0, 900, .inl (ftape_)))] H := hP
    have hD := va_ca hP hD
    have hl : lv_has ls 2 [(0, .ref nm_), (1, .int k_)] := hl
    exact rI hX hE hP hD hS dX11_see_18 (by decide) (by decide) ⟨(Or.inl ⟨v201800_, hR1_, rfl⟩), rfl⟩
  refine lv_icmp_ge (tgt := 17) hx hb dX11_see_5 (by decide) (fun c5_ => ?_) (fun c5_ => ?_)
  · refine lv_iconst (v := 0) hx hb dX11_see_17 (by decide) ?_
    exact j18_ 0 _ _ ls (Or.inl ⟨c5_, rfl⟩) hP hD hS (lv_sub hl [0, 1] rfl)
  · have g1_ : rg (0) (899) k_ := rg_lt1 (rg_nle c5_) rk_ rmlength_ (by decide)
    have g2_ : rg (1) (900) mlength_ := rg_lt2 (rg_nle c5_) rk_ rmlength_ (by decide)
    refine lv_aload_n hx hb dX11_see_8 rfl (lv_at hl 0 rfl) ?_
    refine va_get (ci := 11) (v := .ref ntape_) (C := RX11) (T := TX11) (N := 39) hx hb htA in_X11 hown hK hP 0 rfl rfl 5 (by decide) (htA _ wd_1359) (fun _ h => h) rfl dX11_see_9 ?_
    refine lv_iload_n hx hb dX11_see_12 rfl (lv_at hl 1 rfl) ?_
    refine va_iald hx hb hK hP 1 0 rfl rfl (rg_in g1_ (by decide) (by decide)) dX11_see_13 ?_
    refine lv_topi (fun v10130_ ev10130_ => ?_)
    refine lv_goto (tgt := 18) hx hb dX11_see_14 (by decide) ?_
    exact j18_ v10130_ _ _ ls (Or.inr (Or.inl ⟨v10130_, c5_, ev10130_, rfl⟩)) hP hD hS (lv_sub hl [0, 1] rfl)
def R_X11_isLetter_j3 (c_ : Int32) : Prop := (c_ < (97 : Int32)) ∨ (¬ (c_ < (97 : Int32)) ∧ (122 : Int32) < c_) ∨ False
def R_X11_isLetter_j1 (c_ : Int32) (v201700_ : Int32) : Prop := (R_X11_isLetter_j3 c_ ∧ v201700_ = (0 : Int32)) ∨ (¬ (c_ < (97 : Int32)) ∧ ¬ ((122 : Int32) < c_) ∧ v201700_ = (1 : Int32)) ∨ False
def R_X11_isLetter_e (c_ : Int32) (r : Int32) : Prop := (∃ (v201700_ : Int32), R_X11_isLetter_j1 c_ v201700_ ∧ r = v201700_) ∨ False
set_option maxHeartbeats 4000000 in
set_option maxRecDepth 100000 in
theorem sf_X11_isLetter (l : Launch) (D : va_G) (cy : Nat → ClassId) (c_ : Int32) : Ci l yX11_isLetter cX11_isLetter 1 (some .boolean) { frames := 0, cells := 0, slots := 0, locals := 0 } D cy [.int c_] [] (fun r W1 => R_X11_isLetter_e c_ r ∧ W1 = [] ∧ rg (0) (1) r) := by
  refine Ci.of (by decide) (Nat.le_of_ble_eq_true rfl) ?_
  intro p e s m below meth c A ls hX hE hP hD hl
  obtain ⟨hx, hb, hr, hml, hown, htA, hlk⟩ := id hX
  have hK := hE.1
  have hS : va_S A s.heap s.heap [] := va_S.rf
  have hl : lv_has ls 1 [(0, .int c_)] := hl
  refine lv_iload_n hx hb dX11_isLetter_0 rfl (lv_at hl 0 rfl) ?_
  refine lv_bipush (v := 97) hx hb dX11_isLetter_1 (by decide) ?_
  refine joinT (D := D) (A := A) (pc := 17) (mL := 1) (τ := Int32) (WS := fun i => []) (LV := fun i => [(0, .int c_)]) (ST := fun i => [.int i]) (cells := 0) (slots := 0) (fun i => rg (0) (1) i ∧ R_X11_isLetter_j1 c_ i) (fun v201700_ H locs ls hI hP hD hS hl => ?_) (fun j17_ => ?_)
  · have hI : rg (0) (1) v201700_ ∧ R_X11_isLetter_j1 c_ v201700_ := hI
    obtain ⟨rv201700_, hR1_⟩ := hI
    have hP : va_P D vwCl [] H := hP
    have hD := va_ca hP hD
    have hl : lv_has ls 1 [(0, .int c_)] := hl
    exact rZ hX (nz_of rv201700_) hE hP hD hS dX11_isLetter_17 (by decide) (by decide) ⟨(Or.inl ⟨v201700_, hR1_, rfl⟩), rfl, (rg_w rv201700_ (by decide) (by decide))⟩
  refine joinT (D := D) (A := A) (pc := 16) (mL := 1) (τ := Unit) (WS := fun i => []) (LV := fun i => [(0, .int c_)]) (ST := fun i => []) (cells := 0) (slots := 0) (fun i => R_X11_isLetter_j3 c_) (fun u0_ H locs ls hI hP hD hS hl => ?_) (fun j16_ => ?_)
  · have hI : R_X11_isLetter_j3 c_ := hI
    have hR3_ := hI
    have hP : va_P D vwCl [] H := hP
    have hD := va_ca hP hD
    have hl : lv_has ls 1 [(0, .int c_)] := hl
    refine lv_iconst (v := 0) hx hb dX11_isLetter_16 (by decide) ?_
    exact j17_ 0 _ _ ls ⟨(rg_w (rg_lit (by decide) : rg (0) (0) (0 : Int32)) (by decide) (by decide)), (Or.inl ⟨hR3_, rfl⟩)⟩ hP hD hS (lv_sub hl [0] rfl)
  refine lv_icmp_lt (tgt := 16) hx hb dX11_isLetter_3 (by decide) (fun c3_ => ?_) (fun c3_ => ?_)
  · have g1_ : rg (-2147483648) (96) c_ := rg_lt1 c3_ (rg_any _) (rg_lit (by decide) : rg (97) (97) (97 : Int32)) (by decide)
    exact j16_ () _ _ ls (Or.inl c3_) hP hD hS (lv_sub hl [0] rfl)
  · have g2_ : rg (97) (2147483647) c_ := rg_le2 (rg_nlt c3_) (rg_lit (by decide) : rg (97) (97) (97 : Int32)) (rg_any _) (by decide)
    refine lv_iload_n hx hb dX11_isLetter_6 rfl (lv_at hl 0 rfl) ?_
    refine lv_bipush (v := 122) hx hb dX11_isLetter_7 (by decide) ?_
    refine lv_icmp_gt (tgt := 16) hx hb dX11_isLetter_9 (by decide) (fun c9_ => ?_) (fun c9_ => ?_)
    · have g3_ : rg (123) (2147483647) c_ := rg_lt2 c9_ (rg_lit (by decide) : rg (122) (122) (122 : Int32)) g2_ (by decide)
      exact j16_ () _ _ ls (Or.inr (Or.inl ⟨c3_, c9_⟩)) hP hD hS (lv_sub hl [0] rfl)
    · have g4_ : rg (97) (122) c_ := rg_le1 (rg_nlt c9_) g2_ (rg_lit (by decide) : rg (122) (122) (122 : Int32)) (by decide)
      refine lv_iconst (v := 1) hx hb dX11_isLetter_12 (by decide) ?_
      refine lv_goto (tgt := 17) hx hb dX11_isLetter_13 (by decide) ?_
      exact j17_ 1 _ _ ls ⟨(rg_w (rg_lit (by decide) : rg (1) (1) (1 : Int32)) (by decide) (by decide)), (Or.inr (Or.inl ⟨c3_, c9_, rfl⟩))⟩ hP hD hS (lv_sub hl [0] rfl)
def R_X11_isDigit_j3 (c_ : Int32) : Prop := (c_ < (48 : Int32)) ∨ (¬ (c_ < (48 : Int32)) ∧ (57 : Int32) < c_) ∨ False
def R_X11_isDigit_j1 (c_ : Int32) (v201700_ : Int32) : Prop := (R_X11_isDigit_j3 c_ ∧ v201700_ = (0 : Int32)) ∨ (¬ (c_ < (48 : Int32)) ∧ ¬ ((57 : Int32) < c_) ∧ v201700_ = (1 : Int32)) ∨ False
def R_X11_isDigit_e (c_ : Int32) (r : Int32) : Prop := (∃ (v201700_ : Int32), R_X11_isDigit_j1 c_ v201700_ ∧ r = v201700_) ∨ False
set_option maxHeartbeats 4000000 in
set_option maxRecDepth 100000 in
theorem sf_X11_isDigit (l : Launch) (D : va_G) (cy : Nat → ClassId) (c_ : Int32) : Ci l yX11_isDigit cX11_isDigit 1 (some .boolean) { frames := 0, cells := 0, slots := 0, locals := 0 } D cy [.int c_] [] (fun r W1 => R_X11_isDigit_e c_ r ∧ W1 = [] ∧ rg (0) (1) r) := by
  refine Ci.of (by decide) (Nat.le_of_ble_eq_true rfl) ?_
  intro p e s m below meth c A ls hX hE hP hD hl
  obtain ⟨hx, hb, hr, hml, hown, htA, hlk⟩ := id hX
  have hK := hE.1
  have hS : va_S A s.heap s.heap [] := va_S.rf
  have hl : lv_has ls 1 [(0, .int c_)] := hl
  refine lv_iload_n hx hb dX11_isDigit_0 rfl (lv_at hl 0 rfl) ?_
  refine lv_bipush (v := 48) hx hb dX11_isDigit_1 (by decide) ?_
  refine joinT (D := D) (A := A) (pc := 17) (mL := 1) (τ := Int32) (WS := fun i => []) (LV := fun i => [(0, .int c_)]) (ST := fun i => [.int i]) (cells := 0) (slots := 0) (fun i => rg (0) (1) i ∧ R_X11_isDigit_j1 c_ i) (fun v201700_ H locs ls hI hP hD hS hl => ?_) (fun j17_ => ?_)
  · have hI : rg (0) (1) v201700_ ∧ R_X11_isDigit_j1 c_ v201700_ := hI
    obtain ⟨rv201700_, hR1_⟩ := hI
    have hP : va_P D vwCl [] H := hP
    have hD := va_ca hP hD
    have hl : lv_has ls 1 [(0, .int c_)] := hl
    exact rZ hX (nz_of rv201700_) hE hP hD hS dX11_isDigit_17 (by decide) (by decide) ⟨(Or.inl ⟨v201700_, hR1_, rfl⟩), rfl, (rg_w rv201700_ (by decide) (by decide))⟩
  refine joinT (D := D) (A := A) (pc := 16) (mL := 1) (τ := Unit) (WS := fun i => []) (LV := fun i => [(0, .int c_)]) (ST := fun i => []) (cells := 0) (slots := 0) (fun i => R_X11_isDigit_j3 c_) (fun u0_ H locs ls hI hP hD hS hl => ?_) (fun j16_ => ?_)
  · have hI : R_X11_isDigit_j3 c_ := hI
    have hR3_ := hI
    have hP : va_P D vwCl [] H := hP
    have hD := va_ca hP hD
    have hl : lv_has ls 1 [(0, .int c_)] := hl
    refine lv_iconst (v := 0) hx hb dX11_isDigit_16 (by decide) ?_
    exact j17_ 0 _ _ ls ⟨(rg_w (rg_lit (by decide) : rg (0) (0) (0 : Int32)) (by decide) (by decide)), (Or.inl ⟨hR3_, rfl⟩)⟩ hP hD hS (lv_sub hl [0] rfl)
  refine lv_icmp_lt (tgt := 16) hx hb dX11_isDigit_3 (by decide) (fun c3_ => ?_) (fun c3_ => ?_)
  · have g1_ : rg (-2147483648) (47) c_ := rg_lt1 c3_ (rg_any _) (rg_lit (by decide) : rg (48) (48) (48 : Int32)) (by decide)
    exact j16_ () _ _ ls (Or.inl c3_) hP hD hS (lv_sub hl [0] rfl)
  · have g2_ : rg (48) (2147483647) c_ := rg_le2 (rg_nlt c3_) (rg_lit (by decide) : rg (48) (48) (48 : Int32)) (rg_any _) (by decide)
    refine lv_iload_n hx hb dX11_isDigit_6 rfl (lv_at hl 0 rfl) ?_
    refine lv_bipush (v := 57) hx hb dX11_isDigit_7 (by decide) ?_
    refine lv_icmp_gt (tgt := 16) hx hb dX11_isDigit_9 (by decide) (fun c9_ => ?_) (fun c9_ => ?_)
    · have g3_ : rg (58) (2147483647) c_ := rg_lt2 c9_ (rg_lit (by decide) : rg (57) (57) (57 : Int32)) g2_ (by decide)
      exact j16_ () _ _ ls (Or.inr (Or.inl ⟨c3_, c9_⟩)) hP hD hS (lv_sub hl [0] rfl)
    · have g4_ : rg (48) (57) c_ := rg_le1 (rg_nlt c9_) g2_ (rg_lit (by decide) : rg (57) (57) (57 : Int32)) (by decide)
      refine lv_iconst (v := 1) hx hb dX11_isDigit_12 (by decide) ?_
      refine lv_goto (tgt := 17) hx hb dX11_isDigit_13 (by decide) ?_
      exact j17_ 1 _ _ ls ⟨(rg_w (rg_lit (by decide) : rg (1) (1) (1 : Int32)) (by decide) (by decide)), (Or.inr (Or.inl ⟨c3_, c9_, rfl⟩))⟩ hP hD hS (lv_sub hl [0] rfl)
def R_X11_isSignByte_j5 (c_ : Int32) : Prop := (c_ = (91 : Int32)) ∨ (¬ (c_ = (91 : Int32)) ∧ c_ = (93 : Int32)) ∨ (¬ (c_ = (91 : Int32)) ∧ ¬ (c_ = (93 : Int32)) ∧ c_ = (61 : Int32)) ∨ (¬ (c_ = (91 : Int32)) ∧ ¬ (c_ = (93 : Int32)) ∧ ¬ (c_ = (61 : Int32)) ∧ c_ = (60 : Int32)) ∨ (¬ (c_ = (91 : Int32)) ∧ ¬ (c_ = (93 : Int32)) ∧ ¬ (c_ = (61 : Int32)) ∧ ¬ (c_ = (60 : Int32)) ∧ c_ = (62 : Int32)) ∨ (¬ (c_ = (91 : Int32)) ∧ ¬ (c_ = (93 : Int32)) ∧ ¬ (c_ = (61 : Int32)) ∧ ¬ (c_ = (60 : Int32)) ∧ ¬ (c_ = (62 : Int32)) ∧ c_ = (58 : Int32)) ∨ False
def R_X11_isSignByte_j1 (c_ : Int32) (v204100_ : Int32) : Prop := (R_X11_isSignByte_j5 c_ ∧ v204100_ = (1 : Int32)) ∨ (¬ (c_ = (91 : Int32)) ∧ ¬ (c_ = (93 : Int32)) ∧ ¬ (c_ = (61 : Int32)) ∧ ¬ (c_ = (60 : Int32)) ∧ ¬ (c_ = (62 : Int32)) ∧ ¬ c_ = (58 : Int32) ∧ v204100_ = (0 : Int32)) ∨ False
def R_X11_isSignByte_j4 (v204100_ : Int32) (c_ : Int32) : Prop := (¬ v204100_ = (0 : Int32)) ∨ (v204100_ = (0 : Int32) ∧ c_ = (59 : Int32)) ∨ (v204100_ = (0 : Int32) ∧ ¬ (c_ = (59 : Int32)) ∧ c_ = (43 : Int32)) ∨ (v204100_ = (0 : Int32) ∧ ¬ (c_ = (59 : Int32)) ∧ ¬ (c_ = (43 : Int32)) ∧ c_ = (45 : Int32)) ∨ (v204100_ = (0 : Int32) ∧ ¬ (c_ = (59 : Int32)) ∧ ¬ (c_ = (43 : Int32)) ∧ ¬ (c_ = (45 : Int32)) ∧ c_ = (42 : Int32)) ∨ (v204100_ = (0 : Int32) ∧ ¬ (c_ = (59 : Int32)) ∧ ¬ (c_ = (43 : Int32)) ∧ ¬ (c_ = (45 : Int32)) ∧ ¬ (c_ = (42 : Int32)) ∧ c_ = (40 : Int32)) ∨ (v204100_ = (0 : Int32) ∧ ¬ (c_ = (59 : Int32)) ∧ ¬ (c_ = (43 : Int32)) ∧ ¬ (c_ = (45 : Int32)) ∧ ¬ (c_ = (42 : Int32)) ∧ ¬ (c_ = (40 : Int32)) ∧ c_ = (41 : Int32)) ∨ False
def R_X11_isSignByte_j2 (v204100_ : Int32) (c_ : Int32) (v208700_ : Int32) : Prop := (R_X11_isSignByte_j4 v204100_ c_ ∧ v208700_ = (1 : Int32)) ∨ (v204100_ = (0 : Int32) ∧ ¬ (c_ = (59 : Int32)) ∧ ¬ (c_ = (43 : Int32)) ∧ ¬ (c_ = (45 : Int32)) ∧ ¬ (c_ = (42 : Int32)) ∧ ¬ (c_ = (40 : Int32)) ∧ ¬ c_ = (41 : Int32) ∧ v208700_ = (0 : Int32)) ∨ False
def R_X11_isSignByte_e (c_ : Int32) (r : Int32) : Prop := (∃ (v204100_ : Int32) (v208700_ : Int32), R_X11_isSignByte_j1 c_ v204100_ ∧ R_X11_isSignByte_j2 v204100_ c_ v208700_ ∧ r = v208700_) ∨ False
set_option maxHeartbeats 4000000 in
set_option maxRecDepth 100000 in
theorem sf_X11_isSignByte (l : Launch) (D : va_G) (cy : Nat → ClassId) (c_ : Int32) : Ci l yX11_isSignByte cX11_isSignByte 2 (some .boolean) { frames := 0, cells := 0, slots := 0, locals := 0 } D cy [.int c_] [] (fun r W1 => R_X11_isSignByte_e c_ r ∧ W1 = [] ∧ rg (0) (1) r) := by
  refine Ci.of (by decide) (Nat.le_of_ble_eq_true rfl) ?_
  intro p e s m below meth c A ls hX hE hP hD hl
  obtain ⟨hx, hb, hr, hml, hown, htA, hlk⟩ := id hX
  have hK := hE.1
  have hS : va_S A s.heap s.heap [] := va_S.rf
  have hl : lv_has ls 2 [(0, .int c_)] := hl
  refine lv_iload_n hx hb dX11_isSignByte_0 rfl (lv_at hl 0 rfl) ?_
  refine lv_bipush (v := 91) hx hb dX11_isSignByte_1 (by decide) ?_
  refine joinT (D := D) (A := A) (pc := 41) (mL := 2) (τ := Int32) (WS := fun i => []) (LV := fun i => [(0, .int c_)]) (ST := fun i => [.int i]) (cells := 0) (slots := 0) (fun i => rg (0) (1) i ∧ R_X11_isSignByte_j1 c_ i) (fun v204100_ H locs ls hI hP hD hS hl => ?_) (fun j41_ => ?_)
  · have hI : rg (0) (1) v204100_ ∧ R_X11_isSignByte_j1 c_ v204100_ := hI
    obtain ⟨rv204100_, hR1_⟩ := hI
    have hP : va_P D vwCl [] H := hP
    have hD := va_ca hP hD
    have hl : lv_has ls 2 [(0, .int c_)] := hl
    refine lv_istore_n (lv' := [(1, .int v204100_), (0, .int c_)]) hx hb dX11_isSignByte_41 rfl hl (by decide) rfl (fun ls hl => ?_)
    refine lv_iload_n hx hb dX11_isSignByte_42 rfl (lv_at hl 0 rfl) ?_
    refine joinT (D := D) (A := A) (pc := 87) (mL := 2) (τ := Int32) (WS := fun i => []) (LV := fun i => [(1, .int v204100_), (0, .int c_)]) (ST := fun i => [.int i]) (cells := 0) (slots := 0) (fun i => rg (0) (1) i ∧ R_X11_isSignByte_j2 v204100_ c_ i) (fun v208700_ H locs ls hI hP hD hS hl => ?_) (fun j87_ => ?_)
    · have hI : rg (0) (1) v208700_ ∧ R_X11_isSignByte_j2 v204100_ c_ v208700_ := hI
      obtain ⟨rv208700_, hR2_⟩ := hI
      have hP : va_P D vwCl [] H := hP
      have hD := va_ca hP hD
      have hl : lv_has ls 2 [(1, .int v204100_), (0, .int c_)] := hl
      exact rZ hX (nz_of rv208700_) hE hP hD hS dX11_isSignByte_87 (by decide) (by decide) ⟨(Or.inl ⟨v204100_, v208700_, hR1_, hR2_, rfl⟩), rfl, (rg_w rv208700_ (by decide) (by decide))⟩
    refine joinT (D := D) (A := A) (pc := 82) (mL := 2) (τ := Unit) (WS := fun i => []) (LV := fun i => [(1, .int v204100_), (0, .int c_)]) (ST := fun i => []) (cells := 0) (slots := 0) (fun i => R_X11_isSignByte_j4 v204100_ c_) (fun u0_ H locs ls hI hP hD hS hl => ?_) (fun j82_ => ?_)
    · have hI : R_X11_isSignByte_j4 v204100_ c_ := hI
      have hR4_ := hI
      have hP : va_P D vwCl [] H := hP
      have hD := va_ca hP hD
      have hl : lv_has ls 2 [(1, .int v204100_), (0, .int c_)] := hl
      refine lv_iconst (v := 1) hx hb dX11_isSignByte_82 (by decide) ?_
      refine lv_goto (tgt := 87) hx hb dX11_isSignByte_83 (by decide) ?_
      exact j87_ 1 _ _ ls ⟨(rg_w (rg_lit (by decide) : rg (1) (1) (1 : Int32)) (by decide) (by decide)), (Or.inl ⟨hR4_, rfl⟩)⟩ hP hD hS (lv_sub hl [0, 1] rfl)
    refine lv_if_ne (tgt := 82) hx hb dX11_isSignByte_43 (by decide) (fun c43_ => ?_) (fun c43_ => ?_)
    · have g1_ : rg (1) (1) v204100_ := rg_ne1 c43_ rv204100_ (by decide) (by decide)
      exact j82_ () _ _ ls (Or.inl c43_) hP hD hS (lv_sub hl [0, 1] rfl)
    · have g2_ : rg (0) (0) v204100_ := rg_eq c43_ (rg_lit (by decide) : rg (0) (0) (0 : Int32))
      refine lv_iload_n hx hb dX11_isSignByte_46 rfl (lv_at hl 1 rfl) ?_
      refine lv_bipush (v := 59) hx hb dX11_isSignByte_47 (by decide) ?_
      refine lv_icmp_eq (tgt := 82) hx hb dX11_isSignByte_49 (by decide) (fun c49_ => ?_) (fun c49_ => ?_)
      · have g3_ : rg (59) (59) c_ := rg_eq c49_ (rg_lit (by decide) : rg (59) (59) (59 : Int32))
        exact j82_ () _ _ ls (Or.inr (Or.inl ⟨c43_, c49_⟩)) hP hD hS (lv_sub hl [0, 1] rfl)
      · refine lv_iload_n hx hb dX11_isSignByte_52 rfl (lv_at hl 1 rfl) ?_
        refine lv_bipush (v := 43) hx hb dX11_isSignByte_53 (by decide) ?_
        refine lv_icmp_eq (tgt := 82) hx hb dX11_isSignByte_55 (by decide) (fun c55_ => ?_) (fun c55_ => ?_)
        · have g4_ : rg (43) (43) c_ := rg_eq c55_ (rg_lit (by decide) : rg (43) (43) (43 : Int32))
          exact j82_ () _ _ ls (Or.inr (Or.inr (Or.inl ⟨c43_, c49_, c55_⟩))) hP hD hS (lv_sub hl [0, 1] rfl)
        · refine lv_iload_n hx hb dX11_isSignByte_58 rfl (lv_at hl 1 rfl) ?_
          refine lv_bipush (v := 45) hx hb dX11_isSignByte_59 (by decide) ?_
          refine lv_icmp_eq (tgt := 82) hx hb dX11_isSignByte_61 (by decide) (fun c61_ => ?_) (fun c61_ => ?_)
          · have g5_ : rg (45) (45) c_ := rg_eq c61_ (rg_lit (by decide) : rg (45) (45) (45 : Int32))
            exact j82_ () _ _ ls (Or.inr (Or.inr (Or.inr (Or.inl ⟨c43_, c49_, c55_, c61_⟩)))) hP hD hS (lv_sub hl [0, 1] rfl)
          · refine lv_iload_n hx hb dX11_isSignByte_64 rfl (lv_at hl 1 rfl) ?_
            refine lv_bipush (v := 42) hx hb dX11_isSignByte_65 (by decide) ?_
            refine lv_icmp_eq (tgt := 82) hx hb dX11_isSignByte_67 (by decide) (fun c67_ => ?_) (fun c67_ => ?_)
            · have g6_ : rg (42) (42) c_ := rg_eq c67_ (rg_lit (by decide) : rg (42) (42) (42 : Int32))
              exact j82_ () _ _ ls (Or.inr (Or.inr (Or.inr (Or.inr (Or.inl ⟨c43_, c49_, c55_, c61_, c67_⟩))))) hP hD hS (lv_sub hl [0, 1] rfl)
            · refine lv_iload_n hx hb dX11_isSignByte_70 rfl (lv_at hl 1 rfl) ?_
              refine lv_bipush (v := 40) hx hb dX11_isSignByte_71 (by decide) ?_
              refine lv_icmp_eq (tgt := 82) hx hb dX11_isSignByte_73 (by decide) (fun c73_ => ?_) (fun c73_ => ?_)
              · have g7_ : rg (40) (40) c_ := rg_eq c73_ (rg_lit (by decide) : rg (40) (40) (40 : Int32))
                exact j82_ () _ _ ls (Or.inr (Or.inr (Or.inr (Or.inr (Or.inr (Or.inl ⟨c43_, c49_, c55_, c61_, c67_, c73_⟩)))))) hP hD hS (lv_sub hl [0, 1] rfl)
              · refine lv_iload_n hx hb dX11_isSignByte_76 rfl (lv_at hl 1 rfl) ?_
                refine lv_bipush (v := 41) hx hb dX11_isSignByte_77 (by decide) ?_
                refine lv_icmp_ne (tgt := 86) hx hb dX11_isSignByte_79 (by decide) (fun c79_ => ?_) (fun c79_ => ?_)
                · refine lv_iconst (v := 0) hx hb dX11_isSignByte_86 (by decide) ?_
                  exact j87_ 0 _ _ ls ⟨(rg_w (rg_lit (by decide) : rg (0) (0) (0 : Int32)) (by decide) (by decide)), (Or.inr (Or.inl ⟨c43_, c49_, c55_, c61_, c67_, c73_, c79_, rfl⟩))⟩ hP hD hS (lv_sub hl [0, 1] rfl)
                · have g8_ : rg (41) (41) c_ := rg_eq c79_ (rg_lit (by decide) : rg (41) (41) (41 : Int32))
                  exact j82_ () _ _ ls (Or.inr (Or.inr (Or.inr (Or.inr (Or.inr (Or.inr (Or.inl ⟨c43_, c49_, c55_, c61_, c67_, c73_, c79_⟩))))))) hP hD hS (lv_sub hl [0, 1] rfl)
  refine joinT (D := D) (A := A) (pc := 36) (mL := 2) (τ := Unit) (WS := fun i => []) (LV := fun i => [(0, .int c_)]) (ST := fun i => []) (cells := 0) (slots := 0) (fun i => rg (58) (93) c_ ∧ R_X11_isSignByte_j5 c_) (fun u0_ H locs ls hI hP hD hS hl => ?_) (fun j36_ => ?_)
  · have hI : rg (58) (93) c_ ∧ R_X11_isSignByte_j5 c_ := hI
    obtain ⟨q36_l_0_, hR5_⟩ := hI
    have hP : va_P D vwCl [] H := hP
    have hD := va_ca hP hD
    have hl : lv_has ls 2 [(0, .int c_)] := hl
    refine lv_iconst (v := 1) hx hb dX11_isSignByte_36 (by decide) ?_
    refine lv_goto (tgt := 41) hx hb dX11_isSignByte_37 (by decide) ?_
    exact j41_ 1 _ _ ls ⟨(rg_w (rg_lit (by decide) : rg (1) (1) (1 : Int32)) (by decide) (by decide)), (Or.inl ⟨hR5_, rfl⟩)⟩ hP hD hS (lv_sub hl [0] rfl)
  refine lv_icmp_eq (tgt := 36) hx hb dX11_isSignByte_3 (by decide) (fun c3_ => ?_) (fun c3_ => ?_)
  · have g9_ : rg (91) (91) c_ := rg_eq c3_ (rg_lit (by decide) : rg (91) (91) (91 : Int32))
    exact j36_ () _ _ ls ⟨(rg_w g9_ (by decide) (by decide)), (Or.inl c3_)⟩ hP hD hS (lv_sub hl [0] rfl)
  · refine lv_iload_n hx hb dX11_isSignByte_6 rfl (lv_at hl 0 rfl) ?_
    refine lv_bipush (v := 93) hx hb dX11_isSignByte_7 (by decide) ?_
    refine lv_icmp_eq (tgt := 36) hx hb dX11_isSignByte_9 (by decide) (fun c9_ => ?_) (fun c9_ => ?_)
    · have g10_ : rg (93) (93) c_ := rg_eq c9_ (rg_lit (by decide) : rg (93) (93) (93 : Int32))
      exact j36_ () _ _ ls ⟨(rg_w g10_ (by decide) (by decide)), (Or.inr (Or.inl ⟨c3_, c9_⟩))⟩ hP hD hS (lv_sub hl [0] rfl)
    · refine lv_iload_n hx hb dX11_isSignByte_12 rfl (lv_at hl 0 rfl) ?_
      refine lv_bipush (v := 61) hx hb dX11_isSignByte_13 (by decide) ?_
      refine lv_icmp_eq (tgt := 36) hx hb dX11_isSignByte_15 (by decide) (fun c15_ => ?_) (fun c15_ => ?_)
      · have g11_ : rg (61) (61) c_ := rg_eq c15_ (rg_lit (by decide) : rg (61) (61) (61 : Int32))
        exact j36_ () _ _ ls ⟨(rg_w g11_ (by decide) (by decide)), (Or.inr (Or.inr (Or.inl ⟨c3_, c9_, c15_⟩)))⟩ hP hD hS (lv_sub hl [0] rfl)
      · refine lv_iload_n hx hb dX11_isSignByte_18 rfl (lv_at hl 0 rfl) ?_
        refine lv_bipush (v := 60) hx hb dX11_isSignByte_19 (by decide) ?_
        refine lv_icmp_eq (tgt := 36) hx hb dX11_isSignByte_21 (by decide) (fun c21_ => ?_) (fun c21_ => ?_)
        · have g12_ : rg (60) (60) c_ := rg_eq c21_ (rg_lit (by decide) : rg (60) (60) (60 : Int32))
          exact j36_ () _ _ ls ⟨(rg_w g12_ (by decide) (by decide)), (Or.inr (Or.inr (Or.inr (Or.inl ⟨c3_, c9_, c15_, c21_⟩))))⟩ hP hD hS (lv_sub hl [0] rfl)
        · refine lv_iload_n hx hb dX11_isSignByte_24 rfl (lv_at hl 0 rfl) ?_
          refine lv_bipush (v := 62) hx hb dX11_isSignByte_25 (by decide) ?_
          refine lv_icmp_eq (tgt := 36) hx hb dX11_isSignByte_27 (by decide) (fun c27_ => ?_) (fun c27_ => ?_)
          · have g13_ : rg (62) (62) c_ := rg_eq c27_ (rg_lit (by decide) : rg (62) (62) (62 : Int32))
            exact j36_ () _ _ ls ⟨(rg_w g13_ (by decide) (by decide)), (Or.inr (Or.inr (Or.inr (Or.inr (Or.inl ⟨c3_, c9_, c15_, c21_, c27_⟩)))))⟩ hP hD hS (lv_sub hl [0] rfl)
          · refine lv_iload_n hx hb dX11_isSignByte_30 rfl (lv_at hl 0 rfl) ?_
            refine lv_bipush (v := 58) hx hb dX11_isSignByte_31 (by decide) ?_
            refine lv_icmp_ne (tgt := 40) hx hb dX11_isSignByte_33 (by decide) (fun c33_ => ?_) (fun c33_ => ?_)
            · refine lv_iconst (v := 0) hx hb dX11_isSignByte_40 (by decide) ?_
              exact j41_ 0 _ _ ls ⟨(rg_w (rg_lit (by decide) : rg (0) (0) (0 : Int32)) (by decide) (by decide)), (Or.inr (Or.inl ⟨c3_, c9_, c15_, c21_, c27_, c33_, rfl⟩))⟩ hP hD hS (lv_sub hl [0] rfl)
            · have g14_ : rg (58) (58) c_ := rg_eq c33_ (rg_lit (by decide) : rg (58) (58) (58 : Int32))
              exact j36_ () _ _ ls ⟨(rg_w g14_ (by decide) (by decide)), (Or.inr (Or.inr (Or.inr (Or.inr (Or.inr (Or.inl ⟨c3_, c9_, c15_, c21_, c27_, c33_⟩))))))⟩ hP hD hS (lv_sub hl [0] rfl)
def R_X11_blames_j1 (mtoken_ : Int32) (k_ : Int32) (v202200_ : Int32) : Prop := (¬ mtoken_ = (3 : Int32) ∧ v202200_ = k_) ∨ (mtoken_ = (3 : Int32) ∧ v202200_ = (1 : Int32)) ∨ False
def R_X11_blames_e (mbad_ : Int32) (mtoken_ : Int32) (k_ : Int32) (mbegin_ : Int32) (mbadPlace_ : Int32) (x0_ : Int32) (x1_ : Int32) : Prop := (∃ (v202200_ : Int32), mbad_ = (0 : Int32) ∧ R_X11_blames_j1 mtoken_ k_ v202200_ ∧ x0_ = v202200_ ∧ x1_ = mbegin_) ∨ (¬ (mbad_ = (0 : Int32)) ∧ x0_ = mbad_ ∧ x1_ = mbadPlace_) ∨ False
set_option maxHeartbeats 4000000 in
set_option maxRecDepth 100000 in
theorem sf_X11_blames (l : Launch) (D : va_G) (cy : Nat → ClassId) (nm_ : Nat) (nknown_ : Nat) (ntelling_ : Nat) (nimages_ : Nat) (nisImage_ : Nat) (mthrown_ : Int32) (ntape_ : Nat) (mtaped_ : Int32) (mlength_ : Int32) (mhead_ : Int32) (mbegin_ : Int32) (mtoken_ : Int32) (mvalue_ : Int32) (mbad_ : Int32) (mbadPlace_ : Int32) (mfaultKind_ : Int32) (mfaultPlace_ : Int32) (mdeep_ : Int32) (mlawMany_ : Int32) (mlawAt_ : Int32) (nstack_ : Nat) (nasked_ : Nat) (mfell_ : Int32) (mfellIn_ : Int32) (naside_ : Nat) (mstate_ : Int32) (mlanded_ : Int32) (mwaitFalls_ : Int32) (mwaitWeight_ : Int32) (nfallsAfter_ : Nat) (nfalling_ : Nat) (ncomes_ : Nat) (ngoesOn_ : Nat) (nwayRow_ : Nat) (nmany_ : Nat) (nmanyThen_ : Nat) (mtoldLet_ : Int32) (ntSort_ : Nat) (ntMany_ : Nat) (nnumbers_ : Nat) (k_ : Int32) (rmtaped_ : rg (0) (900) mtaped_) (rmlength_ : rg (0) (900) mlength_) (rmhead_ : rg (0) (900) mhead_) (rmbegin_ : rg (0) (900) mbegin_) : Cv l yX11_blames cX11_blames 2 none { frames := 0, cells := 0, slots := 0, locals := 0 } D cy [.ref nm_, .int k_] [(nm_, .inr (11, [.ref nknown_, .ref ntelling_, .ref nimages_, .ref nisImage_, .int mthrown_, .ref ntape_, .int mtaped_, .int mlength_, .int mhead_, .int mbegin_, .int mtoken_, .int mvalue_, .int mbad_, .int mbadPlace_, .int mfaultKind_, .int mfaultPlace_, .int mdeep_, .int mlawMany_, .int mlawAt_, .ref nstack_, .ref nasked_, .int mfell_, .int mfellIn_, .ref naside_, .int mstate_, .int mlanded_, .int mwaitFalls_, .int mwaitWeight_, .ref nfallsAfter_, .ref nfalling_, .ref ncomes_, .ref ngoesOn_, .ref nwayRow_, .ref nmany_, .ref nmanyThen_, .int mtoldLet_, .ref ntSort_, .ref ntMany_, .ref nnumbers_]))] (fun W1 => ∃ (x0_ : Int32) (x1_ : Int32), R_X11_blames_e mbad_ mtoken_ k_ mbegin_ mbadPlace_ x0_ x1_ ∧ W1 = [(nm_, .inr (11, [.ref nknown_, .ref ntelling_, .ref nimages_, .ref nisImage_, .int mthrown_, .ref ntape_, .int mtaped_, .int mlength_, .int mhead_, .int mbegin_, .int mtoken_, .int mvalue_, .int x0_, .int x1_, .int mfaultKind_, .int mfaultPlace_, .int mdeep_, .int mlawMany_, .int mlawAt_, .ref nstack_, .ref nasked_, .int mfell_, .int mfellIn_, .ref naside_, .int mstate_, .int mlanded_, .int mwaitFalls_, .int mwaitWeight_, .ref nfallsAfter_, .ref nfalling_, .ref ncomes_, .ref ngoesOn_, .ref nwayRow_, .ref nmany_, .ref nmanyThen_, .int mtoldLet_, .ref ntSort_, .ref ntMany_, .ref nnumbers_]))]) := by
  refine Cv.of (by decide) (Nat.le_of_ble_eq_true rfl) ?_
  intro p e s m below meth c A ls hX hE hP hD hl hin
  obtain ⟨hx, hb, hr, hml, hown, htA, hlk⟩ := id hX
  have hK := hE.1
  have hS : va_S A s.heap s.heap [] := va_S.rf
  have hl : lv_has ls 2 [(0, .ref nm_), (1, .int k_)] := hl
  refine lv_aload_n hx hb dX11_blames_0 rfl (lv_at hl 0 rfl) ?_
  refine va_get (ci := 11) (v := .int mbad_) (C := RX11) (T := TX11) (N := 39) hx hb htA in_X11 hown hK hP 0 rfl rfl 12 (by decide) (htA _ wd_1366) (fun _ h => h) rfl dX11_blames_1 ?_
  refine lv_if_eq (tgt := 8) hx hb dX11_blames_4 (by decide) (fun c4_ => ?_) (fun c4_ => ?_)
  · have g1_ : rg (0) (0) mbad_ := rg_eq c4_ (rg_lit (by decide) : rg (0) (0) (0 : Int32))
    refine lv_aload_n hx hb dX11_blames_8 rfl (lv_at hl 0 rfl) ?_
    refine lv_aload_n hx hb dX11_blames_9 rfl (lv_at hl 0 rfl) ?_
    refine va_get (ci := 11) (v := .int mtoken_) (C := RX11) (T := TX11) (N := 39) hx hb htA in_X11 hown hK hP 0 rfl rfl 10 (by decide) (htA _ wd_1364) (fun _ h => h) rfl dX11_blames_10 ?_
    refine lv_iconst (v := 3) hx hb dX11_blames_13 (by decide) ?_
    refine joinT (D := D) (A := A) (pc := 22) (mL := 2) (τ := Int32) (WS := fun i => [(nm_, .inr (11, [.ref nknown_, .ref ntelling_, .ref nimages_, .ref nisImage_, .int mthrown_, .ref ntape_, .int mtaped_, .int mlength_, .int mhead_, .int mbegin_, .int mtoken_, .int mvalue_, .int mbad_, .int mbadPlace_, .int mfaultKind_, .int mfaultPlace_, .int mdeep_, .int mlawMany_, .int mlawAt_, .ref nstack_, .ref nasked_, .int mfell_, .int mfellIn_, .ref naside_, .int mstate_, .int mlanded_, .int mwaitFalls_, .int mwaitWeight_, .ref nfallsAfter_, .ref nfalling_, .ref ncomes_, .ref ngoesOn_, .ref nwayRow_, .ref nmany_, .ref nmanyThen_, .int mtoldLet_, .ref ntSort_, .ref ntMany_, .ref nnumbers_]))]) (LV := fun i => [(0, .ref nm_), (1, .int k_)]) (ST := fun i => [.int i, .ref nm_]) (cells := 0) (slots := 0) (fun i => R_X11_blames_j1 mtoken_ k_ i) (fun v202200_ H locs ls hI hP hD hS hl => ?_) (fun j22_ => ?_)
    · have hI : R_X11_blames_j1 mtoken_ k_ v202200_ := hI
      have hR1_ := hI
      have hP : va_P D vwCl [(nm_, .inr (11, [.ref nknown_, .ref ntelling_, .ref nimages_, .ref nisImage_, .int mthrown_, .ref ntape_, .int mtaped_, .int mlength_, .int mhead_, .int mbegin_, .int mtoken_, .int mvalue_, .int mbad_, .int mbadPlace_, .int mfaultKind_, .int mfaultPlace_, .int mdeep_, .int mlawMany_, .int mlawAt_, .ref nstack_, .ref nasked_, .int mfell_, .int mfellIn_, .ref naside_, .int mstate_, .int mlanded_, .int mwaitFalls_, .int mwaitWeight_, .ref nfallsAfter_, .ref nfalling_, .ref ncomes_, .ref ngoesOn_, .ref nwayRow_, .ref nmany_, .ref nmanyThen_, .int mtoldLet_, .ref ntSort_, .ref ntMany_, .ref nnumbers_]))] H := hP
      have hD := va_ca hP hD
      have hl : lv_has ls 2 [(0, .ref nm_), (1, .int k_)] := hl
      refine va_put (ci := 11) (v := .int v202200_) (ty := .int) (C := RX11) (T := TX11) (N := 39) hx hb htA in_X11 tyX11 tyX11_ok nmX11 hown hK hP hD hS 0 rfl rfl 12 (by decide) (htA _ wd_1366) (fun _ h => h) rfl (by decide +kernel) rfl rfl (Nat.le_of_ble_eq_true rfl) dX11_blames_22 (fun H locs hP hD hS => ?_)
      have hP : va_P D vwCl [(nm_, .inr (11, [.ref nknown_, .ref ntelling_, .ref nimages_, .ref nisImage_, .int mthrown_, .ref ntape_, .int mtaped_, .int mlength_, .int mhead_, .int mbegin_, .int mtoken_, .int mvalue_, .int v202200_, .int mbadPlace_, .int mfaultKind_, .int mfaultPlace_, .int mdeep_, .int mlawMany_, .int mlawAt_, .ref nstack_, .ref nasked_, .int mfell_, .int mfellIn_, .ref naside_, .int mstate_, .int mlanded_, .int mwaitFalls_, .int mwaitWeight_, .ref nfallsAfter_, .ref nfalling_, .ref ncomes_, .ref ngoesOn_, .ref nwayRow_, .ref nmany_, .ref nmanyThen_, .int mtoldLet_, .ref ntSort_, .ref ntMany_, .ref nnumbers_]))] H := hP
      have hD := va_ca hP hD
      refine lv_aload_n hx hb dX11_blames_25 rfl (lv_at hl 0 rfl) ?_
      refine lv_aload_n hx hb dX11_blames_26 rfl (lv_at hl 0 rfl) ?_
      refine va_get (ci := 11) (v := .int mbegin_) (C := RX11) (T := TX11) (N := 39) hx hb htA in_X11 hown hK hP 0 rfl rfl 9 (by decide) (htA _ wd_1363) (fun _ h => h) rfl dX11_blames_27 ?_
      refine va_put (ci := 11) (v := .int mbegin_) (ty := .int) (C := RX11) (T := TX11) (N := 39) hx hb htA in_X11 tyX11 tyX11_ok nmX11 hown hK hP hD hS 0 rfl rfl 13 (by decide) (htA _ wd_1367) (fun _ h => h) rfl (by decide +kernel) rfl rfl (Nat.le_of_ble_eq_true rfl) dX11_blames_30 (fun H locs hP hD hS => ?_)
      have hP : va_P D vwCl [(nm_, .inr (11, [.ref nknown_, .ref ntelling_, .ref nimages_, .ref nisImage_, .int mthrown_, .ref ntape_, .int mtaped_, .int mlength_, .int mhead_, .int mbegin_, .int mtoken_, .int mvalue_, .int v202200_, .int mbegin_, .int mfaultKind_, .int mfaultPlace_, .int mdeep_, .int mlawMany_, .int mlawAt_, .ref nstack_, .ref nasked_, .int mfell_, .int mfellIn_, .ref naside_, .int mstate_, .int mlanded_, .int mwaitFalls_, .int mwaitWeight_, .ref nfallsAfter_, .ref nfalling_, .ref ncomes_, .ref ngoesOn_, .ref nwayRow_, .ref nmany_, .ref nmanyThen_, .int mtoldLet_, .ref ntSort_, .ref ntMany_, .ref nnumbers_]))] H := hP
      have hD := va_ca hP hD
      exact rV hX hE hP hD hS dX11_blames_33 (by decide) (by decide) ⟨v202200_, mbegin_, (Or.inl ⟨v202200_, c4_, hR1_, rfl, rfl⟩), rfl⟩
    refine lv_icmp_ne (tgt := 21) hx hb dX11_blames_14 (by decide) (fun c14_ => ?_) (fun c14_ => ?_)
    · refine lv_iload_n hx hb dX11_blames_21 rfl (lv_at hl 1 rfl) ?_
      exact j22_ k_ _ _ ls (Or.inl ⟨c14_, rfl⟩) hP hD hS (lv_sub hl [0, 1] rfl)
    · have g2_ : rg (3) (3) mtoken_ := rg_eq c14_ (rg_lit (by decide) : rg (3) (3) (3 : Int32))
      refine lv_iconst (v := 1) hx hb dX11_blames_17 (by decide) ?_
      refine lv_goto (tgt := 22) hx hb dX11_blames_18 (by decide) ?_
      exact j22_ 1 _ _ ls (Or.inr (Or.inl ⟨c14_, rfl⟩)) hP hD hS (lv_sub hl [0, 1] rfl)
  · exact rV hX hE hP hD hS dX11_blames_7 (by decide) (by decide) ⟨mbad_, mbadPlace_, (Or.inr (Or.inl ⟨c4_, rfl, rfl⟩)), rfl⟩
def R_X11_isSign_j3 (mbad_ : Int32) (mtoken_ : Int32) (k_ : Int32) : Prop := (¬ mbad_ = (0 : Int32)) ∨ (mbad_ = (0 : Int32) ∧ ¬ mtoken_ = k_) ∨ False
def R_X11_isSign_j1 (mbad_ : Int32) (mtoken_ : Int32) (k_ : Int32) (v202000_ : Int32) : Prop := (R_X11_isSign_j3 mbad_ mtoken_ k_ ∧ v202000_ = (0 : Int32)) ∨ (mbad_ = (0 : Int32) ∧ mtoken_ = k_ ∧ v202000_ = (1 : Int32)) ∨ False
def R_X11_isSign_e (mbad_ : Int32) (mtoken_ : Int32) (k_ : Int32) (r : Int32) : Prop := (∃ (v202000_ : Int32), R_X11_isSign_j1 mbad_ mtoken_ k_ v202000_ ∧ r = v202000_) ∨ False
set_option maxHeartbeats 4000000 in
set_option maxRecDepth 100000 in
theorem sf_X11_isSign (l : Launch) (D : va_G) (cy : Nat → ClassId) (nm_ : Nat) (nknown_ : Nat) (ntelling_ : Nat) (nimages_ : Nat) (nisImage_ : Nat) (mthrown_ : Int32) (ntape_ : Nat) (mtaped_ : Int32) (mlength_ : Int32) (mhead_ : Int32) (mbegin_ : Int32) (mtoken_ : Int32) (mvalue_ : Int32) (mbad_ : Int32) (mbadPlace_ : Int32) (mfaultKind_ : Int32) (mfaultPlace_ : Int32) (mdeep_ : Int32) (mlawMany_ : Int32) (mlawAt_ : Int32) (nstack_ : Nat) (nasked_ : Nat) (mfell_ : Int32) (mfellIn_ : Int32) (naside_ : Nat) (mstate_ : Int32) (mlanded_ : Int32) (mwaitFalls_ : Int32) (mwaitWeight_ : Int32) (nfallsAfter_ : Nat) (nfalling_ : Nat) (ncomes_ : Nat) (ngoesOn_ : Nat) (nwayRow_ : Nat) (nmany_ : Nat) (nmanyThen_ : Nat) (mtoldLet_ : Int32) (ntSort_ : Nat) (ntMany_ : Nat) (nnumbers_ : Nat) (k_ : Int32) (rmtaped_ : rg (0) (900) mtaped_) (rmlength_ : rg (0) (900) mlength_) (rmhead_ : rg (0) (900) mhead_) (rmbegin_ : rg (0) (900) mbegin_) : Ci l yX11_isSign cX11_isSign 2 (some .boolean) { frames := 0, cells := 0, slots := 0, locals := 0 } D cy [.ref nm_, .int k_] [(nm_, .inr (11, [.ref nknown_, .ref ntelling_, .ref nimages_, .ref nisImage_, .int mthrown_, .ref ntape_, .int mtaped_, .int mlength_, .int mhead_, .int mbegin_, .int mtoken_, .int mvalue_, .int mbad_, .int mbadPlace_, .int mfaultKind_, .int mfaultPlace_, .int mdeep_, .int mlawMany_, .int mlawAt_, .ref nstack_, .ref nasked_, .int mfell_, .int mfellIn_, .ref naside_, .int mstate_, .int mlanded_, .int mwaitFalls_, .int mwaitWeight_, .ref nfallsAfter_, .ref nfalling_, .ref ncomes_, .ref ngoesOn_, .ref nwayRow_, .ref nmany_, .ref nmanyThen_, .int mtoldLet_, .ref ntSort_, .ref ntMany_, .ref nnumbers_]))] (fun r W1 => R_X11_isSign_e mbad_ mtoken_ k_ r ∧ W1 = [(nm_, .inr (11, [.ref nknown_, .ref ntelling_, .ref nimages_, .ref nisImage_, .int mthrown_, .ref ntape_, .int mtaped_, .int mlength_, .int mhead_, .int mbegin_, .int mtoken_, .int mvalue_, .int mbad_, .int mbadPlace_, .int mfaultKind_, .int mfaultPlace_, .int mdeep_, .int mlawMany_, .int mlawAt_, .ref nstack_, .ref nasked_, .int mfell_, .int mfellIn_, .ref naside_, .int mstate_, .int mlanded_, .int mwaitFalls_, .int mwaitWeight_, .ref nfallsAfter_, .ref nfalling_, .ref ncomes_, .ref ngoesOn_, .ref nwayRow_, .ref nmany_, .ref nmanyThen_, .int mtoldLet_, .ref ntSort_, .ref ntMany_, .ref nnumbers_]))] ∧ rg (0) (1) r) := by
  refine Ci.of (by decide) (Nat.le_of_ble_eq_true rfl) ?_
  intro p e s m below meth c A ls hX hE hP hD hl
  obtain ⟨hx, hb, hr, hml, hown, htA, hlk⟩ := id hX
  have hK := hE.1
  have hS : va_S A s.heap s.heap [] := va_S.rf
  have hl : lv_has ls 2 [(0, .ref nm_), (1, .int k_)] := hl
  refine lv_aload_n hx hb dX11_isSign_0 rfl (lv_at hl 0 rfl) ?_
  refine va_get (ci := 11) (v := .int mbad_) (C := RX11) (T := TX11) (N := 39) hx hb htA in_X11 hown hK hP 0 rfl rfl 12 (by decide) (htA _ wd_1366) (fun _ h => h) rfl dX11_isSign_1 ?_
  refine joinT (D := D) (A := A) (pc := 20) (mL := 2) (τ := Int32) (WS := fun i => [(nm_, .inr (11, [.ref nknown_, .ref ntelling_, .ref nimages_, .ref nisImage_, .int mthrown_, .ref ntape_, .int mtaped_, .int mlength_, .int mhead_, .int mbegin_, .int mtoken_, .int mvalue_, .int mbad_, .int mbadPlace_, .int mfaultKind_, .int mfaultPlace_, .int mdeep_, .int mlawMany_, .int mlawAt_, .ref nstack_, .ref nasked_, .int mfell_, .int mfellIn_, .ref naside_, .int mstate_, .int mlanded_, .int mwaitFalls_, .int mwaitWeight_, .ref nfallsAfter_, .ref nfalling_, .ref ncomes_, .ref ngoesOn_, .ref nwayRow_, .ref nmany_, .ref nmanyThen_, .int mtoldLet_, .ref ntSort_, .ref ntMany_, .ref nnumbers_]))]) (LV := fun i => [(0, .ref nm_), (1, .int k_)]) (ST := fun i => [.int i]) (cells := 0) (slots := 0) (fun i => rg (0) (1) i ∧ R_X11_isSign_j1 mbad_ mtoken_ k_ i) (fun v202000_ H locs ls hI hP hD hS hl => ?_) (fun j20_ => ?_)
  · have hI : rg (0) (1) v202000_ ∧ R_X11_isSign_j1 mbad_ mtoken_ k_ v202000_ := hI
    obtain ⟨rv202000_, hR1_⟩ := hI
    have hP : va_P D vwCl [(nm_, .inr (11, [.ref nknown_, .ref ntelling_, .ref nimages_, .ref nisImage_, .int mthrown_, .ref ntape_, .int mtaped_, .int mlength_, .int mhead_, .int mbegin_, .int mtoken_, .int mvalue_, .int mbad_, .int mbadPlace_, .int mfaultKind_, .int mfaultPlace_, .int mdeep_, .int mlawMany_, .int mlawAt_, .ref nstack_, .ref nasked_, .int mfell_, .int mfellIn_, .ref naside_, .int mstate_, .int mlanded_, .int mwaitFalls_, .int mwaitWeight_, .ref nfallsAfter_, .ref nfalling_, .ref ncomes_, .ref ngoesOn_, .ref nwayRow_, .ref nmany_, .ref nmanyThen_, .int mtoldLet_, .ref ntSort_, .ref ntMany_, .ref nnumbers_]))] H := hP
    have hD := va_ca hP hD
    have hl : lv_has ls 2 [(0, .ref nm_), (1, .int k_)] := hl
    exact rZ hX (nz_of rv202000_) hE hP hD hS dX11_isSign_20 (by decide) (by decide) ⟨(Or.inl ⟨v202000_, hR1_, rfl⟩), rfl, (rg_w rv202000_ (by decide) (by decide))⟩
  refine joinT (D := D) (A := A) (pc := 19) (mL := 2) (τ := Unit) (WS := fun i => [(nm_, .inr (11, [.ref nknown_, .ref ntelling_, .ref nimages_, .ref nisImage_, .int mthrown_, .ref ntape_, .int mtaped_, .int mlength_, .int mhead_, .int mbegin_, .int mtoken_, .int mvalue_, .int mbad_, .int mbadPlace_, .int mfaultKind_, .int mfaultPlace_, .int mdeep_, .int mlawMany_, .int mlawAt_, .ref nstack_, .ref nasked_, .int mfell_, .int mfellIn_, .ref naside_, .int mstate_, .int mlanded_, .int mwaitFalls_, .int mwaitWeight_, .ref nfallsAfter_, .ref nfalling_, .ref ncomes_, .ref ngoesOn_, .ref nwayRow_, .ref nmany_, .ref nmanyThen_, .int mtoldLet_, .ref ntSort_, .ref ntMany_, .ref nnumbers_]))]) (LV := fun i => [(0, .ref nm_), (1, .int k_)]) (ST := fun i => []) (cells := 0) (slots := 0) (fun i => R_X11_isSign_j3 mbad_ mtoken_ k_) (fun u0_ H locs ls hI hP hD hS hl => ?_) (fun j19_ => ?_)
  · have hI : R_X11_isSign_j3 mbad_ mtoken_ k_ := hI
    have hR3_ := hI
    have hP : va_P D vwCl [(nm_, .inr (11, [.ref nknown_, .ref ntelling_, .ref nimages_, .ref nisImage_, .int mthrown_, .ref ntape_, .int mtaped_, .int mlength_, .int mhead_, .int mbegin_, .int mtoken_, .int mvalue_, .int mbad_, .int mbadPlace_, .int mfaultKind_, .int mfaultPlace_, .int mdeep_, .int mlawMany_, .int mlawAt_, .ref nstack_, .ref nasked_, .int mfell_, .int mfellIn_, .ref naside_, .int mstate_, .int mlanded_, .int mwaitFalls_, .int mwaitWeight_, .ref nfallsAfter_, .ref nfalling_, .ref ncomes_, .ref ngoesOn_, .ref nwayRow_, .ref nmany_, .ref nmanyThen_, .int mtoldLet_, .ref ntSort_, .ref ntMany_, .ref nnumbers_]))] H := hP
    have hD := va_ca hP hD
    have hl : lv_has ls 2 [(0, .ref nm_), (1, .int k_)] := hl
    refine lv_iconst (v := 0) hx hb dX11_isSign_19 (by decide) ?_
    exact j20_ 0 _ _ ls ⟨(rg_w (rg_lit (by decide) : rg (0) (0) (0 : Int32)) (by decide) (by decide)), (Or.inl ⟨hR3_, rfl⟩)⟩ hP hD hS (lv_sub hl [0, 1] rfl)
  refine lv_if_ne (tgt := 19) hx hb dX11_isSign_4 (by decide) (fun c4_ => ?_) (fun c4_ => ?_)
  · exact j19_ () _ _ ls (Or.inl c4_) hP hD hS (lv_sub hl [0, 1] rfl)
  · have g1_ : rg (0) (0) mbad_ := rg_eq c4_ (rg_lit (by decide) : rg (0) (0) (0 : Int32))
    refine lv_aload_n hx hb dX11_isSign_7 rfl (lv_at hl 0 rfl) ?_
    refine va_get (ci := 11) (v := .int mtoken_) (C := RX11) (T := TX11) (N := 39) hx hb htA in_X11 hown hK hP 0 rfl rfl 10 (by decide) (htA _ wd_1364) (fun _ h => h) rfl dX11_isSign_8 ?_
    refine lv_iload_n hx hb dX11_isSign_11 rfl (lv_at hl 1 rfl) ?_
    refine lv_icmp_ne (tgt := 19) hx hb dX11_isSign_12 (by decide) (fun c12_ => ?_) (fun c12_ => ?_)
    · exact j19_ () _ _ ls (Or.inr (Or.inl ⟨c4_, c12_⟩)) hP hD hS (lv_sub hl [0, 1] rfl)
    · refine lv_iconst (v := 1) hx hb dX11_isSign_15 (by decide) ?_
      refine lv_goto (tgt := 20) hx hb dX11_isSign_16 (by decide) ?_
      exact j20_ 1 _ _ ls ⟨(rg_w (rg_lit (by decide) : rg (1) (1) (1 : Int32)) (by decide) (by decide)), (Or.inr (Or.inl ⟨c4_, c12_, rfl⟩))⟩ hP hD hS (lv_sub hl [0, 1] rfl)
def R_X11_fault_j1 (w_ : Int32) (mfaultPlace_ : Int32) (mfaultKind_ : Int32) (v202900_ : Int32) : Prop := (¬ w_ = (0 : Int32) ∧ ¬ w_ = (1 : Int32) ∧ v202900_ = ((-1) : Int32)) ∨ (¬ w_ = (0 : Int32) ∧ w_ = (1 : Int32) ∧ v202900_ = mfaultPlace_) ∨ (w_ = (0 : Int32) ∧ v202900_ = mfaultKind_) ∨ False
def R_X11_fault_e (w_ : Int32) (mfaultPlace_ : Int32) (mfaultKind_ : Int32) (r : Int32) : Prop := (∃ (v202900_ : Int32), R_X11_fault_j1 w_ mfaultPlace_ mfaultKind_ v202900_ ∧ r = v202900_) ∨ False
set_option maxHeartbeats 4000000 in
set_option maxRecDepth 100000 in
theorem sf_X11_fault (l : Launch) (D : va_G) (cy : Nat → ClassId) (nm_ : Nat) (nknown_ : Nat) (ntelling_ : Nat) (nimages_ : Nat) (nisImage_ : Nat) (mthrown_ : Int32) (ntape_ : Nat) (mtaped_ : Int32) (mlength_ : Int32) (mhead_ : Int32) (mbegin_ : Int32) (mtoken_ : Int32) (mvalue_ : Int32) (mbad_ : Int32) (mbadPlace_ : Int32) (mfaultKind_ : Int32) (mfaultPlace_ : Int32) (mdeep_ : Int32) (mlawMany_ : Int32) (mlawAt_ : Int32) (nstack_ : Nat) (nasked_ : Nat) (mfell_ : Int32) (mfellIn_ : Int32) (naside_ : Nat) (mstate_ : Int32) (mlanded_ : Int32) (mwaitFalls_ : Int32) (mwaitWeight_ : Int32) (nfallsAfter_ : Nat) (nfalling_ : Nat) (ncomes_ : Nat) (ngoesOn_ : Nat) (nwayRow_ : Nat) (nmany_ : Nat) (nmanyThen_ : Nat) (mtoldLet_ : Int32) (ntSort_ : Nat) (ntMany_ : Nat) (nnumbers_ : Nat) (w_ : Int32) (rmtaped_ : rg (0) (900) mtaped_) (rmlength_ : rg (0) (900) mlength_) (rmhead_ : rg (0) (900) mhead_) (rmbegin_ : rg (0) (900) mbegin_) : Ci l yX11_fault cX11_fault 2 (some .int) { frames := 0, cells := 0, slots := 0, locals := 0 } D cy [.ref nm_, .int w_] [(nm_, .inr (11, [.ref nknown_, .ref ntelling_, .ref nimages_, .ref nisImage_, .int mthrown_, .ref ntape_, .int mtaped_, .int mlength_, .int mhead_, .int mbegin_, .int mtoken_, .int mvalue_, .int mbad_, .int mbadPlace_, .int mfaultKind_, .int mfaultPlace_, .int mdeep_, .int mlawMany_, .int mlawAt_, .ref nstack_, .ref nasked_, .int mfell_, .int mfellIn_, .ref naside_, .int mstate_, .int mlanded_, .int mwaitFalls_, .int mwaitWeight_, .ref nfallsAfter_, .ref nfalling_, .ref ncomes_, .ref ngoesOn_, .ref nwayRow_, .ref nmany_, .ref nmanyThen_, .int mtoldLet_, .ref ntSort_, .ref ntMany_, .ref nnumbers_]))] (fun r W1 => R_X11_fault_e w_ mfaultPlace_ mfaultKind_ r ∧ W1 = [(nm_, .inr (11, [.ref nknown_, .ref ntelling_, .ref nimages_, .ref nisImage_, .int 0, .ref ntape_, .int mtaped_, .int mlength_, .int mhead_, .int mbegin_, .int mtoken_, .int mvalue_, .int mbad_, .int mbadPlace_, .int mfaultKind_, .int mfaultPlace_, .int mdeep_, .int mlawMany_, .int mlawAt_, .ref nstack_, .ref nasked_, .int mfell_, .int mfellIn_, .ref naside_, .int mstate_, .int mlanded_, .int mwaitFalls_, .int mwaitWeight_, .ref nfallsAfter_, .ref nfalling_, .ref ncomes_, .ref ngoesOn_, .ref nwayRow_, .ref nmany_, .ref nmanyThen_, .int mtoldLet_, .ref ntSort_, .ref ntMany_, .ref nnumbers_]))]) := by
  refine Ci.of (by decide) (Nat.le_of_ble_eq_true rfl) ?_
  intro p e s m below meth c A ls hX hE hP hD hl
  obtain ⟨hx, hb, hr, hml, hown, htA, hlk⟩ := id hX
  have hK := hE.1
  have hS : va_S A s.heap s.heap [] := va_S.rf
  have hl : lv_has ls 2 [(0, .ref nm_), (1, .int w_)] := hl
  refine lv_aload_n hx hb dX11_fault_0 rfl (lv_at hl 0 rfl) ?_
  refine lv_iconst (v := 0) hx hb dX11_fault_1 (by decide) ?_
  refine va_put (ci := 11) (v := .int 0) (ty := .int) (C := RX11) (T := TX11) (N := 39) hx hb htA in_X11 tyX11 tyX11_ok nmX11 hown hK hP hD hS 0 rfl rfl 4 (by decide) (htA _ wd_1358) (fun _ h => h) rfl (by decide +kernel) rfl rfl (Nat.le_of_ble_eq_true rfl) dX11_fault_2 (fun H locs hP hD hS => ?_)
  have hP : va_P D vwCl [(nm_, .inr (11, [.ref nknown_, .ref ntelling_, .ref nimages_, .ref nisImage_, .int 0, .ref ntape_, .int mtaped_, .int mlength_, .int mhead_, .int mbegin_, .int mtoken_, .int mvalue_, .int mbad_, .int mbadPlace_, .int mfaultKind_, .int mfaultPlace_, .int mdeep_, .int mlawMany_, .int mlawAt_, .ref nstack_, .ref nasked_, .int mfell_, .int mfellIn_, .ref naside_, .int mstate_, .int mlanded_, .int mwaitFalls_, .int mwaitWeight_, .ref nfallsAfter_, .ref nfalling_, .ref ncomes_, .ref ngoesOn_, .ref nwayRow_, .ref nmany_, .ref nmanyThen_, .int mtoldLet_, .ref ntSort_, .ref ntMany_, .ref nnumbers_]))] H := hP
  have hD := va_ca hP hD
  refine lv_iload_n hx hb dX11_fault_5 rfl (lv_at hl 1 rfl) ?_
  refine joinT (D := D) (A := A) (pc := 29) (mL := 2) (τ := Int32) (WS := fun i => [(nm_, .inr (11, [.ref nknown_, .ref ntelling_, .ref nimages_, .ref nisImage_, .int 0, .ref ntape_, .int mtaped_, .int mlength_, .int mhead_, .int mbegin_, .int mtoken_, .int mvalue_, .int mbad_, .int mbadPlace_, .int mfaultKind_, .int mfaultPlace_, .int mdeep_, .int mlawMany_, .int mlawAt_, .ref nstack_, .ref nasked_, .int mfell_, .int mfellIn_, .ref naside_, .int mstate_, .int mlanded_, .int mwaitFalls_, .int mwaitWeight_, .ref nfallsAfter_, .ref nfalling_, .ref ncomes_, .ref ngoesOn_, .ref nwayRow_, .ref nmany_, .ref nmanyThen_, .int mtoldLet_, .ref ntSort_, .ref ntMany_, .ref nnumbers_]))]) (LV := fun i => [(0, .ref nm_), (1, .int w_)]) (ST := fun i => [.int i]) (cells := 0) (slots := 0) (fun i => R_X11_fault_j1 w_ mfaultPlace_ mfaultKind_ i) (fun v202900_ H locs ls hI hP hD hS hl => ?_) (fun j29_ => ?_)
  · have hI : R_X11_fault_j1 w_ mfaultPlace_ mfaultKind_ v202900_ := hI
    have hR1_ := hI
    have hP : va_P D vwCl [(nm_, .inr (11, [.ref nknown_, .ref ntelling_, .ref nimages_, .ref nisImage_, .int 0, .ref ntape_, .int mtaped_, .int mlength_, .int mhead_, .int mbegin_, .int mtoken_, .int mvalue_, .int mbad_, .int mbadPlace_, .int mfaultKind_, .int mfaultPlace_, .int mdeep_, .int mlawMany_, .int mlawAt_, .ref nstack_, .ref nasked_, .int mfell_, .int mfellIn_, .ref naside_, .int mstate_, .int mlanded_, .int mwaitFalls_, .int mwaitWeight_, .ref nfallsAfter_, .ref nfalling_, .ref ncomes_, .ref ngoesOn_, .ref nwayRow_, .ref nmany_, .ref nmanyThen_, .int mtoldLet_, .ref ntSort_, .ref ntMany_, .ref nnumbers_]))] H := hP
    have hD := va_ca hP hD
    have hl : lv_has ls 2 [(0, .ref nm_), (1, .int w_)] := hl
    exact rI hX hE hP hD hS dX11_fault_29 (by decide) (by decide) ⟨(Or.inl ⟨v202900_, hR1_, rfl⟩), rfl⟩
  refine lv_if_ne (tgt := 16) hx hb dX11_fault_6 (by decide) (fun c6_ => ?_) (fun c6_ => ?_)
  · refine lv_iload_n hx hb dX11_fault_16 rfl (lv_at hl 1 rfl) ?_
    refine lv_iconst (v := 1) hx hb dX11_fault_17 (by decide) ?_
    refine lv_icmp_ne (tgt := 28) hx hb dX11_fault_18 (by decide) (fun c18_ => ?_) (fun c18_ => ?_)
    · refine lv_iconst (v := (-1)) hx hb dX11_fault_28 (by decide) ?_
      exact j29_ (-1) _ _ ls (Or.inl ⟨c6_, c18_, rfl⟩) hP hD hS (lv_sub hl [0, 1] rfl)
    · have g1_ : rg (1) (1) w_ := rg_eq c18_ (rg_lit (by decide) : rg (1) (1) (1 : Int32))
      refine lv_aload_n hx hb dX11_fault_21 rfl (lv_at hl 0 rfl) ?_
      refine va_get (ci := 11) (v := .int mfaultPlace_) (C := RX11) (T := TX11) (N := 39) hx hb htA in_X11 hown hK hP 0 rfl rfl 15 (by decide) (htA _ wd_1369) (fun _ h => h) rfl dX11_fault_22 ?_
      refine lv_goto (tgt := 29) hx hb dX11_fault_25 (by decide) ?_
      exact j29_ mfaultPlace_ _ _ ls (Or.inr (Or.inl ⟨c6_, c18_, rfl⟩)) hP hD hS (lv_sub hl [0, 1] rfl)
  · have g2_ : rg (0) (0) w_ := rg_eq c6_ (rg_lit (by decide) : rg (0) (0) (0 : Int32))
    refine lv_aload_n hx hb dX11_fault_9 rfl (lv_at hl 0 rfl) ?_
    refine va_get (ci := 11) (v := .int mfaultKind_) (C := RX11) (T := TX11) (N := 39) hx hb htA in_X11 hown hK hP 0 rfl rfl 14 (by decide) (htA _ wd_1368) (fun _ h => h) rfl dX11_fault_10 ?_
    refine lv_goto (tgt := 29) hx hb dX11_fault_13 (by decide) ?_
    exact j29_ mfaultKind_ _ _ ls (Or.inr (Or.inr (Or.inl ⟨c6_, rfl⟩))) hP hD hS (lv_sub hl [0, 1] rfl)
def R_X11_things_e (fknown_ : Nat → Int32) (r : Int32) : Prop := (∃ (v10050_ : Int32), v10050_ = fknown_ (3 : Int32).toNatClampNeg ∧ r = v10050_) ∨ False
set_option maxHeartbeats 4000000 in
set_option maxRecDepth 100000 in
theorem sf_X11_things (l : Launch) (D : va_G) (cy : Nat → ClassId) (nm_ : Nat) (nknown_ : Nat) (ntelling_ : Nat) (nimages_ : Nat) (nisImage_ : Nat) (mthrown_ : Int32) (ntape_ : Nat) (mtaped_ : Int32) (mlength_ : Int32) (mhead_ : Int32) (mbegin_ : Int32) (mtoken_ : Int32) (mvalue_ : Int32) (mbad_ : Int32) (mbadPlace_ : Int32) (mfaultKind_ : Int32) (mfaultPlace_ : Int32) (mdeep_ : Int32) (mlawMany_ : Int32) (mlawAt_ : Int32) (nstack_ : Nat) (nasked_ : Nat) (mfell_ : Int32) (mfellIn_ : Int32) (naside_ : Nat) (mstate_ : Int32) (mlanded_ : Int32) (mwaitFalls_ : Int32) (mwaitWeight_ : Int32) (nfallsAfter_ : Nat) (nfalling_ : Nat) (ncomes_ : Nat) (ngoesOn_ : Nat) (nwayRow_ : Nat) (nmany_ : Nat) (nmanyThen_ : Nat) (mtoldLet_ : Int32) (ntSort_ : Nat) (ntMany_ : Nat) (nnumbers_ : Nat) (fknown_ : Nat → Int32) (C_ : Int) (L_ : Int) (hb_ : Int) (ha_ : Int) (hc_ : Int) (hha_ : -2000000 ≤ ha_) (hhc_ : hc_ ≤ 4000000) (hhb_ : hb_ ≤ 1000000) (rmtaped_ : rg (0) (900) mtaped_) (rmlength_ : rg (0) (900) mlength_) (rmhead_ : rg (0) (900) mhead_) (rmbegin_ : rg (0) (900) mbegin_) (rfknown_ : KX C_ L_ ha_ hc_ hb_ fknown_) : Ci l yX11_things cX11_things 1 (some .int) { frames := 0, cells := 0, slots := 0, locals := 0 } D cy [.ref nm_] [(nm_, .inr (11, [.ref nknown_, .ref ntelling_, .ref nimages_, .ref nisImage_, .int mthrown_, .ref ntape_, .int mtaped_, .int mlength_, .int mhead_, .int mbegin_, .int mtoken_, .int mvalue_, .int mbad_, .int mbadPlace_, .int mfaultKind_, .int mfaultPlace_, .int mdeep_, .int mlawMany_, .int mlawAt_, .ref nstack_, .ref nasked_, .int mfell_, .int mfellIn_, .ref naside_, .int mstate_, .int mlanded_, .int mwaitFalls_, .int mwaitWeight_, .ref nfallsAfter_, .ref nfalling_, .ref ncomes_, .ref ngoesOn_, .ref nwayRow_, .ref nmany_, .ref nmanyThen_, .int mtoldLet_, .ref ntSort_, .ref ntMany_, .ref nnumbers_])), (nknown_, .inl (cy 0, 2260, .inl (fknown_)))] (fun r W1 => r = fknown_ (3 : Int32).toNatClampNeg ∧ R_X11_things_e fknown_ r ∧ W1 = [(nm_, .inr (11, [.ref nknown_, .ref ntelling_, .ref nimages_, .ref nisImage_, .int mthrown_, .ref ntape_, .int mtaped_, .int mlength_, .int mhead_, .int mbegin_, .int mtoken_, .int mvalue_, .int mbad_, .int mbadPlace_, .int mfaultKind_, .int mfaultPlace_, .int mdeep_, .int mlawMany_, .int mlawAt_, .ref nstack_, .ref nasked_, .int mfell_, .int mfellIn_, .ref naside_, .int mstate_, .int mlanded_, .int mwaitFalls_, .int mwaitWeight_, .ref nfallsAfter_, .ref nfalling_, .ref ncomes_, .ref ngoesOn_, .ref nwayRow_, .ref nmany_, .ref nmanyThen_, .int mtoldLet_, .ref ntSort_, .ref ntMany_, .ref nnumbers_])), (nknown_, .inl (cy 0, 2260, .inl (fknown_)))] ∧ rg (0) (8) r) := by
  refine Ci.of (by decide) (Nat.le_of_ble_eq_true rfl) ?_
  intro p e s m below meth c A ls hX hE hP hD hl
  obtain ⟨hx, hb, hr, hml, hown, htA, hlk⟩ := id hX
  have hK := hE.1
  have hS : va_S A s.heap s.heap [] := va_S.rf
  have hl : lv_has ls 1 [(0, .ref nm_)] := hl
  refine lv_aload_n hx hb dX11_things_0 rfl (lv_at hl 0 rfl) ?_
  refine va_get (ci := 11) (v := .ref nknown_) (C := RX11) (T := TX11) (N := 39) hx hb htA in_X11 hown hK hP 0 rfl rfl 0 (by decide) (htA _ wd_1354) (fun _ h => h) rfl dX11_things_1 ?_
  refine lv_iconst (v := 3) hx hb dX11_things_4 (by decide) ?_
  refine va_iald hx hb hK hP 1 0 rfl rfl (in_lit (by decide)) dX11_things_5 ?_
  refine lv_topi (fun v10050_ ev10050_ => ?_)
  have g1_ : rg (0) (8) v10050_ := by rw [ev10050_]; exact KX_l kb_3 rfknown_ (rg_lit (by decide) : rg (3) (3) (3 : Int32)) (by decide) (by decide)
  exact rI hX hE hP hD hS dX11_things_6 (by decide) (by decide) ⟨ev10050_, (Or.inl ⟨v10050_, ev10050_, rfl⟩), rfl, (rg_w g1_ (by decide) (by decide))⟩
def R_X11_is_j1 (v10080_ : Int32) (w_ : Int32) (v201800_ : Int32) : Prop := (¬ v10080_ = w_ ∧ v201800_ = (0 : Int32)) ∨ (v10080_ = w_ ∧ v201800_ = (1 : Int32)) ∨ False
def R_X11_is_e (fknown_ : Nat → Int32) (t_ : Int32) (w_ : Int32) (r : Int32) : Prop := (∃ (v10080_ : Int32) (v201800_ : Int32), v10080_ = fknown_ (8 + t_).toNatClampNeg ∧ R_X11_is_j1 v10080_ w_ v201800_ ∧ r = v201800_) ∨ False
set_option maxHeartbeats 4000000 in
set_option maxRecDepth 100000 in
theorem sf_X11_is (l : Launch) (D : va_G) (cy : Nat → ClassId) (nm_ : Nat) (nknown_ : Nat) (ntelling_ : Nat) (nimages_ : Nat) (nisImage_ : Nat) (mthrown_ : Int32) (ntape_ : Nat) (mtaped_ : Int32) (mlength_ : Int32) (mhead_ : Int32) (mbegin_ : Int32) (mtoken_ : Int32) (mvalue_ : Int32) (mbad_ : Int32) (mbadPlace_ : Int32) (mfaultKind_ : Int32) (mfaultPlace_ : Int32) (mdeep_ : Int32) (mlawMany_ : Int32) (mlawAt_ : Int32) (nstack_ : Nat) (nasked_ : Nat) (mfell_ : Int32) (mfellIn_ : Int32) (naside_ : Nat) (mstate_ : Int32) (mlanded_ : Int32) (mwaitFalls_ : Int32) (mwaitWeight_ : Int32) (nfallsAfter_ : Nat) (nfalling_ : Nat) (ncomes_ : Nat) (ngoesOn_ : Nat) (nwayRow_ : Nat) (nmany_ : Nat) (nmanyThen_ : Nat) (mtoldLet_ : Int32) (ntSort_ : Nat) (ntMany_ : Nat) (nnumbers_ : Nat) (fknown_ : Nat → Int32) (t_ : Int32) (w_ : Int32) (C_ : Int) (L_ : Int) (hb_ : Int) (ha_ : Int) (hc_ : Int) (hha_ : -2000000 ≤ ha_) (hhc_ : hc_ ≤ 4000000) (hhb_ : hb_ ≤ 1000000) (rmtaped_ : rg (0) (900) mtaped_) (rmlength_ : rg (0) (900) mlength_) (rmhead_ : rg (0) (900) mhead_) (rmbegin_ : rg (0) (900) mbegin_) (rt_ : rg (0) (7) t_) (rfknown_ : KX C_ L_ ha_ hc_ hb_ fknown_) : Ci l yX11_is cX11_is 3 (some .boolean) { frames := 0, cells := 0, slots := 0, locals := 0 } D cy [.ref nm_, .int t_, .int w_] [(nm_, .inr (11, [.ref nknown_, .ref ntelling_, .ref nimages_, .ref nisImage_, .int mthrown_, .ref ntape_, .int mtaped_, .int mlength_, .int mhead_, .int mbegin_, .int mtoken_, .int mvalue_, .int mbad_, .int mbadPlace_, .int mfaultKind_, .int mfaultPlace_, .int mdeep_, .int mlawMany_, .int mlawAt_, .ref nstack_, .ref nasked_, .int mfell_, .int mfellIn_, .ref naside_, .int mstate_, .int mlanded_, .int mwaitFalls_, .int mwaitWeight_, .ref nfallsAfter_, .ref nfalling_, .ref ncomes_, .ref ngoesOn_, .ref nwayRow_, .ref nmany_, .ref nmanyThen_, .int mtoldLet_, .ref ntSort_, .ref ntMany_, .ref nnumbers_])), (nknown_, .inl (cy 0, 2260, .inl (fknown_)))] (fun r W1 => R_X11_is_e fknown_ t_ w_ r ∧ W1 = [(nm_, .inr (11, [.ref nknown_, .ref ntelling_, .ref nimages_, .ref nisImage_, .int mthrown_, .ref ntape_, .int mtaped_, .int mlength_, .int mhead_, .int mbegin_, .int mtoken_, .int mvalue_, .int mbad_, .int mbadPlace_, .int mfaultKind_, .int mfaultPlace_, .int mdeep_, .int mlawMany_, .int mlawAt_, .ref nstack_, .ref nasked_, .int mfell_, .int mfellIn_, .ref naside_, .int mstate_, .int mlanded_, .int mwaitFalls_, .int mwaitWeight_, .ref nfallsAfter_, .ref nfalling_, .ref ncomes_, .ref ngoesOn_, .ref nwayRow_, .ref nmany_, .ref nmanyThen_, .int mtoldLet_, .ref ntSort_, .ref ntMany_, .ref nnumbers_])), (nknown_, .inl (cy 0, 2260, .inl (fknown_)))] ∧ rg (0) (1) r) := by
  refine Ci.of (by decide) (Nat.le_of_ble_eq_true rfl) ?_
  intro p e s m below meth c A ls hX hE hP hD hl
  obtain ⟨hx, hb, hr, hml, hown, htA, hlk⟩ := id hX
  have hK := hE.1
  have hS : va_S A s.heap s.heap [] := va_S.rf
  have hl : lv_has ls 3 [(0, .ref nm_), (1, .int t_), (2, .int w_)] := hl
  refine lv_aload_n hx hb dX11_is_0 rfl (lv_at hl 0 rfl) ?_
  refine va_get (ci := 11) (v := .ref nknown_) (C := RX11) (T := TX11) (N := 39) hx hb htA in_X11 hown hK hP 0 rfl rfl 0 (by decide) (htA _ wd_1354) (fun _ h => h) rfl dX11_is_1 ?_
  refine lv_bipush (v := 8) hx hb dX11_is_4 (by decide) ?_
  refine lv_iload_n hx hb dX11_is_6 rfl (lv_at hl 1 rfl) ?_
  refine lv_iadd hx hb dX11_is_7 ?_
  have g1_ : rg (8) (15) (8 + t_) := rg_add (rg_lit (by decide) : rg (8) (8) (8 : Int32)) rt_ (by decide) (by decide) (by decide) (by decide)
  refine va_iald hx hb hK hP 1 0 rfl rfl (rg_in g1_ (by decide) (by decide)) dX11_is_8 ?_
  refine lv_topi (fun v10080_ ev10080_ => ?_)
  have g2_ : rg (0) (2) v10080_ := by rw [ev10080_]; exact KX_l kb_8 rfknown_ g1_ (by decide) (by decide)
  refine lv_iload_n hx hb dX11_is_9 rfl (lv_at hl 2 rfl) ?_
  refine joinT (D := D) (A := A) (pc := 18) (mL := 3) (τ := Int32) (WS := fun i => [(nm_, .inr (11, [.ref nknown_, .ref ntelling_, .ref nimages_, .ref nisImage_, .int mthrown_, .ref ntape_, .int mtaped_, .int mlength_, .int mhead_, .int mbegin_, .int mtoken_, .int mvalue_, .int mbad_, .int mbadPlace_, .int mfaultKind_, .int mfaultPlace_, .int mdeep_, .int mlawMany_, .int mlawAt_, .ref nstack_, .ref nasked_, .int mfell_, .int mfellIn_, .ref naside_, .int mstate_, .int mlanded_, .int mwaitFalls_, .int mwaitWeight_, .ref nfallsAfter_, .ref nfalling_, .ref ncomes_, .ref ngoesOn_, .ref nwayRow_, .ref nmany_, .ref nmanyThen_, .int mtoldLet_, .ref ntSort_, .ref ntMany_, .ref nnumbers_])), (nknown_, .inl (cy 0, 2260, .inl (fknown_)))]) (LV := fun i => [(0, .ref nm_), (1, .int t_), (2, .int w_)]) (ST := fun i => [.int i]) (cells := 0) (slots := 0) (fun i => rg (0) (1) i ∧ R_X11_is_j1 v10080_ w_ i) (fun v201800_ H locs ls hI hP hD hS hl => ?_) (fun j18_ => ?_)
  · have hI : rg (0) (1) v201800_ ∧ R_X11_is_j1 v10080_ w_ v201800_ := hI
    obtain ⟨rv201800_, hR1_⟩ := hI
    have hP : va_P D vwCl [(nm_, .inr (11, [.ref nknown_, .ref ntelling_, .ref nimages_, .ref nisImage_, .int mthrown_, .ref ntape_, .int mtaped_, .int mlength_, .int mhead_, .int mbegin_, .int mtoken_, .int mvalue_, .int mbad_, .int mbadPlace_, .int mfaultKind_, .int mfaultPlace_, .int mdeep_, .int mlawMany_, .int mlawAt_, .ref nstack_, .ref nasked_, .int mfell_, .int mfellIn_, .ref naside_, .int mstate_, .int mlanded_, .int mwaitFalls_, .int mwaitWeight_, .ref nfallsAfter_, .ref nfalling_, .ref ncomes_, .ref ngoesOn_, .ref nwayRow_, .ref nmany_, .ref nmanyThen_, .int mtoldLet_, .ref ntSort_, .ref ntMany_, .ref nnumbers_])), (nknown_, .inl (cy 0, 2260, .inl (fknown_)))] H := hP
    have hD := va_ca hP hD
    have hl : lv_has ls 3 [(0, .ref nm_), (1, .int t_), (2, .int w_)] := hl
    exact rZ hX (nz_of rv201800_) hE hP hD hS dX11_is_18 (by decide) (by decide) ⟨(Or.inl ⟨v10080_, v201800_, ev10080_, hR1_, rfl⟩), rfl, (rg_w rv201800_ (by decide) (by decide))⟩
  refine lv_icmp_ne (tgt := 17) hx hb dX11_is_10 (by decide) (fun c10_ => ?_) (fun c10_ => ?_)
  · refine lv_iconst (v := 0) hx hb dX11_is_17 (by decide) ?_
    exact j18_ 0 _ _ ls ⟨(rg_w (rg_lit (by decide) : rg (0) (0) (0 : Int32)) (by decide) (by decide)), (Or.inl ⟨c10_, rfl⟩)⟩ hP hD hS (lv_sub hl [0, 1, 2] rfl)
  · refine lv_iconst (v := 1) hx hb dX11_is_13 (by decide) ?_
    refine lv_goto (tgt := 18) hx hb dX11_is_14 (by decide) ?_
    exact j18_ 1 _ _ ls ⟨(rg_w (rg_lit (by decide) : rg (1) (1) (1 : Int32)) (by decide) (by decide)), (Or.inr (Or.inl ⟨c10_, rfl⟩))⟩ hP hD hS (lv_sub hl [0, 1, 2] rfl)
def R_X11_isThing_e (fknown_ : Nat → Int32) (t_ : Int64) (r : Int32) : Prop := (∃ (v10030_ : Int32) (v10090_ : Int32), R_X11_things_e fknown_ v10030_ ∧ R_X11_within_e t_ ((0 : Int64)) (((v10030_ - 1).toInt64)) v10090_ ∧ r = v10090_) ∨ False
set_option maxHeartbeats 4000000 in
set_option maxRecDepth 100000 in
theorem sf_X11_isThing (l : Launch) (D : va_G) (cy : Nat → ClassId) (nm_ : Nat) (nknown_ : Nat) (ntelling_ : Nat) (nimages_ : Nat) (nisImage_ : Nat) (mthrown_ : Int32) (ntape_ : Nat) (mtaped_ : Int32) (mlength_ : Int32) (mhead_ : Int32) (mbegin_ : Int32) (mtoken_ : Int32) (mvalue_ : Int32) (mbad_ : Int32) (mbadPlace_ : Int32) (mfaultKind_ : Int32) (mfaultPlace_ : Int32) (mdeep_ : Int32) (mlawMany_ : Int32) (mlawAt_ : Int32) (nstack_ : Nat) (nasked_ : Nat) (mfell_ : Int32) (mfellIn_ : Int32) (naside_ : Nat) (mstate_ : Int32) (mlanded_ : Int32) (mwaitFalls_ : Int32) (mwaitWeight_ : Int32) (nfallsAfter_ : Nat) (nfalling_ : Nat) (ncomes_ : Nat) (ngoesOn_ : Nat) (nwayRow_ : Nat) (nmany_ : Nat) (nmanyThen_ : Nat) (mtoldLet_ : Int32) (ntSort_ : Nat) (ntMany_ : Nat) (nnumbers_ : Nat) (fknown_ : Nat → Int32) (t_ : Int64) (C_ : Int) (L_ : Int) (hb_ : Int) (ha_ : Int) (hc_ : Int) (hha_ : -2000000 ≤ ha_) (hhc_ : hc_ ≤ 4000000) (hhb_ : hb_ ≤ 1000000) (rmtaped_ : rg (0) (900) mtaped_) (rmlength_ : rg (0) (900) mlength_) (rmhead_ : rg (0) (900) mhead_) (rmbegin_ : rg (0) (900) mbegin_) (rfknown_ : KX C_ L_ ha_ hc_ hb_ fknown_) : Ci l yX11_isThing cX11_isThing 3 (some .boolean) { frames := 1, cells := 0, slots := 0, locals := 25 } D cy [.ref nm_, .long t_] [(nm_, .inr (11, [.ref nknown_, .ref ntelling_, .ref nimages_, .ref nisImage_, .int mthrown_, .ref ntape_, .int mtaped_, .int mlength_, .int mhead_, .int mbegin_, .int mtoken_, .int mvalue_, .int mbad_, .int mbadPlace_, .int mfaultKind_, .int mfaultPlace_, .int mdeep_, .int mlawMany_, .int mlawAt_, .ref nstack_, .ref nasked_, .int mfell_, .int mfellIn_, .ref naside_, .int mstate_, .int mlanded_, .int mwaitFalls_, .int mwaitWeight_, .ref nfallsAfter_, .ref nfalling_, .ref ncomes_, .ref ngoesOn_, .ref nwayRow_, .ref nmany_, .ref nmanyThen_, .int mtoldLet_, .ref ntSort_, .ref ntMany_, .ref nnumbers_])), (nknown_, .inl (cy 0, 2260, .inl (fknown_)))] (fun r W1 => R_X11_isThing_e fknown_ t_ r ∧ W1 = [(nm_, .inr (11, [.ref nknown_, .ref ntelling_, .ref nimages_, .ref nisImage_, .int mthrown_, .ref ntape_, .int mtaped_, .int mlength_, .int mhead_, .int mbegin_, .int mtoken_, .int mvalue_, .int mbad_, .int mbadPlace_, .int mfaultKind_, .int mfaultPlace_, .int mdeep_, .int mlawMany_, .int mlawAt_, .ref nstack_, .ref nasked_, .int mfell_, .int mfellIn_, .ref naside_, .int mstate_, .int mlanded_, .int mwaitFalls_, .int mwaitWeight_, .ref nfallsAfter_, .ref nfalling_, .ref ncomes_, .ref ngoesOn_, .ref nwayRow_, .ref nmany_, .ref nmanyThen_, .int mtoldLet_, .ref ntSort_, .ref ntMany_, .ref nnumbers_])), (nknown_, .inl (cy 0, 2260, .inl (fknown_)))] ∧ rg (0) (1) r) := by
  refine Ci.of (by decide) (Nat.le_of_ble_eq_true rfl) ?_
  intro p e s m below meth c A ls hX hE hP hD hl
  obtain ⟨hx, hb, hr, hml, hown, htA, hlk⟩ := id hX
  have hK := hE.1
  have hS : va_S A s.heap s.heap [] := va_S.rf
  have hl : lv_has ls 3 [(0, .ref nm_), (1, .long t_)] := hl
  refine lv_lload_n hx hb dX11_isThing_0 rfl (lv_at hl 1 rfl) ?_
  refine lv_lconst (v := 0) hx hb dX11_isThing_1 (by decide) ?_
  refine lv_aload_n hx hb dX11_isThing_2 rfl (lv_at hl 0 rfl) ?_
  refine kVi (As := []) (rest := [.long 0, .long t_]) (wr := []) hX hE (sf_X11_things l D cy nm_ nknown_ ntelling_ nimages_ nisImage_ mthrown_ ntape_ mtaped_ mlength_ mhead_ mbegin_ mtoken_ mvalue_ mbad_ mbadPlace_ mfaultKind_ mfaultPlace_ mdeep_ mlawMany_ mlawAt_ nstack_ nasked_ mfell_ mfellIn_ naside_ mstate_ mlanded_ mwaitFalls_ mwaitWeight_ nfallsAfter_ nfalling_ ncomes_ ngoesOn_ nwayRow_ nmany_ nmanyThen_ mtoldLet_ ntSort_ ntMany_ nnumbers_ fknown_ C_ L_ hb_ ha_ hc_ (by omega) (by omega) (by omega) (rg_w rmtaped_ (by decide) (by decide)) (rg_w rmlength_ (by decide) (by decide)) (rg_w rmhead_ (by decide) (by decide)) (rg_w rmbegin_ (by decide) (by decide)) rfknown_) (cwVA 0 htA wd_1645 wd_1642 wd_10 wd_1644 wp_71 (by decide +kernel) ⟨by decide, by decide⟩) hP hD hS [0, 1] [] rfl rfl (by decide +kernel) 0 rfl rfl rfl rfl hl.1 rfl (Nat.le_of_ble_eq_true rfl) dX11_isThing_3 (by decide) (fun v10030_ W1 H locs hw hP hD hS => ?_)
  refine W.widen (k := 0) (n := 0) (by decide) (by decide) ?_
  obtain ⟨ev10030_, k3_1_, rfl, kr3_⟩ := hw
  have hP : va_P D vwCl [(nm_, .inr (11, [.ref nknown_, .ref ntelling_, .ref nimages_, .ref nisImage_, .int mthrown_, .ref ntape_, .int mtaped_, .int mlength_, .int mhead_, .int mbegin_, .int mtoken_, .int mvalue_, .int mbad_, .int mbadPlace_, .int mfaultKind_, .int mfaultPlace_, .int mdeep_, .int mlawMany_, .int mlawAt_, .ref nstack_, .ref nasked_, .int mfell_, .int mfellIn_, .ref naside_, .int mstate_, .int mlanded_, .int mwaitFalls_, .int mwaitWeight_, .ref nfallsAfter_, .ref nfalling_, .ref ncomes_, .ref ngoesOn_, .ref nwayRow_, .ref nmany_, .ref nmanyThen_, .int mtoldLet_, .ref ntSort_, .ref ntMany_, .ref nnumbers_])), (nknown_, .inl (cy 0, 2260, .inl (fknown_)))] H := hP
  have hD := va_ca hP hD
  refine lv_iconst (v := 1) hx hb dX11_isThing_6 (by decide) ?_
  refine lv_isub hx hb dX11_isThing_7 ?_
  have g1_ : rg (-1) (7) (v10030_ - 1) := rg_sub kr3_ (rg_lit (by decide) : rg (1) (1) (1 : Int32)) (by decide) (by decide) (by decide) (by decide)
  refine lv_i2l hx hb dX11_isThing_8 rfl ?_
  have g2_ : rl (-1) (7) ((v10030_ - 1).toInt64) := rl_i2l g1_
  refine kSi (As := [.long t_, .long 0, .long ((v10030_ - 1).toInt64)]) (rest := []) (wr := [(nm_, .inr (11, [.ref nknown_, .ref ntelling_, .ref nimages_, .ref nisImage_, .int mthrown_, .ref ntape_, .int mtaped_, .int mlength_, .int mhead_, .int mbegin_, .int mtoken_, .int mvalue_, .int mbad_, .int mbadPlace_, .int mfaultKind_, .int mfaultPlace_, .int mdeep_, .int mlawMany_, .int mlawAt_, .ref nstack_, .ref nasked_, .int mfell_, .int mfellIn_, .ref naside_, .int mstate_, .int mlanded_, .int mwaitFalls_, .int mwaitWeight_, .ref nfallsAfter_, .ref nfalling_, .ref ncomes_, .ref ngoesOn_, .ref nwayRow_, .ref nmany_, .ref nmanyThen_, .int mtoldLet_, .ref ntSort_, .ref ntMany_, .ref nnumbers_])), (nknown_, .inl (cy 0, 2260, .inl (fknown_)))]) hX hE (sf_X11_within l D cy t_ (0 : Int64) ((v10030_ - 1).toInt64) ) (cwSA 3 htA wd_1483 wd_1481 wd_10 wd_1482 (by decide +kernel) ⟨by decide, by decide⟩) hP hD hS [] [0, 1] rfl rfl (by decide +kernel) rfl hl.1 rfl (Nat.le_of_ble_eq_true rfl) dX11_isThing_9 (by decide) (fun v10090_ W1 H locs hw hP hD hS => ?_)
  refine W.widen (k := 0) (n := 0) (by decide) (by decide) ?_
  obtain ⟨k9_0_, rfl, kr9_⟩ := hw
  have hP : va_P D vwCl [(nm_, .inr (11, [.ref nknown_, .ref ntelling_, .ref nimages_, .ref nisImage_, .int mthrown_, .ref ntape_, .int mtaped_, .int mlength_, .int mhead_, .int mbegin_, .int mtoken_, .int mvalue_, .int mbad_, .int mbadPlace_, .int mfaultKind_, .int mfaultPlace_, .int mdeep_, .int mlawMany_, .int mlawAt_, .ref nstack_, .ref nasked_, .int mfell_, .int mfellIn_, .ref naside_, .int mstate_, .int mlanded_, .int mwaitFalls_, .int mwaitWeight_, .ref nfallsAfter_, .ref nfalling_, .ref ncomes_, .ref ngoesOn_, .ref nwayRow_, .ref nmany_, .ref nmanyThen_, .int mtoldLet_, .ref ntSort_, .ref ntMany_, .ref nnumbers_])), (nknown_, .inl (cy 0, 2260, .inl (fknown_)))] H := hP
  have hD := va_ca hP hD
  exact rZ hX (nz_of kr9_) hE hP hD hS dX11_isThing_12 (by decide) (by decide) ⟨(Or.inl ⟨v10030_, v10090_, k3_1_, k9_0_, rfl⟩), rfl, (rg_w kr9_ (by decide) (by decide))⟩
def R_X11_isColumn_e (fknown_ : Nat → Int32) (c_ : Int64) (r : Int32) : Prop := (∃ (v10070_ : Int32) (v10110_ : Int32), v10070_ = fknown_ (1 : Int32).toNatClampNeg ∧ R_X11_within_e c_ ((0 : Int64)) (((v10070_ - 1).toInt64)) v10110_ ∧ r = v10110_) ∨ False
set_option maxHeartbeats 4000000 in
set_option maxRecDepth 100000 in
theorem sf_X11_isColumn (l : Launch) (D : va_G) (cy : Nat → ClassId) (nm_ : Nat) (nknown_ : Nat) (ntelling_ : Nat) (nimages_ : Nat) (nisImage_ : Nat) (mthrown_ : Int32) (ntape_ : Nat) (mtaped_ : Int32) (mlength_ : Int32) (mhead_ : Int32) (mbegin_ : Int32) (mtoken_ : Int32) (mvalue_ : Int32) (mbad_ : Int32) (mbadPlace_ : Int32) (mfaultKind_ : Int32) (mfaultPlace_ : Int32) (mdeep_ : Int32) (mlawMany_ : Int32) (mlawAt_ : Int32) (nstack_ : Nat) (nasked_ : Nat) (mfell_ : Int32) (mfellIn_ : Int32) (naside_ : Nat) (mstate_ : Int32) (mlanded_ : Int32) (mwaitFalls_ : Int32) (mwaitWeight_ : Int32) (nfallsAfter_ : Nat) (nfalling_ : Nat) (ncomes_ : Nat) (ngoesOn_ : Nat) (nwayRow_ : Nat) (nmany_ : Nat) (nmanyThen_ : Nat) (mtoldLet_ : Int32) (ntSort_ : Nat) (ntMany_ : Nat) (nnumbers_ : Nat) (fknown_ : Nat → Int32) (c_ : Int64) (C_ : Int) (L_ : Int) (hb_ : Int) (ha_ : Int) (hc_ : Int) (hha_ : -2000000 ≤ ha_) (hhc_ : hc_ ≤ 4000000) (hhb_ : hb_ ≤ 1000000) (rmtaped_ : rg (0) (900) mtaped_) (rmlength_ : rg (0) (900) mlength_) (rmhead_ : rg (0) (900) mhead_) (rmbegin_ : rg (0) (900) mbegin_) (rfknown_ : KX C_ L_ ha_ hc_ hb_ fknown_) : Ci l yX11_isColumn cX11_isColumn 3 (some .boolean) { frames := 1, cells := 0, slots := 0, locals := 25 } D cy [.ref nm_, .long c_] [(nm_, .inr (11, [.ref nknown_, .ref ntelling_, .ref nimages_, .ref nisImage_, .int mthrown_, .ref ntape_, .int mtaped_, .int mlength_, .int mhead_, .int mbegin_, .int mtoken_, .int mvalue_, .int mbad_, .int mbadPlace_, .int mfaultKind_, .int mfaultPlace_, .int mdeep_, .int mlawMany_, .int mlawAt_, .ref nstack_, .ref nasked_, .int mfell_, .int mfellIn_, .ref naside_, .int mstate_, .int mlanded_, .int mwaitFalls_, .int mwaitWeight_, .ref nfallsAfter_, .ref nfalling_, .ref ncomes_, .ref ngoesOn_, .ref nwayRow_, .ref nmany_, .ref nmanyThen_, .int mtoldLet_, .ref ntSort_, .ref ntMany_, .ref nnumbers_])), (nknown_, .inl (cy 0, 2260, .inl (fknown_)))] (fun r W1 => R_X11_isColumn_e fknown_ c_ r ∧ W1 = [(nm_, .inr (11, [.ref nknown_, .ref ntelling_, .ref nimages_, .ref nisImage_, .int mthrown_, .ref ntape_, .int mtaped_, .int mlength_, .int mhead_, .int mbegin_, .int mtoken_, .int mvalue_, .int mbad_, .int mbadPlace_, .int mfaultKind_, .int mfaultPlace_, .int mdeep_, .int mlawMany_, .int mlawAt_, .ref nstack_, .ref nasked_, .int mfell_, .int mfellIn_, .ref naside_, .int mstate_, .int mlanded_, .int mwaitFalls_, .int mwaitWeight_, .ref nfallsAfter_, .ref nfalling_, .ref ncomes_, .ref ngoesOn_, .ref nwayRow_, .ref nmany_, .ref nmanyThen_, .int mtoldLet_, .ref ntSort_, .ref ntMany_, .ref nnumbers_])), (nknown_, .inl (cy 0, 2260, .inl (fknown_)))] ∧ rg (0) (1) r) := by
  refine Ci.of (by decide) (Nat.le_of_ble_eq_true rfl) ?_
  intro p e s m below meth c A ls hX hE hP hD hl
  obtain ⟨hx, hb, hr, hml, hown, htA, hlk⟩ := id hX
  have hK := hE.1
  have hS : va_S A s.heap s.heap [] := va_S.rf
  have hl : lv_has ls 3 [(0, .ref nm_), (1, .long c_)] := hl
  refine lv_lload_n hx hb dX11_isColumn_0 rfl (lv_at hl 1 rfl) ?_
  refine lv_lconst (v := 0) hx hb dX11_isColumn_1 (by decide) ?_
  refine lv_aload_n hx hb dX11_isColumn_2 rfl (lv_at hl 0 rfl) ?_
  refine va_get (ci := 11) (v := .ref nknown_) (C := RX11) (T := TX11) (N := 39) hx hb htA in_X11 hown hK hP 0 rfl rfl 0 (by decide) (htA _ wd_1354) (fun _ h => h) rfl dX11_isColumn_3 ?_
  refine lv_iconst (v := 1) hx hb dX11_isColumn_6 (by decide) ?_
  refine va_iald hx hb hK hP 1 0 rfl rfl (in_lit (by decide)) dX11_isColumn_7 ?_
  refine lv_topi (fun v10070_ ev10070_ => ?_)
  have g1_ : rg (1) (6) v10070_ := by rw [ev10070_]; exact KX_l kb_1 rfknown_ (rg_lit (by decide) : rg (1) (1) (1 : Int32)) (by decide) (by decide)
  refine lv_iconst (v := 1) hx hb dX11_isColumn_8 (by decide) ?_
  refine lv_isub hx hb dX11_isColumn_9 ?_
  have g2_ : rg (0) (5) (v10070_ - 1) := rg_sub g1_ (rg_lit (by decide) : rg (1) (1) (1 : Int32)) (by decide) (by decide) (by decide) (by decide)
  refine lv_i2l hx hb dX11_isColumn_10 rfl ?_
  have g3_ : rl (0) (5) ((v10070_ - 1).toInt64) := rl_i2l g2_
  refine kSi (As := [.long c_, .long 0, .long ((v10070_ - 1).toInt64)]) (rest := []) (wr := [(nm_, .inr (11, [.ref nknown_, .ref ntelling_, .ref nimages_, .ref nisImage_, .int mthrown_, .ref ntape_, .int mtaped_, .int mlength_, .int mhead_, .int mbegin_, .int mtoken_, .int mvalue_, .int mbad_, .int mbadPlace_, .int mfaultKind_, .int mfaultPlace_, .int mdeep_, .int mlawMany_, .int mlawAt_, .ref nstack_, .ref nasked_, .int mfell_, .int mfellIn_, .ref naside_, .int mstate_, .int mlanded_, .int mwaitFalls_, .int mwaitWeight_, .ref nfallsAfter_, .ref nfalling_, .ref ncomes_, .ref ngoesOn_, .ref nwayRow_, .ref nmany_, .ref nmanyThen_, .int mtoldLet_, .ref ntSort_, .ref ntMany_, .ref nnumbers_])), (nknown_, .inl (cy 0, 2260, .inl (fknown_)))]) hX hE (sf_X11_within l D cy c_ (0 : Int64) ((v10070_ - 1).toInt64) ) (cwSA 3 htA wd_1483 wd_1481 wd_10 wd_1482 (by decide +kernel) ⟨by decide, by decide⟩) hP hD hS [] [0, 1] rfl rfl (by decide +kernel) rfl hl.1 rfl (Nat.le_of_ble_eq_true rfl) dX11_isColumn_11 (by decide) (fun v10110_ W1 H locs hw hP hD hS => ?_)
  refine W.widen (k := 0) (n := 0) (by decide) (by decide) ?_
  obtain ⟨k11_0_, rfl, kr11_⟩ := hw
  have hP : va_P D vwCl [(nm_, .inr (11, [.ref nknown_, .ref ntelling_, .ref nimages_, .ref nisImage_, .int mthrown_, .ref ntape_, .int mtaped_, .int mlength_, .int mhead_, .int mbegin_, .int mtoken_, .int mvalue_, .int mbad_, .int mbadPlace_, .int mfaultKind_, .int mfaultPlace_, .int mdeep_, .int mlawMany_, .int mlawAt_, .ref nstack_, .ref nasked_, .int mfell_, .int mfellIn_, .ref naside_, .int mstate_, .int mlanded_, .int mwaitFalls_, .int mwaitWeight_, .ref nfallsAfter_, .ref nfalling_, .ref ncomes_, .ref ngoesOn_, .ref nwayRow_, .ref nmany_, .ref nmanyThen_, .int mtoldLet_, .ref ntSort_, .ref ntMany_, .ref nnumbers_])), (nknown_, .inl (cy 0, 2260, .inl (fknown_)))] H := hP
  have hD := va_ca hP hD
  exact rZ hX (nz_of kr11_) hE hP hD hS dX11_isColumn_14 (by decide) (by decide) ⟨(Or.inl ⟨v10070_, v10110_, ev10070_, k11_0_, rfl⟩), rfl, (rg_w kr11_ (by decide) (by decide))⟩
def R_X11_isPlace_j3 (v10020_ : Int32) (fknown_ : Nat → Int32) (l_ : Int64) : Prop := (v10020_ = (0 : Int32)) ∨ (∃ (v10150_ : Int32) (v10190_ : Int32), ¬ (v10020_ = (0 : Int32)) ∧ v10150_ = fknown_ (2 : Int32).toNatClampNeg ∧ R_X11_within_e l_ ((0 : Int64)) (((v10150_ - 1).toInt64)) v10190_ ∧ v10190_ = (0 : Int32)) ∨ False
def R_X11_isPlace_j1 (v10020_ : Int32) (fknown_ : Nat → Int32) (l_ : Int64) (v203000_ : Int32) : Prop := (R_X11_isPlace_j3 v10020_ fknown_ l_ ∧ v203000_ = (0 : Int32)) ∨ (∃ (v10150_ : Int32) (v10190_ : Int32), ¬ (v10020_ = (0 : Int32)) ∧ v10150_ = fknown_ (2 : Int32).toNatClampNeg ∧ R_X11_within_e l_ ((0 : Int64)) (((v10150_ - 1).toInt64)) v10190_ ∧ ¬ (v10190_ = (0 : Int32)) ∧ v203000_ = (1 : Int32)) ∨ False
def R_X11_isPlace_e (fknown_ : Nat → Int32) (c_ : Int64) (l_ : Int64) (r : Int32) : Prop := (∃ (v10020_ : Int32) (v203000_ : Int32), R_X11_isColumn_e fknown_ c_ v10020_ ∧ R_X11_isPlace_j1 v10020_ fknown_ l_ v203000_ ∧ r = v203000_) ∨ False
set_option maxHeartbeats 4000000 in
set_option maxRecDepth 100000 in
theorem sf_X11_isPlace (l : Launch) (D : va_G) (cy : Nat → ClassId) (nm_ : Nat) (nknown_ : Nat) (ntelling_ : Nat) (nimages_ : Nat) (nisImage_ : Nat) (mthrown_ : Int32) (ntape_ : Nat) (mtaped_ : Int32) (mlength_ : Int32) (mhead_ : Int32) (mbegin_ : Int32) (mtoken_ : Int32) (mvalue_ : Int32) (mbad_ : Int32) (mbadPlace_ : Int32) (mfaultKind_ : Int32) (mfaultPlace_ : Int32) (mdeep_ : Int32) (mlawMany_ : Int32) (mlawAt_ : Int32) (nstack_ : Nat) (nasked_ : Nat) (mfell_ : Int32) (mfellIn_ : Int32) (naside_ : Nat) (mstate_ : Int32) (mlanded_ : Int32) (mwaitFalls_ : Int32) (mwaitWeight_ : Int32) (nfallsAfter_ : Nat) (nfalling_ : Nat) (ncomes_ : Nat) (ngoesOn_ : Nat) (nwayRow_ : Nat) (nmany_ : Nat) (nmanyThen_ : Nat) (mtoldLet_ : Int32) (ntSort_ : Nat) (ntMany_ : Nat) (nnumbers_ : Nat) (fknown_ : Nat → Int32) (c_ : Int64) (l_ : Int64) (C_ : Int) (L_ : Int) (hb_ : Int) (ha_ : Int) (hc_ : Int) (hha_ : -2000000 ≤ ha_) (hhc_ : hc_ ≤ 4000000) (hhb_ : hb_ ≤ 1000000) (rmtaped_ : rg (0) (900) mtaped_) (rmlength_ : rg (0) (900) mlength_) (rmhead_ : rg (0) (900) mhead_) (rmbegin_ : rg (0) (900) mbegin_) (rfknown_ : KX C_ L_ ha_ hc_ hb_ fknown_) : Ci l yX11_isPlace cX11_isPlace 5 (some .boolean) { frames := 2, cells := 0, slots := 0, locals := 47 } D cy [.ref nm_, .long c_, .long l_] [(nm_, .inr (11, [.ref nknown_, .ref ntelling_, .ref nimages_, .ref nisImage_, .int mthrown_, .ref ntape_, .int mtaped_, .int mlength_, .int mhead_, .int mbegin_, .int mtoken_, .int mvalue_, .int mbad_, .int mbadPlace_, .int mfaultKind_, .int mfaultPlace_, .int mdeep_, .int mlawMany_, .int mlawAt_, .ref nstack_, .ref nasked_, .int mfell_, .int mfellIn_, .ref naside_, .int mstate_, .int mlanded_, .int mwaitFalls_, .int mwaitWeight_, .ref nfallsAfter_, .ref nfalling_, .ref ncomes_, .ref ngoesOn_, .ref nwayRow_, .ref nmany_, .ref nmanyThen_, .int mtoldLet_, .ref ntSort_, .ref ntMany_, .ref nnumbers_])), (nknown_, .inl (cy 0, 2260, .inl (fknown_)))] (fun r W1 => R_X11_isPlace_e fknown_ c_ l_ r ∧ W1 = [(nm_, .inr (11, [.ref nknown_, .ref ntelling_, .ref nimages_, .ref nisImage_, .int mthrown_, .ref ntape_, .int mtaped_, .int mlength_, .int mhead_, .int mbegin_, .int mtoken_, .int mvalue_, .int mbad_, .int mbadPlace_, .int mfaultKind_, .int mfaultPlace_, .int mdeep_, .int mlawMany_, .int mlawAt_, .ref nstack_, .ref nasked_, .int mfell_, .int mfellIn_, .ref naside_, .int mstate_, .int mlanded_, .int mwaitFalls_, .int mwaitWeight_, .ref nfallsAfter_, .ref nfalling_, .ref ncomes_, .ref ngoesOn_, .ref nwayRow_, .ref nmany_, .ref nmanyThen_, .int mtoldLet_, .ref ntSort_, .ref ntMany_, .ref nnumbers_])), (nknown_, .inl (cy 0, 2260, .inl (fknown_)))] ∧ rg (0) (1) r) := by
  refine Ci.of (by decide) (Nat.le_of_ble_eq_true rfl) ?_
  intro p e s m below meth c A ls hX hE hP hD hl
  obtain ⟨hx, hb, hr, hml, hown, htA, hlk⟩ := id hX
  have hK := hE.1
  have hS : va_S A s.heap s.heap [] := va_S.rf
  have hl : lv_has ls 5 [(0, .ref nm_), (1, .long c_), (3, .long l_)] := hl
  refine lv_aload_n hx hb dX11_isPlace_0 rfl (lv_at hl 0 rfl) ?_
  refine lv_lload_n hx hb dX11_isPlace_1 rfl (lv_at hl 1 rfl) ?_
  refine kVi (As := [.long c_]) (rest := []) (wr := []) hX hE (sf_X11_isColumn l D cy nm_ nknown_ ntelling_ nimages_ nisImage_ mthrown_ ntape_ mtaped_ mlength_ mhead_ mbegin_ mtoken_ mvalue_ mbad_ mbadPlace_ mfaultKind_ mfaultPlace_ mdeep_ mlawMany_ mlawAt_ nstack_ nasked_ mfell_ mfellIn_ naside_ mstate_ mlanded_ mwaitFalls_ mwaitWeight_ nfallsAfter_ nfalling_ ncomes_ ngoesOn_ nwayRow_ nmany_ nmanyThen_ mtoldLet_ ntSort_ ntMany_ nnumbers_ fknown_ c_ C_ L_ hb_ ha_ hc_ (by omega) (by omega) (by omega) (rg_w rmtaped_ (by decide) (by decide)) (rg_w rmlength_ (by decide) (by decide)) (rg_w rmhead_ (by decide) (by decide)) (rg_w rmbegin_ (by decide) (by decide)) rfknown_) (cwVA 1 htA wd_1683 wd_1680 wd_10 wd_1682 wp_76 (by decide +kernel) ⟨by decide, by decide⟩) hP hD hS [0, 1] [] rfl rfl (by decide +kernel) 0 rfl rfl rfl rfl hl.1 rfl (Nat.le_of_ble_eq_true rfl) dX11_isPlace_2 (by decide) (fun v10020_ W1 H locs hw hP hD hS => ?_)
  refine W.widen (k := 0) (n := 0) (by decide) (by decide) ?_
  obtain ⟨k2_0_, rfl, kr2_⟩ := hw
  have hP : va_P D vwCl [(nm_, .inr (11, [.ref nknown_, .ref ntelling_, .ref nimages_, .ref nisImage_, .int mthrown_, .ref ntape_, .int mtaped_, .int mlength_, .int mhead_, .int mbegin_, .int mtoken_, .int mvalue_, .int mbad_, .int mbadPlace_, .int mfaultKind_, .int mfaultPlace_, .int mdeep_, .int mlawMany_, .int mlawAt_, .ref nstack_, .ref nasked_, .int mfell_, .int mfellIn_, .ref naside_, .int mstate_, .int mlanded_, .int mwaitFalls_, .int mwaitWeight_, .ref nfallsAfter_, .ref nfalling_, .ref ncomes_, .ref ngoesOn_, .ref nwayRow_, .ref nmany_, .ref nmanyThen_, .int mtoldLet_, .ref ntSort_, .ref ntMany_, .ref nnumbers_])), (nknown_, .inl (cy 0, 2260, .inl (fknown_)))] H := hP
  have hD := va_ca hP hD
  refine joinT (D := D) (A := A) (pc := 30) (mL := 5) (τ := Int32) (WS := fun i => [(nm_, .inr (11, [.ref nknown_, .ref ntelling_, .ref nimages_, .ref nisImage_, .int mthrown_, .ref ntape_, .int mtaped_, .int mlength_, .int mhead_, .int mbegin_, .int mtoken_, .int mvalue_, .int mbad_, .int mbadPlace_, .int mfaultKind_, .int mfaultPlace_, .int mdeep_, .int mlawMany_, .int mlawAt_, .ref nstack_, .ref nasked_, .int mfell_, .int mfellIn_, .ref naside_, .int mstate_, .int mlanded_, .int mwaitFalls_, .int mwaitWeight_, .ref nfallsAfter_, .ref nfalling_, .ref ncomes_, .ref ngoesOn_, .ref nwayRow_, .ref nmany_, .ref nmanyThen_, .int mtoldLet_, .ref ntSort_, .ref ntMany_, .ref nnumbers_])), (nknown_, .inl (cy 0, 2260, .inl (fknown_)))]) (LV := fun i => [(0, .ref nm_), (1, .long c_), (3, .long l_)]) (ST := fun i => [.int i]) (cells := 0) (slots := 0) (fun i => rg (0) (1) i ∧ R_X11_isPlace_j1 v10020_ fknown_ l_ i) (fun v203000_ H locs ls hI hP hD hS hl => ?_) (fun j30_ => ?_)
  · have hI : rg (0) (1) v203000_ ∧ R_X11_isPlace_j1 v10020_ fknown_ l_ v203000_ := hI
    obtain ⟨rv203000_, hR1_⟩ := hI
    have hP : va_P D vwCl [(nm_, .inr (11, [.ref nknown_, .ref ntelling_, .ref nimages_, .ref nisImage_, .int mthrown_, .ref ntape_, .int mtaped_, .int mlength_, .int mhead_, .int mbegin_, .int mtoken_, .int mvalue_, .int mbad_, .int mbadPlace_, .int mfaultKind_, .int mfaultPlace_, .int mdeep_, .int mlawMany_, .int mlawAt_, .ref nstack_, .ref nasked_, .int mfell_, .int mfellIn_, .ref naside_, .int mstate_, .int mlanded_, .int mwaitFalls_, .int mwaitWeight_, .ref nfallsAfter_, .ref nfalling_, .ref ncomes_, .ref ngoesOn_, .ref nwayRow_, .ref nmany_, .ref nmanyThen_, .int mtoldLet_, .ref ntSort_, .ref ntMany_, .ref nnumbers_])), (nknown_, .inl (cy 0, 2260, .inl (fknown_)))] H := hP
    have hD := va_ca hP hD
    have hl : lv_has ls 5 [(0, .ref nm_), (1, .long c_), (3, .long l_)] := hl
    exact rZ hX (nz_of rv203000_) hE hP hD hS dX11_isPlace_30 (by decide) (by decide) ⟨(Or.inl ⟨v10020_, v203000_, k2_0_, hR1_, rfl⟩), rfl, (rg_w rv203000_ (by decide) (by decide))⟩
  refine joinT (D := D) (A := A) (pc := 29) (mL := 5) (τ := Unit) (WS := fun i => [(nm_, .inr (11, [.ref nknown_, .ref ntelling_, .ref nimages_, .ref nisImage_, .int mthrown_, .ref ntape_, .int mtaped_, .int mlength_, .int mhead_, .int mbegin_, .int mtoken_, .int mvalue_, .int mbad_, .int mbadPlace_, .int mfaultKind_, .int mfaultPlace_, .int mdeep_, .int mlawMany_, .int mlawAt_, .ref nstack_, .ref nasked_, .int mfell_, .int mfellIn_, .ref naside_, .int mstate_, .int mlanded_, .int mwaitFalls_, .int mwaitWeight_, .ref nfallsAfter_, .ref nfalling_, .ref ncomes_, .ref ngoesOn_, .ref nwayRow_, .ref nmany_, .ref nmanyThen_, .int mtoldLet_, .ref ntSort_, .ref ntMany_, .ref nnumbers_])), (nknown_, .inl (cy 0, 2260, .inl (fknown_)))]) (LV := fun i => [(0, .ref nm_), (1, .long c_), (3, .long l_)]) (ST := fun i => []) (cells := 0) (slots := 0) (fun i => R_X11_isPlace_j3 v10020_ fknown_ l_) (fun u0_ H locs ls hI hP hD hS hl => ?_) (fun j29_ => ?_)
  · have hI : R_X11_isPlace_j3 v10020_ fknown_ l_ := hI
    have hR3_ := hI
    have hP : va_P D vwCl [(nm_, .inr (11, [.ref nknown_, .ref ntelling_, .ref nimages_, .ref nisImage_, .int mthrown_, .ref ntape_, .int mtaped_, .int mlength_, .int mhead_, .int mbegin_, .int mtoken_, .int mvalue_, .int mbad_, .int mbadPlace_, .int mfaultKind_, .int mfaultPlace_, .int mdeep_, .int mlawMany_, .int mlawAt_, .ref nstack_, .ref nasked_, .int mfell_, .int mfellIn_, .ref naside_, .int mstate_, .int mlanded_, .int mwaitFalls_, .int mwaitWeight_, .ref nfallsAfter_, .ref nfalling_, .ref ncomes_, .ref ngoesOn_, .ref nwayRow_, .ref nmany_, .ref nmanyThen_, .int mtoldLet_, .ref ntSort_, .ref ntMany_, .ref nnumbers_])), (nknown_, .inl (cy 0, 2260, .inl (fknown_)))] H := hP
    have hD := va_ca hP hD
    have hl : lv_has ls 5 [(0, .ref nm_), (1, .long c_), (3, .long l_)] := hl
    refine lv_iconst (v := 0) hx hb dX11_isPlace_29 (by decide) ?_
    exact j30_ 0 _ _ ls ⟨(rg_w (rg_lit (by decide) : rg (0) (0) (0 : Int32)) (by decide) (by decide)), (Or.inl ⟨hR3_, rfl⟩)⟩ hP hD hS (lv_sub hl [0, 1, 2] rfl)
  refine lv_if_eq (tgt := 29) hx hb dX11_isPlace_5 (by decide) (fun c5_ => ?_) (fun c5_ => ?_)
  · have g1_ : rg (0) (0) v10020_ := rg_eq c5_ (rg_lit (by decide) : rg (0) (0) (0 : Int32))
    exact j29_ () _ _ ls (Or.inl c5_) hP hD hS (lv_sub hl [0, 1, 2] rfl)
  · have g2_ : rg (1) (1) v10020_ := rg_ne1 c5_ kr2_ (by decide) (by decide)
    refine lv_lload_n hx hb dX11_isPlace_8 rfl (lv_at hl 2 rfl) ?_
    refine lv_lconst (v := 0) hx hb dX11_isPlace_9 (by decide) ?_
    refine lv_aload_n hx hb dX11_isPlace_10 rfl (lv_at hl 0 rfl) ?_
    refine va_get (ci := 11) (v := .ref nknown_) (C := RX11) (T := TX11) (N := 39) hx hb htA in_X11 hown hK hP 0 rfl rfl 0 (by decide) (htA _ wd_1354) (fun _ h => h) rfl dX11_isPlace_11 ?_
    refine lv_iconst (v := 2) hx hb dX11_isPlace_14 (by decide) ?_
    refine va_iald hx hb hK hP 1 0 rfl rfl (in_lit (by decide)) dX11_isPlace_15 ?_
    refine lv_topi (fun v10150_ ev10150_ => ?_)
    have g3_ : rg (1) (9) v10150_ := by rw [ev10150_]; exact KX_l kb_2 rfknown_ (rg_lit (by decide) : rg (2) (2) (2 : Int32)) (by decide) (by decide)
    refine lv_iconst (v := 1) hx hb dX11_isPlace_16 (by decide) ?_
    refine lv_isub hx hb dX11_isPlace_17 ?_
    have g4_ : rg (0) (8) (v10150_ - 1) := rg_sub g3_ (rg_lit (by decide) : rg (1) (1) (1 : Int32)) (by decide) (by decide) (by decide) (by decide)
    refine lv_i2l hx hb dX11_isPlace_18 rfl ?_
    have g5_ : rl (0) (8) ((v10150_ - 1).toInt64) := rl_i2l g4_
    refine kSi (As := [.long l_, .long 0, .long ((v10150_ - 1).toInt64)]) (rest := []) (wr := [(nm_, .inr (11, [.ref nknown_, .ref ntelling_, .ref nimages_, .ref nisImage_, .int mthrown_, .ref ntape_, .int mtaped_, .int mlength_, .int mhead_, .int mbegin_, .int mtoken_, .int mvalue_, .int mbad_, .int mbadPlace_, .int mfaultKind_, .int mfaultPlace_, .int mdeep_, .int mlawMany_, .int mlawAt_, .ref nstack_, .ref nasked_, .int mfell_, .int mfellIn_, .ref naside_, .int mstate_, .int mlanded_, .int mwaitFalls_, .int mwaitWeight_, .ref nfallsAfter_, .ref nfalling_, .ref ncomes_, .ref ngoesOn_, .ref nwayRow_, .ref nmany_, .ref nmanyThen_, .int mtoldLet_, .ref ntSort_, .ref ntMany_, .ref nnumbers_])), (nknown_, .inl (cy 0, 2260, .inl (fknown_)))]) hX hE (sf_X11_within l D cy l_ (0 : Int64) ((v10150_ - 1).toInt64) ) (cwSA 3 htA wd_1483 wd_1481 wd_10 wd_1482 (by decide +kernel) ⟨by decide, by decide⟩) hP hD hS [] [0, 1] rfl rfl (by decide +kernel) rfl hl.1 rfl (Nat.le_of_ble_eq_true rfl) dX11_isPlace_19 (by decide) (fun v10190_ W1 H locs hw hP hD hS => ?_)
    refine W.widen (k := 0) (n := 0) (by decide) (by decide) ?_
    obtain ⟨k19_0_, rfl, kr19_⟩ := hw
    have hP : va_P D vwCl [(nm_, .inr (11, [.ref nknown_, .ref ntelling_, .ref nimages_, .ref nisImage_, .int mthrown_, .ref ntape_, .int mtaped_, .int mlength_, .int mhead_, .int mbegin_, .int mtoken_, .int mvalue_, .int mbad_, .int mbadPlace_, .int mfaultKind_, .int mfaultPlace_, .int mdeep_, .int mlawMany_, .int mlawAt_, .ref nstack_, .ref nasked_, .int mfell_, .int mfellIn_, .ref naside_, .int mstate_, .int mlanded_, .int mwaitFalls_, .int mwaitWeight_, .ref nfallsAfter_, .ref nfalling_, .ref ncomes_, .ref ngoesOn_, .ref nwayRow_, .ref nmany_, .ref nmanyThen_, .int mtoldLet_, .ref ntSort_, .ref ntMany_, .ref nnumbers_])), (nknown_, .inl (cy 0, 2260, .inl (fknown_)))] H := hP
    have hD := va_ca hP hD
    refine lv_if_eq (tgt := 29) hx hb dX11_isPlace_22 (by decide) (fun c22_ => ?_) (fun c22_ => ?_)
    · have g6_ : rg (0) (0) v10190_ := rg_eq c22_ (rg_lit (by decide) : rg (0) (0) (0 : Int32))
      exact j29_ () _ _ ls (Or.inr (Or.inl ⟨v10150_, v10190_, c5_, ev10150_, k19_0_, c22_⟩)) hP hD hS (lv_sub hl [0, 1, 2] rfl)
    · have g7_ : rg (1) (1) v10190_ := rg_ne1 c22_ kr19_ (by decide) (by decide)
      refine lv_iconst (v := 1) hx hb dX11_isPlace_25 (by decide) ?_
      refine lv_goto (tgt := 30) hx hb dX11_isPlace_26 (by decide) ?_
      exact j30_ 1 _ _ ls ⟨(rg_w (rg_lit (by decide) : rg (1) (1) (1 : Int32)) (by decide) (by decide)), (Or.inr (Or.inl ⟨v10150_, v10190_, c5_, ev10150_, k19_0_, c22_, rfl⟩))⟩ hP hD hS (lv_sub hl [0, 1, 2] rfl)
def R_X11_isWalker_e (fknown_ : Nat → Int32) (w_ : Int32) (r : Int32) : Prop := (∃ (v10080_ : Int32) (v10120_ : Int32), v10080_ = fknown_ (4 : Int32).toNatClampNeg ∧ R_X11_within_e w_.toInt64 ((0 : Int64)) (((v10080_ - 1).toInt64)) v10120_ ∧ r = v10120_) ∨ False
set_option maxHeartbeats 4000000 in
set_option maxRecDepth 100000 in
theorem sf_X11_isWalker (l : Launch) (D : va_G) (cy : Nat → ClassId) (nm_ : Nat) (nknown_ : Nat) (ntelling_ : Nat) (nimages_ : Nat) (nisImage_ : Nat) (mthrown_ : Int32) (ntape_ : Nat) (mtaped_ : Int32) (mlength_ : Int32) (mhead_ : Int32) (mbegin_ : Int32) (mtoken_ : Int32) (mvalue_ : Int32) (mbad_ : Int32) (mbadPlace_ : Int32) (mfaultKind_ : Int32) (mfaultPlace_ : Int32) (mdeep_ : Int32) (mlawMany_ : Int32) (mlawAt_ : Int32) (nstack_ : Nat) (nasked_ : Nat) (mfell_ : Int32) (mfellIn_ : Int32) (naside_ : Nat) (mstate_ : Int32) (mlanded_ : Int32) (mwaitFalls_ : Int32) (mwaitWeight_ : Int32) (nfallsAfter_ : Nat) (nfalling_ : Nat) (ncomes_ : Nat) (ngoesOn_ : Nat) (nwayRow_ : Nat) (nmany_ : Nat) (nmanyThen_ : Nat) (mtoldLet_ : Int32) (ntSort_ : Nat) (ntMany_ : Nat) (nnumbers_ : Nat) (fknown_ : Nat → Int32) (w_ : Int32) (C_ : Int) (L_ : Int) (hb_ : Int) (ha_ : Int) (hc_ : Int) (hha_ : -2000000 ≤ ha_) (hhc_ : hc_ ≤ 4000000) (hhb_ : hb_ ≤ 1000000) (rmtaped_ : rg (0) (900) mtaped_) (rmlength_ : rg (0) (900) mlength_) (rmhead_ : rg (0) (900) mhead_) (rmbegin_ : rg (0) (900) mbegin_) (rfknown_ : KX C_ L_ ha_ hc_ hb_ fknown_) : Ci l yX11_isWalker cX11_isWalker 2 (some .boolean) { frames := 1, cells := 0, slots := 0, locals := 25 } D cy [.ref nm_, .int w_] [(nm_, .inr (11, [.ref nknown_, .ref ntelling_, .ref nimages_, .ref nisImage_, .int mthrown_, .ref ntape_, .int mtaped_, .int mlength_, .int mhead_, .int mbegin_, .int mtoken_, .int mvalue_, .int mbad_, .int mbadPlace_, .int mfaultKind_, .int mfaultPlace_, .int mdeep_, .int mlawMany_, .int mlawAt_, .ref nstack_, .ref nasked_, .int mfell_, .int mfellIn_, .ref naside_, .int mstate_, .int mlanded_, .int mwaitFalls_, .int mwaitWeight_, .ref nfallsAfter_, .ref nfalling_, .ref ncomes_, .ref ngoesOn_, .ref nwayRow_, .ref nmany_, .ref nmanyThen_, .int mtoldLet_, .ref ntSort_, .ref ntMany_, .ref nnumbers_])), (nknown_, .inl (cy 0, 2260, .inl (fknown_)))] (fun r W1 => R_X11_isWalker_e fknown_ w_ r ∧ W1 = [(nm_, .inr (11, [.ref nknown_, .ref ntelling_, .ref nimages_, .ref nisImage_, .int mthrown_, .ref ntape_, .int mtaped_, .int mlength_, .int mhead_, .int mbegin_, .int mtoken_, .int mvalue_, .int mbad_, .int mbadPlace_, .int mfaultKind_, .int mfaultPlace_, .int mdeep_, .int mlawMany_, .int mlawAt_, .ref nstack_, .ref nasked_, .int mfell_, .int mfellIn_, .ref naside_, .int mstate_, .int mlanded_, .int mwaitFalls_, .int mwaitWeight_, .ref nfallsAfter_, .ref nfalling_, .ref ncomes_, .ref ngoesOn_, .ref nwayRow_, .ref nmany_, .ref nmanyThen_, .int mtoldLet_, .ref ntSort_, .ref ntMany_, .ref nnumbers_])), (nknown_, .inl (cy 0, 2260, .inl (fknown_)))] ∧ rg (0) (1) r) := by
  refine Ci.of (by decide) (Nat.le_of_ble_eq_true rfl) ?_
  intro p e s m below meth c A ls hX hE hP hD hl
  obtain ⟨hx, hb, hr, hml, hown, htA, hlk⟩ := id hX
  have hK := hE.1
  have hS : va_S A s.heap s.heap [] := va_S.rf
  have hl : lv_has ls 2 [(0, .ref nm_), (1, .int w_)] := hl
  refine lv_iload_n hx hb dX11_isWalker_0 rfl (lv_at hl 1 rfl) ?_
  refine lv_i2l hx hb dX11_isWalker_1 rfl ?_
  have g1_ : rl (-2147483648) (2147483647) w_.toInt64 := rl_i2l (rg_any _)
  refine lv_lconst (v := 0) hx hb dX11_isWalker_2 (by decide) ?_
  refine lv_aload_n hx hb dX11_isWalker_3 rfl (lv_at hl 0 rfl) ?_
  refine va_get (ci := 11) (v := .ref nknown_) (C := RX11) (T := TX11) (N := 39) hx hb htA in_X11 hown hK hP 0 rfl rfl 0 (by decide) (htA _ wd_1354) (fun _ h => h) rfl dX11_isWalker_4 ?_
  refine lv_iconst (v := 4) hx hb dX11_isWalker_7 (by decide) ?_
  refine va_iald hx hb hK hP 1 0 rfl rfl (in_lit (by decide)) dX11_isWalker_8 ?_
  refine lv_topi (fun v10080_ ev10080_ => ?_)
  have g2_ : rg (0) (4) v10080_ := by rw [ev10080_]; exact KX_l kb_4 rfknown_ (rg_lit (by decide) : rg (4) (4) (4 : Int32)) (by decide) (by decide)
  refine lv_iconst (v := 1) hx hb dX11_isWalker_9 (by decide) ?_
  refine lv_isub hx hb dX11_isWalker_10 ?_
  have g3_ : rg (-1) (3) (v10080_ - 1) := rg_sub g2_ (rg_lit (by decide) : rg (1) (1) (1 : Int32)) (by decide) (by decide) (by decide) (by decide)
  refine lv_i2l hx hb dX11_isWalker_11 rfl ?_
  have g4_ : rl (-1) (3) ((v10080_ - 1).toInt64) := rl_i2l g3_
  refine kSi (As := [.long w_.toInt64, .long 0, .long ((v10080_ - 1).toInt64)]) (rest := []) (wr := [(nm_, .inr (11, [.ref nknown_, .ref ntelling_, .ref nimages_, .ref nisImage_, .int mthrown_, .ref ntape_, .int mtaped_, .int mlength_, .int mhead_, .int mbegin_, .int mtoken_, .int mvalue_, .int mbad_, .int mbadPlace_, .int mfaultKind_, .int mfaultPlace_, .int mdeep_, .int mlawMany_, .int mlawAt_, .ref nstack_, .ref nasked_, .int mfell_, .int mfellIn_, .ref naside_, .int mstate_, .int mlanded_, .int mwaitFalls_, .int mwaitWeight_, .ref nfallsAfter_, .ref nfalling_, .ref ncomes_, .ref ngoesOn_, .ref nwayRow_, .ref nmany_, .ref nmanyThen_, .int mtoldLet_, .ref ntSort_, .ref ntMany_, .ref nnumbers_])), (nknown_, .inl (cy 0, 2260, .inl (fknown_)))]) hX hE (sf_X11_within l D cy w_.toInt64 (0 : Int64) ((v10080_ - 1).toInt64) ) (cwSA 3 htA wd_1483 wd_1481 wd_10 wd_1482 (by decide +kernel) ⟨by decide, by decide⟩) hP hD hS [] [0, 1] rfl rfl (by decide +kernel) rfl hl.1 rfl (Nat.le_of_ble_eq_true rfl) dX11_isWalker_12 (by decide) (fun v10120_ W1 H locs hw hP hD hS => ?_)
  refine W.widen (k := 0) (n := 0) (by decide) (by decide) ?_
  obtain ⟨k12_0_, rfl, kr12_⟩ := hw
  have hP : va_P D vwCl [(nm_, .inr (11, [.ref nknown_, .ref ntelling_, .ref nimages_, .ref nisImage_, .int mthrown_, .ref ntape_, .int mtaped_, .int mlength_, .int mhead_, .int mbegin_, .int mtoken_, .int mvalue_, .int mbad_, .int mbadPlace_, .int mfaultKind_, .int mfaultPlace_, .int mdeep_, .int mlawMany_, .int mlawAt_, .ref nstack_, .ref nasked_, .int mfell_, .int mfellIn_, .ref naside_, .int mstate_, .int mlanded_, .int mwaitFalls_, .int mwaitWeight_, .ref nfallsAfter_, .ref nfalling_, .ref ncomes_, .ref ngoesOn_, .ref nwayRow_, .ref nmany_, .ref nmanyThen_, .int mtoldLet_, .ref ntSort_, .ref ntMany_, .ref nnumbers_])), (nknown_, .inl (cy 0, 2260, .inl (fknown_)))] H := hP
  have hD := va_ca hP hD
  exact rZ hX (nz_of kr12_) hE hP hD hS dX11_isWalker_15 (by decide) (by decide) ⟨(Or.inl ⟨v10080_, v10120_, ev10080_, k12_0_, rfl⟩), rfl, (rg_w kr12_ (by decide) (by decide))⟩
def R_X11_lyingIn_j4 (v10170_ : Int32) (frow_ : Nat → Int32) (v200400_ : Int32) (c_ : Int32) : Prop := (¬ v10170_ = (2 : Int32)) ∨ (∃ (v10270_ : Int32), v10170_ = (2 : Int32) ∧ v10270_ = frow_ (16 + v200400_).toNatClampNeg ∧ ¬ v10270_ = c_) ∨ False
def R_X11_lyingIn_j3 (v10170_ : Int32) (frow_ : Nat → Int32) (v200400_ : Int32) (c_ : Int32) (v203700_ : Int32) : Prop := (R_X11_lyingIn_j4 v10170_ frow_ v200400_ c_ ∧ v203700_ = (0 : Int32)) ∨ (∃ (v10270_ : Int32), v10170_ = (2 : Int32) ∧ v10270_ = frow_ (16 + v200400_).toNatClampNeg ∧ v10270_ = c_ ∧ v203700_ = (1 : Int32)) ∨ False
def R_X11_lyingIn_b1 (frow_ : Nat → Int32) (c_ : Int32) (uZ_ vZ_ : Int32 × Int32) : Prop := (∃ (v10070_ : Int32) (v10170_ : Int32) (v203700_ : Int32), v10070_ = frow_ (3 : Int32).toNatClampNeg ∧ ¬ (v10070_ ≤ uZ_.1) ∧ v10170_ = frow_ (8 + uZ_.1).toNatClampNeg ∧ R_X11_lyingIn_j3 v10170_ frow_ uZ_.1 c_ v203700_ ∧ vZ_ = (uZ_.1 + 1, uZ_.2 + v203700_)) ∨ False
def R_X11_lyingIn_e (frow_ : Nat → Int32) (c_ : Int32) (r : Int32) : Prop := (∃ (v200400_ : Int32) (v200401_ : Int32) (v10070_ : Int32), Itr (R_X11_lyingIn_b1 frow_ c_) (0, 0) (v200400_, v200401_) ∧ v10070_ = frow_ (3 : Int32).toNatClampNeg ∧ v10070_ ≤ v200400_ ∧ r = v200401_) ∨ False
set_option maxHeartbeats 4000000 in
set_option maxRecDepth 100000 in
theorem sf_X11_lyingIn (l : Launch) (D : va_G) (cy : Nat → ClassId) (nrow_ : Nat) (frow_ : Nat → Int32) (c_ : Int32) (rfrow_ : RB frow_) : Ci l yX11_lyingIn cX11_lyingIn 4 (some .int) { frames := 0, cells := 0, slots := 0, locals := 0 } D cy [.ref nrow_, .int c_] [(nrow_, .inl (cy 0, 2260, .inl (frow_)))] (fun r W1 => R_X11_lyingIn_e frow_ c_ r ∧ W1 = [(nrow_, .inl (cy 0, 2260, .inl (frow_)))]) := by
  refine Ci.of (by decide) (Nat.le_of_ble_eq_true rfl) ?_
  intro p e s m below meth c A ls hX hE hP hD hl
  obtain ⟨hx, hb, hr, hml, hown, htA, hlk⟩ := id hX
  have hK := hE.1
  have hS : va_S A s.heap s.heap [] := va_S.rf
  have hl : lv_has ls 4 [(0, .ref nrow_), (1, .int c_)] := hl
  refine lv_iconst (v := 0) hx hb dX11_lyingIn_0 (by decide) ?_
  refine lv_istore_n (lv' := [(2, .int 0), (0, .ref nrow_), (1, .int c_)]) hx hb dX11_lyingIn_1 rfl hl (by decide) rfl (fun ls hl => ?_)
  refine lv_iconst (v := 0) hx hb dX11_lyingIn_2 (by decide) ?_
  refine lv_istore_n (lv' := [(3, .int 0), (2, .int 0), (0, .ref nrow_), (1, .int c_)]) hx hb dX11_lyingIn_3 rfl hl (by decide) rfl (fun ls hl => ?_)
  refine loopT (τ := Int32 × Int32) (WS := fun i => [(nrow_, .inl (cy 0, 2260, .inl (frow_)))]) (LV := fun i => [(3, .int i.1), (2, .int i.2), (0, .ref nrow_), (1, .int c_)]) (fun i => (9 - i.1.toInt).toNat) (fun i => rg (0) (8) i.1 ∧ Itr (R_X11_lyingIn_b1 frow_ c_) (0, 0) (i.1, i.2)) ?_ (0, 0) ⟨(rg_w (rg_lit (by decide) : rg (0) (0) (0 : Int32)) (by decide) (by decide)), (Itr.rf _ _)⟩ hP hD hS (lv_sub hl [0, 1, 2, 3] rfl)
  intro i_ H locs ls hI ih4_ hP hD hS hl
  obtain ⟨v200400_, v200401_⟩ := i_
  have hI : rg (0) (8) v200400_ ∧ Itr (R_X11_lyingIn_b1 frow_ c_) (0, 0) (v200400_, v200401_) := hI
  obtain ⟨rv200400_, hR1_⟩ := hI
  have hP : va_P D vwCl [(nrow_, .inl (cy 0, 2260, .inl (frow_)))] H := hP
  have hD := va_ca hP hD
  have hl : lv_has ls 4 [(3, .int v200400_), (2, .int v200401_), (0, .ref nrow_), (1, .int c_)] := hl
  refine lv_iload_n hx hb dX11_lyingIn_4 rfl (lv_at hl 0 rfl) ?_
  refine lv_aload_n hx hb dX11_lyingIn_5 rfl (lv_at hl 2 rfl) ?_
  refine lv_iconst (v := 3) hx hb dX11_lyingIn_6 (by decide) ?_
  refine va_iald hx hb hK hP 0 0 rfl rfl (in_lit (by decide)) dX11_lyingIn_7 ?_
  refine lv_topi (fun v10070_ ev10070_ => ?_)
  have g1_ : rg (0) (8) v10070_ := by rw [ev10070_]; exact RB_l rfrow_ (rg_lit (by decide) : rg (3) (3) (3 : Int32))
  refine lv_icmp_ge (tgt := 45) hx hb dX11_lyingIn_8 (by decide) (fun c8_ => ?_) (fun c8_ => ?_)
  · refine lv_iload_n hx hb dX11_lyingIn_45 rfl (lv_at hl 1 rfl) ?_
    exact rI hX hE hP hD hS dX11_lyingIn_46 (by decide) (by decide) ⟨(Or.inl ⟨v200400_, v200401_, v10070_, hR1_, ev10070_, c8_, rfl⟩), rfl⟩
  · have g2_ : rg (0) (7) v200400_ := rg_lt1 (rg_nle c8_) rv200400_ g1_ (by decide)
    have g3_ : rg (1) (8) v10070_ := rg_lt2 (rg_nle c8_) rv200400_ g1_ (by decide)
    refine lv_iload_n hx hb dX11_lyingIn_11 rfl (lv_at hl 1 rfl) ?_
    refine lv_aload_n hx hb dX11_lyingIn_12 rfl (lv_at hl 2 rfl) ?_
    refine lv_bipush (v := 8) hx hb dX11_lyingIn_13 (by decide) ?_
    refine lv_iload_n hx hb dX11_lyingIn_15 rfl (lv_at hl 0 rfl) ?_
    refine lv_iadd hx hb dX11_lyingIn_16 ?_
    have g4_ : rg (8) (15) (8 + v200400_) := rg_add (rg_lit (by decide) : rg (8) (8) (8 : Int32)) g2_ (by decide) (by decide) (by decide) (by decide)
    refine va_iald hx hb hK hP 0 0 rfl rfl (rg_in g4_ (by decide) (by decide)) dX11_lyingIn_17 ?_
    refine lv_topi (fun v10170_ ev10170_ => ?_)
    refine lv_iconst (v := 2) hx hb dX11_lyingIn_18 (by decide) ?_
    refine joinT (D := D) (A := A) (pc := 37) (mL := 4) (τ := Int32) (WS := fun i => [(nrow_, .inl (cy 0, 2260, .inl (frow_)))]) (LV := fun i => [(3, .int v200400_), (2, .int v200401_), (0, .ref nrow_), (1, .int c_)]) (ST := fun i => [.int i, .int v200401_]) (cells := 0) (slots := 0) (fun i => rg (0) (1) i ∧ R_X11_lyingIn_j3 v10170_ frow_ v200400_ c_ i) (fun v203700_ H locs ls hI hP hD hS hl => ?_) (fun j37_ => ?_)
    · have hI : rg (0) (1) v203700_ ∧ R_X11_lyingIn_j3 v10170_ frow_ v200400_ c_ v203700_ := hI
      obtain ⟨rv203700_, hR3_⟩ := hI
      have hP : va_P D vwCl [(nrow_, .inl (cy 0, 2260, .inl (frow_)))] H := hP
      have hD := va_ca hP hD
      have hl : lv_has ls 4 [(3, .int v200400_), (2, .int v200401_), (0, .ref nrow_), (1, .int c_)] := hl
      refine lv_iadd hx hb dX11_lyingIn_37 ?_
      refine lv_istore_n (lv' := [(2, .int (v200401_ + v203700_)), (3, .int v200400_), (0, .ref nrow_), (1, .int c_)]) hx hb dX11_lyingIn_38 rfl hl (by decide) rfl (fun ls hl => ?_)
      refine lv_iinc (v := v200400_ + 1) (lv' := [(3, .int (v200400_ + 1)), (2, .int (v200401_ + v203700_)), (0, .ref nrow_), (1, .int c_)]) hx hb dX11_lyingIn_39 hl (k := 1) rfl rfl (by decide) rfl (fun ls hl => ?_)
      have g5_ : rg (1) (8) (v200400_ + 1) := rg_add g2_ (rg_lit (by decide) : rg (1) (1) (1 : Int32)) (by decide) (by decide) (by decide) (by decide)
      refine lv_goto (tgt := 4) hx hb dX11_lyingIn_42 (by decide) ?_
      exact ih4_ (v200400_ + 1, v200401_ + v203700_) _ _ ls ⟨(rg_w g5_ (by decide) (by decide)), (Itr.st hR1_ (Or.inl ⟨v10070_, v10170_, v203700_, ev10070_, c8_, ev10170_, hR3_, rfl⟩))⟩ (show (9 - (v200400_ + 1).toInt).toNat < (9 - v200400_.toInt).toNat from by rw [show (v200400_ + 1).toInt = v200400_.toInt + 1 from inc32 v200400_ (by have hq := (rv200400_).2; omega)]; have hq := (g2_).1; have hq2 := (g2_).2; omega) hP hD hS (lv_sub hl [0, 1, 2, 3] rfl)
    refine joinT (D := D) (A := A) (pc := 36) (mL := 4) (τ := Unit) (WS := fun i => [(nrow_, .inl (cy 0, 2260, .inl (frow_)))]) (LV := fun i => [(3, .int v200400_), (2, .int v200401_), (0, .ref nrow_), (1, .int c_)]) (ST := fun i => [.int v200401_]) (cells := 0) (slots := 0) (fun i => R_X11_lyingIn_j4 v10170_ frow_ v200400_ c_) (fun u0_ H locs ls hI hP hD hS hl => ?_) (fun j36_ => ?_)
    · have hI : R_X11_lyingIn_j4 v10170_ frow_ v200400_ c_ := hI
      have hR4_ := hI
      have hP : va_P D vwCl [(nrow_, .inl (cy 0, 2260, .inl (frow_)))] H := hP
      have hD := va_ca hP hD
      have hl : lv_has ls 4 [(3, .int v200400_), (2, .int v200401_), (0, .ref nrow_), (1, .int c_)] := hl
      refine lv_iconst (v := 0) hx hb dX11_lyingIn_36 (by decide) ?_
      exact j37_ 0 _ _ ls ⟨(rg_w (rg_lit (by decide) : rg (0) (0) (0 : Int32)) (by decide) (by decide)), (Or.inl ⟨hR4_, rfl⟩)⟩ hP hD hS (lv_sub hl [0, 1, 2, 3] rfl)
    refine lv_icmp_ne (tgt := 36) hx hb dX11_lyingIn_19 (by decide) (fun c19_ => ?_) (fun c19_ => ?_)
    · exact j36_ () _ _ ls (Or.inl c19_) hP hD hS (lv_sub hl [0, 1, 2, 3] rfl)
    · have g6_ : rg (2) (2) v10170_ := rg_eq c19_ (rg_lit (by decide) : rg (2) (2) (2 : Int32))
      refine lv_aload_n hx hb dX11_lyingIn_22 rfl (lv_at hl 2 rfl) ?_
      refine lv_bipush (v := 16) hx hb dX11_lyingIn_23 (by decide) ?_
      refine lv_iload_n hx hb dX11_lyingIn_25 rfl (lv_at hl 0 rfl) ?_
      refine lv_iadd hx hb dX11_lyingIn_26 ?_
      have g7_ : rg (16) (23) (16 + v200400_) := rg_add (rg_lit (by decide) : rg (16) (16) (16 : Int32)) g2_ (by decide) (by decide) (by decide) (by decide)
      refine va_iald hx hb hK hP 0 0 rfl rfl (rg_in g7_ (by decide) (by decide)) dX11_lyingIn_27 ?_
      refine lv_topi (fun v10270_ ev10270_ => ?_)
      refine lv_iload_n hx hb dX11_lyingIn_28 rfl (lv_at hl 3 rfl) ?_
      refine lv_icmp_ne (tgt := 36) hx hb dX11_lyingIn_29 (by decide) (fun c29_ => ?_) (fun c29_ => ?_)
      · exact j36_ () _ _ ls (Or.inr (Or.inl ⟨v10270_, c19_, ev10270_, c29_⟩)) hP hD hS (lv_sub hl [0, 1, 2, 3] rfl)
      · refine lv_iconst (v := 1) hx hb dX11_lyingIn_32 (by decide) ?_
        refine lv_goto (tgt := 37) hx hb dX11_lyingIn_33 (by decide) ?_
        exact j37_ 1 _ _ ls ⟨(rg_w (rg_lit (by decide) : rg (1) (1) (1 : Int32)) (by decide) (by decide)), (Or.inr (Or.inl ⟨v10270_, c19_, ev10270_, c29_, rfl⟩))⟩ hP hD hS (lv_sub hl [0, 1, 2, 3] rfl)
def R_X11_isFreeIn_j1 (v10030_ : Int32) (l_ : Int32) (frow_ : Nat → Int32) (c_ : Int32) : Prop := (v10030_ ≤ l_) ∨ (∃ (v10100_ : Int32), ¬ (v10030_ ≤ l_) ∧ R_X11_lyingIn_e frow_ c_ v10100_ ∧ ¬ (v10100_ ≤ l_)) ∨ False
def R_X11_isFreeIn_j4 (v10320_ : Int32) (frow_ : Nat → Int32) (v202000_ : Int32) (c_ : Int32) (l_ : Int32) : Prop := (¬ v10320_ = (1 : Int32)) ∨ (∃ (v10420_ : Int32), v10320_ = (1 : Int32) ∧ v10420_ = frow_ (16 + v202000_).toNatClampNeg ∧ ¬ v10420_ = c_) ∨ (∃ (v10420_ : Int32) (v10520_ : Int32), v10320_ = (1 : Int32) ∧ v10420_ = frow_ (16 + v202000_).toNatClampNeg ∧ v10420_ = c_ ∧ v10520_ = frow_ (24 + v202000_).toNatClampNeg ∧ ¬ v10520_ = l_) ∨ False
def R_X11_isFreeIn_b3 (frow_ : Nat → Int32) (c_ : Int32) (l_ : Int32) (uZ_ vZ_ : Int32) : Prop := (∃ (v10230_ : Int32) (v10320_ : Int32), v10230_ = frow_ (3 : Int32).toNatClampNeg ∧ ¬ (v10230_ ≤ uZ_) ∧ v10320_ = frow_ (8 + uZ_).toNatClampNeg ∧ R_X11_isFreeIn_j4 v10320_ frow_ uZ_ c_ l_ ∧ vZ_ = uZ_ + 1) ∨ False
def R_X11_isFreeIn_e (frow_ : Nat → Int32) (l_ : Int32) (c_ : Int32) (r : Int32) : Prop := (∃ (v10030_ : Int32), v10030_ = frow_ (2 : Int32).toNatClampNeg ∧ R_X11_isFreeIn_j1 v10030_ l_ frow_ c_ ∧ r = (0 : Int32)) ∨ (∃ (v10030_ : Int32) (v10100_ : Int32) (v202000_ : Int32) (v10230_ : Int32), v10030_ = frow_ (2 : Int32).toNatClampNeg ∧ ¬ (v10030_ ≤ l_) ∧ R_X11_lyingIn_e frow_ c_ v10100_ ∧ v10100_ ≤ l_ ∧ Itr (R_X11_isFreeIn_b3 frow_ c_ l_) 0 v202000_ ∧ v10230_ = frow_ (3 : Int32).toNatClampNeg ∧ v10230_ ≤ v202000_ ∧ r = (1 : Int32)) ∨ (∃ (v10030_ : Int32) (v10100_ : Int32) (v202000_ : Int32) (v10230_ : Int32) (v10320_ : Int32) (v10420_ : Int32) (v10520_ : Int32), v10030_ = frow_ (2 : Int32).toNatClampNeg ∧ ¬ (v10030_ ≤ l_) ∧ R_X11_lyingIn_e frow_ c_ v10100_ ∧ v10100_ ≤ l_ ∧ Itr (R_X11_isFreeIn_b3 frow_ c_ l_) 0 v202000_ ∧ v10230_ = frow_ (3 : Int32).toNatClampNeg ∧ ¬ (v10230_ ≤ v202000_) ∧ v10320_ = frow_ (8 + v202000_).toNatClampNeg ∧ v10320_ = (1 : Int32) ∧ v10420_ = frow_ (16 + v202000_).toNatClampNeg ∧ v10420_ = c_ ∧ v10520_ = frow_ (24 + v202000_).toNatClampNeg ∧ v10520_ = l_ ∧ r = (0 : Int32)) ∨ False
set_option maxHeartbeats 4000000 in
set_option maxRecDepth 100000 in
theorem sf_X11_isFreeIn (l : Launch) (D : va_G) (cy : Nat → ClassId) (nrow_ : Nat) (frow_ : Nat → Int32) (c_ : Int32) (l_ : Int32) (rfrow_ : RB frow_) : Ci l yX11_isFreeIn cX11_isFreeIn 4 (some .boolean) { frames := 1, cells := 0, slots := 0, locals := 23 } D cy [.ref nrow_, .int c_, .int l_] [(nrow_, .inl (cy 0, 2260, .inl (frow_)))] (fun r W1 => R_X11_isFreeIn_e frow_ l_ c_ r ∧ W1 = [(nrow_, .inl (cy 0, 2260, .inl (frow_)))] ∧ rg (0) (1) r) := by
  refine Ci.of (by decide) (Nat.le_of_ble_eq_true rfl) ?_
  intro p e s m below meth c A ls hX hE hP hD hl
  obtain ⟨hx, hb, hr, hml, hown, htA, hlk⟩ := id hX
  have hK := hE.1
  have hS : va_S A s.heap s.heap [] := va_S.rf
  have hl : lv_has ls 4 [(0, .ref nrow_), (1, .int c_), (2, .int l_)] := hl
  refine lv_iload_n hx hb dX11_isFreeIn_0 rfl (lv_at hl 2 rfl) ?_
  refine lv_aload_n hx hb dX11_isFreeIn_1 rfl (lv_at hl 0 rfl) ?_
  refine lv_iconst (v := 2) hx hb dX11_isFreeIn_2 (by decide) ?_
  refine va_iald hx hb hK hP 0 0 rfl rfl (in_lit (by decide)) dX11_isFreeIn_3 ?_
  refine lv_topi (fun v10030_ ev10030_ => ?_)
  refine joinT (D := D) (A := A) (pc := 16) (mL := 4) (τ := Unit) (WS := fun i => [(nrow_, .inl (cy 0, 2260, .inl (frow_)))]) (LV := fun i => [(0, .ref nrow_), (1, .int c_), (2, .int l_)]) (ST := fun i => []) (cells := 0) (slots := 0) (fun i => R_X11_isFreeIn_j1 v10030_ l_ frow_ c_) (fun u0_ H locs ls hI hP hD hS hl => ?_) (fun j16_ => ?_)
  · have hI : R_X11_isFreeIn_j1 v10030_ l_ frow_ c_ := hI
    have hR1_ := hI
    have hP : va_P D vwCl [(nrow_, .inl (cy 0, 2260, .inl (frow_)))] H := hP
    have hD := va_ca hP hD
    have hl : lv_has ls 4 [(0, .ref nrow_), (1, .int c_), (2, .int l_)] := hl
    refine lv_iconst (v := 0) hx hb dX11_isFreeIn_16 (by decide) ?_
    exact rZ hX (by decide) hE hP hD hS dX11_isFreeIn_17 (by decide) (by decide) ⟨(Or.inl ⟨v10030_, ev10030_, hR1_, rfl⟩), rfl, (rg_w (rg_lit (by decide) : rg (0) (0) (0 : Int32)) (by decide) (by decide))⟩
  refine lv_icmp_ge (tgt := 16) hx hb dX11_isFreeIn_4 (by decide) (fun c4_ => ?_) (fun c4_ => ?_)
  · exact j16_ () _ _ ls (Or.inl c4_) hP hD hS (lv_sub hl [0, 1, 2] rfl)
  · have g1_ : rg (-2147483648) (2147483646) l_ := rg_lt1 (rg_nle c4_) (rg_any _) (rg_any _) (by decide)
    have g2_ : rg (-2147483647) (2147483647) v10030_ := rg_lt2 (rg_nle c4_) (rg_any _) (rg_any _) (by decide)
    refine lv_iload_n hx hb dX11_isFreeIn_7 rfl (lv_at hl 2 rfl) ?_
    refine lv_aload_n hx hb dX11_isFreeIn_8 rfl (lv_at hl 0 rfl) ?_
    refine lv_iload_n hx hb dX11_isFreeIn_9 rfl (lv_at hl 1 rfl) ?_
    refine kSi (As := [.ref nrow_, .int c_]) (rest := [.int l_]) (wr := []) hX hE (sf_X11_lyingIn l D cy nrow_ frow_ c_ rfrow_) (cwSA 2 htA wd_1564 wd_1562 wd_10 wd_1563 (by decide +kernel) ⟨by decide, by decide⟩) hP hD hS [0] [] rfl rfl (by decide +kernel) rfl hl.1 rfl (Nat.le_of_ble_eq_true rfl) dX11_isFreeIn_10 (by decide) (fun v10100_ W1 H locs hw hP hD hS => ?_)
    refine W.widen (k := 0) (n := 0) (by decide) (by decide) ?_
    obtain ⟨k10_0_, rfl⟩ := hw
    have hP : va_P D vwCl [(nrow_, .inl (cy 0, 2260, .inl (frow_)))] H := hP
    have hD := va_ca hP hD
    refine lv_icmp_ge (tgt := 18) hx hb dX11_isFreeIn_13 (by decide) (fun c13_ => ?_) (fun c13_ => ?_)
    · have g3_ : rg (-2147483648) (2147483646) v10100_ := rg_le1 c13_ (rg_any _) g1_ (by decide)
      refine lv_iconst (v := 0) hx hb dX11_isFreeIn_18 (by decide) ?_
      refine lv_istore_n (lv' := [(3, .int 0), (0, .ref nrow_), (1, .int c_), (2, .int l_)]) hx hb dX11_isFreeIn_19 rfl hl (by decide) rfl (fun ls hl => ?_)
      refine loopT (τ := Int32) (WS := fun i => [(nrow_, .inl (cy 0, 2260, .inl (frow_)))]) (LV := fun i => [(3, .int i), (0, .ref nrow_), (1, .int c_), (2, .int l_)]) (fun i => (9 - i.toInt).toNat) (fun i => rg (0) (8) i ∧ Itr (R_X11_isFreeIn_b3 frow_ c_ l_) 0 i) ?_ 0 ⟨(rg_w (rg_lit (by decide) : rg (0) (0) (0 : Int32)) (by decide) (by decide)), (Itr.rf _ _)⟩ hP hD hS (lv_sub hl [0, 1, 2, 3] rfl)
      intro v202000_ H locs ls hI ih20_ hP hD hS hl
      have hI : rg (0) (8) v202000_ ∧ Itr (R_X11_isFreeIn_b3 frow_ c_ l_) 0 v202000_ := hI
      obtain ⟨rv202000_, hR3_⟩ := hI
      have hP : va_P D vwCl [(nrow_, .inl (cy 0, 2260, .inl (frow_)))] H := hP
      have hD := va_ca hP hD
      have hl : lv_has ls 4 [(3, .int v202000_), (0, .ref nrow_), (1, .int c_), (2, .int l_)] := hl
      refine lv_iload_n hx hb dX11_isFreeIn_20 rfl (lv_at hl 0 rfl) ?_
      refine lv_aload_n hx hb dX11_isFreeIn_21 rfl (lv_at hl 1 rfl) ?_
      refine lv_iconst (v := 3) hx hb dX11_isFreeIn_22 (by decide) ?_
      refine va_iald hx hb hK hP 0 0 rfl rfl (in_lit (by decide)) dX11_isFreeIn_23 ?_
      refine lv_topi (fun v10230_ ev10230_ => ?_)
      have g4_ : rg (0) (8) v10230_ := by rw [ev10230_]; exact RB_l rfrow_ (rg_lit (by decide) : rg (3) (3) (3 : Int32))
      refine lv_icmp_ge (tgt := 65) hx hb dX11_isFreeIn_24 (by decide) (fun c24_ => ?_) (fun c24_ => ?_)
      · refine lv_iconst (v := 1) hx hb dX11_isFreeIn_65 (by decide) ?_
        exact rZ hX (by decide) hE hP hD hS dX11_isFreeIn_66 (by decide) (by decide) ⟨(Or.inr (Or.inl ⟨v10030_, v10100_, v202000_, v10230_, ev10030_, c4_, k10_0_, c13_, hR3_, ev10230_, c24_, rfl⟩)), rfl, (rg_w (rg_lit (by decide) : rg (1) (1) (1 : Int32)) (by decide) (by decide))⟩
      · have g5_ : rg (0) (7) v202000_ := rg_lt1 (rg_nle c24_) rv202000_ g4_ (by decide)
        have g6_ : rg (1) (8) v10230_ := rg_lt2 (rg_nle c24_) rv202000_ g4_ (by decide)
        refine lv_aload_n hx hb dX11_isFreeIn_27 rfl (lv_at hl 1 rfl) ?_
        refine lv_bipush (v := 8) hx hb dX11_isFreeIn_28 (by decide) ?_
        refine lv_iload_n hx hb dX11_isFreeIn_30 rfl (lv_at hl 0 rfl) ?_
        refine lv_iadd hx hb dX11_isFreeIn_31 ?_
        have g7_ : rg (8) (15) (8 + v202000_) := rg_add (rg_lit (by decide) : rg (8) (8) (8 : Int32)) g5_ (by decide) (by decide) (by decide) (by decide)
        refine va_iald hx hb hK hP 0 0 rfl rfl (rg_in g7_ (by decide) (by decide)) dX11_isFreeIn_32 ?_
        refine lv_topi (fun v10320_ ev10320_ => ?_)
        refine lv_iconst (v := 1) hx hb dX11_isFreeIn_33 (by decide) ?_
        refine joinT (D := D) (A := A) (pc := 59) (mL := 4) (τ := Unit) (WS := fun i => [(nrow_, .inl (cy 0, 2260, .inl (frow_)))]) (LV := fun i => [(3, .int v202000_), (0, .ref nrow_), (1, .int c_), (2, .int l_)]) (ST := fun i => []) (cells := 0) (slots := 0) (fun i => R_X11_isFreeIn_j4 v10320_ frow_ v202000_ c_ l_) (fun u0_ H locs ls hI hP hD hS hl => ?_) (fun j59_ => ?_)
        · have hI : R_X11_isFreeIn_j4 v10320_ frow_ v202000_ c_ l_ := hI
          have hR4_ := hI
          have hP : va_P D vwCl [(nrow_, .inl (cy 0, 2260, .inl (frow_)))] H := hP
          have hD := va_ca hP hD
          have hl : lv_has ls 4 [(3, .int v202000_), (0, .ref nrow_), (1, .int c_), (2, .int l_)] := hl
          refine lv_iinc (v := v202000_ + 1) (lv' := [(3, .int (v202000_ + 1)), (0, .ref nrow_), (1, .int c_), (2, .int l_)]) hx hb dX11_isFreeIn_59 hl (k := 0) rfl rfl (by decide) rfl (fun ls hl => ?_)
          have g8_ : rg (1) (8) (v202000_ + 1) := rg_add g5_ (rg_lit (by decide) : rg (1) (1) (1 : Int32)) (by decide) (by decide) (by decide) (by decide)
          refine lv_goto (tgt := 20) hx hb dX11_isFreeIn_62 (by decide) ?_
          exact ih20_ (v202000_ + 1) _ _ ls ⟨(rg_w g8_ (by decide) (by decide)), (Itr.st hR3_ (Or.inl ⟨v10230_, v10320_, ev10230_, c24_, ev10320_, hR4_, rfl⟩))⟩ (show (9 - (v202000_ + 1).toInt).toNat < (9 - v202000_.toInt).toNat from by rw [show (v202000_ + 1).toInt = v202000_.toInt + 1 from inc32 v202000_ (by have hq := (rv202000_).2; omega)]; have hq := (g5_).1; have hq2 := (g5_).2; omega) hP hD hS (lv_sub hl [0, 1, 2, 3] rfl)
        refine lv_icmp_ne (tgt := 59) hx hb dX11_isFreeIn_34 (by decide) (fun c34_ => ?_) (fun c34_ => ?_)
        · exact j59_ () _ _ ls (Or.inl c34_) hP hD hS (lv_sub hl [0, 1, 2, 3] rfl)
        · have g9_ : rg (1) (1) v10320_ := rg_eq c34_ (rg_lit (by decide) : rg (1) (1) (1 : Int32))
          refine lv_aload_n hx hb dX11_isFreeIn_37 rfl (lv_at hl 1 rfl) ?_
          refine lv_bipush (v := 16) hx hb dX11_isFreeIn_38 (by decide) ?_
          refine lv_iload_n hx hb dX11_isFreeIn_40 rfl (lv_at hl 0 rfl) ?_
          refine lv_iadd hx hb dX11_isFreeIn_41 ?_
          have g10_ : rg (16) (23) (16 + v202000_) := rg_add (rg_lit (by decide) : rg (16) (16) (16 : Int32)) g5_ (by decide) (by decide) (by decide) (by decide)
          refine va_iald hx hb hK hP 0 0 rfl rfl (rg_in g10_ (by decide) (by decide)) dX11_isFreeIn_42 ?_
          refine lv_topi (fun v10420_ ev10420_ => ?_)
          refine lv_iload_n hx hb dX11_isFreeIn_43 rfl (lv_at hl 2 rfl) ?_
          refine lv_icmp_ne (tgt := 59) hx hb dX11_isFreeIn_44 (by decide) (fun c44_ => ?_) (fun c44_ => ?_)
          · exact j59_ () _ _ ls (Or.inr (Or.inl ⟨v10420_, c34_, ev10420_, c44_⟩)) hP hD hS (lv_sub hl [0, 1, 2, 3] rfl)
          · refine lv_aload_n hx hb dX11_isFreeIn_47 rfl (lv_at hl 1 rfl) ?_
            refine lv_bipush (v := 24) hx hb dX11_isFreeIn_48 (by decide) ?_
            refine lv_iload_n hx hb dX11_isFreeIn_50 rfl (lv_at hl 0 rfl) ?_
            refine lv_iadd hx hb dX11_isFreeIn_51 ?_
            have g11_ : rg (24) (31) (24 + v202000_) := rg_add (rg_lit (by decide) : rg (24) (24) (24 : Int32)) g5_ (by decide) (by decide) (by decide) (by decide)
            refine va_iald hx hb hK hP 0 0 rfl rfl (rg_in g11_ (by decide) (by decide)) dX11_isFreeIn_52 ?_
            refine lv_topi (fun v10520_ ev10520_ => ?_)
            refine lv_iload_n hx hb dX11_isFreeIn_53 rfl (lv_at hl 3 rfl) ?_
            refine lv_icmp_ne (tgt := 59) hx hb dX11_isFreeIn_54 (by decide) (fun c54_ => ?_) (fun c54_ => ?_)
            · exact j59_ () _ _ ls (Or.inr (Or.inr (Or.inl ⟨v10420_, v10520_, c34_, ev10420_, c44_, ev10520_, c54_⟩))) hP hD hS (lv_sub hl [0, 1, 2, 3] rfl)
            · have g12_ : rg (-2147483648) (2147483646) v10520_ := rg_eq c54_ g1_
              refine lv_iconst (v := 0) hx hb dX11_isFreeIn_57 (by decide) ?_
              exact rZ hX (by decide) hE hP hD hS dX11_isFreeIn_58 (by decide) (by decide) ⟨(Or.inr (Or.inr (Or.inl ⟨v10030_, v10100_, v202000_, v10230_, v10320_, v10420_, v10520_, ev10030_, c4_, k10_0_, c13_, hR3_, ev10230_, c24_, ev10320_, c34_, ev10420_, c44_, ev10520_, c54_, rfl⟩))), rfl, (rg_w (rg_lit (by decide) : rg (0) (0) (0 : Int32)) (by decide) (by decide))⟩
    · have g13_ : rg (-2147483647) (2147483647) v10100_ := rg_lt2 (rg_nle c13_) g1_ (rg_any _) (by decide)
      exact j16_ () _ _ ls (Or.inr (Or.inl ⟨v10100_, c4_, k10_0_, c13_⟩)) hP hD hS (lv_sub hl [0, 1, 2] rfl)
def R_X11_lying_e (fknown_ : Nat → Int32) (c_ : Int32) (r : Int32) : Prop := (∃ (v10050_ : Int32), R_X11_lyingIn_e fknown_ c_ v10050_ ∧ r = v10050_) ∨ False
set_option maxHeartbeats 4000000 in
set_option maxRecDepth 100000 in
theorem sf_X11_lying (l : Launch) (D : va_G) (cy : Nat → ClassId) (nm_ : Nat) (nknown_ : Nat) (ntelling_ : Nat) (nimages_ : Nat) (nisImage_ : Nat) (mthrown_ : Int32) (ntape_ : Nat) (mtaped_ : Int32) (mlength_ : Int32) (mhead_ : Int32) (mbegin_ : Int32) (mtoken_ : Int32) (mvalue_ : Int32) (mbad_ : Int32) (mbadPlace_ : Int32) (mfaultKind_ : Int32) (mfaultPlace_ : Int32) (mdeep_ : Int32) (mlawMany_ : Int32) (mlawAt_ : Int32) (nstack_ : Nat) (nasked_ : Nat) (mfell_ : Int32) (mfellIn_ : Int32) (naside_ : Nat) (mstate_ : Int32) (mlanded_ : Int32) (mwaitFalls_ : Int32) (mwaitWeight_ : Int32) (nfallsAfter_ : Nat) (nfalling_ : Nat) (ncomes_ : Nat) (ngoesOn_ : Nat) (nwayRow_ : Nat) (nmany_ : Nat) (nmanyThen_ : Nat) (mtoldLet_ : Int32) (ntSort_ : Nat) (ntMany_ : Nat) (nnumbers_ : Nat) (fknown_ : Nat → Int32) (c_ : Int32) (C_ : Int) (L_ : Int) (hb_ : Int) (ha_ : Int) (hc_ : Int) (hha_ : -2000000 ≤ ha_) (hhc_ : hc_ ≤ 4000000) (hhb_ : hb_ ≤ 1000000) (rmtaped_ : rg (0) (900) mtaped_) (rmlength_ : rg (0) (900) mlength_) (rmhead_ : rg (0) (900) mhead_) (rmbegin_ : rg (0) (900) mbegin_) (rfknown_ : KX C_ L_ ha_ hc_ hb_ fknown_) : Ci l yX11_lying cX11_lying 2 (some .int) { frames := 1, cells := 0, slots := 0, locals := 23 } D cy [.ref nm_, .int c_] [(nm_, .inr (11, [.ref nknown_, .ref ntelling_, .ref nimages_, .ref nisImage_, .int mthrown_, .ref ntape_, .int mtaped_, .int mlength_, .int mhead_, .int mbegin_, .int mtoken_, .int mvalue_, .int mbad_, .int mbadPlace_, .int mfaultKind_, .int mfaultPlace_, .int mdeep_, .int mlawMany_, .int mlawAt_, .ref nstack_, .ref nasked_, .int mfell_, .int mfellIn_, .ref naside_, .int mstate_, .int mlanded_, .int mwaitFalls_, .int mwaitWeight_, .ref nfallsAfter_, .ref nfalling_, .ref ncomes_, .ref ngoesOn_, .ref nwayRow_, .ref nmany_, .ref nmanyThen_, .int mtoldLet_, .ref ntSort_, .ref ntMany_, .ref nnumbers_])), (nknown_, .inl (cy 0, 2260, .inl (fknown_)))] (fun r W1 => R_X11_lying_e fknown_ c_ r ∧ W1 = [(nm_, .inr (11, [.ref nknown_, .ref ntelling_, .ref nimages_, .ref nisImage_, .int mthrown_, .ref ntape_, .int mtaped_, .int mlength_, .int mhead_, .int mbegin_, .int mtoken_, .int mvalue_, .int mbad_, .int mbadPlace_, .int mfaultKind_, .int mfaultPlace_, .int mdeep_, .int mlawMany_, .int mlawAt_, .ref nstack_, .ref nasked_, .int mfell_, .int mfellIn_, .ref naside_, .int mstate_, .int mlanded_, .int mwaitFalls_, .int mwaitWeight_, .ref nfallsAfter_, .ref nfalling_, .ref ncomes_, .ref ngoesOn_, .ref nwayRow_, .ref nmany_, .ref nmanyThen_, .int mtoldLet_, .ref ntSort_, .ref ntMany_, .ref nnumbers_])), (nknown_, .inl (cy 0, 2260, .inl (fknown_)))]) := by
  refine Ci.of (by decide) (Nat.le_of_ble_eq_true rfl) ?_
  intro p e s m below meth c A ls hX hE hP hD hl
  obtain ⟨hx, hb, hr, hml, hown, htA, hlk⟩ := id hX
  have hK := hE.1
  have hS : va_S A s.heap s.heap [] := va_S.rf
  have hl : lv_has ls 2 [(0, .ref nm_), (1, .int c_)] := hl
  refine lv_aload_n hx hb dX11_lying_0 rfl (lv_at hl 0 rfl) ?_
  refine va_get (ci := 11) (v := .ref nknown_) (C := RX11) (T := TX11) (N := 39) hx hb htA in_X11 hown hK hP 0 rfl rfl 0 (by decide) (htA _ wd_1354) (fun _ h => h) rfl dX11_lying_1 ?_
  refine lv_iload_n hx hb dX11_lying_4 rfl (lv_at hl 1 rfl) ?_
  refine kSi (As := [.ref nknown_, .int c_]) (rest := []) (wr := [(nm_, .inr (11, [.ref nknown_, .ref ntelling_, .ref nimages_, .ref nisImage_, .int mthrown_, .ref ntape_, .int mtaped_, .int mlength_, .int mhead_, .int mbegin_, .int mtoken_, .int mvalue_, .int mbad_, .int mbadPlace_, .int mfaultKind_, .int mfaultPlace_, .int mdeep_, .int mlawMany_, .int mlawAt_, .ref nstack_, .ref nasked_, .int mfell_, .int mfellIn_, .ref naside_, .int mstate_, .int mlanded_, .int mwaitFalls_, .int mwaitWeight_, .ref nfallsAfter_, .ref nfalling_, .ref ncomes_, .ref ngoesOn_, .ref nwayRow_, .ref nmany_, .ref nmanyThen_, .int mtoldLet_, .ref ntSort_, .ref ntMany_, .ref nnumbers_]))]) hX hE (sf_X11_lyingIn l D cy nknown_ fknown_ c_ (KX_rb rfknown_)) (cwSA 2 htA wd_1564 wd_1562 wd_10 wd_1563 (by decide +kernel) ⟨by decide, by decide⟩) hP hD hS [1] [0] rfl rfl (by decide +kernel) rfl hl.1 rfl (Nat.le_of_ble_eq_true rfl) dX11_lying_5 (by decide) (fun v10050_ W1 H locs hw hP hD hS => ?_)
  refine W.widen (k := 0) (n := 0) (by decide) (by decide) ?_
  obtain ⟨k5_0_, rfl⟩ := hw
  have hP : va_P D vwCl [(nm_, .inr (11, [.ref nknown_, .ref ntelling_, .ref nimages_, .ref nisImage_, .int mthrown_, .ref ntape_, .int mtaped_, .int mlength_, .int mhead_, .int mbegin_, .int mtoken_, .int mvalue_, .int mbad_, .int mbadPlace_, .int mfaultKind_, .int mfaultPlace_, .int mdeep_, .int mlawMany_, .int mlawAt_, .ref nstack_, .ref nasked_, .int mfell_, .int mfellIn_, .ref naside_, .int mstate_, .int mlanded_, .int mwaitFalls_, .int mwaitWeight_, .ref nfallsAfter_, .ref nfalling_, .ref ncomes_, .ref ngoesOn_, .ref nwayRow_, .ref nmany_, .ref nmanyThen_, .int mtoldLet_, .ref ntSort_, .ref ntMany_, .ref nnumbers_])), (nknown_, .inl (cy 0, 2260, .inl (fknown_)))] H := hP
  have hD := va_ca hP hD
  exact rI hX hE hP hD hS dX11_lying_8 (by decide) (by decide) ⟨(Or.inl ⟨v10050_, k5_0_, rfl⟩), rfl⟩
def R_X11_bound_e (v_ : Int64) (r : Int32) : Prop := (∃ (w10070_ : Int64) (w10100_ : Int64), R_J9_min_f86c9_e ((1000000 : Int64)) v_ w10070_ ∧ R_J9_max_f86c9_e (((-1000000) : Int64)) w10070_ w10100_ ∧ r = w10100_.toInt32) ∨ False
set_option maxHeartbeats 4000000 in
set_option maxRecDepth 100000 in
theorem sf_X11_bound (l : Launch) (D : va_G) (cy : Nat → ClassId) (v_ : Int64) : Ci l yX11_bound cX11_bound 2 (some .int) { frames := 1, cells := 0, slots := 0, locals := 23 } D cy [.long v_] [] (fun r W1 => R_X11_bound_e v_ r ∧ W1 = []) := by
  refine Ci.of (by decide) (Nat.le_of_ble_eq_true rfl) ?_
  intro p e s m below meth c A ls hX hE hP hD hl
  obtain ⟨hx, hb, hr, hml, hown, htA, hlk⟩ := id hX
  have hK := hE.1
  have hS : va_S A s.heap s.heap [] := va_S.rf
  have hl : lv_has ls 2 [(0, .long v_)] := hl
  refine lv_ldc2 hx hb hown (htA _ wd_1715) dX11_bound_0 ?_
  refine lv_ldc2 hx hb hown (htA _ wd_1716) dX11_bound_3 ?_
  refine lv_lload_n hx hb dX11_bound_6 rfl (lv_at hl 0 rfl) ?_
  refine kSl (As := [.long 1000000, .long v_]) (rest := [.long (-1000000)]) (wr := []) hX hE (sf_J9_min_f86c9 l D cy (1000000 : Int64) v_ ) (cwSA 2 htA wd_417 wd_1717 wd_19 wd_416 (by decide +kernel) ⟨by decide, by decide⟩) hP hD hS [] [] rfl rfl (by decide +kernel) rfl hl.1 rfl (Nat.le_of_ble_eq_true rfl) dX11_bound_7 (by decide) (fun w10070_ W1 H locs hw hP hD hS => ?_)
  refine W.widen (k := 0) (n := 0) (by decide) (by decide) ?_
  obtain ⟨k7_0_, rfl⟩ := hw
  have hP : va_P D vwCl [] H := hP
  have hD := va_ca hP hD
  refine kSl (As := [.long (-1000000), .long w10070_]) (rest := []) (wr := []) hX hE (sf_J9_max_f86c9 l D cy ((-1000000) : Int64) w10070_ ) (cwSA 2 htA wd_420 wd_1718 wd_19 wd_419 (by decide +kernel) ⟨by decide, by decide⟩) hP hD hS [] [] rfl rfl (by decide +kernel) rfl hl.1 rfl (Nat.le_of_ble_eq_true rfl) dX11_bound_10 (by decide) (fun w10100_ W1 H locs hw hP hD hS => ?_)
  refine W.widen (k := 0) (n := 0) (by decide) (by decide) ?_
  obtain ⟨k10_0_, rfl⟩ := hw
  have hP : va_P D vwCl [] H := hP
  have hD := va_ca hP hD
  refine lv_l2i hx hb dX11_bound_13 rfl ?_
  exact rI hX hE hP hD hS dX11_bound_14 (by decide) (by decide) ⟨(Or.inl ⟨w10070_, w10100_, k7_0_, k10_0_, rfl⟩), rfl⟩
def R_X11_done_j2 (a_ : Int64) (b_ : Int64) (v207600_ : Int32) : Prop := (¬ (lg_cmp a_ b_) = (0 : Int32) ∧ v207600_ = (0 : Int32)) ∨ ((lg_cmp a_ b_) = (0 : Int32) ∧ v207600_ = (1 : Int32)) ∨ False
def R_X11_done_j3 (a_ : Int64) (b_ : Int64) (v208800_ : Int32) : Prop := ((0 : Int32) ≤ (lg_cmp a_ b_) ∧ v208800_ = (0 : Int32)) ∨ (¬ ((0 : Int32) ≤ (lg_cmp a_ b_)) ∧ v208800_ = (1 : Int32)) ∨ False
def R_X11_done_j4 (a_ : Int64) (b_ : Int64) (v210000_ : Int32) : Prop := ((lg_cmp a_ b_) ≤ (0 : Int32) ∧ v210000_ = (0 : Int32)) ∨ (¬ ((lg_cmp a_ b_) ≤ (0 : Int32)) ∧ v210000_ = (1 : Int32)) ∨ False
def R_X11_done_j5 (a_ : Int64) (b_ : Int64) (v211400_ : Int32) : Prop := ((lg_cmp (a_ + b_) 1) ≤ (0 : Int32) ∧ v211400_ = (0 : Int32)) ∨ (¬ ((lg_cmp (a_ + b_) 1) ≤ (0 : Int32)) ∧ v211400_ = (1 : Int32)) ∨ False
def R_X11_done_j6 (a_ : Int64) (b_ : Int64) (v212800_ : Int32) : Prop := ((lg_cmp (a_ + b_) 0) ≤ (0 : Int32) ∧ v212800_ = (0 : Int32)) ∨ (¬ ((lg_cmp (a_ + b_) 0) ≤ (0 : Int32)) ∧ v212800_ = (1 : Int32)) ∨ False
def R_X11_done_e (s_ : Int32) (a_ : Int64) (b_ : Int64) (r : Int32) : Prop := (∃ (v10470_ : Int32), (10 : Int32) = s_ ∧ R_X11_bound_e ((a_ + b_)) v10470_ ∧ r = v10470_) ∨ (∃ (v10540_ : Int32), (11 : Int32) = s_ ∧ R_X11_bound_e ((a_ - b_)) v10540_ ∧ r = v10540_) ∨ (∃ (v10610_ : Int32), (12 : Int32) = s_ ∧ R_X11_bound_e ((a_ * b_)) v10610_ ∧ r = v10610_) ∨ (∃ (v207600_ : Int32), (13 : Int32) = s_ ∧ R_X11_done_j2 a_ b_ v207600_ ∧ r = v207600_) ∨ (∃ (v208800_ : Int32), (14 : Int32) = s_ ∧ R_X11_done_j3 a_ b_ v208800_ ∧ r = v208800_) ∨ (∃ (v210000_ : Int32), (15 : Int32) = s_ ∧ R_X11_done_j4 a_ b_ v210000_ ∧ r = v210000_) ∨ (∃ (v211400_ : Int32), (16 : Int32) = s_ ∧ R_X11_done_j5 a_ b_ v211400_ ∧ r = v211400_) ∨ (∃ (sw1_ : Int32) (v212800_ : Int32), sw1_ = s_ ∧ (sw1_.toInt < 10 ∨ 16 < sw1_.toInt) ∧ R_X11_done_j6 a_ b_ v212800_ ∧ r = v212800_) ∨ False
set_option maxHeartbeats 4000000 in
set_option maxRecDepth 100000 in
theorem sf_X11_done (l : Launch) (D : va_G) (cy : Nat → ClassId) (s_ : Int32) (a_ : Int64) (b_ : Int64) : Ci l yX11_done cX11_done 5 (some .int) { frames := 2, cells := 0, slots := 0, locals := 44 } D cy [.int s_, .long a_, .long b_] [] (fun r W1 => R_X11_done_e s_ a_ b_ r ∧ W1 = []) := by
  refine Ci.of (by decide) (Nat.le_of_ble_eq_true rfl) ?_
  intro p e s m below meth c A ls hX hE hP hD hl
  obtain ⟨hx, hb, hr, hml, hown, htA, hlk⟩ := id hX
  have hK := hE.1
  have hS : va_S A s.heap s.heap [] := va_S.rf
  have hl : lv_has ls 5 [(0, .int s_), (1, .long a_), (3, .long b_)] := hl
  refine lv_iload_n hx hb dX11_done_0 rfl (lv_at hl 0 rfl) ?_
  refine lv_topi (fun sw1_ esw1_ => ?_)
  rcases sw_10_16 sw1_ with rfl | rfl | rfl | rfl | rfl | rfl | rfl | c1_
  · refine lv_tableIn (tgt := 44) hx hb dX11_done_1 (by decide) (by decide) rfl (by decide) ?_
    have g1_ : rg (10) (10) s_ := rg_eq esw1_.symm (rg_lit (by decide) : rg (10) (10) (10 : Int32))
    refine lv_lload_n hx hb dX11_done_44 rfl (lv_at hl 1 rfl) ?_
    refine lv_lload_n hx hb dX11_done_45 rfl (lv_at hl 2 rfl) ?_
    refine lv_ladd hx hb dX11_done_46 ?_
    refine kSi (As := [.long (a_ + b_)]) (rest := []) (wr := []) hX hE (sf_X11_bound l D cy (a_ + b_) ) (cwSA 1 htA wd_1714 wd_1712 wd_10 wd_1713 (by decide +kernel) ⟨by decide, by decide⟩) hP hD hS [] [] rfl rfl (by decide +kernel) rfl hl.1 rfl (Nat.le_of_ble_eq_true rfl) dX11_done_47 (by decide) (fun v10470_ W1 H locs hw hP hD hS => ?_)
    refine W.widen (k := 0) (n := 0) (by decide) (by decide) ?_
    obtain ⟨k47_0_, rfl⟩ := hw
    have hP : va_P D vwCl [] H := hP
    have hD := va_ca hP hD
    exact rI hX hE hP hD hS dX11_done_50 (by decide) (by decide) ⟨(Or.inl ⟨v10470_, esw1_, k47_0_, rfl⟩), rfl⟩
  · refine lv_tableIn (tgt := 51) hx hb dX11_done_1 (by decide) (by decide) rfl (by decide) ?_
    have g2_ : rg (11) (11) s_ := rg_eq esw1_.symm (rg_lit (by decide) : rg (11) (11) (11 : Int32))
    refine lv_lload_n hx hb dX11_done_51 rfl (lv_at hl 1 rfl) ?_
    refine lv_lload_n hx hb dX11_done_52 rfl (lv_at hl 2 rfl) ?_
    refine lv_lsub hx hb dX11_done_53 ?_
    refine kSi (As := [.long (a_ - b_)]) (rest := []) (wr := []) hX hE (sf_X11_bound l D cy (a_ - b_) ) (cwSA 1 htA wd_1714 wd_1712 wd_10 wd_1713 (by decide +kernel) ⟨by decide, by decide⟩) hP hD hS [] [] rfl rfl (by decide +kernel) rfl hl.1 rfl (Nat.le_of_ble_eq_true rfl) dX11_done_54 (by decide) (fun v10540_ W1 H locs hw hP hD hS => ?_)
    refine W.widen (k := 0) (n := 0) (by decide) (by decide) ?_
    obtain ⟨k54_0_, rfl⟩ := hw
    have hP : va_P D vwCl [] H := hP
    have hD := va_ca hP hD
    exact rI hX hE hP hD hS dX11_done_57 (by decide) (by decide) ⟨(Or.inr (Or.inl ⟨v10540_, esw1_, k54_0_, rfl⟩)), rfl⟩
  · refine lv_tableIn (tgt := 58) hx hb dX11_done_1 (by decide) (by decide) rfl (by decide) ?_
    have g3_ : rg (12) (12) s_ := rg_eq esw1_.symm (rg_lit (by decide) : rg (12) (12) (12 : Int32))
    refine lv_lload_n hx hb dX11_done_58 rfl (lv_at hl 1 rfl) ?_
    refine lv_lload_n hx hb dX11_done_59 rfl (lv_at hl 2 rfl) ?_
    refine lv_lmul hx hb dX11_done_60 ?_
    refine kSi (As := [.long (a_ * b_)]) (rest := []) (wr := []) hX hE (sf_X11_bound l D cy (a_ * b_) ) (cwSA 1 htA wd_1714 wd_1712 wd_10 wd_1713 (by decide +kernel) ⟨by decide, by decide⟩) hP hD hS [] [] rfl rfl (by decide +kernel) rfl hl.1 rfl (Nat.le_of_ble_eq_true rfl) dX11_done_61 (by decide) (fun v10610_ W1 H locs hw hP hD hS => ?_)
    refine W.widen (k := 0) (n := 0) (by decide) (by decide) ?_
    obtain ⟨k61_0_, rfl⟩ := hw
    have hP : va_P D vwCl [] H := hP
    have hD := va_ca hP hD
    exact rI hX hE hP hD hS dX11_done_64 (by decide) (by decide) ⟨(Or.inr (Or.inr (Or.inl ⟨v10610_, esw1_, k61_0_, rfl⟩))), rfl⟩
  · refine lv_tableIn (tgt := 65) hx hb dX11_done_1 (by decide) (by decide) rfl (by decide) ?_
    have g4_ : rg (13) (13) s_ := rg_eq esw1_.symm (rg_lit (by decide) : rg (13) (13) (13 : Int32))
    refine lv_lload_n hx hb dX11_done_65 rfl (lv_at hl 1 rfl) ?_
    refine lv_lload_n hx hb dX11_done_66 rfl (lv_at hl 2 rfl) ?_
    refine W.lcmp hx hb dX11_done_67 ?_
    refine joinT (D := D) (A := A) (pc := 76) (mL := 5) (τ := Int32) (WS := fun i => []) (LV := fun i => [(0, .int s_), (1, .long a_), (3, .long b_)]) (ST := fun i => [.int i]) (cells := 0) (slots := 0) (fun i => rg (0) (1) i ∧ R_X11_done_j2 a_ b_ i) (fun v207600_ H locs ls hI hP hD hS hl => ?_) (fun j76_ => ?_)
    · have hI : rg (0) (1) v207600_ ∧ R_X11_done_j2 a_ b_ v207600_ := hI
      obtain ⟨rv207600_, hR2_⟩ := hI
      have hP : va_P D vwCl [] H := hP
      have hD := va_ca hP hD
      have hl : lv_has ls 5 [(0, .int s_), (1, .long a_), (3, .long b_)] := hl
      exact rI hX hE hP hD hS dX11_done_76 (by decide) (by decide) ⟨(Or.inr (Or.inr (Or.inr (Or.inl ⟨v207600_, esw1_, hR2_, rfl⟩)))), rfl⟩
    refine lv_if_ne (tgt := 75) hx hb dX11_done_68 (by decide) (fun c68_ => ?_) (fun c68_ => ?_)
    · refine lv_iconst (v := 0) hx hb dX11_done_75 (by decide) ?_
      exact j76_ 0 _ _ ls ⟨(rg_w (rg_lit (by decide) : rg (0) (0) (0 : Int32)) (by decide) (by decide)), (Or.inl ⟨c68_, rfl⟩)⟩ hP hD hS (lv_sub hl [0, 1, 2] rfl)
    · refine lv_iconst (v := 1) hx hb dX11_done_71 (by decide) ?_
      refine lv_goto (tgt := 76) hx hb dX11_done_72 (by decide) ?_
      exact j76_ 1 _ _ ls ⟨(rg_w (rg_lit (by decide) : rg (1) (1) (1 : Int32)) (by decide) (by decide)), (Or.inr (Or.inl ⟨c68_, rfl⟩))⟩ hP hD hS (lv_sub hl [0, 1, 2] rfl)
  · refine lv_tableIn (tgt := 77) hx hb dX11_done_1 (by decide) (by decide) rfl (by decide) ?_
    have g5_ : rg (14) (14) s_ := rg_eq esw1_.symm (rg_lit (by decide) : rg (14) (14) (14 : Int32))
    refine lv_lload_n hx hb dX11_done_77 rfl (lv_at hl 1 rfl) ?_
    refine lv_lload_n hx hb dX11_done_78 rfl (lv_at hl 2 rfl) ?_
    refine W.lcmp hx hb dX11_done_79 ?_
    refine joinT (D := D) (A := A) (pc := 88) (mL := 5) (τ := Int32) (WS := fun i => []) (LV := fun i => [(0, .int s_), (1, .long a_), (3, .long b_)]) (ST := fun i => [.int i]) (cells := 0) (slots := 0) (fun i => rg (0) (1) i ∧ R_X11_done_j3 a_ b_ i) (fun v208800_ H locs ls hI hP hD hS hl => ?_) (fun j88_ => ?_)
    · have hI : rg (0) (1) v208800_ ∧ R_X11_done_j3 a_ b_ v208800_ := hI
      obtain ⟨rv208800_, hR3_⟩ := hI
      have hP : va_P D vwCl [] H := hP
      have hD := va_ca hP hD
      have hl : lv_has ls 5 [(0, .int s_), (1, .long a_), (3, .long b_)] := hl
      exact rI hX hE hP hD hS dX11_done_88 (by decide) (by decide) ⟨(Or.inr (Or.inr (Or.inr (Or.inr (Or.inl ⟨v208800_, esw1_, hR3_, rfl⟩))))), rfl⟩
    refine lv_if_ge (tgt := 87) hx hb dX11_done_80 (by decide) (fun c80_ => ?_) (fun c80_ => ?_)
    · refine lv_iconst (v := 0) hx hb dX11_done_87 (by decide) ?_
      exact j88_ 0 _ _ ls ⟨(rg_w (rg_lit (by decide) : rg (0) (0) (0 : Int32)) (by decide) (by decide)), (Or.inl ⟨c80_, rfl⟩)⟩ hP hD hS (lv_sub hl [0, 1, 2] rfl)
    · have g6_ : rl (-9223372036854775808) (9223372036854775806) a_ := rl_lt1 (rl_nle (fun q9 => c80_ ((lg_cmp_ge _ _).mpr q9))) (rl_any _) (rl_any _) (by decide)
      have g7_ : rl (-9223372036854775807) (9223372036854775807) b_ := rl_lt2 (rl_nle (fun q9 => c80_ ((lg_cmp_ge _ _).mpr q9))) (rl_any _) (rl_any _) (by decide)
      refine lv_iconst (v := 1) hx hb dX11_done_83 (by decide) ?_
      refine lv_goto (tgt := 88) hx hb dX11_done_84 (by decide) ?_
      exact j88_ 1 _ _ ls ⟨(rg_w (rg_lit (by decide) : rg (1) (1) (1 : Int32)) (by decide) (by decide)), (Or.inr (Or.inl ⟨c80_, rfl⟩))⟩ hP hD hS (lv_sub hl [0, 1, 2] rfl)
  · refine lv_tableIn (tgt := 89) hx hb dX11_done_1 (by decide) (by decide) rfl (by decide) ?_
    have g8_ : rg (15) (15) s_ := rg_eq esw1_.symm (rg_lit (by decide) : rg (15) (15) (15 : Int32))
    refine lv_lload_n hx hb dX11_done_89 rfl (lv_at hl 1 rfl) ?_
    refine lv_lload_n hx hb dX11_done_90 rfl (lv_at hl 2 rfl) ?_
    refine W.lcmp hx hb dX11_done_91 ?_
    refine joinT (D := D) (A := A) (pc := 100) (mL := 5) (τ := Int32) (WS := fun i => []) (LV := fun i => [(0, .int s_), (1, .long a_), (3, .long b_)]) (ST := fun i => [.int i]) (cells := 0) (slots := 0) (fun i => rg (0) (1) i ∧ R_X11_done_j4 a_ b_ i) (fun v210000_ H locs ls hI hP hD hS hl => ?_) (fun j100_ => ?_)
    · have hI : rg (0) (1) v210000_ ∧ R_X11_done_j4 a_ b_ v210000_ := hI
      obtain ⟨rv210000_, hR4_⟩ := hI
      have hP : va_P D vwCl [] H := hP
      have hD := va_ca hP hD
      have hl : lv_has ls 5 [(0, .int s_), (1, .long a_), (3, .long b_)] := hl
      exact rI hX hE hP hD hS dX11_done_100 (by decide) (by decide) ⟨(Or.inr (Or.inr (Or.inr (Or.inr (Or.inr (Or.inl ⟨v210000_, esw1_, hR4_, rfl⟩)))))), rfl⟩
    refine lv_if_le (tgt := 99) hx hb dX11_done_92 (by decide) (fun c92_ => ?_) (fun c92_ => ?_)
    · refine lv_iconst (v := 0) hx hb dX11_done_99 (by decide) ?_
      exact j100_ 0 _ _ ls ⟨(rg_w (rg_lit (by decide) : rg (0) (0) (0 : Int32)) (by decide) (by decide)), (Or.inl ⟨c92_, rfl⟩)⟩ hP hD hS (lv_sub hl [0, 1, 2] rfl)
    · have g9_ : rl (-9223372036854775808) (9223372036854775806) b_ := rl_lt1 (rl_nle (fun q9 => c92_ ((lg_cmp_le _ _).mpr q9))) (rl_any _) (rl_any _) (by decide)
      have g10_ : rl (-9223372036854775807) (9223372036854775807) a_ := rl_lt2 (rl_nle (fun q9 => c92_ ((lg_cmp_le _ _).mpr q9))) (rl_any _) (rl_any _) (by decide)
      refine lv_iconst (v := 1) hx hb dX11_done_95 (by decide) ?_
      refine lv_goto (tgt := 100) hx hb dX11_done_96 (by decide) ?_
      exact j100_ 1 _ _ ls ⟨(rg_w (rg_lit (by decide) : rg (1) (1) (1 : Int32)) (by decide) (by decide)), (Or.inr (Or.inl ⟨c92_, rfl⟩))⟩ hP hD hS (lv_sub hl [0, 1, 2] rfl)
  · refine lv_tableIn (tgt := 101) hx hb dX11_done_1 (by decide) (by decide) rfl (by decide) ?_
    have g11_ : rg (16) (16) s_ := rg_eq esw1_.symm (rg_lit (by decide) : rg (16) (16) (16 : Int32))
    refine lv_lload_n hx hb dX11_done_101 rfl (lv_at hl 1 rfl) ?_
    refine lv_lload_n hx hb dX11_done_102 rfl (lv_at hl 2 rfl) ?_
    refine lv_ladd hx hb dX11_done_103 ?_
    refine lv_lconst (v := 1) hx hb dX11_done_104 (by decide) ?_
    refine W.lcmp hx hb dX11_done_105 ?_
    refine joinT (D := D) (A := A) (pc := 114) (mL := 5) (τ := Int32) (WS := fun i => []) (LV := fun i => [(0, .int s_), (1, .long a_), (3, .long b_)]) (ST := fun i => [.int i]) (cells := 0) (slots := 0) (fun i => rg (0) (1) i ∧ R_X11_done_j5 a_ b_ i) (fun v211400_ H locs ls hI hP hD hS hl => ?_) (fun j114_ => ?_)
    · have hI : rg (0) (1) v211400_ ∧ R_X11_done_j5 a_ b_ v211400_ := hI
      obtain ⟨rv211400_, hR5_⟩ := hI
      have hP : va_P D vwCl [] H := hP
      have hD := va_ca hP hD
      have hl : lv_has ls 5 [(0, .int s_), (1, .long a_), (3, .long b_)] := hl
      exact rI hX hE hP hD hS dX11_done_114 (by decide) (by decide) ⟨(Or.inr (Or.inr (Or.inr (Or.inr (Or.inr (Or.inr (Or.inl ⟨v211400_, esw1_, hR5_, rfl⟩))))))), rfl⟩
    refine lv_if_le (tgt := 113) hx hb dX11_done_106 (by decide) (fun c106_ => ?_) (fun c106_ => ?_)
    · have g12_ : rl (-9223372036854775808) (1) (a_ + b_) := rl_le1 ((lg_cmp_le _ _).mp c106_) (rl_any _) (rl_lit (by decide) : rl (1) (1) (1 : Int64)) (by decide)
      refine lv_iconst (v := 0) hx hb dX11_done_113 (by decide) ?_
      exact j114_ 0 _ _ ls ⟨(rg_w (rg_lit (by decide) : rg (0) (0) (0 : Int32)) (by decide) (by decide)), (Or.inl ⟨c106_, rfl⟩)⟩ hP hD hS (lv_sub hl [0, 1, 2] rfl)
    · have g13_ : rl (2) (9223372036854775807) (a_ + b_) := rl_lt2 (rl_nle (fun q9 => c106_ ((lg_cmp_le _ _).mpr q9))) (rl_lit (by decide) : rl (1) (1) (1 : Int64)) (rl_any _) (by decide)
      refine lv_iconst (v := 1) hx hb dX11_done_109 (by decide) ?_
      refine lv_goto (tgt := 114) hx hb dX11_done_110 (by decide) ?_
      exact j114_ 1 _ _ ls ⟨(rg_w (rg_lit (by decide) : rg (1) (1) (1 : Int32)) (by decide) (by decide)), (Or.inr (Or.inl ⟨c106_, rfl⟩))⟩ hP hD hS (lv_sub hl [0, 1, 2] rfl)
  · refine lv_tableOut (tgt := 115) hx hb dX11_done_1 c1_ (by decide) ?_
    refine lv_lload_n hx hb dX11_done_115 rfl (lv_at hl 1 rfl) ?_
    refine lv_lload_n hx hb dX11_done_116 rfl (lv_at hl 2 rfl) ?_
    refine lv_ladd hx hb dX11_done_117 ?_
    refine lv_lconst (v := 0) hx hb dX11_done_118 (by decide) ?_
    refine W.lcmp hx hb dX11_done_119 ?_
    refine joinT (D := D) (A := A) (pc := 128) (mL := 5) (τ := Int32) (WS := fun i => []) (LV := fun i => [(0, .int s_), (1, .long a_), (3, .long b_)]) (ST := fun i => [.int i]) (cells := 0) (slots := 0) (fun i => rg (0) (1) i ∧ R_X11_done_j6 a_ b_ i) (fun v212800_ H locs ls hI hP hD hS hl => ?_) (fun j128_ => ?_)
    · have hI : rg (0) (1) v212800_ ∧ R_X11_done_j6 a_ b_ v212800_ := hI
      obtain ⟨rv212800_, hR6_⟩ := hI
      have hP : va_P D vwCl [] H := hP
      have hD := va_ca hP hD
      have hl : lv_has ls 5 [(0, .int s_), (1, .long a_), (3, .long b_)] := hl
      exact rI hX hE hP hD hS dX11_done_128 (by decide) (by decide) ⟨(Or.inr (Or.inr (Or.inr (Or.inr (Or.inr (Or.inr (Or.inr (Or.inl ⟨sw1_, v212800_, esw1_, c1_, hR6_, rfl⟩)))))))), rfl⟩
    refine lv_if_le (tgt := 127) hx hb dX11_done_120 (by decide) (fun c120_ => ?_) (fun c120_ => ?_)
    · have g14_ : rl (-9223372036854775808) (0) (a_ + b_) := rl_le1 ((lg_cmp_le _ _).mp c120_) (rl_any _) (rl_lit (by decide) : rl (0) (0) (0 : Int64)) (by decide)
      refine lv_iconst (v := 0) hx hb dX11_done_127 (by decide) ?_
      exact j128_ 0 _ _ ls ⟨(rg_w (rg_lit (by decide) : rg (0) (0) (0 : Int32)) (by decide) (by decide)), (Or.inl ⟨c120_, rfl⟩)⟩ hP hD hS (lv_sub hl [0, 1, 2] rfl)
    · have g15_ : rl (1) (9223372036854775807) (a_ + b_) := rl_lt2 (rl_nle (fun q9 => c120_ ((lg_cmp_le _ _).mpr q9))) (rl_lit (by decide) : rl (0) (0) (0 : Int64)) (rl_any _) (by decide)
      refine lv_iconst (v := 1) hx hb dX11_done_123 (by decide) ?_
      refine lv_goto (tgt := 128) hx hb dX11_done_124 (by decide) ?_
      exact j128_ 1 _ _ ls ⟨(rg_w (rg_lit (by decide) : rg (1) (1) (1 : Int32)) (by decide) (by decide)), (Or.inr (Or.inl ⟨c120_, rfl⟩))⟩ hP hD hS (lv_sub hl [0, 1, 2] rfl)
def R_X11_hangsIn_j3 (v10030_ : Int32) (fknown_ : Nat → Int32) (t_ : Int32) (c_ : Int32) : Prop := (v10030_ = (0 : Int32)) ∨ (∃ (v10170_ : Int32), ¬ (v10030_ = (0 : Int32)) ∧ v10170_ = fknown_ (16 + t_).toNatClampNeg ∧ ¬ v10170_ = c_) ∨ False
def R_X11_hangsIn_j1 (v10030_ : Int32) (fknown_ : Nat → Int32) (t_ : Int32) (c_ : Int32) (v202700_ : Int32) : Prop := (R_X11_hangsIn_j3 v10030_ fknown_ t_ c_ ∧ v202700_ = (0 : Int32)) ∨ (∃ (v10170_ : Int32), ¬ (v10030_ = (0 : Int32)) ∧ v10170_ = fknown_ (16 + t_).toNatClampNeg ∧ v10170_ = c_ ∧ v202700_ = (1 : Int32)) ∨ False
def R_X11_hangsIn_e (fknown_ : Nat → Int32) (t_ : Int32) (c_ : Int32) (r : Int32) : Prop := (∃ (v10030_ : Int32) (v202700_ : Int32), R_X11_is_e fknown_ t_ ((1 : Int32)) v10030_ ∧ R_X11_hangsIn_j1 v10030_ fknown_ t_ c_ v202700_ ∧ r = v202700_) ∨ False
set_option maxHeartbeats 4000000 in
set_option maxRecDepth 100000 in
theorem sf_X11_hangsIn (l : Launch) (D : va_G) (cy : Nat → ClassId) (nm_ : Nat) (nknown_ : Nat) (ntelling_ : Nat) (nimages_ : Nat) (nisImage_ : Nat) (mthrown_ : Int32) (ntape_ : Nat) (mtaped_ : Int32) (mlength_ : Int32) (mhead_ : Int32) (mbegin_ : Int32) (mtoken_ : Int32) (mvalue_ : Int32) (mbad_ : Int32) (mbadPlace_ : Int32) (mfaultKind_ : Int32) (mfaultPlace_ : Int32) (mdeep_ : Int32) (mlawMany_ : Int32) (mlawAt_ : Int32) (nstack_ : Nat) (nasked_ : Nat) (mfell_ : Int32) (mfellIn_ : Int32) (naside_ : Nat) (mstate_ : Int32) (mlanded_ : Int32) (mwaitFalls_ : Int32) (mwaitWeight_ : Int32) (nfallsAfter_ : Nat) (nfalling_ : Nat) (ncomes_ : Nat) (ngoesOn_ : Nat) (nwayRow_ : Nat) (nmany_ : Nat) (nmanyThen_ : Nat) (mtoldLet_ : Int32) (ntSort_ : Nat) (ntMany_ : Nat) (nnumbers_ : Nat) (fknown_ : Nat → Int32) (t_ : Int32) (c_ : Int32) (C_ : Int) (L_ : Int) (hb_ : Int) (ha_ : Int) (hc_ : Int) (hha_ : -2000000 ≤ ha_) (hhc_ : hc_ ≤ 4000000) (hhb_ : hb_ ≤ 1000000) (rmtaped_ : rg (0) (900) mtaped_) (rmlength_ : rg (0) (900) mlength_) (rmhead_ : rg (0) (900) mhead_) (rmbegin_ : rg (0) (900) mbegin_) (rt_ : rg (0) (7) t_) (rfknown_ : KX C_ L_ ha_ hc_ hb_ fknown_) : Ci l yX11_hangsIn cX11_hangsIn 3 (some .boolean) { frames := 1, cells := 0, slots := 0, locals := 22 } D cy [.ref nm_, .int t_, .int c_] [(nm_, .inr (11, [.ref nknown_, .ref ntelling_, .ref nimages_, .ref nisImage_, .int mthrown_, .ref ntape_, .int mtaped_, .int mlength_, .int mhead_, .int mbegin_, .int mtoken_, .int mvalue_, .int mbad_, .int mbadPlace_, .int mfaultKind_, .int mfaultPlace_, .int mdeep_, .int mlawMany_, .int mlawAt_, .ref nstack_, .ref nasked_, .int mfell_, .int mfellIn_, .ref naside_, .int mstate_, .int mlanded_, .int mwaitFalls_, .int mwaitWeight_, .ref nfallsAfter_, .ref nfalling_, .ref ncomes_, .ref ngoesOn_, .ref nwayRow_, .ref nmany_, .ref nmanyThen_, .int mtoldLet_, .ref ntSort_, .ref ntMany_, .ref nnumbers_])), (nknown_, .inl (cy 0, 2260, .inl (fknown_)))] (fun r W1 => R_X11_hangsIn_e fknown_ t_ c_ r ∧ W1 = [(nm_, .inr (11, [.ref nknown_, .ref ntelling_, .ref nimages_, .ref nisImage_, .int mthrown_, .ref ntape_, .int mtaped_, .int mlength_, .int mhead_, .int mbegin_, .int mtoken_, .int mvalue_, .int mbad_, .int mbadPlace_, .int mfaultKind_, .int mfaultPlace_, .int mdeep_, .int mlawMany_, .int mlawAt_, .ref nstack_, .ref nasked_, .int mfell_, .int mfellIn_, .ref naside_, .int mstate_, .int mlanded_, .int mwaitFalls_, .int mwaitWeight_, .ref nfallsAfter_, .ref nfalling_, .ref ncomes_, .ref ngoesOn_, .ref nwayRow_, .ref nmany_, .ref nmanyThen_, .int mtoldLet_, .ref ntSort_, .ref ntMany_, .ref nnumbers_])), (nknown_, .inl (cy 0, 2260, .inl (fknown_)))] ∧ rg (0) (1) r) := by
  refine Ci.of (by decide) (Nat.le_of_ble_eq_true rfl) ?_
  intro p e s m below meth c A ls hX hE hP hD hl
  obtain ⟨hx, hb, hr, hml, hown, htA, hlk⟩ := id hX
  have hK := hE.1
  have hS : va_S A s.heap s.heap [] := va_S.rf
  have hl : lv_has ls 3 [(0, .ref nm_), (1, .int t_), (2, .int c_)] := hl
  refine lv_aload_n hx hb dX11_hangsIn_0 rfl (lv_at hl 0 rfl) ?_
  refine lv_iload_n hx hb dX11_hangsIn_1 rfl (lv_at hl 1 rfl) ?_
  refine lv_iconst (v := 1) hx hb dX11_hangsIn_2 (by decide) ?_
  refine kVi (As := [.int t_, .int 1]) (rest := []) (wr := []) hX hE (sf_X11_is l D cy nm_ nknown_ ntelling_ nimages_ nisImage_ mthrown_ ntape_ mtaped_ mlength_ mhead_ mbegin_ mtoken_ mvalue_ mbad_ mbadPlace_ mfaultKind_ mfaultPlace_ mdeep_ mlawMany_ mlawAt_ nstack_ nasked_ mfell_ mfellIn_ naside_ mstate_ mlanded_ mwaitFalls_ mwaitWeight_ nfallsAfter_ nfalling_ ncomes_ ngoesOn_ nwayRow_ nmany_ nmanyThen_ mtoldLet_ ntSort_ ntMany_ nnumbers_ fknown_ t_ (1 : Int32) C_ L_ hb_ ha_ hc_ (by omega) (by omega) (by omega) (rg_w rmtaped_ (by decide) (by decide)) (rg_w rmlength_ (by decide) (by decide)) (rg_w rmhead_ (by decide) (by decide)) (rg_w rmbegin_ (by decide) (by decide)) (rg_w rt_ (by decide) (by decide)) rfknown_) (cwVA 2 htA wd_1649 wd_1646 wd_10 wd_1648 wp_72 (by decide +kernel) ⟨by decide, by decide⟩) hP hD hS [0, 1] [] rfl rfl (by decide +kernel) 0 rfl rfl rfl rfl hl.1 rfl (Nat.le_of_ble_eq_true rfl) dX11_hangsIn_3 (by decide) (fun v10030_ W1 H locs hw hP hD hS => ?_)
  refine W.widen (k := 0) (n := 0) (by decide) (by decide) ?_
  obtain ⟨k3_0_, rfl, kr3_⟩ := hw
  have hP : va_P D vwCl [(nm_, .inr (11, [.ref nknown_, .ref ntelling_, .ref nimages_, .ref nisImage_, .int mthrown_, .ref ntape_, .int mtaped_, .int mlength_, .int mhead_, .int mbegin_, .int mtoken_, .int mvalue_, .int mbad_, .int mbadPlace_, .int mfaultKind_, .int mfaultPlace_, .int mdeep_, .int mlawMany_, .int mlawAt_, .ref nstack_, .ref nasked_, .int mfell_, .int mfellIn_, .ref naside_, .int mstate_, .int mlanded_, .int mwaitFalls_, .int mwaitWeight_, .ref nfallsAfter_, .ref nfalling_, .ref ncomes_, .ref ngoesOn_, .ref nwayRow_, .ref nmany_, .ref nmanyThen_, .int mtoldLet_, .ref ntSort_, .ref ntMany_, .ref nnumbers_])), (nknown_, .inl (cy 0, 2260, .inl (fknown_)))] H := hP
  have hD := va_ca hP hD
  refine joinT (D := D) (A := A) (pc := 27) (mL := 3) (τ := Int32) (WS := fun i => [(nm_, .inr (11, [.ref nknown_, .ref ntelling_, .ref nimages_, .ref nisImage_, .int mthrown_, .ref ntape_, .int mtaped_, .int mlength_, .int mhead_, .int mbegin_, .int mtoken_, .int mvalue_, .int mbad_, .int mbadPlace_, .int mfaultKind_, .int mfaultPlace_, .int mdeep_, .int mlawMany_, .int mlawAt_, .ref nstack_, .ref nasked_, .int mfell_, .int mfellIn_, .ref naside_, .int mstate_, .int mlanded_, .int mwaitFalls_, .int mwaitWeight_, .ref nfallsAfter_, .ref nfalling_, .ref ncomes_, .ref ngoesOn_, .ref nwayRow_, .ref nmany_, .ref nmanyThen_, .int mtoldLet_, .ref ntSort_, .ref ntMany_, .ref nnumbers_])), (nknown_, .inl (cy 0, 2260, .inl (fknown_)))]) (LV := fun i => [(0, .ref nm_), (1, .int t_), (2, .int c_)]) (ST := fun i => [.int i]) (cells := 0) (slots := 0) (fun i => rg (0) (1) i ∧ R_X11_hangsIn_j1 v10030_ fknown_ t_ c_ i) (fun v202700_ H locs ls hI hP hD hS hl => ?_) (fun j27_ => ?_)
  · have hI : rg (0) (1) v202700_ ∧ R_X11_hangsIn_j1 v10030_ fknown_ t_ c_ v202700_ := hI
    obtain ⟨rv202700_, hR1_⟩ := hI
    have hP : va_P D vwCl [(nm_, .inr (11, [.ref nknown_, .ref ntelling_, .ref nimages_, .ref nisImage_, .int mthrown_, .ref ntape_, .int mtaped_, .int mlength_, .int mhead_, .int mbegin_, .int mtoken_, .int mvalue_, .int mbad_, .int mbadPlace_, .int mfaultKind_, .int mfaultPlace_, .int mdeep_, .int mlawMany_, .int mlawAt_, .ref nstack_, .ref nasked_, .int mfell_, .int mfellIn_, .ref naside_, .int mstate_, .int mlanded_, .int mwaitFalls_, .int mwaitWeight_, .ref nfallsAfter_, .ref nfalling_, .ref ncomes_, .ref ngoesOn_, .ref nwayRow_, .ref nmany_, .ref nmanyThen_, .int mtoldLet_, .ref ntSort_, .ref ntMany_, .ref nnumbers_])), (nknown_, .inl (cy 0, 2260, .inl (fknown_)))] H := hP
    have hD := va_ca hP hD
    have hl : lv_has ls 3 [(0, .ref nm_), (1, .int t_), (2, .int c_)] := hl
    exact rZ hX (nz_of rv202700_) hE hP hD hS dX11_hangsIn_27 (by decide) (by decide) ⟨(Or.inl ⟨v10030_, v202700_, k3_0_, hR1_, rfl⟩), rfl, (rg_w rv202700_ (by decide) (by decide))⟩
  refine joinT (D := D) (A := A) (pc := 26) (mL := 3) (τ := Unit) (WS := fun i => [(nm_, .inr (11, [.ref nknown_, .ref ntelling_, .ref nimages_, .ref nisImage_, .int mthrown_, .ref ntape_, .int mtaped_, .int mlength_, .int mhead_, .int mbegin_, .int mtoken_, .int mvalue_, .int mbad_, .int mbadPlace_, .int mfaultKind_, .int mfaultPlace_, .int mdeep_, .int mlawMany_, .int mlawAt_, .ref nstack_, .ref nasked_, .int mfell_, .int mfellIn_, .ref naside_, .int mstate_, .int mlanded_, .int mwaitFalls_, .int mwaitWeight_, .ref nfallsAfter_, .ref nfalling_, .ref ncomes_, .ref ngoesOn_, .ref nwayRow_, .ref nmany_, .ref nmanyThen_, .int mtoldLet_, .ref ntSort_, .ref ntMany_, .ref nnumbers_])), (nknown_, .inl (cy 0, 2260, .inl (fknown_)))]) (LV := fun i => [(0, .ref nm_), (1, .int t_), (2, .int c_)]) (ST := fun i => []) (cells := 0) (slots := 0) (fun i => R_X11_hangsIn_j3 v10030_ fknown_ t_ c_) (fun u0_ H locs ls hI hP hD hS hl => ?_) (fun j26_ => ?_)
  · have hI : R_X11_hangsIn_j3 v10030_ fknown_ t_ c_ := hI
    have hR3_ := hI
    have hP : va_P D vwCl [(nm_, .inr (11, [.ref nknown_, .ref ntelling_, .ref nimages_, .ref nisImage_, .int mthrown_, .ref ntape_, .int mtaped_, .int mlength_, .int mhead_, .int mbegin_, .int mtoken_, .int mvalue_, .int mbad_, .int mbadPlace_, .int mfaultKind_, .int mfaultPlace_, .int mdeep_, .int mlawMany_, .int mlawAt_, .ref nstack_, .ref nasked_, .int mfell_, .int mfellIn_, .ref naside_, .int mstate_, .int mlanded_, .int mwaitFalls_, .int mwaitWeight_, .ref nfallsAfter_, .ref nfalling_, .ref ncomes_, .ref ngoesOn_, .ref nwayRow_, .ref nmany_, .ref nmanyThen_, .int mtoldLet_, .ref ntSort_, .ref ntMany_, .ref nnumbers_])), (nknown_, .inl (cy 0, 2260, .inl (fknown_)))] H := hP
    have hD := va_ca hP hD
    have hl : lv_has ls 3 [(0, .ref nm_), (1, .int t_), (2, .int c_)] := hl
    refine lv_iconst (v := 0) hx hb dX11_hangsIn_26 (by decide) ?_
    exact j27_ 0 _ _ ls ⟨(rg_w (rg_lit (by decide) : rg (0) (0) (0 : Int32)) (by decide) (by decide)), (Or.inl ⟨hR3_, rfl⟩)⟩ hP hD hS (lv_sub hl [0, 1, 2] rfl)
  refine lv_if_eq (tgt := 26) hx hb dX11_hangsIn_6 (by decide) (fun c6_ => ?_) (fun c6_ => ?_)
  · have g1_ : rg (0) (0) v10030_ := rg_eq c6_ (rg_lit (by decide) : rg (0) (0) (0 : Int32))
    exact j26_ () _ _ ls (Or.inl c6_) hP hD hS (lv_sub hl [0, 1, 2] rfl)
  · have g2_ : rg (1) (1) v10030_ := rg_ne1 c6_ kr3_ (by decide) (by decide)
    refine lv_aload_n hx hb dX11_hangsIn_9 rfl (lv_at hl 0 rfl) ?_
    refine va_get (ci := 11) (v := .ref nknown_) (C := RX11) (T := TX11) (N := 39) hx hb htA in_X11 hown hK hP 0 rfl rfl 0 (by decide) (htA _ wd_1354) (fun _ h => h) rfl dX11_hangsIn_10 ?_
    refine lv_bipush (v := 16) hx hb dX11_hangsIn_13 (by decide) ?_
    refine lv_iload_n hx hb dX11_hangsIn_15 rfl (lv_at hl 1 rfl) ?_
    refine lv_iadd hx hb dX11_hangsIn_16 ?_
    have g3_ : rg (16) (23) (16 + t_) := rg_add (rg_lit (by decide) : rg (16) (16) (16 : Int32)) rt_ (by decide) (by decide) (by decide) (by decide)
    refine va_iald hx hb hK hP 1 0 rfl rfl (rg_in g3_ (by decide) (by decide)) dX11_hangsIn_17 ?_
    refine lv_topi (fun v10170_ ev10170_ => ?_)
    refine lv_iload_n hx hb dX11_hangsIn_18 rfl (lv_at hl 2 rfl) ?_
    refine lv_icmp_ne (tgt := 26) hx hb dX11_hangsIn_19 (by decide) (fun c19_ => ?_) (fun c19_ => ?_)
    · exact j26_ () _ _ ls (Or.inr (Or.inl ⟨v10170_, c6_, ev10170_, c19_⟩)) hP hD hS (lv_sub hl [0, 1, 2] rfl)
    · refine lv_iconst (v := 1) hx hb dX11_hangsIn_22 (by decide) ?_
      refine lv_goto (tgt := 27) hx hb dX11_hangsIn_23 (by decide) ?_
      exact j27_ 1 _ _ ls ⟨(rg_w (rg_lit (by decide) : rg (1) (1) (1 : Int32)) (by decide) (by decide)), (Or.inr (Or.inl ⟨v10170_, c6_, ev10170_, c19_, rfl⟩))⟩ hP hD hS (lv_sub hl [0, 1, 2] rfl)
def R_X11_isTray_e (t_ : Int32) (r : Int32) : Prop := (∃ (v10060_ : Int32), R_X11_within_e t_.toInt64 ((0 : Int64)) ((3 : Int64)) v10060_ ∧ r = v10060_) ∨ False
set_option maxHeartbeats 4000000 in
set_option maxRecDepth 100000 in
theorem sf_X11_isTray (l : Launch) (D : va_G) (cy : Nat → ClassId) (t_ : Int32) : Ci l yX11_isTray cX11_isTray 1 (some .boolean) { frames := 1, cells := 0, slots := 0, locals := 25 } D cy [.int t_] [] (fun r W1 => R_X11_isTray_e t_ r ∧ W1 = [] ∧ rg (0) (1) r) := by
  refine Ci.of (by decide) (Nat.le_of_ble_eq_true rfl) ?_
  intro p e s m below meth c A ls hX hE hP hD hl
  obtain ⟨hx, hb, hr, hml, hown, htA, hlk⟩ := id hX
  have hK := hE.1
  have hS : va_S A s.heap s.heap [] := va_S.rf
  have hl : lv_has ls 1 [(0, .int t_)] := hl
  refine lv_iload_n hx hb dX11_isTray_0 rfl (lv_at hl 0 rfl) ?_
  refine lv_i2l hx hb dX11_isTray_1 rfl ?_
  have g1_ : rl (-2147483648) (2147483647) t_.toInt64 := rl_i2l (rg_any _)
  refine lv_lconst (v := 0) hx hb dX11_isTray_2 (by decide) ?_
  refine lv_ldc2 hx hb hown (htA _ wd_1816) dX11_isTray_3 ?_
  refine kSi (As := [.long t_.toInt64, .long 0, .long 3]) (rest := []) (wr := []) hX hE (sf_X11_within l D cy t_.toInt64 (0 : Int64) (3 : Int64) ) (cwSA 3 htA wd_1483 wd_1481 wd_10 wd_1482 (by decide +kernel) ⟨by decide, by decide⟩) hP hD hS [] [] rfl rfl (by decide +kernel) rfl hl.1 rfl (Nat.le_of_ble_eq_true rfl) dX11_isTray_6 (by decide) (fun v10060_ W1 H locs hw hP hD hS => ?_)
  refine W.widen (k := 0) (n := 0) (by decide) (by decide) ?_
  obtain ⟨k6_0_, rfl, kr6_⟩ := hw
  have hP : va_P D vwCl [] H := hP
  have hD := va_ca hP hD
  exact rZ hX (nz_of kr6_) hE hP hD hS dX11_isTray_9 (by decide) (by decide) ⟨(Or.inl ⟨v10060_, k6_0_, rfl⟩), rfl, (rg_w kr6_ (by decide) (by decide))⟩
def R_X11_lyingAll_j3 (v10160_ : Int32) (v202700_ : Int32) : Prop := (v10160_ = (0 : Int32) ∧ v202700_ = (0 : Int32)) ∨ (¬ (v10160_ = (0 : Int32)) ∧ v202700_ = (1 : Int32)) ∨ False
def R_X11_lyingAll_b1 (fknown_ : Nat → Int32) (uZ_ vZ_ : Int32 × Int32) : Prop := (∃ (v10060_ : Int32) (v10160_ : Int32) (v202700_ : Int32), R_X11_things_e fknown_ v10060_ ∧ ¬ (v10060_ ≤ uZ_.1) ∧ R_X11_is_e fknown_ uZ_.1 ((2 : Int32)) v10160_ ∧ R_X11_lyingAll_j3 v10160_ v202700_ ∧ vZ_ = (uZ_.1 + 1, uZ_.2 + v202700_)) ∨ False
def R_X11_lyingAll_e (fknown_ : Nat → Int32) (r : Int32) : Prop := (∃ (v200400_ : Int32) (v200401_ : Int32) (v10060_ : Int32), Itr (R_X11_lyingAll_b1 fknown_) (0, 0) (v200400_, v200401_) ∧ R_X11_things_e fknown_ v10060_ ∧ v10060_ ≤ v200400_ ∧ r = v200401_) ∨ False
set_option maxHeartbeats 4000000 in
set_option maxRecDepth 100000 in
theorem sf_X11_lyingAll (l : Launch) (D : va_G) (cy : Nat → ClassId) (nm_ : Nat) (nknown_ : Nat) (ntelling_ : Nat) (nimages_ : Nat) (nisImage_ : Nat) (mthrown_ : Int32) (ntape_ : Nat) (mtaped_ : Int32) (mlength_ : Int32) (mhead_ : Int32) (mbegin_ : Int32) (mtoken_ : Int32) (mvalue_ : Int32) (mbad_ : Int32) (mbadPlace_ : Int32) (mfaultKind_ : Int32) (mfaultPlace_ : Int32) (mdeep_ : Int32) (mlawMany_ : Int32) (mlawAt_ : Int32) (nstack_ : Nat) (nasked_ : Nat) (mfell_ : Int32) (mfellIn_ : Int32) (naside_ : Nat) (mstate_ : Int32) (mlanded_ : Int32) (mwaitFalls_ : Int32) (mwaitWeight_ : Int32) (nfallsAfter_ : Nat) (nfalling_ : Nat) (ncomes_ : Nat) (ngoesOn_ : Nat) (nwayRow_ : Nat) (nmany_ : Nat) (nmanyThen_ : Nat) (mtoldLet_ : Int32) (ntSort_ : Nat) (ntMany_ : Nat) (nnumbers_ : Nat) (fknown_ : Nat → Int32) (C_ : Int) (L_ : Int) (hb_ : Int) (ha_ : Int) (hc_ : Int) (hha_ : -2000000 ≤ ha_) (hhc_ : hc_ ≤ 4000000) (hhb_ : hb_ ≤ 1000000) (rmtaped_ : rg (0) (900) mtaped_) (rmlength_ : rg (0) (900) mlength_) (rmhead_ : rg (0) (900) mhead_) (rmbegin_ : rg (0) (900) mbegin_) (rfknown_ : KX C_ L_ ha_ hc_ hb_ fknown_) : Ci l yX11_lyingAll cX11_lyingAll 3 (some .int) { frames := 1, cells := 0, slots := 0, locals := 22 } D cy [.ref nm_] [(nm_, .inr (11, [.ref nknown_, .ref ntelling_, .ref nimages_, .ref nisImage_, .int mthrown_, .ref ntape_, .int mtaped_, .int mlength_, .int mhead_, .int mbegin_, .int mtoken_, .int mvalue_, .int mbad_, .int mbadPlace_, .int mfaultKind_, .int mfaultPlace_, .int mdeep_, .int mlawMany_, .int mlawAt_, .ref nstack_, .ref nasked_, .int mfell_, .int mfellIn_, .ref naside_, .int mstate_, .int mlanded_, .int mwaitFalls_, .int mwaitWeight_, .ref nfallsAfter_, .ref nfalling_, .ref ncomes_, .ref ngoesOn_, .ref nwayRow_, .ref nmany_, .ref nmanyThen_, .int mtoldLet_, .ref ntSort_, .ref ntMany_, .ref nnumbers_])), (nknown_, .inl (cy 0, 2260, .inl (fknown_)))] (fun r W1 => R_X11_lyingAll_e fknown_ r ∧ W1 = [(nm_, .inr (11, [.ref nknown_, .ref ntelling_, .ref nimages_, .ref nisImage_, .int mthrown_, .ref ntape_, .int mtaped_, .int mlength_, .int mhead_, .int mbegin_, .int mtoken_, .int mvalue_, .int mbad_, .int mbadPlace_, .int mfaultKind_, .int mfaultPlace_, .int mdeep_, .int mlawMany_, .int mlawAt_, .ref nstack_, .ref nasked_, .int mfell_, .int mfellIn_, .ref naside_, .int mstate_, .int mlanded_, .int mwaitFalls_, .int mwaitWeight_, .ref nfallsAfter_, .ref nfalling_, .ref ncomes_, .ref ngoesOn_, .ref nwayRow_, .ref nmany_, .ref nmanyThen_, .int mtoldLet_, .ref ntSort_, .ref ntMany_, .ref nnumbers_])), (nknown_, .inl (cy 0, 2260, .inl (fknown_)))]) := by
  refine Ci.of (by decide) (Nat.le_of_ble_eq_true rfl) ?_
  intro p e s m below meth c A ls hX hE hP hD hl
  obtain ⟨hx, hb, hr, hml, hown, htA, hlk⟩ := id hX
  have hK := hE.1
  have hS : va_S A s.heap s.heap [] := va_S.rf
  have hl : lv_has ls 3 [(0, .ref nm_)] := hl
  refine lv_iconst (v := 0) hx hb dX11_lyingAll_0 (by decide) ?_
  refine lv_istore_n (lv' := [(1, .int 0), (0, .ref nm_)]) hx hb dX11_lyingAll_1 rfl hl (by decide) rfl (fun ls hl => ?_)
  refine lv_iconst (v := 0) hx hb dX11_lyingAll_2 (by decide) ?_
  refine lv_istore_n (lv' := [(2, .int 0), (1, .int 0), (0, .ref nm_)]) hx hb dX11_lyingAll_3 rfl hl (by decide) rfl (fun ls hl => ?_)
  refine loopT (τ := Int32 × Int32) (WS := fun i => [(nm_, .inr (11, [.ref nknown_, .ref ntelling_, .ref nimages_, .ref nisImage_, .int mthrown_, .ref ntape_, .int mtaped_, .int mlength_, .int mhead_, .int mbegin_, .int mtoken_, .int mvalue_, .int mbad_, .int mbadPlace_, .int mfaultKind_, .int mfaultPlace_, .int mdeep_, .int mlawMany_, .int mlawAt_, .ref nstack_, .ref nasked_, .int mfell_, .int mfellIn_, .ref naside_, .int mstate_, .int mlanded_, .int mwaitFalls_, .int mwaitWeight_, .ref nfallsAfter_, .ref nfalling_, .ref ncomes_, .ref ngoesOn_, .ref nwayRow_, .ref nmany_, .ref nmanyThen_, .int mtoldLet_, .ref ntSort_, .ref ntMany_, .ref nnumbers_])), (nknown_, .inl (cy 0, 2260, .inl (fknown_)))]) (LV := fun i => [(2, .int i.1), (1, .int i.2), (0, .ref nm_)]) (fun i => (902 - i.1.toInt).toNat) (fun i => rg (0) (901) i.1 ∧ Itr (R_X11_lyingAll_b1 fknown_) (0, 0) (i.1, i.2)) ?_ (0, 0) ⟨(rg_w (rg_lit (by decide) : rg (0) (0) (0 : Int32)) (by decide) (by decide)), (Itr.rf _ _)⟩ hP hD hS (lv_sub hl [0, 1, 2] rfl)
  intro i_ H locs ls hI ih4_ hP hD hS hl
  obtain ⟨v200400_, v200401_⟩ := i_
  have hI : rg (0) (901) v200400_ ∧ Itr (R_X11_lyingAll_b1 fknown_) (0, 0) (v200400_, v200401_) := hI
  obtain ⟨rv200400_, hR1_⟩ := hI
  have hP : va_P D vwCl [(nm_, .inr (11, [.ref nknown_, .ref ntelling_, .ref nimages_, .ref nisImage_, .int mthrown_, .ref ntape_, .int mtaped_, .int mlength_, .int mhead_, .int mbegin_, .int mtoken_, .int mvalue_, .int mbad_, .int mbadPlace_, .int mfaultKind_, .int mfaultPlace_, .int mdeep_, .int mlawMany_, .int mlawAt_, .ref nstack_, .ref nasked_, .int mfell_, .int mfellIn_, .ref naside_, .int mstate_, .int mlanded_, .int mwaitFalls_, .int mwaitWeight_, .ref nfallsAfter_, .ref nfalling_, .ref ncomes_, .ref ngoesOn_, .ref nwayRow_, .ref nmany_, .ref nmanyThen_, .int mtoldLet_, .ref ntSort_, .ref ntMany_, .ref nnumbers_])), (nknown_, .inl (cy 0, 2260, .inl (fknown_)))] H := hP
  have hD := va_ca hP hD
  have hl : lv_has ls 3 [(2, .int v200400_), (1, .int v200401_), (0, .ref nm_)] := hl
  refine lv_iload_n hx hb dX11_lyingAll_4 rfl (lv_at hl 0 rfl) ?_
  refine lv_aload_n hx hb dX11_lyingAll_5 rfl (lv_at hl 2 rfl) ?_
  refine kVi (As := []) (rest := [.int v200400_]) (wr := []) hX hE (sf_X11_things l D cy nm_ nknown_ ntelling_ nimages_ nisImage_ mthrown_ ntape_ mtaped_ mlength_ mhead_ mbegin_ mtoken_ mvalue_ mbad_ mbadPlace_ mfaultKind_ mfaultPlace_ mdeep_ mlawMany_ mlawAt_ nstack_ nasked_ mfell_ mfellIn_ naside_ mstate_ mlanded_ mwaitFalls_ mwaitWeight_ nfallsAfter_ nfalling_ ncomes_ ngoesOn_ nwayRow_ nmany_ nmanyThen_ mtoldLet_ ntSort_ ntMany_ nnumbers_ fknown_ C_ L_ hb_ ha_ hc_ (by omega) (by omega) (by omega) (rg_w rmtaped_ (by decide) (by decide)) (rg_w rmlength_ (by decide) (by decide)) (rg_w rmhead_ (by decide) (by decide)) (rg_w rmbegin_ (by decide) (by decide)) rfknown_) (cwVA 0 htA wd_1645 wd_1642 wd_10 wd_1644 wp_71 (by decide +kernel) ⟨by decide, by decide⟩) hP hD hS [0, 1] [] rfl rfl (by decide +kernel) 0 rfl rfl rfl rfl hl.1 rfl (Nat.le_of_ble_eq_true rfl) dX11_lyingAll_6 (by decide) (fun v10060_ W1 H locs hw hP hD hS => ?_)
  refine W.widen (k := 0) (n := 0) (by decide) (by decide) ?_
  obtain ⟨ev10060_, k6_1_, rfl, kr6_⟩ := hw
  have hP : va_P D vwCl [(nm_, .inr (11, [.ref nknown_, .ref ntelling_, .ref nimages_, .ref nisImage_, .int mthrown_, .ref ntape_, .int mtaped_, .int mlength_, .int mhead_, .int mbegin_, .int mtoken_, .int mvalue_, .int mbad_, .int mbadPlace_, .int mfaultKind_, .int mfaultPlace_, .int mdeep_, .int mlawMany_, .int mlawAt_, .ref nstack_, .ref nasked_, .int mfell_, .int mfellIn_, .ref naside_, .int mstate_, .int mlanded_, .int mwaitFalls_, .int mwaitWeight_, .ref nfallsAfter_, .ref nfalling_, .ref ncomes_, .ref ngoesOn_, .ref nwayRow_, .ref nmany_, .ref nmanyThen_, .int mtoldLet_, .ref ntSort_, .ref ntMany_, .ref nnumbers_])), (nknown_, .inl (cy 0, 2260, .inl (fknown_)))] H := hP
  have hD := va_ca hP hD
  refine lv_icmp_ge (tgt := 35) hx hb dX11_lyingAll_9 (by decide) (fun c9_ => ?_) (fun c9_ => ?_)
  · refine lv_iload_n hx hb dX11_lyingAll_35 rfl (lv_at hl 1 rfl) ?_
    exact rI hX hE hP hD hS dX11_lyingAll_36 (by decide) (by decide) ⟨(Or.inl ⟨v200400_, v200401_, v10060_, hR1_, k6_1_, c9_, rfl⟩), rfl⟩
  · have g1_ : rg (0) (7) v200400_ := rg_lt1 (rg_nle c9_) rv200400_ kr6_ (by decide)
    have g2_ : rg (1) (8) v10060_ := rg_lt2 (rg_nle c9_) rv200400_ kr6_ (by decide)
    refine lv_iload_n hx hb dX11_lyingAll_12 rfl (lv_at hl 1 rfl) ?_
    refine lv_aload_n hx hb dX11_lyingAll_13 rfl (lv_at hl 2 rfl) ?_
    refine lv_iload_n hx hb dX11_lyingAll_14 rfl (lv_at hl 0 rfl) ?_
    refine lv_iconst (v := 2) hx hb dX11_lyingAll_15 (by decide) ?_
    refine kVi (As := [.int v200400_, .int 2]) (rest := [.int v200401_]) (wr := []) hX hE (sf_X11_is l D cy nm_ nknown_ ntelling_ nimages_ nisImage_ mthrown_ ntape_ mtaped_ mlength_ mhead_ mbegin_ mtoken_ mvalue_ mbad_ mbadPlace_ mfaultKind_ mfaultPlace_ mdeep_ mlawMany_ mlawAt_ nstack_ nasked_ mfell_ mfellIn_ naside_ mstate_ mlanded_ mwaitFalls_ mwaitWeight_ nfallsAfter_ nfalling_ ncomes_ ngoesOn_ nwayRow_ nmany_ nmanyThen_ mtoldLet_ ntSort_ ntMany_ nnumbers_ fknown_ v200400_ (2 : Int32) C_ L_ hb_ ha_ hc_ (by omega) (by omega) (by omega) (rg_w rmtaped_ (by decide) (by decide)) (rg_w rmlength_ (by decide) (by decide)) (rg_w rmhead_ (by decide) (by decide)) (rg_w rmbegin_ (by decide) (by decide)) (rg_w g1_ (by decide) (by decide)) rfknown_) (cwVA 2 htA wd_1649 wd_1646 wd_10 wd_1648 wp_72 (by decide +kernel) ⟨by decide, by decide⟩) hP hD hS [0, 1] [] rfl rfl (by decide +kernel) 0 rfl rfl rfl rfl hl.1 rfl (Nat.le_of_ble_eq_true rfl) dX11_lyingAll_16 (by decide) (fun v10160_ W1 H locs hw hP hD hS => ?_)
    refine W.widen (k := 0) (n := 0) (by decide) (by decide) ?_
    obtain ⟨k16_0_, rfl, kr16_⟩ := hw
    have hP : va_P D vwCl [(nm_, .inr (11, [.ref nknown_, .ref ntelling_, .ref nimages_, .ref nisImage_, .int mthrown_, .ref ntape_, .int mtaped_, .int mlength_, .int mhead_, .int mbegin_, .int mtoken_, .int mvalue_, .int mbad_, .int mbadPlace_, .int mfaultKind_, .int mfaultPlace_, .int mdeep_, .int mlawMany_, .int mlawAt_, .ref nstack_, .ref nasked_, .int mfell_, .int mfellIn_, .ref naside_, .int mstate_, .int mlanded_, .int mwaitFalls_, .int mwaitWeight_, .ref nfallsAfter_, .ref nfalling_, .ref ncomes_, .ref ngoesOn_, .ref nwayRow_, .ref nmany_, .ref nmanyThen_, .int mtoldLet_, .ref ntSort_, .ref ntMany_, .ref nnumbers_])), (nknown_, .inl (cy 0, 2260, .inl (fknown_)))] H := hP
    have hD := va_ca hP hD
    refine joinT (D := D) (A := A) (pc := 27) (mL := 3) (τ := Int32) (WS := fun i => [(nm_, .inr (11, [.ref nknown_, .ref ntelling_, .ref nimages_, .ref nisImage_, .int mthrown_, .ref ntape_, .int mtaped_, .int mlength_, .int mhead_, .int mbegin_, .int mtoken_, .int mvalue_, .int mbad_, .int mbadPlace_, .int mfaultKind_, .int mfaultPlace_, .int mdeep_, .int mlawMany_, .int mlawAt_, .ref nstack_, .ref nasked_, .int mfell_, .int mfellIn_, .ref naside_, .int mstate_, .int mlanded_, .int mwaitFalls_, .int mwaitWeight_, .ref nfallsAfter_, .ref nfalling_, .ref ncomes_, .ref ngoesOn_, .ref nwayRow_, .ref nmany_, .ref nmanyThen_, .int mtoldLet_, .ref ntSort_, .ref ntMany_, .ref nnumbers_])), (nknown_, .inl (cy 0, 2260, .inl (fknown_)))]) (LV := fun i => [(2, .int v200400_), (1, .int v200401_), (0, .ref nm_)]) (ST := fun i => [.int i, .int v200401_]) (cells := 0) (slots := 0) (fun i => rg (0) (1) i ∧ R_X11_lyingAll_j3 v10160_ i) (fun v202700_ H locs ls hI hP hD hS hl => ?_) (fun j27_ => ?_)
    · have hI : rg (0) (1) v202700_ ∧ R_X11_lyingAll_j3 v10160_ v202700_ := hI
      obtain ⟨rv202700_, hR3_⟩ := hI
      have hP : va_P D vwCl [(nm_, .inr (11, [.ref nknown_, .ref ntelling_, .ref nimages_, .ref nisImage_, .int mthrown_, .ref ntape_, .int mtaped_, .int mlength_, .int mhead_, .int mbegin_, .int mtoken_, .int mvalue_, .int mbad_, .int mbadPlace_, .int mfaultKind_, .int mfaultPlace_, .int mdeep_, .int mlawMany_, .int mlawAt_, .ref nstack_, .ref nasked_, .int mfell_, .int mfellIn_, .ref naside_, .int mstate_, .int mlanded_, .int mwaitFalls_, .int mwaitWeight_, .ref nfallsAfter_, .ref nfalling_, .ref ncomes_, .ref ngoesOn_, .ref nwayRow_, .ref nmany_, .ref nmanyThen_, .int mtoldLet_, .ref ntSort_, .ref ntMany_, .ref nnumbers_])), (nknown_, .inl (cy 0, 2260, .inl (fknown_)))] H := hP
      have hD := va_ca hP hD
      have hl : lv_has ls 3 [(2, .int v200400_), (1, .int v200401_), (0, .ref nm_)] := hl
      refine lv_iadd hx hb dX11_lyingAll_27 ?_
      refine lv_istore_n (lv' := [(1, .int (v200401_ + v202700_)), (2, .int v200400_), (0, .ref nm_)]) hx hb dX11_lyingAll_28 rfl hl (by decide) rfl (fun ls hl => ?_)
      refine lv_iinc (v := v200400_ + 1) (lv' := [(2, .int (v200400_ + 1)), (1, .int (v200401_ + v202700_)), (0, .ref nm_)]) hx hb dX11_lyingAll_29 hl (k := 1) rfl rfl (by decide) rfl (fun ls hl => ?_)
      have g3_ : rg (1) (8) (v200400_ + 1) := rg_add g1_ (rg_lit (by decide) : rg (1) (1) (1 : Int32)) (by decide) (by decide) (by decide) (by decide)
      refine lv_goto (tgt := 4) hx hb dX11_lyingAll_32 (by decide) ?_
      exact ih4_ (v200400_ + 1, v200401_ + v202700_) _ _ ls ⟨(rg_w g3_ (by decide) (by decide)), (Itr.st hR1_ (Or.inl ⟨v10060_, v10160_, v202700_, k6_1_, c9_, k16_0_, hR3_, rfl⟩))⟩ (show (902 - (v200400_ + 1).toInt).toNat < (902 - v200400_.toInt).toNat from by rw [show (v200400_ + 1).toInt = v200400_.toInt + 1 from inc32 v200400_ (by have hq := (rv200400_).2; omega)]; have hq := (g1_).1; have hq2 := (g1_).2; omega) hP hD hS (lv_sub hl [0, 1, 2] rfl)
    refine lv_if_eq (tgt := 26) hx hb dX11_lyingAll_19 (by decide) (fun c19_ => ?_) (fun c19_ => ?_)
    · have g4_ : rg (0) (0) v10160_ := rg_eq c19_ (rg_lit (by decide) : rg (0) (0) (0 : Int32))
      refine lv_iconst (v := 0) hx hb dX11_lyingAll_26 (by decide) ?_
      exact j27_ 0 _ _ ls ⟨(rg_w (rg_lit (by decide) : rg (0) (0) (0 : Int32)) (by decide) (by decide)), (Or.inl ⟨c19_, rfl⟩)⟩ hP hD hS (lv_sub hl [0, 1, 2] rfl)
    · have g5_ : rg (1) (1) v10160_ := rg_ne1 c19_ kr16_ (by decide) (by decide)
      refine lv_iconst (v := 1) hx hb dX11_lyingAll_22 (by decide) ?_
      refine lv_goto (tgt := 27) hx hb dX11_lyingAll_23 (by decide) ?_
      exact j27_ 1 _ _ ls ⟨(rg_w (rg_lit (by decide) : rg (1) (1) (1 : Int32)) (by decide) (by decide)), (Or.inr (Or.inl ⟨c19_, rfl⟩))⟩ hP hD hS (lv_sub hl [0, 1, 2] rfl)
def R_X11_hurtAll_b1 (fknown_ : Nat → Int32) (uZ_ vZ_ : Int32 × Int32) : Prop := (∃ (v10100_ : Int32) (v10230_ : Int32), v10100_ = fknown_ (4 : Int32).toNatClampNeg ∧ ¬ (v10100_ ≤ uZ_.1) ∧ v10230_ = fknown_ (41 + uZ_.1).toNatClampNeg ∧ vZ_ = (uZ_.1 + 1, uZ_.2 + v10230_)) ∨ False
def R_X11_hurtAll_e (fknown_ : Nat → Int32) (r : Int32) : Prop := (∃ (v200400_ : Int32) (v200401_ : Int32) (v10100_ : Int32), Itr (R_X11_hurtAll_b1 fknown_) (0, 0) (v200400_, v200401_) ∧ v10100_ = fknown_ (4 : Int32).toNatClampNeg ∧ v10100_ ≤ v200400_ ∧ r = v200401_) ∨ False
set_option maxHeartbeats 4000000 in
set_option maxRecDepth 100000 in
theorem sf_X11_hurtAll (l : Launch) (D : va_G) (cy : Nat → ClassId) (nm_ : Nat) (nknown_ : Nat) (ntelling_ : Nat) (nimages_ : Nat) (nisImage_ : Nat) (mthrown_ : Int32) (ntape_ : Nat) (mtaped_ : Int32) (mlength_ : Int32) (mhead_ : Int32) (mbegin_ : Int32) (mtoken_ : Int32) (mvalue_ : Int32) (mbad_ : Int32) (mbadPlace_ : Int32) (mfaultKind_ : Int32) (mfaultPlace_ : Int32) (mdeep_ : Int32) (mlawMany_ : Int32) (mlawAt_ : Int32) (nstack_ : Nat) (nasked_ : Nat) (mfell_ : Int32) (mfellIn_ : Int32) (naside_ : Nat) (mstate_ : Int32) (mlanded_ : Int32) (mwaitFalls_ : Int32) (mwaitWeight_ : Int32) (nfallsAfter_ : Nat) (nfalling_ : Nat) (ncomes_ : Nat) (ngoesOn_ : Nat) (nwayRow_ : Nat) (nmany_ : Nat) (nmanyThen_ : Nat) (mtoldLet_ : Int32) (ntSort_ : Nat) (ntMany_ : Nat) (nnumbers_ : Nat) (fknown_ : Nat → Int32) (C_ : Int) (L_ : Int) (hb_ : Int) (ha_ : Int) (hc_ : Int) (hha_ : -2000000 ≤ ha_) (hhc_ : hc_ ≤ 4000000) (hhb_ : hb_ ≤ 1000000) (rmtaped_ : rg (0) (900) mtaped_) (rmlength_ : rg (0) (900) mlength_) (rmhead_ : rg (0) (900) mhead_) (rmbegin_ : rg (0) (900) mbegin_) (rfknown_ : KX C_ L_ ha_ hc_ hb_ fknown_) : Ci l yX11_hurtAll cX11_hurtAll 3 (some .int) { frames := 0, cells := 0, slots := 0, locals := 0 } D cy [.ref nm_] [(nm_, .inr (11, [.ref nknown_, .ref ntelling_, .ref nimages_, .ref nisImage_, .int mthrown_, .ref ntape_, .int mtaped_, .int mlength_, .int mhead_, .int mbegin_, .int mtoken_, .int mvalue_, .int mbad_, .int mbadPlace_, .int mfaultKind_, .int mfaultPlace_, .int mdeep_, .int mlawMany_, .int mlawAt_, .ref nstack_, .ref nasked_, .int mfell_, .int mfellIn_, .ref naside_, .int mstate_, .int mlanded_, .int mwaitFalls_, .int mwaitWeight_, .ref nfallsAfter_, .ref nfalling_, .ref ncomes_, .ref ngoesOn_, .ref nwayRow_, .ref nmany_, .ref nmanyThen_, .int mtoldLet_, .ref ntSort_, .ref ntMany_, .ref nnumbers_])), (nknown_, .inl (cy 0, 2260, .inl (fknown_)))] (fun r W1 => R_X11_hurtAll_e fknown_ r ∧ W1 = [(nm_, .inr (11, [.ref nknown_, .ref ntelling_, .ref nimages_, .ref nisImage_, .int mthrown_, .ref ntape_, .int mtaped_, .int mlength_, .int mhead_, .int mbegin_, .int mtoken_, .int mvalue_, .int mbad_, .int mbadPlace_, .int mfaultKind_, .int mfaultPlace_, .int mdeep_, .int mlawMany_, .int mlawAt_, .ref nstack_, .ref nasked_, .int mfell_, .int mfellIn_, .ref naside_, .int mstate_, .int mlanded_, .int mwaitFalls_, .int mwaitWeight_, .ref nfallsAfter_, .ref nfalling_, .ref ncomes_, .ref ngoesOn_, .ref nwayRow_, .ref nmany_, .ref nmanyThen_, .int mtoldLet_, .ref ntSort_, .ref ntMany_, .ref nnumbers_])), (nknown_, .inl (cy 0, 2260, .inl (fknown_)))]) := by
  refine Ci.of (by decide) (Nat.le_of_ble_eq_true rfl) ?_
  intro p e s m below meth c A ls hX hE hP hD hl
  obtain ⟨hx, hb, hr, hml, hown, htA, hlk⟩ := id hX
  have hK := hE.1
  have hS : va_S A s.heap s.heap [] := va_S.rf
  have hl : lv_has ls 3 [(0, .ref nm_)] := hl
  refine lv_iconst (v := 0) hx hb dX11_hurtAll_0 (by decide) ?_
  refine lv_istore_n (lv' := [(1, .int 0), (0, .ref nm_)]) hx hb dX11_hurtAll_1 rfl hl (by decide) rfl (fun ls hl => ?_)
  refine lv_iconst (v := 0) hx hb dX11_hurtAll_2 (by decide) ?_
  refine lv_istore_n (lv' := [(2, .int 0), (1, .int 0), (0, .ref nm_)]) hx hb dX11_hurtAll_3 rfl hl (by decide) rfl (fun ls hl => ?_)
  refine loopT (τ := Int32 × Int32) (WS := fun i => [(nm_, .inr (11, [.ref nknown_, .ref ntelling_, .ref nimages_, .ref nisImage_, .int mthrown_, .ref ntape_, .int mtaped_, .int mlength_, .int mhead_, .int mbegin_, .int mtoken_, .int mvalue_, .int mbad_, .int mbadPlace_, .int mfaultKind_, .int mfaultPlace_, .int mdeep_, .int mlawMany_, .int mlawAt_, .ref nstack_, .ref nasked_, .int mfell_, .int mfellIn_, .ref naside_, .int mstate_, .int mlanded_, .int mwaitFalls_, .int mwaitWeight_, .ref nfallsAfter_, .ref nfalling_, .ref ncomes_, .ref ngoesOn_, .ref nwayRow_, .ref nmany_, .ref nmanyThen_, .int mtoldLet_, .ref ntSort_, .ref ntMany_, .ref nnumbers_])), (nknown_, .inl (cy 0, 2260, .inl (fknown_)))]) (LV := fun i => [(2, .int i.1), (1, .int i.2), (0, .ref nm_)]) (fun i => (5 - i.1.toInt).toNat) (fun i => rg (0) (4) i.1 ∧ Itr (R_X11_hurtAll_b1 fknown_) (0, 0) (i.1, i.2)) ?_ (0, 0) ⟨(rg_w (rg_lit (by decide) : rg (0) (0) (0 : Int32)) (by decide) (by decide)), (Itr.rf _ _)⟩ hP hD hS (lv_sub hl [0, 1, 2] rfl)
  intro i_ H locs ls hI ih4_ hP hD hS hl
  obtain ⟨v200400_, v200401_⟩ := i_
  have hI : rg (0) (4) v200400_ ∧ Itr (R_X11_hurtAll_b1 fknown_) (0, 0) (v200400_, v200401_) := hI
  obtain ⟨rv200400_, hR1_⟩ := hI
  have hP : va_P D vwCl [(nm_, .inr (11, [.ref nknown_, .ref ntelling_, .ref nimages_, .ref nisImage_, .int mthrown_, .ref ntape_, .int mtaped_, .int mlength_, .int mhead_, .int mbegin_, .int mtoken_, .int mvalue_, .int mbad_, .int mbadPlace_, .int mfaultKind_, .int mfaultPlace_, .int mdeep_, .int mlawMany_, .int mlawAt_, .ref nstack_, .ref nasked_, .int mfell_, .int mfellIn_, .ref naside_, .int mstate_, .int mlanded_, .int mwaitFalls_, .int mwaitWeight_, .ref nfallsAfter_, .ref nfalling_, .ref ncomes_, .ref ngoesOn_, .ref nwayRow_, .ref nmany_, .ref nmanyThen_, .int mtoldLet_, .ref ntSort_, .ref ntMany_, .ref nnumbers_])), (nknown_, .inl (cy 0, 2260, .inl (fknown_)))] H := hP
  have hD := va_ca hP hD
  have hl : lv_has ls 3 [(2, .int v200400_), (1, .int v200401_), (0, .ref nm_)] := hl
  refine lv_iload_n hx hb dX11_hurtAll_4 rfl (lv_at hl 0 rfl) ?_
  refine lv_aload_n hx hb dX11_hurtAll_5 rfl (lv_at hl 2 rfl) ?_
  refine va_get (ci := 11) (v := .ref nknown_) (C := RX11) (T := TX11) (N := 39) hx hb htA in_X11 hown hK hP 0 rfl rfl 0 (by decide) (htA _ wd_1354) (fun _ h => h) rfl dX11_hurtAll_6 ?_
  refine lv_iconst (v := 4) hx hb dX11_hurtAll_9 (by decide) ?_
  refine va_iald hx hb hK hP 1 0 rfl rfl (in_lit (by decide)) dX11_hurtAll_10 ?_
  refine lv_topi (fun v10100_ ev10100_ => ?_)
  have g1_ : rg (0) (4) v10100_ := by rw [ev10100_]; exact KX_l kb_4 rfknown_ (rg_lit (by decide) : rg (4) (4) (4 : Int32)) (by decide) (by decide)
  refine lv_icmp_ge (tgt := 32) hx hb dX11_hurtAll_11 (by decide) (fun c11_ => ?_) (fun c11_ => ?_)
  · refine lv_iload_n hx hb dX11_hurtAll_32 rfl (lv_at hl 1 rfl) ?_
    exact rI hX hE hP hD hS dX11_hurtAll_33 (by decide) (by decide) ⟨(Or.inl ⟨v200400_, v200401_, v10100_, hR1_, ev10100_, c11_, rfl⟩), rfl⟩
  · have g2_ : rg (0) (3) v200400_ := rg_lt1 (rg_nle c11_) rv200400_ g1_ (by decide)
    have g3_ : rg (1) (4) v10100_ := rg_lt2 (rg_nle c11_) rv200400_ g1_ (by decide)
    refine lv_iload_n hx hb dX11_hurtAll_14 rfl (lv_at hl 1 rfl) ?_
    refine lv_aload_n hx hb dX11_hurtAll_15 rfl (lv_at hl 2 rfl) ?_
    refine va_get (ci := 11) (v := .ref nknown_) (C := RX11) (T := TX11) (N := 39) hx hb htA in_X11 hown hK hP 0 rfl rfl 0 (by decide) (htA _ wd_1354) (fun _ h => h) rfl dX11_hurtAll_16 ?_
    refine lv_bipush (v := 41) hx hb dX11_hurtAll_19 (by decide) ?_
    refine lv_iload_n hx hb dX11_hurtAll_21 rfl (lv_at hl 0 rfl) ?_
    refine lv_iadd hx hb dX11_hurtAll_22 ?_
    have g4_ : rg (41) (44) (41 + v200400_) := rg_add (rg_lit (by decide) : rg (41) (41) (41 : Int32)) g2_ (by decide) (by decide) (by decide) (by decide)
    refine va_iald hx hb hK hP 1 0 rfl rfl (rg_in g4_ (by decide) (by decide)) dX11_hurtAll_23 ?_
    refine lv_topi (fun v10230_ ev10230_ => ?_)
    refine lv_iadd hx hb dX11_hurtAll_24 ?_
    refine lv_istore_n (lv' := [(1, .int (v200401_ + v10230_)), (2, .int v200400_), (0, .ref nm_)]) hx hb dX11_hurtAll_25 rfl hl (by decide) rfl (fun ls hl => ?_)
    refine lv_iinc (v := v200400_ + 1) (lv' := [(2, .int (v200400_ + 1)), (1, .int (v200401_ + v10230_)), (0, .ref nm_)]) hx hb dX11_hurtAll_26 hl (k := 1) rfl rfl (by decide) rfl (fun ls hl => ?_)
    have g5_ : rg (1) (4) (v200400_ + 1) := rg_add g2_ (rg_lit (by decide) : rg (1) (1) (1 : Int32)) (by decide) (by decide) (by decide) (by decide)
    refine lv_goto (tgt := 4) hx hb dX11_hurtAll_29 (by decide) ?_
    exact ih4_ (v200400_ + 1, v200401_ + v10230_) _ _ ls ⟨(rg_w g5_ (by decide) (by decide)), (Itr.st hR1_ (Or.inl ⟨v10100_, v10230_, ev10100_, c11_, ev10230_, rfl⟩))⟩ (show (5 - (v200400_ + 1).toInt).toNat < (5 - v200400_.toInt).toNat from by rw [show (v200400_ + 1).toInt = v200400_.toInt + 1 from inc32 v200400_ (by have hq := (rv200400_).2; omega)]; have hq := (g2_).1; have hq2 := (g2_).2; omega) hP hD hS (lv_sub hl [0, 1, 2] rfl)
def R_X11_allThat_j3 (v10160_ : Int32) (v202700_ : Int32) : Prop := (v10160_ = (0 : Int32) ∧ v202700_ = (0 : Int32)) ∨ (¬ (v10160_ = (0 : Int32)) ∧ v202700_ = (1 : Int32)) ∨ False
def R_X11_allThat_b1 (fknown_ : Nat → Int32) (w_ : Int32) (uZ_ vZ_ : Int32 × Int32) : Prop := (∃ (v10060_ : Int32) (v10160_ : Int32) (v202700_ : Int32), R_X11_things_e fknown_ v10060_ ∧ ¬ (v10060_ ≤ uZ_.1) ∧ R_X11_is_e fknown_ uZ_.1 w_ v10160_ ∧ R_X11_allThat_j3 v10160_ v202700_ ∧ vZ_ = (uZ_.1 + 1, uZ_.2 + v202700_)) ∨ False
def R_X11_allThat_e (fknown_ : Nat → Int32) (w_ : Int32) (r : Int32) : Prop := (∃ (v200400_ : Int32) (v200401_ : Int32) (v10060_ : Int32), Itr (R_X11_allThat_b1 fknown_ w_) (0, 0) (v200400_, v200401_) ∧ R_X11_things_e fknown_ v10060_ ∧ v10060_ ≤ v200400_ ∧ r = v200401_) ∨ False
set_option maxHeartbeats 4000000 in
set_option maxRecDepth 100000 in
theorem sf_X11_allThat (l : Launch) (D : va_G) (cy : Nat → ClassId) (nm_ : Nat) (nknown_ : Nat) (ntelling_ : Nat) (nimages_ : Nat) (nisImage_ : Nat) (mthrown_ : Int32) (ntape_ : Nat) (mtaped_ : Int32) (mlength_ : Int32) (mhead_ : Int32) (mbegin_ : Int32) (mtoken_ : Int32) (mvalue_ : Int32) (mbad_ : Int32) (mbadPlace_ : Int32) (mfaultKind_ : Int32) (mfaultPlace_ : Int32) (mdeep_ : Int32) (mlawMany_ : Int32) (mlawAt_ : Int32) (nstack_ : Nat) (nasked_ : Nat) (mfell_ : Int32) (mfellIn_ : Int32) (naside_ : Nat) (mstate_ : Int32) (mlanded_ : Int32) (mwaitFalls_ : Int32) (mwaitWeight_ : Int32) (nfallsAfter_ : Nat) (nfalling_ : Nat) (ncomes_ : Nat) (ngoesOn_ : Nat) (nwayRow_ : Nat) (nmany_ : Nat) (nmanyThen_ : Nat) (mtoldLet_ : Int32) (ntSort_ : Nat) (ntMany_ : Nat) (nnumbers_ : Nat) (fknown_ : Nat → Int32) (w_ : Int32) (C_ : Int) (L_ : Int) (hb_ : Int) (ha_ : Int) (hc_ : Int) (hha_ : -2000000 ≤ ha_) (hhc_ : hc_ ≤ 4000000) (hhb_ : hb_ ≤ 1000000) (rmtaped_ : rg (0) (900) mtaped_) (rmlength_ : rg (0) (900) mlength_) (rmhead_ : rg (0) (900) mhead_) (rmbegin_ : rg (0) (900) mbegin_) (rfknown_ : KX C_ L_ ha_ hc_ hb_ fknown_) : Ci l yX11_allThat cX11_allThat 4 (some .int) { frames := 1, cells := 0, slots := 0, locals := 22 } D cy [.ref nm_, .int w_] [(nm_, .inr (11, [.ref nknown_, .ref ntelling_, .ref nimages_, .ref nisImage_, .int mthrown_, .ref ntape_, .int mtaped_, .int mlength_, .int mhead_, .int mbegin_, .int mtoken_, .int mvalue_, .int mbad_, .int mbadPlace_, .int mfaultKind_, .int mfaultPlace_, .int mdeep_, .int mlawMany_, .int mlawAt_, .ref nstack_, .ref nasked_, .int mfell_, .int mfellIn_, .ref naside_, .int mstate_, .int mlanded_, .int mwaitFalls_, .int mwaitWeight_, .ref nfallsAfter_, .ref nfalling_, .ref ncomes_, .ref ngoesOn_, .ref nwayRow_, .ref nmany_, .ref nmanyThen_, .int mtoldLet_, .ref ntSort_, .ref ntMany_, .ref nnumbers_])), (nknown_, .inl (cy 0, 2260, .inl (fknown_)))] (fun r W1 => R_X11_allThat_e fknown_ w_ r ∧ W1 = [(nm_, .inr (11, [.ref nknown_, .ref ntelling_, .ref nimages_, .ref nisImage_, .int mthrown_, .ref ntape_, .int mtaped_, .int mlength_, .int mhead_, .int mbegin_, .int mtoken_, .int mvalue_, .int mbad_, .int mbadPlace_, .int mfaultKind_, .int mfaultPlace_, .int mdeep_, .int mlawMany_, .int mlawAt_, .ref nstack_, .ref nasked_, .int mfell_, .int mfellIn_, .ref naside_, .int mstate_, .int mlanded_, .int mwaitFalls_, .int mwaitWeight_, .ref nfallsAfter_, .ref nfalling_, .ref ncomes_, .ref ngoesOn_, .ref nwayRow_, .ref nmany_, .ref nmanyThen_, .int mtoldLet_, .ref ntSort_, .ref ntMany_, .ref nnumbers_])), (nknown_, .inl (cy 0, 2260, .inl (fknown_)))]) := by
  refine Ci.of (by decide) (Nat.le_of_ble_eq_true rfl) ?_
  intro p e s m below meth c A ls hX hE hP hD hl
  obtain ⟨hx, hb, hr, hml, hown, htA, hlk⟩ := id hX
  have hK := hE.1
  have hS : va_S A s.heap s.heap [] := va_S.rf
  have hl : lv_has ls 4 [(0, .ref nm_), (1, .int w_)] := hl
  refine lv_iconst (v := 0) hx hb dX11_allThat_0 (by decide) ?_
  refine lv_istore_n (lv' := [(2, .int 0), (0, .ref nm_), (1, .int w_)]) hx hb dX11_allThat_1 rfl hl (by decide) rfl (fun ls hl => ?_)
  refine lv_iconst (v := 0) hx hb dX11_allThat_2 (by decide) ?_
  refine lv_istore_n (lv' := [(3, .int 0), (2, .int 0), (0, .ref nm_), (1, .int w_)]) hx hb dX11_allThat_3 rfl hl (by decide) rfl (fun ls hl => ?_)
  refine loopT (τ := Int32 × Int32) (WS := fun i => [(nm_, .inr (11, [.ref nknown_, .ref ntelling_, .ref nimages_, .ref nisImage_, .int mthrown_, .ref ntape_, .int mtaped_, .int mlength_, .int mhead_, .int mbegin_, .int mtoken_, .int mvalue_, .int mbad_, .int mbadPlace_, .int mfaultKind_, .int mfaultPlace_, .int mdeep_, .int mlawMany_, .int mlawAt_, .ref nstack_, .ref nasked_, .int mfell_, .int mfellIn_, .ref naside_, .int mstate_, .int mlanded_, .int mwaitFalls_, .int mwaitWeight_, .ref nfallsAfter_, .ref nfalling_, .ref ncomes_, .ref ngoesOn_, .ref nwayRow_, .ref nmany_, .ref nmanyThen_, .int mtoldLet_, .ref ntSort_, .ref ntMany_, .ref nnumbers_])), (nknown_, .inl (cy 0, 2260, .inl (fknown_)))]) (LV := fun i => [(3, .int i.1), (2, .int i.2), (0, .ref nm_), (1, .int w_)]) (fun i => (902 - i.1.toInt).toNat) (fun i => rg (0) (901) i.1 ∧ Itr (R_X11_allThat_b1 fknown_ w_) (0, 0) (i.1, i.2)) ?_ (0, 0) ⟨(rg_w (rg_lit (by decide) : rg (0) (0) (0 : Int32)) (by decide) (by decide)), (Itr.rf _ _)⟩ hP hD hS (lv_sub hl [0, 1, 2, 3] rfl)
  intro i_ H locs ls hI ih4_ hP hD hS hl
  obtain ⟨v200400_, v200401_⟩ := i_
  have hI : rg (0) (901) v200400_ ∧ Itr (R_X11_allThat_b1 fknown_ w_) (0, 0) (v200400_, v200401_) := hI
  obtain ⟨rv200400_, hR1_⟩ := hI
  have hP : va_P D vwCl [(nm_, .inr (11, [.ref nknown_, .ref ntelling_, .ref nimages_, .ref nisImage_, .int mthrown_, .ref ntape_, .int mtaped_, .int mlength_, .int mhead_, .int mbegin_, .int mtoken_, .int mvalue_, .int mbad_, .int mbadPlace_, .int mfaultKind_, .int mfaultPlace_, .int mdeep_, .int mlawMany_, .int mlawAt_, .ref nstack_, .ref nasked_, .int mfell_, .int mfellIn_, .ref naside_, .int mstate_, .int mlanded_, .int mwaitFalls_, .int mwaitWeight_, .ref nfallsAfter_, .ref nfalling_, .ref ncomes_, .ref ngoesOn_, .ref nwayRow_, .ref nmany_, .ref nmanyThen_, .int mtoldLet_, .ref ntSort_, .ref ntMany_, .ref nnumbers_])), (nknown_, .inl (cy 0, 2260, .inl (fknown_)))] H := hP
  have hD := va_ca hP hD
  have hl : lv_has ls 4 [(3, .int v200400_), (2, .int v200401_), (0, .ref nm_), (1, .int w_)] := hl
  refine lv_iload_n hx hb dX11_allThat_4 rfl (lv_at hl 0 rfl) ?_
  refine lv_aload_n hx hb dX11_allThat_5 rfl (lv_at hl 2 rfl) ?_
  refine kVi (As := []) (rest := [.int v200400_]) (wr := []) hX hE (sf_X11_things l D cy nm_ nknown_ ntelling_ nimages_ nisImage_ mthrown_ ntape_ mtaped_ mlength_ mhead_ mbegin_ mtoken_ mvalue_ mbad_ mbadPlace_ mfaultKind_ mfaultPlace_ mdeep_ mlawMany_ mlawAt_ nstack_ nasked_ mfell_ mfellIn_ naside_ mstate_ mlanded_ mwaitFalls_ mwaitWeight_ nfallsAfter_ nfalling_ ncomes_ ngoesOn_ nwayRow_ nmany_ nmanyThen_ mtoldLet_ ntSort_ ntMany_ nnumbers_ fknown_ C_ L_ hb_ ha_ hc_ (by omega) (by omega) (by omega) (rg_w rmtaped_ (by decide) (by decide)) (rg_w rmlength_ (by decide) (by decide)) (rg_w rmhead_ (by decide) (by decide)) (rg_w rmbegin_ (by decide) (by decide)) rfknown_) (cwVA 0 htA wd_1645 wd_1642 wd_10 wd_1644 wp_71 (by decide +kernel) ⟨by decide, by decide⟩) hP hD hS [0, 1] [] rfl rfl (by decide +kernel) 0 rfl rfl rfl rfl hl.1 rfl (Nat.le_of_ble_eq_true rfl) dX11_allThat_6 (by decide) (fun v10060_ W1 H locs hw hP hD hS => ?_)
  refine W.widen (k := 0) (n := 0) (by decide) (by decide) ?_
  obtain ⟨ev10060_, k6_1_, rfl, kr6_⟩ := hw
  have hP : va_P D vwCl [(nm_, .inr (11, [.ref nknown_, .ref ntelling_, .ref nimages_, .ref nisImage_, .int mthrown_, .ref ntape_, .int mtaped_, .int mlength_, .int mhead_, .int mbegin_, .int mtoken_, .int mvalue_, .int mbad_, .int mbadPlace_, .int mfaultKind_, .int mfaultPlace_, .int mdeep_, .int mlawMany_, .int mlawAt_, .ref nstack_, .ref nasked_, .int mfell_, .int mfellIn_, .ref naside_, .int mstate_, .int mlanded_, .int mwaitFalls_, .int mwaitWeight_, .ref nfallsAfter_, .ref nfalling_, .ref ncomes_, .ref ngoesOn_, .ref nwayRow_, .ref nmany_, .ref nmanyThen_, .int mtoldLet_, .ref ntSort_, .ref ntMany_, .ref nnumbers_])), (nknown_, .inl (cy 0, 2260, .inl (fknown_)))] H := hP
  have hD := va_ca hP hD
  refine lv_icmp_ge (tgt := 35) hx hb dX11_allThat_9 (by decide) (fun c9_ => ?_) (fun c9_ => ?_)
  · refine lv_iload_n hx hb dX11_allThat_35 rfl (lv_at hl 1 rfl) ?_
    exact rI hX hE hP hD hS dX11_allThat_36 (by decide) (by decide) ⟨(Or.inl ⟨v200400_, v200401_, v10060_, hR1_, k6_1_, c9_, rfl⟩), rfl⟩
  · have g1_ : rg (0) (7) v200400_ := rg_lt1 (rg_nle c9_) rv200400_ kr6_ (by decide)
    have g2_ : rg (1) (8) v10060_ := rg_lt2 (rg_nle c9_) rv200400_ kr6_ (by decide)
    refine lv_iload_n hx hb dX11_allThat_12 rfl (lv_at hl 1 rfl) ?_
    refine lv_aload_n hx hb dX11_allThat_13 rfl (lv_at hl 2 rfl) ?_
    refine lv_iload_n hx hb dX11_allThat_14 rfl (lv_at hl 0 rfl) ?_
    refine lv_iload_n hx hb dX11_allThat_15 rfl (lv_at hl 3 rfl) ?_
    refine kVi (As := [.int v200400_, .int w_]) (rest := [.int v200401_]) (wr := []) hX hE (sf_X11_is l D cy nm_ nknown_ ntelling_ nimages_ nisImage_ mthrown_ ntape_ mtaped_ mlength_ mhead_ mbegin_ mtoken_ mvalue_ mbad_ mbadPlace_ mfaultKind_ mfaultPlace_ mdeep_ mlawMany_ mlawAt_ nstack_ nasked_ mfell_ mfellIn_ naside_ mstate_ mlanded_ mwaitFalls_ mwaitWeight_ nfallsAfter_ nfalling_ ncomes_ ngoesOn_ nwayRow_ nmany_ nmanyThen_ mtoldLet_ ntSort_ ntMany_ nnumbers_ fknown_ v200400_ w_ C_ L_ hb_ ha_ hc_ (by omega) (by omega) (by omega) (rg_w rmtaped_ (by decide) (by decide)) (rg_w rmlength_ (by decide) (by decide)) (rg_w rmhead_ (by decide) (by decide)) (rg_w rmbegin_ (by decide) (by decide)) (rg_w g1_ (by decide) (by decide)) rfknown_) (cwVA 2 htA wd_1649 wd_1646 wd_10 wd_1648 wp_72 (by decide +kernel) ⟨by decide, by decide⟩) hP hD hS [0, 1] [] rfl rfl (by decide +kernel) 0 rfl rfl rfl rfl hl.1 rfl (Nat.le_of_ble_eq_true rfl) dX11_allThat_16 (by decide) (fun v10160_ W1 H locs hw hP hD hS => ?_)
    refine W.widen (k := 0) (n := 0) (by decide) (by decide) ?_
    obtain ⟨k16_0_, rfl, kr16_⟩ := hw
    have hP : va_P D vwCl [(nm_, .inr (11, [.ref nknown_, .ref ntelling_, .ref nimages_, .ref nisImage_, .int mthrown_, .ref ntape_, .int mtaped_, .int mlength_, .int mhead_, .int mbegin_, .int mtoken_, .int mvalue_, .int mbad_, .int mbadPlace_, .int mfaultKind_, .int mfaultPlace_, .int mdeep_, .int mlawMany_, .int mlawAt_, .ref nstack_, .ref nasked_, .int mfell_, .int mfellIn_, .ref naside_, .int mstate_, .int mlanded_, .int mwaitFalls_, .int mwaitWeight_, .ref nfallsAfter_, .ref nfalling_, .ref ncomes_, .ref ngoesOn_, .ref nwayRow_, .ref nmany_, .ref nmanyThen_, .int mtoldLet_, .ref ntSort_, .ref ntMany_, .ref nnumbers_])), (nknown_, .inl (cy 0, 2260, .inl (fknown_)))] H := hP
    have hD := va_ca hP hD
    refine joinT (D := D) (A := A) (pc := 27) (mL := 4) (τ := Int32) (WS := fun i => [(nm_, .inr (11, [.ref nknown_, .ref ntelling_, .ref nimages_, .ref nisImage_, .int mthrown_, .ref ntape_, .int mtaped_, .int mlength_, .int mhead_, .int mbegin_, .int mtoken_, .int mvalue_, .int mbad_, .int mbadPlace_, .int mfaultKind_, .int mfaultPlace_, .int mdeep_, .int mlawMany_, .int mlawAt_, .ref nstack_, .ref nasked_, .int mfell_, .int mfellIn_, .ref naside_, .int mstate_, .int mlanded_, .int mwaitFalls_, .int mwaitWeight_, .ref nfallsAfter_, .ref nfalling_, .ref ncomes_, .ref ngoesOn_, .ref nwayRow_, .ref nmany_, .ref nmanyThen_, .int mtoldLet_, .ref ntSort_, .ref ntMany_, .ref nnumbers_])), (nknown_, .inl (cy 0, 2260, .inl (fknown_)))]) (LV := fun i => [(3, .int v200400_), (2, .int v200401_), (0, .ref nm_), (1, .int w_)]) (ST := fun i => [.int i, .int v200401_]) (cells := 0) (slots := 0) (fun i => rg (0) (1) i ∧ R_X11_allThat_j3 v10160_ i) (fun v202700_ H locs ls hI hP hD hS hl => ?_) (fun j27_ => ?_)
    · have hI : rg (0) (1) v202700_ ∧ R_X11_allThat_j3 v10160_ v202700_ := hI
      obtain ⟨rv202700_, hR3_⟩ := hI
      have hP : va_P D vwCl [(nm_, .inr (11, [.ref nknown_, .ref ntelling_, .ref nimages_, .ref nisImage_, .int mthrown_, .ref ntape_, .int mtaped_, .int mlength_, .int mhead_, .int mbegin_, .int mtoken_, .int mvalue_, .int mbad_, .int mbadPlace_, .int mfaultKind_, .int mfaultPlace_, .int mdeep_, .int mlawMany_, .int mlawAt_, .ref nstack_, .ref nasked_, .int mfell_, .int mfellIn_, .ref naside_, .int mstate_, .int mlanded_, .int mwaitFalls_, .int mwaitWeight_, .ref nfallsAfter_, .ref nfalling_, .ref ncomes_, .ref ngoesOn_, .ref nwayRow_, .ref nmany_, .ref nmanyThen_, .int mtoldLet_, .ref ntSort_, .ref ntMany_, .ref nnumbers_])), (nknown_, .inl (cy 0, 2260, .inl (fknown_)))] H := hP
      have hD := va_ca hP hD
      have hl : lv_has ls 4 [(3, .int v200400_), (2, .int v200401_), (0, .ref nm_), (1, .int w_)] := hl
      refine lv_iadd hx hb dX11_allThat_27 ?_
      refine lv_istore_n (lv' := [(2, .int (v200401_ + v202700_)), (3, .int v200400_), (0, .ref nm_), (1, .int w_)]) hx hb dX11_allThat_28 rfl hl (by decide) rfl (fun ls hl => ?_)
      refine lv_iinc (v := v200400_ + 1) (lv' := [(3, .int (v200400_ + 1)), (2, .int (v200401_ + v202700_)), (0, .ref nm_), (1, .int w_)]) hx hb dX11_allThat_29 hl (k := 1) rfl rfl (by decide) rfl (fun ls hl => ?_)
      have g3_ : rg (1) (8) (v200400_ + 1) := rg_add g1_ (rg_lit (by decide) : rg (1) (1) (1 : Int32)) (by decide) (by decide) (by decide) (by decide)
      refine lv_goto (tgt := 4) hx hb dX11_allThat_32 (by decide) ?_
      exact ih4_ (v200400_ + 1, v200401_ + v202700_) _ _ ls ⟨(rg_w g3_ (by decide) (by decide)), (Itr.st hR1_ (Or.inl ⟨v10060_, v10160_, v202700_, k6_1_, c9_, k16_0_, hR3_, rfl⟩))⟩ (show (902 - (v200400_ + 1).toInt).toNat < (902 - v200400_.toInt).toNat from by rw [show (v200400_ + 1).toInt = v200400_.toInt + 1 from inc32 v200400_ (by have hq := (rv200400_).2; omega)]; have hq := (g1_).1; have hq2 := (g1_).2; omega) hP hD hS (lv_sub hl [0, 1, 2, 3] rfl)
    refine lv_if_eq (tgt := 26) hx hb dX11_allThat_19 (by decide) (fun c19_ => ?_) (fun c19_ => ?_)
    · have g4_ : rg (0) (0) v10160_ := rg_eq c19_ (rg_lit (by decide) : rg (0) (0) (0 : Int32))
      refine lv_iconst (v := 0) hx hb dX11_allThat_26 (by decide) ?_
      exact j27_ 0 _ _ ls ⟨(rg_w (rg_lit (by decide) : rg (0) (0) (0 : Int32)) (by decide) (by decide)), (Or.inl ⟨c19_, rfl⟩)⟩ hP hD hS (lv_sub hl [0, 1, 2, 3] rfl)
    · have g5_ : rg (1) (1) v10160_ := rg_ne1 c19_ kr16_ (by decide) (by decide)
      refine lv_iconst (v := 1) hx hb dX11_allThat_22 (by decide) ?_
      refine lv_goto (tgt := 27) hx hb dX11_allThat_23 (by decide) ?_
      exact j27_ 1 _ _ ls ⟨(rg_w (rg_lit (by decide) : rg (1) (1) (1 : Int32)) (by decide) (by decide)), (Or.inr (Or.inl ⟨c19_, rfl⟩))⟩ hP hD hS (lv_sub hl [0, 1, 2, 3] rfl)
def R_X11_height_j1 (v10080_ : Int32) (fknown_ : Nat → Int32) (c_ : Int32) (v202700_ : Int32) (v202701_ : Int32) : Prop := (∃ (v10240_ : Int32), v10080_ = (0 : Int32) ∧ R_X11_fails_e v10240_ ∧ v202700_ = v10240_ ∧ v202701_ = (1 : Int32)) ∨ (∃ (v10160_ : Int32), ¬ (v10080_ = (0 : Int32)) ∧ R_X11_lying_e fknown_ c_ v10160_ ∧ v202700_ = v10160_ ∧ v202701_ = (0 : Int32)) ∨ False
def R_X11_height_e (fknown_ : Nat → Int32) (c_ : Int32) (x0_ : Int32) (r : Int32) : Prop := (∃ (v10080_ : Int32) (v202700_ : Int32) (v202701_ : Int32), R_X11_isColumn_e fknown_ c_.toInt64 v10080_ ∧ R_X11_height_j1 v10080_ fknown_ c_ v202700_ v202701_ ∧ x0_ = v202701_ ∧ r = v202700_) ∨ False
set_option maxHeartbeats 4000000 in
set_option maxRecDepth 100000 in
theorem sf_X11_height (l : Launch) (D : va_G) (cy : Nat → ClassId) (nm_ : Nat) (nknown_ : Nat) (ntelling_ : Nat) (nimages_ : Nat) (nisImage_ : Nat) (mthrown_ : Int32) (ntape_ : Nat) (mtaped_ : Int32) (mlength_ : Int32) (mhead_ : Int32) (mbegin_ : Int32) (mtoken_ : Int32) (mvalue_ : Int32) (mbad_ : Int32) (mbadPlace_ : Int32) (mfaultKind_ : Int32) (mfaultPlace_ : Int32) (mdeep_ : Int32) (mlawMany_ : Int32) (mlawAt_ : Int32) (nstack_ : Nat) (nasked_ : Nat) (mfell_ : Int32) (mfellIn_ : Int32) (naside_ : Nat) (mstate_ : Int32) (mlanded_ : Int32) (mwaitFalls_ : Int32) (mwaitWeight_ : Int32) (nfallsAfter_ : Nat) (nfalling_ : Nat) (ncomes_ : Nat) (ngoesOn_ : Nat) (nwayRow_ : Nat) (nmany_ : Nat) (nmanyThen_ : Nat) (mtoldLet_ : Int32) (ntSort_ : Nat) (ntMany_ : Nat) (nnumbers_ : Nat) (fknown_ : Nat → Int32) (c_ : Int32) (C_ : Int) (L_ : Int) (hb_ : Int) (ha_ : Int) (hc_ : Int) (hha_ : -2000000 ≤ ha_) (hhc_ : hc_ ≤ 4000000) (hhb_ : hb_ ≤ 1000000) (rmtaped_ : rg (0) (900) mtaped_) (rmlength_ : rg (0) (900) mlength_) (rmhead_ : rg (0) (900) mhead_) (rmbegin_ : rg (0) (900) mbegin_) (rfknown_ : KX C_ L_ ha_ hc_ hb_ fknown_) : Ci l yX11_height cX11_height 2 (some .int) { frames := 2, cells := 0, slots := 0, locals := 47 } D cy [.ref nm_, .int c_] [(nm_, .inr (11, [.ref nknown_, .ref ntelling_, .ref nimages_, .ref nisImage_, .int mthrown_, .ref ntape_, .int mtaped_, .int mlength_, .int mhead_, .int mbegin_, .int mtoken_, .int mvalue_, .int mbad_, .int mbadPlace_, .int mfaultKind_, .int mfaultPlace_, .int mdeep_, .int mlawMany_, .int mlawAt_, .ref nstack_, .ref nasked_, .int mfell_, .int mfellIn_, .ref naside_, .int mstate_, .int mlanded_, .int mwaitFalls_, .int mwaitWeight_, .ref nfallsAfter_, .ref nfalling_, .ref ncomes_, .ref ngoesOn_, .ref nwayRow_, .ref nmany_, .ref nmanyThen_, .int mtoldLet_, .ref ntSort_, .ref ntMany_, .ref nnumbers_])), (nknown_, .inl (cy 0, 2260, .inl (fknown_)))] (fun r W1 => ∃ (x0_ : Int32), rg (0) (1) x0_ ∧ R_X11_height_e fknown_ c_ x0_ r ∧ W1 = [(nm_, .inr (11, [.ref nknown_, .ref ntelling_, .ref nimages_, .ref nisImage_, .int x0_, .ref ntape_, .int mtaped_, .int mlength_, .int mhead_, .int mbegin_, .int mtoken_, .int mvalue_, .int mbad_, .int mbadPlace_, .int mfaultKind_, .int mfaultPlace_, .int mdeep_, .int mlawMany_, .int mlawAt_, .ref nstack_, .ref nasked_, .int mfell_, .int mfellIn_, .ref naside_, .int mstate_, .int mlanded_, .int mwaitFalls_, .int mwaitWeight_, .ref nfallsAfter_, .ref nfalling_, .ref ncomes_, .ref ngoesOn_, .ref nwayRow_, .ref nmany_, .ref nmanyThen_, .int mtoldLet_, .ref ntSort_, .ref ntMany_, .ref nnumbers_])), (nknown_, .inl (cy 0, 2260, .inl (fknown_)))]) := by
  refine Ci.of (by decide) (Nat.le_of_ble_eq_true rfl) ?_
  intro p e s m below meth c A ls hX hE hP hD hl
  obtain ⟨hx, hb, hr, hml, hown, htA, hlk⟩ := id hX
  have hK := hE.1
  have hS : va_S A s.heap s.heap [] := va_S.rf
  have hl : lv_has ls 2 [(0, .ref nm_), (1, .int c_)] := hl
  refine lv_aload_n hx hb dX11_height_0 rfl (lv_at hl 0 rfl) ?_
  refine lv_iconst (v := 0) hx hb dX11_height_1 (by decide) ?_
  refine va_put (ci := 11) (v := .int 0) (ty := .int) (C := RX11) (T := TX11) (N := 39) hx hb htA in_X11 tyX11 tyX11_ok nmX11 hown hK hP hD hS 0 rfl rfl 4 (by decide) (htA _ wd_1358) (fun _ h => h) rfl (by decide +kernel) rfl rfl (Nat.le_of_ble_eq_true rfl) dX11_height_2 (fun H locs hP hD hS => ?_)
  have hP : va_P D vwCl [(nm_, .inr (11, [.ref nknown_, .ref ntelling_, .ref nimages_, .ref nisImage_, .int 0, .ref ntape_, .int mtaped_, .int mlength_, .int mhead_, .int mbegin_, .int mtoken_, .int mvalue_, .int mbad_, .int mbadPlace_, .int mfaultKind_, .int mfaultPlace_, .int mdeep_, .int mlawMany_, .int mlawAt_, .ref nstack_, .ref nasked_, .int mfell_, .int mfellIn_, .ref naside_, .int mstate_, .int mlanded_, .int mwaitFalls_, .int mwaitWeight_, .ref nfallsAfter_, .ref nfalling_, .ref ncomes_, .ref ngoesOn_, .ref nwayRow_, .ref nmany_, .ref nmanyThen_, .int mtoldLet_, .ref ntSort_, .ref ntMany_, .ref nnumbers_])), (nknown_, .inl (cy 0, 2260, .inl (fknown_)))] H := hP
  have hD := va_ca hP hD
  refine lv_aload_n hx hb dX11_height_5 rfl (lv_at hl 0 rfl) ?_
  refine lv_iload_n hx hb dX11_height_6 rfl (lv_at hl 1 rfl) ?_
  refine lv_i2l hx hb dX11_height_7 rfl ?_
  have g1_ : rl (-2147483648) (2147483647) c_.toInt64 := rl_i2l (rg_any _)
  refine kVi (As := [.long c_.toInt64]) (rest := []) (wr := []) hX hE (sf_X11_isColumn l D cy nm_ nknown_ ntelling_ nimages_ nisImage_ (0 : Int32) ntape_ mtaped_ mlength_ mhead_ mbegin_ mtoken_ mvalue_ mbad_ mbadPlace_ mfaultKind_ mfaultPlace_ mdeep_ mlawMany_ mlawAt_ nstack_ nasked_ mfell_ mfellIn_ naside_ mstate_ mlanded_ mwaitFalls_ mwaitWeight_ nfallsAfter_ nfalling_ ncomes_ ngoesOn_ nwayRow_ nmany_ nmanyThen_ mtoldLet_ ntSort_ ntMany_ nnumbers_ fknown_ c_.toInt64 C_ L_ hb_ ha_ hc_ (by omega) (by omega) (by omega) (rg_w rmtaped_ (by decide) (by decide)) (rg_w rmlength_ (by decide) (by decide)) (rg_w rmhead_ (by decide) (by decide)) (rg_w rmbegin_ (by decide) (by decide)) rfknown_) (cwVA 1 htA wd_1683 wd_1680 wd_10 wd_1682 wp_76 (by decide +kernel) ⟨by decide, by decide⟩) hP hD hS [0, 1] [] rfl rfl (by decide +kernel) 0 rfl rfl rfl rfl hl.1 rfl (Nat.le_of_ble_eq_true rfl) dX11_height_8 (by decide) (fun v10080_ W1 H locs hw hP hD hS => ?_)
  refine W.widen (k := 0) (n := 0) (by decide) (by decide) ?_
  obtain ⟨k8_0_, rfl, kr8_⟩ := hw
  have hP : va_P D vwCl [(nm_, .inr (11, [.ref nknown_, .ref ntelling_, .ref nimages_, .ref nisImage_, .int 0, .ref ntape_, .int mtaped_, .int mlength_, .int mhead_, .int mbegin_, .int mtoken_, .int mvalue_, .int mbad_, .int mbadPlace_, .int mfaultKind_, .int mfaultPlace_, .int mdeep_, .int mlawMany_, .int mlawAt_, .ref nstack_, .ref nasked_, .int mfell_, .int mfellIn_, .ref naside_, .int mstate_, .int mlanded_, .int mwaitFalls_, .int mwaitWeight_, .ref nfallsAfter_, .ref nfalling_, .ref ncomes_, .ref ngoesOn_, .ref nwayRow_, .ref nmany_, .ref nmanyThen_, .int mtoldLet_, .ref ntSort_, .ref ntMany_, .ref nnumbers_])), (nknown_, .inl (cy 0, 2260, .inl (fknown_)))] H := hP
  have hD := va_ca hP hD
  refine joinT (D := D) (A := A) (pc := 27) (mL := 2) (τ := Int32 × Int32) (WS := fun i => [(nm_, .inr (11, [.ref nknown_, .ref ntelling_, .ref nimages_, .ref nisImage_, .int i.2, .ref ntape_, .int mtaped_, .int mlength_, .int mhead_, .int mbegin_, .int mtoken_, .int mvalue_, .int mbad_, .int mbadPlace_, .int mfaultKind_, .int mfaultPlace_, .int mdeep_, .int mlawMany_, .int mlawAt_, .ref nstack_, .ref nasked_, .int mfell_, .int mfellIn_, .ref naside_, .int mstate_, .int mlanded_, .int mwaitFalls_, .int mwaitWeight_, .ref nfallsAfter_, .ref nfalling_, .ref ncomes_, .ref ngoesOn_, .ref nwayRow_, .ref nmany_, .ref nmanyThen_, .int mtoldLet_, .ref ntSort_, .ref ntMany_, .ref nnumbers_])), (nknown_, .inl (cy 0, 2260, .inl (fknown_)))]) (LV := fun i => [(0, .ref nm_), (1, .int c_)]) (ST := fun i => [.int i.1]) (cells := 0) (slots := 0) (fun i => rg (0) (1) i.2 ∧ R_X11_height_j1 v10080_ fknown_ c_ i.1 i.2) (fun i_ H locs ls hI hP hD hS hl => ?_) (fun j27_ => ?_)
  · obtain ⟨v202700_, v202701_⟩ := i_
    have hI : rg (0) (1) v202701_ ∧ R_X11_height_j1 v10080_ fknown_ c_ v202700_ v202701_ := hI
    obtain ⟨rv202701_, hR1_⟩ := hI
    have hP : va_P D vwCl [(nm_, .inr (11, [.ref nknown_, .ref ntelling_, .ref nimages_, .ref nisImage_, .int v202701_, .ref ntape_, .int mtaped_, .int mlength_, .int mhead_, .int mbegin_, .int mtoken_, .int mvalue_, .int mbad_, .int mbadPlace_, .int mfaultKind_, .int mfaultPlace_, .int mdeep_, .int mlawMany_, .int mlawAt_, .ref nstack_, .ref nasked_, .int mfell_, .int mfellIn_, .ref naside_, .int mstate_, .int mlanded_, .int mwaitFalls_, .int mwaitWeight_, .ref nfallsAfter_, .ref nfalling_, .ref ncomes_, .ref ngoesOn_, .ref nwayRow_, .ref nmany_, .ref nmanyThen_, .int mtoldLet_, .ref ntSort_, .ref ntMany_, .ref nnumbers_])), (nknown_, .inl (cy 0, 2260, .inl (fknown_)))] H := hP
    have hD := va_ca hP hD
    have hl : lv_has ls 2 [(0, .ref nm_), (1, .int c_)] := hl
    exact rI hX hE hP hD hS dX11_height_27 (by decide) (by decide) ⟨v202701_, (rg_w rv202701_ (by decide) (by decide)), (Or.inl ⟨v10080_, v202700_, v202701_, k8_0_, hR1_, rfl, rfl⟩), rfl⟩
  refine lv_if_eq (tgt := 22) hx hb dX11_height_11 (by decide) (fun c11_ => ?_) (fun c11_ => ?_)
  · have g2_ : rg (0) (0) v10080_ := rg_eq c11_ (rg_lit (by decide) : rg (0) (0) (0 : Int32))
    refine lv_aload_n hx hb dX11_height_22 rfl (lv_at hl 0 rfl) ?_
    refine lv_iconst (v := 1) hx hb dX11_height_23 (by decide) ?_
    refine kVi (As := [.int 1]) (rest := []) (wr := [(nknown_, .inl (cy 0, 2260, .inl (fknown_)))]) hX hE (sf_X11_fails l D cy nm_ nknown_ ntelling_ nimages_ nisImage_ (0 : Int32) ntape_ mtaped_ mlength_ mhead_ mbegin_ mtoken_ mvalue_ mbad_ mbadPlace_ mfaultKind_ mfaultPlace_ mdeep_ mlawMany_ mlawAt_ nstack_ nasked_ mfell_ mfellIn_ naside_ mstate_ mlanded_ mwaitFalls_ mwaitWeight_ nfallsAfter_ nfalling_ ncomes_ ngoesOn_ nwayRow_ nmany_ nmanyThen_ mtoldLet_ ntSort_ ntMany_ nnumbers_ (1 : Int32) (rg_w rmtaped_ (by decide) (by decide)) (rg_w rmlength_ (by decide) (by decide)) (rg_w rmhead_ (by decide) (by decide)) (rg_w rmbegin_ (by decide) (by decide))) (cwVA 1 htA wd_1487 wd_1484 wd_10 wd_1486 wp_41 (by decide +kernel) ⟨by decide, by decide⟩) hP hD hS [0] [1] rfl rfl (by decide +kernel) 0 rfl rfl rfl rfl hl.1 rfl (Nat.le_of_ble_eq_true rfl) dX11_height_24 (by decide) (fun v10240_ W1 H locs hw hP hD hS => ?_)
    refine W.widen (k := 0) (n := 0) (by decide) (by decide) ?_
    obtain ⟨k24_0_, rfl, kr24_⟩ := hw
    have hP : va_P D vwCl [(nknown_, .inl (cy 0, 2260, .inl (fknown_))), (nm_, .inr (11, [.ref nknown_, .ref ntelling_, .ref nimages_, .ref nisImage_, .int 1, .ref ntape_, .int mtaped_, .int mlength_, .int mhead_, .int mbegin_, .int mtoken_, .int mvalue_, .int mbad_, .int mbadPlace_, .int mfaultKind_, .int mfaultPlace_, .int mdeep_, .int mlawMany_, .int mlawAt_, .ref nstack_, .ref nasked_, .int mfell_, .int mfellIn_, .ref naside_, .int mstate_, .int mlanded_, .int mwaitFalls_, .int mwaitWeight_, .ref nfallsAfter_, .ref nfalling_, .ref ncomes_, .ref ngoesOn_, .ref nwayRow_, .ref nmany_, .ref nmanyThen_, .int mtoldLet_, .ref ntSort_, .ref ntMany_, .ref nnumbers_]))] H := hP
    have hD := va_ca hP hD
    have hP : va_P D vwCl [(nm_, .inr (11, [.ref nknown_, .ref ntelling_, .ref nimages_, .ref nisImage_, .int 1, .ref ntape_, .int mtaped_, .int mlength_, .int mhead_, .int mbegin_, .int mtoken_, .int mvalue_, .int mbad_, .int mbadPlace_, .int mfaultKind_, .int mfaultPlace_, .int mdeep_, .int mlawMany_, .int mlawAt_, .ref nstack_, .ref nasked_, .int mfell_, .int mfellIn_, .ref naside_, .int mstate_, .int mlanded_, .int mwaitFalls_, .int mwaitWeight_, .ref nfallsAfter_, .ref nfalling_, .ref ncomes_, .ref ngoesOn_, .ref nwayRow_, .ref nmany_, .ref nmanyThen_, .int mtoldLet_, .ref ntSort_, .ref ntMany_, .ref nnumbers_])), (nknown_, .inl (cy 0, 2260, .inl (fknown_)))] H := hP.sub [1, 0] rfl
    have hD : va_D A [(nm_, .inr (11, [.ref nknown_, .ref ntelling_, .ref nimages_, .ref nisImage_, .int 1, .ref ntape_, .int mtaped_, .int mlength_, .int mhead_, .int mbegin_, .int mtoken_, .int mvalue_, .int mbad_, .int mbadPlace_, .int mfaultKind_, .int mfaultPlace_, .int mdeep_, .int mlawMany_, .int mlawAt_, .ref nstack_, .ref nasked_, .int mfell_, .int mfellIn_, .ref naside_, .int mstate_, .int mlanded_, .int mwaitFalls_, .int mwaitWeight_, .ref nfallsAfter_, .ref nfalling_, .ref ncomes_, .ref ngoesOn_, .ref nwayRow_, .ref nmany_, .ref nmanyThen_, .int mtoldLet_, .ref ntSort_, .ref ntMany_, .ref nnumbers_])), (nknown_, .inl (cy 0, 2260, .inl (fknown_)))] := hD.sub [1, 0] (by decide +kernel) rfl
    exact j27_ (v10240_, 1) _ _ ls ⟨(rg_w (rg_lit (by decide) : rg (1) (1) (1 : Int32)) (by decide) (by decide)), (Or.inl ⟨v10240_, c11_, k24_0_, rfl, rfl⟩)⟩ hP hD hS (lv_sub hl [0, 1] rfl)
  · have g3_ : rg (1) (1) v10080_ := rg_ne1 c11_ kr8_ (by decide) (by decide)
    refine lv_aload_n hx hb dX11_height_14 rfl (lv_at hl 0 rfl) ?_
    refine lv_iload_n hx hb dX11_height_15 rfl (lv_at hl 1 rfl) ?_
    refine kVi (As := [.int c_]) (rest := []) (wr := []) hX hE (sf_X11_lying l D cy nm_ nknown_ ntelling_ nimages_ nisImage_ (0 : Int32) ntape_ mtaped_ mlength_ mhead_ mbegin_ mtoken_ mvalue_ mbad_ mbadPlace_ mfaultKind_ mfaultPlace_ mdeep_ mlawMany_ mlawAt_ nstack_ nasked_ mfell_ mfellIn_ naside_ mstate_ mlanded_ mwaitFalls_ mwaitWeight_ nfallsAfter_ nfalling_ ncomes_ ngoesOn_ nwayRow_ nmany_ nmanyThen_ mtoldLet_ ntSort_ ntMany_ nnumbers_ fknown_ c_ C_ L_ hb_ ha_ hc_ (by omega) (by omega) (by omega) (rg_w rmtaped_ (by decide) (by decide)) (rg_w rmlength_ (by decide) (by decide)) (rg_w rmhead_ (by decide) (by decide)) (rg_w rmbegin_ (by decide) (by decide)) rfknown_) (cwVA 1 htA wd_1687 wd_1684 wd_10 wd_1686 wp_77 (by decide +kernel) ⟨by decide, by decide⟩) hP hD hS [0, 1] [] rfl rfl (by decide +kernel) 0 rfl rfl rfl rfl hl.1 rfl (Nat.le_of_ble_eq_true rfl) dX11_height_16 (by decide) (fun v10160_ W1 H locs hw hP hD hS => ?_)
    refine W.widen (k := 0) (n := 0) (by decide) (by decide) ?_
    obtain ⟨k16_0_, rfl⟩ := hw
    have hP : va_P D vwCl [(nm_, .inr (11, [.ref nknown_, .ref ntelling_, .ref nimages_, .ref nisImage_, .int 0, .ref ntape_, .int mtaped_, .int mlength_, .int mhead_, .int mbegin_, .int mtoken_, .int mvalue_, .int mbad_, .int mbadPlace_, .int mfaultKind_, .int mfaultPlace_, .int mdeep_, .int mlawMany_, .int mlawAt_, .ref nstack_, .ref nasked_, .int mfell_, .int mfellIn_, .ref naside_, .int mstate_, .int mlanded_, .int mwaitFalls_, .int mwaitWeight_, .ref nfallsAfter_, .ref nfalling_, .ref ncomes_, .ref ngoesOn_, .ref nwayRow_, .ref nmany_, .ref nmanyThen_, .int mtoldLet_, .ref ntSort_, .ref ntMany_, .ref nnumbers_])), (nknown_, .inl (cy 0, 2260, .inl (fknown_)))] H := hP
    have hD := va_ca hP hD
    refine lv_goto (tgt := 27) hx hb dX11_height_19 (by decide) ?_
    exact j27_ (v10160_, 0) _ _ ls ⟨(rg_w (rg_lit (by decide) : rg (0) (0) (0 : Int32)) (by decide) (by decide)), (Or.inr (Or.inl ⟨v10160_, c11_, k16_0_, rfl, rfl⟩))⟩ hP hD hS (lv_sub hl [0, 1] rfl)
def R_X11_count_e (w_ : Int32) (fknown_ : Nat → Int32) (mtaped_ : Int32) (r : Int32) : Prop := (∃ (v10730_ : Int32), (0 : Int32) = w_ ∧ v10730_ = fknown_ (0 : Int32).toNatClampNeg ∧ r = v10730_) ∨ (∃ (v10800_ : Int32), (1 : Int32) = w_ ∧ v10800_ = fknown_ (1 : Int32).toNatClampNeg ∧ r = v10800_) ∨ (∃ (v10870_ : Int32), (2 : Int32) = w_ ∧ v10870_ = fknown_ (2 : Int32).toNatClampNeg ∧ r = v10870_) ∨ (∃ (v10900_ : Int32), (3 : Int32) = w_ ∧ R_X11_things_e fknown_ v10900_ ∧ r = v10900_) ∨ (∃ (v10960_ : Int32), (4 : Int32) = w_ ∧ R_X11_allThat_e fknown_ ((0 : Int32)) v10960_ ∧ r = v10960_) ∨ (∃ (v11020_ : Int32), (5 : Int32) = w_ ∧ R_X11_allThat_e fknown_ ((1 : Int32)) v11020_ ∧ r = v11020_) ∨ (∃ (v11070_ : Int32), (6 : Int32) = w_ ∧ R_X11_lyingAll_e fknown_ v11070_ ∧ r = v11070_) ∨ (∃ (v11160_ : Int32), (7 : Int32) = w_ ∧ v11160_ = fknown_ (4 : Int32).toNatClampNeg ∧ r = v11160_) ∨ (∃ (v11240_ : Int32), (8 : Int32) = w_ ∧ v11240_ = fknown_ (40 : Int32).toNatClampNeg ∧ r = v11240_) ∨ (∃ (v11320_ : Int32), (9 : Int32) = w_ ∧ v11320_ = fknown_ (7 : Int32).toNatClampNeg ∧ r = v11320_) ∨ ((10 : Int32) = w_ ∧ r = mtaped_) ∨ (∃ (v11400_ : Int32), (11 : Int32) = w_ ∧ R_X11_hurtAll_e fknown_ v11400_ ∧ r = v11400_) ∨ (∃ (sw6_ : Int32), sw6_ = w_ ∧ (sw6_.toInt < 0 ∨ 11 < sw6_.toInt) ∧ r = ((-1) : Int32)) ∨ False
set_option maxHeartbeats 4000000 in
set_option maxRecDepth 100000 in
theorem sf_X11_count (l : Launch) (D : va_G) (cy : Nat → ClassId) (nm_ : Nat) (nknown_ : Nat) (ntelling_ : Nat) (nimages_ : Nat) (nisImage_ : Nat) (mthrown_ : Int32) (ntape_ : Nat) (mtaped_ : Int32) (mlength_ : Int32) (mhead_ : Int32) (mbegin_ : Int32) (mtoken_ : Int32) (mvalue_ : Int32) (mbad_ : Int32) (mbadPlace_ : Int32) (mfaultKind_ : Int32) (mfaultPlace_ : Int32) (mdeep_ : Int32) (mlawMany_ : Int32) (mlawAt_ : Int32) (nstack_ : Nat) (nasked_ : Nat) (mfell_ : Int32) (mfellIn_ : Int32) (naside_ : Nat) (mstate_ : Int32) (mlanded_ : Int32) (mwaitFalls_ : Int32) (mwaitWeight_ : Int32) (nfallsAfter_ : Nat) (nfalling_ : Nat) (ncomes_ : Nat) (ngoesOn_ : Nat) (nwayRow_ : Nat) (nmany_ : Nat) (nmanyThen_ : Nat) (mtoldLet_ : Int32) (ntSort_ : Nat) (ntMany_ : Nat) (nnumbers_ : Nat) (fknown_ : Nat → Int32) (w_ : Int32) (C_ : Int) (L_ : Int) (hb_ : Int) (ha_ : Int) (hc_ : Int) (hha_ : -2000000 ≤ ha_) (hhc_ : hc_ ≤ 4000000) (hhb_ : hb_ ≤ 1000000) (rmtaped_ : rg (0) (900) mtaped_) (rmlength_ : rg (0) (900) mlength_) (rmhead_ : rg (0) (900) mhead_) (rmbegin_ : rg (0) (900) mbegin_) (rfknown_ : KX C_ L_ ha_ hc_ hb_ fknown_) : Ci l yX11_count cX11_count 2 (some .int) { frames := 2, cells := 0, slots := 0, locals := 45 } D cy [.ref nm_, .int w_] [(nm_, .inr (11, [.ref nknown_, .ref ntelling_, .ref nimages_, .ref nisImage_, .int mthrown_, .ref ntape_, .int mtaped_, .int mlength_, .int mhead_, .int mbegin_, .int mtoken_, .int mvalue_, .int mbad_, .int mbadPlace_, .int mfaultKind_, .int mfaultPlace_, .int mdeep_, .int mlawMany_, .int mlawAt_, .ref nstack_, .ref nasked_, .int mfell_, .int mfellIn_, .ref naside_, .int mstate_, .int mlanded_, .int mwaitFalls_, .int mwaitWeight_, .ref nfallsAfter_, .ref nfalling_, .ref ncomes_, .ref ngoesOn_, .ref nwayRow_, .ref nmany_, .ref nmanyThen_, .int mtoldLet_, .ref ntSort_, .ref ntMany_, .ref nnumbers_])), (nknown_, .inl (cy 0, 2260, .inl (fknown_)))] (fun r W1 => R_X11_count_e w_ fknown_ mtaped_ r ∧ W1 = [(nm_, .inr (11, [.ref nknown_, .ref ntelling_, .ref nimages_, .ref nisImage_, .int 0, .ref ntape_, .int mtaped_, .int mlength_, .int mhead_, .int mbegin_, .int mtoken_, .int mvalue_, .int mbad_, .int mbadPlace_, .int mfaultKind_, .int mfaultPlace_, .int mdeep_, .int mlawMany_, .int mlawAt_, .ref nstack_, .ref nasked_, .int mfell_, .int mfellIn_, .ref naside_, .int mstate_, .int mlanded_, .int mwaitFalls_, .int mwaitWeight_, .ref nfallsAfter_, .ref nfalling_, .ref ncomes_, .ref ngoesOn_, .ref nwayRow_, .ref nmany_, .ref nmanyThen_, .int mtoldLet_, .ref ntSort_, .ref ntMany_, .ref nnumbers_])), (nknown_, .inl (cy 0, 2260, .inl (fknown_)))]) := by
  refine Ci.of (by decide) (Nat.le_of_ble_eq_true rfl) ?_
  intro p e s m below meth c A ls hX hE hP hD hl
  obtain ⟨hx, hb, hr, hml, hown, htA, hlk⟩ := id hX
  have hK := hE.1
  have hS : va_S A s.heap s.heap [] := va_S.rf
  have hl : lv_has ls 2 [(0, .ref nm_), (1, .int w_)] := hl
  refine lv_aload_n hx hb dX11_count_0 rfl (lv_at hl 0 rfl) ?_
  refine lv_iconst (v := 0) hx hb dX11_count_1 (by decide) ?_
  refine va_put (ci := 11) (v := .int 0) (ty := .int) (C := RX11) (T := TX11) (N := 39) hx hb htA in_X11 tyX11 tyX11_ok nmX11 hown hK hP hD hS 0 rfl rfl 4 (by decide) (htA _ wd_1358) (fun _ h => h) rfl (by decide +kernel) rfl rfl (Nat.le_of_ble_eq_true rfl) dX11_count_2 (fun H locs hP hD hS => ?_)
  have hP : va_P D vwCl [(nm_, .inr (11, [.ref nknown_, .ref ntelling_, .ref nimages_, .ref nisImage_, .int 0, .ref ntape_, .int mtaped_, .int mlength_, .int mhead_, .int mbegin_, .int mtoken_, .int mvalue_, .int mbad_, .int mbadPlace_, .int mfaultKind_, .int mfaultPlace_, .int mdeep_, .int mlawMany_, .int mlawAt_, .ref nstack_, .ref nasked_, .int mfell_, .int mfellIn_, .ref naside_, .int mstate_, .int mlanded_, .int mwaitFalls_, .int mwaitWeight_, .ref nfallsAfter_, .ref nfalling_, .ref ncomes_, .ref ngoesOn_, .ref nwayRow_, .ref nmany_, .ref nmanyThen_, .int mtoldLet_, .ref ntSort_, .ref ntMany_, .ref nnumbers_])), (nknown_, .inl (cy 0, 2260, .inl (fknown_)))] H := hP
  have hD := va_ca hP hD
  refine lv_iload_n hx hb dX11_count_5 rfl (lv_at hl 1 rfl) ?_
  refine lv_topi (fun sw6_ esw6_ => ?_)
  rcases sw_0_11 sw6_ with rfl | rfl | rfl | rfl | rfl | rfl | rfl | rfl | rfl | rfl | rfl | rfl | c6_
  · refine lv_tableIn (tgt := 68) hx hb dX11_count_6 (by decide) (by decide) rfl (by decide) ?_
    have g1_ : rg (0) (0) w_ := rg_eq esw6_.symm (rg_lit (by decide) : rg (0) (0) (0 : Int32))
    refine lv_aload_n hx hb dX11_count_68 rfl (lv_at hl 0 rfl) ?_
    refine va_get (ci := 11) (v := .ref nknown_) (C := RX11) (T := TX11) (N := 39) hx hb htA in_X11 hown hK hP 0 rfl rfl 0 (by decide) (htA _ wd_1354) (fun _ h => h) rfl dX11_count_69 ?_
    refine lv_iconst (v := 0) hx hb dX11_count_72 (by decide) ?_
    refine va_iald hx hb hK hP 1 0 rfl rfl (in_lit (by decide)) dX11_count_73 ?_
    refine lv_topi (fun v10730_ ev10730_ => ?_)
    exact rI hX hE hP hD hS dX11_count_74 (by decide) (by decide) ⟨(Or.inl ⟨v10730_, esw6_, ev10730_, rfl⟩), rfl⟩
  · refine lv_tableIn (tgt := 75) hx hb dX11_count_6 (by decide) (by decide) rfl (by decide) ?_
    have g2_ : rg (1) (1) w_ := rg_eq esw6_.symm (rg_lit (by decide) : rg (1) (1) (1 : Int32))
    refine lv_aload_n hx hb dX11_count_75 rfl (lv_at hl 0 rfl) ?_
    refine va_get (ci := 11) (v := .ref nknown_) (C := RX11) (T := TX11) (N := 39) hx hb htA in_X11 hown hK hP 0 rfl rfl 0 (by decide) (htA _ wd_1354) (fun _ h => h) rfl dX11_count_76 ?_
    refine lv_iconst (v := 1) hx hb dX11_count_79 (by decide) ?_
    refine va_iald hx hb hK hP 1 0 rfl rfl (in_lit (by decide)) dX11_count_80 ?_
    refine lv_topi (fun v10800_ ev10800_ => ?_)
    have g3_ : rg (1) (6) v10800_ := by rw [ev10800_]; exact KX_l kb_1 rfknown_ (rg_lit (by decide) : rg (1) (1) (1 : Int32)) (by decide) (by decide)
    exact rI hX hE hP hD hS dX11_count_81 (by decide) (by decide) ⟨(Or.inr (Or.inl ⟨v10800_, esw6_, ev10800_, rfl⟩)), rfl⟩
  · refine lv_tableIn (tgt := 82) hx hb dX11_count_6 (by decide) (by decide) rfl (by decide) ?_
    have g4_ : rg (2) (2) w_ := rg_eq esw6_.symm (rg_lit (by decide) : rg (2) (2) (2 : Int32))
    refine lv_aload_n hx hb dX11_count_82 rfl (lv_at hl 0 rfl) ?_
    refine va_get (ci := 11) (v := .ref nknown_) (C := RX11) (T := TX11) (N := 39) hx hb htA in_X11 hown hK hP 0 rfl rfl 0 (by decide) (htA _ wd_1354) (fun _ h => h) rfl dX11_count_83 ?_
    refine lv_iconst (v := 2) hx hb dX11_count_86 (by decide) ?_
    refine va_iald hx hb hK hP 1 0 rfl rfl (in_lit (by decide)) dX11_count_87 ?_
    refine lv_topi (fun v10870_ ev10870_ => ?_)
    have g5_ : rg (1) (9) v10870_ := by rw [ev10870_]; exact KX_l kb_2 rfknown_ (rg_lit (by decide) : rg (2) (2) (2 : Int32)) (by decide) (by decide)
    exact rI hX hE hP hD hS dX11_count_88 (by decide) (by decide) ⟨(Or.inr (Or.inr (Or.inl ⟨v10870_, esw6_, ev10870_, rfl⟩))), rfl⟩
  · refine lv_tableIn (tgt := 89) hx hb dX11_count_6 (by decide) (by decide) rfl (by decide) ?_
    have g6_ : rg (3) (3) w_ := rg_eq esw6_.symm (rg_lit (by decide) : rg (3) (3) (3 : Int32))
    refine lv_aload_n hx hb dX11_count_89 rfl (lv_at hl 0 rfl) ?_
    refine kVi (As := []) (rest := []) (wr := []) hX hE (sf_X11_things l D cy nm_ nknown_ ntelling_ nimages_ nisImage_ (0 : Int32) ntape_ mtaped_ mlength_ mhead_ mbegin_ mtoken_ mvalue_ mbad_ mbadPlace_ mfaultKind_ mfaultPlace_ mdeep_ mlawMany_ mlawAt_ nstack_ nasked_ mfell_ mfellIn_ naside_ mstate_ mlanded_ mwaitFalls_ mwaitWeight_ nfallsAfter_ nfalling_ ncomes_ ngoesOn_ nwayRow_ nmany_ nmanyThen_ mtoldLet_ ntSort_ ntMany_ nnumbers_ fknown_ C_ L_ hb_ ha_ hc_ (by omega) (by omega) (by omega) (rg_w rmtaped_ (by decide) (by decide)) (rg_w rmlength_ (by decide) (by decide)) (rg_w rmhead_ (by decide) (by decide)) (rg_w rmbegin_ (by decide) (by decide)) rfknown_) (cwVA 0 htA wd_1645 wd_1642 wd_10 wd_1644 wp_71 (by decide +kernel) ⟨by decide, by decide⟩) hP hD hS [0, 1] [] rfl rfl (by decide +kernel) 0 rfl rfl rfl rfl hl.1 rfl (Nat.le_of_ble_eq_true rfl) dX11_count_90 (by decide) (fun v10900_ W1 H locs hw hP hD hS => ?_)
    refine W.widen (k := 0) (n := 0) (by decide) (by decide) ?_
    obtain ⟨ev10900_, k90_1_, rfl, kr90_⟩ := hw
    have hP : va_P D vwCl [(nm_, .inr (11, [.ref nknown_, .ref ntelling_, .ref nimages_, .ref nisImage_, .int 0, .ref ntape_, .int mtaped_, .int mlength_, .int mhead_, .int mbegin_, .int mtoken_, .int mvalue_, .int mbad_, .int mbadPlace_, .int mfaultKind_, .int mfaultPlace_, .int mdeep_, .int mlawMany_, .int mlawAt_, .ref nstack_, .ref nasked_, .int mfell_, .int mfellIn_, .ref naside_, .int mstate_, .int mlanded_, .int mwaitFalls_, .int mwaitWeight_, .ref nfallsAfter_, .ref nfalling_, .ref ncomes_, .ref ngoesOn_, .ref nwayRow_, .ref nmany_, .ref nmanyThen_, .int mtoldLet_, .ref ntSort_, .ref ntMany_, .ref nnumbers_])), (nknown_, .inl (cy 0, 2260, .inl (fknown_)))] H := hP
    have hD := va_ca hP hD
    exact rI hX hE hP hD hS dX11_count_93 (by decide) (by decide) ⟨(Or.inr (Or.inr (Or.inr (Or.inl ⟨v10900_, esw6_, k90_1_, rfl⟩)))), rfl⟩
  · refine lv_tableIn (tgt := 94) hx hb dX11_count_6 (by decide) (by decide) rfl (by decide) ?_
    have g7_ : rg (4) (4) w_ := rg_eq esw6_.symm (rg_lit (by decide) : rg (4) (4) (4 : Int32))
    refine lv_aload_n hx hb dX11_count_94 rfl (lv_at hl 0 rfl) ?_
    refine lv_iconst (v := 0) hx hb dX11_count_95 (by decide) ?_
    refine kVi (As := [.int 0]) (rest := []) (wr := []) hX hE (sf_X11_allThat l D cy nm_ nknown_ ntelling_ nimages_ nisImage_ (0 : Int32) ntape_ mtaped_ mlength_ mhead_ mbegin_ mtoken_ mvalue_ mbad_ mbadPlace_ mfaultKind_ mfaultPlace_ mdeep_ mlawMany_ mlawAt_ nstack_ nasked_ mfell_ mfellIn_ naside_ mstate_ mlanded_ mwaitFalls_ mwaitWeight_ nfallsAfter_ nfalling_ ncomes_ ngoesOn_ nwayRow_ nmany_ nmanyThen_ mtoldLet_ ntSort_ ntMany_ nnumbers_ fknown_ (0 : Int32) C_ L_ hb_ ha_ hc_ (by omega) (by omega) (by omega) (rg_w rmtaped_ (by decide) (by decide)) (rg_w rmlength_ (by decide) (by decide)) (rg_w rmhead_ (by decide) (by decide)) (rg_w rmbegin_ (by decide) (by decide)) rfknown_) (cwVA 1 htA wd_2066 wd_2063 wd_10 wd_2065 wp_121 (by decide +kernel) ⟨by decide, by decide⟩) hP hD hS [0, 1] [] rfl rfl (by decide +kernel) 0 rfl rfl rfl rfl hl.1 rfl (Nat.le_of_ble_eq_true rfl) dX11_count_96 (by decide) (fun v10960_ W1 H locs hw hP hD hS => ?_)
    refine W.widen (k := 0) (n := 0) (by decide) (by decide) ?_
    obtain ⟨k96_0_, rfl⟩ := hw
    have hP : va_P D vwCl [(nm_, .inr (11, [.ref nknown_, .ref ntelling_, .ref nimages_, .ref nisImage_, .int 0, .ref ntape_, .int mtaped_, .int mlength_, .int mhead_, .int mbegin_, .int mtoken_, .int mvalue_, .int mbad_, .int mbadPlace_, .int mfaultKind_, .int mfaultPlace_, .int mdeep_, .int mlawMany_, .int mlawAt_, .ref nstack_, .ref nasked_, .int mfell_, .int mfellIn_, .ref naside_, .int mstate_, .int mlanded_, .int mwaitFalls_, .int mwaitWeight_, .ref nfallsAfter_, .ref nfalling_, .ref ncomes_, .ref ngoesOn_, .ref nwayRow_, .ref nmany_, .ref nmanyThen_, .int mtoldLet_, .ref ntSort_, .ref ntMany_, .ref nnumbers_])), (nknown_, .inl (cy 0, 2260, .inl (fknown_)))] H := hP
    have hD := va_ca hP hD
    exact rI hX hE hP hD hS dX11_count_99 (by decide) (by decide) ⟨(Or.inr (Or.inr (Or.inr (Or.inr (Or.inl ⟨v10960_, esw6_, k96_0_, rfl⟩))))), rfl⟩
  · refine lv_tableIn (tgt := 100) hx hb dX11_count_6 (by decide) (by decide) rfl (by decide) ?_
    have g8_ : rg (5) (5) w_ := rg_eq esw6_.symm (rg_lit (by decide) : rg (5) (5) (5 : Int32))
    refine lv_aload_n hx hb dX11_count_100 rfl (lv_at hl 0 rfl) ?_
    refine lv_iconst (v := 1) hx hb dX11_count_101 (by decide) ?_
    refine kVi (As := [.int 1]) (rest := []) (wr := []) hX hE (sf_X11_allThat l D cy nm_ nknown_ ntelling_ nimages_ nisImage_ (0 : Int32) ntape_ mtaped_ mlength_ mhead_ mbegin_ mtoken_ mvalue_ mbad_ mbadPlace_ mfaultKind_ mfaultPlace_ mdeep_ mlawMany_ mlawAt_ nstack_ nasked_ mfell_ mfellIn_ naside_ mstate_ mlanded_ mwaitFalls_ mwaitWeight_ nfallsAfter_ nfalling_ ncomes_ ngoesOn_ nwayRow_ nmany_ nmanyThen_ mtoldLet_ ntSort_ ntMany_ nnumbers_ fknown_ (1 : Int32) C_ L_ hb_ ha_ hc_ (by omega) (by omega) (by omega) (rg_w rmtaped_ (by decide) (by decide)) (rg_w rmlength_ (by decide) (by decide)) (rg_w rmhead_ (by decide) (by decide)) (rg_w rmbegin_ (by decide) (by decide)) rfknown_) (cwVA 1 htA wd_2066 wd_2063 wd_10 wd_2065 wp_121 (by decide +kernel) ⟨by decide, by decide⟩) hP hD hS [0, 1] [] rfl rfl (by decide +kernel) 0 rfl rfl rfl rfl hl.1 rfl (Nat.le_of_ble_eq_true rfl) dX11_count_102 (by decide) (fun v11020_ W1 H locs hw hP hD hS => ?_)
    refine W.widen (k := 0) (n := 0) (by decide) (by decide) ?_
    obtain ⟨k102_0_, rfl⟩ := hw
    have hP : va_P D vwCl [(nm_, .inr (11, [.ref nknown_, .ref ntelling_, .ref nimages_, .ref nisImage_, .int 0, .ref ntape_, .int mtaped_, .int mlength_, .int mhead_, .int mbegin_, .int mtoken_, .int mvalue_, .int mbad_, .int mbadPlace_, .int mfaultKind_, .int mfaultPlace_, .int mdeep_, .int mlawMany_, .int mlawAt_, .ref nstack_, .ref nasked_, .int mfell_, .int mfellIn_, .ref naside_, .int mstate_, .int mlanded_, .int mwaitFalls_, .int mwaitWeight_, .ref nfallsAfter_, .ref nfalling_, .ref ncomes_, .ref ngoesOn_, .ref nwayRow_, .ref nmany_, .ref nmanyThen_, .int mtoldLet_, .ref ntSort_, .ref ntMany_, .ref nnumbers_])), (nknown_, .inl (cy 0, 2260, .inl (fknown_)))] H := hP
    have hD := va_ca hP hD
    exact rI hX hE hP hD hS dX11_count_105 (by decide) (by decide) ⟨(Or.inr (Or.inr (Or.inr (Or.inr (Or.inr (Or.inl ⟨v11020_, esw6_, k102_0_, rfl⟩)))))), rfl⟩
  · refine lv_tableIn (tgt := 106) hx hb dX11_count_6 (by decide) (by decide) rfl (by decide) ?_
    have g9_ : rg (6) (6) w_ := rg_eq esw6_.symm (rg_lit (by decide) : rg (6) (6) (6 : Int32))
    refine lv_aload_n hx hb dX11_count_106 rfl (lv_at hl 0 rfl) ?_
    refine kVi (As := []) (rest := []) (wr := []) hX hE (sf_X11_lyingAll l D cy nm_ nknown_ ntelling_ nimages_ nisImage_ (0 : Int32) ntape_ mtaped_ mlength_ mhead_ mbegin_ mtoken_ mvalue_ mbad_ mbadPlace_ mfaultKind_ mfaultPlace_ mdeep_ mlawMany_ mlawAt_ nstack_ nasked_ mfell_ mfellIn_ naside_ mstate_ mlanded_ mwaitFalls_ mwaitWeight_ nfallsAfter_ nfalling_ ncomes_ ngoesOn_ nwayRow_ nmany_ nmanyThen_ mtoldLet_ ntSort_ ntMany_ nnumbers_ fknown_ C_ L_ hb_ ha_ hc_ (by omega) (by omega) (by omega) (rg_w rmtaped_ (by decide) (by decide)) (rg_w rmlength_ (by decide) (by decide)) (rg_w rmhead_ (by decide) (by decide)) (rg_w rmbegin_ (by decide) (by decide)) rfknown_) (cwVA 0 htA wd_1838 wd_1835 wd_10 wd_1837 wp_99 (by decide +kernel) ⟨by decide, by decide⟩) hP hD hS [0, 1] [] rfl rfl (by decide +kernel) 0 rfl rfl rfl rfl hl.1 rfl (Nat.le_of_ble_eq_true rfl) dX11_count_107 (by decide) (fun v11070_ W1 H locs hw hP hD hS => ?_)
    refine W.widen (k := 0) (n := 0) (by decide) (by decide) ?_
    obtain ⟨k107_0_, rfl⟩ := hw
    have hP : va_P D vwCl [(nm_, .inr (11, [.ref nknown_, .ref ntelling_, .ref nimages_, .ref nisImage_, .int 0, .ref ntape_, .int mtaped_, .int mlength_, .int mhead_, .int mbegin_, .int mtoken_, .int mvalue_, .int mbad_, .int mbadPlace_, .int mfaultKind_, .int mfaultPlace_, .int mdeep_, .int mlawMany_, .int mlawAt_, .ref nstack_, .ref nasked_, .int mfell_, .int mfellIn_, .ref naside_, .int mstate_, .int mlanded_, .int mwaitFalls_, .int mwaitWeight_, .ref nfallsAfter_, .ref nfalling_, .ref ncomes_, .ref ngoesOn_, .ref nwayRow_, .ref nmany_, .ref nmanyThen_, .int mtoldLet_, .ref ntSort_, .ref ntMany_, .ref nnumbers_])), (nknown_, .inl (cy 0, 2260, .inl (fknown_)))] H := hP
    have hD := va_ca hP hD
    exact rI hX hE hP hD hS dX11_count_110 (by decide) (by decide) ⟨(Or.inr (Or.inr (Or.inr (Or.inr (Or.inr (Or.inr (Or.inl ⟨v11070_, esw6_, k107_0_, rfl⟩))))))), rfl⟩
  · refine lv_tableIn (tgt := 111) hx hb dX11_count_6 (by decide) (by decide) rfl (by decide) ?_
    have g10_ : rg (7) (7) w_ := rg_eq esw6_.symm (rg_lit (by decide) : rg (7) (7) (7 : Int32))
    refine lv_aload_n hx hb dX11_count_111 rfl (lv_at hl 0 rfl) ?_
    refine va_get (ci := 11) (v := .ref nknown_) (C := RX11) (T := TX11) (N := 39) hx hb htA in_X11 hown hK hP 0 rfl rfl 0 (by decide) (htA _ wd_1354) (fun _ h => h) rfl dX11_count_112 ?_
    refine lv_iconst (v := 4) hx hb dX11_count_115 (by decide) ?_
    refine va_iald hx hb hK hP 1 0 rfl rfl (in_lit (by decide)) dX11_count_116 ?_
    refine lv_topi (fun v11160_ ev11160_ => ?_)
    have g11_ : rg (0) (4) v11160_ := by rw [ev11160_]; exact KX_l kb_4 rfknown_ (rg_lit (by decide) : rg (4) (4) (4 : Int32)) (by decide) (by decide)
    exact rI hX hE hP hD hS dX11_count_117 (by decide) (by decide) ⟨(Or.inr (Or.inr (Or.inr (Or.inr (Or.inr (Or.inr (Or.inr (Or.inl ⟨v11160_, esw6_, ev11160_, rfl⟩)))))))), rfl⟩
  · refine lv_tableIn (tgt := 118) hx hb dX11_count_6 (by decide) (by decide) rfl (by decide) ?_
    have g12_ : rg (8) (8) w_ := rg_eq esw6_.symm (rg_lit (by decide) : rg (8) (8) (8 : Int32))
    refine lv_aload_n hx hb dX11_count_118 rfl (lv_at hl 0 rfl) ?_
    refine va_get (ci := 11) (v := .ref nknown_) (C := RX11) (T := TX11) (N := 39) hx hb htA in_X11 hown hK hP 0 rfl rfl 0 (by decide) (htA _ wd_1354) (fun _ h => h) rfl dX11_count_119 ?_
    refine lv_bipush (v := 40) hx hb dX11_count_122 (by decide) ?_
    refine va_iald hx hb hK hP 1 0 rfl rfl (in_lit (by decide)) dX11_count_124 ?_
    refine lv_topi (fun v11240_ ev11240_ => ?_)
    have hsv11240_ : rg ha_ hc_ v11240_ := by rw [ev11240_]; exact KX_h rfknown_ (rg_lit (by decide) : rg (40) (40) (40 : Int32)) (by decide) (by decide)
    have g13_ : rg (-2000000) (4000000) v11240_ := rg_w hsv11240_ (by omega) (by omega)
    exact rI hX hE hP hD hS dX11_count_125 (by decide) (by decide) ⟨(Or.inr (Or.inr (Or.inr (Or.inr (Or.inr (Or.inr (Or.inr (Or.inr (Or.inl ⟨v11240_, esw6_, ev11240_, rfl⟩))))))))), rfl⟩
  · refine lv_tableIn (tgt := 126) hx hb dX11_count_6 (by decide) (by decide) rfl (by decide) ?_
    have g14_ : rg (9) (9) w_ := rg_eq esw6_.symm (rg_lit (by decide) : rg (9) (9) (9 : Int32))
    refine lv_aload_n hx hb dX11_count_126 rfl (lv_at hl 0 rfl) ?_
    refine va_get (ci := 11) (v := .ref nknown_) (C := RX11) (T := TX11) (N := 39) hx hb htA in_X11 hown hK hP 0 rfl rfl 0 (by decide) (htA _ wd_1354) (fun _ h => h) rfl dX11_count_127 ?_
    refine lv_bipush (v := 7) hx hb dX11_count_130 (by decide) ?_
    refine va_iald hx hb hK hP 1 0 rfl rfl (in_lit (by decide)) dX11_count_132 ?_
    refine lv_topi (fun v11320_ ev11320_ => ?_)
    have g15_ : rg (0) (10) v11320_ := by rw [ev11320_]; exact KX_l kb_7 rfknown_ (rg_lit (by decide) : rg (7) (7) (7 : Int32)) (by decide) (by decide)
    exact rI hX hE hP hD hS dX11_count_133 (by decide) (by decide) ⟨(Or.inr (Or.inr (Or.inr (Or.inr (Or.inr (Or.inr (Or.inr (Or.inr (Or.inr (Or.inl ⟨v11320_, esw6_, ev11320_, rfl⟩)))))))))), rfl⟩
  · refine lv_tableIn (tgt := 134) hx hb dX11_count_6 (by decide) (by decide) rfl (by decide) ?_
    have g16_ : rg (10) (10) w_ := rg_eq esw6_.symm (rg_lit (by decide) : rg (10) (10) (10 : Int32))
    refine lv_aload_n hx hb dX11_count_134 rfl (lv_at hl 0 rfl) ?_
    refine va_get (ci := 11) (v := .int mtaped_) (C := RX11) (T := TX11) (N := 39) hx hb htA in_X11 hown hK hP 0 rfl rfl 6 (by decide) (htA _ wd_1360) (fun _ h => h) rfl dX11_count_135 ?_
    exact rI hX hE hP hD hS dX11_count_138 (by decide) (by decide) ⟨(Or.inr (Or.inr (Or.inr (Or.inr (Or.inr (Or.inr (Or.inr (Or.inr (Or.inr (Or.inr (Or.inl ⟨esw6_, rfl⟩))))))))))), rfl⟩
  · refine lv_tableIn (tgt := 139) hx hb dX11_count_6 (by decide) (by decide) rfl (by decide) ?_
    have g17_ : rg (11) (11) w_ := rg_eq esw6_.symm (rg_lit (by decide) : rg (11) (11) (11 : Int32))
    refine lv_aload_n hx hb dX11_count_139 rfl (lv_at hl 0 rfl) ?_
    refine kVi (As := []) (rest := []) (wr := []) hX hE (sf_X11_hurtAll l D cy nm_ nknown_ ntelling_ nimages_ nisImage_ (0 : Int32) ntape_ mtaped_ mlength_ mhead_ mbegin_ mtoken_ mvalue_ mbad_ mbadPlace_ mfaultKind_ mfaultPlace_ mdeep_ mlawMany_ mlawAt_ nstack_ nasked_ mfell_ mfellIn_ naside_ mstate_ mlanded_ mwaitFalls_ mwaitWeight_ nfallsAfter_ nfalling_ ncomes_ ngoesOn_ nwayRow_ nmany_ nmanyThen_ mtoldLet_ ntSort_ ntMany_ nnumbers_ fknown_ C_ L_ hb_ ha_ hc_ (by omega) (by omega) (by omega) (rg_w rmtaped_ (by decide) (by decide)) (rg_w rmlength_ (by decide) (by decide)) (rg_w rmhead_ (by decide) (by decide)) (rg_w rmbegin_ (by decide) (by decide)) rfknown_) (cwVA 0 htA wd_1842 wd_1839 wd_10 wd_1841 wp_100 (by decide +kernel) ⟨by decide, by decide⟩) hP hD hS [0, 1] [] rfl rfl (by decide +kernel) 0 rfl rfl rfl rfl hl.1 rfl (Nat.le_of_ble_eq_true rfl) dX11_count_140 (by decide) (fun v11400_ W1 H locs hw hP hD hS => ?_)
    refine W.widen (k := 0) (n := 0) (by decide) (by decide) ?_
    obtain ⟨k140_0_, rfl⟩ := hw
    have hP : va_P D vwCl [(nm_, .inr (11, [.ref nknown_, .ref ntelling_, .ref nimages_, .ref nisImage_, .int 0, .ref ntape_, .int mtaped_, .int mlength_, .int mhead_, .int mbegin_, .int mtoken_, .int mvalue_, .int mbad_, .int mbadPlace_, .int mfaultKind_, .int mfaultPlace_, .int mdeep_, .int mlawMany_, .int mlawAt_, .ref nstack_, .ref nasked_, .int mfell_, .int mfellIn_, .ref naside_, .int mstate_, .int mlanded_, .int mwaitFalls_, .int mwaitWeight_, .ref nfallsAfter_, .ref nfalling_, .ref ncomes_, .ref ngoesOn_, .ref nwayRow_, .ref nmany_, .ref nmanyThen_, .int mtoldLet_, .ref ntSort_, .ref ntMany_, .ref nnumbers_])), (nknown_, .inl (cy 0, 2260, .inl (fknown_)))] H := hP
    have hD := va_ca hP hD
    exact rI hX hE hP hD hS dX11_count_143 (by decide) (by decide) ⟨(Or.inr (Or.inr (Or.inr (Or.inr (Or.inr (Or.inr (Or.inr (Or.inr (Or.inr (Or.inr (Or.inr (Or.inl ⟨v11400_, esw6_, k140_0_, rfl⟩)))))))))))), rfl⟩
  · refine lv_tableOut (tgt := 144) hx hb dX11_count_6 c6_ (by decide) ?_
    refine lv_iconst (v := (-1)) hx hb dX11_count_144 (by decide) ?_
    exact rI hX hE hP hD hS dX11_count_145 (by decide) (by decide) ⟨(Or.inr (Or.inr (Or.inr (Or.inr (Or.inr (Or.inr (Or.inr (Or.inr (Or.inr (Or.inr (Or.inr (Or.inr (Or.inl ⟨sw6_, esw6_, c6_, rfl⟩))))))))))))), rfl⟩
def R_X11_at_j3 (v10350_ : Int32) (fknown_ : Nat → Int32) (v202400_ : Int32) (c_ : Int32) (l_ : Int32) : Prop := (¬ v10350_ = (0 : Int32)) ∨ (∃ (v10490_ : Int32), v10350_ = (0 : Int32) ∧ v10490_ = fknown_ (16 + v202400_).toNatClampNeg ∧ ¬ v10490_ = c_) ∨ (∃ (v10490_ : Int32) (v10620_ : Int32), v10350_ = (0 : Int32) ∧ v10490_ = fknown_ (16 + v202400_).toNatClampNeg ∧ v10490_ = c_ ∧ v10620_ = fknown_ (24 + v202400_).toNatClampNeg ∧ ¬ v10620_ = l_) ∨ False
def R_X11_at_b1 (fknown_ : Nat → Int32) (c_ : Int32) (l_ : Int32) (uZ_ vZ_ : Int32) : Prop := (∃ (v10260_ : Int32) (v10350_ : Int32), R_X11_things_e fknown_ v10260_ ∧ ¬ (v10260_ ≤ uZ_) ∧ R_X11_is_e fknown_ uZ_ ((0 : Int32)) v10350_ ∧ R_X11_at_j3 v10350_ fknown_ uZ_ c_ l_ ∧ vZ_ = uZ_ + 1) ∨ False
def R_X11_at_e (fknown_ : Nat → Int32) (c_ : Int32) (l_ : Int32) (x0_ : Int32) (r : Int32) : Prop := (∃ (v10100_ : Int32) (v202400_ : Int32) (v10260_ : Int32), R_X11_isPlace_e fknown_ c_.toInt64 l_.toInt64 v10100_ ∧ ¬ v10100_ = (0 : Int32) ∧ Itr (R_X11_at_b1 fknown_ c_ l_) 0 v202400_ ∧ R_X11_things_e fknown_ v10260_ ∧ v10260_ ≤ v202400_ ∧ x0_ = (0 : Int32) ∧ r = ((-1) : Int32)) ∨ (∃ (v10100_ : Int32) (v202400_ : Int32) (v10260_ : Int32) (v10350_ : Int32) (v10490_ : Int32) (v10620_ : Int32), R_X11_isPlace_e fknown_ c_.toInt64 l_.toInt64 v10100_ ∧ ¬ v10100_ = (0 : Int32) ∧ Itr (R_X11_at_b1 fknown_ c_ l_) 0 v202400_ ∧ R_X11_things_e fknown_ v10260_ ∧ ¬ (v10260_ ≤ v202400_) ∧ R_X11_is_e fknown_ v202400_ ((0 : Int32)) v10350_ ∧ v10350_ = (0 : Int32) ∧ v10490_ = fknown_ (16 + v202400_).toNatClampNeg ∧ v10490_ = c_ ∧ v10620_ = fknown_ (24 + v202400_).toNatClampNeg ∧ v10620_ = l_ ∧ x0_ = (0 : Int32) ∧ r = v202400_) ∨ (∃ (v10100_ : Int32) (v10180_ : Int32), R_X11_isPlace_e fknown_ c_.toInt64 l_.toInt64 v10100_ ∧ v10100_ = (0 : Int32) ∧ R_X11_fails_e v10180_ ∧ x0_ = (1 : Int32) ∧ r = v10180_) ∨ False
set_option maxHeartbeats 4000000 in
set_option maxRecDepth 100000 in
theorem sf_X11_at (l : Launch) (D : va_G) (cy : Nat → ClassId) (nm_ : Nat) (nknown_ : Nat) (ntelling_ : Nat) (nimages_ : Nat) (nisImage_ : Nat) (mthrown_ : Int32) (ntape_ : Nat) (mtaped_ : Int32) (mlength_ : Int32) (mhead_ : Int32) (mbegin_ : Int32) (mtoken_ : Int32) (mvalue_ : Int32) (mbad_ : Int32) (mbadPlace_ : Int32) (mfaultKind_ : Int32) (mfaultPlace_ : Int32) (mdeep_ : Int32) (mlawMany_ : Int32) (mlawAt_ : Int32) (nstack_ : Nat) (nasked_ : Nat) (mfell_ : Int32) (mfellIn_ : Int32) (naside_ : Nat) (mstate_ : Int32) (mlanded_ : Int32) (mwaitFalls_ : Int32) (mwaitWeight_ : Int32) (nfallsAfter_ : Nat) (nfalling_ : Nat) (ncomes_ : Nat) (ngoesOn_ : Nat) (nwayRow_ : Nat) (nmany_ : Nat) (nmanyThen_ : Nat) (mtoldLet_ : Int32) (ntSort_ : Nat) (ntMany_ : Nat) (nnumbers_ : Nat) (fknown_ : Nat → Int32) (c_ : Int32) (l_ : Int32) (C_ : Int) (L_ : Int) (hb_ : Int) (ha_ : Int) (hc_ : Int) (hha_ : -2000000 ≤ ha_) (hhc_ : hc_ ≤ 4000000) (hhb_ : hb_ ≤ 1000000) (rmtaped_ : rg (0) (900) mtaped_) (rmlength_ : rg (0) (900) mlength_) (rmhead_ : rg (0) (900) mhead_) (rmbegin_ : rg (0) (900) mbegin_) (rfknown_ : KX C_ L_ ha_ hc_ hb_ fknown_) : Ci l yX11_at cX11_at 4 (some .int) { frames := 3, cells := 0, slots := 0, locals := 71 } D cy [.ref nm_, .int c_, .int l_] [(nm_, .inr (11, [.ref nknown_, .ref ntelling_, .ref nimages_, .ref nisImage_, .int mthrown_, .ref ntape_, .int mtaped_, .int mlength_, .int mhead_, .int mbegin_, .int mtoken_, .int mvalue_, .int mbad_, .int mbadPlace_, .int mfaultKind_, .int mfaultPlace_, .int mdeep_, .int mlawMany_, .int mlawAt_, .ref nstack_, .ref nasked_, .int mfell_, .int mfellIn_, .ref naside_, .int mstate_, .int mlanded_, .int mwaitFalls_, .int mwaitWeight_, .ref nfallsAfter_, .ref nfalling_, .ref ncomes_, .ref ngoesOn_, .ref nwayRow_, .ref nmany_, .ref nmanyThen_, .int mtoldLet_, .ref ntSort_, .ref ntMany_, .ref nnumbers_])), (nknown_, .inl (cy 0, 2260, .inl (fknown_)))] (fun r W1 => ∃ (x0_ : Int32), rg (0) (1) x0_ ∧ R_X11_at_e fknown_ c_ l_ x0_ r ∧ W1 = [(nm_, .inr (11, [.ref nknown_, .ref ntelling_, .ref nimages_, .ref nisImage_, .int x0_, .ref ntape_, .int mtaped_, .int mlength_, .int mhead_, .int mbegin_, .int mtoken_, .int mvalue_, .int mbad_, .int mbadPlace_, .int mfaultKind_, .int mfaultPlace_, .int mdeep_, .int mlawMany_, .int mlawAt_, .ref nstack_, .ref nasked_, .int mfell_, .int mfellIn_, .ref naside_, .int mstate_, .int mlanded_, .int mwaitFalls_, .int mwaitWeight_, .ref nfallsAfter_, .ref nfalling_, .ref ncomes_, .ref ngoesOn_, .ref nwayRow_, .ref nmany_, .ref nmanyThen_, .int mtoldLet_, .ref ntSort_, .ref ntMany_, .ref nnumbers_])), (nknown_, .inl (cy 0, 2260, .inl (fknown_)))] ∧ rg (-1) (7) r) := by
  refine Ci.of (by decide) (Nat.le_of_ble_eq_true rfl) ?_
  intro p e s m below meth c A ls hX hE hP hD hl
  obtain ⟨hx, hb, hr, hml, hown, htA, hlk⟩ := id hX
  have hK := hE.1
  have hS : va_S A s.heap s.heap [] := va_S.rf
  have hl : lv_has ls 4 [(0, .ref nm_), (1, .int c_), (2, .int l_)] := hl
  refine lv_aload_n hx hb dX11_at_0 rfl (lv_at hl 0 rfl) ?_
  refine lv_iconst (v := 0) hx hb dX11_at_1 (by decide) ?_
  refine va_put (ci := 11) (v := .int 0) (ty := .int) (C := RX11) (T := TX11) (N := 39) hx hb htA in_X11 tyX11 tyX11_ok nmX11 hown hK hP hD hS 0 rfl rfl 4 (by decide) (htA _ wd_1358) (fun _ h => h) rfl (by decide +kernel) rfl rfl (Nat.le_of_ble_eq_true rfl) dX11_at_2 (fun H locs hP hD hS => ?_)
  have hP : va_P D vwCl [(nm_, .inr (11, [.ref nknown_, .ref ntelling_, .ref nimages_, .ref nisImage_, .int 0, .ref ntape_, .int mtaped_, .int mlength_, .int mhead_, .int mbegin_, .int mtoken_, .int mvalue_, .int mbad_, .int mbadPlace_, .int mfaultKind_, .int mfaultPlace_, .int mdeep_, .int mlawMany_, .int mlawAt_, .ref nstack_, .ref nasked_, .int mfell_, .int mfellIn_, .ref naside_, .int mstate_, .int mlanded_, .int mwaitFalls_, .int mwaitWeight_, .ref nfallsAfter_, .ref nfalling_, .ref ncomes_, .ref ngoesOn_, .ref nwayRow_, .ref nmany_, .ref nmanyThen_, .int mtoldLet_, .ref ntSort_, .ref ntMany_, .ref nnumbers_])), (nknown_, .inl (cy 0, 2260, .inl (fknown_)))] H := hP
  have hD := va_ca hP hD
  refine lv_aload_n hx hb dX11_at_5 rfl (lv_at hl 0 rfl) ?_
  refine lv_iload_n hx hb dX11_at_6 rfl (lv_at hl 1 rfl) ?_
  refine lv_i2l hx hb dX11_at_7 rfl ?_
  have g1_ : rl (-2147483648) (2147483647) c_.toInt64 := rl_i2l (rg_any _)
  refine lv_iload_n hx hb dX11_at_8 rfl (lv_at hl 2 rfl) ?_
  refine lv_i2l hx hb dX11_at_9 rfl ?_
  have g2_ : rl (-2147483648) (2147483647) l_.toInt64 := rl_i2l (rg_any _)
  refine kVi (As := [.long c_.toInt64, .long l_.toInt64]) (rest := []) (wr := []) hX hE (sf_X11_isPlace l D cy nm_ nknown_ ntelling_ nimages_ nisImage_ (0 : Int32) ntape_ mtaped_ mlength_ mhead_ mbegin_ mtoken_ mvalue_ mbad_ mbadPlace_ mfaultKind_ mfaultPlace_ mdeep_ mlawMany_ mlawAt_ nstack_ nasked_ mfell_ mfellIn_ naside_ mstate_ mlanded_ mwaitFalls_ mwaitWeight_ nfallsAfter_ nfalling_ ncomes_ ngoesOn_ nwayRow_ nmany_ nmanyThen_ mtoldLet_ ntSort_ ntMany_ nnumbers_ fknown_ c_.toInt64 l_.toInt64 C_ L_ hb_ ha_ hc_ (by omega) (by omega) (by omega) (rg_w rmtaped_ (by decide) (by decide)) (rg_w rmlength_ (by decide) (by decide)) (rg_w rmhead_ (by decide) (by decide)) (rg_w rmbegin_ (by decide) (by decide)) rfknown_) (cwVA 2 htA wd_1695 wd_1692 wd_10 wd_1694 wp_78 (by decide +kernel) ⟨by decide, by decide⟩) hP hD hS [0, 1] [] rfl rfl (by decide +kernel) 0 rfl rfl rfl rfl hl.1 rfl (Nat.le_of_ble_eq_true rfl) dX11_at_10 (by decide) (fun v10100_ W1 H locs hw hP hD hS => ?_)
  refine W.widen (k := 0) (n := 0) (by decide) (by decide) ?_
  obtain ⟨k10_0_, rfl, kr10_⟩ := hw
  have hP : va_P D vwCl [(nm_, .inr (11, [.ref nknown_, .ref ntelling_, .ref nimages_, .ref nisImage_, .int 0, .ref ntape_, .int mtaped_, .int mlength_, .int mhead_, .int mbegin_, .int mtoken_, .int mvalue_, .int mbad_, .int mbadPlace_, .int mfaultKind_, .int mfaultPlace_, .int mdeep_, .int mlawMany_, .int mlawAt_, .ref nstack_, .ref nasked_, .int mfell_, .int mfellIn_, .ref naside_, .int mstate_, .int mlanded_, .int mwaitFalls_, .int mwaitWeight_, .ref nfallsAfter_, .ref nfalling_, .ref ncomes_, .ref ngoesOn_, .ref nwayRow_, .ref nmany_, .ref nmanyThen_, .int mtoldLet_, .ref ntSort_, .ref ntMany_, .ref nnumbers_])), (nknown_, .inl (cy 0, 2260, .inl (fknown_)))] H := hP
  have hD := va_ca hP hD
  refine lv_if_ne (tgt := 22) hx hb dX11_at_13 (by decide) (fun c13_ => ?_) (fun c13_ => ?_)
  · have g3_ : rg (1) (1) v10100_ := rg_ne1 c13_ kr10_ (by decide) (by decide)
    refine lv_iconst (v := 0) hx hb dX11_at_22 (by decide) ?_
    refine lv_istore_n (lv' := [(3, .int 0), (0, .ref nm_), (1, .int c_), (2, .int l_)]) hx hb dX11_at_23 rfl hl (by decide) rfl (fun ls hl => ?_)
    refine loopT (τ := Int32) (WS := fun i => [(nm_, .inr (11, [.ref nknown_, .ref ntelling_, .ref nimages_, .ref nisImage_, .int 0, .ref ntape_, .int mtaped_, .int mlength_, .int mhead_, .int mbegin_, .int mtoken_, .int mvalue_, .int mbad_, .int mbadPlace_, .int mfaultKind_, .int mfaultPlace_, .int mdeep_, .int mlawMany_, .int mlawAt_, .ref nstack_, .ref nasked_, .int mfell_, .int mfellIn_, .ref naside_, .int mstate_, .int mlanded_, .int mwaitFalls_, .int mwaitWeight_, .ref nfallsAfter_, .ref nfalling_, .ref ncomes_, .ref ngoesOn_, .ref nwayRow_, .ref nmany_, .ref nmanyThen_, .int mtoldLet_, .ref ntSort_, .ref ntMany_, .ref nnumbers_])), (nknown_, .inl (cy 0, 2260, .inl (fknown_)))]) (LV := fun i => [(3, .int i), (0, .ref nm_), (1, .int c_), (2, .int l_)]) (fun i => (17 - i.toInt).toNat) (fun i => rg (0) (16) i ∧ Itr (R_X11_at_b1 fknown_ c_ l_) 0 i) ?_ 0 ⟨(rg_w (rg_lit (by decide) : rg (0) (0) (0 : Int32)) (by decide) (by decide)), (Itr.rf _ _)⟩ hP hD hS (lv_sub hl [0, 1, 2, 3] rfl)
    intro v202400_ H locs ls hI ih24_ hP hD hS hl
    have hI : rg (0) (16) v202400_ ∧ Itr (R_X11_at_b1 fknown_ c_ l_) 0 v202400_ := hI
    obtain ⟨rv202400_, hR1_⟩ := hI
    have hP : va_P D vwCl [(nm_, .inr (11, [.ref nknown_, .ref ntelling_, .ref nimages_, .ref nisImage_, .int 0, .ref ntape_, .int mtaped_, .int mlength_, .int mhead_, .int mbegin_, .int mtoken_, .int mvalue_, .int mbad_, .int mbadPlace_, .int mfaultKind_, .int mfaultPlace_, .int mdeep_, .int mlawMany_, .int mlawAt_, .ref nstack_, .ref nasked_, .int mfell_, .int mfellIn_, .ref naside_, .int mstate_, .int mlanded_, .int mwaitFalls_, .int mwaitWeight_, .ref nfallsAfter_, .ref nfalling_, .ref ncomes_, .ref ngoesOn_, .ref nwayRow_, .ref nmany_, .ref nmanyThen_, .int mtoldLet_, .ref ntSort_, .ref ntMany_, .ref nnumbers_])), (nknown_, .inl (cy 0, 2260, .inl (fknown_)))] H := hP
    have hD := va_ca hP hD
    have hl : lv_has ls 4 [(3, .int v202400_), (0, .ref nm_), (1, .int c_), (2, .int l_)] := hl
    refine lv_iload_n hx hb dX11_at_24 rfl (lv_at hl 0 rfl) ?_
    refine lv_aload_n hx hb dX11_at_25 rfl (lv_at hl 1 rfl) ?_
    refine kVi (As := []) (rest := [.int v202400_]) (wr := []) hX hE (sf_X11_things l D cy nm_ nknown_ ntelling_ nimages_ nisImage_ (0 : Int32) ntape_ mtaped_ mlength_ mhead_ mbegin_ mtoken_ mvalue_ mbad_ mbadPlace_ mfaultKind_ mfaultPlace_ mdeep_ mlawMany_ mlawAt_ nstack_ nasked_ mfell_ mfellIn_ naside_ mstate_ mlanded_ mwaitFalls_ mwaitWeight_ nfallsAfter_ nfalling_ ncomes_ ngoesOn_ nwayRow_ nmany_ nmanyThen_ mtoldLet_ ntSort_ ntMany_ nnumbers_ fknown_ C_ L_ hb_ ha_ hc_ (by omega) (by omega) (by omega) (rg_w rmtaped_ (by decide) (by decide)) (rg_w rmlength_ (by decide) (by decide)) (rg_w rmhead_ (by decide) (by decide)) (rg_w rmbegin_ (by decide) (by decide)) rfknown_) (cwVA 0 htA wd_1645 wd_1642 wd_10 wd_1644 wp_71 (by decide +kernel) ⟨by decide, by decide⟩) hP hD hS [0, 1] [] rfl rfl (by decide +kernel) 0 rfl rfl rfl rfl hl.1 rfl (Nat.le_of_ble_eq_true rfl) dX11_at_26 (by decide) (fun v10260_ W1 H locs hw hP hD hS => ?_)
    refine W.widen (k := 0) (n := 0) (by decide) (by decide) ?_
    obtain ⟨ev10260_, k26_1_, rfl, kr26_⟩ := hw
    have hP : va_P D vwCl [(nm_, .inr (11, [.ref nknown_, .ref ntelling_, .ref nimages_, .ref nisImage_, .int 0, .ref ntape_, .int mtaped_, .int mlength_, .int mhead_, .int mbegin_, .int mtoken_, .int mvalue_, .int mbad_, .int mbadPlace_, .int mfaultKind_, .int mfaultPlace_, .int mdeep_, .int mlawMany_, .int mlawAt_, .ref nstack_, .ref nasked_, .int mfell_, .int mfellIn_, .ref naside_, .int mstate_, .int mlanded_, .int mwaitFalls_, .int mwaitWeight_, .ref nfallsAfter_, .ref nfalling_, .ref ncomes_, .ref ngoesOn_, .ref nwayRow_, .ref nmany_, .ref nmanyThen_, .int mtoldLet_, .ref ntSort_, .ref ntMany_, .ref nnumbers_])), (nknown_, .inl (cy 0, 2260, .inl (fknown_)))] H := hP
    have hD := va_ca hP hD
    refine lv_icmp_ge (tgt := 75) hx hb dX11_at_29 (by decide) (fun c29_ => ?_) (fun c29_ => ?_)
    · refine lv_iconst (v := (-1)) hx hb dX11_at_75 (by decide) ?_
      exact rI hX hE hP hD hS dX11_at_76 (by decide) (by decide) ⟨0, (rg_w (rg_lit (by decide) : rg (0) (0) (0 : Int32)) (by decide) (by decide)), (Or.inl ⟨v10100_, v202400_, v10260_, k10_0_, c13_, hR1_, k26_1_, c29_, rfl, rfl⟩), rfl, (rg_w (rg_lit (by decide) : rg (-1) (-1) ((-1) : Int32)) (by decide) (by decide))⟩
    · have g4_ : rg (0) (7) v202400_ := rg_lt1 (rg_nle c29_) rv202400_ kr26_ (by decide)
      have g5_ : rg (1) (8) v10260_ := rg_lt2 (rg_nle c29_) rv202400_ kr26_ (by decide)
      refine lv_aload_n hx hb dX11_at_32 rfl (lv_at hl 1 rfl) ?_
      refine lv_iload_n hx hb dX11_at_33 rfl (lv_at hl 0 rfl) ?_
      refine lv_iconst (v := 0) hx hb dX11_at_34 (by decide) ?_
      refine kVi (As := [.int v202400_, .int 0]) (rest := []) (wr := []) hX hE (sf_X11_is l D cy nm_ nknown_ ntelling_ nimages_ nisImage_ (0 : Int32) ntape_ mtaped_ mlength_ mhead_ mbegin_ mtoken_ mvalue_ mbad_ mbadPlace_ mfaultKind_ mfaultPlace_ mdeep_ mlawMany_ mlawAt_ nstack_ nasked_ mfell_ mfellIn_ naside_ mstate_ mlanded_ mwaitFalls_ mwaitWeight_ nfallsAfter_ nfalling_ ncomes_ ngoesOn_ nwayRow_ nmany_ nmanyThen_ mtoldLet_ ntSort_ ntMany_ nnumbers_ fknown_ v202400_ (0 : Int32) C_ L_ hb_ ha_ hc_ (by omega) (by omega) (by omega) (rg_w rmtaped_ (by decide) (by decide)) (rg_w rmlength_ (by decide) (by decide)) (rg_w rmhead_ (by decide) (by decide)) (rg_w rmbegin_ (by decide) (by decide)) (rg_w g4_ (by decide) (by decide)) rfknown_) (cwVA 2 htA wd_1649 wd_1646 wd_10 wd_1648 wp_72 (by decide +kernel) ⟨by decide, by decide⟩) hP hD hS [0, 1] [] rfl rfl (by decide +kernel) 0 rfl rfl rfl rfl hl.1 rfl (Nat.le_of_ble_eq_true rfl) dX11_at_35 (by decide) (fun v10350_ W1 H locs hw hP hD hS => ?_)
      refine W.widen (k := 0) (n := 0) (by decide) (by decide) ?_
      obtain ⟨k35_0_, rfl, kr35_⟩ := hw
      have hP : va_P D vwCl [(nm_, .inr (11, [.ref nknown_, .ref ntelling_, .ref nimages_, .ref nisImage_, .int 0, .ref ntape_, .int mtaped_, .int mlength_, .int mhead_, .int mbegin_, .int mtoken_, .int mvalue_, .int mbad_, .int mbadPlace_, .int mfaultKind_, .int mfaultPlace_, .int mdeep_, .int mlawMany_, .int mlawAt_, .ref nstack_, .ref nasked_, .int mfell_, .int mfellIn_, .ref naside_, .int mstate_, .int mlanded_, .int mwaitFalls_, .int mwaitWeight_, .ref nfallsAfter_, .ref nfalling_, .ref ncomes_, .ref ngoesOn_, .ref nwayRow_, .ref nmany_, .ref nmanyThen_, .int mtoldLet_, .ref ntSort_, .ref ntMany_, .ref nnumbers_])), (nknown_, .inl (cy 0, 2260, .inl (fknown_)))] H := hP
      have hD := va_ca hP hD
      refine joinT (D := D) (A := A) (pc := 69) (mL := 4) (τ := Unit) (WS := fun i => [(nm_, .inr (11, [.ref nknown_, .ref ntelling_, .ref nimages_, .ref nisImage_, .int 0, .ref ntape_, .int mtaped_, .int mlength_, .int mhead_, .int mbegin_, .int mtoken_, .int mvalue_, .int mbad_, .int mbadPlace_, .int mfaultKind_, .int mfaultPlace_, .int mdeep_, .int mlawMany_, .int mlawAt_, .ref nstack_, .ref nasked_, .int mfell_, .int mfellIn_, .ref naside_, .int mstate_, .int mlanded_, .int mwaitFalls_, .int mwaitWeight_, .ref nfallsAfter_, .ref nfalling_, .ref ncomes_, .ref ngoesOn_, .ref nwayRow_, .ref nmany_, .ref nmanyThen_, .int mtoldLet_, .ref ntSort_, .ref ntMany_, .ref nnumbers_])), (nknown_, .inl (cy 0, 2260, .inl (fknown_)))]) (LV := fun i => [(3, .int v202400_), (0, .ref nm_), (1, .int c_), (2, .int l_)]) (ST := fun i => []) (cells := 0) (slots := 0) (fun i => R_X11_at_j3 v10350_ fknown_ v202400_ c_ l_) (fun u0_ H locs ls hI hP hD hS hl => ?_) (fun j69_ => ?_)
      · have hI : R_X11_at_j3 v10350_ fknown_ v202400_ c_ l_ := hI
        have hR3_ := hI
        have hP : va_P D vwCl [(nm_, .inr (11, [.ref nknown_, .ref ntelling_, .ref nimages_, .ref nisImage_, .int 0, .ref ntape_, .int mtaped_, .int mlength_, .int mhead_, .int mbegin_, .int mtoken_, .int mvalue_, .int mbad_, .int mbadPlace_, .int mfaultKind_, .int mfaultPlace_, .int mdeep_, .int mlawMany_, .int mlawAt_, .ref nstack_, .ref nasked_, .int mfell_, .int mfellIn_, .ref naside_, .int mstate_, .int mlanded_, .int mwaitFalls_, .int mwaitWeight_, .ref nfallsAfter_, .ref nfalling_, .ref ncomes_, .ref ngoesOn_, .ref nwayRow_, .ref nmany_, .ref nmanyThen_, .int mtoldLet_, .ref ntSort_, .ref ntMany_, .ref nnumbers_])), (nknown_, .inl (cy 0, 2260, .inl (fknown_)))] H := hP
        have hD := va_ca hP hD
        have hl : lv_has ls 4 [(3, .int v202400_), (0, .ref nm_), (1, .int c_), (2, .int l_)] := hl
        refine lv_iinc (v := v202400_ + 1) (lv' := [(3, .int (v202400_ + 1)), (0, .ref nm_), (1, .int c_), (2, .int l_)]) hx hb dX11_at_69 hl (k := 0) rfl rfl (by decide) rfl (fun ls hl => ?_)
        have g6_ : rg (1) (8) (v202400_ + 1) := rg_add g4_ (rg_lit (by decide) : rg (1) (1) (1 : Int32)) (by decide) (by decide) (by decide) (by decide)
        refine lv_goto (tgt := 24) hx hb dX11_at_72 (by decide) ?_
        exact ih24_ (v202400_ + 1) _ _ ls ⟨(rg_w g6_ (by decide) (by decide)), (Itr.st hR1_ (Or.inl ⟨v10260_, v10350_, k26_1_, c29_, k35_0_, hR3_, rfl⟩))⟩ (show (17 - (v202400_ + 1).toInt).toNat < (17 - v202400_.toInt).toNat from by rw [show (v202400_ + 1).toInt = v202400_.toInt + 1 from inc32 v202400_ (by have hq := (rv202400_).2; omega)]; have hq := (g4_).1; have hq2 := (g4_).2; omega) hP hD hS (lv_sub hl [0, 1, 2, 3] rfl)
      refine lv_if_ne (tgt := 69) hx hb dX11_at_38 (by decide) (fun c38_ => ?_) (fun c38_ => ?_)
      · have g7_ : rg (1) (1) v10350_ := rg_ne1 c38_ kr35_ (by decide) (by decide)
        exact j69_ () _ _ ls (Or.inl c38_) hP hD hS (lv_sub hl [0, 1, 2, 3] rfl)
      · have g8_ : rg (0) (0) v10350_ := rg_eq c38_ (rg_lit (by decide) : rg (0) (0) (0 : Int32))
        refine lv_aload_n hx hb dX11_at_41 rfl (lv_at hl 1 rfl) ?_
        refine va_get (ci := 11) (v := .ref nknown_) (C := RX11) (T := TX11) (N := 39) hx hb htA in_X11 hown hK hP 0 rfl rfl 0 (by decide) (htA _ wd_1354) (fun _ h => h) rfl dX11_at_42 ?_
        refine lv_bipush (v := 16) hx hb dX11_at_45 (by decide) ?_
        refine lv_iload_n hx hb dX11_at_47 rfl (lv_at hl 0 rfl) ?_
        refine lv_iadd hx hb dX11_at_48 ?_
        have g9_ : rg (16) (23) (16 + v202400_) := rg_add (rg_lit (by decide) : rg (16) (16) (16 : Int32)) g4_ (by decide) (by decide) (by decide) (by decide)
        refine va_iald hx hb hK hP 1 0 rfl rfl (rg_in g9_ (by decide) (by decide)) dX11_at_49 ?_
        refine lv_topi (fun v10490_ ev10490_ => ?_)
        refine lv_iload_n hx hb dX11_at_50 rfl (lv_at hl 2 rfl) ?_
        refine lv_icmp_ne (tgt := 69) hx hb dX11_at_51 (by decide) (fun c51_ => ?_) (fun c51_ => ?_)
        · exact j69_ () _ _ ls (Or.inr (Or.inl ⟨v10490_, c38_, ev10490_, c51_⟩)) hP hD hS (lv_sub hl [0, 1, 2, 3] rfl)
        · refine lv_aload_n hx hb dX11_at_54 rfl (lv_at hl 1 rfl) ?_
          refine va_get (ci := 11) (v := .ref nknown_) (C := RX11) (T := TX11) (N := 39) hx hb htA in_X11 hown hK hP 0 rfl rfl 0 (by decide) (htA _ wd_1354) (fun _ h => h) rfl dX11_at_55 ?_
          refine lv_bipush (v := 24) hx hb dX11_at_58 (by decide) ?_
          refine lv_iload_n hx hb dX11_at_60 rfl (lv_at hl 0 rfl) ?_
          refine lv_iadd hx hb dX11_at_61 ?_
          have g10_ : rg (24) (31) (24 + v202400_) := rg_add (rg_lit (by decide) : rg (24) (24) (24 : Int32)) g4_ (by decide) (by decide) (by decide) (by decide)
          refine va_iald hx hb hK hP 1 0 rfl rfl (rg_in g10_ (by decide) (by decide)) dX11_at_62 ?_
          refine lv_topi (fun v10620_ ev10620_ => ?_)
          refine lv_iload_n hx hb dX11_at_63 rfl (lv_at hl 3 rfl) ?_
          refine lv_icmp_ne (tgt := 69) hx hb dX11_at_64 (by decide) (fun c64_ => ?_) (fun c64_ => ?_)
          · exact j69_ () _ _ ls (Or.inr (Or.inr (Or.inl ⟨v10490_, v10620_, c38_, ev10490_, c51_, ev10620_, c64_⟩))) hP hD hS (lv_sub hl [0, 1, 2, 3] rfl)
          · refine lv_iload_n hx hb dX11_at_67 rfl (lv_at hl 0 rfl) ?_
            exact rI hX hE hP hD hS dX11_at_68 (by decide) (by decide) ⟨0, (rg_w (rg_lit (by decide) : rg (0) (0) (0 : Int32)) (by decide) (by decide)), (Or.inr (Or.inl ⟨v10100_, v202400_, v10260_, v10350_, v10490_, v10620_, k10_0_, c13_, hR1_, k26_1_, c29_, k35_0_, c38_, ev10490_, c51_, ev10620_, c64_, rfl, rfl⟩)), rfl, (rg_w g4_ (by decide) (by decide))⟩
  · have g11_ : rg (0) (0) v10100_ := rg_eq c13_ (rg_lit (by decide) : rg (0) (0) (0 : Int32))
    refine lv_aload_n hx hb dX11_at_16 rfl (lv_at hl 0 rfl) ?_
    refine lv_iconst (v := 1) hx hb dX11_at_17 (by decide) ?_
    refine kVi (As := [.int 1]) (rest := []) (wr := [(nknown_, .inl (cy 0, 2260, .inl (fknown_)))]) hX hE (sf_X11_fails l D cy nm_ nknown_ ntelling_ nimages_ nisImage_ (0 : Int32) ntape_ mtaped_ mlength_ mhead_ mbegin_ mtoken_ mvalue_ mbad_ mbadPlace_ mfaultKind_ mfaultPlace_ mdeep_ mlawMany_ mlawAt_ nstack_ nasked_ mfell_ mfellIn_ naside_ mstate_ mlanded_ mwaitFalls_ mwaitWeight_ nfallsAfter_ nfalling_ ncomes_ ngoesOn_ nwayRow_ nmany_ nmanyThen_ mtoldLet_ ntSort_ ntMany_ nnumbers_ (1 : Int32) (rg_w rmtaped_ (by decide) (by decide)) (rg_w rmlength_ (by decide) (by decide)) (rg_w rmhead_ (by decide) (by decide)) (rg_w rmbegin_ (by decide) (by decide))) (cwVA 1 htA wd_1487 wd_1484 wd_10 wd_1486 wp_41 (by decide +kernel) ⟨by decide, by decide⟩) hP hD hS [0] [1] rfl rfl (by decide +kernel) 0 rfl rfl rfl rfl hl.1 rfl (Nat.le_of_ble_eq_true rfl) dX11_at_18 (by decide) (fun v10180_ W1 H locs hw hP hD hS => ?_)
    refine W.widen (k := 0) (n := 0) (by decide) (by decide) ?_
    obtain ⟨k18_0_, rfl, kr18_⟩ := hw
    have hP : va_P D vwCl [(nknown_, .inl (cy 0, 2260, .inl (fknown_))), (nm_, .inr (11, [.ref nknown_, .ref ntelling_, .ref nimages_, .ref nisImage_, .int 1, .ref ntape_, .int mtaped_, .int mlength_, .int mhead_, .int mbegin_, .int mtoken_, .int mvalue_, .int mbad_, .int mbadPlace_, .int mfaultKind_, .int mfaultPlace_, .int mdeep_, .int mlawMany_, .int mlawAt_, .ref nstack_, .ref nasked_, .int mfell_, .int mfellIn_, .ref naside_, .int mstate_, .int mlanded_, .int mwaitFalls_, .int mwaitWeight_, .ref nfallsAfter_, .ref nfalling_, .ref ncomes_, .ref ngoesOn_, .ref nwayRow_, .ref nmany_, .ref nmanyThen_, .int mtoldLet_, .ref ntSort_, .ref ntMany_, .ref nnumbers_]))] H := hP
    have hD := va_ca hP hD
    have hP : va_P D vwCl [(nm_, .inr (11, [.ref nknown_, .ref ntelling_, .ref nimages_, .ref nisImage_, .int 1, .ref ntape_, .int mtaped_, .int mlength_, .int mhead_, .int mbegin_, .int mtoken_, .int mvalue_, .int mbad_, .int mbadPlace_, .int mfaultKind_, .int mfaultPlace_, .int mdeep_, .int mlawMany_, .int mlawAt_, .ref nstack_, .ref nasked_, .int mfell_, .int mfellIn_, .ref naside_, .int mstate_, .int mlanded_, .int mwaitFalls_, .int mwaitWeight_, .ref nfallsAfter_, .ref nfalling_, .ref ncomes_, .ref ngoesOn_, .ref nwayRow_, .ref nmany_, .ref nmanyThen_, .int mtoldLet_, .ref ntSort_, .ref ntMany_, .ref nnumbers_])), (nknown_, .inl (cy 0, 2260, .inl (fknown_)))] H := hP.sub [1, 0] rfl
    have hD : va_D A [(nm_, .inr (11, [.ref nknown_, .ref ntelling_, .ref nimages_, .ref nisImage_, .int 1, .ref ntape_, .int mtaped_, .int mlength_, .int mhead_, .int mbegin_, .int mtoken_, .int mvalue_, .int mbad_, .int mbadPlace_, .int mfaultKind_, .int mfaultPlace_, .int mdeep_, .int mlawMany_, .int mlawAt_, .ref nstack_, .ref nasked_, .int mfell_, .int mfellIn_, .ref naside_, .int mstate_, .int mlanded_, .int mwaitFalls_, .int mwaitWeight_, .ref nfallsAfter_, .ref nfalling_, .ref ncomes_, .ref ngoesOn_, .ref nwayRow_, .ref nmany_, .ref nmanyThen_, .int mtoldLet_, .ref ntSort_, .ref ntMany_, .ref nnumbers_])), (nknown_, .inl (cy 0, 2260, .inl (fknown_)))] := hD.sub [1, 0] (by decide +kernel) rfl
    exact rI hX hE hP hD hS dX11_at_21 (by decide) (by decide) ⟨1, (rg_w (rg_lit (by decide) : rg (1) (1) (1 : Int32)) (by decide) (by decide)), (Or.inr (Or.inr (Or.inl ⟨v10100_, v10180_, k10_0_, c13_, k18_0_, rfl, rfl⟩))), rfl, (rg_w kr18_ (by decide) (by decide))⟩
def R_X11_allColumns_e (fknown_ : Nat → Int32) (r : Int32) : Prop := (∃ (v10060_ : Int32), v10060_ = fknown_ (1 : Int32).toNatClampNeg ∧ r = ((1 : Int32) <<< (v10060_ &&& 31)) - 1) ∨ False
set_option maxHeartbeats 4000000 in
set_option maxRecDepth 100000 in
theorem sf_X11_allColumns (l : Launch) (D : va_G) (cy : Nat → ClassId) (nm_ : Nat) (nknown_ : Nat) (ntelling_ : Nat) (nimages_ : Nat) (nisImage_ : Nat) (mthrown_ : Int32) (ntape_ : Nat) (mtaped_ : Int32) (mlength_ : Int32) (mhead_ : Int32) (mbegin_ : Int32) (mtoken_ : Int32) (mvalue_ : Int32) (mbad_ : Int32) (mbadPlace_ : Int32) (mfaultKind_ : Int32) (mfaultPlace_ : Int32) (mdeep_ : Int32) (mlawMany_ : Int32) (mlawAt_ : Int32) (nstack_ : Nat) (nasked_ : Nat) (mfell_ : Int32) (mfellIn_ : Int32) (naside_ : Nat) (mstate_ : Int32) (mlanded_ : Int32) (mwaitFalls_ : Int32) (mwaitWeight_ : Int32) (nfallsAfter_ : Nat) (nfalling_ : Nat) (ncomes_ : Nat) (ngoesOn_ : Nat) (nwayRow_ : Nat) (nmany_ : Nat) (nmanyThen_ : Nat) (mtoldLet_ : Int32) (ntSort_ : Nat) (ntMany_ : Nat) (nnumbers_ : Nat) (fknown_ : Nat → Int32) (C_ : Int) (L_ : Int) (hb_ : Int) (ha_ : Int) (hc_ : Int) (hha_ : -2000000 ≤ ha_) (hhc_ : hc_ ≤ 4000000) (hhb_ : hb_ ≤ 1000000) (rmtaped_ : rg (0) (900) mtaped_) (rmlength_ : rg (0) (900) mlength_) (rmhead_ : rg (0) (900) mhead_) (rmbegin_ : rg (0) (900) mbegin_) (rfknown_ : KX C_ L_ ha_ hc_ hb_ fknown_) : Ci l yX11_allColumns cX11_allColumns 1 (some .int) { frames := 0, cells := 0, slots := 0, locals := 0 } D cy [.ref nm_] [(nm_, .inr (11, [.ref nknown_, .ref ntelling_, .ref nimages_, .ref nisImage_, .int mthrown_, .ref ntape_, .int mtaped_, .int mlength_, .int mhead_, .int mbegin_, .int mtoken_, .int mvalue_, .int mbad_, .int mbadPlace_, .int mfaultKind_, .int mfaultPlace_, .int mdeep_, .int mlawMany_, .int mlawAt_, .ref nstack_, .ref nasked_, .int mfell_, .int mfellIn_, .ref naside_, .int mstate_, .int mlanded_, .int mwaitFalls_, .int mwaitWeight_, .ref nfallsAfter_, .ref nfalling_, .ref ncomes_, .ref ngoesOn_, .ref nwayRow_, .ref nmany_, .ref nmanyThen_, .int mtoldLet_, .ref ntSort_, .ref ntMany_, .ref nnumbers_])), (nknown_, .inl (cy 0, 2260, .inl (fknown_)))] (fun r W1 => R_X11_allColumns_e fknown_ r ∧ W1 = [(nm_, .inr (11, [.ref nknown_, .ref ntelling_, .ref nimages_, .ref nisImage_, .int mthrown_, .ref ntape_, .int mtaped_, .int mlength_, .int mhead_, .int mbegin_, .int mtoken_, .int mvalue_, .int mbad_, .int mbadPlace_, .int mfaultKind_, .int mfaultPlace_, .int mdeep_, .int mlawMany_, .int mlawAt_, .ref nstack_, .ref nasked_, .int mfell_, .int mfellIn_, .ref naside_, .int mstate_, .int mlanded_, .int mwaitFalls_, .int mwaitWeight_, .ref nfallsAfter_, .ref nfalling_, .ref ncomes_, .ref ngoesOn_, .ref nwayRow_, .ref nmany_, .ref nmanyThen_, .int mtoldLet_, .ref ntSort_, .ref ntMany_, .ref nnumbers_])), (nknown_, .inl (cy 0, 2260, .inl (fknown_)))]) := by
  refine Ci.of (by decide) (Nat.le_of_ble_eq_true rfl) ?_
  intro p e s m below meth c A ls hX hE hP hD hl
  obtain ⟨hx, hb, hr, hml, hown, htA, hlk⟩ := id hX
  have hK := hE.1
  have hS : va_S A s.heap s.heap [] := va_S.rf
  have hl : lv_has ls 1 [(0, .ref nm_)] := hl
  refine lv_iconst (v := 1) hx hb dX11_allColumns_0 (by decide) ?_
  refine lv_aload_n hx hb dX11_allColumns_1 rfl (lv_at hl 0 rfl) ?_
  refine va_get (ci := 11) (v := .ref nknown_) (C := RX11) (T := TX11) (N := 39) hx hb htA in_X11 hown hK hP 0 rfl rfl 0 (by decide) (htA _ wd_1354) (fun _ h => h) rfl dX11_allColumns_2 ?_
  refine lv_iconst (v := 1) hx hb dX11_allColumns_5 (by decide) ?_
  refine va_iald hx hb hK hP 1 0 rfl rfl (in_lit (by decide)) dX11_allColumns_6 ?_
  refine lv_topi (fun v10060_ ev10060_ => ?_)
  have g1_ : rg (1) (6) v10060_ := by rw [ev10060_]; exact KX_l kb_1 rfknown_ (rg_lit (by decide) : rg (1) (1) (1 : Int32)) (by decide) (by decide)
  refine lv_ishl hx hb dX11_allColumns_7 ?_
  refine lv_iconst (v := 1) hx hb dX11_allColumns_8 (by decide) ?_
  refine lv_isub hx hb dX11_allColumns_9 ?_
  exact rI hX hE hP hD hS dX11_allColumns_10 (by decide) (by decide) ⟨(Or.inl ⟨v10060_, ev10060_, rfl⟩), rfl⟩
def R_X11_beside_e (fknown_ : Nat → Int32) (s_ : Int32) (r : Int32) : Prop := (∃ (v10100_ : Int32), R_X11_allColumns_e fknown_ v10100_ ∧ r = ((s_ ||| (s_ <<< (1 &&& 31))) ||| (s_ >>> (1 &&& 31))) &&& v10100_) ∨ False
set_option maxHeartbeats 4000000 in
set_option maxRecDepth 100000 in
theorem sf_X11_beside (l : Launch) (D : va_G) (cy : Nat → ClassId) (nm_ : Nat) (nknown_ : Nat) (ntelling_ : Nat) (nimages_ : Nat) (nisImage_ : Nat) (mthrown_ : Int32) (ntape_ : Nat) (mtaped_ : Int32) (mlength_ : Int32) (mhead_ : Int32) (mbegin_ : Int32) (mtoken_ : Int32) (mvalue_ : Int32) (mbad_ : Int32) (mbadPlace_ : Int32) (mfaultKind_ : Int32) (mfaultPlace_ : Int32) (mdeep_ : Int32) (mlawMany_ : Int32) (mlawAt_ : Int32) (nstack_ : Nat) (nasked_ : Nat) (mfell_ : Int32) (mfellIn_ : Int32) (naside_ : Nat) (mstate_ : Int32) (mlanded_ : Int32) (mwaitFalls_ : Int32) (mwaitWeight_ : Int32) (nfallsAfter_ : Nat) (nfalling_ : Nat) (ncomes_ : Nat) (ngoesOn_ : Nat) (nwayRow_ : Nat) (nmany_ : Nat) (nmanyThen_ : Nat) (mtoldLet_ : Int32) (ntSort_ : Nat) (ntMany_ : Nat) (nnumbers_ : Nat) (fknown_ : Nat → Int32) (s_ : Int32) (C_ : Int) (L_ : Int) (hb_ : Int) (ha_ : Int) (hc_ : Int) (hha_ : -2000000 ≤ ha_) (hhc_ : hc_ ≤ 4000000) (hhb_ : hb_ ≤ 1000000) (rmtaped_ : rg (0) (900) mtaped_) (rmlength_ : rg (0) (900) mlength_) (rmhead_ : rg (0) (900) mhead_) (rmbegin_ : rg (0) (900) mbegin_) (rfknown_ : KX C_ L_ ha_ hc_ hb_ fknown_) : Ci l yX11_beside cX11_beside 2 (some .int) { frames := 1, cells := 0, slots := 0, locals := 20 } D cy [.ref nm_, .int s_] [(nm_, .inr (11, [.ref nknown_, .ref ntelling_, .ref nimages_, .ref nisImage_, .int mthrown_, .ref ntape_, .int mtaped_, .int mlength_, .int mhead_, .int mbegin_, .int mtoken_, .int mvalue_, .int mbad_, .int mbadPlace_, .int mfaultKind_, .int mfaultPlace_, .int mdeep_, .int mlawMany_, .int mlawAt_, .ref nstack_, .ref nasked_, .int mfell_, .int mfellIn_, .ref naside_, .int mstate_, .int mlanded_, .int mwaitFalls_, .int mwaitWeight_, .ref nfallsAfter_, .ref nfalling_, .ref ncomes_, .ref ngoesOn_, .ref nwayRow_, .ref nmany_, .ref nmanyThen_, .int mtoldLet_, .ref ntSort_, .ref ntMany_, .ref nnumbers_])), (nknown_, .inl (cy 0, 2260, .inl (fknown_)))] (fun r W1 => R_X11_beside_e fknown_ s_ r ∧ W1 = [(nm_, .inr (11, [.ref nknown_, .ref ntelling_, .ref nimages_, .ref nisImage_, .int mthrown_, .ref ntape_, .int mtaped_, .int mlength_, .int mhead_, .int mbegin_, .int mtoken_, .int mvalue_, .int mbad_, .int mbadPlace_, .int mfaultKind_, .int mfaultPlace_, .int mdeep_, .int mlawMany_, .int mlawAt_, .ref nstack_, .ref nasked_, .int mfell_, .int mfellIn_, .ref naside_, .int mstate_, .int mlanded_, .int mwaitFalls_, .int mwaitWeight_, .ref nfallsAfter_, .ref nfalling_, .ref ncomes_, .ref ngoesOn_, .ref nwayRow_, .ref nmany_, .ref nmanyThen_, .int mtoldLet_, .ref ntSort_, .ref ntMany_, .ref nnumbers_])), (nknown_, .inl (cy 0, 2260, .inl (fknown_)))]) := by
  refine Ci.of (by decide) (Nat.le_of_ble_eq_true rfl) ?_
  intro p e s m below meth c A ls hX hE hP hD hl
  obtain ⟨hx, hb, hr, hml, hown, htA, hlk⟩ := id hX
  have hK := hE.1
  have hS : va_S A s.heap s.heap [] := va_S.rf
  have hl : lv_has ls 2 [(0, .ref nm_), (1, .int s_)] := hl
  refine lv_iload_n hx hb dX11_beside_0 rfl (lv_at hl 1 rfl) ?_
  refine lv_iload_n hx hb dX11_beside_1 rfl (lv_at hl 1 rfl) ?_
  refine lv_iconst (v := 1) hx hb dX11_beside_2 (by decide) ?_
  refine lv_ishl hx hb dX11_beside_3 ?_
  refine lv_ior hx hb dX11_beside_4 ?_
  refine lv_iload_n hx hb dX11_beside_5 rfl (lv_at hl 1 rfl) ?_
  refine lv_iconst (v := 1) hx hb dX11_beside_6 (by decide) ?_
  refine lv_ishr hx hb dX11_beside_7 ?_
  refine lv_ior hx hb dX11_beside_8 ?_
  refine lv_aload_n hx hb dX11_beside_9 rfl (lv_at hl 0 rfl) ?_
  refine kVi (As := []) (rest := [.int ((s_ ||| (s_ <<< (1 &&& 31))) ||| (s_ >>> (1 &&& 31)))]) (wr := []) hX hE (sf_X11_allColumns l D cy nm_ nknown_ ntelling_ nimages_ nisImage_ mthrown_ ntape_ mtaped_ mlength_ mhead_ mbegin_ mtoken_ mvalue_ mbad_ mbadPlace_ mfaultKind_ mfaultPlace_ mdeep_ mlawMany_ mlawAt_ nstack_ nasked_ mfell_ mfellIn_ naside_ mstate_ mlanded_ mwaitFalls_ mwaitWeight_ nfallsAfter_ nfalling_ ncomes_ ngoesOn_ nwayRow_ nmany_ nmanyThen_ mtoldLet_ ntSort_ ntMany_ nnumbers_ fknown_ C_ L_ hb_ ha_ hc_ (by omega) (by omega) (by omega) (rg_w rmtaped_ (by decide) (by decide)) (rg_w rmlength_ (by decide) (by decide)) (rg_w rmhead_ (by decide) (by decide)) (rg_w rmbegin_ (by decide) (by decide)) rfknown_) (cwVA 0 htA wd_1988 wd_1985 wd_10 wd_1987 wp_115 (by decide +kernel) ⟨by decide, by decide⟩) hP hD hS [0, 1] [] rfl rfl (by decide +kernel) 0 rfl rfl rfl rfl hl.1 rfl (Nat.le_of_ble_eq_true rfl) dX11_beside_10 (by decide) (fun v10100_ W1 H locs hw hP hD hS => ?_)
  refine W.widen (k := 0) (n := 0) (by decide) (by decide) ?_
  obtain ⟨k10_0_, rfl⟩ := hw
  have hP : va_P D vwCl [(nm_, .inr (11, [.ref nknown_, .ref ntelling_, .ref nimages_, .ref nisImage_, .int mthrown_, .ref ntape_, .int mtaped_, .int mlength_, .int mhead_, .int mbegin_, .int mtoken_, .int mvalue_, .int mbad_, .int mbadPlace_, .int mfaultKind_, .int mfaultPlace_, .int mdeep_, .int mlawMany_, .int mlawAt_, .ref nstack_, .ref nasked_, .int mfell_, .int mfellIn_, .ref naside_, .int mstate_, .int mlanded_, .int mwaitFalls_, .int mwaitWeight_, .ref nfallsAfter_, .ref nfalling_, .ref ncomes_, .ref ngoesOn_, .ref nwayRow_, .ref nmany_, .ref nmanyThen_, .int mtoldLet_, .ref ntSort_, .ref ntMany_, .ref nnumbers_])), (nknown_, .inl (cy 0, 2260, .inl (fknown_)))] H := hP
  have hD := va_ca hP hD
  refine lv_iand hx hb dX11_beside_13 ?_
  exact rI hX hE hP hD hS dX11_beside_14 (by decide) (by decide) ⟨(Or.inl ⟨v10100_, k10_0_, rfl⟩), rfl⟩
def R_X11_is_sk_e1 (fknown_ : Nat → Int32) (t_ : Int32) (w_ : Int32) (r : Int32) : Prop := (∃ (v10080_ : Int32), v10080_ = fknown_ (8 + t_).toNatClampNeg ∧ ¬ v10080_ = w_ ∧ r = (0 : Int32)) ∨ False
def R_X11_is_sk_e2 (fknown_ : Nat → Int32) (t_ : Int32) (w_ : Int32) (r : Int32) : Prop := (∃ (v10080_ : Int32), v10080_ = fknown_ (8 + t_).toNatClampNeg ∧ v10080_ = w_ ∧ r = (1 : Int32)) ∨ False
set_option maxHeartbeats 4000000 in
set_option maxRecDepth 100000 in
theorem sf_X11_is_sk (l : Launch) (D : va_G) (cy : Nat → ClassId) (nm_ : Nat) (nknown_ : Nat) (ntelling_ : Nat) (nimages_ : Nat) (nisImage_ : Nat) (mthrown_ : Int32) (ntape_ : Nat) (mtaped_ : Int32) (mlength_ : Int32) (mhead_ : Int32) (mbegin_ : Int32) (mtoken_ : Int32) (mvalue_ : Int32) (mbad_ : Int32) (mbadPlace_ : Int32) (mfaultKind_ : Int32) (mfaultPlace_ : Int32) (mdeep_ : Int32) (mlawMany_ : Int32) (mlawAt_ : Int32) (nstack_ : Nat) (nasked_ : Nat) (mfell_ : Int32) (mfellIn_ : Int32) (naside_ : Nat) (mstate_ : Int32) (mlanded_ : Int32) (mwaitFalls_ : Int32) (mwaitWeight_ : Int32) (nfallsAfter_ : Nat) (nfalling_ : Nat) (ncomes_ : Nat) (ngoesOn_ : Nat) (nwayRow_ : Nat) (nmany_ : Nat) (nmanyThen_ : Nat) (mtoldLet_ : Int32) (ntSort_ : Nat) (ntMany_ : Nat) (nnumbers_ : Nat) (fknown_ : Nat → Int32) (t_ : Int32) (w_ : Int32) (C_ : Int) (L_ : Int) (hb_ : Int) (ha_ : Int) (hc_ : Int) (hha_ : -2000000 ≤ ha_) (hhc_ : hc_ ≤ 4000000) (hhb_ : hb_ ≤ 1000000) (rmtaped_ : rg (0) (900) mtaped_) (rmlength_ : rg (0) (900) mlength_) (rmhead_ : rg (0) (900) mhead_) (rmbegin_ : rg (0) (900) mbegin_) (rt_ : rg (0) (7) t_) (rfknown_ : KX C_ L_ ha_ hc_ hb_ fknown_) : Ci l yX11_is cX11_is 3 (some .boolean) { frames := 0, cells := 0, slots := 0, locals := 0 } D cy [.ref nm_, .int t_, .int w_] [(nm_, .inr (11, [.ref nknown_, .ref ntelling_, .ref nimages_, .ref nisImage_, .int mthrown_, .ref ntape_, .int mtaped_, .int mlength_, .int mhead_, .int mbegin_, .int mtoken_, .int mvalue_, .int mbad_, .int mbadPlace_, .int mfaultKind_, .int mfaultPlace_, .int mdeep_, .int mlawMany_, .int mlawAt_, .ref nstack_, .ref nasked_, .int mfell_, .int mfellIn_, .ref naside_, .int mstate_, .int mlanded_, .int mwaitFalls_, .int mwaitWeight_, .ref nfallsAfter_, .ref nfalling_, .ref ncomes_, .ref ngoesOn_, .ref nwayRow_, .ref nmany_, .ref nmanyThen_, .int mtoldLet_, .ref ntSort_, .ref ntMany_, .ref nnumbers_])), (nknown_, .inl (cy 0, 2260, .inl (fknown_)))] (fun r W1 => (¬ fknown_ (8 + t_).toNatClampNeg = w_ ∧ R_X11_is_sk_e1 fknown_ t_ w_ r ∧ W1 = [(nm_, .inr (11, [.ref nknown_, .ref ntelling_, .ref nimages_, .ref nisImage_, .int mthrown_, .ref ntape_, .int mtaped_, .int mlength_, .int mhead_, .int mbegin_, .int mtoken_, .int mvalue_, .int mbad_, .int mbadPlace_, .int mfaultKind_, .int mfaultPlace_, .int mdeep_, .int mlawMany_, .int mlawAt_, .ref nstack_, .ref nasked_, .int mfell_, .int mfellIn_, .ref naside_, .int mstate_, .int mlanded_, .int mwaitFalls_, .int mwaitWeight_, .ref nfallsAfter_, .ref nfalling_, .ref ncomes_, .ref ngoesOn_, .ref nwayRow_, .ref nmany_, .ref nmanyThen_, .int mtoldLet_, .ref ntSort_, .ref ntMany_, .ref nnumbers_])), (nknown_, .inl (cy 0, 2260, .inl (fknown_)))] ∧ rg (0) (0) r) ∨ (fknown_ (8 + t_).toNatClampNeg = w_ ∧ R_X11_is_sk_e2 fknown_ t_ w_ r ∧ W1 = [(nm_, .inr (11, [.ref nknown_, .ref ntelling_, .ref nimages_, .ref nisImage_, .int mthrown_, .ref ntape_, .int mtaped_, .int mlength_, .int mhead_, .int mbegin_, .int mtoken_, .int mvalue_, .int mbad_, .int mbadPlace_, .int mfaultKind_, .int mfaultPlace_, .int mdeep_, .int mlawMany_, .int mlawAt_, .ref nstack_, .ref nasked_, .int mfell_, .int mfellIn_, .ref naside_, .int mstate_, .int mlanded_, .int mwaitFalls_, .int mwaitWeight_, .ref nfallsAfter_, .ref nfalling_, .ref ncomes_, .ref ngoesOn_, .ref nwayRow_, .ref nmany_, .ref nmanyThen_, .int mtoldLet_, .ref ntSort_, .ref ntMany_, .ref nnumbers_])), (nknown_, .inl (cy 0, 2260, .inl (fknown_)))] ∧ rg (1) (1) r)) := by
  refine Ci.of (by decide) (Nat.le_of_ble_eq_true rfl) ?_
  intro p e s m below meth c A ls hX hE hP hD hl
  obtain ⟨hx, hb, hr, hml, hown, htA, hlk⟩ := id hX
  have hK := hE.1
  have hS : va_S A s.heap s.heap [] := va_S.rf
  have hl : lv_has ls 3 [(0, .ref nm_), (1, .int t_), (2, .int w_)] := hl
  refine lv_aload_n hx hb dX11_is_0 rfl (lv_at hl 0 rfl) ?_
  refine va_get (ci := 11) (v := .ref nknown_) (C := RX11) (T := TX11) (N := 39) hx hb htA in_X11 hown hK hP 0 rfl rfl 0 (by decide) (htA _ wd_1354) (fun _ h => h) rfl dX11_is_1 ?_
  refine lv_bipush (v := 8) hx hb dX11_is_4 (by decide) ?_
  refine lv_iload_n hx hb dX11_is_6 rfl (lv_at hl 1 rfl) ?_
  refine lv_iadd hx hb dX11_is_7 ?_
  have g1_ : rg (8) (15) (8 + t_) := rg_add (rg_lit (by decide) : rg (8) (8) (8 : Int32)) rt_ (by decide) (by decide) (by decide) (by decide)
  refine va_iald hx hb hK hP 1 0 rfl rfl (rg_in g1_ (by decide) (by decide)) dX11_is_8 ?_
  refine lv_topi (fun v10080_ ev10080_ => ?_)
  have g2_ : rg (0) (2) v10080_ := by rw [ev10080_]; exact KX_l kb_8 rfknown_ g1_ (by decide) (by decide)
  refine lv_iload_n hx hb dX11_is_9 rfl (lv_at hl 2 rfl) ?_
  refine lv_icmp_ne (tgt := 17) hx hb dX11_is_10 (by decide) (fun c10_ => ?_) (fun c10_ => ?_)
  · refine lv_iconst (v := 0) hx hb dX11_is_17 (by decide) ?_
    exact rZ hX (by decide) hE hP hD hS dX11_is_18 (by decide) (by decide) (Or.inl (⟨(fun q9 => c10_ (ev10080_.trans q9)), (Or.inl ⟨v10080_, ev10080_, c10_, rfl⟩), rfl, (rg_w (rg_lit (by decide) : rg (0) (0) (0 : Int32)) (by decide) (by decide))⟩))
  · refine lv_iconst (v := 1) hx hb dX11_is_13 (by decide) ?_
    refine lv_goto (tgt := 18) hx hb dX11_is_14 (by decide) ?_
    exact rZ hX (by decide) hE hP hD hS dX11_is_18 (by decide) (by decide) (Or.inr (⟨(ev10080_.symm.trans c10_), (Or.inl ⟨v10080_, ev10080_, c10_, rfl⟩), rfl, (rg_w (rg_lit (by decide) : rg (1) (1) (1 : Int32)) (by decide) (by decide))⟩))
def R_X11_has_sk_e1 (s_ : Int32) (k_ : Int32) (r : Int32) : Prop := (¬ ((s_ >>> (k_ &&& 31)) &&& 1) = (1 : Int32) ∧ r = (0 : Int32)) ∨ False
def R_X11_has_sk_e2 (s_ : Int32) (k_ : Int32) (r : Int32) : Prop := (((s_ >>> (k_ &&& 31)) &&& 1) = (1 : Int32) ∧ r = (1 : Int32)) ∨ False
set_option maxHeartbeats 4000000 in
set_option maxRecDepth 100000 in
theorem sf_X11_has_sk (l : Launch) (D : va_G) (cy : Nat → ClassId) (s_ : Int32) (k_ : Int32) (rk_ : rg (0) (7) k_) : Ci l yX11_has cX11_has 2 (some .boolean) { frames := 0, cells := 0, slots := 0, locals := 0 } D cy [.int s_, .int k_] [] (fun r W1 => (¬ bN s_ k_.toNatClampNeg ∧ R_X11_has_sk_e1 s_ k_ r ∧ W1 = [] ∧ rg (0) (0) r) ∨ (bN s_ k_.toNatClampNeg ∧ R_X11_has_sk_e2 s_ k_ r ∧ W1 = [] ∧ rg (1) (1) r)) := by
  refine Ci.of (by decide) (Nat.le_of_ble_eq_true rfl) ?_
  intro p e s m below meth c A ls hX hE hP hD hl
  obtain ⟨hx, hb, hr, hml, hown, htA, hlk⟩ := id hX
  have hK := hE.1
  have hS : va_S A s.heap s.heap [] := va_S.rf
  have hl : lv_has ls 2 [(0, .int s_), (1, .int k_)] := hl
  refine lv_iload_n hx hb dX11_has_0 rfl (lv_at hl 0 rfl) ?_
  refine lv_iload_n hx hb dX11_has_1 rfl (lv_at hl 1 rfl) ?_
  refine lv_ishr hx hb dX11_has_2 ?_
  refine lv_iconst (v := 1) hx hb dX11_has_3 (by decide) ?_
  refine lv_iand hx hb dX11_has_4 ?_
  have g1_ : rg (0) (1) ((s_ >>> (k_ &&& 31)) &&& 1) := rg_and (by decide) (by decide)
  refine lv_iconst (v := 1) hx hb dX11_has_5 (by decide) ?_
  refine lv_icmp_ne (tgt := 13) hx hb dX11_has_6 (by decide) (fun c6_ => ?_) (fun c6_ => ?_)
  · have g2_ : rg (0) (0) ((s_ >>> (k_ &&& 31)) &&& 1) := rg_ne2 c6_ g1_ (by decide) (by decide)
    refine lv_iconst (v := 0) hx hb dX11_has_13 (by decide) ?_
    exact rZ hX (by decide) hE hP hD hS dX11_has_14 (by decide) (by decide) (Or.inl (⟨(fun q9 => c6_ ((bt_iff rk_).mpr q9)), (Or.inl ⟨c6_, rfl⟩), rfl, (rg_w (rg_lit (by decide) : rg (0) (0) (0 : Int32)) (by decide) (by decide))⟩))
  · have g3_ : rg (1) (1) ((s_ >>> (k_ &&& 31)) &&& 1) := rg_eq c6_ (rg_lit (by decide) : rg (1) (1) (1 : Int32))
    refine lv_iconst (v := 1) hx hb dX11_has_9 (by decide) ?_
    refine lv_goto (tgt := 14) hx hb dX11_has_10 (by decide) ?_
    exact rZ hX (by decide) hE hP hD hS dX11_has_14 (by decide) (by decide) (Or.inr (⟨((bt_iff rk_).mp c6_), (Or.inl ⟨c6_, rfl⟩), rfl, (rg_w (rg_lit (by decide) : rg (1) (1) (1 : Int32)) (by decide) (by decide))⟩))
def R_X11_hangsIn_sk_e1 (fknown_ : Nat → Int32) (t_ : Int32) (c_ : Int32) (r : Int32) : Prop := (∃ (v10030_ : Int32), R_X11_is_sk_e1 fknown_ t_ ((1 : Int32)) v10030_ ∧ r = (0 : Int32)) ∨ (∃ (v10030_ : Int32) (v20010170_ : Int32), R_X11_is_sk_e2 fknown_ t_ ((1 : Int32)) v10030_ ∧ v20010170_ = fknown_ (16 + t_).toNatClampNeg ∧ ¬ v20010170_ = c_ ∧ r = (0 : Int32)) ∨ False
def R_X11_hangsIn_sk_e2 (fknown_ : Nat → Int32) (t_ : Int32) (c_ : Int32) (r : Int32) : Prop := (∃ (v10030_ : Int32) (v20010170_ : Int32), R_X11_is_sk_e2 fknown_ t_ ((1 : Int32)) v10030_ ∧ v20010170_ = fknown_ (16 + t_).toNatClampNeg ∧ v20010170_ = c_ ∧ r = (1 : Int32)) ∨ False
set_option maxHeartbeats 4000000 in
set_option maxRecDepth 100000 in
theorem sf_X11_hangsIn_sk (l : Launch) (D : va_G) (cy : Nat → ClassId) (nm_ : Nat) (nknown_ : Nat) (ntelling_ : Nat) (nimages_ : Nat) (nisImage_ : Nat) (mthrown_ : Int32) (ntape_ : Nat) (mtaped_ : Int32) (mlength_ : Int32) (mhead_ : Int32) (mbegin_ : Int32) (mtoken_ : Int32) (mvalue_ : Int32) (mbad_ : Int32) (mbadPlace_ : Int32) (mfaultKind_ : Int32) (mfaultPlace_ : Int32) (mdeep_ : Int32) (mlawMany_ : Int32) (mlawAt_ : Int32) (nstack_ : Nat) (nasked_ : Nat) (mfell_ : Int32) (mfellIn_ : Int32) (naside_ : Nat) (mstate_ : Int32) (mlanded_ : Int32) (mwaitFalls_ : Int32) (mwaitWeight_ : Int32) (nfallsAfter_ : Nat) (nfalling_ : Nat) (ncomes_ : Nat) (ngoesOn_ : Nat) (nwayRow_ : Nat) (nmany_ : Nat) (nmanyThen_ : Nat) (mtoldLet_ : Int32) (ntSort_ : Nat) (ntMany_ : Nat) (nnumbers_ : Nat) (fknown_ : Nat → Int32) (t_ : Int32) (c_ : Int32) (C_ : Int) (L_ : Int) (hb_ : Int) (ha_ : Int) (hc_ : Int) (hha_ : -2000000 ≤ ha_) (hhc_ : hc_ ≤ 4000000) (hhb_ : hb_ ≤ 1000000) (rmtaped_ : rg (0) (900) mtaped_) (rmlength_ : rg (0) (900) mlength_) (rmhead_ : rg (0) (900) mhead_) (rmbegin_ : rg (0) (900) mbegin_) (rt_ : rg (0) (7) t_) (rfknown_ : KX C_ L_ ha_ hc_ hb_ fknown_) : Ci l yX11_hangsIn cX11_hangsIn 3 (some .boolean) { frames := 1, cells := 0, slots := 0, locals := 22 } D cy [.ref nm_, .int t_, .int c_] [(nm_, .inr (11, [.ref nknown_, .ref ntelling_, .ref nimages_, .ref nisImage_, .int mthrown_, .ref ntape_, .int mtaped_, .int mlength_, .int mhead_, .int mbegin_, .int mtoken_, .int mvalue_, .int mbad_, .int mbadPlace_, .int mfaultKind_, .int mfaultPlace_, .int mdeep_, .int mlawMany_, .int mlawAt_, .ref nstack_, .ref nasked_, .int mfell_, .int mfellIn_, .ref naside_, .int mstate_, .int mlanded_, .int mwaitFalls_, .int mwaitWeight_, .ref nfallsAfter_, .ref nfalling_, .ref ncomes_, .ref ngoesOn_, .ref nwayRow_, .ref nmany_, .ref nmanyThen_, .int mtoldLet_, .ref ntSort_, .ref ntMany_, .ref nnumbers_])), (nknown_, .inl (cy 0, 2260, .inl (fknown_)))] (fun r W1 => (¬ (fknown_ (8 + t_).toNatClampNeg = 1 ∧ fknown_ (16 + t_).toNatClampNeg = c_) ∧ R_X11_hangsIn_sk_e1 fknown_ t_ c_ r ∧ W1 = [(nm_, .inr (11, [.ref nknown_, .ref ntelling_, .ref nimages_, .ref nisImage_, .int mthrown_, .ref ntape_, .int mtaped_, .int mlength_, .int mhead_, .int mbegin_, .int mtoken_, .int mvalue_, .int mbad_, .int mbadPlace_, .int mfaultKind_, .int mfaultPlace_, .int mdeep_, .int mlawMany_, .int mlawAt_, .ref nstack_, .ref nasked_, .int mfell_, .int mfellIn_, .ref naside_, .int mstate_, .int mlanded_, .int mwaitFalls_, .int mwaitWeight_, .ref nfallsAfter_, .ref nfalling_, .ref ncomes_, .ref ngoesOn_, .ref nwayRow_, .ref nmany_, .ref nmanyThen_, .int mtoldLet_, .ref ntSort_, .ref ntMany_, .ref nnumbers_])), (nknown_, .inl (cy 0, 2260, .inl (fknown_)))] ∧ rg (0) (0) r) ∨ ((fknown_ (8 + t_).toNatClampNeg = 1 ∧ fknown_ (16 + t_).toNatClampNeg = c_) ∧ R_X11_hangsIn_sk_e2 fknown_ t_ c_ r ∧ W1 = [(nm_, .inr (11, [.ref nknown_, .ref ntelling_, .ref nimages_, .ref nisImage_, .int mthrown_, .ref ntape_, .int mtaped_, .int mlength_, .int mhead_, .int mbegin_, .int mtoken_, .int mvalue_, .int mbad_, .int mbadPlace_, .int mfaultKind_, .int mfaultPlace_, .int mdeep_, .int mlawMany_, .int mlawAt_, .ref nstack_, .ref nasked_, .int mfell_, .int mfellIn_, .ref naside_, .int mstate_, .int mlanded_, .int mwaitFalls_, .int mwaitWeight_, .ref nfallsAfter_, .ref nfalling_, .ref ncomes_, .ref ngoesOn_, .ref nwayRow_, .ref nmany_, .ref nmanyThen_, .int mtoldLet_, .ref ntSort_, .ref ntMany_, .ref nnumbers_])), (nknown_, .inl (cy 0, 2260, .inl (fknown_)))] ∧ rg (1) (1) r)) := by
  refine Ci.of (by decide) (Nat.le_of_ble_eq_true rfl) ?_
  intro p e s m below meth c A ls hX hE hP hD hl
  obtain ⟨hx, hb, hr, hml, hown, htA, hlk⟩ := id hX
  have hK := hE.1
  have hS : va_S A s.heap s.heap [] := va_S.rf
  have hl : lv_has ls 3 [(0, .ref nm_), (1, .int t_), (2, .int c_)] := hl
  refine lv_aload_n hx hb dX11_hangsIn_0 rfl (lv_at hl 0 rfl) ?_
  refine lv_iload_n hx hb dX11_hangsIn_1 rfl (lv_at hl 1 rfl) ?_
  refine lv_iconst (v := 1) hx hb dX11_hangsIn_2 (by decide) ?_
  refine kVi (As := [.int t_, .int 1]) (rest := []) (wr := []) hX hE (sf_X11_is_sk l D cy nm_ nknown_ ntelling_ nimages_ nisImage_ mthrown_ ntape_ mtaped_ mlength_ mhead_ mbegin_ mtoken_ mvalue_ mbad_ mbadPlace_ mfaultKind_ mfaultPlace_ mdeep_ mlawMany_ mlawAt_ nstack_ nasked_ mfell_ mfellIn_ naside_ mstate_ mlanded_ mwaitFalls_ mwaitWeight_ nfallsAfter_ nfalling_ ncomes_ ngoesOn_ nwayRow_ nmany_ nmanyThen_ mtoldLet_ ntSort_ ntMany_ nnumbers_ fknown_ t_ (1 : Int32) C_ L_ hb_ ha_ hc_ (by omega) (by omega) (by omega) (rg_w rmtaped_ (by decide) (by decide)) (rg_w rmlength_ (by decide) (by decide)) (rg_w rmhead_ (by decide) (by decide)) (rg_w rmbegin_ (by decide) (by decide)) (rg_w rt_ (by decide) (by decide)) rfknown_) (cwVA 2 htA wd_1649 wd_1646 wd_10 wd_1648 wp_72 (by decide +kernel) ⟨by decide, by decide⟩) hP hD hS [0, 1] [] rfl rfl (by decide +kernel) 0 rfl rfl rfl rfl hl.1 rfl (Nat.le_of_ble_eq_true rfl) dX11_hangsIn_3 (by decide) (fun v10030_ W1 H locs hw hP hD hS => ?_)
  refine W.widen (k := 0) (n := 0) (by decide) (by decide) ?_
  rcases hw with ⟨k3_0_, k3_1_, rfl, kr3_⟩ | ⟨k3_0_, k3_1_, rfl, kr3_⟩
  · have hP : va_P D vwCl [(nm_, .inr (11, [.ref nknown_, .ref ntelling_, .ref nimages_, .ref nisImage_, .int mthrown_, .ref ntape_, .int mtaped_, .int mlength_, .int mhead_, .int mbegin_, .int mtoken_, .int mvalue_, .int mbad_, .int mbadPlace_, .int mfaultKind_, .int mfaultPlace_, .int mdeep_, .int mlawMany_, .int mlawAt_, .ref nstack_, .ref nasked_, .int mfell_, .int mfellIn_, .ref naside_, .int mstate_, .int mlanded_, .int mwaitFalls_, .int mwaitWeight_, .ref nfallsAfter_, .ref nfalling_, .ref ncomes_, .ref ngoesOn_, .ref nwayRow_, .ref nmany_, .ref nmanyThen_, .int mtoldLet_, .ref ntSort_, .ref ntMany_, .ref nnumbers_])), (nknown_, .inl (cy 0, 2260, .inl (fknown_)))] H := hP
    have hD := va_ca hP hD
    refine lv_if_eq (tgt := 26) hx hb dX11_hangsIn_6 (by decide) (fun c10000006_ => ?_) (fun c10000006_ => rg_ne0 c10000006_ kr3_ (rg_lit (by decide) : rg (0) (0) (0 : Int32)))
    refine lv_iconst (v := 0) hx hb dX11_hangsIn_26 (by decide) ?_
    exact rZ hX (by decide) hE hP hD hS dX11_hangsIn_27 (by decide) (by decide) (Or.inl (⟨(fun q9 => k3_0_ q9.1), (Or.inl ⟨v10030_, k3_1_, rfl⟩), rfl, (rg_w (rg_lit (by decide) : rg (0) (0) (0 : Int32)) (by decide) (by decide))⟩))
  · have hP : va_P D vwCl [(nm_, .inr (11, [.ref nknown_, .ref ntelling_, .ref nimages_, .ref nisImage_, .int mthrown_, .ref ntape_, .int mtaped_, .int mlength_, .int mhead_, .int mbegin_, .int mtoken_, .int mvalue_, .int mbad_, .int mbadPlace_, .int mfaultKind_, .int mfaultPlace_, .int mdeep_, .int mlawMany_, .int mlawAt_, .ref nstack_, .ref nasked_, .int mfell_, .int mfellIn_, .ref naside_, .int mstate_, .int mlanded_, .int mwaitFalls_, .int mwaitWeight_, .ref nfallsAfter_, .ref nfalling_, .ref ncomes_, .ref ngoesOn_, .ref nwayRow_, .ref nmany_, .ref nmanyThen_, .int mtoldLet_, .ref ntSort_, .ref ntMany_, .ref nnumbers_])), (nknown_, .inl (cy 0, 2260, .inl (fknown_)))] H := hP
    have hD := va_ca hP hD
    refine lv_if_eq (tgt := 26) hx hb dX11_hangsIn_6 (by decide) (fun c20000006_ => rg_eqab c20000006_ kr3_ (rg_lit (by decide) : rg (0) (0) (0 : Int32)) (by decide)) (fun c20000006_ => ?_)
    refine lv_aload_n hx hb dX11_hangsIn_9 rfl (lv_at hl 0 rfl) ?_
    refine va_get (ci := 11) (v := .ref nknown_) (C := RX11) (T := TX11) (N := 39) hx hb htA in_X11 hown hK hP 0 rfl rfl 0 (by decide) (htA _ wd_1354) (fun _ h => h) rfl dX11_hangsIn_10 ?_
    refine lv_bipush (v := 16) hx hb dX11_hangsIn_13 (by decide) ?_
    refine lv_iload_n hx hb dX11_hangsIn_15 rfl (lv_at hl 1 rfl) ?_
    refine lv_iadd hx hb dX11_hangsIn_16 ?_
    have g1_ : rg (16) (23) (16 + t_) := rg_add (rg_lit (by decide) : rg (16) (16) (16 : Int32)) rt_ (by decide) (by decide) (by decide) (by decide)
    refine va_iald hx hb hK hP 1 0 rfl rfl (rg_in g1_ (by decide) (by decide)) dX11_hangsIn_17 ?_
    refine lv_topi (fun v20010170_ ev20010170_ => ?_)
    refine lv_iload_n hx hb dX11_hangsIn_18 rfl (lv_at hl 2 rfl) ?_
    refine lv_icmp_ne (tgt := 26) hx hb dX11_hangsIn_19 (by decide) (fun c20000019_ => ?_) (fun c20000019_ => ?_)
    · refine lv_iconst (v := 0) hx hb dX11_hangsIn_26 (by decide) ?_
      exact rZ hX (by decide) hE hP hD hS dX11_hangsIn_27 (by decide) (by decide) (Or.inl (⟨(fun q9 => c20000019_ (ev20010170_.trans q9.2)), (Or.inr (Or.inl ⟨v10030_, v20010170_, k3_1_, ev20010170_, c20000019_, rfl⟩)), rfl, (rg_w (rg_lit (by decide) : rg (0) (0) (0 : Int32)) (by decide) (by decide))⟩))
    · refine lv_iconst (v := 1) hx hb dX11_hangsIn_22 (by decide) ?_
      refine lv_goto (tgt := 27) hx hb dX11_hangsIn_23 (by decide) ?_
      exact rZ hX (by decide) hE hP hD hS dX11_hangsIn_27 (by decide) (by decide) (Or.inr (⟨⟨k3_0_, ev20010170_.symm.trans c20000019_⟩, (Or.inl ⟨v10030_, v20010170_, k3_1_, ev20010170_, c20000019_, rfl⟩), rfl, (rg_w (rg_lit (by decide) : rg (1) (1) (1 : Int32)) (by decide) (by decide))⟩))
def R_X11_nextHour_b1 (fknown_ : Nat → Int32) (uZ_ vZ_ : Int32 × Int32) : Prop := (∃ (v10080_ : Int32) (v10170_ : Int32), R_X11_things_e fknown_ v10080_ ∧ ¬ (v10080_ ≤ uZ_.1) ∧ R_X11_is_sk_e1 fknown_ uZ_.1 ((1 : Int32)) v10170_ ∧ vZ_ = (uZ_.1 + 1, uZ_.2)) ∨ (∃ (v10080_ : Int32) (v10170_ : Int32) (v20010320_ : Int32), R_X11_things_e fknown_ v10080_ ∧ ¬ (v10080_ ≤ uZ_.1) ∧ R_X11_is_sk_e2 fknown_ uZ_.1 ((1 : Int32)) v10170_ ∧ v20010320_ = fknown_ (32 + uZ_.1).toNatClampNeg ∧ vZ_ = (uZ_.1 + 1, (if v20010320_ < uZ_.2 then v20010320_ else uZ_.2))) ∨ False
def R_X11_nextHour_e (fknown_ : Nat → Int32) (r : Int32) : Prop := (∃ (v200600_ : Int32) (v200601_ : Int32) (v10080_ : Int32), Itr (R_X11_nextHour_b1 fknown_) (0, 536870912) (v200600_, v200601_) ∧ R_X11_things_e fknown_ v10080_ ∧ v10080_ ≤ v200600_ ∧ r = v200601_) ∨ False
set_option maxHeartbeats 4000000 in
set_option maxRecDepth 100000 in
theorem sf_X11_nextHour (l : Launch) (D : va_G) (cy : Nat → ClassId) (nm_ : Nat) (nknown_ : Nat) (ntelling_ : Nat) (nimages_ : Nat) (nisImage_ : Nat) (mthrown_ : Int32) (ntape_ : Nat) (mtaped_ : Int32) (mlength_ : Int32) (mhead_ : Int32) (mbegin_ : Int32) (mtoken_ : Int32) (mvalue_ : Int32) (mbad_ : Int32) (mbadPlace_ : Int32) (mfaultKind_ : Int32) (mfaultPlace_ : Int32) (mdeep_ : Int32) (mlawMany_ : Int32) (mlawAt_ : Int32) (nstack_ : Nat) (nasked_ : Nat) (mfell_ : Int32) (mfellIn_ : Int32) (naside_ : Nat) (mstate_ : Int32) (mlanded_ : Int32) (mwaitFalls_ : Int32) (mwaitWeight_ : Int32) (nfallsAfter_ : Nat) (nfalling_ : Nat) (ncomes_ : Nat) (ngoesOn_ : Nat) (nwayRow_ : Nat) (nmany_ : Nat) (nmanyThen_ : Nat) (mtoldLet_ : Int32) (ntSort_ : Nat) (ntMany_ : Nat) (nnumbers_ : Nat) (fknown_ : Nat → Int32) (C_ : Int) (L_ : Int) (hb_ : Int) (ha_ : Int) (hc_ : Int) (hha_ : -2000000 ≤ ha_) (hhc_ : hc_ ≤ 4000000) (hhb_ : hb_ ≤ 1000000) (rmtaped_ : rg (0) (900) mtaped_) (rmlength_ : rg (0) (900) mlength_) (rmhead_ : rg (0) (900) mhead_) (rmbegin_ : rg (0) (900) mbegin_) (rfknown_ : KX C_ L_ ha_ hc_ hb_ fknown_) : Ci l yX11_nextHour cX11_nextHour 3 (some .int) { frames := 1, cells := 0, slots := 0, locals := 30 } D cy [.ref nm_] [(nm_, .inr (11, [.ref nknown_, .ref ntelling_, .ref nimages_, .ref nisImage_, .int mthrown_, .ref ntape_, .int mtaped_, .int mlength_, .int mhead_, .int mbegin_, .int mtoken_, .int mvalue_, .int mbad_, .int mbadPlace_, .int mfaultKind_, .int mfaultPlace_, .int mdeep_, .int mlawMany_, .int mlawAt_, .ref nstack_, .ref nasked_, .int mfell_, .int mfellIn_, .ref naside_, .int mstate_, .int mlanded_, .int mwaitFalls_, .int mwaitWeight_, .ref nfallsAfter_, .ref nfalling_, .ref ncomes_, .ref ngoesOn_, .ref nwayRow_, .ref nmany_, .ref nmanyThen_, .int mtoldLet_, .ref ntSort_, .ref ntMany_, .ref nnumbers_])), (nknown_, .inl (cy 0, 2260, .inl (fknown_)))] (fun r W1 => NX fknown_ r ∧ R_X11_nextHour_e fknown_ r ∧ W1 = [(nm_, .inr (11, [.ref nknown_, .ref ntelling_, .ref nimages_, .ref nisImage_, .int mthrown_, .ref ntape_, .int mtaped_, .int mlength_, .int mhead_, .int mbegin_, .int mtoken_, .int mvalue_, .int mbad_, .int mbadPlace_, .int mfaultKind_, .int mfaultPlace_, .int mdeep_, .int mlawMany_, .int mlawAt_, .ref nstack_, .ref nasked_, .int mfell_, .int mfellIn_, .ref naside_, .int mstate_, .int mlanded_, .int mwaitFalls_, .int mwaitWeight_, .ref nfallsAfter_, .ref nfalling_, .ref ncomes_, .ref ngoesOn_, .ref nwayRow_, .ref nmany_, .ref nmanyThen_, .int mtoldLet_, .ref ntSort_, .ref ntMany_, .ref nnumbers_])), (nknown_, .inl (cy 0, 2260, .inl (fknown_)))] ∧ rg (-2147483648) (536870912) r) := by
  refine Ci.of (by decide) (Nat.le_of_ble_eq_true rfl) ?_
  intro p e s m below meth c A ls hX hE hP hD hl
  obtain ⟨hx, hb, hr, hml, hown, htA, hlk⟩ := id hX
  have hK := hE.1
  have hS : va_S A s.heap s.heap [] := va_S.rf
  have hl : lv_has ls 3 [(0, .ref nm_)] := hl
  refine lv_ldcw hx hb hown (htA _ wd_1873) dX11_nextHour_0 ?_
  refine lv_istore_n (lv' := [(1, .int 536870912), (0, .ref nm_)]) hx hb dX11_nextHour_3 rfl hl (by decide) rfl (fun ls hl => ?_)
  refine lv_iconst (v := 0) hx hb dX11_nextHour_4 (by decide) ?_
  refine lv_istore_n (lv' := [(2, .int 0), (1, .int 536870912), (0, .ref nm_)]) hx hb dX11_nextHour_5 rfl hl (by decide) rfl (fun ls hl => ?_)
  refine loopT (τ := Int32 × Int32) (WS := fun i => [(nm_, .inr (11, [.ref nknown_, .ref ntelling_, .ref nimages_, .ref nisImage_, .int mthrown_, .ref ntape_, .int mtaped_, .int mlength_, .int mhead_, .int mbegin_, .int mtoken_, .int mvalue_, .int mbad_, .int mbadPlace_, .int mfaultKind_, .int mfaultPlace_, .int mdeep_, .int mlawMany_, .int mlawAt_, .ref nstack_, .ref nasked_, .int mfell_, .int mfellIn_, .ref naside_, .int mstate_, .int mlanded_, .int mwaitFalls_, .int mwaitWeight_, .ref nfallsAfter_, .ref nfalling_, .ref ncomes_, .ref ngoesOn_, .ref nwayRow_, .ref nmany_, .ref nmanyThen_, .int mtoldLet_, .ref ntSort_, .ref ntMany_, .ref nnumbers_])), (nknown_, .inl (cy 0, 2260, .inl (fknown_)))]) (LV := fun i => [(2, .int i.1), (1, .int i.2), (0, .ref nm_)]) (fun i => (32 - i.1.toInt).toNat) (fun i => rg (0) (31) i.1 ∧ rg (-2147483648) (536870912) i.2 ∧ NI fknown_ i.2 i.1 ∧ Itr (R_X11_nextHour_b1 fknown_) (0, 536870912) (i.1, i.2)) ?_ (0, 536870912) ⟨(rg_w (rg_lit (by decide) : rg (0) (0) (0 : Int32)) (by decide) (by decide)), (rg_w (rg_lit (by decide) : rg (536870912) (536870912) (536870912 : Int32)) (by decide) (by decide)), NI_0, (Itr.rf _ _)⟩ hP hD hS (lv_sub hl [0, 1, 2] rfl)
  intro i_ H locs ls hI ih6_ hP hD hS hl
  obtain ⟨v200600_, v200601_⟩ := i_
  have hI : rg (0) (31) v200600_ ∧ rg (-2147483648) (536870912) v200601_ ∧ NI fknown_ v200601_ v200600_ ∧ Itr (R_X11_nextHour_b1 fknown_) (0, 536870912) (v200600_, v200601_) := hI
  obtain ⟨rv200600_, rv200601_, xi6_, hR1_⟩ := hI
  have hP : va_P D vwCl [(nm_, .inr (11, [.ref nknown_, .ref ntelling_, .ref nimages_, .ref nisImage_, .int mthrown_, .ref ntape_, .int mtaped_, .int mlength_, .int mhead_, .int mbegin_, .int mtoken_, .int mvalue_, .int mbad_, .int mbadPlace_, .int mfaultKind_, .int mfaultPlace_, .int mdeep_, .int mlawMany_, .int mlawAt_, .ref nstack_, .ref nasked_, .int mfell_, .int mfellIn_, .ref naside_, .int mstate_, .int mlanded_, .int mwaitFalls_, .int mwaitWeight_, .ref nfallsAfter_, .ref nfalling_, .ref ncomes_, .ref ngoesOn_, .ref nwayRow_, .ref nmany_, .ref nmanyThen_, .int mtoldLet_, .ref ntSort_, .ref ntMany_, .ref nnumbers_])), (nknown_, .inl (cy 0, 2260, .inl (fknown_)))] H := hP
  have hD := va_ca hP hD
  have hl : lv_has ls 3 [(2, .int v200600_), (1, .int v200601_), (0, .ref nm_)] := hl
  refine lv_iload_n hx hb dX11_nextHour_6 rfl (lv_at hl 0 rfl) ?_
  refine lv_aload_n hx hb dX11_nextHour_7 rfl (lv_at hl 2 rfl) ?_
  refine kVi (As := []) (rest := [.int v200600_]) (wr := []) hX hE (sf_X11_things l D cy nm_ nknown_ ntelling_ nimages_ nisImage_ mthrown_ ntape_ mtaped_ mlength_ mhead_ mbegin_ mtoken_ mvalue_ mbad_ mbadPlace_ mfaultKind_ mfaultPlace_ mdeep_ mlawMany_ mlawAt_ nstack_ nasked_ mfell_ mfellIn_ naside_ mstate_ mlanded_ mwaitFalls_ mwaitWeight_ nfallsAfter_ nfalling_ ncomes_ ngoesOn_ nwayRow_ nmany_ nmanyThen_ mtoldLet_ ntSort_ ntMany_ nnumbers_ fknown_ C_ L_ hb_ ha_ hc_ (by omega) (by omega) (by omega) (rg_w rmtaped_ (by decide) (by decide)) (rg_w rmlength_ (by decide) (by decide)) (rg_w rmhead_ (by decide) (by decide)) (rg_w rmbegin_ (by decide) (by decide)) rfknown_) (cwVA 0 htA wd_1645 wd_1642 wd_10 wd_1644 wp_71 (by decide +kernel) ⟨by decide, by decide⟩) hP hD hS [0, 1] [] rfl rfl (by decide +kernel) 0 rfl rfl rfl rfl hl.1 rfl (Nat.le_of_ble_eq_true rfl) dX11_nextHour_8 (by decide) (fun v10080_ W1 H locs hw hP hD hS => ?_)
  refine W.widen (k := 0) (n := 0) (by decide) (by decide) ?_
  obtain ⟨ev10080_, k8_1_, rfl, kr8_⟩ := hw
  have hP : va_P D vwCl [(nm_, .inr (11, [.ref nknown_, .ref ntelling_, .ref nimages_, .ref nisImage_, .int mthrown_, .ref ntape_, .int mtaped_, .int mlength_, .int mhead_, .int mbegin_, .int mtoken_, .int mvalue_, .int mbad_, .int mbadPlace_, .int mfaultKind_, .int mfaultPlace_, .int mdeep_, .int mlawMany_, .int mlawAt_, .ref nstack_, .ref nasked_, .int mfell_, .int mfellIn_, .ref naside_, .int mstate_, .int mlanded_, .int mwaitFalls_, .int mwaitWeight_, .ref nfallsAfter_, .ref nfalling_, .ref ncomes_, .ref ngoesOn_, .ref nwayRow_, .ref nmany_, .ref nmanyThen_, .int mtoldLet_, .ref ntSort_, .ref ntMany_, .ref nnumbers_])), (nknown_, .inl (cy 0, 2260, .inl (fknown_)))] H := hP
  have hD := va_ca hP hD
  refine lv_icmp_ge (tgt := 43) hx hb dX11_nextHour_11 (by decide) (fun c11_ => ?_) (fun c11_ => ?_)
  · refine lv_iload_n hx hb dX11_nextHour_43 rfl (lv_at hl 1 rfl) ?_
    exact rI hX hE hP hD hS dX11_nextHour_44 (by decide) (by decide) ⟨(NX_of xi6_ ev10080_ c11_), (Or.inl ⟨v200600_, v200601_, v10080_, hR1_, k8_1_, c11_, rfl⟩), rfl, (rg_w rv200601_ (by decide) (by decide))⟩
  · have g1_ : rg (0) (7) v200600_ := rg_lt1 (rg_nle c11_) rv200600_ kr8_ (by decide)
    have g2_ : rg (1) (8) v10080_ := rg_lt2 (rg_nle c11_) rv200600_ kr8_ (by decide)
    refine lv_aload_n hx hb dX11_nextHour_14 rfl (lv_at hl 2 rfl) ?_
    refine lv_iload_n hx hb dX11_nextHour_15 rfl (lv_at hl 0 rfl) ?_
    refine lv_iconst (v := 1) hx hb dX11_nextHour_16 (by decide) ?_
    refine kVi (As := [.int v200600_, .int 1]) (rest := []) (wr := []) hX hE (sf_X11_is_sk l D cy nm_ nknown_ ntelling_ nimages_ nisImage_ mthrown_ ntape_ mtaped_ mlength_ mhead_ mbegin_ mtoken_ mvalue_ mbad_ mbadPlace_ mfaultKind_ mfaultPlace_ mdeep_ mlawMany_ mlawAt_ nstack_ nasked_ mfell_ mfellIn_ naside_ mstate_ mlanded_ mwaitFalls_ mwaitWeight_ nfallsAfter_ nfalling_ ncomes_ ngoesOn_ nwayRow_ nmany_ nmanyThen_ mtoldLet_ ntSort_ ntMany_ nnumbers_ fknown_ v200600_ (1 : Int32) C_ L_ hb_ ha_ hc_ (by omega) (by omega) (by omega) (rg_w rmtaped_ (by decide) (by decide)) (rg_w rmlength_ (by decide) (by decide)) (rg_w rmhead_ (by decide) (by decide)) (rg_w rmbegin_ (by decide) (by decide)) (rg_w g1_ (by decide) (by decide)) rfknown_) (cwVA 2 htA wd_1649 wd_1646 wd_10 wd_1648 wp_72 (by decide +kernel) ⟨by decide, by decide⟩) hP hD hS [0, 1] [] rfl rfl (by decide +kernel) 0 rfl rfl rfl rfl hl.1 rfl (Nat.le_of_ble_eq_true rfl) dX11_nextHour_17 (by decide) (fun v10170_ W1 H locs hw hP hD hS => ?_)
    refine W.widen (k := 0) (n := 0) (by decide) (by decide) ?_
    rcases hw with ⟨k17_0_, k17_1_, rfl, kr17_⟩ | ⟨k17_0_, k17_1_, rfl, kr17_⟩
    · have hP : va_P D vwCl [(nm_, .inr (11, [.ref nknown_, .ref ntelling_, .ref nimages_, .ref nisImage_, .int mthrown_, .ref ntape_, .int mtaped_, .int mlength_, .int mhead_, .int mbegin_, .int mtoken_, .int mvalue_, .int mbad_, .int mbadPlace_, .int mfaultKind_, .int mfaultPlace_, .int mdeep_, .int mlawMany_, .int mlawAt_, .ref nstack_, .ref nasked_, .int mfell_, .int mfellIn_, .ref naside_, .int mstate_, .int mlanded_, .int mwaitFalls_, .int mwaitWeight_, .ref nfallsAfter_, .ref nfalling_, .ref ncomes_, .ref ngoesOn_, .ref nwayRow_, .ref nmany_, .ref nmanyThen_, .int mtoldLet_, .ref ntSort_, .ref ntMany_, .ref nnumbers_])), (nknown_, .inl (cy 0, 2260, .inl (fknown_)))] H := hP
      have hD := va_ca hP hD
      refine lv_if_eq (tgt := 37) hx hb dX11_nextHour_20 (by decide) (fun c10000020_ => ?_) (fun c10000020_ => rg_ne0 c10000020_ kr17_ (rg_lit (by decide) : rg (0) (0) (0 : Int32)))
      refine lv_iinc (v := v200600_ + 1) (lv' := [(2, .int (v200600_ + 1)), (1, .int v200601_), (0, .ref nm_)]) hx hb dX11_nextHour_37 hl (k := 0) rfl rfl (by decide) rfl (fun ls hl => ?_)
      have g3_ : rg (1) (8) (v200600_ + 1) := rg_add g1_ (rg_lit (by decide) : rg (1) (1) (1 : Int32)) (by decide) (by decide) (by decide) (by decide)
      refine lv_goto (tgt := 6) hx hb dX11_nextHour_40 (by decide) ?_
      exact ih6_ (v200600_ + 1, v200601_) _ _ ls ⟨(rg_w g3_ (by decide) (by decide)), (rg_w rv200601_ (by decide) (by decide)), (NI_a xi6_ g1_ k17_0_), (Itr.st hR1_ (Or.inl ⟨v10080_, v10170_, k8_1_, c11_, k17_1_, rfl⟩))⟩ (show (32 - (v200600_ + 1).toInt).toNat < (32 - v200600_.toInt).toNat from by rw [show (v200600_ + 1).toInt = v200600_.toInt + 1 from inc32 v200600_ (by have hq := (rv200600_).2; omega)]; have hq := (g1_).1; have hq2 := (g1_).2; omega) hP hD hS (lv_sub hl [0, 1, 2] rfl)
    · have hP : va_P D vwCl [(nm_, .inr (11, [.ref nknown_, .ref ntelling_, .ref nimages_, .ref nisImage_, .int mthrown_, .ref ntape_, .int mtaped_, .int mlength_, .int mhead_, .int mbegin_, .int mtoken_, .int mvalue_, .int mbad_, .int mbadPlace_, .int mfaultKind_, .int mfaultPlace_, .int mdeep_, .int mlawMany_, .int mlawAt_, .ref nstack_, .ref nasked_, .int mfell_, .int mfellIn_, .ref naside_, .int mstate_, .int mlanded_, .int mwaitFalls_, .int mwaitWeight_, .ref nfallsAfter_, .ref nfalling_, .ref ncomes_, .ref ngoesOn_, .ref nwayRow_, .ref nmany_, .ref nmanyThen_, .int mtoldLet_, .ref ntSort_, .ref ntMany_, .ref nnumbers_])), (nknown_, .inl (cy 0, 2260, .inl (fknown_)))] H := hP
      have hD := va_ca hP hD
      refine lv_if_eq (tgt := 37) hx hb dX11_nextHour_20 (by decide) (fun c20000020_ => rg_eqab c20000020_ kr17_ (rg_lit (by decide) : rg (0) (0) (0 : Int32)) (by decide)) (fun c20000020_ => ?_)
      refine lv_iload_n hx hb dX11_nextHour_23 rfl (lv_at hl 1 rfl) ?_
      refine lv_aload_n hx hb dX11_nextHour_24 rfl (lv_at hl 2 rfl) ?_
      refine va_get (ci := 11) (v := .ref nknown_) (C := RX11) (T := TX11) (N := 39) hx hb htA in_X11 hown hK hP 0 rfl rfl 0 (by decide) (htA _ wd_1354) (fun _ h => h) rfl dX11_nextHour_25 ?_
      refine lv_bipush (v := 32) hx hb dX11_nextHour_28 (by decide) ?_
      refine lv_iload_n hx hb dX11_nextHour_30 rfl (lv_at hl 0 rfl) ?_
      refine lv_iadd hx hb dX11_nextHour_31 ?_
      have g4_ : rg (32) (39) (32 + v200600_) := rg_add (rg_lit (by decide) : rg (32) (32) (32 : Int32)) g1_ (by decide) (by decide) (by decide) (by decide)
      refine va_iald hx hb hK hP 1 0 rfl rfl (rg_in g4_ (by decide) (by decide)) dX11_nextHour_32 ?_
      refine lv_topi (fun v20010320_ ev20010320_ => ?_)
      refine va_mmin hx hb (hml.trans hl.1.symm) hown (htA _ wd_1719) (htA _ wd_422) (htA _ wd_19) (htA _ wd_423) (by decide) (Nat.le_of_ble_eq_true rfl) (by decide) (by decide) dX11_nextHour_33 ?_
      have g5_ : rg (-2147483648) (536870912) (if v20010320_ < v200601_ then v20010320_ else v200601_) := rg_mn rv200601_ (rg_any _) (by decide) (by decide)
      refine lv_istore_n (lv' := [(1, .int (if v20010320_ < v200601_ then v20010320_ else v200601_)), (2, .int v200600_), (0, .ref nm_)]) hx hb dX11_nextHour_36 rfl hl (by decide) rfl (fun ls hl => ?_)
      refine lv_iinc (v := v200600_ + 1) (lv' := [(2, .int (v200600_ + 1)), (1, .int (if v20010320_ < v200601_ then v20010320_ else v200601_)), (0, .ref nm_)]) hx hb dX11_nextHour_37 hl (k := 1) rfl rfl (by decide) rfl (fun ls hl => ?_)
      have g6_ : rg (1) (8) (v200600_ + 1) := rg_add g1_ (rg_lit (by decide) : rg (1) (1) (1 : Int32)) (by decide) (by decide) (by decide) (by decide)
      refine lv_goto (tgt := 6) hx hb dX11_nextHour_40 (by decide) ?_
      exact ih6_ (v200600_ + 1, (if v20010320_ < v200601_ then v20010320_ else v200601_)) _ _ ls ⟨(rg_w g6_ (by decide) (by decide)), (rg_w g5_ (by decide) (by decide)), (NI_b xi6_ g1_ k17_0_ ev20010320_ ev10080_ (rg_nle c11_)), (Itr.st hR1_ (Or.inr (Or.inl ⟨v10080_, v10170_, v20010320_, k8_1_, c11_, k17_1_, ev20010320_, rfl⟩)))⟩ (show (32 - (v200600_ + 1).toInt).toNat < (32 - v200600_.toInt).toNat from by rw [show (v200600_ + 1).toInt = v200600_.toInt + 1 from inc32 v200600_ (by have hq := (rv200600_).2; omega)]; have hq := (g1_).1; have hq2 := (g1_).2; omega) hP hD hS (lv_sub hl [0, 1, 2] rfl)
def R_X11_next_j1 (v10060_ : Int32) (fknown_ : Nat → Int32) (v203000_ : Int32) : Prop := (∃ (v10280_ : Int32), ¬ v10060_ = (536870912 : Int32) ∧ v10280_ = fknown_ (40 : Int32).toNatClampNeg ∧ v203000_ = v10060_ - v10280_) ∨ (v10060_ = (536870912 : Int32) ∧ v203000_ = ((-1) : Int32)) ∨ False
def R_X11_next_e (fknown_ : Nat → Int32) (r : Int32) : Prop := (∃ (v10060_ : Int32) (v203000_ : Int32), R_X11_nextHour_e fknown_ v10060_ ∧ R_X11_next_j1 v10060_ fknown_ v203000_ ∧ r = v203000_) ∨ False
set_option maxHeartbeats 4000000 in
set_option maxRecDepth 100000 in
theorem sf_X11_next (l : Launch) (D : va_G) (cy : Nat → ClassId) (nm_ : Nat) (nknown_ : Nat) (ntelling_ : Nat) (nimages_ : Nat) (nisImage_ : Nat) (mthrown_ : Int32) (ntape_ : Nat) (mtaped_ : Int32) (mlength_ : Int32) (mhead_ : Int32) (mbegin_ : Int32) (mtoken_ : Int32) (mvalue_ : Int32) (mbad_ : Int32) (mbadPlace_ : Int32) (mfaultKind_ : Int32) (mfaultPlace_ : Int32) (mdeep_ : Int32) (mlawMany_ : Int32) (mlawAt_ : Int32) (nstack_ : Nat) (nasked_ : Nat) (mfell_ : Int32) (mfellIn_ : Int32) (naside_ : Nat) (mstate_ : Int32) (mlanded_ : Int32) (mwaitFalls_ : Int32) (mwaitWeight_ : Int32) (nfallsAfter_ : Nat) (nfalling_ : Nat) (ncomes_ : Nat) (ngoesOn_ : Nat) (nwayRow_ : Nat) (nmany_ : Nat) (nmanyThen_ : Nat) (mtoldLet_ : Int32) (ntSort_ : Nat) (ntMany_ : Nat) (nnumbers_ : Nat) (fknown_ : Nat → Int32) (C_ : Int) (L_ : Int) (hb_ : Int) (ha_ : Int) (hc_ : Int) (hha_ : -2000000 ≤ ha_) (hhc_ : hc_ ≤ 4000000) (hhb_ : hb_ ≤ 1000000) (rmtaped_ : rg (0) (900) mtaped_) (rmlength_ : rg (0) (900) mlength_) (rmhead_ : rg (0) (900) mhead_) (rmbegin_ : rg (0) (900) mbegin_) (rfknown_ : KX C_ L_ ha_ hc_ hb_ fknown_) : Ci l yX11_next cX11_next 2 (some .int) { frames := 2, cells := 0, slots := 0, locals := 52 } D cy [.ref nm_] [(nm_, .inr (11, [.ref nknown_, .ref ntelling_, .ref nimages_, .ref nisImage_, .int mthrown_, .ref ntape_, .int mtaped_, .int mlength_, .int mhead_, .int mbegin_, .int mtoken_, .int mvalue_, .int mbad_, .int mbadPlace_, .int mfaultKind_, .int mfaultPlace_, .int mdeep_, .int mlawMany_, .int mlawAt_, .ref nstack_, .ref nasked_, .int mfell_, .int mfellIn_, .ref naside_, .int mstate_, .int mlanded_, .int mwaitFalls_, .int mwaitWeight_, .ref nfallsAfter_, .ref nfalling_, .ref ncomes_, .ref ngoesOn_, .ref nwayRow_, .ref nmany_, .ref nmanyThen_, .int mtoldLet_, .ref ntSort_, .ref ntMany_, .ref nnumbers_])), (nknown_, .inl (cy 0, 2260, .inl (fknown_)))] (fun r W1 => R_X11_next_e fknown_ r ∧ W1 = [(nm_, .inr (11, [.ref nknown_, .ref ntelling_, .ref nimages_, .ref nisImage_, .int 0, .ref ntape_, .int mtaped_, .int mlength_, .int mhead_, .int mbegin_, .int mtoken_, .int mvalue_, .int mbad_, .int mbadPlace_, .int mfaultKind_, .int mfaultPlace_, .int mdeep_, .int mlawMany_, .int mlawAt_, .ref nstack_, .ref nasked_, .int mfell_, .int mfellIn_, .ref naside_, .int mstate_, .int mlanded_, .int mwaitFalls_, .int mwaitWeight_, .ref nfallsAfter_, .ref nfalling_, .ref ncomes_, .ref ngoesOn_, .ref nwayRow_, .ref nmany_, .ref nmanyThen_, .int mtoldLet_, .ref ntSort_, .ref ntMany_, .ref nnumbers_])), (nknown_, .inl (cy 0, 2260, .inl (fknown_)))]) := by
  refine Ci.of (by decide) (Nat.le_of_ble_eq_true rfl) ?_
  intro p e s m below meth c A ls hX hE hP hD hl
  obtain ⟨hx, hb, hr, hml, hown, htA, hlk⟩ := id hX
  have hK := hE.1
  have hS : va_S A s.heap s.heap [] := va_S.rf
  have hl : lv_has ls 2 [(0, .ref nm_)] := hl
  refine lv_aload_n hx hb dX11_next_0 rfl (lv_at hl 0 rfl) ?_
  refine lv_iconst (v := 0) hx hb dX11_next_1 (by decide) ?_
  refine va_put (ci := 11) (v := .int 0) (ty := .int) (C := RX11) (T := TX11) (N := 39) hx hb htA in_X11 tyX11 tyX11_ok nmX11 hown hK hP hD hS 0 rfl rfl 4 (by decide) (htA _ wd_1358) (fun _ h => h) rfl (by decide +kernel) rfl rfl (Nat.le_of_ble_eq_true rfl) dX11_next_2 (fun H locs hP hD hS => ?_)
  have hP : va_P D vwCl [(nm_, .inr (11, [.ref nknown_, .ref ntelling_, .ref nimages_, .ref nisImage_, .int 0, .ref ntape_, .int mtaped_, .int mlength_, .int mhead_, .int mbegin_, .int mtoken_, .int mvalue_, .int mbad_, .int mbadPlace_, .int mfaultKind_, .int mfaultPlace_, .int mdeep_, .int mlawMany_, .int mlawAt_, .ref nstack_, .ref nasked_, .int mfell_, .int mfellIn_, .ref naside_, .int mstate_, .int mlanded_, .int mwaitFalls_, .int mwaitWeight_, .ref nfallsAfter_, .ref nfalling_, .ref ncomes_, .ref ngoesOn_, .ref nwayRow_, .ref nmany_, .ref nmanyThen_, .int mtoldLet_, .ref ntSort_, .ref ntMany_, .ref nnumbers_])), (nknown_, .inl (cy 0, 2260, .inl (fknown_)))] H := hP
  have hD := va_ca hP hD
  refine lv_aload_n hx hb dX11_next_5 rfl (lv_at hl 0 rfl) ?_
  refine kVi (As := []) (rest := []) (wr := []) hX hE (sf_X11_nextHour l D cy nm_ nknown_ ntelling_ nimages_ nisImage_ (0 : Int32) ntape_ mtaped_ mlength_ mhead_ mbegin_ mtoken_ mvalue_ mbad_ mbadPlace_ mfaultKind_ mfaultPlace_ mdeep_ mlawMany_ mlawAt_ nstack_ nasked_ mfell_ mfellIn_ naside_ mstate_ mlanded_ mwaitFalls_ mwaitWeight_ nfallsAfter_ nfalling_ ncomes_ ngoesOn_ nwayRow_ nmany_ nmanyThen_ mtoldLet_ ntSort_ ntMany_ nnumbers_ fknown_ C_ L_ hb_ ha_ hc_ (by omega) (by omega) (by omega) (rg_w rmtaped_ (by decide) (by decide)) (rg_w rmlength_ (by decide) (by decide)) (rg_w rmhead_ (by decide) (by decide)) (rg_w rmbegin_ (by decide) (by decide)) rfknown_) (cwVA 0 htA wd_1872 wd_1869 wd_10 wd_1871 wp_104 (by decide +kernel) ⟨by decide, by decide⟩) hP hD hS [0, 1] [] rfl rfl (by decide +kernel) 0 rfl rfl rfl rfl hl.1 rfl (Nat.le_of_ble_eq_true rfl) dX11_next_6 (by decide) (fun v10060_ W1 H locs hw hP hD hS => ?_)
  refine W.widen (k := 0) (n := 0) (by decide) (by decide) ?_
  obtain ⟨k6_0_, k6_1_, rfl, kr6_⟩ := hw
  have hP : va_P D vwCl [(nm_, .inr (11, [.ref nknown_, .ref ntelling_, .ref nimages_, .ref nisImage_, .int 0, .ref ntape_, .int mtaped_, .int mlength_, .int mhead_, .int mbegin_, .int mtoken_, .int mvalue_, .int mbad_, .int mbadPlace_, .int mfaultKind_, .int mfaultPlace_, .int mdeep_, .int mlawMany_, .int mlawAt_, .ref nstack_, .ref nasked_, .int mfell_, .int mfellIn_, .ref naside_, .int mstate_, .int mlanded_, .int mwaitFalls_, .int mwaitWeight_, .ref nfallsAfter_, .ref nfalling_, .ref ncomes_, .ref ngoesOn_, .ref nwayRow_, .ref nmany_, .ref nmanyThen_, .int mtoldLet_, .ref ntSort_, .ref ntMany_, .ref nnumbers_])), (nknown_, .inl (cy 0, 2260, .inl (fknown_)))] H := hP
  have hD := va_ca hP hD
  refine lv_istore_n (lv' := [(1, .int v10060_), (0, .ref nm_)]) hx hb dX11_next_9 rfl hl (by decide) rfl (fun ls hl => ?_)
  refine lv_iload_n hx hb dX11_next_10 rfl (lv_at hl 0 rfl) ?_
  refine lv_ldcw hx hb hown (htA _ wd_1873) dX11_next_11 ?_
  refine joinT (D := D) (A := A) (pc := 30) (mL := 2) (τ := Int32) (WS := fun i => [(nm_, .inr (11, [.ref nknown_, .ref ntelling_, .ref nimages_, .ref nisImage_, .int 0, .ref ntape_, .int mtaped_, .int mlength_, .int mhead_, .int mbegin_, .int mtoken_, .int mvalue_, .int mbad_, .int mbadPlace_, .int mfaultKind_, .int mfaultPlace_, .int mdeep_, .int mlawMany_, .int mlawAt_, .ref nstack_, .ref nasked_, .int mfell_, .int mfellIn_, .ref naside_, .int mstate_, .int mlanded_, .int mwaitFalls_, .int mwaitWeight_, .ref nfallsAfter_, .ref nfalling_, .ref ncomes_, .ref ngoesOn_, .ref nwayRow_, .ref nmany_, .ref nmanyThen_, .int mtoldLet_, .ref ntSort_, .ref ntMany_, .ref nnumbers_])), (nknown_, .inl (cy 0, 2260, .inl (fknown_)))]) (LV := fun i => [(1, .int v10060_), (0, .ref nm_)]) (ST := fun i => [.int i]) (cells := 0) (slots := 0) (fun i => R_X11_next_j1 v10060_ fknown_ i) (fun v203000_ H locs ls hI hP hD hS hl => ?_) (fun j30_ => ?_)
  · have hI : R_X11_next_j1 v10060_ fknown_ v203000_ := hI
    have hR1_ := hI
    have hP : va_P D vwCl [(nm_, .inr (11, [.ref nknown_, .ref ntelling_, .ref nimages_, .ref nisImage_, .int 0, .ref ntape_, .int mtaped_, .int mlength_, .int mhead_, .int mbegin_, .int mtoken_, .int mvalue_, .int mbad_, .int mbadPlace_, .int mfaultKind_, .int mfaultPlace_, .int mdeep_, .int mlawMany_, .int mlawAt_, .ref nstack_, .ref nasked_, .int mfell_, .int mfellIn_, .ref naside_, .int mstate_, .int mlanded_, .int mwaitFalls_, .int mwaitWeight_, .ref nfallsAfter_, .ref nfalling_, .ref ncomes_, .ref ngoesOn_, .ref nwayRow_, .ref nmany_, .ref nmanyThen_, .int mtoldLet_, .ref ntSort_, .ref ntMany_, .ref nnumbers_])), (nknown_, .inl (cy 0, 2260, .inl (fknown_)))] H := hP
    have hD := va_ca hP hD
    have hl : lv_has ls 2 [(1, .int v10060_), (0, .ref nm_)] := hl
    exact rI hX hE hP hD hS dX11_next_30 (by decide) (by decide) ⟨(Or.inl ⟨v10060_, v203000_, k6_1_, hR1_, rfl⟩), rfl⟩
  refine lv_icmp_ne (tgt := 21) hx hb dX11_next_14 (by decide) (fun c14_ => ?_) (fun c14_ => ?_)
  · have g1_ : rg (-2147483648) (536870911) v10060_ := rg_ne2 c14_ kr6_ (by decide) (by decide)
    refine lv_iload_n hx hb dX11_next_21 rfl (lv_at hl 0 rfl) ?_
    refine lv_aload_n hx hb dX11_next_22 rfl (lv_at hl 1 rfl) ?_
    refine va_get (ci := 11) (v := .ref nknown_) (C := RX11) (T := TX11) (N := 39) hx hb htA in_X11 hown hK hP 0 rfl rfl 0 (by decide) (htA _ wd_1354) (fun _ h => h) rfl dX11_next_23 ?_
    refine lv_bipush (v := 40) hx hb dX11_next_26 (by decide) ?_
    refine va_iald hx hb hK hP 1 0 rfl rfl (in_lit (by decide)) dX11_next_28 ?_
    refine lv_topi (fun v10280_ ev10280_ => ?_)
    have hsv10280_ : rg ha_ hc_ v10280_ := by rw [ev10280_]; exact KX_h rfknown_ (rg_lit (by decide) : rg (40) (40) (40 : Int32)) (by decide) (by decide)
    have g2_ : rg (-2000000) (4000000) v10280_ := rg_w hsv10280_ (by omega) (by omega)
    refine lv_isub hx hb dX11_next_29 ?_
    exact j30_ (v10060_ - v10280_) _ _ ls (Or.inl ⟨v10280_, c14_, ev10280_, rfl⟩) hP hD hS (lv_sub hl [0, 1] rfl)
  · have g3_ : rg (536870912) (536870912) v10060_ := rg_eq c14_ (rg_lit (by decide) : rg (536870912) (536870912) (536870912 : Int32))
    refine lv_iconst (v := (-1)) hx hb dX11_next_17 (by decide) ?_
    refine lv_goto (tgt := 30) hx hb dX11_next_18 (by decide) ?_
    exact j30_ (-1) _ _ ls (Or.inr (Or.inl ⟨c14_, rfl⟩)) hP hD hS (lv_sub hl [0, 1] rfl)
def R_X11_within_w_e1 (v_ : Int64) (a_ : Int64) (r : Int32) : Prop := ((lg_cmp v_ a_) < (0 : Int32) ∧ r = (0 : Int32)) ∨ False
def R_X11_within_w_e2 (v_ : Int64) (a_ : Int64) (b_ : Int64) (r : Int32) : Prop := (¬ ((lg_cmp v_ a_) < (0 : Int32)) ∧ (0 : Int32) < (lg_cmp v_ b_) ∧ r = (0 : Int32)) ∨ False
def R_X11_within_w_e3 (v_ : Int64) (a_ : Int64) (b_ : Int64) (r : Int32) : Prop := (¬ ((lg_cmp v_ a_) < (0 : Int32)) ∧ ¬ ((0 : Int32) < (lg_cmp v_ b_)) ∧ r = (1 : Int32)) ∨ False
set_option maxHeartbeats 4000000 in
set_option maxRecDepth 100000 in
theorem sf_X11_within_w (l : Launch) (D : va_G) (cy : Nat → ClassId) (v_ : Int64) (a_ : Int64) (b_ : Int64) : Ci l yX11_within cX11_within 6 (some .boolean) { frames := 0, cells := 0, slots := 0, locals := 0 } D cy [.long v_, .long a_, .long b_] [] (fun r W1 => (rl (-9223372036854775808) (9223372036854775806) v_ ∧ rl (-9223372036854775807) (9223372036854775807) a_ ∧ v_ ≤ a_ ∧ R_X11_within_w_e1 v_ a_ r ∧ W1 = [] ∧ rg (0) (0) r) ∨ (rl (-9223372036854775807) (9223372036854775807) v_ ∧ rl (-9223372036854775808) (9223372036854775806) b_ ∧ a_ ≤ v_ ∧ b_ ≤ v_ ∧ R_X11_within_w_e2 v_ a_ b_ r ∧ W1 = [] ∧ rg (0) (0) r) ∨ (v_ ≤ b_ ∧ a_ ≤ v_ ∧ R_X11_within_w_e3 v_ a_ b_ r ∧ W1 = [] ∧ rg (1) (1) r)) := by
  refine Ci.of (by decide) (Nat.le_of_ble_eq_true rfl) ?_
  intro p e s m below meth c A ls hX hE hP hD hl
  obtain ⟨hx, hb, hr, hml, hown, htA, hlk⟩ := id hX
  have hK := hE.1
  have hS : va_S A s.heap s.heap [] := va_S.rf
  have hl : lv_has ls 6 [(0, .long v_), (2, .long a_), (4, .long b_)] := hl
  refine lv_lload_n hx hb dX11_within_0 rfl (lv_at hl 0 rfl) ?_
  refine lv_lload_n hx hb dX11_within_1 rfl (lv_at hl 1 rfl) ?_
  refine W.lcmp hx hb dX11_within_2 ?_
  refine lv_if_lt (tgt := 17) hx hb dX11_within_3 (by decide) (fun c3_ => ?_) (fun c3_ => ?_)
  · have g1_ : rl (-9223372036854775808) (9223372036854775806) v_ := rl_lt1 ((lg_cmp_lt _ _).mp c3_) (rl_any _) (rl_any _) (by decide)
    have g2_ : rl (-9223372036854775807) (9223372036854775807) a_ := rl_lt2 ((lg_cmp_lt _ _).mp c3_) (rl_any _) (rl_any _) (by decide)
    refine lv_iconst (v := 0) hx hb dX11_within_17 (by decide) ?_
    exact rZ hX (by decide) hE hP hD hS dX11_within_18 (by decide) (by decide) (Or.inl (⟨(rl_w g1_ (by decide) (by decide)), (rl_w g2_ (by decide) (by decide)), (Int64.le_of_lt ((lg_cmp_lt _ _).mp c3_)), (Or.inl ⟨c3_, rfl⟩), rfl, (rg_w (rg_lit (by decide) : rg (0) (0) (0 : Int32)) (by decide) (by decide))⟩))
  · refine lv_lload_n hx hb dX11_within_6 rfl (lv_at hl 0 rfl) ?_
    refine lv_lload hx hb dX11_within_7 (lv_at hl 2 rfl) ?_
    refine W.lcmp hx hb dX11_within_9 ?_
    refine lv_if_gt (tgt := 17) hx hb dX11_within_10 (by decide) (fun c20000010_ => ?_) (fun c20000010_ => ?_)
    · have g3_ : rl (-9223372036854775808) (9223372036854775806) b_ := rl_lt1 ((lg_cmp_gt _ _).mp c20000010_) (rl_any _) (rl_any _) (by decide)
      have g4_ : rl (-9223372036854775807) (9223372036854775807) v_ := rl_lt2 ((lg_cmp_gt _ _).mp c20000010_) (rl_any _) (rl_any _) (by decide)
      refine lv_iconst (v := 0) hx hb dX11_within_17 (by decide) ?_
      exact rZ hX (by decide) hE hP hD hS dX11_within_18 (by decide) (by decide) (Or.inr (Or.inl (⟨(rl_w g4_ (by decide) (by decide)), (rl_w g3_ (by decide) (by decide)), (rl_nlt (fun q9 => c3_ ((lg_cmp_lt _ _).mpr q9))), (Int64.le_of_lt ((lg_cmp_gt _ _).mp c20000010_)), (Or.inl ⟨c3_, c20000010_, rfl⟩), rfl, (rg_w (rg_lit (by decide) : rg (0) (0) (0 : Int32)) (by decide) (by decide))⟩)))
    · refine lv_iconst (v := 1) hx hb dX11_within_13 (by decide) ?_
      refine lv_goto (tgt := 18) hx hb dX11_within_14 (by decide) ?_
      exact rZ hX (by decide) hE hP hD hS dX11_within_18 (by decide) (by decide) (Or.inr (Or.inr (⟨(rl_nlt (fun q9 => c20000010_ ((lg_cmp_gt _ _).mpr q9))), (rl_nlt (fun q9 => c3_ ((lg_cmp_lt _ _).mpr q9))), (Or.inl ⟨c3_, c20000010_, rfl⟩), rfl, (rg_w (rg_lit (by decide) : rg (1) (1) (1 : Int32)) (by decide) (by decide))⟩)))
def R_X11_isThing_w_e1 (fknown_ : Nat → Int32) (t_ : Int64) (r : Int32) : Prop := (∃ (v10030_ : Int32) (v10090_ : Int32), R_X11_things_e fknown_ v10030_ ∧ R_X11_within_w_e1 t_ ((0 : Int64)) v10090_ ∧ r = v10090_) ∨ False
def R_X11_isThing_w_e2 (fknown_ : Nat → Int32) (t_ : Int64) (r : Int32) : Prop := (∃ (v10030_ : Int32) (v10090_ : Int32), R_X11_things_e fknown_ v10030_ ∧ R_X11_within_w_e2 t_ ((0 : Int64)) (((v10030_ - 1).toInt64)) v10090_ ∧ r = v10090_) ∨ False
def R_X11_isThing_w_e3 (fknown_ : Nat → Int32) (t_ : Int64) (r : Int32) : Prop := (∃ (v10030_ : Int32) (v10090_ : Int32), R_X11_things_e fknown_ v10030_ ∧ R_X11_within_w_e3 t_ ((0 : Int64)) (((v10030_ - 1).toInt64)) v10090_ ∧ r = v10090_) ∨ False
set_option maxHeartbeats 4000000 in
set_option maxRecDepth 100000 in
theorem sf_X11_isThing_w (l : Launch) (D : va_G) (cy : Nat → ClassId) (nm_ : Nat) (nknown_ : Nat) (ntelling_ : Nat) (nimages_ : Nat) (nisImage_ : Nat) (mthrown_ : Int32) (ntape_ : Nat) (mtaped_ : Int32) (mlength_ : Int32) (mhead_ : Int32) (mbegin_ : Int32) (mtoken_ : Int32) (mvalue_ : Int32) (mbad_ : Int32) (mbadPlace_ : Int32) (mfaultKind_ : Int32) (mfaultPlace_ : Int32) (mdeep_ : Int32) (mlawMany_ : Int32) (mlawAt_ : Int32) (nstack_ : Nat) (nasked_ : Nat) (mfell_ : Int32) (mfellIn_ : Int32) (naside_ : Nat) (mstate_ : Int32) (mlanded_ : Int32) (mwaitFalls_ : Int32) (mwaitWeight_ : Int32) (nfallsAfter_ : Nat) (nfalling_ : Nat) (ncomes_ : Nat) (ngoesOn_ : Nat) (nwayRow_ : Nat) (nmany_ : Nat) (nmanyThen_ : Nat) (mtoldLet_ : Int32) (ntSort_ : Nat) (ntMany_ : Nat) (nnumbers_ : Nat) (fknown_ : Nat → Int32) (t_ : Int64) (C_ : Int) (L_ : Int) (hb_ : Int) (ha_ : Int) (hc_ : Int) (hha_ : -2000000 ≤ ha_) (hhc_ : hc_ ≤ 4000000) (hhb_ : hb_ ≤ 1000000) (rmtaped_ : rg (0) (900) mtaped_) (rmlength_ : rg (0) (900) mlength_) (rmhead_ : rg (0) (900) mhead_) (rmbegin_ : rg (0) (900) mbegin_) (rfknown_ : KX C_ L_ ha_ hc_ hb_ fknown_) : Ci l yX11_isThing cX11_isThing 3 (some .boolean) { frames := 1, cells := 0, slots := 0, locals := 25 } D cy [.ref nm_, .long t_] [(nm_, .inr (11, [.ref nknown_, .ref ntelling_, .ref nimages_, .ref nisImage_, .int mthrown_, .ref ntape_, .int mtaped_, .int mlength_, .int mhead_, .int mbegin_, .int mtoken_, .int mvalue_, .int mbad_, .int mbadPlace_, .int mfaultKind_, .int mfaultPlace_, .int mdeep_, .int mlawMany_, .int mlawAt_, .ref nstack_, .ref nasked_, .int mfell_, .int mfellIn_, .ref naside_, .int mstate_, .int mlanded_, .int mwaitFalls_, .int mwaitWeight_, .ref nfallsAfter_, .ref nfalling_, .ref ncomes_, .ref ngoesOn_, .ref nwayRow_, .ref nmany_, .ref nmanyThen_, .int mtoldLet_, .ref ntSort_, .ref ntMany_, .ref nnumbers_])), (nknown_, .inl (cy 0, 2260, .inl (fknown_)))] (fun r W1 => (rl (-9223372036854775808) (0) t_ ∧ R_X11_isThing_w_e1 fknown_ t_ r ∧ W1 = [(nm_, .inr (11, [.ref nknown_, .ref ntelling_, .ref nimages_, .ref nisImage_, .int mthrown_, .ref ntape_, .int mtaped_, .int mlength_, .int mhead_, .int mbegin_, .int mtoken_, .int mvalue_, .int mbad_, .int mbadPlace_, .int mfaultKind_, .int mfaultPlace_, .int mdeep_, .int mlawMany_, .int mlawAt_, .ref nstack_, .ref nasked_, .int mfell_, .int mfellIn_, .ref naside_, .int mstate_, .int mlanded_, .int mwaitFalls_, .int mwaitWeight_, .ref nfallsAfter_, .ref nfalling_, .ref ncomes_, .ref ngoesOn_, .ref nwayRow_, .ref nmany_, .ref nmanyThen_, .int mtoldLet_, .ref ntSort_, .ref ntMany_, .ref nnumbers_])), (nknown_, .inl (cy 0, 2260, .inl (fknown_)))] ∧ rg (0) (0) r) ∨ (rl (0) (9223372036854775807) t_ ∧ R_X11_isThing_w_e2 fknown_ t_ r ∧ W1 = [(nm_, .inr (11, [.ref nknown_, .ref ntelling_, .ref nimages_, .ref nisImage_, .int mthrown_, .ref ntape_, .int mtaped_, .int mlength_, .int mhead_, .int mbegin_, .int mtoken_, .int mvalue_, .int mbad_, .int mbadPlace_, .int mfaultKind_, .int mfaultPlace_, .int mdeep_, .int mlawMany_, .int mlawAt_, .ref nstack_, .ref nasked_, .int mfell_, .int mfellIn_, .ref naside_, .int mstate_, .int mlanded_, .int mwaitFalls_, .int mwaitWeight_, .ref nfallsAfter_, .ref nfalling_, .ref ncomes_, .ref ngoesOn_, .ref nwayRow_, .ref nmany_, .ref nmanyThen_, .int mtoldLet_, .ref ntSort_, .ref ntMany_, .ref nnumbers_])), (nknown_, .inl (cy 0, 2260, .inl (fknown_)))] ∧ rg (0) (0) r) ∨ (rl (0) (7) t_ ∧ lth fknown_ t_ ∧ R_X11_isThing_w_e3 fknown_ t_ r ∧ W1 = [(nm_, .inr (11, [.ref nknown_, .ref ntelling_, .ref nimages_, .ref nisImage_, .int mthrown_, .ref ntape_, .int mtaped_, .int mlength_, .int mhead_, .int mbegin_, .int mtoken_, .int mvalue_, .int mbad_, .int mbadPlace_, .int mfaultKind_, .int mfaultPlace_, .int mdeep_, .int mlawMany_, .int mlawAt_, .ref nstack_, .ref nasked_, .int mfell_, .int mfellIn_, .ref naside_, .int mstate_, .int mlanded_, .int mwaitFalls_, .int mwaitWeight_, .ref nfallsAfter_, .ref nfalling_, .ref ncomes_, .ref ngoesOn_, .ref nwayRow_, .ref nmany_, .ref nmanyThen_, .int mtoldLet_, .ref ntSort_, .ref ntMany_, .ref nnumbers_])), (nknown_, .inl (cy 0, 2260, .inl (fknown_)))] ∧ rg (1) (1) r)) := by
  refine Ci.of (by decide) (Nat.le_of_ble_eq_true rfl) ?_
  intro p e s m below meth c A ls hX hE hP hD hl
  obtain ⟨hx, hb, hr, hml, hown, htA, hlk⟩ := id hX
  have hK := hE.1
  have hS : va_S A s.heap s.heap [] := va_S.rf
  have hl : lv_has ls 3 [(0, .ref nm_), (1, .long t_)] := hl
  refine lv_lload_n hx hb dX11_isThing_0 rfl (lv_at hl 1 rfl) ?_
  refine lv_lconst (v := 0) hx hb dX11_isThing_1 (by decide) ?_
  refine lv_aload_n hx hb dX11_isThing_2 rfl (lv_at hl 0 rfl) ?_
  refine kVi (As := []) (rest := [.long 0, .long t_]) (wr := []) hX hE (sf_X11_things l D cy nm_ nknown_ ntelling_ nimages_ nisImage_ mthrown_ ntape_ mtaped_ mlength_ mhead_ mbegin_ mtoken_ mvalue_ mbad_ mbadPlace_ mfaultKind_ mfaultPlace_ mdeep_ mlawMany_ mlawAt_ nstack_ nasked_ mfell_ mfellIn_ naside_ mstate_ mlanded_ mwaitFalls_ mwaitWeight_ nfallsAfter_ nfalling_ ncomes_ ngoesOn_ nwayRow_ nmany_ nmanyThen_ mtoldLet_ ntSort_ ntMany_ nnumbers_ fknown_ C_ L_ hb_ ha_ hc_ (by omega) (by omega) (by omega) (rg_w rmtaped_ (by decide) (by decide)) (rg_w rmlength_ (by decide) (by decide)) (rg_w rmhead_ (by decide) (by decide)) (rg_w rmbegin_ (by decide) (by decide)) rfknown_) (cwVA 0 htA wd_1645 wd_1642 wd_10 wd_1644 wp_71 (by decide +kernel) ⟨by decide, by decide⟩) hP hD hS [0, 1] [] rfl rfl (by decide +kernel) 0 rfl rfl rfl rfl hl.1 rfl (Nat.le_of_ble_eq_true rfl) dX11_isThing_3 (by decide) (fun v10030_ W1 H locs hw hP hD hS => ?_)
  refine W.widen (k := 0) (n := 0) (by decide) (by decide) ?_
  obtain ⟨ev10030_, k3_1_, rfl, kr3_⟩ := hw
  have hP : va_P D vwCl [(nm_, .inr (11, [.ref nknown_, .ref ntelling_, .ref nimages_, .ref nisImage_, .int mthrown_, .ref ntape_, .int mtaped_, .int mlength_, .int mhead_, .int mbegin_, .int mtoken_, .int mvalue_, .int mbad_, .int mbadPlace_, .int mfaultKind_, .int mfaultPlace_, .int mdeep_, .int mlawMany_, .int mlawAt_, .ref nstack_, .ref nasked_, .int mfell_, .int mfellIn_, .ref naside_, .int mstate_, .int mlanded_, .int mwaitFalls_, .int mwaitWeight_, .ref nfallsAfter_, .ref nfalling_, .ref ncomes_, .ref ngoesOn_, .ref nwayRow_, .ref nmany_, .ref nmanyThen_, .int mtoldLet_, .ref ntSort_, .ref ntMany_, .ref nnumbers_])), (nknown_, .inl (cy 0, 2260, .inl (fknown_)))] H := hP
  have hD := va_ca hP hD
  refine lv_iconst (v := 1) hx hb dX11_isThing_6 (by decide) ?_
  refine lv_isub hx hb dX11_isThing_7 ?_
  have g1_ : rg (-1) (7) (v10030_ - 1) := rg_sub kr3_ (rg_lit (by decide) : rg (1) (1) (1 : Int32)) (by decide) (by decide) (by decide) (by decide)
  refine lv_i2l hx hb dX11_isThing_8 rfl ?_
  have g2_ : rl (-1) (7) ((v10030_ - 1).toInt64) := rl_i2l g1_
  refine kSi (As := [.long t_, .long 0, .long ((v10030_ - 1).toInt64)]) (rest := []) (wr := [(nm_, .inr (11, [.ref nknown_, .ref ntelling_, .ref nimages_, .ref nisImage_, .int mthrown_, .ref ntape_, .int mtaped_, .int mlength_, .int mhead_, .int mbegin_, .int mtoken_, .int mvalue_, .int mbad_, .int mbadPlace_, .int mfaultKind_, .int mfaultPlace_, .int mdeep_, .int mlawMany_, .int mlawAt_, .ref nstack_, .ref nasked_, .int mfell_, .int mfellIn_, .ref naside_, .int mstate_, .int mlanded_, .int mwaitFalls_, .int mwaitWeight_, .ref nfallsAfter_, .ref nfalling_, .ref ncomes_, .ref ngoesOn_, .ref nwayRow_, .ref nmany_, .ref nmanyThen_, .int mtoldLet_, .ref ntSort_, .ref ntMany_, .ref nnumbers_])), (nknown_, .inl (cy 0, 2260, .inl (fknown_)))]) hX hE (sf_X11_within_w l D cy t_ (0 : Int64) ((v10030_ - 1).toInt64) ) (cwSA 3 htA wd_1483 wd_1481 wd_10 wd_1482 (by decide +kernel) ⟨by decide, by decide⟩) hP hD hS [] [0, 1] rfl rfl (by decide +kernel) rfl hl.1 rfl (Nat.le_of_ble_eq_true rfl) dX11_isThing_9 (by decide) (fun v10090_ W1 H locs hw hP hD hS => ?_)
  refine W.widen (k := 0) (n := 0) (by decide) (by decide) ?_
  rcases hw with ⟨k9_0_, k9_1_, k9_2_, k9_3_, rfl, kr9_⟩ | ⟨k9_0_, k9_1_, k9_2_, k9_3_, k9_4_, rfl, kr9_⟩ | ⟨k9_0_, k9_1_, k9_2_, rfl, kr9_⟩
  · have hP : va_P D vwCl [(nm_, .inr (11, [.ref nknown_, .ref ntelling_, .ref nimages_, .ref nisImage_, .int mthrown_, .ref ntape_, .int mtaped_, .int mlength_, .int mhead_, .int mbegin_, .int mtoken_, .int mvalue_, .int mbad_, .int mbadPlace_, .int mfaultKind_, .int mfaultPlace_, .int mdeep_, .int mlawMany_, .int mlawAt_, .ref nstack_, .ref nasked_, .int mfell_, .int mfellIn_, .ref naside_, .int mstate_, .int mlanded_, .int mwaitFalls_, .int mwaitWeight_, .ref nfallsAfter_, .ref nfalling_, .ref ncomes_, .ref ngoesOn_, .ref nwayRow_, .ref nmany_, .ref nmanyThen_, .int mtoldLet_, .ref ntSort_, .ref ntMany_, .ref nnumbers_])), (nknown_, .inl (cy 0, 2260, .inl (fknown_)))] H := hP
    have hD := va_ca hP hD
    have g3_ : rl (-9223372036854775808) (0) t_ := rl_le1 k9_2_ k9_0_ (rl_lit (by decide) : rl (0) (0) (0 : Int64)) (by decide)
    exact rZ hX (nz_of (rg_w kr9_ (by decide) (by decide))) hE hP hD hS dX11_isThing_12 (by decide) (by decide) (Or.inl (⟨(rl_w g3_ (by decide) (by decide)), (Or.inl ⟨v10030_, v10090_, k3_1_, k9_3_, rfl⟩), rfl, (rg_w kr9_ (by decide) (by decide))⟩))
  · have hP : va_P D vwCl [(nm_, .inr (11, [.ref nknown_, .ref ntelling_, .ref nimages_, .ref nisImage_, .int mthrown_, .ref ntape_, .int mtaped_, .int mlength_, .int mhead_, .int mbegin_, .int mtoken_, .int mvalue_, .int mbad_, .int mbadPlace_, .int mfaultKind_, .int mfaultPlace_, .int mdeep_, .int mlawMany_, .int mlawAt_, .ref nstack_, .ref nasked_, .int mfell_, .int mfellIn_, .ref naside_, .int mstate_, .int mlanded_, .int mwaitFalls_, .int mwaitWeight_, .ref nfallsAfter_, .ref nfalling_, .ref ncomes_, .ref ngoesOn_, .ref nwayRow_, .ref nmany_, .ref nmanyThen_, .int mtoldLet_, .ref ntSort_, .ref ntMany_, .ref nnumbers_])), (nknown_, .inl (cy 0, 2260, .inl (fknown_)))] H := hP
    have hD := va_ca hP hD
    have g4_ : rl (0) (9223372036854775807) t_ := rl_le2 k9_2_ (rl_lit (by decide) : rl (0) (0) (0 : Int64)) k9_0_ (by decide)
    exact rZ hX (nz_of (rg_w kr9_ (by decide) (by decide))) hE hP hD hS dX11_isThing_12 (by decide) (by decide) (Or.inr (Or.inl (⟨(rl_w g4_ (by decide) (by decide)), (Or.inl ⟨v10030_, v10090_, k3_1_, k9_4_, rfl⟩), rfl, (rg_w kr9_ (by decide) (by decide))⟩)))
  · have hP : va_P D vwCl [(nm_, .inr (11, [.ref nknown_, .ref ntelling_, .ref nimages_, .ref nisImage_, .int mthrown_, .ref ntape_, .int mtaped_, .int mlength_, .int mhead_, .int mbegin_, .int mtoken_, .int mvalue_, .int mbad_, .int mbadPlace_, .int mfaultKind_, .int mfaultPlace_, .int mdeep_, .int mlawMany_, .int mlawAt_, .ref nstack_, .ref nasked_, .int mfell_, .int mfellIn_, .ref naside_, .int mstate_, .int mlanded_, .int mwaitFalls_, .int mwaitWeight_, .ref nfallsAfter_, .ref nfalling_, .ref ncomes_, .ref ngoesOn_, .ref nwayRow_, .ref nmany_, .ref nmanyThen_, .int mtoldLet_, .ref ntSort_, .ref ntMany_, .ref nnumbers_])), (nknown_, .inl (cy 0, 2260, .inl (fknown_)))] H := hP
    have hD := va_ca hP hD
    have g5_ : rl (-9223372036854775808) (7) t_ := rl_le1 k9_0_ (rl_any _) g2_ (by decide)
    have g6_ : rl (0) (7) t_ := rl_le2 k9_1_ (rl_lit (by decide) : rl (0) (0) (0 : Int64)) g5_ (by decide)
    exact rZ hX (nz_of (rg_w kr9_ (by decide) (by decide))) hE hP hD hS dX11_isThing_12 (by decide) (by decide) (Or.inr (Or.inr (⟨(rl_w g6_ (by decide) (by decide)), (lth_of g6_ (by decide) k9_0_ kr3_ ev10030_), (Or.inl ⟨v10030_, v10090_, k3_1_, k9_2_, rfl⟩), rfl, (rg_w kr9_ (by decide) (by decide))⟩)))
def R_X11_isColumn_w_e1 (fknown_ : Nat → Int32) (c_ : Int64) (r : Int32) : Prop := (∃ (v10070_ : Int32) (v10110_ : Int32), v10070_ = fknown_ (1 : Int32).toNatClampNeg ∧ R_X11_within_w_e1 c_ ((0 : Int64)) v10110_ ∧ r = v10110_) ∨ False
def R_X11_isColumn_w_e2 (fknown_ : Nat → Int32) (c_ : Int64) (r : Int32) : Prop := (∃ (v10070_ : Int32) (v10110_ : Int32), v10070_ = fknown_ (1 : Int32).toNatClampNeg ∧ R_X11_within_w_e2 c_ ((0 : Int64)) (((v10070_ - 1).toInt64)) v10110_ ∧ r = v10110_) ∨ False
def R_X11_isColumn_w_e3 (fknown_ : Nat → Int32) (c_ : Int64) (r : Int32) : Prop := (∃ (v10070_ : Int32) (v10110_ : Int32), v10070_ = fknown_ (1 : Int32).toNatClampNeg ∧ R_X11_within_w_e3 c_ ((0 : Int64)) (((v10070_ - 1).toInt64)) v10110_ ∧ r = v10110_) ∨ False
set_option maxHeartbeats 4000000 in
set_option maxRecDepth 100000 in
theorem sf_X11_isColumn_w (l : Launch) (D : va_G) (cy : Nat → ClassId) (nm_ : Nat) (nknown_ : Nat) (ntelling_ : Nat) (nimages_ : Nat) (nisImage_ : Nat) (mthrown_ : Int32) (ntape_ : Nat) (mtaped_ : Int32) (mlength_ : Int32) (mhead_ : Int32) (mbegin_ : Int32) (mtoken_ : Int32) (mvalue_ : Int32) (mbad_ : Int32) (mbadPlace_ : Int32) (mfaultKind_ : Int32) (mfaultPlace_ : Int32) (mdeep_ : Int32) (mlawMany_ : Int32) (mlawAt_ : Int32) (nstack_ : Nat) (nasked_ : Nat) (mfell_ : Int32) (mfellIn_ : Int32) (naside_ : Nat) (mstate_ : Int32) (mlanded_ : Int32) (mwaitFalls_ : Int32) (mwaitWeight_ : Int32) (nfallsAfter_ : Nat) (nfalling_ : Nat) (ncomes_ : Nat) (ngoesOn_ : Nat) (nwayRow_ : Nat) (nmany_ : Nat) (nmanyThen_ : Nat) (mtoldLet_ : Int32) (ntSort_ : Nat) (ntMany_ : Nat) (nnumbers_ : Nat) (fknown_ : Nat → Int32) (c_ : Int64) (C_ : Int) (L_ : Int) (hb_ : Int) (ha_ : Int) (hc_ : Int) (hha_ : -2000000 ≤ ha_) (hhc_ : hc_ ≤ 4000000) (hhb_ : hb_ ≤ 1000000) (rmtaped_ : rg (0) (900) mtaped_) (rmlength_ : rg (0) (900) mlength_) (rmhead_ : rg (0) (900) mhead_) (rmbegin_ : rg (0) (900) mbegin_) (rfknown_ : KX C_ L_ ha_ hc_ hb_ fknown_) : Ci l yX11_isColumn cX11_isColumn 3 (some .boolean) { frames := 1, cells := 0, slots := 0, locals := 25 } D cy [.ref nm_, .long c_] [(nm_, .inr (11, [.ref nknown_, .ref ntelling_, .ref nimages_, .ref nisImage_, .int mthrown_, .ref ntape_, .int mtaped_, .int mlength_, .int mhead_, .int mbegin_, .int mtoken_, .int mvalue_, .int mbad_, .int mbadPlace_, .int mfaultKind_, .int mfaultPlace_, .int mdeep_, .int mlawMany_, .int mlawAt_, .ref nstack_, .ref nasked_, .int mfell_, .int mfellIn_, .ref naside_, .int mstate_, .int mlanded_, .int mwaitFalls_, .int mwaitWeight_, .ref nfallsAfter_, .ref nfalling_, .ref ncomes_, .ref ngoesOn_, .ref nwayRow_, .ref nmany_, .ref nmanyThen_, .int mtoldLet_, .ref ntSort_, .ref ntMany_, .ref nnumbers_])), (nknown_, .inl (cy 0, 2260, .inl (fknown_)))] (fun r W1 => (rl (-9223372036854775808) (0) c_ ∧ R_X11_isColumn_w_e1 fknown_ c_ r ∧ W1 = [(nm_, .inr (11, [.ref nknown_, .ref ntelling_, .ref nimages_, .ref nisImage_, .int mthrown_, .ref ntape_, .int mtaped_, .int mlength_, .int mhead_, .int mbegin_, .int mtoken_, .int mvalue_, .int mbad_, .int mbadPlace_, .int mfaultKind_, .int mfaultPlace_, .int mdeep_, .int mlawMany_, .int mlawAt_, .ref nstack_, .ref nasked_, .int mfell_, .int mfellIn_, .ref naside_, .int mstate_, .int mlanded_, .int mwaitFalls_, .int mwaitWeight_, .ref nfallsAfter_, .ref nfalling_, .ref ncomes_, .ref ngoesOn_, .ref nwayRow_, .ref nmany_, .ref nmanyThen_, .int mtoldLet_, .ref ntSort_, .ref ntMany_, .ref nnumbers_])), (nknown_, .inl (cy 0, 2260, .inl (fknown_)))] ∧ rg (0) (0) r) ∨ (rl (0) (9223372036854775807) c_ ∧ R_X11_isColumn_w_e2 fknown_ c_ r ∧ W1 = [(nm_, .inr (11, [.ref nknown_, .ref ntelling_, .ref nimages_, .ref nisImage_, .int mthrown_, .ref ntape_, .int mtaped_, .int mlength_, .int mhead_, .int mbegin_, .int mtoken_, .int mvalue_, .int mbad_, .int mbadPlace_, .int mfaultKind_, .int mfaultPlace_, .int mdeep_, .int mlawMany_, .int mlawAt_, .ref nstack_, .ref nasked_, .int mfell_, .int mfellIn_, .ref naside_, .int mstate_, .int mlanded_, .int mwaitFalls_, .int mwaitWeight_, .ref nfallsAfter_, .ref nfalling_, .ref ncomes_, .ref ngoesOn_, .ref nwayRow_, .ref nmany_, .ref nmanyThen_, .int mtoldLet_, .ref ntSort_, .ref ntMany_, .ref nnumbers_])), (nknown_, .inl (cy 0, 2260, .inl (fknown_)))] ∧ rg (0) (0) r) ∨ (rl (0) (5) c_ ∧ col C_ c_ ∧ R_X11_isColumn_w_e3 fknown_ c_ r ∧ W1 = [(nm_, .inr (11, [.ref nknown_, .ref ntelling_, .ref nimages_, .ref nisImage_, .int mthrown_, .ref ntape_, .int mtaped_, .int mlength_, .int mhead_, .int mbegin_, .int mtoken_, .int mvalue_, .int mbad_, .int mbadPlace_, .int mfaultKind_, .int mfaultPlace_, .int mdeep_, .int mlawMany_, .int mlawAt_, .ref nstack_, .ref nasked_, .int mfell_, .int mfellIn_, .ref naside_, .int mstate_, .int mlanded_, .int mwaitFalls_, .int mwaitWeight_, .ref nfallsAfter_, .ref nfalling_, .ref ncomes_, .ref ngoesOn_, .ref nwayRow_, .ref nmany_, .ref nmanyThen_, .int mtoldLet_, .ref ntSort_, .ref ntMany_, .ref nnumbers_])), (nknown_, .inl (cy 0, 2260, .inl (fknown_)))] ∧ rg (1) (1) r)) := by
  refine Ci.of (by decide) (Nat.le_of_ble_eq_true rfl) ?_
  intro p e s m below meth c A ls hX hE hP hD hl
  obtain ⟨hx, hb, hr, hml, hown, htA, hlk⟩ := id hX
  have hK := hE.1
  have hS : va_S A s.heap s.heap [] := va_S.rf
  have hl : lv_has ls 3 [(0, .ref nm_), (1, .long c_)] := hl
  refine lv_lload_n hx hb dX11_isColumn_0 rfl (lv_at hl 1 rfl) ?_
  refine lv_lconst (v := 0) hx hb dX11_isColumn_1 (by decide) ?_
  refine lv_aload_n hx hb dX11_isColumn_2 rfl (lv_at hl 0 rfl) ?_
  refine va_get (ci := 11) (v := .ref nknown_) (C := RX11) (T := TX11) (N := 39) hx hb htA in_X11 hown hK hP 0 rfl rfl 0 (by decide) (htA _ wd_1354) (fun _ h => h) rfl dX11_isColumn_3 ?_
  refine lv_iconst (v := 1) hx hb dX11_isColumn_6 (by decide) ?_
  refine va_iald hx hb hK hP 1 0 rfl rfl (in_lit (by decide)) dX11_isColumn_7 ?_
  refine lv_topi (fun v10070_ ev10070_ => ?_)
  have g1_ : rg (1) (6) v10070_ := by rw [ev10070_]; exact KX_l kb_1 rfknown_ (rg_lit (by decide) : rg (1) (1) (1 : Int32)) (by decide) (by decide)
  refine lv_iconst (v := 1) hx hb dX11_isColumn_8 (by decide) ?_
  refine lv_isub hx hb dX11_isColumn_9 ?_
  have g2_ : rg (0) (5) (v10070_ - 1) := rg_sub g1_ (rg_lit (by decide) : rg (1) (1) (1 : Int32)) (by decide) (by decide) (by decide) (by decide)
  refine lv_i2l hx hb dX11_isColumn_10 rfl ?_
  have g3_ : rl (0) (5) ((v10070_ - 1).toInt64) := rl_i2l g2_
  refine kSi (As := [.long c_, .long 0, .long ((v10070_ - 1).toInt64)]) (rest := []) (wr := [(nm_, .inr (11, [.ref nknown_, .ref ntelling_, .ref nimages_, .ref nisImage_, .int mthrown_, .ref ntape_, .int mtaped_, .int mlength_, .int mhead_, .int mbegin_, .int mtoken_, .int mvalue_, .int mbad_, .int mbadPlace_, .int mfaultKind_, .int mfaultPlace_, .int mdeep_, .int mlawMany_, .int mlawAt_, .ref nstack_, .ref nasked_, .int mfell_, .int mfellIn_, .ref naside_, .int mstate_, .int mlanded_, .int mwaitFalls_, .int mwaitWeight_, .ref nfallsAfter_, .ref nfalling_, .ref ncomes_, .ref ngoesOn_, .ref nwayRow_, .ref nmany_, .ref nmanyThen_, .int mtoldLet_, .ref ntSort_, .ref ntMany_, .ref nnumbers_])), (nknown_, .inl (cy 0, 2260, .inl (fknown_)))]) hX hE (sf_X11_within_w l D cy c_ (0 : Int64) ((v10070_ - 1).toInt64) ) (cwSA 3 htA wd_1483 wd_1481 wd_10 wd_1482 (by decide +kernel) ⟨by decide, by decide⟩) hP hD hS [] [0, 1] rfl rfl (by decide +kernel) rfl hl.1 rfl (Nat.le_of_ble_eq_true rfl) dX11_isColumn_11 (by decide) (fun v10110_ W1 H locs hw hP hD hS => ?_)
  refine W.widen (k := 0) (n := 0) (by decide) (by decide) ?_
  rcases hw with ⟨k11_0_, k11_1_, k11_2_, k11_3_, rfl, kr11_⟩ | ⟨k11_0_, k11_1_, k11_2_, k11_3_, k11_4_, rfl, kr11_⟩ | ⟨k11_0_, k11_1_, k11_2_, rfl, kr11_⟩
  · have hP : va_P D vwCl [(nm_, .inr (11, [.ref nknown_, .ref ntelling_, .ref nimages_, .ref nisImage_, .int mthrown_, .ref ntape_, .int mtaped_, .int mlength_, .int mhead_, .int mbegin_, .int mtoken_, .int mvalue_, .int mbad_, .int mbadPlace_, .int mfaultKind_, .int mfaultPlace_, .int mdeep_, .int mlawMany_, .int mlawAt_, .ref nstack_, .ref nasked_, .int mfell_, .int mfellIn_, .ref naside_, .int mstate_, .int mlanded_, .int mwaitFalls_, .int mwaitWeight_, .ref nfallsAfter_, .ref nfalling_, .ref ncomes_, .ref ngoesOn_, .ref nwayRow_, .ref nmany_, .ref nmanyThen_, .int mtoldLet_, .ref ntSort_, .ref ntMany_, .ref nnumbers_])), (nknown_, .inl (cy 0, 2260, .inl (fknown_)))] H := hP
    have hD := va_ca hP hD
    have g4_ : rl (-9223372036854775808) (0) c_ := rl_le1 k11_2_ k11_0_ (rl_lit (by decide) : rl (0) (0) (0 : Int64)) (by decide)
    exact rZ hX (nz_of (rg_w kr11_ (by decide) (by decide))) hE hP hD hS dX11_isColumn_14 (by decide) (by decide) (Or.inl (⟨(rl_w g4_ (by decide) (by decide)), (Or.inl ⟨v10070_, v10110_, ev10070_, k11_3_, rfl⟩), rfl, (rg_w kr11_ (by decide) (by decide))⟩))
  · have hP : va_P D vwCl [(nm_, .inr (11, [.ref nknown_, .ref ntelling_, .ref nimages_, .ref nisImage_, .int mthrown_, .ref ntape_, .int mtaped_, .int mlength_, .int mhead_, .int mbegin_, .int mtoken_, .int mvalue_, .int mbad_, .int mbadPlace_, .int mfaultKind_, .int mfaultPlace_, .int mdeep_, .int mlawMany_, .int mlawAt_, .ref nstack_, .ref nasked_, .int mfell_, .int mfellIn_, .ref naside_, .int mstate_, .int mlanded_, .int mwaitFalls_, .int mwaitWeight_, .ref nfallsAfter_, .ref nfalling_, .ref ncomes_, .ref ngoesOn_, .ref nwayRow_, .ref nmany_, .ref nmanyThen_, .int mtoldLet_, .ref ntSort_, .ref ntMany_, .ref nnumbers_])), (nknown_, .inl (cy 0, 2260, .inl (fknown_)))] H := hP
    have hD := va_ca hP hD
    have g5_ : rl (0) (9223372036854775807) c_ := rl_le2 k11_2_ (rl_lit (by decide) : rl (0) (0) (0 : Int64)) k11_0_ (by decide)
    exact rZ hX (nz_of (rg_w kr11_ (by decide) (by decide))) hE hP hD hS dX11_isColumn_14 (by decide) (by decide) (Or.inr (Or.inl (⟨(rl_w g5_ (by decide) (by decide)), (Or.inl ⟨v10070_, v10110_, ev10070_, k11_4_, rfl⟩), rfl, (rg_w kr11_ (by decide) (by decide))⟩)))
  · have hP : va_P D vwCl [(nm_, .inr (11, [.ref nknown_, .ref ntelling_, .ref nimages_, .ref nisImage_, .int mthrown_, .ref ntape_, .int mtaped_, .int mlength_, .int mhead_, .int mbegin_, .int mtoken_, .int mvalue_, .int mbad_, .int mbadPlace_, .int mfaultKind_, .int mfaultPlace_, .int mdeep_, .int mlawMany_, .int mlawAt_, .ref nstack_, .ref nasked_, .int mfell_, .int mfellIn_, .ref naside_, .int mstate_, .int mlanded_, .int mwaitFalls_, .int mwaitWeight_, .ref nfallsAfter_, .ref nfalling_, .ref ncomes_, .ref ngoesOn_, .ref nwayRow_, .ref nmany_, .ref nmanyThen_, .int mtoldLet_, .ref ntSort_, .ref ntMany_, .ref nnumbers_])), (nknown_, .inl (cy 0, 2260, .inl (fknown_)))] H := hP
    have hD := va_ca hP hD
    have g6_ : rl (-9223372036854775808) (5) c_ := rl_le1 k11_0_ (rl_any _) g3_ (by decide)
    have g7_ : rl (0) (5) c_ := rl_le2 k11_1_ (rl_lit (by decide) : rl (0) (0) (0 : Int64)) g6_ (by decide)
    exact rZ hX (nz_of (rg_w kr11_ (by decide) (by decide))) hE hP hD hS dX11_isColumn_14 (by decide) (by decide) (Or.inr (Or.inr (⟨(rl_w g7_ (by decide) (by decide)), (col_of rfknown_ g7_ (by decide) k11_0_ g1_ ev10070_), (Or.inl ⟨v10070_, v10110_, ev10070_, k11_2_, rfl⟩), rfl, (rg_w kr11_ (by decide) (by decide))⟩)))
def R_X11_isWalker_w_e1 (fknown_ : Nat → Int32) (w_ : Int32) (r : Int32) : Prop := (∃ (v10080_ : Int32) (v10120_ : Int32), v10080_ = fknown_ (4 : Int32).toNatClampNeg ∧ R_X11_within_w_e1 w_.toInt64 ((0 : Int64)) v10120_ ∧ r = v10120_) ∨ False
def R_X11_isWalker_w_e2 (fknown_ : Nat → Int32) (w_ : Int32) (r : Int32) : Prop := (∃ (v10080_ : Int32) (v10120_ : Int32), v10080_ = fknown_ (4 : Int32).toNatClampNeg ∧ R_X11_within_w_e2 w_.toInt64 ((0 : Int64)) (((v10080_ - 1).toInt64)) v10120_ ∧ r = v10120_) ∨ False
def R_X11_isWalker_w_e3 (fknown_ : Nat → Int32) (w_ : Int32) (r : Int32) : Prop := (∃ (v10080_ : Int32) (v10120_ : Int32), v10080_ = fknown_ (4 : Int32).toNatClampNeg ∧ R_X11_within_w_e3 w_.toInt64 ((0 : Int64)) (((v10080_ - 1).toInt64)) v10120_ ∧ r = v10120_) ∨ False
set_option maxHeartbeats 4000000 in
set_option maxRecDepth 100000 in
theorem sf_X11_isWalker_w (l : Launch) (D : va_G) (cy : Nat → ClassId) (nm_ : Nat) (nknown_ : Nat) (ntelling_ : Nat) (nimages_ : Nat) (nisImage_ : Nat) (mthrown_ : Int32) (ntape_ : Nat) (mtaped_ : Int32) (mlength_ : Int32) (mhead_ : Int32) (mbegin_ : Int32) (mtoken_ : Int32) (mvalue_ : Int32) (mbad_ : Int32) (mbadPlace_ : Int32) (mfaultKind_ : Int32) (mfaultPlace_ : Int32) (mdeep_ : Int32) (mlawMany_ : Int32) (mlawAt_ : Int32) (nstack_ : Nat) (nasked_ : Nat) (mfell_ : Int32) (mfellIn_ : Int32) (naside_ : Nat) (mstate_ : Int32) (mlanded_ : Int32) (mwaitFalls_ : Int32) (mwaitWeight_ : Int32) (nfallsAfter_ : Nat) (nfalling_ : Nat) (ncomes_ : Nat) (ngoesOn_ : Nat) (nwayRow_ : Nat) (nmany_ : Nat) (nmanyThen_ : Nat) (mtoldLet_ : Int32) (ntSort_ : Nat) (ntMany_ : Nat) (nnumbers_ : Nat) (fknown_ : Nat → Int32) (w_ : Int32) (C_ : Int) (L_ : Int) (hb_ : Int) (ha_ : Int) (hc_ : Int) (hha_ : -2000000 ≤ ha_) (hhc_ : hc_ ≤ 4000000) (hhb_ : hb_ ≤ 1000000) (rmtaped_ : rg (0) (900) mtaped_) (rmlength_ : rg (0) (900) mlength_) (rmhead_ : rg (0) (900) mhead_) (rmbegin_ : rg (0) (900) mbegin_) (rfknown_ : KX C_ L_ ha_ hc_ hb_ fknown_) : Ci l yX11_isWalker cX11_isWalker 2 (some .boolean) { frames := 1, cells := 0, slots := 0, locals := 25 } D cy [.ref nm_, .int w_] [(nm_, .inr (11, [.ref nknown_, .ref ntelling_, .ref nimages_, .ref nisImage_, .int mthrown_, .ref ntape_, .int mtaped_, .int mlength_, .int mhead_, .int mbegin_, .int mtoken_, .int mvalue_, .int mbad_, .int mbadPlace_, .int mfaultKind_, .int mfaultPlace_, .int mdeep_, .int mlawMany_, .int mlawAt_, .ref nstack_, .ref nasked_, .int mfell_, .int mfellIn_, .ref naside_, .int mstate_, .int mlanded_, .int mwaitFalls_, .int mwaitWeight_, .ref nfallsAfter_, .ref nfalling_, .ref ncomes_, .ref ngoesOn_, .ref nwayRow_, .ref nmany_, .ref nmanyThen_, .int mtoldLet_, .ref ntSort_, .ref ntMany_, .ref nnumbers_])), (nknown_, .inl (cy 0, 2260, .inl (fknown_)))] (fun r W1 => (rg (-2147483648) (0) w_ ∧ R_X11_isWalker_w_e1 fknown_ w_ r ∧ W1 = [(nm_, .inr (11, [.ref nknown_, .ref ntelling_, .ref nimages_, .ref nisImage_, .int mthrown_, .ref ntape_, .int mtaped_, .int mlength_, .int mhead_, .int mbegin_, .int mtoken_, .int mvalue_, .int mbad_, .int mbadPlace_, .int mfaultKind_, .int mfaultPlace_, .int mdeep_, .int mlawMany_, .int mlawAt_, .ref nstack_, .ref nasked_, .int mfell_, .int mfellIn_, .ref naside_, .int mstate_, .int mlanded_, .int mwaitFalls_, .int mwaitWeight_, .ref nfallsAfter_, .ref nfalling_, .ref ncomes_, .ref ngoesOn_, .ref nwayRow_, .ref nmany_, .ref nmanyThen_, .int mtoldLet_, .ref ntSort_, .ref ntMany_, .ref nnumbers_])), (nknown_, .inl (cy 0, 2260, .inl (fknown_)))] ∧ rg (0) (0) r) ∨ (rg (0) (2147483647) w_ ∧ R_X11_isWalker_w_e2 fknown_ w_ r ∧ W1 = [(nm_, .inr (11, [.ref nknown_, .ref ntelling_, .ref nimages_, .ref nisImage_, .int mthrown_, .ref ntape_, .int mtaped_, .int mlength_, .int mhead_, .int mbegin_, .int mtoken_, .int mvalue_, .int mbad_, .int mbadPlace_, .int mfaultKind_, .int mfaultPlace_, .int mdeep_, .int mlawMany_, .int mlawAt_, .ref nstack_, .ref nasked_, .int mfell_, .int mfellIn_, .ref naside_, .int mstate_, .int mlanded_, .int mwaitFalls_, .int mwaitWeight_, .ref nfallsAfter_, .ref nfalling_, .ref ncomes_, .ref ngoesOn_, .ref nwayRow_, .ref nmany_, .ref nmanyThen_, .int mtoldLet_, .ref ntSort_, .ref ntMany_, .ref nnumbers_])), (nknown_, .inl (cy 0, 2260, .inl (fknown_)))] ∧ rg (0) (0) r) ∨ (rg (0) (3) w_ ∧ R_X11_isWalker_w_e3 fknown_ w_ r ∧ W1 = [(nm_, .inr (11, [.ref nknown_, .ref ntelling_, .ref nimages_, .ref nisImage_, .int mthrown_, .ref ntape_, .int mtaped_, .int mlength_, .int mhead_, .int mbegin_, .int mtoken_, .int mvalue_, .int mbad_, .int mbadPlace_, .int mfaultKind_, .int mfaultPlace_, .int mdeep_, .int mlawMany_, .int mlawAt_, .ref nstack_, .ref nasked_, .int mfell_, .int mfellIn_, .ref naside_, .int mstate_, .int mlanded_, .int mwaitFalls_, .int mwaitWeight_, .ref nfallsAfter_, .ref nfalling_, .ref ncomes_, .ref ngoesOn_, .ref nwayRow_, .ref nmany_, .ref nmanyThen_, .int mtoldLet_, .ref ntSort_, .ref ntMany_, .ref nnumbers_])), (nknown_, .inl (cy 0, 2260, .inl (fknown_)))] ∧ rg (1) (1) r)) := by
  refine Ci.of (by decide) (Nat.le_of_ble_eq_true rfl) ?_
  intro p e s m below meth c A ls hX hE hP hD hl
  obtain ⟨hx, hb, hr, hml, hown, htA, hlk⟩ := id hX
  have hK := hE.1
  have hS : va_S A s.heap s.heap [] := va_S.rf
  have hl : lv_has ls 2 [(0, .ref nm_), (1, .int w_)] := hl
  refine lv_iload_n hx hb dX11_isWalker_0 rfl (lv_at hl 1 rfl) ?_
  refine lv_i2l hx hb dX11_isWalker_1 rfl ?_
  have g1_ : rl (-2147483648) (2147483647) w_.toInt64 := rl_i2l (rg_any _)
  refine lv_lconst (v := 0) hx hb dX11_isWalker_2 (by decide) ?_
  refine lv_aload_n hx hb dX11_isWalker_3 rfl (lv_at hl 0 rfl) ?_
  refine va_get (ci := 11) (v := .ref nknown_) (C := RX11) (T := TX11) (N := 39) hx hb htA in_X11 hown hK hP 0 rfl rfl 0 (by decide) (htA _ wd_1354) (fun _ h => h) rfl dX11_isWalker_4 ?_
  refine lv_iconst (v := 4) hx hb dX11_isWalker_7 (by decide) ?_
  refine va_iald hx hb hK hP 1 0 rfl rfl (in_lit (by decide)) dX11_isWalker_8 ?_
  refine lv_topi (fun v10080_ ev10080_ => ?_)
  have g2_ : rg (0) (4) v10080_ := by rw [ev10080_]; exact KX_l kb_4 rfknown_ (rg_lit (by decide) : rg (4) (4) (4 : Int32)) (by decide) (by decide)
  refine lv_iconst (v := 1) hx hb dX11_isWalker_9 (by decide) ?_
  refine lv_isub hx hb dX11_isWalker_10 ?_
  have g3_ : rg (-1) (3) (v10080_ - 1) := rg_sub g2_ (rg_lit (by decide) : rg (1) (1) (1 : Int32)) (by decide) (by decide) (by decide) (by decide)
  refine lv_i2l hx hb dX11_isWalker_11 rfl ?_
  have g4_ : rl (-1) (3) ((v10080_ - 1).toInt64) := rl_i2l g3_
  refine kSi (As := [.long w_.toInt64, .long 0, .long ((v10080_ - 1).toInt64)]) (rest := []) (wr := [(nm_, .inr (11, [.ref nknown_, .ref ntelling_, .ref nimages_, .ref nisImage_, .int mthrown_, .ref ntape_, .int mtaped_, .int mlength_, .int mhead_, .int mbegin_, .int mtoken_, .int mvalue_, .int mbad_, .int mbadPlace_, .int mfaultKind_, .int mfaultPlace_, .int mdeep_, .int mlawMany_, .int mlawAt_, .ref nstack_, .ref nasked_, .int mfell_, .int mfellIn_, .ref naside_, .int mstate_, .int mlanded_, .int mwaitFalls_, .int mwaitWeight_, .ref nfallsAfter_, .ref nfalling_, .ref ncomes_, .ref ngoesOn_, .ref nwayRow_, .ref nmany_, .ref nmanyThen_, .int mtoldLet_, .ref ntSort_, .ref ntMany_, .ref nnumbers_])), (nknown_, .inl (cy 0, 2260, .inl (fknown_)))]) hX hE (sf_X11_within_w l D cy w_.toInt64 (0 : Int64) ((v10080_ - 1).toInt64) ) (cwSA 3 htA wd_1483 wd_1481 wd_10 wd_1482 (by decide +kernel) ⟨by decide, by decide⟩) hP hD hS [] [0, 1] rfl rfl (by decide +kernel) rfl hl.1 rfl (Nat.le_of_ble_eq_true rfl) dX11_isWalker_12 (by decide) (fun v10120_ W1 H locs hw hP hD hS => ?_)
  refine W.widen (k := 0) (n := 0) (by decide) (by decide) ?_
  rcases hw with ⟨k12_0_, k12_1_, k12_2_, k12_3_, rfl, kr12_⟩ | ⟨k12_0_, k12_1_, k12_2_, k12_3_, k12_4_, rfl, kr12_⟩ | ⟨k12_0_, k12_1_, k12_2_, rfl, kr12_⟩
  · have hP : va_P D vwCl [(nm_, .inr (11, [.ref nknown_, .ref ntelling_, .ref nimages_, .ref nisImage_, .int mthrown_, .ref ntape_, .int mtaped_, .int mlength_, .int mhead_, .int mbegin_, .int mtoken_, .int mvalue_, .int mbad_, .int mbadPlace_, .int mfaultKind_, .int mfaultPlace_, .int mdeep_, .int mlawMany_, .int mlawAt_, .ref nstack_, .ref nasked_, .int mfell_, .int mfellIn_, .ref naside_, .int mstate_, .int mlanded_, .int mwaitFalls_, .int mwaitWeight_, .ref nfallsAfter_, .ref nfalling_, .ref ncomes_, .ref ngoesOn_, .ref nwayRow_, .ref nmany_, .ref nmanyThen_, .int mtoldLet_, .ref ntSort_, .ref ntMany_, .ref nnumbers_])), (nknown_, .inl (cy 0, 2260, .inl (fknown_)))] H := hP
    have hD := va_ca hP hD
    have g5_ : rl (-2147483648) (0) w_.toInt64 := rl_le1 k12_2_ (rl_cut g1_ k12_0_) (rl_lit (by decide) : rl (0) (0) (0 : Int64)) (by decide)
    exact rZ hX (nz_of (rg_w kr12_ (by decide) (by decide))) hE hP hD hS dX11_isWalker_15 (by decide) (by decide) (Or.inl (⟨(rg_w (rl_b g5_) (by decide) (by decide)), (Or.inl ⟨v10080_, v10120_, ev10080_, k12_3_, rfl⟩), rfl, (rg_w kr12_ (by decide) (by decide))⟩))
  · have hP : va_P D vwCl [(nm_, .inr (11, [.ref nknown_, .ref ntelling_, .ref nimages_, .ref nisImage_, .int mthrown_, .ref ntape_, .int mtaped_, .int mlength_, .int mhead_, .int mbegin_, .int mtoken_, .int mvalue_, .int mbad_, .int mbadPlace_, .int mfaultKind_, .int mfaultPlace_, .int mdeep_, .int mlawMany_, .int mlawAt_, .ref nstack_, .ref nasked_, .int mfell_, .int mfellIn_, .ref naside_, .int mstate_, .int mlanded_, .int mwaitFalls_, .int mwaitWeight_, .ref nfallsAfter_, .ref nfalling_, .ref ncomes_, .ref ngoesOn_, .ref nwayRow_, .ref nmany_, .ref nmanyThen_, .int mtoldLet_, .ref ntSort_, .ref ntMany_, .ref nnumbers_])), (nknown_, .inl (cy 0, 2260, .inl (fknown_)))] H := hP
    have hD := va_ca hP hD
    have g6_ : rl (0) (2147483647) w_.toInt64 := rl_le2 k12_2_ (rl_lit (by decide) : rl (0) (0) (0 : Int64)) (rl_cut g1_ k12_0_) (by decide)
    exact rZ hX (nz_of (rg_w kr12_ (by decide) (by decide))) hE hP hD hS dX11_isWalker_15 (by decide) (by decide) (Or.inr (Or.inl (⟨(rg_w (rl_b g6_) (by decide) (by decide)), (Or.inl ⟨v10080_, v10120_, ev10080_, k12_4_, rfl⟩), rfl, (rg_w kr12_ (by decide) (by decide))⟩)))
  · have hP : va_P D vwCl [(nm_, .inr (11, [.ref nknown_, .ref ntelling_, .ref nimages_, .ref nisImage_, .int mthrown_, .ref ntape_, .int mtaped_, .int mlength_, .int mhead_, .int mbegin_, .int mtoken_, .int mvalue_, .int mbad_, .int mbadPlace_, .int mfaultKind_, .int mfaultPlace_, .int mdeep_, .int mlawMany_, .int mlawAt_, .ref nstack_, .ref nasked_, .int mfell_, .int mfellIn_, .ref naside_, .int mstate_, .int mlanded_, .int mwaitFalls_, .int mwaitWeight_, .ref nfallsAfter_, .ref nfalling_, .ref ncomes_, .ref ngoesOn_, .ref nwayRow_, .ref nmany_, .ref nmanyThen_, .int mtoldLet_, .ref ntSort_, .ref ntMany_, .ref nnumbers_])), (nknown_, .inl (cy 0, 2260, .inl (fknown_)))] H := hP
    have hD := va_ca hP hD
    have g7_ : rl (-2147483648) (3) w_.toInt64 := rl_le1 k12_0_ g1_ g4_ (by decide)
    have g8_ : rl (0) (3) w_.toInt64 := rl_le2 k12_1_ (rl_lit (by decide) : rl (0) (0) (0 : Int64)) g7_ (by decide)
    exact rZ hX (nz_of (rg_w kr12_ (by decide) (by decide))) hE hP hD hS dX11_isWalker_15 (by decide) (by decide) (Or.inr (Or.inr (⟨(rg_w (rl_b g8_) (by decide) (by decide)), (Or.inl ⟨v10080_, v10120_, ev10080_, k12_2_, rfl⟩), rfl, (rg_w kr12_ (by decide) (by decide))⟩)))
def R_X11_isTray_w_e1 (t_ : Int32) (r : Int32) : Prop := (∃ (v10060_ : Int32), R_X11_within_w_e1 t_.toInt64 ((0 : Int64)) v10060_ ∧ r = v10060_) ∨ False
def R_X11_isTray_w_e2 (t_ : Int32) (r : Int32) : Prop := (∃ (v10060_ : Int32), R_X11_within_w_e2 t_.toInt64 ((0 : Int64)) ((3 : Int64)) v10060_ ∧ r = v10060_) ∨ False
def R_X11_isTray_w_e3 (t_ : Int32) (r : Int32) : Prop := (∃ (v10060_ : Int32), R_X11_within_w_e3 t_.toInt64 ((0 : Int64)) ((3 : Int64)) v10060_ ∧ r = v10060_) ∨ False
set_option maxHeartbeats 4000000 in
set_option maxRecDepth 100000 in
theorem sf_X11_isTray_w (l : Launch) (D : va_G) (cy : Nat → ClassId) (t_ : Int32) : Ci l yX11_isTray cX11_isTray 1 (some .boolean) { frames := 1, cells := 0, slots := 0, locals := 25 } D cy [.int t_] [] (fun r W1 => (rg (-2147483648) (0) t_ ∧ R_X11_isTray_w_e1 t_ r ∧ W1 = [] ∧ rg (0) (0) r) ∨ (rg (3) (2147483647) t_ ∧ R_X11_isTray_w_e2 t_ r ∧ W1 = [] ∧ rg (0) (0) r) ∨ (rg (0) (3) t_ ∧ R_X11_isTray_w_e3 t_ r ∧ W1 = [] ∧ rg (1) (1) r)) := by
  refine Ci.of (by decide) (Nat.le_of_ble_eq_true rfl) ?_
  intro p e s m below meth c A ls hX hE hP hD hl
  obtain ⟨hx, hb, hr, hml, hown, htA, hlk⟩ := id hX
  have hK := hE.1
  have hS : va_S A s.heap s.heap [] := va_S.rf
  have hl : lv_has ls 1 [(0, .int t_)] := hl
  refine lv_iload_n hx hb dX11_isTray_0 rfl (lv_at hl 0 rfl) ?_
  refine lv_i2l hx hb dX11_isTray_1 rfl ?_
  have g1_ : rl (-2147483648) (2147483647) t_.toInt64 := rl_i2l (rg_any _)
  refine lv_lconst (v := 0) hx hb dX11_isTray_2 (by decide) ?_
  refine lv_ldc2 hx hb hown (htA _ wd_1816) dX11_isTray_3 ?_
  refine kSi (As := [.long t_.toInt64, .long 0, .long 3]) (rest := []) (wr := []) hX hE (sf_X11_within_w l D cy t_.toInt64 (0 : Int64) (3 : Int64) ) (cwSA 3 htA wd_1483 wd_1481 wd_10 wd_1482 (by decide +kernel) ⟨by decide, by decide⟩) hP hD hS [] [] rfl rfl (by decide +kernel) rfl hl.1 rfl (Nat.le_of_ble_eq_true rfl) dX11_isTray_6 (by decide) (fun v10060_ W1 H locs hw hP hD hS => ?_)
  refine W.widen (k := 0) (n := 0) (by decide) (by decide) ?_
  rcases hw with ⟨k6_0_, k6_1_, k6_2_, k6_3_, rfl, kr6_⟩ | ⟨k6_0_, k6_1_, k6_2_, k6_3_, k6_4_, rfl, kr6_⟩ | ⟨k6_0_, k6_1_, k6_2_, rfl, kr6_⟩
  · have hP : va_P D vwCl [] H := hP
    have hD := va_ca hP hD
    have g2_ : rl (-2147483648) (0) t_.toInt64 := rl_le1 k6_2_ (rl_cut g1_ k6_0_) (rl_lit (by decide) : rl (0) (0) (0 : Int64)) (by decide)
    exact rZ hX (nz_of (rg_w kr6_ (by decide) (by decide))) hE hP hD hS dX11_isTray_9 (by decide) (by decide) (Or.inl (⟨(rg_w (rl_b g2_) (by decide) (by decide)), (Or.inl ⟨v10060_, k6_3_, rfl⟩), rfl, (rg_w kr6_ (by decide) (by decide))⟩))
  · have hP : va_P D vwCl [] H := hP
    have hD := va_ca hP hD
    have g3_ : rl (0) (2147483647) t_.toInt64 := rl_le2 k6_2_ (rl_lit (by decide) : rl (0) (0) (0 : Int64)) (rl_cut g1_ k6_0_) (by decide)
    have g4_ : rl (3) (2147483647) t_.toInt64 := rl_le2 k6_3_ (rl_lit (by decide) : rl (3) (3) (3 : Int64)) g3_ (by decide)
    exact rZ hX (nz_of (rg_w kr6_ (by decide) (by decide))) hE hP hD hS dX11_isTray_9 (by decide) (by decide) (Or.inr (Or.inl (⟨(rg_w (rl_b g4_) (by decide) (by decide)), (Or.inl ⟨v10060_, k6_4_, rfl⟩), rfl, (rg_w kr6_ (by decide) (by decide))⟩)))
  · have hP : va_P D vwCl [] H := hP
    have hD := va_ca hP hD
    have g5_ : rl (-2147483648) (3) t_.toInt64 := rl_le1 k6_0_ g1_ (rl_lit (by decide) : rl (3) (3) (3 : Int64)) (by decide)
    have g6_ : rl (0) (3) t_.toInt64 := rl_le2 k6_1_ (rl_lit (by decide) : rl (0) (0) (0 : Int64)) g5_ (by decide)
    exact rZ hX (nz_of (rg_w kr6_ (by decide) (by decide))) hE hP hD hS dX11_isTray_9 (by decide) (by decide) (Or.inr (Or.inr (⟨(rg_w (rl_b g6_) (by decide) (by decide)), (Or.inl ⟨v10060_, k6_2_, rfl⟩), rfl, (rg_w kr6_ (by decide) (by decide))⟩)))
def R_X11_isPlace_w_e1 (fknown_ : Nat → Int32) (c_ : Int64) (r : Int32) : Prop := (∃ (v10020_ : Int32), R_X11_isColumn_w_e1 fknown_ c_ v10020_ ∧ r = (0 : Int32)) ∨ False
def R_X11_isPlace_w_e2 (fknown_ : Nat → Int32) (c_ : Int64) (r : Int32) : Prop := (∃ (v10020_ : Int32), R_X11_isColumn_w_e2 fknown_ c_ v10020_ ∧ r = (0 : Int32)) ∨ False
def R_X11_isPlace_w_e3 (fknown_ : Nat → Int32) (c_ : Int64) (l_ : Int64) (r : Int32) : Prop := (∃ (v10020_ : Int32) (v30010150_ : Int32) (v30010190_ : Int32), R_X11_isColumn_w_e3 fknown_ c_ v10020_ ∧ v30010150_ = fknown_ (2 : Int32).toNatClampNeg ∧ R_X11_within_w_e1 l_ ((0 : Int64)) v30010190_ ∧ r = (0 : Int32)) ∨ False
def R_X11_isPlace_w_e4 (fknown_ : Nat → Int32) (c_ : Int64) (l_ : Int64) (r : Int32) : Prop := (∃ (v10020_ : Int32) (v30010150_ : Int32) (v30010190_ : Int32), R_X11_isColumn_w_e3 fknown_ c_ v10020_ ∧ v30010150_ = fknown_ (2 : Int32).toNatClampNeg ∧ R_X11_within_w_e2 l_ ((0 : Int64)) (((v30010150_ - 1).toInt64)) v30010190_ ∧ r = (0 : Int32)) ∨ False
def R_X11_isPlace_w_e5 (fknown_ : Nat → Int32) (c_ : Int64) (l_ : Int64) (r : Int32) : Prop := (∃ (v10020_ : Int32) (v30010150_ : Int32) (v30010190_ : Int32), R_X11_isColumn_w_e3 fknown_ c_ v10020_ ∧ v30010150_ = fknown_ (2 : Int32).toNatClampNeg ∧ R_X11_within_w_e3 l_ ((0 : Int64)) (((v30010150_ - 1).toInt64)) v30010190_ ∧ r = (1 : Int32)) ∨ False
set_option maxHeartbeats 4000000 in
set_option maxRecDepth 100000 in
theorem sf_X11_isPlace_w (l : Launch) (D : va_G) (cy : Nat → ClassId) (nm_ : Nat) (nknown_ : Nat) (ntelling_ : Nat) (nimages_ : Nat) (nisImage_ : Nat) (mthrown_ : Int32) (ntape_ : Nat) (mtaped_ : Int32) (mlength_ : Int32) (mhead_ : Int32) (mbegin_ : Int32) (mtoken_ : Int32) (mvalue_ : Int32) (mbad_ : Int32) (mbadPlace_ : Int32) (mfaultKind_ : Int32) (mfaultPlace_ : Int32) (mdeep_ : Int32) (mlawMany_ : Int32) (mlawAt_ : Int32) (nstack_ : Nat) (nasked_ : Nat) (mfell_ : Int32) (mfellIn_ : Int32) (naside_ : Nat) (mstate_ : Int32) (mlanded_ : Int32) (mwaitFalls_ : Int32) (mwaitWeight_ : Int32) (nfallsAfter_ : Nat) (nfalling_ : Nat) (ncomes_ : Nat) (ngoesOn_ : Nat) (nwayRow_ : Nat) (nmany_ : Nat) (nmanyThen_ : Nat) (mtoldLet_ : Int32) (ntSort_ : Nat) (ntMany_ : Nat) (nnumbers_ : Nat) (fknown_ : Nat → Int32) (c_ : Int64) (l_ : Int64) (C_ : Int) (L_ : Int) (hb_ : Int) (ha_ : Int) (hc_ : Int) (hha_ : -2000000 ≤ ha_) (hhc_ : hc_ ≤ 4000000) (hhb_ : hb_ ≤ 1000000) (rmtaped_ : rg (0) (900) mtaped_) (rmlength_ : rg (0) (900) mlength_) (rmhead_ : rg (0) (900) mhead_) (rmbegin_ : rg (0) (900) mbegin_) (rfknown_ : KX C_ L_ ha_ hc_ hb_ fknown_) : Ci l yX11_isPlace cX11_isPlace 5 (some .boolean) { frames := 2, cells := 0, slots := 0, locals := 47 } D cy [.ref nm_, .long c_, .long l_] [(nm_, .inr (11, [.ref nknown_, .ref ntelling_, .ref nimages_, .ref nisImage_, .int mthrown_, .ref ntape_, .int mtaped_, .int mlength_, .int mhead_, .int mbegin_, .int mtoken_, .int mvalue_, .int mbad_, .int mbadPlace_, .int mfaultKind_, .int mfaultPlace_, .int mdeep_, .int mlawMany_, .int mlawAt_, .ref nstack_, .ref nasked_, .int mfell_, .int mfellIn_, .ref naside_, .int mstate_, .int mlanded_, .int mwaitFalls_, .int mwaitWeight_, .ref nfallsAfter_, .ref nfalling_, .ref ncomes_, .ref ngoesOn_, .ref nwayRow_, .ref nmany_, .ref nmanyThen_, .int mtoldLet_, .ref ntSort_, .ref ntMany_, .ref nnumbers_])), (nknown_, .inl (cy 0, 2260, .inl (fknown_)))] (fun r W1 => (rl (-9223372036854775808) (0) c_ ∧ R_X11_isPlace_w_e1 fknown_ c_ r ∧ W1 = [(nm_, .inr (11, [.ref nknown_, .ref ntelling_, .ref nimages_, .ref nisImage_, .int mthrown_, .ref ntape_, .int mtaped_, .int mlength_, .int mhead_, .int mbegin_, .int mtoken_, .int mvalue_, .int mbad_, .int mbadPlace_, .int mfaultKind_, .int mfaultPlace_, .int mdeep_, .int mlawMany_, .int mlawAt_, .ref nstack_, .ref nasked_, .int mfell_, .int mfellIn_, .ref naside_, .int mstate_, .int mlanded_, .int mwaitFalls_, .int mwaitWeight_, .ref nfallsAfter_, .ref nfalling_, .ref ncomes_, .ref ngoesOn_, .ref nwayRow_, .ref nmany_, .ref nmanyThen_, .int mtoldLet_, .ref ntSort_, .ref ntMany_, .ref nnumbers_])), (nknown_, .inl (cy 0, 2260, .inl (fknown_)))] ∧ rg (0) (0) r) ∨ (rl (0) (9223372036854775807) c_ ∧ R_X11_isPlace_w_e2 fknown_ c_ r ∧ W1 = [(nm_, .inr (11, [.ref nknown_, .ref ntelling_, .ref nimages_, .ref nisImage_, .int mthrown_, .ref ntape_, .int mtaped_, .int mlength_, .int mhead_, .int mbegin_, .int mtoken_, .int mvalue_, .int mbad_, .int mbadPlace_, .int mfaultKind_, .int mfaultPlace_, .int mdeep_, .int mlawMany_, .int mlawAt_, .ref nstack_, .ref nasked_, .int mfell_, .int mfellIn_, .ref naside_, .int mstate_, .int mlanded_, .int mwaitFalls_, .int mwaitWeight_, .ref nfallsAfter_, .ref nfalling_, .ref ncomes_, .ref ngoesOn_, .ref nwayRow_, .ref nmany_, .ref nmanyThen_, .int mtoldLet_, .ref ntSort_, .ref ntMany_, .ref nnumbers_])), (nknown_, .inl (cy 0, 2260, .inl (fknown_)))] ∧ rg (0) (0) r) ∨ (rl (0) (5) c_ ∧ rl (-9223372036854775808) (0) l_ ∧ R_X11_isPlace_w_e3 fknown_ c_ l_ r ∧ W1 = [(nm_, .inr (11, [.ref nknown_, .ref ntelling_, .ref nimages_, .ref nisImage_, .int mthrown_, .ref ntape_, .int mtaped_, .int mlength_, .int mhead_, .int mbegin_, .int mtoken_, .int mvalue_, .int mbad_, .int mbadPlace_, .int mfaultKind_, .int mfaultPlace_, .int mdeep_, .int mlawMany_, .int mlawAt_, .ref nstack_, .ref nasked_, .int mfell_, .int mfellIn_, .ref naside_, .int mstate_, .int mlanded_, .int mwaitFalls_, .int mwaitWeight_, .ref nfallsAfter_, .ref nfalling_, .ref ncomes_, .ref ngoesOn_, .ref nwayRow_, .ref nmany_, .ref nmanyThen_, .int mtoldLet_, .ref ntSort_, .ref ntMany_, .ref nnumbers_])), (nknown_, .inl (cy 0, 2260, .inl (fknown_)))] ∧ rg (0) (0) r) ∨ (rl (0) (5) c_ ∧ rl (0) (9223372036854775807) l_ ∧ R_X11_isPlace_w_e4 fknown_ c_ l_ r ∧ W1 = [(nm_, .inr (11, [.ref nknown_, .ref ntelling_, .ref nimages_, .ref nisImage_, .int mthrown_, .ref ntape_, .int mtaped_, .int mlength_, .int mhead_, .int mbegin_, .int mtoken_, .int mvalue_, .int mbad_, .int mbadPlace_, .int mfaultKind_, .int mfaultPlace_, .int mdeep_, .int mlawMany_, .int mlawAt_, .ref nstack_, .ref nasked_, .int mfell_, .int mfellIn_, .ref naside_, .int mstate_, .int mlanded_, .int mwaitFalls_, .int mwaitWeight_, .ref nfallsAfter_, .ref nfalling_, .ref ncomes_, .ref ngoesOn_, .ref nwayRow_, .ref nmany_, .ref nmanyThen_, .int mtoldLet_, .ref ntSort_, .ref ntMany_, .ref nnumbers_])), (nknown_, .inl (cy 0, 2260, .inl (fknown_)))] ∧ rg (0) (0) r) ∨ (rl (0) (5) c_ ∧ rl (0) (8) l_ ∧ (col C_ c_ ∧ col L_ l_) ∧ R_X11_isPlace_w_e5 fknown_ c_ l_ r ∧ W1 = [(nm_, .inr (11, [.ref nknown_, .ref ntelling_, .ref nimages_, .ref nisImage_, .int mthrown_, .ref ntape_, .int mtaped_, .int mlength_, .int mhead_, .int mbegin_, .int mtoken_, .int mvalue_, .int mbad_, .int mbadPlace_, .int mfaultKind_, .int mfaultPlace_, .int mdeep_, .int mlawMany_, .int mlawAt_, .ref nstack_, .ref nasked_, .int mfell_, .int mfellIn_, .ref naside_, .int mstate_, .int mlanded_, .int mwaitFalls_, .int mwaitWeight_, .ref nfallsAfter_, .ref nfalling_, .ref ncomes_, .ref ngoesOn_, .ref nwayRow_, .ref nmany_, .ref nmanyThen_, .int mtoldLet_, .ref ntSort_, .ref ntMany_, .ref nnumbers_])), (nknown_, .inl (cy 0, 2260, .inl (fknown_)))] ∧ rg (1) (1) r)) := by
  refine Ci.of (by decide) (Nat.le_of_ble_eq_true rfl) ?_
  intro p e s m below meth c A ls hX hE hP hD hl
  obtain ⟨hx, hb, hr, hml, hown, htA, hlk⟩ := id hX
  have hK := hE.1
  have hS : va_S A s.heap s.heap [] := va_S.rf
  have hl : lv_has ls 5 [(0, .ref nm_), (1, .long c_), (3, .long l_)] := hl
  refine lv_aload_n hx hb dX11_isPlace_0 rfl (lv_at hl 0 rfl) ?_
  refine lv_lload_n hx hb dX11_isPlace_1 rfl (lv_at hl 1 rfl) ?_
  refine kVi (As := [.long c_]) (rest := []) (wr := []) hX hE (sf_X11_isColumn_w l D cy nm_ nknown_ ntelling_ nimages_ nisImage_ mthrown_ ntape_ mtaped_ mlength_ mhead_ mbegin_ mtoken_ mvalue_ mbad_ mbadPlace_ mfaultKind_ mfaultPlace_ mdeep_ mlawMany_ mlawAt_ nstack_ nasked_ mfell_ mfellIn_ naside_ mstate_ mlanded_ mwaitFalls_ mwaitWeight_ nfallsAfter_ nfalling_ ncomes_ ngoesOn_ nwayRow_ nmany_ nmanyThen_ mtoldLet_ ntSort_ ntMany_ nnumbers_ fknown_ c_ C_ L_ hb_ ha_ hc_ (by omega) (by omega) (by omega) (rg_w rmtaped_ (by decide) (by decide)) (rg_w rmlength_ (by decide) (by decide)) (rg_w rmhead_ (by decide) (by decide)) (rg_w rmbegin_ (by decide) (by decide)) rfknown_) (cwVA 1 htA wd_1683 wd_1680 wd_10 wd_1682 wp_76 (by decide +kernel) ⟨by decide, by decide⟩) hP hD hS [0, 1] [] rfl rfl (by decide +kernel) 0 rfl rfl rfl rfl hl.1 rfl (Nat.le_of_ble_eq_true rfl) dX11_isPlace_2 (by decide) (fun v10020_ W1 H locs hw hP hD hS => ?_)
  refine W.widen (k := 0) (n := 0) (by decide) (by decide) ?_
  rcases hw with ⟨k2_0_, k2_1_, rfl, kr2_⟩ | ⟨k2_0_, k2_1_, rfl, kr2_⟩ | ⟨k2_0_, k2_1_, k2_2_, rfl, kr2_⟩
  · have hP : va_P D vwCl [(nm_, .inr (11, [.ref nknown_, .ref ntelling_, .ref nimages_, .ref nisImage_, .int mthrown_, .ref ntape_, .int mtaped_, .int mlength_, .int mhead_, .int mbegin_, .int mtoken_, .int mvalue_, .int mbad_, .int mbadPlace_, .int mfaultKind_, .int mfaultPlace_, .int mdeep_, .int mlawMany_, .int mlawAt_, .ref nstack_, .ref nasked_, .int mfell_, .int mfellIn_, .ref naside_, .int mstate_, .int mlanded_, .int mwaitFalls_, .int mwaitWeight_, .ref nfallsAfter_, .ref nfalling_, .ref ncomes_, .ref ngoesOn_, .ref nwayRow_, .ref nmany_, .ref nmanyThen_, .int mtoldLet_, .ref ntSort_, .ref ntMany_, .ref nnumbers_])), (nknown_, .inl (cy 0, 2260, .inl (fknown_)))] H := hP
    have hD := va_ca hP hD
    refine lv_if_eq (tgt := 29) hx hb dX11_isPlace_5 (by decide) (fun c10000005_ => ?_) (fun c10000005_ => rg_ne0 c10000005_ kr2_ (rg_lit (by decide) : rg (0) (0) (0 : Int32)))
    refine lv_iconst (v := 0) hx hb dX11_isPlace_29 (by decide) ?_
    exact rZ hX (by decide) hE hP hD hS dX11_isPlace_30 (by decide) (by decide) (Or.inl (⟨(rl_w k2_0_ (by decide) (by decide)), (Or.inl ⟨v10020_, k2_1_, rfl⟩), rfl, (rg_w (rg_lit (by decide) : rg (0) (0) (0 : Int32)) (by decide) (by decide))⟩))
  · have hP : va_P D vwCl [(nm_, .inr (11, [.ref nknown_, .ref ntelling_, .ref nimages_, .ref nisImage_, .int mthrown_, .ref ntape_, .int mtaped_, .int mlength_, .int mhead_, .int mbegin_, .int mtoken_, .int mvalue_, .int mbad_, .int mbadPlace_, .int mfaultKind_, .int mfaultPlace_, .int mdeep_, .int mlawMany_, .int mlawAt_, .ref nstack_, .ref nasked_, .int mfell_, .int mfellIn_, .ref naside_, .int mstate_, .int mlanded_, .int mwaitFalls_, .int mwaitWeight_, .ref nfallsAfter_, .ref nfalling_, .ref ncomes_, .ref ngoesOn_, .ref nwayRow_, .ref nmany_, .ref nmanyThen_, .int mtoldLet_, .ref ntSort_, .ref ntMany_, .ref nnumbers_])), (nknown_, .inl (cy 0, 2260, .inl (fknown_)))] H := hP
    have hD := va_ca hP hD
    refine lv_if_eq (tgt := 29) hx hb dX11_isPlace_5 (by decide) (fun c20000005_ => ?_) (fun c20000005_ => rg_ne0 c20000005_ kr2_ (rg_lit (by decide) : rg (0) (0) (0 : Int32)))
    refine lv_iconst (v := 0) hx hb dX11_isPlace_29 (by decide) ?_
    exact rZ hX (by decide) hE hP hD hS dX11_isPlace_30 (by decide) (by decide) (Or.inr (Or.inl (⟨(rl_w k2_0_ (by decide) (by decide)), (Or.inl ⟨v10020_, k2_1_, rfl⟩), rfl, (rg_w (rg_lit (by decide) : rg (0) (0) (0 : Int32)) (by decide) (by decide))⟩)))
  · have hP : va_P D vwCl [(nm_, .inr (11, [.ref nknown_, .ref ntelling_, .ref nimages_, .ref nisImage_, .int mthrown_, .ref ntape_, .int mtaped_, .int mlength_, .int mhead_, .int mbegin_, .int mtoken_, .int mvalue_, .int mbad_, .int mbadPlace_, .int mfaultKind_, .int mfaultPlace_, .int mdeep_, .int mlawMany_, .int mlawAt_, .ref nstack_, .ref nasked_, .int mfell_, .int mfellIn_, .ref naside_, .int mstate_, .int mlanded_, .int mwaitFalls_, .int mwaitWeight_, .ref nfallsAfter_, .ref nfalling_, .ref ncomes_, .ref ngoesOn_, .ref nwayRow_, .ref nmany_, .ref nmanyThen_, .int mtoldLet_, .ref ntSort_, .ref ntMany_, .ref nnumbers_])), (nknown_, .inl (cy 0, 2260, .inl (fknown_)))] H := hP
    have hD := va_ca hP hD
    refine lv_if_eq (tgt := 29) hx hb dX11_isPlace_5 (by decide) (fun c30000005_ => rg_eqab c30000005_ kr2_ (rg_lit (by decide) : rg (0) (0) (0 : Int32)) (by decide)) (fun c30000005_ => ?_)
    refine lv_lload_n hx hb dX11_isPlace_8 rfl (lv_at hl 2 rfl) ?_
    refine lv_lconst (v := 0) hx hb dX11_isPlace_9 (by decide) ?_
    refine lv_aload_n hx hb dX11_isPlace_10 rfl (lv_at hl 0 rfl) ?_
    refine va_get (ci := 11) (v := .ref nknown_) (C := RX11) (T := TX11) (N := 39) hx hb htA in_X11 hown hK hP 0 rfl rfl 0 (by decide) (htA _ wd_1354) (fun _ h => h) rfl dX11_isPlace_11 ?_
    refine lv_iconst (v := 2) hx hb dX11_isPlace_14 (by decide) ?_
    refine va_iald hx hb hK hP 1 0 rfl rfl (in_lit (by decide)) dX11_isPlace_15 ?_
    refine lv_topi (fun v30010150_ ev30010150_ => ?_)
    have g1_ : rg (1) (9) v30010150_ := by rw [ev30010150_]; exact KX_l kb_2 rfknown_ (rg_lit (by decide) : rg (2) (2) (2 : Int32)) (by decide) (by decide)
    refine lv_iconst (v := 1) hx hb dX11_isPlace_16 (by decide) ?_
    refine lv_isub hx hb dX11_isPlace_17 ?_
    have g2_ : rg (0) (8) (v30010150_ - 1) := rg_sub g1_ (rg_lit (by decide) : rg (1) (1) (1 : Int32)) (by decide) (by decide) (by decide) (by decide)
    refine lv_i2l hx hb dX11_isPlace_18 rfl ?_
    have g3_ : rl (0) (8) ((v30010150_ - 1).toInt64) := rl_i2l g2_
    refine kSi (As := [.long l_, .long 0, .long ((v30010150_ - 1).toInt64)]) (rest := []) (wr := [(nm_, .inr (11, [.ref nknown_, .ref ntelling_, .ref nimages_, .ref nisImage_, .int mthrown_, .ref ntape_, .int mtaped_, .int mlength_, .int mhead_, .int mbegin_, .int mtoken_, .int mvalue_, .int mbad_, .int mbadPlace_, .int mfaultKind_, .int mfaultPlace_, .int mdeep_, .int mlawMany_, .int mlawAt_, .ref nstack_, .ref nasked_, .int mfell_, .int mfellIn_, .ref naside_, .int mstate_, .int mlanded_, .int mwaitFalls_, .int mwaitWeight_, .ref nfallsAfter_, .ref nfalling_, .ref ncomes_, .ref ngoesOn_, .ref nwayRow_, .ref nmany_, .ref nmanyThen_, .int mtoldLet_, .ref ntSort_, .ref ntMany_, .ref nnumbers_])), (nknown_, .inl (cy 0, 2260, .inl (fknown_)))]) hX hE (sf_X11_within_w l D cy l_ (0 : Int64) ((v30010150_ - 1).toInt64) ) (cwSA 3 htA wd_1483 wd_1481 wd_10 wd_1482 (by decide +kernel) ⟨by decide, by decide⟩) hP hD hS [] [0, 1] rfl rfl (by decide +kernel) rfl hl.1 rfl (Nat.le_of_ble_eq_true rfl) dX11_isPlace_19 (by decide) (fun v30010190_ W1 H locs hw hP hD hS => ?_)
    refine W.widen (k := 0) (n := 0) (by decide) (by decide) ?_
    rcases hw with ⟨k30000019_0_, k30000019_1_, k30000019_2_, k30000019_3_, rfl, kr30000019_⟩ | ⟨k30000019_0_, k30000019_1_, k30000019_2_, k30000019_3_, k30000019_4_, rfl, kr30000019_⟩ | ⟨k30000019_0_, k30000019_1_, k30000019_2_, rfl, kr30000019_⟩
    · have hP : va_P D vwCl [(nm_, .inr (11, [.ref nknown_, .ref ntelling_, .ref nimages_, .ref nisImage_, .int mthrown_, .ref ntape_, .int mtaped_, .int mlength_, .int mhead_, .int mbegin_, .int mtoken_, .int mvalue_, .int mbad_, .int mbadPlace_, .int mfaultKind_, .int mfaultPlace_, .int mdeep_, .int mlawMany_, .int mlawAt_, .ref nstack_, .ref nasked_, .int mfell_, .int mfellIn_, .ref naside_, .int mstate_, .int mlanded_, .int mwaitFalls_, .int mwaitWeight_, .ref nfallsAfter_, .ref nfalling_, .ref ncomes_, .ref ngoesOn_, .ref nwayRow_, .ref nmany_, .ref nmanyThen_, .int mtoldLet_, .ref ntSort_, .ref ntMany_, .ref nnumbers_])), (nknown_, .inl (cy 0, 2260, .inl (fknown_)))] H := hP
      have hD := va_ca hP hD
      have g4_ : rl (-9223372036854775808) (0) l_ := rl_le1 k30000019_2_ k30000019_0_ (rl_lit (by decide) : rl (0) (0) (0 : Int64)) (by decide)
      refine lv_if_eq (tgt := 29) hx hb dX11_isPlace_22 (by decide) (fun c40000022_ => ?_) (fun c40000022_ => rg_ne0 c40000022_ kr30000019_ (rg_lit (by decide) : rg (0) (0) (0 : Int32)))
      refine lv_iconst (v := 0) hx hb dX11_isPlace_29 (by decide) ?_
      exact rZ hX (by decide) hE hP hD hS dX11_isPlace_30 (by decide) (by decide) (Or.inr (Or.inr (Or.inl (⟨(rl_w k2_0_ (by decide) (by decide)), (rl_w g4_ (by decide) (by decide)), (Or.inl ⟨v10020_, v30010150_, v30010190_, k2_2_, ev30010150_, k30000019_3_, rfl⟩), rfl, (rg_w (rg_lit (by decide) : rg (0) (0) (0 : Int32)) (by decide) (by decide))⟩))))
    · have hP : va_P D vwCl [(nm_, .inr (11, [.ref nknown_, .ref ntelling_, .ref nimages_, .ref nisImage_, .int mthrown_, .ref ntape_, .int mtaped_, .int mlength_, .int mhead_, .int mbegin_, .int mtoken_, .int mvalue_, .int mbad_, .int mbadPlace_, .int mfaultKind_, .int mfaultPlace_, .int mdeep_, .int mlawMany_, .int mlawAt_, .ref nstack_, .ref nasked_, .int mfell_, .int mfellIn_, .ref naside_, .int mstate_, .int mlanded_, .int mwaitFalls_, .int mwaitWeight_, .ref nfallsAfter_, .ref nfalling_, .ref ncomes_, .ref ngoesOn_, .ref nwayRow_, .ref nmany_, .ref nmanyThen_, .int mtoldLet_, .ref ntSort_, .ref ntMany_, .ref nnumbers_])), (nknown_, .inl (cy 0, 2260, .inl (fknown_)))] H := hP
      have hD := va_ca hP hD
      have g5_ : rl (0) (9223372036854775807) l_ := rl_le2 k30000019_2_ (rl_lit (by decide) : rl (0) (0) (0 : Int64)) k30000019_0_ (by decide)
      refine lv_if_eq (tgt := 29) hx hb dX11_isPlace_22 (by decide) (fun c50000022_ => ?_) (fun c50000022_ => rg_ne0 c50000022_ kr30000019_ (rg_lit (by decide) : rg (0) (0) (0 : Int32)))
      refine lv_iconst (v := 0) hx hb dX11_isPlace_29 (by decide) ?_
      exact rZ hX (by decide) hE hP hD hS dX11_isPlace_30 (by decide) (by decide) (Or.inr (Or.inr (Or.inr (Or.inl (⟨(rl_w k2_0_ (by decide) (by decide)), (rl_w g5_ (by decide) (by decide)), (Or.inl ⟨v10020_, v30010150_, v30010190_, k2_2_, ev30010150_, k30000019_4_, rfl⟩), rfl, (rg_w (rg_lit (by decide) : rg (0) (0) (0 : Int32)) (by decide) (by decide))⟩)))))
    · have hP : va_P D vwCl [(nm_, .inr (11, [.ref nknown_, .ref ntelling_, .ref nimages_, .ref nisImage_, .int mthrown_, .ref ntape_, .int mtaped_, .int mlength_, .int mhead_, .int mbegin_, .int mtoken_, .int mvalue_, .int mbad_, .int mbadPlace_, .int mfaultKind_, .int mfaultPlace_, .int mdeep_, .int mlawMany_, .int mlawAt_, .ref nstack_, .ref nasked_, .int mfell_, .int mfellIn_, .ref naside_, .int mstate_, .int mlanded_, .int mwaitFalls_, .int mwaitWeight_, .ref nfallsAfter_, .ref nfalling_, .ref ncomes_, .ref ngoesOn_, .ref nwayRow_, .ref nmany_, .ref nmanyThen_, .int mtoldLet_, .ref ntSort_, .ref ntMany_, .ref nnumbers_])), (nknown_, .inl (cy 0, 2260, .inl (fknown_)))] H := hP
      have hD := va_ca hP hD
      have g6_ : rl (-9223372036854775808) (8) l_ := rl_le1 k30000019_0_ (rl_any _) g3_ (by decide)
      have g7_ : rl (0) (8) l_ := rl_le2 k30000019_1_ (rl_lit (by decide) : rl (0) (0) (0 : Int64)) g6_ (by decide)
      refine lv_if_eq (tgt := 29) hx hb dX11_isPlace_22 (by decide) (fun c60000022_ => rg_eqab c60000022_ kr30000019_ (rg_lit (by decide) : rg (0) (0) (0 : Int32)) (by decide)) (fun c60000022_ => ?_)
      refine lv_iconst (v := 1) hx hb dX11_isPlace_25 (by decide) ?_
      refine lv_goto (tgt := 30) hx hb dX11_isPlace_26 (by decide) ?_
      exact rZ hX (by decide) hE hP hD hS dX11_isPlace_30 (by decide) (by decide) (Or.inr (Or.inr (Or.inr (Or.inr (⟨(rl_w k2_0_ (by decide) (by decide)), (rl_w g7_ (by decide) (by decide)), ⟨k2_1_, lev_of rfknown_ g7_ (by decide) k30000019_0_ g1_ ev30010150_⟩, (Or.inl ⟨v10020_, v30010150_, v30010190_, k2_2_, ev30010150_, k30000019_2_, rfl⟩), rfl, (rg_w (rg_lit (by decide) : rg (1) (1) (1 : Int32)) (by decide) (by decide))⟩)))))
def R_X11_trayFault_e1 (t_ : Int32) (r : Int32) : Prop := (∃ (v10010_ : Int32), R_X11_isTray_w_e1 t_ v10010_ ∧ r = (1 : Int32)) ∨ False
def R_X11_trayFault_e2 (t_ : Int32) (r : Int32) : Prop := (∃ (v10010_ : Int32), R_X11_isTray_w_e2 t_ v10010_ ∧ r = (1 : Int32)) ∨ False
def R_X11_trayFault_e3 (t_ : Int32) (ftSort_ : Nat → Int32) (r : Int32) : Prop := (∃ (v10010_ : Int32) (v30010160_ : Int32), R_X11_isTray_w_e3 t_ v10010_ ∧ v30010160_ = ftSort_ t_.toNatClampNeg ∧ ¬ v30010160_ = ((-1) : Int32) ∧ r = (0 : Int32)) ∨ False
def R_X11_trayFault_e4 (t_ : Int32) (ftSort_ : Nat → Int32) (r : Int32) : Prop := (∃ (v10010_ : Int32) (v30010160_ : Int32), R_X11_isTray_w_e3 t_ v10010_ ∧ v30010160_ = ftSort_ t_.toNatClampNeg ∧ v30010160_ = ((-1) : Int32) ∧ r = (2 : Int32)) ∨ False
set_option maxHeartbeats 4000000 in
set_option maxRecDepth 100000 in
theorem sf_X11_trayFault (l : Launch) (D : va_G) (cy : Nat → ClassId) (nm_ : Nat) (nknown_ : Nat) (ntelling_ : Nat) (nimages_ : Nat) (nisImage_ : Nat) (mthrown_ : Int32) (ntape_ : Nat) (mtaped_ : Int32) (mlength_ : Int32) (mhead_ : Int32) (mbegin_ : Int32) (mtoken_ : Int32) (mvalue_ : Int32) (mbad_ : Int32) (mbadPlace_ : Int32) (mfaultKind_ : Int32) (mfaultPlace_ : Int32) (mdeep_ : Int32) (mlawMany_ : Int32) (mlawAt_ : Int32) (nstack_ : Nat) (nasked_ : Nat) (mfell_ : Int32) (mfellIn_ : Int32) (naside_ : Nat) (mstate_ : Int32) (mlanded_ : Int32) (mwaitFalls_ : Int32) (mwaitWeight_ : Int32) (nfallsAfter_ : Nat) (nfalling_ : Nat) (ncomes_ : Nat) (ngoesOn_ : Nat) (nwayRow_ : Nat) (nmany_ : Nat) (nmanyThen_ : Nat) (mtoldLet_ : Int32) (ntSort_ : Nat) (ntMany_ : Nat) (nnumbers_ : Nat) (ftSort_ : Nat → Int32) (t_ : Int32) (rmtaped_ : rg (0) (900) mtaped_) (rmlength_ : rg (0) (900) mlength_) (rmhead_ : rg (0) (900) mhead_) (rmbegin_ : rg (0) (900) mbegin_) (rftSort_ : ag (-1) (3) 4 ftSort_) : Ci l yX11_trayFault cX11_trayFault 2 (some .int) { frames := 2, cells := 0, slots := 0, locals := 45 } D cy [.ref nm_, .int t_] [(nm_, .inr (11, [.ref nknown_, .ref ntelling_, .ref nimages_, .ref nisImage_, .int mthrown_, .ref ntape_, .int mtaped_, .int mlength_, .int mhead_, .int mbegin_, .int mtoken_, .int mvalue_, .int mbad_, .int mbadPlace_, .int mfaultKind_, .int mfaultPlace_, .int mdeep_, .int mlawMany_, .int mlawAt_, .ref nstack_, .ref nasked_, .int mfell_, .int mfellIn_, .ref naside_, .int mstate_, .int mlanded_, .int mwaitFalls_, .int mwaitWeight_, .ref nfallsAfter_, .ref nfalling_, .ref ncomes_, .ref ngoesOn_, .ref nwayRow_, .ref nmany_, .ref nmanyThen_, .int mtoldLet_, .ref ntSort_, .ref ntMany_, .ref nnumbers_])), (ntSort_, .inl (cy 0, 4, .inl (ftSort_)))] (fun r W1 => (rg (-2147483648) (0) t_ ∧ R_X11_trayFault_e1 t_ r ∧ W1 = [(nm_, .inr (11, [.ref nknown_, .ref ntelling_, .ref nimages_, .ref nisImage_, .int mthrown_, .ref ntape_, .int mtaped_, .int mlength_, .int mhead_, .int mbegin_, .int mtoken_, .int mvalue_, .int mbad_, .int mbadPlace_, .int mfaultKind_, .int mfaultPlace_, .int mdeep_, .int mlawMany_, .int mlawAt_, .ref nstack_, .ref nasked_, .int mfell_, .int mfellIn_, .ref naside_, .int mstate_, .int mlanded_, .int mwaitFalls_, .int mwaitWeight_, .ref nfallsAfter_, .ref nfalling_, .ref ncomes_, .ref ngoesOn_, .ref nwayRow_, .ref nmany_, .ref nmanyThen_, .int mtoldLet_, .ref ntSort_, .ref ntMany_, .ref nnumbers_])), (ntSort_, .inl (cy 0, 4, .inl (ftSort_)))] ∧ rg (1) (1) r) ∨ (rg (3) (2147483647) t_ ∧ R_X11_trayFault_e2 t_ r ∧ W1 = [(nm_, .inr (11, [.ref nknown_, .ref ntelling_, .ref nimages_, .ref nisImage_, .int mthrown_, .ref ntape_, .int mtaped_, .int mlength_, .int mhead_, .int mbegin_, .int mtoken_, .int mvalue_, .int mbad_, .int mbadPlace_, .int mfaultKind_, .int mfaultPlace_, .int mdeep_, .int mlawMany_, .int mlawAt_, .ref nstack_, .ref nasked_, .int mfell_, .int mfellIn_, .ref naside_, .int mstate_, .int mlanded_, .int mwaitFalls_, .int mwaitWeight_, .ref nfallsAfter_, .ref nfalling_, .ref ncomes_, .ref ngoesOn_, .ref nwayRow_, .ref nmany_, .ref nmanyThen_, .int mtoldLet_, .ref ntSort_, .ref ntMany_, .ref nnumbers_])), (ntSort_, .inl (cy 0, 4, .inl (ftSort_)))] ∧ rg (1) (1) r) ∨ (rg (0) (3) t_ ∧ R_X11_trayFault_e3 t_ ftSort_ r ∧ W1 = [(nm_, .inr (11, [.ref nknown_, .ref ntelling_, .ref nimages_, .ref nisImage_, .int mthrown_, .ref ntape_, .int mtaped_, .int mlength_, .int mhead_, .int mbegin_, .int mtoken_, .int mvalue_, .int mbad_, .int mbadPlace_, .int mfaultKind_, .int mfaultPlace_, .int mdeep_, .int mlawMany_, .int mlawAt_, .ref nstack_, .ref nasked_, .int mfell_, .int mfellIn_, .ref naside_, .int mstate_, .int mlanded_, .int mwaitFalls_, .int mwaitWeight_, .ref nfallsAfter_, .ref nfalling_, .ref ncomes_, .ref ngoesOn_, .ref nwayRow_, .ref nmany_, .ref nmanyThen_, .int mtoldLet_, .ref ntSort_, .ref ntMany_, .ref nnumbers_])), (ntSort_, .inl (cy 0, 4, .inl (ftSort_)))] ∧ rg (0) (0) r) ∨ (rg (0) (3) t_ ∧ R_X11_trayFault_e4 t_ ftSort_ r ∧ W1 = [(nm_, .inr (11, [.ref nknown_, .ref ntelling_, .ref nimages_, .ref nisImage_, .int mthrown_, .ref ntape_, .int mtaped_, .int mlength_, .int mhead_, .int mbegin_, .int mtoken_, .int mvalue_, .int mbad_, .int mbadPlace_, .int mfaultKind_, .int mfaultPlace_, .int mdeep_, .int mlawMany_, .int mlawAt_, .ref nstack_, .ref nasked_, .int mfell_, .int mfellIn_, .ref naside_, .int mstate_, .int mlanded_, .int mwaitFalls_, .int mwaitWeight_, .ref nfallsAfter_, .ref nfalling_, .ref ncomes_, .ref ngoesOn_, .ref nwayRow_, .ref nmany_, .ref nmanyThen_, .int mtoldLet_, .ref ntSort_, .ref ntMany_, .ref nnumbers_])), (ntSort_, .inl (cy 0, 4, .inl (ftSort_)))] ∧ rg (2) (2) r)) := by
  refine Ci.of (by decide) (Nat.le_of_ble_eq_true rfl) ?_
  intro p e s m below meth c A ls hX hE hP hD hl
  obtain ⟨hx, hb, hr, hml, hown, htA, hlk⟩ := id hX
  have hK := hE.1
  have hS : va_S A s.heap s.heap [] := va_S.rf
  have hl : lv_has ls 2 [(0, .ref nm_), (1, .int t_)] := hl
  refine lv_iload_n hx hb dX11_trayFault_0 rfl (lv_at hl 1 rfl) ?_
  refine kSi (As := [.int t_]) (rest := []) (wr := [(nm_, .inr (11, [.ref nknown_, .ref ntelling_, .ref nimages_, .ref nisImage_, .int mthrown_, .ref ntape_, .int mtaped_, .int mlength_, .int mhead_, .int mbegin_, .int mtoken_, .int mvalue_, .int mbad_, .int mbadPlace_, .int mfaultKind_, .int mfaultPlace_, .int mdeep_, .int mlawMany_, .int mlawAt_, .ref nstack_, .ref nasked_, .int mfell_, .int mfellIn_, .ref naside_, .int mstate_, .int mlanded_, .int mwaitFalls_, .int mwaitWeight_, .ref nfallsAfter_, .ref nfalling_, .ref ncomes_, .ref ngoesOn_, .ref nwayRow_, .ref nmany_, .ref nmanyThen_, .int mtoldLet_, .ref ntSort_, .ref ntMany_, .ref nnumbers_])), (ntSort_, .inl (cy 0, 4, .inl (ftSort_)))]) hX hE (sf_X11_isTray_w l D cy t_ ) (cwSA 1 htA wd_1815 wd_1813 wd_10 wd_1814 (by decide +kernel) ⟨by decide, by decide⟩) hP hD hS [] [0, 1] rfl rfl (by decide +kernel) rfl hl.1 rfl (Nat.le_of_ble_eq_true rfl) dX11_trayFault_1 (by decide) (fun v10010_ W1 H locs hw hP hD hS => ?_)
  refine W.widen (k := 0) (n := 0) (by decide) (by decide) ?_
  rcases hw with ⟨k1_0_, k1_1_, rfl, kr1_⟩ | ⟨k1_0_, k1_1_, rfl, kr1_⟩ | ⟨k1_0_, k1_1_, rfl, kr1_⟩
  · have hP : va_P D vwCl [(nm_, .inr (11, [.ref nknown_, .ref ntelling_, .ref nimages_, .ref nisImage_, .int mthrown_, .ref ntape_, .int mtaped_, .int mlength_, .int mhead_, .int mbegin_, .int mtoken_, .int mvalue_, .int mbad_, .int mbadPlace_, .int mfaultKind_, .int mfaultPlace_, .int mdeep_, .int mlawMany_, .int mlawAt_, .ref nstack_, .ref nasked_, .int mfell_, .int mfellIn_, .ref naside_, .int mstate_, .int mlanded_, .int mwaitFalls_, .int mwaitWeight_, .ref nfallsAfter_, .ref nfalling_, .ref ncomes_, .ref ngoesOn_, .ref nwayRow_, .ref nmany_, .ref nmanyThen_, .int mtoldLet_, .ref ntSort_, .ref ntMany_, .ref nnumbers_])), (ntSort_, .inl (cy 0, 4, .inl (ftSort_)))] H := hP
    have hD := va_ca hP hD
    refine lv_if_ne (tgt := 11) hx hb dX11_trayFault_4 (by decide) (fun c10000004_ => rg_ne0 c10000004_ kr1_ (rg_lit (by decide) : rg (0) (0) (0 : Int32))) (fun c10000004_ => ?_)
    refine lv_iconst (v := 1) hx hb dX11_trayFault_7 (by decide) ?_
    refine lv_goto (tgt := 26) hx hb dX11_trayFault_8 (by decide) ?_
    exact rI hX hE hP hD hS dX11_trayFault_26 (by decide) (by decide) (Or.inl (⟨(rg_w k1_0_ (by decide) (by decide)), (Or.inl ⟨v10010_, k1_1_, rfl⟩), rfl, (rg_w (rg_lit (by decide) : rg (1) (1) (1 : Int32)) (by decide) (by decide))⟩))
  · have hP : va_P D vwCl [(nm_, .inr (11, [.ref nknown_, .ref ntelling_, .ref nimages_, .ref nisImage_, .int mthrown_, .ref ntape_, .int mtaped_, .int mlength_, .int mhead_, .int mbegin_, .int mtoken_, .int mvalue_, .int mbad_, .int mbadPlace_, .int mfaultKind_, .int mfaultPlace_, .int mdeep_, .int mlawMany_, .int mlawAt_, .ref nstack_, .ref nasked_, .int mfell_, .int mfellIn_, .ref naside_, .int mstate_, .int mlanded_, .int mwaitFalls_, .int mwaitWeight_, .ref nfallsAfter_, .ref nfalling_, .ref ncomes_, .ref ngoesOn_, .ref nwayRow_, .ref nmany_, .ref nmanyThen_, .int mtoldLet_, .ref ntSort_, .ref ntMany_, .ref nnumbers_])), (ntSort_, .inl (cy 0, 4, .inl (ftSort_)))] H := hP
    have hD := va_ca hP hD
    refine lv_if_ne (tgt := 11) hx hb dX11_trayFault_4 (by decide) (fun c20000004_ => rg_ne0 c20000004_ kr1_ (rg_lit (by decide) : rg (0) (0) (0 : Int32))) (fun c20000004_ => ?_)
    refine lv_iconst (v := 1) hx hb dX11_trayFault_7 (by decide) ?_
    refine lv_goto (tgt := 26) hx hb dX11_trayFault_8 (by decide) ?_
    exact rI hX hE hP hD hS dX11_trayFault_26 (by decide) (by decide) (Or.inr (Or.inl (⟨(rg_w k1_0_ (by decide) (by decide)), (Or.inl ⟨v10010_, k1_1_, rfl⟩), rfl, (rg_w (rg_lit (by decide) : rg (1) (1) (1 : Int32)) (by decide) (by decide))⟩)))
  · have hP : va_P D vwCl [(nm_, .inr (11, [.ref nknown_, .ref ntelling_, .ref nimages_, .ref nisImage_, .int mthrown_, .ref ntape_, .int mtaped_, .int mlength_, .int mhead_, .int mbegin_, .int mtoken_, .int mvalue_, .int mbad_, .int mbadPlace_, .int mfaultKind_, .int mfaultPlace_, .int mdeep_, .int mlawMany_, .int mlawAt_, .ref nstack_, .ref nasked_, .int mfell_, .int mfellIn_, .ref naside_, .int mstate_, .int mlanded_, .int mwaitFalls_, .int mwaitWeight_, .ref nfallsAfter_, .ref nfalling_, .ref ncomes_, .ref ngoesOn_, .ref nwayRow_, .ref nmany_, .ref nmanyThen_, .int mtoldLet_, .ref ntSort_, .ref ntMany_, .ref nnumbers_])), (ntSort_, .inl (cy 0, 4, .inl (ftSort_)))] H := hP
    have hD := va_ca hP hD
    refine lv_if_ne (tgt := 11) hx hb dX11_trayFault_4 (by decide) (fun c30000004_ => ?_) (fun c30000004_ => rg_eqab c30000004_ kr1_ (rg_lit (by decide) : rg (0) (0) (0 : Int32)) (by decide))
    refine lv_aload_n hx hb dX11_trayFault_11 rfl (lv_at hl 0 rfl) ?_
    refine va_get (ci := 11) (v := .ref ntSort_) (C := RX11) (T := TX11) (N := 39) hx hb htA in_X11 hown hK hP 0 rfl rfl 36 (by decide) (htA _ wd_1390) (fun _ h => h) rfl dX11_trayFault_12 ?_
    refine lv_iload_n hx hb dX11_trayFault_15 rfl (lv_at hl 1 rfl) ?_
    refine va_iald hx hb hK hP 1 0 rfl rfl (rg_in k1_0_ (by decide) (by decide)) dX11_trayFault_16 ?_
    refine lv_topi (fun v30010160_ ev30010160_ => ?_)
    have g1_ : rg (-1) (3) v30010160_ := by rw [ev30010160_]; exact ag_at rftSort_ (rg_in k1_0_ (by decide) (by decide))
    refine lv_iconst (v := (-1)) hx hb dX11_trayFault_17 (by decide) ?_
    refine lv_icmp_ne (tgt := 25) hx hb dX11_trayFault_18 (by decide) (fun c30000018_ => ?_) (fun c30000018_ => ?_)
    · have g2_ : rg (0) (3) v30010160_ := rg_ne1 c30000018_ g1_ (by decide) (by decide)
      refine lv_iconst (v := 0) hx hb dX11_trayFault_25 (by decide) ?_
      exact rI hX hE hP hD hS dX11_trayFault_26 (by decide) (by decide) (Or.inr (Or.inr (Or.inl (⟨(rg_w k1_0_ (by decide) (by decide)), (Or.inl ⟨v10010_, v30010160_, k1_1_, ev30010160_, c30000018_, rfl⟩), rfl, (rg_w (rg_lit (by decide) : rg (0) (0) (0 : Int32)) (by decide) (by decide))⟩))))
    · have g3_ : rg (-1) (-1) v30010160_ := rg_eq c30000018_ (rg_lit (by decide) : rg (-1) (-1) ((-1) : Int32))
      refine lv_iconst (v := 2) hx hb dX11_trayFault_21 (by decide) ?_
      refine lv_goto (tgt := 26) hx hb dX11_trayFault_22 (by decide) ?_
      exact rI hX hE hP hD hS dX11_trayFault_26 (by decide) (by decide) (Or.inr (Or.inr (Or.inr (⟨(rg_w k1_0_ (by decide) (by decide)), (Or.inl ⟨v10010_, v30010160_, k1_1_, ev30010160_, c30000018_, rfl⟩), rfl, (rg_w (rg_lit (by decide) : rg (2) (2) (2 : Int32)) (by decide) (by decide))⟩))))
def R_X11_whyTake_j3 (v30010270_ : Int32) (fknown_ : Nat → Int32) (t_ : Int64) : Prop := (v30010270_ = (0 : Int32)) ∨ (∃ (v30010410_ : Int32) (v30010510_ : Int32) (v30010520_ : Int32), ¬ (v30010270_ = (0 : Int32)) ∧ v30010410_ = fknown_ (24 + t_.toInt32).toNatClampNeg ∧ v30010510_ = fknown_ (16 + t_.toInt32).toNatClampNeg ∧ R_X11_lying_e fknown_ v30010510_ v30010520_ ∧ (v30010520_ - 1) ≤ v30010410_) ∨ False
def R_X11_whyTake_j2 (v30010270_ : Int32) (fknown_ : Nat → Int32) (t_ : Int64) (v30206500_ : Int32) : Prop := (R_X11_whyTake_j3 v30010270_ fknown_ t_ ∧ v30206500_ = (0 : Int32)) ∨ (∃ (v30010410_ : Int32) (v30010510_ : Int32) (v30010520_ : Int32), ¬ (v30010270_ = (0 : Int32)) ∧ v30010410_ = fknown_ (24 + t_.toInt32).toNatClampNeg ∧ v30010510_ = fknown_ (16 + t_.toInt32).toNatClampNeg ∧ R_X11_lying_e fknown_ v30010510_ v30010520_ ∧ ¬ ((v30010520_ - 1) ≤ v30010410_) ∧ v30206500_ = (3 : Int32)) ∨ False
def R_X11_whyTake_e (fknown_ : Nat → Int32) (t_ : Int64) (r : Int32) : Prop := (∃ (v10020_ : Int32), R_X11_isThing_w_e1 fknown_ t_ v10020_ ∧ r = (1 : Int32)) ∨ (∃ (v10020_ : Int32), R_X11_isThing_w_e2 fknown_ t_ v10020_ ∧ r = (1 : Int32)) ∨ (∃ (v10020_ : Int32) (v30010160_ : Int32) (v30010270_ : Int32) (v30206500_ : Int32), R_X11_isThing_w_e3 fknown_ t_ v10020_ ∧ R_X11_is_e fknown_ t_.toInt32 ((0 : Int32)) v30010160_ ∧ v30010160_ = (0 : Int32) ∧ R_X11_is_e fknown_ t_.toInt32 ((2 : Int32)) v30010270_ ∧ R_X11_whyTake_j2 v30010270_ fknown_ t_ v30206500_ ∧ r = v30206500_) ∨ (∃ (v10020_ : Int32) (v30010160_ : Int32), R_X11_isThing_w_e3 fknown_ t_ v10020_ ∧ R_X11_is_e fknown_ t_.toInt32 ((0 : Int32)) v30010160_ ∧ ¬ (v30010160_ = (0 : Int32)) ∧ r = (2 : Int32)) ∨ False
set_option maxHeartbeats 4000000 in
set_option maxRecDepth 100000 in
theorem sf_X11_whyTake (l : Launch) (D : va_G) (cy : Nat → ClassId) (nm_ : Nat) (nknown_ : Nat) (ntelling_ : Nat) (nimages_ : Nat) (nisImage_ : Nat) (mthrown_ : Int32) (ntape_ : Nat) (mtaped_ : Int32) (mlength_ : Int32) (mhead_ : Int32) (mbegin_ : Int32) (mtoken_ : Int32) (mvalue_ : Int32) (mbad_ : Int32) (mbadPlace_ : Int32) (mfaultKind_ : Int32) (mfaultPlace_ : Int32) (mdeep_ : Int32) (mlawMany_ : Int32) (mlawAt_ : Int32) (nstack_ : Nat) (nasked_ : Nat) (mfell_ : Int32) (mfellIn_ : Int32) (naside_ : Nat) (mstate_ : Int32) (mlanded_ : Int32) (mwaitFalls_ : Int32) (mwaitWeight_ : Int32) (nfallsAfter_ : Nat) (nfalling_ : Nat) (ncomes_ : Nat) (ngoesOn_ : Nat) (nwayRow_ : Nat) (nmany_ : Nat) (nmanyThen_ : Nat) (mtoldLet_ : Int32) (ntSort_ : Nat) (ntMany_ : Nat) (nnumbers_ : Nat) (fknown_ : Nat → Int32) (t_ : Int64) (C_ : Int) (L_ : Int) (hb_ : Int) (ha_ : Int) (hc_ : Int) (hha_ : -2000000 ≤ ha_) (hhc_ : hc_ ≤ 4000000) (hhb_ : hb_ ≤ 1000000) (rmtaped_ : rg (0) (900) mtaped_) (rmlength_ : rg (0) (900) mlength_) (rmhead_ : rg (0) (900) mhead_) (rmbegin_ : rg (0) (900) mbegin_) (rfknown_ : KX C_ L_ ha_ hc_ hb_ fknown_) : Ci l yX11_whyTake cX11_whyTake 4 (some .int) { frames := 2, cells := 0, slots := 0, locals := 47 } D cy [.ref nm_, .long t_] [(nm_, .inr (11, [.ref nknown_, .ref ntelling_, .ref nimages_, .ref nisImage_, .int mthrown_, .ref ntape_, .int mtaped_, .int mlength_, .int mhead_, .int mbegin_, .int mtoken_, .int mvalue_, .int mbad_, .int mbadPlace_, .int mfaultKind_, .int mfaultPlace_, .int mdeep_, .int mlawMany_, .int mlawAt_, .ref nstack_, .ref nasked_, .int mfell_, .int mfellIn_, .ref naside_, .int mstate_, .int mlanded_, .int mwaitFalls_, .int mwaitWeight_, .ref nfallsAfter_, .ref nfalling_, .ref ncomes_, .ref ngoesOn_, .ref nwayRow_, .ref nmany_, .ref nmanyThen_, .int mtoldLet_, .ref ntSort_, .ref ntMany_, .ref nnumbers_])), (nknown_, .inl (cy 0, 2260, .inl (fknown_)))] (fun r W1 => R_X11_whyTake_e fknown_ t_ r ∧ W1 = [(nm_, .inr (11, [.ref nknown_, .ref ntelling_, .ref nimages_, .ref nisImage_, .int mthrown_, .ref ntape_, .int mtaped_, .int mlength_, .int mhead_, .int mbegin_, .int mtoken_, .int mvalue_, .int mbad_, .int mbadPlace_, .int mfaultKind_, .int mfaultPlace_, .int mdeep_, .int mlawMany_, .int mlawAt_, .ref nstack_, .ref nasked_, .int mfell_, .int mfellIn_, .ref naside_, .int mstate_, .int mlanded_, .int mwaitFalls_, .int mwaitWeight_, .ref nfallsAfter_, .ref nfalling_, .ref ncomes_, .ref ngoesOn_, .ref nwayRow_, .ref nmany_, .ref nmanyThen_, .int mtoldLet_, .ref ntSort_, .ref ntMany_, .ref nnumbers_])), (nknown_, .inl (cy 0, 2260, .inl (fknown_)))] ∧ rg (0) (3) r) := by
  refine Ci.of (by decide) (Nat.le_of_ble_eq_true rfl) ?_
  intro p e s m below meth c A ls hX hE hP hD hl
  obtain ⟨hx, hb, hr, hml, hown, htA, hlk⟩ := id hX
  have hK := hE.1
  have hS : va_S A s.heap s.heap [] := va_S.rf
  have hl : lv_has ls 4 [(0, .ref nm_), (1, .long t_)] := hl
  refine lv_aload_n hx hb dX11_whyTake_0 rfl (lv_at hl 0 rfl) ?_
  refine lv_lload_n hx hb dX11_whyTake_1 rfl (lv_at hl 1 rfl) ?_
  refine kVi (As := [.long t_]) (rest := []) (wr := []) hX hE (sf_X11_isThing_w l D cy nm_ nknown_ ntelling_ nimages_ nisImage_ mthrown_ ntape_ mtaped_ mlength_ mhead_ mbegin_ mtoken_ mvalue_ mbad_ mbadPlace_ mfaultKind_ mfaultPlace_ mdeep_ mlawMany_ mlawAt_ nstack_ nasked_ mfell_ mfellIn_ naside_ mstate_ mlanded_ mwaitFalls_ mwaitWeight_ nfallsAfter_ nfalling_ ncomes_ ngoesOn_ nwayRow_ nmany_ nmanyThen_ mtoldLet_ ntSort_ ntMany_ nnumbers_ fknown_ t_ C_ L_ hb_ ha_ hc_ (by omega) (by omega) (by omega) (rg_w rmtaped_ (by decide) (by decide)) (rg_w rmlength_ (by decide) (by decide)) (rg_w rmhead_ (by decide) (by decide)) (rg_w rmbegin_ (by decide) (by decide)) rfknown_) (cwVA 1 htA wd_1661 wd_1658 wd_10 wd_1660 wp_73 (by decide +kernel) ⟨by decide, by decide⟩) hP hD hS [0, 1] [] rfl rfl (by decide +kernel) 0 rfl rfl rfl rfl hl.1 rfl (Nat.le_of_ble_eq_true rfl) dX11_whyTake_2 (by decide) (fun v10020_ W1 H locs hw hP hD hS => ?_)
  refine W.widen (k := 0) (n := 0) (by decide) (by decide) ?_
  rcases hw with ⟨k2_0_, k2_1_, rfl, kr2_⟩ | ⟨k2_0_, k2_1_, rfl, kr2_⟩ | ⟨k2_0_, k2_1_, k2_2_, rfl, kr2_⟩
  · have hP : va_P D vwCl [(nm_, .inr (11, [.ref nknown_, .ref ntelling_, .ref nimages_, .ref nisImage_, .int mthrown_, .ref ntape_, .int mtaped_, .int mlength_, .int mhead_, .int mbegin_, .int mtoken_, .int mvalue_, .int mbad_, .int mbadPlace_, .int mfaultKind_, .int mfaultPlace_, .int mdeep_, .int mlawMany_, .int mlawAt_, .ref nstack_, .ref nasked_, .int mfell_, .int mfellIn_, .ref naside_, .int mstate_, .int mlanded_, .int mwaitFalls_, .int mwaitWeight_, .ref nfallsAfter_, .ref nfalling_, .ref ncomes_, .ref ngoesOn_, .ref nwayRow_, .ref nmany_, .ref nmanyThen_, .int mtoldLet_, .ref ntSort_, .ref ntMany_, .ref nnumbers_])), (nknown_, .inl (cy 0, 2260, .inl (fknown_)))] H := hP
    have hD := va_ca hP hD
    refine lv_if_ne (tgt := 10) hx hb dX11_whyTake_5 (by decide) (fun c10000005_ => rg_ne0 c10000005_ kr2_ (rg_lit (by decide) : rg (0) (0) (0 : Int32))) (fun c10000005_ => ?_)
    refine lv_iconst (v := 1) hx hb dX11_whyTake_8 (by decide) ?_
    exact rI hX hE hP hD hS dX11_whyTake_9 (by decide) (by decide) ⟨(Or.inl ⟨v10020_, k2_1_, rfl⟩), rfl, (rg_w (rg_lit (by decide) : rg (1) (1) (1 : Int32)) (by decide) (by decide))⟩
  · have hP : va_P D vwCl [(nm_, .inr (11, [.ref nknown_, .ref ntelling_, .ref nimages_, .ref nisImage_, .int mthrown_, .ref ntape_, .int mtaped_, .int mlength_, .int mhead_, .int mbegin_, .int mtoken_, .int mvalue_, .int mbad_, .int mbadPlace_, .int mfaultKind_, .int mfaultPlace_, .int mdeep_, .int mlawMany_, .int mlawAt_, .ref nstack_, .ref nasked_, .int mfell_, .int mfellIn_, .ref naside_, .int mstate_, .int mlanded_, .int mwaitFalls_, .int mwaitWeight_, .ref nfallsAfter_, .ref nfalling_, .ref ncomes_, .ref ngoesOn_, .ref nwayRow_, .ref nmany_, .ref nmanyThen_, .int mtoldLet_, .ref ntSort_, .ref ntMany_, .ref nnumbers_])), (nknown_, .inl (cy 0, 2260, .inl (fknown_)))] H := hP
    have hD := va_ca hP hD
    refine lv_if_ne (tgt := 10) hx hb dX11_whyTake_5 (by decide) (fun c20000005_ => rg_ne0 c20000005_ kr2_ (rg_lit (by decide) : rg (0) (0) (0 : Int32))) (fun c20000005_ => ?_)
    refine lv_iconst (v := 1) hx hb dX11_whyTake_8 (by decide) ?_
    exact rI hX hE hP hD hS dX11_whyTake_9 (by decide) (by decide) ⟨(Or.inr (Or.inl ⟨v10020_, k2_1_, rfl⟩)), rfl, (rg_w (rg_lit (by decide) : rg (1) (1) (1 : Int32)) (by decide) (by decide))⟩
  · have hP : va_P D vwCl [(nm_, .inr (11, [.ref nknown_, .ref ntelling_, .ref nimages_, .ref nisImage_, .int mthrown_, .ref ntape_, .int mtaped_, .int mlength_, .int mhead_, .int mbegin_, .int mtoken_, .int mvalue_, .int mbad_, .int mbadPlace_, .int mfaultKind_, .int mfaultPlace_, .int mdeep_, .int mlawMany_, .int mlawAt_, .ref nstack_, .ref nasked_, .int mfell_, .int mfellIn_, .ref naside_, .int mstate_, .int mlanded_, .int mwaitFalls_, .int mwaitWeight_, .ref nfallsAfter_, .ref nfalling_, .ref ncomes_, .ref ngoesOn_, .ref nwayRow_, .ref nmany_, .ref nmanyThen_, .int mtoldLet_, .ref ntSort_, .ref ntMany_, .ref nnumbers_])), (nknown_, .inl (cy 0, 2260, .inl (fknown_)))] H := hP
    have hD := va_ca hP hD
    refine lv_if_ne (tgt := 10) hx hb dX11_whyTake_5 (by decide) (fun c30000005_ => ?_) (fun c30000005_ => rg_eqab c30000005_ kr2_ (rg_lit (by decide) : rg (0) (0) (0 : Int32)) (by decide))
    refine lv_lload_n hx hb dX11_whyTake_10 rfl (lv_at hl 1 rfl) ?_
    refine lv_l2i hx hb dX11_whyTake_11 rfl ?_
    have g1_ : rg (0) (7) t_.toInt32 := rl_l2i k2_0_ (by decide) (by decide)
    refine lv_istore_n (lv' := [(3, .int t_.toInt32), (0, .ref nm_), (1, .long t_)]) hx hb dX11_whyTake_12 rfl hl (by decide) rfl (fun ls hl => ?_)
    refine lv_aload_n hx hb dX11_whyTake_13 rfl (lv_at hl 1 rfl) ?_
    refine lv_iload_n hx hb dX11_whyTake_14 rfl (lv_at hl 0 rfl) ?_
    refine lv_iconst (v := 0) hx hb dX11_whyTake_15 (by decide) ?_
    refine kVi (As := [.int t_.toInt32, .int 0]) (rest := []) (wr := []) hX hE (sf_X11_is l D cy nm_ nknown_ ntelling_ nimages_ nisImage_ mthrown_ ntape_ mtaped_ mlength_ mhead_ mbegin_ mtoken_ mvalue_ mbad_ mbadPlace_ mfaultKind_ mfaultPlace_ mdeep_ mlawMany_ mlawAt_ nstack_ nasked_ mfell_ mfellIn_ naside_ mstate_ mlanded_ mwaitFalls_ mwaitWeight_ nfallsAfter_ nfalling_ ncomes_ ngoesOn_ nwayRow_ nmany_ nmanyThen_ mtoldLet_ ntSort_ ntMany_ nnumbers_ fknown_ t_.toInt32 (0 : Int32) C_ L_ hb_ ha_ hc_ (by omega) (by omega) (by omega) (rg_w rmtaped_ (by decide) (by decide)) (rg_w rmlength_ (by decide) (by decide)) (rg_w rmhead_ (by decide) (by decide)) (rg_w rmbegin_ (by decide) (by decide)) (rg_w g1_ (by decide) (by decide)) rfknown_) (cwVA 2 htA wd_1649 wd_1646 wd_10 wd_1648 wp_72 (by decide +kernel) ⟨by decide, by decide⟩) hP hD hS [0, 1] [] rfl rfl (by decide +kernel) 0 rfl rfl rfl rfl hl.1 rfl (Nat.le_of_ble_eq_true rfl) dX11_whyTake_16 (by decide) (fun v30010160_ W1 H locs hw hP hD hS => ?_)
    refine W.widen (k := 0) (n := 0) (by decide) (by decide) ?_
    obtain ⟨k30000016_0_, rfl, kr30000016_⟩ := hw
    have hP : va_P D vwCl [(nm_, .inr (11, [.ref nknown_, .ref ntelling_, .ref nimages_, .ref nisImage_, .int mthrown_, .ref ntape_, .int mtaped_, .int mlength_, .int mhead_, .int mbegin_, .int mtoken_, .int mvalue_, .int mbad_, .int mbadPlace_, .int mfaultKind_, .int mfaultPlace_, .int mdeep_, .int mlawMany_, .int mlawAt_, .ref nstack_, .ref nasked_, .int mfell_, .int mfellIn_, .ref naside_, .int mstate_, .int mlanded_, .int mwaitFalls_, .int mwaitWeight_, .ref nfallsAfter_, .ref nfalling_, .ref ncomes_, .ref ngoesOn_, .ref nwayRow_, .ref nmany_, .ref nmanyThen_, .int mtoldLet_, .ref ntSort_, .ref ntMany_, .ref nnumbers_])), (nknown_, .inl (cy 0, 2260, .inl (fknown_)))] H := hP
    have hD := va_ca hP hD
    refine lv_if_eq (tgt := 24) hx hb dX11_whyTake_19 (by decide) (fun c30000019_ => ?_) (fun c30000019_ => ?_)
    · have g2_ : rg (0) (0) v30010160_ := rg_eq c30000019_ (rg_lit (by decide) : rg (0) (0) (0 : Int32))
      refine lv_aload_n hx hb dX11_whyTake_24 rfl (lv_at hl 1 rfl) ?_
      refine lv_iload_n hx hb dX11_whyTake_25 rfl (lv_at hl 0 rfl) ?_
      refine lv_iconst (v := 2) hx hb dX11_whyTake_26 (by decide) ?_
      refine kVi (As := [.int t_.toInt32, .int 2]) (rest := []) (wr := []) hX hE (sf_X11_is l D cy nm_ nknown_ ntelling_ nimages_ nisImage_ mthrown_ ntape_ mtaped_ mlength_ mhead_ mbegin_ mtoken_ mvalue_ mbad_ mbadPlace_ mfaultKind_ mfaultPlace_ mdeep_ mlawMany_ mlawAt_ nstack_ nasked_ mfell_ mfellIn_ naside_ mstate_ mlanded_ mwaitFalls_ mwaitWeight_ nfallsAfter_ nfalling_ ncomes_ ngoesOn_ nwayRow_ nmany_ nmanyThen_ mtoldLet_ ntSort_ ntMany_ nnumbers_ fknown_ t_.toInt32 (2 : Int32) C_ L_ hb_ ha_ hc_ (by omega) (by omega) (by omega) (rg_w rmtaped_ (by decide) (by decide)) (rg_w rmlength_ (by decide) (by decide)) (rg_w rmhead_ (by decide) (by decide)) (rg_w rmbegin_ (by decide) (by decide)) (rg_w g1_ (by decide) (by decide)) rfknown_) (cwVA 2 htA wd_1649 wd_1646 wd_10 wd_1648 wp_72 (by decide +kernel) ⟨by decide, by decide⟩) hP hD hS [0, 1] [] rfl rfl (by decide +kernel) 0 rfl rfl rfl rfl hl.1 rfl (Nat.le_of_ble_eq_true rfl) dX11_whyTake_27 (by decide) (fun v30010270_ W1 H locs hw hP hD hS => ?_)
      refine W.widen (k := 0) (n := 0) (by decide) (by decide) ?_
      obtain ⟨k30000027_0_, rfl, kr30000027_⟩ := hw
      have hP : va_P D vwCl [(nm_, .inr (11, [.ref nknown_, .ref ntelling_, .ref nimages_, .ref nisImage_, .int mthrown_, .ref ntape_, .int mtaped_, .int mlength_, .int mhead_, .int mbegin_, .int mtoken_, .int mvalue_, .int mbad_, .int mbadPlace_, .int mfaultKind_, .int mfaultPlace_, .int mdeep_, .int mlawMany_, .int mlawAt_, .ref nstack_, .ref nasked_, .int mfell_, .int mfellIn_, .ref naside_, .int mstate_, .int mlanded_, .int mwaitFalls_, .int mwaitWeight_, .ref nfallsAfter_, .ref nfalling_, .ref ncomes_, .ref ngoesOn_, .ref nwayRow_, .ref nmany_, .ref nmanyThen_, .int mtoldLet_, .ref ntSort_, .ref ntMany_, .ref nnumbers_])), (nknown_, .inl (cy 0, 2260, .inl (fknown_)))] H := hP
      have hD := va_ca hP hD
      refine joinT (D := D) (A := A) (pc := 65) (mL := 4) (τ := Int32) (WS := fun i => [(nm_, .inr (11, [.ref nknown_, .ref ntelling_, .ref nimages_, .ref nisImage_, .int mthrown_, .ref ntape_, .int mtaped_, .int mlength_, .int mhead_, .int mbegin_, .int mtoken_, .int mvalue_, .int mbad_, .int mbadPlace_, .int mfaultKind_, .int mfaultPlace_, .int mdeep_, .int mlawMany_, .int mlawAt_, .ref nstack_, .ref nasked_, .int mfell_, .int mfellIn_, .ref naside_, .int mstate_, .int mlanded_, .int mwaitFalls_, .int mwaitWeight_, .ref nfallsAfter_, .ref nfalling_, .ref ncomes_, .ref ngoesOn_, .ref nwayRow_, .ref nmany_, .ref nmanyThen_, .int mtoldLet_, .ref ntSort_, .ref ntMany_, .ref nnumbers_])), (nknown_, .inl (cy 0, 2260, .inl (fknown_)))]) (LV := fun i => [(3, .int t_.toInt32), (0, .ref nm_), (1, .long t_)]) (ST := fun i => [.int i]) (cells := 0) (slots := 0) (fun i => rg (0) (3) i ∧ R_X11_whyTake_j2 v30010270_ fknown_ t_ i) (fun v30206500_ H locs ls hI hP hD hS hl => ?_) (fun j65_ => ?_)
      · have hI : rg (0) (3) v30206500_ ∧ R_X11_whyTake_j2 v30010270_ fknown_ t_ v30206500_ := hI
        obtain ⟨rv30206500_, hR2_⟩ := hI
        have hP : va_P D vwCl [(nm_, .inr (11, [.ref nknown_, .ref ntelling_, .ref nimages_, .ref nisImage_, .int mthrown_, .ref ntape_, .int mtaped_, .int mlength_, .int mhead_, .int mbegin_, .int mtoken_, .int mvalue_, .int mbad_, .int mbadPlace_, .int mfaultKind_, .int mfaultPlace_, .int mdeep_, .int mlawMany_, .int mlawAt_, .ref nstack_, .ref nasked_, .int mfell_, .int mfellIn_, .ref naside_, .int mstate_, .int mlanded_, .int mwaitFalls_, .int mwaitWeight_, .ref nfallsAfter_, .ref nfalling_, .ref ncomes_, .ref ngoesOn_, .ref nwayRow_, .ref nmany_, .ref nmanyThen_, .int mtoldLet_, .ref ntSort_, .ref ntMany_, .ref nnumbers_])), (nknown_, .inl (cy 0, 2260, .inl (fknown_)))] H := hP
        have hD := va_ca hP hD
        have hl : lv_has ls 4 [(3, .int t_.toInt32), (0, .ref nm_), (1, .long t_)] := hl
        exact rI hX hE hP hD hS dX11_whyTake_65 (by decide) (by decide) ⟨(Or.inr (Or.inr (Or.inl ⟨v10020_, v30010160_, v30010270_, v30206500_, k2_2_, k30000016_0_, c30000019_, k30000027_0_, hR2_, rfl⟩))), rfl, (rg_w rv30206500_ (by decide) (by decide))⟩
      refine joinT (D := D) (A := A) (pc := 64) (mL := 4) (τ := Unit) (WS := fun i => [(nm_, .inr (11, [.ref nknown_, .ref ntelling_, .ref nimages_, .ref nisImage_, .int mthrown_, .ref ntape_, .int mtaped_, .int mlength_, .int mhead_, .int mbegin_, .int mtoken_, .int mvalue_, .int mbad_, .int mbadPlace_, .int mfaultKind_, .int mfaultPlace_, .int mdeep_, .int mlawMany_, .int mlawAt_, .ref nstack_, .ref nasked_, .int mfell_, .int mfellIn_, .ref naside_, .int mstate_, .int mlanded_, .int mwaitFalls_, .int mwaitWeight_, .ref nfallsAfter_, .ref nfalling_, .ref ncomes_, .ref ngoesOn_, .ref nwayRow_, .ref nmany_, .ref nmanyThen_, .int mtoldLet_, .ref ntSort_, .ref ntMany_, .ref nnumbers_])), (nknown_, .inl (cy 0, 2260, .inl (fknown_)))]) (LV := fun i => [(3, .int t_.toInt32), (0, .ref nm_), (1, .long t_)]) (ST := fun i => []) (cells := 0) (slots := 0) (fun i => R_X11_whyTake_j3 v30010270_ fknown_ t_) (fun u0_ H locs ls hI hP hD hS hl => ?_) (fun j64_ => ?_)
      · have hI : R_X11_whyTake_j3 v30010270_ fknown_ t_ := hI
        have hR3_ := hI
        have hP : va_P D vwCl [(nm_, .inr (11, [.ref nknown_, .ref ntelling_, .ref nimages_, .ref nisImage_, .int mthrown_, .ref ntape_, .int mtaped_, .int mlength_, .int mhead_, .int mbegin_, .int mtoken_, .int mvalue_, .int mbad_, .int mbadPlace_, .int mfaultKind_, .int mfaultPlace_, .int mdeep_, .int mlawMany_, .int mlawAt_, .ref nstack_, .ref nasked_, .int mfell_, .int mfellIn_, .ref naside_, .int mstate_, .int mlanded_, .int mwaitFalls_, .int mwaitWeight_, .ref nfallsAfter_, .ref nfalling_, .ref ncomes_, .ref ngoesOn_, .ref nwayRow_, .ref nmany_, .ref nmanyThen_, .int mtoldLet_, .ref ntSort_, .ref ntMany_, .ref nnumbers_])), (nknown_, .inl (cy 0, 2260, .inl (fknown_)))] H := hP
        have hD := va_ca hP hD
        have hl : lv_has ls 4 [(3, .int t_.toInt32), (0, .ref nm_), (1, .long t_)] := hl
        refine lv_iconst (v := 0) hx hb dX11_whyTake_64 (by decide) ?_
        exact j65_ 0 _ _ ls ⟨(rg_w (rg_lit (by decide) : rg (0) (0) (0 : Int32)) (by decide) (by decide)), (Or.inl ⟨hR3_, rfl⟩)⟩ hP hD hS (lv_sub hl [0, 1, 2] rfl)
      refine lv_if_eq (tgt := 64) hx hb dX11_whyTake_30 (by decide) (fun c30000030_ => ?_) (fun c30000030_ => ?_)
      · have g3_ : rg (0) (0) v30010270_ := rg_eq c30000030_ (rg_lit (by decide) : rg (0) (0) (0 : Int32))
        exact j64_ () _ _ ls (Or.inl c30000030_) hP hD hS (lv_sub hl [0, 1, 2] rfl)
      · have g4_ : rg (1) (1) v30010270_ := rg_ne1 c30000030_ kr30000027_ (by decide) (by decide)
        refine lv_aload_n hx hb dX11_whyTake_33 rfl (lv_at hl 1 rfl) ?_
        refine va_get (ci := 11) (v := .ref nknown_) (C := RX11) (T := TX11) (N := 39) hx hb htA in_X11 hown hK hP 0 rfl rfl 0 (by decide) (htA _ wd_1354) (fun _ h => h) rfl dX11_whyTake_34 ?_
        refine lv_bipush (v := 24) hx hb dX11_whyTake_37 (by decide) ?_
        refine lv_iload_n hx hb dX11_whyTake_39 rfl (lv_at hl 0 rfl) ?_
        refine lv_iadd hx hb dX11_whyTake_40 ?_
        have g5_ : rg (24) (31) (24 + t_.toInt32) := rg_add (rg_lit (by decide) : rg (24) (24) (24 : Int32)) g1_ (by decide) (by decide) (by decide) (by decide)
        refine va_iald hx hb hK hP 1 0 rfl rfl (rg_in g5_ (by decide) (by decide)) dX11_whyTake_41 ?_
        refine lv_topi (fun v30010410_ ev30010410_ => ?_)
        refine lv_aload_n hx hb dX11_whyTake_42 rfl (lv_at hl 1 rfl) ?_
        refine lv_aload_n hx hb dX11_whyTake_43 rfl (lv_at hl 1 rfl) ?_
        refine va_get (ci := 11) (v := .ref nknown_) (C := RX11) (T := TX11) (N := 39) hx hb htA in_X11 hown hK hP 0 rfl rfl 0 (by decide) (htA _ wd_1354) (fun _ h => h) rfl dX11_whyTake_44 ?_
        refine lv_bipush (v := 16) hx hb dX11_whyTake_47 (by decide) ?_
        refine lv_iload_n hx hb dX11_whyTake_49 rfl (lv_at hl 0 rfl) ?_
        refine lv_iadd hx hb dX11_whyTake_50 ?_
        have g6_ : rg (16) (23) (16 + t_.toInt32) := rg_add (rg_lit (by decide) : rg (16) (16) (16 : Int32)) g1_ (by decide) (by decide) (by decide) (by decide)
        refine va_iald hx hb hK hP 1 0 rfl rfl (rg_in g6_ (by decide) (by decide)) dX11_whyTake_51 ?_
        refine lv_topi (fun v30010510_ ev30010510_ => ?_)
        refine kVi (As := [.int v30010510_]) (rest := [.int v30010410_]) (wr := []) hX hE (sf_X11_lying l D cy nm_ nknown_ ntelling_ nimages_ nisImage_ mthrown_ ntape_ mtaped_ mlength_ mhead_ mbegin_ mtoken_ mvalue_ mbad_ mbadPlace_ mfaultKind_ mfaultPlace_ mdeep_ mlawMany_ mlawAt_ nstack_ nasked_ mfell_ mfellIn_ naside_ mstate_ mlanded_ mwaitFalls_ mwaitWeight_ nfallsAfter_ nfalling_ ncomes_ ngoesOn_ nwayRow_ nmany_ nmanyThen_ mtoldLet_ ntSort_ ntMany_ nnumbers_ fknown_ v30010510_ C_ L_ hb_ ha_ hc_ (by omega) (by omega) (by omega) (rg_w rmtaped_ (by decide) (by decide)) (rg_w rmlength_ (by decide) (by decide)) (rg_w rmhead_ (by decide) (by decide)) (rg_w rmbegin_ (by decide) (by decide)) rfknown_) (cwVA 1 htA wd_1687 wd_1684 wd_10 wd_1686 wp_77 (by decide +kernel) ⟨by decide, by decide⟩) hP hD hS [0, 1] [] rfl rfl (by decide +kernel) 0 rfl rfl rfl rfl hl.1 rfl (Nat.le_of_ble_eq_true rfl) dX11_whyTake_52 (by decide) (fun v30010520_ W1 H locs hw hP hD hS => ?_)
        refine W.widen (k := 0) (n := 0) (by decide) (by decide) ?_
        obtain ⟨k30000052_0_, rfl⟩ := hw
        have hP : va_P D vwCl [(nm_, .inr (11, [.ref nknown_, .ref ntelling_, .ref nimages_, .ref nisImage_, .int mthrown_, .ref ntape_, .int mtaped_, .int mlength_, .int mhead_, .int mbegin_, .int mtoken_, .int mvalue_, .int mbad_, .int mbadPlace_, .int mfaultKind_, .int mfaultPlace_, .int mdeep_, .int mlawMany_, .int mlawAt_, .ref nstack_, .ref nasked_, .int mfell_, .int mfellIn_, .ref naside_, .int mstate_, .int mlanded_, .int mwaitFalls_, .int mwaitWeight_, .ref nfallsAfter_, .ref nfalling_, .ref ncomes_, .ref ngoesOn_, .ref nwayRow_, .ref nmany_, .ref nmanyThen_, .int mtoldLet_, .ref ntSort_, .ref ntMany_, .ref nnumbers_])), (nknown_, .inl (cy 0, 2260, .inl (fknown_)))] H := hP
        have hD := va_ca hP hD
        refine lv_iconst (v := 1) hx hb dX11_whyTake_55 (by decide) ?_
        refine lv_isub hx hb dX11_whyTake_56 ?_
        refine lv_icmp_ge (tgt := 64) hx hb dX11_whyTake_57 (by decide) (fun c30000057_ => ?_) (fun c30000057_ => ?_)
        · exact j64_ () _ _ ls (Or.inr (Or.inl ⟨v30010410_, v30010510_, v30010520_, c30000030_, ev30010410_, ev30010510_, k30000052_0_, c30000057_⟩)) hP hD hS (lv_sub hl [0, 1, 2] rfl)
        · have g7_ : rg (-2147483648) (2147483646) v30010410_ := rg_lt1 (rg_nle c30000057_) (rg_any _) (rg_any _) (by decide)
          have g8_ : rg (-2147483647) (2147483647) (v30010520_ - 1) := rg_lt2 (rg_nle c30000057_) (rg_any _) (rg_any _) (by decide)
          refine lv_iconst (v := 3) hx hb dX11_whyTake_60 (by decide) ?_
          refine lv_goto (tgt := 65) hx hb dX11_whyTake_61 (by decide) ?_
          exact j65_ 3 _ _ ls ⟨(rg_w (rg_lit (by decide) : rg (3) (3) (3 : Int32)) (by decide) (by decide)), (Or.inr (Or.inl ⟨v30010410_, v30010510_, v30010520_, c30000030_, ev30010410_, ev30010510_, k30000052_0_, c30000057_, rfl⟩))⟩ hP hD hS (lv_sub hl [0, 1, 2] rfl)
    · have g9_ : rg (1) (1) v30010160_ := rg_ne1 c30000019_ kr30000016_ (by decide) (by decide)
      refine lv_iconst (v := 2) hx hb dX11_whyTake_22 (by decide) ?_
      exact rI hX hE hP hD hS dX11_whyTake_23 (by decide) (by decide) ⟨(Or.inr (Or.inr (Or.inr (Or.inl ⟨v10020_, v30010160_, k2_2_, k30000016_0_, c30000019_, rfl⟩)))), rfl, (rg_w (rg_lit (by decide) : rg (2) (2) (2 : Int32)) (by decide) (by decide))⟩
def R_X11_cut_e (ftSort_ : Nat → Int32) (s_ : Int32) (fnumbers_ : Nat → Int64) (p_ : Int32) (v_ : Int64) (x0_ : Nat → Int64) (r : Int64) : Prop := (∃ (v10090_ : Int32) (w10420_ : Int64), v10090_ = ftSort_ s_.toNatClampNeg ∧ w10420_ = (vp_updL fnumbers_ (((30 * s_) + p_).toNatClampNeg) ((v_ <<< ((64 - ((8 : Int32) <<< (v10090_ &&& 31))).toInt64 &&& 63)) >>> ((64 - ((8 : Int32) <<< (v10090_ &&& 31))).toInt64 &&& 63))) ((30 * s_) + p_).toNatClampNeg ∧ x0_ = vp_updL fnumbers_ (((30 * s_) + p_).toNatClampNeg) ((v_ <<< ((64 - ((8 : Int32) <<< (v10090_ &&& 31))).toInt64 &&& 63)) >>> ((64 - ((8 : Int32) <<< (v10090_ &&& 31))).toInt64 &&& 63)) ∧ r = w10420_) ∨ False
set_option maxHeartbeats 4000000 in
set_option maxRecDepth 100000 in
theorem sf_X11_cut (l : Launch) (D : va_G) (cy : Nat → ClassId) (nm_ : Nat) (nknown_ : Nat) (ntelling_ : Nat) (nimages_ : Nat) (nisImage_ : Nat) (mthrown_ : Int32) (ntape_ : Nat) (mtaped_ : Int32) (mlength_ : Int32) (mhead_ : Int32) (mbegin_ : Int32) (mtoken_ : Int32) (mvalue_ : Int32) (mbad_ : Int32) (mbadPlace_ : Int32) (mfaultKind_ : Int32) (mfaultPlace_ : Int32) (mdeep_ : Int32) (mlawMany_ : Int32) (mlawAt_ : Int32) (nstack_ : Nat) (nasked_ : Nat) (mfell_ : Int32) (mfellIn_ : Int32) (naside_ : Nat) (mstate_ : Int32) (mlanded_ : Int32) (mwaitFalls_ : Int32) (mwaitWeight_ : Int32) (nfallsAfter_ : Nat) (nfalling_ : Nat) (ncomes_ : Nat) (ngoesOn_ : Nat) (nwayRow_ : Nat) (nmany_ : Nat) (nmanyThen_ : Nat) (mtoldLet_ : Int32) (ntSort_ : Nat) (ntMany_ : Nat) (nnumbers_ : Nat) (ftSort_ : Nat → Int32) (fnumbers_ : Nat → Int64) (s_ : Int32) (p_ : Int32) (v_ : Int64) (rmtaped_ : rg (0) (900) mtaped_) (rmlength_ : rg (0) (900) mlength_) (rmhead_ : rg (0) (900) mhead_) (rmbegin_ : rg (0) (900) mbegin_) (rs_ : rg (0) (3) s_) (rp_ : rg (0) (29) p_) (rftSort_ : ag (-1) (3) 4 ftSort_) : Cl l yX11_cut cX11_cut 6 (some .long) { frames := 0, cells := 0, slots := 0, locals := 0 } D cy [.ref nm_, .int s_, .int p_, .long v_] [(nm_, .inr (11, [.ref nknown_, .ref ntelling_, .ref nimages_, .ref nisImage_, .int mthrown_, .ref ntape_, .int mtaped_, .int mlength_, .int mhead_, .int mbegin_, .int mtoken_, .int mvalue_, .int mbad_, .int mbadPlace_, .int mfaultKind_, .int mfaultPlace_, .int mdeep_, .int mlawMany_, .int mlawAt_, .ref nstack_, .ref nasked_, .int mfell_, .int mfellIn_, .ref naside_, .int mstate_, .int mlanded_, .int mwaitFalls_, .int mwaitWeight_, .ref nfallsAfter_, .ref nfalling_, .ref ncomes_, .ref ngoesOn_, .ref nwayRow_, .ref nmany_, .ref nmanyThen_, .int mtoldLet_, .ref ntSort_, .ref ntMany_, .ref nnumbers_])), (ntSort_, .inl (cy 0, 4, .inl (ftSort_))), (nnumbers_, .inl (cy 2, 120, .inr (.inl (fnumbers_))))] (fun r W1 => ∃ (x0_ : Nat → Int64), R_X11_cut_e ftSort_ s_ fnumbers_ p_ v_ x0_ r ∧ W1 = [(nm_, .inr (11, [.ref nknown_, .ref ntelling_, .ref nimages_, .ref nisImage_, .int mthrown_, .ref ntape_, .int mtaped_, .int mlength_, .int mhead_, .int mbegin_, .int mtoken_, .int mvalue_, .int mbad_, .int mbadPlace_, .int mfaultKind_, .int mfaultPlace_, .int mdeep_, .int mlawMany_, .int mlawAt_, .ref nstack_, .ref nasked_, .int mfell_, .int mfellIn_, .ref naside_, .int mstate_, .int mlanded_, .int mwaitFalls_, .int mwaitWeight_, .ref nfallsAfter_, .ref nfalling_, .ref ncomes_, .ref ngoesOn_, .ref nwayRow_, .ref nmany_, .ref nmanyThen_, .int mtoldLet_, .ref ntSort_, .ref ntMany_, .ref nnumbers_])), (ntSort_, .inl (cy 0, 4, .inl (ftSort_))), (nnumbers_, .inl (cy 2, 120, .inr (.inl (x0_))))]) := by
  refine Cl.of (by decide) (Nat.le_of_ble_eq_true rfl) ?_
  intro p e s m below meth c A ls hX hE hP hD hl
  obtain ⟨hx, hb, hr, hml, hown, htA, hlk⟩ := id hX
  have hK := hE.1
  have hS : va_S A s.heap s.heap [] := va_S.rf
  have hl : lv_has ls 6 [(0, .ref nm_), (1, .int s_), (2, .int p_), (3, .long v_)] := hl
  refine lv_bipush (v := 64) hx hb dX11_cut_0 (by decide) ?_
  refine lv_bipush (v := 8) hx hb dX11_cut_2 (by decide) ?_
  refine lv_aload_n hx hb dX11_cut_4 rfl (lv_at hl 0 rfl) ?_
  refine va_get (ci := 11) (v := .ref ntSort_) (C := RX11) (T := TX11) (N := 39) hx hb htA in_X11 hown hK hP 0 rfl rfl 36 (by decide) (htA _ wd_1390) (fun _ h => h) rfl dX11_cut_5 ?_
  refine lv_iload_n hx hb dX11_cut_8 rfl (lv_at hl 1 rfl) ?_
  refine va_iald hx hb hK hP 1 0 rfl rfl (rg_in rs_ (by decide) (by decide)) dX11_cut_9 ?_
  refine lv_topi (fun v10090_ ev10090_ => ?_)
  have g1_ : rg (-1) (3) v10090_ := by rw [ev10090_]; exact ag_at rftSort_ (rg_in rs_ (by decide) (by decide))
  refine lv_ishl hx hb dX11_cut_10 ?_
  refine lv_isub hx hb dX11_cut_11 ?_
  refine lv_istore (lv' := [(5, .int (64 - ((8 : Int32) <<< (v10090_ &&& 31)))), (0, .ref nm_), (1, .int s_), (2, .int p_), (3, .long v_)]) hx hb dX11_cut_12 hl (by decide) rfl (fun ls hl => ?_)
  refine lv_aload_n hx hb dX11_cut_14 rfl (lv_at hl 1 rfl) ?_
  refine va_get (ci := 11) (v := .ref nnumbers_) (C := RX11) (T := TX11) (N := 39) hx hb htA in_X11 hown hK hP 0 rfl rfl 38 (by decide) (htA _ wd_1392) (fun _ h => h) rfl dX11_cut_15 ?_
  refine lv_bipush (v := 30) hx hb dX11_cut_18 (by decide) ?_
  refine lv_iload_n hx hb dX11_cut_20 rfl (lv_at hl 2 rfl) ?_
  refine lv_imul hx hb dX11_cut_21 ?_
  have g2_ : rg (0) (90) (30 * s_) := rg_mulc (k := 30) (by decide) rs_ (by decide) (by decide) (by decide) (by decide) (by decide)
  refine lv_iload_n hx hb dX11_cut_22 rfl (lv_at hl 3 rfl) ?_
  refine lv_iadd hx hb dX11_cut_23 ?_
  have g3_ : rg (0) (119) ((30 * s_) + p_) := rg_add g2_ rp_ (by decide) (by decide) (by decide) (by decide)
  refine lv_lload_n hx hb dX11_cut_24 rfl (lv_at hl 4 rfl) ?_
  refine lv_iload hx hb dX11_cut_25 (lv_at hl 0 rfl) ?_
  refine lv_lshl hx hb dX11_cut_27 rfl ?_
  refine lv_iload hx hb dX11_cut_28 (lv_at hl 0 rfl) ?_
  refine lv_lshr hx hb dX11_cut_30 rfl ?_
  refine va_last hx hb hK hP hD hS 2 2 rfl rfl (rg_in g3_ (by decide) (by decide)) dX11_cut_31 (fun H locs hP hD hS => ?_)
  have hP : va_P D vwCl [(nm_, .inr (11, [.ref nknown_, .ref ntelling_, .ref nimages_, .ref nisImage_, .int mthrown_, .ref ntape_, .int mtaped_, .int mlength_, .int mhead_, .int mbegin_, .int mtoken_, .int mvalue_, .int mbad_, .int mbadPlace_, .int mfaultKind_, .int mfaultPlace_, .int mdeep_, .int mlawMany_, .int mlawAt_, .ref nstack_, .ref nasked_, .int mfell_, .int mfellIn_, .ref naside_, .int mstate_, .int mlanded_, .int mwaitFalls_, .int mwaitWeight_, .ref nfallsAfter_, .ref nfalling_, .ref ncomes_, .ref ngoesOn_, .ref nwayRow_, .ref nmany_, .ref nmanyThen_, .int mtoldLet_, .ref ntSort_, .ref ntMany_, .ref nnumbers_])), (ntSort_, .inl (cy 0, 4, .inl (ftSort_))), (nnumbers_, .inl (cy 2, 120, .inr (.inl (vp_updL fnumbers_ (((30 * s_) + p_).toNatClampNeg) ((v_ <<< ((64 - ((8 : Int32) <<< (v10090_ &&& 31))).toInt64 &&& 63)) >>> ((64 - ((8 : Int32) <<< (v10090_ &&& 31))).toInt64 &&& 63))))))] H := hP
  have hD := va_ca hP hD
  refine lv_aload_n hx hb dX11_cut_32 rfl (lv_at hl 1 rfl) ?_
  refine va_get (ci := 11) (v := .ref nnumbers_) (C := RX11) (T := TX11) (N := 39) hx hb htA in_X11 hown hK hP 0 rfl rfl 38 (by decide) (htA _ wd_1392) (fun _ h => h) rfl dX11_cut_33 ?_
  refine lv_bipush (v := 30) hx hb dX11_cut_36 (by decide) ?_
  refine lv_iload_n hx hb dX11_cut_38 rfl (lv_at hl 2 rfl) ?_
  refine lv_imul hx hb dX11_cut_39 ?_
  refine lv_iload_n hx hb dX11_cut_40 rfl (lv_at hl 3 rfl) ?_
  refine lv_iadd hx hb dX11_cut_41 ?_
  refine va_lald hx hb hK hP 2 2 rfl rfl (rg_in g3_ (by decide) (by decide)) dX11_cut_42 ?_
  refine lv_topl (fun w10420_ ew10420_ => ?_)
  exact rL hX hE hP hD hS dX11_cut_43 (by decide) (by decide) ⟨(vp_updL fnumbers_ (((30 * s_) + p_).toNatClampNeg) ((v_ <<< ((64 - ((8 : Int32) <<< (v10090_ &&& 31))).toInt64 &&& 63)) >>> ((64 - ((8 : Int32) <<< (v10090_ &&& 31))).toInt64 &&& 63))), (Or.inl ⟨v10090_, w10420_, ev10090_, ew10420_, rfl, rfl⟩), rfl⟩
def R_X11_tray_b2 (t_ : Int32) (uZ_ vZ_ : Int32 × (Nat → Int64)) : Prop := (¬ ((30 : Int32) ≤ uZ_.1) ∧ vZ_ = (uZ_.1 + 1, vp_updL uZ_.2 (((30 * t_) + uZ_.1).toNatClampNeg) 0)) ∨ False
def R_X11_tray_e (t_ : Int32) (ftSort_ : Nat → Int32) (ftMany_ : Nat → Int32) (fnumbers_ : Nat → Int64) (s_ : Int32) (m_ : Int32) (x0_ : Int32) (x1_ : Nat → Int32) (x2_ : Nat → Int32) (x3_ : Nat → Int64) : Prop := (∃ (v10020_ : Int32), R_X11_isTray_w_e1 t_ v10020_ ∧ x0_ = (1 : Int32) ∧ x1_ = ftSort_ ∧ x2_ = ftMany_ ∧ x3_ = fnumbers_) ∨ (∃ (v10020_ : Int32), R_X11_isTray_w_e2 t_ v10020_ ∧ x0_ = (1 : Int32) ∧ x1_ = ftSort_ ∧ x2_ = ftMany_ ∧ x3_ = fnumbers_) ∨ (∃ (v10020_ : Int32) (v30010180_ : Int32), R_X11_isTray_w_e3 t_ v10020_ ∧ R_X11_within_w_e1 s_.toInt64 ((0 : Int64)) v30010180_ ∧ x0_ = (2 : Int32) ∧ x1_ = ftSort_ ∧ x2_ = ftMany_ ∧ x3_ = fnumbers_) ∨ (∃ (v10020_ : Int32) (v30010180_ : Int32), R_X11_isTray_w_e3 t_ v10020_ ∧ R_X11_within_w_e2 s_.toInt64 ((0 : Int64)) ((3 : Int64)) v30010180_ ∧ x0_ = (2 : Int32) ∧ x1_ = ftSort_ ∧ x2_ = ftMany_ ∧ x3_ = fnumbers_) ∨ (∃ (v10020_ : Int32) (v30010180_ : Int32) (v60010300_ : Int32), R_X11_isTray_w_e3 t_ v10020_ ∧ R_X11_within_w_e3 s_.toInt64 ((0 : Int64)) ((3 : Int64)) v30010180_ ∧ R_X11_within_w_e1 m_.toInt64 ((0 : Int64)) v60010300_ ∧ x0_ = (2 : Int32) ∧ x1_ = ftSort_ ∧ x2_ = ftMany_ ∧ x3_ = fnumbers_) ∨ (∃ (v10020_ : Int32) (v30010180_ : Int32) (v60010300_ : Int32), R_X11_isTray_w_e3 t_ v10020_ ∧ R_X11_within_w_e3 s_.toInt64 ((0 : Int64)) ((3 : Int64)) v30010180_ ∧ R_X11_within_w_e2 m_.toInt64 ((0 : Int64)) ((30 : Int64)) v60010300_ ∧ x0_ = (2 : Int32) ∧ x1_ = ftSort_ ∧ x2_ = ftMany_ ∧ x3_ = fnumbers_) ∨ (∃ (v10020_ : Int32) (v30010180_ : Int32) (v60010300_ : Int32) (v90206900_ : Int32) (g90206901_ : Nat → Int64), R_X11_isTray_w_e3 t_ v10020_ ∧ R_X11_within_w_e3 s_.toInt64 ((0 : Int64)) ((3 : Int64)) v30010180_ ∧ R_X11_within_w_e3 m_.toInt64 ((0 : Int64)) ((30 : Int64)) v60010300_ ∧ Itr (R_X11_tray_b2 t_) (0, fnumbers_) (v90206900_, g90206901_) ∧ (30 : Int32) ≤ v90206900_ ∧ x0_ = (0 : Int32) ∧ x1_ = upd ftSort_ t_.toNatClampNeg s_ ∧ x2_ = upd ftMany_ t_.toNatClampNeg m_ ∧ x3_ = g90206901_) ∨ False
set_option maxHeartbeats 4000000 in
set_option maxRecDepth 100000 in
theorem sf_X11_tray (l : Launch) (D : va_G) (cy : Nat → ClassId) (nm_ : Nat) (nknown_ : Nat) (ntelling_ : Nat) (nimages_ : Nat) (nisImage_ : Nat) (mthrown_ : Int32) (ntape_ : Nat) (mtaped_ : Int32) (mlength_ : Int32) (mhead_ : Int32) (mbegin_ : Int32) (mtoken_ : Int32) (mvalue_ : Int32) (mbad_ : Int32) (mbadPlace_ : Int32) (mfaultKind_ : Int32) (mfaultPlace_ : Int32) (mdeep_ : Int32) (mlawMany_ : Int32) (mlawAt_ : Int32) (nstack_ : Nat) (nasked_ : Nat) (mfell_ : Int32) (mfellIn_ : Int32) (naside_ : Nat) (mstate_ : Int32) (mlanded_ : Int32) (mwaitFalls_ : Int32) (mwaitWeight_ : Int32) (nfallsAfter_ : Nat) (nfalling_ : Nat) (ncomes_ : Nat) (ngoesOn_ : Nat) (nwayRow_ : Nat) (nmany_ : Nat) (nmanyThen_ : Nat) (mtoldLet_ : Int32) (ntSort_ : Nat) (ntMany_ : Nat) (nnumbers_ : Nat) (ftSort_ : Nat → Int32) (ftMany_ : Nat → Int32) (fnumbers_ : Nat → Int64) (t_ : Int32) (s_ : Int32) (m_ : Int32) (rmtaped_ : rg (0) (900) mtaped_) (rmlength_ : rg (0) (900) mlength_) (rmhead_ : rg (0) (900) mhead_) (rmbegin_ : rg (0) (900) mbegin_) (rftMany_ : ag (0) (30) 4 ftMany_) (rftSort_ : ag (-1) (3) 4 ftSort_) : Cv l yX11_tray cX11_tray 5 none { frames := 2, cells := 0, slots := 0, locals := 45 } D cy [.ref nm_, .int t_, .int s_, .int m_] [(nm_, .inr (11, [.ref nknown_, .ref ntelling_, .ref nimages_, .ref nisImage_, .int mthrown_, .ref ntape_, .int mtaped_, .int mlength_, .int mhead_, .int mbegin_, .int mtoken_, .int mvalue_, .int mbad_, .int mbadPlace_, .int mfaultKind_, .int mfaultPlace_, .int mdeep_, .int mlawMany_, .int mlawAt_, .ref nstack_, .ref nasked_, .int mfell_, .int mfellIn_, .ref naside_, .int mstate_, .int mlanded_, .int mwaitFalls_, .int mwaitWeight_, .ref nfallsAfter_, .ref nfalling_, .ref ncomes_, .ref ngoesOn_, .ref nwayRow_, .ref nmany_, .ref nmanyThen_, .int mtoldLet_, .ref ntSort_, .ref ntMany_, .ref nnumbers_])), (ntSort_, .inl (cy 0, 4, .inl (ftSort_))), (ntMany_, .inl (cy 0, 4, .inl (ftMany_))), (nnumbers_, .inl (cy 2, 120, .inr (.inl (fnumbers_))))] (fun W1 => ∃ (x0_ : Int32) (x1_ : Nat → Int32) (x2_ : Nat → Int32) (x3_ : Nat → Int64), rg (0) (2) x0_ ∧ ag (-1) (3) 4 x1_ ∧ ag (0) (30) 4 x2_ ∧ R_X11_tray_e t_ ftSort_ ftMany_ fnumbers_ s_ m_ x0_ x1_ x2_ x3_ ∧ W1 = [(nm_, .inr (11, [.ref nknown_, .ref ntelling_, .ref nimages_, .ref nisImage_, .int x0_, .ref ntape_, .int mtaped_, .int mlength_, .int mhead_, .int mbegin_, .int mtoken_, .int mvalue_, .int mbad_, .int mbadPlace_, .int mfaultKind_, .int mfaultPlace_, .int mdeep_, .int mlawMany_, .int mlawAt_, .ref nstack_, .ref nasked_, .int mfell_, .int mfellIn_, .ref naside_, .int mstate_, .int mlanded_, .int mwaitFalls_, .int mwaitWeight_, .ref nfallsAfter_, .ref nfalling_, .ref ncomes_, .ref ngoesOn_, .ref nwayRow_, .ref nmany_, .ref nmanyThen_, .int mtoldLet_, .ref ntSort_, .ref ntMany_, .ref nnumbers_])), (ntSort_, .inl (cy 0, 4, .inl (x1_))), (ntMany_, .inl (cy 0, 4, .inl (x2_))), (nnumbers_, .inl (cy 2, 120, .inr (.inl (x3_))))]) := by
  refine Cv.of (by decide) (Nat.le_of_ble_eq_true rfl) ?_
  intro p e s m below meth c A ls hX hE hP hD hl hin
  obtain ⟨hx, hb, hr, hml, hown, htA, hlk⟩ := id hX
  have hK := hE.1
  have hS : va_S A s.heap s.heap [] := va_S.rf
  have hl : lv_has ls 5 [(0, .ref nm_), (1, .int t_), (2, .int s_), (3, .int m_)] := hl
  refine lv_aload_n hx hb dX11_tray_0 rfl (lv_at hl 0 rfl) ?_
  refine lv_iload_n hx hb dX11_tray_1 rfl (lv_at hl 1 rfl) ?_
  refine kSi (As := [.int t_]) (rest := [.ref nm_]) (wr := [(nm_, .inr (11, [.ref nknown_, .ref ntelling_, .ref nimages_, .ref nisImage_, .int mthrown_, .ref ntape_, .int mtaped_, .int mlength_, .int mhead_, .int mbegin_, .int mtoken_, .int mvalue_, .int mbad_, .int mbadPlace_, .int mfaultKind_, .int mfaultPlace_, .int mdeep_, .int mlawMany_, .int mlawAt_, .ref nstack_, .ref nasked_, .int mfell_, .int mfellIn_, .ref naside_, .int mstate_, .int mlanded_, .int mwaitFalls_, .int mwaitWeight_, .ref nfallsAfter_, .ref nfalling_, .ref ncomes_, .ref ngoesOn_, .ref nwayRow_, .ref nmany_, .ref nmanyThen_, .int mtoldLet_, .ref ntSort_, .ref ntMany_, .ref nnumbers_])), (ntSort_, .inl (cy 0, 4, .inl (ftSort_))), (ntMany_, .inl (cy 0, 4, .inl (ftMany_))), (nnumbers_, .inl (cy 2, 120, .inr (.inl (fnumbers_))))]) hX hE (sf_X11_isTray_w l D cy t_ ) (cwSA 1 htA wd_1815 wd_1813 wd_10 wd_1814 (by decide +kernel) ⟨by decide, by decide⟩) hP hD hS [] [0, 1, 2, 3] rfl rfl (by decide +kernel) rfl hl.1 rfl (Nat.le_of_ble_eq_true rfl) dX11_tray_2 (by decide) (fun v10020_ W1 H locs hw hP hD hS => ?_)
  refine W.widen (k := 0) (n := 0) (by decide) (by decide) ?_
  rcases hw with ⟨k2_0_, k2_1_, rfl, kr2_⟩ | ⟨k2_0_, k2_1_, rfl, kr2_⟩ | ⟨k2_0_, k2_1_, rfl, kr2_⟩
  · have hP : va_P D vwCl [(nm_, .inr (11, [.ref nknown_, .ref ntelling_, .ref nimages_, .ref nisImage_, .int mthrown_, .ref ntape_, .int mtaped_, .int mlength_, .int mhead_, .int mbegin_, .int mtoken_, .int mvalue_, .int mbad_, .int mbadPlace_, .int mfaultKind_, .int mfaultPlace_, .int mdeep_, .int mlawMany_, .int mlawAt_, .ref nstack_, .ref nasked_, .int mfell_, .int mfellIn_, .ref naside_, .int mstate_, .int mlanded_, .int mwaitFalls_, .int mwaitWeight_, .ref nfallsAfter_, .ref nfalling_, .ref ncomes_, .ref ngoesOn_, .ref nwayRow_, .ref nmany_, .ref nmanyThen_, .int mtoldLet_, .ref ntSort_, .ref ntMany_, .ref nnumbers_])), (ntSort_, .inl (cy 0, 4, .inl (ftSort_))), (ntMany_, .inl (cy 0, 4, .inl (ftMany_))), (nnumbers_, .inl (cy 2, 120, .inr (.inl (fnumbers_))))] H := hP
    have hD := va_ca hP hD
    refine lv_if_ne (tgt := 12) hx hb dX11_tray_5 (by decide) (fun c10000005_ => rg_ne0 c10000005_ kr2_ (rg_lit (by decide) : rg (0) (0) (0 : Int32))) (fun c10000005_ => ?_)
    refine lv_iconst (v := 1) hx hb dX11_tray_8 (by decide) ?_
    refine lv_goto (tgt := 41) hx hb dX11_tray_9 (by decide) ?_
    refine va_put (ci := 11) (v := .int 1) (ty := .int) (C := RX11) (T := TX11) (N := 39) hx hb htA in_X11 tyX11 tyX11_ok nmX11 hown hK hP hD hS 0 rfl rfl 4 (by decide) (htA _ wd_1358) (fun _ h => h) rfl (by decide +kernel) rfl rfl (Nat.le_of_ble_eq_true rfl) dX11_tray_41 (fun H locs hP hD hS => ?_)
    have hP : va_P D vwCl [(nm_, .inr (11, [.ref nknown_, .ref ntelling_, .ref nimages_, .ref nisImage_, .int 1, .ref ntape_, .int mtaped_, .int mlength_, .int mhead_, .int mbegin_, .int mtoken_, .int mvalue_, .int mbad_, .int mbadPlace_, .int mfaultKind_, .int mfaultPlace_, .int mdeep_, .int mlawMany_, .int mlawAt_, .ref nstack_, .ref nasked_, .int mfell_, .int mfellIn_, .ref naside_, .int mstate_, .int mlanded_, .int mwaitFalls_, .int mwaitWeight_, .ref nfallsAfter_, .ref nfalling_, .ref ncomes_, .ref ngoesOn_, .ref nwayRow_, .ref nmany_, .ref nmanyThen_, .int mtoldLet_, .ref ntSort_, .ref ntMany_, .ref nnumbers_])), (ntSort_, .inl (cy 0, 4, .inl (ftSort_))), (ntMany_, .inl (cy 0, 4, .inl (ftMany_))), (nnumbers_, .inl (cy 2, 120, .inr (.inl (fnumbers_))))] H := hP
    have hD := va_ca hP hD
    refine lv_aload_n hx hb dX11_tray_44 rfl (lv_at hl 0 rfl) ?_
    refine va_get (ci := 11) (v := .int 1) (C := RX11) (T := TX11) (N := 39) hx hb htA in_X11 hown hK hP 0 rfl rfl 4 (by decide) (htA _ wd_1358) (fun _ h => h) rfl dX11_tray_45 ?_
    refine lv_if_le (tgt := 52) hx hb dX11_tray_48 (by decide) (fun q => absurd q (by decide)) (fun _ => ?_)
    exact rV hX hE hP hD hS dX11_tray_51 (by decide) (by decide) ⟨1, ftSort_, ftMany_, fnumbers_, (rg_w (rg_lit (by decide) : rg (1) (1) (1 : Int32)) (by decide) (by decide)), rftSort_, rftMany_, (Or.inl ⟨v10020_, k2_1_, rfl, rfl, rfl, rfl⟩), rfl⟩
  · have hP : va_P D vwCl [(nm_, .inr (11, [.ref nknown_, .ref ntelling_, .ref nimages_, .ref nisImage_, .int mthrown_, .ref ntape_, .int mtaped_, .int mlength_, .int mhead_, .int mbegin_, .int mtoken_, .int mvalue_, .int mbad_, .int mbadPlace_, .int mfaultKind_, .int mfaultPlace_, .int mdeep_, .int mlawMany_, .int mlawAt_, .ref nstack_, .ref nasked_, .int mfell_, .int mfellIn_, .ref naside_, .int mstate_, .int mlanded_, .int mwaitFalls_, .int mwaitWeight_, .ref nfallsAfter_, .ref nfalling_, .ref ncomes_, .ref ngoesOn_, .ref nwayRow_, .ref nmany_, .ref nmanyThen_, .int mtoldLet_, .ref ntSort_, .ref ntMany_, .ref nnumbers_])), (ntSort_, .inl (cy 0, 4, .inl (ftSort_))), (ntMany_, .inl (cy 0, 4, .inl (ftMany_))), (nnumbers_, .inl (cy 2, 120, .inr (.inl (fnumbers_))))] H := hP
    have hD := va_ca hP hD
    refine lv_if_ne (tgt := 12) hx hb dX11_tray_5 (by decide) (fun c20000005_ => rg_ne0 c20000005_ kr2_ (rg_lit (by decide) : rg (0) (0) (0 : Int32))) (fun c20000005_ => ?_)
    refine lv_iconst (v := 1) hx hb dX11_tray_8 (by decide) ?_
    refine lv_goto (tgt := 41) hx hb dX11_tray_9 (by decide) ?_
    refine va_put (ci := 11) (v := .int 1) (ty := .int) (C := RX11) (T := TX11) (N := 39) hx hb htA in_X11 tyX11 tyX11_ok nmX11 hown hK hP hD hS 0 rfl rfl 4 (by decide) (htA _ wd_1358) (fun _ h => h) rfl (by decide +kernel) rfl rfl (Nat.le_of_ble_eq_true rfl) dX11_tray_41 (fun H locs hP hD hS => ?_)
    have hP : va_P D vwCl [(nm_, .inr (11, [.ref nknown_, .ref ntelling_, .ref nimages_, .ref nisImage_, .int 1, .ref ntape_, .int mtaped_, .int mlength_, .int mhead_, .int mbegin_, .int mtoken_, .int mvalue_, .int mbad_, .int mbadPlace_, .int mfaultKind_, .int mfaultPlace_, .int mdeep_, .int mlawMany_, .int mlawAt_, .ref nstack_, .ref nasked_, .int mfell_, .int mfellIn_, .ref naside_, .int mstate_, .int mlanded_, .int mwaitFalls_, .int mwaitWeight_, .ref nfallsAfter_, .ref nfalling_, .ref ncomes_, .ref ngoesOn_, .ref nwayRow_, .ref nmany_, .ref nmanyThen_, .int mtoldLet_, .ref ntSort_, .ref ntMany_, .ref nnumbers_])), (ntSort_, .inl (cy 0, 4, .inl (ftSort_))), (ntMany_, .inl (cy 0, 4, .inl (ftMany_))), (nnumbers_, .inl (cy 2, 120, .inr (.inl (fnumbers_))))] H := hP
    have hD := va_ca hP hD
    refine lv_aload_n hx hb dX11_tray_44 rfl (lv_at hl 0 rfl) ?_
    refine va_get (ci := 11) (v := .int 1) (C := RX11) (T := TX11) (N := 39) hx hb htA in_X11 hown hK hP 0 rfl rfl 4 (by decide) (htA _ wd_1358) (fun _ h => h) rfl dX11_tray_45 ?_
    refine lv_if_le (tgt := 52) hx hb dX11_tray_48 (by decide) (fun q => absurd q (by decide)) (fun _ => ?_)
    exact rV hX hE hP hD hS dX11_tray_51 (by decide) (by decide) ⟨1, ftSort_, ftMany_, fnumbers_, (rg_w (rg_lit (by decide) : rg (1) (1) (1 : Int32)) (by decide) (by decide)), rftSort_, rftMany_, (Or.inr (Or.inl ⟨v10020_, k2_1_, rfl, rfl, rfl, rfl⟩)), rfl⟩
  · have hP : va_P D vwCl [(nm_, .inr (11, [.ref nknown_, .ref ntelling_, .ref nimages_, .ref nisImage_, .int mthrown_, .ref ntape_, .int mtaped_, .int mlength_, .int mhead_, .int mbegin_, .int mtoken_, .int mvalue_, .int mbad_, .int mbadPlace_, .int mfaultKind_, .int mfaultPlace_, .int mdeep_, .int mlawMany_, .int mlawAt_, .ref nstack_, .ref nasked_, .int mfell_, .int mfellIn_, .ref naside_, .int mstate_, .int mlanded_, .int mwaitFalls_, .int mwaitWeight_, .ref nfallsAfter_, .ref nfalling_, .ref ncomes_, .ref ngoesOn_, .ref nwayRow_, .ref nmany_, .ref nmanyThen_, .int mtoldLet_, .ref ntSort_, .ref ntMany_, .ref nnumbers_])), (ntSort_, .inl (cy 0, 4, .inl (ftSort_))), (ntMany_, .inl (cy 0, 4, .inl (ftMany_))), (nnumbers_, .inl (cy 2, 120, .inr (.inl (fnumbers_))))] H := hP
    have hD := va_ca hP hD
    refine lv_if_ne (tgt := 12) hx hb dX11_tray_5 (by decide) (fun c30000005_ => ?_) (fun c30000005_ => rg_eqab c30000005_ kr2_ (rg_lit (by decide) : rg (0) (0) (0 : Int32)) (by decide))
    refine lv_iload_n hx hb dX11_tray_12 rfl (lv_at hl 2 rfl) ?_
    refine lv_i2l hx hb dX11_tray_13 rfl ?_
    have g1_ : rl (-2147483648) (2147483647) s_.toInt64 := rl_i2l (rg_any _)
    refine lv_lconst (v := 0) hx hb dX11_tray_14 (by decide) ?_
    refine lv_ldc2 hx hb hown (htA _ wd_1816) dX11_tray_15 ?_
    refine kSi (As := [.long s_.toInt64, .long 0, .long 3]) (rest := [.ref nm_]) (wr := [(nm_, .inr (11, [.ref nknown_, .ref ntelling_, .ref nimages_, .ref nisImage_, .int mthrown_, .ref ntape_, .int mtaped_, .int mlength_, .int mhead_, .int mbegin_, .int mtoken_, .int mvalue_, .int mbad_, .int mbadPlace_, .int mfaultKind_, .int mfaultPlace_, .int mdeep_, .int mlawMany_, .int mlawAt_, .ref nstack_, .ref nasked_, .int mfell_, .int mfellIn_, .ref naside_, .int mstate_, .int mlanded_, .int mwaitFalls_, .int mwaitWeight_, .ref nfallsAfter_, .ref nfalling_, .ref ncomes_, .ref ngoesOn_, .ref nwayRow_, .ref nmany_, .ref nmanyThen_, .int mtoldLet_, .ref ntSort_, .ref ntMany_, .ref nnumbers_])), (ntSort_, .inl (cy 0, 4, .inl (ftSort_))), (ntMany_, .inl (cy 0, 4, .inl (ftMany_))), (nnumbers_, .inl (cy 2, 120, .inr (.inl (fnumbers_))))]) hX hE (sf_X11_within_w l D cy s_.toInt64 (0 : Int64) (3 : Int64) ) (cwSA 3 htA wd_1483 wd_1481 wd_10 wd_1482 (by decide +kernel) ⟨by decide, by decide⟩) hP hD hS [] [0, 1, 2, 3] rfl rfl (by decide +kernel) rfl hl.1 rfl (Nat.le_of_ble_eq_true rfl) dX11_tray_18 (by decide) (fun v30010180_ W1 H locs hw hP hD hS => ?_)
    refine W.widen (k := 0) (n := 0) (by decide) (by decide) ?_
    rcases hw with ⟨k30000018_0_, k30000018_1_, k30000018_2_, k30000018_3_, rfl, kr30000018_⟩ | ⟨k30000018_0_, k30000018_1_, k30000018_2_, k30000018_3_, k30000018_4_, rfl, kr30000018_⟩ | ⟨k30000018_0_, k30000018_1_, k30000018_2_, rfl, kr30000018_⟩
    · have hP : va_P D vwCl [(nm_, .inr (11, [.ref nknown_, .ref ntelling_, .ref nimages_, .ref nisImage_, .int mthrown_, .ref ntape_, .int mtaped_, .int mlength_, .int mhead_, .int mbegin_, .int mtoken_, .int mvalue_, .int mbad_, .int mbadPlace_, .int mfaultKind_, .int mfaultPlace_, .int mdeep_, .int mlawMany_, .int mlawAt_, .ref nstack_, .ref nasked_, .int mfell_, .int mfellIn_, .ref naside_, .int mstate_, .int mlanded_, .int mwaitFalls_, .int mwaitWeight_, .ref nfallsAfter_, .ref nfalling_, .ref ncomes_, .ref ngoesOn_, .ref nwayRow_, .ref nmany_, .ref nmanyThen_, .int mtoldLet_, .ref ntSort_, .ref ntMany_, .ref nnumbers_])), (ntSort_, .inl (cy 0, 4, .inl (ftSort_))), (ntMany_, .inl (cy 0, 4, .inl (ftMany_))), (nnumbers_, .inl (cy 2, 120, .inr (.inl (fnumbers_))))] H := hP
      have hD := va_ca hP hD
      have g2_ : rl (-2147483648) (0) s_.toInt64 := rl_le1 k30000018_2_ (rl_cut g1_ k30000018_0_) (rl_lit (by decide) : rl (0) (0) (0 : Int64)) (by decide)
      refine lv_if_eq (tgt := 36) hx hb dX11_tray_21 (by decide) (fun c40000021_ => ?_) (fun c40000021_ => rg_ne0 c40000021_ kr30000018_ (rg_lit (by decide) : rg (0) (0) (0 : Int32)))
      refine lv_iconst (v := 2) hx hb dX11_tray_36 (by decide) ?_
      refine lv_goto (tgt := 41) hx hb dX11_tray_37 (by decide) ?_
      refine va_put (ci := 11) (v := .int 2) (ty := .int) (C := RX11) (T := TX11) (N := 39) hx hb htA in_X11 tyX11 tyX11_ok nmX11 hown hK hP hD hS 0 rfl rfl 4 (by decide) (htA _ wd_1358) (fun _ h => h) rfl (by decide +kernel) rfl rfl (Nat.le_of_ble_eq_true rfl) dX11_tray_41 (fun H locs hP hD hS => ?_)
      have hP : va_P D vwCl [(nm_, .inr (11, [.ref nknown_, .ref ntelling_, .ref nimages_, .ref nisImage_, .int 2, .ref ntape_, .int mtaped_, .int mlength_, .int mhead_, .int mbegin_, .int mtoken_, .int mvalue_, .int mbad_, .int mbadPlace_, .int mfaultKind_, .int mfaultPlace_, .int mdeep_, .int mlawMany_, .int mlawAt_, .ref nstack_, .ref nasked_, .int mfell_, .int mfellIn_, .ref naside_, .int mstate_, .int mlanded_, .int mwaitFalls_, .int mwaitWeight_, .ref nfallsAfter_, .ref nfalling_, .ref ncomes_, .ref ngoesOn_, .ref nwayRow_, .ref nmany_, .ref nmanyThen_, .int mtoldLet_, .ref ntSort_, .ref ntMany_, .ref nnumbers_])), (ntSort_, .inl (cy 0, 4, .inl (ftSort_))), (ntMany_, .inl (cy 0, 4, .inl (ftMany_))), (nnumbers_, .inl (cy 2, 120, .inr (.inl (fnumbers_))))] H := hP
      have hD := va_ca hP hD
      refine lv_aload_n hx hb dX11_tray_44 rfl (lv_at hl 0 rfl) ?_
      refine va_get (ci := 11) (v := .int 2) (C := RX11) (T := TX11) (N := 39) hx hb htA in_X11 hown hK hP 0 rfl rfl 4 (by decide) (htA _ wd_1358) (fun _ h => h) rfl dX11_tray_45 ?_
      refine lv_if_le (tgt := 52) hx hb dX11_tray_48 (by decide) (fun q => absurd q (by decide)) (fun _ => ?_)
      exact rV hX hE hP hD hS dX11_tray_51 (by decide) (by decide) ⟨2, ftSort_, ftMany_, fnumbers_, (rg_w (rg_lit (by decide) : rg (2) (2) (2 : Int32)) (by decide) (by decide)), rftSort_, rftMany_, (Or.inr (Or.inr (Or.inl ⟨v10020_, v30010180_, k2_1_, k30000018_3_, rfl, rfl, rfl, rfl⟩))), rfl⟩
    · have hP : va_P D vwCl [(nm_, .inr (11, [.ref nknown_, .ref ntelling_, .ref nimages_, .ref nisImage_, .int mthrown_, .ref ntape_, .int mtaped_, .int mlength_, .int mhead_, .int mbegin_, .int mtoken_, .int mvalue_, .int mbad_, .int mbadPlace_, .int mfaultKind_, .int mfaultPlace_, .int mdeep_, .int mlawMany_, .int mlawAt_, .ref nstack_, .ref nasked_, .int mfell_, .int mfellIn_, .ref naside_, .int mstate_, .int mlanded_, .int mwaitFalls_, .int mwaitWeight_, .ref nfallsAfter_, .ref nfalling_, .ref ncomes_, .ref ngoesOn_, .ref nwayRow_, .ref nmany_, .ref nmanyThen_, .int mtoldLet_, .ref ntSort_, .ref ntMany_, .ref nnumbers_])), (ntSort_, .inl (cy 0, 4, .inl (ftSort_))), (ntMany_, .inl (cy 0, 4, .inl (ftMany_))), (nnumbers_, .inl (cy 2, 120, .inr (.inl (fnumbers_))))] H := hP
      have hD := va_ca hP hD
      have g3_ : rl (0) (2147483647) s_.toInt64 := rl_le2 k30000018_2_ (rl_lit (by decide) : rl (0) (0) (0 : Int64)) (rl_cut g1_ k30000018_0_) (by decide)
      have g4_ : rl (3) (2147483647) s_.toInt64 := rl_le2 k30000018_3_ (rl_lit (by decide) : rl (3) (3) (3 : Int64)) g3_ (by decide)
      refine lv_if_eq (tgt := 36) hx hb dX11_tray_21 (by decide) (fun c50000021_ => ?_) (fun c50000021_ => rg_ne0 c50000021_ kr30000018_ (rg_lit (by decide) : rg (0) (0) (0 : Int32)))
      refine lv_iconst (v := 2) hx hb dX11_tray_36 (by decide) ?_
      refine lv_goto (tgt := 41) hx hb dX11_tray_37 (by decide) ?_
      refine va_put (ci := 11) (v := .int 2) (ty := .int) (C := RX11) (T := TX11) (N := 39) hx hb htA in_X11 tyX11 tyX11_ok nmX11 hown hK hP hD hS 0 rfl rfl 4 (by decide) (htA _ wd_1358) (fun _ h => h) rfl (by decide +kernel) rfl rfl (Nat.le_of_ble_eq_true rfl) dX11_tray_41 (fun H locs hP hD hS => ?_)
      have hP : va_P D vwCl [(nm_, .inr (11, [.ref nknown_, .ref ntelling_, .ref nimages_, .ref nisImage_, .int 2, .ref ntape_, .int mtaped_, .int mlength_, .int mhead_, .int mbegin_, .int mtoken_, .int mvalue_, .int mbad_, .int mbadPlace_, .int mfaultKind_, .int mfaultPlace_, .int mdeep_, .int mlawMany_, .int mlawAt_, .ref nstack_, .ref nasked_, .int mfell_, .int mfellIn_, .ref naside_, .int mstate_, .int mlanded_, .int mwaitFalls_, .int mwaitWeight_, .ref nfallsAfter_, .ref nfalling_, .ref ncomes_, .ref ngoesOn_, .ref nwayRow_, .ref nmany_, .ref nmanyThen_, .int mtoldLet_, .ref ntSort_, .ref ntMany_, .ref nnumbers_])), (ntSort_, .inl (cy 0, 4, .inl (ftSort_))), (ntMany_, .inl (cy 0, 4, .inl (ftMany_))), (nnumbers_, .inl (cy 2, 120, .inr (.inl (fnumbers_))))] H := hP
      have hD := va_ca hP hD
      refine lv_aload_n hx hb dX11_tray_44 rfl (lv_at hl 0 rfl) ?_
      refine va_get (ci := 11) (v := .int 2) (C := RX11) (T := TX11) (N := 39) hx hb htA in_X11 hown hK hP 0 rfl rfl 4 (by decide) (htA _ wd_1358) (fun _ h => h) rfl dX11_tray_45 ?_
      refine lv_if_le (tgt := 52) hx hb dX11_tray_48 (by decide) (fun q => absurd q (by decide)) (fun _ => ?_)
      exact rV hX hE hP hD hS dX11_tray_51 (by decide) (by decide) ⟨2, ftSort_, ftMany_, fnumbers_, (rg_w (rg_lit (by decide) : rg (2) (2) (2 : Int32)) (by decide) (by decide)), rftSort_, rftMany_, (Or.inr (Or.inr (Or.inr (Or.inl ⟨v10020_, v30010180_, k2_1_, k30000018_4_, rfl, rfl, rfl, rfl⟩)))), rfl⟩
    · have hP : va_P D vwCl [(nm_, .inr (11, [.ref nknown_, .ref ntelling_, .ref nimages_, .ref nisImage_, .int mthrown_, .ref ntape_, .int mtaped_, .int mlength_, .int mhead_, .int mbegin_, .int mtoken_, .int mvalue_, .int mbad_, .int mbadPlace_, .int mfaultKind_, .int mfaultPlace_, .int mdeep_, .int mlawMany_, .int mlawAt_, .ref nstack_, .ref nasked_, .int mfell_, .int mfellIn_, .ref naside_, .int mstate_, .int mlanded_, .int mwaitFalls_, .int mwaitWeight_, .ref nfallsAfter_, .ref nfalling_, .ref ncomes_, .ref ngoesOn_, .ref nwayRow_, .ref nmany_, .ref nmanyThen_, .int mtoldLet_, .ref ntSort_, .ref ntMany_, .ref nnumbers_])), (ntSort_, .inl (cy 0, 4, .inl (ftSort_))), (ntMany_, .inl (cy 0, 4, .inl (ftMany_))), (nnumbers_, .inl (cy 2, 120, .inr (.inl (fnumbers_))))] H := hP
      have hD := va_ca hP hD
      have g5_ : rl (-2147483648) (3) s_.toInt64 := rl_le1 k30000018_0_ g1_ (rl_lit (by decide) : rl (3) (3) (3 : Int64)) (by decide)
      have g6_ : rl (0) (3) s_.toInt64 := rl_le2 k30000018_1_ (rl_lit (by decide) : rl (0) (0) (0 : Int64)) g5_ (by decide)
      refine lv_if_eq (tgt := 36) hx hb dX11_tray_21 (by decide) (fun c60000021_ => rg_eqab c60000021_ kr30000018_ (rg_lit (by decide) : rg (0) (0) (0 : Int32)) (by decide)) (fun c60000021_ => ?_)
      refine lv_iload_n hx hb dX11_tray_24 rfl (lv_at hl 3 rfl) ?_
      refine lv_i2l hx hb dX11_tray_25 rfl ?_
      have g7_ : rl (-2147483648) (2147483647) m_.toInt64 := rl_i2l (rg_any _)
      refine lv_lconst (v := 0) hx hb dX11_tray_26 (by decide) ?_
      refine lv_ldc2 hx hb hown (htA _ wd_1855) dX11_tray_27 ?_
      refine kSi (As := [.long m_.toInt64, .long 0, .long 30]) (rest := [.ref nm_]) (wr := [(nm_, .inr (11, [.ref nknown_, .ref ntelling_, .ref nimages_, .ref nisImage_, .int mthrown_, .ref ntape_, .int mtaped_, .int mlength_, .int mhead_, .int mbegin_, .int mtoken_, .int mvalue_, .int mbad_, .int mbadPlace_, .int mfaultKind_, .int mfaultPlace_, .int mdeep_, .int mlawMany_, .int mlawAt_, .ref nstack_, .ref nasked_, .int mfell_, .int mfellIn_, .ref naside_, .int mstate_, .int mlanded_, .int mwaitFalls_, .int mwaitWeight_, .ref nfallsAfter_, .ref nfalling_, .ref ncomes_, .ref ngoesOn_, .ref nwayRow_, .ref nmany_, .ref nmanyThen_, .int mtoldLet_, .ref ntSort_, .ref ntMany_, .ref nnumbers_])), (ntSort_, .inl (cy 0, 4, .inl (ftSort_))), (ntMany_, .inl (cy 0, 4, .inl (ftMany_))), (nnumbers_, .inl (cy 2, 120, .inr (.inl (fnumbers_))))]) hX hE (sf_X11_within_w l D cy m_.toInt64 (0 : Int64) (30 : Int64) ) (cwSA 3 htA wd_1483 wd_1481 wd_10 wd_1482 (by decide +kernel) ⟨by decide, by decide⟩) hP hD hS [] [0, 1, 2, 3] rfl rfl (by decide +kernel) rfl hl.1 rfl (Nat.le_of_ble_eq_true rfl) dX11_tray_30 (by decide) (fun v60010300_ W1 H locs hw hP hD hS => ?_)
      refine W.widen (k := 0) (n := 0) (by decide) (by decide) ?_
      rcases hw with ⟨k60000030_0_, k60000030_1_, k60000030_2_, k60000030_3_, rfl, kr60000030_⟩ | ⟨k60000030_0_, k60000030_1_, k60000030_2_, k60000030_3_, k60000030_4_, rfl, kr60000030_⟩ | ⟨k60000030_0_, k60000030_1_, k60000030_2_, rfl, kr60000030_⟩
      · have hP : va_P D vwCl [(nm_, .inr (11, [.ref nknown_, .ref ntelling_, .ref nimages_, .ref nisImage_, .int mthrown_, .ref ntape_, .int mtaped_, .int mlength_, .int mhead_, .int mbegin_, .int mtoken_, .int mvalue_, .int mbad_, .int mbadPlace_, .int mfaultKind_, .int mfaultPlace_, .int mdeep_, .int mlawMany_, .int mlawAt_, .ref nstack_, .ref nasked_, .int mfell_, .int mfellIn_, .ref naside_, .int mstate_, .int mlanded_, .int mwaitFalls_, .int mwaitWeight_, .ref nfallsAfter_, .ref nfalling_, .ref ncomes_, .ref ngoesOn_, .ref nwayRow_, .ref nmany_, .ref nmanyThen_, .int mtoldLet_, .ref ntSort_, .ref ntMany_, .ref nnumbers_])), (ntSort_, .inl (cy 0, 4, .inl (ftSort_))), (ntMany_, .inl (cy 0, 4, .inl (ftMany_))), (nnumbers_, .inl (cy 2, 120, .inr (.inl (fnumbers_))))] H := hP
        have hD := va_ca hP hD
        have g8_ : rl (-2147483648) (0) m_.toInt64 := rl_le1 k60000030_2_ (rl_cut g7_ k60000030_0_) (rl_lit (by decide) : rl (0) (0) (0 : Int64)) (by decide)
        refine lv_if_ne (tgt := 40) hx hb dX11_tray_33 (by decide) (fun c70000033_ => rg_ne0 c70000033_ kr60000030_ (rg_lit (by decide) : rg (0) (0) (0 : Int32))) (fun c70000033_ => ?_)
        refine lv_iconst (v := 2) hx hb dX11_tray_36 (by decide) ?_
        refine lv_goto (tgt := 41) hx hb dX11_tray_37 (by decide) ?_
        refine va_put (ci := 11) (v := .int 2) (ty := .int) (C := RX11) (T := TX11) (N := 39) hx hb htA in_X11 tyX11 tyX11_ok nmX11 hown hK hP hD hS 0 rfl rfl 4 (by decide) (htA _ wd_1358) (fun _ h => h) rfl (by decide +kernel) rfl rfl (Nat.le_of_ble_eq_true rfl) dX11_tray_41 (fun H locs hP hD hS => ?_)
        have hP : va_P D vwCl [(nm_, .inr (11, [.ref nknown_, .ref ntelling_, .ref nimages_, .ref nisImage_, .int 2, .ref ntape_, .int mtaped_, .int mlength_, .int mhead_, .int mbegin_, .int mtoken_, .int mvalue_, .int mbad_, .int mbadPlace_, .int mfaultKind_, .int mfaultPlace_, .int mdeep_, .int mlawMany_, .int mlawAt_, .ref nstack_, .ref nasked_, .int mfell_, .int mfellIn_, .ref naside_, .int mstate_, .int mlanded_, .int mwaitFalls_, .int mwaitWeight_, .ref nfallsAfter_, .ref nfalling_, .ref ncomes_, .ref ngoesOn_, .ref nwayRow_, .ref nmany_, .ref nmanyThen_, .int mtoldLet_, .ref ntSort_, .ref ntMany_, .ref nnumbers_])), (ntSort_, .inl (cy 0, 4, .inl (ftSort_))), (ntMany_, .inl (cy 0, 4, .inl (ftMany_))), (nnumbers_, .inl (cy 2, 120, .inr (.inl (fnumbers_))))] H := hP
        have hD := va_ca hP hD
        refine lv_aload_n hx hb dX11_tray_44 rfl (lv_at hl 0 rfl) ?_
        refine va_get (ci := 11) (v := .int 2) (C := RX11) (T := TX11) (N := 39) hx hb htA in_X11 hown hK hP 0 rfl rfl 4 (by decide) (htA _ wd_1358) (fun _ h => h) rfl dX11_tray_45 ?_
        refine lv_if_le (tgt := 52) hx hb dX11_tray_48 (by decide) (fun q => absurd q (by decide)) (fun _ => ?_)
        exact rV hX hE hP hD hS dX11_tray_51 (by decide) (by decide) ⟨2, ftSort_, ftMany_, fnumbers_, (rg_w (rg_lit (by decide) : rg (2) (2) (2 : Int32)) (by decide) (by decide)), rftSort_, rftMany_, (Or.inr (Or.inr (Or.inr (Or.inr (Or.inl ⟨v10020_, v30010180_, v60010300_, k2_1_, k30000018_2_, k60000030_3_, rfl, rfl, rfl, rfl⟩))))), rfl⟩
      · have hP : va_P D vwCl [(nm_, .inr (11, [.ref nknown_, .ref ntelling_, .ref nimages_, .ref nisImage_, .int mthrown_, .ref ntape_, .int mtaped_, .int mlength_, .int mhead_, .int mbegin_, .int mtoken_, .int mvalue_, .int mbad_, .int mbadPlace_, .int mfaultKind_, .int mfaultPlace_, .int mdeep_, .int mlawMany_, .int mlawAt_, .ref nstack_, .ref nasked_, .int mfell_, .int mfellIn_, .ref naside_, .int mstate_, .int mlanded_, .int mwaitFalls_, .int mwaitWeight_, .ref nfallsAfter_, .ref nfalling_, .ref ncomes_, .ref ngoesOn_, .ref nwayRow_, .ref nmany_, .ref nmanyThen_, .int mtoldLet_, .ref ntSort_, .ref ntMany_, .ref nnumbers_])), (ntSort_, .inl (cy 0, 4, .inl (ftSort_))), (ntMany_, .inl (cy 0, 4, .inl (ftMany_))), (nnumbers_, .inl (cy 2, 120, .inr (.inl (fnumbers_))))] H := hP
        have hD := va_ca hP hD
        have g9_ : rl (0) (2147483647) m_.toInt64 := rl_le2 k60000030_2_ (rl_lit (by decide) : rl (0) (0) (0 : Int64)) (rl_cut g7_ k60000030_0_) (by decide)
        have g10_ : rl (30) (2147483647) m_.toInt64 := rl_le2 k60000030_3_ (rl_lit (by decide) : rl (30) (30) (30 : Int64)) g9_ (by decide)
        refine lv_if_ne (tgt := 40) hx hb dX11_tray_33 (by decide) (fun c80000033_ => rg_ne0 c80000033_ kr60000030_ (rg_lit (by decide) : rg (0) (0) (0 : Int32))) (fun c80000033_ => ?_)
        refine lv_iconst (v := 2) hx hb dX11_tray_36 (by decide) ?_
        refine lv_goto (tgt := 41) hx hb dX11_tray_37 (by decide) ?_
        refine va_put (ci := 11) (v := .int 2) (ty := .int) (C := RX11) (T := TX11) (N := 39) hx hb htA in_X11 tyX11 tyX11_ok nmX11 hown hK hP hD hS 0 rfl rfl 4 (by decide) (htA _ wd_1358) (fun _ h => h) rfl (by decide +kernel) rfl rfl (Nat.le_of_ble_eq_true rfl) dX11_tray_41 (fun H locs hP hD hS => ?_)
        have hP : va_P D vwCl [(nm_, .inr (11, [.ref nknown_, .ref ntelling_, .ref nimages_, .ref nisImage_, .int 2, .ref ntape_, .int mtaped_, .int mlength_, .int mhead_, .int mbegin_, .int mtoken_, .int mvalue_, .int mbad_, .int mbadPlace_, .int mfaultKind_, .int mfaultPlace_, .int mdeep_, .int mlawMany_, .int mlawAt_, .ref nstack_, .ref nasked_, .int mfell_, .int mfellIn_, .ref naside_, .int mstate_, .int mlanded_, .int mwaitFalls_, .int mwaitWeight_, .ref nfallsAfter_, .ref nfalling_, .ref ncomes_, .ref ngoesOn_, .ref nwayRow_, .ref nmany_, .ref nmanyThen_, .int mtoldLet_, .ref ntSort_, .ref ntMany_, .ref nnumbers_])), (ntSort_, .inl (cy 0, 4, .inl (ftSort_))), (ntMany_, .inl (cy 0, 4, .inl (ftMany_))), (nnumbers_, .inl (cy 2, 120, .inr (.inl (fnumbers_))))] H := hP
        have hD := va_ca hP hD
        refine lv_aload_n hx hb dX11_tray_44 rfl (lv_at hl 0 rfl) ?_
        refine va_get (ci := 11) (v := .int 2) (C := RX11) (T := TX11) (N := 39) hx hb htA in_X11 hown hK hP 0 rfl rfl 4 (by decide) (htA _ wd_1358) (fun _ h => h) rfl dX11_tray_45 ?_
        refine lv_if_le (tgt := 52) hx hb dX11_tray_48 (by decide) (fun q => absurd q (by decide)) (fun _ => ?_)
        exact rV hX hE hP hD hS dX11_tray_51 (by decide) (by decide) ⟨2, ftSort_, ftMany_, fnumbers_, (rg_w (rg_lit (by decide) : rg (2) (2) (2 : Int32)) (by decide) (by decide)), rftSort_, rftMany_, (Or.inr (Or.inr (Or.inr (Or.inr (Or.inr (Or.inl ⟨v10020_, v30010180_, v60010300_, k2_1_, k30000018_2_, k60000030_4_, rfl, rfl, rfl, rfl⟩)))))), rfl⟩
      · have hP : va_P D vwCl [(nm_, .inr (11, [.ref nknown_, .ref ntelling_, .ref nimages_, .ref nisImage_, .int mthrown_, .ref ntape_, .int mtaped_, .int mlength_, .int mhead_, .int mbegin_, .int mtoken_, .int mvalue_, .int mbad_, .int mbadPlace_, .int mfaultKind_, .int mfaultPlace_, .int mdeep_, .int mlawMany_, .int mlawAt_, .ref nstack_, .ref nasked_, .int mfell_, .int mfellIn_, .ref naside_, .int mstate_, .int mlanded_, .int mwaitFalls_, .int mwaitWeight_, .ref nfallsAfter_, .ref nfalling_, .ref ncomes_, .ref ngoesOn_, .ref nwayRow_, .ref nmany_, .ref nmanyThen_, .int mtoldLet_, .ref ntSort_, .ref ntMany_, .ref nnumbers_])), (ntSort_, .inl (cy 0, 4, .inl (ftSort_))), (ntMany_, .inl (cy 0, 4, .inl (ftMany_))), (nnumbers_, .inl (cy 2, 120, .inr (.inl (fnumbers_))))] H := hP
        have hD := va_ca hP hD
        have g11_ : rl (-2147483648) (30) m_.toInt64 := rl_le1 k60000030_0_ g7_ (rl_lit (by decide) : rl (30) (30) (30 : Int64)) (by decide)
        have g12_ : rl (0) (30) m_.toInt64 := rl_le2 k60000030_1_ (rl_lit (by decide) : rl (0) (0) (0 : Int64)) g11_ (by decide)
        refine lv_if_ne (tgt := 40) hx hb dX11_tray_33 (by decide) (fun c90000033_ => ?_) (fun c90000033_ => rg_eqab c90000033_ kr60000030_ (rg_lit (by decide) : rg (0) (0) (0 : Int32)) (by decide))
        refine lv_iconst (v := 0) hx hb dX11_tray_40 (by decide) ?_
        refine va_put (ci := 11) (v := .int 0) (ty := .int) (C := RX11) (T := TX11) (N := 39) hx hb htA in_X11 tyX11 tyX11_ok nmX11 hown hK hP hD hS 0 rfl rfl 4 (by decide) (htA _ wd_1358) (fun _ h => h) rfl (by decide +kernel) rfl rfl (Nat.le_of_ble_eq_true rfl) dX11_tray_41 (fun H locs hP hD hS => ?_)
        have hP : va_P D vwCl [(nm_, .inr (11, [.ref nknown_, .ref ntelling_, .ref nimages_, .ref nisImage_, .int 0, .ref ntape_, .int mtaped_, .int mlength_, .int mhead_, .int mbegin_, .int mtoken_, .int mvalue_, .int mbad_, .int mbadPlace_, .int mfaultKind_, .int mfaultPlace_, .int mdeep_, .int mlawMany_, .int mlawAt_, .ref nstack_, .ref nasked_, .int mfell_, .int mfellIn_, .ref naside_, .int mstate_, .int mlanded_, .int mwaitFalls_, .int mwaitWeight_, .ref nfallsAfter_, .ref nfalling_, .ref ncomes_, .ref ngoesOn_, .ref nwayRow_, .ref nmany_, .ref nmanyThen_, .int mtoldLet_, .ref ntSort_, .ref ntMany_, .ref nnumbers_])), (ntSort_, .inl (cy 0, 4, .inl (ftSort_))), (ntMany_, .inl (cy 0, 4, .inl (ftMany_))), (nnumbers_, .inl (cy 2, 120, .inr (.inl (fnumbers_))))] H := hP
        have hD := va_ca hP hD
        refine lv_aload_n hx hb dX11_tray_44 rfl (lv_at hl 0 rfl) ?_
        refine va_get (ci := 11) (v := .int 0) (C := RX11) (T := TX11) (N := 39) hx hb htA in_X11 hown hK hP 0 rfl rfl 4 (by decide) (htA _ wd_1358) (fun _ h => h) rfl dX11_tray_45 ?_
        refine lv_if_le (tgt := 52) hx hb dX11_tray_48 (by decide) (fun _ => ?_) (fun q => absurd (by decide) q)
        refine lv_aload_n hx hb dX11_tray_52 rfl (lv_at hl 0 rfl) ?_
        refine va_get (ci := 11) (v := .ref ntSort_) (C := RX11) (T := TX11) (N := 39) hx hb htA in_X11 hown hK hP 0 rfl rfl 36 (by decide) (htA _ wd_1390) (fun _ h => h) rfl dX11_tray_53 ?_
        refine lv_iload_n hx hb dX11_tray_56 rfl (lv_at hl 1 rfl) ?_
        refine lv_iload_n hx hb dX11_tray_57 rfl (lv_at hl 2 rfl) ?_
        refine va_iast hx hb hK hP hD hS 1 0 rfl rfl (rg_in k2_0_ (by decide) (by decide)) dX11_tray_58 (fun H locs hP hD hS => ?_)
        have ga13_ : ag (-1) (3) 4 (upd ftSort_ t_.toNatClampNeg s_) := ag_upd rftSort_ (rg_w (rl_b g6_) (by decide) (by decide))
        have hP : va_P D vwCl [(nm_, .inr (11, [.ref nknown_, .ref ntelling_, .ref nimages_, .ref nisImage_, .int 0, .ref ntape_, .int mtaped_, .int mlength_, .int mhead_, .int mbegin_, .int mtoken_, .int mvalue_, .int mbad_, .int mbadPlace_, .int mfaultKind_, .int mfaultPlace_, .int mdeep_, .int mlawMany_, .int mlawAt_, .ref nstack_, .ref nasked_, .int mfell_, .int mfellIn_, .ref naside_, .int mstate_, .int mlanded_, .int mwaitFalls_, .int mwaitWeight_, .ref nfallsAfter_, .ref nfalling_, .ref ncomes_, .ref ngoesOn_, .ref nwayRow_, .ref nmany_, .ref nmanyThen_, .int mtoldLet_, .ref ntSort_, .ref ntMany_, .ref nnumbers_])), (ntSort_, .inl (cy 0, 4, .inl (upd ftSort_ t_.toNatClampNeg s_))), (ntMany_, .inl (cy 0, 4, .inl (ftMany_))), (nnumbers_, .inl (cy 2, 120, .inr (.inl (fnumbers_))))] H := hP
        have hD := va_ca hP hD
        refine lv_aload_n hx hb dX11_tray_59 rfl (lv_at hl 0 rfl) ?_
        refine va_get (ci := 11) (v := .ref ntMany_) (C := RX11) (T := TX11) (N := 39) hx hb htA in_X11 hown hK hP 0 rfl rfl 37 (by decide) (htA _ wd_1391) (fun _ h => h) rfl dX11_tray_60 ?_
        refine lv_iload_n hx hb dX11_tray_63 rfl (lv_at hl 1 rfl) ?_
        refine lv_iload_n hx hb dX11_tray_64 rfl (lv_at hl 3 rfl) ?_
        refine va_iast hx hb hK hP hD hS 2 0 rfl rfl (rg_in k2_0_ (by decide) (by decide)) dX11_tray_65 (fun H locs hP hD hS => ?_)
        have ga14_ : ag (0) (30) 4 (upd ftMany_ t_.toNatClampNeg m_) := ag_upd rftMany_ (rg_w (rl_b g12_) (by decide) (by decide))
        have hP : va_P D vwCl [(nm_, .inr (11, [.ref nknown_, .ref ntelling_, .ref nimages_, .ref nisImage_, .int 0, .ref ntape_, .int mtaped_, .int mlength_, .int mhead_, .int mbegin_, .int mtoken_, .int mvalue_, .int mbad_, .int mbadPlace_, .int mfaultKind_, .int mfaultPlace_, .int mdeep_, .int mlawMany_, .int mlawAt_, .ref nstack_, .ref nasked_, .int mfell_, .int mfellIn_, .ref naside_, .int mstate_, .int mlanded_, .int mwaitFalls_, .int mwaitWeight_, .ref nfallsAfter_, .ref nfalling_, .ref ncomes_, .ref ngoesOn_, .ref nwayRow_, .ref nmany_, .ref nmanyThen_, .int mtoldLet_, .ref ntSort_, .ref ntMany_, .ref nnumbers_])), (ntSort_, .inl (cy 0, 4, .inl (upd ftSort_ t_.toNatClampNeg s_))), (ntMany_, .inl (cy 0, 4, .inl (upd ftMany_ t_.toNatClampNeg m_))), (nnumbers_, .inl (cy 2, 120, .inr (.inl (fnumbers_))))] H := hP
        have hD := va_ca hP hD
        refine lv_iconst (v := 0) hx hb dX11_tray_66 (by decide) ?_
        refine lv_istore (lv' := [(4, .int 0), (0, .ref nm_), (1, .int t_), (2, .int s_), (3, .int m_)]) hx hb dX11_tray_67 hl (by decide) rfl (fun ls hl => ?_)
        refine loopT (τ := Int32 × (Nat → Int64)) (WS := fun i => [(nm_, .inr (11, [.ref nknown_, .ref ntelling_, .ref nimages_, .ref nisImage_, .int 0, .ref ntape_, .int mtaped_, .int mlength_, .int mhead_, .int mbegin_, .int mtoken_, .int mvalue_, .int mbad_, .int mbadPlace_, .int mfaultKind_, .int mfaultPlace_, .int mdeep_, .int mlawMany_, .int mlawAt_, .ref nstack_, .ref nasked_, .int mfell_, .int mfellIn_, .ref naside_, .int mstate_, .int mlanded_, .int mwaitFalls_, .int mwaitWeight_, .ref nfallsAfter_, .ref nfalling_, .ref ncomes_, .ref ngoesOn_, .ref nwayRow_, .ref nmany_, .ref nmanyThen_, .int mtoldLet_, .ref ntSort_, .ref ntMany_, .ref nnumbers_])), (ntSort_, .inl (cy 0, 4, .inl (upd ftSort_ t_.toNatClampNeg s_))), (ntMany_, .inl (cy 0, 4, .inl (upd ftMany_ t_.toNatClampNeg m_))), (nnumbers_, .inl (cy 2, 120, .inr (.inl (i.2))))]) (LV := fun i => [(4, .int i.1), (0, .ref nm_), (1, .int t_), (2, .int s_), (3, .int m_)]) (fun i => (31 - i.1.toInt).toNat) (fun i => rg (0) (30) i.1 ∧ Itr (R_X11_tray_b2 t_) (0, fnumbers_) (i.1, i.2)) ?_ (0, fnumbers_) ⟨(rg_w (rg_lit (by decide) : rg (0) (0) (0 : Int32)) (by decide) (by decide)), (Itr.rf _ _)⟩ hP hD hS (lv_sub hl [0, 1, 2, 3, 4] rfl)
        intro i_ H locs ls hI ih69_ hP hD hS hl
        obtain ⟨v90206900_, g90206901_⟩ := i_
        have hI : rg (0) (30) v90206900_ ∧ Itr (R_X11_tray_b2 t_) (0, fnumbers_) (v90206900_, g90206901_) := hI
        obtain ⟨rv90206900_, hR2_⟩ := hI
        have hP : va_P D vwCl [(nm_, .inr (11, [.ref nknown_, .ref ntelling_, .ref nimages_, .ref nisImage_, .int 0, .ref ntape_, .int mtaped_, .int mlength_, .int mhead_, .int mbegin_, .int mtoken_, .int mvalue_, .int mbad_, .int mbadPlace_, .int mfaultKind_, .int mfaultPlace_, .int mdeep_, .int mlawMany_, .int mlawAt_, .ref nstack_, .ref nasked_, .int mfell_, .int mfellIn_, .ref naside_, .int mstate_, .int mlanded_, .int mwaitFalls_, .int mwaitWeight_, .ref nfallsAfter_, .ref nfalling_, .ref ncomes_, .ref ngoesOn_, .ref nwayRow_, .ref nmany_, .ref nmanyThen_, .int mtoldLet_, .ref ntSort_, .ref ntMany_, .ref nnumbers_])), (ntSort_, .inl (cy 0, 4, .inl (upd ftSort_ t_.toNatClampNeg s_))), (ntMany_, .inl (cy 0, 4, .inl (upd ftMany_ t_.toNatClampNeg m_))), (nnumbers_, .inl (cy 2, 120, .inr (.inl (g90206901_))))] H := hP
        have hD := va_ca hP hD
        have hl : lv_has ls 5 [(4, .int v90206900_), (0, .ref nm_), (1, .int t_), (2, .int s_), (3, .int m_)] := hl
        refine lv_iload hx hb dX11_tray_69 (lv_at hl 0 rfl) ?_
        refine lv_bipush (v := 30) hx hb dX11_tray_71 (by decide) ?_
        refine lv_icmp_ge (tgt := 95) hx hb dX11_tray_73 (by decide) (fun c90000073_ => ?_) (fun c90000073_ => ?_)
        · have g15_ : rg (30) (30) v90206900_ := rg_le2 c90000073_ (rg_lit (by decide) : rg (30) (30) (30 : Int32)) rv90206900_ (by decide)
          exact rV hX hE hP hD hS dX11_tray_95 (by decide) (by decide) ⟨0, (upd ftSort_ t_.toNatClampNeg s_), (upd ftMany_ t_.toNatClampNeg m_), g90206901_, (rg_w (rg_lit (by decide) : rg (0) (0) (0 : Int32)) (by decide) (by decide)), ga13_, ga14_, (Or.inr (Or.inr (Or.inr (Or.inr (Or.inr (Or.inr (Or.inl ⟨v10020_, v30010180_, v60010300_, v90206900_, g90206901_, k2_1_, k30000018_2_, k60000030_2_, hR2_, c90000073_, rfl, rfl, rfl, rfl⟩))))))), rfl⟩
        · have g16_ : rg (0) (29) v90206900_ := rg_lt1 (rg_nle c90000073_) rv90206900_ (rg_lit (by decide) : rg (30) (30) (30 : Int32)) (by decide)
          refine lv_aload_n hx hb dX11_tray_76 rfl (lv_at hl 1 rfl) ?_
          refine va_get (ci := 11) (v := .ref nnumbers_) (C := RX11) (T := TX11) (N := 39) hx hb htA in_X11 hown hK hP 0 rfl rfl 38 (by decide) (htA _ wd_1392) (fun _ h => h) rfl dX11_tray_77 ?_
          refine lv_bipush (v := 30) hx hb dX11_tray_80 (by decide) ?_
          refine lv_iload_n hx hb dX11_tray_82 rfl (lv_at hl 2 rfl) ?_
          refine lv_imul hx hb dX11_tray_83 ?_
          have g17_ : rg (0) (90) (30 * t_) := rg_mulc (k := 30) (by decide) k2_0_ (by decide) (by decide) (by decide) (by decide) (by decide)
          refine lv_iload hx hb dX11_tray_84 (lv_at hl 0 rfl) ?_
          refine lv_iadd hx hb dX11_tray_86 ?_
          have g18_ : rg (0) (119) ((30 * t_) + v90206900_) := rg_add g17_ g16_ (by decide) (by decide) (by decide) (by decide)
          refine lv_lconst (v := 0) hx hb dX11_tray_87 (by decide) ?_
          refine va_last hx hb hK hP hD hS 3 2 rfl rfl (rg_in g18_ (by decide) (by decide)) dX11_tray_88 (fun H locs hP hD hS => ?_)
          have hP : va_P D vwCl [(nm_, .inr (11, [.ref nknown_, .ref ntelling_, .ref nimages_, .ref nisImage_, .int 0, .ref ntape_, .int mtaped_, .int mlength_, .int mhead_, .int mbegin_, .int mtoken_, .int mvalue_, .int mbad_, .int mbadPlace_, .int mfaultKind_, .int mfaultPlace_, .int mdeep_, .int mlawMany_, .int mlawAt_, .ref nstack_, .ref nasked_, .int mfell_, .int mfellIn_, .ref naside_, .int mstate_, .int mlanded_, .int mwaitFalls_, .int mwaitWeight_, .ref nfallsAfter_, .ref nfalling_, .ref ncomes_, .ref ngoesOn_, .ref nwayRow_, .ref nmany_, .ref nmanyThen_, .int mtoldLet_, .ref ntSort_, .ref ntMany_, .ref nnumbers_])), (ntSort_, .inl (cy 0, 4, .inl (upd ftSort_ t_.toNatClampNeg s_))), (ntMany_, .inl (cy 0, 4, .inl (upd ftMany_ t_.toNatClampNeg m_))), (nnumbers_, .inl (cy 2, 120, .inr (.inl (vp_updL g90206901_ (((30 * t_) + v90206900_).toNatClampNeg) 0))))] H := hP
          have hD := va_ca hP hD
          refine lv_iinc (v := v90206900_ + 1) (lv' := [(4, .int (v90206900_ + 1)), (0, .ref nm_), (1, .int t_), (2, .int s_), (3, .int m_)]) hx hb dX11_tray_89 hl (k := 0) rfl rfl (by decide) rfl (fun ls hl => ?_)
          have g19_ : rg (1) (30) (v90206900_ + 1) := rg_add g16_ (rg_lit (by decide) : rg (1) (1) (1 : Int32)) (by decide) (by decide) (by decide) (by decide)
          refine lv_goto (tgt := 69) hx hb dX11_tray_92 (by decide) ?_
          exact ih69_ (v90206900_ + 1, vp_updL g90206901_ (((30 * t_) + v90206900_).toNatClampNeg) 0) _ _ ls ⟨(rg_w g19_ (by decide) (by decide)), (Itr.st hR2_ (Or.inl ⟨c90000073_, rfl⟩))⟩ (show (31 - (v90206900_ + 1).toInt).toNat < (31 - v90206900_.toInt).toNat from by rw [show (v90206900_ + 1).toInt = v90206900_.toInt + 1 from inc32 v90206900_ (by have hq := (rv90206900_).2; omega)]; have hq := (g16_).1; have hq2 := (g16_).2; omega) hP hD hS (lv_sub hl [0, 1, 2, 3, 4] rfl)
def R_X11_write_e (t_ : Int32) (fnumbers_ : Nat → Int64) (ftSort_ : Nat → Int32) (ftMany_ : Nat → Int32) (p_ : Int32) (v_ : Int64) (x0_ : Int32) (x1_ : Nat → Int64) (r : Int64) : Prop := (∃ (v10030_ : Int32), R_X11_trayFault_e1 t_ v10030_ ∧ ¬ (v10030_ ≤ (0 : Int32)) ∧ x0_ = v10030_ ∧ x1_ = fnumbers_ ∧ r = (0 : Int64)) ∨ (∃ (v10030_ : Int32), R_X11_trayFault_e2 t_ v10030_ ∧ ¬ (v10030_ ≤ (0 : Int32)) ∧ x0_ = v10030_ ∧ x1_ = fnumbers_ ∧ r = (0 : Int64)) ∨ (∃ (v10030_ : Int32) (v30010260_ : Int32) (v30010300_ : Int32) (v40010480_ : Int32), R_X11_trayFault_e3 t_ ftSort_ v10030_ ∧ v10030_ ≤ (0 : Int32) ∧ v30010260_ = ftMany_ t_.toNatClampNeg ∧ R_X11_within_w_e1 p_.toInt64 ((0 : Int64)) v30010300_ ∧ R_X11_fails_e v40010480_ ∧ x0_ = (3 : Int32) ∧ x1_ = fnumbers_ ∧ r = v40010480_.toInt64) ∨ (∃ (v10030_ : Int32) (v30010260_ : Int32) (v30010300_ : Int32) (v50010480_ : Int32), R_X11_trayFault_e3 t_ ftSort_ v10030_ ∧ v10030_ ≤ (0 : Int32) ∧ v30010260_ = ftMany_ t_.toNatClampNeg ∧ R_X11_within_w_e2 p_.toInt64 ((0 : Int64)) (((v30010260_ - 1).toInt64)) v30010300_ ∧ R_X11_fails_e v50010480_ ∧ x0_ = (3 : Int32) ∧ x1_ = fnumbers_ ∧ r = v50010480_.toInt64) ∨ (∃ (v10030_ : Int32) (v30010260_ : Int32) (v30010300_ : Int32) (g60010401_ : Nat → Int64) (w60010400_ : Int64), R_X11_trayFault_e3 t_ ftSort_ v10030_ ∧ v10030_ ≤ (0 : Int32) ∧ v30010260_ = ftMany_ t_.toNatClampNeg ∧ R_X11_within_w_e3 p_.toInt64 ((0 : Int64)) (((v30010260_ - 1).toInt64)) v30010300_ ∧ R_X11_cut_e ftSort_ t_ fnumbers_ p_ v_ g60010401_ w60010400_ ∧ x0_ = v10030_ ∧ x1_ = g60010401_ ∧ r = w60010400_) ∨ (∃ (v10030_ : Int32), R_X11_trayFault_e4 t_ ftSort_ v10030_ ∧ ¬ (v10030_ ≤ (0 : Int32)) ∧ x0_ = v10030_ ∧ x1_ = fnumbers_ ∧ r = (0 : Int64)) ∨ False
set_option maxHeartbeats 4000000 in
set_option maxRecDepth 100000 in
theorem sf_X11_write (l : Launch) (D : va_G) (cy : Nat → ClassId) (nm_ : Nat) (nknown_ : Nat) (ntelling_ : Nat) (nimages_ : Nat) (nisImage_ : Nat) (mthrown_ : Int32) (ntape_ : Nat) (mtaped_ : Int32) (mlength_ : Int32) (mhead_ : Int32) (mbegin_ : Int32) (mtoken_ : Int32) (mvalue_ : Int32) (mbad_ : Int32) (mbadPlace_ : Int32) (mfaultKind_ : Int32) (mfaultPlace_ : Int32) (mdeep_ : Int32) (mlawMany_ : Int32) (mlawAt_ : Int32) (nstack_ : Nat) (nasked_ : Nat) (mfell_ : Int32) (mfellIn_ : Int32) (naside_ : Nat) (mstate_ : Int32) (mlanded_ : Int32) (mwaitFalls_ : Int32) (mwaitWeight_ : Int32) (nfallsAfter_ : Nat) (nfalling_ : Nat) (ncomes_ : Nat) (ngoesOn_ : Nat) (nwayRow_ : Nat) (nmany_ : Nat) (nmanyThen_ : Nat) (mtoldLet_ : Int32) (ntSort_ : Nat) (ntMany_ : Nat) (nnumbers_ : Nat) (ftSort_ : Nat → Int32) (ftMany_ : Nat → Int32) (fnumbers_ : Nat → Int64) (t_ : Int32) (p_ : Int32) (v_ : Int64) (rmtaped_ : rg (0) (900) mtaped_) (rmlength_ : rg (0) (900) mlength_) (rmhead_ : rg (0) (900) mhead_) (rmbegin_ : rg (0) (900) mbegin_) (rftMany_ : ag (0) (30) 4 ftMany_) (rftSort_ : ag (-1) (3) 4 ftSort_) : Cl l yX11_write cX11_write 5 (some .long) { frames := 3, cells := 0, slots := 0, locals := 66 } D cy [.ref nm_, .int t_, .int p_, .long v_] [(nm_, .inr (11, [.ref nknown_, .ref ntelling_, .ref nimages_, .ref nisImage_, .int mthrown_, .ref ntape_, .int mtaped_, .int mlength_, .int mhead_, .int mbegin_, .int mtoken_, .int mvalue_, .int mbad_, .int mbadPlace_, .int mfaultKind_, .int mfaultPlace_, .int mdeep_, .int mlawMany_, .int mlawAt_, .ref nstack_, .ref nasked_, .int mfell_, .int mfellIn_, .ref naside_, .int mstate_, .int mlanded_, .int mwaitFalls_, .int mwaitWeight_, .ref nfallsAfter_, .ref nfalling_, .ref ncomes_, .ref ngoesOn_, .ref nwayRow_, .ref nmany_, .ref nmanyThen_, .int mtoldLet_, .ref ntSort_, .ref ntMany_, .ref nnumbers_])), (ntSort_, .inl (cy 0, 4, .inl (ftSort_))), (ntMany_, .inl (cy 0, 4, .inl (ftMany_))), (nnumbers_, .inl (cy 2, 120, .inr (.inl (fnumbers_))))] (fun r W1 => ∃ (x0_ : Int32) (x1_ : Nat → Int64), rg (0) (3) x0_ ∧ R_X11_write_e t_ fnumbers_ ftSort_ ftMany_ p_ v_ x0_ x1_ r ∧ W1 = [(nm_, .inr (11, [.ref nknown_, .ref ntelling_, .ref nimages_, .ref nisImage_, .int x0_, .ref ntape_, .int mtaped_, .int mlength_, .int mhead_, .int mbegin_, .int mtoken_, .int mvalue_, .int mbad_, .int mbadPlace_, .int mfaultKind_, .int mfaultPlace_, .int mdeep_, .int mlawMany_, .int mlawAt_, .ref nstack_, .ref nasked_, .int mfell_, .int mfellIn_, .ref naside_, .int mstate_, .int mlanded_, .int mwaitFalls_, .int mwaitWeight_, .ref nfallsAfter_, .ref nfalling_, .ref ncomes_, .ref ngoesOn_, .ref nwayRow_, .ref nmany_, .ref nmanyThen_, .int mtoldLet_, .ref ntSort_, .ref ntMany_, .ref nnumbers_])), (ntSort_, .inl (cy 0, 4, .inl (ftSort_))), (ntMany_, .inl (cy 0, 4, .inl (ftMany_))), (nnumbers_, .inl (cy 2, 120, .inr (.inl (x1_))))]) := by
  refine Cl.of (by decide) (Nat.le_of_ble_eq_true rfl) ?_
  intro p e s m below meth c A ls hX hE hP hD hl
  obtain ⟨hx, hb, hr, hml, hown, htA, hlk⟩ := id hX
  have hK := hE.1
  have hS : va_S A s.heap s.heap [] := va_S.rf
  have hl : lv_has ls 5 [(0, .ref nm_), (1, .int t_), (2, .int p_), (3, .long v_)] := hl
  refine lv_aload_n hx hb dX11_write_0 rfl (lv_at hl 0 rfl) ?_
  refine lv_aload_n hx hb dX11_write_1 rfl (lv_at hl 0 rfl) ?_
  refine lv_iload_n hx hb dX11_write_2 rfl (lv_at hl 1 rfl) ?_
  refine kVi (As := [.int t_]) (rest := [.ref nm_]) (wr := [(ntMany_, .inl (cy 0, 4, .inl (ftMany_))), (nnumbers_, .inl (cy 2, 120, .inr (.inl (fnumbers_))))]) hX hE (sf_X11_trayFault l D cy nm_ nknown_ ntelling_ nimages_ nisImage_ mthrown_ ntape_ mtaped_ mlength_ mhead_ mbegin_ mtoken_ mvalue_ mbad_ mbadPlace_ mfaultKind_ mfaultPlace_ mdeep_ mlawMany_ mlawAt_ nstack_ nasked_ mfell_ mfellIn_ naside_ mstate_ mlanded_ mwaitFalls_ mwaitWeight_ nfallsAfter_ nfalling_ ncomes_ ngoesOn_ nwayRow_ nmany_ nmanyThen_ mtoldLet_ ntSort_ ntMany_ nnumbers_ ftSort_ t_ (rg_w rmtaped_ (by decide) (by decide)) (rg_w rmlength_ (by decide) (by decide)) (rg_w rmhead_ (by decide) (by decide)) (rg_w rmbegin_ (by decide) (by decide)) rftSort_) (cwVA 1 htA wd_1812 wd_1809 wd_10 wd_1811 wp_95 (by decide +kernel) ⟨by decide, by decide⟩) hP hD hS [0, 1] [2, 3] rfl rfl (by decide +kernel) 0 rfl rfl rfl rfl hl.1 rfl (Nat.le_of_ble_eq_true rfl) dX11_write_3 (by decide) (fun v10030_ W1 H locs hw hP hD hS => ?_)
  refine W.widen (k := 0) (n := 0) (by decide) (by decide) ?_
  rcases hw with ⟨k3_0_, k3_1_, rfl, kr3_⟩ | ⟨k3_0_, k3_1_, rfl, kr3_⟩ | ⟨k3_0_, k3_1_, rfl, kr3_⟩ | ⟨k3_0_, k3_1_, rfl, kr3_⟩
  · have hP : va_P D vwCl [(ntMany_, .inl (cy 0, 4, .inl (ftMany_))), (nnumbers_, .inl (cy 2, 120, .inr (.inl (fnumbers_)))), (nm_, .inr (11, [.ref nknown_, .ref ntelling_, .ref nimages_, .ref nisImage_, .int mthrown_, .ref ntape_, .int mtaped_, .int mlength_, .int mhead_, .int mbegin_, .int mtoken_, .int mvalue_, .int mbad_, .int mbadPlace_, .int mfaultKind_, .int mfaultPlace_, .int mdeep_, .int mlawMany_, .int mlawAt_, .ref nstack_, .ref nasked_, .int mfell_, .int mfellIn_, .ref naside_, .int mstate_, .int mlanded_, .int mwaitFalls_, .int mwaitWeight_, .ref nfallsAfter_, .ref nfalling_, .ref ncomes_, .ref ngoesOn_, .ref nwayRow_, .ref nmany_, .ref nmanyThen_, .int mtoldLet_, .ref ntSort_, .ref ntMany_, .ref nnumbers_])), (ntSort_, .inl (cy 0, 4, .inl (ftSort_)))] H := hP
    have hD := va_ca hP hD
    refine va_put (ci := 11) (v := .int v10030_) (ty := .int) (C := RX11) (T := TX11) (N := 39) hx hb htA in_X11 tyX11 tyX11_ok nmX11 hown hK hP hD hS 2 rfl rfl 4 (by decide) (htA _ wd_1358) (fun _ h => h) rfl (by decide +kernel) rfl rfl (Nat.le_of_ble_eq_true rfl) dX11_write_6 (fun H locs hP hD hS => ?_)
    have hP : va_P D vwCl [(ntMany_, .inl (cy 0, 4, .inl (ftMany_))), (nnumbers_, .inl (cy 2, 120, .inr (.inl (fnumbers_)))), (nm_, .inr (11, [.ref nknown_, .ref ntelling_, .ref nimages_, .ref nisImage_, .int v10030_, .ref ntape_, .int mtaped_, .int mlength_, .int mhead_, .int mbegin_, .int mtoken_, .int mvalue_, .int mbad_, .int mbadPlace_, .int mfaultKind_, .int mfaultPlace_, .int mdeep_, .int mlawMany_, .int mlawAt_, .ref nstack_, .ref nasked_, .int mfell_, .int mfellIn_, .ref naside_, .int mstate_, .int mlanded_, .int mwaitFalls_, .int mwaitWeight_, .ref nfallsAfter_, .ref nfalling_, .ref ncomes_, .ref ngoesOn_, .ref nwayRow_, .ref nmany_, .ref nmanyThen_, .int mtoldLet_, .ref ntSort_, .ref ntMany_, .ref nnumbers_])), (ntSort_, .inl (cy 0, 4, .inl (ftSort_)))] H := hP
    have hD := va_ca hP hD
    refine lv_aload_n hx hb dX11_write_9 rfl (lv_at hl 0 rfl) ?_
    refine va_get (ci := 11) (v := .int v10030_) (C := RX11) (T := TX11) (N := 39) hx hb htA in_X11 hown hK hP 2 rfl rfl 4 (by decide) (htA _ wd_1358) (fun _ h => h) rfl dX11_write_10 ?_
    refine lv_if_le (tgt := 18) hx hb dX11_write_13 (by decide) (fun c10000013_ => rg_no (rg_le1 c10000013_ kr3_ (rg_lit (by decide) : rg (0) (0) (0 : Int32)) (Int.le_refl _)) (by decide)) (fun c10000013_ => ?_)
    refine lv_lconst (v := 0) hx hb dX11_write_16 (by decide) ?_
    have hP : va_P D vwCl [(nm_, .inr (11, [.ref nknown_, .ref ntelling_, .ref nimages_, .ref nisImage_, .int v10030_, .ref ntape_, .int mtaped_, .int mlength_, .int mhead_, .int mbegin_, .int mtoken_, .int mvalue_, .int mbad_, .int mbadPlace_, .int mfaultKind_, .int mfaultPlace_, .int mdeep_, .int mlawMany_, .int mlawAt_, .ref nstack_, .ref nasked_, .int mfell_, .int mfellIn_, .ref naside_, .int mstate_, .int mlanded_, .int mwaitFalls_, .int mwaitWeight_, .ref nfallsAfter_, .ref nfalling_, .ref ncomes_, .ref ngoesOn_, .ref nwayRow_, .ref nmany_, .ref nmanyThen_, .int mtoldLet_, .ref ntSort_, .ref ntMany_, .ref nnumbers_])), (ntSort_, .inl (cy 0, 4, .inl (ftSort_))), (ntMany_, .inl (cy 0, 4, .inl (ftMany_))), (nnumbers_, .inl (cy 2, 120, .inr (.inl (fnumbers_))))] H := hP.sub [2, 3, 0, 1] rfl
    have hD : va_D A [(nm_, .inr (11, [.ref nknown_, .ref ntelling_, .ref nimages_, .ref nisImage_, .int v10030_, .ref ntape_, .int mtaped_, .int mlength_, .int mhead_, .int mbegin_, .int mtoken_, .int mvalue_, .int mbad_, .int mbadPlace_, .int mfaultKind_, .int mfaultPlace_, .int mdeep_, .int mlawMany_, .int mlawAt_, .ref nstack_, .ref nasked_, .int mfell_, .int mfellIn_, .ref naside_, .int mstate_, .int mlanded_, .int mwaitFalls_, .int mwaitWeight_, .ref nfallsAfter_, .ref nfalling_, .ref ncomes_, .ref ngoesOn_, .ref nwayRow_, .ref nmany_, .ref nmanyThen_, .int mtoldLet_, .ref ntSort_, .ref ntMany_, .ref nnumbers_])), (ntSort_, .inl (cy 0, 4, .inl (ftSort_))), (ntMany_, .inl (cy 0, 4, .inl (ftMany_))), (nnumbers_, .inl (cy 2, 120, .inr (.inl (fnumbers_))))] := hD.sub [2, 3, 0, 1] (by decide +kernel) rfl
    exact rL hX hE hP hD hS dX11_write_17 (by decide) (by decide) ⟨v10030_, fnumbers_, (rg_w kr3_ (by decide) (by decide)), (Or.inl ⟨v10030_, k3_1_, c10000013_, rfl, rfl, rfl⟩), rfl⟩
  · have hP : va_P D vwCl [(ntMany_, .inl (cy 0, 4, .inl (ftMany_))), (nnumbers_, .inl (cy 2, 120, .inr (.inl (fnumbers_)))), (nm_, .inr (11, [.ref nknown_, .ref ntelling_, .ref nimages_, .ref nisImage_, .int mthrown_, .ref ntape_, .int mtaped_, .int mlength_, .int mhead_, .int mbegin_, .int mtoken_, .int mvalue_, .int mbad_, .int mbadPlace_, .int mfaultKind_, .int mfaultPlace_, .int mdeep_, .int mlawMany_, .int mlawAt_, .ref nstack_, .ref nasked_, .int mfell_, .int mfellIn_, .ref naside_, .int mstate_, .int mlanded_, .int mwaitFalls_, .int mwaitWeight_, .ref nfallsAfter_, .ref nfalling_, .ref ncomes_, .ref ngoesOn_, .ref nwayRow_, .ref nmany_, .ref nmanyThen_, .int mtoldLet_, .ref ntSort_, .ref ntMany_, .ref nnumbers_])), (ntSort_, .inl (cy 0, 4, .inl (ftSort_)))] H := hP
    have hD := va_ca hP hD
    refine va_put (ci := 11) (v := .int v10030_) (ty := .int) (C := RX11) (T := TX11) (N := 39) hx hb htA in_X11 tyX11 tyX11_ok nmX11 hown hK hP hD hS 2 rfl rfl 4 (by decide) (htA _ wd_1358) (fun _ h => h) rfl (by decide +kernel) rfl rfl (Nat.le_of_ble_eq_true rfl) dX11_write_6 (fun H locs hP hD hS => ?_)
    have hP : va_P D vwCl [(ntMany_, .inl (cy 0, 4, .inl (ftMany_))), (nnumbers_, .inl (cy 2, 120, .inr (.inl (fnumbers_)))), (nm_, .inr (11, [.ref nknown_, .ref ntelling_, .ref nimages_, .ref nisImage_, .int v10030_, .ref ntape_, .int mtaped_, .int mlength_, .int mhead_, .int mbegin_, .int mtoken_, .int mvalue_, .int mbad_, .int mbadPlace_, .int mfaultKind_, .int mfaultPlace_, .int mdeep_, .int mlawMany_, .int mlawAt_, .ref nstack_, .ref nasked_, .int mfell_, .int mfellIn_, .ref naside_, .int mstate_, .int mlanded_, .int mwaitFalls_, .int mwaitWeight_, .ref nfallsAfter_, .ref nfalling_, .ref ncomes_, .ref ngoesOn_, .ref nwayRow_, .ref nmany_, .ref nmanyThen_, .int mtoldLet_, .ref ntSort_, .ref ntMany_, .ref nnumbers_])), (ntSort_, .inl (cy 0, 4, .inl (ftSort_)))] H := hP
    have hD := va_ca hP hD
    refine lv_aload_n hx hb dX11_write_9 rfl (lv_at hl 0 rfl) ?_
    refine va_get (ci := 11) (v := .int v10030_) (C := RX11) (T := TX11) (N := 39) hx hb htA in_X11 hown hK hP 2 rfl rfl 4 (by decide) (htA _ wd_1358) (fun _ h => h) rfl dX11_write_10 ?_
    refine lv_if_le (tgt := 18) hx hb dX11_write_13 (by decide) (fun c20000013_ => rg_no (rg_le1 c20000013_ kr3_ (rg_lit (by decide) : rg (0) (0) (0 : Int32)) (Int.le_refl _)) (by decide)) (fun c20000013_ => ?_)
    refine lv_lconst (v := 0) hx hb dX11_write_16 (by decide) ?_
    have hP : va_P D vwCl [(nm_, .inr (11, [.ref nknown_, .ref ntelling_, .ref nimages_, .ref nisImage_, .int v10030_, .ref ntape_, .int mtaped_, .int mlength_, .int mhead_, .int mbegin_, .int mtoken_, .int mvalue_, .int mbad_, .int mbadPlace_, .int mfaultKind_, .int mfaultPlace_, .int mdeep_, .int mlawMany_, .int mlawAt_, .ref nstack_, .ref nasked_, .int mfell_, .int mfellIn_, .ref naside_, .int mstate_, .int mlanded_, .int mwaitFalls_, .int mwaitWeight_, .ref nfallsAfter_, .ref nfalling_, .ref ncomes_, .ref ngoesOn_, .ref nwayRow_, .ref nmany_, .ref nmanyThen_, .int mtoldLet_, .ref ntSort_, .ref ntMany_, .ref nnumbers_])), (ntSort_, .inl (cy 0, 4, .inl (ftSort_))), (ntMany_, .inl (cy 0, 4, .inl (ftMany_))), (nnumbers_, .inl (cy 2, 120, .inr (.inl (fnumbers_))))] H := hP.sub [2, 3, 0, 1] rfl
    have hD : va_D A [(nm_, .inr (11, [.ref nknown_, .ref ntelling_, .ref nimages_, .ref nisImage_, .int v10030_, .ref ntape_, .int mtaped_, .int mlength_, .int mhead_, .int mbegin_, .int mtoken_, .int mvalue_, .int mbad_, .int mbadPlace_, .int mfaultKind_, .int mfaultPlace_, .int mdeep_, .int mlawMany_, .int mlawAt_, .ref nstack_, .ref nasked_, .int mfell_, .int mfellIn_, .ref naside_, .int mstate_, .int mlanded_, .int mwaitFalls_, .int mwaitWeight_, .ref nfallsAfter_, .ref nfalling_, .ref ncomes_, .ref ngoesOn_, .ref nwayRow_, .ref nmany_, .ref nmanyThen_, .int mtoldLet_, .ref ntSort_, .ref ntMany_, .ref nnumbers_])), (ntSort_, .inl (cy 0, 4, .inl (ftSort_))), (ntMany_, .inl (cy 0, 4, .inl (ftMany_))), (nnumbers_, .inl (cy 2, 120, .inr (.inl (fnumbers_))))] := hD.sub [2, 3, 0, 1] (by decide +kernel) rfl
    exact rL hX hE hP hD hS dX11_write_17 (by decide) (by decide) ⟨v10030_, fnumbers_, (rg_w kr3_ (by decide) (by decide)), (Or.inr (Or.inl ⟨v10030_, k3_1_, c20000013_, rfl, rfl, rfl⟩)), rfl⟩
  · have hP : va_P D vwCl [(ntMany_, .inl (cy 0, 4, .inl (ftMany_))), (nnumbers_, .inl (cy 2, 120, .inr (.inl (fnumbers_)))), (nm_, .inr (11, [.ref nknown_, .ref ntelling_, .ref nimages_, .ref nisImage_, .int mthrown_, .ref ntape_, .int mtaped_, .int mlength_, .int mhead_, .int mbegin_, .int mtoken_, .int mvalue_, .int mbad_, .int mbadPlace_, .int mfaultKind_, .int mfaultPlace_, .int mdeep_, .int mlawMany_, .int mlawAt_, .ref nstack_, .ref nasked_, .int mfell_, .int mfellIn_, .ref naside_, .int mstate_, .int mlanded_, .int mwaitFalls_, .int mwaitWeight_, .ref nfallsAfter_, .ref nfalling_, .ref ncomes_, .ref ngoesOn_, .ref nwayRow_, .ref nmany_, .ref nmanyThen_, .int mtoldLet_, .ref ntSort_, .ref ntMany_, .ref nnumbers_])), (ntSort_, .inl (cy 0, 4, .inl (ftSort_)))] H := hP
    have hD := va_ca hP hD
    refine va_put (ci := 11) (v := .int v10030_) (ty := .int) (C := RX11) (T := TX11) (N := 39) hx hb htA in_X11 tyX11 tyX11_ok nmX11 hown hK hP hD hS 2 rfl rfl 4 (by decide) (htA _ wd_1358) (fun _ h => h) rfl (by decide +kernel) rfl rfl (Nat.le_of_ble_eq_true rfl) dX11_write_6 (fun H locs hP hD hS => ?_)
    have hP : va_P D vwCl [(ntMany_, .inl (cy 0, 4, .inl (ftMany_))), (nnumbers_, .inl (cy 2, 120, .inr (.inl (fnumbers_)))), (nm_, .inr (11, [.ref nknown_, .ref ntelling_, .ref nimages_, .ref nisImage_, .int v10030_, .ref ntape_, .int mtaped_, .int mlength_, .int mhead_, .int mbegin_, .int mtoken_, .int mvalue_, .int mbad_, .int mbadPlace_, .int mfaultKind_, .int mfaultPlace_, .int mdeep_, .int mlawMany_, .int mlawAt_, .ref nstack_, .ref nasked_, .int mfell_, .int mfellIn_, .ref naside_, .int mstate_, .int mlanded_, .int mwaitFalls_, .int mwaitWeight_, .ref nfallsAfter_, .ref nfalling_, .ref ncomes_, .ref ngoesOn_, .ref nwayRow_, .ref nmany_, .ref nmanyThen_, .int mtoldLet_, .ref ntSort_, .ref ntMany_, .ref nnumbers_])), (ntSort_, .inl (cy 0, 4, .inl (ftSort_)))] H := hP
    have hD := va_ca hP hD
    refine lv_aload_n hx hb dX11_write_9 rfl (lv_at hl 0 rfl) ?_
    refine va_get (ci := 11) (v := .int v10030_) (C := RX11) (T := TX11) (N := 39) hx hb htA in_X11 hown hK hP 2 rfl rfl 4 (by decide) (htA _ wd_1358) (fun _ h => h) rfl dX11_write_10 ?_
    refine lv_if_le (tgt := 18) hx hb dX11_write_13 (by decide) (fun c30000013_ => ?_) (fun c30000013_ => rg_no (rg_lt1 (rg_nle c30000013_) (rg_lit (by decide) : rg (0) (0) (0 : Int32)) kr3_ (Int.le_refl _)) (by decide))
    refine lv_iload_n hx hb dX11_write_18 rfl (lv_at hl 2 rfl) ?_
    refine lv_i2l hx hb dX11_write_19 rfl ?_
    have g1_ : rl (-2147483648) (2147483647) p_.toInt64 := rl_i2l (rg_any _)
    refine lv_lconst (v := 0) hx hb dX11_write_20 (by decide) ?_
    refine lv_aload_n hx hb dX11_write_21 rfl (lv_at hl 0 rfl) ?_
    refine va_get (ci := 11) (v := .ref ntMany_) (C := RX11) (T := TX11) (N := 39) hx hb htA in_X11 hown hK hP 2 rfl rfl 37 (by decide) (htA _ wd_1391) (fun _ h => h) rfl dX11_write_22 ?_
    refine lv_iload_n hx hb dX11_write_25 rfl (lv_at hl 1 rfl) ?_
    refine va_iald hx hb hK hP 0 0 rfl rfl (rg_in k3_0_ (by decide) (by decide)) dX11_write_26 ?_
    refine lv_topi (fun v30010260_ ev30010260_ => ?_)
    have g2_ : rg (0) (30) v30010260_ := by rw [ev30010260_]; exact ag_at rftMany_ (rg_in k3_0_ (by decide) (by decide))
    refine lv_iconst (v := 1) hx hb dX11_write_27 (by decide) ?_
    refine lv_isub hx hb dX11_write_28 ?_
    have g3_ : rg (-1) (29) (v30010260_ - 1) := rg_sub g2_ (rg_lit (by decide) : rg (1) (1) (1 : Int32)) (by decide) (by decide) (by decide) (by decide)
    refine lv_i2l hx hb dX11_write_29 rfl ?_
    have g4_ : rl (-1) (29) ((v30010260_ - 1).toInt64) := rl_i2l g3_
    refine kSi (As := [.long p_.toInt64, .long 0, .long ((v30010260_ - 1).toInt64)]) (rest := []) (wr := [(ntMany_, .inl (cy 0, 4, .inl (ftMany_))), (nnumbers_, .inl (cy 2, 120, .inr (.inl (fnumbers_)))), (nm_, .inr (11, [.ref nknown_, .ref ntelling_, .ref nimages_, .ref nisImage_, .int v10030_, .ref ntape_, .int mtaped_, .int mlength_, .int mhead_, .int mbegin_, .int mtoken_, .int mvalue_, .int mbad_, .int mbadPlace_, .int mfaultKind_, .int mfaultPlace_, .int mdeep_, .int mlawMany_, .int mlawAt_, .ref nstack_, .ref nasked_, .int mfell_, .int mfellIn_, .ref naside_, .int mstate_, .int mlanded_, .int mwaitFalls_, .int mwaitWeight_, .ref nfallsAfter_, .ref nfalling_, .ref ncomes_, .ref ngoesOn_, .ref nwayRow_, .ref nmany_, .ref nmanyThen_, .int mtoldLet_, .ref ntSort_, .ref ntMany_, .ref nnumbers_])), (ntSort_, .inl (cy 0, 4, .inl (ftSort_)))]) hX hE (sf_X11_within_w l D cy p_.toInt64 (0 : Int64) ((v30010260_ - 1).toInt64) ) (cwSA 3 htA wd_1483 wd_1481 wd_10 wd_1482 (by decide +kernel) ⟨by decide, by decide⟩) hP hD hS [] [0, 1, 2, 3] rfl rfl (by decide +kernel) rfl hl.1 rfl (Nat.le_of_ble_eq_true rfl) dX11_write_30 (by decide) (fun v30010300_ W1 H locs hw hP hD hS => ?_)
    refine W.widen (k := 0) (n := 0) (by decide) (by decide) ?_
    rcases hw with ⟨k30000030_0_, k30000030_1_, k30000030_2_, k30000030_3_, rfl, kr30000030_⟩ | ⟨k30000030_0_, k30000030_1_, k30000030_2_, k30000030_3_, k30000030_4_, rfl, kr30000030_⟩ | ⟨k30000030_0_, k30000030_1_, k30000030_2_, rfl, kr30000030_⟩
    · have hP : va_P D vwCl [(ntMany_, .inl (cy 0, 4, .inl (ftMany_))), (nnumbers_, .inl (cy 2, 120, .inr (.inl (fnumbers_)))), (nm_, .inr (11, [.ref nknown_, .ref ntelling_, .ref nimages_, .ref nisImage_, .int v10030_, .ref ntape_, .int mtaped_, .int mlength_, .int mhead_, .int mbegin_, .int mtoken_, .int mvalue_, .int mbad_, .int mbadPlace_, .int mfaultKind_, .int mfaultPlace_, .int mdeep_, .int mlawMany_, .int mlawAt_, .ref nstack_, .ref nasked_, .int mfell_, .int mfellIn_, .ref naside_, .int mstate_, .int mlanded_, .int mwaitFalls_, .int mwaitWeight_, .ref nfallsAfter_, .ref nfalling_, .ref ncomes_, .ref ngoesOn_, .ref nwayRow_, .ref nmany_, .ref nmanyThen_, .int mtoldLet_, .ref ntSort_, .ref ntMany_, .ref nnumbers_])), (ntSort_, .inl (cy 0, 4, .inl (ftSort_)))] H := hP
      have hD := va_ca hP hD
      have g5_ : rl (-2147483648) (0) p_.toInt64 := rl_le1 k30000030_2_ (rl_cut g1_ k30000030_0_) (rl_lit (by decide) : rl (0) (0) (0 : Int64)) (by decide)
      refine lv_if_eq (tgt := 46) hx hb dX11_write_33 (by decide) (fun c40000033_ => ?_) (fun c40000033_ => rg_ne0 c40000033_ kr30000030_ (rg_lit (by decide) : rg (0) (0) (0 : Int32)))
      refine lv_aload_n hx hb dX11_write_46 rfl (lv_at hl 0 rfl) ?_
      refine lv_iconst (v := 3) hx hb dX11_write_47 (by decide) ?_
      refine kVi (As := [.int 3]) (rest := []) (wr := [(ntMany_, .inl (cy 0, 4, .inl (ftMany_))), (nnumbers_, .inl (cy 2, 120, .inr (.inl (fnumbers_)))), (ntSort_, .inl (cy 0, 4, .inl (ftSort_)))]) hX hE (sf_X11_fails l D cy nm_ nknown_ ntelling_ nimages_ nisImage_ v10030_ ntape_ mtaped_ mlength_ mhead_ mbegin_ mtoken_ mvalue_ mbad_ mbadPlace_ mfaultKind_ mfaultPlace_ mdeep_ mlawMany_ mlawAt_ nstack_ nasked_ mfell_ mfellIn_ naside_ mstate_ mlanded_ mwaitFalls_ mwaitWeight_ nfallsAfter_ nfalling_ ncomes_ ngoesOn_ nwayRow_ nmany_ nmanyThen_ mtoldLet_ ntSort_ ntMany_ nnumbers_ (3 : Int32) (rg_w rmtaped_ (by decide) (by decide)) (rg_w rmlength_ (by decide) (by decide)) (rg_w rmhead_ (by decide) (by decide)) (rg_w rmbegin_ (by decide) (by decide))) (cwVA 1 htA wd_1487 wd_1484 wd_10 wd_1486 wp_41 (by decide +kernel) ⟨by decide, by decide⟩) hP hD hS [2] [0, 1, 3] rfl rfl (by decide +kernel) 0 rfl rfl rfl rfl hl.1 rfl (Nat.le_of_ble_eq_true rfl) dX11_write_48 (by decide) (fun v40010480_ W1 H locs hw hP hD hS => ?_)
      refine W.widen (k := 0) (n := 0) (by decide) (by decide) ?_
      obtain ⟨k40000048_0_, rfl, kr40000048_⟩ := hw
      have hP : va_P D vwCl [(ntMany_, .inl (cy 0, 4, .inl (ftMany_))), (nnumbers_, .inl (cy 2, 120, .inr (.inl (fnumbers_)))), (ntSort_, .inl (cy 0, 4, .inl (ftSort_))), (nm_, .inr (11, [.ref nknown_, .ref ntelling_, .ref nimages_, .ref nisImage_, .int 3, .ref ntape_, .int mtaped_, .int mlength_, .int mhead_, .int mbegin_, .int mtoken_, .int mvalue_, .int mbad_, .int mbadPlace_, .int mfaultKind_, .int mfaultPlace_, .int mdeep_, .int mlawMany_, .int mlawAt_, .ref nstack_, .ref nasked_, .int mfell_, .int mfellIn_, .ref naside_, .int mstate_, .int mlanded_, .int mwaitFalls_, .int mwaitWeight_, .ref nfallsAfter_, .ref nfalling_, .ref ncomes_, .ref ngoesOn_, .ref nwayRow_, .ref nmany_, .ref nmanyThen_, .int mtoldLet_, .ref ntSort_, .ref ntMany_, .ref nnumbers_]))] H := hP
      have hD := va_ca hP hD
      refine lv_i2l hx hb dX11_write_51 rfl ?_
      have g6_ : rl (0) (0) v40010480_.toInt64 := rl_i2l kr40000048_
      have hP : va_P D vwCl [(nm_, .inr (11, [.ref nknown_, .ref ntelling_, .ref nimages_, .ref nisImage_, .int 3, .ref ntape_, .int mtaped_, .int mlength_, .int mhead_, .int mbegin_, .int mtoken_, .int mvalue_, .int mbad_, .int mbadPlace_, .int mfaultKind_, .int mfaultPlace_, .int mdeep_, .int mlawMany_, .int mlawAt_, .ref nstack_, .ref nasked_, .int mfell_, .int mfellIn_, .ref naside_, .int mstate_, .int mlanded_, .int mwaitFalls_, .int mwaitWeight_, .ref nfallsAfter_, .ref nfalling_, .ref ncomes_, .ref ngoesOn_, .ref nwayRow_, .ref nmany_, .ref nmanyThen_, .int mtoldLet_, .ref ntSort_, .ref ntMany_, .ref nnumbers_])), (ntSort_, .inl (cy 0, 4, .inl (ftSort_))), (ntMany_, .inl (cy 0, 4, .inl (ftMany_))), (nnumbers_, .inl (cy 2, 120, .inr (.inl (fnumbers_))))] H := hP.sub [3, 2, 0, 1] rfl
      have hD : va_D A [(nm_, .inr (11, [.ref nknown_, .ref ntelling_, .ref nimages_, .ref nisImage_, .int 3, .ref ntape_, .int mtaped_, .int mlength_, .int mhead_, .int mbegin_, .int mtoken_, .int mvalue_, .int mbad_, .int mbadPlace_, .int mfaultKind_, .int mfaultPlace_, .int mdeep_, .int mlawMany_, .int mlawAt_, .ref nstack_, .ref nasked_, .int mfell_, .int mfellIn_, .ref naside_, .int mstate_, .int mlanded_, .int mwaitFalls_, .int mwaitWeight_, .ref nfallsAfter_, .ref nfalling_, .ref ncomes_, .ref ngoesOn_, .ref nwayRow_, .ref nmany_, .ref nmanyThen_, .int mtoldLet_, .ref ntSort_, .ref ntMany_, .ref nnumbers_])), (ntSort_, .inl (cy 0, 4, .inl (ftSort_))), (ntMany_, .inl (cy 0, 4, .inl (ftMany_))), (nnumbers_, .inl (cy 2, 120, .inr (.inl (fnumbers_))))] := hD.sub [3, 2, 0, 1] (by decide +kernel) rfl
      exact rL hX hE hP hD hS dX11_write_52 (by decide) (by decide) ⟨3, fnumbers_, (rg_w (rg_lit (by decide) : rg (3) (3) (3 : Int32)) (by decide) (by decide)), (Or.inr (Or.inr (Or.inl ⟨v10030_, v30010260_, v30010300_, v40010480_, k3_1_, c30000013_, ev30010260_, k30000030_3_, k40000048_0_, rfl, rfl, rfl⟩))), rfl⟩
    · have hP : va_P D vwCl [(ntMany_, .inl (cy 0, 4, .inl (ftMany_))), (nnumbers_, .inl (cy 2, 120, .inr (.inl (fnumbers_)))), (nm_, .inr (11, [.ref nknown_, .ref ntelling_, .ref nimages_, .ref nisImage_, .int v10030_, .ref ntape_, .int mtaped_, .int mlength_, .int mhead_, .int mbegin_, .int mtoken_, .int mvalue_, .int mbad_, .int mbadPlace_, .int mfaultKind_, .int mfaultPlace_, .int mdeep_, .int mlawMany_, .int mlawAt_, .ref nstack_, .ref nasked_, .int mfell_, .int mfellIn_, .ref naside_, .int mstate_, .int mlanded_, .int mwaitFalls_, .int mwaitWeight_, .ref nfallsAfter_, .ref nfalling_, .ref ncomes_, .ref ngoesOn_, .ref nwayRow_, .ref nmany_, .ref nmanyThen_, .int mtoldLet_, .ref ntSort_, .ref ntMany_, .ref nnumbers_])), (ntSort_, .inl (cy 0, 4, .inl (ftSort_)))] H := hP
      have hD := va_ca hP hD
      have g7_ : rl (0) (2147483647) p_.toInt64 := rl_le2 k30000030_2_ (rl_lit (by decide) : rl (0) (0) (0 : Int64)) (rl_cut g1_ k30000030_0_) (by decide)
      refine lv_if_eq (tgt := 46) hx hb dX11_write_33 (by decide) (fun c50000033_ => ?_) (fun c50000033_ => rg_ne0 c50000033_ kr30000030_ (rg_lit (by decide) : rg (0) (0) (0 : Int32)))
      refine lv_aload_n hx hb dX11_write_46 rfl (lv_at hl 0 rfl) ?_
      refine lv_iconst (v := 3) hx hb dX11_write_47 (by decide) ?_
      refine kVi (As := [.int 3]) (rest := []) (wr := [(ntMany_, .inl (cy 0, 4, .inl (ftMany_))), (nnumbers_, .inl (cy 2, 120, .inr (.inl (fnumbers_)))), (ntSort_, .inl (cy 0, 4, .inl (ftSort_)))]) hX hE (sf_X11_fails l D cy nm_ nknown_ ntelling_ nimages_ nisImage_ v10030_ ntape_ mtaped_ mlength_ mhead_ mbegin_ mtoken_ mvalue_ mbad_ mbadPlace_ mfaultKind_ mfaultPlace_ mdeep_ mlawMany_ mlawAt_ nstack_ nasked_ mfell_ mfellIn_ naside_ mstate_ mlanded_ mwaitFalls_ mwaitWeight_ nfallsAfter_ nfalling_ ncomes_ ngoesOn_ nwayRow_ nmany_ nmanyThen_ mtoldLet_ ntSort_ ntMany_ nnumbers_ (3 : Int32) (rg_w rmtaped_ (by decide) (by decide)) (rg_w rmlength_ (by decide) (by decide)) (rg_w rmhead_ (by decide) (by decide)) (rg_w rmbegin_ (by decide) (by decide))) (cwVA 1 htA wd_1487 wd_1484 wd_10 wd_1486 wp_41 (by decide +kernel) ⟨by decide, by decide⟩) hP hD hS [2] [0, 1, 3] rfl rfl (by decide +kernel) 0 rfl rfl rfl rfl hl.1 rfl (Nat.le_of_ble_eq_true rfl) dX11_write_48 (by decide) (fun v50010480_ W1 H locs hw hP hD hS => ?_)
      refine W.widen (k := 0) (n := 0) (by decide) (by decide) ?_
      obtain ⟨k50000048_0_, rfl, kr50000048_⟩ := hw
      have hP : va_P D vwCl [(ntMany_, .inl (cy 0, 4, .inl (ftMany_))), (nnumbers_, .inl (cy 2, 120, .inr (.inl (fnumbers_)))), (ntSort_, .inl (cy 0, 4, .inl (ftSort_))), (nm_, .inr (11, [.ref nknown_, .ref ntelling_, .ref nimages_, .ref nisImage_, .int 3, .ref ntape_, .int mtaped_, .int mlength_, .int mhead_, .int mbegin_, .int mtoken_, .int mvalue_, .int mbad_, .int mbadPlace_, .int mfaultKind_, .int mfaultPlace_, .int mdeep_, .int mlawMany_, .int mlawAt_, .ref nstack_, .ref nasked_, .int mfell_, .int mfellIn_, .ref naside_, .int mstate_, .int mlanded_, .int mwaitFalls_, .int mwaitWeight_, .ref nfallsAfter_, .ref nfalling_, .ref ncomes_, .ref ngoesOn_, .ref nwayRow_, .ref nmany_, .ref nmanyThen_, .int mtoldLet_, .ref ntSort_, .ref ntMany_, .ref nnumbers_]))] H := hP
      have hD := va_ca hP hD
      refine lv_i2l hx hb dX11_write_51 rfl ?_
      have g8_ : rl (0) (0) v50010480_.toInt64 := rl_i2l kr50000048_
      have hP : va_P D vwCl [(nm_, .inr (11, [.ref nknown_, .ref ntelling_, .ref nimages_, .ref nisImage_, .int 3, .ref ntape_, .int mtaped_, .int mlength_, .int mhead_, .int mbegin_, .int mtoken_, .int mvalue_, .int mbad_, .int mbadPlace_, .int mfaultKind_, .int mfaultPlace_, .int mdeep_, .int mlawMany_, .int mlawAt_, .ref nstack_, .ref nasked_, .int mfell_, .int mfellIn_, .ref naside_, .int mstate_, .int mlanded_, .int mwaitFalls_, .int mwaitWeight_, .ref nfallsAfter_, .ref nfalling_, .ref ncomes_, .ref ngoesOn_, .ref nwayRow_, .ref nmany_, .ref nmanyThen_, .int mtoldLet_, .ref ntSort_, .ref ntMany_, .ref nnumbers_])), (ntSort_, .inl (cy 0, 4, .inl (ftSort_))), (ntMany_, .inl (cy 0, 4, .inl (ftMany_))), (nnumbers_, .inl (cy 2, 120, .inr (.inl (fnumbers_))))] H := hP.sub [3, 2, 0, 1] rfl
      have hD : va_D A [(nm_, .inr (11, [.ref nknown_, .ref ntelling_, .ref nimages_, .ref nisImage_, .int 3, .ref ntape_, .int mtaped_, .int mlength_, .int mhead_, .int mbegin_, .int mtoken_, .int mvalue_, .int mbad_, .int mbadPlace_, .int mfaultKind_, .int mfaultPlace_, .int mdeep_, .int mlawMany_, .int mlawAt_, .ref nstack_, .ref nasked_, .int mfell_, .int mfellIn_, .ref naside_, .int mstate_, .int mlanded_, .int mwaitFalls_, .int mwaitWeight_, .ref nfallsAfter_, .ref nfalling_, .ref ncomes_, .ref ngoesOn_, .ref nwayRow_, .ref nmany_, .ref nmanyThen_, .int mtoldLet_, .ref ntSort_, .ref ntMany_, .ref nnumbers_])), (ntSort_, .inl (cy 0, 4, .inl (ftSort_))), (ntMany_, .inl (cy 0, 4, .inl (ftMany_))), (nnumbers_, .inl (cy 2, 120, .inr (.inl (fnumbers_))))] := hD.sub [3, 2, 0, 1] (by decide +kernel) rfl
      exact rL hX hE hP hD hS dX11_write_52 (by decide) (by decide) ⟨3, fnumbers_, (rg_w (rg_lit (by decide) : rg (3) (3) (3 : Int32)) (by decide) (by decide)), (Or.inr (Or.inr (Or.inr (Or.inl ⟨v10030_, v30010260_, v30010300_, v50010480_, k3_1_, c30000013_, ev30010260_, k30000030_4_, k50000048_0_, rfl, rfl, rfl⟩)))), rfl⟩
    · have hP : va_P D vwCl [(ntMany_, .inl (cy 0, 4, .inl (ftMany_))), (nnumbers_, .inl (cy 2, 120, .inr (.inl (fnumbers_)))), (nm_, .inr (11, [.ref nknown_, .ref ntelling_, .ref nimages_, .ref nisImage_, .int v10030_, .ref ntape_, .int mtaped_, .int mlength_, .int mhead_, .int mbegin_, .int mtoken_, .int mvalue_, .int mbad_, .int mbadPlace_, .int mfaultKind_, .int mfaultPlace_, .int mdeep_, .int mlawMany_, .int mlawAt_, .ref nstack_, .ref nasked_, .int mfell_, .int mfellIn_, .ref naside_, .int mstate_, .int mlanded_, .int mwaitFalls_, .int mwaitWeight_, .ref nfallsAfter_, .ref nfalling_, .ref ncomes_, .ref ngoesOn_, .ref nwayRow_, .ref nmany_, .ref nmanyThen_, .int mtoldLet_, .ref ntSort_, .ref ntMany_, .ref nnumbers_])), (ntSort_, .inl (cy 0, 4, .inl (ftSort_)))] H := hP
      have hD := va_ca hP hD
      have g9_ : rl (-2147483648) (29) p_.toInt64 := rl_le1 k30000030_0_ g1_ g4_ (by decide)
      have g10_ : rl (0) (29) p_.toInt64 := rl_le2 k30000030_1_ (rl_lit (by decide) : rl (0) (0) (0 : Int64)) g9_ (by decide)
      refine lv_if_eq (tgt := 46) hx hb dX11_write_33 (by decide) (fun c60000033_ => rg_eqab c60000033_ kr30000030_ (rg_lit (by decide) : rg (0) (0) (0 : Int32)) (by decide)) (fun c60000033_ => ?_)
      refine lv_aload_n hx hb dX11_write_36 rfl (lv_at hl 0 rfl) ?_
      refine lv_iload_n hx hb dX11_write_37 rfl (lv_at hl 1 rfl) ?_
      refine lv_iload_n hx hb dX11_write_38 rfl (lv_at hl 2 rfl) ?_
      refine lv_lload_n hx hb dX11_write_39 rfl (lv_at hl 3 rfl) ?_
      refine kVl (As := [.int t_, .int p_, .long v_]) (rest := []) (wr := [(ntMany_, .inl (cy 0, 4, .inl (ftMany_)))]) hX hE (sf_X11_cut l D cy nm_ nknown_ ntelling_ nimages_ nisImage_ v10030_ ntape_ mtaped_ mlength_ mhead_ mbegin_ mtoken_ mvalue_ mbad_ mbadPlace_ mfaultKind_ mfaultPlace_ mdeep_ mlawMany_ mlawAt_ nstack_ nasked_ mfell_ mfellIn_ naside_ mstate_ mlanded_ mwaitFalls_ mwaitWeight_ nfallsAfter_ nfalling_ ncomes_ ngoesOn_ nwayRow_ nmany_ nmanyThen_ mtoldLet_ ntSort_ ntMany_ nnumbers_ ftSort_ fnumbers_ t_ p_ v_ (rg_w rmtaped_ (by decide) (by decide)) (rg_w rmlength_ (by decide) (by decide)) (rg_w rmhead_ (by decide) (by decide)) (rg_w rmbegin_ (by decide) (by decide)) (rg_w k3_0_ (by decide) (by decide)) (rg_w (rl_b g10_) (by decide) (by decide)) rftSort_) (cwVA 3 htA wd_2046 wd_2043 wd_10 wd_2045 wp_120 (by decide +kernel) ⟨by decide, by decide⟩) hP hD hS [2, 3, 1] [0] rfl rfl (by decide +kernel) 0 rfl rfl rfl rfl hl.1 rfl (Nat.le_of_ble_eq_true rfl) dX11_write_40 (by decide) (fun w60010400_ W1 H locs hw hP hD hS => ?_)
      refine W.widen (k := 0) (n := 0) (by decide) (by decide) ?_
      obtain ⟨g60010401_, k60000040_0_, rfl⟩ := hw
      have hP : va_P D vwCl [(ntMany_, .inl (cy 0, 4, .inl (ftMany_))), (nm_, .inr (11, [.ref nknown_, .ref ntelling_, .ref nimages_, .ref nisImage_, .int v10030_, .ref ntape_, .int mtaped_, .int mlength_, .int mhead_, .int mbegin_, .int mtoken_, .int mvalue_, .int mbad_, .int mbadPlace_, .int mfaultKind_, .int mfaultPlace_, .int mdeep_, .int mlawMany_, .int mlawAt_, .ref nstack_, .ref nasked_, .int mfell_, .int mfellIn_, .ref naside_, .int mstate_, .int mlanded_, .int mwaitFalls_, .int mwaitWeight_, .ref nfallsAfter_, .ref nfalling_, .ref ncomes_, .ref ngoesOn_, .ref nwayRow_, .ref nmany_, .ref nmanyThen_, .int mtoldLet_, .ref ntSort_, .ref ntMany_, .ref nnumbers_])), (ntSort_, .inl (cy 0, 4, .inl (ftSort_))), (nnumbers_, .inl (cy 2, 120, .inr (.inl (g60010401_))))] H := hP
      have hD := va_ca hP hD
      refine lv_goto (tgt := 52) hx hb dX11_write_43 (by decide) ?_
      have hP : va_P D vwCl [(nm_, .inr (11, [.ref nknown_, .ref ntelling_, .ref nimages_, .ref nisImage_, .int v10030_, .ref ntape_, .int mtaped_, .int mlength_, .int mhead_, .int mbegin_, .int mtoken_, .int mvalue_, .int mbad_, .int mbadPlace_, .int mfaultKind_, .int mfaultPlace_, .int mdeep_, .int mlawMany_, .int mlawAt_, .ref nstack_, .ref nasked_, .int mfell_, .int mfellIn_, .ref naside_, .int mstate_, .int mlanded_, .int mwaitFalls_, .int mwaitWeight_, .ref nfallsAfter_, .ref nfalling_, .ref ncomes_, .ref ngoesOn_, .ref nwayRow_, .ref nmany_, .ref nmanyThen_, .int mtoldLet_, .ref ntSort_, .ref ntMany_, .ref nnumbers_])), (ntSort_, .inl (cy 0, 4, .inl (ftSort_))), (ntMany_, .inl (cy 0, 4, .inl (ftMany_))), (nnumbers_, .inl (cy 2, 120, .inr (.inl (g60010401_))))] H := hP.sub [1, 2, 0, 3] rfl
      have hD : va_D A [(nm_, .inr (11, [.ref nknown_, .ref ntelling_, .ref nimages_, .ref nisImage_, .int v10030_, .ref ntape_, .int mtaped_, .int mlength_, .int mhead_, .int mbegin_, .int mtoken_, .int mvalue_, .int mbad_, .int mbadPlace_, .int mfaultKind_, .int mfaultPlace_, .int mdeep_, .int mlawMany_, .int mlawAt_, .ref nstack_, .ref nasked_, .int mfell_, .int mfellIn_, .ref naside_, .int mstate_, .int mlanded_, .int mwaitFalls_, .int mwaitWeight_, .ref nfallsAfter_, .ref nfalling_, .ref ncomes_, .ref ngoesOn_, .ref nwayRow_, .ref nmany_, .ref nmanyThen_, .int mtoldLet_, .ref ntSort_, .ref ntMany_, .ref nnumbers_])), (ntSort_, .inl (cy 0, 4, .inl (ftSort_))), (ntMany_, .inl (cy 0, 4, .inl (ftMany_))), (nnumbers_, .inl (cy 2, 120, .inr (.inl (g60010401_))))] := hD.sub [1, 2, 0, 3] (by decide +kernel) rfl
      exact rL hX hE hP hD hS dX11_write_52 (by decide) (by decide) ⟨v10030_, g60010401_, (rg_w kr3_ (by decide) (by decide)), (Or.inr (Or.inr (Or.inr (Or.inr (Or.inl ⟨v10030_, v30010260_, v30010300_, g60010401_, w60010400_, k3_1_, c30000013_, ev30010260_, k30000030_2_, k60000040_0_, rfl, rfl, rfl⟩))))), rfl⟩
  · have hP : va_P D vwCl [(ntMany_, .inl (cy 0, 4, .inl (ftMany_))), (nnumbers_, .inl (cy 2, 120, .inr (.inl (fnumbers_)))), (nm_, .inr (11, [.ref nknown_, .ref ntelling_, .ref nimages_, .ref nisImage_, .int mthrown_, .ref ntape_, .int mtaped_, .int mlength_, .int mhead_, .int mbegin_, .int mtoken_, .int mvalue_, .int mbad_, .int mbadPlace_, .int mfaultKind_, .int mfaultPlace_, .int mdeep_, .int mlawMany_, .int mlawAt_, .ref nstack_, .ref nasked_, .int mfell_, .int mfellIn_, .ref naside_, .int mstate_, .int mlanded_, .int mwaitFalls_, .int mwaitWeight_, .ref nfallsAfter_, .ref nfalling_, .ref ncomes_, .ref ngoesOn_, .ref nwayRow_, .ref nmany_, .ref nmanyThen_, .int mtoldLet_, .ref ntSort_, .ref ntMany_, .ref nnumbers_])), (ntSort_, .inl (cy 0, 4, .inl (ftSort_)))] H := hP
    have hD := va_ca hP hD
    refine va_put (ci := 11) (v := .int v10030_) (ty := .int) (C := RX11) (T := TX11) (N := 39) hx hb htA in_X11 tyX11 tyX11_ok nmX11 hown hK hP hD hS 2 rfl rfl 4 (by decide) (htA _ wd_1358) (fun _ h => h) rfl (by decide +kernel) rfl rfl (Nat.le_of_ble_eq_true rfl) dX11_write_6 (fun H locs hP hD hS => ?_)
    have hP : va_P D vwCl [(ntMany_, .inl (cy 0, 4, .inl (ftMany_))), (nnumbers_, .inl (cy 2, 120, .inr (.inl (fnumbers_)))), (nm_, .inr (11, [.ref nknown_, .ref ntelling_, .ref nimages_, .ref nisImage_, .int v10030_, .ref ntape_, .int mtaped_, .int mlength_, .int mhead_, .int mbegin_, .int mtoken_, .int mvalue_, .int mbad_, .int mbadPlace_, .int mfaultKind_, .int mfaultPlace_, .int mdeep_, .int mlawMany_, .int mlawAt_, .ref nstack_, .ref nasked_, .int mfell_, .int mfellIn_, .ref naside_, .int mstate_, .int mlanded_, .int mwaitFalls_, .int mwaitWeight_, .ref nfallsAfter_, .ref nfalling_, .ref ncomes_, .ref ngoesOn_, .ref nwayRow_, .ref nmany_, .ref nmanyThen_, .int mtoldLet_, .ref ntSort_, .ref ntMany_, .ref nnumbers_])), (ntSort_, .inl (cy 0, 4, .inl (ftSort_)))] H := hP
    have hD := va_ca hP hD
    refine lv_aload_n hx hb dX11_write_9 rfl (lv_at hl 0 rfl) ?_
    refine va_get (ci := 11) (v := .int v10030_) (C := RX11) (T := TX11) (N := 39) hx hb htA in_X11 hown hK hP 2 rfl rfl 4 (by decide) (htA _ wd_1358) (fun _ h => h) rfl dX11_write_10 ?_
    refine lv_if_le (tgt := 18) hx hb dX11_write_13 (by decide) (fun c70000013_ => rg_no (rg_le1 c70000013_ kr3_ (rg_lit (by decide) : rg (0) (0) (0 : Int32)) (Int.le_refl _)) (by decide)) (fun c70000013_ => ?_)
    refine lv_lconst (v := 0) hx hb dX11_write_16 (by decide) ?_
    have hP : va_P D vwCl [(nm_, .inr (11, [.ref nknown_, .ref ntelling_, .ref nimages_, .ref nisImage_, .int v10030_, .ref ntape_, .int mtaped_, .int mlength_, .int mhead_, .int mbegin_, .int mtoken_, .int mvalue_, .int mbad_, .int mbadPlace_, .int mfaultKind_, .int mfaultPlace_, .int mdeep_, .int mlawMany_, .int mlawAt_, .ref nstack_, .ref nasked_, .int mfell_, .int mfellIn_, .ref naside_, .int mstate_, .int mlanded_, .int mwaitFalls_, .int mwaitWeight_, .ref nfallsAfter_, .ref nfalling_, .ref ncomes_, .ref ngoesOn_, .ref nwayRow_, .ref nmany_, .ref nmanyThen_, .int mtoldLet_, .ref ntSort_, .ref ntMany_, .ref nnumbers_])), (ntSort_, .inl (cy 0, 4, .inl (ftSort_))), (ntMany_, .inl (cy 0, 4, .inl (ftMany_))), (nnumbers_, .inl (cy 2, 120, .inr (.inl (fnumbers_))))] H := hP.sub [2, 3, 0, 1] rfl
    have hD : va_D A [(nm_, .inr (11, [.ref nknown_, .ref ntelling_, .ref nimages_, .ref nisImage_, .int v10030_, .ref ntape_, .int mtaped_, .int mlength_, .int mhead_, .int mbegin_, .int mtoken_, .int mvalue_, .int mbad_, .int mbadPlace_, .int mfaultKind_, .int mfaultPlace_, .int mdeep_, .int mlawMany_, .int mlawAt_, .ref nstack_, .ref nasked_, .int mfell_, .int mfellIn_, .ref naside_, .int mstate_, .int mlanded_, .int mwaitFalls_, .int mwaitWeight_, .ref nfallsAfter_, .ref nfalling_, .ref ncomes_, .ref ngoesOn_, .ref nwayRow_, .ref nmany_, .ref nmanyThen_, .int mtoldLet_, .ref ntSort_, .ref ntMany_, .ref nnumbers_])), (ntSort_, .inl (cy 0, 4, .inl (ftSort_))), (ntMany_, .inl (cy 0, 4, .inl (ftMany_))), (nnumbers_, .inl (cy 2, 120, .inr (.inl (fnumbers_))))] := hD.sub [2, 3, 0, 1] (by decide +kernel) rfl
    exact rL hX hE hP hD hS dX11_write_17 (by decide) (by decide) ⟨v10030_, fnumbers_, (rg_w kr3_ (by decide) (by decide)), (Or.inr (Or.inr (Or.inr (Or.inr (Or.inr (Or.inl ⟨v10030_, k3_1_, c70000013_, rfl, rfl, rfl⟩)))))), rfl⟩
def R_X11_thing_j2 (v60011030_ : Int32) (fknown_ : Nat → Int32) (t_ : Int32) (v60212200_ : Int32) : Prop := (∃ (v60011210_ : Int32), v60011030_ = (0 : Int32) ∧ v60011210_ = fknown_ (16 + t_).toNatClampNeg ∧ v60212200_ = v60011210_) ∨ (¬ (v60011030_ = (0 : Int32)) ∧ v60212200_ = ((-1) : Int32)) ∨ False
def R_X11_thing_j3 (v60011260_ : Int32) (fknown_ : Nat → Int32) (t_ : Int32) (v60214500_ : Int32) : Prop := (∃ (v60011440_ : Int32), v60011260_ = (0 : Int32) ∧ v60011440_ = fknown_ (24 + t_).toNatClampNeg ∧ v60214500_ = v60011440_) ∨ (¬ (v60011260_ = (0 : Int32)) ∧ v60214500_ = ((-1) : Int32)) ∨ False
def R_X11_thing_j4 (v60011490_ : Int32) (fknown_ : Nat → Int32) (t_ : Int32) (v60217600_ : Int32) : Prop := (v60011490_ = (0 : Int32) ∧ v60217600_ = ((-1) : Int32)) ∨ (∃ (v60011610_ : Int32) (v60011700_ : Int32), ¬ (v60011490_ = (0 : Int32)) ∧ v60011610_ = fknown_ (40 : Int32).toNatClampNeg ∧ v60011700_ = fknown_ (32 + t_).toNatClampNeg ∧ v60217600_ = v60011610_ - v60011700_) ∨ False
def R_X11_thing_j5 (v60011800_ : Int32) (fknown_ : Nat → Int32) (t_ : Int32) (v60220700_ : Int32) : Prop := (v60011800_ = (0 : Int32) ∧ v60220700_ = ((-1) : Int32)) ∨ (∃ (v60011940_ : Int32) (v60012010_ : Int32), ¬ (v60011800_ = (0 : Int32)) ∧ v60011940_ = fknown_ (32 + t_).toNatClampNeg ∧ v60012010_ = fknown_ (40 : Int32).toNatClampNeg ∧ v60220700_ = v60011940_ - v60012010_) ∨ False
def R_X11_thing_e (fknown_ : Nat → Int32) (t_ : Int32) (w_ : Int32) (x0_ : Int32) (r : Int32) : Prop := (∃ (v10040_ : Int32), R_X11_isThing_w_e1 fknown_ t_.toInt64 v10040_ ∧ x0_ = (1 : Int32) ∧ r = (0 : Int32)) ∨ (∃ (v10040_ : Int32), R_X11_isThing_w_e2 fknown_ t_.toInt64 v10040_ ∧ x0_ = (1 : Int32) ∧ r = (0 : Int32)) ∨ (∃ (v10040_ : Int32) (v30010200_ : Int32), R_X11_isThing_w_e3 fknown_ t_.toInt64 v10040_ ∧ R_X11_within_w_e1 w_.toInt64 ((0 : Int64)) v30010200_ ∧ x0_ = (2 : Int32) ∧ r = (0 : Int32)) ∨ (∃ (v10040_ : Int32) (v30010200_ : Int32), R_X11_isThing_w_e3 fknown_ t_.toInt64 v10040_ ∧ R_X11_within_w_e2 w_.toInt64 ((0 : Int64)) ((5 : Int64)) v30010200_ ∧ x0_ = (2 : Int32) ∧ r = (0 : Int32)) ∨ (∃ (v10040_ : Int32) (v30010200_ : Int32) (v60010880_ : Int32), R_X11_isThing_w_e3 fknown_ t_.toInt64 v10040_ ∧ R_X11_within_w_e3 w_.toInt64 ((0 : Int64)) ((5 : Int64)) v30010200_ ∧ (0 : Int32) = w_ ∧ v60010880_ = fknown_ (45 + t_).toNatClampNeg ∧ x0_ = (0 : Int32) ∧ r = v60010880_) ∨ (∃ (v10040_ : Int32) (v30010200_ : Int32) (v60010980_ : Int32), R_X11_isThing_w_e3 fknown_ t_.toInt64 v10040_ ∧ R_X11_within_w_e3 w_.toInt64 ((0 : Int64)) ((5 : Int64)) v30010200_ ∧ (1 : Int32) = w_ ∧ v60010980_ = fknown_ (8 + t_).toNatClampNeg ∧ x0_ = (0 : Int32) ∧ r = v60010980_) ∨ (∃ (v10040_ : Int32) (v30010200_ : Int32) (v60011030_ : Int32) (v60212200_ : Int32), R_X11_isThing_w_e3 fknown_ t_.toInt64 v10040_ ∧ R_X11_within_w_e3 w_.toInt64 ((0 : Int64)) ((5 : Int64)) v30010200_ ∧ (2 : Int32) = w_ ∧ R_X11_is_e fknown_ t_ ((0 : Int32)) v60011030_ ∧ R_X11_thing_j2 v60011030_ fknown_ t_ v60212200_ ∧ x0_ = (0 : Int32) ∧ r = v60212200_) ∨ (∃ (v10040_ : Int32) (v30010200_ : Int32) (v60011260_ : Int32) (v60214500_ : Int32), R_X11_isThing_w_e3 fknown_ t_.toInt64 v10040_ ∧ R_X11_within_w_e3 w_.toInt64 ((0 : Int64)) ((5 : Int64)) v30010200_ ∧ (3 : Int32) = w_ ∧ R_X11_is_e fknown_ t_ ((0 : Int32)) v60011260_ ∧ R_X11_thing_j3 v60011260_ fknown_ t_ v60214500_ ∧ x0_ = (0 : Int32) ∧ r = v60214500_) ∨ (∃ (v10040_ : Int32) (v30010200_ : Int32) (v60011490_ : Int32) (v60217600_ : Int32), R_X11_isThing_w_e3 fknown_ t_.toInt64 v10040_ ∧ R_X11_within_w_e3 w_.toInt64 ((0 : Int64)) ((5 : Int64)) v30010200_ ∧ (4 : Int32) = w_ ∧ R_X11_is_e fknown_ t_ ((0 : Int32)) v60011490_ ∧ R_X11_thing_j4 v60011490_ fknown_ t_ v60217600_ ∧ x0_ = (0 : Int32) ∧ r = v60217600_) ∨ (∃ (v10040_ : Int32) (v30010200_ : Int32) (sw44_ : Int32) (v60011800_ : Int32) (v60220700_ : Int32), R_X11_isThing_w_e3 fknown_ t_.toInt64 v10040_ ∧ R_X11_within_w_e3 w_.toInt64 ((0 : Int64)) ((5 : Int64)) v30010200_ ∧ sw44_ = w_ ∧ (sw44_.toInt < 0 ∨ 4 < sw44_.toInt) ∧ R_X11_is_e fknown_ t_ ((1 : Int32)) v60011800_ ∧ R_X11_thing_j5 v60011800_ fknown_ t_ v60220700_ ∧ x0_ = (0 : Int32) ∧ r = v60220700_) ∨ False
set_option maxHeartbeats 4000000 in
set_option maxRecDepth 100000 in
theorem sf_X11_thing (l : Launch) (D : va_G) (cy : Nat → ClassId) (nm_ : Nat) (nknown_ : Nat) (ntelling_ : Nat) (nimages_ : Nat) (nisImage_ : Nat) (mthrown_ : Int32) (ntape_ : Nat) (mtaped_ : Int32) (mlength_ : Int32) (mhead_ : Int32) (mbegin_ : Int32) (mtoken_ : Int32) (mvalue_ : Int32) (mbad_ : Int32) (mbadPlace_ : Int32) (mfaultKind_ : Int32) (mfaultPlace_ : Int32) (mdeep_ : Int32) (mlawMany_ : Int32) (mlawAt_ : Int32) (nstack_ : Nat) (nasked_ : Nat) (mfell_ : Int32) (mfellIn_ : Int32) (naside_ : Nat) (mstate_ : Int32) (mlanded_ : Int32) (mwaitFalls_ : Int32) (mwaitWeight_ : Int32) (nfallsAfter_ : Nat) (nfalling_ : Nat) (ncomes_ : Nat) (ngoesOn_ : Nat) (nwayRow_ : Nat) (nmany_ : Nat) (nmanyThen_ : Nat) (mtoldLet_ : Int32) (ntSort_ : Nat) (ntMany_ : Nat) (nnumbers_ : Nat) (fknown_ : Nat → Int32) (t_ : Int32) (w_ : Int32) (C_ : Int) (L_ : Int) (hb_ : Int) (ha_ : Int) (hc_ : Int) (hha_ : -2000000 ≤ ha_) (hhc_ : hc_ ≤ 4000000) (hhb_ : hb_ ≤ 1000000) (rmtaped_ : rg (0) (900) mtaped_) (rmlength_ : rg (0) (900) mlength_) (rmhead_ : rg (0) (900) mhead_) (rmbegin_ : rg (0) (900) mbegin_) (rfknown_ : KX C_ L_ ha_ hc_ hb_ fknown_) : Ci l yX11_thing cX11_thing 3 (some .int) { frames := 2, cells := 0, slots := 0, locals := 47 } D cy [.ref nm_, .int t_, .int w_] [(nm_, .inr (11, [.ref nknown_, .ref ntelling_, .ref nimages_, .ref nisImage_, .int mthrown_, .ref ntape_, .int mtaped_, .int mlength_, .int mhead_, .int mbegin_, .int mtoken_, .int mvalue_, .int mbad_, .int mbadPlace_, .int mfaultKind_, .int mfaultPlace_, .int mdeep_, .int mlawMany_, .int mlawAt_, .ref nstack_, .ref nasked_, .int mfell_, .int mfellIn_, .ref naside_, .int mstate_, .int mlanded_, .int mwaitFalls_, .int mwaitWeight_, .ref nfallsAfter_, .ref nfalling_, .ref ncomes_, .ref ngoesOn_, .ref nwayRow_, .ref nmany_, .ref nmanyThen_, .int mtoldLet_, .ref ntSort_, .ref ntMany_, .ref nnumbers_])), (nknown_, .inl (cy 0, 2260, .inl (fknown_)))] (fun r W1 => ∃ (x0_ : Int32), rg (0) (2) x0_ ∧ R_X11_thing_e fknown_ t_ w_ x0_ r ∧ W1 = [(nm_, .inr (11, [.ref nknown_, .ref ntelling_, .ref nimages_, .ref nisImage_, .int x0_, .ref ntape_, .int mtaped_, .int mlength_, .int mhead_, .int mbegin_, .int mtoken_, .int mvalue_, .int mbad_, .int mbadPlace_, .int mfaultKind_, .int mfaultPlace_, .int mdeep_, .int mlawMany_, .int mlawAt_, .ref nstack_, .ref nasked_, .int mfell_, .int mfellIn_, .ref naside_, .int mstate_, .int mlanded_, .int mwaitFalls_, .int mwaitWeight_, .ref nfallsAfter_, .ref nfalling_, .ref ncomes_, .ref ngoesOn_, .ref nwayRow_, .ref nmany_, .ref nmanyThen_, .int mtoldLet_, .ref ntSort_, .ref ntMany_, .ref nnumbers_])), (nknown_, .inl (cy 0, 2260, .inl (fknown_)))]) := by
  refine Ci.of (by decide) (Nat.le_of_ble_eq_true rfl) ?_
  intro p e s m below meth c A ls hX hE hP hD hl
  obtain ⟨hx, hb, hr, hml, hown, htA, hlk⟩ := id hX
  have hK := hE.1
  have hS : va_S A s.heap s.heap [] := va_S.rf
  have hl : lv_has ls 3 [(0, .ref nm_), (1, .int t_), (2, .int w_)] := hl
  refine lv_aload_n hx hb dX11_thing_0 rfl (lv_at hl 0 rfl) ?_
  refine lv_aload_n hx hb dX11_thing_1 rfl (lv_at hl 0 rfl) ?_
  refine lv_iload_n hx hb dX11_thing_2 rfl (lv_at hl 1 rfl) ?_
  refine lv_i2l hx hb dX11_thing_3 rfl ?_
  have g1_ : rl (-2147483648) (2147483647) t_.toInt64 := rl_i2l (rg_any _)
  refine kVi (As := [.long t_.toInt64]) (rest := [.ref nm_]) (wr := []) hX hE (sf_X11_isThing_w l D cy nm_ nknown_ ntelling_ nimages_ nisImage_ mthrown_ ntape_ mtaped_ mlength_ mhead_ mbegin_ mtoken_ mvalue_ mbad_ mbadPlace_ mfaultKind_ mfaultPlace_ mdeep_ mlawMany_ mlawAt_ nstack_ nasked_ mfell_ mfellIn_ naside_ mstate_ mlanded_ mwaitFalls_ mwaitWeight_ nfallsAfter_ nfalling_ ncomes_ ngoesOn_ nwayRow_ nmany_ nmanyThen_ mtoldLet_ ntSort_ ntMany_ nnumbers_ fknown_ t_.toInt64 C_ L_ hb_ ha_ hc_ (by omega) (by omega) (by omega) (rg_w rmtaped_ (by decide) (by decide)) (rg_w rmlength_ (by decide) (by decide)) (rg_w rmhead_ (by decide) (by decide)) (rg_w rmbegin_ (by decide) (by decide)) rfknown_) (cwVA 1 htA wd_1661 wd_1658 wd_10 wd_1660 wp_73 (by decide +kernel) ⟨by decide, by decide⟩) hP hD hS [0, 1] [] rfl rfl (by decide +kernel) 0 rfl rfl rfl rfl hl.1 rfl (Nat.le_of_ble_eq_true rfl) dX11_thing_4 (by decide) (fun v10040_ W1 H locs hw hP hD hS => ?_)
  refine W.widen (k := 0) (n := 0) (by decide) (by decide) ?_
  rcases hw with ⟨k4_0_, k4_1_, rfl, kr4_⟩ | ⟨k4_0_, k4_1_, rfl, kr4_⟩ | ⟨k4_0_, k4_1_, k4_2_, rfl, kr4_⟩
  · have hP : va_P D vwCl [(nm_, .inr (11, [.ref nknown_, .ref ntelling_, .ref nimages_, .ref nisImage_, .int mthrown_, .ref ntape_, .int mtaped_, .int mlength_, .int mhead_, .int mbegin_, .int mtoken_, .int mvalue_, .int mbad_, .int mbadPlace_, .int mfaultKind_, .int mfaultPlace_, .int mdeep_, .int mlawMany_, .int mlawAt_, .ref nstack_, .ref nasked_, .int mfell_, .int mfellIn_, .ref naside_, .int mstate_, .int mlanded_, .int mwaitFalls_, .int mwaitWeight_, .ref nfallsAfter_, .ref nfalling_, .ref ncomes_, .ref ngoesOn_, .ref nwayRow_, .ref nmany_, .ref nmanyThen_, .int mtoldLet_, .ref ntSort_, .ref ntMany_, .ref nnumbers_])), (nknown_, .inl (cy 0, 2260, .inl (fknown_)))] H := hP
    have hD := va_ca hP hD
    refine lv_if_ne (tgt := 14) hx hb dX11_thing_7 (by decide) (fun c10000007_ => rg_ne0 c10000007_ kr4_ (rg_lit (by decide) : rg (0) (0) (0 : Int32))) (fun c10000007_ => ?_)
    refine lv_iconst (v := 1) hx hb dX11_thing_10 (by decide) ?_
    refine lv_goto (tgt := 31) hx hb dX11_thing_11 (by decide) ?_
    refine va_put (ci := 11) (v := .int 1) (ty := .int) (C := RX11) (T := TX11) (N := 39) hx hb htA in_X11 tyX11 tyX11_ok nmX11 hown hK hP hD hS 0 rfl rfl 4 (by decide) (htA _ wd_1358) (fun _ h => h) rfl (by decide +kernel) rfl rfl (Nat.le_of_ble_eq_true rfl) dX11_thing_31 (fun H locs hP hD hS => ?_)
    have hP : va_P D vwCl [(nm_, .inr (11, [.ref nknown_, .ref ntelling_, .ref nimages_, .ref nisImage_, .int 1, .ref ntape_, .int mtaped_, .int mlength_, .int mhead_, .int mbegin_, .int mtoken_, .int mvalue_, .int mbad_, .int mbadPlace_, .int mfaultKind_, .int mfaultPlace_, .int mdeep_, .int mlawMany_, .int mlawAt_, .ref nstack_, .ref nasked_, .int mfell_, .int mfellIn_, .ref naside_, .int mstate_, .int mlanded_, .int mwaitFalls_, .int mwaitWeight_, .ref nfallsAfter_, .ref nfalling_, .ref ncomes_, .ref ngoesOn_, .ref nwayRow_, .ref nmany_, .ref nmanyThen_, .int mtoldLet_, .ref ntSort_, .ref ntMany_, .ref nnumbers_])), (nknown_, .inl (cy 0, 2260, .inl (fknown_)))] H := hP
    have hD := va_ca hP hD
    refine lv_aload_n hx hb dX11_thing_34 rfl (lv_at hl 0 rfl) ?_
    refine va_get (ci := 11) (v := .int 1) (C := RX11) (T := TX11) (N := 39) hx hb htA in_X11 hown hK hP 0 rfl rfl 4 (by decide) (htA _ wd_1358) (fun _ h => h) rfl dX11_thing_35 ?_
    refine lv_if_le (tgt := 43) hx hb dX11_thing_38 (by decide) (fun q => absurd q (by decide)) (fun _ => ?_)
    refine lv_iconst (v := 0) hx hb dX11_thing_41 (by decide) ?_
    exact rI hX hE hP hD hS dX11_thing_42 (by decide) (by decide) ⟨1, (rg_w (rg_lit (by decide) : rg (1) (1) (1 : Int32)) (by decide) (by decide)), (Or.inl ⟨v10040_, k4_1_, rfl, rfl⟩), rfl⟩
  · have hP : va_P D vwCl [(nm_, .inr (11, [.ref nknown_, .ref ntelling_, .ref nimages_, .ref nisImage_, .int mthrown_, .ref ntape_, .int mtaped_, .int mlength_, .int mhead_, .int mbegin_, .int mtoken_, .int mvalue_, .int mbad_, .int mbadPlace_, .int mfaultKind_, .int mfaultPlace_, .int mdeep_, .int mlawMany_, .int mlawAt_, .ref nstack_, .ref nasked_, .int mfell_, .int mfellIn_, .ref naside_, .int mstate_, .int mlanded_, .int mwaitFalls_, .int mwaitWeight_, .ref nfallsAfter_, .ref nfalling_, .ref ncomes_, .ref ngoesOn_, .ref nwayRow_, .ref nmany_, .ref nmanyThen_, .int mtoldLet_, .ref ntSort_, .ref ntMany_, .ref nnumbers_])), (nknown_, .inl (cy 0, 2260, .inl (fknown_)))] H := hP
    have hD := va_ca hP hD
    refine lv_if_ne (tgt := 14) hx hb dX11_thing_7 (by decide) (fun c20000007_ => rg_ne0 c20000007_ kr4_ (rg_lit (by decide) : rg (0) (0) (0 : Int32))) (fun c20000007_ => ?_)
    refine lv_iconst (v := 1) hx hb dX11_thing_10 (by decide) ?_
    refine lv_goto (tgt := 31) hx hb dX11_thing_11 (by decide) ?_
    refine va_put (ci := 11) (v := .int 1) (ty := .int) (C := RX11) (T := TX11) (N := 39) hx hb htA in_X11 tyX11 tyX11_ok nmX11 hown hK hP hD hS 0 rfl rfl 4 (by decide) (htA _ wd_1358) (fun _ h => h) rfl (by decide +kernel) rfl rfl (Nat.le_of_ble_eq_true rfl) dX11_thing_31 (fun H locs hP hD hS => ?_)
    have hP : va_P D vwCl [(nm_, .inr (11, [.ref nknown_, .ref ntelling_, .ref nimages_, .ref nisImage_, .int 1, .ref ntape_, .int mtaped_, .int mlength_, .int mhead_, .int mbegin_, .int mtoken_, .int mvalue_, .int mbad_, .int mbadPlace_, .int mfaultKind_, .int mfaultPlace_, .int mdeep_, .int mlawMany_, .int mlawAt_, .ref nstack_, .ref nasked_, .int mfell_, .int mfellIn_, .ref naside_, .int mstate_, .int mlanded_, .int mwaitFalls_, .int mwaitWeight_, .ref nfallsAfter_, .ref nfalling_, .ref ncomes_, .ref ngoesOn_, .ref nwayRow_, .ref nmany_, .ref nmanyThen_, .int mtoldLet_, .ref ntSort_, .ref ntMany_, .ref nnumbers_])), (nknown_, .inl (cy 0, 2260, .inl (fknown_)))] H := hP
    have hD := va_ca hP hD
    refine lv_aload_n hx hb dX11_thing_34 rfl (lv_at hl 0 rfl) ?_
    refine va_get (ci := 11) (v := .int 1) (C := RX11) (T := TX11) (N := 39) hx hb htA in_X11 hown hK hP 0 rfl rfl 4 (by decide) (htA _ wd_1358) (fun _ h => h) rfl dX11_thing_35 ?_
    refine lv_if_le (tgt := 43) hx hb dX11_thing_38 (by decide) (fun q => absurd q (by decide)) (fun _ => ?_)
    refine lv_iconst (v := 0) hx hb dX11_thing_41 (by decide) ?_
    exact rI hX hE hP hD hS dX11_thing_42 (by decide) (by decide) ⟨1, (rg_w (rg_lit (by decide) : rg (1) (1) (1 : Int32)) (by decide) (by decide)), (Or.inr (Or.inl ⟨v10040_, k4_1_, rfl, rfl⟩)), rfl⟩
  · have hP : va_P D vwCl [(nm_, .inr (11, [.ref nknown_, .ref ntelling_, .ref nimages_, .ref nisImage_, .int mthrown_, .ref ntape_, .int mtaped_, .int mlength_, .int mhead_, .int mbegin_, .int mtoken_, .int mvalue_, .int mbad_, .int mbadPlace_, .int mfaultKind_, .int mfaultPlace_, .int mdeep_, .int mlawMany_, .int mlawAt_, .ref nstack_, .ref nasked_, .int mfell_, .int mfellIn_, .ref naside_, .int mstate_, .int mlanded_, .int mwaitFalls_, .int mwaitWeight_, .ref nfallsAfter_, .ref nfalling_, .ref ncomes_, .ref ngoesOn_, .ref nwayRow_, .ref nmany_, .ref nmanyThen_, .int mtoldLet_, .ref ntSort_, .ref ntMany_, .ref nnumbers_])), (nknown_, .inl (cy 0, 2260, .inl (fknown_)))] H := hP
    have hD := va_ca hP hD
    refine lv_if_ne (tgt := 14) hx hb dX11_thing_7 (by decide) (fun c30000007_ => ?_) (fun c30000007_ => rg_eqab c30000007_ kr4_ (rg_lit (by decide) : rg (0) (0) (0 : Int32)) (by decide))
    refine lv_iload_n hx hb dX11_thing_14 rfl (lv_at hl 2 rfl) ?_
    refine lv_i2l hx hb dX11_thing_15 rfl ?_
    have g2_ : rl (-2147483648) (2147483647) w_.toInt64 := rl_i2l (rg_any _)
    refine lv_lconst (v := 0) hx hb dX11_thing_16 (by decide) ?_
    refine lv_ldc2 hx hb hown (htA _ wd_1662) dX11_thing_17 ?_
    refine kSi (As := [.long w_.toInt64, .long 0, .long 5]) (rest := [.ref nm_]) (wr := [(nm_, .inr (11, [.ref nknown_, .ref ntelling_, .ref nimages_, .ref nisImage_, .int mthrown_, .ref ntape_, .int mtaped_, .int mlength_, .int mhead_, .int mbegin_, .int mtoken_, .int mvalue_, .int mbad_, .int mbadPlace_, .int mfaultKind_, .int mfaultPlace_, .int mdeep_, .int mlawMany_, .int mlawAt_, .ref nstack_, .ref nasked_, .int mfell_, .int mfellIn_, .ref naside_, .int mstate_, .int mlanded_, .int mwaitFalls_, .int mwaitWeight_, .ref nfallsAfter_, .ref nfalling_, .ref ncomes_, .ref ngoesOn_, .ref nwayRow_, .ref nmany_, .ref nmanyThen_, .int mtoldLet_, .ref ntSort_, .ref ntMany_, .ref nnumbers_])), (nknown_, .inl (cy 0, 2260, .inl (fknown_)))]) hX hE (sf_X11_within_w l D cy w_.toInt64 (0 : Int64) (5 : Int64) ) (cwSA 3 htA wd_1483 wd_1481 wd_10 wd_1482 (by decide +kernel) ⟨by decide, by decide⟩) hP hD hS [] [0, 1] rfl rfl (by decide +kernel) rfl hl.1 rfl (Nat.le_of_ble_eq_true rfl) dX11_thing_20 (by decide) (fun v30010200_ W1 H locs hw hP hD hS => ?_)
    refine W.widen (k := 0) (n := 0) (by decide) (by decide) ?_
    rcases hw with ⟨k30000020_0_, k30000020_1_, k30000020_2_, k30000020_3_, rfl, kr30000020_⟩ | ⟨k30000020_0_, k30000020_1_, k30000020_2_, k30000020_3_, k30000020_4_, rfl, kr30000020_⟩ | ⟨k30000020_0_, k30000020_1_, k30000020_2_, rfl, kr30000020_⟩
    · have hP : va_P D vwCl [(nm_, .inr (11, [.ref nknown_, .ref ntelling_, .ref nimages_, .ref nisImage_, .int mthrown_, .ref ntape_, .int mtaped_, .int mlength_, .int mhead_, .int mbegin_, .int mtoken_, .int mvalue_, .int mbad_, .int mbadPlace_, .int mfaultKind_, .int mfaultPlace_, .int mdeep_, .int mlawMany_, .int mlawAt_, .ref nstack_, .ref nasked_, .int mfell_, .int mfellIn_, .ref naside_, .int mstate_, .int mlanded_, .int mwaitFalls_, .int mwaitWeight_, .ref nfallsAfter_, .ref nfalling_, .ref ncomes_, .ref ngoesOn_, .ref nwayRow_, .ref nmany_, .ref nmanyThen_, .int mtoldLet_, .ref ntSort_, .ref ntMany_, .ref nnumbers_])), (nknown_, .inl (cy 0, 2260, .inl (fknown_)))] H := hP
      have hD := va_ca hP hD
      have g3_ : rl (-2147483648) (0) w_.toInt64 := rl_le1 k30000020_2_ (rl_cut g2_ k30000020_0_) (rl_lit (by decide) : rl (0) (0) (0 : Int64)) (by decide)
      refine lv_if_eq (tgt := 30) hx hb dX11_thing_23 (by decide) (fun c40000023_ => ?_) (fun c40000023_ => rg_ne0 c40000023_ kr30000020_ (rg_lit (by decide) : rg (0) (0) (0 : Int32)))
      refine lv_iconst (v := 2) hx hb dX11_thing_30 (by decide) ?_
      refine va_put (ci := 11) (v := .int 2) (ty := .int) (C := RX11) (T := TX11) (N := 39) hx hb htA in_X11 tyX11 tyX11_ok nmX11 hown hK hP hD hS 0 rfl rfl 4 (by decide) (htA _ wd_1358) (fun _ h => h) rfl (by decide +kernel) rfl rfl (Nat.le_of_ble_eq_true rfl) dX11_thing_31 (fun H locs hP hD hS => ?_)
      have hP : va_P D vwCl [(nm_, .inr (11, [.ref nknown_, .ref ntelling_, .ref nimages_, .ref nisImage_, .int 2, .ref ntape_, .int mtaped_, .int mlength_, .int mhead_, .int mbegin_, .int mtoken_, .int mvalue_, .int mbad_, .int mbadPlace_, .int mfaultKind_, .int mfaultPlace_, .int mdeep_, .int mlawMany_, .int mlawAt_, .ref nstack_, .ref nasked_, .int mfell_, .int mfellIn_, .ref naside_, .int mstate_, .int mlanded_, .int mwaitFalls_, .int mwaitWeight_, .ref nfallsAfter_, .ref nfalling_, .ref ncomes_, .ref ngoesOn_, .ref nwayRow_, .ref nmany_, .ref nmanyThen_, .int mtoldLet_, .ref ntSort_, .ref ntMany_, .ref nnumbers_])), (nknown_, .inl (cy 0, 2260, .inl (fknown_)))] H := hP
      have hD := va_ca hP hD
      refine lv_aload_n hx hb dX11_thing_34 rfl (lv_at hl 0 rfl) ?_
      refine va_get (ci := 11) (v := .int 2) (C := RX11) (T := TX11) (N := 39) hx hb htA in_X11 hown hK hP 0 rfl rfl 4 (by decide) (htA _ wd_1358) (fun _ h => h) rfl dX11_thing_35 ?_
      refine lv_if_le (tgt := 43) hx hb dX11_thing_38 (by decide) (fun q => absurd q (by decide)) (fun _ => ?_)
      refine lv_iconst (v := 0) hx hb dX11_thing_41 (by decide) ?_
      exact rI hX hE hP hD hS dX11_thing_42 (by decide) (by decide) ⟨2, (rg_w (rg_lit (by decide) : rg (2) (2) (2 : Int32)) (by decide) (by decide)), (Or.inr (Or.inr (Or.inl ⟨v10040_, v30010200_, k4_2_, k30000020_3_, rfl, rfl⟩))), rfl⟩
    · have hP : va_P D vwCl [(nm_, .inr (11, [.ref nknown_, .ref ntelling_, .ref nimages_, .ref nisImage_, .int mthrown_, .ref ntape_, .int mtaped_, .int mlength_, .int mhead_, .int mbegin_, .int mtoken_, .int mvalue_, .int mbad_, .int mbadPlace_, .int mfaultKind_, .int mfaultPlace_, .int mdeep_, .int mlawMany_, .int mlawAt_, .ref nstack_, .ref nasked_, .int mfell_, .int mfellIn_, .ref naside_, .int mstate_, .int mlanded_, .int mwaitFalls_, .int mwaitWeight_, .ref nfallsAfter_, .ref nfalling_, .ref ncomes_, .ref ngoesOn_, .ref nwayRow_, .ref nmany_, .ref nmanyThen_, .int mtoldLet_, .ref ntSort_, .ref ntMany_, .ref nnumbers_])), (nknown_, .inl (cy 0, 2260, .inl (fknown_)))] H := hP
      have hD := va_ca hP hD
      have g4_ : rl (0) (2147483647) w_.toInt64 := rl_le2 k30000020_2_ (rl_lit (by decide) : rl (0) (0) (0 : Int64)) (rl_cut g2_ k30000020_0_) (by decide)
      have g5_ : rl (5) (2147483647) w_.toInt64 := rl_le2 k30000020_3_ (rl_lit (by decide) : rl (5) (5) (5 : Int64)) g4_ (by decide)
      refine lv_if_eq (tgt := 30) hx hb dX11_thing_23 (by decide) (fun c50000023_ => ?_) (fun c50000023_ => rg_ne0 c50000023_ kr30000020_ (rg_lit (by decide) : rg (0) (0) (0 : Int32)))
      refine lv_iconst (v := 2) hx hb dX11_thing_30 (by decide) ?_
      refine va_put (ci := 11) (v := .int 2) (ty := .int) (C := RX11) (T := TX11) (N := 39) hx hb htA in_X11 tyX11 tyX11_ok nmX11 hown hK hP hD hS 0 rfl rfl 4 (by decide) (htA _ wd_1358) (fun _ h => h) rfl (by decide +kernel) rfl rfl (Nat.le_of_ble_eq_true rfl) dX11_thing_31 (fun H locs hP hD hS => ?_)
      have hP : va_P D vwCl [(nm_, .inr (11, [.ref nknown_, .ref ntelling_, .ref nimages_, .ref nisImage_, .int 2, .ref ntape_, .int mtaped_, .int mlength_, .int mhead_, .int mbegin_, .int mtoken_, .int mvalue_, .int mbad_, .int mbadPlace_, .int mfaultKind_, .int mfaultPlace_, .int mdeep_, .int mlawMany_, .int mlawAt_, .ref nstack_, .ref nasked_, .int mfell_, .int mfellIn_, .ref naside_, .int mstate_, .int mlanded_, .int mwaitFalls_, .int mwaitWeight_, .ref nfallsAfter_, .ref nfalling_, .ref ncomes_, .ref ngoesOn_, .ref nwayRow_, .ref nmany_, .ref nmanyThen_, .int mtoldLet_, .ref ntSort_, .ref ntMany_, .ref nnumbers_])), (nknown_, .inl (cy 0, 2260, .inl (fknown_)))] H := hP
      have hD := va_ca hP hD
      refine lv_aload_n hx hb dX11_thing_34 rfl (lv_at hl 0 rfl) ?_
      refine va_get (ci := 11) (v := .int 2) (C := RX11) (T := TX11) (N := 39) hx hb htA in_X11 hown hK hP 0 rfl rfl 4 (by decide) (htA _ wd_1358) (fun _ h => h) rfl dX11_thing_35 ?_
      refine lv_if_le (tgt := 43) hx hb dX11_thing_38 (by decide) (fun q => absurd q (by decide)) (fun _ => ?_)
      refine lv_iconst (v := 0) hx hb dX11_thing_41 (by decide) ?_
      exact rI hX hE hP hD hS dX11_thing_42 (by decide) (by decide) ⟨2, (rg_w (rg_lit (by decide) : rg (2) (2) (2 : Int32)) (by decide) (by decide)), (Or.inr (Or.inr (Or.inr (Or.inl ⟨v10040_, v30010200_, k4_2_, k30000020_4_, rfl, rfl⟩)))), rfl⟩
    · have hP : va_P D vwCl [(nm_, .inr (11, [.ref nknown_, .ref ntelling_, .ref nimages_, .ref nisImage_, .int mthrown_, .ref ntape_, .int mtaped_, .int mlength_, .int mhead_, .int mbegin_, .int mtoken_, .int mvalue_, .int mbad_, .int mbadPlace_, .int mfaultKind_, .int mfaultPlace_, .int mdeep_, .int mlawMany_, .int mlawAt_, .ref nstack_, .ref nasked_, .int mfell_, .int mfellIn_, .ref naside_, .int mstate_, .int mlanded_, .int mwaitFalls_, .int mwaitWeight_, .ref nfallsAfter_, .ref nfalling_, .ref ncomes_, .ref ngoesOn_, .ref nwayRow_, .ref nmany_, .ref nmanyThen_, .int mtoldLet_, .ref ntSort_, .ref ntMany_, .ref nnumbers_])), (nknown_, .inl (cy 0, 2260, .inl (fknown_)))] H := hP
      have hD := va_ca hP hD
      have g6_ : rl (-2147483648) (5) w_.toInt64 := rl_le1 k30000020_0_ g2_ (rl_lit (by decide) : rl (5) (5) (5 : Int64)) (by decide)
      have g7_ : rl (0) (5) w_.toInt64 := rl_le2 k30000020_1_ (rl_lit (by decide) : rl (0) (0) (0 : Int64)) g6_ (by decide)
      refine lv_if_eq (tgt := 30) hx hb dX11_thing_23 (by decide) (fun c60000023_ => rg_eqab c60000023_ kr30000020_ (rg_lit (by decide) : rg (0) (0) (0 : Int32)) (by decide)) (fun c60000023_ => ?_)
      refine lv_iconst (v := 0) hx hb dX11_thing_26 (by decide) ?_
      refine lv_goto (tgt := 31) hx hb dX11_thing_27 (by decide) ?_
      refine va_put (ci := 11) (v := .int 0) (ty := .int) (C := RX11) (T := TX11) (N := 39) hx hb htA in_X11 tyX11 tyX11_ok nmX11 hown hK hP hD hS 0 rfl rfl 4 (by decide) (htA _ wd_1358) (fun _ h => h) rfl (by decide +kernel) rfl rfl (Nat.le_of_ble_eq_true rfl) dX11_thing_31 (fun H locs hP hD hS => ?_)
      have hP : va_P D vwCl [(nm_, .inr (11, [.ref nknown_, .ref ntelling_, .ref nimages_, .ref nisImage_, .int 0, .ref ntape_, .int mtaped_, .int mlength_, .int mhead_, .int mbegin_, .int mtoken_, .int mvalue_, .int mbad_, .int mbadPlace_, .int mfaultKind_, .int mfaultPlace_, .int mdeep_, .int mlawMany_, .int mlawAt_, .ref nstack_, .ref nasked_, .int mfell_, .int mfellIn_, .ref naside_, .int mstate_, .int mlanded_, .int mwaitFalls_, .int mwaitWeight_, .ref nfallsAfter_, .ref nfalling_, .ref ncomes_, .ref ngoesOn_, .ref nwayRow_, .ref nmany_, .ref nmanyThen_, .int mtoldLet_, .ref ntSort_, .ref ntMany_, .ref nnumbers_])), (nknown_, .inl (cy 0, 2260, .inl (fknown_)))] H := hP
      have hD := va_ca hP hD
      refine lv_aload_n hx hb dX11_thing_34 rfl (lv_at hl 0 rfl) ?_
      refine va_get (ci := 11) (v := .int 0) (C := RX11) (T := TX11) (N := 39) hx hb htA in_X11 hown hK hP 0 rfl rfl 4 (by decide) (htA _ wd_1358) (fun _ h => h) rfl dX11_thing_35 ?_
      refine lv_if_le (tgt := 43) hx hb dX11_thing_38 (by decide) (fun _ => ?_) (fun q => absurd (by decide) q)
      refine lv_iload_n hx hb dX11_thing_43 rfl (lv_at hl 2 rfl) ?_
      refine lv_topi (fun sw44_ esw44_ => ?_)
      rcases sw_0_4 sw44_ with rfl | rfl | rfl | rfl | rfl | c44_
      · refine lv_tableIn (tgt := 80) hx hb dX11_thing_44 (by decide) (by decide) rfl (by decide) ?_
        have g8_ : rg (0) (0) w_ := rg_eq esw44_.symm (rg_lit (by decide) : rg (0) (0) (0 : Int32))
        refine lv_aload_n hx hb dX11_thing_80 rfl (lv_at hl 0 rfl) ?_
        refine va_get (ci := 11) (v := .ref nknown_) (C := RX11) (T := TX11) (N := 39) hx hb htA in_X11 hown hK hP 0 rfl rfl 0 (by decide) (htA _ wd_1354) (fun _ h => h) rfl dX11_thing_81 ?_
        refine lv_bipush (v := 45) hx hb dX11_thing_84 (by decide) ?_
        refine lv_iload_n hx hb dX11_thing_86 rfl (lv_at hl 1 rfl) ?_
        refine lv_iadd hx hb dX11_thing_87 ?_
        have g9_ : rg (45) (52) (45 + t_) := rg_add (rg_lit (by decide) : rg (45) (45) (45 : Int32)) (rl_b (rl_cut g1_ k4_0_)) (by decide) (by decide) (by decide) (by decide)
        refine va_iald hx hb hK hP 1 0 rfl rfl (rg_in g9_ (by decide) (by decide)) dX11_thing_88 ?_
        refine lv_topi (fun v60010880_ ev60010880_ => ?_)
        have g10_ : rg (0) (99) v60010880_ := by rw [ev60010880_]; exact KX_l kb_45 rfknown_ g9_ (by decide) (by decide)
        exact rI hX hE hP hD hS dX11_thing_89 (by decide) (by decide) ⟨0, (rg_w (rg_lit (by decide) : rg (0) (0) (0 : Int32)) (by decide) (by decide)), (Or.inr (Or.inr (Or.inr (Or.inr (Or.inl ⟨v10040_, v30010200_, v60010880_, k4_2_, k30000020_2_, esw44_, ev60010880_, rfl, rfl⟩))))), rfl⟩
      · refine lv_tableIn (tgt := 90) hx hb dX11_thing_44 (by decide) (by decide) rfl (by decide) ?_
        have g11_ : rg (1) (1) w_ := rg_eq esw44_.symm (rg_lit (by decide) : rg (1) (1) (1 : Int32))
        refine lv_aload_n hx hb dX11_thing_90 rfl (lv_at hl 0 rfl) ?_
        refine va_get (ci := 11) (v := .ref nknown_) (C := RX11) (T := TX11) (N := 39) hx hb htA in_X11 hown hK hP 0 rfl rfl 0 (by decide) (htA _ wd_1354) (fun _ h => h) rfl dX11_thing_91 ?_
        refine lv_bipush (v := 8) hx hb dX11_thing_94 (by decide) ?_
        refine lv_iload_n hx hb dX11_thing_96 rfl (lv_at hl 1 rfl) ?_
        refine lv_iadd hx hb dX11_thing_97 ?_
        have g12_ : rg (8) (15) (8 + t_) := rg_add (rg_lit (by decide) : rg (8) (8) (8 : Int32)) (rl_b (rl_cut g1_ k4_0_)) (by decide) (by decide) (by decide) (by decide)
        refine va_iald hx hb hK hP 1 0 rfl rfl (rg_in g12_ (by decide) (by decide)) dX11_thing_98 ?_
        refine lv_topi (fun v60010980_ ev60010980_ => ?_)
        have g13_ : rg (0) (2) v60010980_ := by rw [ev60010980_]; exact KX_l kb_8 rfknown_ g12_ (by decide) (by decide)
        exact rI hX hE hP hD hS dX11_thing_99 (by decide) (by decide) ⟨0, (rg_w (rg_lit (by decide) : rg (0) (0) (0 : Int32)) (by decide) (by decide)), (Or.inr (Or.inr (Or.inr (Or.inr (Or.inr (Or.inl ⟨v10040_, v30010200_, v60010980_, k4_2_, k30000020_2_, esw44_, ev60010980_, rfl, rfl⟩)))))), rfl⟩
      · refine lv_tableIn (tgt := 100) hx hb dX11_thing_44 (by decide) (by decide) rfl (by decide) ?_
        have g14_ : rg (2) (2) w_ := rg_eq esw44_.symm (rg_lit (by decide) : rg (2) (2) (2 : Int32))
        refine lv_aload_n hx hb dX11_thing_100 rfl (lv_at hl 0 rfl) ?_
        refine lv_iload_n hx hb dX11_thing_101 rfl (lv_at hl 1 rfl) ?_
        refine lv_iconst (v := 0) hx hb dX11_thing_102 (by decide) ?_
        refine kVi (As := [.int t_, .int 0]) (rest := []) (wr := []) hX hE (sf_X11_is l D cy nm_ nknown_ ntelling_ nimages_ nisImage_ (0 : Int32) ntape_ mtaped_ mlength_ mhead_ mbegin_ mtoken_ mvalue_ mbad_ mbadPlace_ mfaultKind_ mfaultPlace_ mdeep_ mlawMany_ mlawAt_ nstack_ nasked_ mfell_ mfellIn_ naside_ mstate_ mlanded_ mwaitFalls_ mwaitWeight_ nfallsAfter_ nfalling_ ncomes_ ngoesOn_ nwayRow_ nmany_ nmanyThen_ mtoldLet_ ntSort_ ntMany_ nnumbers_ fknown_ t_ (0 : Int32) C_ L_ hb_ ha_ hc_ (by omega) (by omega) (by omega) (rg_w rmtaped_ (by decide) (by decide)) (rg_w rmlength_ (by decide) (by decide)) (rg_w rmhead_ (by decide) (by decide)) (rg_w rmbegin_ (by decide) (by decide)) (rg_w (rl_b (rl_cut g1_ k4_0_)) (by decide) (by decide)) rfknown_) (cwVA 2 htA wd_1649 wd_1646 wd_10 wd_1648 wp_72 (by decide +kernel) ⟨by decide, by decide⟩) hP hD hS [0, 1] [] rfl rfl (by decide +kernel) 0 rfl rfl rfl rfl hl.1 rfl (Nat.le_of_ble_eq_true rfl) dX11_thing_103 (by decide) (fun v60011030_ W1 H locs hw hP hD hS => ?_)
        refine W.widen (k := 0) (n := 0) (by decide) (by decide) ?_
        obtain ⟨k60000103_0_, rfl, kr60000103_⟩ := hw
        have hP : va_P D vwCl [(nm_, .inr (11, [.ref nknown_, .ref ntelling_, .ref nimages_, .ref nisImage_, .int 0, .ref ntape_, .int mtaped_, .int mlength_, .int mhead_, .int mbegin_, .int mtoken_, .int mvalue_, .int mbad_, .int mbadPlace_, .int mfaultKind_, .int mfaultPlace_, .int mdeep_, .int mlawMany_, .int mlawAt_, .ref nstack_, .ref nasked_, .int mfell_, .int mfellIn_, .ref naside_, .int mstate_, .int mlanded_, .int mwaitFalls_, .int mwaitWeight_, .ref nfallsAfter_, .ref nfalling_, .ref ncomes_, .ref ngoesOn_, .ref nwayRow_, .ref nmany_, .ref nmanyThen_, .int mtoldLet_, .ref ntSort_, .ref ntMany_, .ref nnumbers_])), (nknown_, .inl (cy 0, 2260, .inl (fknown_)))] H := hP
        have hD := va_ca hP hD
        refine joinT (D := D) (A := A) (pc := 122) (mL := 3) (τ := Int32) (WS := fun i => [(nm_, .inr (11, [.ref nknown_, .ref ntelling_, .ref nimages_, .ref nisImage_, .int 0, .ref ntape_, .int mtaped_, .int mlength_, .int mhead_, .int mbegin_, .int mtoken_, .int mvalue_, .int mbad_, .int mbadPlace_, .int mfaultKind_, .int mfaultPlace_, .int mdeep_, .int mlawMany_, .int mlawAt_, .ref nstack_, .ref nasked_, .int mfell_, .int mfellIn_, .ref naside_, .int mstate_, .int mlanded_, .int mwaitFalls_, .int mwaitWeight_, .ref nfallsAfter_, .ref nfalling_, .ref ncomes_, .ref ngoesOn_, .ref nwayRow_, .ref nmany_, .ref nmanyThen_, .int mtoldLet_, .ref ntSort_, .ref ntMany_, .ref nnumbers_])), (nknown_, .inl (cy 0, 2260, .inl (fknown_)))]) (LV := fun i => [(0, .ref nm_), (1, .int t_), (2, .int w_)]) (ST := fun i => [.int i]) (cells := 0) (slots := 0) (fun i => R_X11_thing_j2 v60011030_ fknown_ t_ i) (fun v60212200_ H locs ls hI hP hD hS hl => ?_) (fun j122_ => ?_)
        · have hI : R_X11_thing_j2 v60011030_ fknown_ t_ v60212200_ := hI
          have hR2_ := hI
          have hP : va_P D vwCl [(nm_, .inr (11, [.ref nknown_, .ref ntelling_, .ref nimages_, .ref nisImage_, .int 0, .ref ntape_, .int mtaped_, .int mlength_, .int mhead_, .int mbegin_, .int mtoken_, .int mvalue_, .int mbad_, .int mbadPlace_, .int mfaultKind_, .int mfaultPlace_, .int mdeep_, .int mlawMany_, .int mlawAt_, .ref nstack_, .ref nasked_, .int mfell_, .int mfellIn_, .ref naside_, .int mstate_, .int mlanded_, .int mwaitFalls_, .int mwaitWeight_, .ref nfallsAfter_, .ref nfalling_, .ref ncomes_, .ref ngoesOn_, .ref nwayRow_, .ref nmany_, .ref nmanyThen_, .int mtoldLet_, .ref ntSort_, .ref ntMany_, .ref nnumbers_])), (nknown_, .inl (cy 0, 2260, .inl (fknown_)))] H := hP
          have hD := va_ca hP hD
          have hl : lv_has ls 3 [(0, .ref nm_), (1, .int t_), (2, .int w_)] := hl
          exact rI hX hE hP hD hS dX11_thing_122 (by decide) (by decide) ⟨0, (rg_w (rg_lit (by decide) : rg (0) (0) (0 : Int32)) (by decide) (by decide)), (Or.inr (Or.inr (Or.inr (Or.inr (Or.inr (Or.inr (Or.inl ⟨v10040_, v30010200_, v60011030_, v60212200_, k4_2_, k30000020_2_, esw44_, k60000103_0_, hR2_, rfl, rfl⟩))))))), rfl⟩
        refine lv_if_eq (tgt := 113) hx hb dX11_thing_106 (by decide) (fun c60000106_ => ?_) (fun c60000106_ => ?_)
        · have g15_ : rg (0) (0) v60011030_ := rg_eq c60000106_ (rg_lit (by decide) : rg (0) (0) (0 : Int32))
          refine lv_aload_n hx hb dX11_thing_113 rfl (lv_at hl 0 rfl) ?_
          refine va_get (ci := 11) (v := .ref nknown_) (C := RX11) (T := TX11) (N := 39) hx hb htA in_X11 hown hK hP 0 rfl rfl 0 (by decide) (htA _ wd_1354) (fun _ h => h) rfl dX11_thing_114 ?_
          refine lv_bipush (v := 16) hx hb dX11_thing_117 (by decide) ?_
          refine lv_iload_n hx hb dX11_thing_119 rfl (lv_at hl 1 rfl) ?_
          refine lv_iadd hx hb dX11_thing_120 ?_
          have g16_ : rg (16) (23) (16 + t_) := rg_add (rg_lit (by decide) : rg (16) (16) (16 : Int32)) (rl_b (rl_cut g1_ k4_0_)) (by decide) (by decide) (by decide) (by decide)
          refine va_iald hx hb hK hP 1 0 rfl rfl (rg_in g16_ (by decide) (by decide)) dX11_thing_121 ?_
          refine lv_topi (fun v60011210_ ev60011210_ => ?_)
          exact j122_ v60011210_ _ _ ls (Or.inl ⟨v60011210_, c60000106_, ev60011210_, rfl⟩) hP hD hS (lv_sub hl [0, 1, 2] rfl)
        · have g17_ : rg (1) (1) v60011030_ := rg_ne1 c60000106_ kr60000103_ (by decide) (by decide)
          refine lv_iconst (v := (-1)) hx hb dX11_thing_109 (by decide) ?_
          refine lv_goto (tgt := 122) hx hb dX11_thing_110 (by decide) ?_
          exact j122_ (-1) _ _ ls (Or.inr (Or.inl ⟨c60000106_, rfl⟩)) hP hD hS (lv_sub hl [0, 1, 2] rfl)
      · refine lv_tableIn (tgt := 123) hx hb dX11_thing_44 (by decide) (by decide) rfl (by decide) ?_
        have g18_ : rg (3) (3) w_ := rg_eq esw44_.symm (rg_lit (by decide) : rg (3) (3) (3 : Int32))
        refine lv_aload_n hx hb dX11_thing_123 rfl (lv_at hl 0 rfl) ?_
        refine lv_iload_n hx hb dX11_thing_124 rfl (lv_at hl 1 rfl) ?_
        refine lv_iconst (v := 0) hx hb dX11_thing_125 (by decide) ?_
        refine kVi (As := [.int t_, .int 0]) (rest := []) (wr := []) hX hE (sf_X11_is l D cy nm_ nknown_ ntelling_ nimages_ nisImage_ (0 : Int32) ntape_ mtaped_ mlength_ mhead_ mbegin_ mtoken_ mvalue_ mbad_ mbadPlace_ mfaultKind_ mfaultPlace_ mdeep_ mlawMany_ mlawAt_ nstack_ nasked_ mfell_ mfellIn_ naside_ mstate_ mlanded_ mwaitFalls_ mwaitWeight_ nfallsAfter_ nfalling_ ncomes_ ngoesOn_ nwayRow_ nmany_ nmanyThen_ mtoldLet_ ntSort_ ntMany_ nnumbers_ fknown_ t_ (0 : Int32) C_ L_ hb_ ha_ hc_ (by omega) (by omega) (by omega) (rg_w rmtaped_ (by decide) (by decide)) (rg_w rmlength_ (by decide) (by decide)) (rg_w rmhead_ (by decide) (by decide)) (rg_w rmbegin_ (by decide) (by decide)) (rg_w (rl_b (rl_cut g1_ k4_0_)) (by decide) (by decide)) rfknown_) (cwVA 2 htA wd_1649 wd_1646 wd_10 wd_1648 wp_72 (by decide +kernel) ⟨by decide, by decide⟩) hP hD hS [0, 1] [] rfl rfl (by decide +kernel) 0 rfl rfl rfl rfl hl.1 rfl (Nat.le_of_ble_eq_true rfl) dX11_thing_126 (by decide) (fun v60011260_ W1 H locs hw hP hD hS => ?_)
        refine W.widen (k := 0) (n := 0) (by decide) (by decide) ?_
        obtain ⟨k60000126_0_, rfl, kr60000126_⟩ := hw
        have hP : va_P D vwCl [(nm_, .inr (11, [.ref nknown_, .ref ntelling_, .ref nimages_, .ref nisImage_, .int 0, .ref ntape_, .int mtaped_, .int mlength_, .int mhead_, .int mbegin_, .int mtoken_, .int mvalue_, .int mbad_, .int mbadPlace_, .int mfaultKind_, .int mfaultPlace_, .int mdeep_, .int mlawMany_, .int mlawAt_, .ref nstack_, .ref nasked_, .int mfell_, .int mfellIn_, .ref naside_, .int mstate_, .int mlanded_, .int mwaitFalls_, .int mwaitWeight_, .ref nfallsAfter_, .ref nfalling_, .ref ncomes_, .ref ngoesOn_, .ref nwayRow_, .ref nmany_, .ref nmanyThen_, .int mtoldLet_, .ref ntSort_, .ref ntMany_, .ref nnumbers_])), (nknown_, .inl (cy 0, 2260, .inl (fknown_)))] H := hP
        have hD := va_ca hP hD
        refine joinT (D := D) (A := A) (pc := 145) (mL := 3) (τ := Int32) (WS := fun i => [(nm_, .inr (11, [.ref nknown_, .ref ntelling_, .ref nimages_, .ref nisImage_, .int 0, .ref ntape_, .int mtaped_, .int mlength_, .int mhead_, .int mbegin_, .int mtoken_, .int mvalue_, .int mbad_, .int mbadPlace_, .int mfaultKind_, .int mfaultPlace_, .int mdeep_, .int mlawMany_, .int mlawAt_, .ref nstack_, .ref nasked_, .int mfell_, .int mfellIn_, .ref naside_, .int mstate_, .int mlanded_, .int mwaitFalls_, .int mwaitWeight_, .ref nfallsAfter_, .ref nfalling_, .ref ncomes_, .ref ngoesOn_, .ref nwayRow_, .ref nmany_, .ref nmanyThen_, .int mtoldLet_, .ref ntSort_, .ref ntMany_, .ref nnumbers_])), (nknown_, .inl (cy 0, 2260, .inl (fknown_)))]) (LV := fun i => [(0, .ref nm_), (1, .int t_), (2, .int w_)]) (ST := fun i => [.int i]) (cells := 0) (slots := 0) (fun i => R_X11_thing_j3 v60011260_ fknown_ t_ i) (fun v60214500_ H locs ls hI hP hD hS hl => ?_) (fun j145_ => ?_)
        · have hI : R_X11_thing_j3 v60011260_ fknown_ t_ v60214500_ := hI
          have hR3_ := hI
          have hP : va_P D vwCl [(nm_, .inr (11, [.ref nknown_, .ref ntelling_, .ref nimages_, .ref nisImage_, .int 0, .ref ntape_, .int mtaped_, .int mlength_, .int mhead_, .int mbegin_, .int mtoken_, .int mvalue_, .int mbad_, .int mbadPlace_, .int mfaultKind_, .int mfaultPlace_, .int mdeep_, .int mlawMany_, .int mlawAt_, .ref nstack_, .ref nasked_, .int mfell_, .int mfellIn_, .ref naside_, .int mstate_, .int mlanded_, .int mwaitFalls_, .int mwaitWeight_, .ref nfallsAfter_, .ref nfalling_, .ref ncomes_, .ref ngoesOn_, .ref nwayRow_, .ref nmany_, .ref nmanyThen_, .int mtoldLet_, .ref ntSort_, .ref ntMany_, .ref nnumbers_])), (nknown_, .inl (cy 0, 2260, .inl (fknown_)))] H := hP
          have hD := va_ca hP hD
          have hl : lv_has ls 3 [(0, .ref nm_), (1, .int t_), (2, .int w_)] := hl
          exact rI hX hE hP hD hS dX11_thing_145 (by decide) (by decide) ⟨0, (rg_w (rg_lit (by decide) : rg (0) (0) (0 : Int32)) (by decide) (by decide)), (Or.inr (Or.inr (Or.inr (Or.inr (Or.inr (Or.inr (Or.inr (Or.inl ⟨v10040_, v30010200_, v60011260_, v60214500_, k4_2_, k30000020_2_, esw44_, k60000126_0_, hR3_, rfl, rfl⟩)))))))), rfl⟩
        refine lv_if_eq (tgt := 136) hx hb dX11_thing_129 (by decide) (fun c60000129_ => ?_) (fun c60000129_ => ?_)
        · have g19_ : rg (0) (0) v60011260_ := rg_eq c60000129_ (rg_lit (by decide) : rg (0) (0) (0 : Int32))
          refine lv_aload_n hx hb dX11_thing_136 rfl (lv_at hl 0 rfl) ?_
          refine va_get (ci := 11) (v := .ref nknown_) (C := RX11) (T := TX11) (N := 39) hx hb htA in_X11 hown hK hP 0 rfl rfl 0 (by decide) (htA _ wd_1354) (fun _ h => h) rfl dX11_thing_137 ?_
          refine lv_bipush (v := 24) hx hb dX11_thing_140 (by decide) ?_
          refine lv_iload_n hx hb dX11_thing_142 rfl (lv_at hl 1 rfl) ?_
          refine lv_iadd hx hb dX11_thing_143 ?_
          have g20_ : rg (24) (31) (24 + t_) := rg_add (rg_lit (by decide) : rg (24) (24) (24 : Int32)) (rl_b (rl_cut g1_ k4_0_)) (by decide) (by decide) (by decide) (by decide)
          refine va_iald hx hb hK hP 1 0 rfl rfl (rg_in g20_ (by decide) (by decide)) dX11_thing_144 ?_
          refine lv_topi (fun v60011440_ ev60011440_ => ?_)
          exact j145_ v60011440_ _ _ ls (Or.inl ⟨v60011440_, c60000129_, ev60011440_, rfl⟩) hP hD hS (lv_sub hl [0, 1, 2] rfl)
        · have g21_ : rg (1) (1) v60011260_ := rg_ne1 c60000129_ kr60000126_ (by decide) (by decide)
          refine lv_iconst (v := (-1)) hx hb dX11_thing_132 (by decide) ?_
          refine lv_goto (tgt := 145) hx hb dX11_thing_133 (by decide) ?_
          exact j145_ (-1) _ _ ls (Or.inr (Or.inl ⟨c60000129_, rfl⟩)) hP hD hS (lv_sub hl [0, 1, 2] rfl)
      · refine lv_tableIn (tgt := 146) hx hb dX11_thing_44 (by decide) (by decide) rfl (by decide) ?_
        have g22_ : rg (4) (4) w_ := rg_eq esw44_.symm (rg_lit (by decide) : rg (4) (4) (4 : Int32))
        refine lv_aload_n hx hb dX11_thing_146 rfl (lv_at hl 0 rfl) ?_
        refine lv_iload_n hx hb dX11_thing_147 rfl (lv_at hl 1 rfl) ?_
        refine lv_iconst (v := 0) hx hb dX11_thing_148 (by decide) ?_
        refine kVi (As := [.int t_, .int 0]) (rest := []) (wr := []) hX hE (sf_X11_is l D cy nm_ nknown_ ntelling_ nimages_ nisImage_ (0 : Int32) ntape_ mtaped_ mlength_ mhead_ mbegin_ mtoken_ mvalue_ mbad_ mbadPlace_ mfaultKind_ mfaultPlace_ mdeep_ mlawMany_ mlawAt_ nstack_ nasked_ mfell_ mfellIn_ naside_ mstate_ mlanded_ mwaitFalls_ mwaitWeight_ nfallsAfter_ nfalling_ ncomes_ ngoesOn_ nwayRow_ nmany_ nmanyThen_ mtoldLet_ ntSort_ ntMany_ nnumbers_ fknown_ t_ (0 : Int32) C_ L_ hb_ ha_ hc_ (by omega) (by omega) (by omega) (rg_w rmtaped_ (by decide) (by decide)) (rg_w rmlength_ (by decide) (by decide)) (rg_w rmhead_ (by decide) (by decide)) (rg_w rmbegin_ (by decide) (by decide)) (rg_w (rl_b (rl_cut g1_ k4_0_)) (by decide) (by decide)) rfknown_) (cwVA 2 htA wd_1649 wd_1646 wd_10 wd_1648 wp_72 (by decide +kernel) ⟨by decide, by decide⟩) hP hD hS [0, 1] [] rfl rfl (by decide +kernel) 0 rfl rfl rfl rfl hl.1 rfl (Nat.le_of_ble_eq_true rfl) dX11_thing_149 (by decide) (fun v60011490_ W1 H locs hw hP hD hS => ?_)
        refine W.widen (k := 0) (n := 0) (by decide) (by decide) ?_
        obtain ⟨k60000149_0_, rfl, kr60000149_⟩ := hw
        have hP : va_P D vwCl [(nm_, .inr (11, [.ref nknown_, .ref ntelling_, .ref nimages_, .ref nisImage_, .int 0, .ref ntape_, .int mtaped_, .int mlength_, .int mhead_, .int mbegin_, .int mtoken_, .int mvalue_, .int mbad_, .int mbadPlace_, .int mfaultKind_, .int mfaultPlace_, .int mdeep_, .int mlawMany_, .int mlawAt_, .ref nstack_, .ref nasked_, .int mfell_, .int mfellIn_, .ref naside_, .int mstate_, .int mlanded_, .int mwaitFalls_, .int mwaitWeight_, .ref nfallsAfter_, .ref nfalling_, .ref ncomes_, .ref ngoesOn_, .ref nwayRow_, .ref nmany_, .ref nmanyThen_, .int mtoldLet_, .ref ntSort_, .ref ntMany_, .ref nnumbers_])), (nknown_, .inl (cy 0, 2260, .inl (fknown_)))] H := hP
        have hD := va_ca hP hD
        refine joinT (D := D) (A := A) (pc := 176) (mL := 3) (τ := Int32) (WS := fun i => [(nm_, .inr (11, [.ref nknown_, .ref ntelling_, .ref nimages_, .ref nisImage_, .int 0, .ref ntape_, .int mtaped_, .int mlength_, .int mhead_, .int mbegin_, .int mtoken_, .int mvalue_, .int mbad_, .int mbadPlace_, .int mfaultKind_, .int mfaultPlace_, .int mdeep_, .int mlawMany_, .int mlawAt_, .ref nstack_, .ref nasked_, .int mfell_, .int mfellIn_, .ref naside_, .int mstate_, .int mlanded_, .int mwaitFalls_, .int mwaitWeight_, .ref nfallsAfter_, .ref nfalling_, .ref ncomes_, .ref ngoesOn_, .ref nwayRow_, .ref nmany_, .ref nmanyThen_, .int mtoldLet_, .ref ntSort_, .ref ntMany_, .ref nnumbers_])), (nknown_, .inl (cy 0, 2260, .inl (fknown_)))]) (LV := fun i => [(0, .ref nm_), (1, .int t_), (2, .int w_)]) (ST := fun i => [.int i]) (cells := 0) (slots := 0) (fun i => R_X11_thing_j4 v60011490_ fknown_ t_ i) (fun v60217600_ H locs ls hI hP hD hS hl => ?_) (fun j176_ => ?_)
        · have hI : R_X11_thing_j4 v60011490_ fknown_ t_ v60217600_ := hI
          have hR4_ := hI
          have hP : va_P D vwCl [(nm_, .inr (11, [.ref nknown_, .ref ntelling_, .ref nimages_, .ref nisImage_, .int 0, .ref ntape_, .int mtaped_, .int mlength_, .int mhead_, .int mbegin_, .int mtoken_, .int mvalue_, .int mbad_, .int mbadPlace_, .int mfaultKind_, .int mfaultPlace_, .int mdeep_, .int mlawMany_, .int mlawAt_, .ref nstack_, .ref nasked_, .int mfell_, .int mfellIn_, .ref naside_, .int mstate_, .int mlanded_, .int mwaitFalls_, .int mwaitWeight_, .ref nfallsAfter_, .ref nfalling_, .ref ncomes_, .ref ngoesOn_, .ref nwayRow_, .ref nmany_, .ref nmanyThen_, .int mtoldLet_, .ref ntSort_, .ref ntMany_, .ref nnumbers_])), (nknown_, .inl (cy 0, 2260, .inl (fknown_)))] H := hP
          have hD := va_ca hP hD
          have hl : lv_has ls 3 [(0, .ref nm_), (1, .int t_), (2, .int w_)] := hl
          exact rI hX hE hP hD hS dX11_thing_176 (by decide) (by decide) ⟨0, (rg_w (rg_lit (by decide) : rg (0) (0) (0 : Int32)) (by decide) (by decide)), (Or.inr (Or.inr (Or.inr (Or.inr (Or.inr (Or.inr (Or.inr (Or.inr (Or.inl ⟨v10040_, v30010200_, v60011490_, v60217600_, k4_2_, k30000020_2_, esw44_, k60000149_0_, hR4_, rfl, rfl⟩))))))))), rfl⟩
        refine lv_if_eq (tgt := 175) hx hb dX11_thing_152 (by decide) (fun c60000152_ => ?_) (fun c60000152_ => ?_)
        · have g23_ : rg (0) (0) v60011490_ := rg_eq c60000152_ (rg_lit (by decide) : rg (0) (0) (0 : Int32))
          refine lv_iconst (v := (-1)) hx hb dX11_thing_175 (by decide) ?_
          exact j176_ (-1) _ _ ls (Or.inl ⟨c60000152_, rfl⟩) hP hD hS (lv_sub hl [0, 1, 2] rfl)
        · have g24_ : rg (1) (1) v60011490_ := rg_ne1 c60000152_ kr60000149_ (by decide) (by decide)
          refine lv_aload_n hx hb dX11_thing_155 rfl (lv_at hl 0 rfl) ?_
          refine va_get (ci := 11) (v := .ref nknown_) (C := RX11) (T := TX11) (N := 39) hx hb htA in_X11 hown hK hP 0 rfl rfl 0 (by decide) (htA _ wd_1354) (fun _ h => h) rfl dX11_thing_156 ?_
          refine lv_bipush (v := 40) hx hb dX11_thing_159 (by decide) ?_
          refine va_iald hx hb hK hP 1 0 rfl rfl (in_lit (by decide)) dX11_thing_161 ?_
          refine lv_topi (fun v60011610_ ev60011610_ => ?_)
          have hsv60011610_ : rg ha_ hc_ v60011610_ := by rw [ev60011610_]; exact KX_h rfknown_ (rg_lit (by decide) : rg (40) (40) (40 : Int32)) (by decide) (by decide)
          have g25_ : rg (-2000000) (4000000) v60011610_ := rg_w hsv60011610_ (by omega) (by omega)
          refine lv_aload_n hx hb dX11_thing_162 rfl (lv_at hl 0 rfl) ?_
          refine va_get (ci := 11) (v := .ref nknown_) (C := RX11) (T := TX11) (N := 39) hx hb htA in_X11 hown hK hP 0 rfl rfl 0 (by decide) (htA _ wd_1354) (fun _ h => h) rfl dX11_thing_163 ?_
          refine lv_bipush (v := 32) hx hb dX11_thing_166 (by decide) ?_
          refine lv_iload_n hx hb dX11_thing_168 rfl (lv_at hl 1 rfl) ?_
          refine lv_iadd hx hb dX11_thing_169 ?_
          have g26_ : rg (32) (39) (32 + t_) := rg_add (rg_lit (by decide) : rg (32) (32) (32 : Int32)) (rl_b (rl_cut g1_ k4_0_)) (by decide) (by decide) (by decide) (by decide)
          refine va_iald hx hb hK hP 1 0 rfl rfl (rg_in g26_ (by decide) (by decide)) dX11_thing_170 ?_
          refine lv_topi (fun v60011700_ ev60011700_ => ?_)
          refine lv_isub hx hb dX11_thing_171 ?_
          refine lv_goto (tgt := 176) hx hb dX11_thing_172 (by decide) ?_
          exact j176_ (v60011610_ - v60011700_) _ _ ls (Or.inr (Or.inl ⟨v60011610_, v60011700_, c60000152_, ev60011610_, ev60011700_, rfl⟩)) hP hD hS (lv_sub hl [0, 1, 2] rfl)
      · refine lv_tableOut (tgt := 177) hx hb dX11_thing_44 c44_ (by decide) ?_
        refine lv_aload_n hx hb dX11_thing_177 rfl (lv_at hl 0 rfl) ?_
        refine lv_iload_n hx hb dX11_thing_178 rfl (lv_at hl 1 rfl) ?_
        refine lv_iconst (v := 1) hx hb dX11_thing_179 (by decide) ?_
        refine kVi (As := [.int t_, .int 1]) (rest := []) (wr := []) hX hE (sf_X11_is l D cy nm_ nknown_ ntelling_ nimages_ nisImage_ (0 : Int32) ntape_ mtaped_ mlength_ mhead_ mbegin_ mtoken_ mvalue_ mbad_ mbadPlace_ mfaultKind_ mfaultPlace_ mdeep_ mlawMany_ mlawAt_ nstack_ nasked_ mfell_ mfellIn_ naside_ mstate_ mlanded_ mwaitFalls_ mwaitWeight_ nfallsAfter_ nfalling_ ncomes_ ngoesOn_ nwayRow_ nmany_ nmanyThen_ mtoldLet_ ntSort_ ntMany_ nnumbers_ fknown_ t_ (1 : Int32) C_ L_ hb_ ha_ hc_ (by omega) (by omega) (by omega) (rg_w rmtaped_ (by decide) (by decide)) (rg_w rmlength_ (by decide) (by decide)) (rg_w rmhead_ (by decide) (by decide)) (rg_w rmbegin_ (by decide) (by decide)) (rg_w (rl_b (rl_cut g1_ k4_0_)) (by decide) (by decide)) rfknown_) (cwVA 2 htA wd_1649 wd_1646 wd_10 wd_1648 wp_72 (by decide +kernel) ⟨by decide, by decide⟩) hP hD hS [0, 1] [] rfl rfl (by decide +kernel) 0 rfl rfl rfl rfl hl.1 rfl (Nat.le_of_ble_eq_true rfl) dX11_thing_180 (by decide) (fun v60011800_ W1 H locs hw hP hD hS => ?_)
        refine W.widen (k := 0) (n := 0) (by decide) (by decide) ?_
        obtain ⟨k60000180_0_, rfl, kr60000180_⟩ := hw
        have hP : va_P D vwCl [(nm_, .inr (11, [.ref nknown_, .ref ntelling_, .ref nimages_, .ref nisImage_, .int 0, .ref ntape_, .int mtaped_, .int mlength_, .int mhead_, .int mbegin_, .int mtoken_, .int mvalue_, .int mbad_, .int mbadPlace_, .int mfaultKind_, .int mfaultPlace_, .int mdeep_, .int mlawMany_, .int mlawAt_, .ref nstack_, .ref nasked_, .int mfell_, .int mfellIn_, .ref naside_, .int mstate_, .int mlanded_, .int mwaitFalls_, .int mwaitWeight_, .ref nfallsAfter_, .ref nfalling_, .ref ncomes_, .ref ngoesOn_, .ref nwayRow_, .ref nmany_, .ref nmanyThen_, .int mtoldLet_, .ref ntSort_, .ref ntMany_, .ref nnumbers_])), (nknown_, .inl (cy 0, 2260, .inl (fknown_)))] H := hP
        have hD := va_ca hP hD
        refine joinT (D := D) (A := A) (pc := 207) (mL := 3) (τ := Int32) (WS := fun i => [(nm_, .inr (11, [.ref nknown_, .ref ntelling_, .ref nimages_, .ref nisImage_, .int 0, .ref ntape_, .int mtaped_, .int mlength_, .int mhead_, .int mbegin_, .int mtoken_, .int mvalue_, .int mbad_, .int mbadPlace_, .int mfaultKind_, .int mfaultPlace_, .int mdeep_, .int mlawMany_, .int mlawAt_, .ref nstack_, .ref nasked_, .int mfell_, .int mfellIn_, .ref naside_, .int mstate_, .int mlanded_, .int mwaitFalls_, .int mwaitWeight_, .ref nfallsAfter_, .ref nfalling_, .ref ncomes_, .ref ngoesOn_, .ref nwayRow_, .ref nmany_, .ref nmanyThen_, .int mtoldLet_, .ref ntSort_, .ref ntMany_, .ref nnumbers_])), (nknown_, .inl (cy 0, 2260, .inl (fknown_)))]) (LV := fun i => [(0, .ref nm_), (1, .int t_), (2, .int w_)]) (ST := fun i => [.int i]) (cells := 0) (slots := 0) (fun i => R_X11_thing_j5 v60011800_ fknown_ t_ i) (fun v60220700_ H locs ls hI hP hD hS hl => ?_) (fun j207_ => ?_)
        · have hI : R_X11_thing_j5 v60011800_ fknown_ t_ v60220700_ := hI
          have hR5_ := hI
          have hP : va_P D vwCl [(nm_, .inr (11, [.ref nknown_, .ref ntelling_, .ref nimages_, .ref nisImage_, .int 0, .ref ntape_, .int mtaped_, .int mlength_, .int mhead_, .int mbegin_, .int mtoken_, .int mvalue_, .int mbad_, .int mbadPlace_, .int mfaultKind_, .int mfaultPlace_, .int mdeep_, .int mlawMany_, .int mlawAt_, .ref nstack_, .ref nasked_, .int mfell_, .int mfellIn_, .ref naside_, .int mstate_, .int mlanded_, .int mwaitFalls_, .int mwaitWeight_, .ref nfallsAfter_, .ref nfalling_, .ref ncomes_, .ref ngoesOn_, .ref nwayRow_, .ref nmany_, .ref nmanyThen_, .int mtoldLet_, .ref ntSort_, .ref ntMany_, .ref nnumbers_])), (nknown_, .inl (cy 0, 2260, .inl (fknown_)))] H := hP
          have hD := va_ca hP hD
          have hl : lv_has ls 3 [(0, .ref nm_), (1, .int t_), (2, .int w_)] := hl
          exact rI hX hE hP hD hS dX11_thing_207 (by decide) (by decide) ⟨0, (rg_w (rg_lit (by decide) : rg (0) (0) (0 : Int32)) (by decide) (by decide)), (Or.inr (Or.inr (Or.inr (Or.inr (Or.inr (Or.inr (Or.inr (Or.inr (Or.inr (Or.inl ⟨v10040_, v30010200_, sw44_, v60011800_, v60220700_, k4_2_, k30000020_2_, esw44_, c44_, k60000180_0_, hR5_, rfl, rfl⟩)))))))))), rfl⟩
        refine lv_if_eq (tgt := 206) hx hb dX11_thing_183 (by decide) (fun c60000183_ => ?_) (fun c60000183_ => ?_)
        · have g27_ : rg (0) (0) v60011800_ := rg_eq c60000183_ (rg_lit (by decide) : rg (0) (0) (0 : Int32))
          refine lv_iconst (v := (-1)) hx hb dX11_thing_206 (by decide) ?_
          exact j207_ (-1) _ _ ls (Or.inl ⟨c60000183_, rfl⟩) hP hD hS (lv_sub hl [0, 1, 2] rfl)
        · have g28_ : rg (1) (1) v60011800_ := rg_ne1 c60000183_ kr60000180_ (by decide) (by decide)
          refine lv_aload_n hx hb dX11_thing_186 rfl (lv_at hl 0 rfl) ?_
          refine va_get (ci := 11) (v := .ref nknown_) (C := RX11) (T := TX11) (N := 39) hx hb htA in_X11 hown hK hP 0 rfl rfl 0 (by decide) (htA _ wd_1354) (fun _ h => h) rfl dX11_thing_187 ?_
          refine lv_bipush (v := 32) hx hb dX11_thing_190 (by decide) ?_
          refine lv_iload_n hx hb dX11_thing_192 rfl (lv_at hl 1 rfl) ?_
          refine lv_iadd hx hb dX11_thing_193 ?_
          have g29_ : rg (32) (39) (32 + t_) := rg_add (rg_lit (by decide) : rg (32) (32) (32 : Int32)) (rl_b (rl_cut g1_ k4_0_)) (by decide) (by decide) (by decide) (by decide)
          refine va_iald hx hb hK hP 1 0 rfl rfl (rg_in g29_ (by decide) (by decide)) dX11_thing_194 ?_
          refine lv_topi (fun v60011940_ ev60011940_ => ?_)
          refine lv_aload_n hx hb dX11_thing_195 rfl (lv_at hl 0 rfl) ?_
          refine va_get (ci := 11) (v := .ref nknown_) (C := RX11) (T := TX11) (N := 39) hx hb htA in_X11 hown hK hP 0 rfl rfl 0 (by decide) (htA _ wd_1354) (fun _ h => h) rfl dX11_thing_196 ?_
          refine lv_bipush (v := 40) hx hb dX11_thing_199 (by decide) ?_
          refine va_iald hx hb hK hP 1 0 rfl rfl (in_lit (by decide)) dX11_thing_201 ?_
          refine lv_topi (fun v60012010_ ev60012010_ => ?_)
          have hsv60012010_ : rg ha_ hc_ v60012010_ := by rw [ev60012010_]; exact KX_h rfknown_ (rg_lit (by decide) : rg (40) (40) (40 : Int32)) (by decide) (by decide)
          have g30_ : rg (-2000000) (4000000) v60012010_ := rg_w hsv60012010_ (by omega) (by omega)
          refine lv_isub hx hb dX11_thing_202 ?_
          refine lv_goto (tgt := 207) hx hb dX11_thing_203 (by decide) ?_
          exact j207_ (v60011940_ - v60012010_) _ _ ls (Or.inr (Or.inl ⟨v60011940_, v60012010_, c60000183_, ev60011940_, ev60012010_, rfl⟩)) hP hD hS (lv_sub hl [0, 1, 2] rfl)
def R_X11_height_w_e (fknown_ : Nat → Int32) (c_ : Int32) (x0_ : Int32) (r : Int32) : Prop := (∃ (v10080_ : Int32) (v10010240_ : Int32), R_X11_isColumn_w_e1 fknown_ c_.toInt64 v10080_ ∧ R_X11_fails_e v10010240_ ∧ x0_ = (1 : Int32) ∧ r = v10010240_) ∨ (∃ (v10080_ : Int32) (v20010240_ : Int32), R_X11_isColumn_w_e2 fknown_ c_.toInt64 v10080_ ∧ R_X11_fails_e v20010240_ ∧ x0_ = (1 : Int32) ∧ r = v20010240_) ∨ (∃ (v10080_ : Int32) (v30010160_ : Int32), R_X11_isColumn_w_e3 fknown_ c_.toInt64 v10080_ ∧ R_X11_lying_e fknown_ c_ v30010160_ ∧ x0_ = (0 : Int32) ∧ r = v30010160_) ∨ False
set_option maxHeartbeats 4000000 in
set_option maxRecDepth 100000 in
theorem sf_X11_height_w (l : Launch) (D : va_G) (cy : Nat → ClassId) (nm_ : Nat) (nknown_ : Nat) (ntelling_ : Nat) (nimages_ : Nat) (nisImage_ : Nat) (mthrown_ : Int32) (ntape_ : Nat) (mtaped_ : Int32) (mlength_ : Int32) (mhead_ : Int32) (mbegin_ : Int32) (mtoken_ : Int32) (mvalue_ : Int32) (mbad_ : Int32) (mbadPlace_ : Int32) (mfaultKind_ : Int32) (mfaultPlace_ : Int32) (mdeep_ : Int32) (mlawMany_ : Int32) (mlawAt_ : Int32) (nstack_ : Nat) (nasked_ : Nat) (mfell_ : Int32) (mfellIn_ : Int32) (naside_ : Nat) (mstate_ : Int32) (mlanded_ : Int32) (mwaitFalls_ : Int32) (mwaitWeight_ : Int32) (nfallsAfter_ : Nat) (nfalling_ : Nat) (ncomes_ : Nat) (ngoesOn_ : Nat) (nwayRow_ : Nat) (nmany_ : Nat) (nmanyThen_ : Nat) (mtoldLet_ : Int32) (ntSort_ : Nat) (ntMany_ : Nat) (nnumbers_ : Nat) (fknown_ : Nat → Int32) (c_ : Int32) (C_ : Int) (L_ : Int) (hb_ : Int) (ha_ : Int) (hc_ : Int) (hha_ : -2000000 ≤ ha_) (hhc_ : hc_ ≤ 4000000) (hhb_ : hb_ ≤ 1000000) (rmtaped_ : rg (0) (900) mtaped_) (rmlength_ : rg (0) (900) mlength_) (rmhead_ : rg (0) (900) mhead_) (rmbegin_ : rg (0) (900) mbegin_) (rfknown_ : KX C_ L_ ha_ hc_ hb_ fknown_) : Ci l yX11_height cX11_height 2 (some .int) { frames := 2, cells := 0, slots := 0, locals := 47 } D cy [.ref nm_, .int c_] [(nm_, .inr (11, [.ref nknown_, .ref ntelling_, .ref nimages_, .ref nisImage_, .int mthrown_, .ref ntape_, .int mtaped_, .int mlength_, .int mhead_, .int mbegin_, .int mtoken_, .int mvalue_, .int mbad_, .int mbadPlace_, .int mfaultKind_, .int mfaultPlace_, .int mdeep_, .int mlawMany_, .int mlawAt_, .ref nstack_, .ref nasked_, .int mfell_, .int mfellIn_, .ref naside_, .int mstate_, .int mlanded_, .int mwaitFalls_, .int mwaitWeight_, .ref nfallsAfter_, .ref nfalling_, .ref ncomes_, .ref ngoesOn_, .ref nwayRow_, .ref nmany_, .ref nmanyThen_, .int mtoldLet_, .ref ntSort_, .ref ntMany_, .ref nnumbers_])), (nknown_, .inl (cy 0, 2260, .inl (fknown_)))] (fun r W1 => ∃ (x0_ : Int32), rg (0) (1) x0_ ∧ R_X11_height_w_e fknown_ c_ x0_ r ∧ W1 = [(nm_, .inr (11, [.ref nknown_, .ref ntelling_, .ref nimages_, .ref nisImage_, .int x0_, .ref ntape_, .int mtaped_, .int mlength_, .int mhead_, .int mbegin_, .int mtoken_, .int mvalue_, .int mbad_, .int mbadPlace_, .int mfaultKind_, .int mfaultPlace_, .int mdeep_, .int mlawMany_, .int mlawAt_, .ref nstack_, .ref nasked_, .int mfell_, .int mfellIn_, .ref naside_, .int mstate_, .int mlanded_, .int mwaitFalls_, .int mwaitWeight_, .ref nfallsAfter_, .ref nfalling_, .ref ncomes_, .ref ngoesOn_, .ref nwayRow_, .ref nmany_, .ref nmanyThen_, .int mtoldLet_, .ref ntSort_, .ref ntMany_, .ref nnumbers_])), (nknown_, .inl (cy 0, 2260, .inl (fknown_)))]) := by
  refine Ci.of (by decide) (Nat.le_of_ble_eq_true rfl) ?_
  intro p e s m below meth c A ls hX hE hP hD hl
  obtain ⟨hx, hb, hr, hml, hown, htA, hlk⟩ := id hX
  have hK := hE.1
  have hS : va_S A s.heap s.heap [] := va_S.rf
  have hl : lv_has ls 2 [(0, .ref nm_), (1, .int c_)] := hl
  refine lv_aload_n hx hb dX11_height_0 rfl (lv_at hl 0 rfl) ?_
  refine lv_iconst (v := 0) hx hb dX11_height_1 (by decide) ?_
  refine va_put (ci := 11) (v := .int 0) (ty := .int) (C := RX11) (T := TX11) (N := 39) hx hb htA in_X11 tyX11 tyX11_ok nmX11 hown hK hP hD hS 0 rfl rfl 4 (by decide) (htA _ wd_1358) (fun _ h => h) rfl (by decide +kernel) rfl rfl (Nat.le_of_ble_eq_true rfl) dX11_height_2 (fun H locs hP hD hS => ?_)
  have hP : va_P D vwCl [(nm_, .inr (11, [.ref nknown_, .ref ntelling_, .ref nimages_, .ref nisImage_, .int 0, .ref ntape_, .int mtaped_, .int mlength_, .int mhead_, .int mbegin_, .int mtoken_, .int mvalue_, .int mbad_, .int mbadPlace_, .int mfaultKind_, .int mfaultPlace_, .int mdeep_, .int mlawMany_, .int mlawAt_, .ref nstack_, .ref nasked_, .int mfell_, .int mfellIn_, .ref naside_, .int mstate_, .int mlanded_, .int mwaitFalls_, .int mwaitWeight_, .ref nfallsAfter_, .ref nfalling_, .ref ncomes_, .ref ngoesOn_, .ref nwayRow_, .ref nmany_, .ref nmanyThen_, .int mtoldLet_, .ref ntSort_, .ref ntMany_, .ref nnumbers_])), (nknown_, .inl (cy 0, 2260, .inl (fknown_)))] H := hP
  have hD := va_ca hP hD
  refine lv_aload_n hx hb dX11_height_5 rfl (lv_at hl 0 rfl) ?_
  refine lv_iload_n hx hb dX11_height_6 rfl (lv_at hl 1 rfl) ?_
  refine lv_i2l hx hb dX11_height_7 rfl ?_
  have g1_ : rl (-2147483648) (2147483647) c_.toInt64 := rl_i2l (rg_any _)
  refine kVi (As := [.long c_.toInt64]) (rest := []) (wr := []) hX hE (sf_X11_isColumn_w l D cy nm_ nknown_ ntelling_ nimages_ nisImage_ (0 : Int32) ntape_ mtaped_ mlength_ mhead_ mbegin_ mtoken_ mvalue_ mbad_ mbadPlace_ mfaultKind_ mfaultPlace_ mdeep_ mlawMany_ mlawAt_ nstack_ nasked_ mfell_ mfellIn_ naside_ mstate_ mlanded_ mwaitFalls_ mwaitWeight_ nfallsAfter_ nfalling_ ncomes_ ngoesOn_ nwayRow_ nmany_ nmanyThen_ mtoldLet_ ntSort_ ntMany_ nnumbers_ fknown_ c_.toInt64 C_ L_ hb_ ha_ hc_ (by omega) (by omega) (by omega) (rg_w rmtaped_ (by decide) (by decide)) (rg_w rmlength_ (by decide) (by decide)) (rg_w rmhead_ (by decide) (by decide)) (rg_w rmbegin_ (by decide) (by decide)) rfknown_) (cwVA 1 htA wd_1683 wd_1680 wd_10 wd_1682 wp_76 (by decide +kernel) ⟨by decide, by decide⟩) hP hD hS [0, 1] [] rfl rfl (by decide +kernel) 0 rfl rfl rfl rfl hl.1 rfl (Nat.le_of_ble_eq_true rfl) dX11_height_8 (by decide) (fun v10080_ W1 H locs hw hP hD hS => ?_)
  refine W.widen (k := 0) (n := 0) (by decide) (by decide) ?_
  rcases hw with ⟨k8_0_, k8_1_, rfl, kr8_⟩ | ⟨k8_0_, k8_1_, rfl, kr8_⟩ | ⟨k8_0_, k8_1_, k8_2_, rfl, kr8_⟩
  · have hP : va_P D vwCl [(nm_, .inr (11, [.ref nknown_, .ref ntelling_, .ref nimages_, .ref nisImage_, .int 0, .ref ntape_, .int mtaped_, .int mlength_, .int mhead_, .int mbegin_, .int mtoken_, .int mvalue_, .int mbad_, .int mbadPlace_, .int mfaultKind_, .int mfaultPlace_, .int mdeep_, .int mlawMany_, .int mlawAt_, .ref nstack_, .ref nasked_, .int mfell_, .int mfellIn_, .ref naside_, .int mstate_, .int mlanded_, .int mwaitFalls_, .int mwaitWeight_, .ref nfallsAfter_, .ref nfalling_, .ref ncomes_, .ref ngoesOn_, .ref nwayRow_, .ref nmany_, .ref nmanyThen_, .int mtoldLet_, .ref ntSort_, .ref ntMany_, .ref nnumbers_])), (nknown_, .inl (cy 0, 2260, .inl (fknown_)))] H := hP
    have hD := va_ca hP hD
    refine lv_if_eq (tgt := 22) hx hb dX11_height_11 (by decide) (fun c10000011_ => ?_) (fun c10000011_ => rg_ne0 c10000011_ kr8_ (rg_lit (by decide) : rg (0) (0) (0 : Int32)))
    refine lv_aload_n hx hb dX11_height_22 rfl (lv_at hl 0 rfl) ?_
    refine lv_iconst (v := 1) hx hb dX11_height_23 (by decide) ?_
    refine kVi (As := [.int 1]) (rest := []) (wr := [(nknown_, .inl (cy 0, 2260, .inl (fknown_)))]) hX hE (sf_X11_fails l D cy nm_ nknown_ ntelling_ nimages_ nisImage_ (0 : Int32) ntape_ mtaped_ mlength_ mhead_ mbegin_ mtoken_ mvalue_ mbad_ mbadPlace_ mfaultKind_ mfaultPlace_ mdeep_ mlawMany_ mlawAt_ nstack_ nasked_ mfell_ mfellIn_ naside_ mstate_ mlanded_ mwaitFalls_ mwaitWeight_ nfallsAfter_ nfalling_ ncomes_ ngoesOn_ nwayRow_ nmany_ nmanyThen_ mtoldLet_ ntSort_ ntMany_ nnumbers_ (1 : Int32) (rg_w rmtaped_ (by decide) (by decide)) (rg_w rmlength_ (by decide) (by decide)) (rg_w rmhead_ (by decide) (by decide)) (rg_w rmbegin_ (by decide) (by decide))) (cwVA 1 htA wd_1487 wd_1484 wd_10 wd_1486 wp_41 (by decide +kernel) ⟨by decide, by decide⟩) hP hD hS [0] [1] rfl rfl (by decide +kernel) 0 rfl rfl rfl rfl hl.1 rfl (Nat.le_of_ble_eq_true rfl) dX11_height_24 (by decide) (fun v10010240_ W1 H locs hw hP hD hS => ?_)
    refine W.widen (k := 0) (n := 0) (by decide) (by decide) ?_
    obtain ⟨k10000024_0_, rfl, kr10000024_⟩ := hw
    have hP : va_P D vwCl [(nknown_, .inl (cy 0, 2260, .inl (fknown_))), (nm_, .inr (11, [.ref nknown_, .ref ntelling_, .ref nimages_, .ref nisImage_, .int 1, .ref ntape_, .int mtaped_, .int mlength_, .int mhead_, .int mbegin_, .int mtoken_, .int mvalue_, .int mbad_, .int mbadPlace_, .int mfaultKind_, .int mfaultPlace_, .int mdeep_, .int mlawMany_, .int mlawAt_, .ref nstack_, .ref nasked_, .int mfell_, .int mfellIn_, .ref naside_, .int mstate_, .int mlanded_, .int mwaitFalls_, .int mwaitWeight_, .ref nfallsAfter_, .ref nfalling_, .ref ncomes_, .ref ngoesOn_, .ref nwayRow_, .ref nmany_, .ref nmanyThen_, .int mtoldLet_, .ref ntSort_, .ref ntMany_, .ref nnumbers_]))] H := hP
    have hD := va_ca hP hD
    have hP : va_P D vwCl [(nm_, .inr (11, [.ref nknown_, .ref ntelling_, .ref nimages_, .ref nisImage_, .int 1, .ref ntape_, .int mtaped_, .int mlength_, .int mhead_, .int mbegin_, .int mtoken_, .int mvalue_, .int mbad_, .int mbadPlace_, .int mfaultKind_, .int mfaultPlace_, .int mdeep_, .int mlawMany_, .int mlawAt_, .ref nstack_, .ref nasked_, .int mfell_, .int mfellIn_, .ref naside_, .int mstate_, .int mlanded_, .int mwaitFalls_, .int mwaitWeight_, .ref nfallsAfter_, .ref nfalling_, .ref ncomes_, .ref ngoesOn_, .ref nwayRow_, .ref nmany_, .ref nmanyThen_, .int mtoldLet_, .ref ntSort_, .ref ntMany_, .ref nnumbers_])), (nknown_, .inl (cy 0, 2260, .inl (fknown_)))] H := hP.sub [1, 0] rfl
    have hD : va_D A [(nm_, .inr (11, [.ref nknown_, .ref ntelling_, .ref nimages_, .ref nisImage_, .int 1, .ref ntape_, .int mtaped_, .int mlength_, .int mhead_, .int mbegin_, .int mtoken_, .int mvalue_, .int mbad_, .int mbadPlace_, .int mfaultKind_, .int mfaultPlace_, .int mdeep_, .int mlawMany_, .int mlawAt_, .ref nstack_, .ref nasked_, .int mfell_, .int mfellIn_, .ref naside_, .int mstate_, .int mlanded_, .int mwaitFalls_, .int mwaitWeight_, .ref nfallsAfter_, .ref nfalling_, .ref ncomes_, .ref ngoesOn_, .ref nwayRow_, .ref nmany_, .ref nmanyThen_, .int mtoldLet_, .ref ntSort_, .ref ntMany_, .ref nnumbers_])), (nknown_, .inl (cy 0, 2260, .inl (fknown_)))] := hD.sub [1, 0] (by decide +kernel) rfl
    exact rI hX hE hP hD hS dX11_height_27 (by decide) (by decide) ⟨1, (rg_w (rg_lit (by decide) : rg (1) (1) (1 : Int32)) (by decide) (by decide)), (Or.inl ⟨v10080_, v10010240_, k8_1_, k10000024_0_, rfl, rfl⟩), rfl⟩
  · have hP : va_P D vwCl [(nm_, .inr (11, [.ref nknown_, .ref ntelling_, .ref nimages_, .ref nisImage_, .int 0, .ref ntape_, .int mtaped_, .int mlength_, .int mhead_, .int mbegin_, .int mtoken_, .int mvalue_, .int mbad_, .int mbadPlace_, .int mfaultKind_, .int mfaultPlace_, .int mdeep_, .int mlawMany_, .int mlawAt_, .ref nstack_, .ref nasked_, .int mfell_, .int mfellIn_, .ref naside_, .int mstate_, .int mlanded_, .int mwaitFalls_, .int mwaitWeight_, .ref nfallsAfter_, .ref nfalling_, .ref ncomes_, .ref ngoesOn_, .ref nwayRow_, .ref nmany_, .ref nmanyThen_, .int mtoldLet_, .ref ntSort_, .ref ntMany_, .ref nnumbers_])), (nknown_, .inl (cy 0, 2260, .inl (fknown_)))] H := hP
    have hD := va_ca hP hD
    refine lv_if_eq (tgt := 22) hx hb dX11_height_11 (by decide) (fun c20000011_ => ?_) (fun c20000011_ => rg_ne0 c20000011_ kr8_ (rg_lit (by decide) : rg (0) (0) (0 : Int32)))
    refine lv_aload_n hx hb dX11_height_22 rfl (lv_at hl 0 rfl) ?_
    refine lv_iconst (v := 1) hx hb dX11_height_23 (by decide) ?_
    refine kVi (As := [.int 1]) (rest := []) (wr := [(nknown_, .inl (cy 0, 2260, .inl (fknown_)))]) hX hE (sf_X11_fails l D cy nm_ nknown_ ntelling_ nimages_ nisImage_ (0 : Int32) ntape_ mtaped_ mlength_ mhead_ mbegin_ mtoken_ mvalue_ mbad_ mbadPlace_ mfaultKind_ mfaultPlace_ mdeep_ mlawMany_ mlawAt_ nstack_ nasked_ mfell_ mfellIn_ naside_ mstate_ mlanded_ mwaitFalls_ mwaitWeight_ nfallsAfter_ nfalling_ ncomes_ ngoesOn_ nwayRow_ nmany_ nmanyThen_ mtoldLet_ ntSort_ ntMany_ nnumbers_ (1 : Int32) (rg_w rmtaped_ (by decide) (by decide)) (rg_w rmlength_ (by decide) (by decide)) (rg_w rmhead_ (by decide) (by decide)) (rg_w rmbegin_ (by decide) (by decide))) (cwVA 1 htA wd_1487 wd_1484 wd_10 wd_1486 wp_41 (by decide +kernel) ⟨by decide, by decide⟩) hP hD hS [0] [1] rfl rfl (by decide +kernel) 0 rfl rfl rfl rfl hl.1 rfl (Nat.le_of_ble_eq_true rfl) dX11_height_24 (by decide) (fun v20010240_ W1 H locs hw hP hD hS => ?_)
    refine W.widen (k := 0) (n := 0) (by decide) (by decide) ?_
    obtain ⟨k20000024_0_, rfl, kr20000024_⟩ := hw
    have hP : va_P D vwCl [(nknown_, .inl (cy 0, 2260, .inl (fknown_))), (nm_, .inr (11, [.ref nknown_, .ref ntelling_, .ref nimages_, .ref nisImage_, .int 1, .ref ntape_, .int mtaped_, .int mlength_, .int mhead_, .int mbegin_, .int mtoken_, .int mvalue_, .int mbad_, .int mbadPlace_, .int mfaultKind_, .int mfaultPlace_, .int mdeep_, .int mlawMany_, .int mlawAt_, .ref nstack_, .ref nasked_, .int mfell_, .int mfellIn_, .ref naside_, .int mstate_, .int mlanded_, .int mwaitFalls_, .int mwaitWeight_, .ref nfallsAfter_, .ref nfalling_, .ref ncomes_, .ref ngoesOn_, .ref nwayRow_, .ref nmany_, .ref nmanyThen_, .int mtoldLet_, .ref ntSort_, .ref ntMany_, .ref nnumbers_]))] H := hP
    have hD := va_ca hP hD
    have hP : va_P D vwCl [(nm_, .inr (11, [.ref nknown_, .ref ntelling_, .ref nimages_, .ref nisImage_, .int 1, .ref ntape_, .int mtaped_, .int mlength_, .int mhead_, .int mbegin_, .int mtoken_, .int mvalue_, .int mbad_, .int mbadPlace_, .int mfaultKind_, .int mfaultPlace_, .int mdeep_, .int mlawMany_, .int mlawAt_, .ref nstack_, .ref nasked_, .int mfell_, .int mfellIn_, .ref naside_, .int mstate_, .int mlanded_, .int mwaitFalls_, .int mwaitWeight_, .ref nfallsAfter_, .ref nfalling_, .ref ncomes_, .ref ngoesOn_, .ref nwayRow_, .ref nmany_, .ref nmanyThen_, .int mtoldLet_, .ref ntSort_, .ref ntMany_, .ref nnumbers_])), (nknown_, .inl (cy 0, 2260, .inl (fknown_)))] H := hP.sub [1, 0] rfl
    have hD : va_D A [(nm_, .inr (11, [.ref nknown_, .ref ntelling_, .ref nimages_, .ref nisImage_, .int 1, .ref ntape_, .int mtaped_, .int mlength_, .int mhead_, .int mbegin_, .int mtoken_, .int mvalue_, .int mbad_, .int mbadPlace_, .int mfaultKind_, .int mfaultPlace_, .int mdeep_, .int mlawMany_, .int mlawAt_, .ref nstack_, .ref nasked_, .int mfell_, .int mfellIn_, .ref naside_, .int mstate_, .int mlanded_, .int mwaitFalls_, .int mwaitWeight_, .ref nfallsAfter_, .ref nfalling_, .ref ncomes_, .ref ngoesOn_, .ref nwayRow_, .ref nmany_, .ref nmanyThen_, .int mtoldLet_, .ref ntSort_, .ref ntMany_, .ref nnumbers_])), (nknown_, .inl (cy 0, 2260, .inl (fknown_)))] := hD.sub [1, 0] (by decide +kernel) rfl
    exact rI hX hE hP hD hS dX11_height_27 (by decide) (by decide) ⟨1, (rg_w (rg_lit (by decide) : rg (1) (1) (1 : Int32)) (by decide) (by decide)), (Or.inr (Or.inl ⟨v10080_, v20010240_, k8_1_, k20000024_0_, rfl, rfl⟩)), rfl⟩
  · have hP : va_P D vwCl [(nm_, .inr (11, [.ref nknown_, .ref ntelling_, .ref nimages_, .ref nisImage_, .int 0, .ref ntape_, .int mtaped_, .int mlength_, .int mhead_, .int mbegin_, .int mtoken_, .int mvalue_, .int mbad_, .int mbadPlace_, .int mfaultKind_, .int mfaultPlace_, .int mdeep_, .int mlawMany_, .int mlawAt_, .ref nstack_, .ref nasked_, .int mfell_, .int mfellIn_, .ref naside_, .int mstate_, .int mlanded_, .int mwaitFalls_, .int mwaitWeight_, .ref nfallsAfter_, .ref nfalling_, .ref ncomes_, .ref ngoesOn_, .ref nwayRow_, .ref nmany_, .ref nmanyThen_, .int mtoldLet_, .ref ntSort_, .ref ntMany_, .ref nnumbers_])), (nknown_, .inl (cy 0, 2260, .inl (fknown_)))] H := hP
    have hD := va_ca hP hD
    refine lv_if_eq (tgt := 22) hx hb dX11_height_11 (by decide) (fun c30000011_ => rg_eqab c30000011_ kr8_ (rg_lit (by decide) : rg (0) (0) (0 : Int32)) (by decide)) (fun c30000011_ => ?_)
    refine lv_aload_n hx hb dX11_height_14 rfl (lv_at hl 0 rfl) ?_
    refine lv_iload_n hx hb dX11_height_15 rfl (lv_at hl 1 rfl) ?_
    refine kVi (As := [.int c_]) (rest := []) (wr := []) hX hE (sf_X11_lying l D cy nm_ nknown_ ntelling_ nimages_ nisImage_ (0 : Int32) ntape_ mtaped_ mlength_ mhead_ mbegin_ mtoken_ mvalue_ mbad_ mbadPlace_ mfaultKind_ mfaultPlace_ mdeep_ mlawMany_ mlawAt_ nstack_ nasked_ mfell_ mfellIn_ naside_ mstate_ mlanded_ mwaitFalls_ mwaitWeight_ nfallsAfter_ nfalling_ ncomes_ ngoesOn_ nwayRow_ nmany_ nmanyThen_ mtoldLet_ ntSort_ ntMany_ nnumbers_ fknown_ c_ C_ L_ hb_ ha_ hc_ (by omega) (by omega) (by omega) (rg_w rmtaped_ (by decide) (by decide)) (rg_w rmlength_ (by decide) (by decide)) (rg_w rmhead_ (by decide) (by decide)) (rg_w rmbegin_ (by decide) (by decide)) rfknown_) (cwVA 1 htA wd_1687 wd_1684 wd_10 wd_1686 wp_77 (by decide +kernel) ⟨by decide, by decide⟩) hP hD hS [0, 1] [] rfl rfl (by decide +kernel) 0 rfl rfl rfl rfl hl.1 rfl (Nat.le_of_ble_eq_true rfl) dX11_height_16 (by decide) (fun v30010160_ W1 H locs hw hP hD hS => ?_)
    refine W.widen (k := 0) (n := 0) (by decide) (by decide) ?_
    obtain ⟨k30000016_0_, rfl⟩ := hw
    have hP : va_P D vwCl [(nm_, .inr (11, [.ref nknown_, .ref ntelling_, .ref nimages_, .ref nisImage_, .int 0, .ref ntape_, .int mtaped_, .int mlength_, .int mhead_, .int mbegin_, .int mtoken_, .int mvalue_, .int mbad_, .int mbadPlace_, .int mfaultKind_, .int mfaultPlace_, .int mdeep_, .int mlawMany_, .int mlawAt_, .ref nstack_, .ref nasked_, .int mfell_, .int mfellIn_, .ref naside_, .int mstate_, .int mlanded_, .int mwaitFalls_, .int mwaitWeight_, .ref nfallsAfter_, .ref nfalling_, .ref ncomes_, .ref ngoesOn_, .ref nwayRow_, .ref nmany_, .ref nmanyThen_, .int mtoldLet_, .ref ntSort_, .ref ntMany_, .ref nnumbers_])), (nknown_, .inl (cy 0, 2260, .inl (fknown_)))] H := hP
    have hD := va_ca hP hD
    refine lv_goto (tgt := 27) hx hb dX11_height_19 (by decide) ?_
    exact rI hX hE hP hD hS dX11_height_27 (by decide) (by decide) ⟨0, (rg_w (rg_lit (by decide) : rg (0) (0) (0 : Int32)) (by decide) (by decide)), (Or.inr (Or.inr (Or.inl ⟨v10080_, v30010160_, k8_2_, k30000016_0_, rfl, rfl⟩))), rfl⟩
def R_X11_size_b1 (uZ_ vZ_ : Int32 × Int32) : Prop := (¬ (uZ_.1 = (0 : Int32)) ∧ vZ_ = (uZ_.1 &&& (uZ_.1 - 1), uZ_.2 + 1)) ∨ False
def R_X11_size_e (s_ : Int32) (r : Int32) : Prop := (∃ (v200400_ : Int32) (v200401_ : Int32), Itr (R_X11_size_b1) (s_, 0) (v200400_, v200401_) ∧ v200400_ = (0 : Int32) ∧ r = v200401_) ∨ False
set_option maxHeartbeats 4000000 in
set_option maxRecDepth 100000 in
theorem sf_X11_size (l : Launch) (D : va_G) (cy : Nat → ClassId) (s_ : Int32) : Ci l yX11_size cX11_size 3 (some .int) { frames := 0, cells := 0, slots := 0, locals := 0 } D cy [.int s_] [] (fun r W1 => R_X11_size_e s_ r ∧ W1 = []) := by
  refine Ci.of (by decide) (Nat.le_of_ble_eq_true rfl) ?_
  intro p e s m below meth c A ls hX hE hP hD hl
  obtain ⟨hx, hb, hr, hml, hown, htA, hlk⟩ := id hX
  have hK := hE.1
  have hS : va_S A s.heap s.heap [] := va_S.rf
  have hl : lv_has ls 3 [(0, .int s_)] := hl
  refine lv_iconst (v := 0) hx hb dX11_size_0 (by decide) ?_
  refine lv_istore_n (lv' := [(1, .int 0), (0, .int s_)]) hx hb dX11_size_1 rfl hl (by decide) rfl (fun ls hl => ?_)
  refine lv_iload_n hx hb dX11_size_2 rfl (lv_at hl 1 rfl) ?_
  refine lv_istore_n (lv' := [(2, .int s_), (1, .int 0), (0, .int s_)]) hx hb dX11_size_3 rfl hl (by decide) rfl (fun ls hl => ?_)
  refine loopT (τ := Int32 × Int32) (WS := fun i => []) (LV := fun i => [(2, .int i.1), (1, .int i.2), (0, .int s_)]) (fun i => i.1.toBitVec.toNat) (fun i => Itr (R_X11_size_b1) (s_, 0) (i.1, i.2)) ?_ (s_, 0) (Itr.rf _ _) hP hD hS (lv_sub hl [0, 1, 2] rfl)
  intro i_ H locs ls hI ih4_ hP hD hS hl
  obtain ⟨v200400_, v200401_⟩ := i_
  have hI : Itr (R_X11_size_b1) (s_, 0) (v200400_, v200401_) := hI
  have hR1_ := hI
  have hP : va_P D vwCl [] H := hP
  have hD := va_ca hP hD
  have hl : lv_has ls 3 [(2, .int v200400_), (1, .int v200401_), (0, .int s_)] := hl
  refine lv_iload_n hx hb dX11_size_4 rfl (lv_at hl 0 rfl) ?_
  refine lv_if_eq (tgt := 20) hx hb dX11_size_5 (by decide) (fun c5_ => ?_) (fun c5_ => ?_)
  · have g1_ : rg (0) (0) v200400_ := rg_eq c5_ (rg_lit (by decide) : rg (0) (0) (0 : Int32))
    refine lv_iload_n hx hb dX11_size_20 rfl (lv_at hl 1 rfl) ?_
    exact rI hX hE hP hD hS dX11_size_21 (by decide) (by decide) ⟨(Or.inl ⟨v200400_, v200401_, hR1_, c5_, rfl⟩), rfl⟩
  · refine lv_iinc (v := v200401_ + 1) (lv' := [(1, .int (v200401_ + 1)), (2, .int v200400_), (0, .int s_)]) hx hb dX11_size_8 hl (k := 1) rfl rfl (by decide) rfl (fun ls hl => ?_)
    refine lv_iload_n hx hb dX11_size_11 rfl (lv_at hl 1 rfl) ?_
    refine lv_iload_n hx hb dX11_size_12 rfl (lv_at hl 1 rfl) ?_
    refine lv_iconst (v := 1) hx hb dX11_size_13 (by decide) ?_
    refine lv_isub hx hb dX11_size_14 ?_
    refine lv_iand hx hb dX11_size_15 ?_
    refine lv_istore_n (lv' := [(2, .int (v200400_ &&& (v200400_ - 1))), (1, .int (v200401_ + 1)), (0, .int s_)]) hx hb dX11_size_16 rfl hl (by decide) rfl (fun ls hl => ?_)
    refine lv_goto (tgt := 4) hx hb dX11_size_17 (by decide) ?_
    exact ih4_ (v200400_ &&& (v200400_ - 1), v200401_ + 1) _ _ ls (Itr.st hR1_ (Or.inl ⟨c5_, rfl⟩)) (show (v200400_ &&& (v200400_ - 1)).toBitVec.toNat < v200400_.toBitVec.toNat from sz_dec c5_) hP hD hS (lv_sub hl [0, 1, 2] rfl)
def R_X11_beginsLaw_e (ftelling_ : Nat → Int32) (m_ : Int32) (x0_ : Nat → Int32) : Prop := (x0_ = upd ftelling_ m_.toNatClampNeg 0) ∨ False
set_option maxHeartbeats 4000000 in
set_option maxRecDepth 100000 in
theorem sf_X11_beginsLaw (l : Launch) (D : va_G) (cy : Nat → ClassId) (nm_ : Nat) (nknown_ : Nat) (ntelling_ : Nat) (nimages_ : Nat) (nisImage_ : Nat) (mthrown_ : Int32) (ntape_ : Nat) (mtaped_ : Int32) (mlength_ : Int32) (mhead_ : Int32) (mbegin_ : Int32) (mtoken_ : Int32) (mvalue_ : Int32) (mbad_ : Int32) (mbadPlace_ : Int32) (mfaultKind_ : Int32) (mfaultPlace_ : Int32) (mdeep_ : Int32) (mlawMany_ : Int32) (mlawAt_ : Int32) (nstack_ : Nat) (nasked_ : Nat) (mfell_ : Int32) (mfellIn_ : Int32) (naside_ : Nat) (mstate_ : Int32) (mlanded_ : Int32) (mwaitFalls_ : Int32) (mwaitWeight_ : Int32) (nfallsAfter_ : Nat) (nfalling_ : Nat) (ncomes_ : Nat) (ngoesOn_ : Nat) (nwayRow_ : Nat) (nmany_ : Nat) (nmanyThen_ : Nat) (mtoldLet_ : Int32) (ntSort_ : Nat) (ntMany_ : Nat) (nnumbers_ : Nat) (ftelling_ : Nat → Int32) (m_ : Int32) (a_ : Int32) (rmtaped_ : rg (0) (900) mtaped_) (rmlength_ : rg (0) (900) mlength_) (rmhead_ : rg (0) (900) mhead_) (rmbegin_ : rg (0) (900) mbegin_) (rm_ : rg (5) (6) m_) (ra_ : rg (459) (1359) a_) : Cv l yX11_beginsLaw cX11_beginsLaw 3 none { frames := 0, cells := 0, slots := 0, locals := 0 } D cy [.ref nm_, .int m_, .int a_] [(nm_, .inr (11, [.ref nknown_, .ref ntelling_, .ref nimages_, .ref nisImage_, .int mthrown_, .ref ntape_, .int mtaped_, .int mlength_, .int mhead_, .int mbegin_, .int mtoken_, .int mvalue_, .int mbad_, .int mbadPlace_, .int mfaultKind_, .int mfaultPlace_, .int mdeep_, .int mlawMany_, .int mlawAt_, .ref nstack_, .ref nasked_, .int mfell_, .int mfellIn_, .ref naside_, .int mstate_, .int mlanded_, .int mwaitFalls_, .int mwaitWeight_, .ref nfallsAfter_, .ref nfalling_, .ref ncomes_, .ref ngoesOn_, .ref nwayRow_, .ref nmany_, .ref nmanyThen_, .int mtoldLet_, .ref ntSort_, .ref ntMany_, .ref nnumbers_])), (ntelling_, .inl (cy 0, 2260, .inl (ftelling_)))] (fun W1 => ∃ (x0_ : Nat → Int32), R_X11_beginsLaw_e ftelling_ m_ x0_ ∧ W1 = [(nm_, .inr (11, [.ref nknown_, .ref ntelling_, .ref nimages_, .ref nisImage_, .int mthrown_, .ref ntape_, .int mtaped_, .int mlength_, .int mhead_, .int mbegin_, .int mtoken_, .int mvalue_, .int mbad_, .int mbadPlace_, .int mfaultKind_, .int mfaultPlace_, .int mdeep_, .int m_, .int a_, .ref nstack_, .ref nasked_, .int mfell_, .int mfellIn_, .ref naside_, .int mstate_, .int mlanded_, .int mwaitFalls_, .int mwaitWeight_, .ref nfallsAfter_, .ref nfalling_, .ref ncomes_, .ref ngoesOn_, .ref nwayRow_, .ref nmany_, .ref nmanyThen_, .int mtoldLet_, .ref ntSort_, .ref ntMany_, .ref nnumbers_])), (ntelling_, .inl (cy 0, 2260, .inl (x0_)))]) := by
  refine Cv.of (by decide) (Nat.le_of_ble_eq_true rfl) ?_
  intro p e s m below meth c A ls hX hE hP hD hl hin
  obtain ⟨hx, hb, hr, hml, hown, htA, hlk⟩ := id hX
  have hK := hE.1
  have hS : va_S A s.heap s.heap [] := va_S.rf
  have hl : lv_has ls 3 [(0, .ref nm_), (1, .int m_), (2, .int a_)] := hl
  refine lv_aload_n hx hb dX11_beginsLaw_0 rfl (lv_at hl 0 rfl) ?_
  refine lv_iload_n hx hb dX11_beginsLaw_1 rfl (lv_at hl 1 rfl) ?_
  refine va_put (ci := 11) (v := .int m_) (ty := .int) (C := RX11) (T := TX11) (N := 39) hx hb htA in_X11 tyX11 tyX11_ok nmX11 hown hK hP hD hS 0 rfl rfl 17 (by decide) (htA _ wd_1371) (fun _ h => h) rfl (by decide +kernel) rfl rfl (Nat.le_of_ble_eq_true rfl) dX11_beginsLaw_2 (fun H locs hP hD hS => ?_)
  have hP : va_P D vwCl [(nm_, .inr (11, [.ref nknown_, .ref ntelling_, .ref nimages_, .ref nisImage_, .int mthrown_, .ref ntape_, .int mtaped_, .int mlength_, .int mhead_, .int mbegin_, .int mtoken_, .int mvalue_, .int mbad_, .int mbadPlace_, .int mfaultKind_, .int mfaultPlace_, .int mdeep_, .int m_, .int mlawAt_, .ref nstack_, .ref nasked_, .int mfell_, .int mfellIn_, .ref naside_, .int mstate_, .int mlanded_, .int mwaitFalls_, .int mwaitWeight_, .ref nfallsAfter_, .ref nfalling_, .ref ncomes_, .ref ngoesOn_, .ref nwayRow_, .ref nmany_, .ref nmanyThen_, .int mtoldLet_, .ref ntSort_, .ref ntMany_, .ref nnumbers_])), (ntelling_, .inl (cy 0, 2260, .inl (ftelling_)))] H := hP
  have hD := va_ca hP hD
  refine lv_aload_n hx hb dX11_beginsLaw_5 rfl (lv_at hl 0 rfl) ?_
  refine lv_iload_n hx hb dX11_beginsLaw_6 rfl (lv_at hl 2 rfl) ?_
  refine va_put (ci := 11) (v := .int a_) (ty := .int) (C := RX11) (T := TX11) (N := 39) hx hb htA in_X11 tyX11 tyX11_ok nmX11 hown hK hP hD hS 0 rfl rfl 18 (by decide) (htA _ wd_1372) (fun _ h => h) rfl (by decide +kernel) rfl rfl (Nat.le_of_ble_eq_true rfl) dX11_beginsLaw_7 (fun H locs hP hD hS => ?_)
  have hP : va_P D vwCl [(nm_, .inr (11, [.ref nknown_, .ref ntelling_, .ref nimages_, .ref nisImage_, .int mthrown_, .ref ntape_, .int mtaped_, .int mlength_, .int mhead_, .int mbegin_, .int mtoken_, .int mvalue_, .int mbad_, .int mbadPlace_, .int mfaultKind_, .int mfaultPlace_, .int mdeep_, .int m_, .int a_, .ref nstack_, .ref nasked_, .int mfell_, .int mfellIn_, .ref naside_, .int mstate_, .int mlanded_, .int mwaitFalls_, .int mwaitWeight_, .ref nfallsAfter_, .ref nfalling_, .ref ncomes_, .ref ngoesOn_, .ref nwayRow_, .ref nmany_, .ref nmanyThen_, .int mtoldLet_, .ref ntSort_, .ref ntMany_, .ref nnumbers_])), (ntelling_, .inl (cy 0, 2260, .inl (ftelling_)))] H := hP
  have hD := va_ca hP hD
  refine lv_aload_n hx hb dX11_beginsLaw_10 rfl (lv_at hl 0 rfl) ?_
  refine va_get (ci := 11) (v := .ref ntelling_) (C := RX11) (T := TX11) (N := 39) hx hb htA in_X11 hown hK hP 0 rfl rfl 1 (by decide) (htA _ wd_1355) (fun _ h => h) rfl dX11_beginsLaw_11 ?_
  refine lv_iload_n hx hb dX11_beginsLaw_14 rfl (lv_at hl 1 rfl) ?_
  refine lv_iconst (v := 0) hx hb dX11_beginsLaw_15 (by decide) ?_
  refine va_iast hx hb hK hP hD hS 1 0 rfl rfl (rg_in rm_ (by decide) (by decide)) dX11_beginsLaw_16 (fun H locs hP hD hS => ?_)
  have hP : va_P D vwCl [(nm_, .inr (11, [.ref nknown_, .ref ntelling_, .ref nimages_, .ref nisImage_, .int mthrown_, .ref ntape_, .int mtaped_, .int mlength_, .int mhead_, .int mbegin_, .int mtoken_, .int mvalue_, .int mbad_, .int mbadPlace_, .int mfaultKind_, .int mfaultPlace_, .int mdeep_, .int m_, .int a_, .ref nstack_, .ref nasked_, .int mfell_, .int mfellIn_, .ref naside_, .int mstate_, .int mlanded_, .int mwaitFalls_, .int mwaitWeight_, .ref nfallsAfter_, .ref nfalling_, .ref ncomes_, .ref ngoesOn_, .ref nwayRow_, .ref nmany_, .ref nmanyThen_, .int mtoldLet_, .ref ntSort_, .ref ntMany_, .ref nnumbers_])), (ntelling_, .inl (cy 0, 2260, .inl (upd ftelling_ m_.toNatClampNeg 0)))] H := hP
  have hD := va_ca hP hD
  exact rV hX hE hP hD hS dX11_beginsLaw_17 (by decide) (by decide) ⟨(upd ftelling_ m_.toNatClampNeg 0), (Or.inl rfl), rfl⟩
def R_X11_draw_e (mstate_ : Int32) (m_ : Int32) (x0_ : Int32) (r : Int32) : Prop := (x0_ = (1103515245 * mstate_) + 12345 ∧ r = ((((1103515245 * mstate_) + 12345).toUInt32 >>> ((16 : Int32).toUInt32 &&& Int32.toUInt32 31)).toInt32) - ((((1103515245 * mstate_) + 12345).toUInt32 >>> ((16 : Int32).toUInt32 &&& Int32.toUInt32 31)).toInt32) / m_ * m_) ∨ False
set_option maxHeartbeats 4000000 in
set_option maxRecDepth 100000 in
theorem sf_X11_draw (l : Launch) (D : va_G) (cy : Nat → ClassId) (nm_ : Nat) (nknown_ : Nat) (ntelling_ : Nat) (nimages_ : Nat) (nisImage_ : Nat) (mthrown_ : Int32) (ntape_ : Nat) (mtaped_ : Int32) (mlength_ : Int32) (mhead_ : Int32) (mbegin_ : Int32) (mtoken_ : Int32) (mvalue_ : Int32) (mbad_ : Int32) (mbadPlace_ : Int32) (mfaultKind_ : Int32) (mfaultPlace_ : Int32) (mdeep_ : Int32) (mlawMany_ : Int32) (mlawAt_ : Int32) (nstack_ : Nat) (nasked_ : Nat) (mfell_ : Int32) (mfellIn_ : Int32) (naside_ : Nat) (mstate_ : Int32) (mlanded_ : Int32) (mwaitFalls_ : Int32) (mwaitWeight_ : Int32) (nfallsAfter_ : Nat) (nfalling_ : Nat) (ncomes_ : Nat) (ngoesOn_ : Nat) (nwayRow_ : Nat) (nmany_ : Nat) (nmanyThen_ : Nat) (mtoldLet_ : Int32) (ntSort_ : Nat) (ntMany_ : Nat) (nnumbers_ : Nat) (m_ : Int32) (rmtaped_ : rg (0) (900) mtaped_) (rmlength_ : rg (0) (900) mlength_) (rmhead_ : rg (0) (900) mhead_) (rmbegin_ : rg (0) (900) mbegin_) (rm_ : rg (1) (9) m_) : Ci l yX11_draw cX11_draw 2 (some .int) { frames := 0, cells := 0, slots := 0, locals := 0 } D cy [.ref nm_, .int m_] [(nm_, .inr (11, [.ref nknown_, .ref ntelling_, .ref nimages_, .ref nisImage_, .int mthrown_, .ref ntape_, .int mtaped_, .int mlength_, .int mhead_, .int mbegin_, .int mtoken_, .int mvalue_, .int mbad_, .int mbadPlace_, .int mfaultKind_, .int mfaultPlace_, .int mdeep_, .int mlawMany_, .int mlawAt_, .ref nstack_, .ref nasked_, .int mfell_, .int mfellIn_, .ref naside_, .int mstate_, .int mlanded_, .int mwaitFalls_, .int mwaitWeight_, .ref nfallsAfter_, .ref nfalling_, .ref ncomes_, .ref ngoesOn_, .ref nwayRow_, .ref nmany_, .ref nmanyThen_, .int mtoldLet_, .ref ntSort_, .ref ntMany_, .ref nnumbers_]))] (fun r W1 => ∃ (x0_ : Int32), R_X11_draw_e mstate_ m_ x0_ r ∧ W1 = [(nm_, .inr (11, [.ref nknown_, .ref ntelling_, .ref nimages_, .ref nisImage_, .int mthrown_, .ref ntape_, .int mtaped_, .int mlength_, .int mhead_, .int mbegin_, .int mtoken_, .int mvalue_, .int mbad_, .int mbadPlace_, .int mfaultKind_, .int mfaultPlace_, .int mdeep_, .int mlawMany_, .int mlawAt_, .ref nstack_, .ref nasked_, .int mfell_, .int mfellIn_, .ref naside_, .int x0_, .int mlanded_, .int mwaitFalls_, .int mwaitWeight_, .ref nfallsAfter_, .ref nfalling_, .ref ncomes_, .ref ngoesOn_, .ref nwayRow_, .ref nmany_, .ref nmanyThen_, .int mtoldLet_, .ref ntSort_, .ref ntMany_, .ref nnumbers_]))] ∧ rg (-8) (8) r) := by
  refine Ci.of (by decide) (Nat.le_of_ble_eq_true rfl) ?_
  intro p e s m below meth c A ls hX hE hP hD hl
  obtain ⟨hx, hb, hr, hml, hown, htA, hlk⟩ := id hX
  have hK := hE.1
  have hS : va_S A s.heap s.heap [] := va_S.rf
  have hl : lv_has ls 2 [(0, .ref nm_), (1, .int m_)] := hl
  refine lv_aload_n hx hb dX11_draw_0 rfl (lv_at hl 0 rfl) ?_
  refine lv_ldcw hx hb hown (htA _ wd_1860) dX11_draw_1 ?_
  refine lv_aload_n hx hb dX11_draw_4 rfl (lv_at hl 0 rfl) ?_
  refine va_get (ci := 11) (v := .int mstate_) (C := RX11) (T := TX11) (N := 39) hx hb htA in_X11 hown hK hP 0 rfl rfl 24 (by decide) (htA _ wd_1378) (fun _ h => h) rfl dX11_draw_5 ?_
  refine lv_imul hx hb dX11_draw_8 ?_
  refine lv_sipush (v := 12345) hx hb dX11_draw_9 (by decide) ?_
  refine lv_iadd hx hb dX11_draw_12 ?_
  refine va_put (ci := 11) (v := .int ((1103515245 * mstate_) + 12345)) (ty := .int) (C := RX11) (T := TX11) (N := 39) hx hb htA in_X11 tyX11 tyX11_ok nmX11 hown hK hP hD hS 0 rfl rfl 24 (by decide) (htA _ wd_1378) (fun _ h => h) rfl (by decide +kernel) rfl rfl (Nat.le_of_ble_eq_true rfl) dX11_draw_13 (fun H locs hP hD hS => ?_)
  have hP : va_P D vwCl [(nm_, .inr (11, [.ref nknown_, .ref ntelling_, .ref nimages_, .ref nisImage_, .int mthrown_, .ref ntape_, .int mtaped_, .int mlength_, .int mhead_, .int mbegin_, .int mtoken_, .int mvalue_, .int mbad_, .int mbadPlace_, .int mfaultKind_, .int mfaultPlace_, .int mdeep_, .int mlawMany_, .int mlawAt_, .ref nstack_, .ref nasked_, .int mfell_, .int mfellIn_, .ref naside_, .int ((1103515245 * mstate_) + 12345), .int mlanded_, .int mwaitFalls_, .int mwaitWeight_, .ref nfallsAfter_, .ref nfalling_, .ref ncomes_, .ref ngoesOn_, .ref nwayRow_, .ref nmany_, .ref nmanyThen_, .int mtoldLet_, .ref ntSort_, .ref ntMany_, .ref nnumbers_]))] H := hP
  have hD := va_ca hP hD
  refine lv_aload_n hx hb dX11_draw_16 rfl (lv_at hl 0 rfl) ?_
  refine va_get (ci := 11) (v := .int ((1103515245 * mstate_) + 12345)) (C := RX11) (T := TX11) (N := 39) hx hb htA in_X11 hown hK hP 0 rfl rfl 24 (by decide) (htA _ wd_1378) (fun _ h => h) rfl dX11_draw_17 ?_
  refine lv_bipush (v := 16) hx hb dX11_draw_20 (by decide) ?_
  refine lv_iushr hx hb dX11_draw_22 rfl ?_
  refine lv_iload_n hx hb dX11_draw_23 rfl (lv_at hl 1 rfl) ?_
  refine lv_irem hx hb dX11_draw_24 (rg_nz rm_ (by decide)) ?_
  have g1_ : rg (-8) (8) (((((1103515245 * mstate_) + 12345).toUInt32 >>> ((16 : Int32).toUInt32 &&& Int32.toUInt32 31)).toInt32) - ((((1103515245 * mstate_) + 12345).toUInt32 >>> ((16 : Int32).toUInt32 &&& Int32.toUInt32 31)).toInt32) / m_ * m_) := rg_remy rm_ (by decide) (by decide) (by decide)
  exact rI hX hE hP hD hS dX11_draw_25 (by decide) (by decide) ⟨((1103515245 * mstate_) + 12345), (Or.inl ⟨rfl, rfl⟩), rfl, (rg_w g1_ (by decide) (by decide))⟩
def R_X11_countsOn_b4 (v200200_ : Int32) (fmany_ : Nat → Int64) (uZ_ vZ_ : Int32 × (Nat → Int64)) : Prop := (∃ (w10400_ : Int64) (w10460_ : Int64), ¬ (((if (v200200_ + 1) < 5 then (v200200_ + 1) else 5)) < uZ_.1) ∧ w10400_ = uZ_.2 v200200_.toNatClampNeg ∧ w10460_ = fmany_ uZ_.1.toNatClampNeg ∧ vZ_ = (uZ_.1 + 1, vp_updL uZ_.2 v200200_.toNatClampNeg (w10400_ + w10460_))) ∨ False
def R_X11_countsOn_b1 (fmany_ : Nat → Int64) (uZ_ vZ_ : Int32 × (Nat → Int64)) : Prop := (∃ (v202300_ : Int32) (g202301_ : Nat → Int64), ¬ ((6 : Int32) ≤ uZ_.1) ∧ Itr (R_X11_countsOn_b4 uZ_.1 fmany_) ((if 0 < (uZ_.1 - 1) then (uZ_.1 - 1) else 0), vp_updL uZ_.2 uZ_.1.toNatClampNeg 0) (v202300_, g202301_) ∧ ((if (uZ_.1 + 1) < 5 then (uZ_.1 + 1) else 5)) < v202300_ ∧ vZ_ = (uZ_.1 + 1, g202301_)) ∨ False
def R_X11_countsOn_b2 (fknown_ : Nat → Int32) (s_ : Int32) (g200201_ : Nat → Int64) (uZ_ vZ_ : Int32 × (Nat → Int64)) : Prop := (∃ (v10770_ : Int32), ¬ ((6 : Int32) ≤ uZ_.1) ∧ R_X11_isColumn_w_e1 fknown_ uZ_.1.toInt64 v10770_ ∧ vZ_ = (uZ_.1 + 1, vp_updL uZ_.2 uZ_.1.toNatClampNeg 0)) ∨ (∃ (v10770_ : Int32), ¬ ((6 : Int32) ≤ uZ_.1) ∧ R_X11_isColumn_w_e2 fknown_ uZ_.1.toInt64 v10770_ ∧ vZ_ = (uZ_.1 + 1, vp_updL uZ_.2 uZ_.1.toNatClampNeg 0)) ∨ (∃ (v10770_ : Int32) (v30010850_ : Int32), ¬ ((6 : Int32) ≤ uZ_.1) ∧ R_X11_isColumn_w_e3 fknown_ uZ_.1.toInt64 v10770_ ∧ R_X11_has_e s_ uZ_.1 v30010850_ ∧ ¬ v30010850_ = (0 : Int32) ∧ vZ_ = (uZ_.1 + 1, vp_updL uZ_.2 uZ_.1.toNatClampNeg 0)) ∨ (∃ (v10770_ : Int32) (v30010850_ : Int32) (w30010960_ : Int64), ¬ ((6 : Int32) ≤ uZ_.1) ∧ R_X11_isColumn_w_e3 fknown_ uZ_.1.toInt64 v10770_ ∧ R_X11_has_e s_ uZ_.1 v30010850_ ∧ v30010850_ = (0 : Int32) ∧ w30010960_ = g200201_ uZ_.1.toNatClampNeg ∧ vZ_ = (uZ_.1 + 1, vp_updL uZ_.2 uZ_.1.toNatClampNeg w30010960_)) ∨ False
def R_X11_countsOn_e (fmany_ : Nat → Int64) (fmanyThen_ : Nat → Int64) (fknown_ : Nat → Int32) (s_ : Int32) (x0_ : Nat → Int64) (x1_ : Nat → Int64) : Prop := (∃ (v200200_ : Int32) (g200201_ : Nat → Int64) (v206300_ : Int32) (g206301_ : Nat → Int64), Itr (R_X11_countsOn_b1 fmany_) (0, fmanyThen_) (v200200_, g200201_) ∧ (6 : Int32) ≤ v200200_ ∧ Itr (R_X11_countsOn_b2 fknown_ s_ g200201_) (0, fmany_) (v206300_, g206301_) ∧ (6 : Int32) ≤ v206300_ ∧ x0_ = g206301_ ∧ x1_ = g200201_) ∨ False
set_option maxHeartbeats 4000000 in
set_option maxRecDepth 100000 in
theorem sf_X11_countsOn (l : Launch) (D : va_G) (cy : Nat → ClassId) (nm_ : Nat) (nknown_ : Nat) (ntelling_ : Nat) (nimages_ : Nat) (nisImage_ : Nat) (mthrown_ : Int32) (ntape_ : Nat) (mtaped_ : Int32) (mlength_ : Int32) (mhead_ : Int32) (mbegin_ : Int32) (mtoken_ : Int32) (mvalue_ : Int32) (mbad_ : Int32) (mbadPlace_ : Int32) (mfaultKind_ : Int32) (mfaultPlace_ : Int32) (mdeep_ : Int32) (mlawMany_ : Int32) (mlawAt_ : Int32) (nstack_ : Nat) (nasked_ : Nat) (mfell_ : Int32) (mfellIn_ : Int32) (naside_ : Nat) (mstate_ : Int32) (mlanded_ : Int32) (mwaitFalls_ : Int32) (mwaitWeight_ : Int32) (nfallsAfter_ : Nat) (nfalling_ : Nat) (ncomes_ : Nat) (ngoesOn_ : Nat) (nwayRow_ : Nat) (nmany_ : Nat) (nmanyThen_ : Nat) (mtoldLet_ : Int32) (ntSort_ : Nat) (ntMany_ : Nat) (nnumbers_ : Nat) (fknown_ : Nat → Int32) (fmany_ : Nat → Int64) (fmanyThen_ : Nat → Int64) (s_ : Int32) (C_ : Int) (L_ : Int) (hb_ : Int) (ha_ : Int) (hc_ : Int) (hha_ : -2000000 ≤ ha_) (hhc_ : hc_ ≤ 4000000) (hhb_ : hb_ ≤ 1000000) (rmtaped_ : rg (0) (900) mtaped_) (rmlength_ : rg (0) (900) mlength_) (rmhead_ : rg (0) (900) mhead_) (rmbegin_ : rg (0) (900) mbegin_) (rfknown_ : KX C_ L_ ha_ hc_ hb_ fknown_) : Cv l yX11_countsOn cX11_countsOn 4 none { frames := 2, cells := 0, slots := 0, locals := 47 } D cy [.ref nm_, .int s_] [(nm_, .inr (11, [.ref nknown_, .ref ntelling_, .ref nimages_, .ref nisImage_, .int mthrown_, .ref ntape_, .int mtaped_, .int mlength_, .int mhead_, .int mbegin_, .int mtoken_, .int mvalue_, .int mbad_, .int mbadPlace_, .int mfaultKind_, .int mfaultPlace_, .int mdeep_, .int mlawMany_, .int mlawAt_, .ref nstack_, .ref nasked_, .int mfell_, .int mfellIn_, .ref naside_, .int mstate_, .int mlanded_, .int mwaitFalls_, .int mwaitWeight_, .ref nfallsAfter_, .ref nfalling_, .ref ncomes_, .ref ngoesOn_, .ref nwayRow_, .ref nmany_, .ref nmanyThen_, .int mtoldLet_, .ref ntSort_, .ref ntMany_, .ref nnumbers_])), (nknown_, .inl (cy 0, 2260, .inl (fknown_))), (nmany_, .inl (cy 2, 6, .inr (.inl (fmany_)))), (nmanyThen_, .inl (cy 2, 6, .inr (.inl (fmanyThen_))))] (fun W1 => ∃ (x0_ : Nat → Int64) (x1_ : Nat → Int64), R_X11_countsOn_e fmany_ fmanyThen_ fknown_ s_ x0_ x1_ ∧ W1 = [(nm_, .inr (11, [.ref nknown_, .ref ntelling_, .ref nimages_, .ref nisImage_, .int mthrown_, .ref ntape_, .int mtaped_, .int mlength_, .int mhead_, .int mbegin_, .int mtoken_, .int mvalue_, .int mbad_, .int mbadPlace_, .int mfaultKind_, .int mfaultPlace_, .int mdeep_, .int mlawMany_, .int mlawAt_, .ref nstack_, .ref nasked_, .int mfell_, .int mfellIn_, .ref naside_, .int mstate_, .int mlanded_, .int mwaitFalls_, .int mwaitWeight_, .ref nfallsAfter_, .ref nfalling_, .ref ncomes_, .ref ngoesOn_, .ref nwayRow_, .ref nmany_, .ref nmanyThen_, .int mtoldLet_, .ref ntSort_, .ref ntMany_, .ref nnumbers_])), (nknown_, .inl (cy 0, 2260, .inl (fknown_))), (nmany_, .inl (cy 2, 6, .inr (.inl (x0_)))), (nmanyThen_, .inl (cy 2, 6, .inr (.inl (x1_))))]) := by
  refine Cv.of (by decide) (Nat.le_of_ble_eq_true rfl) ?_
  intro p e s m below meth c A ls hX hE hP hD hl hin
  obtain ⟨hx, hb, hr, hml, hown, htA, hlk⟩ := id hX
  have hK := hE.1
  have hS : va_S A s.heap s.heap [] := va_S.rf
  have hl : lv_has ls 4 [(0, .ref nm_), (1, .int s_)] := hl
  refine lv_iconst (v := 0) hx hb dX11_countsOn_0 (by decide) ?_
  refine lv_istore_n (lv' := [(2, .int 0), (0, .ref nm_), (1, .int s_)]) hx hb dX11_countsOn_1 rfl hl (by decide) rfl (fun ls hl => ?_)
  refine loopT (τ := Int32 × (Nat → Int64)) (WS := fun i => [(nm_, .inr (11, [.ref nknown_, .ref ntelling_, .ref nimages_, .ref nisImage_, .int mthrown_, .ref ntape_, .int mtaped_, .int mlength_, .int mhead_, .int mbegin_, .int mtoken_, .int mvalue_, .int mbad_, .int mbadPlace_, .int mfaultKind_, .int mfaultPlace_, .int mdeep_, .int mlawMany_, .int mlawAt_, .ref nstack_, .ref nasked_, .int mfell_, .int mfellIn_, .ref naside_, .int mstate_, .int mlanded_, .int mwaitFalls_, .int mwaitWeight_, .ref nfallsAfter_, .ref nfalling_, .ref ncomes_, .ref ngoesOn_, .ref nwayRow_, .ref nmany_, .ref nmanyThen_, .int mtoldLet_, .ref ntSort_, .ref ntMany_, .ref nnumbers_])), (nknown_, .inl (cy 0, 2260, .inl (fknown_))), (nmany_, .inl (cy 2, 6, .inr (.inl (fmany_)))), (nmanyThen_, .inl (cy 2, 6, .inr (.inl (i.2))))]) (LV := fun i => [(2, .int i.1), (0, .ref nm_), (1, .int s_)]) (fun i => (7 - i.1.toInt).toNat) (fun i => rg (0) (6) i.1 ∧ Itr (R_X11_countsOn_b1 fmany_) (0, fmanyThen_) (i.1, i.2)) ?_ (0, fmanyThen_) ⟨(rg_w (rg_lit (by decide) : rg (0) (0) (0 : Int32)) (by decide) (by decide)), (Itr.rf _ _)⟩ hP hD hS (lv_sub hl [0, 1, 2] rfl)
  intro i_ H locs ls hI ih2_ hP hD hS hl
  obtain ⟨v200200_, g200201_⟩ := i_
  have hI : rg (0) (6) v200200_ ∧ Itr (R_X11_countsOn_b1 fmany_) (0, fmanyThen_) (v200200_, g200201_) := hI
  obtain ⟨rv200200_, hR1_⟩ := hI
  have hP : va_P D vwCl [(nm_, .inr (11, [.ref nknown_, .ref ntelling_, .ref nimages_, .ref nisImage_, .int mthrown_, .ref ntape_, .int mtaped_, .int mlength_, .int mhead_, .int mbegin_, .int mtoken_, .int mvalue_, .int mbad_, .int mbadPlace_, .int mfaultKind_, .int mfaultPlace_, .int mdeep_, .int mlawMany_, .int mlawAt_, .ref nstack_, .ref nasked_, .int mfell_, .int mfellIn_, .ref naside_, .int mstate_, .int mlanded_, .int mwaitFalls_, .int mwaitWeight_, .ref nfallsAfter_, .ref nfalling_, .ref ncomes_, .ref ngoesOn_, .ref nwayRow_, .ref nmany_, .ref nmanyThen_, .int mtoldLet_, .ref ntSort_, .ref ntMany_, .ref nnumbers_])), (nknown_, .inl (cy 0, 2260, .inl (fknown_))), (nmany_, .inl (cy 2, 6, .inr (.inl (fmany_)))), (nmanyThen_, .inl (cy 2, 6, .inr (.inl (g200201_))))] H := hP
  have hD := va_ca hP hD
  have hl : lv_has ls 4 [(2, .int v200200_), (0, .ref nm_), (1, .int s_)] := hl
  refine lv_iload_n hx hb dX11_countsOn_2 rfl (lv_at hl 0 rfl) ?_
  refine lv_bipush (v := 6) hx hb dX11_countsOn_3 (by decide) ?_
  refine lv_icmp_ge (tgt := 61) hx hb dX11_countsOn_5 (by decide) (fun c5_ => ?_) (fun c5_ => ?_)
  · have g1_ : rg (6) (6) v200200_ := rg_le2 c5_ (rg_lit (by decide) : rg (6) (6) (6 : Int32)) rv200200_ (by decide)
    refine lv_iconst (v := 0) hx hb dX11_countsOn_61 (by decide) ?_
    refine lv_istore_n (lv' := [(2, .int 0), (0, .ref nm_), (1, .int s_)]) hx hb dX11_countsOn_62 rfl hl (by decide) rfl (fun ls hl => ?_)
    refine loopT (τ := Int32 × (Nat → Int64)) (WS := fun i => [(nm_, .inr (11, [.ref nknown_, .ref ntelling_, .ref nimages_, .ref nisImage_, .int mthrown_, .ref ntape_, .int mtaped_, .int mlength_, .int mhead_, .int mbegin_, .int mtoken_, .int mvalue_, .int mbad_, .int mbadPlace_, .int mfaultKind_, .int mfaultPlace_, .int mdeep_, .int mlawMany_, .int mlawAt_, .ref nstack_, .ref nasked_, .int mfell_, .int mfellIn_, .ref naside_, .int mstate_, .int mlanded_, .int mwaitFalls_, .int mwaitWeight_, .ref nfallsAfter_, .ref nfalling_, .ref ncomes_, .ref ngoesOn_, .ref nwayRow_, .ref nmany_, .ref nmanyThen_, .int mtoldLet_, .ref ntSort_, .ref ntMany_, .ref nnumbers_])), (nknown_, .inl (cy 0, 2260, .inl (fknown_))), (nmany_, .inl (cy 2, 6, .inr (.inl (i.2)))), (nmanyThen_, .inl (cy 2, 6, .inr (.inl (g200201_))))]) (LV := fun i => [(2, .int i.1), (0, .ref nm_), (1, .int s_)]) (fun i => (7 - i.1.toInt).toNat) (fun i => rg (0) (6) i.1 ∧ Itr (R_X11_countsOn_b2 fknown_ s_ g200201_) (0, fmany_) (i.1, i.2)) ?_ (0, fmany_) ⟨(rg_w (rg_lit (by decide) : rg (0) (0) (0 : Int32)) (by decide) (by decide)), (Itr.rf _ _)⟩ hP hD hS (lv_sub hl [0, 1, 2] rfl)
    intro i_ H locs ls hI ih63_ hP hD hS hl
    obtain ⟨v206300_, g206301_⟩ := i_
    have hI : rg (0) (6) v206300_ ∧ Itr (R_X11_countsOn_b2 fknown_ s_ g200201_) (0, fmany_) (v206300_, g206301_) := hI
    obtain ⟨rv206300_, hR2_⟩ := hI
    have hP : va_P D vwCl [(nm_, .inr (11, [.ref nknown_, .ref ntelling_, .ref nimages_, .ref nisImage_, .int mthrown_, .ref ntape_, .int mtaped_, .int mlength_, .int mhead_, .int mbegin_, .int mtoken_, .int mvalue_, .int mbad_, .int mbadPlace_, .int mfaultKind_, .int mfaultPlace_, .int mdeep_, .int mlawMany_, .int mlawAt_, .ref nstack_, .ref nasked_, .int mfell_, .int mfellIn_, .ref naside_, .int mstate_, .int mlanded_, .int mwaitFalls_, .int mwaitWeight_, .ref nfallsAfter_, .ref nfalling_, .ref ncomes_, .ref ngoesOn_, .ref nwayRow_, .ref nmany_, .ref nmanyThen_, .int mtoldLet_, .ref ntSort_, .ref ntMany_, .ref nnumbers_])), (nknown_, .inl (cy 0, 2260, .inl (fknown_))), (nmany_, .inl (cy 2, 6, .inr (.inl (g206301_)))), (nmanyThen_, .inl (cy 2, 6, .inr (.inl (g200201_))))] H := hP
    have hD := va_ca hP hD
    have hl : lv_has ls 4 [(2, .int v206300_), (0, .ref nm_), (1, .int s_)] := hl
    refine lv_iload_n hx hb dX11_countsOn_63 rfl (lv_at hl 0 rfl) ?_
    refine lv_bipush (v := 6) hx hb dX11_countsOn_64 (by decide) ?_
    refine lv_icmp_ge (tgt := 108) hx hb dX11_countsOn_66 (by decide) (fun c66_ => ?_) (fun c66_ => ?_)
    · have g2_ : rg (6) (6) v206300_ := rg_le2 c66_ (rg_lit (by decide) : rg (6) (6) (6 : Int32)) rv206300_ (by decide)
      exact rV hX hE hP hD hS dX11_countsOn_108 (by decide) (by decide) ⟨g206301_, g200201_, (Or.inl ⟨v200200_, g200201_, v206300_, g206301_, hR1_, c5_, hR2_, c66_, rfl, rfl⟩), rfl⟩
    · have g3_ : rg (0) (5) v206300_ := rg_lt1 (rg_nle c66_) rv206300_ (rg_lit (by decide) : rg (6) (6) (6 : Int32)) (by decide)
      refine lv_aload_n hx hb dX11_countsOn_69 rfl (lv_at hl 1 rfl) ?_
      refine va_get (ci := 11) (v := .ref nmany_) (C := RX11) (T := TX11) (N := 39) hx hb htA in_X11 hown hK hP 0 rfl rfl 33 (by decide) (htA _ wd_1387) (fun _ h => h) rfl dX11_countsOn_70 ?_
      refine lv_iload_n hx hb dX11_countsOn_73 rfl (lv_at hl 0 rfl) ?_
      refine lv_aload_n hx hb dX11_countsOn_74 rfl (lv_at hl 1 rfl) ?_
      refine lv_iload_n hx hb dX11_countsOn_75 rfl (lv_at hl 0 rfl) ?_
      refine lv_i2l hx hb dX11_countsOn_76 rfl ?_
      have g4_ : rl (0) (5) v206300_.toInt64 := rl_i2l g3_
      refine kVi (As := [.long v206300_.toInt64]) (rest := [.int v206300_, .ref nmany_]) (wr := [(nmany_, .inl (cy 2, 6, .inr (.inl (g206301_)))), (nmanyThen_, .inl (cy 2, 6, .inr (.inl (g200201_))))]) hX hE (sf_X11_isColumn_w l D cy nm_ nknown_ ntelling_ nimages_ nisImage_ mthrown_ ntape_ mtaped_ mlength_ mhead_ mbegin_ mtoken_ mvalue_ mbad_ mbadPlace_ mfaultKind_ mfaultPlace_ mdeep_ mlawMany_ mlawAt_ nstack_ nasked_ mfell_ mfellIn_ naside_ mstate_ mlanded_ mwaitFalls_ mwaitWeight_ nfallsAfter_ nfalling_ ncomes_ ngoesOn_ nwayRow_ nmany_ nmanyThen_ mtoldLet_ ntSort_ ntMany_ nnumbers_ fknown_ v206300_.toInt64 C_ L_ hb_ ha_ hc_ (by omega) (by omega) (by omega) (rg_w rmtaped_ (by decide) (by decide)) (rg_w rmlength_ (by decide) (by decide)) (rg_w rmhead_ (by decide) (by decide)) (rg_w rmbegin_ (by decide) (by decide)) rfknown_) (cwVA 1 htA wd_1683 wd_1680 wd_10 wd_1682 wp_76 (by decide +kernel) ⟨by decide, by decide⟩) hP hD hS [0, 1] [2, 3] rfl rfl (by decide +kernel) 0 rfl rfl rfl rfl hl.1 rfl (Nat.le_of_ble_eq_true rfl) dX11_countsOn_77 (by decide) (fun v10770_ W1 H locs hw hP hD hS => ?_)
      refine W.widen (k := 0) (n := 0) (by decide) (by decide) ?_
      rcases hw with ⟨k77_0_, k77_1_, rfl, kr77_⟩ | ⟨k77_0_, k77_1_, rfl, kr77_⟩ | ⟨k77_0_, k77_1_, k77_2_, rfl, kr77_⟩
      · have hP : va_P D vwCl [(nmany_, .inl (cy 2, 6, .inr (.inl (g206301_)))), (nmanyThen_, .inl (cy 2, 6, .inr (.inl (g200201_)))), (nm_, .inr (11, [.ref nknown_, .ref ntelling_, .ref nimages_, .ref nisImage_, .int mthrown_, .ref ntape_, .int mtaped_, .int mlength_, .int mhead_, .int mbegin_, .int mtoken_, .int mvalue_, .int mbad_, .int mbadPlace_, .int mfaultKind_, .int mfaultPlace_, .int mdeep_, .int mlawMany_, .int mlawAt_, .ref nstack_, .ref nasked_, .int mfell_, .int mfellIn_, .ref naside_, .int mstate_, .int mlanded_, .int mwaitFalls_, .int mwaitWeight_, .ref nfallsAfter_, .ref nfalling_, .ref ncomes_, .ref ngoesOn_, .ref nwayRow_, .ref nmany_, .ref nmanyThen_, .int mtoldLet_, .ref ntSort_, .ref ntMany_, .ref nnumbers_])), (nknown_, .inl (cy 0, 2260, .inl (fknown_)))] H := hP
        have hD := va_ca hP hD
        refine lv_if_eq (tgt := 100) hx hb dX11_countsOn_80 (by decide) (fun c10000080_ => ?_) (fun c10000080_ => rg_ne0 c10000080_ kr77_ (rg_lit (by decide) : rg (0) (0) (0 : Int32)))
        refine lv_lconst (v := 0) hx hb dX11_countsOn_100 (by decide) ?_
        refine va_last hx hb hK hP hD hS 0 2 rfl rfl (rg_in (rl_b (rl_cut g4_ k77_0_)) (by decide) (by decide)) dX11_countsOn_101 (fun H locs hP hD hS => ?_)
        have hP : va_P D vwCl [(nmany_, .inl (cy 2, 6, .inr (.inl (vp_updL g206301_ v206300_.toNatClampNeg 0)))), (nmanyThen_, .inl (cy 2, 6, .inr (.inl (g200201_)))), (nm_, .inr (11, [.ref nknown_, .ref ntelling_, .ref nimages_, .ref nisImage_, .int mthrown_, .ref ntape_, .int mtaped_, .int mlength_, .int mhead_, .int mbegin_, .int mtoken_, .int mvalue_, .int mbad_, .int mbadPlace_, .int mfaultKind_, .int mfaultPlace_, .int mdeep_, .int mlawMany_, .int mlawAt_, .ref nstack_, .ref nasked_, .int mfell_, .int mfellIn_, .ref naside_, .int mstate_, .int mlanded_, .int mwaitFalls_, .int mwaitWeight_, .ref nfallsAfter_, .ref nfalling_, .ref ncomes_, .ref ngoesOn_, .ref nwayRow_, .ref nmany_, .ref nmanyThen_, .int mtoldLet_, .ref ntSort_, .ref ntMany_, .ref nnumbers_])), (nknown_, .inl (cy 0, 2260, .inl (fknown_)))] H := hP
        have hD := va_ca hP hD
        refine lv_iinc (v := v206300_ + 1) (lv' := [(2, .int (v206300_ + 1)), (0, .ref nm_), (1, .int s_)]) hx hb dX11_countsOn_102 hl (k := 0) rfl rfl (by decide) rfl (fun ls hl => ?_)
        have g5_ : rg (1) (1) (v206300_ + 1) := rg_add (rl_b (rl_cut g4_ k77_0_)) (rg_lit (by decide) : rg (1) (1) (1 : Int32)) (by decide) (by decide) (by decide) (by decide)
        refine lv_goto (tgt := 63) hx hb dX11_countsOn_105 (by decide) ?_
        have hP : va_P D vwCl [(nm_, .inr (11, [.ref nknown_, .ref ntelling_, .ref nimages_, .ref nisImage_, .int mthrown_, .ref ntape_, .int mtaped_, .int mlength_, .int mhead_, .int mbegin_, .int mtoken_, .int mvalue_, .int mbad_, .int mbadPlace_, .int mfaultKind_, .int mfaultPlace_, .int mdeep_, .int mlawMany_, .int mlawAt_, .ref nstack_, .ref nasked_, .int mfell_, .int mfellIn_, .ref naside_, .int mstate_, .int mlanded_, .int mwaitFalls_, .int mwaitWeight_, .ref nfallsAfter_, .ref nfalling_, .ref ncomes_, .ref ngoesOn_, .ref nwayRow_, .ref nmany_, .ref nmanyThen_, .int mtoldLet_, .ref ntSort_, .ref ntMany_, .ref nnumbers_])), (nknown_, .inl (cy 0, 2260, .inl (fknown_))), (nmany_, .inl (cy 2, 6, .inr (.inl (vp_updL g206301_ v206300_.toNatClampNeg 0)))), (nmanyThen_, .inl (cy 2, 6, .inr (.inl (g200201_))))] H := hP.sub [2, 3, 0, 1] rfl
        have hD : va_D A [(nm_, .inr (11, [.ref nknown_, .ref ntelling_, .ref nimages_, .ref nisImage_, .int mthrown_, .ref ntape_, .int mtaped_, .int mlength_, .int mhead_, .int mbegin_, .int mtoken_, .int mvalue_, .int mbad_, .int mbadPlace_, .int mfaultKind_, .int mfaultPlace_, .int mdeep_, .int mlawMany_, .int mlawAt_, .ref nstack_, .ref nasked_, .int mfell_, .int mfellIn_, .ref naside_, .int mstate_, .int mlanded_, .int mwaitFalls_, .int mwaitWeight_, .ref nfallsAfter_, .ref nfalling_, .ref ncomes_, .ref ngoesOn_, .ref nwayRow_, .ref nmany_, .ref nmanyThen_, .int mtoldLet_, .ref ntSort_, .ref ntMany_, .ref nnumbers_])), (nknown_, .inl (cy 0, 2260, .inl (fknown_))), (nmany_, .inl (cy 2, 6, .inr (.inl (vp_updL g206301_ v206300_.toNatClampNeg 0)))), (nmanyThen_, .inl (cy 2, 6, .inr (.inl (g200201_))))] := hD.sub [2, 3, 0, 1] (by decide +kernel) rfl
        exact ih63_ (v206300_ + 1, vp_updL g206301_ v206300_.toNatClampNeg 0) _ _ ls ⟨(rg_w g5_ (by decide) (by decide)), (Itr.st hR2_ (Or.inl ⟨v10770_, c66_, k77_1_, rfl⟩))⟩ (show (7 - (v206300_ + 1).toInt).toNat < (7 - v206300_.toInt).toNat from by rw [show (v206300_ + 1).toInt = v206300_.toInt + 1 from inc32 v206300_ (by have hq := (rv206300_).2; omega)]; have hq := ((rl_b (rl_cut g4_ k77_0_))).1; have hq2 := ((rl_b (rl_cut g4_ k77_0_))).2; omega) hP hD hS (lv_sub hl [0, 1, 2] rfl)
      · have hP : va_P D vwCl [(nmany_, .inl (cy 2, 6, .inr (.inl (g206301_)))), (nmanyThen_, .inl (cy 2, 6, .inr (.inl (g200201_)))), (nm_, .inr (11, [.ref nknown_, .ref ntelling_, .ref nimages_, .ref nisImage_, .int mthrown_, .ref ntape_, .int mtaped_, .int mlength_, .int mhead_, .int mbegin_, .int mtoken_, .int mvalue_, .int mbad_, .int mbadPlace_, .int mfaultKind_, .int mfaultPlace_, .int mdeep_, .int mlawMany_, .int mlawAt_, .ref nstack_, .ref nasked_, .int mfell_, .int mfellIn_, .ref naside_, .int mstate_, .int mlanded_, .int mwaitFalls_, .int mwaitWeight_, .ref nfallsAfter_, .ref nfalling_, .ref ncomes_, .ref ngoesOn_, .ref nwayRow_, .ref nmany_, .ref nmanyThen_, .int mtoldLet_, .ref ntSort_, .ref ntMany_, .ref nnumbers_])), (nknown_, .inl (cy 0, 2260, .inl (fknown_)))] H := hP
        have hD := va_ca hP hD
        refine lv_if_eq (tgt := 100) hx hb dX11_countsOn_80 (by decide) (fun c20000080_ => ?_) (fun c20000080_ => rg_ne0 c20000080_ kr77_ (rg_lit (by decide) : rg (0) (0) (0 : Int32)))
        refine lv_lconst (v := 0) hx hb dX11_countsOn_100 (by decide) ?_
        refine va_last hx hb hK hP hD hS 0 2 rfl rfl (rg_in (rl_b (rl_cut g4_ k77_0_)) (by decide) (by decide)) dX11_countsOn_101 (fun H locs hP hD hS => ?_)
        have hP : va_P D vwCl [(nmany_, .inl (cy 2, 6, .inr (.inl (vp_updL g206301_ v206300_.toNatClampNeg 0)))), (nmanyThen_, .inl (cy 2, 6, .inr (.inl (g200201_)))), (nm_, .inr (11, [.ref nknown_, .ref ntelling_, .ref nimages_, .ref nisImage_, .int mthrown_, .ref ntape_, .int mtaped_, .int mlength_, .int mhead_, .int mbegin_, .int mtoken_, .int mvalue_, .int mbad_, .int mbadPlace_, .int mfaultKind_, .int mfaultPlace_, .int mdeep_, .int mlawMany_, .int mlawAt_, .ref nstack_, .ref nasked_, .int mfell_, .int mfellIn_, .ref naside_, .int mstate_, .int mlanded_, .int mwaitFalls_, .int mwaitWeight_, .ref nfallsAfter_, .ref nfalling_, .ref ncomes_, .ref ngoesOn_, .ref nwayRow_, .ref nmany_, .ref nmanyThen_, .int mtoldLet_, .ref ntSort_, .ref ntMany_, .ref nnumbers_])), (nknown_, .inl (cy 0, 2260, .inl (fknown_)))] H := hP
        have hD := va_ca hP hD
        refine lv_iinc (v := v206300_ + 1) (lv' := [(2, .int (v206300_ + 1)), (0, .ref nm_), (1, .int s_)]) hx hb dX11_countsOn_102 hl (k := 0) rfl rfl (by decide) rfl (fun ls hl => ?_)
        have g6_ : rg (1) (6) (v206300_ + 1) := rg_add (rl_b (rl_cut g4_ k77_0_)) (rg_lit (by decide) : rg (1) (1) (1 : Int32)) (by decide) (by decide) (by decide) (by decide)
        refine lv_goto (tgt := 63) hx hb dX11_countsOn_105 (by decide) ?_
        have hP : va_P D vwCl [(nm_, .inr (11, [.ref nknown_, .ref ntelling_, .ref nimages_, .ref nisImage_, .int mthrown_, .ref ntape_, .int mtaped_, .int mlength_, .int mhead_, .int mbegin_, .int mtoken_, .int mvalue_, .int mbad_, .int mbadPlace_, .int mfaultKind_, .int mfaultPlace_, .int mdeep_, .int mlawMany_, .int mlawAt_, .ref nstack_, .ref nasked_, .int mfell_, .int mfellIn_, .ref naside_, .int mstate_, .int mlanded_, .int mwaitFalls_, .int mwaitWeight_, .ref nfallsAfter_, .ref nfalling_, .ref ncomes_, .ref ngoesOn_, .ref nwayRow_, .ref nmany_, .ref nmanyThen_, .int mtoldLet_, .ref ntSort_, .ref ntMany_, .ref nnumbers_])), (nknown_, .inl (cy 0, 2260, .inl (fknown_))), (nmany_, .inl (cy 2, 6, .inr (.inl (vp_updL g206301_ v206300_.toNatClampNeg 0)))), (nmanyThen_, .inl (cy 2, 6, .inr (.inl (g200201_))))] H := hP.sub [2, 3, 0, 1] rfl
        have hD : va_D A [(nm_, .inr (11, [.ref nknown_, .ref ntelling_, .ref nimages_, .ref nisImage_, .int mthrown_, .ref ntape_, .int mtaped_, .int mlength_, .int mhead_, .int mbegin_, .int mtoken_, .int mvalue_, .int mbad_, .int mbadPlace_, .int mfaultKind_, .int mfaultPlace_, .int mdeep_, .int mlawMany_, .int mlawAt_, .ref nstack_, .ref nasked_, .int mfell_, .int mfellIn_, .ref naside_, .int mstate_, .int mlanded_, .int mwaitFalls_, .int mwaitWeight_, .ref nfallsAfter_, .ref nfalling_, .ref ncomes_, .ref ngoesOn_, .ref nwayRow_, .ref nmany_, .ref nmanyThen_, .int mtoldLet_, .ref ntSort_, .ref ntMany_, .ref nnumbers_])), (nknown_, .inl (cy 0, 2260, .inl (fknown_))), (nmany_, .inl (cy 2, 6, .inr (.inl (vp_updL g206301_ v206300_.toNatClampNeg 0)))), (nmanyThen_, .inl (cy 2, 6, .inr (.inl (g200201_))))] := hD.sub [2, 3, 0, 1] (by decide +kernel) rfl
        exact ih63_ (v206300_ + 1, vp_updL g206301_ v206300_.toNatClampNeg 0) _ _ ls ⟨(rg_w g6_ (by decide) (by decide)), (Itr.st hR2_ (Or.inr (Or.inl ⟨v10770_, c66_, k77_1_, rfl⟩)))⟩ (show (7 - (v206300_ + 1).toInt).toNat < (7 - v206300_.toInt).toNat from by rw [show (v206300_ + 1).toInt = v206300_.toInt + 1 from inc32 v206300_ (by have hq := (rv206300_).2; omega)]; have hq := ((rl_b (rl_cut g4_ k77_0_))).1; have hq2 := ((rl_b (rl_cut g4_ k77_0_))).2; omega) hP hD hS (lv_sub hl [0, 1, 2] rfl)
      · have hP : va_P D vwCl [(nmany_, .inl (cy 2, 6, .inr (.inl (g206301_)))), (nmanyThen_, .inl (cy 2, 6, .inr (.inl (g200201_)))), (nm_, .inr (11, [.ref nknown_, .ref ntelling_, .ref nimages_, .ref nisImage_, .int mthrown_, .ref ntape_, .int mtaped_, .int mlength_, .int mhead_, .int mbegin_, .int mtoken_, .int mvalue_, .int mbad_, .int mbadPlace_, .int mfaultKind_, .int mfaultPlace_, .int mdeep_, .int mlawMany_, .int mlawAt_, .ref nstack_, .ref nasked_, .int mfell_, .int mfellIn_, .ref naside_, .int mstate_, .int mlanded_, .int mwaitFalls_, .int mwaitWeight_, .ref nfallsAfter_, .ref nfalling_, .ref ncomes_, .ref ngoesOn_, .ref nwayRow_, .ref nmany_, .ref nmanyThen_, .int mtoldLet_, .ref ntSort_, .ref ntMany_, .ref nnumbers_])), (nknown_, .inl (cy 0, 2260, .inl (fknown_)))] H := hP
        have hD := va_ca hP hD
        refine lv_if_eq (tgt := 100) hx hb dX11_countsOn_80 (by decide) (fun c30000080_ => rg_eqab c30000080_ kr77_ (rg_lit (by decide) : rg (0) (0) (0 : Int32)) (by decide)) (fun c30000080_ => ?_)
        refine lv_iload_n hx hb dX11_countsOn_83 rfl (lv_at hl 2 rfl) ?_
        refine lv_iload_n hx hb dX11_countsOn_84 rfl (lv_at hl 0 rfl) ?_
        refine kSi (As := [.int s_, .int v206300_]) (rest := [.int v206300_, .ref nmany_]) (wr := [(nmany_, .inl (cy 2, 6, .inr (.inl (g206301_)))), (nmanyThen_, .inl (cy 2, 6, .inr (.inl (g200201_)))), (nm_, .inr (11, [.ref nknown_, .ref ntelling_, .ref nimages_, .ref nisImage_, .int mthrown_, .ref ntape_, .int mtaped_, .int mlength_, .int mhead_, .int mbegin_, .int mtoken_, .int mvalue_, .int mbad_, .int mbadPlace_, .int mfaultKind_, .int mfaultPlace_, .int mdeep_, .int mlawMany_, .int mlawAt_, .ref nstack_, .ref nasked_, .int mfell_, .int mfellIn_, .ref naside_, .int mstate_, .int mlanded_, .int mwaitFalls_, .int mwaitWeight_, .ref nfallsAfter_, .ref nfalling_, .ref ncomes_, .ref ngoesOn_, .ref nwayRow_, .ref nmany_, .ref nmanyThen_, .int mtoldLet_, .ref ntSort_, .ref ntMany_, .ref nnumbers_])), (nknown_, .inl (cy 0, 2260, .inl (fknown_)))]) hX hE (sf_X11_has l D cy s_ v206300_ ) (cwSA 2 htA wd_1751 wd_1749 wd_10 wd_1750 (by decide +kernel) ⟨by decide, by decide⟩) hP hD hS [] [0, 1, 2, 3] rfl rfl (by decide +kernel) rfl hl.1 rfl (Nat.le_of_ble_eq_true rfl) dX11_countsOn_85 (by decide) (fun v30010850_ W1 H locs hw hP hD hS => ?_)
        refine W.widen (k := 0) (n := 0) (by decide) (by decide) ?_
        obtain ⟨k30000085_0_, rfl, kr30000085_⟩ := hw
        have hP : va_P D vwCl [(nmany_, .inl (cy 2, 6, .inr (.inl (g206301_)))), (nmanyThen_, .inl (cy 2, 6, .inr (.inl (g200201_)))), (nm_, .inr (11, [.ref nknown_, .ref ntelling_, .ref nimages_, .ref nisImage_, .int mthrown_, .ref ntape_, .int mtaped_, .int mlength_, .int mhead_, .int mbegin_, .int mtoken_, .int mvalue_, .int mbad_, .int mbadPlace_, .int mfaultKind_, .int mfaultPlace_, .int mdeep_, .int mlawMany_, .int mlawAt_, .ref nstack_, .ref nasked_, .int mfell_, .int mfellIn_, .ref naside_, .int mstate_, .int mlanded_, .int mwaitFalls_, .int mwaitWeight_, .ref nfallsAfter_, .ref nfalling_, .ref ncomes_, .ref ngoesOn_, .ref nwayRow_, .ref nmany_, .ref nmanyThen_, .int mtoldLet_, .ref ntSort_, .ref ntMany_, .ref nnumbers_])), (nknown_, .inl (cy 0, 2260, .inl (fknown_)))] H := hP
        have hD := va_ca hP hD
        refine lv_if_ne (tgt := 100) hx hb dX11_countsOn_88 (by decide) (fun c30000088_ => ?_) (fun c30000088_ => ?_)
        · have g7_ : rg (1) (1) v30010850_ := rg_ne1 c30000088_ kr30000085_ (by decide) (by decide)
          refine lv_lconst (v := 0) hx hb dX11_countsOn_100 (by decide) ?_
          refine va_last hx hb hK hP hD hS 0 2 rfl rfl (rg_in (rl_b (rl_cut g4_ k77_0_)) (by decide) (by decide)) dX11_countsOn_101 (fun H locs hP hD hS => ?_)
          have hP : va_P D vwCl [(nmany_, .inl (cy 2, 6, .inr (.inl (vp_updL g206301_ v206300_.toNatClampNeg 0)))), (nmanyThen_, .inl (cy 2, 6, .inr (.inl (g200201_)))), (nm_, .inr (11, [.ref nknown_, .ref ntelling_, .ref nimages_, .ref nisImage_, .int mthrown_, .ref ntape_, .int mtaped_, .int mlength_, .int mhead_, .int mbegin_, .int mtoken_, .int mvalue_, .int mbad_, .int mbadPlace_, .int mfaultKind_, .int mfaultPlace_, .int mdeep_, .int mlawMany_, .int mlawAt_, .ref nstack_, .ref nasked_, .int mfell_, .int mfellIn_, .ref naside_, .int mstate_, .int mlanded_, .int mwaitFalls_, .int mwaitWeight_, .ref nfallsAfter_, .ref nfalling_, .ref ncomes_, .ref ngoesOn_, .ref nwayRow_, .ref nmany_, .ref nmanyThen_, .int mtoldLet_, .ref ntSort_, .ref ntMany_, .ref nnumbers_])), (nknown_, .inl (cy 0, 2260, .inl (fknown_)))] H := hP
          have hD := va_ca hP hD
          refine lv_iinc (v := v206300_ + 1) (lv' := [(2, .int (v206300_ + 1)), (0, .ref nm_), (1, .int s_)]) hx hb dX11_countsOn_102 hl (k := 0) rfl rfl (by decide) rfl (fun ls hl => ?_)
          have g8_ : rg (1) (6) (v206300_ + 1) := rg_add (rl_b (rl_cut g4_ k77_0_)) (rg_lit (by decide) : rg (1) (1) (1 : Int32)) (by decide) (by decide) (by decide) (by decide)
          refine lv_goto (tgt := 63) hx hb dX11_countsOn_105 (by decide) ?_
          have hP : va_P D vwCl [(nm_, .inr (11, [.ref nknown_, .ref ntelling_, .ref nimages_, .ref nisImage_, .int mthrown_, .ref ntape_, .int mtaped_, .int mlength_, .int mhead_, .int mbegin_, .int mtoken_, .int mvalue_, .int mbad_, .int mbadPlace_, .int mfaultKind_, .int mfaultPlace_, .int mdeep_, .int mlawMany_, .int mlawAt_, .ref nstack_, .ref nasked_, .int mfell_, .int mfellIn_, .ref naside_, .int mstate_, .int mlanded_, .int mwaitFalls_, .int mwaitWeight_, .ref nfallsAfter_, .ref nfalling_, .ref ncomes_, .ref ngoesOn_, .ref nwayRow_, .ref nmany_, .ref nmanyThen_, .int mtoldLet_, .ref ntSort_, .ref ntMany_, .ref nnumbers_])), (nknown_, .inl (cy 0, 2260, .inl (fknown_))), (nmany_, .inl (cy 2, 6, .inr (.inl (vp_updL g206301_ v206300_.toNatClampNeg 0)))), (nmanyThen_, .inl (cy 2, 6, .inr (.inl (g200201_))))] H := hP.sub [2, 3, 0, 1] rfl
          have hD : va_D A [(nm_, .inr (11, [.ref nknown_, .ref ntelling_, .ref nimages_, .ref nisImage_, .int mthrown_, .ref ntape_, .int mtaped_, .int mlength_, .int mhead_, .int mbegin_, .int mtoken_, .int mvalue_, .int mbad_, .int mbadPlace_, .int mfaultKind_, .int mfaultPlace_, .int mdeep_, .int mlawMany_, .int mlawAt_, .ref nstack_, .ref nasked_, .int mfell_, .int mfellIn_, .ref naside_, .int mstate_, .int mlanded_, .int mwaitFalls_, .int mwaitWeight_, .ref nfallsAfter_, .ref nfalling_, .ref ncomes_, .ref ngoesOn_, .ref nwayRow_, .ref nmany_, .ref nmanyThen_, .int mtoldLet_, .ref ntSort_, .ref ntMany_, .ref nnumbers_])), (nknown_, .inl (cy 0, 2260, .inl (fknown_))), (nmany_, .inl (cy 2, 6, .inr (.inl (vp_updL g206301_ v206300_.toNatClampNeg 0)))), (nmanyThen_, .inl (cy 2, 6, .inr (.inl (g200201_))))] := hD.sub [2, 3, 0, 1] (by decide +kernel) rfl
          exact ih63_ (v206300_ + 1, vp_updL g206301_ v206300_.toNatClampNeg 0) _ _ ls ⟨(rg_w g8_ (by decide) (by decide)), (Itr.st hR2_ (Or.inr (Or.inr (Or.inl ⟨v10770_, v30010850_, c66_, k77_2_, k30000085_0_, c30000088_, rfl⟩))))⟩ (show (7 - (v206300_ + 1).toInt).toNat < (7 - v206300_.toInt).toNat from by rw [show (v206300_ + 1).toInt = v206300_.toInt + 1 from inc32 v206300_ (by have hq := (rv206300_).2; omega)]; have hq := ((rl_b (rl_cut g4_ k77_0_))).1; have hq2 := ((rl_b (rl_cut g4_ k77_0_))).2; omega) hP hD hS (lv_sub hl [0, 1, 2] rfl)
        · have g9_ : rg (0) (0) v30010850_ := rg_eq c30000088_ (rg_lit (by decide) : rg (0) (0) (0 : Int32))
          refine lv_aload_n hx hb dX11_countsOn_91 rfl (lv_at hl 1 rfl) ?_
          refine va_get (ci := 11) (v := .ref nmanyThen_) (C := RX11) (T := TX11) (N := 39) hx hb htA in_X11 hown hK hP 2 rfl rfl 34 (by decide) (htA _ wd_1388) (fun _ h => h) rfl dX11_countsOn_92 ?_
          refine lv_iload_n hx hb dX11_countsOn_95 rfl (lv_at hl 0 rfl) ?_
          refine va_lald hx hb hK hP 1 2 rfl rfl (rg_in (rl_b (rl_cut g4_ k77_0_)) (by decide) (by decide)) dX11_countsOn_96 ?_
          refine lv_topl (fun w30010960_ ew30010960_ => ?_)
          refine lv_goto (tgt := 101) hx hb dX11_countsOn_97 (by decide) ?_
          refine va_last hx hb hK hP hD hS 0 2 rfl rfl (rg_in (rl_b (rl_cut g4_ k77_0_)) (by decide) (by decide)) dX11_countsOn_101 (fun H locs hP hD hS => ?_)
          have hP : va_P D vwCl [(nmany_, .inl (cy 2, 6, .inr (.inl (vp_updL g206301_ v206300_.toNatClampNeg w30010960_)))), (nmanyThen_, .inl (cy 2, 6, .inr (.inl (g200201_)))), (nm_, .inr (11, [.ref nknown_, .ref ntelling_, .ref nimages_, .ref nisImage_, .int mthrown_, .ref ntape_, .int mtaped_, .int mlength_, .int mhead_, .int mbegin_, .int mtoken_, .int mvalue_, .int mbad_, .int mbadPlace_, .int mfaultKind_, .int mfaultPlace_, .int mdeep_, .int mlawMany_, .int mlawAt_, .ref nstack_, .ref nasked_, .int mfell_, .int mfellIn_, .ref naside_, .int mstate_, .int mlanded_, .int mwaitFalls_, .int mwaitWeight_, .ref nfallsAfter_, .ref nfalling_, .ref ncomes_, .ref ngoesOn_, .ref nwayRow_, .ref nmany_, .ref nmanyThen_, .int mtoldLet_, .ref ntSort_, .ref ntMany_, .ref nnumbers_])), (nknown_, .inl (cy 0, 2260, .inl (fknown_)))] H := hP
          have hD := va_ca hP hD
          refine lv_iinc (v := v206300_ + 1) (lv' := [(2, .int (v206300_ + 1)), (0, .ref nm_), (1, .int s_)]) hx hb dX11_countsOn_102 hl (k := 0) rfl rfl (by decide) rfl (fun ls hl => ?_)
          have g10_ : rg (1) (6) (v206300_ + 1) := rg_add (rl_b (rl_cut g4_ k77_0_)) (rg_lit (by decide) : rg (1) (1) (1 : Int32)) (by decide) (by decide) (by decide) (by decide)
          refine lv_goto (tgt := 63) hx hb dX11_countsOn_105 (by decide) ?_
          have hP : va_P D vwCl [(nm_, .inr (11, [.ref nknown_, .ref ntelling_, .ref nimages_, .ref nisImage_, .int mthrown_, .ref ntape_, .int mtaped_, .int mlength_, .int mhead_, .int mbegin_, .int mtoken_, .int mvalue_, .int mbad_, .int mbadPlace_, .int mfaultKind_, .int mfaultPlace_, .int mdeep_, .int mlawMany_, .int mlawAt_, .ref nstack_, .ref nasked_, .int mfell_, .int mfellIn_, .ref naside_, .int mstate_, .int mlanded_, .int mwaitFalls_, .int mwaitWeight_, .ref nfallsAfter_, .ref nfalling_, .ref ncomes_, .ref ngoesOn_, .ref nwayRow_, .ref nmany_, .ref nmanyThen_, .int mtoldLet_, .ref ntSort_, .ref ntMany_, .ref nnumbers_])), (nknown_, .inl (cy 0, 2260, .inl (fknown_))), (nmany_, .inl (cy 2, 6, .inr (.inl (vp_updL g206301_ v206300_.toNatClampNeg w30010960_)))), (nmanyThen_, .inl (cy 2, 6, .inr (.inl (g200201_))))] H := hP.sub [2, 3, 0, 1] rfl
          have hD : va_D A [(nm_, .inr (11, [.ref nknown_, .ref ntelling_, .ref nimages_, .ref nisImage_, .int mthrown_, .ref ntape_, .int mtaped_, .int mlength_, .int mhead_, .int mbegin_, .int mtoken_, .int mvalue_, .int mbad_, .int mbadPlace_, .int mfaultKind_, .int mfaultPlace_, .int mdeep_, .int mlawMany_, .int mlawAt_, .ref nstack_, .ref nasked_, .int mfell_, .int mfellIn_, .ref naside_, .int mstate_, .int mlanded_, .int mwaitFalls_, .int mwaitWeight_, .ref nfallsAfter_, .ref nfalling_, .ref ncomes_, .ref ngoesOn_, .ref nwayRow_, .ref nmany_, .ref nmanyThen_, .int mtoldLet_, .ref ntSort_, .ref ntMany_, .ref nnumbers_])), (nknown_, .inl (cy 0, 2260, .inl (fknown_))), (nmany_, .inl (cy 2, 6, .inr (.inl (vp_updL g206301_ v206300_.toNatClampNeg w30010960_)))), (nmanyThen_, .inl (cy 2, 6, .inr (.inl (g200201_))))] := hD.sub [2, 3, 0, 1] (by decide +kernel) rfl
          exact ih63_ (v206300_ + 1, vp_updL g206301_ v206300_.toNatClampNeg w30010960_) _ _ ls ⟨(rg_w g10_ (by decide) (by decide)), (Itr.st hR2_ (Or.inr (Or.inr (Or.inr (Or.inl ⟨v10770_, v30010850_, w30010960_, c66_, k77_2_, k30000085_0_, c30000088_, ew30010960_, rfl⟩)))))⟩ (show (7 - (v206300_ + 1).toInt).toNat < (7 - v206300_.toInt).toNat from by rw [show (v206300_ + 1).toInt = v206300_.toInt + 1 from inc32 v206300_ (by have hq := (rv206300_).2; omega)]; have hq := ((rl_b (rl_cut g4_ k77_0_))).1; have hq2 := ((rl_b (rl_cut g4_ k77_0_))).2; omega) hP hD hS (lv_sub hl [0, 1, 2] rfl)
  · have g11_ : rg (0) (5) v200200_ := rg_lt1 (rg_nle c5_) rv200200_ (rg_lit (by decide) : rg (6) (6) (6 : Int32)) (by decide)
    refine lv_aload_n hx hb dX11_countsOn_8 rfl (lv_at hl 1 rfl) ?_
    refine va_get (ci := 11) (v := .ref nmanyThen_) (C := RX11) (T := TX11) (N := 39) hx hb htA in_X11 hown hK hP 0 rfl rfl 34 (by decide) (htA _ wd_1388) (fun _ h => h) rfl dX11_countsOn_9 ?_
    refine lv_iload_n hx hb dX11_countsOn_12 rfl (lv_at hl 0 rfl) ?_
    refine lv_lconst (v := 0) hx hb dX11_countsOn_13 (by decide) ?_
    refine va_last hx hb hK hP hD hS 3 2 rfl rfl (rg_in g11_ (by decide) (by decide)) dX11_countsOn_14 (fun H locs hP hD hS => ?_)
    have hP : va_P D vwCl [(nm_, .inr (11, [.ref nknown_, .ref ntelling_, .ref nimages_, .ref nisImage_, .int mthrown_, .ref ntape_, .int mtaped_, .int mlength_, .int mhead_, .int mbegin_, .int mtoken_, .int mvalue_, .int mbad_, .int mbadPlace_, .int mfaultKind_, .int mfaultPlace_, .int mdeep_, .int mlawMany_, .int mlawAt_, .ref nstack_, .ref nasked_, .int mfell_, .int mfellIn_, .ref naside_, .int mstate_, .int mlanded_, .int mwaitFalls_, .int mwaitWeight_, .ref nfallsAfter_, .ref nfalling_, .ref ncomes_, .ref ngoesOn_, .ref nwayRow_, .ref nmany_, .ref nmanyThen_, .int mtoldLet_, .ref ntSort_, .ref ntMany_, .ref nnumbers_])), (nknown_, .inl (cy 0, 2260, .inl (fknown_))), (nmany_, .inl (cy 2, 6, .inr (.inl (fmany_)))), (nmanyThen_, .inl (cy 2, 6, .inr (.inl (vp_updL g200201_ v200200_.toNatClampNeg 0))))] H := hP
    have hD := va_ca hP hD
    refine lv_iconst (v := 0) hx hb dX11_countsOn_15 (by decide) ?_
    refine lv_iload_n hx hb dX11_countsOn_16 rfl (lv_at hl 0 rfl) ?_
    refine lv_iconst (v := 1) hx hb dX11_countsOn_17 (by decide) ?_
    refine lv_isub hx hb dX11_countsOn_18 ?_
    have g12_ : rg (-1) (4) (v200200_ - 1) := rg_sub g11_ (rg_lit (by decide) : rg (1) (1) (1 : Int32)) (by decide) (by decide) (by decide) (by decide)
    refine va_mmax hx hb (hml.trans hl.1.symm) hown (htA _ wd_1720) (htA _ wd_426) (htA _ wd_19) (htA _ wd_427) (by decide) (Nat.le_of_ble_eq_true rfl) (by decide) (by decide) dX11_countsOn_19 ?_
    have g13_ : rg (0) (4) (if 0 < (v200200_ - 1) then (v200200_ - 1) else 0) := rg_mx (rg_lit (by decide) : rg (0) (0) (0 : Int32)) g12_ (by decide) (by decide)
    refine lv_istore_n (lv' := [(3, .int (if 0 < (v200200_ - 1) then (v200200_ - 1) else 0)), (2, .int v200200_), (0, .ref nm_), (1, .int s_)]) hx hb dX11_countsOn_22 rfl hl (by decide) rfl (fun ls hl => ?_)
    refine loopT (τ := Int32 × (Nat → Int64)) (WS := fun i => [(nm_, .inr (11, [.ref nknown_, .ref ntelling_, .ref nimages_, .ref nisImage_, .int mthrown_, .ref ntape_, .int mtaped_, .int mlength_, .int mhead_, .int mbegin_, .int mtoken_, .int mvalue_, .int mbad_, .int mbadPlace_, .int mfaultKind_, .int mfaultPlace_, .int mdeep_, .int mlawMany_, .int mlawAt_, .ref nstack_, .ref nasked_, .int mfell_, .int mfellIn_, .ref naside_, .int mstate_, .int mlanded_, .int mwaitFalls_, .int mwaitWeight_, .ref nfallsAfter_, .ref nfalling_, .ref ncomes_, .ref ngoesOn_, .ref nwayRow_, .ref nmany_, .ref nmanyThen_, .int mtoldLet_, .ref ntSort_, .ref ntMany_, .ref nnumbers_])), (nknown_, .inl (cy 0, 2260, .inl (fknown_))), (nmany_, .inl (cy 2, 6, .inr (.inl (fmany_)))), (nmanyThen_, .inl (cy 2, 6, .inr (.inl (i.2))))]) (LV := fun i => [(3, .int i.1), (2, .int v200200_), (0, .ref nm_), (1, .int s_)]) (fun i => (7 - i.1.toInt).toNat) (fun i => rg (0) (6) i.1 ∧ Itr (R_X11_countsOn_b4 v200200_ fmany_) ((if 0 < (v200200_ - 1) then (v200200_ - 1) else 0), vp_updL g200201_ v200200_.toNatClampNeg 0) (i.1, i.2)) ?_ ((if 0 < (v200200_ - 1) then (v200200_ - 1) else 0), vp_updL g200201_ v200200_.toNatClampNeg 0) ⟨(rg_w g13_ (by decide) (by decide)), (Itr.rf _ _)⟩ hP hD hS (lv_sub hl [0, 1, 2, 3] rfl)
    intro i_ H locs ls hI ih23_ hP hD hS hl
    obtain ⟨v202300_, g202301_⟩ := i_
    have hI : rg (0) (6) v202300_ ∧ Itr (R_X11_countsOn_b4 v200200_ fmany_) ((if 0 < (v200200_ - 1) then (v200200_ - 1) else 0), vp_updL g200201_ v200200_.toNatClampNeg 0) (v202300_, g202301_) := hI
    obtain ⟨rv202300_, hR4_⟩ := hI
    have hP : va_P D vwCl [(nm_, .inr (11, [.ref nknown_, .ref ntelling_, .ref nimages_, .ref nisImage_, .int mthrown_, .ref ntape_, .int mtaped_, .int mlength_, .int mhead_, .int mbegin_, .int mtoken_, .int mvalue_, .int mbad_, .int mbadPlace_, .int mfaultKind_, .int mfaultPlace_, .int mdeep_, .int mlawMany_, .int mlawAt_, .ref nstack_, .ref nasked_, .int mfell_, .int mfellIn_, .ref naside_, .int mstate_, .int mlanded_, .int mwaitFalls_, .int mwaitWeight_, .ref nfallsAfter_, .ref nfalling_, .ref ncomes_, .ref ngoesOn_, .ref nwayRow_, .ref nmany_, .ref nmanyThen_, .int mtoldLet_, .ref ntSort_, .ref ntMany_, .ref nnumbers_])), (nknown_, .inl (cy 0, 2260, .inl (fknown_))), (nmany_, .inl (cy 2, 6, .inr (.inl (fmany_)))), (nmanyThen_, .inl (cy 2, 6, .inr (.inl (g202301_))))] H := hP
    have hD := va_ca hP hD
    have hl : lv_has ls 4 [(3, .int v202300_), (2, .int v200200_), (0, .ref nm_), (1, .int s_)] := hl
    refine lv_iload_n hx hb dX11_countsOn_23 rfl (lv_at hl 0 rfl) ?_
    refine lv_iconst (v := 5) hx hb dX11_countsOn_24 (by decide) ?_
    refine lv_iload_n hx hb dX11_countsOn_25 rfl (lv_at hl 1 rfl) ?_
    refine lv_iconst (v := 1) hx hb dX11_countsOn_26 (by decide) ?_
    refine lv_iadd hx hb dX11_countsOn_27 ?_
    have g14_ : rg (1) (6) (v200200_ + 1) := rg_add g11_ (rg_lit (by decide) : rg (1) (1) (1 : Int32)) (by decide) (by decide) (by decide) (by decide)
    refine va_mmin hx hb (hml.trans hl.1.symm) hown (htA _ wd_1719) (htA _ wd_422) (htA _ wd_19) (htA _ wd_423) (by decide) (Nat.le_of_ble_eq_true rfl) (by decide) (by decide) dX11_countsOn_28 ?_
    have g15_ : rg (1) (5) (if (v200200_ + 1) < 5 then (v200200_ + 1) else 5) := rg_mn (rg_lit (by decide) : rg (5) (5) (5 : Int32)) g14_ (by decide) (by decide)
    refine lv_icmp_gt (tgt := 55) hx hb dX11_countsOn_31 (by decide) (fun c31_ => ?_) (fun c31_ => ?_)
    · have g16_ : rg (2) (6) v202300_ := rg_lt2 c31_ g15_ rv202300_ (by decide)
      refine lv_iinc (v := v200200_ + 1) (lv' := [(2, .int (v200200_ + 1)), (3, .int v202300_), (0, .ref nm_), (1, .int s_)]) hx hb dX11_countsOn_55 hl (k := 1) rfl rfl (by decide) rfl (fun ls hl => ?_)
      refine lv_goto (tgt := 2) hx hb dX11_countsOn_58 (by decide) ?_
      exact ih2_ (v200200_ + 1, g202301_) _ _ ls ⟨(rg_w g14_ (by decide) (by decide)), (Itr.st hR1_ (Or.inl ⟨v202300_, g202301_, c5_, hR4_, c31_, rfl⟩))⟩ (show (7 - (v200200_ + 1).toInt).toNat < (7 - v200200_.toInt).toNat from by rw [show (v200200_ + 1).toInt = v200200_.toInt + 1 from inc32 v200200_ (by have hq := (rv200200_).2; omega)]; have hq := (g11_).1; have hq2 := (g11_).2; omega) hP hD hS (lv_sub hl [0, 2, 3] rfl)
    · have g17_ : rg (0) (5) v202300_ := rg_le1 (rg_nlt c31_) rv202300_ g15_ (by decide)
      refine lv_aload_n hx hb dX11_countsOn_34 rfl (lv_at hl 2 rfl) ?_
      refine va_get (ci := 11) (v := .ref nmanyThen_) (C := RX11) (T := TX11) (N := 39) hx hb htA in_X11 hown hK hP 0 rfl rfl 34 (by decide) (htA _ wd_1388) (fun _ h => h) rfl dX11_countsOn_35 ?_
      refine lv_iload_n hx hb dX11_countsOn_38 rfl (lv_at hl 1 rfl) ?_
      refine lv_dup2_11 hx hb dX11_countsOn_39 rfl rfl ?_
      refine va_lald hx hb hK hP 3 2 rfl rfl (rg_in g11_ (by decide) (by decide)) dX11_countsOn_40 ?_
      refine lv_topl (fun w10400_ ew10400_ => ?_)
      refine lv_aload_n hx hb dX11_countsOn_41 rfl (lv_at hl 2 rfl) ?_
      refine va_get (ci := 11) (v := .ref nmany_) (C := RX11) (T := TX11) (N := 39) hx hb htA in_X11 hown hK hP 0 rfl rfl 33 (by decide) (htA _ wd_1387) (fun _ h => h) rfl dX11_countsOn_42 ?_
      refine lv_iload_n hx hb dX11_countsOn_45 rfl (lv_at hl 0 rfl) ?_
      refine va_lald hx hb hK hP 2 2 rfl rfl (rg_in g17_ (by decide) (by decide)) dX11_countsOn_46 ?_
      refine lv_topl (fun w10460_ ew10460_ => ?_)
      refine lv_ladd hx hb dX11_countsOn_47 ?_
      refine va_last hx hb hK hP hD hS 3 2 rfl rfl (rg_in g11_ (by decide) (by decide)) dX11_countsOn_48 (fun H locs hP hD hS => ?_)
      have hP : va_P D vwCl [(nm_, .inr (11, [.ref nknown_, .ref ntelling_, .ref nimages_, .ref nisImage_, .int mthrown_, .ref ntape_, .int mtaped_, .int mlength_, .int mhead_, .int mbegin_, .int mtoken_, .int mvalue_, .int mbad_, .int mbadPlace_, .int mfaultKind_, .int mfaultPlace_, .int mdeep_, .int mlawMany_, .int mlawAt_, .ref nstack_, .ref nasked_, .int mfell_, .int mfellIn_, .ref naside_, .int mstate_, .int mlanded_, .int mwaitFalls_, .int mwaitWeight_, .ref nfallsAfter_, .ref nfalling_, .ref ncomes_, .ref ngoesOn_, .ref nwayRow_, .ref nmany_, .ref nmanyThen_, .int mtoldLet_, .ref ntSort_, .ref ntMany_, .ref nnumbers_])), (nknown_, .inl (cy 0, 2260, .inl (fknown_))), (nmany_, .inl (cy 2, 6, .inr (.inl (fmany_)))), (nmanyThen_, .inl (cy 2, 6, .inr (.inl (vp_updL g202301_ v200200_.toNatClampNeg (w10400_ + w10460_)))))] H := hP
      have hD := va_ca hP hD
      refine lv_iinc (v := v202300_ + 1) (lv' := [(3, .int (v202300_ + 1)), (2, .int v200200_), (0, .ref nm_), (1, .int s_)]) hx hb dX11_countsOn_49 hl (k := 0) rfl rfl (by decide) rfl (fun ls hl => ?_)
      have g18_ : rg (1) (6) (v202300_ + 1) := rg_add g17_ (rg_lit (by decide) : rg (1) (1) (1 : Int32)) (by decide) (by decide) (by decide) (by decide)
      refine lv_goto (tgt := 23) hx hb dX11_countsOn_52 (by decide) ?_
      exact ih23_ (v202300_ + 1, vp_updL g202301_ v200200_.toNatClampNeg (w10400_ + w10460_)) _ _ ls ⟨(rg_w g18_ (by decide) (by decide)), (Itr.st hR4_ (Or.inl ⟨w10400_, w10460_, c31_, ew10400_, ew10460_, rfl⟩))⟩ (show (7 - (v202300_ + 1).toInt).toNat < (7 - v202300_.toInt).toNat from by rw [show (v202300_ + 1).toInt = v202300_.toInt + 1 from inc32 v202300_ (by have hq := (rv202300_).2; omega)]; have hq := (g17_).1; have hq2 := (g17_).2; omega) hP hD hS (lv_sub hl [0, 1, 2, 3] rfl)
def R_X11_see_w_e1 (mlength_ : Int32) (k_ : Int32) (r : Int32) : Prop := (mlength_ ≤ k_ ∧ r = (0 : Int32)) ∨ False
def R_X11_see_w_e2 (mlength_ : Int32) (k_ : Int32) (ftape_ : Nat → Int32) (r : Int32) : Prop := (∃ (v20010130_ : Int32), ¬ (mlength_ ≤ k_) ∧ v20010130_ = ftape_ k_.toNatClampNeg ∧ r = v20010130_) ∨ False
set_option maxHeartbeats 4000000 in
set_option maxRecDepth 100000 in
theorem sf_X11_see_w (l : Launch) (D : va_G) (cy : Nat → ClassId) (nm_ : Nat) (nknown_ : Nat) (ntelling_ : Nat) (nimages_ : Nat) (nisImage_ : Nat) (mthrown_ : Int32) (ntape_ : Nat) (mtaped_ : Int32) (mlength_ : Int32) (mhead_ : Int32) (mbegin_ : Int32) (mtoken_ : Int32) (mvalue_ : Int32) (mbad_ : Int32) (mbadPlace_ : Int32) (mfaultKind_ : Int32) (mfaultPlace_ : Int32) (mdeep_ : Int32) (mlawMany_ : Int32) (mlawAt_ : Int32) (nstack_ : Nat) (nasked_ : Nat) (mfell_ : Int32) (mfellIn_ : Int32) (naside_ : Nat) (mstate_ : Int32) (mlanded_ : Int32) (mwaitFalls_ : Int32) (mwaitWeight_ : Int32) (nfallsAfter_ : Nat) (nfalling_ : Nat) (ncomes_ : Nat) (ngoesOn_ : Nat) (nwayRow_ : Nat) (nmany_ : Nat) (nmanyThen_ : Nat) (mtoldLet_ : Int32) (ntSort_ : Nat) (ntMany_ : Nat) (nnumbers_ : Nat) (ftape_ : Nat → Int32) (k_ : Int32) (rmtaped_ : rg (0) (900) mtaped_) (rmlength_ : rg (0) (900) mlength_) (rmhead_ : rg (0) (900) mhead_) (rmbegin_ : rg (0) (900) mbegin_) (rk_ : rg (0) (900) k_) : Ci l yX11_see cX11_see 2 (some .int) { frames := 0, cells := 0, slots := 0, locals := 0 } D cy [.ref nm_, .int k_] [(nm_, .inr (11, [.ref nknown_, .ref ntelling_, .ref nimages_, .ref nisImage_, .int mthrown_, .ref ntape_, .int mtaped_, .int mlength_, .int mhead_, .int mbegin_, .int mtoken_, .int mvalue_, .int mbad_, .int mbadPlace_, .int mfaultKind_, .int mfaultPlace_, .int mdeep_, .int mlawMany_, .int mlawAt_, .ref nstack_, .ref nasked_, .int mfell_, .int mfellIn_, .ref naside_, .int mstate_, .int mlanded_, .int mwaitFalls_, .int mwaitWeight_, .ref nfallsAfter_, .ref nfalling_, .ref ncomes_, .ref ngoesOn_, .ref nwayRow_, .ref nmany_, .ref nmanyThen_, .int mtoldLet_, .ref ntSort_, .ref ntMany_, .ref nnumbers_])), (ntape_, .inl (cy 0, 900, .inl (ftape_)))] (fun r W1 => (R_X11_see_w_e1 mlength_ k_ r ∧ W1 = [(nm_, .inr (11, [.ref nknown_, .ref ntelling_, .ref nimages_, .ref nisImage_, .int mthrown_, .ref ntape_, .int mtaped_, .int mlength_, .int mhead_, .int mbegin_, .int mtoken_, .int mvalue_, .int mbad_, .int mbadPlace_, .int mfaultKind_, .int mfaultPlace_, .int mdeep_, .int mlawMany_, .int mlawAt_, .ref nstack_, .ref nasked_, .int mfell_, .int mfellIn_, .ref naside_, .int mstate_, .int mlanded_, .int mwaitFalls_, .int mwaitWeight_, .ref nfallsAfter_, .ref nfalling_, .ref ncomes_, .ref ngoesOn_, .ref nwayRow_, .ref nmany_, .ref nmanyThen_, .int mtoldLet_, .ref ntSort_, .ref ntMany_, .ref nnumbers_])), (ntape_, .inl (cy 0, 900, .inl (ftape_)))] ∧ rg (0) (0) r) ∨ (rg (0) (899) k_ ∧ rg (1) (900) mlength_ ∧ R_X11_see_w_e2 mlength_ k_ ftape_ r ∧ W1 = [(nm_, .inr (11, [.ref nknown_, .ref ntelling_, .ref nimages_, .ref nisImage_, .int mthrown_, .ref ntape_, .int mtaped_, .int mlength_, .int mhead_, .int mbegin_, .int mtoken_, .int mvalue_, .int mbad_, .int mbadPlace_, .int mfaultKind_, .int mfaultPlace_, .int mdeep_, .int mlawMany_, .int mlawAt_, .ref nstack_, .ref nasked_, .int mfell_, .int mfellIn_, .ref naside_, .int mstate_, .int mlanded_, .int mwaitFalls_, .int mwaitWeight_, .ref nfallsAfter_, .ref nfalling_, .ref ncomes_, .ref ngoesOn_, .ref nwayRow_, .ref nmany_, .ref nmanyThen_, .int mtoldLet_, .ref ntSort_, .ref ntMany_, .ref nnumbers_])), (ntape_, .inl (cy 0, 900, .inl (ftape_)))])) := by
  refine Ci.of (by decide) (Nat.le_of_ble_eq_true rfl) ?_
  intro p e s m below meth c A ls hX hE hP hD hl
  obtain ⟨hx, hb, hr, hml, hown, htA, hlk⟩ := id hX
  have hK := hE.1
  have hS : va_S A s.heap s.heap [] := va_S.rf
  have hl : lv_has ls 2 [(0, .ref nm_), (1, .int k_)] := hl
  refine lv_iload_n hx hb dX11_see_0 rfl (lv_at hl 1 rfl) ?_
  refine lv_aload_n hx hb dX11_see_1 rfl (lv_at hl 0 rfl) ?_
  refine va_get (ci := 11) (v := .int mlength_) (C := RX11) (T := TX11) (N := 39) hx hb htA in_X11 hown hK hP 0 rfl rfl 7 (by decide) (htA _ wd_1361) (fun _ h => h) rfl dX11_see_2 ?_
  refine lv_icmp_ge (tgt := 17) hx hb dX11_see_5 (by decide) (fun c5_ => ?_) (fun c5_ => ?_)
  · refine lv_iconst (v := 0) hx hb dX11_see_17 (by decide) ?_
    exact rI hX hE hP hD hS dX11_see_18 (by decide) (by decide) (Or.inl (⟨(Or.inl ⟨c5_, rfl⟩), rfl, (rg_w (rg_lit (by decide) : rg (0) (0) (0 : Int32)) (by decide) (by decide))⟩))
  · have g1_ : rg (0) (899) k_ := rg_lt1 (rg_nle c5_) rk_ rmlength_ (by decide)
    have g2_ : rg (1) (900) mlength_ := rg_lt2 (rg_nle c5_) rk_ rmlength_ (by decide)
    refine lv_aload_n hx hb dX11_see_8 rfl (lv_at hl 0 rfl) ?_
    refine va_get (ci := 11) (v := .ref ntape_) (C := RX11) (T := TX11) (N := 39) hx hb htA in_X11 hown hK hP 0 rfl rfl 5 (by decide) (htA _ wd_1359) (fun _ h => h) rfl dX11_see_9 ?_
    refine lv_iload_n hx hb dX11_see_12 rfl (lv_at hl 1 rfl) ?_
    refine va_iald hx hb hK hP 1 0 rfl rfl (rg_in g1_ (by decide) (by decide)) dX11_see_13 ?_
    refine lv_topi (fun v20010130_ ev20010130_ => ?_)
    refine lv_goto (tgt := 18) hx hb dX11_see_14 (by decide) ?_
    exact rI hX hE hP hD hS dX11_see_18 (by decide) (by decide) (Or.inr (⟨(rg_w g1_ (by decide) (by decide)), (rg_w g2_ (by decide) (by decide)), (Or.inl ⟨v20010130_, c5_, ev20010130_, rfl⟩), rfl⟩))
def R_X11_isLetter_z_e (c_ : Int32) (r : Int32) : Prop := (c_ < (97 : Int32) ∧ r = (0 : Int32)) ∨ False
set_option maxHeartbeats 4000000 in
set_option maxRecDepth 100000 in
theorem sf_X11_isLetter_z (l : Launch) (D : va_G) (cy : Nat → ClassId) (c_ : Int32) (rc_ : rg (0) (0) c_) : Ci l yX11_isLetter cX11_isLetter 1 (some .boolean) { frames := 0, cells := 0, slots := 0, locals := 0 } D cy [.int c_] [] (fun r W1 => R_X11_isLetter_z_e c_ r ∧ W1 = [] ∧ rg (0) (0) r) := by
  refine Ci.of (by decide) (Nat.le_of_ble_eq_true rfl) ?_
  intro p e s m below meth c A ls hX hE hP hD hl
  obtain ⟨hx, hb, hr, hml, hown, htA, hlk⟩ := id hX
  have hK := hE.1
  have hS : va_S A s.heap s.heap [] := va_S.rf
  have hl : lv_has ls 1 [(0, .int c_)] := hl
  refine lv_iload_n hx hb dX11_isLetter_0 rfl (lv_at hl 0 rfl) ?_
  refine lv_bipush (v := 97) hx hb dX11_isLetter_1 (by decide) ?_
  refine lv_icmp_lt (tgt := 16) hx hb dX11_isLetter_3 (by decide) (fun c3_ => ?_) (fun c3_ => rg_no (rg_le1 (rg_nlt c3_) (rg_lit (by decide) : rg (97) (97) (97 : Int32)) rc_ (Int.le_refl _)) (by decide))
  refine lv_iconst (v := 0) hx hb dX11_isLetter_16 (by decide) ?_
  exact rZ hX (by decide) hE hP hD hS dX11_isLetter_17 (by decide) (by decide) ⟨(Or.inl ⟨c3_, rfl⟩), rfl, (rg_w (rg_lit (by decide) : rg (0) (0) (0 : Int32)) (by decide) (by decide))⟩
def R_X11_isDigit_z_e (c_ : Int32) (r : Int32) : Prop := (c_ < (48 : Int32) ∧ r = (0 : Int32)) ∨ False
set_option maxHeartbeats 4000000 in
set_option maxRecDepth 100000 in
theorem sf_X11_isDigit_z (l : Launch) (D : va_G) (cy : Nat → ClassId) (c_ : Int32) (rc_ : rg (0) (0) c_) : Ci l yX11_isDigit cX11_isDigit 1 (some .boolean) { frames := 0, cells := 0, slots := 0, locals := 0 } D cy [.int c_] [] (fun r W1 => R_X11_isDigit_z_e c_ r ∧ W1 = [] ∧ rg (0) (0) r) := by
  refine Ci.of (by decide) (Nat.le_of_ble_eq_true rfl) ?_
  intro p e s m below meth c A ls hX hE hP hD hl
  obtain ⟨hx, hb, hr, hml, hown, htA, hlk⟩ := id hX
  have hK := hE.1
  have hS : va_S A s.heap s.heap [] := va_S.rf
  have hl : lv_has ls 1 [(0, .int c_)] := hl
  refine lv_iload_n hx hb dX11_isDigit_0 rfl (lv_at hl 0 rfl) ?_
  refine lv_bipush (v := 48) hx hb dX11_isDigit_1 (by decide) ?_
  refine lv_icmp_lt (tgt := 16) hx hb dX11_isDigit_3 (by decide) (fun c3_ => ?_) (fun c3_ => rg_no (rg_le1 (rg_nlt c3_) (rg_lit (by decide) : rg (48) (48) (48 : Int32)) rc_ (Int.le_refl _)) (by decide))
  refine lv_iconst (v := 0) hx hb dX11_isDigit_16 (by decide) ?_
  exact rZ hX (by decide) hE hP hD hS dX11_isDigit_17 (by decide) (by decide) ⟨(Or.inl ⟨c3_, rfl⟩), rfl, (rg_w (rg_lit (by decide) : rg (0) (0) (0 : Int32)) (by decide) (by decide))⟩
