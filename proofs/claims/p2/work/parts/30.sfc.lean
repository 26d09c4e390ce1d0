theorem sw_0_2 (x : Int32) : x = 0 ∨ x = 1 ∨ x = 2 ∨ (x.toInt < 0 ∨ 2 < x.toInt) := by
  by_cases h : 0 ≤ x.toInt ∧ x.toInt ≤ 2
  · obtain ⟨j, hj, hx⟩ := vp_in_of (vp_in_iff.mpr ⟨by omega, by omega⟩ : vp_in x 3) (by decide)
    subst hx
    have h2 : (nI j).toInt = j := nI_toInt (by omega)
    rw [h2] at h
    obtain ⟨i, rfl⟩ : ∃ i : Nat, j = 0 + i := ⟨j - 0, by omega⟩
    have hi : i < 3 := by omega
    clear h h2 hj
    match i, hi with
    | 0, _ => exact (Or.inl (by decide))
    | 1, _ => exact Or.inr ((Or.inl (by decide)))
    | 2, _ => exact Or.inr (Or.inr ((Or.inl (by decide))))
    | k + 3, hk => exact absurd hk (by omega)
  · exact Or.inr (Or.inr (Or.inr ((by omega))))
theorem sw_0_5 (x : Int32) : x = 0 ∨ x = 1 ∨ x = 2 ∨ x = 3 ∨ x = 4 ∨ x = 5 ∨ (x.toInt < 0 ∨ 5 < x.toInt) := by
  by_cases h : 0 ≤ x.toInt ∧ x.toInt ≤ 5
  · obtain ⟨j, hj, hx⟩ := vp_in_of (vp_in_iff.mpr ⟨by omega, by omega⟩ : vp_in x 6) (by decide)
    subst hx
    have h2 : (nI j).toInt = j := nI_toInt (by omega)
    rw [h2] at h
    obtain ⟨i, rfl⟩ : ∃ i : Nat, j = 0 + i := ⟨j - 0, by omega⟩
    have hi : i < 6 := by omega
    clear h h2 hj
    match i, hi with
    | 0, _ => exact (Or.inl (by decide))
    | 1, _ => exact Or.inr ((Or.inl (by decide)))
    | 2, _ => exact Or.inr (Or.inr ((Or.inl (by decide))))
    | 3, _ => exact Or.inr (Or.inr (Or.inr ((Or.inl (by decide)))))
    | 4, _ => exact Or.inr (Or.inr (Or.inr (Or.inr ((Or.inl (by decide))))))
    | 5, _ => exact Or.inr (Or.inr (Or.inr (Or.inr (Or.inr ((Or.inl (by decide)))))))
    | k + 6, hk => exact absurd hk (by omega)
  · exact Or.inr (Or.inr (Or.inr (Or.inr (Or.inr (Or.inr ((by omega)))))))
theorem sw_2001_2007 (x : Int32) : x = 2001 ∨ x = 2002 ∨ x = 2003 ∨ x = 2004 ∨ x = 2005 ∨ x = 2006 ∨ x = 2007 ∨ (x.toInt < 2001 ∨ 2007 < x.toInt) := by
  by_cases h : 2001 ≤ x.toInt ∧ x.toInt ≤ 2007
  · obtain ⟨j, hj, hx⟩ := vp_in_of (vp_in_iff.mpr ⟨by omega, by omega⟩ : vp_in x 2008) (by decide)
    subst hx
    have h2 : (nI j).toInt = j := nI_toInt (by omega)
    rw [h2] at h
    obtain ⟨i, rfl⟩ : ∃ i : Nat, j = 2001 + i := ⟨j - 2001, by omega⟩
    have hi : i < 7 := by omega
    clear h h2 hj
    match i, hi with
    | 0, _ => exact (Or.inl (by decide))
    | 1, _ => exact Or.inr ((Or.inl (by decide)))
    | 2, _ => exact Or.inr (Or.inr ((Or.inl (by decide))))
    | 3, _ => exact Or.inr (Or.inr (Or.inr ((Or.inl (by decide)))))
    | 4, _ => exact Or.inr (Or.inr (Or.inr (Or.inr ((Or.inl (by decide))))))
    | 5, _ => exact Or.inr (Or.inr (Or.inr (Or.inr (Or.inr ((Or.inl (by decide)))))))
    | 6, _ => exact Or.inr (Or.inr (Or.inr (Or.inr (Or.inr (Or.inr ((Or.inl (by decide))))))))
    | k + 7, hk => exact absurd hk (by omega)
  · exact Or.inr (Or.inr (Or.inr (Or.inr (Or.inr (Or.inr (Or.inr ((by omega))))))))
def R_J9_floorMod_7cf53_8_j1 (x_ : Int32) (y_ : Int32) : Prop := ((0 : Int32) ≤ (x_ ^^^ y_)) ∨ (¬ ((0 : Int32) ≤ (x_ ^^^ y_)) ∧ (x_ - x_ / y_ * y_) = (0 : Int32)) ∨ False
def R_J9_floorMod_7cf53_8_e (x_ : Int32) (y_ : Int32) (r : Int32) : Prop := (R_J9_floorMod_7cf53_8_j1 x_ y_ ∧ r = x_ - x_ / y_ * y_) ∨ (¬ ((0 : Int32) ≤ (x_ ^^^ y_)) ∧ ¬ ((x_ - x_ / y_ * y_) = (0 : Int32)) ∧ r = (x_ - x_ / y_ * y_) + y_) ∨ False
set_option maxHeartbeats 4000000 in
set_option maxRecDepth 100000 in
theorem sf_J9_floorMod_7cf53_8 (l : Launch) (D : va_G) (cy : Nat → ClassId) (x_ : Int32) (y_ : Int32) (ry_ : rg (1) (8) y_) : Ci l yJ9_floorMod_7cf53 cJ9_floorMod_7cf53 3 (some .int) { frames := 0, cells := 0, slots := 0, locals := 0 } D cy [.int x_, .int y_] [] (fun r W1 => R_J9_floorMod_7cf53_8_e x_ y_ r ∧ W1 = [] ∧ rg (0) (7) r) := by
  refine Ci.ofF (by decide +kernel) (Nat.le_of_ble_eq_true rfl) ?_
  intro p e s m below meth c A ls hX hE hP hD hl
  obtain ⟨hx, hb, hr, hml, hown, htA, hlk⟩ := id hX
  have hK := hE.1
  have hS : va_S A s.heap s.heap [] := va_S.rf
  have hl : lv_has ls 3 [(0, .int x_), (1, .int y_)] := hl
  refine lv_iload_n hx hb dJ9_floorMod_7cf53_0 rfl (lv_at hl 0 rfl) ?_
  refine lv_iload_n hx hb dJ9_floorMod_7cf53_1 rfl (lv_at hl 1 rfl) ?_
  refine lv_irem hx hb dJ9_floorMod_7cf53_2 (rg_nz ry_ (by decide)) ?_
  have g1_ : rg (-7) (7) (x_ - x_ / y_ * y_) := rg_remy ry_ (by decide) (by decide) (by decide)
  refine lv_istore_n (lv' := [(2, .int (x_ - x_ / y_ * y_)), (0, .int x_), (1, .int y_)]) hx hb dJ9_floorMod_7cf53_3 rfl hl (by decide) rfl (fun ls hl => ?_)
  refine lv_iload_n hx hb dJ9_floorMod_7cf53_4 rfl (lv_at hl 1 rfl) ?_
  refine lv_iload_n hx hb dJ9_floorMod_7cf53_5 rfl (lv_at hl 2 rfl) ?_
  refine lv_ixor hx hb dJ9_floorMod_7cf53_6 ?_
  refine joinT (D := D) (A := A) (pc := 18) (mL := 3) (τ := Unit) (WS := fun i => []) (LV := fun i => [(2, .int (x_ - x_ / y_ * y_)), (0, .int x_), (1, .int y_)]) (ST := fun i => []) (cells := 0) (slots := 0) (fun i => rg (0) (7) (x_ - x_ / y_ * y_) ∧ R_J9_floorMod_7cf53_8_j1 x_ y_) (fun u0_ H locs ls hI hP hD hS hl => ?_) (fun j18_ => ?_)
  · have hI : rg (0) (7) (x_ - x_ / y_ * y_) ∧ R_J9_floorMod_7cf53_8_j1 x_ y_ := hI
    obtain ⟨q18_l_2_, hR1_⟩ := hI
    have hP : va_P D vwCl [] H := hP
    have hD := va_ca hP hD
    have hl : lv_has ls 3 [(2, .int (x_ - x_ / y_ * y_)), (0, .int x_), (1, .int y_)] := hl
    refine lv_iload_n hx hb dJ9_floorMod_7cf53_18 rfl (lv_at hl 0 rfl) ?_
    exact rI hX hE hP hD hS dJ9_floorMod_7cf53_19 (by decide) (by decide) ⟨(Or.inl ⟨hR1_, rfl⟩), rfl, (rg_w q18_l_2_ (by decide) (by decide))⟩
  refine lv_if_ge (tgt := 18) hx hb dJ9_floorMod_7cf53_7 (by decide) (fun c7_ => ?_) (fun c7_ => ?_)
  · have g2_ : rg (0) (2147483647) x_ := rg_xor c7_ (rg_any _) ry_ (by decide)
    have g3_ : rg (0) (7) (x_ - x_ / y_ * y_) := rg_remp g2_ ry_ (by decide) (by decide) (by decide)
    have g4_ : rg (0) (2147483647) (x_ ^^^ y_) := rg_le2 c7_ (rg_lit (by decide) : rg (0) (0) (0 : Int32)) (rg_any _) (by decide)
    exact j18_ () _ _ ls ⟨(rg_w g3_ (by decide) (by decide)), (Or.inl c7_)⟩ hP hD hS (lv_sub hl [0, 1, 2] rfl)
  · have g5_ : rg (-2147483648) (-1) x_ := rg_xor2 (rg_nle c7_) (rg_any _) ry_ (by decide)
    have g6_ : rg (-7) (0) (x_ - x_ / y_ * y_) := rg_remn g5_ ry_ (by decide) (by decide) (by decide)
    have g7_ : rg (-2147483648) (-1) (x_ ^^^ y_) := rg_lt1 (rg_nle c7_) (rg_any _) (rg_lit (by decide) : rg (0) (0) (0 : Int32)) (by decide)
    refine lv_iload_n hx hb dJ9_floorMod_7cf53_10 rfl (lv_at hl 0 rfl) ?_
    refine lv_if_eq (tgt := 18) hx hb dJ9_floorMod_7cf53_11 (by decide) (fun c11_ => ?_) (fun c11_ => ?_)
    · have g8_ : rg (0) (0) (x_ - x_ / y_ * y_) := rg_eq c11_ (rg_lit (by decide) : rg (0) (0) (0 : Int32))
      exact j18_ () _ _ ls ⟨(rg_w g8_ (by decide) (by decide)), (Or.inr (Or.inl ⟨c7_, c11_⟩))⟩ hP hD hS (lv_sub hl [0, 1, 2] rfl)
    · have g9_ : rg (-7) (-1) (x_ - x_ / y_ * y_) := rg_ne2 c11_ g6_ (by decide) (by decide)
      refine lv_iload_n hx hb dJ9_floorMod_7cf53_14 rfl (lv_at hl 0 rfl) ?_
      refine lv_iload_n hx hb dJ9_floorMod_7cf53_15 rfl (lv_at hl 2 rfl) ?_
      refine lv_iadd hx hb dJ9_floorMod_7cf53_16 ?_
      have g10_ : rg (0) (7) ((x_ - x_ / y_ * y_) + y_) := rg_fm g9_ ry_ (by decide) (by decide)
      exact rI hX hE hP hD hS dJ9_floorMod_7cf53_17 (by decide) (by decide) ⟨(Or.inr (Or.inl ⟨c7_, c11_, rfl⟩)), rfl, (rg_w g10_ (by decide) (by decide))⟩
def R_J9_floorMod_7cf53_24_j1 (x_ : Int32) (y_ : Int32) : Prop := ((0 : Int32) ≤ (x_ ^^^ y_)) ∨ (¬ ((0 : Int32) ≤ (x_ ^^^ y_)) ∧ (x_ - x_ / y_ * y_) = (0 : Int32)) ∨ False
def R_J9_floorMod_7cf53_24_e (x_ : Int32) (y_ : Int32) (r : Int32) : Prop := (R_J9_floorMod_7cf53_24_j1 x_ y_ ∧ r = x_ - x_ / y_ * y_) ∨ (¬ ((0 : Int32) ≤ (x_ ^^^ y_)) ∧ ¬ ((x_ - x_ / y_ * y_) = (0 : Int32)) ∧ r = (x_ - x_ / y_ * y_) + y_) ∨ False
set_option maxHeartbeats 4000000 in
set_option maxRecDepth 100000 in
theorem sf_J9_floorMod_7cf53_24 (l : Launch) (D : va_G) (cy : Nat → ClassId) (x_ : Int32) (y_ : Int32) (ry_ : rg (1) (24) y_) : Ci l yJ9_floorMod_7cf53 cJ9_floorMod_7cf53 3 (some .int) { frames := 0, cells := 0, slots := 0, locals := 0 } D cy [.int x_, .int y_] [] (fun r W1 => R_J9_floorMod_7cf53_24_e x_ y_ r ∧ W1 = [] ∧ rg (0) (23) r) := by
  refine Ci.ofF (by decide +kernel) (Nat.le_of_ble_eq_true rfl) ?_
  intro p e s m below meth c A ls hX hE hP hD hl
  obtain ⟨hx, hb, hr, hml, hown, htA, hlk⟩ := id hX
  have hK := hE.1
  have hS : va_S A s.heap s.heap [] := va_S.rf
  have hl : lv_has ls 3 [(0, .int x_), (1, .int y_)] := hl
  refine lv_iload_n hx hb dJ9_floorMod_7cf53_0 rfl (lv_at hl 0 rfl) ?_
  refine lv_iload_n hx hb dJ9_floorMod_7cf53_1 rfl (lv_at hl 1 rfl) ?_
  refine lv_irem hx hb dJ9_floorMod_7cf53_2 (rg_nz ry_ (by decide)) ?_
  have g1_ : rg (-23) (23) (x_ - x_ / y_ * y_) := rg_remy ry_ (by decide) (by decide) (by decide)
  refine lv_istore_n (lv' := [(2, .int (x_ - x_ / y_ * y_)), (0, .int x_), (1, .int y_)]) hx hb dJ9_floorMod_7cf53_3 rfl hl (by decide) rfl (fun ls hl => ?_)
  refine lv_iload_n hx hb dJ9_floorMod_7cf53_4 rfl (lv_at hl 1 rfl) ?_
  refine lv_iload_n hx hb dJ9_floorMod_7cf53_5 rfl (lv_at hl 2 rfl) ?_
  refine lv_ixor hx hb dJ9_floorMod_7cf53_6 ?_
  refine joinT (D := D) (A := A) (pc := 18) (mL := 3) (τ := Unit) (WS := fun i => []) (LV := fun i => [(2, .int (x_ - x_ / y_ * y_)), (0, .int x_), (1, .int y_)]) (ST := fun i => []) (cells := 0) (slots := 0) (fun i => rg (0) (23) (x_ - x_ / y_ * y_) ∧ R_J9_floorMod_7cf53_24_j1 x_ y_) (fun u0_ H locs ls hI hP hD hS hl => ?_) (fun j18_ => ?_)
  · have hI : rg (0) (23) (x_ - x_ / y_ * y_) ∧ R_J9_floorMod_7cf53_24_j1 x_ y_ := hI
    obtain ⟨q18_l_2_, hR1_⟩ := hI
    have hP : va_P D vwCl [] H := hP
    have hD := va_ca hP hD
    have hl : lv_has ls 3 [(2, .int (x_ - x_ / y_ * y_)), (0, .int x_), (1, .int y_)] := hl
    refine lv_iload_n hx hb dJ9_floorMod_7cf53_18 rfl (lv_at hl 0 rfl) ?_
    exact rI hX hE hP hD hS dJ9_floorMod_7cf53_19 (by decide) (by decide) ⟨(Or.inl ⟨hR1_, rfl⟩), rfl, (rg_w q18_l_2_ (by decide) (by decide))⟩
  refine lv_if_ge (tgt := 18) hx hb dJ9_floorMod_7cf53_7 (by decide) (fun c7_ => ?_) (fun c7_ => ?_)
  · have g2_ : rg (0) (2147483647) x_ := rg_xor c7_ (rg_any _) ry_ (by decide)
    have g3_ : rg (0) (23) (x_ - x_ / y_ * y_) := rg_remp g2_ ry_ (by decide) (by decide) (by decide)
    have g4_ : rg (0) (2147483647) (x_ ^^^ y_) := rg_le2 c7_ (rg_lit (by decide) : rg (0) (0) (0 : Int32)) (rg_any _) (by decide)
    exact j18_ () _ _ ls ⟨(rg_w g3_ (by decide) (by decide)), (Or.inl c7_)⟩ hP hD hS (lv_sub hl [0, 1, 2] rfl)
  · have g5_ : rg (-2147483648) (-1) x_ := rg_xor2 (rg_nle c7_) (rg_any _) ry_ (by decide)
    have g6_ : rg (-23) (0) (x_ - x_ / y_ * y_) := rg_remn g5_ ry_ (by decide) (by decide) (by decide)
    have g7_ : rg (-2147483648) (-1) (x_ ^^^ y_) := rg_lt1 (rg_nle c7_) (rg_any _) (rg_lit (by decide) : rg (0) (0) (0 : Int32)) (by decide)
    refine lv_iload_n hx hb dJ9_floorMod_7cf53_10 rfl (lv_at hl 0 rfl) ?_
    refine lv_if_eq (tgt := 18) hx hb dJ9_floorMod_7cf53_11 (by decide) (fun c11_ => ?_) (fun c11_ => ?_)
    · have g8_ : rg (0) (0) (x_ - x_ / y_ * y_) := rg_eq c11_ (rg_lit (by decide) : rg (0) (0) (0 : Int32))
      exact j18_ () _ _ ls ⟨(rg_w g8_ (by decide) (by decide)), (Or.inr (Or.inl ⟨c7_, c11_⟩))⟩ hP hD hS (lv_sub hl [0, 1, 2] rfl)
    · have g9_ : rg (-23) (-1) (x_ - x_ / y_ * y_) := rg_ne2 c11_ g6_ (by decide) (by decide)
      refine lv_iload_n hx hb dJ9_floorMod_7cf53_14 rfl (lv_at hl 0 rfl) ?_
      refine lv_iload_n hx hb dJ9_floorMod_7cf53_15 rfl (lv_at hl 2 rfl) ?_
      refine lv_iadd hx hb dJ9_floorMod_7cf53_16 ?_
      have g10_ : rg (0) (23) ((x_ - x_ / y_ * y_) + y_) := rg_fm g9_ ry_ (by decide) (by decide)
      exact rI hX hE hP hD hS dJ9_floorMod_7cf53_17 (by decide) (by decide) ⟨(Or.inr (Or.inl ⟨c7_, c11_, rfl⟩)), rfl, (rg_w g10_ (by decide) (by decide))⟩
def R_J6_bitCount_0f7a4_e (x_ : Int32) (r : Int32) : Prop := (r = (((((((x_ - (((x_.toUInt32 >>> ((1 : Int32).toUInt32 &&& Int32.toUInt32 31)).toInt32) &&& 1431655765)) &&& 858993459) + ((((x_ - (((x_.toUInt32 >>> ((1 : Int32).toUInt32 &&& Int32.toUInt32 31)).toInt32) &&& 1431655765)).toUInt32 >>> ((2 : Int32).toUInt32 &&& Int32.toUInt32 31)).toInt32) &&& 858993459)) + (((((x_ - (((x_.toUInt32 >>> ((1 : Int32).toUInt32 &&& Int32.toUInt32 31)).toInt32) &&& 1431655765)) &&& 858993459) + ((((x_ - (((x_.toUInt32 >>> ((1 : Int32).toUInt32 &&& Int32.toUInt32 31)).toInt32) &&& 1431655765)).toUInt32 >>> ((2 : Int32).toUInt32 &&& Int32.toUInt32 31)).toInt32) &&& 858993459)).toUInt32 >>> ((4 : Int32).toUInt32 &&& Int32.toUInt32 31)).toInt32)) &&& 252645135) + (((((((x_ - (((x_.toUInt32 >>> ((1 : Int32).toUInt32 &&& Int32.toUInt32 31)).toInt32) &&& 1431655765)) &&& 858993459) + ((((x_ - (((x_.toUInt32 >>> ((1 : Int32).toUInt32 &&& Int32.toUInt32 31)).toInt32) &&& 1431655765)).toUInt32 >>> ((2 : Int32).toUInt32 &&& Int32.toUInt32 31)).toInt32) &&& 858993459)) + (((((x_ - (((x_.toUInt32 >>> ((1 : Int32).toUInt32 &&& Int32.toUInt32 31)).toInt32) &&& 1431655765)) &&& 858993459) + ((((x_ - (((x_.toUInt32 >>> ((1 : Int32).toUInt32 &&& Int32.toUInt32 31)).toInt32) &&& 1431655765)).toUInt32 >>> ((2 : Int32).toUInt32 &&& Int32.toUInt32 31)).toInt32) &&& 858993459)).toUInt32 >>> ((4 : Int32).toUInt32 &&& Int32.toUInt32 31)).toInt32)) &&& 252645135).toUInt32 >>> ((8 : Int32).toUInt32 &&& Int32.toUInt32 31)).toInt32)) + ((((((((x_ - (((x_.toUInt32 >>> ((1 : Int32).toUInt32 &&& Int32.toUInt32 31)).toInt32) &&& 1431655765)) &&& 858993459) + ((((x_ - (((x_.toUInt32 >>> ((1 : Int32).toUInt32 &&& Int32.toUInt32 31)).toInt32) &&& 1431655765)).toUInt32 >>> ((2 : Int32).toUInt32 &&& Int32.toUInt32 31)).toInt32) &&& 858993459)) + (((((x_ - (((x_.toUInt32 >>> ((1 : Int32).toUInt32 &&& Int32.toUInt32 31)).toInt32) &&& 1431655765)) &&& 858993459) + ((((x_ - (((x_.toUInt32 >>> ((1 : Int32).toUInt32 &&& Int32.toUInt32 31)).toInt32) &&& 1431655765)).toUInt32 >>> ((2 : Int32).toUInt32 &&& Int32.toUInt32 31)).toInt32) &&& 858993459)).toUInt32 >>> ((4 : Int32).toUInt32 &&& Int32.toUInt32 31)).toInt32)) &&& 252645135) + (((((((x_ - (((x_.toUInt32 >>> ((1 : Int32).toUInt32 &&& Int32.toUInt32 31)).toInt32) &&& 1431655765)) &&& 858993459) + ((((x_ - (((x_.toUInt32 >>> ((1 : Int32).toUInt32 &&& Int32.toUInt32 31)).toInt32) &&& 1431655765)).toUInt32 >>> ((2 : Int32).toUInt32 &&& Int32.toUInt32 31)).toInt32) &&& 858993459)) + (((((x_ - (((x_.toUInt32 >>> ((1 : Int32).toUInt32 &&& Int32.toUInt32 31)).toInt32) &&& 1431655765)) &&& 858993459) + ((((x_ - (((x_.toUInt32 >>> ((1 : Int32).toUInt32 &&& Int32.toUInt32 31)).toInt32) &&& 1431655765)).toUInt32 >>> ((2 : Int32).toUInt32 &&& Int32.toUInt32 31)).toInt32) &&& 858993459)).toUInt32 >>> ((4 : Int32).toUInt32 &&& Int32.toUInt32 31)).toInt32)) &&& 252645135).toUInt32 >>> ((8 : Int32).toUInt32 &&& Int32.toUInt32 31)).toInt32)).toUInt32 >>> ((16 : Int32).toUInt32 &&& Int32.toUInt32 31)).toInt32)) &&& 63) ∨ False
set_option maxHeartbeats 4000000 in
set_option maxRecDepth 100000 in
theorem sf_J6_bitCount_0f7a4 (l : Launch) (D : va_G) (cy : Nat → ClassId) (x_ : Int32) : Ci l yJ6_bitCount_0f7a4 cJ6_bitCount_0f7a4 1 (some .int) { frames := 0, cells := 0, slots := 0, locals := 0 } D cy [.int x_] [] (fun r W1 => R_J6_bitCount_0f7a4_e x_ r ∧ W1 = [] ∧ rg (0) (63) r) := by
  refine Ci.ofF (by decide +kernel) (Nat.le_of_ble_eq_true rfl) ?_
  intro p e s m below meth c A ls hX hE hP hD hl
  obtain ⟨hx, hb, hr, hml, hown, htA, hlk⟩ := id hX
  have hK := hE.1
  have hS : va_S A s.heap s.heap [] := va_S.rf
  have hl : lv_has ls 1 [(0, .int x_)] := hl
  refine lv_iload_n hx hb dJ6_bitCount_0f7a4_0 rfl (lv_at hl 0 rfl) ?_
  refine lv_iload_n hx hb dJ6_bitCount_0f7a4_1 rfl (lv_at hl 0 rfl) ?_
  refine lv_iconst (v := 1) hx hb dJ6_bitCount_0f7a4_2 (by decide) ?_
  refine lv_iushr hx hb dJ6_bitCount_0f7a4_3 rfl ?_
  refine lv_ldcw hx hb hown (htA _ wd_439) dJ6_bitCount_0f7a4_4 ?_
  refine lv_iand hx hb dJ6_bitCount_0f7a4_7 ?_
  have g1_ : rg (0) (1431655765) (((x_.toUInt32 >>> ((1 : Int32).toUInt32 &&& Int32.toUInt32 31)).toInt32) &&& 1431655765) := rg_and (by decide) (by decide)
  refine lv_isub hx hb dJ6_bitCount_0f7a4_8 ?_
  refine lv_istore_n (lv' := [(0, .int (x_ - (((x_.toUInt32 >>> ((1 : Int32).toUInt32 &&& Int32.toUInt32 31)).toInt32) &&& 1431655765)))]) hx hb dJ6_bitCount_0f7a4_9 rfl hl (by decide) rfl (fun ls hl => ?_)
  refine lv_iload_n hx hb dJ6_bitCount_0f7a4_10 rfl (lv_at hl 0 rfl) ?_
  refine lv_ldcw hx hb hown (htA _ wd_440) dJ6_bitCount_0f7a4_11 ?_
  refine lv_iand hx hb dJ6_bitCount_0f7a4_14 ?_
  have g2_ : rg (0) (858993459) ((x_ - (((x_.toUInt32 >>> ((1 : Int32).toUInt32 &&& Int32.toUInt32 31)).toInt32) &&& 1431655765)) &&& 858993459) := rg_and (by decide) (by decide)
  refine lv_iload_n hx hb dJ6_bitCount_0f7a4_15 rfl (lv_at hl 0 rfl) ?_
  refine lv_iconst (v := 2) hx hb dJ6_bitCount_0f7a4_16 (by decide) ?_
  refine lv_iushr hx hb dJ6_bitCount_0f7a4_17 rfl ?_
  refine lv_ldcw hx hb hown (htA _ wd_440) dJ6_bitCount_0f7a4_18 ?_
  refine lv_iand hx hb dJ6_bitCount_0f7a4_21 ?_
  have g3_ : rg (0) (858993459) ((((x_ - (((x_.toUInt32 >>> ((1 : Int32).toUInt32 &&& Int32.toUInt32 31)).toInt32) &&& 1431655765)).toUInt32 >>> ((2 : Int32).toUInt32 &&& Int32.toUInt32 31)).toInt32) &&& 858993459) := rg_and (by decide) (by decide)
  refine lv_iadd hx hb dJ6_bitCount_0f7a4_22 ?_
  have g4_ : rg (0) (1717986918) (((x_ - (((x_.toUInt32 >>> ((1 : Int32).toUInt32 &&& Int32.toUInt32 31)).toInt32) &&& 1431655765)) &&& 858993459) + ((((x_ - (((x_.toUInt32 >>> ((1 : Int32).toUInt32 &&& Int32.toUInt32 31)).toInt32) &&& 1431655765)).toUInt32 >>> ((2 : Int32).toUInt32 &&& Int32.toUInt32 31)).toInt32) &&& 858993459)) := rg_add g2_ g3_ (by decide) (by decide) (by decide) (by decide)
  refine lv_istore_n (lv' := [(0, .int (((x_ - (((x_.toUInt32 >>> ((1 : Int32).toUInt32 &&& Int32.toUInt32 31)).toInt32) &&& 1431655765)) &&& 858993459) + ((((x_ - (((x_.toUInt32 >>> ((1 : Int32).toUInt32 &&& Int32.toUInt32 31)).toInt32) &&& 1431655765)).toUInt32 >>> ((2 : Int32).toUInt32 &&& Int32.toUInt32 31)).toInt32) &&& 858993459)))]) hx hb dJ6_bitCount_0f7a4_23 rfl hl (by decide) rfl (fun ls hl => ?_)
  refine lv_iload_n hx hb dJ6_bitCount_0f7a4_24 rfl (lv_at hl 0 rfl) ?_
  refine lv_iload_n hx hb dJ6_bitCount_0f7a4_25 rfl (lv_at hl 0 rfl) ?_
  refine lv_iconst (v := 4) hx hb dJ6_bitCount_0f7a4_26 (by decide) ?_
  refine lv_iushr hx hb dJ6_bitCount_0f7a4_27 rfl ?_
  refine lv_iadd hx hb dJ6_bitCount_0f7a4_28 ?_
  refine lv_ldcw hx hb hown (htA _ wd_441) dJ6_bitCount_0f7a4_29 ?_
  refine lv_iand hx hb dJ6_bitCount_0f7a4_32 ?_
  have g5_ : rg (0) (252645135) (((((x_ - (((x_.toUInt32 >>> ((1 : Int32).toUInt32 &&& Int32.toUInt32 31)).toInt32) &&& 1431655765)) &&& 858993459) + ((((x_ - (((x_.toUInt32 >>> ((1 : Int32).toUInt32 &&& Int32.toUInt32 31)).toInt32) &&& 1431655765)).toUInt32 >>> ((2 : Int32).toUInt32 &&& Int32.toUInt32 31)).toInt32) &&& 858993459)) + (((((x_ - (((x_.toUInt32 >>> ((1 : Int32).toUInt32 &&& Int32.toUInt32 31)).toInt32) &&& 1431655765)) &&& 858993459) + ((((x_ - (((x_.toUInt32 >>> ((1 : Int32).toUInt32 &&& Int32.toUInt32 31)).toInt32) &&& 1431655765)).toUInt32 >>> ((2 : Int32).toUInt32 &&& Int32.toUInt32 31)).toInt32) &&& 858993459)).toUInt32 >>> ((4 : Int32).toUInt32 &&& Int32.toUInt32 31)).toInt32)) &&& 252645135) := rg_and (by decide) (by decide)
  refine lv_istore_n (lv' := [(0, .int (((((x_ - (((x_.toUInt32 >>> ((1 : Int32).toUInt32 &&& Int32.toUInt32 31)).toInt32) &&& 1431655765)) &&& 858993459) + ((((x_ - (((x_.toUInt32 >>> ((1 : Int32).toUInt32 &&& Int32.toUInt32 31)).toInt32) &&& 1431655765)).toUInt32 >>> ((2 : Int32).toUInt32 &&& Int32.toUInt32 31)).toInt32) &&& 858993459)) + (((((x_ - (((x_.toUInt32 >>> ((1 : Int32).toUInt32 &&& Int32.toUInt32 31)).toInt32) &&& 1431655765)) &&& 858993459) + ((((x_ - (((x_.toUInt32 >>> ((1 : Int32).toUInt32 &&& Int32.toUInt32 31)).toInt32) &&& 1431655765)).toUInt32 >>> ((2 : Int32).toUInt32 &&& Int32.toUInt32 31)).toInt32) &&& 858993459)).toUInt32 >>> ((4 : Int32).toUInt32 &&& Int32.toUInt32 31)).toInt32)) &&& 252645135))]) hx hb dJ6_bitCount_0f7a4_33 rfl hl (by decide) rfl (fun ls hl => ?_)
  refine lv_iload_n hx hb dJ6_bitCount_0f7a4_34 rfl (lv_at hl 0 rfl) ?_
  refine lv_iload_n hx hb dJ6_bitCount_0f7a4_35 rfl (lv_at hl 0 rfl) ?_
  refine lv_bipush (v := 8) hx hb dJ6_bitCount_0f7a4_36 (by decide) ?_
  refine lv_iushr hx hb dJ6_bitCount_0f7a4_38 rfl ?_
  refine lv_iadd hx hb dJ6_bitCount_0f7a4_39 ?_
  refine lv_istore_n (lv' := [(0, .int ((((((x_ - (((x_.toUInt32 >>> ((1 : Int32).toUInt32 &&& Int32.toUInt32 31)).toInt32) &&& 1431655765)) &&& 858993459) + ((((x_ - (((x_.toUInt32 >>> ((1 : Int32).toUInt32 &&& Int32.toUInt32 31)).toInt32) &&& 1431655765)).toUInt32 >>> ((2 : Int32).toUInt32 &&& Int32.toUInt32 31)).toInt32) &&& 858993459)) + (((((x_ - (((x_.toUInt32 >>> ((1 : Int32).toUInt32 &&& Int32.toUInt32 31)).toInt32) &&& 1431655765)) &&& 858993459) + ((((x_ - (((x_.toUInt32 >>> ((1 : Int32).toUInt32 &&& Int32.toUInt32 31)).toInt32) &&& 1431655765)).toUInt32 >>> ((2 : Int32).toUInt32 &&& Int32.toUInt32 31)).toInt32) &&& 858993459)).toUInt32 >>> ((4 : Int32).toUInt32 &&& Int32.toUInt32 31)).toInt32)) &&& 252645135) + (((((((x_ - (((x_.toUInt32 >>> ((1 : Int32).toUInt32 &&& Int32.toUInt32 31)).toInt32) &&& 1431655765)) &&& 858993459) + ((((x_ - (((x_.toUInt32 >>> ((1 : Int32).toUInt32 &&& Int32.toUInt32 31)).toInt32) &&& 1431655765)).toUInt32 >>> ((2 : Int32).toUInt32 &&& Int32.toUInt32 31)).toInt32) &&& 858993459)) + (((((x_ - (((x_.toUInt32 >>> ((1 : Int32).toUInt32 &&& Int32.toUInt32 31)).toInt32) &&& 1431655765)) &&& 858993459) + ((((x_ - (((x_.toUInt32 >>> ((1 : Int32).toUInt32 &&& Int32.toUInt32 31)).toInt32) &&& 1431655765)).toUInt32 >>> ((2 : Int32).toUInt32 &&& Int32.toUInt32 31)).toInt32) &&& 858993459)).toUInt32 >>> ((4 : Int32).toUInt32 &&& Int32.toUInt32 31)).toInt32)) &&& 252645135).toUInt32 >>> ((8 : Int32).toUInt32 &&& Int32.toUInt32 31)).toInt32)))]) hx hb dJ6_bitCount_0f7a4_40 rfl hl (by decide) rfl (fun ls hl => ?_)
  refine lv_iload_n hx hb dJ6_bitCount_0f7a4_41 rfl (lv_at hl 0 rfl) ?_
  refine lv_iload_n hx hb dJ6_bitCount_0f7a4_42 rfl (lv_at hl 0 rfl) ?_
  refine lv_bipush (v := 16) hx hb dJ6_bitCount_0f7a4_43 (by decide) ?_
  refine lv_iushr hx hb dJ6_bitCount_0f7a4_45 rfl ?_
  refine lv_iadd hx hb dJ6_bitCount_0f7a4_46 ?_
  refine lv_istore_n (lv' := [(0, .int (((((((x_ - (((x_.toUInt32 >>> ((1 : Int32).toUInt32 &&& Int32.toUInt32 31)).toInt32) &&& 1431655765)) &&& 858993459) + ((((x_ - (((x_.toUInt32 >>> ((1 : Int32).toUInt32 &&& Int32.toUInt32 31)).toInt32) &&& 1431655765)).toUInt32 >>> ((2 : Int32).toUInt32 &&& Int32.toUInt32 31)).toInt32) &&& 858993459)) + (((((x_ - (((x_.toUInt32 >>> ((1 : Int32).toUInt32 &&& Int32.toUInt32 31)).toInt32) &&& 1431655765)) &&& 858993459) + ((((x_ - (((x_.toUInt32 >>> ((1 : Int32).toUInt32 &&& Int32.toUInt32 31)).toInt32) &&& 1431655765)).toUInt32 >>> ((2 : Int32).toUInt32 &&& Int32.toUInt32 31)).toInt32) &&& 858993459)).toUInt32 >>> ((4 : Int32).toUInt32 &&& Int32.toUInt32 31)).toInt32)) &&& 252645135) + (((((((x_ - (((x_.toUInt32 >>> ((1 : Int32).toUInt32 &&& Int32.toUInt32 31)).toInt32) &&& 1431655765)) &&& 858993459) + ((((x_ - (((x_.toUInt32 >>> ((1 : Int32).toUInt32 &&& Int32.toUInt32 31)).toInt32) &&& 1431655765)).toUInt32 >>> ((2 : Int32).toUInt32 &&& Int32.toUInt32 31)).toInt32) &&& 858993459)) + (((((x_ - (((x_.toUInt32 >>> ((1 : Int32).toUInt32 &&& Int32.toUInt32 31)).toInt32) &&& 1431655765)) &&& 858993459) + ((((x_ - (((x_.toUInt32 >>> ((1 : Int32).toUInt32 &&& Int32.toUInt32 31)).toInt32) &&& 1431655765)).toUInt32 >>> ((2 : Int32).toUInt32 &&& Int32.toUInt32 31)).toInt32) &&& 858993459)).toUInt32 >>> ((4 : Int32).toUInt32 &&& Int32.toUInt32 31)).toInt32)) &&& 252645135).toUInt32 >>> ((8 : Int32).toUInt32 &&& Int32.toUInt32 31)).toInt32)) + ((((((((x_ - (((x_.toUInt32 >>> ((1 : Int32).toUInt32 &&& Int32.toUInt32 31)).toInt32) &&& 1431655765)) &&& 858993459) + ((((x_ - (((x_.toUInt32 >>> ((1 : Int32).toUInt32 &&& Int32.toUInt32 31)).toInt32) &&& 1431655765)).toUInt32 >>> ((2 : Int32).toUInt32 &&& Int32.toUInt32 31)).toInt32) &&& 858993459)) + (((((x_ - (((x_.toUInt32 >>> ((1 : Int32).toUInt32 &&& Int32.toUInt32 31)).toInt32) &&& 1431655765)) &&& 858993459) + ((((x_ - (((x_.toUInt32 >>> ((1 : Int32).toUInt32 &&& Int32.toUInt32 31)).toInt32) &&& 1431655765)).toUInt32 >>> ((2 : Int32).toUInt32 &&& Int32.toUInt32 31)).toInt32) &&& 858993459)).toUInt32 >>> ((4 : Int32).toUInt32 &&& Int32.toUInt32 31)).toInt32)) &&& 252645135) + (((((((x_ - (((x_.toUInt32 >>> ((1 : Int32).toUInt32 &&& Int32.toUInt32 31)).toInt32) &&& 1431655765)) &&& 858993459) + ((((x_ - (((x_.toUInt32 >>> ((1 : Int32).toUInt32 &&& Int32.toUInt32 31)).toInt32) &&& 1431655765)).toUInt32 >>> ((2 : Int32).toUInt32 &&& Int32.toUInt32 31)).toInt32) &&& 858993459)) + (((((x_ - (((x_.toUInt32 >>> ((1 : Int32).toUInt32 &&& Int32.toUInt32 31)).toInt32) &&& 1431655765)) &&& 858993459) + ((((x_ - (((x_.toUInt32 >>> ((1 : Int32).toUInt32 &&& Int32.toUInt32 31)).toInt32) &&& 1431655765)).toUInt32 >>> ((2 : Int32).toUInt32 &&& Int32.toUInt32 31)).toInt32) &&& 858993459)).toUInt32 >>> ((4 : Int32).toUInt32 &&& Int32.toUInt32 31)).toInt32)) &&& 252645135).toUInt32 >>> ((8 : Int32).toUInt32 &&& Int32.toUInt32 31)).toInt32)).toUInt32 >>> ((16 : Int32).toUInt32 &&& Int32.toUInt32 31)).toInt32)))]) hx hb dJ6_bitCount_0f7a4_47 rfl hl (by decide) rfl (fun ls hl => ?_)
  refine lv_iload_n hx hb dJ6_bitCount_0f7a4_48 rfl (lv_at hl 0 rfl) ?_
  refine lv_bipush (v := 63) hx hb dJ6_bitCount_0f7a4_49 (by decide) ?_
  refine lv_iand hx hb dJ6_bitCount_0f7a4_51 ?_
  have g6_ : rg (0) (63) ((((((((x_ - (((x_.toUInt32 >>> ((1 : Int32).toUInt32 &&& Int32.toUInt32 31)).toInt32) &&& 1431655765)) &&& 858993459) + ((((x_ - (((x_.toUInt32 >>> ((1 : Int32).toUInt32 &&& Int32.toUInt32 31)).toInt32) &&& 1431655765)).toUInt32 >>> ((2 : Int32).toUInt32 &&& Int32.toUInt32 31)).toInt32) &&& 858993459)) + (((((x_ - (((x_.toUInt32 >>> ((1 : Int32).toUInt32 &&& Int32.toUInt32 31)).toInt32) &&& 1431655765)) &&& 858993459) + ((((x_ - (((x_.toUInt32 >>> ((1 : Int32).toUInt32 &&& Int32.toUInt32 31)).toInt32) &&& 1431655765)).toUInt32 >>> ((2 : Int32).toUInt32 &&& Int32.toUInt32 31)).toInt32) &&& 858993459)).toUInt32 >>> ((4 : Int32).toUInt32 &&& Int32.toUInt32 31)).toInt32)) &&& 252645135) + (((((((x_ - (((x_.toUInt32 >>> ((1 : Int32).toUInt32 &&& Int32.toUInt32 31)).toInt32) &&& 1431655765)) &&& 858993459) + ((((x_ - (((x_.toUInt32 >>> ((1 : Int32).toUInt32 &&& Int32.toUInt32 31)).toInt32) &&& 1431655765)).toUInt32 >>> ((2 : Int32).toUInt32 &&& Int32.toUInt32 31)).toInt32) &&& 858993459)) + (((((x_ - (((x_.toUInt32 >>> ((1 : Int32).toUInt32 &&& Int32.toUInt32 31)).toInt32) &&& 1431655765)) &&& 858993459) + ((((x_ - (((x_.toUInt32 >>> ((1 : Int32).toUInt32 &&& Int32.toUInt32 31)).toInt32) &&& 1431655765)).toUInt32 >>> ((2 : Int32).toUInt32 &&& Int32.toUInt32 31)).toInt32) &&& 858993459)).toUInt32 >>> ((4 : Int32).toUInt32 &&& Int32.toUInt32 31)).toInt32)) &&& 252645135).toUInt32 >>> ((8 : Int32).toUInt32 &&& Int32.toUInt32 31)).toInt32)) + ((((((((x_ - (((x_.toUInt32 >>> ((1 : Int32).toUInt32 &&& Int32.toUInt32 31)).toInt32) &&& 1431655765)) &&& 858993459) + ((((x_ - (((x_.toUInt32 >>> ((1 : Int32).toUInt32 &&& Int32.toUInt32 31)).toInt32) &&& 1431655765)).toUInt32 >>> ((2 : Int32).toUInt32 &&& Int32.toUInt32 31)).toInt32) &&& 858993459)) + (((((x_ - (((x_.toUInt32 >>> ((1 : Int32).toUInt32 &&& Int32.toUInt32 31)).toInt32) &&& 1431655765)) &&& 858993459) + ((((x_ - (((x_.toUInt32 >>> ((1 : Int32).toUInt32 &&& Int32.toUInt32 31)).toInt32) &&& 1431655765)).toUInt32 >>> ((2 : Int32).toUInt32 &&& Int32.toUInt32 31)).toInt32) &&& 858993459)).toUInt32 >>> ((4 : Int32).toUInt32 &&& Int32.toUInt32 31)).toInt32)) &&& 252645135) + (((((((x_ - (((x_.toUInt32 >>> ((1 : Int32).toUInt32 &&& Int32.toUInt32 31)).toInt32) &&& 1431655765)) &&& 858993459) + ((((x_ - (((x_.toUInt32 >>> ((1 : Int32).toUInt32 &&& Int32.toUInt32 31)).toInt32) &&& 1431655765)).toUInt32 >>> ((2 : Int32).toUInt32 &&& Int32.toUInt32 31)).toInt32) &&& 858993459)) + (((((x_ - (((x_.toUInt32 >>> ((1 : Int32).toUInt32 &&& Int32.toUInt32 31)).toInt32) &&& 1431655765)) &&& 858993459) + ((((x_ - (((x_.toUInt32 >>> ((1 : Int32).toUInt32 &&& Int32.toUInt32 31)).toInt32) &&& 1431655765)).toUInt32 >>> ((2 : Int32).toUInt32 &&& Int32.toUInt32 31)).toInt32) &&& 858993459)).toUInt32 >>> ((4 : Int32).toUInt32 &&& Int32.toUInt32 31)).toInt32)) &&& 252645135).toUInt32 >>> ((8 : Int32).toUInt32 &&& Int32.toUInt32 31)).toInt32)).toUInt32 >>> ((16 : Int32).toUInt32 &&& Int32.toUInt32 31)).toInt32)) &&& 63) := rg_and (by decide) (by decide)
  exact rI hX hE hP hD hS dJ6_bitCount_0f7a4_52 (by decide) (by decide) ⟨(Or.inl rfl), rfl, (rg_w g6_ (by decide) (by decide))⟩
def R_J9_max_f86c9_j1 (x_ : Int64) (y_ : Int64) (w201100_ : Int64) : Prop := ((lg_cmp x_ y_) < (0 : Int32) ∧ w201100_ = y_) ∨ (¬ ((lg_cmp x_ y_) < (0 : Int32)) ∧ w201100_ = x_) ∨ False
def R_J9_max_f86c9_e (x_ : Int64) (y_ : Int64) (r : Int64) : Prop := (∃ (w201100_ : Int64), R_J9_max_f86c9_j1 x_ y_ w201100_ ∧ r = w201100_) ∨ False
set_option maxHeartbeats 4000000 in
set_option maxRecDepth 100000 in
theorem sf_J9_max_f86c9 (l : Launch) (D : va_G) (cy : Nat → ClassId) (x_ : Int64) (y_ : Int64) : Cl l yJ9_max_f86c9 cJ9_max_f86c9 4 (some .long) { frames := 0, cells := 0, slots := 0, locals := 0 } D cy [.long x_, .long y_] [] (fun r W1 => R_J9_max_f86c9_e x_ y_ r ∧ W1 = []) := by
  refine Cl.ofF (by decide +kernel) (Nat.le_of_ble_eq_true rfl) ?_
  intro p e s m below meth c A ls hX hE hP hD hl
  obtain ⟨hx, hb, hr, hml, hown, htA, hlk⟩ := id hX
  have hK := hE.1
  have hS : va_S A s.heap s.heap [] := va_S.rf
  have hl : lv_has ls 4 [(0, .long x_), (2, .long y_)] := hl
  refine lv_lload_n hx hb dJ9_max_f86c9_0 rfl (lv_at hl 0 rfl) ?_
  refine lv_lload_n hx hb dJ9_max_f86c9_1 rfl (lv_at hl 1 rfl) ?_
  refine W.lcmp hx hb dJ9_max_f86c9_2 ?_
  refine joinT (D := D) (A := A) (pc := 11) (mL := 4) (τ := Int64) (WS := fun i => []) (LV := fun i => [(0, .long x_), (2, .long y_)]) (ST := fun i => [.long i]) (cells := 0) (slots := 0) (fun i => R_J9_max_f86c9_j1 x_ y_ i) (fun w201100_ H locs ls hI hP hD hS hl => ?_) (fun j11_ => ?_)
  · have hI : R_J9_max_f86c9_j1 x_ y_ w201100_ := hI
    have hR1_ := hI
    have hP : va_P D vwCl [] H := hP
    have hD := va_ca hP hD
    have hl : lv_has ls 4 [(0, .long x_), (2, .long y_)] := hl
    exact rL hX hE hP hD hS dJ9_max_f86c9_11 (by decide) (by decide) ⟨(Or.inl ⟨w201100_, hR1_, rfl⟩), rfl⟩
  refine lv_if_lt (tgt := 10) hx hb dJ9_max_f86c9_3 (by decide) (fun c3_ => ?_) (fun c3_ => ?_)
  · have g1_ : rl (-9223372036854775808) (9223372036854775806) x_ := rl_lt1 ((lg_cmp_lt _ _).mp c3_) (rl_any _) (rl_any _) (by decide)
    have g2_ : rl (-9223372036854775807) (9223372036854775807) y_ := rl_lt2 ((lg_cmp_lt _ _).mp c3_) (rl_any _) (rl_any _) (by decide)
    refine lv_lload_n hx hb dJ9_max_f86c9_10 rfl (lv_at hl 1 rfl) ?_
    exact j11_ y_ _ _ ls (Or.inl ⟨c3_, rfl⟩) hP hD hS (lv_sub hl [0, 1] rfl)
  · refine lv_lload_n hx hb dJ9_max_f86c9_6 rfl (lv_at hl 0 rfl) ?_
    refine lv_goto (tgt := 11) hx hb dJ9_max_f86c9_7 (by decide) ?_
    exact j11_ x_ _ _ ls (Or.inr (Or.inl ⟨c3_, rfl⟩)) hP hD hS (lv_sub hl [0, 1] rfl)
def R_J9_min_f86c9_j1 (x_ : Int64) (y_ : Int64) (w201100_ : Int64) : Prop := ((0 : Int32) < (lg_cmp x_ y_) ∧ w201100_ = y_) ∨ (¬ ((0 : Int32) < (lg_cmp x_ y_)) ∧ w201100_ = x_) ∨ False
def R_J9_min_f86c9_e (x_ : Int64) (y_ : Int64) (r : Int64) : Prop := (∃ (w201100_ : Int64), R_J9_min_f86c9_j1 x_ y_ w201100_ ∧ r = w201100_) ∨ False
set_option maxHeartbeats 4000000 in
set_option maxRecDepth 100000 in
theorem sf_J9_min_f86c9 (l : Launch) (D : va_G) (cy : Nat → ClassId) (x_ : Int64) (y_ : Int64) : Cl l yJ9_min_f86c9 cJ9_min_f86c9 4 (some .long) { frames := 0, cells := 0, slots := 0, locals := 0 } D cy [.long x_, .long y_] [] (fun r W1 => R_J9_min_f86c9_e x_ y_ r ∧ W1 = []) := by
  refine Cl.ofF (by decide +kernel) (Nat.le_of_ble_eq_true rfl) ?_
  intro p e s m below meth c A ls hX hE hP hD hl
  obtain ⟨hx, hb, hr, hml, hown, htA, hlk⟩ := id hX
  have hK := hE.1
  have hS : va_S A s.heap s.heap [] := va_S.rf
  have hl : lv_has ls 4 [(0, .long x_), (2, .long y_)] := hl
  refine lv_lload_n hx hb dJ9_min_f86c9_0 rfl (lv_at hl 0 rfl) ?_
  refine lv_lload_n hx hb dJ9_min_f86c9_1 rfl (lv_at hl 1 rfl) ?_
  refine W.lcmp hx hb dJ9_min_f86c9_2 ?_
  refine joinT (D := D) (A := A) (pc := 11) (mL := 4) (τ := Int64) (WS := fun i => []) (LV := fun i => [(0, .long x_), (2, .long y_)]) (ST := fun i => [.long i]) (cells := 0) (slots := 0) (fun i => R_J9_min_f86c9_j1 x_ y_ i) (fun w201100_ H locs ls hI hP hD hS hl => ?_) (fun j11_ => ?_)
  · have hI : R_J9_min_f86c9_j1 x_ y_ w201100_ := hI
    have hR1_ := hI
    have hP : va_P D vwCl [] H := hP
    have hD := va_ca hP hD
    have hl : lv_has ls 4 [(0, .long x_), (2, .long y_)] := hl
    exact rL hX hE hP hD hS dJ9_min_f86c9_11 (by decide) (by decide) ⟨(Or.inl ⟨w201100_, hR1_, rfl⟩), rfl⟩
  refine lv_if_gt (tgt := 10) hx hb dJ9_min_f86c9_3 (by decide) (fun c3_ => ?_) (fun c3_ => ?_)
  · have g1_ : rl (-9223372036854775808) (9223372036854775806) y_ := rl_lt1 ((lg_cmp_gt _ _).mp c3_) (rl_any _) (rl_any _) (by decide)
    have g2_ : rl (-9223372036854775807) (9223372036854775807) x_ := rl_lt2 ((lg_cmp_gt _ _).mp c3_) (rl_any _) (rl_any _) (by decide)
    refine lv_lload_n hx hb dJ9_min_f86c9_10 rfl (lv_at hl 1 rfl) ?_
    exact j11_ y_ _ _ ls (Or.inl ⟨c3_, rfl⟩) hP hD hS (lv_sub hl [0, 1] rfl)
  · refine lv_lload_n hx hb dJ9_min_f86c9_6 rfl (lv_at hl 0 rfl) ?_
    refine lv_goto (tgt := 11) hx hb dJ9_min_f86c9_7 (by decide) ?_
    exact j11_ x_ _ _ ls (Or.inr (Or.inl ⟨c3_, rfl⟩)) hP hD hS (lv_sub hl [0, 1] rfl)
def R_X4_join_j2 (x_ : Int64) (y_ : Int64) (w206700_ : Int64) : Prop := (¬ (lg_cmp x_ y_) = (0 : Int32) ∧ w206700_ = (0 : Int64)) ∨ ((lg_cmp x_ y_) = (0 : Int32) ∧ w206700_ = (1 : Int64)) ∨ False
def R_X4_join_j3 (x_ : Int64) (y_ : Int64) (w207900_ : Int64) : Prop := ((0 : Int32) ≤ (lg_cmp x_ y_) ∧ w207900_ = (0 : Int64)) ∨ (¬ ((0 : Int32) ≤ (lg_cmp x_ y_)) ∧ w207900_ = (1 : Int64)) ∨ False
def R_X4_join_j4 (x_ : Int64) (y_ : Int64) (w209100_ : Int64) : Prop := ((lg_cmp x_ y_) ≤ (0 : Int32) ∧ w209100_ = (0 : Int64)) ∨ (¬ ((lg_cmp x_ y_) ≤ (0 : Int32)) ∧ w209100_ = (1 : Int64)) ∨ False
def R_X4_join_j6 (x_ : Int64) (y_ : Int64) : Prop := ((lg_cmp x_ 0) = (0 : Int32)) ∨ (¬ ((lg_cmp x_ 0) = (0 : Int32)) ∧ (lg_cmp y_ 0) = (0 : Int32)) ∨ False
def R_X4_join_j5 (x_ : Int64) (y_ : Int64) (w210900_ : Int64) : Prop := (R_X4_join_j6 x_ y_ ∧ w210900_ = (0 : Int64)) ∨ (¬ ((lg_cmp x_ 0) = (0 : Int32)) ∧ ¬ ((lg_cmp y_ 0) = (0 : Int32)) ∧ w210900_ = (1 : Int64)) ∨ False
def R_X4_join_j8 (x_ : Int64) (y_ : Int64) : Prop := (¬ (lg_cmp x_ 0) = (0 : Int32)) ∨ ((lg_cmp x_ 0) = (0 : Int32) ∧ ¬ ((lg_cmp y_ 0) = (0 : Int32))) ∨ False
def R_X4_join_j7 (x_ : Int64) (y_ : Int64) (w212700_ : Int64) : Prop := (R_X4_join_j8 x_ y_ ∧ w212700_ = (1 : Int64)) ∨ ((lg_cmp x_ 0) = (0 : Int32) ∧ (lg_cmp y_ 0) = (0 : Int32) ∧ w212700_ = (0 : Int64)) ∨ False
def R_X4_join_e (s_ : Int32) (x_ : Int64) (y_ : Int64) (r : Int64) : Prop := ((2001 : Int32) = s_ ∧ r = x_ + y_) ∨ ((2002 : Int32) = s_ ∧ r = x_ - y_) ∨ ((2003 : Int32) = s_ ∧ r = x_ * y_) ∨ (∃ (w206700_ : Int64), (2004 : Int32) = s_ ∧ R_X4_join_j2 x_ y_ w206700_ ∧ r = w206700_) ∨ (∃ (w207900_ : Int64), (2005 : Int32) = s_ ∧ R_X4_join_j3 x_ y_ w207900_ ∧ r = w207900_) ∨ (∃ (w209100_ : Int64), (2006 : Int32) = s_ ∧ R_X4_join_j4 x_ y_ w209100_ ∧ r = w209100_) ∨ (∃ (w210900_ : Int64), (2007 : Int32) = s_ ∧ R_X4_join_j5 x_ y_ w210900_ ∧ r = w210900_) ∨ (∃ (sw1_ : Int32) (w212700_ : Int64), sw1_ = s_ ∧ (sw1_.toInt < 2001 ∨ 2007 < sw1_.toInt) ∧ R_X4_join_j7 x_ y_ w212700_ ∧ r = w212700_) ∨ False
set_option maxHeartbeats 4000000 in
set_option maxRecDepth 100000 in
theorem sf_X4_join (l : Launch) (D : va_G) (cy : Nat → ClassId) (s_ : Int32) (x_ : Int64) (y_ : Int64) : Cl l yX4_join cX4_join 5 (some .long) { frames := 0, cells := 0, slots := 0, locals := 0 } D cy [.int s_, .long x_, .long y_] [] (fun r W1 => R_X4_join_e s_ x_ y_ r ∧ W1 = []) := by
  refine Cl.of (by decide) (Nat.le_of_ble_eq_true rfl) ?_
  intro p e s m below meth c A ls hX hE hP hD hl
  obtain ⟨hx, hb, hr, hml, hown, htA, hlk⟩ := id hX
  have hK := hE.1
  have hS : va_S A s.heap s.heap [] := va_S.rf
  have hl : lv_has ls 5 [(0, .int s_), (1, .long x_), (3, .long y_)] := hl
  refine lv_iload_n hx hb dX4_join_0 rfl (lv_at hl 0 rfl) ?_
  refine lv_topi (fun sw1_ esw1_ => ?_)
  rcases sw_2001_2007 sw1_ with rfl | rfl | rfl | rfl | rfl | rfl | rfl | c1_
  · refine lv_tableIn (tgt := 44) hx hb dX4_join_1 (by decide) (by decide) rfl (by decide) ?_
    have g1_ : rg (2001) (2001) s_ := rg_eq esw1_.symm (rg_lit (by decide) : rg (2001) (2001) (2001 : Int32))
    refine lv_lload_n hx hb dX4_join_44 rfl (lv_at hl 1 rfl) ?_
    refine lv_lload_n hx hb dX4_join_45 rfl (lv_at hl 2 rfl) ?_
    refine lv_ladd hx hb dX4_join_46 ?_
    exact rL hX hE hP hD hS dX4_join_47 (by decide) (by decide) ⟨(Or.inl ⟨esw1_, rfl⟩), rfl⟩
  · refine lv_tableIn (tgt := 48) hx hb dX4_join_1 (by decide) (by decide) rfl (by decide) ?_
    have g2_ : rg (2002) (2002) s_ := rg_eq esw1_.symm (rg_lit (by decide) : rg (2002) (2002) (2002 : Int32))
    refine lv_lload_n hx hb dX4_join_48 rfl (lv_at hl 1 rfl) ?_
    refine lv_lload_n hx hb dX4_join_49 rfl (lv_at hl 2 rfl) ?_
    refine lv_lsub hx hb dX4_join_50 ?_
    exact rL hX hE hP hD hS dX4_join_51 (by decide) (by decide) ⟨(Or.inr (Or.inl ⟨esw1_, rfl⟩)), rfl⟩
  · refine lv_tableIn (tgt := 52) hx hb dX4_join_1 (by decide) (by decide) rfl (by decide) ?_
    have g3_ : rg (2003) (2003) s_ := rg_eq esw1_.symm (rg_lit (by decide) : rg (2003) (2003) (2003 : Int32))
    refine lv_lload_n hx hb dX4_join_52 rfl (lv_at hl 1 rfl) ?_
    refine lv_lload_n hx hb dX4_join_53 rfl (lv_at hl 2 rfl) ?_
    refine lv_lmul hx hb dX4_join_54 ?_
    exact rL hX hE hP hD hS dX4_join_55 (by decide) (by decide) ⟨(Or.inr (Or.inr (Or.inl ⟨esw1_, rfl⟩))), rfl⟩
  · refine lv_tableIn (tgt := 56) hx hb dX4_join_1 (by decide) (by decide) rfl (by decide) ?_
    have g4_ : rg (2004) (2004) s_ := rg_eq esw1_.symm (rg_lit (by decide) : rg (2004) (2004) (2004 : Int32))
    refine lv_lload_n hx hb dX4_join_56 rfl (lv_at hl 1 rfl) ?_
    refine lv_lload_n hx hb dX4_join_57 rfl (lv_at hl 2 rfl) ?_
    refine W.lcmp hx hb dX4_join_58 ?_
    refine joinT (D := D) (A := A) (pc := 67) (mL := 5) (τ := Int64) (WS := fun i => []) (LV := fun i => [(0, .int s_), (1, .long x_), (3, .long y_)]) (ST := fun i => [.long i]) (cells := 0) (slots := 0) (fun i => R_X4_join_j2 x_ y_ i) (fun w206700_ H locs ls hI hP hD hS hl => ?_) (fun j67_ => ?_)
    · have hI : R_X4_join_j2 x_ y_ w206700_ := hI
      have hR2_ := hI
      have hP : va_P D vwCl [] H := hP
      have hD := va_ca hP hD
      have hl : lv_has ls 5 [(0, .int s_), (1, .long x_), (3, .long y_)] := hl
      exact rL hX hE hP hD hS dX4_join_67 (by decide) (by decide) ⟨(Or.inr (Or.inr (Or.inr (Or.inl ⟨w206700_, esw1_, hR2_, rfl⟩)))), rfl⟩
    refine lv_if_ne (tgt := 66) hx hb dX4_join_59 (by decide) (fun c59_ => ?_) (fun c59_ => ?_)
    · refine lv_lconst (v := 0) hx hb dX4_join_66 (by decide) ?_
      exact j67_ 0 _ _ ls (Or.inl ⟨c59_, rfl⟩) hP hD hS (lv_sub hl [0, 1, 2] rfl)
    · refine lv_lconst (v := 1) hx hb dX4_join_62 (by decide) ?_
      refine lv_goto (tgt := 67) hx hb dX4_join_63 (by decide) ?_
      exact j67_ 1 _ _ ls (Or.inr (Or.inl ⟨c59_, rfl⟩)) hP hD hS (lv_sub hl [0, 1, 2] rfl)
  · refine lv_tableIn (tgt := 68) hx hb dX4_join_1 (by decide) (by decide) rfl (by decide) ?_
    have g5_ : rg (2005) (2005) s_ := rg_eq esw1_.symm (rg_lit (by decide) : rg (2005) (2005) (2005 : Int32))
    refine lv_lload_n hx hb dX4_join_68 rfl (lv_at hl 1 rfl) ?_
    refine lv_lload_n hx hb dX4_join_69 rfl (lv_at hl 2 rfl) ?_
    refine W.lcmp hx hb dX4_join_70 ?_
    refine joinT (D := D) (A := A) (pc := 79) (mL := 5) (τ := Int64) (WS := fun i => []) (LV := fun i => [(0, .int s_), (1, .long x_), (3, .long y_)]) (ST := fun i => [.long i]) (cells := 0) (slots := 0) (fun i => R_X4_join_j3 x_ y_ i) (fun w207900_ H locs ls hI hP hD hS hl => ?_) (fun j79_ => ?_)
    · have hI : R_X4_join_j3 x_ y_ w207900_ := hI
      have hR3_ := hI
      have hP : va_P D vwCl [] H := hP
      have hD := va_ca hP hD
      have hl : lv_has ls 5 [(0, .int s_), (1, .long x_), (3, .long y_)] := hl
      exact rL hX hE hP hD hS dX4_join_79 (by decide) (by decide) ⟨(Or.inr (Or.inr (Or.inr (Or.inr (Or.inl ⟨w207900_, esw1_, hR3_, rfl⟩))))), rfl⟩
    refine lv_if_ge (tgt := 78) hx hb dX4_join_71 (by decide) (fun c71_ => ?_) (fun c71_ => ?_)
    · refine lv_lconst (v := 0) hx hb dX4_join_78 (by decide) ?_
      exact j79_ 0 _ _ ls (Or.inl ⟨c71_, rfl⟩) hP hD hS (lv_sub hl [0, 1, 2] rfl)
    · have g6_ : rl (-9223372036854775808) (9223372036854775806) x_ := rl_lt1 (rl_nle (fun q9 => c71_ ((lg_cmp_ge _ _).mpr q9))) (rl_any _) (rl_any _) (by decide)
      have g7_ : rl (-9223372036854775807) (9223372036854775807) y_ := rl_lt2 (rl_nle (fun q9 => c71_ ((lg_cmp_ge _ _).mpr q9))) (rl_any _) (rl_any _) (by decide)
      refine lv_lconst (v := 1) hx hb dX4_join_74 (by decide) ?_
      refine lv_goto (tgt := 79) hx hb dX4_join_75 (by decide) ?_
      exact j79_ 1 _ _ ls (Or.inr (Or.inl ⟨c71_, rfl⟩)) hP hD hS (lv_sub hl [0, 1, 2] rfl)
  · refine lv_tableIn (tgt := 80) hx hb dX4_join_1 (by decide) (by decide) rfl (by decide) ?_
    have g8_ : rg (2006) (2006) s_ := rg_eq esw1_.symm (rg_lit (by decide) : rg (2006) (2006) (2006 : Int32))
    refine lv_lload_n hx hb dX4_join_80 rfl (lv_at hl 1 rfl) ?_
    refine lv_lload_n hx hb dX4_join_81 rfl (lv_at hl 2 rfl) ?_
    refine W.lcmp hx hb dX4_join_82 ?_
    refine joinT (D := D) (A := A) (pc := 91) (mL := 5) (τ := Int64) (WS := fun i => []) (LV := fun i => [(0, .int s_), (1, .long x_), (3, .long y_)]) (ST := fun i => [.long i]) (cells := 0) (slots := 0) (fun i => R_X4_join_j4 x_ y_ i) (fun w209100_ H locs ls hI hP hD hS hl => ?_) (fun j91_ => ?_)
    · have hI : R_X4_join_j4 x_ y_ w209100_ := hI
      have hR4_ := hI
      have hP : va_P D vwCl [] H := hP
      have hD := va_ca hP hD
      have hl : lv_has ls 5 [(0, .int s_), (1, .long x_), (3, .long y_)] := hl
      exact rL hX hE hP hD hS dX4_join_91 (by decide) (by decide) ⟨(Or.inr (Or.inr (Or.inr (Or.inr (Or.inr (Or.inl ⟨w209100_, esw1_, hR4_, rfl⟩)))))), rfl⟩
    refine lv_if_le (tgt := 90) hx hb dX4_join_83 (by decide) (fun c83_ => ?_) (fun c83_ => ?_)
    · refine lv_lconst (v := 0) hx hb dX4_join_90 (by decide) ?_
      exact j91_ 0 _ _ ls (Or.inl ⟨c83_, rfl⟩) hP hD hS (lv_sub hl [0, 1, 2] rfl)
    · have g9_ : rl (-9223372036854775808) (9223372036854775806) y_ := rl_lt1 (rl_nle (fun q9 => c83_ ((lg_cmp_le _ _).mpr q9))) (rl_any _) (rl_any _) (by decide)
      have g10_ : rl (-9223372036854775807) (9223372036854775807) x_ := rl_lt2 (rl_nle (fun q9 => c83_ ((lg_cmp_le _ _).mpr q9))) (rl_any _) (rl_any _) (by decide)
      refine lv_lconst (v := 1) hx hb dX4_join_86 (by decide) ?_
      refine lv_goto (tgt := 91) hx hb dX4_join_87 (by decide) ?_
      exact j91_ 1 _ _ ls (Or.inr (Or.inl ⟨c83_, rfl⟩)) hP hD hS (lv_sub hl [0, 1, 2] rfl)
  · refine lv_tableIn (tgt := 92) hx hb dX4_join_1 (by decide) (by decide) rfl (by decide) ?_
    have g11_ : rg (2007) (2007) s_ := rg_eq esw1_.symm (rg_lit (by decide) : rg (2007) (2007) (2007 : Int32))
    refine lv_lload_n hx hb dX4_join_92 rfl (lv_at hl 1 rfl) ?_
    refine lv_lconst (v := 0) hx hb dX4_join_93 (by decide) ?_
    refine W.lcmp hx hb dX4_join_94 ?_
    refine joinT (D := D) (A := A) (pc := 109) (mL := 5) (τ := Int64) (WS := fun i => []) (LV := fun i => [(0, .int s_), (1, .long x_), (3, .long y_)]) (ST := fun i => [.long i]) (cells := 0) (slots := 0) (fun i => R_X4_join_j5 x_ y_ i) (fun w210900_ H locs ls hI hP hD hS hl => ?_) (fun j109_ => ?_)
    · have hI : R_X4_join_j5 x_ y_ w210900_ := hI
      have hR5_ := hI
      have hP : va_P D vwCl [] H := hP
      have hD := va_ca hP hD
      have hl : lv_has ls 5 [(0, .int s_), (1, .long x_), (3, .long y_)] := hl
      exact rL hX hE hP hD hS dX4_join_109 (by decide) (by decide) ⟨(Or.inr (Or.inr (Or.inr (Or.inr (Or.inr (Or.inr (Or.inl ⟨w210900_, esw1_, hR5_, rfl⟩))))))), rfl⟩
    refine joinT (D := D) (A := A) (pc := 108) (mL := 5) (τ := Unit) (WS := fun i => []) (LV := fun i => [(0, .int s_), (1, .long x_), (3, .long y_)]) (ST := fun i => []) (cells := 0) (slots := 0) (fun i => R_X4_join_j6 x_ y_) (fun u0_ H locs ls hI hP hD hS hl => ?_) (fun j108_ => ?_)
    · have hI : R_X4_join_j6 x_ y_ := hI
      have hR6_ := hI
      have hP : va_P D vwCl [] H := hP
      have hD := va_ca hP hD
      have hl : lv_has ls 5 [(0, .int s_), (1, .long x_), (3, .long y_)] := hl
      refine lv_lconst (v := 0) hx hb dX4_join_108 (by decide) ?_
      exact j109_ 0 _ _ ls (Or.inl ⟨hR6_, rfl⟩) hP hD hS (lv_sub hl [0, 1, 2] rfl)
    refine lv_if_eq (tgt := 108) hx hb dX4_join_95 (by decide) (fun c95_ => ?_) (fun c95_ => ?_)
    · have g12_ : rl (0) (0) x_ := rl_eq ((lg_cmp_eq _ _).mp c95_) (rl_lit (by decide) : rl (0) (0) (0 : Int64))
      exact j108_ () _ _ ls (Or.inl c95_) hP hD hS (lv_sub hl [0, 1, 2] rfl)
    · refine lv_lload_n hx hb dX4_join_98 rfl (lv_at hl 2 rfl) ?_
      refine lv_lconst (v := 0) hx hb dX4_join_99 (by decide) ?_
      refine W.lcmp hx hb dX4_join_100 ?_
      refine lv_if_eq (tgt := 108) hx hb dX4_join_101 (by decide) (fun c101_ => ?_) (fun c101_ => ?_)
      · have g13_ : rl (0) (0) y_ := rl_eq ((lg_cmp_eq _ _).mp c101_) (rl_lit (by decide) : rl (0) (0) (0 : Int64))
        exact j108_ () _ _ ls (Or.inr (Or.inl ⟨c95_, c101_⟩)) hP hD hS (lv_sub hl [0, 1, 2] rfl)
      · refine lv_lconst (v := 1) hx hb dX4_join_104 (by decide) ?_
        refine lv_goto (tgt := 109) hx hb dX4_join_105 (by decide) ?_
        exact j109_ 1 _ _ ls (Or.inr (Or.inl ⟨c95_, c101_, rfl⟩)) hP hD hS (lv_sub hl [0, 1, 2] rfl)
  · refine lv_tableOut (tgt := 110) hx hb dX4_join_1 c1_ (by decide) ?_
    refine lv_lload_n hx hb dX4_join_110 rfl (lv_at hl 1 rfl) ?_
    refine lv_lconst (v := 0) hx hb dX4_join_111 (by decide) ?_
    refine W.lcmp hx hb dX4_join_112 ?_
    refine joinT (D := D) (A := A) (pc := 127) (mL := 5) (τ := Int64) (WS := fun i => []) (LV := fun i => [(0, .int s_), (1, .long x_), (3, .long y_)]) (ST := fun i => [.long i]) (cells := 0) (slots := 0) (fun i => R_X4_join_j7 x_ y_ i) (fun w212700_ H locs ls hI hP hD hS hl => ?_) (fun j127_ => ?_)
    · have hI : R_X4_join_j7 x_ y_ w212700_ := hI
      have hR7_ := hI
      have hP : va_P D vwCl [] H := hP
      have hD := va_ca hP hD
      have hl : lv_has ls 5 [(0, .int s_), (1, .long x_), (3, .long y_)] := hl
      exact rL hX hE hP hD hS dX4_join_127 (by decide) (by decide) ⟨(Or.inr (Or.inr (Or.inr (Or.inr (Or.inr (Or.inr (Or.inr (Or.inl ⟨sw1_, w212700_, esw1_, c1_, hR7_, rfl⟩)))))))), rfl⟩
    refine joinT (D := D) (A := A) (pc := 122) (mL := 5) (τ := Unit) (WS := fun i => []) (LV := fun i => [(0, .int s_), (1, .long x_), (3, .long y_)]) (ST := fun i => []) (cells := 0) (slots := 0) (fun i => R_X4_join_j8 x_ y_) (fun u0_ H locs ls hI hP hD hS hl => ?_) (fun j122_ => ?_)
    · have hI : R_X4_join_j8 x_ y_ := hI
      have hR8_ := hI
      have hP : va_P D vwCl [] H := hP
      have hD := va_ca hP hD
      have hl : lv_has ls 5 [(0, .int s_), (1, .long x_), (3, .long y_)] := hl
      refine lv_lconst (v := 1) hx hb dX4_join_122 (by decide) ?_
      refine lv_goto (tgt := 127) hx hb dX4_join_123 (by decide) ?_
      exact j127_ 1 _ _ ls (Or.inl ⟨hR8_, rfl⟩) hP hD hS (lv_sub hl [0, 1, 2] rfl)
    refine lv_if_ne (tgt := 122) hx hb dX4_join_113 (by decide) (fun c113_ => ?_) (fun c113_ => ?_)
    · exact j122_ () _ _ ls (Or.inl c113_) hP hD hS (lv_sub hl [0, 1, 2] rfl)
    · have g14_ : rl (0) (0) x_ := rl_eq ((lg_cmp_eq _ _).mp c113_) (rl_lit (by decide) : rl (0) (0) (0 : Int64))
      refine lv_lload_n hx hb dX4_join_116 rfl (lv_at hl 2 rfl) ?_
      refine lv_lconst (v := 0) hx hb dX4_join_117 (by decide) ?_
      refine W.lcmp hx hb dX4_join_118 ?_
      refine lv_if_eq (tgt := 126) hx hb dX4_join_119 (by decide) (fun c119_ => ?_) (fun c119_ => ?_)
      · have g15_ : rl (0) (0) y_ := rl_eq ((lg_cmp_eq _ _).mp c119_) (rl_lit (by decide) : rl (0) (0) (0 : Int64))
        refine lv_lconst (v := 0) hx hb dX4_join_126 (by decide) ?_
        exact j127_ 0 _ _ ls (Or.inr (Or.inl ⟨c113_, c119_, rfl⟩)) hP hD hS (lv_sub hl [0, 1, 2] rfl)
      · exact j122_ () _ _ ls (Or.inr (Or.inl ⟨c113_, c119_⟩)) hP hD hS (lv_sub hl [0, 1, 2] rfl)
def R_X4_value_j5 (v10180_ : Int32) (fgH_ : Nat → Int32) (v215200_ : Int32) : Prop := (∃ (v11510_ : Int32), (1000 : Int32) ≤ v10180_ ∧ v11510_ = fgH_ ((if 5 < (v10180_ - 1000) then 5 else (v10180_ - 1000))).toNatClampNeg ∧ v215200_ = v11510_) ∨ (¬ ((1000 : Int32) ≤ v10180_) ∧ v215200_ = v10180_) ∨ False
def R_X4_value_j4 (v10180_ : Int32) (v200401_ : Int32) (g200402_ : Nat → Int32) (fgH_ : Nat → Int32) (v215600_ : Int32) (g215601_ : Nat → Int32) : Prop := (¬ v10180_ = (2000 : Int32) ∧ v10180_ ≤ (2000 : Int32) ∧ (32 : Int32) ≤ v200401_ ∧ v215600_ = v200401_ ∧ g215601_ = g200402_) ∨ (∃ (v215200_ : Int32), ¬ v10180_ = (2000 : Int32) ∧ v10180_ ≤ (2000 : Int32) ∧ ¬ ((32 : Int32) ≤ v200401_) ∧ R_X4_value_j5 v10180_ fgH_ v215200_ ∧ v215600_ = v200401_ + 1 ∧ g215601_ = upd g200402_ v200401_.toNatClampNeg v215200_) ∨ (¬ v10180_ = (2000 : Int32) ∧ ¬ (v10180_ ≤ (2000 : Int32)) ∧ v200401_ < (2 : Int32) ∧ v215600_ = v200401_ ∧ g215601_ = g200402_) ∨ (∃ (v10760_ : Int32) (v10830_ : Int32) (w10850_ : Int64) (w11050_ : Int64) (w11080_ : Int64), ¬ v10180_ = (2000 : Int32) ∧ ¬ (v10180_ ≤ (2000 : Int32)) ∧ ¬ (v200401_ < (2 : Int32)) ∧ v10760_ = g200402_ ((v200401_ + (-1)) - 1).toNatClampNeg ∧ v10830_ = g200402_ (v200401_ + (-1)).toNatClampNeg ∧ R_X4_join_e v10180_ v10760_.toInt64 v10830_.toInt64 w10850_ ∧ R_J9_min_f86c9_e ((1000000 : Int64)) w10850_ w11050_ ∧ R_J9_max_f86c9_e (((-1000000) : Int64)) w11050_ w11080_ ∧ v215600_ = v200401_ + (-1) ∧ g215601_ = upd g200402_ (((v200401_ + (-1)) - 1).toNatClampNeg) w11080_.toInt32) ∨ (v10180_ = (2000 : Int32) ∧ v200401_ < (1 : Int32) ∧ v215600_ = v200401_ ∧ g215601_ = g200402_) ∨ (∃ (v10470_ : Int32), v10180_ = (2000 : Int32) ∧ ¬ (v200401_ < (1 : Int32)) ∧ v10470_ = g200402_ (v200401_ - 1).toNatClampNeg ∧ v215600_ = v200401_ ∧ g215601_ = upd g200402_ ((v200401_ - 1).toNatClampNeg) (1 - v10470_)) ∨ False
def R_X4_value_b1 (lenH_ : Nat) (fpH_ : Nat → Int32) (fgH_ : Nat → Int32) (uZ_ vZ_ : Int32 × Int32 × (Nat → Int32)) : Prop := (∃ (v10180_ : Int32) (v215600_ : Int32) (g215601_ : Nat → Int32), ¬ ((Int32.ofNat lenH_) ≤ uZ_.1) ∧ v10180_ = fpH_ uZ_.1.toNatClampNeg ∧ R_X4_value_j4 v10180_ uZ_.2.1 uZ_.2.2 fgH_ v215600_ g215601_ ∧ vZ_ = (uZ_.1 + 1, v215600_, g215601_)) ∨ False
def R_X4_value_j2 (v200401_ : Int32) (g200402_ : Nat → Int32) (v217600_ : Int32) : Prop := (v200401_ ≤ (0 : Int32) ∧ v217600_ = (0 : Int32)) ∨ (∃ (v11710_ : Int32), ¬ (v200401_ ≤ (0 : Int32)) ∧ v11710_ = g200402_ (0 : Int32).toNatClampNeg ∧ v217600_ = v11710_) ∨ False
def R_X4_value_e (lenH_ : Nat) (fpH_ : Nat → Int32) (fgH_ : Nat → Int32) (fkH_ : Nat → Int32) (x0_ : Nat → Int32) (r : Int32) : Prop := (∃ (v200400_ : Int32) (v200401_ : Int32) (g200402_ : Nat → Int32) (v217600_ : Int32), Itr (R_X4_value_b1 lenH_ fpH_ fgH_) (0, 0, fkH_) (v200400_, v200401_, g200402_) ∧ (Int32.ofNat lenH_) ≤ v200400_ ∧ R_X4_value_j2 v200401_ g200402_ v217600_ ∧ x0_ = g200402_ ∧ r = v217600_) ∨ False
set_option maxHeartbeats 4000000 in
set_option maxRecDepth 100000 in
theorem sf_X4_value (l : Launch) (D : va_G) (cy : Nat → ClassId) (nLH_ : Nat) (npH_ : Nat) (ngH_ : Nat) (nkH_ : Nat) (lenH_ : Nat) (fpH_ : Nat → Int32) (fgH_ : Nat → Int32) (fkH_ : Nat → Int32) (hlenH_ : lenH_ ≤ 900) : Ci l yX4_value cX4_value 6 (some .int) { frames := 1, cells := 0, slots := 0, locals := 30 } D cy [.ref nLH_] [(nLH_, .inr (4, [.ref npH_, .ref ngH_, .ref nkH_])), (npH_, .inl (cy 0, lenH_, .inl (fpH_))), (ngH_, .inl (cy 0, 6, .inl (fgH_))), (nkH_, .inl (cy 0, 32, .inl (fkH_)))] (fun r W1 => ∃ (x0_ : Nat → Int32), R_X4_value_e lenH_ fpH_ fgH_ fkH_ x0_ r ∧ W1 = [(nLH_, .inr (4, [.ref npH_, .ref ngH_, .ref nkH_])), (npH_, .inl (cy 0, lenH_, .inl (fpH_))), (ngH_, .inl (cy 0, 6, .inl (fgH_))), (nkH_, .inl (cy 0, 32, .inl (x0_)))]) := by
  refine Ci.of (by decide) (Nat.le_of_ble_eq_true rfl) ?_
  intro p e s m below meth c A ls hX hE hP hD hl
  obtain ⟨hx, hb, hr, hml, hown, htA, hlk⟩ := id hX
  have hK := hE.1
  have hS : va_S A s.heap s.heap [] := va_S.rf
  have hl : lv_has ls 6 [(0, .ref nLH_)] := hl
  refine lv_iconst (v := 0) hx hb dX4_value_0 (by decide) ?_
  refine lv_istore_n (lv' := [(1, .int 0), (0, .ref nLH_)]) hx hb dX4_value_1 rfl hl (by decide) rfl (fun ls hl => ?_)
  refine lv_iconst (v := 0) hx hb dX4_value_2 (by decide) ?_
  refine lv_istore_n (lv' := [(2, .int 0), (1, .int 0), (0, .ref nLH_)]) hx hb dX4_value_3 rfl hl (by decide) rfl (fun ls hl => ?_)
  refine loopT (τ := Int32 × Int32 × (Nat → Int32)) (WS := fun i => [(nLH_, .inr (4, [.ref npH_, .ref ngH_, .ref nkH_])), (npH_, .inl (cy 0, lenH_, .inl (fpH_))), (ngH_, .inl (cy 0, 6, .inl (fgH_))), (nkH_, .inl (cy 0, 32, .inl (i.2.2)))]) (LV := fun i => [(2, .int i.1), (1, .int i.2.1), (0, .ref nLH_)]) (fun i => (1001 - i.1.toInt).toNat) (fun i => rg (0) (1000) i.1 ∧ rg (0) (32) i.2.1 ∧ Itr (R_X4_value_b1 lenH_ fpH_ fgH_) (0, 0, fkH_) (i.1, i.2.1, i.2.2)) ?_ (0, 0, fkH_) ⟨(rg_w (rg_lit (by decide) : rg (0) (0) (0 : Int32)) (by decide) (by decide)), (rg_w (rg_lit (by decide) : rg (0) (0) (0 : Int32)) (by decide) (by decide)), (Itr.rf _ _)⟩ hP hD hS (lv_sub hl [0, 1, 2] rfl)
  intro i_ H locs ls hI ih4_ hP hD hS hl
  obtain ⟨v200400_, v200401_, g200402_⟩ := i_
  have hI : rg (0) (1000) v200400_ ∧ rg (0) (32) v200401_ ∧ Itr (R_X4_value_b1 lenH_ fpH_ fgH_) (0, 0, fkH_) (v200400_, v200401_, g200402_) := hI
  obtain ⟨rv200400_, rv200401_, hR1_⟩ := hI
  have hP : va_P D vwCl [(nLH_, .inr (4, [.ref npH_, .ref ngH_, .ref nkH_])), (npH_, .inl (cy 0, lenH_, .inl (fpH_))), (ngH_, .inl (cy 0, 6, .inl (fgH_))), (nkH_, .inl (cy 0, 32, .inl (g200402_)))] H := hP
  have hD := va_ca hP hD
  have hl : lv_has ls 6 [(2, .int v200400_), (1, .int v200401_), (0, .ref nLH_)] := hl
  refine lv_iload_n hx hb dX4_value_4 rfl (lv_at hl 0 rfl) ?_
  refine lv_aload_n hx hb dX4_value_5 rfl (lv_at hl 2 rfl) ?_
  refine va_get (ci := 4) (v := .ref npH_) (C := RX4) (T := TX4) (N := 3) hx hb htA in_X4 hown hK hP 0 rfl rfl 0 (by decide) (htA _ wd_821) (fun _ h => h) rfl dX4_value_6 ?_
  refine va_alen (v := Int32.ofNat lenH_) hx hb hK hP 1 0 rfl rfl rfl dX4_value_9 ?_
  have g1_ : rg (0) (900) (Int32.ofNat lenH_) := rg_len hlenH_ (by decide)
  refine lv_icmp_ge (tgt := 162) hx hb dX4_value_10 (by decide) (fun c10_ => ?_) (fun c10_ => ?_)
  · refine lv_iload_n hx hb dX4_value_162 rfl (lv_at hl 1 rfl) ?_
    refine joinT (D := D) (A := A) (pc := 176) (mL := 6) (τ := Int32) (WS := fun i => [(nLH_, .inr (4, [.ref npH_, .ref ngH_, .ref nkH_])), (npH_, .inl (cy 0, lenH_, .inl (fpH_))), (ngH_, .inl (cy 0, 6, .inl (fgH_))), (nkH_, .inl (cy 0, 32, .inl (g200402_)))]) (LV := fun i => [(2, .int v200400_), (1, .int v200401_), (0, .ref nLH_)]) (ST := fun i => [.int i]) (cells := 0) (slots := 0) (fun i => R_X4_value_j2 v200401_ g200402_ i) (fun v217600_ H locs ls hI hP hD hS hl => ?_) (fun j176_ => ?_)
    · have hI : R_X4_value_j2 v200401_ g200402_ v217600_ := hI
      have hR2_ := hI
      have hP : va_P D vwCl [(nLH_, .inr (4, [.ref npH_, .ref ngH_, .ref nkH_])), (npH_, .inl (cy 0, lenH_, .inl (fpH_))), (ngH_, .inl (cy 0, 6, .inl (fgH_))), (nkH_, .inl (cy 0, 32, .inl (g200402_)))] H := hP
      have hD := va_ca hP hD
      have hl : lv_has ls 6 [(2, .int v200400_), (1, .int v200401_), (0, .ref nLH_)] := hl
      exact rI hX hE hP hD hS dX4_value_176 (by decide) (by decide) ⟨g200402_, (Or.inl ⟨v200400_, v200401_, g200402_, v217600_, hR1_, c10_, hR2_, rfl, rfl⟩), rfl⟩
    refine lv_if_le (tgt := 175) hx hb dX4_value_163 (by decide) (fun c163_ => ?_) (fun c163_ => ?_)
    · have g2_ : rg (0) (0) v200401_ := rg_le1 c163_ rv200401_ (rg_lit (by decide) : rg (0) (0) (0 : Int32)) (by decide)
      refine lv_iconst (v := 0) hx hb dX4_value_175 (by decide) ?_
      exact j176_ 0 _ _ ls (Or.inl ⟨c163_, rfl⟩) hP hD hS (lv_sub hl [0, 1, 2] rfl)
    · have g3_ : rg (1) (32) v200401_ := rg_lt2 (rg_nle c163_) (rg_lit (by decide) : rg (0) (0) (0 : Int32)) rv200401_ (by decide)
      refine lv_aload_n hx hb dX4_value_166 rfl (lv_at hl 2 rfl) ?_
      refine va_get (ci := 4) (v := .ref nkH_) (C := RX4) (T := TX4) (N := 3) hx hb htA in_X4 hown hK hP 0 rfl rfl 2 (by decide) (htA _ wd_825) (fun _ h => h) rfl dX4_value_167 ?_
      refine lv_iconst (v := 0) hx hb dX4_value_170 (by decide) ?_
      refine va_iald hx hb hK hP 3 0 rfl rfl (in_lit (by decide)) dX4_value_171 ?_
      refine lv_topi (fun v11710_ ev11710_ => ?_)
      refine lv_goto (tgt := 176) hx hb dX4_value_172 (by decide) ?_
      exact j176_ v11710_ _ _ ls (Or.inr (Or.inl ⟨v11710_, c163_, ev11710_, rfl⟩)) hP hD hS (lv_sub hl [0, 1, 2] rfl)
  · have g4_ : rg (0) (899) v200400_ := rg_lt1 (rg_nle c10_) rv200400_ g1_ (by decide)
    have g5_ : rg (1) (900) (Int32.ofNat lenH_) := rg_lt2 (rg_nle c10_) rv200400_ g1_ (by decide)
    refine lv_aload_n hx hb dX4_value_13 rfl (lv_at hl 2 rfl) ?_
    refine va_get (ci := 4) (v := .ref npH_) (C := RX4) (T := TX4) (N := 3) hx hb htA in_X4 hown hK hP 0 rfl rfl 0 (by decide) (htA _ wd_821) (fun _ h => h) rfl dX4_value_14 ?_
    refine lv_iload_n hx hb dX4_value_17 rfl (lv_at hl 0 rfl) ?_
    refine va_iald hx hb hK hP 1 0 rfl rfl (ln_in (rg_nle c10_) g4_ (by decide) (hlenH_)) dX4_value_18 ?_
    refine lv_topi (fun v10180_ ev10180_ => ?_)
    refine lv_istore_n (lv' := [(3, .int v10180_), (2, .int v200400_), (1, .int v200401_), (0, .ref nLH_)]) hx hb dX4_value_19 rfl hl (by decide) rfl (fun ls hl => ?_)
    refine lv_iload_n hx hb dX4_value_20 rfl (lv_at hl 0 rfl) ?_
    refine lv_sipush (v := 2000) hx hb dX4_value_21 (by decide) ?_
    refine joinT (D := D) (A := A) (pc := 156) (mL := 6) (τ := Int32 × (Nat → Int32)) (WS := fun i => [(nLH_, .inr (4, [.ref npH_, .ref ngH_, .ref nkH_])), (npH_, .inl (cy 0, lenH_, .inl (fpH_))), (ngH_, .inl (cy 0, 6, .inl (fgH_))), (nkH_, .inl (cy 0, 32, .inl (i.2)))]) (LV := fun i => [(3, .int v10180_), (2, .int v200400_), (1, .int i.1), (0, .ref nLH_)]) (ST := fun i => []) (cells := 0) (slots := 0) (fun i => rg (0) (32) i.1 ∧ R_X4_value_j4 v10180_ v200401_ g200402_ fgH_ i.1 i.2) (fun i_ H locs ls hI hP hD hS hl => ?_) (fun j156_ => ?_)
    · obtain ⟨v215600_, g215601_⟩ := i_
      have hI : rg (0) (32) v215600_ ∧ R_X4_value_j4 v10180_ v200401_ g200402_ fgH_ v215600_ g215601_ := hI
      obtain ⟨rv215600_, hR4_⟩ := hI
      have hP : va_P D vwCl [(nLH_, .inr (4, [.ref npH_, .ref ngH_, .ref nkH_])), (npH_, .inl (cy 0, lenH_, .inl (fpH_))), (ngH_, .inl (cy 0, 6, .inl (fgH_))), (nkH_, .inl (cy 0, 32, .inl (g215601_)))] H := hP
      have hD := va_ca hP hD
      have hl : lv_has ls 6 [(3, .int v10180_), (2, .int v200400_), (1, .int v215600_), (0, .ref nLH_)] := hl
      refine lv_iinc (v := v200400_ + 1) (lv' := [(2, .int (v200400_ + 1)), (3, .int v10180_), (1, .int v215600_), (0, .ref nLH_)]) hx hb dX4_value_156 hl (k := 1) rfl rfl (by decide) rfl (fun ls hl => ?_)
      have g6_ : rg (1) (900) (v200400_ + 1) := rg_add g4_ (rg_lit (by decide) : rg (1) (1) (1 : Int32)) (by decide) (by decide) (by decide) (by decide)
      refine lv_goto (tgt := 4) hx hb dX4_value_159 (by decide) ?_
      exact ih4_ (v200400_ + 1, v215600_, g215601_) _ _ ls ⟨(rg_w g6_ (by decide) (by decide)), (rg_w rv215600_ (by decide) (by decide)), (Itr.st hR1_ (Or.inl ⟨v10180_, v215600_, g215601_, c10_, ev10180_, hR4_, rfl⟩))⟩ (show (1001 - (v200400_ + 1).toInt).toNat < (1001 - v200400_.toInt).toNat from by rw [show (v200400_ + 1).toInt = v200400_.toInt + 1 from inc32 v200400_ (by have hq := (rv200400_).2; omega)]; have hq := (g4_).1; have hq2 := (g4_).2; omega) hP hD hS (lv_sub hl [0, 2, 3] rfl)
    refine lv_icmp_ne (tgt := 53) hx hb dX4_value_24 (by decide) (fun c24_ => ?_) (fun c24_ => ?_)
    · refine lv_iload_n hx hb dX4_value_53 rfl (lv_at hl 0 rfl) ?_
      refine lv_sipush (v := 2000) hx hb dX4_value_54 (by decide) ?_
      refine lv_icmp_le (tgt := 116) hx hb dX4_value_57 (by decide) (fun c57_ => ?_) (fun c57_ => ?_)
      · have g7_ : rg (-2147483648) (2000) v10180_ := rg_le1 c57_ (rg_any _) (rg_lit (by decide) : rg (2000) (2000) (2000 : Int32)) (by decide)
        refine lv_iload_n hx hb dX4_value_116 rfl (lv_at hl 2 rfl) ?_
        refine lv_bipush (v := 32) hx hb dX4_value_117 (by decide) ?_
        refine lv_icmp_ge (tgt := 156) hx hb dX4_value_119 (by decide) (fun c119_ => ?_) (fun c119_ => ?_)
        · have g8_ : rg (32) (32) v200401_ := rg_le2 c119_ (rg_lit (by decide) : rg (32) (32) (32 : Int32)) rv200401_ (by decide)
          exact j156_ (v200401_, g200402_) _ _ ls ⟨(rg_w g8_ (by decide) (by decide)), (Or.inl ⟨c24_, c57_, c119_, rfl, rfl⟩)⟩ hP hD hS (lv_sub hl [0, 1, 2, 3] rfl)
        · have g9_ : rg (0) (31) v200401_ := rg_lt1 (rg_nle c119_) rv200401_ (rg_lit (by decide) : rg (32) (32) (32 : Int32)) (by decide)
          refine lv_aload_n hx hb dX4_value_122 rfl (lv_at hl 3 rfl) ?_
          refine va_get (ci := 4) (v := .ref nkH_) (C := RX4) (T := TX4) (N := 3) hx hb htA in_X4 hown hK hP 0 rfl rfl 2 (by decide) (htA _ wd_825) (fun _ h => h) rfl dX4_value_123 ?_
          refine lv_iload_n hx hb dX4_value_126 rfl (lv_at hl 2 rfl) ?_
          refine lv_iload_n hx hb dX4_value_127 rfl (lv_at hl 0 rfl) ?_
          refine lv_sipush (v := 1000) hx hb dX4_value_128 (by decide) ?_
          refine joinT (D := D) (A := A) (pc := 152) (mL := 6) (τ := Int32) (WS := fun i => [(nLH_, .inr (4, [.ref npH_, .ref ngH_, .ref nkH_])), (npH_, .inl (cy 0, lenH_, .inl (fpH_))), (ngH_, .inl (cy 0, 6, .inl (fgH_))), (nkH_, .inl (cy 0, 32, .inl (g200402_)))]) (LV := fun i => [(3, .int v10180_), (2, .int v200400_), (1, .int v200401_), (0, .ref nLH_)]) (ST := fun i => [.int i, .int v200401_, .ref nkH_]) (cells := 0) (slots := 0) (fun i => R_X4_value_j5 v10180_ fgH_ i) (fun v215200_ H locs ls hI hP hD hS hl => ?_) (fun j152_ => ?_)
          · have hI : R_X4_value_j5 v10180_ fgH_ v215200_ := hI
            have hR5_ := hI
            have hP : va_P D vwCl [(nLH_, .inr (4, [.ref npH_, .ref ngH_, .ref nkH_])), (npH_, .inl (cy 0, lenH_, .inl (fpH_))), (ngH_, .inl (cy 0, 6, .inl (fgH_))), (nkH_, .inl (cy 0, 32, .inl (g200402_)))] H := hP
            have hD := va_ca hP hD
            have hl : lv_has ls 6 [(3, .int v10180_), (2, .int v200400_), (1, .int v200401_), (0, .ref nLH_)] := hl
            refine va_iast hx hb hK hP hD hS 3 0 rfl rfl (rg_in g9_ (by decide) (by decide)) dX4_value_152 (fun H locs hP hD hS => ?_)
            have hP : va_P D vwCl [(nLH_, .inr (4, [.ref npH_, .ref ngH_, .ref nkH_])), (npH_, .inl (cy 0, lenH_, .inl (fpH_))), (ngH_, .inl (cy 0, 6, .inl (fgH_))), (nkH_, .inl (cy 0, 32, .inl (upd g200402_ v200401_.toNatClampNeg v215200_)))] H := hP
            have hD := va_ca hP hD
            refine lv_iinc (v := v200401_ + 1) (lv' := [(1, .int (v200401_ + 1)), (3, .int v10180_), (2, .int v200400_), (0, .ref nLH_)]) hx hb dX4_value_153 hl (k := 2) rfl rfl (by decide) rfl (fun ls hl => ?_)
            have g10_ : rg (1) (32) (v200401_ + 1) := rg_add g9_ (rg_lit (by decide) : rg (1) (1) (1 : Int32)) (by decide) (by decide) (by decide) (by decide)
            exact j156_ (v200401_ + 1, upd g200402_ v200401_.toNatClampNeg v215200_) _ _ ls ⟨(rg_w g10_ (by decide) (by decide)), (Or.inr (Or.inl ⟨v215200_, c24_, c57_, c119_, hR5_, rfl, rfl⟩))⟩ hP hD hS (lv_sub hl [1, 2, 0, 3] rfl)
          refine lv_icmp_ge (tgt := 138) hx hb dX4_value_131 (by decide) (fun c131_ => ?_) (fun c131_ => ?_)
          · have g11_ : rg (1000) (2000) v10180_ := rg_le2 c131_ (rg_lit (by decide) : rg (1000) (1000) (1000 : Int32)) g7_ (by decide)
            refine lv_aload_n hx hb dX4_value_138 rfl (lv_at hl 3 rfl) ?_
            refine va_get (ci := 4) (v := .ref ngH_) (C := RX4) (T := TX4) (N := 3) hx hb htA in_X4 hown hK hP 0 rfl rfl 1 (by decide) (htA _ wd_822) (fun _ h => h) rfl dX4_value_139 ?_
            refine lv_iload_n hx hb dX4_value_142 rfl (lv_at hl 0 rfl) ?_
            refine lv_sipush (v := 1000) hx hb dX4_value_143 (by decide) ?_
            refine lv_isub hx hb dX4_value_146 ?_
            have g12_ : rg (0) (1000) (v10180_ - 1000) := rg_subl c131_ g11_ (rg_lit (by decide) : rg (1000) (1000) (1000 : Int32)) (by decide) (by decide)
            refine lv_iconst (v := 5) hx hb dX4_value_147 (by decide) ?_
            refine va_mmin hx hb (hml.trans hl.1.symm) hown (htA _ wd_421) (htA _ wd_422) (htA _ wd_19) (htA _ wd_423) (by decide) (Nat.le_of_ble_eq_true rfl) (by decide) (by decide) dX4_value_148 ?_
            have g13_ : rg (0) (5) (if 5 < (v10180_ - 1000) then 5 else (v10180_ - 1000)) := rg_mn g12_ (rg_lit (by decide) : rg (5) (5) (5 : Int32)) (by decide) (by decide)
            refine va_iald hx hb hK hP 2 0 rfl rfl (rg_in g13_ (by decide) (by decide)) dX4_value_151 ?_
            refine lv_topi (fun v11510_ ev11510_ => ?_)
            exact j152_ v11510_ _ _ ls (Or.inl ⟨v11510_, c131_, ev11510_, rfl⟩) hP hD hS (lv_sub hl [0, 1, 2, 3] rfl)
          · have g14_ : rg (-2147483648) (999) v10180_ := rg_lt1 (rg_nle c131_) g7_ (rg_lit (by decide) : rg (1000) (1000) (1000 : Int32)) (by decide)
            refine lv_iload_n hx hb dX4_value_134 rfl (lv_at hl 0 rfl) ?_
            refine lv_goto (tgt := 152) hx hb dX4_value_135 (by decide) ?_
            exact j152_ v10180_ _ _ ls (Or.inr (Or.inl ⟨c131_, rfl⟩)) hP hD hS (lv_sub hl [0, 1, 2, 3] rfl)
      · have g15_ : rg (2001) (2147483647) v10180_ := rg_lt2 (rg_nle c57_) (rg_lit (by decide) : rg (2000) (2000) (2000 : Int32)) (rg_any _) (by decide)
        refine lv_iload_n hx hb dX4_value_60 rfl (lv_at hl 2 rfl) ?_
        refine lv_iconst (v := 2) hx hb dX4_value_61 (by decide) ?_
        refine lv_icmp_lt (tgt := 156) hx hb dX4_value_62 (by decide) (fun c62_ => ?_) (fun c62_ => ?_)
        · have g16_ : rg (0) (1) v200401_ := rg_lt1 c62_ rv200401_ (rg_lit (by decide) : rg (2) (2) (2 : Int32)) (by decide)
          exact j156_ (v200401_, g200402_) _ _ ls ⟨(rg_w g16_ (by decide) (by decide)), (Or.inr (Or.inr (Or.inl ⟨c24_, c57_, c62_, rfl, rfl⟩)))⟩ hP hD hS (lv_sub hl [0, 1, 2, 3] rfl)
        · have g17_ : rg (2) (32) v200401_ := rg_le2 (rg_nlt c62_) (rg_lit (by decide) : rg (2) (2) (2 : Int32)) rv200401_ (by decide)
          refine lv_iinc (v := v200401_ + (-1)) (lv' := [(1, .int (v200401_ + (-1))), (3, .int v10180_), (2, .int v200400_), (0, .ref nLH_)]) hx hb dX4_value_65 hl (k := 2) rfl rfl (by decide) rfl (fun ls hl => ?_)
          have g18_ : rg (1) (31) (v200401_ + (-1)) := rg_add g17_ (rg_lit (by decide) : rg (-1) (-1) ((-1) : Int32)) (by decide) (by decide) (by decide) (by decide)
          refine lv_iload_n hx hb dX4_value_68 rfl (lv_at hl 1 rfl) ?_
          refine lv_aload_n hx hb dX4_value_69 rfl (lv_at hl 3 rfl) ?_
          refine va_get (ci := 4) (v := .ref nkH_) (C := RX4) (T := TX4) (N := 3) hx hb htA in_X4 hown hK hP 0 rfl rfl 2 (by decide) (htA _ wd_825) (fun _ h => h) rfl dX4_value_70 ?_
          refine lv_iload_n hx hb dX4_value_73 rfl (lv_at hl 0 rfl) ?_
          refine lv_iconst (v := 1) hx hb dX4_value_74 (by decide) ?_
          refine lv_isub hx hb dX4_value_75 ?_
          have g19_ : rg (0) (30) ((v200401_ + (-1)) - 1) := rg_sub g18_ (rg_lit (by decide) : rg (1) (1) (1 : Int32)) (by decide) (by decide) (by decide) (by decide)
          refine va_iald hx hb hK hP 3 0 rfl rfl (rg_in g19_ (by decide) (by decide)) dX4_value_76 ?_
          refine lv_topi (fun v10760_ ev10760_ => ?_)
          refine lv_i2l hx hb dX4_value_77 rfl ?_
          refine lv_aload_n hx hb dX4_value_78 rfl (lv_at hl 3 rfl) ?_
          refine va_get (ci := 4) (v := .ref nkH_) (C := RX4) (T := TX4) (N := 3) hx hb htA in_X4 hown hK hP 0 rfl rfl 2 (by decide) (htA _ wd_825) (fun _ h => h) rfl dX4_value_79 ?_
          refine lv_iload_n hx hb dX4_value_82 rfl (lv_at hl 0 rfl) ?_
          refine va_iald hx hb hK hP 3 0 rfl rfl (rg_in g18_ (by decide) (by decide)) dX4_value_83 ?_
          refine lv_topi (fun v10830_ ev10830_ => ?_)
          refine lv_i2l hx hb dX4_value_84 rfl ?_
          refine kSl (As := [.int v10180_, .long v10760_.toInt64, .long v10830_.toInt64]) (rest := []) (wr := [(nLH_, .inr (4, [.ref npH_, .ref ngH_, .ref nkH_])), (npH_, .inl (cy 0, lenH_, .inl (fpH_))), (ngH_, .inl (cy 0, 6, .inl (fgH_))), (nkH_, .inl (cy 0, 32, .inl (g200402_)))]) hX hE (sf_X4_join l D cy v10180_ v10760_.toInt64 v10830_.toInt64 ) (cwSA 3 htA wd_412 wd_410 wd_21 wd_411 (by decide +kernel) ⟨by decide, by decide⟩) hP hD hS [] [0, 1, 2, 3] rfl rfl (by decide +kernel) rfl hl.1 rfl (Nat.le_of_ble_eq_true rfl) dX4_value_85 (by decide) (fun w10850_ W1 H locs hw hP hD hS => ?_)
          refine W.widen (k := 0) (n := 0) (by decide) (by decide) ?_
          obtain ⟨k85_0_, rfl⟩ := hw
          have hP : va_P D vwCl [(nLH_, .inr (4, [.ref npH_, .ref ngH_, .ref nkH_])), (npH_, .inl (cy 0, lenH_, .inl (fpH_))), (ngH_, .inl (cy 0, 6, .inl (fgH_))), (nkH_, .inl (cy 0, 32, .inl (g200402_)))] H := hP
          have hD := va_ca hP hD
          refine lv_lstore (lv' := [(4, .long w10850_), (1, .int (v200401_ + (-1))), (3, .int v10180_), (2, .int v200400_), (0, .ref nLH_)]) hx hb dX4_value_88 hl (by decide) rfl (fun ls hl => ?_)
          refine lv_aload_n hx hb dX4_value_90 rfl (lv_at hl 4 rfl) ?_
          refine va_get (ci := 4) (v := .ref nkH_) (C := RX4) (T := TX4) (N := 3) hx hb htA in_X4 hown hK hP 0 rfl rfl 2 (by decide) (htA _ wd_825) (fun _ h => h) rfl dX4_value_91 ?_
          refine lv_iload_n hx hb dX4_value_94 rfl (lv_at hl 1 rfl) ?_
          refine lv_iconst (v := 1) hx hb dX4_value_95 (by decide) ?_
          refine lv_isub hx hb dX4_value_96 ?_
          have g20_ : rg (0) (30) ((v200401_ + (-1)) - 1) := rg_sub g18_ (rg_lit (by decide) : rg (1) (1) (1 : Int32)) (by decide) (by decide) (by decide) (by decide)
          refine lv_ldc2 hx hb hown (htA _ wd_413) dX4_value_97 ?_
          refine lv_ldc2 hx hb hown (htA _ wd_414) dX4_value_100 ?_
          refine lv_lload hx hb dX4_value_103 (lv_at hl 0 rfl) ?_
          refine kSl (As := [.long 1000000, .long w10850_]) (rest := [.long (-1000000), .int ((v200401_ + (-1)) - 1), .ref nkH_]) (wr := [(nLH_, .inr (4, [.ref npH_, .ref ngH_, .ref nkH_])), (npH_, .inl (cy 0, lenH_, .inl (fpH_))), (ngH_, .inl (cy 0, 6, .inl (fgH_))), (nkH_, .inl (cy 0, 32, .inl (g200402_)))]) hX hE (sf_J9_min_f86c9 l D cy (1000000 : Int64) w10850_ ) (cwSA 2 htA wd_417 wd_415 wd_19 wd_416 (by decide +kernel) ⟨by decide, by decide⟩) hP hD hS [] [0, 1, 2, 3] rfl rfl (by decide +kernel) rfl hl.1 rfl (Nat.le_of_ble_eq_true rfl) dX4_value_105 (by decide) (fun w11050_ W1 H locs hw hP hD hS => ?_)
          refine W.widen (k := 0) (n := 0) (by decide) (by decide) ?_
          obtain ⟨k105_0_, rfl⟩ := hw
          have hP : va_P D vwCl [(nLH_, .inr (4, [.ref npH_, .ref ngH_, .ref nkH_])), (npH_, .inl (cy 0, lenH_, .inl (fpH_))), (ngH_, .inl (cy 0, 6, .inl (fgH_))), (nkH_, .inl (cy 0, 32, .inl (g200402_)))] H := hP
          have hD := va_ca hP hD
          refine kSl (As := [.long (-1000000), .long w11050_]) (rest := [.int ((v200401_ + (-1)) - 1), .ref nkH_]) (wr := [(nLH_, .inr (4, [.ref npH_, .ref ngH_, .ref nkH_])), (npH_, .inl (cy 0, lenH_, .inl (fpH_))), (ngH_, .inl (cy 0, 6, .inl (fgH_))), (nkH_, .inl (cy 0, 32, .inl (g200402_)))]) hX hE (sf_J9_max_f86c9 l D cy ((-1000000) : Int64) w11050_ ) (cwSA 2 htA wd_420 wd_418 wd_19 wd_419 (by decide +kernel) ⟨by decide, by decide⟩) hP hD hS [] [0, 1, 2, 3] rfl rfl (by decide +kernel) rfl hl.1 rfl (Nat.le_of_ble_eq_true rfl) dX4_value_108 (by decide) (fun w11080_ W1 H locs hw hP hD hS => ?_)
          refine W.widen (k := 0) (n := 0) (by decide) (by decide) ?_
          obtain ⟨k108_0_, rfl⟩ := hw
          have hP : va_P D vwCl [(nLH_, .inr (4, [.ref npH_, .ref ngH_, .ref nkH_])), (npH_, .inl (cy 0, lenH_, .inl (fpH_))), (ngH_, .inl (cy 0, 6, .inl (fgH_))), (nkH_, .inl (cy 0, 32, .inl (g200402_)))] H := hP
          have hD := va_ca hP hD
          refine lv_l2i hx hb dX4_value_111 rfl ?_
          refine va_iast hx hb hK hP hD hS 3 0 rfl rfl (rg_in g20_ (by decide) (by decide)) dX4_value_112 (fun H locs hP hD hS => ?_)
          have hP : va_P D vwCl [(nLH_, .inr (4, [.ref npH_, .ref ngH_, .ref nkH_])), (npH_, .inl (cy 0, lenH_, .inl (fpH_))), (ngH_, .inl (cy 0, 6, .inl (fgH_))), (nkH_, .inl (cy 0, 32, .inl (upd g200402_ (((v200401_ + (-1)) - 1).toNatClampNeg) w11080_.toInt32)))] H := hP
          have hD := va_ca hP hD
          refine lv_goto (tgt := 156) hx hb dX4_value_113 (by decide) ?_
          exact j156_ (v200401_ + (-1), upd g200402_ (((v200401_ + (-1)) - 1).toNatClampNeg) w11080_.toInt32) _ _ ls ⟨(rg_w g18_ (by decide) (by decide)), (Or.inr (Or.inr (Or.inr (Or.inl ⟨v10760_, v10830_, w10850_, w11050_, w11080_, c24_, c57_, c62_, ev10760_, ev10830_, k85_0_, k105_0_, k108_0_, rfl, rfl⟩))))⟩ hP hD hS (lv_sub hl [2, 3, 1, 4] rfl)
    · have g21_ : rg (2000) (2000) v10180_ := rg_eq c24_ (rg_lit (by decide) : rg (2000) (2000) (2000 : Int32))
      refine lv_iload_n hx hb dX4_value_27 rfl (lv_at hl 2 rfl) ?_
      refine lv_iconst (v := 1) hx hb dX4_value_28 (by decide) ?_
      refine lv_icmp_lt (tgt := 156) hx hb dX4_value_29 (by decide) (fun c29_ => ?_) (fun c29_ => ?_)
      · have g22_ : rg (0) (0) v200401_ := rg_lt1 c29_ rv200401_ (rg_lit (by decide) : rg (1) (1) (1 : Int32)) (by decide)
        exact j156_ (v200401_, g200402_) _ _ ls ⟨(rg_w g22_ (by decide) (by decide)), (Or.inr (Or.inr (Or.inr (Or.inr (Or.inl ⟨c24_, c29_, rfl, rfl⟩)))))⟩ hP hD hS (lv_sub hl [0, 1, 2, 3] rfl)
      · have g23_ : rg (1) (32) v200401_ := rg_le2 (rg_nlt c29_) (rg_lit (by decide) : rg (1) (1) (1 : Int32)) rv200401_ (by decide)
        refine lv_aload_n hx hb dX4_value_32 rfl (lv_at hl 3 rfl) ?_
        refine va_get (ci := 4) (v := .ref nkH_) (C := RX4) (T := TX4) (N := 3) hx hb htA in_X4 hown hK hP 0 rfl rfl 2 (by decide) (htA _ wd_825) (fun _ h => h) rfl dX4_value_33 ?_
        refine lv_iload_n hx hb dX4_value_36 rfl (lv_at hl 2 rfl) ?_
        refine lv_iconst (v := 1) hx hb dX4_value_37 (by decide) ?_
        refine lv_isub hx hb dX4_value_38 ?_
        have g24_ : rg (0) (31) (v200401_ - 1) := rg_subl (rg_nlt c29_) g23_ (rg_lit (by decide) : rg (1) (1) (1 : Int32)) (by decide) (by decide)
        refine lv_iconst (v := 1) hx hb dX4_value_39 (by decide) ?_
        refine lv_aload_n hx hb dX4_value_40 rfl (lv_at hl 3 rfl) ?_
        refine va_get (ci := 4) (v := .ref nkH_) (C := RX4) (T := TX4) (N := 3) hx hb htA in_X4 hown hK hP 0 rfl rfl 2 (by decide) (htA _ wd_825) (fun _ h => h) rfl dX4_value_41 ?_
        refine lv_iload_n hx hb dX4_value_44 rfl (lv_at hl 2 rfl) ?_
        refine lv_iconst (v := 1) hx hb dX4_value_45 (by decide) ?_
        refine lv_isub hx hb dX4_value_46 ?_
        have g25_ : rg (0) (31) (v200401_ - 1) := rg_subl (rg_nlt c29_) g23_ (rg_lit (by decide) : rg (1) (1) (1 : Int32)) (by decide) (by decide)
        refine va_iald hx hb hK hP 3 0 rfl rfl (rg_in g25_ (by decide) (by decide)) dX4_value_47 ?_
        refine lv_topi (fun v10470_ ev10470_ => ?_)
        refine lv_isub hx hb dX4_value_48 ?_
        refine va_iast hx hb hK hP hD hS 3 0 rfl rfl (rg_in g25_ (by decide) (by decide)) dX4_value_49 (fun H locs hP hD hS => ?_)
        have hP : va_P D vwCl [(nLH_, .inr (4, [.ref npH_, .ref ngH_, .ref nkH_])), (npH_, .inl (cy 0, lenH_, .inl (fpH_))), (ngH_, .inl (cy 0, 6, .inl (fgH_))), (nkH_, .inl (cy 0, 32, .inl (upd g200402_ ((v200401_ - 1).toNatClampNeg) (1 - v10470_))))] H := hP
        have hD := va_ca hP hD
        refine lv_goto (tgt := 156) hx hb dX4_value_50 (by decide) ?_
        exact j156_ (v200401_, upd g200402_ ((v200401_ - 1).toNatClampNeg) (1 - v10470_)) _ _ ls ⟨(rg_w g23_ (by decide) (by decide)), (Or.inr (Or.inr (Or.inr (Or.inr (Or.inr (Or.inl ⟨v10470_, c24_, c29_, ev10470_, rfl, rfl⟩))))))⟩ hP hD hS (lv_sub hl [0, 1, 2, 3] rfl)
def R_X0_hasPlace_j3 (c_ : Int32) (columns_ : Int32) (l_ : Int32) (levels_ : Int32) : Prop := (c_ < (0 : Int32)) ∨ (¬ (c_ < (0 : Int32)) ∧ columns_ ≤ c_) ∨ (¬ (c_ < (0 : Int32)) ∧ ¬ (columns_ ≤ c_) ∧ l_ < (0 : Int32)) ∨ (¬ (c_ < (0 : Int32)) ∧ ¬ (columns_ ≤ c_) ∧ ¬ (l_ < (0 : Int32)) ∧ levels_ ≤ l_) ∨ False
def R_X0_hasPlace_j1 (c_ : Int32) (columns_ : Int32) (l_ : Int32) (levels_ : Int32) (v202900_ : Int32) : Prop := (R_X0_hasPlace_j3 c_ columns_ l_ levels_ ∧ v202900_ = (0 : Int32)) ∨ (¬ (c_ < (0 : Int32)) ∧ ¬ (columns_ ≤ c_) ∧ ¬ (l_ < (0 : Int32)) ∧ ¬ (levels_ ≤ l_) ∧ v202900_ = (1 : Int32)) ∨ False
def R_X0_hasPlace_e (c_ : Int32) (columns_ : Int32) (l_ : Int32) (levels_ : Int32) (r : Int32) : Prop := (∃ (v202900_ : Int32), R_X0_hasPlace_j1 c_ columns_ l_ levels_ v202900_ ∧ r = v202900_) ∨ False
set_option maxHeartbeats 4000000 in
set_option maxRecDepth 100000 in
theorem sf_X0_hasPlace (l : Launch) (D : va_G) (cy : Nat → ClassId) (nd_ : Nat) (lines_ : Int32) (columns_ : Int32) (levels_ : Int32) (things_ : Int32) (walkers_ : Int32) (nw_ : Nat) (nr_ : Nat) (nq_ : Nat) (hangs_ : Value) (frees_ : Value) (c_ : Int32) (l_ : Int32) (rcolumns_ : rg (1) (6) columns_) (rlevels_ : rg (1) (9) levels_) (rthings_ : rg (0) (8) things_) (rwalkers_ : rg (0) (4) walkers_) : Ci l yX0_hasPlace cX0_hasPlace 3 (some .boolean) { frames := 0, cells := 0, slots := 0, locals := 0 } D cy [.ref nd_, .int c_, .int l_] [(nd_, .inr (0, [.int lines_, .int columns_, .int levels_, .int things_, .int walkers_, .ref nw_, .ref nr_, .ref nq_, hangs_, frees_]))] (fun r W1 => R_X0_hasPlace_e c_ columns_ l_ levels_ r ∧ W1 = [(nd_, .inr (0, [.int lines_, .int columns_, .int levels_, .int things_, .int walkers_, .ref nw_, .ref nr_, .ref nq_, hangs_, frees_]))] ∧ rg (0) (1) r) := by
  refine Ci.of (by decide) (Nat.le_of_ble_eq_true rfl) ?_
  intro p e s m below meth c A ls hX hE hP hD hl
  obtain ⟨hx, hb, hr, hml, hown, htA, hlk⟩ := id hX
  have hK := hE.1
  have hS : va_S A s.heap s.heap [] := va_S.rf
  have hl : lv_has ls 3 [(0, .ref nd_), (1, .int c_), (2, .int l_)] := hl
  refine lv_iload_n hx hb dX0_hasPlace_0 rfl (lv_at hl 1 rfl) ?_
  refine joinT (D := D) (A := A) (pc := 29) (mL := 3) (τ := Int32) (WS := fun i => [(nd_, .inr (0, [.int lines_, .int columns_, .int levels_, .int things_, .int walkers_, .ref nw_, .ref nr_, .ref nq_, hangs_, frees_]))]) (LV := fun i => [(0, .ref nd_), (1, .int c_), (2, .int l_)]) (ST := fun i => [.int i]) (cells := 0) (slots := 0) (fun i => rg (0) (1) i ∧ R_X0_hasPlace_j1 c_ columns_ l_ levels_ i) (fun v202900_ H locs ls hI hP hD hS hl => ?_) (fun j29_ => ?_)
  · have hI : rg (0) (1) v202900_ ∧ R_X0_hasPlace_j1 c_ columns_ l_ levels_ v202900_ := hI
    obtain ⟨rv202900_, hR1_⟩ := hI
    have hP : va_P D vwCl [(nd_, .inr (0, [.int lines_, .int columns_, .int levels_, .int things_, .int walkers_, .ref nw_, .ref nr_, .ref nq_, hangs_, frees_]))] H := hP
    have hD := va_ca hP hD
    have hl : lv_has ls 3 [(0, .ref nd_), (1, .int c_), (2, .int l_)] := hl
    exact rZ hX (nz_of rv202900_) hE hP hD hS dX0_hasPlace_29 (by decide) (by decide) ⟨(Or.inl ⟨v202900_, hR1_, rfl⟩), rfl, (rg_w rv202900_ (by decide) (by decide))⟩
  refine joinT (D := D) (A := A) (pc := 28) (mL := 3) (τ := Unit) (WS := fun i => [(nd_, .inr (0, [.int lines_, .int columns_, .int levels_, .int things_, .int walkers_, .ref nw_, .ref nr_, .ref nq_, hangs_, frees_]))]) (LV := fun i => [(0, .ref nd_), (1, .int c_), (2, .int l_)]) (ST := fun i => []) (cells := 0) (slots := 0) (fun i => R_X0_hasPlace_j3 c_ columns_ l_ levels_) (fun u0_ H locs ls hI hP hD hS hl => ?_) (fun j28_ => ?_)
  · have hI : R_X0_hasPlace_j3 c_ columns_ l_ levels_ := hI
    have hR3_ := hI
    have hP : va_P D vwCl [(nd_, .inr (0, [.int lines_, .int columns_, .int levels_, .int things_, .int walkers_, .ref nw_, .ref nr_, .ref nq_, hangs_, frees_]))] H := hP
    have hD := va_ca hP hD
    have hl : lv_has ls 3 [(0, .ref nd_), (1, .int c_), (2, .int l_)] := hl
    refine lv_iconst (v := 0) hx hb dX0_hasPlace_28 (by decide) ?_
    exact j29_ 0 _ _ ls ⟨(rg_w (rg_lit (by decide) : rg (0) (0) (0 : Int32)) (by decide) (by decide)), (Or.inl ⟨hR3_, rfl⟩)⟩ hP hD hS (lv_sub hl [0, 1, 2] rfl)
  refine lv_if_lt (tgt := 28) hx hb dX0_hasPlace_1 (by decide) (fun c1_ => ?_) (fun c1_ => ?_)
  · have g1_ : rg (-2147483648) (-1) c_ := rg_lt1 c1_ (rg_any _) (rg_lit (by decide) : rg (0) (0) (0 : Int32)) (by decide)
    exact j28_ () _ _ ls (Or.inl c1_) hP hD hS (lv_sub hl [0, 1, 2] rfl)
  · have g2_ : rg (0) (2147483647) c_ := rg_le2 (rg_nlt c1_) (rg_lit (by decide) : rg (0) (0) (0 : Int32)) (rg_any _) (by decide)
    refine lv_iload_n hx hb dX0_hasPlace_4 rfl (lv_at hl 1 rfl) ?_
    refine lv_aload_n hx hb dX0_hasPlace_5 rfl (lv_at hl 0 rfl) ?_
    refine va_get (ci := 0) (v := .int columns_) (C := RX0) (T := TX0) (N := 10) hx hb htA in_X0 hown hK hP 0 rfl rfl 1 (by decide) (htA _ wd_77) (fun _ h => h) rfl dX0_hasPlace_6 ?_
    refine lv_icmp_ge (tgt := 28) hx hb dX0_hasPlace_9 (by decide) (fun c9_ => ?_) (fun c9_ => ?_)
    · have g3_ : rg (1) (2147483647) c_ := rg_le2 c9_ rcolumns_ g2_ (by decide)
      exact j28_ () _ _ ls (Or.inr (Or.inl ⟨c1_, c9_⟩)) hP hD hS (lv_sub hl [0, 1, 2] rfl)
    · have g4_ : rg (0) (5) c_ := rg_lt1 (rg_nle c9_) g2_ rcolumns_ (by decide)
      refine lv_iload_n hx hb dX0_hasPlace_12 rfl (lv_at hl 2 rfl) ?_
      refine lv_if_lt (tgt := 28) hx hb dX0_hasPlace_13 (by decide) (fun c13_ => ?_) (fun c13_ => ?_)
      · have g5_ : rg (-2147483648) (-1) l_ := rg_lt1 c13_ (rg_any _) (rg_lit (by decide) : rg (0) (0) (0 : Int32)) (by decide)
        exact j28_ () _ _ ls (Or.inr (Or.inr (Or.inl ⟨c1_, c9_, c13_⟩))) hP hD hS (lv_sub hl [0, 1, 2] rfl)
      · have g6_ : rg (0) (2147483647) l_ := rg_le2 (rg_nlt c13_) (rg_lit (by decide) : rg (0) (0) (0 : Int32)) (rg_any _) (by decide)
        refine lv_iload_n hx hb dX0_hasPlace_16 rfl (lv_at hl 2 rfl) ?_
        refine lv_aload_n hx hb dX0_hasPlace_17 rfl (lv_at hl 0 rfl) ?_
        refine va_get (ci := 0) (v := .int levels_) (C := RX0) (T := TX0) (N := 10) hx hb htA in_X0 hown hK hP 0 rfl rfl 2 (by decide) (htA _ wd_82) (fun _ h => h) rfl dX0_hasPlace_18 ?_
        refine lv_icmp_ge (tgt := 28) hx hb dX0_hasPlace_21 (by decide) (fun c21_ => ?_) (fun c21_ => ?_)
        · have g7_ : rg (1) (2147483647) l_ := rg_le2 c21_ rlevels_ g6_ (by decide)
          exact j28_ () _ _ ls (Or.inr (Or.inr (Or.inr (Or.inl ⟨c1_, c9_, c13_, c21_⟩)))) hP hD hS (lv_sub hl [0, 1, 2] rfl)
        · have g8_ : rg (0) (8) l_ := rg_lt1 (rg_nle c21_) g6_ rlevels_ (by decide)
          refine lv_iconst (v := 1) hx hb dX0_hasPlace_24 (by decide) ?_
          refine lv_goto (tgt := 29) hx hb dX0_hasPlace_25 (by decide) ?_
          exact j29_ 1 _ _ ls ⟨(rg_w (rg_lit (by decide) : rg (1) (1) (1 : Int32)) (by decide) (by decide)), (Or.inr (Or.inl ⟨c1_, c9_, c13_, c21_, rfl⟩))⟩ hP hD hS (lv_sub hl [0, 1, 2] rfl)
def R_X0_walkerColumn_j1 (w_ : Int32) (walkers_ : Int32) (fq_ : Nat → Int32) : Prop := (w_ < (0 : Int32)) ∨ (¬ (w_ < (0 : Int32)) ∧ walkers_ ≤ w_) ∨ (∃ (v10170_ : Int32), ¬ (w_ < (0 : Int32)) ∧ ¬ (walkers_ ≤ w_) ∧ v10170_ = fq_ w_.toNatClampNeg ∧ ¬ ((0 : Int32) < v10170_)) ∨ False
def R_X0_walkerColumn_e (w_ : Int32) (walkers_ : Int32) (fq_ : Nat → Int32) (hh_ : Int32) (fr_ : Nat → Int32) (r : Int32) : Prop := (R_X0_walkerColumn_j1 w_ walkers_ fq_ ∧ r = ((-1) : Int32)) ∨ (∃ (v10170_ : Int32) (v10380_ : Int32) (v10420_ : Int32), ¬ (w_ < (0 : Int32)) ∧ ¬ (walkers_ ≤ w_) ∧ v10170_ = fq_ w_.toNatClampNeg ∧ (0 : Int32) < v10170_ ∧ R_J9_floorMod_7cf53_8_e hh_ v10170_ v10380_ ∧ v10420_ = fr_ ((w_ * 8) + v10380_).toNatClampNeg ∧ r = v10420_) ∨ False
set_option maxHeartbeats 4000000 in
set_option maxRecDepth 100000 in
theorem sf_X0_walkerColumn (l : Launch) (D : va_G) (cy : Nat → ClassId) (nd_ : Nat) (lines_ : Int32) (columns_ : Int32) (levels_ : Int32) (things_ : Int32) (walkers_ : Int32) (nw_ : Nat) (nr_ : Nat) (nq_ : Nat) (hangs_ : Value) (frees_ : Value) (fr_ : Nat → Int32) (fq_ : Nat → Int32) (w_ : Int32) (hh_ : Int32) (rcolumns_ : rg (1) (6) columns_) (rlevels_ : rg (1) (9) levels_) (rthings_ : rg (0) (8) things_) (rwalkers_ : rg (0) (4) walkers_) (rfq_ : ag (0) (8) 4 fq_) : Ci l yX0_walkerColumn cX0_walkerColumn 3 (some .int) { frames := 1, cells := 0, slots := 0, locals := 22 } D cy [.ref nd_, .int w_, .int hh_] [(nd_, .inr (0, [.int lines_, .int columns_, .int levels_, .int things_, .int walkers_, .ref nw_, .ref nr_, .ref nq_, hangs_, frees_])), (nr_, .inl (cy 0, 32, .inl (fr_))), (nq_, .inl (cy 0, 4, .inl (fq_)))] (fun r W1 => R_X0_walkerColumn_e w_ walkers_ fq_ hh_ fr_ r ∧ W1 = [(nd_, .inr (0, [.int lines_, .int columns_, .int levels_, .int things_, .int walkers_, .ref nw_, .ref nr_, .ref nq_, hangs_, frees_])), (nr_, .inl (cy 0, 32, .inl (fr_))), (nq_, .inl (cy 0, 4, .inl (fq_)))]) := by
  refine Ci.of (by decide) (Nat.le_of_ble_eq_true rfl) ?_
  intro p e s m below meth c A ls hX hE hP hD hl
  obtain ⟨hx, hb, hr, hml, hown, htA, hlk⟩ := id hX
  have hK := hE.1
  have hS : va_S A s.heap s.heap [] := va_S.rf
  have hl : lv_has ls 3 [(0, .ref nd_), (1, .int w_), (2, .int hh_)] := hl
  refine lv_iload_n hx hb dX0_walkerColumn_0 rfl (lv_at hl 1 rfl) ?_
  refine joinT (D := D) (A := A) (pc := 21) (mL := 3) (τ := Unit) (WS := fun i => [(nd_, .inr (0, [.int lines_, .int columns_, .int levels_, .int things_, .int walkers_, .ref nw_, .ref nr_, .ref nq_, hangs_, frees_])), (nr_, .inl (cy 0, 32, .inl (fr_))), (nq_, .inl (cy 0, 4, .inl (fq_)))]) (LV := fun i => [(0, .ref nd_), (1, .int w_), (2, .int hh_)]) (ST := fun i => []) (cells := 0) (slots := 0) (fun i => R_X0_walkerColumn_j1 w_ walkers_ fq_) (fun u0_ H locs ls hI hP hD hS hl => ?_) (fun j21_ => ?_)
  · have hI : R_X0_walkerColumn_j1 w_ walkers_ fq_ := hI
    have hR1_ := hI
    have hP : va_P D vwCl [(nd_, .inr (0, [.int lines_, .int columns_, .int levels_, .int things_, .int walkers_, .ref nw_, .ref nr_, .ref nq_, hangs_, frees_])), (nr_, .inl (cy 0, 32, .inl (fr_))), (nq_, .inl (cy 0, 4, .inl (fq_)))] H := hP
    have hD := va_ca hP hD
    have hl : lv_has ls 3 [(0, .ref nd_), (1, .int w_), (2, .int hh_)] := hl
    refine lv_iconst (v := (-1)) hx hb dX0_walkerColumn_21 (by decide) ?_
    exact rI hX hE hP hD hS dX0_walkerColumn_22 (by decide) (by decide) ⟨(Or.inl ⟨hR1_, rfl⟩), rfl⟩
  refine lv_if_lt (tgt := 21) hx hb dX0_walkerColumn_1 (by decide) (fun c1_ => ?_) (fun c1_ => ?_)
  · have g1_ : rg (-2147483648) (-1) w_ := rg_lt1 c1_ (rg_any _) (rg_lit (by decide) : rg (0) (0) (0 : Int32)) (by decide)
    exact j21_ () _ _ ls (Or.inl c1_) hP hD hS (lv_sub hl [0, 1, 2] rfl)
  · have g2_ : rg (0) (2147483647) w_ := rg_le2 (rg_nlt c1_) (rg_lit (by decide) : rg (0) (0) (0 : Int32)) (rg_any _) (by decide)
    refine lv_iload_n hx hb dX0_walkerColumn_4 rfl (lv_at hl 1 rfl) ?_
    refine lv_aload_n hx hb dX0_walkerColumn_5 rfl (lv_at hl 0 rfl) ?_
    refine va_get (ci := 0) (v := .int walkers_) (C := RX0) (T := TX0) (N := 10) hx hb htA in_X0 hown hK hP 0 rfl rfl 4 (by decide) (htA _ wd_89) (fun _ h => h) rfl dX0_walkerColumn_6 ?_
    refine lv_icmp_ge (tgt := 21) hx hb dX0_walkerColumn_9 (by decide) (fun c9_ => ?_) (fun c9_ => ?_)
    · exact j21_ () _ _ ls (Or.inr (Or.inl ⟨c1_, c9_⟩)) hP hD hS (lv_sub hl [0, 1, 2] rfl)
    · have g3_ : rg (0) (3) w_ := rg_lt1 (rg_nle c9_) g2_ rwalkers_ (by decide)
      have g4_ : rg (1) (4) walkers_ := rg_lt2 (rg_nle c9_) g2_ rwalkers_ (by decide)
      refine lv_aload_n hx hb dX0_walkerColumn_12 rfl (lv_at hl 0 rfl) ?_
      refine va_get (ci := 0) (v := .ref nq_) (C := RX0) (T := TX0) (N := 10) hx hb htA in_X0 hown hK hP 0 rfl rfl 7 (by decide) (htA _ wd_99) (fun _ h => h) rfl dX0_walkerColumn_13 ?_
      refine lv_iload_n hx hb dX0_walkerColumn_16 rfl (lv_at hl 1 rfl) ?_
      refine va_iald hx hb hK hP 2 0 rfl rfl (rg_in g3_ (by decide) (by decide)) dX0_walkerColumn_17 ?_
      refine lv_topi (fun v10170_ ev10170_ => ?_)
      have g5_ : rg (0) (8) v10170_ := by rw [ev10170_]; exact ag_at rfq_ (rg_in g3_ (by decide) (by decide))
      refine lv_if_gt (tgt := 23) hx hb dX0_walkerColumn_18 (by decide) (fun c18_ => ?_) (fun c18_ => ?_)
      · have g6_ : rg (1) (8) v10170_ := rg_lt2 c18_ (rg_lit (by decide) : rg (0) (0) (0 : Int32)) g5_ (by decide)
        refine lv_aload_n hx hb dX0_walkerColumn_23 rfl (lv_at hl 0 rfl) ?_
        refine va_get (ci := 0) (v := .ref nr_) (C := RX0) (T := TX0) (N := 10) hx hb htA in_X0 hown hK hP 0 rfl rfl 6 (by decide) (htA _ wd_97) (fun _ h => h) rfl dX0_walkerColumn_24 ?_
        refine lv_iload_n hx hb dX0_walkerColumn_27 rfl (lv_at hl 1 rfl) ?_
        refine lv_bipush (v := 8) hx hb dX0_walkerColumn_28 (by decide) ?_
        refine lv_imul hx hb dX0_walkerColumn_30 ?_
        have g7_ : rg (0) (24) (w_ * 8) := by rw [Int32.mul_comm]; exact rg_mulc (k := 8) (by decide) g3_ (by decide) (by decide) (by decide) (by decide) (by decide)
        refine lv_iload_n hx hb dX0_walkerColumn_31 rfl (lv_at hl 2 rfl) ?_
        refine lv_aload_n hx hb dX0_walkerColumn_32 rfl (lv_at hl 0 rfl) ?_
        refine va_get (ci := 0) (v := .ref nq_) (C := RX0) (T := TX0) (N := 10) hx hb htA in_X0 hown hK hP 0 rfl rfl 7 (by decide) (htA _ wd_99) (fun _ h => h) rfl dX0_walkerColumn_33 ?_
        refine lv_iload_n hx hb dX0_walkerColumn_36 rfl (lv_at hl 1 rfl) ?_
        refine va_iald hx hb hK hP 2 0 rfl rfl (rg_in g3_ (by decide) (by decide)) dX0_walkerColumn_37 ?_
        refine lv_topi (fun v10370_ ev10370_ => ?_)
        obtain rfl : v10170_ = v10370_ := ev10170_.trans ev10370_.symm
        refine kSi (As := [.int hh_, .int v10170_]) (rest := [.int (w_ * 8), .ref nr_]) (wr := [(nd_, .inr (0, [.int lines_, .int columns_, .int levels_, .int things_, .int walkers_, .ref nw_, .ref nr_, .ref nq_, hangs_, frees_])), (nr_, .inl (cy 0, 32, .inl (fr_))), (nq_, .inl (cy 0, 4, .inl (fq_)))]) hX hE (sf_J9_floorMod_7cf53_8 l D cy hh_ v10170_ (rg_w g6_ (by decide) (by decide))) (cwSA 2 htA wd_405 wd_403 wd_19 wd_404 (by decide +kernel) ⟨by decide, by decide⟩) hP hD hS [] [0, 1, 2] rfl rfl (by decide +kernel) rfl hl.1 rfl (Nat.le_of_ble_eq_true rfl) dX0_walkerColumn_38 (by decide) (fun v10380_ W1 H locs hw hP hD hS => ?_)
        refine W.widen (k := 0) (n := 0) (by decide) (by decide) ?_
        obtain ⟨k38_0_, rfl, kr38_⟩ := hw
        have hP : va_P D vwCl [(nd_, .inr (0, [.int lines_, .int columns_, .int levels_, .int things_, .int walkers_, .ref nw_, .ref nr_, .ref nq_, hangs_, frees_])), (nr_, .inl (cy 0, 32, .inl (fr_))), (nq_, .inl (cy 0, 4, .inl (fq_)))] H := hP
        have hD := va_ca hP hD
        refine lv_iadd hx hb dX0_walkerColumn_41 ?_
        have g8_ : rg (0) (31) ((w_ * 8) + v10380_) := rg_add g7_ kr38_ (by decide) (by decide) (by decide) (by decide)
        refine va_iald hx hb hK hP 1 0 rfl rfl (rg_in g8_ (by decide) (by decide)) dX0_walkerColumn_42 ?_
        refine lv_topi (fun v10420_ ev10420_ => ?_)
        exact rI hX hE hP hD hS dX0_walkerColumn_43 (by decide) (by decide) ⟨(Or.inr (Or.inl ⟨v10170_, v10380_, v10420_, c1_, c9_, ev10170_, c18_, k38_0_, ev10420_, rfl⟩)), rfl⟩
      · have g9_ : rg (0) (0) v10170_ := rg_le1 (rg_nlt c18_) g5_ (rg_lit (by decide) : rg (0) (0) (0 : Int32)) (by decide)
        exact j21_ () _ _ ls (Or.inr (Or.inr (Or.inl ⟨v10170_, c1_, c9_, ev10170_, c18_⟩))) hP hD hS (lv_sub hl [0, 1, 2] rfl)
def R_X0_walkersIn_j3 (v10180_ : Int32) (c_ : Int32) (v200501_ : Int32) (v202800_ : Int32) : Prop := (¬ v10180_ = c_ ∧ v202800_ = v200501_) ∨ (v10180_ = c_ ∧ v202800_ = v200501_ + 1) ∨ False
def R_X0_walkersIn_b1 (walkers_ : Int32) (fq_ : Nat → Int32) (hh_ : Int32) (fr_ : Nat → Int32) (c_ : Int32) (uZ_ vZ_ : Int32 × Int32) : Prop := (∃ (v10180_ : Int32) (v202800_ : Int32), ¬ (walkers_ ≤ uZ_.1) ∧ R_X0_walkerColumn_e uZ_.1 walkers_ fq_ hh_ fr_ v10180_ ∧ R_X0_walkersIn_j3 v10180_ c_ uZ_.2 v202800_ ∧ vZ_ = (uZ_.1 + 1, v202800_)) ∨ False
def R_X0_walkersIn_e (walkers_ : Int32) (fq_ : Nat → Int32) (hh_ : Int32) (fr_ : Nat → Int32) (c_ : Int32) (r : Int32) : Prop := (∃ (v200500_ : Int32) (v200501_ : Int32), Itr (R_X0_walkersIn_b1 walkers_ fq_ hh_ fr_ c_) (0, 0) (v200500_, v200501_) ∧ walkers_ ≤ v200500_ ∧ r = v200501_) ∨ False
set_option maxHeartbeats 4000000 in
set_option maxRecDepth 100000 in
theorem sf_X0_walkersIn (l : Launch) (D : va_G) (cy : Nat → ClassId) (nd_ : Nat) (lines_ : Int32) (columns_ : Int32) (levels_ : Int32) (things_ : Int32) (walkers_ : Int32) (nw_ : Nat) (nr_ : Nat) (nq_ : Nat) (hangs_ : Value) (frees_ : Value) (fr_ : Nat → Int32) (fq_ : Nat → Int32) (c_ : Int32) (hh_ : Int32) (rcolumns_ : rg (1) (6) columns_) (rlevels_ : rg (1) (9) levels_) (rthings_ : rg (0) (8) things_) (rwalkers_ : rg (0) (4) walkers_) (rfq_ : ag (0) (8) 4 fq_) : Ci l yX0_walkersIn cX0_walkersIn 5 (some .int) { frames := 2, cells := 0, slots := 0, locals := 44 } D cy [.ref nd_, .int c_, .int hh_] [(nd_, .inr (0, [.int lines_, .int columns_, .int levels_, .int things_, .int walkers_, .ref nw_, .ref nr_, .ref nq_, hangs_, frees_])), (nr_, .inl (cy 0, 32, .inl (fr_))), (nq_, .inl (cy 0, 4, .inl (fq_)))] (fun r W1 => R_X0_walkersIn_e walkers_ fq_ hh_ fr_ c_ r ∧ W1 = [(nd_, .inr (0, [.int lines_, .int columns_, .int levels_, .int things_, .int walkers_, .ref nw_, .ref nr_, .ref nq_, hangs_, frees_])), (nr_, .inl (cy 0, 32, .inl (fr_))), (nq_, .inl (cy 0, 4, .inl (fq_)))]) := by
  refine Ci.of (by decide) (Nat.le_of_ble_eq_true rfl) ?_
  intro p e s m below meth c A ls hX hE hP hD hl
  obtain ⟨hx, hb, hr, hml, hown, htA, hlk⟩ := id hX
  have hK := hE.1
  have hS : va_S A s.heap s.heap [] := va_S.rf
  have hl : lv_has ls 5 [(0, .ref nd_), (1, .int c_), (2, .int hh_)] := hl
  refine lv_iconst (v := 0) hx hb dX0_walkersIn_0 (by decide) ?_
  refine lv_istore_n (lv' := [(3, .int 0), (0, .ref nd_), (1, .int c_), (2, .int hh_)]) hx hb dX0_walkersIn_1 rfl hl (by decide) rfl (fun ls hl => ?_)
  refine lv_iconst (v := 0) hx hb dX0_walkersIn_2 (by decide) ?_
  refine lv_istore (lv' := [(4, .int 0), (3, .int 0), (0, .ref nd_), (1, .int c_), (2, .int hh_)]) hx hb dX0_walkersIn_3 hl (by decide) rfl (fun ls hl => ?_)
  refine loopT (τ := Int32 × Int32) (WS := fun i => [(nd_, .inr (0, [.int lines_, .int columns_, .int levels_, .int things_, .int walkers_, .ref nw_, .ref nr_, .ref nq_, hangs_, frees_])), (nr_, .inl (cy 0, 32, .inl (fr_))), (nq_, .inl (cy 0, 4, .inl (fq_)))]) (LV := fun i => [(4, .int i.1), (3, .int i.2), (0, .ref nd_), (1, .int c_), (2, .int hh_)]) (fun i => (6 - i.1.toInt).toNat) (fun i => rg (0) (5) i.1 ∧ Itr (R_X0_walkersIn_b1 walkers_ fq_ hh_ fr_ c_) (0, 0) (i.1, i.2)) ?_ (0, 0) ⟨(rg_w (rg_lit (by decide) : rg (0) (0) (0 : Int32)) (by decide) (by decide)), (Itr.rf _ _)⟩ hP hD hS (lv_sub hl [0, 1, 2, 3, 4] rfl)
  intro i_ H locs ls hI ih5_ hP hD hS hl
  obtain ⟨v200500_, v200501_⟩ := i_
  have hI : rg (0) (5) v200500_ ∧ Itr (R_X0_walkersIn_b1 walkers_ fq_ hh_ fr_ c_) (0, 0) (v200500_, v200501_) := hI
  obtain ⟨rv200500_, hR1_⟩ := hI
  have hP : va_P D vwCl [(nd_, .inr (0, [.int lines_, .int columns_, .int levels_, .int things_, .int walkers_, .ref nw_, .ref nr_, .ref nq_, hangs_, frees_])), (nr_, .inl (cy 0, 32, .inl (fr_))), (nq_, .inl (cy 0, 4, .inl (fq_)))] H := hP
  have hD := va_ca hP hD
  have hl : lv_has ls 5 [(4, .int v200500_), (3, .int v200501_), (0, .ref nd_), (1, .int c_), (2, .int hh_)] := hl
  refine lv_iload hx hb dX0_walkersIn_5 (lv_at hl 0 rfl) ?_
  refine lv_aload_n hx hb dX0_walkersIn_7 rfl (lv_at hl 2 rfl) ?_
  refine va_get (ci := 0) (v := .int walkers_) (C := RX0) (T := TX0) (N := 10) hx hb htA in_X0 hown hK hP 0 rfl rfl 4 (by decide) (htA _ wd_89) (fun _ h => h) rfl dX0_walkersIn_8 ?_
  refine lv_icmp_ge (tgt := 34) hx hb dX0_walkersIn_11 (by decide) (fun c11_ => ?_) (fun c11_ => ?_)
  · refine lv_iload_n hx hb dX0_walkersIn_34 rfl (lv_at hl 1 rfl) ?_
    exact rI hX hE hP hD hS dX0_walkersIn_35 (by decide) (by decide) ⟨(Or.inl ⟨v200500_, v200501_, hR1_, c11_, rfl⟩), rfl⟩
  · have g1_ : rg (0) (3) v200500_ := rg_lt1 (rg_nle c11_) rv200500_ rwalkers_ (by decide)
    have g2_ : rg (1) (4) walkers_ := rg_lt2 (rg_nle c11_) rv200500_ rwalkers_ (by decide)
    refine lv_aload_n hx hb dX0_walkersIn_14 rfl (lv_at hl 2 rfl) ?_
    refine lv_iload hx hb dX0_walkersIn_15 (lv_at hl 0 rfl) ?_
    refine lv_iload_n hx hb dX0_walkersIn_17 rfl (lv_at hl 4 rfl) ?_
    refine kVi (As := [.int v200500_, .int hh_]) (rest := []) (wr := []) hX hE (sf_X0_walkerColumn l D cy nd_ lines_ columns_ levels_ things_ walkers_ nw_ nr_ nq_ hangs_ frees_ fr_ fq_ v200500_ hh_ (rg_w rcolumns_ (by decide) (by decide)) (rg_w rlevels_ (by decide) (by decide)) (rg_w rthings_ (by decide) (by decide)) (rg_w g2_ (by decide) (by decide)) rfq_) (cwVA 2 htA wd_455 wd_1138 wd_3 wd_453 wd_454 (by decide +kernel) ⟨by decide, by decide⟩) hP hD hS [0, 1, 2] [] rfl rfl (by decide +kernel) 0 rfl rfl rfl rfl hl.1 rfl (Nat.le_of_ble_eq_true rfl) dX0_walkersIn_18 (by decide) (fun v10180_ W1 H locs hw hP hD hS => ?_)
    refine W.widen (k := 0) (n := 0) (by decide) (by decide) ?_
    obtain ⟨k18_0_, rfl⟩ := hw
    have hP : va_P D vwCl [(nd_, .inr (0, [.int lines_, .int columns_, .int levels_, .int things_, .int walkers_, .ref nw_, .ref nr_, .ref nq_, hangs_, frees_])), (nr_, .inl (cy 0, 32, .inl (fr_))), (nq_, .inl (cy 0, 4, .inl (fq_)))] H := hP
    have hD := va_ca hP hD
    refine lv_iload_n hx hb dX0_walkersIn_21 rfl (lv_at hl 3 rfl) ?_
    refine joinT (D := D) (A := A) (pc := 28) (mL := 5) (τ := Int32) (WS := fun i => [(nd_, .inr (0, [.int lines_, .int columns_, .int levels_, .int things_, .int walkers_, .ref nw_, .ref nr_, .ref nq_, hangs_, frees_])), (nr_, .inl (cy 0, 32, .inl (fr_))), (nq_, .inl (cy 0, 4, .inl (fq_)))]) (LV := fun i => [(4, .int v200500_), (3, .int i), (0, .ref nd_), (1, .int c_), (2, .int hh_)]) (ST := fun i => []) (cells := 0) (slots := 0) (fun i => R_X0_walkersIn_j3 v10180_ c_ v200501_ i) (fun v202800_ H locs ls hI hP hD hS hl => ?_) (fun j28_ => ?_)
    · have hI : R_X0_walkersIn_j3 v10180_ c_ v200501_ v202800_ := hI
      have hR3_ := hI
      have hP : va_P D vwCl [(nd_, .inr (0, [.int lines_, .int columns_, .int levels_, .int things_, .int walkers_, .ref nw_, .ref nr_, .ref nq_, hangs_, frees_])), (nr_, .inl (cy 0, 32, .inl (fr_))), (nq_, .inl (cy 0, 4, .inl (fq_)))] H := hP
      have hD := va_ca hP hD
      have hl : lv_has ls 5 [(4, .int v200500_), (3, .int v202800_), (0, .ref nd_), (1, .int c_), (2, .int hh_)] := hl
      refine lv_iinc (v := v200500_ + 1) (lv' := [(4, .int (v200500_ + 1)), (3, .int v202800_), (0, .ref nd_), (1, .int c_), (2, .int hh_)]) hx hb dX0_walkersIn_28 hl (k := 0) rfl rfl (by decide) rfl (fun ls hl => ?_)
      have g3_ : rg (1) (4) (v200500_ + 1) := rg_add g1_ (rg_lit (by decide) : rg (1) (1) (1 : Int32)) (by decide) (by decide) (by decide) (by decide)
      refine lv_goto (tgt := 5) hx hb dX0_walkersIn_31 (by decide) ?_
      exact ih5_ (v200500_ + 1, v202800_) _ _ ls ⟨(rg_w g3_ (by decide) (by decide)), (Itr.st hR1_ (Or.inl ⟨v10180_, v202800_, c11_, k18_0_, hR3_, rfl⟩))⟩ (show (6 - (v200500_ + 1).toInt).toNat < (6 - v200500_.toInt).toNat from by rw [show (v200500_ + 1).toInt = v200500_.toInt + 1 from inc32 v200500_ (by have hq := (rv200500_).2; omega)]; have hq := (g1_).1; have hq2 := (g1_).2; omega) hP hD hS (lv_sub hl [0, 1, 2, 3, 4] rfl)
    refine lv_icmp_ne (tgt := 28) hx hb dX0_walkersIn_22 (by decide) (fun c22_ => ?_) (fun c22_ => ?_)
    · exact j28_ v200501_ _ _ ls (Or.inl ⟨c22_, rfl⟩) hP hD hS (lv_sub hl [0, 1, 2, 3, 4] rfl)
    · refine lv_iinc (v := v200501_ + 1) (lv' := [(3, .int (v200501_ + 1)), (4, .int v200500_), (0, .ref nd_), (1, .int c_), (2, .int hh_)]) hx hb dX0_walkersIn_25 hl (k := 1) rfl rfl (by decide) rfl (fun ls hl => ?_)
      exact j28_ (v200501_ + 1) _ _ ls (Or.inr (Or.inl ⟨c22_, rfl⟩)) hP hD hS (lv_sub hl [1, 0, 2, 3, 4] rfl)
def R_X0_hangTime_Nx_e (p0_ : Int32) (r : Int32) : Prop := (r = p0_) ∨ False
set_option maxHeartbeats 4000000 in
set_option maxRecDepth 100000 in
theorem sf_X0_hangTime_Nx (l : Launch) (D : va_G) (cy : Nat → ClassId) (nd_ : Nat) (lines_ : Int32) (columns_ : Int32) (levels_ : Int32) (things_ : Int32) (walkers_ : Int32) (nw_ : Nat) (nr_ : Nat) (nq_ : Nat) (frees_ : Value) (p0_ : Int32) (p1_ : Int32) (p2_ : Int32) (p3_ : Int32) (p4_ : Int32) (p5_ : Int32) (rcolumns_ : rg (1) (6) columns_) (rlevels_ : rg (1) (9) levels_) (rthings_ : rg (0) (8) things_) (rwalkers_ : rg (0) (4) walkers_) : Ci l yX0_hangTime cX0_hangTime 8 (some .int) { frames := 0, cells := 0, slots := 0, locals := 0 } D cy [.ref nd_, .int p0_, .int p1_, .int p2_, .int p3_, .int p4_, .int p5_] [(nd_, .inr (0, [.int lines_, .int columns_, .int levels_, .int things_, .int walkers_, .ref nw_, .ref nr_, .ref nq_, .null, frees_]))] (fun r W1 => R_X0_hangTime_Nx_e p0_ r ∧ W1 = [(nd_, .inr (0, [.int lines_, .int columns_, .int levels_, .int things_, .int walkers_, .ref nw_, .ref nr_, .ref nq_, .null, frees_]))]) := by
  refine Ci.of (by decide) (Nat.le_of_ble_eq_true rfl) ?_
  intro p e s m below meth c A ls hX hE hP hD hl
  obtain ⟨hx, hb, hr, hml, hown, htA, hlk⟩ := id hX
  have hK := hE.1
  have hS : va_S A s.heap s.heap [] := va_S.rf
  have hl : lv_has ls 8 [(0, .ref nd_), (1, .int p0_), (2, .int p1_), (3, .int p2_), (4, .int p3_), (5, .int p4_), (6, .int p5_)] := hl
  refine lv_aload_n hx hb dX0_hangTime_0 rfl (lv_at hl 0 rfl) ?_
  refine va_get (ci := 0) (v := .null) (C := RX0) (T := TX0) (N := 10) hx hb htA in_X0 hown hK hP 0 rfl rfl 8 (by decide) (htA _ wd_102) (fun _ h => h) rfl dX0_hangTime_1 ?_
  refine lv_ifnonnullN hx hb dX0_hangTime_4 ?_
  refine lv_iload_n hx hb dX0_hangTime_7 rfl (lv_at hl 1 rfl) ?_
  exact rI hX hE hP hD hS dX0_hangTime_8 (by decide) (by decide) ⟨(Or.inl rfl), rfl⟩
def R_X0_hangTime_Rx_e (p4_ : Int32) (lenH_ : Nat) (fpH_ : Nat → Int32) (fgH_ : Nat → Int32) (p0_ : Int32) (p1_ : Int32) (p2_ : Int32) (p3_ : Int32) (p5_ : Int32) (fkH_ : Nat → Int32) (x0_ : Nat → Int32) (x1_ : Nat → Int32) (r : Int32) : Prop := (∃ (v10460_ : Int32) (g10641_ : Nat → Int32) (v10640_ : Int32), R_J9_floorMod_7cf53_24_e p4_ ((24 : Int32)) v10460_ ∧ R_X4_value_e lenH_ fpH_ ((upd (upd (upd (upd (upd (upd fgH_ ((0 : Int32).toNatClampNeg) p0_) ((1 : Int32).toNatClampNeg) p1_) ((2 : Int32).toNatClampNeg) p2_) ((3 : Int32).toNatClampNeg) p3_) ((4 : Int32).toNatClampNeg) v10460_) ((5 : Int32).toNatClampNeg) p5_)) fkH_ g10641_ v10640_ ∧ x0_ = upd (upd (upd (upd (upd (upd fgH_ ((0 : Int32).toNatClampNeg) p0_) ((1 : Int32).toNatClampNeg) p1_) ((2 : Int32).toNatClampNeg) p2_) ((3 : Int32).toNatClampNeg) p3_) ((4 : Int32).toNatClampNeg) v10460_) ((5 : Int32).toNatClampNeg) p5_ ∧ x1_ = g10641_ ∧ r = (if 0 < (if v10640_ < 999 then v10640_ else 999) then (if v10640_ < 999 then v10640_ else 999) else 0)) ∨ False
set_option maxHeartbeats 4000000 in
set_option maxRecDepth 100000 in
theorem sf_X0_hangTime_Rx (l : Launch) (D : va_G) (cy : Nat → ClassId) (nd_ : Nat) (lines_ : Int32) (columns_ : Int32) (levels_ : Int32) (things_ : Int32) (walkers_ : Int32) (nw_ : Nat) (nr_ : Nat) (nq_ : Nat) (nLH_ : Nat) (frees_ : Value) (npH_ : Nat) (ngH_ : Nat) (nkH_ : Nat) (lenH_ : Nat) (fpH_ : Nat → Int32) (fgH_ : Nat → Int32) (fkH_ : Nat → Int32) (p0_ : Int32) (p1_ : Int32) (p2_ : Int32) (p3_ : Int32) (p4_ : Int32) (p5_ : Int32) (hlenH_ : lenH_ ≤ 900) (rcolumns_ : rg (1) (6) columns_) (rlevels_ : rg (1) (9) levels_) (rthings_ : rg (0) (8) things_) (rwalkers_ : rg (0) (4) walkers_) : Ci l yX0_hangTime cX0_hangTime 8 (some .int) { frames := 2, cells := 0, slots := 0, locals := 55 } D cy [.ref nd_, .int p0_, .int p1_, .int p2_, .int p3_, .int p4_, .int p5_] [(nd_, .inr (0, [.int lines_, .int columns_, .int levels_, .int things_, .int walkers_, .ref nw_, .ref nr_, .ref nq_, .ref nLH_, frees_])), (nLH_, .inr (4, [.ref npH_, .ref ngH_, .ref nkH_])), (npH_, .inl (cy 0, lenH_, .inl (fpH_))), (ngH_, .inl (cy 0, 6, .inl (fgH_))), (nkH_, .inl (cy 0, 32, .inl (fkH_)))] (fun r W1 => ∃ (x0_ : Nat → Int32) (x1_ : Nat → Int32), R_X0_hangTime_Rx_e p4_ lenH_ fpH_ fgH_ p0_ p1_ p2_ p3_ p5_ fkH_ x0_ x1_ r ∧ W1 = [(nd_, .inr (0, [.int lines_, .int columns_, .int levels_, .int things_, .int walkers_, .ref nw_, .ref nr_, .ref nq_, .ref nLH_, frees_])), (nLH_, .inr (4, [.ref npH_, .ref ngH_, .ref nkH_])), (npH_, .inl (cy 0, lenH_, .inl (fpH_))), (ngH_, .inl (cy 0, 6, .inl (x0_))), (nkH_, .inl (cy 0, 32, .inl (x1_)))] ∧ rg (0) (999) r) := by
  refine Ci.of (by decide) (Nat.le_of_ble_eq_true rfl) ?_
  intro p e s m below meth c A ls hX hE hP hD hl
  obtain ⟨hx, hb, hr, hml, hown, htA, hlk⟩ := id hX
  have hK := hE.1
  have hS : va_S A s.heap s.heap [] := va_S.rf
  have hl : lv_has ls 8 [(0, .ref nd_), (1, .int p0_), (2, .int p1_), (3, .int p2_), (4, .int p3_), (5, .int p4_), (6, .int p5_)] := hl
  refine lv_aload_n hx hb dX0_hangTime_0 rfl (lv_at hl 0 rfl) ?_
  refine va_get (ci := 0) (v := .ref nLH_) (C := RX0) (T := TX0) (N := 10) hx hb htA in_X0 hown hK hP 0 rfl rfl 8 (by decide) (htA _ wd_102) (fun _ h => h) rfl dX0_hangTime_1 ?_
  refine lv_ifnonnull (tgt := 9) hx hb dX0_hangTime_4 (by decide) ?_
  refine lv_aload_n hx hb dX0_hangTime_9 rfl (lv_at hl 0 rfl) ?_
  refine va_get (ci := 0) (v := .ref nLH_) (C := RX0) (T := TX0) (N := 10) hx hb htA in_X0 hown hK hP 0 rfl rfl 8 (by decide) (htA _ wd_102) (fun _ h => h) rfl dX0_hangTime_10 ?_
  refine va_get (ci := 4) (v := .ref ngH_) (C := RX4) (T := TX4) (N := 3) hx hb htA in_X4 hown hK hP 1 rfl rfl 1 (by decide) (htA _ wd_823) (fun _ h => h) rfl dX0_hangTime_13 ?_
  refine lv_astore (lv' := [(7, .ref ngH_), (0, .ref nd_), (1, .int p0_), (2, .int p1_), (3, .int p2_), (4, .int p3_), (5, .int p4_), (6, .int p5_)]) hx hb dX0_hangTime_16 hl (by decide) rfl (fun ls hl => ?_)
  refine lv_aload hx hb dX0_hangTime_18 (lv_at hl 0 rfl) ?_
  refine lv_iconst (v := 0) hx hb dX0_hangTime_20 (by decide) ?_
  refine lv_iload_n hx hb dX0_hangTime_21 rfl (lv_at hl 2 rfl) ?_
  refine va_iast hx hb hK hP hD hS 3 0 rfl rfl (in_lit (by decide)) dX0_hangTime_22 (fun H locs hP hD hS => ?_)
  have hP : va_P D vwCl [(nd_, .inr (0, [.int lines_, .int columns_, .int levels_, .int things_, .int walkers_, .ref nw_, .ref nr_, .ref nq_, .ref nLH_, frees_])), (nLH_, .inr (4, [.ref npH_, .ref ngH_, .ref nkH_])), (npH_, .inl (cy 0, lenH_, .inl (fpH_))), (ngH_, .inl (cy 0, 6, .inl (upd fgH_ ((0 : Int32).toNatClampNeg) p0_))), (nkH_, .inl (cy 0, 32, .inl (fkH_)))] H := hP
  have hD := va_ca hP hD
  refine lv_aload hx hb dX0_hangTime_23 (lv_at hl 0 rfl) ?_
  refine lv_iconst (v := 1) hx hb dX0_hangTime_25 (by decide) ?_
  refine lv_iload_n hx hb dX0_hangTime_26 rfl (lv_at hl 3 rfl) ?_
  refine va_iast hx hb hK hP hD hS 3 0 rfl rfl (in_lit (by decide)) dX0_hangTime_27 (fun H locs hP hD hS => ?_)
  have hP : va_P D vwCl [(nd_, .inr (0, [.int lines_, .int columns_, .int levels_, .int things_, .int walkers_, .ref nw_, .ref nr_, .ref nq_, .ref nLH_, frees_])), (nLH_, .inr (4, [.ref npH_, .ref ngH_, .ref nkH_])), (npH_, .inl (cy 0, lenH_, .inl (fpH_))), (ngH_, .inl (cy 0, 6, .inl (upd (upd fgH_ ((0 : Int32).toNatClampNeg) p0_) ((1 : Int32).toNatClampNeg) p1_))), (nkH_, .inl (cy 0, 32, .inl (fkH_)))] H := hP
  have hD := va_ca hP hD
  refine lv_aload hx hb dX0_hangTime_28 (lv_at hl 0 rfl) ?_
  refine lv_iconst (v := 2) hx hb dX0_hangTime_30 (by decide) ?_
  refine lv_iload_n hx hb dX0_hangTime_31 rfl (lv_at hl 4 rfl) ?_
  refine va_iast hx hb hK hP hD hS 3 0 rfl rfl (in_lit (by decide)) dX0_hangTime_32 (fun H locs hP hD hS => ?_)
  have hP : va_P D vwCl [(nd_, .inr (0, [.int lines_, .int columns_, .int levels_, .int things_, .int walkers_, .ref nw_, .ref nr_, .ref nq_, .ref nLH_, frees_])), (nLH_, .inr (4, [.ref npH_, .ref ngH_, .ref nkH_])), (npH_, .inl (cy 0, lenH_, .inl (fpH_))), (ngH_, .inl (cy 0, 6, .inl (upd (upd (upd fgH_ ((0 : Int32).toNatClampNeg) p0_) ((1 : Int32).toNatClampNeg) p1_) ((2 : Int32).toNatClampNeg) p2_))), (nkH_, .inl (cy 0, 32, .inl (fkH_)))] H := hP
  have hD := va_ca hP hD
  refine lv_aload hx hb dX0_hangTime_33 (lv_at hl 0 rfl) ?_
  refine lv_iconst (v := 3) hx hb dX0_hangTime_35 (by decide) ?_
  refine lv_iload hx hb dX0_hangTime_36 (lv_at hl 5 rfl) ?_
  refine va_iast hx hb hK hP hD hS 3 0 rfl rfl (in_lit (by decide)) dX0_hangTime_38 (fun H locs hP hD hS => ?_)
  have hP : va_P D vwCl [(nd_, .inr (0, [.int lines_, .int columns_, .int levels_, .int things_, .int walkers_, .ref nw_, .ref nr_, .ref nq_, .ref nLH_, frees_])), (nLH_, .inr (4, [.ref npH_, .ref ngH_, .ref nkH_])), (npH_, .inl (cy 0, lenH_, .inl (fpH_))), (ngH_, .inl (cy 0, 6, .inl (upd (upd (upd (upd fgH_ ((0 : Int32).toNatClampNeg) p0_) ((1 : Int32).toNatClampNeg) p1_) ((2 : Int32).toNatClampNeg) p2_) ((3 : Int32).toNatClampNeg) p3_))), (nkH_, .inl (cy 0, 32, .inl (fkH_)))] H := hP
  have hD := va_ca hP hD
  refine lv_aload hx hb dX0_hangTime_39 (lv_at hl 0 rfl) ?_
  refine lv_iconst (v := 4) hx hb dX0_hangTime_41 (by decide) ?_
  refine lv_iload hx hb dX0_hangTime_42 (lv_at hl 6 rfl) ?_
  refine lv_bipush (v := 24) hx hb dX0_hangTime_44 (by decide) ?_
  refine kSi (As := [.int p4_, .int 24]) (rest := [.int 4, .ref ngH_]) (wr := [(nd_, .inr (0, [.int lines_, .int columns_, .int levels_, .int things_, .int walkers_, .ref nw_, .ref nr_, .ref nq_, .ref nLH_, frees_])), (nLH_, .inr (4, [.ref npH_, .ref ngH_, .ref nkH_])), (npH_, .inl (cy 0, lenH_, .inl (fpH_))), (ngH_, .inl (cy 0, 6, .inl (upd (upd (upd (upd fgH_ ((0 : Int32).toNatClampNeg) p0_) ((1 : Int32).toNatClampNeg) p1_) ((2 : Int32).toNatClampNeg) p2_) ((3 : Int32).toNatClampNeg) p3_))), (nkH_, .inl (cy 0, 32, .inl (fkH_)))]) hX hE (sf_J9_floorMod_7cf53_24 l D cy p4_ (24 : Int32) (rg_w (rg_lit (by decide) : rg (24) (24) (24 : Int32)) (by decide) (by decide))) (cwSA 2 htA wd_405 wd_403 wd_19 wd_404 (by decide +kernel) ⟨by decide, by decide⟩) hP hD hS [] [0, 1, 2, 3, 4] rfl rfl (by decide +kernel) rfl hl.1 rfl (Nat.le_of_ble_eq_true rfl) dX0_hangTime_46 (by decide) (fun v10460_ W1 H locs hw hP hD hS => ?_)
  refine W.widen (k := 0) (n := 0) (by decide) (by decide) ?_
  obtain ⟨k46_0_, rfl, kr46_⟩ := hw
  have hP : va_P D vwCl [(nd_, .inr (0, [.int lines_, .int columns_, .int levels_, .int things_, .int walkers_, .ref nw_, .ref nr_, .ref nq_, .ref nLH_, frees_])), (nLH_, .inr (4, [.ref npH_, .ref ngH_, .ref nkH_])), (npH_, .inl (cy 0, lenH_, .inl (fpH_))), (ngH_, .inl (cy 0, 6, .inl (upd (upd (upd (upd fgH_ ((0 : Int32).toNatClampNeg) p0_) ((1 : Int32).toNatClampNeg) p1_) ((2 : Int32).toNatClampNeg) p2_) ((3 : Int32).toNatClampNeg) p3_))), (nkH_, .inl (cy 0, 32, .inl (fkH_)))] H := hP
  have hD := va_ca hP hD
  refine va_iast hx hb hK hP hD hS 3 0 rfl rfl (in_lit (by decide)) dX0_hangTime_49 (fun H locs hP hD hS => ?_)
  have hP : va_P D vwCl [(nd_, .inr (0, [.int lines_, .int columns_, .int levels_, .int things_, .int walkers_, .ref nw_, .ref nr_, .ref nq_, .ref nLH_, frees_])), (nLH_, .inr (4, [.ref npH_, .ref ngH_, .ref nkH_])), (npH_, .inl (cy 0, lenH_, .inl (fpH_))), (ngH_, .inl (cy 0, 6, .inl (upd (upd (upd (upd (upd fgH_ ((0 : Int32).toNatClampNeg) p0_) ((1 : Int32).toNatClampNeg) p1_) ((2 : Int32).toNatClampNeg) p2_) ((3 : Int32).toNatClampNeg) p3_) ((4 : Int32).toNatClampNeg) v10460_))), (nkH_, .inl (cy 0, 32, .inl (fkH_)))] H := hP
  have hD := va_ca hP hD
  refine lv_aload hx hb dX0_hangTime_50 (lv_at hl 0 rfl) ?_
  refine lv_iconst (v := 5) hx hb dX0_hangTime_52 (by decide) ?_
  refine lv_iload hx hb dX0_hangTime_53 (lv_at hl 7 rfl) ?_
  refine va_iast hx hb hK hP hD hS 3 0 rfl rfl (in_lit (by decide)) dX0_hangTime_55 (fun H locs hP hD hS => ?_)
  have hP : va_P D vwCl [(nd_, .inr (0, [.int lines_, .int columns_, .int levels_, .int things_, .int walkers_, .ref nw_, .ref nr_, .ref nq_, .ref nLH_, frees_])), (nLH_, .inr (4, [.ref npH_, .ref ngH_, .ref nkH_])), (npH_, .inl (cy 0, lenH_, .inl (fpH_))), (ngH_, .inl (cy 0, 6, .inl (upd (upd (upd (upd (upd (upd fgH_ ((0 : Int32).toNatClampNeg) p0_) ((1 : Int32).toNatClampNeg) p1_) ((2 : Int32).toNatClampNeg) p2_) ((3 : Int32).toNatClampNeg) p3_) ((4 : Int32).toNatClampNeg) v10460_) ((5 : Int32).toNatClampNeg) p5_))), (nkH_, .inl (cy 0, 32, .inl (fkH_)))] H := hP
  have hD := va_ca hP hD
  refine lv_iconst (v := 0) hx hb dX0_hangTime_56 (by decide) ?_
  refine lv_sipush (v := 999) hx hb dX0_hangTime_57 (by decide) ?_
  refine lv_aload_n hx hb dX0_hangTime_60 rfl (lv_at hl 1 rfl) ?_
  refine va_get (ci := 0) (v := .ref nLH_) (C := RX0) (T := TX0) (N := 10) hx hb htA in_X0 hown hK hP 0 rfl rfl 8 (by decide) (htA _ wd_102) (fun _ h => h) rfl dX0_hangTime_61 ?_
  refine kVi (As := []) (rest := [.int 999, .int 0]) (wr := [(nd_, .inr (0, [.int lines_, .int columns_, .int levels_, .int things_, .int walkers_, .ref nw_, .ref nr_, .ref nq_, .ref nLH_, frees_]))]) hX hE (sf_X4_value l D cy nLH_ npH_ ngH_ nkH_ lenH_ fpH_ (upd (upd (upd (upd (upd (upd fgH_ ((0 : Int32).toNatClampNeg) p0_) ((1 : Int32).toNatClampNeg) p1_) ((2 : Int32).toNatClampNeg) p2_) ((3 : Int32).toNatClampNeg) p3_) ((4 : Int32).toNatClampNeg) v10460_) ((5 : Int32).toNatClampNeg) p5_) fkH_ hlenH_) (cwVA 0 htA wd_409 wd_406 wd_21 wd_407 wd_408 (by decide +kernel) ⟨by decide, by decide⟩) hP hD hS [1, 2, 3, 4] [0] rfl rfl (by decide +kernel) 0 rfl rfl rfl rfl hl.1 rfl (Nat.le_of_ble_eq_true rfl) dX0_hangTime_64 (by decide) (fun v10640_ W1 H locs hw hP hD hS => ?_)
  refine W.widen (k := 0) (n := 0) (by decide) (by decide) ?_
  obtain ⟨g10641_, k64_0_, rfl⟩ := hw
  have hP : va_P D vwCl [(nd_, .inr (0, [.int lines_, .int columns_, .int levels_, .int things_, .int walkers_, .ref nw_, .ref nr_, .ref nq_, .ref nLH_, frees_])), (nLH_, .inr (4, [.ref npH_, .ref ngH_, .ref nkH_])), (npH_, .inl (cy 0, lenH_, .inl (fpH_))), (ngH_, .inl (cy 0, 6, .inl (upd (upd (upd (upd (upd (upd fgH_ ((0 : Int32).toNatClampNeg) p0_) ((1 : Int32).toNatClampNeg) p1_) ((2 : Int32).toNatClampNeg) p2_) ((3 : Int32).toNatClampNeg) p3_) ((4 : Int32).toNatClampNeg) v10460_) ((5 : Int32).toNatClampNeg) p5_))), (nkH_, .inl (cy 0, 32, .inl (g10641_)))] H := hP
  have hD := va_ca hP hD
  refine va_mmin hx hb (hml.trans hl.1.symm) hown (htA _ wd_424) (htA _ wd_422) (htA _ wd_19) (htA _ wd_423) (by decide) (Nat.le_of_ble_eq_true rfl) (by decide) (by decide) dX0_hangTime_67 ?_
  have g1_ : rg (-2147483648) (999) (if v10640_ < 999 then v10640_ else 999) := rg_mn (rg_lit (by decide) : rg (999) (999) (999 : Int32)) (rg_any _) (by decide) (by decide)
  refine va_mmax hx hb (hml.trans hl.1.symm) hown (htA _ wd_425) (htA _ wd_426) (htA _ wd_19) (htA _ wd_427) (by decide) (Nat.le_of_ble_eq_true rfl) (by decide) (by decide) dX0_hangTime_70 ?_
  have g2_ : rg (0) (999) (if 0 < (if v10640_ < 999 then v10640_ else 999) then (if v10640_ < 999 then v10640_ else 999) else 0) := rg_mx (rg_lit (by decide) : rg (0) (0) (0 : Int32)) g1_ (by decide) (by decide)
  exact rI hX hE hP hD hS dX0_hangTime_73 (by decide) (by decide) ⟨(upd (upd (upd (upd (upd (upd fgH_ ((0 : Int32).toNatClampNeg) p0_) ((1 : Int32).toNatClampNeg) p1_) ((2 : Int32).toNatClampNeg) p2_) ((3 : Int32).toNatClampNeg) p3_) ((4 : Int32).toNatClampNeg) v10460_) ((5 : Int32).toNatClampNeg) p5_), g10641_, (Or.inl ⟨v10460_, g10641_, v10640_, k46_0_, k64_0_, rfl, rfl, rfl⟩), rfl, (rg_w g2_ (by decide) (by decide))⟩
def R_X6_lying_j3 (v10200_ : Int32) (v200401_ : Int32) (fc_ : Nat → Int32) (v200400_ : Int32) (c_ : Int32) (v203800_ : Int32) : Prop := (¬ v10200_ = (2 : Int32) ∧ v203800_ = v200401_) ∨ (∃ (v10300_ : Int32), v10200_ = (2 : Int32) ∧ v10300_ = fc_ v200400_.toNatClampNeg ∧ ¬ v10300_ = c_ ∧ v203800_ = v200401_) ∨ (∃ (v10300_ : Int32), v10200_ = (2 : Int32) ∧ v10300_ = fc_ v200400_.toNatClampNeg ∧ v10300_ = c_ ∧ v203800_ = v200401_ + 1) ∨ False
def R_X6_lying_b1 (things_ : Int32) (fs_ : Nat → Int32) (fc_ : Nat → Int32) (c_ : Int32) (uZ_ vZ_ : Int32 × Int32) : Prop := (∃ (v10200_ : Int32) (v203800_ : Int32), ¬ (things_ ≤ uZ_.1) ∧ v10200_ = fs_ uZ_.1.toNatClampNeg ∧ R_X6_lying_j3 v10200_ uZ_.2 fc_ uZ_.1 c_ v203800_ ∧ vZ_ = (uZ_.1 + 1, v203800_)) ∨ False
def R_X6_lying_e (things_ : Int32) (fs_ : Nat → Int32) (fc_ : Nat → Int32) (c_ : Int32) (r : Int32) : Prop := (∃ (v200400_ : Int32) (v200401_ : Int32), Itr (R_X6_lying_b1 things_ fs_ fc_ c_) (0, 0) (v200400_, v200401_) ∧ things_ ≤ v200400_ ∧ r = v200401_) ∨ False
set_option maxHeartbeats 4000000 in
set_option maxRecDepth 100000 in
theorem sf_X6_lying (l : Launch) (D : va_G) (cy : Nat → ClassId) (no_ : Nat) (nd_ : Nat) (hour_ : Int32) (ns_ : Nat) (nc_ : Nat) (nl_ : Nat) (nt_ : Nat) (nh_ : Nat) (fallen_ : Int32) (fs_ : Nat → Int32) (fc_ : Nat → Int32) (lines_ : Int32) (columns_ : Int32) (levels_ : Int32) (things_ : Int32) (walkers_ : Int32) (nw_ : Nat) (nr_ : Nat) (nq_ : Nat) (hangs_ : Value) (frees_ : Value) (c_ : Int32) (rcolumns_ : rg (1) (6) columns_) (rlevels_ : rg (1) (9) levels_) (rthings_ : rg (0) (8) things_) (rwalkers_ : rg (0) (4) walkers_) : Ci l yX6_lying cX6_lying 4 (some .int) { frames := 0, cells := 0, slots := 0, locals := 0 } D cy [.ref no_, .int c_] [(no_, .inr (6, [.ref nd_, .int hour_, .ref ns_, .ref nc_, .ref nl_, .ref nt_, .ref nh_, .int fallen_])), (ns_, .inl (cy 0, 8, .inl (fs_))), (nc_, .inl (cy 0, 8, .inl (fc_))), (nd_, .inr (0, [.int lines_, .int columns_, .int levels_, .int things_, .int walkers_, .ref nw_, .ref nr_, .ref nq_, hangs_, frees_]))] (fun r W1 => R_X6_lying_e things_ fs_ fc_ c_ r ∧ W1 = [(no_, .inr (6, [.ref nd_, .int hour_, .ref ns_, .ref nc_, .ref nl_, .ref nt_, .ref nh_, .int fallen_])), (ns_, .inl (cy 0, 8, .inl (fs_))), (nc_, .inl (cy 0, 8, .inl (fc_))), (nd_, .inr (0, [.int lines_, .int columns_, .int levels_, .int things_, .int walkers_, .ref nw_, .ref nr_, .ref nq_, hangs_, frees_]))]) := by
  refine Ci.of (by decide) (Nat.le_of_ble_eq_true rfl) ?_
  intro p e s m below meth c A ls hX hE hP hD hl
  obtain ⟨hx, hb, hr, hml, hown, htA, hlk⟩ := id hX
  have hK := hE.1
  have hS : va_S A s.heap s.heap [] := va_S.rf
  have hl : lv_has ls 4 [(0, .ref no_), (1, .int c_)] := hl
  refine lv_iconst (v := 0) hx hb dX6_lying_0 (by decide) ?_
  refine lv_istore_n (lv' := [(2, .int 0), (0, .ref no_), (1, .int c_)]) hx hb dX6_lying_1 rfl hl (by decide) rfl (fun ls hl => ?_)
  refine lv_iconst (v := 0) hx hb dX6_lying_2 (by decide) ?_
  refine lv_istore_n (lv' := [(3, .int 0), (2, .int 0), (0, .ref no_), (1, .int c_)]) hx hb dX6_lying_3 rfl hl (by decide) rfl (fun ls hl => ?_)
  refine loopT (τ := Int32 × Int32) (WS := fun i => [(no_, .inr (6, [.ref nd_, .int hour_, .ref ns_, .ref nc_, .ref nl_, .ref nt_, .ref nh_, .int fallen_])), (ns_, .inl (cy 0, 8, .inl (fs_))), (nc_, .inl (cy 0, 8, .inl (fc_))), (nd_, .inr (0, [.int lines_, .int columns_, .int levels_, .int things_, .int walkers_, .ref nw_, .ref nr_, .ref nq_, hangs_, frees_]))]) (LV := fun i => [(3, .int i.1), (2, .int i.2), (0, .ref no_), (1, .int c_)]) (fun i => (9 - i.1.toInt).toNat) (fun i => rg (0) (8) i.1 ∧ Itr (R_X6_lying_b1 things_ fs_ fc_ c_) (0, 0) (i.1, i.2)) ?_ (0, 0) ⟨(rg_w (rg_lit (by decide) : rg (0) (0) (0 : Int32)) (by decide) (by decide)), (Itr.rf _ _)⟩ hP hD hS (lv_sub hl [0, 1, 2, 3] rfl)
  intro i_ H locs ls hI ih4_ hP hD hS hl
  obtain ⟨v200400_, v200401_⟩ := i_
  have hI : rg (0) (8) v200400_ ∧ Itr (R_X6_lying_b1 things_ fs_ fc_ c_) (0, 0) (v200400_, v200401_) := hI
  obtain ⟨rv200400_, hR1_⟩ := hI
  have hP : va_P D vwCl [(no_, .inr (6, [.ref nd_, .int hour_, .ref ns_, .ref nc_, .ref nl_, .ref nt_, .ref nh_, .int fallen_])), (ns_, .inl (cy 0, 8, .inl (fs_))), (nc_, .inl (cy 0, 8, .inl (fc_))), (nd_, .inr (0, [.int lines_, .int columns_, .int levels_, .int things_, .int walkers_, .ref nw_, .ref nr_, .ref nq_, hangs_, frees_]))] H := hP
  have hD := va_ca hP hD
  have hl : lv_has ls 4 [(3, .int v200400_), (2, .int v200401_), (0, .ref no_), (1, .int c_)] := hl
  refine lv_iload_n hx hb dX6_lying_4 rfl (lv_at hl 0 rfl) ?_
  refine lv_aload_n hx hb dX6_lying_5 rfl (lv_at hl 2 rfl) ?_
  refine va_get (ci := 6) (v := .ref nd_) (C := RX6) (T := TX6) (N := 8) hx hb htA in_X6 hown hK hP 0 rfl rfl 0 (by decide) (htA _ wd_166) (fun _ h => h) rfl dX6_lying_6 ?_
  refine va_get (ci := 0) (v := .int things_) (C := RX0) (T := TX0) (N := 10) hx hb htA in_X0 hown hK hP 3 rfl rfl 3 (by decide) (htA _ wd_86) (fun _ h => h) rfl dX6_lying_9 ?_
  refine lv_icmp_ge (tgt := 44) hx hb dX6_lying_12 (by decide) (fun c12_ => ?_) (fun c12_ => ?_)
  · refine lv_iload_n hx hb dX6_lying_44 rfl (lv_at hl 1 rfl) ?_
    exact rI hX hE hP hD hS dX6_lying_45 (by decide) (by decide) ⟨(Or.inl ⟨v200400_, v200401_, hR1_, c12_, rfl⟩), rfl⟩
  · have g1_ : rg (0) (7) v200400_ := rg_lt1 (rg_nle c12_) rv200400_ rthings_ (by decide)
    have g2_ : rg (1) (8) things_ := rg_lt2 (rg_nle c12_) rv200400_ rthings_ (by decide)
    refine lv_aload_n hx hb dX6_lying_15 rfl (lv_at hl 2 rfl) ?_
    refine va_get (ci := 6) (v := .ref ns_) (C := RX6) (T := TX6) (N := 8) hx hb htA in_X6 hown hK hP 0 rfl rfl 2 (by decide) (htA _ wd_174) (fun _ h => h) rfl dX6_lying_16 ?_
    refine lv_iload_n hx hb dX6_lying_19 rfl (lv_at hl 0 rfl) ?_
    refine va_iald hx hb hK hP 1 0 rfl rfl (rg_in g1_ (by decide) (by decide)) dX6_lying_20 ?_
    refine lv_topi (fun v10200_ ev10200_ => ?_)
    refine lv_iconst (v := 2) hx hb dX6_lying_21 (by decide) ?_
    refine joinT (D := D) (A := A) (pc := 38) (mL := 4) (τ := Int32) (WS := fun i => [(no_, .inr (6, [.ref nd_, .int hour_, .ref ns_, .ref nc_, .ref nl_, .ref nt_, .ref nh_, .int fallen_])), (ns_, .inl (cy 0, 8, .inl (fs_))), (nc_, .inl (cy 0, 8, .inl (fc_))), (nd_, .inr (0, [.int lines_, .int columns_, .int levels_, .int things_, .int walkers_, .ref nw_, .ref nr_, .ref nq_, hangs_, frees_]))]) (LV := fun i => [(3, .int v200400_), (2, .int i), (0, .ref no_), (1, .int c_)]) (ST := fun i => []) (cells := 0) (slots := 0) (fun i => R_X6_lying_j3 v10200_ v200401_ fc_ v200400_ c_ i) (fun v203800_ H locs ls hI hP hD hS hl => ?_) (fun j38_ => ?_)
    · have hI : R_X6_lying_j3 v10200_ v200401_ fc_ v200400_ c_ v203800_ := hI
      have hR3_ := hI
      have hP : va_P D vwCl [(no_, .inr (6, [.ref nd_, .int hour_, .ref ns_, .ref nc_, .ref nl_, .ref nt_, .ref nh_, .int fallen_])), (ns_, .inl (cy 0, 8, .inl (fs_))), (nc_, .inl (cy 0, 8, .inl (fc_))), (nd_, .inr (0, [.int lines_, .int columns_, .int levels_, .int things_, .int walkers_, .ref nw_, .ref nr_, .ref nq_, hangs_, frees_]))] H := hP
      have hD := va_ca hP hD
      have hl : lv_has ls 4 [(3, .int v200400_), (2, .int v203800_), (0, .ref no_), (1, .int c_)] := hl
      refine lv_iinc (v := v200400_ + 1) (lv' := [(3, .int (v200400_ + 1)), (2, .int v203800_), (0, .ref no_), (1, .int c_)]) hx hb dX6_lying_38 hl (k := 0) rfl rfl (by decide) rfl (fun ls hl => ?_)
      have g3_ : rg (1) (8) (v200400_ + 1) := rg_add g1_ (rg_lit (by decide) : rg (1) (1) (1 : Int32)) (by decide) (by decide) (by decide) (by decide)
      refine lv_goto (tgt := 4) hx hb dX6_lying_41 (by decide) ?_
      exact ih4_ (v200400_ + 1, v203800_) _ _ ls ⟨(rg_w g3_ (by decide) (by decide)), (Itr.st hR1_ (Or.inl ⟨v10200_, v203800_, c12_, ev10200_, hR3_, rfl⟩))⟩ (show (9 - (v200400_ + 1).toInt).toNat < (9 - v200400_.toInt).toNat from by rw [show (v200400_ + 1).toInt = v200400_.toInt + 1 from inc32 v200400_ (by have hq := (rv200400_).2; omega)]; have hq := (g1_).1; have hq2 := (g1_).2; omega) hP hD hS (lv_sub hl [0, 1, 2, 3] rfl)
    refine lv_icmp_ne (tgt := 38) hx hb dX6_lying_22 (by decide) (fun c22_ => ?_) (fun c22_ => ?_)
    · exact j38_ v200401_ _ _ ls (Or.inl ⟨c22_, rfl⟩) hP hD hS (lv_sub hl [0, 1, 2, 3] rfl)
    · have g4_ : rg (2) (2) v10200_ := rg_eq c22_ (rg_lit (by decide) : rg (2) (2) (2 : Int32))
      refine lv_aload_n hx hb dX6_lying_25 rfl (lv_at hl 2 rfl) ?_
      refine va_get (ci := 6) (v := .ref nc_) (C := RX6) (T := TX6) (N := 8) hx hb htA in_X6 hown hK hP 0 rfl rfl 3 (by decide) (htA _ wd_178) (fun _ h => h) rfl dX6_lying_26 ?_
      refine lv_iload_n hx hb dX6_lying_29 rfl (lv_at hl 0 rfl) ?_
      refine va_iald hx hb hK hP 2 0 rfl rfl (rg_in g1_ (by decide) (by decide)) dX6_lying_30 ?_
      refine lv_topi (fun v10300_ ev10300_ => ?_)
      refine lv_iload_n hx hb dX6_lying_31 rfl (lv_at hl 3 rfl) ?_
      refine lv_icmp_ne (tgt := 38) hx hb dX6_lying_32 (by decide) (fun c32_ => ?_) (fun c32_ => ?_)
      · exact j38_ v200401_ _ _ ls (Or.inr (Or.inl ⟨v10300_, c22_, ev10300_, c32_, rfl⟩)) hP hD hS (lv_sub hl [0, 1, 2, 3] rfl)
      · refine lv_iinc (v := v200401_ + 1) (lv' := [(2, .int (v200401_ + 1)), (3, .int v200400_), (0, .ref no_), (1, .int c_)]) hx hb dX6_lying_35 hl (k := 1) rfl rfl (by decide) rfl (fun ls hl => ?_)
        exact j38_ (v200401_ + 1) _ _ ls (Or.inr (Or.inr (Or.inl ⟨v10300_, c22_, ev10300_, c32_, rfl⟩))) hP hD hS (lv_sub hl [1, 0, 2, 3] rfl)
def R_X6_thingAt_j3 (v10180_ : Int32) (fc_ : Nat → Int32) (v200200_ : Int32) (c_ : Int32) (fl_ : Nat → Int32) (l_ : Int32) : Prop := (v10180_ = (0 : Int32)) ∨ (∃ (v10270_ : Int32), ¬ (v10180_ = (0 : Int32)) ∧ v10270_ = fc_ v200200_.toNatClampNeg ∧ ¬ v10270_ = c_) ∨ (∃ (v10270_ : Int32) (v10370_ : Int32), ¬ (v10180_ = (0 : Int32)) ∧ v10270_ = fc_ v200200_.toNatClampNeg ∧ v10270_ = c_ ∧ v10370_ = fl_ v200200_.toNatClampNeg ∧ ¬ v10370_ = l_) ∨ False
def R_X6_thingAt_b1 (things_ : Int32) (fs_ : Nat → Int32) (fc_ : Nat → Int32) (c_ : Int32) (fl_ : Nat → Int32) (l_ : Int32) (uZ_ vZ_ : Int32) : Prop := (∃ (v10180_ : Int32), ¬ (things_ ≤ uZ_) ∧ v10180_ = fs_ uZ_.toNatClampNeg ∧ R_X6_thingAt_j3 v10180_ fc_ uZ_ c_ fl_ l_ ∧ vZ_ = uZ_ + 1) ∨ False
def R_X6_thingAt_e (things_ : Int32) (fs_ : Nat → Int32) (fc_ : Nat → Int32) (c_ : Int32) (fl_ : Nat → Int32) (l_ : Int32) (r : Int32) : Prop := (∃ (v200200_ : Int32), Itr (R_X6_thingAt_b1 things_ fs_ fc_ c_ fl_ l_) 0 v200200_ ∧ things_ ≤ v200200_ ∧ r = ((-1) : Int32)) ∨ (∃ (v200200_ : Int32) (v10180_ : Int32) (v10270_ : Int32) (v10370_ : Int32), Itr (R_X6_thingAt_b1 things_ fs_ fc_ c_ fl_ l_) 0 v200200_ ∧ ¬ (things_ ≤ v200200_) ∧ v10180_ = fs_ v200200_.toNatClampNeg ∧ ¬ (v10180_ = (0 : Int32)) ∧ v10270_ = fc_ v200200_.toNatClampNeg ∧ v10270_ = c_ ∧ v10370_ = fl_ v200200_.toNatClampNeg ∧ v10370_ = l_ ∧ r = v200200_) ∨ False
set_option maxHeartbeats 4000000 in
set_option maxRecDepth 100000 in
theorem sf_X6_thingAt (l : Launch) (D : va_G) (cy : Nat → ClassId) (no_ : Nat) (nd_ : Nat) (hour_ : Int32) (ns_ : Nat) (nc_ : Nat) (nl_ : Nat) (nt_ : Nat) (nh_ : Nat) (fallen_ : Int32) (fs_ : Nat → Int32) (fc_ : Nat → Int32) (fl_ : Nat → Int32) (lines_ : Int32) (columns_ : Int32) (levels_ : Int32) (things_ : Int32) (walkers_ : Int32) (nw_ : Nat) (nr_ : Nat) (nq_ : Nat) (hangs_ : Value) (frees_ : Value) (c_ : Int32) (l_ : Int32) (rcolumns_ : rg (1) (6) columns_) (rlevels_ : rg (1) (9) levels_) (rthings_ : rg (0) (8) things_) (rwalkers_ : rg (0) (4) walkers_) : Ci l yX6_thingAt cX6_thingAt 4 (some .int) { frames := 0, cells := 0, slots := 0, locals := 0 } D cy [.ref no_, .int c_, .int l_] [(no_, .inr (6, [.ref nd_, .int hour_, .ref ns_, .ref nc_, .ref nl_, .ref nt_, .ref nh_, .int fallen_])), (ns_, .inl (cy 0, 8, .inl (fs_))), (nc_, .inl (cy 0, 8, .inl (fc_))), (nl_, .inl (cy 0, 8, .inl (fl_))), (nd_, .inr (0, [.int lines_, .int columns_, .int levels_, .int things_, .int walkers_, .ref nw_, .ref nr_, .ref nq_, hangs_, frees_]))] (fun r W1 => R_X6_thingAt_e things_ fs_ fc_ c_ fl_ l_ r ∧ W1 = [(no_, .inr (6, [.ref nd_, .int hour_, .ref ns_, .ref nc_, .ref nl_, .ref nt_, .ref nh_, .int fallen_])), (ns_, .inl (cy 0, 8, .inl (fs_))), (nc_, .inl (cy 0, 8, .inl (fc_))), (nl_, .inl (cy 0, 8, .inl (fl_))), (nd_, .inr (0, [.int lines_, .int columns_, .int levels_, .int things_, .int walkers_, .ref nw_, .ref nr_, .ref nq_, hangs_, frees_]))] ∧ rg (-1) (7) r) := by
  refine Ci.of (by decide) (Nat.le_of_ble_eq_true rfl) ?_
  intro p e s m below meth c A ls hX hE hP hD hl
  obtain ⟨hx, hb, hr, hml, hown, htA, hlk⟩ := id hX
  have hK := hE.1
  have hS : va_S A s.heap s.heap [] := va_S.rf
  have hl : lv_has ls 4 [(0, .ref no_), (1, .int c_), (2, .int l_)] := hl
  refine lv_iconst (v := 0) hx hb dX6_thingAt_0 (by decide) ?_
  refine lv_istore_n (lv' := [(3, .int 0), (0, .ref no_), (1, .int c_), (2, .int l_)]) hx hb dX6_thingAt_1 rfl hl (by decide) rfl (fun ls hl => ?_)
  refine loopT (τ := Int32) (WS := fun i => [(no_, .inr (6, [.ref nd_, .int hour_, .ref ns_, .ref nc_, .ref nl_, .ref nt_, .ref nh_, .int fallen_])), (ns_, .inl (cy 0, 8, .inl (fs_))), (nc_, .inl (cy 0, 8, .inl (fc_))), (nl_, .inl (cy 0, 8, .inl (fl_))), (nd_, .inr (0, [.int lines_, .int columns_, .int levels_, .int things_, .int walkers_, .ref nw_, .ref nr_, .ref nq_, hangs_, frees_]))]) (LV := fun i => [(3, .int i), (0, .ref no_), (1, .int c_), (2, .int l_)]) (fun i => (9 - i.toInt).toNat) (fun i => rg (0) (8) i ∧ Itr (R_X6_thingAt_b1 things_ fs_ fc_ c_ fl_ l_) 0 i) ?_ 0 ⟨(rg_w (rg_lit (by decide) : rg (0) (0) (0 : Int32)) (by decide) (by decide)), (Itr.rf _ _)⟩ hP hD hS (lv_sub hl [0, 1, 2, 3] rfl)
  intro v200200_ H locs ls hI ih2_ hP hD hS hl
  have hI : rg (0) (8) v200200_ ∧ Itr (R_X6_thingAt_b1 things_ fs_ fc_ c_ fl_ l_) 0 v200200_ := hI
  obtain ⟨rv200200_, hR1_⟩ := hI
  have hP : va_P D vwCl [(no_, .inr (6, [.ref nd_, .int hour_, .ref ns_, .ref nc_, .ref nl_, .ref nt_, .ref nh_, .int fallen_])), (ns_, .inl (cy 0, 8, .inl (fs_))), (nc_, .inl (cy 0, 8, .inl (fc_))), (nl_, .inl (cy 0, 8, .inl (fl_))), (nd_, .inr (0, [.int lines_, .int columns_, .int levels_, .int things_, .int walkers_, .ref nw_, .ref nr_, .ref nq_, hangs_, frees_]))] H := hP
  have hD := va_ca hP hD
  have hl : lv_has ls 4 [(3, .int v200200_), (0, .ref no_), (1, .int c_), (2, .int l_)] := hl
  refine lv_iload_n hx hb dX6_thingAt_2 rfl (lv_at hl 0 rfl) ?_
  refine lv_aload_n hx hb dX6_thingAt_3 rfl (lv_at hl 1 rfl) ?_
  refine va_get (ci := 6) (v := .ref nd_) (C := RX6) (T := TX6) (N := 8) hx hb htA in_X6 hown hK hP 0 rfl rfl 0 (by decide) (htA _ wd_166) (fun _ h => h) rfl dX6_thingAt_4 ?_
  refine va_get (ci := 0) (v := .int things_) (C := RX0) (T := TX0) (N := 10) hx hb htA in_X0 hown hK hP 4 rfl rfl 3 (by decide) (htA _ wd_86) (fun _ h => h) rfl dX6_thingAt_7 ?_
  refine lv_icmp_ge (tgt := 50) hx hb dX6_thingAt_10 (by decide) (fun c10_ => ?_) (fun c10_ => ?_)
  · refine lv_iconst (v := (-1)) hx hb dX6_thingAt_50 (by decide) ?_
    exact rI hX hE hP hD hS dX6_thingAt_51 (by decide) (by decide) ⟨(Or.inl ⟨v200200_, hR1_, c10_, rfl⟩), rfl, (rg_w (rg_lit (by decide) : rg (-1) (-1) ((-1) : Int32)) (by decide) (by decide))⟩
  · have g1_ : rg (0) (7) v200200_ := rg_lt1 (rg_nle c10_) rv200200_ rthings_ (by decide)
    have g2_ : rg (1) (8) things_ := rg_lt2 (rg_nle c10_) rv200200_ rthings_ (by decide)
    refine lv_aload_n hx hb dX6_thingAt_13 rfl (lv_at hl 1 rfl) ?_
    refine va_get (ci := 6) (v := .ref ns_) (C := RX6) (T := TX6) (N := 8) hx hb htA in_X6 hown hK hP 0 rfl rfl 2 (by decide) (htA _ wd_174) (fun _ h => h) rfl dX6_thingAt_14 ?_
    refine lv_iload_n hx hb dX6_thingAt_17 rfl (lv_at hl 0 rfl) ?_
    refine va_iald hx hb hK hP 1 0 rfl rfl (rg_in g1_ (by decide) (by decide)) dX6_thingAt_18 ?_
    refine lv_topi (fun v10180_ ev10180_ => ?_)
    refine joinT (D := D) (A := A) (pc := 44) (mL := 4) (τ := Unit) (WS := fun i => [(no_, .inr (6, [.ref nd_, .int hour_, .ref ns_, .ref nc_, .ref nl_, .ref nt_, .ref nh_, .int fallen_])), (ns_, .inl (cy 0, 8, .inl (fs_))), (nc_, .inl (cy 0, 8, .inl (fc_))), (nl_, .inl (cy 0, 8, .inl (fl_))), (nd_, .inr (0, [.int lines_, .int columns_, .int levels_, .int things_, .int walkers_, .ref nw_, .ref nr_, .ref nq_, hangs_, frees_]))]) (LV := fun i => [(3, .int v200200_), (0, .ref no_), (1, .int c_), (2, .int l_)]) (ST := fun i => []) (cells := 0) (slots := 0) (fun i => R_X6_thingAt_j3 v10180_ fc_ v200200_ c_ fl_ l_) (fun u0_ H locs ls hI hP hD hS hl => ?_) (fun j44_ => ?_)
    · have hI : R_X6_thingAt_j3 v10180_ fc_ v200200_ c_ fl_ l_ := hI
      have hR3_ := hI
      have hP : va_P D vwCl [(no_, .inr (6, [.ref nd_, .int hour_, .ref ns_, .ref nc_, .ref nl_, .ref nt_, .ref nh_, .int fallen_])), (ns_, .inl (cy 0, 8, .inl (fs_))), (nc_, .inl (cy 0, 8, .inl (fc_))), (nl_, .inl (cy 0, 8, .inl (fl_))), (nd_, .inr (0, [.int lines_, .int columns_, .int levels_, .int things_, .int walkers_, .ref nw_, .ref nr_, .ref nq_, hangs_, frees_]))] H := hP
      have hD := va_ca hP hD
      have hl : lv_has ls 4 [(3, .int v200200_), (0, .ref no_), (1, .int c_), (2, .int l_)] := hl
      refine lv_iinc (v := v200200_ + 1) (lv' := [(3, .int (v200200_ + 1)), (0, .ref no_), (1, .int c_), (2, .int l_)]) hx hb dX6_thingAt_44 hl (k := 0) rfl rfl (by decide) rfl (fun ls hl => ?_)
      have g3_ : rg (1) (8) (v200200_ + 1) := rg_add g1_ (rg_lit (by decide) : rg (1) (1) (1 : Int32)) (by decide) (by decide) (by decide) (by decide)
      refine lv_goto (tgt := 2) hx hb dX6_thingAt_47 (by decide) ?_
      exact ih2_ (v200200_ + 1) _ _ ls ⟨(rg_w g3_ (by decide) (by decide)), (Itr.st hR1_ (Or.inl ⟨v10180_, c10_, ev10180_, hR3_, rfl⟩))⟩ (show (9 - (v200200_ + 1).toInt).toNat < (9 - v200200_.toInt).toNat from by rw [show (v200200_ + 1).toInt = v200200_.toInt + 1 from inc32 v200200_ (by have hq := (rv200200_).2; omega)]; have hq := (g1_).1; have hq2 := (g1_).2; omega) hP hD hS (lv_sub hl [0, 1, 2, 3] rfl)
    refine lv_if_eq (tgt := 44) hx hb dX6_thingAt_19 (by decide) (fun c19_ => ?_) (fun c19_ => ?_)
    · have g4_ : rg (0) (0) v10180_ := rg_eq c19_ (rg_lit (by decide) : rg (0) (0) (0 : Int32))
      exact j44_ () _ _ ls (Or.inl c19_) hP hD hS (lv_sub hl [0, 1, 2, 3] rfl)
    · refine lv_aload_n hx hb dX6_thingAt_22 rfl (lv_at hl 1 rfl) ?_
      refine va_get (ci := 6) (v := .ref nc_) (C := RX6) (T := TX6) (N := 8) hx hb htA in_X6 hown hK hP 0 rfl rfl 3 (by decide) (htA _ wd_178) (fun _ h => h) rfl dX6_thingAt_23 ?_
      refine lv_iload_n hx hb dX6_thingAt_26 rfl (lv_at hl 0 rfl) ?_
      refine va_iald hx hb hK hP 2 0 rfl rfl (rg_in g1_ (by decide) (by decide)) dX6_thingAt_27 ?_
      refine lv_topi (fun v10270_ ev10270_ => ?_)
      refine lv_iload_n hx hb dX6_thingAt_28 rfl (lv_at hl 2 rfl) ?_
      refine lv_icmp_ne (tgt := 44) hx hb dX6_thingAt_29 (by decide) (fun c29_ => ?_) (fun c29_ => ?_)
      · exact j44_ () _ _ ls (Or.inr (Or.inl ⟨v10270_, c19_, ev10270_, c29_⟩)) hP hD hS (lv_sub hl [0, 1, 2, 3] rfl)
      · refine lv_aload_n hx hb dX6_thingAt_32 rfl (lv_at hl 1 rfl) ?_
        refine va_get (ci := 6) (v := .ref nl_) (C := RX6) (T := TX6) (N := 8) hx hb htA in_X6 hown hK hP 0 rfl rfl 4 (by decide) (htA _ wd_181) (fun _ h => h) rfl dX6_thingAt_33 ?_
        refine lv_iload_n hx hb dX6_thingAt_36 rfl (lv_at hl 0 rfl) ?_
        refine va_iald hx hb hK hP 3 0 rfl rfl (rg_in g1_ (by decide) (by decide)) dX6_thingAt_37 ?_
        refine lv_topi (fun v10370_ ev10370_ => ?_)
        refine lv_iload_n hx hb dX6_thingAt_38 rfl (lv_at hl 3 rfl) ?_
        refine lv_icmp_ne (tgt := 44) hx hb dX6_thingAt_39 (by decide) (fun c39_ => ?_) (fun c39_ => ?_)
        · exact j44_ () _ _ ls (Or.inr (Or.inr (Or.inl ⟨v10270_, v10370_, c19_, ev10270_, c29_, ev10370_, c39_⟩))) hP hD hS (lv_sub hl [0, 1, 2, 3] rfl)
        · refine lv_iload_n hx hb dX6_thingAt_42 rfl (lv_at hl 0 rfl) ?_
          exact rI hX hE hP hD hS dX6_thingAt_43 (by decide) (by decide) ⟨(Or.inr (Or.inl ⟨v200200_, v10180_, v10270_, v10370_, hR1_, c10_, ev10180_, c19_, ev10270_, c29_, ev10370_, c39_, rfl⟩)), rfl, (rg_w g1_ (by decide) (by decide))⟩
def R_X6_countOf_j3 (v10200_ : Int32) (c_ : Int32) (v200401_ : Int32) (v202800_ : Int32) : Prop := (¬ v10200_ = c_ ∧ v202800_ = v200401_) ∨ (v10200_ = c_ ∧ v202800_ = v200401_ + 1) ∨ False
def R_X6_countOf_b1 (things_ : Int32) (fs_ : Nat → Int32) (c_ : Int32) (uZ_ vZ_ : Int32 × Int32) : Prop := (∃ (v10200_ : Int32) (v202800_ : Int32), ¬ (things_ ≤ uZ_.1) ∧ v10200_ = fs_ uZ_.1.toNatClampNeg ∧ R_X6_countOf_j3 v10200_ c_ uZ_.2 v202800_ ∧ vZ_ = (uZ_.1 + 1, v202800_)) ∨ False
def R_X6_countOf_e (things_ : Int32) (fs_ : Nat → Int32) (c_ : Int32) (r : Int32) : Prop := (∃ (v200400_ : Int32) (v200401_ : Int32), Itr (R_X6_countOf_b1 things_ fs_ c_) (0, 0) (v200400_, v200401_) ∧ things_ ≤ v200400_ ∧ r = v200401_) ∨ False
set_option maxHeartbeats 4000000 in
set_option maxRecDepth 100000 in
theorem sf_X6_countOf (l : Launch) (D : va_G) (cy : Nat → ClassId) (no_ : Nat) (nd_ : Nat) (hour_ : Int32) (ns_ : Nat) (nc_ : Nat) (nl_ : Nat) (nt_ : Nat) (nh_ : Nat) (fallen_ : Int32) (fs_ : Nat → Int32) (lines_ : Int32) (columns_ : Int32) (levels_ : Int32) (things_ : Int32) (walkers_ : Int32) (nw_ : Nat) (nr_ : Nat) (nq_ : Nat) (hangs_ : Value) (frees_ : Value) (c_ : Int32) (rcolumns_ : rg (1) (6) columns_) (rlevels_ : rg (1) (9) levels_) (rthings_ : rg (0) (8) things_) (rwalkers_ : rg (0) (4) walkers_) : Ci l yX6_countOf cX6_countOf 4 (some .int) { frames := 0, cells := 0, slots := 0, locals := 0 } D cy [.ref no_, .int c_] [(no_, .inr (6, [.ref nd_, .int hour_, .ref ns_, .ref nc_, .ref nl_, .ref nt_, .ref nh_, .int fallen_])), (ns_, .inl (cy 0, 8, .inl (fs_))), (nd_, .inr (0, [.int lines_, .int columns_, .int levels_, .int things_, .int walkers_, .ref nw_, .ref nr_, .ref nq_, hangs_, frees_]))] (fun r W1 => R_X6_countOf_e things_ fs_ c_ r ∧ W1 = [(no_, .inr (6, [.ref nd_, .int hour_, .ref ns_, .ref nc_, .ref nl_, .ref nt_, .ref nh_, .int fallen_])), (ns_, .inl (cy 0, 8, .inl (fs_))), (nd_, .inr (0, [.int lines_, .int columns_, .int levels_, .int things_, .int walkers_, .ref nw_, .ref nr_, .ref nq_, hangs_, frees_]))]) := by
  refine Ci.of (by decide) (Nat.le_of_ble_eq_true rfl) ?_
  intro p e s m below meth c A ls hX hE hP hD hl
  obtain ⟨hx, hb, hr, hml, hown, htA, hlk⟩ := id hX
  have hK := hE.1
  have hS : va_S A s.heap s.heap [] := va_S.rf
  have hl : lv_has ls 4 [(0, .ref no_), (1, .int c_)] := hl
  refine lv_iconst (v := 0) hx hb dX6_countOf_0 (by decide) ?_
  refine lv_istore_n (lv' := [(2, .int 0), (0, .ref no_), (1, .int c_)]) hx hb dX6_countOf_1 rfl hl (by decide) rfl (fun ls hl => ?_)
  refine lv_iconst (v := 0) hx hb dX6_countOf_2 (by decide) ?_
  refine lv_istore_n (lv' := [(3, .int 0), (2, .int 0), (0, .ref no_), (1, .int c_)]) hx hb dX6_countOf_3 rfl hl (by decide) rfl (fun ls hl => ?_)
  refine loopT (τ := Int32 × Int32) (WS := fun i => [(no_, .inr (6, [.ref nd_, .int hour_, .ref ns_, .ref nc_, .ref nl_, .ref nt_, .ref nh_, .int fallen_])), (ns_, .inl (cy 0, 8, .inl (fs_))), (nd_, .inr (0, [.int lines_, .int columns_, .int levels_, .int things_, .int walkers_, .ref nw_, .ref nr_, .ref nq_, hangs_, frees_]))]) (LV := fun i => [(3, .int i.1), (2, .int i.2), (0, .ref no_), (1, .int c_)]) (fun i => (9 - i.1.toInt).toNat) (fun i => rg (0) (8) i.1 ∧ Itr (R_X6_countOf_b1 things_ fs_ c_) (0, 0) (i.1, i.2)) ?_ (0, 0) ⟨(rg_w (rg_lit (by decide) : rg (0) (0) (0 : Int32)) (by decide) (by decide)), (Itr.rf _ _)⟩ hP hD hS (lv_sub hl [0, 1, 2, 3] rfl)
  intro i_ H locs ls hI ih4_ hP hD hS hl
  obtain ⟨v200400_, v200401_⟩ := i_
  have hI : rg (0) (8) v200400_ ∧ Itr (R_X6_countOf_b1 things_ fs_ c_) (0, 0) (v200400_, v200401_) := hI
  obtain ⟨rv200400_, hR1_⟩ := hI
  have hP : va_P D vwCl [(no_, .inr (6, [.ref nd_, .int hour_, .ref ns_, .ref nc_, .ref nl_, .ref nt_, .ref nh_, .int fallen_])), (ns_, .inl (cy 0, 8, .inl (fs_))), (nd_, .inr (0, [.int lines_, .int columns_, .int levels_, .int things_, .int walkers_, .ref nw_, .ref nr_, .ref nq_, hangs_, frees_]))] H := hP
  have hD := va_ca hP hD
  have hl : lv_has ls 4 [(3, .int v200400_), (2, .int v200401_), (0, .ref no_), (1, .int c_)] := hl
  refine lv_iload_n hx hb dX6_countOf_4 rfl (lv_at hl 0 rfl) ?_
  refine lv_aload_n hx hb dX6_countOf_5 rfl (lv_at hl 2 rfl) ?_
  refine va_get (ci := 6) (v := .ref nd_) (C := RX6) (T := TX6) (N := 8) hx hb htA in_X6 hown hK hP 0 rfl rfl 0 (by decide) (htA _ wd_166) (fun _ h => h) rfl dX6_countOf_6 ?_
  refine va_get (ci := 0) (v := .int things_) (C := RX0) (T := TX0) (N := 10) hx hb htA in_X0 hown hK hP 2 rfl rfl 3 (by decide) (htA _ wd_86) (fun _ h => h) rfl dX6_countOf_9 ?_
  refine lv_icmp_ge (tgt := 34) hx hb dX6_countOf_12 (by decide) (fun c12_ => ?_) (fun c12_ => ?_)
  · refine lv_iload_n hx hb dX6_countOf_34 rfl (lv_at hl 1 rfl) ?_
    exact rI hX hE hP hD hS dX6_countOf_35 (by decide) (by decide) ⟨(Or.inl ⟨v200400_, v200401_, hR1_, c12_, rfl⟩), rfl⟩
  · have g1_ : rg (0) (7) v200400_ := rg_lt1 (rg_nle c12_) rv200400_ rthings_ (by decide)
    have g2_ : rg (1) (8) things_ := rg_lt2 (rg_nle c12_) rv200400_ rthings_ (by decide)
    refine lv_aload_n hx hb dX6_countOf_15 rfl (lv_at hl 2 rfl) ?_
    refine va_get (ci := 6) (v := .ref ns_) (C := RX6) (T := TX6) (N := 8) hx hb htA in_X6 hown hK hP 0 rfl rfl 2 (by decide) (htA _ wd_174) (fun _ h => h) rfl dX6_countOf_16 ?_
    refine lv_iload_n hx hb dX6_countOf_19 rfl (lv_at hl 0 rfl) ?_
    refine va_iald hx hb hK hP 1 0 rfl rfl (rg_in g1_ (by decide) (by decide)) dX6_countOf_20 ?_
    refine lv_topi (fun v10200_ ev10200_ => ?_)
    refine lv_iload_n hx hb dX6_countOf_21 rfl (lv_at hl 3 rfl) ?_
    refine joinT (D := D) (A := A) (pc := 28) (mL := 4) (τ := Int32) (WS := fun i => [(no_, .inr (6, [.ref nd_, .int hour_, .ref ns_, .ref nc_, .ref nl_, .ref nt_, .ref nh_, .int fallen_])), (ns_, .inl (cy 0, 8, .inl (fs_))), (nd_, .inr (0, [.int lines_, .int columns_, .int levels_, .int things_, .int walkers_, .ref nw_, .ref nr_, .ref nq_, hangs_, frees_]))]) (LV := fun i => [(3, .int v200400_), (2, .int i), (0, .ref no_), (1, .int c_)]) (ST := fun i => []) (cells := 0) (slots := 0) (fun i => R_X6_countOf_j3 v10200_ c_ v200401_ i) (fun v202800_ H locs ls hI hP hD hS hl => ?_) (fun j28_ => ?_)
    · have hI : R_X6_countOf_j3 v10200_ c_ v200401_ v202800_ := hI
      have hR3_ := hI
      have hP : va_P D vwCl [(no_, .inr (6, [.ref nd_, .int hour_, .ref ns_, .ref nc_, .ref nl_, .ref nt_, .ref nh_, .int fallen_])), (ns_, .inl (cy 0, 8, .inl (fs_))), (nd_, .inr (0, [.int lines_, .int columns_, .int levels_, .int things_, .int walkers_, .ref nw_, .ref nr_, .ref nq_, hangs_, frees_]))] H := hP
      have hD := va_ca hP hD
      have hl : lv_has ls 4 [(3, .int v200400_), (2, .int v202800_), (0, .ref no_), (1, .int c_)] := hl
      refine lv_iinc (v := v200400_ + 1) (lv' := [(3, .int (v200400_ + 1)), (2, .int v202800_), (0, .ref no_), (1, .int c_)]) hx hb dX6_countOf_28 hl (k := 0) rfl rfl (by decide) rfl (fun ls hl => ?_)
      have g3_ : rg (1) (8) (v200400_ + 1) := rg_add g1_ (rg_lit (by decide) : rg (1) (1) (1 : Int32)) (by decide) (by decide) (by decide) (by decide)
      refine lv_goto (tgt := 4) hx hb dX6_countOf_31 (by decide) ?_
      exact ih4_ (v200400_ + 1, v202800_) _ _ ls ⟨(rg_w g3_ (by decide) (by decide)), (Itr.st hR1_ (Or.inl ⟨v10200_, v202800_, c12_, ev10200_, hR3_, rfl⟩))⟩ (show (9 - (v200400_ + 1).toInt).toNat < (9 - v200400_.toInt).toNat from by rw [show (v200400_ + 1).toInt = v200400_.toInt + 1 from inc32 v200400_ (by have hq := (rv200400_).2; omega)]; have hq := (g1_).1; have hq2 := (g1_).2; omega) hP hD hS (lv_sub hl [0, 1, 2, 3] rfl)
    refine lv_icmp_ne (tgt := 28) hx hb dX6_countOf_22 (by decide) (fun c22_ => ?_) (fun c22_ => ?_)
    · exact j28_ v200401_ _ _ ls (Or.inl ⟨c22_, rfl⟩) hP hD hS (lv_sub hl [0, 1, 2, 3] rfl)
    · refine lv_iinc (v := v200401_ + 1) (lv' := [(2, .int (v200401_ + 1)), (3, .int v200400_), (0, .ref no_), (1, .int c_)]) hx hb dX6_countOf_25 hl (k := 1) rfl rfl (by decide) rfl (fun ls hl => ?_)
      exact j28_ (v200401_ + 1) _ _ ls (Or.inr (Or.inl ⟨c22_, rfl⟩)) hP hD hS (lv_sub hl [1, 0, 2, 3] rfl)
def R_X6_totalHurt_b1 (walkers_ : Int32) (fh_ : Nat → Int32) (uZ_ vZ_ : Int32 × Int32) : Prop := (∃ (v10210_ : Int32), ¬ (walkers_ ≤ uZ_.1) ∧ v10210_ = fh_ uZ_.1.toNatClampNeg ∧ vZ_ = (uZ_.1 + 1, uZ_.2 + v10210_)) ∨ False
def R_X6_totalHurt_e (walkers_ : Int32) (fh_ : Nat → Int32) (r : Int32) : Prop := (∃ (v200400_ : Int32) (v200401_ : Int32), Itr (R_X6_totalHurt_b1 walkers_ fh_) (0, 0) (v200400_, v200401_) ∧ walkers_ ≤ v200400_ ∧ r = v200401_) ∨ False
set_option maxHeartbeats 4000000 in
set_option maxRecDepth 100000 in
theorem sf_X6_totalHurt (l : Launch) (D : va_G) (cy : Nat → ClassId) (no_ : Nat) (nd_ : Nat) (hour_ : Int32) (ns_ : Nat) (nc_ : Nat) (nl_ : Nat) (nt_ : Nat) (nh_ : Nat) (fallen_ : Int32) (fh_ : Nat → Int32) (lines_ : Int32) (columns_ : Int32) (levels_ : Int32) (things_ : Int32) (walkers_ : Int32) (nw_ : Nat) (nr_ : Nat) (nq_ : Nat) (hangs_ : Value) (frees_ : Value) (rcolumns_ : rg (1) (6) columns_) (rlevels_ : rg (1) (9) levels_) (rthings_ : rg (0) (8) things_) (rwalkers_ : rg (0) (4) walkers_) : Ci l yX6_totalHurt cX6_totalHurt 3 (some .int) { frames := 0, cells := 0, slots := 0, locals := 0 } D cy [.ref no_] [(no_, .inr (6, [.ref nd_, .int hour_, .ref ns_, .ref nc_, .ref nl_, .ref nt_, .ref nh_, .int fallen_])), (nh_, .inl (cy 0, 4, .inl (fh_))), (nd_, .inr (0, [.int lines_, .int columns_, .int levels_, .int things_, .int walkers_, .ref nw_, .ref nr_, .ref nq_, hangs_, frees_]))] (fun r W1 => R_X6_totalHurt_e walkers_ fh_ r ∧ W1 = [(no_, .inr (6, [.ref nd_, .int hour_, .ref ns_, .ref nc_, .ref nl_, .ref nt_, .ref nh_, .int fallen_])), (nh_, .inl (cy 0, 4, .inl (fh_))), (nd_, .inr (0, [.int lines_, .int columns_, .int levels_, .int things_, .int walkers_, .ref nw_, .ref nr_, .ref nq_, hangs_, frees_]))]) := by
  refine Ci.of (by decide) (Nat.le_of_ble_eq_true rfl) ?_
  intro p e s m below meth c A ls hX hE hP hD hl
  obtain ⟨hx, hb, hr, hml, hown, htA, hlk⟩ := id hX
  have hK := hE.1
  have hS : va_S A s.heap s.heap [] := va_S.rf
  have hl : lv_has ls 3 [(0, .ref no_)] := hl
  refine lv_iconst (v := 0) hx hb dX6_totalHurt_0 (by decide) ?_
  refine lv_istore_n (lv' := [(1, .int 0), (0, .ref no_)]) hx hb dX6_totalHurt_1 rfl hl (by decide) rfl (fun ls hl => ?_)
  refine lv_iconst (v := 0) hx hb dX6_totalHurt_2 (by decide) ?_
  refine lv_istore_n (lv' := [(2, .int 0), (1, .int 0), (0, .ref no_)]) hx hb dX6_totalHurt_3 rfl hl (by decide) rfl (fun ls hl => ?_)
  refine loopT (τ := Int32 × Int32) (WS := fun i => [(no_, .inr (6, [.ref nd_, .int hour_, .ref ns_, .ref nc_, .ref nl_, .ref nt_, .ref nh_, .int fallen_])), (nh_, .inl (cy 0, 4, .inl (fh_))), (nd_, .inr (0, [.int lines_, .int columns_, .int levels_, .int things_, .int walkers_, .ref nw_, .ref nr_, .ref nq_, hangs_, frees_]))]) (LV := fun i => [(2, .int i.1), (1, .int i.2), (0, .ref no_)]) (fun i => (5 - i.1.toInt).toNat) (fun i => rg (0) (4) i.1 ∧ Itr (R_X6_totalHurt_b1 walkers_ fh_) (0, 0) (i.1, i.2)) ?_ (0, 0) ⟨(rg_w (rg_lit (by decide) : rg (0) (0) (0 : Int32)) (by decide) (by decide)), (Itr.rf _ _)⟩ hP hD hS (lv_sub hl [0, 1, 2] rfl)
  intro i_ H locs ls hI ih4_ hP hD hS hl
  obtain ⟨v200400_, v200401_⟩ := i_
  have hI : rg (0) (4) v200400_ ∧ Itr (R_X6_totalHurt_b1 walkers_ fh_) (0, 0) (v200400_, v200401_) := hI
  obtain ⟨rv200400_, hR1_⟩ := hI
  have hP : va_P D vwCl [(no_, .inr (6, [.ref nd_, .int hour_, .ref ns_, .ref nc_, .ref nl_, .ref nt_, .ref nh_, .int fallen_])), (nh_, .inl (cy 0, 4, .inl (fh_))), (nd_, .inr (0, [.int lines_, .int columns_, .int levels_, .int things_, .int walkers_, .ref nw_, .ref nr_, .ref nq_, hangs_, frees_]))] H := hP
  have hD := va_ca hP hD
  have hl : lv_has ls 3 [(2, .int v200400_), (1, .int v200401_), (0, .ref no_)] := hl
  refine lv_iload_n hx hb dX6_totalHurt_4 rfl (lv_at hl 0 rfl) ?_
  refine lv_aload_n hx hb dX6_totalHurt_5 rfl (lv_at hl 2 rfl) ?_
  refine va_get (ci := 6) (v := .ref nd_) (C := RX6) (T := TX6) (N := 8) hx hb htA in_X6 hown hK hP 0 rfl rfl 0 (by decide) (htA _ wd_166) (fun _ h => h) rfl dX6_totalHurt_6 ?_
  refine va_get (ci := 0) (v := .int walkers_) (C := RX0) (T := TX0) (N := 10) hx hb htA in_X0 hown hK hP 2 rfl rfl 4 (by decide) (htA _ wd_90) (fun _ h => h) rfl dX6_totalHurt_9 ?_
  refine lv_icmp_ge (tgt := 30) hx hb dX6_totalHurt_12 (by decide) (fun c12_ => ?_) (fun c12_ => ?_)
  · refine lv_iload_n hx hb dX6_totalHurt_30 rfl (lv_at hl 1 rfl) ?_
    exact rI hX hE hP hD hS dX6_totalHurt_31 (by decide) (by decide) ⟨(Or.inl ⟨v200400_, v200401_, hR1_, c12_, rfl⟩), rfl⟩
  · have g1_ : rg (0) (3) v200400_ := rg_lt1 (rg_nle c12_) rv200400_ rwalkers_ (by decide)
    have g2_ : rg (1) (4) walkers_ := rg_lt2 (rg_nle c12_) rv200400_ rwalkers_ (by decide)
    refine lv_iload_n hx hb dX6_totalHurt_15 rfl (lv_at hl 1 rfl) ?_
    refine lv_aload_n hx hb dX6_totalHurt_16 rfl (lv_at hl 2 rfl) ?_
    refine va_get (ci := 6) (v := .ref nh_) (C := RX6) (T := TX6) (N := 8) hx hb htA in_X6 hown hK hP 0 rfl rfl 6 (by decide) (htA _ wd_187) (fun _ h => h) rfl dX6_totalHurt_17 ?_
    refine lv_iload_n hx hb dX6_totalHurt_20 rfl (lv_at hl 0 rfl) ?_
    refine va_iald hx hb hK hP 1 0 rfl rfl (rg_in g1_ (by decide) (by decide)) dX6_totalHurt_21 ?_
    refine lv_topi (fun v10210_ ev10210_ => ?_)
    refine lv_iadd hx hb dX6_totalHurt_22 ?_
    refine lv_istore_n (lv' := [(1, .int (v200401_ + v10210_)), (2, .int v200400_), (0, .ref no_)]) hx hb dX6_totalHurt_23 rfl hl (by decide) rfl (fun ls hl => ?_)
    refine lv_iinc (v := v200400_ + 1) (lv' := [(2, .int (v200400_ + 1)), (1, .int (v200401_ + v10210_)), (0, .ref no_)]) hx hb dX6_totalHurt_24 hl (k := 1) rfl rfl (by decide) rfl (fun ls hl => ?_)
    have g3_ : rg (1) (4) (v200400_ + 1) := rg_add g1_ (rg_lit (by decide) : rg (1) (1) (1 : Int32)) (by decide) (by decide) (by decide) (by decide)
    refine lv_goto (tgt := 4) hx hb dX6_totalHurt_27 (by decide) ?_
    exact ih4_ (v200400_ + 1, v200401_ + v10210_) _ _ ls ⟨(rg_w g3_ (by decide) (by decide)), (Itr.st hR1_ (Or.inl ⟨v10210_, c12_, ev10210_, rfl⟩))⟩ (show (5 - (v200400_ + 1).toInt).toNat < (5 - v200400_.toInt).toNat from by rw [show (v200400_ + 1).toInt = v200400_.toInt + 1 from inc32 v200400_ (by have hq := (rv200400_).2; omega)]; have hq := (g1_).1; have hq2 := (g1_).2; omega) hP hD hS (lv_sub hl [0, 1, 2] rfl)
def R_X6_weightOf_j3 (b_ : Int32) (v200500_ : Int32) (v200501_ : Int32) (fc_ : Nat → Int32) (c_ : Int32) (fw_ : Nat → Int32) (v205000_ : Int32) : Prop := (((b_ >>> (v200500_ &&& 31)) &&& 1) = (0 : Int32) ∧ v205000_ = v200501_) ∨ (∃ (v10320_ : Int32), ¬ (((b_ >>> (v200500_ &&& 31)) &&& 1) = (0 : Int32)) ∧ v10320_ = fc_ v200500_.toNatClampNeg ∧ ¬ v10320_ = c_ ∧ v205000_ = v200501_) ∨ (∃ (v10320_ : Int32) (v10470_ : Int32), ¬ (((b_ >>> (v200500_ &&& 31)) &&& 1) = (0 : Int32)) ∧ v10320_ = fc_ v200500_.toNatClampNeg ∧ v10320_ = c_ ∧ v10470_ = fw_ v200500_.toNatClampNeg ∧ v205000_ = v200501_ + v10470_) ∨ False
def R_X6_weightOf_b1 (things_ : Int32) (b_ : Int32) (fc_ : Nat → Int32) (c_ : Int32) (fw_ : Nat → Int32) (uZ_ vZ_ : Int32 × Int32) : Prop := (∃ (v205000_ : Int32), ¬ (things_ ≤ uZ_.1) ∧ R_X6_weightOf_j3 b_ uZ_.1 uZ_.2 fc_ c_ fw_ v205000_ ∧ vZ_ = (uZ_.1 + 1, v205000_)) ∨ False
def R_X6_weightOf_e (things_ : Int32) (b_ : Int32) (fc_ : Nat → Int32) (c_ : Int32) (fw_ : Nat → Int32) (r : Int32) : Prop := (∃ (v200500_ : Int32) (v200501_ : Int32), Itr (R_X6_weightOf_b1 things_ b_ fc_ c_ fw_) (0, 0) (v200500_, v200501_) ∧ things_ ≤ v200500_ ∧ r = v200501_) ∨ False
set_option maxHeartbeats 4000000 in
set_option maxRecDepth 100000 in
theorem sf_X6_weightOf (l : Launch) (D : va_G) (cy : Nat → ClassId) (no_ : Nat) (nd_ : Nat) (hour_ : Int32) (ns_ : Nat) (nc_ : Nat) (nl_ : Nat) (nt_ : Nat) (nh_ : Nat) (fallen_ : Int32) (fc_ : Nat → Int32) (lines_ : Int32) (columns_ : Int32) (levels_ : Int32) (things_ : Int32) (walkers_ : Int32) (nw_ : Nat) (nr_ : Nat) (nq_ : Nat) (hangs_ : Value) (frees_ : Value) (fw_ : Nat → Int32) (b_ : Int32) (c_ : Int32) (rcolumns_ : rg (1) (6) columns_) (rlevels_ : rg (1) (9) levels_) (rthings_ : rg (0) (8) things_) (rwalkers_ : rg (0) (4) walkers_) : Ci l yX6_weightOf cX6_weightOf 5 (some .int) { frames := 0, cells := 0, slots := 0, locals := 0 } D cy [.ref no_, .int b_, .int c_] [(no_, .inr (6, [.ref nd_, .int hour_, .ref ns_, .ref nc_, .ref nl_, .ref nt_, .ref nh_, .int fallen_])), (nc_, .inl (cy 0, 8, .inl (fc_))), (nd_, .inr (0, [.int lines_, .int columns_, .int levels_, .int things_, .int walkers_, .ref nw_, .ref nr_, .ref nq_, hangs_, frees_])), (nw_, .inl (cy 0, 8, .inl (fw_)))] (fun r W1 => R_X6_weightOf_e things_ b_ fc_ c_ fw_ r ∧ W1 = [(no_, .inr (6, [.ref nd_, .int hour_, .ref ns_, .ref nc_, .ref nl_, .ref nt_, .ref nh_, .int fallen_])), (nc_, .inl (cy 0, 8, .inl (fc_))), (nd_, .inr (0, [.int lines_, .int columns_, .int levels_, .int things_, .int walkers_, .ref nw_, .ref nr_, .ref nq_, hangs_, frees_])), (nw_, .inl (cy 0, 8, .inl (fw_)))]) := by
  refine Ci.of (by decide) (Nat.le_of_ble_eq_true rfl) ?_
  intro p e s m below meth c A ls hX hE hP hD hl
  obtain ⟨hx, hb, hr, hml, hown, htA, hlk⟩ := id hX
  have hK := hE.1
  have hS : va_S A s.heap s.heap [] := va_S.rf
  have hl : lv_has ls 5 [(0, .ref no_), (1, .int b_), (2, .int c_)] := hl
  refine lv_iconst (v := 0) hx hb dX6_weightOf_0 (by decide) ?_
  refine lv_istore_n (lv' := [(3, .int 0), (0, .ref no_), (1, .int b_), (2, .int c_)]) hx hb dX6_weightOf_1 rfl hl (by decide) rfl (fun ls hl => ?_)
  refine lv_iconst (v := 0) hx hb dX6_weightOf_2 (by decide) ?_
  refine lv_istore (lv' := [(4, .int 0), (3, .int 0), (0, .ref no_), (1, .int b_), (2, .int c_)]) hx hb dX6_weightOf_3 hl (by decide) rfl (fun ls hl => ?_)
  refine loopT (τ := Int32 × Int32) (WS := fun i => [(no_, .inr (6, [.ref nd_, .int hour_, .ref ns_, .ref nc_, .ref nl_, .ref nt_, .ref nh_, .int fallen_])), (nc_, .inl (cy 0, 8, .inl (fc_))), (nd_, .inr (0, [.int lines_, .int columns_, .int levels_, .int things_, .int walkers_, .ref nw_, .ref nr_, .ref nq_, hangs_, frees_])), (nw_, .inl (cy 0, 8, .inl (fw_)))]) (LV := fun i => [(4, .int i.1), (3, .int i.2), (0, .ref no_), (1, .int b_), (2, .int c_)]) (fun i => (9 - i.1.toInt).toNat) (fun i => rg (0) (8) i.1 ∧ Itr (R_X6_weightOf_b1 things_ b_ fc_ c_ fw_) (0, 0) (i.1, i.2)) ?_ (0, 0) ⟨(rg_w (rg_lit (by decide) : rg (0) (0) (0 : Int32)) (by decide) (by decide)), (Itr.rf _ _)⟩ hP hD hS (lv_sub hl [0, 1, 2, 3, 4] rfl)
  intro i_ H locs ls hI ih5_ hP hD hS hl
  obtain ⟨v200500_, v200501_⟩ := i_
  have hI : rg (0) (8) v200500_ ∧ Itr (R_X6_weightOf_b1 things_ b_ fc_ c_ fw_) (0, 0) (v200500_, v200501_) := hI
  obtain ⟨rv200500_, hR1_⟩ := hI
  have hP : va_P D vwCl [(no_, .inr (6, [.ref nd_, .int hour_, .ref ns_, .ref nc_, .ref nl_, .ref nt_, .ref nh_, .int fallen_])), (nc_, .inl (cy 0, 8, .inl (fc_))), (nd_, .inr (0, [.int lines_, .int columns_, .int levels_, .int things_, .int walkers_, .ref nw_, .ref nr_, .ref nq_, hangs_, frees_])), (nw_, .inl (cy 0, 8, .inl (fw_)))] H := hP
  have hD := va_ca hP hD
  have hl : lv_has ls 5 [(4, .int v200500_), (3, .int v200501_), (0, .ref no_), (1, .int b_), (2, .int c_)] := hl
  refine lv_iload hx hb dX6_weightOf_5 (lv_at hl 0 rfl) ?_
  refine lv_aload_n hx hb dX6_weightOf_7 rfl (lv_at hl 2 rfl) ?_
  refine va_get (ci := 6) (v := .ref nd_) (C := RX6) (T := TX6) (N := 8) hx hb htA in_X6 hown hK hP 0 rfl rfl 0 (by decide) (htA _ wd_166) (fun _ h => h) rfl dX6_weightOf_8 ?_
  refine va_get (ci := 0) (v := .int things_) (C := RX0) (T := TX0) (N := 10) hx hb htA in_X0 hown hK hP 2 rfl rfl 3 (by decide) (htA _ wd_86) (fun _ h => h) rfl dX6_weightOf_11 ?_
  refine lv_icmp_ge (tgt := 56) hx hb dX6_weightOf_14 (by decide) (fun c14_ => ?_) (fun c14_ => ?_)
  · refine lv_iload_n hx hb dX6_weightOf_56 rfl (lv_at hl 1 rfl) ?_
    exact rI hX hE hP hD hS dX6_weightOf_57 (by decide) (by decide) ⟨(Or.inl ⟨v200500_, v200501_, hR1_, c14_, rfl⟩), rfl⟩
  · have g1_ : rg (0) (7) v200500_ := rg_lt1 (rg_nle c14_) rv200500_ rthings_ (by decide)
    have g2_ : rg (1) (8) things_ := rg_lt2 (rg_nle c14_) rv200500_ rthings_ (by decide)
    refine lv_iload_n hx hb dX6_weightOf_17 rfl (lv_at hl 3 rfl) ?_
    refine lv_iload hx hb dX6_weightOf_18 (lv_at hl 0 rfl) ?_
    refine lv_ishr hx hb dX6_weightOf_20 ?_
    refine lv_iconst (v := 1) hx hb dX6_weightOf_21 (by decide) ?_
    refine lv_iand hx hb dX6_weightOf_22 ?_
    have g3_ : rg (0) (1) ((b_ >>> (v200500_ &&& 31)) &&& 1) := rg_and (by decide) (by decide)
    refine joinT (D := D) (A := A) (pc := 50) (mL := 5) (τ := Int32) (WS := fun i => [(no_, .inr (6, [.ref nd_, .int hour_, .ref ns_, .ref nc_, .ref nl_, .ref nt_, .ref nh_, .int fallen_])), (nc_, .inl (cy 0, 8, .inl (fc_))), (nd_, .inr (0, [.int lines_, .int columns_, .int levels_, .int things_, .int walkers_, .ref nw_, .ref nr_, .ref nq_, hangs_, frees_])), (nw_, .inl (cy 0, 8, .inl (fw_)))]) (LV := fun i => [(4, .int v200500_), (3, .int i), (0, .ref no_), (1, .int b_), (2, .int c_)]) (ST := fun i => []) (cells := 0) (slots := 0) (fun i => R_X6_weightOf_j3 b_ v200500_ v200501_ fc_ c_ fw_ i) (fun v205000_ H locs ls hI hP hD hS hl => ?_) (fun j50_ => ?_)
    · have hI : R_X6_weightOf_j3 b_ v200500_ v200501_ fc_ c_ fw_ v205000_ := hI
      have hR3_ := hI
      have hP : va_P D vwCl [(no_, .inr (6, [.ref nd_, .int hour_, .ref ns_, .ref nc_, .ref nl_, .ref nt_, .ref nh_, .int fallen_])), (nc_, .inl (cy 0, 8, .inl (fc_))), (nd_, .inr (0, [.int lines_, .int columns_, .int levels_, .int things_, .int walkers_, .ref nw_, .ref nr_, .ref nq_, hangs_, frees_])), (nw_, .inl (cy 0, 8, .inl (fw_)))] H := hP
      have hD := va_ca hP hD
      have hl : lv_has ls 5 [(4, .int v200500_), (3, .int v205000_), (0, .ref no_), (1, .int b_), (2, .int c_)] := hl
      refine lv_iinc (v := v200500_ + 1) (lv' := [(4, .int (v200500_ + 1)), (3, .int v205000_), (0, .ref no_), (1, .int b_), (2, .int c_)]) hx hb dX6_weightOf_50 hl (k := 0) rfl rfl (by decide) rfl (fun ls hl => ?_)
      have g4_ : rg (1) (8) (v200500_ + 1) := rg_add g1_ (rg_lit (by decide) : rg (1) (1) (1 : Int32)) (by decide) (by decide) (by decide) (by decide)
      refine lv_goto (tgt := 5) hx hb dX6_weightOf_53 (by decide) ?_
      exact ih5_ (v200500_ + 1, v205000_) _ _ ls ⟨(rg_w g4_ (by decide) (by decide)), (Itr.st hR1_ (Or.inl ⟨v205000_, c14_, hR3_, rfl⟩))⟩ (show (9 - (v200500_ + 1).toInt).toNat < (9 - v200500_.toInt).toNat from by rw [show (v200500_ + 1).toInt = v200500_.toInt + 1 from inc32 v200500_ (by have hq := (rv200500_).2; omega)]; have hq := (g1_).1; have hq2 := (g1_).2; omega) hP hD hS (lv_sub hl [0, 1, 2, 3, 4] rfl)
    refine lv_if_eq (tgt := 50) hx hb dX6_weightOf_23 (by decide) (fun c23_ => ?_) (fun c23_ => ?_)
    · have g5_ : rg (0) (0) ((b_ >>> (v200500_ &&& 31)) &&& 1) := rg_eq c23_ (rg_lit (by decide) : rg (0) (0) (0 : Int32))
      exact j50_ v200501_ _ _ ls (Or.inl ⟨c23_, rfl⟩) hP hD hS (lv_sub hl [0, 1, 2, 3, 4] rfl)
    · have g6_ : rg (1) (1) ((b_ >>> (v200500_ &&& 31)) &&& 1) := rg_ne1 c23_ g3_ (by decide) (by decide)
      refine lv_aload_n hx hb dX6_weightOf_26 rfl (lv_at hl 2 rfl) ?_
      refine va_get (ci := 6) (v := .ref nc_) (C := RX6) (T := TX6) (N := 8) hx hb htA in_X6 hown hK hP 0 rfl rfl 3 (by decide) (htA _ wd_178) (fun _ h => h) rfl dX6_weightOf_27 ?_
      refine lv_iload hx hb dX6_weightOf_30 (lv_at hl 0 rfl) ?_
      refine va_iald hx hb hK hP 1 0 rfl rfl (rg_in g1_ (by decide) (by decide)) dX6_weightOf_32 ?_
      refine lv_topi (fun v10320_ ev10320_ => ?_)
      refine lv_iload_n hx hb dX6_weightOf_33 rfl (lv_at hl 4 rfl) ?_
      refine lv_icmp_ne (tgt := 50) hx hb dX6_weightOf_34 (by decide) (fun c34_ => ?_) (fun c34_ => ?_)
      · exact j50_ v200501_ _ _ ls (Or.inr (Or.inl ⟨v10320_, c23_, ev10320_, c34_, rfl⟩)) hP hD hS (lv_sub hl [0, 1, 2, 3, 4] rfl)
      · refine lv_iload_n hx hb dX6_weightOf_37 rfl (lv_at hl 1 rfl) ?_
        refine lv_aload_n hx hb dX6_weightOf_38 rfl (lv_at hl 2 rfl) ?_
        refine va_get (ci := 6) (v := .ref nd_) (C := RX6) (T := TX6) (N := 8) hx hb htA in_X6 hown hK hP 0 rfl rfl 0 (by decide) (htA _ wd_166) (fun _ h => h) rfl dX6_weightOf_39 ?_
        refine va_get (ci := 0) (v := .ref nw_) (C := RX0) (T := TX0) (N := 10) hx hb htA in_X0 hown hK hP 2 rfl rfl 5 (by decide) (htA _ wd_96) (fun _ h => h) rfl dX6_weightOf_42 ?_
        refine lv_iload hx hb dX6_weightOf_45 (lv_at hl 0 rfl) ?_
        refine va_iald hx hb hK hP 3 0 rfl rfl (rg_in g1_ (by decide) (by decide)) dX6_weightOf_47 ?_
        refine lv_topi (fun v10470_ ev10470_ => ?_)
        refine lv_iadd hx hb dX6_weightOf_48 ?_
        refine lv_istore_n (lv' := [(3, .int (v200501_ + v10470_)), (4, .int v200500_), (0, .ref no_), (1, .int b_), (2, .int c_)]) hx hb dX6_weightOf_49 rfl hl (by decide) rfl (fun ls hl => ?_)
        exact j50_ (v200501_ + v10470_) _ _ ls (Or.inr (Or.inr (Or.inl ⟨v10320_, v10470_, c23_, ev10320_, c34_, ev10470_, rfl⟩))) hP hD hS (lv_sub hl [1, 0, 2, 3, 4] rfl)
def R_X6_isFree_j3 (l_ : Int32) (v10030_ : Int32) (things_ : Int32) (fs_ : Nat → Int32) (fc_ : Nat → Int32) (c_ : Int32) (fl_ : Nat → Int32) : Prop := (l_ < v10030_) ∨ (∃ (v10120_ : Int32), ¬ (l_ < v10030_) ∧ R_X6_thingAt_e things_ fs_ fc_ c_ fl_ l_ v10120_ ∧ ¬ v10120_ = ((-1) : Int32)) ∨ False
def R_X6_isFree_j1 (l_ : Int32) (v10030_ : Int32) (things_ : Int32) (fs_ : Nat → Int32) (fc_ : Nat → Int32) (c_ : Int32) (fl_ : Nat → Int32) (v202400_ : Int32) : Prop := (R_X6_isFree_j3 l_ v10030_ things_ fs_ fc_ c_ fl_ ∧ v202400_ = (0 : Int32)) ∨ (∃ (v10120_ : Int32), ¬ (l_ < v10030_) ∧ R_X6_thingAt_e things_ fs_ fc_ c_ fl_ l_ v10120_ ∧ v10120_ = ((-1) : Int32) ∧ v202400_ = (1 : Int32)) ∨ False
def R_X6_isFree_e (things_ : Int32) (fs_ : Nat → Int32) (fc_ : Nat → Int32) (c_ : Int32) (l_ : Int32) (fl_ : Nat → Int32) (r : Int32) : Prop := (∃ (v10030_ : Int32) (v202400_ : Int32), R_X6_lying_e things_ fs_ fc_ c_ v10030_ ∧ R_X6_isFree_j1 l_ v10030_ things_ fs_ fc_ c_ fl_ v202400_ ∧ r = v202400_) ∨ False
set_option maxHeartbeats 4000000 in
set_option maxRecDepth 100000 in
theorem sf_X6_isFree (l : Launch) (D : va_G) (cy : Nat → ClassId) (no_ : Nat) (nd_ : Nat) (hour_ : Int32) (ns_ : Nat) (nc_ : Nat) (nl_ : Nat) (nt_ : Nat) (nh_ : Nat) (fallen_ : Int32) (fs_ : Nat → Int32) (fc_ : Nat → Int32) (fl_ : Nat → Int32) (lines_ : Int32) (columns_ : Int32) (levels_ : Int32) (things_ : Int32) (walkers_ : Int32) (nw_ : Nat) (nr_ : Nat) (nq_ : Nat) (hangs_ : Value) (frees_ : Value) (c_ : Int32) (l_ : Int32) (rcolumns_ : rg (1) (6) columns_) (rlevels_ : rg (1) (9) levels_) (rthings_ : rg (0) (8) things_) (rwalkers_ : rg (0) (4) walkers_) : Ci l yX6_isFree cX6_isFree 3 (some .boolean) { frames := 1, cells := 0, slots := 0, locals := 23 } D cy [.ref no_, .int c_, .int l_] [(no_, .inr (6, [.ref nd_, .int hour_, .ref ns_, .ref nc_, .ref nl_, .ref nt_, .ref nh_, .int fallen_])), (ns_, .inl (cy 0, 8, .inl (fs_))), (nc_, .inl (cy 0, 8, .inl (fc_))), (nl_, .inl (cy 0, 8, .inl (fl_))), (nd_, .inr (0, [.int lines_, .int columns_, .int levels_, .int things_, .int walkers_, .ref nw_, .ref nr_, .ref nq_, hangs_, frees_]))] (fun r W1 => R_X6_isFree_e things_ fs_ fc_ c_ l_ fl_ r ∧ W1 = [(no_, .inr (6, [.ref nd_, .int hour_, .ref ns_, .ref nc_, .ref nl_, .ref nt_, .ref nh_, .int fallen_])), (ns_, .inl (cy 0, 8, .inl (fs_))), (nc_, .inl (cy 0, 8, .inl (fc_))), (nl_, .inl (cy 0, 8, .inl (fl_))), (nd_, .inr (0, [.int lines_, .int columns_, .int levels_, .int things_, .int walkers_, .ref nw_, .ref nr_, .ref nq_, hangs_, frees_]))] ∧ rg (0) (1) r) := by
  refine Ci.of (by decide) (Nat.le_of_ble_eq_true rfl) ?_
  intro p e s m below meth c A ls hX hE hP hD hl
  obtain ⟨hx, hb, hr, hml, hown, htA, hlk⟩ := id hX
  have hK := hE.1
  have hS : va_S A s.heap s.heap [] := va_S.rf
  have hl : lv_has ls 3 [(0, .ref no_), (1, .int c_), (2, .int l_)] := hl
  refine lv_iload_n hx hb dX6_isFree_0 rfl (lv_at hl 2 rfl) ?_
  refine lv_aload_n hx hb dX6_isFree_1 rfl (lv_at hl 0 rfl) ?_
  refine lv_iload_n hx hb dX6_isFree_2 rfl (lv_at hl 1 rfl) ?_
  refine kVi (As := [.int c_]) (rest := [.int l_]) (wr := [(nl_, .inl (cy 0, 8, .inl (fl_)))]) hX hE (sf_X6_lying l D cy no_ nd_ hour_ ns_ nc_ nl_ nt_ nh_ fallen_ fs_ fc_ lines_ columns_ levels_ things_ walkers_ nw_ nr_ nq_ hangs_ frees_ c_ (rg_w rcolumns_ (by decide) (by decide)) (rg_w rlevels_ (by decide) (by decide)) (rg_w rthings_ (by decide) (by decide)) (rg_w rwalkers_ (by decide) (by decide))) (cwVA 1 htA wd_379 wd_376 wd_6 wd_377 wd_378 (by decide +kernel) ⟨by decide, by decide⟩) hP hD hS [0, 1, 2, 4] [3] rfl rfl (by decide +kernel) 0 rfl rfl rfl rfl hl.1 rfl (Nat.le_of_ble_eq_true rfl) dX6_isFree_3 (by decide) (fun v10030_ W1 H locs hw hP hD hS => ?_)
  refine W.widen (k := 0) (n := 0) (by decide) (by decide) ?_
  obtain ⟨k3_0_, rfl⟩ := hw
  have hP : va_P D vwCl [(nl_, .inl (cy 0, 8, .inl (fl_))), (no_, .inr (6, [.ref nd_, .int hour_, .ref ns_, .ref nc_, .ref nl_, .ref nt_, .ref nh_, .int fallen_])), (ns_, .inl (cy 0, 8, .inl (fs_))), (nc_, .inl (cy 0, 8, .inl (fc_))), (nd_, .inr (0, [.int lines_, .int columns_, .int levels_, .int things_, .int walkers_, .ref nw_, .ref nr_, .ref nq_, hangs_, frees_]))] H := hP
  have hD := va_ca hP hD
  refine joinT (D := D) (A := A) (pc := 24) (mL := 3) (τ := Int32) (WS := fun i => [(nl_, .inl (cy 0, 8, .inl (fl_))), (no_, .inr (6, [.ref nd_, .int hour_, .ref ns_, .ref nc_, .ref nl_, .ref nt_, .ref nh_, .int fallen_])), (ns_, .inl (cy 0, 8, .inl (fs_))), (nc_, .inl (cy 0, 8, .inl (fc_))), (nd_, .inr (0, [.int lines_, .int columns_, .int levels_, .int things_, .int walkers_, .ref nw_, .ref nr_, .ref nq_, hangs_, frees_]))]) (LV := fun i => [(0, .ref no_), (1, .int c_), (2, .int l_)]) (ST := fun i => [.int i]) (cells := 0) (slots := 0) (fun i => rg (0) (1) i ∧ R_X6_isFree_j1 l_ v10030_ things_ fs_ fc_ c_ fl_ i) (fun v202400_ H locs ls hI hP hD hS hl => ?_) (fun j24_ => ?_)
  · have hI : rg (0) (1) v202400_ ∧ R_X6_isFree_j1 l_ v10030_ things_ fs_ fc_ c_ fl_ v202400_ := hI
    obtain ⟨rv202400_, hR1_⟩ := hI
    have hP : va_P D vwCl [(nl_, .inl (cy 0, 8, .inl (fl_))), (no_, .inr (6, [.ref nd_, .int hour_, .ref ns_, .ref nc_, .ref nl_, .ref nt_, .ref nh_, .int fallen_])), (ns_, .inl (cy 0, 8, .inl (fs_))), (nc_, .inl (cy 0, 8, .inl (fc_))), (nd_, .inr (0, [.int lines_, .int columns_, .int levels_, .int things_, .int walkers_, .ref nw_, .ref nr_, .ref nq_, hangs_, frees_]))] H := hP
    have hD := va_ca hP hD
    have hl : lv_has ls 3 [(0, .ref no_), (1, .int c_), (2, .int l_)] := hl
    have hP : va_P D vwCl [(no_, .inr (6, [.ref nd_, .int hour_, .ref ns_, .ref nc_, .ref nl_, .ref nt_, .ref nh_, .int fallen_])), (ns_, .inl (cy 0, 8, .inl (fs_))), (nc_, .inl (cy 0, 8, .inl (fc_))), (nl_, .inl (cy 0, 8, .inl (fl_))), (nd_, .inr (0, [.int lines_, .int columns_, .int levels_, .int things_, .int walkers_, .ref nw_, .ref nr_, .ref nq_, hangs_, frees_]))] H := hP.sub [1, 2, 3, 0, 4] rfl
    have hD : va_D A [(no_, .inr (6, [.ref nd_, .int hour_, .ref ns_, .ref nc_, .ref nl_, .ref nt_, .ref nh_, .int fallen_])), (ns_, .inl (cy 0, 8, .inl (fs_))), (nc_, .inl (cy 0, 8, .inl (fc_))), (nl_, .inl (cy 0, 8, .inl (fl_))), (nd_, .inr (0, [.int lines_, .int columns_, .int levels_, .int things_, .int walkers_, .ref nw_, .ref nr_, .ref nq_, hangs_, frees_]))] := hD.sub [1, 2, 3, 0, 4] (by decide +kernel) rfl
    exact rZ hX (nz_of rv202400_) hE hP hD hS dX6_isFree_24 (by decide) (by decide) ⟨(Or.inl ⟨v10030_, v202400_, k3_0_, hR1_, rfl⟩), rfl, (rg_w rv202400_ (by decide) (by decide))⟩
  refine joinT (D := D) (A := A) (pc := 23) (mL := 3) (τ := Unit) (WS := fun i => [(nl_, .inl (cy 0, 8, .inl (fl_))), (no_, .inr (6, [.ref nd_, .int hour_, .ref ns_, .ref nc_, .ref nl_, .ref nt_, .ref nh_, .int fallen_])), (ns_, .inl (cy 0, 8, .inl (fs_))), (nc_, .inl (cy 0, 8, .inl (fc_))), (nd_, .inr (0, [.int lines_, .int columns_, .int levels_, .int things_, .int walkers_, .ref nw_, .ref nr_, .ref nq_, hangs_, frees_]))]) (LV := fun i => [(0, .ref no_), (1, .int c_), (2, .int l_)]) (ST := fun i => []) (cells := 0) (slots := 0) (fun i => R_X6_isFree_j3 l_ v10030_ things_ fs_ fc_ c_ fl_) (fun u0_ H locs ls hI hP hD hS hl => ?_) (fun j23_ => ?_)
  · have hI : R_X6_isFree_j3 l_ v10030_ things_ fs_ fc_ c_ fl_ := hI
    have hR3_ := hI
    have hP : va_P D vwCl [(nl_, .inl (cy 0, 8, .inl (fl_))), (no_, .inr (6, [.ref nd_, .int hour_, .ref ns_, .ref nc_, .ref nl_, .ref nt_, .ref nh_, .int fallen_])), (ns_, .inl (cy 0, 8, .inl (fs_))), (nc_, .inl (cy 0, 8, .inl (fc_))), (nd_, .inr (0, [.int lines_, .int columns_, .int levels_, .int things_, .int walkers_, .ref nw_, .ref nr_, .ref nq_, hangs_, frees_]))] H := hP
    have hD := va_ca hP hD
    have hl : lv_has ls 3 [(0, .ref no_), (1, .int c_), (2, .int l_)] := hl
    refine lv_iconst (v := 0) hx hb dX6_isFree_23 (by decide) ?_
    exact j24_ 0 _ _ ls ⟨(rg_w (rg_lit (by decide) : rg (0) (0) (0 : Int32)) (by decide) (by decide)), (Or.inl ⟨hR3_, rfl⟩)⟩ hP hD hS (lv_sub hl [0, 1, 2] rfl)
  refine lv_icmp_lt (tgt := 23) hx hb dX6_isFree_6 (by decide) (fun c6_ => ?_) (fun c6_ => ?_)
  · have g1_ : rg (-2147483648) (2147483646) l_ := rg_lt1 c6_ (rg_any _) (rg_any _) (by decide)
    have g2_ : rg (-2147483647) (2147483647) v10030_ := rg_lt2 c6_ (rg_any _) (rg_any _) (by decide)
    exact j23_ () _ _ ls (Or.inl c6_) hP hD hS (lv_sub hl [0, 1, 2] rfl)
  · refine lv_aload_n hx hb dX6_isFree_9 rfl (lv_at hl 0 rfl) ?_
    refine lv_iload_n hx hb dX6_isFree_10 rfl (lv_at hl 1 rfl) ?_
    refine lv_iload_n hx hb dX6_isFree_11 rfl (lv_at hl 2 rfl) ?_
    refine kVi (As := [.int c_, .int l_]) (rest := []) (wr := []) hX hE (sf_X6_thingAt l D cy no_ nd_ hour_ ns_ nc_ nl_ nt_ nh_ fallen_ fs_ fc_ fl_ lines_ columns_ levels_ things_ walkers_ nw_ nr_ nq_ hangs_ frees_ c_ l_ (rg_w rcolumns_ (by decide) (by decide)) (rg_w rlevels_ (by decide) (by decide)) (rg_w rthings_ (by decide) (by decide)) (rg_w rwalkers_ (by decide) (by decide))) (cwVA 2 htA wd_383 wd_380 wd_6 wd_381 wd_382 (by decide +kernel) ⟨by decide, by decide⟩) hP hD hS [1, 2, 3, 0, 4] [] rfl rfl (by decide +kernel) 0 rfl rfl rfl rfl hl.1 rfl (Nat.le_of_ble_eq_true rfl) dX6_isFree_12 (by decide) (fun v10120_ W1 H locs hw hP hD hS => ?_)
    refine W.widen (k := 0) (n := 0) (by decide) (by decide) ?_
    obtain ⟨k12_0_, rfl, kr12_⟩ := hw
    have hP : va_P D vwCl [(no_, .inr (6, [.ref nd_, .int hour_, .ref ns_, .ref nc_, .ref nl_, .ref nt_, .ref nh_, .int fallen_])), (ns_, .inl (cy 0, 8, .inl (fs_))), (nc_, .inl (cy 0, 8, .inl (fc_))), (nl_, .inl (cy 0, 8, .inl (fl_))), (nd_, .inr (0, [.int lines_, .int columns_, .int levels_, .int things_, .int walkers_, .ref nw_, .ref nr_, .ref nq_, hangs_, frees_]))] H := hP
    have hD := va_ca hP hD
    refine lv_iconst (v := (-1)) hx hb dX6_isFree_15 (by decide) ?_
    refine lv_icmp_ne (tgt := 23) hx hb dX6_isFree_16 (by decide) (fun c16_ => ?_) (fun c16_ => ?_)
    · have g3_ : rg (0) (7) v10120_ := rg_ne1 c16_ kr12_ (by decide) (by decide)
      have hP : va_P D vwCl [(nl_, .inl (cy 0, 8, .inl (fl_))), (no_, .inr (6, [.ref nd_, .int hour_, .ref ns_, .ref nc_, .ref nl_, .ref nt_, .ref nh_, .int fallen_])), (ns_, .inl (cy 0, 8, .inl (fs_))), (nc_, .inl (cy 0, 8, .inl (fc_))), (nd_, .inr (0, [.int lines_, .int columns_, .int levels_, .int things_, .int walkers_, .ref nw_, .ref nr_, .ref nq_, hangs_, frees_]))] H := hP.sub [3, 0, 1, 2, 4] rfl
      have hD : va_D A [(nl_, .inl (cy 0, 8, .inl (fl_))), (no_, .inr (6, [.ref nd_, .int hour_, .ref ns_, .ref nc_, .ref nl_, .ref nt_, .ref nh_, .int fallen_])), (ns_, .inl (cy 0, 8, .inl (fs_))), (nc_, .inl (cy 0, 8, .inl (fc_))), (nd_, .inr (0, [.int lines_, .int columns_, .int levels_, .int things_, .int walkers_, .ref nw_, .ref nr_, .ref nq_, hangs_, frees_]))] := hD.sub [3, 0, 1, 2, 4] (by decide +kernel) rfl
      exact j23_ () _ _ ls (Or.inr (Or.inl ⟨v10120_, c6_, k12_0_, c16_⟩)) hP hD hS (lv_sub hl [0, 1, 2] rfl)
    · have g4_ : rg (-1) (-1) v10120_ := rg_eq c16_ (rg_lit (by decide) : rg (-1) (-1) ((-1) : Int32))
      refine lv_iconst (v := 1) hx hb dX6_isFree_19 (by decide) ?_
      refine lv_goto (tgt := 24) hx hb dX6_isFree_20 (by decide) ?_
      have hP : va_P D vwCl [(nl_, .inl (cy 0, 8, .inl (fl_))), (no_, .inr (6, [.ref nd_, .int hour_, .ref ns_, .ref nc_, .ref nl_, .ref nt_, .ref nh_, .int fallen_])), (ns_, .inl (cy 0, 8, .inl (fs_))), (nc_, .inl (cy 0, 8, .inl (fc_))), (nd_, .inr (0, [.int lines_, .int columns_, .int levels_, .int things_, .int walkers_, .ref nw_, .ref nr_, .ref nq_, hangs_, frees_]))] H := hP.sub [3, 0, 1, 2, 4] rfl
      have hD : va_D A [(nl_, .inl (cy 0, 8, .inl (fl_))), (no_, .inr (6, [.ref nd_, .int hour_, .ref ns_, .ref nc_, .ref nl_, .ref nt_, .ref nh_, .int fallen_])), (ns_, .inl (cy 0, 8, .inl (fs_))), (nc_, .inl (cy 0, 8, .inl (fc_))), (nd_, .inr (0, [.int lines_, .int columns_, .int levels_, .int things_, .int walkers_, .ref nw_, .ref nr_, .ref nq_, hangs_, frees_]))] := hD.sub [3, 0, 1, 2, 4] (by decide +kernel) rfl
      exact j24_ 1 _ _ ls ⟨(rg_w (rg_lit (by decide) : rg (1) (1) (1 : Int32)) (by decide) (by decide)), (Or.inr (Or.inl ⟨v10120_, c6_, k12_0_, c16_, rfl⟩))⟩ hP hD hS (lv_sub hl [0, 1, 2] rfl)
def R_X6_whyNotLetGo_j1 (t_ : Int32) (things_ : Int32) (c_ : Int32) (columns_ : Int32) (l_ : Int32) (levels_ : Int32) : Prop := (t_ < (0 : Int32)) ∨ (¬ (t_ < (0 : Int32)) ∧ things_ ≤ t_) ∨ (∃ (v10210_ : Int32), ¬ (t_ < (0 : Int32)) ∧ ¬ (things_ ≤ t_) ∧ R_X0_hasPlace_e c_ columns_ l_ levels_ v10210_ ∧ v10210_ = (0 : Int32)) ∨ False
def R_X6_whyNotLetGo_j3 (v10430_ : Int32) (v205400_ : Int32) : Prop := (v10430_ = (0 : Int32) ∧ v205400_ = (3 : Int32)) ∨ (¬ (v10430_ = (0 : Int32)) ∧ v205400_ = (0 : Int32)) ∨ False
def R_X6_whyNotLetGo_e (t_ : Int32) (things_ : Int32) (c_ : Int32) (columns_ : Int32) (l_ : Int32) (levels_ : Int32) (fs_ : Nat → Int32) (fc_ : Nat → Int32) (fl_ : Nat → Int32) (r : Int32) : Prop := (R_X6_whyNotLetGo_j1 t_ things_ c_ columns_ l_ levels_ ∧ r = (1 : Int32)) ∨ (∃ (v10210_ : Int32) (v10340_ : Int32) (v10430_ : Int32) (v205400_ : Int32), ¬ (t_ < (0 : Int32)) ∧ ¬ (things_ ≤ t_) ∧ R_X0_hasPlace_e c_ columns_ l_ levels_ v10210_ ∧ ¬ v10210_ = (0 : Int32) ∧ v10340_ = fs_ t_.toNatClampNeg ∧ v10340_ = (0 : Int32) ∧ R_X6_isFree_e things_ fs_ fc_ c_ l_ fl_ v10430_ ∧ R_X6_whyNotLetGo_j3 v10430_ v205400_ ∧ r = v205400_) ∨ (∃ (v10210_ : Int32) (v10340_ : Int32), ¬ (t_ < (0 : Int32)) ∧ ¬ (things_ ≤ t_) ∧ R_X0_hasPlace_e c_ columns_ l_ levels_ v10210_ ∧ ¬ v10210_ = (0 : Int32) ∧ v10340_ = fs_ t_.toNatClampNeg ∧ ¬ (v10340_ = (0 : Int32)) ∧ r = (2 : Int32)) ∨ False
set_option maxHeartbeats 4000000 in
set_option maxRecDepth 100000 in
theorem sf_X6_whyNotLetGo (l : Launch) (D : va_G) (cy : Nat → ClassId) (no_ : Nat) (nd_ : Nat) (hour_ : Int32) (ns_ : Nat) (nc_ : Nat) (nl_ : Nat) (nt_ : Nat) (nh_ : Nat) (fallen_ : Int32) (fs_ : Nat → Int32) (fc_ : Nat → Int32) (fl_ : Nat → Int32) (lines_ : Int32) (columns_ : Int32) (levels_ : Int32) (things_ : Int32) (walkers_ : Int32) (nw_ : Nat) (nr_ : Nat) (nq_ : Nat) (hangs_ : Value) (frees_ : Value) (t_ : Int32) (c_ : Int32) (l_ : Int32) (rcolumns_ : rg (1) (6) columns_) (rlevels_ : rg (1) (9) levels_) (rthings_ : rg (0) (8) things_) (rwalkers_ : rg (0) (4) walkers_) : Ci l yX6_whyNotLetGo cX6_whyNotLetGo 4 (some .int) { frames := 2, cells := 0, slots := 0, locals := 45 } D cy [.ref no_, .int t_, .int c_, .int l_] [(no_, .inr (6, [.ref nd_, .int hour_, .ref ns_, .ref nc_, .ref nl_, .ref nt_, .ref nh_, .int fallen_])), (ns_, .inl (cy 0, 8, .inl (fs_))), (nc_, .inl (cy 0, 8, .inl (fc_))), (nl_, .inl (cy 0, 8, .inl (fl_))), (nd_, .inr (0, [.int lines_, .int columns_, .int levels_, .int things_, .int walkers_, .ref nw_, .ref nr_, .ref nq_, hangs_, frees_]))] (fun r W1 => R_X6_whyNotLetGo_e t_ things_ c_ columns_ l_ levels_ fs_ fc_ fl_ r ∧ W1 = [(no_, .inr (6, [.ref nd_, .int hour_, .ref ns_, .ref nc_, .ref nl_, .ref nt_, .ref nh_, .int fallen_])), (ns_, .inl (cy 0, 8, .inl (fs_))), (nc_, .inl (cy 0, 8, .inl (fc_))), (nl_, .inl (cy 0, 8, .inl (fl_))), (nd_, .inr (0, [.int lines_, .int columns_, .int levels_, .int things_, .int walkers_, .ref nw_, .ref nr_, .ref nq_, hangs_, frees_]))] ∧ rg (0) (3) r) := by
  refine Ci.of (by decide) (Nat.le_of_ble_eq_true rfl) ?_
  intro p e s m below meth c A ls hX hE hP hD hl
  obtain ⟨hx, hb, hr, hml, hown, htA, hlk⟩ := id hX
  have hK := hE.1
  have hS : va_S A s.heap s.heap [] := va_S.rf
  have hl : lv_has ls 4 [(0, .ref no_), (1, .int t_), (2, .int c_), (3, .int l_)] := hl
  refine lv_iload_n hx hb dX6_whyNotLetGo_0 rfl (lv_at hl 1 rfl) ?_
  refine joinT (D := D) (A := A) (pc := 27) (mL := 4) (τ := Unit) (WS := fun i => [(no_, .inr (6, [.ref nd_, .int hour_, .ref ns_, .ref nc_, .ref nl_, .ref nt_, .ref nh_, .int fallen_])), (ns_, .inl (cy 0, 8, .inl (fs_))), (nc_, .inl (cy 0, 8, .inl (fc_))), (nl_, .inl (cy 0, 8, .inl (fl_))), (nd_, .inr (0, [.int lines_, .int columns_, .int levels_, .int things_, .int walkers_, .ref nw_, .ref nr_, .ref nq_, hangs_, frees_]))]) (LV := fun i => [(0, .ref no_), (1, .int t_), (2, .int c_), (3, .int l_)]) (ST := fun i => []) (cells := 0) (slots := 0) (fun i => R_X6_whyNotLetGo_j1 t_ things_ c_ columns_ l_ levels_) (fun u0_ H locs ls hI hP hD hS hl => ?_) (fun j27_ => ?_)
  · have hI : R_X6_whyNotLetGo_j1 t_ things_ c_ columns_ l_ levels_ := hI
    have hR1_ := hI
    have hP : va_P D vwCl [(no_, .inr (6, [.ref nd_, .int hour_, .ref ns_, .ref nc_, .ref nl_, .ref nt_, .ref nh_, .int fallen_])), (ns_, .inl (cy 0, 8, .inl (fs_))), (nc_, .inl (cy 0, 8, .inl (fc_))), (nl_, .inl (cy 0, 8, .inl (fl_))), (nd_, .inr (0, [.int lines_, .int columns_, .int levels_, .int things_, .int walkers_, .ref nw_, .ref nr_, .ref nq_, hangs_, frees_]))] H := hP
    have hD := va_ca hP hD
    have hl : lv_has ls 4 [(0, .ref no_), (1, .int t_), (2, .int c_), (3, .int l_)] := hl
    refine lv_iconst (v := 1) hx hb dX6_whyNotLetGo_27 (by decide) ?_
    exact rI hX hE hP hD hS dX6_whyNotLetGo_28 (by decide) (by decide) ⟨(Or.inl ⟨hR1_, rfl⟩), rfl, (rg_w (rg_lit (by decide) : rg (1) (1) (1 : Int32)) (by decide) (by decide))⟩
  refine lv_if_lt (tgt := 27) hx hb dX6_whyNotLetGo_1 (by decide) (fun c1_ => ?_) (fun c1_ => ?_)
  · have g1_ : rg (-2147483648) (-1) t_ := rg_lt1 c1_ (rg_any _) (rg_lit (by decide) : rg (0) (0) (0 : Int32)) (by decide)
    exact j27_ () _ _ ls (Or.inl c1_) hP hD hS (lv_sub hl [0, 1, 2, 3] rfl)
  · have g2_ : rg (0) (2147483647) t_ := rg_le2 (rg_nlt c1_) (rg_lit (by decide) : rg (0) (0) (0 : Int32)) (rg_any _) (by decide)
    refine lv_iload_n hx hb dX6_whyNotLetGo_4 rfl (lv_at hl 1 rfl) ?_
    refine lv_aload_n hx hb dX6_whyNotLetGo_5 rfl (lv_at hl 0 rfl) ?_
    refine va_get (ci := 6) (v := .ref nd_) (C := RX6) (T := TX6) (N := 8) hx hb htA in_X6 hown hK hP 0 rfl rfl 0 (by decide) (htA _ wd_166) (fun _ h => h) rfl dX6_whyNotLetGo_6 ?_
    refine va_get (ci := 0) (v := .int things_) (C := RX0) (T := TX0) (N := 10) hx hb htA in_X0 hown hK hP 4 rfl rfl 3 (by decide) (htA _ wd_86) (fun _ h => h) rfl dX6_whyNotLetGo_9 ?_
    refine lv_icmp_ge (tgt := 27) hx hb dX6_whyNotLetGo_12 (by decide) (fun c12_ => ?_) (fun c12_ => ?_)
    · exact j27_ () _ _ ls (Or.inr (Or.inl ⟨c1_, c12_⟩)) hP hD hS (lv_sub hl [0, 1, 2, 3] rfl)
    · have g3_ : rg (0) (7) t_ := rg_lt1 (rg_nle c12_) g2_ rthings_ (by decide)
      have g4_ : rg (1) (8) things_ := rg_lt2 (rg_nle c12_) g2_ rthings_ (by decide)
      refine lv_aload_n hx hb dX6_whyNotLetGo_15 rfl (lv_at hl 0 rfl) ?_
      refine va_get (ci := 6) (v := .ref nd_) (C := RX6) (T := TX6) (N := 8) hx hb htA in_X6 hown hK hP 0 rfl rfl 0 (by decide) (htA _ wd_166) (fun _ h => h) rfl dX6_whyNotLetGo_16 ?_
      refine lv_iload_n hx hb dX6_whyNotLetGo_19 rfl (lv_at hl 2 rfl) ?_
      refine lv_iload_n hx hb dX6_whyNotLetGo_20 rfl (lv_at hl 3 rfl) ?_
      refine kVi (As := [.int c_, .int l_]) (rest := []) (wr := [(no_, .inr (6, [.ref nd_, .int hour_, .ref ns_, .ref nc_, .ref nl_, .ref nt_, .ref nh_, .int fallen_])), (ns_, .inl (cy 0, 8, .inl (fs_))), (nc_, .inl (cy 0, 8, .inl (fc_))), (nl_, .inl (cy 0, 8, .inl (fl_)))]) hX hE (sf_X0_hasPlace l D cy nd_ lines_ columns_ levels_ things_ walkers_ nw_ nr_ nq_ hangs_ frees_ c_ l_ (rg_w rcolumns_ (by decide) (by decide)) (rg_w rlevels_ (by decide) (by decide)) (rg_w g4_ (by decide) (by decide)) (rg_w rwalkers_ (by decide) (by decide))) (cwVA 2 htA wd_371 wd_368 wd_3 wd_369 wd_370 (by decide +kernel) ⟨by decide, by decide⟩) hP hD hS [4] [0, 1, 2, 3] rfl rfl (by decide +kernel) 0 rfl rfl rfl rfl hl.1 rfl (Nat.le_of_ble_eq_true rfl) dX6_whyNotLetGo_21 (by decide) (fun v10210_ W1 H locs hw hP hD hS => ?_)
      refine W.widen (k := 0) (n := 0) (by decide) (by decide) ?_
      obtain ⟨k21_0_, rfl, kr21_⟩ := hw
      have hP : va_P D vwCl [(no_, .inr (6, [.ref nd_, .int hour_, .ref ns_, .ref nc_, .ref nl_, .ref nt_, .ref nh_, .int fallen_])), (ns_, .inl (cy 0, 8, .inl (fs_))), (nc_, .inl (cy 0, 8, .inl (fc_))), (nl_, .inl (cy 0, 8, .inl (fl_))), (nd_, .inr (0, [.int lines_, .int columns_, .int levels_, .int things_, .int walkers_, .ref nw_, .ref nr_, .ref nq_, hangs_, frees_]))] H := hP
      have hD := va_ca hP hD
      refine lv_if_ne (tgt := 29) hx hb dX6_whyNotLetGo_24 (by decide) (fun c24_ => ?_) (fun c24_ => ?_)
      · have g5_ : rg (1) (1) v10210_ := rg_ne1 c24_ kr21_ (by decide) (by decide)
        refine lv_aload_n hx hb dX6_whyNotLetGo_29 rfl (lv_at hl 0 rfl) ?_
        refine va_get (ci := 6) (v := .ref ns_) (C := RX6) (T := TX6) (N := 8) hx hb htA in_X6 hown hK hP 0 rfl rfl 2 (by decide) (htA _ wd_174) (fun _ h => h) rfl dX6_whyNotLetGo_30 ?_
        refine lv_iload_n hx hb dX6_whyNotLetGo_33 rfl (lv_at hl 1 rfl) ?_
        refine va_iald hx hb hK hP 1 0 rfl rfl (rg_in g3_ (by decide) (by decide)) dX6_whyNotLetGo_34 ?_
        refine lv_topi (fun v10340_ ev10340_ => ?_)
        refine lv_if_eq (tgt := 40) hx hb dX6_whyNotLetGo_35 (by decide) (fun c35_ => ?_) (fun c35_ => ?_)
        · have g6_ : rg (0) (0) v10340_ := rg_eq c35_ (rg_lit (by decide) : rg (0) (0) (0 : Int32))
          refine lv_aload_n hx hb dX6_whyNotLetGo_40 rfl (lv_at hl 0 rfl) ?_
          refine lv_iload_n hx hb dX6_whyNotLetGo_41 rfl (lv_at hl 2 rfl) ?_
          refine lv_iload_n hx hb dX6_whyNotLetGo_42 rfl (lv_at hl 3 rfl) ?_
          refine kVi (As := [.int c_, .int l_]) (rest := []) (wr := []) hX hE (sf_X6_isFree l D cy no_ nd_ hour_ ns_ nc_ nl_ nt_ nh_ fallen_ fs_ fc_ fl_ lines_ columns_ levels_ things_ walkers_ nw_ nr_ nq_ hangs_ frees_ c_ l_ (rg_w rcolumns_ (by decide) (by decide)) (rg_w rlevels_ (by decide) (by decide)) (rg_w g4_ (by decide) (by decide)) (rg_w rwalkers_ (by decide) (by decide))) (cwVA 2 htA wd_375 wd_372 wd_6 wd_373 wd_374 (by decide +kernel) ⟨by decide, by decide⟩) hP hD hS [0, 1, 2, 3, 4] [] rfl rfl (by decide +kernel) 0 rfl rfl rfl rfl hl.1 rfl (Nat.le_of_ble_eq_true rfl) dX6_whyNotLetGo_43 (by decide) (fun v10430_ W1 H locs hw hP hD hS => ?_)
          refine W.widen (k := 0) (n := 0) (by decide) (by decide) ?_
          obtain ⟨k43_0_, rfl, kr43_⟩ := hw
          have hP : va_P D vwCl [(no_, .inr (6, [.ref nd_, .int hour_, .ref ns_, .ref nc_, .ref nl_, .ref nt_, .ref nh_, .int fallen_])), (ns_, .inl (cy 0, 8, .inl (fs_))), (nc_, .inl (cy 0, 8, .inl (fc_))), (nl_, .inl (cy 0, 8, .inl (fl_))), (nd_, .inr (0, [.int lines_, .int columns_, .int levels_, .int things_, .int walkers_, .ref nw_, .ref nr_, .ref nq_, hangs_, frees_]))] H := hP
          have hD := va_ca hP hD
          refine joinT (D := D) (A := A) (pc := 54) (mL := 4) (τ := Int32) (WS := fun i => [(no_, .inr (6, [.ref nd_, .int hour_, .ref ns_, .ref nc_, .ref nl_, .ref nt_, .ref nh_, .int fallen_])), (ns_, .inl (cy 0, 8, .inl (fs_))), (nc_, .inl (cy 0, 8, .inl (fc_))), (nl_, .inl (cy 0, 8, .inl (fl_))), (nd_, .inr (0, [.int lines_, .int columns_, .int levels_, .int things_, .int walkers_, .ref nw_, .ref nr_, .ref nq_, hangs_, frees_]))]) (LV := fun i => [(0, .ref no_), (1, .int t_), (2, .int c_), (3, .int l_)]) (ST := fun i => [.int i]) (cells := 0) (slots := 0) (fun i => rg (0) (3) i ∧ R_X6_whyNotLetGo_j3 v10430_ i) (fun v205400_ H locs ls hI hP hD hS hl => ?_) (fun j54_ => ?_)
          · have hI : rg (0) (3) v205400_ ∧ R_X6_whyNotLetGo_j3 v10430_ v205400_ := hI
            obtain ⟨rv205400_, hR3_⟩ := hI
            have hP : va_P D vwCl [(no_, .inr (6, [.ref nd_, .int hour_, .ref ns_, .ref nc_, .ref nl_, .ref nt_, .ref nh_, .int fallen_])), (ns_, .inl (cy 0, 8, .inl (fs_))), (nc_, .inl (cy 0, 8, .inl (fc_))), (nl_, .inl (cy 0, 8, .inl (fl_))), (nd_, .inr (0, [.int lines_, .int columns_, .int levels_, .int things_, .int walkers_, .ref nw_, .ref nr_, .ref nq_, hangs_, frees_]))] H := hP
            have hD := va_ca hP hD
            have hl : lv_has ls 4 [(0, .ref no_), (1, .int t_), (2, .int c_), (3, .int l_)] := hl
            exact rI hX hE hP hD hS dX6_whyNotLetGo_54 (by decide) (by decide) ⟨(Or.inr (Or.inl ⟨v10210_, v10340_, v10430_, v205400_, c1_, c12_, k21_0_, c24_, ev10340_, c35_, k43_0_, hR3_, rfl⟩)), rfl, (rg_w rv205400_ (by decide) (by decide))⟩
          refine lv_if_eq (tgt := 53) hx hb dX6_whyNotLetGo_46 (by decide) (fun c46_ => ?_) (fun c46_ => ?_)
          · have g7_ : rg (0) (0) v10430_ := rg_eq c46_ (rg_lit (by decide) : rg (0) (0) (0 : Int32))
            refine lv_iconst (v := 3) hx hb dX6_whyNotLetGo_53 (by decide) ?_
            exact j54_ 3 _ _ ls ⟨(rg_w (rg_lit (by decide) : rg (3) (3) (3 : Int32)) (by decide) (by decide)), (Or.inl ⟨c46_, rfl⟩)⟩ hP hD hS (lv_sub hl [0, 1, 2, 3] rfl)
          · have g8_ : rg (1) (1) v10430_ := rg_ne1 c46_ kr43_ (by decide) (by decide)
            refine lv_iconst (v := 0) hx hb dX6_whyNotLetGo_49 (by decide) ?_
            refine lv_goto (tgt := 54) hx hb dX6_whyNotLetGo_50 (by decide) ?_
            exact j54_ 0 _ _ ls ⟨(rg_w (rg_lit (by decide) : rg (0) (0) (0 : Int32)) (by decide) (by decide)), (Or.inr (Or.inl ⟨c46_, rfl⟩))⟩ hP hD hS (lv_sub hl [0, 1, 2, 3] rfl)
        · refine lv_iconst (v := 2) hx hb dX6_whyNotLetGo_38 (by decide) ?_
          exact rI hX hE hP hD hS dX6_whyNotLetGo_39 (by decide) (by decide) ⟨(Or.inr (Or.inr (Or.inl ⟨v10210_, v10340_, c1_, c12_, k21_0_, c24_, ev10340_, c35_, rfl⟩))), rfl, (rg_w (rg_lit (by decide) : rg (2) (2) (2 : Int32)) (by decide) (by decide))⟩
      · have g9_ : rg (0) (0) v10210_ := rg_eq c24_ (rg_lit (by decide) : rg (0) (0) (0 : Int32))
        exact j27_ () _ _ ls (Or.inr (Or.inr (Or.inl ⟨v10210_, c1_, c12_, k21_0_, c24_⟩))) hP hD hS (lv_sub hl [0, 1, 2, 3] rfl)
def R_X6_whyNotTake_j1 (t_ : Int32) (things_ : Int32) : Prop := (t_ < (0 : Int32)) ∨ (¬ (t_ < (0 : Int32)) ∧ ¬ (t_ < things_)) ∨ False
def R_X6_whyNotTake_j5 (v10220_ : Int32) (fl_ : Nat → Int32) (t_ : Int32) (fc_ : Nat → Int32) (things_ : Int32) (fs_ : Nat → Int32) : Prop := (¬ v10220_ = (2 : Int32)) ∨ (∃ (v10430_ : Int32) (v10520_ : Int32) (v10530_ : Int32), v10220_ = (2 : Int32) ∧ v10430_ = fl_ t_.toNatClampNeg ∧ v10520_ = fc_ t_.toNatClampNeg ∧ R_X6_lying_e things_ fs_ fc_ v10520_ v10530_ ∧ v10530_ ≤ (v10430_ + 1)) ∨ False
def R_X6_whyNotTake_j3 (v10220_ : Int32) (fl_ : Nat → Int32) (t_ : Int32) (fc_ : Nat → Int32) (things_ : Int32) (fs_ : Nat → Int32) (v206400_ : Int32) : Prop := (R_X6_whyNotTake_j5 v10220_ fl_ t_ fc_ things_ fs_ ∧ v206400_ = (0 : Int32)) ∨ (∃ (v10430_ : Int32) (v10520_ : Int32) (v10530_ : Int32), v10220_ = (2 : Int32) ∧ v10430_ = fl_ t_.toNatClampNeg ∧ v10520_ = fc_ t_.toNatClampNeg ∧ R_X6_lying_e things_ fs_ fc_ v10520_ v10530_ ∧ ¬ (v10530_ ≤ (v10430_ + 1)) ∧ v206400_ = (1 : Int32)) ∨ False
def R_X6_whyNotTake_j4 (v206400_ : Int32) (v207400_ : Int32) : Prop := (v206400_ = (0 : Int32) ∧ v207400_ = (0 : Int32)) ∨ (¬ (v206400_ = (0 : Int32)) ∧ v207400_ = (3 : Int32)) ∨ False
def R_X6_whyNotTake_e (t_ : Int32) (things_ : Int32) (fs_ : Nat → Int32) (fl_ : Nat → Int32) (fc_ : Nat → Int32) (r : Int32) : Prop := (R_X6_whyNotTake_j1 t_ things_ ∧ r = (1 : Int32)) ∨ (∃ (v10220_ : Int32) (v206400_ : Int32) (v207400_ : Int32), ¬ (t_ < (0 : Int32)) ∧ t_ < things_ ∧ v10220_ = fs_ t_.toNatClampNeg ∧ ¬ v10220_ = (0 : Int32) ∧ R_X6_whyNotTake_j3 v10220_ fl_ t_ fc_ things_ fs_ v206400_ ∧ R_X6_whyNotTake_j4 v206400_ v207400_ ∧ r = v207400_) ∨ (∃ (v10220_ : Int32), ¬ (t_ < (0 : Int32)) ∧ t_ < things_ ∧ v10220_ = fs_ t_.toNatClampNeg ∧ v10220_ = (0 : Int32) ∧ r = (2 : Int32)) ∨ False
set_option maxHeartbeats 4000000 in
set_option maxRecDepth 100000 in
theorem sf_X6_whyNotTake (l : Launch) (D : va_G) (cy : Nat → ClassId) (no_ : Nat) (nd_ : Nat) (hour_ : Int32) (ns_ : Nat) (nc_ : Nat) (nl_ : Nat) (nt_ : Nat) (nh_ : Nat) (fallen_ : Int32) (fs_ : Nat → Int32) (fc_ : Nat → Int32) (fl_ : Nat → Int32) (lines_ : Int32) (columns_ : Int32) (levels_ : Int32) (things_ : Int32) (walkers_ : Int32) (nw_ : Nat) (nr_ : Nat) (nq_ : Nat) (hangs_ : Value) (frees_ : Value) (t_ : Int32) (rcolumns_ : rg (1) (6) columns_) (rlevels_ : rg (1) (9) levels_) (rthings_ : rg (0) (8) things_) (rwalkers_ : rg (0) (4) walkers_) : Ci l yX6_whyNotTake cX6_whyNotTake 3 (some .int) { frames := 1, cells := 0, slots := 0, locals := 23 } D cy [.ref no_, .int t_] [(no_, .inr (6, [.ref nd_, .int hour_, .ref ns_, .ref nc_, .ref nl_, .ref nt_, .ref nh_, .int fallen_])), (ns_, .inl (cy 0, 8, .inl (fs_))), (nc_, .inl (cy 0, 8, .inl (fc_))), (nl_, .inl (cy 0, 8, .inl (fl_))), (nd_, .inr (0, [.int lines_, .int columns_, .int levels_, .int things_, .int walkers_, .ref nw_, .ref nr_, .ref nq_, hangs_, frees_]))] (fun r W1 => R_X6_whyNotTake_e t_ things_ fs_ fl_ fc_ r ∧ W1 = [(no_, .inr (6, [.ref nd_, .int hour_, .ref ns_, .ref nc_, .ref nl_, .ref nt_, .ref nh_, .int fallen_])), (ns_, .inl (cy 0, 8, .inl (fs_))), (nc_, .inl (cy 0, 8, .inl (fc_))), (nl_, .inl (cy 0, 8, .inl (fl_))), (nd_, .inr (0, [.int lines_, .int columns_, .int levels_, .int things_, .int walkers_, .ref nw_, .ref nr_, .ref nq_, hangs_, frees_]))] ∧ rg (0) (3) r) := by
  refine Ci.of (by decide) (Nat.le_of_ble_eq_true rfl) ?_
  intro p e s m below meth c A ls hX hE hP hD hl
  obtain ⟨hx, hb, hr, hml, hown, htA, hlk⟩ := id hX
  have hK := hE.1
  have hS : va_S A s.heap s.heap [] := va_S.rf
  have hl : lv_has ls 3 [(0, .ref no_), (1, .int t_)] := hl
  refine lv_iload_n hx hb dX6_whyNotTake_0 rfl (lv_at hl 1 rfl) ?_
  refine joinT (D := D) (A := A) (pc := 15) (mL := 3) (τ := Unit) (WS := fun i => [(no_, .inr (6, [.ref nd_, .int hour_, .ref ns_, .ref nc_, .ref nl_, .ref nt_, .ref nh_, .int fallen_])), (ns_, .inl (cy 0, 8, .inl (fs_))), (nc_, .inl (cy 0, 8, .inl (fc_))), (nl_, .inl (cy 0, 8, .inl (fl_))), (nd_, .inr (0, [.int lines_, .int columns_, .int levels_, .int things_, .int walkers_, .ref nw_, .ref nr_, .ref nq_, hangs_, frees_]))]) (LV := fun i => [(0, .ref no_), (1, .int t_)]) (ST := fun i => []) (cells := 0) (slots := 0) (fun i => R_X6_whyNotTake_j1 t_ things_) (fun u0_ H locs ls hI hP hD hS hl => ?_) (fun j15_ => ?_)
  · have hI : R_X6_whyNotTake_j1 t_ things_ := hI
    have hR1_ := hI
    have hP : va_P D vwCl [(no_, .inr (6, [.ref nd_, .int hour_, .ref ns_, .ref nc_, .ref nl_, .ref nt_, .ref nh_, .int fallen_])), (ns_, .inl (cy 0, 8, .inl (fs_))), (nc_, .inl (cy 0, 8, .inl (fc_))), (nl_, .inl (cy 0, 8, .inl (fl_))), (nd_, .inr (0, [.int lines_, .int columns_, .int levels_, .int things_, .int walkers_, .ref nw_, .ref nr_, .ref nq_, hangs_, frees_]))] H := hP
    have hD := va_ca hP hD
    have hl : lv_has ls 3 [(0, .ref no_), (1, .int t_)] := hl
    refine lv_iconst (v := 1) hx hb dX6_whyNotTake_15 (by decide) ?_
    exact rI hX hE hP hD hS dX6_whyNotTake_16 (by decide) (by decide) ⟨(Or.inl ⟨hR1_, rfl⟩), rfl, (rg_w (rg_lit (by decide) : rg (1) (1) (1 : Int32)) (by decide) (by decide))⟩
  refine lv_if_lt (tgt := 15) hx hb dX6_whyNotTake_1 (by decide) (fun c1_ => ?_) (fun c1_ => ?_)
  · have g1_ : rg (-2147483648) (-1) t_ := rg_lt1 c1_ (rg_any _) (rg_lit (by decide) : rg (0) (0) (0 : Int32)) (by decide)
    exact j15_ () _ _ ls (Or.inl c1_) hP hD hS (lv_sub hl [0, 1] rfl)
  · have g2_ : rg (0) (2147483647) t_ := rg_le2 (rg_nlt c1_) (rg_lit (by decide) : rg (0) (0) (0 : Int32)) (rg_any _) (by decide)
    refine lv_iload_n hx hb dX6_whyNotTake_4 rfl (lv_at hl 1 rfl) ?_
    refine lv_aload_n hx hb dX6_whyNotTake_5 rfl (lv_at hl 0 rfl) ?_
    refine va_get (ci := 6) (v := .ref nd_) (C := RX6) (T := TX6) (N := 8) hx hb htA in_X6 hown hK hP 0 rfl rfl 0 (by decide) (htA _ wd_166) (fun _ h => h) rfl dX6_whyNotTake_6 ?_
    refine va_get (ci := 0) (v := .int things_) (C := RX0) (T := TX0) (N := 10) hx hb htA in_X0 hown hK hP 4 rfl rfl 3 (by decide) (htA _ wd_86) (fun _ h => h) rfl dX6_whyNotTake_9 ?_
    refine lv_icmp_lt (tgt := 17) hx hb dX6_whyNotTake_12 (by decide) (fun c12_ => ?_) (fun c12_ => ?_)
    · have g3_ : rg (0) (7) t_ := rg_lt1 c12_ g2_ rthings_ (by decide)
      have g4_ : rg (1) (8) things_ := rg_lt2 c12_ g2_ rthings_ (by decide)
      refine lv_aload_n hx hb dX6_whyNotTake_17 rfl (lv_at hl 0 rfl) ?_
      refine va_get (ci := 6) (v := .ref ns_) (C := RX6) (T := TX6) (N := 8) hx hb htA in_X6 hown hK hP 0 rfl rfl 2 (by decide) (htA _ wd_174) (fun _ h => h) rfl dX6_whyNotTake_18 ?_
      refine lv_iload_n hx hb dX6_whyNotTake_21 rfl (lv_at hl 1 rfl) ?_
      refine va_iald hx hb hK hP 1 0 rfl rfl (rg_in g3_ (by decide) (by decide)) dX6_whyNotTake_22 ?_
      refine lv_topi (fun v10220_ ev10220_ => ?_)
      refine lv_if_ne (tgt := 28) hx hb dX6_whyNotTake_23 (by decide) (fun c23_ => ?_) (fun c23_ => ?_)
      · refine lv_aload_n hx hb dX6_whyNotTake_28 rfl (lv_at hl 0 rfl) ?_
        refine va_get (ci := 6) (v := .ref ns_) (C := RX6) (T := TX6) (N := 8) hx hb htA in_X6 hown hK hP 0 rfl rfl 2 (by decide) (htA _ wd_174) (fun _ h => h) rfl dX6_whyNotTake_29 ?_
        refine lv_iload_n hx hb dX6_whyNotTake_32 rfl (lv_at hl 1 rfl) ?_
        refine va_iald hx hb hK hP 1 0 rfl rfl (rg_in g3_ (by decide) (by decide)) dX6_whyNotTake_33 ?_
        refine lv_topi (fun v10330_ ev10330_ => ?_)
        obtain rfl : v10220_ = v10330_ := ev10220_.trans ev10330_.symm
        refine lv_iconst (v := 2) hx hb dX6_whyNotTake_34 (by decide) ?_
        refine joinT (D := D) (A := A) (pc := 64) (mL := 3) (τ := Int32) (WS := fun i => [(no_, .inr (6, [.ref nd_, .int hour_, .ref ns_, .ref nc_, .ref nl_, .ref nt_, .ref nh_, .int fallen_])), (ns_, .inl (cy 0, 8, .inl (fs_))), (nc_, .inl (cy 0, 8, .inl (fc_))), (nl_, .inl (cy 0, 8, .inl (fl_))), (nd_, .inr (0, [.int lines_, .int columns_, .int levels_, .int things_, .int walkers_, .ref nw_, .ref nr_, .ref nq_, hangs_, frees_]))]) (LV := fun i => [(0, .ref no_), (1, .int t_)]) (ST := fun i => [.int i]) (cells := 0) (slots := 0) (fun i => rg (0) (1) i ∧ R_X6_whyNotTake_j3 v10220_ fl_ t_ fc_ things_ fs_ i) (fun v206400_ H locs ls hI hP hD hS hl => ?_) (fun j64_ => ?_)
        · have hI : rg (0) (1) v206400_ ∧ R_X6_whyNotTake_j3 v10220_ fl_ t_ fc_ things_ fs_ v206400_ := hI
          obtain ⟨rv206400_, hR3_⟩ := hI
          have hP : va_P D vwCl [(no_, .inr (6, [.ref nd_, .int hour_, .ref ns_, .ref nc_, .ref nl_, .ref nt_, .ref nh_, .int fallen_])), (ns_, .inl (cy 0, 8, .inl (fs_))), (nc_, .inl (cy 0, 8, .inl (fc_))), (nl_, .inl (cy 0, 8, .inl (fl_))), (nd_, .inr (0, [.int lines_, .int columns_, .int levels_, .int things_, .int walkers_, .ref nw_, .ref nr_, .ref nq_, hangs_, frees_]))] H := hP
          have hD := va_ca hP hD
          have hl : lv_has ls 3 [(0, .ref no_), (1, .int t_)] := hl
          refine lv_istore_n (lv' := [(2, .int v206400_), (0, .ref no_), (1, .int t_)]) hx hb dX6_whyNotTake_64 rfl hl (by decide) rfl (fun ls hl => ?_)
          refine lv_iload_n hx hb dX6_whyNotTake_65 rfl (lv_at hl 0 rfl) ?_
          refine joinT (D := D) (A := A) (pc := 74) (mL := 3) (τ := Int32) (WS := fun i => [(no_, .inr (6, [.ref nd_, .int hour_, .ref ns_, .ref nc_, .ref nl_, .ref nt_, .ref nh_, .int fallen_])), (ns_, .inl (cy 0, 8, .inl (fs_))), (nc_, .inl (cy 0, 8, .inl (fc_))), (nl_, .inl (cy 0, 8, .inl (fl_))), (nd_, .inr (0, [.int lines_, .int columns_, .int levels_, .int things_, .int walkers_, .ref nw_, .ref nr_, .ref nq_, hangs_, frees_]))]) (LV := fun i => [(2, .int v206400_), (0, .ref no_), (1, .int t_)]) (ST := fun i => [.int i]) (cells := 0) (slots := 0) (fun i => rg (0) (3) i ∧ R_X6_whyNotTake_j4 v206400_ i) (fun v207400_ H locs ls hI hP hD hS hl => ?_) (fun j74_ => ?_)
          · have hI : rg (0) (3) v207400_ ∧ R_X6_whyNotTake_j4 v206400_ v207400_ := hI
            obtain ⟨rv207400_, hR4_⟩ := hI
            have hP : va_P D vwCl [(no_, .inr (6, [.ref nd_, .int hour_, .ref ns_, .ref nc_, .ref nl_, .ref nt_, .ref nh_, .int fallen_])), (ns_, .inl (cy 0, 8, .inl (fs_))), (nc_, .inl (cy 0, 8, .inl (fc_))), (nl_, .inl (cy 0, 8, .inl (fl_))), (nd_, .inr (0, [.int lines_, .int columns_, .int levels_, .int things_, .int walkers_, .ref nw_, .ref nr_, .ref nq_, hangs_, frees_]))] H := hP
            have hD := va_ca hP hD
            have hl : lv_has ls 3 [(2, .int v206400_), (0, .ref no_), (1, .int t_)] := hl
            exact rI hX hE hP hD hS dX6_whyNotTake_74 (by decide) (by decide) ⟨(Or.inr (Or.inl ⟨v10220_, v206400_, v207400_, c1_, c12_, ev10220_, c23_, hR3_, hR4_, rfl⟩)), rfl, (rg_w rv207400_ (by decide) (by decide))⟩
          refine lv_if_eq (tgt := 73) hx hb dX6_whyNotTake_66 (by decide) (fun c66_ => ?_) (fun c66_ => ?_)
          · have g5_ : rg (0) (0) v206400_ := rg_eq c66_ (rg_lit (by decide) : rg (0) (0) (0 : Int32))
            refine lv_iconst (v := 0) hx hb dX6_whyNotTake_73 (by decide) ?_
            exact j74_ 0 _ _ ls ⟨(rg_w (rg_lit (by decide) : rg (0) (0) (0 : Int32)) (by decide) (by decide)), (Or.inl ⟨c66_, rfl⟩)⟩ hP hD hS (lv_sub hl [0, 1, 2] rfl)
          · have g6_ : rg (1) (1) v206400_ := rg_ne1 c66_ rv206400_ (by decide) (by decide)
            refine lv_iconst (v := 3) hx hb dX6_whyNotTake_69 (by decide) ?_
            refine lv_goto (tgt := 74) hx hb dX6_whyNotTake_70 (by decide) ?_
            exact j74_ 3 _ _ ls ⟨(rg_w (rg_lit (by decide) : rg (3) (3) (3 : Int32)) (by decide) (by decide)), (Or.inr (Or.inl ⟨c66_, rfl⟩))⟩ hP hD hS (lv_sub hl [0, 1, 2] rfl)
        refine joinT (D := D) (A := A) (pc := 63) (mL := 3) (τ := Unit) (WS := fun i => [(no_, .inr (6, [.ref nd_, .int hour_, .ref ns_, .ref nc_, .ref nl_, .ref nt_, .ref nh_, .int fallen_])), (ns_, .inl (cy 0, 8, .inl (fs_))), (nc_, .inl (cy 0, 8, .inl (fc_))), (nl_, .inl (cy 0, 8, .inl (fl_))), (nd_, .inr (0, [.int lines_, .int columns_, .int levels_, .int things_, .int walkers_, .ref nw_, .ref nr_, .ref nq_, hangs_, frees_]))]) (LV := fun i => [(0, .ref no_), (1, .int t_)]) (ST := fun i => []) (cells := 0) (slots := 0) (fun i => R_X6_whyNotTake_j5 v10220_ fl_ t_ fc_ things_ fs_) (fun u0_ H locs ls hI hP hD hS hl => ?_) (fun j63_ => ?_)
        · have hI : R_X6_whyNotTake_j5 v10220_ fl_ t_ fc_ things_ fs_ := hI
          have hR5_ := hI
          have hP : va_P D vwCl [(no_, .inr (6, [.ref nd_, .int hour_, .ref ns_, .ref nc_, .ref nl_, .ref nt_, .ref nh_, .int fallen_])), (ns_, .inl (cy 0, 8, .inl (fs_))), (nc_, .inl (cy 0, 8, .inl (fc_))), (nl_, .inl (cy 0, 8, .inl (fl_))), (nd_, .inr (0, [.int lines_, .int columns_, .int levels_, .int things_, .int walkers_, .ref nw_, .ref nr_, .ref nq_, hangs_, frees_]))] H := hP
          have hD := va_ca hP hD
          have hl : lv_has ls 3 [(0, .ref no_), (1, .int t_)] := hl
          refine lv_iconst (v := 0) hx hb dX6_whyNotTake_63 (by decide) ?_
          exact j64_ 0 _ _ ls ⟨(rg_w (rg_lit (by decide) : rg (0) (0) (0 : Int32)) (by decide) (by decide)), (Or.inl ⟨hR5_, rfl⟩)⟩ hP hD hS (lv_sub hl [0, 1] rfl)
        refine lv_icmp_ne (tgt := 63) hx hb dX6_whyNotTake_35 (by decide) (fun c35_ => ?_) (fun c35_ => ?_)
        · exact j63_ () _ _ ls (Or.inl c35_) hP hD hS (lv_sub hl [0, 1] rfl)
        · have g7_ : rg (2) (2) v10220_ := rg_eq c35_ (rg_lit (by decide) : rg (2) (2) (2 : Int32))
          refine lv_aload_n hx hb dX6_whyNotTake_38 rfl (lv_at hl 0 rfl) ?_
          refine va_get (ci := 6) (v := .ref nl_) (C := RX6) (T := TX6) (N := 8) hx hb htA in_X6 hown hK hP 0 rfl rfl 4 (by decide) (htA _ wd_181) (fun _ h => h) rfl dX6_whyNotTake_39 ?_
          refine lv_iload_n hx hb dX6_whyNotTake_42 rfl (lv_at hl 1 rfl) ?_
          refine va_iald hx hb hK hP 3 0 rfl rfl (rg_in g3_ (by decide) (by decide)) dX6_whyNotTake_43 ?_
          refine lv_topi (fun v10430_ ev10430_ => ?_)
          refine lv_iconst (v := 1) hx hb dX6_whyNotTake_44 (by decide) ?_
          refine lv_iadd hx hb dX6_whyNotTake_45 ?_
          refine lv_aload_n hx hb dX6_whyNotTake_46 rfl (lv_at hl 0 rfl) ?_
          refine lv_aload_n hx hb dX6_whyNotTake_47 rfl (lv_at hl 0 rfl) ?_
          refine va_get (ci := 6) (v := .ref nc_) (C := RX6) (T := TX6) (N := 8) hx hb htA in_X6 hown hK hP 0 rfl rfl 3 (by decide) (htA _ wd_178) (fun _ h => h) rfl dX6_whyNotTake_48 ?_
          refine lv_iload_n hx hb dX6_whyNotTake_51 rfl (lv_at hl 1 rfl) ?_
          refine va_iald hx hb hK hP 2 0 rfl rfl (rg_in g3_ (by decide) (by decide)) dX6_whyNotTake_52 ?_
          refine lv_topi (fun v10520_ ev10520_ => ?_)
          refine kVi (As := [.int v10520_]) (rest := [.int (v10430_ + 1)]) (wr := [(nl_, .inl (cy 0, 8, .inl (fl_)))]) hX hE (sf_X6_lying l D cy no_ nd_ hour_ ns_ nc_ nl_ nt_ nh_ fallen_ fs_ fc_ lines_ columns_ levels_ things_ walkers_ nw_ nr_ nq_ hangs_ frees_ v10520_ (rg_w rcolumns_ (by decide) (by decide)) (rg_w rlevels_ (by decide) (by decide)) (rg_w g4_ (by decide) (by decide)) (rg_w rwalkers_ (by decide) (by decide))) (cwVA 1 htA wd_379 wd_376 wd_6 wd_377 wd_378 (by decide +kernel) ⟨by decide, by decide⟩) hP hD hS [0, 1, 2, 4] [3] rfl rfl (by decide +kernel) 0 rfl rfl rfl rfl hl.1 rfl (Nat.le_of_ble_eq_true rfl) dX6_whyNotTake_53 (by decide) (fun v10530_ W1 H locs hw hP hD hS => ?_)
          refine W.widen (k := 0) (n := 0) (by decide) (by decide) ?_
          obtain ⟨k53_0_, rfl⟩ := hw
          have hP : va_P D vwCl [(nl_, .inl (cy 0, 8, .inl (fl_))), (no_, .inr (6, [.ref nd_, .int hour_, .ref ns_, .ref nc_, .ref nl_, .ref nt_, .ref nh_, .int fallen_])), (ns_, .inl (cy 0, 8, .inl (fs_))), (nc_, .inl (cy 0, 8, .inl (fc_))), (nd_, .inr (0, [.int lines_, .int columns_, .int levels_, .int things_, .int walkers_, .ref nw_, .ref nr_, .ref nq_, hangs_, frees_]))] H := hP
          have hD := va_ca hP hD
          refine lv_icmp_ge (tgt := 63) hx hb dX6_whyNotTake_56 (by decide) (fun c56_ => ?_) (fun c56_ => ?_)
          · have hP : va_P D vwCl [(no_, .inr (6, [.ref nd_, .int hour_, .ref ns_, .ref nc_, .ref nl_, .ref nt_, .ref nh_, .int fallen_])), (ns_, .inl (cy 0, 8, .inl (fs_))), (nc_, .inl (cy 0, 8, .inl (fc_))), (nl_, .inl (cy 0, 8, .inl (fl_))), (nd_, .inr (0, [.int lines_, .int columns_, .int levels_, .int things_, .int walkers_, .ref nw_, .ref nr_, .ref nq_, hangs_, frees_]))] H := hP.sub [1, 2, 3, 0, 4] rfl
            have hD : va_D A [(no_, .inr (6, [.ref nd_, .int hour_, .ref ns_, .ref nc_, .ref nl_, .ref nt_, .ref nh_, .int fallen_])), (ns_, .inl (cy 0, 8, .inl (fs_))), (nc_, .inl (cy 0, 8, .inl (fc_))), (nl_, .inl (cy 0, 8, .inl (fl_))), (nd_, .inr (0, [.int lines_, .int columns_, .int levels_, .int things_, .int walkers_, .ref nw_, .ref nr_, .ref nq_, hangs_, frees_]))] := hD.sub [1, 2, 3, 0, 4] (by decide +kernel) rfl
            exact j63_ () _ _ ls (Or.inr (Or.inl ⟨v10430_, v10520_, v10530_, c35_, ev10430_, ev10520_, k53_0_, c56_⟩)) hP hD hS (lv_sub hl [0, 1] rfl)
          · have g8_ : rg (-2147483648) (2147483646) (v10430_ + 1) := rg_lt1 (rg_nle c56_) (rg_any _) (rg_any _) (by decide)
            have g9_ : rg (-2147483647) (2147483647) v10530_ := rg_lt2 (rg_nle c56_) (rg_any _) (rg_any _) (by decide)
            refine lv_iconst (v := 1) hx hb dX6_whyNotTake_59 (by decide) ?_
            refine lv_goto (tgt := 64) hx hb dX6_whyNotTake_60 (by decide) ?_
            have hP : va_P D vwCl [(no_, .inr (6, [.ref nd_, .int hour_, .ref ns_, .ref nc_, .ref nl_, .ref nt_, .ref nh_, .int fallen_])), (ns_, .inl (cy 0, 8, .inl (fs_))), (nc_, .inl (cy 0, 8, .inl (fc_))), (nl_, .inl (cy 0, 8, .inl (fl_))), (nd_, .inr (0, [.int lines_, .int columns_, .int levels_, .int things_, .int walkers_, .ref nw_, .ref nr_, .ref nq_, hangs_, frees_]))] H := hP.sub [1, 2, 3, 0, 4] rfl
            have hD : va_D A [(no_, .inr (6, [.ref nd_, .int hour_, .ref ns_, .ref nc_, .ref nl_, .ref nt_, .ref nh_, .int fallen_])), (ns_, .inl (cy 0, 8, .inl (fs_))), (nc_, .inl (cy 0, 8, .inl (fc_))), (nl_, .inl (cy 0, 8, .inl (fl_))), (nd_, .inr (0, [.int lines_, .int columns_, .int levels_, .int things_, .int walkers_, .ref nw_, .ref nr_, .ref nq_, hangs_, frees_]))] := hD.sub [1, 2, 3, 0, 4] (by decide +kernel) rfl
            exact j64_ 1 _ _ ls ⟨(rg_w (rg_lit (by decide) : rg (1) (1) (1 : Int32)) (by decide) (by decide)), (Or.inr (Or.inl ⟨v10430_, v10520_, v10530_, c35_, ev10430_, ev10520_, k53_0_, c56_, rfl⟩))⟩ hP hD hS (lv_sub hl [0, 1] rfl)
      · have g10_ : rg (0) (0) v10220_ := rg_eq c23_ (rg_lit (by decide) : rg (0) (0) (0 : Int32))
        refine lv_iconst (v := 2) hx hb dX6_whyNotTake_26 (by decide) ?_
        exact rI hX hE hP hD hS dX6_whyNotTake_27 (by decide) (by decide) ⟨(Or.inr (Or.inr (Or.inl ⟨v10220_, c1_, c12_, ev10220_, c23_, rfl⟩))), rfl, (rg_w (rg_lit (by decide) : rg (2) (2) (2 : Int32)) (by decide) (by decide))⟩
    · exact j15_ () _ _ ls (Or.inr (Or.inl ⟨c1_, c12_⟩)) hP hD hS (lv_sub hl [0, 1] rfl)
def R_X6_pickUp_e (fs_ : Nat → Int32) (t_ : Int32) (ft_ : Nat → Int32) (hour_ : Int32) (x0_ : Nat → Int32) (x1_ : Nat → Int32) : Prop := (x0_ = upd fs_ t_.toNatClampNeg 0 ∧ x1_ = upd ft_ t_.toNatClampNeg hour_) ∨ False
set_option maxHeartbeats 4000000 in
set_option maxRecDepth 100000 in
theorem sf_X6_pickUp (l : Launch) (D : va_G) (cy : Nat → ClassId) (no_ : Nat) (nd_ : Nat) (hour_ : Int32) (ns_ : Nat) (nc_ : Nat) (nl_ : Nat) (nt_ : Nat) (nh_ : Nat) (fallen_ : Int32) (fs_ : Nat → Int32) (ft_ : Nat → Int32) (t_ : Int32) (rt_ : rg (0) (7) t_) : Cv l yX6_pickUp cX6_pickUp 2 none { frames := 0, cells := 0, slots := 0, locals := 0 } D cy [.ref no_, .int t_] [(no_, .inr (6, [.ref nd_, .int hour_, .ref ns_, .ref nc_, .ref nl_, .ref nt_, .ref nh_, .int fallen_])), (ns_, .inl (cy 0, 8, .inl (fs_))), (nt_, .inl (cy 0, 8, .inl (ft_)))] (fun W1 => ∃ (x0_ : Nat → Int32) (x1_ : Nat → Int32), R_X6_pickUp_e fs_ t_ ft_ hour_ x0_ x1_ ∧ W1 = [(no_, .inr (6, [.ref nd_, .int hour_, .ref ns_, .ref nc_, .ref nl_, .ref nt_, .ref nh_, .int fallen_])), (ns_, .inl (cy 0, 8, .inl (x0_))), (nt_, .inl (cy 0, 8, .inl (x1_)))]) := by
  refine Cv.of (by decide) (Nat.le_of_ble_eq_true rfl) ?_
  intro p e s m below meth c A ls hX hE hP hD hl hin
  obtain ⟨hx, hb, hr, hml, hown, htA, hlk⟩ := id hX
  have hK := hE.1
  have hS : va_S A s.heap s.heap [] := va_S.rf
  have hl : lv_has ls 2 [(0, .ref no_), (1, .int t_)] := hl
  refine lv_aload_n hx hb dX6_pickUp_0 rfl (lv_at hl 0 rfl) ?_
  refine va_get (ci := 6) (v := .ref ns_) (C := RX6) (T := TX6) (N := 8) hx hb htA in_X6 hown hK hP 0 rfl rfl 2 (by decide) (htA _ wd_174) (fun _ h => h) rfl dX6_pickUp_1 ?_
  refine lv_iload_n hx hb dX6_pickUp_4 rfl (lv_at hl 1 rfl) ?_
  refine lv_iconst (v := 0) hx hb dX6_pickUp_5 (by decide) ?_
  refine va_iast hx hb hK hP hD hS 1 0 rfl rfl (rg_in rt_ (by decide) (by decide)) dX6_pickUp_6 (fun H locs hP hD hS => ?_)
  have hP : va_P D vwCl [(no_, .inr (6, [.ref nd_, .int hour_, .ref ns_, .ref nc_, .ref nl_, .ref nt_, .ref nh_, .int fallen_])), (ns_, .inl (cy 0, 8, .inl (upd fs_ t_.toNatClampNeg 0))), (nt_, .inl (cy 0, 8, .inl (ft_)))] H := hP
  have hD := va_ca hP hD
  refine lv_aload_n hx hb dX6_pickUp_7 rfl (lv_at hl 0 rfl) ?_
  refine va_get (ci := 6) (v := .ref nt_) (C := RX6) (T := TX6) (N := 8) hx hb htA in_X6 hown hK hP 0 rfl rfl 5 (by decide) (htA _ wd_184) (fun _ h => h) rfl dX6_pickUp_8 ?_
  refine lv_iload_n hx hb dX6_pickUp_11 rfl (lv_at hl 1 rfl) ?_
  refine lv_aload_n hx hb dX6_pickUp_12 rfl (lv_at hl 0 rfl) ?_
  refine va_get (ci := 6) (v := .int hour_) (C := RX6) (T := TX6) (N := 8) hx hb htA in_X6 hown hK hP 0 rfl rfl 1 (by decide) (htA _ wd_170) (fun _ h => h) rfl dX6_pickUp_13 ?_
  refine va_iast hx hb hK hP hD hS 2 0 rfl rfl (rg_in rt_ (by decide) (by decide)) dX6_pickUp_16 (fun H locs hP hD hS => ?_)
  have hP : va_P D vwCl [(no_, .inr (6, [.ref nd_, .int hour_, .ref ns_, .ref nc_, .ref nl_, .ref nt_, .ref nh_, .int fallen_])), (ns_, .inl (cy 0, 8, .inl (upd fs_ t_.toNatClampNeg 0))), (nt_, .inl (cy 0, 8, .inl (upd ft_ t_.toNatClampNeg hour_)))] H := hP
  have hD := va_ca hP hD
  exact rV hX hE hP hD hS dX6_pickUp_17 (by decide) (by decide) ⟨(upd fs_ t_.toNatClampNeg 0), (upd ft_ t_.toNatClampNeg hour_), (Or.inl ⟨rfl, rfl⟩), rfl⟩
def R_X6_dueIn_j3 (v10230_ : Int32) (v200501_ : Int32) (fc_ : Nat → Int32) (v200500_ : Int32) (c_ : Int32) (ft_ : Nat → Int32) (latest_ : Int32) (v205700_ : Int32) : Prop := (¬ v10230_ = (1 : Int32) ∧ v205700_ = v200501_) ∨ (∃ (v10340_ : Int32), v10230_ = (1 : Int32) ∧ v10340_ = fc_ v200500_.toNatClampNeg ∧ ¬ v10340_ = c_ ∧ v205700_ = v200501_) ∨ (∃ (v10340_ : Int32) (v10450_ : Int32), v10230_ = (1 : Int32) ∧ v10340_ = fc_ v200500_.toNatClampNeg ∧ v10340_ = c_ ∧ v10450_ = ft_ v200500_.toNatClampNeg ∧ latest_ < v10450_ ∧ v205700_ = v200501_) ∨ (∃ (v10340_ : Int32) (v10450_ : Int32), v10230_ = (1 : Int32) ∧ v10340_ = fc_ v200500_.toNatClampNeg ∧ v10340_ = c_ ∧ v10450_ = ft_ v200500_.toNatClampNeg ∧ ¬ (latest_ < v10450_) ∧ v205700_ = v200501_ ||| (1 <<< (v200500_ &&& 31))) ∨ False
def R_X6_dueIn_b1 (things_ : Int32) (fs_ : Nat → Int32) (fc_ : Nat → Int32) (c_ : Int32) (ft_ : Nat → Int32) (latest_ : Int32) (uZ_ vZ_ : Int32 × Int32) : Prop := (∃ (v10230_ : Int32) (v205700_ : Int32), ¬ (things_ ≤ uZ_.1) ∧ v10230_ = fs_ uZ_.1.toNatClampNeg ∧ R_X6_dueIn_j3 v10230_ uZ_.2 fc_ uZ_.1 c_ ft_ latest_ v205700_ ∧ vZ_ = (uZ_.1 + 1, v205700_)) ∨ False
def R_X6_dueIn_e (things_ : Int32) (fs_ : Nat → Int32) (fc_ : Nat → Int32) (c_ : Int32) (ft_ : Nat → Int32) (latest_ : Int32) (r : Int32) : Prop := (∃ (v200500_ : Int32) (v200501_ : Int32), Itr (R_X6_dueIn_b1 things_ fs_ fc_ c_ ft_ latest_) (0, 0) (v200500_, v200501_) ∧ things_ ≤ v200500_ ∧ r = v200501_) ∨ False
set_option maxHeartbeats 4000000 in
set_option maxRecDepth 100000 in
theorem sf_X6_dueIn (l : Launch) (D : va_G) (cy : Nat → ClassId) (no_ : Nat) (nd_ : Nat) (hour_ : Int32) (ns_ : Nat) (nc_ : Nat) (nl_ : Nat) (nt_ : Nat) (nh_ : Nat) (fallen_ : Int32) (fs_ : Nat → Int32) (fc_ : Nat → Int32) (ft_ : Nat → Int32) (lines_ : Int32) (columns_ : Int32) (levels_ : Int32) (things_ : Int32) (walkers_ : Int32) (nw_ : Nat) (nr_ : Nat) (nq_ : Nat) (hangs_ : Value) (frees_ : Value) (c_ : Int32) (latest_ : Int32) (rcolumns_ : rg (1) (6) columns_) (rlevels_ : rg (1) (9) levels_) (rthings_ : rg (0) (8) things_) (rwalkers_ : rg (0) (4) walkers_) : Ci l yX6_dueIn cX6_dueIn 5 (some .int) { frames := 0, cells := 0, slots := 0, locals := 0 } D cy [.ref no_, .int c_, .int latest_] [(no_, .inr (6, [.ref nd_, .int hour_, .ref ns_, .ref nc_, .ref nl_, .ref nt_, .ref nh_, .int fallen_])), (ns_, .inl (cy 0, 8, .inl (fs_))), (nc_, .inl (cy 0, 8, .inl (fc_))), (nt_, .inl (cy 0, 8, .inl (ft_))), (nd_, .inr (0, [.int lines_, .int columns_, .int levels_, .int things_, .int walkers_, .ref nw_, .ref nr_, .ref nq_, hangs_, frees_]))] (fun r W1 => R_X6_dueIn_e things_ fs_ fc_ c_ ft_ latest_ r ∧ W1 = [(no_, .inr (6, [.ref nd_, .int hour_, .ref ns_, .ref nc_, .ref nl_, .ref nt_, .ref nh_, .int fallen_])), (ns_, .inl (cy 0, 8, .inl (fs_))), (nc_, .inl (cy 0, 8, .inl (fc_))), (nt_, .inl (cy 0, 8, .inl (ft_))), (nd_, .inr (0, [.int lines_, .int columns_, .int levels_, .int things_, .int walkers_, .ref nw_, .ref nr_, .ref nq_, hangs_, frees_]))]) := by
  refine Ci.of (by decide) (Nat.le_of_ble_eq_true rfl) ?_
  intro p e s m below meth c A ls hX hE hP hD hl
  obtain ⟨hx, hb, hr, hml, hown, htA, hlk⟩ := id hX
  have hK := hE.1
  have hS : va_S A s.heap s.heap [] := va_S.rf
  have hl : lv_has ls 5 [(0, .ref no_), (1, .int c_), (2, .int latest_)] := hl
  refine lv_iconst (v := 0) hx hb dX6_dueIn_0 (by decide) ?_
  refine lv_istore_n (lv' := [(3, .int 0), (0, .ref no_), (1, .int c_), (2, .int latest_)]) hx hb dX6_dueIn_1 rfl hl (by decide) rfl (fun ls hl => ?_)
  refine lv_iconst (v := 0) hx hb dX6_dueIn_2 (by decide) ?_
  refine lv_istore (lv' := [(4, .int 0), (3, .int 0), (0, .ref no_), (1, .int c_), (2, .int latest_)]) hx hb dX6_dueIn_3 hl (by decide) rfl (fun ls hl => ?_)
  refine loopT (τ := Int32 × Int32) (WS := fun i => [(no_, .inr (6, [.ref nd_, .int hour_, .ref ns_, .ref nc_, .ref nl_, .ref nt_, .ref nh_, .int fallen_])), (ns_, .inl (cy 0, 8, .inl (fs_))), (nc_, .inl (cy 0, 8, .inl (fc_))), (nt_, .inl (cy 0, 8, .inl (ft_))), (nd_, .inr (0, [.int lines_, .int columns_, .int levels_, .int things_, .int walkers_, .ref nw_, .ref nr_, .ref nq_, hangs_, frees_]))]) (LV := fun i => [(4, .int i.1), (3, .int i.2), (0, .ref no_), (1, .int c_), (2, .int latest_)]) (fun i => (9 - i.1.toInt).toNat) (fun i => rg (0) (8) i.1 ∧ Itr (R_X6_dueIn_b1 things_ fs_ fc_ c_ ft_ latest_) (0, 0) (i.1, i.2)) ?_ (0, 0) ⟨(rg_w (rg_lit (by decide) : rg (0) (0) (0 : Int32)) (by decide) (by decide)), (Itr.rf _ _)⟩ hP hD hS (lv_sub hl [0, 1, 2, 3, 4] rfl)
  intro i_ H locs ls hI ih5_ hP hD hS hl
  obtain ⟨v200500_, v200501_⟩ := i_
  have hI : rg (0) (8) v200500_ ∧ Itr (R_X6_dueIn_b1 things_ fs_ fc_ c_ ft_ latest_) (0, 0) (v200500_, v200501_) := hI
  obtain ⟨rv200500_, hR1_⟩ := hI
  have hP : va_P D vwCl [(no_, .inr (6, [.ref nd_, .int hour_, .ref ns_, .ref nc_, .ref nl_, .ref nt_, .ref nh_, .int fallen_])), (ns_, .inl (cy 0, 8, .inl (fs_))), (nc_, .inl (cy 0, 8, .inl (fc_))), (nt_, .inl (cy 0, 8, .inl (ft_))), (nd_, .inr (0, [.int lines_, .int columns_, .int levels_, .int things_, .int walkers_, .ref nw_, .ref nr_, .ref nq_, hangs_, frees_]))] H := hP
  have hD := va_ca hP hD
  have hl : lv_has ls 5 [(4, .int v200500_), (3, .int v200501_), (0, .ref no_), (1, .int c_), (2, .int latest_)] := hl
  refine lv_iload hx hb dX6_dueIn_5 (lv_at hl 0 rfl) ?_
  refine lv_aload_n hx hb dX6_dueIn_7 rfl (lv_at hl 2 rfl) ?_
  refine va_get (ci := 6) (v := .ref nd_) (C := RX6) (T := TX6) (N := 8) hx hb htA in_X6 hown hK hP 0 rfl rfl 0 (by decide) (htA _ wd_166) (fun _ h => h) rfl dX6_dueIn_8 ?_
  refine va_get (ci := 0) (v := .int things_) (C := RX0) (T := TX0) (N := 10) hx hb htA in_X0 hown hK hP 4 rfl rfl 3 (by decide) (htA _ wd_86) (fun _ h => h) rfl dX6_dueIn_11 ?_
  refine lv_icmp_ge (tgt := 63) hx hb dX6_dueIn_14 (by decide) (fun c14_ => ?_) (fun c14_ => ?_)
  · refine lv_iload_n hx hb dX6_dueIn_63 rfl (lv_at hl 1 rfl) ?_
    exact rI hX hE hP hD hS dX6_dueIn_64 (by decide) (by decide) ⟨(Or.inl ⟨v200500_, v200501_, hR1_, c14_, rfl⟩), rfl⟩
  · have g1_ : rg (0) (7) v200500_ := rg_lt1 (rg_nle c14_) rv200500_ rthings_ (by decide)
    have g2_ : rg (1) (8) things_ := rg_lt2 (rg_nle c14_) rv200500_ rthings_ (by decide)
    refine lv_aload_n hx hb dX6_dueIn_17 rfl (lv_at hl 2 rfl) ?_
    refine va_get (ci := 6) (v := .ref ns_) (C := RX6) (T := TX6) (N := 8) hx hb htA in_X6 hown hK hP 0 rfl rfl 2 (by decide) (htA _ wd_174) (fun _ h => h) rfl dX6_dueIn_18 ?_
    refine lv_iload hx hb dX6_dueIn_21 (lv_at hl 0 rfl) ?_
    refine va_iald hx hb hK hP 1 0 rfl rfl (rg_in g1_ (by decide) (by decide)) dX6_dueIn_23 ?_
    refine lv_topi (fun v10230_ ev10230_ => ?_)
    refine lv_iconst (v := 1) hx hb dX6_dueIn_24 (by decide) ?_
    refine joinT (D := D) (A := A) (pc := 57) (mL := 5) (τ := Int32) (WS := fun i => [(no_, .inr (6, [.ref nd_, .int hour_, .ref ns_, .ref nc_, .ref nl_, .ref nt_, .ref nh_, .int fallen_])), (ns_, .inl (cy 0, 8, .inl (fs_))), (nc_, .inl (cy 0, 8, .inl (fc_))), (nt_, .inl (cy 0, 8, .inl (ft_))), (nd_, .inr (0, [.int lines_, .int columns_, .int levels_, .int things_, .int walkers_, .ref nw_, .ref nr_, .ref nq_, hangs_, frees_]))]) (LV := fun i => [(4, .int v200500_), (3, .int i), (0, .ref no_), (1, .int c_), (2, .int latest_)]) (ST := fun i => []) (cells := 0) (slots := 0) (fun i => R_X6_dueIn_j3 v10230_ v200501_ fc_ v200500_ c_ ft_ latest_ i) (fun v205700_ H locs ls hI hP hD hS hl => ?_) (fun j57_ => ?_)
    · have hI : R_X6_dueIn_j3 v10230_ v200501_ fc_ v200500_ c_ ft_ latest_ v205700_ := hI
      have hR3_ := hI
      have hP : va_P D vwCl [(no_, .inr (6, [.ref nd_, .int hour_, .ref ns_, .ref nc_, .ref nl_, .ref nt_, .ref nh_, .int fallen_])), (ns_, .inl (cy 0, 8, .inl (fs_))), (nc_, .inl (cy 0, 8, .inl (fc_))), (nt_, .inl (cy 0, 8, .inl (ft_))), (nd_, .inr (0, [.int lines_, .int columns_, .int levels_, .int things_, .int walkers_, .ref nw_, .ref nr_, .ref nq_, hangs_, frees_]))] H := hP
      have hD := va_ca hP hD
      have hl : lv_has ls 5 [(4, .int v200500_), (3, .int v205700_), (0, .ref no_), (1, .int c_), (2, .int latest_)] := hl
      refine lv_iinc (v := v200500_ + 1) (lv' := [(4, .int (v200500_ + 1)), (3, .int v205700_), (0, .ref no_), (1, .int c_), (2, .int latest_)]) hx hb dX6_dueIn_57 hl (k := 0) rfl rfl (by decide) rfl (fun ls hl => ?_)
      have g3_ : rg (1) (8) (v200500_ + 1) := rg_add g1_ (rg_lit (by decide) : rg (1) (1) (1 : Int32)) (by decide) (by decide) (by decide) (by decide)
      refine lv_goto (tgt := 5) hx hb dX6_dueIn_60 (by decide) ?_
      exact ih5_ (v200500_ + 1, v205700_) _ _ ls ⟨(rg_w g3_ (by decide) (by decide)), (Itr.st hR1_ (Or.inl ⟨v10230_, v205700_, c14_, ev10230_, hR3_, rfl⟩))⟩ (show (9 - (v200500_ + 1).toInt).toNat < (9 - v200500_.toInt).toNat from by rw [show (v200500_ + 1).toInt = v200500_.toInt + 1 from inc32 v200500_ (by have hq := (rv200500_).2; omega)]; have hq := (g1_).1; have hq2 := (g1_).2; omega) hP hD hS (lv_sub hl [0, 1, 2, 3, 4] rfl)
    refine lv_icmp_ne (tgt := 57) hx hb dX6_dueIn_25 (by decide) (fun c25_ => ?_) (fun c25_ => ?_)
    · exact j57_ v200501_ _ _ ls (Or.inl ⟨c25_, rfl⟩) hP hD hS (lv_sub hl [0, 1, 2, 3, 4] rfl)
    · have g4_ : rg (1) (1) v10230_ := rg_eq c25_ (rg_lit (by decide) : rg (1) (1) (1 : Int32))
      refine lv_aload_n hx hb dX6_dueIn_28 rfl (lv_at hl 2 rfl) ?_
      refine va_get (ci := 6) (v := .ref nc_) (C := RX6) (T := TX6) (N := 8) hx hb htA in_X6 hown hK hP 0 rfl rfl 3 (by decide) (htA _ wd_178) (fun _ h => h) rfl dX6_dueIn_29 ?_
      refine lv_iload hx hb dX6_dueIn_32 (lv_at hl 0 rfl) ?_
      refine va_iald hx hb hK hP 2 0 rfl rfl (rg_in g1_ (by decide) (by decide)) dX6_dueIn_34 ?_
      refine lv_topi (fun v10340_ ev10340_ => ?_)
      refine lv_iload_n hx hb dX6_dueIn_35 rfl (lv_at hl 3 rfl) ?_
      refine lv_icmp_ne (tgt := 57) hx hb dX6_dueIn_36 (by decide) (fun c36_ => ?_) (fun c36_ => ?_)
      · exact j57_ v200501_ _ _ ls (Or.inr (Or.inl ⟨v10340_, c25_, ev10340_, c36_, rfl⟩)) hP hD hS (lv_sub hl [0, 1, 2, 3, 4] rfl)
      · refine lv_aload_n hx hb dX6_dueIn_39 rfl (lv_at hl 2 rfl) ?_
        refine va_get (ci := 6) (v := .ref nt_) (C := RX6) (T := TX6) (N := 8) hx hb htA in_X6 hown hK hP 0 rfl rfl 5 (by decide) (htA _ wd_184) (fun _ h => h) rfl dX6_dueIn_40 ?_
        refine lv_iload hx hb dX6_dueIn_43 (lv_at hl 0 rfl) ?_
        refine va_iald hx hb hK hP 3 0 rfl rfl (rg_in g1_ (by decide) (by decide)) dX6_dueIn_45 ?_
        refine lv_topi (fun v10450_ ev10450_ => ?_)
        refine lv_iload_n hx hb dX6_dueIn_46 rfl (lv_at hl 4 rfl) ?_
        refine lv_icmp_gt (tgt := 57) hx hb dX6_dueIn_47 (by decide) (fun c47_ => ?_) (fun c47_ => ?_)
        · have g5_ : rg (-2147483648) (2147483646) latest_ := rg_lt1 c47_ (rg_any _) (rg_any _) (by decide)
          have g6_ : rg (-2147483647) (2147483647) v10450_ := rg_lt2 c47_ (rg_any _) (rg_any _) (by decide)
          exact j57_ v200501_ _ _ ls (Or.inr (Or.inr (Or.inl ⟨v10340_, v10450_, c25_, ev10340_, c36_, ev10450_, c47_, rfl⟩))) hP hD hS (lv_sub hl [0, 1, 2, 3, 4] rfl)
        · refine lv_iload_n hx hb dX6_dueIn_50 rfl (lv_at hl 1 rfl) ?_
          refine lv_iconst (v := 1) hx hb dX6_dueIn_51 (by decide) ?_
          refine lv_iload hx hb dX6_dueIn_52 (lv_at hl 0 rfl) ?_
          refine lv_ishl hx hb dX6_dueIn_54 ?_
          refine lv_ior hx hb dX6_dueIn_55 ?_
          refine lv_istore_n (lv' := [(3, .int (v200501_ ||| (1 <<< (v200500_ &&& 31)))), (4, .int v200500_), (0, .ref no_), (1, .int c_), (2, .int latest_)]) hx hb dX6_dueIn_56 rfl hl (by decide) rfl (fun ls hl => ?_)
          exact j57_ (v200501_ ||| (1 <<< (v200500_ &&& 31))) _ _ ls (Or.inr (Or.inr (Or.inr (Or.inl ⟨v10340_, v10450_, c25_, ev10340_, c36_, ev10450_, c47_, rfl⟩)))) hP hD hS (lv_sub hl [1, 0, 2, 3, 4] rfl)
def R_X6_copyFrom_e (fsB_ : Nat → Int32) (fs_ : Nat → Int32) (fcB_ : Nat → Int32) (fc_ : Nat → Int32) (flB_ : Nat → Int32) (fl_ : Nat → Int32) (ftB_ : Nat → Int32) (ft_ : Nat → Int32) (fhB_ : Nat → Int32) (fh_ : Nat → Int32) (x0_ : Nat → Int32) (x1_ : Nat → Int32) (x2_ : Nat → Int32) (x3_ : Nat → Int32) (x4_ : Nat → Int32) : Prop := (x0_ = va_cpy (fsB_) (fs_) (0 : Int32).toNatClampNeg (0 : Int32).toNatClampNeg (8 : Int32).toNatClampNeg ∧ x1_ = va_cpy (fcB_) (fc_) (0 : Int32).toNatClampNeg (0 : Int32).toNatClampNeg (8 : Int32).toNatClampNeg ∧ x2_ = va_cpy (flB_) (fl_) (0 : Int32).toNatClampNeg (0 : Int32).toNatClampNeg (8 : Int32).toNatClampNeg ∧ x3_ = va_cpy (ftB_) (ft_) (0 : Int32).toNatClampNeg (0 : Int32).toNatClampNeg (8 : Int32).toNatClampNeg ∧ x4_ = va_cpy (fhB_) (fh_) (0 : Int32).toNatClampNeg (0 : Int32).toNatClampNeg (4 : Int32).toNatClampNeg) ∨ False
set_option maxHeartbeats 4000000 in
set_option maxRecDepth 100000 in
theorem sf_X6_copyFrom (l : Launch) (D : va_G) (cy : Nat → ClassId) (no_ : Nat) (nd_ : Nat) (hour_ : Int32) (ns_ : Nat) (nc_ : Nat) (nl_ : Nat) (nt_ : Nat) (nh_ : Nat) (fallen_ : Int32) (fs_ : Nat → Int32) (fc_ : Nat → Int32) (fl_ : Nat → Int32) (ft_ : Nat → Int32) (fh_ : Nat → Int32) (noB_ : Nat) (ndB_ : Nat) (hourB_ : Int32) (nsB_ : Nat) (ncB_ : Nat) (nlB_ : Nat) (ntB_ : Nat) (nhB_ : Nat) (fallenB_ : Int32) (fsB_ : Nat → Int32) (fcB_ : Nat → Int32) (flB_ : Nat → Int32) (ftB_ : Nat → Int32) (fhB_ : Nat → Int32) : Cv l yX6_copyFrom cX6_copyFrom 2 none { frames := 1, cells := 0, slots := 0, locals := 60 } D cy [.ref no_, .ref noB_] [(no_, .inr (6, [.ref nd_, .int hour_, .ref ns_, .ref nc_, .ref nl_, .ref nt_, .ref nh_, .int fallen_])), (ns_, .inl (cy 0, 8, .inl (fs_))), (nc_, .inl (cy 0, 8, .inl (fc_))), (nl_, .inl (cy 0, 8, .inl (fl_))), (nt_, .inl (cy 0, 8, .inl (ft_))), (nh_, .inl (cy 0, 4, .inl (fh_))), (noB_, .inr (6, [.ref ndB_, .int hourB_, .ref nsB_, .ref ncB_, .ref nlB_, .ref ntB_, .ref nhB_, .int fallenB_])), (nsB_, .inl (cy 0, 8, .inl (fsB_))), (ncB_, .inl (cy 0, 8, .inl (fcB_))), (nlB_, .inl (cy 0, 8, .inl (flB_))), (ntB_, .inl (cy 0, 8, .inl (ftB_))), (nhB_, .inl (cy 0, 4, .inl (fhB_)))] (fun W1 => ∃ (x0_ : Nat → Int32) (x1_ : Nat → Int32) (x2_ : Nat → Int32) (x3_ : Nat → Int32) (x4_ : Nat → Int32), R_X6_copyFrom_e fsB_ fs_ fcB_ fc_ flB_ fl_ ftB_ ft_ fhB_ fh_ x0_ x1_ x2_ x3_ x4_ ∧ W1 = [(no_, .inr (6, [.ref ndB_, .int hourB_, .ref ns_, .ref nc_, .ref nl_, .ref nt_, .ref nh_, .int fallenB_])), (ns_, .inl (cy 0, 8, .inl (x0_))), (nc_, .inl (cy 0, 8, .inl (x1_))), (nl_, .inl (cy 0, 8, .inl (x2_))), (nt_, .inl (cy 0, 8, .inl (x3_))), (nh_, .inl (cy 0, 4, .inl (x4_))), (noB_, .inr (6, [.ref ndB_, .int hourB_, .ref nsB_, .ref ncB_, .ref nlB_, .ref ntB_, .ref nhB_, .int fallenB_])), (nsB_, .inl (cy 0, 8, .inl (fsB_))), (ncB_, .inl (cy 0, 8, .inl (fcB_))), (nlB_, .inl (cy 0, 8, .inl (flB_))), (ntB_, .inl (cy 0, 8, .inl (ftB_))), (nhB_, .inl (cy 0, 4, .inl (fhB_)))]) := by
  refine Cv.of (by decide) (Nat.le_of_ble_eq_true rfl) ?_
  intro p e s m below meth c A ls hX hE hP hD hl hin
  obtain ⟨hx, hb, hr, hml, hown, htA, hlk⟩ := id hX
  have hK := hE.1
  have hS : va_S A s.heap s.heap [] := va_S.rf
  have hl : lv_has ls 2 [(0, .ref no_), (1, .ref noB_)] := hl
  refine lv_aload_n hx hb dX6_copyFrom_0 rfl (lv_at hl 0 rfl) ?_
  refine lv_aload_n hx hb dX6_copyFrom_1 rfl (lv_at hl 1 rfl) ?_
  refine va_get (ci := 6) (v := .ref ndB_) (C := RX6) (T := TX6) (N := 8) hx hb htA in_X6 hown hK hP 6 rfl rfl 0 (by decide) (htA _ wd_166) (fun _ h => h) rfl dX6_copyFrom_2 ?_
  refine va_put (ci := 6) (v := .ref ndB_) (ty := tyX6 0) (C := RX6) (T := TX6) (N := 8) hx hb htA in_X6 tyX6 tyX6_ok nmX6 hown hK hP hD hS 0 rfl rfl 0 (by decide) (htA _ wd_166) (fun _ h => h) rfl (by decide +kernel) rfl rfl (Nat.le_of_ble_eq_true rfl) dX6_copyFrom_5 (fun H locs hP hD hS => ?_)
  have hP : va_P D vwCl [(no_, .inr (6, [.ref ndB_, .int hour_, .ref ns_, .ref nc_, .ref nl_, .ref nt_, .ref nh_, .int fallen_])), (ns_, .inl (cy 0, 8, .inl (fs_))), (nc_, .inl (cy 0, 8, .inl (fc_))), (nl_, .inl (cy 0, 8, .inl (fl_))), (nt_, .inl (cy 0, 8, .inl (ft_))), (nh_, .inl (cy 0, 4, .inl (fh_))), (noB_, .inr (6, [.ref ndB_, .int hourB_, .ref nsB_, .ref ncB_, .ref nlB_, .ref ntB_, .ref nhB_, .int fallenB_])), (nsB_, .inl (cy 0, 8, .inl (fsB_))), (ncB_, .inl (cy 0, 8, .inl (fcB_))), (nlB_, .inl (cy 0, 8, .inl (flB_))), (ntB_, .inl (cy 0, 8, .inl (ftB_))), (nhB_, .inl (cy 0, 4, .inl (fhB_)))] H := hP
  have hD := va_ca hP hD
  refine lv_aload_n hx hb dX6_copyFrom_8 rfl (lv_at hl 0 rfl) ?_
  refine lv_aload_n hx hb dX6_copyFrom_9 rfl (lv_at hl 1 rfl) ?_
  refine va_get (ci := 6) (v := .int hourB_) (C := RX6) (T := TX6) (N := 8) hx hb htA in_X6 hown hK hP 6 rfl rfl 1 (by decide) (htA _ wd_170) (fun _ h => h) rfl dX6_copyFrom_10 ?_
  refine va_put (ci := 6) (v := .int hourB_) (ty := .int) (C := RX6) (T := TX6) (N := 8) hx hb htA in_X6 tyX6 tyX6_ok nmX6 hown hK hP hD hS 0 rfl rfl 1 (by decide) (htA _ wd_170) (fun _ h => h) rfl (by decide +kernel) rfl rfl (Nat.le_of_ble_eq_true rfl) dX6_copyFrom_13 (fun H locs hP hD hS => ?_)
  have hP : va_P D vwCl [(no_, .inr (6, [.ref ndB_, .int hourB_, .ref ns_, .ref nc_, .ref nl_, .ref nt_, .ref nh_, .int fallen_])), (ns_, .inl (cy 0, 8, .inl (fs_))), (nc_, .inl (cy 0, 8, .inl (fc_))), (nl_, .inl (cy 0, 8, .inl (fl_))), (nt_, .inl (cy 0, 8, .inl (ft_))), (nh_, .inl (cy 0, 4, .inl (fh_))), (noB_, .inr (6, [.ref ndB_, .int hourB_, .ref nsB_, .ref ncB_, .ref nlB_, .ref ntB_, .ref nhB_, .int fallenB_])), (nsB_, .inl (cy 0, 8, .inl (fsB_))), (ncB_, .inl (cy 0, 8, .inl (fcB_))), (nlB_, .inl (cy 0, 8, .inl (flB_))), (ntB_, .inl (cy 0, 8, .inl (ftB_))), (nhB_, .inl (cy 0, 4, .inl (fhB_)))] H := hP
  have hD := va_ca hP hD
  refine lv_aload_n hx hb dX6_copyFrom_16 rfl (lv_at hl 0 rfl) ?_
  refine lv_aload_n hx hb dX6_copyFrom_17 rfl (lv_at hl 1 rfl) ?_
  refine va_get (ci := 6) (v := .int fallenB_) (C := RX6) (T := TX6) (N := 8) hx hb htA in_X6 hown hK hP 6 rfl rfl 7 (by decide) (htA _ wd_189) (fun _ h => h) rfl dX6_copyFrom_18 ?_
  refine va_put (ci := 6) (v := .int fallenB_) (ty := .int) (C := RX6) (T := TX6) (N := 8) hx hb htA in_X6 tyX6 tyX6_ok nmX6 hown hK hP hD hS 0 rfl rfl 7 (by decide) (htA _ wd_189) (fun _ h => h) rfl (by decide +kernel) rfl rfl (Nat.le_of_ble_eq_true rfl) dX6_copyFrom_21 (fun H locs hP hD hS => ?_)
  have hP : va_P D vwCl [(no_, .inr (6, [.ref ndB_, .int hourB_, .ref ns_, .ref nc_, .ref nl_, .ref nt_, .ref nh_, .int fallenB_])), (ns_, .inl (cy 0, 8, .inl (fs_))), (nc_, .inl (cy 0, 8, .inl (fc_))), (nl_, .inl (cy 0, 8, .inl (fl_))), (nt_, .inl (cy 0, 8, .inl (ft_))), (nh_, .inl (cy 0, 4, .inl (fh_))), (noB_, .inr (6, [.ref ndB_, .int hourB_, .ref nsB_, .ref ncB_, .ref nlB_, .ref ntB_, .ref nhB_, .int fallenB_])), (nsB_, .inl (cy 0, 8, .inl (fsB_))), (ncB_, .inl (cy 0, 8, .inl (fcB_))), (nlB_, .inl (cy 0, 8, .inl (flB_))), (ntB_, .inl (cy 0, 8, .inl (ftB_))), (nhB_, .inl (cy 0, 4, .inl (fhB_)))] H := hP
  have hD := va_ca hP hD
  refine lv_aload_n hx hb dX6_copyFrom_24 rfl (lv_at hl 1 rfl) ?_
  refine va_get (ci := 6) (v := .ref nsB_) (C := RX6) (T := TX6) (N := 8) hx hb htA in_X6 hown hK hP 6 rfl rfl 2 (by decide) (htA _ wd_174) (fun _ h => h) rfl dX6_copyFrom_25 ?_
  refine lv_iconst (v := 0) hx hb dX6_copyFrom_28 (by decide) ?_
  refine lv_aload_n hx hb dX6_copyFrom_29 rfl (lv_at hl 0 rfl) ?_
  refine va_get (ci := 6) (v := .ref ns_) (C := RX6) (T := TX6) (N := 8) hx hb htA in_X6 hown hK hP 0 rfl rfl 2 (by decide) (htA _ wd_174) (fun _ h => h) rfl dX6_copyFrom_30 ?_
  refine lv_iconst (v := 0) hx hb dX6_copyFrom_33 (by decide) ?_
  refine lv_bipush (v := 8) hx hb dX6_copyFrom_34 (by decide) ?_
  refine va_copyi hx hb (hml.trans hl.1.symm) hown (htA _ wd_392) (htA _ wd_394) (htA _ wd_393) (htA _ wd_22) hK hP hD hS 7 1 0 0 rfl rfl rfl rfl rfl (by decide) (by decide) (by decide) (by decide) (by decide) (fun _ _ => rfl) (by decide) (by decide) dX6_copyFrom_36 (fun H locs hP hD hS => ?_)
  have hP : va_P D vwCl [(no_, .inr (6, [.ref ndB_, .int hourB_, .ref ns_, .ref nc_, .ref nl_, .ref nt_, .ref nh_, .int fallenB_])), (ns_, .inl (cy 0, 8, .inl (va_cpy (fsB_) (fs_) (0 : Int32).toNatClampNeg (0 : Int32).toNatClampNeg (8 : Int32).toNatClampNeg))), (nc_, .inl (cy 0, 8, .inl (fc_))), (nl_, .inl (cy 0, 8, .inl (fl_))), (nt_, .inl (cy 0, 8, .inl (ft_))), (nh_, .inl (cy 0, 4, .inl (fh_))), (noB_, .inr (6, [.ref ndB_, .int hourB_, .ref nsB_, .ref ncB_, .ref nlB_, .ref ntB_, .ref nhB_, .int fallenB_])), (nsB_, .inl (cy 0, 8, .inl (fsB_))), (ncB_, .inl (cy 0, 8, .inl (fcB_))), (nlB_, .inl (cy 0, 8, .inl (flB_))), (ntB_, .inl (cy 0, 8, .inl (ftB_))), (nhB_, .inl (cy 0, 4, .inl (fhB_)))] H := hP
  have hD := va_ca hP hD
  refine lv_aload_n hx hb dX6_copyFrom_39 rfl (lv_at hl 1 rfl) ?_
  refine va_get (ci := 6) (v := .ref ncB_) (C := RX6) (T := TX6) (N := 8) hx hb htA in_X6 hown hK hP 6 rfl rfl 3 (by decide) (htA _ wd_178) (fun _ h => h) rfl dX6_copyFrom_40 ?_
  refine lv_iconst (v := 0) hx hb dX6_copyFrom_43 (by decide) ?_
  refine lv_aload_n hx hb dX6_copyFrom_44 rfl (lv_at hl 0 rfl) ?_
  refine va_get (ci := 6) (v := .ref nc_) (C := RX6) (T := TX6) (N := 8) hx hb htA in_X6 hown hK hP 0 rfl rfl 3 (by decide) (htA _ wd_178) (fun _ h => h) rfl dX6_copyFrom_45 ?_
  refine lv_iconst (v := 0) hx hb dX6_copyFrom_48 (by decide) ?_
  refine lv_bipush (v := 8) hx hb dX6_copyFrom_49 (by decide) ?_
  refine va_copyi hx hb (hml.trans hl.1.symm) hown (htA _ wd_392) (htA _ wd_394) (htA _ wd_393) (htA _ wd_22) hK hP hD hS 8 2 0 0 rfl rfl rfl rfl rfl (by decide) (by decide) (by decide) (by decide) (by decide) (fun _ _ => rfl) (by decide) (by decide) dX6_copyFrom_51 (fun H locs hP hD hS => ?_)
  have hP : va_P D vwCl [(no_, .inr (6, [.ref ndB_, .int hourB_, .ref ns_, .ref nc_, .ref nl_, .ref nt_, .ref nh_, .int fallenB_])), (ns_, .inl (cy 0, 8, .inl (va_cpy (fsB_) (fs_) (0 : Int32).toNatClampNeg (0 : Int32).toNatClampNeg (8 : Int32).toNatClampNeg))), (nc_, .inl (cy 0, 8, .inl (va_cpy (fcB_) (fc_) (0 : Int32).toNatClampNeg (0 : Int32).toNatClampNeg (8 : Int32).toNatClampNeg))), (nl_, .inl (cy 0, 8, .inl (fl_))), (nt_, .inl (cy 0, 8, .inl (ft_))), (nh_, .inl (cy 0, 4, .inl (fh_))), (noB_, .inr (6, [.ref ndB_, .int hourB_, .ref nsB_, .ref ncB_, .ref nlB_, .ref ntB_, .ref nhB_, .int fallenB_])), (nsB_, .inl (cy 0, 8, .inl (fsB_))), (ncB_, .inl (cy 0, 8, .inl (fcB_))), (nlB_, .inl (cy 0, 8, .inl (flB_))), (ntB_, .inl (cy 0, 8, .inl (ftB_))), (nhB_, .inl (cy 0, 4, .inl (fhB_)))] H := hP
  have hD := va_ca hP hD
  refine lv_aload_n hx hb dX6_copyFrom_54 rfl (lv_at hl 1 rfl) ?_
  refine va_get (ci := 6) (v := .ref nlB_) (C := RX6) (T := TX6) (N := 8) hx hb htA in_X6 hown hK hP 6 rfl rfl 4 (by decide) (htA _ wd_181) (fun _ h => h) rfl dX6_copyFrom_55 ?_
  refine lv_iconst (v := 0) hx hb dX6_copyFrom_58 (by decide) ?_
  refine lv_aload_n hx hb dX6_copyFrom_59 rfl (lv_at hl 0 rfl) ?_
  refine va_get (ci := 6) (v := .ref nl_) (C := RX6) (T := TX6) (N := 8) hx hb htA in_X6 hown hK hP 0 rfl rfl 4 (by decide) (htA _ wd_181) (fun _ h => h) rfl dX6_copyFrom_60 ?_
  refine lv_iconst (v := 0) hx hb dX6_copyFrom_63 (by decide) ?_
  refine lv_bipush (v := 8) hx hb dX6_copyFrom_64 (by decide) ?_
  refine va_copyi hx hb (hml.trans hl.1.symm) hown (htA _ wd_392) (htA _ wd_394) (htA _ wd_393) (htA _ wd_22) hK hP hD hS 9 3 0 0 rfl rfl rfl rfl rfl (by decide) (by decide) (by decide) (by decide) (by decide) (fun _ _ => rfl) (by decide) (by decide) dX6_copyFrom_66 (fun H locs hP hD hS => ?_)
  have hP : va_P D vwCl [(no_, .inr (6, [.ref ndB_, .int hourB_, .ref ns_, .ref nc_, .ref nl_, .ref nt_, .ref nh_, .int fallenB_])), (ns_, .inl (cy 0, 8, .inl (va_cpy (fsB_) (fs_) (0 : Int32).toNatClampNeg (0 : Int32).toNatClampNeg (8 : Int32).toNatClampNeg))), (nc_, .inl (cy 0, 8, .inl (va_cpy (fcB_) (fc_) (0 : Int32).toNatClampNeg (0 : Int32).toNatClampNeg (8 : Int32).toNatClampNeg))), (nl_, .inl (cy 0, 8, .inl (va_cpy (flB_) (fl_) (0 : Int32).toNatClampNeg (0 : Int32).toNatClampNeg (8 : Int32).toNatClampNeg))), (nt_, .inl (cy 0, 8, .inl (ft_))), (nh_, .inl (cy 0, 4, .inl (fh_))), (noB_, .inr (6, [.ref ndB_, .int hourB_, .ref nsB_, .ref ncB_, .ref nlB_, .ref ntB_, .ref nhB_, .int fallenB_])), (nsB_, .inl (cy 0, 8, .inl (fsB_))), (ncB_, .inl (cy 0, 8, .inl (fcB_))), (nlB_, .inl (cy 0, 8, .inl (flB_))), (ntB_, .inl (cy 0, 8, .inl (ftB_))), (nhB_, .inl (cy 0, 4, .inl (fhB_)))] H := hP
  have hD := va_ca hP hD
  refine lv_aload_n hx hb dX6_copyFrom_69 rfl (lv_at hl 1 rfl) ?_
  refine va_get (ci := 6) (v := .ref ntB_) (C := RX6) (T := TX6) (N := 8) hx hb htA in_X6 hown hK hP 6 rfl rfl 5 (by decide) (htA _ wd_184) (fun _ h => h) rfl dX6_copyFrom_70 ?_
  refine lv_iconst (v := 0) hx hb dX6_copyFrom_73 (by decide) ?_
  refine lv_aload_n hx hb dX6_copyFrom_74 rfl (lv_at hl 0 rfl) ?_
  refine va_get (ci := 6) (v := .ref nt_) (C := RX6) (T := TX6) (N := 8) hx hb htA in_X6 hown hK hP 0 rfl rfl 5 (by decide) (htA _ wd_184) (fun _ h => h) rfl dX6_copyFrom_75 ?_
  refine lv_iconst (v := 0) hx hb dX6_copyFrom_78 (by decide) ?_
  refine lv_bipush (v := 8) hx hb dX6_copyFrom_79 (by decide) ?_
  refine va_copyi hx hb (hml.trans hl.1.symm) hown (htA _ wd_392) (htA _ wd_394) (htA _ wd_393) (htA _ wd_22) hK hP hD hS 10 4 0 0 rfl rfl rfl rfl rfl (by decide) (by decide) (by decide) (by decide) (by decide) (fun _ _ => rfl) (by decide) (by decide) dX6_copyFrom_81 (fun H locs hP hD hS => ?_)
  have hP : va_P D vwCl [(no_, .inr (6, [.ref ndB_, .int hourB_, .ref ns_, .ref nc_, .ref nl_, .ref nt_, .ref nh_, .int fallenB_])), (ns_, .inl (cy 0, 8, .inl (va_cpy (fsB_) (fs_) (0 : Int32).toNatClampNeg (0 : Int32).toNatClampNeg (8 : Int32).toNatClampNeg))), (nc_, .inl (cy 0, 8, .inl (va_cpy (fcB_) (fc_) (0 : Int32).toNatClampNeg (0 : Int32).toNatClampNeg (8 : Int32).toNatClampNeg))), (nl_, .inl (cy 0, 8, .inl (va_cpy (flB_) (fl_) (0 : Int32).toNatClampNeg (0 : Int32).toNatClampNeg (8 : Int32).toNatClampNeg))), (nt_, .inl (cy 0, 8, .inl (va_cpy (ftB_) (ft_) (0 : Int32).toNatClampNeg (0 : Int32).toNatClampNeg (8 : Int32).toNatClampNeg))), (nh_, .inl (cy 0, 4, .inl (fh_))), (noB_, .inr (6, [.ref ndB_, .int hourB_, .ref nsB_, .ref ncB_, .ref nlB_, .ref ntB_, .ref nhB_, .int fallenB_])), (nsB_, .inl (cy 0, 8, .inl (fsB_))), (ncB_, .inl (cy 0, 8, .inl (fcB_))), (nlB_, .inl (cy 0, 8, .inl (flB_))), (ntB_, .inl (cy 0, 8, .inl (ftB_))), (nhB_, .inl (cy 0, 4, .inl (fhB_)))] H := hP
  have hD := va_ca hP hD
  refine lv_aload_n hx hb dX6_copyFrom_84 rfl (lv_at hl 1 rfl) ?_
  refine va_get (ci := 6) (v := .ref nhB_) (C := RX6) (T := TX6) (N := 8) hx hb htA in_X6 hown hK hP 6 rfl rfl 6 (by decide) (htA _ wd_187) (fun _ h => h) rfl dX6_copyFrom_85 ?_
  refine lv_iconst (v := 0) hx hb dX6_copyFrom_88 (by decide) ?_
  refine lv_aload_n hx hb dX6_copyFrom_89 rfl (lv_at hl 0 rfl) ?_
  refine va_get (ci := 6) (v := .ref nh_) (C := RX6) (T := TX6) (N := 8) hx hb htA in_X6 hown hK hP 0 rfl rfl 6 (by decide) (htA _ wd_187) (fun _ h => h) rfl dX6_copyFrom_90 ?_
  refine lv_iconst (v := 0) hx hb dX6_copyFrom_93 (by decide) ?_
  refine lv_iconst (v := 4) hx hb dX6_copyFrom_94 (by decide) ?_
  refine va_copyi hx hb (hml.trans hl.1.symm) hown (htA _ wd_392) (htA _ wd_394) (htA _ wd_393) (htA _ wd_22) hK hP hD hS 11 5 0 0 rfl rfl rfl rfl rfl (by decide) (by decide) (by decide) (by decide) (by decide) (fun _ _ => rfl) (by decide) (by decide) dX6_copyFrom_95 (fun H locs hP hD hS => ?_)
  have hP : va_P D vwCl [(no_, .inr (6, [.ref ndB_, .int hourB_, .ref ns_, .ref nc_, .ref nl_, .ref nt_, .ref nh_, .int fallenB_])), (ns_, .inl (cy 0, 8, .inl (va_cpy (fsB_) (fs_) (0 : Int32).toNatClampNeg (0 : Int32).toNatClampNeg (8 : Int32).toNatClampNeg))), (nc_, .inl (cy 0, 8, .inl (va_cpy (fcB_) (fc_) (0 : Int32).toNatClampNeg (0 : Int32).toNatClampNeg (8 : Int32).toNatClampNeg))), (nl_, .inl (cy 0, 8, .inl (va_cpy (flB_) (fl_) (0 : Int32).toNatClampNeg (0 : Int32).toNatClampNeg (8 : Int32).toNatClampNeg))), (nt_, .inl (cy 0, 8, .inl (va_cpy (ftB_) (ft_) (0 : Int32).toNatClampNeg (0 : Int32).toNatClampNeg (8 : Int32).toNatClampNeg))), (nh_, .inl (cy 0, 4, .inl (va_cpy (fhB_) (fh_) (0 : Int32).toNatClampNeg (0 : Int32).toNatClampNeg (4 : Int32).toNatClampNeg))), (noB_, .inr (6, [.ref ndB_, .int hourB_, .ref nsB_, .ref ncB_, .ref nlB_, .ref ntB_, .ref nhB_, .int fallenB_])), (nsB_, .inl (cy 0, 8, .inl (fsB_))), (ncB_, .inl (cy 0, 8, .inl (fcB_))), (nlB_, .inl (cy 0, 8, .inl (flB_))), (ntB_, .inl (cy 0, 8, .inl (ftB_))), (nhB_, .inl (cy 0, 4, .inl (fhB_)))] H := hP
  have hD := va_ca hP hD
  exact rV hX hE hP hD hS dX6_copyFrom_98 (by decide) (by decide) ⟨(va_cpy (fsB_) (fs_) (0 : Int32).toNatClampNeg (0 : Int32).toNatClampNeg (8 : Int32).toNatClampNeg), (va_cpy (fcB_) (fc_) (0 : Int32).toNatClampNeg (0 : Int32).toNatClampNeg (8 : Int32).toNatClampNeg), (va_cpy (flB_) (fl_) (0 : Int32).toNatClampNeg (0 : Int32).toNatClampNeg (8 : Int32).toNatClampNeg), (va_cpy (ftB_) (ft_) (0 : Int32).toNatClampNeg (0 : Int32).toNatClampNeg (8 : Int32).toNatClampNeg), (va_cpy (fhB_) (fh_) (0 : Int32).toNatClampNeg (0 : Int32).toNatClampNeg (4 : Int32).toNatClampNeg), (Or.inl ⟨rfl, rfl, rfl, rfl, rfl⟩), rfl⟩
def R_X6_begin_b1 (uZ_ vZ_ : Int32 × (Nat → Int32)) : Prop := (¬ ((4 : Int32) ≤ uZ_.1) ∧ vZ_ = (uZ_.1 + 1, upd uZ_.2 uZ_.1.toNatClampNeg 0)) ∨ False
def R_X6_begin_e (fh_ : Nat → Int32) (x0_ : Nat → Int32) : Prop := (∃ (v201700_ : Int32) (g201701_ : Nat → Int32), Itr (R_X6_begin_b1) (0, fh_) (v201700_, g201701_) ∧ (4 : Int32) ≤ v201700_ ∧ x0_ = g201701_) ∨ False
set_option maxHeartbeats 4000000 in
set_option maxRecDepth 100000 in
theorem sf_X6_begin (l : Launch) (D : va_G) (cy : Nat → ClassId) (no_ : Nat) (nd_ : Nat) (hour_ : Int32) (ns_ : Nat) (nc_ : Nat) (nl_ : Nat) (nt_ : Nat) (nh_ : Nat) (fallen_ : Int32) (fh_ : Nat → Int32) (nd2_ : Nat) : Cv l yX6_begin cX6_begin 3 none { frames := 0, cells := 0, slots := 0, locals := 0 } D cy [.ref no_, .ref nd2_] [(no_, .inr (6, [.ref nd_, .int hour_, .ref ns_, .ref nc_, .ref nl_, .ref nt_, .ref nh_, .int fallen_])), (nh_, .inl (cy 0, 4, .inl (fh_)))] (fun W1 => ∃ (x0_ : Nat → Int32), R_X6_begin_e fh_ x0_ ∧ W1 = [(no_, .inr (6, [.ref nd2_, .int 0, .ref ns_, .ref nc_, .ref nl_, .ref nt_, .ref nh_, .int 0])), (nh_, .inl (cy 0, 4, .inl (x0_)))]) := by
  refine Cv.of (by decide) (Nat.le_of_ble_eq_true rfl) ?_
  intro p e s m below meth c A ls hX hE hP hD hl hin
  obtain ⟨hx, hb, hr, hml, hown, htA, hlk⟩ := id hX
  have hK := hE.1
  have hS : va_S A s.heap s.heap [] := va_S.rf
  have hl : lv_has ls 3 [(0, .ref no_), (1, .ref nd2_)] := hl
  refine lv_aload_n hx hb dX6_begin_0 rfl (lv_at hl 0 rfl) ?_
  refine lv_aload_n hx hb dX6_begin_1 rfl (lv_at hl 1 rfl) ?_
  refine va_put (ci := 6) (v := .ref nd2_) (ty := tyX6 0) (C := RX6) (T := TX6) (N := 8) hx hb htA in_X6 tyX6 tyX6_ok nmX6 hown hK hP hD hS 0 rfl rfl 0 (by decide) (htA _ wd_166) (fun _ h => h) rfl (by decide +kernel) rfl rfl (Nat.le_of_ble_eq_true rfl) dX6_begin_2 (fun H locs hP hD hS => ?_)
  have hP : va_P D vwCl [(no_, .inr (6, [.ref nd2_, .int hour_, .ref ns_, .ref nc_, .ref nl_, .ref nt_, .ref nh_, .int fallen_])), (nh_, .inl (cy 0, 4, .inl (fh_)))] H := hP
  have hD := va_ca hP hD
  refine lv_aload_n hx hb dX6_begin_5 rfl (lv_at hl 0 rfl) ?_
  refine lv_iconst (v := 0) hx hb dX6_begin_6 (by decide) ?_
  refine va_put (ci := 6) (v := .int 0) (ty := .int) (C := RX6) (T := TX6) (N := 8) hx hb htA in_X6 tyX6 tyX6_ok nmX6 hown hK hP hD hS 0 rfl rfl 1 (by decide) (htA _ wd_170) (fun _ h => h) rfl (by decide +kernel) rfl rfl (Nat.le_of_ble_eq_true rfl) dX6_begin_7 (fun H locs hP hD hS => ?_)
  have hP : va_P D vwCl [(no_, .inr (6, [.ref nd2_, .int 0, .ref ns_, .ref nc_, .ref nl_, .ref nt_, .ref nh_, .int fallen_])), (nh_, .inl (cy 0, 4, .inl (fh_)))] H := hP
  have hD := va_ca hP hD
  refine lv_aload_n hx hb dX6_begin_10 rfl (lv_at hl 0 rfl) ?_
  refine lv_iconst (v := 0) hx hb dX6_begin_11 (by decide) ?_
  refine va_put (ci := 6) (v := .int 0) (ty := .int) (C := RX6) (T := TX6) (N := 8) hx hb htA in_X6 tyX6 tyX6_ok nmX6 hown hK hP hD hS 0 rfl rfl 7 (by decide) (htA _ wd_189) (fun _ h => h) rfl (by decide +kernel) rfl rfl (Nat.le_of_ble_eq_true rfl) dX6_begin_12 (fun H locs hP hD hS => ?_)
  have hP : va_P D vwCl [(no_, .inr (6, [.ref nd2_, .int 0, .ref ns_, .ref nc_, .ref nl_, .ref nt_, .ref nh_, .int 0])), (nh_, .inl (cy 0, 4, .inl (fh_)))] H := hP
  have hD := va_ca hP hD
  refine lv_iconst (v := 0) hx hb dX6_begin_15 (by decide) ?_
  refine lv_istore_n (lv' := [(2, .int 0), (0, .ref no_), (1, .ref nd2_)]) hx hb dX6_begin_16 rfl hl (by decide) rfl (fun ls hl => ?_)
  refine loopT (τ := Int32 × (Nat → Int32)) (WS := fun i => [(no_, .inr (6, [.ref nd2_, .int 0, .ref ns_, .ref nc_, .ref nl_, .ref nt_, .ref nh_, .int 0])), (nh_, .inl (cy 0, 4, .inl (i.2)))]) (LV := fun i => [(2, .int i.1), (0, .ref no_), (1, .ref nd2_)]) (fun i => (5 - i.1.toInt).toNat) (fun i => rg (0) (4) i.1 ∧ Itr (R_X6_begin_b1) (0, fh_) (i.1, i.2)) ?_ (0, fh_) ⟨(rg_w (rg_lit (by decide) : rg (0) (0) (0 : Int32)) (by decide) (by decide)), (Itr.rf _ _)⟩ hP hD hS (lv_sub hl [0, 1, 2] rfl)
  intro i_ H locs ls hI ih17_ hP hD hS hl
  obtain ⟨v201700_, g201701_⟩ := i_
  have hI : rg (0) (4) v201700_ ∧ Itr (R_X6_begin_b1) (0, fh_) (v201700_, g201701_) := hI
  obtain ⟨rv201700_, hR1_⟩ := hI
  have hP : va_P D vwCl [(no_, .inr (6, [.ref nd2_, .int 0, .ref ns_, .ref nc_, .ref nl_, .ref nt_, .ref nh_, .int 0])), (nh_, .inl (cy 0, 4, .inl (g201701_)))] H := hP
  have hD := va_ca hP hD
  have hl : lv_has ls 3 [(2, .int v201700_), (0, .ref no_), (1, .ref nd2_)] := hl
  refine lv_iload_n hx hb dX6_begin_17 rfl (lv_at hl 0 rfl) ?_
  refine lv_iconst (v := 4) hx hb dX6_begin_18 (by decide) ?_
  refine lv_icmp_ge (tgt := 35) hx hb dX6_begin_19 (by decide) (fun c19_ => ?_) (fun c19_ => ?_)
  · have g1_ : rg (4) (4) v201700_ := rg_le2 c19_ (rg_lit (by decide) : rg (4) (4) (4 : Int32)) rv201700_ (by decide)
    exact rV hX hE hP hD hS dX6_begin_35 (by decide) (by decide) ⟨g201701_, (Or.inl ⟨v201700_, g201701_, hR1_, c19_, rfl⟩), rfl⟩
  · have g2_ : rg (0) (3) v201700_ := rg_lt1 (rg_nle c19_) rv201700_ (rg_lit (by decide) : rg (4) (4) (4 : Int32)) (by decide)
    refine lv_aload_n hx hb dX6_begin_22 rfl (lv_at hl 1 rfl) ?_
    refine va_get (ci := 6) (v := .ref nh_) (C := RX6) (T := TX6) (N := 8) hx hb htA in_X6 hown hK hP 0 rfl rfl 6 (by decide) (htA _ wd_187) (fun _ h => h) rfl dX6_begin_23 ?_
    refine lv_iload_n hx hb dX6_begin_26 rfl (lv_at hl 0 rfl) ?_
    refine lv_iconst (v := 0) hx hb dX6_begin_27 (by decide) ?_
    refine va_iast hx hb hK hP hD hS 1 0 rfl rfl (rg_in g2_ (by decide) (by decide)) dX6_begin_28 (fun H locs hP hD hS => ?_)
    have hP : va_P D vwCl [(no_, .inr (6, [.ref nd2_, .int 0, .ref ns_, .ref nc_, .ref nl_, .ref nt_, .ref nh_, .int 0])), (nh_, .inl (cy 0, 4, .inl (upd g201701_ v201700_.toNatClampNeg 0)))] H := hP
    have hD := va_ca hP hD
    refine lv_iinc (v := v201700_ + 1) (lv' := [(2, .int (v201700_ + 1)), (0, .ref no_), (1, .ref nd2_)]) hx hb dX6_begin_29 hl (k := 0) rfl rfl (by decide) rfl (fun ls hl => ?_)
    have g3_ : rg (1) (4) (v201700_ + 1) := rg_add g2_ (rg_lit (by decide) : rg (1) (1) (1 : Int32)) (by decide) (by decide) (by decide) (by decide)
    refine lv_goto (tgt := 17) hx hb dX6_begin_32 (by decide) ?_
    exact ih17_ (v201700_ + 1, upd g201701_ v201700_.toNatClampNeg 0) _ _ ls ⟨(rg_w g3_ (by decide) (by decide)), (Itr.st hR1_ (Or.inl ⟨c19_, rfl⟩))⟩ (show (5 - (v201700_ + 1).toInt).toNat < (5 - v201700_.toInt).toNat from by rw [show (v201700_ + 1).toInt = v201700_.toInt + 1 from inc32 v201700_ (by have hq := (rv201700_).2; omega)]; have hq := (g2_).1; have hq2 := (g2_).2; omega) hP hD hS (lv_sub hl [0, 1, 2] rfl)
def R_X6_isFreed_xN_j3 (b_ : Int32) (v201100_ : Int32) (fl_ : Nat → Int32) (t_ : Int32) : Prop := (((b_ >>> (v201100_ &&& 31)) &&& 1) = (0 : Int32)) ∨ (∃ (v10380_ : Int32) (v10440_ : Int32), ¬ (((b_ >>> (v201100_ &&& 31)) &&& 1) = (0 : Int32)) ∧ v10380_ = fl_ v201100_.toNatClampNeg ∧ v10440_ = fl_ t_.toNatClampNeg ∧ ¬ (v10440_ < v10380_)) ∨ False
def R_X6_isFreed_xN_b1 (things_ : Int32) (b_ : Int32) (fl_ : Nat → Int32) (t_ : Int32) (uZ_ vZ_ : Int32) : Prop := (¬ (things_ ≤ uZ_) ∧ R_X6_isFreed_xN_j3 b_ uZ_ fl_ t_ ∧ vZ_ = uZ_ + 1) ∨ False
def R_X6_isFreed_xN_e (things_ : Int32) (b_ : Int32) (fl_ : Nat → Int32) (t_ : Int32) (r : Int32) : Prop := (∃ (v201100_ : Int32), Itr (R_X6_isFreed_xN_b1 things_ b_ fl_ t_) 0 v201100_ ∧ things_ ≤ v201100_ ∧ r = (0 : Int32)) ∨ (∃ (v201100_ : Int32) (v10380_ : Int32) (v10440_ : Int32), Itr (R_X6_isFreed_xN_b1 things_ b_ fl_ t_) 0 v201100_ ∧ ¬ (things_ ≤ v201100_) ∧ ¬ (((b_ >>> (v201100_ &&& 31)) &&& 1) = (0 : Int32)) ∧ v10380_ = fl_ v201100_.toNatClampNeg ∧ v10440_ = fl_ t_.toNatClampNeg ∧ v10440_ < v10380_ ∧ r = (1 : Int32)) ∨ False
set_option maxHeartbeats 4000000 in
set_option maxRecDepth 100000 in
theorem sf_X6_isFreed_xN (l : Launch) (D : va_G) (cy : Nat → ClassId) (no_ : Nat) (nd_ : Nat) (hour_ : Int32) (ns_ : Nat) (nc_ : Nat) (nl_ : Nat) (nt_ : Nat) (nh_ : Nat) (fallen_ : Int32) (fl_ : Nat → Int32) (lines_ : Int32) (columns_ : Int32) (levels_ : Int32) (things_ : Int32) (walkers_ : Int32) (nw_ : Nat) (nr_ : Nat) (nq_ : Nat) (hangs_ : Value) (t_ : Int32) (b_ : Int32) (rcolumns_ : rg (1) (6) columns_) (rlevels_ : rg (1) (9) levels_) (rthings_ : rg (0) (8) things_) (rwalkers_ : rg (0) (4) walkers_) (rt_ : rg (0) (7) t_) : Ci l yX6_isFreed cX6_isFreed 5 (some .boolean) { frames := 0, cells := 0, slots := 0, locals := 0 } D cy [.ref no_, .int t_, .int b_] [(no_, .inr (6, [.ref nd_, .int hour_, .ref ns_, .ref nc_, .ref nl_, .ref nt_, .ref nh_, .int fallen_])), (nl_, .inl (cy 0, 8, .inl (fl_))), (nd_, .inr (0, [.int lines_, .int columns_, .int levels_, .int things_, .int walkers_, .ref nw_, .ref nr_, .ref nq_, hangs_, .null]))] (fun r W1 => R_X6_isFreed_xN_e things_ b_ fl_ t_ r ∧ W1 = [(no_, .inr (6, [.ref nd_, .int hour_, .ref ns_, .ref nc_, .ref nl_, .ref nt_, .ref nh_, .int fallen_])), (nl_, .inl (cy 0, 8, .inl (fl_))), (nd_, .inr (0, [.int lines_, .int columns_, .int levels_, .int things_, .int walkers_, .ref nw_, .ref nr_, .ref nq_, hangs_, .null]))] ∧ rg (0) (1) r) := by
  refine Ci.of (by decide) (Nat.le_of_ble_eq_true rfl) ?_
  intro p e s m below meth c A ls hX hE hP hD hl
  obtain ⟨hx, hb, hr, hml, hown, htA, hlk⟩ := id hX
  have hK := hE.1
  have hS : va_S A s.heap s.heap [] := va_S.rf
  have hl : lv_has ls 5 [(0, .ref no_), (1, .int t_), (2, .int b_)] := hl
  refine lv_aload_n hx hb dX6_isFreed_0 rfl (lv_at hl 0 rfl) ?_
  refine va_get (ci := 6) (v := .ref nd_) (C := RX6) (T := TX6) (N := 8) hx hb htA in_X6 hown hK hP 0 rfl rfl 0 (by decide) (htA _ wd_166) (fun _ h => h) rfl dX6_isFreed_1 ?_
  refine va_get (ci := 0) (v := .null) (C := RX0) (T := TX0) (N := 10) hx hb htA in_X0 hown hK hP 2 rfl rfl 9 (by decide) (htA _ wd_105) (fun _ h => h) rfl dX6_isFreed_4 ?_
  refine lv_astore_nN (lv' := [(3, .null), (0, .ref no_), (1, .int t_), (2, .int b_)]) hx hb dX6_isFreed_7 rfl hl (by decide) rfl (fun ls hl => ?_)
  refine lv_iconst (v := 0) hx hb dX6_isFreed_8 (by decide) ?_
  refine lv_istore (lv' := [(4, .int 0), (3, .null), (0, .ref no_), (1, .int t_), (2, .int b_)]) hx hb dX6_isFreed_9 hl (by decide) rfl (fun ls hl => ?_)
  refine loopT (τ := Int32) (WS := fun i => [(no_, .inr (6, [.ref nd_, .int hour_, .ref ns_, .ref nc_, .ref nl_, .ref nt_, .ref nh_, .int fallen_])), (nl_, .inl (cy 0, 8, .inl (fl_))), (nd_, .inr (0, [.int lines_, .int columns_, .int levels_, .int things_, .int walkers_, .ref nw_, .ref nr_, .ref nq_, hangs_, .null]))]) (LV := fun i => [(4, .int i), (3, .null), (0, .ref no_), (1, .int t_), (2, .int b_)]) (fun i => (9 - i.toInt).toNat) (fun i => rg (0) (8) i ∧ Itr (R_X6_isFreed_xN_b1 things_ b_ fl_ t_) 0 i) ?_ 0 ⟨(rg_w (rg_lit (by decide) : rg (0) (0) (0 : Int32)) (by decide) (by decide)), (Itr.rf _ _)⟩ hP hD hS (lv_sub hl [0, 1, 2, 3, 4] rfl)
  intro v201100_ H locs ls hI ih11_ hP hD hS hl
  have hI : rg (0) (8) v201100_ ∧ Itr (R_X6_isFreed_xN_b1 things_ b_ fl_ t_) 0 v201100_ := hI
  obtain ⟨rv201100_, hR1_⟩ := hI
  have hP : va_P D vwCl [(no_, .inr (6, [.ref nd_, .int hour_, .ref ns_, .ref nc_, .ref nl_, .ref nt_, .ref nh_, .int fallen_])), (nl_, .inl (cy 0, 8, .inl (fl_))), (nd_, .inr (0, [.int lines_, .int columns_, .int levels_, .int things_, .int walkers_, .ref nw_, .ref nr_, .ref nq_, hangs_, .null]))] H := hP
  have hD := va_ca hP hD
  have hl : lv_has ls 5 [(4, .int v201100_), (3, .null), (0, .ref no_), (1, .int t_), (2, .int b_)] := hl
  refine lv_iload hx hb dX6_isFreed_11 (lv_at hl 0 rfl) ?_
  refine lv_aload_n hx hb dX6_isFreed_13 rfl (lv_at hl 2 rfl) ?_
  refine va_get (ci := 6) (v := .ref nd_) (C := RX6) (T := TX6) (N := 8) hx hb htA in_X6 hown hK hP 0 rfl rfl 0 (by decide) (htA _ wd_166) (fun _ h => h) rfl dX6_isFreed_14 ?_
  refine va_get (ci := 0) (v := .int things_) (C := RX0) (T := TX0) (N := 10) hx hb htA in_X0 hown hK hP 2 rfl rfl 3 (by decide) (htA _ wd_86) (fun _ h => h) rfl dX6_isFreed_17 ?_
  refine lv_icmp_ge (tgt := 143) hx hb dX6_isFreed_20 (by decide) (fun c20_ => ?_) (fun c20_ => ?_)
  · refine lv_iconst (v := 0) hx hb dX6_isFreed_143 (by decide) ?_
    exact rZ hX (by decide) hE hP hD hS dX6_isFreed_144 (by decide) (by decide) ⟨(Or.inl ⟨v201100_, hR1_, c20_, rfl⟩), rfl, (rg_w (rg_lit (by decide) : rg (0) (0) (0 : Int32)) (by decide) (by decide))⟩
  · have g1_ : rg (0) (7) v201100_ := rg_lt1 (rg_nle c20_) rv201100_ rthings_ (by decide)
    have g2_ : rg (1) (8) things_ := rg_lt2 (rg_nle c20_) rv201100_ rthings_ (by decide)
    refine lv_iload_n hx hb dX6_isFreed_23 rfl (lv_at hl 4 rfl) ?_
    refine lv_iload hx hb dX6_isFreed_24 (lv_at hl 0 rfl) ?_
    refine lv_ishr hx hb dX6_isFreed_26 ?_
    refine lv_iconst (v := 1) hx hb dX6_isFreed_27 (by decide) ?_
    refine lv_iand hx hb dX6_isFreed_28 ?_
    have g3_ : rg (0) (1) ((b_ >>> (v201100_ &&& 31)) &&& 1) := rg_and (by decide) (by decide)
    refine joinT (D := D) (A := A) (pc := 137) (mL := 5) (τ := Unit) (WS := fun i => [(no_, .inr (6, [.ref nd_, .int hour_, .ref ns_, .ref nc_, .ref nl_, .ref nt_, .ref nh_, .int fallen_])), (nl_, .inl (cy 0, 8, .inl (fl_))), (nd_, .inr (0, [.int lines_, .int columns_, .int levels_, .int things_, .int walkers_, .ref nw_, .ref nr_, .ref nq_, hangs_, .null]))]) (LV := fun i => [(4, .int v201100_), (3, .null), (0, .ref no_), (1, .int t_), (2, .int b_)]) (ST := fun i => []) (cells := 0) (slots := 0) (fun i => R_X6_isFreed_xN_j3 b_ v201100_ fl_ t_) (fun u0_ H locs ls hI hP hD hS hl => ?_) (fun j137_ => ?_)
    · have hI : R_X6_isFreed_xN_j3 b_ v201100_ fl_ t_ := hI
      have hR3_ := hI
      have hP : va_P D vwCl [(no_, .inr (6, [.ref nd_, .int hour_, .ref ns_, .ref nc_, .ref nl_, .ref nt_, .ref nh_, .int fallen_])), (nl_, .inl (cy 0, 8, .inl (fl_))), (nd_, .inr (0, [.int lines_, .int columns_, .int levels_, .int things_, .int walkers_, .ref nw_, .ref nr_, .ref nq_, hangs_, .null]))] H := hP
      have hD := va_ca hP hD
      have hl : lv_has ls 5 [(4, .int v201100_), (3, .null), (0, .ref no_), (1, .int t_), (2, .int b_)] := hl
      refine lv_iinc (v := v201100_ + 1) (lv' := [(4, .int (v201100_ + 1)), (3, .null), (0, .ref no_), (1, .int t_), (2, .int b_)]) hx hb dX6_isFreed_137 hl (k := 0) rfl rfl (by decide) rfl (fun ls hl => ?_)
      have g4_ : rg (1) (8) (v201100_ + 1) := rg_add g1_ (rg_lit (by decide) : rg (1) (1) (1 : Int32)) (by decide) (by decide) (by decide) (by decide)
      refine lv_goto (tgt := 11) hx hb dX6_isFreed_140 (by decide) ?_
      exact ih11_ (v201100_ + 1) _ _ ls ⟨(rg_w g4_ (by decide) (by decide)), (Itr.st hR1_ (Or.inl ⟨c20_, hR3_, rfl⟩))⟩ (show (9 - (v201100_ + 1).toInt).toNat < (9 - v201100_.toInt).toNat from by rw [show (v201100_ + 1).toInt = v201100_.toInt + 1 from inc32 v201100_ (by have hq := (rv201100_).2; omega)]; have hq := (g1_).1; have hq2 := (g1_).2; omega) hP hD hS (lv_sub hl [0, 1, 2, 3, 4] rfl)
    refine lv_if_eq (tgt := 137) hx hb dX6_isFreed_29 (by decide) (fun c29_ => ?_) (fun c29_ => ?_)
    · have g5_ : rg (0) (0) ((b_ >>> (v201100_ &&& 31)) &&& 1) := rg_eq c29_ (rg_lit (by decide) : rg (0) (0) (0 : Int32))
      exact j137_ () _ _ ls (Or.inl c29_) hP hD hS (lv_sub hl [0, 1, 2, 3, 4] rfl)
    · have g6_ : rg (1) (1) ((b_ >>> (v201100_ &&& 31)) &&& 1) := rg_ne1 c29_ g3_ (by decide) (by decide)
      refine lv_aload_n hx hb dX6_isFreed_32 rfl (lv_at hl 2 rfl) ?_
      refine va_get (ci := 6) (v := .ref nl_) (C := RX6) (T := TX6) (N := 8) hx hb htA in_X6 hown hK hP 0 rfl rfl 4 (by decide) (htA _ wd_181) (fun _ h => h) rfl dX6_isFreed_33 ?_
      refine lv_iload hx hb dX6_isFreed_36 (lv_at hl 0 rfl) ?_
      refine va_iald hx hb hK hP 1 0 rfl rfl (rg_in g1_ (by decide) (by decide)) dX6_isFreed_38 ?_
      refine lv_topi (fun v10380_ ev10380_ => ?_)
      refine lv_aload_n hx hb dX6_isFreed_39 rfl (lv_at hl 2 rfl) ?_
      refine va_get (ci := 6) (v := .ref nl_) (C := RX6) (T := TX6) (N := 8) hx hb htA in_X6 hown hK hP 0 rfl rfl 4 (by decide) (htA _ wd_181) (fun _ h => h) rfl dX6_isFreed_40 ?_
      refine lv_iload_n hx hb dX6_isFreed_43 rfl (lv_at hl 3 rfl) ?_
      refine va_iald hx hb hK hP 1 0 rfl rfl (rg_in rt_ (by decide) (by decide)) dX6_isFreed_44 ?_
      refine lv_topi (fun v10440_ ev10440_ => ?_)
      refine lv_icmp_gt (tgt := 51) hx hb dX6_isFreed_45 (by decide) (fun c45_ => ?_) (fun c45_ => ?_)
      · have g7_ : rg (-2147483648) (2147483646) v10440_ := rg_lt1 c45_ (rg_any _) (rg_any _) (by decide)
        have g8_ : rg (-2147483647) (2147483647) v10380_ := rg_lt2 c45_ (rg_any _) (rg_any _) (by decide)
        refine lv_aload_nN hx hb dX6_isFreed_51 rfl (lv_at hl 1 rfl) ?_
        refine lv_ifnonnullN hx hb dX6_isFreed_52 ?_
        refine lv_iconst (v := 1) hx hb dX6_isFreed_55 (by decide) ?_
        exact rZ hX (by decide) hE hP hD hS dX6_isFreed_56 (by decide) (by decide) ⟨(Or.inr (Or.inl ⟨v201100_, v10380_, v10440_, hR1_, c20_, c29_, ev10380_, ev10440_, c45_, rfl⟩)), rfl, (rg_w (rg_lit (by decide) : rg (1) (1) (1 : Int32)) (by decide) (by decide))⟩
      · refine lv_goto (tgt := 137) hx hb dX6_isFreed_48 (by decide) ?_
        exact j137_ () _ _ ls (Or.inr (Or.inl ⟨v10380_, v10440_, c29_, ev10380_, ev10440_, c45_⟩)) hP hD hS (lv_sub hl [0, 1, 2, 3, 4] rfl)
def R_X6_isFreed_xR_j3 (b_ : Int32) (v201100_ : Int32) (g201101_ : Nat → Int32) (g201102_ : Nat → Int32) (fl_ : Nat → Int32) (t_ : Int32) (fw_ : Nat → Int32) (hour_ : Int32) (lenF_ : Nat) (fpF_ : Nat → Int32) (g213700_ : Nat → Int32) (g213701_ : Nat → Int32) : Prop := (((b_ >>> (v201100_ &&& 31)) &&& 1) = (0 : Int32) ∧ g213700_ = g201101_ ∧ g213701_ = g201102_) ∨ (∃ (v10380_ : Int32) (v10440_ : Int32) (v10710_ : Int32) (v10860_ : Int32) (v11240_ : Int32) (g11291_ : Nat → Int32) (v11290_ : Int32), ¬ (((b_ >>> (v201100_ &&& 31)) &&& 1) = (0 : Int32)) ∧ v10380_ = fl_ v201100_.toNatClampNeg ∧ v10440_ = fl_ t_.toNatClampNeg ∧ v10440_ < v10380_ ∧ v10710_ = fw_ v201100_.toNatClampNeg ∧ v10860_ = fw_ t_.toNatClampNeg ∧ R_J9_floorMod_7cf53_24_e hour_ ((24 : Int32)) v11240_ ∧ R_X4_value_e lenF_ fpF_ ((upd (upd (upd (upd (upd g201101_ ((0 : Int32).toNatClampNeg) v10710_) ((1 : Int32).toNatClampNeg) v10860_) ((2 : Int32).toNatClampNeg) v10380_) ((3 : Int32).toNatClampNeg) v10440_) ((4 : Int32).toNatClampNeg) v11240_)) g201102_ g11291_ v11290_ ∧ v11290_ = (0 : Int32) ∧ g213700_ = upd (upd (upd (upd (upd g201101_ ((0 : Int32).toNatClampNeg) v10710_) ((1 : Int32).toNatClampNeg) v10860_) ((2 : Int32).toNatClampNeg) v10380_) ((3 : Int32).toNatClampNeg) v10440_) ((4 : Int32).toNatClampNeg) v11240_ ∧ g213701_ = g11291_) ∨ (∃ (v10380_ : Int32) (v10440_ : Int32), ¬ (((b_ >>> (v201100_ &&& 31)) &&& 1) = (0 : Int32)) ∧ v10380_ = fl_ v201100_.toNatClampNeg ∧ v10440_ = fl_ t_.toNatClampNeg ∧ ¬ (v10440_ < v10380_) ∧ g213700_ = g201101_ ∧ g213701_ = g201102_) ∨ False
def R_X6_isFreed_xR_b1 (things_ : Int32) (b_ : Int32) (fl_ : Nat → Int32) (t_ : Int32) (fw_ : Nat → Int32) (hour_ : Int32) (lenF_ : Nat) (fpF_ : Nat → Int32) (uZ_ vZ_ : Int32 × (Nat → Int32) × (Nat → Int32)) : Prop := (∃ (g213700_ : Nat → Int32) (g213701_ : Nat → Int32), ¬ (things_ ≤ uZ_.1) ∧ R_X6_isFreed_xR_j3 b_ uZ_.1 uZ_.2.1 uZ_.2.2 fl_ t_ fw_ hour_ lenF_ fpF_ g213700_ g213701_ ∧ vZ_ = (uZ_.1 + 1, g213700_, g213701_)) ∨ False
def R_X6_isFreed_xR_e (things_ : Int32) (b_ : Int32) (fl_ : Nat → Int32) (t_ : Int32) (fw_ : Nat → Int32) (hour_ : Int32) (lenF_ : Nat) (fpF_ : Nat → Int32) (fgF_ : Nat → Int32) (fkF_ : Nat → Int32) (x0_ : Nat → Int32) (x1_ : Nat → Int32) (r : Int32) : Prop := (∃ (v201100_ : Int32) (g201101_ : Nat → Int32) (g201102_ : Nat → Int32), Itr (R_X6_isFreed_xR_b1 things_ b_ fl_ t_ fw_ hour_ lenF_ fpF_) (0, fgF_, fkF_) (v201100_, g201101_, g201102_) ∧ things_ ≤ v201100_ ∧ x0_ = g201101_ ∧ x1_ = g201102_ ∧ r = (0 : Int32)) ∨ (∃ (v201100_ : Int32) (g201101_ : Nat → Int32) (g201102_ : Nat → Int32) (v10380_ : Int32) (v10440_ : Int32) (v10710_ : Int32) (v10860_ : Int32) (v11240_ : Int32) (g11291_ : Nat → Int32) (v11290_ : Int32), Itr (R_X6_isFreed_xR_b1 things_ b_ fl_ t_ fw_ hour_ lenF_ fpF_) (0, fgF_, fkF_) (v201100_, g201101_, g201102_) ∧ ¬ (things_ ≤ v201100_) ∧ ¬ (((b_ >>> (v201100_ &&& 31)) &&& 1) = (0 : Int32)) ∧ v10380_ = fl_ v201100_.toNatClampNeg ∧ v10440_ = fl_ t_.toNatClampNeg ∧ v10440_ < v10380_ ∧ v10710_ = fw_ v201100_.toNatClampNeg ∧ v10860_ = fw_ t_.toNatClampNeg ∧ R_J9_floorMod_7cf53_24_e hour_ ((24 : Int32)) v11240_ ∧ R_X4_value_e lenF_ fpF_ ((upd (upd (upd (upd (upd g201101_ ((0 : Int32).toNatClampNeg) v10710_) ((1 : Int32).toNatClampNeg) v10860_) ((2 : Int32).toNatClampNeg) v10380_) ((3 : Int32).toNatClampNeg) v10440_) ((4 : Int32).toNatClampNeg) v11240_)) g201102_ g11291_ v11290_ ∧ ¬ (v11290_ = (0 : Int32)) ∧ x0_ = upd (upd (upd (upd (upd g201101_ ((0 : Int32).toNatClampNeg) v10710_) ((1 : Int32).toNatClampNeg) v10860_) ((2 : Int32).toNatClampNeg) v10380_) ((3 : Int32).toNatClampNeg) v10440_) ((4 : Int32).toNatClampNeg) v11240_ ∧ x1_ = g11291_ ∧ r = (1 : Int32)) ∨ False
set_option maxHeartbeats 4000000 in
set_option maxRecDepth 100000 in
theorem sf_X6_isFreed_xR (l : Launch) (D : va_G) (cy : Nat → ClassId) (no_ : Nat) (nd_ : Nat) (hour_ : Int32) (ns_ : Nat) (nc_ : Nat) (nl_ : Nat) (nt_ : Nat) (nh_ : Nat) (fallen_ : Int32) (fl_ : Nat → Int32) (lines_ : Int32) (columns_ : Int32) (levels_ : Int32) (things_ : Int32) (walkers_ : Int32) (nw_ : Nat) (nr_ : Nat) (nq_ : Nat) (hangs_ : Value) (nLF_ : Nat) (fw_ : Nat → Int32) (npF_ : Nat) (ngF_ : Nat) (nkF_ : Nat) (lenF_ : Nat) (fpF_ : Nat → Int32) (fgF_ : Nat → Int32) (fkF_ : Nat → Int32) (t_ : Int32) (b_ : Int32) (hlenF_ : lenF_ ≤ 900) (rcolumns_ : rg (1) (6) columns_) (rlevels_ : rg (1) (9) levels_) (rthings_ : rg (0) (8) things_) (rwalkers_ : rg (0) (4) walkers_) (rt_ : rg (0) (7) t_) : Ci l yX6_isFreed cX6_isFreed 5 (some .boolean) { frames := 2, cells := 0, slots := 0, locals := 55 } D cy [.ref no_, .int t_, .int b_] [(no_, .inr (6, [.ref nd_, .int hour_, .ref ns_, .ref nc_, .ref nl_, .ref nt_, .ref nh_, .int fallen_])), (nl_, .inl (cy 0, 8, .inl (fl_))), (nd_, .inr (0, [.int lines_, .int columns_, .int levels_, .int things_, .int walkers_, .ref nw_, .ref nr_, .ref nq_, hangs_, .ref nLF_])), (nw_, .inl (cy 0, 8, .inl (fw_))), (nLF_, .inr (4, [.ref npF_, .ref ngF_, .ref nkF_])), (npF_, .inl (cy 0, lenF_, .inl (fpF_))), (ngF_, .inl (cy 0, 6, .inl (fgF_))), (nkF_, .inl (cy 0, 32, .inl (fkF_)))] (fun r W1 => ∃ (x0_ : Nat → Int32) (x1_ : Nat → Int32), R_X6_isFreed_xR_e things_ b_ fl_ t_ fw_ hour_ lenF_ fpF_ fgF_ fkF_ x0_ x1_ r ∧ W1 = [(no_, .inr (6, [.ref nd_, .int hour_, .ref ns_, .ref nc_, .ref nl_, .ref nt_, .ref nh_, .int fallen_])), (nl_, .inl (cy 0, 8, .inl (fl_))), (nd_, .inr (0, [.int lines_, .int columns_, .int levels_, .int things_, .int walkers_, .ref nw_, .ref nr_, .ref nq_, hangs_, .ref nLF_])), (nw_, .inl (cy 0, 8, .inl (fw_))), (nLF_, .inr (4, [.ref npF_, .ref ngF_, .ref nkF_])), (npF_, .inl (cy 0, lenF_, .inl (fpF_))), (ngF_, .inl (cy 0, 6, .inl (x0_))), (nkF_, .inl (cy 0, 32, .inl (x1_)))] ∧ rg (0) (1) r) := by
  refine Ci.of (by decide) (Nat.le_of_ble_eq_true rfl) ?_
  intro p e s m below meth c A ls hX hE hP hD hl
  obtain ⟨hx, hb, hr, hml, hown, htA, hlk⟩ := id hX
  have hK := hE.1
  have hS : va_S A s.heap s.heap [] := va_S.rf
  have hl : lv_has ls 5 [(0, .ref no_), (1, .int t_), (2, .int b_)] := hl
  refine lv_aload_n hx hb dX6_isFreed_0 rfl (lv_at hl 0 rfl) ?_
  refine va_get (ci := 6) (v := .ref nd_) (C := RX6) (T := TX6) (N := 8) hx hb htA in_X6 hown hK hP 0 rfl rfl 0 (by decide) (htA _ wd_166) (fun _ h => h) rfl dX6_isFreed_1 ?_
  refine va_get (ci := 0) (v := .ref nLF_) (C := RX0) (T := TX0) (N := 10) hx hb htA in_X0 hown hK hP 2 rfl rfl 9 (by decide) (htA _ wd_105) (fun _ h => h) rfl dX6_isFreed_4 ?_
  refine lv_astore_n (lv' := [(3, .ref nLF_), (0, .ref no_), (1, .int t_), (2, .int b_)]) hx hb dX6_isFreed_7 rfl hl (by decide) rfl (fun ls hl => ?_)
  refine lv_iconst (v := 0) hx hb dX6_isFreed_8 (by decide) ?_
  refine lv_istore (lv' := [(4, .int 0), (3, .ref nLF_), (0, .ref no_), (1, .int t_), (2, .int b_)]) hx hb dX6_isFreed_9 hl (by decide) rfl (fun ls hl => ?_)
  refine loopT (τ := Int32 × (Nat → Int32) × (Nat → Int32)) (WS := fun i => [(no_, .inr (6, [.ref nd_, .int hour_, .ref ns_, .ref nc_, .ref nl_, .ref nt_, .ref nh_, .int fallen_])), (nl_, .inl (cy 0, 8, .inl (fl_))), (nd_, .inr (0, [.int lines_, .int columns_, .int levels_, .int things_, .int walkers_, .ref nw_, .ref nr_, .ref nq_, hangs_, .ref nLF_])), (nw_, .inl (cy 0, 8, .inl (fw_))), (nLF_, .inr (4, [.ref npF_, .ref ngF_, .ref nkF_])), (npF_, .inl (cy 0, lenF_, .inl (fpF_))), (ngF_, .inl (cy 0, 6, .inl (i.2.1))), (nkF_, .inl (cy 0, 32, .inl (i.2.2)))]) (LV := fun i => [(4, .int i.1), (3, .ref nLF_), (0, .ref no_), (1, .int t_), (2, .int b_)]) (fun i => (9 - i.1.toInt).toNat) (fun i => rg (0) (8) i.1 ∧ Itr (R_X6_isFreed_xR_b1 things_ b_ fl_ t_ fw_ hour_ lenF_ fpF_) (0, fgF_, fkF_) (i.1, i.2.1, i.2.2)) ?_ (0, fgF_, fkF_) ⟨(rg_w (rg_lit (by decide) : rg (0) (0) (0 : Int32)) (by decide) (by decide)), (Itr.rf _ _)⟩ hP hD hS (lv_sub hl [0, 1, 2, 3, 4] rfl)
  intro i_ H locs ls hI ih11_ hP hD hS hl
  obtain ⟨v201100_, g201101_, g201102_⟩ := i_
  have hI : rg (0) (8) v201100_ ∧ Itr (R_X6_isFreed_xR_b1 things_ b_ fl_ t_ fw_ hour_ lenF_ fpF_) (0, fgF_, fkF_) (v201100_, g201101_, g201102_) := hI
  obtain ⟨rv201100_, hR1_⟩ := hI
  have hP : va_P D vwCl [(no_, .inr (6, [.ref nd_, .int hour_, .ref ns_, .ref nc_, .ref nl_, .ref nt_, .ref nh_, .int fallen_])), (nl_, .inl (cy 0, 8, .inl (fl_))), (nd_, .inr (0, [.int lines_, .int columns_, .int levels_, .int things_, .int walkers_, .ref nw_, .ref nr_, .ref nq_, hangs_, .ref nLF_])), (nw_, .inl (cy 0, 8, .inl (fw_))), (nLF_, .inr (4, [.ref npF_, .ref ngF_, .ref nkF_])), (npF_, .inl (cy 0, lenF_, .inl (fpF_))), (ngF_, .inl (cy 0, 6, .inl (g201101_))), (nkF_, .inl (cy 0, 32, .inl (g201102_)))] H := hP
  have hD := va_ca hP hD
  have hl : lv_has ls 5 [(4, .int v201100_), (3, .ref nLF_), (0, .ref no_), (1, .int t_), (2, .int b_)] := hl
  refine lv_iload hx hb dX6_isFreed_11 (lv_at hl 0 rfl) ?_
  refine lv_aload_n hx hb dX6_isFreed_13 rfl (lv_at hl 2 rfl) ?_
  refine va_get (ci := 6) (v := .ref nd_) (C := RX6) (T := TX6) (N := 8) hx hb htA in_X6 hown hK hP 0 rfl rfl 0 (by decide) (htA _ wd_166) (fun _ h => h) rfl dX6_isFreed_14 ?_
  refine va_get (ci := 0) (v := .int things_) (C := RX0) (T := TX0) (N := 10) hx hb htA in_X0 hown hK hP 2 rfl rfl 3 (by decide) (htA _ wd_86) (fun _ h => h) rfl dX6_isFreed_17 ?_
  refine lv_icmp_ge (tgt := 143) hx hb dX6_isFreed_20 (by decide) (fun c20_ => ?_) (fun c20_ => ?_)
  · refine lv_iconst (v := 0) hx hb dX6_isFreed_143 (by decide) ?_
    exact rZ hX (by decide) hE hP hD hS dX6_isFreed_144 (by decide) (by decide) ⟨g201101_, g201102_, (Or.inl ⟨v201100_, g201101_, g201102_, hR1_, c20_, rfl, rfl, rfl⟩), rfl, (rg_w (rg_lit (by decide) : rg (0) (0) (0 : Int32)) (by decide) (by decide))⟩
  · have g1_ : rg (0) (7) v201100_ := rg_lt1 (rg_nle c20_) rv201100_ rthings_ (by decide)
    have g2_ : rg (1) (8) things_ := rg_lt2 (rg_nle c20_) rv201100_ rthings_ (by decide)
    refine lv_iload_n hx hb dX6_isFreed_23 rfl (lv_at hl 4 rfl) ?_
    refine lv_iload hx hb dX6_isFreed_24 (lv_at hl 0 rfl) ?_
    refine lv_ishr hx hb dX6_isFreed_26 ?_
    refine lv_iconst (v := 1) hx hb dX6_isFreed_27 (by decide) ?_
    refine lv_iand hx hb dX6_isFreed_28 ?_
    have g3_ : rg (0) (1) ((b_ >>> (v201100_ &&& 31)) &&& 1) := rg_and (by decide) (by decide)
    refine joinT (D := D) (A := A) (pc := 137) (mL := 5) (τ := (Nat → Int32) × (Nat → Int32)) (WS := fun i => [(no_, .inr (6, [.ref nd_, .int hour_, .ref ns_, .ref nc_, .ref nl_, .ref nt_, .ref nh_, .int fallen_])), (nl_, .inl (cy 0, 8, .inl (fl_))), (nd_, .inr (0, [.int lines_, .int columns_, .int levels_, .int things_, .int walkers_, .ref nw_, .ref nr_, .ref nq_, hangs_, .ref nLF_])), (nw_, .inl (cy 0, 8, .inl (fw_))), (nLF_, .inr (4, [.ref npF_, .ref ngF_, .ref nkF_])), (npF_, .inl (cy 0, lenF_, .inl (fpF_))), (ngF_, .inl (cy 0, 6, .inl (i.1))), (nkF_, .inl (cy 0, 32, .inl (i.2)))]) (LV := fun i => [(4, .int v201100_), (3, .ref nLF_), (0, .ref no_), (1, .int t_), (2, .int b_)]) (ST := fun i => []) (cells := 0) (slots := 0) (fun i => R_X6_isFreed_xR_j3 b_ v201100_ g201101_ g201102_ fl_ t_ fw_ hour_ lenF_ fpF_ i.1 i.2) (fun i_ H locs ls hI hP hD hS hl => ?_) (fun j137_ => ?_)
    · obtain ⟨g213700_, g213701_⟩ := i_
      have hI : R_X6_isFreed_xR_j3 b_ v201100_ g201101_ g201102_ fl_ t_ fw_ hour_ lenF_ fpF_ g213700_ g213701_ := hI
      have hR3_ := hI
      have hP : va_P D vwCl [(no_, .inr (6, [.ref nd_, .int hour_, .ref ns_, .ref nc_, .ref nl_, .ref nt_, .ref nh_, .int fallen_])), (nl_, .inl (cy 0, 8, .inl (fl_))), (nd_, .inr (0, [.int lines_, .int columns_, .int levels_, .int things_, .int walkers_, .ref nw_, .ref nr_, .ref nq_, hangs_, .ref nLF_])), (nw_, .inl (cy 0, 8, .inl (fw_))), (nLF_, .inr (4, [.ref npF_, .ref ngF_, .ref nkF_])), (npF_, .inl (cy 0, lenF_, .inl (fpF_))), (ngF_, .inl (cy 0, 6, .inl (g213700_))), (nkF_, .inl (cy 0, 32, .inl (g213701_)))] H := hP
      have hD := va_ca hP hD
      have hl : lv_has ls 5 [(4, .int v201100_), (3, .ref nLF_), (0, .ref no_), (1, .int t_), (2, .int b_)] := hl
      refine lv_iinc (v := v201100_ + 1) (lv' := [(4, .int (v201100_ + 1)), (3, .ref nLF_), (0, .ref no_), (1, .int t_), (2, .int b_)]) hx hb dX6_isFreed_137 hl (k := 0) rfl rfl (by decide) rfl (fun ls hl => ?_)
      have g4_ : rg (1) (8) (v201100_ + 1) := rg_add g1_ (rg_lit (by decide) : rg (1) (1) (1 : Int32)) (by decide) (by decide) (by decide) (by decide)
      refine lv_goto (tgt := 11) hx hb dX6_isFreed_140 (by decide) ?_
      exact ih11_ (v201100_ + 1, g213700_, g213701_) _ _ ls ⟨(rg_w g4_ (by decide) (by decide)), (Itr.st hR1_ (Or.inl ⟨g213700_, g213701_, c20_, hR3_, rfl⟩))⟩ (show (9 - (v201100_ + 1).toInt).toNat < (9 - v201100_.toInt).toNat from by rw [show (v201100_ + 1).toInt = v201100_.toInt + 1 from inc32 v201100_ (by have hq := (rv201100_).2; omega)]; have hq := (g1_).1; have hq2 := (g1_).2; omega) hP hD hS (lv_sub hl [0, 1, 2, 3, 4] rfl)
    refine lv_if_eq (tgt := 137) hx hb dX6_isFreed_29 (by decide) (fun c29_ => ?_) (fun c29_ => ?_)
    · have g5_ : rg (0) (0) ((b_ >>> (v201100_ &&& 31)) &&& 1) := rg_eq c29_ (rg_lit (by decide) : rg (0) (0) (0 : Int32))
      exact j137_ (g201101_, g201102_) _ _ ls (Or.inl ⟨c29_, rfl, rfl⟩) hP hD hS (lv_sub hl [0, 1, 2, 3, 4] rfl)
    · have g6_ : rg (1) (1) ((b_ >>> (v201100_ &&& 31)) &&& 1) := rg_ne1 c29_ g3_ (by decide) (by decide)
      refine lv_aload_n hx hb dX6_isFreed_32 rfl (lv_at hl 2 rfl) ?_
      refine va_get (ci := 6) (v := .ref nl_) (C := RX6) (T := TX6) (N := 8) hx hb htA in_X6 hown hK hP 0 rfl rfl 4 (by decide) (htA _ wd_181) (fun _ h => h) rfl dX6_isFreed_33 ?_
      refine lv_iload hx hb dX6_isFreed_36 (lv_at hl 0 rfl) ?_
      refine va_iald hx hb hK hP 1 0 rfl rfl (rg_in g1_ (by decide) (by decide)) dX6_isFreed_38 ?_
      refine lv_topi (fun v10380_ ev10380_ => ?_)
      refine lv_aload_n hx hb dX6_isFreed_39 rfl (lv_at hl 2 rfl) ?_
      refine va_get (ci := 6) (v := .ref nl_) (C := RX6) (T := TX6) (N := 8) hx hb htA in_X6 hown hK hP 0 rfl rfl 4 (by decide) (htA _ wd_181) (fun _ h => h) rfl dX6_isFreed_40 ?_
      refine lv_iload_n hx hb dX6_isFreed_43 rfl (lv_at hl 3 rfl) ?_
      refine va_iald hx hb hK hP 1 0 rfl rfl (rg_in rt_ (by decide) (by decide)) dX6_isFreed_44 ?_
      refine lv_topi (fun v10440_ ev10440_ => ?_)
      refine lv_icmp_gt (tgt := 51) hx hb dX6_isFreed_45 (by decide) (fun c45_ => ?_) (fun c45_ => ?_)
      · have g7_ : rg (-2147483648) (2147483646) v10440_ := rg_lt1 c45_ (rg_any _) (rg_any _) (by decide)
        have g8_ : rg (-2147483647) (2147483647) v10380_ := rg_lt2 c45_ (rg_any _) (rg_any _) (by decide)
        refine lv_aload_n hx hb dX6_isFreed_51 rfl (lv_at hl 1 rfl) ?_
        refine lv_ifnonnull (tgt := 57) hx hb dX6_isFreed_52 (by decide) ?_
        refine lv_aload_n hx hb dX6_isFreed_57 rfl (lv_at hl 1 rfl) ?_
        refine va_get (ci := 4) (v := .ref ngF_) (C := RX4) (T := TX4) (N := 3) hx hb htA in_X4 hown hK hP 4 rfl rfl 1 (by decide) (htA _ wd_824) (fun _ h => h) rfl dX6_isFreed_58 ?_
        refine lv_iconst (v := 0) hx hb dX6_isFreed_61 (by decide) ?_
        refine lv_aload_n hx hb dX6_isFreed_62 rfl (lv_at hl 2 rfl) ?_
        refine va_get (ci := 6) (v := .ref nd_) (C := RX6) (T := TX6) (N := 8) hx hb htA in_X6 hown hK hP 0 rfl rfl 0 (by decide) (htA _ wd_166) (fun _ h => h) rfl dX6_isFreed_63 ?_
        refine va_get (ci := 0) (v := .ref nw_) (C := RX0) (T := TX0) (N := 10) hx hb htA in_X0 hown hK hP 2 rfl rfl 5 (by decide) (htA _ wd_96) (fun _ h => h) rfl dX6_isFreed_66 ?_
        refine lv_iload hx hb dX6_isFreed_69 (lv_at hl 0 rfl) ?_
        refine va_iald hx hb hK hP 3 0 rfl rfl (rg_in g1_ (by decide) (by decide)) dX6_isFreed_71 ?_
        refine lv_topi (fun v10710_ ev10710_ => ?_)
        refine va_iast hx hb hK hP hD hS 6 0 rfl rfl (in_lit (by decide)) dX6_isFreed_72 (fun H locs hP hD hS => ?_)
        have hP : va_P D vwCl [(no_, .inr (6, [.ref nd_, .int hour_, .ref ns_, .ref nc_, .ref nl_, .ref nt_, .ref nh_, .int fallen_])), (nl_, .inl (cy 0, 8, .inl (fl_))), (nd_, .inr (0, [.int lines_, .int columns_, .int levels_, .int things_, .int walkers_, .ref nw_, .ref nr_, .ref nq_, hangs_, .ref nLF_])), (nw_, .inl (cy 0, 8, .inl (fw_))), (nLF_, .inr (4, [.ref npF_, .ref ngF_, .ref nkF_])), (npF_, .inl (cy 0, lenF_, .inl (fpF_))), (ngF_, .inl (cy 0, 6, .inl (upd g201101_ ((0 : Int32).toNatClampNeg) v10710_))), (nkF_, .inl (cy 0, 32, .inl (g201102_)))] H := hP
        have hD := va_ca hP hD
        refine lv_aload_n hx hb dX6_isFreed_73 rfl (lv_at hl 1 rfl) ?_
        refine va_get (ci := 4) (v := .ref ngF_) (C := RX4) (T := TX4) (N := 3) hx hb htA in_X4 hown hK hP 4 rfl rfl 1 (by decide) (htA _ wd_824) (fun _ h => h) rfl dX6_isFreed_74 ?_
        refine lv_iconst (v := 1) hx hb dX6_isFreed_77 (by decide) ?_
        refine lv_aload_n hx hb dX6_isFreed_78 rfl (lv_at hl 2 rfl) ?_
        refine va_get (ci := 6) (v := .ref nd_) (C := RX6) (T := TX6) (N := 8) hx hb htA in_X6 hown hK hP 0 rfl rfl 0 (by decide) (htA _ wd_166) (fun _ h => h) rfl dX6_isFreed_79 ?_
        refine va_get (ci := 0) (v := .ref nw_) (C := RX0) (T := TX0) (N := 10) hx hb htA in_X0 hown hK hP 2 rfl rfl 5 (by decide) (htA _ wd_96) (fun _ h => h) rfl dX6_isFreed_82 ?_
        refine lv_iload_n hx hb dX6_isFreed_85 rfl (lv_at hl 3 rfl) ?_
        refine va_iald hx hb hK hP 3 0 rfl rfl (rg_in rt_ (by decide) (by decide)) dX6_isFreed_86 ?_
        refine lv_topi (fun v10860_ ev10860_ => ?_)
        refine va_iast hx hb hK hP hD hS 6 0 rfl rfl (in_lit (by decide)) dX6_isFreed_87 (fun H locs hP hD hS => ?_)
        have hP : va_P D vwCl [(no_, .inr (6, [.ref nd_, .int hour_, .ref ns_, .ref nc_, .ref nl_, .ref nt_, .ref nh_, .int fallen_])), (nl_, .inl (cy 0, 8, .inl (fl_))), (nd_, .inr (0, [.int lines_, .int columns_, .int levels_, .int things_, .int walkers_, .ref nw_, .ref nr_, .ref nq_, hangs_, .ref nLF_])), (nw_, .inl (cy 0, 8, .inl (fw_))), (nLF_, .inr (4, [.ref npF_, .ref ngF_, .ref nkF_])), (npF_, .inl (cy 0, lenF_, .inl (fpF_))), (ngF_, .inl (cy 0, 6, .inl (upd (upd g201101_ ((0 : Int32).toNatClampNeg) v10710_) ((1 : Int32).toNatClampNeg) v10860_))), (nkF_, .inl (cy 0, 32, .inl (g201102_)))] H := hP
        have hD := va_ca hP hD
        refine lv_aload_n hx hb dX6_isFreed_88 rfl (lv_at hl 1 rfl) ?_
        refine va_get (ci := 4) (v := .ref ngF_) (C := RX4) (T := TX4) (N := 3) hx hb htA in_X4 hown hK hP 4 rfl rfl 1 (by decide) (htA _ wd_824) (fun _ h => h) rfl dX6_isFreed_89 ?_
        refine lv_iconst (v := 2) hx hb dX6_isFreed_92 (by decide) ?_
        refine lv_aload_n hx hb dX6_isFreed_93 rfl (lv_at hl 2 rfl) ?_
        refine va_get (ci := 6) (v := .ref nl_) (C := RX6) (T := TX6) (N := 8) hx hb htA in_X6 hown hK hP 0 rfl rfl 4 (by decide) (htA _ wd_181) (fun _ h => h) rfl dX6_isFreed_94 ?_
        refine lv_iload hx hb dX6_isFreed_97 (lv_at hl 0 rfl) ?_
        refine va_iald hx hb hK hP 1 0 rfl rfl (rg_in g1_ (by decide) (by decide)) dX6_isFreed_99 ?_
        refine lv_topi (fun v10990_ ev10990_ => ?_)
        obtain rfl : v10380_ = v10990_ := ev10380_.trans ev10990_.symm
        refine va_iast hx hb hK hP hD hS 6 0 rfl rfl (in_lit (by decide)) dX6_isFreed_100 (fun H locs hP hD hS => ?_)
        have hP : va_P D vwCl [(no_, .inr (6, [.ref nd_, .int hour_, .ref ns_, .ref nc_, .ref nl_, .ref nt_, .ref nh_, .int fallen_])), (nl_, .inl (cy 0, 8, .inl (fl_))), (nd_, .inr (0, [.int lines_, .int columns_, .int levels_, .int things_, .int walkers_, .ref nw_, .ref nr_, .ref nq_, hangs_, .ref nLF_])), (nw_, .inl (cy 0, 8, .inl (fw_))), (nLF_, .inr (4, [.ref npF_, .ref ngF_, .ref nkF_])), (npF_, .inl (cy 0, lenF_, .inl (fpF_))), (ngF_, .inl (cy 0, 6, .inl (upd (upd (upd g201101_ ((0 : Int32).toNatClampNeg) v10710_) ((1 : Int32).toNatClampNeg) v10860_) ((2 : Int32).toNatClampNeg) v10380_))), (nkF_, .inl (cy 0, 32, .inl (g201102_)))] H := hP
        have hD := va_ca hP hD
        refine lv_aload_n hx hb dX6_isFreed_101 rfl (lv_at hl 1 rfl) ?_
        refine va_get (ci := 4) (v := .ref ngF_) (C := RX4) (T := TX4) (N := 3) hx hb htA in_X4 hown hK hP 4 rfl rfl 1 (by decide) (htA _ wd_824) (fun _ h => h) rfl dX6_isFreed_102 ?_
        refine lv_iconst (v := 3) hx hb dX6_isFreed_105 (by decide) ?_
        refine lv_aload_n hx hb dX6_isFreed_106 rfl (lv_at hl 2 rfl) ?_
        refine va_get (ci := 6) (v := .ref nl_) (C := RX6) (T := TX6) (N := 8) hx hb htA in_X6 hown hK hP 0 rfl rfl 4 (by decide) (htA _ wd_181) (fun _ h => h) rfl dX6_isFreed_107 ?_
        refine lv_iload_n hx hb dX6_isFreed_110 rfl (lv_at hl 3 rfl) ?_
        refine va_iald hx hb hK hP 1 0 rfl rfl (rg_in rt_ (by decide) (by decide)) dX6_isFreed_111 ?_
        refine lv_topi (fun v11110_ ev11110_ => ?_)
        obtain rfl : v10440_ = v11110_ := ev10440_.trans ev11110_.symm
        refine va_iast hx hb hK hP hD hS 6 0 rfl rfl (in_lit (by decide)) dX6_isFreed_112 (fun H locs hP hD hS => ?_)
        have hP : va_P D vwCl [(no_, .inr (6, [.ref nd_, .int hour_, .ref ns_, .ref nc_, .ref nl_, .ref nt_, .ref nh_, .int fallen_])), (nl_, .inl (cy 0, 8, .inl (fl_))), (nd_, .inr (0, [.int lines_, .int columns_, .int levels_, .int things_, .int walkers_, .ref nw_, .ref nr_, .ref nq_, hangs_, .ref nLF_])), (nw_, .inl (cy 0, 8, .inl (fw_))), (nLF_, .inr (4, [.ref npF_, .ref ngF_, .ref nkF_])), (npF_, .inl (cy 0, lenF_, .inl (fpF_))), (ngF_, .inl (cy 0, 6, .inl (upd (upd (upd (upd g201101_ ((0 : Int32).toNatClampNeg) v10710_) ((1 : Int32).toNatClampNeg) v10860_) ((2 : Int32).toNatClampNeg) v10380_) ((3 : Int32).toNatClampNeg) v10440_))), (nkF_, .inl (cy 0, 32, .inl (g201102_)))] H := hP
        have hD := va_ca hP hD
        refine lv_aload_n hx hb dX6_isFreed_113 rfl (lv_at hl 1 rfl) ?_
        refine va_get (ci := 4) (v := .ref ngF_) (C := RX4) (T := TX4) (N := 3) hx hb htA in_X4 hown hK hP 4 rfl rfl 1 (by decide) (htA _ wd_824) (fun _ h => h) rfl dX6_isFreed_114 ?_
        refine lv_iconst (v := 4) hx hb dX6_isFreed_117 (by decide) ?_
        refine lv_aload_n hx hb dX6_isFreed_118 rfl (lv_at hl 2 rfl) ?_
        refine va_get (ci := 6) (v := .int hour_) (C := RX6) (T := TX6) (N := 8) hx hb htA in_X6 hown hK hP 0 rfl rfl 1 (by decide) (htA _ wd_170) (fun _ h => h) rfl dX6_isFreed_119 ?_
        refine lv_bipush (v := 24) hx hb dX6_isFreed_122 (by decide) ?_
        refine kSi (As := [.int hour_, .int 24]) (rest := [.int 4, .ref ngF_]) (wr := [(no_, .inr (6, [.ref nd_, .int hour_, .ref ns_, .ref nc_, .ref nl_, .ref nt_, .ref nh_, .int fallen_])), (nl_, .inl (cy 0, 8, .inl (fl_))), (nd_, .inr (0, [.int lines_, .int columns_, .int levels_, .int things_, .int walkers_, .ref nw_, .ref nr_, .ref nq_, hangs_, .ref nLF_])), (nw_, .inl (cy 0, 8, .inl (fw_))), (nLF_, .inr (4, [.ref npF_, .ref ngF_, .ref nkF_])), (npF_, .inl (cy 0, lenF_, .inl (fpF_))), (ngF_, .inl (cy 0, 6, .inl (upd (upd (upd (upd g201101_ ((0 : Int32).toNatClampNeg) v10710_) ((1 : Int32).toNatClampNeg) v10860_) ((2 : Int32).toNatClampNeg) v10380_) ((3 : Int32).toNatClampNeg) v10440_))), (nkF_, .inl (cy 0, 32, .inl (g201102_)))]) hX hE (sf_J9_floorMod_7cf53_24 l D cy hour_ (24 : Int32) (rg_w (rg_lit (by decide) : rg (24) (24) (24 : Int32)) (by decide) (by decide))) (cwSA 2 htA wd_405 wd_446 wd_19 wd_404 (by decide +kernel) ⟨by decide, by decide⟩) hP hD hS [] [0, 1, 2, 3, 4, 5, 6, 7] rfl rfl (by decide +kernel) rfl hl.1 rfl (Nat.le_of_ble_eq_true rfl) dX6_isFreed_124 (by decide) (fun v11240_ W1 H locs hw hP hD hS => ?_)
        refine W.widen (k := 0) (n := 0) (by decide) (by decide) ?_
        obtain ⟨k124_0_, rfl, kr124_⟩ := hw
        have hP : va_P D vwCl [(no_, .inr (6, [.ref nd_, .int hour_, .ref ns_, .ref nc_, .ref nl_, .ref nt_, .ref nh_, .int fallen_])), (nl_, .inl (cy 0, 8, .inl (fl_))), (nd_, .inr (0, [.int lines_, .int columns_, .int levels_, .int things_, .int walkers_, .ref nw_, .ref nr_, .ref nq_, hangs_, .ref nLF_])), (nw_, .inl (cy 0, 8, .inl (fw_))), (nLF_, .inr (4, [.ref npF_, .ref ngF_, .ref nkF_])), (npF_, .inl (cy 0, lenF_, .inl (fpF_))), (ngF_, .inl (cy 0, 6, .inl (upd (upd (upd (upd g201101_ ((0 : Int32).toNatClampNeg) v10710_) ((1 : Int32).toNatClampNeg) v10860_) ((2 : Int32).toNatClampNeg) v10380_) ((3 : Int32).toNatClampNeg) v10440_))), (nkF_, .inl (cy 0, 32, .inl (g201102_)))] H := hP
        have hD := va_ca hP hD
        refine va_iast hx hb hK hP hD hS 6 0 rfl rfl (in_lit (by decide)) dX6_isFreed_127 (fun H locs hP hD hS => ?_)
        have hP : va_P D vwCl [(no_, .inr (6, [.ref nd_, .int hour_, .ref ns_, .ref nc_, .ref nl_, .ref nt_, .ref nh_, .int fallen_])), (nl_, .inl (cy 0, 8, .inl (fl_))), (nd_, .inr (0, [.int lines_, .int columns_, .int levels_, .int things_, .int walkers_, .ref nw_, .ref nr_, .ref nq_, hangs_, .ref nLF_])), (nw_, .inl (cy 0, 8, .inl (fw_))), (nLF_, .inr (4, [.ref npF_, .ref ngF_, .ref nkF_])), (npF_, .inl (cy 0, lenF_, .inl (fpF_))), (ngF_, .inl (cy 0, 6, .inl (upd (upd (upd (upd (upd g201101_ ((0 : Int32).toNatClampNeg) v10710_) ((1 : Int32).toNatClampNeg) v10860_) ((2 : Int32).toNatClampNeg) v10380_) ((3 : Int32).toNatClampNeg) v10440_) ((4 : Int32).toNatClampNeg) v11240_))), (nkF_, .inl (cy 0, 32, .inl (g201102_)))] H := hP
        have hD := va_ca hP hD
        refine lv_aload_n hx hb dX6_isFreed_128 rfl (lv_at hl 1 rfl) ?_
        refine kVi (As := []) (rest := []) (wr := [(no_, .inr (6, [.ref nd_, .int hour_, .ref ns_, .ref nc_, .ref nl_, .ref nt_, .ref nh_, .int fallen_])), (nl_, .inl (cy 0, 8, .inl (fl_))), (nd_, .inr (0, [.int lines_, .int columns_, .int levels_, .int things_, .int walkers_, .ref nw_, .ref nr_, .ref nq_, hangs_, .ref nLF_])), (nw_, .inl (cy 0, 8, .inl (fw_)))]) hX hE (sf_X4_value l D cy nLF_ npF_ ngF_ nkF_ lenF_ fpF_ (upd (upd (upd (upd (upd g201101_ ((0 : Int32).toNatClampNeg) v10710_) ((1 : Int32).toNatClampNeg) v10860_) ((2 : Int32).toNatClampNeg) v10380_) ((3 : Int32).toNatClampNeg) v10440_) ((4 : Int32).toNatClampNeg) v11240_) g201102_ hlenF_) (cwVA 0 htA wd_409 wd_447 wd_21 wd_407 wd_408 (by decide +kernel) ⟨by decide, by decide⟩) hP hD hS [4, 5, 6, 7] [0, 1, 2, 3] rfl rfl (by decide +kernel) 0 rfl rfl rfl rfl hl.1 rfl (Nat.le_of_ble_eq_true rfl) dX6_isFreed_129 (by decide) (fun v11290_ W1 H locs hw hP hD hS => ?_)
        refine W.widen (k := 0) (n := 0) (by decide) (by decide) ?_
        obtain ⟨g11291_, k129_0_, rfl⟩ := hw
        have hP : va_P D vwCl [(no_, .inr (6, [.ref nd_, .int hour_, .ref ns_, .ref nc_, .ref nl_, .ref nt_, .ref nh_, .int fallen_])), (nl_, .inl (cy 0, 8, .inl (fl_))), (nd_, .inr (0, [.int lines_, .int columns_, .int levels_, .int things_, .int walkers_, .ref nw_, .ref nr_, .ref nq_, hangs_, .ref nLF_])), (nw_, .inl (cy 0, 8, .inl (fw_))), (nLF_, .inr (4, [.ref npF_, .ref ngF_, .ref nkF_])), (npF_, .inl (cy 0, lenF_, .inl (fpF_))), (ngF_, .inl (cy 0, 6, .inl (upd (upd (upd (upd (upd g201101_ ((0 : Int32).toNatClampNeg) v10710_) ((1 : Int32).toNatClampNeg) v10860_) ((2 : Int32).toNatClampNeg) v10380_) ((3 : Int32).toNatClampNeg) v10440_) ((4 : Int32).toNatClampNeg) v11240_))), (nkF_, .inl (cy 0, 32, .inl (g11291_)))] H := hP
        have hD := va_ca hP hD
        refine lv_if_eq (tgt := 137) hx hb dX6_isFreed_132 (by decide) (fun c132_ => ?_) (fun c132_ => ?_)
        · have g9_ : rg (0) (0) v11290_ := rg_eq c132_ (rg_lit (by decide) : rg (0) (0) (0 : Int32))
          exact j137_ (upd (upd (upd (upd (upd g201101_ ((0 : Int32).toNatClampNeg) v10710_) ((1 : Int32).toNatClampNeg) v10860_) ((2 : Int32).toNatClampNeg) v10380_) ((3 : Int32).toNatClampNeg) v10440_) ((4 : Int32).toNatClampNeg) v11240_, g11291_) _ _ ls (Or.inr (Or.inl ⟨v10380_, v10440_, v10710_, v10860_, v11240_, g11291_, v11290_, c29_, ev10380_, ev10440_, c45_, ev10710_, ev10860_, k124_0_, k129_0_, c132_, rfl, rfl⟩)) hP hD hS (lv_sub hl [0, 1, 2, 3, 4] rfl)
        · refine lv_iconst (v := 1) hx hb dX6_isFreed_135 (by decide) ?_
          exact rZ hX (by decide) hE hP hD hS dX6_isFreed_136 (by decide) (by decide) ⟨(upd (upd (upd (upd (upd g201101_ ((0 : Int32).toNatClampNeg) v10710_) ((1 : Int32).toNatClampNeg) v10860_) ((2 : Int32).toNatClampNeg) v10380_) ((3 : Int32).toNatClampNeg) v10440_) ((4 : Int32).toNatClampNeg) v11240_), g11291_, (Or.inr (Or.inl ⟨v201100_, g201101_, g201102_, v10380_, v10440_, v10710_, v10860_, v11240_, g11291_, v11290_, hR1_, c20_, c29_, ev10380_, ev10440_, c45_, ev10710_, ev10860_, k124_0_, k129_0_, c132_, rfl, rfl, rfl⟩)), rfl, (rg_w (rg_lit (by decide) : rg (1) (1) (1 : Int32)) (by decide) (by decide))⟩
      · refine lv_goto (tgt := 137) hx hb dX6_isFreed_48 (by decide) ?_
        exact j137_ (g201101_, g201102_) _ _ ls (Or.inr (Or.inr (Or.inl ⟨v10380_, v10440_, c29_, ev10380_, ev10440_, c45_, rfl, rfl⟩))) hP hD hS (lv_sub hl [0, 1, 2, 3, 4] rfl)
def R_X6_falling_xN_j6 (v10800_ : Int32) (v10100_ : Int32) (v10840_ : Int32) (things_ : Int32) (v203101_ : Int32) (fl_ : Nat → Int32) (v203100_ : Int32) : Prop := (v10800_ < (v10100_ + v10840_)) ∨ (∃ (v10950_ : Int32), ¬ (v10800_ < (v10100_ + v10840_)) ∧ R_X6_isFreed_xN_e things_ v203101_ fl_ v203100_ v10950_ ∧ ¬ (v10950_ = (0 : Int32))) ∨ False
def R_X6_falling_xN_j5 (v10490_ : Int32) (v203101_ : Int32) (fc_ : Nat → Int32) (v203100_ : Int32) (c_ : Int32) (fl_ : Nat → Int32) (v10100_ : Int32) (things_ : Int32) (v210800_ : Int32) : Prop := (¬ v10490_ = (1 : Int32) ∧ v210800_ = v203101_) ∨ (∃ (v10600_ : Int32), v10490_ = (1 : Int32) ∧ v10600_ = fc_ v203100_.toNatClampNeg ∧ ¬ v10600_ = c_ ∧ v210800_ = v203101_) ∨ (∃ (v10600_ : Int32), v10490_ = (1 : Int32) ∧ v10600_ = fc_ v203100_.toNatClampNeg ∧ v10600_ = c_ ∧ ¬ ((v203101_ >>> (v203100_ &&& 31)) &&& 1) = (0 : Int32) ∧ v210800_ = v203101_) ∨ (∃ (v10600_ : Int32) (v10800_ : Int32) (v10840_ : Int32), v10490_ = (1 : Int32) ∧ v10600_ = fc_ v203100_.toNatClampNeg ∧ v10600_ = c_ ∧ ((v203101_ >>> (v203100_ &&& 31)) &&& 1) = (0 : Int32) ∧ v10800_ = fl_ v203100_.toNatClampNeg ∧ R_J6_bitCount_0f7a4_e v203101_ v10840_ ∧ R_X6_falling_xN_j6 v10800_ v10100_ v10840_ things_ v203101_ fl_ v203100_ ∧ v210800_ = v203101_ ||| (1 <<< (v203100_ &&& 31))) ∨ (∃ (v10600_ : Int32) (v10800_ : Int32) (v10840_ : Int32) (v10950_ : Int32), v10490_ = (1 : Int32) ∧ v10600_ = fc_ v203100_.toNatClampNeg ∧ v10600_ = c_ ∧ ((v203101_ >>> (v203100_ &&& 31)) &&& 1) = (0 : Int32) ∧ v10800_ = fl_ v203100_.toNatClampNeg ∧ R_J6_bitCount_0f7a4_e v203101_ v10840_ ∧ ¬ (v10800_ < (v10100_ + v10840_)) ∧ R_X6_isFreed_xN_e things_ v203101_ fl_ v203100_ v10950_ ∧ v10950_ = (0 : Int32) ∧ v210800_ = v203101_) ∨ False
def R_X6_falling_xN_b4 (things_ : Int32) (fs_ : Nat → Int32) (fc_ : Nat → Int32) (c_ : Int32) (fl_ : Nat → Int32) (v10100_ : Int32) (uZ_ vZ_ : Int32 × Int32) : Prop := (∃ (v10490_ : Int32) (v210800_ : Int32), ¬ (things_ ≤ uZ_.1) ∧ v10490_ = fs_ uZ_.1.toNatClampNeg ∧ R_X6_falling_xN_j5 v10490_ uZ_.2 fc_ uZ_.1 c_ fl_ v10100_ things_ v210800_ ∧ vZ_ = (uZ_.1 + 1, v210800_)) ∨ False
def R_X6_falling_xN_b1 (things_ : Int32) (fs_ : Nat → Int32) (fc_ : Nat → Int32) (c_ : Int32) (fl_ : Nat → Int32) (v10100_ : Int32) (uZ_ vZ_ : Int32 × Int32) : Prop := (∃ (v203100_ : Int32) (v203101_ : Int32), ¬ ((8 : Int32) ≤ uZ_.1) ∧ Itr (R_X6_falling_xN_b4 things_ fs_ fc_ c_ fl_ v10100_) (0, uZ_.2) (v203100_, v203101_) ∧ things_ ≤ v203100_ ∧ ¬ v203101_ = uZ_.2 ∧ vZ_ = (uZ_.1 + 1, v203101_)) ∨ False
def R_X6_falling_xN_j2 (v201800_ : Int32) (v201801_ : Int32) (things_ : Int32) (fs_ : Nat → Int32) (fc_ : Nat → Int32) (c_ : Int32) (fl_ : Nat → Int32) (v10100_ : Int32) (v212900_ : Int32) : Prop := ((8 : Int32) ≤ v201800_ ∧ v212900_ = v201801_) ∨ (∃ (v203100_ : Int32) (v203101_ : Int32), ¬ ((8 : Int32) ≤ v201800_) ∧ Itr (R_X6_falling_xN_b4 things_ fs_ fc_ c_ fl_ v10100_) (0, v201801_) (v203100_, v203101_) ∧ things_ ≤ v203100_ ∧ v203101_ = v201801_ ∧ v212900_ = v203101_) ∨ False
def R_X6_falling_xN_e (b_ : Int32) (things_ : Int32) (fs_ : Nat → Int32) (fc_ : Nat → Int32) (c_ : Int32) (fl_ : Nat → Int32) (r : Int32) : Prop := (∃ (v10100_ : Int32) (v201800_ : Int32) (v201801_ : Int32) (v212900_ : Int32), ¬ b_ = (0 : Int32) ∧ R_X6_lying_e things_ fs_ fc_ c_ v10100_ ∧ Itr (R_X6_falling_xN_b1 things_ fs_ fc_ c_ fl_ v10100_) (0, b_) (v201800_, v201801_) ∧ R_X6_falling_xN_j2 v201800_ v201801_ things_ fs_ fc_ c_ fl_ v10100_ v212900_ ∧ r = v212900_) ∨ (b_ = (0 : Int32) ∧ r = (0 : Int32)) ∨ False
set_option maxHeartbeats 4000000 in
set_option maxRecDepth 100000 in
theorem sf_X6_falling_xN (l : Launch) (D : va_G) (cy : Nat → ClassId) (no_ : Nat) (nd_ : Nat) (hour_ : Int32) (ns_ : Nat) (nc_ : Nat) (nl_ : Nat) (nt_ : Nat) (nh_ : Nat) (fallen_ : Int32) (fs_ : Nat → Int32) (fc_ : Nat → Int32) (fl_ : Nat → Int32) (lines_ : Int32) (columns_ : Int32) (levels_ : Int32) (things_ : Int32) (walkers_ : Int32) (nw_ : Nat) (nr_ : Nat) (nq_ : Nat) (hangs_ : Value) (c_ : Int32) (b_ : Int32) (rcolumns_ : rg (1) (6) columns_) (rlevels_ : rg (1) (9) levels_) (rthings_ : rg (0) (8) things_) (rwalkers_ : rg (0) (4) walkers_) : Ci l yX6_falling cX6_falling 8 (some .int) { frames := 1, cells := 0, slots := 0, locals := 24 } D cy [.ref no_, .int c_, .int b_] [(no_, .inr (6, [.ref nd_, .int hour_, .ref ns_, .ref nc_, .ref nl_, .ref nt_, .ref nh_, .int fallen_])), (ns_, .inl (cy 0, 8, .inl (fs_))), (nc_, .inl (cy 0, 8, .inl (fc_))), (nl_, .inl (cy 0, 8, .inl (fl_))), (nd_, .inr (0, [.int lines_, .int columns_, .int levels_, .int things_, .int walkers_, .ref nw_, .ref nr_, .ref nq_, hangs_, .null]))] (fun r W1 => R_X6_falling_xN_e b_ things_ fs_ fc_ c_ fl_ r ∧ W1 = [(no_, .inr (6, [.ref nd_, .int hour_, .ref ns_, .ref nc_, .ref nl_, .ref nt_, .ref nh_, .int fallen_])), (ns_, .inl (cy 0, 8, .inl (fs_))), (nc_, .inl (cy 0, 8, .inl (fc_))), (nl_, .inl (cy 0, 8, .inl (fl_))), (nd_, .inr (0, [.int lines_, .int columns_, .int levels_, .int things_, .int walkers_, .ref nw_, .ref nr_, .ref nq_, hangs_, .null]))]) := by
  refine Ci.of (by decide) (Nat.le_of_ble_eq_true rfl) ?_
  intro p e s m below meth c A ls hX hE hP hD hl
  obtain ⟨hx, hb, hr, hml, hown, htA, hlk⟩ := id hX
  have hK := hE.1
  have hS : va_S A s.heap s.heap [] := va_S.rf
  have hl : lv_has ls 8 [(0, .ref no_), (1, .int c_), (2, .int b_)] := hl
  refine lv_iload_n hx hb dX6_falling_0 rfl (lv_at hl 2 rfl) ?_
  refine lv_istore_n (lv' := [(3, .int b_), (0, .ref no_), (1, .int c_), (2, .int b_)]) hx hb dX6_falling_1 rfl hl (by decide) rfl (fun ls hl => ?_)
  refine lv_iload_n hx hb dX6_falling_2 rfl (lv_at hl 3 rfl) ?_
  refine lv_if_ne (tgt := 8) hx hb dX6_falling_3 (by decide) (fun c3_ => ?_) (fun c3_ => ?_)
  · refine lv_aload_n hx hb dX6_falling_8 rfl (lv_at hl 1 rfl) ?_
    refine lv_iload_n hx hb dX6_falling_9 rfl (lv_at hl 2 rfl) ?_
    refine kVi (As := [.int c_]) (rest := []) (wr := [(nl_, .inl (cy 0, 8, .inl (fl_)))]) hX hE (sf_X6_lying l D cy no_ nd_ hour_ ns_ nc_ nl_ nt_ nh_ fallen_ fs_ fc_ lines_ columns_ levels_ things_ walkers_ nw_ nr_ nq_ hangs_ .null c_ (rg_w rcolumns_ (by decide) (by decide)) (rg_w rlevels_ (by decide) (by decide)) (rg_w rthings_ (by decide) (by decide)) (rg_w rwalkers_ (by decide) (by decide))) (cwVA 1 htA wd_379 wd_376 wd_6 wd_377 wd_378 (by decide +kernel) ⟨by decide, by decide⟩) hP hD hS [0, 1, 2, 4] [3] rfl rfl (by decide +kernel) 0 rfl rfl rfl rfl hl.1 rfl (Nat.le_of_ble_eq_true rfl) dX6_falling_10 (by decide) (fun v10100_ W1 H locs hw hP hD hS => ?_)
    refine W.widen (k := 0) (n := 0) (by decide) (by decide) ?_
    obtain ⟨k10_0_, rfl⟩ := hw
    have hP : va_P D vwCl [(nl_, .inl (cy 0, 8, .inl (fl_))), (no_, .inr (6, [.ref nd_, .int hour_, .ref ns_, .ref nc_, .ref nl_, .ref nt_, .ref nh_, .int fallen_])), (ns_, .inl (cy 0, 8, .inl (fs_))), (nc_, .inl (cy 0, 8, .inl (fc_))), (nd_, .inr (0, [.int lines_, .int columns_, .int levels_, .int things_, .int walkers_, .ref nw_, .ref nr_, .ref nq_, hangs_, .null]))] H := hP
    have hD := va_ca hP hD
    refine lv_istore (lv' := [(4, .int v10100_), (3, .int b_), (0, .ref no_), (1, .int c_), (2, .int b_)]) hx hb dX6_falling_13 hl (by decide) rfl (fun ls hl => ?_)
    refine lv_iconst (v := 0) hx hb dX6_falling_15 (by decide) ?_
    refine lv_istore (lv' := [(5, .int 0), (4, .int v10100_), (3, .int b_), (0, .ref no_), (1, .int c_), (2, .int b_)]) hx hb dX6_falling_16 hl (by decide) rfl (fun ls hl => ?_)
    refine loopT (τ := Int32 × Int32) (WS := fun i => [(nl_, .inl (cy 0, 8, .inl (fl_))), (no_, .inr (6, [.ref nd_, .int hour_, .ref ns_, .ref nc_, .ref nl_, .ref nt_, .ref nh_, .int fallen_])), (ns_, .inl (cy 0, 8, .inl (fs_))), (nc_, .inl (cy 0, 8, .inl (fc_))), (nd_, .inr (0, [.int lines_, .int columns_, .int levels_, .int things_, .int walkers_, .ref nw_, .ref nr_, .ref nq_, hangs_, .null]))]) (LV := fun i => [(5, .int i.1), (4, .int v10100_), (3, .int i.2), (0, .ref no_), (1, .int c_), (2, .int b_)]) (fun i => (9 - i.1.toInt).toNat) (fun i => rg (0) (8) i.1 ∧ Itr (R_X6_falling_xN_b1 things_ fs_ fc_ c_ fl_ v10100_) (0, b_) (i.1, i.2)) ?_ (0, b_) ⟨(rg_w (rg_lit (by decide) : rg (0) (0) (0 : Int32)) (by decide) (by decide)), (Itr.rf _ _)⟩ hP hD hS (lv_sub hl [0, 1, 2, 3, 4, 5] rfl)
    intro i_ H locs ls hI ih18_ hP hD hS hl
    obtain ⟨v201800_, v201801_⟩ := i_
    have hI : rg (0) (8) v201800_ ∧ Itr (R_X6_falling_xN_b1 things_ fs_ fc_ c_ fl_ v10100_) (0, b_) (v201800_, v201801_) := hI
    obtain ⟨rv201800_, hR1_⟩ := hI
    have hP : va_P D vwCl [(nl_, .inl (cy 0, 8, .inl (fl_))), (no_, .inr (6, [.ref nd_, .int hour_, .ref ns_, .ref nc_, .ref nl_, .ref nt_, .ref nh_, .int fallen_])), (ns_, .inl (cy 0, 8, .inl (fs_))), (nc_, .inl (cy 0, 8, .inl (fc_))), (nd_, .inr (0, [.int lines_, .int columns_, .int levels_, .int things_, .int walkers_, .ref nw_, .ref nr_, .ref nq_, hangs_, .null]))] H := hP
    have hD := va_ca hP hD
    have hl : lv_has ls 8 [(5, .int v201800_), (4, .int v10100_), (3, .int v201801_), (0, .ref no_), (1, .int c_), (2, .int b_)] := hl
    refine lv_iload hx hb dX6_falling_18 (lv_at hl 0 rfl) ?_
    refine lv_bipush (v := 8) hx hb dX6_falling_20 (by decide) ?_
    refine joinT (D := D) (A := A) (pc := 129) (mL := 8) (τ := Int32) (WS := fun i => [(nl_, .inl (cy 0, 8, .inl (fl_))), (no_, .inr (6, [.ref nd_, .int hour_, .ref ns_, .ref nc_, .ref nl_, .ref nt_, .ref nh_, .int fallen_])), (ns_, .inl (cy 0, 8, .inl (fs_))), (nc_, .inl (cy 0, 8, .inl (fc_))), (nd_, .inr (0, [.int lines_, .int columns_, .int levels_, .int things_, .int walkers_, .ref nw_, .ref nr_, .ref nq_, hangs_, .null]))]) (LV := fun i => [(5, .int v201800_), (4, .int v10100_), (3, .int i), (0, .ref no_), (1, .int c_), (2, .int b_)]) (ST := fun i => []) (cells := 0) (slots := 0) (fun i => R_X6_falling_xN_j2 v201800_ v201801_ things_ fs_ fc_ c_ fl_ v10100_ i) (fun v212900_ H locs ls hI hP hD hS hl => ?_) (fun j129_ => ?_)
    · have hI : R_X6_falling_xN_j2 v201800_ v201801_ things_ fs_ fc_ c_ fl_ v10100_ v212900_ := hI
      have hR2_ := hI
      have hP : va_P D vwCl [(nl_, .inl (cy 0, 8, .inl (fl_))), (no_, .inr (6, [.ref nd_, .int hour_, .ref ns_, .ref nc_, .ref nl_, .ref nt_, .ref nh_, .int fallen_])), (ns_, .inl (cy 0, 8, .inl (fs_))), (nc_, .inl (cy 0, 8, .inl (fc_))), (nd_, .inr (0, [.int lines_, .int columns_, .int levels_, .int things_, .int walkers_, .ref nw_, .ref nr_, .ref nq_, hangs_, .null]))] H := hP
      have hD := va_ca hP hD
      have hl : lv_has ls 8 [(5, .int v201800_), (4, .int v10100_), (3, .int v212900_), (0, .ref no_), (1, .int c_), (2, .int b_)] := hl
      refine lv_iload_n hx hb dX6_falling_129 rfl (lv_at hl 2 rfl) ?_
      have hP : va_P D vwCl [(no_, .inr (6, [.ref nd_, .int hour_, .ref ns_, .ref nc_, .ref nl_, .ref nt_, .ref nh_, .int fallen_])), (ns_, .inl (cy 0, 8, .inl (fs_))), (nc_, .inl (cy 0, 8, .inl (fc_))), (nl_, .inl (cy 0, 8, .inl (fl_))), (nd_, .inr (0, [.int lines_, .int columns_, .int levels_, .int things_, .int walkers_, .ref nw_, .ref nr_, .ref nq_, hangs_, .null]))] H := hP.sub [1, 2, 3, 0, 4] rfl
      have hD : va_D A [(no_, .inr (6, [.ref nd_, .int hour_, .ref ns_, .ref nc_, .ref nl_, .ref nt_, .ref nh_, .int fallen_])), (ns_, .inl (cy 0, 8, .inl (fs_))), (nc_, .inl (cy 0, 8, .inl (fc_))), (nl_, .inl (cy 0, 8, .inl (fl_))), (nd_, .inr (0, [.int lines_, .int columns_, .int levels_, .int things_, .int walkers_, .ref nw_, .ref nr_, .ref nq_, hangs_, .null]))] := hD.sub [1, 2, 3, 0, 4] (by decide +kernel) rfl
      exact rI hX hE hP hD hS dX6_falling_130 (by decide) (by decide) ⟨(Or.inl ⟨v10100_, v201800_, v201801_, v212900_, c3_, k10_0_, hR1_, hR2_, rfl⟩), rfl⟩
    refine lv_icmp_ge (tgt := 129) hx hb dX6_falling_22 (by decide) (fun c22_ => ?_) (fun c22_ => ?_)
    · have g1_ : rg (8) (8) v201800_ := rg_le2 c22_ (rg_lit (by decide) : rg (8) (8) (8 : Int32)) rv201800_ (by decide)
      exact j129_ v201801_ _ _ ls (Or.inl ⟨c22_, rfl⟩) hP hD hS (lv_sub hl [0, 1, 2, 3, 4, 5] rfl)
    · have g2_ : rg (0) (7) v201800_ := rg_lt1 (rg_nle c22_) rv201800_ (rg_lit (by decide) : rg (8) (8) (8 : Int32)) (by decide)
      refine lv_iload_n hx hb dX6_falling_25 rfl (lv_at hl 2 rfl) ?_
      refine lv_istore (lv' := [(6, .int v201801_), (5, .int v201800_), (4, .int v10100_), (3, .int v201801_), (0, .ref no_), (1, .int c_), (2, .int b_)]) hx hb dX6_falling_26 hl (by decide) rfl (fun ls hl => ?_)
      refine lv_iconst (v := 0) hx hb dX6_falling_28 (by decide) ?_
      refine lv_istore (lv' := [(7, .int 0), (6, .int v201801_), (5, .int v201800_), (4, .int v10100_), (3, .int v201801_), (0, .ref no_), (1, .int c_), (2, .int b_)]) hx hb dX6_falling_29 hl (by decide) rfl (fun ls hl => ?_)
      refine loopT (τ := Int32 × Int32) (WS := fun i => [(nl_, .inl (cy 0, 8, .inl (fl_))), (no_, .inr (6, [.ref nd_, .int hour_, .ref ns_, .ref nc_, .ref nl_, .ref nt_, .ref nh_, .int fallen_])), (ns_, .inl (cy 0, 8, .inl (fs_))), (nc_, .inl (cy 0, 8, .inl (fc_))), (nd_, .inr (0, [.int lines_, .int columns_, .int levels_, .int things_, .int walkers_, .ref nw_, .ref nr_, .ref nq_, hangs_, .null]))]) (LV := fun i => [(7, .int i.1), (6, .int v201801_), (5, .int v201800_), (4, .int v10100_), (3, .int i.2), (0, .ref no_), (1, .int c_), (2, .int b_)]) (fun i => (9 - i.1.toInt).toNat) (fun i => rg (0) (8) i.1 ∧ Itr (R_X6_falling_xN_b4 things_ fs_ fc_ c_ fl_ v10100_) (0, v201801_) (i.1, i.2)) ?_ (0, v201801_) ⟨(rg_w (rg_lit (by decide) : rg (0) (0) (0 : Int32)) (by decide) (by decide)), (Itr.rf _ _)⟩ hP hD hS (lv_sub hl [0, 1, 2, 3, 4, 5, 6, 7] rfl)
      intro i_ H locs ls hI ih31_ hP hD hS hl
      obtain ⟨v203100_, v203101_⟩ := i_
      have hI : rg (0) (8) v203100_ ∧ Itr (R_X6_falling_xN_b4 things_ fs_ fc_ c_ fl_ v10100_) (0, v201801_) (v203100_, v203101_) := hI
      obtain ⟨rv203100_, hR4_⟩ := hI
      have hP : va_P D vwCl [(nl_, .inl (cy 0, 8, .inl (fl_))), (no_, .inr (6, [.ref nd_, .int hour_, .ref ns_, .ref nc_, .ref nl_, .ref nt_, .ref nh_, .int fallen_])), (ns_, .inl (cy 0, 8, .inl (fs_))), (nc_, .inl (cy 0, 8, .inl (fc_))), (nd_, .inr (0, [.int lines_, .int columns_, .int levels_, .int things_, .int walkers_, .ref nw_, .ref nr_, .ref nq_, hangs_, .null]))] H := hP
      have hD := va_ca hP hD
      have hl : lv_has ls 8 [(7, .int v203100_), (6, .int v201801_), (5, .int v201800_), (4, .int v10100_), (3, .int v203101_), (0, .ref no_), (1, .int c_), (2, .int b_)] := hl
      refine lv_iload hx hb dX6_falling_31 (lv_at hl 0 rfl) ?_
      refine lv_aload_n hx hb dX6_falling_33 rfl (lv_at hl 5 rfl) ?_
      refine va_get (ci := 6) (v := .ref nd_) (C := RX6) (T := TX6) (N := 8) hx hb htA in_X6 hown hK hP 1 rfl rfl 0 (by decide) (htA _ wd_166) (fun _ h => h) rfl dX6_falling_34 ?_
      refine va_get (ci := 0) (v := .int things_) (C := RX0) (T := TX0) (N := 10) hx hb htA in_X0 hown hK hP 4 rfl rfl 3 (by decide) (htA _ wd_86) (fun _ h => h) rfl dX6_falling_37 ?_
      refine lv_icmp_ge (tgt := 114) hx hb dX6_falling_40 (by decide) (fun c40_ => ?_) (fun c40_ => ?_)
      · refine lv_iload_n hx hb dX6_falling_114 rfl (lv_at hl 4 rfl) ?_
        refine lv_iload hx hb dX6_falling_115 (lv_at hl 1 rfl) ?_
        refine lv_icmp_ne (tgt := 123) hx hb dX6_falling_117 (by decide) (fun c117_ => ?_) (fun c117_ => ?_)
        · refine lv_iinc (v := v201800_ + 1) (lv' := [(5, .int (v201800_ + 1)), (7, .int v203100_), (6, .int v201801_), (4, .int v10100_), (3, .int v203101_), (0, .ref no_), (1, .int c_), (2, .int b_)]) hx hb dX6_falling_123 hl (k := 2) rfl rfl (by decide) rfl (fun ls hl => ?_)
          have g3_ : rg (1) (8) (v201800_ + 1) := rg_add g2_ (rg_lit (by decide) : rg (1) (1) (1 : Int32)) (by decide) (by decide) (by decide) (by decide)
          refine lv_goto (tgt := 18) hx hb dX6_falling_126 (by decide) ?_
          exact ih18_ (v201800_ + 1, v203101_) _ _ ls ⟨(rg_w g3_ (by decide) (by decide)), (Itr.st hR1_ (Or.inl ⟨v203100_, v203101_, c22_, hR4_, c40_, c117_, rfl⟩))⟩ (show (9 - (v201800_ + 1).toInt).toNat < (9 - v201800_.toInt).toNat from by rw [show (v201800_ + 1).toInt = v201800_.toInt + 1 from inc32 v201800_ (by have hq := (rv201800_).2; omega)]; have hq := (g2_).1; have hq2 := (g2_).2; omega) hP hD hS (lv_sub hl [0, 3, 4, 5, 6, 7] rfl)
        · refine lv_goto (tgt := 129) hx hb dX6_falling_120 (by decide) ?_
          exact j129_ v203101_ _ _ ls (Or.inr (Or.inl ⟨v203100_, v203101_, c22_, hR4_, c40_, c117_, rfl⟩)) hP hD hS (lv_sub hl [2, 3, 4, 5, 6, 7] rfl)
      · have g4_ : rg (0) (7) v203100_ := rg_lt1 (rg_nle c40_) rv203100_ rthings_ (by decide)
        have g5_ : rg (1) (8) things_ := rg_lt2 (rg_nle c40_) rv203100_ rthings_ (by decide)
        refine lv_aload_n hx hb dX6_falling_43 rfl (lv_at hl 5 rfl) ?_
        refine va_get (ci := 6) (v := .ref ns_) (C := RX6) (T := TX6) (N := 8) hx hb htA in_X6 hown hK hP 1 rfl rfl 2 (by decide) (htA _ wd_174) (fun _ h => h) rfl dX6_falling_44 ?_
        refine lv_iload hx hb dX6_falling_47 (lv_at hl 0 rfl) ?_
        refine va_iald hx hb hK hP 2 0 rfl rfl (rg_in g4_ (by decide) (by decide)) dX6_falling_49 ?_
        refine lv_topi (fun v10490_ ev10490_ => ?_)
        refine lv_iconst (v := 1) hx hb dX6_falling_50 (by decide) ?_
        refine joinT (D := D) (A := A) (pc := 108) (mL := 8) (τ := Int32) (WS := fun i => [(nl_, .inl (cy 0, 8, .inl (fl_))), (no_, .inr (6, [.ref nd_, .int hour_, .ref ns_, .ref nc_, .ref nl_, .ref nt_, .ref nh_, .int fallen_])), (ns_, .inl (cy 0, 8, .inl (fs_))), (nc_, .inl (cy 0, 8, .inl (fc_))), (nd_, .inr (0, [.int lines_, .int columns_, .int levels_, .int things_, .int walkers_, .ref nw_, .ref nr_, .ref nq_, hangs_, .null]))]) (LV := fun i => [(7, .int v203100_), (6, .int v201801_), (5, .int v201800_), (4, .int v10100_), (3, .int i), (0, .ref no_), (1, .int c_), (2, .int b_)]) (ST := fun i => []) (cells := 0) (slots := 0) (fun i => R_X6_falling_xN_j5 v10490_ v203101_ fc_ v203100_ c_ fl_ v10100_ things_ i) (fun v210800_ H locs ls hI hP hD hS hl => ?_) (fun j108_ => ?_)
        · have hI : R_X6_falling_xN_j5 v10490_ v203101_ fc_ v203100_ c_ fl_ v10100_ things_ v210800_ := hI
          have hR5_ := hI
          have hP : va_P D vwCl [(nl_, .inl (cy 0, 8, .inl (fl_))), (no_, .inr (6, [.ref nd_, .int hour_, .ref ns_, .ref nc_, .ref nl_, .ref nt_, .ref nh_, .int fallen_])), (ns_, .inl (cy 0, 8, .inl (fs_))), (nc_, .inl (cy 0, 8, .inl (fc_))), (nd_, .inr (0, [.int lines_, .int columns_, .int levels_, .int things_, .int walkers_, .ref nw_, .ref nr_, .ref nq_, hangs_, .null]))] H := hP
          have hD := va_ca hP hD
          have hl : lv_has ls 8 [(7, .int v203100_), (6, .int v201801_), (5, .int v201800_), (4, .int v10100_), (3, .int v210800_), (0, .ref no_), (1, .int c_), (2, .int b_)] := hl
          refine lv_iinc (v := v203100_ + 1) (lv' := [(7, .int (v203100_ + 1)), (6, .int v201801_), (5, .int v201800_), (4, .int v10100_), (3, .int v210800_), (0, .ref no_), (1, .int c_), (2, .int b_)]) hx hb dX6_falling_108 hl (k := 0) rfl rfl (by decide) rfl (fun ls hl => ?_)
          have g6_ : rg (1) (8) (v203100_ + 1) := rg_add g4_ (rg_lit (by decide) : rg (1) (1) (1 : Int32)) (by decide) (by decide) (by decide) (by decide)
          refine lv_goto (tgt := 31) hx hb dX6_falling_111 (by decide) ?_
          exact ih31_ (v203100_ + 1, v210800_) _ _ ls ⟨(rg_w g6_ (by decide) (by decide)), (Itr.st hR4_ (Or.inl ⟨v10490_, v210800_, c40_, ev10490_, hR5_, rfl⟩))⟩ (show (9 - (v203100_ + 1).toInt).toNat < (9 - v203100_.toInt).toNat from by rw [show (v203100_ + 1).toInt = v203100_.toInt + 1 from inc32 v203100_ (by have hq := (rv203100_).2; omega)]; have hq := (g4_).1; have hq2 := (g4_).2; omega) hP hD hS (lv_sub hl [0, 1, 2, 3, 4, 5, 6, 7] rfl)
        refine lv_icmp_ne (tgt := 108) hx hb dX6_falling_51 (by decide) (fun c51_ => ?_) (fun c51_ => ?_)
        · exact j108_ v203101_ _ _ ls (Or.inl ⟨c51_, rfl⟩) hP hD hS (lv_sub hl [0, 1, 2, 3, 4, 5, 6, 7] rfl)
        · have g7_ : rg (1) (1) v10490_ := rg_eq c51_ (rg_lit (by decide) : rg (1) (1) (1 : Int32))
          refine lv_aload_n hx hb dX6_falling_54 rfl (lv_at hl 5 rfl) ?_
          refine va_get (ci := 6) (v := .ref nc_) (C := RX6) (T := TX6) (N := 8) hx hb htA in_X6 hown hK hP 1 rfl rfl 3 (by decide) (htA _ wd_178) (fun _ h => h) rfl dX6_falling_55 ?_
          refine lv_iload hx hb dX6_falling_58 (lv_at hl 0 rfl) ?_
          refine va_iald hx hb hK hP 3 0 rfl rfl (rg_in g4_ (by decide) (by decide)) dX6_falling_60 ?_
          refine lv_topi (fun v10600_ ev10600_ => ?_)
          refine lv_iload_n hx hb dX6_falling_61 rfl (lv_at hl 6 rfl) ?_
          refine lv_icmp_ne (tgt := 108) hx hb dX6_falling_62 (by decide) (fun c62_ => ?_) (fun c62_ => ?_)
          · exact j108_ v203101_ _ _ ls (Or.inr (Or.inl ⟨v10600_, c51_, ev10600_, c62_, rfl⟩)) hP hD hS (lv_sub hl [0, 1, 2, 3, 4, 5, 6, 7] rfl)
          · refine lv_iload_n hx hb dX6_falling_65 rfl (lv_at hl 4 rfl) ?_
            refine lv_iload hx hb dX6_falling_66 (lv_at hl 0 rfl) ?_
            refine lv_ishr hx hb dX6_falling_68 ?_
            refine lv_iconst (v := 1) hx hb dX6_falling_69 (by decide) ?_
            refine lv_iand hx hb dX6_falling_70 ?_
            have g8_ : rg (0) (1) ((v203101_ >>> (v203100_ &&& 31)) &&& 1) := rg_and (by decide) (by decide)
            refine lv_if_ne (tgt := 108) hx hb dX6_falling_71 (by decide) (fun c71_ => ?_) (fun c71_ => ?_)
            · have g9_ : rg (1) (1) ((v203101_ >>> (v203100_ &&& 31)) &&& 1) := rg_ne1 c71_ g8_ (by decide) (by decide)
              exact j108_ v203101_ _ _ ls (Or.inr (Or.inr (Or.inl ⟨v10600_, c51_, ev10600_, c62_, c71_, rfl⟩))) hP hD hS (lv_sub hl [0, 1, 2, 3, 4, 5, 6, 7] rfl)
            · have g10_ : rg (0) (0) ((v203101_ >>> (v203100_ &&& 31)) &&& 1) := rg_eq c71_ (rg_lit (by decide) : rg (0) (0) (0 : Int32))
              refine lv_aload_n hx hb dX6_falling_74 rfl (lv_at hl 5 rfl) ?_
              refine va_get (ci := 6) (v := .ref nl_) (C := RX6) (T := TX6) (N := 8) hx hb htA in_X6 hown hK hP 1 rfl rfl 4 (by decide) (htA _ wd_181) (fun _ h => h) rfl dX6_falling_75 ?_
              refine lv_iload hx hb dX6_falling_78 (lv_at hl 0 rfl) ?_
              refine va_iald hx hb hK hP 0 0 rfl rfl (rg_in g4_ (by decide) (by decide)) dX6_falling_80 ?_
              refine lv_topi (fun v10800_ ev10800_ => ?_)
              refine lv_iload hx hb dX6_falling_81 (lv_at hl 3 rfl) ?_
              refine lv_iload_n hx hb dX6_falling_83 rfl (lv_at hl 4 rfl) ?_
              refine kSi (As := [.int v203101_]) (rest := [.int v10100_, .int v10800_]) (wr := [(nl_, .inl (cy 0, 8, .inl (fl_))), (no_, .inr (6, [.ref nd_, .int hour_, .ref ns_, .ref nc_, .ref nl_, .ref nt_, .ref nh_, .int fallen_])), (ns_, .inl (cy 0, 8, .inl (fs_))), (nc_, .inl (cy 0, 8, .inl (fc_))), (nd_, .inr (0, [.int lines_, .int columns_, .int levels_, .int things_, .int walkers_, .ref nw_, .ref nr_, .ref nq_, hangs_, .null]))]) hX hE (sf_J6_bitCount_0f7a4 l D cy v203101_ ) (cwSA 1 htA wd_438 wd_436 wd_24 wd_437 (by decide +kernel) ⟨by decide, by decide⟩) hP hD hS [] [0, 1, 2, 3, 4] rfl rfl (by decide +kernel) rfl hl.1 rfl (Nat.le_of_ble_eq_true rfl) dX6_falling_84 (by decide) (fun v10840_ W1 H locs hw hP hD hS => ?_)
              refine W.widen (k := 0) (n := 0) (by decide) (by decide) ?_
              obtain ⟨k84_0_, rfl, kr84_⟩ := hw
              have hP : va_P D vwCl [(nl_, .inl (cy 0, 8, .inl (fl_))), (no_, .inr (6, [.ref nd_, .int hour_, .ref ns_, .ref nc_, .ref nl_, .ref nt_, .ref nh_, .int fallen_])), (ns_, .inl (cy 0, 8, .inl (fs_))), (nc_, .inl (cy 0, 8, .inl (fc_))), (nd_, .inr (0, [.int lines_, .int columns_, .int levels_, .int things_, .int walkers_, .ref nw_, .ref nr_, .ref nq_, hangs_, .null]))] H := hP
              have hD := va_ca hP hD
              refine lv_iadd hx hb dX6_falling_87 ?_
              refine joinT (D := D) (A := A) (pc := 101) (mL := 8) (τ := Unit) (WS := fun i => [(nl_, .inl (cy 0, 8, .inl (fl_))), (no_, .inr (6, [.ref nd_, .int hour_, .ref ns_, .ref nc_, .ref nl_, .ref nt_, .ref nh_, .int fallen_])), (ns_, .inl (cy 0, 8, .inl (fs_))), (nc_, .inl (cy 0, 8, .inl (fc_))), (nd_, .inr (0, [.int lines_, .int columns_, .int levels_, .int things_, .int walkers_, .ref nw_, .ref nr_, .ref nq_, hangs_, .null]))]) (LV := fun i => [(7, .int v203100_), (6, .int v201801_), (5, .int v201800_), (4, .int v10100_), (3, .int v203101_), (0, .ref no_), (1, .int c_), (2, .int b_)]) (ST := fun i => []) (cells := 0) (slots := 0) (fun i => R_X6_falling_xN_j6 v10800_ v10100_ v10840_ things_ v203101_ fl_ v203100_) (fun u0_ H locs ls hI hP hD hS hl => ?_) (fun j101_ => ?_)
              · have hI : R_X6_falling_xN_j6 v10800_ v10100_ v10840_ things_ v203101_ fl_ v203100_ := hI
                have hR6_ := hI
                have hP : va_P D vwCl [(nl_, .inl (cy 0, 8, .inl (fl_))), (no_, .inr (6, [.ref nd_, .int hour_, .ref ns_, .ref nc_, .ref nl_, .ref nt_, .ref nh_, .int fallen_])), (ns_, .inl (cy 0, 8, .inl (fs_))), (nc_, .inl (cy 0, 8, .inl (fc_))), (nd_, .inr (0, [.int lines_, .int columns_, .int levels_, .int things_, .int walkers_, .ref nw_, .ref nr_, .ref nq_, hangs_, .null]))] H := hP
                have hD := va_ca hP hD
                have hl : lv_has ls 8 [(7, .int v203100_), (6, .int v201801_), (5, .int v201800_), (4, .int v10100_), (3, .int v203101_), (0, .ref no_), (1, .int c_), (2, .int b_)] := hl
                refine lv_iload_n hx hb dX6_falling_101 rfl (lv_at hl 4 rfl) ?_
                refine lv_iconst (v := 1) hx hb dX6_falling_102 (by decide) ?_
                refine lv_iload hx hb dX6_falling_103 (lv_at hl 0 rfl) ?_
                refine lv_ishl hx hb dX6_falling_105 ?_
                refine lv_ior hx hb dX6_falling_106 ?_
                refine lv_istore_n (lv' := [(3, .int (v203101_ ||| (1 <<< (v203100_ &&& 31)))), (7, .int v203100_), (6, .int v201801_), (5, .int v201800_), (4, .int v10100_), (0, .ref no_), (1, .int c_), (2, .int b_)]) hx hb dX6_falling_107 rfl hl (by decide) rfl (fun ls hl => ?_)
                exact j108_ (v203101_ ||| (1 <<< (v203100_ &&& 31))) _ _ ls (Or.inr (Or.inr (Or.inr (Or.inl ⟨v10600_, v10800_, v10840_, c51_, ev10600_, c62_, c71_, ev10800_, k84_0_, hR6_, rfl⟩)))) hP hD hS (lv_sub hl [1, 2, 3, 4, 0, 5, 6, 7] rfl)
              refine lv_icmp_lt (tgt := 101) hx hb dX6_falling_88 (by decide) (fun c88_ => ?_) (fun c88_ => ?_)
              · have g11_ : rg (-2147483648) (2147483646) v10800_ := rg_lt1 c88_ (rg_any _) (rg_any _) (by decide)
                have g12_ : rg (-2147483647) (2147483647) (v10100_ + v10840_) := rg_lt2 c88_ (rg_any _) (rg_any _) (by decide)
                exact j101_ () _ _ ls (Or.inl c88_) hP hD hS (lv_sub hl [0, 1, 2, 3, 4, 5, 6, 7] rfl)
              · refine lv_aload_n hx hb dX6_falling_91 rfl (lv_at hl 5 rfl) ?_
                refine lv_iload hx hb dX6_falling_92 (lv_at hl 0 rfl) ?_
                refine lv_iload_n hx hb dX6_falling_94 rfl (lv_at hl 4 rfl) ?_
                refine kVi (As := [.int v203100_, .int v203101_]) (rest := []) (wr := [(ns_, .inl (cy 0, 8, .inl (fs_))), (nc_, .inl (cy 0, 8, .inl (fc_)))]) hX hE (sf_X6_isFreed_xN l D cy no_ nd_ hour_ ns_ nc_ nl_ nt_ nh_ fallen_ fl_ lines_ columns_ levels_ things_ walkers_ nw_ nr_ nq_ hangs_ v203100_ v203101_ (rg_w rcolumns_ (by decide) (by decide)) (rg_w rlevels_ (by decide) (by decide)) (rg_w g5_ (by decide) (by decide)) (rg_w rwalkers_ (by decide) (by decide)) (rg_w g4_ (by decide) (by decide))) (cwVA 2 htA wd_445 wd_442 wd_6 wd_444 wp_2 (by decide +kernel) ⟨by decide, by decide⟩) hP hD hS [1, 0, 4] [2, 3] rfl rfl (by decide +kernel) 0 rfl rfl rfl rfl hl.1 rfl (Nat.le_of_ble_eq_true rfl) dX6_falling_95 (by decide) (fun v10950_ W1 H locs hw hP hD hS => ?_)
                refine W.widen (k := 0) (n := 0) (by decide) (by decide) ?_
                obtain ⟨k95_0_, rfl, kr95_⟩ := hw
                have hP : va_P D vwCl [(ns_, .inl (cy 0, 8, .inl (fs_))), (nc_, .inl (cy 0, 8, .inl (fc_))), (no_, .inr (6, [.ref nd_, .int hour_, .ref ns_, .ref nc_, .ref nl_, .ref nt_, .ref nh_, .int fallen_])), (nl_, .inl (cy 0, 8, .inl (fl_))), (nd_, .inr (0, [.int lines_, .int columns_, .int levels_, .int things_, .int walkers_, .ref nw_, .ref nr_, .ref nq_, hangs_, .null]))] H := hP
                have hD := va_ca hP hD
                refine lv_if_eq (tgt := 108) hx hb dX6_falling_98 (by decide) (fun c98_ => ?_) (fun c98_ => ?_)
                · have g13_ : rg (0) (0) v10950_ := rg_eq c98_ (rg_lit (by decide) : rg (0) (0) (0 : Int32))
                  have hP : va_P D vwCl [(nl_, .inl (cy 0, 8, .inl (fl_))), (no_, .inr (6, [.ref nd_, .int hour_, .ref ns_, .ref nc_, .ref nl_, .ref nt_, .ref nh_, .int fallen_])), (ns_, .inl (cy 0, 8, .inl (fs_))), (nc_, .inl (cy 0, 8, .inl (fc_))), (nd_, .inr (0, [.int lines_, .int columns_, .int levels_, .int things_, .int walkers_, .ref nw_, .ref nr_, .ref nq_, hangs_, .null]))] H := hP.sub [3, 2, 0, 1, 4] rfl
                  have hD : va_D A [(nl_, .inl (cy 0, 8, .inl (fl_))), (no_, .inr (6, [.ref nd_, .int hour_, .ref ns_, .ref nc_, .ref nl_, .ref nt_, .ref nh_, .int fallen_])), (ns_, .inl (cy 0, 8, .inl (fs_))), (nc_, .inl (cy 0, 8, .inl (fc_))), (nd_, .inr (0, [.int lines_, .int columns_, .int levels_, .int things_, .int walkers_, .ref nw_, .ref nr_, .ref nq_, hangs_, .null]))] := hD.sub [3, 2, 0, 1, 4] (by decide +kernel) rfl
                  exact j108_ v203101_ _ _ ls (Or.inr (Or.inr (Or.inr (Or.inr (Or.inl ⟨v10600_, v10800_, v10840_, v10950_, c51_, ev10600_, c62_, c71_, ev10800_, k84_0_, c88_, k95_0_, c98_, rfl⟩))))) hP hD hS (lv_sub hl [0, 1, 2, 3, 4, 5, 6, 7] rfl)
                · have g14_ : rg (1) (1) v10950_ := rg_ne1 c98_ kr95_ (by decide) (by decide)
                  have hP : va_P D vwCl [(nl_, .inl (cy 0, 8, .inl (fl_))), (no_, .inr (6, [.ref nd_, .int hour_, .ref ns_, .ref nc_, .ref nl_, .ref nt_, .ref nh_, .int fallen_])), (ns_, .inl (cy 0, 8, .inl (fs_))), (nc_, .inl (cy 0, 8, .inl (fc_))), (nd_, .inr (0, [.int lines_, .int columns_, .int levels_, .int things_, .int walkers_, .ref nw_, .ref nr_, .ref nq_, hangs_, .null]))] H := hP.sub [3, 2, 0, 1, 4] rfl
                  have hD : va_D A [(nl_, .inl (cy 0, 8, .inl (fl_))), (no_, .inr (6, [.ref nd_, .int hour_, .ref ns_, .ref nc_, .ref nl_, .ref nt_, .ref nh_, .int fallen_])), (ns_, .inl (cy 0, 8, .inl (fs_))), (nc_, .inl (cy 0, 8, .inl (fc_))), (nd_, .inr (0, [.int lines_, .int columns_, .int levels_, .int things_, .int walkers_, .ref nw_, .ref nr_, .ref nq_, hangs_, .null]))] := hD.sub [3, 2, 0, 1, 4] (by decide +kernel) rfl
                  exact j101_ () _ _ ls (Or.inr (Or.inl ⟨v10950_, c88_, k95_0_, c98_⟩)) hP hD hS (lv_sub hl [0, 1, 2, 3, 4, 5, 6, 7] rfl)
  · have g15_ : rg (0) (0) b_ := rg_eq c3_ (rg_lit (by decide) : rg (0) (0) (0 : Int32))
    refine lv_iconst (v := 0) hx hb dX6_falling_6 (by decide) ?_
    exact rI hX hE hP hD hS dX6_falling_7 (by decide) (by decide) ⟨(Or.inr (Or.inl ⟨c3_, rfl⟩)), rfl⟩
def R_X6_falling_xR_j6 (v10800_ : Int32) (v10100_ : Int32) (v10840_ : Int32) (g203101_ : Nat → Int32) (g203102_ : Nat → Int32) (things_ : Int32) (v203103_ : Int32) (fl_ : Nat → Int32) (v203100_ : Int32) (fw_ : Nat → Int32) (hour_ : Int32) (lenF_ : Nat) (fpF_ : Nat → Int32) (g210100_ : Nat → Int32) (g210101_ : Nat → Int32) : Prop := (v10800_ < (v10100_ + v10840_) ∧ g210100_ = g203101_ ∧ g210101_ = g203102_) ∨ (∃ (g10951_ : Nat → Int32) (g10952_ : Nat → Int32) (v10950_ : Int32), ¬ (v10800_ < (v10100_ + v10840_)) ∧ R_X6_isFreed_xR_e things_ v203103_ fl_ v203100_ fw_ hour_ lenF_ fpF_ g203101_ g203102_ g10951_ g10952_ v10950_ ∧ ¬ (v10950_ = (0 : Int32)) ∧ g210100_ = g10951_ ∧ g210101_ = g10952_) ∨ False
def R_X6_falling_xR_j5 (v10490_ : Int32) (v203103_ : Int32) (g203101_ : Nat → Int32) (g203102_ : Nat → Int32) (fc_ : Nat → Int32) (v203100_ : Int32) (c_ : Int32) (fl_ : Nat → Int32) (v10100_ : Int32) (things_ : Int32) (fw_ : Nat → Int32) (hour_ : Int32) (lenF_ : Nat) (fpF_ : Nat → Int32) (v210802_ : Int32) (g210800_ : Nat → Int32) (g210801_ : Nat → Int32) : Prop := (¬ v10490_ = (1 : Int32) ∧ v210802_ = v203103_ ∧ g210800_ = g203101_ ∧ g210801_ = g203102_) ∨ (∃ (v10600_ : Int32), v10490_ = (1 : Int32) ∧ v10600_ = fc_ v203100_.toNatClampNeg ∧ ¬ v10600_ = c_ ∧ v210802_ = v203103_ ∧ g210800_ = g203101_ ∧ g210801_ = g203102_) ∨ (∃ (v10600_ : Int32), v10490_ = (1 : Int32) ∧ v10600_ = fc_ v203100_.toNatClampNeg ∧ v10600_ = c_ ∧ ¬ ((v203103_ >>> (v203100_ &&& 31)) &&& 1) = (0 : Int32) ∧ v210802_ = v203103_ ∧ g210800_ = g203101_ ∧ g210801_ = g203102_) ∨ (∃ (v10600_ : Int32) (v10800_ : Int32) (v10840_ : Int32) (g210100_ : Nat → Int32) (g210101_ : Nat → Int32), v10490_ = (1 : Int32) ∧ v10600_ = fc_ v203100_.toNatClampNeg ∧ v10600_ = c_ ∧ ((v203103_ >>> (v203100_ &&& 31)) &&& 1) = (0 : Int32) ∧ v10800_ = fl_ v203100_.toNatClampNeg ∧ R_J6_bitCount_0f7a4_e v203103_ v10840_ ∧ R_X6_falling_xR_j6 v10800_ v10100_ v10840_ g203101_ g203102_ things_ v203103_ fl_ v203100_ fw_ hour_ lenF_ fpF_ g210100_ g210101_ ∧ v210802_ = v203103_ ||| (1 <<< (v203100_ &&& 31)) ∧ g210800_ = g210100_ ∧ g210801_ = g210101_) ∨ (∃ (v10600_ : Int32) (v10800_ : Int32) (v10840_ : Int32) (g10951_ : Nat → Int32) (g10952_ : Nat → Int32) (v10950_ : Int32), v10490_ = (1 : Int32) ∧ v10600_ = fc_ v203100_.toNatClampNeg ∧ v10600_ = c_ ∧ ((v203103_ >>> (v203100_ &&& 31)) &&& 1) = (0 : Int32) ∧ v10800_ = fl_ v203100_.toNatClampNeg ∧ R_J6_bitCount_0f7a4_e v203103_ v10840_ ∧ ¬ (v10800_ < (v10100_ + v10840_)) ∧ R_X6_isFreed_xR_e things_ v203103_ fl_ v203100_ fw_ hour_ lenF_ fpF_ g203101_ g203102_ g10951_ g10952_ v10950_ ∧ v10950_ = (0 : Int32) ∧ v210802_ = v203103_ ∧ g210800_ = g10951_ ∧ g210801_ = g10952_) ∨ False
def R_X6_falling_xR_b4 (things_ : Int32) (fs_ : Nat → Int32) (fc_ : Nat → Int32) (c_ : Int32) (fl_ : Nat → Int32) (v10100_ : Int32) (fw_ : Nat → Int32) (hour_ : Int32) (lenF_ : Nat) (fpF_ : Nat → Int32) (uZ_ vZ_ : Int32 × Int32 × (Nat → Int32) × (Nat → Int32)) : Prop := (∃ (v10490_ : Int32) (v210802_ : Int32) (g210800_ : Nat → Int32) (g210801_ : Nat → Int32), ¬ (things_ ≤ uZ_.1) ∧ v10490_ = fs_ uZ_.1.toNatClampNeg ∧ R_X6_falling_xR_j5 v10490_ uZ_.2.1 uZ_.2.2.1 uZ_.2.2.2 fc_ uZ_.1 c_ fl_ v10100_ things_ fw_ hour_ lenF_ fpF_ v210802_ g210800_ g210801_ ∧ vZ_ = (uZ_.1 + 1, v210802_, g210800_, g210801_)) ∨ False
def R_X6_falling_xR_b1 (things_ : Int32) (fs_ : Nat → Int32) (fc_ : Nat → Int32) (c_ : Int32) (fl_ : Nat → Int32) (v10100_ : Int32) (fw_ : Nat → Int32) (hour_ : Int32) (lenF_ : Nat) (fpF_ : Nat → Int32) (uZ_ vZ_ : Int32 × Int32 × (Nat → Int32) × (Nat → Int32)) : Prop := (∃ (v203100_ : Int32) (v203103_ : Int32) (g203101_ : Nat → Int32) (g203102_ : Nat → Int32), ¬ ((8 : Int32) ≤ uZ_.1) ∧ Itr (R_X6_falling_xR_b4 things_ fs_ fc_ c_ fl_ v10100_ fw_ hour_ lenF_ fpF_) (0, uZ_.2.1, uZ_.2.2.1, uZ_.2.2.2) (v203100_, v203103_, g203101_, g203102_) ∧ things_ ≤ v203100_ ∧ ¬ v203103_ = uZ_.2.1 ∧ vZ_ = (uZ_.1 + 1, v203103_, g203101_, g203102_)) ∨ False
def R_X6_falling_xR_j2 (v201800_ : Int32) (v201801_ : Int32) (g201802_ : Nat → Int32) (g201803_ : Nat → Int32) (things_ : Int32) (fs_ : Nat → Int32) (fc_ : Nat → Int32) (c_ : Int32) (fl_ : Nat → Int32) (v10100_ : Int32) (fw_ : Nat → Int32) (hour_ : Int32) (lenF_ : Nat) (fpF_ : Nat → Int32) (v212900_ : Int32) (g212901_ : Nat → Int32) (g212902_ : Nat → Int32) : Prop := ((8 : Int32) ≤ v201800_ ∧ v212900_ = v201801_ ∧ g212901_ = g201802_ ∧ g212902_ = g201803_) ∨ (∃ (v203100_ : Int32) (v203103_ : Int32) (g203101_ : Nat → Int32) (g203102_ : Nat → Int32), ¬ ((8 : Int32) ≤ v201800_) ∧ Itr (R_X6_falling_xR_b4 things_ fs_ fc_ c_ fl_ v10100_ fw_ hour_ lenF_ fpF_) (0, v201801_, g201802_, g201803_) (v203100_, v203103_, g203101_, g203102_) ∧ things_ ≤ v203100_ ∧ v203103_ = v201801_ ∧ v212900_ = v203103_ ∧ g212901_ = g203101_ ∧ g212902_ = g203102_) ∨ False
def R_X6_falling_xR_e (b_ : Int32) (things_ : Int32) (fs_ : Nat → Int32) (fc_ : Nat → Int32) (c_ : Int32) (fl_ : Nat → Int32) (fw_ : Nat → Int32) (hour_ : Int32) (lenF_ : Nat) (fpF_ : Nat → Int32) (fgF_ : Nat → Int32) (fkF_ : Nat → Int32) (x0_ : Nat → Int32) (x1_ : Nat → Int32) (r : Int32) : Prop := (∃ (v10100_ : Int32) (v201800_ : Int32) (v201801_ : Int32) (g201802_ : Nat → Int32) (g201803_ : Nat → Int32) (v212900_ : Int32) (g212901_ : Nat → Int32) (g212902_ : Nat → Int32), ¬ b_ = (0 : Int32) ∧ R_X6_lying_e things_ fs_ fc_ c_ v10100_ ∧ Itr (R_X6_falling_xR_b1 things_ fs_ fc_ c_ fl_ v10100_ fw_ hour_ lenF_ fpF_) (0, b_, fgF_, fkF_) (v201800_, v201801_, g201802_, g201803_) ∧ R_X6_falling_xR_j2 v201800_ v201801_ g201802_ g201803_ things_ fs_ fc_ c_ fl_ v10100_ fw_ hour_ lenF_ fpF_ v212900_ g212901_ g212902_ ∧ x0_ = g212901_ ∧ x1_ = g212902_ ∧ r = v212900_) ∨ (b_ = (0 : Int32) ∧ x0_ = fgF_ ∧ x1_ = fkF_ ∧ r = (0 : Int32)) ∨ False
set_option maxHeartbeats 4000000 in
set_option maxRecDepth 100000 in
theorem sf_X6_falling_xR (l : Launch) (D : va_G) (cy : Nat → ClassId) (no_ : Nat) (nd_ : Nat) (hour_ : Int32) (ns_ : Nat) (nc_ : Nat) (nl_ : Nat) (nt_ : Nat) (nh_ : Nat) (fallen_ : Int32) (fs_ : Nat → Int32) (fc_ : Nat → Int32) (fl_ : Nat → Int32) (lines_ : Int32) (columns_ : Int32) (levels_ : Int32) (things_ : Int32) (walkers_ : Int32) (nw_ : Nat) (nr_ : Nat) (nq_ : Nat) (hangs_ : Value) (nLF_ : Nat) (fw_ : Nat → Int32) (npF_ : Nat) (ngF_ : Nat) (nkF_ : Nat) (lenF_ : Nat) (fpF_ : Nat → Int32) (fgF_ : Nat → Int32) (fkF_ : Nat → Int32) (c_ : Int32) (b_ : Int32) (hlenF_ : lenF_ ≤ 900) (rcolumns_ : rg (1) (6) columns_) (rlevels_ : rg (1) (9) levels_) (rthings_ : rg (0) (8) things_) (rwalkers_ : rg (0) (4) walkers_) : Ci l yX6_falling cX6_falling 8 (some .int) { frames := 3, cells := 0, slots := 0, locals := 79 } D cy [.ref no_, .int c_, .int b_] [(no_, .inr (6, [.ref nd_, .int hour_, .ref ns_, .ref nc_, .ref nl_, .ref nt_, .ref nh_, .int fallen_])), (ns_, .inl (cy 0, 8, .inl (fs_))), (nc_, .inl (cy 0, 8, .inl (fc_))), (nl_, .inl (cy 0, 8, .inl (fl_))), (nd_, .inr (0, [.int lines_, .int columns_, .int levels_, .int things_, .int walkers_, .ref nw_, .ref nr_, .ref nq_, hangs_, .ref nLF_])), (nw_, .inl (cy 0, 8, .inl (fw_))), (nLF_, .inr (4, [.ref npF_, .ref ngF_, .ref nkF_])), (npF_, .inl (cy 0, lenF_, .inl (fpF_))), (ngF_, .inl (cy 0, 6, .inl (fgF_))), (nkF_, .inl (cy 0, 32, .inl (fkF_)))] (fun r W1 => ∃ (x0_ : Nat → Int32) (x1_ : Nat → Int32), R_X6_falling_xR_e b_ things_ fs_ fc_ c_ fl_ fw_ hour_ lenF_ fpF_ fgF_ fkF_ x0_ x1_ r ∧ W1 = [(no_, .inr (6, [.ref nd_, .int hour_, .ref ns_, .ref nc_, .ref nl_, .ref nt_, .ref nh_, .int fallen_])), (ns_, .inl (cy 0, 8, .inl (fs_))), (nc_, .inl (cy 0, 8, .inl (fc_))), (nl_, .inl (cy 0, 8, .inl (fl_))), (nd_, .inr (0, [.int lines_, .int columns_, .int levels_, .int things_, .int walkers_, .ref nw_, .ref nr_, .ref nq_, hangs_, .ref nLF_])), (nw_, .inl (cy 0, 8, .inl (fw_))), (nLF_, .inr (4, [.ref npF_, .ref ngF_, .ref nkF_])), (npF_, .inl (cy 0, lenF_, .inl (fpF_))), (ngF_, .inl (cy 0, 6, .inl (x0_))), (nkF_, .inl (cy 0, 32, .inl (x1_)))]) := by
  refine Ci.of (by decide) (Nat.le_of_ble_eq_true rfl) ?_
  intro p e s m below meth c A ls hX hE hP hD hl
  obtain ⟨hx, hb, hr, hml, hown, htA, hlk⟩ := id hX
  have hK := hE.1
  have hS : va_S A s.heap s.heap [] := va_S.rf
  have hl : lv_has ls 8 [(0, .ref no_), (1, .int c_), (2, .int b_)] := hl
  refine lv_iload_n hx hb dX6_falling_0 rfl (lv_at hl 2 rfl) ?_
  refine lv_istore_n (lv' := [(3, .int b_), (0, .ref no_), (1, .int c_), (2, .int b_)]) hx hb dX6_falling_1 rfl hl (by decide) rfl (fun ls hl => ?_)
  refine lv_iload_n hx hb dX6_falling_2 rfl (lv_at hl 3 rfl) ?_
  refine lv_if_ne (tgt := 8) hx hb dX6_falling_3 (by decide) (fun c3_ => ?_) (fun c3_ => ?_)
  · refine lv_aload_n hx hb dX6_falling_8 rfl (lv_at hl 1 rfl) ?_
    refine lv_iload_n hx hb dX6_falling_9 rfl (lv_at hl 2 rfl) ?_
    refine kVi (As := [.int c_]) (rest := []) (wr := [(nl_, .inl (cy 0, 8, .inl (fl_))), (nw_, .inl (cy 0, 8, .inl (fw_))), (nLF_, .inr (4, [.ref npF_, .ref ngF_, .ref nkF_])), (npF_, .inl (cy 0, lenF_, .inl (fpF_))), (ngF_, .inl (cy 0, 6, .inl (fgF_))), (nkF_, .inl (cy 0, 32, .inl (fkF_)))]) hX hE (sf_X6_lying l D cy no_ nd_ hour_ ns_ nc_ nl_ nt_ nh_ fallen_ fs_ fc_ lines_ columns_ levels_ things_ walkers_ nw_ nr_ nq_ hangs_ (.ref nLF_) c_ (rg_w rcolumns_ (by decide) (by decide)) (rg_w rlevels_ (by decide) (by decide)) (rg_w rthings_ (by decide) (by decide)) (rg_w rwalkers_ (by decide) (by decide))) (cwVA 1 htA wd_379 wd_376 wd_6 wd_377 wd_378 (by decide +kernel) ⟨by decide, by decide⟩) hP hD hS [0, 1, 2, 4] [3, 5, 6, 7, 8, 9] rfl rfl (by decide +kernel) 0 rfl rfl rfl rfl hl.1 rfl (Nat.le_of_ble_eq_true rfl) dX6_falling_10 (by decide) (fun v10100_ W1 H locs hw hP hD hS => ?_)
    refine W.widen (k := 0) (n := 0) (by decide) (by decide) ?_
    obtain ⟨k10_0_, rfl⟩ := hw
    have hP : va_P D vwCl [(nl_, .inl (cy 0, 8, .inl (fl_))), (nw_, .inl (cy 0, 8, .inl (fw_))), (nLF_, .inr (4, [.ref npF_, .ref ngF_, .ref nkF_])), (npF_, .inl (cy 0, lenF_, .inl (fpF_))), (ngF_, .inl (cy 0, 6, .inl (fgF_))), (nkF_, .inl (cy 0, 32, .inl (fkF_))), (no_, .inr (6, [.ref nd_, .int hour_, .ref ns_, .ref nc_, .ref nl_, .ref nt_, .ref nh_, .int fallen_])), (ns_, .inl (cy 0, 8, .inl (fs_))), (nc_, .inl (cy 0, 8, .inl (fc_))), (nd_, .inr (0, [.int lines_, .int columns_, .int levels_, .int things_, .int walkers_, .ref nw_, .ref nr_, .ref nq_, hangs_, .ref nLF_]))] H := hP
    have hD := va_ca hP hD
    refine lv_istore (lv' := [(4, .int v10100_), (3, .int b_), (0, .ref no_), (1, .int c_), (2, .int b_)]) hx hb dX6_falling_13 hl (by decide) rfl (fun ls hl => ?_)
    refine lv_iconst (v := 0) hx hb dX6_falling_15 (by decide) ?_
    refine lv_istore (lv' := [(5, .int 0), (4, .int v10100_), (3, .int b_), (0, .ref no_), (1, .int c_), (2, .int b_)]) hx hb dX6_falling_16 hl (by decide) rfl (fun ls hl => ?_)
    refine loopT (τ := Int32 × Int32 × (Nat → Int32) × (Nat → Int32)) (WS := fun i => [(nl_, .inl (cy 0, 8, .inl (fl_))), (nw_, .inl (cy 0, 8, .inl (fw_))), (nLF_, .inr (4, [.ref npF_, .ref ngF_, .ref nkF_])), (npF_, .inl (cy 0, lenF_, .inl (fpF_))), (ngF_, .inl (cy 0, 6, .inl (i.2.2.1))), (nkF_, .inl (cy 0, 32, .inl (i.2.2.2))), (no_, .inr (6, [.ref nd_, .int hour_, .ref ns_, .ref nc_, .ref nl_, .ref nt_, .ref nh_, .int fallen_])), (ns_, .inl (cy 0, 8, .inl (fs_))), (nc_, .inl (cy 0, 8, .inl (fc_))), (nd_, .inr (0, [.int lines_, .int columns_, .int levels_, .int things_, .int walkers_, .ref nw_, .ref nr_, .ref nq_, hangs_, .ref nLF_]))]) (LV := fun i => [(5, .int i.1), (4, .int v10100_), (3, .int i.2.1), (0, .ref no_), (1, .int c_), (2, .int b_)]) (fun i => (9 - i.1.toInt).toNat) (fun i => rg (0) (8) i.1 ∧ Itr (R_X6_falling_xR_b1 things_ fs_ fc_ c_ fl_ v10100_ fw_ hour_ lenF_ fpF_) (0, b_, fgF_, fkF_) (i.1, i.2.1, i.2.2.1, i.2.2.2)) ?_ (0, b_, fgF_, fkF_) ⟨(rg_w (rg_lit (by decide) : rg (0) (0) (0 : Int32)) (by decide) (by decide)), (Itr.rf _ _)⟩ hP hD hS (lv_sub hl [0, 1, 2, 3, 4, 5] rfl)
    intro i_ H locs ls hI ih18_ hP hD hS hl
    obtain ⟨v201800_, v201801_, g201802_, g201803_⟩ := i_
    have hI : rg (0) (8) v201800_ ∧ Itr (R_X6_falling_xR_b1 things_ fs_ fc_ c_ fl_ v10100_ fw_ hour_ lenF_ fpF_) (0, b_, fgF_, fkF_) (v201800_, v201801_, g201802_, g201803_) := hI
    obtain ⟨rv201800_, hR1_⟩ := hI
    have hP : va_P D vwCl [(nl_, .inl (cy 0, 8, .inl (fl_))), (nw_, .inl (cy 0, 8, .inl (fw_))), (nLF_, .inr (4, [.ref npF_, .ref ngF_, .ref nkF_])), (npF_, .inl (cy 0, lenF_, .inl (fpF_))), (ngF_, .inl (cy 0, 6, .inl (g201802_))), (nkF_, .inl (cy 0, 32, .inl (g201803_))), (no_, .inr (6, [.ref nd_, .int hour_, .ref ns_, .ref nc_, .ref nl_, .ref nt_, .ref nh_, .int fallen_])), (ns_, .inl (cy 0, 8, .inl (fs_))), (nc_, .inl (cy 0, 8, .inl (fc_))), (nd_, .inr (0, [.int lines_, .int columns_, .int levels_, .int things_, .int walkers_, .ref nw_, .ref nr_, .ref nq_, hangs_, .ref nLF_]))] H := hP
    have hD := va_ca hP hD
    have hl : lv_has ls 8 [(5, .int v201800_), (4, .int v10100_), (3, .int v201801_), (0, .ref no_), (1, .int c_), (2, .int b_)] := hl
    refine lv_iload hx hb dX6_falling_18 (lv_at hl 0 rfl) ?_
    refine lv_bipush (v := 8) hx hb dX6_falling_20 (by decide) ?_
    refine joinT (D := D) (A := A) (pc := 129) (mL := 8) (τ := Int32 × (Nat → Int32) × (Nat → Int32)) (WS := fun i => [(nl_, .inl (cy 0, 8, .inl (fl_))), (nw_, .inl (cy 0, 8, .inl (fw_))), (nLF_, .inr (4, [.ref npF_, .ref ngF_, .ref nkF_])), (npF_, .inl (cy 0, lenF_, .inl (fpF_))), (ngF_, .inl (cy 0, 6, .inl (i.2.1))), (nkF_, .inl (cy 0, 32, .inl (i.2.2))), (no_, .inr (6, [.ref nd_, .int hour_, .ref ns_, .ref nc_, .ref nl_, .ref nt_, .ref nh_, .int fallen_])), (ns_, .inl (cy 0, 8, .inl (fs_))), (nc_, .inl (cy 0, 8, .inl (fc_))), (nd_, .inr (0, [.int lines_, .int columns_, .int levels_, .int things_, .int walkers_, .ref nw_, .ref nr_, .ref nq_, hangs_, .ref nLF_]))]) (LV := fun i => [(5, .int v201800_), (4, .int v10100_), (3, .int i.1), (0, .ref no_), (1, .int c_), (2, .int b_)]) (ST := fun i => []) (cells := 0) (slots := 0) (fun i => R_X6_falling_xR_j2 v201800_ v201801_ g201802_ g201803_ things_ fs_ fc_ c_ fl_ v10100_ fw_ hour_ lenF_ fpF_ i.1 i.2.1 i.2.2) (fun i_ H locs ls hI hP hD hS hl => ?_) (fun j129_ => ?_)
    · obtain ⟨v212900_, g212901_, g212902_⟩ := i_
      have hI : R_X6_falling_xR_j2 v201800_ v201801_ g201802_ g201803_ things_ fs_ fc_ c_ fl_ v10100_ fw_ hour_ lenF_ fpF_ v212900_ g212901_ g212902_ := hI
      have hR2_ := hI
      have hP : va_P D vwCl [(nl_, .inl (cy 0, 8, .inl (fl_))), (nw_, .inl (cy 0, 8, .inl (fw_))), (nLF_, .inr (4, [.ref npF_, .ref ngF_, .ref nkF_])), (npF_, .inl (cy 0, lenF_, .inl (fpF_))), (ngF_, .inl (cy 0, 6, .inl (g212901_))), (nkF_, .inl (cy 0, 32, .inl (g212902_))), (no_, .inr (6, [.ref nd_, .int hour_, .ref ns_, .ref nc_, .ref nl_, .ref nt_, .ref nh_, .int fallen_])), (ns_, .inl (cy 0, 8, .inl (fs_))), (nc_, .inl (cy 0, 8, .inl (fc_))), (nd_, .inr (0, [.int lines_, .int columns_, .int levels_, .int things_, .int walkers_, .ref nw_, .ref nr_, .ref nq_, hangs_, .ref nLF_]))] H := hP
      have hD := va_ca hP hD
      have hl : lv_has ls 8 [(5, .int v201800_), (4, .int v10100_), (3, .int v212900_), (0, .ref no_), (1, .int c_), (2, .int b_)] := hl
      refine lv_iload_n hx hb dX6_falling_129 rfl (lv_at hl 2 rfl) ?_
      have hP : va_P D vwCl [(no_, .inr (6, [.ref nd_, .int hour_, .ref ns_, .ref nc_, .ref nl_, .ref nt_, .ref nh_, .int fallen_])), (ns_, .inl (cy 0, 8, .inl (fs_))), (nc_, .inl (cy 0, 8, .inl (fc_))), (nl_, .inl (cy 0, 8, .inl (fl_))), (nd_, .inr (0, [.int lines_, .int columns_, .int levels_, .int things_, .int walkers_, .ref nw_, .ref nr_, .ref nq_, hangs_, .ref nLF_])), (nw_, .inl (cy 0, 8, .inl (fw_))), (nLF_, .inr (4, [.ref npF_, .ref ngF_, .ref nkF_])), (npF_, .inl (cy 0, lenF_, .inl (fpF_))), (ngF_, .inl (cy 0, 6, .inl (g212901_))), (nkF_, .inl (cy 0, 32, .inl (g212902_)))] H := hP.sub [6, 7, 8, 0, 9, 1, 2, 3, 4, 5] rfl
      have hD : va_D A [(no_, .inr (6, [.ref nd_, .int hour_, .ref ns_, .ref nc_, .ref nl_, .ref nt_, .ref nh_, .int fallen_])), (ns_, .inl (cy 0, 8, .inl (fs_))), (nc_, .inl (cy 0, 8, .inl (fc_))), (nl_, .inl (cy 0, 8, .inl (fl_))), (nd_, .inr (0, [.int lines_, .int columns_, .int levels_, .int things_, .int walkers_, .ref nw_, .ref nr_, .ref nq_, hangs_, .ref nLF_])), (nw_, .inl (cy 0, 8, .inl (fw_))), (nLF_, .inr (4, [.ref npF_, .ref ngF_, .ref nkF_])), (npF_, .inl (cy 0, lenF_, .inl (fpF_))), (ngF_, .inl (cy 0, 6, .inl (g212901_))), (nkF_, .inl (cy 0, 32, .inl (g212902_)))] := hD.sub [6, 7, 8, 0, 9, 1, 2, 3, 4, 5] (by decide +kernel) rfl
      exact rI hX hE hP hD hS dX6_falling_130 (by decide) (by decide) ⟨g212901_, g212902_, (Or.inl ⟨v10100_, v201800_, v201801_, g201802_, g201803_, v212900_, g212901_, g212902_, c3_, k10_0_, hR1_, hR2_, rfl, rfl, rfl⟩), rfl⟩
    refine lv_icmp_ge (tgt := 129) hx hb dX6_falling_22 (by decide) (fun c22_ => ?_) (fun c22_ => ?_)
    · have g1_ : rg (8) (8) v201800_ := rg_le2 c22_ (rg_lit (by decide) : rg (8) (8) (8 : Int32)) rv201800_ (by decide)
      exact j129_ (v201801_, g201802_, g201803_) _ _ ls (Or.inl ⟨c22_, rfl, rfl, rfl⟩) hP hD hS (lv_sub hl [0, 1, 2, 3, 4, 5] rfl)
    · have g2_ : rg (0) (7) v201800_ := rg_lt1 (rg_nle c22_) rv201800_ (rg_lit (by decide) : rg (8) (8) (8 : Int32)) (by decide)
      refine lv_iload_n hx hb dX6_falling_25 rfl (lv_at hl 2 rfl) ?_
      refine lv_istore (lv' := [(6, .int v201801_), (5, .int v201800_), (4, .int v10100_), (3, .int v201801_), (0, .ref no_), (1, .int c_), (2, .int b_)]) hx hb dX6_falling_26 hl (by decide) rfl (fun ls hl => ?_)
      refine lv_iconst (v := 0) hx hb dX6_falling_28 (by decide) ?_
      refine lv_istore (lv' := [(7, .int 0), (6, .int v201801_), (5, .int v201800_), (4, .int v10100_), (3, .int v201801_), (0, .ref no_), (1, .int c_), (2, .int b_)]) hx hb dX6_falling_29 hl (by decide) rfl (fun ls hl => ?_)
      refine loopT (τ := Int32 × Int32 × (Nat → Int32) × (Nat → Int32)) (WS := fun i => [(nl_, .inl (cy 0, 8, .inl (fl_))), (nw_, .inl (cy 0, 8, .inl (fw_))), (nLF_, .inr (4, [.ref npF_, .ref ngF_, .ref nkF_])), (npF_, .inl (cy 0, lenF_, .inl (fpF_))), (ngF_, .inl (cy 0, 6, .inl (i.2.2.1))), (nkF_, .inl (cy 0, 32, .inl (i.2.2.2))), (no_, .inr (6, [.ref nd_, .int hour_, .ref ns_, .ref nc_, .ref nl_, .ref nt_, .ref nh_, .int fallen_])), (ns_, .inl (cy 0, 8, .inl (fs_))), (nc_, .inl (cy 0, 8, .inl (fc_))), (nd_, .inr (0, [.int lines_, .int columns_, .int levels_, .int things_, .int walkers_, .ref nw_, .ref nr_, .ref nq_, hangs_, .ref nLF_]))]) (LV := fun i => [(7, .int i.1), (6, .int v201801_), (5, .int v201800_), (4, .int v10100_), (3, .int i.2.1), (0, .ref no_), (1, .int c_), (2, .int b_)]) (fun i => (9 - i.1.toInt).toNat) (fun i => rg (0) (8) i.1 ∧ Itr (R_X6_falling_xR_b4 things_ fs_ fc_ c_ fl_ v10100_ fw_ hour_ lenF_ fpF_) (0, v201801_, g201802_, g201803_) (i.1, i.2.1, i.2.2.1, i.2.2.2)) ?_ (0, v201801_, g201802_, g201803_) ⟨(rg_w (rg_lit (by decide) : rg (0) (0) (0 : Int32)) (by decide) (by decide)), (Itr.rf _ _)⟩ hP hD hS (lv_sub hl [0, 1, 2, 3, 4, 5, 6, 7] rfl)
      intro i_ H locs ls hI ih31_ hP hD hS hl
      obtain ⟨v203100_, v203103_, g203101_, g203102_⟩ := i_
      have hI : rg (0) (8) v203100_ ∧ Itr (R_X6_falling_xR_b4 things_ fs_ fc_ c_ fl_ v10100_ fw_ hour_ lenF_ fpF_) (0, v201801_, g201802_, g201803_) (v203100_, v203103_, g203101_, g203102_) := hI
      obtain ⟨rv203100_, hR4_⟩ := hI
      have hP : va_P D vwCl [(nl_, .inl (cy 0, 8, .inl (fl_))), (nw_, .inl (cy 0, 8, .inl (fw_))), (nLF_, .inr (4, [.ref npF_, .ref ngF_, .ref nkF_])), (npF_, .inl (cy 0, lenF_, .inl (fpF_))), (ngF_, .inl (cy 0, 6, .inl (g203101_))), (nkF_, .inl (cy 0, 32, .inl (g203102_))), (no_, .inr (6, [.ref nd_, .int hour_, .ref ns_, .ref nc_, .ref nl_, .ref nt_, .ref nh_, .int fallen_])), (ns_, .inl (cy 0, 8, .inl (fs_))), (nc_, .inl (cy 0, 8, .inl (fc_))), (nd_, .inr (0, [.int lines_, .int columns_, .int levels_, .int things_, .int walkers_, .ref nw_, .ref nr_, .ref nq_, hangs_, .ref nLF_]))] H := hP
      have hD := va_ca hP hD
      have hl : lv_has ls 8 [(7, .int v203100_), (6, .int v201801_), (5, .int v201800_), (4, .int v10100_), (3, .int v203103_), (0, .ref no_), (1, .int c_), (2, .int b_)] := hl
      refine lv_iload hx hb dX6_falling_31 (lv_at hl 0 rfl) ?_
      refine lv_aload_n hx hb dX6_falling_33 rfl (lv_at hl 5 rfl) ?_
      refine va_get (ci := 6) (v := .ref nd_) (C := RX6) (T := TX6) (N := 8) hx hb htA in_X6 hown hK hP 6 rfl rfl 0 (by decide) (htA _ wd_166) (fun _ h => h) rfl dX6_falling_34 ?_
      refine va_get (ci := 0) (v := .int things_) (C := RX0) (T := TX0) (N := 10) hx hb htA in_X0 hown hK hP 9 rfl rfl 3 (by decide) (htA _ wd_86) (fun _ h => h) rfl dX6_falling_37 ?_
      refine lv_icmp_ge (tgt := 114) hx hb dX6_falling_40 (by decide) (fun c40_ => ?_) (fun c40_ => ?_)
      · refine lv_iload_n hx hb dX6_falling_114 rfl (lv_at hl 4 rfl) ?_
        refine lv_iload hx hb dX6_falling_115 (lv_at hl 1 rfl) ?_
        refine lv_icmp_ne (tgt := 123) hx hb dX6_falling_117 (by decide) (fun c117_ => ?_) (fun c117_ => ?_)
        · refine lv_iinc (v := v201800_ + 1) (lv' := [(5, .int (v201800_ + 1)), (7, .int v203100_), (6, .int v201801_), (4, .int v10100_), (3, .int v203103_), (0, .ref no_), (1, .int c_), (2, .int b_)]) hx hb dX6_falling_123 hl (k := 2) rfl rfl (by decide) rfl (fun ls hl => ?_)
          have g3_ : rg (1) (8) (v201800_ + 1) := rg_add g2_ (rg_lit (by decide) : rg (1) (1) (1 : Int32)) (by decide) (by decide) (by decide) (by decide)
          refine lv_goto (tgt := 18) hx hb dX6_falling_126 (by decide) ?_
          exact ih18_ (v201800_ + 1, v203103_, g203101_, g203102_) _ _ ls ⟨(rg_w g3_ (by decide) (by decide)), (Itr.st hR1_ (Or.inl ⟨v203100_, v203103_, g203101_, g203102_, c22_, hR4_, c40_, c117_, rfl⟩))⟩ (show (9 - (v201800_ + 1).toInt).toNat < (9 - v201800_.toInt).toNat from by rw [show (v201800_ + 1).toInt = v201800_.toInt + 1 from inc32 v201800_ (by have hq := (rv201800_).2; omega)]; have hq := (g2_).1; have hq2 := (g2_).2; omega) hP hD hS (lv_sub hl [0, 3, 4, 5, 6, 7] rfl)
        · refine lv_goto (tgt := 129) hx hb dX6_falling_120 (by decide) ?_
          exact j129_ (v203103_, g203101_, g203102_) _ _ ls (Or.inr (Or.inl ⟨v203100_, v203103_, g203101_, g203102_, c22_, hR4_, c40_, c117_, rfl, rfl, rfl⟩)) hP hD hS (lv_sub hl [2, 3, 4, 5, 6, 7] rfl)
      · have g4_ : rg (0) (7) v203100_ := rg_lt1 (rg_nle c40_) rv203100_ rthings_ (by decide)
        have g5_ : rg (1) (8) things_ := rg_lt2 (rg_nle c40_) rv203100_ rthings_ (by decide)
        refine lv_aload_n hx hb dX6_falling_43 rfl (lv_at hl 5 rfl) ?_
        refine va_get (ci := 6) (v := .ref ns_) (C := RX6) (T := TX6) (N := 8) hx hb htA in_X6 hown hK hP 6 rfl rfl 2 (by decide) (htA _ wd_174) (fun _ h => h) rfl dX6_falling_44 ?_
        refine lv_iload hx hb dX6_falling_47 (lv_at hl 0 rfl) ?_
        refine va_iald hx hb hK hP 7 0 rfl rfl (rg_in g4_ (by decide) (by decide)) dX6_falling_49 ?_
        refine lv_topi (fun v10490_ ev10490_ => ?_)
        refine lv_iconst (v := 1) hx hb dX6_falling_50 (by decide) ?_
        refine joinT (D := D) (A := A) (pc := 108) (mL := 8) (τ := Int32 × (Nat → Int32) × (Nat → Int32)) (WS := fun i => [(nl_, .inl (cy 0, 8, .inl (fl_))), (nw_, .inl (cy 0, 8, .inl (fw_))), (nLF_, .inr (4, [.ref npF_, .ref ngF_, .ref nkF_])), (npF_, .inl (cy 0, lenF_, .inl (fpF_))), (ngF_, .inl (cy 0, 6, .inl (i.2.1))), (nkF_, .inl (cy 0, 32, .inl (i.2.2))), (no_, .inr (6, [.ref nd_, .int hour_, .ref ns_, .ref nc_, .ref nl_, .ref nt_, .ref nh_, .int fallen_])), (ns_, .inl (cy 0, 8, .inl (fs_))), (nc_, .inl (cy 0, 8, .inl (fc_))), (nd_, .inr (0, [.int lines_, .int columns_, .int levels_, .int things_, .int walkers_, .ref nw_, .ref nr_, .ref nq_, hangs_, .ref nLF_]))]) (LV := fun i => [(7, .int v203100_), (6, .int v201801_), (5, .int v201800_), (4, .int v10100_), (3, .int i.1), (0, .ref no_), (1, .int c_), (2, .int b_)]) (ST := fun i => []) (cells := 0) (slots := 0) (fun i => R_X6_falling_xR_j5 v10490_ v203103_ g203101_ g203102_ fc_ v203100_ c_ fl_ v10100_ things_ fw_ hour_ lenF_ fpF_ i.1 i.2.1 i.2.2) (fun i_ H locs ls hI hP hD hS hl => ?_) (fun j108_ => ?_)
        · obtain ⟨v210802_, g210800_, g210801_⟩ := i_
          have hI : R_X6_falling_xR_j5 v10490_ v203103_ g203101_ g203102_ fc_ v203100_ c_ fl_ v10100_ things_ fw_ hour_ lenF_ fpF_ v210802_ g210800_ g210801_ := hI
          have hR5_ := hI
          have hP : va_P D vwCl [(nl_, .inl (cy 0, 8, .inl (fl_))), (nw_, .inl (cy 0, 8, .inl (fw_))), (nLF_, .inr (4, [.ref npF_, .ref ngF_, .ref nkF_])), (npF_, .inl (cy 0, lenF_, .inl (fpF_))), (ngF_, .inl (cy 0, 6, .inl (g210800_))), (nkF_, .inl (cy 0, 32, .inl (g210801_))), (no_, .inr (6, [.ref nd_, .int hour_, .ref ns_, .ref nc_, .ref nl_, .ref nt_, .ref nh_, .int fallen_])), (ns_, .inl (cy 0, 8, .inl (fs_))), (nc_, .inl (cy 0, 8, .inl (fc_))), (nd_, .inr (0, [.int lines_, .int columns_, .int levels_, .int things_, .int walkers_, .ref nw_, .ref nr_, .ref nq_, hangs_, .ref nLF_]))] H := hP
          have hD := va_ca hP hD
          have hl : lv_has ls 8 [(7, .int v203100_), (6, .int v201801_), (5, .int v201800_), (4, .int v10100_), (3, .int v210802_), (0, .ref no_), (1, .int c_), (2, .int b_)] := hl
          refine lv_iinc (v := v203100_ + 1) (lv' := [(7, .int (v203100_ + 1)), (6, .int v201801_), (5, .int v201800_), (4, .int v10100_), (3, .int v210802_), (0, .ref no_), (1, .int c_), (2, .int b_)]) hx hb dX6_falling_108 hl (k := 0) rfl rfl (by decide) rfl (fun ls hl => ?_)
          have g6_ : rg (1) (8) (v203100_ + 1) := rg_add g4_ (rg_lit (by decide) : rg (1) (1) (1 : Int32)) (by decide) (by decide) (by decide) (by decide)
          refine lv_goto (tgt := 31) hx hb dX6_falling_111 (by decide) ?_
          exact ih31_ (v203100_ + 1, v210802_, g210800_, g210801_) _ _ ls ⟨(rg_w g6_ (by decide) (by decide)), (Itr.st hR4_ (Or.inl ⟨v10490_, v210802_, g210800_, g210801_, c40_, ev10490_, hR5_, rfl⟩))⟩ (show (9 - (v203100_ + 1).toInt).toNat < (9 - v203100_.toInt).toNat from by rw [show (v203100_ + 1).toInt = v203100_.toInt + 1 from inc32 v203100_ (by have hq := (rv203100_).2; omega)]; have hq := (g4_).1; have hq2 := (g4_).2; omega) hP hD hS (lv_sub hl [0, 1, 2, 3, 4, 5, 6, 7] rfl)
        refine lv_icmp_ne (tgt := 108) hx hb dX6_falling_51 (by decide) (fun c51_ => ?_) (fun c51_ => ?_)
        · exact j108_ (v203103_, g203101_, g203102_) _ _ ls (Or.inl ⟨c51_, rfl, rfl, rfl⟩) hP hD hS (lv_sub hl [0, 1, 2, 3, 4, 5, 6, 7] rfl)
        · have g7_ : rg (1) (1) v10490_ := rg_eq c51_ (rg_lit (by decide) : rg (1) (1) (1 : Int32))
          refine lv_aload_n hx hb dX6_falling_54 rfl (lv_at hl 5 rfl) ?_
          refine va_get (ci := 6) (v := .ref nc_) (C := RX6) (T := TX6) (N := 8) hx hb htA in_X6 hown hK hP 6 rfl rfl 3 (by decide) (htA _ wd_178) (fun _ h => h) rfl dX6_falling_55 ?_
          refine lv_iload hx hb dX6_falling_58 (lv_at hl 0 rfl) ?_
          refine va_iald hx hb hK hP 8 0 rfl rfl (rg_in g4_ (by decide) (by decide)) dX6_falling_60 ?_
          refine lv_topi (fun v10600_ ev10600_ => ?_)
          refine lv_iload_n hx hb dX6_falling_61 rfl (lv_at hl 6 rfl) ?_
          refine lv_icmp_ne (tgt := 108) hx hb dX6_falling_62 (by decide) (fun c62_ => ?_) (fun c62_ => ?_)
          · exact j108_ (v203103_, g203101_, g203102_) _ _ ls (Or.inr (Or.inl ⟨v10600_, c51_, ev10600_, c62_, rfl, rfl, rfl⟩)) hP hD hS (lv_sub hl [0, 1, 2, 3, 4, 5, 6, 7] rfl)
          · refine lv_iload_n hx hb dX6_falling_65 rfl (lv_at hl 4 rfl) ?_
            refine lv_iload hx hb dX6_falling_66 (lv_at hl 0 rfl) ?_
            refine lv_ishr hx hb dX6_falling_68 ?_
            refine lv_iconst (v := 1) hx hb dX6_falling_69 (by decide) ?_
            refine lv_iand hx hb dX6_falling_70 ?_
            have g8_ : rg (0) (1) ((v203103_ >>> (v203100_ &&& 31)) &&& 1) := rg_and (by decide) (by decide)
            refine lv_if_ne (tgt := 108) hx hb dX6_falling_71 (by decide) (fun c71_ => ?_) (fun c71_ => ?_)
            · have g9_ : rg (1) (1) ((v203103_ >>> (v203100_ &&& 31)) &&& 1) := rg_ne1 c71_ g8_ (by decide) (by decide)
              exact j108_ (v203103_, g203101_, g203102_) _ _ ls (Or.inr (Or.inr (Or.inl ⟨v10600_, c51_, ev10600_, c62_, c71_, rfl, rfl, rfl⟩))) hP hD hS (lv_sub hl [0, 1, 2, 3, 4, 5, 6, 7] rfl)
            · have g10_ : rg (0) (0) ((v203103_ >>> (v203100_ &&& 31)) &&& 1) := rg_eq c71_ (rg_lit (by decide) : rg (0) (0) (0 : Int32))
              refine lv_aload_n hx hb dX6_falling_74 rfl (lv_at hl 5 rfl) ?_
              refine va_get (ci := 6) (v := .ref nl_) (C := RX6) (T := TX6) (N := 8) hx hb htA in_X6 hown hK hP 6 rfl rfl 4 (by decide) (htA _ wd_181) (fun _ h => h) rfl dX6_falling_75 ?_
              refine lv_iload hx hb dX6_falling_78 (lv_at hl 0 rfl) ?_
              refine va_iald hx hb hK hP 0 0 rfl rfl (rg_in g4_ (by decide) (by decide)) dX6_falling_80 ?_
              refine lv_topi (fun v10800_ ev10800_ => ?_)
              refine lv_iload hx hb dX6_falling_81 (lv_at hl 3 rfl) ?_
              refine lv_iload_n hx hb dX6_falling_83 rfl (lv_at hl 4 rfl) ?_
              refine kSi (As := [.int v203103_]) (rest := [.int v10100_, .int v10800_]) (wr := [(nl_, .inl (cy 0, 8, .inl (fl_))), (nw_, .inl (cy 0, 8, .inl (fw_))), (nLF_, .inr (4, [.ref npF_, .ref ngF_, .ref nkF_])), (npF_, .inl (cy 0, lenF_, .inl (fpF_))), (ngF_, .inl (cy 0, 6, .inl (g203101_))), (nkF_, .inl (cy 0, 32, .inl (g203102_))), (no_, .inr (6, [.ref nd_, .int hour_, .ref ns_, .ref nc_, .ref nl_, .ref nt_, .ref nh_, .int fallen_])), (ns_, .inl (cy 0, 8, .inl (fs_))), (nc_, .inl (cy 0, 8, .inl (fc_))), (nd_, .inr (0, [.int lines_, .int columns_, .int levels_, .int things_, .int walkers_, .ref nw_, .ref nr_, .ref nq_, hangs_, .ref nLF_]))]) hX hE (sf_J6_bitCount_0f7a4 l D cy v203103_ ) (cwSA 1 htA wd_438 wd_436 wd_24 wd_437 (by decide +kernel) ⟨by decide, by decide⟩) hP hD hS [] [0, 1, 2, 3, 4, 5, 6, 7, 8, 9] rfl rfl (by decide +kernel) rfl hl.1 rfl (Nat.le_of_ble_eq_true rfl) dX6_falling_84 (by decide) (fun v10840_ W1 H locs hw hP hD hS => ?_)
              refine W.widen (k := 0) (n := 0) (by decide) (by decide) ?_
              obtain ⟨k84_0_, rfl, kr84_⟩ := hw
              have hP : va_P D vwCl [(nl_, .inl (cy 0, 8, .inl (fl_))), (nw_, .inl (cy 0, 8, .inl (fw_))), (nLF_, .inr (4, [.ref npF_, .ref ngF_, .ref nkF_])), (npF_, .inl (cy 0, lenF_, .inl (fpF_))), (ngF_, .inl (cy 0, 6, .inl (g203101_))), (nkF_, .inl (cy 0, 32, .inl (g203102_))), (no_, .inr (6, [.ref nd_, .int hour_, .ref ns_, .ref nc_, .ref nl_, .ref nt_, .ref nh_, .int fallen_])), (ns_, .inl (cy 0, 8, .inl (fs_))), (nc_, .inl (cy 0, 8, .inl (fc_))), (nd_, .inr (0, [.int lines_, .int columns_, .int levels_, .int things_, .int walkers_, .ref nw_, .ref nr_, .ref nq_, hangs_, .ref nLF_]))] H := hP
              have hD := va_ca hP hD
              refine lv_iadd hx hb dX6_falling_87 ?_
              refine joinT (D := D) (A := A) (pc := 101) (mL := 8) (τ := (Nat → Int32) × (Nat → Int32)) (WS := fun i => [(nl_, .inl (cy 0, 8, .inl (fl_))), (nw_, .inl (cy 0, 8, .inl (fw_))), (nLF_, .inr (4, [.ref npF_, .ref ngF_, .ref nkF_])), (npF_, .inl (cy 0, lenF_, .inl (fpF_))), (ngF_, .inl (cy 0, 6, .inl (i.1))), (nkF_, .inl (cy 0, 32, .inl (i.2))), (no_, .inr (6, [.ref nd_, .int hour_, .ref ns_, .ref nc_, .ref nl_, .ref nt_, .ref nh_, .int fallen_])), (ns_, .inl (cy 0, 8, .inl (fs_))), (nc_, .inl (cy 0, 8, .inl (fc_))), (nd_, .inr (0, [.int lines_, .int columns_, .int levels_, .int things_, .int walkers_, .ref nw_, .ref nr_, .ref nq_, hangs_, .ref nLF_]))]) (LV := fun i => [(7, .int v203100_), (6, .int v201801_), (5, .int v201800_), (4, .int v10100_), (3, .int v203103_), (0, .ref no_), (1, .int c_), (2, .int b_)]) (ST := fun i => []) (cells := 0) (slots := 0) (fun i => R_X6_falling_xR_j6 v10800_ v10100_ v10840_ g203101_ g203102_ things_ v203103_ fl_ v203100_ fw_ hour_ lenF_ fpF_ i.1 i.2) (fun i_ H locs ls hI hP hD hS hl => ?_) (fun j101_ => ?_)
              · obtain ⟨g210100_, g210101_⟩ := i_
                have hI : R_X6_falling_xR_j6 v10800_ v10100_ v10840_ g203101_ g203102_ things_ v203103_ fl_ v203100_ fw_ hour_ lenF_ fpF_ g210100_ g210101_ := hI
                have hR6_ := hI
                have hP : va_P D vwCl [(nl_, .inl (cy 0, 8, .inl (fl_))), (nw_, .inl (cy 0, 8, .inl (fw_))), (nLF_, .inr (4, [.ref npF_, .ref ngF_, .ref nkF_])), (npF_, .inl (cy 0, lenF_, .inl (fpF_))), (ngF_, .inl (cy 0, 6, .inl (g210100_))), (nkF_, .inl (cy 0, 32, .inl (g210101_))), (no_, .inr (6, [.ref nd_, .int hour_, .ref ns_, .ref nc_, .ref nl_, .ref nt_, .ref nh_, .int fallen_])), (ns_, .inl (cy 0, 8, .inl (fs_))), (nc_, .inl (cy 0, 8, .inl (fc_))), (nd_, .inr (0, [.int lines_, .int columns_, .int levels_, .int things_, .int walkers_, .ref nw_, .ref nr_, .ref nq_, hangs_, .ref nLF_]))] H := hP
                have hD := va_ca hP hD
                have hl : lv_has ls 8 [(7, .int v203100_), (6, .int v201801_), (5, .int v201800_), (4, .int v10100_), (3, .int v203103_), (0, .ref no_), (1, .int c_), (2, .int b_)] := hl
                refine lv_iload_n hx hb dX6_falling_101 rfl (lv_at hl 4 rfl) ?_
                refine lv_iconst (v := 1) hx hb dX6_falling_102 (by decide) ?_
                refine lv_iload hx hb dX6_falling_103 (lv_at hl 0 rfl) ?_
                refine lv_ishl hx hb dX6_falling_105 ?_
                refine lv_ior hx hb dX6_falling_106 ?_
                refine lv_istore_n (lv' := [(3, .int (v203103_ ||| (1 <<< (v203100_ &&& 31)))), (7, .int v203100_), (6, .int v201801_), (5, .int v201800_), (4, .int v10100_), (0, .ref no_), (1, .int c_), (2, .int b_)]) hx hb dX6_falling_107 rfl hl (by decide) rfl (fun ls hl => ?_)
                exact j108_ (v203103_ ||| (1 <<< (v203100_ &&& 31)), g210100_, g210101_) _ _ ls (Or.inr (Or.inr (Or.inr (Or.inl ⟨v10600_, v10800_, v10840_, g210100_, g210101_, c51_, ev10600_, c62_, c71_, ev10800_, k84_0_, hR6_, rfl, rfl, rfl⟩)))) hP hD hS (lv_sub hl [1, 2, 3, 4, 0, 5, 6, 7] rfl)
              refine lv_icmp_lt (tgt := 101) hx hb dX6_falling_88 (by decide) (fun c88_ => ?_) (fun c88_ => ?_)
              · have g11_ : rg (-2147483648) (2147483646) v10800_ := rg_lt1 c88_ (rg_any _) (rg_any _) (by decide)
                have g12_ : rg (-2147483647) (2147483647) (v10100_ + v10840_) := rg_lt2 c88_ (rg_any _) (rg_any _) (by decide)
                exact j101_ (g203101_, g203102_) _ _ ls (Or.inl ⟨c88_, rfl, rfl⟩) hP hD hS (lv_sub hl [0, 1, 2, 3, 4, 5, 6, 7] rfl)
              · refine lv_aload_n hx hb dX6_falling_91 rfl (lv_at hl 5 rfl) ?_
                refine lv_iload hx hb dX6_falling_92 (lv_at hl 0 rfl) ?_
                refine lv_iload_n hx hb dX6_falling_94 rfl (lv_at hl 4 rfl) ?_
                refine kVi (As := [.int v203100_, .int v203103_]) (rest := []) (wr := [(ns_, .inl (cy 0, 8, .inl (fs_))), (nc_, .inl (cy 0, 8, .inl (fc_)))]) hX hE (sf_X6_isFreed_xR l D cy no_ nd_ hour_ ns_ nc_ nl_ nt_ nh_ fallen_ fl_ lines_ columns_ levels_ things_ walkers_ nw_ nr_ nq_ hangs_ nLF_ fw_ npF_ ngF_ nkF_ lenF_ fpF_ g203101_ g203102_ v203100_ v203103_ hlenF_ (rg_w rcolumns_ (by decide) (by decide)) (rg_w rlevels_ (by decide) (by decide)) (rg_w g5_ (by decide) (by decide)) (rg_w rwalkers_ (by decide) (by decide)) (rg_w g4_ (by decide) (by decide))) (cwVA 2 htA wd_445 wd_442 wd_6 wd_444 wp_2 (by decide +kernel) ⟨by decide, by decide⟩) hP hD hS [6, 0, 9, 1, 2, 3, 4, 5] [7, 8] rfl rfl (by decide +kernel) 0 rfl rfl rfl rfl hl.1 rfl (Nat.le_of_ble_eq_true rfl) dX6_falling_95 (by decide) (fun v10950_ W1 H locs hw hP hD hS => ?_)
                refine W.widen (k := 0) (n := 0) (by decide) (by decide) ?_
                obtain ⟨g10951_, g10952_, k95_0_, rfl, kr95_⟩ := hw
                have hP : va_P D vwCl [(ns_, .inl (cy 0, 8, .inl (fs_))), (nc_, .inl (cy 0, 8, .inl (fc_))), (no_, .inr (6, [.ref nd_, .int hour_, .ref ns_, .ref nc_, .ref nl_, .ref nt_, .ref nh_, .int fallen_])), (nl_, .inl (cy 0, 8, .inl (fl_))), (nd_, .inr (0, [.int lines_, .int columns_, .int levels_, .int things_, .int walkers_, .ref nw_, .ref nr_, .ref nq_, hangs_, .ref nLF_])), (nw_, .inl (cy 0, 8, .inl (fw_))), (nLF_, .inr (4, [.ref npF_, .ref ngF_, .ref nkF_])), (npF_, .inl (cy 0, lenF_, .inl (fpF_))), (ngF_, .inl (cy 0, 6, .inl (g10951_))), (nkF_, .inl (cy 0, 32, .inl (g10952_)))] H := hP
                have hD := va_ca hP hD
                refine lv_if_eq (tgt := 108) hx hb dX6_falling_98 (by decide) (fun c98_ => ?_) (fun c98_ => ?_)
                · have g13_ : rg (0) (0) v10950_ := rg_eq c98_ (rg_lit (by decide) : rg (0) (0) (0 : Int32))
                  have hP : va_P D vwCl [(nl_, .inl (cy 0, 8, .inl (fl_))), (nw_, .inl (cy 0, 8, .inl (fw_))), (nLF_, .inr (4, [.ref npF_, .ref ngF_, .ref nkF_])), (npF_, .inl (cy 0, lenF_, .inl (fpF_))), (ngF_, .inl (cy 0, 6, .inl (g10951_))), (nkF_, .inl (cy 0, 32, .inl (g10952_))), (no_, .inr (6, [.ref nd_, .int hour_, .ref ns_, .ref nc_, .ref nl_, .ref nt_, .ref nh_, .int fallen_])), (ns_, .inl (cy 0, 8, .inl (fs_))), (nc_, .inl (cy 0, 8, .inl (fc_))), (nd_, .inr (0, [.int lines_, .int columns_, .int levels_, .int things_, .int walkers_, .ref nw_, .ref nr_, .ref nq_, hangs_, .ref nLF_]))] H := hP.sub [3, 5, 6, 7, 8, 9, 2, 0, 1, 4] rfl
                  have hD : va_D A [(nl_, .inl (cy 0, 8, .inl (fl_))), (nw_, .inl (cy 0, 8, .inl (fw_))), (nLF_, .inr (4, [.ref npF_, .ref ngF_, .ref nkF_])), (npF_, .inl (cy 0, lenF_, .inl (fpF_))), (ngF_, .inl (cy 0, 6, .inl (g10951_))), (nkF_, .inl (cy 0, 32, .inl (g10952_))), (no_, .inr (6, [.ref nd_, .int hour_, .ref ns_, .ref nc_, .ref nl_, .ref nt_, .ref nh_, .int fallen_])), (ns_, .inl (cy 0, 8, .inl (fs_))), (nc_, .inl (cy 0, 8, .inl (fc_))), (nd_, .inr (0, [.int lines_, .int columns_, .int levels_, .int things_, .int walkers_, .ref nw_, .ref nr_, .ref nq_, hangs_, .ref nLF_]))] := hD.sub [3, 5, 6, 7, 8, 9, 2, 0, 1, 4] (by decide +kernel) rfl
                  exact j108_ (v203103_, g10951_, g10952_) _ _ ls (Or.inr (Or.inr (Or.inr (Or.inr (Or.inl ⟨v10600_, v10800_, v10840_, g10951_, g10952_, v10950_, c51_, ev10600_, c62_, c71_, ev10800_, k84_0_, c88_, k95_0_, c98_, rfl, rfl, rfl⟩))))) hP hD hS (lv_sub hl [0, 1, 2, 3, 4, 5, 6, 7] rfl)
                · have g14_ : rg (1) (1) v10950_ := rg_ne1 c98_ kr95_ (by decide) (by decide)
                  have hP : va_P D vwCl [(nl_, .inl (cy 0, 8, .inl (fl_))), (nw_, .inl (cy 0, 8, .inl (fw_))), (nLF_, .inr (4, [.ref npF_, .ref ngF_, .ref nkF_])), (npF_, .inl (cy 0, lenF_, .inl (fpF_))), (ngF_, .inl (cy 0, 6, .inl (g10951_))), (nkF_, .inl (cy 0, 32, .inl (g10952_))), (no_, .inr (6, [.ref nd_, .int hour_, .ref ns_, .ref nc_, .ref nl_, .ref nt_, .ref nh_, .int fallen_])), (ns_, .inl (cy 0, 8, .inl (fs_))), (nc_, .inl (cy 0, 8, .inl (fc_))), (nd_, .inr (0, [.int lines_, .int columns_, .int levels_, .int things_, .int walkers_, .ref nw_, .ref nr_, .ref nq_, hangs_, .ref nLF_]))] H := hP.sub [3, 5, 6, 7, 8, 9, 2, 0, 1, 4] rfl
                  have hD : va_D A [(nl_, .inl (cy 0, 8, .inl (fl_))), (nw_, .inl (cy 0, 8, .inl (fw_))), (nLF_, .inr (4, [.ref npF_, .ref ngF_, .ref nkF_])), (npF_, .inl (cy 0, lenF_, .inl (fpF_))), (ngF_, .inl (cy 0, 6, .inl (g10951_))), (nkF_, .inl (cy 0, 32, .inl (g10952_))), (no_, .inr (6, [.ref nd_, .int hour_, .ref ns_, .ref nc_, .ref nl_, .ref nt_, .ref nh_, .int fallen_])), (ns_, .inl (cy 0, 8, .inl (fs_))), (nc_, .inl (cy 0, 8, .inl (fc_))), (nd_, .inr (0, [.int lines_, .int columns_, .int levels_, .int things_, .int walkers_, .ref nw_, .ref nr_, .ref nq_, hangs_, .ref nLF_]))] := hD.sub [3, 5, 6, 7, 8, 9, 2, 0, 1, 4] (by decide +kernel) rfl
                  exact j101_ (g10951_, g10952_) _ _ ls (Or.inr (Or.inl ⟨g10951_, g10952_, v10950_, c88_, k95_0_, c98_, rfl, rfl⟩)) hP hD hS (lv_sub hl [0, 1, 2, 3, 4, 5, 6, 7] rfl)
  · have g15_ : rg (0) (0) b_ := rg_eq c3_ (rg_lit (by decide) : rg (0) (0) (0 : Int32))
    refine lv_iconst (v := 0) hx hb dX6_falling_6 (by decide) ?_
    exact rI hX hE hP hD hS dX6_falling_7 (by decide) (by decide) ⟨fgF_, fkF_, (Or.inr (Or.inl ⟨c3_, rfl, rfl, rfl⟩)), rfl⟩
def R_X6_drop_xN_j5 (v10330_ : Int32) (v201701_ : Int32) (g201703_ : Nat → Int32) (g201702_ : Nat → Int32) (v10030_ : Int32) (v208300_ : Int32) (g208301_ : Nat → Int32) (g208302_ : Nat → Int32) : Prop := (v10330_ < (0 : Int32) ∧ v208300_ = v201701_ ∧ g208301_ = g201703_ ∧ g208302_ = g201702_) ∨ (¬ (v10330_ < (0 : Int32)) ∧ ((v10030_ >>> (v10330_ &&& 31)) &&& 1) = (0 : Int32) ∧ v208300_ = v201701_ ∧ g208301_ = g201703_ ∧ g208302_ = g201702_) ∨ (∃ (v10580_ : Int32), ¬ (v10330_ < (0 : Int32)) ∧ ¬ (((v10030_ >>> (v10330_ &&& 31)) &&& 1) = (0 : Int32)) ∧ v10580_ = g201703_ v10330_.toNatClampNeg ∧ ¬ v10580_ = (1 : Int32) ∧ v208300_ = v201701_ ∧ g208301_ = g201703_ ∧ g208302_ = g201702_) ∨ (∃ (v10580_ : Int32), ¬ (v10330_ < (0 : Int32)) ∧ ¬ (((v10030_ >>> (v10330_ &&& 31)) &&& 1) = (0 : Int32)) ∧ v10580_ = g201703_ v10330_.toNatClampNeg ∧ v10580_ = (1 : Int32) ∧ v208300_ = v201701_ + 1 ∧ g208301_ = upd g201703_ v10330_.toNatClampNeg 2 ∧ g208302_ = upd g201702_ v10330_.toNatClampNeg v201701_) ∨ False
def R_X6_drop_xN_b1 (levels_ : Int32) (things_ : Int32) (fc_ : Nat → Int32) (c_ : Int32) (v10030_ : Int32) (uZ_ vZ_ : Int32 × Int32 × (Nat → Int32) × (Nat → Int32)) : Prop := (∃ (v10330_ : Int32) (v208300_ : Int32) (g208301_ : Nat → Int32) (g208302_ : Nat → Int32), ¬ (levels_ ≤ uZ_.1) ∧ R_X6_thingAt_e things_ uZ_.2.2.2 fc_ c_ uZ_.2.2.1 uZ_.1 v10330_ ∧ R_X6_drop_xN_j5 v10330_ uZ_.2.1 uZ_.2.2.2 uZ_.2.2.1 v10030_ v208300_ g208301_ g208302_ ∧ vZ_ = (uZ_.1 + 1, v208300_, g208302_, g208301_)) ∨ False
def R_X6_drop_xN_j4 (v11220_ : Int32) (c_ : Int32) (g210001_ : Nat → Int32) (v210000_ : Int32) (v10920_ : Int32) (g214100_ : Nat → Int32) : Prop := (¬ v11220_ = c_ ∧ g214100_ = g210001_) ∨ (∃ (v11360_ : Int32), v11220_ = c_ ∧ v11360_ = g210001_ v210000_.toNatClampNeg ∧ g214100_ = upd g210001_ v210000_.toNatClampNeg (v11360_ + v10920_)) ∨ False
def R_X6_drop_xN_b2 (walkers_ : Int32) (fq_ : Nat → Int32) (hour_ : Int32) (fr_ : Nat → Int32) (c_ : Int32) (v10920_ : Int32) (uZ_ vZ_ : Int32 × (Nat → Int32)) : Prop := (∃ (v11220_ : Int32) (g214100_ : Nat → Int32), ¬ (walkers_ ≤ uZ_.1) ∧ R_X0_walkerColumn_e uZ_.1 walkers_ fq_ hour_ fr_ v11220_ ∧ R_X6_drop_xN_j4 v11220_ c_ uZ_.2 uZ_.1 v10920_ g214100_ ∧ vZ_ = (uZ_.1 + 1, g214100_)) ∨ False
def R_X6_drop_xN_e (b_ : Int32) (things_ : Int32) (fs_ : Nat → Int32) (fc_ : Nat → Int32) (c_ : Int32) (fl_ : Nat → Int32) (levels_ : Int32) (fw_ : Nat → Int32) (walkers_ : Int32) (fq_ : Nat → Int32) (hour_ : Int32) (fr_ : Nat → Int32) (fh_ : Nat → Int32) (fallen_ : Int32) (x0_ : Int32) (x1_ : Nat → Int32) (x2_ : Nat → Int32) (x3_ : Nat → Int32) : Prop := (∃ (v10030_ : Int32) (v10090_ : Int32) (v201700_ : Int32) (v201701_ : Int32) (g201702_ : Nat → Int32) (g201703_ : Nat → Int32) (v10920_ : Int32) (v210000_ : Int32) (g210001_ : Nat → Int32), R_X6_falling_xN_e b_ things_ fs_ fc_ c_ fl_ v10030_ ∧ R_X6_lying_e things_ fs_ fc_ c_ v10090_ ∧ Itr (R_X6_drop_xN_b1 levels_ things_ fc_ c_ v10030_) (0, v10090_, fl_, fs_) (v201700_, v201701_, g201702_, g201703_) ∧ levels_ ≤ v201700_ ∧ R_X6_weightOf_e things_ v10030_ fc_ c_ fw_ v10920_ ∧ Itr (R_X6_drop_xN_b2 walkers_ fq_ hour_ fr_ c_ v10920_) (0, fh_) (v210000_, g210001_) ∧ walkers_ ≤ v210000_ ∧ x0_ = fallen_ ||| v10030_ ∧ x1_ = g201703_ ∧ x2_ = g201702_ ∧ x3_ = g210001_) ∨ False
set_option maxHeartbeats 4000000 in
set_option maxRecDepth 100000 in
theorem sf_X6_drop_xN (l : Launch) (D : va_G) (cy : Nat → ClassId) (no_ : Nat) (nd_ : Nat) (hour_ : Int32) (ns_ : Nat) (nc_ : Nat) (nl_ : Nat) (nt_ : Nat) (nh_ : Nat) (fallen_ : Int32) (fs_ : Nat → Int32) (fc_ : Nat → Int32) (fl_ : Nat → Int32) (fh_ : Nat → Int32) (lines_ : Int32) (columns_ : Int32) (levels_ : Int32) (things_ : Int32) (walkers_ : Int32) (nw_ : Nat) (nr_ : Nat) (nq_ : Nat) (hangs_ : Value) (fw_ : Nat → Int32) (fr_ : Nat → Int32) (fq_ : Nat → Int32) (c_ : Int32) (b_ : Int32) (rcolumns_ : rg (1) (6) columns_) (rlevels_ : rg (1) (9) levels_) (rthings_ : rg (0) (8) things_) (rwalkers_ : rg (0) (4) walkers_) (rfq_ : ag (0) (8) 4 fq_) : Cv l yX6_drop cX6_drop 7 none { frames := 2, cells := 0, slots := 0, locals := 51 } D cy [.ref no_, .int c_, .int b_] [(no_, .inr (6, [.ref nd_, .int hour_, .ref ns_, .ref nc_, .ref nl_, .ref nt_, .ref nh_, .int fallen_])), (ns_, .inl (cy 0, 8, .inl (fs_))), (nc_, .inl (cy 0, 8, .inl (fc_))), (nl_, .inl (cy 0, 8, .inl (fl_))), (nh_, .inl (cy 0, 4, .inl (fh_))), (nd_, .inr (0, [.int lines_, .int columns_, .int levels_, .int things_, .int walkers_, .ref nw_, .ref nr_, .ref nq_, hangs_, .null])), (nw_, .inl (cy 0, 8, .inl (fw_))), (nr_, .inl (cy 0, 32, .inl (fr_))), (nq_, .inl (cy 0, 4, .inl (fq_)))] (fun W1 => ∃ (x0_ : Int32) (x1_ : Nat → Int32) (x2_ : Nat → Int32) (x3_ : Nat → Int32), R_X6_drop_xN_e b_ things_ fs_ fc_ c_ fl_ levels_ fw_ walkers_ fq_ hour_ fr_ fh_ fallen_ x0_ x1_ x2_ x3_ ∧ W1 = [(no_, .inr (6, [.ref nd_, .int hour_, .ref ns_, .ref nc_, .ref nl_, .ref nt_, .ref nh_, .int x0_])), (ns_, .inl (cy 0, 8, .inl (x1_))), (nc_, .inl (cy 0, 8, .inl (fc_))), (nl_, .inl (cy 0, 8, .inl (x2_))), (nh_, .inl (cy 0, 4, .inl (x3_))), (nd_, .inr (0, [.int lines_, .int columns_, .int levels_, .int things_, .int walkers_, .ref nw_, .ref nr_, .ref nq_, hangs_, .null])), (nw_, .inl (cy 0, 8, .inl (fw_))), (nr_, .inl (cy 0, 32, .inl (fr_))), (nq_, .inl (cy 0, 4, .inl (fq_)))]) := by
  refine Cv.of (by decide) (Nat.le_of_ble_eq_true rfl) ?_
  intro p e s m below meth c A ls hX hE hP hD hl hin
  obtain ⟨hx, hb, hr, hml, hown, htA, hlk⟩ := id hX
  have hK := hE.1
  have hS : va_S A s.heap s.heap [] := va_S.rf
  have hl : lv_has ls 7 [(0, .ref no_), (1, .int c_), (2, .int b_)] := hl
  refine lv_aload_n hx hb dX6_drop_0 rfl (lv_at hl 0 rfl) ?_
  refine lv_iload_n hx hb dX6_drop_1 rfl (lv_at hl 1 rfl) ?_
  refine lv_iload_n hx hb dX6_drop_2 rfl (lv_at hl 2 rfl) ?_
  refine kVi (As := [.int c_, .int b_]) (rest := []) (wr := [(nh_, .inl (cy 0, 4, .inl (fh_))), (nw_, .inl (cy 0, 8, .inl (fw_))), (nr_, .inl (cy 0, 32, .inl (fr_))), (nq_, .inl (cy 0, 4, .inl (fq_)))]) hX hE (sf_X6_falling_xN l D cy no_ nd_ hour_ ns_ nc_ nl_ nt_ nh_ fallen_ fs_ fc_ fl_ lines_ columns_ levels_ things_ walkers_ nw_ nr_ nq_ hangs_ c_ b_ (rg_w rcolumns_ (by decide) (by decide)) (rg_w rlevels_ (by decide) (by decide)) (rg_w rthings_ (by decide) (by decide)) (rg_w rwalkers_ (by decide) (by decide))) (cwVA 2 htA wd_435 wd_432 wd_6 wd_433 wd_434 (by decide +kernel) ⟨by decide, by decide⟩) hP hD hS [0, 1, 2, 3, 5] [4, 6, 7, 8] rfl rfl (by decide +kernel) 0 rfl rfl rfl rfl hl.1 rfl (Nat.le_of_ble_eq_true rfl) dX6_drop_3 (by decide) (fun v10030_ W1 H locs hw hP hD hS => ?_)
  refine W.widen (k := 0) (n := 0) (by decide) (by decide) ?_
  obtain ⟨k3_0_, rfl⟩ := hw
  have hP : va_P D vwCl [(nh_, .inl (cy 0, 4, .inl (fh_))), (nw_, .inl (cy 0, 8, .inl (fw_))), (nr_, .inl (cy 0, 32, .inl (fr_))), (nq_, .inl (cy 0, 4, .inl (fq_))), (no_, .inr (6, [.ref nd_, .int hour_, .ref ns_, .ref nc_, .ref nl_, .ref nt_, .ref nh_, .int fallen_])), (ns_, .inl (cy 0, 8, .inl (fs_))), (nc_, .inl (cy 0, 8, .inl (fc_))), (nl_, .inl (cy 0, 8, .inl (fl_))), (nd_, .inr (0, [.int lines_, .int columns_, .int levels_, .int things_, .int walkers_, .ref nw_, .ref nr_, .ref nq_, hangs_, .null]))] H := hP
  have hD := va_ca hP hD
  refine lv_istore_n (lv' := [(3, .int v10030_), (0, .ref no_), (1, .int c_), (2, .int b_)]) hx hb dX6_drop_6 rfl hl (by decide) rfl (fun ls hl => ?_)
  refine lv_aload_n hx hb dX6_drop_7 rfl (lv_at hl 1 rfl) ?_
  refine lv_iload_n hx hb dX6_drop_8 rfl (lv_at hl 2 rfl) ?_
  refine kVi (As := [.int c_]) (rest := []) (wr := [(nh_, .inl (cy 0, 4, .inl (fh_))), (nw_, .inl (cy 0, 8, .inl (fw_))), (nr_, .inl (cy 0, 32, .inl (fr_))), (nq_, .inl (cy 0, 4, .inl (fq_))), (nl_, .inl (cy 0, 8, .inl (fl_)))]) hX hE (sf_X6_lying l D cy no_ nd_ hour_ ns_ nc_ nl_ nt_ nh_ fallen_ fs_ fc_ lines_ columns_ levels_ things_ walkers_ nw_ nr_ nq_ hangs_ .null c_ (rg_w rcolumns_ (by decide) (by decide)) (rg_w rlevels_ (by decide) (by decide)) (rg_w rthings_ (by decide) (by decide)) (rg_w rwalkers_ (by decide) (by decide))) (cwVA 1 htA wd_379 wd_376 wd_6 wd_377 wd_378 (by decide +kernel) ⟨by decide, by decide⟩) hP hD hS [4, 5, 6, 8] [0, 1, 2, 3, 7] rfl rfl (by decide +kernel) 0 rfl rfl rfl rfl hl.1 rfl (Nat.le_of_ble_eq_true rfl) dX6_drop_9 (by decide) (fun v10090_ W1 H locs hw hP hD hS => ?_)
  refine W.widen (k := 0) (n := 0) (by decide) (by decide) ?_
  obtain ⟨k9_0_, rfl⟩ := hw
  have hP : va_P D vwCl [(nh_, .inl (cy 0, 4, .inl (fh_))), (nw_, .inl (cy 0, 8, .inl (fw_))), (nr_, .inl (cy 0, 32, .inl (fr_))), (nq_, .inl (cy 0, 4, .inl (fq_))), (nl_, .inl (cy 0, 8, .inl (fl_))), (no_, .inr (6, [.ref nd_, .int hour_, .ref ns_, .ref nc_, .ref nl_, .ref nt_, .ref nh_, .int fallen_])), (ns_, .inl (cy 0, 8, .inl (fs_))), (nc_, .inl (cy 0, 8, .inl (fc_))), (nd_, .inr (0, [.int lines_, .int columns_, .int levels_, .int things_, .int walkers_, .ref nw_, .ref nr_, .ref nq_, hangs_, .null]))] H := hP
  have hD := va_ca hP hD
  refine lv_istore (lv' := [(4, .int v10090_), (3, .int v10030_), (0, .ref no_), (1, .int c_), (2, .int b_)]) hx hb dX6_drop_12 hl (by decide) rfl (fun ls hl => ?_)
  refine lv_iconst (v := 0) hx hb dX6_drop_14 (by decide) ?_
  refine lv_istore (lv' := [(5, .int 0), (4, .int v10090_), (3, .int v10030_), (0, .ref no_), (1, .int c_), (2, .int b_)]) hx hb dX6_drop_15 hl (by decide) rfl (fun ls hl => ?_)
  refine loopT (τ := Int32 × Int32 × (Nat → Int32) × (Nat → Int32)) (WS := fun i => [(nh_, .inl (cy 0, 4, .inl (fh_))), (nw_, .inl (cy 0, 8, .inl (fw_))), (nr_, .inl (cy 0, 32, .inl (fr_))), (nq_, .inl (cy 0, 4, .inl (fq_))), (nl_, .inl (cy 0, 8, .inl (i.2.2.1))), (no_, .inr (6, [.ref nd_, .int hour_, .ref ns_, .ref nc_, .ref nl_, .ref nt_, .ref nh_, .int fallen_])), (ns_, .inl (cy 0, 8, .inl (i.2.2.2))), (nc_, .inl (cy 0, 8, .inl (fc_))), (nd_, .inr (0, [.int lines_, .int columns_, .int levels_, .int things_, .int walkers_, .ref nw_, .ref nr_, .ref nq_, hangs_, .null]))]) (LV := fun i => [(5, .int i.1), (4, .int i.2.1), (3, .int v10030_), (0, .ref no_), (1, .int c_), (2, .int b_)]) (fun i => (10 - i.1.toInt).toNat) (fun i => rg (0) (9) i.1 ∧ Itr (R_X6_drop_xN_b1 levels_ things_ fc_ c_ v10030_) (0, v10090_, fl_, fs_) (i.1, i.2.1, i.2.2.1, i.2.2.2)) ?_ (0, v10090_, fl_, fs_) ⟨(rg_w (rg_lit (by decide) : rg (0) (0) (0 : Int32)) (by decide) (by decide)), (Itr.rf _ _)⟩ hP hD hS (lv_sub hl [0, 1, 2, 3, 4, 5] rfl)
  intro i_ H locs ls hI ih17_ hP hD hS hl
  obtain ⟨v201700_, v201701_, g201702_, g201703_⟩ := i_
  have hI : rg (0) (9) v201700_ ∧ Itr (R_X6_drop_xN_b1 levels_ things_ fc_ c_ v10030_) (0, v10090_, fl_, fs_) (v201700_, v201701_, g201702_, g201703_) := hI
  obtain ⟨rv201700_, hR1_⟩ := hI
  have hP : va_P D vwCl [(nh_, .inl (cy 0, 4, .inl (fh_))), (nw_, .inl (cy 0, 8, .inl (fw_))), (nr_, .inl (cy 0, 32, .inl (fr_))), (nq_, .inl (cy 0, 4, .inl (fq_))), (nl_, .inl (cy 0, 8, .inl (g201702_))), (no_, .inr (6, [.ref nd_, .int hour_, .ref ns_, .ref nc_, .ref nl_, .ref nt_, .ref nh_, .int fallen_])), (ns_, .inl (cy 0, 8, .inl (g201703_))), (nc_, .inl (cy 0, 8, .inl (fc_))), (nd_, .inr (0, [.int lines_, .int columns_, .int levels_, .int things_, .int walkers_, .ref nw_, .ref nr_, .ref nq_, hangs_, .null]))] H := hP
  have hD := va_ca hP hD
  have hl : lv_has ls 7 [(5, .int v201700_), (4, .int v201701_), (3, .int v10030_), (0, .ref no_), (1, .int c_), (2, .int b_)] := hl
  refine lv_iload hx hb dX6_drop_17 (lv_at hl 0 rfl) ?_
  refine lv_aload_n hx hb dX6_drop_19 rfl (lv_at hl 3 rfl) ?_
  refine va_get (ci := 6) (v := .ref nd_) (C := RX6) (T := TX6) (N := 8) hx hb htA in_X6 hown hK hP 5 rfl rfl 0 (by decide) (htA _ wd_166) (fun _ h => h) rfl dX6_drop_20 ?_
  refine va_get (ci := 0) (v := .int levels_) (C := RX0) (T := TX0) (N := 10) hx hb htA in_X0 hown hK hP 8 rfl rfl 2 (by decide) (htA _ wd_84) (fun _ h => h) rfl dX6_drop_23 ?_
  refine lv_icmp_ge (tgt := 89) hx hb dX6_drop_26 (by decide) (fun c26_ => ?_) (fun c26_ => ?_)
  · have g1_ : rg (1) (9) v201700_ := rg_le2 c26_ rlevels_ rv201700_ (by decide)
    refine lv_aload_n hx hb dX6_drop_89 rfl (lv_at hl 3 rfl) ?_
    refine lv_iload_n hx hb dX6_drop_90 rfl (lv_at hl 2 rfl) ?_
    refine lv_iload_n hx hb dX6_drop_91 rfl (lv_at hl 4 rfl) ?_
    refine kVi (As := [.int v10030_, .int c_]) (rest := []) (wr := [(nh_, .inl (cy 0, 4, .inl (fh_))), (nr_, .inl (cy 0, 32, .inl (fr_))), (nq_, .inl (cy 0, 4, .inl (fq_))), (nl_, .inl (cy 0, 8, .inl (g201702_))), (ns_, .inl (cy 0, 8, .inl (g201703_)))]) hX hE (sf_X6_weightOf l D cy no_ nd_ hour_ ns_ nc_ nl_ nt_ nh_ fallen_ fc_ lines_ columns_ levels_ things_ walkers_ nw_ nr_ nq_ hangs_ .null fw_ v10030_ c_ (rg_w rcolumns_ (by decide) (by decide)) (rg_w rlevels_ (by decide) (by decide)) (rg_w rthings_ (by decide) (by decide)) (rg_w rwalkers_ (by decide) (by decide))) (cwVA 2 htA wd_451 wd_448 wd_6 wd_449 wd_450 (by decide +kernel) ⟨by decide, by decide⟩) hP hD hS [5, 7, 8, 1] [0, 2, 3, 4, 6] rfl rfl (by decide +kernel) 0 rfl rfl rfl rfl hl.1 rfl (Nat.le_of_ble_eq_true rfl) dX6_drop_92 (by decide) (fun v10920_ W1 H locs hw hP hD hS => ?_)
    refine W.widen (k := 0) (n := 0) (by decide) (by decide) ?_
    obtain ⟨k92_0_, rfl⟩ := hw
    have hP : va_P D vwCl [(nh_, .inl (cy 0, 4, .inl (fh_))), (nr_, .inl (cy 0, 32, .inl (fr_))), (nq_, .inl (cy 0, 4, .inl (fq_))), (nl_, .inl (cy 0, 8, .inl (g201702_))), (ns_, .inl (cy 0, 8, .inl (g201703_))), (no_, .inr (6, [.ref nd_, .int hour_, .ref ns_, .ref nc_, .ref nl_, .ref nt_, .ref nh_, .int fallen_])), (nc_, .inl (cy 0, 8, .inl (fc_))), (nd_, .inr (0, [.int lines_, .int columns_, .int levels_, .int things_, .int walkers_, .ref nw_, .ref nr_, .ref nq_, hangs_, .null])), (nw_, .inl (cy 0, 8, .inl (fw_)))] H := hP
    have hD := va_ca hP hD
    refine lv_istore (lv' := [(5, .int v10920_), (4, .int v201701_), (3, .int v10030_), (0, .ref no_), (1, .int c_), (2, .int b_)]) hx hb dX6_drop_95 hl (by decide) rfl (fun ls hl => ?_)
    refine lv_iconst (v := 0) hx hb dX6_drop_97 (by decide) ?_
    refine lv_istore (lv' := [(6, .int 0), (5, .int v10920_), (4, .int v201701_), (3, .int v10030_), (0, .ref no_), (1, .int c_), (2, .int b_)]) hx hb dX6_drop_98 hl (by decide) rfl (fun ls hl => ?_)
    refine loopT (τ := Int32 × (Nat → Int32)) (WS := fun i => [(nh_, .inl (cy 0, 4, .inl (i.2))), (nr_, .inl (cy 0, 32, .inl (fr_))), (nq_, .inl (cy 0, 4, .inl (fq_))), (nl_, .inl (cy 0, 8, .inl (g201702_))), (ns_, .inl (cy 0, 8, .inl (g201703_))), (no_, .inr (6, [.ref nd_, .int hour_, .ref ns_, .ref nc_, .ref nl_, .ref nt_, .ref nh_, .int fallen_])), (nc_, .inl (cy 0, 8, .inl (fc_))), (nd_, .inr (0, [.int lines_, .int columns_, .int levels_, .int things_, .int walkers_, .ref nw_, .ref nr_, .ref nq_, hangs_, .null])), (nw_, .inl (cy 0, 8, .inl (fw_)))]) (LV := fun i => [(6, .int i.1), (5, .int v10920_), (4, .int v201701_), (3, .int v10030_), (0, .ref no_), (1, .int c_), (2, .int b_)]) (fun i => (5 - i.1.toInt).toNat) (fun i => rg (0) (4) i.1 ∧ Itr (R_X6_drop_xN_b2 walkers_ fq_ hour_ fr_ c_ v10920_) (0, fh_) (i.1, i.2)) ?_ (0, fh_) ⟨(rg_w (rg_lit (by decide) : rg (0) (0) (0 : Int32)) (by decide) (by decide)), (Itr.rf _ _)⟩ hP hD hS (lv_sub hl [0, 1, 2, 3, 4, 5, 6] rfl)
    intro i_ H locs ls hI ih100_ hP hD hS hl
    obtain ⟨v210000_, g210001_⟩ := i_
    have hI : rg (0) (4) v210000_ ∧ Itr (R_X6_drop_xN_b2 walkers_ fq_ hour_ fr_ c_ v10920_) (0, fh_) (v210000_, g210001_) := hI
    obtain ⟨rv210000_, hR2_⟩ := hI
    have hP : va_P D vwCl [(nh_, .inl (cy 0, 4, .inl (g210001_))), (nr_, .inl (cy 0, 32, .inl (fr_))), (nq_, .inl (cy 0, 4, .inl (fq_))), (nl_, .inl (cy 0, 8, .inl (g201702_))), (ns_, .inl (cy 0, 8, .inl (g201703_))), (no_, .inr (6, [.ref nd_, .int hour_, .ref ns_, .ref nc_, .ref nl_, .ref nt_, .ref nh_, .int fallen_])), (nc_, .inl (cy 0, 8, .inl (fc_))), (nd_, .inr (0, [.int lines_, .int columns_, .int levels_, .int things_, .int walkers_, .ref nw_, .ref nr_, .ref nq_, hangs_, .null])), (nw_, .inl (cy 0, 8, .inl (fw_)))] H := hP
    have hD := va_ca hP hD
    have hl : lv_has ls 7 [(6, .int v210000_), (5, .int v10920_), (4, .int v201701_), (3, .int v10030_), (0, .ref no_), (1, .int c_), (2, .int b_)] := hl
    refine lv_iload hx hb dX6_drop_100 (lv_at hl 0 rfl) ?_
    refine lv_aload_n hx hb dX6_drop_102 rfl (lv_at hl 4 rfl) ?_
    refine va_get (ci := 6) (v := .ref nd_) (C := RX6) (T := TX6) (N := 8) hx hb htA in_X6 hown hK hP 5 rfl rfl 0 (by decide) (htA _ wd_166) (fun _ h => h) rfl dX6_drop_103 ?_
    refine va_get (ci := 0) (v := .int walkers_) (C := RX0) (T := TX0) (N := 10) hx hb htA in_X0 hown hK hP 7 rfl rfl 4 (by decide) (htA _ wd_90) (fun _ h => h) rfl dX6_drop_106 ?_
    refine lv_icmp_ge (tgt := 147) hx hb dX6_drop_109 (by decide) (fun c109_ => ?_) (fun c109_ => ?_)
    · refine lv_aload_n hx hb dX6_drop_147 rfl (lv_at hl 4 rfl) ?_
      refine lv_dup hx hb dX6_drop_148 rfl ?_
      refine va_get (ci := 6) (v := .int fallen_) (C := RX6) (T := TX6) (N := 8) hx hb htA in_X6 hown hK hP 5 rfl rfl 7 (by decide) (htA _ wd_189) (fun _ h => h) rfl dX6_drop_149 ?_
      refine lv_iload_n hx hb dX6_drop_152 rfl (lv_at hl 3 rfl) ?_
      refine lv_ior hx hb dX6_drop_153 ?_
      refine va_put (ci := 6) (v := .int (fallen_ ||| v10030_)) (ty := .int) (C := RX6) (T := TX6) (N := 8) hx hb htA in_X6 tyX6 tyX6_ok nmX6 hown hK hP hD hS 5 rfl rfl 7 (by decide) (htA _ wd_189) (fun _ h => h) rfl (by decide +kernel) rfl rfl (Nat.le_of_ble_eq_true rfl) dX6_drop_154 (fun H locs hP hD hS => ?_)
      have hP : va_P D vwCl [(nh_, .inl (cy 0, 4, .inl (g210001_))), (nr_, .inl (cy 0, 32, .inl (fr_))), (nq_, .inl (cy 0, 4, .inl (fq_))), (nl_, .inl (cy 0, 8, .inl (g201702_))), (ns_, .inl (cy 0, 8, .inl (g201703_))), (no_, .inr (6, [.ref nd_, .int hour_, .ref ns_, .ref nc_, .ref nl_, .ref nt_, .ref nh_, .int (fallen_ ||| v10030_)])), (nc_, .inl (cy 0, 8, .inl (fc_))), (nd_, .inr (0, [.int lines_, .int columns_, .int levels_, .int things_, .int walkers_, .ref nw_, .ref nr_, .ref nq_, hangs_, .null])), (nw_, .inl (cy 0, 8, .inl (fw_)))] H := hP
      have hD := va_ca hP hD
      have hP : va_P D vwCl [(no_, .inr (6, [.ref nd_, .int hour_, .ref ns_, .ref nc_, .ref nl_, .ref nt_, .ref nh_, .int (fallen_ ||| v10030_)])), (ns_, .inl (cy 0, 8, .inl (g201703_))), (nc_, .inl (cy 0, 8, .inl (fc_))), (nl_, .inl (cy 0, 8, .inl (g201702_))), (nh_, .inl (cy 0, 4, .inl (g210001_))), (nd_, .inr (0, [.int lines_, .int columns_, .int levels_, .int things_, .int walkers_, .ref nw_, .ref nr_, .ref nq_, hangs_, .null])), (nw_, .inl (cy 0, 8, .inl (fw_))), (nr_, .inl (cy 0, 32, .inl (fr_))), (nq_, .inl (cy 0, 4, .inl (fq_)))] H := hP.sub [5, 4, 6, 3, 0, 7, 8, 1, 2] rfl
      have hD : va_D A [(no_, .inr (6, [.ref nd_, .int hour_, .ref ns_, .ref nc_, .ref nl_, .ref nt_, .ref nh_, .int (fallen_ ||| v10030_)])), (ns_, .inl (cy 0, 8, .inl (g201703_))), (nc_, .inl (cy 0, 8, .inl (fc_))), (nl_, .inl (cy 0, 8, .inl (g201702_))), (nh_, .inl (cy 0, 4, .inl (g210001_))), (nd_, .inr (0, [.int lines_, .int columns_, .int levels_, .int things_, .int walkers_, .ref nw_, .ref nr_, .ref nq_, hangs_, .null])), (nw_, .inl (cy 0, 8, .inl (fw_))), (nr_, .inl (cy 0, 32, .inl (fr_))), (nq_, .inl (cy 0, 4, .inl (fq_)))] := hD.sub [5, 4, 6, 3, 0, 7, 8, 1, 2] (by decide +kernel) rfl
      exact rV hX hE hP hD hS dX6_drop_157 (by decide) (by decide) ⟨(fallen_ ||| v10030_), g201703_, g201702_, g210001_, (Or.inl ⟨v10030_, v10090_, v201700_, v201701_, g201702_, g201703_, v10920_, v210000_, g210001_, k3_0_, k9_0_, hR1_, c26_, k92_0_, hR2_, c109_, rfl, rfl, rfl, rfl⟩), rfl⟩
    · have g2_ : rg (0) (3) v210000_ := rg_lt1 (rg_nle c109_) rv210000_ rwalkers_ (by decide)
      have g3_ : rg (1) (4) walkers_ := rg_lt2 (rg_nle c109_) rv210000_ rwalkers_ (by decide)
      refine lv_aload_n hx hb dX6_drop_112 rfl (lv_at hl 4 rfl) ?_
      refine va_get (ci := 6) (v := .ref nd_) (C := RX6) (T := TX6) (N := 8) hx hb htA in_X6 hown hK hP 5 rfl rfl 0 (by decide) (htA _ wd_166) (fun _ h => h) rfl dX6_drop_113 ?_
      refine lv_iload hx hb dX6_drop_116 (lv_at hl 0 rfl) ?_
      refine lv_aload_n hx hb dX6_drop_118 rfl (lv_at hl 4 rfl) ?_
      refine va_get (ci := 6) (v := .int hour_) (C := RX6) (T := TX6) (N := 8) hx hb htA in_X6 hown hK hP 5 rfl rfl 1 (by decide) (htA _ wd_170) (fun _ h => h) rfl dX6_drop_119 ?_
      refine kVi (As := [.int v210000_, .int hour_]) (rest := []) (wr := [(nh_, .inl (cy 0, 4, .inl (g210001_))), (nl_, .inl (cy 0, 8, .inl (g201702_))), (ns_, .inl (cy 0, 8, .inl (g201703_))), (no_, .inr (6, [.ref nd_, .int hour_, .ref ns_, .ref nc_, .ref nl_, .ref nt_, .ref nh_, .int fallen_])), (nc_, .inl (cy 0, 8, .inl (fc_))), (nw_, .inl (cy 0, 8, .inl (fw_)))]) hX hE (sf_X0_walkerColumn l D cy nd_ lines_ columns_ levels_ things_ walkers_ nw_ nr_ nq_ hangs_ .null fr_ fq_ v210000_ hour_ (rg_w rcolumns_ (by decide) (by decide)) (rg_w rlevels_ (by decide) (by decide)) (rg_w rthings_ (by decide) (by decide)) (rg_w g3_ (by decide) (by decide)) rfq_) (cwVA 2 htA wd_455 wd_452 wd_3 wd_453 wd_454 (by decide +kernel) ⟨by decide, by decide⟩) hP hD hS [7, 1, 2] [0, 3, 4, 5, 6, 8] rfl rfl (by decide +kernel) 0 rfl rfl rfl rfl hl.1 rfl (Nat.le_of_ble_eq_true rfl) dX6_drop_122 (by decide) (fun v11220_ W1 H locs hw hP hD hS => ?_)
      refine W.widen (k := 0) (n := 0) (by decide) (by decide) ?_
      obtain ⟨k122_0_, rfl⟩ := hw
      have hP : va_P D vwCl [(nh_, .inl (cy 0, 4, .inl (g210001_))), (nl_, .inl (cy 0, 8, .inl (g201702_))), (ns_, .inl (cy 0, 8, .inl (g201703_))), (no_, .inr (6, [.ref nd_, .int hour_, .ref ns_, .ref nc_, .ref nl_, .ref nt_, .ref nh_, .int fallen_])), (nc_, .inl (cy 0, 8, .inl (fc_))), (nw_, .inl (cy 0, 8, .inl (fw_))), (nd_, .inr (0, [.int lines_, .int columns_, .int levels_, .int things_, .int walkers_, .ref nw_, .ref nr_, .ref nq_, hangs_, .null])), (nr_, .inl (cy 0, 32, .inl (fr_))), (nq_, .inl (cy 0, 4, .inl (fq_)))] H := hP
      have hD := va_ca hP hD
      refine lv_iload_n hx hb dX6_drop_125 rfl (lv_at hl 5 rfl) ?_
      refine joinT (D := D) (A := A) (pc := 141) (mL := 7) (τ := (Nat → Int32)) (WS := fun i => [(nh_, .inl (cy 0, 4, .inl (i))), (nl_, .inl (cy 0, 8, .inl (g201702_))), (ns_, .inl (cy 0, 8, .inl (g201703_))), (no_, .inr (6, [.ref nd_, .int hour_, .ref ns_, .ref nc_, .ref nl_, .ref nt_, .ref nh_, .int fallen_])), (nc_, .inl (cy 0, 8, .inl (fc_))), (nw_, .inl (cy 0, 8, .inl (fw_))), (nd_, .inr (0, [.int lines_, .int columns_, .int levels_, .int things_, .int walkers_, .ref nw_, .ref nr_, .ref nq_, hangs_, .null])), (nr_, .inl (cy 0, 32, .inl (fr_))), (nq_, .inl (cy 0, 4, .inl (fq_)))]) (LV := fun i => [(6, .int v210000_), (5, .int v10920_), (4, .int v201701_), (3, .int v10030_), (0, .ref no_), (1, .int c_), (2, .int b_)]) (ST := fun i => []) (cells := 0) (slots := 0) (fun i => R_X6_drop_xN_j4 v11220_ c_ g210001_ v210000_ v10920_ i) (fun g214100_ H locs ls hI hP hD hS hl => ?_) (fun j141_ => ?_)
      · have hI : R_X6_drop_xN_j4 v11220_ c_ g210001_ v210000_ v10920_ g214100_ := hI
        have hR4_ := hI
        have hP : va_P D vwCl [(nh_, .inl (cy 0, 4, .inl (g214100_))), (nl_, .inl (cy 0, 8, .inl (g201702_))), (ns_, .inl (cy 0, 8, .inl (g201703_))), (no_, .inr (6, [.ref nd_, .int hour_, .ref ns_, .ref nc_, .ref nl_, .ref nt_, .ref nh_, .int fallen_])), (nc_, .inl (cy 0, 8, .inl (fc_))), (nw_, .inl (cy 0, 8, .inl (fw_))), (nd_, .inr (0, [.int lines_, .int columns_, .int levels_, .int things_, .int walkers_, .ref nw_, .ref nr_, .ref nq_, hangs_, .null])), (nr_, .inl (cy 0, 32, .inl (fr_))), (nq_, .inl (cy 0, 4, .inl (fq_)))] H := hP
        have hD := va_ca hP hD
        have hl : lv_has ls 7 [(6, .int v210000_), (5, .int v10920_), (4, .int v201701_), (3, .int v10030_), (0, .ref no_), (1, .int c_), (2, .int b_)] := hl
        refine lv_iinc (v := v210000_ + 1) (lv' := [(6, .int (v210000_ + 1)), (5, .int v10920_), (4, .int v201701_), (3, .int v10030_), (0, .ref no_), (1, .int c_), (2, .int b_)]) hx hb dX6_drop_141 hl (k := 0) rfl rfl (by decide) rfl (fun ls hl => ?_)
        have g4_ : rg (1) (4) (v210000_ + 1) := rg_add g2_ (rg_lit (by decide) : rg (1) (1) (1 : Int32)) (by decide) (by decide) (by decide) (by decide)
        refine lv_goto (tgt := 100) hx hb dX6_drop_144 (by decide) ?_
        have hP : va_P D vwCl [(nh_, .inl (cy 0, 4, .inl (g214100_))), (nr_, .inl (cy 0, 32, .inl (fr_))), (nq_, .inl (cy 0, 4, .inl (fq_))), (nl_, .inl (cy 0, 8, .inl (g201702_))), (ns_, .inl (cy 0, 8, .inl (g201703_))), (no_, .inr (6, [.ref nd_, .int hour_, .ref ns_, .ref nc_, .ref nl_, .ref nt_, .ref nh_, .int fallen_])), (nc_, .inl (cy 0, 8, .inl (fc_))), (nd_, .inr (0, [.int lines_, .int columns_, .int levels_, .int things_, .int walkers_, .ref nw_, .ref nr_, .ref nq_, hangs_, .null])), (nw_, .inl (cy 0, 8, .inl (fw_)))] H := hP.sub [0, 7, 8, 1, 2, 3, 4, 6, 5] rfl
        have hD : va_D A [(nh_, .inl (cy 0, 4, .inl (g214100_))), (nr_, .inl (cy 0, 32, .inl (fr_))), (nq_, .inl (cy 0, 4, .inl (fq_))), (nl_, .inl (cy 0, 8, .inl (g201702_))), (ns_, .inl (cy 0, 8, .inl (g201703_))), (no_, .inr (6, [.ref nd_, .int hour_, .ref ns_, .ref nc_, .ref nl_, .ref nt_, .ref nh_, .int fallen_])), (nc_, .inl (cy 0, 8, .inl (fc_))), (nd_, .inr (0, [.int lines_, .int columns_, .int levels_, .int things_, .int walkers_, .ref nw_, .ref nr_, .ref nq_, hangs_, .null])), (nw_, .inl (cy 0, 8, .inl (fw_)))] := hD.sub [0, 7, 8, 1, 2, 3, 4, 6, 5] (by decide +kernel) rfl
        exact ih100_ (v210000_ + 1, g214100_) _ _ ls ⟨(rg_w g4_ (by decide) (by decide)), (Itr.st hR2_ (Or.inl ⟨v11220_, g214100_, c109_, k122_0_, hR4_, rfl⟩))⟩ (show (5 - (v210000_ + 1).toInt).toNat < (5 - v210000_.toInt).toNat from by rw [show (v210000_ + 1).toInt = v210000_.toInt + 1 from inc32 v210000_ (by have hq := (rv210000_).2; omega)]; have hq := (g2_).1; have hq2 := (g2_).2; omega) hP hD hS (lv_sub hl [0, 1, 2, 3, 4, 5, 6] rfl)
      refine lv_icmp_ne (tgt := 141) hx hb dX6_drop_126 (by decide) (fun c126_ => ?_) (fun c126_ => ?_)
      · exact j141_ g210001_ _ _ ls (Or.inl ⟨c126_, rfl⟩) hP hD hS (lv_sub hl [0, 1, 2, 3, 4, 5, 6] rfl)
      · refine lv_aload_n hx hb dX6_drop_129 rfl (lv_at hl 4 rfl) ?_
        refine va_get (ci := 6) (v := .ref nh_) (C := RX6) (T := TX6) (N := 8) hx hb htA in_X6 hown hK hP 3 rfl rfl 6 (by decide) (htA _ wd_187) (fun _ h => h) rfl dX6_drop_130 ?_
        refine lv_iload hx hb dX6_drop_133 (lv_at hl 0 rfl) ?_
        refine lv_dup2_11 hx hb dX6_drop_135 rfl rfl ?_
        refine va_iald hx hb hK hP 0 0 rfl rfl (rg_in g2_ (by decide) (by decide)) dX6_drop_136 ?_
        refine lv_topi (fun v11360_ ev11360_ => ?_)
        refine lv_iload hx hb dX6_drop_137 (lv_at hl 1 rfl) ?_
        refine lv_iadd hx hb dX6_drop_139 ?_
        refine va_iast hx hb hK hP hD hS 0 0 rfl rfl (rg_in g2_ (by decide) (by decide)) dX6_drop_140 (fun H locs hP hD hS => ?_)
        have hP : va_P D vwCl [(nh_, .inl (cy 0, 4, .inl (upd g210001_ v210000_.toNatClampNeg (v11360_ + v10920_)))), (nl_, .inl (cy 0, 8, .inl (g201702_))), (ns_, .inl (cy 0, 8, .inl (g201703_))), (no_, .inr (6, [.ref nd_, .int hour_, .ref ns_, .ref nc_, .ref nl_, .ref nt_, .ref nh_, .int fallen_])), (nc_, .inl (cy 0, 8, .inl (fc_))), (nw_, .inl (cy 0, 8, .inl (fw_))), (nd_, .inr (0, [.int lines_, .int columns_, .int levels_, .int things_, .int walkers_, .ref nw_, .ref nr_, .ref nq_, hangs_, .null])), (nr_, .inl (cy 0, 32, .inl (fr_))), (nq_, .inl (cy 0, 4, .inl (fq_)))] H := hP
        have hD := va_ca hP hD
        exact j141_ (upd g210001_ v210000_.toNatClampNeg (v11360_ + v10920_)) _ _ ls (Or.inr (Or.inl ⟨v11360_, c126_, ev11360_, rfl⟩)) hP hD hS (lv_sub hl [0, 1, 2, 3, 4, 5, 6] rfl)
  · have g5_ : rg (0) (8) v201700_ := rg_lt1 (rg_nle c26_) rv201700_ rlevels_ (by decide)
    refine lv_aload_n hx hb dX6_drop_29 rfl (lv_at hl 3 rfl) ?_
    refine lv_iload_n hx hb dX6_drop_30 rfl (lv_at hl 4 rfl) ?_
    refine lv_iload hx hb dX6_drop_31 (lv_at hl 0 rfl) ?_
    refine kVi (As := [.int c_, .int v201700_]) (rest := []) (wr := [(nh_, .inl (cy 0, 4, .inl (fh_))), (nw_, .inl (cy 0, 8, .inl (fw_))), (nr_, .inl (cy 0, 32, .inl (fr_))), (nq_, .inl (cy 0, 4, .inl (fq_)))]) hX hE (sf_X6_thingAt l D cy no_ nd_ hour_ ns_ nc_ nl_ nt_ nh_ fallen_ g201703_ fc_ g201702_ lines_ columns_ levels_ things_ walkers_ nw_ nr_ nq_ hangs_ .null c_ v201700_ (rg_w rcolumns_ (by decide) (by decide)) (rg_w rlevels_ (by decide) (by decide)) (rg_w rthings_ (by decide) (by decide)) (rg_w rwalkers_ (by decide) (by decide))) (cwVA 2 htA wd_383 wd_380 wd_6 wd_381 wd_382 (by decide +kernel) ⟨by decide, by decide⟩) hP hD hS [5, 6, 7, 4, 8] [0, 1, 2, 3] rfl rfl (by decide +kernel) 0 rfl rfl rfl rfl hl.1 rfl (Nat.le_of_ble_eq_true rfl) dX6_drop_33 (by decide) (fun v10330_ W1 H locs hw hP hD hS => ?_)
    refine W.widen (k := 0) (n := 0) (by decide) (by decide) ?_
    obtain ⟨k33_0_, rfl, kr33_⟩ := hw
    have hP : va_P D vwCl [(nh_, .inl (cy 0, 4, .inl (fh_))), (nw_, .inl (cy 0, 8, .inl (fw_))), (nr_, .inl (cy 0, 32, .inl (fr_))), (nq_, .inl (cy 0, 4, .inl (fq_))), (no_, .inr (6, [.ref nd_, .int hour_, .ref ns_, .ref nc_, .ref nl_, .ref nt_, .ref nh_, .int fallen_])), (ns_, .inl (cy 0, 8, .inl (g201703_))), (nc_, .inl (cy 0, 8, .inl (fc_))), (nl_, .inl (cy 0, 8, .inl (g201702_))), (nd_, .inr (0, [.int lines_, .int columns_, .int levels_, .int things_, .int walkers_, .ref nw_, .ref nr_, .ref nq_, hangs_, .null]))] H := hP
    have hD := va_ca hP hD
    refine lv_istore (lv' := [(6, .int v10330_), (5, .int v201700_), (4, .int v201701_), (3, .int v10030_), (0, .ref no_), (1, .int c_), (2, .int b_)]) hx hb dX6_drop_36 hl (by decide) rfl (fun ls hl => ?_)
    refine lv_iload hx hb dX6_drop_38 (lv_at hl 0 rfl) ?_
    refine joinT (D := D) (A := A) (pc := 83) (mL := 7) (τ := Int32 × (Nat → Int32) × (Nat → Int32)) (WS := fun i => [(nh_, .inl (cy 0, 4, .inl (fh_))), (nw_, .inl (cy 0, 8, .inl (fw_))), (nr_, .inl (cy 0, 32, .inl (fr_))), (nq_, .inl (cy 0, 4, .inl (fq_))), (no_, .inr (6, [.ref nd_, .int hour_, .ref ns_, .ref nc_, .ref nl_, .ref nt_, .ref nh_, .int fallen_])), (ns_, .inl (cy 0, 8, .inl (i.2.1))), (nc_, .inl (cy 0, 8, .inl (fc_))), (nl_, .inl (cy 0, 8, .inl (i.2.2))), (nd_, .inr (0, [.int lines_, .int columns_, .int levels_, .int things_, .int walkers_, .ref nw_, .ref nr_, .ref nq_, hangs_, .null]))]) (LV := fun i => [(6, .int v10330_), (5, .int v201700_), (4, .int i.1), (3, .int v10030_), (0, .ref no_), (1, .int c_), (2, .int b_)]) (ST := fun i => []) (cells := 0) (slots := 0) (fun i => R_X6_drop_xN_j5 v10330_ v201701_ g201703_ g201702_ v10030_ i.1 i.2.1 i.2.2) (fun i_ H locs ls hI hP hD hS hl => ?_) (fun j83_ => ?_)
    · obtain ⟨v208300_, g208301_, g208302_⟩ := i_
      have hI : R_X6_drop_xN_j5 v10330_ v201701_ g201703_ g201702_ v10030_ v208300_ g208301_ g208302_ := hI
      have hR5_ := hI
      have hP : va_P D vwCl [(nh_, .inl (cy 0, 4, .inl (fh_))), (nw_, .inl (cy 0, 8, .inl (fw_))), (nr_, .inl (cy 0, 32, .inl (fr_))), (nq_, .inl (cy 0, 4, .inl (fq_))), (no_, .inr (6, [.ref nd_, .int hour_, .ref ns_, .ref nc_, .ref nl_, .ref nt_, .ref nh_, .int fallen_])), (ns_, .inl (cy 0, 8, .inl (g208301_))), (nc_, .inl (cy 0, 8, .inl (fc_))), (nl_, .inl (cy 0, 8, .inl (g208302_))), (nd_, .inr (0, [.int lines_, .int columns_, .int levels_, .int things_, .int walkers_, .ref nw_, .ref nr_, .ref nq_, hangs_, .null]))] H := hP
      have hD := va_ca hP hD
      have hl : lv_has ls 7 [(6, .int v10330_), (5, .int v201700_), (4, .int v208300_), (3, .int v10030_), (0, .ref no_), (1, .int c_), (2, .int b_)] := hl
      refine lv_iinc (v := v201700_ + 1) (lv' := [(5, .int (v201700_ + 1)), (6, .int v10330_), (4, .int v208300_), (3, .int v10030_), (0, .ref no_), (1, .int c_), (2, .int b_)]) hx hb dX6_drop_83 hl (k := 1) rfl rfl (by decide) rfl (fun ls hl => ?_)
      have g6_ : rg (1) (9) (v201700_ + 1) := rg_add g5_ (rg_lit (by decide) : rg (1) (1) (1 : Int32)) (by decide) (by decide) (by decide) (by decide)
      refine lv_goto (tgt := 17) hx hb dX6_drop_86 (by decide) ?_
      have hP : va_P D vwCl [(nh_, .inl (cy 0, 4, .inl (fh_))), (nw_, .inl (cy 0, 8, .inl (fw_))), (nr_, .inl (cy 0, 32, .inl (fr_))), (nq_, .inl (cy 0, 4, .inl (fq_))), (nl_, .inl (cy 0, 8, .inl (g208302_))), (no_, .inr (6, [.ref nd_, .int hour_, .ref ns_, .ref nc_, .ref nl_, .ref nt_, .ref nh_, .int fallen_])), (ns_, .inl (cy 0, 8, .inl (g208301_))), (nc_, .inl (cy 0, 8, .inl (fc_))), (nd_, .inr (0, [.int lines_, .int columns_, .int levels_, .int things_, .int walkers_, .ref nw_, .ref nr_, .ref nq_, hangs_, .null]))] H := hP.sub [0, 1, 2, 3, 7, 4, 5, 6, 8] rfl
      have hD : va_D A [(nh_, .inl (cy 0, 4, .inl (fh_))), (nw_, .inl (cy 0, 8, .inl (fw_))), (nr_, .inl (cy 0, 32, .inl (fr_))), (nq_, .inl (cy 0, 4, .inl (fq_))), (nl_, .inl (cy 0, 8, .inl (g208302_))), (no_, .inr (6, [.ref nd_, .int hour_, .ref ns_, .ref nc_, .ref nl_, .ref nt_, .ref nh_, .int fallen_])), (ns_, .inl (cy 0, 8, .inl (g208301_))), (nc_, .inl (cy 0, 8, .inl (fc_))), (nd_, .inr (0, [.int lines_, .int columns_, .int levels_, .int things_, .int walkers_, .ref nw_, .ref nr_, .ref nq_, hangs_, .null]))] := hD.sub [0, 1, 2, 3, 7, 4, 5, 6, 8] (by decide +kernel) rfl
      exact ih17_ (v201700_ + 1, v208300_, g208302_, g208301_) _ _ ls ⟨(rg_w g6_ (by decide) (by decide)), (Itr.st hR1_ (Or.inl ⟨v10330_, v208300_, g208301_, g208302_, c26_, k33_0_, hR5_, rfl⟩))⟩ (show (10 - (v201700_ + 1).toInt).toNat < (10 - v201700_.toInt).toNat from by rw [show (v201700_ + 1).toInt = v201700_.toInt + 1 from inc32 v201700_ (by have hq := (rv201700_).2; omega)]; have hq := (g5_).1; have hq2 := (g5_).2; omega) hP hD hS (lv_sub hl [0, 2, 3, 4, 5, 6] rfl)
    refine lv_if_lt (tgt := 83) hx hb dX6_drop_40 (by decide) (fun c40_ => ?_) (fun c40_ => ?_)
    · have g7_ : rg (-1) (-1) v10330_ := rg_lt1 c40_ kr33_ (rg_lit (by decide) : rg (0) (0) (0 : Int32)) (by decide)
      exact j83_ (v201701_, g201703_, g201702_) _ _ ls (Or.inl ⟨c40_, rfl, rfl, rfl⟩) hP hD hS (lv_sub hl [0, 1, 2, 3, 4, 5, 6] rfl)
    · have g8_ : rg (0) (7) v10330_ := rg_le2 (rg_nlt c40_) (rg_lit (by decide) : rg (0) (0) (0 : Int32)) kr33_ (by decide)
      refine lv_iload_n hx hb dX6_drop_43 rfl (lv_at hl 3 rfl) ?_
      refine lv_iload hx hb dX6_drop_44 (lv_at hl 0 rfl) ?_
      refine lv_ishr hx hb dX6_drop_46 ?_
      refine lv_iconst (v := 1) hx hb dX6_drop_47 (by decide) ?_
      refine lv_iand hx hb dX6_drop_48 ?_
      have g9_ : rg (0) (1) ((v10030_ >>> (v10330_ &&& 31)) &&& 1) := rg_and (by decide) (by decide)
      refine lv_if_eq (tgt := 83) hx hb dX6_drop_49 (by decide) (fun c49_ => ?_) (fun c49_ => ?_)
      · have g10_ : rg (0) (0) ((v10030_ >>> (v10330_ &&& 31)) &&& 1) := rg_eq c49_ (rg_lit (by decide) : rg (0) (0) (0 : Int32))
        exact j83_ (v201701_, g201703_, g201702_) _ _ ls (Or.inr (Or.inl ⟨c40_, c49_, rfl, rfl, rfl⟩)) hP hD hS (lv_sub hl [0, 1, 2, 3, 4, 5, 6] rfl)
      · have g11_ : rg (1) (1) ((v10030_ >>> (v10330_ &&& 31)) &&& 1) := rg_ne1 c49_ g9_ (by decide) (by decide)
        refine lv_aload_n hx hb dX6_drop_52 rfl (lv_at hl 4 rfl) ?_
        refine va_get (ci := 6) (v := .ref ns_) (C := RX6) (T := TX6) (N := 8) hx hb htA in_X6 hown hK hP 4 rfl rfl 2 (by decide) (htA _ wd_174) (fun _ h => h) rfl dX6_drop_53 ?_
        refine lv_iload hx hb dX6_drop_56 (lv_at hl 0 rfl) ?_
        refine va_iald hx hb hK hP 5 0 rfl rfl (rg_in g8_ (by decide) (by decide)) dX6_drop_58 ?_
        refine lv_topi (fun v10580_ ev10580_ => ?_)
        refine lv_iconst (v := 1) hx hb dX6_drop_59 (by decide) ?_
        refine lv_icmp_ne (tgt := 83) hx hb dX6_drop_60 (by decide) (fun c60_ => ?_) (fun c60_ => ?_)
        · exact j83_ (v201701_, g201703_, g201702_) _ _ ls (Or.inr (Or.inr (Or.inl ⟨v10580_, c40_, c49_, ev10580_, c60_, rfl, rfl, rfl⟩))) hP hD hS (lv_sub hl [0, 1, 2, 3, 4, 5, 6] rfl)
        · have g12_ : rg (1) (1) v10580_ := rg_eq c60_ (rg_lit (by decide) : rg (1) (1) (1 : Int32))
          refine lv_aload_n hx hb dX6_drop_63 rfl (lv_at hl 4 rfl) ?_
          refine va_get (ci := 6) (v := .ref ns_) (C := RX6) (T := TX6) (N := 8) hx hb htA in_X6 hown hK hP 4 rfl rfl 2 (by decide) (htA _ wd_174) (fun _ h => h) rfl dX6_drop_64 ?_
          refine lv_iload hx hb dX6_drop_67 (lv_at hl 0 rfl) ?_
          refine lv_iconst (v := 2) hx hb dX6_drop_69 (by decide) ?_
          refine va_iast hx hb hK hP hD hS 5 0 rfl rfl (rg_in g8_ (by decide) (by decide)) dX6_drop_70 (fun H locs hP hD hS => ?_)
          have hP : va_P D vwCl [(nh_, .inl (cy 0, 4, .inl (fh_))), (nw_, .inl (cy 0, 8, .inl (fw_))), (nr_, .inl (cy 0, 32, .inl (fr_))), (nq_, .inl (cy 0, 4, .inl (fq_))), (no_, .inr (6, [.ref nd_, .int hour_, .ref ns_, .ref nc_, .ref nl_, .ref nt_, .ref nh_, .int fallen_])), (ns_, .inl (cy 0, 8, .inl (upd g201703_ v10330_.toNatClampNeg 2))), (nc_, .inl (cy 0, 8, .inl (fc_))), (nl_, .inl (cy 0, 8, .inl (g201702_))), (nd_, .inr (0, [.int lines_, .int columns_, .int levels_, .int things_, .int walkers_, .ref nw_, .ref nr_, .ref nq_, hangs_, .null]))] H := hP
          have hD := va_ca hP hD
          refine lv_aload_n hx hb dX6_drop_71 rfl (lv_at hl 4 rfl) ?_
          refine va_get (ci := 6) (v := .ref nl_) (C := RX6) (T := TX6) (N := 8) hx hb htA in_X6 hown hK hP 4 rfl rfl 4 (by decide) (htA _ wd_181) (fun _ h => h) rfl dX6_drop_72 ?_
          refine lv_iload hx hb dX6_drop_75 (lv_at hl 0 rfl) ?_
          refine lv_iload hx hb dX6_drop_77 (lv_at hl 2 rfl) ?_
          refine va_iast hx hb hK hP hD hS 7 0 rfl rfl (rg_in g8_ (by decide) (by decide)) dX6_drop_79 (fun H locs hP hD hS => ?_)
          have hP : va_P D vwCl [(nh_, .inl (cy 0, 4, .inl (fh_))), (nw_, .inl (cy 0, 8, .inl (fw_))), (nr_, .inl (cy 0, 32, .inl (fr_))), (nq_, .inl (cy 0, 4, .inl (fq_))), (no_, .inr (6, [.ref nd_, .int hour_, .ref ns_, .ref nc_, .ref nl_, .ref nt_, .ref nh_, .int fallen_])), (ns_, .inl (cy 0, 8, .inl (upd g201703_ v10330_.toNatClampNeg 2))), (nc_, .inl (cy 0, 8, .inl (fc_))), (nl_, .inl (cy 0, 8, .inl (upd g201702_ v10330_.toNatClampNeg v201701_))), (nd_, .inr (0, [.int lines_, .int columns_, .int levels_, .int things_, .int walkers_, .ref nw_, .ref nr_, .ref nq_, hangs_, .null]))] H := hP
          have hD := va_ca hP hD
          refine lv_iinc (v := v201701_ + 1) (lv' := [(4, .int (v201701_ + 1)), (6, .int v10330_), (5, .int v201700_), (3, .int v10030_), (0, .ref no_), (1, .int c_), (2, .int b_)]) hx hb dX6_drop_80 hl (k := 2) rfl rfl (by decide) rfl (fun ls hl => ?_)
          exact j83_ (v201701_ + 1, upd g201703_ v10330_.toNatClampNeg 2, upd g201702_ v10330_.toNatClampNeg v201701_) _ _ ls (Or.inr (Or.inr (Or.inr (Or.inl ⟨v10580_, c40_, c49_, ev10580_, c60_, rfl, rfl, rfl⟩)))) hP hD hS (lv_sub hl [1, 2, 0, 3, 4, 5, 6] rfl)
def R_X6_drop_xR_j5 (v10330_ : Int32) (v201701_ : Int32) (g201703_ : Nat → Int32) (g201702_ : Nat → Int32) (v10030_ : Int32) (v208300_ : Int32) (g208301_ : Nat → Int32) (g208302_ : Nat → Int32) : Prop := (v10330_ < (0 : Int32) ∧ v208300_ = v201701_ ∧ g208301_ = g201703_ ∧ g208302_ = g201702_) ∨ (¬ (v10330_ < (0 : Int32)) ∧ ((v10030_ >>> (v10330_ &&& 31)) &&& 1) = (0 : Int32) ∧ v208300_ = v201701_ ∧ g208301_ = g201703_ ∧ g208302_ = g201702_) ∨ (∃ (v10580_ : Int32), ¬ (v10330_ < (0 : Int32)) ∧ ¬ (((v10030_ >>> (v10330_ &&& 31)) &&& 1) = (0 : Int32)) ∧ v10580_ = g201703_ v10330_.toNatClampNeg ∧ ¬ v10580_ = (1 : Int32) ∧ v208300_ = v201701_ ∧ g208301_ = g201703_ ∧ g208302_ = g201702_) ∨ (∃ (v10580_ : Int32), ¬ (v10330_ < (0 : Int32)) ∧ ¬ (((v10030_ >>> (v10330_ &&& 31)) &&& 1) = (0 : Int32)) ∧ v10580_ = g201703_ v10330_.toNatClampNeg ∧ v10580_ = (1 : Int32) ∧ v208300_ = v201701_ + 1 ∧ g208301_ = upd g201703_ v10330_.toNatClampNeg 2 ∧ g208302_ = upd g201702_ v10330_.toNatClampNeg v201701_) ∨ False
def R_X6_drop_xR_b1 (levels_ : Int32) (things_ : Int32) (fc_ : Nat → Int32) (c_ : Int32) (v10030_ : Int32) (uZ_ vZ_ : Int32 × Int32 × (Nat → Int32) × (Nat → Int32)) : Prop := (∃ (v10330_ : Int32) (v208300_ : Int32) (g208301_ : Nat → Int32) (g208302_ : Nat → Int32), ¬ (levels_ ≤ uZ_.1) ∧ R_X6_thingAt_e things_ uZ_.2.2.2 fc_ c_ uZ_.2.2.1 uZ_.1 v10330_ ∧ R_X6_drop_xR_j5 v10330_ uZ_.2.1 uZ_.2.2.2 uZ_.2.2.1 v10030_ v208300_ g208301_ g208302_ ∧ vZ_ = (uZ_.1 + 1, v208300_, g208302_, g208301_)) ∨ False
def R_X6_drop_xR_j4 (v11220_ : Int32) (c_ : Int32) (g210001_ : Nat → Int32) (v210000_ : Int32) (v10920_ : Int32) (g214100_ : Nat → Int32) : Prop := (¬ v11220_ = c_ ∧ g214100_ = g210001_) ∨ (∃ (v11360_ : Int32), v11220_ = c_ ∧ v11360_ = g210001_ v210000_.toNatClampNeg ∧ g214100_ = upd g210001_ v210000_.toNatClampNeg (v11360_ + v10920_)) ∨ False
def R_X6_drop_xR_b2 (walkers_ : Int32) (fq_ : Nat → Int32) (hour_ : Int32) (fr_ : Nat → Int32) (c_ : Int32) (v10920_ : Int32) (uZ_ vZ_ : Int32 × (Nat → Int32)) : Prop := (∃ (v11220_ : Int32) (g214100_ : Nat → Int32), ¬ (walkers_ ≤ uZ_.1) ∧ R_X0_walkerColumn_e uZ_.1 walkers_ fq_ hour_ fr_ v11220_ ∧ R_X6_drop_xR_j4 v11220_ c_ uZ_.2 uZ_.1 v10920_ g214100_ ∧ vZ_ = (uZ_.1 + 1, g214100_)) ∨ False
def R_X6_drop_xR_e (b_ : Int32) (things_ : Int32) (fs_ : Nat → Int32) (fc_ : Nat → Int32) (c_ : Int32) (fl_ : Nat → Int32) (fw_ : Nat → Int32) (hour_ : Int32) (lenF_ : Nat) (fpF_ : Nat → Int32) (fgF_ : Nat → Int32) (fkF_ : Nat → Int32) (levels_ : Int32) (walkers_ : Int32) (fq_ : Nat → Int32) (fr_ : Nat → Int32) (fh_ : Nat → Int32) (fallen_ : Int32) (x0_ : Int32) (x1_ : Nat → Int32) (x2_ : Nat → Int32) (x3_ : Nat → Int32) (x4_ : Nat → Int32) (x5_ : Nat → Int32) : Prop := (∃ (g10031_ : Nat → Int32) (g10032_ : Nat → Int32) (v10030_ : Int32) (v10090_ : Int32) (v201700_ : Int32) (v201701_ : Int32) (g201702_ : Nat → Int32) (g201703_ : Nat → Int32) (v10920_ : Int32) (v210000_ : Int32) (g210001_ : Nat → Int32), R_X6_falling_xR_e b_ things_ fs_ fc_ c_ fl_ fw_ hour_ lenF_ fpF_ fgF_ fkF_ g10031_ g10032_ v10030_ ∧ R_X6_lying_e things_ fs_ fc_ c_ v10090_ ∧ Itr (R_X6_drop_xR_b1 levels_ things_ fc_ c_ v10030_) (0, v10090_, fl_, fs_) (v201700_, v201701_, g201702_, g201703_) ∧ levels_ ≤ v201700_ ∧ R_X6_weightOf_e things_ v10030_ fc_ c_ fw_ v10920_ ∧ Itr (R_X6_drop_xR_b2 walkers_ fq_ hour_ fr_ c_ v10920_) (0, fh_) (v210000_, g210001_) ∧ walkers_ ≤ v210000_ ∧ x0_ = fallen_ ||| v10030_ ∧ x1_ = g201703_ ∧ x2_ = g201702_ ∧ x3_ = g210001_ ∧ x4_ = g10031_ ∧ x5_ = g10032_) ∨ False
set_option maxHeartbeats 4000000 in
set_option maxRecDepth 100000 in
theorem sf_X6_drop_xR (l : Launch) (D : va_G) (cy : Nat → ClassId) (no_ : Nat) (nd_ : Nat) (hour_ : Int32) (ns_ : Nat) (nc_ : Nat) (nl_ : Nat) (nt_ : Nat) (nh_ : Nat) (fallen_ : Int32) (fs_ : Nat → Int32) (fc_ : Nat → Int32) (fl_ : Nat → Int32) (fh_ : Nat → Int32) (lines_ : Int32) (columns_ : Int32) (levels_ : Int32) (things_ : Int32) (walkers_ : Int32) (nw_ : Nat) (nr_ : Nat) (nq_ : Nat) (hangs_ : Value) (nLF_ : Nat) (fw_ : Nat → Int32) (fr_ : Nat → Int32) (fq_ : Nat → Int32) (npF_ : Nat) (ngF_ : Nat) (nkF_ : Nat) (lenF_ : Nat) (fpF_ : Nat → Int32) (fgF_ : Nat → Int32) (fkF_ : Nat → Int32) (c_ : Int32) (b_ : Int32) (hlenF_ : lenF_ ≤ 900) (rcolumns_ : rg (1) (6) columns_) (rlevels_ : rg (1) (9) levels_) (rthings_ : rg (0) (8) things_) (rwalkers_ : rg (0) (4) walkers_) (rfq_ : ag (0) (8) 4 fq_) : Cv l yX6_drop cX6_drop 7 none { frames := 4, cells := 0, slots := 0, locals := 106 } D cy [.ref no_, .int c_, .int b_] [(no_, .inr (6, [.ref nd_, .int hour_, .ref ns_, .ref nc_, .ref nl_, .ref nt_, .ref nh_, .int fallen_])), (ns_, .inl (cy 0, 8, .inl (fs_))), (nc_, .inl (cy 0, 8, .inl (fc_))), (nl_, .inl (cy 0, 8, .inl (fl_))), (nh_, .inl (cy 0, 4, .inl (fh_))), (nd_, .inr (0, [.int lines_, .int columns_, .int levels_, .int things_, .int walkers_, .ref nw_, .ref nr_, .ref nq_, hangs_, .ref nLF_])), (nw_, .inl (cy 0, 8, .inl (fw_))), (nr_, .inl (cy 0, 32, .inl (fr_))), (nq_, .inl (cy 0, 4, .inl (fq_))), (nLF_, .inr (4, [.ref npF_, .ref ngF_, .ref nkF_])), (npF_, .inl (cy 0, lenF_, .inl (fpF_))), (ngF_, .inl (cy 0, 6, .inl (fgF_))), (nkF_, .inl (cy 0, 32, .inl (fkF_)))] (fun W1 => ∃ (x0_ : Int32) (x1_ : Nat → Int32) (x2_ : Nat → Int32) (x3_ : Nat → Int32) (x4_ : Nat → Int32) (x5_ : Nat → Int32), R_X6_drop_xR_e b_ things_ fs_ fc_ c_ fl_ fw_ hour_ lenF_ fpF_ fgF_ fkF_ levels_ walkers_ fq_ fr_ fh_ fallen_ x0_ x1_ x2_ x3_ x4_ x5_ ∧ W1 = [(no_, .inr (6, [.ref nd_, .int hour_, .ref ns_, .ref nc_, .ref nl_, .ref nt_, .ref nh_, .int x0_])), (ns_, .inl (cy 0, 8, .inl (x1_))), (nc_, .inl (cy 0, 8, .inl (fc_))), (nl_, .inl (cy 0, 8, .inl (x2_))), (nh_, .inl (cy 0, 4, .inl (x3_))), (nd_, .inr (0, [.int lines_, .int columns_, .int levels_, .int things_, .int walkers_, .ref nw_, .ref nr_, .ref nq_, hangs_, .ref nLF_])), (nw_, .inl (cy 0, 8, .inl (fw_))), (nr_, .inl (cy 0, 32, .inl (fr_))), (nq_, .inl (cy 0, 4, .inl (fq_))), (nLF_, .inr (4, [.ref npF_, .ref ngF_, .ref nkF_])), (npF_, .inl (cy 0, lenF_, .inl (fpF_))), (ngF_, .inl (cy 0, 6, .inl (x4_))), (nkF_, .inl (cy 0, 32, .inl (x5_)))]) := by
  refine Cv.of (by decide) (Nat.le_of_ble_eq_true rfl) ?_
  intro p e s m below meth c A ls hX hE hP hD hl hin
  obtain ⟨hx, hb, hr, hml, hown, htA, hlk⟩ := id hX
  have hK := hE.1
  have hS : va_S A s.heap s.heap [] := va_S.rf
  have hl : lv_has ls 7 [(0, .ref no_), (1, .int c_), (2, .int b_)] := hl
  refine lv_aload_n hx hb dX6_drop_0 rfl (lv_at hl 0 rfl) ?_
  refine lv_iload_n hx hb dX6_drop_1 rfl (lv_at hl 1 rfl) ?_
  refine lv_iload_n hx hb dX6_drop_2 rfl (lv_at hl 2 rfl) ?_
  refine kVi (As := [.int c_, .int b_]) (rest := []) (wr := [(nh_, .inl (cy 0, 4, .inl (fh_))), (nr_, .inl (cy 0, 32, .inl (fr_))), (nq_, .inl (cy 0, 4, .inl (fq_)))]) hX hE (sf_X6_falling_xR l D cy no_ nd_ hour_ ns_ nc_ nl_ nt_ nh_ fallen_ fs_ fc_ fl_ lines_ columns_ levels_ things_ walkers_ nw_ nr_ nq_ hangs_ nLF_ fw_ npF_ ngF_ nkF_ lenF_ fpF_ fgF_ fkF_ c_ b_ hlenF_ (rg_w rcolumns_ (by decide) (by decide)) (rg_w rlevels_ (by decide) (by decide)) (rg_w rthings_ (by decide) (by decide)) (rg_w rwalkers_ (by decide) (by decide))) (cwVA 2 htA wd_435 wd_432 wd_6 wd_433 wd_434 (by decide +kernel) ⟨by decide, by decide⟩) hP hD hS [0, 1, 2, 3, 5, 6, 9, 10, 11, 12] [4, 7, 8] rfl rfl (by decide +kernel) 0 rfl rfl rfl rfl hl.1 rfl (Nat.le_of_ble_eq_true rfl) dX6_drop_3 (by decide) (fun v10030_ W1 H locs hw hP hD hS => ?_)
  refine W.widen (k := 0) (n := 0) (by decide) (by decide) ?_
  obtain ⟨g10031_, g10032_, k3_0_, rfl⟩ := hw
  have hP : va_P D vwCl [(nh_, .inl (cy 0, 4, .inl (fh_))), (nr_, .inl (cy 0, 32, .inl (fr_))), (nq_, .inl (cy 0, 4, .inl (fq_))), (no_, .inr (6, [.ref nd_, .int hour_, .ref ns_, .ref nc_, .ref nl_, .ref nt_, .ref nh_, .int fallen_])), (ns_, .inl (cy 0, 8, .inl (fs_))), (nc_, .inl (cy 0, 8, .inl (fc_))), (nl_, .inl (cy 0, 8, .inl (fl_))), (nd_, .inr (0, [.int lines_, .int columns_, .int levels_, .int things_, .int walkers_, .ref nw_, .ref nr_, .ref nq_, hangs_, .ref nLF_])), (nw_, .inl (cy 0, 8, .inl (fw_))), (nLF_, .inr (4, [.ref npF_, .ref ngF_, .ref nkF_])), (npF_, .inl (cy 0, lenF_, .inl (fpF_))), (ngF_, .inl (cy 0, 6, .inl (g10031_))), (nkF_, .inl (cy 0, 32, .inl (g10032_)))] H := hP
  have hD := va_ca hP hD
  refine lv_istore_n (lv' := [(3, .int v10030_), (0, .ref no_), (1, .int c_), (2, .int b_)]) hx hb dX6_drop_6 rfl hl (by decide) rfl (fun ls hl => ?_)
  refine lv_aload_n hx hb dX6_drop_7 rfl (lv_at hl 1 rfl) ?_
  refine lv_iload_n hx hb dX6_drop_8 rfl (lv_at hl 2 rfl) ?_
  refine kVi (As := [.int c_]) (rest := []) (wr := [(nh_, .inl (cy 0, 4, .inl (fh_))), (nr_, .inl (cy 0, 32, .inl (fr_))), (nq_, .inl (cy 0, 4, .inl (fq_))), (nl_, .inl (cy 0, 8, .inl (fl_))), (nw_, .inl (cy 0, 8, .inl (fw_))), (nLF_, .inr (4, [.ref npF_, .ref ngF_, .ref nkF_])), (npF_, .inl (cy 0, lenF_, .inl (fpF_))), (ngF_, .inl (cy 0, 6, .inl (g10031_))), (nkF_, .inl (cy 0, 32, .inl (g10032_)))]) hX hE (sf_X6_lying l D cy no_ nd_ hour_ ns_ nc_ nl_ nt_ nh_ fallen_ fs_ fc_ lines_ columns_ levels_ things_ walkers_ nw_ nr_ nq_ hangs_ (.ref nLF_) c_ (rg_w rcolumns_ (by decide) (by decide)) (rg_w rlevels_ (by decide) (by decide)) (rg_w rthings_ (by decide) (by decide)) (rg_w rwalkers_ (by decide) (by decide))) (cwVA 1 htA wd_379 wd_376 wd_6 wd_377 wd_378 (by decide +kernel) ⟨by decide, by decide⟩) hP hD hS [3, 4, 5, 7] [0, 1, 2, 6, 8, 9, 10, 11, 12] rfl rfl (by decide +kernel) 0 rfl rfl rfl rfl hl.1 rfl (Nat.le_of_ble_eq_true rfl) dX6_drop_9 (by decide) (fun v10090_ W1 H locs hw hP hD hS => ?_)
  refine W.widen (k := 0) (n := 0) (by decide) (by decide) ?_
  obtain ⟨k9_0_, rfl⟩ := hw
  have hP : va_P D vwCl [(nh_, .inl (cy 0, 4, .inl (fh_))), (nr_, .inl (cy 0, 32, .inl (fr_))), (nq_, .inl (cy 0, 4, .inl (fq_))), (nl_, .inl (cy 0, 8, .inl (fl_))), (nw_, .inl (cy 0, 8, .inl (fw_))), (nLF_, .inr (4, [.ref npF_, .ref ngF_, .ref nkF_])), (npF_, .inl (cy 0, lenF_, .inl (fpF_))), (ngF_, .inl (cy 0, 6, .inl (g10031_))), (nkF_, .inl (cy 0, 32, .inl (g10032_))), (no_, .inr (6, [.ref nd_, .int hour_, .ref ns_, .ref nc_, .ref nl_, .ref nt_, .ref nh_, .int fallen_])), (ns_, .inl (cy 0, 8, .inl (fs_))), (nc_, .inl (cy 0, 8, .inl (fc_))), (nd_, .inr (0, [.int lines_, .int columns_, .int levels_, .int things_, .int walkers_, .ref nw_, .ref nr_, .ref nq_, hangs_, .ref nLF_]))] H := hP
  have hD := va_ca hP hD
  refine lv_istore (lv' := [(4, .int v10090_), (3, .int v10030_), (0, .ref no_), (1, .int c_), (2, .int b_)]) hx hb dX6_drop_12 hl (by decide) rfl (fun ls hl => ?_)
  refine lv_iconst (v := 0) hx hb dX6_drop_14 (by decide) ?_
  refine lv_istore (lv' := [(5, .int 0), (4, .int v10090_), (3, .int v10030_), (0, .ref no_), (1, .int c_), (2, .int b_)]) hx hb dX6_drop_15 hl (by decide) rfl (fun ls hl => ?_)
  refine loopT (τ := Int32 × Int32 × (Nat → Int32) × (Nat → Int32)) (WS := fun i => [(nh_, .inl (cy 0, 4, .inl (fh_))), (nr_, .inl (cy 0, 32, .inl (fr_))), (nq_, .inl (cy 0, 4, .inl (fq_))), (nl_, .inl (cy 0, 8, .inl (i.2.2.1))), (nw_, .inl (cy 0, 8, .inl (fw_))), (nLF_, .inr (4, [.ref npF_, .ref ngF_, .ref nkF_])), (npF_, .inl (cy 0, lenF_, .inl (fpF_))), (ngF_, .inl (cy 0, 6, .inl (g10031_))), (nkF_, .inl (cy 0, 32, .inl (g10032_))), (no_, .inr (6, [.ref nd_, .int hour_, .ref ns_, .ref nc_, .ref nl_, .ref nt_, .ref nh_, .int fallen_])), (ns_, .inl (cy 0, 8, .inl (i.2.2.2))), (nc_, .inl (cy 0, 8, .inl (fc_))), (nd_, .inr (0, [.int lines_, .int columns_, .int levels_, .int things_, .int walkers_, .ref nw_, .ref nr_, .ref nq_, hangs_, .ref nLF_]))]) (LV := fun i => [(5, .int i.1), (4, .int i.2.1), (3, .int v10030_), (0, .ref no_), (1, .int c_), (2, .int b_)]) (fun i => (10 - i.1.toInt).toNat) (fun i => rg (0) (9) i.1 ∧ Itr (R_X6_drop_xR_b1 levels_ things_ fc_ c_ v10030_) (0, v10090_, fl_, fs_) (i.1, i.2.1, i.2.2.1, i.2.2.2)) ?_ (0, v10090_, fl_, fs_) ⟨(rg_w (rg_lit (by decide) : rg (0) (0) (0 : Int32)) (by decide) (by decide)), (Itr.rf _ _)⟩ hP hD hS (lv_sub hl [0, 1, 2, 3, 4, 5] rfl)
  intro i_ H locs ls hI ih17_ hP hD hS hl
  obtain ⟨v201700_, v201701_, g201702_, g201703_⟩ := i_
  have hI : rg (0) (9) v201700_ ∧ Itr (R_X6_drop_xR_b1 levels_ things_ fc_ c_ v10030_) (0, v10090_, fl_, fs_) (v201700_, v201701_, g201702_, g201703_) := hI
  obtain ⟨rv201700_, hR1_⟩ := hI
  have hP : va_P D vwCl [(nh_, .inl (cy 0, 4, .inl (fh_))), (nr_, .inl (cy 0, 32, .inl (fr_))), (nq_, .inl (cy 0, 4, .inl (fq_))), (nl_, .inl (cy 0, 8, .inl (g201702_))), (nw_, .inl (cy 0, 8, .inl (fw_))), (nLF_, .inr (4, [.ref npF_, .ref ngF_, .ref nkF_])), (npF_, .inl (cy 0, lenF_, .inl (fpF_))), (ngF_, .inl (cy 0, 6, .inl (g10031_))), (nkF_, .inl (cy 0, 32, .inl (g10032_))), (no_, .inr (6, [.ref nd_, .int hour_, .ref ns_, .ref nc_, .ref nl_, .ref nt_, .ref nh_, .int fallen_])), (ns_, .inl (cy 0, 8, .inl (g201703_))), (nc_, .inl (cy 0, 8, .inl (fc_))), (nd_, .inr (0, [.int lines_, .int columns_, .int levels_, .int things_, .int walkers_, .ref nw_, .ref nr_, .ref nq_, hangs_, .ref nLF_]))] H := hP
  have hD := va_ca hP hD
  have hl : lv_has ls 7 [(5, .int v201700_), (4, .int v201701_), (3, .int v10030_), (0, .ref no_), (1, .int c_), (2, .int b_)] := hl
  refine lv_iload hx hb dX6_drop_17 (lv_at hl 0 rfl) ?_
  refine lv_aload_n hx hb dX6_drop_19 rfl (lv_at hl 3 rfl) ?_
  refine va_get (ci := 6) (v := .ref nd_) (C := RX6) (T := TX6) (N := 8) hx hb htA in_X6 hown hK hP 9 rfl rfl 0 (by decide) (htA _ wd_166) (fun _ h => h) rfl dX6_drop_20 ?_
  refine va_get (ci := 0) (v := .int levels_) (C := RX0) (T := TX0) (N := 10) hx hb htA in_X0 hown hK hP 12 rfl rfl 2 (by decide) (htA _ wd_84) (fun _ h => h) rfl dX6_drop_23 ?_
  refine lv_icmp_ge (tgt := 89) hx hb dX6_drop_26 (by decide) (fun c26_ => ?_) (fun c26_ => ?_)
  · have g1_ : rg (1) (9) v201700_ := rg_le2 c26_ rlevels_ rv201700_ (by decide)
    refine lv_aload_n hx hb dX6_drop_89 rfl (lv_at hl 3 rfl) ?_
    refine lv_iload_n hx hb dX6_drop_90 rfl (lv_at hl 2 rfl) ?_
    refine lv_iload_n hx hb dX6_drop_91 rfl (lv_at hl 4 rfl) ?_
    refine kVi (As := [.int v10030_, .int c_]) (rest := []) (wr := [(nh_, .inl (cy 0, 4, .inl (fh_))), (nr_, .inl (cy 0, 32, .inl (fr_))), (nq_, .inl (cy 0, 4, .inl (fq_))), (nl_, .inl (cy 0, 8, .inl (g201702_))), (nLF_, .inr (4, [.ref npF_, .ref ngF_, .ref nkF_])), (npF_, .inl (cy 0, lenF_, .inl (fpF_))), (ngF_, .inl (cy 0, 6, .inl (g10031_))), (nkF_, .inl (cy 0, 32, .inl (g10032_))), (ns_, .inl (cy 0, 8, .inl (g201703_)))]) hX hE (sf_X6_weightOf l D cy no_ nd_ hour_ ns_ nc_ nl_ nt_ nh_ fallen_ fc_ lines_ columns_ levels_ things_ walkers_ nw_ nr_ nq_ hangs_ (.ref nLF_) fw_ v10030_ c_ (rg_w rcolumns_ (by decide) (by decide)) (rg_w rlevels_ (by decide) (by decide)) (rg_w rthings_ (by decide) (by decide)) (rg_w rwalkers_ (by decide) (by decide))) (cwVA 2 htA wd_451 wd_448 wd_6 wd_449 wd_450 (by decide +kernel) ⟨by decide, by decide⟩) hP hD hS [9, 11, 12, 4] [0, 1, 2, 3, 5, 6, 7, 8, 10] rfl rfl (by decide +kernel) 0 rfl rfl rfl rfl hl.1 rfl (Nat.le_of_ble_eq_true rfl) dX6_drop_92 (by decide) (fun v10920_ W1 H locs hw hP hD hS => ?_)
    refine W.widen (k := 0) (n := 0) (by decide) (by decide) ?_
    obtain ⟨k92_0_, rfl⟩ := hw
    have hP : va_P D vwCl [(nh_, .inl (cy 0, 4, .inl (fh_))), (nr_, .inl (cy 0, 32, .inl (fr_))), (nq_, .inl (cy 0, 4, .inl (fq_))), (nl_, .inl (cy 0, 8, .inl (g201702_))), (nLF_, .inr (4, [.ref npF_, .ref ngF_, .ref nkF_])), (npF_, .inl (cy 0, lenF_, .inl (fpF_))), (ngF_, .inl (cy 0, 6, .inl (g10031_))), (nkF_, .inl (cy 0, 32, .inl (g10032_))), (ns_, .inl (cy 0, 8, .inl (g201703_))), (no_, .inr (6, [.ref nd_, .int hour_, .ref ns_, .ref nc_, .ref nl_, .ref nt_, .ref nh_, .int fallen_])), (nc_, .inl (cy 0, 8, .inl (fc_))), (nd_, .inr (0, [.int lines_, .int columns_, .int levels_, .int things_, .int walkers_, .ref nw_, .ref nr_, .ref nq_, hangs_, .ref nLF_])), (nw_, .inl (cy 0, 8, .inl (fw_)))] H := hP
    have hD := va_ca hP hD
    refine lv_istore (lv' := [(5, .int v10920_), (4, .int v201701_), (3, .int v10030_), (0, .ref no_), (1, .int c_), (2, .int b_)]) hx hb dX6_drop_95 hl (by decide) rfl (fun ls hl => ?_)
    refine lv_iconst (v := 0) hx hb dX6_drop_97 (by decide) ?_
    refine lv_istore (lv' := [(6, .int 0), (5, .int v10920_), (4, .int v201701_), (3, .int v10030_), (0, .ref no_), (1, .int c_), (2, .int b_)]) hx hb dX6_drop_98 hl (by decide) rfl (fun ls hl => ?_)
    refine loopT (τ := Int32 × (Nat → Int32)) (WS := fun i => [(nh_, .inl (cy 0, 4, .inl (i.2))), (nr_, .inl (cy 0, 32, .inl (fr_))), (nq_, .inl (cy 0, 4, .inl (fq_))), (nl_, .inl (cy 0, 8, .inl (g201702_))), (nLF_, .inr (4, [.ref npF_, .ref ngF_, .ref nkF_])), (npF_, .inl (cy 0, lenF_, .inl (fpF_))), (ngF_, .inl (cy 0, 6, .inl (g10031_))), (nkF_, .inl (cy 0, 32, .inl (g10032_))), (ns_, .inl (cy 0, 8, .inl (g201703_))), (no_, .inr (6, [.ref nd_, .int hour_, .ref ns_, .ref nc_, .ref nl_, .ref nt_, .ref nh_, .int fallen_])), (nc_, .inl (cy 0, 8, .inl (fc_))), (nd_, .inr (0, [.int lines_, .int columns_, .int levels_, .int things_, .int walkers_, .ref nw_, .ref nr_, .ref nq_, hangs_, .ref nLF_])), (nw_, .inl (cy 0, 8, .inl (fw_)))]) (LV := fun i => [(6, .int i.1), (5, .int v10920_), (4, .int v201701_), (3, .int v10030_), (0, .ref no_), (1, .int c_), (2, .int b_)]) (fun i => (5 - i.1.toInt).toNat) (fun i => rg (0) (4) i.1 ∧ Itr (R_X6_drop_xR_b2 walkers_ fq_ hour_ fr_ c_ v10920_) (0, fh_) (i.1, i.2)) ?_ (0, fh_) ⟨(rg_w (rg_lit (by decide) : rg (0) (0) (0 : Int32)) (by decide) (by decide)), (Itr.rf _ _)⟩ hP hD hS (lv_sub hl [0, 1, 2, 3, 4, 5, 6] rfl)
    intro i_ H locs ls hI ih100_ hP hD hS hl
    obtain ⟨v210000_, g210001_⟩ := i_
    have hI : rg (0) (4) v210000_ ∧ Itr (R_X6_drop_xR_b2 walkers_ fq_ hour_ fr_ c_ v10920_) (0, fh_) (v210000_, g210001_) := hI
    obtain ⟨rv210000_, hR2_⟩ := hI
    have hP : va_P D vwCl [(nh_, .inl (cy 0, 4, .inl (g210001_))), (nr_, .inl (cy 0, 32, .inl (fr_))), (nq_, .inl (cy 0, 4, .inl (fq_))), (nl_, .inl (cy 0, 8, .inl (g201702_))), (nLF_, .inr (4, [.ref npF_, .ref ngF_, .ref nkF_])), (npF_, .inl (cy 0, lenF_, .inl (fpF_))), (ngF_, .inl (cy 0, 6, .inl (g10031_))), (nkF_, .inl (cy 0, 32, .inl (g10032_))), (ns_, .inl (cy 0, 8, .inl (g201703_))), (no_, .inr (6, [.ref nd_, .int hour_, .ref ns_, .ref nc_, .ref nl_, .ref nt_, .ref nh_, .int fallen_])), (nc_, .inl (cy 0, 8, .inl (fc_))), (nd_, .inr (0, [.int lines_, .int columns_, .int levels_, .int things_, .int walkers_, .ref nw_, .ref nr_, .ref nq_, hangs_, .ref nLF_])), (nw_, .inl (cy 0, 8, .inl (fw_)))] H := hP
    have hD := va_ca hP hD
    have hl : lv_has ls 7 [(6, .int v210000_), (5, .int v10920_), (4, .int v201701_), (3, .int v10030_), (0, .ref no_), (1, .int c_), (2, .int b_)] := hl
    refine lv_iload hx hb dX6_drop_100 (lv_at hl 0 rfl) ?_
    refine lv_aload_n hx hb dX6_drop_102 rfl (lv_at hl 4 rfl) ?_
    refine va_get (ci := 6) (v := .ref nd_) (C := RX6) (T := TX6) (N := 8) hx hb htA in_X6 hown hK hP 9 rfl rfl 0 (by decide) (htA _ wd_166) (fun _ h => h) rfl dX6_drop_103 ?_
    refine va_get (ci := 0) (v := .int walkers_) (C := RX0) (T := TX0) (N := 10) hx hb htA in_X0 hown hK hP 11 rfl rfl 4 (by decide) (htA _ wd_90) (fun _ h => h) rfl dX6_drop_106 ?_
    refine lv_icmp_ge (tgt := 147) hx hb dX6_drop_109 (by decide) (fun c109_ => ?_) (fun c109_ => ?_)
    · refine lv_aload_n hx hb dX6_drop_147 rfl (lv_at hl 4 rfl) ?_
      refine lv_dup hx hb dX6_drop_148 rfl ?_
      refine va_get (ci := 6) (v := .int fallen_) (C := RX6) (T := TX6) (N := 8) hx hb htA in_X6 hown hK hP 9 rfl rfl 7 (by decide) (htA _ wd_189) (fun _ h => h) rfl dX6_drop_149 ?_
      refine lv_iload_n hx hb dX6_drop_152 rfl (lv_at hl 3 rfl) ?_
      refine lv_ior hx hb dX6_drop_153 ?_
      refine va_put (ci := 6) (v := .int (fallen_ ||| v10030_)) (ty := .int) (C := RX6) (T := TX6) (N := 8) hx hb htA in_X6 tyX6 tyX6_ok nmX6 hown hK hP hD hS 9 rfl rfl 7 (by decide) (htA _ wd_189) (fun _ h => h) rfl (by decide +kernel) rfl rfl (Nat.le_of_ble_eq_true rfl) dX6_drop_154 (fun H locs hP hD hS => ?_)
      have hP : va_P D vwCl [(nh_, .inl (cy 0, 4, .inl (g210001_))), (nr_, .inl (cy 0, 32, .inl (fr_))), (nq_, .inl (cy 0, 4, .inl (fq_))), (nl_, .inl (cy 0, 8, .inl (g201702_))), (nLF_, .inr (4, [.ref npF_, .ref ngF_, .ref nkF_])), (npF_, .inl (cy 0, lenF_, .inl (fpF_))), (ngF_, .inl (cy 0, 6, .inl (g10031_))), (nkF_, .inl (cy 0, 32, .inl (g10032_))), (ns_, .inl (cy 0, 8, .inl (g201703_))), (no_, .inr (6, [.ref nd_, .int hour_, .ref ns_, .ref nc_, .ref nl_, .ref nt_, .ref nh_, .int (fallen_ ||| v10030_)])), (nc_, .inl (cy 0, 8, .inl (fc_))), (nd_, .inr (0, [.int lines_, .int columns_, .int levels_, .int things_, .int walkers_, .ref nw_, .ref nr_, .ref nq_, hangs_, .ref nLF_])), (nw_, .inl (cy 0, 8, .inl (fw_)))] H := hP
      have hD := va_ca hP hD
      have hP : va_P D vwCl [(no_, .inr (6, [.ref nd_, .int hour_, .ref ns_, .ref nc_, .ref nl_, .ref nt_, .ref nh_, .int (fallen_ ||| v10030_)])), (ns_, .inl (cy 0, 8, .inl (g201703_))), (nc_, .inl (cy 0, 8, .inl (fc_))), (nl_, .inl (cy 0, 8, .inl (g201702_))), (nh_, .inl (cy 0, 4, .inl (g210001_))), (nd_, .inr (0, [.int lines_, .int columns_, .int levels_, .int things_, .int walkers_, .ref nw_, .ref nr_, .ref nq_, hangs_, .ref nLF_])), (nw_, .inl (cy 0, 8, .inl (fw_))), (nr_, .inl (cy 0, 32, .inl (fr_))), (nq_, .inl (cy 0, 4, .inl (fq_))), (nLF_, .inr (4, [.ref npF_, .ref ngF_, .ref nkF_])), (npF_, .inl (cy 0, lenF_, .inl (fpF_))), (ngF_, .inl (cy 0, 6, .inl (g10031_))), (nkF_, .inl (cy 0, 32, .inl (g10032_)))] H := hP.sub [9, 8, 10, 3, 0, 11, 12, 1, 2, 4, 5, 6, 7] rfl
      have hD : va_D A [(no_, .inr (6, [.ref nd_, .int hour_, .ref ns_, .ref nc_, .ref nl_, .ref nt_, .ref nh_, .int (fallen_ ||| v10030_)])), (ns_, .inl (cy 0, 8, .inl (g201703_))), (nc_, .inl (cy 0, 8, .inl (fc_))), (nl_, .inl (cy 0, 8, .inl (g201702_))), (nh_, .inl (cy 0, 4, .inl (g210001_))), (nd_, .inr (0, [.int lines_, .int columns_, .int levels_, .int things_, .int walkers_, .ref nw_, .ref nr_, .ref nq_, hangs_, .ref nLF_])), (nw_, .inl (cy 0, 8, .inl (fw_))), (nr_, .inl (cy 0, 32, .inl (fr_))), (nq_, .inl (cy 0, 4, .inl (fq_))), (nLF_, .inr (4, [.ref npF_, .ref ngF_, .ref nkF_])), (npF_, .inl (cy 0, lenF_, .inl (fpF_))), (ngF_, .inl (cy 0, 6, .inl (g10031_))), (nkF_, .inl (cy 0, 32, .inl (g10032_)))] := hD.sub [9, 8, 10, 3, 0, 11, 12, 1, 2, 4, 5, 6, 7] (by decide +kernel) rfl
      exact rV hX hE hP hD hS dX6_drop_157 (by decide) (by decide) ⟨(fallen_ ||| v10030_), g201703_, g201702_, g210001_, g10031_, g10032_, (Or.inl ⟨g10031_, g10032_, v10030_, v10090_, v201700_, v201701_, g201702_, g201703_, v10920_, v210000_, g210001_, k3_0_, k9_0_, hR1_, c26_, k92_0_, hR2_, c109_, rfl, rfl, rfl, rfl, rfl, rfl⟩), rfl⟩
    · have g2_ : rg (0) (3) v210000_ := rg_lt1 (rg_nle c109_) rv210000_ rwalkers_ (by decide)
      have g3_ : rg (1) (4) walkers_ := rg_lt2 (rg_nle c109_) rv210000_ rwalkers_ (by decide)
      refine lv_aload_n hx hb dX6_drop_112 rfl (lv_at hl 4 rfl) ?_
      refine va_get (ci := 6) (v := .ref nd_) (C := RX6) (T := TX6) (N := 8) hx hb htA in_X6 hown hK hP 9 rfl rfl 0 (by decide) (htA _ wd_166) (fun _ h => h) rfl dX6_drop_113 ?_
      refine lv_iload hx hb dX6_drop_116 (lv_at hl 0 rfl) ?_
      refine lv_aload_n hx hb dX6_drop_118 rfl (lv_at hl 4 rfl) ?_
      refine va_get (ci := 6) (v := .int hour_) (C := RX6) (T := TX6) (N := 8) hx hb htA in_X6 hown hK hP 9 rfl rfl 1 (by decide) (htA _ wd_170) (fun _ h => h) rfl dX6_drop_119 ?_
      refine kVi (As := [.int v210000_, .int hour_]) (rest := []) (wr := [(nh_, .inl (cy 0, 4, .inl (g210001_))), (nl_, .inl (cy 0, 8, .inl (g201702_))), (nLF_, .inr (4, [.ref npF_, .ref ngF_, .ref nkF_])), (npF_, .inl (cy 0, lenF_, .inl (fpF_))), (ngF_, .inl (cy 0, 6, .inl (g10031_))), (nkF_, .inl (cy 0, 32, .inl (g10032_))), (ns_, .inl (cy 0, 8, .inl (g201703_))), (no_, .inr (6, [.ref nd_, .int hour_, .ref ns_, .ref nc_, .ref nl_, .ref nt_, .ref nh_, .int fallen_])), (nc_, .inl (cy 0, 8, .inl (fc_))), (nw_, .inl (cy 0, 8, .inl (fw_)))]) hX hE (sf_X0_walkerColumn l D cy nd_ lines_ columns_ levels_ things_ walkers_ nw_ nr_ nq_ hangs_ (.ref nLF_) fr_ fq_ v210000_ hour_ (rg_w rcolumns_ (by decide) (by decide)) (rg_w rlevels_ (by decide) (by decide)) (rg_w rthings_ (by decide) (by decide)) (rg_w g3_ (by decide) (by decide)) rfq_) (cwVA 2 htA wd_455 wd_452 wd_3 wd_453 wd_454 (by decide +kernel) ⟨by decide, by decide⟩) hP hD hS [11, 1, 2] [0, 3, 4, 5, 6, 7, 8, 9, 10, 12] rfl rfl (by decide +kernel) 0 rfl rfl rfl rfl hl.1 rfl (Nat.le_of_ble_eq_true rfl) dX6_drop_122 (by decide) (fun v11220_ W1 H locs hw hP hD hS => ?_)
      refine W.widen (k := 0) (n := 0) (by decide) (by decide) ?_
      obtain ⟨k122_0_, rfl⟩ := hw
      have hP : va_P D vwCl [(nh_, .inl (cy 0, 4, .inl (g210001_))), (nl_, .inl (cy 0, 8, .inl (g201702_))), (nLF_, .inr (4, [.ref npF_, .ref ngF_, .ref nkF_])), (npF_, .inl (cy 0, lenF_, .inl (fpF_))), (ngF_, .inl (cy 0, 6, .inl (g10031_))), (nkF_, .inl (cy 0, 32, .inl (g10032_))), (ns_, .inl (cy 0, 8, .inl (g201703_))), (no_, .inr (6, [.ref nd_, .int hour_, .ref ns_, .ref nc_, .ref nl_, .ref nt_, .ref nh_, .int fallen_])), (nc_, .inl (cy 0, 8, .inl (fc_))), (nw_, .inl (cy 0, 8, .inl (fw_))), (nd_, .inr (0, [.int lines_, .int columns_, .int levels_, .int things_, .int walkers_, .ref nw_, .ref nr_, .ref nq_, hangs_, .ref nLF_])), (nr_, .inl (cy 0, 32, .inl (fr_))), (nq_, .inl (cy 0, 4, .inl (fq_)))] H := hP
      have hD := va_ca hP hD
      refine lv_iload_n hx hb dX6_drop_125 rfl (lv_at hl 5 rfl) ?_
      refine joinT (D := D) (A := A) (pc := 141) (mL := 7) (τ := (Nat → Int32)) (WS := fun i => [(nh_, .inl (cy 0, 4, .inl (i))), (nl_, .inl (cy 0, 8, .inl (g201702_))), (nLF_, .inr (4, [.ref npF_, .ref ngF_, .ref nkF_])), (npF_, .inl (cy 0, lenF_, .inl (fpF_))), (ngF_, .inl (cy 0, 6, .inl (g10031_))), (nkF_, .inl (cy 0, 32, .inl (g10032_))), (ns_, .inl (cy 0, 8, .inl (g201703_))), (no_, .inr (6, [.ref nd_, .int hour_, .ref ns_, .ref nc_, .ref nl_, .ref nt_, .ref nh_, .int fallen_])), (nc_, .inl (cy 0, 8, .inl (fc_))), (nw_, .inl (cy 0, 8, .inl (fw_))), (nd_, .inr (0, [.int lines_, .int columns_, .int levels_, .int things_, .int walkers_, .ref nw_, .ref nr_, .ref nq_, hangs_, .ref nLF_])), (nr_, .inl (cy 0, 32, .inl (fr_))), (nq_, .inl (cy 0, 4, .inl (fq_)))]) (LV := fun i => [(6, .int v210000_), (5, .int v10920_), (4, .int v201701_), (3, .int v10030_), (0, .ref no_), (1, .int c_), (2, .int b_)]) (ST := fun i => []) (cells := 0) (slots := 0) (fun i => R_X6_drop_xR_j4 v11220_ c_ g210001_ v210000_ v10920_ i) (fun g214100_ H locs ls hI hP hD hS hl => ?_) (fun j141_ => ?_)
      · have hI : R_X6_drop_xR_j4 v11220_ c_ g210001_ v210000_ v10920_ g214100_ := hI
        have hR4_ := hI
        have hP : va_P D vwCl [(nh_, .inl (cy 0, 4, .inl (g214100_))), (nl_, .inl (cy 0, 8, .inl (g201702_))), (nLF_, .inr (4, [.ref npF_, .ref ngF_, .ref nkF_])), (npF_, .inl (cy 0, lenF_, .inl (fpF_))), (ngF_, .inl (cy 0, 6, .inl (g10031_))), (nkF_, .inl (cy 0, 32, .inl (g10032_))), (ns_, .inl (cy 0, 8, .inl (g201703_))), (no_, .inr (6, [.ref nd_, .int hour_, .ref ns_, .ref nc_, .ref nl_, .ref nt_, .ref nh_, .int fallen_])), (nc_, .inl (cy 0, 8, .inl (fc_))), (nw_, .inl (cy 0, 8, .inl (fw_))), (nd_, .inr (0, [.int lines_, .int columns_, .int levels_, .int things_, .int walkers_, .ref nw_, .ref nr_, .ref nq_, hangs_, .ref nLF_])), (nr_, .inl (cy 0, 32, .inl (fr_))), (nq_, .inl (cy 0, 4, .inl (fq_)))] H := hP
        have hD := va_ca hP hD
        have hl : lv_has ls 7 [(6, .int v210000_), (5, .int v10920_), (4, .int v201701_), (3, .int v10030_), (0, .ref no_), (1, .int c_), (2, .int b_)] := hl
        refine lv_iinc (v := v210000_ + 1) (lv' := [(6, .int (v210000_ + 1)), (5, .int v10920_), (4, .int v201701_), (3, .int v10030_), (0, .ref no_), (1, .int c_), (2, .int b_)]) hx hb dX6_drop_141 hl (k := 0) rfl rfl (by decide) rfl (fun ls hl => ?_)
        have g4_ : rg (1) (4) (v210000_ + 1) := rg_add g2_ (rg_lit (by decide) : rg (1) (1) (1 : Int32)) (by decide) (by decide) (by decide) (by decide)
        refine lv_goto (tgt := 100) hx hb dX6_drop_144 (by decide) ?_
        have hP : va_P D vwCl [(nh_, .inl (cy 0, 4, .inl (g214100_))), (nr_, .inl (cy 0, 32, .inl (fr_))), (nq_, .inl (cy 0, 4, .inl (fq_))), (nl_, .inl (cy 0, 8, .inl (g201702_))), (nLF_, .inr (4, [.ref npF_, .ref ngF_, .ref nkF_])), (npF_, .inl (cy 0, lenF_, .inl (fpF_))), (ngF_, .inl (cy 0, 6, .inl (g10031_))), (nkF_, .inl (cy 0, 32, .inl (g10032_))), (ns_, .inl (cy 0, 8, .inl (g201703_))), (no_, .inr (6, [.ref nd_, .int hour_, .ref ns_, .ref nc_, .ref nl_, .ref nt_, .ref nh_, .int fallen_])), (nc_, .inl (cy 0, 8, .inl (fc_))), (nd_, .inr (0, [.int lines_, .int columns_, .int levels_, .int things_, .int walkers_, .ref nw_, .ref nr_, .ref nq_, hangs_, .ref nLF_])), (nw_, .inl (cy 0, 8, .inl (fw_)))] H := hP.sub [0, 11, 12, 1, 2, 3, 4, 5, 6, 7, 8, 10, 9] rfl
        have hD : va_D A [(nh_, .inl (cy 0, 4, .inl (g214100_))), (nr_, .inl (cy 0, 32, .inl (fr_))), (nq_, .inl (cy 0, 4, .inl (fq_))), (nl_, .inl (cy 0, 8, .inl (g201702_))), (nLF_, .inr (4, [.ref npF_, .ref ngF_, .ref nkF_])), (npF_, .inl (cy 0, lenF_, .inl (fpF_))), (ngF_, .inl (cy 0, 6, .inl (g10031_))), (nkF_, .inl (cy 0, 32, .inl (g10032_))), (ns_, .inl (cy 0, 8, .inl (g201703_))), (no_, .inr (6, [.ref nd_, .int hour_, .ref ns_, .ref nc_, .ref nl_, .ref nt_, .ref nh_, .int fallen_])), (nc_, .inl (cy 0, 8, .inl (fc_))), (nd_, .inr (0, [.int lines_, .int columns_, .int levels_, .int things_, .int walkers_, .ref nw_, .ref nr_, .ref nq_, hangs_, .ref nLF_])), (nw_, .inl (cy 0, 8, .inl (fw_)))] := hD.sub [0, 11, 12, 1, 2, 3, 4, 5, 6, 7, 8, 10, 9] (by decide +kernel) rfl
        exact ih100_ (v210000_ + 1, g214100_) _ _ ls ⟨(rg_w g4_ (by decide) (by decide)), (Itr.st hR2_ (Or.inl ⟨v11220_, g214100_, c109_, k122_0_, hR4_, rfl⟩))⟩ (show (5 - (v210000_ + 1).toInt).toNat < (5 - v210000_.toInt).toNat from by rw [show (v210000_ + 1).toInt = v210000_.toInt + 1 from inc32 v210000_ (by have hq := (rv210000_).2; omega)]; have hq := (g2_).1; have hq2 := (g2_).2; omega) hP hD hS (lv_sub hl [0, 1, 2, 3, 4, 5, 6] rfl)
      refine lv_icmp_ne (tgt := 141) hx hb dX6_drop_126 (by decide) (fun c126_ => ?_) (fun c126_ => ?_)
      · exact j141_ g210001_ _ _ ls (Or.inl ⟨c126_, rfl⟩) hP hD hS (lv_sub hl [0, 1, 2, 3, 4, 5, 6] rfl)
      · refine lv_aload_n hx hb dX6_drop_129 rfl (lv_at hl 4 rfl) ?_
        refine va_get (ci := 6) (v := .ref nh_) (C := RX6) (T := TX6) (N := 8) hx hb htA in_X6 hown hK hP 7 rfl rfl 6 (by decide) (htA _ wd_187) (fun _ h => h) rfl dX6_drop_130 ?_
        refine lv_iload hx hb dX6_drop_133 (lv_at hl 0 rfl) ?_
        refine lv_dup2_11 hx hb dX6_drop_135 rfl rfl ?_
        refine va_iald hx hb hK hP 0 0 rfl rfl (rg_in g2_ (by decide) (by decide)) dX6_drop_136 ?_
        refine lv_topi (fun v11360_ ev11360_ => ?_)
        refine lv_iload hx hb dX6_drop_137 (lv_at hl 1 rfl) ?_
        refine lv_iadd hx hb dX6_drop_139 ?_
        refine va_iast hx hb hK hP hD hS 0 0 rfl rfl (rg_in g2_ (by decide) (by decide)) dX6_drop_140 (fun H locs hP hD hS => ?_)
        have hP : va_P D vwCl [(nh_, .inl (cy 0, 4, .inl (upd g210001_ v210000_.toNatClampNeg (v11360_ + v10920_)))), (nl_, .inl (cy 0, 8, .inl (g201702_))), (nLF_, .inr (4, [.ref npF_, .ref ngF_, .ref nkF_])), (npF_, .inl (cy 0, lenF_, .inl (fpF_))), (ngF_, .inl (cy 0, 6, .inl (g10031_))), (nkF_, .inl (cy 0, 32, .inl (g10032_))), (ns_, .inl (cy 0, 8, .inl (g201703_))), (no_, .inr (6, [.ref nd_, .int hour_, .ref ns_, .ref nc_, .ref nl_, .ref nt_, .ref nh_, .int fallen_])), (nc_, .inl (cy 0, 8, .inl (fc_))), (nw_, .inl (cy 0, 8, .inl (fw_))), (nd_, .inr (0, [.int lines_, .int columns_, .int levels_, .int things_, .int walkers_, .ref nw_, .ref nr_, .ref nq_, hangs_, .ref nLF_])), (nr_, .inl (cy 0, 32, .inl (fr_))), (nq_, .inl (cy 0, 4, .inl (fq_)))] H := hP
        have hD := va_ca hP hD
        exact j141_ (upd g210001_ v210000_.toNatClampNeg (v11360_ + v10920_)) _ _ ls (Or.inr (Or.inl ⟨v11360_, c126_, ev11360_, rfl⟩)) hP hD hS (lv_sub hl [0, 1, 2, 3, 4, 5, 6] rfl)
  · have g5_ : rg (0) (8) v201700_ := rg_lt1 (rg_nle c26_) rv201700_ rlevels_ (by decide)
    refine lv_aload_n hx hb dX6_drop_29 rfl (lv_at hl 3 rfl) ?_
    refine lv_iload_n hx hb dX6_drop_30 rfl (lv_at hl 4 rfl) ?_
    refine lv_iload hx hb dX6_drop_31 (lv_at hl 0 rfl) ?_
    refine kVi (As := [.int c_, .int v201700_]) (rest := []) (wr := [(nh_, .inl (cy 0, 4, .inl (fh_))), (nr_, .inl (cy 0, 32, .inl (fr_))), (nq_, .inl (cy 0, 4, .inl (fq_))), (nw_, .inl (cy 0, 8, .inl (fw_))), (nLF_, .inr (4, [.ref npF_, .ref ngF_, .ref nkF_])), (npF_, .inl (cy 0, lenF_, .inl (fpF_))), (ngF_, .inl (cy 0, 6, .inl (g10031_))), (nkF_, .inl (cy 0, 32, .inl (g10032_)))]) hX hE (sf_X6_thingAt l D cy no_ nd_ hour_ ns_ nc_ nl_ nt_ nh_ fallen_ g201703_ fc_ g201702_ lines_ columns_ levels_ things_ walkers_ nw_ nr_ nq_ hangs_ (.ref nLF_) c_ v201700_ (rg_w rcolumns_ (by decide) (by decide)) (rg_w rlevels_ (by decide) (by decide)) (rg_w rthings_ (by decide) (by decide)) (rg_w rwalkers_ (by decide) (by decide))) (cwVA 2 htA wd_383 wd_380 wd_6 wd_381 wd_382 (by decide +kernel) ⟨by decide, by decide⟩) hP hD hS [9, 10, 11, 3, 12] [0, 1, 2, 4, 5, 6, 7, 8] rfl rfl (by decide +kernel) 0 rfl rfl rfl rfl hl.1 rfl (Nat.le_of_ble_eq_true rfl) dX6_drop_33 (by decide) (fun v10330_ W1 H locs hw hP hD hS => ?_)
    refine W.widen (k := 0) (n := 0) (by decide) (by decide) ?_
    obtain ⟨k33_0_, rfl, kr33_⟩ := hw
    have hP : va_P D vwCl [(nh_, .inl (cy 0, 4, .inl (fh_))), (nr_, .inl (cy 0, 32, .inl (fr_))), (nq_, .inl (cy 0, 4, .inl (fq_))), (nw_, .inl (cy 0, 8, .inl (fw_))), (nLF_, .inr (4, [.ref npF_, .ref ngF_, .ref nkF_])), (npF_, .inl (cy 0, lenF_, .inl (fpF_))), (ngF_, .inl (cy 0, 6, .inl (g10031_))), (nkF_, .inl (cy 0, 32, .inl (g10032_))), (no_, .inr (6, [.ref nd_, .int hour_, .ref ns_, .ref nc_, .ref nl_, .ref nt_, .ref nh_, .int fallen_])), (ns_, .inl (cy 0, 8, .inl (g201703_))), (nc_, .inl (cy 0, 8, .inl (fc_))), (nl_, .inl (cy 0, 8, .inl (g201702_))), (nd_, .inr (0, [.int lines_, .int columns_, .int levels_, .int things_, .int walkers_, .ref nw_, .ref nr_, .ref nq_, hangs_, .ref nLF_]))] H := hP
    have hD := va_ca hP hD
    refine lv_istore (lv' := [(6, .int v10330_), (5, .int v201700_), (4, .int v201701_), (3, .int v10030_), (0, .ref no_), (1, .int c_), (2, .int b_)]) hx hb dX6_drop_36 hl (by decide) rfl (fun ls hl => ?_)
    refine lv_iload hx hb dX6_drop_38 (lv_at hl 0 rfl) ?_
    refine joinT (D := D) (A := A) (pc := 83) (mL := 7) (τ := Int32 × (Nat → Int32) × (Nat → Int32)) (WS := fun i => [(nh_, .inl (cy 0, 4, .inl (fh_))), (nr_, .inl (cy 0, 32, .inl (fr_))), (nq_, .inl (cy 0, 4, .inl (fq_))), (nw_, .inl (cy 0, 8, .inl (fw_))), (nLF_, .inr (4, [.ref npF_, .ref ngF_, .ref nkF_])), (npF_, .inl (cy 0, lenF_, .inl (fpF_))), (ngF_, .inl (cy 0, 6, .inl (g10031_))), (nkF_, .inl (cy 0, 32, .inl (g10032_))), (no_, .inr (6, [.ref nd_, .int hour_, .ref ns_, .ref nc_, .ref nl_, .ref nt_, .ref nh_, .int fallen_])), (ns_, .inl (cy 0, 8, .inl (i.2.1))), (nc_, .inl (cy 0, 8, .inl (fc_))), (nl_, .inl (cy 0, 8, .inl (i.2.2))), (nd_, .inr (0, [.int lines_, .int columns_, .int levels_, .int things_, .int walkers_, .ref nw_, .ref nr_, .ref nq_, hangs_, .ref nLF_]))]) (LV := fun i => [(6, .int v10330_), (5, .int v201700_), (4, .int i.1), (3, .int v10030_), (0, .ref no_), (1, .int c_), (2, .int b_)]) (ST := fun i => []) (cells := 0) (slots := 0) (fun i => R_X6_drop_xR_j5 v10330_ v201701_ g201703_ g201702_ v10030_ i.1 i.2.1 i.2.2) (fun i_ H locs ls hI hP hD hS hl => ?_) (fun j83_ => ?_)
    · obtain ⟨v208300_, g208301_, g208302_⟩ := i_
      have hI : R_X6_drop_xR_j5 v10330_ v201701_ g201703_ g201702_ v10030_ v208300_ g208301_ g208302_ := hI
      have hR5_ := hI
      have hP : va_P D vwCl [(nh_, .inl (cy 0, 4, .inl (fh_))), (nr_, .inl (cy 0, 32, .inl (fr_))), (nq_, .inl (cy 0, 4, .inl (fq_))), (nw_, .inl (cy 0, 8, .inl (fw_))), (nLF_, .inr (4, [.ref npF_, .ref ngF_, .ref nkF_])), (npF_, .inl (cy 0, lenF_, .inl (fpF_))), (ngF_, .inl (cy 0, 6, .inl (g10031_))), (nkF_, .inl (cy 0, 32, .inl (g10032_))), (no_, .inr (6, [.ref nd_, .int hour_, .ref ns_, .ref nc_, .ref nl_, .ref nt_, .ref nh_, .int fallen_])), (ns_, .inl (cy 0, 8, .inl (g208301_))), (nc_, .inl (cy 0, 8, .inl (fc_))), (nl_, .inl (cy 0, 8, .inl (g208302_))), (nd_, .inr (0, [.int lines_, .int columns_, .int levels_, .int things_, .int walkers_, .ref nw_, .ref nr_, .ref nq_, hangs_, .ref nLF_]))] H := hP
      have hD := va_ca hP hD
      have hl : lv_has ls 7 [(6, .int v10330_), (5, .int v201700_), (4, .int v208300_), (3, .int v10030_), (0, .ref no_), (1, .int c_), (2, .int b_)] := hl
      refine lv_iinc (v := v201700_ + 1) (lv' := [(5, .int (v201700_ + 1)), (6, .int v10330_), (4, .int v208300_), (3, .int v10030_), (0, .ref no_), (1, .int c_), (2, .int b_)]) hx hb dX6_drop_83 hl (k := 1) rfl rfl (by decide) rfl (fun ls hl => ?_)
      have g6_ : rg (1) (9) (v201700_ + 1) := rg_add g5_ (rg_lit (by decide) : rg (1) (1) (1 : Int32)) (by decide) (by decide) (by decide) (by decide)
      refine lv_goto (tgt := 17) hx hb dX6_drop_86 (by decide) ?_
      have hP : va_P D vwCl [(nh_, .inl (cy 0, 4, .inl (fh_))), (nr_, .inl (cy 0, 32, .inl (fr_))), (nq_, .inl (cy 0, 4, .inl (fq_))), (nl_, .inl (cy 0, 8, .inl (g208302_))), (nw_, .inl (cy 0, 8, .inl (fw_))), (nLF_, .inr (4, [.ref npF_, .ref ngF_, .ref nkF_])), (npF_, .inl (cy 0, lenF_, .inl (fpF_))), (ngF_, .inl (cy 0, 6, .inl (g10031_))), (nkF_, .inl (cy 0, 32, .inl (g10032_))), (no_, .inr (6, [.ref nd_, .int hour_, .ref ns_, .ref nc_, .ref nl_, .ref nt_, .ref nh_, .int fallen_])), (ns_, .inl (cy 0, 8, .inl (g208301_))), (nc_, .inl (cy 0, 8, .inl (fc_))), (nd_, .inr (0, [.int lines_, .int columns_, .int levels_, .int things_, .int walkers_, .ref nw_, .ref nr_, .ref nq_, hangs_, .ref nLF_]))] H := hP.sub [0, 1, 2, 11, 3, 4, 5, 6, 7, 8, 9, 10, 12] rfl
      have hD : va_D A [(nh_, .inl (cy 0, 4, .inl (fh_))), (nr_, .inl (cy 0, 32, .inl (fr_))), (nq_, .inl (cy 0, 4, .inl (fq_))), (nl_, .inl (cy 0, 8, .inl (g208302_))), (nw_, .inl (cy 0, 8, .inl (fw_))), (nLF_, .inr (4, [.ref npF_, .ref ngF_, .ref nkF_])), (npF_, .inl (cy 0, lenF_, .inl (fpF_))), (ngF_, .inl (cy 0, 6, .inl (g10031_))), (nkF_, .inl (cy 0, 32, .inl (g10032_))), (no_, .inr (6, [.ref nd_, .int hour_, .ref ns_, .ref nc_, .ref nl_, .ref nt_, .ref nh_, .int fallen_])), (ns_, .inl (cy 0, 8, .inl (g208301_))), (nc_, .inl (cy 0, 8, .inl (fc_))), (nd_, .inr (0, [.int lines_, .int columns_, .int levels_, .int things_, .int walkers_, .ref nw_, .ref nr_, .ref nq_, hangs_, .ref nLF_]))] := hD.sub [0, 1, 2, 11, 3, 4, 5, 6, 7, 8, 9, 10, 12] (by decide +kernel) rfl
      exact ih17_ (v201700_ + 1, v208300_, g208302_, g208301_) _ _ ls ⟨(rg_w g6_ (by decide) (by decide)), (Itr.st hR1_ (Or.inl ⟨v10330_, v208300_, g208301_, g208302_, c26_, k33_0_, hR5_, rfl⟩))⟩ (show (10 - (v201700_ + 1).toInt).toNat < (10 - v201700_.toInt).toNat from by rw [show (v201700_ + 1).toInt = v201700_.toInt + 1 from inc32 v201700_ (by have hq := (rv201700_).2; omega)]; have hq := (g5_).1; have hq2 := (g5_).2; omega) hP hD hS (lv_sub hl [0, 2, 3, 4, 5, 6] rfl)
    refine lv_if_lt (tgt := 83) hx hb dX6_drop_40 (by decide) (fun c40_ => ?_) (fun c40_ => ?_)
    · have g7_ : rg (-1) (-1) v10330_ := rg_lt1 c40_ kr33_ (rg_lit (by decide) : rg (0) (0) (0 : Int32)) (by decide)
      exact j83_ (v201701_, g201703_, g201702_) _ _ ls (Or.inl ⟨c40_, rfl, rfl, rfl⟩) hP hD hS (lv_sub hl [0, 1, 2, 3, 4, 5, 6] rfl)
    · have g8_ : rg (0) (7) v10330_ := rg_le2 (rg_nlt c40_) (rg_lit (by decide) : rg (0) (0) (0 : Int32)) kr33_ (by decide)
      refine lv_iload_n hx hb dX6_drop_43 rfl (lv_at hl 3 rfl) ?_
      refine lv_iload hx hb dX6_drop_44 (lv_at hl 0 rfl) ?_
      refine lv_ishr hx hb dX6_drop_46 ?_
      refine lv_iconst (v := 1) hx hb dX6_drop_47 (by decide) ?_
      refine lv_iand hx hb dX6_drop_48 ?_
      have g9_ : rg (0) (1) ((v10030_ >>> (v10330_ &&& 31)) &&& 1) := rg_and (by decide) (by decide)
      refine lv_if_eq (tgt := 83) hx hb dX6_drop_49 (by decide) (fun c49_ => ?_) (fun c49_ => ?_)
      · have g10_ : rg (0) (0) ((v10030_ >>> (v10330_ &&& 31)) &&& 1) := rg_eq c49_ (rg_lit (by decide) : rg (0) (0) (0 : Int32))
        exact j83_ (v201701_, g201703_, g201702_) _ _ ls (Or.inr (Or.inl ⟨c40_, c49_, rfl, rfl, rfl⟩)) hP hD hS (lv_sub hl [0, 1, 2, 3, 4, 5, 6] rfl)
      · have g11_ : rg (1) (1) ((v10030_ >>> (v10330_ &&& 31)) &&& 1) := rg_ne1 c49_ g9_ (by decide) (by decide)
        refine lv_aload_n hx hb dX6_drop_52 rfl (lv_at hl 4 rfl) ?_
        refine va_get (ci := 6) (v := .ref ns_) (C := RX6) (T := TX6) (N := 8) hx hb htA in_X6 hown hK hP 8 rfl rfl 2 (by decide) (htA _ wd_174) (fun _ h => h) rfl dX6_drop_53 ?_
        refine lv_iload hx hb dX6_drop_56 (lv_at hl 0 rfl) ?_
        refine va_iald hx hb hK hP 9 0 rfl rfl (rg_in g8_ (by decide) (by decide)) dX6_drop_58 ?_
        refine lv_topi (fun v10580_ ev10580_ => ?_)
        refine lv_iconst (v := 1) hx hb dX6_drop_59 (by decide) ?_
        refine lv_icmp_ne (tgt := 83) hx hb dX6_drop_60 (by decide) (fun c60_ => ?_) (fun c60_ => ?_)
        · exact j83_ (v201701_, g201703_, g201702_) _ _ ls (Or.inr (Or.inr (Or.inl ⟨v10580_, c40_, c49_, ev10580_, c60_, rfl, rfl, rfl⟩))) hP hD hS (lv_sub hl [0, 1, 2, 3, 4, 5, 6] rfl)
        · have g12_ : rg (1) (1) v10580_ := rg_eq c60_ (rg_lit (by decide) : rg (1) (1) (1 : Int32))
          refine lv_aload_n hx hb dX6_drop_63 rfl (lv_at hl 4 rfl) ?_
          refine va_get (ci := 6) (v := .ref ns_) (C := RX6) (T := TX6) (N := 8) hx hb htA in_X6 hown hK hP 8 rfl rfl 2 (by decide) (htA _ wd_174) (fun _ h => h) rfl dX6_drop_64 ?_
          refine lv_iload hx hb dX6_drop_67 (lv_at hl 0 rfl) ?_
          refine lv_iconst (v := 2) hx hb dX6_drop_69 (by decide) ?_
          refine va_iast hx hb hK hP hD hS 9 0 rfl rfl (rg_in g8_ (by decide) (by decide)) dX6_drop_70 (fun H locs hP hD hS => ?_)
          have hP : va_P D vwCl [(nh_, .inl (cy 0, 4, .inl (fh_))), (nr_, .inl (cy 0, 32, .inl (fr_))), (nq_, .inl (cy 0, 4, .inl (fq_))), (nw_, .inl (cy 0, 8, .inl (fw_))), (nLF_, .inr (4, [.ref npF_, .ref ngF_, .ref nkF_])), (npF_, .inl (cy 0, lenF_, .inl (fpF_))), (ngF_, .inl (cy 0, 6, .inl (g10031_))), (nkF_, .inl (cy 0, 32, .inl (g10032_))), (no_, .inr (6, [.ref nd_, .int hour_, .ref ns_, .ref nc_, .ref nl_, .ref nt_, .ref nh_, .int fallen_])), (ns_, .inl (cy 0, 8, .inl (upd g201703_ v10330_.toNatClampNeg 2))), (nc_, .inl (cy 0, 8, .inl (fc_))), (nl_, .inl (cy 0, 8, .inl (g201702_))), (nd_, .inr (0, [.int lines_, .int columns_, .int levels_, .int things_, .int walkers_, .ref nw_, .ref nr_, .ref nq_, hangs_, .ref nLF_]))] H := hP
          have hD := va_ca hP hD
          refine lv_aload_n hx hb dX6_drop_71 rfl (lv_at hl 4 rfl) ?_
          refine va_get (ci := 6) (v := .ref nl_) (C := RX6) (T := TX6) (N := 8) hx hb htA in_X6 hown hK hP 8 rfl rfl 4 (by decide) (htA _ wd_181) (fun _ h => h) rfl dX6_drop_72 ?_
          refine lv_iload hx hb dX6_drop_75 (lv_at hl 0 rfl) ?_
          refine lv_iload hx hb dX6_drop_77 (lv_at hl 2 rfl) ?_
          refine va_iast hx hb hK hP hD hS 11 0 rfl rfl (rg_in g8_ (by decide) (by decide)) dX6_drop_79 (fun H locs hP hD hS => ?_)
          have hP : va_P D vwCl [(nh_, .inl (cy 0, 4, .inl (fh_))), (nr_, .inl (cy 0, 32, .inl (fr_))), (nq_, .inl (cy 0, 4, .inl (fq_))), (nw_, .inl (cy 0, 8, .inl (fw_))), (nLF_, .inr (4, [.ref npF_, .ref ngF_, .ref nkF_])), (npF_, .inl (cy 0, lenF_, .inl (fpF_))), (ngF_, .inl (cy 0, 6, .inl (g10031_))), (nkF_, .inl (cy 0, 32, .inl (g10032_))), (no_, .inr (6, [.ref nd_, .int hour_, .ref ns_, .ref nc_, .ref nl_, .ref nt_, .ref nh_, .int fallen_])), (ns_, .inl (cy 0, 8, .inl (upd g201703_ v10330_.toNatClampNeg 2))), (nc_, .inl (cy 0, 8, .inl (fc_))), (nl_, .inl (cy 0, 8, .inl (upd g201702_ v10330_.toNatClampNeg v201701_))), (nd_, .inr (0, [.int lines_, .int columns_, .int levels_, .int things_, .int walkers_, .ref nw_, .ref nr_, .ref nq_, hangs_, .ref nLF_]))] H := hP
          have hD := va_ca hP hD
          refine lv_iinc (v := v201701_ + 1) (lv' := [(4, .int (v201701_ + 1)), (6, .int v10330_), (5, .int v201700_), (3, .int v10030_), (0, .ref no_), (1, .int c_), (2, .int b_)]) hx hb dX6_drop_80 hl (k := 2) rfl rfl (by decide) rfl (fun ls hl => ?_)
          exact j83_ (v201701_ + 1, upd g201703_ v10330_.toNatClampNeg 2, upd g201702_ v10330_.toNatClampNeg v201701_) _ _ ls (Or.inr (Or.inr (Or.inr (Or.inl ⟨v10580_, c40_, c49_, ev10580_, c60_, rfl, rfl, rfl⟩)))) hP hD hS (lv_sub hl [1, 2, 0, 3, 4, 5, 6] rfl)
def R_X6_release_NN_j1 (v10350_ : Int32) (fl_ : Nat → Int32) (t_ : Int32) (l_ : Int32) (fh_ : Nat → Int32) (fs_ : Nat → Int32) (things_ : Int32) (fc_ : Nat → Int32) (c_ : Int32) (levels_ : Int32) (fw_ : Nat → Int32) (walkers_ : Int32) (fq_ : Nat → Int32) (hour_ : Int32) (fr_ : Nat → Int32) (v209202_ : Int32) (g209200_ : Nat → Int32) (g209201_ : Nat → Int32) (g209203_ : Nat → Int32) : Prop := (¬ v10350_ = (0 : Int32) ∧ v209202_ = (0 : Int32) ∧ g209200_ = upd fl_ t_.toNatClampNeg l_ ∧ g209201_ = fh_ ∧ g209203_ = upd fs_ t_.toNatClampNeg 1) ∨ (∃ (v10891_ : Int32) (g10892_ : Nat → Int32) (g10893_ : Nat → Int32) (g10894_ : Nat → Int32), v10350_ = (0 : Int32) ∧ R_X6_drop_xN_e ((1 <<< (t_ &&& 31))) things_ ((upd fs_ t_.toNatClampNeg 1)) ((upd fc_ t_.toNatClampNeg c_)) c_ ((upd fl_ t_.toNatClampNeg l_)) levels_ fw_ walkers_ fq_ hour_ fr_ fh_ ((0 : Int32)) v10891_ g10892_ g10893_ g10894_ ∧ v209202_ = v10891_ ∧ g209200_ = g10893_ ∧ g209201_ = g10894_ ∧ g209203_ = g10892_) ∨ False
def R_X6_release_NN_e (ft_ : Nat → Int32) (t_ : Int32) (fw_ : Nat → Int32) (things_ : Int32) (fs_ : Nat → Int32) (fc_ : Nat → Int32) (c_ : Int32) (hour_ : Int32) (fl_ : Nat → Int32) (l_ : Int32) (fh_ : Nat → Int32) (levels_ : Int32) (walkers_ : Int32) (fq_ : Nat → Int32) (fr_ : Nat → Int32) (x0_ : Int32) (x1_ : Nat → Int32) (x2_ : Nat → Int32) (x3_ : Nat → Int32) (x4_ : Nat → Int32) (x5_ : Nat → Int32) (r : Int32) : Prop := (∃ (v10130_ : Int32) (v10230_ : Int32) (v10320_ : Int32) (v10350_ : Int32) (v209202_ : Int32) (g209200_ : Nat → Int32) (g209201_ : Nat → Int32) (g209203_ : Nat → Int32), v10130_ = ft_ t_.toNatClampNeg ∧ v10230_ = fw_ t_.toNatClampNeg ∧ R_X6_lying_e things_ fs_ fc_ c_ v10320_ ∧ R_X0_hangTime_Nx_e ((hour_ - v10130_)) v10350_ ∧ R_X6_release_NN_j1 v10350_ fl_ t_ l_ fh_ fs_ things_ fc_ c_ levels_ fw_ walkers_ fq_ hour_ fr_ v209202_ g209200_ g209201_ g209203_ ∧ x0_ = v209202_ ∧ x1_ = g209203_ ∧ x2_ = upd fc_ t_.toNatClampNeg c_ ∧ x3_ = g209200_ ∧ x4_ = upd ft_ t_.toNatClampNeg (hour_ + v10350_) ∧ x5_ = g209201_ ∧ r = v10350_) ∨ False
set_option maxHeartbeats 4000000 in
set_option maxRecDepth 100000 in
theorem sf_X6_release_NN (l : Launch) (D : va_G) (cy : Nat → ClassId) (no_ : Nat) (nd_ : Nat) (hour_ : Int32) (ns_ : Nat) (nc_ : Nat) (nl_ : Nat) (nt_ : Nat) (nh_ : Nat) (fallen_ : Int32) (fs_ : Nat → Int32) (fc_ : Nat → Int32) (fl_ : Nat → Int32) (ft_ : Nat → Int32) (fh_ : Nat → Int32) (lines_ : Int32) (columns_ : Int32) (levels_ : Int32) (things_ : Int32) (walkers_ : Int32) (nw_ : Nat) (nr_ : Nat) (nq_ : Nat) (fw_ : Nat → Int32) (fr_ : Nat → Int32) (fq_ : Nat → Int32) (t_ : Int32) (c_ : Int32) (l_ : Int32) (rcolumns_ : rg (1) (6) columns_) (rlevels_ : rg (1) (9) levels_) (rthings_ : rg (0) (8) things_) (rwalkers_ : rg (0) (4) walkers_) (rt_ : rg (0) (7) t_) (rfq_ : ag (0) (8) 4 fq_) : Ci l yX6_release cX6_release 5 (some .int) { frames := 3, cells := 0, slots := 0, locals := 77 } D cy [.ref no_, .int t_, .int c_, .int l_] [(no_, .inr (6, [.ref nd_, .int hour_, .ref ns_, .ref nc_, .ref nl_, .ref nt_, .ref nh_, .int fallen_])), (ns_, .inl (cy 0, 8, .inl (fs_))), (nc_, .inl (cy 0, 8, .inl (fc_))), (nl_, .inl (cy 0, 8, .inl (fl_))), (nt_, .inl (cy 0, 8, .inl (ft_))), (nh_, .inl (cy 0, 4, .inl (fh_))), (nd_, .inr (0, [.int lines_, .int columns_, .int levels_, .int things_, .int walkers_, .ref nw_, .ref nr_, .ref nq_, .null, .null])), (nw_, .inl (cy 0, 8, .inl (fw_))), (nr_, .inl (cy 0, 32, .inl (fr_))), (nq_, .inl (cy 0, 4, .inl (fq_)))] (fun r W1 => ∃ (x0_ : Int32) (x1_ : Nat → Int32) (x2_ : Nat → Int32) (x3_ : Nat → Int32) (x4_ : Nat → Int32) (x5_ : Nat → Int32), R_X6_release_NN_e ft_ t_ fw_ things_ fs_ fc_ c_ hour_ fl_ l_ fh_ levels_ walkers_ fq_ fr_ x0_ x1_ x2_ x3_ x4_ x5_ r ∧ W1 = [(no_, .inr (6, [.ref nd_, .int hour_, .ref ns_, .ref nc_, .ref nl_, .ref nt_, .ref nh_, .int x0_])), (ns_, .inl (cy 0, 8, .inl (x1_))), (nc_, .inl (cy 0, 8, .inl (x2_))), (nl_, .inl (cy 0, 8, .inl (x3_))), (nt_, .inl (cy 0, 8, .inl (x4_))), (nh_, .inl (cy 0, 4, .inl (x5_))), (nd_, .inr (0, [.int lines_, .int columns_, .int levels_, .int things_, .int walkers_, .ref nw_, .ref nr_, .ref nq_, .null, .null])), (nw_, .inl (cy 0, 8, .inl (fw_))), (nr_, .inl (cy 0, 32, .inl (fr_))), (nq_, .inl (cy 0, 4, .inl (fq_)))]) := by
  refine Ci.of (by decide) (Nat.le_of_ble_eq_true rfl) ?_
  intro p e s m below meth c A ls hX hE hP hD hl
  obtain ⟨hx, hb, hr, hml, hown, htA, hlk⟩ := id hX
  have hK := hE.1
  have hS : va_S A s.heap s.heap [] := va_S.rf
  have hl : lv_has ls 5 [(0, .ref no_), (1, .int t_), (2, .int c_), (3, .int l_)] := hl
  refine lv_aload_n hx hb dX6_release_0 rfl (lv_at hl 0 rfl) ?_
  refine va_get (ci := 6) (v := .ref nd_) (C := RX6) (T := TX6) (N := 8) hx hb htA in_X6 hown hK hP 0 rfl rfl 0 (by decide) (htA _ wd_166) (fun _ h => h) rfl dX6_release_1 ?_
  refine lv_aload_n hx hb dX6_release_4 rfl (lv_at hl 0 rfl) ?_
  refine va_get (ci := 6) (v := .int hour_) (C := RX6) (T := TX6) (N := 8) hx hb htA in_X6 hown hK hP 0 rfl rfl 1 (by decide) (htA _ wd_170) (fun _ h => h) rfl dX6_release_5 ?_
  refine lv_aload_n hx hb dX6_release_8 rfl (lv_at hl 0 rfl) ?_
  refine va_get (ci := 6) (v := .ref nt_) (C := RX6) (T := TX6) (N := 8) hx hb htA in_X6 hown hK hP 0 rfl rfl 5 (by decide) (htA _ wd_184) (fun _ h => h) rfl dX6_release_9 ?_
  refine lv_iload_n hx hb dX6_release_12 rfl (lv_at hl 1 rfl) ?_
  refine va_iald hx hb hK hP 4 0 rfl rfl (rg_in rt_ (by decide) (by decide)) dX6_release_13 ?_
  refine lv_topi (fun v10130_ ev10130_ => ?_)
  refine lv_isub hx hb dX6_release_14 ?_
  refine lv_aload_n hx hb dX6_release_15 rfl (lv_at hl 0 rfl) ?_
  refine va_get (ci := 6) (v := .ref nd_) (C := RX6) (T := TX6) (N := 8) hx hb htA in_X6 hown hK hP 0 rfl rfl 0 (by decide) (htA _ wd_166) (fun _ h => h) rfl dX6_release_16 ?_
  refine va_get (ci := 0) (v := .ref nw_) (C := RX0) (T := TX0) (N := 10) hx hb htA in_X0 hown hK hP 6 rfl rfl 5 (by decide) (htA _ wd_96) (fun _ h => h) rfl dX6_release_19 ?_
  refine lv_iload_n hx hb dX6_release_22 rfl (lv_at hl 1 rfl) ?_
  refine va_iald hx hb hK hP 7 0 rfl rfl (rg_in rt_ (by decide) (by decide)) dX6_release_23 ?_
  refine lv_topi (fun v10230_ ev10230_ => ?_)
  refine lv_iload_n hx hb dX6_release_24 rfl (lv_at hl 2 rfl) ?_
  refine lv_iload_n hx hb dX6_release_25 rfl (lv_at hl 3 rfl) ?_
  refine lv_aload_n hx hb dX6_release_26 rfl (lv_at hl 0 rfl) ?_
  refine va_get (ci := 6) (v := .int hour_) (C := RX6) (T := TX6) (N := 8) hx hb htA in_X6 hown hK hP 0 rfl rfl 1 (by decide) (htA _ wd_170) (fun _ h => h) rfl dX6_release_27 ?_
  refine lv_aload_n hx hb dX6_release_30 rfl (lv_at hl 0 rfl) ?_
  refine lv_iload_n hx hb dX6_release_31 rfl (lv_at hl 2 rfl) ?_
  refine kVi (As := [.int c_]) (rest := [.int hour_, .int l_, .int c_, .int v10230_, .int (hour_ - v10130_), .ref nd_]) (wr := [(nl_, .inl (cy 0, 8, .inl (fl_))), (nt_, .inl (cy 0, 8, .inl (ft_))), (nh_, .inl (cy 0, 4, .inl (fh_))), (nw_, .inl (cy 0, 8, .inl (fw_))), (nr_, .inl (cy 0, 32, .inl (fr_))), (nq_, .inl (cy 0, 4, .inl (fq_)))]) hX hE (sf_X6_lying l D cy no_ nd_ hour_ ns_ nc_ nl_ nt_ nh_ fallen_ fs_ fc_ lines_ columns_ levels_ things_ walkers_ nw_ nr_ nq_ .null .null c_ (rg_w rcolumns_ (by decide) (by decide)) (rg_w rlevels_ (by decide) (by decide)) (rg_w rthings_ (by decide) (by decide)) (rg_w rwalkers_ (by decide) (by decide))) (cwVA 1 htA wd_379 wd_376 wd_6 wd_377 wd_378 (by decide +kernel) ⟨by decide, by decide⟩) hP hD hS [0, 1, 2, 6] [3, 4, 5, 7, 8, 9] rfl rfl (by decide +kernel) 0 rfl rfl rfl rfl hl.1 rfl (Nat.le_of_ble_eq_true rfl) dX6_release_32 (by decide) (fun v10320_ W1 H locs hw hP hD hS => ?_)
  refine W.widen (k := 0) (n := 0) (by decide) (by decide) ?_
  obtain ⟨k32_0_, rfl⟩ := hw
  have hP : va_P D vwCl [(nl_, .inl (cy 0, 8, .inl (fl_))), (nt_, .inl (cy 0, 8, .inl (ft_))), (nh_, .inl (cy 0, 4, .inl (fh_))), (nw_, .inl (cy 0, 8, .inl (fw_))), (nr_, .inl (cy 0, 32, .inl (fr_))), (nq_, .inl (cy 0, 4, .inl (fq_))), (no_, .inr (6, [.ref nd_, .int hour_, .ref ns_, .ref nc_, .ref nl_, .ref nt_, .ref nh_, .int fallen_])), (ns_, .inl (cy 0, 8, .inl (fs_))), (nc_, .inl (cy 0, 8, .inl (fc_))), (nd_, .inr (0, [.int lines_, .int columns_, .int levels_, .int things_, .int walkers_, .ref nw_, .ref nr_, .ref nq_, .null, .null]))] H := hP
  have hD := va_ca hP hD
  refine kVi (As := [.int (hour_ - v10130_), .int v10230_, .int c_, .int l_, .int hour_, .int v10320_]) (rest := []) (wr := [(nl_, .inl (cy 0, 8, .inl (fl_))), (nt_, .inl (cy 0, 8, .inl (ft_))), (nh_, .inl (cy 0, 4, .inl (fh_))), (nw_, .inl (cy 0, 8, .inl (fw_))), (nr_, .inl (cy 0, 32, .inl (fr_))), (nq_, .inl (cy 0, 4, .inl (fq_))), (no_, .inr (6, [.ref nd_, .int hour_, .ref ns_, .ref nc_, .ref nl_, .ref nt_, .ref nh_, .int fallen_])), (ns_, .inl (cy 0, 8, .inl (fs_))), (nc_, .inl (cy 0, 8, .inl (fc_)))]) hX hE (sf_X0_hangTime_Nx l D cy nd_ lines_ columns_ levels_ things_ walkers_ nw_ nr_ nq_ .null (hour_ - v10130_) v10230_ c_ l_ hour_ v10320_ (rg_w rcolumns_ (by decide) (by decide)) (rg_w rlevels_ (by decide) (by decide)) (rg_w rthings_ (by decide) (by decide)) (rg_w rwalkers_ (by decide) (by decide))) (cwVA 6 htA wd_402 wd_399 wd_3 wd_400 wd_401 (by decide +kernel) ⟨by decide, by decide⟩) hP hD hS [9] [0, 1, 2, 3, 4, 5, 6, 7, 8] rfl rfl (by decide +kernel) 0 rfl rfl rfl rfl hl.1 rfl (Nat.le_of_ble_eq_true rfl) dX6_release_35 (by decide) (fun v10350_ W1 H locs hw hP hD hS => ?_)
  refine W.widen (k := 0) (n := 0) (by decide) (by decide) ?_
  obtain ⟨k35_0_, rfl⟩ := hw
  have hP : va_P D vwCl [(nl_, .inl (cy 0, 8, .inl (fl_))), (nt_, .inl (cy 0, 8, .inl (ft_))), (nh_, .inl (cy 0, 4, .inl (fh_))), (nw_, .inl (cy 0, 8, .inl (fw_))), (nr_, .inl (cy 0, 32, .inl (fr_))), (nq_, .inl (cy 0, 4, .inl (fq_))), (no_, .inr (6, [.ref nd_, .int hour_, .ref ns_, .ref nc_, .ref nl_, .ref nt_, .ref nh_, .int fallen_])), (ns_, .inl (cy 0, 8, .inl (fs_))), (nc_, .inl (cy 0, 8, .inl (fc_))), (nd_, .inr (0, [.int lines_, .int columns_, .int levels_, .int things_, .int walkers_, .ref nw_, .ref nr_, .ref nq_, .null, .null]))] H := hP
  have hD := va_ca hP hD
  refine lv_istore (lv' := [(4, .int v10350_), (0, .ref no_), (1, .int t_), (2, .int c_), (3, .int l_)]) hx hb dX6_release_38 hl (by decide) rfl (fun ls hl => ?_)
  refine lv_aload_n hx hb dX6_release_40 rfl (lv_at hl 1 rfl) ?_
  refine va_get (ci := 6) (v := .ref ns_) (C := RX6) (T := TX6) (N := 8) hx hb htA in_X6 hown hK hP 6 rfl rfl 2 (by decide) (htA _ wd_174) (fun _ h => h) rfl dX6_release_41 ?_
  refine lv_iload_n hx hb dX6_release_44 rfl (lv_at hl 2 rfl) ?_
  refine lv_iconst (v := 1) hx hb dX6_release_45 (by decide) ?_
  refine va_iast hx hb hK hP hD hS 7 0 rfl rfl (rg_in rt_ (by decide) (by decide)) dX6_release_46 (fun H locs hP hD hS => ?_)
  have hP : va_P D vwCl [(nl_, .inl (cy 0, 8, .inl (fl_))), (nt_, .inl (cy 0, 8, .inl (ft_))), (nh_, .inl (cy 0, 4, .inl (fh_))), (nw_, .inl (cy 0, 8, .inl (fw_))), (nr_, .inl (cy 0, 32, .inl (fr_))), (nq_, .inl (cy 0, 4, .inl (fq_))), (no_, .inr (6, [.ref nd_, .int hour_, .ref ns_, .ref nc_, .ref nl_, .ref nt_, .ref nh_, .int fallen_])), (ns_, .inl (cy 0, 8, .inl (upd fs_ t_.toNatClampNeg 1))), (nc_, .inl (cy 0, 8, .inl (fc_))), (nd_, .inr (0, [.int lines_, .int columns_, .int levels_, .int things_, .int walkers_, .ref nw_, .ref nr_, .ref nq_, .null, .null]))] H := hP
  have hD := va_ca hP hD
  refine lv_aload_n hx hb dX6_release_47 rfl (lv_at hl 1 rfl) ?_
  refine va_get (ci := 6) (v := .ref nc_) (C := RX6) (T := TX6) (N := 8) hx hb htA in_X6 hown hK hP 6 rfl rfl 3 (by decide) (htA _ wd_178) (fun _ h => h) rfl dX6_release_48 ?_
  refine lv_iload_n hx hb dX6_release_51 rfl (lv_at hl 2 rfl) ?_
  refine lv_iload_n hx hb dX6_release_52 rfl (lv_at hl 3 rfl) ?_
  refine va_iast hx hb hK hP hD hS 8 0 rfl rfl (rg_in rt_ (by decide) (by decide)) dX6_release_53 (fun H locs hP hD hS => ?_)
  have hP : va_P D vwCl [(nl_, .inl (cy 0, 8, .inl (fl_))), (nt_, .inl (cy 0, 8, .inl (ft_))), (nh_, .inl (cy 0, 4, .inl (fh_))), (nw_, .inl (cy 0, 8, .inl (fw_))), (nr_, .inl (cy 0, 32, .inl (fr_))), (nq_, .inl (cy 0, 4, .inl (fq_))), (no_, .inr (6, [.ref nd_, .int hour_, .ref ns_, .ref nc_, .ref nl_, .ref nt_, .ref nh_, .int fallen_])), (ns_, .inl (cy 0, 8, .inl (upd fs_ t_.toNatClampNeg 1))), (nc_, .inl (cy 0, 8, .inl (upd fc_ t_.toNatClampNeg c_))), (nd_, .inr (0, [.int lines_, .int columns_, .int levels_, .int things_, .int walkers_, .ref nw_, .ref nr_, .ref nq_, .null, .null]))] H := hP
  have hD := va_ca hP hD
  refine lv_aload_n hx hb dX6_release_54 rfl (lv_at hl 1 rfl) ?_
  refine va_get (ci := 6) (v := .ref nl_) (C := RX6) (T := TX6) (N := 8) hx hb htA in_X6 hown hK hP 6 rfl rfl 4 (by decide) (htA _ wd_181) (fun _ h => h) rfl dX6_release_55 ?_
  refine lv_iload_n hx hb dX6_release_58 rfl (lv_at hl 2 rfl) ?_
  refine lv_iload_n hx hb dX6_release_59 rfl (lv_at hl 4 rfl) ?_
  refine va_iast hx hb hK hP hD hS 0 0 rfl rfl (rg_in rt_ (by decide) (by decide)) dX6_release_60 (fun H locs hP hD hS => ?_)
  have hP : va_P D vwCl [(nl_, .inl (cy 0, 8, .inl (upd fl_ t_.toNatClampNeg l_))), (nt_, .inl (cy 0, 8, .inl (ft_))), (nh_, .inl (cy 0, 4, .inl (fh_))), (nw_, .inl (cy 0, 8, .inl (fw_))), (nr_, .inl (cy 0, 32, .inl (fr_))), (nq_, .inl (cy 0, 4, .inl (fq_))), (no_, .inr (6, [.ref nd_, .int hour_, .ref ns_, .ref nc_, .ref nl_, .ref nt_, .ref nh_, .int fallen_])), (ns_, .inl (cy 0, 8, .inl (upd fs_ t_.toNatClampNeg 1))), (nc_, .inl (cy 0, 8, .inl (upd fc_ t_.toNatClampNeg c_))), (nd_, .inr (0, [.int lines_, .int columns_, .int levels_, .int things_, .int walkers_, .ref nw_, .ref nr_, .ref nq_, .null, .null]))] H := hP
  have hD := va_ca hP hD
  refine lv_aload_n hx hb dX6_release_61 rfl (lv_at hl 1 rfl) ?_
  refine va_get (ci := 6) (v := .ref nt_) (C := RX6) (T := TX6) (N := 8) hx hb htA in_X6 hown hK hP 6 rfl rfl 5 (by decide) (htA _ wd_184) (fun _ h => h) rfl dX6_release_62 ?_
  refine lv_iload_n hx hb dX6_release_65 rfl (lv_at hl 2 rfl) ?_
  refine lv_aload_n hx hb dX6_release_66 rfl (lv_at hl 1 rfl) ?_
  refine va_get (ci := 6) (v := .int hour_) (C := RX6) (T := TX6) (N := 8) hx hb htA in_X6 hown hK hP 6 rfl rfl 1 (by decide) (htA _ wd_170) (fun _ h => h) rfl dX6_release_67 ?_
  refine lv_iload hx hb dX6_release_70 (lv_at hl 0 rfl) ?_
  refine lv_iadd hx hb dX6_release_72 ?_
  refine va_iast hx hb hK hP hD hS 1 0 rfl rfl (rg_in rt_ (by decide) (by decide)) dX6_release_73 (fun H locs hP hD hS => ?_)
  have hP : va_P D vwCl [(nl_, .inl (cy 0, 8, .inl (upd fl_ t_.toNatClampNeg l_))), (nt_, .inl (cy 0, 8, .inl (upd ft_ t_.toNatClampNeg (hour_ + v10350_)))), (nh_, .inl (cy 0, 4, .inl (fh_))), (nw_, .inl (cy 0, 8, .inl (fw_))), (nr_, .inl (cy 0, 32, .inl (fr_))), (nq_, .inl (cy 0, 4, .inl (fq_))), (no_, .inr (6, [.ref nd_, .int hour_, .ref ns_, .ref nc_, .ref nl_, .ref nt_, .ref nh_, .int fallen_])), (ns_, .inl (cy 0, 8, .inl (upd fs_ t_.toNatClampNeg 1))), (nc_, .inl (cy 0, 8, .inl (upd fc_ t_.toNatClampNeg c_))), (nd_, .inr (0, [.int lines_, .int columns_, .int levels_, .int things_, .int walkers_, .ref nw_, .ref nr_, .ref nq_, .null, .null]))] H := hP
  have hD := va_ca hP hD
  refine lv_aload_n hx hb dX6_release_74 rfl (lv_at hl 1 rfl) ?_
  refine lv_iconst (v := 0) hx hb dX6_release_75 (by decide) ?_
  refine va_put (ci := 6) (v := .int 0) (ty := .int) (C := RX6) (T := TX6) (N := 8) hx hb htA in_X6 tyX6 tyX6_ok nmX6 hown hK hP hD hS 6 rfl rfl 7 (by decide) (htA _ wd_189) (fun _ h => h) rfl (by decide +kernel) rfl rfl (Nat.le_of_ble_eq_true rfl) dX6_release_76 (fun H locs hP hD hS => ?_)
  have hP : va_P D vwCl [(nl_, .inl (cy 0, 8, .inl (upd fl_ t_.toNatClampNeg l_))), (nt_, .inl (cy 0, 8, .inl (upd ft_ t_.toNatClampNeg (hour_ + v10350_)))), (nh_, .inl (cy 0, 4, .inl (fh_))), (nw_, .inl (cy 0, 8, .inl (fw_))), (nr_, .inl (cy 0, 32, .inl (fr_))), (nq_, .inl (cy 0, 4, .inl (fq_))), (no_, .inr (6, [.ref nd_, .int hour_, .ref ns_, .ref nc_, .ref nl_, .ref nt_, .ref nh_, .int 0])), (ns_, .inl (cy 0, 8, .inl (upd fs_ t_.toNatClampNeg 1))), (nc_, .inl (cy 0, 8, .inl (upd fc_ t_.toNatClampNeg c_))), (nd_, .inr (0, [.int lines_, .int columns_, .int levels_, .int things_, .int walkers_, .ref nw_, .ref nr_, .ref nq_, .null, .null]))] H := hP
  have hD := va_ca hP hD
  refine lv_iload hx hb dX6_release_79 (lv_at hl 0 rfl) ?_
  refine joinT (D := D) (A := A) (pc := 92) (mL := 5) (τ := Int32 × (Nat → Int32) × (Nat → Int32) × (Nat → Int32)) (WS := fun i => [(nl_, .inl (cy 0, 8, .inl (i.2.1))), (nt_, .inl (cy 0, 8, .inl (upd ft_ t_.toNatClampNeg (hour_ + v10350_)))), (nh_, .inl (cy 0, 4, .inl (i.2.2.1))), (nw_, .inl (cy 0, 8, .inl (fw_))), (nr_, .inl (cy 0, 32, .inl (fr_))), (nq_, .inl (cy 0, 4, .inl (fq_))), (no_, .inr (6, [.ref nd_, .int hour_, .ref ns_, .ref nc_, .ref nl_, .ref nt_, .ref nh_, .int i.1])), (ns_, .inl (cy 0, 8, .inl (i.2.2.2))), (nc_, .inl (cy 0, 8, .inl (upd fc_ t_.toNatClampNeg c_))), (nd_, .inr (0, [.int lines_, .int columns_, .int levels_, .int things_, .int walkers_, .ref nw_, .ref nr_, .ref nq_, .null, .null]))]) (LV := fun i => [(4, .int v10350_), (0, .ref no_), (1, .int t_), (2, .int c_), (3, .int l_)]) (ST := fun i => []) (cells := 0) (slots := 0) (fun i => R_X6_release_NN_j1 v10350_ fl_ t_ l_ fh_ fs_ things_ fc_ c_ levels_ fw_ walkers_ fq_ hour_ fr_ i.1 i.2.1 i.2.2.1 i.2.2.2) (fun i_ H locs ls hI hP hD hS hl => ?_) (fun j92_ => ?_)
  · obtain ⟨v209202_, g209200_, g209201_, g209203_⟩ := i_
    have hI : R_X6_release_NN_j1 v10350_ fl_ t_ l_ fh_ fs_ things_ fc_ c_ levels_ fw_ walkers_ fq_ hour_ fr_ v209202_ g209200_ g209201_ g209203_ := hI
    have hR1_ := hI
    have hP : va_P D vwCl [(nl_, .inl (cy 0, 8, .inl (g209200_))), (nt_, .inl (cy 0, 8, .inl (upd ft_ t_.toNatClampNeg (hour_ + v10350_)))), (nh_, .inl (cy 0, 4, .inl (g209201_))), (nw_, .inl (cy 0, 8, .inl (fw_))), (nr_, .inl (cy 0, 32, .inl (fr_))), (nq_, .inl (cy 0, 4, .inl (fq_))), (no_, .inr (6, [.ref nd_, .int hour_, .ref ns_, .ref nc_, .ref nl_, .ref nt_, .ref nh_, .int v209202_])), (ns_, .inl (cy 0, 8, .inl (g209203_))), (nc_, .inl (cy 0, 8, .inl (upd fc_ t_.toNatClampNeg c_))), (nd_, .inr (0, [.int lines_, .int columns_, .int levels_, .int things_, .int walkers_, .ref nw_, .ref nr_, .ref nq_, .null, .null]))] H := hP
    have hD := va_ca hP hD
    have hl : lv_has ls 5 [(4, .int v10350_), (0, .ref no_), (1, .int t_), (2, .int c_), (3, .int l_)] := hl
    refine lv_iload hx hb dX6_release_92 (lv_at hl 0 rfl) ?_
    have hP : va_P D vwCl [(no_, .inr (6, [.ref nd_, .int hour_, .ref ns_, .ref nc_, .ref nl_, .ref nt_, .ref nh_, .int v209202_])), (ns_, .inl (cy 0, 8, .inl (g209203_))), (nc_, .inl (cy 0, 8, .inl (upd fc_ t_.toNatClampNeg c_))), (nl_, .inl (cy 0, 8, .inl (g209200_))), (nt_, .inl (cy 0, 8, .inl (upd ft_ t_.toNatClampNeg (hour_ + v10350_)))), (nh_, .inl (cy 0, 4, .inl (g209201_))), (nd_, .inr (0, [.int lines_, .int columns_, .int levels_, .int things_, .int walkers_, .ref nw_, .ref nr_, .ref nq_, .null, .null])), (nw_, .inl (cy 0, 8, .inl (fw_))), (nr_, .inl (cy 0, 32, .inl (fr_))), (nq_, .inl (cy 0, 4, .inl (fq_)))] H := hP.sub [6, 7, 8, 0, 1, 2, 9, 3, 4, 5] rfl
    have hD : va_D A [(no_, .inr (6, [.ref nd_, .int hour_, .ref ns_, .ref nc_, .ref nl_, .ref nt_, .ref nh_, .int v209202_])), (ns_, .inl (cy 0, 8, .inl (g209203_))), (nc_, .inl (cy 0, 8, .inl (upd fc_ t_.toNatClampNeg c_))), (nl_, .inl (cy 0, 8, .inl (g209200_))), (nt_, .inl (cy 0, 8, .inl (upd ft_ t_.toNatClampNeg (hour_ + v10350_)))), (nh_, .inl (cy 0, 4, .inl (g209201_))), (nd_, .inr (0, [.int lines_, .int columns_, .int levels_, .int things_, .int walkers_, .ref nw_, .ref nr_, .ref nq_, .null, .null])), (nw_, .inl (cy 0, 8, .inl (fw_))), (nr_, .inl (cy 0, 32, .inl (fr_))), (nq_, .inl (cy 0, 4, .inl (fq_)))] := hD.sub [6, 7, 8, 0, 1, 2, 9, 3, 4, 5] (by decide +kernel) rfl
    exact rI hX hE hP hD hS dX6_release_94 (by decide) (by decide) ⟨v209202_, g209203_, (upd fc_ t_.toNatClampNeg c_), g209200_, (upd ft_ t_.toNatClampNeg (hour_ + v10350_)), g209201_, (Or.inl ⟨v10130_, v10230_, v10320_, v10350_, v209202_, g209200_, g209201_, g209203_, ev10130_, ev10230_, k32_0_, k35_0_, hR1_, rfl, rfl, rfl, rfl, rfl, rfl, rfl⟩), rfl⟩
  refine lv_if_ne (tgt := 92) hx hb dX6_release_81 (by decide) (fun c81_ => ?_) (fun c81_ => ?_)
  · exact j92_ (0, upd fl_ t_.toNatClampNeg l_, fh_, upd fs_ t_.toNatClampNeg 1) _ _ ls (Or.inl ⟨c81_, rfl, rfl, rfl, rfl⟩) hP hD hS (lv_sub hl [0, 1, 2, 3, 4] rfl)
  · have g1_ : rg (0) (0) v10350_ := rg_eq c81_ (rg_lit (by decide) : rg (0) (0) (0 : Int32))
    refine lv_aload_n hx hb dX6_release_84 rfl (lv_at hl 1 rfl) ?_
    refine lv_iload_n hx hb dX6_release_85 rfl (lv_at hl 3 rfl) ?_
    refine lv_iconst (v := 1) hx hb dX6_release_86 (by decide) ?_
    refine lv_iload_n hx hb dX6_release_87 rfl (lv_at hl 2 rfl) ?_
    refine lv_ishl hx hb dX6_release_88 ?_
    refine kVv (As := [.int c_, .int (1 <<< (t_ &&& 31))]) (rest := []) (wr := [(nt_, .inl (cy 0, 8, .inl (upd ft_ t_.toNatClampNeg (hour_ + v10350_))))]) hX hE (sf_X6_drop_xN l D cy no_ nd_ hour_ ns_ nc_ nl_ nt_ nh_ (0 : Int32) (upd fs_ t_.toNatClampNeg 1) (upd fc_ t_.toNatClampNeg c_) (upd fl_ t_.toNatClampNeg l_) fh_ lines_ columns_ levels_ things_ walkers_ nw_ nr_ nq_ .null fw_ fr_ fq_ c_ (1 <<< (t_ &&& 31)) (rg_w rcolumns_ (by decide) (by decide)) (rg_w rlevels_ (by decide) (by decide)) (rg_w rthings_ (by decide) (by decide)) (rg_w rwalkers_ (by decide) (by decide)) rfq_) (cwVA 2 htA wd_431 wd_428 wd_6 wd_430 wp_1 (by decide +kernel) ⟨by decide, by decide⟩) hP hD hS [6, 7, 8, 0, 2, 9, 3, 4, 5] [1] rfl rfl (by decide +kernel) 0 rfl rfl rfl rfl hl.1 rfl (Nat.le_of_ble_eq_true rfl) dX6_release_89 (by decide) (fun W1 H locs hw hP hD hS => ?_)
    refine W.widen (k := 0) (n := 0) (by decide) (by decide) ?_
    obtain ⟨v10891_, g10892_, g10893_, g10894_, k89_0_, rfl⟩ := hw
    have hP : va_P D vwCl [(nt_, .inl (cy 0, 8, .inl (upd ft_ t_.toNatClampNeg (hour_ + v10350_)))), (no_, .inr (6, [.ref nd_, .int hour_, .ref ns_, .ref nc_, .ref nl_, .ref nt_, .ref nh_, .int v10891_])), (ns_, .inl (cy 0, 8, .inl (g10892_))), (nc_, .inl (cy 0, 8, .inl (upd fc_ t_.toNatClampNeg c_))), (nl_, .inl (cy 0, 8, .inl (g10893_))), (nh_, .inl (cy 0, 4, .inl (g10894_))), (nd_, .inr (0, [.int lines_, .int columns_, .int levels_, .int things_, .int walkers_, .ref nw_, .ref nr_, .ref nq_, .null, .null])), (nw_, .inl (cy 0, 8, .inl (fw_))), (nr_, .inl (cy 0, 32, .inl (fr_))), (nq_, .inl (cy 0, 4, .inl (fq_)))] H := hP
    have hD := va_ca hP hD
    have hP : va_P D vwCl [(nl_, .inl (cy 0, 8, .inl (g10893_))), (nt_, .inl (cy 0, 8, .inl (upd ft_ t_.toNatClampNeg (hour_ + v10350_)))), (nh_, .inl (cy 0, 4, .inl (g10894_))), (nw_, .inl (cy 0, 8, .inl (fw_))), (nr_, .inl (cy 0, 32, .inl (fr_))), (nq_, .inl (cy 0, 4, .inl (fq_))), (no_, .inr (6, [.ref nd_, .int hour_, .ref ns_, .ref nc_, .ref nl_, .ref nt_, .ref nh_, .int v10891_])), (ns_, .inl (cy 0, 8, .inl (g10892_))), (nc_, .inl (cy 0, 8, .inl (upd fc_ t_.toNatClampNeg c_))), (nd_, .inr (0, [.int lines_, .int columns_, .int levels_, .int things_, .int walkers_, .ref nw_, .ref nr_, .ref nq_, .null, .null]))] H := hP.sub [4, 0, 5, 7, 8, 9, 1, 2, 3, 6] rfl
    have hD : va_D A [(nl_, .inl (cy 0, 8, .inl (g10893_))), (nt_, .inl (cy 0, 8, .inl (upd ft_ t_.toNatClampNeg (hour_ + v10350_)))), (nh_, .inl (cy 0, 4, .inl (g10894_))), (nw_, .inl (cy 0, 8, .inl (fw_))), (nr_, .inl (cy 0, 32, .inl (fr_))), (nq_, .inl (cy 0, 4, .inl (fq_))), (no_, .inr (6, [.ref nd_, .int hour_, .ref ns_, .ref nc_, .ref nl_, .ref nt_, .ref nh_, .int v10891_])), (ns_, .inl (cy 0, 8, .inl (g10892_))), (nc_, .inl (cy 0, 8, .inl (upd fc_ t_.toNatClampNeg c_))), (nd_, .inr (0, [.int lines_, .int columns_, .int levels_, .int things_, .int walkers_, .ref nw_, .ref nr_, .ref nq_, .null, .null]))] := hD.sub [4, 0, 5, 7, 8, 9, 1, 2, 3, 6] (by decide +kernel) rfl
    exact j92_ (v10891_, g10893_, g10894_, g10892_) _ _ ls (Or.inr (Or.inl ⟨v10891_, g10892_, g10893_, g10894_, c81_, k89_0_, rfl, rfl, rfl, rfl⟩)) hP hD hS (lv_sub hl [0, 1, 2, 3, 4] rfl)
def R_X6_release_NR_j1 (v10350_ : Int32) (fl_ : Nat → Int32) (t_ : Int32) (l_ : Int32) (fh_ : Nat → Int32) (fgF_ : Nat → Int32) (fkF_ : Nat → Int32) (fs_ : Nat → Int32) (things_ : Int32) (fc_ : Nat → Int32) (c_ : Int32) (fw_ : Nat → Int32) (hour_ : Int32) (lenF_ : Nat) (fpF_ : Nat → Int32) (levels_ : Int32) (walkers_ : Int32) (fq_ : Nat → Int32) (fr_ : Nat → Int32) (v209204_ : Int32) (g209200_ : Nat → Int32) (g209201_ : Nat → Int32) (g209202_ : Nat → Int32) (g209203_ : Nat → Int32) (g209205_ : Nat → Int32) : Prop := (¬ v10350_ = (0 : Int32) ∧ v209204_ = (0 : Int32) ∧ g209200_ = upd fl_ t_.toNatClampNeg l_ ∧ g209201_ = fh_ ∧ g209202_ = fgF_ ∧ g209203_ = fkF_ ∧ g209205_ = upd fs_ t_.toNatClampNeg 1) ∨ (∃ (v10891_ : Int32) (g10892_ : Nat → Int32) (g10893_ : Nat → Int32) (g10894_ : Nat → Int32) (g10895_ : Nat → Int32) (g10896_ : Nat → Int32), v10350_ = (0 : Int32) ∧ R_X6_drop_xR_e ((1 <<< (t_ &&& 31))) things_ ((upd fs_ t_.toNatClampNeg 1)) ((upd fc_ t_.toNatClampNeg c_)) c_ ((upd fl_ t_.toNatClampNeg l_)) fw_ hour_ lenF_ fpF_ fgF_ fkF_ levels_ walkers_ fq_ fr_ fh_ ((0 : Int32)) v10891_ g10892_ g10893_ g10894_ g10895_ g10896_ ∧ v209204_ = v10891_ ∧ g209200_ = g10893_ ∧ g209201_ = g10894_ ∧ g209202_ = g10895_ ∧ g209203_ = g10896_ ∧ g209205_ = g10892_) ∨ False
def R_X6_release_NR_e (ft_ : Nat → Int32) (t_ : Int32) (fw_ : Nat → Int32) (things_ : Int32) (fs_ : Nat → Int32) (fc_ : Nat → Int32) (c_ : Int32) (hour_ : Int32) (fl_ : Nat → Int32) (l_ : Int32) (fh_ : Nat → Int32) (fgF_ : Nat → Int32) (fkF_ : Nat → Int32) (lenF_ : Nat) (fpF_ : Nat → Int32) (levels_ : Int32) (walkers_ : Int32) (fq_ : Nat → Int32) (fr_ : Nat → Int32) (x0_ : Int32) (x1_ : Nat → Int32) (x2_ : Nat → Int32) (x3_ : Nat → Int32) (x4_ : Nat → Int32) (x5_ : Nat → Int32) (x6_ : Nat → Int32) (x7_ : Nat → Int32) (r : Int32) : Prop := (∃ (v10130_ : Int32) (v10230_ : Int32) (v10320_ : Int32) (v10350_ : Int32) (v209204_ : Int32) (g209200_ : Nat → Int32) (g209201_ : Nat → Int32) (g209202_ : Nat → Int32) (g209203_ : Nat → Int32) (g209205_ : Nat → Int32), v10130_ = ft_ t_.toNatClampNeg ∧ v10230_ = fw_ t_.toNatClampNeg ∧ R_X6_lying_e things_ fs_ fc_ c_ v10320_ ∧ R_X0_hangTime_Nx_e ((hour_ - v10130_)) v10350_ ∧ R_X6_release_NR_j1 v10350_ fl_ t_ l_ fh_ fgF_ fkF_ fs_ things_ fc_ c_ fw_ hour_ lenF_ fpF_ levels_ walkers_ fq_ fr_ v209204_ g209200_ g209201_ g209202_ g209203_ g209205_ ∧ x0_ = v209204_ ∧ x1_ = g209205_ ∧ x2_ = upd fc_ t_.toNatClampNeg c_ ∧ x3_ = g209200_ ∧ x4_ = upd ft_ t_.toNatClampNeg (hour_ + v10350_) ∧ x5_ = g209201_ ∧ x6_ = g209202_ ∧ x7_ = g209203_ ∧ r = v10350_) ∨ False
set_option maxHeartbeats 4000000 in
set_option maxRecDepth 100000 in
theorem sf_X6_release_NR (l : Launch) (D : va_G) (cy : Nat → ClassId) (no_ : Nat) (nd_ : Nat) (hour_ : Int32) (ns_ : Nat) (nc_ : Nat) (nl_ : Nat) (nt_ : Nat) (nh_ : Nat) (fallen_ : Int32) (fs_ : Nat → Int32) (fc_ : Nat → Int32) (fl_ : Nat → Int32) (ft_ : Nat → Int32) (fh_ : Nat → Int32) (lines_ : Int32) (columns_ : Int32) (levels_ : Int32) (things_ : Int32) (walkers_ : Int32) (nw_ : Nat) (nr_ : Nat) (nq_ : Nat) (nLF_ : Nat) (fw_ : Nat → Int32) (fr_ : Nat → Int32) (fq_ : Nat → Int32) (npF_ : Nat) (ngF_ : Nat) (nkF_ : Nat) (lenF_ : Nat) (fpF_ : Nat → Int32) (fgF_ : Nat → Int32) (fkF_ : Nat → Int32) (t_ : Int32) (c_ : Int32) (l_ : Int32) (hlenF_ : lenF_ ≤ 900) (rcolumns_ : rg (1) (6) columns_) (rlevels_ : rg (1) (9) levels_) (rthings_ : rg (0) (8) things_) (rwalkers_ : rg (0) (4) walkers_) (rt_ : rg (0) (7) t_) (rfq_ : ag (0) (8) 4 fq_) : Ci l yX6_release cX6_release 5 (some .int) { frames := 5, cells := 0, slots := 0, locals := 132 } D cy [.ref no_, .int t_, .int c_, .int l_] [(no_, .inr (6, [.ref nd_, .int hour_, .ref ns_, .ref nc_, .ref nl_, .ref nt_, .ref nh_, .int fallen_])), (ns_, .inl (cy 0, 8, .inl (fs_))), (nc_, .inl (cy 0, 8, .inl (fc_))), (nl_, .inl (cy 0, 8, .inl (fl_))), (nt_, .inl (cy 0, 8, .inl (ft_))), (nh_, .inl (cy 0, 4, .inl (fh_))), (nd_, .inr (0, [.int lines_, .int columns_, .int levels_, .int things_, .int walkers_, .ref nw_, .ref nr_, .ref nq_, .null, .ref nLF_])), (nw_, .inl (cy 0, 8, .inl (fw_))), (nr_, .inl (cy 0, 32, .inl (fr_))), (nq_, .inl (cy 0, 4, .inl (fq_))), (nLF_, .inr (4, [.ref npF_, .ref ngF_, .ref nkF_])), (npF_, .inl (cy 0, lenF_, .inl (fpF_))), (ngF_, .inl (cy 0, 6, .inl (fgF_))), (nkF_, .inl (cy 0, 32, .inl (fkF_)))] (fun r W1 => ∃ (x0_ : Int32) (x1_ : Nat → Int32) (x2_ : Nat → Int32) (x3_ : Nat → Int32) (x4_ : Nat → Int32) (x5_ : Nat → Int32) (x6_ : Nat → Int32) (x7_ : Nat → Int32), R_X6_release_NR_e ft_ t_ fw_ things_ fs_ fc_ c_ hour_ fl_ l_ fh_ fgF_ fkF_ lenF_ fpF_ levels_ walkers_ fq_ fr_ x0_ x1_ x2_ x3_ x4_ x5_ x6_ x7_ r ∧ W1 = [(no_, .inr (6, [.ref nd_, .int hour_, .ref ns_, .ref nc_, .ref nl_, .ref nt_, .ref nh_, .int x0_])), (ns_, .inl (cy 0, 8, .inl (x1_))), (nc_, .inl (cy 0, 8, .inl (x2_))), (nl_, .inl (cy 0, 8, .inl (x3_))), (nt_, .inl (cy 0, 8, .inl (x4_))), (nh_, .inl (cy 0, 4, .inl (x5_))), (nd_, .inr (0, [.int lines_, .int columns_, .int levels_, .int things_, .int walkers_, .ref nw_, .ref nr_, .ref nq_, .null, .ref nLF_])), (nw_, .inl (cy 0, 8, .inl (fw_))), (nr_, .inl (cy 0, 32, .inl (fr_))), (nq_, .inl (cy 0, 4, .inl (fq_))), (nLF_, .inr (4, [.ref npF_, .ref ngF_, .ref nkF_])), (npF_, .inl (cy 0, lenF_, .inl (fpF_))), (ngF_, .inl (cy 0, 6, .inl (x6_))), (nkF_, .inl (cy 0, 32, .inl (x7_)))]) := by
  refine Ci.of (by decide) (Nat.le_of_ble_eq_true rfl) ?_
  intro p e s m below meth c A ls hX hE hP hD hl
  obtain ⟨hx, hb, hr, hml, hown, htA, hlk⟩ := id hX
  have hK := hE.1
  have hS : va_S A s.heap s.heap [] := va_S.rf
  have hl : lv_has ls 5 [(0, .ref no_), (1, .int t_), (2, .int c_), (3, .int l_)] := hl
  refine lv_aload_n hx hb dX6_release_0 rfl (lv_at hl 0 rfl) ?_
  refine va_get (ci := 6) (v := .ref nd_) (C := RX6) (T := TX6) (N := 8) hx hb htA in_X6 hown hK hP 0 rfl rfl 0 (by decide) (htA _ wd_166) (fun _ h => h) rfl dX6_release_1 ?_
  refine lv_aload_n hx hb dX6_release_4 rfl (lv_at hl 0 rfl) ?_
  refine va_get (ci := 6) (v := .int hour_) (C := RX6) (T := TX6) (N := 8) hx hb htA in_X6 hown hK hP 0 rfl rfl 1 (by decide) (htA _ wd_170) (fun _ h => h) rfl dX6_release_5 ?_
  refine lv_aload_n hx hb dX6_release_8 rfl (lv_at hl 0 rfl) ?_
  refine va_get (ci := 6) (v := .ref nt_) (C := RX6) (T := TX6) (N := 8) hx hb htA in_X6 hown hK hP 0 rfl rfl 5 (by decide) (htA _ wd_184) (fun _ h => h) rfl dX6_release_9 ?_
  refine lv_iload_n hx hb dX6_release_12 rfl (lv_at hl 1 rfl) ?_
  refine va_iald hx hb hK hP 4 0 rfl rfl (rg_in rt_ (by decide) (by decide)) dX6_release_13 ?_
  refine lv_topi (fun v10130_ ev10130_ => ?_)
  refine lv_isub hx hb dX6_release_14 ?_
  refine lv_aload_n hx hb dX6_release_15 rfl (lv_at hl 0 rfl) ?_
  refine va_get (ci := 6) (v := .ref nd_) (C := RX6) (T := TX6) (N := 8) hx hb htA in_X6 hown hK hP 0 rfl rfl 0 (by decide) (htA _ wd_166) (fun _ h => h) rfl dX6_release_16 ?_
  refine va_get (ci := 0) (v := .ref nw_) (C := RX0) (T := TX0) (N := 10) hx hb htA in_X0 hown hK hP 6 rfl rfl 5 (by decide) (htA _ wd_96) (fun _ h => h) rfl dX6_release_19 ?_
  refine lv_iload_n hx hb dX6_release_22 rfl (lv_at hl 1 rfl) ?_
  refine va_iald hx hb hK hP 7 0 rfl rfl (rg_in rt_ (by decide) (by decide)) dX6_release_23 ?_
  refine lv_topi (fun v10230_ ev10230_ => ?_)
  refine lv_iload_n hx hb dX6_release_24 rfl (lv_at hl 2 rfl) ?_
  refine lv_iload_n hx hb dX6_release_25 rfl (lv_at hl 3 rfl) ?_
  refine lv_aload_n hx hb dX6_release_26 rfl (lv_at hl 0 rfl) ?_
  refine va_get (ci := 6) (v := .int hour_) (C := RX6) (T := TX6) (N := 8) hx hb htA in_X6 hown hK hP 0 rfl rfl 1 (by decide) (htA _ wd_170) (fun _ h => h) rfl dX6_release_27 ?_
  refine lv_aload_n hx hb dX6_release_30 rfl (lv_at hl 0 rfl) ?_
  refine lv_iload_n hx hb dX6_release_31 rfl (lv_at hl 2 rfl) ?_
  refine kVi (As := [.int c_]) (rest := [.int hour_, .int l_, .int c_, .int v10230_, .int (hour_ - v10130_), .ref nd_]) (wr := [(nl_, .inl (cy 0, 8, .inl (fl_))), (nt_, .inl (cy 0, 8, .inl (ft_))), (nh_, .inl (cy 0, 4, .inl (fh_))), (nw_, .inl (cy 0, 8, .inl (fw_))), (nr_, .inl (cy 0, 32, .inl (fr_))), (nq_, .inl (cy 0, 4, .inl (fq_))), (nLF_, .inr (4, [.ref npF_, .ref ngF_, .ref nkF_])), (npF_, .inl (cy 0, lenF_, .inl (fpF_))), (ngF_, .inl (cy 0, 6, .inl (fgF_))), (nkF_, .inl (cy 0, 32, .inl (fkF_)))]) hX hE (sf_X6_lying l D cy no_ nd_ hour_ ns_ nc_ nl_ nt_ nh_ fallen_ fs_ fc_ lines_ columns_ levels_ things_ walkers_ nw_ nr_ nq_ .null (.ref nLF_) c_ (rg_w rcolumns_ (by decide) (by decide)) (rg_w rlevels_ (by decide) (by decide)) (rg_w rthings_ (by decide) (by decide)) (rg_w rwalkers_ (by decide) (by decide))) (cwVA 1 htA wd_379 wd_376 wd_6 wd_377 wd_378 (by decide +kernel) ⟨by decide, by decide⟩) hP hD hS [0, 1, 2, 6] [3, 4, 5, 7, 8, 9, 10, 11, 12, 13] rfl rfl (by decide +kernel) 0 rfl rfl rfl rfl hl.1 rfl (Nat.le_of_ble_eq_true rfl) dX6_release_32 (by decide) (fun v10320_ W1 H locs hw hP hD hS => ?_)
  refine W.widen (k := 0) (n := 0) (by decide) (by decide) ?_
  obtain ⟨k32_0_, rfl⟩ := hw
  have hP : va_P D vwCl [(nl_, .inl (cy 0, 8, .inl (fl_))), (nt_, .inl (cy 0, 8, .inl (ft_))), (nh_, .inl (cy 0, 4, .inl (fh_))), (nw_, .inl (cy 0, 8, .inl (fw_))), (nr_, .inl (cy 0, 32, .inl (fr_))), (nq_, .inl (cy 0, 4, .inl (fq_))), (nLF_, .inr (4, [.ref npF_, .ref ngF_, .ref nkF_])), (npF_, .inl (cy 0, lenF_, .inl (fpF_))), (ngF_, .inl (cy 0, 6, .inl (fgF_))), (nkF_, .inl (cy 0, 32, .inl (fkF_))), (no_, .inr (6, [.ref nd_, .int hour_, .ref ns_, .ref nc_, .ref nl_, .ref nt_, .ref nh_, .int fallen_])), (ns_, .inl (cy 0, 8, .inl (fs_))), (nc_, .inl (cy 0, 8, .inl (fc_))), (nd_, .inr (0, [.int lines_, .int columns_, .int levels_, .int things_, .int walkers_, .ref nw_, .ref nr_, .ref nq_, .null, .ref nLF_]))] H := hP
  have hD := va_ca hP hD
  refine kVi (As := [.int (hour_ - v10130_), .int v10230_, .int c_, .int l_, .int hour_, .int v10320_]) (rest := []) (wr := [(nl_, .inl (cy 0, 8, .inl (fl_))), (nt_, .inl (cy 0, 8, .inl (ft_))), (nh_, .inl (cy 0, 4, .inl (fh_))), (nw_, .inl (cy 0, 8, .inl (fw_))), (nr_, .inl (cy 0, 32, .inl (fr_))), (nq_, .inl (cy 0, 4, .inl (fq_))), (nLF_, .inr (4, [.ref npF_, .ref ngF_, .ref nkF_])), (npF_, .inl (cy 0, lenF_, .inl (fpF_))), (ngF_, .inl (cy 0, 6, .inl (fgF_))), (nkF_, .inl (cy 0, 32, .inl (fkF_))), (no_, .inr (6, [.ref nd_, .int hour_, .ref ns_, .ref nc_, .ref nl_, .ref nt_, .ref nh_, .int fallen_])), (ns_, .inl (cy 0, 8, .inl (fs_))), (nc_, .inl (cy 0, 8, .inl (fc_)))]) hX hE (sf_X0_hangTime_Nx l D cy nd_ lines_ columns_ levels_ things_ walkers_ nw_ nr_ nq_ (.ref nLF_) (hour_ - v10130_) v10230_ c_ l_ hour_ v10320_ (rg_w rcolumns_ (by decide) (by decide)) (rg_w rlevels_ (by decide) (by decide)) (rg_w rthings_ (by decide) (by decide)) (rg_w rwalkers_ (by decide) (by decide))) (cwVA 6 htA wd_402 wd_399 wd_3 wd_400 wd_401 (by decide +kernel) ⟨by decide, by decide⟩) hP hD hS [13] [0, 1, 2, 3, 4, 5, 6, 7, 8, 9, 10, 11, 12] rfl rfl (by decide +kernel) 0 rfl rfl rfl rfl hl.1 rfl (Nat.le_of_ble_eq_true rfl) dX6_release_35 (by decide) (fun v10350_ W1 H locs hw hP hD hS => ?_)
  refine W.widen (k := 0) (n := 0) (by decide) (by decide) ?_
  obtain ⟨k35_0_, rfl⟩ := hw
  have hP : va_P D vwCl [(nl_, .inl (cy 0, 8, .inl (fl_))), (nt_, .inl (cy 0, 8, .inl (ft_))), (nh_, .inl (cy 0, 4, .inl (fh_))), (nw_, .inl (cy 0, 8, .inl (fw_))), (nr_, .inl (cy 0, 32, .inl (fr_))), (nq_, .inl (cy 0, 4, .inl (fq_))), (nLF_, .inr (4, [.ref npF_, .ref ngF_, .ref nkF_])), (npF_, .inl (cy 0, lenF_, .inl (fpF_))), (ngF_, .inl (cy 0, 6, .inl (fgF_))), (nkF_, .inl (cy 0, 32, .inl (fkF_))), (no_, .inr (6, [.ref nd_, .int hour_, .ref ns_, .ref nc_, .ref nl_, .ref nt_, .ref nh_, .int fallen_])), (ns_, .inl (cy 0, 8, .inl (fs_))), (nc_, .inl (cy 0, 8, .inl (fc_))), (nd_, .inr (0, [.int lines_, .int columns_, .int levels_, .int things_, .int walkers_, .ref nw_, .ref nr_, .ref nq_, .null, .ref nLF_]))] H := hP
  have hD := va_ca hP hD
  refine lv_istore (lv' := [(4, .int v10350_), (0, .ref no_), (1, .int t_), (2, .int c_), (3, .int l_)]) hx hb dX6_release_38 hl (by decide) rfl (fun ls hl => ?_)
  refine lv_aload_n hx hb dX6_release_40 rfl (lv_at hl 1 rfl) ?_
  refine va_get (ci := 6) (v := .ref ns_) (C := RX6) (T := TX6) (N := 8) hx hb htA in_X6 hown hK hP 10 rfl rfl 2 (by decide) (htA _ wd_174) (fun _ h => h) rfl dX6_release_41 ?_
  refine lv_iload_n hx hb dX6_release_44 rfl (lv_at hl 2 rfl) ?_
  refine lv_iconst (v := 1) hx hb dX6_release_45 (by decide) ?_
  refine va_iast hx hb hK hP hD hS 11 0 rfl rfl (rg_in rt_ (by decide) (by decide)) dX6_release_46 (fun H locs hP hD hS => ?_)
  have hP : va_P D vwCl [(nl_, .inl (cy 0, 8, .inl (fl_))), (nt_, .inl (cy 0, 8, .inl (ft_))), (nh_, .inl (cy 0, 4, .inl (fh_))), (nw_, .inl (cy 0, 8, .inl (fw_))), (nr_, .inl (cy 0, 32, .inl (fr_))), (nq_, .inl (cy 0, 4, .inl (fq_))), (nLF_, .inr (4, [.ref npF_, .ref ngF_, .ref nkF_])), (npF_, .inl (cy 0, lenF_, .inl (fpF_))), (ngF_, .inl (cy 0, 6, .inl (fgF_))), (nkF_, .inl (cy 0, 32, .inl (fkF_))), (no_, .inr (6, [.ref nd_, .int hour_, .ref ns_, .ref nc_, .ref nl_, .ref nt_, .ref nh_, .int fallen_])), (ns_, .inl (cy 0, 8, .inl (upd fs_ t_.toNatClampNeg 1))), (nc_, .inl (cy 0, 8, .inl (fc_))), (nd_, .inr (0, [.int lines_, .int columns_, .int levels_, .int things_, .int walkers_, .ref nw_, .ref nr_, .ref nq_, .null, .ref nLF_]))] H := hP
  have hD := va_ca hP hD
  refine lv_aload_n hx hb dX6_release_47 rfl (lv_at hl 1 rfl) ?_
  refine va_get (ci := 6) (v := .ref nc_) (C := RX6) (T := TX6) (N := 8) hx hb htA in_X6 hown hK hP 10 rfl rfl 3 (by decide) (htA _ wd_178) (fun _ h => h) rfl dX6_release_48 ?_
  refine lv_iload_n hx hb dX6_release_51 rfl (lv_at hl 2 rfl) ?_
  refine lv_iload_n hx hb dX6_release_52 rfl (lv_at hl 3 rfl) ?_
  refine va_iast hx hb hK hP hD hS 12 0 rfl rfl (rg_in rt_ (by decide) (by decide)) dX6_release_53 (fun H locs hP hD hS => ?_)
  have hP : va_P D vwCl [(nl_, .inl (cy 0, 8, .inl (fl_))), (nt_, .inl (cy 0, 8, .inl (ft_))), (nh_, .inl (cy 0, 4, .inl (fh_))), (nw_, .inl (cy 0, 8, .inl (fw_))), (nr_, .inl (cy 0, 32, .inl (fr_))), (nq_, .inl (cy 0, 4, .inl (fq_))), (nLF_, .inr (4, [.ref npF_, .ref ngF_, .ref nkF_])), (npF_, .inl (cy 0, lenF_, .inl (fpF_))), (ngF_, .inl (cy 0, 6, .inl (fgF_))), (nkF_, .inl (cy 0, 32, .inl (fkF_))), (no_, .inr (6, [.ref nd_, .int hour_, .ref ns_, .ref nc_, .ref nl_, .ref nt_, .ref nh_, .int fallen_])), (ns_, .inl (cy 0, 8, .inl (upd fs_ t_.toNatClampNeg 1))), (nc_, .inl (cy 0, 8, .inl (upd fc_ t_.toNatClampNeg c_))), (nd_, .inr (0, [.int lines_, .int columns_, .int levels_, .int things_, .int walkers_, .ref nw_, .ref nr_, .ref nq_, .null, .ref nLF_]))] H := hP
  have hD := va_ca hP hD
  refine lv_aload_n hx hb dX6_release_54 rfl (lv_at hl 1 rfl) ?_
  refine va_get (ci := 6) (v := .ref nl_) (C := RX6) (T := TX6) (N := 8) hx hb htA in_X6 hown hK hP 10 rfl rfl 4 (by decide) (htA _ wd_181) (fun _ h => h) rfl dX6_release_55 ?_
  refine lv_iload_n hx hb dX6_release_58 rfl (lv_at hl 2 rfl) ?_
  refine lv_iload_n hx hb dX6_release_59 rfl (lv_at hl 4 rfl) ?_
  refine va_iast hx hb hK hP hD hS 0 0 rfl rfl (rg_in rt_ (by decide) (by decide)) dX6_release_60 (fun H locs hP hD hS => ?_)
  have hP : va_P D vwCl [(nl_, .inl (cy 0, 8, .inl (upd fl_ t_.toNatClampNeg l_))), (nt_, .inl (cy 0, 8, .inl (ft_))), (nh_, .inl (cy 0, 4, .inl (fh_))), (nw_, .inl (cy 0, 8, .inl (fw_))), (nr_, .inl (cy 0, 32, .inl (fr_))), (nq_, .inl (cy 0, 4, .inl (fq_))), (nLF_, .inr (4, [.ref npF_, .ref ngF_, .ref nkF_])), (npF_, .inl (cy 0, lenF_, .inl (fpF_))), (ngF_, .inl (cy 0, 6, .inl (fgF_))), (nkF_, .inl (cy 0, 32, .inl (fkF_))), (no_, .inr (6, [.ref nd_, .int hour_, .ref ns_, .ref nc_, .ref nl_, .ref nt_, .ref nh_, .int fallen_])), (ns_, .inl (cy 0, 8, .inl (upd fs_ t_.toNatClampNeg 1))), (nc_, .inl (cy 0, 8, .inl (upd fc_ t_.toNatClampNeg c_))), (nd_, .inr (0, [.int lines_, .int columns_, .int levels_, .int things_, .int walkers_, .ref nw_, .ref nr_, .ref nq_, .null, .ref nLF_]))] H := hP
  have hD := va_ca hP hD
  refine lv_aload_n hx hb dX6_release_61 rfl (lv_at hl 1 rfl) ?_
  refine va_get (ci := 6) (v := .ref nt_) (C := RX6) (T := TX6) (N := 8) hx hb htA in_X6 hown hK hP 10 rfl rfl 5 (by decide) (htA _ wd_184) (fun _ h => h) rfl dX6_release_62 ?_
  refine lv_iload_n hx hb dX6_release_65 rfl (lv_at hl 2 rfl) ?_
  refine lv_aload_n hx hb dX6_release_66 rfl (lv_at hl 1 rfl) ?_
  refine va_get (ci := 6) (v := .int hour_) (C := RX6) (T := TX6) (N := 8) hx hb htA in_X6 hown hK hP 10 rfl rfl 1 (by decide) (htA _ wd_170) (fun _ h => h) rfl dX6_release_67 ?_
  refine lv_iload hx hb dX6_release_70 (lv_at hl 0 rfl) ?_
  refine lv_iadd hx hb dX6_release_72 ?_
  refine va_iast hx hb hK hP hD hS 1 0 rfl rfl (rg_in rt_ (by decide) (by decide)) dX6_release_73 (fun H locs hP hD hS => ?_)
  have hP : va_P D vwCl [(nl_, .inl (cy 0, 8, .inl (upd fl_ t_.toNatClampNeg l_))), (nt_, .inl (cy 0, 8, .inl (upd ft_ t_.toNatClampNeg (hour_ + v10350_)))), (nh_, .inl (cy 0, 4, .inl (fh_))), (nw_, .inl (cy 0, 8, .inl (fw_))), (nr_, .inl (cy 0, 32, .inl (fr_))), (nq_, .inl (cy 0, 4, .inl (fq_))), (nLF_, .inr (4, [.ref npF_, .ref ngF_, .ref nkF_])), (npF_, .inl (cy 0, lenF_, .inl (fpF_))), (ngF_, .inl (cy 0, 6, .inl (fgF_))), (nkF_, .inl (cy 0, 32, .inl (fkF_))), (no_, .inr (6, [.ref nd_, .int hour_, .ref ns_, .ref nc_, .ref nl_, .ref nt_, .ref nh_, .int fallen_])), (ns_, .inl (cy 0, 8, .inl (upd fs_ t_.toNatClampNeg 1))), (nc_, .inl (cy 0, 8, .inl (upd fc_ t_.toNatClampNeg c_))), (nd_, .inr (0, [.int lines_, .int columns_, .int levels_, .int things_, .int walkers_, .ref nw_, .ref nr_, .ref nq_, .null, .ref nLF_]))] H := hP
  have hD := va_ca hP hD
  refine lv_aload_n hx hb dX6_release_74 rfl (lv_at hl 1 rfl) ?_
  refine lv_iconst (v := 0) hx hb dX6_release_75 (by decide) ?_
  refine va_put (ci := 6) (v := .int 0) (ty := .int) (C := RX6) (T := TX6) (N := 8) hx hb htA in_X6 tyX6 tyX6_ok nmX6 hown hK hP hD hS 10 rfl rfl 7 (by decide) (htA _ wd_189) (fun _ h => h) rfl (by decide +kernel) rfl rfl (Nat.le_of_ble_eq_true rfl) dX6_release_76 (fun H locs hP hD hS => ?_)
  have hP : va_P D vwCl [(nl_, .inl (cy 0, 8, .inl (upd fl_ t_.toNatClampNeg l_))), (nt_, .inl (cy 0, 8, .inl (upd ft_ t_.toNatClampNeg (hour_ + v10350_)))), (nh_, .inl (cy 0, 4, .inl (fh_))), (nw_, .inl (cy 0, 8, .inl (fw_))), (nr_, .inl (cy 0, 32, .inl (fr_))), (nq_, .inl (cy 0, 4, .inl (fq_))), (nLF_, .inr (4, [.ref npF_, .ref ngF_, .ref nkF_])), (npF_, .inl (cy 0, lenF_, .inl (fpF_))), (ngF_, .inl (cy 0, 6, .inl (fgF_))), (nkF_, .inl (cy 0, 32, .inl (fkF_))), (no_, .inr (6, [.ref nd_, .int hour_, .ref ns_, .ref nc_, .ref nl_, .ref nt_, .ref nh_, .int 0])), (ns_, .inl (cy 0, 8, .inl (upd fs_ t_.toNatClampNeg 1))), (nc_, .inl (cy 0, 8, .inl (upd fc_ t_.toNatClampNeg c_))), (nd_, .inr (0, [.int lines_, .int columns_, .int levels_, .int things_, .int walkers_, .ref nw_, .ref nr_, .ref nq_, .null, .ref nLF_]))] H := hP
  have hD := va_ca hP hD
  refine lv_iload hx hb dX6_release_79 (lv_at hl 0 rfl) ?_
  refine joinT (D := D) (A := A) (pc := 92) (mL := 5) (τ := Int32 × (Nat → Int32) × (Nat → Int32) × (Nat → Int32) × (Nat → Int32) × (Nat → Int32)) (WS := fun i => [(nl_, .inl (cy 0, 8, .inl (i.2.1))), (nt_, .inl (cy 0, 8, .inl (upd ft_ t_.toNatClampNeg (hour_ + v10350_)))), (nh_, .inl (cy 0, 4, .inl (i.2.2.1))), (nw_, .inl (cy 0, 8, .inl (fw_))), (nr_, .inl (cy 0, 32, .inl (fr_))), (nq_, .inl (cy 0, 4, .inl (fq_))), (nLF_, .inr (4, [.ref npF_, .ref ngF_, .ref nkF_])), (npF_, .inl (cy 0, lenF_, .inl (fpF_))), (ngF_, .inl (cy 0, 6, .inl (i.2.2.2.1))), (nkF_, .inl (cy 0, 32, .inl (i.2.2.2.2.1))), (no_, .inr (6, [.ref nd_, .int hour_, .ref ns_, .ref nc_, .ref nl_, .ref nt_, .ref nh_, .int i.1])), (ns_, .inl (cy 0, 8, .inl (i.2.2.2.2.2))), (nc_, .inl (cy 0, 8, .inl (upd fc_ t_.toNatClampNeg c_))), (nd_, .inr (0, [.int lines_, .int columns_, .int levels_, .int things_, .int walkers_, .ref nw_, .ref nr_, .ref nq_, .null, .ref nLF_]))]) (LV := fun i => [(4, .int v10350_), (0, .ref no_), (1, .int t_), (2, .int c_), (3, .int l_)]) (ST := fun i => []) (cells := 0) (slots := 0) (fun i => R_X6_release_NR_j1 v10350_ fl_ t_ l_ fh_ fgF_ fkF_ fs_ things_ fc_ c_ fw_ hour_ lenF_ fpF_ levels_ walkers_ fq_ fr_ i.1 i.2.1 i.2.2.1 i.2.2.2.1 i.2.2.2.2.1 i.2.2.2.2.2) (fun i_ H locs ls hI hP hD hS hl => ?_) (fun j92_ => ?_)
  · obtain ⟨v209204_, g209200_, g209201_, g209202_, g209203_, g209205_⟩ := i_
    have hI : R_X6_release_NR_j1 v10350_ fl_ t_ l_ fh_ fgF_ fkF_ fs_ things_ fc_ c_ fw_ hour_ lenF_ fpF_ levels_ walkers_ fq_ fr_ v209204_ g209200_ g209201_ g209202_ g209203_ g209205_ := hI
    have hR1_ := hI
    have hP : va_P D vwCl [(nl_, .inl (cy 0, 8, .inl (g209200_))), (nt_, .inl (cy 0, 8, .inl (upd ft_ t_.toNatClampNeg (hour_ + v10350_)))), (nh_, .inl (cy 0, 4, .inl (g209201_))), (nw_, .inl (cy 0, 8, .inl (fw_))), (nr_, .inl (cy 0, 32, .inl (fr_))), (nq_, .inl (cy 0, 4, .inl (fq_))), (nLF_, .inr (4, [.ref npF_, .ref ngF_, .ref nkF_])), (npF_, .inl (cy 0, lenF_, .inl (fpF_))), (ngF_, .inl (cy 0, 6, .inl (g209202_))), (nkF_, .inl (cy 0, 32, .inl (g209203_))), (no_, .inr (6, [.ref nd_, .int hour_, .ref ns_, .ref nc_, .ref nl_, .ref nt_, .ref nh_, .int v209204_])), (ns_, .inl (cy 0, 8, .inl (g209205_))), (nc_, .inl (cy 0, 8, .inl (upd fc_ t_.toNatClampNeg c_))), (nd_, .inr (0, [.int lines_, .int columns_, .int levels_, .int things_, .int walkers_, .ref nw_, .ref nr_, .ref nq_, .null, .ref nLF_]))] H := hP
    have hD := va_ca hP hD
    have hl : lv_has ls 5 [(4, .int v10350_), (0, .ref no_), (1, .int t_), (2, .int c_), (3, .int l_)] := hl
    refine lv_iload hx hb dX6_release_92 (lv_at hl 0 rfl) ?_
    have hP : va_P D vwCl [(no_, .inr (6, [.ref nd_, .int hour_, .ref ns_, .ref nc_, .ref nl_, .ref nt_, .ref nh_, .int v209204_])), (ns_, .inl (cy 0, 8, .inl (g209205_))), (nc_, .inl (cy 0, 8, .inl (upd fc_ t_.toNatClampNeg c_))), (nl_, .inl (cy 0, 8, .inl (g209200_))), (nt_, .inl (cy 0, 8, .inl (upd ft_ t_.toNatClampNeg (hour_ + v10350_)))), (nh_, .inl (cy 0, 4, .inl (g209201_))), (nd_, .inr (0, [.int lines_, .int columns_, .int levels_, .int things_, .int walkers_, .ref nw_, .ref nr_, .ref nq_, .null, .ref nLF_])), (nw_, .inl (cy 0, 8, .inl (fw_))), (nr_, .inl (cy 0, 32, .inl (fr_))), (nq_, .inl (cy 0, 4, .inl (fq_))), (nLF_, .inr (4, [.ref npF_, .ref ngF_, .ref nkF_])), (npF_, .inl (cy 0, lenF_, .inl (fpF_))), (ngF_, .inl (cy 0, 6, .inl (g209202_))), (nkF_, .inl (cy 0, 32, .inl (g209203_)))] H := hP.sub [10, 11, 12, 0, 1, 2, 13, 3, 4, 5, 6, 7, 8, 9] rfl
    have hD : va_D A [(no_, .inr (6, [.ref nd_, .int hour_, .ref ns_, .ref nc_, .ref nl_, .ref nt_, .ref nh_, .int v209204_])), (ns_, .inl (cy 0, 8, .inl (g209205_))), (nc_, .inl (cy 0, 8, .inl (upd fc_ t_.toNatClampNeg c_))), (nl_, .inl (cy 0, 8, .inl (g209200_))), (nt_, .inl (cy 0, 8, .inl (upd ft_ t_.toNatClampNeg (hour_ + v10350_)))), (nh_, .inl (cy 0, 4, .inl (g209201_))), (nd_, .inr (0, [.int lines_, .int columns_, .int levels_, .int things_, .int walkers_, .ref nw_, .ref nr_, .ref nq_, .null, .ref nLF_])), (nw_, .inl (cy 0, 8, .inl (fw_))), (nr_, .inl (cy 0, 32, .inl (fr_))), (nq_, .inl (cy 0, 4, .inl (fq_))), (nLF_, .inr (4, [.ref npF_, .ref ngF_, .ref nkF_])), (npF_, .inl (cy 0, lenF_, .inl (fpF_))), (ngF_, .inl (cy 0, 6, .inl (g209202_))), (nkF_, .inl (cy 0, 32, .inl (g209203_)))] := hD.sub [10, 11, 12, 0, 1, 2, 13, 3, 4, 5, 6, 7, 8, 9] (by decide +kernel) rfl
    exact rI hX hE hP hD hS dX6_release_94 (by decide) (by decide) ⟨v209204_, g209205_, (upd fc_ t_.toNatClampNeg c_), g209200_, (upd ft_ t_.toNatClampNeg (hour_ + v10350_)), g209201_, g209202_, g209203_, (Or.inl ⟨v10130_, v10230_, v10320_, v10350_, v209204_, g209200_, g209201_, g209202_, g209203_, g209205_, ev10130_, ev10230_, k32_0_, k35_0_, hR1_, rfl, rfl, rfl, rfl, rfl, rfl, rfl, rfl, rfl⟩), rfl⟩
  refine lv_if_ne (tgt := 92) hx hb dX6_release_81 (by decide) (fun c81_ => ?_) (fun c81_ => ?_)
  · exact j92_ (0, upd fl_ t_.toNatClampNeg l_, fh_, fgF_, fkF_, upd fs_ t_.toNatClampNeg 1) _ _ ls (Or.inl ⟨c81_, rfl, rfl, rfl, rfl, rfl, rfl⟩) hP hD hS (lv_sub hl [0, 1, 2, 3, 4] rfl)
  · have g1_ : rg (0) (0) v10350_ := rg_eq c81_ (rg_lit (by decide) : rg (0) (0) (0 : Int32))
    refine lv_aload_n hx hb dX6_release_84 rfl (lv_at hl 1 rfl) ?_
    refine lv_iload_n hx hb dX6_release_85 rfl (lv_at hl 3 rfl) ?_
    refine lv_iconst (v := 1) hx hb dX6_release_86 (by decide) ?_
    refine lv_iload_n hx hb dX6_release_87 rfl (lv_at hl 2 rfl) ?_
    refine lv_ishl hx hb dX6_release_88 ?_
    refine kVv (As := [.int c_, .int (1 <<< (t_ &&& 31))]) (rest := []) (wr := [(nt_, .inl (cy 0, 8, .inl (upd ft_ t_.toNatClampNeg (hour_ + v10350_))))]) hX hE (sf_X6_drop_xR l D cy no_ nd_ hour_ ns_ nc_ nl_ nt_ nh_ (0 : Int32) (upd fs_ t_.toNatClampNeg 1) (upd fc_ t_.toNatClampNeg c_) (upd fl_ t_.toNatClampNeg l_) fh_ lines_ columns_ levels_ things_ walkers_ nw_ nr_ nq_ .null nLF_ fw_ fr_ fq_ npF_ ngF_ nkF_ lenF_ fpF_ fgF_ fkF_ c_ (1 <<< (t_ &&& 31)) hlenF_ (rg_w rcolumns_ (by decide) (by decide)) (rg_w rlevels_ (by decide) (by decide)) (rg_w rthings_ (by decide) (by decide)) (rg_w rwalkers_ (by decide) (by decide)) rfq_) (cwVA 2 htA wd_431 wd_428 wd_6 wd_430 wp_1 (by decide +kernel) ⟨by decide, by decide⟩) hP hD hS [10, 11, 12, 0, 2, 13, 3, 4, 5, 6, 7, 8, 9] [1] rfl rfl (by decide +kernel) 0 rfl rfl rfl rfl hl.1 rfl (Nat.le_of_ble_eq_true rfl) dX6_release_89 (by decide) (fun W1 H locs hw hP hD hS => ?_)
    refine W.widen (k := 0) (n := 0) (by decide) (by decide) ?_
    obtain ⟨v10891_, g10892_, g10893_, g10894_, g10895_, g10896_, k89_0_, rfl⟩ := hw
    have hP : va_P D vwCl [(nt_, .inl (cy 0, 8, .inl (upd ft_ t_.toNatClampNeg (hour_ + v10350_)))), (no_, .inr (6, [.ref nd_, .int hour_, .ref ns_, .ref nc_, .ref nl_, .ref nt_, .ref nh_, .int v10891_])), (ns_, .inl (cy 0, 8, .inl (g10892_))), (nc_, .inl (cy 0, 8, .inl (upd fc_ t_.toNatClampNeg c_))), (nl_, .inl (cy 0, 8, .inl (g10893_))), (nh_, .inl (cy 0, 4, .inl (g10894_))), (nd_, .inr (0, [.int lines_, .int columns_, .int levels_, .int things_, .int walkers_, .ref nw_, .ref nr_, .ref nq_, .null, .ref nLF_])), (nw_, .inl (cy 0, 8, .inl (fw_))), (nr_, .inl (cy 0, 32, .inl (fr_))), (nq_, .inl (cy 0, 4, .inl (fq_))), (nLF_, .inr (4, [.ref npF_, .ref ngF_, .ref nkF_])), (npF_, .inl (cy 0, lenF_, .inl (fpF_))), (ngF_, .inl (cy 0, 6, .inl (g10895_))), (nkF_, .inl (cy 0, 32, .inl (g10896_)))] H := hP
    have hD := va_ca hP hD
    have hP : va_P D vwCl [(nl_, .inl (cy 0, 8, .inl (g10893_))), (nt_, .inl (cy 0, 8, .inl (upd ft_ t_.toNatClampNeg (hour_ + v10350_)))), (nh_, .inl (cy 0, 4, .inl (g10894_))), (nw_, .inl (cy 0, 8, .inl (fw_))), (nr_, .inl (cy 0, 32, .inl (fr_))), (nq_, .inl (cy 0, 4, .inl (fq_))), (nLF_, .inr (4, [.ref npF_, .ref ngF_, .ref nkF_])), (npF_, .inl (cy 0, lenF_, .inl (fpF_))), (ngF_, .inl (cy 0, 6, .inl (g10895_))), (nkF_, .inl (cy 0, 32, .inl (g10896_))), (no_, .inr (6, [.ref nd_, .int hour_, .ref ns_, .ref nc_, .ref nl_, .ref nt_, .ref nh_, .int v10891_])), (ns_, .inl (cy 0, 8, .inl (g10892_))), (nc_, .inl (cy 0, 8, .inl (upd fc_ t_.toNatClampNeg c_))), (nd_, .inr (0, [.int lines_, .int columns_, .int levels_, .int things_, .int walkers_, .ref nw_, .ref nr_, .ref nq_, .null, .ref nLF_]))] H := hP.sub [4, 0, 5, 7, 8, 9, 10, 11, 12, 13, 1, 2, 3, 6] rfl
    have hD : va_D A [(nl_, .inl (cy 0, 8, .inl (g10893_))), (nt_, .inl (cy 0, 8, .inl (upd ft_ t_.toNatClampNeg (hour_ + v10350_)))), (nh_, .inl (cy 0, 4, .inl (g10894_))), (nw_, .inl (cy 0, 8, .inl (fw_))), (nr_, .inl (cy 0, 32, .inl (fr_))), (nq_, .inl (cy 0, 4, .inl (fq_))), (nLF_, .inr (4, [.ref npF_, .ref ngF_, .ref nkF_])), (npF_, .inl (cy 0, lenF_, .inl (fpF_))), (ngF_, .inl (cy 0, 6, .inl (g10895_))), (nkF_, .inl (cy 0, 32, .inl (g10896_))), (no_, .inr (6, [.ref nd_, .int hour_, .ref ns_, .ref nc_, .ref nl_, .ref nt_, .ref nh_, .int v10891_])), (ns_, .inl (cy 0, 8, .inl (g10892_))), (nc_, .inl (cy 0, 8, .inl (upd fc_ t_.toNatClampNeg c_))), (nd_, .inr (0, [.int lines_, .int columns_, .int levels_, .int things_, .int walkers_, .ref nw_, .ref nr_, .ref nq_, .null, .ref nLF_]))] := hD.sub [4, 0, 5, 7, 8, 9, 10, 11, 12, 13, 1, 2, 3, 6] (by decide +kernel) rfl
    exact j92_ (v10891_, g10893_, g10894_, g10895_, g10896_, g10892_) _ _ ls (Or.inr (Or.inl ⟨v10891_, g10892_, g10893_, g10894_, g10895_, g10896_, c81_, k89_0_, rfl, rfl, rfl, rfl, rfl, rfl⟩)) hP hD hS (lv_sub hl [0, 1, 2, 3, 4] rfl)
def R_X6_release_RN_j1 (v10350_ : Int32) (fl_ : Nat → Int32) (t_ : Int32) (l_ : Int32) (fh_ : Nat → Int32) (fs_ : Nat → Int32) (things_ : Int32) (fc_ : Nat → Int32) (c_ : Int32) (levels_ : Int32) (fw_ : Nat → Int32) (walkers_ : Int32) (fq_ : Nat → Int32) (hour_ : Int32) (fr_ : Nat → Int32) (v209202_ : Int32) (g209200_ : Nat → Int32) (g209201_ : Nat → Int32) (g209203_ : Nat → Int32) : Prop := (¬ v10350_ = (0 : Int32) ∧ v209202_ = (0 : Int32) ∧ g209200_ = upd fl_ t_.toNatClampNeg l_ ∧ g209201_ = fh_ ∧ g209203_ = upd fs_ t_.toNatClampNeg 1) ∨ (∃ (v10891_ : Int32) (g10892_ : Nat → Int32) (g10893_ : Nat → Int32) (g10894_ : Nat → Int32), v10350_ = (0 : Int32) ∧ R_X6_drop_xN_e ((1 <<< (t_ &&& 31))) things_ ((upd fs_ t_.toNatClampNeg 1)) ((upd fc_ t_.toNatClampNeg c_)) c_ ((upd fl_ t_.toNatClampNeg l_)) levels_ fw_ walkers_ fq_ hour_ fr_ fh_ ((0 : Int32)) v10891_ g10892_ g10893_ g10894_ ∧ v209202_ = v10891_ ∧ g209200_ = g10893_ ∧ g209201_ = g10894_ ∧ g209203_ = g10892_) ∨ False
def R_X6_release_RN_e (ft_ : Nat → Int32) (t_ : Int32) (fw_ : Nat → Int32) (things_ : Int32) (fs_ : Nat → Int32) (fc_ : Nat → Int32) (c_ : Int32) (hour_ : Int32) (lenH_ : Nat) (fpH_ : Nat → Int32) (fgH_ : Nat → Int32) (l_ : Int32) (fkH_ : Nat → Int32) (fl_ : Nat → Int32) (fh_ : Nat → Int32) (levels_ : Int32) (walkers_ : Int32) (fq_ : Nat → Int32) (fr_ : Nat → Int32) (x0_ : Int32) (x1_ : Nat → Int32) (x2_ : Nat → Int32) (x3_ : Nat → Int32) (x4_ : Nat → Int32) (x5_ : Nat → Int32) (x6_ : Nat → Int32) (x7_ : Nat → Int32) (r : Int32) : Prop := (∃ (v10130_ : Int32) (v10230_ : Int32) (v10320_ : Int32) (g10351_ : Nat → Int32) (g10352_ : Nat → Int32) (v10350_ : Int32) (v209202_ : Int32) (g209200_ : Nat → Int32) (g209201_ : Nat → Int32) (g209203_ : Nat → Int32), v10130_ = ft_ t_.toNatClampNeg ∧ v10230_ = fw_ t_.toNatClampNeg ∧ R_X6_lying_e things_ fs_ fc_ c_ v10320_ ∧ R_X0_hangTime_Rx_e hour_ lenH_ fpH_ fgH_ ((hour_ - v10130_)) v10230_ c_ l_ v10320_ fkH_ g10351_ g10352_ v10350_ ∧ R_X6_release_RN_j1 v10350_ fl_ t_ l_ fh_ fs_ things_ fc_ c_ levels_ fw_ walkers_ fq_ hour_ fr_ v209202_ g209200_ g209201_ g209203_ ∧ x0_ = v209202_ ∧ x1_ = g209203_ ∧ x2_ = upd fc_ t_.toNatClampNeg c_ ∧ x3_ = g209200_ ∧ x4_ = upd ft_ t_.toNatClampNeg (hour_ + v10350_) ∧ x5_ = g209201_ ∧ x6_ = g10351_ ∧ x7_ = g10352_ ∧ r = v10350_) ∨ False
set_option maxHeartbeats 4000000 in
set_option maxRecDepth 100000 in
theorem sf_X6_release_RN (l : Launch) (D : va_G) (cy : Nat → ClassId) (no_ : Nat) (nd_ : Nat) (hour_ : Int32) (ns_ : Nat) (nc_ : Nat) (nl_ : Nat) (nt_ : Nat) (nh_ : Nat) (fallen_ : Int32) (fs_ : Nat → Int32) (fc_ : Nat → Int32) (fl_ : Nat → Int32) (ft_ : Nat → Int32) (fh_ : Nat → Int32) (lines_ : Int32) (columns_ : Int32) (levels_ : Int32) (things_ : Int32) (walkers_ : Int32) (nw_ : Nat) (nr_ : Nat) (nq_ : Nat) (nLH_ : Nat) (fw_ : Nat → Int32) (fr_ : Nat → Int32) (fq_ : Nat → Int32) (npH_ : Nat) (ngH_ : Nat) (nkH_ : Nat) (lenH_ : Nat) (fpH_ : Nat → Int32) (fgH_ : Nat → Int32) (fkH_ : Nat → Int32) (t_ : Int32) (c_ : Int32) (l_ : Int32) (hlenH_ : lenH_ ≤ 900) (rcolumns_ : rg (1) (6) columns_) (rlevels_ : rg (1) (9) levels_) (rthings_ : rg (0) (8) things_) (rwalkers_ : rg (0) (4) walkers_) (rt_ : rg (0) (7) t_) (rfq_ : ag (0) (8) 4 fq_) : Ci l yX6_release cX6_release 5 (some .int) { frames := 3, cells := 0, slots := 0, locals := 82 } D cy [.ref no_, .int t_, .int c_, .int l_] [(no_, .inr (6, [.ref nd_, .int hour_, .ref ns_, .ref nc_, .ref nl_, .ref nt_, .ref nh_, .int fallen_])), (ns_, .inl (cy 0, 8, .inl (fs_))), (nc_, .inl (cy 0, 8, .inl (fc_))), (nl_, .inl (cy 0, 8, .inl (fl_))), (nt_, .inl (cy 0, 8, .inl (ft_))), (nh_, .inl (cy 0, 4, .inl (fh_))), (nd_, .inr (0, [.int lines_, .int columns_, .int levels_, .int things_, .int walkers_, .ref nw_, .ref nr_, .ref nq_, .ref nLH_, .null])), (nw_, .inl (cy 0, 8, .inl (fw_))), (nr_, .inl (cy 0, 32, .inl (fr_))), (nq_, .inl (cy 0, 4, .inl (fq_))), (nLH_, .inr (4, [.ref npH_, .ref ngH_, .ref nkH_])), (npH_, .inl (cy 0, lenH_, .inl (fpH_))), (ngH_, .inl (cy 0, 6, .inl (fgH_))), (nkH_, .inl (cy 0, 32, .inl (fkH_)))] (fun r W1 => ∃ (x0_ : Int32) (x1_ : Nat → Int32) (x2_ : Nat → Int32) (x3_ : Nat → Int32) (x4_ : Nat → Int32) (x5_ : Nat → Int32) (x6_ : Nat → Int32) (x7_ : Nat → Int32), R_X6_release_RN_e ft_ t_ fw_ things_ fs_ fc_ c_ hour_ lenH_ fpH_ fgH_ l_ fkH_ fl_ fh_ levels_ walkers_ fq_ fr_ x0_ x1_ x2_ x3_ x4_ x5_ x6_ x7_ r ∧ W1 = [(no_, .inr (6, [.ref nd_, .int hour_, .ref ns_, .ref nc_, .ref nl_, .ref nt_, .ref nh_, .int x0_])), (ns_, .inl (cy 0, 8, .inl (x1_))), (nc_, .inl (cy 0, 8, .inl (x2_))), (nl_, .inl (cy 0, 8, .inl (x3_))), (nt_, .inl (cy 0, 8, .inl (x4_))), (nh_, .inl (cy 0, 4, .inl (x5_))), (nd_, .inr (0, [.int lines_, .int columns_, .int levels_, .int things_, .int walkers_, .ref nw_, .ref nr_, .ref nq_, .ref nLH_, .null])), (nw_, .inl (cy 0, 8, .inl (fw_))), (nr_, .inl (cy 0, 32, .inl (fr_))), (nq_, .inl (cy 0, 4, .inl (fq_))), (nLH_, .inr (4, [.ref npH_, .ref ngH_, .ref nkH_])), (npH_, .inl (cy 0, lenH_, .inl (fpH_))), (ngH_, .inl (cy 0, 6, .inl (x6_))), (nkH_, .inl (cy 0, 32, .inl (x7_)))] ∧ rg (0) (999) r) := by
  refine Ci.of (by decide) (Nat.le_of_ble_eq_true rfl) ?_
  intro p e s m below meth c A ls hX hE hP hD hl
  obtain ⟨hx, hb, hr, hml, hown, htA, hlk⟩ := id hX
  have hK := hE.1
  have hS : va_S A s.heap s.heap [] := va_S.rf
  have hl : lv_has ls 5 [(0, .ref no_), (1, .int t_), (2, .int c_), (3, .int l_)] := hl
  refine lv_aload_n hx hb dX6_release_0 rfl (lv_at hl 0 rfl) ?_
  refine va_get (ci := 6) (v := .ref nd_) (C := RX6) (T := TX6) (N := 8) hx hb htA in_X6 hown hK hP 0 rfl rfl 0 (by decide) (htA _ wd_166) (fun _ h => h) rfl dX6_release_1 ?_
  refine lv_aload_n hx hb dX6_release_4 rfl (lv_at hl 0 rfl) ?_
  refine va_get (ci := 6) (v := .int hour_) (C := RX6) (T := TX6) (N := 8) hx hb htA in_X6 hown hK hP 0 rfl rfl 1 (by decide) (htA _ wd_170) (fun _ h => h) rfl dX6_release_5 ?_
  refine lv_aload_n hx hb dX6_release_8 rfl (lv_at hl 0 rfl) ?_
  refine va_get (ci := 6) (v := .ref nt_) (C := RX6) (T := TX6) (N := 8) hx hb htA in_X6 hown hK hP 0 rfl rfl 5 (by decide) (htA _ wd_184) (fun _ h => h) rfl dX6_release_9 ?_
  refine lv_iload_n hx hb dX6_release_12 rfl (lv_at hl 1 rfl) ?_
  refine va_iald hx hb hK hP 4 0 rfl rfl (rg_in rt_ (by decide) (by decide)) dX6_release_13 ?_
  refine lv_topi (fun v10130_ ev10130_ => ?_)
  refine lv_isub hx hb dX6_release_14 ?_
  refine lv_aload_n hx hb dX6_release_15 rfl (lv_at hl 0 rfl) ?_
  refine va_get (ci := 6) (v := .ref nd_) (C := RX6) (T := TX6) (N := 8) hx hb htA in_X6 hown hK hP 0 rfl rfl 0 (by decide) (htA _ wd_166) (fun _ h => h) rfl dX6_release_16 ?_
  refine va_get (ci := 0) (v := .ref nw_) (C := RX0) (T := TX0) (N := 10) hx hb htA in_X0 hown hK hP 6 rfl rfl 5 (by decide) (htA _ wd_96) (fun _ h => h) rfl dX6_release_19 ?_
  refine lv_iload_n hx hb dX6_release_22 rfl (lv_at hl 1 rfl) ?_
  refine va_iald hx hb hK hP 7 0 rfl rfl (rg_in rt_ (by decide) (by decide)) dX6_release_23 ?_
  refine lv_topi (fun v10230_ ev10230_ => ?_)
  refine lv_iload_n hx hb dX6_release_24 rfl (lv_at hl 2 rfl) ?_
  refine lv_iload_n hx hb dX6_release_25 rfl (lv_at hl 3 rfl) ?_
  refine lv_aload_n hx hb dX6_release_26 rfl (lv_at hl 0 rfl) ?_
  refine va_get (ci := 6) (v := .int hour_) (C := RX6) (T := TX6) (N := 8) hx hb htA in_X6 hown hK hP 0 rfl rfl 1 (by decide) (htA _ wd_170) (fun _ h => h) rfl dX6_release_27 ?_
  refine lv_aload_n hx hb dX6_release_30 rfl (lv_at hl 0 rfl) ?_
  refine lv_iload_n hx hb dX6_release_31 rfl (lv_at hl 2 rfl) ?_
  refine kVi (As := [.int c_]) (rest := [.int hour_, .int l_, .int c_, .int v10230_, .int (hour_ - v10130_), .ref nd_]) (wr := [(nl_, .inl (cy 0, 8, .inl (fl_))), (nt_, .inl (cy 0, 8, .inl (ft_))), (nh_, .inl (cy 0, 4, .inl (fh_))), (nw_, .inl (cy 0, 8, .inl (fw_))), (nr_, .inl (cy 0, 32, .inl (fr_))), (nq_, .inl (cy 0, 4, .inl (fq_))), (nLH_, .inr (4, [.ref npH_, .ref ngH_, .ref nkH_])), (npH_, .inl (cy 0, lenH_, .inl (fpH_))), (ngH_, .inl (cy 0, 6, .inl (fgH_))), (nkH_, .inl (cy 0, 32, .inl (fkH_)))]) hX hE (sf_X6_lying l D cy no_ nd_ hour_ ns_ nc_ nl_ nt_ nh_ fallen_ fs_ fc_ lines_ columns_ levels_ things_ walkers_ nw_ nr_ nq_ (.ref nLH_) .null c_ (rg_w rcolumns_ (by decide) (by decide)) (rg_w rlevels_ (by decide) (by decide)) (rg_w rthings_ (by decide) (by decide)) (rg_w rwalkers_ (by decide) (by decide))) (cwVA 1 htA wd_379 wd_376 wd_6 wd_377 wd_378 (by decide +kernel) ⟨by decide, by decide⟩) hP hD hS [0, 1, 2, 6] [3, 4, 5, 7, 8, 9, 10, 11, 12, 13] rfl rfl (by decide +kernel) 0 rfl rfl rfl rfl hl.1 rfl (Nat.le_of_ble_eq_true rfl) dX6_release_32 (by decide) (fun v10320_ W1 H locs hw hP hD hS => ?_)
  refine W.widen (k := 0) (n := 0) (by decide) (by decide) ?_
  obtain ⟨k32_0_, rfl⟩ := hw
  have hP : va_P D vwCl [(nl_, .inl (cy 0, 8, .inl (fl_))), (nt_, .inl (cy 0, 8, .inl (ft_))), (nh_, .inl (cy 0, 4, .inl (fh_))), (nw_, .inl (cy 0, 8, .inl (fw_))), (nr_, .inl (cy 0, 32, .inl (fr_))), (nq_, .inl (cy 0, 4, .inl (fq_))), (nLH_, .inr (4, [.ref npH_, .ref ngH_, .ref nkH_])), (npH_, .inl (cy 0, lenH_, .inl (fpH_))), (ngH_, .inl (cy 0, 6, .inl (fgH_))), (nkH_, .inl (cy 0, 32, .inl (fkH_))), (no_, .inr (6, [.ref nd_, .int hour_, .ref ns_, .ref nc_, .ref nl_, .ref nt_, .ref nh_, .int fallen_])), (ns_, .inl (cy 0, 8, .inl (fs_))), (nc_, .inl (cy 0, 8, .inl (fc_))), (nd_, .inr (0, [.int lines_, .int columns_, .int levels_, .int things_, .int walkers_, .ref nw_, .ref nr_, .ref nq_, .ref nLH_, .null]))] H := hP
  have hD := va_ca hP hD
  refine kVi (As := [.int (hour_ - v10130_), .int v10230_, .int c_, .int l_, .int hour_, .int v10320_]) (rest := []) (wr := [(nl_, .inl (cy 0, 8, .inl (fl_))), (nt_, .inl (cy 0, 8, .inl (ft_))), (nh_, .inl (cy 0, 4, .inl (fh_))), (nw_, .inl (cy 0, 8, .inl (fw_))), (nr_, .inl (cy 0, 32, .inl (fr_))), (nq_, .inl (cy 0, 4, .inl (fq_))), (no_, .inr (6, [.ref nd_, .int hour_, .ref ns_, .ref nc_, .ref nl_, .ref nt_, .ref nh_, .int fallen_])), (ns_, .inl (cy 0, 8, .inl (fs_))), (nc_, .inl (cy 0, 8, .inl (fc_)))]) hX hE (sf_X0_hangTime_Rx l D cy nd_ lines_ columns_ levels_ things_ walkers_ nw_ nr_ nq_ nLH_ .null npH_ ngH_ nkH_ lenH_ fpH_ fgH_ fkH_ (hour_ - v10130_) v10230_ c_ l_ hour_ v10320_ hlenH_ (rg_w rcolumns_ (by decide) (by decide)) (rg_w rlevels_ (by decide) (by decide)) (rg_w rthings_ (by decide) (by decide)) (rg_w rwalkers_ (by decide) (by decide))) (cwVA 6 htA wd_402 wd_399 wd_3 wd_400 wd_401 (by decide +kernel) ⟨by decide, by decide⟩) hP hD hS [13, 6, 7, 8, 9] [0, 1, 2, 3, 4, 5, 10, 11, 12] rfl rfl (by decide +kernel) 0 rfl rfl rfl rfl hl.1 rfl (Nat.le_of_ble_eq_true rfl) dX6_release_35 (by decide) (fun v10350_ W1 H locs hw hP hD hS => ?_)
  refine W.widen (k := 0) (n := 0) (by decide) (by decide) ?_
  obtain ⟨g10351_, g10352_, k35_0_, rfl, kr35_⟩ := hw
  have hP : va_P D vwCl [(nl_, .inl (cy 0, 8, .inl (fl_))), (nt_, .inl (cy 0, 8, .inl (ft_))), (nh_, .inl (cy 0, 4, .inl (fh_))), (nw_, .inl (cy 0, 8, .inl (fw_))), (nr_, .inl (cy 0, 32, .inl (fr_))), (nq_, .inl (cy 0, 4, .inl (fq_))), (no_, .inr (6, [.ref nd_, .int hour_, .ref ns_, .ref nc_, .ref nl_, .ref nt_, .ref nh_, .int fallen_])), (ns_, .inl (cy 0, 8, .inl (fs_))), (nc_, .inl (cy 0, 8, .inl (fc_))), (nd_, .inr (0, [.int lines_, .int columns_, .int levels_, .int things_, .int walkers_, .ref nw_, .ref nr_, .ref nq_, .ref nLH_, .null])), (nLH_, .inr (4, [.ref npH_, .ref ngH_, .ref nkH_])), (npH_, .inl (cy 0, lenH_, .inl (fpH_))), (ngH_, .inl (cy 0, 6, .inl (g10351_))), (nkH_, .inl (cy 0, 32, .inl (g10352_)))] H := hP
  have hD := va_ca hP hD
  refine lv_istore (lv' := [(4, .int v10350_), (0, .ref no_), (1, .int t_), (2, .int c_), (3, .int l_)]) hx hb dX6_release_38 hl (by decide) rfl (fun ls hl => ?_)
  refine lv_aload_n hx hb dX6_release_40 rfl (lv_at hl 1 rfl) ?_
  refine va_get (ci := 6) (v := .ref ns_) (C := RX6) (T := TX6) (N := 8) hx hb htA in_X6 hown hK hP 6 rfl rfl 2 (by decide) (htA _ wd_174) (fun _ h => h) rfl dX6_release_41 ?_
  refine lv_iload_n hx hb dX6_release_44 rfl (lv_at hl 2 rfl) ?_
  refine lv_iconst (v := 1) hx hb dX6_release_45 (by decide) ?_
  refine va_iast hx hb hK hP hD hS 7 0 rfl rfl (rg_in rt_ (by decide) (by decide)) dX6_release_46 (fun H locs hP hD hS => ?_)
  have hP : va_P D vwCl [(nl_, .inl (cy 0, 8, .inl (fl_))), (nt_, .inl (cy 0, 8, .inl (ft_))), (nh_, .inl (cy 0, 4, .inl (fh_))), (nw_, .inl (cy 0, 8, .inl (fw_))), (nr_, .inl (cy 0, 32, .inl (fr_))), (nq_, .inl (cy 0, 4, .inl (fq_))), (no_, .inr (6, [.ref nd_, .int hour_, .ref ns_, .ref nc_, .ref nl_, .ref nt_, .ref nh_, .int fallen_])), (ns_, .inl (cy 0, 8, .inl (upd fs_ t_.toNatClampNeg 1))), (nc_, .inl (cy 0, 8, .inl (fc_))), (nd_, .inr (0, [.int lines_, .int columns_, .int levels_, .int things_, .int walkers_, .ref nw_, .ref nr_, .ref nq_, .ref nLH_, .null])), (nLH_, .inr (4, [.ref npH_, .ref ngH_, .ref nkH_])), (npH_, .inl (cy 0, lenH_, .inl (fpH_))), (ngH_, .inl (cy 0, 6, .inl (g10351_))), (nkH_, .inl (cy 0, 32, .inl (g10352_)))] H := hP
  have hD := va_ca hP hD
  refine lv_aload_n hx hb dX6_release_47 rfl (lv_at hl 1 rfl) ?_
  refine va_get (ci := 6) (v := .ref nc_) (C := RX6) (T := TX6) (N := 8) hx hb htA in_X6 hown hK hP 6 rfl rfl 3 (by decide) (htA _ wd_178) (fun _ h => h) rfl dX6_release_48 ?_
  refine lv_iload_n hx hb dX6_release_51 rfl (lv_at hl 2 rfl) ?_
  refine lv_iload_n hx hb dX6_release_52 rfl (lv_at hl 3 rfl) ?_
  refine va_iast hx hb hK hP hD hS 8 0 rfl rfl (rg_in rt_ (by decide) (by decide)) dX6_release_53 (fun H locs hP hD hS => ?_)
  have hP : va_P D vwCl [(nl_, .inl (cy 0, 8, .inl (fl_))), (nt_, .inl (cy 0, 8, .inl (ft_))), (nh_, .inl (cy 0, 4, .inl (fh_))), (nw_, .inl (cy 0, 8, .inl (fw_))), (nr_, .inl (cy 0, 32, .inl (fr_))), (nq_, .inl (cy 0, 4, .inl (fq_))), (no_, .inr (6, [.ref nd_, .int hour_, .ref ns_, .ref nc_, .ref nl_, .ref nt_, .ref nh_, .int fallen_])), (ns_, .inl (cy 0, 8, .inl (upd fs_ t_.toNatClampNeg 1))), (nc_, .inl (cy 0, 8, .inl (upd fc_ t_.toNatClampNeg c_))), (nd_, .inr (0, [.int lines_, .int columns_, .int levels_, .int things_, .int walkers_, .ref nw_, .ref nr_, .ref nq_, .ref nLH_, .null])), (nLH_, .inr (4, [.ref npH_, .ref ngH_, .ref nkH_])), (npH_, .inl (cy 0, lenH_, .inl (fpH_))), (ngH_, .inl (cy 0, 6, .inl (g10351_))), (nkH_, .inl (cy 0, 32, .inl (g10352_)))] H := hP
  have hD := va_ca hP hD
  refine lv_aload_n hx hb dX6_release_54 rfl (lv_at hl 1 rfl) ?_
  refine va_get (ci := 6) (v := .ref nl_) (C := RX6) (T := TX6) (N := 8) hx hb htA in_X6 hown hK hP 6 rfl rfl 4 (by decide) (htA _ wd_181) (fun _ h => h) rfl dX6_release_55 ?_
  refine lv_iload_n hx hb dX6_release_58 rfl (lv_at hl 2 rfl) ?_
  refine lv_iload_n hx hb dX6_release_59 rfl (lv_at hl 4 rfl) ?_
  refine va_iast hx hb hK hP hD hS 0 0 rfl rfl (rg_in rt_ (by decide) (by decide)) dX6_release_60 (fun H locs hP hD hS => ?_)
  have hP : va_P D vwCl [(nl_, .inl (cy 0, 8, .inl (upd fl_ t_.toNatClampNeg l_))), (nt_, .inl (cy 0, 8, .inl (ft_))), (nh_, .inl (cy 0, 4, .inl (fh_))), (nw_, .inl (cy 0, 8, .inl (fw_))), (nr_, .inl (cy 0, 32, .inl (fr_))), (nq_, .inl (cy 0, 4, .inl (fq_))), (no_, .inr (6, [.ref nd_, .int hour_, .ref ns_, .ref nc_, .ref nl_, .ref nt_, .ref nh_, .int fallen_])), (ns_, .inl (cy 0, 8, .inl (upd fs_ t_.toNatClampNeg 1))), (nc_, .inl (cy 0, 8, .inl (upd fc_ t_.toNatClampNeg c_))), (nd_, .inr (0, [.int lines_, .int columns_, .int levels_, .int things_, .int walkers_, .ref nw_, .ref nr_, .ref nq_, .ref nLH_, .null])), (nLH_, .inr (4, [.ref npH_, .ref ngH_, .ref nkH_])), (npH_, .inl (cy 0, lenH_, .inl (fpH_))), (ngH_, .inl (cy 0, 6, .inl (g10351_))), (nkH_, .inl (cy 0, 32, .inl (g10352_)))] H := hP
  have hD := va_ca hP hD
  refine lv_aload_n hx hb dX6_release_61 rfl (lv_at hl 1 rfl) ?_
  refine va_get (ci := 6) (v := .ref nt_) (C := RX6) (T := TX6) (N := 8) hx hb htA in_X6 hown hK hP 6 rfl rfl 5 (by decide) (htA _ wd_184) (fun _ h => h) rfl dX6_release_62 ?_
  refine lv_iload_n hx hb dX6_release_65 rfl (lv_at hl 2 rfl) ?_
  refine lv_aload_n hx hb dX6_release_66 rfl (lv_at hl 1 rfl) ?_
  refine va_get (ci := 6) (v := .int hour_) (C := RX6) (T := TX6) (N := 8) hx hb htA in_X6 hown hK hP 6 rfl rfl 1 (by decide) (htA _ wd_170) (fun _ h => h) rfl dX6_release_67 ?_
  refine lv_iload hx hb dX6_release_70 (lv_at hl 0 rfl) ?_
  refine lv_iadd hx hb dX6_release_72 ?_
  refine va_iast hx hb hK hP hD hS 1 0 rfl rfl (rg_in rt_ (by decide) (by decide)) dX6_release_73 (fun H locs hP hD hS => ?_)
  have hP : va_P D vwCl [(nl_, .inl (cy 0, 8, .inl (upd fl_ t_.toNatClampNeg l_))), (nt_, .inl (cy 0, 8, .inl (upd ft_ t_.toNatClampNeg (hour_ + v10350_)))), (nh_, .inl (cy 0, 4, .inl (fh_))), (nw_, .inl (cy 0, 8, .inl (fw_))), (nr_, .inl (cy 0, 32, .inl (fr_))), (nq_, .inl (cy 0, 4, .inl (fq_))), (no_, .inr (6, [.ref nd_, .int hour_, .ref ns_, .ref nc_, .ref nl_, .ref nt_, .ref nh_, .int fallen_])), (ns_, .inl (cy 0, 8, .inl (upd fs_ t_.toNatClampNeg 1))), (nc_, .inl (cy 0, 8, .inl (upd fc_ t_.toNatClampNeg c_))), (nd_, .inr (0, [.int lines_, .int columns_, .int levels_, .int things_, .int walkers_, .ref nw_, .ref nr_, .ref nq_, .ref nLH_, .null])), (nLH_, .inr (4, [.ref npH_, .ref ngH_, .ref nkH_])), (npH_, .inl (cy 0, lenH_, .inl (fpH_))), (ngH_, .inl (cy 0, 6, .inl (g10351_))), (nkH_, .inl (cy 0, 32, .inl (g10352_)))] H := hP
  have hD := va_ca hP hD
  refine lv_aload_n hx hb dX6_release_74 rfl (lv_at hl 1 rfl) ?_
  refine lv_iconst (v := 0) hx hb dX6_release_75 (by decide) ?_
  refine va_put (ci := 6) (v := .int 0) (ty := .int) (C := RX6) (T := TX6) (N := 8) hx hb htA in_X6 tyX6 tyX6_ok nmX6 hown hK hP hD hS 6 rfl rfl 7 (by decide) (htA _ wd_189) (fun _ h => h) rfl (by decide +kernel) rfl rfl (Nat.le_of_ble_eq_true rfl) dX6_release_76 (fun H locs hP hD hS => ?_)
  have hP : va_P D vwCl [(nl_, .inl (cy 0, 8, .inl (upd fl_ t_.toNatClampNeg l_))), (nt_, .inl (cy 0, 8, .inl (upd ft_ t_.toNatClampNeg (hour_ + v10350_)))), (nh_, .inl (cy 0, 4, .inl (fh_))), (nw_, .inl (cy 0, 8, .inl (fw_))), (nr_, .inl (cy 0, 32, .inl (fr_))), (nq_, .inl (cy 0, 4, .inl (fq_))), (no_, .inr (6, [.ref nd_, .int hour_, .ref ns_, .ref nc_, .ref nl_, .ref nt_, .ref nh_, .int 0])), (ns_, .inl (cy 0, 8, .inl (upd fs_ t_.toNatClampNeg 1))), (nc_, .inl (cy 0, 8, .inl (upd fc_ t_.toNatClampNeg c_))), (nd_, .inr (0, [.int lines_, .int columns_, .int levels_, .int things_, .int walkers_, .ref nw_, .ref nr_, .ref nq_, .ref nLH_, .null])), (nLH_, .inr (4, [.ref npH_, .ref ngH_, .ref nkH_])), (npH_, .inl (cy 0, lenH_, .inl (fpH_))), (ngH_, .inl (cy 0, 6, .inl (g10351_))), (nkH_, .inl (cy 0, 32, .inl (g10352_)))] H := hP
  have hD := va_ca hP hD
  refine lv_iload hx hb dX6_release_79 (lv_at hl 0 rfl) ?_
  refine joinT (D := D) (A := A) (pc := 92) (mL := 5) (τ := Int32 × (Nat → Int32) × (Nat → Int32) × (Nat → Int32)) (WS := fun i => [(nl_, .inl (cy 0, 8, .inl (i.2.1))), (nt_, .inl (cy 0, 8, .inl (upd ft_ t_.toNatClampNeg (hour_ + v10350_)))), (nh_, .inl (cy 0, 4, .inl (i.2.2.1))), (nw_, .inl (cy 0, 8, .inl (fw_))), (nr_, .inl (cy 0, 32, .inl (fr_))), (nq_, .inl (cy 0, 4, .inl (fq_))), (no_, .inr (6, [.ref nd_, .int hour_, .ref ns_, .ref nc_, .ref nl_, .ref nt_, .ref nh_, .int i.1])), (ns_, .inl (cy 0, 8, .inl (i.2.2.2))), (nc_, .inl (cy 0, 8, .inl (upd fc_ t_.toNatClampNeg c_))), (nd_, .inr (0, [.int lines_, .int columns_, .int levels_, .int things_, .int walkers_, .ref nw_, .ref nr_, .ref nq_, .ref nLH_, .null])), (nLH_, .inr (4, [.ref npH_, .ref ngH_, .ref nkH_])), (npH_, .inl (cy 0, lenH_, .inl (fpH_))), (ngH_, .inl (cy 0, 6, .inl (g10351_))), (nkH_, .inl (cy 0, 32, .inl (g10352_)))]) (LV := fun i => [(4, .int v10350_), (0, .ref no_), (1, .int t_), (2, .int c_), (3, .int l_)]) (ST := fun i => []) (cells := 0) (slots := 0) (fun i => R_X6_release_RN_j1 v10350_ fl_ t_ l_ fh_ fs_ things_ fc_ c_ levels_ fw_ walkers_ fq_ hour_ fr_ i.1 i.2.1 i.2.2.1 i.2.2.2) (fun i_ H locs ls hI hP hD hS hl => ?_) (fun j92_ => ?_)
  · obtain ⟨v209202_, g209200_, g209201_, g209203_⟩ := i_
    have hI : R_X6_release_RN_j1 v10350_ fl_ t_ l_ fh_ fs_ things_ fc_ c_ levels_ fw_ walkers_ fq_ hour_ fr_ v209202_ g209200_ g209201_ g209203_ := hI
    have hR1_ := hI
    have hP : va_P D vwCl [(nl_, .inl (cy 0, 8, .inl (g209200_))), (nt_, .inl (cy 0, 8, .inl (upd ft_ t_.toNatClampNeg (hour_ + v10350_)))), (nh_, .inl (cy 0, 4, .inl (g209201_))), (nw_, .inl (cy 0, 8, .inl (fw_))), (nr_, .inl (cy 0, 32, .inl (fr_))), (nq_, .inl (cy 0, 4, .inl (fq_))), (no_, .inr (6, [.ref nd_, .int hour_, .ref ns_, .ref nc_, .ref nl_, .ref nt_, .ref nh_, .int v209202_])), (ns_, .inl (cy 0, 8, .inl (g209203_))), (nc_, .inl (cy 0, 8, .inl (upd fc_ t_.toNatClampNeg c_))), (nd_, .inr (0, [.int lines_, .int columns_, .int levels_, .int things_, .int walkers_, .ref nw_, .ref nr_, .ref nq_, .ref nLH_, .null])), (nLH_, .inr (4, [.ref npH_, .ref ngH_, .ref nkH_])), (npH_, .inl (cy 0, lenH_, .inl (fpH_))), (ngH_, .inl (cy 0, 6, .inl (g10351_))), (nkH_, .inl (cy 0, 32, .inl (g10352_)))] H := hP
    have hD := va_ca hP hD
    have hl : lv_has ls 5 [(4, .int v10350_), (0, .ref no_), (1, .int t_), (2, .int c_), (3, .int l_)] := hl
    refine lv_iload hx hb dX6_release_92 (lv_at hl 0 rfl) ?_
    have hP : va_P D vwCl [(no_, .inr (6, [.ref nd_, .int hour_, .ref ns_, .ref nc_, .ref nl_, .ref nt_, .ref nh_, .int v209202_])), (ns_, .inl (cy 0, 8, .inl (g209203_))), (nc_, .inl (cy 0, 8, .inl (upd fc_ t_.toNatClampNeg c_))), (nl_, .inl (cy 0, 8, .inl (g209200_))), (nt_, .inl (cy 0, 8, .inl (upd ft_ t_.toNatClampNeg (hour_ + v10350_)))), (nh_, .inl (cy 0, 4, .inl (g209201_))), (nd_, .inr (0, [.int lines_, .int columns_, .int levels_, .int things_, .int walkers_, .ref nw_, .ref nr_, .ref nq_, .ref nLH_, .null])), (nw_, .inl (cy 0, 8, .inl (fw_))), (nr_, .inl (cy 0, 32, .inl (fr_))), (nq_, .inl (cy 0, 4, .inl (fq_))), (nLH_, .inr (4, [.ref npH_, .ref ngH_, .ref nkH_])), (npH_, .inl (cy 0, lenH_, .inl (fpH_))), (ngH_, .inl (cy 0, 6, .inl (g10351_))), (nkH_, .inl (cy 0, 32, .inl (g10352_)))] H := hP.sub [6, 7, 8, 0, 1, 2, 9, 3, 4, 5, 10, 11, 12, 13] rfl
    have hD : va_D A [(no_, .inr (6, [.ref nd_, .int hour_, .ref ns_, .ref nc_, .ref nl_, .ref nt_, .ref nh_, .int v209202_])), (ns_, .inl (cy 0, 8, .inl (g209203_))), (nc_, .inl (cy 0, 8, .inl (upd fc_ t_.toNatClampNeg c_))), (nl_, .inl (cy 0, 8, .inl (g209200_))), (nt_, .inl (cy 0, 8, .inl (upd ft_ t_.toNatClampNeg (hour_ + v10350_)))), (nh_, .inl (cy 0, 4, .inl (g209201_))), (nd_, .inr (0, [.int lines_, .int columns_, .int levels_, .int things_, .int walkers_, .ref nw_, .ref nr_, .ref nq_, .ref nLH_, .null])), (nw_, .inl (cy 0, 8, .inl (fw_))), (nr_, .inl (cy 0, 32, .inl (fr_))), (nq_, .inl (cy 0, 4, .inl (fq_))), (nLH_, .inr (4, [.ref npH_, .ref ngH_, .ref nkH_])), (npH_, .inl (cy 0, lenH_, .inl (fpH_))), (ngH_, .inl (cy 0, 6, .inl (g10351_))), (nkH_, .inl (cy 0, 32, .inl (g10352_)))] := hD.sub [6, 7, 8, 0, 1, 2, 9, 3, 4, 5, 10, 11, 12, 13] (by decide +kernel) rfl
    exact rI hX hE hP hD hS dX6_release_94 (by decide) (by decide) ⟨v209202_, g209203_, (upd fc_ t_.toNatClampNeg c_), g209200_, (upd ft_ t_.toNatClampNeg (hour_ + v10350_)), g209201_, g10351_, g10352_, (Or.inl ⟨v10130_, v10230_, v10320_, g10351_, g10352_, v10350_, v209202_, g209200_, g209201_, g209203_, ev10130_, ev10230_, k32_0_, k35_0_, hR1_, rfl, rfl, rfl, rfl, rfl, rfl, rfl, rfl, rfl⟩), rfl, (rg_w kr35_ (by decide) (by decide))⟩
  refine lv_if_ne (tgt := 92) hx hb dX6_release_81 (by decide) (fun c81_ => ?_) (fun c81_ => ?_)
  · have g1_ : rg (1) (999) v10350_ := rg_ne1 c81_ kr35_ (by decide) (by decide)
    exact j92_ (0, upd fl_ t_.toNatClampNeg l_, fh_, upd fs_ t_.toNatClampNeg 1) _ _ ls (Or.inl ⟨c81_, rfl, rfl, rfl, rfl⟩) hP hD hS (lv_sub hl [0, 1, 2, 3, 4] rfl)
  · have g2_ : rg (0) (0) v10350_ := rg_eq c81_ (rg_lit (by decide) : rg (0) (0) (0 : Int32))
    refine lv_aload_n hx hb dX6_release_84 rfl (lv_at hl 1 rfl) ?_
    refine lv_iload_n hx hb dX6_release_85 rfl (lv_at hl 3 rfl) ?_
    refine lv_iconst (v := 1) hx hb dX6_release_86 (by decide) ?_
    refine lv_iload_n hx hb dX6_release_87 rfl (lv_at hl 2 rfl) ?_
    refine lv_ishl hx hb dX6_release_88 ?_
    refine kVv (As := [.int c_, .int (1 <<< (t_ &&& 31))]) (rest := []) (wr := [(nt_, .inl (cy 0, 8, .inl (upd ft_ t_.toNatClampNeg (hour_ + v10350_)))), (nLH_, .inr (4, [.ref npH_, .ref ngH_, .ref nkH_])), (npH_, .inl (cy 0, lenH_, .inl (fpH_))), (ngH_, .inl (cy 0, 6, .inl (g10351_))), (nkH_, .inl (cy 0, 32, .inl (g10352_)))]) hX hE (sf_X6_drop_xN l D cy no_ nd_ hour_ ns_ nc_ nl_ nt_ nh_ (0 : Int32) (upd fs_ t_.toNatClampNeg 1) (upd fc_ t_.toNatClampNeg c_) (upd fl_ t_.toNatClampNeg l_) fh_ lines_ columns_ levels_ things_ walkers_ nw_ nr_ nq_ (.ref nLH_) fw_ fr_ fq_ c_ (1 <<< (t_ &&& 31)) (rg_w rcolumns_ (by decide) (by decide)) (rg_w rlevels_ (by decide) (by decide)) (rg_w rthings_ (by decide) (by decide)) (rg_w rwalkers_ (by decide) (by decide)) rfq_) (cwVA 2 htA wd_431 wd_428 wd_6 wd_430 wp_1 (by decide +kernel) ⟨by decide, by decide⟩) hP hD hS [6, 7, 8, 0, 2, 9, 3, 4, 5] [1, 10, 11, 12, 13] rfl rfl (by decide +kernel) 0 rfl rfl rfl rfl hl.1 rfl (Nat.le_of_ble_eq_true rfl) dX6_release_89 (by decide) (fun W1 H locs hw hP hD hS => ?_)
    refine W.widen (k := 0) (n := 0) (by decide) (by decide) ?_
    obtain ⟨v10891_, g10892_, g10893_, g10894_, k89_0_, rfl⟩ := hw
    have hP : va_P D vwCl [(nt_, .inl (cy 0, 8, .inl (upd ft_ t_.toNatClampNeg (hour_ + v10350_)))), (nLH_, .inr (4, [.ref npH_, .ref ngH_, .ref nkH_])), (npH_, .inl (cy 0, lenH_, .inl (fpH_))), (ngH_, .inl (cy 0, 6, .inl (g10351_))), (nkH_, .inl (cy 0, 32, .inl (g10352_))), (no_, .inr (6, [.ref nd_, .int hour_, .ref ns_, .ref nc_, .ref nl_, .ref nt_, .ref nh_, .int v10891_])), (ns_, .inl (cy 0, 8, .inl (g10892_))), (nc_, .inl (cy 0, 8, .inl (upd fc_ t_.toNatClampNeg c_))), (nl_, .inl (cy 0, 8, .inl (g10893_))), (nh_, .inl (cy 0, 4, .inl (g10894_))), (nd_, .inr (0, [.int lines_, .int columns_, .int levels_, .int things_, .int walkers_, .ref nw_, .ref nr_, .ref nq_, .ref nLH_, .null])), (nw_, .inl (cy 0, 8, .inl (fw_))), (nr_, .inl (cy 0, 32, .inl (fr_))), (nq_, .inl (cy 0, 4, .inl (fq_)))] H := hP
    have hD := va_ca hP hD
    have hP : va_P D vwCl [(nl_, .inl (cy 0, 8, .inl (g10893_))), (nt_, .inl (cy 0, 8, .inl (upd ft_ t_.toNatClampNeg (hour_ + v10350_)))), (nh_, .inl (cy 0, 4, .inl (g10894_))), (nw_, .inl (cy 0, 8, .inl (fw_))), (nr_, .inl (cy 0, 32, .inl (fr_))), (nq_, .inl (cy 0, 4, .inl (fq_))), (no_, .inr (6, [.ref nd_, .int hour_, .ref ns_, .ref nc_, .ref nl_, .ref nt_, .ref nh_, .int v10891_])), (ns_, .inl (cy 0, 8, .inl (g10892_))), (nc_, .inl (cy 0, 8, .inl (upd fc_ t_.toNatClampNeg c_))), (nd_, .inr (0, [.int lines_, .int columns_, .int levels_, .int things_, .int walkers_, .ref nw_, .ref nr_, .ref nq_, .ref nLH_, .null])), (nLH_, .inr (4, [.ref npH_, .ref ngH_, .ref nkH_])), (npH_, .inl (cy 0, lenH_, .inl (fpH_))), (ngH_, .inl (cy 0, 6, .inl (g10351_))), (nkH_, .inl (cy 0, 32, .inl (g10352_)))] H := hP.sub [8, 0, 9, 11, 12, 13, 5, 6, 7, 10, 1, 2, 3, 4] rfl
    have hD : va_D A [(nl_, .inl (cy 0, 8, .inl (g10893_))), (nt_, .inl (cy 0, 8, .inl (upd ft_ t_.toNatClampNeg (hour_ + v10350_)))), (nh_, .inl (cy 0, 4, .inl (g10894_))), (nw_, .inl (cy 0, 8, .inl (fw_))), (nr_, .inl (cy 0, 32, .inl (fr_))), (nq_, .inl (cy 0, 4, .inl (fq_))), (no_, .inr (6, [.ref nd_, .int hour_, .ref ns_, .ref nc_, .ref nl_, .ref nt_, .ref nh_, .int v10891_])), (ns_, .inl (cy 0, 8, .inl (g10892_))), (nc_, .inl (cy 0, 8, .inl (upd fc_ t_.toNatClampNeg c_))), (nd_, .inr (0, [.int lines_, .int columns_, .int levels_, .int things_, .int walkers_, .ref nw_, .ref nr_, .ref nq_, .ref nLH_, .null])), (nLH_, .inr (4, [.ref npH_, .ref ngH_, .ref nkH_])), (npH_, .inl (cy 0, lenH_, .inl (fpH_))), (ngH_, .inl (cy 0, 6, .inl (g10351_))), (nkH_, .inl (cy 0, 32, .inl (g10352_)))] := hD.sub [8, 0, 9, 11, 12, 13, 5, 6, 7, 10, 1, 2, 3, 4] (by decide +kernel) rfl
    exact j92_ (v10891_, g10893_, g10894_, g10892_) _ _ ls (Or.inr (Or.inl ⟨v10891_, g10892_, g10893_, g10894_, c81_, k89_0_, rfl, rfl, rfl, rfl⟩)) hP hD hS (lv_sub hl [0, 1, 2, 3, 4] rfl)
def R_X6_release_RR_j1 (v10350_ : Int32) (fl_ : Nat → Int32) (t_ : Int32) (l_ : Int32) (fh_ : Nat → Int32) (fgF_ : Nat → Int32) (fkF_ : Nat → Int32) (fs_ : Nat → Int32) (things_ : Int32) (fc_ : Nat → Int32) (c_ : Int32) (fw_ : Nat → Int32) (hour_ : Int32) (lenF_ : Nat) (fpF_ : Nat → Int32) (levels_ : Int32) (walkers_ : Int32) (fq_ : Nat → Int32) (fr_ : Nat → Int32) (v209204_ : Int32) (g209200_ : Nat → Int32) (g209201_ : Nat → Int32) (g209202_ : Nat → Int32) (g209203_ : Nat → Int32) (g209205_ : Nat → Int32) : Prop := (¬ v10350_ = (0 : Int32) ∧ v209204_ = (0 : Int32) ∧ g209200_ = upd fl_ t_.toNatClampNeg l_ ∧ g209201_ = fh_ ∧ g209202_ = fgF_ ∧ g209203_ = fkF_ ∧ g209205_ = upd fs_ t_.toNatClampNeg 1) ∨ (∃ (v10891_ : Int32) (g10892_ : Nat → Int32) (g10893_ : Nat → Int32) (g10894_ : Nat → Int32) (g10895_ : Nat → Int32) (g10896_ : Nat → Int32), v10350_ = (0 : Int32) ∧ R_X6_drop_xR_e ((1 <<< (t_ &&& 31))) things_ ((upd fs_ t_.toNatClampNeg 1)) ((upd fc_ t_.toNatClampNeg c_)) c_ ((upd fl_ t_.toNatClampNeg l_)) fw_ hour_ lenF_ fpF_ fgF_ fkF_ levels_ walkers_ fq_ fr_ fh_ ((0 : Int32)) v10891_ g10892_ g10893_ g10894_ g10895_ g10896_ ∧ v209204_ = v10891_ ∧ g209200_ = g10893_ ∧ g209201_ = g10894_ ∧ g209202_ = g10895_ ∧ g209203_ = g10896_ ∧ g209205_ = g10892_) ∨ False
def R_X6_release_RR_e (ft_ : Nat → Int32) (t_ : Int32) (fw_ : Nat → Int32) (things_ : Int32) (fs_ : Nat → Int32) (fc_ : Nat → Int32) (c_ : Int32) (hour_ : Int32) (lenH_ : Nat) (fpH_ : Nat → Int32) (fgH_ : Nat → Int32) (l_ : Int32) (fkH_ : Nat → Int32) (fl_ : Nat → Int32) (fh_ : Nat → Int32) (fgF_ : Nat → Int32) (fkF_ : Nat → Int32) (lenF_ : Nat) (fpF_ : Nat → Int32) (levels_ : Int32) (walkers_ : Int32) (fq_ : Nat → Int32) (fr_ : Nat → Int32) (x0_ : Int32) (x1_ : Nat → Int32) (x2_ : Nat → Int32) (x3_ : Nat → Int32) (x4_ : Nat → Int32) (x5_ : Nat → Int32) (x6_ : Nat → Int32) (x7_ : Nat → Int32) (x8_ : Nat → Int32) (x9_ : Nat → Int32) (r : Int32) : Prop := (∃ (v10130_ : Int32) (v10230_ : Int32) (v10320_ : Int32) (g10351_ : Nat → Int32) (g10352_ : Nat → Int32) (v10350_ : Int32) (v209204_ : Int32) (g209200_ : Nat → Int32) (g209201_ : Nat → Int32) (g209202_ : Nat → Int32) (g209203_ : Nat → Int32) (g209205_ : Nat → Int32), v10130_ = ft_ t_.toNatClampNeg ∧ v10230_ = fw_ t_.toNatClampNeg ∧ R_X6_lying_e things_ fs_ fc_ c_ v10320_ ∧ R_X0_hangTime_Rx_e hour_ lenH_ fpH_ fgH_ ((hour_ - v10130_)) v10230_ c_ l_ v10320_ fkH_ g10351_ g10352_ v10350_ ∧ R_X6_release_RR_j1 v10350_ fl_ t_ l_ fh_ fgF_ fkF_ fs_ things_ fc_ c_ fw_ hour_ lenF_ fpF_ levels_ walkers_ fq_ fr_ v209204_ g209200_ g209201_ g209202_ g209203_ g209205_ ∧ x0_ = v209204_ ∧ x1_ = g209205_ ∧ x2_ = upd fc_ t_.toNatClampNeg c_ ∧ x3_ = g209200_ ∧ x4_ = upd ft_ t_.toNatClampNeg (hour_ + v10350_) ∧ x5_ = g209201_ ∧ x6_ = g10351_ ∧ x7_ = g10352_ ∧ x8_ = g209202_ ∧ x9_ = g209203_ ∧ r = v10350_) ∨ False
set_option maxHeartbeats 4000000 in
set_option maxRecDepth 100000 in
theorem sf_X6_release_RR (l : Launch) (D : va_G) (cy : Nat → ClassId) (no_ : Nat) (nd_ : Nat) (hour_ : Int32) (ns_ : Nat) (nc_ : Nat) (nl_ : Nat) (nt_ : Nat) (nh_ : Nat) (fallen_ : Int32) (fs_ : Nat → Int32) (fc_ : Nat → Int32) (fl_ : Nat → Int32) (ft_ : Nat → Int32) (fh_ : Nat → Int32) (lines_ : Int32) (columns_ : Int32) (levels_ : Int32) (things_ : Int32) (walkers_ : Int32) (nw_ : Nat) (nr_ : Nat) (nq_ : Nat) (nLH_ : Nat) (nLF_ : Nat) (fw_ : Nat → Int32) (fr_ : Nat → Int32) (fq_ : Nat → Int32) (npH_ : Nat) (ngH_ : Nat) (nkH_ : Nat) (lenH_ : Nat) (fpH_ : Nat → Int32) (fgH_ : Nat → Int32) (fkH_ : Nat → Int32) (npF_ : Nat) (ngF_ : Nat) (nkF_ : Nat) (lenF_ : Nat) (fpF_ : Nat → Int32) (fgF_ : Nat → Int32) (fkF_ : Nat → Int32) (t_ : Int32) (c_ : Int32) (l_ : Int32) (hlenH_ : lenH_ ≤ 900) (hlenF_ : lenF_ ≤ 900) (rcolumns_ : rg (1) (6) columns_) (rlevels_ : rg (1) (9) levels_) (rthings_ : rg (0) (8) things_) (rwalkers_ : rg (0) (4) walkers_) (rt_ : rg (0) (7) t_) (rfq_ : ag (0) (8) 4 fq_) : Ci l yX6_release cX6_release 5 (some .int) { frames := 5, cells := 0, slots := 0, locals := 132 } D cy [.ref no_, .int t_, .int c_, .int l_] [(no_, .inr (6, [.ref nd_, .int hour_, .ref ns_, .ref nc_, .ref nl_, .ref nt_, .ref nh_, .int fallen_])), (ns_, .inl (cy 0, 8, .inl (fs_))), (nc_, .inl (cy 0, 8, .inl (fc_))), (nl_, .inl (cy 0, 8, .inl (fl_))), (nt_, .inl (cy 0, 8, .inl (ft_))), (nh_, .inl (cy 0, 4, .inl (fh_))), (nd_, .inr (0, [.int lines_, .int columns_, .int levels_, .int things_, .int walkers_, .ref nw_, .ref nr_, .ref nq_, .ref nLH_, .ref nLF_])), (nw_, .inl (cy 0, 8, .inl (fw_))), (nr_, .inl (cy 0, 32, .inl (fr_))), (nq_, .inl (cy 0, 4, .inl (fq_))), (nLH_, .inr (4, [.ref npH_, .ref ngH_, .ref nkH_])), (npH_, .inl (cy 0, lenH_, .inl (fpH_))), (ngH_, .inl (cy 0, 6, .inl (fgH_))), (nkH_, .inl (cy 0, 32, .inl (fkH_))), (nLF_, .inr (4, [.ref npF_, .ref ngF_, .ref nkF_])), (npF_, .inl (cy 0, lenF_, .inl (fpF_))), (ngF_, .inl (cy 0, 6, .inl (fgF_))), (nkF_, .inl (cy 0, 32, .inl (fkF_)))] (fun r W1 => ∃ (x0_ : Int32) (x1_ : Nat → Int32) (x2_ : Nat → Int32) (x3_ : Nat → Int32) (x4_ : Nat → Int32) (x5_ : Nat → Int32) (x6_ : Nat → Int32) (x7_ : Nat → Int32) (x8_ : Nat → Int32) (x9_ : Nat → Int32), R_X6_release_RR_e ft_ t_ fw_ things_ fs_ fc_ c_ hour_ lenH_ fpH_ fgH_ l_ fkH_ fl_ fh_ fgF_ fkF_ lenF_ fpF_ levels_ walkers_ fq_ fr_ x0_ x1_ x2_ x3_ x4_ x5_ x6_ x7_ x8_ x9_ r ∧ W1 = [(no_, .inr (6, [.ref nd_, .int hour_, .ref ns_, .ref nc_, .ref nl_, .ref nt_, .ref nh_, .int x0_])), (ns_, .inl (cy 0, 8, .inl (x1_))), (nc_, .inl (cy 0, 8, .inl (x2_))), (nl_, .inl (cy 0, 8, .inl (x3_))), (nt_, .inl (cy 0, 8, .inl (x4_))), (nh_, .inl (cy 0, 4, .inl (x5_))), (nd_, .inr (0, [.int lines_, .int columns_, .int levels_, .int things_, .int walkers_, .ref nw_, .ref nr_, .ref nq_, .ref nLH_, .ref nLF_])), (nw_, .inl (cy 0, 8, .inl (fw_))), (nr_, .inl (cy 0, 32, .inl (fr_))), (nq_, .inl (cy 0, 4, .inl (fq_))), (nLH_, .inr (4, [.ref npH_, .ref ngH_, .ref nkH_])), (npH_, .inl (cy 0, lenH_, .inl (fpH_))), (ngH_, .inl (cy 0, 6, .inl (x6_))), (nkH_, .inl (cy 0, 32, .inl (x7_))), (nLF_, .inr (4, [.ref npF_, .ref ngF_, .ref nkF_])), (npF_, .inl (cy 0, lenF_, .inl (fpF_))), (ngF_, .inl (cy 0, 6, .inl (x8_))), (nkF_, .inl (cy 0, 32, .inl (x9_)))] ∧ rg (0) (999) r) := by
  refine Ci.of (by decide) (Nat.le_of_ble_eq_true rfl) ?_
  intro p e s m below meth c A ls hX hE hP hD hl
  obtain ⟨hx, hb, hr, hml, hown, htA, hlk⟩ := id hX
  have hK := hE.1
  have hS : va_S A s.heap s.heap [] := va_S.rf
  have hl : lv_has ls 5 [(0, .ref no_), (1, .int t_), (2, .int c_), (3, .int l_)] := hl
  refine lv_aload_n hx hb dX6_release_0 rfl (lv_at hl 0 rfl) ?_
  refine va_get (ci := 6) (v := .ref nd_) (C := RX6) (T := TX6) (N := 8) hx hb htA in_X6 hown hK hP 0 rfl rfl 0 (by decide) (htA _ wd_166) (fun _ h => h) rfl dX6_release_1 ?_
  refine lv_aload_n hx hb dX6_release_4 rfl (lv_at hl 0 rfl) ?_
  refine va_get (ci := 6) (v := .int hour_) (C := RX6) (T := TX6) (N := 8) hx hb htA in_X6 hown hK hP 0 rfl rfl 1 (by decide) (htA _ wd_170) (fun _ h => h) rfl dX6_release_5 ?_
  refine lv_aload_n hx hb dX6_release_8 rfl (lv_at hl 0 rfl) ?_
  refine va_get (ci := 6) (v := .ref nt_) (C := RX6) (T := TX6) (N := 8) hx hb htA in_X6 hown hK hP 0 rfl rfl 5 (by decide) (htA _ wd_184) (fun _ h => h) rfl dX6_release_9 ?_
  refine lv_iload_n hx hb dX6_release_12 rfl (lv_at hl 1 rfl) ?_
  refine va_iald hx hb hK hP 4 0 rfl rfl (rg_in rt_ (by decide) (by decide)) dX6_release_13 ?_
  refine lv_topi (fun v10130_ ev10130_ => ?_)
  refine lv_isub hx hb dX6_release_14 ?_
  refine lv_aload_n hx hb dX6_release_15 rfl (lv_at hl 0 rfl) ?_
  refine va_get (ci := 6) (v := .ref nd_) (C := RX6) (T := TX6) (N := 8) hx hb htA in_X6 hown hK hP 0 rfl rfl 0 (by decide) (htA _ wd_166) (fun _ h => h) rfl dX6_release_16 ?_
  refine va_get (ci := 0) (v := .ref nw_) (C := RX0) (T := TX0) (N := 10) hx hb htA in_X0 hown hK hP 6 rfl rfl 5 (by decide) (htA _ wd_96) (fun _ h => h) rfl dX6_release_19 ?_
  refine lv_iload_n hx hb dX6_release_22 rfl (lv_at hl 1 rfl) ?_
  refine va_iald hx hb hK hP 7 0 rfl rfl (rg_in rt_ (by decide) (by decide)) dX6_release_23 ?_
  refine lv_topi (fun v10230_ ev10230_ => ?_)
  refine lv_iload_n hx hb dX6_release_24 rfl (lv_at hl 2 rfl) ?_
  refine lv_iload_n hx hb dX6_release_25 rfl (lv_at hl 3 rfl) ?_
  refine lv_aload_n hx hb dX6_release_26 rfl (lv_at hl 0 rfl) ?_
  refine va_get (ci := 6) (v := .int hour_) (C := RX6) (T := TX6) (N := 8) hx hb htA in_X6 hown hK hP 0 rfl rfl 1 (by decide) (htA _ wd_170) (fun _ h => h) rfl dX6_release_27 ?_
  refine lv_aload_n hx hb dX6_release_30 rfl (lv_at hl 0 rfl) ?_
  refine lv_iload_n hx hb dX6_release_31 rfl (lv_at hl 2 rfl) ?_
  refine kVi (As := [.int c_]) (rest := [.int hour_, .int l_, .int c_, .int v10230_, .int (hour_ - v10130_), .ref nd_]) (wr := [(nl_, .inl (cy 0, 8, .inl (fl_))), (nt_, .inl (cy 0, 8, .inl (ft_))), (nh_, .inl (cy 0, 4, .inl (fh_))), (nw_, .inl (cy 0, 8, .inl (fw_))), (nr_, .inl (cy 0, 32, .inl (fr_))), (nq_, .inl (cy 0, 4, .inl (fq_))), (nLH_, .inr (4, [.ref npH_, .ref ngH_, .ref nkH_])), (npH_, .inl (cy 0, lenH_, .inl (fpH_))), (ngH_, .inl (cy 0, 6, .inl (fgH_))), (nkH_, .inl (cy 0, 32, .inl (fkH_))), (nLF_, .inr (4, [.ref npF_, .ref ngF_, .ref nkF_])), (npF_, .inl (cy 0, lenF_, .inl (fpF_))), (ngF_, .inl (cy 0, 6, .inl (fgF_))), (nkF_, .inl (cy 0, 32, .inl (fkF_)))]) hX hE (sf_X6_lying l D cy no_ nd_ hour_ ns_ nc_ nl_ nt_ nh_ fallen_ fs_ fc_ lines_ columns_ levels_ things_ walkers_ nw_ nr_ nq_ (.ref nLH_) (.ref nLF_) c_ (rg_w rcolumns_ (by decide) (by decide)) (rg_w rlevels_ (by decide) (by decide)) (rg_w rthings_ (by decide) (by decide)) (rg_w rwalkers_ (by decide) (by decide))) (cwVA 1 htA wd_379 wd_376 wd_6 wd_377 wd_378 (by decide +kernel) ⟨by decide, by decide⟩) hP hD hS [0, 1, 2, 6] [3, 4, 5, 7, 8, 9, 10, 11, 12, 13, 14, 15, 16, 17] rfl rfl (by decide +kernel) 0 rfl rfl rfl rfl hl.1 rfl (Nat.le_of_ble_eq_true rfl) dX6_release_32 (by decide) (fun v10320_ W1 H locs hw hP hD hS => ?_)
  refine W.widen (k := 0) (n := 0) (by decide) (by decide) ?_
  obtain ⟨k32_0_, rfl⟩ := hw
  have hP : va_P D vwCl [(nl_, .inl (cy 0, 8, .inl (fl_))), (nt_, .inl (cy 0, 8, .inl (ft_))), (nh_, .inl (cy 0, 4, .inl (fh_))), (nw_, .inl (cy 0, 8, .inl (fw_))), (nr_, .inl (cy 0, 32, .inl (fr_))), (nq_, .inl (cy 0, 4, .inl (fq_))), (nLH_, .inr (4, [.ref npH_, .ref ngH_, .ref nkH_])), (npH_, .inl (cy 0, lenH_, .inl (fpH_))), (ngH_, .inl (cy 0, 6, .inl (fgH_))), (nkH_, .inl (cy 0, 32, .inl (fkH_))), (nLF_, .inr (4, [.ref npF_, .ref ngF_, .ref nkF_])), (npF_, .inl (cy 0, lenF_, .inl (fpF_))), (ngF_, .inl (cy 0, 6, .inl (fgF_))), (nkF_, .inl (cy 0, 32, .inl (fkF_))), (no_, .inr (6, [.ref nd_, .int hour_, .ref ns_, .ref nc_, .ref nl_, .ref nt_, .ref nh_, .int fallen_])), (ns_, .inl (cy 0, 8, .inl (fs_))), (nc_, .inl (cy 0, 8, .inl (fc_))), (nd_, .inr (0, [.int lines_, .int columns_, .int levels_, .int things_, .int walkers_, .ref nw_, .ref nr_, .ref nq_, .ref nLH_, .ref nLF_]))] H := hP
  have hD := va_ca hP hD
  refine kVi (As := [.int (hour_ - v10130_), .int v10230_, .int c_, .int l_, .int hour_, .int v10320_]) (rest := []) (wr := [(nl_, .inl (cy 0, 8, .inl (fl_))), (nt_, .inl (cy 0, 8, .inl (ft_))), (nh_, .inl (cy 0, 4, .inl (fh_))), (nw_, .inl (cy 0, 8, .inl (fw_))), (nr_, .inl (cy 0, 32, .inl (fr_))), (nq_, .inl (cy 0, 4, .inl (fq_))), (nLF_, .inr (4, [.ref npF_, .ref ngF_, .ref nkF_])), (npF_, .inl (cy 0, lenF_, .inl (fpF_))), (ngF_, .inl (cy 0, 6, .inl (fgF_))), (nkF_, .inl (cy 0, 32, .inl (fkF_))), (no_, .inr (6, [.ref nd_, .int hour_, .ref ns_, .ref nc_, .ref nl_, .ref nt_, .ref nh_, .int fallen_])), (ns_, .inl (cy 0, 8, .inl (fs_))), (nc_, .inl (cy 0, 8, .inl (fc_)))]) hX hE (sf_X0_hangTime_Rx l D cy nd_ lines_ columns_ levels_ things_ walkers_ nw_ nr_ nq_ nLH_ (.ref nLF_) npH_ ngH_ nkH_ lenH_ fpH_ fgH_ fkH_ (hour_ - v10130_) v10230_ c_ l_ hour_ v10320_ hlenH_ (rg_w rcolumns_ (by decide) (by decide)) (rg_w rlevels_ (by decide) (by decide)) (rg_w rthings_ (by decide) (by decide)) (rg_w rwalkers_ (by decide) (by decide))) (cwVA 6 htA wd_402 wd_399 wd_3 wd_400 wd_401 (by decide +kernel) ⟨by decide, by decide⟩) hP hD hS [17, 6, 7, 8, 9] [0, 1, 2, 3, 4, 5, 10, 11, 12, 13, 14, 15, 16] rfl rfl (by decide +kernel) 0 rfl rfl rfl rfl hl.1 rfl (Nat.le_of_ble_eq_true rfl) dX6_release_35 (by decide) (fun v10350_ W1 H locs hw hP hD hS => ?_)
  refine W.widen (k := 0) (n := 0) (by decide) (by decide) ?_
  obtain ⟨g10351_, g10352_, k35_0_, rfl, kr35_⟩ := hw
  have hP : va_P D vwCl [(nl_, .inl (cy 0, 8, .inl (fl_))), (nt_, .inl (cy 0, 8, .inl (ft_))), (nh_, .inl (cy 0, 4, .inl (fh_))), (nw_, .inl (cy 0, 8, .inl (fw_))), (nr_, .inl (cy 0, 32, .inl (fr_))), (nq_, .inl (cy 0, 4, .inl (fq_))), (nLF_, .inr (4, [.ref npF_, .ref ngF_, .ref nkF_])), (npF_, .inl (cy 0, lenF_, .inl (fpF_))), (ngF_, .inl (cy 0, 6, .inl (fgF_))), (nkF_, .inl (cy 0, 32, .inl (fkF_))), (no_, .inr (6, [.ref nd_, .int hour_, .ref ns_, .ref nc_, .ref nl_, .ref nt_, .ref nh_, .int fallen_])), (ns_, .inl (cy 0, 8, .inl (fs_))), (nc_, .inl (cy 0, 8, .inl (fc_))), (nd_, .inr (0, [.int lines_, .int columns_, .int levels_, .int things_, .int walkers_, .ref nw_, .ref nr_, .ref nq_, .ref nLH_, .ref nLF_])), (nLH_, .inr (4, [.ref npH_, .ref ngH_, .ref nkH_])), (npH_, .inl (cy 0, lenH_, .inl (fpH_))), (ngH_, .inl (cy 0, 6, .inl (g10351_))), (nkH_, .inl (cy 0, 32, .inl (g10352_)))] H := hP
  have hD := va_ca hP hD
  refine lv_istore (lv' := [(4, .int v10350_), (0, .ref no_), (1, .int t_), (2, .int c_), (3, .int l_)]) hx hb dX6_release_38 hl (by decide) rfl (fun ls hl => ?_)
  refine lv_aload_n hx hb dX6_release_40 rfl (lv_at hl 1 rfl) ?_
  refine va_get (ci := 6) (v := .ref ns_) (C := RX6) (T := TX6) (N := 8) hx hb htA in_X6 hown hK hP 10 rfl rfl 2 (by decide) (htA _ wd_174) (fun _ h => h) rfl dX6_release_41 ?_
  refine lv_iload_n hx hb dX6_release_44 rfl (lv_at hl 2 rfl) ?_
  refine lv_iconst (v := 1) hx hb dX6_release_45 (by decide) ?_
  refine va_iast hx hb hK hP hD hS 11 0 rfl rfl (rg_in rt_ (by decide) (by decide)) dX6_release_46 (fun H locs hP hD hS => ?_)
  have hP : va_P D vwCl [(nl_, .inl (cy 0, 8, .inl (fl_))), (nt_, .inl (cy 0, 8, .inl (ft_))), (nh_, .inl (cy 0, 4, .inl (fh_))), (nw_, .inl (cy 0, 8, .inl (fw_))), (nr_, .inl (cy 0, 32, .inl (fr_))), (nq_, .inl (cy 0, 4, .inl (fq_))), (nLF_, .inr (4, [.ref npF_, .ref ngF_, .ref nkF_])), (npF_, .inl (cy 0, lenF_, .inl (fpF_))), (ngF_, .inl (cy 0, 6, .inl (fgF_))), (nkF_, .inl (cy 0, 32, .inl (fkF_))), (no_, .inr (6, [.ref nd_, .int hour_, .ref ns_, .ref nc_, .ref nl_, .ref nt_, .ref nh_, .int fallen_])), (ns_, .inl (cy 0, 8, .inl (upd fs_ t_.toNatClampNeg 1))), (nc_, .inl (cy 0, 8, .inl (fc_))), (nd_, .inr (0, [.int lines_, .int columns_, .int levels_, .int things_, .int walkers_, .ref nw_, .ref nr_, .ref nq_, .ref nLH_, .ref nLF_])), (nLH_, .inr (4, [.ref npH_, .ref ngH_, .ref nkH_])), (npH_, .inl (cy 0, lenH_, .inl (fpH_))), (ngH_, .inl (cy 0, 6, .inl (g10351_))), (nkH_, .inl (cy 0, 32, .inl (g10352_)))] H := hP
  have hD := va_ca hP hD
  refine lv_aload_n hx hb dX6_release_47 rfl (lv_at hl 1 rfl) ?_
  refine va_get (ci := 6) (v := .ref nc_) (C := RX6) (T := TX6) (N := 8) hx hb htA in_X6 hown hK hP 10 rfl rfl 3 (by decide) (htA _ wd_178) (fun _ h => h) rfl dX6_release_48 ?_
  refine lv_iload_n hx hb dX6_release_51 rfl (lv_at hl 2 rfl) ?_
  refine lv_iload_n hx hb dX6_release_52 rfl (lv_at hl 3 rfl) ?_
  refine va_iast hx hb hK hP hD hS 12 0 rfl rfl (rg_in rt_ (by decide) (by decide)) dX6_release_53 (fun H locs hP hD hS => ?_)
  have hP : va_P D vwCl [(nl_, .inl (cy 0, 8, .inl (fl_))), (nt_, .inl (cy 0, 8, .inl (ft_))), (nh_, .inl (cy 0, 4, .inl (fh_))), (nw_, .inl (cy 0, 8, .inl (fw_))), (nr_, .inl (cy 0, 32, .inl (fr_))), (nq_, .inl (cy 0, 4, .inl (fq_))), (nLF_, .inr (4, [.ref npF_, .ref ngF_, .ref nkF_])), (npF_, .inl (cy 0, lenF_, .inl (fpF_))), (ngF_, .inl (cy 0, 6, .inl (fgF_))), (nkF_, .inl (cy 0, 32, .inl (fkF_))), (no_, .inr (6, [.ref nd_, .int hour_, .ref ns_, .ref nc_, .ref nl_, .ref nt_, .ref nh_, .int fallen_])), (ns_, .inl (cy 0, 8, .inl (upd fs_ t_.toNatClampNeg 1))), (nc_, .inl (cy 0, 8, .inl (upd fc_ t_.toNatClampNeg c_))), (nd_, .inr (0, [.int lines_, .int columns_, .int levels_, .int things_, .int walkers_, .ref nw_, .ref nr_, .ref nq_, .ref nLH_, .ref nLF_])), (nLH_, .inr (4, [.ref npH_, .ref ngH_, .ref nkH_])), (npH_, .inl (cy 0, lenH_, .inl (fpH_))), (ngH_, .inl (cy 0, 6, .inl (g10351_))), (nkH_, .inl (cy 0, 32, .inl (g10352_)))] H := hP
  have hD := va_ca hP hD
  refine lv_aload_n hx hb dX6_release_54 rfl (lv_at hl 1 rfl) ?_
  refine va_get (ci := 6) (v := .ref nl_) (C := RX6) (T := TX6) (N := 8) hx hb htA in_X6 hown hK hP 10 rfl rfl 4 (by decide) (htA _ wd_181) (fun _ h => h) rfl dX6_release_55 ?_
  refine lv_iload_n hx hb dX6_release_58 rfl (lv_at hl 2 rfl) ?_
  refine lv_iload_n hx hb dX6_release_59 rfl (lv_at hl 4 rfl) ?_
  refine va_iast hx hb hK hP hD hS 0 0 rfl rfl (rg_in rt_ (by decide) (by decide)) dX6_release_60 (fun H locs hP hD hS => ?_)
  have hP : va_P D vwCl [(nl_, .inl (cy 0, 8, .inl (upd fl_ t_.toNatClampNeg l_))), (nt_, .inl (cy 0, 8, .inl (ft_))), (nh_, .inl (cy 0, 4, .inl (fh_))), (nw_, .inl (cy 0, 8, .inl (fw_))), (nr_, .inl (cy 0, 32, .inl (fr_))), (nq_, .inl (cy 0, 4, .inl (fq_))), (nLF_, .inr (4, [.ref npF_, .ref ngF_, .ref nkF_])), (npF_, .inl (cy 0, lenF_, .inl (fpF_))), (ngF_, .inl (cy 0, 6, .inl (fgF_))), (nkF_, .inl (cy 0, 32, .inl (fkF_))), (no_, .inr (6, [.ref nd_, .int hour_, .ref ns_, .ref nc_, .ref nl_, .ref nt_, .ref nh_, .int fallen_])), (ns_, .inl (cy 0, 8, .inl (upd fs_ t_.toNatClampNeg 1))), (nc_, .inl (cy 0, 8, .inl (upd fc_ t_.toNatClampNeg c_))), (nd_, .inr (0, [.int lines_, .int columns_, .int levels_, .int things_, .int walkers_, .ref nw_, .ref nr_, .ref nq_, .ref nLH_, .ref nLF_])), (nLH_, .inr (4, [.ref npH_, .ref ngH_, .ref nkH_])), (npH_, .inl (cy 0, lenH_, .inl (fpH_))), (ngH_, .inl (cy 0, 6, .inl (g10351_))), (nkH_, .inl (cy 0, 32, .inl (g10352_)))] H := hP
  have hD := va_ca hP hD
  refine lv_aload_n hx hb dX6_release_61 rfl (lv_at hl 1 rfl) ?_
  refine va_get (ci := 6) (v := .ref nt_) (C := RX6) (T := TX6) (N := 8) hx hb htA in_X6 hown hK hP 10 rfl rfl 5 (by decide) (htA _ wd_184) (fun _ h => h) rfl dX6_release_62 ?_
  refine lv_iload_n hx hb dX6_release_65 rfl (lv_at hl 2 rfl) ?_
  refine lv_aload_n hx hb dX6_release_66 rfl (lv_at hl 1 rfl) ?_
  refine va_get (ci := 6) (v := .int hour_) (C := RX6) (T := TX6) (N := 8) hx hb htA in_X6 hown hK hP 10 rfl rfl 1 (by decide) (htA _ wd_170) (fun _ h => h) rfl dX6_release_67 ?_
  refine lv_iload hx hb dX6_release_70 (lv_at hl 0 rfl) ?_
  refine lv_iadd hx hb dX6_release_72 ?_
  refine va_iast hx hb hK hP hD hS 1 0 rfl rfl (rg_in rt_ (by decide) (by decide)) dX6_release_73 (fun H locs hP hD hS => ?_)
  have hP : va_P D vwCl [(nl_, .inl (cy 0, 8, .inl (upd fl_ t_.toNatClampNeg l_))), (nt_, .inl (cy 0, 8, .inl (upd ft_ t_.toNatClampNeg (hour_ + v10350_)))), (nh_, .inl (cy 0, 4, .inl (fh_))), (nw_, .inl (cy 0, 8, .inl (fw_))), (nr_, .inl (cy 0, 32, .inl (fr_))), (nq_, .inl (cy 0, 4, .inl (fq_))), (nLF_, .inr (4, [.ref npF_, .ref ngF_, .ref nkF_])), (npF_, .inl (cy 0, lenF_, .inl (fpF_))), (ngF_, .inl (cy 0, 6, .inl (fgF_))), (nkF_, .inl (cy 0, 32, .inl (fkF_))), (no_, .inr (6, [.ref nd_, .int hour_, .ref ns_, .ref nc_, .ref nl_, .ref nt_, .ref nh_, .int fallen_])), (ns_, .inl (cy 0, 8, .inl (upd fs_ t_.toNatClampNeg 1))), (nc_, .inl (cy 0, 8, .inl (upd fc_ t_.toNatClampNeg c_))), (nd_, .inr (0, [.int lines_, .int columns_, .int levels_, .int things_, .int walkers_, .ref nw_, .ref nr_, .ref nq_, .ref nLH_, .ref nLF_])), (nLH_, .inr (4, [.ref npH_, .ref ngH_, .ref nkH_])), (npH_, .inl (cy 0, lenH_, .inl (fpH_))), (ngH_, .inl (cy 0, 6, .inl (g10351_))), (nkH_, .inl (cy 0, 32, .inl (g10352_)))] H := hP
  have hD := va_ca hP hD
  refine lv_aload_n hx hb dX6_release_74 rfl (lv_at hl 1 rfl) ?_
  refine lv_iconst (v := 0) hx hb dX6_release_75 (by decide) ?_
  refine va_put (ci := 6) (v := .int 0) (ty := .int) (C := RX6) (T := TX6) (N := 8) hx hb htA in_X6 tyX6 tyX6_ok nmX6 hown hK hP hD hS 10 rfl rfl 7 (by decide) (htA _ wd_189) (fun _ h => h) rfl (by decide +kernel) rfl rfl (Nat.le_of_ble_eq_true rfl) dX6_release_76 (fun H locs hP hD hS => ?_)
  have hP : va_P D vwCl [(nl_, .inl (cy 0, 8, .inl (upd fl_ t_.toNatClampNeg l_))), (nt_, .inl (cy 0, 8, .inl (upd ft_ t_.toNatClampNeg (hour_ + v10350_)))), (nh_, .inl (cy 0, 4, .inl (fh_))), (nw_, .inl (cy 0, 8, .inl (fw_))), (nr_, .inl (cy 0, 32, .inl (fr_))), (nq_, .inl (cy 0, 4, .inl (fq_))), (nLF_, .inr (4, [.ref npF_, .ref ngF_, .ref nkF_])), (npF_, .inl (cy 0, lenF_, .inl (fpF_))), (ngF_, .inl (cy 0, 6, .inl (fgF_))), (nkF_, .inl (cy 0, 32, .inl (fkF_))), (no_, .inr (6, [.ref nd_, .int hour_, .ref ns_, .ref nc_, .ref nl_, .ref nt_, .ref nh_, .int 0])), (ns_, .inl (cy 0, 8, .inl (upd fs_ t_.toNatClampNeg 1))), (nc_, .inl (cy 0, 8, .inl (upd fc_ t_.toNatClampNeg c_))), (nd_, .inr (0, [.int lines_, .int columns_, .int levels_, .int things_, .int walkers_, .ref nw_, .ref nr_, .ref nq_, .ref nLH_, .ref nLF_])), (nLH_, .inr (4, [.ref npH_, .ref ngH_, .ref nkH_])), (npH_, .inl (cy 0, lenH_, .inl (fpH_))), (ngH_, .inl (cy 0, 6, .inl (g10351_))), (nkH_, .inl (cy 0, 32, .inl (g10352_)))] H := hP
  have hD := va_ca hP hD
  refine lv_iload hx hb dX6_release_79 (lv_at hl 0 rfl) ?_
  refine joinT (D := D) (A := A) (pc := 92) (mL := 5) (τ := Int32 × (Nat → Int32) × (Nat → Int32) × (Nat → Int32) × (Nat → Int32) × (Nat → Int32)) (WS := fun i => [(nl_, .inl (cy 0, 8, .inl (i.2.1))), (nt_, .inl (cy 0, 8, .inl (upd ft_ t_.toNatClampNeg (hour_ + v10350_)))), (nh_, .inl (cy 0, 4, .inl (i.2.2.1))), (nw_, .inl (cy 0, 8, .inl (fw_))), (nr_, .inl (cy 0, 32, .inl (fr_))), (nq_, .inl (cy 0, 4, .inl (fq_))), (nLF_, .inr (4, [.ref npF_, .ref ngF_, .ref nkF_])), (npF_, .inl (cy 0, lenF_, .inl (fpF_))), (ngF_, .inl (cy 0, 6, .inl (i.2.2.2.1))), (nkF_, .inl (cy 0, 32, .inl (i.2.2.2.2.1))), (no_, .inr (6, [.ref nd_, .int hour_, .ref ns_, .ref nc_, .ref nl_, .ref nt_, .ref nh_, .int i.1])), (ns_, .inl (cy 0, 8, .inl (i.2.2.2.2.2))), (nc_, .inl (cy 0, 8, .inl (upd fc_ t_.toNatClampNeg c_))), (nd_, .inr (0, [.int lines_, .int columns_, .int levels_, .int things_, .int walkers_, .ref nw_, .ref nr_, .ref nq_, .ref nLH_, .ref nLF_])), (nLH_, .inr (4, [.ref npH_, .ref ngH_, .ref nkH_])), (npH_, .inl (cy 0, lenH_, .inl (fpH_))), (ngH_, .inl (cy 0, 6, .inl (g10351_))), (nkH_, .inl (cy 0, 32, .inl (g10352_)))]) (LV := fun i => [(4, .int v10350_), (0, .ref no_), (1, .int t_), (2, .int c_), (3, .int l_)]) (ST := fun i => []) (cells := 0) (slots := 0) (fun i => R_X6_release_RR_j1 v10350_ fl_ t_ l_ fh_ fgF_ fkF_ fs_ things_ fc_ c_ fw_ hour_ lenF_ fpF_ levels_ walkers_ fq_ fr_ i.1 i.2.1 i.2.2.1 i.2.2.2.1 i.2.2.2.2.1 i.2.2.2.2.2) (fun i_ H locs ls hI hP hD hS hl => ?_) (fun j92_ => ?_)
  · obtain ⟨v209204_, g209200_, g209201_, g209202_, g209203_, g209205_⟩ := i_
    have hI : R_X6_release_RR_j1 v10350_ fl_ t_ l_ fh_ fgF_ fkF_ fs_ things_ fc_ c_ fw_ hour_ lenF_ fpF_ levels_ walkers_ fq_ fr_ v209204_ g209200_ g209201_ g209202_ g209203_ g209205_ := hI
    have hR1_ := hI
    have hP : va_P D vwCl [(nl_, .inl (cy 0, 8, .inl (g209200_))), (nt_, .inl (cy 0, 8, .inl (upd ft_ t_.toNatClampNeg (hour_ + v10350_)))), (nh_, .inl (cy 0, 4, .inl (g209201_))), (nw_, .inl (cy 0, 8, .inl (fw_))), (nr_, .inl (cy 0, 32, .inl (fr_))), (nq_, .inl (cy 0, 4, .inl (fq_))), (nLF_, .inr (4, [.ref npF_, .ref ngF_, .ref nkF_])), (npF_, .inl (cy 0, lenF_, .inl (fpF_))), (ngF_, .inl (cy 0, 6, .inl (g209202_))), (nkF_, .inl (cy 0, 32, .inl (g209203_))), (no_, .inr (6, [.ref nd_, .int hour_, .ref ns_, .ref nc_, .ref nl_, .ref nt_, .ref nh_, .int v209204_])), (ns_, .inl (cy 0, 8, .inl (g209205_))), (nc_, .inl (cy 0, 8, .inl (upd fc_ t_.toNatClampNeg c_))), (nd_, .inr (0, [.int lines_, .int columns_, .int levels_, .int things_, .int walkers_, .ref nw_, .ref nr_, .ref nq_, .ref nLH_, .ref nLF_])), (nLH_, .inr (4, [.ref npH_, .ref ngH_, .ref nkH_])), (npH_, .inl (cy 0, lenH_, .inl (fpH_))), (ngH_, .inl (cy 0, 6, .inl (g10351_))), (nkH_, .inl (cy 0, 32, .inl (g10352_)))] H := hP
    have hD := va_ca hP hD
    have hl : lv_has ls 5 [(4, .int v10350_), (0, .ref no_), (1, .int t_), (2, .int c_), (3, .int l_)] := hl
    refine lv_iload hx hb dX6_release_92 (lv_at hl 0 rfl) ?_
    have hP : va_P D vwCl [(no_, .inr (6, [.ref nd_, .int hour_, .ref ns_, .ref nc_, .ref nl_, .ref nt_, .ref nh_, .int v209204_])), (ns_, .inl (cy 0, 8, .inl (g209205_))), (nc_, .inl (cy 0, 8, .inl (upd fc_ t_.toNatClampNeg c_))), (nl_, .inl (cy 0, 8, .inl (g209200_))), (nt_, .inl (cy 0, 8, .inl (upd ft_ t_.toNatClampNeg (hour_ + v10350_)))), (nh_, .inl (cy 0, 4, .inl (g209201_))), (nd_, .inr (0, [.int lines_, .int columns_, .int levels_, .int things_, .int walkers_, .ref nw_, .ref nr_, .ref nq_, .ref nLH_, .ref nLF_])), (nw_, .inl (cy 0, 8, .inl (fw_))), (nr_, .inl (cy 0, 32, .inl (fr_))), (nq_, .inl (cy 0, 4, .inl (fq_))), (nLH_, .inr (4, [.ref npH_, .ref ngH_, .ref nkH_])), (npH_, .inl (cy 0, lenH_, .inl (fpH_))), (ngH_, .inl (cy 0, 6, .inl (g10351_))), (nkH_, .inl (cy 0, 32, .inl (g10352_))), (nLF_, .inr (4, [.ref npF_, .ref ngF_, .ref nkF_])), (npF_, .inl (cy 0, lenF_, .inl (fpF_))), (ngF_, .inl (cy 0, 6, .inl (g209202_))), (nkF_, .inl (cy 0, 32, .inl (g209203_)))] H := hP.sub [10, 11, 12, 0, 1, 2, 13, 3, 4, 5, 14, 15, 16, 17, 6, 7, 8, 9] rfl
    have hD : va_D A [(no_, .inr (6, [.ref nd_, .int hour_, .ref ns_, .ref nc_, .ref nl_, .ref nt_, .ref nh_, .int v209204_])), (ns_, .inl (cy 0, 8, .inl (g209205_))), (nc_, .inl (cy 0, 8, .inl (upd fc_ t_.toNatClampNeg c_))), (nl_, .inl (cy 0, 8, .inl (g209200_))), (nt_, .inl (cy 0, 8, .inl (upd ft_ t_.toNatClampNeg (hour_ + v10350_)))), (nh_, .inl (cy 0, 4, .inl (g209201_))), (nd_, .inr (0, [.int lines_, .int columns_, .int levels_, .int things_, .int walkers_, .ref nw_, .ref nr_, .ref nq_, .ref nLH_, .ref nLF_])), (nw_, .inl (cy 0, 8, .inl (fw_))), (nr_, .inl (cy 0, 32, .inl (fr_))), (nq_, .inl (cy 0, 4, .inl (fq_))), (nLH_, .inr (4, [.ref npH_, .ref ngH_, .ref nkH_])), (npH_, .inl (cy 0, lenH_, .inl (fpH_))), (ngH_, .inl (cy 0, 6, .inl (g10351_))), (nkH_, .inl (cy 0, 32, .inl (g10352_))), (nLF_, .inr (4, [.ref npF_, .ref ngF_, .ref nkF_])), (npF_, .inl (cy 0, lenF_, .inl (fpF_))), (ngF_, .inl (cy 0, 6, .inl (g209202_))), (nkF_, .inl (cy 0, 32, .inl (g209203_)))] := hD.sub [10, 11, 12, 0, 1, 2, 13, 3, 4, 5, 14, 15, 16, 17, 6, 7, 8, 9] (by decide +kernel) rfl
    exact rI hX hE hP hD hS dX6_release_94 (by decide) (by decide) ⟨v209204_, g209205_, (upd fc_ t_.toNatClampNeg c_), g209200_, (upd ft_ t_.toNatClampNeg (hour_ + v10350_)), g209201_, g10351_, g10352_, g209202_, g209203_, (Or.inl ⟨v10130_, v10230_, v10320_, g10351_, g10352_, v10350_, v209204_, g209200_, g209201_, g209202_, g209203_, g209205_, ev10130_, ev10230_, k32_0_, k35_0_, hR1_, rfl, rfl, rfl, rfl, rfl, rfl, rfl, rfl, rfl, rfl, rfl⟩), rfl, (rg_w kr35_ (by decide) (by decide))⟩
  refine lv_if_ne (tgt := 92) hx hb dX6_release_81 (by decide) (fun c81_ => ?_) (fun c81_ => ?_)
  · have g1_ : rg (1) (999) v10350_ := rg_ne1 c81_ kr35_ (by decide) (by decide)
    exact j92_ (0, upd fl_ t_.toNatClampNeg l_, fh_, fgF_, fkF_, upd fs_ t_.toNatClampNeg 1) _ _ ls (Or.inl ⟨c81_, rfl, rfl, rfl, rfl, rfl, rfl⟩) hP hD hS (lv_sub hl [0, 1, 2, 3, 4] rfl)
  · have g2_ : rg (0) (0) v10350_ := rg_eq c81_ (rg_lit (by decide) : rg (0) (0) (0 : Int32))
    refine lv_aload_n hx hb dX6_release_84 rfl (lv_at hl 1 rfl) ?_
    refine lv_iload_n hx hb dX6_release_85 rfl (lv_at hl 3 rfl) ?_
    refine lv_iconst (v := 1) hx hb dX6_release_86 (by decide) ?_
    refine lv_iload_n hx hb dX6_release_87 rfl (lv_at hl 2 rfl) ?_
    refine lv_ishl hx hb dX6_release_88 ?_
    refine kVv (As := [.int c_, .int (1 <<< (t_ &&& 31))]) (rest := []) (wr := [(nt_, .inl (cy 0, 8, .inl (upd ft_ t_.toNatClampNeg (hour_ + v10350_)))), (nLH_, .inr (4, [.ref npH_, .ref ngH_, .ref nkH_])), (npH_, .inl (cy 0, lenH_, .inl (fpH_))), (ngH_, .inl (cy 0, 6, .inl (g10351_))), (nkH_, .inl (cy 0, 32, .inl (g10352_)))]) hX hE (sf_X6_drop_xR l D cy no_ nd_ hour_ ns_ nc_ nl_ nt_ nh_ (0 : Int32) (upd fs_ t_.toNatClampNeg 1) (upd fc_ t_.toNatClampNeg c_) (upd fl_ t_.toNatClampNeg l_) fh_ lines_ columns_ levels_ things_ walkers_ nw_ nr_ nq_ (.ref nLH_) nLF_ fw_ fr_ fq_ npF_ ngF_ nkF_ lenF_ fpF_ fgF_ fkF_ c_ (1 <<< (t_ &&& 31)) hlenF_ (rg_w rcolumns_ (by decide) (by decide)) (rg_w rlevels_ (by decide) (by decide)) (rg_w rthings_ (by decide) (by decide)) (rg_w rwalkers_ (by decide) (by decide)) rfq_) (cwVA 2 htA wd_431 wd_428 wd_6 wd_430 wp_1 (by decide +kernel) ⟨by decide, by decide⟩) hP hD hS [10, 11, 12, 0, 2, 13, 3, 4, 5, 6, 7, 8, 9] [1, 14, 15, 16, 17] rfl rfl (by decide +kernel) 0 rfl rfl rfl rfl hl.1 rfl (Nat.le_of_ble_eq_true rfl) dX6_release_89 (by decide) (fun W1 H locs hw hP hD hS => ?_)
    refine W.widen (k := 0) (n := 0) (by decide) (by decide) ?_
    obtain ⟨v10891_, g10892_, g10893_, g10894_, g10895_, g10896_, k89_0_, rfl⟩ := hw
    have hP : va_P D vwCl [(nt_, .inl (cy 0, 8, .inl (upd ft_ t_.toNatClampNeg (hour_ + v10350_)))), (nLH_, .inr (4, [.ref npH_, .ref ngH_, .ref nkH_])), (npH_, .inl (cy 0, lenH_, .inl (fpH_))), (ngH_, .inl (cy 0, 6, .inl (g10351_))), (nkH_, .inl (cy 0, 32, .inl (g10352_))), (no_, .inr (6, [.ref nd_, .int hour_, .ref ns_, .ref nc_, .ref nl_, .ref nt_, .ref nh_, .int v10891_])), (ns_, .inl (cy 0, 8, .inl (g10892_))), (nc_, .inl (cy 0, 8, .inl (upd fc_ t_.toNatClampNeg c_))), (nl_, .inl (cy 0, 8, .inl (g10893_))), (nh_, .inl (cy 0, 4, .inl (g10894_))), (nd_, .inr (0, [.int lines_, .int columns_, .int levels_, .int things_, .int walkers_, .ref nw_, .ref nr_, .ref nq_, .ref nLH_, .ref nLF_])), (nw_, .inl (cy 0, 8, .inl (fw_))), (nr_, .inl (cy 0, 32, .inl (fr_))), (nq_, .inl (cy 0, 4, .inl (fq_))), (nLF_, .inr (4, [.ref npF_, .ref ngF_, .ref nkF_])), (npF_, .inl (cy 0, lenF_, .inl (fpF_))), (ngF_, .inl (cy 0, 6, .inl (g10895_))), (nkF_, .inl (cy 0, 32, .inl (g10896_)))] H := hP
    have hD := va_ca hP hD
    have hP : va_P D vwCl [(nl_, .inl (cy 0, 8, .inl (g10893_))), (nt_, .inl (cy 0, 8, .inl (upd ft_ t_.toNatClampNeg (hour_ + v10350_)))), (nh_, .inl (cy 0, 4, .inl (g10894_))), (nw_, .inl (cy 0, 8, .inl (fw_))), (nr_, .inl (cy 0, 32, .inl (fr_))), (nq_, .inl (cy 0, 4, .inl (fq_))), (nLF_, .inr (4, [.ref npF_, .ref ngF_, .ref nkF_])), (npF_, .inl (cy 0, lenF_, .inl (fpF_))), (ngF_, .inl (cy 0, 6, .inl (g10895_))), (nkF_, .inl (cy 0, 32, .inl (g10896_))), (no_, .inr (6, [.ref nd_, .int hour_, .ref ns_, .ref nc_, .ref nl_, .ref nt_, .ref nh_, .int v10891_])), (ns_, .inl (cy 0, 8, .inl (g10892_))), (nc_, .inl (cy 0, 8, .inl (upd fc_ t_.toNatClampNeg c_))), (nd_, .inr (0, [.int lines_, .int columns_, .int levels_, .int things_, .int walkers_, .ref nw_, .ref nr_, .ref nq_, .ref nLH_, .ref nLF_])), (nLH_, .inr (4, [.ref npH_, .ref ngH_, .ref nkH_])), (npH_, .inl (cy 0, lenH_, .inl (fpH_))), (ngH_, .inl (cy 0, 6, .inl (g10351_))), (nkH_, .inl (cy 0, 32, .inl (g10352_)))] H := hP.sub [8, 0, 9, 11, 12, 13, 14, 15, 16, 17, 5, 6, 7, 10, 1, 2, 3, 4] rfl
    have hD : va_D A [(nl_, .inl (cy 0, 8, .inl (g10893_))), (nt_, .inl (cy 0, 8, .inl (upd ft_ t_.toNatClampNeg (hour_ + v10350_)))), (nh_, .inl (cy 0, 4, .inl (g10894_))), (nw_, .inl (cy 0, 8, .inl (fw_))), (nr_, .inl (cy 0, 32, .inl (fr_))), (nq_, .inl (cy 0, 4, .inl (fq_))), (nLF_, .inr (4, [.ref npF_, .ref ngF_, .ref nkF_])), (npF_, .inl (cy 0, lenF_, .inl (fpF_))), (ngF_, .inl (cy 0, 6, .inl (g10895_))), (nkF_, .inl (cy 0, 32, .inl (g10896_))), (no_, .inr (6, [.ref nd_, .int hour_, .ref ns_, .ref nc_, .ref nl_, .ref nt_, .ref nh_, .int v10891_])), (ns_, .inl (cy 0, 8, .inl (g10892_))), (nc_, .inl (cy 0, 8, .inl (upd fc_ t_.toNatClampNeg c_))), (nd_, .inr (0, [.int lines_, .int columns_, .int levels_, .int things_, .int walkers_, .ref nw_, .ref nr_, .ref nq_, .ref nLH_, .ref nLF_])), (nLH_, .inr (4, [.ref npH_, .ref ngH_, .ref nkH_])), (npH_, .inl (cy 0, lenH_, .inl (fpH_))), (ngH_, .inl (cy 0, 6, .inl (g10351_))), (nkH_, .inl (cy 0, 32, .inl (g10352_)))] := hD.sub [8, 0, 9, 11, 12, 13, 14, 15, 16, 17, 5, 6, 7, 10, 1, 2, 3, 4] (by decide +kernel) rfl
    exact j92_ (v10891_, g10893_, g10894_, g10895_, g10896_, g10892_) _ _ ls (Or.inr (Or.inl ⟨v10891_, g10892_, g10893_, g10894_, g10895_, g10896_, c81_, k89_0_, rfl, rfl, rfl, rfl, rfl, rfl⟩)) hP hD hS (lv_sub hl [0, 1, 2, 3, 4] rfl)
def R_X6_shake_xN_b1 (columns_ : Int32) (things_ : Int32) (fc_ : Nat → Int32) (ft_ : Nat → Int32) (levels_ : Int32) (fw_ : Nat → Int32) (walkers_ : Int32) (fq_ : Nat → Int32) (hour_ : Int32) (fr_ : Nat → Int32) (uZ_ vZ_ : Int32 × Int32 × (Nat → Int32) × (Nat → Int32) × (Nat → Int32)) : Prop := (∃ (v10240_ : Int32) (v10271_ : Int32) (g10272_ : Nat → Int32) (g10273_ : Nat → Int32) (g10274_ : Nat → Int32), ¬ (columns_ ≤ uZ_.1) ∧ R_X6_dueIn_e things_ uZ_.2.2.1 fc_ uZ_.1 ft_ ((2147483647 : Int32)) v10240_ ∧ R_X6_drop_xN_e v10240_ things_ uZ_.2.2.1 fc_ uZ_.1 uZ_.2.2.2.1 levels_ fw_ walkers_ fq_ hour_ fr_ uZ_.2.2.2.2 uZ_.2.1 v10271_ g10272_ g10273_ g10274_ ∧ vZ_ = (uZ_.1 + 1, v10271_, g10272_, g10273_, g10274_)) ∨ False
def R_X6_shake_xN_e (columns_ : Int32) (things_ : Int32) (fc_ : Nat → Int32) (ft_ : Nat → Int32) (levels_ : Int32) (fw_ : Nat → Int32) (walkers_ : Int32) (fq_ : Nat → Int32) (hour_ : Int32) (fr_ : Nat → Int32) (fs_ : Nat → Int32) (fl_ : Nat → Int32) (fh_ : Nat → Int32) (x0_ : Int32) (x1_ : Nat → Int32) (x2_ : Nat → Int32) (x3_ : Nat → Int32) (r : Int32) : Prop := (∃ (v200700_ : Int32) (v200701_ : Int32) (g200702_ : Nat → Int32) (g200703_ : Nat → Int32) (g200704_ : Nat → Int32) (v10400_ : Int32), Itr (R_X6_shake_xN_b1 columns_ things_ fc_ ft_ levels_ fw_ walkers_ fq_ hour_ fr_) (0, 0, fs_, fl_, fh_) (v200700_, v200701_, g200702_, g200703_, g200704_) ∧ columns_ ≤ v200700_ ∧ R_J6_bitCount_0f7a4_e v200701_ v10400_ ∧ x0_ = v200701_ ∧ x1_ = g200702_ ∧ x2_ = g200703_ ∧ x3_ = g200704_ ∧ r = v10400_) ∨ False
set_option maxHeartbeats 4000000 in
set_option maxRecDepth 100000 in
theorem sf_X6_shake_xN (l : Launch) (D : va_G) (cy : Nat → ClassId) (no_ : Nat) (nd_ : Nat) (hour_ : Int32) (ns_ : Nat) (nc_ : Nat) (nl_ : Nat) (nt_ : Nat) (nh_ : Nat) (fallen_ : Int32) (fs_ : Nat → Int32) (fc_ : Nat → Int32) (fl_ : Nat → Int32) (ft_ : Nat → Int32) (fh_ : Nat → Int32) (lines_ : Int32) (columns_ : Int32) (levels_ : Int32) (things_ : Int32) (walkers_ : Int32) (nw_ : Nat) (nr_ : Nat) (nq_ : Nat) (hangs_ : Value) (fw_ : Nat → Int32) (fr_ : Nat → Int32) (fq_ : Nat → Int32) (rcolumns_ : rg (1) (6) columns_) (rlevels_ : rg (1) (9) levels_) (rthings_ : rg (0) (8) things_) (rwalkers_ : rg (0) (4) walkers_) (rfq_ : ag (0) (8) 4 fq_) : Ci l yX6_shake cX6_shake 2 (some .int) { frames := 3, cells := 0, slots := 0, locals := 77 } D cy [.ref no_] [(no_, .inr (6, [.ref nd_, .int hour_, .ref ns_, .ref nc_, .ref nl_, .ref nt_, .ref nh_, .int fallen_])), (ns_, .inl (cy 0, 8, .inl (fs_))), (nc_, .inl (cy 0, 8, .inl (fc_))), (nl_, .inl (cy 0, 8, .inl (fl_))), (nt_, .inl (cy 0, 8, .inl (ft_))), (nh_, .inl (cy 0, 4, .inl (fh_))), (nd_, .inr (0, [.int lines_, .int columns_, .int levels_, .int things_, .int walkers_, .ref nw_, .ref nr_, .ref nq_, hangs_, .null])), (nw_, .inl (cy 0, 8, .inl (fw_))), (nr_, .inl (cy 0, 32, .inl (fr_))), (nq_, .inl (cy 0, 4, .inl (fq_)))] (fun r W1 => ∃ (x0_ : Int32) (x1_ : Nat → Int32) (x2_ : Nat → Int32) (x3_ : Nat → Int32), R_X6_shake_xN_e columns_ things_ fc_ ft_ levels_ fw_ walkers_ fq_ hour_ fr_ fs_ fl_ fh_ x0_ x1_ x2_ x3_ r ∧ W1 = [(no_, .inr (6, [.ref nd_, .int hour_, .ref ns_, .ref nc_, .ref nl_, .ref nt_, .ref nh_, .int x0_])), (ns_, .inl (cy 0, 8, .inl (x1_))), (nc_, .inl (cy 0, 8, .inl (fc_))), (nl_, .inl (cy 0, 8, .inl (x2_))), (nt_, .inl (cy 0, 8, .inl (ft_))), (nh_, .inl (cy 0, 4, .inl (x3_))), (nd_, .inr (0, [.int lines_, .int columns_, .int levels_, .int things_, .int walkers_, .ref nw_, .ref nr_, .ref nq_, hangs_, .null])), (nw_, .inl (cy 0, 8, .inl (fw_))), (nr_, .inl (cy 0, 32, .inl (fr_))), (nq_, .inl (cy 0, 4, .inl (fq_)))] ∧ rg (0) (63) r) := by
  refine Ci.of (by decide) (Nat.le_of_ble_eq_true rfl) ?_
  intro p e s m below meth c A ls hX hE hP hD hl
  obtain ⟨hx, hb, hr, hml, hown, htA, hlk⟩ := id hX
  have hK := hE.1
  have hS : va_S A s.heap s.heap [] := va_S.rf
  have hl : lv_has ls 2 [(0, .ref no_)] := hl
  refine lv_aload_n hx hb dX6_shake_0 rfl (lv_at hl 0 rfl) ?_
  refine lv_iconst (v := 0) hx hb dX6_shake_1 (by decide) ?_
  refine va_put (ci := 6) (v := .int 0) (ty := .int) (C := RX6) (T := TX6) (N := 8) hx hb htA in_X6 tyX6 tyX6_ok nmX6 hown hK hP hD hS 0 rfl rfl 7 (by decide) (htA _ wd_189) (fun _ h => h) rfl (by decide +kernel) rfl rfl (Nat.le_of_ble_eq_true rfl) dX6_shake_2 (fun H locs hP hD hS => ?_)
  have hP : va_P D vwCl [(no_, .inr (6, [.ref nd_, .int hour_, .ref ns_, .ref nc_, .ref nl_, .ref nt_, .ref nh_, .int 0])), (ns_, .inl (cy 0, 8, .inl (fs_))), (nc_, .inl (cy 0, 8, .inl (fc_))), (nl_, .inl (cy 0, 8, .inl (fl_))), (nt_, .inl (cy 0, 8, .inl (ft_))), (nh_, .inl (cy 0, 4, .inl (fh_))), (nd_, .inr (0, [.int lines_, .int columns_, .int levels_, .int things_, .int walkers_, .ref nw_, .ref nr_, .ref nq_, hangs_, .null])), (nw_, .inl (cy 0, 8, .inl (fw_))), (nr_, .inl (cy 0, 32, .inl (fr_))), (nq_, .inl (cy 0, 4, .inl (fq_)))] H := hP
  have hD := va_ca hP hD
  refine lv_iconst (v := 0) hx hb dX6_shake_5 (by decide) ?_
  refine lv_istore_n (lv' := [(1, .int 0), (0, .ref no_)]) hx hb dX6_shake_6 rfl hl (by decide) rfl (fun ls hl => ?_)
  refine loopT (τ := Int32 × Int32 × (Nat → Int32) × (Nat → Int32) × (Nat → Int32)) (WS := fun i => [(no_, .inr (6, [.ref nd_, .int hour_, .ref ns_, .ref nc_, .ref nl_, .ref nt_, .ref nh_, .int i.2.1])), (ns_, .inl (cy 0, 8, .inl (i.2.2.1))), (nc_, .inl (cy 0, 8, .inl (fc_))), (nl_, .inl (cy 0, 8, .inl (i.2.2.2.1))), (nt_, .inl (cy 0, 8, .inl (ft_))), (nh_, .inl (cy 0, 4, .inl (i.2.2.2.2))), (nd_, .inr (0, [.int lines_, .int columns_, .int levels_, .int things_, .int walkers_, .ref nw_, .ref nr_, .ref nq_, hangs_, .null])), (nw_, .inl (cy 0, 8, .inl (fw_))), (nr_, .inl (cy 0, 32, .inl (fr_))), (nq_, .inl (cy 0, 4, .inl (fq_)))]) (LV := fun i => [(1, .int i.1), (0, .ref no_)]) (fun i => (7 - i.1.toInt).toNat) (fun i => rg (0) (6) i.1 ∧ Itr (R_X6_shake_xN_b1 columns_ things_ fc_ ft_ levels_ fw_ walkers_ fq_ hour_ fr_) (0, 0, fs_, fl_, fh_) (i.1, i.2.1, i.2.2.1, i.2.2.2.1, i.2.2.2.2)) ?_ (0, 0, fs_, fl_, fh_) ⟨(rg_w (rg_lit (by decide) : rg (0) (0) (0 : Int32)) (by decide) (by decide)), (Itr.rf _ _)⟩ hP hD hS (lv_sub hl [0, 1] rfl)
  intro i_ H locs ls hI ih7_ hP hD hS hl
  obtain ⟨v200700_, v200701_, g200702_, g200703_, g200704_⟩ := i_
  have hI : rg (0) (6) v200700_ ∧ Itr (R_X6_shake_xN_b1 columns_ things_ fc_ ft_ levels_ fw_ walkers_ fq_ hour_ fr_) (0, 0, fs_, fl_, fh_) (v200700_, v200701_, g200702_, g200703_, g200704_) := hI
  obtain ⟨rv200700_, hR1_⟩ := hI
  have hP : va_P D vwCl [(no_, .inr (6, [.ref nd_, .int hour_, .ref ns_, .ref nc_, .ref nl_, .ref nt_, .ref nh_, .int v200701_])), (ns_, .inl (cy 0, 8, .inl (g200702_))), (nc_, .inl (cy 0, 8, .inl (fc_))), (nl_, .inl (cy 0, 8, .inl (g200703_))), (nt_, .inl (cy 0, 8, .inl (ft_))), (nh_, .inl (cy 0, 4, .inl (g200704_))), (nd_, .inr (0, [.int lines_, .int columns_, .int levels_, .int things_, .int walkers_, .ref nw_, .ref nr_, .ref nq_, hangs_, .null])), (nw_, .inl (cy 0, 8, .inl (fw_))), (nr_, .inl (cy 0, 32, .inl (fr_))), (nq_, .inl (cy 0, 4, .inl (fq_)))] H := hP
  have hD := va_ca hP hD
  have hl : lv_has ls 2 [(1, .int v200700_), (0, .ref no_)] := hl
  refine lv_iload_n hx hb dX6_shake_7 rfl (lv_at hl 0 rfl) ?_
  refine lv_aload_n hx hb dX6_shake_8 rfl (lv_at hl 1 rfl) ?_
  refine va_get (ci := 6) (v := .ref nd_) (C := RX6) (T := TX6) (N := 8) hx hb htA in_X6 hown hK hP 0 rfl rfl 0 (by decide) (htA _ wd_166) (fun _ h => h) rfl dX6_shake_9 ?_
  refine va_get (ci := 0) (v := .int columns_) (C := RX0) (T := TX0) (N := 10) hx hb htA in_X0 hown hK hP 6 rfl rfl 1 (by decide) (htA _ wd_81) (fun _ h => h) rfl dX6_shake_12 ?_
  refine lv_icmp_ge (tgt := 36) hx hb dX6_shake_15 (by decide) (fun c15_ => ?_) (fun c15_ => ?_)
  · have g1_ : rg (1) (6) v200700_ := rg_le2 c15_ rcolumns_ rv200700_ (by decide)
    refine lv_aload_n hx hb dX6_shake_36 rfl (lv_at hl 1 rfl) ?_
    refine va_get (ci := 6) (v := .int v200701_) (C := RX6) (T := TX6) (N := 8) hx hb htA in_X6 hown hK hP 0 rfl rfl 7 (by decide) (htA _ wd_189) (fun _ h => h) rfl dX6_shake_37 ?_
    refine kSi (As := [.int v200701_]) (rest := []) (wr := [(no_, .inr (6, [.ref nd_, .int hour_, .ref ns_, .ref nc_, .ref nl_, .ref nt_, .ref nh_, .int v200701_])), (ns_, .inl (cy 0, 8, .inl (g200702_))), (nc_, .inl (cy 0, 8, .inl (fc_))), (nl_, .inl (cy 0, 8, .inl (g200703_))), (nt_, .inl (cy 0, 8, .inl (ft_))), (nh_, .inl (cy 0, 4, .inl (g200704_))), (nd_, .inr (0, [.int lines_, .int columns_, .int levels_, .int things_, .int walkers_, .ref nw_, .ref nr_, .ref nq_, hangs_, .null])), (nw_, .inl (cy 0, 8, .inl (fw_))), (nr_, .inl (cy 0, 32, .inl (fr_))), (nq_, .inl (cy 0, 4, .inl (fq_)))]) hX hE (sf_J6_bitCount_0f7a4 l D cy v200701_ ) (cwSA 1 htA wd_438 wd_436 wd_24 wd_437 (by decide +kernel) ⟨by decide, by decide⟩) hP hD hS [] [0, 1, 2, 3, 4, 5, 6, 7, 8, 9] rfl rfl (by decide +kernel) rfl hl.1 rfl (Nat.le_of_ble_eq_true rfl) dX6_shake_40 (by decide) (fun v10400_ W1 H locs hw hP hD hS => ?_)
    refine W.widen (k := 0) (n := 0) (by decide) (by decide) ?_
    obtain ⟨k40_0_, rfl, kr40_⟩ := hw
    have hP : va_P D vwCl [(no_, .inr (6, [.ref nd_, .int hour_, .ref ns_, .ref nc_, .ref nl_, .ref nt_, .ref nh_, .int v200701_])), (ns_, .inl (cy 0, 8, .inl (g200702_))), (nc_, .inl (cy 0, 8, .inl (fc_))), (nl_, .inl (cy 0, 8, .inl (g200703_))), (nt_, .inl (cy 0, 8, .inl (ft_))), (nh_, .inl (cy 0, 4, .inl (g200704_))), (nd_, .inr (0, [.int lines_, .int columns_, .int levels_, .int things_, .int walkers_, .ref nw_, .ref nr_, .ref nq_, hangs_, .null])), (nw_, .inl (cy 0, 8, .inl (fw_))), (nr_, .inl (cy 0, 32, .inl (fr_))), (nq_, .inl (cy 0, 4, .inl (fq_)))] H := hP
    have hD := va_ca hP hD
    exact rI hX hE hP hD hS dX6_shake_43 (by decide) (by decide) ⟨v200701_, g200702_, g200703_, g200704_, (Or.inl ⟨v200700_, v200701_, g200702_, g200703_, g200704_, v10400_, hR1_, c15_, k40_0_, rfl, rfl, rfl, rfl, rfl⟩), rfl, (rg_w kr40_ (by decide) (by decide))⟩
  · have g2_ : rg (0) (5) v200700_ := rg_lt1 (rg_nle c15_) rv200700_ rcolumns_ (by decide)
    refine lv_aload_n hx hb dX6_shake_18 rfl (lv_at hl 1 rfl) ?_
    refine lv_iload_n hx hb dX6_shake_19 rfl (lv_at hl 0 rfl) ?_
    refine lv_aload_n hx hb dX6_shake_20 rfl (lv_at hl 1 rfl) ?_
    refine lv_iload_n hx hb dX6_shake_21 rfl (lv_at hl 0 rfl) ?_
    refine lv_ldc hx hb hown (htA _ wd_476) dX6_shake_22 ?_
    refine kVi (As := [.int v200700_, .int 2147483647]) (rest := [.int v200700_, .ref no_]) (wr := [(nl_, .inl (cy 0, 8, .inl (g200703_))), (nh_, .inl (cy 0, 4, .inl (g200704_))), (nw_, .inl (cy 0, 8, .inl (fw_))), (nr_, .inl (cy 0, 32, .inl (fr_))), (nq_, .inl (cy 0, 4, .inl (fq_)))]) hX hE (sf_X6_dueIn l D cy no_ nd_ hour_ ns_ nc_ nl_ nt_ nh_ v200701_ g200702_ fc_ ft_ lines_ columns_ levels_ things_ walkers_ nw_ nr_ nq_ hangs_ .null v200700_ (2147483647 : Int32) (rg_w rcolumns_ (by decide) (by decide)) (rg_w rlevels_ (by decide) (by decide)) (rg_w rthings_ (by decide) (by decide)) (rg_w rwalkers_ (by decide) (by decide))) (cwVA 2 htA wd_480 wd_477 wd_6 wd_479 wp_3 (by decide +kernel) ⟨by decide, by decide⟩) hP hD hS [0, 1, 2, 4, 6] [3, 5, 7, 8, 9] rfl rfl (by decide +kernel) 0 rfl rfl rfl rfl hl.1 rfl (Nat.le_of_ble_eq_true rfl) dX6_shake_24 (by decide) (fun v10240_ W1 H locs hw hP hD hS => ?_)
    refine W.widen (k := 0) (n := 0) (by decide) (by decide) ?_
    obtain ⟨k24_0_, rfl⟩ := hw
    have hP : va_P D vwCl [(nl_, .inl (cy 0, 8, .inl (g200703_))), (nh_, .inl (cy 0, 4, .inl (g200704_))), (nw_, .inl (cy 0, 8, .inl (fw_))), (nr_, .inl (cy 0, 32, .inl (fr_))), (nq_, .inl (cy 0, 4, .inl (fq_))), (no_, .inr (6, [.ref nd_, .int hour_, .ref ns_, .ref nc_, .ref nl_, .ref nt_, .ref nh_, .int v200701_])), (ns_, .inl (cy 0, 8, .inl (g200702_))), (nc_, .inl (cy 0, 8, .inl (fc_))), (nt_, .inl (cy 0, 8, .inl (ft_))), (nd_, .inr (0, [.int lines_, .int columns_, .int levels_, .int things_, .int walkers_, .ref nw_, .ref nr_, .ref nq_, hangs_, .null]))] H := hP
    have hD := va_ca hP hD
    refine kVv (As := [.int v200700_, .int v10240_]) (rest := []) (wr := [(nt_, .inl (cy 0, 8, .inl (ft_)))]) hX hE (sf_X6_drop_xN l D cy no_ nd_ hour_ ns_ nc_ nl_ nt_ nh_ v200701_ g200702_ fc_ g200703_ g200704_ lines_ columns_ levels_ things_ walkers_ nw_ nr_ nq_ hangs_ fw_ fr_ fq_ v200700_ v10240_ (rg_w rcolumns_ (by decide) (by decide)) (rg_w rlevels_ (by decide) (by decide)) (rg_w rthings_ (by decide) (by decide)) (rg_w rwalkers_ (by decide) (by decide)) rfq_) (cwVA 2 htA wd_431 wd_428 wd_6 wd_430 wp_1 (by decide +kernel) ⟨by decide, by decide⟩) hP hD hS [5, 6, 7, 0, 1, 9, 2, 3, 4] [8] rfl rfl (by decide +kernel) 0 rfl rfl rfl rfl hl.1 rfl (Nat.le_of_ble_eq_true rfl) dX6_shake_27 (by decide) (fun W1 H locs hw hP hD hS => ?_)
    refine W.widen (k := 0) (n := 0) (by decide) (by decide) ?_
    obtain ⟨v10271_, g10272_, g10273_, g10274_, k27_0_, rfl⟩ := hw
    have hP : va_P D vwCl [(nt_, .inl (cy 0, 8, .inl (ft_))), (no_, .inr (6, [.ref nd_, .int hour_, .ref ns_, .ref nc_, .ref nl_, .ref nt_, .ref nh_, .int v10271_])), (ns_, .inl (cy 0, 8, .inl (g10272_))), (nc_, .inl (cy 0, 8, .inl (fc_))), (nl_, .inl (cy 0, 8, .inl (g10273_))), (nh_, .inl (cy 0, 4, .inl (g10274_))), (nd_, .inr (0, [.int lines_, .int columns_, .int levels_, .int things_, .int walkers_, .ref nw_, .ref nr_, .ref nq_, hangs_, .null])), (nw_, .inl (cy 0, 8, .inl (fw_))), (nr_, .inl (cy 0, 32, .inl (fr_))), (nq_, .inl (cy 0, 4, .inl (fq_)))] H := hP
    have hD := va_ca hP hD
    refine lv_iinc (v := v200700_ + 1) (lv' := [(1, .int (v200700_ + 1)), (0, .ref no_)]) hx hb dX6_shake_30 hl (k := 0) rfl rfl (by decide) rfl (fun ls hl => ?_)
    have g3_ : rg (1) (6) (v200700_ + 1) := rg_add g2_ (rg_lit (by decide) : rg (1) (1) (1 : Int32)) (by decide) (by decide) (by decide) (by decide)
    refine lv_goto (tgt := 7) hx hb dX6_shake_33 (by decide) ?_
    have hP : va_P D vwCl [(no_, .inr (6, [.ref nd_, .int hour_, .ref ns_, .ref nc_, .ref nl_, .ref nt_, .ref nh_, .int v10271_])), (ns_, .inl (cy 0, 8, .inl (g10272_))), (nc_, .inl (cy 0, 8, .inl (fc_))), (nl_, .inl (cy 0, 8, .inl (g10273_))), (nt_, .inl (cy 0, 8, .inl (ft_))), (nh_, .inl (cy 0, 4, .inl (g10274_))), (nd_, .inr (0, [.int lines_, .int columns_, .int levels_, .int things_, .int walkers_, .ref nw_, .ref nr_, .ref nq_, hangs_, .null])), (nw_, .inl (cy 0, 8, .inl (fw_))), (nr_, .inl (cy 0, 32, .inl (fr_))), (nq_, .inl (cy 0, 4, .inl (fq_)))] H := hP.sub [1, 2, 3, 4, 0, 5, 6, 7, 8, 9] rfl
    have hD : va_D A [(no_, .inr (6, [.ref nd_, .int hour_, .ref ns_, .ref nc_, .ref nl_, .ref nt_, .ref nh_, .int v10271_])), (ns_, .inl (cy 0, 8, .inl (g10272_))), (nc_, .inl (cy 0, 8, .inl (fc_))), (nl_, .inl (cy 0, 8, .inl (g10273_))), (nt_, .inl (cy 0, 8, .inl (ft_))), (nh_, .inl (cy 0, 4, .inl (g10274_))), (nd_, .inr (0, [.int lines_, .int columns_, .int levels_, .int things_, .int walkers_, .ref nw_, .ref nr_, .ref nq_, hangs_, .null])), (nw_, .inl (cy 0, 8, .inl (fw_))), (nr_, .inl (cy 0, 32, .inl (fr_))), (nq_, .inl (cy 0, 4, .inl (fq_)))] := hD.sub [1, 2, 3, 4, 0, 5, 6, 7, 8, 9] (by decide +kernel) rfl
    exact ih7_ (v200700_ + 1, v10271_, g10272_, g10273_, g10274_) _ _ ls ⟨(rg_w g3_ (by decide) (by decide)), (Itr.st hR1_ (Or.inl ⟨v10240_, v10271_, g10272_, g10273_, g10274_, c15_, k24_0_, k27_0_, rfl⟩))⟩ (show (7 - (v200700_ + 1).toInt).toNat < (7 - v200700_.toInt).toNat from by rw [show (v200700_ + 1).toInt = v200700_.toInt + 1 from inc32 v200700_ (by have hq := (rv200700_).2; omega)]; have hq := (g2_).1; have hq2 := (g2_).2; omega) hP hD hS (lv_sub hl [0, 1] rfl)
def R_X6_shake_xR_b1 (columns_ : Int32) (things_ : Int32) (fc_ : Nat → Int32) (ft_ : Nat → Int32) (fw_ : Nat → Int32) (hour_ : Int32) (lenF_ : Nat) (fpF_ : Nat → Int32) (levels_ : Int32) (walkers_ : Int32) (fq_ : Nat → Int32) (fr_ : Nat → Int32) (uZ_ vZ_ : Int32 × Int32 × (Nat → Int32) × (Nat → Int32) × (Nat → Int32) × (Nat → Int32) × (Nat → Int32)) : Prop := (∃ (v10240_ : Int32) (v10271_ : Int32) (g10272_ : Nat → Int32) (g10273_ : Nat → Int32) (g10274_ : Nat → Int32) (g10275_ : Nat → Int32) (g10276_ : Nat → Int32), ¬ (columns_ ≤ uZ_.1) ∧ R_X6_dueIn_e things_ uZ_.2.2.1 fc_ uZ_.1 ft_ ((2147483647 : Int32)) v10240_ ∧ R_X6_drop_xR_e v10240_ things_ uZ_.2.2.1 fc_ uZ_.1 uZ_.2.2.2.1 fw_ hour_ lenF_ fpF_ uZ_.2.2.2.2.2.1 uZ_.2.2.2.2.2.2 levels_ walkers_ fq_ fr_ uZ_.2.2.2.2.1 uZ_.2.1 v10271_ g10272_ g10273_ g10274_ g10275_ g10276_ ∧ vZ_ = (uZ_.1 + 1, v10271_, g10272_, g10273_, g10274_, g10275_, g10276_)) ∨ False
def R_X6_shake_xR_e (columns_ : Int32) (things_ : Int32) (fc_ : Nat → Int32) (ft_ : Nat → Int32) (fw_ : Nat → Int32) (hour_ : Int32) (lenF_ : Nat) (fpF_ : Nat → Int32) (levels_ : Int32) (walkers_ : Int32) (fq_ : Nat → Int32) (fr_ : Nat → Int32) (fs_ : Nat → Int32) (fl_ : Nat → Int32) (fh_ : Nat → Int32) (fgF_ : Nat → Int32) (fkF_ : Nat → Int32) (x0_ : Int32) (x1_ : Nat → Int32) (x2_ : Nat → Int32) (x3_ : Nat → Int32) (x4_ : Nat → Int32) (x5_ : Nat → Int32) (r : Int32) : Prop := (∃ (v200700_ : Int32) (v200701_ : Int32) (g200702_ : Nat → Int32) (g200703_ : Nat → Int32) (g200704_ : Nat → Int32) (g200705_ : Nat → Int32) (g200706_ : Nat → Int32) (v10400_ : Int32), Itr (R_X6_shake_xR_b1 columns_ things_ fc_ ft_ fw_ hour_ lenF_ fpF_ levels_ walkers_ fq_ fr_) (0, 0, fs_, fl_, fh_, fgF_, fkF_) (v200700_, v200701_, g200702_, g200703_, g200704_, g200705_, g200706_) ∧ columns_ ≤ v200700_ ∧ R_J6_bitCount_0f7a4_e v200701_ v10400_ ∧ x0_ = v200701_ ∧ x1_ = g200702_ ∧ x2_ = g200703_ ∧ x3_ = g200704_ ∧ x4_ = g200705_ ∧ x5_ = g200706_ ∧ r = v10400_) ∨ False
set_option maxHeartbeats 4000000 in
set_option maxRecDepth 100000 in
theorem sf_X6_shake_xR (l : Launch) (D : va_G) (cy : Nat → ClassId) (no_ : Nat) (nd_ : Nat) (hour_ : Int32) (ns_ : Nat) (nc_ : Nat) (nl_ : Nat) (nt_ : Nat) (nh_ : Nat) (fallen_ : Int32) (fs_ : Nat → Int32) (fc_ : Nat → Int32) (fl_ : Nat → Int32) (ft_ : Nat → Int32) (fh_ : Nat → Int32) (lines_ : Int32) (columns_ : Int32) (levels_ : Int32) (things_ : Int32) (walkers_ : Int32) (nw_ : Nat) (nr_ : Nat) (nq_ : Nat) (hangs_ : Value) (nLF_ : Nat) (fw_ : Nat → Int32) (fr_ : Nat → Int32) (fq_ : Nat → Int32) (npF_ : Nat) (ngF_ : Nat) (nkF_ : Nat) (lenF_ : Nat) (fpF_ : Nat → Int32) (fgF_ : Nat → Int32) (fkF_ : Nat → Int32) (hlenF_ : lenF_ ≤ 900) (rcolumns_ : rg (1) (6) columns_) (rlevels_ : rg (1) (9) levels_) (rthings_ : rg (0) (8) things_) (rwalkers_ : rg (0) (4) walkers_) (rfq_ : ag (0) (8) 4 fq_) : Ci l yX6_shake cX6_shake 2 (some .int) { frames := 5, cells := 0, slots := 0, locals := 132 } D cy [.ref no_] [(no_, .inr (6, [.ref nd_, .int hour_, .ref ns_, .ref nc_, .ref nl_, .ref nt_, .ref nh_, .int fallen_])), (ns_, .inl (cy 0, 8, .inl (fs_))), (nc_, .inl (cy 0, 8, .inl (fc_))), (nl_, .inl (cy 0, 8, .inl (fl_))), (nt_, .inl (cy 0, 8, .inl (ft_))), (nh_, .inl (cy 0, 4, .inl (fh_))), (nd_, .inr (0, [.int lines_, .int columns_, .int levels_, .int things_, .int walkers_, .ref nw_, .ref nr_, .ref nq_, hangs_, .ref nLF_])), (nw_, .inl (cy 0, 8, .inl (fw_))), (nr_, .inl (cy 0, 32, .inl (fr_))), (nq_, .inl (cy 0, 4, .inl (fq_))), (nLF_, .inr (4, [.ref npF_, .ref ngF_, .ref nkF_])), (npF_, .inl (cy 0, lenF_, .inl (fpF_))), (ngF_, .inl (cy 0, 6, .inl (fgF_))), (nkF_, .inl (cy 0, 32, .inl (fkF_)))] (fun r W1 => ∃ (x0_ : Int32) (x1_ : Nat → Int32) (x2_ : Nat → Int32) (x3_ : Nat → Int32) (x4_ : Nat → Int32) (x5_ : Nat → Int32), R_X6_shake_xR_e columns_ things_ fc_ ft_ fw_ hour_ lenF_ fpF_ levels_ walkers_ fq_ fr_ fs_ fl_ fh_ fgF_ fkF_ x0_ x1_ x2_ x3_ x4_ x5_ r ∧ W1 = [(no_, .inr (6, [.ref nd_, .int hour_, .ref ns_, .ref nc_, .ref nl_, .ref nt_, .ref nh_, .int x0_])), (ns_, .inl (cy 0, 8, .inl (x1_))), (nc_, .inl (cy 0, 8, .inl (fc_))), (nl_, .inl (cy 0, 8, .inl (x2_))), (nt_, .inl (cy 0, 8, .inl (ft_))), (nh_, .inl (cy 0, 4, .inl (x3_))), (nd_, .inr (0, [.int lines_, .int columns_, .int levels_, .int things_, .int walkers_, .ref nw_, .ref nr_, .ref nq_, hangs_, .ref nLF_])), (nw_, .inl (cy 0, 8, .inl (fw_))), (nr_, .inl (cy 0, 32, .inl (fr_))), (nq_, .inl (cy 0, 4, .inl (fq_))), (nLF_, .inr (4, [.ref npF_, .ref ngF_, .ref nkF_])), (npF_, .inl (cy 0, lenF_, .inl (fpF_))), (ngF_, .inl (cy 0, 6, .inl (x4_))), (nkF_, .inl (cy 0, 32, .inl (x5_)))] ∧ rg (0) (63) r) := by
  refine Ci.of (by decide) (Nat.le_of_ble_eq_true rfl) ?_
  intro p e s m below meth c A ls hX hE hP hD hl
  obtain ⟨hx, hb, hr, hml, hown, htA, hlk⟩ := id hX
  have hK := hE.1
  have hS : va_S A s.heap s.heap [] := va_S.rf
  have hl : lv_has ls 2 [(0, .ref no_)] := hl
  refine lv_aload_n hx hb dX6_shake_0 rfl (lv_at hl 0 rfl) ?_
  refine lv_iconst (v := 0) hx hb dX6_shake_1 (by decide) ?_
  refine va_put (ci := 6) (v := .int 0) (ty := .int) (C := RX6) (T := TX6) (N := 8) hx hb htA in_X6 tyX6 tyX6_ok nmX6 hown hK hP hD hS 0 rfl rfl 7 (by decide) (htA _ wd_189) (fun _ h => h) rfl (by decide +kernel) rfl rfl (Nat.le_of_ble_eq_true rfl) dX6_shake_2 (fun H locs hP hD hS => ?_)
  have hP : va_P D vwCl [(no_, .inr (6, [.ref nd_, .int hour_, .ref ns_, .ref nc_, .ref nl_, .ref nt_, .ref nh_, .int 0])), (ns_, .inl (cy 0, 8, .inl (fs_))), (nc_, .inl (cy 0, 8, .inl (fc_))), (nl_, .inl (cy 0, 8, .inl (fl_))), (nt_, .inl (cy 0, 8, .inl (ft_))), (nh_, .inl (cy 0, 4, .inl (fh_))), (nd_, .inr (0, [.int lines_, .int columns_, .int levels_, .int things_, .int walkers_, .ref nw_, .ref nr_, .ref nq_, hangs_, .ref nLF_])), (nw_, .inl (cy 0, 8, .inl (fw_))), (nr_, .inl (cy 0, 32, .inl (fr_))), (nq_, .inl (cy 0, 4, .inl (fq_))), (nLF_, .inr (4, [.ref npF_, .ref ngF_, .ref nkF_])), (npF_, .inl (cy 0, lenF_, .inl (fpF_))), (ngF_, .inl (cy 0, 6, .inl (fgF_))), (nkF_, .inl (cy 0, 32, .inl (fkF_)))] H := hP
  have hD := va_ca hP hD
  refine lv_iconst (v := 0) hx hb dX6_shake_5 (by decide) ?_
  refine lv_istore_n (lv' := [(1, .int 0), (0, .ref no_)]) hx hb dX6_shake_6 rfl hl (by decide) rfl (fun ls hl => ?_)
  refine loopT (τ := Int32 × Int32 × (Nat → Int32) × (Nat → Int32) × (Nat → Int32) × (Nat → Int32) × (Nat → Int32)) (WS := fun i => [(no_, .inr (6, [.ref nd_, .int hour_, .ref ns_, .ref nc_, .ref nl_, .ref nt_, .ref nh_, .int i.2.1])), (ns_, .inl (cy 0, 8, .inl (i.2.2.1))), (nc_, .inl (cy 0, 8, .inl (fc_))), (nl_, .inl (cy 0, 8, .inl (i.2.2.2.1))), (nt_, .inl (cy 0, 8, .inl (ft_))), (nh_, .inl (cy 0, 4, .inl (i.2.2.2.2.1))), (nd_, .inr (0, [.int lines_, .int columns_, .int levels_, .int things_, .int walkers_, .ref nw_, .ref nr_, .ref nq_, hangs_, .ref nLF_])), (nw_, .inl (cy 0, 8, .inl (fw_))), (nr_, .inl (cy 0, 32, .inl (fr_))), (nq_, .inl (cy 0, 4, .inl (fq_))), (nLF_, .inr (4, [.ref npF_, .ref ngF_, .ref nkF_])), (npF_, .inl (cy 0, lenF_, .inl (fpF_))), (ngF_, .inl (cy 0, 6, .inl (i.2.2.2.2.2.1))), (nkF_, .inl (cy 0, 32, .inl (i.2.2.2.2.2.2)))]) (LV := fun i => [(1, .int i.1), (0, .ref no_)]) (fun i => (7 - i.1.toInt).toNat) (fun i => rg (0) (6) i.1 ∧ Itr (R_X6_shake_xR_b1 columns_ things_ fc_ ft_ fw_ hour_ lenF_ fpF_ levels_ walkers_ fq_ fr_) (0, 0, fs_, fl_, fh_, fgF_, fkF_) (i.1, i.2.1, i.2.2.1, i.2.2.2.1, i.2.2.2.2.1, i.2.2.2.2.2.1, i.2.2.2.2.2.2)) ?_ (0, 0, fs_, fl_, fh_, fgF_, fkF_) ⟨(rg_w (rg_lit (by decide) : rg (0) (0) (0 : Int32)) (by decide) (by decide)), (Itr.rf _ _)⟩ hP hD hS (lv_sub hl [0, 1] rfl)
  intro i_ H locs ls hI ih7_ hP hD hS hl
  obtain ⟨v200700_, v200701_, g200702_, g200703_, g200704_, g200705_, g200706_⟩ := i_
  have hI : rg (0) (6) v200700_ ∧ Itr (R_X6_shake_xR_b1 columns_ things_ fc_ ft_ fw_ hour_ lenF_ fpF_ levels_ walkers_ fq_ fr_) (0, 0, fs_, fl_, fh_, fgF_, fkF_) (v200700_, v200701_, g200702_, g200703_, g200704_, g200705_, g200706_) := hI
  obtain ⟨rv200700_, hR1_⟩ := hI
  have hP : va_P D vwCl [(no_, .inr (6, [.ref nd_, .int hour_, .ref ns_, .ref nc_, .ref nl_, .ref nt_, .ref nh_, .int v200701_])), (ns_, .inl (cy 0, 8, .inl (g200702_))), (nc_, .inl (cy 0, 8, .inl (fc_))), (nl_, .inl (cy 0, 8, .inl (g200703_))), (nt_, .inl (cy 0, 8, .inl (ft_))), (nh_, .inl (cy 0, 4, .inl (g200704_))), (nd_, .inr (0, [.int lines_, .int columns_, .int levels_, .int things_, .int walkers_, .ref nw_, .ref nr_, .ref nq_, hangs_, .ref nLF_])), (nw_, .inl (cy 0, 8, .inl (fw_))), (nr_, .inl (cy 0, 32, .inl (fr_))), (nq_, .inl (cy 0, 4, .inl (fq_))), (nLF_, .inr (4, [.ref npF_, .ref ngF_, .ref nkF_])), (npF_, .inl (cy 0, lenF_, .inl (fpF_))), (ngF_, .inl (cy 0, 6, .inl (g200705_))), (nkF_, .inl (cy 0, 32, .inl (g200706_)))] H := hP
  have hD := va_ca hP hD
  have hl : lv_has ls 2 [(1, .int v200700_), (0, .ref no_)] := hl
  refine lv_iload_n hx hb dX6_shake_7 rfl (lv_at hl 0 rfl) ?_
  refine lv_aload_n hx hb dX6_shake_8 rfl (lv_at hl 1 rfl) ?_
  refine va_get (ci := 6) (v := .ref nd_) (C := RX6) (T := TX6) (N := 8) hx hb htA in_X6 hown hK hP 0 rfl rfl 0 (by decide) (htA _ wd_166) (fun _ h => h) rfl dX6_shake_9 ?_
  refine va_get (ci := 0) (v := .int columns_) (C := RX0) (T := TX0) (N := 10) hx hb htA in_X0 hown hK hP 6 rfl rfl 1 (by decide) (htA _ wd_81) (fun _ h => h) rfl dX6_shake_12 ?_
  refine lv_icmp_ge (tgt := 36) hx hb dX6_shake_15 (by decide) (fun c15_ => ?_) (fun c15_ => ?_)
  · have g1_ : rg (1) (6) v200700_ := rg_le2 c15_ rcolumns_ rv200700_ (by decide)
    refine lv_aload_n hx hb dX6_shake_36 rfl (lv_at hl 1 rfl) ?_
    refine va_get (ci := 6) (v := .int v200701_) (C := RX6) (T := TX6) (N := 8) hx hb htA in_X6 hown hK hP 0 rfl rfl 7 (by decide) (htA _ wd_189) (fun _ h => h) rfl dX6_shake_37 ?_
    refine kSi (As := [.int v200701_]) (rest := []) (wr := [(no_, .inr (6, [.ref nd_, .int hour_, .ref ns_, .ref nc_, .ref nl_, .ref nt_, .ref nh_, .int v200701_])), (ns_, .inl (cy 0, 8, .inl (g200702_))), (nc_, .inl (cy 0, 8, .inl (fc_))), (nl_, .inl (cy 0, 8, .inl (g200703_))), (nt_, .inl (cy 0, 8, .inl (ft_))), (nh_, .inl (cy 0, 4, .inl (g200704_))), (nd_, .inr (0, [.int lines_, .int columns_, .int levels_, .int things_, .int walkers_, .ref nw_, .ref nr_, .ref nq_, hangs_, .ref nLF_])), (nw_, .inl (cy 0, 8, .inl (fw_))), (nr_, .inl (cy 0, 32, .inl (fr_))), (nq_, .inl (cy 0, 4, .inl (fq_))), (nLF_, .inr (4, [.ref npF_, .ref ngF_, .ref nkF_])), (npF_, .inl (cy 0, lenF_, .inl (fpF_))), (ngF_, .inl (cy 0, 6, .inl (g200705_))), (nkF_, .inl (cy 0, 32, .inl (g200706_)))]) hX hE (sf_J6_bitCount_0f7a4 l D cy v200701_ ) (cwSA 1 htA wd_438 wd_436 wd_24 wd_437 (by decide +kernel) ⟨by decide, by decide⟩) hP hD hS [] [0, 1, 2, 3, 4, 5, 6, 7, 8, 9, 10, 11, 12, 13] rfl rfl (by decide +kernel) rfl hl.1 rfl (Nat.le_of_ble_eq_true rfl) dX6_shake_40 (by decide) (fun v10400_ W1 H locs hw hP hD hS => ?_)
    refine W.widen (k := 0) (n := 0) (by decide) (by decide) ?_
    obtain ⟨k40_0_, rfl, kr40_⟩ := hw
    have hP : va_P D vwCl [(no_, .inr (6, [.ref nd_, .int hour_, .ref ns_, .ref nc_, .ref nl_, .ref nt_, .ref nh_, .int v200701_])), (ns_, .inl (cy 0, 8, .inl (g200702_))), (nc_, .inl (cy 0, 8, .inl (fc_))), (nl_, .inl (cy 0, 8, .inl (g200703_))), (nt_, .inl (cy 0, 8, .inl (ft_))), (nh_, .inl (cy 0, 4, .inl (g200704_))), (nd_, .inr (0, [.int lines_, .int columns_, .int levels_, .int things_, .int walkers_, .ref nw_, .ref nr_, .ref nq_, hangs_, .ref nLF_])), (nw_, .inl (cy 0, 8, .inl (fw_))), (nr_, .inl (cy 0, 32, .inl (fr_))), (nq_, .inl (cy 0, 4, .inl (fq_))), (nLF_, .inr (4, [.ref npF_, .ref ngF_, .ref nkF_])), (npF_, .inl (cy 0, lenF_, .inl (fpF_))), (ngF_, .inl (cy 0, 6, .inl (g200705_))), (nkF_, .inl (cy 0, 32, .inl (g200706_)))] H := hP
    have hD := va_ca hP hD
    exact rI hX hE hP hD hS dX6_shake_43 (by decide) (by decide) ⟨v200701_, g200702_, g200703_, g200704_, g200705_, g200706_, (Or.inl ⟨v200700_, v200701_, g200702_, g200703_, g200704_, g200705_, g200706_, v10400_, hR1_, c15_, k40_0_, rfl, rfl, rfl, rfl, rfl, rfl, rfl⟩), rfl, (rg_w kr40_ (by decide) (by decide))⟩
  · have g2_ : rg (0) (5) v200700_ := rg_lt1 (rg_nle c15_) rv200700_ rcolumns_ (by decide)
    refine lv_aload_n hx hb dX6_shake_18 rfl (lv_at hl 1 rfl) ?_
    refine lv_iload_n hx hb dX6_shake_19 rfl (lv_at hl 0 rfl) ?_
    refine lv_aload_n hx hb dX6_shake_20 rfl (lv_at hl 1 rfl) ?_
    refine lv_iload_n hx hb dX6_shake_21 rfl (lv_at hl 0 rfl) ?_
    refine lv_ldc hx hb hown (htA _ wd_476) dX6_shake_22 ?_
    refine kVi (As := [.int v200700_, .int 2147483647]) (rest := [.int v200700_, .ref no_]) (wr := [(nl_, .inl (cy 0, 8, .inl (g200703_))), (nh_, .inl (cy 0, 4, .inl (g200704_))), (nw_, .inl (cy 0, 8, .inl (fw_))), (nr_, .inl (cy 0, 32, .inl (fr_))), (nq_, .inl (cy 0, 4, .inl (fq_))), (nLF_, .inr (4, [.ref npF_, .ref ngF_, .ref nkF_])), (npF_, .inl (cy 0, lenF_, .inl (fpF_))), (ngF_, .inl (cy 0, 6, .inl (g200705_))), (nkF_, .inl (cy 0, 32, .inl (g200706_)))]) hX hE (sf_X6_dueIn l D cy no_ nd_ hour_ ns_ nc_ nl_ nt_ nh_ v200701_ g200702_ fc_ ft_ lines_ columns_ levels_ things_ walkers_ nw_ nr_ nq_ hangs_ (.ref nLF_) v200700_ (2147483647 : Int32) (rg_w rcolumns_ (by decide) (by decide)) (rg_w rlevels_ (by decide) (by decide)) (rg_w rthings_ (by decide) (by decide)) (rg_w rwalkers_ (by decide) (by decide))) (cwVA 2 htA wd_480 wd_477 wd_6 wd_479 wp_3 (by decide +kernel) ⟨by decide, by decide⟩) hP hD hS [0, 1, 2, 4, 6] [3, 5, 7, 8, 9, 10, 11, 12, 13] rfl rfl (by decide +kernel) 0 rfl rfl rfl rfl hl.1 rfl (Nat.le_of_ble_eq_true rfl) dX6_shake_24 (by decide) (fun v10240_ W1 H locs hw hP hD hS => ?_)
    refine W.widen (k := 0) (n := 0) (by decide) (by decide) ?_
    obtain ⟨k24_0_, rfl⟩ := hw
    have hP : va_P D vwCl [(nl_, .inl (cy 0, 8, .inl (g200703_))), (nh_, .inl (cy 0, 4, .inl (g200704_))), (nw_, .inl (cy 0, 8, .inl (fw_))), (nr_, .inl (cy 0, 32, .inl (fr_))), (nq_, .inl (cy 0, 4, .inl (fq_))), (nLF_, .inr (4, [.ref npF_, .ref ngF_, .ref nkF_])), (npF_, .inl (cy 0, lenF_, .inl (fpF_))), (ngF_, .inl (cy 0, 6, .inl (g200705_))), (nkF_, .inl (cy 0, 32, .inl (g200706_))), (no_, .inr (6, [.ref nd_, .int hour_, .ref ns_, .ref nc_, .ref nl_, .ref nt_, .ref nh_, .int v200701_])), (ns_, .inl (cy 0, 8, .inl (g200702_))), (nc_, .inl (cy 0, 8, .inl (fc_))), (nt_, .inl (cy 0, 8, .inl (ft_))), (nd_, .inr (0, [.int lines_, .int columns_, .int levels_, .int things_, .int walkers_, .ref nw_, .ref nr_, .ref nq_, hangs_, .ref nLF_]))] H := hP
    have hD := va_ca hP hD
    refine kVv (As := [.int v200700_, .int v10240_]) (rest := []) (wr := [(nt_, .inl (cy 0, 8, .inl (ft_)))]) hX hE (sf_X6_drop_xR l D cy no_ nd_ hour_ ns_ nc_ nl_ nt_ nh_ v200701_ g200702_ fc_ g200703_ g200704_ lines_ columns_ levels_ things_ walkers_ nw_ nr_ nq_ hangs_ nLF_ fw_ fr_ fq_ npF_ ngF_ nkF_ lenF_ fpF_ g200705_ g200706_ v200700_ v10240_ hlenF_ (rg_w rcolumns_ (by decide) (by decide)) (rg_w rlevels_ (by decide) (by decide)) (rg_w rthings_ (by decide) (by decide)) (rg_w rwalkers_ (by decide) (by decide)) rfq_) (cwVA 2 htA wd_431 wd_428 wd_6 wd_430 wp_1 (by decide +kernel) ⟨by decide, by decide⟩) hP hD hS [9, 10, 11, 0, 1, 13, 2, 3, 4, 5, 6, 7, 8] [12] rfl rfl (by decide +kernel) 0 rfl rfl rfl rfl hl.1 rfl (Nat.le_of_ble_eq_true rfl) dX6_shake_27 (by decide) (fun W1 H locs hw hP hD hS => ?_)
    refine W.widen (k := 0) (n := 0) (by decide) (by decide) ?_
    obtain ⟨v10271_, g10272_, g10273_, g10274_, g10275_, g10276_, k27_0_, rfl⟩ := hw
    have hP : va_P D vwCl [(nt_, .inl (cy 0, 8, .inl (ft_))), (no_, .inr (6, [.ref nd_, .int hour_, .ref ns_, .ref nc_, .ref nl_, .ref nt_, .ref nh_, .int v10271_])), (ns_, .inl (cy 0, 8, .inl (g10272_))), (nc_, .inl (cy 0, 8, .inl (fc_))), (nl_, .inl (cy 0, 8, .inl (g10273_))), (nh_, .inl (cy 0, 4, .inl (g10274_))), (nd_, .inr (0, [.int lines_, .int columns_, .int levels_, .int things_, .int walkers_, .ref nw_, .ref nr_, .ref nq_, hangs_, .ref nLF_])), (nw_, .inl (cy 0, 8, .inl (fw_))), (nr_, .inl (cy 0, 32, .inl (fr_))), (nq_, .inl (cy 0, 4, .inl (fq_))), (nLF_, .inr (4, [.ref npF_, .ref ngF_, .ref nkF_])), (npF_, .inl (cy 0, lenF_, .inl (fpF_))), (ngF_, .inl (cy 0, 6, .inl (g10275_))), (nkF_, .inl (cy 0, 32, .inl (g10276_)))] H := hP
    have hD := va_ca hP hD
    refine lv_iinc (v := v200700_ + 1) (lv' := [(1, .int (v200700_ + 1)), (0, .ref no_)]) hx hb dX6_shake_30 hl (k := 0) rfl rfl (by decide) rfl (fun ls hl => ?_)
    have g3_ : rg (1) (6) (v200700_ + 1) := rg_add g2_ (rg_lit (by decide) : rg (1) (1) (1 : Int32)) (by decide) (by decide) (by decide) (by decide)
    refine lv_goto (tgt := 7) hx hb dX6_shake_33 (by decide) ?_
    have hP : va_P D vwCl [(no_, .inr (6, [.ref nd_, .int hour_, .ref ns_, .ref nc_, .ref nl_, .ref nt_, .ref nh_, .int v10271_])), (ns_, .inl (cy 0, 8, .inl (g10272_))), (nc_, .inl (cy 0, 8, .inl (fc_))), (nl_, .inl (cy 0, 8, .inl (g10273_))), (nt_, .inl (cy 0, 8, .inl (ft_))), (nh_, .inl (cy 0, 4, .inl (g10274_))), (nd_, .inr (0, [.int lines_, .int columns_, .int levels_, .int things_, .int walkers_, .ref nw_, .ref nr_, .ref nq_, hangs_, .ref nLF_])), (nw_, .inl (cy 0, 8, .inl (fw_))), (nr_, .inl (cy 0, 32, .inl (fr_))), (nq_, .inl (cy 0, 4, .inl (fq_))), (nLF_, .inr (4, [.ref npF_, .ref ngF_, .ref nkF_])), (npF_, .inl (cy 0, lenF_, .inl (fpF_))), (ngF_, .inl (cy 0, 6, .inl (g10275_))), (nkF_, .inl (cy 0, 32, .inl (g10276_)))] H := hP.sub [1, 2, 3, 4, 0, 5, 6, 7, 8, 9, 10, 11, 12, 13] rfl
    have hD : va_D A [(no_, .inr (6, [.ref nd_, .int hour_, .ref ns_, .ref nc_, .ref nl_, .ref nt_, .ref nh_, .int v10271_])), (ns_, .inl (cy 0, 8, .inl (g10272_))), (nc_, .inl (cy 0, 8, .inl (fc_))), (nl_, .inl (cy 0, 8, .inl (g10273_))), (nt_, .inl (cy 0, 8, .inl (ft_))), (nh_, .inl (cy 0, 4, .inl (g10274_))), (nd_, .inr (0, [.int lines_, .int columns_, .int levels_, .int things_, .int walkers_, .ref nw_, .ref nr_, .ref nq_, hangs_, .ref nLF_])), (nw_, .inl (cy 0, 8, .inl (fw_))), (nr_, .inl (cy 0, 32, .inl (fr_))), (nq_, .inl (cy 0, 4, .inl (fq_))), (nLF_, .inr (4, [.ref npF_, .ref ngF_, .ref nkF_])), (npF_, .inl (cy 0, lenF_, .inl (fpF_))), (ngF_, .inl (cy 0, 6, .inl (g10275_))), (nkF_, .inl (cy 0, 32, .inl (g10276_)))] := hD.sub [1, 2, 3, 4, 0, 5, 6, 7, 8, 9, 10, 11, 12, 13] (by decide +kernel) rfl
    exact ih7_ (v200700_ + 1, v10271_, g10272_, g10273_, g10274_, g10275_, g10276_) _ _ ls ⟨(rg_w g3_ (by decide) (by decide)), (Itr.st hR1_ (Or.inl ⟨v10240_, v10271_, g10272_, g10273_, g10274_, g10275_, g10276_, c15_, k24_0_, k27_0_, rfl⟩))⟩ (show (7 - (v200700_ + 1).toInt).toNat < (7 - v200700_.toInt).toNat from by rw [show (v200700_ + 1).toInt = v200700_.toInt + 1 from inc32 v200700_ (by have hq := (rv200700_).2; omega)]; have hq := (g2_).1; have hq2 := (g2_).2; omega) hP hD hS (lv_sub hl [0, 1] rfl)
def R_X6_nextFall_xN_j5 (v10210_ : Int32) (v200501_ : Int32) (ft_ : Nat → Int32) (v200500_ : Int32) (v203700_ : Int32) : Prop := (¬ v10210_ = (1 : Int32) ∧ v203700_ = v200501_) ∨ (∃ (v10320_ : Int32), v10210_ = (1 : Int32) ∧ v10320_ = ft_ v200500_.toNatClampNeg ∧ v203700_ = (if v10320_ < v200501_ then v10320_ else v200501_)) ∨ False
def R_X6_nextFall_xN_b1 (things_ : Int32) (fs_ : Nat → Int32) (ft_ : Nat → Int32) (uZ_ vZ_ : Int32 × Int32) : Prop := (∃ (v10210_ : Int32) (v203700_ : Int32), ¬ (things_ ≤ uZ_.1) ∧ v10210_ = fs_ uZ_.1.toNatClampNeg ∧ R_X6_nextFall_xN_j5 v10210_ uZ_.2 ft_ uZ_.1 v203700_ ∧ vZ_ = (uZ_.1 + 1, v203700_)) ∨ False
def R_X6_nextFall_xN_j2 (v200501_ : Int32) (latest_ : Int32) : Prop := (v200501_ = (2147483647 : Int32)) ∨ (¬ (v200501_ = (2147483647 : Int32)) ∧ ¬ (v200501_ ≤ latest_)) ∨ False
def R_X6_nextFall_xN_b4 (columns_ : Int32) (things_ : Int32) (fc_ : Nat → Int32) (ft_ : Nat → Int32) (v200501_ : Int32) (levels_ : Int32) (fw_ : Nat → Int32) (walkers_ : Int32) (fq_ : Nat → Int32) (fr_ : Nat → Int32) (uZ_ vZ_ : Int32 × Int32 × (Nat → Int32) × (Nat → Int32) × (Nat → Int32)) : Prop := (∃ (v10870_ : Int32) (v10901_ : Int32) (g10902_ : Nat → Int32) (g10903_ : Nat → Int32) (g10904_ : Nat → Int32), ¬ (columns_ ≤ uZ_.1) ∧ R_X6_dueIn_e things_ uZ_.2.2.1 fc_ uZ_.1 ft_ v200501_ v10870_ ∧ R_X6_drop_xN_e v10870_ things_ uZ_.2.2.1 fc_ uZ_.1 uZ_.2.2.2.1 levels_ fw_ walkers_ fq_ v200501_ fr_ uZ_.2.2.2.2 uZ_.2.1 v10901_ g10902_ g10903_ g10904_ ∧ vZ_ = (uZ_.1 + 1, v10901_, g10902_, g10903_, g10904_)) ∨ False
def R_X6_nextFall_xN_e (things_ : Int32) (fs_ : Nat → Int32) (ft_ : Nat → Int32) (latest_ : Int32) (hour_ : Int32) (fallen_ : Int32) (fl_ : Nat → Int32) (fh_ : Nat → Int32) (columns_ : Int32) (fc_ : Nat → Int32) (levels_ : Int32) (fw_ : Nat → Int32) (walkers_ : Int32) (fq_ : Nat → Int32) (fr_ : Nat → Int32) (x0_ : Int32) (x1_ : Int32) (x2_ : Nat → Int32) (x3_ : Nat → Int32) (x4_ : Nat → Int32) (r : Int32) : Prop := (∃ (v200500_ : Int32) (v200501_ : Int32), Itr (R_X6_nextFall_xN_b1 things_ fs_ ft_) (0, 2147483647) (v200500_, v200501_) ∧ things_ ≤ v200500_ ∧ R_X6_nextFall_xN_j2 v200501_ latest_ ∧ x0_ = hour_ ∧ x1_ = fallen_ ∧ x2_ = fs_ ∧ x3_ = fl_ ∧ x4_ = fh_ ∧ r = (0 : Int32)) ∨ (∃ (v200500_ : Int32) (v200501_ : Int32) (v206800_ : Int32) (v206801_ : Int32) (g206802_ : Nat → Int32) (g206803_ : Nat → Int32) (g206804_ : Nat → Int32), Itr (R_X6_nextFall_xN_b1 things_ fs_ ft_) (0, 2147483647) (v200500_, v200501_) ∧ things_ ≤ v200500_ ∧ ¬ (v200501_ = (2147483647 : Int32)) ∧ v200501_ ≤ latest_ ∧ Itr (R_X6_nextFall_xN_b4 columns_ things_ fc_ ft_ v200501_ levels_ fw_ walkers_ fq_ fr_) (0, 0, fs_, fl_, fh_) (v206800_, v206801_, g206802_, g206803_, g206804_) ∧ columns_ ≤ v206800_ ∧ x0_ = v200501_ ∧ x1_ = v206801_ ∧ x2_ = g206802_ ∧ x3_ = g206803_ ∧ x4_ = g206804_ ∧ r = (1 : Int32)) ∨ False
set_option maxHeartbeats 4000000 in
set_option maxRecDepth 100000 in
theorem sf_X6_nextFall_xN (l : Launch) (D : va_G) (cy : Nat → ClassId) (no_ : Nat) (nd_ : Nat) (hour_ : Int32) (ns_ : Nat) (nc_ : Nat) (nl_ : Nat) (nt_ : Nat) (nh_ : Nat) (fallen_ : Int32) (fs_ : Nat → Int32) (fc_ : Nat → Int32) (fl_ : Nat → Int32) (ft_ : Nat → Int32) (fh_ : Nat → Int32) (lines_ : Int32) (columns_ : Int32) (levels_ : Int32) (things_ : Int32) (walkers_ : Int32) (nw_ : Nat) (nr_ : Nat) (nq_ : Nat) (hangs_ : Value) (fw_ : Nat → Int32) (fr_ : Nat → Int32) (fq_ : Nat → Int32) (latest_ : Int32) (rcolumns_ : rg (1) (6) columns_) (rlevels_ : rg (1) (9) levels_) (rthings_ : rg (0) (8) things_) (rwalkers_ : rg (0) (4) walkers_) (rfq_ : ag (0) (8) 4 fq_) : Ci l yX6_nextFall cX6_nextFall 4 (some .boolean) { frames := 3, cells := 0, slots := 0, locals := 77 } D cy [.ref no_, .int latest_] [(no_, .inr (6, [.ref nd_, .int hour_, .ref ns_, .ref nc_, .ref nl_, .ref nt_, .ref nh_, .int fallen_])), (ns_, .inl (cy 0, 8, .inl (fs_))), (nc_, .inl (cy 0, 8, .inl (fc_))), (nl_, .inl (cy 0, 8, .inl (fl_))), (nt_, .inl (cy 0, 8, .inl (ft_))), (nh_, .inl (cy 0, 4, .inl (fh_))), (nd_, .inr (0, [.int lines_, .int columns_, .int levels_, .int things_, .int walkers_, .ref nw_, .ref nr_, .ref nq_, hangs_, .null])), (nw_, .inl (cy 0, 8, .inl (fw_))), (nr_, .inl (cy 0, 32, .inl (fr_))), (nq_, .inl (cy 0, 4, .inl (fq_)))] (fun r W1 => ∃ (x0_ : Int32) (x1_ : Int32) (x2_ : Nat → Int32) (x3_ : Nat → Int32) (x4_ : Nat → Int32), R_X6_nextFall_xN_e things_ fs_ ft_ latest_ hour_ fallen_ fl_ fh_ columns_ fc_ levels_ fw_ walkers_ fq_ fr_ x0_ x1_ x2_ x3_ x4_ r ∧ W1 = [(no_, .inr (6, [.ref nd_, .int x0_, .ref ns_, .ref nc_, .ref nl_, .ref nt_, .ref nh_, .int x1_])), (ns_, .inl (cy 0, 8, .inl (x2_))), (nc_, .inl (cy 0, 8, .inl (fc_))), (nl_, .inl (cy 0, 8, .inl (x3_))), (nt_, .inl (cy 0, 8, .inl (ft_))), (nh_, .inl (cy 0, 4, .inl (x4_))), (nd_, .inr (0, [.int lines_, .int columns_, .int levels_, .int things_, .int walkers_, .ref nw_, .ref nr_, .ref nq_, hangs_, .null])), (nw_, .inl (cy 0, 8, .inl (fw_))), (nr_, .inl (cy 0, 32, .inl (fr_))), (nq_, .inl (cy 0, 4, .inl (fq_)))] ∧ rg (0) (1) r) := by
  refine Ci.of (by decide) (Nat.le_of_ble_eq_true rfl) ?_
  intro p e s m below meth c A ls hX hE hP hD hl
  obtain ⟨hx, hb, hr, hml, hown, htA, hlk⟩ := id hX
  have hK := hE.1
  have hS : va_S A s.heap s.heap [] := va_S.rf
  have hl : lv_has ls 4 [(0, .ref no_), (1, .int latest_)] := hl
  refine lv_ldc hx hb hown (htA _ wd_476) dX6_nextFall_0 ?_
  refine lv_istore_n (lv' := [(2, .int 2147483647), (0, .ref no_), (1, .int latest_)]) hx hb dX6_nextFall_2 rfl hl (by decide) rfl (fun ls hl => ?_)
  refine lv_iconst (v := 0) hx hb dX6_nextFall_3 (by decide) ?_
  refine lv_istore_n (lv' := [(3, .int 0), (2, .int 2147483647), (0, .ref no_), (1, .int latest_)]) hx hb dX6_nextFall_4 rfl hl (by decide) rfl (fun ls hl => ?_)
  refine loopT (τ := Int32 × Int32) (WS := fun i => [(no_, .inr (6, [.ref nd_, .int hour_, .ref ns_, .ref nc_, .ref nl_, .ref nt_, .ref nh_, .int fallen_])), (ns_, .inl (cy 0, 8, .inl (fs_))), (nc_, .inl (cy 0, 8, .inl (fc_))), (nl_, .inl (cy 0, 8, .inl (fl_))), (nt_, .inl (cy 0, 8, .inl (ft_))), (nh_, .inl (cy 0, 4, .inl (fh_))), (nd_, .inr (0, [.int lines_, .int columns_, .int levels_, .int things_, .int walkers_, .ref nw_, .ref nr_, .ref nq_, hangs_, .null])), (nw_, .inl (cy 0, 8, .inl (fw_))), (nr_, .inl (cy 0, 32, .inl (fr_))), (nq_, .inl (cy 0, 4, .inl (fq_)))]) (LV := fun i => [(3, .int i.1), (2, .int i.2), (0, .ref no_), (1, .int latest_)]) (fun i => (9 - i.1.toInt).toNat) (fun i => rg (0) (8) i.1 ∧ Itr (R_X6_nextFall_xN_b1 things_ fs_ ft_) (0, 2147483647) (i.1, i.2)) ?_ (0, 2147483647) ⟨(rg_w (rg_lit (by decide) : rg (0) (0) (0 : Int32)) (by decide) (by decide)), (Itr.rf _ _)⟩ hP hD hS (lv_sub hl [0, 1, 2, 3] rfl)
  intro i_ H locs ls hI ih5_ hP hD hS hl
  obtain ⟨v200500_, v200501_⟩ := i_
  have hI : rg (0) (8) v200500_ ∧ Itr (R_X6_nextFall_xN_b1 things_ fs_ ft_) (0, 2147483647) (v200500_, v200501_) := hI
  obtain ⟨rv200500_, hR1_⟩ := hI
  have hP : va_P D vwCl [(no_, .inr (6, [.ref nd_, .int hour_, .ref ns_, .ref nc_, .ref nl_, .ref nt_, .ref nh_, .int fallen_])), (ns_, .inl (cy 0, 8, .inl (fs_))), (nc_, .inl (cy 0, 8, .inl (fc_))), (nl_, .inl (cy 0, 8, .inl (fl_))), (nt_, .inl (cy 0, 8, .inl (ft_))), (nh_, .inl (cy 0, 4, .inl (fh_))), (nd_, .inr (0, [.int lines_, .int columns_, .int levels_, .int things_, .int walkers_, .ref nw_, .ref nr_, .ref nq_, hangs_, .null])), (nw_, .inl (cy 0, 8, .inl (fw_))), (nr_, .inl (cy 0, 32, .inl (fr_))), (nq_, .inl (cy 0, 4, .inl (fq_)))] H := hP
  have hD := va_ca hP hD
  have hl : lv_has ls 4 [(3, .int v200500_), (2, .int v200501_), (0, .ref no_), (1, .int latest_)] := hl
  refine lv_iload_n hx hb dX6_nextFall_5 rfl (lv_at hl 0 rfl) ?_
  refine lv_aload_n hx hb dX6_nextFall_6 rfl (lv_at hl 2 rfl) ?_
  refine va_get (ci := 6) (v := .ref nd_) (C := RX6) (T := TX6) (N := 8) hx hb htA in_X6 hown hK hP 0 rfl rfl 0 (by decide) (htA _ wd_166) (fun _ h => h) rfl dX6_nextFall_7 ?_
  refine va_get (ci := 0) (v := .int things_) (C := RX0) (T := TX0) (N := 10) hx hb htA in_X0 hown hK hP 6 rfl rfl 3 (by decide) (htA _ wd_86) (fun _ h => h) rfl dX6_nextFall_10 ?_
  refine lv_icmp_ge (tgt := 43) hx hb dX6_nextFall_13 (by decide) (fun c13_ => ?_) (fun c13_ => ?_)
  · refine lv_iload_n hx hb dX6_nextFall_43 rfl (lv_at hl 1 rfl) ?_
    refine lv_ldc hx hb hown (htA _ wd_476) dX6_nextFall_44 ?_
    refine joinT (D := D) (A := A) (pc := 54) (mL := 4) (τ := Unit) (WS := fun i => [(no_, .inr (6, [.ref nd_, .int hour_, .ref ns_, .ref nc_, .ref nl_, .ref nt_, .ref nh_, .int fallen_])), (ns_, .inl (cy 0, 8, .inl (fs_))), (nc_, .inl (cy 0, 8, .inl (fc_))), (nl_, .inl (cy 0, 8, .inl (fl_))), (nt_, .inl (cy 0, 8, .inl (ft_))), (nh_, .inl (cy 0, 4, .inl (fh_))), (nd_, .inr (0, [.int lines_, .int columns_, .int levels_, .int things_, .int walkers_, .ref nw_, .ref nr_, .ref nq_, hangs_, .null])), (nw_, .inl (cy 0, 8, .inl (fw_))), (nr_, .inl (cy 0, 32, .inl (fr_))), (nq_, .inl (cy 0, 4, .inl (fq_)))]) (LV := fun i => [(3, .int v200500_), (2, .int v200501_), (0, .ref no_), (1, .int latest_)]) (ST := fun i => []) (cells := 0) (slots := 0) (fun i => rg (-2147483647) (2147483647) v200501_ ∧ R_X6_nextFall_xN_j2 v200501_ latest_) (fun u0_ H locs ls hI hP hD hS hl => ?_) (fun j54_ => ?_)
    · have hI : rg (-2147483647) (2147483647) v200501_ ∧ R_X6_nextFall_xN_j2 v200501_ latest_ := hI
      obtain ⟨q54_l_2_, hR2_⟩ := hI
      have hP : va_P D vwCl [(no_, .inr (6, [.ref nd_, .int hour_, .ref ns_, .ref nc_, .ref nl_, .ref nt_, .ref nh_, .int fallen_])), (ns_, .inl (cy 0, 8, .inl (fs_))), (nc_, .inl (cy 0, 8, .inl (fc_))), (nl_, .inl (cy 0, 8, .inl (fl_))), (nt_, .inl (cy 0, 8, .inl (ft_))), (nh_, .inl (cy 0, 4, .inl (fh_))), (nd_, .inr (0, [.int lines_, .int columns_, .int levels_, .int things_, .int walkers_, .ref nw_, .ref nr_, .ref nq_, hangs_, .null])), (nw_, .inl (cy 0, 8, .inl (fw_))), (nr_, .inl (cy 0, 32, .inl (fr_))), (nq_, .inl (cy 0, 4, .inl (fq_)))] H := hP
      have hD := va_ca hP hD
      have hl : lv_has ls 4 [(3, .int v200500_), (2, .int v200501_), (0, .ref no_), (1, .int latest_)] := hl
      refine lv_iconst (v := 0) hx hb dX6_nextFall_54 (by decide) ?_
      exact rZ hX (by decide) hE hP hD hS dX6_nextFall_55 (by decide) (by decide) ⟨hour_, fallen_, fs_, fl_, fh_, (Or.inl ⟨v200500_, v200501_, hR1_, c13_, hR2_, rfl, rfl, rfl, rfl, rfl, rfl⟩), rfl, (rg_w (rg_lit (by decide) : rg (0) (0) (0 : Int32)) (by decide) (by decide))⟩
    refine lv_icmp_eq (tgt := 54) hx hb dX6_nextFall_46 (by decide) (fun c46_ => ?_) (fun c46_ => ?_)
    · have g1_ : rg (2147483647) (2147483647) v200501_ := rg_eq c46_ (rg_lit (by decide) : rg (2147483647) (2147483647) (2147483647 : Int32))
      exact j54_ () _ _ ls ⟨(rg_w g1_ (by decide) (by decide)), (Or.inl c46_)⟩ hP hD hS (lv_sub hl [0, 1, 2, 3] rfl)
    · have g2_ : rg (-2147483648) (2147483646) v200501_ := rg_ne2 c46_ (rg_any _) (by decide) (by decide)
      refine lv_iload_n hx hb dX6_nextFall_49 rfl (lv_at hl 1 rfl) ?_
      refine lv_iload_n hx hb dX6_nextFall_50 rfl (lv_at hl 3 rfl) ?_
      refine lv_icmp_le (tgt := 56) hx hb dX6_nextFall_51 (by decide) (fun c51_ => ?_) (fun c51_ => ?_)
      · refine lv_aload_n hx hb dX6_nextFall_56 rfl (lv_at hl 2 rfl) ?_
        refine lv_iload_n hx hb dX6_nextFall_57 rfl (lv_at hl 1 rfl) ?_
        refine va_put (ci := 6) (v := .int v200501_) (ty := .int) (C := RX6) (T := TX6) (N := 8) hx hb htA in_X6 tyX6 tyX6_ok nmX6 hown hK hP hD hS 0 rfl rfl 1 (by decide) (htA _ wd_170) (fun _ h => h) rfl (by decide +kernel) rfl rfl (Nat.le_of_ble_eq_true rfl) dX6_nextFall_58 (fun H locs hP hD hS => ?_)
        have hP : va_P D vwCl [(no_, .inr (6, [.ref nd_, .int v200501_, .ref ns_, .ref nc_, .ref nl_, .ref nt_, .ref nh_, .int fallen_])), (ns_, .inl (cy 0, 8, .inl (fs_))), (nc_, .inl (cy 0, 8, .inl (fc_))), (nl_, .inl (cy 0, 8, .inl (fl_))), (nt_, .inl (cy 0, 8, .inl (ft_))), (nh_, .inl (cy 0, 4, .inl (fh_))), (nd_, .inr (0, [.int lines_, .int columns_, .int levels_, .int things_, .int walkers_, .ref nw_, .ref nr_, .ref nq_, hangs_, .null])), (nw_, .inl (cy 0, 8, .inl (fw_))), (nr_, .inl (cy 0, 32, .inl (fr_))), (nq_, .inl (cy 0, 4, .inl (fq_)))] H := hP
        have hD := va_ca hP hD
        refine lv_aload_n hx hb dX6_nextFall_61 rfl (lv_at hl 2 rfl) ?_
        refine lv_iconst (v := 0) hx hb dX6_nextFall_62 (by decide) ?_
        refine va_put (ci := 6) (v := .int 0) (ty := .int) (C := RX6) (T := TX6) (N := 8) hx hb htA in_X6 tyX6 tyX6_ok nmX6 hown hK hP hD hS 0 rfl rfl 7 (by decide) (htA _ wd_189) (fun _ h => h) rfl (by decide +kernel) rfl rfl (Nat.le_of_ble_eq_true rfl) dX6_nextFall_63 (fun H locs hP hD hS => ?_)
        have hP : va_P D vwCl [(no_, .inr (6, [.ref nd_, .int v200501_, .ref ns_, .ref nc_, .ref nl_, .ref nt_, .ref nh_, .int 0])), (ns_, .inl (cy 0, 8, .inl (fs_))), (nc_, .inl (cy 0, 8, .inl (fc_))), (nl_, .inl (cy 0, 8, .inl (fl_))), (nt_, .inl (cy 0, 8, .inl (ft_))), (nh_, .inl (cy 0, 4, .inl (fh_))), (nd_, .inr (0, [.int lines_, .int columns_, .int levels_, .int things_, .int walkers_, .ref nw_, .ref nr_, .ref nq_, hangs_, .null])), (nw_, .inl (cy 0, 8, .inl (fw_))), (nr_, .inl (cy 0, 32, .inl (fr_))), (nq_, .inl (cy 0, 4, .inl (fq_)))] H := hP
        have hD := va_ca hP hD
        refine lv_iconst (v := 0) hx hb dX6_nextFall_66 (by decide) ?_
        refine lv_istore_n (lv' := [(3, .int 0), (2, .int v200501_), (0, .ref no_), (1, .int latest_)]) hx hb dX6_nextFall_67 rfl hl (by decide) rfl (fun ls hl => ?_)
        refine loopT (τ := Int32 × Int32 × (Nat → Int32) × (Nat → Int32) × (Nat → Int32)) (WS := fun i => [(no_, .inr (6, [.ref nd_, .int v200501_, .ref ns_, .ref nc_, .ref nl_, .ref nt_, .ref nh_, .int i.2.1])), (ns_, .inl (cy 0, 8, .inl (i.2.2.1))), (nc_, .inl (cy 0, 8, .inl (fc_))), (nl_, .inl (cy 0, 8, .inl (i.2.2.2.1))), (nt_, .inl (cy 0, 8, .inl (ft_))), (nh_, .inl (cy 0, 4, .inl (i.2.2.2.2))), (nd_, .inr (0, [.int lines_, .int columns_, .int levels_, .int things_, .int walkers_, .ref nw_, .ref nr_, .ref nq_, hangs_, .null])), (nw_, .inl (cy 0, 8, .inl (fw_))), (nr_, .inl (cy 0, 32, .inl (fr_))), (nq_, .inl (cy 0, 4, .inl (fq_)))]) (LV := fun i => [(3, .int i.1), (2, .int v200501_), (0, .ref no_), (1, .int latest_)]) (fun i => (7 - i.1.toInt).toNat) (fun i => rg (0) (6) i.1 ∧ Itr (R_X6_nextFall_xN_b4 columns_ things_ fc_ ft_ v200501_ levels_ fw_ walkers_ fq_ fr_) (0, 0, fs_, fl_, fh_) (i.1, i.2.1, i.2.2.1, i.2.2.2.1, i.2.2.2.2)) ?_ (0, 0, fs_, fl_, fh_) ⟨(rg_w (rg_lit (by decide) : rg (0) (0) (0 : Int32)) (by decide) (by decide)), (Itr.rf _ _)⟩ hP hD hS (lv_sub hl [0, 1, 2, 3] rfl)
        intro i_ H locs ls hI ih68_ hP hD hS hl
        obtain ⟨v206800_, v206801_, g206802_, g206803_, g206804_⟩ := i_
        have hI : rg (0) (6) v206800_ ∧ Itr (R_X6_nextFall_xN_b4 columns_ things_ fc_ ft_ v200501_ levels_ fw_ walkers_ fq_ fr_) (0, 0, fs_, fl_, fh_) (v206800_, v206801_, g206802_, g206803_, g206804_) := hI
        obtain ⟨rv206800_, hR4_⟩ := hI
        have hP : va_P D vwCl [(no_, .inr (6, [.ref nd_, .int v200501_, .ref ns_, .ref nc_, .ref nl_, .ref nt_, .ref nh_, .int v206801_])), (ns_, .inl (cy 0, 8, .inl (g206802_))), (nc_, .inl (cy 0, 8, .inl (fc_))), (nl_, .inl (cy 0, 8, .inl (g206803_))), (nt_, .inl (cy 0, 8, .inl (ft_))), (nh_, .inl (cy 0, 4, .inl (g206804_))), (nd_, .inr (0, [.int lines_, .int columns_, .int levels_, .int things_, .int walkers_, .ref nw_, .ref nr_, .ref nq_, hangs_, .null])), (nw_, .inl (cy 0, 8, .inl (fw_))), (nr_, .inl (cy 0, 32, .inl (fr_))), (nq_, .inl (cy 0, 4, .inl (fq_)))] H := hP
        have hD := va_ca hP hD
        have hl : lv_has ls 4 [(3, .int v206800_), (2, .int v200501_), (0, .ref no_), (1, .int latest_)] := hl
        refine lv_iload_n hx hb dX6_nextFall_68 rfl (lv_at hl 0 rfl) ?_
        refine lv_aload_n hx hb dX6_nextFall_69 rfl (lv_at hl 2 rfl) ?_
        refine va_get (ci := 6) (v := .ref nd_) (C := RX6) (T := TX6) (N := 8) hx hb htA in_X6 hown hK hP 0 rfl rfl 0 (by decide) (htA _ wd_166) (fun _ h => h) rfl dX6_nextFall_70 ?_
        refine va_get (ci := 0) (v := .int columns_) (C := RX0) (T := TX0) (N := 10) hx hb htA in_X0 hown hK hP 6 rfl rfl 1 (by decide) (htA _ wd_81) (fun _ h => h) rfl dX6_nextFall_73 ?_
        refine lv_icmp_ge (tgt := 99) hx hb dX6_nextFall_76 (by decide) (fun c76_ => ?_) (fun c76_ => ?_)
        · have g3_ : rg (1) (6) v206800_ := rg_le2 c76_ rcolumns_ rv206800_ (by decide)
          refine lv_iconst (v := 1) hx hb dX6_nextFall_99 (by decide) ?_
          exact rZ hX (by decide) hE hP hD hS dX6_nextFall_100 (by decide) (by decide) ⟨v200501_, v206801_, g206802_, g206803_, g206804_, (Or.inr (Or.inl ⟨v200500_, v200501_, v206800_, v206801_, g206802_, g206803_, g206804_, hR1_, c13_, c46_, c51_, hR4_, c76_, rfl, rfl, rfl, rfl, rfl, rfl⟩)), rfl, (rg_w (rg_lit (by decide) : rg (1) (1) (1 : Int32)) (by decide) (by decide))⟩
        · have g4_ : rg (0) (5) v206800_ := rg_lt1 (rg_nle c76_) rv206800_ rcolumns_ (by decide)
          refine lv_aload_n hx hb dX6_nextFall_79 rfl (lv_at hl 2 rfl) ?_
          refine lv_iload_n hx hb dX6_nextFall_80 rfl (lv_at hl 0 rfl) ?_
          refine lv_aload_n hx hb dX6_nextFall_81 rfl (lv_at hl 2 rfl) ?_
          refine lv_iload_n hx hb dX6_nextFall_82 rfl (lv_at hl 0 rfl) ?_
          refine lv_aload_n hx hb dX6_nextFall_83 rfl (lv_at hl 2 rfl) ?_
          refine va_get (ci := 6) (v := .int v200501_) (C := RX6) (T := TX6) (N := 8) hx hb htA in_X6 hown hK hP 0 rfl rfl 1 (by decide) (htA _ wd_170) (fun _ h => h) rfl dX6_nextFall_84 ?_
          refine kVi (As := [.int v206800_, .int v200501_]) (rest := [.int v206800_, .ref no_]) (wr := [(nl_, .inl (cy 0, 8, .inl (g206803_))), (nh_, .inl (cy 0, 4, .inl (g206804_))), (nw_, .inl (cy 0, 8, .inl (fw_))), (nr_, .inl (cy 0, 32, .inl (fr_))), (nq_, .inl (cy 0, 4, .inl (fq_)))]) hX hE (sf_X6_dueIn l D cy no_ nd_ v200501_ ns_ nc_ nl_ nt_ nh_ v206801_ g206802_ fc_ ft_ lines_ columns_ levels_ things_ walkers_ nw_ nr_ nq_ hangs_ .null v206800_ v200501_ (rg_w rcolumns_ (by decide) (by decide)) (rg_w rlevels_ (by decide) (by decide)) (rg_w rthings_ (by decide) (by decide)) (rg_w rwalkers_ (by decide) (by decide))) (cwVA 2 htA wd_480 wd_477 wd_6 wd_479 wp_3 (by decide +kernel) ⟨by decide, by decide⟩) hP hD hS [0, 1, 2, 4, 6] [3, 5, 7, 8, 9] rfl rfl (by decide +kernel) 0 rfl rfl rfl rfl hl.1 rfl (Nat.le_of_ble_eq_true rfl) dX6_nextFall_87 (by decide) (fun v10870_ W1 H locs hw hP hD hS => ?_)
          refine W.widen (k := 0) (n := 0) (by decide) (by decide) ?_
          obtain ⟨k87_0_, rfl⟩ := hw
          have hP : va_P D vwCl [(nl_, .inl (cy 0, 8, .inl (g206803_))), (nh_, .inl (cy 0, 4, .inl (g206804_))), (nw_, .inl (cy 0, 8, .inl (fw_))), (nr_, .inl (cy 0, 32, .inl (fr_))), (nq_, .inl (cy 0, 4, .inl (fq_))), (no_, .inr (6, [.ref nd_, .int v200501_, .ref ns_, .ref nc_, .ref nl_, .ref nt_, .ref nh_, .int v206801_])), (ns_, .inl (cy 0, 8, .inl (g206802_))), (nc_, .inl (cy 0, 8, .inl (fc_))), (nt_, .inl (cy 0, 8, .inl (ft_))), (nd_, .inr (0, [.int lines_, .int columns_, .int levels_, .int things_, .int walkers_, .ref nw_, .ref nr_, .ref nq_, hangs_, .null]))] H := hP
          have hD := va_ca hP hD
          refine kVv (As := [.int v206800_, .int v10870_]) (rest := []) (wr := [(nt_, .inl (cy 0, 8, .inl (ft_)))]) hX hE (sf_X6_drop_xN l D cy no_ nd_ v200501_ ns_ nc_ nl_ nt_ nh_ v206801_ g206802_ fc_ g206803_ g206804_ lines_ columns_ levels_ things_ walkers_ nw_ nr_ nq_ hangs_ fw_ fr_ fq_ v206800_ v10870_ (rg_w rcolumns_ (by decide) (by decide)) (rg_w rlevels_ (by decide) (by decide)) (rg_w rthings_ (by decide) (by decide)) (rg_w rwalkers_ (by decide) (by decide)) rfq_) (cwVA 2 htA wd_431 wd_428 wd_6 wd_430 wp_1 (by decide +kernel) ⟨by decide, by decide⟩) hP hD hS [5, 6, 7, 0, 1, 9, 2, 3, 4] [8] rfl rfl (by decide +kernel) 0 rfl rfl rfl rfl hl.1 rfl (Nat.le_of_ble_eq_true rfl) dX6_nextFall_90 (by decide) (fun W1 H locs hw hP hD hS => ?_)
          refine W.widen (k := 0) (n := 0) (by decide) (by decide) ?_
          obtain ⟨v10901_, g10902_, g10903_, g10904_, k90_0_, rfl⟩ := hw
          have hP : va_P D vwCl [(nt_, .inl (cy 0, 8, .inl (ft_))), (no_, .inr (6, [.ref nd_, .int v200501_, .ref ns_, .ref nc_, .ref nl_, .ref nt_, .ref nh_, .int v10901_])), (ns_, .inl (cy 0, 8, .inl (g10902_))), (nc_, .inl (cy 0, 8, .inl (fc_))), (nl_, .inl (cy 0, 8, .inl (g10903_))), (nh_, .inl (cy 0, 4, .inl (g10904_))), (nd_, .inr (0, [.int lines_, .int columns_, .int levels_, .int things_, .int walkers_, .ref nw_, .ref nr_, .ref nq_, hangs_, .null])), (nw_, .inl (cy 0, 8, .inl (fw_))), (nr_, .inl (cy 0, 32, .inl (fr_))), (nq_, .inl (cy 0, 4, .inl (fq_)))] H := hP
          have hD := va_ca hP hD
          refine lv_iinc (v := v206800_ + 1) (lv' := [(3, .int (v206800_ + 1)), (2, .int v200501_), (0, .ref no_), (1, .int latest_)]) hx hb dX6_nextFall_93 hl (k := 0) rfl rfl (by decide) rfl (fun ls hl => ?_)
          have g5_ : rg (1) (6) (v206800_ + 1) := rg_add g4_ (rg_lit (by decide) : rg (1) (1) (1 : Int32)) (by decide) (by decide) (by decide) (by decide)
          refine lv_goto (tgt := 68) hx hb dX6_nextFall_96 (by decide) ?_
          have hP : va_P D vwCl [(no_, .inr (6, [.ref nd_, .int v200501_, .ref ns_, .ref nc_, .ref nl_, .ref nt_, .ref nh_, .int v10901_])), (ns_, .inl (cy 0, 8, .inl (g10902_))), (nc_, .inl (cy 0, 8, .inl (fc_))), (nl_, .inl (cy 0, 8, .inl (g10903_))), (nt_, .inl (cy 0, 8, .inl (ft_))), (nh_, .inl (cy 0, 4, .inl (g10904_))), (nd_, .inr (0, [.int lines_, .int columns_, .int levels_, .int things_, .int walkers_, .ref nw_, .ref nr_, .ref nq_, hangs_, .null])), (nw_, .inl (cy 0, 8, .inl (fw_))), (nr_, .inl (cy 0, 32, .inl (fr_))), (nq_, .inl (cy 0, 4, .inl (fq_)))] H := hP.sub [1, 2, 3, 4, 0, 5, 6, 7, 8, 9] rfl
          have hD : va_D A [(no_, .inr (6, [.ref nd_, .int v200501_, .ref ns_, .ref nc_, .ref nl_, .ref nt_, .ref nh_, .int v10901_])), (ns_, .inl (cy 0, 8, .inl (g10902_))), (nc_, .inl (cy 0, 8, .inl (fc_))), (nl_, .inl (cy 0, 8, .inl (g10903_))), (nt_, .inl (cy 0, 8, .inl (ft_))), (nh_, .inl (cy 0, 4, .inl (g10904_))), (nd_, .inr (0, [.int lines_, .int columns_, .int levels_, .int things_, .int walkers_, .ref nw_, .ref nr_, .ref nq_, hangs_, .null])), (nw_, .inl (cy 0, 8, .inl (fw_))), (nr_, .inl (cy 0, 32, .inl (fr_))), (nq_, .inl (cy 0, 4, .inl (fq_)))] := hD.sub [1, 2, 3, 4, 0, 5, 6, 7, 8, 9] (by decide +kernel) rfl
          exact ih68_ (v206800_ + 1, v10901_, g10902_, g10903_, g10904_) _ _ ls ⟨(rg_w g5_ (by decide) (by decide)), (Itr.st hR4_ (Or.inl ⟨v10870_, v10901_, g10902_, g10903_, g10904_, c76_, k87_0_, k90_0_, rfl⟩))⟩ (show (7 - (v206800_ + 1).toInt).toNat < (7 - v206800_.toInt).toNat from by rw [show (v206800_ + 1).toInt = v206800_.toInt + 1 from inc32 v206800_ (by have hq := (rv206800_).2; omega)]; have hq := (g4_).1; have hq2 := (g4_).2; omega) hP hD hS (lv_sub hl [0, 1, 2, 3] rfl)
      · have g6_ : rg (-2147483648) (2147483645) latest_ := rg_lt1 (rg_nle c51_) (rg_any _) g2_ (by decide)
        have g7_ : rg (-2147483647) (2147483646) v200501_ := rg_lt2 (rg_nle c51_) (rg_any _) g2_ (by decide)
        exact j54_ () _ _ ls ⟨(rg_w g7_ (by decide) (by decide)), (Or.inr (Or.inl ⟨c46_, c51_⟩))⟩ hP hD hS (lv_sub hl [0, 1, 2, 3] rfl)
  · have g8_ : rg (0) (7) v200500_ := rg_lt1 (rg_nle c13_) rv200500_ rthings_ (by decide)
    have g9_ : rg (1) (8) things_ := rg_lt2 (rg_nle c13_) rv200500_ rthings_ (by decide)
    refine lv_aload_n hx hb dX6_nextFall_16 rfl (lv_at hl 2 rfl) ?_
    refine va_get (ci := 6) (v := .ref ns_) (C := RX6) (T := TX6) (N := 8) hx hb htA in_X6 hown hK hP 0 rfl rfl 2 (by decide) (htA _ wd_174) (fun _ h => h) rfl dX6_nextFall_17 ?_
    refine lv_iload_n hx hb dX6_nextFall_20 rfl (lv_at hl 0 rfl) ?_
    refine va_iald hx hb hK hP 1 0 rfl rfl (rg_in g8_ (by decide) (by decide)) dX6_nextFall_21 ?_
    refine lv_topi (fun v10210_ ev10210_ => ?_)
    refine lv_iconst (v := 1) hx hb dX6_nextFall_22 (by decide) ?_
    refine joinT (D := D) (A := A) (pc := 37) (mL := 4) (τ := Int32) (WS := fun i => [(no_, .inr (6, [.ref nd_, .int hour_, .ref ns_, .ref nc_, .ref nl_, .ref nt_, .ref nh_, .int fallen_])), (ns_, .inl (cy 0, 8, .inl (fs_))), (nc_, .inl (cy 0, 8, .inl (fc_))), (nl_, .inl (cy 0, 8, .inl (fl_))), (nt_, .inl (cy 0, 8, .inl (ft_))), (nh_, .inl (cy 0, 4, .inl (fh_))), (nd_, .inr (0, [.int lines_, .int columns_, .int levels_, .int things_, .int walkers_, .ref nw_, .ref nr_, .ref nq_, hangs_, .null])), (nw_, .inl (cy 0, 8, .inl (fw_))), (nr_, .inl (cy 0, 32, .inl (fr_))), (nq_, .inl (cy 0, 4, .inl (fq_)))]) (LV := fun i => [(3, .int v200500_), (2, .int i), (0, .ref no_), (1, .int latest_)]) (ST := fun i => []) (cells := 0) (slots := 0) (fun i => R_X6_nextFall_xN_j5 v10210_ v200501_ ft_ v200500_ i) (fun v203700_ H locs ls hI hP hD hS hl => ?_) (fun j37_ => ?_)
    · have hI : R_X6_nextFall_xN_j5 v10210_ v200501_ ft_ v200500_ v203700_ := hI
      have hR5_ := hI
      have hP : va_P D vwCl [(no_, .inr (6, [.ref nd_, .int hour_, .ref ns_, .ref nc_, .ref nl_, .ref nt_, .ref nh_, .int fallen_])), (ns_, .inl (cy 0, 8, .inl (fs_))), (nc_, .inl (cy 0, 8, .inl (fc_))), (nl_, .inl (cy 0, 8, .inl (fl_))), (nt_, .inl (cy 0, 8, .inl (ft_))), (nh_, .inl (cy 0, 4, .inl (fh_))), (nd_, .inr (0, [.int lines_, .int columns_, .int levels_, .int things_, .int walkers_, .ref nw_, .ref nr_, .ref nq_, hangs_, .null])), (nw_, .inl (cy 0, 8, .inl (fw_))), (nr_, .inl (cy 0, 32, .inl (fr_))), (nq_, .inl (cy 0, 4, .inl (fq_)))] H := hP
      have hD := va_ca hP hD
      have hl : lv_has ls 4 [(3, .int v200500_), (2, .int v203700_), (0, .ref no_), (1, .int latest_)] := hl
      refine lv_iinc (v := v200500_ + 1) (lv' := [(3, .int (v200500_ + 1)), (2, .int v203700_), (0, .ref no_), (1, .int latest_)]) hx hb dX6_nextFall_37 hl (k := 0) rfl rfl (by decide) rfl (fun ls hl => ?_)
      have g10_ : rg (1) (8) (v200500_ + 1) := rg_add g8_ (rg_lit (by decide) : rg (1) (1) (1 : Int32)) (by decide) (by decide) (by decide) (by decide)
      refine lv_goto (tgt := 5) hx hb dX6_nextFall_40 (by decide) ?_
      exact ih5_ (v200500_ + 1, v203700_) _ _ ls ⟨(rg_w g10_ (by decide) (by decide)), (Itr.st hR1_ (Or.inl ⟨v10210_, v203700_, c13_, ev10210_, hR5_, rfl⟩))⟩ (show (9 - (v200500_ + 1).toInt).toNat < (9 - v200500_.toInt).toNat from by rw [show (v200500_ + 1).toInt = v200500_.toInt + 1 from inc32 v200500_ (by have hq := (rv200500_).2; omega)]; have hq := (g8_).1; have hq2 := (g8_).2; omega) hP hD hS (lv_sub hl [0, 1, 2, 3] rfl)
    refine lv_icmp_ne (tgt := 37) hx hb dX6_nextFall_23 (by decide) (fun c23_ => ?_) (fun c23_ => ?_)
    · exact j37_ v200501_ _ _ ls (Or.inl ⟨c23_, rfl⟩) hP hD hS (lv_sub hl [0, 1, 2, 3] rfl)
    · have g11_ : rg (1) (1) v10210_ := rg_eq c23_ (rg_lit (by decide) : rg (1) (1) (1 : Int32))
      refine lv_iload_n hx hb dX6_nextFall_26 rfl (lv_at hl 1 rfl) ?_
      refine lv_aload_n hx hb dX6_nextFall_27 rfl (lv_at hl 2 rfl) ?_
      refine va_get (ci := 6) (v := .ref nt_) (C := RX6) (T := TX6) (N := 8) hx hb htA in_X6 hown hK hP 0 rfl rfl 5 (by decide) (htA _ wd_184) (fun _ h => h) rfl dX6_nextFall_28 ?_
      refine lv_iload_n hx hb dX6_nextFall_31 rfl (lv_at hl 0 rfl) ?_
      refine va_iald hx hb hK hP 4 0 rfl rfl (rg_in g8_ (by decide) (by decide)) dX6_nextFall_32 ?_
      refine lv_topi (fun v10320_ ev10320_ => ?_)
      refine va_mmin hx hb (hml.trans hl.1.symm) hown (htA _ wd_495) (htA _ wd_422) (htA _ wd_19) (htA _ wd_423) (by decide) (Nat.le_of_ble_eq_true rfl) (by decide) (by decide) dX6_nextFall_33 ?_
      refine lv_istore_n (lv' := [(2, .int (if v10320_ < v200501_ then v10320_ else v200501_)), (3, .int v200500_), (0, .ref no_), (1, .int latest_)]) hx hb dX6_nextFall_36 rfl hl (by decide) rfl (fun ls hl => ?_)
      exact j37_ (if v10320_ < v200501_ then v10320_ else v200501_) _ _ ls (Or.inr (Or.inl ⟨v10320_, c23_, ev10320_, rfl⟩)) hP hD hS (lv_sub hl [1, 0, 2, 3] rfl)
def R_X6_nextFall_xR_j5 (v10210_ : Int32) (v200501_ : Int32) (ft_ : Nat → Int32) (v200500_ : Int32) (v203700_ : Int32) : Prop := (¬ v10210_ = (1 : Int32) ∧ v203700_ = v200501_) ∨ (∃ (v10320_ : Int32), v10210_ = (1 : Int32) ∧ v10320_ = ft_ v200500_.toNatClampNeg ∧ v203700_ = (if v10320_ < v200501_ then v10320_ else v200501_)) ∨ False
def R_X6_nextFall_xR_b1 (things_ : Int32) (fs_ : Nat → Int32) (ft_ : Nat → Int32) (uZ_ vZ_ : Int32 × Int32) : Prop := (∃ (v10210_ : Int32) (v203700_ : Int32), ¬ (things_ ≤ uZ_.1) ∧ v10210_ = fs_ uZ_.1.toNatClampNeg ∧ R_X6_nextFall_xR_j5 v10210_ uZ_.2 ft_ uZ_.1 v203700_ ∧ vZ_ = (uZ_.1 + 1, v203700_)) ∨ False
def R_X6_nextFall_xR_j2 (v200501_ : Int32) (latest_ : Int32) : Prop := (v200501_ = (2147483647 : Int32)) ∨ (¬ (v200501_ = (2147483647 : Int32)) ∧ ¬ (v200501_ ≤ latest_)) ∨ False
def R_X6_nextFall_xR_b4 (columns_ : Int32) (things_ : Int32) (fc_ : Nat → Int32) (ft_ : Nat → Int32) (v200501_ : Int32) (fw_ : Nat → Int32) (lenF_ : Nat) (fpF_ : Nat → Int32) (levels_ : Int32) (walkers_ : Int32) (fq_ : Nat → Int32) (fr_ : Nat → Int32) (uZ_ vZ_ : Int32 × Int32 × (Nat → Int32) × (Nat → Int32) × (Nat → Int32) × (Nat → Int32) × (Nat → Int32)) : Prop := (∃ (v10870_ : Int32) (v10901_ : Int32) (g10902_ : Nat → Int32) (g10903_ : Nat → Int32) (g10904_ : Nat → Int32) (g10905_ : Nat → Int32) (g10906_ : Nat → Int32), ¬ (columns_ ≤ uZ_.1) ∧ R_X6_dueIn_e things_ uZ_.2.2.1 fc_ uZ_.1 ft_ v200501_ v10870_ ∧ R_X6_drop_xR_e v10870_ things_ uZ_.2.2.1 fc_ uZ_.1 uZ_.2.2.2.1 fw_ v200501_ lenF_ fpF_ uZ_.2.2.2.2.2.1 uZ_.2.2.2.2.2.2 levels_ walkers_ fq_ fr_ uZ_.2.2.2.2.1 uZ_.2.1 v10901_ g10902_ g10903_ g10904_ g10905_ g10906_ ∧ vZ_ = (uZ_.1 + 1, v10901_, g10902_, g10903_, g10904_, g10905_, g10906_)) ∨ False
def R_X6_nextFall_xR_e (things_ : Int32) (fs_ : Nat → Int32) (ft_ : Nat → Int32) (latest_ : Int32) (hour_ : Int32) (fallen_ : Int32) (fl_ : Nat → Int32) (fh_ : Nat → Int32) (fgF_ : Nat → Int32) (fkF_ : Nat → Int32) (columns_ : Int32) (fc_ : Nat → Int32) (fw_ : Nat → Int32) (lenF_ : Nat) (fpF_ : Nat → Int32) (levels_ : Int32) (walkers_ : Int32) (fq_ : Nat → Int32) (fr_ : Nat → Int32) (x0_ : Int32) (x1_ : Int32) (x2_ : Nat → Int32) (x3_ : Nat → Int32) (x4_ : Nat → Int32) (x5_ : Nat → Int32) (x6_ : Nat → Int32) (r : Int32) : Prop := (∃ (v200500_ : Int32) (v200501_ : Int32), Itr (R_X6_nextFall_xR_b1 things_ fs_ ft_) (0, 2147483647) (v200500_, v200501_) ∧ things_ ≤ v200500_ ∧ R_X6_nextFall_xR_j2 v200501_ latest_ ∧ x0_ = hour_ ∧ x1_ = fallen_ ∧ x2_ = fs_ ∧ x3_ = fl_ ∧ x4_ = fh_ ∧ x5_ = fgF_ ∧ x6_ = fkF_ ∧ r = (0 : Int32)) ∨ (∃ (v200500_ : Int32) (v200501_ : Int32) (v206800_ : Int32) (v206801_ : Int32) (g206802_ : Nat → Int32) (g206803_ : Nat → Int32) (g206804_ : Nat → Int32) (g206805_ : Nat → Int32) (g206806_ : Nat → Int32), Itr (R_X6_nextFall_xR_b1 things_ fs_ ft_) (0, 2147483647) (v200500_, v200501_) ∧ things_ ≤ v200500_ ∧ ¬ (v200501_ = (2147483647 : Int32)) ∧ v200501_ ≤ latest_ ∧ Itr (R_X6_nextFall_xR_b4 columns_ things_ fc_ ft_ v200501_ fw_ lenF_ fpF_ levels_ walkers_ fq_ fr_) (0, 0, fs_, fl_, fh_, fgF_, fkF_) (v206800_, v206801_, g206802_, g206803_, g206804_, g206805_, g206806_) ∧ columns_ ≤ v206800_ ∧ x0_ = v200501_ ∧ x1_ = v206801_ ∧ x2_ = g206802_ ∧ x3_ = g206803_ ∧ x4_ = g206804_ ∧ x5_ = g206805_ ∧ x6_ = g206806_ ∧ r = (1 : Int32)) ∨ False
set_option maxHeartbeats 4000000 in
set_option maxRecDepth 100000 in
theorem sf_X6_nextFall_xR (l : Launch) (D : va_G) (cy : Nat → ClassId) (no_ : Nat) (nd_ : Nat) (hour_ : Int32) (ns_ : Nat) (nc_ : Nat) (nl_ : Nat) (nt_ : Nat) (nh_ : Nat) (fallen_ : Int32) (fs_ : Nat → Int32) (fc_ : Nat → Int32) (fl_ : Nat → Int32) (ft_ : Nat → Int32) (fh_ : Nat → Int32) (lines_ : Int32) (columns_ : Int32) (levels_ : Int32) (things_ : Int32) (walkers_ : Int32) (nw_ : Nat) (nr_ : Nat) (nq_ : Nat) (hangs_ : Value) (nLF_ : Nat) (fw_ : Nat → Int32) (fr_ : Nat → Int32) (fq_ : Nat → Int32) (npF_ : Nat) (ngF_ : Nat) (nkF_ : Nat) (lenF_ : Nat) (fpF_ : Nat → Int32) (fgF_ : Nat → Int32) (fkF_ : Nat → Int32) (latest_ : Int32) (hlenF_ : lenF_ ≤ 900) (rcolumns_ : rg (1) (6) columns_) (rlevels_ : rg (1) (9) levels_) (rthings_ : rg (0) (8) things_) (rwalkers_ : rg (0) (4) walkers_) (rfq_ : ag (0) (8) 4 fq_) : Ci l yX6_nextFall cX6_nextFall 4 (some .boolean) { frames := 5, cells := 0, slots := 0, locals := 132 } D cy [.ref no_, .int latest_] [(no_, .inr (6, [.ref nd_, .int hour_, .ref ns_, .ref nc_, .ref nl_, .ref nt_, .ref nh_, .int fallen_])), (ns_, .inl (cy 0, 8, .inl (fs_))), (nc_, .inl (cy 0, 8, .inl (fc_))), (nl_, .inl (cy 0, 8, .inl (fl_))), (nt_, .inl (cy 0, 8, .inl (ft_))), (nh_, .inl (cy 0, 4, .inl (fh_))), (nd_, .inr (0, [.int lines_, .int columns_, .int levels_, .int things_, .int walkers_, .ref nw_, .ref nr_, .ref nq_, hangs_, .ref nLF_])), (nw_, .inl (cy 0, 8, .inl (fw_))), (nr_, .inl (cy 0, 32, .inl (fr_))), (nq_, .inl (cy 0, 4, .inl (fq_))), (nLF_, .inr (4, [.ref npF_, .ref ngF_, .ref nkF_])), (npF_, .inl (cy 0, lenF_, .inl (fpF_))), (ngF_, .inl (cy 0, 6, .inl (fgF_))), (nkF_, .inl (cy 0, 32, .inl (fkF_)))] (fun r W1 => ∃ (x0_ : Int32) (x1_ : Int32) (x2_ : Nat → Int32) (x3_ : Nat → Int32) (x4_ : Nat → Int32) (x5_ : Nat → Int32) (x6_ : Nat → Int32), R_X6_nextFall_xR_e things_ fs_ ft_ latest_ hour_ fallen_ fl_ fh_ fgF_ fkF_ columns_ fc_ fw_ lenF_ fpF_ levels_ walkers_ fq_ fr_ x0_ x1_ x2_ x3_ x4_ x5_ x6_ r ∧ W1 = [(no_, .inr (6, [.ref nd_, .int x0_, .ref ns_, .ref nc_, .ref nl_, .ref nt_, .ref nh_, .int x1_])), (ns_, .inl (cy 0, 8, .inl (x2_))), (nc_, .inl (cy 0, 8, .inl (fc_))), (nl_, .inl (cy 0, 8, .inl (x3_))), (nt_, .inl (cy 0, 8, .inl (ft_))), (nh_, .inl (cy 0, 4, .inl (x4_))), (nd_, .inr (0, [.int lines_, .int columns_, .int levels_, .int things_, .int walkers_, .ref nw_, .ref nr_, .ref nq_, hangs_, .ref nLF_])), (nw_, .inl (cy 0, 8, .inl (fw_))), (nr_, .inl (cy 0, 32, .inl (fr_))), (nq_, .inl (cy 0, 4, .inl (fq_))), (nLF_, .inr (4, [.ref npF_, .ref ngF_, .ref nkF_])), (npF_, .inl (cy 0, lenF_, .inl (fpF_))), (ngF_, .inl (cy 0, 6, .inl (x5_))), (nkF_, .inl (cy 0, 32, .inl (x6_)))] ∧ rg (0) (1) r) := by
  refine Ci.of (by decide) (Nat.le_of_ble_eq_true rfl) ?_
  intro p e s m below meth c A ls hX hE hP hD hl
  obtain ⟨hx, hb, hr, hml, hown, htA, hlk⟩ := id hX
  have hK := hE.1
  have hS : va_S A s.heap s.heap [] := va_S.rf
  have hl : lv_has ls 4 [(0, .ref no_), (1, .int latest_)] := hl
  refine lv_ldc hx hb hown (htA _ wd_476) dX6_nextFall_0 ?_
  refine lv_istore_n (lv' := [(2, .int 2147483647), (0, .ref no_), (1, .int latest_)]) hx hb dX6_nextFall_2 rfl hl (by decide) rfl (fun ls hl => ?_)
  refine lv_iconst (v := 0) hx hb dX6_nextFall_3 (by decide) ?_
  refine lv_istore_n (lv' := [(3, .int 0), (2, .int 2147483647), (0, .ref no_), (1, .int latest_)]) hx hb dX6_nextFall_4 rfl hl (by decide) rfl (fun ls hl => ?_)
  refine loopT (τ := Int32 × Int32) (WS := fun i => [(no_, .inr (6, [.ref nd_, .int hour_, .ref ns_, .ref nc_, .ref nl_, .ref nt_, .ref nh_, .int fallen_])), (ns_, .inl (cy 0, 8, .inl (fs_))), (nc_, .inl (cy 0, 8, .inl (fc_))), (nl_, .inl (cy 0, 8, .inl (fl_))), (nt_, .inl (cy 0, 8, .inl (ft_))), (nh_, .inl (cy 0, 4, .inl (fh_))), (nd_, .inr (0, [.int lines_, .int columns_, .int levels_, .int things_, .int walkers_, .ref nw_, .ref nr_, .ref nq_, hangs_, .ref nLF_])), (nw_, .inl (cy 0, 8, .inl (fw_))), (nr_, .inl (cy 0, 32, .inl (fr_))), (nq_, .inl (cy 0, 4, .inl (fq_))), (nLF_, .inr (4, [.ref npF_, .ref ngF_, .ref nkF_])), (npF_, .inl (cy 0, lenF_, .inl (fpF_))), (ngF_, .inl (cy 0, 6, .inl (fgF_))), (nkF_, .inl (cy 0, 32, .inl (fkF_)))]) (LV := fun i => [(3, .int i.1), (2, .int i.2), (0, .ref no_), (1, .int latest_)]) (fun i => (9 - i.1.toInt).toNat) (fun i => rg (0) (8) i.1 ∧ Itr (R_X6_nextFall_xR_b1 things_ fs_ ft_) (0, 2147483647) (i.1, i.2)) ?_ (0, 2147483647) ⟨(rg_w (rg_lit (by decide) : rg (0) (0) (0 : Int32)) (by decide) (by decide)), (Itr.rf _ _)⟩ hP hD hS (lv_sub hl [0, 1, 2, 3] rfl)
  intro i_ H locs ls hI ih5_ hP hD hS hl
  obtain ⟨v200500_, v200501_⟩ := i_
  have hI : rg (0) (8) v200500_ ∧ Itr (R_X6_nextFall_xR_b1 things_ fs_ ft_) (0, 2147483647) (v200500_, v200501_) := hI
  obtain ⟨rv200500_, hR1_⟩ := hI
  have hP : va_P D vwCl [(no_, .inr (6, [.ref nd_, .int hour_, .ref ns_, .ref nc_, .ref nl_, .ref nt_, .ref nh_, .int fallen_])), (ns_, .inl (cy 0, 8, .inl (fs_))), (nc_, .inl (cy 0, 8, .inl (fc_))), (nl_, .inl (cy 0, 8, .inl (fl_))), (nt_, .inl (cy 0, 8, .inl (ft_))), (nh_, .inl (cy 0, 4, .inl (fh_))), (nd_, .inr (0, [.int lines_, .int columns_, .int levels_, .int things_, .int walkers_, .ref nw_, .ref nr_, .ref nq_, hangs_, .ref nLF_])), (nw_, .inl (cy 0, 8, .inl (fw_))), (nr_, .inl (cy 0, 32, .inl (fr_))), (nq_, .inl (cy 0, 4, .inl (fq_))), (nLF_, .inr (4, [.ref npF_, .ref ngF_, .ref nkF_])), (npF_, .inl (cy 0, lenF_, .inl (fpF_))), (ngF_, .inl (cy 0, 6, .inl (fgF_))), (nkF_, .inl (cy 0, 32, .inl (fkF_)))] H := hP
  have hD := va_ca hP hD
  have hl : lv_has ls 4 [(3, .int v200500_), (2, .int v200501_), (0, .ref no_), (1, .int latest_)] := hl
  refine lv_iload_n hx hb dX6_nextFall_5 rfl (lv_at hl 0 rfl) ?_
  refine lv_aload_n hx hb dX6_nextFall_6 rfl (lv_at hl 2 rfl) ?_
  refine va_get (ci := 6) (v := .ref nd_) (C := RX6) (T := TX6) (N := 8) hx hb htA in_X6 hown hK hP 0 rfl rfl 0 (by decide) (htA _ wd_166) (fun _ h => h) rfl dX6_nextFall_7 ?_
  refine va_get (ci := 0) (v := .int things_) (C := RX0) (T := TX0) (N := 10) hx hb htA in_X0 hown hK hP 6 rfl rfl 3 (by decide) (htA _ wd_86) (fun _ h => h) rfl dX6_nextFall_10 ?_
  refine lv_icmp_ge (tgt := 43) hx hb dX6_nextFall_13 (by decide) (fun c13_ => ?_) (fun c13_ => ?_)
  · refine lv_iload_n hx hb dX6_nextFall_43 rfl (lv_at hl 1 rfl) ?_
    refine lv_ldc hx hb hown (htA _ wd_476) dX6_nextFall_44 ?_
    refine joinT (D := D) (A := A) (pc := 54) (mL := 4) (τ := Unit) (WS := fun i => [(no_, .inr (6, [.ref nd_, .int hour_, .ref ns_, .ref nc_, .ref nl_, .ref nt_, .ref nh_, .int fallen_])), (ns_, .inl (cy 0, 8, .inl (fs_))), (nc_, .inl (cy 0, 8, .inl (fc_))), (nl_, .inl (cy 0, 8, .inl (fl_))), (nt_, .inl (cy 0, 8, .inl (ft_))), (nh_, .inl (cy 0, 4, .inl (fh_))), (nd_, .inr (0, [.int lines_, .int columns_, .int levels_, .int things_, .int walkers_, .ref nw_, .ref nr_, .ref nq_, hangs_, .ref nLF_])), (nw_, .inl (cy 0, 8, .inl (fw_))), (nr_, .inl (cy 0, 32, .inl (fr_))), (nq_, .inl (cy 0, 4, .inl (fq_))), (nLF_, .inr (4, [.ref npF_, .ref ngF_, .ref nkF_])), (npF_, .inl (cy 0, lenF_, .inl (fpF_))), (ngF_, .inl (cy 0, 6, .inl (fgF_))), (nkF_, .inl (cy 0, 32, .inl (fkF_)))]) (LV := fun i => [(3, .int v200500_), (2, .int v200501_), (0, .ref no_), (1, .int latest_)]) (ST := fun i => []) (cells := 0) (slots := 0) (fun i => rg (-2147483647) (2147483647) v200501_ ∧ R_X6_nextFall_xR_j2 v200501_ latest_) (fun u0_ H locs ls hI hP hD hS hl => ?_) (fun j54_ => ?_)
    · have hI : rg (-2147483647) (2147483647) v200501_ ∧ R_X6_nextFall_xR_j2 v200501_ latest_ := hI
      obtain ⟨q54_l_2_, hR2_⟩ := hI
      have hP : va_P D vwCl [(no_, .inr (6, [.ref nd_, .int hour_, .ref ns_, .ref nc_, .ref nl_, .ref nt_, .ref nh_, .int fallen_])), (ns_, .inl (cy 0, 8, .inl (fs_))), (nc_, .inl (cy 0, 8, .inl (fc_))), (nl_, .inl (cy 0, 8, .inl (fl_))), (nt_, .inl (cy 0, 8, .inl (ft_))), (nh_, .inl (cy 0, 4, .inl (fh_))), (nd_, .inr (0, [.int lines_, .int columns_, .int levels_, .int things_, .int walkers_, .ref nw_, .ref nr_, .ref nq_, hangs_, .ref nLF_])), (nw_, .inl (cy 0, 8, .inl (fw_))), (nr_, .inl (cy 0, 32, .inl (fr_))), (nq_, .inl (cy 0, 4, .inl (fq_))), (nLF_, .inr (4, [.ref npF_, .ref ngF_, .ref nkF_])), (npF_, .inl (cy 0, lenF_, .inl (fpF_))), (ngF_, .inl (cy 0, 6, .inl (fgF_))), (nkF_, .inl (cy 0, 32, .inl (fkF_)))] H := hP
      have hD := va_ca hP hD
      have hl : lv_has ls 4 [(3, .int v200500_), (2, .int v200501_), (0, .ref no_), (1, .int latest_)] := hl
      refine lv_iconst (v := 0) hx hb dX6_nextFall_54 (by decide) ?_
      exact rZ hX (by decide) hE hP hD hS dX6_nextFall_55 (by decide) (by decide) ⟨hour_, fallen_, fs_, fl_, fh_, fgF_, fkF_, (Or.inl ⟨v200500_, v200501_, hR1_, c13_, hR2_, rfl, rfl, rfl, rfl, rfl, rfl, rfl, rfl⟩), rfl, (rg_w (rg_lit (by decide) : rg (0) (0) (0 : Int32)) (by decide) (by decide))⟩
    refine lv_icmp_eq (tgt := 54) hx hb dX6_nextFall_46 (by decide) (fun c46_ => ?_) (fun c46_ => ?_)
    · have g1_ : rg (2147483647) (2147483647) v200501_ := rg_eq c46_ (rg_lit (by decide) : rg (2147483647) (2147483647) (2147483647 : Int32))
      exact j54_ () _ _ ls ⟨(rg_w g1_ (by decide) (by decide)), (Or.inl c46_)⟩ hP hD hS (lv_sub hl [0, 1, 2, 3] rfl)
    · have g2_ : rg (-2147483648) (2147483646) v200501_ := rg_ne2 c46_ (rg_any _) (by decide) (by decide)
      refine lv_iload_n hx hb dX6_nextFall_49 rfl (lv_at hl 1 rfl) ?_
      refine lv_iload_n hx hb dX6_nextFall_50 rfl (lv_at hl 3 rfl) ?_
      refine lv_icmp_le (tgt := 56) hx hb dX6_nextFall_51 (by decide) (fun c51_ => ?_) (fun c51_ => ?_)
      · refine lv_aload_n hx hb dX6_nextFall_56 rfl (lv_at hl 2 rfl) ?_
        refine lv_iload_n hx hb dX6_nextFall_57 rfl (lv_at hl 1 rfl) ?_
        refine va_put (ci := 6) (v := .int v200501_) (ty := .int) (C := RX6) (T := TX6) (N := 8) hx hb htA in_X6 tyX6 tyX6_ok nmX6 hown hK hP hD hS 0 rfl rfl 1 (by decide) (htA _ wd_170) (fun _ h => h) rfl (by decide +kernel) rfl rfl (Nat.le_of_ble_eq_true rfl) dX6_nextFall_58 (fun H locs hP hD hS => ?_)
        have hP : va_P D vwCl [(no_, .inr (6, [.ref nd_, .int v200501_, .ref ns_, .ref nc_, .ref nl_, .ref nt_, .ref nh_, .int fallen_])), (ns_, .inl (cy 0, 8, .inl (fs_))), (nc_, .inl (cy 0, 8, .inl (fc_))), (nl_, .inl (cy 0, 8, .inl (fl_))), (nt_, .inl (cy 0, 8, .inl (ft_))), (nh_, .inl (cy 0, 4, .inl (fh_))), (nd_, .inr (0, [.int lines_, .int columns_, .int levels_, .int things_, .int walkers_, .ref nw_, .ref nr_, .ref nq_, hangs_, .ref nLF_])), (nw_, .inl (cy 0, 8, .inl (fw_))), (nr_, .inl (cy 0, 32, .inl (fr_))), (nq_, .inl (cy 0, 4, .inl (fq_))), (nLF_, .inr (4, [.ref npF_, .ref ngF_, .ref nkF_])), (npF_, .inl (cy 0, lenF_, .inl (fpF_))), (ngF_, .inl (cy 0, 6, .inl (fgF_))), (nkF_, .inl (cy 0, 32, .inl (fkF_)))] H := hP
        have hD := va_ca hP hD
        refine lv_aload_n hx hb dX6_nextFall_61 rfl (lv_at hl 2 rfl) ?_
        refine lv_iconst (v := 0) hx hb dX6_nextFall_62 (by decide) ?_
        refine va_put (ci := 6) (v := .int 0) (ty := .int) (C := RX6) (T := TX6) (N := 8) hx hb htA in_X6 tyX6 tyX6_ok nmX6 hown hK hP hD hS 0 rfl rfl 7 (by decide) (htA _ wd_189) (fun _ h => h) rfl (by decide +kernel) rfl rfl (Nat.le_of_ble_eq_true rfl) dX6_nextFall_63 (fun H locs hP hD hS => ?_)
        have hP : va_P D vwCl [(no_, .inr (6, [.ref nd_, .int v200501_, .ref ns_, .ref nc_, .ref nl_, .ref nt_, .ref nh_, .int 0])), (ns_, .inl (cy 0, 8, .inl (fs_))), (nc_, .inl (cy 0, 8, .inl (fc_))), (nl_, .inl (cy 0, 8, .inl (fl_))), (nt_, .inl (cy 0, 8, .inl (ft_))), (nh_, .inl (cy 0, 4, .inl (fh_))), (nd_, .inr (0, [.int lines_, .int columns_, .int levels_, .int things_, .int walkers_, .ref nw_, .ref nr_, .ref nq_, hangs_, .ref nLF_])), (nw_, .inl (cy 0, 8, .inl (fw_))), (nr_, .inl (cy 0, 32, .inl (fr_))), (nq_, .inl (cy 0, 4, .inl (fq_))), (nLF_, .inr (4, [.ref npF_, .ref ngF_, .ref nkF_])), (npF_, .inl (cy 0, lenF_, .inl (fpF_))), (ngF_, .inl (cy 0, 6, .inl (fgF_))), (nkF_, .inl (cy 0, 32, .inl (fkF_)))] H := hP
        have hD := va_ca hP hD
        refine lv_iconst (v := 0) hx hb dX6_nextFall_66 (by decide) ?_
        refine lv_istore_n (lv' := [(3, .int 0), (2, .int v200501_), (0, .ref no_), (1, .int latest_)]) hx hb dX6_nextFall_67 rfl hl (by decide) rfl (fun ls hl => ?_)
        refine loopT (τ := Int32 × Int32 × (Nat → Int32) × (Nat → Int32) × (Nat → Int32) × (Nat → Int32) × (Nat → Int32)) (WS := fun i => [(no_, .inr (6, [.ref nd_, .int v200501_, .ref ns_, .ref nc_, .ref nl_, .ref nt_, .ref nh_, .int i.2.1])), (ns_, .inl (cy 0, 8, .inl (i.2.2.1))), (nc_, .inl (cy 0, 8, .inl (fc_))), (nl_, .inl (cy 0, 8, .inl (i.2.2.2.1))), (nt_, .inl (cy 0, 8, .inl (ft_))), (nh_, .inl (cy 0, 4, .inl (i.2.2.2.2.1))), (nd_, .inr (0, [.int lines_, .int columns_, .int levels_, .int things_, .int walkers_, .ref nw_, .ref nr_, .ref nq_, hangs_, .ref nLF_])), (nw_, .inl (cy 0, 8, .inl (fw_))), (nr_, .inl (cy 0, 32, .inl (fr_))), (nq_, .inl (cy 0, 4, .inl (fq_))), (nLF_, .inr (4, [.ref npF_, .ref ngF_, .ref nkF_])), (npF_, .inl (cy 0, lenF_, .inl (fpF_))), (ngF_, .inl (cy 0, 6, .inl (i.2.2.2.2.2.1))), (nkF_, .inl (cy 0, 32, .inl (i.2.2.2.2.2.2)))]) (LV := fun i => [(3, .int i.1), (2, .int v200501_), (0, .ref no_), (1, .int latest_)]) (fun i => (7 - i.1.toInt).toNat) (fun i => rg (0) (6) i.1 ∧ Itr (R_X6_nextFall_xR_b4 columns_ things_ fc_ ft_ v200501_ fw_ lenF_ fpF_ levels_ walkers_ fq_ fr_) (0, 0, fs_, fl_, fh_, fgF_, fkF_) (i.1, i.2.1, i.2.2.1, i.2.2.2.1, i.2.2.2.2.1, i.2.2.2.2.2.1, i.2.2.2.2.2.2)) ?_ (0, 0, fs_, fl_, fh_, fgF_, fkF_) ⟨(rg_w (rg_lit (by decide) : rg (0) (0) (0 : Int32)) (by decide) (by decide)), (Itr.rf _ _)⟩ hP hD hS (lv_sub hl [0, 1, 2, 3] rfl)
        intro i_ H locs ls hI ih68_ hP hD hS hl
        obtain ⟨v206800_, v206801_, g206802_, g206803_, g206804_, g206805_, g206806_⟩ := i_
        have hI : rg (0) (6) v206800_ ∧ Itr (R_X6_nextFall_xR_b4 columns_ things_ fc_ ft_ v200501_ fw_ lenF_ fpF_ levels_ walkers_ fq_ fr_) (0, 0, fs_, fl_, fh_, fgF_, fkF_) (v206800_, v206801_, g206802_, g206803_, g206804_, g206805_, g206806_) := hI
        obtain ⟨rv206800_, hR4_⟩ := hI
        have hP : va_P D vwCl [(no_, .inr (6, [.ref nd_, .int v200501_, .ref ns_, .ref nc_, .ref nl_, .ref nt_, .ref nh_, .int v206801_])), (ns_, .inl (cy 0, 8, .inl (g206802_))), (nc_, .inl (cy 0, 8, .inl (fc_))), (nl_, .inl (cy 0, 8, .inl (g206803_))), (nt_, .inl (cy 0, 8, .inl (ft_))), (nh_, .inl (cy 0, 4, .inl (g206804_))), (nd_, .inr (0, [.int lines_, .int columns_, .int levels_, .int things_, .int walkers_, .ref nw_, .ref nr_, .ref nq_, hangs_, .ref nLF_])), (nw_, .inl (cy 0, 8, .inl (fw_))), (nr_, .inl (cy 0, 32, .inl (fr_))), (nq_, .inl (cy 0, 4, .inl (fq_))), (nLF_, .inr (4, [.ref npF_, .ref ngF_, .ref nkF_])), (npF_, .inl (cy 0, lenF_, .inl (fpF_))), (ngF_, .inl (cy 0, 6, .inl (g206805_))), (nkF_, .inl (cy 0, 32, .inl (g206806_)))] H := hP
        have hD := va_ca hP hD
        have hl : lv_has ls 4 [(3, .int v206800_), (2, .int v200501_), (0, .ref no_), (1, .int latest_)] := hl
        refine lv_iload_n hx hb dX6_nextFall_68 rfl (lv_at hl 0 rfl) ?_
        refine lv_aload_n hx hb dX6_nextFall_69 rfl (lv_at hl 2 rfl) ?_
        refine va_get (ci := 6) (v := .ref nd_) (C := RX6) (T := TX6) (N := 8) hx hb htA in_X6 hown hK hP 0 rfl rfl 0 (by decide) (htA _ wd_166) (fun _ h => h) rfl dX6_nextFall_70 ?_
        refine va_get (ci := 0) (v := .int columns_) (C := RX0) (T := TX0) (N := 10) hx hb htA in_X0 hown hK hP 6 rfl rfl 1 (by decide) (htA _ wd_81) (fun _ h => h) rfl dX6_nextFall_73 ?_
        refine lv_icmp_ge (tgt := 99) hx hb dX6_nextFall_76 (by decide) (fun c76_ => ?_) (fun c76_ => ?_)
        · have g3_ : rg (1) (6) v206800_ := rg_le2 c76_ rcolumns_ rv206800_ (by decide)
          refine lv_iconst (v := 1) hx hb dX6_nextFall_99 (by decide) ?_
          exact rZ hX (by decide) hE hP hD hS dX6_nextFall_100 (by decide) (by decide) ⟨v200501_, v206801_, g206802_, g206803_, g206804_, g206805_, g206806_, (Or.inr (Or.inl ⟨v200500_, v200501_, v206800_, v206801_, g206802_, g206803_, g206804_, g206805_, g206806_, hR1_, c13_, c46_, c51_, hR4_, c76_, rfl, rfl, rfl, rfl, rfl, rfl, rfl, rfl⟩)), rfl, (rg_w (rg_lit (by decide) : rg (1) (1) (1 : Int32)) (by decide) (by decide))⟩
        · have g4_ : rg (0) (5) v206800_ := rg_lt1 (rg_nle c76_) rv206800_ rcolumns_ (by decide)
          refine lv_aload_n hx hb dX6_nextFall_79 rfl (lv_at hl 2 rfl) ?_
          refine lv_iload_n hx hb dX6_nextFall_80 rfl (lv_at hl 0 rfl) ?_
          refine lv_aload_n hx hb dX6_nextFall_81 rfl (lv_at hl 2 rfl) ?_
          refine lv_iload_n hx hb dX6_nextFall_82 rfl (lv_at hl 0 rfl) ?_
          refine lv_aload_n hx hb dX6_nextFall_83 rfl (lv_at hl 2 rfl) ?_
          refine va_get (ci := 6) (v := .int v200501_) (C := RX6) (T := TX6) (N := 8) hx hb htA in_X6 hown hK hP 0 rfl rfl 1 (by decide) (htA _ wd_170) (fun _ h => h) rfl dX6_nextFall_84 ?_
          refine kVi (As := [.int v206800_, .int v200501_]) (rest := [.int v206800_, .ref no_]) (wr := [(nl_, .inl (cy 0, 8, .inl (g206803_))), (nh_, .inl (cy 0, 4, .inl (g206804_))), (nw_, .inl (cy 0, 8, .inl (fw_))), (nr_, .inl (cy 0, 32, .inl (fr_))), (nq_, .inl (cy 0, 4, .inl (fq_))), (nLF_, .inr (4, [.ref npF_, .ref ngF_, .ref nkF_])), (npF_, .inl (cy 0, lenF_, .inl (fpF_))), (ngF_, .inl (cy 0, 6, .inl (g206805_))), (nkF_, .inl (cy 0, 32, .inl (g206806_)))]) hX hE (sf_X6_dueIn l D cy no_ nd_ v200501_ ns_ nc_ nl_ nt_ nh_ v206801_ g206802_ fc_ ft_ lines_ columns_ levels_ things_ walkers_ nw_ nr_ nq_ hangs_ (.ref nLF_) v206800_ v200501_ (rg_w rcolumns_ (by decide) (by decide)) (rg_w rlevels_ (by decide) (by decide)) (rg_w rthings_ (by decide) (by decide)) (rg_w rwalkers_ (by decide) (by decide))) (cwVA 2 htA wd_480 wd_477 wd_6 wd_479 wp_3 (by decide +kernel) ⟨by decide, by decide⟩) hP hD hS [0, 1, 2, 4, 6] [3, 5, 7, 8, 9, 10, 11, 12, 13] rfl rfl (by decide +kernel) 0 rfl rfl rfl rfl hl.1 rfl (Nat.le_of_ble_eq_true rfl) dX6_nextFall_87 (by decide) (fun v10870_ W1 H locs hw hP hD hS => ?_)
          refine W.widen (k := 0) (n := 0) (by decide) (by decide) ?_
          obtain ⟨k87_0_, rfl⟩ := hw
          have hP : va_P D vwCl [(nl_, .inl (cy 0, 8, .inl (g206803_))), (nh_, .inl (cy 0, 4, .inl (g206804_))), (nw_, .inl (cy 0, 8, .inl (fw_))), (nr_, .inl (cy 0, 32, .inl (fr_))), (nq_, .inl (cy 0, 4, .inl (fq_))), (nLF_, .inr (4, [.ref npF_, .ref ngF_, .ref nkF_])), (npF_, .inl (cy 0, lenF_, .inl (fpF_))), (ngF_, .inl (cy 0, 6, .inl (g206805_))), (nkF_, .inl (cy 0, 32, .inl (g206806_))), (no_, .inr (6, [.ref nd_, .int v200501_, .ref ns_, .ref nc_, .ref nl_, .ref nt_, .ref nh_, .int v206801_])), (ns_, .inl (cy 0, 8, .inl (g206802_))), (nc_, .inl (cy 0, 8, .inl (fc_))), (nt_, .inl (cy 0, 8, .inl (ft_))), (nd_, .inr (0, [.int lines_, .int columns_, .int levels_, .int things_, .int walkers_, .ref nw_, .ref nr_, .ref nq_, hangs_, .ref nLF_]))] H := hP
          have hD := va_ca hP hD
          refine kVv (As := [.int v206800_, .int v10870_]) (rest := []) (wr := [(nt_, .inl (cy 0, 8, .inl (ft_)))]) hX hE (sf_X6_drop_xR l D cy no_ nd_ v200501_ ns_ nc_ nl_ nt_ nh_ v206801_ g206802_ fc_ g206803_ g206804_ lines_ columns_ levels_ things_ walkers_ nw_ nr_ nq_ hangs_ nLF_ fw_ fr_ fq_ npF_ ngF_ nkF_ lenF_ fpF_ g206805_ g206806_ v206800_ v10870_ hlenF_ (rg_w rcolumns_ (by decide) (by decide)) (rg_w rlevels_ (by decide) (by decide)) (rg_w rthings_ (by decide) (by decide)) (rg_w rwalkers_ (by decide) (by decide)) rfq_) (cwVA 2 htA wd_431 wd_428 wd_6 wd_430 wp_1 (by decide +kernel) ⟨by decide, by decide⟩) hP hD hS [9, 10, 11, 0, 1, 13, 2, 3, 4, 5, 6, 7, 8] [12] rfl rfl (by decide +kernel) 0 rfl rfl rfl rfl hl.1 rfl (Nat.le_of_ble_eq_true rfl) dX6_nextFall_90 (by decide) (fun W1 H locs hw hP hD hS => ?_)
          refine W.widen (k := 0) (n := 0) (by decide) (by decide) ?_
          obtain ⟨v10901_, g10902_, g10903_, g10904_, g10905_, g10906_, k90_0_, rfl⟩ := hw
          have hP : va_P D vwCl [(nt_, .inl (cy 0, 8, .inl (ft_))), (no_, .inr (6, [.ref nd_, .int v200501_, .ref ns_, .ref nc_, .ref nl_, .ref nt_, .ref nh_, .int v10901_])), (ns_, .inl (cy 0, 8, .inl (g10902_))), (nc_, .inl (cy 0, 8, .inl (fc_))), (nl_, .inl (cy 0, 8, .inl (g10903_))), (nh_, .inl (cy 0, 4, .inl (g10904_))), (nd_, .inr (0, [.int lines_, .int columns_, .int levels_, .int things_, .int walkers_, .ref nw_, .ref nr_, .ref nq_, hangs_, .ref nLF_])), (nw_, .inl (cy 0, 8, .inl (fw_))), (nr_, .inl (cy 0, 32, .inl (fr_))), (nq_, .inl (cy 0, 4, .inl (fq_))), (nLF_, .inr (4, [.ref npF_, .ref ngF_, .ref nkF_])), (npF_, .inl (cy 0, lenF_, .inl (fpF_))), (ngF_, .inl (cy 0, 6, .inl (g10905_))), (nkF_, .inl (cy 0, 32, .inl (g10906_)))] H := hP
          have hD := va_ca hP hD
          refine lv_iinc (v := v206800_ + 1) (lv' := [(3, .int (v206800_ + 1)), (2, .int v200501_), (0, .ref no_), (1, .int latest_)]) hx hb dX6_nextFall_93 hl (k := 0) rfl rfl (by decide) rfl (fun ls hl => ?_)
          have g5_ : rg (1) (6) (v206800_ + 1) := rg_add g4_ (rg_lit (by decide) : rg (1) (1) (1 : Int32)) (by decide) (by decide) (by decide) (by decide)
          refine lv_goto (tgt := 68) hx hb dX6_nextFall_96 (by decide) ?_
          have hP : va_P D vwCl [(no_, .inr (6, [.ref nd_, .int v200501_, .ref ns_, .ref nc_, .ref nl_, .ref nt_, .ref nh_, .int v10901_])), (ns_, .inl (cy 0, 8, .inl (g10902_))), (nc_, .inl (cy 0, 8, .inl (fc_))), (nl_, .inl (cy 0, 8, .inl (g10903_))), (nt_, .inl (cy 0, 8, .inl (ft_))), (nh_, .inl (cy 0, 4, .inl (g10904_))), (nd_, .inr (0, [.int lines_, .int columns_, .int levels_, .int things_, .int walkers_, .ref nw_, .ref nr_, .ref nq_, hangs_, .ref nLF_])), (nw_, .inl (cy 0, 8, .inl (fw_))), (nr_, .inl (cy 0, 32, .inl (fr_))), (nq_, .inl (cy 0, 4, .inl (fq_))), (nLF_, .inr (4, [.ref npF_, .ref ngF_, .ref nkF_])), (npF_, .inl (cy 0, lenF_, .inl (fpF_))), (ngF_, .inl (cy 0, 6, .inl (g10905_))), (nkF_, .inl (cy 0, 32, .inl (g10906_)))] H := hP.sub [1, 2, 3, 4, 0, 5, 6, 7, 8, 9, 10, 11, 12, 13] rfl
          have hD : va_D A [(no_, .inr (6, [.ref nd_, .int v200501_, .ref ns_, .ref nc_, .ref nl_, .ref nt_, .ref nh_, .int v10901_])), (ns_, .inl (cy 0, 8, .inl (g10902_))), (nc_, .inl (cy 0, 8, .inl (fc_))), (nl_, .inl (cy 0, 8, .inl (g10903_))), (nt_, .inl (cy 0, 8, .inl (ft_))), (nh_, .inl (cy 0, 4, .inl (g10904_))), (nd_, .inr (0, [.int lines_, .int columns_, .int levels_, .int things_, .int walkers_, .ref nw_, .ref nr_, .ref nq_, hangs_, .ref nLF_])), (nw_, .inl (cy 0, 8, .inl (fw_))), (nr_, .inl (cy 0, 32, .inl (fr_))), (nq_, .inl (cy 0, 4, .inl (fq_))), (nLF_, .inr (4, [.ref npF_, .ref ngF_, .ref nkF_])), (npF_, .inl (cy 0, lenF_, .inl (fpF_))), (ngF_, .inl (cy 0, 6, .inl (g10905_))), (nkF_, .inl (cy 0, 32, .inl (g10906_)))] := hD.sub [1, 2, 3, 4, 0, 5, 6, 7, 8, 9, 10, 11, 12, 13] (by decide +kernel) rfl
          exact ih68_ (v206800_ + 1, v10901_, g10902_, g10903_, g10904_, g10905_, g10906_) _ _ ls ⟨(rg_w g5_ (by decide) (by decide)), (Itr.st hR4_ (Or.inl ⟨v10870_, v10901_, g10902_, g10903_, g10904_, g10905_, g10906_, c76_, k87_0_, k90_0_, rfl⟩))⟩ (show (7 - (v206800_ + 1).toInt).toNat < (7 - v206800_.toInt).toNat from by rw [show (v206800_ + 1).toInt = v206800_.toInt + 1 from inc32 v206800_ (by have hq := (rv206800_).2; omega)]; have hq := (g4_).1; have hq2 := (g4_).2; omega) hP hD hS (lv_sub hl [0, 1, 2, 3] rfl)
      · have g6_ : rg (-2147483648) (2147483645) latest_ := rg_lt1 (rg_nle c51_) (rg_any _) g2_ (by decide)
        have g7_ : rg (-2147483647) (2147483646) v200501_ := rg_lt2 (rg_nle c51_) (rg_any _) g2_ (by decide)
        exact j54_ () _ _ ls ⟨(rg_w g7_ (by decide) (by decide)), (Or.inr (Or.inl ⟨c46_, c51_⟩))⟩ hP hD hS (lv_sub hl [0, 1, 2, 3] rfl)
  · have g8_ : rg (0) (7) v200500_ := rg_lt1 (rg_nle c13_) rv200500_ rthings_ (by decide)
    have g9_ : rg (1) (8) things_ := rg_lt2 (rg_nle c13_) rv200500_ rthings_ (by decide)
    refine lv_aload_n hx hb dX6_nextFall_16 rfl (lv_at hl 2 rfl) ?_
    refine va_get (ci := 6) (v := .ref ns_) (C := RX6) (T := TX6) (N := 8) hx hb htA in_X6 hown hK hP 0 rfl rfl 2 (by decide) (htA _ wd_174) (fun _ h => h) rfl dX6_nextFall_17 ?_
    refine lv_iload_n hx hb dX6_nextFall_20 rfl (lv_at hl 0 rfl) ?_
    refine va_iald hx hb hK hP 1 0 rfl rfl (rg_in g8_ (by decide) (by decide)) dX6_nextFall_21 ?_
    refine lv_topi (fun v10210_ ev10210_ => ?_)
    refine lv_iconst (v := 1) hx hb dX6_nextFall_22 (by decide) ?_
    refine joinT (D := D) (A := A) (pc := 37) (mL := 4) (τ := Int32) (WS := fun i => [(no_, .inr (6, [.ref nd_, .int hour_, .ref ns_, .ref nc_, .ref nl_, .ref nt_, .ref nh_, .int fallen_])), (ns_, .inl (cy 0, 8, .inl (fs_))), (nc_, .inl (cy 0, 8, .inl (fc_))), (nl_, .inl (cy 0, 8, .inl (fl_))), (nt_, .inl (cy 0, 8, .inl (ft_))), (nh_, .inl (cy 0, 4, .inl (fh_))), (nd_, .inr (0, [.int lines_, .int columns_, .int levels_, .int things_, .int walkers_, .ref nw_, .ref nr_, .ref nq_, hangs_, .ref nLF_])), (nw_, .inl (cy 0, 8, .inl (fw_))), (nr_, .inl (cy 0, 32, .inl (fr_))), (nq_, .inl (cy 0, 4, .inl (fq_))), (nLF_, .inr (4, [.ref npF_, .ref ngF_, .ref nkF_])), (npF_, .inl (cy 0, lenF_, .inl (fpF_))), (ngF_, .inl (cy 0, 6, .inl (fgF_))), (nkF_, .inl (cy 0, 32, .inl (fkF_)))]) (LV := fun i => [(3, .int v200500_), (2, .int i), (0, .ref no_), (1, .int latest_)]) (ST := fun i => []) (cells := 0) (slots := 0) (fun i => R_X6_nextFall_xR_j5 v10210_ v200501_ ft_ v200500_ i) (fun v203700_ H locs ls hI hP hD hS hl => ?_) (fun j37_ => ?_)
    · have hI : R_X6_nextFall_xR_j5 v10210_ v200501_ ft_ v200500_ v203700_ := hI
      have hR5_ := hI
      have hP : va_P D vwCl [(no_, .inr (6, [.ref nd_, .int hour_, .ref ns_, .ref nc_, .ref nl_, .ref nt_, .ref nh_, .int fallen_])), (ns_, .inl (cy 0, 8, .inl (fs_))), (nc_, .inl (cy 0, 8, .inl (fc_))), (nl_, .inl (cy 0, 8, .inl (fl_))), (nt_, .inl (cy 0, 8, .inl (ft_))), (nh_, .inl (cy 0, 4, .inl (fh_))), (nd_, .inr (0, [.int lines_, .int columns_, .int levels_, .int things_, .int walkers_, .ref nw_, .ref nr_, .ref nq_, hangs_, .ref nLF_])), (nw_, .inl (cy 0, 8, .inl (fw_))), (nr_, .inl (cy 0, 32, .inl (fr_))), (nq_, .inl (cy 0, 4, .inl (fq_))), (nLF_, .inr (4, [.ref npF_, .ref ngF_, .ref nkF_])), (npF_, .inl (cy 0, lenF_, .inl (fpF_))), (ngF_, .inl (cy 0, 6, .inl (fgF_))), (nkF_, .inl (cy 0, 32, .inl (fkF_)))] H := hP
      have hD := va_ca hP hD
      have hl : lv_has ls 4 [(3, .int v200500_), (2, .int v203700_), (0, .ref no_), (1, .int latest_)] := hl
      refine lv_iinc (v := v200500_ + 1) (lv' := [(3, .int (v200500_ + 1)), (2, .int v203700_), (0, .ref no_), (1, .int latest_)]) hx hb dX6_nextFall_37 hl (k := 0) rfl rfl (by decide) rfl (fun ls hl => ?_)
      have g10_ : rg (1) (8) (v200500_ + 1) := rg_add g8_ (rg_lit (by decide) : rg (1) (1) (1 : Int32)) (by decide) (by decide) (by decide) (by decide)
      refine lv_goto (tgt := 5) hx hb dX6_nextFall_40 (by decide) ?_
      exact ih5_ (v200500_ + 1, v203700_) _ _ ls ⟨(rg_w g10_ (by decide) (by decide)), (Itr.st hR1_ (Or.inl ⟨v10210_, v203700_, c13_, ev10210_, hR5_, rfl⟩))⟩ (show (9 - (v200500_ + 1).toInt).toNat < (9 - v200500_.toInt).toNat from by rw [show (v200500_ + 1).toInt = v200500_.toInt + 1 from inc32 v200500_ (by have hq := (rv200500_).2; omega)]; have hq := (g8_).1; have hq2 := (g8_).2; omega) hP hD hS (lv_sub hl [0, 1, 2, 3] rfl)
    refine lv_icmp_ne (tgt := 37) hx hb dX6_nextFall_23 (by decide) (fun c23_ => ?_) (fun c23_ => ?_)
    · exact j37_ v200501_ _ _ ls (Or.inl ⟨c23_, rfl⟩) hP hD hS (lv_sub hl [0, 1, 2, 3] rfl)
    · have g11_ : rg (1) (1) v10210_ := rg_eq c23_ (rg_lit (by decide) : rg (1) (1) (1 : Int32))
      refine lv_iload_n hx hb dX6_nextFall_26 rfl (lv_at hl 1 rfl) ?_
      refine lv_aload_n hx hb dX6_nextFall_27 rfl (lv_at hl 2 rfl) ?_
      refine va_get (ci := 6) (v := .ref nt_) (C := RX6) (T := TX6) (N := 8) hx hb htA in_X6 hown hK hP 0 rfl rfl 5 (by decide) (htA _ wd_184) (fun _ h => h) rfl dX6_nextFall_28 ?_
      refine lv_iload_n hx hb dX6_nextFall_31 rfl (lv_at hl 0 rfl) ?_
      refine va_iald hx hb hK hP 4 0 rfl rfl (rg_in g8_ (by decide) (by decide)) dX6_nextFall_32 ?_
      refine lv_topi (fun v10320_ ev10320_ => ?_)
      refine va_mmin hx hb (hml.trans hl.1.symm) hown (htA _ wd_495) (htA _ wd_422) (htA _ wd_19) (htA _ wd_423) (by decide) (Nat.le_of_ble_eq_true rfl) (by decide) (by decide) dX6_nextFall_33 ?_
      refine lv_istore_n (lv' := [(2, .int (if v10320_ < v200501_ then v10320_ else v200501_)), (3, .int v200500_), (0, .ref no_), (1, .int latest_)]) hx hb dX6_nextFall_36 rfl hl (by decide) rfl (fun ls hl => ?_)
      exact j37_ (if v10320_ < v200501_ then v10320_ else v200501_) _ _ ls (Or.inr (Or.inl ⟨v10320_, c23_, ev10320_, rfl⟩)) hP hD hS (lv_sub hl [1, 0, 2, 3] rfl)
def R_X6_passTo_xN_b1 (things_ : Int32) (ft_ : Nat → Int32) (latest_ : Int32) (columns_ : Int32) (fc_ : Nat → Int32) (levels_ : Int32) (fw_ : Nat → Int32) (walkers_ : Int32) (fq_ : Nat → Int32) (fr_ : Nat → Int32) (uZ_ vZ_ : Int32 × Int32 × Int32 × Int32 × (Nat → Int32) × (Nat → Int32) × (Nat → Int32)) : Prop := (∃ (v10121_ : Int32) (v10122_ : Int32) (g10123_ : Nat → Int32) (g10124_ : Nat → Int32) (g10125_ : Nat → Int32) (v10120_ : Int32) (v10260_ : Int32), ¬ ((8 : Int32) ≤ uZ_.1) ∧ R_X6_nextFall_xN_e things_ uZ_.2.2.2.2.1 ft_ latest_ uZ_.2.2.1 uZ_.2.2.2.1 uZ_.2.2.2.2.2.1 uZ_.2.2.2.2.2.2 columns_ fc_ levels_ fw_ walkers_ fq_ fr_ v10121_ v10122_ g10123_ g10124_ g10125_ v10120_ ∧ ¬ v10120_ = (0 : Int32) ∧ R_J6_bitCount_0f7a4_e v10122_ v10260_ ∧ vZ_ = (uZ_.1 + 1, uZ_.2.1 + v10260_, v10121_, v10122_, g10123_, g10124_, g10125_)) ∨ False
def R_X6_passTo_xN_j2 (v200400_ : Int32) (v200402_ : Int32) (v200403_ : Int32) (g200404_ : Nat → Int32) (g200405_ : Nat → Int32) (g200406_ : Nat → Int32) (things_ : Int32) (ft_ : Nat → Int32) (latest_ : Int32) (columns_ : Int32) (fc_ : Nat → Int32) (levels_ : Int32) (fw_ : Nat → Int32) (walkers_ : Int32) (fq_ : Nat → Int32) (fr_ : Nat → Int32) (v203700_ : Int32) (v203701_ : Int32) (g203702_ : Nat → Int32) (g203703_ : Nat → Int32) (g203704_ : Nat → Int32) : Prop := ((8 : Int32) ≤ v200400_ ∧ v203700_ = v200402_ ∧ v203701_ = v200403_ ∧ g203702_ = g200404_ ∧ g203703_ = g200405_ ∧ g203704_ = g200406_) ∨ (∃ (v10121_ : Int32) (v10122_ : Int32) (g10123_ : Nat → Int32) (g10124_ : Nat → Int32) (g10125_ : Nat → Int32) (v10120_ : Int32), ¬ ((8 : Int32) ≤ v200400_) ∧ R_X6_nextFall_xN_e things_ g200404_ ft_ latest_ v200402_ v200403_ g200405_ g200406_ columns_ fc_ levels_ fw_ walkers_ fq_ fr_ v10121_ v10122_ g10123_ g10124_ g10125_ v10120_ ∧ v10120_ = (0 : Int32) ∧ v203700_ = v10121_ ∧ v203701_ = v10122_ ∧ g203702_ = g10123_ ∧ g203703_ = g10124_ ∧ g203704_ = g10125_) ∨ False
def R_X6_passTo_xN_e (things_ : Int32) (ft_ : Nat → Int32) (latest_ : Int32) (columns_ : Int32) (fc_ : Nat → Int32) (levels_ : Int32) (fw_ : Nat → Int32) (walkers_ : Int32) (fq_ : Nat → Int32) (fr_ : Nat → Int32) (hour_ : Int32) (fallen_ : Int32) (fs_ : Nat → Int32) (fl_ : Nat → Int32) (fh_ : Nat → Int32) (x0_ : Int32) (x1_ : Nat → Int32) (x2_ : Nat → Int32) (x3_ : Nat → Int32) (r : Int32) : Prop := (∃ (v200400_ : Int32) (v200401_ : Int32) (v200402_ : Int32) (v200403_ : Int32) (g200404_ : Nat → Int32) (g200405_ : Nat → Int32) (g200406_ : Nat → Int32) (v203700_ : Int32) (v203701_ : Int32) (g203702_ : Nat → Int32) (g203703_ : Nat → Int32) (g203704_ : Nat → Int32), Itr (R_X6_passTo_xN_b1 things_ ft_ latest_ columns_ fc_ levels_ fw_ walkers_ fq_ fr_) (0, 0, hour_, fallen_, fs_, fl_, fh_) (v200400_, v200401_, v200402_, v200403_, g200404_, g200405_, g200406_) ∧ R_X6_passTo_xN_j2 v200400_ v200402_ v200403_ g200404_ g200405_ g200406_ things_ ft_ latest_ columns_ fc_ levels_ fw_ walkers_ fq_ fr_ v203700_ v203701_ g203702_ g203703_ g203704_ ∧ x0_ = v203701_ ∧ x1_ = g203702_ ∧ x2_ = g203703_ ∧ x3_ = g203704_ ∧ r = v200401_) ∨ False
set_option maxHeartbeats 4000000 in
set_option maxRecDepth 100000 in
theorem sf_X6_passTo_xN (l : Launch) (D : va_G) (cy : Nat → ClassId) (no_ : Nat) (nd_ : Nat) (hour_ : Int32) (ns_ : Nat) (nc_ : Nat) (nl_ : Nat) (nt_ : Nat) (nh_ : Nat) (fallen_ : Int32) (fs_ : Nat → Int32) (fc_ : Nat → Int32) (fl_ : Nat → Int32) (ft_ : Nat → Int32) (fh_ : Nat → Int32) (lines_ : Int32) (columns_ : Int32) (levels_ : Int32) (things_ : Int32) (walkers_ : Int32) (nw_ : Nat) (nr_ : Nat) (nq_ : Nat) (hangs_ : Value) (fw_ : Nat → Int32) (fr_ : Nat → Int32) (fq_ : Nat → Int32) (latest_ : Int32) (rcolumns_ : rg (1) (6) columns_) (rlevels_ : rg (1) (9) levels_) (rthings_ : rg (0) (8) things_) (rwalkers_ : rg (0) (4) walkers_) (rfq_ : ag (0) (8) 4 fq_) : Ci l yX6_passTo cX6_passTo 4 (some .int) { frames := 4, cells := 0, slots := 0, locals := 100 } D cy [.ref no_, .int latest_] [(no_, .inr (6, [.ref nd_, .int hour_, .ref ns_, .ref nc_, .ref nl_, .ref nt_, .ref nh_, .int fallen_])), (ns_, .inl (cy 0, 8, .inl (fs_))), (nc_, .inl (cy 0, 8, .inl (fc_))), (nl_, .inl (cy 0, 8, .inl (fl_))), (nt_, .inl (cy 0, 8, .inl (ft_))), (nh_, .inl (cy 0, 4, .inl (fh_))), (nd_, .inr (0, [.int lines_, .int columns_, .int levels_, .int things_, .int walkers_, .ref nw_, .ref nr_, .ref nq_, hangs_, .null])), (nw_, .inl (cy 0, 8, .inl (fw_))), (nr_, .inl (cy 0, 32, .inl (fr_))), (nq_, .inl (cy 0, 4, .inl (fq_)))] (fun r W1 => ∃ (x0_ : Int32) (x1_ : Nat → Int32) (x2_ : Nat → Int32) (x3_ : Nat → Int32), R_X6_passTo_xN_e things_ ft_ latest_ columns_ fc_ levels_ fw_ walkers_ fq_ fr_ hour_ fallen_ fs_ fl_ fh_ x0_ x1_ x2_ x3_ r ∧ W1 = [(no_, .inr (6, [.ref nd_, .int latest_, .ref ns_, .ref nc_, .ref nl_, .ref nt_, .ref nh_, .int x0_])), (ns_, .inl (cy 0, 8, .inl (x1_))), (nc_, .inl (cy 0, 8, .inl (fc_))), (nl_, .inl (cy 0, 8, .inl (x2_))), (nt_, .inl (cy 0, 8, .inl (ft_))), (nh_, .inl (cy 0, 4, .inl (x3_))), (nd_, .inr (0, [.int lines_, .int columns_, .int levels_, .int things_, .int walkers_, .ref nw_, .ref nr_, .ref nq_, hangs_, .null])), (nw_, .inl (cy 0, 8, .inl (fw_))), (nr_, .inl (cy 0, 32, .inl (fr_))), (nq_, .inl (cy 0, 4, .inl (fq_)))]) := by
  refine Ci.of (by decide) (Nat.le_of_ble_eq_true rfl) ?_
  intro p e s m below meth c A ls hX hE hP hD hl
  obtain ⟨hx, hb, hr, hml, hown, htA, hlk⟩ := id hX
  have hK := hE.1
  have hS : va_S A s.heap s.heap [] := va_S.rf
  have hl : lv_has ls 4 [(0, .ref no_), (1, .int latest_)] := hl
  refine lv_iconst (v := 0) hx hb dX6_passTo_0 (by decide) ?_
  refine lv_istore_n (lv' := [(2, .int 0), (0, .ref no_), (1, .int latest_)]) hx hb dX6_passTo_1 rfl hl (by decide) rfl (fun ls hl => ?_)
  refine lv_iconst (v := 0) hx hb dX6_passTo_2 (by decide) ?_
  refine lv_istore_n (lv' := [(3, .int 0), (2, .int 0), (0, .ref no_), (1, .int latest_)]) hx hb dX6_passTo_3 rfl hl (by decide) rfl (fun ls hl => ?_)
  refine loopT (τ := Int32 × Int32 × Int32 × Int32 × (Nat → Int32) × (Nat → Int32) × (Nat → Int32)) (WS := fun i => [(no_, .inr (6, [.ref nd_, .int i.2.2.1, .ref ns_, .ref nc_, .ref nl_, .ref nt_, .ref nh_, .int i.2.2.2.1])), (ns_, .inl (cy 0, 8, .inl (i.2.2.2.2.1))), (nc_, .inl (cy 0, 8, .inl (fc_))), (nl_, .inl (cy 0, 8, .inl (i.2.2.2.2.2.1))), (nt_, .inl (cy 0, 8, .inl (ft_))), (nh_, .inl (cy 0, 4, .inl (i.2.2.2.2.2.2))), (nd_, .inr (0, [.int lines_, .int columns_, .int levels_, .int things_, .int walkers_, .ref nw_, .ref nr_, .ref nq_, hangs_, .null])), (nw_, .inl (cy 0, 8, .inl (fw_))), (nr_, .inl (cy 0, 32, .inl (fr_))), (nq_, .inl (cy 0, 4, .inl (fq_)))]) (LV := fun i => [(3, .int i.1), (2, .int i.2.1), (0, .ref no_), (1, .int latest_)]) (fun i => (9 - i.1.toInt).toNat) (fun i => rg (0) (8) i.1 ∧ Itr (R_X6_passTo_xN_b1 things_ ft_ latest_ columns_ fc_ levels_ fw_ walkers_ fq_ fr_) (0, 0, hour_, fallen_, fs_, fl_, fh_) (i.1, i.2.1, i.2.2.1, i.2.2.2.1, i.2.2.2.2.1, i.2.2.2.2.2.1, i.2.2.2.2.2.2)) ?_ (0, 0, hour_, fallen_, fs_, fl_, fh_) ⟨(rg_w (rg_lit (by decide) : rg (0) (0) (0 : Int32)) (by decide) (by decide)), (Itr.rf _ _)⟩ hP hD hS (lv_sub hl [0, 1, 2, 3] rfl)
  intro i_ H locs ls hI ih4_ hP hD hS hl
  obtain ⟨v200400_, v200401_, v200402_, v200403_, g200404_, g200405_, g200406_⟩ := i_
  have hI : rg (0) (8) v200400_ ∧ Itr (R_X6_passTo_xN_b1 things_ ft_ latest_ columns_ fc_ levels_ fw_ walkers_ fq_ fr_) (0, 0, hour_, fallen_, fs_, fl_, fh_) (v200400_, v200401_, v200402_, v200403_, g200404_, g200405_, g200406_) := hI
  obtain ⟨rv200400_, hR1_⟩ := hI
  have hP : va_P D vwCl [(no_, .inr (6, [.ref nd_, .int v200402_, .ref ns_, .ref nc_, .ref nl_, .ref nt_, .ref nh_, .int v200403_])), (ns_, .inl (cy 0, 8, .inl (g200404_))), (nc_, .inl (cy 0, 8, .inl (fc_))), (nl_, .inl (cy 0, 8, .inl (g200405_))), (nt_, .inl (cy 0, 8, .inl (ft_))), (nh_, .inl (cy 0, 4, .inl (g200406_))), (nd_, .inr (0, [.int lines_, .int columns_, .int levels_, .int things_, .int walkers_, .ref nw_, .ref nr_, .ref nq_, hangs_, .null])), (nw_, .inl (cy 0, 8, .inl (fw_))), (nr_, .inl (cy 0, 32, .inl (fr_))), (nq_, .inl (cy 0, 4, .inl (fq_)))] H := hP
  have hD := va_ca hP hD
  have hl : lv_has ls 4 [(3, .int v200400_), (2, .int v200401_), (0, .ref no_), (1, .int latest_)] := hl
  refine lv_iload_n hx hb dX6_passTo_4 rfl (lv_at hl 0 rfl) ?_
  refine lv_bipush (v := 8) hx hb dX6_passTo_5 (by decide) ?_
  refine joinT (D := D) (A := A) (pc := 37) (mL := 4) (τ := Int32 × Int32 × (Nat → Int32) × (Nat → Int32) × (Nat → Int32)) (WS := fun i => [(no_, .inr (6, [.ref nd_, .int i.1, .ref ns_, .ref nc_, .ref nl_, .ref nt_, .ref nh_, .int i.2.1])), (ns_, .inl (cy 0, 8, .inl (i.2.2.1))), (nc_, .inl (cy 0, 8, .inl (fc_))), (nl_, .inl (cy 0, 8, .inl (i.2.2.2.1))), (nt_, .inl (cy 0, 8, .inl (ft_))), (nh_, .inl (cy 0, 4, .inl (i.2.2.2.2))), (nd_, .inr (0, [.int lines_, .int columns_, .int levels_, .int things_, .int walkers_, .ref nw_, .ref nr_, .ref nq_, hangs_, .null])), (nw_, .inl (cy 0, 8, .inl (fw_))), (nr_, .inl (cy 0, 32, .inl (fr_))), (nq_, .inl (cy 0, 4, .inl (fq_)))]) (LV := fun i => [(3, .int v200400_), (2, .int v200401_), (0, .ref no_), (1, .int latest_)]) (ST := fun i => []) (cells := 0) (slots := 0) (fun i => R_X6_passTo_xN_j2 v200400_ v200402_ v200403_ g200404_ g200405_ g200406_ things_ ft_ latest_ columns_ fc_ levels_ fw_ walkers_ fq_ fr_ i.1 i.2.1 i.2.2.1 i.2.2.2.1 i.2.2.2.2) (fun i_ H locs ls hI hP hD hS hl => ?_) (fun j37_ => ?_)
  · obtain ⟨v203700_, v203701_, g203702_, g203703_, g203704_⟩ := i_
    have hI : R_X6_passTo_xN_j2 v200400_ v200402_ v200403_ g200404_ g200405_ g200406_ things_ ft_ latest_ columns_ fc_ levels_ fw_ walkers_ fq_ fr_ v203700_ v203701_ g203702_ g203703_ g203704_ := hI
    have hR2_ := hI
    have hP : va_P D vwCl [(no_, .inr (6, [.ref nd_, .int v203700_, .ref ns_, .ref nc_, .ref nl_, .ref nt_, .ref nh_, .int v203701_])), (ns_, .inl (cy 0, 8, .inl (g203702_))), (nc_, .inl (cy 0, 8, .inl (fc_))), (nl_, .inl (cy 0, 8, .inl (g203703_))), (nt_, .inl (cy 0, 8, .inl (ft_))), (nh_, .inl (cy 0, 4, .inl (g203704_))), (nd_, .inr (0, [.int lines_, .int columns_, .int levels_, .int things_, .int walkers_, .ref nw_, .ref nr_, .ref nq_, hangs_, .null])), (nw_, .inl (cy 0, 8, .inl (fw_))), (nr_, .inl (cy 0, 32, .inl (fr_))), (nq_, .inl (cy 0, 4, .inl (fq_)))] H := hP
    have hD := va_ca hP hD
    have hl : lv_has ls 4 [(3, .int v200400_), (2, .int v200401_), (0, .ref no_), (1, .int latest_)] := hl
    refine lv_aload_n hx hb dX6_passTo_37 rfl (lv_at hl 2 rfl) ?_
    refine lv_iload_n hx hb dX6_passTo_38 rfl (lv_at hl 3 rfl) ?_
    refine va_put (ci := 6) (v := .int latest_) (ty := .int) (C := RX6) (T := TX6) (N := 8) hx hb htA in_X6 tyX6 tyX6_ok nmX6 hown hK hP hD hS 0 rfl rfl 1 (by decide) (htA _ wd_170) (fun _ h => h) rfl (by decide +kernel) rfl rfl (Nat.le_of_ble_eq_true rfl) dX6_passTo_39 (fun H locs hP hD hS => ?_)
    have hP : va_P D vwCl [(no_, .inr (6, [.ref nd_, .int latest_, .ref ns_, .ref nc_, .ref nl_, .ref nt_, .ref nh_, .int v203701_])), (ns_, .inl (cy 0, 8, .inl (g203702_))), (nc_, .inl (cy 0, 8, .inl (fc_))), (nl_, .inl (cy 0, 8, .inl (g203703_))), (nt_, .inl (cy 0, 8, .inl (ft_))), (nh_, .inl (cy 0, 4, .inl (g203704_))), (nd_, .inr (0, [.int lines_, .int columns_, .int levels_, .int things_, .int walkers_, .ref nw_, .ref nr_, .ref nq_, hangs_, .null])), (nw_, .inl (cy 0, 8, .inl (fw_))), (nr_, .inl (cy 0, 32, .inl (fr_))), (nq_, .inl (cy 0, 4, .inl (fq_)))] H := hP
    have hD := va_ca hP hD
    refine lv_iload_n hx hb dX6_passTo_42 rfl (lv_at hl 1 rfl) ?_
    exact rI hX hE hP hD hS dX6_passTo_43 (by decide) (by decide) ⟨v203701_, g203702_, g203703_, g203704_, (Or.inl ⟨v200400_, v200401_, v200402_, v200403_, g200404_, g200405_, g200406_, v203700_, v203701_, g203702_, g203703_, g203704_, hR1_, hR2_, rfl, rfl, rfl, rfl, rfl⟩), rfl⟩
  refine lv_icmp_ge (tgt := 37) hx hb dX6_passTo_7 (by decide) (fun c7_ => ?_) (fun c7_ => ?_)
  · have g1_ : rg (8) (8) v200400_ := rg_le2 c7_ (rg_lit (by decide) : rg (8) (8) (8 : Int32)) rv200400_ (by decide)
    exact j37_ (v200402_, v200403_, g200404_, g200405_, g200406_) _ _ ls (Or.inl ⟨c7_, rfl, rfl, rfl, rfl, rfl⟩) hP hD hS (lv_sub hl [0, 1, 2, 3] rfl)
  · have g2_ : rg (0) (7) v200400_ := rg_lt1 (rg_nle c7_) rv200400_ (rg_lit (by decide) : rg (8) (8) (8 : Int32)) (by decide)
    refine lv_aload_n hx hb dX6_passTo_10 rfl (lv_at hl 2 rfl) ?_
    refine lv_iload_n hx hb dX6_passTo_11 rfl (lv_at hl 3 rfl) ?_
    refine kVi (As := [.int latest_]) (rest := []) (wr := []) hX hE (sf_X6_nextFall_xN l D cy no_ nd_ v200402_ ns_ nc_ nl_ nt_ nh_ v200403_ g200404_ fc_ g200405_ ft_ g200406_ lines_ columns_ levels_ things_ walkers_ nw_ nr_ nq_ hangs_ fw_ fr_ fq_ latest_ (rg_w rcolumns_ (by decide) (by decide)) (rg_w rlevels_ (by decide) (by decide)) (rg_w rthings_ (by decide) (by decide)) (rg_w rwalkers_ (by decide) (by decide)) rfq_) (cwVA 1 htA wd_494 wd_949 wd_6 wd_492 wd_493 (by decide +kernel) ⟨by decide, by decide⟩) hP hD hS [0, 1, 2, 3, 4, 5, 6, 7, 8, 9] [] rfl rfl (by decide +kernel) 0 rfl rfl rfl rfl hl.1 rfl (Nat.le_of_ble_eq_true rfl) dX6_passTo_12 (by decide) (fun v10120_ W1 H locs hw hP hD hS => ?_)
    refine W.widen (k := 0) (n := 0) (by decide) (by decide) ?_
    obtain ⟨v10121_, v10122_, g10123_, g10124_, g10125_, k12_0_, rfl, kr12_⟩ := hw
    have hP : va_P D vwCl [(no_, .inr (6, [.ref nd_, .int v10121_, .ref ns_, .ref nc_, .ref nl_, .ref nt_, .ref nh_, .int v10122_])), (ns_, .inl (cy 0, 8, .inl (g10123_))), (nc_, .inl (cy 0, 8, .inl (fc_))), (nl_, .inl (cy 0, 8, .inl (g10124_))), (nt_, .inl (cy 0, 8, .inl (ft_))), (nh_, .inl (cy 0, 4, .inl (g10125_))), (nd_, .inr (0, [.int lines_, .int columns_, .int levels_, .int things_, .int walkers_, .ref nw_, .ref nr_, .ref nq_, hangs_, .null])), (nw_, .inl (cy 0, 8, .inl (fw_))), (nr_, .inl (cy 0, 32, .inl (fr_))), (nq_, .inl (cy 0, 4, .inl (fq_)))] H := hP
    have hD := va_ca hP hD
    refine lv_if_ne (tgt := 21) hx hb dX6_passTo_15 (by decide) (fun c15_ => ?_) (fun c15_ => ?_)
    · have g3_ : rg (1) (1) v10120_ := rg_ne1 c15_ kr12_ (by decide) (by decide)
      refine lv_iload_n hx hb dX6_passTo_21 rfl (lv_at hl 1 rfl) ?_
      refine lv_aload_n hx hb dX6_passTo_22 rfl (lv_at hl 2 rfl) ?_
      refine va_get (ci := 6) (v := .int v10122_) (C := RX6) (T := TX6) (N := 8) hx hb htA in_X6 hown hK hP 0 rfl rfl 7 (by decide) (htA _ wd_189) (fun _ h => h) rfl dX6_passTo_23 ?_
      refine kSi (As := [.int v10122_]) (rest := [.int v200401_]) (wr := [(no_, .inr (6, [.ref nd_, .int v10121_, .ref ns_, .ref nc_, .ref nl_, .ref nt_, .ref nh_, .int v10122_])), (ns_, .inl (cy 0, 8, .inl (g10123_))), (nc_, .inl (cy 0, 8, .inl (fc_))), (nl_, .inl (cy 0, 8, .inl (g10124_))), (nt_, .inl (cy 0, 8, .inl (ft_))), (nh_, .inl (cy 0, 4, .inl (g10125_))), (nd_, .inr (0, [.int lines_, .int columns_, .int levels_, .int things_, .int walkers_, .ref nw_, .ref nr_, .ref nq_, hangs_, .null])), (nw_, .inl (cy 0, 8, .inl (fw_))), (nr_, .inl (cy 0, 32, .inl (fr_))), (nq_, .inl (cy 0, 4, .inl (fq_)))]) hX hE (sf_J6_bitCount_0f7a4 l D cy v10122_ ) (cwSA 1 htA wd_438 wd_436 wd_24 wd_437 (by decide +kernel) ⟨by decide, by decide⟩) hP hD hS [] [0, 1, 2, 3, 4, 5, 6, 7, 8, 9] rfl rfl (by decide +kernel) rfl hl.1 rfl (Nat.le_of_ble_eq_true rfl) dX6_passTo_26 (by decide) (fun v10260_ W1 H locs hw hP hD hS => ?_)
      refine W.widen (k := 0) (n := 0) (by decide) (by decide) ?_
      obtain ⟨k26_0_, rfl, kr26_⟩ := hw
      have hP : va_P D vwCl [(no_, .inr (6, [.ref nd_, .int v10121_, .ref ns_, .ref nc_, .ref nl_, .ref nt_, .ref nh_, .int v10122_])), (ns_, .inl (cy 0, 8, .inl (g10123_))), (nc_, .inl (cy 0, 8, .inl (fc_))), (nl_, .inl (cy 0, 8, .inl (g10124_))), (nt_, .inl (cy 0, 8, .inl (ft_))), (nh_, .inl (cy 0, 4, .inl (g10125_))), (nd_, .inr (0, [.int lines_, .int columns_, .int levels_, .int things_, .int walkers_, .ref nw_, .ref nr_, .ref nq_, hangs_, .null])), (nw_, .inl (cy 0, 8, .inl (fw_))), (nr_, .inl (cy 0, 32, .inl (fr_))), (nq_, .inl (cy 0, 4, .inl (fq_)))] H := hP
      have hD := va_ca hP hD
      refine lv_iadd hx hb dX6_passTo_29 ?_
      refine lv_istore_n (lv' := [(2, .int (v200401_ + v10260_)), (3, .int v200400_), (0, .ref no_), (1, .int latest_)]) hx hb dX6_passTo_30 rfl hl (by decide) rfl (fun ls hl => ?_)
      refine lv_iinc (v := v200400_ + 1) (lv' := [(3, .int (v200400_ + 1)), (2, .int (v200401_ + v10260_)), (0, .ref no_), (1, .int latest_)]) hx hb dX6_passTo_31 hl (k := 1) rfl rfl (by decide) rfl (fun ls hl => ?_)
      have g4_ : rg (1) (8) (v200400_ + 1) := rg_add g2_ (rg_lit (by decide) : rg (1) (1) (1 : Int32)) (by decide) (by decide) (by decide) (by decide)
      refine lv_goto (tgt := 4) hx hb dX6_passTo_34 (by decide) ?_
      exact ih4_ (v200400_ + 1, v200401_ + v10260_, v10121_, v10122_, g10123_, g10124_, g10125_) _ _ ls ⟨(rg_w g4_ (by decide) (by decide)), (Itr.st hR1_ (Or.inl ⟨v10121_, v10122_, g10123_, g10124_, g10125_, v10120_, v10260_, c7_, k12_0_, c15_, k26_0_, rfl⟩))⟩ (show (9 - (v200400_ + 1).toInt).toNat < (9 - v200400_.toInt).toNat from by rw [show (v200400_ + 1).toInt = v200400_.toInt + 1 from inc32 v200400_ (by have hq := (rv200400_).2; omega)]; have hq := (g2_).1; have hq2 := (g2_).2; omega) hP hD hS (lv_sub hl [0, 1, 2, 3] rfl)
    · have g5_ : rg (0) (0) v10120_ := rg_eq c15_ (rg_lit (by decide) : rg (0) (0) (0 : Int32))
      refine lv_goto (tgt := 37) hx hb dX6_passTo_18 (by decide) ?_
      exact j37_ (v10121_, v10122_, g10123_, g10124_, g10125_) _ _ ls (Or.inr (Or.inl ⟨v10121_, v10122_, g10123_, g10124_, g10125_, v10120_, c7_, k12_0_, c15_, rfl, rfl, rfl, rfl, rfl⟩)) hP hD hS (lv_sub hl [0, 1, 2, 3] rfl)
def R_X6_passTo_xR_b1 (things_ : Int32) (ft_ : Nat → Int32) (latest_ : Int32) (columns_ : Int32) (fc_ : Nat → Int32) (fw_ : Nat → Int32) (lenF_ : Nat) (fpF_ : Nat → Int32) (levels_ : Int32) (walkers_ : Int32) (fq_ : Nat → Int32) (fr_ : Nat → Int32) (uZ_ vZ_ : Int32 × Int32 × Int32 × Int32 × (Nat → Int32) × (Nat → Int32) × (Nat → Int32) × (Nat → Int32) × (Nat → Int32)) : Prop := (∃ (v10121_ : Int32) (v10122_ : Int32) (g10123_ : Nat → Int32) (g10124_ : Nat → Int32) (g10125_ : Nat → Int32) (g10126_ : Nat → Int32) (g10127_ : Nat → Int32) (v10120_ : Int32) (v10260_ : Int32), ¬ ((8 : Int32) ≤ uZ_.1) ∧ R_X6_nextFall_xR_e things_ uZ_.2.2.2.2.1 ft_ latest_ uZ_.2.2.1 uZ_.2.2.2.1 uZ_.2.2.2.2.2.1 uZ_.2.2.2.2.2.2.1 uZ_.2.2.2.2.2.2.2.1 uZ_.2.2.2.2.2.2.2.2 columns_ fc_ fw_ lenF_ fpF_ levels_ walkers_ fq_ fr_ v10121_ v10122_ g10123_ g10124_ g10125_ g10126_ g10127_ v10120_ ∧ ¬ v10120_ = (0 : Int32) ∧ R_J6_bitCount_0f7a4_e v10122_ v10260_ ∧ vZ_ = (uZ_.1 + 1, uZ_.2.1 + v10260_, v10121_, v10122_, g10123_, g10124_, g10125_, g10126_, g10127_)) ∨ False
def R_X6_passTo_xR_j2 (v200400_ : Int32) (v200402_ : Int32) (v200403_ : Int32) (g200404_ : Nat → Int32) (g200405_ : Nat → Int32) (g200406_ : Nat → Int32) (g200407_ : Nat → Int32) (g200408_ : Nat → Int32) (things_ : Int32) (ft_ : Nat → Int32) (latest_ : Int32) (columns_ : Int32) (fc_ : Nat → Int32) (fw_ : Nat → Int32) (lenF_ : Nat) (fpF_ : Nat → Int32) (levels_ : Int32) (walkers_ : Int32) (fq_ : Nat → Int32) (fr_ : Nat → Int32) (v203700_ : Int32) (v203701_ : Int32) (g203702_ : Nat → Int32) (g203703_ : Nat → Int32) (g203704_ : Nat → Int32) (g203705_ : Nat → Int32) (g203706_ : Nat → Int32) : Prop := ((8 : Int32) ≤ v200400_ ∧ v203700_ = v200402_ ∧ v203701_ = v200403_ ∧ g203702_ = g200404_ ∧ g203703_ = g200405_ ∧ g203704_ = g200406_ ∧ g203705_ = g200407_ ∧ g203706_ = g200408_) ∨ (∃ (v10121_ : Int32) (v10122_ : Int32) (g10123_ : Nat → Int32) (g10124_ : Nat → Int32) (g10125_ : Nat → Int32) (g10126_ : Nat → Int32) (g10127_ : Nat → Int32) (v10120_ : Int32), ¬ ((8 : Int32) ≤ v200400_) ∧ R_X6_nextFall_xR_e things_ g200404_ ft_ latest_ v200402_ v200403_ g200405_ g200406_ g200407_ g200408_ columns_ fc_ fw_ lenF_ fpF_ levels_ walkers_ fq_ fr_ v10121_ v10122_ g10123_ g10124_ g10125_ g10126_ g10127_ v10120_ ∧ v10120_ = (0 : Int32) ∧ v203700_ = v10121_ ∧ v203701_ = v10122_ ∧ g203702_ = g10123_ ∧ g203703_ = g10124_ ∧ g203704_ = g10125_ ∧ g203705_ = g10126_ ∧ g203706_ = g10127_) ∨ False
def R_X6_passTo_xR_e (things_ : Int32) (ft_ : Nat → Int32) (latest_ : Int32) (columns_ : Int32) (fc_ : Nat → Int32) (fw_ : Nat → Int32) (lenF_ : Nat) (fpF_ : Nat → Int32) (levels_ : Int32) (walkers_ : Int32) (fq_ : Nat → Int32) (fr_ : Nat → Int32) (hour_ : Int32) (fallen_ : Int32) (fs_ : Nat → Int32) (fl_ : Nat → Int32) (fh_ : Nat → Int32) (fgF_ : Nat → Int32) (fkF_ : Nat → Int32) (x0_ : Int32) (x1_ : Nat → Int32) (x2_ : Nat → Int32) (x3_ : Nat → Int32) (x4_ : Nat → Int32) (x5_ : Nat → Int32) (r : Int32) : Prop := (∃ (v200400_ : Int32) (v200401_ : Int32) (v200402_ : Int32) (v200403_ : Int32) (g200404_ : Nat → Int32) (g200405_ : Nat → Int32) (g200406_ : Nat → Int32) (g200407_ : Nat → Int32) (g200408_ : Nat → Int32) (v203700_ : Int32) (v203701_ : Int32) (g203702_ : Nat → Int32) (g203703_ : Nat → Int32) (g203704_ : Nat → Int32) (g203705_ : Nat → Int32) (g203706_ : Nat → Int32), Itr (R_X6_passTo_xR_b1 things_ ft_ latest_ columns_ fc_ fw_ lenF_ fpF_ levels_ walkers_ fq_ fr_) (0, 0, hour_, fallen_, fs_, fl_, fh_, fgF_, fkF_) (v200400_, v200401_, v200402_, v200403_, g200404_, g200405_, g200406_, g200407_, g200408_) ∧ R_X6_passTo_xR_j2 v200400_ v200402_ v200403_ g200404_ g200405_ g200406_ g200407_ g200408_ things_ ft_ latest_ columns_ fc_ fw_ lenF_ fpF_ levels_ walkers_ fq_ fr_ v203700_ v203701_ g203702_ g203703_ g203704_ g203705_ g203706_ ∧ x0_ = v203701_ ∧ x1_ = g203702_ ∧ x2_ = g203703_ ∧ x3_ = g203704_ ∧ x4_ = g203705_ ∧ x5_ = g203706_ ∧ r = v200401_) ∨ False
set_option maxHeartbeats 4000000 in
set_option maxRecDepth 100000 in
theorem sf_X6_passTo_xR (l : Launch) (D : va_G) (cy : Nat → ClassId) (no_ : Nat) (nd_ : Nat) (hour_ : Int32) (ns_ : Nat) (nc_ : Nat) (nl_ : Nat) (nt_ : Nat) (nh_ : Nat) (fallen_ : Int32) (fs_ : Nat → Int32) (fc_ : Nat → Int32) (fl_ : Nat → Int32) (ft_ : Nat → Int32) (fh_ : Nat → Int32) (lines_ : Int32) (columns_ : Int32) (levels_ : Int32) (things_ : Int32) (walkers_ : Int32) (nw_ : Nat) (nr_ : Nat) (nq_ : Nat) (hangs_ : Value) (nLF_ : Nat) (fw_ : Nat → Int32) (fr_ : Nat → Int32) (fq_ : Nat → Int32) (npF_ : Nat) (ngF_ : Nat) (nkF_ : Nat) (lenF_ : Nat) (fpF_ : Nat → Int32) (fgF_ : Nat → Int32) (fkF_ : Nat → Int32) (latest_ : Int32) (hlenF_ : lenF_ ≤ 900) (rcolumns_ : rg (1) (6) columns_) (rlevels_ : rg (1) (9) levels_) (rthings_ : rg (0) (8) things_) (rwalkers_ : rg (0) (4) walkers_) (rfq_ : ag (0) (8) 4 fq_) : Ci l yX6_passTo cX6_passTo 4 (some .int) { frames := 6, cells := 0, slots := 0, locals := 155 } D cy [.ref no_, .int latest_] [(no_, .inr (6, [.ref nd_, .int hour_, .ref ns_, .ref nc_, .ref nl_, .ref nt_, .ref nh_, .int fallen_])), (ns_, .inl (cy 0, 8, .inl (fs_))), (nc_, .inl (cy 0, 8, .inl (fc_))), (nl_, .inl (cy 0, 8, .inl (fl_))), (nt_, .inl (cy 0, 8, .inl (ft_))), (nh_, .inl (cy 0, 4, .inl (fh_))), (nd_, .inr (0, [.int lines_, .int columns_, .int levels_, .int things_, .int walkers_, .ref nw_, .ref nr_, .ref nq_, hangs_, .ref nLF_])), (nw_, .inl (cy 0, 8, .inl (fw_))), (nr_, .inl (cy 0, 32, .inl (fr_))), (nq_, .inl (cy 0, 4, .inl (fq_))), (nLF_, .inr (4, [.ref npF_, .ref ngF_, .ref nkF_])), (npF_, .inl (cy 0, lenF_, .inl (fpF_))), (ngF_, .inl (cy 0, 6, .inl (fgF_))), (nkF_, .inl (cy 0, 32, .inl (fkF_)))] (fun r W1 => ∃ (x0_ : Int32) (x1_ : Nat → Int32) (x2_ : Nat → Int32) (x3_ : Nat → Int32) (x4_ : Nat → Int32) (x5_ : Nat → Int32), R_X6_passTo_xR_e things_ ft_ latest_ columns_ fc_ fw_ lenF_ fpF_ levels_ walkers_ fq_ fr_ hour_ fallen_ fs_ fl_ fh_ fgF_ fkF_ x0_ x1_ x2_ x3_ x4_ x5_ r ∧ W1 = [(no_, .inr (6, [.ref nd_, .int latest_, .ref ns_, .ref nc_, .ref nl_, .ref nt_, .ref nh_, .int x0_])), (ns_, .inl (cy 0, 8, .inl (x1_))), (nc_, .inl (cy 0, 8, .inl (fc_))), (nl_, .inl (cy 0, 8, .inl (x2_))), (nt_, .inl (cy 0, 8, .inl (ft_))), (nh_, .inl (cy 0, 4, .inl (x3_))), (nd_, .inr (0, [.int lines_, .int columns_, .int levels_, .int things_, .int walkers_, .ref nw_, .ref nr_, .ref nq_, hangs_, .ref nLF_])), (nw_, .inl (cy 0, 8, .inl (fw_))), (nr_, .inl (cy 0, 32, .inl (fr_))), (nq_, .inl (cy 0, 4, .inl (fq_))), (nLF_, .inr (4, [.ref npF_, .ref ngF_, .ref nkF_])), (npF_, .inl (cy 0, lenF_, .inl (fpF_))), (ngF_, .inl (cy 0, 6, .inl (x4_))), (nkF_, .inl (cy 0, 32, .inl (x5_)))]) := by
  refine Ci.of (by decide) (Nat.le_of_ble_eq_true rfl) ?_
  intro p e s m below meth c A ls hX hE hP hD hl
  obtain ⟨hx, hb, hr, hml, hown, htA, hlk⟩ := id hX
  have hK := hE.1
  have hS : va_S A s.heap s.heap [] := va_S.rf
  have hl : lv_has ls 4 [(0, .ref no_), (1, .int latest_)] := hl
  refine lv_iconst (v := 0) hx hb dX6_passTo_0 (by decide) ?_
  refine lv_istore_n (lv' := [(2, .int 0), (0, .ref no_), (1, .int latest_)]) hx hb dX6_passTo_1 rfl hl (by decide) rfl (fun ls hl => ?_)
  refine lv_iconst (v := 0) hx hb dX6_passTo_2 (by decide) ?_
  refine lv_istore_n (lv' := [(3, .int 0), (2, .int 0), (0, .ref no_), (1, .int latest_)]) hx hb dX6_passTo_3 rfl hl (by decide) rfl (fun ls hl => ?_)
  refine loopT (τ := Int32 × Int32 × Int32 × Int32 × (Nat → Int32) × (Nat → Int32) × (Nat → Int32) × (Nat → Int32) × (Nat → Int32)) (WS := fun i => [(no_, .inr (6, [.ref nd_, .int i.2.2.1, .ref ns_, .ref nc_, .ref nl_, .ref nt_, .ref nh_, .int i.2.2.2.1])), (ns_, .inl (cy 0, 8, .inl (i.2.2.2.2.1))), (nc_, .inl (cy 0, 8, .inl (fc_))), (nl_, .inl (cy 0, 8, .inl (i.2.2.2.2.2.1))), (nt_, .inl (cy 0, 8, .inl (ft_))), (nh_, .inl (cy 0, 4, .inl (i.2.2.2.2.2.2.1))), (nd_, .inr (0, [.int lines_, .int columns_, .int levels_, .int things_, .int walkers_, .ref nw_, .ref nr_, .ref nq_, hangs_, .ref nLF_])), (nw_, .inl (cy 0, 8, .inl (fw_))), (nr_, .inl (cy 0, 32, .inl (fr_))), (nq_, .inl (cy 0, 4, .inl (fq_))), (nLF_, .inr (4, [.ref npF_, .ref ngF_, .ref nkF_])), (npF_, .inl (cy 0, lenF_, .inl (fpF_))), (ngF_, .inl (cy 0, 6, .inl (i.2.2.2.2.2.2.2.1))), (nkF_, .inl (cy 0, 32, .inl (i.2.2.2.2.2.2.2.2)))]) (LV := fun i => [(3, .int i.1), (2, .int i.2.1), (0, .ref no_), (1, .int latest_)]) (fun i => (9 - i.1.toInt).toNat) (fun i => rg (0) (8) i.1 ∧ Itr (R_X6_passTo_xR_b1 things_ ft_ latest_ columns_ fc_ fw_ lenF_ fpF_ levels_ walkers_ fq_ fr_) (0, 0, hour_, fallen_, fs_, fl_, fh_, fgF_, fkF_) (i.1, i.2.1, i.2.2.1, i.2.2.2.1, i.2.2.2.2.1, i.2.2.2.2.2.1, i.2.2.2.2.2.2.1, i.2.2.2.2.2.2.2.1, i.2.2.2.2.2.2.2.2)) ?_ (0, 0, hour_, fallen_, fs_, fl_, fh_, fgF_, fkF_) ⟨(rg_w (rg_lit (by decide) : rg (0) (0) (0 : Int32)) (by decide) (by decide)), (Itr.rf _ _)⟩ hP hD hS (lv_sub hl [0, 1, 2, 3] rfl)
  intro i_ H locs ls hI ih4_ hP hD hS hl
  obtain ⟨v200400_, v200401_, v200402_, v200403_, g200404_, g200405_, g200406_, g200407_, g200408_⟩ := i_
  have hI : rg (0) (8) v200400_ ∧ Itr (R_X6_passTo_xR_b1 things_ ft_ latest_ columns_ fc_ fw_ lenF_ fpF_ levels_ walkers_ fq_ fr_) (0, 0, hour_, fallen_, fs_, fl_, fh_, fgF_, fkF_) (v200400_, v200401_, v200402_, v200403_, g200404_, g200405_, g200406_, g200407_, g200408_) := hI
  obtain ⟨rv200400_, hR1_⟩ := hI
  have hP : va_P D vwCl [(no_, .inr (6, [.ref nd_, .int v200402_, .ref ns_, .ref nc_, .ref nl_, .ref nt_, .ref nh_, .int v200403_])), (ns_, .inl (cy 0, 8, .inl (g200404_))), (nc_, .inl (cy 0, 8, .inl (fc_))), (nl_, .inl (cy 0, 8, .inl (g200405_))), (nt_, .inl (cy 0, 8, .inl (ft_))), (nh_, .inl (cy 0, 4, .inl (g200406_))), (nd_, .inr (0, [.int lines_, .int columns_, .int levels_, .int things_, .int walkers_, .ref nw_, .ref nr_, .ref nq_, hangs_, .ref nLF_])), (nw_, .inl (cy 0, 8, .inl (fw_))), (nr_, .inl (cy 0, 32, .inl (fr_))), (nq_, .inl (cy 0, 4, .inl (fq_))), (nLF_, .inr (4, [.ref npF_, .ref ngF_, .ref nkF_])), (npF_, .inl (cy 0, lenF_, .inl (fpF_))), (ngF_, .inl (cy 0, 6, .inl (g200407_))), (nkF_, .inl (cy 0, 32, .inl (g200408_)))] H := hP
  have hD := va_ca hP hD
  have hl : lv_has ls 4 [(3, .int v200400_), (2, .int v200401_), (0, .ref no_), (1, .int latest_)] := hl
  refine lv_iload_n hx hb dX6_passTo_4 rfl (lv_at hl 0 rfl) ?_
  refine lv_bipush (v := 8) hx hb dX6_passTo_5 (by decide) ?_
  refine joinT (D := D) (A := A) (pc := 37) (mL := 4) (τ := Int32 × Int32 × (Nat → Int32) × (Nat → Int32) × (Nat → Int32) × (Nat → Int32) × (Nat → Int32)) (WS := fun i => [(no_, .inr (6, [.ref nd_, .int i.1, .ref ns_, .ref nc_, .ref nl_, .ref nt_, .ref nh_, .int i.2.1])), (ns_, .inl (cy 0, 8, .inl (i.2.2.1))), (nc_, .inl (cy 0, 8, .inl (fc_))), (nl_, .inl (cy 0, 8, .inl (i.2.2.2.1))), (nt_, .inl (cy 0, 8, .inl (ft_))), (nh_, .inl (cy 0, 4, .inl (i.2.2.2.2.1))), (nd_, .inr (0, [.int lines_, .int columns_, .int levels_, .int things_, .int walkers_, .ref nw_, .ref nr_, .ref nq_, hangs_, .ref nLF_])), (nw_, .inl (cy 0, 8, .inl (fw_))), (nr_, .inl (cy 0, 32, .inl (fr_))), (nq_, .inl (cy 0, 4, .inl (fq_))), (nLF_, .inr (4, [.ref npF_, .ref ngF_, .ref nkF_])), (npF_, .inl (cy 0, lenF_, .inl (fpF_))), (ngF_, .inl (cy 0, 6, .inl (i.2.2.2.2.2.1))), (nkF_, .inl (cy 0, 32, .inl (i.2.2.2.2.2.2)))]) (LV := fun i => [(3, .int v200400_), (2, .int v200401_), (0, .ref no_), (1, .int latest_)]) (ST := fun i => []) (cells := 0) (slots := 0) (fun i => R_X6_passTo_xR_j2 v200400_ v200402_ v200403_ g200404_ g200405_ g200406_ g200407_ g200408_ things_ ft_ latest_ columns_ fc_ fw_ lenF_ fpF_ levels_ walkers_ fq_ fr_ i.1 i.2.1 i.2.2.1 i.2.2.2.1 i.2.2.2.2.1 i.2.2.2.2.2.1 i.2.2.2.2.2.2) (fun i_ H locs ls hI hP hD hS hl => ?_) (fun j37_ => ?_)
  · obtain ⟨v203700_, v203701_, g203702_, g203703_, g203704_, g203705_, g203706_⟩ := i_
    have hI : R_X6_passTo_xR_j2 v200400_ v200402_ v200403_ g200404_ g200405_ g200406_ g200407_ g200408_ things_ ft_ latest_ columns_ fc_ fw_ lenF_ fpF_ levels_ walkers_ fq_ fr_ v203700_ v203701_ g203702_ g203703_ g203704_ g203705_ g203706_ := hI
    have hR2_ := hI
    have hP : va_P D vwCl [(no_, .inr (6, [.ref nd_, .int v203700_, .ref ns_, .ref nc_, .ref nl_, .ref nt_, .ref nh_, .int v203701_])), (ns_, .inl (cy 0, 8, .inl (g203702_))), (nc_, .inl (cy 0, 8, .inl (fc_))), (nl_, .inl (cy 0, 8, .inl (g203703_))), (nt_, .inl (cy 0, 8, .inl (ft_))), (nh_, .inl (cy 0, 4, .inl (g203704_))), (nd_, .inr (0, [.int lines_, .int columns_, .int levels_, .int things_, .int walkers_, .ref nw_, .ref nr_, .ref nq_, hangs_, .ref nLF_])), (nw_, .inl (cy 0, 8, .inl (fw_))), (nr_, .inl (cy 0, 32, .inl (fr_))), (nq_, .inl (cy 0, 4, .inl (fq_))), (nLF_, .inr (4, [.ref npF_, .ref ngF_, .ref nkF_])), (npF_, .inl (cy 0, lenF_, .inl (fpF_))), (ngF_, .inl (cy 0, 6, .inl (g203705_))), (nkF_, .inl (cy 0, 32, .inl (g203706_)))] H := hP
    have hD := va_ca hP hD
    have hl : lv_has ls 4 [(3, .int v200400_), (2, .int v200401_), (0, .ref no_), (1, .int latest_)] := hl
    refine lv_aload_n hx hb dX6_passTo_37 rfl (lv_at hl 2 rfl) ?_
    refine lv_iload_n hx hb dX6_passTo_38 rfl (lv_at hl 3 rfl) ?_
    refine va_put (ci := 6) (v := .int latest_) (ty := .int) (C := RX6) (T := TX6) (N := 8) hx hb htA in_X6 tyX6 tyX6_ok nmX6 hown hK hP hD hS 0 rfl rfl 1 (by decide) (htA _ wd_170) (fun _ h => h) rfl (by decide +kernel) rfl rfl (Nat.le_of_ble_eq_true rfl) dX6_passTo_39 (fun H locs hP hD hS => ?_)
    have hP : va_P D vwCl [(no_, .inr (6, [.ref nd_, .int latest_, .ref ns_, .ref nc_, .ref nl_, .ref nt_, .ref nh_, .int v203701_])), (ns_, .inl (cy 0, 8, .inl (g203702_))), (nc_, .inl (cy 0, 8, .inl (fc_))), (nl_, .inl (cy 0, 8, .inl (g203703_))), (nt_, .inl (cy 0, 8, .inl (ft_))), (nh_, .inl (cy 0, 4, .inl (g203704_))), (nd_, .inr (0, [.int lines_, .int columns_, .int levels_, .int things_, .int walkers_, .ref nw_, .ref nr_, .ref nq_, hangs_, .ref nLF_])), (nw_, .inl (cy 0, 8, .inl (fw_))), (nr_, .inl (cy 0, 32, .inl (fr_))), (nq_, .inl (cy 0, 4, .inl (fq_))), (nLF_, .inr (4, [.ref npF_, .ref ngF_, .ref nkF_])), (npF_, .inl (cy 0, lenF_, .inl (fpF_))), (ngF_, .inl (cy 0, 6, .inl (g203705_))), (nkF_, .inl (cy 0, 32, .inl (g203706_)))] H := hP
    have hD := va_ca hP hD
    refine lv_iload_n hx hb dX6_passTo_42 rfl (lv_at hl 1 rfl) ?_
    exact rI hX hE hP hD hS dX6_passTo_43 (by decide) (by decide) ⟨v203701_, g203702_, g203703_, g203704_, g203705_, g203706_, (Or.inl ⟨v200400_, v200401_, v200402_, v200403_, g200404_, g200405_, g200406_, g200407_, g200408_, v203700_, v203701_, g203702_, g203703_, g203704_, g203705_, g203706_, hR1_, hR2_, rfl, rfl, rfl, rfl, rfl, rfl, rfl⟩), rfl⟩
  refine lv_icmp_ge (tgt := 37) hx hb dX6_passTo_7 (by decide) (fun c7_ => ?_) (fun c7_ => ?_)
  · have g1_ : rg (8) (8) v200400_ := rg_le2 c7_ (rg_lit (by decide) : rg (8) (8) (8 : Int32)) rv200400_ (by decide)
    exact j37_ (v200402_, v200403_, g200404_, g200405_, g200406_, g200407_, g200408_) _ _ ls (Or.inl ⟨c7_, rfl, rfl, rfl, rfl, rfl, rfl, rfl⟩) hP hD hS (lv_sub hl [0, 1, 2, 3] rfl)
  · have g2_ : rg (0) (7) v200400_ := rg_lt1 (rg_nle c7_) rv200400_ (rg_lit (by decide) : rg (8) (8) (8 : Int32)) (by decide)
    refine lv_aload_n hx hb dX6_passTo_10 rfl (lv_at hl 2 rfl) ?_
    refine lv_iload_n hx hb dX6_passTo_11 rfl (lv_at hl 3 rfl) ?_
    refine kVi (As := [.int latest_]) (rest := []) (wr := []) hX hE (sf_X6_nextFall_xR l D cy no_ nd_ v200402_ ns_ nc_ nl_ nt_ nh_ v200403_ g200404_ fc_ g200405_ ft_ g200406_ lines_ columns_ levels_ things_ walkers_ nw_ nr_ nq_ hangs_ nLF_ fw_ fr_ fq_ npF_ ngF_ nkF_ lenF_ fpF_ g200407_ g200408_ latest_ hlenF_ (rg_w rcolumns_ (by decide) (by decide)) (rg_w rlevels_ (by decide) (by decide)) (rg_w rthings_ (by decide) (by decide)) (rg_w rwalkers_ (by decide) (by decide)) rfq_) (cwVA 1 htA wd_494 wd_949 wd_6 wd_492 wd_493 (by decide +kernel) ⟨by decide, by decide⟩) hP hD hS [0, 1, 2, 3, 4, 5, 6, 7, 8, 9, 10, 11, 12, 13] [] rfl rfl (by decide +kernel) 0 rfl rfl rfl rfl hl.1 rfl (Nat.le_of_ble_eq_true rfl) dX6_passTo_12 (by decide) (fun v10120_ W1 H locs hw hP hD hS => ?_)
    refine W.widen (k := 0) (n := 0) (by decide) (by decide) ?_
    obtain ⟨v10121_, v10122_, g10123_, g10124_, g10125_, g10126_, g10127_, k12_0_, rfl, kr12_⟩ := hw
    have hP : va_P D vwCl [(no_, .inr (6, [.ref nd_, .int v10121_, .ref ns_, .ref nc_, .ref nl_, .ref nt_, .ref nh_, .int v10122_])), (ns_, .inl (cy 0, 8, .inl (g10123_))), (nc_, .inl (cy 0, 8, .inl (fc_))), (nl_, .inl (cy 0, 8, .inl (g10124_))), (nt_, .inl (cy 0, 8, .inl (ft_))), (nh_, .inl (cy 0, 4, .inl (g10125_))), (nd_, .inr (0, [.int lines_, .int columns_, .int levels_, .int things_, .int walkers_, .ref nw_, .ref nr_, .ref nq_, hangs_, .ref nLF_])), (nw_, .inl (cy 0, 8, .inl (fw_))), (nr_, .inl (cy 0, 32, .inl (fr_))), (nq_, .inl (cy 0, 4, .inl (fq_))), (nLF_, .inr (4, [.ref npF_, .ref ngF_, .ref nkF_])), (npF_, .inl (cy 0, lenF_, .inl (fpF_))), (ngF_, .inl (cy 0, 6, .inl (g10126_))), (nkF_, .inl (cy 0, 32, .inl (g10127_)))] H := hP
    have hD := va_ca hP hD
    refine lv_if_ne (tgt := 21) hx hb dX6_passTo_15 (by decide) (fun c15_ => ?_) (fun c15_ => ?_)
    · have g3_ : rg (1) (1) v10120_ := rg_ne1 c15_ kr12_ (by decide) (by decide)
      refine lv_iload_n hx hb dX6_passTo_21 rfl (lv_at hl 1 rfl) ?_
      refine lv_aload_n hx hb dX6_passTo_22 rfl (lv_at hl 2 rfl) ?_
      refine va_get (ci := 6) (v := .int v10122_) (C := RX6) (T := TX6) (N := 8) hx hb htA in_X6 hown hK hP 0 rfl rfl 7 (by decide) (htA _ wd_189) (fun _ h => h) rfl dX6_passTo_23 ?_
      refine kSi (As := [.int v10122_]) (rest := [.int v200401_]) (wr := [(no_, .inr (6, [.ref nd_, .int v10121_, .ref ns_, .ref nc_, .ref nl_, .ref nt_, .ref nh_, .int v10122_])), (ns_, .inl (cy 0, 8, .inl (g10123_))), (nc_, .inl (cy 0, 8, .inl (fc_))), (nl_, .inl (cy 0, 8, .inl (g10124_))), (nt_, .inl (cy 0, 8, .inl (ft_))), (nh_, .inl (cy 0, 4, .inl (g10125_))), (nd_, .inr (0, [.int lines_, .int columns_, .int levels_, .int things_, .int walkers_, .ref nw_, .ref nr_, .ref nq_, hangs_, .ref nLF_])), (nw_, .inl (cy 0, 8, .inl (fw_))), (nr_, .inl (cy 0, 32, .inl (fr_))), (nq_, .inl (cy 0, 4, .inl (fq_))), (nLF_, .inr (4, [.ref npF_, .ref ngF_, .ref nkF_])), (npF_, .inl (cy 0, lenF_, .inl (fpF_))), (ngF_, .inl (cy 0, 6, .inl (g10126_))), (nkF_, .inl (cy 0, 32, .inl (g10127_)))]) hX hE (sf_J6_bitCount_0f7a4 l D cy v10122_ ) (cwSA 1 htA wd_438 wd_436 wd_24 wd_437 (by decide +kernel) ⟨by decide, by decide⟩) hP hD hS [] [0, 1, 2, 3, 4, 5, 6, 7, 8, 9, 10, 11, 12, 13] rfl rfl (by decide +kernel) rfl hl.1 rfl (Nat.le_of_ble_eq_true rfl) dX6_passTo_26 (by decide) (fun v10260_ W1 H locs hw hP hD hS => ?_)
      refine W.widen (k := 0) (n := 0) (by decide) (by decide) ?_
      obtain ⟨k26_0_, rfl, kr26_⟩ := hw
      have hP : va_P D vwCl [(no_, .inr (6, [.ref nd_, .int v10121_, .ref ns_, .ref nc_, .ref nl_, .ref nt_, .ref nh_, .int v10122_])), (ns_, .inl (cy 0, 8, .inl (g10123_))), (nc_, .inl (cy 0, 8, .inl (fc_))), (nl_, .inl (cy 0, 8, .inl (g10124_))), (nt_, .inl (cy 0, 8, .inl (ft_))), (nh_, .inl (cy 0, 4, .inl (g10125_))), (nd_, .inr (0, [.int lines_, .int columns_, .int levels_, .int things_, .int walkers_, .ref nw_, .ref nr_, .ref nq_, hangs_, .ref nLF_])), (nw_, .inl (cy 0, 8, .inl (fw_))), (nr_, .inl (cy 0, 32, .inl (fr_))), (nq_, .inl (cy 0, 4, .inl (fq_))), (nLF_, .inr (4, [.ref npF_, .ref ngF_, .ref nkF_])), (npF_, .inl (cy 0, lenF_, .inl (fpF_))), (ngF_, .inl (cy 0, 6, .inl (g10126_))), (nkF_, .inl (cy 0, 32, .inl (g10127_)))] H := hP
      have hD := va_ca hP hD
      refine lv_iadd hx hb dX6_passTo_29 ?_
      refine lv_istore_n (lv' := [(2, .int (v200401_ + v10260_)), (3, .int v200400_), (0, .ref no_), (1, .int latest_)]) hx hb dX6_passTo_30 rfl hl (by decide) rfl (fun ls hl => ?_)
      refine lv_iinc (v := v200400_ + 1) (lv' := [(3, .int (v200400_ + 1)), (2, .int (v200401_ + v10260_)), (0, .ref no_), (1, .int latest_)]) hx hb dX6_passTo_31 hl (k := 1) rfl rfl (by decide) rfl (fun ls hl => ?_)
      have g4_ : rg (1) (8) (v200400_ + 1) := rg_add g2_ (rg_lit (by decide) : rg (1) (1) (1 : Int32)) (by decide) (by decide) (by decide) (by decide)
      refine lv_goto (tgt := 4) hx hb dX6_passTo_34 (by decide) ?_
      exact ih4_ (v200400_ + 1, v200401_ + v10260_, v10121_, v10122_, g10123_, g10124_, g10125_, g10126_, g10127_) _ _ ls ⟨(rg_w g4_ (by decide) (by decide)), (Itr.st hR1_ (Or.inl ⟨v10121_, v10122_, g10123_, g10124_, g10125_, g10126_, g10127_, v10120_, v10260_, c7_, k12_0_, c15_, k26_0_, rfl⟩))⟩ (show (9 - (v200400_ + 1).toInt).toNat < (9 - v200400_.toInt).toNat from by rw [show (v200400_ + 1).toInt = v200400_.toInt + 1 from inc32 v200400_ (by have hq := (rv200400_).2; omega)]; have hq := (g2_).1; have hq2 := (g2_).2; omega) hP hD hS (lv_sub hl [0, 1, 2, 3] rfl)
    · have g5_ : rg (0) (0) v10120_ := rg_eq c15_ (rg_lit (by decide) : rg (0) (0) (0 : Int32))
      refine lv_goto (tgt := 37) hx hb dX6_passTo_18 (by decide) ?_
      exact j37_ (v10121_, v10122_, g10123_, g10124_, g10125_, g10126_, g10127_) _ _ ls (Or.inr (Or.inl ⟨v10121_, v10122_, g10123_, g10124_, g10125_, g10126_, g10127_, v10120_, c7_, k12_0_, c15_, rfl, rfl, rfl, rfl, rfl, rfl, rfl⟩)) hP hD hS (lv_sub hl [0, 1, 2, 3] rfl)
