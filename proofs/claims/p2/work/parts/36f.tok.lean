def R_X7_isWithin_j3 (s_ : Int32) (a_ : Int32) (b_ : Int32) : Prop := (s_ < a_) ∨ (¬ (s_ < a_) ∧ b_ < s_) ∨ False
def R_X7_isWithin_j1 (s_ : Int32) (a_ : Int32) (b_ : Int32) (v201500_ : Int32) : Prop := (R_X7_isWithin_j3 s_ a_ b_ ∧ v201500_ = (0 : Int32)) ∨ (¬ (s_ < a_) ∧ ¬ (b_ < s_) ∧ v201500_ = (1 : Int32)) ∨ False
def R_X7_isWithin_e (s_ : Int32) (a_ : Int32) (b_ : Int32) (r : Int32) : Prop := (∃ (v201500_ : Int32), R_X7_isWithin_j1 s_ a_ b_ v201500_ ∧ r = v201500_) ∨ False
set_option maxHeartbeats 4000000 in
set_option maxRecDepth 100000 in
theorem sf_X7_isWithin (l : Launch) (D : va_G) (cy : Nat → ClassId) (s_ : Int32) (a_ : Int32) (b_ : Int32) : Ci l yX7_isWithin cX7_isWithin 3 (some .boolean) { frames := 0, cells := 0, slots := 0, locals := 0 } D cy [.int s_, .int a_, .int b_] [] (fun r W1 => R_X7_isWithin_e s_ a_ b_ r ∧ W1 = [] ∧ rg (0) (1) r) := by
  refine Ci.of (by decide) (Nat.le_of_ble_eq_true rfl) ?_
  intro p e s m below meth c A ls hX hE hP hD hl
  obtain ⟨hx, hb, hr, hml, hown, htA, hlk⟩ := id hX
  have hK := hE.1
  have hS : va_S A s.heap s.heap [] := va_S.rf
  have hl : lv_has ls 3 [(0, .int s_), (1, .int a_), (2, .int b_)] := hl
  refine lv_iload_n hx hb dX7_isWithin_0 rfl (lv_at hl 0 rfl) ?_
  refine lv_iload_n hx hb dX7_isWithin_1 rfl (lv_at hl 1 rfl) ?_
  refine joinT (D := D) (A := A) (pc := 15) (mL := 3) (τ := Int32) (WS := fun i => []) (LV := fun i => [(0, .int s_), (1, .int a_), (2, .int b_)]) (ST := fun i => [.int i]) (cells := 0) (slots := 0) (fun i => rg (0) (1) i ∧ R_X7_isWithin_j1 s_ a_ b_ i) (fun v201500_ H locs ls hI hP hD hS hl => ?_) (fun j15_ => ?_)
  · have hI : rg (0) (1) v201500_ ∧ R_X7_isWithin_j1 s_ a_ b_ v201500_ := hI
    obtain ⟨rv201500_, hR1_⟩ := hI
    have hP : va_P D vwCl [] H := hP
    have hD := va_ca hP hD
    have hl : lv_has ls 3 [(0, .int s_), (1, .int a_), (2, .int b_)] := hl
    exact rZ hX (nz_of rv201500_) hE hP hD hS dX7_isWithin_15 (by decide) (by decide) ⟨(Or.inl ⟨v201500_, hR1_, rfl⟩), rfl, (rg_w rv201500_ (by decide) (by decide))⟩
  refine joinT (D := D) (A := A) (pc := 14) (mL := 3) (τ := Unit) (WS := fun i => []) (LV := fun i => [(0, .int s_), (1, .int a_), (2, .int b_)]) (ST := fun i => []) (cells := 0) (slots := 0) (fun i => R_X7_isWithin_j3 s_ a_ b_) (fun u0_ H locs ls hI hP hD hS hl => ?_) (fun j14_ => ?_)
  · have hI : R_X7_isWithin_j3 s_ a_ b_ := hI
    have hR3_ := hI
    have hP : va_P D vwCl [] H := hP
    have hD := va_ca hP hD
    have hl : lv_has ls 3 [(0, .int s_), (1, .int a_), (2, .int b_)] := hl
    refine lv_iconst (v := 0) hx hb dX7_isWithin_14 (by decide) ?_
    exact j15_ 0 _ _ ls ⟨(rg_w (rg_lit (by decide) : rg (0) (0) (0 : Int32)) (by decide) (by decide)), (Or.inl ⟨hR3_, rfl⟩)⟩ hP hD hS (lv_sub hl [0, 1, 2] rfl)
  refine lv_icmp_lt (tgt := 14) hx hb dX7_isWithin_2 (by decide) (fun c2_ => ?_) (fun c2_ => ?_)
  · have g1_ : rg (-2147483648) (2147483646) s_ := rg_lt1 c2_ (rg_any _) (rg_any _) (by decide)
    have g2_ : rg (-2147483647) (2147483647) a_ := rg_lt2 c2_ (rg_any _) (rg_any _) (by decide)
    exact j14_ () _ _ ls (Or.inl c2_) hP hD hS (lv_sub hl [0, 1, 2] rfl)
  · refine lv_iload_n hx hb dX7_isWithin_5 rfl (lv_at hl 0 rfl) ?_
    refine lv_iload_n hx hb dX7_isWithin_6 rfl (lv_at hl 2 rfl) ?_
    refine lv_icmp_gt (tgt := 14) hx hb dX7_isWithin_7 (by decide) (fun c7_ => ?_) (fun c7_ => ?_)
    · have g3_ : rg (-2147483648) (2147483646) b_ := rg_lt1 c7_ (rg_any _) (rg_any _) (by decide)
      have g4_ : rg (-2147483647) (2147483647) s_ := rg_lt2 c7_ (rg_any _) (rg_any _) (by decide)
      exact j14_ () _ _ ls (Or.inr (Or.inl ⟨c2_, c7_⟩)) hP hD hS (lv_sub hl [0, 1, 2] rfl)
    · refine lv_iconst (v := 1) hx hb dX7_isWithin_10 (by decide) ?_
      refine lv_goto (tgt := 15) hx hb dX7_isWithin_11 (by decide) ?_
      exact j15_ 1 _ _ ls ⟨(rg_w (rg_lit (by decide) : rg (1) (1) (1 : Int32)) (by decide) (by decide)), (Or.inr (Or.inl ⟨c2_, c7_, rfl⟩))⟩ hP hD hS (lv_sub hl [0, 1, 2] rfl)
def R_X7_runEnd_b1 (len_ : Int32) (ftp_ : Nat → Int32) (a_ : Int32) (b_ : Int32) (uZ_ vZ_ : Int32) : Prop := (∃ (v10120_ : Int32) (v10160_ : Int32), ¬ (len_ ≤ uZ_) ∧ v10120_ = ftp_ uZ_.toNatClampNeg ∧ R_X7_isWithin_e v10120_ a_ b_ v10160_ ∧ ¬ (v10160_ = (0 : Int32)) ∧ vZ_ = uZ_ + 1) ∨ False
def R_X7_runEnd_j2 (len_ : Int32) (v200300_ : Int32) (ftp_ : Nat → Int32) (a_ : Int32) (b_ : Int32) : Prop := (len_ ≤ v200300_) ∨ (∃ (v10120_ : Int32) (v10160_ : Int32), ¬ (len_ ≤ v200300_) ∧ v10120_ = ftp_ v200300_.toNatClampNeg ∧ R_X7_isWithin_e v10120_ a_ b_ v10160_ ∧ v10160_ = (0 : Int32)) ∨ False
def R_X7_runEnd_e (len_ : Int32) (ftp_ : Nat → Int32) (a_ : Int32) (b_ : Int32) (from_ : Int32) (r : Int32) : Prop := (∃ (v200300_ : Int32), Itr (R_X7_runEnd_b1 len_ ftp_ a_ b_) from_ v200300_ ∧ R_X7_runEnd_j2 len_ v200300_ ftp_ a_ b_ ∧ r = v200300_) ∨ False
set_option maxHeartbeats 4000000 in
set_option maxRecDepth 100000 in
theorem sf_X7_runEnd (l : Launch) (D : va_G) (cy : Nat → ClassId) (ntp_ : Nat) (ftp_ : Nat → Int32) (from_ : Int32) (len_ : Int32) (a_ : Int32) (b_ : Int32) (rlen_ : rg (0) (900) len_) (rfrom_ : rg (0) (900) from_) : Ci l yX7_runEnd cX7_runEnd 6 (some .int) { frames := 1, cells := 0, slots := 0, locals := 22 } D cy [.ref ntp_, .int from_, .int len_, .int a_, .int b_] [(ntp_, .inl (cy 1, 900, .inl (ftp_)))] (fun r W1 => R_X7_runEnd_e len_ ftp_ a_ b_ from_ r ∧ W1 = [(ntp_, .inl (cy 1, 900, .inl (ftp_)))] ∧ rg (0) (900) r) := by
  refine Ci.of (by decide) (Nat.le_of_ble_eq_true rfl) ?_
  intro p e s m below meth c A ls hX hE hP hD hl
  obtain ⟨hx, hb, hr, hml, hown, htA, hlk⟩ := id hX
  have hK := hE.1
  have hS : va_S A s.heap s.heap [] := va_S.rf
  have hl : lv_has ls 6 [(0, .ref ntp_), (1, .int from_), (2, .int len_), (3, .int a_), (4, .int b_)] := hl
  refine lv_iload_n hx hb dX7_runEnd_0 rfl (lv_at hl 1 rfl) ?_
  refine lv_istore (lv' := [(5, .int from_), (0, .ref ntp_), (1, .int from_), (2, .int len_), (3, .int a_), (4, .int b_)]) hx hb dX7_runEnd_1 hl (by decide) rfl (fun ls hl => ?_)
  refine loopT (τ := Int32) (WS := fun i => [(ntp_, .inl (cy 1, 900, .inl (ftp_)))]) (LV := fun i => [(5, .int i), (0, .ref ntp_), (1, .int from_), (2, .int len_), (3, .int a_), (4, .int b_)]) (fun i => (901 - i.toInt).toNat) (fun i => rg (0) (900) i ∧ Itr (R_X7_runEnd_b1 len_ ftp_ a_ b_) from_ i) ?_ from_ ⟨(rg_w rfrom_ (by decide) (by decide)), (Itr.rf _ _)⟩ hP hD hS (lv_sub hl [0, 1, 2, 3, 4, 5] rfl)
  intro v200300_ H locs ls hI ih3_ hP hD hS hl
  have hI : rg (0) (900) v200300_ ∧ Itr (R_X7_runEnd_b1 len_ ftp_ a_ b_) from_ v200300_ := hI
  obtain ⟨rv200300_, hR1_⟩ := hI
  have hP : va_P D vwCl [(ntp_, .inl (cy 1, 900, .inl (ftp_)))] H := hP
  have hD := va_ca hP hD
  have hl : lv_has ls 6 [(5, .int v200300_), (0, .ref ntp_), (1, .int from_), (2, .int len_), (3, .int a_), (4, .int b_)] := hl
  refine lv_iload hx hb dX7_runEnd_3 (lv_at hl 0 rfl) ?_
  refine lv_iload_n hx hb dX7_runEnd_5 rfl (lv_at hl 3 rfl) ?_
  refine joinT (D := D) (A := A) (pc := 28) (mL := 6) (τ := Unit) (WS := fun i => [(ntp_, .inl (cy 1, 900, .inl (ftp_)))]) (LV := fun i => [(5, .int v200300_), (0, .ref ntp_), (1, .int from_), (2, .int len_), (3, .int a_), (4, .int b_)]) (ST := fun i => []) (cells := 0) (slots := 0) (fun i => R_X7_runEnd_j2 len_ v200300_ ftp_ a_ b_) (fun u0_ H locs ls hI hP hD hS hl => ?_) (fun j28_ => ?_)
  · have hI : R_X7_runEnd_j2 len_ v200300_ ftp_ a_ b_ := hI
    have hR2_ := hI
    have hP : va_P D vwCl [(ntp_, .inl (cy 1, 900, .inl (ftp_)))] H := hP
    have hD := va_ca hP hD
    have hl : lv_has ls 6 [(5, .int v200300_), (0, .ref ntp_), (1, .int from_), (2, .int len_), (3, .int a_), (4, .int b_)] := hl
    refine lv_iload hx hb dX7_runEnd_28 (lv_at hl 0 rfl) ?_
    exact rI hX hE hP hD hS dX7_runEnd_30 (by decide) (by decide) ⟨(Or.inl ⟨v200300_, hR1_, hR2_, rfl⟩), rfl, (rg_w rv200300_ (by decide) (by decide))⟩
  refine lv_icmp_ge (tgt := 28) hx hb dX7_runEnd_6 (by decide) (fun c6_ => ?_) (fun c6_ => ?_)
  · exact j28_ () _ _ ls (Or.inl c6_) hP hD hS (lv_sub hl [0, 1, 2, 3, 4, 5] rfl)
  · have g1_ : rg (0) (899) v200300_ := rg_lt1 (rg_nle c6_) rv200300_ rlen_ (by decide)
    have g2_ : rg (1) (900) len_ := rg_lt2 (rg_nle c6_) rv200300_ rlen_ (by decide)
    refine lv_aload_n hx hb dX7_runEnd_9 rfl (lv_at hl 1 rfl) ?_
    refine lv_iload hx hb dX7_runEnd_10 (lv_at hl 0 rfl) ?_
    refine va_bald hx hb hK hP 0 1 rfl rfl (rg_in g1_ (by decide) (by decide)) dX7_runEnd_12 ?_
    refine lv_topi (fun v10120_ ev10120_ => ?_)
    refine lv_iload_n hx hb dX7_runEnd_13 rfl (lv_at hl 4 rfl) ?_
    refine lv_iload hx hb dX7_runEnd_14 (lv_at hl 5 rfl) ?_
    refine kSi (As := [.int v10120_, .int a_, .int b_]) (rest := []) (wr := [(ntp_, .inl (cy 1, 900, .inl (ftp_)))]) hX hE (sf_X7_isWithin l D cy v10120_ a_ b_ ) (cwSA 3 htA wd_615 wd_613 wd_5 wd_614 (by decide +kernel) ⟨by decide, by decide⟩) hP hD hS [] [0] rfl rfl (by decide +kernel) rfl hl.1 rfl (Nat.le_of_ble_eq_true rfl) dX7_runEnd_16 (by decide) (fun v10160_ W1 H locs hw hP hD hS => ?_)
    refine W.widen (k := 0) (n := 0) (by decide) (by decide) ?_
    obtain ⟨k16_0_, rfl, kr16_⟩ := hw
    have hP : va_P D vwCl [(ntp_, .inl (cy 1, 900, .inl (ftp_)))] H := hP
    have hD := va_ca hP hD
    refine lv_if_eq (tgt := 28) hx hb dX7_runEnd_19 (by decide) (fun c19_ => ?_) (fun c19_ => ?_)
    · have g3_ : rg (0) (0) v10160_ := rg_eq c19_ (rg_lit (by decide) : rg (0) (0) (0 : Int32))
      exact j28_ () _ _ ls (Or.inr (Or.inl ⟨v10120_, v10160_, c6_, ev10120_, k16_0_, c19_⟩)) hP hD hS (lv_sub hl [0, 1, 2, 3, 4, 5] rfl)
    · have g4_ : rg (1) (1) v10160_ := rg_ne1 c19_ kr16_ (by decide) (by decide)
      refine lv_iinc (v := v200300_ + 1) (lv' := [(5, .int (v200300_ + 1)), (0, .ref ntp_), (1, .int from_), (2, .int len_), (3, .int a_), (4, .int b_)]) hx hb dX7_runEnd_22 hl (k := 0) rfl rfl (by decide) rfl (fun ls hl => ?_)
      have g5_ : rg (1) (900) (v200300_ + 1) := rg_add g1_ (rg_lit (by decide) : rg (1) (1) (1 : Int32)) (by decide) (by decide) (by decide) (by decide)
      refine lv_goto (tgt := 3) hx hb dX7_runEnd_25 (by decide) ?_
      exact ih3_ (v200300_ + 1) _ _ ls ⟨(rg_w g5_ (by decide) (by decide)), (Itr.st hR1_ (Or.inl ⟨v10120_, v10160_, c6_, ev10120_, k16_0_, c19_, rfl⟩))⟩ (show (901 - (v200300_ + 1).toInt).toNat < (901 - v200300_.toInt).toNat from by rw [show (v200300_ + 1).toInt = v200300_.toInt + 1 from inc32 v200300_ (by have hq := (rv200300_).2; omega)]; have hq := (g1_).1; have hq2 := (g1_).2; omega) hP hD hS (lv_sub hl [0, 1, 2, 3, 4, 5] rfl)
def R_X7_numberAt_b1 (end_ : Int32) (ftp_ : Nat → Int32) (uZ_ vZ_ : Int32 × Int32) : Prop := (∃ (v10180_ : Int32), ¬ (end_ ≤ uZ_.1) ∧ v10180_ = ftp_ uZ_.1.toNatClampNeg ∧ vZ_ = (uZ_.1 + 1, ((10 * uZ_.2) + v10180_) - 48)) ∨ False
def R_X7_numberAt_e (end_ : Int32) (ftp_ : Nat → Int32) (from_ : Int32) (r : Int32) : Prop := (∃ (v200500_ : Int32) (v200501_ : Int32), Itr (R_X7_numberAt_b1 end_ ftp_) (from_, 0) (v200500_, v200501_) ∧ end_ ≤ v200500_ ∧ r = v200501_) ∨ False
set_option maxHeartbeats 4000000 in
set_option maxRecDepth 100000 in
theorem sf_X7_numberAt (l : Launch) (D : va_G) (cy : Nat → ClassId) (ntp_ : Nat) (ftp_ : Nat → Int32) (from_ : Int32) (end_ : Int32) (rfrom_ : rg (0) (900) from_) (rend_ : rg (0) (900) end_) : Ci l yX7_numberAt cX7_numberAt 5 (some .int) { frames := 0, cells := 0, slots := 0, locals := 0 } D cy [.ref ntp_, .int from_, .int end_] [(ntp_, .inl (cy 1, 900, .inl (ftp_)))] (fun r W1 => R_X7_numberAt_e end_ ftp_ from_ r ∧ W1 = [(ntp_, .inl (cy 1, 900, .inl (ftp_)))]) := by
  refine Ci.of (by decide) (Nat.le_of_ble_eq_true rfl) ?_
  intro p e s m below meth c A ls hX hE hP hD hl
  obtain ⟨hx, hb, hr, hml, hown, htA, hlk⟩ := id hX
  have hK := hE.1
  have hS : va_S A s.heap s.heap [] := va_S.rf
  have hl : lv_has ls 5 [(0, .ref ntp_), (1, .int from_), (2, .int end_)] := hl
  refine lv_iconst (v := 0) hx hb dX7_numberAt_0 (by decide) ?_
  refine lv_istore_n (lv' := [(3, .int 0), (0, .ref ntp_), (1, .int from_), (2, .int end_)]) hx hb dX7_numberAt_1 rfl hl (by decide) rfl (fun ls hl => ?_)
  refine lv_iload_n hx hb dX7_numberAt_2 rfl (lv_at hl 2 rfl) ?_
  refine lv_istore (lv' := [(4, .int from_), (3, .int 0), (0, .ref ntp_), (1, .int from_), (2, .int end_)]) hx hb dX7_numberAt_3 hl (by decide) rfl (fun ls hl => ?_)
  refine loopT (τ := Int32 × Int32) (WS := fun i => [(ntp_, .inl (cy 1, 900, .inl (ftp_)))]) (LV := fun i => [(4, .int i.1), (3, .int i.2), (0, .ref ntp_), (1, .int from_), (2, .int end_)]) (fun i => (901 - i.1.toInt).toNat) (fun i => rg (0) (900) i.1 ∧ Itr (R_X7_numberAt_b1 end_ ftp_) (from_, 0) (i.1, i.2)) ?_ (from_, 0) ⟨(rg_w rfrom_ (by decide) (by decide)), (Itr.rf _ _)⟩ hP hD hS (lv_sub hl [0, 1, 2, 3, 4] rfl)
  intro i_ H locs ls hI ih5_ hP hD hS hl
  obtain ⟨v200500_, v200501_⟩ := i_
  have hI : rg (0) (900) v200500_ ∧ Itr (R_X7_numberAt_b1 end_ ftp_) (from_, 0) (v200500_, v200501_) := hI
  obtain ⟨rv200500_, hR1_⟩ := hI
  have hP : va_P D vwCl [(ntp_, .inl (cy 1, 900, .inl (ftp_)))] H := hP
  have hD := va_ca hP hD
  have hl : lv_has ls 5 [(4, .int v200500_), (3, .int v200501_), (0, .ref ntp_), (1, .int from_), (2, .int end_)] := hl
  refine lv_iload hx hb dX7_numberAt_5 (lv_at hl 0 rfl) ?_
  refine lv_iload_n hx hb dX7_numberAt_7 rfl (lv_at hl 4 rfl) ?_
  refine lv_icmp_ge (tgt := 30) hx hb dX7_numberAt_8 (by decide) (fun c8_ => ?_) (fun c8_ => ?_)
  · refine lv_iload_n hx hb dX7_numberAt_30 rfl (lv_at hl 1 rfl) ?_
    exact rI hX hE hP hD hS dX7_numberAt_31 (by decide) (by decide) ⟨(Or.inl ⟨v200500_, v200501_, hR1_, c8_, rfl⟩), rfl⟩
  · have g1_ : rg (0) (899) v200500_ := rg_lt1 (rg_nle c8_) rv200500_ rend_ (by decide)
    have g2_ : rg (1) (900) end_ := rg_lt2 (rg_nle c8_) rv200500_ rend_ (by decide)
    refine lv_bipush (v := 10) hx hb dX7_numberAt_11 (by decide) ?_
    refine lv_iload_n hx hb dX7_numberAt_13 rfl (lv_at hl 1 rfl) ?_
    refine lv_imul hx hb dX7_numberAt_14 ?_
    refine lv_aload_n hx hb dX7_numberAt_15 rfl (lv_at hl 2 rfl) ?_
    refine lv_iload hx hb dX7_numberAt_16 (lv_at hl 0 rfl) ?_
    refine va_bald hx hb hK hP 0 1 rfl rfl (rg_in g1_ (by decide) (by decide)) dX7_numberAt_18 ?_
    refine lv_topi (fun v10180_ ev10180_ => ?_)
    refine lv_iadd hx hb dX7_numberAt_19 ?_
    refine lv_bipush (v := 48) hx hb dX7_numberAt_20 (by decide) ?_
    refine lv_isub hx hb dX7_numberAt_22 ?_
    refine lv_istore_n (lv' := [(3, .int (((10 * v200501_) + v10180_) - 48)), (4, .int v200500_), (0, .ref ntp_), (1, .int from_), (2, .int end_)]) hx hb dX7_numberAt_23 rfl hl (by decide) rfl (fun ls hl => ?_)
    refine lv_iinc (v := v200500_ + 1) (lv' := [(4, .int (v200500_ + 1)), (3, .int (((10 * v200501_) + v10180_) - 48)), (0, .ref ntp_), (1, .int from_), (2, .int end_)]) hx hb dX7_numberAt_24 hl (k := 1) rfl rfl (by decide) rfl (fun ls hl => ?_)
    have g3_ : rg (1) (900) (v200500_ + 1) := rg_add g1_ (rg_lit (by decide) : rg (1) (1) (1 : Int32)) (by decide) (by decide) (by decide) (by decide)
    refine lv_goto (tgt := 5) hx hb dX7_numberAt_27 (by decide) ?_
    exact ih5_ (v200500_ + 1, ((10 * v200501_) + v10180_) - 48) _ _ ls ⟨(rg_w g3_ (by decide) (by decide)), (Itr.st hR1_ (Or.inl ⟨v10180_, c8_, ev10180_, rfl⟩))⟩ (show (901 - (v200500_ + 1).toInt).toNat < (901 - v200500_.toInt).toNat from by rw [show (v200500_ + 1).toInt = v200500_.toInt + 1 from inc32 v200500_ (by have hq := (rv200500_).2; omega)]; have hq := (g1_).1; have hq2 := (g1_).2; omega) hP hD hS (lv_sub hl [0, 1, 2, 3, 4] rfl)
def R_X7_wordKind_j4 (v201301_ : Int32) (v201302_ : Int32) (end_ : Int32) : Prop := (v201301_ = (0 : Int32)) ∨ (¬ (v201301_ = (0 : Int32)) ∧ ¬ v201302_ = end_) ∨ False
def R_X7_wordKind_j6 (v201301_ : Int32) (end_ : Int32) (v201302_ : Int32) (ftp_ : Nat → Int32) (v10270_ : Int32) : Prop := (v201301_ = (0 : Int32)) ∨ (¬ (v201301_ = (0 : Int32)) ∧ end_ ≤ v201302_) ∨ (∃ (v10530_ : Int32), ¬ (v201301_ = (0 : Int32)) ∧ ¬ (end_ ≤ v201302_) ∧ v10530_ = ftp_ v201302_.toNatClampNeg ∧ ¬ v10530_ = v10270_) ∨ False
def R_X7_wordKind_j5 (v201301_ : Int32) (end_ : Int32) (v201302_ : Int32) (ftp_ : Nat → Int32) (v10270_ : Int32) (v206400_ : Int32) : Prop := (R_X7_wordKind_j6 v201301_ end_ v201302_ ftp_ v10270_ ∧ v206400_ = (0 : Int32)) ∨ (∃ (v10530_ : Int32), ¬ (v201301_ = (0 : Int32)) ∧ ¬ (end_ ≤ v201302_) ∧ v10530_ = ftp_ v201302_.toNatClampNeg ∧ v10530_ = v10270_ ∧ v206400_ = (1 : Int32)) ∨ False
def R_X7_wordKind_j3 (v10270_ : Int32) (v201301_ : Int32) (v201302_ : Int32) (end_ : Int32) (from_ : Int32) (v201303_ : Int32) (ftp_ : Nat → Int32) (v209400_ : Int32) (v209401_ : Int32) (v209402_ : Int32) : Prop := (v10270_ = (32 : Int32) ∧ R_X7_wordKind_j4 v201301_ v201302_ end_ ∧ v209400_ = (1 : Int32) ∧ v209401_ = from_ ∧ v209402_ = v201303_ + 1) ∨ (∃ (v206400_ : Int32), ¬ (v10270_ = (32 : Int32)) ∧ R_X7_wordKind_j5 v201301_ end_ v201302_ ftp_ v10270_ v206400_ ∧ v209400_ = v206400_ ∧ v209401_ = v201302_ + 1 ∧ v209402_ = v201303_) ∨ False
def R_X7_wordKind_b1 (end_ : Int32) (from_ : Int32) (ftp_ : Nat → Int32) (uZ_ vZ_ : Int32 × Int32 × Int32 × Int32) : Prop := (∃ (v10270_ : Int32) (v209400_ : Int32) (v209401_ : Int32) (v209402_ : Int32), ¬ ((99 : Int32) ≤ uZ_.1) ∧ v10270_ = (txF "fall thing walker hangs frees hour held up for on not and or weight column level lying wa wb la lb ") uZ_.1.toNatClampNeg &&& 255 ∧ R_X7_wordKind_j3 v10270_ uZ_.2.1 uZ_.2.2.1 end_ from_ uZ_.2.2.2 ftp_ v209400_ v209401_ v209402_ ∧ vZ_ = (uZ_.1 + 1, v209400_, v209401_, v209402_)) ∨ False
def R_X7_wordKind_e (end_ : Int32) (from_ : Int32) (ftp_ : Nat → Int32) (r : Int32) : Prop := (∃ (v201300_ : Int32) (v201301_ : Int32) (v201302_ : Int32) (v201303_ : Int32), Itr (R_X7_wordKind_b1 end_ from_ ftp_) (0, 1, from_, 200) (v201300_, v201301_, v201302_, v201303_) ∧ (99 : Int32) ≤ v201300_ ∧ r = (199 : Int32)) ∨ (∃ (v201300_ : Int32) (v201301_ : Int32) (v201302_ : Int32) (v201303_ : Int32) (v10270_ : Int32), Itr (R_X7_wordKind_b1 end_ from_ ftp_) (0, 1, from_, 200) (v201300_, v201301_, v201302_, v201303_) ∧ ¬ ((99 : Int32) ≤ v201300_) ∧ v10270_ = (txF "fall thing walker hangs frees hour held up for on not and or weight column level lying wa wb la lb ") v201300_.toNatClampNeg &&& 255 ∧ v10270_ = (32 : Int32) ∧ ¬ (v201301_ = (0 : Int32)) ∧ v201302_ = end_ ∧ r = v201303_) ∨ False
set_option maxHeartbeats 4000000 in
set_option maxRecDepth 100000 in
theorem sf_X7_wordKind (l : Launch) (D : va_G) (cy : Nat → ClassId) (ntp_ : Nat) (ftp_ : Nat → Int32) (from_ : Int32) (end_ : Int32) (rfrom_ : rg (0) (900) from_) (rend_ : rg (0) (900) end_) : Ci l yX7_wordKind cX7_wordKind 8 (some .int) { frames := 4, cells := 0, slots := 0, locals := 161 } D cy [.ref ntp_, .int from_, .int end_] [(ntp_, .inl (cy 1, 900, .inl (ftp_)))] (fun r W1 => R_X7_wordKind_e end_ from_ ftp_ r ∧ W1 = [(ntp_, .inl (cy 1, 900, .inl (ftp_)))]) := by
  refine Ci.of (by decide) (Nat.le_of_ble_eq_true rfl) ?_
  intro p e s m below meth c A ls hX hE hP hD hl
  obtain ⟨hx, hb, hr, hml, hown, htA, hlk⟩ := id hX
  have hK := hE.1
  have hS : va_S A s.heap s.heap [] := va_S.rf
  have hl : lv_has ls 8 [(0, .ref ntp_), (1, .int from_), (2, .int end_)] := hl
  refine lv_sipush (v := 200) hx hb dX7_wordKind_0 (by decide) ?_
  refine lv_istore_n (lv' := [(3, .int 200), (0, .ref ntp_), (1, .int from_), (2, .int end_)]) hx hb dX7_wordKind_3 rfl hl (by decide) rfl (fun ls hl => ?_)
  refine lv_iload_n hx hb dX7_wordKind_4 rfl (lv_at hl 2 rfl) ?_
  refine lv_istore (lv' := [(4, .int from_), (3, .int 200), (0, .ref ntp_), (1, .int from_), (2, .int end_)]) hx hb dX7_wordKind_5 hl (by decide) rfl (fun ls hl => ?_)
  refine lv_iconst (v := 1) hx hb dX7_wordKind_7 (by decide) ?_
  refine lv_istore (lv' := [(5, .int 1), (4, .int from_), (3, .int 200), (0, .ref ntp_), (1, .int from_), (2, .int end_)]) hx hb dX7_wordKind_8 hl (by decide) rfl (fun ls hl => ?_)
  refine lv_iconst (v := 0) hx hb dX7_wordKind_10 (by decide) ?_
  refine lv_istore (lv' := [(6, .int 0), (5, .int 1), (4, .int from_), (3, .int 200), (0, .ref ntp_), (1, .int from_), (2, .int end_)]) hx hb dX7_wordKind_11 hl (by decide) rfl (fun ls hl => ?_)
  refine loopT (τ := Int32 × Int32 × Int32 × Int32) (WS := fun i => [(ntp_, .inl (cy 1, 900, .inl (ftp_)))]) (LV := fun i => [(6, .int i.1), (5, .int i.2.1), (4, .int i.2.2.1), (3, .int i.2.2.2), (0, .ref ntp_), (1, .int from_), (2, .int end_)]) (fun i => (200 - i.1.toInt).toNat) (fun i => rg (0) (199) i.1 ∧ rg (0) (1) i.2.1 ∧ rg (0) (2147483647) i.2.2.1 ∧ Itr (R_X7_wordKind_b1 end_ from_ ftp_) (0, 1, from_, 200) (i.1, i.2.1, i.2.2.1, i.2.2.2) ∧ db i.2.2.1 i.1 (900)) ?_ (0, 1, from_, 200) ⟨(rg_w (rg_lit (by decide) : rg (0) (0) (0 : Int32)) (by decide) (by decide)), (rg_w (rg_lit (by decide) : rg (1) (1) (1 : Int32)) (by decide) (by decide)), (rg_w rfrom_ (by decide) (by decide)), (Itr.rf _ _), (db_w (db_rg (e := 900) rfrom_ (rg_lit (by decide) : rg (0) (0) (0 : Int32)) (by decide)) (by decide))⟩ hP hD hS (lv_sub hl [0, 1, 2, 3, 4, 5, 6] rfl)
  intro i_ H locs ls hI ih13_ hP hD hS hl
  obtain ⟨v201300_, v201301_, v201302_, v201303_⟩ := i_
  have hI : rg (0) (199) v201300_ ∧ rg (0) (1) v201301_ ∧ rg (0) (2147483647) v201302_ ∧ Itr (R_X7_wordKind_b1 end_ from_ ftp_) (0, 1, from_, 200) (v201300_, v201301_, v201302_, v201303_) ∧ db v201302_ v201300_ (900) := hI
  obtain ⟨rv201300_, rv201301_, rv201302_, hR1_, hb13_0_⟩ := hI
  have hP : va_P D vwCl [(ntp_, .inl (cy 1, 900, .inl (ftp_)))] H := hP
  have hD := va_ca hP hD
  have hl : lv_has ls 8 [(6, .int v201300_), (5, .int v201301_), (4, .int v201302_), (3, .int v201303_), (0, .ref ntp_), (1, .int from_), (2, .int end_)] := hl
  refine lv_iload hx hb dX7_wordKind_13 (lv_at hl 0 rfl) ?_
  obtain ⟨q15_, hq15_R, hq15_S⟩ := hE.2.2.1.2.2.2.1 ("LateFalls$Tokens", 58, "fall thing walker hangs frees hour held up for on not and or weight column level lying wa wb la lb ", 99) (by decide)
  have hq15_R : vk_R "LateFalls$Tokens" 58 "fall thing walker hangs frees hour held up for on not and or weight column level lying wa wb la lb " q15_ s := hq15_R
  have hq15_S : xTs 99 (txF "fall thing walker hangs frees hour held up for on not and or weight column level lying wa wb la lb ") q15_ A s s.heap := hq15_S
  obtain ⟨vq15_, hq15_O, hq15_C, hq15_V, hq15_T⟩ := id hq15_S
  refine k_ldcS hx hb hown hq15_R dX7_wordKind_15 ?_
  refine gkRi (As := []) (rest := [.int v201300_]) (wr := [(ntp_, .inl (cy 1, 900, .inl (ftp_)))]) hX hE (st_length l D cy 99 (txF "fall thing walker hangs frees hour held up for on not and or weight column level lying wa wb la lb ") q15_ (by decide)) (Pst_ts 99 (txF "fall thing walker hangs frees hour held up for on not and or weight column level lying wa wb la lb ") q15_) hq15_S (cwVA 0 htA wd_626 wd_623 wd_15 wd_624 wd_625 (by decide +kernel) ⟨by decide, by decide⟩) hP hD hS [] [0] rfl rfl (by decide +kernel) hq15_O rfl hl.1 rfl (Nat.le_of_ble_eq_true rfl) dX7_wordKind_17 (by decide) (fun v10170_ W1 H locs hw hP hD hS => ?_)
  refine W.widen (k := 0) (n := 0) (by decide) (by decide) ?_
  obtain ⟨rfl, ev10170_⟩ := hw
  obtain rfl : v10170_ = 99 := ev10170_.trans (by decide)
  have hP : va_P D vwCl [(ntp_, .inl (cy 1, 900, .inl (ftp_)))] H := hP
  have hD := va_ca hP hD
  refine lv_icmp_ge (tgt := 100) hx hb dX7_wordKind_20 (by decide) (fun c20_ => ?_) (fun c20_ => ?_)
  · have g1_ : rg (99) (199) v201300_ := rg_le2 c20_ (rg_lit (by decide) : rg (99) (99) (99 : Int32)) rv201300_ (by decide)
    refine lv_sipush (v := 199) hx hb dX7_wordKind_100 (by decide) ?_
    exact rI hX hE hP hD hS dX7_wordKind_103 (by decide) (by decide) ⟨(Or.inl ⟨v201300_, v201301_, v201302_, v201303_, hR1_, c20_, rfl⟩), rfl⟩
  · have g2_ : rg (0) (98) v201300_ := rg_lt1 (rg_nle c20_) rv201300_ (rg_lit (by decide) : rg (99) (99) (99 : Int32)) (by decide)
    obtain ⟨q23_, hq23_R, hq23_S⟩ := hE.2.2.1.2.2.2.1 ("LateFalls$Tokens", 58, "fall thing walker hangs frees hour held up for on not and or weight column level lying wa wb la lb ", 99) (by decide)
    have hq23_R : vk_R "LateFalls$Tokens" 58 "fall thing walker hangs frees hour held up for on not and or weight column level lying wa wb la lb " q23_ s := hq23_R
    have hq23_S : xTs 99 (txF "fall thing walker hangs frees hour held up for on not and or weight column level lying wa wb la lb ") q23_ A s s.heap := hq23_S
    obtain ⟨vq23_, hq23_O, hq23_C, hq23_V, hq23_T⟩ := id hq23_S
    refine k_ldcS hx hb hown hq23_R dX7_wordKind_23 ?_
    refine lv_iload hx hb dX7_wordKind_25 (lv_at hl 0 rfl) ?_
    refine gkRi (As := [.int v201300_]) (rest := []) (wr := [(ntp_, .inl (cy 1, 900, .inl (ftp_)))]) hX hE (st_charAt l D cy 99 (txF "fall thing walker hangs frees hour held up for on not and or weight column level lying wa wb la lb ") q23_ v201300_ (by decide) (rg_in g2_ (by decide) (by decide))) (Pst_ts 99 (txF "fall thing walker hangs frees hour held up for on not and or weight column level lying wa wb la lb ") q23_) hq23_S (cwVA 1 htA wd_636 wd_633 wd_15 wd_634 wd_635 (by decide +kernel) ⟨by decide, by decide⟩) hP hD hS [] [0] rfl rfl (by decide +kernel) hq23_O rfl hl.1 rfl (Nat.le_of_ble_eq_true rfl) dX7_wordKind_27 (by decide) (fun v10270_ W1 H locs hw hP hD hS => ?_)
    refine W.widen (k := 0) (n := 0) (by decide) (by decide) ?_
    obtain ⟨rfl, kr27_, kev10270_⟩ := hw
    have hP : va_P D vwCl [(ntp_, .inl (cy 1, 900, .inl (ftp_)))] H := hP
    have hD := va_ca hP hD
    refine lv_istore (lv' := [(7, .int v10270_), (6, .int v201300_), (5, .int v201301_), (4, .int v201302_), (3, .int v201303_), (0, .ref ntp_), (1, .int from_), (2, .int end_)]) hx hb dX7_wordKind_30 hl (by decide) rfl (fun ls hl => ?_)
    refine lv_iload hx hb dX7_wordKind_32 (lv_at hl 0 rfl) ?_
    refine lv_bipush (v := 32) hx hb dX7_wordKind_34 (by decide) ?_
    refine joinT (D := D) (A := A) (pc := 94) (mL := 8) (τ := Int32 × Int32 × Int32) (WS := fun i => [(ntp_, .inl (cy 1, 900, .inl (ftp_)))]) (LV := fun i => [(5, .int i.1), (4, .int i.2.1), (3, .int i.2.2), (7, .int v10270_), (6, .int v201300_), (0, .ref ntp_), (1, .int from_), (2, .int end_)]) (ST := fun i => []) (cells := 0) (slots := 0) (fun i => rg (0) (1) i.1 ∧ rg (0) (1100) i.2.1 ∧ R_X7_wordKind_j3 v10270_ v201301_ v201302_ end_ from_ v201303_ ftp_ i.1 i.2.1 i.2.2 ∧ db i.2.1 v201300_ (901)) (fun i_ H locs ls hI hP hD hS hl => ?_) (fun j94_ => ?_)
    · obtain ⟨v209400_, v209401_, v209402_⟩ := i_
      have hI : rg (0) (1) v209400_ ∧ rg (0) (1100) v209401_ ∧ R_X7_wordKind_j3 v10270_ v201301_ v201302_ end_ from_ v201303_ ftp_ v209400_ v209401_ v209402_ ∧ db v209401_ v201300_ (901) := hI
      obtain ⟨rv209400_, rv209401_, hR3_, hb94_0_⟩ := hI
      have hP : va_P D vwCl [(ntp_, .inl (cy 1, 900, .inl (ftp_)))] H := hP
      have hD := va_ca hP hD
      have hl : lv_has ls 8 [(5, .int v209400_), (4, .int v209401_), (3, .int v209402_), (7, .int v10270_), (6, .int v201300_), (0, .ref ntp_), (1, .int from_), (2, .int end_)] := hl
      refine lv_iinc (v := v201300_ + 1) (lv' := [(6, .int (v201300_ + 1)), (5, .int v209400_), (4, .int v209401_), (3, .int v209402_), (7, .int v10270_), (0, .ref ntp_), (1, .int from_), (2, .int end_)]) hx hb dX7_wordKind_94 hl (k := 4) rfl rfl (by decide) rfl (fun ls hl => ?_)
      have g3_ : rg (1) (99) (v201300_ + 1) := rg_add g2_ (rg_lit (by decide) : rg (1) (1) (1 : Int32)) (by decide) (by decide) (by decide) (by decide)
      refine lv_goto (tgt := 13) hx hb dX7_wordKind_97 (by decide) ?_
      exact ih13_ (v201300_ + 1, v209400_, v209401_, v209402_) _ _ ls ⟨(rg_w g3_ (by decide) (by decide)), (rg_w rv209400_ (by decide) (by decide)), (rg_w (db_hi (f := 999) hb94_0_ rv209401_ g2_ (by decide)) (by decide) (by decide)), (Itr.st hR1_ (Or.inl ⟨v10270_, v209400_, v209401_, v209402_, c20_, kev10270_, hR3_, rfl⟩)), (db_w (db_ar hb94_0_ g2_ (by decide : (1 : Int32).toInt = 1) (by decide) (by decide)) (by decide))⟩ (show (200 - (v201300_ + 1).toInt).toNat < (200 - v201300_.toInt).toNat from by rw [show (v201300_ + 1).toInt = v201300_.toInt + 1 from inc32 v201300_ (by have hq := (rv201300_).2; omega)]; have hq := (g2_).1; have hq2 := (g2_).2; omega) hP hD hS (lv_sub hl [0, 1, 2, 3, 5, 6, 7] rfl)
    refine lv_icmp_eq (tgt := 72) hx hb dX7_wordKind_36 (by decide) (fun c36_ => ?_) (fun c36_ => ?_)
    · have g4_ : rg (32) (32) v10270_ := rg_eq c36_ (rg_lit (by decide) : rg (32) (32) (32 : Int32))
      refine lv_iload hx hb dX7_wordKind_72 (lv_at hl 2 rfl) ?_
      refine joinT (D := D) (A := A) (pc := 85) (mL := 8) (τ := Unit) (WS := fun i => [(ntp_, .inl (cy 1, 900, .inl (ftp_)))]) (LV := fun i => [(7, .int v10270_), (6, .int v201300_), (5, .int v201301_), (4, .int v201302_), (3, .int v201303_), (0, .ref ntp_), (1, .int from_), (2, .int end_)]) (ST := fun i => []) (cells := 0) (slots := 0) (fun i => R_X7_wordKind_j4 v201301_ v201302_ end_) (fun u0_ H locs ls hI hP hD hS hl => ?_) (fun j85_ => ?_)
      · have hI : R_X7_wordKind_j4 v201301_ v201302_ end_ := hI
        have hR4_ := hI
        have hP : va_P D vwCl [(ntp_, .inl (cy 1, 900, .inl (ftp_)))] H := hP
        have hD := va_ca hP hD
        have hl : lv_has ls 8 [(7, .int v10270_), (6, .int v201300_), (5, .int v201301_), (4, .int v201302_), (3, .int v201303_), (0, .ref ntp_), (1, .int from_), (2, .int end_)] := hl
        refine lv_iinc (v := v201303_ + 1) (lv' := [(3, .int (v201303_ + 1)), (7, .int v10270_), (6, .int v201300_), (5, .int v201301_), (4, .int v201302_), (0, .ref ntp_), (1, .int from_), (2, .int end_)]) hx hb dX7_wordKind_85 hl (k := 4) rfl rfl (by decide) rfl (fun ls hl => ?_)
        refine lv_iload_n hx hb dX7_wordKind_88 rfl (lv_at hl 6 rfl) ?_
        refine lv_istore (lv' := [(4, .int from_), (3, .int (v201303_ + 1)), (7, .int v10270_), (6, .int v201300_), (5, .int v201301_), (0, .ref ntp_), (1, .int from_), (2, .int end_)]) hx hb dX7_wordKind_89 hl (by decide) rfl (fun ls hl => ?_)
        refine lv_iconst (v := 1) hx hb dX7_wordKind_91 (by decide) ?_
        refine lv_istore (lv' := [(5, .int 1), (4, .int from_), (3, .int (v201303_ + 1)), (7, .int v10270_), (6, .int v201300_), (0, .ref ntp_), (1, .int from_), (2, .int end_)]) hx hb dX7_wordKind_92 hl (by decide) rfl (fun ls hl => ?_)
        exact j94_ (1, from_, v201303_ + 1) _ _ ls ⟨(rg_w (rg_lit (by decide) : rg (1) (1) (1 : Int32)) (by decide) (by decide)), (rg_w rfrom_ (by decide) (by decide)), (Or.inl ⟨c36_, hR4_, rfl, rfl, rfl⟩), (db_w (db_rg (e := 900) rfrom_ g2_ (by decide)) (by decide))⟩ hP hD hS (lv_sub hl [0, 1, 2, 3, 4, 5, 6, 7] rfl)
      refine lv_if_eq (tgt := 85) hx hb dX7_wordKind_74 (by decide) (fun c74_ => ?_) (fun c74_ => ?_)
      · have g5_ : rg (0) (0) v201301_ := rg_eq c74_ (rg_lit (by decide) : rg (0) (0) (0 : Int32))
        exact j85_ () _ _ ls (Or.inl c74_) hP hD hS (lv_sub hl [0, 1, 2, 3, 4, 5, 6, 7] rfl)
      · have g6_ : rg (1) (1) v201301_ := rg_ne1 c74_ rv201301_ (by decide) (by decide)
        refine lv_iload hx hb dX7_wordKind_77 (lv_at hl 3 rfl) ?_
        refine lv_iload_n hx hb dX7_wordKind_79 rfl (lv_at hl 7 rfl) ?_
        refine lv_icmp_ne (tgt := 85) hx hb dX7_wordKind_80 (by decide) (fun c80_ => ?_) (fun c80_ => ?_)
        · exact j85_ () _ _ ls (Or.inr (Or.inl ⟨c74_, c80_⟩)) hP hD hS (lv_sub hl [0, 1, 2, 3, 4, 5, 6, 7] rfl)
        · have g7_ : rg (0) (900) v201302_ := rg_eq c80_ rend_
          refine lv_iload_n hx hb dX7_wordKind_83 rfl (lv_at hl 4 rfl) ?_
          exact rI hX hE hP hD hS dX7_wordKind_84 (by decide) (by decide) ⟨(Or.inr (Or.inl ⟨v201300_, v201301_, v201302_, v201303_, v10270_, hR1_, c20_, kev10270_, c36_, c74_, c80_, rfl⟩)), rfl⟩
    · refine lv_iload hx hb dX7_wordKind_39 (lv_at hl 2 rfl) ?_
      refine joinT (D := D) (A := A) (pc := 64) (mL := 8) (τ := Int32) (WS := fun i => [(ntp_, .inl (cy 1, 900, .inl (ftp_)))]) (LV := fun i => [(7, .int v10270_), (6, .int v201300_), (5, .int v201301_), (4, .int v201302_), (3, .int v201303_), (0, .ref ntp_), (1, .int from_), (2, .int end_)]) (ST := fun i => [.int i]) (cells := 0) (slots := 0) (fun i => rg (0) (1) i ∧ R_X7_wordKind_j5 v201301_ end_ v201302_ ftp_ v10270_ i) (fun v206400_ H locs ls hI hP hD hS hl => ?_) (fun j64_ => ?_)
      · have hI : rg (0) (1) v206400_ ∧ R_X7_wordKind_j5 v201301_ end_ v201302_ ftp_ v10270_ v206400_ := hI
        obtain ⟨rv206400_, hR5_⟩ := hI
        have hP : va_P D vwCl [(ntp_, .inl (cy 1, 900, .inl (ftp_)))] H := hP
        have hD := va_ca hP hD
        have hl : lv_has ls 8 [(7, .int v10270_), (6, .int v201300_), (5, .int v201301_), (4, .int v201302_), (3, .int v201303_), (0, .ref ntp_), (1, .int from_), (2, .int end_)] := hl
        refine lv_istore (lv' := [(5, .int v206400_), (7, .int v10270_), (6, .int v201300_), (4, .int v201302_), (3, .int v201303_), (0, .ref ntp_), (1, .int from_), (2, .int end_)]) hx hb dX7_wordKind_64 hl (by decide) rfl (fun ls hl => ?_)
        refine lv_iinc (v := v201302_ + 1) (lv' := [(4, .int (v201302_ + 1)), (5, .int v206400_), (7, .int v10270_), (6, .int v201300_), (3, .int v201303_), (0, .ref ntp_), (1, .int from_), (2, .int end_)]) hx hb dX7_wordKind_66 hl (k := 3) rfl rfl (by decide) rfl (fun ls hl => ?_)
        have g8_ : rg (1) (1100) (v201302_ + 1) := rg_add (db_hi (f := 1099) hb13_0_ rv201302_ rv201300_ (by decide)) (rg_lit (by decide) : rg (1) (1) (1 : Int32)) (by decide) (by decide) (by decide) (by decide)
        refine lv_goto (tgt := 94) hx hb dX7_wordKind_69 (by decide) ?_
        exact j94_ (v206400_, v201302_ + 1, v201303_) _ _ ls ⟨(rg_w rv206400_ (by decide) (by decide)), (rg_w g8_ (by decide) (by decide)), (Or.inr (Or.inl ⟨v206400_, c36_, hR5_, rfl, rfl, rfl⟩)), (db_w (db_al hb13_0_ (db_hi (f := 1099) hb13_0_ rv201302_ rv201300_ (by decide)) (by decide : (1 : Int32).toInt = 1) (by decide) (by decide)) (by decide))⟩ hP hD hS (lv_sub hl [1, 0, 4, 2, 3, 5, 6, 7] rfl)
      refine joinT (D := D) (A := A) (pc := 63) (mL := 8) (τ := Unit) (WS := fun i => [(ntp_, .inl (cy 1, 900, .inl (ftp_)))]) (LV := fun i => [(7, .int v10270_), (6, .int v201300_), (5, .int v201301_), (4, .int v201302_), (3, .int v201303_), (0, .ref ntp_), (1, .int from_), (2, .int end_)]) (ST := fun i => []) (cells := 0) (slots := 0) (fun i => R_X7_wordKind_j6 v201301_ end_ v201302_ ftp_ v10270_) (fun u0_ H locs ls hI hP hD hS hl => ?_) (fun j63_ => ?_)
      · have hI : R_X7_wordKind_j6 v201301_ end_ v201302_ ftp_ v10270_ := hI
        have hR6_ := hI
        have hP : va_P D vwCl [(ntp_, .inl (cy 1, 900, .inl (ftp_)))] H := hP
        have hD := va_ca hP hD
        have hl : lv_has ls 8 [(7, .int v10270_), (6, .int v201300_), (5, .int v201301_), (4, .int v201302_), (3, .int v201303_), (0, .ref ntp_), (1, .int from_), (2, .int end_)] := hl
        refine lv_iconst (v := 0) hx hb dX7_wordKind_63 (by decide) ?_
        exact j64_ 0 _ _ ls ⟨(rg_w (rg_lit (by decide) : rg (0) (0) (0 : Int32)) (by decide) (by decide)), (Or.inl ⟨hR6_, rfl⟩)⟩ hP hD hS (lv_sub hl [0, 1, 2, 3, 4, 5, 6, 7] rfl)
      refine lv_if_eq (tgt := 63) hx hb dX7_wordKind_41 (by decide) (fun c41_ => ?_) (fun c41_ => ?_)
      · have g9_ : rg (0) (0) v201301_ := rg_eq c41_ (rg_lit (by decide) : rg (0) (0) (0 : Int32))
        exact j63_ () _ _ ls (Or.inl c41_) hP hD hS (lv_sub hl [0, 1, 2, 3, 4, 5, 6, 7] rfl)
      · have g10_ : rg (1) (1) v201301_ := rg_ne1 c41_ rv201301_ (by decide) (by decide)
        refine lv_iload hx hb dX7_wordKind_44 (lv_at hl 3 rfl) ?_
        refine lv_iload_n hx hb dX7_wordKind_46 rfl (lv_at hl 7 rfl) ?_
        refine lv_icmp_ge (tgt := 63) hx hb dX7_wordKind_47 (by decide) (fun c47_ => ?_) (fun c47_ => ?_)
        · exact j63_ () _ _ ls (Or.inr (Or.inl ⟨c41_, c47_⟩)) hP hD hS (lv_sub hl [0, 1, 2, 3, 4, 5, 6, 7] rfl)
        · have g11_ : rg (0) (899) v201302_ := rg_lt1 (rg_nle c47_) (db_hi (f := 1099) hb13_0_ rv201302_ rv201300_ (by decide)) rend_ (by decide)
          have g12_ : rg (1) (900) end_ := rg_lt2 (rg_nle c47_) (db_hi (f := 1099) hb13_0_ rv201302_ rv201300_ (by decide)) rend_ (by decide)
          refine lv_aload_n hx hb dX7_wordKind_50 rfl (lv_at hl 5 rfl) ?_
          refine lv_iload hx hb dX7_wordKind_51 (lv_at hl 3 rfl) ?_
          refine va_bald hx hb hK hP 0 1 rfl rfl (rg_in g11_ (by decide) (by decide)) dX7_wordKind_53 ?_
          refine lv_topi (fun v10530_ ev10530_ => ?_)
          refine lv_iload hx hb dX7_wordKind_54 (lv_at hl 0 rfl) ?_
          refine lv_icmp_ne (tgt := 63) hx hb dX7_wordKind_56 (by decide) (fun c56_ => ?_) (fun c56_ => ?_)
          · exact j63_ () _ _ ls (Or.inr (Or.inr (Or.inl ⟨v10530_, c41_, c47_, ev10530_, c56_⟩))) hP hD hS (lv_sub hl [0, 1, 2, 3, 4, 5, 6, 7] rfl)
          · have g13_ : rg (0) (255) v10530_ := rg_eq c56_ kr27_
            refine lv_iconst (v := 1) hx hb dX7_wordKind_59 (by decide) ?_
            refine lv_goto (tgt := 64) hx hb dX7_wordKind_60 (by decide) ?_
            exact j64_ 1 _ _ ls ⟨(rg_w (rg_lit (by decide) : rg (1) (1) (1 : Int32)) (by decide) (by decide)), (Or.inr (Or.inl ⟨v10530_, c41_, c47_, ev10530_, c56_, rfl⟩))⟩ hP hD hS (lv_sub hl [0, 1, 2, 3, 4, 5, 6, 7] rfl)
def R_X7_append_j1 (tmany_ : Int32) (fk_ : Nat → Int32) (fkp_ : Nat → Int32) (k_ : Int32) (p_ : Int32) (v204200_ : Int32) (g204201_ : Nat → Int32) (g204202_ : Nat → Int32) : Prop := ((901 : Int32) ≤ tmany_ ∧ v204200_ = tmany_ ∧ g204201_ = fk_ ∧ g204202_ = fkp_) ∨ (¬ ((901 : Int32) ≤ tmany_) ∧ v204200_ = tmany_ + 1 ∧ g204201_ = upd fk_ tmany_.toNatClampNeg k_ ∧ g204202_ = upd fkp_ tmany_.toNatClampNeg p_) ∨ False
def R_X7_append_e (tmany_ : Int32) (fk_ : Nat → Int32) (fkp_ : Nat → Int32) (k_ : Int32) (p_ : Int32) (x0_ : Int32) (x1_ : Nat → Int32) (x2_ : Nat → Int32) : Prop := (∃ (v204200_ : Int32) (g204201_ : Nat → Int32) (g204202_ : Nat → Int32), R_X7_append_j1 tmany_ fk_ fkp_ k_ p_ v204200_ g204201_ g204202_ ∧ x0_ = v204200_ ∧ x1_ = g204201_ ∧ x2_ = g204202_) ∨ False
set_option maxHeartbeats 4000000 in
set_option maxRecDepth 100000 in
theorem sf_X7_append (l : Launch) (D : va_G) (cy : Nat → ClassId) (ntk_ : Nat) (nk_ : Nat) (nkp_ : Nat) (tmany_ : Int32) (cur_ : Int32) (kind_ : Int32) (tstart_ : Int32) (fk_ : Nat → Int32) (fkp_ : Nat → Int32) (k_ : Int32) (p_ : Int32) (rtmany_ : rg (0) (901) tmany_) (rcur_ : rg (0) (900) cur_) : Cv l yX7_append cX7_append 3 none { frames := 0, cells := 0, slots := 0, locals := 0 } D cy [.ref ntk_, .int k_, .int p_] [(ntk_, .inr (7, [.ref nk_, .ref nkp_, .int tmany_, .int cur_, .int kind_, .int tstart_])), (nk_, .inl (cy 0, 901, .inl (fk_))), (nkp_, .inl (cy 0, 901, .inl (fkp_)))] (fun W1 => ∃ (x0_ : Int32) (x1_ : Nat → Int32) (x2_ : Nat → Int32), rg (1) (901) x0_ ∧ db x0_ tmany_ (901) ∧ R_X7_append_e tmany_ fk_ fkp_ k_ p_ x0_ x1_ x2_ ∧ W1 = [(ntk_, .inr (7, [.ref nk_, .ref nkp_, .int x0_, .int cur_, .int kind_, .int tstart_])), (nk_, .inl (cy 0, 901, .inl (x1_))), (nkp_, .inl (cy 0, 901, .inl (x2_)))]) := by
  refine Cv.of (by decide) (Nat.le_of_ble_eq_true rfl) ?_
  intro p e s m below meth c A ls hX hE hP hD hl hin
  obtain ⟨hx, hb, hr, hml, hown, htA, hlk⟩ := id hX
  have hK := hE.1
  have hS : va_S A s.heap s.heap [] := va_S.rf
  have hl : lv_has ls 3 [(0, .ref ntk_), (1, .int k_), (2, .int p_)] := hl
  refine lv_aload_n hx hb dX7_append_0 rfl (lv_at hl 0 rfl) ?_
  refine va_get (ci := 7) (v := .int tmany_) (C := RX7) (T := TX7) (N := 6) hx hb htA in_X7 hown hK hP 0 rfl rfl 2 (by decide) (htA _ wd_141) (fun _ h => h) rfl dX7_append_1 ?_
  refine lv_aload_n hx hb dX7_append_4 rfl (lv_at hl 0 rfl) ?_
  refine va_get (ci := 7) (v := .ref nk_) (C := RX7) (T := TX7) (N := 6) hx hb htA in_X7 hown hK hP 0 rfl rfl 0 (by decide) (htA _ wd_139) (fun _ h => h) rfl dX7_append_5 ?_
  refine va_alen (v := 901) hx hb hK hP 1 0 rfl rfl (show Int32.ofNat 901 = 901 from by decide) dX7_append_8 ?_
  refine joinT (D := D) (A := A) (pc := 42) (mL := 3) (τ := Int32 × (Nat → Int32) × (Nat → Int32)) (WS := fun i => [(ntk_, .inr (7, [.ref nk_, .ref nkp_, .int i.1, .int cur_, .int kind_, .int tstart_])), (nk_, .inl (cy 0, 901, .inl (i.2.1))), (nkp_, .inl (cy 0, 901, .inl (i.2.2)))]) (LV := fun i => [(0, .ref ntk_), (1, .int k_), (2, .int p_)]) (ST := fun i => []) (cells := 0) (slots := 0) (fun i => rg (1) (901) i.1 ∧ R_X7_append_j1 tmany_ fk_ fkp_ k_ p_ i.1 i.2.1 i.2.2) (fun i_ H locs ls hI hP hD hS hl => ?_) (fun j42_ => ?_)
  · obtain ⟨v204200_, g204201_, g204202_⟩ := i_
    have hI : rg (1) (901) v204200_ ∧ R_X7_append_j1 tmany_ fk_ fkp_ k_ p_ v204200_ g204201_ g204202_ := hI
    obtain ⟨rv204200_, hR1_⟩ := hI
    have hP : va_P D vwCl [(ntk_, .inr (7, [.ref nk_, .ref nkp_, .int v204200_, .int cur_, .int kind_, .int tstart_])), (nk_, .inl (cy 0, 901, .inl (g204201_))), (nkp_, .inl (cy 0, 901, .inl (g204202_)))] H := hP
    have hD := va_ca hP hD
    have hl : lv_has ls 3 [(0, .ref ntk_), (1, .int k_), (2, .int p_)] := hl
    exact rV hX hE hP hD hS dX7_append_42 (by decide) (by decide) ⟨v204200_, g204201_, g204202_, (rg_w rv204200_ (by decide) (by decide)), (db_w (db_rg (e := 901) rv204200_ rtmany_ (by decide)) (by decide)), (Or.inl ⟨v204200_, g204201_, g204202_, hR1_, rfl, rfl, rfl⟩), rfl⟩
  refine lv_icmp_ge (tgt := 42) hx hb dX7_append_9 (by decide) (fun c9_ => ?_) (fun c9_ => ?_)
  · have g1_ : rg (901) (901) tmany_ := rg_le2 c9_ (rg_lit (by decide) : rg (901) (901) (901 : Int32)) rtmany_ (by decide)
    exact j42_ (tmany_, fk_, fkp_) _ _ ls ⟨(rg_w g1_ (by decide) (by decide)), (Or.inl ⟨c9_, rfl, rfl, rfl⟩)⟩ hP hD hS (lv_sub hl [0, 1, 2] rfl)
  · have g2_ : rg (0) (900) tmany_ := rg_lt1 (rg_nle c9_) rtmany_ (rg_lit (by decide) : rg (901) (901) (901 : Int32)) (by decide)
    refine lv_aload_n hx hb dX7_append_12 rfl (lv_at hl 0 rfl) ?_
    refine va_get (ci := 7) (v := .ref nk_) (C := RX7) (T := TX7) (N := 6) hx hb htA in_X7 hown hK hP 0 rfl rfl 0 (by decide) (htA _ wd_139) (fun _ h => h) rfl dX7_append_13 ?_
    refine lv_aload_n hx hb dX7_append_16 rfl (lv_at hl 0 rfl) ?_
    refine va_get (ci := 7) (v := .int tmany_) (C := RX7) (T := TX7) (N := 6) hx hb htA in_X7 hown hK hP 0 rfl rfl 2 (by decide) (htA _ wd_141) (fun _ h => h) rfl dX7_append_17 ?_
    refine lv_iload_n hx hb dX7_append_20 rfl (lv_at hl 1 rfl) ?_
    refine va_iast hx hb hK hP hD hS 1 0 rfl rfl (rg_in g2_ (by decide) (by decide)) dX7_append_21 (fun H locs hP hD hS => ?_)
    have hP : va_P D vwCl [(ntk_, .inr (7, [.ref nk_, .ref nkp_, .int tmany_, .int cur_, .int kind_, .int tstart_])), (nk_, .inl (cy 0, 901, .inl (upd fk_ tmany_.toNatClampNeg k_))), (nkp_, .inl (cy 0, 901, .inl (fkp_)))] H := hP
    have hD := va_ca hP hD
    refine lv_aload_n hx hb dX7_append_22 rfl (lv_at hl 0 rfl) ?_
    refine va_get (ci := 7) (v := .ref nkp_) (C := RX7) (T := TX7) (N := 6) hx hb htA in_X7 hown hK hP 0 rfl rfl 1 (by decide) (htA _ wd_140) (fun _ h => h) rfl dX7_append_23 ?_
    refine lv_aload_n hx hb dX7_append_26 rfl (lv_at hl 0 rfl) ?_
    refine va_get (ci := 7) (v := .int tmany_) (C := RX7) (T := TX7) (N := 6) hx hb htA in_X7 hown hK hP 0 rfl rfl 2 (by decide) (htA _ wd_141) (fun _ h => h) rfl dX7_append_27 ?_
    refine lv_iload_n hx hb dX7_append_30 rfl (lv_at hl 2 rfl) ?_
    refine va_iast hx hb hK hP hD hS 2 0 rfl rfl (rg_in g2_ (by decide) (by decide)) dX7_append_31 (fun H locs hP hD hS => ?_)
    have hP : va_P D vwCl [(ntk_, .inr (7, [.ref nk_, .ref nkp_, .int tmany_, .int cur_, .int kind_, .int tstart_])), (nk_, .inl (cy 0, 901, .inl (upd fk_ tmany_.toNatClampNeg k_))), (nkp_, .inl (cy 0, 901, .inl (upd fkp_ tmany_.toNatClampNeg p_)))] H := hP
    have hD := va_ca hP hD
    refine lv_aload_n hx hb dX7_append_32 rfl (lv_at hl 0 rfl) ?_
    refine lv_dup hx hb dX7_append_33 rfl ?_
    refine va_get (ci := 7) (v := .int tmany_) (C := RX7) (T := TX7) (N := 6) hx hb htA in_X7 hown hK hP 0 rfl rfl 2 (by decide) (htA _ wd_141) (fun _ h => h) rfl dX7_append_34 ?_
    refine lv_iconst (v := 1) hx hb dX7_append_37 (by decide) ?_
    refine lv_iadd hx hb dX7_append_38 ?_
    have g3_ : rg (1) (901) (tmany_ + 1) := rg_add g2_ (rg_lit (by decide) : rg (1) (1) (1 : Int32)) (by decide) (by decide) (by decide) (by decide)
    refine va_put (ci := 7) (v := .int (tmany_ + 1)) (ty := .int) (C := RX7) (T := TX7) (N := 6) hx hb htA in_X7 tyX7 tyX7_ok nmX7 hown hK hP hD hS 0 rfl rfl 2 (by decide) (htA _ wd_141) (fun _ h => h) rfl (by decide +kernel) rfl rfl (Nat.le_of_ble_eq_true rfl) dX7_append_39 (fun H locs hP hD hS => ?_)
    have hP : va_P D vwCl [(ntk_, .inr (7, [.ref nk_, .ref nkp_, .int (tmany_ + 1), .int cur_, .int kind_, .int tstart_])), (nk_, .inl (cy 0, 901, .inl (upd fk_ tmany_.toNatClampNeg k_))), (nkp_, .inl (cy 0, 901, .inl (upd fkp_ tmany_.toNatClampNeg p_)))] H := hP
    have hD := va_ca hP hD
    exact j42_ (tmany_ + 1, upd fk_ tmany_.toNatClampNeg k_, upd fkp_ tmany_.toNatClampNeg p_) _ _ ls ⟨(rg_w g3_ (by decide) (by decide)), (Or.inr (Or.inl ⟨c9_, rfl, rfl, rfl⟩))⟩ hP hD hS (lv_sub hl [0, 1, 2] rfl)
def R_X7_scan_j8 (v11570_ : Int32) (v10320_ : Int32) (v216900_ : Int32) : Prop := (v11570_ < (0 : Int32) ∧ v216900_ = (1 : Int32)) ∨ (¬ (v11570_ < (0 : Int32)) ∧ v216900_ = v10320_ &&& 255) ∨ False
def R_X7_scan_j9 (v10990_ : Int32) (v201302_ : Int32) (ftp_ : Nat → Int32) (v212700_ : Int32) : Prop := (∃ (v11230_ : Int32), (v10990_ - v201302_) ≤ (3 : Int32) ∧ R_X7_numberAt_e v10990_ ftp_ v201302_ v11230_ ∧ v212700_ = 1000 + v11230_) ∨ (¬ ((v10990_ - v201302_) ≤ (3 : Int32)) ∧ v212700_ = (1 : Int32)) ∨ False
def R_X7_scan_j6 (v10500_ : Int32) (v10320_ : Int32) (v201302_ : Int32) (len_ : Int32) (ftp_ : Nat → Int32) (v217100_ : Int32) (v217101_ : Int32) : Prop := (∃ (v10860_ : Int32) (v11570_ : Int32) (v216900_ : Int32), v10500_ = (0 : Int32) ∧ R_X7_isWithin_e ((v10320_ &&& 255)) ((48 : Int32)) ((57 : Int32)) v10860_ ∧ v10860_ = (0 : Int32) ∧ ¬ ((v10320_ &&& 255) = (10 : Int32)) ∧ ¬ (v10320_ &&& 255) = (32 : Int32) ∧ ixP 12 (txF ";:+-*()[]=<>") (((v10320_ &&& 255).toUInt32 % 65536).toInt32) v11570_ ∧ R_X7_scan_j8 v11570_ v10320_ v216900_ ∧ v217100_ = v216900_ ∧ v217101_ = v201302_ + 1) ∨ (∃ (v10860_ : Int32) (v10990_ : Int32) (v212700_ : Int32), v10500_ = (0 : Int32) ∧ R_X7_isWithin_e ((v10320_ &&& 255)) ((48 : Int32)) ((57 : Int32)) v10860_ ∧ ¬ (v10860_ = (0 : Int32)) ∧ R_X7_runEnd_e len_ ftp_ ((48 : Int32)) ((57 : Int32)) v201302_ v10990_ ∧ R_X7_scan_j9 v10990_ v201302_ ftp_ v212700_ ∧ v217100_ = v212700_ ∧ v217101_ = v10990_) ∨ (∃ (v10630_ : Int32) (v10720_ : Int32), ¬ (v10500_ = (0 : Int32)) ∧ R_X7_runEnd_e len_ ftp_ ((97 : Int32)) ((122 : Int32)) v201302_ v10630_ ∧ R_X7_wordKind_e v10630_ v201302_ ftp_ v10720_ ∧ v217100_ = v10720_ ∧ v217101_ = v10630_) ∨ False
def R_X7_scan_j7 (v10320_ : Int32) : Prop := ((v10320_ &&& 255) = (10 : Int32)) ∨ (¬ ((v10320_ &&& 255) = (10 : Int32)) ∧ (v10320_ &&& 255) = (32 : Int32)) ∨ False
def R_X7_scan_j5 (v10500_ : Int32) (v10320_ : Int32) (v201302_ : Int32) (len_ : Int32) (ftp_ : Nat → Int32) (v201303_ : Int32) (g201304_ : Nat → Int32) (g201305_ : Nat → Int32) (v201301_ : Int32) (v218100_ : Int32) (v218101_ : Int32) (v218102_ : Int32) (v218103_ : Int32) (g218104_ : Nat → Int32) (g218105_ : Nat → Int32) : Prop := (∃ (v217100_ : Int32) (v217101_ : Int32) (v11751_ : Int32) (g11752_ : Nat → Int32) (g11753_ : Nat → Int32), R_X7_scan_j6 v10500_ v10320_ v201302_ len_ ftp_ v217100_ v217101_ ∧ R_X7_append_e v201303_ g201304_ g201305_ v217100_ v201302_ v11751_ g11752_ g11753_ ∧ v218100_ = v217101_ ∧ v218101_ = v217101_ ∧ v218102_ = v217100_ ∧ v218103_ = v11751_ ∧ g218104_ = g11752_ ∧ g218105_ = g11753_) ∨ (∃ (v10860_ : Int32), v10500_ = (0 : Int32) ∧ R_X7_isWithin_e ((v10320_ &&& 255)) ((48 : Int32)) ((57 : Int32)) v10860_ ∧ v10860_ = (0 : Int32) ∧ R_X7_scan_j7 v10320_ ∧ v218100_ = v201302_ + 1 ∧ v218101_ = v201302_ + 1 ∧ v218102_ = v201301_ ∧ v218103_ = v201303_ ∧ g218104_ = g201304_ ∧ g218105_ = g201305_) ∨ False
def R_X7_scan_b1 (len_ : Int32) (ftp_ : Nat → Int32) (uZ_ vZ_ : Int32 × Int32 × Int32 × Int32 × (Nat → Int32) × (Nat → Int32)) : Prop := (∃ (v10320_ : Int32) (v10500_ : Int32) (v218100_ : Int32) (v218101_ : Int32) (v218102_ : Int32) (v218103_ : Int32) (g218104_ : Nat → Int32) (g218105_ : Nat → Int32), ¬ (len_ ≤ uZ_.1) ∧ ¬ (len_ ≤ uZ_.2.2.1) ∧ ¬ (uZ_.2.1 = (1 : Int32)) ∧ v10320_ = ftp_ uZ_.2.2.1.toNatClampNeg ∧ R_X7_isWithin_e ((v10320_ &&& 255)) ((97 : Int32)) ((122 : Int32)) v10500_ ∧ R_X7_scan_j5 v10500_ v10320_ uZ_.2.2.1 len_ ftp_ uZ_.2.2.2.1 uZ_.2.2.2.2.1 uZ_.2.2.2.2.2 uZ_.2.1 v218100_ v218101_ v218102_ v218103_ g218104_ g218105_ ∧ vZ_ = (uZ_.1 + 1, v218102_, v218100_, v218103_, g218104_, g218105_)) ∨ False
def R_X7_scan_j2 (len_ : Int32) (v201300_ : Int32) (v201302_ : Int32) (v201301_ : Int32) : Prop := (len_ ≤ v201300_) ∨ (¬ (len_ ≤ v201300_) ∧ len_ ≤ v201302_) ∨ (¬ (len_ ≤ v201300_) ∧ ¬ (len_ ≤ v201302_) ∧ v201301_ = (1 : Int32)) ∨ False
def R_X7_scan_j3 (v201301_ : Int32) (v201303_ : Int32) (g201304_ : Nat → Int32) (g201305_ : Nat → Int32) (len_ : Int32) (v219900_ : Int32) (g219901_ : Nat → Int32) (g219902_ : Nat → Int32) : Prop := (v201301_ = (1 : Int32) ∧ v219900_ = v201303_ ∧ g219901_ = g201304_ ∧ g219902_ = g201305_) ∨ (∃ (v11961_ : Int32) (g11962_ : Nat → Int32) (g11963_ : Nat → Int32), ¬ (v201301_ = (1 : Int32)) ∧ R_X7_append_e v201303_ g201304_ g201305_ ((0 : Int32)) len_ v11961_ g11962_ g11963_ ∧ v219900_ = v11961_ ∧ g219901_ = g11962_ ∧ g219902_ = g11963_) ∨ False
def R_X7_scan_e (len_ : Int32) (ftp_ : Nat → Int32) (fk_ : Nat → Int32) (fkp_ : Nat → Int32) (x0_ : Int32) (x1_ : Int32) (x2_ : Int32) (x3_ : Nat → Int32) (x4_ : Nat → Int32) : Prop := (∃ (v201300_ : Int32) (v201301_ : Int32) (v201302_ : Int32) (v201303_ : Int32) (g201304_ : Nat → Int32) (g201305_ : Nat → Int32) (v219900_ : Int32) (g219901_ : Nat → Int32) (g219902_ : Nat → Int32) (v12100_ : Int32) (v12200_ : Int32), Itr (R_X7_scan_b1 len_ ftp_) (0, (-1), 0, 0, fk_, fkp_) (v201300_, v201301_, v201302_, v201303_, g201304_, g201305_) ∧ R_X7_scan_j2 len_ v201300_ v201302_ v201301_ ∧ R_X7_scan_j3 v201301_ v201303_ g201304_ g201305_ len_ v219900_ g219901_ g219902_ ∧ v12100_ = g219901_ (0 : Int32).toNatClampNeg ∧ v12200_ = g219902_ (0 : Int32).toNatClampNeg ∧ x0_ = v219900_ ∧ x1_ = v12100_ ∧ x2_ = v12200_ ∧ x3_ = g219901_ ∧ x4_ = g219902_) ∨ False
set_option maxHeartbeats 4000000 in
set_option maxRecDepth 100000 in
theorem sf_X7_scan (l : Launch) (D : va_G) (cy : Nat → ClassId) (ntk_ : Nat) (nk_ : Nat) (nkp_ : Nat) (tmany_ : Int32) (cur_ : Int32) (kind_ : Int32) (tstart_ : Int32) (fk_ : Nat → Int32) (fkp_ : Nat → Int32) (ntp_ : Nat) (ftp_ : Nat → Int32) (len_ : Int32) (rtmany_ : rg (0) (901) tmany_) (rcur_ : rg (0) (900) cur_) (rlen_ : rg (0) (900) len_) : Cv l yX7_scan cX7_scan 8 none { frames := 5, cells := 0, slots := 0, locals := 188 } D cy [.ref ntk_, .ref ntp_, .int len_] [(ntk_, .inr (7, [.ref nk_, .ref nkp_, .int tmany_, .int cur_, .int kind_, .int tstart_])), (nk_, .inl (cy 0, 901, .inl (fk_))), (nkp_, .inl (cy 0, 901, .inl (fkp_))), (ntp_, .inl (cy 1, 900, .inl (ftp_)))] (fun W1 => ∃ (x0_ : Int32) (x1_ : Int32) (x2_ : Int32) (x3_ : Nat → Int32) (x4_ : Nat → Int32), rg (0) (901) x0_ ∧ db x0_ len_ (901) ∧ R_X7_scan_e len_ ftp_ fk_ fkp_ x0_ x1_ x2_ x3_ x4_ ∧ W1 = [(ntk_, .inr (7, [.ref nk_, .ref nkp_, .int x0_, .int 0, .int x1_, .int x2_])), (nk_, .inl (cy 0, 901, .inl (x3_))), (nkp_, .inl (cy 0, 901, .inl (x4_))), (ntp_, .inl (cy 1, 900, .inl (ftp_)))]) := by
  refine Cv.of (by decide) (Nat.le_of_ble_eq_true rfl) ?_
  intro p e s m below meth c A ls hX hE hP hD hl hin
  obtain ⟨hx, hb, hr, hml, hown, htA, hlk⟩ := id hX
  have hK := hE.1
  have hS : va_S A s.heap s.heap [] := va_S.rf
  have hl : lv_has ls 8 [(0, .ref ntk_), (1, .ref ntp_), (2, .int len_)] := hl
  refine lv_aload_n hx hb dX7_scan_0 rfl (lv_at hl 0 rfl) ?_
  refine lv_iconst (v := 0) hx hb dX7_scan_1 (by decide) ?_
  refine va_put (ci := 7) (v := .int 0) (ty := .int) (C := RX7) (T := TX7) (N := 6) hx hb htA in_X7 tyX7 tyX7_ok nmX7 hown hK hP hD hS 0 rfl rfl 2 (by decide) (htA _ wd_141) (fun _ h => h) rfl (by decide +kernel) rfl rfl (Nat.le_of_ble_eq_true rfl) dX7_scan_2 (fun H locs hP hD hS => ?_)
  have hP : va_P D vwCl [(ntk_, .inr (7, [.ref nk_, .ref nkp_, .int 0, .int cur_, .int kind_, .int tstart_])), (nk_, .inl (cy 0, 901, .inl (fk_))), (nkp_, .inl (cy 0, 901, .inl (fkp_))), (ntp_, .inl (cy 1, 900, .inl (ftp_)))] H := hP
  have hD := va_ca hP hD
  refine lv_iconst (v := 0) hx hb dX7_scan_5 (by decide) ?_
  refine lv_istore_n (lv' := [(3, .int 0), (0, .ref ntk_), (1, .ref ntp_), (2, .int len_)]) hx hb dX7_scan_6 rfl hl (by decide) rfl (fun ls hl => ?_)
  refine lv_iconst (v := (-1)) hx hb dX7_scan_7 (by decide) ?_
  refine lv_istore (lv' := [(4, .int (-1)), (3, .int 0), (0, .ref ntk_), (1, .ref ntp_), (2, .int len_)]) hx hb dX7_scan_8 hl (by decide) rfl (fun ls hl => ?_)
  refine lv_iconst (v := 0) hx hb dX7_scan_10 (by decide) ?_
  refine lv_istore (lv' := [(5, .int 0), (4, .int (-1)), (3, .int 0), (0, .ref ntk_), (1, .ref ntp_), (2, .int len_)]) hx hb dX7_scan_11 hl (by decide) rfl (fun ls hl => ?_)
  refine loopT (τ := Int32 × Int32 × Int32 × Int32 × (Nat → Int32) × (Nat → Int32)) (WS := fun i => [(ntk_, .inr (7, [.ref nk_, .ref nkp_, .int i.2.2.2.1, .int cur_, .int kind_, .int tstart_])), (nk_, .inl (cy 0, 901, .inl (i.2.2.2.2.1))), (nkp_, .inl (cy 0, 901, .inl (i.2.2.2.2.2))), (ntp_, .inl (cy 1, 900, .inl (ftp_)))]) (LV := fun i => [(5, .int i.1), (4, .int i.2.1), (3, .int i.2.2.1), (0, .ref ntk_), (1, .ref ntp_), (2, .int len_)]) (fun i => (901 - i.1.toInt).toNat) (fun i => rg (0) (900) i.1 ∧ rg (0) (900) i.2.2.1 ∧ rg (0) (901) i.2.2.2.1 ∧ Itr (R_X7_scan_b1 len_ ftp_) (0, (-1), 0, 0, fk_, fkp_) (i.1, i.2.1, i.2.2.1, i.2.2.2.1, i.2.2.2.2.1, i.2.2.2.2.2) ∧ db i.2.2.2.1 i.1 (900)) ?_ (0, (-1), 0, 0, fk_, fkp_) ⟨(rg_w (rg_lit (by decide) : rg (0) (0) (0 : Int32)) (by decide) (by decide)), (rg_w (rg_lit (by decide) : rg (0) (0) (0 : Int32)) (by decide) (by decide)), (rg_w (rg_lit (by decide) : rg (0) (0) (0 : Int32)) (by decide) (by decide)), (Itr.rf _ _), (db_w (db_rf (0 : Int32)) (by decide))⟩ hP hD hS (lv_sub hl [0, 1, 2, 3, 4, 5] rfl)
  intro i_ H locs ls hI ih13_ hP hD hS hl
  obtain ⟨v201300_, v201301_, v201302_, v201303_, g201304_, g201305_⟩ := i_
  have hI : rg (0) (900) v201300_ ∧ rg (0) (900) v201302_ ∧ rg (0) (901) v201303_ ∧ Itr (R_X7_scan_b1 len_ ftp_) (0, (-1), 0, 0, fk_, fkp_) (v201300_, v201301_, v201302_, v201303_, g201304_, g201305_) ∧ db v201303_ v201300_ (900) := hI
  obtain ⟨rv201300_, rv201302_, rv201303_, hR1_, hb13_0_⟩ := hI
  have hP : va_P D vwCl [(ntk_, .inr (7, [.ref nk_, .ref nkp_, .int v201303_, .int cur_, .int kind_, .int tstart_])), (nk_, .inl (cy 0, 901, .inl (g201304_))), (nkp_, .inl (cy 0, 901, .inl (g201305_))), (ntp_, .inl (cy 1, 900, .inl (ftp_)))] H := hP
  have hD := va_ca hP hD
  have hl : lv_has ls 8 [(5, .int v201300_), (4, .int v201301_), (3, .int v201302_), (0, .ref ntk_), (1, .ref ntp_), (2, .int len_)] := hl
  refine lv_iload hx hb dX7_scan_13 (lv_at hl 0 rfl) ?_
  refine lv_iload_n hx hb dX7_scan_15 rfl (lv_at hl 5 rfl) ?_
  refine joinT (D := D) (A := A) (pc := 187) (mL := 8) (τ := Unit) (WS := fun i => [(ntk_, .inr (7, [.ref nk_, .ref nkp_, .int v201303_, .int cur_, .int kind_, .int tstart_])), (nk_, .inl (cy 0, 901, .inl (g201304_))), (nkp_, .inl (cy 0, 901, .inl (g201305_))), (ntp_, .inl (cy 1, 900, .inl (ftp_)))]) (LV := fun i => [(5, .int v201300_), (4, .int v201301_), (3, .int v201302_), (0, .ref ntk_), (1, .ref ntp_), (2, .int len_)]) (ST := fun i => []) (cells := 0) (slots := 0) (fun i => R_X7_scan_j2 len_ v201300_ v201302_ v201301_) (fun u0_ H locs ls hI hP hD hS hl => ?_) (fun j187_ => ?_)
  · have hI : R_X7_scan_j2 len_ v201300_ v201302_ v201301_ := hI
    have hR2_ := hI
    have hP : va_P D vwCl [(ntk_, .inr (7, [.ref nk_, .ref nkp_, .int v201303_, .int cur_, .int kind_, .int tstart_])), (nk_, .inl (cy 0, 901, .inl (g201304_))), (nkp_, .inl (cy 0, 901, .inl (g201305_))), (ntp_, .inl (cy 1, 900, .inl (ftp_)))] H := hP
    have hD := va_ca hP hD
    have hl : lv_has ls 8 [(5, .int v201300_), (4, .int v201301_), (3, .int v201302_), (0, .ref ntk_), (1, .ref ntp_), (2, .int len_)] := hl
    refine lv_iload hx hb dX7_scan_187 (lv_at hl 1 rfl) ?_
    refine lv_iconst (v := 1) hx hb dX7_scan_189 (by decide) ?_
    refine joinT (D := D) (A := A) (pc := 199) (mL := 8) (τ := Int32 × (Nat → Int32) × (Nat → Int32)) (WS := fun i => [(ntk_, .inr (7, [.ref nk_, .ref nkp_, .int i.1, .int cur_, .int kind_, .int tstart_])), (nk_, .inl (cy 0, 901, .inl (i.2.1))), (nkp_, .inl (cy 0, 901, .inl (i.2.2))), (ntp_, .inl (cy 1, 900, .inl (ftp_)))]) (LV := fun i => [(5, .int v201300_), (4, .int v201301_), (3, .int v201302_), (0, .ref ntk_), (1, .ref ntp_), (2, .int len_)]) (ST := fun i => []) (cells := 0) (slots := 0) (fun i => rg (0) (901) i.1 ∧ R_X7_scan_j3 v201301_ v201303_ g201304_ g201305_ len_ i.1 i.2.1 i.2.2 ∧ db i.1 v201300_ (901)) (fun i_ H locs ls hI hP hD hS hl => ?_) (fun j199_ => ?_)
    · obtain ⟨v219900_, g219901_, g219902_⟩ := i_
      have hI : rg (0) (901) v219900_ ∧ R_X7_scan_j3 v201301_ v201303_ g201304_ g201305_ len_ v219900_ g219901_ g219902_ ∧ db v219900_ v201300_ (901) := hI
      obtain ⟨rv219900_, hR3_, hb199_0_⟩ := hI
      have hP : va_P D vwCl [(ntk_, .inr (7, [.ref nk_, .ref nkp_, .int v219900_, .int cur_, .int kind_, .int tstart_])), (nk_, .inl (cy 0, 901, .inl (g219901_))), (nkp_, .inl (cy 0, 901, .inl (g219902_))), (ntp_, .inl (cy 1, 900, .inl (ftp_)))] H := hP
      have hD := va_ca hP hD
      have hl : lv_has ls 8 [(5, .int v201300_), (4, .int v201301_), (3, .int v201302_), (0, .ref ntk_), (1, .ref ntp_), (2, .int len_)] := hl
      refine lv_aload_n hx hb dX7_scan_199 rfl (lv_at hl 3 rfl) ?_
      refine lv_iconst (v := 0) hx hb dX7_scan_200 (by decide) ?_
      refine va_put (ci := 7) (v := .int 0) (ty := .int) (C := RX7) (T := TX7) (N := 6) hx hb htA in_X7 tyX7 tyX7_ok nmX7 hown hK hP hD hS 0 rfl rfl 3 (by decide) (htA _ wd_142) (fun _ h => h) rfl (by decide +kernel) rfl rfl (Nat.le_of_ble_eq_true rfl) dX7_scan_201 (fun H locs hP hD hS => ?_)
      have hP : va_P D vwCl [(ntk_, .inr (7, [.ref nk_, .ref nkp_, .int v219900_, .int 0, .int kind_, .int tstart_])), (nk_, .inl (cy 0, 901, .inl (g219901_))), (nkp_, .inl (cy 0, 901, .inl (g219902_))), (ntp_, .inl (cy 1, 900, .inl (ftp_)))] H := hP
      have hD := va_ca hP hD
      refine lv_aload_n hx hb dX7_scan_204 rfl (lv_at hl 3 rfl) ?_
      refine lv_aload_n hx hb dX7_scan_205 rfl (lv_at hl 3 rfl) ?_
      refine va_get (ci := 7) (v := .ref nk_) (C := RX7) (T := TX7) (N := 6) hx hb htA in_X7 hown hK hP 0 rfl rfl 0 (by decide) (htA _ wd_139) (fun _ h => h) rfl dX7_scan_206 ?_
      refine lv_iconst (v := 0) hx hb dX7_scan_209 (by decide) ?_
      refine va_iald hx hb hK hP 1 0 rfl rfl (in_lit (by decide)) dX7_scan_210 ?_
      refine lv_topi (fun v12100_ ev12100_ => ?_)
      refine va_put (ci := 7) (v := .int v12100_) (ty := .int) (C := RX7) (T := TX7) (N := 6) hx hb htA in_X7 tyX7 tyX7_ok nmX7 hown hK hP hD hS 0 rfl rfl 4 (by decide) (htA _ wd_144) (fun _ h => h) rfl (by decide +kernel) rfl rfl (Nat.le_of_ble_eq_true rfl) dX7_scan_211 (fun H locs hP hD hS => ?_)
      have hP : va_P D vwCl [(ntk_, .inr (7, [.ref nk_, .ref nkp_, .int v219900_, .int 0, .int v12100_, .int tstart_])), (nk_, .inl (cy 0, 901, .inl (g219901_))), (nkp_, .inl (cy 0, 901, .inl (g219902_))), (ntp_, .inl (cy 1, 900, .inl (ftp_)))] H := hP
      have hD := va_ca hP hD
      refine lv_aload_n hx hb dX7_scan_214 rfl (lv_at hl 3 rfl) ?_
      refine lv_aload_n hx hb dX7_scan_215 rfl (lv_at hl 3 rfl) ?_
      refine va_get (ci := 7) (v := .ref nkp_) (C := RX7) (T := TX7) (N := 6) hx hb htA in_X7 hown hK hP 0 rfl rfl 1 (by decide) (htA _ wd_140) (fun _ h => h) rfl dX7_scan_216 ?_
      refine lv_iconst (v := 0) hx hb dX7_scan_219 (by decide) ?_
      refine va_iald hx hb hK hP 2 0 rfl rfl (in_lit (by decide)) dX7_scan_220 ?_
      refine lv_topi (fun v12200_ ev12200_ => ?_)
      refine va_put (ci := 7) (v := .int v12200_) (ty := .int) (C := RX7) (T := TX7) (N := 6) hx hb htA in_X7 tyX7 tyX7_ok nmX7 hown hK hP hD hS 0 rfl rfl 5 (by decide) (htA _ wd_145) (fun _ h => h) rfl (by decide +kernel) rfl rfl (Nat.le_of_ble_eq_true rfl) dX7_scan_221 (fun H locs hP hD hS => ?_)
      have hP : va_P D vwCl [(ntk_, .inr (7, [.ref nk_, .ref nkp_, .int v219900_, .int 0, .int v12100_, .int v12200_])), (nk_, .inl (cy 0, 901, .inl (g219901_))), (nkp_, .inl (cy 0, 901, .inl (g219902_))), (ntp_, .inl (cy 1, 900, .inl (ftp_)))] H := hP
      have hD := va_ca hP hD
      exact rV hX hE hP hD hS dX7_scan_224 (by decide) (by decide) ⟨v219900_, v12100_, v12200_, g219901_, g219902_, (rg_w rv219900_ (by decide) (by decide)), (db_w (db_rg (e := 901) rv219900_ rlen_ (by decide)) (by decide)), (Or.inl ⟨v201300_, v201301_, v201302_, v201303_, g201304_, g201305_, v219900_, g219901_, g219902_, v12100_, v12200_, hR1_, hR2_, hR3_, ev12100_, ev12200_, rfl, rfl, rfl, rfl, rfl⟩), rfl⟩
    refine lv_icmp_eq (tgt := 199) hx hb dX7_scan_190 (by decide) (fun c190_ => ?_) (fun c190_ => ?_)
    · have g1_ : rg (1) (1) v201301_ := rg_eq c190_ (rg_lit (by decide) : rg (1) (1) (1 : Int32))
      exact j199_ (v201303_, g201304_, g201305_) _ _ ls ⟨(rg_w rv201303_ (by decide) (by decide)), (Or.inl ⟨c190_, rfl, rfl, rfl⟩), (db_w hb13_0_ (by decide))⟩ hP hD hS (lv_sub hl [0, 1, 2, 3, 4, 5] rfl)
    · refine lv_aload_n hx hb dX7_scan_193 rfl (lv_at hl 3 rfl) ?_
      refine lv_iconst (v := 0) hx hb dX7_scan_194 (by decide) ?_
      refine lv_iload_n hx hb dX7_scan_195 rfl (lv_at hl 5 rfl) ?_
      refine kVv (As := [.int 0, .int len_]) (rest := []) (wr := [(ntp_, .inl (cy 1, 900, .inl (ftp_)))]) hX hE (sf_X7_append l D cy ntk_ nk_ nkp_ v201303_ cur_ kind_ tstart_ g201304_ g201305_ (0 : Int32) len_ (rg_w rv201303_ (by decide) (by decide)) (rg_w rcur_ (by decide) (by decide))) (cwVA 2 htA wd_733 wd_730 wd_5 wd_732 wp_5 (by decide +kernel) ⟨by decide, by decide⟩) hP hD hS [0, 1, 2] [3] rfl rfl (by decide +kernel) 0 rfl rfl rfl rfl hl.1 rfl (Nat.le_of_ble_eq_true rfl) dX7_scan_196 (by decide) (fun W1 H locs hw hP hD hS => ?_)
      refine W.widen (k := 0) (n := 0) (by decide) (by decide) ?_
      obtain ⟨v11961_, g11962_, g11963_, k196_0_, k196_1_, k196_2_, rfl⟩ := hw
      have hP : va_P D vwCl [(ntp_, .inl (cy 1, 900, .inl (ftp_))), (ntk_, .inr (7, [.ref nk_, .ref nkp_, .int v11961_, .int cur_, .int kind_, .int tstart_])), (nk_, .inl (cy 0, 901, .inl (g11962_))), (nkp_, .inl (cy 0, 901, .inl (g11963_)))] H := hP
      have hD := va_ca hP hD
      have hP : va_P D vwCl [(ntk_, .inr (7, [.ref nk_, .ref nkp_, .int v11961_, .int cur_, .int kind_, .int tstart_])), (nk_, .inl (cy 0, 901, .inl (g11962_))), (nkp_, .inl (cy 0, 901, .inl (g11963_))), (ntp_, .inl (cy 1, 900, .inl (ftp_)))] H := hP.sub [1, 2, 3, 0] rfl
      have hD : va_D A [(ntk_, .inr (7, [.ref nk_, .ref nkp_, .int v11961_, .int cur_, .int kind_, .int tstart_])), (nk_, .inl (cy 0, 901, .inl (g11962_))), (nkp_, .inl (cy 0, 901, .inl (g11963_))), (ntp_, .inl (cy 1, 900, .inl (ftp_)))] := hD.sub [1, 2, 3, 0] (by decide +kernel) rfl
      exact j199_ (v11961_, g11962_, g11963_) _ _ ls ⟨(rg_w k196_0_ (by decide) (by decide)), (Or.inr (Or.inl ⟨v11961_, g11962_, g11963_, c190_, k196_2_, rfl, rfl, rfl⟩)), (db_w (db_rg (e := 901) k196_0_ rv201300_ (by decide)) (by decide))⟩ hP hD hS (lv_sub hl [0, 1, 2, 3, 4, 5] rfl)
  refine lv_icmp_ge (tgt := 187) hx hb dX7_scan_16 (by decide) (fun c16_ => ?_) (fun c16_ => ?_)
  · exact j187_ () _ _ ls (Or.inl c16_) hP hD hS (lv_sub hl [0, 1, 2, 3, 4, 5] rfl)
  · have g2_ : rg (0) (899) v201300_ := rg_lt1 (rg_nle c16_) rv201300_ rlen_ (by decide)
    have g3_ : rg (1) (900) len_ := rg_lt2 (rg_nle c16_) rv201300_ rlen_ (by decide)
    refine lv_iload_n hx hb dX7_scan_19 rfl (lv_at hl 2 rfl) ?_
    refine lv_iload_n hx hb dX7_scan_20 rfl (lv_at hl 5 rfl) ?_
    refine lv_icmp_ge (tgt := 187) hx hb dX7_scan_21 (by decide) (fun c21_ => ?_) (fun c21_ => ?_)
    · have g4_ : rg (1) (900) v201302_ := rg_le2 c21_ g3_ rv201302_ (by decide)
      exact j187_ () _ _ ls (Or.inr (Or.inl ⟨c16_, c21_⟩)) hP hD hS (lv_sub hl [0, 1, 2, 3, 4, 5] rfl)
    · have g5_ : rg (0) (899) v201302_ := rg_lt1 (rg_nle c21_) rv201302_ g3_ (by decide)
      refine lv_iload hx hb dX7_scan_24 (lv_at hl 1 rfl) ?_
      refine lv_iconst (v := 1) hx hb dX7_scan_26 (by decide) ?_
      refine lv_icmp_eq (tgt := 187) hx hb dX7_scan_27 (by decide) (fun c27_ => ?_) (fun c27_ => ?_)
      · have g6_ : rg (1) (1) v201301_ := rg_eq c27_ (rg_lit (by decide) : rg (1) (1) (1 : Int32))
        exact j187_ () _ _ ls (Or.inr (Or.inr (Or.inl ⟨c16_, c21_, c27_⟩))) hP hD hS (lv_sub hl [0, 1, 2, 3, 4, 5] rfl)
      · refine lv_aload_n hx hb dX7_scan_30 rfl (lv_at hl 4 rfl) ?_
        refine lv_iload_n hx hb dX7_scan_31 rfl (lv_at hl 2 rfl) ?_
        refine va_bald hx hb hK hP 3 1 rfl rfl (rg_in g5_ (by decide) (by decide)) dX7_scan_32 ?_
        refine lv_topi (fun v10320_ ev10320_ => ?_)
        refine lv_sipush (v := 255) hx hb dX7_scan_33 (by decide) ?_
        refine lv_iand hx hb dX7_scan_36 ?_
        have g7_ : rg (0) (255) (v10320_ &&& 255) := rg_and (by decide) (by decide)
        refine lv_istore (lv' := [(6, .int (v10320_ &&& 255)), (5, .int v201300_), (4, .int v201301_), (3, .int v201302_), (0, .ref ntk_), (1, .ref ntp_), (2, .int len_)]) hx hb dX7_scan_37 hl (by decide) rfl (fun ls hl => ?_)
        refine lv_iload_n hx hb dX7_scan_39 rfl (lv_at hl 3 rfl) ?_
        refine lv_iconst (v := 1) hx hb dX7_scan_40 (by decide) ?_
        refine lv_iadd hx hb dX7_scan_41 ?_
        have g8_ : rg (1) (900) (v201302_ + 1) := rg_add g5_ (rg_lit (by decide) : rg (1) (1) (1 : Int32)) (by decide) (by decide) (by decide) (by decide)
        refine lv_istore (lv' := [(7, .int (v201302_ + 1)), (6, .int (v10320_ &&& 255)), (5, .int v201300_), (4, .int v201301_), (3, .int v201302_), (0, .ref ntk_), (1, .ref ntp_), (2, .int len_)]) hx hb dX7_scan_42 hl (by decide) rfl (fun ls hl => ?_)
        refine lv_iload hx hb dX7_scan_44 (lv_at hl 1 rfl) ?_
        refine lv_bipush (v := 97) hx hb dX7_scan_46 (by decide) ?_
        refine lv_bipush (v := 122) hx hb dX7_scan_48 (by decide) ?_
        refine kSi (As := [.int (v10320_ &&& 255), .int 97, .int 122]) (rest := []) (wr := [(ntk_, .inr (7, [.ref nk_, .ref nkp_, .int v201303_, .int cur_, .int kind_, .int tstart_])), (nk_, .inl (cy 0, 901, .inl (g201304_))), (nkp_, .inl (cy 0, 901, .inl (g201305_))), (ntp_, .inl (cy 1, 900, .inl (ftp_)))]) hX hE (sf_X7_isWithin l D cy (v10320_ &&& 255) (97 : Int32) (122 : Int32) ) (cwSA 3 htA wd_615 wd_613 wd_5 wd_614 (by decide +kernel) ⟨by decide, by decide⟩) hP hD hS [] [0, 1, 2, 3] rfl rfl (by decide +kernel) rfl hl.1 rfl (Nat.le_of_ble_eq_true rfl) dX7_scan_50 (by decide) (fun v10500_ W1 H locs hw hP hD hS => ?_)
        refine W.widen (k := 0) (n := 0) (by decide) (by decide) ?_
        obtain ⟨k50_0_, rfl, kr50_⟩ := hw
        have hP : va_P D vwCl [(ntk_, .inr (7, [.ref nk_, .ref nkp_, .int v201303_, .int cur_, .int kind_, .int tstart_])), (nk_, .inl (cy 0, 901, .inl (g201304_))), (nkp_, .inl (cy 0, 901, .inl (g201305_))), (ntp_, .inl (cy 1, 900, .inl (ftp_)))] H := hP
        have hD := va_ca hP hD
        refine joinT (D := D) (A := A) (pc := 181) (mL := 8) (τ := Int32 × Int32 × Int32 × Int32 × (Nat → Int32) × (Nat → Int32)) (WS := fun i => [(ntk_, .inr (7, [.ref nk_, .ref nkp_, .int i.2.2.2.1, .int cur_, .int kind_, .int tstart_])), (nk_, .inl (cy 0, 901, .inl (i.2.2.2.2.1))), (nkp_, .inl (cy 0, 901, .inl (i.2.2.2.2.2))), (ntp_, .inl (cy 1, 900, .inl (ftp_)))]) (LV := fun i => [(3, .int i.1), (7, .int i.2.1), (6, .int (v10320_ &&& 255)), (5, .int v201300_), (4, .int i.2.2.1), (0, .ref ntk_), (1, .ref ntp_), (2, .int len_)]) (ST := fun i => []) (cells := 0) (slots := 0) (fun i => rg (0) (900) i.1 ∧ rg (0) (900) i.2.1 ∧ rg (0) (901) i.2.2.2.1 ∧ R_X7_scan_j5 v10500_ v10320_ v201302_ len_ ftp_ v201303_ g201304_ g201305_ v201301_ i.1 i.2.1 i.2.2.1 i.2.2.2.1 i.2.2.2.2.1 i.2.2.2.2.2 ∧ db i.2.2.2.1 v201300_ (901)) (fun i_ H locs ls hI hP hD hS hl => ?_) (fun j181_ => ?_)
        · obtain ⟨v218100_, v218101_, v218102_, v218103_, g218104_, g218105_⟩ := i_
          have hI : rg (0) (900) v218100_ ∧ rg (0) (900) v218101_ ∧ rg (0) (901) v218103_ ∧ R_X7_scan_j5 v10500_ v10320_ v201302_ len_ ftp_ v201303_ g201304_ g201305_ v201301_ v218100_ v218101_ v218102_ v218103_ g218104_ g218105_ ∧ db v218103_ v201300_ (901) := hI
          obtain ⟨rv218100_, rv218101_, rv218103_, hR5_, hb181_0_⟩ := hI
          have hP : va_P D vwCl [(ntk_, .inr (7, [.ref nk_, .ref nkp_, .int v218103_, .int cur_, .int kind_, .int tstart_])), (nk_, .inl (cy 0, 901, .inl (g218104_))), (nkp_, .inl (cy 0, 901, .inl (g218105_))), (ntp_, .inl (cy 1, 900, .inl (ftp_)))] H := hP
          have hD := va_ca hP hD
          have hl : lv_has ls 8 [(3, .int v218100_), (7, .int v218101_), (6, .int (v10320_ &&& 255)), (5, .int v201300_), (4, .int v218102_), (0, .ref ntk_), (1, .ref ntp_), (2, .int len_)] := hl
          refine lv_iinc (v := v201300_ + 1) (lv' := [(5, .int (v201300_ + 1)), (3, .int v218100_), (7, .int v218101_), (6, .int (v10320_ &&& 255)), (4, .int v218102_), (0, .ref ntk_), (1, .ref ntp_), (2, .int len_)]) hx hb dX7_scan_181 hl (k := 3) rfl rfl (by decide) rfl (fun ls hl => ?_)
          have g9_ : rg (1) (900) (v201300_ + 1) := rg_add g2_ (rg_lit (by decide) : rg (1) (1) (1 : Int32)) (by decide) (by decide) (by decide) (by decide)
          refine lv_goto (tgt := 13) hx hb dX7_scan_184 (by decide) ?_
          exact ih13_ (v201300_ + 1, v218102_, v218100_, v218103_, g218104_, g218105_) _ _ ls ⟨(rg_w g9_ (by decide) (by decide)), (rg_w rv218100_ (by decide) (by decide)), (rg_w rv218103_ (by decide) (by decide)), (Itr.st hR1_ (Or.inl ⟨v10320_, v10500_, v218100_, v218101_, v218102_, v218103_, g218104_, g218105_, c16_, c21_, c27_, ev10320_, k50_0_, hR5_, rfl⟩)), (db_w (db_rg (e := 900) rv218103_ g9_ (by decide)) (by decide))⟩ (show (901 - (v201300_ + 1).toInt).toNat < (901 - v201300_.toInt).toNat from by rw [show (v201300_ + 1).toInt = v201300_.toInt + 1 from inc32 v201300_ (by have hq := (rv201300_).2; omega)]; have hq := (g2_).1; have hq2 := (g2_).2; omega) hP hD hS (lv_sub hl [0, 4, 1, 5, 6, 7] rfl)
        refine joinT (D := D) (A := A) (pc := 171) (mL := 8) (τ := Int32 × Int32) (WS := fun i => [(ntk_, .inr (7, [.ref nk_, .ref nkp_, .int v201303_, .int cur_, .int kind_, .int tstart_])), (nk_, .inl (cy 0, 901, .inl (g201304_))), (nkp_, .inl (cy 0, 901, .inl (g201305_))), (ntp_, .inl (cy 1, 900, .inl (ftp_)))]) (LV := fun i => [(4, .int i.1), (7, .int i.2), (6, .int (v10320_ &&& 255)), (5, .int v201300_), (3, .int v201302_), (0, .ref ntk_), (1, .ref ntp_), (2, .int len_)]) (ST := fun i => []) (cells := 0) (slots := 0) (fun i => rg (0) (900) i.2 ∧ R_X7_scan_j6 v10500_ v10320_ v201302_ len_ ftp_ i.1 i.2) (fun i_ H locs ls hI hP hD hS hl => ?_) (fun j171_ => ?_)
        · obtain ⟨v217100_, v217101_⟩ := i_
          have hI : rg (0) (900) v217101_ ∧ R_X7_scan_j6 v10500_ v10320_ v201302_ len_ ftp_ v217100_ v217101_ := hI
          obtain ⟨rv217101_, hR6_⟩ := hI
          have hP : va_P D vwCl [(ntk_, .inr (7, [.ref nk_, .ref nkp_, .int v201303_, .int cur_, .int kind_, .int tstart_])), (nk_, .inl (cy 0, 901, .inl (g201304_))), (nkp_, .inl (cy 0, 901, .inl (g201305_))), (ntp_, .inl (cy 1, 900, .inl (ftp_)))] H := hP
          have hD := va_ca hP hD
          have hl : lv_has ls 8 [(4, .int v217100_), (7, .int v217101_), (6, .int (v10320_ &&& 255)), (5, .int v201300_), (3, .int v201302_), (0, .ref ntk_), (1, .ref ntp_), (2, .int len_)] := hl
          refine lv_aload_n hx hb dX7_scan_171 rfl (lv_at hl 5 rfl) ?_
          refine lv_iload hx hb dX7_scan_172 (lv_at hl 0 rfl) ?_
          refine lv_iload_n hx hb dX7_scan_174 rfl (lv_at hl 4 rfl) ?_
          refine kVv (As := [.int v217100_, .int v201302_]) (rest := []) (wr := [(ntp_, .inl (cy 1, 900, .inl (ftp_)))]) hX hE (sf_X7_append l D cy ntk_ nk_ nkp_ v201303_ cur_ kind_ tstart_ g201304_ g201305_ v217100_ v201302_ (rg_w rv201303_ (by decide) (by decide)) (rg_w rcur_ (by decide) (by decide))) (cwVA 2 htA wd_733 wd_730 wd_5 wd_732 wp_5 (by decide +kernel) ⟨by decide, by decide⟩) hP hD hS [0, 1, 2] [3] rfl rfl (by decide +kernel) 0 rfl rfl rfl rfl hl.1 rfl (Nat.le_of_ble_eq_true rfl) dX7_scan_175 (by decide) (fun W1 H locs hw hP hD hS => ?_)
          refine W.widen (k := 0) (n := 0) (by decide) (by decide) ?_
          obtain ⟨v11751_, g11752_, g11753_, k175_0_, k175_1_, k175_2_, rfl⟩ := hw
          have hP : va_P D vwCl [(ntp_, .inl (cy 1, 900, .inl (ftp_))), (ntk_, .inr (7, [.ref nk_, .ref nkp_, .int v11751_, .int cur_, .int kind_, .int tstart_])), (nk_, .inl (cy 0, 901, .inl (g11752_))), (nkp_, .inl (cy 0, 901, .inl (g11753_)))] H := hP
          have hD := va_ca hP hD
          refine lv_iload hx hb dX7_scan_178 (lv_at hl 1 rfl) ?_
          refine lv_istore_n (lv' := [(3, .int v217101_), (4, .int v217100_), (7, .int v217101_), (6, .int (v10320_ &&& 255)), (5, .int v201300_), (0, .ref ntk_), (1, .ref ntp_), (2, .int len_)]) hx hb dX7_scan_180 rfl hl (by decide) rfl (fun ls hl => ?_)
          have hP : va_P D vwCl [(ntk_, .inr (7, [.ref nk_, .ref nkp_, .int v11751_, .int cur_, .int kind_, .int tstart_])), (nk_, .inl (cy 0, 901, .inl (g11752_))), (nkp_, .inl (cy 0, 901, .inl (g11753_))), (ntp_, .inl (cy 1, 900, .inl (ftp_)))] H := hP.sub [1, 2, 3, 0] rfl
          have hD : va_D A [(ntk_, .inr (7, [.ref nk_, .ref nkp_, .int v11751_, .int cur_, .int kind_, .int tstart_])), (nk_, .inl (cy 0, 901, .inl (g11752_))), (nkp_, .inl (cy 0, 901, .inl (g11753_))), (ntp_, .inl (cy 1, 900, .inl (ftp_)))] := hD.sub [1, 2, 3, 0] (by decide +kernel) rfl
          exact j181_ (v217101_, v217101_, v217100_, v11751_, g11752_, g11753_) _ _ ls ⟨(rg_w rv217101_ (by decide) (by decide)), (rg_w rv217101_ (by decide) (by decide)), (rg_w k175_0_ (by decide) (by decide)), (Or.inl ⟨v217100_, v217101_, v11751_, g11752_, g11753_, hR6_, k175_2_, rfl, rfl, rfl, rfl, rfl, rfl⟩), (db_w (db_rg (e := 901) k175_0_ g2_ (by decide)) (by decide))⟩ hP hD hS (lv_sub hl [0, 2, 3, 4, 1, 5, 6, 7] rfl)
        refine lv_if_eq (tgt := 80) hx hb dX7_scan_53 (by decide) (fun c53_ => ?_) (fun c53_ => ?_)
        · have g10_ : rg (0) (0) v10500_ := rg_eq c53_ (rg_lit (by decide) : rg (0) (0) (0 : Int32))
          refine lv_iload hx hb dX7_scan_80 (lv_at hl 1 rfl) ?_
          refine lv_bipush (v := 48) hx hb dX7_scan_82 (by decide) ?_
          refine lv_bipush (v := 57) hx hb dX7_scan_84 (by decide) ?_
          refine kSi (As := [.int (v10320_ &&& 255), .int 48, .int 57]) (rest := []) (wr := [(ntk_, .inr (7, [.ref nk_, .ref nkp_, .int v201303_, .int cur_, .int kind_, .int tstart_])), (nk_, .inl (cy 0, 901, .inl (g201304_))), (nkp_, .inl (cy 0, 901, .inl (g201305_))), (ntp_, .inl (cy 1, 900, .inl (ftp_)))]) hX hE (sf_X7_isWithin l D cy (v10320_ &&& 255) (48 : Int32) (57 : Int32) ) (cwSA 3 htA wd_615 wd_613 wd_5 wd_614 (by decide +kernel) ⟨by decide, by decide⟩) hP hD hS [] [0, 1, 2, 3] rfl rfl (by decide +kernel) rfl hl.1 rfl (Nat.le_of_ble_eq_true rfl) dX7_scan_86 (by decide) (fun v10860_ W1 H locs hw hP hD hS => ?_)
          refine W.widen (k := 0) (n := 0) (by decide) (by decide) ?_
          obtain ⟨k86_0_, rfl, kr86_⟩ := hw
          have hP : va_P D vwCl [(ntk_, .inr (7, [.ref nk_, .ref nkp_, .int v201303_, .int cur_, .int kind_, .int tstart_])), (nk_, .inl (cy 0, 901, .inl (g201304_))), (nkp_, .inl (cy 0, 901, .inl (g201305_))), (ntp_, .inl (cy 1, 900, .inl (ftp_)))] H := hP
          have hD := va_ca hP hD
          refine lv_if_eq (tgt := 132) hx hb dX7_scan_89 (by decide) (fun c89_ => ?_) (fun c89_ => ?_)
          · have g11_ : rg (0) (0) v10860_ := rg_eq c89_ (rg_lit (by decide) : rg (0) (0) (0 : Int32))
            refine lv_iload hx hb dX7_scan_132 (lv_at hl 1 rfl) ?_
            refine lv_bipush (v := 10) hx hb dX7_scan_134 (by decide) ?_
            refine joinT (D := D) (A := A) (pc := 146) (mL := 8) (τ := Unit) (WS := fun i => [(ntk_, .inr (7, [.ref nk_, .ref nkp_, .int v201303_, .int cur_, .int kind_, .int tstart_])), (nk_, .inl (cy 0, 901, .inl (g201304_))), (nkp_, .inl (cy 0, 901, .inl (g201305_))), (ntp_, .inl (cy 1, 900, .inl (ftp_)))]) (LV := fun i => [(7, .int (v201302_ + 1)), (6, .int (v10320_ &&& 255)), (5, .int v201300_), (4, .int v201301_), (3, .int v201302_), (0, .ref ntk_), (1, .ref ntp_), (2, .int len_)]) (ST := fun i => []) (cells := 0) (slots := 0) (fun i => rg (10) (32) (v10320_ &&& 255) ∧ R_X7_scan_j7 v10320_) (fun u0_ H locs ls hI hP hD hS hl => ?_) (fun j146_ => ?_)
            · have hI : rg (10) (32) (v10320_ &&& 255) ∧ R_X7_scan_j7 v10320_ := hI
              obtain ⟨q146_l_6_, hR7_⟩ := hI
              have hP : va_P D vwCl [(ntk_, .inr (7, [.ref nk_, .ref nkp_, .int v201303_, .int cur_, .int kind_, .int tstart_])), (nk_, .inl (cy 0, 901, .inl (g201304_))), (nkp_, .inl (cy 0, 901, .inl (g201305_))), (ntp_, .inl (cy 1, 900, .inl (ftp_)))] H := hP
              have hD := va_ca hP hD
              have hl : lv_has ls 8 [(7, .int (v201302_ + 1)), (6, .int (v10320_ &&& 255)), (5, .int v201300_), (4, .int v201301_), (3, .int v201302_), (0, .ref ntk_), (1, .ref ntp_), (2, .int len_)] := hl
              refine lv_iload hx hb dX7_scan_146 (lv_at hl 0 rfl) ?_
              refine lv_istore_n (lv' := [(3, .int (v201302_ + 1)), (7, .int (v201302_ + 1)), (6, .int (v10320_ &&& 255)), (5, .int v201300_), (4, .int v201301_), (0, .ref ntk_), (1, .ref ntp_), (2, .int len_)]) hx hb dX7_scan_148 rfl hl (by decide) rfl (fun ls hl => ?_)
              refine lv_goto (tgt := 181) hx hb dX7_scan_149 (by decide) ?_
              exact j181_ (v201302_ + 1, v201302_ + 1, v201301_, v201303_, g201304_, g201305_) _ _ ls ⟨(rg_w g8_ (by decide) (by decide)), (rg_w g8_ (by decide) (by decide)), (rg_w rv201303_ (by decide) (by decide)), (Or.inr (Or.inl ⟨v10860_, c53_, k86_0_, c89_, hR7_, rfl, rfl, rfl, rfl, rfl, rfl⟩)), (db_w hb13_0_ (by decide))⟩ hP hD hS (lv_sub hl [0, 1, 2, 3, 4, 5, 6, 7] rfl)
            refine lv_icmp_eq (tgt := 146) hx hb dX7_scan_136 (by decide) (fun c136_ => ?_) (fun c136_ => ?_)
            · have g12_ : rg (10) (10) (v10320_ &&& 255) := rg_eq c136_ (rg_lit (by decide) : rg (10) (10) (10 : Int32))
              exact j146_ () _ _ ls ⟨(rg_w g12_ (by decide) (by decide)), (Or.inl c136_)⟩ hP hD hS (lv_sub hl [0, 1, 2, 3, 4, 5, 6, 7] rfl)
            · refine lv_iload hx hb dX7_scan_139 (lv_at hl 1 rfl) ?_
              refine lv_bipush (v := 32) hx hb dX7_scan_141 (by decide) ?_
              refine lv_icmp_ne (tgt := 152) hx hb dX7_scan_143 (by decide) (fun c143_ => ?_) (fun c143_ => ?_)
              · obtain ⟨q152_, hq152_R, hq152_S⟩ := hE.2.2.1.2.2.2.1 ("LateFalls$Tokens", 37, ";:+-*()[]=<>", 12) (by decide)
                have hq152_R : vk_R "LateFalls$Tokens" 37 ";:+-*()[]=<>" q152_ s := hq152_R
                have hq152_S : xTs 12 (txF ";:+-*()[]=<>") q152_ A s s.heap := hq152_S
                obtain ⟨vq152_, hq152_O, hq152_C, hq152_V, hq152_T⟩ := id hq152_S
                refine k_ldcS hx hb hown hq152_R dX7_scan_152 ?_
                refine lv_iload hx hb dX7_scan_154 (lv_at hl 1 rfl) ?_
                refine lv_i2c hx hb dX7_scan_156 rfl ?_
                refine gkRi (As := [.int (((v10320_ &&& 255).toUInt32 % 65536).toInt32)]) (rest := []) (wr := [(ntk_, .inr (7, [.ref nk_, .ref nkp_, .int v201303_, .int cur_, .int kind_, .int tstart_])), (nk_, .inl (cy 0, 901, .inl (g201304_))), (nkp_, .inl (cy 0, 901, .inl (g201305_))), (ntp_, .inl (cy 1, 900, .inl (ftp_)))]) hX hE (st_indexOf l D cy 12 (txF ";:+-*()[]=<>") q152_ (((v10320_ &&& 255).toUInt32 % 65536).toInt32) (by decide)) (Pst_ts 12 (txF ";:+-*()[]=<>") q152_) hq152_S (cwVA 1 htA wd_678 wd_675 wd_15 wd_676 wd_677 (by decide +kernel) ⟨by decide, by decide⟩) hP hD hS [] [0, 1, 2, 3] rfl rfl (by decide +kernel) hq152_O rfl hl.1 rfl (Nat.le_of_ble_eq_true rfl) dX7_scan_157 (by decide) (fun v11570_ W1 H locs hw hP hD hS => ?_)
                refine W.widen (k := 0) (n := 0) (by decide) (by decide) ?_
                obtain ⟨rfl, kev11570_⟩ := hw
                have hP : va_P D vwCl [(ntk_, .inr (7, [.ref nk_, .ref nkp_, .int v201303_, .int cur_, .int kind_, .int tstart_])), (nk_, .inl (cy 0, 901, .inl (g201304_))), (nkp_, .inl (cy 0, 901, .inl (g201305_))), (ntp_, .inl (cy 1, 900, .inl (ftp_)))] H := hP
                have hD := va_ca hP hD
                refine joinT (D := D) (A := A) (pc := 169) (mL := 8) (τ := Int32) (WS := fun i => [(ntk_, .inr (7, [.ref nk_, .ref nkp_, .int v201303_, .int cur_, .int kind_, .int tstart_])), (nk_, .inl (cy 0, 901, .inl (g201304_))), (nkp_, .inl (cy 0, 901, .inl (g201305_))), (ntp_, .inl (cy 1, 900, .inl (ftp_)))]) (LV := fun i => [(7, .int (v201302_ + 1)), (6, .int (v10320_ &&& 255)), (5, .int v201300_), (4, .int v201301_), (3, .int v201302_), (0, .ref ntk_), (1, .ref ntp_), (2, .int len_)]) (ST := fun i => [.int i]) (cells := 0) (slots := 0) (fun i => rg (0) (255) i ∧ R_X7_scan_j8 v11570_ v10320_ i) (fun v216900_ H locs ls hI hP hD hS hl => ?_) (fun j169_ => ?_)
                · have hI : rg (0) (255) v216900_ ∧ R_X7_scan_j8 v11570_ v10320_ v216900_ := hI
                  obtain ⟨rv216900_, hR8_⟩ := hI
                  have hP : va_P D vwCl [(ntk_, .inr (7, [.ref nk_, .ref nkp_, .int v201303_, .int cur_, .int kind_, .int tstart_])), (nk_, .inl (cy 0, 901, .inl (g201304_))), (nkp_, .inl (cy 0, 901, .inl (g201305_))), (ntp_, .inl (cy 1, 900, .inl (ftp_)))] H := hP
                  have hD := va_ca hP hD
                  have hl : lv_has ls 8 [(7, .int (v201302_ + 1)), (6, .int (v10320_ &&& 255)), (5, .int v201300_), (4, .int v201301_), (3, .int v201302_), (0, .ref ntk_), (1, .ref ntp_), (2, .int len_)] := hl
                  refine lv_istore (lv' := [(4, .int v216900_), (7, .int (v201302_ + 1)), (6, .int (v10320_ &&& 255)), (5, .int v201300_), (3, .int v201302_), (0, .ref ntk_), (1, .ref ntp_), (2, .int len_)]) hx hb dX7_scan_169 hl (by decide) rfl (fun ls hl => ?_)
                  exact j171_ (v216900_, v201302_ + 1) _ _ ls ⟨(rg_w g8_ (by decide) (by decide)), (Or.inl ⟨v10860_, v11570_, v216900_, c53_, k86_0_, c89_, c136_, c143_, kev11570_, hR8_, rfl, rfl⟩)⟩ hP hD hS (lv_sub hl [0, 1, 2, 3, 4, 5, 6, 7] rfl)
                refine lv_if_lt (tgt := 168) hx hb dX7_scan_160 (by decide) (fun c160_ => ?_) (fun c160_ => ?_)
                · have g13_ : rg (-2147483648) (-1) v11570_ := rg_lt1 c160_ (rg_any _) (rg_lit (by decide) : rg (0) (0) (0 : Int32)) (by decide)
                  refine lv_iconst (v := 1) hx hb dX7_scan_168 (by decide) ?_
                  exact j169_ 1 _ _ ls ⟨(rg_w (rg_lit (by decide) : rg (1) (1) (1 : Int32)) (by decide) (by decide)), (Or.inl ⟨c160_, rfl⟩)⟩ hP hD hS (lv_sub hl [0, 1, 2, 3, 4, 5, 6, 7] rfl)
                · have g14_ : rg (0) (2147483647) v11570_ := rg_le2 (rg_nlt c160_) (rg_lit (by decide) : rg (0) (0) (0 : Int32)) (rg_any _) (by decide)
                  refine lv_iload hx hb dX7_scan_163 (lv_at hl 1 rfl) ?_
                  refine lv_goto (tgt := 169) hx hb dX7_scan_165 (by decide) ?_
                  exact j169_ (v10320_ &&& 255) _ _ ls ⟨(rg_w g7_ (by decide) (by decide)), (Or.inr (Or.inl ⟨c160_, rfl⟩))⟩ hP hD hS (lv_sub hl [0, 1, 2, 3, 4, 5, 6, 7] rfl)
              · have g15_ : rg (32) (32) (v10320_ &&& 255) := rg_eq c143_ (rg_lit (by decide) : rg (32) (32) (32 : Int32))
                exact j146_ () _ _ ls ⟨(rg_w g15_ (by decide) (by decide)), (Or.inr (Or.inl ⟨c136_, c143_⟩))⟩ hP hD hS (lv_sub hl [0, 1, 2, 3, 4, 5, 6, 7] rfl)
          · have g16_ : rg (1) (1) v10860_ := rg_ne1 c89_ kr86_ (by decide) (by decide)
            refine lv_aload_n hx hb dX7_scan_92 rfl (lv_at hl 6 rfl) ?_
            refine lv_iload_n hx hb dX7_scan_93 rfl (lv_at hl 4 rfl) ?_
            refine lv_iload_n hx hb dX7_scan_94 rfl (lv_at hl 7 rfl) ?_
            refine lv_bipush (v := 48) hx hb dX7_scan_95 (by decide) ?_
            refine lv_bipush (v := 57) hx hb dX7_scan_97 (by decide) ?_
            refine kSi (As := [.ref ntp_, .int v201302_, .int len_, .int 48, .int 57]) (rest := []) (wr := [(ntk_, .inr (7, [.ref nk_, .ref nkp_, .int v201303_, .int cur_, .int kind_, .int tstart_])), (nk_, .inl (cy 0, 901, .inl (g201304_))), (nkp_, .inl (cy 0, 901, .inl (g201305_)))]) hX hE (sf_X7_runEnd l D cy ntp_ ftp_ v201302_ len_ (48 : Int32) (57 : Int32) (rg_w g3_ (by decide) (by decide)) (rg_w g5_ (by decide) (by decide))) (cwSA 5 htA wd_618 wd_616 wd_5 wd_617 (by decide +kernel) ⟨by decide, by decide⟩) hP hD hS [3] [0, 1, 2] rfl rfl (by decide +kernel) rfl hl.1 rfl (Nat.le_of_ble_eq_true rfl) dX7_scan_99 (by decide) (fun v10990_ W1 H locs hw hP hD hS => ?_)
            refine W.widen (k := 0) (n := 0) (by decide) (by decide) ?_
            obtain ⟨k99_0_, rfl, kr99_⟩ := hw
            have hP : va_P D vwCl [(ntk_, .inr (7, [.ref nk_, .ref nkp_, .int v201303_, .int cur_, .int kind_, .int tstart_])), (nk_, .inl (cy 0, 901, .inl (g201304_))), (nkp_, .inl (cy 0, 901, .inl (g201305_))), (ntp_, .inl (cy 1, 900, .inl (ftp_)))] H := hP
            have hD := va_ca hP hD
            refine lv_istore (lv' := [(7, .int v10990_), (6, .int (v10320_ &&& 255)), (5, .int v201300_), (4, .int v201301_), (3, .int v201302_), (0, .ref ntk_), (1, .ref ntp_), (2, .int len_)]) hx hb dX7_scan_102 hl (by decide) rfl (fun ls hl => ?_)
            refine lv_iload hx hb dX7_scan_104 (lv_at hl 0 rfl) ?_
            refine lv_iload_n hx hb dX7_scan_106 rfl (lv_at hl 4 rfl) ?_
            refine lv_isub hx hb dX7_scan_107 ?_
            have g17_ : rg (-899) (900) (v10990_ - v201302_) := rg_sub kr99_ g5_ (by decide) (by decide) (by decide) (by decide)
            refine lv_iconst (v := 3) hx hb dX7_scan_108 (by decide) ?_
            refine joinT (D := D) (A := A) (pc := 127) (mL := 8) (τ := Int32) (WS := fun i => [(ntk_, .inr (7, [.ref nk_, .ref nkp_, .int v201303_, .int cur_, .int kind_, .int tstart_])), (nk_, .inl (cy 0, 901, .inl (g201304_))), (nkp_, .inl (cy 0, 901, .inl (g201305_))), (ntp_, .inl (cy 1, 900, .inl (ftp_)))]) (LV := fun i => [(7, .int v10990_), (6, .int (v10320_ &&& 255)), (5, .int v201300_), (4, .int v201301_), (3, .int v201302_), (0, .ref ntk_), (1, .ref ntp_), (2, .int len_)]) (ST := fun i => [.int i]) (cells := 0) (slots := 0) (fun i => R_X7_scan_j9 v10990_ v201302_ ftp_ i) (fun v212700_ H locs ls hI hP hD hS hl => ?_) (fun j127_ => ?_)
            · have hI : R_X7_scan_j9 v10990_ v201302_ ftp_ v212700_ := hI
              have hR9_ := hI
              have hP : va_P D vwCl [(ntk_, .inr (7, [.ref nk_, .ref nkp_, .int v201303_, .int cur_, .int kind_, .int tstart_])), (nk_, .inl (cy 0, 901, .inl (g201304_))), (nkp_, .inl (cy 0, 901, .inl (g201305_))), (ntp_, .inl (cy 1, 900, .inl (ftp_)))] H := hP
              have hD := va_ca hP hD
              have hl : lv_has ls 8 [(7, .int v10990_), (6, .int (v10320_ &&& 255)), (5, .int v201300_), (4, .int v201301_), (3, .int v201302_), (0, .ref ntk_), (1, .ref ntp_), (2, .int len_)] := hl
              refine lv_istore (lv' := [(4, .int v212700_), (7, .int v10990_), (6, .int (v10320_ &&& 255)), (5, .int v201300_), (3, .int v201302_), (0, .ref ntk_), (1, .ref ntp_), (2, .int len_)]) hx hb dX7_scan_127 hl (by decide) rfl (fun ls hl => ?_)
              refine lv_goto (tgt := 171) hx hb dX7_scan_129 (by decide) ?_
              exact j171_ (v212700_, v10990_) _ _ ls ⟨(rg_w kr99_ (by decide) (by decide)), (Or.inr (Or.inl ⟨v10860_, v10990_, v212700_, c53_, k86_0_, c89_, k99_0_, hR9_, rfl, rfl⟩))⟩ hP hD hS (lv_sub hl [0, 1, 2, 3, 4, 5, 6, 7] rfl)
            refine lv_icmp_le (tgt := 116) hx hb dX7_scan_109 (by decide) (fun c109_ => ?_) (fun c109_ => ?_)
            · have g18_ : rg (-899) (3) (v10990_ - v201302_) := rg_le1 c109_ g17_ (rg_lit (by decide) : rg (3) (3) (3 : Int32)) (by decide)
              refine lv_sipush (v := 1000) hx hb dX7_scan_116 (by decide) ?_
              refine lv_aload_n hx hb dX7_scan_119 rfl (lv_at hl 6 rfl) ?_
              refine lv_iload_n hx hb dX7_scan_120 rfl (lv_at hl 4 rfl) ?_
              refine lv_iload hx hb dX7_scan_121 (lv_at hl 0 rfl) ?_
              refine kSi (As := [.ref ntp_, .int v201302_, .int v10990_]) (rest := [.int 1000]) (wr := [(ntk_, .inr (7, [.ref nk_, .ref nkp_, .int v201303_, .int cur_, .int kind_, .int tstart_])), (nk_, .inl (cy 0, 901, .inl (g201304_))), (nkp_, .inl (cy 0, 901, .inl (g201305_)))]) hX hE (sf_X7_numberAt l D cy ntp_ ftp_ v201302_ v10990_ (rg_w g5_ (by decide) (by decide)) (rg_w kr99_ (by decide) (by decide))) (cwSA 3 htA wd_673 wd_671 wd_5 wd_672 (by decide +kernel) ⟨by decide, by decide⟩) hP hD hS [3] [0, 1, 2] rfl rfl (by decide +kernel) rfl hl.1 rfl (Nat.le_of_ble_eq_true rfl) dX7_scan_123 (by decide) (fun v11230_ W1 H locs hw hP hD hS => ?_)
              refine W.widen (k := 0) (n := 0) (by decide) (by decide) ?_
              obtain ⟨k123_0_, rfl⟩ := hw
              have hP : va_P D vwCl [(ntk_, .inr (7, [.ref nk_, .ref nkp_, .int v201303_, .int cur_, .int kind_, .int tstart_])), (nk_, .inl (cy 0, 901, .inl (g201304_))), (nkp_, .inl (cy 0, 901, .inl (g201305_))), (ntp_, .inl (cy 1, 900, .inl (ftp_)))] H := hP
              have hD := va_ca hP hD
              refine lv_iadd hx hb dX7_scan_126 ?_
              exact j127_ (1000 + v11230_) _ _ ls (Or.inl ⟨v11230_, c109_, k123_0_, rfl⟩) hP hD hS (lv_sub hl [0, 1, 2, 3, 4, 5, 6, 7] rfl)
            · have g19_ : rg (4) (900) (v10990_ - v201302_) := rg_lt2 (rg_nle c109_) (rg_lit (by decide) : rg (3) (3) (3 : Int32)) g17_ (by decide)
              refine lv_iconst (v := 1) hx hb dX7_scan_112 (by decide) ?_
              refine lv_goto (tgt := 127) hx hb dX7_scan_113 (by decide) ?_
              exact j127_ 1 _ _ ls (Or.inr (Or.inl ⟨c109_, rfl⟩)) hP hD hS (lv_sub hl [0, 1, 2, 3, 4, 5, 6, 7] rfl)
        · have g20_ : rg (1) (1) v10500_ := rg_ne1 c53_ kr50_ (by decide) (by decide)
          refine lv_aload_n hx hb dX7_scan_56 rfl (lv_at hl 6 rfl) ?_
          refine lv_iload_n hx hb dX7_scan_57 rfl (lv_at hl 4 rfl) ?_
          refine lv_iload_n hx hb dX7_scan_58 rfl (lv_at hl 7 rfl) ?_
          refine lv_bipush (v := 97) hx hb dX7_scan_59 (by decide) ?_
          refine lv_bipush (v := 122) hx hb dX7_scan_61 (by decide) ?_
          refine kSi (As := [.ref ntp_, .int v201302_, .int len_, .int 97, .int 122]) (rest := []) (wr := [(ntk_, .inr (7, [.ref nk_, .ref nkp_, .int v201303_, .int cur_, .int kind_, .int tstart_])), (nk_, .inl (cy 0, 901, .inl (g201304_))), (nkp_, .inl (cy 0, 901, .inl (g201305_)))]) hX hE (sf_X7_runEnd l D cy ntp_ ftp_ v201302_ len_ (97 : Int32) (122 : Int32) (rg_w g3_ (by decide) (by decide)) (rg_w g5_ (by decide) (by decide))) (cwSA 5 htA wd_618 wd_616 wd_5 wd_617 (by decide +kernel) ⟨by decide, by decide⟩) hP hD hS [3] [0, 1, 2] rfl rfl (by decide +kernel) rfl hl.1 rfl (Nat.le_of_ble_eq_true rfl) dX7_scan_63 (by decide) (fun v10630_ W1 H locs hw hP hD hS => ?_)
          refine W.widen (k := 0) (n := 0) (by decide) (by decide) ?_
          obtain ⟨k63_0_, rfl, kr63_⟩ := hw
          have hP : va_P D vwCl [(ntk_, .inr (7, [.ref nk_, .ref nkp_, .int v201303_, .int cur_, .int kind_, .int tstart_])), (nk_, .inl (cy 0, 901, .inl (g201304_))), (nkp_, .inl (cy 0, 901, .inl (g201305_))), (ntp_, .inl (cy 1, 900, .inl (ftp_)))] H := hP
          have hD := va_ca hP hD
          refine lv_istore (lv' := [(7, .int v10630_), (6, .int (v10320_ &&& 255)), (5, .int v201300_), (4, .int v201301_), (3, .int v201302_), (0, .ref ntk_), (1, .ref ntp_), (2, .int len_)]) hx hb dX7_scan_66 hl (by decide) rfl (fun ls hl => ?_)
          refine lv_aload_n hx hb dX7_scan_68 rfl (lv_at hl 6 rfl) ?_
          refine lv_iload_n hx hb dX7_scan_69 rfl (lv_at hl 4 rfl) ?_
          refine lv_iload hx hb dX7_scan_70 (lv_at hl 0 rfl) ?_
          refine kSi (As := [.ref ntp_, .int v201302_, .int v10630_]) (rest := []) (wr := [(ntk_, .inr (7, [.ref nk_, .ref nkp_, .int v201303_, .int cur_, .int kind_, .int tstart_])), (nk_, .inl (cy 0, 901, .inl (g201304_))), (nkp_, .inl (cy 0, 901, .inl (g201305_)))]) hX hE (sf_X7_wordKind l D cy ntp_ ftp_ v201302_ v10630_ (rg_w g5_ (by decide) (by decide)) (rg_w kr63_ (by decide) (by decide))) (cwSA 3 htA wd_621 wd_619 wd_5 wd_620 (by decide +kernel) ⟨by decide, by decide⟩) hP hD hS [3] [0, 1, 2] rfl rfl (by decide +kernel) rfl hl.1 rfl (Nat.le_of_ble_eq_true rfl) dX7_scan_72 (by decide) (fun v10720_ W1 H locs hw hP hD hS => ?_)
          refine W.widen (k := 0) (n := 0) (by decide) (by decide) ?_
          obtain ⟨k72_0_, rfl⟩ := hw
          have hP : va_P D vwCl [(ntk_, .inr (7, [.ref nk_, .ref nkp_, .int v201303_, .int cur_, .int kind_, .int tstart_])), (nk_, .inl (cy 0, 901, .inl (g201304_))), (nkp_, .inl (cy 0, 901, .inl (g201305_))), (ntp_, .inl (cy 1, 900, .inl (ftp_)))] H := hP
          have hD := va_ca hP hD
          refine lv_istore (lv' := [(4, .int v10720_), (7, .int v10630_), (6, .int (v10320_ &&& 255)), (5, .int v201300_), (3, .int v201302_), (0, .ref ntk_), (1, .ref ntp_), (2, .int len_)]) hx hb dX7_scan_75 hl (by decide) rfl (fun ls hl => ?_)
          refine lv_goto (tgt := 171) hx hb dX7_scan_77 (by decide) ?_
          exact j171_ (v10720_, v10630_) _ _ ls ⟨(rg_w kr63_ (by decide) (by decide)), (Or.inr (Or.inr (Or.inl ⟨v10630_, v10720_, c53_, k63_0_, k72_0_, rfl, rfl⟩)))⟩ hP hD hS (lv_sub hl [0, 1, 2, 3, 4, 5, 6, 7] rfl)
def R_X7_stop_e : Prop := (True) ∨ False
set_option maxHeartbeats 4000000 in
set_option maxRecDepth 100000 in
theorem sf_X7_stop (l : Launch) (D : va_G) (cy : Nat → ClassId) (ntk_ : Nat) (nk_ : Nat) (nkp_ : Nat) (tmany_ : Int32) (cur_ : Int32) (kind_ : Int32) (tstart_ : Int32) (gl_ : Int32) (rtmany_ : rg (0) (901) tmany_) (rcur_ : rg (0) (900) cur_) (db_tmany_ : db tmany_ gl_ (1)) (rgl_ : rg (0) (900) gl_) (db_cur_ : db cur_ gl_ (0)) : Cv l yX7_stop cX7_stop 1 none { frames := 0, cells := 0, slots := 0, locals := 0 } D cy [.ref ntk_] [(ntk_, .inr (7, [.ref nk_, .ref nkp_, .int tmany_, .int cur_, .int kind_, .int tstart_]))] (fun W1 => R_X7_stop_e ∧ W1 = [(ntk_, .inr (7, [.ref nk_, .ref nkp_, .int 0, .int cur_, .int 1, .int tstart_]))]) := by
  refine Cv.of (by decide) (Nat.le_of_ble_eq_true rfl) ?_
  intro p e s m below meth c A ls hX hE hP hD hl hin
  obtain ⟨hx, hb, hr, hml, hown, htA, hlk⟩ := id hX
  have hK := hE.1
  have hS : va_S A s.heap s.heap [] := va_S.rf
  have hl : lv_has ls 1 [(0, .ref ntk_)] := hl
  refine lv_aload_n hx hb dX7_stop_0 rfl (lv_at hl 0 rfl) ?_
  refine lv_iconst (v := 0) hx hb dX7_stop_1 (by decide) ?_
  refine va_put (ci := 7) (v := .int 0) (ty := .int) (C := RX7) (T := TX7) (N := 6) hx hb htA in_X7 tyX7 tyX7_ok nmX7 hown hK hP hD hS 0 rfl rfl 2 (by decide) (htA _ wd_141) (fun _ h => h) rfl (by decide +kernel) rfl rfl (Nat.le_of_ble_eq_true rfl) dX7_stop_2 (fun H locs hP hD hS => ?_)
  have hP : va_P D vwCl [(ntk_, .inr (7, [.ref nk_, .ref nkp_, .int 0, .int cur_, .int kind_, .int tstart_]))] H := hP
  have hD := va_ca hP hD
  refine lv_aload_n hx hb dX7_stop_5 rfl (lv_at hl 0 rfl) ?_
  refine lv_iconst (v := 1) hx hb dX7_stop_6 (by decide) ?_
  refine va_put (ci := 7) (v := .int 1) (ty := .int) (C := RX7) (T := TX7) (N := 6) hx hb htA in_X7 tyX7 tyX7_ok nmX7 hown hK hP hD hS 0 rfl rfl 4 (by decide) (htA _ wd_144) (fun _ h => h) rfl (by decide +kernel) rfl rfl (Nat.le_of_ble_eq_true rfl) dX7_stop_7 (fun H locs hP hD hS => ?_)
  have hP : va_P D vwCl [(ntk_, .inr (7, [.ref nk_, .ref nkp_, .int 0, .int cur_, .int 1, .int tstart_]))] H := hP
  have hD := va_ca hP hD
  exact rV hX hE hP hD hS dX7_stop_10 (by decide) (by decide) ⟨(Or.inl trivial), rfl⟩
def R_X7_isNumber_j1 (kind_ : Int32) (v201500_ : Int32) : Prop := (kind_ < (1000 : Int32) ∧ v201500_ = (0 : Int32)) ∨ (¬ (kind_ < (1000 : Int32)) ∧ v201500_ = (1 : Int32)) ∨ False
def R_X7_isNumber_e (kind_ : Int32) (r : Int32) : Prop := (∃ (v201500_ : Int32), R_X7_isNumber_j1 kind_ v201500_ ∧ r = v201500_) ∨ False
set_option maxHeartbeats 4000000 in
set_option maxRecDepth 100000 in
theorem sf_X7_isNumber (l : Launch) (D : va_G) (cy : Nat → ClassId) (ntk_ : Nat) (nk_ : Nat) (nkp_ : Nat) (tmany_ : Int32) (cur_ : Int32) (kind_ : Int32) (tstart_ : Int32) (rtmany_ : rg (0) (901) tmany_) (rcur_ : rg (0) (900) cur_) : Ci l yX7_isNumber cX7_isNumber 1 (some .boolean) { frames := 0, cells := 0, slots := 0, locals := 0 } D cy [.ref ntk_] [(ntk_, .inr (7, [.ref nk_, .ref nkp_, .int tmany_, .int cur_, .int kind_, .int tstart_]))] (fun r W1 => R_X7_isNumber_e kind_ r ∧ W1 = [(ntk_, .inr (7, [.ref nk_, .ref nkp_, .int tmany_, .int cur_, .int kind_, .int tstart_]))] ∧ rg (0) (1) r) := by
  refine Ci.of (by decide) (Nat.le_of_ble_eq_true rfl) ?_
  intro p e s m below meth c A ls hX hE hP hD hl
  obtain ⟨hx, hb, hr, hml, hown, htA, hlk⟩ := id hX
  have hK := hE.1
  have hS : va_S A s.heap s.heap [] := va_S.rf
  have hl : lv_has ls 1 [(0, .ref ntk_)] := hl
  refine lv_aload_n hx hb dX7_isNumber_0 rfl (lv_at hl 0 rfl) ?_
  refine va_get (ci := 7) (v := .int kind_) (C := RX7) (T := TX7) (N := 6) hx hb htA in_X7 hown hK hP 0 rfl rfl 4 (by decide) (htA _ wd_144) (fun _ h => h) rfl dX7_isNumber_1 ?_
  refine lv_sipush (v := 1000) hx hb dX7_isNumber_4 (by decide) ?_
  refine joinT (D := D) (A := A) (pc := 15) (mL := 1) (τ := Int32) (WS := fun i => [(ntk_, .inr (7, [.ref nk_, .ref nkp_, .int tmany_, .int cur_, .int kind_, .int tstart_]))]) (LV := fun i => [(0, .ref ntk_)]) (ST := fun i => [.int i]) (cells := 0) (slots := 0) (fun i => rg (0) (1) i ∧ R_X7_isNumber_j1 kind_ i) (fun v201500_ H locs ls hI hP hD hS hl => ?_) (fun j15_ => ?_)
  · have hI : rg (0) (1) v201500_ ∧ R_X7_isNumber_j1 kind_ v201500_ := hI
    obtain ⟨rv201500_, hR1_⟩ := hI
    have hP : va_P D vwCl [(ntk_, .inr (7, [.ref nk_, .ref nkp_, .int tmany_, .int cur_, .int kind_, .int tstart_]))] H := hP
    have hD := va_ca hP hD
    have hl : lv_has ls 1 [(0, .ref ntk_)] := hl
    exact rZ hX (nz_of rv201500_) hE hP hD hS dX7_isNumber_15 (by decide) (by decide) ⟨(Or.inl ⟨v201500_, hR1_, rfl⟩), rfl, (rg_w rv201500_ (by decide) (by decide))⟩
  refine lv_icmp_lt (tgt := 14) hx hb dX7_isNumber_7 (by decide) (fun c7_ => ?_) (fun c7_ => ?_)
  · have g1_ : rg (-2147483648) (999) kind_ := rg_lt1 c7_ (rg_any _) (rg_lit (by decide) : rg (1000) (1000) (1000 : Int32)) (by decide)
    refine lv_iconst (v := 0) hx hb dX7_isNumber_14 (by decide) ?_
    exact j15_ 0 _ _ ls ⟨(rg_w (rg_lit (by decide) : rg (0) (0) (0 : Int32)) (by decide) (by decide)), (Or.inl ⟨c7_, rfl⟩)⟩ hP hD hS (lv_sub hl [0] rfl)
  · have g2_ : rg (1000) (2147483647) kind_ := rg_le2 (rg_nlt c7_) (rg_lit (by decide) : rg (1000) (1000) (1000 : Int32)) (rg_any _) (by decide)
    refine lv_iconst (v := 1) hx hb dX7_isNumber_10 (by decide) ?_
    refine lv_goto (tgt := 15) hx hb dX7_isNumber_11 (by decide) ?_
    exact j15_ 1 _ _ ls ⟨(rg_w (rg_lit (by decide) : rg (1) (1) (1 : Int32)) (by decide) (by decide)), (Or.inr (Or.inl ⟨c7_, rfl⟩))⟩ hP hD hS (lv_sub hl [0] rfl)
def R_X7_isNumber_no_e (kind_ : Int32) (r : Int32) : Prop := (kind_ < (1000 : Int32) ∧ r = (0 : Int32)) ∨ False
set_option maxHeartbeats 4000000 in
set_option maxRecDepth 100000 in
theorem sf_X7_isNumber_no (l : Launch) (D : va_G) (cy : Nat → ClassId) (ntk_ : Nat) (nk_ : Nat) (nkp_ : Nat) (tmany_ : Int32) (cur_ : Int32) (kind_ : Int32) (tstart_ : Int32) (rtmany_ : rg (0) (901) tmany_) (rcur_ : rg (0) (900) cur_) (rkind_ : rg (-2147483648) (999) kind_) : Ci l yX7_isNumber cX7_isNumber 1 (some .boolean) { frames := 0, cells := 0, slots := 0, locals := 0 } D cy [.ref ntk_] [(ntk_, .inr (7, [.ref nk_, .ref nkp_, .int tmany_, .int cur_, .int kind_, .int tstart_]))] (fun r W1 => R_X7_isNumber_no_e kind_ r ∧ W1 = [(ntk_, .inr (7, [.ref nk_, .ref nkp_, .int tmany_, .int cur_, .int kind_, .int tstart_]))] ∧ rg (0) (0) r) := by
  refine Ci.of (by decide) (Nat.le_of_ble_eq_true rfl) ?_
  intro p e s m below meth c A ls hX hE hP hD hl
  obtain ⟨hx, hb, hr, hml, hown, htA, hlk⟩ := id hX
  have hK := hE.1
  have hS : va_S A s.heap s.heap [] := va_S.rf
  have hl : lv_has ls 1 [(0, .ref ntk_)] := hl
  refine lv_aload_n hx hb dX7_isNumber_0 rfl (lv_at hl 0 rfl) ?_
  refine va_get (ci := 7) (v := .int kind_) (C := RX7) (T := TX7) (N := 6) hx hb htA in_X7 hown hK hP 0 rfl rfl 4 (by decide) (htA _ wd_144) (fun _ h => h) rfl dX7_isNumber_1 ?_
  refine lv_sipush (v := 1000) hx hb dX7_isNumber_4 (by decide) ?_
  refine lv_icmp_lt (tgt := 14) hx hb dX7_isNumber_7 (by decide) (fun c7_ => ?_) (fun c7_ => rg_no (rg_le1 (rg_nlt c7_) (rg_lit (by decide) : rg (1000) (1000) (1000 : Int32)) rkind_ (Int.le_refl _)) (by decide))
  refine lv_iconst (v := 0) hx hb dX7_isNumber_14 (by decide) ?_
  exact rZ hX (by decide) hE hP hD hS dX7_isNumber_15 (by decide) (by decide) ⟨(Or.inl ⟨c7_, rfl⟩), rfl, (rg_w (rg_lit (by decide) : rg (0) (0) (0 : Int32)) (by decide) (by decide))⟩
def R_X7_advance_j1 (tmany_ : Int32) (cur_ : Int32) (kind_ : Int32) (tstart_ : Int32) (fk_ : Nat → Int32) (fkp_ : Nat → Int32) (v204900_ : Int32) (v204901_ : Int32) (v204902_ : Int32) : Prop := (tmany_ ≤ (cur_ + 1) ∧ v204900_ = cur_ ∧ v204901_ = kind_ ∧ v204902_ = tstart_) ∨ (∃ (v10320_ : Int32) (v10450_ : Int32), ¬ (tmany_ ≤ (cur_ + 1)) ∧ v10320_ = fk_ (cur_ + 1).toNatClampNeg ∧ v10450_ = fkp_ (cur_ + 1).toNatClampNeg ∧ v204900_ = cur_ + 1 ∧ v204901_ = v10320_ ∧ v204902_ = v10450_) ∨ False
def R_X7_advance_e (tmany_ : Int32) (cur_ : Int32) (kind_ : Int32) (tstart_ : Int32) (fk_ : Nat → Int32) (fkp_ : Nat → Int32) (x0_ : Int32) (x1_ : Int32) (x2_ : Int32) : Prop := (∃ (v204900_ : Int32) (v204901_ : Int32) (v204902_ : Int32), R_X7_advance_j1 tmany_ cur_ kind_ tstart_ fk_ fkp_ v204900_ v204901_ v204902_ ∧ x0_ = v204900_ ∧ x1_ = v204901_ ∧ x2_ = v204902_) ∨ False
set_option maxHeartbeats 4000000 in
set_option maxRecDepth 100000 in
theorem sf_X7_advance (l : Launch) (D : va_G) (cy : Nat → ClassId) (ntk_ : Nat) (nk_ : Nat) (nkp_ : Nat) (tmany_ : Int32) (cur_ : Int32) (kind_ : Int32) (tstart_ : Int32) (fk_ : Nat → Int32) (fkp_ : Nat → Int32) (gl_ : Int32) (rtmany_ : rg (0) (901) tmany_) (rcur_ : rg (0) (900) cur_) (db_tmany_ : db tmany_ gl_ (1)) (rgl_ : rg (0) (900) gl_) (db_cur_ : db cur_ gl_ (0)) : Cv l yX7_advance cX7_advance 1 none { frames := 0, cells := 0, slots := 0, locals := 0 } D cy [.ref ntk_] [(ntk_, .inr (7, [.ref nk_, .ref nkp_, .int tmany_, .int cur_, .int kind_, .int tstart_])), (nk_, .inl (cy 0, 901, .inl (fk_))), (nkp_, .inl (cy 0, 901, .inl (fkp_)))] (fun W1 => ∃ (x0_ : Int32) (x1_ : Int32) (x2_ : Int32), rg (0) (900) x0_ ∧ db x0_ gl_ (0) ∧ mo cur_ (0) x0_ ∧ R_X7_advance_e tmany_ cur_ kind_ tstart_ fk_ fkp_ x0_ x1_ x2_ ∧ W1 = [(ntk_, .inr (7, [.ref nk_, .ref nkp_, .int tmany_, .int x0_, .int x1_, .int x2_])), (nk_, .inl (cy 0, 901, .inl (fk_))), (nkp_, .inl (cy 0, 901, .inl (fkp_)))]) := by
  refine Cv.of (by decide) (Nat.le_of_ble_eq_true rfl) ?_
  intro p e s m below meth c A ls hX hE hP hD hl hin
  obtain ⟨hx, hb, hr, hml, hown, htA, hlk⟩ := id hX
  have hK := hE.1
  have hS : va_S A s.heap s.heap [] := va_S.rf
  have hl : lv_has ls 1 [(0, .ref ntk_)] := hl
  refine lv_aload_n hx hb dX7_advance_0 rfl (lv_at hl 0 rfl) ?_
  refine va_get (ci := 7) (v := .int cur_) (C := RX7) (T := TX7) (N := 6) hx hb htA in_X7 hown hK hP 0 rfl rfl 3 (by decide) (htA _ wd_142) (fun _ h => h) rfl dX7_advance_1 ?_
  refine lv_iconst (v := 1) hx hb dX7_advance_4 (by decide) ?_
  refine lv_iadd hx hb dX7_advance_5 ?_
  have g1_ : rg (1) (901) (cur_ + 1) := rg_add rcur_ (rg_lit (by decide) : rg (1) (1) (1 : Int32)) (by decide) (by decide) (by decide) (by decide)
  refine lv_aload_n hx hb dX7_advance_6 rfl (lv_at hl 0 rfl) ?_
  refine va_get (ci := 7) (v := .int tmany_) (C := RX7) (T := TX7) (N := 6) hx hb htA in_X7 hown hK hP 0 rfl rfl 2 (by decide) (htA _ wd_141) (fun _ h => h) rfl dX7_advance_7 ?_
  refine joinT (D := D) (A := A) (pc := 49) (mL := 1) (τ := Int32 × Int32 × Int32) (WS := fun i => [(ntk_, .inr (7, [.ref nk_, .ref nkp_, .int tmany_, .int i.1, .int i.2.1, .int i.2.2])), (nk_, .inl (cy 0, 901, .inl (fk_))), (nkp_, .inl (cy 0, 901, .inl (fkp_)))]) (LV := fun i => [(0, .ref ntk_)]) (ST := fun i => []) (cells := 0) (slots := 0) (fun i => rg (0) (900) i.1 ∧ mo cur_ (0) i.1 ∧ R_X7_advance_j1 tmany_ cur_ kind_ tstart_ fk_ fkp_ i.1 i.2.1 i.2.2 ∧ db i.1 gl_ (0)) (fun i_ H locs ls hI hP hD hS hl => ?_) (fun j49_ => ?_)
  · obtain ⟨v204900_, v204901_, v204902_⟩ := i_
    have hI : rg (0) (900) v204900_ ∧ mo cur_ (0) v204900_ ∧ R_X7_advance_j1 tmany_ cur_ kind_ tstart_ fk_ fkp_ v204900_ v204901_ v204902_ ∧ db v204900_ gl_ (0) := hI
    obtain ⟨rv204900_, mv204900_, hR1_, hb49_1_⟩ := hI
    have hP : va_P D vwCl [(ntk_, .inr (7, [.ref nk_, .ref nkp_, .int tmany_, .int v204900_, .int v204901_, .int v204902_])), (nk_, .inl (cy 0, 901, .inl (fk_))), (nkp_, .inl (cy 0, 901, .inl (fkp_)))] H := hP
    have hD := va_ca hP hD
    have hl : lv_has ls 1 [(0, .ref ntk_)] := hl
    exact rV hX hE hP hD hS dX7_advance_49 (by decide) (by decide) ⟨v204900_, v204901_, v204902_, (rg_w rv204900_ (by decide) (by decide)), (db_w hb49_1_ (by decide)), (mo_w mv204900_ (by decide)), (Or.inl ⟨v204900_, v204901_, v204902_, hR1_, rfl, rfl, rfl⟩), rfl⟩
  refine lv_icmp_ge (tgt := 49) hx hb dX7_advance_10 (by decide) (fun c10_ => ?_) (fun c10_ => ?_)
  · exact j49_ (cur_, kind_, tstart_) _ _ ls ⟨(rg_w rcur_ (by decide) (by decide)), (mo_w (mo_rf _) (by decide)), (Or.inl ⟨c10_, rfl, rfl, rfl⟩), (db_w db_cur_ (by decide))⟩ hP hD hS (lv_sub hl [0] rfl)
  · have g2_ : rg (1) (900) (cur_ + 1) := rg_lt1 (rg_nle c10_) g1_ rtmany_ (by decide)
    have g3_ : rg (2) (901) tmany_ := rg_lt2 (rg_nle c10_) g1_ rtmany_ (by decide)
    refine lv_aload_n hx hb dX7_advance_13 rfl (lv_at hl 0 rfl) ?_
    refine lv_dup hx hb dX7_advance_14 rfl ?_
    refine va_get (ci := 7) (v := .int cur_) (C := RX7) (T := TX7) (N := 6) hx hb htA in_X7 hown hK hP 0 rfl rfl 3 (by decide) (htA _ wd_142) (fun _ h => h) rfl dX7_advance_15 ?_
    refine lv_iconst (v := 1) hx hb dX7_advance_18 (by decide) ?_
    refine lv_iadd hx hb dX7_advance_19 ?_
    refine va_put (ci := 7) (v := .int (cur_ + 1)) (ty := .int) (C := RX7) (T := TX7) (N := 6) hx hb htA in_X7 tyX7 tyX7_ok nmX7 hown hK hP hD hS 0 rfl rfl 3 (by decide) (htA _ wd_142) (fun _ h => h) rfl (by decide +kernel) rfl rfl (Nat.le_of_ble_eq_true rfl) dX7_advance_20 (fun H locs hP hD hS => ?_)
    have hP : va_P D vwCl [(ntk_, .inr (7, [.ref nk_, .ref nkp_, .int tmany_, .int (cur_ + 1), .int kind_, .int tstart_])), (nk_, .inl (cy 0, 901, .inl (fk_))), (nkp_, .inl (cy 0, 901, .inl (fkp_)))] H := hP
    have hD := va_ca hP hD
    refine lv_aload_n hx hb dX7_advance_23 rfl (lv_at hl 0 rfl) ?_
    refine lv_aload_n hx hb dX7_advance_24 rfl (lv_at hl 0 rfl) ?_
    refine va_get (ci := 7) (v := .ref nk_) (C := RX7) (T := TX7) (N := 6) hx hb htA in_X7 hown hK hP 0 rfl rfl 0 (by decide) (htA _ wd_139) (fun _ h => h) rfl dX7_advance_25 ?_
    refine lv_aload_n hx hb dX7_advance_28 rfl (lv_at hl 0 rfl) ?_
    refine va_get (ci := 7) (v := .int (cur_ + 1)) (C := RX7) (T := TX7) (N := 6) hx hb htA in_X7 hown hK hP 0 rfl rfl 3 (by decide) (htA _ wd_142) (fun _ h => h) rfl dX7_advance_29 ?_
    refine va_iald hx hb hK hP 1 0 rfl rfl (rg_in g2_ (by decide) (by decide)) dX7_advance_32 ?_
    refine lv_topi (fun v10320_ ev10320_ => ?_)
    refine va_put (ci := 7) (v := .int v10320_) (ty := .int) (C := RX7) (T := TX7) (N := 6) hx hb htA in_X7 tyX7 tyX7_ok nmX7 hown hK hP hD hS 0 rfl rfl 4 (by decide) (htA _ wd_144) (fun _ h => h) rfl (by decide +kernel) rfl rfl (Nat.le_of_ble_eq_true rfl) dX7_advance_33 (fun H locs hP hD hS => ?_)
    have hP : va_P D vwCl [(ntk_, .inr (7, [.ref nk_, .ref nkp_, .int tmany_, .int (cur_ + 1), .int v10320_, .int tstart_])), (nk_, .inl (cy 0, 901, .inl (fk_))), (nkp_, .inl (cy 0, 901, .inl (fkp_)))] H := hP
    have hD := va_ca hP hD
    refine lv_aload_n hx hb dX7_advance_36 rfl (lv_at hl 0 rfl) ?_
    refine lv_aload_n hx hb dX7_advance_37 rfl (lv_at hl 0 rfl) ?_
    refine va_get (ci := 7) (v := .ref nkp_) (C := RX7) (T := TX7) (N := 6) hx hb htA in_X7 hown hK hP 0 rfl rfl 1 (by decide) (htA _ wd_140) (fun _ h => h) rfl dX7_advance_38 ?_
    refine lv_aload_n hx hb dX7_advance_41 rfl (lv_at hl 0 rfl) ?_
    refine va_get (ci := 7) (v := .int (cur_ + 1)) (C := RX7) (T := TX7) (N := 6) hx hb htA in_X7 hown hK hP 0 rfl rfl 3 (by decide) (htA _ wd_142) (fun _ h => h) rfl dX7_advance_42 ?_
    refine va_iald hx hb hK hP 2 0 rfl rfl (rg_in g2_ (by decide) (by decide)) dX7_advance_45 ?_
    refine lv_topi (fun v10450_ ev10450_ => ?_)
    refine va_put (ci := 7) (v := .int v10450_) (ty := .int) (C := RX7) (T := TX7) (N := 6) hx hb htA in_X7 tyX7 tyX7_ok nmX7 hown hK hP hD hS 0 rfl rfl 5 (by decide) (htA _ wd_145) (fun _ h => h) rfl (by decide +kernel) rfl rfl (Nat.le_of_ble_eq_true rfl) dX7_advance_46 (fun H locs hP hD hS => ?_)
    have hP : va_P D vwCl [(ntk_, .inr (7, [.ref nk_, .ref nkp_, .int tmany_, .int (cur_ + 1), .int v10320_, .int v10450_])), (nk_, .inl (cy 0, 901, .inl (fk_))), (nkp_, .inl (cy 0, 901, .inl (fkp_)))] H := hP
    have hD := va_ca hP hD
    exact j49_ (cur_ + 1, v10320_, v10450_) _ _ ls ⟨(rg_w g2_ (by decide) (by decide)), (mo_w (mo_add (mo_rf _) rcur_ (by decide : (1 : Int32).toInt = 1) (by decide) (by decide)) (by decide)), (Or.inr (Or.inl ⟨v10320_, v10450_, c10_, ev10320_, ev10450_, rfl, rfl, rfl⟩)), (db_w (db_lt (rg_nle c10_) db_tmany_) (by decide))⟩ hP hD hS (lv_sub hl [0] rfl)
def R_X7_advance_s_e1 (tmany_ : Int32) (cur_ : Int32) : Prop := (tmany_ ≤ (cur_ + 1)) ∨ False
def R_X7_advance_s_e2 (tmany_ : Int32) (cur_ : Int32) (fk_ : Nat → Int32) (fkp_ : Nat → Int32) (x0_ : Int32) (x1_ : Int32) (x2_ : Int32) : Prop := (∃ (v20010320_ : Int32) (v20010450_ : Int32), ¬ (tmany_ ≤ (cur_ + 1)) ∧ v20010320_ = fk_ (cur_ + 1).toNatClampNeg ∧ v20010450_ = fkp_ (cur_ + 1).toNatClampNeg ∧ x0_ = cur_ + 1 ∧ x1_ = v20010320_ ∧ x2_ = v20010450_) ∨ False
set_option maxHeartbeats 4000000 in
set_option maxRecDepth 100000 in
theorem sf_X7_advance_s (l : Launch) (D : va_G) (cy : Nat → ClassId) (ntk_ : Nat) (nk_ : Nat) (nkp_ : Nat) (tmany_ : Int32) (cur_ : Int32) (kind_ : Int32) (tstart_ : Int32) (fk_ : Nat → Int32) (fkp_ : Nat → Int32) (gl_ : Int32) (rtmany_ : rg (0) (901) tmany_) (rcur_ : rg (0) (900) cur_) (db_tmany_ : db tmany_ gl_ (1)) (rgl_ : rg (0) (900) gl_) (db_cur_ : db cur_ gl_ (0)) : Cv l yX7_advance cX7_advance 1 none { frames := 0, cells := 0, slots := 0, locals := 0 } D cy [.ref ntk_] [(ntk_, .inr (7, [.ref nk_, .ref nkp_, .int tmany_, .int cur_, .int kind_, .int tstart_])), (nk_, .inl (cy 0, 901, .inl (fk_))), (nkp_, .inl (cy 0, 901, .inl (fkp_)))] (fun W1 => (R_X7_advance_s_e1 tmany_ cur_ ∧ W1 = [(ntk_, .inr (7, [.ref nk_, .ref nkp_, .int tmany_, .int cur_, .int kind_, .int tstart_])), (nk_, .inl (cy 0, 901, .inl (fk_))), (nkp_, .inl (cy 0, 901, .inl (fkp_)))]) ∨ (∃ (x0_ : Int32) (x1_ : Int32) (x2_ : Int32), rg (1) (900) x0_ ∧ db x0_ gl_ (0) ∧ mo cur_ (1) x0_ ∧ rg (2) (901) tmany_ ∧ R_X7_advance_s_e2 tmany_ cur_ fk_ fkp_ x0_ x1_ x2_ ∧ W1 = [(ntk_, .inr (7, [.ref nk_, .ref nkp_, .int tmany_, .int x0_, .int x1_, .int x2_])), (nk_, .inl (cy 0, 901, .inl (fk_))), (nkp_, .inl (cy 0, 901, .inl (fkp_)))])) := by
  refine Cv.of (by decide) (Nat.le_of_ble_eq_true rfl) ?_
  intro p e s m below meth c A ls hX hE hP hD hl hin
  obtain ⟨hx, hb, hr, hml, hown, htA, hlk⟩ := id hX
  have hK := hE.1
  have hS : va_S A s.heap s.heap [] := va_S.rf
  have hl : lv_has ls 1 [(0, .ref ntk_)] := hl
  refine lv_aload_n hx hb dX7_advance_0 rfl (lv_at hl 0 rfl) ?_
  refine va_get (ci := 7) (v := .int cur_) (C := RX7) (T := TX7) (N := 6) hx hb htA in_X7 hown hK hP 0 rfl rfl 3 (by decide) (htA _ wd_142) (fun _ h => h) rfl dX7_advance_1 ?_
  refine lv_iconst (v := 1) hx hb dX7_advance_4 (by decide) ?_
  refine lv_iadd hx hb dX7_advance_5 ?_
  have g1_ : rg (1) (901) (cur_ + 1) := rg_add rcur_ (rg_lit (by decide) : rg (1) (1) (1 : Int32)) (by decide) (by decide) (by decide) (by decide)
  refine lv_aload_n hx hb dX7_advance_6 rfl (lv_at hl 0 rfl) ?_
  refine va_get (ci := 7) (v := .int tmany_) (C := RX7) (T := TX7) (N := 6) hx hb htA in_X7 hown hK hP 0 rfl rfl 2 (by decide) (htA _ wd_141) (fun _ h => h) rfl dX7_advance_7 ?_
  refine lv_icmp_ge (tgt := 49) hx hb dX7_advance_10 (by decide) (fun c10_ => ?_) (fun c10_ => ?_)
  · exact rV hX hE hP hD hS dX7_advance_49 (by decide) (by decide) (Or.inl (⟨(Or.inl c10_), rfl⟩))
  · have g2_ : rg (1) (900) (cur_ + 1) := rg_lt1 (rg_nle c10_) g1_ rtmany_ (by decide)
    have g3_ : rg (2) (901) tmany_ := rg_lt2 (rg_nle c10_) g1_ rtmany_ (by decide)
    refine lv_aload_n hx hb dX7_advance_13 rfl (lv_at hl 0 rfl) ?_
    refine lv_dup hx hb dX7_advance_14 rfl ?_
    refine va_get (ci := 7) (v := .int cur_) (C := RX7) (T := TX7) (N := 6) hx hb htA in_X7 hown hK hP 0 rfl rfl 3 (by decide) (htA _ wd_142) (fun _ h => h) rfl dX7_advance_15 ?_
    refine lv_iconst (v := 1) hx hb dX7_advance_18 (by decide) ?_
    refine lv_iadd hx hb dX7_advance_19 ?_
    refine va_put (ci := 7) (v := .int (cur_ + 1)) (ty := .int) (C := RX7) (T := TX7) (N := 6) hx hb htA in_X7 tyX7 tyX7_ok nmX7 hown hK hP hD hS 0 rfl rfl 3 (by decide) (htA _ wd_142) (fun _ h => h) rfl (by decide +kernel) rfl rfl (Nat.le_of_ble_eq_true rfl) dX7_advance_20 (fun H locs hP hD hS => ?_)
    have hP : va_P D vwCl [(ntk_, .inr (7, [.ref nk_, .ref nkp_, .int tmany_, .int (cur_ + 1), .int kind_, .int tstart_])), (nk_, .inl (cy 0, 901, .inl (fk_))), (nkp_, .inl (cy 0, 901, .inl (fkp_)))] H := hP
    have hD := va_ca hP hD
    refine lv_aload_n hx hb dX7_advance_23 rfl (lv_at hl 0 rfl) ?_
    refine lv_aload_n hx hb dX7_advance_24 rfl (lv_at hl 0 rfl) ?_
    refine va_get (ci := 7) (v := .ref nk_) (C := RX7) (T := TX7) (N := 6) hx hb htA in_X7 hown hK hP 0 rfl rfl 0 (by decide) (htA _ wd_139) (fun _ h => h) rfl dX7_advance_25 ?_
    refine lv_aload_n hx hb dX7_advance_28 rfl (lv_at hl 0 rfl) ?_
    refine va_get (ci := 7) (v := .int (cur_ + 1)) (C := RX7) (T := TX7) (N := 6) hx hb htA in_X7 hown hK hP 0 rfl rfl 3 (by decide) (htA _ wd_142) (fun _ h => h) rfl dX7_advance_29 ?_
    refine va_iald hx hb hK hP 1 0 rfl rfl (rg_in g2_ (by decide) (by decide)) dX7_advance_32 ?_
    refine lv_topi (fun v20010320_ ev20010320_ => ?_)
    refine va_put (ci := 7) (v := .int v20010320_) (ty := .int) (C := RX7) (T := TX7) (N := 6) hx hb htA in_X7 tyX7 tyX7_ok nmX7 hown hK hP hD hS 0 rfl rfl 4 (by decide) (htA _ wd_144) (fun _ h => h) rfl (by decide +kernel) rfl rfl (Nat.le_of_ble_eq_true rfl) dX7_advance_33 (fun H locs hP hD hS => ?_)
    have hP : va_P D vwCl [(ntk_, .inr (7, [.ref nk_, .ref nkp_, .int tmany_, .int (cur_ + 1), .int v20010320_, .int tstart_])), (nk_, .inl (cy 0, 901, .inl (fk_))), (nkp_, .inl (cy 0, 901, .inl (fkp_)))] H := hP
    have hD := va_ca hP hD
    refine lv_aload_n hx hb dX7_advance_36 rfl (lv_at hl 0 rfl) ?_
    refine lv_aload_n hx hb dX7_advance_37 rfl (lv_at hl 0 rfl) ?_
    refine va_get (ci := 7) (v := .ref nkp_) (C := RX7) (T := TX7) (N := 6) hx hb htA in_X7 hown hK hP 0 rfl rfl 1 (by decide) (htA _ wd_140) (fun _ h => h) rfl dX7_advance_38 ?_
    refine lv_aload_n hx hb dX7_advance_41 rfl (lv_at hl 0 rfl) ?_
    refine va_get (ci := 7) (v := .int (cur_ + 1)) (C := RX7) (T := TX7) (N := 6) hx hb htA in_X7 hown hK hP 0 rfl rfl 3 (by decide) (htA _ wd_142) (fun _ h => h) rfl dX7_advance_42 ?_
    refine va_iald hx hb hK hP 2 0 rfl rfl (rg_in g2_ (by decide) (by decide)) dX7_advance_45 ?_
    refine lv_topi (fun v20010450_ ev20010450_ => ?_)
    refine va_put (ci := 7) (v := .int v20010450_) (ty := .int) (C := RX7) (T := TX7) (N := 6) hx hb htA in_X7 tyX7 tyX7_ok nmX7 hown hK hP hD hS 0 rfl rfl 5 (by decide) (htA _ wd_145) (fun _ h => h) rfl (by decide +kernel) rfl rfl (Nat.le_of_ble_eq_true rfl) dX7_advance_46 (fun H locs hP hD hS => ?_)
    have hP : va_P D vwCl [(ntk_, .inr (7, [.ref nk_, .ref nkp_, .int tmany_, .int (cur_ + 1), .int v20010320_, .int v20010450_])), (nk_, .inl (cy 0, 901, .inl (fk_))), (nkp_, .inl (cy 0, 901, .inl (fkp_)))] H := hP
    have hD := va_ca hP hD
    exact rV hX hE hP hD hS dX7_advance_49 (by decide) (by decide) (Or.inr (⟨(cur_ + 1), v20010320_, v20010450_, (rg_w g2_ (by decide) (by decide)), (db_w (db_lt (rg_nle c10_) db_tmany_) (by decide)), (mo_w (mo_add (mo_rf _) rcur_ (by decide : (1 : Int32).toInt = 1) (by decide) (by decide)) (by decide)), (rg_w g3_ (by decide) (by decide)), (Or.inl ⟨v20010320_, v20010450_, c10_, ev20010320_, ev20010450_, rfl, rfl, rfl⟩), rfl⟩))
