theorem st_shr0 {N : Nat} (hN : N ≤ 900) : Int32.ofNat N >>> ((0 : Int32) &&& 31) = Int32.ofNat N := by
  rw [show ((0 : Int32) &&& 31) = 0 from by decide]
  apply Int32.toBitVec_inj.mp
  simp
theorem st_i2c {x : Int32} (h : rg 0 255 x) : (x.toUInt32 % 65536).toInt32 = x := by
  obtain ⟨j, hj, rfl⟩ := vp_in_of (vp_in_iff.mpr ⟨h.1, by have h2 := h.2; omega⟩ : vp_in x 256) (by decide)
  clear h
  have h3 : ∀ k : Fin 256, ((nI k.val).toUInt32 % 65536).toInt32 = nI k.val := by decide +kernel
  exact h3 ⟨j, hj⟩
theorem st_narc {x : Int32} (h : rg 0 255 x) : narrow .char (.int x) = .int x := by
  obtain ⟨j, hj, rfl⟩ := vp_in_of (vp_in_iff.mpr ⟨h.1, by have h2 := h.2; omega⟩ : vp_in x 256) (by decide)
  clear h
  have h3 : ∀ k : Fin 256, narrow .char (.int (nI k.val)) = .int (nI k.val) := by decide +kernel
  exact h3 ⟨j, hj⟩
theorem ix_of {N : Nat} {f : Nat → Int32} {x i n x2 x3 r : Int32} (hN : N ≤ 900) (q1 : i = 0) (q2 : n = Int32.ofNat N) (e2 : x2 = (if i < 0 then 0 else i)) (e3 : x3 = (if Int32.ofNat N < n then Int32.ofNat N else n)) (h : (r = -1 ∧ ∀ j : Nat, x2.toInt ≤ j → j < x3.toInt → f j ≠ x.toInt8.toInt32) ∨ (0 ≤ r.toInt ∧ r.toInt < x3.toInt ∧ f r.toNatClampNeg = x.toInt8.toInt32)) : ixP N f x r := by
  have h2 : x2.toInt = 0 := by subst q1; subst e2; decide
  have h3 : x3.toInt = N := by subst q2; subst e3; have hn : ¬ (Int32.ofNat N < Int32.ofNat N) := (fun h => by rw [fa_lt] at h; omega); rw [if_neg hn]; exact Int32.toInt_ofNat_of_lt (by omega)
  rcases h with ⟨ha, hb⟩ | ⟨ha, hb, hc⟩
  · exact Or.inl ⟨ha, fun _ j hj => hb j (by omega) (by omega)⟩
  · exact Or.inr ⟨ha, by omega, hc⟩
theorem ix_no {N : Nat} {f : Nat → Int32} {x i n x2 x3 : Int32} (hN : N ≤ 900) (q1 : i = 0) (q2 : n = Int32.ofNat N) (e2 : x2 = (if i < 0 then 0 else i)) (e3 : x3 = (if Int32.ofNat N < n then Int32.ofNat N else n)) (h : ¬ x2 < x3) : ixP N f x (-1) := by
  have h2 : x2.toInt = 0 := by subst q1; subst e2; decide
  have h3 : x3.toInt = N := by subst q2; subst e3; have hn : ¬ (Int32.ofNat N < Int32.ofNat N) := (fun h => by rw [fa_lt] at h; omega); rw [if_neg hn]; exact Int32.toInt_ofNat_of_lt (by omega)
  rw [fa_lt] at h
  exact Or.inl ⟨rfl, fun _ j hj => by omega⟩
set_option maxHeartbeats 4000000 in
set_option maxRecDepth 100000 in
theorem st_coder (l : Launch) (D : va_G) (cy : Nat → ClassId) (N : Nat) (F : Nat → Int32) (a : Nat) : Gi l yJ0_coder_7d493 cJ0_coder_7d493 1 (some .byte) { frames := 0, cells := 0, slots := 0, locals := 0 } D cy [.ref a] [] (xTs N F a) (fun r W1 => W1 = [] ∧ r = 0) := by
  refine Gi.ofF (by decide +kernel) (Nat.le_of_ble_eq_true rfl) ?_
  intro p e s m below meth c A ls hX hE hP hD hl hg
  obtain ⟨hx, hb, hr, hml, hown, htA, hlk⟩ := id hX
  have hK := hE.1
  have hS : va_S A s.heap s.heap [] := va_S.rf
  have hl : lv_has ls 1 [(0, .ref a)] := hl
  obtain ⟨v, hO, hC, hV, hT⟩ := id hg
  refine va_gets hx hb hE.2.2.1.2.2.1 hS hown (htA _ wd_631) (fun _ h => h) dJ0_coder_7d493_0 ?_
  refine lv_if_eq (tgt := 13) hx hb dJ0_coder_7d493_3 (by decide) (fun q => absurd q (by decide)) (fun _ => ?_)
  refine lv_aload_n hx hb dJ0_coder_7d493_6 rfl (lv_at hl 0 rfl) ?_
  refine vk_getf hx hb hC hS hown (htA _ wd_2088) (fun _ h => h) dJ0_coder_7d493_7 ?_
  refine lv_goto (tgt := 14) hx hb dJ0_coder_7d493_10 (by decide) ?_
  exact rB hX (by decide) hE hP hD hS dJ0_coder_7d493_14 (by decide) (by decide) ⟨rfl, rfl⟩
set_option maxHeartbeats 4000000 in
set_option maxRecDepth 100000 in
theorem st_isLatin1 (l : Launch) (D : va_G) (cy : Nat → ClassId) (N : Nat) (F : Nat → Int32) (a : Nat) : Gi l yJ0_isLatin1_aae02 cJ0_isLatin1_aae02 1 (some .boolean) { frames := 0, cells := 0, slots := 0, locals := 0 } D cy [.ref a] [] (xTs N F a) (fun r W1 => W1 = [] ∧ r = 1) := by
  refine Gi.ofF (by decide +kernel) (Nat.le_of_ble_eq_true rfl) ?_
  intro p e s m below meth c A ls hX hE hP hD hl hg
  obtain ⟨hx, hb, hr, hml, hown, htA, hlk⟩ := id hX
  have hK := hE.1
  have hS : va_S A s.heap s.heap [] := va_S.rf
  have hl : lv_has ls 1 [(0, .ref a)] := hl
  obtain ⟨v, hO, hC, hV, hT⟩ := id hg
  refine va_gets hx hb hE.2.2.1.2.2.1 hS hown (htA _ wd_631) (fun _ h => h) dJ0_isLatin1_aae02_0 ?_
  refine lv_if_eq (tgt := 17) hx hb dJ0_isLatin1_aae02_3 (by decide) (fun q => absurd q (by decide)) (fun _ => ?_)
  refine lv_aload_n hx hb dJ0_isLatin1_aae02_6 rfl (lv_at hl 0 rfl) ?_
  refine vk_getf hx hb hC hS hown (htA _ wd_2088) (fun _ h => h) dJ0_isLatin1_aae02_7 ?_
  refine lv_if_ne (tgt := 17) hx hb dJ0_isLatin1_aae02_10 (by decide) (fun q => absurd rfl q) (fun _ => ?_)
  refine lv_iconst (v := 1) hx hb dJ0_isLatin1_aae02_13 (by decide) ?_
  refine lv_goto (tgt := 18) hx hb dJ0_isLatin1_aae02_14 (by decide) ?_
  exact rB hX (by decide) hE hP hD hS dJ0_isLatin1_aae02_18 (by decide) (by decide) ⟨rfl, rfl⟩
set_option maxHeartbeats 4000000 in
set_option maxRecDepth 100000 in
theorem st_length (l : Launch) (D : va_G) (cy : Nat → ClassId) (N : Nat) (F : Nat → Int32) (a : Nat) (hN : N ≤ 900) : Gi l yJ0_length_8abf5 cJ0_length_8abf5 1 (some .int) { frames := 1, cells := 0, slots := 0, locals := 40 } D cy [.ref a] [] (xTs N F a) (fun r W1 => W1 = [] ∧ r = Int32.ofNat N) := by
  refine Gi.ofF (by decide +kernel) (Nat.le_of_ble_eq_true rfl) ?_
  intro p e s m below meth c A ls hX hE hP hD hl hg
  obtain ⟨hx, hb, hr, hml, hown, htA, hlk⟩ := id hX
  have hK := hE.1
  have hS : va_S A s.heap s.heap [] := va_S.rf
  have hl : lv_has ls 1 [(0, .ref a)] := hl
  obtain ⟨v, hO, hC, hV, hT⟩ := id hg
  refine lv_aload_n hx hb dJ0_length_8abf5_0 rfl (lv_at hl 0 rfl) ?_
  refine vk_getf hx hb hV hS hown (htA _ wd_2087) (fun _ h => h) dJ0_length_8abf5_1 ?_
  refine va_tlen hx hb hT hS rfl dJ0_length_8abf5_4 ?_
  refine lv_aload_n hx hb dJ0_length_8abf5_5 rfl (lv_at hl 0 rfl) ?_
  refine gkRi (As := []) (rest := [.int (Int32.ofNat N)]) (wr := []) hX hE (st_coder l D cy N F a) (Pst_ts N F a) hg (cwVA 0 htA wd_630 wd_627 wd_15 wd_628 wd_629 (by decide +kernel) ⟨by decide, by decide⟩) hP hD hS [] [] rfl rfl (by decide) hO rfl hl.1 rfl (Nat.le_of_ble_eq_true rfl) dJ0_length_8abf5_6 (by decide) (fun r W1 H locs hw hP hD hS => ?_)
  obtain ⟨rfl, rfl⟩ := hw
  refine lv_ishr hx hb dJ0_length_8abf5_9 ?_
  refine lv_topi (fun x ex => ?_)
  refine rI hX hE hP hD hS dJ0_length_8abf5_10 (by decide) (by decide) ⟨rfl, ?_⟩
  rw [ex]
  exact st_shr0 hN

set_option maxHeartbeats 4000000 in
set_option maxRecDepth 100000 in
theorem st_pciN (l : Launch) (D : va_G) (cy : Nat → ClassId) (i n : Int32) (h0 : 0 ≤ i.toInt) (h1 : i.toInt < n.toInt) : Ci l yJ3_checkIndex_8e157 cJ3_checkIndex_8e157 3 (some .int) { frames := 0, cells := 0, slots := 0, locals := 0 } D cy [.int i, .int n, .null] [] (fun r W1 => W1 = [] ∧ r = i) := by
  refine Ci.ofF (by decide +kernel) (Nat.le_of_ble_eq_true rfl) ?_
  intro p e s m below meth c A ls hX hE hP hD hl
  obtain ⟨hx, hb, hr, hml, hown, htA, hlk⟩ := id hX
  have hK := hE.1
  have hS : va_S A s.heap s.heap [] := va_S.rf
  have hl : lv_has ls 3 [(0, .int i), (1, .int n), (2, .null)] := hl
  refine lv_iload_n hx hb dJ3_checkIndex_8e157_0 rfl (lv_at hl 0 rfl) ?_
  refine lv_if_lt (tgt := 9) hx hb dJ3_checkIndex_8e157_1 (by decide) (fun q => absurd q (by rw [fa_lt, show (0 : Int32).toInt = 0 from by decide]; omega)) (fun _ => ?_)
  refine lv_iload_n hx hb dJ3_checkIndex_8e157_4 rfl (lv_at hl 0 rfl) ?_
  refine lv_iload_n hx hb dJ3_checkIndex_8e157_5 rfl (lv_at hl 1 rfl) ?_
  refine lv_icmp_lt (tgt := 16) hx hb dJ3_checkIndex_8e157_6 (by decide) (fun _ => ?_) (fun q => absurd ((fa_lt i n).mpr h1) q)
  refine lv_iload_n hx hb dJ3_checkIndex_8e157_16 rfl (lv_at hl 0 rfl) ?_
  exact rI hX hE hP hD hS dJ3_checkIndex_8e157_17 (by decide) (by decide) ⟨rfl, rfl⟩
set_option maxHeartbeats 4000000 in
set_option maxRecDepth 100000 in
theorem st_pciR (l : Launch) (D : va_G) (cy : Nat → ClassId) (i n : Int32) (t : Nat) (h0 : 0 ≤ i.toInt) (h1 : i.toInt < n.toInt) : Ci l yJ3_checkIndex_8e157 cJ3_checkIndex_8e157 3 (some .int) { frames := 0, cells := 0, slots := 0, locals := 0 } D cy [.int i, .int n, .ref t] [] (fun r W1 => W1 = [] ∧ r = i) := by
  refine Ci.ofF (by decide +kernel) (Nat.le_of_ble_eq_true rfl) ?_
  intro p e s m below meth c A ls hX hE hP hD hl
  obtain ⟨hx, hb, hr, hml, hown, htA, hlk⟩ := id hX
  have hK := hE.1
  have hS : va_S A s.heap s.heap [] := va_S.rf
  have hl : lv_has ls 3 [(0, .int i), (1, .int n), (2, .ref t)] := hl
  refine lv_iload_n hx hb dJ3_checkIndex_8e157_0 rfl (lv_at hl 0 rfl) ?_
  refine lv_if_lt (tgt := 9) hx hb dJ3_checkIndex_8e157_1 (by decide) (fun q => absurd q (by rw [fa_lt, show (0 : Int32).toInt = 0 from by decide]; omega)) (fun _ => ?_)
  refine lv_iload_n hx hb dJ3_checkIndex_8e157_4 rfl (lv_at hl 0 rfl) ?_
  refine lv_iload_n hx hb dJ3_checkIndex_8e157_5 rfl (lv_at hl 1 rfl) ?_
  refine lv_icmp_lt (tgt := 16) hx hb dJ3_checkIndex_8e157_6 (by decide) (fun _ => ?_) (fun q => absurd ((fa_lt i n).mpr h1) q)
  refine lv_iload_n hx hb dJ3_checkIndex_8e157_16 rfl (lv_at hl 0 rfl) ?_
  exact rI hX hE hP hD hS dJ3_checkIndex_8e157_17 (by decide) (by decide) ⟨rfl, rfl⟩
set_option maxHeartbeats 4000000 in
set_option maxRecDepth 100000 in
theorem st_cki (l : Launch) (D : va_G) (cy : Nat → ClassId) (i n : Int32) (h0 : 0 ≤ i.toInt) (h1 : i.toInt < n.toInt) : Cv l yJ0_checkIndex_df160 cJ0_checkIndex_df160 2 none { frames := 1, cells := 0, slots := 0, locals := 40 } D cy [.int i, .int n] [] (fun W1 => W1 = []) := by
  refine Cv.ofF (by decide +kernel) (Nat.le_of_ble_eq_true rfl) ?_
  intro p e s m below meth c A ls hX hE hP hD hl
  obtain ⟨hx, hb, hr, hml, hown, htA, hlk⟩ := id hX
  have hK := hE.1
  have hS : va_S A s.heap s.heap [] := va_S.rf
  have hl : lv_has ls 2 [(0, .int i), (1, .int n)] := hl
  refine lv_iload_n hx hb dJ0_checkIndex_df160_0 rfl (lv_at hl 0 rfl) ?_
  refine lv_iload_n hx hb dJ0_checkIndex_df160_1 rfl (lv_at hl 1 rfl) ?_
  rcases hE.2.2.1.2.2.2.2 with hz | ⟨t, hz⟩
  · refine va_gets hx hb hz hS hown (htA _ wd_647) (fun _ h => h) dJ0_checkIndex_df160_2 ?_
    refine kSi (As := [.int i, .int n, .null]) (rest := []) (wr := []) hX hE (st_pciN l D cy i n h0 h1) (cwSA 3 htA wd_651 wd_649 wd_17 wd_650 (by decide +kernel) ⟨by decide, by decide⟩) hP hD hS [] [] rfl rfl (by decide) rfl hl.1 rfl (Nat.le_of_ble_eq_true rfl) dJ0_checkIndex_df160_5 (by decide) (fun r W1 H locs hw hP hD hS => ?_)
    obtain ⟨rfl, rfl⟩ := hw
    refine lv_pop hx hb dJ0_checkIndex_df160_8 rfl ?_
    exact rV hX hE hP hD hS dJ0_checkIndex_df160_9 (by decide) (by decide) rfl
  · refine va_gets hx hb hz hS hown (htA _ wd_647) (fun _ h => h) dJ0_checkIndex_df160_2 ?_
    refine kSi (As := [.int i, .int n, .ref t]) (rest := []) (wr := []) hX hE (st_pciR l D cy i n t h0 h1) (cwSA 3 htA wd_651 wd_649 wd_17 wd_650 (by decide +kernel) ⟨by decide, by decide⟩) hP hD hS [] [] rfl rfl (by decide) rfl hl.1 rfl (Nat.le_of_ble_eq_true rfl) dJ0_checkIndex_df160_5 (by decide) (fun r W1 H locs hw hP hD hS => ?_)
    obtain ⟨rfl, rfl⟩ := hw
    refine lv_pop hx hb dJ0_checkIndex_df160_8 rfl ?_
    exact rV hX hE hP hD hS dJ0_checkIndex_df160_9 (by decide) (by decide) rfl
set_option maxHeartbeats 4000000 in
set_option maxRecDepth 100000 in
theorem st_l1charAt (l : Launch) (D : va_G) (cy : Nat → ClassId) (N v : Nat) (f : Nat → Int32) (k : Int32) (hN : N ≤ 900) (hk : vp_in k N) : Gi l yJ1_charAt_3b067 cJ1_charAt_3b067 2 (some .char) { frames := 2, cells := 0, slots := 0, locals := 80 } D cy [.ref v, .int k] [] (va_T .byte v N (fun j => .int (f j))) (fun r W1 => W1 = [] ∧ rg 0 255 r ∧ r = f k.toNatClampNeg &&& 255) := by
  refine Gi.ofF (by decide +kernel) (Nat.le_of_ble_eq_true rfl) ?_
  intro p e s m below meth c A ls hX hE hP hD hl hg
  obtain ⟨hx, hb, hr, hml, hown, htA, hlk⟩ := id hX
  have hK := hE.1
  have hS : va_S A s.heap s.heap [] := va_S.rf
  have hl : lv_has ls 2 [(0, .ref v), (1, .int k)] := hl
  have hk2 := vp_in_iff.mp hk
  refine lv_iload_n hx hb dJ1_charAt_3b067_0 rfl (lv_at hl 1 rfl) ?_
  refine lv_aload_n hx hb dJ1_charAt_3b067_1 rfl (lv_at hl 0 rfl) ?_
  refine va_tlen hx hb hg hS rfl dJ1_charAt_3b067_2 ?_
  refine kSv (As := [.int k, .int (Int32.ofNat N)]) (rest := []) (wr := []) hX hE (st_cki l D cy k (Int32.ofNat N) hk2.1 (by rw [Int32.toInt_ofNat_of_lt (by omega)]; exact hk2.2)) (cwSA 2 htA wd_646 wd_644 wd_15 wd_645 (by decide +kernel) ⟨by decide, by decide⟩) hP hD hS [] [] rfl rfl (by decide) rfl hl.1 rfl (Nat.le_of_ble_eq_true rfl) dJ1_charAt_3b067_3 (by decide) (fun W1 H locs hw hP hD hS => ?_)
  obtain rfl := hw
  refine lv_aload_n hx hb dJ1_charAt_3b067_6 rfl (lv_at hl 0 rfl) ?_
  refine lv_iload_n hx hb dJ1_charAt_3b067_7 rfl (lv_at hl 1 rfl) ?_
  refine va_tb hx hb hg hS hk rfl dJ1_charAt_3b067_8 ?_
  refine lv_sipush (v := 255) hx hb dJ1_charAt_3b067_9 (by decide) ?_
  refine lv_iand hx hb dJ1_charAt_3b067_12 ?_
  refine lv_topi (fun x ex => ?_)
  have hx2 : rg 0 255 x := by rw [ex]; exact rg_and (by decide) (by decide)
  refine lv_i2c hx hb dJ1_charAt_3b067_13 (st_i2c hx2) ?_
  exact rB hX (st_narc hx2) hE hP hD hS dJ1_charAt_3b067_14 (by decide) (by decide) ⟨rfl, hx2, ex⟩
set_option maxHeartbeats 4000000 in
set_option maxRecDepth 100000 in
theorem st_charAt (l : Launch) (D : va_G) (cy : Nat → ClassId) (N : Nat) (F : Nat → Int32) (a : Nat) (k : Int32) (hN : N ≤ 900) (hk : vp_in k N) : Gi l yJ0_charAt_5068e cJ0_charAt_5068e 2 (some .char) { frames := 3, cells := 0, slots := 0, locals := 140 } D cy [.ref a, .int k] [] (xTs N F a) (fun r W1 => W1 = [] ∧ rg 0 255 r ∧ r = F k.toNatClampNeg &&& 255) := by
  refine Gi.ofF (by decide +kernel) (Nat.le_of_ble_eq_true rfl) ?_
  intro p e s m below meth c A ls hX hE hP hD hl hg
  obtain ⟨hx, hb, hr, hml, hown, htA, hlk⟩ := id hX
  have hK := hE.1
  have hS : va_S A s.heap s.heap [] := va_S.rf
  have hl : lv_has ls 2 [(0, .ref a), (1, .int k)] := hl
  obtain ⟨v, hO, hC, hV, hT⟩ := id hg
  refine lv_aload_n hx hb dJ0_charAt_5068e_0 rfl (lv_at hl 0 rfl) ?_
  refine gkRi (As := []) (rest := []) (wr := []) hX hE (st_isLatin1 l D cy N F a) (Pst_ts N F a) hg (cwVA 0 htA wd_640 wd_637 wd_15 wd_638 wd_639 (by decide +kernel) ⟨by decide, by decide⟩) hP hD hS [] [] rfl rfl (by decide) hO rfl hl.1 rfl (Nat.le_of_ble_eq_true rfl) dJ0_charAt_5068e_1 (by decide) (fun r W1 H locs hw hP hD hS => ?_)
  obtain ⟨rfl, rfl⟩ := hw
  refine lv_if_eq (tgt := 16) hx hb dJ0_charAt_5068e_4 (by decide) (fun q => absurd q (by decide)) (fun _ => ?_)
  refine lv_aload_n hx hb dJ0_charAt_5068e_7 rfl (lv_at hl 0 rfl) ?_
  refine vk_getf hx hb hV hS hown (htA _ wd_2087) (fun _ h => h) dJ0_charAt_5068e_8 ?_
  refine lv_iload_n hx hb dJ0_charAt_5068e_11 rfl (lv_at hl 1 rfl) ?_
  refine gkSi (As := [.ref v, .int k]) (rest := []) (wr := []) hX hE (st_l1charAt l D cy N v F k hN hk) (Pst_by v N F) hT (cwSA 2 htA wd_643 wd_641 wd_16 wd_642 (by decide +kernel) ⟨by decide, by decide⟩) hP hD hS [] [] rfl rfl (by decide) rfl hl.1 rfl (Nat.le_of_ble_eq_true rfl) dJ0_charAt_5068e_12 (by decide) (fun r W1 H locs hw hP hD hS => ?_)
  obtain ⟨rfl, hr2, hr3⟩ := hw
  exact rB hX (st_narc hr2) hE hP hD hS dJ0_charAt_5068e_15 (by decide) (by decide) ⟨rfl, hr2, hr3⟩
set_option maxHeartbeats 4000000 in
set_option maxRecDepth 100000 in
theorem st_canEncode (l : Launch) (D : va_G) (cy : Nat → ClassId) (x : Int32) : Ci l yJ1_canEncode_9a6ad cJ1_canEncode_9a6ad 1 (some .boolean) { frames := 0, cells := 0, slots := 0, locals := 0 } D cy [.int x] [] (fun r W1 => W1 = [] ∧ rg 0 1 r ∧ (r = 0 → ¬ (0 ≤ x.toInt ∧ x.toInt ≤ 255))) := by
  refine Ci.ofF (by decide +kernel) (Nat.le_of_ble_eq_true rfl) ?_
  intro p e s m below meth c A ls hX hE hP hD hl
  obtain ⟨hx, hb, hr, hml, hown, htA, hlk⟩ := id hX
  have hK := hE.1
  have hS : va_S A s.heap s.heap [] := va_S.rf
  have hl : lv_has ls 1 [(0, .int x)] := hl
  refine lv_iload_n hx hb dJ1_canEncode_9a6ad_0 rfl (lv_at hl 0 rfl) ?_
  refine lv_if_lt (tgt := 15) hx hb dJ1_canEncode_9a6ad_1 (by decide) (fun q1 => ?_) (fun _ => ?_)
  · refine lv_iconst (v := 0) hx hb dJ1_canEncode_9a6ad_15 (by decide) ?_
    exact rZ hX (by decide) hE hP hD hS dJ1_canEncode_9a6ad_16 (by decide) (by decide) ⟨rfl, rg_lit (by decide), fun _ q3 => by rw [fa_lt, show (0 : Int32).toInt = 0 from by decide] at q1; omega⟩
  · refine lv_iload_n hx hb dJ1_canEncode_9a6ad_4 rfl (lv_at hl 0 rfl) ?_
    refine lv_sipush (v := 255) hx hb dJ1_canEncode_9a6ad_5 (by decide) ?_
    refine lv_icmp_gt (tgt := 15) hx hb dJ1_canEncode_9a6ad_8 (by decide) (fun q2 => ?_) (fun _ => ?_)
    · refine lv_iconst (v := 0) hx hb dJ1_canEncode_9a6ad_15 (by decide) ?_
      exact rZ hX (by decide) hE hP hD hS dJ1_canEncode_9a6ad_16 (by decide) (by decide) ⟨rfl, rg_lit (by decide), fun _ q3 => by rw [fa_lt, show (255 : Int32).toInt = 255 from by decide] at q2; omega⟩
    · refine lv_iconst (v := 1) hx hb dJ1_canEncode_9a6ad_11 (by decide) ?_
      refine lv_goto (tgt := 16) hx hb dJ1_canEncode_9a6ad_12 (by decide) ?_
      exact rZ hX (by decide) hE hP hD hS dJ1_canEncode_9a6ad_16 (by decide) (by decide) ⟨rfl, rg_lit (by decide), fun q3 => absurd q3 (by decide)⟩
set_option maxHeartbeats 4000000 in
set_option maxRecDepth 100000 in
theorem st_ioc (l : Launch) (D : va_G) (cy : Nat → ClassId) (N v : Nat) (f : Nat → Int32) (x i n : Int32) (hN : N ≤ 900) (hi : 0 ≤ i.toInt) (hn : n.toInt ≤ N) : Gi l yJ1_indexOfChar_4cfef cJ1_indexOfChar_4cfef 6 (some .int) { frames := 0, cells := 0, slots := 0, locals := 0 } D cy [.ref v, .int x, .int i, .int n] [] (va_T .byte v N (fun j => .int (f j))) (fun r W1 => W1 = [] ∧ ((r = -1 ∧ ∀ j : Nat, i.toInt ≤ j → j < n.toInt → f j ≠ x.toInt8.toInt32) ∨ (0 ≤ r.toInt ∧ r.toInt < n.toInt ∧ f r.toNatClampNeg = x.toInt8.toInt32))) := by
  refine Gi.ofF (by decide +kernel) (Nat.le_of_ble_eq_true rfl) ?_
  intro p e s m below meth c A ls hX hE hP hD hl hg
  obtain ⟨hx, hb, hr, hml, hown, htA, hlk⟩ := id hX
  have hK := hE.1
  have hS : va_S A s.heap s.heap [] := va_S.rf
  have hl : lv_has ls 6 [(0, .ref v), (1, .int x), (2, .int i), (3, .int n)] := hl
  refine lv_iload_n hx hb dJ1_indexOfChar_4cfef_0 rfl (lv_at hl 1 rfl) ?_
  refine lv_i2b hx hb dJ1_indexOfChar_4cfef_1 rfl ?_
  refine lv_istore (lv' := [(4, .int x.toInt8.toInt32), (0, .ref v), (1, .int x), (2, .int i), (3, .int n)]) hx hb dJ1_indexOfChar_4cfef_2 hl (by decide) rfl (fun ls hl => ?_)
  refine lv_iload_n hx hb dJ1_indexOfChar_4cfef_4 rfl (lv_at hl 3 rfl) ?_
  refine lv_istore (lv' := [(5, .int i), (4, .int x.toInt8.toInt32), (0, .ref v), (1, .int x), (2, .int i), (3, .int n)]) hx hb dJ1_indexOfChar_4cfef_5 hl (by decide) rfl (fun ls hl => ?_)
  refine loopT (τ := Int32) (WS := fun _ => []) (LV := fun k => [(5, .int k), (4, .int x.toInt8.toInt32), (0, .ref v), (3, .int n)]) (fun k => (n.toInt - k.toInt).toNat) (fun k => 0 ≤ k.toInt ∧ ∀ j : Nat, i.toInt ≤ j → j < k.toInt → f j ≠ x.toInt8.toInt32) ?_ i ⟨hi, fun j h1 h2 => by omega⟩ hP hD hS (lv_sub hl [0, 1, 2, 5] rfl)
  intro k H locs ls hI ih hP hD hS hl
  obtain ⟨hI, hJ⟩ := hI
  have hl : lv_has ls 6 [(5, .int k), (4, .int x.toInt8.toInt32), (0, .ref v), (3, .int n)] := hl
  refine lv_iload hx hb dJ1_indexOfChar_4cfef_7 (lv_at hl 0 rfl) ?_
  refine lv_iload_n hx hb dJ1_indexOfChar_4cfef_9 rfl (lv_at hl 3 rfl) ?_
  refine lv_icmp_ge (tgt := 31) hx hb dJ1_indexOfChar_4cfef_10 (by decide) (fun c0 => ?_) (fun c1 => ?_)
  · refine lv_iconst (v := (-1)) hx hb dJ1_indexOfChar_4cfef_31 (by decide) ?_
    exact rI hX hE hP hD hS dJ1_indexOfChar_4cfef_32 (by decide) (by decide) ⟨rfl, Or.inl ⟨rfl, fun j h1 h2 => hJ j h1 (by rw [fa_le] at c0; omega)⟩⟩
  · have c2 : k.toInt < n.toInt := by rw [fa_le] at c1; omega
    refine lv_aload_n hx hb dJ1_indexOfChar_4cfef_13 rfl (lv_at hl 2 rfl) ?_
    refine lv_iload hx hb dJ1_indexOfChar_4cfef_14 (lv_at hl 0 rfl) ?_
    refine va_tb hx hb hg hS (vp_in_iff.mpr ⟨hI, by omega⟩) rfl dJ1_indexOfChar_4cfef_16 ?_
    refine lv_iload hx hb dJ1_indexOfChar_4cfef_17 (lv_at hl 1 rfl) ?_
    refine lv_icmp_ne (tgt := 25) hx hb dJ1_indexOfChar_4cfef_19 (by decide) (fun c3 => ?_) (fun c3 => ?_)
    · refine lv_iinc (v := k + 1) (lv' := [(5, .int (k + 1)), (4, .int x.toInt8.toInt32), (0, .ref v), (3, .int n)]) hx hb dJ1_indexOfChar_4cfef_25 hl (k := 0) rfl rfl (by decide) rfl (fun ls hl => ?_)
      refine lv_goto (tgt := 7) hx hb dJ1_indexOfChar_4cfef_28 (by decide) ?_
      have h1 : (k + 1).toInt = k.toInt + 1 := inc32 k (by have h := (rng32 n).2; omega)
      exact ih (k + 1) _ _ ls ⟨by rw [h1]; omega, fun j h2 h3 => by
        by_cases h4 : (j : Int) < k.toInt
        · exact hJ j h2 h4
        · have h5 : j = k.toNatClampNeg := by have := Int32.toNat_toInt k; omega
          rw [h5]; exact c3⟩ (by rw [h1]; omega) hP hD hS hl
    · refine lv_iload hx hb dJ1_indexOfChar_4cfef_22 (lv_at hl 0 rfl) ?_
      exact rI hX hE hP hD hS dJ1_indexOfChar_4cfef_24 (by decide) (by decide) ⟨rfl, Or.inr ⟨hI, c2, c3⟩⟩
set_option maxHeartbeats 4000000 in
set_option maxRecDepth 100000 in
theorem st_l1ix (l : Launch) (D : va_G) (cy : Nat → ClassId) (N v : Nat) (f : Nat → Int32) (x i n : Int32) (hN : N ≤ 900) : Gi l yJ1_indexOf_4cfef cJ1_indexOf_4cfef 4 (some .int) { frames := 1, cells := 0, slots := 0, locals := 60 } D cy [.ref v, .int x, .int i, .int n] [] (va_T .byte v N (fun j => .int (f j))) (fun r W1 => W1 = [] ∧ (i = 0 → n = Int32.ofNat N → ixP N f x r)) := by
  refine Gi.ofF (by decide +kernel) (Nat.le_of_ble_eq_true rfl) ?_
  intro p e s m below meth c A ls hX hE hP hD hl hg
  obtain ⟨hx, hb, hr, hml, hown, htA, hlk⟩ := id hX
  have hK := hE.1
  have hS : va_S A s.heap s.heap [] := va_S.rf
  have hl : lv_has ls 4 [(0, .ref v), (1, .int x), (2, .int i), (3, .int n)] := hl
  refine lv_iload_n hx hb dJ1_indexOf_4cfef_0 rfl (lv_at hl 1 rfl) ?_
  refine kSi (As := [.int x]) (rest := []) (wr := []) hX hE (st_canEncode l D cy x) (cwSA 1 htA wd_689 wd_687 wd_16 wd_688 (by decide +kernel) ⟨by decide, by decide⟩) hP hD hS [] [] rfl rfl (by decide) rfl hl.1 rfl (Nat.le_of_ble_eq_true rfl) dJ1_indexOf_4cfef_1 (by decide) (fun r W1 H locs hw hP hD hS => ?_)
  obtain ⟨rfl, hr2, hr4⟩ := hw
  refine lv_if_ne (tgt := 9) hx hb dJ1_indexOf_4cfef_4 (by decide) (fun _ => ?_) (fun hr5 => ?_)
  · refine lv_iload_n hx hb dJ1_indexOf_4cfef_9 rfl (lv_at hl 2 rfl) ?_
    refine lv_iconst (v := 0) hx hb dJ1_indexOf_4cfef_10 (by decide) ?_
    refine va_mmax hx hb (hml.trans hl.1.symm) hown (htA _ wd_690) (htA _ wd_426) (htA _ wd_19) (htA _ wd_427) (by decide) (Nat.le_of_ble_eq_true rfl) (by decide) (by decide) dJ1_indexOf_4cfef_11 ?_
    refine lv_topi (fun x2 e2 => ?_)
    refine lv_istore_n (lv' := [(2, .int x2), (0, .ref v), (1, .int x), (3, .int n)]) hx hb dJ1_indexOf_4cfef_14 rfl hl (by decide) rfl (fun ls hl => ?_)
    refine lv_iload_n hx hb dJ1_indexOf_4cfef_15 rfl (lv_at hl 3 rfl) ?_
    refine lv_aload_n hx hb dJ1_indexOf_4cfef_16 rfl (lv_at hl 1 rfl) ?_
    refine va_tlen hx hb hg hS rfl dJ1_indexOf_4cfef_17 ?_
    refine va_mmin hx hb (hml.trans hl.1.symm) hown (htA _ wd_691) (htA _ wd_422) (htA _ wd_19) (htA _ wd_423) (by decide) (Nat.le_of_ble_eq_true rfl) (by decide) (by decide) dJ1_indexOf_4cfef_18 ?_
    refine lv_topi (fun x3 e3 => ?_)
    refine lv_istore_n (lv' := [(3, .int x3), (2, .int x2), (0, .ref v), (1, .int x)]) hx hb dJ1_indexOf_4cfef_21 rfl hl (by decide) rfl (fun ls hl => ?_)
    have h2 : 0 ≤ x2.toInt := by rw [e2, mm_max, show (0 : Int32).toInt = 0 from by decide]; omega
    have h3 : x3.toInt ≤ N := by rw [e3, mm_min, Int32.toInt_ofNat_of_lt (by omega)]; omega
    refine lv_iload_n hx hb dJ1_indexOf_4cfef_22 rfl (lv_at hl 1 rfl) ?_
    refine lv_iload_n hx hb dJ1_indexOf_4cfef_23 rfl (lv_at hl 0 rfl) ?_
    refine lv_icmp_lt (tgt := 29) hx hb dJ1_indexOf_4cfef_24 (by decide) (fun _ => ?_) (fun h8 => ?_)
    · refine lv_aload_n hx hb dJ1_indexOf_4cfef_29 rfl (lv_at hl 2 rfl) ?_
      refine lv_iload_n hx hb dJ1_indexOf_4cfef_30 rfl (lv_at hl 3 rfl) ?_
      refine lv_iload_n hx hb dJ1_indexOf_4cfef_31 rfl (lv_at hl 1 rfl) ?_
      refine lv_iload_n hx hb dJ1_indexOf_4cfef_32 rfl (lv_at hl 0 rfl) ?_
      refine gkSi (As := [.ref v, .int x, .int x2, .int x3]) (rest := []) (wr := []) hX hE (st_ioc l D cy N v f x x2 x3 hN h2 h3) (Pst_by v N f) hg (cwSA 4 htA wd_694 wd_692 wd_16 wd_693 (by decide +kernel) ⟨by decide, by decide⟩) hP hD hS [] [] rfl rfl (by decide) rfl hl.1 rfl (Nat.le_of_ble_eq_true rfl) dJ1_indexOf_4cfef_33 (by decide) (fun r W1 H locs hw hP hD hS => ?_)
      obtain ⟨rfl, hw⟩ := hw
      exact rI hX hE hP hD hS dJ1_indexOf_4cfef_36 (by decide) (by decide) ⟨rfl, fun q1 q2 => ix_of hN q1 q2 e2 e3 hw⟩
    · refine lv_iconst (v := (-1)) hx hb dJ1_indexOf_4cfef_27 (by decide) ?_
      exact rI hX hE hP hD hS dJ1_indexOf_4cfef_28 (by decide) (by decide) ⟨rfl, fun q1 q2 => ix_no hN q1 q2 e2 e3 h8⟩
  · refine lv_iconst (v := (-1)) hx hb dJ1_indexOf_4cfef_7 (by decide) ?_
    exact rI hX hE hP hD hS dJ1_indexOf_4cfef_8 (by decide) (by decide) ⟨rfl, fun _ _ => Or.inl ⟨rfl, fun q3 => absurd q3 (hr4 (by assumption))⟩⟩
set_option maxHeartbeats 4000000 in
set_option maxRecDepth 100000 in
theorem st_ix2 (l : Launch) (D : va_G) (cy : Nat → ClassId) (N : Nat) (F : Nat → Int32) (a : Nat) (x i : Int32) (hN : N ≤ 900) : Gi l yJ0_indexOf_7cf53 cJ0_indexOf_7cf53 3 (some .int) { frames := 2, cells := 0, slots := 0, locals := 120 } D cy [.ref a, .int x, .int i] [] (xTs N F a) (fun r W1 => W1 = [] ∧ (i = 0 → ixP N F x r)) := by
  refine Gi.ofF (by decide +kernel) (Nat.le_of_ble_eq_true rfl) ?_
  intro p e s m below meth c A ls hX hE hP hD hl hg
  obtain ⟨hx, hb, hr, hml, hown, htA, hlk⟩ := id hX
  have hK := hE.1
  have hS : va_S A s.heap s.heap [] := va_S.rf
  have hl : lv_has ls 3 [(0, .ref a), (1, .int x), (2, .int i)] := hl
  obtain ⟨v, hO, hC, hV, hT⟩ := id hg
  refine lv_aload_n hx hb dJ0_indexOf_7cf53_0 rfl (lv_at hl 0 rfl) ?_
  refine gkRi (As := []) (rest := []) (wr := []) hX hE (st_isLatin1 l D cy N F a) (Pst_ts N F a) hg (cwVA 0 htA wd_640 wd_637 wd_15 wd_638 wd_639 (by decide +kernel) ⟨by decide, by decide⟩) hP hD hS [] [] rfl rfl (by decide) hO rfl hl.1 rfl (Nat.le_of_ble_eq_true rfl) dJ0_indexOf_7cf53_1 (by decide) (fun r W1 H locs hw hP hD hS => ?_)
  obtain ⟨rfl, rfl⟩ := hw
  refine lv_if_eq (tgt := 23) hx hb dJ0_indexOf_7cf53_4 (by decide) (fun q => absurd q (by decide)) (fun _ => ?_)
  refine lv_aload_n hx hb dJ0_indexOf_7cf53_7 rfl (lv_at hl 0 rfl) ?_
  refine vk_getf hx hb hV hS hown (htA _ wd_2087) (fun _ h => h) dJ0_indexOf_7cf53_8 ?_
  refine lv_iload_n hx hb dJ0_indexOf_7cf53_11 rfl (lv_at hl 1 rfl) ?_
  refine lv_iload_n hx hb dJ0_indexOf_7cf53_12 rfl (lv_at hl 2 rfl) ?_
  refine lv_aload_n hx hb dJ0_indexOf_7cf53_13 rfl (lv_at hl 0 rfl) ?_
  refine gkRi (As := []) (rest := [.int i, .int x, .ref v]) (wr := []) hX hE (st_length l D cy N F a hN) (Pst_ts N F a) hg (cwVA 0 htA wd_626 wd_683 wd_15 wd_624 wd_625 (by decide +kernel) ⟨by decide, by decide⟩) hP hD hS [] [] rfl rfl (by decide) hO rfl hl.1 rfl (Nat.le_of_ble_eq_true rfl) dJ0_indexOf_7cf53_14 (by decide) (fun r W1 H locs hw hP hD hS => ?_)
  obtain ⟨rfl, hr6⟩ := hw
  refine gkSi (As := [.ref v, .int x, .int i, .int r]) (rest := []) (wr := []) hX hE (st_l1ix l D cy N v F x i r hN) (Pst_by v N F) hT (cwSA 4 htA wd_686 wd_684 wd_16 wd_685 (by decide +kernel) ⟨by decide, by decide⟩) hP hD hS [] [] rfl rfl (by decide) rfl hl.1 rfl (Nat.le_of_ble_eq_true rfl) dJ0_indexOf_7cf53_17 (by decide) (fun r W1 H locs hw hP hD hS => ?_)
  obtain ⟨rfl, hw⟩ := hw
  refine lv_goto (tgt := 36) hx hb dJ0_indexOf_7cf53_20 (by decide) ?_
  exact rI hX hE hP hD hS dJ0_indexOf_7cf53_36 (by decide) (by decide) ⟨rfl, fun q => hw q hr6⟩
set_option maxHeartbeats 4000000 in
set_option maxRecDepth 100000 in
theorem st_indexOf (l : Launch) (D : va_G) (cy : Nat → ClassId) (N : Nat) (F : Nat → Int32) (a : Nat) (x : Int32) (hN : N ≤ 900) : Gi l yJ0_indexOf_0f7a4 cJ0_indexOf_0f7a4 2 (some .int) { frames := 3, cells := 0, slots := 0, locals := 160 } D cy [.ref a, .int x] [] (xTs N F a) (fun r W1 => W1 = [] ∧ ixP N F x r) := by
  refine Gi.ofF (by decide +kernel) (Nat.le_of_ble_eq_true rfl) ?_
  intro p e s m below meth c A ls hX hE hP hD hl hg
  obtain ⟨hx, hb, hr, hml, hown, htA, hlk⟩ := id hX
  have hK := hE.1
  have hS : va_S A s.heap s.heap [] := va_S.rf
  have hl : lv_has ls 2 [(0, .ref a), (1, .int x)] := hl
  obtain ⟨v, hO, hC, hV, hT⟩ := id hg
  refine lv_aload_n hx hb dJ0_indexOf_0f7a4_0 rfl (lv_at hl 0 rfl) ?_
  refine lv_iload_n hx hb dJ0_indexOf_0f7a4_1 rfl (lv_at hl 1 rfl) ?_
  refine lv_iconst (v := 0) hx hb dJ0_indexOf_0f7a4_2 (by decide) ?_
  refine gkRi (As := [.int x, .int 0]) (rest := []) (wr := []) hX hE (st_ix2 l D cy N F a x 0 hN) (Pst_ts N F a) hg (cwVA 2 htA wd_682 wd_679 wd_15 wd_680 wd_681 (by decide +kernel) ⟨by decide, by decide⟩) hP hD hS [] [] rfl rfl (by decide) hO rfl hl.1 rfl (Nat.le_of_ble_eq_true rfl) dJ0_indexOf_0f7a4_3 (by decide) (fun r W1 H locs hw hP hD hS => ?_)
  obtain ⟨rfl, hw⟩ := hw
  exact rI hX hE hP hD hS dJ0_indexOf_0f7a4_6 (by decide) (by decide) ⟨rfl, hw rfl⟩
