def HS_perform (S : CSt) (y_ : Int32) (r : Int32) (o : Int64) (Sn : CSt) : Prop := (r = 0 ∧ ∃ q : Int32, CS_perform S y_ q Sn ∧ o = q.toInt64) ∨ (Sn = S ∧ ((CX_perform S y_ "java/util/NoSuchElementException" ∧ r = 1) ∨ (CX_perform S y_ "java/lang/IllegalStateException" ∧ r = 2) ∨ False))
set_option maxHeartbeats 4000000 in
set_option maxRecDepth 100000 in
theorem H_perform (l : Launch) (hlt : l.stackTraces = false) (D : va_G) (cy : Nat → ClassId) (nx : Nat) (S : CSt) (Wc : va_W) (no : Nat) (g : Nat → Int64) (y_ : Int32) (hI : IC cy nx S Wc) : Hi l yL_perform cL_perform 4 (some .int) [(0, 9, 12, 19), (0, 9, 15, 43)] { frames := 9, cells := 1, slots := 6, locals := 204 } D cy [.ref nx, .int y_, .ref no] ((no, .inl (cy 2, 1, .inr (.inl g))) :: Wc) (fun r W1 => ∃ (g2 : Nat → Int64) (W2 : va_W) (Sn : CSt), HS_perform S y_ r (g2 (0 : Int32).toNatClampNeg) Sn ∧ Sn.1.1.toInt ≤ S.1.1.toInt + 0 ∧ IC cy nx Sn W2 ∧ W1 = (no, .inl (cy 2, 1, .inr (.inl g2))) :: W2) := by
  refine Hi.of (by decide) (Nat.le_of_ble_eq_true rfl) ?_
  intro p e s m below meth c A ls hX hE hP hD hl hxt
  obtain ⟨hx, hb, hr, hml, hown, htA, hlk⟩ := id hX
  have hK := hE.1
  have hS : va_S A s.heap s.heap [] := va_S.rf
  have hl : lv_has ls 4 [(0, .ref nx), (1, .int y_), (2, .ref no)] := hl
  have hP : va_P D vwCl ([(no, .inl (cy 2, 1, .inr (.inl g)))] ++ Wc) s.heap := hP
  have hD : va_D A ([(no, .inl (cy 2, 1, .inr (.inl g)))] ++ Wc) := hD
  refine lv_aload_n hx hb dL_perform_0 rfl (lv_at hl 2 rfl) ?_
  refine lv_iconst (v := 0) hx hb dL_perform_1 (by decide) ?_
  refine lv_aload_n hx hb dL_perform_2 rfl (lv_at hl 0 rfl) ?_
  refine lv_iload_n hx hb dL_perform_3 rfl (lv_at hl 1 rfl) ?_
  obtain ⟨qI_, fI_, hqI⟩ := IC_at hI
  refine xVi (As := [.int y_]) (rest := [.int 0, .ref no]) (wr := [(no, .inl (cy 2, 1, .inr (.inl g)))]) hX hE (I_perform l hlt D cy nx S Wc y_ hI) (cwVA 1 htA wd_1013 wd_1010 wd_1 wd_1011 wd_1012 (by decide +kernel) ⟨by decide, by decide⟩) hP hD hS (apR [(no, .inl (cy 2, 1, .inr (.inl g)))] Wc) (List.range ([(no, .inl (cy 2, 1, .inr (.inl g)))] : va_W).length) (ap_R [(no, .inl (cy 2, 1, .inr (.inl g)))] Wc) (ap_C [(no, .inl (cy 2, 1, .inr (.inl g)))] Wc) (ap_nd [(no, .inl (cy 2, 1, .inr (.inl g)))] Wc) qI_ hqI rfl rfl rfl hl.1 rfl (Nat.le_of_ble_eq_true rfl) dL_perform_4 (by decide) (fun E ce q9 W9 H locs hw hP hD hS hce hcv hcl => ?_) (fun r_ W2 H locs hw hP hD hS => ?_)
  · obtain ⟨hw, hcx, hI2⟩ := hw
    rcases hw with rfl | rfl
    · refine kCatch (name := "java/util/NoSuchElementException") hX hE hxt [] ⟨0, 9, 12, 19⟩ [⟨0, 9, 15, 43⟩] rfl (fun z hz => absurd hz List.not_mem_nil) (by decide) (by decide) wd_860 (by decide +kernel) hce hcv hcl ?_
      refine W.widen (k := 1) (n := 6) (by decide) (by decide) ?_
      refine lv_astore_n (lv' := [(3, .ref q9), (0, .ref nx), (1, .int y_), (2, .ref no)]) hx hb dL_perform_12 rfl hl (by decide) rfl (fun ls hl => ?_)
      refine lv_iconst (v := 1) hx hb dL_perform_13 (by decide) ?_
      have hP : va_P D vwCl ((no, .inl (cy 2, 1, .inr (.inl g))) :: W9) H := hP
      have hD : va_D A ((no, .inl (cy 2, 1, .inr (.inl g))) :: W9) := hD
      exact rI hX hE hP hD hS dL_perform_14 (by decide) (by decide) ⟨g, W9, S, (Or.inr ⟨rfl, Or.inl ⟨hcx, rfl⟩⟩), (tl20 rfl), hI2, rfl⟩
    · refine kCatch (name := "java/lang/IllegalStateException") hX hE hxt [⟨0, 9, 12, 19⟩] ⟨0, 9, 15, 43⟩ [] rfl (List.forall_mem_cons.mpr ⟨Or.inr ⟨by decide, "java/util/NoSuchElementException", htA _ wd_860, hE.2.2.2.2.2.1 ("java/lang/IllegalStateException", "java/util/NoSuchElementException") (by decide)⟩, (fun z hz => absurd hz List.not_mem_nil)⟩) (by decide) (by decide) wd_965 (by decide +kernel) hce hcv hcl ?_
      refine W.widen (k := 1) (n := 6) (by decide) (by decide) ?_
      refine lv_astore_n (lv' := [(3, .ref q9), (0, .ref nx), (1, .int y_), (2, .ref no)]) hx hb dL_perform_15 rfl hl (by decide) rfl (fun ls hl => ?_)
      refine lv_iconst (v := 2) hx hb dL_perform_16 (by decide) ?_
      have hP : va_P D vwCl ((no, .inl (cy 2, 1, .inr (.inl g))) :: W9) H := hP
      have hD : va_D A ((no, .inl (cy 2, 1, .inr (.inl g))) :: W9) := hD
      exact rI hX hE hP hD hS dL_perform_17 (by decide) (by decide) ⟨g, W9, S, (Or.inr ⟨rfl, Or.inr (Or.inl ⟨hcx, rfl⟩)⟩), (tl20 rfl), hI2, rfl⟩
  · refine W.widen (k := 1) (n := 6) (by decide) (by decide) ?_
    obtain ⟨Sn, hcs, hT2, hI2⟩ := hw
    refine lv_i2l hx hb dL_perform_7 rfl ?_
    have hP : va_P D vwCl ((no, .inl (cy 2, 1, .inr (.inl g))) :: W2) H := hP
    have hD : va_D A ((no, .inl (cy 2, 1, .inr (.inl g))) :: W2) := hD
    refine va_last hx hb hK hP hD hS 0 2 rfl rfl (in_lit (by decide)) dL_perform_8 (fun H locs hP hD hS => ?_)
    refine lv_goto (tgt := 18) hx hb dL_perform_9 (by decide) ?_
    refine lv_iconst (v := 0) hx hb dL_perform_18 (by decide) ?_
    have hP : va_P D vwCl ((no, .inl (cy 2, 1, .inr (.inl (vp_updL g (0 : Int32).toNatClampNeg r_.toInt64)))) :: W2) H := hP
    have hD : va_D A ((no, .inl (cy 2, 1, .inr (.inl (vp_updL g (0 : Int32).toNatClampNeg r_.toInt64)))) :: W2) := hD
    exact rI hX hE hP hD hS dL_perform_19 (by decide) (by decide) ⟨(vp_updL g (0 : Int32).toNatClampNeg r_.toInt64), W2, Sn, (Or.inl ⟨rfl, _, hcs, up_L0 _ _ _⟩), hT2, hI2, rfl⟩
def HS_season (S : CSt) (s_ : Int32) (n_ : Int32) (r : Int32) (o : Int64) (Sn : CSt) : Prop := (r = 0 ∧ ∃ q : Int32, CS_season S s_ n_ q Sn ∧ o = q.toInt64) ∨ (Sn = S ∧ ((CX_season S s_ n_ "java/lang/IllegalArgumentException" ∧ r = 1) ∨ False))
set_option maxHeartbeats 4000000 in
set_option maxRecDepth 100000 in
theorem H_season (l : Launch) (hlt : l.stackTraces = false) (D : va_G) (cy : Nat → ClassId) (nx : Nat) (S : CSt) (Wc : va_W) (no : Nat) (g : Nat → Int64) (s_ : Int32) (n_ : Int32) (hI : IC cy nx S Wc) : Hi l yL_season cL_season 5 (some .int) [(0, 10, 13, 13)] { frames := 8, cells := 1, slots := 6, locals := 205 } D cy [.ref nx, .int s_, .int n_, .ref no] ((no, .inl (cy 2, 1, .inr (.inl g))) :: Wc) (fun r W1 => ∃ (g2 : Nat → Int64) (W2 : va_W) (Sn : CSt), HS_season S s_ n_ r (g2 (0 : Int32).toNatClampNeg) Sn ∧ Sn.1.1.toInt ≤ S.1.1.toInt + 0 ∧ IC cy nx Sn W2 ∧ W1 = (no, .inl (cy 2, 1, .inr (.inl g2))) :: W2) := by
  refine Hi.of (by decide) (Nat.le_of_ble_eq_true rfl) ?_
  intro p e s m below meth c A ls hX hE hP hD hl hxt
  obtain ⟨hx, hb, hr, hml, hown, htA, hlk⟩ := id hX
  have hK := hE.1
  have hS : va_S A s.heap s.heap [] := va_S.rf
  have hl : lv_has ls 5 [(0, .ref nx), (1, .int s_), (2, .int n_), (3, .ref no)] := hl
  have hP : va_P D vwCl ([(no, .inl (cy 2, 1, .inr (.inl g)))] ++ Wc) s.heap := hP
  have hD : va_D A ([(no, .inl (cy 2, 1, .inr (.inl g)))] ++ Wc) := hD
  refine lv_aload_n hx hb dL_season_0 rfl (lv_at hl 3 rfl) ?_
  refine lv_iconst (v := 0) hx hb dL_season_1 (by decide) ?_
  refine lv_aload_n hx hb dL_season_2 rfl (lv_at hl 0 rfl) ?_
  refine lv_iload_n hx hb dL_season_3 rfl (lv_at hl 1 rfl) ?_
  refine lv_iload_n hx hb dL_season_4 rfl (lv_at hl 2 rfl) ?_
  obtain ⟨qI_, fI_, hqI⟩ := IC_at hI
  refine xVi (As := [.int s_, .int n_]) (rest := [.int 0, .ref no]) (wr := [(no, .inl (cy 2, 1, .inr (.inl g)))]) hX hE (I_season l hlt D cy nx S Wc s_ n_ hI) (cwVA 2 htA wd_1020 wd_1017 wd_1 wd_1018 wd_1019 (by decide +kernel) ⟨by decide, by decide⟩) hP hD hS (apR [(no, .inl (cy 2, 1, .inr (.inl g)))] Wc) (List.range ([(no, .inl (cy 2, 1, .inr (.inl g)))] : va_W).length) (ap_R [(no, .inl (cy 2, 1, .inr (.inl g)))] Wc) (ap_C [(no, .inl (cy 2, 1, .inr (.inl g)))] Wc) (ap_nd [(no, .inl (cy 2, 1, .inr (.inl g)))] Wc) qI_ hqI rfl rfl rfl hl.1 rfl (Nat.le_of_ble_eq_true rfl) dL_season_5 (by decide) (fun E ce q9 W9 H locs hw hP hD hS hce hcv hcl => ?_) (fun r_ W2 H locs hw hP hD hS => ?_)
  · obtain ⟨hw, hcx, hI2⟩ := hw
    rcases hw with rfl
    refine kCatch (name := "java/lang/IllegalArgumentException") hX hE hxt [] ⟨0, 10, 13, 13⟩ [] rfl (fun z hz => absurd hz List.not_mem_nil) (by decide) (by decide) wd_526 (by decide +kernel) hce hcv hcl ?_
    refine W.widen (k := 1) (n := 6) (by decide) (by decide) ?_
    refine lv_astore (lv' := [(4, .ref q9), (0, .ref nx), (1, .int s_), (2, .int n_), (3, .ref no)]) hx hb dL_season_13 hl (by decide) rfl (fun ls hl => ?_)
    refine lv_iconst (v := 1) hx hb dL_season_15 (by decide) ?_
    have hP : va_P D vwCl ((no, .inl (cy 2, 1, .inr (.inl g))) :: W9) H := hP
    have hD : va_D A ((no, .inl (cy 2, 1, .inr (.inl g))) :: W9) := hD
    exact rI hX hE hP hD hS dL_season_16 (by decide) (by decide) ⟨g, W9, S, (Or.inr ⟨rfl, Or.inl ⟨hcx, rfl⟩⟩), (tl20 rfl), hI2, rfl⟩
  · refine W.widen (k := 1) (n := 6) (by decide) (by decide) ?_
    obtain ⟨Sn, hcs, hT2, hI2⟩ := hw
    refine lv_i2l hx hb dL_season_8 rfl ?_
    have hP : va_P D vwCl ((no, .inl (cy 2, 1, .inr (.inl g))) :: W2) H := hP
    have hD : va_D A ((no, .inl (cy 2, 1, .inr (.inl g))) :: W2) := hD
    refine va_last hx hb hK hP hD hS 0 2 rfl rfl (in_lit (by decide)) dL_season_9 (fun H locs hP hD hS => ?_)
    refine lv_goto (tgt := 17) hx hb dL_season_10 (by decide) ?_
    refine lv_iconst (v := 0) hx hb dL_season_17 (by decide) ?_
    have hP : va_P D vwCl ((no, .inl (cy 2, 1, .inr (.inl (vp_updL g (0 : Int32).toNatClampNeg r_.toInt64)))) :: W2) H := hP
    have hD : va_D A ((no, .inl (cy 2, 1, .inr (.inl (vp_updL g (0 : Int32).toNatClampNeg r_.toInt64)))) :: W2) := hD
    exact rI hX hE hP hD hS dL_season_18 (by decide) (by decide) ⟨(vp_updL g (0 : Int32).toNatClampNeg r_.toInt64), W2, Sn, (Or.inl ⟨rfl, _, hcs, up_L0 _ _ _⟩), hT2, hI2, rfl⟩
theorem fc_perform {S Sn : CSt} {y_ : Int32} {q : Int32} (h : CS_perform S y_ q Sn) : sm3 S Sn := by
  rcases h with ⟨_, _, _, _, _, _, _, _, _, _, _, _, _, _, _, _, _, _, _, _, _, _, _, rfl⟩ | ⟨_, _, _, _, _, _, _, _, _, _, _, _, _, _, _, _, _, _, _, _, _, _, _, _, _, _, _, _, _, rfl⟩ | ⟨_, _, _, _, _, _, _, _, _, _, _, _, _, _, _, _, _, _, _, _, _, _, _, _, _, _, _, _, _, rfl⟩ | ⟨_, _, _, _, _, _, _, _, _, _, _, _, _, _, _, _, _, _, _, _, _, _, _, _, _, _, _, _, _, _, _, _, _, _, _, rfl⟩ | h
  · exact ⟨rfl, rfl, fun _ _ => ⟨rfl, rfl⟩⟩
  · exact ⟨rfl, rfl, fun _ _ => ⟨rfl, rfl⟩⟩
  · exact ⟨rfl, rfl, fun _ _ => ⟨rfl, rfl⟩⟩
  · exact ⟨rfl, rfl, fun _ _ => ⟨rfl, rfl⟩⟩
  · exact h.elim
theorem fm_perform {M Mn : MSt} {y_ : Int32} {q : Int32} {k : Int32} (h : MS_perform M y_ q k Mn) : sm3m M Mn := by
  rcases h with ⟨_, _, _, _, _, _, _, _, _, _, _, _, rfl⟩ | h
  · exact ⟨rfl, rfl, rfl, rfl⟩
  · exact h.elim
theorem sm_perform {S Sn : CSt} {M Mn : MSt} {y_ : Int32} {yM_ : Int32} {rc rk : Int32} {o : Int64} {rr : Int32} (hR : RSM S M) (h : HS_perform S y_ rc o Sn) (hm : MS_perform M yM_ rr rk Mn) : RSM Sn Mn := by
  rcases h with ⟨_, q, h, _⟩ | ⟨rfl, _⟩
  · exact RSM_mv hR (fc_perform h) (fm_perform hm)
  · exact RSM_mv hR sm3_rf (fm_perform hm)
theorem fc_season {S Sn : CSt} {s_ : Int32} {n_ : Int32} {q : Int32} (h : CS_season S s_ n_ q Sn) : sm3 S Sn := by
  rcases h with ⟨_, _, _, _, _, _, _, _, _, _, _, _, _, _, _, _, _, _, _, _, _, rfl⟩ | ⟨_, _, _, _, _, _, _, _, _, _, _, _, _, _, _, _, _, _, _, _, _, _, _, _, _, _, _, rfl⟩ | ⟨_, _, _, _, _, _, _, _, _, _, _, _, _, _, _, _, _, _, _, _, _, _, _, _, _, _, _, rfl⟩ | ⟨_, _, _, _, _, _, _, _, _, _, _, _, _, _, _, _, _, _, _, _, _, _, _, _, _, _, _, _, _, _, _, _, _, rfl⟩ | h
  · exact ⟨rfl, rfl, fun _ _ => ⟨rfl, rfl⟩⟩
  · exact ⟨rfl, rfl, fun _ _ => ⟨rfl, rfl⟩⟩
  · exact ⟨rfl, rfl, fun _ _ => ⟨rfl, rfl⟩⟩
  · exact ⟨rfl, rfl, fun _ _ => ⟨rfl, rfl⟩⟩
  · exact h.elim
theorem fm_season {M Mn : MSt} {s_ : Int32} {n_ : Int32} {q : Int32} {k : Int32} (h : MS_season M s_ n_ q k Mn) : sm3m M Mn := by
  rcases h with ⟨_, _, _, _, _, _, _, _, _, _, _, _, _, _, rfl⟩ | h
  · exact ⟨rfl, rfl, rfl, rfl⟩
  · exact h.elim
theorem sm_season {S Sn : CSt} {M Mn : MSt} {s_ : Int32} {n_ : Int32} {sM_ : Int32} {nM_ : Int32} {rc rk : Int32} {o : Int64} {rr : Int32} (hR : RSM S M) (h : HS_season S s_ n_ rc o Sn) (hm : MS_season M sM_ nM_ rr rk Mn) : RSM Sn Mn := by
  rcases h with ⟨_, q, h, _⟩ | ⟨rfl, _⟩
  · exact RSM_mv hR (fc_season h) (fm_season hm)
  · exact RSM_mv hR sm3_rf (fm_season hm)
set_option maxHeartbeats 4000000 in
set_option maxRecDepth 100000 in
theorem cs_14 (l : Launch) (hlt : l.stackTraces = false) {p : Program} {e : Env} {s : State} {m : MethodId} {below : List Frame} {meth : Method} {c : Code} {D : va_G} {cy : Nat → ClassId} {A : Nat → Prop} {b L : Nat} {xs : Nat → Int32} {Q : State → Prop} (hX : Ex p s m #[Value.ref b] meth c code ret 8 RL) (hE : Ew D cy A s) (hXs : va_X b L xs s s.heap) (hbl : b < s.heap.size) (hbA : ¬ A b) {nx nm no : Nat} {h : Int} {S : CSt} {M : MSt} {Wc Wm : va_W} {g : Nat → Int64} {kc ks : Nat} {i_ : Int32} {H : Heap} {locs : List Loc} {ls : Array Slot} (hI : IC cy nx S Wc) (hM : IMo cy nm h M Wm) (hR : RSM S M) (hlo : 999 ≤ h) (hhi : h + 2000 ≤ 1000000) (hkc : (kc : Int) + 2 * S.1.1.toInt ≤ 500000) (hks : (ks : Int) + 471 * S.1.1.toInt ≤ 7000000) (hi : 0 ≤ i_.toInt ∧ i_.toInt + 7 ≤ L ∧ L ≤ 3584) (hP : va_P D vwCl ((no, .inl (cy 2, 1, .inr (.inl g))) :: (Wm ++ Wc)) H) (hD : va_D A ((no, .inl (cy 2, 1, .inr (.inl g))) :: (Wm ++ Wc))) (hS : va_S A s.heap H locs) (hl : lv_has ls 8 [(4, .int i_), (3, .ref no), (2, .ref nm), (1, .ref nx), (0, .ref b)]) (kk : ∀ (S2 : CSt) (M2 : MSt) (W2 Wm2 : va_W) (g2 : Nat → Int64) (kc2 ks2 : Nat) (H : Heap) (locs : List Loc) (ls : Array Slot), IC cy nx S2 W2 → IMo cy nm (h + 900) M2 Wm2 → RSM S2 M2 → (kc2 : Int) + 2 * S2.1.1.toInt ≤ kc + 2 * S.1.1.toInt + 200 → (ks2 : Int) + 471 * S2.1.1.toInt ≤ ks + 471 * S.1.1.toInt + 9420 → va_P D vwCl ((no, .inl (cy 2, 1, .inr (.inl g2))) :: (Wm2 ++ W2)) H → va_D A ((no, .inl (cy 2, 1, .inr (.inl g2))) :: (Wm2 ++ W2)) → va_S A s.heap H locs → lv_has ls 8 [(4, .int i_), (3, .ref no), (2, .ref nm), (1, .ref nx), (0, .ref b)] → W p l e room_1 s m #[Value.ref b] below meth c H locs kc2 ks2 Q (F0 m 2150 ls [])) : W p l e room_1 s m #[Value.ref b] below meth c H locs kc ks Q (F0 m 765 ls []) := by
  obtain ⟨hx, hb, hr, hml, hown, htA, hlk⟩ := id hX
  have hK := hE.1
  have hT0 := IC_T hI
  refine lv_aload_n hx hb dL_law_765 rfl (lv_at hl 3 rfl) ?_
  refine lv_aload_n hx hb dL_law_766 rfl (lv_at hl 4 rfl) ?_
  refine lv_iload hx hb dL_law_767 (lv_at hl 0 rfl) ?_
  refine lv_iconst (v := 1) hx hb dL_law_769 (by decide) ?_
  refine lv_iadd hx hb dL_law_770 ?_
  refine va_sld hx hb hXs hbl hbA hS (lwi 1 hi) dL_law_771 ?_
  refine lv_aload_n hx hb dL_law_772 rfl (lv_at hl 1 rfl) ?_
  have hP : va_P D vwCl (Wm ++ ((no, .inl (cy 2, 1, .inr (.inl g))) :: Wc)) H := vP_pm hP List.perm_middle.symm
  have hD : va_D A (Wm ++ ((no, .inl (cy 2, 1, .inr (.inl g))) :: Wc)) := vD_pm hD List.perm_middle.symm
  refine kHi (As := [.ref nx, .int (xs (i_ + 1).toNatClampNeg), .ref no]) (rest := []) (wr := Wm) hX hE (H_perform l hlt D cy nx S Wc no g (xs (i_ + 1).toNatClampNeg) hI) (cwHA 3 htA wd_1009 wd_1007 wd_0 wd_1008 (by decide +kernel) ⟨by decide, by decide⟩) hP hD hS (apR Wm ((no, .inl (cy 2, 1, .inr (.inl g))) :: Wc)) (List.range Wm.length) (ap_R Wm ((no, .inl (cy 2, 1, .inr (.inl g))) :: Wc)) (ap_C Wm ((no, .inl (cy 2, 1, .inr (.inl g))) :: Wc)) (ap_nd Wm ((no, .inl (cy 2, 1, .inr (.inl g))) :: Wc)) rfl hl.1 rfl (Nat.le_of_ble_eq_true rfl) dL_law_773 ⟨rmC (by dsimp only; omega), rmS (by dsimp only; omega)⟩ (fun rc_ W1 H locs hw hP hD hS => ?_)
  refine W.widen (k := kc + 1) (n := ks + 6) (Nat.le_refl _) (Nat.le_refl _) ?_
  obtain ⟨g2, W2, Sn, hcs, hT2, hI2, rfl⟩ := hw
  have hP := vP_pm hP List.perm_middle
  have hD := vD_pm hD List.perm_middle
  refine lv_istore (lv' := [(5, .int rc_), (4, .int i_), (3, .ref no), (2, .ref nm), (1, .ref nx), (0, .ref b)]) hx hb dL_law_776 hl (by decide) rfl (fun ls hl => ?_)
  refine lv_aload_n hx hb dL_law_778 rfl (lv_at hl 3 rfl) ?_
  refine lv_aload_n hx hb dL_law_779 rfl (lv_at hl 5 rfl) ?_
  refine lv_iload hx hb dL_law_780 (lv_at hl 1 rfl) ?_
  refine lv_iconst (v := 1) hx hb dL_law_782 (by decide) ?_
  refine lv_iadd hx hb dL_law_783 ?_
  refine va_sld hx hb hXs hbl hbA hS (lwi 1 hi) dL_law_784 ?_
  have hP : va_P D vwCl (((no, .inl (cy 2, 1, .inr (.inl g2))) :: W2) ++ Wm) H := vP_pm hP (List.Perm.cons _ List.perm_append_comm)
  have hD : va_D A (((no, .inl (cy 2, 1, .inr (.inl g2))) :: W2) ++ Wm) := vD_pm hD (List.Perm.cons _ List.perm_append_comm)
  obtain ⟨qM_, fM_, hqM⟩ := IMo_at hM
  refine kVi (As := [.int (xs (i_ + 1).toNatClampNeg)]) (rest := []) (wr := ((no, .inl (cy 2, 1, .inr (.inl g2))) :: W2)) hX hE (M_perform l D cy nm h M Wm (xs (i_ + 1).toNatClampNeg) hM hlo (by omega)) (cwVA 1 htA wd_1850 wd_1847 wd_10 wd_1848 wd_1849 (by decide +kernel) ⟨by decide, by decide⟩) hP hD hS (apR ((no, .inl (cy 2, 1, .inr (.inl g2))) :: W2) Wm) (List.range ((no, .inl (cy 2, 1, .inr (.inl g2))) :: W2).length) (ap_R ((no, .inl (cy 2, 1, .inr (.inl g2))) :: W2) Wm) (ap_C ((no, .inl (cy 2, 1, .inr (.inl g2))) :: W2) Wm) (ap_nd ((no, .inl (cy 2, 1, .inr (.inl g2))) :: W2) Wm) qM_ hqM rfl rfl rfl hl.1 rfl (Nat.le_of_ble_eq_true rfl) dL_law_785 ⟨rmC (by dsimp only; omega), rmS (by dsimp only; omega)⟩ (fun rr_ Wm2 H locs hw hP hD hS => ?_)
  obtain ⟨km_, Mn, hms, hM2⟩ := hw
  refine W.widen (k := kc + 1) (n := ks + 6) (Nat.le_refl _) (Nat.le_refl _) ?_
  refine lv_istore (lv' := [(6, .int rr_), (5, .int rc_), (4, .int i_), (3, .ref no), (2, .ref nm), (1, .ref nx), (0, .ref b)]) hx hb dL_law_788 hl (by decide) rfl (fun ls hl => ?_)
  refine lv_goto (tgt := 2150) hx hb dL_law_790 (by decide) ?_
  have hP : va_P D vwCl ((no, .inl (cy 2, 1, .inr (.inl g2))) :: (W2 ++ Wm2)) H := hP
  have hP := vP_pm hP (List.Perm.cons _ List.perm_append_comm)
  have hD := vD_pm hD (List.Perm.cons _ List.perm_append_comm)
  exact W.widen (k := kc + 1) (n := ks + 6) (Nat.le_refl _) (Nat.le_refl _) (kk Sn Mn W2 Wm2 g2 (kc + 1) (ks + 6) H locs ls hI2 ⟨_, hM2⟩ (sm_perform hR hcs hms) (by omega) (by omega) hP hD hS (lv_sub hl [2, 3, 4, 5, 6] rfl))
set_option maxHeartbeats 4000000 in
set_option maxRecDepth 100000 in
theorem cs_15 (l : Launch) (hlt : l.stackTraces = false) {p : Program} {e : Env} {s : State} {m : MethodId} {below : List Frame} {meth : Method} {c : Code} {D : va_G} {cy : Nat → ClassId} {A : Nat → Prop} {b L : Nat} {xs : Nat → Int32} {Q : State → Prop} (hX : Ex p s m #[Value.ref b] meth c code ret 8 RL) (hE : Ew D cy A s) (hXs : va_X b L xs s s.heap) (hbl : b < s.heap.size) (hbA : ¬ A b) {nx nm no : Nat} {h : Int} {S : CSt} {M : MSt} {Wc Wm : va_W} {g : Nat → Int64} {kc ks : Nat} {i_ : Int32} {H : Heap} {locs : List Loc} {ls : Array Slot} (hI : IC cy nx S Wc) (hM : IMo cy nm h M Wm) (hR : RSM S M) (hlo : 999 ≤ h) (hhi : h + 2000 ≤ 1000000) (hkc : (kc : Int) + 2 * S.1.1.toInt ≤ 500000) (hks : (ks : Int) + 471 * S.1.1.toInt ≤ 7000000) (hi : 0 ≤ i_.toInt ∧ i_.toInt + 7 ≤ L ∧ L ≤ 3584) (hP : va_P D vwCl ((no, .inl (cy 2, 1, .inr (.inl g))) :: (Wm ++ Wc)) H) (hD : va_D A ((no, .inl (cy 2, 1, .inr (.inl g))) :: (Wm ++ Wc))) (hS : va_S A s.heap H locs) (hl : lv_has ls 8 [(4, .int i_), (3, .ref no), (2, .ref nm), (1, .ref nx), (0, .ref b)]) (kk : ∀ (S2 : CSt) (M2 : MSt) (W2 Wm2 : va_W) (g2 : Nat → Int64) (kc2 ks2 : Nat) (H : Heap) (locs : List Loc) (ls : Array Slot), IC cy nx S2 W2 → IMo cy nm (h + 900) M2 Wm2 → RSM S2 M2 → (kc2 : Int) + 2 * S2.1.1.toInt ≤ kc + 2 * S.1.1.toInt + 200 → (ks2 : Int) + 471 * S2.1.1.toInt ≤ ks + 471 * S.1.1.toInt + 9420 → va_P D vwCl ((no, .inl (cy 2, 1, .inr (.inl g2))) :: (Wm2 ++ W2)) H → va_D A ((no, .inl (cy 2, 1, .inr (.inl g2))) :: (Wm2 ++ W2)) → va_S A s.heap H locs → lv_has ls 8 [(4, .int i_), (3, .ref no), (2, .ref nm), (1, .ref nx), (0, .ref b)] → W p l e room_1 s m #[Value.ref b] below meth c H locs kc2 ks2 Q (F0 m 2150 ls [])) : W p l e room_1 s m #[Value.ref b] below meth c H locs kc ks Q (F0 m 793 ls []) := by
  obtain ⟨hx, hb, hr, hml, hown, htA, hlk⟩ := id hX
  have hK := hE.1
  have hT0 := IC_T hI
  refine lv_aload_n hx hb dL_law_793 rfl (lv_at hl 3 rfl) ?_
  refine lv_aload_n hx hb dL_law_794 rfl (lv_at hl 4 rfl) ?_
  refine lv_iload hx hb dL_law_795 (lv_at hl 0 rfl) ?_
  refine lv_iconst (v := 1) hx hb dL_law_797 (by decide) ?_
  refine lv_iadd hx hb dL_law_798 ?_
  refine va_sld hx hb hXs hbl hbA hS (lwi 1 hi) dL_law_799 ?_
  refine lv_aload_n hx hb dL_law_800 rfl (lv_at hl 4 rfl) ?_
  refine lv_iload hx hb dL_law_801 (lv_at hl 0 rfl) ?_
  refine lv_iconst (v := 2) hx hb dL_law_803 (by decide) ?_
  refine lv_iadd hx hb dL_law_804 ?_
  refine va_sld hx hb hXs hbl hbA hS (lwi 2 hi) dL_law_805 ?_
  refine lv_aload_n hx hb dL_law_806 rfl (lv_at hl 1 rfl) ?_
  have hP : va_P D vwCl (Wm ++ ((no, .inl (cy 2, 1, .inr (.inl g))) :: Wc)) H := vP_pm hP List.perm_middle.symm
  have hD : va_D A (Wm ++ ((no, .inl (cy 2, 1, .inr (.inl g))) :: Wc)) := vD_pm hD List.perm_middle.symm
  refine kHi (As := [.ref nx, .int (xs (i_ + 1).toNatClampNeg), .int (xs (i_ + 2).toNatClampNeg), .ref no]) (rest := []) (wr := Wm) hX hE (H_season l hlt D cy nx S Wc no g (xs (i_ + 1).toNatClampNeg) (xs (i_ + 2).toNatClampNeg) hI) (cwHA 4 htA wd_1016 wd_1014 wd_0 wd_1015 (by decide +kernel) ⟨by decide, by decide⟩) hP hD hS (apR Wm ((no, .inl (cy 2, 1, .inr (.inl g))) :: Wc)) (List.range Wm.length) (ap_R Wm ((no, .inl (cy 2, 1, .inr (.inl g))) :: Wc)) (ap_C Wm ((no, .inl (cy 2, 1, .inr (.inl g))) :: Wc)) (ap_nd Wm ((no, .inl (cy 2, 1, .inr (.inl g))) :: Wc)) rfl hl.1 rfl (Nat.le_of_ble_eq_true rfl) dL_law_807 ⟨rmC (by dsimp only; omega), rmS (by dsimp only; omega)⟩ (fun rc_ W1 H locs hw hP hD hS => ?_)
  refine W.widen (k := kc + 1) (n := ks + 6) (Nat.le_refl _) (Nat.le_refl _) ?_
  obtain ⟨g2, W2, Sn, hcs, hT2, hI2, rfl⟩ := hw
  have hP := vP_pm hP List.perm_middle
  have hD := vD_pm hD List.perm_middle
  refine lv_istore (lv' := [(5, .int rc_), (4, .int i_), (3, .ref no), (2, .ref nm), (1, .ref nx), (0, .ref b)]) hx hb dL_law_810 hl (by decide) rfl (fun ls hl => ?_)
  refine lv_aload_n hx hb dL_law_812 rfl (lv_at hl 3 rfl) ?_
  refine lv_aload_n hx hb dL_law_813 rfl (lv_at hl 5 rfl) ?_
  refine lv_iload hx hb dL_law_814 (lv_at hl 1 rfl) ?_
  refine lv_iconst (v := 1) hx hb dL_law_816 (by decide) ?_
  refine lv_iadd hx hb dL_law_817 ?_
  refine va_sld hx hb hXs hbl hbA hS (lwi 1 hi) dL_law_818 ?_
  refine lv_aload_n hx hb dL_law_819 rfl (lv_at hl 5 rfl) ?_
  refine lv_iload hx hb dL_law_820 (lv_at hl 1 rfl) ?_
  refine lv_iconst (v := 2) hx hb dL_law_822 (by decide) ?_
  refine lv_iadd hx hb dL_law_823 ?_
  refine va_sld hx hb hXs hbl hbA hS (lwi 2 hi) dL_law_824 ?_
  have hP : va_P D vwCl (((no, .inl (cy 2, 1, .inr (.inl g2))) :: W2) ++ Wm) H := vP_pm hP (List.Perm.cons _ List.perm_append_comm)
  have hD : va_D A (((no, .inl (cy 2, 1, .inr (.inl g2))) :: W2) ++ Wm) := vD_pm hD (List.Perm.cons _ List.perm_append_comm)
  obtain ⟨qM_, fM_, hqM⟩ := IMo_at hM
  refine kVi (As := [.int (xs (i_ + 1).toNatClampNeg), .int (xs (i_ + 2).toNatClampNeg)]) (rest := []) (wr := ((no, .inl (cy 2, 1, .inr (.inl g2))) :: W2)) hX hE (M_season l D cy nm h M Wm (xs (i_ + 1).toNatClampNeg) (xs (i_ + 2).toNatClampNeg) hM hlo (by omega)) (cwVA 2 htA wd_1854 wd_1851 wd_10 wd_1852 wd_1853 (by decide +kernel) ⟨by decide, by decide⟩) hP hD hS (apR ((no, .inl (cy 2, 1, .inr (.inl g2))) :: W2) Wm) (List.range ((no, .inl (cy 2, 1, .inr (.inl g2))) :: W2).length) (ap_R ((no, .inl (cy 2, 1, .inr (.inl g2))) :: W2) Wm) (ap_C ((no, .inl (cy 2, 1, .inr (.inl g2))) :: W2) Wm) (ap_nd ((no, .inl (cy 2, 1, .inr (.inl g2))) :: W2) Wm) qM_ hqM rfl rfl rfl hl.1 rfl (Nat.le_of_ble_eq_true rfl) dL_law_825 ⟨rmC (by dsimp only; omega), rmS (by dsimp only; omega)⟩ (fun rr_ Wm2 H locs hw hP hD hS => ?_)
  obtain ⟨km_, Mn, hms, hM2⟩ := hw
  refine W.widen (k := kc + 1) (n := ks + 6) (Nat.le_refl _) (Nat.le_refl _) ?_
  refine lv_istore (lv' := [(6, .int rr_), (5, .int rc_), (4, .int i_), (3, .ref no), (2, .ref nm), (1, .ref nx), (0, .ref b)]) hx hb dL_law_828 hl (by decide) rfl (fun ls hl => ?_)
  refine lv_goto (tgt := 2150) hx hb dL_law_830 (by decide) ?_
  have hP : va_P D vwCl ((no, .inl (cy 2, 1, .inr (.inl g2))) :: (W2 ++ Wm2)) H := hP
  have hP := vP_pm hP (List.Perm.cons _ List.perm_append_comm)
  have hD := vD_pm hD (List.Perm.cons _ List.perm_append_comm)
  exact W.widen (k := kc + 1) (n := ks + 6) (Nat.le_refl _) (Nat.le_refl _) (kk Sn Mn W2 Wm2 g2 (kc + 1) (ks + 6) H locs ls hI2 ⟨_, hM2⟩ (sm_season hR hcs hms) (by omega) (by omega) hP hD hS (lv_sub hl [2, 3, 4, 5, 6] rfl))
