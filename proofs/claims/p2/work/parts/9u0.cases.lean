set_option maxHeartbeats 4000000 in
set_option maxRecDepth 100000 in
theorem cs_0 (l : Launch) (hlt : l.stackTraces = false) {p : Program} {e : Env} {s : State} {m : MethodId} {below : List Frame} {meth : Method} {c : Code} {D : va_G} {cy : Nat → ClassId} {A : Nat → Prop} {b L : Nat} {xs : Nat → Int32} {Q : State → Prop} (hX : Ex p s m #[Value.ref b] meth c code ret 8 RL) (hE : Ew D cy A s) (hXs : va_X b L xs s s.heap) (hbl : b < s.heap.size) (hbA : ¬ A b) {nx nm no : Nat} {h : Int} {S : CSt} {M : MSt} {Wc Wm : va_W} {g : Nat → Int64} {kc ks : Nat} {i_ : Int32} {H : Heap} {locs : List Loc} {ls : Array Slot} (hI : IC cy nx S Wc) (hM : IMo cy nm h M Wm) (hR : RSM S M) (hlo : 999 ≤ h) (hhi : h + 2000 ≤ 1000000) (hkc : (kc : Int) + 2 * S.1.1.toInt ≤ 500000) (hks : (ks : Int) + 471 * S.1.1.toInt ≤ 7000000) (hi : 0 ≤ i_.toInt ∧ i_.toInt + 7 ≤ L ∧ L ≤ 3584) (hP : va_P D vwCl ((no, .inl (cy 2, 1, .inr (.inl g))) :: (Wm ++ Wc)) H) (hD : va_D A ((no, .inl (cy 2, 1, .inr (.inl g))) :: (Wm ++ Wc))) (hS : va_S A s.heap H locs) (hl : lv_has ls 8 [(4, .int i_), (3, .ref no), (2, .ref nm), (1, .ref nx), (0, .ref b)]) (kk : ∀ (S2 : CSt) (M2 : MSt) (W2 Wm2 : va_W) (g2 : Nat → Int64) (kc2 ks2 : Nat) (H : Heap) (locs : List Loc) (ls : Array Slot), IC cy nx S2 W2 → IMo cy nm (h + 900) M2 Wm2 → RSM S2 M2 → (kc2 : Int) + 2 * S2.1.1.toInt ≤ kc + 2 * S.1.1.toInt + 200 → (ks2 : Int) + 471 * S2.1.1.toInt ≤ ks + 471 * S.1.1.toInt + 9420 → va_P D vwCl ((no, .inl (cy 2, 1, .inr (.inl g2))) :: (Wm2 ++ W2)) H → va_D A ((no, .inl (cy 2, 1, .inr (.inl g2))) :: (Wm2 ++ W2)) → va_S A s.heap H locs → lv_has ls 8 [(4, .int i_), (3, .ref no), (2, .ref nm), (1, .ref nx), (0, .ref b)] → W p l e room_1 s m #[Value.ref b] below meth c H locs kc2 ks2 Q (F0 m 2150 ls [])) : W p l e room_1 s m #[Value.ref b] below meth c H locs kc ks Q (F0 m 244 ls []) := by
  obtain ⟨hx, hb, hr, hml, hown, htA, hlk⟩ := id hX
  have hK := hE.1
  have hT0 := IC_T hI
  refine lv_aload_n hx hb dL_law_244 rfl (lv_at hl 3 rfl) ?_
  refine lv_aload_n hx hb dL_law_245 rfl (lv_at hl 4 rfl) ?_
  refine lv_iload hx hb dL_law_246 (lv_at hl 0 rfl) ?_
  refine lv_iconst (v := 1) hx hb dL_law_248 (by decide) ?_
  refine lv_iadd hx hb dL_law_249 ?_
  refine va_sld hx hb hXs hbl hbA hS (lwi 1 hi) dL_law_250 ?_
  refine lv_aload_n hx hb dL_law_251 rfl (lv_at hl 4 rfl) ?_
  refine lv_iload hx hb dL_law_252 (lv_at hl 0 rfl) ?_
  refine lv_iconst (v := 2) hx hb dL_law_254 (by decide) ?_
  refine lv_iadd hx hb dL_law_255 ?_
  refine va_sld hx hb hXs hbl hbA hS (lwi 2 hi) dL_law_256 ?_
  refine lv_aload_n hx hb dL_law_257 rfl (lv_at hl 4 rfl) ?_
  refine lv_iload hx hb dL_law_258 (lv_at hl 0 rfl) ?_
  refine lv_iconst (v := 3) hx hb dL_law_260 (by decide) ?_
  refine lv_iadd hx hb dL_law_261 ?_
  refine va_sld hx hb hXs hbl hbA hS (lwi 3 hi) dL_law_262 ?_
  refine lv_aload_n hx hb dL_law_263 rfl (lv_at hl 4 rfl) ?_
  refine lv_iload hx hb dL_law_264 (lv_at hl 0 rfl) ?_
  refine lv_iconst (v := 4) hx hb dL_law_266 (by decide) ?_
  refine lv_iadd hx hb dL_law_267 ?_
  refine va_sld hx hb hXs hbl hbA hS (lwi 4 hi) dL_law_268 ?_
  refine lv_aload_n hx hb dL_law_269 rfl (lv_at hl 4 rfl) ?_
  refine lv_iload hx hb dL_law_270 (lv_at hl 0 rfl) ?_
  refine lv_iconst (v := 5) hx hb dL_law_272 (by decide) ?_
  refine lv_iadd hx hb dL_law_273 ?_
  refine va_sld hx hb hXs hbl hbA hS (lwi 5 hi) dL_law_274 ?_
  obtain ⟨qI_, fI_, hqI⟩ := IC_at hI
  have hP : va_P D vwCl (((no, .inl (cy 2, 1, .inr (.inl g))) :: Wm) ++ Wc) H := hP
  have hD : va_D A (((no, .inl (cy 2, 1, .inr (.inl g))) :: Wm) ++ Wc) := hD
  refine kVi (As := [.int (xs (i_ + 1).toNatClampNeg), .int (xs (i_ + 2).toNatClampNeg), .int (xs (i_ + 3).toNatClampNeg), .int (xs (i_ + 4).toNatClampNeg), .int (xs (i_ + 5).toNatClampNeg)]) (rest := []) (wr := ((no, .inl (cy 2, 1, .inr (.inl g))) :: Wm)) hX hE (I_feed l D cy nx S Wc (xs (i_ + 1).toNatClampNeg) (xs (i_ + 2).toNatClampNeg) (xs (i_ + 3).toNatClampNeg) (xs (i_ + 4).toNatClampNeg) (xs (i_ + 5).toNatClampNeg) hI) (cwVA 5 htA wd_351 wd_348 wd_1 wd_349 wd_350 (by decide +kernel) ⟨by decide, by decide⟩) hP hD hS (apR ((no, .inl (cy 2, 1, .inr (.inl g))) :: Wm) Wc) (List.range ((no, .inl (cy 2, 1, .inr (.inl g))) :: Wm).length) (ap_R ((no, .inl (cy 2, 1, .inr (.inl g))) :: Wm) Wc) (ap_C ((no, .inl (cy 2, 1, .inr (.inl g))) :: Wm) Wc) (ap_nd ((no, .inl (cy 2, 1, .inr (.inl g))) :: Wm) Wc) qI_ hqI rfl rfl rfl hl.1 rfl (Nat.le_of_ble_eq_true rfl) dL_law_275 ⟨rmC (by dsimp only; omega), rmS (by dsimp only; omega)⟩ (fun rc_ W2 H locs hw hP hD hS => ?_)
  refine W.widen (k := kc + 0) (n := ks + 0) (Nat.le_refl _) (Nat.le_refl _) ?_
  obtain ⟨Sn, hcs, hT2, hI2⟩ := hw
  refine lv_aload_n hx hb dL_law_278 rfl (lv_at hl 2 rfl) ?_
  refine lv_aload_n hx hb dL_law_279 rfl (lv_at hl 4 rfl) ?_
  refine lv_iload hx hb dL_law_280 (lv_at hl 0 rfl) ?_
  refine lv_iconst (v := 1) hx hb dL_law_282 (by decide) ?_
  refine lv_iadd hx hb dL_law_283 ?_
  refine va_sld hx hb hXs hbl hbA hS (lwi 1 hi) dL_law_284 ?_
  refine lv_aload_n hx hb dL_law_285 rfl (lv_at hl 4 rfl) ?_
  refine lv_iload hx hb dL_law_286 (lv_at hl 0 rfl) ?_
  refine lv_iconst (v := 2) hx hb dL_law_288 (by decide) ?_
  refine lv_iadd hx hb dL_law_289 ?_
  refine va_sld hx hb hXs hbl hbA hS (lwi 2 hi) dL_law_290 ?_
  refine lv_aload_n hx hb dL_law_291 rfl (lv_at hl 4 rfl) ?_
  refine lv_iload hx hb dL_law_292 (lv_at hl 0 rfl) ?_
  refine lv_iconst (v := 3) hx hb dL_law_294 (by decide) ?_
  refine lv_iadd hx hb dL_law_295 ?_
  refine va_sld hx hb hXs hbl hbA hS (lwi 3 hi) dL_law_296 ?_
  refine lv_aload_n hx hb dL_law_297 rfl (lv_at hl 4 rfl) ?_
  refine lv_iload hx hb dL_law_298 (lv_at hl 0 rfl) ?_
  refine lv_iconst (v := 4) hx hb dL_law_300 (by decide) ?_
  refine lv_iadd hx hb dL_law_301 ?_
  refine va_sld hx hb hXs hbl hbA hS (lwi 4 hi) dL_law_302 ?_
  refine lv_aload_n hx hb dL_law_303 rfl (lv_at hl 4 rfl) ?_
  refine lv_iload hx hb dL_law_304 (lv_at hl 0 rfl) ?_
  refine lv_iconst (v := 5) hx hb dL_law_306 (by decide) ?_
  refine lv_iadd hx hb dL_law_307 ?_
  refine va_sld hx hb hXs hbl hbA hS (lwi 5 hi) dL_law_308 ?_
  have hP : va_P D vwCl (((no, .inl (cy 2, 1, .inr (.inl g))) :: W2) ++ Wm) H := vP_pm hP (List.Perm.cons _ List.perm_append_comm)
  have hD : va_D A (((no, .inl (cy 2, 1, .inr (.inl g))) :: W2) ++ Wm) := vD_pm hD (List.Perm.cons _ List.perm_append_comm)
  obtain ⟨qM_, fM_, hqM⟩ := IMo_at hM
  refine kVi (As := [.int (xs (i_ + 1).toNatClampNeg), .int (xs (i_ + 2).toNatClampNeg), .int (xs (i_ + 3).toNatClampNeg), .int (xs (i_ + 4).toNatClampNeg), .int (xs (i_ + 5).toNatClampNeg)]) (rest := [.int rc_]) (wr := ((no, .inl (cy 2, 1, .inr (.inl g))) :: W2)) hX hE (M_feed l D cy nm h M Wm (xs (i_ + 1).toNatClampNeg) (xs (i_ + 2).toNatClampNeg) (xs (i_ + 3).toNatClampNeg) (xs (i_ + 4).toNatClampNeg) (xs (i_ + 5).toNatClampNeg) hM hlo (by omega)) (cwVA 5 htA wd_1476 wd_1473 wd_10 wd_1474 wd_1475 (by decide +kernel) ⟨by decide, by decide⟩) hP hD hS (apR ((no, .inl (cy 2, 1, .inr (.inl g))) :: W2) Wm) (List.range ((no, .inl (cy 2, 1, .inr (.inl g))) :: W2).length) (ap_R ((no, .inl (cy 2, 1, .inr (.inl g))) :: W2) Wm) (ap_C ((no, .inl (cy 2, 1, .inr (.inl g))) :: W2) Wm) (ap_nd ((no, .inl (cy 2, 1, .inr (.inl g))) :: W2) Wm) qM_ hqM rfl rfl rfl hl.1 rfl (Nat.le_of_ble_eq_true rfl) dL_law_309 ⟨rmC (by dsimp only; omega), rmS (by dsimp only; omega)⟩ (fun rr_ Wm2 H locs hw hP hD hS => ?_)
  obtain ⟨km_, Mn, hms, hM2⟩ := hw
  have hkq : rc_ = rr_ := sc_feed hR hcs hms
  refine W.widen (k := kc + 0) (n := ks + 0) (Nat.le_refl _) (Nat.le_refl _) ?_
  refine lv_icmp_eq (tgt := 2150) hx hb dL_law_312 (by decide) (fun _ => ?_) (fun q => absurd hkq q)
  have hP : va_P D vwCl ((no, .inl (cy 2, 1, .inr (.inl g))) :: (W2 ++ Wm2)) H := hP
  have hP := vP_pm hP (List.Perm.cons _ List.perm_append_comm)
  have hD := vD_pm hD (List.Perm.cons _ List.perm_append_comm)
  exact W.widen (k := kc + 0) (n := ks + 0) (Nat.le_refl _) (Nat.le_refl _) (kk Sn Mn W2 Wm2 g (kc + 0) (ks + 0) H locs ls hI2 ⟨_, hM2⟩ (sm_feed hR hcs hms) (by omega) (by omega) hP hD hS (lv_sub hl [0, 1, 2, 3, 4] rfl))
set_option maxHeartbeats 4000000 in
set_option maxRecDepth 100000 in
theorem cs_1 (l : Launch) (hlt : l.stackTraces = false) {p : Program} {e : Env} {s : State} {m : MethodId} {below : List Frame} {meth : Method} {c : Code} {D : va_G} {cy : Nat → ClassId} {A : Nat → Prop} {b L : Nat} {xs : Nat → Int32} {Q : State → Prop} (hX : Ex p s m #[Value.ref b] meth c code ret 8 RL) (hE : Ew D cy A s) (hXs : va_X b L xs s s.heap) (hbl : b < s.heap.size) (hbA : ¬ A b) {nx nm no : Nat} {h : Int} {S : CSt} {M : MSt} {Wc Wm : va_W} {g : Nat → Int64} {kc ks : Nat} {i_ : Int32} {H : Heap} {locs : List Loc} {ls : Array Slot} (hI : IC cy nx S Wc) (hM : IMo cy nm h M Wm) (hR : RSM S M) (hlo : 999 ≤ h) (hhi : h + 2000 ≤ 1000000) (hkc : (kc : Int) + 2 * S.1.1.toInt ≤ 500000) (hks : (ks : Int) + 471 * S.1.1.toInt ≤ 7000000) (hi : 0 ≤ i_.toInt ∧ i_.toInt + 7 ≤ L ∧ L ≤ 3584) (hP : va_P D vwCl ((no, .inl (cy 2, 1, .inr (.inl g))) :: (Wm ++ Wc)) H) (hD : va_D A ((no, .inl (cy 2, 1, .inr (.inl g))) :: (Wm ++ Wc))) (hS : va_S A s.heap H locs) (hl : lv_has ls 8 [(4, .int i_), (3, .ref no), (2, .ref nm), (1, .ref nx), (0, .ref b)]) (kk : ∀ (S2 : CSt) (M2 : MSt) (W2 Wm2 : va_W) (g2 : Nat → Int64) (kc2 ks2 : Nat) (H : Heap) (locs : List Loc) (ls : Array Slot), IC cy nx S2 W2 → IMo cy nm (h + 900) M2 Wm2 → RSM S2 M2 → (kc2 : Int) + 2 * S2.1.1.toInt ≤ kc + 2 * S.1.1.toInt + 200 → (ks2 : Int) + 471 * S2.1.1.toInt ≤ ks + 471 * S.1.1.toInt + 9420 → va_P D vwCl ((no, .inl (cy 2, 1, .inr (.inl g2))) :: (Wm2 ++ W2)) H → va_D A ((no, .inl (cy 2, 1, .inr (.inl g2))) :: (Wm2 ++ W2)) → va_S A s.heap H locs → lv_has ls 8 [(4, .int i_), (3, .ref no), (2, .ref nm), (1, .ref nx), (0, .ref b)] → W p l e room_1 s m #[Value.ref b] below meth c H locs kc2 ks2 Q (F0 m 2150 ls [])) : W p l e room_1 s m #[Value.ref b] below meth c H locs kc ks Q (F0 m 317 ls []) := by
  obtain ⟨hx, hb, hr, hml, hown, htA, hlk⟩ := id hX
  have hK := hE.1
  have hT0 := IC_T hI
  refine lv_aload_n hx hb dL_law_317 rfl (lv_at hl 3 rfl) ?_
  refine lv_aload_n hx hb dL_law_318 rfl (lv_at hl 4 rfl) ?_
  refine lv_iload hx hb dL_law_319 (lv_at hl 0 rfl) ?_
  refine lv_iconst (v := 1) hx hb dL_law_321 (by decide) ?_
  refine lv_iadd hx hb dL_law_322 ?_
  refine va_sld hx hb hXs hbl hbA hS (lwi 1 hi) dL_law_323 ?_
  refine lv_aload_n hx hb dL_law_324 rfl (lv_at hl 1 rfl) ?_
  by_cases hn : 0 ≤ (xs (i_ + 1).toNatClampNeg).toInt ∧ (xs (i_ + 1).toNatClampNeg).toInt ≤ S.1.1.toInt
  · have hP : va_P D vwCl (Wm ++ ((no, .inl (cy 2, 1, .inr (.inl g))) :: Wc)) H := vP_pm hP List.perm_middle.symm
    have hD : va_D A (Wm ++ ((no, .inl (cy 2, 1, .inr (.inl g))) :: Wc)) := vD_pm hD List.perm_middle.symm
    refine kHi (As := [.ref nx, .int (xs (i_ + 1).toNatClampNeg), .ref no]) (rest := []) (wr := Wm) hX hE (H_district l hlt D cy nx S Wc no g (xs (i_ + 1).toNatClampNeg) hn hI) (cwHA 3 htA wd_525 wd_523 wd_0 wd_524 (by decide +kernel) ⟨(by first | decide | (dsimp only; omega) | (dsimp only; decide) | (refine ⟨?_, ?_⟩ <;> dsimp only <;> omega)), (by first | decide | (dsimp only; omega) | (dsimp only; decide) | (refine ⟨?_, ?_⟩ <;> dsimp only <;> omega))⟩) hP hD hS (apR Wm ((no, .inl (cy 2, 1, .inr (.inl g))) :: Wc)) (List.range Wm.length) (ap_R Wm ((no, .inl (cy 2, 1, .inr (.inl g))) :: Wc)) (ap_C Wm ((no, .inl (cy 2, 1, .inr (.inl g))) :: Wc)) (ap_nd Wm ((no, .inl (cy 2, 1, .inr (.inl g))) :: Wc)) rfl hl.1 rfl (Nat.le_of_ble_eq_true rfl) dL_law_325 ⟨rmC (by dsimp only; omega), rmS (by dsimp only; omega)⟩ (fun rc_ W1 H locs hw hP hD hS => ?_)
    refine W.widen (k := kc + (25 + 2 * (xs (i_ + 1).toNatClampNeg).toInt.toNat)) (n := ks + (4806 + 471 * (xs (i_ + 1).toNatClampNeg).toInt.toNat)) (Nat.le_refl _) (Nat.le_refl _) ?_
    obtain ⟨g2, W2, Sn, hcs, hT2, hI2, rfl⟩ := hw
    have hP := vP_pm hP List.perm_middle
    have hD := vD_pm hD List.perm_middle
    have hT2 : Sn.1.1.toInt = 0 := by rw [hT2]; decide
    refine lv_istore (lv' := [(5, .int rc_), (4, .int i_), (3, .ref no), (2, .ref nm), (1, .ref nx), (0, .ref b)]) hx hb dL_law_328 hl (by decide) rfl (fun ls hl => ?_)
    refine lv_aload_n hx hb dL_law_330 rfl (lv_at hl 3 rfl) ?_
    refine lv_aload_n hx hb dL_law_331 rfl (lv_at hl 5 rfl) ?_
    refine lv_iload hx hb dL_law_332 (lv_at hl 1 rfl) ?_
    refine lv_iconst (v := 1) hx hb dL_law_334 (by decide) ?_
    refine lv_iadd hx hb dL_law_335 ?_
    refine va_sld hx hb hXs hbl hbA hS (lwi 1 hi) dL_law_336 ?_
    have hP : va_P D vwCl (((no, .inl (cy 2, 1, .inr (.inl g2))) :: W2) ++ Wm) H := vP_pm hP (List.Perm.cons _ List.perm_append_comm)
    have hD : va_D A (((no, .inl (cy 2, 1, .inr (.inl g2))) :: W2) ++ Wm) := vD_pm hD (List.Perm.cons _ List.perm_append_comm)
    obtain ⟨qM_, fM_, hqM⟩ := IMo_at hM
    refine kVi (As := [.int (xs (i_ + 1).toNatClampNeg)]) (rest := []) (wr := ((no, .inl (cy 2, 1, .inr (.inl g2))) :: W2)) hX hE (M_district l D cy nm h M Wm (xs (i_ + 1).toNatClampNeg) hM hlo (by omega)) (cwVA 1 htA wd_1480 wd_1477 wd_10 wd_1478 wd_1479 (by decide +kernel) ⟨by decide, by decide⟩) hP hD hS (apR ((no, .inl (cy 2, 1, .inr (.inl g2))) :: W2) Wm) (List.range ((no, .inl (cy 2, 1, .inr (.inl g2))) :: W2).length) (ap_R ((no, .inl (cy 2, 1, .inr (.inl g2))) :: W2) Wm) (ap_C ((no, .inl (cy 2, 1, .inr (.inl g2))) :: W2) Wm) (ap_nd ((no, .inl (cy 2, 1, .inr (.inl g2))) :: W2) Wm) qM_ hqM rfl rfl rfl hl.1 rfl (Nat.le_of_ble_eq_true rfl) dL_law_337 ⟨rmC (by dsimp only; omega), rmS (by dsimp only; omega)⟩ (fun rr_ Wm2 H locs hw hP hD hS => ?_)
    obtain ⟨km_, Mn, hms, hM2⟩ := hw
    refine W.widen (k := kc + (25 + 2 * (xs (i_ + 1).toNatClampNeg).toInt.toNat)) (n := ks + (4806 + 471 * (xs (i_ + 1).toNatClampNeg).toInt.toNat)) (Nat.le_refl _) (Nat.le_refl _) ?_
    refine lv_istore (lv' := [(6, .int rr_), (5, .int rc_), (4, .int i_), (3, .ref no), (2, .ref nm), (1, .ref nx), (0, .ref b)]) hx hb dL_law_340 hl (by decide) rfl (fun ls hl => ?_)
    refine lv_goto (tgt := 2150) hx hb dL_law_342 (by decide) ?_
    have hP : va_P D vwCl ((no, .inl (cy 2, 1, .inr (.inl g2))) :: (W2 ++ Wm2)) H := hP
    have hP := vP_pm hP (List.Perm.cons _ List.perm_append_comm)
    have hD := vD_pm hD (List.Perm.cons _ List.perm_append_comm)
    exact W.widen (k := kc + (25 + 2 * (xs (i_ + 1).toNatClampNeg).toInt.toNat)) (n := ks + (4806 + 471 * (xs (i_ + 1).toNatClampNeg).toInt.toNat)) (Nat.le_refl _) (Nat.le_refl _) (kk Sn Mn W2 Wm2 g2 (kc + (25 + 2 * (xs (i_ + 1).toNatClampNeg).toInt.toNat)) (ks + (4806 + 471 * (xs (i_ + 1).toNatClampNeg).toInt.toNat)) H locs ls hI2 ⟨_, hM2⟩ (sm_district hR hcs hms) (by omega) (by omega) hP hD hS (lv_sub hl [2, 3, 4, 5, 6] rfl))
  · have hP : va_P D vwCl (Wm ++ ((no, .inl (cy 2, 1, .inr (.inl g))) :: Wc)) H := vP_pm hP List.perm_middle.symm
    have hD : va_D A (Wm ++ ((no, .inl (cy 2, 1, .inr (.inl g))) :: Wc)) := vD_pm hD List.perm_middle.symm
    refine kHi (As := [.ref nx, .int (xs (i_ + 1).toNatClampNeg), .ref no]) (rest := []) (wr := Wm) hX hE (H_district_bad l hlt D cy nx S Wc no g (xs (i_ + 1).toNatClampNeg) hn hI) (cwHA 3 htA wd_525 wd_523 wd_0 wd_524 (by decide +kernel) ⟨by decide, by decide⟩) hP hD hS (apR Wm ((no, .inl (cy 2, 1, .inr (.inl g))) :: Wc)) (List.range Wm.length) (ap_R Wm ((no, .inl (cy 2, 1, .inr (.inl g))) :: Wc)) (ap_C Wm ((no, .inl (cy 2, 1, .inr (.inl g))) :: Wc)) (ap_nd Wm ((no, .inl (cy 2, 1, .inr (.inl g))) :: Wc)) rfl hl.1 rfl (Nat.le_of_ble_eq_true rfl) dL_law_325 ⟨rmC (by dsimp only; omega), rmS (by dsimp only; omega)⟩ (fun rc_ W1 H locs hw hP hD hS => ?_)
    refine W.widen (k := kc + 1) (n := ks + 6) (Nat.le_refl _) (Nat.le_refl _) ?_
    obtain ⟨g2, W2, Sn, hcs, hT2, hI2, rfl⟩ := hw
    have hP := vP_pm hP List.perm_middle
    have hD := vD_pm hD List.perm_middle
    refine lv_istore (lv' := [(5, .int rc_), (4, .int i_), (3, .ref no), (2, .ref nm), (1, .ref nx), (0, .ref b)]) hx hb dL_law_328 hl (by decide) rfl (fun ls hl => ?_)
    refine lv_aload_n hx hb dL_law_330 rfl (lv_at hl 3 rfl) ?_
    refine lv_aload_n hx hb dL_law_331 rfl (lv_at hl 5 rfl) ?_
    refine lv_iload hx hb dL_law_332 (lv_at hl 1 rfl) ?_
    refine lv_iconst (v := 1) hx hb dL_law_334 (by decide) ?_
    refine lv_iadd hx hb dL_law_335 ?_
    refine va_sld hx hb hXs hbl hbA hS (lwi 1 hi) dL_law_336 ?_
    have hP : va_P D vwCl (((no, .inl (cy 2, 1, .inr (.inl g2))) :: W2) ++ Wm) H := vP_pm hP (List.Perm.cons _ List.perm_append_comm)
    have hD : va_D A (((no, .inl (cy 2, 1, .inr (.inl g2))) :: W2) ++ Wm) := vD_pm hD (List.Perm.cons _ List.perm_append_comm)
    obtain ⟨qM_, fM_, hqM⟩ := IMo_at hM
    refine kVi (As := [.int (xs (i_ + 1).toNatClampNeg)]) (rest := []) (wr := ((no, .inl (cy 2, 1, .inr (.inl g2))) :: W2)) hX hE (M_district l D cy nm h M Wm (xs (i_ + 1).toNatClampNeg) hM hlo (by omega)) (cwVA 1 htA wd_1480 wd_1477 wd_10 wd_1478 wd_1479 (by decide +kernel) ⟨by decide, by decide⟩) hP hD hS (apR ((no, .inl (cy 2, 1, .inr (.inl g2))) :: W2) Wm) (List.range ((no, .inl (cy 2, 1, .inr (.inl g2))) :: W2).length) (ap_R ((no, .inl (cy 2, 1, .inr (.inl g2))) :: W2) Wm) (ap_C ((no, .inl (cy 2, 1, .inr (.inl g2))) :: W2) Wm) (ap_nd ((no, .inl (cy 2, 1, .inr (.inl g2))) :: W2) Wm) qM_ hqM rfl rfl rfl hl.1 rfl (Nat.le_of_ble_eq_true rfl) dL_law_337 ⟨rmC (by dsimp only; omega), rmS (by dsimp only; omega)⟩ (fun rr_ Wm2 H locs hw hP hD hS => ?_)
    obtain ⟨km_, Mn, hms, hM2⟩ := hw
    refine W.widen (k := kc + 1) (n := ks + 6) (Nat.le_refl _) (Nat.le_refl _) ?_
    refine lv_istore (lv' := [(6, .int rr_), (5, .int rc_), (4, .int i_), (3, .ref no), (2, .ref nm), (1, .ref nx), (0, .ref b)]) hx hb dL_law_340 hl (by decide) rfl (fun ls hl => ?_)
    refine lv_goto (tgt := 2150) hx hb dL_law_342 (by decide) ?_
    have hP : va_P D vwCl ((no, .inl (cy 2, 1, .inr (.inl g2))) :: (W2 ++ Wm2)) H := hP
    have hP := vP_pm hP (List.Perm.cons _ List.perm_append_comm)
    have hD := vD_pm hD (List.Perm.cons _ List.perm_append_comm)
    exact W.widen (k := kc + 1) (n := ks + 6) (Nat.le_refl _) (Nat.le_refl _) (kk Sn Mn W2 Wm2 g2 (kc + 1) (ks + 6) H locs ls hI2 ⟨_, hM2⟩ (sm_district hR hcs hms) (by omega) (by omega) hP hD hS (lv_sub hl [2, 3, 4, 5, 6] rfl))
set_option maxHeartbeats 4000000 in
set_option maxRecDepth 100000 in
theorem cs_2 (l : Launch) (hlt : l.stackTraces = false) {p : Program} {e : Env} {s : State} {m : MethodId} {below : List Frame} {meth : Method} {c : Code} {D : va_G} {cy : Nat → ClassId} {A : Nat → Prop} {b L : Nat} {xs : Nat → Int32} {Q : State → Prop} (hX : Ex p s m #[Value.ref b] meth c code ret 8 RL) (hE : Ew D cy A s) (hXs : va_X b L xs s s.heap) (hbl : b < s.heap.size) (hbA : ¬ A b) {nx nm no : Nat} {h : Int} {S : CSt} {M : MSt} {Wc Wm : va_W} {g : Nat → Int64} {kc ks : Nat} {i_ : Int32} {H : Heap} {locs : List Loc} {ls : Array Slot} (hI : IC cy nx S Wc) (hM : IMo cy nm h M Wm) (hR : RSM S M) (hlo : 999 ≤ h) (hhi : h + 2000 ≤ 1000000) (hkc : (kc : Int) + 2 * S.1.1.toInt ≤ 500000) (hks : (ks : Int) + 471 * S.1.1.toInt ≤ 7000000) (hi : 0 ≤ i_.toInt ∧ i_.toInt + 7 ≤ L ∧ L ≤ 3584) (hP : va_P D vwCl ((no, .inl (cy 2, 1, .inr (.inl g))) :: (Wm ++ Wc)) H) (hD : va_D A ((no, .inl (cy 2, 1, .inr (.inl g))) :: (Wm ++ Wc))) (hS : va_S A s.heap H locs) (hl : lv_has ls 8 [(4, .int i_), (3, .ref no), (2, .ref nm), (1, .ref nx), (0, .ref b)]) (kk : ∀ (S2 : CSt) (M2 : MSt) (W2 Wm2 : va_W) (g2 : Nat → Int64) (kc2 ks2 : Nat) (H : Heap) (locs : List Loc) (ls : Array Slot), IC cy nx S2 W2 → IMo cy nm (h + 900) M2 Wm2 → RSM S2 M2 → (kc2 : Int) + 2 * S2.1.1.toInt ≤ kc + 2 * S.1.1.toInt + 200 → (ks2 : Int) + 471 * S2.1.1.toInt ≤ ks + 471 * S.1.1.toInt + 9420 → va_P D vwCl ((no, .inl (cy 2, 1, .inr (.inl g2))) :: (Wm2 ++ W2)) H → va_D A ((no, .inl (cy 2, 1, .inr (.inl g2))) :: (Wm2 ++ W2)) → va_S A s.heap H locs → lv_has ls 8 [(4, .int i_), (3, .ref no), (2, .ref nm), (1, .ref nx), (0, .ref b)] → W p l e room_1 s m #[Value.ref b] below meth c H locs kc2 ks2 Q (F0 m 2150 ls [])) : W p l e room_1 s m #[Value.ref b] below meth c H locs kc ks Q (F0 m 345 ls []) := by
  obtain ⟨hx, hb, hr, hml, hown, htA, hlk⟩ := id hX
  have hK := hE.1
  have hT0 := IC_T hI
  refine lv_aload_n hx hb dL_law_345 rfl (lv_at hl 3 rfl) ?_
  refine lv_aload_n hx hb dL_law_346 rfl (lv_at hl 4 rfl) ?_
  refine lv_iload hx hb dL_law_347 (lv_at hl 0 rfl) ?_
  refine lv_iconst (v := 1) hx hb dL_law_349 (by decide) ?_
  refine lv_iadd hx hb dL_law_350 ?_
  refine va_sld hx hb hXs hbl hbA hS (lwi 1 hi) dL_law_351 ?_
  obtain ⟨qI_, fI_, hqI⟩ := IC_at hI
  have hP : va_P D vwCl (((no, .inl (cy 2, 1, .inr (.inl g))) :: Wm) ++ Wc) H := hP
  have hD : va_D A (((no, .inl (cy 2, 1, .inr (.inl g))) :: Wm) ++ Wc) := hD
  refine kVi (As := [.int (xs (i_ + 1).toNatClampNeg)]) (rest := []) (wr := ((no, .inl (cy 2, 1, .inr (.inl g))) :: Wm)) hX hE (I_fault l D cy nx S Wc (xs (i_ + 1).toNatClampNeg) hI) (cwVA 1 htA wd_359 wd_356 wd_1 wd_357 wd_358 (by decide +kernel) ⟨by decide, by decide⟩) hP hD hS (apR ((no, .inl (cy 2, 1, .inr (.inl g))) :: Wm) Wc) (List.range ((no, .inl (cy 2, 1, .inr (.inl g))) :: Wm).length) (ap_R ((no, .inl (cy 2, 1, .inr (.inl g))) :: Wm) Wc) (ap_C ((no, .inl (cy 2, 1, .inr (.inl g))) :: Wm) Wc) (ap_nd ((no, .inl (cy 2, 1, .inr (.inl g))) :: Wm) Wc) qI_ hqI rfl rfl rfl hl.1 rfl (Nat.le_of_ble_eq_true rfl) dL_law_352 ⟨rmC (by dsimp only; omega), rmS (by dsimp only; omega)⟩ (fun rc_ W2 H locs hw hP hD hS => ?_)
  refine W.widen (k := kc + 0) (n := ks + 0) (Nat.le_refl _) (Nat.le_refl _) ?_
  obtain ⟨Sn, hcs, hT2, hI2⟩ := hw
  refine lv_pop hx hb dL_law_355 rfl ?_
  refine lv_aload_n hx hb dL_law_356 rfl (lv_at hl 2 rfl) ?_
  refine lv_aload_n hx hb dL_law_357 rfl (lv_at hl 4 rfl) ?_
  refine lv_iload hx hb dL_law_358 (lv_at hl 0 rfl) ?_
  refine lv_iconst (v := 1) hx hb dL_law_360 (by decide) ?_
  refine lv_iadd hx hb dL_law_361 ?_
  refine va_sld hx hb hXs hbl hbA hS (lwi 1 hi) dL_law_362 ?_
  have hP : va_P D vwCl (((no, .inl (cy 2, 1, .inr (.inl g))) :: W2) ++ Wm) H := vP_pm hP (List.Perm.cons _ List.perm_append_comm)
  have hD : va_D A (((no, .inl (cy 2, 1, .inr (.inl g))) :: W2) ++ Wm) := vD_pm hD (List.Perm.cons _ List.perm_append_comm)
  obtain ⟨qM_, fM_, hqM⟩ := IMo_at hM
  refine kVi (As := [.int (xs (i_ + 1).toNatClampNeg)]) (rest := []) (wr := ((no, .inl (cy 2, 1, .inr (.inl g))) :: W2)) hX hE (M_fault l D cy nm h M Wm (xs (i_ + 1).toNatClampNeg) hM hlo (by omega)) (cwVA 1 htA wd_1653 wd_1650 wd_10 wd_1651 wd_1652 (by decide +kernel) ⟨by decide, by decide⟩) hP hD hS (apR ((no, .inl (cy 2, 1, .inr (.inl g))) :: W2) Wm) (List.range ((no, .inl (cy 2, 1, .inr (.inl g))) :: W2).length) (ap_R ((no, .inl (cy 2, 1, .inr (.inl g))) :: W2) Wm) (ap_C ((no, .inl (cy 2, 1, .inr (.inl g))) :: W2) Wm) (ap_nd ((no, .inl (cy 2, 1, .inr (.inl g))) :: W2) Wm) qM_ hqM rfl rfl rfl hl.1 rfl (Nat.le_of_ble_eq_true rfl) dL_law_363 ⟨rmC (by dsimp only; omega), rmS (by dsimp only; omega)⟩ (fun rr_ Wm2 H locs hw hP hD hS => ?_)
  obtain ⟨km_, Mn, hms, hM2⟩ := hw
  refine W.widen (k := kc + 0) (n := ks + 0) (Nat.le_refl _) (Nat.le_refl _) ?_
  refine lv_pop hx hb dL_law_366 rfl ?_
  refine lv_goto (tgt := 2150) hx hb dL_law_367 (by decide) ?_
  have hP : va_P D vwCl ((no, .inl (cy 2, 1, .inr (.inl g))) :: (W2 ++ Wm2)) H := hP
  have hP := vP_pm hP (List.Perm.cons _ List.perm_append_comm)
  have hD := vD_pm hD (List.Perm.cons _ List.perm_append_comm)
  exact W.widen (k := kc + 0) (n := ks + 0) (Nat.le_refl _) (Nat.le_refl _) (kk Sn Mn W2 Wm2 g (kc + 0) (ks + 0) H locs ls hI2 ⟨_, hM2⟩ (sm_fault hR hcs hms) (by omega) (by omega) hP hD hS (lv_sub hl [0, 1, 2, 3, 4] rfl))
set_option maxHeartbeats 4000000 in
set_option maxRecDepth 100000 in
theorem cs_3 (l : Launch) (hlt : l.stackTraces = false) {p : Program} {e : Env} {s : State} {m : MethodId} {below : List Frame} {meth : Method} {c : Code} {D : va_G} {cy : Nat → ClassId} {A : Nat → Prop} {b L : Nat} {xs : Nat → Int32} {Q : State → Prop} (hX : Ex p s m #[Value.ref b] meth c code ret 8 RL) (hE : Ew D cy A s) (hXs : va_X b L xs s s.heap) (hbl : b < s.heap.size) (hbA : ¬ A b) {nx nm no : Nat} {h : Int} {S : CSt} {M : MSt} {Wc Wm : va_W} {g : Nat → Int64} {kc ks : Nat} {i_ : Int32} {H : Heap} {locs : List Loc} {ls : Array Slot} (hI : IC cy nx S Wc) (hM : IMo cy nm h M Wm) (hR : RSM S M) (hlo : 999 ≤ h) (hhi : h + 2000 ≤ 1000000) (hkc : (kc : Int) + 2 * S.1.1.toInt ≤ 500000) (hks : (ks : Int) + 471 * S.1.1.toInt ≤ 7000000) (hi : 0 ≤ i_.toInt ∧ i_.toInt + 7 ≤ L ∧ L ≤ 3584) (hP : va_P D vwCl ((no, .inl (cy 2, 1, .inr (.inl g))) :: (Wm ++ Wc)) H) (hD : va_D A ((no, .inl (cy 2, 1, .inr (.inl g))) :: (Wm ++ Wc))) (hS : va_S A s.heap H locs) (hl : lv_has ls 8 [(4, .int i_), (3, .ref no), (2, .ref nm), (1, .ref nx), (0, .ref b)]) (kk : ∀ (S2 : CSt) (M2 : MSt) (W2 Wm2 : va_W) (g2 : Nat → Int64) (kc2 ks2 : Nat) (H : Heap) (locs : List Loc) (ls : Array Slot), IC cy nx S2 W2 → IMo cy nm (h + 900) M2 Wm2 → RSM S2 M2 → (kc2 : Int) + 2 * S2.1.1.toInt ≤ kc + 2 * S.1.1.toInt + 200 → (ks2 : Int) + 471 * S2.1.1.toInt ≤ ks + 471 * S.1.1.toInt + 9420 → va_P D vwCl ((no, .inl (cy 2, 1, .inr (.inl g2))) :: (Wm2 ++ W2)) H → va_D A ((no, .inl (cy 2, 1, .inr (.inl g2))) :: (Wm2 ++ W2)) → va_S A s.heap H locs → lv_has ls 8 [(4, .int i_), (3, .ref no), (2, .ref nm), (1, .ref nx), (0, .ref b)] → W p l e room_1 s m #[Value.ref b] below meth c H locs kc2 ks2 Q (F0 m 2150 ls [])) : W p l e room_1 s m #[Value.ref b] below meth c H locs kc ks Q (F0 m 370 ls []) := by
  obtain ⟨hx, hb, hr, hml, hown, htA, hlk⟩ := id hX
  have hK := hE.1
  have hT0 := IC_T hI
  refine lv_aload_n hx hb dL_law_370 rfl (lv_at hl 3 rfl) ?_
  refine lv_aload_n hx hb dL_law_371 rfl (lv_at hl 4 rfl) ?_
  refine lv_iload hx hb dL_law_372 (lv_at hl 0 rfl) ?_
  refine lv_iconst (v := 1) hx hb dL_law_374 (by decide) ?_
  refine lv_iadd hx hb dL_law_375 ?_
  refine va_sld hx hb hXs hbl hbA hS (lwi 1 hi) dL_law_376 ?_
  refine lv_aload_n hx hb dL_law_377 rfl (lv_at hl 4 rfl) ?_
  refine lv_iload hx hb dL_law_378 (lv_at hl 0 rfl) ?_
  refine lv_iconst (v := 2) hx hb dL_law_380 (by decide) ?_
  refine lv_iadd hx hb dL_law_381 ?_
  refine va_sld hx hb hXs hbl hbA hS (lwi 2 hi) dL_law_382 ?_
  refine lv_aload_n hx hb dL_law_383 rfl (lv_at hl 1 rfl) ?_
  have hP : va_P D vwCl (Wm ++ ((no, .inl (cy 2, 1, .inr (.inl g))) :: Wc)) H := vP_pm hP List.perm_middle.symm
  have hD : va_D A (Wm ++ ((no, .inl (cy 2, 1, .inr (.inl g))) :: Wc)) := vD_pm hD List.perm_middle.symm
  refine kHi (As := [.ref nx, .int (xs (i_ + 1).toNatClampNeg), .int (xs (i_ + 2).toNatClampNeg), .ref no]) (rest := []) (wr := Wm) hX hE (H_thing l hlt D cy nx S Wc no g (xs (i_ + 1).toNatClampNeg) (xs (i_ + 2).toNatClampNeg) hI) (cwHA 4 htA wd_859 wd_857 wd_0 wd_858 (by decide +kernel) ⟨by decide, by decide⟩) hP hD hS (apR Wm ((no, .inl (cy 2, 1, .inr (.inl g))) :: Wc)) (List.range Wm.length) (ap_R Wm ((no, .inl (cy 2, 1, .inr (.inl g))) :: Wc)) (ap_C Wm ((no, .inl (cy 2, 1, .inr (.inl g))) :: Wc)) (ap_nd Wm ((no, .inl (cy 2, 1, .inr (.inl g))) :: Wc)) rfl hl.1 rfl (Nat.le_of_ble_eq_true rfl) dL_law_384 ⟨rmC (by dsimp only; omega), rmS (by dsimp only; omega)⟩ (fun rc_ W1 H locs hw hP hD hS => ?_)
  refine W.widen (k := kc + 2) (n := ks + 12) (Nat.le_refl _) (Nat.le_refl _) ?_
  obtain ⟨g2, W2, Sn, hcs, hT2, hI2, rfl⟩ := hw
  have hP := vP_pm hP List.perm_middle
  have hD := vD_pm hD List.perm_middle
  refine lv_istore (lv' := [(5, .int rc_), (4, .int i_), (3, .ref no), (2, .ref nm), (1, .ref nx), (0, .ref b)]) hx hb dL_law_387 hl (by decide) rfl (fun ls hl => ?_)
  refine lv_aload_n hx hb dL_law_389 rfl (lv_at hl 3 rfl) ?_
  refine lv_aload_n hx hb dL_law_390 rfl (lv_at hl 5 rfl) ?_
  refine lv_iload hx hb dL_law_391 (lv_at hl 1 rfl) ?_
  refine lv_iconst (v := 1) hx hb dL_law_393 (by decide) ?_
  refine lv_iadd hx hb dL_law_394 ?_
  refine va_sld hx hb hXs hbl hbA hS (lwi 1 hi) dL_law_395 ?_
  refine lv_aload_n hx hb dL_law_396 rfl (lv_at hl 5 rfl) ?_
  refine lv_iload hx hb dL_law_397 (lv_at hl 1 rfl) ?_
  refine lv_iconst (v := 2) hx hb dL_law_399 (by decide) ?_
  refine lv_iadd hx hb dL_law_400 ?_
  refine va_sld hx hb hXs hbl hbA hS (lwi 2 hi) dL_law_401 ?_
  have hP : va_P D vwCl (((no, .inl (cy 2, 1, .inr (.inl g2))) :: W2) ++ Wm) H := vP_pm hP (List.Perm.cons _ List.perm_append_comm)
  have hD : va_D A (((no, .inl (cy 2, 1, .inr (.inl g2))) :: W2) ++ Wm) := vD_pm hD (List.Perm.cons _ List.perm_append_comm)
  obtain ⟨qM_, fM_, hqM⟩ := IMo_at hM
  refine kVi (As := [.int (xs (i_ + 1).toNatClampNeg), .int (xs (i_ + 2).toNatClampNeg)]) (rest := []) (wr := ((no, .inl (cy 2, 1, .inr (.inl g2))) :: W2)) hX hE (M_thing l D cy nm h M Wm (xs (i_ + 1).toNatClampNeg) (xs (i_ + 2).toNatClampNeg) hM hlo (by omega)) (cwVA 2 htA wd_1657 wd_1654 wd_10 wd_1655 wd_1656 (by decide +kernel) ⟨by decide, by decide⟩) hP hD hS (apR ((no, .inl (cy 2, 1, .inr (.inl g2))) :: W2) Wm) (List.range ((no, .inl (cy 2, 1, .inr (.inl g2))) :: W2).length) (ap_R ((no, .inl (cy 2, 1, .inr (.inl g2))) :: W2) Wm) (ap_C ((no, .inl (cy 2, 1, .inr (.inl g2))) :: W2) Wm) (ap_nd ((no, .inl (cy 2, 1, .inr (.inl g2))) :: W2) Wm) qM_ hqM rfl rfl rfl hl.1 rfl (Nat.le_of_ble_eq_true rfl) dL_law_402 ⟨rmC (by dsimp only; omega), rmS (by dsimp only; omega)⟩ (fun rr_ Wm2 H locs hw hP hD hS => ?_)
  obtain ⟨km_, Mn, hms, hM2⟩ := hw
  refine W.widen (k := kc + 2) (n := ks + 12) (Nat.le_refl _) (Nat.le_refl _) ?_
  refine lv_istore (lv' := [(6, .int rr_), (5, .int rc_), (4, .int i_), (3, .ref no), (2, .ref nm), (1, .ref nx), (0, .ref b)]) hx hb dL_law_405 hl (by decide) rfl (fun ls hl => ?_)
  refine lv_goto (tgt := 2150) hx hb dL_law_407 (by decide) ?_
  have hP : va_P D vwCl ((no, .inl (cy 2, 1, .inr (.inl g2))) :: (W2 ++ Wm2)) H := hP
  have hP := vP_pm hP (List.Perm.cons _ List.perm_append_comm)
  have hD := vD_pm hD (List.Perm.cons _ List.perm_append_comm)
  exact W.widen (k := kc + 2) (n := ks + 12) (Nat.le_refl _) (Nat.le_refl _) (kk Sn Mn W2 Wm2 g2 (kc + 2) (ks + 12) H locs ls hI2 ⟨_, hM2⟩ (sm_thing hR hcs hms) (by omega) (by omega) hP hD hS (lv_sub hl [2, 3, 4, 5, 6] rfl))
set_option maxHeartbeats 4000000 in
set_option maxRecDepth 100000 in
theorem cs_4 (l : Launch) (hlt : l.stackTraces = false) {p : Program} {e : Env} {s : State} {m : MethodId} {below : List Frame} {meth : Method} {c : Code} {D : va_G} {cy : Nat → ClassId} {A : Nat → Prop} {b L : Nat} {xs : Nat → Int32} {Q : State → Prop} (hX : Ex p s m #[Value.ref b] meth c code ret 8 RL) (hE : Ew D cy A s) (hXs : va_X b L xs s s.heap) (hbl : b < s.heap.size) (hbA : ¬ A b) {nx nm no : Nat} {h : Int} {S : CSt} {M : MSt} {Wc Wm : va_W} {g : Nat → Int64} {kc ks : Nat} {i_ : Int32} {H : Heap} {locs : List Loc} {ls : Array Slot} (hI : IC cy nx S Wc) (hM : IMo cy nm h M Wm) (hR : RSM S M) (hlo : 999 ≤ h) (hhi : h + 2000 ≤ 1000000) (hkc : (kc : Int) + 2 * S.1.1.toInt ≤ 500000) (hks : (ks : Int) + 471 * S.1.1.toInt ≤ 7000000) (hi : 0 ≤ i_.toInt ∧ i_.toInt + 7 ≤ L ∧ L ≤ 3584) (hP : va_P D vwCl ((no, .inl (cy 2, 1, .inr (.inl g))) :: (Wm ++ Wc)) H) (hD : va_D A ((no, .inl (cy 2, 1, .inr (.inl g))) :: (Wm ++ Wc))) (hS : va_S A s.heap H locs) (hl : lv_has ls 8 [(4, .int i_), (3, .ref no), (2, .ref nm), (1, .ref nx), (0, .ref b)]) (kk : ∀ (S2 : CSt) (M2 : MSt) (W2 Wm2 : va_W) (g2 : Nat → Int64) (kc2 ks2 : Nat) (H : Heap) (locs : List Loc) (ls : Array Slot), IC cy nx S2 W2 → IMo cy nm (h + 900) M2 Wm2 → RSM S2 M2 → (kc2 : Int) + 2 * S2.1.1.toInt ≤ kc + 2 * S.1.1.toInt + 200 → (ks2 : Int) + 471 * S2.1.1.toInt ≤ ks + 471 * S.1.1.toInt + 9420 → va_P D vwCl ((no, .inl (cy 2, 1, .inr (.inl g2))) :: (Wm2 ++ W2)) H → va_D A ((no, .inl (cy 2, 1, .inr (.inl g2))) :: (Wm2 ++ W2)) → va_S A s.heap H locs → lv_has ls 8 [(4, .int i_), (3, .ref no), (2, .ref nm), (1, .ref nx), (0, .ref b)] → W p l e room_1 s m #[Value.ref b] below meth c H locs kc2 ks2 Q (F0 m 2150 ls [])) : W p l e room_1 s m #[Value.ref b] below meth c H locs kc ks Q (F0 m 410 ls []) := by
  obtain ⟨hx, hb, hr, hml, hown, htA, hlk⟩ := id hX
  have hK := hE.1
  have hT0 := IC_T hI
  refine lv_aload_n hx hb dL_law_410 rfl (lv_at hl 3 rfl) ?_
  refine lv_aload_n hx hb dL_law_411 rfl (lv_at hl 4 rfl) ?_
  refine lv_iload hx hb dL_law_412 (lv_at hl 0 rfl) ?_
  refine lv_iconst (v := 1) hx hb dL_law_414 (by decide) ?_
  refine lv_iadd hx hb dL_law_415 ?_
  refine va_sld hx hb hXs hbl hbA hS (lwi 1 hi) dL_law_416 ?_
  refine lv_aload_n hx hb dL_law_417 rfl (lv_at hl 4 rfl) ?_
  refine lv_iload hx hb dL_law_418 (lv_at hl 0 rfl) ?_
  refine lv_iconst (v := 2) hx hb dL_law_420 (by decide) ?_
  refine lv_iadd hx hb dL_law_421 ?_
  refine va_sld hx hb hXs hbl hbA hS (lwi 2 hi) dL_law_422 ?_
  refine lv_aload_n hx hb dL_law_423 rfl (lv_at hl 1 rfl) ?_
  have hP : va_P D vwCl (Wm ++ ((no, .inl (cy 2, 1, .inr (.inl g))) :: Wc)) H := vP_pm hP List.perm_middle.symm
  have hD : va_D A (Wm ++ ((no, .inl (cy 2, 1, .inr (.inl g))) :: Wc)) := vD_pm hD List.perm_middle.symm
  refine kHi (As := [.ref nx, .int (xs (i_ + 1).toNatClampNeg), .int (xs (i_ + 2).toNatClampNeg), .ref no]) (rest := []) (wr := Wm) hX hE (H_walker l hlt D cy nx S Wc no g (xs (i_ + 1).toNatClampNeg) (xs (i_ + 2).toNatClampNeg) hI) (cwHA 4 htA wd_888 wd_886 wd_0 wd_887 (by decide +kernel) ⟨by decide, by decide⟩) hP hD hS (apR Wm ((no, .inl (cy 2, 1, .inr (.inl g))) :: Wc)) (List.range Wm.length) (ap_R Wm ((no, .inl (cy 2, 1, .inr (.inl g))) :: Wc)) (ap_C Wm ((no, .inl (cy 2, 1, .inr (.inl g))) :: Wc)) (ap_nd Wm ((no, .inl (cy 2, 1, .inr (.inl g))) :: Wc)) rfl hl.1 rfl (Nat.le_of_ble_eq_true rfl) dL_law_424 ⟨rmC (by dsimp only; omega), rmS (by dsimp only; omega)⟩ (fun rc_ W1 H locs hw hP hD hS => ?_)
  refine W.widen (k := kc + 2) (n := ks + 12) (Nat.le_refl _) (Nat.le_refl _) ?_
  obtain ⟨g2, W2, Sn, hcs, hT2, hI2, rfl⟩ := hw
  have hP := vP_pm hP List.perm_middle
  have hD := vD_pm hD List.perm_middle
  refine lv_istore (lv' := [(5, .int rc_), (4, .int i_), (3, .ref no), (2, .ref nm), (1, .ref nx), (0, .ref b)]) hx hb dL_law_427 hl (by decide) rfl (fun ls hl => ?_)
  refine lv_aload_n hx hb dL_law_429 rfl (lv_at hl 3 rfl) ?_
  refine lv_aload_n hx hb dL_law_430 rfl (lv_at hl 5 rfl) ?_
  refine lv_iload hx hb dL_law_431 (lv_at hl 1 rfl) ?_
  refine lv_iconst (v := 1) hx hb dL_law_433 (by decide) ?_
  refine lv_iadd hx hb dL_law_434 ?_
  refine va_sld hx hb hXs hbl hbA hS (lwi 1 hi) dL_law_435 ?_
  refine lv_aload_n hx hb dL_law_436 rfl (lv_at hl 5 rfl) ?_
  refine lv_iload hx hb dL_law_437 (lv_at hl 1 rfl) ?_
  refine lv_iconst (v := 2) hx hb dL_law_439 (by decide) ?_
  refine lv_iadd hx hb dL_law_440 ?_
  refine va_sld hx hb hXs hbl hbA hS (lwi 2 hi) dL_law_441 ?_
  have hP : va_P D vwCl (((no, .inl (cy 2, 1, .inr (.inl g2))) :: W2) ++ Wm) H := vP_pm hP (List.Perm.cons _ List.perm_append_comm)
  have hD : va_D A (((no, .inl (cy 2, 1, .inr (.inl g2))) :: W2) ++ Wm) := vD_pm hD (List.Perm.cons _ List.perm_append_comm)
  obtain ⟨qM_, fM_, hqM⟩ := IMo_at hM
  refine kVi (As := [.int (xs (i_ + 1).toNatClampNeg), .int (xs (i_ + 2).toNatClampNeg)]) (rest := []) (wr := ((no, .inl (cy 2, 1, .inr (.inl g2))) :: W2)) hX hE (M_walker l D cy nm h M Wm (xs (i_ + 1).toNatClampNeg) (xs (i_ + 2).toNatClampNeg) hM hlo (by omega)) (cwVA 2 htA wd_1666 wd_1663 wd_10 wd_1664 wd_1665 (by decide +kernel) ⟨by decide, by decide⟩) hP hD hS (apR ((no, .inl (cy 2, 1, .inr (.inl g2))) :: W2) Wm) (List.range ((no, .inl (cy 2, 1, .inr (.inl g2))) :: W2).length) (ap_R ((no, .inl (cy 2, 1, .inr (.inl g2))) :: W2) Wm) (ap_C ((no, .inl (cy 2, 1, .inr (.inl g2))) :: W2) Wm) (ap_nd ((no, .inl (cy 2, 1, .inr (.inl g2))) :: W2) Wm) qM_ hqM rfl rfl rfl hl.1 rfl (Nat.le_of_ble_eq_true rfl) dL_law_442 ⟨rmC (by dsimp only; omega), rmS (by dsimp only; omega)⟩ (fun rr_ Wm2 H locs hw hP hD hS => ?_)
  obtain ⟨km_, Mn, hms, hM2⟩ := hw
  refine W.widen (k := kc + 2) (n := ks + 12) (Nat.le_refl _) (Nat.le_refl _) ?_
  refine lv_istore (lv' := [(6, .int rr_), (5, .int rc_), (4, .int i_), (3, .ref no), (2, .ref nm), (1, .ref nx), (0, .ref b)]) hx hb dL_law_445 hl (by decide) rfl (fun ls hl => ?_)
  refine lv_goto (tgt := 2150) hx hb dL_law_447 (by decide) ?_
  have hP : va_P D vwCl ((no, .inl (cy 2, 1, .inr (.inl g2))) :: (W2 ++ Wm2)) H := hP
  have hP := vP_pm hP (List.Perm.cons _ List.perm_append_comm)
  have hD := vD_pm hD (List.Perm.cons _ List.perm_append_comm)
  exact W.widen (k := kc + 2) (n := ks + 12) (Nat.le_refl _) (Nat.le_refl _) (kk Sn Mn W2 Wm2 g2 (kc + 2) (ks + 12) H locs ls hI2 ⟨_, hM2⟩ (sm_walker hR hcs hms) (by omega) (by omega) hP hD hS (lv_sub hl [2, 3, 4, 5, 6] rfl))
set_option maxHeartbeats 4000000 in
set_option maxRecDepth 100000 in
theorem cs_5 (l : Launch) (hlt : l.stackTraces = false) {p : Program} {e : Env} {s : State} {m : MethodId} {below : List Frame} {meth : Method} {c : Code} {D : va_G} {cy : Nat → ClassId} {A : Nat → Prop} {b L : Nat} {xs : Nat → Int32} {Q : State → Prop} (hX : Ex p s m #[Value.ref b] meth c code ret 8 RL) (hE : Ew D cy A s) (hXs : va_X b L xs s s.heap) (hbl : b < s.heap.size) (hbA : ¬ A b) {nx nm no : Nat} {h : Int} {S : CSt} {M : MSt} {Wc Wm : va_W} {g : Nat → Int64} {kc ks : Nat} {i_ : Int32} {H : Heap} {locs : List Loc} {ls : Array Slot} (hI : IC cy nx S Wc) (hM : IMo cy nm h M Wm) (hR : RSM S M) (hlo : 999 ≤ h) (hhi : h + 2000 ≤ 1000000) (hkc : (kc : Int) + 2 * S.1.1.toInt ≤ 500000) (hks : (ks : Int) + 471 * S.1.1.toInt ≤ 7000000) (hi : 0 ≤ i_.toInt ∧ i_.toInt + 7 ≤ L ∧ L ≤ 3584) (hP : va_P D vwCl ((no, .inl (cy 2, 1, .inr (.inl g))) :: (Wm ++ Wc)) H) (hD : va_D A ((no, .inl (cy 2, 1, .inr (.inl g))) :: (Wm ++ Wc))) (hS : va_S A s.heap H locs) (hl : lv_has ls 8 [(4, .int i_), (3, .ref no), (2, .ref nm), (1, .ref nx), (0, .ref b)]) (kk : ∀ (S2 : CSt) (M2 : MSt) (W2 Wm2 : va_W) (g2 : Nat → Int64) (kc2 ks2 : Nat) (H : Heap) (locs : List Loc) (ls : Array Slot), IC cy nx S2 W2 → IMo cy nm (h + 900) M2 Wm2 → RSM S2 M2 → (kc2 : Int) + 2 * S2.1.1.toInt ≤ kc + 2 * S.1.1.toInt + 200 → (ks2 : Int) + 471 * S2.1.1.toInt ≤ ks + 471 * S.1.1.toInt + 9420 → va_P D vwCl ((no, .inl (cy 2, 1, .inr (.inl g2))) :: (Wm2 ++ W2)) H → va_D A ((no, .inl (cy 2, 1, .inr (.inl g2))) :: (Wm2 ++ W2)) → va_S A s.heap H locs → lv_has ls 8 [(4, .int i_), (3, .ref no), (2, .ref nm), (1, .ref nx), (0, .ref b)] → W p l e room_1 s m #[Value.ref b] below meth c H locs kc2 ks2 Q (F0 m 2150 ls [])) : W p l e room_1 s m #[Value.ref b] below meth c H locs kc ks Q (F0 m 450 ls []) := by
  obtain ⟨hx, hb, hr, hml, hown, htA, hlk⟩ := id hX
  have hK := hE.1
  have hT0 := IC_T hI
  refine lv_aload_n hx hb dL_law_450 rfl (lv_at hl 3 rfl) ?_
  refine lv_aload_n hx hb dL_law_451 rfl (lv_at hl 4 rfl) ?_
  refine lv_iload hx hb dL_law_452 (lv_at hl 0 rfl) ?_
  refine lv_iconst (v := 1) hx hb dL_law_454 (by decide) ?_
  refine lv_iadd hx hb dL_law_455 ?_
  refine va_sld hx hb hXs hbl hbA hS (lwi 1 hi) dL_law_456 ?_
  refine lv_aload_n hx hb dL_law_457 rfl (lv_at hl 1 rfl) ?_
  have hP : va_P D vwCl (Wm ++ ((no, .inl (cy 2, 1, .inr (.inl g))) :: Wc)) H := vP_pm hP List.perm_middle.symm
  have hD : va_D A (Wm ++ ((no, .inl (cy 2, 1, .inr (.inl g))) :: Wc)) := vD_pm hD List.perm_middle.symm
  refine kHi (As := [.ref nx, .int (xs (i_ + 1).toNatClampNeg), .ref no]) (rest := []) (wr := Wm) hX hE (H_height l hlt D cy nx S Wc no g (xs (i_ + 1).toNatClampNeg) hI) (cwHA 3 htA wd_901 wd_899 wd_0 wd_900 (by decide +kernel) ⟨by decide, by decide⟩) hP hD hS (apR Wm ((no, .inl (cy 2, 1, .inr (.inl g))) :: Wc)) (List.range Wm.length) (ap_R Wm ((no, .inl (cy 2, 1, .inr (.inl g))) :: Wc)) (ap_C Wm ((no, .inl (cy 2, 1, .inr (.inl g))) :: Wc)) (ap_nd Wm ((no, .inl (cy 2, 1, .inr (.inl g))) :: Wc)) rfl hl.1 rfl (Nat.le_of_ble_eq_true rfl) dL_law_458 ⟨rmC (by dsimp only; omega), rmS (by dsimp only; omega)⟩ (fun rc_ W1 H locs hw hP hD hS => ?_)
  refine W.widen (k := kc + 1) (n := ks + 6) (Nat.le_refl _) (Nat.le_refl _) ?_
  obtain ⟨g2, W2, Sn, hcs, hT2, hI2, rfl⟩ := hw
  have hP := vP_pm hP List.perm_middle
  have hD := vD_pm hD List.perm_middle
  refine lv_istore (lv' := [(5, .int rc_), (4, .int i_), (3, .ref no), (2, .ref nm), (1, .ref nx), (0, .ref b)]) hx hb dL_law_461 hl (by decide) rfl (fun ls hl => ?_)
  refine lv_aload_n hx hb dL_law_463 rfl (lv_at hl 3 rfl) ?_
  refine lv_aload_n hx hb dL_law_464 rfl (lv_at hl 5 rfl) ?_
  refine lv_iload hx hb dL_law_465 (lv_at hl 1 rfl) ?_
  refine lv_iconst (v := 1) hx hb dL_law_467 (by decide) ?_
  refine lv_iadd hx hb dL_law_468 ?_
  refine va_sld hx hb hXs hbl hbA hS (lwi 1 hi) dL_law_469 ?_
  have hP : va_P D vwCl (((no, .inl (cy 2, 1, .inr (.inl g2))) :: W2) ++ Wm) H := vP_pm hP (List.Perm.cons _ List.perm_append_comm)
  have hD : va_D A (((no, .inl (cy 2, 1, .inr (.inl g2))) :: W2) ++ Wm) := vD_pm hD (List.Perm.cons _ List.perm_append_comm)
  obtain ⟨qM_, fM_, hqM⟩ := IMo_at hM
  refine kVi (As := [.int (xs (i_ + 1).toNatClampNeg)]) (rest := []) (wr := ((no, .inl (cy 2, 1, .inr (.inl g2))) :: W2)) hX hE (M_height l D cy nm h M Wm (xs (i_ + 1).toNatClampNeg) hM hlo (by omega)) (cwVA 1 htA wd_1679 wd_1676 wd_10 wd_1677 wd_1678 (by decide +kernel) ⟨by decide, by decide⟩) hP hD hS (apR ((no, .inl (cy 2, 1, .inr (.inl g2))) :: W2) Wm) (List.range ((no, .inl (cy 2, 1, .inr (.inl g2))) :: W2).length) (ap_R ((no, .inl (cy 2, 1, .inr (.inl g2))) :: W2) Wm) (ap_C ((no, .inl (cy 2, 1, .inr (.inl g2))) :: W2) Wm) (ap_nd ((no, .inl (cy 2, 1, .inr (.inl g2))) :: W2) Wm) qM_ hqM rfl rfl rfl hl.1 rfl (Nat.le_of_ble_eq_true rfl) dL_law_470 ⟨rmC (by dsimp only; omega), rmS (by dsimp only; omega)⟩ (fun rr_ Wm2 H locs hw hP hD hS => ?_)
  obtain ⟨km_, Mn, hms, hM2⟩ := hw
  refine W.widen (k := kc + 1) (n := ks + 6) (Nat.le_refl _) (Nat.le_refl _) ?_
  refine lv_istore (lv' := [(6, .int rr_), (5, .int rc_), (4, .int i_), (3, .ref no), (2, .ref nm), (1, .ref nx), (0, .ref b)]) hx hb dL_law_473 hl (by decide) rfl (fun ls hl => ?_)
  refine lv_goto (tgt := 2150) hx hb dL_law_475 (by decide) ?_
  have hP : va_P D vwCl ((no, .inl (cy 2, 1, .inr (.inl g2))) :: (W2 ++ Wm2)) H := hP
  have hP := vP_pm hP (List.Perm.cons _ List.perm_append_comm)
  have hD := vD_pm hD (List.Perm.cons _ List.perm_append_comm)
  exact W.widen (k := kc + 1) (n := ks + 6) (Nat.le_refl _) (Nat.le_refl _) (kk Sn Mn W2 Wm2 g2 (kc + 1) (ks + 6) H locs ls hI2 ⟨_, hM2⟩ (sm_height hR hcs hms) (by omega) (by omega) hP hD hS (lv_sub hl [2, 3, 4, 5, 6] rfl))
set_option maxHeartbeats 4000000 in
set_option maxRecDepth 100000 in
theorem cs_6 (l : Launch) (hlt : l.stackTraces = false) {p : Program} {e : Env} {s : State} {m : MethodId} {below : List Frame} {meth : Method} {c : Code} {D : va_G} {cy : Nat → ClassId} {A : Nat → Prop} {b L : Nat} {xs : Nat → Int32} {Q : State → Prop} (hX : Ex p s m #[Value.ref b] meth c code ret 8 RL) (hE : Ew D cy A s) (hXs : va_X b L xs s s.heap) (hbl : b < s.heap.size) (hbA : ¬ A b) {nx nm no : Nat} {h : Int} {S : CSt} {M : MSt} {Wc Wm : va_W} {g : Nat → Int64} {kc ks : Nat} {i_ : Int32} {H : Heap} {locs : List Loc} {ls : Array Slot} (hI : IC cy nx S Wc) (hM : IMo cy nm h M Wm) (hR : RSM S M) (hlo : 999 ≤ h) (hhi : h + 2000 ≤ 1000000) (hkc : (kc : Int) + 2 * S.1.1.toInt ≤ 500000) (hks : (ks : Int) + 471 * S.1.1.toInt ≤ 7000000) (hi : 0 ≤ i_.toInt ∧ i_.toInt + 7 ≤ L ∧ L ≤ 3584) (hP : va_P D vwCl ((no, .inl (cy 2, 1, .inr (.inl g))) :: (Wm ++ Wc)) H) (hD : va_D A ((no, .inl (cy 2, 1, .inr (.inl g))) :: (Wm ++ Wc))) (hS : va_S A s.heap H locs) (hl : lv_has ls 8 [(4, .int i_), (3, .ref no), (2, .ref nm), (1, .ref nx), (0, .ref b)]) (kk : ∀ (S2 : CSt) (M2 : MSt) (W2 Wm2 : va_W) (g2 : Nat → Int64) (kc2 ks2 : Nat) (H : Heap) (locs : List Loc) (ls : Array Slot), IC cy nx S2 W2 → IMo cy nm (h + 900) M2 Wm2 → RSM S2 M2 → (kc2 : Int) + 2 * S2.1.1.toInt ≤ kc + 2 * S.1.1.toInt + 200 → (ks2 : Int) + 471 * S2.1.1.toInt ≤ ks + 471 * S.1.1.toInt + 9420 → va_P D vwCl ((no, .inl (cy 2, 1, .inr (.inl g2))) :: (Wm2 ++ W2)) H → va_D A ((no, .inl (cy 2, 1, .inr (.inl g2))) :: (Wm2 ++ W2)) → va_S A s.heap H locs → lv_has ls 8 [(4, .int i_), (3, .ref no), (2, .ref nm), (1, .ref nx), (0, .ref b)] → W p l e room_1 s m #[Value.ref b] below meth c H locs kc2 ks2 Q (F0 m 2150 ls [])) : W p l e room_1 s m #[Value.ref b] below meth c H locs kc ks Q (F0 m 478 ls []) := by
  obtain ⟨hx, hb, hr, hml, hown, htA, hlk⟩ := id hX
  have hK := hE.1
  have hT0 := IC_T hI
  refine lv_aload_n hx hb dL_law_478 rfl (lv_at hl 3 rfl) ?_
  refine lv_aload_n hx hb dL_law_479 rfl (lv_at hl 4 rfl) ?_
  refine lv_iload hx hb dL_law_480 (lv_at hl 0 rfl) ?_
  refine lv_iconst (v := 1) hx hb dL_law_482 (by decide) ?_
  refine lv_iadd hx hb dL_law_483 ?_
  refine va_sld hx hb hXs hbl hbA hS (lwi 1 hi) dL_law_484 ?_
  refine lv_aload_n hx hb dL_law_485 rfl (lv_at hl 4 rfl) ?_
  refine lv_iload hx hb dL_law_486 (lv_at hl 0 rfl) ?_
  refine lv_iconst (v := 2) hx hb dL_law_488 (by decide) ?_
  refine lv_iadd hx hb dL_law_489 ?_
  refine va_sld hx hb hXs hbl hbA hS (lwi 2 hi) dL_law_490 ?_
  refine lv_aload_n hx hb dL_law_491 rfl (lv_at hl 1 rfl) ?_
  have hP : va_P D vwCl (Wm ++ ((no, .inl (cy 2, 1, .inr (.inl g))) :: Wc)) H := vP_pm hP List.perm_middle.symm
  have hD : va_D A (Wm ++ ((no, .inl (cy 2, 1, .inr (.inl g))) :: Wc)) := vD_pm hD List.perm_middle.symm
  refine kHi (As := [.ref nx, .int (xs (i_ + 1).toNatClampNeg), .int (xs (i_ + 2).toNatClampNeg), .ref no]) (rest := []) (wr := Wm) hX hE (H_at l hlt D cy nx S Wc no g (xs (i_ + 1).toNatClampNeg) (xs (i_ + 2).toNatClampNeg) hI) (cwHA 4 htA wd_914 wd_912 wd_0 wd_913 (by decide +kernel) ⟨by decide, by decide⟩) hP hD hS (apR Wm ((no, .inl (cy 2, 1, .inr (.inl g))) :: Wc)) (List.range Wm.length) (ap_R Wm ((no, .inl (cy 2, 1, .inr (.inl g))) :: Wc)) (ap_C Wm ((no, .inl (cy 2, 1, .inr (.inl g))) :: Wc)) (ap_nd Wm ((no, .inl (cy 2, 1, .inr (.inl g))) :: Wc)) rfl hl.1 rfl (Nat.le_of_ble_eq_true rfl) dL_law_492 ⟨rmC (by dsimp only; omega), rmS (by dsimp only; omega)⟩ (fun rc_ W1 H locs hw hP hD hS => ?_)
  refine W.widen (k := kc + 1) (n := ks + 6) (Nat.le_refl _) (Nat.le_refl _) ?_
  obtain ⟨g2, W2, Sn, hcs, hT2, hI2, rfl⟩ := hw
  have hP := vP_pm hP List.perm_middle
  have hD := vD_pm hD List.perm_middle
  refine lv_istore (lv' := [(5, .int rc_), (4, .int i_), (3, .ref no), (2, .ref nm), (1, .ref nx), (0, .ref b)]) hx hb dL_law_495 hl (by decide) rfl (fun ls hl => ?_)
  refine lv_aload_n hx hb dL_law_497 rfl (lv_at hl 3 rfl) ?_
  refine lv_aload_n hx hb dL_law_498 rfl (lv_at hl 5 rfl) ?_
  refine lv_iload hx hb dL_law_499 (lv_at hl 1 rfl) ?_
  refine lv_iconst (v := 1) hx hb dL_law_501 (by decide) ?_
  refine lv_iadd hx hb dL_law_502 ?_
  refine va_sld hx hb hXs hbl hbA hS (lwi 1 hi) dL_law_503 ?_
  refine lv_aload_n hx hb dL_law_504 rfl (lv_at hl 5 rfl) ?_
  refine lv_iload hx hb dL_law_505 (lv_at hl 1 rfl) ?_
  refine lv_iconst (v := 2) hx hb dL_law_507 (by decide) ?_
  refine lv_iadd hx hb dL_law_508 ?_
  refine va_sld hx hb hXs hbl hbA hS (lwi 2 hi) dL_law_509 ?_
  have hP : va_P D vwCl (((no, .inl (cy 2, 1, .inr (.inl g2))) :: W2) ++ Wm) H := vP_pm hP (List.Perm.cons _ List.perm_append_comm)
  have hD : va_D A (((no, .inl (cy 2, 1, .inr (.inl g2))) :: W2) ++ Wm) := vD_pm hD (List.Perm.cons _ List.perm_append_comm)
  obtain ⟨qM_, fM_, hqM⟩ := IMo_at hM
  refine kVi (As := [.int (xs (i_ + 1).toNatClampNeg), .int (xs (i_ + 2).toNatClampNeg)]) (rest := []) (wr := ((no, .inl (cy 2, 1, .inr (.inl g2))) :: W2)) hX hE (M_at l D cy nm h M Wm (xs (i_ + 1).toNatClampNeg) (xs (i_ + 2).toNatClampNeg) hM hlo (by omega)) (cwVA 2 htA wd_1691 wd_1688 wd_10 wd_1689 wd_1690 (by decide +kernel) ⟨by decide, by decide⟩) hP hD hS (apR ((no, .inl (cy 2, 1, .inr (.inl g2))) :: W2) Wm) (List.range ((no, .inl (cy 2, 1, .inr (.inl g2))) :: W2).length) (ap_R ((no, .inl (cy 2, 1, .inr (.inl g2))) :: W2) Wm) (ap_C ((no, .inl (cy 2, 1, .inr (.inl g2))) :: W2) Wm) (ap_nd ((no, .inl (cy 2, 1, .inr (.inl g2))) :: W2) Wm) qM_ hqM rfl rfl rfl hl.1 rfl (Nat.le_of_ble_eq_true rfl) dL_law_510 ⟨rmC (by dsimp only; omega), rmS (by dsimp only; omega)⟩ (fun rr_ Wm2 H locs hw hP hD hS => ?_)
  obtain ⟨km_, Mn, hms, hM2⟩ := hw
  refine W.widen (k := kc + 1) (n := ks + 6) (Nat.le_refl _) (Nat.le_refl _) ?_
  refine lv_istore (lv' := [(6, .int rr_), (5, .int rc_), (4, .int i_), (3, .ref no), (2, .ref nm), (1, .ref nx), (0, .ref b)]) hx hb dL_law_513 hl (by decide) rfl (fun ls hl => ?_)
  refine lv_goto (tgt := 2150) hx hb dL_law_515 (by decide) ?_
  have hP : va_P D vwCl ((no, .inl (cy 2, 1, .inr (.inl g2))) :: (W2 ++ Wm2)) H := hP
  have hP := vP_pm hP (List.Perm.cons _ List.perm_append_comm)
  have hD := vD_pm hD (List.Perm.cons _ List.perm_append_comm)
  exact W.widen (k := kc + 1) (n := ks + 6) (Nat.le_refl _) (Nat.le_refl _) (kk Sn Mn W2 Wm2 g2 (kc + 1) (ks + 6) H locs ls hI2 ⟨_, hM2⟩ (sm_at hR hcs hms) (by omega) (by omega) hP hD hS (lv_sub hl [2, 3, 4, 5, 6] rfl))
set_option maxHeartbeats 4000000 in
set_option maxRecDepth 100000 in
theorem cs_7 (l : Launch) (hlt : l.stackTraces = false) {p : Program} {e : Env} {s : State} {m : MethodId} {below : List Frame} {meth : Method} {c : Code} {D : va_G} {cy : Nat → ClassId} {A : Nat → Prop} {b L : Nat} {xs : Nat → Int32} {Q : State → Prop} (hX : Ex p s m #[Value.ref b] meth c code ret 8 RL) (hE : Ew D cy A s) (hXs : va_X b L xs s s.heap) (hbl : b < s.heap.size) (hbA : ¬ A b) {nx nm no : Nat} {h : Int} {S : CSt} {M : MSt} {Wc Wm : va_W} {g : Nat → Int64} {kc ks : Nat} {i_ : Int32} {H : Heap} {locs : List Loc} {ls : Array Slot} (hI : IC cy nx S Wc) (hM : IMo cy nm h M Wm) (hR : RSM S M) (hlo : 999 ≤ h) (hhi : h + 2000 ≤ 1000000) (hkc : (kc : Int) + 2 * S.1.1.toInt ≤ 500000) (hks : (ks : Int) + 471 * S.1.1.toInt ≤ 7000000) (hi : 0 ≤ i_.toInt ∧ i_.toInt + 7 ≤ L ∧ L ≤ 3584) (hP : va_P D vwCl ((no, .inl (cy 2, 1, .inr (.inl g))) :: (Wm ++ Wc)) H) (hD : va_D A ((no, .inl (cy 2, 1, .inr (.inl g))) :: (Wm ++ Wc))) (hS : va_S A s.heap H locs) (hl : lv_has ls 8 [(4, .int i_), (3, .ref no), (2, .ref nm), (1, .ref nx), (0, .ref b)]) (kk : ∀ (S2 : CSt) (M2 : MSt) (W2 Wm2 : va_W) (g2 : Nat → Int64) (kc2 ks2 : Nat) (H : Heap) (locs : List Loc) (ls : Array Slot), IC cy nx S2 W2 → IMo cy nm (h + 900) M2 Wm2 → RSM S2 M2 → (kc2 : Int) + 2 * S2.1.1.toInt ≤ kc + 2 * S.1.1.toInt + 200 → (ks2 : Int) + 471 * S2.1.1.toInt ≤ ks + 471 * S.1.1.toInt + 9420 → va_P D vwCl ((no, .inl (cy 2, 1, .inr (.inl g2))) :: (Wm2 ++ W2)) H → va_D A ((no, .inl (cy 2, 1, .inr (.inl g2))) :: (Wm2 ++ W2)) → va_S A s.heap H locs → lv_has ls 8 [(4, .int i_), (3, .ref no), (2, .ref nm), (1, .ref nx), (0, .ref b)] → W p l e room_1 s m #[Value.ref b] below meth c H locs kc2 ks2 Q (F0 m 2150 ls [])) : W p l e room_1 s m #[Value.ref b] below meth c H locs kc ks Q (F0 m 518 ls []) := by
  obtain ⟨hx, hb, hr, hml, hown, htA, hlk⟩ := id hX
  have hK := hE.1
  have hT0 := IC_T hI
  refine lv_aload_n hx hb dL_law_518 rfl (lv_at hl 3 rfl) ?_
  refine lv_aload_n hx hb dL_law_519 rfl (lv_at hl 4 rfl) ?_
  refine lv_iload hx hb dL_law_520 (lv_at hl 0 rfl) ?_
  refine lv_iconst (v := 1) hx hb dL_law_522 (by decide) ?_
  refine lv_iadd hx hb dL_law_523 ?_
  refine va_sld hx hb hXs hbl hbA hS (lwi 1 hi) dL_law_524 ?_
  refine lv_aload_n hx hb dL_law_525 rfl (lv_at hl 4 rfl) ?_
  refine lv_iload hx hb dL_law_526 (lv_at hl 0 rfl) ?_
  refine lv_iconst (v := 2) hx hb dL_law_528 (by decide) ?_
  refine lv_iadd hx hb dL_law_529 ?_
  refine va_sld hx hb hXs hbl hbA hS (lwi 2 hi) dL_law_530 ?_
  refine lv_aload_n hx hb dL_law_531 rfl (lv_at hl 4 rfl) ?_
  refine lv_iload hx hb dL_law_532 (lv_at hl 0 rfl) ?_
  refine lv_iconst (v := 3) hx hb dL_law_534 (by decide) ?_
  refine lv_iadd hx hb dL_law_535 ?_
  refine va_sld hx hb hXs hbl hbA hS (lwi 3 hi) dL_law_536 ?_
  refine lv_aload_n hx hb dL_law_537 rfl (lv_at hl 4 rfl) ?_
  refine lv_iload hx hb dL_law_538 (lv_at hl 0 rfl) ?_
  refine lv_iconst (v := 4) hx hb dL_law_540 (by decide) ?_
  refine lv_iadd hx hb dL_law_541 ?_
  refine va_sld hx hb hXs hbl hbA hS (lwi 4 hi) dL_law_542 ?_
  refine lv_aload_n hx hb dL_law_543 rfl (lv_at hl 1 rfl) ?_
  have hP : va_P D vwCl (Wm ++ ((no, .inl (cy 2, 1, .inr (.inl g))) :: Wc)) H := vP_pm hP List.perm_middle.symm
  have hD : va_D A (Wm ++ ((no, .inl (cy 2, 1, .inr (.inl g))) :: Wc)) := vD_pm hD List.perm_middle.symm
  refine kHi (As := [.ref nx, .int (xs (i_ + 1).toNatClampNeg), .int (xs (i_ + 2).toNatClampNeg), .int (xs (i_ + 3).toNatClampNeg), .int (xs (i_ + 4).toNatClampNeg), .ref no]) (rest := []) (wr := Wm) hX hE (H_hanging l hlt D cy nx S Wc no g (xs (i_ + 1).toNatClampNeg) (xs (i_ + 2).toNatClampNeg) (xs (i_ + 3).toNatClampNeg) (xs (i_ + 4).toNatClampNeg) hI) (cwHA 6 htA wd_928 wd_926 wd_0 wd_927 (by decide +kernel) ⟨by decide, by decide⟩) hP hD hS (apR Wm ((no, .inl (cy 2, 1, .inr (.inl g))) :: Wc)) (List.range Wm.length) (ap_R Wm ((no, .inl (cy 2, 1, .inr (.inl g))) :: Wc)) (ap_C Wm ((no, .inl (cy 2, 1, .inr (.inl g))) :: Wc)) (ap_nd Wm ((no, .inl (cy 2, 1, .inr (.inl g))) :: Wc)) rfl hl.1 rfl (Nat.le_of_ble_eq_true rfl) dL_law_544 ⟨rmC (by dsimp only; omega), rmS (by dsimp only; omega)⟩ (fun rc_ W1 H locs hw hP hD hS => ?_)
  refine W.widen (k := kc + 3) (n := ks + 18) (Nat.le_refl _) (Nat.le_refl _) ?_
  obtain ⟨g2, W2, Sn, hcs, hT2, hI2, rfl⟩ := hw
  have hP := vP_pm hP List.perm_middle
  have hD := vD_pm hD List.perm_middle
  refine lv_istore (lv' := [(5, .int rc_), (4, .int i_), (3, .ref no), (2, .ref nm), (1, .ref nx), (0, .ref b)]) hx hb dL_law_547 hl (by decide) rfl (fun ls hl => ?_)
  refine lv_aload_n hx hb dL_law_549 rfl (lv_at hl 3 rfl) ?_
  refine lv_aload_n hx hb dL_law_550 rfl (lv_at hl 5 rfl) ?_
  refine lv_iload hx hb dL_law_551 (lv_at hl 1 rfl) ?_
  refine lv_iconst (v := 1) hx hb dL_law_553 (by decide) ?_
  refine lv_iadd hx hb dL_law_554 ?_
  refine va_sld hx hb hXs hbl hbA hS (lwi 1 hi) dL_law_555 ?_
  refine lv_aload_n hx hb dL_law_556 rfl (lv_at hl 5 rfl) ?_
  refine lv_iload hx hb dL_law_557 (lv_at hl 1 rfl) ?_
  refine lv_iconst (v := 2) hx hb dL_law_559 (by decide) ?_
  refine lv_iadd hx hb dL_law_560 ?_
  refine va_sld hx hb hXs hbl hbA hS (lwi 2 hi) dL_law_561 ?_
  refine lv_aload_n hx hb dL_law_562 rfl (lv_at hl 5 rfl) ?_
  refine lv_iload hx hb dL_law_563 (lv_at hl 1 rfl) ?_
  refine lv_iconst (v := 3) hx hb dL_law_565 (by decide) ?_
  refine lv_iadd hx hb dL_law_566 ?_
  refine va_sld hx hb hXs hbl hbA hS (lwi 3 hi) dL_law_567 ?_
  refine lv_aload_n hx hb dL_law_568 rfl (lv_at hl 5 rfl) ?_
  refine lv_iload hx hb dL_law_569 (lv_at hl 1 rfl) ?_
  refine lv_iconst (v := 4) hx hb dL_law_571 (by decide) ?_
  refine lv_iadd hx hb dL_law_572 ?_
  refine va_sld hx hb hXs hbl hbA hS (lwi 4 hi) dL_law_573 ?_
  have hP : va_P D vwCl (((no, .inl (cy 2, 1, .inr (.inl g2))) :: W2) ++ Wm) H := vP_pm hP (List.Perm.cons _ List.perm_append_comm)
  have hD : va_D A (((no, .inl (cy 2, 1, .inr (.inl g2))) :: W2) ++ Wm) := vD_pm hD (List.Perm.cons _ List.perm_append_comm)
  obtain ⟨qM_, fM_, hqM⟩ := IMo_at hM
  refine kVi (As := [.int (xs (i_ + 1).toNatClampNeg), .int (xs (i_ + 2).toNatClampNeg), .int (xs (i_ + 3).toNatClampNeg), .int (xs (i_ + 4).toNatClampNeg)]) (rest := []) (wr := ((no, .inl (cy 2, 1, .inr (.inl g2))) :: W2)) hX hE (M_hanging l D cy nm h M Wm (xs (i_ + 1).toNatClampNeg) (xs (i_ + 2).toNatClampNeg) (xs (i_ + 3).toNatClampNeg) (xs (i_ + 4).toNatClampNeg) hM hlo (by omega)) (cwVA 4 htA wd_1699 wd_1696 wd_10 wd_1697 wd_1698 (by decide +kernel) ⟨by decide, by decide⟩) hP hD hS (apR ((no, .inl (cy 2, 1, .inr (.inl g2))) :: W2) Wm) (List.range ((no, .inl (cy 2, 1, .inr (.inl g2))) :: W2).length) (ap_R ((no, .inl (cy 2, 1, .inr (.inl g2))) :: W2) Wm) (ap_C ((no, .inl (cy 2, 1, .inr (.inl g2))) :: W2) Wm) (ap_nd ((no, .inl (cy 2, 1, .inr (.inl g2))) :: W2) Wm) qM_ hqM rfl rfl rfl hl.1 rfl (Nat.le_of_ble_eq_true rfl) dL_law_574 ⟨rmC (by dsimp only; omega), rmS (by dsimp only; omega)⟩ (fun rr_ Wm2 H locs hw hP hD hS => ?_)
  obtain ⟨km_, Mn, hms, hM2⟩ := hw
  refine W.widen (k := kc + 3) (n := ks + 18) (Nat.le_refl _) (Nat.le_refl _) ?_
  refine lv_istore (lv' := [(6, .int rr_), (5, .int rc_), (4, .int i_), (3, .ref no), (2, .ref nm), (1, .ref nx), (0, .ref b)]) hx hb dL_law_577 hl (by decide) rfl (fun ls hl => ?_)
  refine lv_goto (tgt := 2150) hx hb dL_law_579 (by decide) ?_
  have hP : va_P D vwCl ((no, .inl (cy 2, 1, .inr (.inl g2))) :: (W2 ++ Wm2)) H := hP
  have hP := vP_pm hP (List.Perm.cons _ List.perm_append_comm)
  have hD := vD_pm hD (List.Perm.cons _ List.perm_append_comm)
  exact W.widen (k := kc + 3) (n := ks + 18) (Nat.le_refl _) (Nat.le_refl _) (kk Sn Mn W2 Wm2 g2 (kc + 3) (ks + 18) H locs ls hI2 ⟨_, hM2⟩ (sm_hanging hR hcs hms) (by omega) (by omega) hP hD hS (lv_sub hl [2, 3, 4, 5, 6] rfl))
set_option maxHeartbeats 4000000 in
set_option maxRecDepth 100000 in
theorem cs_8 (l : Launch) (hlt : l.stackTraces = false) {p : Program} {e : Env} {s : State} {m : MethodId} {below : List Frame} {meth : Method} {c : Code} {D : va_G} {cy : Nat → ClassId} {A : Nat → Prop} {b L : Nat} {xs : Nat → Int32} {Q : State → Prop} (hX : Ex p s m #[Value.ref b] meth c code ret 8 RL) (hE : Ew D cy A s) (hXs : va_X b L xs s s.heap) (hbl : b < s.heap.size) (hbA : ¬ A b) {nx nm no : Nat} {h : Int} {S : CSt} {M : MSt} {Wc Wm : va_W} {g : Nat → Int64} {kc ks : Nat} {i_ : Int32} {H : Heap} {locs : List Loc} {ls : Array Slot} (hI : IC cy nx S Wc) (hM : IMo cy nm h M Wm) (hR : RSM S M) (hlo : 999 ≤ h) (hhi : h + 2000 ≤ 1000000) (hkc : (kc : Int) + 2 * S.1.1.toInt ≤ 500000) (hks : (ks : Int) + 471 * S.1.1.toInt ≤ 7000000) (hi : 0 ≤ i_.toInt ∧ i_.toInt + 7 ≤ L ∧ L ≤ 3584) (hP : va_P D vwCl ((no, .inl (cy 2, 1, .inr (.inl g))) :: (Wm ++ Wc)) H) (hD : va_D A ((no, .inl (cy 2, 1, .inr (.inl g))) :: (Wm ++ Wc))) (hS : va_S A s.heap H locs) (hl : lv_has ls 8 [(4, .int i_), (3, .ref no), (2, .ref nm), (1, .ref nx), (0, .ref b)]) (kk : ∀ (S2 : CSt) (M2 : MSt) (W2 Wm2 : va_W) (g2 : Nat → Int64) (kc2 ks2 : Nat) (H : Heap) (locs : List Loc) (ls : Array Slot), IC cy nx S2 W2 → IMo cy nm (h + 900) M2 Wm2 → RSM S2 M2 → (kc2 : Int) + 2 * S2.1.1.toInt ≤ kc + 2 * S.1.1.toInt + 200 → (ks2 : Int) + 471 * S2.1.1.toInt ≤ ks + 471 * S.1.1.toInt + 9420 → va_P D vwCl ((no, .inl (cy 2, 1, .inr (.inl g2))) :: (Wm2 ++ W2)) H → va_D A ((no, .inl (cy 2, 1, .inr (.inl g2))) :: (Wm2 ++ W2)) → va_S A s.heap H locs → lv_has ls 8 [(4, .int i_), (3, .ref no), (2, .ref nm), (1, .ref nx), (0, .ref b)] → W p l e room_1 s m #[Value.ref b] below meth c H locs kc2 ks2 Q (F0 m 2150 ls [])) : W p l e room_1 s m #[Value.ref b] below meth c H locs kc ks Q (F0 m 582 ls []) := by
  obtain ⟨hx, hb, hr, hml, hown, htA, hlk⟩ := id hX
  have hK := hE.1
  have hT0 := IC_T hI
  refine lv_aload_n hx hb dL_law_582 rfl (lv_at hl 3 rfl) ?_
  refine lv_aload_n hx hb dL_law_583 rfl (lv_at hl 4 rfl) ?_
  refine lv_iload hx hb dL_law_584 (lv_at hl 0 rfl) ?_
  refine lv_iconst (v := 1) hx hb dL_law_586 (by decide) ?_
  refine lv_iadd hx hb dL_law_587 ?_
  refine va_sld hx hb hXs hbl hbA hS (lwi 1 hi) dL_law_588 ?_
  refine lv_aload_n hx hb dL_law_589 rfl (lv_at hl 4 rfl) ?_
  refine lv_iload hx hb dL_law_590 (lv_at hl 0 rfl) ?_
  refine lv_iconst (v := 2) hx hb dL_law_592 (by decide) ?_
  refine lv_iadd hx hb dL_law_593 ?_
  refine va_sld hx hb hXs hbl hbA hS (lwi 2 hi) dL_law_594 ?_
  refine lv_aload_n hx hb dL_law_595 rfl (lv_at hl 4 rfl) ?_
  refine lv_iload hx hb dL_law_596 (lv_at hl 0 rfl) ?_
  refine lv_iconst (v := 3) hx hb dL_law_598 (by decide) ?_
  refine lv_iadd hx hb dL_law_599 ?_
  refine va_sld hx hb hXs hbl hbA hS (lwi 3 hi) dL_law_600 ?_
  obtain ⟨qI_, fI_, hqI⟩ := IC_at hI
  have hP : va_P D vwCl (((no, .inl (cy 2, 1, .inr (.inl g))) :: Wm) ++ Wc) H := hP
  have hD : va_D A (((no, .inl (cy 2, 1, .inr (.inl g))) :: Wm) ++ Wc) := hD
  refine kVi (As := [.int (xs (i_ + 1).toNatClampNeg), .int (xs (i_ + 2).toNatClampNeg), .int (xs (i_ + 3).toNatClampNeg)]) (rest := []) (wr := ((no, .inl (cy 2, 1, .inr (.inl g))) :: Wm)) hX hE (I_letGo l D cy nx S Wc (xs (i_ + 1).toNatClampNeg) (xs (i_ + 2).toNatClampNeg) (xs (i_ + 3).toNatClampNeg) hI) (cwVA 3 htA wd_363 wd_360 wd_1 wd_361 wd_362 (by decide +kernel) ⟨by decide, by decide⟩) hP hD hS (apR ((no, .inl (cy 2, 1, .inr (.inl g))) :: Wm) Wc) (List.range ((no, .inl (cy 2, 1, .inr (.inl g))) :: Wm).length) (ap_R ((no, .inl (cy 2, 1, .inr (.inl g))) :: Wm) Wc) (ap_C ((no, .inl (cy 2, 1, .inr (.inl g))) :: Wm) Wc) (ap_nd ((no, .inl (cy 2, 1, .inr (.inl g))) :: Wm) Wc) qI_ hqI rfl rfl rfl hl.1 rfl (Nat.le_of_ble_eq_true rfl) dL_law_601 ⟨rmC (by dsimp only; omega), rmS (by dsimp only; omega)⟩ (fun rc_ W2 H locs hw hP hD hS => ?_)
  refine W.widen (k := kc + 0) (n := ks + 0) (Nat.le_refl _) (Nat.le_refl _) ?_
  obtain ⟨Sn, hcs, hT2, hI2⟩ := hw
  refine lv_pop hx hb dL_law_604 rfl ?_
  refine lv_aload_n hx hb dL_law_605 rfl (lv_at hl 2 rfl) ?_
  refine lv_aload_n hx hb dL_law_606 rfl (lv_at hl 4 rfl) ?_
  refine lv_iload hx hb dL_law_607 (lv_at hl 0 rfl) ?_
  refine lv_iconst (v := 1) hx hb dL_law_609 (by decide) ?_
  refine lv_iadd hx hb dL_law_610 ?_
  refine va_sld hx hb hXs hbl hbA hS (lwi 1 hi) dL_law_611 ?_
  refine lv_aload_n hx hb dL_law_612 rfl (lv_at hl 4 rfl) ?_
  refine lv_iload hx hb dL_law_613 (lv_at hl 0 rfl) ?_
  refine lv_iconst (v := 2) hx hb dL_law_615 (by decide) ?_
  refine lv_iadd hx hb dL_law_616 ?_
  refine va_sld hx hb hXs hbl hbA hS (lwi 2 hi) dL_law_617 ?_
  refine lv_aload_n hx hb dL_law_618 rfl (lv_at hl 4 rfl) ?_
  refine lv_iload hx hb dL_law_619 (lv_at hl 0 rfl) ?_
  refine lv_iconst (v := 3) hx hb dL_law_621 (by decide) ?_
  refine lv_iadd hx hb dL_law_622 ?_
  refine va_sld hx hb hXs hbl hbA hS (lwi 3 hi) dL_law_623 ?_
  have hP : va_P D vwCl (((no, .inl (cy 2, 1, .inr (.inl g))) :: W2) ++ Wm) H := vP_pm hP (List.Perm.cons _ List.perm_append_comm)
  have hD : va_D A (((no, .inl (cy 2, 1, .inr (.inl g))) :: W2) ++ Wm) := vD_pm hD (List.Perm.cons _ List.perm_append_comm)
  obtain ⟨qM_, fM_, hqM⟩ := IMo_at hM
  refine kVi (As := [.int (xs (i_ + 1).toNatClampNeg), .int (xs (i_ + 2).toNatClampNeg), .int (xs (i_ + 3).toNatClampNeg)]) (rest := []) (wr := ((no, .inl (cy 2, 1, .inr (.inl g))) :: W2)) hX hE (M_letGo l D cy nm h M Wm (xs (i_ + 1).toNatClampNeg) (xs (i_ + 2).toNatClampNeg) (xs (i_ + 3).toNatClampNeg) hM hlo (by omega)) (cwVA 3 htA wd_1724 wd_1721 wd_10 wd_1722 wd_1723 (by decide +kernel) ⟨by decide, by decide⟩) hP hD hS (apR ((no, .inl (cy 2, 1, .inr (.inl g))) :: W2) Wm) (List.range ((no, .inl (cy 2, 1, .inr (.inl g))) :: W2).length) (ap_R ((no, .inl (cy 2, 1, .inr (.inl g))) :: W2) Wm) (ap_C ((no, .inl (cy 2, 1, .inr (.inl g))) :: W2) Wm) (ap_nd ((no, .inl (cy 2, 1, .inr (.inl g))) :: W2) Wm) qM_ hqM rfl rfl rfl hl.1 rfl (Nat.le_of_ble_eq_true rfl) dL_law_624 ⟨rmC (by dsimp only; omega), rmS (by dsimp only; omega)⟩ (fun rr_ Wm2 H locs hw hP hD hS => ?_)
  obtain ⟨km_, Mn, hms, hM2⟩ := hw
  refine W.widen (k := kc + 0) (n := ks + 0) (Nat.le_refl _) (Nat.le_refl _) ?_
  refine lv_pop hx hb dL_law_627 rfl ?_
  refine lv_goto (tgt := 2150) hx hb dL_law_628 (by decide) ?_
  have hP : va_P D vwCl ((no, .inl (cy 2, 1, .inr (.inl g))) :: (W2 ++ Wm2)) H := hP
  have hP := vP_pm hP (List.Perm.cons _ List.perm_append_comm)
  have hD := vD_pm hD (List.Perm.cons _ List.perm_append_comm)
  exact W.widen (k := kc + 0) (n := ks + 0) (Nat.le_refl _) (Nat.le_refl _) (kk Sn Mn W2 Wm2 g (kc + 0) (ks + 0) H locs ls hI2 ⟨_, hM2⟩ (sm_letGo hR hcs hms) (by omega) (by omega) hP hD hS (lv_sub hl [0, 1, 2, 3, 4] rfl))
set_option maxHeartbeats 4000000 in
set_option maxRecDepth 100000 in
theorem cs_9 (l : Launch) (hlt : l.stackTraces = false) {p : Program} {e : Env} {s : State} {m : MethodId} {below : List Frame} {meth : Method} {c : Code} {D : va_G} {cy : Nat → ClassId} {A : Nat → Prop} {b L : Nat} {xs : Nat → Int32} {Q : State → Prop} (hX : Ex p s m #[Value.ref b] meth c code ret 8 RL) (hE : Ew D cy A s) (hXs : va_X b L xs s s.heap) (hbl : b < s.heap.size) (hbA : ¬ A b) {nx nm no : Nat} {h : Int} {S : CSt} {M : MSt} {Wc Wm : va_W} {g : Nat → Int64} {kc ks : Nat} {i_ : Int32} {H : Heap} {locs : List Loc} {ls : Array Slot} (hI : IC cy nx S Wc) (hM : IMo cy nm h M Wm) (hR : RSM S M) (hlo : 999 ≤ h) (hhi : h + 2000 ≤ 1000000) (hkc : (kc : Int) + 2 * S.1.1.toInt ≤ 500000) (hks : (ks : Int) + 471 * S.1.1.toInt ≤ 7000000) (hi : 0 ≤ i_.toInt ∧ i_.toInt + 7 ≤ L ∧ L ≤ 3584) (hP : va_P D vwCl ((no, .inl (cy 2, 1, .inr (.inl g))) :: (Wm ++ Wc)) H) (hD : va_D A ((no, .inl (cy 2, 1, .inr (.inl g))) :: (Wm ++ Wc))) (hS : va_S A s.heap H locs) (hl : lv_has ls 8 [(4, .int i_), (3, .ref no), (2, .ref nm), (1, .ref nx), (0, .ref b)]) (kk : ∀ (S2 : CSt) (M2 : MSt) (W2 Wm2 : va_W) (g2 : Nat → Int64) (kc2 ks2 : Nat) (H : Heap) (locs : List Loc) (ls : Array Slot), IC cy nx S2 W2 → IMo cy nm (h + 900) M2 Wm2 → RSM S2 M2 → (kc2 : Int) + 2 * S2.1.1.toInt ≤ kc + 2 * S.1.1.toInt + 200 → (ks2 : Int) + 471 * S2.1.1.toInt ≤ ks + 471 * S.1.1.toInt + 9420 → va_P D vwCl ((no, .inl (cy 2, 1, .inr (.inl g2))) :: (Wm2 ++ W2)) H → va_D A ((no, .inl (cy 2, 1, .inr (.inl g2))) :: (Wm2 ++ W2)) → va_S A s.heap H locs → lv_has ls 8 [(4, .int i_), (3, .ref no), (2, .ref nm), (1, .ref nx), (0, .ref b)] → W p l e room_1 s m #[Value.ref b] below meth c H locs kc2 ks2 Q (F0 m 2150 ls [])) : W p l e room_1 s m #[Value.ref b] below meth c H locs kc ks Q (F0 m 631 ls []) := by
  obtain ⟨hx, hb, hr, hml, hown, htA, hlk⟩ := id hX
  have hK := hE.1
  have hT0 := IC_T hI
  refine lv_aload_n hx hb dL_law_631 rfl (lv_at hl 3 rfl) ?_
  refine lv_aload_n hx hb dL_law_632 rfl (lv_at hl 4 rfl) ?_
  refine lv_iload hx hb dL_law_633 (lv_at hl 0 rfl) ?_
  refine lv_iconst (v := 1) hx hb dL_law_635 (by decide) ?_
  refine lv_iadd hx hb dL_law_636 ?_
  refine va_sld hx hb hXs hbl hbA hS (lwi 1 hi) dL_law_637 ?_
  obtain ⟨qI_, fI_, hqI⟩ := IC_at hI
  have hP : va_P D vwCl (((no, .inl (cy 2, 1, .inr (.inl g))) :: Wm) ++ Wc) H := hP
  have hD : va_D A (((no, .inl (cy 2, 1, .inr (.inl g))) :: Wm) ++ Wc) := hD
  refine kVi (As := [.int (xs (i_ + 1).toNatClampNeg)]) (rest := []) (wr := ((no, .inl (cy 2, 1, .inr (.inl g))) :: Wm)) hX hE (I_take l D cy nx S Wc (xs (i_ + 1).toNatClampNeg) hI) (cwVA 1 htA wd_459 wd_456 wd_1 wd_457 wd_458 (by decide +kernel) ⟨by decide, by decide⟩) hP hD hS (apR ((no, .inl (cy 2, 1, .inr (.inl g))) :: Wm) Wc) (List.range ((no, .inl (cy 2, 1, .inr (.inl g))) :: Wm).length) (ap_R ((no, .inl (cy 2, 1, .inr (.inl g))) :: Wm) Wc) (ap_C ((no, .inl (cy 2, 1, .inr (.inl g))) :: Wm) Wc) (ap_nd ((no, .inl (cy 2, 1, .inr (.inl g))) :: Wm) Wc) qI_ hqI rfl rfl rfl hl.1 rfl (Nat.le_of_ble_eq_true rfl) dL_law_638 ⟨rmC (by dsimp only; omega), rmS (by dsimp only; omega)⟩ (fun rc_ W2 H locs hw hP hD hS => ?_)
  refine W.widen (k := kc + 0) (n := ks + 0) (Nat.le_refl _) (Nat.le_refl _) ?_
  obtain ⟨Sn, hcs, hT2, hI2⟩ := hw
  refine lv_pop hx hb dL_law_641 rfl ?_
  refine lv_aload_n hx hb dL_law_642 rfl (lv_at hl 2 rfl) ?_
  refine lv_aload_n hx hb dL_law_643 rfl (lv_at hl 4 rfl) ?_
  refine lv_iload hx hb dL_law_644 (lv_at hl 0 rfl) ?_
  refine lv_iconst (v := 1) hx hb dL_law_646 (by decide) ?_
  refine lv_iadd hx hb dL_law_647 ?_
  refine va_sld hx hb hXs hbl hbA hS (lwi 1 hi) dL_law_648 ?_
  have hP : va_P D vwCl (((no, .inl (cy 2, 1, .inr (.inl g))) :: W2) ++ Wm) H := vP_pm hP (List.Perm.cons _ List.perm_append_comm)
  have hD : va_D A (((no, .inl (cy 2, 1, .inr (.inl g))) :: W2) ++ Wm) := vD_pm hD (List.Perm.cons _ List.perm_append_comm)
  obtain ⟨qM_, fM_, hqM⟩ := IMo_at hM
  refine kVi (As := [.int (xs (i_ + 1).toNatClampNeg)]) (rest := []) (wr := ((no, .inl (cy 2, 1, .inr (.inl g))) :: W2)) hX hE (M_take l D cy nm h M Wm (xs (i_ + 1).toNatClampNeg) hM hlo (by omega)) (cwVA 1 htA wd_1766 wd_1763 wd_10 wd_1764 wd_1765 (by decide +kernel) ⟨by decide, by decide⟩) hP hD hS (apR ((no, .inl (cy 2, 1, .inr (.inl g))) :: W2) Wm) (List.range ((no, .inl (cy 2, 1, .inr (.inl g))) :: W2).length) (ap_R ((no, .inl (cy 2, 1, .inr (.inl g))) :: W2) Wm) (ap_C ((no, .inl (cy 2, 1, .inr (.inl g))) :: W2) Wm) (ap_nd ((no, .inl (cy 2, 1, .inr (.inl g))) :: W2) Wm) qM_ hqM rfl rfl rfl hl.1 rfl (Nat.le_of_ble_eq_true rfl) dL_law_649 ⟨rmC (by dsimp only; omega), rmS (by dsimp only; omega)⟩ (fun rr_ Wm2 H locs hw hP hD hS => ?_)
  obtain ⟨km_, Mn, hms, hM2⟩ := hw
  refine W.widen (k := kc + 0) (n := ks + 0) (Nat.le_refl _) (Nat.le_refl _) ?_
  refine lv_pop hx hb dL_law_652 rfl ?_
  refine lv_goto (tgt := 2150) hx hb dL_law_653 (by decide) ?_
  have hP : va_P D vwCl ((no, .inl (cy 2, 1, .inr (.inl g))) :: (W2 ++ Wm2)) H := hP
  have hP := vP_pm hP (List.Perm.cons _ List.perm_append_comm)
  have hD := vD_pm hD (List.Perm.cons _ List.perm_append_comm)
  exact W.widen (k := kc + 0) (n := ks + 0) (Nat.le_refl _) (Nat.le_refl _) (kk Sn Mn W2 Wm2 g (kc + 0) (ks + 0) H locs ls hI2 ⟨_, hM2⟩ (sm_take hR hcs hms) (by omega) (by omega) hP hD hS (lv_sub hl [0, 1, 2, 3, 4] rfl))
set_option maxHeartbeats 4000000 in
set_option maxRecDepth 100000 in
theorem cs_10 (l : Launch) (hlt : l.stackTraces = false) {p : Program} {e : Env} {s : State} {m : MethodId} {below : List Frame} {meth : Method} {c : Code} {D : va_G} {cy : Nat → ClassId} {A : Nat → Prop} {b L : Nat} {xs : Nat → Int32} {Q : State → Prop} (hX : Ex p s m #[Value.ref b] meth c code ret 8 RL) (hE : Ew D cy A s) (hXs : va_X b L xs s s.heap) (hbl : b < s.heap.size) (hbA : ¬ A b) {nx nm no : Nat} {h : Int} {S : CSt} {M : MSt} {Wc Wm : va_W} {g : Nat → Int64} {kc ks : Nat} {i_ : Int32} {H : Heap} {locs : List Loc} {ls : Array Slot} (hI : IC cy nx S Wc) (hM : IMo cy nm h M Wm) (hR : RSM S M) (hlo : 999 ≤ h) (hhi : h + 2000 ≤ 1000000) (hkc : (kc : Int) + 2 * S.1.1.toInt ≤ 500000) (hks : (ks : Int) + 471 * S.1.1.toInt ≤ 7000000) (hi : 0 ≤ i_.toInt ∧ i_.toInt + 7 ≤ L ∧ L ≤ 3584) (hP : va_P D vwCl ((no, .inl (cy 2, 1, .inr (.inl g))) :: (Wm ++ Wc)) H) (hD : va_D A ((no, .inl (cy 2, 1, .inr (.inl g))) :: (Wm ++ Wc))) (hS : va_S A s.heap H locs) (hl : lv_has ls 8 [(4, .int i_), (3, .ref no), (2, .ref nm), (1, .ref nx), (0, .ref b)]) (kk : ∀ (S2 : CSt) (M2 : MSt) (W2 Wm2 : va_W) (g2 : Nat → Int64) (kc2 ks2 : Nat) (H : Heap) (locs : List Loc) (ls : Array Slot), IC cy nx S2 W2 → IMo cy nm (h + 900) M2 Wm2 → RSM S2 M2 → (kc2 : Int) + 2 * S2.1.1.toInt ≤ kc + 2 * S.1.1.toInt + 200 → (ks2 : Int) + 471 * S2.1.1.toInt ≤ ks + 471 * S.1.1.toInt + 9420 → va_P D vwCl ((no, .inl (cy 2, 1, .inr (.inl g2))) :: (Wm2 ++ W2)) H → va_D A ((no, .inl (cy 2, 1, .inr (.inl g2))) :: (Wm2 ++ W2)) → va_S A s.heap H locs → lv_has ls 8 [(4, .int i_), (3, .ref no), (2, .ref nm), (1, .ref nx), (0, .ref b)] → W p l e room_1 s m #[Value.ref b] below meth c H locs kc2 ks2 Q (F0 m 2150 ls [])) : W p l e room_1 s m #[Value.ref b] below meth c H locs kc ks Q (F0 m 656 ls []) := by
  obtain ⟨hx, hb, hr, hml, hown, htA, hlk⟩ := id hX
  have hK := hE.1
  have hT0 := IC_T hI
  refine lv_aload_n hx hb dL_law_656 rfl (lv_at hl 3 rfl) ?_
  obtain ⟨qI_, fI_, hqI⟩ := IC_at hI
  have hP : va_P D vwCl (((no, .inl (cy 2, 1, .inr (.inl g))) :: Wm) ++ Wc) H := hP
  have hD : va_D A (((no, .inl (cy 2, 1, .inr (.inl g))) :: Wm) ++ Wc) := hD
  refine kVi (As := []) (rest := []) (wr := ((no, .inl (cy 2, 1, .inr (.inl g))) :: Wm)) hX hE (I_quake l D cy nx S Wc  hI) (cwVA 0 htA wd_471 wd_468 wd_1 wd_469 wd_470 (by decide +kernel) ⟨by decide, by decide⟩) hP hD hS (apR ((no, .inl (cy 2, 1, .inr (.inl g))) :: Wm) Wc) (List.range ((no, .inl (cy 2, 1, .inr (.inl g))) :: Wm).length) (ap_R ((no, .inl (cy 2, 1, .inr (.inl g))) :: Wm) Wc) (ap_C ((no, .inl (cy 2, 1, .inr (.inl g))) :: Wm) Wc) (ap_nd ((no, .inl (cy 2, 1, .inr (.inl g))) :: Wm) Wc) qI_ hqI rfl rfl rfl hl.1 rfl (Nat.le_of_ble_eq_true rfl) dL_law_657 ⟨rmC (by dsimp only; omega), rmS (by dsimp only; omega)⟩ (fun rc_ W2 H locs hw hP hD hS => ?_)
  refine W.widen (k := kc + 0) (n := ks + 0) (Nat.le_refl _) (Nat.le_refl _) ?_
  obtain ⟨Sn, hcs, hT2, hI2⟩ := hw
  refine lv_pop hx hb dL_law_660 rfl ?_
  refine lv_aload_n hx hb dL_law_661 rfl (lv_at hl 2 rfl) ?_
  have hP : va_P D vwCl (((no, .inl (cy 2, 1, .inr (.inl g))) :: W2) ++ Wm) H := vP_pm hP (List.Perm.cons _ List.perm_append_comm)
  have hD : va_D A (((no, .inl (cy 2, 1, .inr (.inl g))) :: W2) ++ Wm) := vD_pm hD (List.Perm.cons _ List.perm_append_comm)
  obtain ⟨qM_, fM_, hqM⟩ := IMo_at hM
  refine kVi (As := []) (rest := []) (wr := ((no, .inl (cy 2, 1, .inr (.inl g))) :: W2)) hX hE (M_quake l D cy nm h M Wm  hM hlo (by omega)) (cwVA 0 htA wd_1778 wd_1775 wd_10 wd_1776 wd_1777 (by decide +kernel) ⟨by decide, by decide⟩) hP hD hS (apR ((no, .inl (cy 2, 1, .inr (.inl g))) :: W2) Wm) (List.range ((no, .inl (cy 2, 1, .inr (.inl g))) :: W2).length) (ap_R ((no, .inl (cy 2, 1, .inr (.inl g))) :: W2) Wm) (ap_C ((no, .inl (cy 2, 1, .inr (.inl g))) :: W2) Wm) (ap_nd ((no, .inl (cy 2, 1, .inr (.inl g))) :: W2) Wm) qM_ hqM rfl rfl rfl hl.1 rfl (Nat.le_of_ble_eq_true rfl) dL_law_662 ⟨rmC (by dsimp only; omega), rmS (by dsimp only; omega)⟩ (fun rr_ Wm2 H locs hw hP hD hS => ?_)
  obtain ⟨km_, Mn, hms, hM2⟩ := hw
  refine W.widen (k := kc + 0) (n := ks + 0) (Nat.le_refl _) (Nat.le_refl _) ?_
  refine lv_pop hx hb dL_law_665 rfl ?_
  refine lv_goto (tgt := 2150) hx hb dL_law_666 (by decide) ?_
  have hP : va_P D vwCl ((no, .inl (cy 2, 1, .inr (.inl g))) :: (W2 ++ Wm2)) H := hP
  have hP := vP_pm hP (List.Perm.cons _ List.perm_append_comm)
  have hD := vD_pm hD (List.Perm.cons _ List.perm_append_comm)
  exact W.widen (k := kc + 0) (n := ks + 0) (Nat.le_refl _) (Nat.le_refl _) (kk Sn Mn W2 Wm2 g (kc + 0) (ks + 0) H locs ls hI2 ⟨_, hM2⟩ (sm_quake hR hcs hms) (by omega) (by omega) hP hD hS (lv_sub hl [0, 1, 2, 3, 4] rfl))
set_option maxHeartbeats 4000000 in
set_option maxRecDepth 100000 in
theorem cs_11 (l : Launch) (hlt : l.stackTraces = false) {p : Program} {e : Env} {s : State} {m : MethodId} {below : List Frame} {meth : Method} {c : Code} {D : va_G} {cy : Nat → ClassId} {A : Nat → Prop} {b L : Nat} {xs : Nat → Int32} {Q : State → Prop} (hX : Ex p s m #[Value.ref b] meth c code ret 8 RL) (hE : Ew D cy A s) (hXs : va_X b L xs s s.heap) (hbl : b < s.heap.size) (hbA : ¬ A b) {nx nm no : Nat} {h : Int} {S : CSt} {M : MSt} {Wc Wm : va_W} {g : Nat → Int64} {kc ks : Nat} {i_ : Int32} {H : Heap} {locs : List Loc} {ls : Array Slot} (hI : IC cy nx S Wc) (hM : IMo cy nm h M Wm) (hR : RSM S M) (hlo : 999 ≤ h) (hhi : h + 2000 ≤ 1000000) (hkc : (kc : Int) + 2 * S.1.1.toInt ≤ 500000) (hks : (ks : Int) + 471 * S.1.1.toInt ≤ 7000000) (hi : 0 ≤ i_.toInt ∧ i_.toInt + 7 ≤ L ∧ L ≤ 3584) (hP : va_P D vwCl ((no, .inl (cy 2, 1, .inr (.inl g))) :: (Wm ++ Wc)) H) (hD : va_D A ((no, .inl (cy 2, 1, .inr (.inl g))) :: (Wm ++ Wc))) (hS : va_S A s.heap H locs) (hl : lv_has ls 8 [(4, .int i_), (3, .ref no), (2, .ref nm), (1, .ref nx), (0, .ref b)]) (kk : ∀ (S2 : CSt) (M2 : MSt) (W2 Wm2 : va_W) (g2 : Nat → Int64) (kc2 ks2 : Nat) (H : Heap) (locs : List Loc) (ls : Array Slot), IC cy nx S2 W2 → IMo cy nm (h + 900) M2 Wm2 → RSM S2 M2 → (kc2 : Int) + 2 * S2.1.1.toInt ≤ kc + 2 * S.1.1.toInt + 200 → (ks2 : Int) + 471 * S2.1.1.toInt ≤ ks + 471 * S.1.1.toInt + 9420 → va_P D vwCl ((no, .inl (cy 2, 1, .inr (.inl g2))) :: (Wm2 ++ W2)) H → va_D A ((no, .inl (cy 2, 1, .inr (.inl g2))) :: (Wm2 ++ W2)) → va_S A s.heap H locs → lv_has ls 8 [(4, .int i_), (3, .ref no), (2, .ref nm), (1, .ref nx), (0, .ref b)] → W p l e room_1 s m #[Value.ref b] below meth c H locs kc2 ks2 Q (F0 m 2150 ls [])) : W p l e room_1 s m #[Value.ref b] below meth c H locs kc ks Q (F0 m 669 ls []) := by
  obtain ⟨hx, hb, hr, hml, hown, htA, hlk⟩ := id hX
  have hK := hE.1
  have hT0 := IC_T hI
  refine lv_aload_n hx hb dL_law_669 rfl (lv_at hl 3 rfl) ?_
  refine lv_aload_n hx hb dL_law_670 rfl (lv_at hl 4 rfl) ?_
  refine lv_iload hx hb dL_law_671 (lv_at hl 0 rfl) ?_
  refine lv_iconst (v := 1) hx hb dL_law_673 (by decide) ?_
  refine lv_iadd hx hb dL_law_674 ?_
  refine va_sld hx hb hXs hbl hbA hS (lwi 1 hi) dL_law_675 ?_
  refine lv_aload_n hx hb dL_law_676 rfl (lv_at hl 1 rfl) ?_
  have hP : va_P D vwCl (Wm ++ ((no, .inl (cy 2, 1, .inr (.inl g))) :: Wc)) H := vP_pm hP List.perm_middle.symm
  have hD : va_D A (Wm ++ ((no, .inl (cy 2, 1, .inr (.inl g))) :: Wc)) := vD_pm hD List.perm_middle.symm
  refine kHi (As := [.ref nx, .int (xs (i_ + 1).toNatClampNeg), .ref no]) (rest := []) (wr := Wm) hX hE (H_hours l hlt D cy nx S Wc no g (xs (i_ + 1).toNatClampNeg) hI) (cwHA 3 htA wd_940 wd_938 wd_0 wd_939 (by decide +kernel) ⟨by decide, by decide⟩) hP hD hS (apR Wm ((no, .inl (cy 2, 1, .inr (.inl g))) :: Wc)) (List.range Wm.length) (ap_R Wm ((no, .inl (cy 2, 1, .inr (.inl g))) :: Wc)) (ap_C Wm ((no, .inl (cy 2, 1, .inr (.inl g))) :: Wc)) (ap_nd Wm ((no, .inl (cy 2, 1, .inr (.inl g))) :: Wc)) rfl hl.1 rfl (Nat.le_of_ble_eq_true rfl) dL_law_677 ⟨rmC (by dsimp only; omega), rmS (by dsimp only; omega)⟩ (fun rc_ W1 H locs hw hP hD hS => ?_)
  refine W.widen (k := kc + 1) (n := ks + 6) (Nat.le_refl _) (Nat.le_refl _) ?_
  obtain ⟨g2, W2, Sn, hcs, hT2, hI2, rfl⟩ := hw
  have hP := vP_pm hP List.perm_middle
  have hD := vD_pm hD List.perm_middle
  refine lv_istore (lv' := [(5, .int rc_), (4, .int i_), (3, .ref no), (2, .ref nm), (1, .ref nx), (0, .ref b)]) hx hb dL_law_680 hl (by decide) rfl (fun ls hl => ?_)
  refine lv_aload_n hx hb dL_law_682 rfl (lv_at hl 3 rfl) ?_
  refine lv_aload_n hx hb dL_law_683 rfl (lv_at hl 5 rfl) ?_
  refine lv_iload hx hb dL_law_684 (lv_at hl 1 rfl) ?_
  refine lv_iconst (v := 1) hx hb dL_law_686 (by decide) ?_
  refine lv_iadd hx hb dL_law_687 ?_
  refine va_sld hx hb hXs hbl hbA hS (lwi 1 hi) dL_law_688 ?_
  have hP : va_P D vwCl (((no, .inl (cy 2, 1, .inr (.inl g2))) :: W2) ++ Wm) H := vP_pm hP (List.Perm.cons _ List.perm_append_comm)
  have hD : va_D A (((no, .inl (cy 2, 1, .inr (.inl g2))) :: W2) ++ Wm) := vD_pm hD (List.Perm.cons _ List.perm_append_comm)
  obtain ⟨qM_, fM_, hqM⟩ := IMo_at hM
  refine kVi (As := [.int (xs (i_ + 1).toNatClampNeg)]) (rest := []) (wr := ((no, .inl (cy 2, 1, .inr (.inl g2))) :: W2)) hX hE (M_hours l D cy nm h M Wm (xs (i_ + 1).toNatClampNeg) hM hlo (by omega)) (cwVA 1 htA wd_1790 wd_1787 wd_10 wd_1788 wd_1789 (by decide +kernel) ⟨by decide, by decide⟩) hP hD hS (apR ((no, .inl (cy 2, 1, .inr (.inl g2))) :: W2) Wm) (List.range ((no, .inl (cy 2, 1, .inr (.inl g2))) :: W2).length) (ap_R ((no, .inl (cy 2, 1, .inr (.inl g2))) :: W2) Wm) (ap_C ((no, .inl (cy 2, 1, .inr (.inl g2))) :: W2) Wm) (ap_nd ((no, .inl (cy 2, 1, .inr (.inl g2))) :: W2) Wm) qM_ hqM rfl rfl rfl hl.1 rfl (Nat.le_of_ble_eq_true rfl) dL_law_689 ⟨rmC (by dsimp only; omega), rmS (by dsimp only; omega)⟩ (fun rr_ Wm2 H locs hw hP hD hS => ?_)
  obtain ⟨km_, Mn, hms, hM2⟩ := hw
  refine W.widen (k := kc + 1) (n := ks + 6) (Nat.le_refl _) (Nat.le_refl _) ?_
  refine lv_istore (lv' := [(6, .int rr_), (5, .int rc_), (4, .int i_), (3, .ref no), (2, .ref nm), (1, .ref nx), (0, .ref b)]) hx hb dL_law_692 hl (by decide) rfl (fun ls hl => ?_)
  refine lv_goto (tgt := 2150) hx hb dL_law_694 (by decide) ?_
  have hP : va_P D vwCl ((no, .inl (cy 2, 1, .inr (.inl g2))) :: (W2 ++ Wm2)) H := hP
  have hP := vP_pm hP (List.Perm.cons _ List.perm_append_comm)
  have hD := vD_pm hD (List.Perm.cons _ List.perm_append_comm)
  exact W.widen (k := kc + 1) (n := ks + 6) (Nat.le_refl _) (Nat.le_refl _) (kk Sn Mn W2 Wm2 g2 (kc + 1) (ks + 6) H locs ls hI2 ⟨_, hM2⟩ (sm_hours hR hcs hms) (by omega) (by omega) hP hD hS (lv_sub hl [2, 3, 4, 5, 6] rfl))
set_option maxHeartbeats 4000000 in
set_option maxRecDepth 100000 in
theorem cs_12 (l : Launch) (hlt : l.stackTraces = false) {p : Program} {e : Env} {s : State} {m : MethodId} {below : List Frame} {meth : Method} {c : Code} {D : va_G} {cy : Nat → ClassId} {A : Nat → Prop} {b L : Nat} {xs : Nat → Int32} {Q : State → Prop} (hX : Ex p s m #[Value.ref b] meth c code ret 8 RL) (hE : Ew D cy A s) (hXs : va_X b L xs s s.heap) (hbl : b < s.heap.size) (hbA : ¬ A b) {nx nm no : Nat} {h : Int} {S : CSt} {M : MSt} {Wc Wm : va_W} {g : Nat → Int64} {kc ks : Nat} {i_ : Int32} {H : Heap} {locs : List Loc} {ls : Array Slot} (hI : IC cy nx S Wc) (hM : IMo cy nm h M Wm) (hR : RSM S M) (hlo : 999 ≤ h) (hhi : h + 2000 ≤ 1000000) (hkc : (kc : Int) + 2 * S.1.1.toInt ≤ 500000) (hks : (ks : Int) + 471 * S.1.1.toInt ≤ 7000000) (hi : 0 ≤ i_.toInt ∧ i_.toInt + 7 ≤ L ∧ L ≤ 3584) (hP : va_P D vwCl ((no, .inl (cy 2, 1, .inr (.inl g))) :: (Wm ++ Wc)) H) (hD : va_D A ((no, .inl (cy 2, 1, .inr (.inl g))) :: (Wm ++ Wc))) (hS : va_S A s.heap H locs) (hl : lv_has ls 8 [(4, .int i_), (3, .ref no), (2, .ref nm), (1, .ref nx), (0, .ref b)]) (kk : ∀ (S2 : CSt) (M2 : MSt) (W2 Wm2 : va_W) (g2 : Nat → Int64) (kc2 ks2 : Nat) (H : Heap) (locs : List Loc) (ls : Array Slot), IC cy nx S2 W2 → IMo cy nm (h + 900) M2 Wm2 → RSM S2 M2 → (kc2 : Int) + 2 * S2.1.1.toInt ≤ kc + 2 * S.1.1.toInt + 200 → (ks2 : Int) + 471 * S2.1.1.toInt ≤ ks + 471 * S.1.1.toInt + 9420 → va_P D vwCl ((no, .inl (cy 2, 1, .inr (.inl g2))) :: (Wm2 ++ W2)) H → va_D A ((no, .inl (cy 2, 1, .inr (.inl g2))) :: (Wm2 ++ W2)) → va_S A s.heap H locs → lv_has ls 8 [(4, .int i_), (3, .ref no), (2, .ref nm), (1, .ref nx), (0, .ref b)] → W p l e room_1 s m #[Value.ref b] below meth c H locs kc2 ks2 Q (F0 m 2150 ls [])) : W p l e room_1 s m #[Value.ref b] below meth c H locs kc ks Q (F0 m 697 ls []) := by
  obtain ⟨hx, hb, hr, hml, hown, htA, hlk⟩ := id hX
  have hK := hE.1
  have hT0 := IC_T hI
  refine lv_aload_n hx hb dL_law_697 rfl (lv_at hl 3 rfl) ?_
  refine lv_aload_n hx hb dL_law_698 rfl (lv_at hl 4 rfl) ?_
  refine lv_iload hx hb dL_law_699 (lv_at hl 0 rfl) ?_
  refine lv_iconst (v := 1) hx hb dL_law_701 (by decide) ?_
  refine lv_iadd hx hb dL_law_702 ?_
  refine va_sld hx hb hXs hbl hbA hS (lwi 1 hi) dL_law_703 ?_
  refine lv_aload_n hx hb dL_law_704 rfl (lv_at hl 1 rfl) ?_
  have hP : va_P D vwCl (Wm ++ ((no, .inl (cy 2, 1, .inr (.inl g))) :: Wc)) H := vP_pm hP List.perm_middle.symm
  have hD : va_D A (Wm ++ ((no, .inl (cy 2, 1, .inr (.inl g))) :: Wc)) := vD_pm hD List.perm_middle.symm
  refine kHi (As := [.ref nx, .int (xs (i_ + 1).toNatClampNeg), .ref no]) (rest := []) (wr := Wm) hX hE (H_undo l hlt D cy nx S Wc no g (xs (i_ + 1).toNatClampNeg) hI) (cwHA 3 htA wd_952 wd_950 wd_0 wd_951 (by decide +kernel) ⟨by decide, by decide⟩) hP hD hS (apR Wm ((no, .inl (cy 2, 1, .inr (.inl g))) :: Wc)) (List.range Wm.length) (ap_R Wm ((no, .inl (cy 2, 1, .inr (.inl g))) :: Wc)) (ap_C Wm ((no, .inl (cy 2, 1, .inr (.inl g))) :: Wc)) (ap_nd Wm ((no, .inl (cy 2, 1, .inr (.inl g))) :: Wc)) rfl hl.1 rfl (Nat.le_of_ble_eq_true rfl) dL_law_705 ⟨rmC (by dsimp only; omega), rmS (by dsimp only; omega)⟩ (fun rc_ W1 H locs hw hP hD hS => ?_)
  refine W.widen (k := kc + 1) (n := ks + 6) (Nat.le_refl _) (Nat.le_refl _) ?_
  obtain ⟨g2, W2, Sn, hcs, hT2, hI2, rfl⟩ := hw
  have hP := vP_pm hP List.perm_middle
  have hD := vD_pm hD List.perm_middle
  refine lv_istore (lv' := [(5, .int rc_), (4, .int i_), (3, .ref no), (2, .ref nm), (1, .ref nx), (0, .ref b)]) hx hb dL_law_708 hl (by decide) rfl (fun ls hl => ?_)
  refine lv_aload_n hx hb dL_law_710 rfl (lv_at hl 3 rfl) ?_
  refine lv_aload_n hx hb dL_law_711 rfl (lv_at hl 5 rfl) ?_
  refine lv_iload hx hb dL_law_712 (lv_at hl 1 rfl) ?_
  refine lv_iconst (v := 1) hx hb dL_law_714 (by decide) ?_
  refine lv_iadd hx hb dL_law_715 ?_
  refine va_sld hx hb hXs hbl hbA hS (lwi 1 hi) dL_law_716 ?_
  have hP : va_P D vwCl (((no, .inl (cy 2, 1, .inr (.inl g2))) :: W2) ++ Wm) H := vP_pm hP (List.Perm.cons _ List.perm_append_comm)
  have hD : va_D A (((no, .inl (cy 2, 1, .inr (.inl g2))) :: W2) ++ Wm) := vD_pm hD (List.Perm.cons _ List.perm_append_comm)
  obtain ⟨qM_, fM_, hqM⟩ := IMo_at hM
  refine kVi (As := [.int (xs (i_ + 1).toNatClampNeg)]) (rest := []) (wr := ((no, .inl (cy 2, 1, .inr (.inl g2))) :: W2)) hX hE (M_undo l D cy nm h M Wm (xs (i_ + 1).toNatClampNeg) hM hlo (by omega)) (cwVA 1 htA wd_1803 wd_1800 wd_10 wd_1801 wd_1802 (by decide +kernel) ⟨by decide, by decide⟩) hP hD hS (apR ((no, .inl (cy 2, 1, .inr (.inl g2))) :: W2) Wm) (List.range ((no, .inl (cy 2, 1, .inr (.inl g2))) :: W2).length) (ap_R ((no, .inl (cy 2, 1, .inr (.inl g2))) :: W2) Wm) (ap_C ((no, .inl (cy 2, 1, .inr (.inl g2))) :: W2) Wm) (ap_nd ((no, .inl (cy 2, 1, .inr (.inl g2))) :: W2) Wm) qM_ hqM rfl rfl rfl hl.1 rfl (Nat.le_of_ble_eq_true rfl) dL_law_717 ⟨rmC (by dsimp only; omega), rmS (by dsimp only; omega)⟩ (fun rr_ Wm2 H locs hw hP hD hS => ?_)
  obtain ⟨km_, Mn, hms, hM2⟩ := hw
  refine W.widen (k := kc + 1) (n := ks + 6) (Nat.le_refl _) (Nat.le_refl _) ?_
  refine lv_istore (lv' := [(6, .int rr_), (5, .int rc_), (4, .int i_), (3, .ref no), (2, .ref nm), (1, .ref nx), (0, .ref b)]) hx hb dL_law_720 hl (by decide) rfl (fun ls hl => ?_)
  refine lv_goto (tgt := 2150) hx hb dL_law_722 (by decide) ?_
  have hP : va_P D vwCl ((no, .inl (cy 2, 1, .inr (.inl g2))) :: (W2 ++ Wm2)) H := hP
  have hP := vP_pm hP (List.Perm.cons _ List.perm_append_comm)
  have hD := vD_pm hD (List.Perm.cons _ List.perm_append_comm)
  exact W.widen (k := kc + 1) (n := ks + 6) (Nat.le_refl _) (Nat.le_refl _) (kk Sn Mn W2 Wm2 g2 (kc + 1) (ks + 6) H locs ls hI2 ⟨_, hM2⟩ (sm_undo hR hcs hms) (by omega) (by omega) hP hD hS (lv_sub hl [2, 3, 4, 5, 6] rfl))
set_option maxHeartbeats 4000000 in
set_option maxRecDepth 100000 in
theorem cs_13 (l : Launch) (hlt : l.stackTraces = false) {p : Program} {e : Env} {s : State} {m : MethodId} {below : List Frame} {meth : Method} {c : Code} {D : va_G} {cy : Nat → ClassId} {A : Nat → Prop} {b L : Nat} {xs : Nat → Int32} {Q : State → Prop} (hX : Ex p s m #[Value.ref b] meth c code ret 8 RL) (hE : Ew D cy A s) (hXs : va_X b L xs s s.heap) (hbl : b < s.heap.size) (hbA : ¬ A b) {nx nm no : Nat} {h : Int} {S : CSt} {M : MSt} {Wc Wm : va_W} {g : Nat → Int64} {kc ks : Nat} {i_ : Int32} {H : Heap} {locs : List Loc} {ls : Array Slot} (hI : IC cy nx S Wc) (hM : IMo cy nm h M Wm) (hR : RSM S M) (hlo : 999 ≤ h) (hhi : h + 2000 ≤ 1000000) (hkc : (kc : Int) + 2 * S.1.1.toInt ≤ 500000) (hks : (ks : Int) + 471 * S.1.1.toInt ≤ 7000000) (hi : 0 ≤ i_.toInt ∧ i_.toInt + 7 ≤ L ∧ L ≤ 3584) (hP : va_P D vwCl ((no, .inl (cy 2, 1, .inr (.inl g))) :: (Wm ++ Wc)) H) (hD : va_D A ((no, .inl (cy 2, 1, .inr (.inl g))) :: (Wm ++ Wc))) (hS : va_S A s.heap H locs) (hl : lv_has ls 8 [(4, .int i_), (3, .ref no), (2, .ref nm), (1, .ref nx), (0, .ref b)]) (kk : ∀ (S2 : CSt) (M2 : MSt) (W2 Wm2 : va_W) (g2 : Nat → Int64) (kc2 ks2 : Nat) (H : Heap) (locs : List Loc) (ls : Array Slot), IC cy nx S2 W2 → IMo cy nm (h + 900) M2 Wm2 → RSM S2 M2 → (kc2 : Int) + 2 * S2.1.1.toInt ≤ kc + 2 * S.1.1.toInt + 200 → (ks2 : Int) + 471 * S2.1.1.toInt ≤ ks + 471 * S.1.1.toInt + 9420 → va_P D vwCl ((no, .inl (cy 2, 1, .inr (.inl g2))) :: (Wm2 ++ W2)) H → va_D A ((no, .inl (cy 2, 1, .inr (.inl g2))) :: (Wm2 ++ W2)) → va_S A s.heap H locs → lv_has ls 8 [(4, .int i_), (3, .ref no), (2, .ref nm), (1, .ref nx), (0, .ref b)] → W p l e room_1 s m #[Value.ref b] below meth c H locs kc2 ks2 Q (F0 m 2150 ls [])) : W p l e room_1 s m #[Value.ref b] below meth c H locs kc ks Q (F0 m 725 ls []) := by
  obtain ⟨hx, hb, hr, hml, hown, htA, hlk⟩ := id hX
  have hK := hE.1
  have hT0 := IC_T hI
  refine lv_aload_n hx hb dL_law_725 rfl (lv_at hl 3 rfl) ?_
  refine lv_aload_n hx hb dL_law_726 rfl (lv_at hl 4 rfl) ?_
  refine lv_iload hx hb dL_law_727 (lv_at hl 0 rfl) ?_
  refine lv_iconst (v := 1) hx hb dL_law_729 (by decide) ?_
  refine lv_iadd hx hb dL_law_730 ?_
  refine va_sld hx hb hXs hbl hbA hS (lwi 1 hi) dL_law_731 ?_
  refine lv_aload_n hx hb dL_law_732 rfl (lv_at hl 4 rfl) ?_
  refine lv_iload hx hb dL_law_733 (lv_at hl 0 rfl) ?_
  refine lv_iconst (v := 2) hx hb dL_law_735 (by decide) ?_
  refine lv_iadd hx hb dL_law_736 ?_
  refine va_sld hx hb hXs hbl hbA hS (lwi 2 hi) dL_law_737 ?_
  refine lv_aload_n hx hb dL_law_738 rfl (lv_at hl 1 rfl) ?_
  have hP : va_P D vwCl (Wm ++ ((no, .inl (cy 2, 1, .inr (.inl g))) :: Wc)) H := vP_pm hP List.perm_middle.symm
  have hD : va_D A (Wm ++ ((no, .inl (cy 2, 1, .inr (.inl g))) :: Wc)) := vD_pm hD List.perm_middle.symm
  refine kHi (As := [.ref nx, .int (xs (i_ + 1).toNatClampNeg), .int (xs (i_ + 2).toNatClampNeg), .ref no]) (rest := []) (wr := Wm) hX hE (H_judge l hlt D cy nx S Wc no g (xs (i_ + 1).toNatClampNeg) (xs (i_ + 2).toNatClampNeg) hI) (cwHA 4 htA wd_964 wd_962 wd_0 wd_963 (by decide +kernel) ⟨by decide, by decide⟩) hP hD hS (apR Wm ((no, .inl (cy 2, 1, .inr (.inl g))) :: Wc)) (List.range Wm.length) (ap_R Wm ((no, .inl (cy 2, 1, .inr (.inl g))) :: Wc)) (ap_C Wm ((no, .inl (cy 2, 1, .inr (.inl g))) :: Wc)) (ap_nd Wm ((no, .inl (cy 2, 1, .inr (.inl g))) :: Wc)) rfl hl.1 rfl (Nat.le_of_ble_eq_true rfl) dL_law_739 ⟨rmC (by dsimp only; omega), rmS (by dsimp only; omega)⟩ (fun rc_ W1 H locs hw hP hD hS => ?_)
  refine W.widen (k := kc + 2) (n := ks + 12) (Nat.le_refl _) (Nat.le_refl _) ?_
  obtain ⟨g2, W2, Sn, hcs, hT2, hI2, rfl⟩ := hw
  have hP := vP_pm hP List.perm_middle
  have hD := vD_pm hD List.perm_middle
  refine lv_istore (lv' := [(5, .int rc_), (4, .int i_), (3, .ref no), (2, .ref nm), (1, .ref nx), (0, .ref b)]) hx hb dL_law_742 hl (by decide) rfl (fun ls hl => ?_)
  refine lv_aload_n hx hb dL_law_744 rfl (lv_at hl 3 rfl) ?_
  refine lv_aload_n hx hb dL_law_745 rfl (lv_at hl 5 rfl) ?_
  refine lv_iload hx hb dL_law_746 (lv_at hl 1 rfl) ?_
  refine lv_iconst (v := 1) hx hb dL_law_748 (by decide) ?_
  refine lv_iadd hx hb dL_law_749 ?_
  refine va_sld hx hb hXs hbl hbA hS (lwi 1 hi) dL_law_750 ?_
  refine lv_aload_n hx hb dL_law_751 rfl (lv_at hl 5 rfl) ?_
  refine lv_iload hx hb dL_law_752 (lv_at hl 1 rfl) ?_
  refine lv_iconst (v := 2) hx hb dL_law_754 (by decide) ?_
  refine lv_iadd hx hb dL_law_755 ?_
  refine va_sld hx hb hXs hbl hbA hS (lwi 2 hi) dL_law_756 ?_
  have hP : va_P D vwCl (((no, .inl (cy 2, 1, .inr (.inl g2))) :: W2) ++ Wm) H := vP_pm hP (List.Perm.cons _ List.perm_append_comm)
  have hD : va_D A (((no, .inl (cy 2, 1, .inr (.inl g2))) :: W2) ++ Wm) := vD_pm hD (List.Perm.cons _ List.perm_append_comm)
  obtain ⟨qM_, fM_, hqM⟩ := IMo_at hM
  refine kVi (As := [.int (xs (i_ + 1).toNatClampNeg), .int (xs (i_ + 2).toNatClampNeg)]) (rest := []) (wr := ((no, .inl (cy 2, 1, .inr (.inl g2))) :: W2)) hX hE (M_judge l D cy nm h M Wm (xs (i_ + 1).toNatClampNeg) (xs (i_ + 2).toNatClampNeg) hM hlo (by omega)) (cwVA 2 htA wd_1808 wd_1805 wd_10 wd_1806 wd_1807 (by decide +kernel) ⟨by decide, by decide⟩) hP hD hS (apR ((no, .inl (cy 2, 1, .inr (.inl g2))) :: W2) Wm) (List.range ((no, .inl (cy 2, 1, .inr (.inl g2))) :: W2).length) (ap_R ((no, .inl (cy 2, 1, .inr (.inl g2))) :: W2) Wm) (ap_C ((no, .inl (cy 2, 1, .inr (.inl g2))) :: W2) Wm) (ap_nd ((no, .inl (cy 2, 1, .inr (.inl g2))) :: W2) Wm) qM_ hqM rfl rfl rfl hl.1 rfl (Nat.le_of_ble_eq_true rfl) dL_law_757 ⟨rmC (by dsimp only; omega), rmS (by dsimp only; omega)⟩ (fun rr_ Wm2 H locs hw hP hD hS => ?_)
  obtain ⟨km_, Mn, hms, hM2⟩ := hw
  refine W.widen (k := kc + 2) (n := ks + 12) (Nat.le_refl _) (Nat.le_refl _) ?_
  refine lv_istore (lv' := [(6, .int rr_), (5, .int rc_), (4, .int i_), (3, .ref no), (2, .ref nm), (1, .ref nx), (0, .ref b)]) hx hb dL_law_760 hl (by decide) rfl (fun ls hl => ?_)
  refine lv_goto (tgt := 2150) hx hb dL_law_762 (by decide) ?_
  have hP : va_P D vwCl ((no, .inl (cy 2, 1, .inr (.inl g2))) :: (W2 ++ Wm2)) H := hP
  have hP := vP_pm hP (List.Perm.cons _ List.perm_append_comm)
  have hD := vD_pm hD (List.Perm.cons _ List.perm_append_comm)
  exact W.widen (k := kc + 2) (n := ks + 12) (Nat.le_refl _) (Nat.le_refl _) (kk Sn Mn W2 Wm2 g2 (kc + 2) (ks + 12) H locs ls hI2 ⟨_, hM2⟩ (sm_judge hR hcs hms) (by omega) (by omega) hP hD hS (lv_sub hl [2, 3, 4, 5, 6] rfl))
set_option maxHeartbeats 4000000 in
set_option maxRecDepth 100000 in
theorem cs_16 (l : Launch) (hlt : l.stackTraces = false) {p : Program} {e : Env} {s : State} {m : MethodId} {below : List Frame} {meth : Method} {c : Code} {D : va_G} {cy : Nat → ClassId} {A : Nat → Prop} {b L : Nat} {xs : Nat → Int32} {Q : State → Prop} (hX : Ex p s m #[Value.ref b] meth c code ret 8 RL) (hE : Ew D cy A s) (hXs : va_X b L xs s s.heap) (hbl : b < s.heap.size) (hbA : ¬ A b) {nx nm no : Nat} {h : Int} {S : CSt} {M : MSt} {Wc Wm : va_W} {g : Nat → Int64} {kc ks : Nat} {i_ : Int32} {H : Heap} {locs : List Loc} {ls : Array Slot} (hI : IC cy nx S Wc) (hM : IMo cy nm h M Wm) (hR : RSM S M) (hlo : 999 ≤ h) (hhi : h + 2000 ≤ 1000000) (hkc : (kc : Int) + 2 * S.1.1.toInt ≤ 500000) (hks : (ks : Int) + 471 * S.1.1.toInt ≤ 7000000) (hi : 0 ≤ i_.toInt ∧ i_.toInt + 7 ≤ L ∧ L ≤ 3584) (hP : va_P D vwCl ((no, .inl (cy 2, 1, .inr (.inl g))) :: (Wm ++ Wc)) H) (hD : va_D A ((no, .inl (cy 2, 1, .inr (.inl g))) :: (Wm ++ Wc))) (hS : va_S A s.heap H locs) (hl : lv_has ls 8 [(4, .int i_), (3, .ref no), (2, .ref nm), (1, .ref nx), (0, .ref b)]) (kk : ∀ (S2 : CSt) (M2 : MSt) (W2 Wm2 : va_W) (g2 : Nat → Int64) (kc2 ks2 : Nat) (H : Heap) (locs : List Loc) (ls : Array Slot), IC cy nx S2 W2 → IMo cy nm (h + 900) M2 Wm2 → RSM S2 M2 → (kc2 : Int) + 2 * S2.1.1.toInt ≤ kc + 2 * S.1.1.toInt + 200 → (ks2 : Int) + 471 * S2.1.1.toInt ≤ ks + 471 * S.1.1.toInt + 9420 → va_P D vwCl ((no, .inl (cy 2, 1, .inr (.inl g2))) :: (Wm2 ++ W2)) H → va_D A ((no, .inl (cy 2, 1, .inr (.inl g2))) :: (Wm2 ++ W2)) → va_S A s.heap H locs → lv_has ls 8 [(4, .int i_), (3, .ref no), (2, .ref nm), (1, .ref nx), (0, .ref b)] → W p l e room_1 s m #[Value.ref b] below meth c H locs kc2 ks2 Q (F0 m 2150 ls [])) : W p l e room_1 s m #[Value.ref b] below meth c H locs kc ks Q (F0 m 833 ls []) := by
  obtain ⟨hx, hb, hr, hml, hown, htA, hlk⟩ := id hX
  have hK := hE.1
  have hT0 := IC_T hI
  refine lv_aload_n hx hb dL_law_833 rfl (lv_at hl 3 rfl) ?_
  refine lv_aload_n hx hb dL_law_834 rfl (lv_at hl 4 rfl) ?_
  refine lv_iload hx hb dL_law_835 (lv_at hl 0 rfl) ?_
  refine lv_iconst (v := 1) hx hb dL_law_837 (by decide) ?_
  refine lv_iadd hx hb dL_law_838 ?_
  refine va_sld hx hb hXs hbl hbA hS (lwi 1 hi) dL_law_839 ?_
  refine lv_aload_n hx hb dL_law_840 rfl (lv_at hl 1 rfl) ?_
  have hP : va_P D vwCl (Wm ++ ((no, .inl (cy 2, 1, .inr (.inl g))) :: Wc)) H := vP_pm hP List.perm_middle.symm
  have hD : va_D A (Wm ++ ((no, .inl (cy 2, 1, .inr (.inl g))) :: Wc)) := vD_pm hD List.perm_middle.symm
  refine kHi (As := [.ref nx, .int (xs (i_ + 1).toNatClampNeg), .ref no]) (rest := []) (wr := Wm) hX hE (H_falls l hlt D cy nx S Wc no g (xs (i_ + 1).toNatClampNeg) hI) (cwHA 3 htA wd_1032 wd_1030 wd_0 wd_1031 (by decide +kernel) ⟨by decide, by decide⟩) hP hD hS (apR Wm ((no, .inl (cy 2, 1, .inr (.inl g))) :: Wc)) (List.range Wm.length) (ap_R Wm ((no, .inl (cy 2, 1, .inr (.inl g))) :: Wc)) (ap_C Wm ((no, .inl (cy 2, 1, .inr (.inl g))) :: Wc)) (ap_nd Wm ((no, .inl (cy 2, 1, .inr (.inl g))) :: Wc)) rfl hl.1 rfl (Nat.le_of_ble_eq_true rfl) dL_law_841 ⟨rmC (by dsimp only; omega), rmS (by dsimp only; omega)⟩ (fun rc_ W1 H locs hw hP hD hS => ?_)
  refine W.widen (k := kc + 1) (n := ks + 6) (Nat.le_refl _) (Nat.le_refl _) ?_
  obtain ⟨g2, W2, Sn, hcs, hT2, hI2, rfl⟩ := hw
  have hP := vP_pm hP List.perm_middle
  have hD := vD_pm hD List.perm_middle
  refine lv_istore (lv' := [(5, .int rc_), (4, .int i_), (3, .ref no), (2, .ref nm), (1, .ref nx), (0, .ref b)]) hx hb dL_law_844 hl (by decide) rfl (fun ls hl => ?_)
  refine lv_aload_n hx hb dL_law_846 rfl (lv_at hl 3 rfl) ?_
  refine lv_aload_n hx hb dL_law_847 rfl (lv_at hl 5 rfl) ?_
  refine lv_iload hx hb dL_law_848 (lv_at hl 1 rfl) ?_
  refine lv_iconst (v := 1) hx hb dL_law_850 (by decide) ?_
  refine lv_iadd hx hb dL_law_851 ?_
  refine va_sld hx hb hXs hbl hbA hS (lwi 1 hi) dL_law_852 ?_
  have hP : va_P D vwCl (((no, .inl (cy 2, 1, .inr (.inl g2))) :: W2) ++ Wm) H := vP_pm hP (List.Perm.cons _ List.perm_append_comm)
  have hD : va_D A (((no, .inl (cy 2, 1, .inr (.inl g2))) :: W2) ++ Wm) := vD_pm hD (List.Perm.cons _ List.perm_append_comm)
  obtain ⟨qM_, fM_, hqM⟩ := IMo_at hM
  refine kVi (As := [.int (xs (i_ + 1).toNatClampNeg)]) (rest := []) (wr := ((no, .inl (cy 2, 1, .inr (.inl g2))) :: W2)) hX hE (M_falls l D cy nm h M Wm (xs (i_ + 1).toNatClampNeg) hM hlo (by omega)) (cwVA 1 htA wd_1864 wd_1861 wd_10 wd_1862 wd_1863 (by decide +kernel) ⟨by decide, by decide⟩) hP hD hS (apR ((no, .inl (cy 2, 1, .inr (.inl g2))) :: W2) Wm) (List.range ((no, .inl (cy 2, 1, .inr (.inl g2))) :: W2).length) (ap_R ((no, .inl (cy 2, 1, .inr (.inl g2))) :: W2) Wm) (ap_C ((no, .inl (cy 2, 1, .inr (.inl g2))) :: W2) Wm) (ap_nd ((no, .inl (cy 2, 1, .inr (.inl g2))) :: W2) Wm) qM_ hqM rfl rfl rfl hl.1 rfl (Nat.le_of_ble_eq_true rfl) dL_law_853 ⟨rmC (by dsimp only; omega), rmS (by dsimp only; omega)⟩ (fun rr_ Wm2 H locs hw hP hD hS => ?_)
  obtain ⟨km_, Mn, hms, hM2⟩ := hw
  refine W.widen (k := kc + 1) (n := ks + 6) (Nat.le_refl _) (Nat.le_refl _) ?_
  refine lv_istore (lv' := [(6, .int rr_), (5, .int rc_), (4, .int i_), (3, .ref no), (2, .ref nm), (1, .ref nx), (0, .ref b)]) hx hb dL_law_856 hl (by decide) rfl (fun ls hl => ?_)
  refine lv_goto (tgt := 2150) hx hb dL_law_858 (by decide) ?_
  have hP : va_P D vwCl ((no, .inl (cy 2, 1, .inr (.inl g2))) :: (W2 ++ Wm2)) H := hP
  have hP := vP_pm hP (List.Perm.cons _ List.perm_append_comm)
  have hD := vD_pm hD (List.Perm.cons _ List.perm_append_comm)
  exact W.widen (k := kc + 1) (n := ks + 6) (Nat.le_refl _) (Nat.le_refl _) (kk Sn Mn W2 Wm2 g2 (kc + 1) (ks + 6) H locs ls hI2 ⟨_, hM2⟩ (sm_falls hR hcs hms) (by omega) (by omega) hP hD hS (lv_sub hl [2, 3, 4, 5, 6] rfl))
