set_option maxHeartbeats 4000000 in
set_option maxRecDepth 100000 in
theorem cs_32 (l : Launch) (hlt : l.stackTraces = false) {p : Program} {e : Env} {s : State} {m : MethodId} {below : List Frame} {meth : Method} {c : Code} {D : va_G} {cy : Nat → ClassId} {A : Nat → Prop} {b L : Nat} {xs : Nat → Int32} {Q : State → Prop} (hX : Ex p s m #[Value.ref b] meth c code ret 8 RL) (hE : Ew D cy A s) (hXs : va_X b L xs s s.heap) (hbl : b < s.heap.size) (hbA : ¬ A b) {nx nm no : Nat} {h : Int} {S : CSt} {M : MSt} {Wc Wm : va_W} {g : Nat → Int64} {kc ks : Nat} {i_ : Int32} {H : Heap} {locs : List Loc} {ls : Array Slot} (hI : IC cy nx S Wc) (hM : IMo cy nm h M Wm) (hR : RSM S M) (hlo : 999 ≤ h) (hhi : h + 2000 ≤ 1000000) (hkc : (kc : Int) + 2 * S.1.1.toInt ≤ 500000) (hks : (ks : Int) + 471 * S.1.1.toInt ≤ 7000000) (hi : 0 ≤ i_.toInt ∧ i_.toInt + 7 ≤ L ∧ L ≤ 3584) (hP : va_P D vwCl ((no, .inl (cy 2, 1, .inr (.inl g))) :: (Wm ++ Wc)) H) (hD : va_D A ((no, .inl (cy 2, 1, .inr (.inl g))) :: (Wm ++ Wc))) (hS : va_S A s.heap H locs) (hl : lv_has ls 8 [(4, .int i_), (3, .ref no), (2, .ref nm), (1, .ref nx), (0, .ref b)]) (kk : ∀ (S2 : CSt) (M2 : MSt) (W2 Wm2 : va_W) (g2 : Nat → Int64) (kc2 ks2 : Nat) (H : Heap) (locs : List Loc) (ls : Array Slot), IC cy nx S2 W2 → IMo cy nm (h + 900) M2 Wm2 → RSM S2 M2 → (kc2 : Int) + 2 * S2.1.1.toInt ≤ kc + 2 * S.1.1.toInt + 200 → (ks2 : Int) + 471 * S2.1.1.toInt ≤ ks + 471 * S.1.1.toInt + 9420 → va_P D vwCl ((no, .inl (cy 2, 1, .inr (.inl g2))) :: (Wm2 ++ W2)) H → va_D A ((no, .inl (cy 2, 1, .inr (.inl g2))) :: (Wm2 ++ W2)) → va_S A s.heap H locs → lv_has ls 8 [(4, .int i_), (3, .ref no), (2, .ref nm), (1, .ref nx), (0, .ref b)] → W p l e room_1 s m #[Value.ref b] below meth c H locs kc2 ks2 Q (F0 m 2150 ls [])) : W p l e room_1 s m #[Value.ref b] below meth c H locs kc ks Q (F0 m 1447 ls []) := by
  obtain ⟨hx, hb, hr, hml, hown, htA, hlk⟩ := id hX
  have hK := hE.1
  have hT0 := IC_T hI
  refine lv_aload_n hx hb dL_law_1447 rfl (lv_at hl 3 rfl) ?_
  refine lv_aload_n hx hb dL_law_1448 rfl (lv_at hl 4 rfl) ?_
  refine lv_iload hx hb dL_law_1449 (lv_at hl 0 rfl) ?_
  refine lv_iconst (v := 1) hx hb dL_law_1451 (by decide) ?_
  refine lv_iadd hx hb dL_law_1452 ?_
  refine va_sld hx hb hXs hbl hbA hS (lwi 1 hi) dL_law_1453 ?_
  refine lv_aload_n hx hb dL_law_1454 rfl (lv_at hl 4 rfl) ?_
  refine lv_iload hx hb dL_law_1455 (lv_at hl 0 rfl) ?_
  refine lv_iconst (v := 2) hx hb dL_law_1457 (by decide) ?_
  refine lv_iadd hx hb dL_law_1458 ?_
  refine va_sld hx hb hXs hbl hbA hS (lwi 2 hi) dL_law_1459 ?_
  refine lv_aload_n hx hb dL_law_1460 rfl (lv_at hl 4 rfl) ?_
  refine lv_iload hx hb dL_law_1461 (lv_at hl 0 rfl) ?_
  refine lv_iconst (v := 3) hx hb dL_law_1463 (by decide) ?_
  refine lv_iadd hx hb dL_law_1464 ?_
  refine va_sld hx hb hXs hbl hbA hS (lwi 3 hi) dL_law_1465 ?_
  refine lv_aload_n hx hb dL_law_1466 rfl (lv_at hl 4 rfl) ?_
  refine lv_iload hx hb dL_law_1467 (lv_at hl 0 rfl) ?_
  refine lv_iconst (v := 4) hx hb dL_law_1469 (by decide) ?_
  refine lv_iadd hx hb dL_law_1470 ?_
  refine va_sld hx hb hXs hbl hbA hS (lwi 4 hi) dL_law_1471 ?_
  refine lv_aload_n hx hb dL_law_1472 rfl (lv_at hl 4 rfl) ?_
  refine lv_iload hx hb dL_law_1473 (lv_at hl 0 rfl) ?_
  refine lv_iconst (v := 5) hx hb dL_law_1475 (by decide) ?_
  refine lv_iadd hx hb dL_law_1476 ?_
  refine va_sld hx hb hXs hbl hbA hS (lwi 5 hi) dL_law_1477 ?_
  refine lv_aload_n hx hb dL_law_1478 rfl (lv_at hl 4 rfl) ?_
  refine lv_iload hx hb dL_law_1479 (lv_at hl 0 rfl) ?_
  refine lv_bipush (v := 6) hx hb dL_law_1481 (by decide) ?_
  refine lv_iadd hx hb dL_law_1483 ?_
  refine va_sld hx hb hXs hbl hbA hS (lwi 6 hi) dL_law_1484 ?_
  refine lv_aload_n hx hb dL_law_1485 rfl (lv_at hl 1 rfl) ?_
  have hP : va_P D vwCl (Wm ++ ((no, .inl (cy 2, 1, .inr (.inl g))) :: Wc)) H := vP_pm hP List.perm_middle.symm
  have hD : va_D A (Wm ++ ((no, .inl (cy 2, 1, .inr (.inl g))) :: Wc)) := vD_pm hD List.perm_middle.symm
  refine kHi (As := [.ref nx, .int (xs (i_ + 1).toNatClampNeg), .int (xs (i_ + 2).toNatClampNeg), .int (xs (i_ + 3).toNatClampNeg), .int (xs (i_ + 4).toNatClampNeg), .int (xs (i_ + 5).toNatClampNeg), .int (xs (i_ + 6).toNatClampNeg), .ref no]) (rest := []) (wr := Wm) hX hE (H_both l hlt D cy nx S Wc no g (xs (i_ + 1).toNatClampNeg) (xs (i_ + 2).toNatClampNeg) (xs (i_ + 3).toNatClampNeg) (xs (i_ + 4).toNatClampNeg) (xs (i_ + 5).toNatClampNeg) (xs (i_ + 6).toNatClampNeg) hI) (cwHA 8 htA wd_1163 wd_1161 wd_0 wd_1162 (by decide +kernel) ⟨by decide, by decide⟩) hP hD hS (apR Wm ((no, .inl (cy 2, 1, .inr (.inl g))) :: Wc)) (List.range Wm.length) (ap_R Wm ((no, .inl (cy 2, 1, .inr (.inl g))) :: Wc)) (ap_C Wm ((no, .inl (cy 2, 1, .inr (.inl g))) :: Wc)) (ap_nd Wm ((no, .inl (cy 2, 1, .inr (.inl g))) :: Wc)) rfl hl.1 rfl (Nat.le_of_ble_eq_true rfl) dL_law_1486 ⟨rmC (by dsimp only; omega), rmS (by dsimp only; omega)⟩ (fun rc_ W1 H locs hw hP hD hS => ?_)
  refine W.widen (k := kc + 7) (n := ks + 42) (Nat.le_refl _) (Nat.le_refl _) ?_
  obtain ⟨g2, W2, Sn, hcs, hT2, hI2, rfl⟩ := hw
  have hP := vP_pm hP List.perm_middle
  have hD := vD_pm hD List.perm_middle
  refine lv_istore (lv' := [(5, .int rc_), (4, .int i_), (3, .ref no), (2, .ref nm), (1, .ref nx), (0, .ref b)]) hx hb dL_law_1489 hl (by decide) rfl (fun ls hl => ?_)
  refine lv_aload_n hx hb dL_law_1491 rfl (lv_at hl 3 rfl) ?_
  refine lv_aload_n hx hb dL_law_1492 rfl (lv_at hl 5 rfl) ?_
  refine lv_iload hx hb dL_law_1493 (lv_at hl 1 rfl) ?_
  refine lv_iconst (v := 1) hx hb dL_law_1495 (by decide) ?_
  refine lv_iadd hx hb dL_law_1496 ?_
  refine va_sld hx hb hXs hbl hbA hS (lwi 1 hi) dL_law_1497 ?_
  refine lv_aload_n hx hb dL_law_1498 rfl (lv_at hl 5 rfl) ?_
  refine lv_iload hx hb dL_law_1499 (lv_at hl 1 rfl) ?_
  refine lv_iconst (v := 2) hx hb dL_law_1501 (by decide) ?_
  refine lv_iadd hx hb dL_law_1502 ?_
  refine va_sld hx hb hXs hbl hbA hS (lwi 2 hi) dL_law_1503 ?_
  refine lv_aload_n hx hb dL_law_1504 rfl (lv_at hl 5 rfl) ?_
  refine lv_iload hx hb dL_law_1505 (lv_at hl 1 rfl) ?_
  refine lv_iconst (v := 3) hx hb dL_law_1507 (by decide) ?_
  refine lv_iadd hx hb dL_law_1508 ?_
  refine va_sld hx hb hXs hbl hbA hS (lwi 3 hi) dL_law_1509 ?_
  refine lv_aload_n hx hb dL_law_1510 rfl (lv_at hl 5 rfl) ?_
  refine lv_iload hx hb dL_law_1511 (lv_at hl 1 rfl) ?_
  refine lv_iconst (v := 4) hx hb dL_law_1513 (by decide) ?_
  refine lv_iadd hx hb dL_law_1514 ?_
  refine va_sld hx hb hXs hbl hbA hS (lwi 4 hi) dL_law_1515 ?_
  refine lv_aload_n hx hb dL_law_1516 rfl (lv_at hl 5 rfl) ?_
  refine lv_iload hx hb dL_law_1517 (lv_at hl 1 rfl) ?_
  refine lv_iconst (v := 5) hx hb dL_law_1519 (by decide) ?_
  refine lv_iadd hx hb dL_law_1520 ?_
  refine va_sld hx hb hXs hbl hbA hS (lwi 5 hi) dL_law_1521 ?_
  refine lv_aload_n hx hb dL_law_1522 rfl (lv_at hl 5 rfl) ?_
  refine lv_iload hx hb dL_law_1523 (lv_at hl 1 rfl) ?_
  refine lv_bipush (v := 6) hx hb dL_law_1525 (by decide) ?_
  refine lv_iadd hx hb dL_law_1527 ?_
  refine va_sld hx hb hXs hbl hbA hS (lwi 6 hi) dL_law_1528 ?_
  have hP : va_P D vwCl (((no, .inl (cy 2, 1, .inr (.inl g2))) :: W2) ++ Wm) H := vP_pm hP (List.Perm.cons _ List.perm_append_comm)
  have hD : va_D A (((no, .inl (cy 2, 1, .inr (.inl g2))) :: W2) ++ Wm) := vD_pm hD (List.Perm.cons _ List.perm_append_comm)
  obtain ⟨qM_, fM_, hqM⟩ := IMo_at hM
  refine kVi (As := [.int (xs (i_ + 1).toNatClampNeg), .int (xs (i_ + 2).toNatClampNeg), .int (xs (i_ + 3).toNatClampNeg), .int (xs (i_ + 4).toNatClampNeg), .int (xs (i_ + 5).toNatClampNeg), .int (xs (i_ + 6).toNatClampNeg)]) (rest := []) (wr := ((no, .inl (cy 2, 1, .inr (.inl g2))) :: W2)) hX hE (M_both l D cy nm h M Wm (xs (i_ + 1).toNatClampNeg) (xs (i_ + 2).toNatClampNeg) (xs (i_ + 3).toNatClampNeg) (xs (i_ + 4).toNatClampNeg) (xs (i_ + 5).toNatClampNeg) (xs (i_ + 6).toNatClampNeg) hM hlo (by omega)) (cwVA 6 htA wd_1963 wd_1960 wd_10 wd_1961 wd_1962 (by decide +kernel) ⟨by decide, by decide⟩) hP hD hS (apR ((no, .inl (cy 2, 1, .inr (.inl g2))) :: W2) Wm) (List.range ((no, .inl (cy 2, 1, .inr (.inl g2))) :: W2).length) (ap_R ((no, .inl (cy 2, 1, .inr (.inl g2))) :: W2) Wm) (ap_C ((no, .inl (cy 2, 1, .inr (.inl g2))) :: W2) Wm) (ap_nd ((no, .inl (cy 2, 1, .inr (.inl g2))) :: W2) Wm) qM_ hqM rfl rfl rfl hl.1 rfl (Nat.le_of_ble_eq_true rfl) dL_law_1529 ⟨rmC (by dsimp only; omega), rmS (by dsimp only; omega)⟩ (fun rr_ Wm2 H locs hw hP hD hS => ?_)
  obtain ⟨km_, Mn, hms, hM2⟩ := hw
  refine W.widen (k := kc + 7) (n := ks + 42) (Nat.le_refl _) (Nat.le_refl _) ?_
  refine lv_istore (lv' := [(6, .int rr_), (5, .int rc_), (4, .int i_), (3, .ref no), (2, .ref nm), (1, .ref nx), (0, .ref b)]) hx hb dL_law_1532 hl (by decide) rfl (fun ls hl => ?_)
  refine lv_goto (tgt := 2150) hx hb dL_law_1534 (by decide) ?_
  have hP : va_P D vwCl ((no, .inl (cy 2, 1, .inr (.inl g2))) :: (W2 ++ Wm2)) H := hP
  have hP := vP_pm hP (List.Perm.cons _ List.perm_append_comm)
  have hD := vD_pm hD (List.Perm.cons _ List.perm_append_comm)
  exact W.widen (k := kc + 7) (n := ks + 42) (Nat.le_refl _) (Nat.le_refl _) (kk Sn Mn W2 Wm2 g2 (kc + 7) (ks + 42) H locs ls hI2 ⟨_, hM2⟩ (sm_both hR hcs hms) (by omega) (by omega) hP hD hS (lv_sub hl [2, 3, 4, 5, 6] rfl))
set_option maxHeartbeats 4000000 in
set_option maxRecDepth 100000 in
theorem cs_33 (l : Launch) (hlt : l.stackTraces = false) {p : Program} {e : Env} {s : State} {m : MethodId} {below : List Frame} {meth : Method} {c : Code} {D : va_G} {cy : Nat → ClassId} {A : Nat → Prop} {b L : Nat} {xs : Nat → Int32} {Q : State → Prop} (hX : Ex p s m #[Value.ref b] meth c code ret 8 RL) (hE : Ew D cy A s) (hXs : va_X b L xs s s.heap) (hbl : b < s.heap.size) (hbA : ¬ A b) {nx nm no : Nat} {h : Int} {S : CSt} {M : MSt} {Wc Wm : va_W} {g : Nat → Int64} {kc ks : Nat} {i_ : Int32} {H : Heap} {locs : List Loc} {ls : Array Slot} (hI : IC cy nx S Wc) (hM : IMo cy nm h M Wm) (hR : RSM S M) (hlo : 999 ≤ h) (hhi : h + 2000 ≤ 1000000) (hkc : (kc : Int) + 2 * S.1.1.toInt ≤ 500000) (hks : (ks : Int) + 471 * S.1.1.toInt ≤ 7000000) (hi : 0 ≤ i_.toInt ∧ i_.toInt + 7 ≤ L ∧ L ≤ 3584) (hP : va_P D vwCl ((no, .inl (cy 2, 1, .inr (.inl g))) :: (Wm ++ Wc)) H) (hD : va_D A ((no, .inl (cy 2, 1, .inr (.inl g))) :: (Wm ++ Wc))) (hS : va_S A s.heap H locs) (hl : lv_has ls 8 [(4, .int i_), (3, .ref no), (2, .ref nm), (1, .ref nx), (0, .ref b)]) (kk : ∀ (S2 : CSt) (M2 : MSt) (W2 Wm2 : va_W) (g2 : Nat → Int64) (kc2 ks2 : Nat) (H : Heap) (locs : List Loc) (ls : Array Slot), IC cy nx S2 W2 → IMo cy nm (h + 900) M2 Wm2 → RSM S2 M2 → (kc2 : Int) + 2 * S2.1.1.toInt ≤ kc + 2 * S.1.1.toInt + 200 → (ks2 : Int) + 471 * S2.1.1.toInt ≤ ks + 471 * S.1.1.toInt + 9420 → va_P D vwCl ((no, .inl (cy 2, 1, .inr (.inl g2))) :: (Wm2 ++ W2)) H → va_D A ((no, .inl (cy 2, 1, .inr (.inl g2))) :: (Wm2 ++ W2)) → va_S A s.heap H locs → lv_has ls 8 [(4, .int i_), (3, .ref no), (2, .ref nm), (1, .ref nx), (0, .ref b)] → W p l e room_1 s m #[Value.ref b] below meth c H locs kc2 ks2 Q (F0 m 2150 ls [])) : W p l e room_1 s m #[Value.ref b] below meth c H locs kc ks Q (F0 m 1537 ls []) := by
  obtain ⟨hx, hb, hr, hml, hown, htA, hlk⟩ := id hX
  have hK := hE.1
  have hT0 := IC_T hI
  refine lv_aload_n hx hb dL_law_1537 rfl (lv_at hl 3 rfl) ?_
  refine lv_aload_n hx hb dL_law_1538 rfl (lv_at hl 4 rfl) ?_
  refine lv_iload hx hb dL_law_1539 (lv_at hl 0 rfl) ?_
  refine lv_iconst (v := 1) hx hb dL_law_1541 (by decide) ?_
  refine lv_iadd hx hb dL_law_1542 ?_
  refine va_sld hx hb hXs hbl hbA hS (lwi 1 hi) dL_law_1543 ?_
  refine lv_aload_n hx hb dL_law_1544 rfl (lv_at hl 4 rfl) ?_
  refine lv_iload hx hb dL_law_1545 (lv_at hl 0 rfl) ?_
  refine lv_iconst (v := 2) hx hb dL_law_1547 (by decide) ?_
  refine lv_iadd hx hb dL_law_1548 ?_
  refine va_sld hx hb hXs hbl hbA hS (lwi 2 hi) dL_law_1549 ?_
  refine lv_aload_n hx hb dL_law_1550 rfl (lv_at hl 4 rfl) ?_
  refine lv_iload hx hb dL_law_1551 (lv_at hl 0 rfl) ?_
  refine lv_iconst (v := 3) hx hb dL_law_1553 (by decide) ?_
  refine lv_iadd hx hb dL_law_1554 ?_
  refine va_sld hx hb hXs hbl hbA hS (lwi 3 hi) dL_law_1555 ?_
  refine lv_aload_n hx hb dL_law_1556 rfl (lv_at hl 1 rfl) ?_
  have hP : va_P D vwCl (Wm ++ ((no, .inl (cy 2, 1, .inr (.inl g))) :: Wc)) H := vP_pm hP List.perm_middle.symm
  have hD : va_D A (Wm ++ ((no, .inl (cy 2, 1, .inr (.inl g))) :: Wc)) := vD_pm hD List.perm_middle.symm
  refine kHi (As := [.ref nx, .int (xs (i_ + 1).toNatClampNeg), .int (xs (i_ + 2).toNatClampNeg), .int (xs (i_ + 3).toNatClampNeg), .ref no]) (rest := []) (wr := Wm) hX hE (H_safeWay l hlt D cy nx S Wc no g (xs (i_ + 1).toNatClampNeg) (xs (i_ + 2).toNatClampNeg) (xs (i_ + 3).toNatClampNeg) hI) (cwHA 5 htA wd_1175 wd_1173 wd_0 wd_1174 (by decide +kernel) ⟨by decide, by decide⟩) hP hD hS (apR Wm ((no, .inl (cy 2, 1, .inr (.inl g))) :: Wc)) (List.range Wm.length) (ap_R Wm ((no, .inl (cy 2, 1, .inr (.inl g))) :: Wc)) (ap_C Wm ((no, .inl (cy 2, 1, .inr (.inl g))) :: Wc)) (ap_nd Wm ((no, .inl (cy 2, 1, .inr (.inl g))) :: Wc)) rfl hl.1 rfl (Nat.le_of_ble_eq_true rfl) dL_law_1557 ⟨rmC (by dsimp only; omega), rmS (by dsimp only; omega)⟩ (fun rc_ W1 H locs hw hP hD hS => ?_)
  refine W.widen (k := kc + 3) (n := ks + 18) (Nat.le_refl _) (Nat.le_refl _) ?_
  obtain ⟨g2, W2, Sn, hcs, hT2, hI2, rfl⟩ := hw
  have hP := vP_pm hP List.perm_middle
  have hD := vD_pm hD List.perm_middle
  refine lv_istore (lv' := [(5, .int rc_), (4, .int i_), (3, .ref no), (2, .ref nm), (1, .ref nx), (0, .ref b)]) hx hb dL_law_1560 hl (by decide) rfl (fun ls hl => ?_)
  refine lv_aload_n hx hb dL_law_1562 rfl (lv_at hl 3 rfl) ?_
  refine lv_aload_n hx hb dL_law_1563 rfl (lv_at hl 5 rfl) ?_
  refine lv_iload hx hb dL_law_1564 (lv_at hl 1 rfl) ?_
  refine lv_iconst (v := 1) hx hb dL_law_1566 (by decide) ?_
  refine lv_iadd hx hb dL_law_1567 ?_
  refine va_sld hx hb hXs hbl hbA hS (lwi 1 hi) dL_law_1568 ?_
  refine lv_aload_n hx hb dL_law_1569 rfl (lv_at hl 5 rfl) ?_
  refine lv_iload hx hb dL_law_1570 (lv_at hl 1 rfl) ?_
  refine lv_iconst (v := 2) hx hb dL_law_1572 (by decide) ?_
  refine lv_iadd hx hb dL_law_1573 ?_
  refine va_sld hx hb hXs hbl hbA hS (lwi 2 hi) dL_law_1574 ?_
  refine lv_aload_n hx hb dL_law_1575 rfl (lv_at hl 5 rfl) ?_
  refine lv_iload hx hb dL_law_1576 (lv_at hl 1 rfl) ?_
  refine lv_iconst (v := 3) hx hb dL_law_1578 (by decide) ?_
  refine lv_iadd hx hb dL_law_1579 ?_
  refine va_sld hx hb hXs hbl hbA hS (lwi 3 hi) dL_law_1580 ?_
  have hP : va_P D vwCl (((no, .inl (cy 2, 1, .inr (.inl g2))) :: W2) ++ Wm) H := vP_pm hP (List.Perm.cons _ List.perm_append_comm)
  have hD : va_D A (((no, .inl (cy 2, 1, .inr (.inl g2))) :: W2) ++ Wm) := vD_pm hD (List.Perm.cons _ List.perm_append_comm)
  obtain ⟨qM_, fM_, hqM⟩ := IMo_at hM
  refine kVi (As := [.int (xs (i_ + 1).toNatClampNeg), .int (xs (i_ + 2).toNatClampNeg), .int (xs (i_ + 3).toNatClampNeg)]) (rest := []) (wr := ((no, .inl (cy 2, 1, .inr (.inl g2))) :: W2)) hX hE (M_safeWay l D cy nm h M Wm (xs (i_ + 1).toNatClampNeg) (xs (i_ + 2).toNatClampNeg) (xs (i_ + 3).toNatClampNeg) hM hlo (by omega)) (cwVA 3 htA wd_1967 wd_1964 wd_10 wd_1965 wd_1966 (by decide +kernel) ⟨by decide, by decide⟩) hP hD hS (apR ((no, .inl (cy 2, 1, .inr (.inl g2))) :: W2) Wm) (List.range ((no, .inl (cy 2, 1, .inr (.inl g2))) :: W2).length) (ap_R ((no, .inl (cy 2, 1, .inr (.inl g2))) :: W2) Wm) (ap_C ((no, .inl (cy 2, 1, .inr (.inl g2))) :: W2) Wm) (ap_nd ((no, .inl (cy 2, 1, .inr (.inl g2))) :: W2) Wm) qM_ hqM rfl rfl rfl hl.1 rfl (Nat.le_of_ble_eq_true rfl) dL_law_1581 ⟨rmC (by dsimp only; omega), rmS (by dsimp only; omega)⟩ (fun rr_ Wm2 H locs hw hP hD hS => ?_)
  obtain ⟨km_, Mn, hms, hM2⟩ := hw
  refine W.widen (k := kc + 3) (n := ks + 18) (Nat.le_refl _) (Nat.le_refl _) ?_
  refine lv_istore (lv' := [(6, .int rr_), (5, .int rc_), (4, .int i_), (3, .ref no), (2, .ref nm), (1, .ref nx), (0, .ref b)]) hx hb dL_law_1584 hl (by decide) rfl (fun ls hl => ?_)
  refine lv_goto (tgt := 2150) hx hb dL_law_1586 (by decide) ?_
  have hP : va_P D vwCl ((no, .inl (cy 2, 1, .inr (.inl g2))) :: (W2 ++ Wm2)) H := hP
  have hP := vP_pm hP (List.Perm.cons _ List.perm_append_comm)
  have hD := vD_pm hD (List.Perm.cons _ List.perm_append_comm)
  exact W.widen (k := kc + 3) (n := ks + 18) (Nat.le_refl _) (Nat.le_refl _) (kk Sn Mn W2 Wm2 g2 (kc + 3) (ks + 18) H locs ls hI2 ⟨_, hM2⟩ (sm_safeWay hR hcs hms) (by omega) (by omega) hP hD hS (lv_sub hl [2, 3, 4, 5, 6] rfl))
set_option maxHeartbeats 4000000 in
set_option maxRecDepth 100000 in
theorem cs_34 (l : Launch) (hlt : l.stackTraces = false) {p : Program} {e : Env} {s : State} {m : MethodId} {below : List Frame} {meth : Method} {c : Code} {D : va_G} {cy : Nat → ClassId} {A : Nat → Prop} {b L : Nat} {xs : Nat → Int32} {Q : State → Prop} (hX : Ex p s m #[Value.ref b] meth c code ret 8 RL) (hE : Ew D cy A s) (hXs : va_X b L xs s s.heap) (hbl : b < s.heap.size) (hbA : ¬ A b) {nx nm no : Nat} {h : Int} {S : CSt} {M : MSt} {Wc Wm : va_W} {g : Nat → Int64} {kc ks : Nat} {i_ : Int32} {H : Heap} {locs : List Loc} {ls : Array Slot} (hI : IC cy nx S Wc) (hM : IMo cy nm h M Wm) (hR : RSM S M) (hlo : 999 ≤ h) (hhi : h + 2000 ≤ 1000000) (hkc : (kc : Int) + 2 * S.1.1.toInt ≤ 500000) (hks : (ks : Int) + 471 * S.1.1.toInt ≤ 7000000) (hi : 0 ≤ i_.toInt ∧ i_.toInt + 7 ≤ L ∧ L ≤ 3584) (hP : va_P D vwCl ((no, .inl (cy 2, 1, .inr (.inl g))) :: (Wm ++ Wc)) H) (hD : va_D A ((no, .inl (cy 2, 1, .inr (.inl g))) :: (Wm ++ Wc))) (hS : va_S A s.heap H locs) (hl : lv_has ls 8 [(4, .int i_), (3, .ref no), (2, .ref nm), (1, .ref nx), (0, .ref b)]) (kk : ∀ (S2 : CSt) (M2 : MSt) (W2 Wm2 : va_W) (g2 : Nat → Int64) (kc2 ks2 : Nat) (H : Heap) (locs : List Loc) (ls : Array Slot), IC cy nx S2 W2 → IMo cy nm (h + 900) M2 Wm2 → RSM S2 M2 → (kc2 : Int) + 2 * S2.1.1.toInt ≤ kc + 2 * S.1.1.toInt + 200 → (ks2 : Int) + 471 * S2.1.1.toInt ≤ ks + 471 * S.1.1.toInt + 9420 → va_P D vwCl ((no, .inl (cy 2, 1, .inr (.inl g2))) :: (Wm2 ++ W2)) H → va_D A ((no, .inl (cy 2, 1, .inr (.inl g2))) :: (Wm2 ++ W2)) → va_S A s.heap H locs → lv_has ls 8 [(4, .int i_), (3, .ref no), (2, .ref nm), (1, .ref nx), (0, .ref b)] → W p l e room_1 s m #[Value.ref b] below meth c H locs kc2 ks2 Q (F0 m 2150 ls [])) : W p l e room_1 s m #[Value.ref b] below meth c H locs kc ks Q (F0 m 1589 ls []) := by
  obtain ⟨hx, hb, hr, hml, hown, htA, hlk⟩ := id hX
  have hK := hE.1
  have hT0 := IC_T hI
  refine lv_aload_n hx hb dL_law_1589 rfl (lv_at hl 3 rfl) ?_
  refine lv_aload_n hx hb dL_law_1590 rfl (lv_at hl 4 rfl) ?_
  refine lv_iload hx hb dL_law_1591 (lv_at hl 0 rfl) ?_
  refine lv_iconst (v := 1) hx hb dL_law_1593 (by decide) ?_
  refine lv_iadd hx hb dL_law_1594 ?_
  refine va_sld hx hb hXs hbl hbA hS (lwi 1 hi) dL_law_1595 ?_
  refine lv_aload_n hx hb dL_law_1596 rfl (lv_at hl 4 rfl) ?_
  refine lv_iload hx hb dL_law_1597 (lv_at hl 0 rfl) ?_
  refine lv_iconst (v := 2) hx hb dL_law_1599 (by decide) ?_
  refine lv_iadd hx hb dL_law_1600 ?_
  refine va_sld hx hb hXs hbl hbA hS (lwi 2 hi) dL_law_1601 ?_
  refine lv_aload_n hx hb dL_law_1602 rfl (lv_at hl 4 rfl) ?_
  refine lv_iload hx hb dL_law_1603 (lv_at hl 0 rfl) ?_
  refine lv_iconst (v := 3) hx hb dL_law_1605 (by decide) ?_
  refine lv_iadd hx hb dL_law_1606 ?_
  refine va_sld hx hb hXs hbl hbA hS (lwi 3 hi) dL_law_1607 ?_
  refine lv_aload_n hx hb dL_law_1608 rfl (lv_at hl 1 rfl) ?_
  have hP : va_P D vwCl (Wm ++ ((no, .inl (cy 2, 1, .inr (.inl g))) :: Wc)) H := vP_pm hP List.perm_middle.symm
  have hD : va_D A (Wm ++ ((no, .inl (cy 2, 1, .inr (.inl g))) :: Wc)) := vD_pm hD List.perm_middle.symm
  refine kHi (As := [.ref nx, .int (xs (i_ + 1).toNatClampNeg), .int (xs (i_ + 2).toNatClampNeg), .int (xs (i_ + 3).toNatClampNeg), .ref no]) (rest := []) (wr := Wm) hX hE (H_safeWays l hlt D cy nx S Wc no g (xs (i_ + 1).toNatClampNeg) (xs (i_ + 2).toNatClampNeg) (xs (i_ + 3).toNatClampNeg) hI) (cwHA 5 htA wd_1203 wd_1201 wd_0 wd_1202 (by decide +kernel) ⟨by decide, by decide⟩) hP hD hS (apR Wm ((no, .inl (cy 2, 1, .inr (.inl g))) :: Wc)) (List.range Wm.length) (ap_R Wm ((no, .inl (cy 2, 1, .inr (.inl g))) :: Wc)) (ap_C Wm ((no, .inl (cy 2, 1, .inr (.inl g))) :: Wc)) (ap_nd Wm ((no, .inl (cy 2, 1, .inr (.inl g))) :: Wc)) rfl hl.1 rfl (Nat.le_of_ble_eq_true rfl) dL_law_1609 ⟨rmC (by dsimp only; omega), rmS (by dsimp only; omega)⟩ (fun rc_ W1 H locs hw hP hD hS => ?_)
  refine W.widen (k := kc + 3) (n := ks + 18) (Nat.le_refl _) (Nat.le_refl _) ?_
  obtain ⟨g2, W2, Sn, hcs, hT2, hI2, rfl⟩ := hw
  have hP := vP_pm hP List.perm_middle
  have hD := vD_pm hD List.perm_middle
  refine lv_istore (lv' := [(5, .int rc_), (4, .int i_), (3, .ref no), (2, .ref nm), (1, .ref nx), (0, .ref b)]) hx hb dL_law_1612 hl (by decide) rfl (fun ls hl => ?_)
  refine lv_aload_n hx hb dL_law_1614 rfl (lv_at hl 3 rfl) ?_
  refine lv_aload_n hx hb dL_law_1615 rfl (lv_at hl 5 rfl) ?_
  refine lv_iload hx hb dL_law_1616 (lv_at hl 1 rfl) ?_
  refine lv_iconst (v := 1) hx hb dL_law_1618 (by decide) ?_
  refine lv_iadd hx hb dL_law_1619 ?_
  refine va_sld hx hb hXs hbl hbA hS (lwi 1 hi) dL_law_1620 ?_
  refine lv_aload_n hx hb dL_law_1621 rfl (lv_at hl 5 rfl) ?_
  refine lv_iload hx hb dL_law_1622 (lv_at hl 1 rfl) ?_
  refine lv_iconst (v := 2) hx hb dL_law_1624 (by decide) ?_
  refine lv_iadd hx hb dL_law_1625 ?_
  refine va_sld hx hb hXs hbl hbA hS (lwi 2 hi) dL_law_1626 ?_
  refine lv_aload_n hx hb dL_law_1627 rfl (lv_at hl 5 rfl) ?_
  refine lv_iload hx hb dL_law_1628 (lv_at hl 1 rfl) ?_
  refine lv_iconst (v := 3) hx hb dL_law_1630 (by decide) ?_
  refine lv_iadd hx hb dL_law_1631 ?_
  refine va_sld hx hb hXs hbl hbA hS (lwi 3 hi) dL_law_1632 ?_
  have hP : va_P D vwCl (((no, .inl (cy 2, 1, .inr (.inl g2))) :: W2) ++ Wm) H := vP_pm hP (List.Perm.cons _ List.perm_append_comm)
  have hD : va_D A (((no, .inl (cy 2, 1, .inr (.inl g2))) :: W2) ++ Wm) := vD_pm hD (List.Perm.cons _ List.perm_append_comm)
  obtain ⟨qM_, fM_, hqM⟩ := IMo_at hM
  refine kVl (As := [.int (xs (i_ + 1).toNatClampNeg), .int (xs (i_ + 2).toNatClampNeg), .int (xs (i_ + 3).toNatClampNeg)]) (rest := []) (wr := ((no, .inl (cy 2, 1, .inr (.inl g2))) :: W2)) hX hE (M_safeWays l D cy nm h M Wm (xs (i_ + 1).toNatClampNeg) (xs (i_ + 2).toNatClampNeg) (xs (i_ + 3).toNatClampNeg) hM hlo (by omega)) (cwVA 3 htA wd_1992 wd_1989 wd_10 wd_1990 wd_1991 (by decide +kernel) ⟨by decide, by decide⟩) hP hD hS (apR ((no, .inl (cy 2, 1, .inr (.inl g2))) :: W2) Wm) (List.range ((no, .inl (cy 2, 1, .inr (.inl g2))) :: W2).length) (ap_R ((no, .inl (cy 2, 1, .inr (.inl g2))) :: W2) Wm) (ap_C ((no, .inl (cy 2, 1, .inr (.inl g2))) :: W2) Wm) (ap_nd ((no, .inl (cy 2, 1, .inr (.inl g2))) :: W2) Wm) qM_ hqM rfl rfl rfl hl.1 rfl (Nat.le_of_ble_eq_true rfl) dL_law_1633 ⟨rmC (by dsimp only; omega), rmS (by dsimp only; omega)⟩ (fun rr_ Wm2 H locs hw hP hD hS => ?_)
  obtain ⟨km_, Mn, hms, hM2⟩ := hw
  refine W.widen (k := kc + 3) (n := ks + 18) (Nat.le_refl _) (Nat.le_refl _) ?_
  refine lv_lstore (lv' := [(6, .long rr_), (5, .int rc_), (4, .int i_), (3, .ref no), (2, .ref nm), (1, .ref nx), (0, .ref b)]) hx hb dL_law_1636 hl (by decide) rfl (fun ls hl => ?_)
  refine lv_goto (tgt := 2150) hx hb dL_law_1638 (by decide) ?_
  have hP : va_P D vwCl ((no, .inl (cy 2, 1, .inr (.inl g2))) :: (W2 ++ Wm2)) H := hP
  have hP := vP_pm hP (List.Perm.cons _ List.perm_append_comm)
  have hD := vD_pm hD (List.Perm.cons _ List.perm_append_comm)
  exact W.widen (k := kc + 3) (n := ks + 18) (Nat.le_refl _) (Nat.le_refl _) (kk Sn Mn W2 Wm2 g2 (kc + 3) (ks + 18) H locs ls hI2 ⟨_, hM2⟩ (sm_safeWays hR hcs hms) (by omega) (by omega) hP hD hS (lv_sub hl [2, 3, 4, 5, 6] rfl))
set_option maxHeartbeats 4000000 in
set_option maxRecDepth 100000 in
theorem cs_35 (l : Launch) (hlt : l.stackTraces = false) {p : Program} {e : Env} {s : State} {m : MethodId} {below : List Frame} {meth : Method} {c : Code} {D : va_G} {cy : Nat → ClassId} {A : Nat → Prop} {b L : Nat} {xs : Nat → Int32} {Q : State → Prop} (hX : Ex p s m #[Value.ref b] meth c code ret 8 RL) (hE : Ew D cy A s) (hXs : va_X b L xs s s.heap) (hbl : b < s.heap.size) (hbA : ¬ A b) {nx nm no : Nat} {h : Int} {S : CSt} {M : MSt} {Wc Wm : va_W} {g : Nat → Int64} {kc ks : Nat} {i_ : Int32} {H : Heap} {locs : List Loc} {ls : Array Slot} (hI : IC cy nx S Wc) (hM : IMo cy nm h M Wm) (hR : RSM S M) (hlo : 999 ≤ h) (hhi : h + 2000 ≤ 1000000) (hkc : (kc : Int) + 2 * S.1.1.toInt ≤ 500000) (hks : (ks : Int) + 471 * S.1.1.toInt ≤ 7000000) (hi : 0 ≤ i_.toInt ∧ i_.toInt + 7 ≤ L ∧ L ≤ 3584) (hP : va_P D vwCl ((no, .inl (cy 2, 1, .inr (.inl g))) :: (Wm ++ Wc)) H) (hD : va_D A ((no, .inl (cy 2, 1, .inr (.inl g))) :: (Wm ++ Wc))) (hS : va_S A s.heap H locs) (hl : lv_has ls 8 [(4, .int i_), (3, .ref no), (2, .ref nm), (1, .ref nx), (0, .ref b)]) (kk : ∀ (S2 : CSt) (M2 : MSt) (W2 Wm2 : va_W) (g2 : Nat → Int64) (kc2 ks2 : Nat) (H : Heap) (locs : List Loc) (ls : Array Slot), IC cy nx S2 W2 → IMo cy nm (h + 900) M2 Wm2 → RSM S2 M2 → (kc2 : Int) + 2 * S2.1.1.toInt ≤ kc + 2 * S.1.1.toInt + 200 → (ks2 : Int) + 471 * S2.1.1.toInt ≤ ks + 471 * S.1.1.toInt + 9420 → va_P D vwCl ((no, .inl (cy 2, 1, .inr (.inl g2))) :: (Wm2 ++ W2)) H → va_D A ((no, .inl (cy 2, 1, .inr (.inl g2))) :: (Wm2 ++ W2)) → va_S A s.heap H locs → lv_has ls 8 [(4, .int i_), (3, .ref no), (2, .ref nm), (1, .ref nx), (0, .ref b)] → W p l e room_1 s m #[Value.ref b] below meth c H locs kc2 ks2 Q (F0 m 2150 ls [])) : W p l e room_1 s m #[Value.ref b] below meth c H locs kc ks Q (F0 m 1641 ls []) := by
  obtain ⟨hx, hb, hr, hml, hown, htA, hlk⟩ := id hX
  have hK := hE.1
  have hT0 := IC_T hI
  refine lv_aload_n hx hb dL_law_1641 rfl (lv_at hl 3 rfl) ?_
  refine lv_aload_n hx hb dL_law_1642 rfl (lv_at hl 4 rfl) ?_
  refine lv_iload hx hb dL_law_1643 (lv_at hl 0 rfl) ?_
  refine lv_iconst (v := 1) hx hb dL_law_1645 (by decide) ?_
  refine lv_iadd hx hb dL_law_1646 ?_
  refine va_sld hx hb hXs hbl hbA hS (lwi 1 hi) dL_law_1647 ?_
  refine lv_aload_n hx hb dL_law_1648 rfl (lv_at hl 4 rfl) ?_
  refine lv_iload hx hb dL_law_1649 (lv_at hl 0 rfl) ?_
  refine lv_iconst (v := 2) hx hb dL_law_1651 (by decide) ?_
  refine lv_iadd hx hb dL_law_1652 ?_
  refine va_sld hx hb hXs hbl hbA hS (lwi 2 hi) dL_law_1653 ?_
  refine lv_aload_n hx hb dL_law_1654 rfl (lv_at hl 1 rfl) ?_
  have hP : va_P D vwCl (Wm ++ ((no, .inl (cy 2, 1, .inr (.inl g))) :: Wc)) H := vP_pm hP List.perm_middle.symm
  have hD : va_D A (Wm ++ ((no, .inl (cy 2, 1, .inr (.inl g))) :: Wc)) := vD_pm hD List.perm_middle.symm
  refine kHi (As := [.ref nx, .int (xs (i_ + 1).toNatClampNeg), .int (xs (i_ + 2).toNatClampNeg), .ref no]) (rest := []) (wr := Wm) hX hE (H_safeIn l hlt D cy nx S Wc no g (xs (i_ + 1).toNatClampNeg) (xs (i_ + 2).toNatClampNeg) hI) (cwHA 4 htA wd_1219 wd_1217 wd_0 wd_1218 (by decide +kernel) ⟨by decide, by decide⟩) hP hD hS (apR Wm ((no, .inl (cy 2, 1, .inr (.inl g))) :: Wc)) (List.range Wm.length) (ap_R Wm ((no, .inl (cy 2, 1, .inr (.inl g))) :: Wc)) (ap_C Wm ((no, .inl (cy 2, 1, .inr (.inl g))) :: Wc)) (ap_nd Wm ((no, .inl (cy 2, 1, .inr (.inl g))) :: Wc)) rfl hl.1 rfl (Nat.le_of_ble_eq_true rfl) dL_law_1655 ⟨rmC (by dsimp only; omega), rmS (by dsimp only; omega)⟩ (fun rc_ W1 H locs hw hP hD hS => ?_)
  refine W.widen (k := kc + 2) (n := ks + 12) (Nat.le_refl _) (Nat.le_refl _) ?_
  obtain ⟨g2, W2, Sn, hcs, hT2, hI2, rfl⟩ := hw
  have hP := vP_pm hP List.perm_middle
  have hD := vD_pm hD List.perm_middle
  refine lv_istore (lv' := [(5, .int rc_), (4, .int i_), (3, .ref no), (2, .ref nm), (1, .ref nx), (0, .ref b)]) hx hb dL_law_1658 hl (by decide) rfl (fun ls hl => ?_)
  refine lv_aload_n hx hb dL_law_1660 rfl (lv_at hl 3 rfl) ?_
  refine lv_aload_n hx hb dL_law_1661 rfl (lv_at hl 5 rfl) ?_
  refine lv_iload hx hb dL_law_1662 (lv_at hl 1 rfl) ?_
  refine lv_iconst (v := 1) hx hb dL_law_1664 (by decide) ?_
  refine lv_iadd hx hb dL_law_1665 ?_
  refine va_sld hx hb hXs hbl hbA hS (lwi 1 hi) dL_law_1666 ?_
  refine lv_aload_n hx hb dL_law_1667 rfl (lv_at hl 5 rfl) ?_
  refine lv_iload hx hb dL_law_1668 (lv_at hl 1 rfl) ?_
  refine lv_iconst (v := 2) hx hb dL_law_1670 (by decide) ?_
  refine lv_iadd hx hb dL_law_1671 ?_
  refine va_sld hx hb hXs hbl hbA hS (lwi 2 hi) dL_law_1672 ?_
  have hP : va_P D vwCl (((no, .inl (cy 2, 1, .inr (.inl g2))) :: W2) ++ Wm) H := vP_pm hP (List.Perm.cons _ List.perm_append_comm)
  have hD : va_D A (((no, .inl (cy 2, 1, .inr (.inl g2))) :: W2) ++ Wm) := vD_pm hD (List.Perm.cons _ List.perm_append_comm)
  obtain ⟨qM_, fM_, hqM⟩ := IMo_at hM
  refine kVi (As := [.int (xs (i_ + 1).toNatClampNeg), .int (xs (i_ + 2).toNatClampNeg)]) (rest := []) (wr := ((no, .inl (cy 2, 1, .inr (.inl g2))) :: W2)) hX hE (M_safeIn l D cy nm h M Wm (xs (i_ + 1).toNatClampNeg) (xs (i_ + 2).toNatClampNeg) hM hlo (by omega)) (cwVA 2 htA wd_2001 wd_1998 wd_10 wd_1999 wd_2000 (by decide +kernel) ⟨by decide, by decide⟩) hP hD hS (apR ((no, .inl (cy 2, 1, .inr (.inl g2))) :: W2) Wm) (List.range ((no, .inl (cy 2, 1, .inr (.inl g2))) :: W2).length) (ap_R ((no, .inl (cy 2, 1, .inr (.inl g2))) :: W2) Wm) (ap_C ((no, .inl (cy 2, 1, .inr (.inl g2))) :: W2) Wm) (ap_nd ((no, .inl (cy 2, 1, .inr (.inl g2))) :: W2) Wm) qM_ hqM rfl rfl rfl hl.1 rfl (Nat.le_of_ble_eq_true rfl) dL_law_1673 ⟨rmC (by dsimp only; omega), rmS (by dsimp only; omega)⟩ (fun rr_ Wm2 H locs hw hP hD hS => ?_)
  obtain ⟨km_, Mn, hms, hM2⟩ := hw
  refine W.widen (k := kc + 2) (n := ks + 12) (Nat.le_refl _) (Nat.le_refl _) ?_
  refine lv_istore (lv' := [(6, .int rr_), (5, .int rc_), (4, .int i_), (3, .ref no), (2, .ref nm), (1, .ref nx), (0, .ref b)]) hx hb dL_law_1676 hl (by decide) rfl (fun ls hl => ?_)
  refine lv_goto (tgt := 2150) hx hb dL_law_1678 (by decide) ?_
  have hP : va_P D vwCl ((no, .inl (cy 2, 1, .inr (.inl g2))) :: (W2 ++ Wm2)) H := hP
  have hP := vP_pm hP (List.Perm.cons _ List.perm_append_comm)
  have hD := vD_pm hD (List.Perm.cons _ List.perm_append_comm)
  exact W.widen (k := kc + 2) (n := ks + 12) (Nat.le_refl _) (Nat.le_refl _) (kk Sn Mn W2 Wm2 g2 (kc + 2) (ks + 12) H locs ls hI2 ⟨_, hM2⟩ (sm_safeIn hR hcs hms) (by omega) (by omega) hP hD hS (lv_sub hl [2, 3, 4, 5, 6] rfl))
set_option maxHeartbeats 4000000 in
set_option maxRecDepth 100000 in
theorem cs_36 (l : Launch) (hlt : l.stackTraces = false) {p : Program} {e : Env} {s : State} {m : MethodId} {below : List Frame} {meth : Method} {c : Code} {D : va_G} {cy : Nat → ClassId} {A : Nat → Prop} {b L : Nat} {xs : Nat → Int32} {Q : State → Prop} (hX : Ex p s m #[Value.ref b] meth c code ret 8 RL) (hE : Ew D cy A s) (hXs : va_X b L xs s s.heap) (hbl : b < s.heap.size) (hbA : ¬ A b) {nx nm no : Nat} {h : Int} {S : CSt} {M : MSt} {Wc Wm : va_W} {g : Nat → Int64} {kc ks : Nat} {i_ : Int32} {H : Heap} {locs : List Loc} {ls : Array Slot} (hI : IC cy nx S Wc) (hM : IMo cy nm h M Wm) (hR : RSM S M) (hlo : 999 ≤ h) (hhi : h + 2000 ≤ 1000000) (hkc : (kc : Int) + 2 * S.1.1.toInt ≤ 500000) (hks : (ks : Int) + 471 * S.1.1.toInt ≤ 7000000) (hi : 0 ≤ i_.toInt ∧ i_.toInt + 7 ≤ L ∧ L ≤ 3584) (hP : va_P D vwCl ((no, .inl (cy 2, 1, .inr (.inl g))) :: (Wm ++ Wc)) H) (hD : va_D A ((no, .inl (cy 2, 1, .inr (.inl g))) :: (Wm ++ Wc))) (hS : va_S A s.heap H locs) (hl : lv_has ls 8 [(4, .int i_), (3, .ref no), (2, .ref nm), (1, .ref nx), (0, .ref b)]) (kk : ∀ (S2 : CSt) (M2 : MSt) (W2 Wm2 : va_W) (g2 : Nat → Int64) (kc2 ks2 : Nat) (H : Heap) (locs : List Loc) (ls : Array Slot), IC cy nx S2 W2 → IMo cy nm (h + 900) M2 Wm2 → RSM S2 M2 → (kc2 : Int) + 2 * S2.1.1.toInt ≤ kc + 2 * S.1.1.toInt + 200 → (ks2 : Int) + 471 * S2.1.1.toInt ≤ ks + 471 * S.1.1.toInt + 9420 → va_P D vwCl ((no, .inl (cy 2, 1, .inr (.inl g2))) :: (Wm2 ++ W2)) H → va_D A ((no, .inl (cy 2, 1, .inr (.inl g2))) :: (Wm2 ++ W2)) → va_S A s.heap H locs → lv_has ls 8 [(4, .int i_), (3, .ref no), (2, .ref nm), (1, .ref nx), (0, .ref b)] → W p l e room_1 s m #[Value.ref b] below meth c H locs kc2 ks2 Q (F0 m 2150 ls [])) : W p l e room_1 s m #[Value.ref b] below meth c H locs kc ks Q (F0 m 1681 ls []) := by
  obtain ⟨hx, hb, hr, hml, hown, htA, hlk⟩ := id hX
  have hK := hE.1
  have hT0 := IC_T hI
  refine lv_aload_n hx hb dL_law_1681 rfl (lv_at hl 3 rfl) ?_
  obtain ⟨qI_, fI_, hqI⟩ := IC_at hI
  have hP : va_P D vwCl (((no, .inl (cy 2, 1, .inr (.inl g))) :: Wm) ++ Wc) H := hP
  have hD : va_D A (((no, .inl (cy 2, 1, .inr (.inl g))) :: Wm) ++ Wc) := hD
  refine kVi (As := []) (rest := []) (wr := ((no, .inl (cy 2, 1, .inr (.inl g))) :: Wm)) hX hE (I_shelter l D cy nx S Wc  hI) (cwVA 0 htA wd_504 wd_501 wd_1 wd_502 wd_503 (by decide +kernel) ⟨by decide, by decide⟩) hP hD hS (apR ((no, .inl (cy 2, 1, .inr (.inl g))) :: Wm) Wc) (List.range ((no, .inl (cy 2, 1, .inr (.inl g))) :: Wm).length) (ap_R ((no, .inl (cy 2, 1, .inr (.inl g))) :: Wm) Wc) (ap_C ((no, .inl (cy 2, 1, .inr (.inl g))) :: Wm) Wc) (ap_nd ((no, .inl (cy 2, 1, .inr (.inl g))) :: Wm) Wc) qI_ hqI rfl rfl rfl hl.1 rfl (Nat.le_of_ble_eq_true rfl) dL_law_1682 ⟨rmC (by dsimp only; omega), rmS (by dsimp only; omega)⟩ (fun rc_ W2 H locs hw hP hD hS => ?_)
  refine W.widen (k := kc + 0) (n := ks + 0) (Nat.le_refl _) (Nat.le_refl _) ?_
  obtain ⟨Sn, hcs, hT2, hI2⟩ := hw
  refine lv_pop hx hb dL_law_1685 rfl ?_
  refine lv_aload_n hx hb dL_law_1686 rfl (lv_at hl 2 rfl) ?_
  have hP : va_P D vwCl (((no, .inl (cy 2, 1, .inr (.inl g))) :: W2) ++ Wm) H := vP_pm hP (List.Perm.cons _ List.perm_append_comm)
  have hD : va_D A (((no, .inl (cy 2, 1, .inr (.inl g))) :: W2) ++ Wm) := vD_pm hD (List.Perm.cons _ List.perm_append_comm)
  obtain ⟨qM_, fM_, hqM⟩ := IMo_at hM
  refine kVi (As := []) (rest := []) (wr := ((no, .inl (cy 2, 1, .inr (.inl g))) :: W2)) hX hE (M_shelter l D cy nm h M Wm  hM hlo (by omega)) (cwVA 0 htA wd_2005 wd_2002 wd_10 wd_2003 wd_2004 (by decide +kernel) ⟨by decide, by decide⟩) hP hD hS (apR ((no, .inl (cy 2, 1, .inr (.inl g))) :: W2) Wm) (List.range ((no, .inl (cy 2, 1, .inr (.inl g))) :: W2).length) (ap_R ((no, .inl (cy 2, 1, .inr (.inl g))) :: W2) Wm) (ap_C ((no, .inl (cy 2, 1, .inr (.inl g))) :: W2) Wm) (ap_nd ((no, .inl (cy 2, 1, .inr (.inl g))) :: W2) Wm) qM_ hqM rfl rfl rfl hl.1 rfl (Nat.le_of_ble_eq_true rfl) dL_law_1687 ⟨rmC (by dsimp only; omega), rmS (by dsimp only; omega)⟩ (fun rr_ Wm2 H locs hw hP hD hS => ?_)
  obtain ⟨km_, Mn, hms, hM2⟩ := hw
  refine W.widen (k := kc + 0) (n := ks + 0) (Nat.le_refl _) (Nat.le_refl _) ?_
  refine lv_pop hx hb dL_law_1690 rfl ?_
  refine lv_goto (tgt := 2150) hx hb dL_law_1691 (by decide) ?_
  have hP : va_P D vwCl ((no, .inl (cy 2, 1, .inr (.inl g))) :: (W2 ++ Wm2)) H := hP
  have hP := vP_pm hP (List.Perm.cons _ List.perm_append_comm)
  have hD := vD_pm hD (List.Perm.cons _ List.perm_append_comm)
  exact W.widen (k := kc + 0) (n := ks + 0) (Nat.le_refl _) (Nat.le_refl _) (kk Sn Mn W2 Wm2 g (kc + 0) (ks + 0) H locs ls hI2 ⟨_, hM2⟩ (sm_shelter hR hcs hms) (by omega) (by omega) hP hD hS (lv_sub hl [0, 1, 2, 3, 4] rfl))
set_option maxHeartbeats 4000000 in
set_option maxRecDepth 100000 in
theorem cs_37 (l : Launch) (hlt : l.stackTraces = false) {p : Program} {e : Env} {s : State} {m : MethodId} {below : List Frame} {meth : Method} {c : Code} {D : va_G} {cy : Nat → ClassId} {A : Nat → Prop} {b L : Nat} {xs : Nat → Int32} {Q : State → Prop} (hX : Ex p s m #[Value.ref b] meth c code ret 8 RL) (hE : Ew D cy A s) (hXs : va_X b L xs s s.heap) (hbl : b < s.heap.size) (hbA : ¬ A b) {nx nm no : Nat} {h : Int} {S : CSt} {M : MSt} {Wc Wm : va_W} {g : Nat → Int64} {kc ks : Nat} {i_ : Int32} {H : Heap} {locs : List Loc} {ls : Array Slot} (hI : IC cy nx S Wc) (hM : IMo cy nm h M Wm) (hR : RSM S M) (hlo : 999 ≤ h) (hhi : h + 2000 ≤ 1000000) (hkc : (kc : Int) + 2 * S.1.1.toInt ≤ 500000) (hks : (ks : Int) + 471 * S.1.1.toInt ≤ 7000000) (hi : 0 ≤ i_.toInt ∧ i_.toInt + 7 ≤ L ∧ L ≤ 3584) (hP : va_P D vwCl ((no, .inl (cy 2, 1, .inr (.inl g))) :: (Wm ++ Wc)) H) (hD : va_D A ((no, .inl (cy 2, 1, .inr (.inl g))) :: (Wm ++ Wc))) (hS : va_S A s.heap H locs) (hl : lv_has ls 8 [(4, .int i_), (3, .ref no), (2, .ref nm), (1, .ref nx), (0, .ref b)]) (kk : ∀ (S2 : CSt) (M2 : MSt) (W2 Wm2 : va_W) (g2 : Nat → Int64) (kc2 ks2 : Nat) (H : Heap) (locs : List Loc) (ls : Array Slot), IC cy nx S2 W2 → IMo cy nm (h + 900) M2 Wm2 → RSM S2 M2 → (kc2 : Int) + 2 * S2.1.1.toInt ≤ kc + 2 * S.1.1.toInt + 200 → (ks2 : Int) + 471 * S2.1.1.toInt ≤ ks + 471 * S.1.1.toInt + 9420 → va_P D vwCl ((no, .inl (cy 2, 1, .inr (.inl g2))) :: (Wm2 ++ W2)) H → va_D A ((no, .inl (cy 2, 1, .inr (.inl g2))) :: (Wm2 ++ W2)) → va_S A s.heap H locs → lv_has ls 8 [(4, .int i_), (3, .ref no), (2, .ref nm), (1, .ref nx), (0, .ref b)] → W p l e room_1 s m #[Value.ref b] below meth c H locs kc2 ks2 Q (F0 m 2150 ls [])) : W p l e room_1 s m #[Value.ref b] below meth c H locs kc ks Q (F0 m 1694 ls []) := by
  obtain ⟨hx, hb, hr, hml, hown, htA, hlk⟩ := id hX
  have hK := hE.1
  have hT0 := IC_T hI
  refine lv_aload_n hx hb dL_law_1694 rfl (lv_at hl 3 rfl) ?_
  refine lv_aload_n hx hb dL_law_1695 rfl (lv_at hl 4 rfl) ?_
  refine lv_iload hx hb dL_law_1696 (lv_at hl 0 rfl) ?_
  refine lv_iconst (v := 1) hx hb dL_law_1698 (by decide) ?_
  refine lv_iadd hx hb dL_law_1699 ?_
  refine va_sld hx hb hXs hbl hbA hS (lwi 1 hi) dL_law_1700 ?_
  refine lv_aload_n hx hb dL_law_1701 rfl (lv_at hl 4 rfl) ?_
  refine lv_iload hx hb dL_law_1702 (lv_at hl 0 rfl) ?_
  refine lv_iconst (v := 2) hx hb dL_law_1704 (by decide) ?_
  refine lv_iadd hx hb dL_law_1705 ?_
  refine va_sld hx hb hXs hbl hbA hS (lwi 2 hi) dL_law_1706 ?_
  refine lv_aload_n hx hb dL_law_1707 rfl (lv_at hl 1 rfl) ?_
  have hP : va_P D vwCl (Wm ++ ((no, .inl (cy 2, 1, .inr (.inl g))) :: Wc)) H := vP_pm hP List.perm_middle.symm
  have hD : va_D A (Wm ++ ((no, .inl (cy 2, 1, .inr (.inl g))) :: Wc)) := vD_pm hD List.perm_middle.symm
  refine kHi (As := [.ref nx, .int (xs (i_ + 1).toNatClampNeg), .int (xs (i_ + 2).toNatClampNeg), .ref no]) (rest := []) (wr := Wm) hX hE (H_later l hlt D cy nx S Wc no g (xs (i_ + 1).toNatClampNeg) (xs (i_ + 2).toNatClampNeg) hI) (cwHA 4 htA wd_1226 wd_1224 wd_0 wd_1225 (by decide +kernel) ⟨by decide, by decide⟩) hP hD hS (apR Wm ((no, .inl (cy 2, 1, .inr (.inl g))) :: Wc)) (List.range Wm.length) (ap_R Wm ((no, .inl (cy 2, 1, .inr (.inl g))) :: Wc)) (ap_C Wm ((no, .inl (cy 2, 1, .inr (.inl g))) :: Wc)) (ap_nd Wm ((no, .inl (cy 2, 1, .inr (.inl g))) :: Wc)) rfl hl.1 rfl (Nat.le_of_ble_eq_true rfl) dL_law_1708 ⟨rmC (by dsimp only; omega), rmS (by dsimp only; omega)⟩ (fun rc_ W1 H locs hw hP hD hS => ?_)
  refine W.widen (k := kc + 2) (n := ks + 12) (Nat.le_refl _) (Nat.le_refl _) ?_
  obtain ⟨g2, W2, Sn, hcs, hT2, hI2, rfl⟩ := hw
  have hP := vP_pm hP List.perm_middle
  have hD := vD_pm hD List.perm_middle
  refine lv_istore (lv' := [(5, .int rc_), (4, .int i_), (3, .ref no), (2, .ref nm), (1, .ref nx), (0, .ref b)]) hx hb dL_law_1711 hl (by decide) rfl (fun ls hl => ?_)
  refine lv_aload_n hx hb dL_law_1713 rfl (lv_at hl 3 rfl) ?_
  refine lv_aload_n hx hb dL_law_1714 rfl (lv_at hl 5 rfl) ?_
  refine lv_iload hx hb dL_law_1715 (lv_at hl 1 rfl) ?_
  refine lv_iconst (v := 1) hx hb dL_law_1717 (by decide) ?_
  refine lv_iadd hx hb dL_law_1718 ?_
  refine va_sld hx hb hXs hbl hbA hS (lwi 1 hi) dL_law_1719 ?_
  refine lv_aload_n hx hb dL_law_1720 rfl (lv_at hl 5 rfl) ?_
  refine lv_iload hx hb dL_law_1721 (lv_at hl 1 rfl) ?_
  refine lv_iconst (v := 2) hx hb dL_law_1723 (by decide) ?_
  refine lv_iadd hx hb dL_law_1724 ?_
  refine va_sld hx hb hXs hbl hbA hS (lwi 2 hi) dL_law_1725 ?_
  have hP : va_P D vwCl (((no, .inl (cy 2, 1, .inr (.inl g2))) :: W2) ++ Wm) H := vP_pm hP (List.Perm.cons _ List.perm_append_comm)
  have hD : va_D A (((no, .inl (cy 2, 1, .inr (.inl g2))) :: W2) ++ Wm) := vD_pm hD (List.Perm.cons _ List.perm_append_comm)
  obtain ⟨qM_, fM_, hqM⟩ := IMo_at hM
  refine kVi (As := [.int (xs (i_ + 1).toNatClampNeg), .int (xs (i_ + 2).toNatClampNeg)]) (rest := []) (wr := ((no, .inl (cy 2, 1, .inr (.inl g2))) :: W2)) hX hE (M_later l D cy nm h M Wm (xs (i_ + 1).toNatClampNeg) (xs (i_ + 2).toNatClampNeg) hM hlo (by omega)) (cwVA 2 htA wd_2009 wd_2006 wd_10 wd_2007 wd_2008 (by decide +kernel) ⟨by decide, by decide⟩) hP hD hS (apR ((no, .inl (cy 2, 1, .inr (.inl g2))) :: W2) Wm) (List.range ((no, .inl (cy 2, 1, .inr (.inl g2))) :: W2).length) (ap_R ((no, .inl (cy 2, 1, .inr (.inl g2))) :: W2) Wm) (ap_C ((no, .inl (cy 2, 1, .inr (.inl g2))) :: W2) Wm) (ap_nd ((no, .inl (cy 2, 1, .inr (.inl g2))) :: W2) Wm) qM_ hqM rfl rfl rfl hl.1 rfl (Nat.le_of_ble_eq_true rfl) dL_law_1726 ⟨rmC (by dsimp only; omega), rmS (by dsimp only; omega)⟩ (fun rr_ Wm2 H locs hw hP hD hS => ?_)
  obtain ⟨km_, Mn, hms, hM2⟩ := hw
  refine W.widen (k := kc + 2) (n := ks + 12) (Nat.le_refl _) (Nat.le_refl _) ?_
  refine lv_istore (lv' := [(6, .int rr_), (5, .int rc_), (4, .int i_), (3, .ref no), (2, .ref nm), (1, .ref nx), (0, .ref b)]) hx hb dL_law_1729 hl (by decide) rfl (fun ls hl => ?_)
  refine lv_goto (tgt := 2150) hx hb dL_law_1731 (by decide) ?_
  have hP : va_P D vwCl ((no, .inl (cy 2, 1, .inr (.inl g2))) :: (W2 ++ Wm2)) H := hP
  have hP := vP_pm hP (List.Perm.cons _ List.perm_append_comm)
  have hD := vD_pm hD (List.Perm.cons _ List.perm_append_comm)
  exact W.widen (k := kc + 2) (n := ks + 12) (Nat.le_refl _) (Nat.le_refl _) (kk Sn Mn W2 Wm2 g2 (kc + 2) (ks + 12) H locs ls hI2 ⟨_, hM2⟩ (sm_later hR hcs hms) (by omega) (by omega) hP hD hS (lv_sub hl [2, 3, 4, 5, 6] rfl))
set_option maxHeartbeats 4000000 in
set_option maxRecDepth 100000 in
theorem cs_38 (l : Launch) (hlt : l.stackTraces = false) {p : Program} {e : Env} {s : State} {m : MethodId} {below : List Frame} {meth : Method} {c : Code} {D : va_G} {cy : Nat → ClassId} {A : Nat → Prop} {b L : Nat} {xs : Nat → Int32} {Q : State → Prop} (hX : Ex p s m #[Value.ref b] meth c code ret 8 RL) (hE : Ew D cy A s) (hXs : va_X b L xs s s.heap) (hbl : b < s.heap.size) (hbA : ¬ A b) {nx nm no : Nat} {h : Int} {S : CSt} {M : MSt} {Wc Wm : va_W} {g : Nat → Int64} {kc ks : Nat} {i_ : Int32} {H : Heap} {locs : List Loc} {ls : Array Slot} (hI : IC cy nx S Wc) (hM : IMo cy nm h M Wm) (hR : RSM S M) (hlo : 999 ≤ h) (hhi : h + 2000 ≤ 1000000) (hkc : (kc : Int) + 2 * S.1.1.toInt ≤ 500000) (hks : (ks : Int) + 471 * S.1.1.toInt ≤ 7000000) (hi : 0 ≤ i_.toInt ∧ i_.toInt + 7 ≤ L ∧ L ≤ 3584) (hP : va_P D vwCl ((no, .inl (cy 2, 1, .inr (.inl g))) :: (Wm ++ Wc)) H) (hD : va_D A ((no, .inl (cy 2, 1, .inr (.inl g))) :: (Wm ++ Wc))) (hS : va_S A s.heap H locs) (hl : lv_has ls 8 [(4, .int i_), (3, .ref no), (2, .ref nm), (1, .ref nx), (0, .ref b)]) (kk : ∀ (S2 : CSt) (M2 : MSt) (W2 Wm2 : va_W) (g2 : Nat → Int64) (kc2 ks2 : Nat) (H : Heap) (locs : List Loc) (ls : Array Slot), IC cy nx S2 W2 → IMo cy nm (h + 900) M2 Wm2 → RSM S2 M2 → (kc2 : Int) + 2 * S2.1.1.toInt ≤ kc + 2 * S.1.1.toInt + 200 → (ks2 : Int) + 471 * S2.1.1.toInt ≤ ks + 471 * S.1.1.toInt + 9420 → va_P D vwCl ((no, .inl (cy 2, 1, .inr (.inl g2))) :: (Wm2 ++ W2)) H → va_D A ((no, .inl (cy 2, 1, .inr (.inl g2))) :: (Wm2 ++ W2)) → va_S A s.heap H locs → lv_has ls 8 [(4, .int i_), (3, .ref no), (2, .ref nm), (1, .ref nx), (0, .ref b)] → W p l e room_1 s m #[Value.ref b] below meth c H locs kc2 ks2 Q (F0 m 2150 ls [])) : W p l e room_1 s m #[Value.ref b] below meth c H locs kc ks Q (F0 m 1734 ls []) := by
  obtain ⟨hx, hb, hr, hml, hown, htA, hlk⟩ := id hX
  have hK := hE.1
  have hT0 := IC_T hI
  refine lv_aload_n hx hb dL_law_1734 rfl (lv_at hl 3 rfl) ?_
  refine lv_aload_n hx hb dL_law_1735 rfl (lv_at hl 4 rfl) ?_
  refine lv_iload hx hb dL_law_1736 (lv_at hl 0 rfl) ?_
  refine lv_iconst (v := 1) hx hb dL_law_1738 (by decide) ?_
  refine lv_iadd hx hb dL_law_1739 ?_
  refine va_sld hx hb hXs hbl hbA hS (lwi 1 hi) dL_law_1740 ?_
  refine lv_aload_n hx hb dL_law_1741 rfl (lv_at hl 4 rfl) ?_
  refine lv_iload hx hb dL_law_1742 (lv_at hl 0 rfl) ?_
  refine lv_iconst (v := 2) hx hb dL_law_1744 (by decide) ?_
  refine lv_iadd hx hb dL_law_1745 ?_
  refine va_sld hx hb hXs hbl hbA hS (lwi 2 hi) dL_law_1746 ?_
  refine lv_aload_n hx hb dL_law_1747 rfl (lv_at hl 4 rfl) ?_
  refine lv_iload hx hb dL_law_1748 (lv_at hl 0 rfl) ?_
  refine lv_iconst (v := 3) hx hb dL_law_1750 (by decide) ?_
  refine lv_iadd hx hb dL_law_1751 ?_
  refine va_sld hx hb hXs hbl hbA hS (lwi 3 hi) dL_law_1752 ?_
  refine lv_aload_n hx hb dL_law_1753 rfl (lv_at hl 1 rfl) ?_
  have hP : va_P D vwCl (Wm ++ ((no, .inl (cy 2, 1, .inr (.inl g))) :: Wc)) H := vP_pm hP List.perm_middle.symm
  have hD : va_D A (Wm ++ ((no, .inl (cy 2, 1, .inr (.inl g))) :: Wc)) := vD_pm hD List.perm_middle.symm
  refine kHi (As := [.ref nx, .int (xs (i_ + 1).toNatClampNeg), .int (xs (i_ + 2).toNatClampNeg), .int (xs (i_ + 3).toNatClampNeg), .ref no]) (rest := []) (wr := Wm) hX hE (H_letGoBy l hlt D cy nx S Wc no g (xs (i_ + 1).toNatClampNeg) (xs (i_ + 2).toNatClampNeg) (xs (i_ + 3).toNatClampNeg) hI) (cwHA 5 htA wd_1233 wd_1231 wd_0 wd_1232 (by decide +kernel) ⟨by decide, by decide⟩) hP hD hS (apR Wm ((no, .inl (cy 2, 1, .inr (.inl g))) :: Wc)) (List.range Wm.length) (ap_R Wm ((no, .inl (cy 2, 1, .inr (.inl g))) :: Wc)) (ap_C Wm ((no, .inl (cy 2, 1, .inr (.inl g))) :: Wc)) (ap_nd Wm ((no, .inl (cy 2, 1, .inr (.inl g))) :: Wc)) rfl hl.1 rfl (Nat.le_of_ble_eq_true rfl) dL_law_1754 ⟨rmC (by dsimp only; omega), rmS (by dsimp only; omega)⟩ (fun rc_ W1 H locs hw hP hD hS => ?_)
  refine W.widen (k := kc + 2) (n := ks + 12) (Nat.le_refl _) (Nat.le_refl _) ?_
  obtain ⟨g2, W2, Sn, hcs, hT2, hI2, rfl⟩ := hw
  have hP := vP_pm hP List.perm_middle
  have hD := vD_pm hD List.perm_middle
  refine lv_istore (lv' := [(5, .int rc_), (4, .int i_), (3, .ref no), (2, .ref nm), (1, .ref nx), (0, .ref b)]) hx hb dL_law_1757 hl (by decide) rfl (fun ls hl => ?_)
  refine lv_aload_n hx hb dL_law_1759 rfl (lv_at hl 3 rfl) ?_
  refine lv_aload_n hx hb dL_law_1760 rfl (lv_at hl 5 rfl) ?_
  refine lv_iload hx hb dL_law_1761 (lv_at hl 1 rfl) ?_
  refine lv_iconst (v := 1) hx hb dL_law_1763 (by decide) ?_
  refine lv_iadd hx hb dL_law_1764 ?_
  refine va_sld hx hb hXs hbl hbA hS (lwi 1 hi) dL_law_1765 ?_
  refine lv_aload_n hx hb dL_law_1766 rfl (lv_at hl 5 rfl) ?_
  refine lv_iload hx hb dL_law_1767 (lv_at hl 1 rfl) ?_
  refine lv_iconst (v := 2) hx hb dL_law_1769 (by decide) ?_
  refine lv_iadd hx hb dL_law_1770 ?_
  refine va_sld hx hb hXs hbl hbA hS (lwi 2 hi) dL_law_1771 ?_
  refine lv_aload_n hx hb dL_law_1772 rfl (lv_at hl 5 rfl) ?_
  refine lv_iload hx hb dL_law_1773 (lv_at hl 1 rfl) ?_
  refine lv_iconst (v := 3) hx hb dL_law_1775 (by decide) ?_
  refine lv_iadd hx hb dL_law_1776 ?_
  refine va_sld hx hb hXs hbl hbA hS (lwi 3 hi) dL_law_1777 ?_
  have hP : va_P D vwCl (((no, .inl (cy 2, 1, .inr (.inl g2))) :: W2) ++ Wm) H := vP_pm hP (List.Perm.cons _ List.perm_append_comm)
  have hD : va_D A (((no, .inl (cy 2, 1, .inr (.inl g2))) :: W2) ++ Wm) := vD_pm hD (List.Perm.cons _ List.perm_append_comm)
  obtain ⟨qM_, fM_, hqM⟩ := IMo_at hM
  refine kVi (As := [.int (xs (i_ + 1).toNatClampNeg), .int (xs (i_ + 2).toNatClampNeg), .int (xs (i_ + 3).toNatClampNeg)]) (rest := []) (wr := ((no, .inl (cy 2, 1, .inr (.inl g2))) :: W2)) hX hE (M_letGoBy l D cy nm h M Wm (xs (i_ + 1).toNatClampNeg) (xs (i_ + 2).toNatClampNeg) (xs (i_ + 3).toNatClampNeg) hM hlo (by omega)) (cwVA 3 htA wd_2014 wd_2011 wd_10 wd_2012 wd_2013 (by decide +kernel) ⟨by decide, by decide⟩) hP hD hS (apR ((no, .inl (cy 2, 1, .inr (.inl g2))) :: W2) Wm) (List.range ((no, .inl (cy 2, 1, .inr (.inl g2))) :: W2).length) (ap_R ((no, .inl (cy 2, 1, .inr (.inl g2))) :: W2) Wm) (ap_C ((no, .inl (cy 2, 1, .inr (.inl g2))) :: W2) Wm) (ap_nd ((no, .inl (cy 2, 1, .inr (.inl g2))) :: W2) Wm) qM_ hqM rfl rfl rfl hl.1 rfl (Nat.le_of_ble_eq_true rfl) dL_law_1778 ⟨rmC (by dsimp only; omega), rmS (by dsimp only; omega)⟩ (fun rr_ Wm2 H locs hw hP hD hS => ?_)
  obtain ⟨km_, Mn, hms, hM2⟩ := hw
  refine W.widen (k := kc + 2) (n := ks + 12) (Nat.le_refl _) (Nat.le_refl _) ?_
  refine lv_istore (lv' := [(6, .int rr_), (5, .int rc_), (4, .int i_), (3, .ref no), (2, .ref nm), (1, .ref nx), (0, .ref b)]) hx hb dL_law_1781 hl (by decide) rfl (fun ls hl => ?_)
  refine lv_goto (tgt := 2150) hx hb dL_law_1783 (by decide) ?_
  have hP : va_P D vwCl ((no, .inl (cy 2, 1, .inr (.inl g2))) :: (W2 ++ Wm2)) H := hP
  have hP := vP_pm hP (List.Perm.cons _ List.perm_append_comm)
  have hD := vD_pm hD (List.Perm.cons _ List.perm_append_comm)
  exact W.widen (k := kc + 2) (n := ks + 12) (Nat.le_refl _) (Nat.le_refl _) (kk Sn Mn W2 Wm2 g2 (kc + 2) (ks + 12) H locs ls hI2 ⟨_, hM2⟩ (sm_letGoBy hR hcs hms) (by omega) (by omega) hP hD hS (lv_sub hl [2, 3, 4, 5, 6] rfl))
set_option maxHeartbeats 4000000 in
set_option maxRecDepth 100000 in
theorem cs_39 (l : Launch) (hlt : l.stackTraces = false) {p : Program} {e : Env} {s : State} {m : MethodId} {below : List Frame} {meth : Method} {c : Code} {D : va_G} {cy : Nat → ClassId} {A : Nat → Prop} {b L : Nat} {xs : Nat → Int32} {Q : State → Prop} (hX : Ex p s m #[Value.ref b] meth c code ret 8 RL) (hE : Ew D cy A s) (hXs : va_X b L xs s s.heap) (hbl : b < s.heap.size) (hbA : ¬ A b) {nx nm no : Nat} {h : Int} {S : CSt} {M : MSt} {Wc Wm : va_W} {g : Nat → Int64} {kc ks : Nat} {i_ : Int32} {H : Heap} {locs : List Loc} {ls : Array Slot} (hI : IC cy nx S Wc) (hM : IMo cy nm h M Wm) (hR : RSM S M) (hlo : 999 ≤ h) (hhi : h + 2000 ≤ 1000000) (hkc : (kc : Int) + 2 * S.1.1.toInt ≤ 500000) (hks : (ks : Int) + 471 * S.1.1.toInt ≤ 7000000) (hi : 0 ≤ i_.toInt ∧ i_.toInt + 7 ≤ L ∧ L ≤ 3584) (hP : va_P D vwCl ((no, .inl (cy 2, 1, .inr (.inl g))) :: (Wm ++ Wc)) H) (hD : va_D A ((no, .inl (cy 2, 1, .inr (.inl g))) :: (Wm ++ Wc))) (hS : va_S A s.heap H locs) (hl : lv_has ls 8 [(4, .int i_), (3, .ref no), (2, .ref nm), (1, .ref nx), (0, .ref b)]) (kk : ∀ (S2 : CSt) (M2 : MSt) (W2 Wm2 : va_W) (g2 : Nat → Int64) (kc2 ks2 : Nat) (H : Heap) (locs : List Loc) (ls : Array Slot), IC cy nx S2 W2 → IMo cy nm (h + 900) M2 Wm2 → RSM S2 M2 → (kc2 : Int) + 2 * S2.1.1.toInt ≤ kc + 2 * S.1.1.toInt + 200 → (ks2 : Int) + 471 * S2.1.1.toInt ≤ ks + 471 * S.1.1.toInt + 9420 → va_P D vwCl ((no, .inl (cy 2, 1, .inr (.inl g2))) :: (Wm2 ++ W2)) H → va_D A ((no, .inl (cy 2, 1, .inr (.inl g2))) :: (Wm2 ++ W2)) → va_S A s.heap H locs → lv_has ls 8 [(4, .int i_), (3, .ref no), (2, .ref nm), (1, .ref nx), (0, .ref b)] → W p l e room_1 s m #[Value.ref b] below meth c H locs kc2 ks2 Q (F0 m 2150 ls [])) : W p l e room_1 s m #[Value.ref b] below meth c H locs kc ks Q (F0 m 1786 ls []) := by
  obtain ⟨hx, hb, hr, hml, hown, htA, hlk⟩ := id hX
  have hK := hE.1
  have hT0 := IC_T hI
  refine lv_aload_n hx hb dL_law_1786 rfl (lv_at hl 3 rfl) ?_
  refine lv_aload_n hx hb dL_law_1787 rfl (lv_at hl 4 rfl) ?_
  refine lv_iload hx hb dL_law_1788 (lv_at hl 0 rfl) ?_
  refine lv_iconst (v := 1) hx hb dL_law_1790 (by decide) ?_
  refine lv_iadd hx hb dL_law_1791 ?_
  refine va_sld hx hb hXs hbl hbA hS (lwi 1 hi) dL_law_1792 ?_
  refine lv_aload_n hx hb dL_law_1793 rfl (lv_at hl 4 rfl) ?_
  refine lv_iload hx hb dL_law_1794 (lv_at hl 0 rfl) ?_
  refine lv_iconst (v := 2) hx hb dL_law_1796 (by decide) ?_
  refine lv_iadd hx hb dL_law_1797 ?_
  refine va_sld hx hb hXs hbl hbA hS (lwi 2 hi) dL_law_1798 ?_
  refine lv_aload_n hx hb dL_law_1799 rfl (lv_at hl 4 rfl) ?_
  refine lv_iload hx hb dL_law_1800 (lv_at hl 0 rfl) ?_
  refine lv_iconst (v := 3) hx hb dL_law_1802 (by decide) ?_
  refine lv_iadd hx hb dL_law_1803 ?_
  refine va_sld hx hb hXs hbl hbA hS (lwi 3 hi) dL_law_1804 ?_
  refine lv_aload_n hx hb dL_law_1805 rfl (lv_at hl 4 rfl) ?_
  refine lv_iload hx hb dL_law_1806 (lv_at hl 0 rfl) ?_
  refine lv_iconst (v := 4) hx hb dL_law_1808 (by decide) ?_
  refine lv_iadd hx hb dL_law_1809 ?_
  refine va_sld hx hb hXs hbl hbA hS (lwi 4 hi) dL_law_1810 ?_
  refine lv_aload_n hx hb dL_law_1811 rfl (lv_at hl 1 rfl) ?_
  have hP : va_P D vwCl (Wm ++ ((no, .inl (cy 2, 1, .inr (.inl g))) :: Wc)) H := vP_pm hP List.perm_middle.symm
  have hD : va_D A (Wm ++ ((no, .inl (cy 2, 1, .inr (.inl g))) :: Wc)) := vD_pm hD List.perm_middle.symm
  refine kHi (As := [.ref nx, .int (xs (i_ + 1).toNatClampNeg), .int (xs (i_ + 2).toNatClampNeg), .int (xs (i_ + 3).toNatClampNeg), .int (xs (i_ + 4).toNatClampNeg), .ref no]) (rest := []) (wr := Wm) hX hE (H_letGoAt l hlt D cy nx S Wc no g (xs (i_ + 1).toNatClampNeg) (xs (i_ + 2).toNatClampNeg) (xs (i_ + 3).toNatClampNeg) (xs (i_ + 4).toNatClampNeg) hI) (cwHA 6 htA wd_1244 wd_1242 wd_0 wd_1243 (by decide +kernel) ⟨by decide, by decide⟩) hP hD hS (apR Wm ((no, .inl (cy 2, 1, .inr (.inl g))) :: Wc)) (List.range Wm.length) (ap_R Wm ((no, .inl (cy 2, 1, .inr (.inl g))) :: Wc)) (ap_C Wm ((no, .inl (cy 2, 1, .inr (.inl g))) :: Wc)) (ap_nd Wm ((no, .inl (cy 2, 1, .inr (.inl g))) :: Wc)) rfl hl.1 rfl (Nat.le_of_ble_eq_true rfl) dL_law_1812 ⟨rmC (by dsimp only; omega), rmS (by dsimp only; omega)⟩ (fun rc_ W1 H locs hw hP hD hS => ?_)
  refine W.widen (k := kc + 3) (n := ks + 18) (Nat.le_refl _) (Nat.le_refl _) ?_
  obtain ⟨g2, W2, Sn, hcs, hT2, hI2, rfl⟩ := hw
  have hP := vP_pm hP List.perm_middle
  have hD := vD_pm hD List.perm_middle
  refine lv_istore (lv' := [(5, .int rc_), (4, .int i_), (3, .ref no), (2, .ref nm), (1, .ref nx), (0, .ref b)]) hx hb dL_law_1815 hl (by decide) rfl (fun ls hl => ?_)
  refine lv_aload_n hx hb dL_law_1817 rfl (lv_at hl 3 rfl) ?_
  refine lv_aload_n hx hb dL_law_1818 rfl (lv_at hl 5 rfl) ?_
  refine lv_iload hx hb dL_law_1819 (lv_at hl 1 rfl) ?_
  refine lv_iconst (v := 1) hx hb dL_law_1821 (by decide) ?_
  refine lv_iadd hx hb dL_law_1822 ?_
  refine va_sld hx hb hXs hbl hbA hS (lwi 1 hi) dL_law_1823 ?_
  refine lv_aload_n hx hb dL_law_1824 rfl (lv_at hl 5 rfl) ?_
  refine lv_iload hx hb dL_law_1825 (lv_at hl 1 rfl) ?_
  refine lv_iconst (v := 2) hx hb dL_law_1827 (by decide) ?_
  refine lv_iadd hx hb dL_law_1828 ?_
  refine va_sld hx hb hXs hbl hbA hS (lwi 2 hi) dL_law_1829 ?_
  refine lv_aload_n hx hb dL_law_1830 rfl (lv_at hl 5 rfl) ?_
  refine lv_iload hx hb dL_law_1831 (lv_at hl 1 rfl) ?_
  refine lv_iconst (v := 3) hx hb dL_law_1833 (by decide) ?_
  refine lv_iadd hx hb dL_law_1834 ?_
  refine va_sld hx hb hXs hbl hbA hS (lwi 3 hi) dL_law_1835 ?_
  refine lv_aload_n hx hb dL_law_1836 rfl (lv_at hl 5 rfl) ?_
  refine lv_iload hx hb dL_law_1837 (lv_at hl 1 rfl) ?_
  refine lv_iconst (v := 4) hx hb dL_law_1839 (by decide) ?_
  refine lv_iadd hx hb dL_law_1840 ?_
  refine va_sld hx hb hXs hbl hbA hS (lwi 4 hi) dL_law_1841 ?_
  have hP : va_P D vwCl (((no, .inl (cy 2, 1, .inr (.inl g2))) :: W2) ++ Wm) H := vP_pm hP (List.Perm.cons _ List.perm_append_comm)
  have hD : va_D A (((no, .inl (cy 2, 1, .inr (.inl g2))) :: W2) ++ Wm) := vD_pm hD (List.Perm.cons _ List.perm_append_comm)
  obtain ⟨qM_, fM_, hqM⟩ := IMo_at hM
  refine kVi (As := [.int (xs (i_ + 1).toNatClampNeg), .int (xs (i_ + 2).toNatClampNeg), .int (xs (i_ + 3).toNatClampNeg), .int (xs (i_ + 4).toNatClampNeg)]) (rest := []) (wr := ((no, .inl (cy 2, 1, .inr (.inl g2))) :: W2)) hX hE (M_letGoAt l D cy nm h M Wm (xs (i_ + 1).toNatClampNeg) (xs (i_ + 2).toNatClampNeg) (xs (i_ + 3).toNatClampNeg) (xs (i_ + 4).toNatClampNeg) hM hlo (by omega)) (cwVA 4 htA wd_2030 wd_2027 wd_10 wd_2028 wd_2029 (by decide +kernel) ⟨by decide, by decide⟩) hP hD hS (apR ((no, .inl (cy 2, 1, .inr (.inl g2))) :: W2) Wm) (List.range ((no, .inl (cy 2, 1, .inr (.inl g2))) :: W2).length) (ap_R ((no, .inl (cy 2, 1, .inr (.inl g2))) :: W2) Wm) (ap_C ((no, .inl (cy 2, 1, .inr (.inl g2))) :: W2) Wm) (ap_nd ((no, .inl (cy 2, 1, .inr (.inl g2))) :: W2) Wm) qM_ hqM rfl rfl rfl hl.1 rfl (Nat.le_of_ble_eq_true rfl) dL_law_1842 ⟨rmC (by dsimp only; omega), rmS (by dsimp only; omega)⟩ (fun rr_ Wm2 H locs hw hP hD hS => ?_)
  obtain ⟨km_, Mn, hms, hM2⟩ := hw
  refine W.widen (k := kc + 3) (n := ks + 18) (Nat.le_refl _) (Nat.le_refl _) ?_
  refine lv_istore (lv' := [(6, .int rr_), (5, .int rc_), (4, .int i_), (3, .ref no), (2, .ref nm), (1, .ref nx), (0, .ref b)]) hx hb dL_law_1845 hl (by decide) rfl (fun ls hl => ?_)
  refine lv_goto (tgt := 2150) hx hb dL_law_1847 (by decide) ?_
  have hP : va_P D vwCl ((no, .inl (cy 2, 1, .inr (.inl g2))) :: (W2 ++ Wm2)) H := hP
  have hP := vP_pm hP (List.Perm.cons _ List.perm_append_comm)
  have hD := vD_pm hD (List.Perm.cons _ List.perm_append_comm)
  exact W.widen (k := kc + 3) (n := ks + 18) (Nat.le_refl _) (Nat.le_refl _) (kk Sn Mn W2 Wm2 g2 (kc + 3) (ks + 18) H locs ls hI2 ⟨_, hM2⟩ (sm_letGoAt hR hcs hms) (by omega) (by omega) hP hD hS (lv_sub hl [2, 3, 4, 5, 6] rfl))
set_option maxHeartbeats 4000000 in
set_option maxRecDepth 100000 in
theorem cs_40 (l : Launch) (hlt : l.stackTraces = false) {p : Program} {e : Env} {s : State} {m : MethodId} {below : List Frame} {meth : Method} {c : Code} {D : va_G} {cy : Nat → ClassId} {A : Nat → Prop} {b L : Nat} {xs : Nat → Int32} {Q : State → Prop} (hX : Ex p s m #[Value.ref b] meth c code ret 8 RL) (hE : Ew D cy A s) (hXs : va_X b L xs s s.heap) (hbl : b < s.heap.size) (hbA : ¬ A b) {nx nm no : Nat} {h : Int} {S : CSt} {M : MSt} {Wc Wm : va_W} {g : Nat → Int64} {kc ks : Nat} {i_ : Int32} {H : Heap} {locs : List Loc} {ls : Array Slot} (hI : IC cy nx S Wc) (hM : IMo cy nm h M Wm) (hR : RSM S M) (hlo : 999 ≤ h) (hhi : h + 2000 ≤ 1000000) (hkc : (kc : Int) + 2 * S.1.1.toInt ≤ 500000) (hks : (ks : Int) + 471 * S.1.1.toInt ≤ 7000000) (hi : 0 ≤ i_.toInt ∧ i_.toInt + 7 ≤ L ∧ L ≤ 3584) (hP : va_P D vwCl ((no, .inl (cy 2, 1, .inr (.inl g))) :: (Wm ++ Wc)) H) (hD : va_D A ((no, .inl (cy 2, 1, .inr (.inl g))) :: (Wm ++ Wc))) (hS : va_S A s.heap H locs) (hl : lv_has ls 8 [(4, .int i_), (3, .ref no), (2, .ref nm), (1, .ref nx), (0, .ref b)]) (kk : ∀ (S2 : CSt) (M2 : MSt) (W2 Wm2 : va_W) (g2 : Nat → Int64) (kc2 ks2 : Nat) (H : Heap) (locs : List Loc) (ls : Array Slot), IC cy nx S2 W2 → IMo cy nm (h + 900) M2 Wm2 → RSM S2 M2 → (kc2 : Int) + 2 * S2.1.1.toInt ≤ kc + 2 * S.1.1.toInt + 200 → (ks2 : Int) + 471 * S2.1.1.toInt ≤ ks + 471 * S.1.1.toInt + 9420 → va_P D vwCl ((no, .inl (cy 2, 1, .inr (.inl g2))) :: (Wm2 ++ W2)) H → va_D A ((no, .inl (cy 2, 1, .inr (.inl g2))) :: (Wm2 ++ W2)) → va_S A s.heap H locs → lv_has ls 8 [(4, .int i_), (3, .ref no), (2, .ref nm), (1, .ref nx), (0, .ref b)] → W p l e room_1 s m #[Value.ref b] below meth c H locs kc2 ks2 Q (F0 m 2150 ls [])) : W p l e room_1 s m #[Value.ref b] below meth c H locs kc ks Q (F0 m 1850 ls []) := by
  obtain ⟨hx, hb, hr, hml, hown, htA, hlk⟩ := id hX
  have hK := hE.1
  have hT0 := IC_T hI
  refine lv_aload_n hx hb dL_law_1850 rfl (lv_at hl 3 rfl) ?_
  refine lv_aload_n hx hb dL_law_1851 rfl (lv_at hl 4 rfl) ?_
  refine lv_iload hx hb dL_law_1852 (lv_at hl 0 rfl) ?_
  refine lv_iconst (v := 1) hx hb dL_law_1854 (by decide) ?_
  refine lv_iadd hx hb dL_law_1855 ?_
  refine va_sld hx hb hXs hbl hbA hS (lwi 1 hi) dL_law_1856 ?_
  refine lv_aload_n hx hb dL_law_1857 rfl (lv_at hl 4 rfl) ?_
  refine lv_iload hx hb dL_law_1858 (lv_at hl 0 rfl) ?_
  refine lv_iconst (v := 2) hx hb dL_law_1860 (by decide) ?_
  refine lv_iadd hx hb dL_law_1861 ?_
  refine va_sld hx hb hXs hbl hbA hS (lwi 2 hi) dL_law_1862 ?_
  refine lv_aload_n hx hb dL_law_1863 rfl (lv_at hl 4 rfl) ?_
  refine lv_iload hx hb dL_law_1864 (lv_at hl 0 rfl) ?_
  refine lv_iconst (v := 3) hx hb dL_law_1866 (by decide) ?_
  refine lv_iadd hx hb dL_law_1867 ?_
  refine va_sld hx hb hXs hbl hbA hS (lwi 3 hi) dL_law_1868 ?_
  refine lv_aload_n hx hb dL_law_1869 rfl (lv_at hl 4 rfl) ?_
  refine lv_iload hx hb dL_law_1870 (lv_at hl 0 rfl) ?_
  refine lv_iconst (v := 4) hx hb dL_law_1872 (by decide) ?_
  refine lv_iadd hx hb dL_law_1873 ?_
  refine va_sld hx hb hXs hbl hbA hS (lwi 4 hi) dL_law_1874 ?_
  refine lv_aload_n hx hb dL_law_1875 rfl (lv_at hl 1 rfl) ?_
  have hP : va_P D vwCl (Wm ++ ((no, .inl (cy 2, 1, .inr (.inl g))) :: Wc)) H := vP_pm hP List.perm_middle.symm
  have hD : va_D A (Wm ++ ((no, .inl (cy 2, 1, .inr (.inl g))) :: Wc)) := vD_pm hD List.perm_middle.symm
  refine kHi (As := [.ref nx, .int (xs (i_ + 1).toNatClampNeg), .int (xs (i_ + 2).toNatClampNeg), .int (xs (i_ + 3).toNatClampNeg), .int (xs (i_ + 4).toNatClampNeg), .ref no]) (rest := []) (wr := Wm) hX hE (H_levels l hlt D cy nx S Wc no g (xs (i_ + 1).toNatClampNeg) (xs (i_ + 2).toNatClampNeg) (xs (i_ + 3).toNatClampNeg) (xs (i_ + 4).toNatClampNeg) hI) (cwHA 6 htA wd_1252 wd_1250 wd_0 wd_1251 (by decide +kernel) ⟨by decide, by decide⟩) hP hD hS (apR Wm ((no, .inl (cy 2, 1, .inr (.inl g))) :: Wc)) (List.range Wm.length) (ap_R Wm ((no, .inl (cy 2, 1, .inr (.inl g))) :: Wc)) (ap_C Wm ((no, .inl (cy 2, 1, .inr (.inl g))) :: Wc)) (ap_nd Wm ((no, .inl (cy 2, 1, .inr (.inl g))) :: Wc)) rfl hl.1 rfl (Nat.le_of_ble_eq_true rfl) dL_law_1876 ⟨rmC (by dsimp only; omega), rmS (by dsimp only; omega)⟩ (fun rc_ W1 H locs hw hP hD hS => ?_)
  refine W.widen (k := kc + 4) (n := ks + 24) (Nat.le_refl _) (Nat.le_refl _) ?_
  obtain ⟨g2, W2, Sn, hcs, hT2, hI2, rfl⟩ := hw
  have hP := vP_pm hP List.perm_middle
  have hD := vD_pm hD List.perm_middle
  refine lv_istore (lv' := [(5, .int rc_), (4, .int i_), (3, .ref no), (2, .ref nm), (1, .ref nx), (0, .ref b)]) hx hb dL_law_1879 hl (by decide) rfl (fun ls hl => ?_)
  refine lv_aload_n hx hb dL_law_1881 rfl (lv_at hl 3 rfl) ?_
  refine lv_aload_n hx hb dL_law_1882 rfl (lv_at hl 5 rfl) ?_
  refine lv_iload hx hb dL_law_1883 (lv_at hl 1 rfl) ?_
  refine lv_iconst (v := 1) hx hb dL_law_1885 (by decide) ?_
  refine lv_iadd hx hb dL_law_1886 ?_
  refine va_sld hx hb hXs hbl hbA hS (lwi 1 hi) dL_law_1887 ?_
  refine lv_aload_n hx hb dL_law_1888 rfl (lv_at hl 5 rfl) ?_
  refine lv_iload hx hb dL_law_1889 (lv_at hl 1 rfl) ?_
  refine lv_iconst (v := 2) hx hb dL_law_1891 (by decide) ?_
  refine lv_iadd hx hb dL_law_1892 ?_
  refine va_sld hx hb hXs hbl hbA hS (lwi 2 hi) dL_law_1893 ?_
  refine lv_aload_n hx hb dL_law_1894 rfl (lv_at hl 5 rfl) ?_
  refine lv_iload hx hb dL_law_1895 (lv_at hl 1 rfl) ?_
  refine lv_iconst (v := 3) hx hb dL_law_1897 (by decide) ?_
  refine lv_iadd hx hb dL_law_1898 ?_
  refine va_sld hx hb hXs hbl hbA hS (lwi 3 hi) dL_law_1899 ?_
  refine lv_aload_n hx hb dL_law_1900 rfl (lv_at hl 5 rfl) ?_
  refine lv_iload hx hb dL_law_1901 (lv_at hl 1 rfl) ?_
  refine lv_iconst (v := 4) hx hb dL_law_1903 (by decide) ?_
  refine lv_iadd hx hb dL_law_1904 ?_
  refine va_sld hx hb hXs hbl hbA hS (lwi 4 hi) dL_law_1905 ?_
  have hP : va_P D vwCl (((no, .inl (cy 2, 1, .inr (.inl g2))) :: W2) ++ Wm) H := vP_pm hP (List.Perm.cons _ List.perm_append_comm)
  have hD : va_D A (((no, .inl (cy 2, 1, .inr (.inl g2))) :: W2) ++ Wm) := vD_pm hD (List.Perm.cons _ List.perm_append_comm)
  obtain ⟨qM_, fM_, hqM⟩ := IMo_at hM
  refine kVi (As := [.int (xs (i_ + 1).toNatClampNeg), .int (xs (i_ + 2).toNatClampNeg), .int (xs (i_ + 3).toNatClampNeg), .int (xs (i_ + 4).toNatClampNeg)]) (rest := []) (wr := ((no, .inl (cy 2, 1, .inr (.inl g2))) :: W2)) hX hE (M_levels l D cy nm h M Wm (xs (i_ + 1).toNatClampNeg) (xs (i_ + 2).toNatClampNeg) (xs (i_ + 3).toNatClampNeg) (xs (i_ + 4).toNatClampNeg) hM hlo (by omega)) (cwVA 4 htA wd_2034 wd_2031 wd_10 wd_2032 wd_2033 (by decide +kernel) ⟨by decide, by decide⟩) hP hD hS (apR ((no, .inl (cy 2, 1, .inr (.inl g2))) :: W2) Wm) (List.range ((no, .inl (cy 2, 1, .inr (.inl g2))) :: W2).length) (ap_R ((no, .inl (cy 2, 1, .inr (.inl g2))) :: W2) Wm) (ap_C ((no, .inl (cy 2, 1, .inr (.inl g2))) :: W2) Wm) (ap_nd ((no, .inl (cy 2, 1, .inr (.inl g2))) :: W2) Wm) qM_ hqM rfl rfl rfl hl.1 rfl (Nat.le_of_ble_eq_true rfl) dL_law_1906 ⟨rmC (by dsimp only; omega), rmS (by dsimp only; omega)⟩ (fun rr_ Wm2 H locs hw hP hD hS => ?_)
  obtain ⟨km_, Mn, hms, hM2⟩ := hw
  refine W.widen (k := kc + 4) (n := ks + 24) (Nat.le_refl _) (Nat.le_refl _) ?_
  refine lv_istore (lv' := [(6, .int rr_), (5, .int rc_), (4, .int i_), (3, .ref no), (2, .ref nm), (1, .ref nx), (0, .ref b)]) hx hb dL_law_1909 hl (by decide) rfl (fun ls hl => ?_)
  refine lv_goto (tgt := 2150) hx hb dL_law_1911 (by decide) ?_
  have hP : va_P D vwCl ((no, .inl (cy 2, 1, .inr (.inl g2))) :: (W2 ++ Wm2)) H := hP
  have hP := vP_pm hP (List.Perm.cons _ List.perm_append_comm)
  have hD := vD_pm hD (List.Perm.cons _ List.perm_append_comm)
  exact W.widen (k := kc + 4) (n := ks + 24) (Nat.le_refl _) (Nat.le_refl _) (kk Sn Mn W2 Wm2 g2 (kc + 4) (ks + 24) H locs ls hI2 ⟨_, hM2⟩ (sm_levels hR hcs hms) (by omega) (by omega) hP hD hS (lv_sub hl [2, 3, 4, 5, 6] rfl))
set_option maxHeartbeats 4000000 in
set_option maxRecDepth 100000 in
theorem cs_41 (l : Launch) (hlt : l.stackTraces = false) {p : Program} {e : Env} {s : State} {m : MethodId} {below : List Frame} {meth : Method} {c : Code} {D : va_G} {cy : Nat → ClassId} {A : Nat → Prop} {b L : Nat} {xs : Nat → Int32} {Q : State → Prop} (hX : Ex p s m #[Value.ref b] meth c code ret 8 RL) (hE : Ew D cy A s) (hXs : va_X b L xs s s.heap) (hbl : b < s.heap.size) (hbA : ¬ A b) {nx nm no : Nat} {h : Int} {S : CSt} {M : MSt} {Wc Wm : va_W} {g : Nat → Int64} {kc ks : Nat} {i_ : Int32} {H : Heap} {locs : List Loc} {ls : Array Slot} (hI : IC cy nx S Wc) (hM : IMo cy nm h M Wm) (hR : RSM S M) (hlo : 999 ≤ h) (hhi : h + 2000 ≤ 1000000) (hkc : (kc : Int) + 2 * S.1.1.toInt ≤ 500000) (hks : (ks : Int) + 471 * S.1.1.toInt ≤ 7000000) (hi : 0 ≤ i_.toInt ∧ i_.toInt + 7 ≤ L ∧ L ≤ 3584) (hP : va_P D vwCl ((no, .inl (cy 2, 1, .inr (.inl g))) :: (Wm ++ Wc)) H) (hD : va_D A ((no, .inl (cy 2, 1, .inr (.inl g))) :: (Wm ++ Wc))) (hS : va_S A s.heap H locs) (hl : lv_has ls 8 [(4, .int i_), (3, .ref no), (2, .ref nm), (1, .ref nx), (0, .ref b)]) (kk : ∀ (S2 : CSt) (M2 : MSt) (W2 Wm2 : va_W) (g2 : Nat → Int64) (kc2 ks2 : Nat) (H : Heap) (locs : List Loc) (ls : Array Slot), IC cy nx S2 W2 → IMo cy nm (h + 900) M2 Wm2 → RSM S2 M2 → (kc2 : Int) + 2 * S2.1.1.toInt ≤ kc + 2 * S.1.1.toInt + 200 → (ks2 : Int) + 471 * S2.1.1.toInt ≤ ks + 471 * S.1.1.toInt + 9420 → va_P D vwCl ((no, .inl (cy 2, 1, .inr (.inl g2))) :: (Wm2 ++ W2)) H → va_D A ((no, .inl (cy 2, 1, .inr (.inl g2))) :: (Wm2 ++ W2)) → va_S A s.heap H locs → lv_has ls 8 [(4, .int i_), (3, .ref no), (2, .ref nm), (1, .ref nx), (0, .ref b)] → W p l e room_1 s m #[Value.ref b] below meth c H locs kc2 ks2 Q (F0 m 2150 ls [])) : W p l e room_1 s m #[Value.ref b] below meth c H locs kc ks Q (F0 m 1914 ls []) := by
  obtain ⟨hx, hb, hr, hml, hown, htA, hlk⟩ := id hX
  have hK := hE.1
  have hT0 := IC_T hI
  refine lv_aload_n hx hb dL_law_1914 rfl (lv_at hl 3 rfl) ?_
  refine lv_aload_n hx hb dL_law_1915 rfl (lv_at hl 4 rfl) ?_
  refine lv_iload hx hb dL_law_1916 (lv_at hl 0 rfl) ?_
  refine lv_iconst (v := 1) hx hb dL_law_1918 (by decide) ?_
  refine lv_iadd hx hb dL_law_1919 ?_
  refine va_sld hx hb hXs hbl hbA hS (lwi 1 hi) dL_law_1920 ?_
  refine lv_aload_n hx hb dL_law_1921 rfl (lv_at hl 4 rfl) ?_
  refine lv_iload hx hb dL_law_1922 (lv_at hl 0 rfl) ?_
  refine lv_iconst (v := 2) hx hb dL_law_1924 (by decide) ?_
  refine lv_iadd hx hb dL_law_1925 ?_
  refine va_sld hx hb hXs hbl hbA hS (lwi 2 hi) dL_law_1926 ?_
  refine lv_aload_n hx hb dL_law_1927 rfl (lv_at hl 4 rfl) ?_
  refine lv_iload hx hb dL_law_1928 (lv_at hl 0 rfl) ?_
  refine lv_iconst (v := 3) hx hb dL_law_1930 (by decide) ?_
  refine lv_iadd hx hb dL_law_1931 ?_
  refine va_sld hx hb hXs hbl hbA hS (lwi 3 hi) dL_law_1932 ?_
  have hP : va_P D vwCl (((no, .inl (cy 2, 1, .inr (.inl g))) :: Wm) ++ Wc) H := hP
  have hD : va_D A (((no, .inl (cy 2, 1, .inr (.inl g))) :: Wm) ++ Wc) := hD
  refine kHi (As := [.ref nx, .int (xs (i_ + 1).toNatClampNeg), .int (xs (i_ + 2).toNatClampNeg), .int (xs (i_ + 3).toNatClampNeg)]) (rest := []) (wr := ((no, .inl (cy 2, 1, .inr (.inl g))) :: Wm)) hX hE (H_tray l hlt D cy nx S Wc (xs (i_ + 1).toNatClampNeg) (xs (i_ + 2).toNatClampNeg) (xs (i_ + 3).toNatClampNeg) hI) (cwHA 4 htA wd_1259 wd_1257 wd_0 wd_1258 (by decide +kernel) ⟨by decide, by decide⟩) hP hD hS (apR ((no, .inl (cy 2, 1, .inr (.inl g))) :: Wm) Wc) (List.range ((no, .inl (cy 2, 1, .inr (.inl g))) :: Wm).length) (ap_R ((no, .inl (cy 2, 1, .inr (.inl g))) :: Wm) Wc) (ap_C ((no, .inl (cy 2, 1, .inr (.inl g))) :: Wm) Wc) (ap_nd ((no, .inl (cy 2, 1, .inr (.inl g))) :: Wm) Wc) rfl hl.1 rfl (Nat.le_of_ble_eq_true rfl) dL_law_1933 ⟨rmC (by dsimp only; omega), rmS (by dsimp only; omega)⟩ (fun rc_ W1 H locs hw hP hD hS => ?_)
  refine W.widen (k := kc + 1) (n := ks + 6) (Nat.le_refl _) (Nat.le_refl _) ?_
  obtain ⟨Sn, hcs, hT2, hI2⟩ := hw
  refine lv_istore (lv' := [(5, .int rc_), (4, .int i_), (3, .ref no), (2, .ref nm), (1, .ref nx), (0, .ref b)]) hx hb dL_law_1936 hl (by decide) rfl (fun ls hl => ?_)
  refine lv_aload_n hx hb dL_law_1938 rfl (lv_at hl 3 rfl) ?_
  refine lv_aload_n hx hb dL_law_1939 rfl (lv_at hl 5 rfl) ?_
  refine lv_iload hx hb dL_law_1940 (lv_at hl 1 rfl) ?_
  refine lv_iconst (v := 1) hx hb dL_law_1942 (by decide) ?_
  refine lv_iadd hx hb dL_law_1943 ?_
  refine va_sld hx hb hXs hbl hbA hS (lwi 1 hi) dL_law_1944 ?_
  refine lv_aload_n hx hb dL_law_1945 rfl (lv_at hl 5 rfl) ?_
  refine lv_iload hx hb dL_law_1946 (lv_at hl 1 rfl) ?_
  refine lv_iconst (v := 2) hx hb dL_law_1948 (by decide) ?_
  refine lv_iadd hx hb dL_law_1949 ?_
  refine va_sld hx hb hXs hbl hbA hS (lwi 2 hi) dL_law_1950 ?_
  refine lv_aload_n hx hb dL_law_1951 rfl (lv_at hl 5 rfl) ?_
  refine lv_iload hx hb dL_law_1952 (lv_at hl 1 rfl) ?_
  refine lv_iconst (v := 3) hx hb dL_law_1954 (by decide) ?_
  refine lv_iadd hx hb dL_law_1955 ?_
  refine va_sld hx hb hXs hbl hbA hS (lwi 3 hi) dL_law_1956 ?_
  have hP : va_P D vwCl (((no, .inl (cy 2, 1, .inr (.inl g))) :: W1) ++ Wm) H := vP_pm hP (List.Perm.cons _ List.perm_append_comm)
  have hD : va_D A (((no, .inl (cy 2, 1, .inr (.inl g))) :: W1) ++ Wm) := vD_pm hD (List.Perm.cons _ List.perm_append_comm)
  obtain ⟨qM_, fM_, hqM⟩ := IMo_at hM
  refine kVv (As := [.int (xs (i_ + 1).toNatClampNeg), .int (xs (i_ + 2).toNatClampNeg), .int (xs (i_ + 3).toNatClampNeg)]) (rest := []) (wr := ((no, .inl (cy 2, 1, .inr (.inl g))) :: W1)) hX hE (M_tray l D cy nm h M Wm (xs (i_ + 1).toNatClampNeg) (xs (i_ + 2).toNatClampNeg) (xs (i_ + 3).toNatClampNeg) hM hlo (by omega)) (cwVA 3 htA wd_2038 wd_2035 wd_10 wd_2036 wd_2037 (by decide +kernel) ⟨by decide, by decide⟩) hP hD hS (apR ((no, .inl (cy 2, 1, .inr (.inl g))) :: W1) Wm) (List.range ((no, .inl (cy 2, 1, .inr (.inl g))) :: W1).length) (ap_R ((no, .inl (cy 2, 1, .inr (.inl g))) :: W1) Wm) (ap_C ((no, .inl (cy 2, 1, .inr (.inl g))) :: W1) Wm) (ap_nd ((no, .inl (cy 2, 1, .inr (.inl g))) :: W1) Wm) qM_ hqM rfl rfl rfl hl.1 rfl (Nat.le_of_ble_eq_true rfl) dL_law_1957 ⟨rmC (by dsimp only; omega), rmS (by dsimp only; omega)⟩ (fun Wm2 H locs hw hP hD hS => ?_)
  obtain ⟨km_, Mn, hms, hM2⟩ := hw
  refine W.widen (k := kc + 1) (n := ks + 6) (Nat.le_refl _) (Nat.le_refl _) ?_
  refine lv_goto (tgt := 2150) hx hb dL_law_1960 (by decide) ?_
  have hP : va_P D vwCl ((no, .inl (cy 2, 1, .inr (.inl g))) :: (W1 ++ Wm2)) H := hP
  have hP := vP_pm hP (List.Perm.cons _ List.perm_append_comm)
  have hD := vD_pm hD (List.Perm.cons _ List.perm_append_comm)
  exact W.widen (k := kc + 1) (n := ks + 6) (Nat.le_refl _) (Nat.le_refl _) (kk Sn Mn W1 Wm2 g (kc + 1) (ks + 6) H locs ls hI2 ⟨_, hM2⟩ (sm_tray hR hcs hms) (by omega) (by omega) hP hD hS (lv_sub hl [1, 2, 3, 4, 5] rfl))
set_option maxHeartbeats 4000000 in
set_option maxRecDepth 100000 in
theorem cs_42 (l : Launch) (hlt : l.stackTraces = false) {p : Program} {e : Env} {s : State} {m : MethodId} {below : List Frame} {meth : Method} {c : Code} {D : va_G} {cy : Nat → ClassId} {A : Nat → Prop} {b L : Nat} {xs : Nat → Int32} {Q : State → Prop} (hX : Ex p s m #[Value.ref b] meth c code ret 8 RL) (hE : Ew D cy A s) (hXs : va_X b L xs s s.heap) (hbl : b < s.heap.size) (hbA : ¬ A b) {nx nm no : Nat} {h : Int} {S : CSt} {M : MSt} {Wc Wm : va_W} {g : Nat → Int64} {kc ks : Nat} {i_ : Int32} {H : Heap} {locs : List Loc} {ls : Array Slot} (hI : IC cy nx S Wc) (hM : IMo cy nm h M Wm) (hR : RSM S M) (hlo : 999 ≤ h) (hhi : h + 2000 ≤ 1000000) (hkc : (kc : Int) + 2 * S.1.1.toInt ≤ 500000) (hks : (ks : Int) + 471 * S.1.1.toInt ≤ 7000000) (hi : 0 ≤ i_.toInt ∧ i_.toInt + 7 ≤ L ∧ L ≤ 3584) (hP : va_P D vwCl ((no, .inl (cy 2, 1, .inr (.inl g))) :: (Wm ++ Wc)) H) (hD : va_D A ((no, .inl (cy 2, 1, .inr (.inl g))) :: (Wm ++ Wc))) (hS : va_S A s.heap H locs) (hl : lv_has ls 8 [(4, .int i_), (3, .ref no), (2, .ref nm), (1, .ref nx), (0, .ref b)]) (kk : ∀ (S2 : CSt) (M2 : MSt) (W2 Wm2 : va_W) (g2 : Nat → Int64) (kc2 ks2 : Nat) (H : Heap) (locs : List Loc) (ls : Array Slot), IC cy nx S2 W2 → IMo cy nm (h + 900) M2 Wm2 → RSM S2 M2 → (kc2 : Int) + 2 * S2.1.1.toInt ≤ kc + 2 * S.1.1.toInt + 200 → (ks2 : Int) + 471 * S2.1.1.toInt ≤ ks + 471 * S.1.1.toInt + 9420 → va_P D vwCl ((no, .inl (cy 2, 1, .inr (.inl g2))) :: (Wm2 ++ W2)) H → va_D A ((no, .inl (cy 2, 1, .inr (.inl g2))) :: (Wm2 ++ W2)) → va_S A s.heap H locs → lv_has ls 8 [(4, .int i_), (3, .ref no), (2, .ref nm), (1, .ref nx), (0, .ref b)] → W p l e room_1 s m #[Value.ref b] below meth c H locs kc2 ks2 Q (F0 m 2150 ls [])) : W p l e room_1 s m #[Value.ref b] below meth c H locs kc ks Q (F0 m 1963 ls []) := by
  obtain ⟨hx, hb, hr, hml, hown, htA, hlk⟩ := id hX
  have hK := hE.1
  have hT0 := IC_T hI
  refine lv_aload_n hx hb dL_law_1963 rfl (lv_at hl 3 rfl) ?_
  refine lv_aload_n hx hb dL_law_1964 rfl (lv_at hl 4 rfl) ?_
  refine lv_iload hx hb dL_law_1965 (lv_at hl 0 rfl) ?_
  refine lv_iconst (v := 1) hx hb dL_law_1967 (by decide) ?_
  refine lv_iadd hx hb dL_law_1968 ?_
  refine va_sld hx hb hXs hbl hbA hS (lwi 1 hi) dL_law_1969 ?_
  refine lv_aload_n hx hb dL_law_1970 rfl (lv_at hl 4 rfl) ?_
  refine lv_iload hx hb dL_law_1971 (lv_at hl 0 rfl) ?_
  refine lv_iconst (v := 2) hx hb dL_law_1973 (by decide) ?_
  refine lv_iadd hx hb dL_law_1974 ?_
  refine va_sld hx hb hXs hbl hbA hS (lwi 2 hi) dL_law_1975 ?_
  refine lv_aload_n hx hb dL_law_1976 rfl (lv_at hl 4 rfl) ?_
  refine lv_iload hx hb dL_law_1977 (lv_at hl 0 rfl) ?_
  refine lv_iconst (v := 3) hx hb dL_law_1979 (by decide) ?_
  refine lv_iadd hx hb dL_law_1980 ?_
  refine va_sld hx hb hXs hbl hbA hS (lwi 3 hi) dL_law_1981 ?_
  refine lv_i2l hx hb dL_law_1982 rfl ?_
  refine lv_bipush (v := 32) hx hb dL_law_1983 (by decide) ?_
  refine lv_lshl hx hb dL_law_1985 rfl ?_
  refine lv_aload_n hx hb dL_law_1986 rfl (lv_at hl 4 rfl) ?_
  refine lv_iload hx hb dL_law_1987 (lv_at hl 0 rfl) ?_
  refine lv_iconst (v := 4) hx hb dL_law_1989 (by decide) ?_
  refine lv_iadd hx hb dL_law_1990 ?_
  refine va_sld hx hb hXs hbl hbA hS (lwi 4 hi) dL_law_1991 ?_
  refine lv_i2l hx hb dL_law_1992 rfl ?_
  refine lv_ldc2 hx hb hown (htA _ wd_2067) dL_law_1993 ?_
  refine lv_land hx hb dL_law_1996 ?_
  refine lv_lor hx hb dL_law_1997 ?_
  refine lv_aload_n hx hb dL_law_1998 rfl (lv_at hl 1 rfl) ?_
  have hP : va_P D vwCl (Wm ++ ((no, .inl (cy 2, 1, .inr (.inl g))) :: Wc)) H := vP_pm hP List.perm_middle.symm
  have hD : va_D A (Wm ++ ((no, .inl (cy 2, 1, .inr (.inl g))) :: Wc)) := vD_pm hD List.perm_middle.symm
  refine kHi (As := [.ref nx, .int (xs (i_ + 1).toNatClampNeg), .int (xs (i_ + 2).toNatClampNeg), .long ((((xs (i_ + 3).toNatClampNeg).toInt64) <<< ((32 : Int32).toInt64 &&& 63)) ||| (((xs (i_ + 4).toNatClampNeg).toInt64) &&& 4294967295)), .ref no]) (rest := []) (wr := Wm) hX hE (H_write l hlt D cy nx S Wc no g (xs (i_ + 1).toNatClampNeg) (xs (i_ + 2).toNatClampNeg) ((((xs (i_ + 3).toNatClampNeg).toInt64) <<< ((32 : Int32).toInt64 &&& 63)) ||| (((xs (i_ + 4).toNatClampNeg).toInt64) &&& 4294967295)) hI) (cwHA 5 htA wd_1271 wd_1269 wd_0 wd_1270 (by decide +kernel) ⟨by decide, by decide⟩) hP hD hS (apR Wm ((no, .inl (cy 2, 1, .inr (.inl g))) :: Wc)) (List.range Wm.length) (ap_R Wm ((no, .inl (cy 2, 1, .inr (.inl g))) :: Wc)) (ap_C Wm ((no, .inl (cy 2, 1, .inr (.inl g))) :: Wc)) (ap_nd Wm ((no, .inl (cy 2, 1, .inr (.inl g))) :: Wc)) rfl hl.1 rfl (Nat.le_of_ble_eq_true rfl) dL_law_1999 ⟨rmC (by dsimp only; omega), rmS (by dsimp only; omega)⟩ (fun rc_ W1 H locs hw hP hD hS => ?_)
  refine W.widen (k := kc + 2) (n := ks + 12) (Nat.le_refl _) (Nat.le_refl _) ?_
  obtain ⟨g2, W2, Sn, hcs, hT2, hI2, rfl⟩ := hw
  have hP := vP_pm hP List.perm_middle
  have hD := vD_pm hD List.perm_middle
  refine lv_istore (lv' := [(5, .int rc_), (4, .int i_), (3, .ref no), (2, .ref nm), (1, .ref nx), (0, .ref b)]) hx hb dL_law_2002 hl (by decide) rfl (fun ls hl => ?_)
  refine lv_aload_n hx hb dL_law_2004 rfl (lv_at hl 3 rfl) ?_
  refine lv_aload_n hx hb dL_law_2005 rfl (lv_at hl 5 rfl) ?_
  refine lv_iload hx hb dL_law_2006 (lv_at hl 1 rfl) ?_
  refine lv_iconst (v := 1) hx hb dL_law_2008 (by decide) ?_
  refine lv_iadd hx hb dL_law_2009 ?_
  refine va_sld hx hb hXs hbl hbA hS (lwi 1 hi) dL_law_2010 ?_
  refine lv_aload_n hx hb dL_law_2011 rfl (lv_at hl 5 rfl) ?_
  refine lv_iload hx hb dL_law_2012 (lv_at hl 1 rfl) ?_
  refine lv_iconst (v := 2) hx hb dL_law_2014 (by decide) ?_
  refine lv_iadd hx hb dL_law_2015 ?_
  refine va_sld hx hb hXs hbl hbA hS (lwi 2 hi) dL_law_2016 ?_
  refine lv_aload_n hx hb dL_law_2017 rfl (lv_at hl 5 rfl) ?_
  refine lv_iload hx hb dL_law_2018 (lv_at hl 1 rfl) ?_
  refine lv_iconst (v := 3) hx hb dL_law_2020 (by decide) ?_
  refine lv_iadd hx hb dL_law_2021 ?_
  refine va_sld hx hb hXs hbl hbA hS (lwi 3 hi) dL_law_2022 ?_
  refine lv_i2l hx hb dL_law_2023 rfl ?_
  refine lv_bipush (v := 32) hx hb dL_law_2024 (by decide) ?_
  refine lv_lshl hx hb dL_law_2026 rfl ?_
  refine lv_aload_n hx hb dL_law_2027 rfl (lv_at hl 5 rfl) ?_
  refine lv_iload hx hb dL_law_2028 (lv_at hl 1 rfl) ?_
  refine lv_iconst (v := 4) hx hb dL_law_2030 (by decide) ?_
  refine lv_iadd hx hb dL_law_2031 ?_
  refine va_sld hx hb hXs hbl hbA hS (lwi 4 hi) dL_law_2032 ?_
  refine lv_i2l hx hb dL_law_2033 rfl ?_
  refine lv_ldc2 hx hb hown (htA _ wd_2067) dL_law_2034 ?_
  refine lv_land hx hb dL_law_2037 ?_
  refine lv_lor hx hb dL_law_2038 ?_
  have hP : va_P D vwCl (((no, .inl (cy 2, 1, .inr (.inl g2))) :: W2) ++ Wm) H := vP_pm hP (List.Perm.cons _ List.perm_append_comm)
  have hD : va_D A (((no, .inl (cy 2, 1, .inr (.inl g2))) :: W2) ++ Wm) := vD_pm hD (List.Perm.cons _ List.perm_append_comm)
  obtain ⟨qM_, fM_, hqM⟩ := IMo_at hM
  refine kVl (As := [.int (xs (i_ + 1).toNatClampNeg), .int (xs (i_ + 2).toNatClampNeg), .long ((((xs (i_ + 3).toNatClampNeg).toInt64) <<< ((32 : Int32).toInt64 &&& 63)) ||| (((xs (i_ + 4).toNatClampNeg).toInt64) &&& 4294967295))]) (rest := []) (wr := ((no, .inl (cy 2, 1, .inr (.inl g2))) :: W2)) hX hE (M_write l D cy nm h M Wm (xs (i_ + 1).toNatClampNeg) (xs (i_ + 2).toNatClampNeg) ((((xs (i_ + 3).toNatClampNeg).toInt64) <<< ((32 : Int32).toInt64 &&& 63)) ||| (((xs (i_ + 4).toNatClampNeg).toInt64) &&& 4294967295)) hM hlo (by omega)) (cwVA 3 htA wd_2042 wd_2039 wd_10 wd_2040 wd_2041 (by decide +kernel) ⟨by decide, by decide⟩) hP hD hS (apR ((no, .inl (cy 2, 1, .inr (.inl g2))) :: W2) Wm) (List.range ((no, .inl (cy 2, 1, .inr (.inl g2))) :: W2).length) (ap_R ((no, .inl (cy 2, 1, .inr (.inl g2))) :: W2) Wm) (ap_C ((no, .inl (cy 2, 1, .inr (.inl g2))) :: W2) Wm) (ap_nd ((no, .inl (cy 2, 1, .inr (.inl g2))) :: W2) Wm) qM_ hqM rfl rfl rfl hl.1 rfl (Nat.le_of_ble_eq_true rfl) dL_law_2039 ⟨rmC (by dsimp only; omega), rmS (by dsimp only; omega)⟩ (fun rr_ Wm2 H locs hw hP hD hS => ?_)
  obtain ⟨km_, Mn, hms, hM2⟩ := hw
  refine W.widen (k := kc + 2) (n := ks + 12) (Nat.le_refl _) (Nat.le_refl _) ?_
  refine lv_lstore (lv' := [(6, .long rr_), (5, .int rc_), (4, .int i_), (3, .ref no), (2, .ref nm), (1, .ref nx), (0, .ref b)]) hx hb dL_law_2042 hl (by decide) rfl (fun ls hl => ?_)
  refine lv_goto (tgt := 2150) hx hb dL_law_2044 (by decide) ?_
  have hP : va_P D vwCl ((no, .inl (cy 2, 1, .inr (.inl g2))) :: (W2 ++ Wm2)) H := hP
  have hP := vP_pm hP (List.Perm.cons _ List.perm_append_comm)
  have hD := vD_pm hD (List.Perm.cons _ List.perm_append_comm)
  exact W.widen (k := kc + 2) (n := ks + 12) (Nat.le_refl _) (Nat.le_refl _) (kk Sn Mn W2 Wm2 g2 (kc + 2) (ks + 12) H locs ls hI2 ⟨_, hM2⟩ (sm_write hR hcs hms) (by omega) (by omega) hP hD hS (lv_sub hl [2, 3, 4, 5, 6] rfl))
set_option maxHeartbeats 4000000 in
set_option maxRecDepth 100000 in
theorem cs_43 (l : Launch) (hlt : l.stackTraces = false) {p : Program} {e : Env} {s : State} {m : MethodId} {below : List Frame} {meth : Method} {c : Code} {D : va_G} {cy : Nat → ClassId} {A : Nat → Prop} {b L : Nat} {xs : Nat → Int32} {Q : State → Prop} (hX : Ex p s m #[Value.ref b] meth c code ret 8 RL) (hE : Ew D cy A s) (hXs : va_X b L xs s s.heap) (hbl : b < s.heap.size) (hbA : ¬ A b) {nx nm no : Nat} {h : Int} {S : CSt} {M : MSt} {Wc Wm : va_W} {g : Nat → Int64} {kc ks : Nat} {i_ : Int32} {H : Heap} {locs : List Loc} {ls : Array Slot} (hI : IC cy nx S Wc) (hM : IMo cy nm h M Wm) (hR : RSM S M) (hlo : 999 ≤ h) (hhi : h + 2000 ≤ 1000000) (hkc : (kc : Int) + 2 * S.1.1.toInt ≤ 500000) (hks : (ks : Int) + 471 * S.1.1.toInt ≤ 7000000) (hi : 0 ≤ i_.toInt ∧ i_.toInt + 7 ≤ L ∧ L ≤ 3584) (hP : va_P D vwCl ((no, .inl (cy 2, 1, .inr (.inl g))) :: (Wm ++ Wc)) H) (hD : va_D A ((no, .inl (cy 2, 1, .inr (.inl g))) :: (Wm ++ Wc))) (hS : va_S A s.heap H locs) (hl : lv_has ls 8 [(4, .int i_), (3, .ref no), (2, .ref nm), (1, .ref nx), (0, .ref b)]) (kk : ∀ (S2 : CSt) (M2 : MSt) (W2 Wm2 : va_W) (g2 : Nat → Int64) (kc2 ks2 : Nat) (H : Heap) (locs : List Loc) (ls : Array Slot), IC cy nx S2 W2 → IMo cy nm (h + 900) M2 Wm2 → RSM S2 M2 → (kc2 : Int) + 2 * S2.1.1.toInt ≤ kc + 2 * S.1.1.toInt + 200 → (ks2 : Int) + 471 * S2.1.1.toInt ≤ ks + 471 * S.1.1.toInt + 9420 → va_P D vwCl ((no, .inl (cy 2, 1, .inr (.inl g2))) :: (Wm2 ++ W2)) H → va_D A ((no, .inl (cy 2, 1, .inr (.inl g2))) :: (Wm2 ++ W2)) → va_S A s.heap H locs → lv_has ls 8 [(4, .int i_), (3, .ref no), (2, .ref nm), (1, .ref nx), (0, .ref b)] → W p l e room_1 s m #[Value.ref b] below meth c H locs kc2 ks2 Q (F0 m 2150 ls [])) : W p l e room_1 s m #[Value.ref b] below meth c H locs kc ks Q (F0 m 2047 ls []) := by
  obtain ⟨hx, hb, hr, hml, hown, htA, hlk⟩ := id hX
  have hK := hE.1
  have hT0 := IC_T hI
  refine lv_aload_n hx hb dL_law_2047 rfl (lv_at hl 3 rfl) ?_
  refine lv_aload_n hx hb dL_law_2048 rfl (lv_at hl 4 rfl) ?_
  refine lv_iload hx hb dL_law_2049 (lv_at hl 0 rfl) ?_
  refine lv_iconst (v := 1) hx hb dL_law_2051 (by decide) ?_
  refine lv_iadd hx hb dL_law_2052 ?_
  refine va_sld hx hb hXs hbl hbA hS (lwi 1 hi) dL_law_2053 ?_
  refine lv_aload_n hx hb dL_law_2054 rfl (lv_at hl 1 rfl) ?_
  have hP : va_P D vwCl (Wm ++ ((no, .inl (cy 2, 1, .inr (.inl g))) :: Wc)) H := vP_pm hP List.perm_middle.symm
  have hD : va_D A (Wm ++ ((no, .inl (cy 2, 1, .inr (.inl g))) :: Wc)) := vD_pm hD List.perm_middle.symm
  refine kHi (As := [.ref nx, .int (xs (i_ + 1).toNatClampNeg), .ref no]) (rest := []) (wr := Wm) hX hE (H_copy l hlt D cy nx S Wc no g (xs (i_ + 1).toNatClampNeg) hI) (cwHA 3 htA wd_1302 wd_1300 wd_0 wd_1301 (by decide +kernel) ⟨by decide, by decide⟩) hP hD hS (apR Wm ((no, .inl (cy 2, 1, .inr (.inl g))) :: Wc)) (List.range Wm.length) (ap_R Wm ((no, .inl (cy 2, 1, .inr (.inl g))) :: Wc)) (ap_C Wm ((no, .inl (cy 2, 1, .inr (.inl g))) :: Wc)) (ap_nd Wm ((no, .inl (cy 2, 1, .inr (.inl g))) :: Wc)) rfl hl.1 rfl (Nat.le_of_ble_eq_true rfl) dL_law_2055 ⟨rmC (by dsimp only; omega), rmS (by dsimp only; omega)⟩ (fun rc_ W1 H locs hw hP hD hS => ?_)
  refine W.widen (k := kc + 1) (n := ks + 6) (Nat.le_refl _) (Nat.le_refl _) ?_
  obtain ⟨g2, W2, Sn, hcs, hT2, hI2, rfl⟩ := hw
  have hP := vP_pm hP List.perm_middle
  have hD := vD_pm hD List.perm_middle
  refine lv_istore (lv' := [(5, .int rc_), (4, .int i_), (3, .ref no), (2, .ref nm), (1, .ref nx), (0, .ref b)]) hx hb dL_law_2058 hl (by decide) rfl (fun ls hl => ?_)
  refine lv_aload_n hx hb dL_law_2060 rfl (lv_at hl 3 rfl) ?_
  refine lv_aload_n hx hb dL_law_2061 rfl (lv_at hl 5 rfl) ?_
  refine lv_iload hx hb dL_law_2062 (lv_at hl 1 rfl) ?_
  refine lv_iconst (v := 1) hx hb dL_law_2064 (by decide) ?_
  refine lv_iadd hx hb dL_law_2065 ?_
  refine va_sld hx hb hXs hbl hbA hS (lwi 1 hi) dL_law_2066 ?_
  have hP : va_P D vwCl (((no, .inl (cy 2, 1, .inr (.inl g2))) :: W2) ++ Wm) H := vP_pm hP (List.Perm.cons _ List.perm_append_comm)
  have hD : va_D A (((no, .inl (cy 2, 1, .inr (.inl g2))) :: W2) ++ Wm) := vD_pm hD (List.Perm.cons _ List.perm_append_comm)
  obtain ⟨qM_, fM_, hqM⟩ := IMo_at hM
  refine kVi (As := [.int (xs (i_ + 1).toNatClampNeg)]) (rest := []) (wr := ((no, .inl (cy 2, 1, .inr (.inl g2))) :: W2)) hX hE (M_copy l D cy nm h M Wm (xs (i_ + 1).toNatClampNeg) hM hlo (by omega)) (cwVA 1 htA wd_2050 wd_2047 wd_10 wd_2048 wd_2049 (by decide +kernel) ⟨by decide, by decide⟩) hP hD hS (apR ((no, .inl (cy 2, 1, .inr (.inl g2))) :: W2) Wm) (List.range ((no, .inl (cy 2, 1, .inr (.inl g2))) :: W2).length) (ap_R ((no, .inl (cy 2, 1, .inr (.inl g2))) :: W2) Wm) (ap_C ((no, .inl (cy 2, 1, .inr (.inl g2))) :: W2) Wm) (ap_nd ((no, .inl (cy 2, 1, .inr (.inl g2))) :: W2) Wm) qM_ hqM rfl rfl rfl hl.1 rfl (Nat.le_of_ble_eq_true rfl) dL_law_2067 ⟨rmC (by dsimp only; omega), rmS (by dsimp only; omega)⟩ (fun rr_ Wm2 H locs hw hP hD hS => ?_)
  obtain ⟨km_, Mn, hms, hM2⟩ := hw
  refine W.widen (k := kc + 1) (n := ks + 6) (Nat.le_refl _) (Nat.le_refl _) ?_
  refine lv_istore (lv' := [(6, .int rr_), (5, .int rc_), (4, .int i_), (3, .ref no), (2, .ref nm), (1, .ref nx), (0, .ref b)]) hx hb dL_law_2070 hl (by decide) rfl (fun ls hl => ?_)
  refine lv_goto (tgt := 2150) hx hb dL_law_2072 (by decide) ?_
  have hP : va_P D vwCl ((no, .inl (cy 2, 1, .inr (.inl g2))) :: (W2 ++ Wm2)) H := hP
  have hP := vP_pm hP (List.Perm.cons _ List.perm_append_comm)
  have hD := vD_pm hD (List.Perm.cons _ List.perm_append_comm)
  exact W.widen (k := kc + 1) (n := ks + 6) (Nat.le_refl _) (Nat.le_refl _) (kk Sn Mn W2 Wm2 g2 (kc + 1) (ks + 6) H locs ls hI2 ⟨_, hM2⟩ (sm_copy hR hcs hms) (by omega) (by omega) hP hD hS (lv_sub hl [2, 3, 4, 5, 6] rfl))
set_option maxHeartbeats 4000000 in
set_option maxRecDepth 100000 in
theorem cs_44 (l : Launch) (hlt : l.stackTraces = false) {p : Program} {e : Env} {s : State} {m : MethodId} {below : List Frame} {meth : Method} {c : Code} {D : va_G} {cy : Nat → ClassId} {A : Nat → Prop} {b L : Nat} {xs : Nat → Int32} {Q : State → Prop} (hX : Ex p s m #[Value.ref b] meth c code ret 8 RL) (hE : Ew D cy A s) (hXs : va_X b L xs s s.heap) (hbl : b < s.heap.size) (hbA : ¬ A b) {nx nm no : Nat} {h : Int} {S : CSt} {M : MSt} {Wc Wm : va_W} {g : Nat → Int64} {kc ks : Nat} {i_ : Int32} {H : Heap} {locs : List Loc} {ls : Array Slot} (hI : IC cy nx S Wc) (hM : IMo cy nm h M Wm) (hR : RSM S M) (hlo : 999 ≤ h) (hhi : h + 2000 ≤ 1000000) (hkc : (kc : Int) + 2 * S.1.1.toInt ≤ 500000) (hks : (ks : Int) + 471 * S.1.1.toInt ≤ 7000000) (hi : 0 ≤ i_.toInt ∧ i_.toInt + 7 ≤ L ∧ L ≤ 3584) (hP : va_P D vwCl ((no, .inl (cy 2, 1, .inr (.inl g))) :: (Wm ++ Wc)) H) (hD : va_D A ((no, .inl (cy 2, 1, .inr (.inl g))) :: (Wm ++ Wc))) (hS : va_S A s.heap H locs) (hl : lv_has ls 8 [(4, .int i_), (3, .ref no), (2, .ref nm), (1, .ref nx), (0, .ref b)]) (kk : ∀ (S2 : CSt) (M2 : MSt) (W2 Wm2 : va_W) (g2 : Nat → Int64) (kc2 ks2 : Nat) (H : Heap) (locs : List Loc) (ls : Array Slot), IC cy nx S2 W2 → IMo cy nm (h + 900) M2 Wm2 → RSM S2 M2 → (kc2 : Int) + 2 * S2.1.1.toInt ≤ kc + 2 * S.1.1.toInt + 200 → (ks2 : Int) + 471 * S2.1.1.toInt ≤ ks + 471 * S.1.1.toInt + 9420 → va_P D vwCl ((no, .inl (cy 2, 1, .inr (.inl g2))) :: (Wm2 ++ W2)) H → va_D A ((no, .inl (cy 2, 1, .inr (.inl g2))) :: (Wm2 ++ W2)) → va_S A s.heap H locs → lv_has ls 8 [(4, .int i_), (3, .ref no), (2, .ref nm), (1, .ref nx), (0, .ref b)] → W p l e room_1 s m #[Value.ref b] below meth c H locs kc2 ks2 Q (F0 m 2150 ls [])) : W p l e room_1 s m #[Value.ref b] below meth c H locs kc ks Q (F0 m 2075 ls []) := by
  obtain ⟨hx, hb, hr, hml, hown, htA, hlk⟩ := id hX
  have hK := hE.1
  have hT0 := IC_T hI
  refine lv_aload_n hx hb dL_law_2075 rfl (lv_at hl 3 rfl) ?_
  refine lv_aload_n hx hb dL_law_2076 rfl (lv_at hl 4 rfl) ?_
  refine lv_iload hx hb dL_law_2077 (lv_at hl 0 rfl) ?_
  refine lv_iconst (v := 1) hx hb dL_law_2079 (by decide) ?_
  refine lv_iadd hx hb dL_law_2080 ?_
  refine va_sld hx hb hXs hbl hbA hS (lwi 1 hi) dL_law_2081 ?_
  have hP : va_P D vwCl (((no, .inl (cy 2, 1, .inr (.inl g))) :: Wm) ++ Wc) H := hP
  have hD : va_D A (((no, .inl (cy 2, 1, .inr (.inl g))) :: Wm) ++ Wc) := hD
  refine kHi (As := [.ref nx, .int (xs (i_ + 1).toNatClampNeg)]) (rest := []) (wr := ((no, .inl (cy 2, 1, .inr (.inl g))) :: Wm)) hX hE (H_image l hlt D cy nx S Wc (xs (i_ + 1).toNatClampNeg) hI) (cwHA 2 htA wd_1309 wd_1307 wd_0 wd_1308 (by decide +kernel) ⟨by decide, by decide⟩) hP hD hS (apR ((no, .inl (cy 2, 1, .inr (.inl g))) :: Wm) Wc) (List.range ((no, .inl (cy 2, 1, .inr (.inl g))) :: Wm).length) (ap_R ((no, .inl (cy 2, 1, .inr (.inl g))) :: Wm) Wc) (ap_C ((no, .inl (cy 2, 1, .inr (.inl g))) :: Wm) Wc) (ap_nd ((no, .inl (cy 2, 1, .inr (.inl g))) :: Wm) Wc) rfl hl.1 rfl (Nat.le_of_ble_eq_true rfl) dL_law_2082 ⟨rmC (by dsimp only; omega), rmS (by dsimp only; omega)⟩ (fun rc_ W1 H locs hw hP hD hS => ?_)
  refine W.widen (k := kc + 70) (n := ks + 505) (Nat.le_refl _) (Nat.le_refl _) ?_
  obtain ⟨Sn, hcs, hT2, hI2⟩ := hw
  refine lv_istore (lv' := [(5, .int rc_), (4, .int i_), (3, .ref no), (2, .ref nm), (1, .ref nx), (0, .ref b)]) hx hb dL_law_2085 hl (by decide) rfl (fun ls hl => ?_)
  refine lv_aload_n hx hb dL_law_2087 rfl (lv_at hl 3 rfl) ?_
  refine lv_aload_n hx hb dL_law_2088 rfl (lv_at hl 5 rfl) ?_
  refine lv_iload hx hb dL_law_2089 (lv_at hl 1 rfl) ?_
  refine lv_iconst (v := 1) hx hb dL_law_2091 (by decide) ?_
  refine lv_iadd hx hb dL_law_2092 ?_
  refine va_sld hx hb hXs hbl hbA hS (lwi 1 hi) dL_law_2093 ?_
  have hP : va_P D vwCl (((no, .inl (cy 2, 1, .inr (.inl g))) :: W1) ++ Wm) H := vP_pm hP (List.Perm.cons _ List.perm_append_comm)
  have hD : va_D A (((no, .inl (cy 2, 1, .inr (.inl g))) :: W1) ++ Wm) := vD_pm hD (List.Perm.cons _ List.perm_append_comm)
  obtain ⟨qM_, fM_, hqM⟩ := IMo_at hM
  refine kVv (As := [.int (xs (i_ + 1).toNatClampNeg)]) (rest := []) (wr := ((no, .inl (cy 2, 1, .inr (.inl g))) :: W1)) hX hE (M_image l D cy nm h M Wm (xs (i_ + 1).toNatClampNeg) hM hlo (by omega)) (cwVA 1 htA wd_2054 wd_2051 wd_10 wd_2052 wd_2053 (by decide +kernel) ⟨by decide, by decide⟩) hP hD hS (apR ((no, .inl (cy 2, 1, .inr (.inl g))) :: W1) Wm) (List.range ((no, .inl (cy 2, 1, .inr (.inl g))) :: W1).length) (ap_R ((no, .inl (cy 2, 1, .inr (.inl g))) :: W1) Wm) (ap_C ((no, .inl (cy 2, 1, .inr (.inl g))) :: W1) Wm) (ap_nd ((no, .inl (cy 2, 1, .inr (.inl g))) :: W1) Wm) qM_ hqM rfl rfl rfl hl.1 rfl (Nat.le_of_ble_eq_true rfl) dL_law_2094 ⟨rmC (by dsimp only; omega), rmS (by dsimp only; omega)⟩ (fun Wm2 H locs hw hP hD hS => ?_)
  obtain ⟨km_, Mn, hms, hM2⟩ := hw
  refine W.widen (k := kc + 70) (n := ks + 505) (Nat.le_refl _) (Nat.le_refl _) ?_
  refine lv_goto (tgt := 2150) hx hb dL_law_2097 (by decide) ?_
  have hP : va_P D vwCl ((no, .inl (cy 2, 1, .inr (.inl g))) :: (W1 ++ Wm2)) H := hP
  have hP := vP_pm hP (List.Perm.cons _ List.perm_append_comm)
  have hD := vD_pm hD (List.Perm.cons _ List.perm_append_comm)
  exact W.widen (k := kc + 70) (n := ks + 505) (Nat.le_refl _) (Nat.le_refl _) (kk Sn Mn W1 Wm2 g (kc + 70) (ks + 505) H locs ls hI2 ⟨_, hM2⟩ (sm_image hR hcs hms) (by omega) (by omega) hP hD hS (lv_sub hl [1, 2, 3, 4, 5] rfl))
set_option maxHeartbeats 4000000 in
set_option maxRecDepth 100000 in
theorem cs_45 (l : Launch) (hlt : l.stackTraces = false) {p : Program} {e : Env} {s : State} {m : MethodId} {below : List Frame} {meth : Method} {c : Code} {D : va_G} {cy : Nat → ClassId} {A : Nat → Prop} {b L : Nat} {xs : Nat → Int32} {Q : State → Prop} (hX : Ex p s m #[Value.ref b] meth c code ret 8 RL) (hE : Ew D cy A s) (hXs : va_X b L xs s s.heap) (hbl : b < s.heap.size) (hbA : ¬ A b) {nx nm no : Nat} {h : Int} {S : CSt} {M : MSt} {Wc Wm : va_W} {g : Nat → Int64} {kc ks : Nat} {i_ : Int32} {H : Heap} {locs : List Loc} {ls : Array Slot} (hI : IC cy nx S Wc) (hM : IMo cy nm h M Wm) (hR : RSM S M) (hlo : 999 ≤ h) (hhi : h + 2000 ≤ 1000000) (hkc : (kc : Int) + 2 * S.1.1.toInt ≤ 500000) (hks : (ks : Int) + 471 * S.1.1.toInt ≤ 7000000) (hi : 0 ≤ i_.toInt ∧ i_.toInt + 7 ≤ L ∧ L ≤ 3584) (hP : va_P D vwCl ((no, .inl (cy 2, 1, .inr (.inl g))) :: (Wm ++ Wc)) H) (hD : va_D A ((no, .inl (cy 2, 1, .inr (.inl g))) :: (Wm ++ Wc))) (hS : va_S A s.heap H locs) (hl : lv_has ls 8 [(4, .int i_), (3, .ref no), (2, .ref nm), (1, .ref nx), (0, .ref b)]) (kk : ∀ (S2 : CSt) (M2 : MSt) (W2 Wm2 : va_W) (g2 : Nat → Int64) (kc2 ks2 : Nat) (H : Heap) (locs : List Loc) (ls : Array Slot), IC cy nx S2 W2 → IMo cy nm (h + 900) M2 Wm2 → RSM S2 M2 → (kc2 : Int) + 2 * S2.1.1.toInt ≤ kc + 2 * S.1.1.toInt + 200 → (ks2 : Int) + 471 * S2.1.1.toInt ≤ ks + 471 * S.1.1.toInt + 9420 → va_P D vwCl ((no, .inl (cy 2, 1, .inr (.inl g2))) :: (Wm2 ++ W2)) H → va_D A ((no, .inl (cy 2, 1, .inr (.inl g2))) :: (Wm2 ++ W2)) → va_S A s.heap H locs → lv_has ls 8 [(4, .int i_), (3, .ref no), (2, .ref nm), (1, .ref nx), (0, .ref b)] → W p l e room_1 s m #[Value.ref b] below meth c H locs kc2 ks2 Q (F0 m 2150 ls [])) : W p l e room_1 s m #[Value.ref b] below meth c H locs kc ks Q (F0 m 2100 ls []) := by
  obtain ⟨hx, hb, hr, hml, hown, htA, hlk⟩ := id hX
  have hK := hE.1
  have hT0 := IC_T hI
  refine lv_aload_n hx hb dL_law_2100 rfl (lv_at hl 3 rfl) ?_
  refine lv_aload_n hx hb dL_law_2101 rfl (lv_at hl 4 rfl) ?_
  refine lv_iload hx hb dL_law_2102 (lv_at hl 0 rfl) ?_
  refine lv_iconst (v := 1) hx hb dL_law_2104 (by decide) ?_
  refine lv_iadd hx hb dL_law_2105 ?_
  refine va_sld hx hb hXs hbl hbA hS (lwi 1 hi) dL_law_2106 ?_
  have hP : va_P D vwCl (((no, .inl (cy 2, 1, .inr (.inl g))) :: Wm) ++ Wc) H := hP
  have hD : va_D A (((no, .inl (cy 2, 1, .inr (.inl g))) :: Wm) ++ Wc) := hD
  refine kHi (As := [.ref nx, .int (xs (i_ + 1).toNatClampNeg)]) (rest := []) (wr := ((no, .inl (cy 2, 1, .inr (.inl g))) :: Wm)) hX hE (H_restore l hlt D cy nx S Wc (xs (i_ + 1).toNatClampNeg) hI) (cwHA 2 htA wd_1342 wd_1340 wd_0 wd_1341 (by decide +kernel) ⟨by decide, by decide⟩) hP hD hS (apR ((no, .inl (cy 2, 1, .inr (.inl g))) :: Wm) Wc) (List.range ((no, .inl (cy 2, 1, .inr (.inl g))) :: Wm).length) (ap_R ((no, .inl (cy 2, 1, .inr (.inl g))) :: Wm) Wc) (ap_C ((no, .inl (cy 2, 1, .inr (.inl g))) :: Wm) Wc) (ap_nd ((no, .inl (cy 2, 1, .inr (.inl g))) :: Wm) Wc) rfl hl.1 rfl (Nat.le_of_ble_eq_true rfl) dL_law_2107 ⟨rmC (by dsimp only; omega), rmS (by dsimp only; omega)⟩ (fun rc_ W1 H locs hw hP hD hS => ?_)
  refine W.widen (k := kc + 2) (n := ks + 12) (Nat.le_refl _) (Nat.le_refl _) ?_
  obtain ⟨Sn, hcs, hT2, hI2⟩ := hw
  refine lv_istore (lv' := [(5, .int rc_), (4, .int i_), (3, .ref no), (2, .ref nm), (1, .ref nx), (0, .ref b)]) hx hb dL_law_2110 hl (by decide) rfl (fun ls hl => ?_)
  refine lv_aload_n hx hb dL_law_2112 rfl (lv_at hl 3 rfl) ?_
  refine lv_aload_n hx hb dL_law_2113 rfl (lv_at hl 5 rfl) ?_
  refine lv_iload hx hb dL_law_2114 (lv_at hl 1 rfl) ?_
  refine lv_iconst (v := 1) hx hb dL_law_2116 (by decide) ?_
  refine lv_iadd hx hb dL_law_2117 ?_
  refine va_sld hx hb hXs hbl hbA hS (lwi 1 hi) dL_law_2118 ?_
  have hP : va_P D vwCl (((no, .inl (cy 2, 1, .inr (.inl g))) :: W1) ++ Wm) H := vP_pm hP (List.Perm.cons _ List.perm_append_comm)
  have hD : va_D A (((no, .inl (cy 2, 1, .inr (.inl g))) :: W1) ++ Wm) := vD_pm hD (List.Perm.cons _ List.perm_append_comm)
  obtain ⟨qM_, fM_, hqM⟩ := IMo_at hM
  refine kVv (As := [.int (xs (i_ + 1).toNatClampNeg)]) (rest := []) (wr := ((no, .inl (cy 2, 1, .inr (.inl g))) :: W1)) hX hE (M_restore l D cy nm h M Wm (xs (i_ + 1).toNatClampNeg) hM hlo (by omega)) (cwVA 1 htA wd_2058 wd_2055 wd_10 wd_2056 wd_2057 (by decide +kernel) ⟨by decide, by decide⟩) hP hD hS (apR ((no, .inl (cy 2, 1, .inr (.inl g))) :: W1) Wm) (List.range ((no, .inl (cy 2, 1, .inr (.inl g))) :: W1).length) (ap_R ((no, .inl (cy 2, 1, .inr (.inl g))) :: W1) Wm) (ap_C ((no, .inl (cy 2, 1, .inr (.inl g))) :: W1) Wm) (ap_nd ((no, .inl (cy 2, 1, .inr (.inl g))) :: W1) Wm) qM_ hqM rfl rfl rfl hl.1 rfl (Nat.le_of_ble_eq_true rfl) dL_law_2119 ⟨rmC (by dsimp only; omega), rmS (by dsimp only; omega)⟩ (fun Wm2 H locs hw hP hD hS => ?_)
  obtain ⟨km_, Mn, hms, hM2⟩ := hw
  refine W.widen (k := kc + 2) (n := ks + 12) (Nat.le_refl _) (Nat.le_refl _) ?_
  refine lv_goto (tgt := 2150) hx hb dL_law_2122 (by decide) ?_
  have hP : va_P D vwCl ((no, .inl (cy 2, 1, .inr (.inl g))) :: (W1 ++ Wm2)) H := hP
  have hP := vP_pm hP (List.Perm.cons _ List.perm_append_comm)
  have hD := vD_pm hD (List.Perm.cons _ List.perm_append_comm)
  exact W.widen (k := kc + 2) (n := ks + 12) (Nat.le_refl _) (Nat.le_refl _) (kk Sn Mn W1 Wm2 g (kc + 2) (ks + 12) H locs ls hI2 ⟨_, hM2⟩ (sm_restore hR hcs hms) (by omega) (by omega) hP hD hS (lv_sub hl [1, 2, 3, 4, 5] rfl))
set_option maxHeartbeats 4000000 in
set_option maxRecDepth 100000 in
theorem cs_46 (l : Launch) (hlt : l.stackTraces = false) {p : Program} {e : Env} {s : State} {m : MethodId} {below : List Frame} {meth : Method} {c : Code} {D : va_G} {cy : Nat → ClassId} {A : Nat → Prop} {b L : Nat} {xs : Nat → Int32} {Q : State → Prop} (hX : Ex p s m #[Value.ref b] meth c code ret 8 RL) (hE : Ew D cy A s) (hXs : va_X b L xs s s.heap) (hbl : b < s.heap.size) (hbA : ¬ A b) {nx nm no : Nat} {h : Int} {S : CSt} {M : MSt} {Wc Wm : va_W} {g : Nat → Int64} {kc ks : Nat} {i_ : Int32} {H : Heap} {locs : List Loc} {ls : Array Slot} (hI : IC cy nx S Wc) (hM : IMo cy nm h M Wm) (hR : RSM S M) (hlo : 999 ≤ h) (hhi : h + 2000 ≤ 1000000) (hkc : (kc : Int) + 2 * S.1.1.toInt ≤ 500000) (hks : (ks : Int) + 471 * S.1.1.toInt ≤ 7000000) (hi : 0 ≤ i_.toInt ∧ i_.toInt + 7 ≤ L ∧ L ≤ 3584) (hP : va_P D vwCl ((no, .inl (cy 2, 1, .inr (.inl g))) :: (Wm ++ Wc)) H) (hD : va_D A ((no, .inl (cy 2, 1, .inr (.inl g))) :: (Wm ++ Wc))) (hS : va_S A s.heap H locs) (hl : lv_has ls 8 [(4, .int i_), (3, .ref no), (2, .ref nm), (1, .ref nx), (0, .ref b)]) (kk : ∀ (S2 : CSt) (M2 : MSt) (W2 Wm2 : va_W) (g2 : Nat → Int64) (kc2 ks2 : Nat) (H : Heap) (locs : List Loc) (ls : Array Slot), IC cy nx S2 W2 → IMo cy nm (h + 900) M2 Wm2 → RSM S2 M2 → (kc2 : Int) + 2 * S2.1.1.toInt ≤ kc + 2 * S.1.1.toInt + 200 → (ks2 : Int) + 471 * S2.1.1.toInt ≤ ks + 471 * S.1.1.toInt + 9420 → va_P D vwCl ((no, .inl (cy 2, 1, .inr (.inl g2))) :: (Wm2 ++ W2)) H → va_D A ((no, .inl (cy 2, 1, .inr (.inl g2))) :: (Wm2 ++ W2)) → va_S A s.heap H locs → lv_has ls 8 [(4, .int i_), (3, .ref no), (2, .ref nm), (1, .ref nx), (0, .ref b)] → W p l e room_1 s m #[Value.ref b] below meth c H locs kc2 ks2 Q (F0 m 2150 ls [])) : W p l e room_1 s m #[Value.ref b] below meth c H locs kc ks Q (F0 m 2125 ls []) := by
  obtain ⟨hx, hb, hr, hml, hown, htA, hlk⟩ := id hX
  have hK := hE.1
  have hT0 := IC_T hI
  refine lv_aload_n hx hb dL_law_2125 rfl (lv_at hl 3 rfl) ?_
  refine lv_aload_n hx hb dL_law_2126 rfl (lv_at hl 4 rfl) ?_
  refine lv_iload hx hb dL_law_2127 (lv_at hl 0 rfl) ?_
  refine lv_iconst (v := 1) hx hb dL_law_2129 (by decide) ?_
  refine lv_iadd hx hb dL_law_2130 ?_
  refine va_sld hx hb hXs hbl hbA hS (lwi 1 hi) dL_law_2131 ?_
  obtain ⟨qI_, fI_, hqI⟩ := IC_at hI
  have hP : va_P D vwCl (((no, .inl (cy 2, 1, .inr (.inl g))) :: Wm) ++ Wc) H := hP
  have hD : va_D A (((no, .inl (cy 2, 1, .inr (.inl g))) :: Wm) ++ Wc) := hD
  refine kVi (As := [.int (xs (i_ + 1).toNatClampNeg)]) (rest := []) (wr := ((no, .inl (cy 2, 1, .inr (.inl g))) :: Wm)) hX hE (I_count l D cy nx S Wc (xs (i_ + 1).toNatClampNeg) hI) (cwVA 1 htA wd_514 wd_511 wd_1 wd_512 wd_513 (by decide +kernel) ⟨by decide, by decide⟩) hP hD hS (apR ((no, .inl (cy 2, 1, .inr (.inl g))) :: Wm) Wc) (List.range ((no, .inl (cy 2, 1, .inr (.inl g))) :: Wm).length) (ap_R ((no, .inl (cy 2, 1, .inr (.inl g))) :: Wm) Wc) (ap_C ((no, .inl (cy 2, 1, .inr (.inl g))) :: Wm) Wc) (ap_nd ((no, .inl (cy 2, 1, .inr (.inl g))) :: Wm) Wc) qI_ hqI rfl rfl rfl hl.1 rfl (Nat.le_of_ble_eq_true rfl) dL_law_2132 ⟨rmC (by dsimp only; omega), rmS (by dsimp only; omega)⟩ (fun rc_ W2 H locs hw hP hD hS => ?_)
  refine W.widen (k := kc + 0) (n := ks + 0) (Nat.le_refl _) (Nat.le_refl _) ?_
  obtain ⟨Sn, hcs, hT2, hI2⟩ := hw
  refine lv_pop hx hb dL_law_2135 rfl ?_
  refine lv_aload_n hx hb dL_law_2136 rfl (lv_at hl 2 rfl) ?_
  refine lv_aload_n hx hb dL_law_2137 rfl (lv_at hl 4 rfl) ?_
  refine lv_iload hx hb dL_law_2138 (lv_at hl 0 rfl) ?_
  refine lv_iconst (v := 1) hx hb dL_law_2140 (by decide) ?_
  refine lv_iadd hx hb dL_law_2141 ?_
  refine va_sld hx hb hXs hbl hbA hS (lwi 1 hi) dL_law_2142 ?_
  have hP : va_P D vwCl (((no, .inl (cy 2, 1, .inr (.inl g))) :: W2) ++ Wm) H := vP_pm hP (List.Perm.cons _ List.perm_append_comm)
  have hD : va_D A (((no, .inl (cy 2, 1, .inr (.inl g))) :: W2) ++ Wm) := vD_pm hD (List.Perm.cons _ List.perm_append_comm)
  obtain ⟨qM_, fM_, hqM⟩ := IMo_at hM
  refine kVi (As := [.int (xs (i_ + 1).toNatClampNeg)]) (rest := []) (wr := ((no, .inl (cy 2, 1, .inr (.inl g))) :: W2)) hX hE (M_count l D cy nm h M Wm (xs (i_ + 1).toNatClampNeg) hM hlo (by omega)) (cwVA 1 htA wd_2062 wd_2059 wd_10 wd_2060 wd_2061 (by decide +kernel) ⟨by decide, by decide⟩) hP hD hS (apR ((no, .inl (cy 2, 1, .inr (.inl g))) :: W2) Wm) (List.range ((no, .inl (cy 2, 1, .inr (.inl g))) :: W2).length) (ap_R ((no, .inl (cy 2, 1, .inr (.inl g))) :: W2) Wm) (ap_C ((no, .inl (cy 2, 1, .inr (.inl g))) :: W2) Wm) (ap_nd ((no, .inl (cy 2, 1, .inr (.inl g))) :: W2) Wm) qM_ hqM rfl rfl rfl hl.1 rfl (Nat.le_of_ble_eq_true rfl) dL_law_2143 ⟨rmC (by dsimp only; omega), rmS (by dsimp only; omega)⟩ (fun rr_ Wm2 H locs hw hP hD hS => ?_)
  obtain ⟨km_, Mn, hms, hM2⟩ := hw
  refine W.widen (k := kc + 0) (n := ks + 0) (Nat.le_refl _) (Nat.le_refl _) ?_
  refine lv_pop hx hb dL_law_2146 rfl ?_
  refine lv_goto (tgt := 2150) hx hb dL_law_2147 (by decide) ?_
  have hP : va_P D vwCl ((no, .inl (cy 2, 1, .inr (.inl g))) :: (W2 ++ Wm2)) H := hP
  have hP := vP_pm hP (List.Perm.cons _ List.perm_append_comm)
  have hD := vD_pm hD (List.Perm.cons _ List.perm_append_comm)
  exact W.widen (k := kc + 0) (n := ks + 0) (Nat.le_refl _) (Nat.le_refl _) (kk Sn Mn W2 Wm2 g (kc + 0) (ks + 0) H locs ls hI2 ⟨_, hM2⟩ (sm_count hR hcs hms) (by omega) (by omega) hP hD hS (lv_sub hl [0, 1, 2, 3, 4] rfl))
