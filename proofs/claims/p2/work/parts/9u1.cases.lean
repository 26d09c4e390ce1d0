set_option maxHeartbeats 4000000 in
set_option maxRecDepth 100000 in
theorem cs_17 (l : Launch) (hlt : l.stackTraces = false) {p : Program} {e : Env} {s : State} {m : MethodId} {below : List Frame} {meth : Method} {c : Code} {D : va_G} {cy : Nat → ClassId} {A : Nat → Prop} {b L : Nat} {xs : Nat → Int32} {Q : State → Prop} (hX : Ex p s m #[Value.ref b] meth c code ret 8 RL) (hE : Ew D cy A s) (hXs : va_X b L xs s s.heap) (hbl : b < s.heap.size) (hbA : ¬ A b) {nx nm no : Nat} {h : Int} {S : CSt} {M : MSt} {Wc Wm : va_W} {g : Nat → Int64} {kc ks : Nat} {i_ : Int32} {H : Heap} {locs : List Loc} {ls : Array Slot} (hI : IC cy nx S Wc) (hM : IMo cy nm h M Wm) (hR : RSM S M) (hlo : 999 ≤ h) (hhi : h + 2000 ≤ 1000000) (hkc : (kc : Int) + 2 * S.1.1.toInt ≤ 500000) (hks : (ks : Int) + 471 * S.1.1.toInt ≤ 7000000) (hi : 0 ≤ i_.toInt ∧ i_.toInt + 7 ≤ L ∧ L ≤ 3584) (hP : va_P D vwCl ((no, .inl (cy 2, 1, .inr (.inl g))) :: (Wm ++ Wc)) H) (hD : va_D A ((no, .inl (cy 2, 1, .inr (.inl g))) :: (Wm ++ Wc))) (hS : va_S A s.heap H locs) (hl : lv_has ls 8 [(4, .int i_), (3, .ref no), (2, .ref nm), (1, .ref nx), (0, .ref b)]) (kk : ∀ (S2 : CSt) (M2 : MSt) (W2 Wm2 : va_W) (g2 : Nat → Int64) (kc2 ks2 : Nat) (H : Heap) (locs : List Loc) (ls : Array Slot), IC cy nx S2 W2 → IMo cy nm (h + 900) M2 Wm2 → RSM S2 M2 → (kc2 : Int) + 2 * S2.1.1.toInt ≤ kc + 2 * S.1.1.toInt + 200 → (ks2 : Int) + 471 * S2.1.1.toInt ≤ ks + 471 * S.1.1.toInt + 9420 → va_P D vwCl ((no, .inl (cy 2, 1, .inr (.inl g2))) :: (Wm2 ++ W2)) H → va_D A ((no, .inl (cy 2, 1, .inr (.inl g2))) :: (Wm2 ++ W2)) → va_S A s.heap H locs → lv_has ls 8 [(4, .int i_), (3, .ref no), (2, .ref nm), (1, .ref nx), (0, .ref b)] → W p l e room_1 s m #[Value.ref b] below meth c H locs kc2 ks2 Q (F0 m 2150 ls [])) : W p l e room_1 s m #[Value.ref b] below meth c H locs kc ks Q (F0 m 861 ls []) := by
  obtain ⟨hx, hb, hr, hml, hown, htA, hlk⟩ := id hX
  have hK := hE.1
  have hT0 := IC_T hI
  refine lv_aload_n hx hb dL_law_861 rfl (lv_at hl 3 rfl) ?_
  refine lv_aload_n hx hb dL_law_862 rfl (lv_at hl 4 rfl) ?_
  refine lv_iload hx hb dL_law_863 (lv_at hl 0 rfl) ?_
  refine lv_iconst (v := 1) hx hb dL_law_865 (by decide) ?_
  refine lv_iadd hx hb dL_law_866 ?_
  refine va_sld hx hb hXs hbl hbA hS (lwi 1 hi) dL_law_867 ?_
  refine lv_aload_n hx hb dL_law_868 rfl (lv_at hl 1 rfl) ?_
  have hP : va_P D vwCl (Wm ++ ((no, .inl (cy 2, 1, .inr (.inl g))) :: Wc)) H := vP_pm hP List.perm_middle.symm
  have hD : va_D A (Wm ++ ((no, .inl (cy 2, 1, .inr (.inl g))) :: Wc)) := vD_pm hD List.perm_middle.symm
  refine kHi (As := [.ref nx, .int (xs (i_ + 1).toNatClampNeg), .ref no]) (rest := []) (wr := Wm) hX hE (H_lands l hlt D cy nx S Wc no g (xs (i_ + 1).toNatClampNeg) hI) (cwHA 3 htA wd_1043 wd_1041 wd_0 wd_1042 (by decide +kernel) ⟨by decide, by decide⟩) hP hD hS (apR Wm ((no, .inl (cy 2, 1, .inr (.inl g))) :: Wc)) (List.range Wm.length) (ap_R Wm ((no, .inl (cy 2, 1, .inr (.inl g))) :: Wc)) (ap_C Wm ((no, .inl (cy 2, 1, .inr (.inl g))) :: Wc)) (ap_nd Wm ((no, .inl (cy 2, 1, .inr (.inl g))) :: Wc)) rfl hl.1 rfl (Nat.le_of_ble_eq_true rfl) dL_law_869 ⟨rmC (by dsimp only; omega), rmS (by dsimp only; omega)⟩ (fun rc_ W1 H locs hw hP hD hS => ?_)
  refine W.widen (k := kc + 1) (n := ks + 6) (Nat.le_refl _) (Nat.le_refl _) ?_
  obtain ⟨g2, W2, Sn, hcs, hT2, hI2, rfl⟩ := hw
  have hP := vP_pm hP List.perm_middle
  have hD := vD_pm hD List.perm_middle
  refine lv_istore (lv' := [(5, .int rc_), (4, .int i_), (3, .ref no), (2, .ref nm), (1, .ref nx), (0, .ref b)]) hx hb dL_law_872 hl (by decide) rfl (fun ls hl => ?_)
  refine lv_aload_n hx hb dL_law_874 rfl (lv_at hl 3 rfl) ?_
  refine lv_aload_n hx hb dL_law_875 rfl (lv_at hl 5 rfl) ?_
  refine lv_iload hx hb dL_law_876 (lv_at hl 1 rfl) ?_
  refine lv_iconst (v := 1) hx hb dL_law_878 (by decide) ?_
  refine lv_iadd hx hb dL_law_879 ?_
  refine va_sld hx hb hXs hbl hbA hS (lwi 1 hi) dL_law_880 ?_
  have hP : va_P D vwCl (((no, .inl (cy 2, 1, .inr (.inl g2))) :: W2) ++ Wm) H := vP_pm hP (List.Perm.cons _ List.perm_append_comm)
  have hD : va_D A (((no, .inl (cy 2, 1, .inr (.inl g2))) :: W2) ++ Wm) := vD_pm hD (List.Perm.cons _ List.perm_append_comm)
  obtain ⟨qM_, fM_, hqM⟩ := IMo_at hM
  refine kVi (As := [.int (xs (i_ + 1).toNatClampNeg)]) (rest := []) (wr := ((no, .inl (cy 2, 1, .inr (.inl g2))) :: W2)) hX hE (M_lands l D cy nm h M Wm (xs (i_ + 1).toNatClampNeg) hM hlo (by omega)) (cwVA 1 htA wd_1877 wd_1874 wd_10 wd_1875 wd_1876 (by decide +kernel) ⟨by decide, by decide⟩) hP hD hS (apR ((no, .inl (cy 2, 1, .inr (.inl g2))) :: W2) Wm) (List.range ((no, .inl (cy 2, 1, .inr (.inl g2))) :: W2).length) (ap_R ((no, .inl (cy 2, 1, .inr (.inl g2))) :: W2) Wm) (ap_C ((no, .inl (cy 2, 1, .inr (.inl g2))) :: W2) Wm) (ap_nd ((no, .inl (cy 2, 1, .inr (.inl g2))) :: W2) Wm) qM_ hqM rfl rfl rfl hl.1 rfl (Nat.le_of_ble_eq_true rfl) dL_law_881 ⟨rmC (by dsimp only; omega), rmS (by dsimp only; omega)⟩ (fun rr_ Wm2 H locs hw hP hD hS => ?_)
  obtain ⟨km_, Mn, hms, hM2⟩ := hw
  refine W.widen (k := kc + 1) (n := ks + 6) (Nat.le_refl _) (Nat.le_refl _) ?_
  refine lv_istore (lv' := [(6, .int rr_), (5, .int rc_), (4, .int i_), (3, .ref no), (2, .ref nm), (1, .ref nx), (0, .ref b)]) hx hb dL_law_884 hl (by decide) rfl (fun ls hl => ?_)
  refine lv_goto (tgt := 2150) hx hb dL_law_886 (by decide) ?_
  have hP : va_P D vwCl ((no, .inl (cy 2, 1, .inr (.inl g2))) :: (W2 ++ Wm2)) H := hP
  have hP := vP_pm hP (List.Perm.cons _ List.perm_append_comm)
  have hD := vD_pm hD (List.Perm.cons _ List.perm_append_comm)
  exact W.widen (k := kc + 1) (n := ks + 6) (Nat.le_refl _) (Nat.le_refl _) (kk Sn Mn W2 Wm2 g2 (kc + 1) (ks + 6) H locs ls hI2 ⟨_, hM2⟩ (sm_lands hR hcs hms) (by omega) (by omega) hP hD hS (lv_sub hl [2, 3, 4, 5, 6] rfl))
set_option maxHeartbeats 4000000 in
set_option maxRecDepth 100000 in
theorem cs_18 (l : Launch) (hlt : l.stackTraces = false) {p : Program} {e : Env} {s : State} {m : MethodId} {below : List Frame} {meth : Method} {c : Code} {D : va_G} {cy : Nat → ClassId} {A : Nat → Prop} {b L : Nat} {xs : Nat → Int32} {Q : State → Prop} (hX : Ex p s m #[Value.ref b] meth c code ret 8 RL) (hE : Ew D cy A s) (hXs : va_X b L xs s s.heap) (hbl : b < s.heap.size) (hbA : ¬ A b) {nx nm no : Nat} {h : Int} {S : CSt} {M : MSt} {Wc Wm : va_W} {g : Nat → Int64} {kc ks : Nat} {i_ : Int32} {H : Heap} {locs : List Loc} {ls : Array Slot} (hI : IC cy nx S Wc) (hM : IMo cy nm h M Wm) (hR : RSM S M) (hlo : 999 ≤ h) (hhi : h + 2000 ≤ 1000000) (hkc : (kc : Int) + 2 * S.1.1.toInt ≤ 500000) (hks : (ks : Int) + 471 * S.1.1.toInt ≤ 7000000) (hi : 0 ≤ i_.toInt ∧ i_.toInt + 7 ≤ L ∧ L ≤ 3584) (hP : va_P D vwCl ((no, .inl (cy 2, 1, .inr (.inl g))) :: (Wm ++ Wc)) H) (hD : va_D A ((no, .inl (cy 2, 1, .inr (.inl g))) :: (Wm ++ Wc))) (hS : va_S A s.heap H locs) (hl : lv_has ls 8 [(4, .int i_), (3, .ref no), (2, .ref nm), (1, .ref nx), (0, .ref b)]) (kk : ∀ (S2 : CSt) (M2 : MSt) (W2 Wm2 : va_W) (g2 : Nat → Int64) (kc2 ks2 : Nat) (H : Heap) (locs : List Loc) (ls : Array Slot), IC cy nx S2 W2 → IMo cy nm (h + 900) M2 Wm2 → RSM S2 M2 → (kc2 : Int) + 2 * S2.1.1.toInt ≤ kc + 2 * S.1.1.toInt + 200 → (ks2 : Int) + 471 * S2.1.1.toInt ≤ ks + 471 * S.1.1.toInt + 9420 → va_P D vwCl ((no, .inl (cy 2, 1, .inr (.inl g2))) :: (Wm2 ++ W2)) H → va_D A ((no, .inl (cy 2, 1, .inr (.inl g2))) :: (Wm2 ++ W2)) → va_S A s.heap H locs → lv_has ls 8 [(4, .int i_), (3, .ref no), (2, .ref nm), (1, .ref nx), (0, .ref b)] → W p l e room_1 s m #[Value.ref b] below meth c H locs kc2 ks2 Q (F0 m 2150 ls [])) : W p l e room_1 s m #[Value.ref b] below meth c H locs kc ks Q (F0 m 889 ls []) := by
  obtain ⟨hx, hb, hr, hml, hown, htA, hlk⟩ := id hX
  have hK := hE.1
  have hT0 := IC_T hI
  refine lv_aload_n hx hb dL_law_889 rfl (lv_at hl 3 rfl) ?_
  refine lv_aload_n hx hb dL_law_890 rfl (lv_at hl 4 rfl) ?_
  refine lv_iload hx hb dL_law_891 (lv_at hl 0 rfl) ?_
  refine lv_iconst (v := 1) hx hb dL_law_893 (by decide) ?_
  refine lv_iadd hx hb dL_law_894 ?_
  refine va_sld hx hb hXs hbl hbA hS (lwi 1 hi) dL_law_895 ?_
  refine lv_aload_n hx hb dL_law_896 rfl (lv_at hl 1 rfl) ?_
  have hP : va_P D vwCl (Wm ++ ((no, .inl (cy 2, 1, .inr (.inl g))) :: Wc)) H := vP_pm hP List.perm_middle.symm
  have hD : va_D A (Wm ++ ((no, .inl (cy 2, 1, .inr (.inl g))) :: Wc)) := vD_pm hD List.perm_middle.symm
  refine kHi (As := [.ref nx, .int (xs (i_ + 1).toNatClampNeg), .ref no]) (rest := []) (wr := Wm) hX hE (H_fallIn l hlt D cy nx S Wc no g (xs (i_ + 1).toNatClampNeg) hI) (cwHA 3 htA wd_1050 wd_1048 wd_0 wd_1049 (by decide +kernel) ⟨by decide, by decide⟩) hP hD hS (apR Wm ((no, .inl (cy 2, 1, .inr (.inl g))) :: Wc)) (List.range Wm.length) (ap_R Wm ((no, .inl (cy 2, 1, .inr (.inl g))) :: Wc)) (ap_C Wm ((no, .inl (cy 2, 1, .inr (.inl g))) :: Wc)) (ap_nd Wm ((no, .inl (cy 2, 1, .inr (.inl g))) :: Wc)) rfl hl.1 rfl (Nat.le_of_ble_eq_true rfl) dL_law_897 ⟨rmC (by dsimp only; omega), rmS (by dsimp only; omega)⟩ (fun rc_ W1 H locs hw hP hD hS => ?_)
  refine W.widen (k := kc + 1) (n := ks + 6) (Nat.le_refl _) (Nat.le_refl _) ?_
  obtain ⟨g2, W2, Sn, hcs, hT2, hI2, rfl⟩ := hw
  have hP := vP_pm hP List.perm_middle
  have hD := vD_pm hD List.perm_middle
  refine lv_istore (lv' := [(5, .int rc_), (4, .int i_), (3, .ref no), (2, .ref nm), (1, .ref nx), (0, .ref b)]) hx hb dL_law_900 hl (by decide) rfl (fun ls hl => ?_)
  refine lv_aload_n hx hb dL_law_902 rfl (lv_at hl 3 rfl) ?_
  refine lv_aload_n hx hb dL_law_903 rfl (lv_at hl 5 rfl) ?_
  refine lv_iload hx hb dL_law_904 (lv_at hl 1 rfl) ?_
  refine lv_iconst (v := 1) hx hb dL_law_906 (by decide) ?_
  refine lv_iadd hx hb dL_law_907 ?_
  refine va_sld hx hb hXs hbl hbA hS (lwi 1 hi) dL_law_908 ?_
  have hP : va_P D vwCl (((no, .inl (cy 2, 1, .inr (.inl g2))) :: W2) ++ Wm) H := vP_pm hP (List.Perm.cons _ List.perm_append_comm)
  have hD : va_D A (((no, .inl (cy 2, 1, .inr (.inl g2))) :: W2) ++ Wm) := vD_pm hD (List.Perm.cons _ List.perm_append_comm)
  obtain ⟨qM_, fM_, hqM⟩ := IMo_at hM
  refine kVi (As := [.int (xs (i_ + 1).toNatClampNeg)]) (rest := []) (wr := ((no, .inl (cy 2, 1, .inr (.inl g2))) :: W2)) hX hE (M_fallIn l D cy nm h M Wm (xs (i_ + 1).toNatClampNeg) hM hlo (by omega)) (cwVA 1 htA wd_1881 wd_1878 wd_10 wd_1879 wd_1880 (by decide +kernel) ⟨by decide, by decide⟩) hP hD hS (apR ((no, .inl (cy 2, 1, .inr (.inl g2))) :: W2) Wm) (List.range ((no, .inl (cy 2, 1, .inr (.inl g2))) :: W2).length) (ap_R ((no, .inl (cy 2, 1, .inr (.inl g2))) :: W2) Wm) (ap_C ((no, .inl (cy 2, 1, .inr (.inl g2))) :: W2) Wm) (ap_nd ((no, .inl (cy 2, 1, .inr (.inl g2))) :: W2) Wm) qM_ hqM rfl rfl rfl hl.1 rfl (Nat.le_of_ble_eq_true rfl) dL_law_909 ⟨rmC (by dsimp only; omega), rmS (by dsimp only; omega)⟩ (fun rr_ Wm2 H locs hw hP hD hS => ?_)
  obtain ⟨km_, Mn, hms, hM2⟩ := hw
  refine W.widen (k := kc + 1) (n := ks + 6) (Nat.le_refl _) (Nat.le_refl _) ?_
  refine lv_istore (lv' := [(6, .int rr_), (5, .int rc_), (4, .int i_), (3, .ref no), (2, .ref nm), (1, .ref nx), (0, .ref b)]) hx hb dL_law_912 hl (by decide) rfl (fun ls hl => ?_)
  refine lv_goto (tgt := 2150) hx hb dL_law_914 (by decide) ?_
  have hP : va_P D vwCl ((no, .inl (cy 2, 1, .inr (.inl g2))) :: (W2 ++ Wm2)) H := hP
  have hP := vP_pm hP (List.Perm.cons _ List.perm_append_comm)
  have hD := vD_pm hD (List.Perm.cons _ List.perm_append_comm)
  exact W.widen (k := kc + 1) (n := ks + 6) (Nat.le_refl _) (Nat.le_refl _) (kk Sn Mn W2 Wm2 g2 (kc + 1) (ks + 6) H locs ls hI2 ⟨_, hM2⟩ (sm_fallIn hR hcs hms) (by omega) (by omega) hP hD hS (lv_sub hl [2, 3, 4, 5, 6] rfl))
set_option maxHeartbeats 4000000 in
set_option maxRecDepth 100000 in
theorem cs_19 (l : Launch) (hlt : l.stackTraces = false) {p : Program} {e : Env} {s : State} {m : MethodId} {below : List Frame} {meth : Method} {c : Code} {D : va_G} {cy : Nat → ClassId} {A : Nat → Prop} {b L : Nat} {xs : Nat → Int32} {Q : State → Prop} (hX : Ex p s m #[Value.ref b] meth c code ret 8 RL) (hE : Ew D cy A s) (hXs : va_X b L xs s s.heap) (hbl : b < s.heap.size) (hbA : ¬ A b) {nx nm no : Nat} {h : Int} {S : CSt} {M : MSt} {Wc Wm : va_W} {g : Nat → Int64} {kc ks : Nat} {i_ : Int32} {H : Heap} {locs : List Loc} {ls : Array Slot} (hI : IC cy nx S Wc) (hM : IMo cy nm h M Wm) (hR : RSM S M) (hlo : 999 ≤ h) (hhi : h + 2000 ≤ 1000000) (hkc : (kc : Int) + 2 * S.1.1.toInt ≤ 500000) (hks : (ks : Int) + 471 * S.1.1.toInt ≤ 7000000) (hi : 0 ≤ i_.toInt ∧ i_.toInt + 7 ≤ L ∧ L ≤ 3584) (hP : va_P D vwCl ((no, .inl (cy 2, 1, .inr (.inl g))) :: (Wm ++ Wc)) H) (hD : va_D A ((no, .inl (cy 2, 1, .inr (.inl g))) :: (Wm ++ Wc))) (hS : va_S A s.heap H locs) (hl : lv_has ls 8 [(4, .int i_), (3, .ref no), (2, .ref nm), (1, .ref nx), (0, .ref b)]) (kk : ∀ (S2 : CSt) (M2 : MSt) (W2 Wm2 : va_W) (g2 : Nat → Int64) (kc2 ks2 : Nat) (H : Heap) (locs : List Loc) (ls : Array Slot), IC cy nx S2 W2 → IMo cy nm (h + 900) M2 Wm2 → RSM S2 M2 → (kc2 : Int) + 2 * S2.1.1.toInt ≤ kc + 2 * S.1.1.toInt + 200 → (ks2 : Int) + 471 * S2.1.1.toInt ≤ ks + 471 * S.1.1.toInt + 9420 → va_P D vwCl ((no, .inl (cy 2, 1, .inr (.inl g2))) :: (Wm2 ++ W2)) H → va_D A ((no, .inl (cy 2, 1, .inr (.inl g2))) :: (Wm2 ++ W2)) → va_S A s.heap H locs → lv_has ls 8 [(4, .int i_), (3, .ref no), (2, .ref nm), (1, .ref nx), (0, .ref b)] → W p l e room_1 s m #[Value.ref b] below meth c H locs kc2 ks2 Q (F0 m 2150 ls [])) : W p l e room_1 s m #[Value.ref b] below meth c H locs kc ks Q (F0 m 917 ls []) := by
  obtain ⟨hx, hb, hr, hml, hown, htA, hlk⟩ := id hX
  have hK := hE.1
  have hT0 := IC_T hI
  refine lv_aload_n hx hb dL_law_917 rfl (lv_at hl 3 rfl) ?_
  obtain ⟨qI_, fI_, hqI⟩ := IC_at hI
  have hP : va_P D vwCl (((no, .inl (cy 2, 1, .inr (.inl g))) :: Wm) ++ Wc) H := hP
  have hD : va_D A (((no, .inl (cy 2, 1, .inr (.inl g))) :: Wm) ++ Wc) := hD
  refine kVi (As := []) (rest := []) (wr := ((no, .inl (cy 2, 1, .inr (.inl g))) :: Wm)) hX hE (I_next l D cy nx S Wc  hI) (cwVA 0 htA wd_484 wd_481 wd_1 wd_482 wd_483 (by decide +kernel) ⟨by decide, by decide⟩) hP hD hS (apR ((no, .inl (cy 2, 1, .inr (.inl g))) :: Wm) Wc) (List.range ((no, .inl (cy 2, 1, .inr (.inl g))) :: Wm).length) (ap_R ((no, .inl (cy 2, 1, .inr (.inl g))) :: Wm) Wc) (ap_C ((no, .inl (cy 2, 1, .inr (.inl g))) :: Wm) Wc) (ap_nd ((no, .inl (cy 2, 1, .inr (.inl g))) :: Wm) Wc) qI_ hqI rfl rfl rfl hl.1 rfl (Nat.le_of_ble_eq_true rfl) dL_law_918 ⟨rmC (by dsimp only; omega), rmS (by dsimp only; omega)⟩ (fun rc_ W2 H locs hw hP hD hS => ?_)
  refine W.widen (k := kc + 0) (n := ks + 0) (Nat.le_refl _) (Nat.le_refl _) ?_
  obtain ⟨Sn, hcs, hT2, hI2⟩ := hw
  refine lv_pop hx hb dL_law_921 rfl ?_
  refine lv_aload_n hx hb dL_law_922 rfl (lv_at hl 2 rfl) ?_
  have hP : va_P D vwCl (((no, .inl (cy 2, 1, .inr (.inl g))) :: W2) ++ Wm) H := vP_pm hP (List.Perm.cons _ List.perm_append_comm)
  have hD : va_D A (((no, .inl (cy 2, 1, .inr (.inl g))) :: W2) ++ Wm) := vD_pm hD (List.Perm.cons _ List.perm_append_comm)
  obtain ⟨qM_, fM_, hqM⟩ := IMo_at hM
  refine kVi (As := []) (rest := []) (wr := ((no, .inl (cy 2, 1, .inr (.inl g))) :: W2)) hX hE (M_next l D cy nm h M Wm  hM hlo (by omega)) (cwVA 0 htA wd_1889 wd_1886 wd_10 wd_1887 wd_1888 (by decide +kernel) ⟨by decide, by decide⟩) hP hD hS (apR ((no, .inl (cy 2, 1, .inr (.inl g))) :: W2) Wm) (List.range ((no, .inl (cy 2, 1, .inr (.inl g))) :: W2).length) (ap_R ((no, .inl (cy 2, 1, .inr (.inl g))) :: W2) Wm) (ap_C ((no, .inl (cy 2, 1, .inr (.inl g))) :: W2) Wm) (ap_nd ((no, .inl (cy 2, 1, .inr (.inl g))) :: W2) Wm) qM_ hqM rfl rfl rfl hl.1 rfl (Nat.le_of_ble_eq_true rfl) dL_law_923 ⟨rmC (by dsimp only; omega), rmS (by dsimp only; omega)⟩ (fun rr_ Wm2 H locs hw hP hD hS => ?_)
  obtain ⟨km_, Mn, hms, hM2⟩ := hw
  refine W.widen (k := kc + 0) (n := ks + 0) (Nat.le_refl _) (Nat.le_refl _) ?_
  refine lv_pop hx hb dL_law_926 rfl ?_
  refine lv_goto (tgt := 2150) hx hb dL_law_927 (by decide) ?_
  have hP : va_P D vwCl ((no, .inl (cy 2, 1, .inr (.inl g))) :: (W2 ++ Wm2)) H := hP
  have hP := vP_pm hP (List.Perm.cons _ List.perm_append_comm)
  have hD := vD_pm hD (List.Perm.cons _ List.perm_append_comm)
  exact W.widen (k := kc + 0) (n := ks + 0) (Nat.le_refl _) (Nat.le_refl _) (kk Sn Mn W2 Wm2 g (kc + 0) (ks + 0) H locs ls hI2 ⟨_, hM2⟩ (sm_next hR hcs hms) (by omega) (by omega) hP hD hS (lv_sub hl [0, 1, 2, 3, 4] rfl))
set_option maxHeartbeats 4000000 in
set_option maxRecDepth 100000 in
theorem cs_20 (l : Launch) (hlt : l.stackTraces = false) {p : Program} {e : Env} {s : State} {m : MethodId} {below : List Frame} {meth : Method} {c : Code} {D : va_G} {cy : Nat → ClassId} {A : Nat → Prop} {b L : Nat} {xs : Nat → Int32} {Q : State → Prop} (hX : Ex p s m #[Value.ref b] meth c code ret 8 RL) (hE : Ew D cy A s) (hXs : va_X b L xs s s.heap) (hbl : b < s.heap.size) (hbA : ¬ A b) {nx nm no : Nat} {h : Int} {S : CSt} {M : MSt} {Wc Wm : va_W} {g : Nat → Int64} {kc ks : Nat} {i_ : Int32} {H : Heap} {locs : List Loc} {ls : Array Slot} (hI : IC cy nx S Wc) (hM : IMo cy nm h M Wm) (hR : RSM S M) (hlo : 999 ≤ h) (hhi : h + 2000 ≤ 1000000) (hkc : (kc : Int) + 2 * S.1.1.toInt ≤ 500000) (hks : (ks : Int) + 471 * S.1.1.toInt ≤ 7000000) (hi : 0 ≤ i_.toInt ∧ i_.toInt + 7 ≤ L ∧ L ≤ 3584) (hP : va_P D vwCl ((no, .inl (cy 2, 1, .inr (.inl g))) :: (Wm ++ Wc)) H) (hD : va_D A ((no, .inl (cy 2, 1, .inr (.inl g))) :: (Wm ++ Wc))) (hS : va_S A s.heap H locs) (hl : lv_has ls 8 [(4, .int i_), (3, .ref no), (2, .ref nm), (1, .ref nx), (0, .ref b)]) (kk : ∀ (S2 : CSt) (M2 : MSt) (W2 Wm2 : va_W) (g2 : Nat → Int64) (kc2 ks2 : Nat) (H : Heap) (locs : List Loc) (ls : Array Slot), IC cy nx S2 W2 → IMo cy nm (h + 900) M2 Wm2 → RSM S2 M2 → (kc2 : Int) + 2 * S2.1.1.toInt ≤ kc + 2 * S.1.1.toInt + 200 → (ks2 : Int) + 471 * S2.1.1.toInt ≤ ks + 471 * S.1.1.toInt + 9420 → va_P D vwCl ((no, .inl (cy 2, 1, .inr (.inl g2))) :: (Wm2 ++ W2)) H → va_D A ((no, .inl (cy 2, 1, .inr (.inl g2))) :: (Wm2 ++ W2)) → va_S A s.heap H locs → lv_has ls 8 [(4, .int i_), (3, .ref no), (2, .ref nm), (1, .ref nx), (0, .ref b)] → W p l e room_1 s m #[Value.ref b] below meth c H locs kc2 ks2 Q (F0 m 2150 ls [])) : W p l e room_1 s m #[Value.ref b] below meth c H locs kc ks Q (F0 m 930 ls []) := by
  obtain ⟨hx, hb, hr, hml, hown, htA, hlk⟩ := id hX
  have hK := hE.1
  have hT0 := IC_T hI
  refine lv_aload_n hx hb dL_law_930 rfl (lv_at hl 3 rfl) ?_
  obtain ⟨qI_, fI_, hqI⟩ := IC_at hI
  have hP : va_P D vwCl (((no, .inl (cy 2, 1, .inr (.inl g))) :: Wm) ++ Wc) H := hP
  have hD : va_D A (((no, .inl (cy 2, 1, .inr (.inl g))) :: Wm) ++ Wc) := hD
  refine kVi (As := []) (rest := []) (wr := ((no, .inl (cy 2, 1, .inr (.inl g))) :: Wm)) hX hE (I_busiest l D cy nx S Wc  hI) (cwVA 0 htA wd_499 wd_496 wd_1 wd_497 wd_498 (by decide +kernel) ⟨by decide, by decide⟩) hP hD hS (apR ((no, .inl (cy 2, 1, .inr (.inl g))) :: Wm) Wc) (List.range ((no, .inl (cy 2, 1, .inr (.inl g))) :: Wm).length) (ap_R ((no, .inl (cy 2, 1, .inr (.inl g))) :: Wm) Wc) (ap_C ((no, .inl (cy 2, 1, .inr (.inl g))) :: Wm) Wc) (ap_nd ((no, .inl (cy 2, 1, .inr (.inl g))) :: Wm) Wc) qI_ hqI rfl rfl rfl hl.1 rfl (Nat.le_of_ble_eq_true rfl) dL_law_931 ⟨rmC (by dsimp only; omega), rmS (by dsimp only; omega)⟩ (fun rc_ W2 H locs hw hP hD hS => ?_)
  refine W.widen (k := kc + 0) (n := ks + 0) (Nat.le_refl _) (Nat.le_refl _) ?_
  obtain ⟨Sn, hcs, hT2, hI2⟩ := hw
  refine lv_pop hx hb dL_law_934 rfl ?_
  refine lv_aload_n hx hb dL_law_935 rfl (lv_at hl 2 rfl) ?_
  have hP : va_P D vwCl (((no, .inl (cy 2, 1, .inr (.inl g))) :: W2) ++ Wm) H := vP_pm hP (List.Perm.cons _ List.perm_append_comm)
  have hD : va_D A (((no, .inl (cy 2, 1, .inr (.inl g))) :: W2) ++ Wm) := vD_pm hD (List.Perm.cons _ List.perm_append_comm)
  obtain ⟨qM_, fM_, hqM⟩ := IMo_at hM
  refine kVi (As := []) (rest := []) (wr := ((no, .inl (cy 2, 1, .inr (.inl g))) :: W2)) hX hE (M_busiest l D cy nm h M Wm  hM hlo (by omega)) (cwVA 0 htA wd_1893 wd_1890 wd_10 wd_1891 wd_1892 (by decide +kernel) ⟨by decide, by decide⟩) hP hD hS (apR ((no, .inl (cy 2, 1, .inr (.inl g))) :: W2) Wm) (List.range ((no, .inl (cy 2, 1, .inr (.inl g))) :: W2).length) (ap_R ((no, .inl (cy 2, 1, .inr (.inl g))) :: W2) Wm) (ap_C ((no, .inl (cy 2, 1, .inr (.inl g))) :: W2) Wm) (ap_nd ((no, .inl (cy 2, 1, .inr (.inl g))) :: W2) Wm) qM_ hqM rfl rfl rfl hl.1 rfl (Nat.le_of_ble_eq_true rfl) dL_law_936 ⟨rmC (by dsimp only; omega), rmS (by dsimp only; omega)⟩ (fun rr_ Wm2 H locs hw hP hD hS => ?_)
  obtain ⟨km_, Mn, hms, hM2⟩ := hw
  refine W.widen (k := kc + 0) (n := ks + 0) (Nat.le_refl _) (Nat.le_refl _) ?_
  refine lv_pop hx hb dL_law_939 rfl ?_
  refine lv_goto (tgt := 2150) hx hb dL_law_940 (by decide) ?_
  have hP : va_P D vwCl ((no, .inl (cy 2, 1, .inr (.inl g))) :: (W2 ++ Wm2)) H := hP
  have hP := vP_pm hP (List.Perm.cons _ List.perm_append_comm)
  have hD := vD_pm hD (List.Perm.cons _ List.perm_append_comm)
  exact W.widen (k := kc + 0) (n := ks + 0) (Nat.le_refl _) (Nat.le_refl _) (kk Sn Mn W2 Wm2 g (kc + 0) (ks + 0) H locs ls hI2 ⟨_, hM2⟩ (sm_busiest hR hcs hms) (by omega) (by omega) hP hD hS (lv_sub hl [0, 1, 2, 3, 4] rfl))
set_option maxHeartbeats 4000000 in
set_option maxRecDepth 100000 in
theorem cs_21 (l : Launch) (hlt : l.stackTraces = false) {p : Program} {e : Env} {s : State} {m : MethodId} {below : List Frame} {meth : Method} {c : Code} {D : va_G} {cy : Nat → ClassId} {A : Nat → Prop} {b L : Nat} {xs : Nat → Int32} {Q : State → Prop} (hX : Ex p s m #[Value.ref b] meth c code ret 8 RL) (hE : Ew D cy A s) (hXs : va_X b L xs s s.heap) (hbl : b < s.heap.size) (hbA : ¬ A b) {nx nm no : Nat} {h : Int} {S : CSt} {M : MSt} {Wc Wm : va_W} {g : Nat → Int64} {kc ks : Nat} {i_ : Int32} {H : Heap} {locs : List Loc} {ls : Array Slot} (hI : IC cy nx S Wc) (hM : IMo cy nm h M Wm) (hR : RSM S M) (hlo : 999 ≤ h) (hhi : h + 2000 ≤ 1000000) (hkc : (kc : Int) + 2 * S.1.1.toInt ≤ 500000) (hks : (ks : Int) + 471 * S.1.1.toInt ≤ 7000000) (hi : 0 ≤ i_.toInt ∧ i_.toInt + 7 ≤ L ∧ L ≤ 3584) (hP : va_P D vwCl ((no, .inl (cy 2, 1, .inr (.inl g))) :: (Wm ++ Wc)) H) (hD : va_D A ((no, .inl (cy 2, 1, .inr (.inl g))) :: (Wm ++ Wc))) (hS : va_S A s.heap H locs) (hl : lv_has ls 8 [(4, .int i_), (3, .ref no), (2, .ref nm), (1, .ref nx), (0, .ref b)]) (kk : ∀ (S2 : CSt) (M2 : MSt) (W2 Wm2 : va_W) (g2 : Nat → Int64) (kc2 ks2 : Nat) (H : Heap) (locs : List Loc) (ls : Array Slot), IC cy nx S2 W2 → IMo cy nm (h + 900) M2 Wm2 → RSM S2 M2 → (kc2 : Int) + 2 * S2.1.1.toInt ≤ kc + 2 * S.1.1.toInt + 200 → (ks2 : Int) + 471 * S2.1.1.toInt ≤ ks + 471 * S.1.1.toInt + 9420 → va_P D vwCl ((no, .inl (cy 2, 1, .inr (.inl g2))) :: (Wm2 ++ W2)) H → va_D A ((no, .inl (cy 2, 1, .inr (.inl g2))) :: (Wm2 ++ W2)) → va_S A s.heap H locs → lv_has ls 8 [(4, .int i_), (3, .ref no), (2, .ref nm), (1, .ref nx), (0, .ref b)] → W p l e room_1 s m #[Value.ref b] below meth c H locs kc2 ks2 Q (F0 m 2150 ls [])) : W p l e room_1 s m #[Value.ref b] below meth c H locs kc ks Q (F0 m 943 ls []) := by
  obtain ⟨hx, hb, hr, hml, hown, htA, hlk⟩ := id hX
  have hK := hE.1
  have hT0 := IC_T hI
  refine lv_aload_n hx hb dL_law_943 rfl (lv_at hl 3 rfl) ?_
  refine lv_aload_n hx hb dL_law_944 rfl (lv_at hl 4 rfl) ?_
  refine lv_iload hx hb dL_law_945 (lv_at hl 0 rfl) ?_
  refine lv_iconst (v := 1) hx hb dL_law_947 (by decide) ?_
  refine lv_iadd hx hb dL_law_948 ?_
  refine va_sld hx hb hXs hbl hbA hS (lwi 1 hi) dL_law_949 ?_
  refine lv_aload_n hx hb dL_law_950 rfl (lv_at hl 1 rfl) ?_
  have hP : va_P D vwCl (Wm ++ ((no, .inl (cy 2, 1, .inr (.inl g))) :: Wc)) H := vP_pm hP List.perm_middle.symm
  have hD : va_D A (Wm ++ ((no, .inl (cy 2, 1, .inr (.inl g))) :: Wc)) := vD_pm hD List.perm_middle.symm
  refine kHi (As := [.ref nx, .int (xs (i_ + 1).toNatClampNeg), .ref no]) (rest := []) (wr := Wm) hX hE (H_frees l hlt D cy nx S Wc no g (xs (i_ + 1).toNatClampNeg) hI) (cwHA 3 htA wd_1057 wd_1055 wd_0 wd_1056 (by decide +kernel) ⟨by decide, by decide⟩) hP hD hS (apR Wm ((no, .inl (cy 2, 1, .inr (.inl g))) :: Wc)) (List.range Wm.length) (ap_R Wm ((no, .inl (cy 2, 1, .inr (.inl g))) :: Wc)) (ap_C Wm ((no, .inl (cy 2, 1, .inr (.inl g))) :: Wc)) (ap_nd Wm ((no, .inl (cy 2, 1, .inr (.inl g))) :: Wc)) rfl hl.1 rfl (Nat.le_of_ble_eq_true rfl) dL_law_951 ⟨rmC (by dsimp only; omega), rmS (by dsimp only; omega)⟩ (fun rc_ W1 H locs hw hP hD hS => ?_)
  refine W.widen (k := kc + 2) (n := ks + 12) (Nat.le_refl _) (Nat.le_refl _) ?_
  obtain ⟨g2, W2, Sn, hcs, hT2, hI2, rfl⟩ := hw
  have hP := vP_pm hP List.perm_middle
  have hD := vD_pm hD List.perm_middle
  refine lv_istore (lv' := [(5, .int rc_), (4, .int i_), (3, .ref no), (2, .ref nm), (1, .ref nx), (0, .ref b)]) hx hb dL_law_954 hl (by decide) rfl (fun ls hl => ?_)
  refine lv_aload_n hx hb dL_law_956 rfl (lv_at hl 3 rfl) ?_
  refine lv_aload_n hx hb dL_law_957 rfl (lv_at hl 5 rfl) ?_
  refine lv_iload hx hb dL_law_958 (lv_at hl 1 rfl) ?_
  refine lv_iconst (v := 1) hx hb dL_law_960 (by decide) ?_
  refine lv_iadd hx hb dL_law_961 ?_
  refine va_sld hx hb hXs hbl hbA hS (lwi 1 hi) dL_law_962 ?_
  have hP : va_P D vwCl (((no, .inl (cy 2, 1, .inr (.inl g2))) :: W2) ++ Wm) H := vP_pm hP (List.Perm.cons _ List.perm_append_comm)
  have hD : va_D A (((no, .inl (cy 2, 1, .inr (.inl g2))) :: W2) ++ Wm) := vD_pm hD (List.Perm.cons _ List.perm_append_comm)
  obtain ⟨qM_, fM_, hqM⟩ := IMo_at hM
  refine kVi (As := [.int (xs (i_ + 1).toNatClampNeg)]) (rest := []) (wr := ((no, .inl (cy 2, 1, .inr (.inl g2))) :: W2)) hX hE (M_frees l D cy nm h M Wm (xs (i_ + 1).toNatClampNeg) hM hlo (by omega)) (cwVA 1 htA wd_1898 wd_1895 wd_10 wd_1896 wd_1897 (by decide +kernel) ⟨by decide, by decide⟩) hP hD hS (apR ((no, .inl (cy 2, 1, .inr (.inl g2))) :: W2) Wm) (List.range ((no, .inl (cy 2, 1, .inr (.inl g2))) :: W2).length) (ap_R ((no, .inl (cy 2, 1, .inr (.inl g2))) :: W2) Wm) (ap_C ((no, .inl (cy 2, 1, .inr (.inl g2))) :: W2) Wm) (ap_nd ((no, .inl (cy 2, 1, .inr (.inl g2))) :: W2) Wm) qM_ hqM rfl rfl rfl hl.1 rfl (Nat.le_of_ble_eq_true rfl) dL_law_963 ⟨rmC (by dsimp only; omega), rmS (by dsimp only; omega)⟩ (fun rr_ Wm2 H locs hw hP hD hS => ?_)
  obtain ⟨km_, Mn, hms, hM2⟩ := hw
  refine W.widen (k := kc + 2) (n := ks + 12) (Nat.le_refl _) (Nat.le_refl _) ?_
  refine lv_istore (lv' := [(6, .int rr_), (5, .int rc_), (4, .int i_), (3, .ref no), (2, .ref nm), (1, .ref nx), (0, .ref b)]) hx hb dL_law_966 hl (by decide) rfl (fun ls hl => ?_)
  refine lv_goto (tgt := 2150) hx hb dL_law_968 (by decide) ?_
  have hP : va_P D vwCl ((no, .inl (cy 2, 1, .inr (.inl g2))) :: (W2 ++ Wm2)) H := hP
  have hP := vP_pm hP (List.Perm.cons _ List.perm_append_comm)
  have hD := vD_pm hD (List.Perm.cons _ List.perm_append_comm)
  exact W.widen (k := kc + 2) (n := ks + 12) (Nat.le_refl _) (Nat.le_refl _) (kk Sn Mn W2 Wm2 g2 (kc + 2) (ks + 12) H locs ls hI2 ⟨_, hM2⟩ (sm_frees hR hcs hms) (by omega) (by omega) hP hD hS (lv_sub hl [2, 3, 4, 5, 6] rfl))
set_option maxHeartbeats 4000000 in
set_option maxRecDepth 100000 in
theorem cs_22 (l : Launch) (hlt : l.stackTraces = false) {p : Program} {e : Env} {s : State} {m : MethodId} {below : List Frame} {meth : Method} {c : Code} {D : va_G} {cy : Nat → ClassId} {A : Nat → Prop} {b L : Nat} {xs : Nat → Int32} {Q : State → Prop} (hX : Ex p s m #[Value.ref b] meth c code ret 8 RL) (hE : Ew D cy A s) (hXs : va_X b L xs s s.heap) (hbl : b < s.heap.size) (hbA : ¬ A b) {nx nm no : Nat} {h : Int} {S : CSt} {M : MSt} {Wc Wm : va_W} {g : Nat → Int64} {kc ks : Nat} {i_ : Int32} {H : Heap} {locs : List Loc} {ls : Array Slot} (hI : IC cy nx S Wc) (hM : IMo cy nm h M Wm) (hR : RSM S M) (hlo : 999 ≤ h) (hhi : h + 2000 ≤ 1000000) (hkc : (kc : Int) + 2 * S.1.1.toInt ≤ 500000) (hks : (ks : Int) + 471 * S.1.1.toInt ≤ 7000000) (hi : 0 ≤ i_.toInt ∧ i_.toInt + 7 ≤ L ∧ L ≤ 3584) (hP : va_P D vwCl ((no, .inl (cy 2, 1, .inr (.inl g))) :: (Wm ++ Wc)) H) (hD : va_D A ((no, .inl (cy 2, 1, .inr (.inl g))) :: (Wm ++ Wc))) (hS : va_S A s.heap H locs) (hl : lv_has ls 8 [(4, .int i_), (3, .ref no), (2, .ref nm), (1, .ref nx), (0, .ref b)]) (kk : ∀ (S2 : CSt) (M2 : MSt) (W2 Wm2 : va_W) (g2 : Nat → Int64) (kc2 ks2 : Nat) (H : Heap) (locs : List Loc) (ls : Array Slot), IC cy nx S2 W2 → IMo cy nm (h + 900) M2 Wm2 → RSM S2 M2 → (kc2 : Int) + 2 * S2.1.1.toInt ≤ kc + 2 * S.1.1.toInt + 200 → (ks2 : Int) + 471 * S2.1.1.toInt ≤ ks + 471 * S.1.1.toInt + 9420 → va_P D vwCl ((no, .inl (cy 2, 1, .inr (.inl g2))) :: (Wm2 ++ W2)) H → va_D A ((no, .inl (cy 2, 1, .inr (.inl g2))) :: (Wm2 ++ W2)) → va_S A s.heap H locs → lv_has ls 8 [(4, .int i_), (3, .ref no), (2, .ref nm), (1, .ref nx), (0, .ref b)] → W p l e room_1 s m #[Value.ref b] below meth c H locs kc2 ks2 Q (F0 m 2150 ls [])) : W p l e room_1 s m #[Value.ref b] below meth c H locs kc ks Q (F0 m 971 ls []) := by
  obtain ⟨hx, hb, hr, hml, hown, htA, hlk⟩ := id hX
  have hK := hE.1
  have hT0 := IC_T hI
  refine lv_aload_n hx hb dL_law_971 rfl (lv_at hl 3 rfl) ?_
  refine lv_aload_n hx hb dL_law_972 rfl (lv_at hl 4 rfl) ?_
  refine lv_iload hx hb dL_law_973 (lv_at hl 0 rfl) ?_
  refine lv_iconst (v := 1) hx hb dL_law_975 (by decide) ?_
  refine lv_iadd hx hb dL_law_976 ?_
  refine va_sld hx hb hXs hbl hbA hS (lwi 1 hi) dL_law_977 ?_
  refine lv_aload_n hx hb dL_law_978 rfl (lv_at hl 4 rfl) ?_
  refine lv_iload hx hb dL_law_979 (lv_at hl 0 rfl) ?_
  refine lv_iconst (v := 2) hx hb dL_law_981 (by decide) ?_
  refine lv_iadd hx hb dL_law_982 ?_
  refine va_sld hx hb hXs hbl hbA hS (lwi 2 hi) dL_law_983 ?_
  refine lv_aload_n hx hb dL_law_984 rfl (lv_at hl 1 rfl) ?_
  have hP : va_P D vwCl (Wm ++ ((no, .inl (cy 2, 1, .inr (.inl g))) :: Wc)) H := vP_pm hP List.perm_middle.symm
  have hD : va_D A (Wm ++ ((no, .inl (cy 2, 1, .inr (.inl g))) :: Wc)) := vD_pm hD List.perm_middle.symm
  refine kHi (As := [.ref nx, .int (xs (i_ + 1).toNatClampNeg), .int (xs (i_ + 2).toNatClampNeg), .ref no]) (rest := []) (wr := Wm) hX hE (H_heightIn l hlt D cy nx S Wc no g (xs (i_ + 1).toNatClampNeg) (xs (i_ + 2).toNatClampNeg) hI) (cwHA 4 htA wd_1066 wd_1064 wd_0 wd_1065 (by decide +kernel) ⟨by decide, by decide⟩) hP hD hS (apR Wm ((no, .inl (cy 2, 1, .inr (.inl g))) :: Wc)) (List.range Wm.length) (ap_R Wm ((no, .inl (cy 2, 1, .inr (.inl g))) :: Wc)) (ap_C Wm ((no, .inl (cy 2, 1, .inr (.inl g))) :: Wc)) (ap_nd Wm ((no, .inl (cy 2, 1, .inr (.inl g))) :: Wc)) rfl hl.1 rfl (Nat.le_of_ble_eq_true rfl) dL_law_985 ⟨rmC (by dsimp only; omega), rmS (by dsimp only; omega)⟩ (fun rc_ W1 H locs hw hP hD hS => ?_)
  refine W.widen (k := kc + 2) (n := ks + 12) (Nat.le_refl _) (Nat.le_refl _) ?_
  obtain ⟨g2, W2, Sn, hcs, hT2, hI2, rfl⟩ := hw
  have hP := vP_pm hP List.perm_middle
  have hD := vD_pm hD List.perm_middle
  refine lv_istore (lv' := [(5, .int rc_), (4, .int i_), (3, .ref no), (2, .ref nm), (1, .ref nx), (0, .ref b)]) hx hb dL_law_988 hl (by decide) rfl (fun ls hl => ?_)
  refine lv_aload_n hx hb dL_law_990 rfl (lv_at hl 3 rfl) ?_
  refine lv_aload_n hx hb dL_law_991 rfl (lv_at hl 5 rfl) ?_
  refine lv_iload hx hb dL_law_992 (lv_at hl 1 rfl) ?_
  refine lv_iconst (v := 1) hx hb dL_law_994 (by decide) ?_
  refine lv_iadd hx hb dL_law_995 ?_
  refine va_sld hx hb hXs hbl hbA hS (lwi 1 hi) dL_law_996 ?_
  refine lv_aload_n hx hb dL_law_997 rfl (lv_at hl 5 rfl) ?_
  refine lv_iload hx hb dL_law_998 (lv_at hl 1 rfl) ?_
  refine lv_iconst (v := 2) hx hb dL_law_1000 (by decide) ?_
  refine lv_iadd hx hb dL_law_1001 ?_
  refine va_sld hx hb hXs hbl hbA hS (lwi 2 hi) dL_law_1002 ?_
  have hP : va_P D vwCl (((no, .inl (cy 2, 1, .inr (.inl g2))) :: W2) ++ Wm) H := vP_pm hP (List.Perm.cons _ List.perm_append_comm)
  have hD : va_D A (((no, .inl (cy 2, 1, .inr (.inl g2))) :: W2) ++ Wm) := vD_pm hD (List.Perm.cons _ List.perm_append_comm)
  obtain ⟨qM_, fM_, hqM⟩ := IMo_at hM
  refine kVi (As := [.int (xs (i_ + 1).toNatClampNeg), .int (xs (i_ + 2).toNatClampNeg)]) (rest := []) (wr := ((no, .inl (cy 2, 1, .inr (.inl g2))) :: W2)) hX hE (M_heightIn l D cy nm h M Wm (xs (i_ + 1).toNatClampNeg) (xs (i_ + 2).toNatClampNeg) hM hlo (by omega)) (cwVA 2 htA wd_1902 wd_1899 wd_10 wd_1900 wd_1901 (by decide +kernel) ⟨by decide, by decide⟩) hP hD hS (apR ((no, .inl (cy 2, 1, .inr (.inl g2))) :: W2) Wm) (List.range ((no, .inl (cy 2, 1, .inr (.inl g2))) :: W2).length) (ap_R ((no, .inl (cy 2, 1, .inr (.inl g2))) :: W2) Wm) (ap_C ((no, .inl (cy 2, 1, .inr (.inl g2))) :: W2) Wm) (ap_nd ((no, .inl (cy 2, 1, .inr (.inl g2))) :: W2) Wm) qM_ hqM rfl rfl rfl hl.1 rfl (Nat.le_of_ble_eq_true rfl) dL_law_1003 ⟨rmC (by dsimp only; omega), rmS (by dsimp only; omega)⟩ (fun rr_ Wm2 H locs hw hP hD hS => ?_)
  obtain ⟨km_, Mn, hms, hM2⟩ := hw
  refine W.widen (k := kc + 2) (n := ks + 12) (Nat.le_refl _) (Nat.le_refl _) ?_
  refine lv_istore (lv' := [(6, .int rr_), (5, .int rc_), (4, .int i_), (3, .ref no), (2, .ref nm), (1, .ref nx), (0, .ref b)]) hx hb dL_law_1006 hl (by decide) rfl (fun ls hl => ?_)
  refine lv_goto (tgt := 2150) hx hb dL_law_1008 (by decide) ?_
  have hP : va_P D vwCl ((no, .inl (cy 2, 1, .inr (.inl g2))) :: (W2 ++ Wm2)) H := hP
  have hP := vP_pm hP (List.Perm.cons _ List.perm_append_comm)
  have hD := vD_pm hD (List.Perm.cons _ List.perm_append_comm)
  exact W.widen (k := kc + 2) (n := ks + 12) (Nat.le_refl _) (Nat.le_refl _) (kk Sn Mn W2 Wm2 g2 (kc + 2) (ks + 12) H locs ls hI2 ⟨_, hM2⟩ (sm_heightIn hR hcs hms) (by omega) (by omega) hP hD hS (lv_sub hl [2, 3, 4, 5, 6] rfl))
set_option maxHeartbeats 4000000 in
set_option maxRecDepth 100000 in
theorem cs_23 (l : Launch) (hlt : l.stackTraces = false) {p : Program} {e : Env} {s : State} {m : MethodId} {below : List Frame} {meth : Method} {c : Code} {D : va_G} {cy : Nat → ClassId} {A : Nat → Prop} {b L : Nat} {xs : Nat → Int32} {Q : State → Prop} (hX : Ex p s m #[Value.ref b] meth c code ret 8 RL) (hE : Ew D cy A s) (hXs : va_X b L xs s s.heap) (hbl : b < s.heap.size) (hbA : ¬ A b) {nx nm no : Nat} {h : Int} {S : CSt} {M : MSt} {Wc Wm : va_W} {g : Nat → Int64} {kc ks : Nat} {i_ : Int32} {H : Heap} {locs : List Loc} {ls : Array Slot} (hI : IC cy nx S Wc) (hM : IMo cy nm h M Wm) (hR : RSM S M) (hlo : 999 ≤ h) (hhi : h + 2000 ≤ 1000000) (hkc : (kc : Int) + 2 * S.1.1.toInt ≤ 500000) (hks : (ks : Int) + 471 * S.1.1.toInt ≤ 7000000) (hi : 0 ≤ i_.toInt ∧ i_.toInt + 7 ≤ L ∧ L ≤ 3584) (hP : va_P D vwCl ((no, .inl (cy 2, 1, .inr (.inl g))) :: (Wm ++ Wc)) H) (hD : va_D A ((no, .inl (cy 2, 1, .inr (.inl g))) :: (Wm ++ Wc))) (hS : va_S A s.heap H locs) (hl : lv_has ls 8 [(4, .int i_), (3, .ref no), (2, .ref nm), (1, .ref nx), (0, .ref b)]) (kk : ∀ (S2 : CSt) (M2 : MSt) (W2 Wm2 : va_W) (g2 : Nat → Int64) (kc2 ks2 : Nat) (H : Heap) (locs : List Loc) (ls : Array Slot), IC cy nx S2 W2 → IMo cy nm (h + 900) M2 Wm2 → RSM S2 M2 → (kc2 : Int) + 2 * S2.1.1.toInt ≤ kc + 2 * S.1.1.toInt + 200 → (ks2 : Int) + 471 * S2.1.1.toInt ≤ ks + 471 * S.1.1.toInt + 9420 → va_P D vwCl ((no, .inl (cy 2, 1, .inr (.inl g2))) :: (Wm2 ++ W2)) H → va_D A ((no, .inl (cy 2, 1, .inr (.inl g2))) :: (Wm2 ++ W2)) → va_S A s.heap H locs → lv_has ls 8 [(4, .int i_), (3, .ref no), (2, .ref nm), (1, .ref nx), (0, .ref b)] → W p l e room_1 s m #[Value.ref b] below meth c H locs kc2 ks2 Q (F0 m 2150 ls [])) : W p l e room_1 s m #[Value.ref b] below meth c H locs kc ks Q (F0 m 1011 ls []) := by
  obtain ⟨hx, hb, hr, hml, hown, htA, hlk⟩ := id hX
  have hK := hE.1
  have hT0 := IC_T hI
  refine lv_aload_n hx hb dL_law_1011 rfl (lv_at hl 3 rfl) ?_
  refine lv_aload_n hx hb dL_law_1012 rfl (lv_at hl 4 rfl) ?_
  refine lv_iload hx hb dL_law_1013 (lv_at hl 0 rfl) ?_
  refine lv_iconst (v := 1) hx hb dL_law_1015 (by decide) ?_
  refine lv_iadd hx hb dL_law_1016 ?_
  refine va_sld hx hb hXs hbl hbA hS (lwi 1 hi) dL_law_1017 ?_
  refine lv_aload_n hx hb dL_law_1018 rfl (lv_at hl 1 rfl) ?_
  have hP : va_P D vwCl (Wm ++ ((no, .inl (cy 2, 1, .inr (.inl g))) :: Wc)) H := vP_pm hP List.perm_middle.symm
  have hD : va_D A (Wm ++ ((no, .inl (cy 2, 1, .inr (.inl g))) :: Wc)) := vD_pm hD List.perm_middle.symm
  refine kHi (As := [.ref nx, .int (xs (i_ + 1).toNatClampNeg), .ref no]) (rest := []) (wr := Wm) hX hE (H_hurtIn l hlt D cy nx S Wc no g (xs (i_ + 1).toNatClampNeg) hI) (cwHA 3 htA wd_1073 wd_1071 wd_0 wd_1072 (by decide +kernel) ⟨by decide, by decide⟩) hP hD hS (apR Wm ((no, .inl (cy 2, 1, .inr (.inl g))) :: Wc)) (List.range Wm.length) (ap_R Wm ((no, .inl (cy 2, 1, .inr (.inl g))) :: Wc)) (ap_C Wm ((no, .inl (cy 2, 1, .inr (.inl g))) :: Wc)) (ap_nd Wm ((no, .inl (cy 2, 1, .inr (.inl g))) :: Wc)) rfl hl.1 rfl (Nat.le_of_ble_eq_true rfl) dL_law_1019 ⟨rmC (by dsimp only; omega), rmS (by dsimp only; omega)⟩ (fun rc_ W1 H locs hw hP hD hS => ?_)
  refine W.widen (k := kc + 1) (n := ks + 6) (Nat.le_refl _) (Nat.le_refl _) ?_
  obtain ⟨g2, W2, Sn, hcs, hT2, hI2, rfl⟩ := hw
  have hP := vP_pm hP List.perm_middle
  have hD := vD_pm hD List.perm_middle
  refine lv_istore (lv' := [(5, .int rc_), (4, .int i_), (3, .ref no), (2, .ref nm), (1, .ref nx), (0, .ref b)]) hx hb dL_law_1022 hl (by decide) rfl (fun ls hl => ?_)
  refine lv_aload_n hx hb dL_law_1024 rfl (lv_at hl 3 rfl) ?_
  refine lv_aload_n hx hb dL_law_1025 rfl (lv_at hl 5 rfl) ?_
  refine lv_iload hx hb dL_law_1026 (lv_at hl 1 rfl) ?_
  refine lv_iconst (v := 1) hx hb dL_law_1028 (by decide) ?_
  refine lv_iadd hx hb dL_law_1029 ?_
  refine va_sld hx hb hXs hbl hbA hS (lwi 1 hi) dL_law_1030 ?_
  have hP : va_P D vwCl (((no, .inl (cy 2, 1, .inr (.inl g2))) :: W2) ++ Wm) H := vP_pm hP (List.Perm.cons _ List.perm_append_comm)
  have hD : va_D A (((no, .inl (cy 2, 1, .inr (.inl g2))) :: W2) ++ Wm) := vD_pm hD (List.Perm.cons _ List.perm_append_comm)
  obtain ⟨qM_, fM_, hqM⟩ := IMo_at hM
  refine kVi (As := [.int (xs (i_ + 1).toNatClampNeg)]) (rest := []) (wr := ((no, .inl (cy 2, 1, .inr (.inl g2))) :: W2)) hX hE (M_hurtIn l D cy nm h M Wm (xs (i_ + 1).toNatClampNeg) hM hlo (by omega)) (cwVA 1 htA wd_1906 wd_1903 wd_10 wd_1904 wd_1905 (by decide +kernel) ⟨by decide, by decide⟩) hP hD hS (apR ((no, .inl (cy 2, 1, .inr (.inl g2))) :: W2) Wm) (List.range ((no, .inl (cy 2, 1, .inr (.inl g2))) :: W2).length) (ap_R ((no, .inl (cy 2, 1, .inr (.inl g2))) :: W2) Wm) (ap_C ((no, .inl (cy 2, 1, .inr (.inl g2))) :: W2) Wm) (ap_nd ((no, .inl (cy 2, 1, .inr (.inl g2))) :: W2) Wm) qM_ hqM rfl rfl rfl hl.1 rfl (Nat.le_of_ble_eq_true rfl) dL_law_1031 ⟨rmC (by dsimp only; omega), rmS (by dsimp only; omega)⟩ (fun rr_ Wm2 H locs hw hP hD hS => ?_)
  obtain ⟨km_, Mn, hms, hM2⟩ := hw
  refine W.widen (k := kc + 1) (n := ks + 6) (Nat.le_refl _) (Nat.le_refl _) ?_
  refine lv_istore (lv' := [(6, .int rr_), (5, .int rc_), (4, .int i_), (3, .ref no), (2, .ref nm), (1, .ref nx), (0, .ref b)]) hx hb dL_law_1034 hl (by decide) rfl (fun ls hl => ?_)
  refine lv_goto (tgt := 2150) hx hb dL_law_1036 (by decide) ?_
  have hP : va_P D vwCl ((no, .inl (cy 2, 1, .inr (.inl g2))) :: (W2 ++ Wm2)) H := hP
  have hP := vP_pm hP (List.Perm.cons _ List.perm_append_comm)
  have hD := vD_pm hD (List.Perm.cons _ List.perm_append_comm)
  exact W.widen (k := kc + 1) (n := ks + 6) (Nat.le_refl _) (Nat.le_refl _) (kk Sn Mn W2 Wm2 g2 (kc + 1) (ks + 6) H locs ls hI2 ⟨_, hM2⟩ (sm_hurtIn hR hcs hms) (by omega) (by omega) hP hD hS (lv_sub hl [2, 3, 4, 5, 6] rfl))
set_option maxHeartbeats 4000000 in
set_option maxRecDepth 100000 in
theorem cs_24 (l : Launch) (hlt : l.stackTraces = false) {p : Program} {e : Env} {s : State} {m : MethodId} {below : List Frame} {meth : Method} {c : Code} {D : va_G} {cy : Nat → ClassId} {A : Nat → Prop} {b L : Nat} {xs : Nat → Int32} {Q : State → Prop} (hX : Ex p s m #[Value.ref b] meth c code ret 8 RL) (hE : Ew D cy A s) (hXs : va_X b L xs s s.heap) (hbl : b < s.heap.size) (hbA : ¬ A b) {nx nm no : Nat} {h : Int} {S : CSt} {M : MSt} {Wc Wm : va_W} {g : Nat → Int64} {kc ks : Nat} {i_ : Int32} {H : Heap} {locs : List Loc} {ls : Array Slot} (hI : IC cy nx S Wc) (hM : IMo cy nm h M Wm) (hR : RSM S M) (hlo : 999 ≤ h) (hhi : h + 2000 ≤ 1000000) (hkc : (kc : Int) + 2 * S.1.1.toInt ≤ 500000) (hks : (ks : Int) + 471 * S.1.1.toInt ≤ 7000000) (hi : 0 ≤ i_.toInt ∧ i_.toInt + 7 ≤ L ∧ L ≤ 3584) (hP : va_P D vwCl ((no, .inl (cy 2, 1, .inr (.inl g))) :: (Wm ++ Wc)) H) (hD : va_D A ((no, .inl (cy 2, 1, .inr (.inl g))) :: (Wm ++ Wc))) (hS : va_S A s.heap H locs) (hl : lv_has ls 8 [(4, .int i_), (3, .ref no), (2, .ref nm), (1, .ref nx), (0, .ref b)]) (kk : ∀ (S2 : CSt) (M2 : MSt) (W2 Wm2 : va_W) (g2 : Nat → Int64) (kc2 ks2 : Nat) (H : Heap) (locs : List Loc) (ls : Array Slot), IC cy nx S2 W2 → IMo cy nm (h + 900) M2 Wm2 → RSM S2 M2 → (kc2 : Int) + 2 * S2.1.1.toInt ≤ kc + 2 * S.1.1.toInt + 200 → (ks2 : Int) + 471 * S2.1.1.toInt ≤ ks + 471 * S.1.1.toInt + 9420 → va_P D vwCl ((no, .inl (cy 2, 1, .inr (.inl g2))) :: (Wm2 ++ W2)) H → va_D A ((no, .inl (cy 2, 1, .inr (.inl g2))) :: (Wm2 ++ W2)) → va_S A s.heap H locs → lv_has ls 8 [(4, .int i_), (3, .ref no), (2, .ref nm), (1, .ref nx), (0, .ref b)] → W p l e room_1 s m #[Value.ref b] below meth c H locs kc2 ks2 Q (F0 m 2150 ls [])) : W p l e room_1 s m #[Value.ref b] below meth c H locs kc ks Q (F0 m 1039 ls []) := by
  obtain ⟨hx, hb, hr, hml, hown, htA, hlk⟩ := id hX
  have hK := hE.1
  have hT0 := IC_T hI
  refine lv_aload_n hx hb dL_law_1039 rfl (lv_at hl 3 rfl) ?_
  refine lv_aload_n hx hb dL_law_1040 rfl (lv_at hl 4 rfl) ?_
  refine lv_iload hx hb dL_law_1041 (lv_at hl 0 rfl) ?_
  refine lv_iconst (v := 1) hx hb dL_law_1043 (by decide) ?_
  refine lv_iadd hx hb dL_law_1044 ?_
  refine va_sld hx hb hXs hbl hbA hS (lwi 1 hi) dL_law_1045 ?_
  refine lv_aload_n hx hb dL_law_1046 rfl (lv_at hl 1 rfl) ?_
  have hP : va_P D vwCl (Wm ++ ((no, .inl (cy 2, 1, .inr (.inl g))) :: Wc)) H := vP_pm hP List.perm_middle.symm
  have hD : va_D A (Wm ++ ((no, .inl (cy 2, 1, .inr (.inl g))) :: Wc)) := vD_pm hD List.perm_middle.symm
  refine kHi (As := [.ref nx, .int (xs (i_ + 1).toNatClampNeg), .ref no]) (rest := []) (wr := Wm) hX hE (H_hurts l hlt D cy nx S Wc no g (xs (i_ + 1).toNatClampNeg) hI) (cwHA 3 htA wd_1080 wd_1078 wd_0 wd_1079 (by decide +kernel) ⟨by decide, by decide⟩) hP hD hS (apR Wm ((no, .inl (cy 2, 1, .inr (.inl g))) :: Wc)) (List.range Wm.length) (ap_R Wm ((no, .inl (cy 2, 1, .inr (.inl g))) :: Wc)) (ap_C Wm ((no, .inl (cy 2, 1, .inr (.inl g))) :: Wc)) (ap_nd Wm ((no, .inl (cy 2, 1, .inr (.inl g))) :: Wc)) rfl hl.1 rfl (Nat.le_of_ble_eq_true rfl) dL_law_1047 ⟨rmC (by dsimp only; omega), rmS (by dsimp only; omega)⟩ (fun rc_ W1 H locs hw hP hD hS => ?_)
  refine W.widen (k := kc + 1) (n := ks + 6) (Nat.le_refl _) (Nat.le_refl _) ?_
  obtain ⟨g2, W2, Sn, hcs, hT2, hI2, rfl⟩ := hw
  have hP := vP_pm hP List.perm_middle
  have hD := vD_pm hD List.perm_middle
  refine lv_istore (lv' := [(5, .int rc_), (4, .int i_), (3, .ref no), (2, .ref nm), (1, .ref nx), (0, .ref b)]) hx hb dL_law_1050 hl (by decide) rfl (fun ls hl => ?_)
  refine lv_aload_n hx hb dL_law_1052 rfl (lv_at hl 3 rfl) ?_
  refine lv_aload_n hx hb dL_law_1053 rfl (lv_at hl 5 rfl) ?_
  refine lv_iload hx hb dL_law_1054 (lv_at hl 1 rfl) ?_
  refine lv_iconst (v := 1) hx hb dL_law_1056 (by decide) ?_
  refine lv_iadd hx hb dL_law_1057 ?_
  refine va_sld hx hb hXs hbl hbA hS (lwi 1 hi) dL_law_1058 ?_
  have hP : va_P D vwCl (((no, .inl (cy 2, 1, .inr (.inl g2))) :: W2) ++ Wm) H := vP_pm hP (List.Perm.cons _ List.perm_append_comm)
  have hD : va_D A (((no, .inl (cy 2, 1, .inr (.inl g2))) :: W2) ++ Wm) := vD_pm hD (List.Perm.cons _ List.perm_append_comm)
  obtain ⟨qM_, fM_, hqM⟩ := IMo_at hM
  refine kVi (As := [.int (xs (i_ + 1).toNatClampNeg)]) (rest := []) (wr := ((no, .inl (cy 2, 1, .inr (.inl g2))) :: W2)) hX hE (M_hurts l D cy nm h M Wm (xs (i_ + 1).toNatClampNeg) hM hlo (by omega)) (cwVA 1 htA wd_1910 wd_1907 wd_10 wd_1908 wd_1909 (by decide +kernel) ⟨by decide, by decide⟩) hP hD hS (apR ((no, .inl (cy 2, 1, .inr (.inl g2))) :: W2) Wm) (List.range ((no, .inl (cy 2, 1, .inr (.inl g2))) :: W2).length) (ap_R ((no, .inl (cy 2, 1, .inr (.inl g2))) :: W2) Wm) (ap_C ((no, .inl (cy 2, 1, .inr (.inl g2))) :: W2) Wm) (ap_nd ((no, .inl (cy 2, 1, .inr (.inl g2))) :: W2) Wm) qM_ hqM rfl rfl rfl hl.1 rfl (Nat.le_of_ble_eq_true rfl) dL_law_1059 ⟨rmC (by dsimp only; omega), rmS (by dsimp only; omega)⟩ (fun rr_ Wm2 H locs hw hP hD hS => ?_)
  obtain ⟨km_, Mn, hms, hM2⟩ := hw
  refine W.widen (k := kc + 1) (n := ks + 6) (Nat.le_refl _) (Nat.le_refl _) ?_
  refine lv_istore (lv' := [(6, .int rr_), (5, .int rc_), (4, .int i_), (3, .ref no), (2, .ref nm), (1, .ref nx), (0, .ref b)]) hx hb dL_law_1062 hl (by decide) rfl (fun ls hl => ?_)
  refine lv_goto (tgt := 2150) hx hb dL_law_1064 (by decide) ?_
  have hP : va_P D vwCl ((no, .inl (cy 2, 1, .inr (.inl g2))) :: (W2 ++ Wm2)) H := hP
  have hP := vP_pm hP (List.Perm.cons _ List.perm_append_comm)
  have hD := vD_pm hD (List.Perm.cons _ List.perm_append_comm)
  exact W.widen (k := kc + 1) (n := ks + 6) (Nat.le_refl _) (Nat.le_refl _) (kk Sn Mn W2 Wm2 g2 (kc + 1) (ks + 6) H locs ls hI2 ⟨_, hM2⟩ (sm_hurts hR hcs hms) (by omega) (by omega) hP hD hS (lv_sub hl [2, 3, 4, 5, 6] rfl))
set_option maxHeartbeats 4000000 in
set_option maxRecDepth 100000 in
theorem cs_25 (l : Launch) (hlt : l.stackTraces = false) {p : Program} {e : Env} {s : State} {m : MethodId} {below : List Frame} {meth : Method} {c : Code} {D : va_G} {cy : Nat → ClassId} {A : Nat → Prop} {b L : Nat} {xs : Nat → Int32} {Q : State → Prop} (hX : Ex p s m #[Value.ref b] meth c code ret 8 RL) (hE : Ew D cy A s) (hXs : va_X b L xs s s.heap) (hbl : b < s.heap.size) (hbA : ¬ A b) {nx nm no : Nat} {h : Int} {S : CSt} {M : MSt} {Wc Wm : va_W} {g : Nat → Int64} {kc ks : Nat} {i_ : Int32} {H : Heap} {locs : List Loc} {ls : Array Slot} (hI : IC cy nx S Wc) (hM : IMo cy nm h M Wm) (hR : RSM S M) (hlo : 999 ≤ h) (hhi : h + 2000 ≤ 1000000) (hkc : (kc : Int) + 2 * S.1.1.toInt ≤ 500000) (hks : (ks : Int) + 471 * S.1.1.toInt ≤ 7000000) (hi : 0 ≤ i_.toInt ∧ i_.toInt + 7 ≤ L ∧ L ≤ 3584) (hP : va_P D vwCl ((no, .inl (cy 2, 1, .inr (.inl g))) :: (Wm ++ Wc)) H) (hD : va_D A ((no, .inl (cy 2, 1, .inr (.inl g))) :: (Wm ++ Wc))) (hS : va_S A s.heap H locs) (hl : lv_has ls 8 [(4, .int i_), (3, .ref no), (2, .ref nm), (1, .ref nx), (0, .ref b)]) (kk : ∀ (S2 : CSt) (M2 : MSt) (W2 Wm2 : va_W) (g2 : Nat → Int64) (kc2 ks2 : Nat) (H : Heap) (locs : List Loc) (ls : Array Slot), IC cy nx S2 W2 → IMo cy nm (h + 900) M2 Wm2 → RSM S2 M2 → (kc2 : Int) + 2 * S2.1.1.toInt ≤ kc + 2 * S.1.1.toInt + 200 → (ks2 : Int) + 471 * S2.1.1.toInt ≤ ks + 471 * S.1.1.toInt + 9420 → va_P D vwCl ((no, .inl (cy 2, 1, .inr (.inl g2))) :: (Wm2 ++ W2)) H → va_D A ((no, .inl (cy 2, 1, .inr (.inl g2))) :: (Wm2 ++ W2)) → va_S A s.heap H locs → lv_has ls 8 [(4, .int i_), (3, .ref no), (2, .ref nm), (1, .ref nx), (0, .ref b)] → W p l e room_1 s m #[Value.ref b] below meth c H locs kc2 ks2 Q (F0 m 2150 ls [])) : W p l e room_1 s m #[Value.ref b] below meth c H locs kc ks Q (F0 m 1067 ls []) := by
  obtain ⟨hx, hb, hr, hml, hown, htA, hlk⟩ := id hX
  have hK := hE.1
  have hT0 := IC_T hI
  refine lv_aload_n hx hb dL_law_1067 rfl (lv_at hl 3 rfl) ?_
  refine lv_aload_n hx hb dL_law_1068 rfl (lv_at hl 4 rfl) ?_
  refine lv_iload hx hb dL_law_1069 (lv_at hl 0 rfl) ?_
  refine lv_iconst (v := 1) hx hb dL_law_1071 (by decide) ?_
  refine lv_iadd hx hb dL_law_1072 ?_
  refine va_sld hx hb hXs hbl hbA hS (lwi 1 hi) dL_law_1073 ?_
  refine lv_aload_n hx hb dL_law_1074 rfl (lv_at hl 4 rfl) ?_
  refine lv_iload hx hb dL_law_1075 (lv_at hl 0 rfl) ?_
  refine lv_iconst (v := 2) hx hb dL_law_1077 (by decide) ?_
  refine lv_iadd hx hb dL_law_1078 ?_
  refine va_sld hx hb hXs hbl hbA hS (lwi 2 hi) dL_law_1079 ?_
  refine lv_aload_n hx hb dL_law_1080 rfl (lv_at hl 1 rfl) ?_
  have hP : va_P D vwCl (Wm ++ ((no, .inl (cy 2, 1, .inr (.inl g))) :: Wc)) H := vP_pm hP List.perm_middle.symm
  have hD : va_D A (Wm ++ ((no, .inl (cy 2, 1, .inr (.inl g))) :: Wc)) := vD_pm hD List.perm_middle.symm
  refine kHi (As := [.ref nx, .int (xs (i_ + 1).toNatClampNeg), .int (xs (i_ + 2).toNatClampNeg), .ref no]) (rest := []) (wr := Wm) hX hE (H_spares l hlt D cy nx S Wc no g (xs (i_ + 1).toNatClampNeg) (xs (i_ + 2).toNatClampNeg) hI) (cwHA 4 htA wd_1093 wd_1091 wd_0 wd_1092 (by decide +kernel) ⟨by decide, by decide⟩) hP hD hS (apR Wm ((no, .inl (cy 2, 1, .inr (.inl g))) :: Wc)) (List.range Wm.length) (ap_R Wm ((no, .inl (cy 2, 1, .inr (.inl g))) :: Wc)) (ap_C Wm ((no, .inl (cy 2, 1, .inr (.inl g))) :: Wc)) (ap_nd Wm ((no, .inl (cy 2, 1, .inr (.inl g))) :: Wc)) rfl hl.1 rfl (Nat.le_of_ble_eq_true rfl) dL_law_1081 ⟨rmC (by dsimp only; omega), rmS (by dsimp only; omega)⟩ (fun rc_ W1 H locs hw hP hD hS => ?_)
  refine W.widen (k := kc + 2) (n := ks + 12) (Nat.le_refl _) (Nat.le_refl _) ?_
  obtain ⟨g2, W2, Sn, hcs, hT2, hI2, rfl⟩ := hw
  have hP := vP_pm hP List.perm_middle
  have hD := vD_pm hD List.perm_middle
  refine lv_istore (lv' := [(5, .int rc_), (4, .int i_), (3, .ref no), (2, .ref nm), (1, .ref nx), (0, .ref b)]) hx hb dL_law_1084 hl (by decide) rfl (fun ls hl => ?_)
  refine lv_aload_n hx hb dL_law_1086 rfl (lv_at hl 3 rfl) ?_
  refine lv_aload_n hx hb dL_law_1087 rfl (lv_at hl 5 rfl) ?_
  refine lv_iload hx hb dL_law_1088 (lv_at hl 1 rfl) ?_
  refine lv_iconst (v := 1) hx hb dL_law_1090 (by decide) ?_
  refine lv_iadd hx hb dL_law_1091 ?_
  refine va_sld hx hb hXs hbl hbA hS (lwi 1 hi) dL_law_1092 ?_
  refine lv_aload_n hx hb dL_law_1093 rfl (lv_at hl 5 rfl) ?_
  refine lv_iload hx hb dL_law_1094 (lv_at hl 1 rfl) ?_
  refine lv_iconst (v := 2) hx hb dL_law_1096 (by decide) ?_
  refine lv_iadd hx hb dL_law_1097 ?_
  refine va_sld hx hb hXs hbl hbA hS (lwi 2 hi) dL_law_1098 ?_
  have hP : va_P D vwCl (((no, .inl (cy 2, 1, .inr (.inl g2))) :: W2) ++ Wm) H := vP_pm hP (List.Perm.cons _ List.perm_append_comm)
  have hD : va_D A (((no, .inl (cy 2, 1, .inr (.inl g2))) :: W2) ++ Wm) := vD_pm hD (List.Perm.cons _ List.perm_append_comm)
  obtain ⟨qM_, fM_, hqM⟩ := IMo_at hM
  refine kVi (As := [.int (xs (i_ + 1).toNatClampNeg), .int (xs (i_ + 2).toNatClampNeg)]) (rest := []) (wr := ((no, .inl (cy 2, 1, .inr (.inl g2))) :: W2)) hX hE (M_spares l D cy nm h M Wm (xs (i_ + 1).toNatClampNeg) (xs (i_ + 2).toNatClampNeg) hM hlo (by omega)) (cwVA 2 htA wd_1918 wd_1915 wd_10 wd_1916 wd_1917 (by decide +kernel) ⟨by decide, by decide⟩) hP hD hS (apR ((no, .inl (cy 2, 1, .inr (.inl g2))) :: W2) Wm) (List.range ((no, .inl (cy 2, 1, .inr (.inl g2))) :: W2).length) (ap_R ((no, .inl (cy 2, 1, .inr (.inl g2))) :: W2) Wm) (ap_C ((no, .inl (cy 2, 1, .inr (.inl g2))) :: W2) Wm) (ap_nd ((no, .inl (cy 2, 1, .inr (.inl g2))) :: W2) Wm) qM_ hqM rfl rfl rfl hl.1 rfl (Nat.le_of_ble_eq_true rfl) dL_law_1099 ⟨rmC (by dsimp only; omega), rmS (by dsimp only; omega)⟩ (fun rr_ Wm2 H locs hw hP hD hS => ?_)
  obtain ⟨km_, Mn, hms, hM2⟩ := hw
  refine W.widen (k := kc + 2) (n := ks + 12) (Nat.le_refl _) (Nat.le_refl _) ?_
  refine lv_istore (lv' := [(6, .int rr_), (5, .int rc_), (4, .int i_), (3, .ref no), (2, .ref nm), (1, .ref nx), (0, .ref b)]) hx hb dL_law_1102 hl (by decide) rfl (fun ls hl => ?_)
  refine lv_goto (tgt := 2150) hx hb dL_law_1104 (by decide) ?_
  have hP : va_P D vwCl ((no, .inl (cy 2, 1, .inr (.inl g2))) :: (W2 ++ Wm2)) H := hP
  have hP := vP_pm hP (List.Perm.cons _ List.perm_append_comm)
  have hD := vD_pm hD (List.Perm.cons _ List.perm_append_comm)
  exact W.widen (k := kc + 2) (n := ks + 12) (Nat.le_refl _) (Nat.le_refl _) (kk Sn Mn W2 Wm2 g2 (kc + 2) (ks + 12) H locs ls hI2 ⟨_, hM2⟩ (sm_spares hR hcs hms) (by omega) (by omega) hP hD hS (lv_sub hl [2, 3, 4, 5, 6] rfl))
set_option maxHeartbeats 4000000 in
set_option maxRecDepth 100000 in
theorem cs_26 (l : Launch) (hlt : l.stackTraces = false) {p : Program} {e : Env} {s : State} {m : MethodId} {below : List Frame} {meth : Method} {c : Code} {D : va_G} {cy : Nat → ClassId} {A : Nat → Prop} {b L : Nat} {xs : Nat → Int32} {Q : State → Prop} (hX : Ex p s m #[Value.ref b] meth c code ret 8 RL) (hE : Ew D cy A s) (hXs : va_X b L xs s s.heap) (hbl : b < s.heap.size) (hbA : ¬ A b) {nx nm no : Nat} {h : Int} {S : CSt} {M : MSt} {Wc Wm : va_W} {g : Nat → Int64} {kc ks : Nat} {i_ : Int32} {H : Heap} {locs : List Loc} {ls : Array Slot} (hI : IC cy nx S Wc) (hM : IMo cy nm h M Wm) (hR : RSM S M) (hlo : 999 ≤ h) (hhi : h + 2000 ≤ 1000000) (hkc : (kc : Int) + 2 * S.1.1.toInt ≤ 500000) (hks : (ks : Int) + 471 * S.1.1.toInt ≤ 7000000) (hi : 0 ≤ i_.toInt ∧ i_.toInt + 7 ≤ L ∧ L ≤ 3584) (hP : va_P D vwCl ((no, .inl (cy 2, 1, .inr (.inl g))) :: (Wm ++ Wc)) H) (hD : va_D A ((no, .inl (cy 2, 1, .inr (.inl g))) :: (Wm ++ Wc))) (hS : va_S A s.heap H locs) (hl : lv_has ls 8 [(4, .int i_), (3, .ref no), (2, .ref nm), (1, .ref nx), (0, .ref b)]) (kk : ∀ (S2 : CSt) (M2 : MSt) (W2 Wm2 : va_W) (g2 : Nat → Int64) (kc2 ks2 : Nat) (H : Heap) (locs : List Loc) (ls : Array Slot), IC cy nx S2 W2 → IMo cy nm (h + 900) M2 Wm2 → RSM S2 M2 → (kc2 : Int) + 2 * S2.1.1.toInt ≤ kc + 2 * S.1.1.toInt + 200 → (ks2 : Int) + 471 * S2.1.1.toInt ≤ ks + 471 * S.1.1.toInt + 9420 → va_P D vwCl ((no, .inl (cy 2, 1, .inr (.inl g2))) :: (Wm2 ++ W2)) H → va_D A ((no, .inl (cy 2, 1, .inr (.inl g2))) :: (Wm2 ++ W2)) → va_S A s.heap H locs → lv_has ls 8 [(4, .int i_), (3, .ref no), (2, .ref nm), (1, .ref nx), (0, .ref b)] → W p l e room_1 s m #[Value.ref b] below meth c H locs kc2 ks2 Q (F0 m 2150 ls [])) : W p l e room_1 s m #[Value.ref b] below meth c H locs kc ks Q (F0 m 1107 ls []) := by
  obtain ⟨hx, hb, hr, hml, hown, htA, hlk⟩ := id hX
  have hK := hE.1
  have hT0 := IC_T hI
  refine lv_aload_n hx hb dL_law_1107 rfl (lv_at hl 3 rfl) ?_
  refine lv_aload_n hx hb dL_law_1108 rfl (lv_at hl 4 rfl) ?_
  refine lv_iload hx hb dL_law_1109 (lv_at hl 0 rfl) ?_
  refine lv_iconst (v := 1) hx hb dL_law_1111 (by decide) ?_
  refine lv_iadd hx hb dL_law_1112 ?_
  refine va_sld hx hb hXs hbl hbA hS (lwi 1 hi) dL_law_1113 ?_
  refine lv_aload_n hx hb dL_law_1114 rfl (lv_at hl 4 rfl) ?_
  refine lv_iload hx hb dL_law_1115 (lv_at hl 0 rfl) ?_
  refine lv_iconst (v := 2) hx hb dL_law_1117 (by decide) ?_
  refine lv_iadd hx hb dL_law_1118 ?_
  refine va_sld hx hb hXs hbl hbA hS (lwi 2 hi) dL_law_1119 ?_
  refine lv_aload_n hx hb dL_law_1120 rfl (lv_at hl 4 rfl) ?_
  refine lv_iload hx hb dL_law_1121 (lv_at hl 0 rfl) ?_
  refine lv_iconst (v := 3) hx hb dL_law_1123 (by decide) ?_
  refine lv_iadd hx hb dL_law_1124 ?_
  refine va_sld hx hb hXs hbl hbA hS (lwi 3 hi) dL_law_1125 ?_
  refine lv_aload_n hx hb dL_law_1126 rfl (lv_at hl 4 rfl) ?_
  refine lv_iload hx hb dL_law_1127 (lv_at hl 0 rfl) ?_
  refine lv_iconst (v := 4) hx hb dL_law_1129 (by decide) ?_
  refine lv_iadd hx hb dL_law_1130 ?_
  refine va_sld hx hb hXs hbl hbA hS (lwi 4 hi) dL_law_1131 ?_
  refine lv_aload_n hx hb dL_law_1132 rfl (lv_at hl 1 rfl) ?_
  have hP : va_P D vwCl (Wm ++ ((no, .inl (cy 2, 1, .inr (.inl g))) :: Wc)) H := vP_pm hP List.perm_middle.symm
  have hD : va_D A (Wm ++ ((no, .inl (cy 2, 1, .inr (.inl g))) :: Wc)) := vD_pm hD List.perm_middle.symm
  refine kHi (As := [.ref nx, .int (xs (i_ + 1).toNatClampNeg), .int (xs (i_ + 2).toNatClampNeg), .int (xs (i_ + 3).toNatClampNeg), .int (xs (i_ + 4).toNatClampNeg), .ref no]) (rest := []) (wr := Wm) hX hE (H_fallsBy l hlt D cy nx S Wc no g (xs (i_ + 1).toNatClampNeg) (xs (i_ + 2).toNatClampNeg) (xs (i_ + 3).toNatClampNeg) (xs (i_ + 4).toNatClampNeg) hI) (cwHA 6 htA wd_1100 wd_1098 wd_0 wd_1099 (by decide +kernel) ⟨by decide, by decide⟩) hP hD hS (apR Wm ((no, .inl (cy 2, 1, .inr (.inl g))) :: Wc)) (List.range Wm.length) (ap_R Wm ((no, .inl (cy 2, 1, .inr (.inl g))) :: Wc)) (ap_C Wm ((no, .inl (cy 2, 1, .inr (.inl g))) :: Wc)) (ap_nd Wm ((no, .inl (cy 2, 1, .inr (.inl g))) :: Wc)) rfl hl.1 rfl (Nat.le_of_ble_eq_true rfl) dL_law_1133 ⟨rmC (by dsimp only; omega), rmS (by dsimp only; omega)⟩ (fun rc_ W1 H locs hw hP hD hS => ?_)
  refine W.widen (k := kc + 4) (n := ks + 24) (Nat.le_refl _) (Nat.le_refl _) ?_
  obtain ⟨g2, W2, Sn, hcs, hT2, hI2, rfl⟩ := hw
  have hP := vP_pm hP List.perm_middle
  have hD := vD_pm hD List.perm_middle
  refine lv_istore (lv' := [(5, .int rc_), (4, .int i_), (3, .ref no), (2, .ref nm), (1, .ref nx), (0, .ref b)]) hx hb dL_law_1136 hl (by decide) rfl (fun ls hl => ?_)
  refine lv_aload_n hx hb dL_law_1138 rfl (lv_at hl 3 rfl) ?_
  refine lv_aload_n hx hb dL_law_1139 rfl (lv_at hl 5 rfl) ?_
  refine lv_iload hx hb dL_law_1140 (lv_at hl 1 rfl) ?_
  refine lv_iconst (v := 1) hx hb dL_law_1142 (by decide) ?_
  refine lv_iadd hx hb dL_law_1143 ?_
  refine va_sld hx hb hXs hbl hbA hS (lwi 1 hi) dL_law_1144 ?_
  refine lv_aload_n hx hb dL_law_1145 rfl (lv_at hl 5 rfl) ?_
  refine lv_iload hx hb dL_law_1146 (lv_at hl 1 rfl) ?_
  refine lv_iconst (v := 2) hx hb dL_law_1148 (by decide) ?_
  refine lv_iadd hx hb dL_law_1149 ?_
  refine va_sld hx hb hXs hbl hbA hS (lwi 2 hi) dL_law_1150 ?_
  refine lv_aload_n hx hb dL_law_1151 rfl (lv_at hl 5 rfl) ?_
  refine lv_iload hx hb dL_law_1152 (lv_at hl 1 rfl) ?_
  refine lv_iconst (v := 3) hx hb dL_law_1154 (by decide) ?_
  refine lv_iadd hx hb dL_law_1155 ?_
  refine va_sld hx hb hXs hbl hbA hS (lwi 3 hi) dL_law_1156 ?_
  refine lv_aload_n hx hb dL_law_1157 rfl (lv_at hl 5 rfl) ?_
  refine lv_iload hx hb dL_law_1158 (lv_at hl 1 rfl) ?_
  refine lv_iconst (v := 4) hx hb dL_law_1160 (by decide) ?_
  refine lv_iadd hx hb dL_law_1161 ?_
  refine va_sld hx hb hXs hbl hbA hS (lwi 4 hi) dL_law_1162 ?_
  have hP : va_P D vwCl (((no, .inl (cy 2, 1, .inr (.inl g2))) :: W2) ++ Wm) H := vP_pm hP (List.Perm.cons _ List.perm_append_comm)
  have hD : va_D A (((no, .inl (cy 2, 1, .inr (.inl g2))) :: W2) ++ Wm) := vD_pm hD (List.Perm.cons _ List.perm_append_comm)
  obtain ⟨qM_, fM_, hqM⟩ := IMo_at hM
  refine kVi (As := [.int (xs (i_ + 1).toNatClampNeg), .int (xs (i_ + 2).toNatClampNeg), .int (xs (i_ + 3).toNatClampNeg), .int (xs (i_ + 4).toNatClampNeg)]) (rest := []) (wr := ((no, .inl (cy 2, 1, .inr (.inl g2))) :: W2)) hX hE (M_fallsBy l D cy nm h M Wm (xs (i_ + 1).toNatClampNeg) (xs (i_ + 2).toNatClampNeg) (xs (i_ + 3).toNatClampNeg) (xs (i_ + 4).toNatClampNeg) hM hlo (by omega)) (cwVA 4 htA wd_1922 wd_1919 wd_10 wd_1920 wd_1921 (by decide +kernel) ⟨by decide, by decide⟩) hP hD hS (apR ((no, .inl (cy 2, 1, .inr (.inl g2))) :: W2) Wm) (List.range ((no, .inl (cy 2, 1, .inr (.inl g2))) :: W2).length) (ap_R ((no, .inl (cy 2, 1, .inr (.inl g2))) :: W2) Wm) (ap_C ((no, .inl (cy 2, 1, .inr (.inl g2))) :: W2) Wm) (ap_nd ((no, .inl (cy 2, 1, .inr (.inl g2))) :: W2) Wm) qM_ hqM rfl rfl rfl hl.1 rfl (Nat.le_of_ble_eq_true rfl) dL_law_1163 ⟨rmC (by dsimp only; omega), rmS (by dsimp only; omega)⟩ (fun rr_ Wm2 H locs hw hP hD hS => ?_)
  obtain ⟨km_, Mn, hms, hM2⟩ := hw
  refine W.widen (k := kc + 4) (n := ks + 24) (Nat.le_refl _) (Nat.le_refl _) ?_
  refine lv_istore (lv' := [(6, .int rr_), (5, .int rc_), (4, .int i_), (3, .ref no), (2, .ref nm), (1, .ref nx), (0, .ref b)]) hx hb dL_law_1166 hl (by decide) rfl (fun ls hl => ?_)
  refine lv_goto (tgt := 2150) hx hb dL_law_1168 (by decide) ?_
  have hP : va_P D vwCl ((no, .inl (cy 2, 1, .inr (.inl g2))) :: (W2 ++ Wm2)) H := hP
  have hP := vP_pm hP (List.Perm.cons _ List.perm_append_comm)
  have hD := vD_pm hD (List.Perm.cons _ List.perm_append_comm)
  exact W.widen (k := kc + 4) (n := ks + 24) (Nat.le_refl _) (Nat.le_refl _) (kk Sn Mn W2 Wm2 g2 (kc + 4) (ks + 24) H locs ls hI2 ⟨_, hM2⟩ (sm_fallsBy hR hcs hms) (by omega) (by omega) hP hD hS (lv_sub hl [2, 3, 4, 5, 6] rfl))
set_option maxHeartbeats 4000000 in
set_option maxRecDepth 100000 in
theorem cs_27 (l : Launch) (hlt : l.stackTraces = false) {p : Program} {e : Env} {s : State} {m : MethodId} {below : List Frame} {meth : Method} {c : Code} {D : va_G} {cy : Nat → ClassId} {A : Nat → Prop} {b L : Nat} {xs : Nat → Int32} {Q : State → Prop} (hX : Ex p s m #[Value.ref b] meth c code ret 8 RL) (hE : Ew D cy A s) (hXs : va_X b L xs s s.heap) (hbl : b < s.heap.size) (hbA : ¬ A b) {nx nm no : Nat} {h : Int} {S : CSt} {M : MSt} {Wc Wm : va_W} {g : Nat → Int64} {kc ks : Nat} {i_ : Int32} {H : Heap} {locs : List Loc} {ls : Array Slot} (hI : IC cy nx S Wc) (hM : IMo cy nm h M Wm) (hR : RSM S M) (hlo : 999 ≤ h) (hhi : h + 2000 ≤ 1000000) (hkc : (kc : Int) + 2 * S.1.1.toInt ≤ 500000) (hks : (ks : Int) + 471 * S.1.1.toInt ≤ 7000000) (hi : 0 ≤ i_.toInt ∧ i_.toInt + 7 ≤ L ∧ L ≤ 3584) (hP : va_P D vwCl ((no, .inl (cy 2, 1, .inr (.inl g))) :: (Wm ++ Wc)) H) (hD : va_D A ((no, .inl (cy 2, 1, .inr (.inl g))) :: (Wm ++ Wc))) (hS : va_S A s.heap H locs) (hl : lv_has ls 8 [(4, .int i_), (3, .ref no), (2, .ref nm), (1, .ref nx), (0, .ref b)]) (kk : ∀ (S2 : CSt) (M2 : MSt) (W2 Wm2 : va_W) (g2 : Nat → Int64) (kc2 ks2 : Nat) (H : Heap) (locs : List Loc) (ls : Array Slot), IC cy nx S2 W2 → IMo cy nm (h + 900) M2 Wm2 → RSM S2 M2 → (kc2 : Int) + 2 * S2.1.1.toInt ≤ kc + 2 * S.1.1.toInt + 200 → (ks2 : Int) + 471 * S2.1.1.toInt ≤ ks + 471 * S.1.1.toInt + 9420 → va_P D vwCl ((no, .inl (cy 2, 1, .inr (.inl g2))) :: (Wm2 ++ W2)) H → va_D A ((no, .inl (cy 2, 1, .inr (.inl g2))) :: (Wm2 ++ W2)) → va_S A s.heap H locs → lv_has ls 8 [(4, .int i_), (3, .ref no), (2, .ref nm), (1, .ref nx), (0, .ref b)] → W p l e room_1 s m #[Value.ref b] below meth c H locs kc2 ks2 Q (F0 m 2150 ls [])) : W p l e room_1 s m #[Value.ref b] below meth c H locs kc ks Q (F0 m 1171 ls []) := by
  obtain ⟨hx, hb, hr, hml, hown, htA, hlk⟩ := id hX
  have hK := hE.1
  have hT0 := IC_T hI
  refine lv_aload_n hx hb dL_law_1171 rfl (lv_at hl 3 rfl) ?_
  refine lv_aload_n hx hb dL_law_1172 rfl (lv_at hl 4 rfl) ?_
  refine lv_iload hx hb dL_law_1173 (lv_at hl 0 rfl) ?_
  refine lv_iconst (v := 1) hx hb dL_law_1175 (by decide) ?_
  refine lv_iadd hx hb dL_law_1176 ?_
  refine va_sld hx hb hXs hbl hbA hS (lwi 1 hi) dL_law_1177 ?_
  refine lv_aload_n hx hb dL_law_1178 rfl (lv_at hl 4 rfl) ?_
  refine lv_iload hx hb dL_law_1179 (lv_at hl 0 rfl) ?_
  refine lv_iconst (v := 2) hx hb dL_law_1181 (by decide) ?_
  refine lv_iadd hx hb dL_law_1182 ?_
  refine va_sld hx hb hXs hbl hbA hS (lwi 2 hi) dL_law_1183 ?_
  refine lv_aload_n hx hb dL_law_1184 rfl (lv_at hl 4 rfl) ?_
  refine lv_iload hx hb dL_law_1185 (lv_at hl 0 rfl) ?_
  refine lv_iconst (v := 3) hx hb dL_law_1187 (by decide) ?_
  refine lv_iadd hx hb dL_law_1188 ?_
  refine va_sld hx hb hXs hbl hbA hS (lwi 3 hi) dL_law_1189 ?_
  refine lv_aload_n hx hb dL_law_1190 rfl (lv_at hl 4 rfl) ?_
  refine lv_iload hx hb dL_law_1191 (lv_at hl 0 rfl) ?_
  refine lv_iconst (v := 4) hx hb dL_law_1193 (by decide) ?_
  refine lv_iadd hx hb dL_law_1194 ?_
  refine va_sld hx hb hXs hbl hbA hS (lwi 4 hi) dL_law_1195 ?_
  refine lv_aload_n hx hb dL_law_1196 rfl (lv_at hl 1 rfl) ?_
  have hP : va_P D vwCl (Wm ++ ((no, .inl (cy 2, 1, .inr (.inl g))) :: Wc)) H := vP_pm hP List.perm_middle.symm
  have hD : va_D A (Wm ++ ((no, .inl (cy 2, 1, .inr (.inl g))) :: Wc)) := vD_pm hD List.perm_middle.symm
  refine kHi (As := [.ref nx, .int (xs (i_ + 1).toNatClampNeg), .int (xs (i_ + 2).toNatClampNeg), .int (xs (i_ + 3).toNatClampNeg), .int (xs (i_ + 4).toNatClampNeg), .ref no]) (rest := []) (wr := Wm) hX hE (H_waitFor l hlt D cy nx S Wc no g (xs (i_ + 1).toNatClampNeg) (xs (i_ + 2).toNatClampNeg) (xs (i_ + 3).toNatClampNeg) (xs (i_ + 4).toNatClampNeg) hI) (cwHA 6 htA wd_1122 wd_1120 wd_0 wd_1121 (by decide +kernel) ⟨by decide, by decide⟩) hP hD hS (apR Wm ((no, .inl (cy 2, 1, .inr (.inl g))) :: Wc)) (List.range Wm.length) (ap_R Wm ((no, .inl (cy 2, 1, .inr (.inl g))) :: Wc)) (ap_C Wm ((no, .inl (cy 2, 1, .inr (.inl g))) :: Wc)) (ap_nd Wm ((no, .inl (cy 2, 1, .inr (.inl g))) :: Wc)) rfl hl.1 rfl (Nat.le_of_ble_eq_true rfl) dL_law_1197 ⟨rmC (by dsimp only; omega), rmS (by dsimp only; omega)⟩ (fun rc_ W1 H locs hw hP hD hS => ?_)
  refine W.widen (k := kc + 4) (n := ks + 24) (Nat.le_refl _) (Nat.le_refl _) ?_
  obtain ⟨g2, W2, Sn, hcs, hT2, hI2, rfl⟩ := hw
  have hP := vP_pm hP List.perm_middle
  have hD := vD_pm hD List.perm_middle
  refine lv_istore (lv' := [(5, .int rc_), (4, .int i_), (3, .ref no), (2, .ref nm), (1, .ref nx), (0, .ref b)]) hx hb dL_law_1200 hl (by decide) rfl (fun ls hl => ?_)
  refine lv_aload_n hx hb dL_law_1202 rfl (lv_at hl 3 rfl) ?_
  refine lv_aload_n hx hb dL_law_1203 rfl (lv_at hl 5 rfl) ?_
  refine lv_iload hx hb dL_law_1204 (lv_at hl 1 rfl) ?_
  refine lv_iconst (v := 1) hx hb dL_law_1206 (by decide) ?_
  refine lv_iadd hx hb dL_law_1207 ?_
  refine va_sld hx hb hXs hbl hbA hS (lwi 1 hi) dL_law_1208 ?_
  refine lv_aload_n hx hb dL_law_1209 rfl (lv_at hl 5 rfl) ?_
  refine lv_iload hx hb dL_law_1210 (lv_at hl 1 rfl) ?_
  refine lv_iconst (v := 2) hx hb dL_law_1212 (by decide) ?_
  refine lv_iadd hx hb dL_law_1213 ?_
  refine va_sld hx hb hXs hbl hbA hS (lwi 2 hi) dL_law_1214 ?_
  refine lv_aload_n hx hb dL_law_1215 rfl (lv_at hl 5 rfl) ?_
  refine lv_iload hx hb dL_law_1216 (lv_at hl 1 rfl) ?_
  refine lv_iconst (v := 3) hx hb dL_law_1218 (by decide) ?_
  refine lv_iadd hx hb dL_law_1219 ?_
  refine va_sld hx hb hXs hbl hbA hS (lwi 3 hi) dL_law_1220 ?_
  refine lv_aload_n hx hb dL_law_1221 rfl (lv_at hl 5 rfl) ?_
  refine lv_iload hx hb dL_law_1222 (lv_at hl 1 rfl) ?_
  refine lv_iconst (v := 4) hx hb dL_law_1224 (by decide) ?_
  refine lv_iadd hx hb dL_law_1225 ?_
  refine va_sld hx hb hXs hbl hbA hS (lwi 4 hi) dL_law_1226 ?_
  have hP : va_P D vwCl (((no, .inl (cy 2, 1, .inr (.inl g2))) :: W2) ++ Wm) H := vP_pm hP (List.Perm.cons _ List.perm_append_comm)
  have hD : va_D A (((no, .inl (cy 2, 1, .inr (.inl g2))) :: W2) ++ Wm) := vD_pm hD (List.Perm.cons _ List.perm_append_comm)
  obtain ⟨qM_, fM_, hqM⟩ := IMo_at hM
  refine kVi (As := [.int (xs (i_ + 1).toNatClampNeg), .int (xs (i_ + 2).toNatClampNeg), .int (xs (i_ + 3).toNatClampNeg), .int (xs (i_ + 4).toNatClampNeg)]) (rest := []) (wr := ((no, .inl (cy 2, 1, .inr (.inl g2))) :: W2)) hX hE (M_waitFor l D cy nm h M Wm (xs (i_ + 1).toNatClampNeg) (xs (i_ + 2).toNatClampNeg) (xs (i_ + 3).toNatClampNeg) (xs (i_ + 4).toNatClampNeg) hM hlo (by omega)) (cwVA 4 htA wd_1935 wd_1932 wd_10 wd_1933 wd_1934 (by decide +kernel) ⟨by decide, by decide⟩) hP hD hS (apR ((no, .inl (cy 2, 1, .inr (.inl g2))) :: W2) Wm) (List.range ((no, .inl (cy 2, 1, .inr (.inl g2))) :: W2).length) (ap_R ((no, .inl (cy 2, 1, .inr (.inl g2))) :: W2) Wm) (ap_C ((no, .inl (cy 2, 1, .inr (.inl g2))) :: W2) Wm) (ap_nd ((no, .inl (cy 2, 1, .inr (.inl g2))) :: W2) Wm) qM_ hqM rfl rfl rfl hl.1 rfl (Nat.le_of_ble_eq_true rfl) dL_law_1227 ⟨rmC (by dsimp only; omega), rmS (by dsimp only; omega)⟩ (fun rr_ Wm2 H locs hw hP hD hS => ?_)
  obtain ⟨km_, Mn, hms, hM2⟩ := hw
  refine W.widen (k := kc + 4) (n := ks + 24) (Nat.le_refl _) (Nat.le_refl _) ?_
  refine lv_istore (lv' := [(6, .int rr_), (5, .int rc_), (4, .int i_), (3, .ref no), (2, .ref nm), (1, .ref nx), (0, .ref b)]) hx hb dL_law_1230 hl (by decide) rfl (fun ls hl => ?_)
  refine lv_goto (tgt := 2150) hx hb dL_law_1232 (by decide) ?_
  have hP : va_P D vwCl ((no, .inl (cy 2, 1, .inr (.inl g2))) :: (W2 ++ Wm2)) H := hP
  have hP := vP_pm hP (List.Perm.cons _ List.perm_append_comm)
  have hD := vD_pm hD (List.Perm.cons _ List.perm_append_comm)
  exact W.widen (k := kc + 4) (n := ks + 24) (Nat.le_refl _) (Nat.le_refl _) (kk Sn Mn W2 Wm2 g2 (kc + 4) (ks + 24) H locs ls hI2 ⟨_, hM2⟩ (sm_waitFor hR hcs hms) (by omega) (by omega) hP hD hS (lv_sub hl [2, 3, 4, 5, 6] rfl))
set_option maxHeartbeats 4000000 in
set_option maxRecDepth 100000 in
theorem cs_28 (l : Launch) (hlt : l.stackTraces = false) {p : Program} {e : Env} {s : State} {m : MethodId} {below : List Frame} {meth : Method} {c : Code} {D : va_G} {cy : Nat → ClassId} {A : Nat → Prop} {b L : Nat} {xs : Nat → Int32} {Q : State → Prop} (hX : Ex p s m #[Value.ref b] meth c code ret 8 RL) (hE : Ew D cy A s) (hXs : va_X b L xs s s.heap) (hbl : b < s.heap.size) (hbA : ¬ A b) {nx nm no : Nat} {h : Int} {S : CSt} {M : MSt} {Wc Wm : va_W} {g : Nat → Int64} {kc ks : Nat} {i_ : Int32} {H : Heap} {locs : List Loc} {ls : Array Slot} (hI : IC cy nx S Wc) (hM : IMo cy nm h M Wm) (hR : RSM S M) (hlo : 999 ≤ h) (hhi : h + 2000 ≤ 1000000) (hkc : (kc : Int) + 2 * S.1.1.toInt ≤ 500000) (hks : (ks : Int) + 471 * S.1.1.toInt ≤ 7000000) (hi : 0 ≤ i_.toInt ∧ i_.toInt + 7 ≤ L ∧ L ≤ 3584) (hP : va_P D vwCl ((no, .inl (cy 2, 1, .inr (.inl g))) :: (Wm ++ Wc)) H) (hD : va_D A ((no, .inl (cy 2, 1, .inr (.inl g))) :: (Wm ++ Wc))) (hS : va_S A s.heap H locs) (hl : lv_has ls 8 [(4, .int i_), (3, .ref no), (2, .ref nm), (1, .ref nx), (0, .ref b)]) (kk : ∀ (S2 : CSt) (M2 : MSt) (W2 Wm2 : va_W) (g2 : Nat → Int64) (kc2 ks2 : Nat) (H : Heap) (locs : List Loc) (ls : Array Slot), IC cy nx S2 W2 → IMo cy nm (h + 900) M2 Wm2 → RSM S2 M2 → (kc2 : Int) + 2 * S2.1.1.toInt ≤ kc + 2 * S.1.1.toInt + 200 → (ks2 : Int) + 471 * S2.1.1.toInt ≤ ks + 471 * S.1.1.toInt + 9420 → va_P D vwCl ((no, .inl (cy 2, 1, .inr (.inl g2))) :: (Wm2 ++ W2)) H → va_D A ((no, .inl (cy 2, 1, .inr (.inl g2))) :: (Wm2 ++ W2)) → va_S A s.heap H locs → lv_has ls 8 [(4, .int i_), (3, .ref no), (2, .ref nm), (1, .ref nx), (0, .ref b)] → W p l e room_1 s m #[Value.ref b] below meth c H locs kc2 ks2 Q (F0 m 2150 ls [])) : W p l e room_1 s m #[Value.ref b] below meth c H locs kc ks Q (F0 m 1235 ls []) := by
  obtain ⟨hx, hb, hr, hml, hown, htA, hlk⟩ := id hX
  have hK := hE.1
  have hT0 := IC_T hI
  refine lv_aload_n hx hb dL_law_1235 rfl (lv_at hl 3 rfl) ?_
  refine lv_aload_n hx hb dL_law_1236 rfl (lv_at hl 4 rfl) ?_
  refine lv_iload hx hb dL_law_1237 (lv_at hl 0 rfl) ?_
  refine lv_iconst (v := 1) hx hb dL_law_1239 (by decide) ?_
  refine lv_iadd hx hb dL_law_1240 ?_
  refine va_sld hx hb hXs hbl hbA hS (lwi 1 hi) dL_law_1241 ?_
  refine lv_aload_n hx hb dL_law_1242 rfl (lv_at hl 4 rfl) ?_
  refine lv_iload hx hb dL_law_1243 (lv_at hl 0 rfl) ?_
  refine lv_iconst (v := 2) hx hb dL_law_1245 (by decide) ?_
  refine lv_iadd hx hb dL_law_1246 ?_
  refine va_sld hx hb hXs hbl hbA hS (lwi 2 hi) dL_law_1247 ?_
  refine lv_aload_n hx hb dL_law_1248 rfl (lv_at hl 4 rfl) ?_
  refine lv_iload hx hb dL_law_1249 (lv_at hl 0 rfl) ?_
  refine lv_iconst (v := 3) hx hb dL_law_1251 (by decide) ?_
  refine lv_iadd hx hb dL_law_1252 ?_
  refine va_sld hx hb hXs hbl hbA hS (lwi 3 hi) dL_law_1253 ?_
  refine lv_aload_n hx hb dL_law_1254 rfl (lv_at hl 1 rfl) ?_
  have hP : va_P D vwCl (Wm ++ ((no, .inl (cy 2, 1, .inr (.inl g))) :: Wc)) H := vP_pm hP List.perm_middle.symm
  have hD : va_D A (Wm ++ ((no, .inl (cy 2, 1, .inr (.inl g))) :: Wc)) := vD_pm hD List.perm_middle.symm
  refine kHi (As := [.ref nx, .int (xs (i_ + 1).toNatClampNeg), .int (xs (i_ + 2).toNatClampNeg), .int (xs (i_ + 3).toNatClampNeg), .ref no]) (rest := []) (wr := Wm) hX hE (H_waitSafe l hlt D cy nx S Wc no g (xs (i_ + 1).toNatClampNeg) (xs (i_ + 2).toNatClampNeg) (xs (i_ + 3).toNatClampNeg) hI) (cwHA 5 htA wd_1129 wd_1127 wd_0 wd_1128 (by decide +kernel) ⟨by decide, by decide⟩) hP hD hS (apR Wm ((no, .inl (cy 2, 1, .inr (.inl g))) :: Wc)) (List.range Wm.length) (ap_R Wm ((no, .inl (cy 2, 1, .inr (.inl g))) :: Wc)) (ap_C Wm ((no, .inl (cy 2, 1, .inr (.inl g))) :: Wc)) (ap_nd Wm ((no, .inl (cy 2, 1, .inr (.inl g))) :: Wc)) rfl hl.1 rfl (Nat.le_of_ble_eq_true rfl) dL_law_1255 ⟨rmC (by dsimp only; omega), rmS (by dsimp only; omega)⟩ (fun rc_ W1 H locs hw hP hD hS => ?_)
  refine W.widen (k := kc + 3) (n := ks + 18) (Nat.le_refl _) (Nat.le_refl _) ?_
  obtain ⟨g2, W2, Sn, hcs, hT2, hI2, rfl⟩ := hw
  have hP := vP_pm hP List.perm_middle
  have hD := vD_pm hD List.perm_middle
  refine lv_istore (lv' := [(5, .int rc_), (4, .int i_), (3, .ref no), (2, .ref nm), (1, .ref nx), (0, .ref b)]) hx hb dL_law_1258 hl (by decide) rfl (fun ls hl => ?_)
  refine lv_aload_n hx hb dL_law_1260 rfl (lv_at hl 3 rfl) ?_
  refine lv_aload_n hx hb dL_law_1261 rfl (lv_at hl 5 rfl) ?_
  refine lv_iload hx hb dL_law_1262 (lv_at hl 1 rfl) ?_
  refine lv_iconst (v := 1) hx hb dL_law_1264 (by decide) ?_
  refine lv_iadd hx hb dL_law_1265 ?_
  refine va_sld hx hb hXs hbl hbA hS (lwi 1 hi) dL_law_1266 ?_
  refine lv_aload_n hx hb dL_law_1267 rfl (lv_at hl 5 rfl) ?_
  refine lv_iload hx hb dL_law_1268 (lv_at hl 1 rfl) ?_
  refine lv_iconst (v := 2) hx hb dL_law_1270 (by decide) ?_
  refine lv_iadd hx hb dL_law_1271 ?_
  refine va_sld hx hb hXs hbl hbA hS (lwi 2 hi) dL_law_1272 ?_
  refine lv_aload_n hx hb dL_law_1273 rfl (lv_at hl 5 rfl) ?_
  refine lv_iload hx hb dL_law_1274 (lv_at hl 1 rfl) ?_
  refine lv_iconst (v := 3) hx hb dL_law_1276 (by decide) ?_
  refine lv_iadd hx hb dL_law_1277 ?_
  refine va_sld hx hb hXs hbl hbA hS (lwi 3 hi) dL_law_1278 ?_
  have hP : va_P D vwCl (((no, .inl (cy 2, 1, .inr (.inl g2))) :: W2) ++ Wm) H := vP_pm hP (List.Perm.cons _ List.perm_append_comm)
  have hD : va_D A (((no, .inl (cy 2, 1, .inr (.inl g2))) :: W2) ++ Wm) := vD_pm hD (List.Perm.cons _ List.perm_append_comm)
  obtain ⟨qM_, fM_, hqM⟩ := IMo_at hM
  refine kVi (As := [.int (xs (i_ + 1).toNatClampNeg), .int (xs (i_ + 2).toNatClampNeg), .int (xs (i_ + 3).toNatClampNeg)]) (rest := []) (wr := ((no, .inl (cy 2, 1, .inr (.inl g2))) :: W2)) hX hE (M_waitSafe l D cy nm h M Wm (xs (i_ + 1).toNatClampNeg) (xs (i_ + 2).toNatClampNeg) (xs (i_ + 3).toNatClampNeg) hM hlo (by omega)) (cwVA 3 htA wd_1943 wd_1940 wd_10 wd_1941 wd_1942 (by decide +kernel) ⟨by decide, by decide⟩) hP hD hS (apR ((no, .inl (cy 2, 1, .inr (.inl g2))) :: W2) Wm) (List.range ((no, .inl (cy 2, 1, .inr (.inl g2))) :: W2).length) (ap_R ((no, .inl (cy 2, 1, .inr (.inl g2))) :: W2) Wm) (ap_C ((no, .inl (cy 2, 1, .inr (.inl g2))) :: W2) Wm) (ap_nd ((no, .inl (cy 2, 1, .inr (.inl g2))) :: W2) Wm) qM_ hqM rfl rfl rfl hl.1 rfl (Nat.le_of_ble_eq_true rfl) dL_law_1279 ⟨rmC (by dsimp only; omega), rmS (by dsimp only; omega)⟩ (fun rr_ Wm2 H locs hw hP hD hS => ?_)
  obtain ⟨km_, Mn, hms, hM2⟩ := hw
  refine W.widen (k := kc + 3) (n := ks + 18) (Nat.le_refl _) (Nat.le_refl _) ?_
  refine lv_istore (lv' := [(6, .int rr_), (5, .int rc_), (4, .int i_), (3, .ref no), (2, .ref nm), (1, .ref nx), (0, .ref b)]) hx hb dL_law_1282 hl (by decide) rfl (fun ls hl => ?_)
  refine lv_goto (tgt := 2150) hx hb dL_law_1284 (by decide) ?_
  have hP : va_P D vwCl ((no, .inl (cy 2, 1, .inr (.inl g2))) :: (W2 ++ Wm2)) H := hP
  have hP := vP_pm hP (List.Perm.cons _ List.perm_append_comm)
  have hD := vD_pm hD (List.Perm.cons _ List.perm_append_comm)
  exact W.widen (k := kc + 3) (n := ks + 18) (Nat.le_refl _) (Nat.le_refl _) (kk Sn Mn W2 Wm2 g2 (kc + 3) (ks + 18) H locs ls hI2 ⟨_, hM2⟩ (sm_waitSafe hR hcs hms) (by omega) (by omega) hP hD hS (lv_sub hl [2, 3, 4, 5, 6] rfl))
set_option maxHeartbeats 4000000 in
set_option maxRecDepth 100000 in
theorem cs_29 (l : Launch) (hlt : l.stackTraces = false) {p : Program} {e : Env} {s : State} {m : MethodId} {below : List Frame} {meth : Method} {c : Code} {D : va_G} {cy : Nat → ClassId} {A : Nat → Prop} {b L : Nat} {xs : Nat → Int32} {Q : State → Prop} (hX : Ex p s m #[Value.ref b] meth c code ret 8 RL) (hE : Ew D cy A s) (hXs : va_X b L xs s s.heap) (hbl : b < s.heap.size) (hbA : ¬ A b) {nx nm no : Nat} {h : Int} {S : CSt} {M : MSt} {Wc Wm : va_W} {g : Nat → Int64} {kc ks : Nat} {i_ : Int32} {H : Heap} {locs : List Loc} {ls : Array Slot} (hI : IC cy nx S Wc) (hM : IMo cy nm h M Wm) (hR : RSM S M) (hlo : 999 ≤ h) (hhi : h + 2000 ≤ 1000000) (hkc : (kc : Int) + 2 * S.1.1.toInt ≤ 500000) (hks : (ks : Int) + 471 * S.1.1.toInt ≤ 7000000) (hi : 0 ≤ i_.toInt ∧ i_.toInt + 7 ≤ L ∧ L ≤ 3584) (hP : va_P D vwCl ((no, .inl (cy 2, 1, .inr (.inl g))) :: (Wm ++ Wc)) H) (hD : va_D A ((no, .inl (cy 2, 1, .inr (.inl g))) :: (Wm ++ Wc))) (hS : va_S A s.heap H locs) (hl : lv_has ls 8 [(4, .int i_), (3, .ref no), (2, .ref nm), (1, .ref nx), (0, .ref b)]) (kk : ∀ (S2 : CSt) (M2 : MSt) (W2 Wm2 : va_W) (g2 : Nat → Int64) (kc2 ks2 : Nat) (H : Heap) (locs : List Loc) (ls : Array Slot), IC cy nx S2 W2 → IMo cy nm (h + 900) M2 Wm2 → RSM S2 M2 → (kc2 : Int) + 2 * S2.1.1.toInt ≤ kc + 2 * S.1.1.toInt + 200 → (ks2 : Int) + 471 * S2.1.1.toInt ≤ ks + 471 * S.1.1.toInt + 9420 → va_P D vwCl ((no, .inl (cy 2, 1, .inr (.inl g2))) :: (Wm2 ++ W2)) H → va_D A ((no, .inl (cy 2, 1, .inr (.inl g2))) :: (Wm2 ++ W2)) → va_S A s.heap H locs → lv_has ls 8 [(4, .int i_), (3, .ref no), (2, .ref nm), (1, .ref nx), (0, .ref b)] → W p l e room_1 s m #[Value.ref b] below meth c H locs kc2 ks2 Q (F0 m 2150 ls [])) : W p l e room_1 s m #[Value.ref b] below meth c H locs kc ks Q (F0 m 1287 ls []) := by
  obtain ⟨hx, hb, hr, hml, hown, htA, hlk⟩ := id hX
  have hK := hE.1
  have hT0 := IC_T hI
  refine lv_aload_n hx hb dL_law_1287 rfl (lv_at hl 3 rfl) ?_
  refine lv_aload_n hx hb dL_law_1288 rfl (lv_at hl 4 rfl) ?_
  refine lv_iload hx hb dL_law_1289 (lv_at hl 0 rfl) ?_
  refine lv_iconst (v := 1) hx hb dL_law_1291 (by decide) ?_
  refine lv_iadd hx hb dL_law_1292 ?_
  refine va_sld hx hb hXs hbl hbA hS (lwi 1 hi) dL_law_1293 ?_
  refine lv_aload_n hx hb dL_law_1294 rfl (lv_at hl 4 rfl) ?_
  refine lv_iload hx hb dL_law_1295 (lv_at hl 0 rfl) ?_
  refine lv_iconst (v := 2) hx hb dL_law_1297 (by decide) ?_
  refine lv_iadd hx hb dL_law_1298 ?_
  refine va_sld hx hb hXs hbl hbA hS (lwi 2 hi) dL_law_1299 ?_
  refine lv_aload_n hx hb dL_law_1300 rfl (lv_at hl 4 rfl) ?_
  refine lv_iload hx hb dL_law_1301 (lv_at hl 0 rfl) ?_
  refine lv_iconst (v := 3) hx hb dL_law_1303 (by decide) ?_
  refine lv_iadd hx hb dL_law_1304 ?_
  refine va_sld hx hb hXs hbl hbA hS (lwi 3 hi) dL_law_1305 ?_
  refine lv_aload_n hx hb dL_law_1306 rfl (lv_at hl 4 rfl) ?_
  refine lv_iload hx hb dL_law_1307 (lv_at hl 0 rfl) ?_
  refine lv_iconst (v := 4) hx hb dL_law_1309 (by decide) ?_
  refine lv_iadd hx hb dL_law_1310 ?_
  refine va_sld hx hb hXs hbl hbA hS (lwi 4 hi) dL_law_1311 ?_
  refine lv_aload_n hx hb dL_law_1312 rfl (lv_at hl 1 rfl) ?_
  have hP : va_P D vwCl (Wm ++ ((no, .inl (cy 2, 1, .inr (.inl g))) :: Wc)) H := vP_pm hP List.perm_middle.symm
  have hD : va_D A (Wm ++ ((no, .inl (cy 2, 1, .inr (.inl g))) :: Wc)) := vD_pm hD List.perm_middle.symm
  refine kHi (As := [.ref nx, .int (xs (i_ + 1).toNatClampNeg), .int (xs (i_ + 2).toNatClampNeg), .int (xs (i_ + 3).toNatClampNeg), .int (xs (i_ + 4).toNatClampNeg), .ref no]) (rest := []) (wr := Wm) hX hE (H_waitHurt l hlt D cy nx S Wc no g (xs (i_ + 1).toNatClampNeg) (xs (i_ + 2).toNatClampNeg) (xs (i_ + 3).toNatClampNeg) (xs (i_ + 4).toNatClampNeg) hI) (cwHA 6 htA wd_1141 wd_1139 wd_0 wd_1140 (by decide +kernel) ⟨by decide, by decide⟩) hP hD hS (apR Wm ((no, .inl (cy 2, 1, .inr (.inl g))) :: Wc)) (List.range Wm.length) (ap_R Wm ((no, .inl (cy 2, 1, .inr (.inl g))) :: Wc)) (ap_C Wm ((no, .inl (cy 2, 1, .inr (.inl g))) :: Wc)) (ap_nd Wm ((no, .inl (cy 2, 1, .inr (.inl g))) :: Wc)) rfl hl.1 rfl (Nat.le_of_ble_eq_true rfl) dL_law_1313 ⟨rmC (by dsimp only; omega), rmS (by dsimp only; omega)⟩ (fun rc_ W1 H locs hw hP hD hS => ?_)
  refine W.widen (k := kc + 4) (n := ks + 24) (Nat.le_refl _) (Nat.le_refl _) ?_
  obtain ⟨g2, W2, Sn, hcs, hT2, hI2, rfl⟩ := hw
  have hP := vP_pm hP List.perm_middle
  have hD := vD_pm hD List.perm_middle
  refine lv_istore (lv' := [(5, .int rc_), (4, .int i_), (3, .ref no), (2, .ref nm), (1, .ref nx), (0, .ref b)]) hx hb dL_law_1316 hl (by decide) rfl (fun ls hl => ?_)
  refine lv_aload_n hx hb dL_law_1318 rfl (lv_at hl 3 rfl) ?_
  refine lv_aload_n hx hb dL_law_1319 rfl (lv_at hl 5 rfl) ?_
  refine lv_iload hx hb dL_law_1320 (lv_at hl 1 rfl) ?_
  refine lv_iconst (v := 1) hx hb dL_law_1322 (by decide) ?_
  refine lv_iadd hx hb dL_law_1323 ?_
  refine va_sld hx hb hXs hbl hbA hS (lwi 1 hi) dL_law_1324 ?_
  refine lv_aload_n hx hb dL_law_1325 rfl (lv_at hl 5 rfl) ?_
  refine lv_iload hx hb dL_law_1326 (lv_at hl 1 rfl) ?_
  refine lv_iconst (v := 2) hx hb dL_law_1328 (by decide) ?_
  refine lv_iadd hx hb dL_law_1329 ?_
  refine va_sld hx hb hXs hbl hbA hS (lwi 2 hi) dL_law_1330 ?_
  refine lv_aload_n hx hb dL_law_1331 rfl (lv_at hl 5 rfl) ?_
  refine lv_iload hx hb dL_law_1332 (lv_at hl 1 rfl) ?_
  refine lv_iconst (v := 3) hx hb dL_law_1334 (by decide) ?_
  refine lv_iadd hx hb dL_law_1335 ?_
  refine va_sld hx hb hXs hbl hbA hS (lwi 3 hi) dL_law_1336 ?_
  refine lv_aload_n hx hb dL_law_1337 rfl (lv_at hl 5 rfl) ?_
  refine lv_iload hx hb dL_law_1338 (lv_at hl 1 rfl) ?_
  refine lv_iconst (v := 4) hx hb dL_law_1340 (by decide) ?_
  refine lv_iadd hx hb dL_law_1341 ?_
  refine va_sld hx hb hXs hbl hbA hS (lwi 4 hi) dL_law_1342 ?_
  have hP : va_P D vwCl (((no, .inl (cy 2, 1, .inr (.inl g2))) :: W2) ++ Wm) H := vP_pm hP (List.Perm.cons _ List.perm_append_comm)
  have hD : va_D A (((no, .inl (cy 2, 1, .inr (.inl g2))) :: W2) ++ Wm) := vD_pm hD (List.Perm.cons _ List.perm_append_comm)
  obtain ⟨qM_, fM_, hqM⟩ := IMo_at hM
  refine kVi (As := [.int (xs (i_ + 1).toNatClampNeg), .int (xs (i_ + 2).toNatClampNeg), .int (xs (i_ + 3).toNatClampNeg), .int (xs (i_ + 4).toNatClampNeg)]) (rest := []) (wr := ((no, .inl (cy 2, 1, .inr (.inl g2))) :: W2)) hX hE (M_waitHurt l D cy nm h M Wm (xs (i_ + 1).toNatClampNeg) (xs (i_ + 2).toNatClampNeg) (xs (i_ + 3).toNatClampNeg) (xs (i_ + 4).toNatClampNeg) hM hlo (by omega)) (cwVA 4 htA wd_1951 wd_1948 wd_10 wd_1949 wd_1950 (by decide +kernel) ⟨by decide, by decide⟩) hP hD hS (apR ((no, .inl (cy 2, 1, .inr (.inl g2))) :: W2) Wm) (List.range ((no, .inl (cy 2, 1, .inr (.inl g2))) :: W2).length) (ap_R ((no, .inl (cy 2, 1, .inr (.inl g2))) :: W2) Wm) (ap_C ((no, .inl (cy 2, 1, .inr (.inl g2))) :: W2) Wm) (ap_nd ((no, .inl (cy 2, 1, .inr (.inl g2))) :: W2) Wm) qM_ hqM rfl rfl rfl hl.1 rfl (Nat.le_of_ble_eq_true rfl) dL_law_1343 ⟨rmC (by dsimp only; omega), rmS (by dsimp only; omega)⟩ (fun rr_ Wm2 H locs hw hP hD hS => ?_)
  obtain ⟨km_, Mn, hms, hM2⟩ := hw
  refine W.widen (k := kc + 4) (n := ks + 24) (Nat.le_refl _) (Nat.le_refl _) ?_
  refine lv_istore (lv' := [(6, .int rr_), (5, .int rc_), (4, .int i_), (3, .ref no), (2, .ref nm), (1, .ref nx), (0, .ref b)]) hx hb dL_law_1346 hl (by decide) rfl (fun ls hl => ?_)
  refine lv_goto (tgt := 2150) hx hb dL_law_1348 (by decide) ?_
  have hP : va_P D vwCl ((no, .inl (cy 2, 1, .inr (.inl g2))) :: (W2 ++ Wm2)) H := hP
  have hP := vP_pm hP (List.Perm.cons _ List.perm_append_comm)
  have hD := vD_pm hD (List.Perm.cons _ List.perm_append_comm)
  exact W.widen (k := kc + 4) (n := ks + 24) (Nat.le_refl _) (Nat.le_refl _) (kk Sn Mn W2 Wm2 g2 (kc + 4) (ks + 24) H locs ls hI2 ⟨_, hM2⟩ (sm_waitHurt hR hcs hms) (by omega) (by omega) hP hD hS (lv_sub hl [2, 3, 4, 5, 6] rfl))
set_option maxHeartbeats 4000000 in
set_option maxRecDepth 100000 in
theorem cs_30 (l : Launch) (hlt : l.stackTraces = false) {p : Program} {e : Env} {s : State} {m : MethodId} {below : List Frame} {meth : Method} {c : Code} {D : va_G} {cy : Nat → ClassId} {A : Nat → Prop} {b L : Nat} {xs : Nat → Int32} {Q : State → Prop} (hX : Ex p s m #[Value.ref b] meth c code ret 8 RL) (hE : Ew D cy A s) (hXs : va_X b L xs s s.heap) (hbl : b < s.heap.size) (hbA : ¬ A b) {nx nm no : Nat} {h : Int} {S : CSt} {M : MSt} {Wc Wm : va_W} {g : Nat → Int64} {kc ks : Nat} {i_ : Int32} {H : Heap} {locs : List Loc} {ls : Array Slot} (hI : IC cy nx S Wc) (hM : IMo cy nm h M Wm) (hR : RSM S M) (hlo : 999 ≤ h) (hhi : h + 2000 ≤ 1000000) (hkc : (kc : Int) + 2 * S.1.1.toInt ≤ 500000) (hks : (ks : Int) + 471 * S.1.1.toInt ≤ 7000000) (hi : 0 ≤ i_.toInt ∧ i_.toInt + 7 ≤ L ∧ L ≤ 3584) (hP : va_P D vwCl ((no, .inl (cy 2, 1, .inr (.inl g))) :: (Wm ++ Wc)) H) (hD : va_D A ((no, .inl (cy 2, 1, .inr (.inl g))) :: (Wm ++ Wc))) (hS : va_S A s.heap H locs) (hl : lv_has ls 8 [(4, .int i_), (3, .ref no), (2, .ref nm), (1, .ref nx), (0, .ref b)]) (kk : ∀ (S2 : CSt) (M2 : MSt) (W2 Wm2 : va_W) (g2 : Nat → Int64) (kc2 ks2 : Nat) (H : Heap) (locs : List Loc) (ls : Array Slot), IC cy nx S2 W2 → IMo cy nm (h + 900) M2 Wm2 → RSM S2 M2 → (kc2 : Int) + 2 * S2.1.1.toInt ≤ kc + 2 * S.1.1.toInt + 200 → (ks2 : Int) + 471 * S2.1.1.toInt ≤ ks + 471 * S.1.1.toInt + 9420 → va_P D vwCl ((no, .inl (cy 2, 1, .inr (.inl g2))) :: (Wm2 ++ W2)) H → va_D A ((no, .inl (cy 2, 1, .inr (.inl g2))) :: (Wm2 ++ W2)) → va_S A s.heap H locs → lv_has ls 8 [(4, .int i_), (3, .ref no), (2, .ref nm), (1, .ref nx), (0, .ref b)] → W p l e room_1 s m #[Value.ref b] below meth c H locs kc2 ks2 Q (F0 m 2150 ls [])) : W p l e room_1 s m #[Value.ref b] below meth c H locs kc ks Q (F0 m 1351 ls []) := by
  obtain ⟨hx, hb, hr, hml, hown, htA, hlk⟩ := id hX
  have hK := hE.1
  have hT0 := IC_T hI
  refine lv_aload_n hx hb dL_law_1351 rfl (lv_at hl 3 rfl) ?_
  refine lv_aload_n hx hb dL_law_1352 rfl (lv_at hl 4 rfl) ?_
  refine lv_iload hx hb dL_law_1353 (lv_at hl 0 rfl) ?_
  refine lv_iconst (v := 1) hx hb dL_law_1355 (by decide) ?_
  refine lv_iadd hx hb dL_law_1356 ?_
  refine va_sld hx hb hXs hbl hbA hS (lwi 1 hi) dL_law_1357 ?_
  refine lv_aload_n hx hb dL_law_1358 rfl (lv_at hl 4 rfl) ?_
  refine lv_iload hx hb dL_law_1359 (lv_at hl 0 rfl) ?_
  refine lv_iconst (v := 2) hx hb dL_law_1361 (by decide) ?_
  refine lv_iadd hx hb dL_law_1362 ?_
  refine va_sld hx hb hXs hbl hbA hS (lwi 2 hi) dL_law_1363 ?_
  refine lv_if_eq (tgt := 1371) hx hb dL_law_1364 (by decide) (fun c1 => ?_) (fun c1 => ?_)
  · refine lv_iconst (v := 0) hx hb dL_law_1371 (by decide) ?_
    refine lv_aload_n hx hb dL_law_1372 rfl (lv_at hl 1 rfl) ?_
    have hP : va_P D vwCl (Wm ++ ((no, .inl (cy 2, 1, .inr (.inl g))) :: Wc)) H := vP_pm hP List.perm_middle.symm
    have hD : va_D A (Wm ++ ((no, .inl (cy 2, 1, .inr (.inl g))) :: Wc)) := vD_pm hD List.perm_middle.symm
    refine kHi (As := [.ref nx, .int (xs (i_ + 1).toNatClampNeg), .int 0, .ref no]) (rest := []) (wr := Wm) hX hE (H_place l hlt D cy nx S Wc no g (xs (i_ + 1).toNatClampNeg) (0 : Int32) hI) (cwHA 4 htA wd_1148 wd_1146 wd_0 wd_1147 (by decide +kernel) ⟨by decide, by decide⟩) hP hD hS (apR Wm ((no, .inl (cy 2, 1, .inr (.inl g))) :: Wc)) (List.range Wm.length) (ap_R Wm ((no, .inl (cy 2, 1, .inr (.inl g))) :: Wc)) (ap_C Wm ((no, .inl (cy 2, 1, .inr (.inl g))) :: Wc)) (ap_nd Wm ((no, .inl (cy 2, 1, .inr (.inl g))) :: Wc)) rfl hl.1 rfl (Nat.le_of_ble_eq_true rfl) dL_law_1373 ⟨rmC (by dsimp only; omega), rmS (by dsimp only; omega)⟩ (fun rc_ W1 H locs hw hP hD hS => ?_)
    refine W.widen (k := kc + 2) (n := ks + 12) (Nat.le_refl _) (Nat.le_refl _) ?_
    obtain ⟨g2, W2, Sn, hcs, hT2, hI2, rfl⟩ := hw
    have hP := vP_pm hP List.perm_middle
    have hD := vD_pm hD List.perm_middle
    refine lv_istore (lv' := [(5, .int rc_), (4, .int i_), (3, .ref no), (2, .ref nm), (1, .ref nx), (0, .ref b)]) hx hb dL_law_1376 hl (by decide) rfl (fun ls hl => ?_)
    refine lv_aload_n hx hb dL_law_1378 rfl (lv_at hl 3 rfl) ?_
    refine lv_aload_n hx hb dL_law_1379 rfl (lv_at hl 5 rfl) ?_
    refine lv_iload hx hb dL_law_1380 (lv_at hl 1 rfl) ?_
    refine lv_iconst (v := 1) hx hb dL_law_1382 (by decide) ?_
    refine lv_iadd hx hb dL_law_1383 ?_
    refine va_sld hx hb hXs hbl hbA hS (lwi 1 hi) dL_law_1384 ?_
    refine lv_aload_n hx hb dL_law_1385 rfl (lv_at hl 5 rfl) ?_
    refine lv_iload hx hb dL_law_1386 (lv_at hl 1 rfl) ?_
    refine lv_iconst (v := 2) hx hb dL_law_1388 (by decide) ?_
    refine lv_iadd hx hb dL_law_1389 ?_
    refine va_sld hx hb hXs hbl hbA hS (lwi 2 hi) dL_law_1390 ?_
    refine lv_if_eq (tgt := 1398) hx hb dL_law_1391 (by decide) (fun c2 => ?_) (fun c2 => ?_)
    · refine lv_iconst (v := 0) hx hb dL_law_1398 (by decide) ?_
      have hP : va_P D vwCl (((no, .inl (cy 2, 1, .inr (.inl g2))) :: W2) ++ Wm) H := vP_pm hP (List.Perm.cons _ List.perm_append_comm)
      have hD : va_D A (((no, .inl (cy 2, 1, .inr (.inl g2))) :: W2) ++ Wm) := vD_pm hD (List.Perm.cons _ List.perm_append_comm)
      obtain ⟨qM_, fM_, hqM⟩ := IMo_at hM
      refine kVi (As := [.int (xs (i_ + 1).toNatClampNeg), .int 0]) (rest := []) (wr := ((no, .inl (cy 2, 1, .inr (.inl g2))) :: W2)) hX hE (M_place l D cy nm h M Wm (xs (i_ + 1).toNatClampNeg) (0 : Int32) (rg_lit (by decide)) hM hlo (by omega)) (cwVA 2 htA wd_1955 wd_1952 wd_10 wd_1953 wd_1954 (by decide +kernel) ⟨by decide, by decide⟩) hP hD hS (apR ((no, .inl (cy 2, 1, .inr (.inl g2))) :: W2) Wm) (List.range ((no, .inl (cy 2, 1, .inr (.inl g2))) :: W2).length) (ap_R ((no, .inl (cy 2, 1, .inr (.inl g2))) :: W2) Wm) (ap_C ((no, .inl (cy 2, 1, .inr (.inl g2))) :: W2) Wm) (ap_nd ((no, .inl (cy 2, 1, .inr (.inl g2))) :: W2) Wm) qM_ hqM rfl rfl rfl hl.1 rfl (Nat.le_of_ble_eq_true rfl) dL_law_1399 ⟨rmC (by dsimp only; omega), rmS (by dsimp only; omega)⟩ (fun rr_ Wm2 H locs hw hP hD hS => ?_)
      obtain ⟨km_, Mn, hms, hM2⟩ := hw
      refine W.widen (k := kc + 2) (n := ks + 12) (Nat.le_refl _) (Nat.le_refl _) ?_
      refine lv_istore (lv' := [(6, .int rr_), (5, .int rc_), (4, .int i_), (3, .ref no), (2, .ref nm), (1, .ref nx), (0, .ref b)]) hx hb dL_law_1402 hl (by decide) rfl (fun ls hl => ?_)
      refine lv_goto (tgt := 2150) hx hb dL_law_1404 (by decide) ?_
      have hP : va_P D vwCl ((no, .inl (cy 2, 1, .inr (.inl g2))) :: (W2 ++ Wm2)) H := hP
      have hP := vP_pm hP (List.Perm.cons _ List.perm_append_comm)
      have hD := vD_pm hD (List.Perm.cons _ List.perm_append_comm)
      exact W.widen (k := kc + 2) (n := ks + 12) (Nat.le_refl _) (Nat.le_refl _) (kk Sn Mn W2 Wm2 g2 (kc + 2) (ks + 12) H locs ls hI2 ⟨_, hM2⟩ (sm_place hR hcs hms) (by omega) (by omega) hP hD hS (lv_sub hl [2, 3, 4, 5, 6] rfl))
    · refine lv_iconst (v := 1) hx hb dL_law_1394 (by decide) ?_
      refine lv_goto (tgt := 1399) hx hb dL_law_1395 (by decide) ?_
      have hP : va_P D vwCl (((no, .inl (cy 2, 1, .inr (.inl g2))) :: W2) ++ Wm) H := vP_pm hP (List.Perm.cons _ List.perm_append_comm)
      have hD : va_D A (((no, .inl (cy 2, 1, .inr (.inl g2))) :: W2) ++ Wm) := vD_pm hD (List.Perm.cons _ List.perm_append_comm)
      obtain ⟨qM_, fM_, hqM⟩ := IMo_at hM
      refine kVi (As := [.int (xs (i_ + 1).toNatClampNeg), .int 1]) (rest := []) (wr := ((no, .inl (cy 2, 1, .inr (.inl g2))) :: W2)) hX hE (M_place l D cy nm h M Wm (xs (i_ + 1).toNatClampNeg) (1 : Int32) (rg_lit (by decide)) hM hlo (by omega)) (cwVA 2 htA wd_1955 wd_1952 wd_10 wd_1953 wd_1954 (by decide +kernel) ⟨by decide, by decide⟩) hP hD hS (apR ((no, .inl (cy 2, 1, .inr (.inl g2))) :: W2) Wm) (List.range ((no, .inl (cy 2, 1, .inr (.inl g2))) :: W2).length) (ap_R ((no, .inl (cy 2, 1, .inr (.inl g2))) :: W2) Wm) (ap_C ((no, .inl (cy 2, 1, .inr (.inl g2))) :: W2) Wm) (ap_nd ((no, .inl (cy 2, 1, .inr (.inl g2))) :: W2) Wm) qM_ hqM rfl rfl rfl hl.1 rfl (Nat.le_of_ble_eq_true rfl) dL_law_1399 ⟨rmC (by dsimp only; omega), rmS (by dsimp only; omega)⟩ (fun rr_ Wm2 H locs hw hP hD hS => ?_)
      obtain ⟨km_, Mn, hms, hM2⟩ := hw
      refine W.widen (k := kc + 2) (n := ks + 12) (Nat.le_refl _) (Nat.le_refl _) ?_
      refine lv_istore (lv' := [(6, .int rr_), (5, .int rc_), (4, .int i_), (3, .ref no), (2, .ref nm), (1, .ref nx), (0, .ref b)]) hx hb dL_law_1402 hl (by decide) rfl (fun ls hl => ?_)
      refine lv_goto (tgt := 2150) hx hb dL_law_1404 (by decide) ?_
      have hP : va_P D vwCl ((no, .inl (cy 2, 1, .inr (.inl g2))) :: (W2 ++ Wm2)) H := hP
      have hP := vP_pm hP (List.Perm.cons _ List.perm_append_comm)
      have hD := vD_pm hD (List.Perm.cons _ List.perm_append_comm)
      exact W.widen (k := kc + 2) (n := ks + 12) (Nat.le_refl _) (Nat.le_refl _) (kk Sn Mn W2 Wm2 g2 (kc + 2) (ks + 12) H locs ls hI2 ⟨_, hM2⟩ (sm_place hR hcs hms) (by omega) (by omega) hP hD hS (lv_sub hl [2, 3, 4, 5, 6] rfl))
  · refine lv_iconst (v := 1) hx hb dL_law_1367 (by decide) ?_
    refine lv_goto (tgt := 1372) hx hb dL_law_1368 (by decide) ?_
    refine lv_aload_n hx hb dL_law_1372 rfl (lv_at hl 1 rfl) ?_
    have hP : va_P D vwCl (Wm ++ ((no, .inl (cy 2, 1, .inr (.inl g))) :: Wc)) H := vP_pm hP List.perm_middle.symm
    have hD : va_D A (Wm ++ ((no, .inl (cy 2, 1, .inr (.inl g))) :: Wc)) := vD_pm hD List.perm_middle.symm
    refine kHi (As := [.ref nx, .int (xs (i_ + 1).toNatClampNeg), .int 1, .ref no]) (rest := []) (wr := Wm) hX hE (H_place l hlt D cy nx S Wc no g (xs (i_ + 1).toNatClampNeg) (1 : Int32) hI) (cwHA 4 htA wd_1148 wd_1146 wd_0 wd_1147 (by decide +kernel) ⟨by decide, by decide⟩) hP hD hS (apR Wm ((no, .inl (cy 2, 1, .inr (.inl g))) :: Wc)) (List.range Wm.length) (ap_R Wm ((no, .inl (cy 2, 1, .inr (.inl g))) :: Wc)) (ap_C Wm ((no, .inl (cy 2, 1, .inr (.inl g))) :: Wc)) (ap_nd Wm ((no, .inl (cy 2, 1, .inr (.inl g))) :: Wc)) rfl hl.1 rfl (Nat.le_of_ble_eq_true rfl) dL_law_1373 ⟨rmC (by dsimp only; omega), rmS (by dsimp only; omega)⟩ (fun rc_ W1 H locs hw hP hD hS => ?_)
    refine W.widen (k := kc + 2) (n := ks + 12) (Nat.le_refl _) (Nat.le_refl _) ?_
    obtain ⟨g2, W2, Sn, hcs, hT2, hI2, rfl⟩ := hw
    have hP := vP_pm hP List.perm_middle
    have hD := vD_pm hD List.perm_middle
    refine lv_istore (lv' := [(5, .int rc_), (4, .int i_), (3, .ref no), (2, .ref nm), (1, .ref nx), (0, .ref b)]) hx hb dL_law_1376 hl (by decide) rfl (fun ls hl => ?_)
    refine lv_aload_n hx hb dL_law_1378 rfl (lv_at hl 3 rfl) ?_
    refine lv_aload_n hx hb dL_law_1379 rfl (lv_at hl 5 rfl) ?_
    refine lv_iload hx hb dL_law_1380 (lv_at hl 1 rfl) ?_
    refine lv_iconst (v := 1) hx hb dL_law_1382 (by decide) ?_
    refine lv_iadd hx hb dL_law_1383 ?_
    refine va_sld hx hb hXs hbl hbA hS (lwi 1 hi) dL_law_1384 ?_
    refine lv_aload_n hx hb dL_law_1385 rfl (lv_at hl 5 rfl) ?_
    refine lv_iload hx hb dL_law_1386 (lv_at hl 1 rfl) ?_
    refine lv_iconst (v := 2) hx hb dL_law_1388 (by decide) ?_
    refine lv_iadd hx hb dL_law_1389 ?_
    refine va_sld hx hb hXs hbl hbA hS (lwi 2 hi) dL_law_1390 ?_
    refine lv_if_eq (tgt := 1398) hx hb dL_law_1391 (by decide) (fun c3 => ?_) (fun c3 => ?_)
    · refine lv_iconst (v := 0) hx hb dL_law_1398 (by decide) ?_
      have hP : va_P D vwCl (((no, .inl (cy 2, 1, .inr (.inl g2))) :: W2) ++ Wm) H := vP_pm hP (List.Perm.cons _ List.perm_append_comm)
      have hD : va_D A (((no, .inl (cy 2, 1, .inr (.inl g2))) :: W2) ++ Wm) := vD_pm hD (List.Perm.cons _ List.perm_append_comm)
      obtain ⟨qM_, fM_, hqM⟩ := IMo_at hM
      refine kVi (As := [.int (xs (i_ + 1).toNatClampNeg), .int 0]) (rest := []) (wr := ((no, .inl (cy 2, 1, .inr (.inl g2))) :: W2)) hX hE (M_place l D cy nm h M Wm (xs (i_ + 1).toNatClampNeg) (0 : Int32) (rg_lit (by decide)) hM hlo (by omega)) (cwVA 2 htA wd_1955 wd_1952 wd_10 wd_1953 wd_1954 (by decide +kernel) ⟨by decide, by decide⟩) hP hD hS (apR ((no, .inl (cy 2, 1, .inr (.inl g2))) :: W2) Wm) (List.range ((no, .inl (cy 2, 1, .inr (.inl g2))) :: W2).length) (ap_R ((no, .inl (cy 2, 1, .inr (.inl g2))) :: W2) Wm) (ap_C ((no, .inl (cy 2, 1, .inr (.inl g2))) :: W2) Wm) (ap_nd ((no, .inl (cy 2, 1, .inr (.inl g2))) :: W2) Wm) qM_ hqM rfl rfl rfl hl.1 rfl (Nat.le_of_ble_eq_true rfl) dL_law_1399 ⟨rmC (by dsimp only; omega), rmS (by dsimp only; omega)⟩ (fun rr_ Wm2 H locs hw hP hD hS => ?_)
      obtain ⟨km_, Mn, hms, hM2⟩ := hw
      refine W.widen (k := kc + 2) (n := ks + 12) (Nat.le_refl _) (Nat.le_refl _) ?_
      refine lv_istore (lv' := [(6, .int rr_), (5, .int rc_), (4, .int i_), (3, .ref no), (2, .ref nm), (1, .ref nx), (0, .ref b)]) hx hb dL_law_1402 hl (by decide) rfl (fun ls hl => ?_)
      refine lv_goto (tgt := 2150) hx hb dL_law_1404 (by decide) ?_
      have hP : va_P D vwCl ((no, .inl (cy 2, 1, .inr (.inl g2))) :: (W2 ++ Wm2)) H := hP
      have hP := vP_pm hP (List.Perm.cons _ List.perm_append_comm)
      have hD := vD_pm hD (List.Perm.cons _ List.perm_append_comm)
      exact W.widen (k := kc + 2) (n := ks + 12) (Nat.le_refl _) (Nat.le_refl _) (kk Sn Mn W2 Wm2 g2 (kc + 2) (ks + 12) H locs ls hI2 ⟨_, hM2⟩ (sm_place hR hcs hms) (by omega) (by omega) hP hD hS (lv_sub hl [2, 3, 4, 5, 6] rfl))
    · refine lv_iconst (v := 1) hx hb dL_law_1394 (by decide) ?_
      refine lv_goto (tgt := 1399) hx hb dL_law_1395 (by decide) ?_
      have hP : va_P D vwCl (((no, .inl (cy 2, 1, .inr (.inl g2))) :: W2) ++ Wm) H := vP_pm hP (List.Perm.cons _ List.perm_append_comm)
      have hD : va_D A (((no, .inl (cy 2, 1, .inr (.inl g2))) :: W2) ++ Wm) := vD_pm hD (List.Perm.cons _ List.perm_append_comm)
      obtain ⟨qM_, fM_, hqM⟩ := IMo_at hM
      refine kVi (As := [.int (xs (i_ + 1).toNatClampNeg), .int 1]) (rest := []) (wr := ((no, .inl (cy 2, 1, .inr (.inl g2))) :: W2)) hX hE (M_place l D cy nm h M Wm (xs (i_ + 1).toNatClampNeg) (1 : Int32) (rg_lit (by decide)) hM hlo (by omega)) (cwVA 2 htA wd_1955 wd_1952 wd_10 wd_1953 wd_1954 (by decide +kernel) ⟨by decide, by decide⟩) hP hD hS (apR ((no, .inl (cy 2, 1, .inr (.inl g2))) :: W2) Wm) (List.range ((no, .inl (cy 2, 1, .inr (.inl g2))) :: W2).length) (ap_R ((no, .inl (cy 2, 1, .inr (.inl g2))) :: W2) Wm) (ap_C ((no, .inl (cy 2, 1, .inr (.inl g2))) :: W2) Wm) (ap_nd ((no, .inl (cy 2, 1, .inr (.inl g2))) :: W2) Wm) qM_ hqM rfl rfl rfl hl.1 rfl (Nat.le_of_ble_eq_true rfl) dL_law_1399 ⟨rmC (by dsimp only; omega), rmS (by dsimp only; omega)⟩ (fun rr_ Wm2 H locs hw hP hD hS => ?_)
      obtain ⟨km_, Mn, hms, hM2⟩ := hw
      refine W.widen (k := kc + 2) (n := ks + 12) (Nat.le_refl _) (Nat.le_refl _) ?_
      refine lv_istore (lv' := [(6, .int rr_), (5, .int rc_), (4, .int i_), (3, .ref no), (2, .ref nm), (1, .ref nx), (0, .ref b)]) hx hb dL_law_1402 hl (by decide) rfl (fun ls hl => ?_)
      refine lv_goto (tgt := 2150) hx hb dL_law_1404 (by decide) ?_
      have hP : va_P D vwCl ((no, .inl (cy 2, 1, .inr (.inl g2))) :: (W2 ++ Wm2)) H := hP
      have hP := vP_pm hP (List.Perm.cons _ List.perm_append_comm)
      have hD := vD_pm hD (List.Perm.cons _ List.perm_append_comm)
      exact W.widen (k := kc + 2) (n := ks + 12) (Nat.le_refl _) (Nat.le_refl _) (kk Sn Mn W2 Wm2 g2 (kc + 2) (ks + 12) H locs ls hI2 ⟨_, hM2⟩ (sm_place hR hcs hms) (by omega) (by omega) hP hD hS (lv_sub hl [2, 3, 4, 5, 6] rfl))
set_option maxHeartbeats 4000000 in
set_option maxRecDepth 100000 in
theorem cs_31 (l : Launch) (hlt : l.stackTraces = false) {p : Program} {e : Env} {s : State} {m : MethodId} {below : List Frame} {meth : Method} {c : Code} {D : va_G} {cy : Nat → ClassId} {A : Nat → Prop} {b L : Nat} {xs : Nat → Int32} {Q : State → Prop} (hX : Ex p s m #[Value.ref b] meth c code ret 8 RL) (hE : Ew D cy A s) (hXs : va_X b L xs s s.heap) (hbl : b < s.heap.size) (hbA : ¬ A b) {nx nm no : Nat} {h : Int} {S : CSt} {M : MSt} {Wc Wm : va_W} {g : Nat → Int64} {kc ks : Nat} {i_ : Int32} {H : Heap} {locs : List Loc} {ls : Array Slot} (hI : IC cy nx S Wc) (hM : IMo cy nm h M Wm) (hR : RSM S M) (hlo : 999 ≤ h) (hhi : h + 2000 ≤ 1000000) (hkc : (kc : Int) + 2 * S.1.1.toInt ≤ 500000) (hks : (ks : Int) + 471 * S.1.1.toInt ≤ 7000000) (hi : 0 ≤ i_.toInt ∧ i_.toInt + 7 ≤ L ∧ L ≤ 3584) (hP : va_P D vwCl ((no, .inl (cy 2, 1, .inr (.inl g))) :: (Wm ++ Wc)) H) (hD : va_D A ((no, .inl (cy 2, 1, .inr (.inl g))) :: (Wm ++ Wc))) (hS : va_S A s.heap H locs) (hl : lv_has ls 8 [(4, .int i_), (3, .ref no), (2, .ref nm), (1, .ref nx), (0, .ref b)]) (kk : ∀ (S2 : CSt) (M2 : MSt) (W2 Wm2 : va_W) (g2 : Nat → Int64) (kc2 ks2 : Nat) (H : Heap) (locs : List Loc) (ls : Array Slot), IC cy nx S2 W2 → IMo cy nm (h + 900) M2 Wm2 → RSM S2 M2 → (kc2 : Int) + 2 * S2.1.1.toInt ≤ kc + 2 * S.1.1.toInt + 200 → (ks2 : Int) + 471 * S2.1.1.toInt ≤ ks + 471 * S.1.1.toInt + 9420 → va_P D vwCl ((no, .inl (cy 2, 1, .inr (.inl g2))) :: (Wm2 ++ W2)) H → va_D A ((no, .inl (cy 2, 1, .inr (.inl g2))) :: (Wm2 ++ W2)) → va_S A s.heap H locs → lv_has ls 8 [(4, .int i_), (3, .ref no), (2, .ref nm), (1, .ref nx), (0, .ref b)] → W p l e room_1 s m #[Value.ref b] below meth c H locs kc2 ks2 Q (F0 m 2150 ls [])) : W p l e room_1 s m #[Value.ref b] below meth c H locs kc ks Q (F0 m 1407 ls []) := by
  obtain ⟨hx, hb, hr, hml, hown, htA, hlk⟩ := id hX
  have hK := hE.1
  have hT0 := IC_T hI
  refine lv_aload_n hx hb dL_law_1407 rfl (lv_at hl 3 rfl) ?_
  refine lv_aload_n hx hb dL_law_1408 rfl (lv_at hl 4 rfl) ?_
  refine lv_iload hx hb dL_law_1409 (lv_at hl 0 rfl) ?_
  refine lv_iconst (v := 1) hx hb dL_law_1411 (by decide) ?_
  refine lv_iadd hx hb dL_law_1412 ?_
  refine va_sld hx hb hXs hbl hbA hS (lwi 1 hi) dL_law_1413 ?_
  refine lv_aload_n hx hb dL_law_1414 rfl (lv_at hl 4 rfl) ?_
  refine lv_iload hx hb dL_law_1415 (lv_at hl 0 rfl) ?_
  refine lv_iconst (v := 2) hx hb dL_law_1417 (by decide) ?_
  refine lv_iadd hx hb dL_law_1418 ?_
  refine va_sld hx hb hXs hbl hbA hS (lwi 2 hi) dL_law_1419 ?_
  refine lv_aload_n hx hb dL_law_1420 rfl (lv_at hl 1 rfl) ?_
  have hP : va_P D vwCl (Wm ++ ((no, .inl (cy 2, 1, .inr (.inl g))) :: Wc)) H := vP_pm hP List.perm_middle.symm
  have hD : va_D A (Wm ++ ((no, .inl (cy 2, 1, .inr (.inl g))) :: Wc)) := vD_pm hD List.perm_middle.symm
  refine kHi (As := [.ref nx, .int (xs (i_ + 1).toNatClampNeg), .int (xs (i_ + 2).toNatClampNeg), .ref no]) (rest := []) (wr := Wm) hX hE (H_worst l hlt D cy nx S Wc no g (xs (i_ + 1).toNatClampNeg) (xs (i_ + 2).toNatClampNeg) hI) (cwHA 4 htA wd_1155 wd_1153 wd_0 wd_1154 (by decide +kernel) ⟨by decide, by decide⟩) hP hD hS (apR Wm ((no, .inl (cy 2, 1, .inr (.inl g))) :: Wc)) (List.range Wm.length) (ap_R Wm ((no, .inl (cy 2, 1, .inr (.inl g))) :: Wc)) (ap_C Wm ((no, .inl (cy 2, 1, .inr (.inl g))) :: Wc)) (ap_nd Wm ((no, .inl (cy 2, 1, .inr (.inl g))) :: Wc)) rfl hl.1 rfl (Nat.le_of_ble_eq_true rfl) dL_law_1421 ⟨rmC (by dsimp only; omega), rmS (by dsimp only; omega)⟩ (fun rc_ W1 H locs hw hP hD hS => ?_)
  refine W.widen (k := kc + 3) (n := ks + 18) (Nat.le_refl _) (Nat.le_refl _) ?_
  obtain ⟨g2, W2, Sn, hcs, hT2, hI2, rfl⟩ := hw
  have hP := vP_pm hP List.perm_middle
  have hD := vD_pm hD List.perm_middle
  refine lv_istore (lv' := [(5, .int rc_), (4, .int i_), (3, .ref no), (2, .ref nm), (1, .ref nx), (0, .ref b)]) hx hb dL_law_1424 hl (by decide) rfl (fun ls hl => ?_)
  refine lv_aload_n hx hb dL_law_1426 rfl (lv_at hl 3 rfl) ?_
  refine lv_aload_n hx hb dL_law_1427 rfl (lv_at hl 5 rfl) ?_
  refine lv_iload hx hb dL_law_1428 (lv_at hl 1 rfl) ?_
  refine lv_iconst (v := 1) hx hb dL_law_1430 (by decide) ?_
  refine lv_iadd hx hb dL_law_1431 ?_
  refine va_sld hx hb hXs hbl hbA hS (lwi 1 hi) dL_law_1432 ?_
  refine lv_aload_n hx hb dL_law_1433 rfl (lv_at hl 5 rfl) ?_
  refine lv_iload hx hb dL_law_1434 (lv_at hl 1 rfl) ?_
  refine lv_iconst (v := 2) hx hb dL_law_1436 (by decide) ?_
  refine lv_iadd hx hb dL_law_1437 ?_
  refine va_sld hx hb hXs hbl hbA hS (lwi 2 hi) dL_law_1438 ?_
  have hP : va_P D vwCl (((no, .inl (cy 2, 1, .inr (.inl g2))) :: W2) ++ Wm) H := vP_pm hP (List.Perm.cons _ List.perm_append_comm)
  have hD : va_D A (((no, .inl (cy 2, 1, .inr (.inl g2))) :: W2) ++ Wm) := vD_pm hD (List.Perm.cons _ List.perm_append_comm)
  obtain ⟨qM_, fM_, hqM⟩ := IMo_at hM
  refine kVi (As := [.int (xs (i_ + 1).toNatClampNeg), .int (xs (i_ + 2).toNatClampNeg)]) (rest := []) (wr := ((no, .inl (cy 2, 1, .inr (.inl g2))) :: W2)) hX hE (M_worst l D cy nm h M Wm (xs (i_ + 1).toNatClampNeg) (xs (i_ + 2).toNatClampNeg) hM hlo (by omega)) (cwVA 2 htA wd_1959 wd_1956 wd_10 wd_1957 wd_1958 (by decide +kernel) ⟨by decide, by decide⟩) hP hD hS (apR ((no, .inl (cy 2, 1, .inr (.inl g2))) :: W2) Wm) (List.range ((no, .inl (cy 2, 1, .inr (.inl g2))) :: W2).length) (ap_R ((no, .inl (cy 2, 1, .inr (.inl g2))) :: W2) Wm) (ap_C ((no, .inl (cy 2, 1, .inr (.inl g2))) :: W2) Wm) (ap_nd ((no, .inl (cy 2, 1, .inr (.inl g2))) :: W2) Wm) qM_ hqM rfl rfl rfl hl.1 rfl (Nat.le_of_ble_eq_true rfl) dL_law_1439 ⟨rmC (by dsimp only; omega), rmS (by dsimp only; omega)⟩ (fun rr_ Wm2 H locs hw hP hD hS => ?_)
  obtain ⟨km_, Mn, hms, hM2⟩ := hw
  refine W.widen (k := kc + 3) (n := ks + 18) (Nat.le_refl _) (Nat.le_refl _) ?_
  refine lv_istore (lv' := [(6, .int rr_), (5, .int rc_), (4, .int i_), (3, .ref no), (2, .ref nm), (1, .ref nx), (0, .ref b)]) hx hb dL_law_1442 hl (by decide) rfl (fun ls hl => ?_)
  refine lv_goto (tgt := 2150) hx hb dL_law_1444 (by decide) ?_
  have hP : va_P D vwCl ((no, .inl (cy 2, 1, .inr (.inl g2))) :: (W2 ++ Wm2)) H := hP
  have hP := vP_pm hP (List.Perm.cons _ List.perm_append_comm)
  have hD := vD_pm hD (List.Perm.cons _ List.perm_append_comm)
  exact W.widen (k := kc + 3) (n := ks + 18) (Nat.le_refl _) (Nat.le_refl _) (kk Sn Mn W2 Wm2 g2 (kc + 3) (ks + 18) H locs ls hI2 ⟨_, hM2⟩ (sm_worst hR hcs hms) (by omega) (by omega) hP hD hS (lv_sub hl [2, 3, 4, 5, 6] rfl))
