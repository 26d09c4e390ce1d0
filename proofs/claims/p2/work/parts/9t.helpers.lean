theorem up_L0 (g : Nat → Int64) (k : Nat) (x : Int64) : vp_updL g k x k = x := by unfold vp_updL; rw [if_pos rfl]
theorem lg_cmp_0 {x y : Int64} (h : x = y) : lg_cmp x y = 0 := (lg_cmp_eq x y).mpr h
def apR (X Wc : va_W) : List Nat := (List.range Wc.length).map (fun i => X.length + i)
theorem ap_C (X Wc : va_W) : (List.range X.length).map (fun i => (X ++ Wc)[i]?) = X.map some := by
  apply List.ext_getElem
  · simp
  · intro i h1 h2
    have hi : i < X.length := by simpa using h1
    simp [List.getElem?_append_left hi]
theorem ap_R (X Wc : va_W) : (apR X Wc).map (fun i => (X ++ Wc)[i]?) = Wc.map some := by
  unfold apR
  apply List.ext_getElem
  · simp
  · intro i h1 h2
    have hi : i < Wc.length := by simpa using h1
    simp [List.getElem?_append_right, hi]
theorem nd_va : ∀ {l : List Nat}, l.Nodup → va_nd l = true
  | [], _ => rfl
  | a :: l, h => by
    have h' := List.nodup_cons.mp h
    simp only [va_nd, Bool.and_eq_true, decide_eq_true_eq]
    exact ⟨h'.1, nd_va h'.2⟩
theorem ap_nd (X Wc : va_W) : va_nd (apR X Wc) = true ∧ va_nd (List.range X.length) = true ∧ ∀ i ∈ List.range X.length, i ∉ apR X Wc := by
  refine ⟨nd_va ?_, nd_va List.nodup_range, fun i hi hm => ?_⟩
  · unfold apR
    rw [List.nodup_iff_pairwise_ne, List.pairwise_map]
    exact (List.nodup_iff_pairwise_ne.mp List.nodup_range).imp (fun h q => h (by omega))
  · unfold apR at hm
    obtain ⟨j, _, hj⟩ := List.mem_map.mp hm
    have := List.mem_range.mp hi
    omega
theorem rmC {n : Nat} (h : n ≤ 601024) : n ≤ room_1.cells := h
theorem rmS {n : Nat} (h : n ≤ 7293034) : n ≤ room_1.slots := h
theorem lwi {i : Int32} {L : Nat} (k : Int32) (hi : 0 ≤ i.toInt ∧ i.toInt + 7 ≤ L ∧ L ≤ 3584) (hk : 0 ≤ k.toInt ∧ k.toInt ≤ 6 := by decide) : vp_in (i + k) L := by
  rw [vp_in_iff]
  have h1 : (i + k).toInt = i.toInt + k.toInt := add32 _ _ (by omega) (by omega)
  omega
def HS_district (S : CSt) (n_ : Int32) (r : Int32) (o : Int64) (Sn : CSt) : Prop := (r = 0 ∧ (0 ≤ n_.toInt ∧ n_.toInt ≤ S.1.1.toInt) ∧ ∃ q : Int32, CS_district S n_ q Sn ∧ o = q.toInt64) ∨ (Sn = S ∧ ((CX_district S n_ "java/lang/IllegalArgumentException" ∧ r = 1) ∨ False))
set_option maxHeartbeats 4000000 in
set_option maxRecDepth 100000 in
theorem H_district (l : Launch) (hlt : l.stackTraces = false) (D : va_G) (cy : Nat → ClassId) (nx : Nat) (S : CSt) (Wc : va_W) (no : Nat) (g : Nat → Int64) (n_ : Int32) (hn : 0 ≤ n_.toInt ∧ n_.toInt ≤ S.1.1.toInt) (hI : IC cy nx S Wc) : Hi l yL_district cL_district 4 (some .int) [(0, 9, 12, 13)] { frames := 22, cells := 25 + 2 * n_.toInt.toNat, slots := 4806 + 471 * n_.toInt.toNat, locals := 501 } D cy [.ref nx, .int n_, .ref no] ((no, .inl (cy 2, 1, .inr (.inl g))) :: Wc) (fun r W1 => ∃ (g2 : Nat → Int64) (W2 : va_W) (Sn : CSt), HS_district S n_ r (g2 (0 : Int32).toNatClampNeg) Sn ∧ Sn.1.1 = 0 ∧ IC cy nx Sn W2 ∧ W1 = (no, .inl (cy 2, 1, .inr (.inl g2))) :: W2) := by
  refine Hi.of (by decide) (Nat.le_of_ble_eq_true rfl) ?_
  intro p e s m below meth c A ls hX hE hP hD hl hxt
  obtain ⟨hx, hb, hr, hml, hown, htA, hlk⟩ := id hX
  have hK := hE.1
  have hS : va_S A s.heap s.heap [] := va_S.rf
  have hl : lv_has ls 4 [(0, .ref nx), (1, .int n_), (2, .ref no)] := hl
  have hP : va_P D vwCl ([(no, .inl (cy 2, 1, .inr (.inl g)))] ++ Wc) s.heap := hP
  have hD : va_D A ([(no, .inl (cy 2, 1, .inr (.inl g)))] ++ Wc) := hD
  refine lv_aload_n hx hb dL_district_0 rfl (lv_at hl 2 rfl) ?_
  refine lv_iconst (v := 0) hx hb dL_district_1 (by decide) ?_
  refine lv_aload_n hx hb dL_district_2 rfl (lv_at hl 0 rfl) ?_
  refine lv_iload_n hx hb dL_district_3 rfl (lv_at hl 1 rfl) ?_
  obtain ⟨qI_, fI_, hqI⟩ := IC_at hI
  refine xVi (As := [.int n_]) (rest := [.int 0, .ref no]) (wr := [(no, .inl (cy 2, 1, .inr (.inl g)))]) hX hE (I_district l hlt D cy nx S Wc n_ hI) (cwVA 1 htA wd_530 wd_527 wd_1 wd_528 wd_529 (by decide +kernel) ⟨(by first | decide | (dsimp only; omega) | (dsimp only; decide) | (refine ⟨?_, ?_⟩ <;> dsimp only <;> omega)), (by first | decide | (dsimp only; omega) | (dsimp only; decide) | (refine ⟨?_, ?_⟩ <;> dsimp only <;> omega))⟩) hP hD hS (apR [(no, .inl (cy 2, 1, .inr (.inl g)))] Wc) (List.range ([(no, .inl (cy 2, 1, .inr (.inl g)))] : va_W).length) (ap_R [(no, .inl (cy 2, 1, .inr (.inl g)))] Wc) (ap_C [(no, .inl (cy 2, 1, .inr (.inl g)))] Wc) (ap_nd [(no, .inl (cy 2, 1, .inr (.inl g)))] Wc) qI_ hqI rfl rfl rfl hl.1 rfl (Nat.le_of_ble_eq_true rfl) dL_district_4 (by first | decide | (dsimp only; omega) | (dsimp only; decide) | (refine ⟨?_, ?_⟩ <;> dsimp only <;> omega)) (fun E ce q9 W9 H locs hw hP hD hS hce hcv hcl => ?_) (fun r_ W2 H locs hw hP hD hS => ?_)
  · exact absurd hn hw
  · refine W.widen (k := 25 + 2 * n_.toInt.toNat) (n := 4806 + 471 * n_.toInt.toNat) (by first | decide | (dsimp only; omega) | (dsimp only; decide) | (refine ⟨?_, ?_⟩ <;> dsimp only <;> omega)) (by first | decide | (dsimp only; omega) | (dsimp only; decide) | (refine ⟨?_, ?_⟩ <;> dsimp only <;> omega)) ?_
    obtain ⟨Sn, hcs, h0, hI2⟩ := hw (List.nodup_cons.mp (vD_iff.mp hD).1).2
    refine lv_i2l hx hb dL_district_7 rfl ?_
    have hP : va_P D vwCl ((no, .inl (cy 2, 1, .inr (.inl g))) :: W2) H := hP
    have hD : va_D A ((no, .inl (cy 2, 1, .inr (.inl g))) :: W2) := hD
    refine va_last hx hb hK hP hD hS 0 2 rfl rfl (in_lit (by decide)) dL_district_8 (fun H locs hP hD hS => ?_)
    refine lv_goto (tgt := 15) hx hb dL_district_9 (by decide) ?_
    refine lv_iconst (v := 0) hx hb dL_district_15 (by decide) ?_
    have hP : va_P D vwCl ((no, .inl (cy 2, 1, .inr (.inl (vp_updL g (0 : Int32).toNatClampNeg r_.toInt64)))) :: W2) H := hP
    have hD : va_D A ((no, .inl (cy 2, 1, .inr (.inl (vp_updL g (0 : Int32).toNatClampNeg r_.toInt64)))) :: W2) := hD
    exact rI hX hE hP hD hS dL_district_16 (by first | decide | (dsimp only; omega) | (dsimp only; decide) | (refine ⟨?_, ?_⟩ <;> dsimp only <;> omega)) (by first | decide | (dsimp only; omega) | (dsimp only; decide) | (refine ⟨?_, ?_⟩ <;> dsimp only <;> omega)) ⟨(vp_updL g (0 : Int32).toNatClampNeg r_.toInt64), W2, Sn, (Or.inl ⟨rfl, hn, _, hcs, up_L0 _ _ _⟩), h0, hI2, rfl⟩
set_option maxHeartbeats 4000000 in
set_option maxRecDepth 100000 in
theorem H_district_bad (l : Launch) (hlt : l.stackTraces = false) (D : va_G) (cy : Nat → ClassId) (nx : Nat) (S : CSt) (Wc : va_W) (no : Nat) (g : Nat → Int64) (n_ : Int32) (hbig : ¬ (0 ≤ n_.toInt ∧ n_.toInt ≤ S.1.1.toInt)) (hI : IC cy nx S Wc) : Hi l yL_district cL_district 4 (some .int) [(0, 9, 12, 13)] { frames := 7, cells := 1, slots := 6, locals := 111 } D cy [.ref nx, .int n_, .ref no] ((no, .inl (cy 2, 1, .inr (.inl g))) :: Wc) (fun r W1 => ∃ (g2 : Nat → Int64) (W2 : va_W) (Sn : CSt), HS_district S n_ r (g2 (0 : Int32).toNatClampNeg) Sn ∧ Sn.1.1.toInt ≤ S.1.1.toInt + 0 ∧ IC cy nx Sn W2 ∧ W1 = (no, .inl (cy 2, 1, .inr (.inl g2))) :: W2) := by
  refine Hi.of (by decide) (Nat.le_of_ble_eq_true rfl) ?_
  intro p e s m below meth c A ls hX hE hP hD hl hxt
  obtain ⟨hx, hb, hr, hml, hown, htA, hlk⟩ := id hX
  have hK := hE.1
  have hS : va_S A s.heap s.heap [] := va_S.rf
  have hl : lv_has ls 4 [(0, .ref nx), (1, .int n_), (2, .ref no)] := hl
  have hP : va_P D vwCl ([(no, .inl (cy 2, 1, .inr (.inl g)))] ++ Wc) s.heap := hP
  have hD : va_D A ([(no, .inl (cy 2, 1, .inr (.inl g)))] ++ Wc) := hD
  refine lv_aload_n hx hb dL_district_0 rfl (lv_at hl 2 rfl) ?_
  refine lv_iconst (v := 0) hx hb dL_district_1 (by decide) ?_
  refine lv_aload_n hx hb dL_district_2 rfl (lv_at hl 0 rfl) ?_
  refine lv_iload_n hx hb dL_district_3 rfl (lv_at hl 1 rfl) ?_
  obtain ⟨qI_, fI_, hqI⟩ := IC_at hI
  refine xVi (As := [.int n_]) (rest := [.int 0, .ref no]) (wr := [(no, .inl (cy 2, 1, .inr (.inl g)))]) hX hE (I_district_bad l hlt D cy nx S Wc n_ hbig hI) (cwVA 1 htA wd_530 wd_527 wd_1 wd_528 wd_529 (by decide +kernel) ⟨by decide, by decide⟩) hP hD hS (apR [(no, .inl (cy 2, 1, .inr (.inl g)))] Wc) (List.range ([(no, .inl (cy 2, 1, .inr (.inl g)))] : va_W).length) (ap_R [(no, .inl (cy 2, 1, .inr (.inl g)))] Wc) (ap_C [(no, .inl (cy 2, 1, .inr (.inl g)))] Wc) (ap_nd [(no, .inl (cy 2, 1, .inr (.inl g)))] Wc) qI_ hqI rfl rfl rfl hl.1 rfl (Nat.le_of_ble_eq_true rfl) dL_district_4 (by decide) (fun E ce q9 W9 H locs hw hP hD hS hce hcv hcl => ?_) (fun r_ W2 H locs hw hP hD hS => ?_)
  · obtain ⟨hw, hI2⟩ := hw
    rcases hw with rfl
    refine kCatch (name := "java/lang/IllegalArgumentException") hX hE hxt [] ⟨0, 9, 12, 13⟩ [] rfl (fun z hz => absurd hz List.not_mem_nil) (by decide) (by decide) wd_526 (by decide +kernel) hce hcv hcl ?_
    refine W.widen (k := 1) (n := 6) (by decide) (by decide) ?_
    refine lv_astore_n (lv' := [(3, .ref q9), (0, .ref nx), (1, .int n_), (2, .ref no)]) hx hb dL_district_12 rfl hl (by decide) rfl (fun ls hl => ?_)
    refine lv_iconst (v := 1) hx hb dL_district_13 (by decide) ?_
    have hP : va_P D vwCl ((no, .inl (cy 2, 1, .inr (.inl g))) :: W9) H := hP
    have hD : va_D A ((no, .inl (cy 2, 1, .inr (.inl g))) :: W9) := hD
    exact rI hX hE hP hD hS dL_district_14 (by decide) (by decide) ⟨g, W9, S, (Or.inr ⟨rfl, Or.inl ⟨⟨hbig, rfl⟩, rfl⟩⟩), (tl20 rfl), hI2, rfl⟩
  · exact (hw : False).elim
def HS_thing (S : CSt) (t_ : Int32) (w_ : Int32) (r : Int32) (o : Int64) (Sn : CSt) : Prop := (r = 0 ∧ ∃ q : Int32, CS_thing S t_ w_ q Sn ∧ o = q.toInt64) ∨ (Sn = S ∧ ((CX_thing S t_ w_ "java/lang/IllegalArgumentException" ∧ r = 2) ∨ (CX_thing S t_ w_ "java/util/NoSuchElementException" ∧ r = 1) ∨ False))
set_option maxHeartbeats 4000000 in
set_option maxRecDepth 100000 in
theorem H_thing (l : Launch) (hlt : l.stackTraces = false) (D : va_G) (cy : Nat → ClassId) (nx : Nat) (S : CSt) (Wc : va_W) (no : Nat) (g : Nat → Int64) (t_ : Int32) (w_ : Int32) (hI : IC cy nx S Wc) : Hi l yL_thing cL_thing 5 (some .int) [(0, 10, 13, 19), (0, 10, 17, 13)] { frames := 8, cells := 2, slots := 12, locals := 134 } D cy [.ref nx, .int t_, .int w_, .ref no] ((no, .inl (cy 2, 1, .inr (.inl g))) :: Wc) (fun r W1 => ∃ (g2 : Nat → Int64) (W2 : va_W) (Sn : CSt), HS_thing S t_ w_ r (g2 (0 : Int32).toNatClampNeg) Sn ∧ Sn.1.1.toInt ≤ S.1.1.toInt + 0 ∧ IC cy nx Sn W2 ∧ W1 = (no, .inl (cy 2, 1, .inr (.inl g2))) :: W2) := by
  refine Hi.of (by decide) (Nat.le_of_ble_eq_true rfl) ?_
  intro p e s m below meth c A ls hX hE hP hD hl hxt
  obtain ⟨hx, hb, hr, hml, hown, htA, hlk⟩ := id hX
  have hK := hE.1
  have hS : va_S A s.heap s.heap [] := va_S.rf
  have hl : lv_has ls 5 [(0, .ref nx), (1, .int t_), (2, .int w_), (3, .ref no)] := hl
  have hP : va_P D vwCl ([(no, .inl (cy 2, 1, .inr (.inl g)))] ++ Wc) s.heap := hP
  have hD : va_D A ([(no, .inl (cy 2, 1, .inr (.inl g)))] ++ Wc) := hD
  refine lv_aload_n hx hb dL_thing_0 rfl (lv_at hl 3 rfl) ?_
  refine lv_iconst (v := 0) hx hb dL_thing_1 (by decide) ?_
  refine lv_aload_n hx hb dL_thing_2 rfl (lv_at hl 0 rfl) ?_
  refine lv_iload_n hx hb dL_thing_3 rfl (lv_at hl 1 rfl) ?_
  refine lv_iload_n hx hb dL_thing_4 rfl (lv_at hl 2 rfl) ?_
  obtain ⟨qI_, fI_, hqI⟩ := IC_at hI
  refine xVi (As := [.int t_, .int w_]) (rest := [.int 0, .ref no]) (wr := [(no, .inl (cy 2, 1, .inr (.inl g)))]) hX hE (I_thing l hlt D cy nx S Wc t_ w_ hI) (cwVA 2 htA wd_864 wd_861 wd_1 wd_862 wd_863 (by decide +kernel) ⟨by decide, by decide⟩) hP hD hS (apR [(no, .inl (cy 2, 1, .inr (.inl g)))] Wc) (List.range ([(no, .inl (cy 2, 1, .inr (.inl g)))] : va_W).length) (ap_R [(no, .inl (cy 2, 1, .inr (.inl g)))] Wc) (ap_C [(no, .inl (cy 2, 1, .inr (.inl g)))] Wc) (ap_nd [(no, .inl (cy 2, 1, .inr (.inl g)))] Wc) qI_ hqI rfl rfl rfl hl.1 rfl (Nat.le_of_ble_eq_true rfl) dL_thing_5 (by decide) (fun E ce q9 W9 H locs hw hP hD hS hce hcv hcl => ?_) (fun r_ W2 H locs hw hP hD hS => ?_)
  · obtain ⟨hw, hcx, hI2⟩ := hw
    rcases hw with rfl | rfl
    · refine kCatch (name := "java/lang/IllegalArgumentException") hX hE hxt [⟨0, 10, 13, 19⟩] ⟨0, 10, 17, 13⟩ [] rfl (List.forall_mem_cons.mpr ⟨Or.inr ⟨by decide, "java/util/NoSuchElementException", htA _ wd_860, hE.2.2.2.2.2.1 ("java/lang/IllegalArgumentException", "java/util/NoSuchElementException") (by decide)⟩, (fun z hz => absurd hz List.not_mem_nil)⟩) (by decide) (by decide) wd_526 (by decide +kernel) hce hcv hcl ?_
      refine W.widen (k := 2) (n := 12) (by decide) (by decide) ?_
      refine lv_astore (lv' := [(4, .ref q9), (0, .ref nx), (1, .int t_), (2, .int w_), (3, .ref no)]) hx hb dL_thing_17 hl (by decide) rfl (fun ls hl => ?_)
      refine lv_iconst (v := 2) hx hb dL_thing_19 (by decide) ?_
      have hP : va_P D vwCl ((no, .inl (cy 2, 1, .inr (.inl g))) :: W9) H := hP
      have hD : va_D A ((no, .inl (cy 2, 1, .inr (.inl g))) :: W9) := hD
      exact rI hX hE hP hD hS dL_thing_20 (by decide) (by decide) ⟨g, W9, S, (Or.inr ⟨rfl, Or.inl ⟨hcx, rfl⟩⟩), (tl20 rfl), hI2, rfl⟩
    · refine kCatch (name := "java/util/NoSuchElementException") hX hE hxt [] ⟨0, 10, 13, 19⟩ [⟨0, 10, 17, 13⟩] rfl (fun z hz => absurd hz List.not_mem_nil) (by decide) (by decide) wd_860 (by decide +kernel) hce hcv hcl ?_
      refine W.widen (k := 2) (n := 12) (by decide) (by decide) ?_
      refine lv_astore (lv' := [(4, .ref q9), (0, .ref nx), (1, .int t_), (2, .int w_), (3, .ref no)]) hx hb dL_thing_13 hl (by decide) rfl (fun ls hl => ?_)
      refine lv_iconst (v := 1) hx hb dL_thing_15 (by decide) ?_
      have hP : va_P D vwCl ((no, .inl (cy 2, 1, .inr (.inl g))) :: W9) H := hP
      have hD : va_D A ((no, .inl (cy 2, 1, .inr (.inl g))) :: W9) := hD
      exact rI hX hE hP hD hS dL_thing_16 (by decide) (by decide) ⟨g, W9, S, (Or.inr ⟨rfl, Or.inr (Or.inl ⟨hcx, rfl⟩)⟩), (tl20 rfl), hI2, rfl⟩
  · refine W.widen (k := 2) (n := 12) (by decide) (by decide) ?_
    obtain ⟨Sn, hcs, hT2, hI2⟩ := hw
    refine lv_i2l hx hb dL_thing_8 rfl ?_
    have hP : va_P D vwCl ((no, .inl (cy 2, 1, .inr (.inl g))) :: W2) H := hP
    have hD : va_D A ((no, .inl (cy 2, 1, .inr (.inl g))) :: W2) := hD
    refine va_last hx hb hK hP hD hS 0 2 rfl rfl (in_lit (by decide)) dL_thing_9 (fun H locs hP hD hS => ?_)
    refine lv_goto (tgt := 21) hx hb dL_thing_10 (by decide) ?_
    refine lv_iconst (v := 0) hx hb dL_thing_21 (by decide) ?_
    have hP : va_P D vwCl ((no, .inl (cy 2, 1, .inr (.inl (vp_updL g (0 : Int32).toNatClampNeg r_.toInt64)))) :: W2) H := hP
    have hD : va_D A ((no, .inl (cy 2, 1, .inr (.inl (vp_updL g (0 : Int32).toNatClampNeg r_.toInt64)))) :: W2) := hD
    exact rI hX hE hP hD hS dL_thing_22 (by decide) (by decide) ⟨(vp_updL g (0 : Int32).toNatClampNeg r_.toInt64), W2, Sn, (Or.inl ⟨rfl, _, hcs, up_L0 _ _ _⟩), hT2, hI2, rfl⟩
def HS_walker (S : CSt) (w_ : Int32) (v_ : Int32) (r : Int32) (o : Int64) (Sn : CSt) : Prop := (r = 0 ∧ ∃ q : Int32, CS_walker S w_ v_ q Sn ∧ o = q.toInt64) ∨ (Sn = S ∧ ((CX_walker S w_ v_ "java/lang/IllegalArgumentException" ∧ r = 2) ∨ (CX_walker S w_ v_ "java/util/NoSuchElementException" ∧ r = 1) ∨ False))
set_option maxHeartbeats 4000000 in
set_option maxRecDepth 100000 in
theorem H_walker (l : Launch) (hlt : l.stackTraces = false) (D : va_G) (cy : Nat → ClassId) (nx : Nat) (S : CSt) (Wc : va_W) (no : Nat) (g : Nat → Int64) (w_ : Int32) (v_ : Int32) (hI : IC cy nx S Wc) : Hi l yL_walker cL_walker 5 (some .int) [(0, 10, 13, 19), (0, 10, 17, 13)] { frames := 8, cells := 2, slots := 12, locals := 133 } D cy [.ref nx, .int w_, .int v_, .ref no] ((no, .inl (cy 2, 1, .inr (.inl g))) :: Wc) (fun r W1 => ∃ (g2 : Nat → Int64) (W2 : va_W) (Sn : CSt), HS_walker S w_ v_ r (g2 (0 : Int32).toNatClampNeg) Sn ∧ Sn.1.1.toInt ≤ S.1.1.toInt + 0 ∧ IC cy nx Sn W2 ∧ W1 = (no, .inl (cy 2, 1, .inr (.inl g2))) :: W2) := by
  refine Hi.of (by decide) (Nat.le_of_ble_eq_true rfl) ?_
  intro p e s m below meth c A ls hX hE hP hD hl hxt
  obtain ⟨hx, hb, hr, hml, hown, htA, hlk⟩ := id hX
  have hK := hE.1
  have hS : va_S A s.heap s.heap [] := va_S.rf
  have hl : lv_has ls 5 [(0, .ref nx), (1, .int w_), (2, .int v_), (3, .ref no)] := hl
  have hP : va_P D vwCl ([(no, .inl (cy 2, 1, .inr (.inl g)))] ++ Wc) s.heap := hP
  have hD : va_D A ([(no, .inl (cy 2, 1, .inr (.inl g)))] ++ Wc) := hD
  refine lv_aload_n hx hb dL_walker_0 rfl (lv_at hl 3 rfl) ?_
  refine lv_iconst (v := 0) hx hb dL_walker_1 (by decide) ?_
  refine lv_aload_n hx hb dL_walker_2 rfl (lv_at hl 0 rfl) ?_
  refine lv_iload_n hx hb dL_walker_3 rfl (lv_at hl 1 rfl) ?_
  refine lv_iload_n hx hb dL_walker_4 rfl (lv_at hl 2 rfl) ?_
  obtain ⟨qI_, fI_, hqI⟩ := IC_at hI
  refine xVi (As := [.int w_, .int v_]) (rest := [.int 0, .ref no]) (wr := [(no, .inl (cy 2, 1, .inr (.inl g)))]) hX hE (I_walker l hlt D cy nx S Wc w_ v_ hI) (cwVA 2 htA wd_892 wd_889 wd_1 wd_890 wd_891 (by decide +kernel) ⟨by decide, by decide⟩) hP hD hS (apR [(no, .inl (cy 2, 1, .inr (.inl g)))] Wc) (List.range ([(no, .inl (cy 2, 1, .inr (.inl g)))] : va_W).length) (ap_R [(no, .inl (cy 2, 1, .inr (.inl g)))] Wc) (ap_C [(no, .inl (cy 2, 1, .inr (.inl g)))] Wc) (ap_nd [(no, .inl (cy 2, 1, .inr (.inl g)))] Wc) qI_ hqI rfl rfl rfl hl.1 rfl (Nat.le_of_ble_eq_true rfl) dL_walker_5 (by decide) (fun E ce q9 W9 H locs hw hP hD hS hce hcv hcl => ?_) (fun r_ W2 H locs hw hP hD hS => ?_)
  · obtain ⟨hw, hcx, hI2⟩ := hw
    rcases hw with rfl | rfl
    · refine kCatch (name := "java/lang/IllegalArgumentException") hX hE hxt [⟨0, 10, 13, 19⟩] ⟨0, 10, 17, 13⟩ [] rfl (List.forall_mem_cons.mpr ⟨Or.inr ⟨by decide, "java/util/NoSuchElementException", htA _ wd_860, hE.2.2.2.2.2.1 ("java/lang/IllegalArgumentException", "java/util/NoSuchElementException") (by decide)⟩, (fun z hz => absurd hz List.not_mem_nil)⟩) (by decide) (by decide) wd_526 (by decide +kernel) hce hcv hcl ?_
      refine W.widen (k := 2) (n := 12) (by decide) (by decide) ?_
      refine lv_astore (lv' := [(4, .ref q9), (0, .ref nx), (1, .int w_), (2, .int v_), (3, .ref no)]) hx hb dL_walker_17 hl (by decide) rfl (fun ls hl => ?_)
      refine lv_iconst (v := 2) hx hb dL_walker_19 (by decide) ?_
      have hP : va_P D vwCl ((no, .inl (cy 2, 1, .inr (.inl g))) :: W9) H := hP
      have hD : va_D A ((no, .inl (cy 2, 1, .inr (.inl g))) :: W9) := hD
      exact rI hX hE hP hD hS dL_walker_20 (by decide) (by decide) ⟨g, W9, S, (Or.inr ⟨rfl, Or.inl ⟨hcx, rfl⟩⟩), (tl20 rfl), hI2, rfl⟩
    · refine kCatch (name := "java/util/NoSuchElementException") hX hE hxt [] ⟨0, 10, 13, 19⟩ [⟨0, 10, 17, 13⟩] rfl (fun z hz => absurd hz List.not_mem_nil) (by decide) (by decide) wd_860 (by decide +kernel) hce hcv hcl ?_
      refine W.widen (k := 2) (n := 12) (by decide) (by decide) ?_
      refine lv_astore (lv' := [(4, .ref q9), (0, .ref nx), (1, .int w_), (2, .int v_), (3, .ref no)]) hx hb dL_walker_13 hl (by decide) rfl (fun ls hl => ?_)
      refine lv_iconst (v := 1) hx hb dL_walker_15 (by decide) ?_
      have hP : va_P D vwCl ((no, .inl (cy 2, 1, .inr (.inl g))) :: W9) H := hP
      have hD : va_D A ((no, .inl (cy 2, 1, .inr (.inl g))) :: W9) := hD
      exact rI hX hE hP hD hS dL_walker_16 (by decide) (by decide) ⟨g, W9, S, (Or.inr ⟨rfl, Or.inr (Or.inl ⟨hcx, rfl⟩)⟩), (tl20 rfl), hI2, rfl⟩
  · refine W.widen (k := 2) (n := 12) (by decide) (by decide) ?_
    obtain ⟨Sn, hcs, hT2, hI2⟩ := hw
    refine lv_i2l hx hb dL_walker_8 rfl ?_
    have hP : va_P D vwCl ((no, .inl (cy 2, 1, .inr (.inl g))) :: W2) H := hP
    have hD : va_D A ((no, .inl (cy 2, 1, .inr (.inl g))) :: W2) := hD
    refine va_last hx hb hK hP hD hS 0 2 rfl rfl (in_lit (by decide)) dL_walker_9 (fun H locs hP hD hS => ?_)
    refine lv_goto (tgt := 21) hx hb dL_walker_10 (by decide) ?_
    refine lv_iconst (v := 0) hx hb dL_walker_21 (by decide) ?_
    have hP : va_P D vwCl ((no, .inl (cy 2, 1, .inr (.inl (vp_updL g (0 : Int32).toNatClampNeg r_.toInt64)))) :: W2) H := hP
    have hD : va_D A ((no, .inl (cy 2, 1, .inr (.inl (vp_updL g (0 : Int32).toNatClampNeg r_.toInt64)))) :: W2) := hD
    exact rI hX hE hP hD hS dL_walker_22 (by decide) (by decide) ⟨(vp_updL g (0 : Int32).toNatClampNeg r_.toInt64), W2, Sn, (Or.inl ⟨rfl, _, hcs, up_L0 _ _ _⟩), hT2, hI2, rfl⟩
def HS_height (S : CSt) (c_ : Int32) (r : Int32) (o : Int64) (Sn : CSt) : Prop := (r = 0 ∧ ∃ q : Int32, CS_height S c_ q Sn ∧ o = q.toInt64) ∨ (Sn = S ∧ ((CX_height S c_ "java/util/NoSuchElementException" ∧ r = 1) ∨ False))
set_option maxHeartbeats 4000000 in
set_option maxRecDepth 100000 in
theorem H_height (l : Launch) (hlt : l.stackTraces = false) (D : va_G) (cy : Nat → ClassId) (nx : Nat) (S : CSt) (Wc : va_W) (no : Nat) (g : Nat → Int64) (c_ : Int32) (hI : IC cy nx S Wc) : Hi l yL_height cL_height 4 (some .int) [(0, 9, 12, 19)] { frames := 8, cells := 1, slots := 6, locals := 132 } D cy [.ref nx, .int c_, .ref no] ((no, .inl (cy 2, 1, .inr (.inl g))) :: Wc) (fun r W1 => ∃ (g2 : Nat → Int64) (W2 : va_W) (Sn : CSt), HS_height S c_ r (g2 (0 : Int32).toNatClampNeg) Sn ∧ Sn.1.1.toInt ≤ S.1.1.toInt + 0 ∧ IC cy nx Sn W2 ∧ W1 = (no, .inl (cy 2, 1, .inr (.inl g2))) :: W2) := by
  refine Hi.of (by decide) (Nat.le_of_ble_eq_true rfl) ?_
  intro p e s m below meth c A ls hX hE hP hD hl hxt
  obtain ⟨hx, hb, hr, hml, hown, htA, hlk⟩ := id hX
  have hK := hE.1
  have hS : va_S A s.heap s.heap [] := va_S.rf
  have hl : lv_has ls 4 [(0, .ref nx), (1, .int c_), (2, .ref no)] := hl
  have hP : va_P D vwCl ([(no, .inl (cy 2, 1, .inr (.inl g)))] ++ Wc) s.heap := hP
  have hD : va_D A ([(no, .inl (cy 2, 1, .inr (.inl g)))] ++ Wc) := hD
  refine lv_aload_n hx hb dL_height_0 rfl (lv_at hl 2 rfl) ?_
  refine lv_iconst (v := 0) hx hb dL_height_1 (by decide) ?_
  refine lv_aload_n hx hb dL_height_2 rfl (lv_at hl 0 rfl) ?_
  refine lv_iload_n hx hb dL_height_3 rfl (lv_at hl 1 rfl) ?_
  obtain ⟨qI_, fI_, hqI⟩ := IC_at hI
  refine xVi (As := [.int c_]) (rest := [.int 0, .ref no]) (wr := [(no, .inl (cy 2, 1, .inr (.inl g)))]) hX hE (I_height l hlt D cy nx S Wc c_ hI) (cwVA 1 htA wd_905 wd_902 wd_1 wd_903 wd_904 (by decide +kernel) ⟨by decide, by decide⟩) hP hD hS (apR [(no, .inl (cy 2, 1, .inr (.inl g)))] Wc) (List.range ([(no, .inl (cy 2, 1, .inr (.inl g)))] : va_W).length) (ap_R [(no, .inl (cy 2, 1, .inr (.inl g)))] Wc) (ap_C [(no, .inl (cy 2, 1, .inr (.inl g)))] Wc) (ap_nd [(no, .inl (cy 2, 1, .inr (.inl g)))] Wc) qI_ hqI rfl rfl rfl hl.1 rfl (Nat.le_of_ble_eq_true rfl) dL_height_4 (by decide) (fun E ce q9 W9 H locs hw hP hD hS hce hcv hcl => ?_) (fun r_ W2 H locs hw hP hD hS => ?_)
  · obtain ⟨hw, hcx, hI2⟩ := hw
    rcases hw with rfl
    refine kCatch (name := "java/util/NoSuchElementException") hX hE hxt [] ⟨0, 9, 12, 19⟩ [] rfl (fun z hz => absurd hz List.not_mem_nil) (by decide) (by decide) wd_860 (by decide +kernel) hce hcv hcl ?_
    refine W.widen (k := 1) (n := 6) (by decide) (by decide) ?_
    refine lv_astore_n (lv' := [(3, .ref q9), (0, .ref nx), (1, .int c_), (2, .ref no)]) hx hb dL_height_12 rfl hl (by decide) rfl (fun ls hl => ?_)
    refine lv_iconst (v := 1) hx hb dL_height_13 (by decide) ?_
    have hP : va_P D vwCl ((no, .inl (cy 2, 1, .inr (.inl g))) :: W9) H := hP
    have hD : va_D A ((no, .inl (cy 2, 1, .inr (.inl g))) :: W9) := hD
    exact rI hX hE hP hD hS dL_height_14 (by decide) (by decide) ⟨g, W9, S, (Or.inr ⟨rfl, Or.inl ⟨hcx, rfl⟩⟩), (tl20 rfl), hI2, rfl⟩
  · refine W.widen (k := 1) (n := 6) (by decide) (by decide) ?_
    obtain ⟨Sn, hcs, hT2, hI2⟩ := hw
    refine lv_i2l hx hb dL_height_7 rfl ?_
    have hP : va_P D vwCl ((no, .inl (cy 2, 1, .inr (.inl g))) :: W2) H := hP
    have hD : va_D A ((no, .inl (cy 2, 1, .inr (.inl g))) :: W2) := hD
    refine va_last hx hb hK hP hD hS 0 2 rfl rfl (in_lit (by decide)) dL_height_8 (fun H locs hP hD hS => ?_)
    refine lv_goto (tgt := 15) hx hb dL_height_9 (by decide) ?_
    refine lv_iconst (v := 0) hx hb dL_height_15 (by decide) ?_
    have hP : va_P D vwCl ((no, .inl (cy 2, 1, .inr (.inl (vp_updL g (0 : Int32).toNatClampNeg r_.toInt64)))) :: W2) H := hP
    have hD : va_D A ((no, .inl (cy 2, 1, .inr (.inl (vp_updL g (0 : Int32).toNatClampNeg r_.toInt64)))) :: W2) := hD
    exact rI hX hE hP hD hS dL_height_16 (by decide) (by decide) ⟨(vp_updL g (0 : Int32).toNatClampNeg r_.toInt64), W2, Sn, (Or.inl ⟨rfl, _, hcs, up_L0 _ _ _⟩), hT2, hI2, rfl⟩
def HS_at (S : CSt) (c_ : Int32) (l_ : Int32) (r : Int32) (o : Int64) (Sn : CSt) : Prop := (r = 0 ∧ ∃ q : Int32, CS_at S c_ l_ q Sn ∧ o = q.toInt64) ∨ (Sn = S ∧ ((CX_at S c_ l_ "java/util/NoSuchElementException" ∧ r = 1) ∨ False))
set_option maxHeartbeats 4000000 in
set_option maxRecDepth 100000 in
theorem H_at (l : Launch) (hlt : l.stackTraces = false) (D : va_G) (cy : Nat → ClassId) (nx : Nat) (S : CSt) (Wc : va_W) (no : Nat) (g : Nat → Int64) (c_ : Int32) (l_ : Int32) (hI : IC cy nx S Wc) : Hi l yL_at cL_at 5 (some .int) [(0, 10, 13, 19)] { frames := 8, cells := 1, slots := 6, locals := 134 } D cy [.ref nx, .int c_, .int l_, .ref no] ((no, .inl (cy 2, 1, .inr (.inl g))) :: Wc) (fun r W1 => ∃ (g2 : Nat → Int64) (W2 : va_W) (Sn : CSt), HS_at S c_ l_ r (g2 (0 : Int32).toNatClampNeg) Sn ∧ Sn.1.1.toInt ≤ S.1.1.toInt + 0 ∧ IC cy nx Sn W2 ∧ W1 = (no, .inl (cy 2, 1, .inr (.inl g2))) :: W2) := by
  refine Hi.of (by decide) (Nat.le_of_ble_eq_true rfl) ?_
  intro p e s m below meth c A ls hX hE hP hD hl hxt
  obtain ⟨hx, hb, hr, hml, hown, htA, hlk⟩ := id hX
  have hK := hE.1
  have hS : va_S A s.heap s.heap [] := va_S.rf
  have hl : lv_has ls 5 [(0, .ref nx), (1, .int c_), (2, .int l_), (3, .ref no)] := hl
  have hP : va_P D vwCl ([(no, .inl (cy 2, 1, .inr (.inl g)))] ++ Wc) s.heap := hP
  have hD : va_D A ([(no, .inl (cy 2, 1, .inr (.inl g)))] ++ Wc) := hD
  refine lv_aload_n hx hb dL_at_0 rfl (lv_at hl 3 rfl) ?_
  refine lv_iconst (v := 0) hx hb dL_at_1 (by decide) ?_
  refine lv_aload_n hx hb dL_at_2 rfl (lv_at hl 0 rfl) ?_
  refine lv_iload_n hx hb dL_at_3 rfl (lv_at hl 1 rfl) ?_
  refine lv_iload_n hx hb dL_at_4 rfl (lv_at hl 2 rfl) ?_
  obtain ⟨qI_, fI_, hqI⟩ := IC_at hI
  refine xVi (As := [.int c_, .int l_]) (rest := [.int 0, .ref no]) (wr := [(no, .inl (cy 2, 1, .inr (.inl g)))]) hX hE (I_at l hlt D cy nx S Wc c_ l_ hI) (cwVA 2 htA wd_918 wd_915 wd_1 wd_916 wd_917 (by decide +kernel) ⟨by decide, by decide⟩) hP hD hS (apR [(no, .inl (cy 2, 1, .inr (.inl g)))] Wc) (List.range ([(no, .inl (cy 2, 1, .inr (.inl g)))] : va_W).length) (ap_R [(no, .inl (cy 2, 1, .inr (.inl g)))] Wc) (ap_C [(no, .inl (cy 2, 1, .inr (.inl g)))] Wc) (ap_nd [(no, .inl (cy 2, 1, .inr (.inl g)))] Wc) qI_ hqI rfl rfl rfl hl.1 rfl (Nat.le_of_ble_eq_true rfl) dL_at_5 (by decide) (fun E ce q9 W9 H locs hw hP hD hS hce hcv hcl => ?_) (fun r_ W2 H locs hw hP hD hS => ?_)
  · obtain ⟨hw, hcx, hI2⟩ := hw
    rcases hw with rfl
    refine kCatch (name := "java/util/NoSuchElementException") hX hE hxt [] ⟨0, 10, 13, 19⟩ [] rfl (fun z hz => absurd hz List.not_mem_nil) (by decide) (by decide) wd_860 (by decide +kernel) hce hcv hcl ?_
    refine W.widen (k := 1) (n := 6) (by decide) (by decide) ?_
    refine lv_astore (lv' := [(4, .ref q9), (0, .ref nx), (1, .int c_), (2, .int l_), (3, .ref no)]) hx hb dL_at_13 hl (by decide) rfl (fun ls hl => ?_)
    refine lv_iconst (v := 1) hx hb dL_at_15 (by decide) ?_
    have hP : va_P D vwCl ((no, .inl (cy 2, 1, .inr (.inl g))) :: W9) H := hP
    have hD : va_D A ((no, .inl (cy 2, 1, .inr (.inl g))) :: W9) := hD
    exact rI hX hE hP hD hS dL_at_16 (by decide) (by decide) ⟨g, W9, S, (Or.inr ⟨rfl, Or.inl ⟨hcx, rfl⟩⟩), (tl20 rfl), hI2, rfl⟩
  · refine W.widen (k := 1) (n := 6) (by decide) (by decide) ?_
    obtain ⟨Sn, hcs, hT2, hI2⟩ := hw
    refine lv_i2l hx hb dL_at_8 rfl ?_
    have hP : va_P D vwCl ((no, .inl (cy 2, 1, .inr (.inl g))) :: W2) H := hP
    have hD : va_D A ((no, .inl (cy 2, 1, .inr (.inl g))) :: W2) := hD
    refine va_last hx hb hK hP hD hS 0 2 rfl rfl (in_lit (by decide)) dL_at_9 (fun H locs hP hD hS => ?_)
    refine lv_goto (tgt := 17) hx hb dL_at_10 (by decide) ?_
    refine lv_iconst (v := 0) hx hb dL_at_17 (by decide) ?_
    have hP : va_P D vwCl ((no, .inl (cy 2, 1, .inr (.inl (vp_updL g (0 : Int32).toNatClampNeg r_.toInt64)))) :: W2) H := hP
    have hD : va_D A ((no, .inl (cy 2, 1, .inr (.inl (vp_updL g (0 : Int32).toNatClampNeg r_.toInt64)))) :: W2) := hD
    exact rI hX hE hP hD hS dL_at_18 (by decide) (by decide) ⟨(vp_updL g (0 : Int32).toNatClampNeg r_.toInt64), W2, Sn, (Or.inl ⟨rfl, _, hcs, up_L0 _ _ _⟩), hT2, hI2, rfl⟩
def HS_hanging (S : CSt) (t_ : Int32) (c_ : Int32) (l_ : Int32) (h_ : Int32) (r : Int32) (o : Int64) (Sn : CSt) : Prop := (r = 0 ∧ ∃ q : Int32, CS_hanging S t_ c_ l_ h_ q Sn ∧ o = q.toInt64) ∨ (Sn = S ∧ ((CX_hanging S t_ c_ l_ h_ "java/lang/IllegalArgumentException" ∧ r = 2) ∨ (CX_hanging S t_ c_ l_ h_ "java/util/NoSuchElementException" ∧ r = 1) ∨ False))
set_option maxHeartbeats 4000000 in
set_option maxRecDepth 100000 in
theorem H_hanging (l : Launch) (hlt : l.stackTraces = false) (D : va_G) (cy : Nat → ClassId) (nx : Nat) (S : CSt) (Wc : va_W) (no : Nat) (g : Nat → Int64) (t_ : Int32) (c_ : Int32) (l_ : Int32) (h_ : Int32) (hI : IC cy nx S Wc) : Hi l yL_hanging cL_hanging 7 (some .int) [(0, 14, 17, 19), (0, 14, 21, 13)] { frames := 8, cells := 3, slots := 18, locals := 137 } D cy [.ref nx, .int t_, .int c_, .int l_, .int h_, .ref no] ((no, .inl (cy 2, 1, .inr (.inl g))) :: Wc) (fun r W1 => ∃ (g2 : Nat → Int64) (W2 : va_W) (Sn : CSt), HS_hanging S t_ c_ l_ h_ r (g2 (0 : Int32).toNatClampNeg) Sn ∧ Sn.1.1.toInt ≤ S.1.1.toInt + 0 ∧ IC cy nx Sn W2 ∧ W1 = (no, .inl (cy 2, 1, .inr (.inl g2))) :: W2) := by
  refine Hi.of (by decide) (Nat.le_of_ble_eq_true rfl) ?_
  intro p e s m below meth c A ls hX hE hP hD hl hxt
  obtain ⟨hx, hb, hr, hml, hown, htA, hlk⟩ := id hX
  have hK := hE.1
  have hS : va_S A s.heap s.heap [] := va_S.rf
  have hl : lv_has ls 7 [(0, .ref nx), (1, .int t_), (2, .int c_), (3, .int l_), (4, .int h_), (5, .ref no)] := hl
  have hP : va_P D vwCl ([(no, .inl (cy 2, 1, .inr (.inl g)))] ++ Wc) s.heap := hP
  have hD : va_D A ([(no, .inl (cy 2, 1, .inr (.inl g)))] ++ Wc) := hD
  refine lv_aload hx hb dL_hanging_0 (lv_at hl 5 rfl) ?_
  refine lv_iconst (v := 0) hx hb dL_hanging_2 (by decide) ?_
  refine lv_aload_n hx hb dL_hanging_3 rfl (lv_at hl 0 rfl) ?_
  refine lv_iload_n hx hb dL_hanging_4 rfl (lv_at hl 1 rfl) ?_
  refine lv_iload_n hx hb dL_hanging_5 rfl (lv_at hl 2 rfl) ?_
  refine lv_iload_n hx hb dL_hanging_6 rfl (lv_at hl 3 rfl) ?_
  refine lv_iload hx hb dL_hanging_7 (lv_at hl 4 rfl) ?_
  obtain ⟨qI_, fI_, hqI⟩ := IC_at hI
  refine xVi (As := [.int t_, .int c_, .int l_, .int h_]) (rest := [.int 0, .ref no]) (wr := [(no, .inl (cy 2, 1, .inr (.inl g)))]) hX hE (I_hanging l hlt D cy nx S Wc t_ c_ l_ h_ hI) (cwVA 4 htA wd_932 wd_929 wd_1 wd_930 wd_931 (by decide +kernel) ⟨by decide, by decide⟩) hP hD hS (apR [(no, .inl (cy 2, 1, .inr (.inl g)))] Wc) (List.range ([(no, .inl (cy 2, 1, .inr (.inl g)))] : va_W).length) (ap_R [(no, .inl (cy 2, 1, .inr (.inl g)))] Wc) (ap_C [(no, .inl (cy 2, 1, .inr (.inl g)))] Wc) (ap_nd [(no, .inl (cy 2, 1, .inr (.inl g)))] Wc) qI_ hqI rfl rfl rfl hl.1 rfl (Nat.le_of_ble_eq_true rfl) dL_hanging_9 (by decide) (fun E ce q9 W9 H locs hw hP hD hS hce hcv hcl => ?_) (fun r_ W2 H locs hw hP hD hS => ?_)
  · obtain ⟨hw, hcx, hI2⟩ := hw
    rcases hw with rfl | rfl
    · refine kCatch (name := "java/lang/IllegalArgumentException") hX hE hxt [⟨0, 14, 17, 19⟩] ⟨0, 14, 21, 13⟩ [] rfl (List.forall_mem_cons.mpr ⟨Or.inr ⟨by decide, "java/util/NoSuchElementException", htA _ wd_860, hE.2.2.2.2.2.1 ("java/lang/IllegalArgumentException", "java/util/NoSuchElementException") (by decide)⟩, (fun z hz => absurd hz List.not_mem_nil)⟩) (by decide) (by decide) wd_526 (by decide +kernel) hce hcv hcl ?_
      refine W.widen (k := 3) (n := 18) (by decide) (by decide) ?_
      refine lv_astore (lv' := [(6, .ref q9), (0, .ref nx), (1, .int t_), (2, .int c_), (3, .int l_), (4, .int h_), (5, .ref no)]) hx hb dL_hanging_21 hl (by decide) rfl (fun ls hl => ?_)
      refine lv_iconst (v := 2) hx hb dL_hanging_23 (by decide) ?_
      have hP : va_P D vwCl ((no, .inl (cy 2, 1, .inr (.inl g))) :: W9) H := hP
      have hD : va_D A ((no, .inl (cy 2, 1, .inr (.inl g))) :: W9) := hD
      exact rI hX hE hP hD hS dL_hanging_24 (by decide) (by decide) ⟨g, W9, S, (Or.inr ⟨rfl, Or.inl ⟨hcx, rfl⟩⟩), (tl20 rfl), hI2, rfl⟩
    · refine kCatch (name := "java/util/NoSuchElementException") hX hE hxt [] ⟨0, 14, 17, 19⟩ [⟨0, 14, 21, 13⟩] rfl (fun z hz => absurd hz List.not_mem_nil) (by decide) (by decide) wd_860 (by decide +kernel) hce hcv hcl ?_
      refine W.widen (k := 3) (n := 18) (by decide) (by decide) ?_
      refine lv_astore (lv' := [(6, .ref q9), (0, .ref nx), (1, .int t_), (2, .int c_), (3, .int l_), (4, .int h_), (5, .ref no)]) hx hb dL_hanging_17 hl (by decide) rfl (fun ls hl => ?_)
      refine lv_iconst (v := 1) hx hb dL_hanging_19 (by decide) ?_
      have hP : va_P D vwCl ((no, .inl (cy 2, 1, .inr (.inl g))) :: W9) H := hP
      have hD : va_D A ((no, .inl (cy 2, 1, .inr (.inl g))) :: W9) := hD
      exact rI hX hE hP hD hS dL_hanging_20 (by decide) (by decide) ⟨g, W9, S, (Or.inr ⟨rfl, Or.inr (Or.inl ⟨hcx, rfl⟩)⟩), (tl20 rfl), hI2, rfl⟩
  · refine W.widen (k := 3) (n := 18) (by decide) (by decide) ?_
    obtain ⟨Sn, hcs, hT2, hI2⟩ := hw
    refine lv_i2l hx hb dL_hanging_12 rfl ?_
    have hP : va_P D vwCl ((no, .inl (cy 2, 1, .inr (.inl g))) :: W2) H := hP
    have hD : va_D A ((no, .inl (cy 2, 1, .inr (.inl g))) :: W2) := hD
    refine va_last hx hb hK hP hD hS 0 2 rfl rfl (in_lit (by decide)) dL_hanging_13 (fun H locs hP hD hS => ?_)
    refine lv_goto (tgt := 25) hx hb dL_hanging_14 (by decide) ?_
    refine lv_iconst (v := 0) hx hb dL_hanging_25 (by decide) ?_
    have hP : va_P D vwCl ((no, .inl (cy 2, 1, .inr (.inl (vp_updL g (0 : Int32).toNatClampNeg r_.toInt64)))) :: W2) H := hP
    have hD : va_D A ((no, .inl (cy 2, 1, .inr (.inl (vp_updL g (0 : Int32).toNatClampNeg r_.toInt64)))) :: W2) := hD
    exact rI hX hE hP hD hS dL_hanging_26 (by decide) (by decide) ⟨(vp_updL g (0 : Int32).toNatClampNeg r_.toInt64), W2, Sn, (Or.inl ⟨rfl, _, hcs, up_L0 _ _ _⟩), hT2, hI2, rfl⟩
def HS_hours (S : CSt) (n_ : Int32) (r : Int32) (o : Int64) (Sn : CSt) : Prop := (r = 0 ∧ ∃ q : Int32, CS_hours S n_ q Sn ∧ o = q.toInt64) ∨ (Sn = S ∧ ((CX_hours S n_ "java/lang/IllegalArgumentException" ∧ r = 1) ∨ False))
set_option maxHeartbeats 4000000 in
set_option maxRecDepth 100000 in
theorem H_hours (l : Launch) (hlt : l.stackTraces = false) (D : va_G) (cy : Nat → ClassId) (nx : Nat) (S : CSt) (Wc : va_W) (no : Nat) (g : Nat → Int64) (n_ : Int32) (hI : IC cy nx S Wc) : Hi l yL_hours cL_hours 4 (some .int) [(0, 9, 12, 13)] { frames := 8, cells := 1, slots := 6, locals := 199 } D cy [.ref nx, .int n_, .ref no] ((no, .inl (cy 2, 1, .inr (.inl g))) :: Wc) (fun r W1 => ∃ (g2 : Nat → Int64) (W2 : va_W) (Sn : CSt), HS_hours S n_ r (g2 (0 : Int32).toNatClampNeg) Sn ∧ Sn.1.1.toInt ≤ S.1.1.toInt + 0 ∧ IC cy nx Sn W2 ∧ W1 = (no, .inl (cy 2, 1, .inr (.inl g2))) :: W2) := by
  refine Hi.of (by decide) (Nat.le_of_ble_eq_true rfl) ?_
  intro p e s m below meth c A ls hX hE hP hD hl hxt
  obtain ⟨hx, hb, hr, hml, hown, htA, hlk⟩ := id hX
  have hK := hE.1
  have hS : va_S A s.heap s.heap [] := va_S.rf
  have hl : lv_has ls 4 [(0, .ref nx), (1, .int n_), (2, .ref no)] := hl
  have hP : va_P D vwCl ([(no, .inl (cy 2, 1, .inr (.inl g)))] ++ Wc) s.heap := hP
  have hD : va_D A ([(no, .inl (cy 2, 1, .inr (.inl g)))] ++ Wc) := hD
  refine lv_aload_n hx hb dL_hours_0 rfl (lv_at hl 2 rfl) ?_
  refine lv_iconst (v := 0) hx hb dL_hours_1 (by decide) ?_
  refine lv_aload_n hx hb dL_hours_2 rfl (lv_at hl 0 rfl) ?_
  refine lv_iload_n hx hb dL_hours_3 rfl (lv_at hl 1 rfl) ?_
  obtain ⟨qI_, fI_, hqI⟩ := IC_at hI
  refine xVi (As := [.int n_]) (rest := [.int 0, .ref no]) (wr := [(no, .inl (cy 2, 1, .inr (.inl g)))]) hX hE (I_hours l hlt D cy nx S Wc n_ hI) (cwVA 1 htA wd_944 wd_941 wd_1 wd_942 wd_943 (by decide +kernel) ⟨by decide, by decide⟩) hP hD hS (apR [(no, .inl (cy 2, 1, .inr (.inl g)))] Wc) (List.range ([(no, .inl (cy 2, 1, .inr (.inl g)))] : va_W).length) (ap_R [(no, .inl (cy 2, 1, .inr (.inl g)))] Wc) (ap_C [(no, .inl (cy 2, 1, .inr (.inl g)))] Wc) (ap_nd [(no, .inl (cy 2, 1, .inr (.inl g)))] Wc) qI_ hqI rfl rfl rfl hl.1 rfl (Nat.le_of_ble_eq_true rfl) dL_hours_4 (by decide) (fun E ce q9 W9 H locs hw hP hD hS hce hcv hcl => ?_) (fun r_ W2 H locs hw hP hD hS => ?_)
  · obtain ⟨hw, hcx, hI2⟩ := hw
    rcases hw with rfl
    refine kCatch (name := "java/lang/IllegalArgumentException") hX hE hxt [] ⟨0, 9, 12, 13⟩ [] rfl (fun z hz => absurd hz List.not_mem_nil) (by decide) (by decide) wd_526 (by decide +kernel) hce hcv hcl ?_
    refine W.widen (k := 1) (n := 6) (by decide) (by decide) ?_
    refine lv_astore_n (lv' := [(3, .ref q9), (0, .ref nx), (1, .int n_), (2, .ref no)]) hx hb dL_hours_12 rfl hl (by decide) rfl (fun ls hl => ?_)
    refine lv_iconst (v := 1) hx hb dL_hours_13 (by decide) ?_
    have hP : va_P D vwCl ((no, .inl (cy 2, 1, .inr (.inl g))) :: W9) H := hP
    have hD : va_D A ((no, .inl (cy 2, 1, .inr (.inl g))) :: W9) := hD
    exact rI hX hE hP hD hS dL_hours_14 (by decide) (by decide) ⟨g, W9, S, (Or.inr ⟨rfl, Or.inl ⟨hcx, rfl⟩⟩), (tl20 rfl), hI2, rfl⟩
  · refine W.widen (k := 1) (n := 6) (by decide) (by decide) ?_
    obtain ⟨Sn, hcs, hT2, hI2⟩ := hw
    refine lv_i2l hx hb dL_hours_7 rfl ?_
    have hP : va_P D vwCl ((no, .inl (cy 2, 1, .inr (.inl g))) :: W2) H := hP
    have hD : va_D A ((no, .inl (cy 2, 1, .inr (.inl g))) :: W2) := hD
    refine va_last hx hb hK hP hD hS 0 2 rfl rfl (in_lit (by decide)) dL_hours_8 (fun H locs hP hD hS => ?_)
    refine lv_goto (tgt := 15) hx hb dL_hours_9 (by decide) ?_
    refine lv_iconst (v := 0) hx hb dL_hours_15 (by decide) ?_
    have hP : va_P D vwCl ((no, .inl (cy 2, 1, .inr (.inl (vp_updL g (0 : Int32).toNatClampNeg r_.toInt64)))) :: W2) H := hP
    have hD : va_D A ((no, .inl (cy 2, 1, .inr (.inl (vp_updL g (0 : Int32).toNatClampNeg r_.toInt64)))) :: W2) := hD
    exact rI hX hE hP hD hS dL_hours_16 (by decide) (by decide) ⟨(vp_updL g (0 : Int32).toNatClampNeg r_.toInt64), W2, Sn, (Or.inl ⟨rfl, _, hcs, up_L0 _ _ _⟩), hT2, hI2, rfl⟩
def HS_undo (S : CSt) (n_ : Int32) (r : Int32) (o : Int64) (Sn : CSt) : Prop := (r = 0 ∧ ∃ q : Int32, CS_undo S n_ q Sn ∧ o = q.toInt64) ∨ (Sn = S ∧ ((CX_undo S n_ "java/lang/IllegalArgumentException" ∧ r = 1) ∨ False))
set_option maxHeartbeats 4000000 in
set_option maxRecDepth 100000 in
theorem H_undo (l : Launch) (hlt : l.stackTraces = false) (D : va_G) (cy : Nat → ClassId) (nx : Nat) (S : CSt) (Wc : va_W) (no : Nat) (g : Nat → Int64) (n_ : Int32) (hI : IC cy nx S Wc) : Hi l yL_undo cL_undo 4 (some .int) [(0, 9, 12, 13)] { frames := 7, cells := 1, slots := 6, locals := 124 } D cy [.ref nx, .int n_, .ref no] ((no, .inl (cy 2, 1, .inr (.inl g))) :: Wc) (fun r W1 => ∃ (g2 : Nat → Int64) (W2 : va_W) (Sn : CSt), HS_undo S n_ r (g2 (0 : Int32).toNatClampNeg) Sn ∧ Sn.1.1.toInt ≤ S.1.1.toInt + 0 ∧ IC cy nx Sn W2 ∧ W1 = (no, .inl (cy 2, 1, .inr (.inl g2))) :: W2) := by
  refine Hi.of (by decide) (Nat.le_of_ble_eq_true rfl) ?_
  intro p e s m below meth c A ls hX hE hP hD hl hxt
  obtain ⟨hx, hb, hr, hml, hown, htA, hlk⟩ := id hX
  have hK := hE.1
  have hS : va_S A s.heap s.heap [] := va_S.rf
  have hl : lv_has ls 4 [(0, .ref nx), (1, .int n_), (2, .ref no)] := hl
  have hP : va_P D vwCl ([(no, .inl (cy 2, 1, .inr (.inl g)))] ++ Wc) s.heap := hP
  have hD : va_D A ([(no, .inl (cy 2, 1, .inr (.inl g)))] ++ Wc) := hD
  refine lv_aload_n hx hb dL_undo_0 rfl (lv_at hl 2 rfl) ?_
  refine lv_iconst (v := 0) hx hb dL_undo_1 (by decide) ?_
  refine lv_aload_n hx hb dL_undo_2 rfl (lv_at hl 0 rfl) ?_
  refine lv_iload_n hx hb dL_undo_3 rfl (lv_at hl 1 rfl) ?_
  obtain ⟨qI_, fI_, hqI⟩ := IC_at hI
  refine xVi (As := [.int n_]) (rest := [.int 0, .ref no]) (wr := [(no, .inl (cy 2, 1, .inr (.inl g)))]) hX hE (I_undo l hlt D cy nx S Wc n_ hI) (cwVA 1 htA wd_956 wd_953 wd_1 wd_954 wd_955 (by decide +kernel) ⟨by decide, by decide⟩) hP hD hS (apR [(no, .inl (cy 2, 1, .inr (.inl g)))] Wc) (List.range ([(no, .inl (cy 2, 1, .inr (.inl g)))] : va_W).length) (ap_R [(no, .inl (cy 2, 1, .inr (.inl g)))] Wc) (ap_C [(no, .inl (cy 2, 1, .inr (.inl g)))] Wc) (ap_nd [(no, .inl (cy 2, 1, .inr (.inl g)))] Wc) qI_ hqI rfl rfl rfl hl.1 rfl (Nat.le_of_ble_eq_true rfl) dL_undo_4 (by decide) (fun E ce q9 W9 H locs hw hP hD hS hce hcv hcl => ?_) (fun r_ W2 H locs hw hP hD hS => ?_)
  · obtain ⟨hw, hcx, hI2⟩ := hw
    rcases hw with rfl
    refine kCatch (name := "java/lang/IllegalArgumentException") hX hE hxt [] ⟨0, 9, 12, 13⟩ [] rfl (fun z hz => absurd hz List.not_mem_nil) (by decide) (by decide) wd_526 (by decide +kernel) hce hcv hcl ?_
    refine W.widen (k := 1) (n := 6) (by decide) (by decide) ?_
    refine lv_astore_n (lv' := [(3, .ref q9), (0, .ref nx), (1, .int n_), (2, .ref no)]) hx hb dL_undo_12 rfl hl (by decide) rfl (fun ls hl => ?_)
    refine lv_iconst (v := 1) hx hb dL_undo_13 (by decide) ?_
    have hP : va_P D vwCl ((no, .inl (cy 2, 1, .inr (.inl g))) :: W9) H := hP
    have hD : va_D A ((no, .inl (cy 2, 1, .inr (.inl g))) :: W9) := hD
    exact rI hX hE hP hD hS dL_undo_14 (by decide) (by decide) ⟨g, W9, S, (Or.inr ⟨rfl, Or.inl ⟨hcx, rfl⟩⟩), (tl20 rfl), hI2, rfl⟩
  · refine W.widen (k := 1) (n := 6) (by decide) (by decide) ?_
    obtain ⟨Sn, hcs, hT2, hI2⟩ := hw
    refine lv_i2l hx hb dL_undo_7 rfl ?_
    have hP : va_P D vwCl ((no, .inl (cy 2, 1, .inr (.inl g))) :: W2) H := hP
    have hD : va_D A ((no, .inl (cy 2, 1, .inr (.inl g))) :: W2) := hD
    refine va_last hx hb hK hP hD hS 0 2 rfl rfl (in_lit (by decide)) dL_undo_8 (fun H locs hP hD hS => ?_)
    refine lv_goto (tgt := 15) hx hb dL_undo_9 (by decide) ?_
    refine lv_iconst (v := 0) hx hb dL_undo_15 (by decide) ?_
    have hP : va_P D vwCl ((no, .inl (cy 2, 1, .inr (.inl (vp_updL g (0 : Int32).toNatClampNeg r_.toInt64)))) :: W2) H := hP
    have hD : va_D A ((no, .inl (cy 2, 1, .inr (.inl (vp_updL g (0 : Int32).toNatClampNeg r_.toInt64)))) :: W2) := hD
    exact rI hX hE hP hD hS dL_undo_16 (by decide) (by decide) ⟨(vp_updL g (0 : Int32).toNatClampNeg r_.toInt64), W2, Sn, (Or.inl ⟨rfl, _, hcs, up_L0 _ _ _⟩), hT2, hI2, rfl⟩
def HS_judge (S : CSt) (y_ : Int32) (w_ : Int32) (r : Int32) (o : Int64) (Sn : CSt) : Prop := (r = 0 ∧ ∃ q : Int32, CS_judge S y_ w_ q Sn ∧ o = q.toInt64) ∨ (Sn = S ∧ ((CX_judge S y_ w_ "java/util/NoSuchElementException" ∧ r = 1) ∨ (CX_judge S y_ w_ "java/lang/IllegalArgumentException" ∧ r = 3) ∨ (CX_judge S y_ w_ "java/lang/IllegalStateException" ∧ r = 2) ∨ False))
set_option maxHeartbeats 4000000 in
set_option maxRecDepth 100000 in
theorem H_judge (l : Launch) (hlt : l.stackTraces = false) (D : va_G) (cy : Nat → ClassId) (nx : Nat) (S : CSt) (Wc : va_W) (no : Nat) (g : Nat → Int64) (y_ : Int32) (w_ : Int32) (hI : IC cy nx S Wc) : Hi l yL_judge cL_judge 5 (some .int) [(0, 10, 13, 19), (0, 10, 17, 43), (0, 10, 21, 13)] { frames := 9, cells := 2, slots := 12, locals := 207 } D cy [.ref nx, .int y_, .int w_, .ref no] ((no, .inl (cy 2, 1, .inr (.inl g))) :: Wc) (fun r W1 => ∃ (g2 : Nat → Int64) (W2 : va_W) (Sn : CSt), HS_judge S y_ w_ r (g2 (0 : Int32).toNatClampNeg) Sn ∧ Sn.1.1.toInt ≤ S.1.1.toInt + 0 ∧ IC cy nx Sn W2 ∧ W1 = (no, .inl (cy 2, 1, .inr (.inl g2))) :: W2) := by
  refine Hi.of (by decide) (Nat.le_of_ble_eq_true rfl) ?_
  intro p e s m below meth c A ls hX hE hP hD hl hxt
  obtain ⟨hx, hb, hr, hml, hown, htA, hlk⟩ := id hX
  have hK := hE.1
  have hS : va_S A s.heap s.heap [] := va_S.rf
  have hl : lv_has ls 5 [(0, .ref nx), (1, .int y_), (2, .int w_), (3, .ref no)] := hl
  have hP : va_P D vwCl ([(no, .inl (cy 2, 1, .inr (.inl g)))] ++ Wc) s.heap := hP
  have hD : va_D A ([(no, .inl (cy 2, 1, .inr (.inl g)))] ++ Wc) := hD
  refine lv_aload_n hx hb dL_judge_0 rfl (lv_at hl 3 rfl) ?_
  refine lv_iconst (v := 0) hx hb dL_judge_1 (by decide) ?_
  refine lv_aload_n hx hb dL_judge_2 rfl (lv_at hl 0 rfl) ?_
  refine lv_iload_n hx hb dL_judge_3 rfl (lv_at hl 1 rfl) ?_
  refine lv_iload_n hx hb dL_judge_4 rfl (lv_at hl 2 rfl) ?_
  obtain ⟨qI_, fI_, hqI⟩ := IC_at hI
  refine xVi (As := [.int y_, .int w_]) (rest := [.int 0, .ref no]) (wr := [(no, .inl (cy 2, 1, .inr (.inl g)))]) hX hE (I_judge l hlt D cy nx S Wc y_ w_ hI) (cwVA 2 htA wd_969 wd_966 wd_1 wd_967 wd_968 (by decide +kernel) ⟨by decide, by decide⟩) hP hD hS (apR [(no, .inl (cy 2, 1, .inr (.inl g)))] Wc) (List.range ([(no, .inl (cy 2, 1, .inr (.inl g)))] : va_W).length) (ap_R [(no, .inl (cy 2, 1, .inr (.inl g)))] Wc) (ap_C [(no, .inl (cy 2, 1, .inr (.inl g)))] Wc) (ap_nd [(no, .inl (cy 2, 1, .inr (.inl g)))] Wc) qI_ hqI rfl rfl rfl hl.1 rfl (Nat.le_of_ble_eq_true rfl) dL_judge_5 (by decide) (fun E ce q9 W9 H locs hw hP hD hS hce hcv hcl => ?_) (fun r_ W2 H locs hw hP hD hS => ?_)
  · obtain ⟨hw, hcx, hI2⟩ := hw
    rcases hw with rfl | rfl | rfl
    · refine kCatch (name := "java/util/NoSuchElementException") hX hE hxt [] ⟨0, 10, 13, 19⟩ [⟨0, 10, 17, 43⟩, ⟨0, 10, 21, 13⟩] rfl (fun z hz => absurd hz List.not_mem_nil) (by decide) (by decide) wd_860 (by decide +kernel) hce hcv hcl ?_
      refine W.widen (k := 2) (n := 12) (by decide) (by decide) ?_
      refine lv_astore (lv' := [(4, .ref q9), (0, .ref nx), (1, .int y_), (2, .int w_), (3, .ref no)]) hx hb dL_judge_13 hl (by decide) rfl (fun ls hl => ?_)
      refine lv_iconst (v := 1) hx hb dL_judge_15 (by decide) ?_
      have hP : va_P D vwCl ((no, .inl (cy 2, 1, .inr (.inl g))) :: W9) H := hP
      have hD : va_D A ((no, .inl (cy 2, 1, .inr (.inl g))) :: W9) := hD
      exact rI hX hE hP hD hS dL_judge_16 (by decide) (by decide) ⟨g, W9, S, (Or.inr ⟨rfl, Or.inl ⟨hcx, rfl⟩⟩), (tl20 rfl), hI2, rfl⟩
    · refine kCatch (name := "java/lang/IllegalArgumentException") hX hE hxt [⟨0, 10, 13, 19⟩, ⟨0, 10, 17, 43⟩] ⟨0, 10, 21, 13⟩ [] rfl (List.forall_mem_cons.mpr ⟨Or.inr ⟨by decide, "java/util/NoSuchElementException", htA _ wd_860, hE.2.2.2.2.2.1 ("java/lang/IllegalArgumentException", "java/util/NoSuchElementException") (by decide)⟩, (List.forall_mem_cons.mpr ⟨Or.inr ⟨by decide, "java/lang/IllegalStateException", htA _ wd_965, hE.2.2.2.2.2.1 ("java/lang/IllegalArgumentException", "java/lang/IllegalStateException") (by decide)⟩, (fun z hz => absurd hz List.not_mem_nil)⟩)⟩) (by decide) (by decide) wd_526 (by decide +kernel) hce hcv hcl ?_
      refine W.widen (k := 2) (n := 12) (by decide) (by decide) ?_
      refine lv_astore (lv' := [(4, .ref q9), (0, .ref nx), (1, .int y_), (2, .int w_), (3, .ref no)]) hx hb dL_judge_21 hl (by decide) rfl (fun ls hl => ?_)
      refine lv_iconst (v := 3) hx hb dL_judge_23 (by decide) ?_
      have hP : va_P D vwCl ((no, .inl (cy 2, 1, .inr (.inl g))) :: W9) H := hP
      have hD : va_D A ((no, .inl (cy 2, 1, .inr (.inl g))) :: W9) := hD
      exact rI hX hE hP hD hS dL_judge_24 (by decide) (by decide) ⟨g, W9, S, (Or.inr ⟨rfl, Or.inr (Or.inl ⟨hcx, rfl⟩)⟩), (tl20 rfl), hI2, rfl⟩
    · refine kCatch (name := "java/lang/IllegalStateException") hX hE hxt [⟨0, 10, 13, 19⟩] ⟨0, 10, 17, 43⟩ [⟨0, 10, 21, 13⟩] rfl (List.forall_mem_cons.mpr ⟨Or.inr ⟨by decide, "java/util/NoSuchElementException", htA _ wd_860, hE.2.2.2.2.2.1 ("java/lang/IllegalStateException", "java/util/NoSuchElementException") (by decide)⟩, (fun z hz => absurd hz List.not_mem_nil)⟩) (by decide) (by decide) wd_965 (by decide +kernel) hce hcv hcl ?_
      refine W.widen (k := 2) (n := 12) (by decide) (by decide) ?_
      refine lv_astore (lv' := [(4, .ref q9), (0, .ref nx), (1, .int y_), (2, .int w_), (3, .ref no)]) hx hb dL_judge_17 hl (by decide) rfl (fun ls hl => ?_)
      refine lv_iconst (v := 2) hx hb dL_judge_19 (by decide) ?_
      have hP : va_P D vwCl ((no, .inl (cy 2, 1, .inr (.inl g))) :: W9) H := hP
      have hD : va_D A ((no, .inl (cy 2, 1, .inr (.inl g))) :: W9) := hD
      exact rI hX hE hP hD hS dL_judge_20 (by decide) (by decide) ⟨g, W9, S, (Or.inr ⟨rfl, Or.inr (Or.inr (Or.inl ⟨hcx, rfl⟩))⟩), (tl20 rfl), hI2, rfl⟩
  · refine W.widen (k := 2) (n := 12) (by decide) (by decide) ?_
    obtain ⟨Sn, hcs, hT2, hI2⟩ := hw
    refine lv_i2l hx hb dL_judge_8 rfl ?_
    have hP : va_P D vwCl ((no, .inl (cy 2, 1, .inr (.inl g))) :: W2) H := hP
    have hD : va_D A ((no, .inl (cy 2, 1, .inr (.inl g))) :: W2) := hD
    refine va_last hx hb hK hP hD hS 0 2 rfl rfl (in_lit (by decide)) dL_judge_9 (fun H locs hP hD hS => ?_)
    refine lv_goto (tgt := 25) hx hb dL_judge_10 (by decide) ?_
    refine lv_iconst (v := 0) hx hb dL_judge_25 (by decide) ?_
    have hP : va_P D vwCl ((no, .inl (cy 2, 1, .inr (.inl (vp_updL g (0 : Int32).toNatClampNeg r_.toInt64)))) :: W2) H := hP
    have hD : va_D A ((no, .inl (cy 2, 1, .inr (.inl (vp_updL g (0 : Int32).toNatClampNeg r_.toInt64)))) :: W2) := hD
    exact rI hX hE hP hD hS dL_judge_26 (by decide) (by decide) ⟨(vp_updL g (0 : Int32).toNatClampNeg r_.toInt64), W2, Sn, (Or.inl ⟨rfl, _, hcs, up_L0 _ _ _⟩), hT2, hI2, rfl⟩
def HS_falls (S : CSt) (t_ : Int32) (r : Int32) (o : Int64) (Sn : CSt) : Prop := (r = 0 ∧ ∃ q : Int32, CS_falls S t_ q Sn ∧ o = q.toInt64) ∨ (Sn = S ∧ ((CX_falls S t_ "java/util/NoSuchElementException" ∧ r = 1) ∨ False))
set_option maxHeartbeats 4000000 in
set_option maxRecDepth 100000 in
theorem H_falls (l : Launch) (hlt : l.stackTraces = false) (D : va_G) (cy : Nat → ClassId) (nx : Nat) (S : CSt) (Wc : va_W) (no : Nat) (g : Nat → Int64) (t_ : Int32) (hI : IC cy nx S Wc) : Hi l yL_falls cL_falls 4 (some .int) [(0, 9, 12, 19)] { frames := 8, cells := 1, slots := 6, locals := 198 } D cy [.ref nx, .int t_, .ref no] ((no, .inl (cy 2, 1, .inr (.inl g))) :: Wc) (fun r W1 => ∃ (g2 : Nat → Int64) (W2 : va_W) (Sn : CSt), HS_falls S t_ r (g2 (0 : Int32).toNatClampNeg) Sn ∧ Sn.1.1.toInt ≤ S.1.1.toInt + 0 ∧ IC cy nx Sn W2 ∧ W1 = (no, .inl (cy 2, 1, .inr (.inl g2))) :: W2) := by
  refine Hi.of (by decide) (Nat.le_of_ble_eq_true rfl) ?_
  intro p e s m below meth c A ls hX hE hP hD hl hxt
  obtain ⟨hx, hb, hr, hml, hown, htA, hlk⟩ := id hX
  have hK := hE.1
  have hS : va_S A s.heap s.heap [] := va_S.rf
  have hl : lv_has ls 4 [(0, .ref nx), (1, .int t_), (2, .ref no)] := hl
  have hP : va_P D vwCl ([(no, .inl (cy 2, 1, .inr (.inl g)))] ++ Wc) s.heap := hP
  have hD : va_D A ([(no, .inl (cy 2, 1, .inr (.inl g)))] ++ Wc) := hD
  refine lv_aload_n hx hb dL_falls_0 rfl (lv_at hl 2 rfl) ?_
  refine lv_iconst (v := 0) hx hb dL_falls_1 (by decide) ?_
  refine lv_aload_n hx hb dL_falls_2 rfl (lv_at hl 0 rfl) ?_
  refine lv_iload_n hx hb dL_falls_3 rfl (lv_at hl 1 rfl) ?_
  obtain ⟨qI_, fI_, hqI⟩ := IC_at hI
  refine xVi (As := [.int t_]) (rest := [.int 0, .ref no]) (wr := [(no, .inl (cy 2, 1, .inr (.inl g)))]) hX hE (I_falls l hlt D cy nx S Wc t_ hI) (cwVA 1 htA wd_1036 wd_1033 wd_1 wd_1034 wd_1035 (by decide +kernel) ⟨by decide, by decide⟩) hP hD hS (apR [(no, .inl (cy 2, 1, .inr (.inl g)))] Wc) (List.range ([(no, .inl (cy 2, 1, .inr (.inl g)))] : va_W).length) (ap_R [(no, .inl (cy 2, 1, .inr (.inl g)))] Wc) (ap_C [(no, .inl (cy 2, 1, .inr (.inl g)))] Wc) (ap_nd [(no, .inl (cy 2, 1, .inr (.inl g)))] Wc) qI_ hqI rfl rfl rfl hl.1 rfl (Nat.le_of_ble_eq_true rfl) dL_falls_4 (by decide) (fun E ce q9 W9 H locs hw hP hD hS hce hcv hcl => ?_) (fun r_ W2 H locs hw hP hD hS => ?_)
  · obtain ⟨hw, hcx, hI2⟩ := hw
    rcases hw with rfl
    refine kCatch (name := "java/util/NoSuchElementException") hX hE hxt [] ⟨0, 9, 12, 19⟩ [] rfl (fun z hz => absurd hz List.not_mem_nil) (by decide) (by decide) wd_860 (by decide +kernel) hce hcv hcl ?_
    refine W.widen (k := 1) (n := 6) (by decide) (by decide) ?_
    refine lv_astore_n (lv' := [(3, .ref q9), (0, .ref nx), (1, .int t_), (2, .ref no)]) hx hb dL_falls_12 rfl hl (by decide) rfl (fun ls hl => ?_)
    refine lv_iconst (v := 1) hx hb dL_falls_13 (by decide) ?_
    have hP : va_P D vwCl ((no, .inl (cy 2, 1, .inr (.inl g))) :: W9) H := hP
    have hD : va_D A ((no, .inl (cy 2, 1, .inr (.inl g))) :: W9) := hD
    exact rI hX hE hP hD hS dL_falls_14 (by decide) (by decide) ⟨g, W9, S, (Or.inr ⟨rfl, Or.inl ⟨hcx, rfl⟩⟩), (tl20 rfl), hI2, rfl⟩
  · refine W.widen (k := 1) (n := 6) (by decide) (by decide) ?_
    obtain ⟨Sn, hcs, hT2, hI2⟩ := hw
    refine lv_i2l hx hb dL_falls_7 rfl ?_
    have hP : va_P D vwCl ((no, .inl (cy 2, 1, .inr (.inl g))) :: W2) H := hP
    have hD : va_D A ((no, .inl (cy 2, 1, .inr (.inl g))) :: W2) := hD
    refine va_last hx hb hK hP hD hS 0 2 rfl rfl (in_lit (by decide)) dL_falls_8 (fun H locs hP hD hS => ?_)
    refine lv_goto (tgt := 15) hx hb dL_falls_9 (by decide) ?_
    refine lv_iconst (v := 0) hx hb dL_falls_15 (by decide) ?_
    have hP : va_P D vwCl ((no, .inl (cy 2, 1, .inr (.inl (vp_updL g (0 : Int32).toNatClampNeg r_.toInt64)))) :: W2) H := hP
    have hD : va_D A ((no, .inl (cy 2, 1, .inr (.inl (vp_updL g (0 : Int32).toNatClampNeg r_.toInt64)))) :: W2) := hD
    exact rI hX hE hP hD hS dL_falls_16 (by decide) (by decide) ⟨(vp_updL g (0 : Int32).toNatClampNeg r_.toInt64), W2, Sn, (Or.inl ⟨rfl, _, hcs, up_L0 _ _ _⟩), hT2, hI2, rfl⟩
def HS_lands (S : CSt) (t_ : Int32) (r : Int32) (o : Int64) (Sn : CSt) : Prop := (r = 0 ∧ ∃ q : Int32, CS_lands S t_ q Sn ∧ o = q.toInt64) ∨ (Sn = S ∧ ((CX_lands S t_ "java/util/NoSuchElementException" ∧ r = 1) ∨ False))
set_option maxHeartbeats 4000000 in
set_option maxRecDepth 100000 in
theorem H_lands (l : Launch) (hlt : l.stackTraces = false) (D : va_G) (cy : Nat → ClassId) (nx : Nat) (S : CSt) (Wc : va_W) (no : Nat) (g : Nat → Int64) (t_ : Int32) (hI : IC cy nx S Wc) : Hi l yL_lands cL_lands 4 (some .int) [(0, 9, 12, 19)] { frames := 8, cells := 1, slots := 6, locals := 198 } D cy [.ref nx, .int t_, .ref no] ((no, .inl (cy 2, 1, .inr (.inl g))) :: Wc) (fun r W1 => ∃ (g2 : Nat → Int64) (W2 : va_W) (Sn : CSt), HS_lands S t_ r (g2 (0 : Int32).toNatClampNeg) Sn ∧ Sn.1.1.toInt ≤ S.1.1.toInt + 0 ∧ IC cy nx Sn W2 ∧ W1 = (no, .inl (cy 2, 1, .inr (.inl g2))) :: W2) := by
  refine Hi.of (by decide) (Nat.le_of_ble_eq_true rfl) ?_
  intro p e s m below meth c A ls hX hE hP hD hl hxt
  obtain ⟨hx, hb, hr, hml, hown, htA, hlk⟩ := id hX
  have hK := hE.1
  have hS : va_S A s.heap s.heap [] := va_S.rf
  have hl : lv_has ls 4 [(0, .ref nx), (1, .int t_), (2, .ref no)] := hl
  have hP : va_P D vwCl ([(no, .inl (cy 2, 1, .inr (.inl g)))] ++ Wc) s.heap := hP
  have hD : va_D A ([(no, .inl (cy 2, 1, .inr (.inl g)))] ++ Wc) := hD
  refine lv_aload_n hx hb dL_lands_0 rfl (lv_at hl 2 rfl) ?_
  refine lv_iconst (v := 0) hx hb dL_lands_1 (by decide) ?_
  refine lv_aload_n hx hb dL_lands_2 rfl (lv_at hl 0 rfl) ?_
  refine lv_iload_n hx hb dL_lands_3 rfl (lv_at hl 1 rfl) ?_
  obtain ⟨qI_, fI_, hqI⟩ := IC_at hI
  refine xVi (As := [.int t_]) (rest := [.int 0, .ref no]) (wr := [(no, .inl (cy 2, 1, .inr (.inl g)))]) hX hE (I_lands l hlt D cy nx S Wc t_ hI) (cwVA 1 htA wd_1047 wd_1044 wd_1 wd_1045 wd_1046 (by decide +kernel) ⟨by decide, by decide⟩) hP hD hS (apR [(no, .inl (cy 2, 1, .inr (.inl g)))] Wc) (List.range ([(no, .inl (cy 2, 1, .inr (.inl g)))] : va_W).length) (ap_R [(no, .inl (cy 2, 1, .inr (.inl g)))] Wc) (ap_C [(no, .inl (cy 2, 1, .inr (.inl g)))] Wc) (ap_nd [(no, .inl (cy 2, 1, .inr (.inl g)))] Wc) qI_ hqI rfl rfl rfl hl.1 rfl (Nat.le_of_ble_eq_true rfl) dL_lands_4 (by decide) (fun E ce q9 W9 H locs hw hP hD hS hce hcv hcl => ?_) (fun r_ W2 H locs hw hP hD hS => ?_)
  · obtain ⟨hw, hcx, hI2⟩ := hw
    rcases hw with rfl
    refine kCatch (name := "java/util/NoSuchElementException") hX hE hxt [] ⟨0, 9, 12, 19⟩ [] rfl (fun z hz => absurd hz List.not_mem_nil) (by decide) (by decide) wd_860 (by decide +kernel) hce hcv hcl ?_
    refine W.widen (k := 1) (n := 6) (by decide) (by decide) ?_
    refine lv_astore_n (lv' := [(3, .ref q9), (0, .ref nx), (1, .int t_), (2, .ref no)]) hx hb dL_lands_12 rfl hl (by decide) rfl (fun ls hl => ?_)
    refine lv_iconst (v := 1) hx hb dL_lands_13 (by decide) ?_
    have hP : va_P D vwCl ((no, .inl (cy 2, 1, .inr (.inl g))) :: W9) H := hP
    have hD : va_D A ((no, .inl (cy 2, 1, .inr (.inl g))) :: W9) := hD
    exact rI hX hE hP hD hS dL_lands_14 (by decide) (by decide) ⟨g, W9, S, (Or.inr ⟨rfl, Or.inl ⟨hcx, rfl⟩⟩), (tl20 rfl), hI2, rfl⟩
  · refine W.widen (k := 1) (n := 6) (by decide) (by decide) ?_
    obtain ⟨Sn, hcs, hT2, hI2⟩ := hw
    refine lv_i2l hx hb dL_lands_7 rfl ?_
    have hP : va_P D vwCl ((no, .inl (cy 2, 1, .inr (.inl g))) :: W2) H := hP
    have hD : va_D A ((no, .inl (cy 2, 1, .inr (.inl g))) :: W2) := hD
    refine va_last hx hb hK hP hD hS 0 2 rfl rfl (in_lit (by decide)) dL_lands_8 (fun H locs hP hD hS => ?_)
    refine lv_goto (tgt := 15) hx hb dL_lands_9 (by decide) ?_
    refine lv_iconst (v := 0) hx hb dL_lands_15 (by decide) ?_
    have hP : va_P D vwCl ((no, .inl (cy 2, 1, .inr (.inl (vp_updL g (0 : Int32).toNatClampNeg r_.toInt64)))) :: W2) H := hP
    have hD : va_D A ((no, .inl (cy 2, 1, .inr (.inl (vp_updL g (0 : Int32).toNatClampNeg r_.toInt64)))) :: W2) := hD
    exact rI hX hE hP hD hS dL_lands_16 (by decide) (by decide) ⟨(vp_updL g (0 : Int32).toNatClampNeg r_.toInt64), W2, Sn, (Or.inl ⟨rfl, _, hcs, up_L0 _ _ _⟩), hT2, hI2, rfl⟩
def HS_fallIn (S : CSt) (n_ : Int32) (r : Int32) (o : Int64) (Sn : CSt) : Prop := (r = 0 ∧ ∃ q : Int32, CS_fallIn S n_ q Sn ∧ o = q.toInt64) ∨ (Sn = S ∧ ((CX_fallIn S n_ "java/lang/IllegalArgumentException" ∧ r = 1) ∨ False))
set_option maxHeartbeats 4000000 in
set_option maxRecDepth 100000 in
theorem H_fallIn (l : Launch) (hlt : l.stackTraces = false) (D : va_G) (cy : Nat → ClassId) (nx : Nat) (S : CSt) (Wc : va_W) (no : Nat) (g : Nat → Int64) (n_ : Int32) (hI : IC cy nx S Wc) : Hi l yL_fallIn cL_fallIn 4 (some .int) [(0, 9, 12, 13)] { frames := 8, cells := 1, slots := 6, locals := 200 } D cy [.ref nx, .int n_, .ref no] ((no, .inl (cy 2, 1, .inr (.inl g))) :: Wc) (fun r W1 => ∃ (g2 : Nat → Int64) (W2 : va_W) (Sn : CSt), HS_fallIn S n_ r (g2 (0 : Int32).toNatClampNeg) Sn ∧ Sn.1.1.toInt ≤ S.1.1.toInt + 0 ∧ IC cy nx Sn W2 ∧ W1 = (no, .inl (cy 2, 1, .inr (.inl g2))) :: W2) := by
  refine Hi.of (by decide) (Nat.le_of_ble_eq_true rfl) ?_
  intro p e s m below meth c A ls hX hE hP hD hl hxt
  obtain ⟨hx, hb, hr, hml, hown, htA, hlk⟩ := id hX
  have hK := hE.1
  have hS : va_S A s.heap s.heap [] := va_S.rf
  have hl : lv_has ls 4 [(0, .ref nx), (1, .int n_), (2, .ref no)] := hl
  have hP : va_P D vwCl ([(no, .inl (cy 2, 1, .inr (.inl g)))] ++ Wc) s.heap := hP
  have hD : va_D A ([(no, .inl (cy 2, 1, .inr (.inl g)))] ++ Wc) := hD
  refine lv_aload_n hx hb dL_fallIn_0 rfl (lv_at hl 2 rfl) ?_
  refine lv_iconst (v := 0) hx hb dL_fallIn_1 (by decide) ?_
  refine lv_aload_n hx hb dL_fallIn_2 rfl (lv_at hl 0 rfl) ?_
  refine lv_iload_n hx hb dL_fallIn_3 rfl (lv_at hl 1 rfl) ?_
  obtain ⟨qI_, fI_, hqI⟩ := IC_at hI
  refine xVi (As := [.int n_]) (rest := [.int 0, .ref no]) (wr := [(no, .inl (cy 2, 1, .inr (.inl g)))]) hX hE (I_fallIn l hlt D cy nx S Wc n_ hI) (cwVA 1 htA wd_1054 wd_1051 wd_1 wd_1052 wd_1053 (by decide +kernel) ⟨by decide, by decide⟩) hP hD hS (apR [(no, .inl (cy 2, 1, .inr (.inl g)))] Wc) (List.range ([(no, .inl (cy 2, 1, .inr (.inl g)))] : va_W).length) (ap_R [(no, .inl (cy 2, 1, .inr (.inl g)))] Wc) (ap_C [(no, .inl (cy 2, 1, .inr (.inl g)))] Wc) (ap_nd [(no, .inl (cy 2, 1, .inr (.inl g)))] Wc) qI_ hqI rfl rfl rfl hl.1 rfl (Nat.le_of_ble_eq_true rfl) dL_fallIn_4 (by decide) (fun E ce q9 W9 H locs hw hP hD hS hce hcv hcl => ?_) (fun r_ W2 H locs hw hP hD hS => ?_)
  · obtain ⟨hw, hcx, hI2⟩ := hw
    rcases hw with rfl
    refine kCatch (name := "java/lang/IllegalArgumentException") hX hE hxt [] ⟨0, 9, 12, 13⟩ [] rfl (fun z hz => absurd hz List.not_mem_nil) (by decide) (by decide) wd_526 (by decide +kernel) hce hcv hcl ?_
    refine W.widen (k := 1) (n := 6) (by decide) (by decide) ?_
    refine lv_astore_n (lv' := [(3, .ref q9), (0, .ref nx), (1, .int n_), (2, .ref no)]) hx hb dL_fallIn_12 rfl hl (by decide) rfl (fun ls hl => ?_)
    refine lv_iconst (v := 1) hx hb dL_fallIn_13 (by decide) ?_
    have hP : va_P D vwCl ((no, .inl (cy 2, 1, .inr (.inl g))) :: W9) H := hP
    have hD : va_D A ((no, .inl (cy 2, 1, .inr (.inl g))) :: W9) := hD
    exact rI hX hE hP hD hS dL_fallIn_14 (by decide) (by decide) ⟨g, W9, S, (Or.inr ⟨rfl, Or.inl ⟨hcx, rfl⟩⟩), (tl20 rfl), hI2, rfl⟩
  · refine W.widen (k := 1) (n := 6) (by decide) (by decide) ?_
    obtain ⟨Sn, hcs, hT2, hI2⟩ := hw
    refine lv_i2l hx hb dL_fallIn_7 rfl ?_
    have hP : va_P D vwCl ((no, .inl (cy 2, 1, .inr (.inl g))) :: W2) H := hP
    have hD : va_D A ((no, .inl (cy 2, 1, .inr (.inl g))) :: W2) := hD
    refine va_last hx hb hK hP hD hS 0 2 rfl rfl (in_lit (by decide)) dL_fallIn_8 (fun H locs hP hD hS => ?_)
    refine lv_goto (tgt := 15) hx hb dL_fallIn_9 (by decide) ?_
    refine lv_iconst (v := 0) hx hb dL_fallIn_15 (by decide) ?_
    have hP : va_P D vwCl ((no, .inl (cy 2, 1, .inr (.inl (vp_updL g (0 : Int32).toNatClampNeg r_.toInt64)))) :: W2) H := hP
    have hD : va_D A ((no, .inl (cy 2, 1, .inr (.inl (vp_updL g (0 : Int32).toNatClampNeg r_.toInt64)))) :: W2) := hD
    exact rI hX hE hP hD hS dL_fallIn_16 (by decide) (by decide) ⟨(vp_updL g (0 : Int32).toNatClampNeg r_.toInt64), W2, Sn, (Or.inl ⟨rfl, _, hcs, up_L0 _ _ _⟩), hT2, hI2, rfl⟩
def HS_frees (S : CSt) (t_ : Int32) (r : Int32) (o : Int64) (Sn : CSt) : Prop := (r = 0 ∧ ∃ q : Int32, CS_frees S t_ q Sn ∧ o = q.toInt64) ∨ (Sn = S ∧ ((CX_frees S t_ "java/lang/IllegalStateException" ∧ r = 2) ∨ (CX_frees S t_ "java/util/NoSuchElementException" ∧ r = 1) ∨ False))
set_option maxHeartbeats 4000000 in
set_option maxRecDepth 100000 in
theorem H_frees (l : Launch) (hlt : l.stackTraces = false) (D : va_G) (cy : Nat → ClassId) (nx : Nat) (S : CSt) (Wc : va_W) (no : Nat) (g : Nat → Int64) (t_ : Int32) (hI : IC cy nx S Wc) : Hi l yL_frees cL_frees 4 (some .int) [(0, 9, 12, 19), (0, 9, 15, 43)] { frames := 8, cells := 2, slots := 12, locals := 132 } D cy [.ref nx, .int t_, .ref no] ((no, .inl (cy 2, 1, .inr (.inl g))) :: Wc) (fun r W1 => ∃ (g2 : Nat → Int64) (W2 : va_W) (Sn : CSt), HS_frees S t_ r (g2 (0 : Int32).toNatClampNeg) Sn ∧ Sn.1.1.toInt ≤ S.1.1.toInt + 0 ∧ IC cy nx Sn W2 ∧ W1 = (no, .inl (cy 2, 1, .inr (.inl g2))) :: W2) := by
  refine Hi.of (by decide) (Nat.le_of_ble_eq_true rfl) ?_
  intro p e s m below meth c A ls hX hE hP hD hl hxt
  obtain ⟨hx, hb, hr, hml, hown, htA, hlk⟩ := id hX
  have hK := hE.1
  have hS : va_S A s.heap s.heap [] := va_S.rf
  have hl : lv_has ls 4 [(0, .ref nx), (1, .int t_), (2, .ref no)] := hl
  have hP : va_P D vwCl ([(no, .inl (cy 2, 1, .inr (.inl g)))] ++ Wc) s.heap := hP
  have hD : va_D A ([(no, .inl (cy 2, 1, .inr (.inl g)))] ++ Wc) := hD
  refine lv_aload_n hx hb dL_frees_0 rfl (lv_at hl 2 rfl) ?_
  refine lv_iconst (v := 0) hx hb dL_frees_1 (by decide) ?_
  refine lv_aload_n hx hb dL_frees_2 rfl (lv_at hl 0 rfl) ?_
  refine lv_iload_n hx hb dL_frees_3 rfl (lv_at hl 1 rfl) ?_
  obtain ⟨qI_, fI_, hqI⟩ := IC_at hI
  refine xVi (As := [.int t_]) (rest := [.int 0, .ref no]) (wr := [(no, .inl (cy 2, 1, .inr (.inl g)))]) hX hE (I_frees l hlt D cy nx S Wc t_ hI) (cwVA 1 htA wd_1061 wd_1058 wd_1 wd_1059 wd_1060 (by decide +kernel) ⟨by decide, by decide⟩) hP hD hS (apR [(no, .inl (cy 2, 1, .inr (.inl g)))] Wc) (List.range ([(no, .inl (cy 2, 1, .inr (.inl g)))] : va_W).length) (ap_R [(no, .inl (cy 2, 1, .inr (.inl g)))] Wc) (ap_C [(no, .inl (cy 2, 1, .inr (.inl g)))] Wc) (ap_nd [(no, .inl (cy 2, 1, .inr (.inl g)))] Wc) qI_ hqI rfl rfl rfl hl.1 rfl (Nat.le_of_ble_eq_true rfl) dL_frees_4 (by decide) (fun E ce q9 W9 H locs hw hP hD hS hce hcv hcl => ?_) (fun r_ W2 H locs hw hP hD hS => ?_)
  · obtain ⟨hw, hcx, hI2⟩ := hw
    rcases hw with rfl | rfl
    · refine kCatch (name := "java/lang/IllegalStateException") hX hE hxt [⟨0, 9, 12, 19⟩] ⟨0, 9, 15, 43⟩ [] rfl (List.forall_mem_cons.mpr ⟨Or.inr ⟨by decide, "java/util/NoSuchElementException", htA _ wd_860, hE.2.2.2.2.2.1 ("java/lang/IllegalStateException", "java/util/NoSuchElementException") (by decide)⟩, (fun z hz => absurd hz List.not_mem_nil)⟩) (by decide) (by decide) wd_965 (by decide +kernel) hce hcv hcl ?_
      refine W.widen (k := 2) (n := 12) (by decide) (by decide) ?_
      refine lv_astore_n (lv' := [(3, .ref q9), (0, .ref nx), (1, .int t_), (2, .ref no)]) hx hb dL_frees_15 rfl hl (by decide) rfl (fun ls hl => ?_)
      refine lv_iconst (v := 2) hx hb dL_frees_16 (by decide) ?_
      have hP : va_P D vwCl ((no, .inl (cy 2, 1, .inr (.inl g))) :: W9) H := hP
      have hD : va_D A ((no, .inl (cy 2, 1, .inr (.inl g))) :: W9) := hD
      exact rI hX hE hP hD hS dL_frees_17 (by decide) (by decide) ⟨g, W9, S, (Or.inr ⟨rfl, Or.inl ⟨hcx, rfl⟩⟩), (tl20 rfl), hI2, rfl⟩
    · refine kCatch (name := "java/util/NoSuchElementException") hX hE hxt [] ⟨0, 9, 12, 19⟩ [⟨0, 9, 15, 43⟩] rfl (fun z hz => absurd hz List.not_mem_nil) (by decide) (by decide) wd_860 (by decide +kernel) hce hcv hcl ?_
      refine W.widen (k := 2) (n := 12) (by decide) (by decide) ?_
      refine lv_astore_n (lv' := [(3, .ref q9), (0, .ref nx), (1, .int t_), (2, .ref no)]) hx hb dL_frees_12 rfl hl (by decide) rfl (fun ls hl => ?_)
      refine lv_iconst (v := 1) hx hb dL_frees_13 (by decide) ?_
      have hP : va_P D vwCl ((no, .inl (cy 2, 1, .inr (.inl g))) :: W9) H := hP
      have hD : va_D A ((no, .inl (cy 2, 1, .inr (.inl g))) :: W9) := hD
      exact rI hX hE hP hD hS dL_frees_14 (by decide) (by decide) ⟨g, W9, S, (Or.inr ⟨rfl, Or.inr (Or.inl ⟨hcx, rfl⟩)⟩), (tl20 rfl), hI2, rfl⟩
  · refine W.widen (k := 2) (n := 12) (by decide) (by decide) ?_
    obtain ⟨Sn, hcs, hT2, hI2⟩ := hw
    refine lv_i2l hx hb dL_frees_7 rfl ?_
    have hP : va_P D vwCl ((no, .inl (cy 2, 1, .inr (.inl g))) :: W2) H := hP
    have hD : va_D A ((no, .inl (cy 2, 1, .inr (.inl g))) :: W2) := hD
    refine va_last hx hb hK hP hD hS 0 2 rfl rfl (in_lit (by decide)) dL_frees_8 (fun H locs hP hD hS => ?_)
    refine lv_goto (tgt := 18) hx hb dL_frees_9 (by decide) ?_
    refine lv_iconst (v := 0) hx hb dL_frees_18 (by decide) ?_
    have hP : va_P D vwCl ((no, .inl (cy 2, 1, .inr (.inl (vp_updL g (0 : Int32).toNatClampNeg r_.toInt64)))) :: W2) H := hP
    have hD : va_D A ((no, .inl (cy 2, 1, .inr (.inl (vp_updL g (0 : Int32).toNatClampNeg r_.toInt64)))) :: W2) := hD
    exact rI hX hE hP hD hS dL_frees_19 (by decide) (by decide) ⟨(vp_updL g (0 : Int32).toNatClampNeg r_.toInt64), W2, Sn, (Or.inl ⟨rfl, _, hcs, up_L0 _ _ _⟩), hT2, hI2, rfl⟩
def HS_heightIn (S : CSt) (c_ : Int32) (n_ : Int32) (r : Int32) (o : Int64) (Sn : CSt) : Prop := (r = 0 ∧ ∃ q : Int32, CS_heightIn S c_ n_ q Sn ∧ o = q.toInt64) ∨ (Sn = S ∧ ((CX_heightIn S c_ n_ "java/lang/IllegalArgumentException" ∧ r = 2) ∨ (CX_heightIn S c_ n_ "java/util/NoSuchElementException" ∧ r = 1) ∨ False))
set_option maxHeartbeats 4000000 in
set_option maxRecDepth 100000 in
theorem H_heightIn (l : Launch) (hlt : l.stackTraces = false) (D : va_G) (cy : Nat → ClassId) (nx : Nat) (S : CSt) (Wc : va_W) (no : Nat) (g : Nat → Int64) (c_ : Int32) (n_ : Int32) (hI : IC cy nx S Wc) : Hi l yL_heightIn cL_heightIn 5 (some .int) [(0, 10, 13, 19), (0, 10, 17, 13)] { frames := 8, cells := 2, slots := 12, locals := 201 } D cy [.ref nx, .int c_, .int n_, .ref no] ((no, .inl (cy 2, 1, .inr (.inl g))) :: Wc) (fun r W1 => ∃ (g2 : Nat → Int64) (W2 : va_W) (Sn : CSt), HS_heightIn S c_ n_ r (g2 (0 : Int32).toNatClampNeg) Sn ∧ Sn.1.1.toInt ≤ S.1.1.toInt + 0 ∧ IC cy nx Sn W2 ∧ W1 = (no, .inl (cy 2, 1, .inr (.inl g2))) :: W2) := by
  refine Hi.of (by decide) (Nat.le_of_ble_eq_true rfl) ?_
  intro p e s m below meth c A ls hX hE hP hD hl hxt
  obtain ⟨hx, hb, hr, hml, hown, htA, hlk⟩ := id hX
  have hK := hE.1
  have hS : va_S A s.heap s.heap [] := va_S.rf
  have hl : lv_has ls 5 [(0, .ref nx), (1, .int c_), (2, .int n_), (3, .ref no)] := hl
  have hP : va_P D vwCl ([(no, .inl (cy 2, 1, .inr (.inl g)))] ++ Wc) s.heap := hP
  have hD : va_D A ([(no, .inl (cy 2, 1, .inr (.inl g)))] ++ Wc) := hD
  refine lv_aload_n hx hb dL_heightIn_0 rfl (lv_at hl 3 rfl) ?_
  refine lv_iconst (v := 0) hx hb dL_heightIn_1 (by decide) ?_
  refine lv_aload_n hx hb dL_heightIn_2 rfl (lv_at hl 0 rfl) ?_
  refine lv_iload_n hx hb dL_heightIn_3 rfl (lv_at hl 1 rfl) ?_
  refine lv_iload_n hx hb dL_heightIn_4 rfl (lv_at hl 2 rfl) ?_
  obtain ⟨qI_, fI_, hqI⟩ := IC_at hI
  refine xVi (As := [.int c_, .int n_]) (rest := [.int 0, .ref no]) (wr := [(no, .inl (cy 2, 1, .inr (.inl g)))]) hX hE (I_heightIn l hlt D cy nx S Wc c_ n_ hI) (cwVA 2 htA wd_1070 wd_1067 wd_1 wd_1068 wd_1069 (by decide +kernel) ⟨by decide, by decide⟩) hP hD hS (apR [(no, .inl (cy 2, 1, .inr (.inl g)))] Wc) (List.range ([(no, .inl (cy 2, 1, .inr (.inl g)))] : va_W).length) (ap_R [(no, .inl (cy 2, 1, .inr (.inl g)))] Wc) (ap_C [(no, .inl (cy 2, 1, .inr (.inl g)))] Wc) (ap_nd [(no, .inl (cy 2, 1, .inr (.inl g)))] Wc) qI_ hqI rfl rfl rfl hl.1 rfl (Nat.le_of_ble_eq_true rfl) dL_heightIn_5 (by decide) (fun E ce q9 W9 H locs hw hP hD hS hce hcv hcl => ?_) (fun r_ W2 H locs hw hP hD hS => ?_)
  · obtain ⟨hw, hcx, hI2⟩ := hw
    rcases hw with rfl | rfl
    · refine kCatch (name := "java/lang/IllegalArgumentException") hX hE hxt [⟨0, 10, 13, 19⟩] ⟨0, 10, 17, 13⟩ [] rfl (List.forall_mem_cons.mpr ⟨Or.inr ⟨by decide, "java/util/NoSuchElementException", htA _ wd_860, hE.2.2.2.2.2.1 ("java/lang/IllegalArgumentException", "java/util/NoSuchElementException") (by decide)⟩, (fun z hz => absurd hz List.not_mem_nil)⟩) (by decide) (by decide) wd_526 (by decide +kernel) hce hcv hcl ?_
      refine W.widen (k := 2) (n := 12) (by decide) (by decide) ?_
      refine lv_astore (lv' := [(4, .ref q9), (0, .ref nx), (1, .int c_), (2, .int n_), (3, .ref no)]) hx hb dL_heightIn_17 hl (by decide) rfl (fun ls hl => ?_)
      refine lv_iconst (v := 2) hx hb dL_heightIn_19 (by decide) ?_
      have hP : va_P D vwCl ((no, .inl (cy 2, 1, .inr (.inl g))) :: W9) H := hP
      have hD : va_D A ((no, .inl (cy 2, 1, .inr (.inl g))) :: W9) := hD
      exact rI hX hE hP hD hS dL_heightIn_20 (by decide) (by decide) ⟨g, W9, S, (Or.inr ⟨rfl, Or.inl ⟨hcx, rfl⟩⟩), (tl20 rfl), hI2, rfl⟩
    · refine kCatch (name := "java/util/NoSuchElementException") hX hE hxt [] ⟨0, 10, 13, 19⟩ [⟨0, 10, 17, 13⟩] rfl (fun z hz => absurd hz List.not_mem_nil) (by decide) (by decide) wd_860 (by decide +kernel) hce hcv hcl ?_
      refine W.widen (k := 2) (n := 12) (by decide) (by decide) ?_
      refine lv_astore (lv' := [(4, .ref q9), (0, .ref nx), (1, .int c_), (2, .int n_), (3, .ref no)]) hx hb dL_heightIn_13 hl (by decide) rfl (fun ls hl => ?_)
      refine lv_iconst (v := 1) hx hb dL_heightIn_15 (by decide) ?_
      have hP : va_P D vwCl ((no, .inl (cy 2, 1, .inr (.inl g))) :: W9) H := hP
      have hD : va_D A ((no, .inl (cy 2, 1, .inr (.inl g))) :: W9) := hD
      exact rI hX hE hP hD hS dL_heightIn_16 (by decide) (by decide) ⟨g, W9, S, (Or.inr ⟨rfl, Or.inr (Or.inl ⟨hcx, rfl⟩)⟩), (tl20 rfl), hI2, rfl⟩
  · refine W.widen (k := 2) (n := 12) (by decide) (by decide) ?_
    obtain ⟨Sn, hcs, hT2, hI2⟩ := hw
    refine lv_i2l hx hb dL_heightIn_8 rfl ?_
    have hP : va_P D vwCl ((no, .inl (cy 2, 1, .inr (.inl g))) :: W2) H := hP
    have hD : va_D A ((no, .inl (cy 2, 1, .inr (.inl g))) :: W2) := hD
    refine va_last hx hb hK hP hD hS 0 2 rfl rfl (in_lit (by decide)) dL_heightIn_9 (fun H locs hP hD hS => ?_)
    refine lv_goto (tgt := 21) hx hb dL_heightIn_10 (by decide) ?_
    refine lv_iconst (v := 0) hx hb dL_heightIn_21 (by decide) ?_
    have hP : va_P D vwCl ((no, .inl (cy 2, 1, .inr (.inl (vp_updL g (0 : Int32).toNatClampNeg r_.toInt64)))) :: W2) H := hP
    have hD : va_D A ((no, .inl (cy 2, 1, .inr (.inl (vp_updL g (0 : Int32).toNatClampNeg r_.toInt64)))) :: W2) := hD
    exact rI hX hE hP hD hS dL_heightIn_22 (by decide) (by decide) ⟨(vp_updL g (0 : Int32).toNatClampNeg r_.toInt64), W2, Sn, (Or.inl ⟨rfl, _, hcs, up_L0 _ _ _⟩), hT2, hI2, rfl⟩
def HS_hurtIn (S : CSt) (w_ : Int32) (r : Int32) (o : Int64) (Sn : CSt) : Prop := (r = 0 ∧ ∃ q : Int32, CS_hurtIn S w_ q Sn ∧ o = q.toInt64) ∨ (Sn = S ∧ ((CX_hurtIn S w_ "java/util/NoSuchElementException" ∧ r = 1) ∨ False))
set_option maxHeartbeats 4000000 in
set_option maxRecDepth 100000 in
theorem H_hurtIn (l : Launch) (hlt : l.stackTraces = false) (D : va_G) (cy : Nat → ClassId) (nx : Nat) (S : CSt) (Wc : va_W) (no : Nat) (g : Nat → Int64) (w_ : Int32) (hI : IC cy nx S Wc) : Hi l yL_hurtIn cL_hurtIn 4 (some .int) [(0, 9, 12, 19)] { frames := 8, cells := 1, slots := 6, locals := 200 } D cy [.ref nx, .int w_, .ref no] ((no, .inl (cy 2, 1, .inr (.inl g))) :: Wc) (fun r W1 => ∃ (g2 : Nat → Int64) (W2 : va_W) (Sn : CSt), HS_hurtIn S w_ r (g2 (0 : Int32).toNatClampNeg) Sn ∧ Sn.1.1.toInt ≤ S.1.1.toInt + 0 ∧ IC cy nx Sn W2 ∧ W1 = (no, .inl (cy 2, 1, .inr (.inl g2))) :: W2) := by
  refine Hi.of (by decide) (Nat.le_of_ble_eq_true rfl) ?_
  intro p e s m below meth c A ls hX hE hP hD hl hxt
  obtain ⟨hx, hb, hr, hml, hown, htA, hlk⟩ := id hX
  have hK := hE.1
  have hS : va_S A s.heap s.heap [] := va_S.rf
  have hl : lv_has ls 4 [(0, .ref nx), (1, .int w_), (2, .ref no)] := hl
  have hP : va_P D vwCl ([(no, .inl (cy 2, 1, .inr (.inl g)))] ++ Wc) s.heap := hP
  have hD : va_D A ([(no, .inl (cy 2, 1, .inr (.inl g)))] ++ Wc) := hD
  refine lv_aload_n hx hb dL_hurtIn_0 rfl (lv_at hl 2 rfl) ?_
  refine lv_iconst (v := 0) hx hb dL_hurtIn_1 (by decide) ?_
  refine lv_aload_n hx hb dL_hurtIn_2 rfl (lv_at hl 0 rfl) ?_
  refine lv_iload_n hx hb dL_hurtIn_3 rfl (lv_at hl 1 rfl) ?_
  obtain ⟨qI_, fI_, hqI⟩ := IC_at hI
  refine xVi (As := [.int w_]) (rest := [.int 0, .ref no]) (wr := [(no, .inl (cy 2, 1, .inr (.inl g)))]) hX hE (I_hurtIn l hlt D cy nx S Wc w_ hI) (cwVA 1 htA wd_1077 wd_1074 wd_1 wd_1075 wd_1076 (by decide +kernel) ⟨by decide, by decide⟩) hP hD hS (apR [(no, .inl (cy 2, 1, .inr (.inl g)))] Wc) (List.range ([(no, .inl (cy 2, 1, .inr (.inl g)))] : va_W).length) (ap_R [(no, .inl (cy 2, 1, .inr (.inl g)))] Wc) (ap_C [(no, .inl (cy 2, 1, .inr (.inl g)))] Wc) (ap_nd [(no, .inl (cy 2, 1, .inr (.inl g)))] Wc) qI_ hqI rfl rfl rfl hl.1 rfl (Nat.le_of_ble_eq_true rfl) dL_hurtIn_4 (by decide) (fun E ce q9 W9 H locs hw hP hD hS hce hcv hcl => ?_) (fun r_ W2 H locs hw hP hD hS => ?_)
  · obtain ⟨hw, hcx, hI2⟩ := hw
    rcases hw with rfl
    refine kCatch (name := "java/util/NoSuchElementException") hX hE hxt [] ⟨0, 9, 12, 19⟩ [] rfl (fun z hz => absurd hz List.not_mem_nil) (by decide) (by decide) wd_860 (by decide +kernel) hce hcv hcl ?_
    refine W.widen (k := 1) (n := 6) (by decide) (by decide) ?_
    refine lv_astore_n (lv' := [(3, .ref q9), (0, .ref nx), (1, .int w_), (2, .ref no)]) hx hb dL_hurtIn_12 rfl hl (by decide) rfl (fun ls hl => ?_)
    refine lv_iconst (v := 1) hx hb dL_hurtIn_13 (by decide) ?_
    have hP : va_P D vwCl ((no, .inl (cy 2, 1, .inr (.inl g))) :: W9) H := hP
    have hD : va_D A ((no, .inl (cy 2, 1, .inr (.inl g))) :: W9) := hD
    exact rI hX hE hP hD hS dL_hurtIn_14 (by decide) (by decide) ⟨g, W9, S, (Or.inr ⟨rfl, Or.inl ⟨hcx, rfl⟩⟩), (tl20 rfl), hI2, rfl⟩
  · refine W.widen (k := 1) (n := 6) (by decide) (by decide) ?_
    obtain ⟨Sn, hcs, hT2, hI2⟩ := hw
    refine lv_i2l hx hb dL_hurtIn_7 rfl ?_
    have hP : va_P D vwCl ((no, .inl (cy 2, 1, .inr (.inl g))) :: W2) H := hP
    have hD : va_D A ((no, .inl (cy 2, 1, .inr (.inl g))) :: W2) := hD
    refine va_last hx hb hK hP hD hS 0 2 rfl rfl (in_lit (by decide)) dL_hurtIn_8 (fun H locs hP hD hS => ?_)
    refine lv_goto (tgt := 15) hx hb dL_hurtIn_9 (by decide) ?_
    refine lv_iconst (v := 0) hx hb dL_hurtIn_15 (by decide) ?_
    have hP : va_P D vwCl ((no, .inl (cy 2, 1, .inr (.inl (vp_updL g (0 : Int32).toNatClampNeg r_.toInt64)))) :: W2) H := hP
    have hD : va_D A ((no, .inl (cy 2, 1, .inr (.inl (vp_updL g (0 : Int32).toNatClampNeg r_.toInt64)))) :: W2) := hD
    exact rI hX hE hP hD hS dL_hurtIn_16 (by decide) (by decide) ⟨(vp_updL g (0 : Int32).toNatClampNeg r_.toInt64), W2, Sn, (Or.inl ⟨rfl, _, hcs, up_L0 _ _ _⟩), hT2, hI2, rfl⟩
def HS_hurts (S : CSt) (w_ : Int32) (r : Int32) (o : Int64) (Sn : CSt) : Prop := (r = 0 ∧ ∃ q : Int32, CS_hurts S w_ q Sn ∧ o = q.toInt64) ∨ (Sn = S ∧ ((CX_hurts S w_ "java/util/NoSuchElementException" ∧ r = 1) ∨ False))
set_option maxHeartbeats 4000000 in
set_option maxRecDepth 100000 in
theorem H_hurts (l : Launch) (hlt : l.stackTraces = false) (D : va_G) (cy : Nat → ClassId) (nx : Nat) (S : CSt) (Wc : va_W) (no : Nat) (g : Nat → Int64) (w_ : Int32) (hI : IC cy nx S Wc) : Hi l yL_hurts cL_hurts 4 (some .int) [(0, 9, 12, 19)] { frames := 8, cells := 1, slots := 6, locals := 198 } D cy [.ref nx, .int w_, .ref no] ((no, .inl (cy 2, 1, .inr (.inl g))) :: Wc) (fun r W1 => ∃ (g2 : Nat → Int64) (W2 : va_W) (Sn : CSt), HS_hurts S w_ r (g2 (0 : Int32).toNatClampNeg) Sn ∧ Sn.1.1.toInt ≤ S.1.1.toInt + 0 ∧ IC cy nx Sn W2 ∧ W1 = (no, .inl (cy 2, 1, .inr (.inl g2))) :: W2) := by
  refine Hi.of (by decide) (Nat.le_of_ble_eq_true rfl) ?_
  intro p e s m below meth c A ls hX hE hP hD hl hxt
  obtain ⟨hx, hb, hr, hml, hown, htA, hlk⟩ := id hX
  have hK := hE.1
  have hS : va_S A s.heap s.heap [] := va_S.rf
  have hl : lv_has ls 4 [(0, .ref nx), (1, .int w_), (2, .ref no)] := hl
  have hP : va_P D vwCl ([(no, .inl (cy 2, 1, .inr (.inl g)))] ++ Wc) s.heap := hP
  have hD : va_D A ([(no, .inl (cy 2, 1, .inr (.inl g)))] ++ Wc) := hD
  refine lv_aload_n hx hb dL_hurts_0 rfl (lv_at hl 2 rfl) ?_
  refine lv_iconst (v := 0) hx hb dL_hurts_1 (by decide) ?_
  refine lv_aload_n hx hb dL_hurts_2 rfl (lv_at hl 0 rfl) ?_
  refine lv_iload_n hx hb dL_hurts_3 rfl (lv_at hl 1 rfl) ?_
  obtain ⟨qI_, fI_, hqI⟩ := IC_at hI
  refine xVi (As := [.int w_]) (rest := [.int 0, .ref no]) (wr := [(no, .inl (cy 2, 1, .inr (.inl g)))]) hX hE (I_hurts l hlt D cy nx S Wc w_ hI) (cwVA 1 htA wd_1084 wd_1081 wd_1 wd_1082 wd_1083 (by decide +kernel) ⟨by decide, by decide⟩) hP hD hS (apR [(no, .inl (cy 2, 1, .inr (.inl g)))] Wc) (List.range ([(no, .inl (cy 2, 1, .inr (.inl g)))] : va_W).length) (ap_R [(no, .inl (cy 2, 1, .inr (.inl g)))] Wc) (ap_C [(no, .inl (cy 2, 1, .inr (.inl g)))] Wc) (ap_nd [(no, .inl (cy 2, 1, .inr (.inl g)))] Wc) qI_ hqI rfl rfl rfl hl.1 rfl (Nat.le_of_ble_eq_true rfl) dL_hurts_4 (by decide) (fun E ce q9 W9 H locs hw hP hD hS hce hcv hcl => ?_) (fun r_ W2 H locs hw hP hD hS => ?_)
  · obtain ⟨hw, hcx, hI2⟩ := hw
    rcases hw with rfl
    refine kCatch (name := "java/util/NoSuchElementException") hX hE hxt [] ⟨0, 9, 12, 19⟩ [] rfl (fun z hz => absurd hz List.not_mem_nil) (by decide) (by decide) wd_860 (by decide +kernel) hce hcv hcl ?_
    refine W.widen (k := 1) (n := 6) (by decide) (by decide) ?_
    refine lv_astore_n (lv' := [(3, .ref q9), (0, .ref nx), (1, .int w_), (2, .ref no)]) hx hb dL_hurts_12 rfl hl (by decide) rfl (fun ls hl => ?_)
    refine lv_iconst (v := 1) hx hb dL_hurts_13 (by decide) ?_
    have hP : va_P D vwCl ((no, .inl (cy 2, 1, .inr (.inl g))) :: W9) H := hP
    have hD : va_D A ((no, .inl (cy 2, 1, .inr (.inl g))) :: W9) := hD
    exact rI hX hE hP hD hS dL_hurts_14 (by decide) (by decide) ⟨g, W9, S, (Or.inr ⟨rfl, Or.inl ⟨hcx, rfl⟩⟩), (tl20 rfl), hI2, rfl⟩
  · refine W.widen (k := 1) (n := 6) (by decide) (by decide) ?_
    obtain ⟨Sn, hcs, hT2, hI2⟩ := hw
    refine lv_i2l hx hb dL_hurts_7 rfl ?_
    have hP : va_P D vwCl ((no, .inl (cy 2, 1, .inr (.inl g))) :: W2) H := hP
    have hD : va_D A ((no, .inl (cy 2, 1, .inr (.inl g))) :: W2) := hD
    refine va_last hx hb hK hP hD hS 0 2 rfl rfl (in_lit (by decide)) dL_hurts_8 (fun H locs hP hD hS => ?_)
    refine lv_goto (tgt := 15) hx hb dL_hurts_9 (by decide) ?_
    refine lv_iconst (v := 0) hx hb dL_hurts_15 (by decide) ?_
    have hP : va_P D vwCl ((no, .inl (cy 2, 1, .inr (.inl (vp_updL g (0 : Int32).toNatClampNeg r_.toInt64)))) :: W2) H := hP
    have hD : va_D A ((no, .inl (cy 2, 1, .inr (.inl (vp_updL g (0 : Int32).toNatClampNeg r_.toInt64)))) :: W2) := hD
    exact rI hX hE hP hD hS dL_hurts_16 (by decide) (by decide) ⟨(vp_updL g (0 : Int32).toNatClampNeg r_.toInt64), W2, Sn, (Or.inl ⟨rfl, _, hcs, up_L0 _ _ _⟩), hT2, hI2, rfl⟩
def HS_spares (S : CSt) (w_ : Int32) (c_ : Int32) (r : Int32) (o : Int64) (Sn : CSt) : Prop := (r = 0 ∧ ∃ q : Int32, CS_spares S w_ c_ q Sn ∧ o = q.toInt64) ∨ (Sn = S ∧ ((CX_spares S w_ c_ "java/util/NoSuchElementException" ∧ r = 1) ∨ False))
set_option maxHeartbeats 4000000 in
set_option maxRecDepth 100000 in
theorem H_spares (l : Launch) (hlt : l.stackTraces = false) (D : va_G) (cy : Nat → ClassId) (nx : Nat) (S : CSt) (Wc : va_W) (no : Nat) (g : Nat → Int64) (w_ : Int32) (c_ : Int32) (hI : IC cy nx S Wc) : Hi l yL_spares cL_spares 5 (some .int) [(0, 10, 13, 19)] { frames := 8, cells := 2, slots := 12, locals := 199 } D cy [.ref nx, .int w_, .int c_, .ref no] ((no, .inl (cy 2, 1, .inr (.inl g))) :: Wc) (fun r W1 => ∃ (g2 : Nat → Int64) (W2 : va_W) (Sn : CSt), HS_spares S w_ c_ r (g2 (0 : Int32).toNatClampNeg) Sn ∧ Sn.1.1.toInt ≤ S.1.1.toInt + 0 ∧ IC cy nx Sn W2 ∧ W1 = (no, .inl (cy 2, 1, .inr (.inl g2))) :: W2) := by
  refine Hi.of (by decide) (Nat.le_of_ble_eq_true rfl) ?_
  intro p e s m below meth c A ls hX hE hP hD hl hxt
  obtain ⟨hx, hb, hr, hml, hown, htA, hlk⟩ := id hX
  have hK := hE.1
  have hS : va_S A s.heap s.heap [] := va_S.rf
  have hl : lv_has ls 5 [(0, .ref nx), (1, .int w_), (2, .int c_), (3, .ref no)] := hl
  have hP : va_P D vwCl ([(no, .inl (cy 2, 1, .inr (.inl g)))] ++ Wc) s.heap := hP
  have hD : va_D A ([(no, .inl (cy 2, 1, .inr (.inl g)))] ++ Wc) := hD
  refine lv_aload_n hx hb dL_spares_0 rfl (lv_at hl 3 rfl) ?_
  refine lv_iconst (v := 0) hx hb dL_spares_1 (by decide) ?_
  refine lv_aload_n hx hb dL_spares_2 rfl (lv_at hl 0 rfl) ?_
  refine lv_iload_n hx hb dL_spares_3 rfl (lv_at hl 1 rfl) ?_
  refine lv_iload_n hx hb dL_spares_4 rfl (lv_at hl 2 rfl) ?_
  obtain ⟨qI_, fI_, hqI⟩ := IC_at hI
  refine xVi (As := [.int w_, .int c_]) (rest := [.int 0, .ref no]) (wr := [(no, .inl (cy 2, 1, .inr (.inl g)))]) hX hE (I_spares l hlt D cy nx S Wc w_ c_ hI) (cwVA 2 htA wd_1097 wd_1094 wd_1 wd_1095 wd_1096 (by decide +kernel) ⟨by decide, by decide⟩) hP hD hS (apR [(no, .inl (cy 2, 1, .inr (.inl g)))] Wc) (List.range ([(no, .inl (cy 2, 1, .inr (.inl g)))] : va_W).length) (ap_R [(no, .inl (cy 2, 1, .inr (.inl g)))] Wc) (ap_C [(no, .inl (cy 2, 1, .inr (.inl g)))] Wc) (ap_nd [(no, .inl (cy 2, 1, .inr (.inl g)))] Wc) qI_ hqI rfl rfl rfl hl.1 rfl (Nat.le_of_ble_eq_true rfl) dL_spares_5 (by decide) (fun E ce q9 W9 H locs hw hP hD hS hce hcv hcl => ?_) (fun r_ W2 H locs hw hP hD hS => ?_)
  · obtain ⟨hw, hcx, hI2⟩ := hw
    rcases hw with rfl
    refine kCatch (name := "java/util/NoSuchElementException") hX hE hxt [] ⟨0, 10, 13, 19⟩ [] rfl (fun z hz => absurd hz List.not_mem_nil) (by decide) (by decide) wd_860 (by decide +kernel) hce hcv hcl ?_
    refine W.widen (k := 2) (n := 12) (by decide) (by decide) ?_
    refine lv_astore (lv' := [(4, .ref q9), (0, .ref nx), (1, .int w_), (2, .int c_), (3, .ref no)]) hx hb dL_spares_13 hl (by decide) rfl (fun ls hl => ?_)
    refine lv_iconst (v := 1) hx hb dL_spares_15 (by decide) ?_
    have hP : va_P D vwCl ((no, .inl (cy 2, 1, .inr (.inl g))) :: W9) H := hP
    have hD : va_D A ((no, .inl (cy 2, 1, .inr (.inl g))) :: W9) := hD
    exact rI hX hE hP hD hS dL_spares_16 (by decide) (by decide) ⟨g, W9, S, (Or.inr ⟨rfl, Or.inl ⟨hcx, rfl⟩⟩), (tl20 rfl), hI2, rfl⟩
  · refine W.widen (k := 2) (n := 12) (by decide) (by decide) ?_
    obtain ⟨Sn, hcs, hT2, hI2⟩ := hw
    refine lv_i2l hx hb dL_spares_8 rfl ?_
    have hP : va_P D vwCl ((no, .inl (cy 2, 1, .inr (.inl g))) :: W2) H := hP
    have hD : va_D A ((no, .inl (cy 2, 1, .inr (.inl g))) :: W2) := hD
    refine va_last hx hb hK hP hD hS 0 2 rfl rfl (in_lit (by decide)) dL_spares_9 (fun H locs hP hD hS => ?_)
    refine lv_goto (tgt := 17) hx hb dL_spares_10 (by decide) ?_
    refine lv_iconst (v := 0) hx hb dL_spares_17 (by decide) ?_
    have hP : va_P D vwCl ((no, .inl (cy 2, 1, .inr (.inl (vp_updL g (0 : Int32).toNatClampNeg r_.toInt64)))) :: W2) H := hP
    have hD : va_D A ((no, .inl (cy 2, 1, .inr (.inl (vp_updL g (0 : Int32).toNatClampNeg r_.toInt64)))) :: W2) := hD
    exact rI hX hE hP hD hS dL_spares_18 (by decide) (by decide) ⟨(vp_updL g (0 : Int32).toNatClampNeg r_.toInt64), W2, Sn, (Or.inl ⟨rfl, _, hcs, up_L0 _ _ _⟩), hT2, hI2, rfl⟩
def HS_fallsBy (S : CSt) (t_ : Int32) (c_ : Int32) (l_ : Int32) (w_ : Int32) (r : Int32) (o : Int64) (Sn : CSt) : Prop := (r = 0 ∧ ∃ q : Int32, CS_fallsBy S t_ c_ l_ w_ q Sn ∧ o = q.toInt64) ∨ (Sn = S ∧ ((CX_fallsBy S t_ c_ l_ w_ "java/lang/IllegalArgumentException" ∧ r = 3) ∨ (CX_fallsBy S t_ c_ l_ w_ "java/lang/IllegalStateException" ∧ r = 2) ∨ (CX_fallsBy S t_ c_ l_ w_ "java/util/NoSuchElementException" ∧ r = 1) ∨ False))
set_option maxHeartbeats 4000000 in
set_option maxRecDepth 100000 in
theorem H_fallsBy (l : Launch) (hlt : l.stackTraces = false) (D : va_G) (cy : Nat → ClassId) (nx : Nat) (S : CSt) (Wc : va_W) (no : Nat) (g : Nat → Int64) (t_ : Int32) (c_ : Int32) (l_ : Int32) (w_ : Int32) (hI : IC cy nx S Wc) : Hi l yL_fallsBy cL_fallsBy 7 (some .int) [(0, 14, 17, 19), (0, 14, 21, 43), (0, 14, 25, 13)] { frames := 9, cells := 4, slots := 24, locals := 207 } D cy [.ref nx, .int t_, .int c_, .int l_, .int w_, .ref no] ((no, .inl (cy 2, 1, .inr (.inl g))) :: Wc) (fun r W1 => ∃ (g2 : Nat → Int64) (W2 : va_W) (Sn : CSt), HS_fallsBy S t_ c_ l_ w_ r (g2 (0 : Int32).toNatClampNeg) Sn ∧ Sn.1.1.toInt ≤ S.1.1.toInt + 0 ∧ IC cy nx Sn W2 ∧ W1 = (no, .inl (cy 2, 1, .inr (.inl g2))) :: W2) := by
  refine Hi.of (by decide) (Nat.le_of_ble_eq_true rfl) ?_
  intro p e s m below meth c A ls hX hE hP hD hl hxt
  obtain ⟨hx, hb, hr, hml, hown, htA, hlk⟩ := id hX
  have hK := hE.1
  have hS : va_S A s.heap s.heap [] := va_S.rf
  have hl : lv_has ls 7 [(0, .ref nx), (1, .int t_), (2, .int c_), (3, .int l_), (4, .int w_), (5, .ref no)] := hl
  have hP : va_P D vwCl ([(no, .inl (cy 2, 1, .inr (.inl g)))] ++ Wc) s.heap := hP
  have hD : va_D A ([(no, .inl (cy 2, 1, .inr (.inl g)))] ++ Wc) := hD
  refine lv_aload hx hb dL_fallsBy_0 (lv_at hl 5 rfl) ?_
  refine lv_iconst (v := 0) hx hb dL_fallsBy_2 (by decide) ?_
  refine lv_aload_n hx hb dL_fallsBy_3 rfl (lv_at hl 0 rfl) ?_
  refine lv_iload_n hx hb dL_fallsBy_4 rfl (lv_at hl 1 rfl) ?_
  refine lv_iload_n hx hb dL_fallsBy_5 rfl (lv_at hl 2 rfl) ?_
  refine lv_iload_n hx hb dL_fallsBy_6 rfl (lv_at hl 3 rfl) ?_
  refine lv_iload hx hb dL_fallsBy_7 (lv_at hl 4 rfl) ?_
  obtain ⟨qI_, fI_, hqI⟩ := IC_at hI
  refine xVi (As := [.int t_, .int c_, .int l_, .int w_]) (rest := [.int 0, .ref no]) (wr := [(no, .inl (cy 2, 1, .inr (.inl g)))]) hX hE (I_fallsBy l hlt D cy nx S Wc t_ c_ l_ w_ hI) (cwVA 4 htA wd_1104 wd_1101 wd_1 wd_1102 wd_1103 (by decide +kernel) ⟨by decide, by decide⟩) hP hD hS (apR [(no, .inl (cy 2, 1, .inr (.inl g)))] Wc) (List.range ([(no, .inl (cy 2, 1, .inr (.inl g)))] : va_W).length) (ap_R [(no, .inl (cy 2, 1, .inr (.inl g)))] Wc) (ap_C [(no, .inl (cy 2, 1, .inr (.inl g)))] Wc) (ap_nd [(no, .inl (cy 2, 1, .inr (.inl g)))] Wc) qI_ hqI rfl rfl rfl hl.1 rfl (Nat.le_of_ble_eq_true rfl) dL_fallsBy_9 (by decide) (fun E ce q9 W9 H locs hw hP hD hS hce hcv hcl => ?_) (fun r_ W2 H locs hw hP hD hS => ?_)
  · obtain ⟨hw, hcx, hI2⟩ := hw
    rcases hw with rfl | rfl | rfl
    · refine kCatch (name := "java/lang/IllegalArgumentException") hX hE hxt [⟨0, 14, 17, 19⟩, ⟨0, 14, 21, 43⟩] ⟨0, 14, 25, 13⟩ [] rfl (List.forall_mem_cons.mpr ⟨Or.inr ⟨by decide, "java/util/NoSuchElementException", htA _ wd_860, hE.2.2.2.2.2.1 ("java/lang/IllegalArgumentException", "java/util/NoSuchElementException") (by decide)⟩, (List.forall_mem_cons.mpr ⟨Or.inr ⟨by decide, "java/lang/IllegalStateException", htA _ wd_965, hE.2.2.2.2.2.1 ("java/lang/IllegalArgumentException", "java/lang/IllegalStateException") (by decide)⟩, (fun z hz => absurd hz List.not_mem_nil)⟩)⟩) (by decide) (by decide) wd_526 (by decide +kernel) hce hcv hcl ?_
      refine W.widen (k := 4) (n := 24) (by decide) (by decide) ?_
      refine lv_astore (lv' := [(6, .ref q9), (0, .ref nx), (1, .int t_), (2, .int c_), (3, .int l_), (4, .int w_), (5, .ref no)]) hx hb dL_fallsBy_25 hl (by decide) rfl (fun ls hl => ?_)
      refine lv_iconst (v := 3) hx hb dL_fallsBy_27 (by decide) ?_
      have hP : va_P D vwCl ((no, .inl (cy 2, 1, .inr (.inl g))) :: W9) H := hP
      have hD : va_D A ((no, .inl (cy 2, 1, .inr (.inl g))) :: W9) := hD
      exact rI hX hE hP hD hS dL_fallsBy_28 (by decide) (by decide) ⟨g, W9, S, (Or.inr ⟨rfl, Or.inl ⟨hcx, rfl⟩⟩), (tl20 rfl), hI2, rfl⟩
    · refine kCatch (name := "java/lang/IllegalStateException") hX hE hxt [⟨0, 14, 17, 19⟩] ⟨0, 14, 21, 43⟩ [⟨0, 14, 25, 13⟩] rfl (List.forall_mem_cons.mpr ⟨Or.inr ⟨by decide, "java/util/NoSuchElementException", htA _ wd_860, hE.2.2.2.2.2.1 ("java/lang/IllegalStateException", "java/util/NoSuchElementException") (by decide)⟩, (fun z hz => absurd hz List.not_mem_nil)⟩) (by decide) (by decide) wd_965 (by decide +kernel) hce hcv hcl ?_
      refine W.widen (k := 4) (n := 24) (by decide) (by decide) ?_
      refine lv_astore (lv' := [(6, .ref q9), (0, .ref nx), (1, .int t_), (2, .int c_), (3, .int l_), (4, .int w_), (5, .ref no)]) hx hb dL_fallsBy_21 hl (by decide) rfl (fun ls hl => ?_)
      refine lv_iconst (v := 2) hx hb dL_fallsBy_23 (by decide) ?_
      have hP : va_P D vwCl ((no, .inl (cy 2, 1, .inr (.inl g))) :: W9) H := hP
      have hD : va_D A ((no, .inl (cy 2, 1, .inr (.inl g))) :: W9) := hD
      exact rI hX hE hP hD hS dL_fallsBy_24 (by decide) (by decide) ⟨g, W9, S, (Or.inr ⟨rfl, Or.inr (Or.inl ⟨hcx, rfl⟩)⟩), (tl20 rfl), hI2, rfl⟩
    · refine kCatch (name := "java/util/NoSuchElementException") hX hE hxt [] ⟨0, 14, 17, 19⟩ [⟨0, 14, 21, 43⟩, ⟨0, 14, 25, 13⟩] rfl (fun z hz => absurd hz List.not_mem_nil) (by decide) (by decide) wd_860 (by decide +kernel) hce hcv hcl ?_
      refine W.widen (k := 4) (n := 24) (by decide) (by decide) ?_
      refine lv_astore (lv' := [(6, .ref q9), (0, .ref nx), (1, .int t_), (2, .int c_), (3, .int l_), (4, .int w_), (5, .ref no)]) hx hb dL_fallsBy_17 hl (by decide) rfl (fun ls hl => ?_)
      refine lv_iconst (v := 1) hx hb dL_fallsBy_19 (by decide) ?_
      have hP : va_P D vwCl ((no, .inl (cy 2, 1, .inr (.inl g))) :: W9) H := hP
      have hD : va_D A ((no, .inl (cy 2, 1, .inr (.inl g))) :: W9) := hD
      exact rI hX hE hP hD hS dL_fallsBy_20 (by decide) (by decide) ⟨g, W9, S, (Or.inr ⟨rfl, Or.inr (Or.inr (Or.inl ⟨hcx, rfl⟩))⟩), (tl20 rfl), hI2, rfl⟩
  · refine W.widen (k := 4) (n := 24) (by decide) (by decide) ?_
    obtain ⟨Sn, hcs, hT2, hI2⟩ := hw
    refine lv_i2l hx hb dL_fallsBy_12 rfl ?_
    have hP : va_P D vwCl ((no, .inl (cy 2, 1, .inr (.inl g))) :: W2) H := hP
    have hD : va_D A ((no, .inl (cy 2, 1, .inr (.inl g))) :: W2) := hD
    refine va_last hx hb hK hP hD hS 0 2 rfl rfl (in_lit (by decide)) dL_fallsBy_13 (fun H locs hP hD hS => ?_)
    refine lv_goto (tgt := 29) hx hb dL_fallsBy_14 (by decide) ?_
    refine lv_iconst (v := 0) hx hb dL_fallsBy_29 (by decide) ?_
    have hP : va_P D vwCl ((no, .inl (cy 2, 1, .inr (.inl (vp_updL g (0 : Int32).toNatClampNeg r_.toInt64)))) :: W2) H := hP
    have hD : va_D A ((no, .inl (cy 2, 1, .inr (.inl (vp_updL g (0 : Int32).toNatClampNeg r_.toInt64)))) :: W2) := hD
    exact rI hX hE hP hD hS dL_fallsBy_30 (by decide) (by decide) ⟨(vp_updL g (0 : Int32).toNatClampNeg r_.toInt64), W2, Sn, (Or.inl ⟨rfl, _, hcs, up_L0 _ _ _⟩), hT2, hI2, rfl⟩
def HS_waitFor (S : CSt) (t_ : Int32) (c_ : Int32) (l_ : Int32) (n_ : Int32) (r : Int32) (o : Int64) (Sn : CSt) : Prop := (r = 0 ∧ ∃ q : Int32, CS_waitFor S t_ c_ l_ n_ q Sn ∧ o = q.toInt64) ∨ (Sn = S ∧ ((CX_waitFor S t_ c_ l_ n_ "java/lang/IllegalArgumentException" ∧ r = 3) ∨ (CX_waitFor S t_ c_ l_ n_ "java/lang/IllegalStateException" ∧ r = 2) ∨ (CX_waitFor S t_ c_ l_ n_ "java/util/NoSuchElementException" ∧ r = 1) ∨ False))
set_option maxHeartbeats 4000000 in
set_option maxRecDepth 100000 in
theorem H_waitFor (l : Launch) (hlt : l.stackTraces = false) (D : va_G) (cy : Nat → ClassId) (nx : Nat) (S : CSt) (Wc : va_W) (no : Nat) (g : Nat → Int64) (t_ : Int32) (c_ : Int32) (l_ : Int32) (n_ : Int32) (hI : IC cy nx S Wc) : Hi l yL_waitFor cL_waitFor 7 (some .int) [(0, 14, 17, 19), (0, 14, 21, 43), (0, 14, 25, 13)] { frames := 9, cells := 4, slots := 24, locals := 208 } D cy [.ref nx, .int t_, .int c_, .int l_, .int n_, .ref no] ((no, .inl (cy 2, 1, .inr (.inl g))) :: Wc) (fun r W1 => ∃ (g2 : Nat → Int64) (W2 : va_W) (Sn : CSt), HS_waitFor S t_ c_ l_ n_ r (g2 (0 : Int32).toNatClampNeg) Sn ∧ Sn.1.1.toInt ≤ S.1.1.toInt + 0 ∧ IC cy nx Sn W2 ∧ W1 = (no, .inl (cy 2, 1, .inr (.inl g2))) :: W2) := by
  refine Hi.of (by decide) (Nat.le_of_ble_eq_true rfl) ?_
  intro p e s m below meth c A ls hX hE hP hD hl hxt
  obtain ⟨hx, hb, hr, hml, hown, htA, hlk⟩ := id hX
  have hK := hE.1
  have hS : va_S A s.heap s.heap [] := va_S.rf
  have hl : lv_has ls 7 [(0, .ref nx), (1, .int t_), (2, .int c_), (3, .int l_), (4, .int n_), (5, .ref no)] := hl
  have hP : va_P D vwCl ([(no, .inl (cy 2, 1, .inr (.inl g)))] ++ Wc) s.heap := hP
  have hD : va_D A ([(no, .inl (cy 2, 1, .inr (.inl g)))] ++ Wc) := hD
  refine lv_aload hx hb dL_waitFor_0 (lv_at hl 5 rfl) ?_
  refine lv_iconst (v := 0) hx hb dL_waitFor_2 (by decide) ?_
  refine lv_aload_n hx hb dL_waitFor_3 rfl (lv_at hl 0 rfl) ?_
  refine lv_iload_n hx hb dL_waitFor_4 rfl (lv_at hl 1 rfl) ?_
  refine lv_iload_n hx hb dL_waitFor_5 rfl (lv_at hl 2 rfl) ?_
  refine lv_iload_n hx hb dL_waitFor_6 rfl (lv_at hl 3 rfl) ?_
  refine lv_iload hx hb dL_waitFor_7 (lv_at hl 4 rfl) ?_
  obtain ⟨qI_, fI_, hqI⟩ := IC_at hI
  refine xVi (As := [.int t_, .int c_, .int l_, .int n_]) (rest := [.int 0, .ref no]) (wr := [(no, .inl (cy 2, 1, .inr (.inl g)))]) hX hE (I_waitFor l hlt D cy nx S Wc t_ c_ l_ n_ hI) (cwVA 4 htA wd_1126 wd_1123 wd_1 wd_1124 wd_1125 (by decide +kernel) ⟨by decide, by decide⟩) hP hD hS (apR [(no, .inl (cy 2, 1, .inr (.inl g)))] Wc) (List.range ([(no, .inl (cy 2, 1, .inr (.inl g)))] : va_W).length) (ap_R [(no, .inl (cy 2, 1, .inr (.inl g)))] Wc) (ap_C [(no, .inl (cy 2, 1, .inr (.inl g)))] Wc) (ap_nd [(no, .inl (cy 2, 1, .inr (.inl g)))] Wc) qI_ hqI rfl rfl rfl hl.1 rfl (Nat.le_of_ble_eq_true rfl) dL_waitFor_9 (by decide) (fun E ce q9 W9 H locs hw hP hD hS hce hcv hcl => ?_) (fun r_ W2 H locs hw hP hD hS => ?_)
  · obtain ⟨hw, hcx, hI2⟩ := hw
    rcases hw with rfl | rfl | rfl
    · refine kCatch (name := "java/lang/IllegalArgumentException") hX hE hxt [⟨0, 14, 17, 19⟩, ⟨0, 14, 21, 43⟩] ⟨0, 14, 25, 13⟩ [] rfl (List.forall_mem_cons.mpr ⟨Or.inr ⟨by decide, "java/util/NoSuchElementException", htA _ wd_860, hE.2.2.2.2.2.1 ("java/lang/IllegalArgumentException", "java/util/NoSuchElementException") (by decide)⟩, (List.forall_mem_cons.mpr ⟨Or.inr ⟨by decide, "java/lang/IllegalStateException", htA _ wd_965, hE.2.2.2.2.2.1 ("java/lang/IllegalArgumentException", "java/lang/IllegalStateException") (by decide)⟩, (fun z hz => absurd hz List.not_mem_nil)⟩)⟩) (by decide) (by decide) wd_526 (by decide +kernel) hce hcv hcl ?_
      refine W.widen (k := 4) (n := 24) (by decide) (by decide) ?_
      refine lv_astore (lv' := [(6, .ref q9), (0, .ref nx), (1, .int t_), (2, .int c_), (3, .int l_), (4, .int n_), (5, .ref no)]) hx hb dL_waitFor_25 hl (by decide) rfl (fun ls hl => ?_)
      refine lv_iconst (v := 3) hx hb dL_waitFor_27 (by decide) ?_
      have hP : va_P D vwCl ((no, .inl (cy 2, 1, .inr (.inl g))) :: W9) H := hP
      have hD : va_D A ((no, .inl (cy 2, 1, .inr (.inl g))) :: W9) := hD
      exact rI hX hE hP hD hS dL_waitFor_28 (by decide) (by decide) ⟨g, W9, S, (Or.inr ⟨rfl, Or.inl ⟨hcx, rfl⟩⟩), (tl20 rfl), hI2, rfl⟩
    · refine kCatch (name := "java/lang/IllegalStateException") hX hE hxt [⟨0, 14, 17, 19⟩] ⟨0, 14, 21, 43⟩ [⟨0, 14, 25, 13⟩] rfl (List.forall_mem_cons.mpr ⟨Or.inr ⟨by decide, "java/util/NoSuchElementException", htA _ wd_860, hE.2.2.2.2.2.1 ("java/lang/IllegalStateException", "java/util/NoSuchElementException") (by decide)⟩, (fun z hz => absurd hz List.not_mem_nil)⟩) (by decide) (by decide) wd_965 (by decide +kernel) hce hcv hcl ?_
      refine W.widen (k := 4) (n := 24) (by decide) (by decide) ?_
      refine lv_astore (lv' := [(6, .ref q9), (0, .ref nx), (1, .int t_), (2, .int c_), (3, .int l_), (4, .int n_), (5, .ref no)]) hx hb dL_waitFor_21 hl (by decide) rfl (fun ls hl => ?_)
      refine lv_iconst (v := 2) hx hb dL_waitFor_23 (by decide) ?_
      have hP : va_P D vwCl ((no, .inl (cy 2, 1, .inr (.inl g))) :: W9) H := hP
      have hD : va_D A ((no, .inl (cy 2, 1, .inr (.inl g))) :: W9) := hD
      exact rI hX hE hP hD hS dL_waitFor_24 (by decide) (by decide) ⟨g, W9, S, (Or.inr ⟨rfl, Or.inr (Or.inl ⟨hcx, rfl⟩)⟩), (tl20 rfl), hI2, rfl⟩
    · refine kCatch (name := "java/util/NoSuchElementException") hX hE hxt [] ⟨0, 14, 17, 19⟩ [⟨0, 14, 21, 43⟩, ⟨0, 14, 25, 13⟩] rfl (fun z hz => absurd hz List.not_mem_nil) (by decide) (by decide) wd_860 (by decide +kernel) hce hcv hcl ?_
      refine W.widen (k := 4) (n := 24) (by decide) (by decide) ?_
      refine lv_astore (lv' := [(6, .ref q9), (0, .ref nx), (1, .int t_), (2, .int c_), (3, .int l_), (4, .int n_), (5, .ref no)]) hx hb dL_waitFor_17 hl (by decide) rfl (fun ls hl => ?_)
      refine lv_iconst (v := 1) hx hb dL_waitFor_19 (by decide) ?_
      have hP : va_P D vwCl ((no, .inl (cy 2, 1, .inr (.inl g))) :: W9) H := hP
      have hD : va_D A ((no, .inl (cy 2, 1, .inr (.inl g))) :: W9) := hD
      exact rI hX hE hP hD hS dL_waitFor_20 (by decide) (by decide) ⟨g, W9, S, (Or.inr ⟨rfl, Or.inr (Or.inr (Or.inl ⟨hcx, rfl⟩))⟩), (tl20 rfl), hI2, rfl⟩
  · refine W.widen (k := 4) (n := 24) (by decide) (by decide) ?_
    obtain ⟨Sn, hcs, hT2, hI2⟩ := hw
    refine lv_i2l hx hb dL_waitFor_12 rfl ?_
    have hP : va_P D vwCl ((no, .inl (cy 2, 1, .inr (.inl g))) :: W2) H := hP
    have hD : va_D A ((no, .inl (cy 2, 1, .inr (.inl g))) :: W2) := hD
    refine va_last hx hb hK hP hD hS 0 2 rfl rfl (in_lit (by decide)) dL_waitFor_13 (fun H locs hP hD hS => ?_)
    refine lv_goto (tgt := 29) hx hb dL_waitFor_14 (by decide) ?_
    refine lv_iconst (v := 0) hx hb dL_waitFor_29 (by decide) ?_
    have hP : va_P D vwCl ((no, .inl (cy 2, 1, .inr (.inl (vp_updL g (0 : Int32).toNatClampNeg r_.toInt64)))) :: W2) H := hP
    have hD : va_D A ((no, .inl (cy 2, 1, .inr (.inl (vp_updL g (0 : Int32).toNatClampNeg r_.toInt64)))) :: W2) := hD
    exact rI hX hE hP hD hS dL_waitFor_30 (by decide) (by decide) ⟨(vp_updL g (0 : Int32).toNatClampNeg r_.toInt64), W2, Sn, (Or.inl ⟨rfl, _, hcs, up_L0 _ _ _⟩), hT2, hI2, rfl⟩
def HS_waitSafe (S : CSt) (t_ : Int32) (c_ : Int32) (l_ : Int32) (r : Int32) (o : Int64) (Sn : CSt) : Prop := (r = 0 ∧ ∃ q : Int32, CS_waitSafe S t_ c_ l_ q Sn ∧ o = q.toInt64) ∨ (Sn = S ∧ ((CX_waitSafe S t_ c_ l_ "java/lang/IllegalStateException" ∧ r = 2) ∨ (CX_waitSafe S t_ c_ l_ "java/util/NoSuchElementException" ∧ r = 1) ∨ False))
set_option maxHeartbeats 4000000 in
set_option maxRecDepth 100000 in
theorem H_waitSafe (l : Launch) (hlt : l.stackTraces = false) (D : va_G) (cy : Nat → ClassId) (nx : Nat) (S : CSt) (Wc : va_W) (no : Nat) (g : Nat → Int64) (t_ : Int32) (c_ : Int32) (l_ : Int32) (hI : IC cy nx S Wc) : Hi l yL_waitSafe cL_waitSafe 6 (some .int) [(0, 12, 15, 19), (0, 12, 19, 43)] { frames := 9, cells := 3, slots := 18, locals := 208 } D cy [.ref nx, .int t_, .int c_, .int l_, .ref no] ((no, .inl (cy 2, 1, .inr (.inl g))) :: Wc) (fun r W1 => ∃ (g2 : Nat → Int64) (W2 : va_W) (Sn : CSt), HS_waitSafe S t_ c_ l_ r (g2 (0 : Int32).toNatClampNeg) Sn ∧ Sn.1.1.toInt ≤ S.1.1.toInt + 0 ∧ IC cy nx Sn W2 ∧ W1 = (no, .inl (cy 2, 1, .inr (.inl g2))) :: W2) := by
  refine Hi.of (by decide) (Nat.le_of_ble_eq_true rfl) ?_
  intro p e s m below meth c A ls hX hE hP hD hl hxt
  obtain ⟨hx, hb, hr, hml, hown, htA, hlk⟩ := id hX
  have hK := hE.1
  have hS : va_S A s.heap s.heap [] := va_S.rf
  have hl : lv_has ls 6 [(0, .ref nx), (1, .int t_), (2, .int c_), (3, .int l_), (4, .ref no)] := hl
  have hP : va_P D vwCl ([(no, .inl (cy 2, 1, .inr (.inl g)))] ++ Wc) s.heap := hP
  have hD : va_D A ([(no, .inl (cy 2, 1, .inr (.inl g)))] ++ Wc) := hD
  refine lv_aload hx hb dL_waitSafe_0 (lv_at hl 4 rfl) ?_
  refine lv_iconst (v := 0) hx hb dL_waitSafe_2 (by decide) ?_
  refine lv_aload_n hx hb dL_waitSafe_3 rfl (lv_at hl 0 rfl) ?_
  refine lv_iload_n hx hb dL_waitSafe_4 rfl (lv_at hl 1 rfl) ?_
  refine lv_iload_n hx hb dL_waitSafe_5 rfl (lv_at hl 2 rfl) ?_
  refine lv_iload_n hx hb dL_waitSafe_6 rfl (lv_at hl 3 rfl) ?_
  obtain ⟨qI_, fI_, hqI⟩ := IC_at hI
  refine xVi (As := [.int t_, .int c_, .int l_]) (rest := [.int 0, .ref no]) (wr := [(no, .inl (cy 2, 1, .inr (.inl g)))]) hX hE (I_waitSafe l hlt D cy nx S Wc t_ c_ l_ hI) (cwVA 3 htA wd_1133 wd_1130 wd_1 wd_1131 wd_1132 (by decide +kernel) ⟨by decide, by decide⟩) hP hD hS (apR [(no, .inl (cy 2, 1, .inr (.inl g)))] Wc) (List.range ([(no, .inl (cy 2, 1, .inr (.inl g)))] : va_W).length) (ap_R [(no, .inl (cy 2, 1, .inr (.inl g)))] Wc) (ap_C [(no, .inl (cy 2, 1, .inr (.inl g)))] Wc) (ap_nd [(no, .inl (cy 2, 1, .inr (.inl g)))] Wc) qI_ hqI rfl rfl rfl hl.1 rfl (Nat.le_of_ble_eq_true rfl) dL_waitSafe_7 (by decide) (fun E ce q9 W9 H locs hw hP hD hS hce hcv hcl => ?_) (fun r_ W2 H locs hw hP hD hS => ?_)
  · obtain ⟨hw, hcx, hI2⟩ := hw
    rcases hw with rfl | rfl
    · refine kCatch (name := "java/lang/IllegalStateException") hX hE hxt [⟨0, 12, 15, 19⟩] ⟨0, 12, 19, 43⟩ [] rfl (List.forall_mem_cons.mpr ⟨Or.inr ⟨by decide, "java/util/NoSuchElementException", htA _ wd_860, hE.2.2.2.2.2.1 ("java/lang/IllegalStateException", "java/util/NoSuchElementException") (by decide)⟩, (fun z hz => absurd hz List.not_mem_nil)⟩) (by decide) (by decide) wd_965 (by decide +kernel) hce hcv hcl ?_
      refine W.widen (k := 3) (n := 18) (by decide) (by decide) ?_
      refine lv_astore (lv' := [(5, .ref q9), (0, .ref nx), (1, .int t_), (2, .int c_), (3, .int l_), (4, .ref no)]) hx hb dL_waitSafe_19 hl (by decide) rfl (fun ls hl => ?_)
      refine lv_iconst (v := 2) hx hb dL_waitSafe_21 (by decide) ?_
      have hP : va_P D vwCl ((no, .inl (cy 2, 1, .inr (.inl g))) :: W9) H := hP
      have hD : va_D A ((no, .inl (cy 2, 1, .inr (.inl g))) :: W9) := hD
      exact rI hX hE hP hD hS dL_waitSafe_22 (by decide) (by decide) ⟨g, W9, S, (Or.inr ⟨rfl, Or.inl ⟨hcx, rfl⟩⟩), (tl20 rfl), hI2, rfl⟩
    · refine kCatch (name := "java/util/NoSuchElementException") hX hE hxt [] ⟨0, 12, 15, 19⟩ [⟨0, 12, 19, 43⟩] rfl (fun z hz => absurd hz List.not_mem_nil) (by decide) (by decide) wd_860 (by decide +kernel) hce hcv hcl ?_
      refine W.widen (k := 3) (n := 18) (by decide) (by decide) ?_
      refine lv_astore (lv' := [(5, .ref q9), (0, .ref nx), (1, .int t_), (2, .int c_), (3, .int l_), (4, .ref no)]) hx hb dL_waitSafe_15 hl (by decide) rfl (fun ls hl => ?_)
      refine lv_iconst (v := 1) hx hb dL_waitSafe_17 (by decide) ?_
      have hP : va_P D vwCl ((no, .inl (cy 2, 1, .inr (.inl g))) :: W9) H := hP
      have hD : va_D A ((no, .inl (cy 2, 1, .inr (.inl g))) :: W9) := hD
      exact rI hX hE hP hD hS dL_waitSafe_18 (by decide) (by decide) ⟨g, W9, S, (Or.inr ⟨rfl, Or.inr (Or.inl ⟨hcx, rfl⟩)⟩), (tl20 rfl), hI2, rfl⟩
  · refine W.widen (k := 3) (n := 18) (by decide) (by decide) ?_
    obtain ⟨Sn, hcs, hT2, hI2⟩ := hw
    refine lv_i2l hx hb dL_waitSafe_10 rfl ?_
    have hP : va_P D vwCl ((no, .inl (cy 2, 1, .inr (.inl g))) :: W2) H := hP
    have hD : va_D A ((no, .inl (cy 2, 1, .inr (.inl g))) :: W2) := hD
    refine va_last hx hb hK hP hD hS 0 2 rfl rfl (in_lit (by decide)) dL_waitSafe_11 (fun H locs hP hD hS => ?_)
    refine lv_goto (tgt := 23) hx hb dL_waitSafe_12 (by decide) ?_
    refine lv_iconst (v := 0) hx hb dL_waitSafe_23 (by decide) ?_
    have hP : va_P D vwCl ((no, .inl (cy 2, 1, .inr (.inl (vp_updL g (0 : Int32).toNatClampNeg r_.toInt64)))) :: W2) H := hP
    have hD : va_D A ((no, .inl (cy 2, 1, .inr (.inl (vp_updL g (0 : Int32).toNatClampNeg r_.toInt64)))) :: W2) := hD
    exact rI hX hE hP hD hS dL_waitSafe_24 (by decide) (by decide) ⟨(vp_updL g (0 : Int32).toNatClampNeg r_.toInt64), W2, Sn, (Or.inl ⟨rfl, _, hcs, up_L0 _ _ _⟩), hT2, hI2, rfl⟩
def HS_waitHurt (S : CSt) (t_ : Int32) (c_ : Int32) (l_ : Int32) (w_ : Int32) (r : Int32) (o : Int64) (Sn : CSt) : Prop := (r = 0 ∧ ∃ q : Int32, CS_waitHurt S t_ c_ l_ w_ q Sn ∧ o = q.toInt64) ∨ (Sn = S ∧ ((CX_waitHurt S t_ c_ l_ w_ "java/lang/IllegalStateException" ∧ r = 2) ∨ (CX_waitHurt S t_ c_ l_ w_ "java/util/NoSuchElementException" ∧ r = 1) ∨ False))
set_option maxHeartbeats 4000000 in
set_option maxRecDepth 100000 in
theorem H_waitHurt (l : Launch) (hlt : l.stackTraces = false) (D : va_G) (cy : Nat → ClassId) (nx : Nat) (S : CSt) (Wc : va_W) (no : Nat) (g : Nat → Int64) (t_ : Int32) (c_ : Int32) (l_ : Int32) (w_ : Int32) (hI : IC cy nx S Wc) : Hi l yL_waitHurt cL_waitHurt 7 (some .int) [(0, 14, 17, 19), (0, 14, 21, 43)] { frames := 8, cells := 4, slots := 24, locals := 209 } D cy [.ref nx, .int t_, .int c_, .int l_, .int w_, .ref no] ((no, .inl (cy 2, 1, .inr (.inl g))) :: Wc) (fun r W1 => ∃ (g2 : Nat → Int64) (W2 : va_W) (Sn : CSt), HS_waitHurt S t_ c_ l_ w_ r (g2 (0 : Int32).toNatClampNeg) Sn ∧ Sn.1.1.toInt ≤ S.1.1.toInt + 0 ∧ IC cy nx Sn W2 ∧ W1 = (no, .inl (cy 2, 1, .inr (.inl g2))) :: W2) := by
  refine Hi.of (by decide) (Nat.le_of_ble_eq_true rfl) ?_
  intro p e s m below meth c A ls hX hE hP hD hl hxt
  obtain ⟨hx, hb, hr, hml, hown, htA, hlk⟩ := id hX
  have hK := hE.1
  have hS : va_S A s.heap s.heap [] := va_S.rf
  have hl : lv_has ls 7 [(0, .ref nx), (1, .int t_), (2, .int c_), (3, .int l_), (4, .int w_), (5, .ref no)] := hl
  have hP : va_P D vwCl ([(no, .inl (cy 2, 1, .inr (.inl g)))] ++ Wc) s.heap := hP
  have hD : va_D A ([(no, .inl (cy 2, 1, .inr (.inl g)))] ++ Wc) := hD
  refine lv_aload hx hb dL_waitHurt_0 (lv_at hl 5 rfl) ?_
  refine lv_iconst (v := 0) hx hb dL_waitHurt_2 (by decide) ?_
  refine lv_aload_n hx hb dL_waitHurt_3 rfl (lv_at hl 0 rfl) ?_
  refine lv_iload_n hx hb dL_waitHurt_4 rfl (lv_at hl 1 rfl) ?_
  refine lv_iload_n hx hb dL_waitHurt_5 rfl (lv_at hl 2 rfl) ?_
  refine lv_iload_n hx hb dL_waitHurt_6 rfl (lv_at hl 3 rfl) ?_
  refine lv_iload hx hb dL_waitHurt_7 (lv_at hl 4 rfl) ?_
  obtain ⟨qI_, fI_, hqI⟩ := IC_at hI
  refine xVi (As := [.int t_, .int c_, .int l_, .int w_]) (rest := [.int 0, .ref no]) (wr := [(no, .inl (cy 2, 1, .inr (.inl g)))]) hX hE (I_waitHurt l hlt D cy nx S Wc t_ c_ l_ w_ hI) (cwVA 4 htA wd_1145 wd_1142 wd_1 wd_1143 wd_1144 (by decide +kernel) ⟨by decide, by decide⟩) hP hD hS (apR [(no, .inl (cy 2, 1, .inr (.inl g)))] Wc) (List.range ([(no, .inl (cy 2, 1, .inr (.inl g)))] : va_W).length) (ap_R [(no, .inl (cy 2, 1, .inr (.inl g)))] Wc) (ap_C [(no, .inl (cy 2, 1, .inr (.inl g)))] Wc) (ap_nd [(no, .inl (cy 2, 1, .inr (.inl g)))] Wc) qI_ hqI rfl rfl rfl hl.1 rfl (Nat.le_of_ble_eq_true rfl) dL_waitHurt_9 (by decide) (fun E ce q9 W9 H locs hw hP hD hS hce hcv hcl => ?_) (fun r_ W2 H locs hw hP hD hS => ?_)
  · obtain ⟨hw, hcx, hI2⟩ := hw
    rcases hw with rfl | rfl
    · refine kCatch (name := "java/lang/IllegalStateException") hX hE hxt [⟨0, 14, 17, 19⟩] ⟨0, 14, 21, 43⟩ [] rfl (List.forall_mem_cons.mpr ⟨Or.inr ⟨by decide, "java/util/NoSuchElementException", htA _ wd_860, hE.2.2.2.2.2.1 ("java/lang/IllegalStateException", "java/util/NoSuchElementException") (by decide)⟩, (fun z hz => absurd hz List.not_mem_nil)⟩) (by decide) (by decide) wd_965 (by decide +kernel) hce hcv hcl ?_
      refine W.widen (k := 4) (n := 24) (by decide) (by decide) ?_
      refine lv_astore (lv' := [(6, .ref q9), (0, .ref nx), (1, .int t_), (2, .int c_), (3, .int l_), (4, .int w_), (5, .ref no)]) hx hb dL_waitHurt_21 hl (by decide) rfl (fun ls hl => ?_)
      refine lv_iconst (v := 2) hx hb dL_waitHurt_23 (by decide) ?_
      have hP : va_P D vwCl ((no, .inl (cy 2, 1, .inr (.inl g))) :: W9) H := hP
      have hD : va_D A ((no, .inl (cy 2, 1, .inr (.inl g))) :: W9) := hD
      exact rI hX hE hP hD hS dL_waitHurt_24 (by decide) (by decide) ⟨g, W9, S, (Or.inr ⟨rfl, Or.inl ⟨hcx, rfl⟩⟩), (tl20 rfl), hI2, rfl⟩
    · refine kCatch (name := "java/util/NoSuchElementException") hX hE hxt [] ⟨0, 14, 17, 19⟩ [⟨0, 14, 21, 43⟩] rfl (fun z hz => absurd hz List.not_mem_nil) (by decide) (by decide) wd_860 (by decide +kernel) hce hcv hcl ?_
      refine W.widen (k := 4) (n := 24) (by decide) (by decide) ?_
      refine lv_astore (lv' := [(6, .ref q9), (0, .ref nx), (1, .int t_), (2, .int c_), (3, .int l_), (4, .int w_), (5, .ref no)]) hx hb dL_waitHurt_17 hl (by decide) rfl (fun ls hl => ?_)
      refine lv_iconst (v := 1) hx hb dL_waitHurt_19 (by decide) ?_
      have hP : va_P D vwCl ((no, .inl (cy 2, 1, .inr (.inl g))) :: W9) H := hP
      have hD : va_D A ((no, .inl (cy 2, 1, .inr (.inl g))) :: W9) := hD
      exact rI hX hE hP hD hS dL_waitHurt_20 (by decide) (by decide) ⟨g, W9, S, (Or.inr ⟨rfl, Or.inr (Or.inl ⟨hcx, rfl⟩)⟩), (tl20 rfl), hI2, rfl⟩
  · refine W.widen (k := 4) (n := 24) (by decide) (by decide) ?_
    obtain ⟨Sn, hcs, hT2, hI2⟩ := hw
    refine lv_i2l hx hb dL_waitHurt_12 rfl ?_
    have hP : va_P D vwCl ((no, .inl (cy 2, 1, .inr (.inl g))) :: W2) H := hP
    have hD : va_D A ((no, .inl (cy 2, 1, .inr (.inl g))) :: W2) := hD
    refine va_last hx hb hK hP hD hS 0 2 rfl rfl (in_lit (by decide)) dL_waitHurt_13 (fun H locs hP hD hS => ?_)
    refine lv_goto (tgt := 25) hx hb dL_waitHurt_14 (by decide) ?_
    refine lv_iconst (v := 0) hx hb dL_waitHurt_25 (by decide) ?_
    have hP : va_P D vwCl ((no, .inl (cy 2, 1, .inr (.inl (vp_updL g (0 : Int32).toNatClampNeg r_.toInt64)))) :: W2) H := hP
    have hD : va_D A ((no, .inl (cy 2, 1, .inr (.inl (vp_updL g (0 : Int32).toNatClampNeg r_.toInt64)))) :: W2) := hD
    exact rI hX hE hP hD hS dL_waitHurt_26 (by decide) (by decide) ⟨(vp_updL g (0 : Int32).toNatClampNeg r_.toInt64), W2, Sn, (Or.inl ⟨rfl, _, hcs, up_L0 _ _ _⟩), hT2, hI2, rfl⟩
def HS_place (S : CSt) (t_ : Int32) (b_ : Int32) (r : Int32) (o : Int64) (Sn : CSt) : Prop := (r = 0 ∧ ∃ q : Int32, CS_place S t_ b_ q Sn ∧ o = q.toInt64) ∨ (Sn = S ∧ ((CX_place S t_ b_ "java/lang/IllegalStateException" ∧ r = 2) ∨ (CX_place S t_ b_ "java/util/NoSuchElementException" ∧ r = 1) ∨ False))
set_option maxHeartbeats 4000000 in
set_option maxRecDepth 100000 in
theorem H_place (l : Launch) (hlt : l.stackTraces = false) (D : va_G) (cy : Nat → ClassId) (nx : Nat) (S : CSt) (Wc : va_W) (no : Nat) (g : Nat → Int64) (t_ : Int32) (b_ : Int32) (hI : IC cy nx S Wc) : Hi l yL_place cL_place 5 (some .int) [(0, 10, 13, 19), (0, 10, 17, 43)] { frames := 8, cells := 2, slots := 12, locals := 211 } D cy [.ref nx, .int t_, .int b_, .ref no] ((no, .inl (cy 2, 1, .inr (.inl g))) :: Wc) (fun r W1 => ∃ (g2 : Nat → Int64) (W2 : va_W) (Sn : CSt), HS_place S t_ b_ r (g2 (0 : Int32).toNatClampNeg) Sn ∧ Sn.1.1.toInt ≤ S.1.1.toInt + 0 ∧ IC cy nx Sn W2 ∧ W1 = (no, .inl (cy 2, 1, .inr (.inl g2))) :: W2) := by
  refine Hi.of (by decide) (Nat.le_of_ble_eq_true rfl) ?_
  intro p e s m below meth c A ls hX hE hP hD hl hxt
  obtain ⟨hx, hb, hr, hml, hown, htA, hlk⟩ := id hX
  have hK := hE.1
  have hS : va_S A s.heap s.heap [] := va_S.rf
  have hl : lv_has ls 5 [(0, .ref nx), (1, .int t_), (2, .int b_), (3, .ref no)] := hl
  have hP : va_P D vwCl ([(no, .inl (cy 2, 1, .inr (.inl g)))] ++ Wc) s.heap := hP
  have hD : va_D A ([(no, .inl (cy 2, 1, .inr (.inl g)))] ++ Wc) := hD
  refine lv_aload_n hx hb dL_place_0 rfl (lv_at hl 3 rfl) ?_
  refine lv_iconst (v := 0) hx hb dL_place_1 (by decide) ?_
  refine lv_aload_n hx hb dL_place_2 rfl (lv_at hl 0 rfl) ?_
  refine lv_iload_n hx hb dL_place_3 rfl (lv_at hl 1 rfl) ?_
  refine lv_iload_n hx hb dL_place_4 rfl (lv_at hl 2 rfl) ?_
  obtain ⟨qI_, fI_, hqI⟩ := IC_at hI
  refine xVi (As := [.int t_, .int b_]) (rest := [.int 0, .ref no]) (wr := [(no, .inl (cy 2, 1, .inr (.inl g)))]) hX hE (I_place l hlt D cy nx S Wc t_ b_ hI) (cwVA 2 htA wd_1152 wd_1149 wd_1 wd_1150 wd_1151 (by decide +kernel) ⟨by decide, by decide⟩) hP hD hS (apR [(no, .inl (cy 2, 1, .inr (.inl g)))] Wc) (List.range ([(no, .inl (cy 2, 1, .inr (.inl g)))] : va_W).length) (ap_R [(no, .inl (cy 2, 1, .inr (.inl g)))] Wc) (ap_C [(no, .inl (cy 2, 1, .inr (.inl g)))] Wc) (ap_nd [(no, .inl (cy 2, 1, .inr (.inl g)))] Wc) qI_ hqI rfl rfl rfl hl.1 rfl (Nat.le_of_ble_eq_true rfl) dL_place_5 (by decide) (fun E ce q9 W9 H locs hw hP hD hS hce hcv hcl => ?_) (fun r_ W2 H locs hw hP hD hS => ?_)
  · obtain ⟨hw, hcx, hI2⟩ := hw
    rcases hw with rfl | rfl
    · refine kCatch (name := "java/lang/IllegalStateException") hX hE hxt [⟨0, 10, 13, 19⟩] ⟨0, 10, 17, 43⟩ [] rfl (List.forall_mem_cons.mpr ⟨Or.inr ⟨by decide, "java/util/NoSuchElementException", htA _ wd_860, hE.2.2.2.2.2.1 ("java/lang/IllegalStateException", "java/util/NoSuchElementException") (by decide)⟩, (fun z hz => absurd hz List.not_mem_nil)⟩) (by decide) (by decide) wd_965 (by decide +kernel) hce hcv hcl ?_
      refine W.widen (k := 2) (n := 12) (by decide) (by decide) ?_
      refine lv_astore (lv' := [(4, .ref q9), (0, .ref nx), (1, .int t_), (2, .int b_), (3, .ref no)]) hx hb dL_place_17 hl (by decide) rfl (fun ls hl => ?_)
      refine lv_iconst (v := 2) hx hb dL_place_19 (by decide) ?_
      have hP : va_P D vwCl ((no, .inl (cy 2, 1, .inr (.inl g))) :: W9) H := hP
      have hD : va_D A ((no, .inl (cy 2, 1, .inr (.inl g))) :: W9) := hD
      exact rI hX hE hP hD hS dL_place_20 (by decide) (by decide) ⟨g, W9, S, (Or.inr ⟨rfl, Or.inl ⟨hcx, rfl⟩⟩), (tl20 rfl), hI2, rfl⟩
    · refine kCatch (name := "java/util/NoSuchElementException") hX hE hxt [] ⟨0, 10, 13, 19⟩ [⟨0, 10, 17, 43⟩] rfl (fun z hz => absurd hz List.not_mem_nil) (by decide) (by decide) wd_860 (by decide +kernel) hce hcv hcl ?_
      refine W.widen (k := 2) (n := 12) (by decide) (by decide) ?_
      refine lv_astore (lv' := [(4, .ref q9), (0, .ref nx), (1, .int t_), (2, .int b_), (3, .ref no)]) hx hb dL_place_13 hl (by decide) rfl (fun ls hl => ?_)
      refine lv_iconst (v := 1) hx hb dL_place_15 (by decide) ?_
      have hP : va_P D vwCl ((no, .inl (cy 2, 1, .inr (.inl g))) :: W9) H := hP
      have hD : va_D A ((no, .inl (cy 2, 1, .inr (.inl g))) :: W9) := hD
      exact rI hX hE hP hD hS dL_place_16 (by decide) (by decide) ⟨g, W9, S, (Or.inr ⟨rfl, Or.inr (Or.inl ⟨hcx, rfl⟩)⟩), (tl20 rfl), hI2, rfl⟩
  · refine W.widen (k := 2) (n := 12) (by decide) (by decide) ?_
    obtain ⟨Sn, hcs, hT2, hI2⟩ := hw
    refine lv_i2l hx hb dL_place_8 rfl ?_
    have hP : va_P D vwCl ((no, .inl (cy 2, 1, .inr (.inl g))) :: W2) H := hP
    have hD : va_D A ((no, .inl (cy 2, 1, .inr (.inl g))) :: W2) := hD
    refine va_last hx hb hK hP hD hS 0 2 rfl rfl (in_lit (by decide)) dL_place_9 (fun H locs hP hD hS => ?_)
    refine lv_goto (tgt := 21) hx hb dL_place_10 (by decide) ?_
    refine lv_iconst (v := 0) hx hb dL_place_21 (by decide) ?_
    have hP : va_P D vwCl ((no, .inl (cy 2, 1, .inr (.inl (vp_updL g (0 : Int32).toNatClampNeg r_.toInt64)))) :: W2) H := hP
    have hD : va_D A ((no, .inl (cy 2, 1, .inr (.inl (vp_updL g (0 : Int32).toNatClampNeg r_.toInt64)))) :: W2) := hD
    exact rI hX hE hP hD hS dL_place_22 (by decide) (by decide) ⟨(vp_updL g (0 : Int32).toNatClampNeg r_.toInt64), W2, Sn, (Or.inl ⟨rfl, _, hcs, up_L0 _ _ _⟩), hT2, hI2, rfl⟩
def HS_worst (S : CSt) (t_ : Int32) (w_ : Int32) (r : Int32) (o : Int64) (Sn : CSt) : Prop := (r = 0 ∧ ∃ q : Int32, CS_worst S t_ w_ q Sn ∧ o = q.toInt64) ∨ (Sn = S ∧ ((CX_worst S t_ w_ "java/lang/IllegalArgumentException" ∧ r = 3) ∨ (CX_worst S t_ w_ "java/lang/IllegalStateException" ∧ r = 2) ∨ (CX_worst S t_ w_ "java/util/NoSuchElementException" ∧ r = 1) ∨ False))
set_option maxHeartbeats 4000000 in
set_option maxRecDepth 100000 in
theorem H_worst (l : Launch) (hlt : l.stackTraces = false) (D : va_G) (cy : Nat → ClassId) (nx : Nat) (S : CSt) (Wc : va_W) (no : Nat) (g : Nat → Int64) (t_ : Int32) (w_ : Int32) (hI : IC cy nx S Wc) : Hi l yL_worst cL_worst 5 (some .int) [(0, 10, 13, 19), (0, 10, 17, 43), (0, 10, 21, 13)] { frames := 8, cells := 3, slots := 18, locals := 212 } D cy [.ref nx, .int t_, .int w_, .ref no] ((no, .inl (cy 2, 1, .inr (.inl g))) :: Wc) (fun r W1 => ∃ (g2 : Nat → Int64) (W2 : va_W) (Sn : CSt), HS_worst S t_ w_ r (g2 (0 : Int32).toNatClampNeg) Sn ∧ Sn.1.1.toInt ≤ S.1.1.toInt + 0 ∧ IC cy nx Sn W2 ∧ W1 = (no, .inl (cy 2, 1, .inr (.inl g2))) :: W2) := by
  refine Hi.of (by decide) (Nat.le_of_ble_eq_true rfl) ?_
  intro p e s m below meth c A ls hX hE hP hD hl hxt
  obtain ⟨hx, hb, hr, hml, hown, htA, hlk⟩ := id hX
  have hK := hE.1
  have hS : va_S A s.heap s.heap [] := va_S.rf
  have hl : lv_has ls 5 [(0, .ref nx), (1, .int t_), (2, .int w_), (3, .ref no)] := hl
  have hP : va_P D vwCl ([(no, .inl (cy 2, 1, .inr (.inl g)))] ++ Wc) s.heap := hP
  have hD : va_D A ([(no, .inl (cy 2, 1, .inr (.inl g)))] ++ Wc) := hD
  refine lv_aload_n hx hb dL_worst_0 rfl (lv_at hl 3 rfl) ?_
  refine lv_iconst (v := 0) hx hb dL_worst_1 (by decide) ?_
  refine lv_aload_n hx hb dL_worst_2 rfl (lv_at hl 0 rfl) ?_
  refine lv_iload_n hx hb dL_worst_3 rfl (lv_at hl 1 rfl) ?_
  refine lv_iload_n hx hb dL_worst_4 rfl (lv_at hl 2 rfl) ?_
  obtain ⟨qI_, fI_, hqI⟩ := IC_at hI
  refine xVi (As := [.int t_, .int w_]) (rest := [.int 0, .ref no]) (wr := [(no, .inl (cy 2, 1, .inr (.inl g)))]) hX hE (I_worst l hlt D cy nx S Wc t_ w_ hI) (cwVA 2 htA wd_1159 wd_1156 wd_1 wd_1157 wd_1158 (by decide +kernel) ⟨by decide, by decide⟩) hP hD hS (apR [(no, .inl (cy 2, 1, .inr (.inl g)))] Wc) (List.range ([(no, .inl (cy 2, 1, .inr (.inl g)))] : va_W).length) (ap_R [(no, .inl (cy 2, 1, .inr (.inl g)))] Wc) (ap_C [(no, .inl (cy 2, 1, .inr (.inl g)))] Wc) (ap_nd [(no, .inl (cy 2, 1, .inr (.inl g)))] Wc) qI_ hqI rfl rfl rfl hl.1 rfl (Nat.le_of_ble_eq_true rfl) dL_worst_5 (by decide) (fun E ce q9 W9 H locs hw hP hD hS hce hcv hcl => ?_) (fun r_ W2 H locs hw hP hD hS => ?_)
  · obtain ⟨hw, hcx, hI2⟩ := hw
    rcases hw with rfl | rfl | rfl
    · refine kCatch (name := "java/lang/IllegalArgumentException") hX hE hxt [⟨0, 10, 13, 19⟩, ⟨0, 10, 17, 43⟩] ⟨0, 10, 21, 13⟩ [] rfl (List.forall_mem_cons.mpr ⟨Or.inr ⟨by decide, "java/util/NoSuchElementException", htA _ wd_860, hE.2.2.2.2.2.1 ("java/lang/IllegalArgumentException", "java/util/NoSuchElementException") (by decide)⟩, (List.forall_mem_cons.mpr ⟨Or.inr ⟨by decide, "java/lang/IllegalStateException", htA _ wd_965, hE.2.2.2.2.2.1 ("java/lang/IllegalArgumentException", "java/lang/IllegalStateException") (by decide)⟩, (fun z hz => absurd hz List.not_mem_nil)⟩)⟩) (by decide) (by decide) wd_526 (by decide +kernel) hce hcv hcl ?_
      refine W.widen (k := 3) (n := 18) (by decide) (by decide) ?_
      refine lv_astore (lv' := [(4, .ref q9), (0, .ref nx), (1, .int t_), (2, .int w_), (3, .ref no)]) hx hb dL_worst_21 hl (by decide) rfl (fun ls hl => ?_)
      refine lv_iconst (v := 3) hx hb dL_worst_23 (by decide) ?_
      have hP : va_P D vwCl ((no, .inl (cy 2, 1, .inr (.inl g))) :: W9) H := hP
      have hD : va_D A ((no, .inl (cy 2, 1, .inr (.inl g))) :: W9) := hD
      exact rI hX hE hP hD hS dL_worst_24 (by decide) (by decide) ⟨g, W9, S, (Or.inr ⟨rfl, Or.inl ⟨hcx, rfl⟩⟩), (tl20 rfl), hI2, rfl⟩
    · refine kCatch (name := "java/lang/IllegalStateException") hX hE hxt [⟨0, 10, 13, 19⟩] ⟨0, 10, 17, 43⟩ [⟨0, 10, 21, 13⟩] rfl (List.forall_mem_cons.mpr ⟨Or.inr ⟨by decide, "java/util/NoSuchElementException", htA _ wd_860, hE.2.2.2.2.2.1 ("java/lang/IllegalStateException", "java/util/NoSuchElementException") (by decide)⟩, (fun z hz => absurd hz List.not_mem_nil)⟩) (by decide) (by decide) wd_965 (by decide +kernel) hce hcv hcl ?_
      refine W.widen (k := 3) (n := 18) (by decide) (by decide) ?_
      refine lv_astore (lv' := [(4, .ref q9), (0, .ref nx), (1, .int t_), (2, .int w_), (3, .ref no)]) hx hb dL_worst_17 hl (by decide) rfl (fun ls hl => ?_)
      refine lv_iconst (v := 2) hx hb dL_worst_19 (by decide) ?_
      have hP : va_P D vwCl ((no, .inl (cy 2, 1, .inr (.inl g))) :: W9) H := hP
      have hD : va_D A ((no, .inl (cy 2, 1, .inr (.inl g))) :: W9) := hD
      exact rI hX hE hP hD hS dL_worst_20 (by decide) (by decide) ⟨g, W9, S, (Or.inr ⟨rfl, Or.inr (Or.inl ⟨hcx, rfl⟩)⟩), (tl20 rfl), hI2, rfl⟩
    · refine kCatch (name := "java/util/NoSuchElementException") hX hE hxt [] ⟨0, 10, 13, 19⟩ [⟨0, 10, 17, 43⟩, ⟨0, 10, 21, 13⟩] rfl (fun z hz => absurd hz List.not_mem_nil) (by decide) (by decide) wd_860 (by decide +kernel) hce hcv hcl ?_
      refine W.widen (k := 3) (n := 18) (by decide) (by decide) ?_
      refine lv_astore (lv' := [(4, .ref q9), (0, .ref nx), (1, .int t_), (2, .int w_), (3, .ref no)]) hx hb dL_worst_13 hl (by decide) rfl (fun ls hl => ?_)
      refine lv_iconst (v := 1) hx hb dL_worst_15 (by decide) ?_
      have hP : va_P D vwCl ((no, .inl (cy 2, 1, .inr (.inl g))) :: W9) H := hP
      have hD : va_D A ((no, .inl (cy 2, 1, .inr (.inl g))) :: W9) := hD
      exact rI hX hE hP hD hS dL_worst_16 (by decide) (by decide) ⟨g, W9, S, (Or.inr ⟨rfl, Or.inr (Or.inr (Or.inl ⟨hcx, rfl⟩))⟩), (tl20 rfl), hI2, rfl⟩
  · refine W.widen (k := 3) (n := 18) (by decide) (by decide) ?_
    obtain ⟨Sn, hcs, hT2, hI2⟩ := hw
    refine lv_i2l hx hb dL_worst_8 rfl ?_
    have hP : va_P D vwCl ((no, .inl (cy 2, 1, .inr (.inl g))) :: W2) H := hP
    have hD : va_D A ((no, .inl (cy 2, 1, .inr (.inl g))) :: W2) := hD
    refine va_last hx hb hK hP hD hS 0 2 rfl rfl (in_lit (by decide)) dL_worst_9 (fun H locs hP hD hS => ?_)
    refine lv_goto (tgt := 25) hx hb dL_worst_10 (by decide) ?_
    refine lv_iconst (v := 0) hx hb dL_worst_25 (by decide) ?_
    have hP : va_P D vwCl ((no, .inl (cy 2, 1, .inr (.inl (vp_updL g (0 : Int32).toNatClampNeg r_.toInt64)))) :: W2) H := hP
    have hD : va_D A ((no, .inl (cy 2, 1, .inr (.inl (vp_updL g (0 : Int32).toNatClampNeg r_.toInt64)))) :: W2) := hD
    exact rI hX hE hP hD hS dL_worst_26 (by decide) (by decide) ⟨(vp_updL g (0 : Int32).toNatClampNeg r_.toInt64), W2, Sn, (Or.inl ⟨rfl, _, hcs, up_L0 _ _ _⟩), hT2, hI2, rfl⟩
def HS_both (S : CSt) (t_ : Int32) (u_ : Int32) (c_ : Int32) (d_ : Int32) (l_ : Int32) (w_ : Int32) (r : Int32) (o : Int64) (Sn : CSt) : Prop := (r = 0 ∧ ∃ q : Int32, CS_both S t_ u_ c_ d_ l_ w_ q Sn ∧ o = q.toInt64) ∨ (Sn = S ∧ ((CX_both S t_ u_ c_ d_ l_ w_ "java/lang/IllegalArgumentException" ∧ r = 3) ∨ (CX_both S t_ u_ c_ d_ l_ w_ "java/lang/IllegalStateException" ∧ r = 2) ∨ (CX_both S t_ u_ c_ d_ l_ w_ "java/util/NoSuchElementException" ∧ r = 1) ∨ False))
set_option maxHeartbeats 4000000 in
set_option maxRecDepth 100000 in
theorem H_both (l : Launch) (hlt : l.stackTraces = false) (D : va_G) (cy : Nat → ClassId) (nx : Nat) (S : CSt) (Wc : va_W) (no : Nat) (g : Nat → Int64) (t_ : Int32) (u_ : Int32) (c_ : Int32) (d_ : Int32) (l_ : Int32) (w_ : Int32) (hI : IC cy nx S Wc) : Hi l yL_both cL_both 9 (some .int) [(0, 18, 21, 19), (0, 18, 25, 43), (0, 18, 29, 13)] { frames := 8, cells := 7, slots := 42, locals := 215 } D cy [.ref nx, .int t_, .int u_, .int c_, .int d_, .int l_, .int w_, .ref no] ((no, .inl (cy 2, 1, .inr (.inl g))) :: Wc) (fun r W1 => ∃ (g2 : Nat → Int64) (W2 : va_W) (Sn : CSt), HS_both S t_ u_ c_ d_ l_ w_ r (g2 (0 : Int32).toNatClampNeg) Sn ∧ Sn.1.1.toInt ≤ S.1.1.toInt + 0 ∧ IC cy nx Sn W2 ∧ W1 = (no, .inl (cy 2, 1, .inr (.inl g2))) :: W2) := by
  refine Hi.of (by decide) (Nat.le_of_ble_eq_true rfl) ?_
  intro p e s m below meth c A ls hX hE hP hD hl hxt
  obtain ⟨hx, hb, hr, hml, hown, htA, hlk⟩ := id hX
  have hK := hE.1
  have hS : va_S A s.heap s.heap [] := va_S.rf
  have hl : lv_has ls 9 [(0, .ref nx), (1, .int t_), (2, .int u_), (3, .int c_), (4, .int d_), (5, .int l_), (6, .int w_), (7, .ref no)] := hl
  have hP : va_P D vwCl ([(no, .inl (cy 2, 1, .inr (.inl g)))] ++ Wc) s.heap := hP
  have hD : va_D A ([(no, .inl (cy 2, 1, .inr (.inl g)))] ++ Wc) := hD
  refine lv_aload hx hb dL_both_0 (lv_at hl 7 rfl) ?_
  refine lv_iconst (v := 0) hx hb dL_both_2 (by decide) ?_
  refine lv_aload_n hx hb dL_both_3 rfl (lv_at hl 0 rfl) ?_
  refine lv_iload_n hx hb dL_both_4 rfl (lv_at hl 1 rfl) ?_
  refine lv_iload_n hx hb dL_both_5 rfl (lv_at hl 2 rfl) ?_
  refine lv_iload_n hx hb dL_both_6 rfl (lv_at hl 3 rfl) ?_
  refine lv_iload hx hb dL_both_7 (lv_at hl 4 rfl) ?_
  refine lv_iload hx hb dL_both_9 (lv_at hl 5 rfl) ?_
  refine lv_iload hx hb dL_both_11 (lv_at hl 6 rfl) ?_
  obtain ⟨qI_, fI_, hqI⟩ := IC_at hI
  refine xVi (As := [.int t_, .int u_, .int c_, .int d_, .int l_, .int w_]) (rest := [.int 0, .ref no]) (wr := [(no, .inl (cy 2, 1, .inr (.inl g)))]) hX hE (I_both l hlt D cy nx S Wc t_ u_ c_ d_ l_ w_ hI) (cwVA 6 htA wd_1167 wd_1164 wd_1 wd_1165 wd_1166 (by decide +kernel) ⟨by decide, by decide⟩) hP hD hS (apR [(no, .inl (cy 2, 1, .inr (.inl g)))] Wc) (List.range ([(no, .inl (cy 2, 1, .inr (.inl g)))] : va_W).length) (ap_R [(no, .inl (cy 2, 1, .inr (.inl g)))] Wc) (ap_C [(no, .inl (cy 2, 1, .inr (.inl g)))] Wc) (ap_nd [(no, .inl (cy 2, 1, .inr (.inl g)))] Wc) qI_ hqI rfl rfl rfl hl.1 rfl (Nat.le_of_ble_eq_true rfl) dL_both_13 (by decide) (fun E ce q9 W9 H locs hw hP hD hS hce hcv hcl => ?_) (fun r_ W2 H locs hw hP hD hS => ?_)
  · obtain ⟨hw, hcx, hI2⟩ := hw
    rcases hw with rfl | rfl | rfl
    · refine kCatch (name := "java/lang/IllegalArgumentException") hX hE hxt [⟨0, 18, 21, 19⟩, ⟨0, 18, 25, 43⟩] ⟨0, 18, 29, 13⟩ [] rfl (List.forall_mem_cons.mpr ⟨Or.inr ⟨by decide, "java/util/NoSuchElementException", htA _ wd_860, hE.2.2.2.2.2.1 ("java/lang/IllegalArgumentException", "java/util/NoSuchElementException") (by decide)⟩, (List.forall_mem_cons.mpr ⟨Or.inr ⟨by decide, "java/lang/IllegalStateException", htA _ wd_965, hE.2.2.2.2.2.1 ("java/lang/IllegalArgumentException", "java/lang/IllegalStateException") (by decide)⟩, (fun z hz => absurd hz List.not_mem_nil)⟩)⟩) (by decide) (by decide) wd_526 (by decide +kernel) hce hcv hcl ?_
      refine W.widen (k := 7) (n := 42) (by decide) (by decide) ?_
      refine lv_astore (lv' := [(8, .ref q9), (0, .ref nx), (1, .int t_), (2, .int u_), (3, .int c_), (4, .int d_), (5, .int l_), (6, .int w_), (7, .ref no)]) hx hb dL_both_29 hl (by decide) rfl (fun ls hl => ?_)
      refine lv_iconst (v := 3) hx hb dL_both_31 (by decide) ?_
      have hP : va_P D vwCl ((no, .inl (cy 2, 1, .inr (.inl g))) :: W9) H := hP
      have hD : va_D A ((no, .inl (cy 2, 1, .inr (.inl g))) :: W9) := hD
      exact rI hX hE hP hD hS dL_both_32 (by decide) (by decide) ⟨g, W9, S, (Or.inr ⟨rfl, Or.inl ⟨hcx, rfl⟩⟩), (tl20 rfl), hI2, rfl⟩
    · refine kCatch (name := "java/lang/IllegalStateException") hX hE hxt [⟨0, 18, 21, 19⟩] ⟨0, 18, 25, 43⟩ [⟨0, 18, 29, 13⟩] rfl (List.forall_mem_cons.mpr ⟨Or.inr ⟨by decide, "java/util/NoSuchElementException", htA _ wd_860, hE.2.2.2.2.2.1 ("java/lang/IllegalStateException", "java/util/NoSuchElementException") (by decide)⟩, (fun z hz => absurd hz List.not_mem_nil)⟩) (by decide) (by decide) wd_965 (by decide +kernel) hce hcv hcl ?_
      refine W.widen (k := 7) (n := 42) (by decide) (by decide) ?_
      refine lv_astore (lv' := [(8, .ref q9), (0, .ref nx), (1, .int t_), (2, .int u_), (3, .int c_), (4, .int d_), (5, .int l_), (6, .int w_), (7, .ref no)]) hx hb dL_both_25 hl (by decide) rfl (fun ls hl => ?_)
      refine lv_iconst (v := 2) hx hb dL_both_27 (by decide) ?_
      have hP : va_P D vwCl ((no, .inl (cy 2, 1, .inr (.inl g))) :: W9) H := hP
      have hD : va_D A ((no, .inl (cy 2, 1, .inr (.inl g))) :: W9) := hD
      exact rI hX hE hP hD hS dL_both_28 (by decide) (by decide) ⟨g, W9, S, (Or.inr ⟨rfl, Or.inr (Or.inl ⟨hcx, rfl⟩)⟩), (tl20 rfl), hI2, rfl⟩
    · refine kCatch (name := "java/util/NoSuchElementException") hX hE hxt [] ⟨0, 18, 21, 19⟩ [⟨0, 18, 25, 43⟩, ⟨0, 18, 29, 13⟩] rfl (fun z hz => absurd hz List.not_mem_nil) (by decide) (by decide) wd_860 (by decide +kernel) hce hcv hcl ?_
      refine W.widen (k := 7) (n := 42) (by decide) (by decide) ?_
      refine lv_astore (lv' := [(8, .ref q9), (0, .ref nx), (1, .int t_), (2, .int u_), (3, .int c_), (4, .int d_), (5, .int l_), (6, .int w_), (7, .ref no)]) hx hb dL_both_21 hl (by decide) rfl (fun ls hl => ?_)
      refine lv_iconst (v := 1) hx hb dL_both_23 (by decide) ?_
      have hP : va_P D vwCl ((no, .inl (cy 2, 1, .inr (.inl g))) :: W9) H := hP
      have hD : va_D A ((no, .inl (cy 2, 1, .inr (.inl g))) :: W9) := hD
      exact rI hX hE hP hD hS dL_both_24 (by decide) (by decide) ⟨g, W9, S, (Or.inr ⟨rfl, Or.inr (Or.inr (Or.inl ⟨hcx, rfl⟩))⟩), (tl20 rfl), hI2, rfl⟩
  · refine W.widen (k := 7) (n := 42) (by decide) (by decide) ?_
    obtain ⟨Sn, hcs, hT2, hI2⟩ := hw
    refine lv_i2l hx hb dL_both_16 rfl ?_
    have hP : va_P D vwCl ((no, .inl (cy 2, 1, .inr (.inl g))) :: W2) H := hP
    have hD : va_D A ((no, .inl (cy 2, 1, .inr (.inl g))) :: W2) := hD
    refine va_last hx hb hK hP hD hS 0 2 rfl rfl (in_lit (by decide)) dL_both_17 (fun H locs hP hD hS => ?_)
    refine lv_goto (tgt := 33) hx hb dL_both_18 (by decide) ?_
    refine lv_iconst (v := 0) hx hb dL_both_33 (by decide) ?_
    have hP : va_P D vwCl ((no, .inl (cy 2, 1, .inr (.inl (vp_updL g (0 : Int32).toNatClampNeg r_.toInt64)))) :: W2) H := hP
    have hD : va_D A ((no, .inl (cy 2, 1, .inr (.inl (vp_updL g (0 : Int32).toNatClampNeg r_.toInt64)))) :: W2) := hD
    exact rI hX hE hP hD hS dL_both_34 (by decide) (by decide) ⟨(vp_updL g (0 : Int32).toNatClampNeg r_.toInt64), W2, Sn, (Or.inl ⟨rfl, _, hcs, up_L0 _ _ _⟩), hT2, hI2, rfl⟩
def HS_safeWay (S : CSt) (f_ : Int32) (t_ : Int32) (w_ : Int32) (r : Int32) (o : Int64) (Sn : CSt) : Prop := (r = 0 ∧ ∃ q : Int32, CS_safeWay S f_ t_ w_ q Sn ∧ o = q.toInt64) ∨ (Sn = S ∧ ((CX_safeWay S f_ t_ w_ "java/lang/IllegalArgumentException" ∧ r = 2) ∨ (CX_safeWay S f_ t_ w_ "java/util/NoSuchElementException" ∧ r = 1) ∨ False))
set_option maxHeartbeats 4000000 in
set_option maxRecDepth 100000 in
theorem H_safeWay (l : Launch) (hlt : l.stackTraces = false) (D : va_G) (cy : Nat → ClassId) (nx : Nat) (S : CSt) (Wc : va_W) (no : Nat) (g : Nat → Int64) (f_ : Int32) (t_ : Int32) (w_ : Int32) (hI : IC cy nx S Wc) : Hi l yL_safeWay cL_safeWay 6 (some .int) [(0, 12, 15, 19), (0, 12, 19, 13)] { frames := 8, cells := 3, slots := 18, locals := 201 } D cy [.ref nx, .int f_, .int t_, .int w_, .ref no] ((no, .inl (cy 2, 1, .inr (.inl g))) :: Wc) (fun r W1 => ∃ (g2 : Nat → Int64) (W2 : va_W) (Sn : CSt), HS_safeWay S f_ t_ w_ r (g2 (0 : Int32).toNatClampNeg) Sn ∧ Sn.1.1.toInt ≤ S.1.1.toInt + 0 ∧ IC cy nx Sn W2 ∧ W1 = (no, .inl (cy 2, 1, .inr (.inl g2))) :: W2) := by
  refine Hi.of (by decide) (Nat.le_of_ble_eq_true rfl) ?_
  intro p e s m below meth c A ls hX hE hP hD hl hxt
  obtain ⟨hx, hb, hr, hml, hown, htA, hlk⟩ := id hX
  have hK := hE.1
  have hS : va_S A s.heap s.heap [] := va_S.rf
  have hl : lv_has ls 6 [(0, .ref nx), (1, .int f_), (2, .int t_), (3, .int w_), (4, .ref no)] := hl
  have hP : va_P D vwCl ([(no, .inl (cy 2, 1, .inr (.inl g)))] ++ Wc) s.heap := hP
  have hD : va_D A ([(no, .inl (cy 2, 1, .inr (.inl g)))] ++ Wc) := hD
  refine lv_aload hx hb dL_safeWay_0 (lv_at hl 4 rfl) ?_
  refine lv_iconst (v := 0) hx hb dL_safeWay_2 (by decide) ?_
  refine lv_aload_n hx hb dL_safeWay_3 rfl (lv_at hl 0 rfl) ?_
  refine lv_iload_n hx hb dL_safeWay_4 rfl (lv_at hl 1 rfl) ?_
  refine lv_iload_n hx hb dL_safeWay_5 rfl (lv_at hl 2 rfl) ?_
  refine lv_iload_n hx hb dL_safeWay_6 rfl (lv_at hl 3 rfl) ?_
  obtain ⟨qI_, fI_, hqI⟩ := IC_at hI
  refine xVi (As := [.int f_, .int t_, .int w_]) (rest := [.int 0, .ref no]) (wr := [(no, .inl (cy 2, 1, .inr (.inl g)))]) hX hE (I_safeWay l hlt D cy nx S Wc f_ t_ w_ hI) (cwVA 3 htA wd_1179 wd_1176 wd_1 wd_1177 wd_1178 (by decide +kernel) ⟨by decide, by decide⟩) hP hD hS (apR [(no, .inl (cy 2, 1, .inr (.inl g)))] Wc) (List.range ([(no, .inl (cy 2, 1, .inr (.inl g)))] : va_W).length) (ap_R [(no, .inl (cy 2, 1, .inr (.inl g)))] Wc) (ap_C [(no, .inl (cy 2, 1, .inr (.inl g)))] Wc) (ap_nd [(no, .inl (cy 2, 1, .inr (.inl g)))] Wc) qI_ hqI rfl rfl rfl hl.1 rfl (Nat.le_of_ble_eq_true rfl) dL_safeWay_7 (by decide) (fun E ce q9 W9 H locs hw hP hD hS hce hcv hcl => ?_) (fun r_ W2 H locs hw hP hD hS => ?_)
  · obtain ⟨hw, hcx, hI2⟩ := hw
    rcases hw with rfl | rfl
    · refine kCatch (name := "java/lang/IllegalArgumentException") hX hE hxt [⟨0, 12, 15, 19⟩] ⟨0, 12, 19, 13⟩ [] rfl (List.forall_mem_cons.mpr ⟨Or.inr ⟨by decide, "java/util/NoSuchElementException", htA _ wd_860, hE.2.2.2.2.2.1 ("java/lang/IllegalArgumentException", "java/util/NoSuchElementException") (by decide)⟩, (fun z hz => absurd hz List.not_mem_nil)⟩) (by decide) (by decide) wd_526 (by decide +kernel) hce hcv hcl ?_
      refine W.widen (k := 3) (n := 18) (by decide) (by decide) ?_
      refine lv_astore (lv' := [(5, .ref q9), (0, .ref nx), (1, .int f_), (2, .int t_), (3, .int w_), (4, .ref no)]) hx hb dL_safeWay_19 hl (by decide) rfl (fun ls hl => ?_)
      refine lv_iconst (v := 2) hx hb dL_safeWay_21 (by decide) ?_
      have hP : va_P D vwCl ((no, .inl (cy 2, 1, .inr (.inl g))) :: W9) H := hP
      have hD : va_D A ((no, .inl (cy 2, 1, .inr (.inl g))) :: W9) := hD
      exact rI hX hE hP hD hS dL_safeWay_22 (by decide) (by decide) ⟨g, W9, S, (Or.inr ⟨rfl, Or.inl ⟨hcx, rfl⟩⟩), (tl20 rfl), hI2, rfl⟩
    · refine kCatch (name := "java/util/NoSuchElementException") hX hE hxt [] ⟨0, 12, 15, 19⟩ [⟨0, 12, 19, 13⟩] rfl (fun z hz => absurd hz List.not_mem_nil) (by decide) (by decide) wd_860 (by decide +kernel) hce hcv hcl ?_
      refine W.widen (k := 3) (n := 18) (by decide) (by decide) ?_
      refine lv_astore (lv' := [(5, .ref q9), (0, .ref nx), (1, .int f_), (2, .int t_), (3, .int w_), (4, .ref no)]) hx hb dL_safeWay_15 hl (by decide) rfl (fun ls hl => ?_)
      refine lv_iconst (v := 1) hx hb dL_safeWay_17 (by decide) ?_
      have hP : va_P D vwCl ((no, .inl (cy 2, 1, .inr (.inl g))) :: W9) H := hP
      have hD : va_D A ((no, .inl (cy 2, 1, .inr (.inl g))) :: W9) := hD
      exact rI hX hE hP hD hS dL_safeWay_18 (by decide) (by decide) ⟨g, W9, S, (Or.inr ⟨rfl, Or.inr (Or.inl ⟨hcx, rfl⟩)⟩), (tl20 rfl), hI2, rfl⟩
  · refine W.widen (k := 3) (n := 18) (by decide) (by decide) ?_
    obtain ⟨Sn, hcs, hT2, hI2⟩ := hw
    refine lv_i2l hx hb dL_safeWay_10 rfl ?_
    have hP : va_P D vwCl ((no, .inl (cy 2, 1, .inr (.inl g))) :: W2) H := hP
    have hD : va_D A ((no, .inl (cy 2, 1, .inr (.inl g))) :: W2) := hD
    refine va_last hx hb hK hP hD hS 0 2 rfl rfl (in_lit (by decide)) dL_safeWay_11 (fun H locs hP hD hS => ?_)
    refine lv_goto (tgt := 23) hx hb dL_safeWay_12 (by decide) ?_
    refine lv_iconst (v := 0) hx hb dL_safeWay_23 (by decide) ?_
    have hP : va_P D vwCl ((no, .inl (cy 2, 1, .inr (.inl (vp_updL g (0 : Int32).toNatClampNeg r_.toInt64)))) :: W2) H := hP
    have hD : va_D A ((no, .inl (cy 2, 1, .inr (.inl (vp_updL g (0 : Int32).toNatClampNeg r_.toInt64)))) :: W2) := hD
    exact rI hX hE hP hD hS dL_safeWay_24 (by decide) (by decide) ⟨(vp_updL g (0 : Int32).toNatClampNeg r_.toInt64), W2, Sn, (Or.inl ⟨rfl, _, hcs, up_L0 _ _ _⟩), hT2, hI2, rfl⟩
def HS_safeWays (S : CSt) (f_ : Int32) (t_ : Int32) (n_ : Int32) (r : Int32) (o : Int64) (Sn : CSt) : Prop := (r = 0 ∧ ∃ q : Int64, CS_safeWays S f_ t_ n_ q Sn ∧ o = q) ∨ (Sn = S ∧ ((CX_safeWays S f_ t_ n_ "java/lang/IllegalArgumentException" ∧ r = 2) ∨ (CX_safeWays S f_ t_ n_ "java/util/NoSuchElementException" ∧ r = 1) ∨ False))
set_option maxHeartbeats 4000000 in
set_option maxRecDepth 100000 in
theorem H_safeWays (l : Launch) (hlt : l.stackTraces = false) (D : va_G) (cy : Nat → ClassId) (nx : Nat) (S : CSt) (Wc : va_W) (no : Nat) (g : Nat → Int64) (f_ : Int32) (t_ : Int32) (n_ : Int32) (hI : IC cy nx S Wc) : Hi l yL_safeWays cL_safeWays 6 (some .int) [(0, 11, 14, 19), (0, 11, 18, 13)] { frames := 8, cells := 3, slots := 18, locals := 200 } D cy [.ref nx, .int f_, .int t_, .int n_, .ref no] ((no, .inl (cy 2, 1, .inr (.inl g))) :: Wc) (fun r W1 => ∃ (g2 : Nat → Int64) (W2 : va_W) (Sn : CSt), HS_safeWays S f_ t_ n_ r (g2 (0 : Int32).toNatClampNeg) Sn ∧ Sn.1.1.toInt ≤ S.1.1.toInt + 0 ∧ IC cy nx Sn W2 ∧ W1 = (no, .inl (cy 2, 1, .inr (.inl g2))) :: W2) := by
  refine Hi.of (by decide) (Nat.le_of_ble_eq_true rfl) ?_
  intro p e s m below meth c A ls hX hE hP hD hl hxt
  obtain ⟨hx, hb, hr, hml, hown, htA, hlk⟩ := id hX
  have hK := hE.1
  have hS : va_S A s.heap s.heap [] := va_S.rf
  have hl : lv_has ls 6 [(0, .ref nx), (1, .int f_), (2, .int t_), (3, .int n_), (4, .ref no)] := hl
  have hP : va_P D vwCl ([(no, .inl (cy 2, 1, .inr (.inl g)))] ++ Wc) s.heap := hP
  have hD : va_D A ([(no, .inl (cy 2, 1, .inr (.inl g)))] ++ Wc) := hD
  refine lv_aload hx hb dL_safeWays_0 (lv_at hl 4 rfl) ?_
  refine lv_iconst (v := 0) hx hb dL_safeWays_2 (by decide) ?_
  refine lv_aload_n hx hb dL_safeWays_3 rfl (lv_at hl 0 rfl) ?_
  refine lv_iload_n hx hb dL_safeWays_4 rfl (lv_at hl 1 rfl) ?_
  refine lv_iload_n hx hb dL_safeWays_5 rfl (lv_at hl 2 rfl) ?_
  refine lv_iload_n hx hb dL_safeWays_6 rfl (lv_at hl 3 rfl) ?_
  obtain ⟨qI_, fI_, hqI⟩ := IC_at hI
  refine xVl (As := [.int f_, .int t_, .int n_]) (rest := [.int 0, .ref no]) (wr := [(no, .inl (cy 2, 1, .inr (.inl g)))]) hX hE (I_safeWays l hlt D cy nx S Wc f_ t_ n_ hI) (cwVA 3 htA wd_1207 wd_1204 wd_1 wd_1205 wd_1206 (by decide +kernel) ⟨by decide, by decide⟩) hP hD hS (apR [(no, .inl (cy 2, 1, .inr (.inl g)))] Wc) (List.range ([(no, .inl (cy 2, 1, .inr (.inl g)))] : va_W).length) (ap_R [(no, .inl (cy 2, 1, .inr (.inl g)))] Wc) (ap_C [(no, .inl (cy 2, 1, .inr (.inl g)))] Wc) (ap_nd [(no, .inl (cy 2, 1, .inr (.inl g)))] Wc) qI_ hqI rfl rfl rfl hl.1 rfl (Nat.le_of_ble_eq_true rfl) dL_safeWays_7 (by decide) (fun E ce q9 W9 H locs hw hP hD hS hce hcv hcl => ?_) (fun r_ W2 H locs hw hP hD hS => ?_)
  · obtain ⟨hw, hcx, hI2⟩ := hw
    rcases hw with rfl | rfl
    · refine kCatch (name := "java/lang/IllegalArgumentException") hX hE hxt [⟨0, 11, 14, 19⟩] ⟨0, 11, 18, 13⟩ [] rfl (List.forall_mem_cons.mpr ⟨Or.inr ⟨by decide, "java/util/NoSuchElementException", htA _ wd_860, hE.2.2.2.2.2.1 ("java/lang/IllegalArgumentException", "java/util/NoSuchElementException") (by decide)⟩, (fun z hz => absurd hz List.not_mem_nil)⟩) (by decide) (by decide) wd_526 (by decide +kernel) hce hcv hcl ?_
      refine W.widen (k := 3) (n := 18) (by decide) (by decide) ?_
      refine lv_astore (lv' := [(5, .ref q9), (0, .ref nx), (1, .int f_), (2, .int t_), (3, .int n_), (4, .ref no)]) hx hb dL_safeWays_18 hl (by decide) rfl (fun ls hl => ?_)
      refine lv_iconst (v := 2) hx hb dL_safeWays_20 (by decide) ?_
      have hP : va_P D vwCl ((no, .inl (cy 2, 1, .inr (.inl g))) :: W9) H := hP
      have hD : va_D A ((no, .inl (cy 2, 1, .inr (.inl g))) :: W9) := hD
      exact rI hX hE hP hD hS dL_safeWays_21 (by decide) (by decide) ⟨g, W9, S, (Or.inr ⟨rfl, Or.inl ⟨hcx, rfl⟩⟩), (tl20 rfl), hI2, rfl⟩
    · refine kCatch (name := "java/util/NoSuchElementException") hX hE hxt [] ⟨0, 11, 14, 19⟩ [⟨0, 11, 18, 13⟩] rfl (fun z hz => absurd hz List.not_mem_nil) (by decide) (by decide) wd_860 (by decide +kernel) hce hcv hcl ?_
      refine W.widen (k := 3) (n := 18) (by decide) (by decide) ?_
      refine lv_astore (lv' := [(5, .ref q9), (0, .ref nx), (1, .int f_), (2, .int t_), (3, .int n_), (4, .ref no)]) hx hb dL_safeWays_14 hl (by decide) rfl (fun ls hl => ?_)
      refine lv_iconst (v := 1) hx hb dL_safeWays_16 (by decide) ?_
      have hP : va_P D vwCl ((no, .inl (cy 2, 1, .inr (.inl g))) :: W9) H := hP
      have hD : va_D A ((no, .inl (cy 2, 1, .inr (.inl g))) :: W9) := hD
      exact rI hX hE hP hD hS dL_safeWays_17 (by decide) (by decide) ⟨g, W9, S, (Or.inr ⟨rfl, Or.inr (Or.inl ⟨hcx, rfl⟩)⟩), (tl20 rfl), hI2, rfl⟩
  · refine W.widen (k := 3) (n := 18) (by decide) (by decide) ?_
    obtain ⟨Sn, hcs, hT2, hI2⟩ := hw
    have hP : va_P D vwCl ((no, .inl (cy 2, 1, .inr (.inl g))) :: W2) H := hP
    have hD : va_D A ((no, .inl (cy 2, 1, .inr (.inl g))) :: W2) := hD
    refine va_last hx hb hK hP hD hS 0 2 rfl rfl (in_lit (by decide)) dL_safeWays_10 (fun H locs hP hD hS => ?_)
    refine lv_goto (tgt := 22) hx hb dL_safeWays_11 (by decide) ?_
    refine lv_iconst (v := 0) hx hb dL_safeWays_22 (by decide) ?_
    have hP : va_P D vwCl ((no, .inl (cy 2, 1, .inr (.inl (vp_updL g (0 : Int32).toNatClampNeg r_)))) :: W2) H := hP
    have hD : va_D A ((no, .inl (cy 2, 1, .inr (.inl (vp_updL g (0 : Int32).toNatClampNeg r_)))) :: W2) := hD
    exact rI hX hE hP hD hS dL_safeWays_23 (by decide) (by decide) ⟨(vp_updL g (0 : Int32).toNatClampNeg r_), W2, Sn, (Or.inl ⟨rfl, _, hcs, up_L0 _ _ _⟩), hT2, hI2, rfl⟩
def HS_safeIn (S : CSt) (f_ : Int32) (n_ : Int32) (r : Int32) (o : Int64) (Sn : CSt) : Prop := (r = 0 ∧ ∃ q : Int32, CS_safeIn S f_ n_ q Sn ∧ o = q.toInt64) ∨ (Sn = S ∧ ((CX_safeIn S f_ n_ "java/lang/IllegalArgumentException" ∧ r = 2) ∨ (CX_safeIn S f_ n_ "java/util/NoSuchElementException" ∧ r = 1) ∨ False))
set_option maxHeartbeats 4000000 in
set_option maxRecDepth 100000 in
theorem H_safeIn (l : Launch) (hlt : l.stackTraces = false) (D : va_G) (cy : Nat → ClassId) (nx : Nat) (S : CSt) (Wc : va_W) (no : Nat) (g : Nat → Int64) (f_ : Int32) (n_ : Int32) (hI : IC cy nx S Wc) : Hi l yL_safeIn cL_safeIn 5 (some .int) [(0, 10, 13, 19), (0, 10, 17, 13)] { frames := 8, cells := 2, slots := 12, locals := 199 } D cy [.ref nx, .int f_, .int n_, .ref no] ((no, .inl (cy 2, 1, .inr (.inl g))) :: Wc) (fun r W1 => ∃ (g2 : Nat → Int64) (W2 : va_W) (Sn : CSt), HS_safeIn S f_ n_ r (g2 (0 : Int32).toNatClampNeg) Sn ∧ Sn.1.1.toInt ≤ S.1.1.toInt + 0 ∧ IC cy nx Sn W2 ∧ W1 = (no, .inl (cy 2, 1, .inr (.inl g2))) :: W2) := by
  refine Hi.of (by decide) (Nat.le_of_ble_eq_true rfl) ?_
  intro p e s m below meth c A ls hX hE hP hD hl hxt
  obtain ⟨hx, hb, hr, hml, hown, htA, hlk⟩ := id hX
  have hK := hE.1
  have hS : va_S A s.heap s.heap [] := va_S.rf
  have hl : lv_has ls 5 [(0, .ref nx), (1, .int f_), (2, .int n_), (3, .ref no)] := hl
  have hP : va_P D vwCl ([(no, .inl (cy 2, 1, .inr (.inl g)))] ++ Wc) s.heap := hP
  have hD : va_D A ([(no, .inl (cy 2, 1, .inr (.inl g)))] ++ Wc) := hD
  refine lv_aload_n hx hb dL_safeIn_0 rfl (lv_at hl 3 rfl) ?_
  refine lv_iconst (v := 0) hx hb dL_safeIn_1 (by decide) ?_
  refine lv_aload_n hx hb dL_safeIn_2 rfl (lv_at hl 0 rfl) ?_
  refine lv_iload_n hx hb dL_safeIn_3 rfl (lv_at hl 1 rfl) ?_
  refine lv_iload_n hx hb dL_safeIn_4 rfl (lv_at hl 2 rfl) ?_
  obtain ⟨qI_, fI_, hqI⟩ := IC_at hI
  refine xVi (As := [.int f_, .int n_]) (rest := [.int 0, .ref no]) (wr := [(no, .inl (cy 2, 1, .inr (.inl g)))]) hX hE (I_safeIn l hlt D cy nx S Wc f_ n_ hI) (cwVA 2 htA wd_1223 wd_1220 wd_1 wd_1221 wd_1222 (by decide +kernel) ⟨by decide, by decide⟩) hP hD hS (apR [(no, .inl (cy 2, 1, .inr (.inl g)))] Wc) (List.range ([(no, .inl (cy 2, 1, .inr (.inl g)))] : va_W).length) (ap_R [(no, .inl (cy 2, 1, .inr (.inl g)))] Wc) (ap_C [(no, .inl (cy 2, 1, .inr (.inl g)))] Wc) (ap_nd [(no, .inl (cy 2, 1, .inr (.inl g)))] Wc) qI_ hqI rfl rfl rfl hl.1 rfl (Nat.le_of_ble_eq_true rfl) dL_safeIn_5 (by decide) (fun E ce q9 W9 H locs hw hP hD hS hce hcv hcl => ?_) (fun r_ W2 H locs hw hP hD hS => ?_)
  · obtain ⟨hw, hcx, hI2⟩ := hw
    rcases hw with rfl | rfl
    · refine kCatch (name := "java/lang/IllegalArgumentException") hX hE hxt [⟨0, 10, 13, 19⟩] ⟨0, 10, 17, 13⟩ [] rfl (List.forall_mem_cons.mpr ⟨Or.inr ⟨by decide, "java/util/NoSuchElementException", htA _ wd_860, hE.2.2.2.2.2.1 ("java/lang/IllegalArgumentException", "java/util/NoSuchElementException") (by decide)⟩, (fun z hz => absurd hz List.not_mem_nil)⟩) (by decide) (by decide) wd_526 (by decide +kernel) hce hcv hcl ?_
      refine W.widen (k := 2) (n := 12) (by decide) (by decide) ?_
      refine lv_astore (lv' := [(4, .ref q9), (0, .ref nx), (1, .int f_), (2, .int n_), (3, .ref no)]) hx hb dL_safeIn_17 hl (by decide) rfl (fun ls hl => ?_)
      refine lv_iconst (v := 2) hx hb dL_safeIn_19 (by decide) ?_
      have hP : va_P D vwCl ((no, .inl (cy 2, 1, .inr (.inl g))) :: W9) H := hP
      have hD : va_D A ((no, .inl (cy 2, 1, .inr (.inl g))) :: W9) := hD
      exact rI hX hE hP hD hS dL_safeIn_20 (by decide) (by decide) ⟨g, W9, S, (Or.inr ⟨rfl, Or.inl ⟨hcx, rfl⟩⟩), (tl20 rfl), hI2, rfl⟩
    · refine kCatch (name := "java/util/NoSuchElementException") hX hE hxt [] ⟨0, 10, 13, 19⟩ [⟨0, 10, 17, 13⟩] rfl (fun z hz => absurd hz List.not_mem_nil) (by decide) (by decide) wd_860 (by decide +kernel) hce hcv hcl ?_
      refine W.widen (k := 2) (n := 12) (by decide) (by decide) ?_
      refine lv_astore (lv' := [(4, .ref q9), (0, .ref nx), (1, .int f_), (2, .int n_), (3, .ref no)]) hx hb dL_safeIn_13 hl (by decide) rfl (fun ls hl => ?_)
      refine lv_iconst (v := 1) hx hb dL_safeIn_15 (by decide) ?_
      have hP : va_P D vwCl ((no, .inl (cy 2, 1, .inr (.inl g))) :: W9) H := hP
      have hD : va_D A ((no, .inl (cy 2, 1, .inr (.inl g))) :: W9) := hD
      exact rI hX hE hP hD hS dL_safeIn_16 (by decide) (by decide) ⟨g, W9, S, (Or.inr ⟨rfl, Or.inr (Or.inl ⟨hcx, rfl⟩)⟩), (tl20 rfl), hI2, rfl⟩
  · refine W.widen (k := 2) (n := 12) (by decide) (by decide) ?_
    obtain ⟨Sn, hcs, hT2, hI2⟩ := hw
    refine lv_i2l hx hb dL_safeIn_8 rfl ?_
    have hP : va_P D vwCl ((no, .inl (cy 2, 1, .inr (.inl g))) :: W2) H := hP
    have hD : va_D A ((no, .inl (cy 2, 1, .inr (.inl g))) :: W2) := hD
    refine va_last hx hb hK hP hD hS 0 2 rfl rfl (in_lit (by decide)) dL_safeIn_9 (fun H locs hP hD hS => ?_)
    refine lv_goto (tgt := 21) hx hb dL_safeIn_10 (by decide) ?_
    refine lv_iconst (v := 0) hx hb dL_safeIn_21 (by decide) ?_
    have hP : va_P D vwCl ((no, .inl (cy 2, 1, .inr (.inl (vp_updL g (0 : Int32).toNatClampNeg r_.toInt64)))) :: W2) H := hP
    have hD : va_D A ((no, .inl (cy 2, 1, .inr (.inl (vp_updL g (0 : Int32).toNatClampNeg r_.toInt64)))) :: W2) := hD
    exact rI hX hE hP hD hS dL_safeIn_22 (by decide) (by decide) ⟨(vp_updL g (0 : Int32).toNatClampNeg r_.toInt64), W2, Sn, (Or.inl ⟨rfl, _, hcs, up_L0 _ _ _⟩), hT2, hI2, rfl⟩
def HS_later (S : CSt) (w_ : Int32) (n_ : Int32) (r : Int32) (o : Int64) (Sn : CSt) : Prop := (r = 0 ∧ ∃ q : Int32, CS_later S w_ n_ q Sn ∧ o = q.toInt64) ∨ (Sn = S ∧ ((CX_later S w_ n_ "java/lang/IllegalArgumentException" ∧ r = 2) ∨ (CX_later S w_ n_ "java/util/NoSuchElementException" ∧ r = 1) ∨ False))
set_option maxHeartbeats 4000000 in
set_option maxRecDepth 100000 in
theorem H_later (l : Launch) (hlt : l.stackTraces = false) (D : va_G) (cy : Nat → ClassId) (nx : Nat) (S : CSt) (Wc : va_W) (no : Nat) (g : Nat → Int64) (w_ : Int32) (n_ : Int32) (hI : IC cy nx S Wc) : Hi l yL_later cL_later 5 (some .int) [(0, 10, 13, 19), (0, 10, 17, 13)] { frames := 8, cells := 2, slots := 12, locals := 199 } D cy [.ref nx, .int w_, .int n_, .ref no] ((no, .inl (cy 2, 1, .inr (.inl g))) :: Wc) (fun r W1 => ∃ (g2 : Nat → Int64) (W2 : va_W) (Sn : CSt), HS_later S w_ n_ r (g2 (0 : Int32).toNatClampNeg) Sn ∧ Sn.1.1.toInt ≤ S.1.1.toInt + 0 ∧ IC cy nx Sn W2 ∧ W1 = (no, .inl (cy 2, 1, .inr (.inl g2))) :: W2) := by
  refine Hi.of (by decide) (Nat.le_of_ble_eq_true rfl) ?_
  intro p e s m below meth c A ls hX hE hP hD hl hxt
  obtain ⟨hx, hb, hr, hml, hown, htA, hlk⟩ := id hX
  have hK := hE.1
  have hS : va_S A s.heap s.heap [] := va_S.rf
  have hl : lv_has ls 5 [(0, .ref nx), (1, .int w_), (2, .int n_), (3, .ref no)] := hl
  have hP : va_P D vwCl ([(no, .inl (cy 2, 1, .inr (.inl g)))] ++ Wc) s.heap := hP
  have hD : va_D A ([(no, .inl (cy 2, 1, .inr (.inl g)))] ++ Wc) := hD
  refine lv_aload_n hx hb dL_later_0 rfl (lv_at hl 3 rfl) ?_
  refine lv_iconst (v := 0) hx hb dL_later_1 (by decide) ?_
  refine lv_aload_n hx hb dL_later_2 rfl (lv_at hl 0 rfl) ?_
  refine lv_iload_n hx hb dL_later_3 rfl (lv_at hl 1 rfl) ?_
  refine lv_iload_n hx hb dL_later_4 rfl (lv_at hl 2 rfl) ?_
  obtain ⟨qI_, fI_, hqI⟩ := IC_at hI
  refine xVi (As := [.int w_, .int n_]) (rest := [.int 0, .ref no]) (wr := [(no, .inl (cy 2, 1, .inr (.inl g)))]) hX hE (I_later l hlt D cy nx S Wc w_ n_ hI) (cwVA 2 htA wd_1230 wd_1227 wd_1 wd_1228 wd_1229 (by decide +kernel) ⟨by decide, by decide⟩) hP hD hS (apR [(no, .inl (cy 2, 1, .inr (.inl g)))] Wc) (List.range ([(no, .inl (cy 2, 1, .inr (.inl g)))] : va_W).length) (ap_R [(no, .inl (cy 2, 1, .inr (.inl g)))] Wc) (ap_C [(no, .inl (cy 2, 1, .inr (.inl g)))] Wc) (ap_nd [(no, .inl (cy 2, 1, .inr (.inl g)))] Wc) qI_ hqI rfl rfl rfl hl.1 rfl (Nat.le_of_ble_eq_true rfl) dL_later_5 (by decide) (fun E ce q9 W9 H locs hw hP hD hS hce hcv hcl => ?_) (fun r_ W2 H locs hw hP hD hS => ?_)
  · obtain ⟨hw, hcx, hI2⟩ := hw
    rcases hw with rfl | rfl
    · refine kCatch (name := "java/lang/IllegalArgumentException") hX hE hxt [⟨0, 10, 13, 19⟩] ⟨0, 10, 17, 13⟩ [] rfl (List.forall_mem_cons.mpr ⟨Or.inr ⟨by decide, "java/util/NoSuchElementException", htA _ wd_860, hE.2.2.2.2.2.1 ("java/lang/IllegalArgumentException", "java/util/NoSuchElementException") (by decide)⟩, (fun z hz => absurd hz List.not_mem_nil)⟩) (by decide) (by decide) wd_526 (by decide +kernel) hce hcv hcl ?_
      refine W.widen (k := 2) (n := 12) (by decide) (by decide) ?_
      refine lv_astore (lv' := [(4, .ref q9), (0, .ref nx), (1, .int w_), (2, .int n_), (3, .ref no)]) hx hb dL_later_17 hl (by decide) rfl (fun ls hl => ?_)
      refine lv_iconst (v := 2) hx hb dL_later_19 (by decide) ?_
      have hP : va_P D vwCl ((no, .inl (cy 2, 1, .inr (.inl g))) :: W9) H := hP
      have hD : va_D A ((no, .inl (cy 2, 1, .inr (.inl g))) :: W9) := hD
      exact rI hX hE hP hD hS dL_later_20 (by decide) (by decide) ⟨g, W9, S, (Or.inr ⟨rfl, Or.inl ⟨hcx, rfl⟩⟩), (tl20 rfl), hI2, rfl⟩
    · refine kCatch (name := "java/util/NoSuchElementException") hX hE hxt [] ⟨0, 10, 13, 19⟩ [⟨0, 10, 17, 13⟩] rfl (fun z hz => absurd hz List.not_mem_nil) (by decide) (by decide) wd_860 (by decide +kernel) hce hcv hcl ?_
      refine W.widen (k := 2) (n := 12) (by decide) (by decide) ?_
      refine lv_astore (lv' := [(4, .ref q9), (0, .ref nx), (1, .int w_), (2, .int n_), (3, .ref no)]) hx hb dL_later_13 hl (by decide) rfl (fun ls hl => ?_)
      refine lv_iconst (v := 1) hx hb dL_later_15 (by decide) ?_
      have hP : va_P D vwCl ((no, .inl (cy 2, 1, .inr (.inl g))) :: W9) H := hP
      have hD : va_D A ((no, .inl (cy 2, 1, .inr (.inl g))) :: W9) := hD
      exact rI hX hE hP hD hS dL_later_16 (by decide) (by decide) ⟨g, W9, S, (Or.inr ⟨rfl, Or.inr (Or.inl ⟨hcx, rfl⟩)⟩), (tl20 rfl), hI2, rfl⟩
  · refine W.widen (k := 2) (n := 12) (by decide) (by decide) ?_
    obtain ⟨Sn, hcs, hT2, hI2⟩ := hw
    refine lv_i2l hx hb dL_later_8 rfl ?_
    have hP : va_P D vwCl ((no, .inl (cy 2, 1, .inr (.inl g))) :: W2) H := hP
    have hD : va_D A ((no, .inl (cy 2, 1, .inr (.inl g))) :: W2) := hD
    refine va_last hx hb hK hP hD hS 0 2 rfl rfl (in_lit (by decide)) dL_later_9 (fun H locs hP hD hS => ?_)
    refine lv_goto (tgt := 21) hx hb dL_later_10 (by decide) ?_
    refine lv_iconst (v := 0) hx hb dL_later_21 (by decide) ?_
    have hP : va_P D vwCl ((no, .inl (cy 2, 1, .inr (.inl (vp_updL g (0 : Int32).toNatClampNeg r_.toInt64)))) :: W2) H := hP
    have hD : va_D A ((no, .inl (cy 2, 1, .inr (.inl (vp_updL g (0 : Int32).toNatClampNeg r_.toInt64)))) :: W2) := hD
    exact rI hX hE hP hD hS dL_later_22 (by decide) (by decide) ⟨(vp_updL g (0 : Int32).toNatClampNeg r_.toInt64), W2, Sn, (Or.inl ⟨rfl, _, hcs, up_L0 _ _ _⟩), hT2, hI2, rfl⟩
def HS_letGoBy (S : CSt) (c_ : Int32) (l_ : Int32) (w_ : Int32) (r : Int32) (o : Int64) (Sn : CSt) : Prop := (r = 0 ∧ ∃ q : Int32, CS_letGoBy S c_ l_ w_ q Sn ∧ o = q.toInt64) ∨ (Sn = S ∧ ((CX_letGoBy S c_ l_ w_ "java/lang/IllegalArgumentException" ∧ r = 2) ∨ (CX_letGoBy S c_ l_ w_ "java/util/NoSuchElementException" ∧ r = 1) ∨ False))
set_option maxHeartbeats 4000000 in
set_option maxRecDepth 100000 in
theorem H_letGoBy (l : Launch) (hlt : l.stackTraces = false) (D : va_G) (cy : Nat → ClassId) (nx : Nat) (S : CSt) (Wc : va_W) (no : Nat) (g : Nat → Int64) (c_ : Int32) (l_ : Int32) (w_ : Int32) (hI : IC cy nx S Wc) : Hi l yL_letGoBy cL_letGoBy 6 (some .int) [(0, 12, 15, 19), (0, 12, 19, 13)] { frames := 8, cells := 2, slots := 12, locals := 138 } D cy [.ref nx, .int c_, .int l_, .int w_, .ref no] ((no, .inl (cy 2, 1, .inr (.inl g))) :: Wc) (fun r W1 => ∃ (g2 : Nat → Int64) (W2 : va_W) (Sn : CSt), HS_letGoBy S c_ l_ w_ r (g2 (0 : Int32).toNatClampNeg) Sn ∧ Sn.1.1.toInt ≤ S.1.1.toInt + 0 ∧ IC cy nx Sn W2 ∧ W1 = (no, .inl (cy 2, 1, .inr (.inl g2))) :: W2) := by
  refine Hi.of (by decide) (Nat.le_of_ble_eq_true rfl) ?_
  intro p e s m below meth c A ls hX hE hP hD hl hxt
  obtain ⟨hx, hb, hr, hml, hown, htA, hlk⟩ := id hX
  have hK := hE.1
  have hS : va_S A s.heap s.heap [] := va_S.rf
  have hl : lv_has ls 6 [(0, .ref nx), (1, .int c_), (2, .int l_), (3, .int w_), (4, .ref no)] := hl
  have hP : va_P D vwCl ([(no, .inl (cy 2, 1, .inr (.inl g)))] ++ Wc) s.heap := hP
  have hD : va_D A ([(no, .inl (cy 2, 1, .inr (.inl g)))] ++ Wc) := hD
  refine lv_aload hx hb dL_letGoBy_0 (lv_at hl 4 rfl) ?_
  refine lv_iconst (v := 0) hx hb dL_letGoBy_2 (by decide) ?_
  refine lv_aload_n hx hb dL_letGoBy_3 rfl (lv_at hl 0 rfl) ?_
  refine lv_iload_n hx hb dL_letGoBy_4 rfl (lv_at hl 1 rfl) ?_
  refine lv_iload_n hx hb dL_letGoBy_5 rfl (lv_at hl 2 rfl) ?_
  refine lv_iload_n hx hb dL_letGoBy_6 rfl (lv_at hl 3 rfl) ?_
  obtain ⟨qI_, fI_, hqI⟩ := IC_at hI
  refine xVi (As := [.int c_, .int l_, .int w_]) (rest := [.int 0, .ref no]) (wr := [(no, .inl (cy 2, 1, .inr (.inl g)))]) hX hE (I_letGoBy l hlt D cy nx S Wc c_ l_ w_ hI) (cwVA 3 htA wd_1237 wd_1234 wd_1 wd_1235 wd_1236 (by decide +kernel) ⟨by decide, by decide⟩) hP hD hS (apR [(no, .inl (cy 2, 1, .inr (.inl g)))] Wc) (List.range ([(no, .inl (cy 2, 1, .inr (.inl g)))] : va_W).length) (ap_R [(no, .inl (cy 2, 1, .inr (.inl g)))] Wc) (ap_C [(no, .inl (cy 2, 1, .inr (.inl g)))] Wc) (ap_nd [(no, .inl (cy 2, 1, .inr (.inl g)))] Wc) qI_ hqI rfl rfl rfl hl.1 rfl (Nat.le_of_ble_eq_true rfl) dL_letGoBy_7 (by decide) (fun E ce q9 W9 H locs hw hP hD hS hce hcv hcl => ?_) (fun r_ W2 H locs hw hP hD hS => ?_)
  · obtain ⟨hw, hcx, hI2⟩ := hw
    rcases hw with rfl | rfl
    · refine kCatch (name := "java/lang/IllegalArgumentException") hX hE hxt [⟨0, 12, 15, 19⟩] ⟨0, 12, 19, 13⟩ [] rfl (List.forall_mem_cons.mpr ⟨Or.inr ⟨by decide, "java/util/NoSuchElementException", htA _ wd_860, hE.2.2.2.2.2.1 ("java/lang/IllegalArgumentException", "java/util/NoSuchElementException") (by decide)⟩, (fun z hz => absurd hz List.not_mem_nil)⟩) (by decide) (by decide) wd_526 (by decide +kernel) hce hcv hcl ?_
      refine W.widen (k := 2) (n := 12) (by decide) (by decide) ?_
      refine lv_astore (lv' := [(5, .ref q9), (0, .ref nx), (1, .int c_), (2, .int l_), (3, .int w_), (4, .ref no)]) hx hb dL_letGoBy_19 hl (by decide) rfl (fun ls hl => ?_)
      refine lv_iconst (v := 2) hx hb dL_letGoBy_21 (by decide) ?_
      have hP : va_P D vwCl ((no, .inl (cy 2, 1, .inr (.inl g))) :: W9) H := hP
      have hD : va_D A ((no, .inl (cy 2, 1, .inr (.inl g))) :: W9) := hD
      exact rI hX hE hP hD hS dL_letGoBy_22 (by decide) (by decide) ⟨g, W9, S, (Or.inr ⟨rfl, Or.inl ⟨hcx, rfl⟩⟩), (tl20 rfl), hI2, rfl⟩
    · refine kCatch (name := "java/util/NoSuchElementException") hX hE hxt [] ⟨0, 12, 15, 19⟩ [⟨0, 12, 19, 13⟩] rfl (fun z hz => absurd hz List.not_mem_nil) (by decide) (by decide) wd_860 (by decide +kernel) hce hcv hcl ?_
      refine W.widen (k := 2) (n := 12) (by decide) (by decide) ?_
      refine lv_astore (lv' := [(5, .ref q9), (0, .ref nx), (1, .int c_), (2, .int l_), (3, .int w_), (4, .ref no)]) hx hb dL_letGoBy_15 hl (by decide) rfl (fun ls hl => ?_)
      refine lv_iconst (v := 1) hx hb dL_letGoBy_17 (by decide) ?_
      have hP : va_P D vwCl ((no, .inl (cy 2, 1, .inr (.inl g))) :: W9) H := hP
      have hD : va_D A ((no, .inl (cy 2, 1, .inr (.inl g))) :: W9) := hD
      exact rI hX hE hP hD hS dL_letGoBy_18 (by decide) (by decide) ⟨g, W9, S, (Or.inr ⟨rfl, Or.inr (Or.inl ⟨hcx, rfl⟩)⟩), (tl20 rfl), hI2, rfl⟩
  · refine W.widen (k := 2) (n := 12) (by decide) (by decide) ?_
    obtain ⟨Sn, hcs, hT2, hI2⟩ := hw
    refine lv_i2l hx hb dL_letGoBy_10 rfl ?_
    have hP : va_P D vwCl ((no, .inl (cy 2, 1, .inr (.inl g))) :: W2) H := hP
    have hD : va_D A ((no, .inl (cy 2, 1, .inr (.inl g))) :: W2) := hD
    refine va_last hx hb hK hP hD hS 0 2 rfl rfl (in_lit (by decide)) dL_letGoBy_11 (fun H locs hP hD hS => ?_)
    refine lv_goto (tgt := 23) hx hb dL_letGoBy_12 (by decide) ?_
    refine lv_iconst (v := 0) hx hb dL_letGoBy_23 (by decide) ?_
    have hP : va_P D vwCl ((no, .inl (cy 2, 1, .inr (.inl (vp_updL g (0 : Int32).toNatClampNeg r_.toInt64)))) :: W2) H := hP
    have hD : va_D A ((no, .inl (cy 2, 1, .inr (.inl (vp_updL g (0 : Int32).toNatClampNeg r_.toInt64)))) :: W2) := hD
    exact rI hX hE hP hD hS dL_letGoBy_24 (by decide) (by decide) ⟨(vp_updL g (0 : Int32).toNatClampNeg r_.toInt64), W2, Sn, (Or.inl ⟨rfl, _, hcs, up_L0 _ _ _⟩), hT2, hI2, rfl⟩
def HS_letGoAt (S : CSt) (c_ : Int32) (l_ : Int32) (w_ : Int32) (k_ : Int32) (r : Int32) (o : Int64) (Sn : CSt) : Prop := (r = 0 ∧ ∃ q : Int32, CS_letGoAt S c_ l_ w_ k_ q Sn ∧ o = q.toInt64) ∨ (Sn = S ∧ ((CX_letGoAt S c_ l_ w_ k_ "java/lang/IllegalArgumentException" ∧ r = 2) ∨ (CX_letGoAt S c_ l_ w_ k_ "java/util/NoSuchElementException" ∧ r = 1) ∨ False))
set_option maxHeartbeats 4000000 in
set_option maxRecDepth 100000 in
theorem H_letGoAt (l : Launch) (hlt : l.stackTraces = false) (D : va_G) (cy : Nat → ClassId) (nx : Nat) (S : CSt) (Wc : va_W) (no : Nat) (g : Nat → Int64) (c_ : Int32) (l_ : Int32) (w_ : Int32) (k_ : Int32) (hI : IC cy nx S Wc) : Hi l yL_letGoAt cL_letGoAt 7 (some .int) [(0, 14, 17, 19), (0, 14, 21, 13)] { frames := 8, cells := 3, slots := 18, locals := 139 } D cy [.ref nx, .int c_, .int l_, .int w_, .int k_, .ref no] ((no, .inl (cy 2, 1, .inr (.inl g))) :: Wc) (fun r W1 => ∃ (g2 : Nat → Int64) (W2 : va_W) (Sn : CSt), HS_letGoAt S c_ l_ w_ k_ r (g2 (0 : Int32).toNatClampNeg) Sn ∧ Sn.1.1.toInt ≤ S.1.1.toInt + 0 ∧ IC cy nx Sn W2 ∧ W1 = (no, .inl (cy 2, 1, .inr (.inl g2))) :: W2) := by
  refine Hi.of (by decide) (Nat.le_of_ble_eq_true rfl) ?_
  intro p e s m below meth c A ls hX hE hP hD hl hxt
  obtain ⟨hx, hb, hr, hml, hown, htA, hlk⟩ := id hX
  have hK := hE.1
  have hS : va_S A s.heap s.heap [] := va_S.rf
  have hl : lv_has ls 7 [(0, .ref nx), (1, .int c_), (2, .int l_), (3, .int w_), (4, .int k_), (5, .ref no)] := hl
  have hP : va_P D vwCl ([(no, .inl (cy 2, 1, .inr (.inl g)))] ++ Wc) s.heap := hP
  have hD : va_D A ([(no, .inl (cy 2, 1, .inr (.inl g)))] ++ Wc) := hD
  refine lv_aload hx hb dL_letGoAt_0 (lv_at hl 5 rfl) ?_
  refine lv_iconst (v := 0) hx hb dL_letGoAt_2 (by decide) ?_
  refine lv_aload_n hx hb dL_letGoAt_3 rfl (lv_at hl 0 rfl) ?_
  refine lv_iload_n hx hb dL_letGoAt_4 rfl (lv_at hl 1 rfl) ?_
  refine lv_iload_n hx hb dL_letGoAt_5 rfl (lv_at hl 2 rfl) ?_
  refine lv_iload_n hx hb dL_letGoAt_6 rfl (lv_at hl 3 rfl) ?_
  refine lv_iload hx hb dL_letGoAt_7 (lv_at hl 4 rfl) ?_
  obtain ⟨qI_, fI_, hqI⟩ := IC_at hI
  refine xVi (As := [.int c_, .int l_, .int w_, .int k_]) (rest := [.int 0, .ref no]) (wr := [(no, .inl (cy 2, 1, .inr (.inl g)))]) hX hE (I_letGoAt l hlt D cy nx S Wc c_ l_ w_ k_ hI) (cwVA 4 htA wd_1248 wd_1245 wd_1 wd_1246 wd_1247 (by decide +kernel) ⟨by decide, by decide⟩) hP hD hS (apR [(no, .inl (cy 2, 1, .inr (.inl g)))] Wc) (List.range ([(no, .inl (cy 2, 1, .inr (.inl g)))] : va_W).length) (ap_R [(no, .inl (cy 2, 1, .inr (.inl g)))] Wc) (ap_C [(no, .inl (cy 2, 1, .inr (.inl g)))] Wc) (ap_nd [(no, .inl (cy 2, 1, .inr (.inl g)))] Wc) qI_ hqI rfl rfl rfl hl.1 rfl (Nat.le_of_ble_eq_true rfl) dL_letGoAt_9 (by decide) (fun E ce q9 W9 H locs hw hP hD hS hce hcv hcl => ?_) (fun r_ W2 H locs hw hP hD hS => ?_)
  · obtain ⟨hw, hcx, hI2⟩ := hw
    rcases hw with rfl | rfl
    · refine kCatch (name := "java/lang/IllegalArgumentException") hX hE hxt [⟨0, 14, 17, 19⟩] ⟨0, 14, 21, 13⟩ [] rfl (List.forall_mem_cons.mpr ⟨Or.inr ⟨by decide, "java/util/NoSuchElementException", htA _ wd_860, hE.2.2.2.2.2.1 ("java/lang/IllegalArgumentException", "java/util/NoSuchElementException") (by decide)⟩, (fun z hz => absurd hz List.not_mem_nil)⟩) (by decide) (by decide) wd_526 (by decide +kernel) hce hcv hcl ?_
      refine W.widen (k := 3) (n := 18) (by decide) (by decide) ?_
      refine lv_astore (lv' := [(6, .ref q9), (0, .ref nx), (1, .int c_), (2, .int l_), (3, .int w_), (4, .int k_), (5, .ref no)]) hx hb dL_letGoAt_21 hl (by decide) rfl (fun ls hl => ?_)
      refine lv_iconst (v := 2) hx hb dL_letGoAt_23 (by decide) ?_
      have hP : va_P D vwCl ((no, .inl (cy 2, 1, .inr (.inl g))) :: W9) H := hP
      have hD : va_D A ((no, .inl (cy 2, 1, .inr (.inl g))) :: W9) := hD
      exact rI hX hE hP hD hS dL_letGoAt_24 (by decide) (by decide) ⟨g, W9, S, (Or.inr ⟨rfl, Or.inl ⟨hcx, rfl⟩⟩), (tl20 rfl), hI2, rfl⟩
    · refine kCatch (name := "java/util/NoSuchElementException") hX hE hxt [] ⟨0, 14, 17, 19⟩ [⟨0, 14, 21, 13⟩] rfl (fun z hz => absurd hz List.not_mem_nil) (by decide) (by decide) wd_860 (by decide +kernel) hce hcv hcl ?_
      refine W.widen (k := 3) (n := 18) (by decide) (by decide) ?_
      refine lv_astore (lv' := [(6, .ref q9), (0, .ref nx), (1, .int c_), (2, .int l_), (3, .int w_), (4, .int k_), (5, .ref no)]) hx hb dL_letGoAt_17 hl (by decide) rfl (fun ls hl => ?_)
      refine lv_iconst (v := 1) hx hb dL_letGoAt_19 (by decide) ?_
      have hP : va_P D vwCl ((no, .inl (cy 2, 1, .inr (.inl g))) :: W9) H := hP
      have hD : va_D A ((no, .inl (cy 2, 1, .inr (.inl g))) :: W9) := hD
      exact rI hX hE hP hD hS dL_letGoAt_20 (by decide) (by decide) ⟨g, W9, S, (Or.inr ⟨rfl, Or.inr (Or.inl ⟨hcx, rfl⟩)⟩), (tl20 rfl), hI2, rfl⟩
  · refine W.widen (k := 3) (n := 18) (by decide) (by decide) ?_
    obtain ⟨Sn, hcs, hT2, hI2⟩ := hw
    refine lv_i2l hx hb dL_letGoAt_12 rfl ?_
    have hP : va_P D vwCl ((no, .inl (cy 2, 1, .inr (.inl g))) :: W2) H := hP
    have hD : va_D A ((no, .inl (cy 2, 1, .inr (.inl g))) :: W2) := hD
    refine va_last hx hb hK hP hD hS 0 2 rfl rfl (in_lit (by decide)) dL_letGoAt_13 (fun H locs hP hD hS => ?_)
    refine lv_goto (tgt := 25) hx hb dL_letGoAt_14 (by decide) ?_
    refine lv_iconst (v := 0) hx hb dL_letGoAt_25 (by decide) ?_
    have hP : va_P D vwCl ((no, .inl (cy 2, 1, .inr (.inl (vp_updL g (0 : Int32).toNatClampNeg r_.toInt64)))) :: W2) H := hP
    have hD : va_D A ((no, .inl (cy 2, 1, .inr (.inl (vp_updL g (0 : Int32).toNatClampNeg r_.toInt64)))) :: W2) := hD
    exact rI hX hE hP hD hS dL_letGoAt_26 (by decide) (by decide) ⟨(vp_updL g (0 : Int32).toNatClampNeg r_.toInt64), W2, Sn, (Or.inl ⟨rfl, _, hcs, up_L0 _ _ _⟩), hT2, hI2, rfl⟩
def HS_levels (S : CSt) (c_ : Int32) (w_ : Int32) (a_ : Int32) (h_ : Int32) (r : Int32) (o : Int64) (Sn : CSt) : Prop := (r = 0 ∧ ∃ q : Int32, CS_levels S c_ w_ a_ h_ q Sn ∧ o = q.toInt64) ∨ (Sn = S ∧ ((CX_levels S c_ w_ a_ h_ "java/lang/IllegalArgumentException" ∧ r = 2) ∨ (CX_levels S c_ w_ a_ h_ "java/util/NoSuchElementException" ∧ r = 1) ∨ False))
set_option maxHeartbeats 4000000 in
set_option maxRecDepth 100000 in
theorem H_levels (l : Launch) (hlt : l.stackTraces = false) (D : va_G) (cy : Nat → ClassId) (nx : Nat) (S : CSt) (Wc : va_W) (no : Nat) (g : Nat → Int64) (c_ : Int32) (w_ : Int32) (a_ : Int32) (h_ : Int32) (hI : IC cy nx S Wc) : Hi l yL_levels cL_levels 7 (some .int) [(0, 14, 17, 19), (0, 14, 21, 13)] { frames := 8, cells := 4, slots := 24, locals := 138 } D cy [.ref nx, .int c_, .int w_, .int a_, .int h_, .ref no] ((no, .inl (cy 2, 1, .inr (.inl g))) :: Wc) (fun r W1 => ∃ (g2 : Nat → Int64) (W2 : va_W) (Sn : CSt), HS_levels S c_ w_ a_ h_ r (g2 (0 : Int32).toNatClampNeg) Sn ∧ Sn.1.1.toInt ≤ S.1.1.toInt + 0 ∧ IC cy nx Sn W2 ∧ W1 = (no, .inl (cy 2, 1, .inr (.inl g2))) :: W2) := by
  refine Hi.of (by decide) (Nat.le_of_ble_eq_true rfl) ?_
  intro p e s m below meth c A ls hX hE hP hD hl hxt
  obtain ⟨hx, hb, hr, hml, hown, htA, hlk⟩ := id hX
  have hK := hE.1
  have hS : va_S A s.heap s.heap [] := va_S.rf
  have hl : lv_has ls 7 [(0, .ref nx), (1, .int c_), (2, .int w_), (3, .int a_), (4, .int h_), (5, .ref no)] := hl
  have hP : va_P D vwCl ([(no, .inl (cy 2, 1, .inr (.inl g)))] ++ Wc) s.heap := hP
  have hD : va_D A ([(no, .inl (cy 2, 1, .inr (.inl g)))] ++ Wc) := hD
  refine lv_aload hx hb dL_levels_0 (lv_at hl 5 rfl) ?_
  refine lv_iconst (v := 0) hx hb dL_levels_2 (by decide) ?_
  refine lv_aload_n hx hb dL_levels_3 rfl (lv_at hl 0 rfl) ?_
  refine lv_iload_n hx hb dL_levels_4 rfl (lv_at hl 1 rfl) ?_
  refine lv_iload_n hx hb dL_levels_5 rfl (lv_at hl 2 rfl) ?_
  refine lv_iload_n hx hb dL_levels_6 rfl (lv_at hl 3 rfl) ?_
  refine lv_iload hx hb dL_levels_7 (lv_at hl 4 rfl) ?_
  obtain ⟨qI_, fI_, hqI⟩ := IC_at hI
  refine xVi (As := [.int c_, .int w_, .int a_, .int h_]) (rest := [.int 0, .ref no]) (wr := [(no, .inl (cy 2, 1, .inr (.inl g)))]) hX hE (I_levels l hlt D cy nx S Wc c_ w_ a_ h_ hI) (cwVA 4 htA wd_1256 wd_1253 wd_1 wd_1254 wd_1255 (by decide +kernel) ⟨by decide, by decide⟩) hP hD hS (apR [(no, .inl (cy 2, 1, .inr (.inl g)))] Wc) (List.range ([(no, .inl (cy 2, 1, .inr (.inl g)))] : va_W).length) (ap_R [(no, .inl (cy 2, 1, .inr (.inl g)))] Wc) (ap_C [(no, .inl (cy 2, 1, .inr (.inl g)))] Wc) (ap_nd [(no, .inl (cy 2, 1, .inr (.inl g)))] Wc) qI_ hqI rfl rfl rfl hl.1 rfl (Nat.le_of_ble_eq_true rfl) dL_levels_9 (by decide) (fun E ce q9 W9 H locs hw hP hD hS hce hcv hcl => ?_) (fun r_ W2 H locs hw hP hD hS => ?_)
  · obtain ⟨hw, hcx, hI2⟩ := hw
    rcases hw with rfl | rfl
    · refine kCatch (name := "java/lang/IllegalArgumentException") hX hE hxt [⟨0, 14, 17, 19⟩] ⟨0, 14, 21, 13⟩ [] rfl (List.forall_mem_cons.mpr ⟨Or.inr ⟨by decide, "java/util/NoSuchElementException", htA _ wd_860, hE.2.2.2.2.2.1 ("java/lang/IllegalArgumentException", "java/util/NoSuchElementException") (by decide)⟩, (fun z hz => absurd hz List.not_mem_nil)⟩) (by decide) (by decide) wd_526 (by decide +kernel) hce hcv hcl ?_
      refine W.widen (k := 4) (n := 24) (by decide) (by decide) ?_
      refine lv_astore (lv' := [(6, .ref q9), (0, .ref nx), (1, .int c_), (2, .int w_), (3, .int a_), (4, .int h_), (5, .ref no)]) hx hb dL_levels_21 hl (by decide) rfl (fun ls hl => ?_)
      refine lv_iconst (v := 2) hx hb dL_levels_23 (by decide) ?_
      have hP : va_P D vwCl ((no, .inl (cy 2, 1, .inr (.inl g))) :: W9) H := hP
      have hD : va_D A ((no, .inl (cy 2, 1, .inr (.inl g))) :: W9) := hD
      exact rI hX hE hP hD hS dL_levels_24 (by decide) (by decide) ⟨g, W9, S, (Or.inr ⟨rfl, Or.inl ⟨hcx, rfl⟩⟩), (tl20 rfl), hI2, rfl⟩
    · refine kCatch (name := "java/util/NoSuchElementException") hX hE hxt [] ⟨0, 14, 17, 19⟩ [⟨0, 14, 21, 13⟩] rfl (fun z hz => absurd hz List.not_mem_nil) (by decide) (by decide) wd_860 (by decide +kernel) hce hcv hcl ?_
      refine W.widen (k := 4) (n := 24) (by decide) (by decide) ?_
      refine lv_astore (lv' := [(6, .ref q9), (0, .ref nx), (1, .int c_), (2, .int w_), (3, .int a_), (4, .int h_), (5, .ref no)]) hx hb dL_levels_17 hl (by decide) rfl (fun ls hl => ?_)
      refine lv_iconst (v := 1) hx hb dL_levels_19 (by decide) ?_
      have hP : va_P D vwCl ((no, .inl (cy 2, 1, .inr (.inl g))) :: W9) H := hP
      have hD : va_D A ((no, .inl (cy 2, 1, .inr (.inl g))) :: W9) := hD
      exact rI hX hE hP hD hS dL_levels_20 (by decide) (by decide) ⟨g, W9, S, (Or.inr ⟨rfl, Or.inr (Or.inl ⟨hcx, rfl⟩)⟩), (tl20 rfl), hI2, rfl⟩
  · refine W.widen (k := 4) (n := 24) (by decide) (by decide) ?_
    obtain ⟨Sn, hcs, hT2, hI2⟩ := hw
    refine lv_i2l hx hb dL_levels_12 rfl ?_
    have hP : va_P D vwCl ((no, .inl (cy 2, 1, .inr (.inl g))) :: W2) H := hP
    have hD : va_D A ((no, .inl (cy 2, 1, .inr (.inl g))) :: W2) := hD
    refine va_last hx hb hK hP hD hS 0 2 rfl rfl (in_lit (by decide)) dL_levels_13 (fun H locs hP hD hS => ?_)
    refine lv_goto (tgt := 25) hx hb dL_levels_14 (by decide) ?_
    refine lv_iconst (v := 0) hx hb dL_levels_25 (by decide) ?_
    have hP : va_P D vwCl ((no, .inl (cy 2, 1, .inr (.inl (vp_updL g (0 : Int32).toNatClampNeg r_.toInt64)))) :: W2) H := hP
    have hD : va_D A ((no, .inl (cy 2, 1, .inr (.inl (vp_updL g (0 : Int32).toNatClampNeg r_.toInt64)))) :: W2) := hD
    exact rI hX hE hP hD hS dL_levels_26 (by decide) (by decide) ⟨(vp_updL g (0 : Int32).toNatClampNeg r_.toInt64), W2, Sn, (Or.inl ⟨rfl, _, hcs, up_L0 _ _ _⟩), hT2, hI2, rfl⟩
def HS_tray (S : CSt) (y_ : Int32) (s_ : Int32) (m_ : Int32) (r : Int32) (Sn : CSt) : Prop := (r = 0 ∧ CS_tray S y_ s_ m_ Sn) ∨ (Sn = S ∧ ((CX_tray S y_ s_ m_ "java/util/NoSuchElementException" ∧ r = 1) ∨ (CX_tray S y_ s_ m_ "java/lang/IllegalArgumentException" ∧ r = 2) ∨ False))
set_option maxHeartbeats 4000000 in
set_option maxRecDepth 100000 in
theorem H_tray (l : Launch) (hlt : l.stackTraces = false) (D : va_G) (cy : Nat → ClassId) (nx : Nat) (S : CSt) (Wc : va_W) (y_ : Int32) (s_ : Int32) (m_ : Int32) (hI : IC cy nx S Wc) : Hi l yL_tray cL_tray 5 (some .int) [(0, 7, 10, 19), (0, 7, 14, 13)] { frames := 8, cells := 1, slots := 6, locals := 135 } D cy [.ref nx, .int y_, .int s_, .int m_] Wc (fun r W1 => ∃ Sn : CSt, HS_tray S y_ s_ m_ r Sn ∧ Sn.1.1.toInt ≤ S.1.1.toInt + 0 ∧ IC cy nx Sn W1) := by
  refine Hi.of (by decide) (Nat.le_of_ble_eq_true rfl) ?_
  intro p e s m below meth c A ls hX hE hP hD hl hxt
  obtain ⟨hx, hb, hr, hml, hown, htA, hlk⟩ := id hX
  have hK := hE.1
  have hS : va_S A s.heap s.heap [] := va_S.rf
  have hl : lv_has ls 5 [(0, .ref nx), (1, .int y_), (2, .int s_), (3, .int m_)] := hl
  have hP : va_P D vwCl ([] ++ Wc) s.heap := hP
  have hD : va_D A ([] ++ Wc) := hD
  refine lv_aload_n hx hb dL_tray_0 rfl (lv_at hl 0 rfl) ?_
  refine lv_iload_n hx hb dL_tray_1 rfl (lv_at hl 1 rfl) ?_
  refine lv_iload_n hx hb dL_tray_2 rfl (lv_at hl 2 rfl) ?_
  refine lv_iload_n hx hb dL_tray_3 rfl (lv_at hl 3 rfl) ?_
  obtain ⟨qI_, fI_, hqI⟩ := IC_at hI
  refine xVv (As := [.int y_, .int s_, .int m_]) (rest := []) (wr := []) hX hE (I_tray l hlt D cy nx S Wc y_ s_ m_ hI) (cwVA 3 htA wd_1263 wd_1260 wd_1 wd_1261 wd_1262 (by decide +kernel) ⟨by decide, by decide⟩) hP hD hS (apR [] Wc) (List.range ([] : va_W).length) (ap_R [] Wc) (ap_C [] Wc) (ap_nd [] Wc) qI_ hqI rfl rfl rfl hl.1 rfl (Nat.le_of_ble_eq_true rfl) dL_tray_4 (by decide) (fun E ce q9 W9 H locs hw hP hD hS hce hcv hcl => ?_) (fun W2 H locs hw hP hD hS => ?_)
  · obtain ⟨hw, hcx, hI2⟩ := hw
    rcases hw with rfl | rfl
    · refine kCatch (name := "java/util/NoSuchElementException") hX hE hxt [] ⟨0, 7, 10, 19⟩ [⟨0, 7, 14, 13⟩] rfl (fun z hz => absurd hz List.not_mem_nil) (by decide) (by decide) wd_860 (by decide +kernel) hce hcv hcl ?_
      refine W.widen (k := 1) (n := 6) (by decide) (by decide) ?_
      refine lv_astore (lv' := [(4, .ref q9), (0, .ref nx), (1, .int y_), (2, .int s_), (3, .int m_)]) hx hb dL_tray_10 hl (by decide) rfl (fun ls hl => ?_)
      refine lv_iconst (v := 1) hx hb dL_tray_12 (by decide) ?_
      have hP : va_P D vwCl W9 H := hP
      have hD : va_D A W9 := hD
      exact rI hX hE hP hD hS dL_tray_13 (by decide) (by decide) ⟨S, (Or.inr ⟨rfl, Or.inl ⟨hcx, rfl⟩⟩), (tl20 rfl), hI2⟩
    · refine kCatch (name := "java/lang/IllegalArgumentException") hX hE hxt [⟨0, 7, 10, 19⟩] ⟨0, 7, 14, 13⟩ [] rfl (List.forall_mem_cons.mpr ⟨Or.inr ⟨by decide, "java/util/NoSuchElementException", htA _ wd_860, hE.2.2.2.2.2.1 ("java/lang/IllegalArgumentException", "java/util/NoSuchElementException") (by decide)⟩, (fun z hz => absurd hz List.not_mem_nil)⟩) (by decide) (by decide) wd_526 (by decide +kernel) hce hcv hcl ?_
      refine W.widen (k := 1) (n := 6) (by decide) (by decide) ?_
      refine lv_astore (lv' := [(4, .ref q9), (0, .ref nx), (1, .int y_), (2, .int s_), (3, .int m_)]) hx hb dL_tray_14 hl (by decide) rfl (fun ls hl => ?_)
      refine lv_iconst (v := 2) hx hb dL_tray_16 (by decide) ?_
      have hP : va_P D vwCl W9 H := hP
      have hD : va_D A W9 := hD
      exact rI hX hE hP hD hS dL_tray_17 (by decide) (by decide) ⟨S, (Or.inr ⟨rfl, Or.inr (Or.inl ⟨hcx, rfl⟩)⟩), (tl20 rfl), hI2⟩
  · refine W.widen (k := 1) (n := 6) (by decide) (by decide) ?_
    obtain ⟨Sn, hcs, hT2, hI2⟩ := hw
    refine lv_goto (tgt := 18) hx hb dL_tray_7 (by decide) ?_
    refine lv_iconst (v := 0) hx hb dL_tray_18 (by decide) ?_
    have hP : va_P D vwCl W2 H := hP
    have hD : va_D A W2 := hD
    exact rI hX hE hP hD hS dL_tray_19 (by decide) (by decide) ⟨Sn, (Or.inl ⟨rfl, hcs⟩), hT2, hI2⟩
def HS_write (S : CSt) (y_ : Int32) (p_ : Int32) (v_ : Int64) (r : Int32) (o : Int64) (Sn : CSt) : Prop := (r = 0 ∧ ∃ q : Int64, CS_write S y_ p_ v_ q Sn ∧ o = q) ∨ (Sn = S ∧ ((CX_write S y_ p_ v_ "java/util/NoSuchElementException" ∧ r = 1) ∨ (CX_write S y_ p_ v_ "java/lang/IllegalStateException" ∧ r = 2) ∨ (CX_write S y_ p_ v_ "java/lang/IndexOutOfBoundsException" ∧ r = 3) ∨ False))
set_option maxHeartbeats 4000000 in
set_option maxRecDepth 100000 in
theorem H_write (l : Launch) (hlt : l.stackTraces = false) (D : va_G) (cy : Nat → ClassId) (nx : Nat) (S : CSt) (Wc : va_W) (no : Nat) (g : Nat → Int64) (y_ : Int32) (p_ : Int32) (v_ : Int64) (hI : IC cy nx S Wc) : Hi l yL_write cL_write 7 (some .int) [(0, 11, 14, 19), (0, 11, 18, 43), (0, 11, 22, 129)] { frames := 9, cells := 2, slots := 12, locals := 158 } D cy [.ref nx, .int y_, .int p_, .long v_, .ref no] ((no, .inl (cy 2, 1, .inr (.inl g))) :: Wc) (fun r W1 => ∃ (g2 : Nat → Int64) (W2 : va_W) (Sn : CSt), HS_write S y_ p_ v_ r (g2 (0 : Int32).toNatClampNeg) Sn ∧ Sn.1.1.toInt ≤ S.1.1.toInt + 0 ∧ IC cy nx Sn W2 ∧ W1 = (no, .inl (cy 2, 1, .inr (.inl g2))) :: W2) := by
  refine Hi.of (by decide) (Nat.le_of_ble_eq_true rfl) ?_
  intro p e s m below meth c A ls hX hE hP hD hl hxt
  obtain ⟨hx, hb, hr, hml, hown, htA, hlk⟩ := id hX
  have hK := hE.1
  have hS : va_S A s.heap s.heap [] := va_S.rf
  have hl : lv_has ls 7 [(0, .ref nx), (1, .int y_), (2, .int p_), (3, .long v_), (5, .ref no)] := hl
  have hP : va_P D vwCl ([(no, .inl (cy 2, 1, .inr (.inl g)))] ++ Wc) s.heap := hP
  have hD : va_D A ([(no, .inl (cy 2, 1, .inr (.inl g)))] ++ Wc) := hD
  refine lv_aload hx hb dL_write_0 (lv_at hl 4 rfl) ?_
  refine lv_iconst (v := 0) hx hb dL_write_2 (by decide) ?_
  refine lv_aload_n hx hb dL_write_3 rfl (lv_at hl 0 rfl) ?_
  refine lv_iload_n hx hb dL_write_4 rfl (lv_at hl 1 rfl) ?_
  refine lv_iload_n hx hb dL_write_5 rfl (lv_at hl 2 rfl) ?_
  refine lv_lload_n hx hb dL_write_6 rfl (lv_at hl 3 rfl) ?_
  obtain ⟨qI_, fI_, hqI⟩ := IC_at hI
  refine xVl (As := [.int y_, .int p_, .long v_]) (rest := [.int 0, .ref no]) (wr := [(no, .inl (cy 2, 1, .inr (.inl g)))]) hX hE (I_write l hlt D cy nx S Wc y_ p_ v_ hI) (cwVA 3 htA wd_1276 wd_1273 wd_1 wd_1274 wd_1275 (by decide +kernel) ⟨by decide, by decide⟩) hP hD hS (apR [(no, .inl (cy 2, 1, .inr (.inl g)))] Wc) (List.range ([(no, .inl (cy 2, 1, .inr (.inl g)))] : va_W).length) (ap_R [(no, .inl (cy 2, 1, .inr (.inl g)))] Wc) (ap_C [(no, .inl (cy 2, 1, .inr (.inl g)))] Wc) (ap_nd [(no, .inl (cy 2, 1, .inr (.inl g)))] Wc) qI_ hqI rfl rfl rfl hl.1 rfl (Nat.le_of_ble_eq_true rfl) dL_write_7 (by decide) (fun E ce q9 W9 H locs hw hP hD hS hce hcv hcl => ?_) (fun r_ W2 H locs hw hP hD hS => ?_)
  · obtain ⟨hw, hcx, hI2⟩ := hw
    rcases hw with rfl | rfl | rfl
    · refine kCatch (name := "java/util/NoSuchElementException") hX hE hxt [] ⟨0, 11, 14, 19⟩ [⟨0, 11, 18, 43⟩, ⟨0, 11, 22, 129⟩] rfl (fun z hz => absurd hz List.not_mem_nil) (by decide) (by decide) wd_860 (by decide +kernel) hce hcv hcl ?_
      refine W.widen (k := 2) (n := 12) (by decide) (by decide) ?_
      refine lv_astore (lv' := [(6, .ref q9), (0, .ref nx), (1, .int y_), (2, .int p_), (3, .long v_), (5, .ref no)]) hx hb dL_write_14 hl (by decide) rfl (fun ls hl => ?_)
      refine lv_iconst (v := 1) hx hb dL_write_16 (by decide) ?_
      have hP : va_P D vwCl ((no, .inl (cy 2, 1, .inr (.inl g))) :: W9) H := hP
      have hD : va_D A ((no, .inl (cy 2, 1, .inr (.inl g))) :: W9) := hD
      exact rI hX hE hP hD hS dL_write_17 (by decide) (by decide) ⟨g, W9, S, (Or.inr ⟨rfl, Or.inl ⟨hcx, rfl⟩⟩), (tl20 rfl), hI2, rfl⟩
    · refine kCatch (name := "java/lang/IllegalStateException") hX hE hxt [⟨0, 11, 14, 19⟩] ⟨0, 11, 18, 43⟩ [⟨0, 11, 22, 129⟩] rfl (List.forall_mem_cons.mpr ⟨Or.inr ⟨by decide, "java/util/NoSuchElementException", htA _ wd_860, hE.2.2.2.2.2.1 ("java/lang/IllegalStateException", "java/util/NoSuchElementException") (by decide)⟩, (fun z hz => absurd hz List.not_mem_nil)⟩) (by decide) (by decide) wd_965 (by decide +kernel) hce hcv hcl ?_
      refine W.widen (k := 2) (n := 12) (by decide) (by decide) ?_
      refine lv_astore (lv' := [(6, .ref q9), (0, .ref nx), (1, .int y_), (2, .int p_), (3, .long v_), (5, .ref no)]) hx hb dL_write_18 hl (by decide) rfl (fun ls hl => ?_)
      refine lv_iconst (v := 2) hx hb dL_write_20 (by decide) ?_
      have hP : va_P D vwCl ((no, .inl (cy 2, 1, .inr (.inl g))) :: W9) H := hP
      have hD : va_D A ((no, .inl (cy 2, 1, .inr (.inl g))) :: W9) := hD
      exact rI hX hE hP hD hS dL_write_21 (by decide) (by decide) ⟨g, W9, S, (Or.inr ⟨rfl, Or.inr (Or.inl ⟨hcx, rfl⟩)⟩), (tl20 rfl), hI2, rfl⟩
    · refine kCatch (name := "java/lang/IndexOutOfBoundsException") hX hE hxt [⟨0, 11, 14, 19⟩, ⟨0, 11, 18, 43⟩] ⟨0, 11, 22, 129⟩ [] rfl (List.forall_mem_cons.mpr ⟨Or.inr ⟨by decide, "java/util/NoSuchElementException", htA _ wd_860, hE.2.2.2.2.2.1 ("java/lang/IndexOutOfBoundsException", "java/util/NoSuchElementException") (by decide)⟩, (List.forall_mem_cons.mpr ⟨Or.inr ⟨by decide, "java/lang/IllegalStateException", htA _ wd_965, hE.2.2.2.2.2.1 ("java/lang/IndexOutOfBoundsException", "java/lang/IllegalStateException") (by decide)⟩, (fun z hz => absurd hz List.not_mem_nil)⟩)⟩) (by decide) (by decide) wd_1272 (by decide +kernel) hce hcv hcl ?_
      refine W.widen (k := 2) (n := 12) (by decide) (by decide) ?_
      refine lv_astore (lv' := [(6, .ref q9), (0, .ref nx), (1, .int y_), (2, .int p_), (3, .long v_), (5, .ref no)]) hx hb dL_write_22 hl (by decide) rfl (fun ls hl => ?_)
      refine lv_iconst (v := 3) hx hb dL_write_24 (by decide) ?_
      have hP : va_P D vwCl ((no, .inl (cy 2, 1, .inr (.inl g))) :: W9) H := hP
      have hD : va_D A ((no, .inl (cy 2, 1, .inr (.inl g))) :: W9) := hD
      exact rI hX hE hP hD hS dL_write_25 (by decide) (by decide) ⟨g, W9, S, (Or.inr ⟨rfl, Or.inr (Or.inr (Or.inl ⟨hcx, rfl⟩))⟩), (tl20 rfl), hI2, rfl⟩
  · refine W.widen (k := 2) (n := 12) (by decide) (by decide) ?_
    obtain ⟨Sn, hcs, hT2, hI2⟩ := hw
    have hP : va_P D vwCl ((no, .inl (cy 2, 1, .inr (.inl g))) :: W2) H := hP
    have hD : va_D A ((no, .inl (cy 2, 1, .inr (.inl g))) :: W2) := hD
    refine va_last hx hb hK hP hD hS 0 2 rfl rfl (in_lit (by decide)) dL_write_10 (fun H locs hP hD hS => ?_)
    refine lv_goto (tgt := 26) hx hb dL_write_11 (by decide) ?_
    refine lv_iconst (v := 0) hx hb dL_write_26 (by decide) ?_
    have hP : va_P D vwCl ((no, .inl (cy 2, 1, .inr (.inl (vp_updL g (0 : Int32).toNatClampNeg r_)))) :: W2) H := hP
    have hD : va_D A ((no, .inl (cy 2, 1, .inr (.inl (vp_updL g (0 : Int32).toNatClampNeg r_)))) :: W2) := hD
    exact rI hX hE hP hD hS dL_write_27 (by decide) (by decide) ⟨(vp_updL g (0 : Int32).toNatClampNeg r_), W2, Sn, (Or.inl ⟨rfl, _, hcs, up_L0 _ _ _⟩), hT2, hI2, rfl⟩
def HS_copy (S : CSt) (y_ : Int32) (r : Int32) (o : Int64) (Sn : CSt) : Prop := (r = 0 ∧ ∃ q : Int32, CS_copy S y_ q Sn ∧ o = q.toInt64) ∨ (Sn = S ∧ ((CX_copy S y_ "java/util/NoSuchElementException" ∧ r = 1) ∨ (CX_copy S y_ "java/lang/IllegalStateException" ∧ r = 2) ∨ False))
set_option maxHeartbeats 4000000 in
set_option maxRecDepth 100000 in
theorem H_copy (l : Launch) (hlt : l.stackTraces = false) (D : va_G) (cy : Nat → ClassId) (nx : Nat) (S : CSt) (Wc : va_W) (no : Nat) (g : Nat → Int64) (y_ : Int32) (hI : IC cy nx S Wc) : Hi l yL_copy cL_copy 4 (some .int) [(0, 9, 12, 19), (0, 9, 15, 43)] { frames := 9, cells := 1, slots := 6, locals := 201 } D cy [.ref nx, .int y_, .ref no] ((no, .inl (cy 2, 1, .inr (.inl g))) :: Wc) (fun r W1 => ∃ (g2 : Nat → Int64) (W2 : va_W) (Sn : CSt), HS_copy S y_ r (g2 (0 : Int32).toNatClampNeg) Sn ∧ Sn.1.1.toInt ≤ S.1.1.toInt + 0 ∧ IC cy nx Sn W2 ∧ W1 = (no, .inl (cy 2, 1, .inr (.inl g2))) :: W2) := by
  refine Hi.of (by decide) (Nat.le_of_ble_eq_true rfl) ?_
  intro p e s m below meth c A ls hX hE hP hD hl hxt
  obtain ⟨hx, hb, hr, hml, hown, htA, hlk⟩ := id hX
  have hK := hE.1
  have hS : va_S A s.heap s.heap [] := va_S.rf
  have hl : lv_has ls 4 [(0, .ref nx), (1, .int y_), (2, .ref no)] := hl
  have hP : va_P D vwCl ([(no, .inl (cy 2, 1, .inr (.inl g)))] ++ Wc) s.heap := hP
  have hD : va_D A ([(no, .inl (cy 2, 1, .inr (.inl g)))] ++ Wc) := hD
  refine lv_aload_n hx hb dL_copy_0 rfl (lv_at hl 2 rfl) ?_
  refine lv_iconst (v := 0) hx hb dL_copy_1 (by decide) ?_
  refine lv_aload_n hx hb dL_copy_2 rfl (lv_at hl 0 rfl) ?_
  refine lv_iload_n hx hb dL_copy_3 rfl (lv_at hl 1 rfl) ?_
  obtain ⟨qI_, fI_, hqI⟩ := IC_at hI
  refine xVi (As := [.int y_]) (rest := [.int 0, .ref no]) (wr := [(no, .inl (cy 2, 1, .inr (.inl g)))]) hX hE (I_copy l hlt D cy nx S Wc y_ hI) (cwVA 1 htA wd_1306 wd_1303 wd_1 wd_1304 wd_1305 (by decide +kernel) ⟨by decide, by decide⟩) hP hD hS (apR [(no, .inl (cy 2, 1, .inr (.inl g)))] Wc) (List.range ([(no, .inl (cy 2, 1, .inr (.inl g)))] : va_W).length) (ap_R [(no, .inl (cy 2, 1, .inr (.inl g)))] Wc) (ap_C [(no, .inl (cy 2, 1, .inr (.inl g)))] Wc) (ap_nd [(no, .inl (cy 2, 1, .inr (.inl g)))] Wc) qI_ hqI rfl rfl rfl hl.1 rfl (Nat.le_of_ble_eq_true rfl) dL_copy_4 (by decide) (fun E ce q9 W9 H locs hw hP hD hS hce hcv hcl => ?_) (fun r_ W2 H locs hw hP hD hS => ?_)
  · obtain ⟨hw, hcx, hI2⟩ := hw
    rcases hw with rfl | rfl
    · refine kCatch (name := "java/util/NoSuchElementException") hX hE hxt [] ⟨0, 9, 12, 19⟩ [⟨0, 9, 15, 43⟩] rfl (fun z hz => absurd hz List.not_mem_nil) (by decide) (by decide) wd_860 (by decide +kernel) hce hcv hcl ?_
      refine W.widen (k := 1) (n := 6) (by decide) (by decide) ?_
      refine lv_astore_n (lv' := [(3, .ref q9), (0, .ref nx), (1, .int y_), (2, .ref no)]) hx hb dL_copy_12 rfl hl (by decide) rfl (fun ls hl => ?_)
      refine lv_iconst (v := 1) hx hb dL_copy_13 (by decide) ?_
      have hP : va_P D vwCl ((no, .inl (cy 2, 1, .inr (.inl g))) :: W9) H := hP
      have hD : va_D A ((no, .inl (cy 2, 1, .inr (.inl g))) :: W9) := hD
      exact rI hX hE hP hD hS dL_copy_14 (by decide) (by decide) ⟨g, W9, S, (Or.inr ⟨rfl, Or.inl ⟨hcx, rfl⟩⟩), (tl20 rfl), hI2, rfl⟩
    · refine kCatch (name := "java/lang/IllegalStateException") hX hE hxt [⟨0, 9, 12, 19⟩] ⟨0, 9, 15, 43⟩ [] rfl (List.forall_mem_cons.mpr ⟨Or.inr ⟨by decide, "java/util/NoSuchElementException", htA _ wd_860, hE.2.2.2.2.2.1 ("java/lang/IllegalStateException", "java/util/NoSuchElementException") (by decide)⟩, (fun z hz => absurd hz List.not_mem_nil)⟩) (by decide) (by decide) wd_965 (by decide +kernel) hce hcv hcl ?_
      refine W.widen (k := 1) (n := 6) (by decide) (by decide) ?_
      refine lv_astore_n (lv' := [(3, .ref q9), (0, .ref nx), (1, .int y_), (2, .ref no)]) hx hb dL_copy_15 rfl hl (by decide) rfl (fun ls hl => ?_)
      refine lv_iconst (v := 2) hx hb dL_copy_16 (by decide) ?_
      have hP : va_P D vwCl ((no, .inl (cy 2, 1, .inr (.inl g))) :: W9) H := hP
      have hD : va_D A ((no, .inl (cy 2, 1, .inr (.inl g))) :: W9) := hD
      exact rI hX hE hP hD hS dL_copy_17 (by decide) (by decide) ⟨g, W9, S, (Or.inr ⟨rfl, Or.inr (Or.inl ⟨hcx, rfl⟩)⟩), (tl20 rfl), hI2, rfl⟩
  · refine W.widen (k := 1) (n := 6) (by decide) (by decide) ?_
    obtain ⟨Sn, hcs, hT2, hI2⟩ := hw
    refine lv_i2l hx hb dL_copy_7 rfl ?_
    have hP : va_P D vwCl ((no, .inl (cy 2, 1, .inr (.inl g))) :: W2) H := hP
    have hD : va_D A ((no, .inl (cy 2, 1, .inr (.inl g))) :: W2) := hD
    refine va_last hx hb hK hP hD hS 0 2 rfl rfl (in_lit (by decide)) dL_copy_8 (fun H locs hP hD hS => ?_)
    refine lv_goto (tgt := 18) hx hb dL_copy_9 (by decide) ?_
    refine lv_iconst (v := 0) hx hb dL_copy_18 (by decide) ?_
    have hP : va_P D vwCl ((no, .inl (cy 2, 1, .inr (.inl (vp_updL g (0 : Int32).toNatClampNeg r_.toInt64)))) :: W2) H := hP
    have hD : va_D A ((no, .inl (cy 2, 1, .inr (.inl (vp_updL g (0 : Int32).toNatClampNeg r_.toInt64)))) :: W2) := hD
    exact rI hX hE hP hD hS dL_copy_19 (by decide) (by decide) ⟨(vp_updL g (0 : Int32).toNatClampNeg r_.toInt64), W2, Sn, (Or.inl ⟨rfl, _, hcs, up_L0 _ _ _⟩), hT2, hI2, rfl⟩
def HS_image (S : CSt) (i_ : Int32) (r : Int32) (Sn : CSt) : Prop := (r = 0 ∧ CS_image S i_ Sn) ∨ (Sn = S ∧ ((CX_image S i_ "java/util/NoSuchElementException" ∧ r = 1) ∨ False))
set_option maxHeartbeats 4000000 in
set_option maxRecDepth 100000 in
theorem H_image (l : Launch) (hlt : l.stackTraces = false) (D : va_G) (cy : Nat → ClassId) (nx : Nat) (S : CSt) (Wc : va_W) (i_ : Int32) (hI : IC cy nx S Wc) : Hi l yL_image cL_image 3 (some .int) [(0, 5, 8, 19)] { frames := 8, cells := 70, slots := 505, locals := 131 } D cy [.ref nx, .int i_] Wc (fun r W1 => ∃ Sn : CSt, HS_image S i_ r Sn ∧ Sn.1.1.toInt ≤ S.1.1.toInt + 0 ∧ IC cy nx Sn W1) := by
  refine Hi.of (by decide) (Nat.le_of_ble_eq_true rfl) ?_
  intro p e s m below meth c A ls hX hE hP hD hl hxt
  obtain ⟨hx, hb, hr, hml, hown, htA, hlk⟩ := id hX
  have hK := hE.1
  have hS : va_S A s.heap s.heap [] := va_S.rf
  have hl : lv_has ls 3 [(0, .ref nx), (1, .int i_)] := hl
  have hP : va_P D vwCl ([] ++ Wc) s.heap := hP
  have hD : va_D A ([] ++ Wc) := hD
  refine lv_aload_n hx hb dL_image_0 rfl (lv_at hl 0 rfl) ?_
  refine lv_iload_n hx hb dL_image_1 rfl (lv_at hl 1 rfl) ?_
  obtain ⟨qI_, fI_, hqI⟩ := IC_at hI
  refine xVv (As := [.int i_]) (rest := []) (wr := []) hX hE (I_image l hlt D cy nx S Wc i_ hI) (cwVA 1 htA wd_1313 wd_1310 wd_1 wd_1311 wd_1312 (by decide +kernel) ⟨by decide, by decide⟩) hP hD hS (apR [] Wc) (List.range ([] : va_W).length) (ap_R [] Wc) (ap_C [] Wc) (ap_nd [] Wc) qI_ hqI rfl rfl rfl hl.1 rfl (Nat.le_of_ble_eq_true rfl) dL_image_2 (by decide) (fun E ce q9 W9 H locs hw hP hD hS hce hcv hcl => ?_) (fun W2 H locs hw hP hD hS => ?_)
  · obtain ⟨hw, hcx, hI2⟩ := hw
    rcases hw with rfl
    refine kCatch (name := "java/util/NoSuchElementException") hX hE hxt [] ⟨0, 5, 8, 19⟩ [] rfl (fun z hz => absurd hz List.not_mem_nil) (by decide) (by decide) wd_860 (by decide +kernel) hce hcv hcl ?_
    refine W.widen (k := 70) (n := 505) (by decide) (by decide) ?_
    refine lv_astore_n (lv' := [(2, .ref q9), (0, .ref nx), (1, .int i_)]) hx hb dL_image_8 rfl hl (by decide) rfl (fun ls hl => ?_)
    refine lv_iconst (v := 1) hx hb dL_image_9 (by decide) ?_
    have hP : va_P D vwCl W9 H := hP
    have hD : va_D A W9 := hD
    exact rI hX hE hP hD hS dL_image_10 (by decide) (by decide) ⟨S, (Or.inr ⟨rfl, Or.inl ⟨hcx, rfl⟩⟩), (tl20 rfl), hI2⟩
  · refine W.widen (k := 70) (n := 505) (by decide) (by decide) ?_
    obtain ⟨Sn, hcs, hT2, hI2⟩ := hw
    refine lv_goto (tgt := 11) hx hb dL_image_5 (by decide) ?_
    refine lv_iconst (v := 0) hx hb dL_image_11 (by decide) ?_
    have hP : va_P D vwCl W2 H := hP
    have hD : va_D A W2 := hD
    exact rI hX hE hP hD hS dL_image_12 (by decide) (by decide) ⟨Sn, (Or.inl ⟨rfl, hcs⟩), hT2, hI2⟩
def HS_restore (S : CSt) (i_ : Int32) (r : Int32) (Sn : CSt) : Prop := (r = 0 ∧ CS_restore S i_ Sn) ∨ (Sn = S ∧ ((CX_restore S i_ "java/util/NoSuchElementException" ∧ r = 1) ∨ (CX_restore S i_ "java/lang/IllegalStateException" ∧ r = 2) ∨ False))
set_option maxHeartbeats 4000000 in
set_option maxRecDepth 100000 in
theorem H_restore (l : Launch) (hlt : l.stackTraces = false) (D : va_G) (cy : Nat → ClassId) (nx : Nat) (S : CSt) (Wc : va_W) (i_ : Int32) (hI : IC cy nx S Wc) : Hi l yL_restore cL_restore 3 (some .int) [(0, 5, 8, 19), (0, 5, 11, 43)] { frames := 8, cells := 2, slots := 12, locals := 132 } D cy [.ref nx, .int i_] Wc (fun r W1 => ∃ Sn : CSt, HS_restore S i_ r Sn ∧ Sn.1.1.toInt ≤ S.1.1.toInt + 0 ∧ IC cy nx Sn W1) := by
  refine Hi.of (by decide) (Nat.le_of_ble_eq_true rfl) ?_
  intro p e s m below meth c A ls hX hE hP hD hl hxt
  obtain ⟨hx, hb, hr, hml, hown, htA, hlk⟩ := id hX
  have hK := hE.1
  have hS : va_S A s.heap s.heap [] := va_S.rf
  have hl : lv_has ls 3 [(0, .ref nx), (1, .int i_)] := hl
  have hP : va_P D vwCl ([] ++ Wc) s.heap := hP
  have hD : va_D A ([] ++ Wc) := hD
  refine lv_aload_n hx hb dL_restore_0 rfl (lv_at hl 0 rfl) ?_
  refine lv_iload_n hx hb dL_restore_1 rfl (lv_at hl 1 rfl) ?_
  obtain ⟨qI_, fI_, hqI⟩ := IC_at hI
  refine xVv (As := [.int i_]) (rest := []) (wr := []) hX hE (I_restore l hlt D cy nx S Wc i_ hI) (cwVA 1 htA wd_1346 wd_1343 wd_1 wd_1344 wd_1345 (by decide +kernel) ⟨by decide, by decide⟩) hP hD hS (apR [] Wc) (List.range ([] : va_W).length) (ap_R [] Wc) (ap_C [] Wc) (ap_nd [] Wc) qI_ hqI rfl rfl rfl hl.1 rfl (Nat.le_of_ble_eq_true rfl) dL_restore_2 (by decide) (fun E ce q9 W9 H locs hw hP hD hS hce hcv hcl => ?_) (fun W2 H locs hw hP hD hS => ?_)
  · obtain ⟨hw, hcx, hI2⟩ := hw
    rcases hw with rfl | rfl
    · refine kCatch (name := "java/util/NoSuchElementException") hX hE hxt [] ⟨0, 5, 8, 19⟩ [⟨0, 5, 11, 43⟩] rfl (fun z hz => absurd hz List.not_mem_nil) (by decide) (by decide) wd_860 (by decide +kernel) hce hcv hcl ?_
      refine W.widen (k := 2) (n := 12) (by decide) (by decide) ?_
      refine lv_astore_n (lv' := [(2, .ref q9), (0, .ref nx), (1, .int i_)]) hx hb dL_restore_8 rfl hl (by decide) rfl (fun ls hl => ?_)
      refine lv_iconst (v := 1) hx hb dL_restore_9 (by decide) ?_
      have hP : va_P D vwCl W9 H := hP
      have hD : va_D A W9 := hD
      exact rI hX hE hP hD hS dL_restore_10 (by decide) (by decide) ⟨S, (Or.inr ⟨rfl, Or.inl ⟨hcx, rfl⟩⟩), (tl20 rfl), hI2⟩
    · refine kCatch (name := "java/lang/IllegalStateException") hX hE hxt [⟨0, 5, 8, 19⟩] ⟨0, 5, 11, 43⟩ [] rfl (List.forall_mem_cons.mpr ⟨Or.inr ⟨by decide, "java/util/NoSuchElementException", htA _ wd_860, hE.2.2.2.2.2.1 ("java/lang/IllegalStateException", "java/util/NoSuchElementException") (by decide)⟩, (fun z hz => absurd hz List.not_mem_nil)⟩) (by decide) (by decide) wd_965 (by decide +kernel) hce hcv hcl ?_
      refine W.widen (k := 2) (n := 12) (by decide) (by decide) ?_
      refine lv_astore_n (lv' := [(2, .ref q9), (0, .ref nx), (1, .int i_)]) hx hb dL_restore_11 rfl hl (by decide) rfl (fun ls hl => ?_)
      refine lv_iconst (v := 2) hx hb dL_restore_12 (by decide) ?_
      have hP : va_P D vwCl W9 H := hP
      have hD : va_D A W9 := hD
      exact rI hX hE hP hD hS dL_restore_13 (by decide) (by decide) ⟨S, (Or.inr ⟨rfl, Or.inr (Or.inl ⟨hcx, rfl⟩)⟩), (tl20 rfl), hI2⟩
  · refine W.widen (k := 2) (n := 12) (by decide) (by decide) ?_
    obtain ⟨Sn, hcs, hT2, hI2⟩ := hw
    refine lv_goto (tgt := 14) hx hb dL_restore_5 (by decide) ?_
    refine lv_iconst (v := 0) hx hb dL_restore_14 (by decide) ?_
    have hP : va_P D vwCl W2 H := hP
    have hD : va_D A W2 := hD
    exact rI hX hE hP hD hS dL_restore_15 (by decide) (by decide) ⟨Sn, (Or.inl ⟨rfl, hcs⟩), hT2, hI2⟩
