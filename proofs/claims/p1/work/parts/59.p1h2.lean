set_option maxHeartbeats 4000000 in
set_option maxRecDepth 100000 in
theorem h_district (l : Launch) (hlt : l.stackTraces = false) (D : va_G) (cy : Nat → ClassId) (a : Nat → Nat) (p1 : Int32) : Hi l yL_district cL_district 4 (some .int) [(0, 9, 12, 13)] { frames := 7, cells := 4, slots := 54, locals := 126 } D cy [.ref (a 0), .int p1, .ref (a 300)] [((a 0), .inr (10, [.ref (a 1), .int 0, .int 0, .int (-1), .ref (a 2), .ref (a 3), .ref (a 4), .ref (a 5), .ref (a 6), .ref (a 7), .ref (a 8), .ref (a 9), .int 0])), ((a 1), .inl (cy 1, 900, .inl (fun _ => 0))), ((a 2), .inr (5, [.ref (a 30), .int 0, .int 0, .ref (a 10), .ref (a 36), .ref (a 39), .int 0, .int 0])), ((a 30), .inr (6, [.ref (a 10), .int 0, .ref (a 31), .ref (a 32), .ref (a 33), .ref (a 34), .ref (a 35), .int 0])), ((a 31), .inl (cy 0, 8, .inl (fun _ => 0))), ((a 32), .inl (cy 0, 8, .inl (fun _ => 0))), ((a 33), .inl (cy 0, 8, .inl (fun _ => 0))), ((a 34), .inl (cy 0, 8, .inl (fun _ => 0))), ((a 35), .inl (cy 0, 4, .inl (fun _ => 0))), ((a 36), .inr (7, [.ref (a 37), .ref (a 38), .int 0, .int 0, .int 0, .int 0])), ((a 37), .inl (cy 0, 901, .inl (fun _ => 0))), ((a 38), .inl (cy 0, 901, .inl (fun _ => 0))), ((a 39), .inl (cy 0, 900, .inl (fun _ => 0))), ((a 3), .inr (6, [.ref (a 10), .int 0, .ref (a 21), .ref (a 22), .ref (a 23), .ref (a 24), .ref (a 25), .int 0])), ((a 21), .inl (cy 0, 8, .inl (fun _ => 0))), ((a 22), .inl (cy 0, 8, .inl (fun _ => 0))), ((a 23), .inl (cy 0, 8, .inl (fun _ => 0))), ((a 24), .inl (cy 0, 8, .inl (fun _ => 0))), ((a 25), .inl (cy 0, 4, .inl (fun _ => 0))), ((a 10), .inr (0, [.int 0, .int 1, .int 1, .int 0, .int 0, .ref (a 11), .ref (a 12), .ref (a 13), .null, .null])), ((a 4), .inr (2, [.ref (a 70), .int 0, .int 0])), ((a 70), .inl (cy 4, 10, .inr (.inr (.inr (.inr (va_up (va_up (va_up (va_up (va_up (va_up (va_up (va_up (va_up (va_up (fun _ => none) (0 : Int32).toNatClampNeg (some (a 100))) (1 : Int32).toNatClampNeg (some (a 110))) (2 : Int32).toNatClampNeg (some (a 120))) (3 : Int32).toNatClampNeg (some (a 130))) (4 : Int32).toNatClampNeg (some (a 140))) (5 : Int32).toNatClampNeg (some (a 150))) (6 : Int32).toNatClampNeg (some (a 160))) (7 : Int32).toNatClampNeg (some (a 170))) (8 : Int32).toNatClampNeg (some (a 180))) (9 : Int32).toNatClampNeg (some (a 190)))))))), ((a 300), .inl (cy 2, 1, .inr (.inl (fun _ => 0))))] (fun r W1 => r = kf_district p1 ∧ ∃ g : Nat → Int64, W1 = [((a 300), .inl (cy 2, 1, .inr (.inl g)))] ∧ (kf_district p1 = 0 → g 0 = vf_district p1)) := by
  refine Hi.of (by decide) (Nat.le_of_ble_eq_true rfl) ?_
  intro p e s m below meth c A ls hX hE hP hD hl hxt
  obtain ⟨hx, hb, hr, hml, hown, htA, hlk⟩ := id hX
  have hK := hE.1
  have hS : va_S A s.heap s.heap [] := va_S.rf
  have hl : lv_has ls 4 [(0, .ref (a 0)), (1, .int p1), (2, .ref (a 300))] := hl
  refine lv_aload_n hx hb dL_district_0 rfl (lv_at hl 2 rfl) ?_
  refine lv_iconst (v := 0) hx hb dL_district_1 (by decide) ?_
  refine lv_aload_n hx hb dL_district_2 rfl (lv_at hl 0 rfl) ?_
  refine lv_iload_n hx hb dL_district_3 rfl (lv_at hl 1 rfl) ?_
  refine xVi (As := [.int p1]) (rest := [.int 0, .ref (a 300)]) (wr := [((a 300), .inl (cy 2, 1, .inr (.inl (fun _ => 0))))]) hX hE (m_district l hlt D cy a p1) (cwVA 1 htA wd_530 wd_527 wd_1 wd_528 wd_529 (by decide +kernel) ⟨by decide, by decide⟩) hP hD hS [0, 1, 2, 3, 4, 5, 6, 7, 8, 9, 10, 11, 12, 13, 14, 15, 16, 17, 18, 19, 20, 21] [22] rfl rfl (by decide) 0 rfl rfl rfl rfl hl.1 rfl (Nat.le_of_ble_eq_true rfl) dL_district_4 (by decide) (fun E ce q9 W1 H locs hw hP hD hS hce hcv hcl => ?_) (fun r_ W1 H locs hw hP hD hS => ?_)
  · rcases hw with ⟨rfl, g1⟩
    refine kCatch (name := "java/lang/IllegalArgumentException") hX hE hxt [] ⟨0, 9, 12, 13⟩ [] rfl (fun z hz => absurd hz List.not_mem_nil) (by decide) (by decide) wd_526 (by decide +kernel) hce hcv hcl ?_
    refine W.widen (k := 4) (n := 54) (by decide) (by decide) ?_
    have hP : va_P D vwCl [((a 300), .inl (cy 2, 1, .inr (.inl (fun _ => 0))))] H := hP.sub [0] rfl
    have hD : va_D A [((a 300), .inl (cy 2, 1, .inr (.inl (fun _ => 0))))] := hD.sub [0] (by rfl) rfl
    refine lv_astore_n (lv' := [(3, .ref q9), (0, .ref (a 0)), (1, .int p1), (2, .ref (a 300))]) hx hb dL_district_12 rfl hl (by decide) rfl (fun ls hl => ?_)
    refine lv_iconst (v := 1) hx hb dL_district_13 (by decide) ?_
    exact rI hX hE (hP.sub [0] rfl) (hD.sub [0] (by decide) rfl) hS dL_district_14 (by decide) (by decide) (⟨g1.symm, _, rfl, (fun q => absurd q (by rw [g1]; decide))⟩)
  · refine W.widen (k := 4) (n := 54) (by decide) (by decide) ?_
    have hP : va_P D vwCl [((a 300), .inl (cy 2, 1, .inr (.inl (fun _ => 0))))] H := hP.sub [0] rfl
    have hD : va_D A [((a 300), .inl (cy 2, 1, .inr (.inl (fun _ => 0))))] := hD.sub [0] (by rfl) rfl
    obtain ⟨hk0, hv0⟩ := hw
    have hP : va_P D vwCl [((a 300), .inl (cy 2, 1, .inr (.inl (fun _ => 0))))] H := hP
    have hD : va_D A [((a 300), .inl (cy 2, 1, .inr (.inl (fun _ => 0))))] := hD
    refine lv_i2l hx hb dL_district_7 rfl ?_
    refine va_last hx hb hK hP hD hS 0 2 rfl rfl (in_lit (by decide)) dL_district_8 (fun H locs hP hD hS => ?_)
    have hP : va_P D vwCl [((a 300), .inl (cy 2, 1, .inr (.inl (vp_updL (fun _ => 0) (0 : Int32).toNatClampNeg r_.toInt64))))] H := hP
    have hD : va_D A [((a 300), .inl (cy 2, 1, .inr (.inl (vp_updL (fun _ => 0) (0 : Int32).toNatClampNeg r_.toInt64))))] := hD
    refine lv_goto (tgt := 15) hx hb dL_district_9 (by decide) ?_
    refine lv_iconst (v := 0) hx hb dL_district_15 (by decide) ?_
    exact rI hX hE (hP.sub [0] rfl) (hD.sub [0] (by decide) rfl) hS dL_district_16 (by decide) (by decide) (⟨hk0.symm, _, rfl, (fun _ => by first | exact hv0 | (show vp_updL _ _ _ 0 = _; first | exact hv0 | (rw [← hv0]; rfl)))⟩)
set_option maxHeartbeats 4000000 in
set_option maxRecDepth 100000 in
theorem h_season (l : Launch) (hlt : l.stackTraces = false) (D : va_G) (cy : Nat → ClassId) (a : Nat → Nat) (p1 : Int32) (p2 : Int32) : Hi l yL_season cL_season 5 (some .int) [(0, 10, 13, 13)] { frames := 8, cells := 1, slots := 6, locals := 137 } D cy [.ref (a 0), .int p1, .int p2, .ref (a 300)] [((a 0), .inr (10, [.ref (a 1), .int 0, .int 0, .int (-1), .ref (a 2), .ref (a 3), .ref (a 4), .ref (a 5), .ref (a 6), .ref (a 7), .ref (a 8), .ref (a 9), .int 0])), ((a 4), .inr (2, [.ref (a 70), .int 0, .int 0])), ((a 70), .inl (cy 4, 10, .inr (.inr (.inr (.inr (va_up (va_up (va_up (va_up (va_up (va_up (va_up (va_up (va_up (va_up (fun _ => none) (0 : Int32).toNatClampNeg (some (a 100))) (1 : Int32).toNatClampNeg (some (a 110))) (2 : Int32).toNatClampNeg (some (a 120))) (3 : Int32).toNatClampNeg (some (a 130))) (4 : Int32).toNatClampNeg (some (a 140))) (5 : Int32).toNatClampNeg (some (a 150))) (6 : Int32).toNatClampNeg (some (a 160))) (7 : Int32).toNatClampNeg (some (a 170))) (8 : Int32).toNatClampNeg (some (a 180))) (9 : Int32).toNatClampNeg (some (a 190)))))))), ((a 100), .inr (6, [.ref (a 10), .int 0, .ref (a 101), .ref (a 102), .ref (a 103), .ref (a 104), .ref (a 105), .int 0])), ((a 101), .inl (cy 0, 8, .inl (fun _ => 0))), ((a 102), .inl (cy 0, 8, .inl (fun _ => 0))), ((a 103), .inl (cy 0, 8, .inl (fun _ => 0))), ((a 104), .inl (cy 0, 8, .inl (fun _ => 0))), ((a 105), .inl (cy 0, 4, .inl (fun _ => 0))), ((a 110), .inr (6, [.ref (a 10), .int 0, .ref (a 111), .ref (a 112), .ref (a 113), .ref (a 114), .ref (a 115), .int 0])), ((a 111), .inl (cy 0, 8, .inl (fun _ => 0))), ((a 112), .inl (cy 0, 8, .inl (fun _ => 0))), ((a 113), .inl (cy 0, 8, .inl (fun _ => 0))), ((a 114), .inl (cy 0, 8, .inl (fun _ => 0))), ((a 115), .inl (cy 0, 4, .inl (fun _ => 0))), ((a 120), .inr (6, [.ref (a 10), .int 0, .ref (a 121), .ref (a 122), .ref (a 123), .ref (a 124), .ref (a 125), .int 0])), ((a 121), .inl (cy 0, 8, .inl (fun _ => 0))), ((a 122), .inl (cy 0, 8, .inl (fun _ => 0))), ((a 123), .inl (cy 0, 8, .inl (fun _ => 0))), ((a 124), .inl (cy 0, 8, .inl (fun _ => 0))), ((a 125), .inl (cy 0, 4, .inl (fun _ => 0))), ((a 130), .inr (6, [.ref (a 10), .int 0, .ref (a 131), .ref (a 132), .ref (a 133), .ref (a 134), .ref (a 135), .int 0])), ((a 131), .inl (cy 0, 8, .inl (fun _ => 0))), ((a 132), .inl (cy 0, 8, .inl (fun _ => 0))), ((a 133), .inl (cy 0, 8, .inl (fun _ => 0))), ((a 134), .inl (cy 0, 8, .inl (fun _ => 0))), ((a 135), .inl (cy 0, 4, .inl (fun _ => 0))), ((a 140), .inr (6, [.ref (a 10), .int 0, .ref (a 141), .ref (a 142), .ref (a 143), .ref (a 144), .ref (a 145), .int 0])), ((a 141), .inl (cy 0, 8, .inl (fun _ => 0))), ((a 142), .inl (cy 0, 8, .inl (fun _ => 0))), ((a 143), .inl (cy 0, 8, .inl (fun _ => 0))), ((a 144), .inl (cy 0, 8, .inl (fun _ => 0))), ((a 145), .inl (cy 0, 4, .inl (fun _ => 0))), ((a 150), .inr (6, [.ref (a 10), .int 0, .ref (a 151), .ref (a 152), .ref (a 153), .ref (a 154), .ref (a 155), .int 0])), ((a 151), .inl (cy 0, 8, .inl (fun _ => 0))), ((a 152), .inl (cy 0, 8, .inl (fun _ => 0))), ((a 153), .inl (cy 0, 8, .inl (fun _ => 0))), ((a 154), .inl (cy 0, 8, .inl (fun _ => 0))), ((a 155), .inl (cy 0, 4, .inl (fun _ => 0))), ((a 160), .inr (6, [.ref (a 10), .int 0, .ref (a 161), .ref (a 162), .ref (a 163), .ref (a 164), .ref (a 165), .int 0])), ((a 161), .inl (cy 0, 8, .inl (fun _ => 0))), ((a 162), .inl (cy 0, 8, .inl (fun _ => 0))), ((a 163), .inl (cy 0, 8, .inl (fun _ => 0))), ((a 164), .inl (cy 0, 8, .inl (fun _ => 0))), ((a 165), .inl (cy 0, 4, .inl (fun _ => 0))), ((a 170), .inr (6, [.ref (a 10), .int 0, .ref (a 171), .ref (a 172), .ref (a 173), .ref (a 174), .ref (a 175), .int 0])), ((a 171), .inl (cy 0, 8, .inl (fun _ => 0))), ((a 172), .inl (cy 0, 8, .inl (fun _ => 0))), ((a 173), .inl (cy 0, 8, .inl (fun _ => 0))), ((a 174), .inl (cy 0, 8, .inl (fun _ => 0))), ((a 175), .inl (cy 0, 4, .inl (fun _ => 0))), ((a 180), .inr (6, [.ref (a 10), .int 0, .ref (a 181), .ref (a 182), .ref (a 183), .ref (a 184), .ref (a 185), .int 0])), ((a 181), .inl (cy 0, 8, .inl (fun _ => 0))), ((a 182), .inl (cy 0, 8, .inl (fun _ => 0))), ((a 183), .inl (cy 0, 8, .inl (fun _ => 0))), ((a 184), .inl (cy 0, 8, .inl (fun _ => 0))), ((a 185), .inl (cy 0, 4, .inl (fun _ => 0))), ((a 190), .inr (6, [.ref (a 10), .int 0, .ref (a 191), .ref (a 192), .ref (a 193), .ref (a 194), .ref (a 195), .int 0])), ((a 191), .inl (cy 0, 8, .inl (fun _ => 0))), ((a 192), .inl (cy 0, 8, .inl (fun _ => 0))), ((a 193), .inl (cy 0, 8, .inl (fun _ => 0))), ((a 194), .inl (cy 0, 8, .inl (fun _ => 0))), ((a 195), .inl (cy 0, 4, .inl (fun _ => 0))), ((a 3), .inr (6, [.ref (a 10), .int 0, .ref (a 21), .ref (a 22), .ref (a 23), .ref (a 24), .ref (a 25), .int 0])), ((a 21), .inl (cy 0, 8, .inl (fun _ => 0))), ((a 22), .inl (cy 0, 8, .inl (fun _ => 0))), ((a 23), .inl (cy 0, 8, .inl (fun _ => 0))), ((a 24), .inl (cy 0, 8, .inl (fun _ => 0))), ((a 25), .inl (cy 0, 4, .inl (fun _ => 0))), ((a 10), .inr (0, [.int 0, .int 1, .int 1, .int 0, .int 0, .ref (a 11), .ref (a 12), .ref (a 13), .null, .null])), ((a 300), .inl (cy 2, 1, .inr (.inl (fun _ => 0))))] (fun r W1 => r = kf_season p1 p2 ∧ ∃ g : Nat → Int64, W1 = [((a 300), .inl (cy 2, 1, .inr (.inl g)))] ∧ (kf_season p1 p2 = 0 → g 0 = vf_season p1 p2)) := by
  refine Hi.of (by decide) (Nat.le_of_ble_eq_true rfl) ?_
  intro p e s m below meth c A ls hX hE hP hD hl hxt
  obtain ⟨hx, hb, hr, hml, hown, htA, hlk⟩ := id hX
  have hK := hE.1
  have hS : va_S A s.heap s.heap [] := va_S.rf
  have hl : lv_has ls 5 [(0, .ref (a 0)), (1, .int p1), (2, .int p2), (3, .ref (a 300))] := hl
  refine lv_aload_n hx hb dL_season_0 rfl (lv_at hl 3 rfl) ?_
  refine lv_iconst (v := 0) hx hb dL_season_1 (by decide) ?_
  refine lv_aload_n hx hb dL_season_2 rfl (lv_at hl 0 rfl) ?_
  refine lv_iload_n hx hb dL_season_3 rfl (lv_at hl 1 rfl) ?_
  refine lv_iload_n hx hb dL_season_4 rfl (lv_at hl 2 rfl) ?_
  refine xVi (As := [.int p1, .int p2]) (rest := [.int 0, .ref (a 300)]) (wr := [((a 300), .inl (cy 2, 1, .inr (.inl (fun _ => 0))))]) hX hE (m_season l hlt D cy a p1 p2) (cwVA 2 htA wd_1020 wd_1017 wd_1 wd_1018 wd_1019 (by decide +kernel) ⟨by decide, by decide⟩) hP hD hS [0, 1, 2, 3, 4, 5, 6, 7, 8, 9, 10, 11, 12, 13, 14, 15, 16, 17, 18, 19, 20, 21, 22, 23, 24, 25, 26, 27, 28, 29, 30, 31, 32, 33, 34, 35, 36, 37, 38, 39, 40, 41, 42, 43, 44, 45, 46, 47, 48, 49, 50, 51, 52, 53, 54, 55, 56, 57, 58, 59, 60, 61, 62, 63, 64, 65, 66, 67, 68, 69] [70] rfl rfl (by decide) 0 rfl rfl rfl rfl hl.1 rfl (Nat.le_of_ble_eq_true rfl) dL_season_5 (by decide) (fun E ce q9 W1 H locs hw hP hD hS hce hcv hcl => ?_) (fun r_ W1 H locs hw hP hD hS => ?_)
  · rcases hw with ⟨rfl, g1⟩
    refine kCatch (name := "java/lang/IllegalArgumentException") hX hE hxt [] ⟨0, 10, 13, 13⟩ [] rfl (fun z hz => absurd hz List.not_mem_nil) (by decide) (by decide) wd_526 (by decide +kernel) hce hcv hcl ?_
    refine W.widen (k := 1) (n := 6) (by decide) (by decide) ?_
    have hP : va_P D vwCl [((a 300), .inl (cy 2, 1, .inr (.inl (fun _ => 0))))] H := hP.sub [0] rfl
    have hD : va_D A [((a 300), .inl (cy 2, 1, .inr (.inl (fun _ => 0))))] := hD.sub [0] (by rfl) rfl
    refine lv_astore (lv' := [(4, .ref q9), (0, .ref (a 0)), (1, .int p1), (2, .int p2), (3, .ref (a 300))]) hx hb dL_season_13 hl (by decide) rfl (fun ls hl => ?_)
    refine lv_iconst (v := 1) hx hb dL_season_15 (by decide) ?_
    exact rI hX hE (hP.sub [0] rfl) (hD.sub [0] (by decide) rfl) hS dL_season_16 (by decide) (by decide) (⟨g1.symm, _, rfl, (fun q => absurd q (by rw [g1]; decide))⟩)
  · refine W.widen (k := 1) (n := 6) (by decide) (by decide) ?_
    have hP : va_P D vwCl [((a 300), .inl (cy 2, 1, .inr (.inl (fun _ => 0))))] H := hP.sub [0] rfl
    have hD : va_D A [((a 300), .inl (cy 2, 1, .inr (.inl (fun _ => 0))))] := hD.sub [0] (by rfl) rfl
    obtain ⟨hk0, hv0⟩ := hw
    have hP : va_P D vwCl [((a 300), .inl (cy 2, 1, .inr (.inl (fun _ => 0))))] H := hP
    have hD : va_D A [((a 300), .inl (cy 2, 1, .inr (.inl (fun _ => 0))))] := hD
    refine lv_i2l hx hb dL_season_8 rfl ?_
    refine va_last hx hb hK hP hD hS 0 2 rfl rfl (in_lit (by decide)) dL_season_9 (fun H locs hP hD hS => ?_)
    have hP : va_P D vwCl [((a 300), .inl (cy 2, 1, .inr (.inl (vp_updL (fun _ => 0) (0 : Int32).toNatClampNeg r_.toInt64))))] H := hP
    have hD : va_D A [((a 300), .inl (cy 2, 1, .inr (.inl (vp_updL (fun _ => 0) (0 : Int32).toNatClampNeg r_.toInt64))))] := hD
    refine lv_goto (tgt := 17) hx hb dL_season_10 (by decide) ?_
    refine lv_iconst (v := 0) hx hb dL_season_17 (by decide) ?_
    exact rI hX hE (hP.sub [0] rfl) (hD.sub [0] (by decide) rfl) hS dL_season_18 (by decide) (by decide) (⟨hk0.symm, _, rfl, (fun _ => by first | exact hv0 | (show vp_updL _ _ _ 0 = _; first | exact hv0 | (rw [← hv0]; rfl)))⟩)
set_option maxHeartbeats 4000000 in
set_option maxRecDepth 100000 in
theorem h_safeWays (l : Launch) (hlt : l.stackTraces = false) (D : va_G) (cy : Nat → ClassId) (a : Nat → Nat) (p1 : Int32) (p2 : Int32) (p3 : Int32) : Hi l yL_safeWays cL_safeWays 6 (some .int) [(0, 11, 14, 19), (0, 11, 18, 13)] { frames := 8, cells := 3, slots := 18, locals := 135 } D cy [.ref (a 0), .int p1, .int p2, .int p3, .ref (a 300)] [((a 0), .inr (10, [.ref (a 1), .int 0, .int 0, .int (-1), .ref (a 2), .ref (a 3), .ref (a 4), .ref (a 5), .ref (a 6), .ref (a 7), .ref (a 8), .ref (a 9), .int 0])), ((a 3), .inr (6, [.ref (a 10), .int 0, .ref (a 21), .ref (a 22), .ref (a 23), .ref (a 24), .ref (a 25), .int 0])), ((a 21), .inl (cy 0, 8, .inl (fun _ => 0))), ((a 22), .inl (cy 0, 8, .inl (fun _ => 0))), ((a 23), .inl (cy 0, 8, .inl (fun _ => 0))), ((a 24), .inl (cy 0, 8, .inl (fun _ => 0))), ((a 25), .inl (cy 0, 4, .inl (fun _ => 0))), ((a 10), .inr (0, [.int 0, .int 1, .int 1, .int 0, .int 0, .ref (a 11), .ref (a 12), .ref (a 13), .null, .null])), ((a 5), .inr (1, [.ref (a 40), .int 0, .int 0, .ref (a 46), .ref (a 47)])), ((a 40), .inr (6, [.ref (a 10), .int 0, .ref (a 41), .ref (a 42), .ref (a 43), .ref (a 44), .ref (a 45), .int 0])), ((a 41), .inl (cy 0, 8, .inl (fun _ => 0))), ((a 42), .inl (cy 0, 8, .inl (fun _ => 0))), ((a 43), .inl (cy 0, 8, .inl (fun _ => 0))), ((a 44), .inl (cy 0, 8, .inl (fun _ => 0))), ((a 45), .inl (cy 0, 4, .inl (fun _ => 0))), ((a 6), .inr (9, [.int 0, .ref (a 51), .ref (a 52), .ref (a 53), .ref (a 54), .ref (a 55)])), ((a 51), .inl (cy 0, 61, .inl (fun _ => 0))), ((a 52), .inl (cy 0, 61, .inl (fun _ => 0))), ((a 53), .inl (cy 0, 61, .inl (fun _ => 0))), ((a 54), .inl (cy 2, 6, .inr (.inl (fun _ => 0)))), ((a 55), .inl (cy 2, 6, .inr (.inl (fun _ => 0)))), ((a 300), .inl (cy 2, 1, .inr (.inl (fun _ => 0))))] (fun r W1 => r = kf_safeWays p1 p2 p3 ∧ ∃ g : Nat → Int64, W1 = [((a 300), .inl (cy 2, 1, .inr (.inl g)))] ∧ (kf_safeWays p1 p2 p3 = 0 → g 0 = vf_safeWays p1 p2 p3)) := by
  refine Hi.of (by decide) (Nat.le_of_ble_eq_true rfl) ?_
  intro p e s m below meth c A ls hX hE hP hD hl hxt
  obtain ⟨hx, hb, hr, hml, hown, htA, hlk⟩ := id hX
  have hK := hE.1
  have hS : va_S A s.heap s.heap [] := va_S.rf
  have hl : lv_has ls 6 [(0, .ref (a 0)), (1, .int p1), (2, .int p2), (3, .int p3), (4, .ref (a 300))] := hl
  refine lv_aload hx hb dL_safeWays_0 (lv_at hl 4 rfl) ?_
  refine lv_iconst (v := 0) hx hb dL_safeWays_2 (by decide) ?_
  refine lv_aload_n hx hb dL_safeWays_3 rfl (lv_at hl 0 rfl) ?_
  refine lv_iload_n hx hb dL_safeWays_4 rfl (lv_at hl 1 rfl) ?_
  refine lv_iload_n hx hb dL_safeWays_5 rfl (lv_at hl 2 rfl) ?_
  refine lv_iload_n hx hb dL_safeWays_6 rfl (lv_at hl 3 rfl) ?_
  refine xVl (As := [.int p1, .int p2, .int p3]) (rest := [.int 0, .ref (a 300)]) (wr := [((a 300), .inl (cy 2, 1, .inr (.inl (fun _ => 0))))]) hX hE (m_safeWays l hlt D cy a p1 p2 p3) (cwVA 3 htA wd_1207 wd_1204 wd_1 wd_1205 wd_1206 (by decide +kernel) ⟨by decide, by decide⟩) hP hD hS [0, 1, 2, 3, 4, 5, 6, 7, 8, 9, 10, 11, 12, 13, 14, 15, 16, 17, 18, 19, 20] [21] rfl rfl (by decide) 0 rfl rfl rfl rfl hl.1 rfl (Nat.le_of_ble_eq_true rfl) dL_safeWays_7 (by decide) (fun E ce q9 W1 H locs hw hP hD hS hce hcv hcl => ?_) (fun r_ W1 H locs hw hP hD hS => ?_)
  · rcases hw with ⟨rfl, g1⟩ | ⟨rfl, g2⟩
    · refine kCatch (name := "java/util/NoSuchElementException") hX hE hxt [] ⟨0, 11, 14, 19⟩ [⟨0, 11, 18, 13⟩] rfl (fun z hz => absurd hz List.not_mem_nil) (by decide) (by decide) wd_860 (by decide +kernel) hce hcv hcl ?_
      refine W.widen (k := 3) (n := 18) (by decide) (by decide) ?_
      have hP : va_P D vwCl [((a 300), .inl (cy 2, 1, .inr (.inl (fun _ => 0))))] H := hP.sub [0] rfl
      have hD : va_D A [((a 300), .inl (cy 2, 1, .inr (.inl (fun _ => 0))))] := hD.sub [0] (by rfl) rfl
      refine lv_astore (lv' := [(5, .ref q9), (0, .ref (a 0)), (1, .int p1), (2, .int p2), (3, .int p3), (4, .ref (a 300))]) hx hb dL_safeWays_14 hl (by decide) rfl (fun ls hl => ?_)
      refine lv_iconst (v := 1) hx hb dL_safeWays_16 (by decide) ?_
      exact rI hX hE (hP.sub [0] rfl) (hD.sub [0] (by decide) rfl) hS dL_safeWays_17 (by decide) (by decide) (⟨g1.symm, _, rfl, (fun q => absurd q (by rw [g1]; decide))⟩)
    · refine kCatch (name := "java/lang/IllegalArgumentException") hX hE hxt [⟨0, 11, 14, 19⟩] ⟨0, 11, 18, 13⟩ [] rfl (List.forall_mem_cons.mpr ⟨Or.inr ⟨by decide, "java/util/NoSuchElementException", htA _ wd_860, hE.2.2.2.2.2.1 ("java/lang/IllegalArgumentException", "java/util/NoSuchElementException") (by decide)⟩, (fun z hz => absurd hz List.not_mem_nil)⟩) (by decide) (by decide) wd_526 (by decide +kernel) hce hcv hcl ?_
      refine W.widen (k := 3) (n := 18) (by decide) (by decide) ?_
      have hP : va_P D vwCl [((a 300), .inl (cy 2, 1, .inr (.inl (fun _ => 0))))] H := hP.sub [0] rfl
      have hD : va_D A [((a 300), .inl (cy 2, 1, .inr (.inl (fun _ => 0))))] := hD.sub [0] (by rfl) rfl
      refine lv_astore (lv' := [(5, .ref q9), (0, .ref (a 0)), (1, .int p1), (2, .int p2), (3, .int p3), (4, .ref (a 300))]) hx hb dL_safeWays_18 hl (by decide) rfl (fun ls hl => ?_)
      refine lv_iconst (v := 2) hx hb dL_safeWays_20 (by decide) ?_
      exact rI hX hE (hP.sub [0] rfl) (hD.sub [0] (by decide) rfl) hS dL_safeWays_21 (by decide) (by decide) (⟨g2.symm, _, rfl, (fun q => absurd q (by rw [g2]; decide))⟩)
  · refine W.widen (k := 3) (n := 18) (by decide) (by decide) ?_
    have hP : va_P D vwCl [((a 300), .inl (cy 2, 1, .inr (.inl (fun _ => 0))))] H := hP.sub [0] rfl
    have hD : va_D A [((a 300), .inl (cy 2, 1, .inr (.inl (fun _ => 0))))] := hD.sub [0] (by rfl) rfl
    obtain ⟨hk0, hv0⟩ := hw
    have hP : va_P D vwCl [((a 300), .inl (cy 2, 1, .inr (.inl (fun _ => 0))))] H := hP
    have hD : va_D A [((a 300), .inl (cy 2, 1, .inr (.inl (fun _ => 0))))] := hD
    refine va_last hx hb hK hP hD hS 0 2 rfl rfl (in_lit (by decide)) dL_safeWays_10 (fun H locs hP hD hS => ?_)
    have hP : va_P D vwCl [((a 300), .inl (cy 2, 1, .inr (.inl (vp_updL (fun _ => 0) (0 : Int32).toNatClampNeg r_))))] H := hP
    have hD : va_D A [((a 300), .inl (cy 2, 1, .inr (.inl (vp_updL (fun _ => 0) (0 : Int32).toNatClampNeg r_))))] := hD
    refine lv_goto (tgt := 22) hx hb dL_safeWays_11 (by decide) ?_
    refine lv_iconst (v := 0) hx hb dL_safeWays_22 (by decide) ?_
    exact rI hX hE (hP.sub [0] rfl) (hD.sub [0] (by decide) rfl) hS dL_safeWays_23 (by decide) (by decide) (⟨hk0.symm, _, rfl, (fun _ => by first | exact hv0 | (show vp_updL _ _ _ 0 = _; first | exact hv0 | (rw [← hv0]; rfl)))⟩)
set_option maxHeartbeats 4000000 in
set_option maxRecDepth 100000 in
theorem h_image (l : Launch) (hlt : l.stackTraces = false) (D : va_G) (cy : Nat → ClassId) (a : Nat → Nat) (p1 : Int32) : Hi l yL_image cL_image 3 (some .int) [(0, 5, 8, 19)] { frames := 8, cells := 70, slots := 505, locals := 131 } D cy [.ref (a 0), .int p1] [((a 0), .inr (10, [.ref (a 1), .int 0, .int 0, .int (-1), .ref (a 2), .ref (a 3), .ref (a 4), .ref (a 5), .ref (a 6), .ref (a 7), .ref (a 8), .ref (a 9), .int 0])), ((a 9), .inl (cy 6, 3, .inr (.inr (.inr (.inr (fun _ => none)))))), ((a 3), .inr (6, [.ref (a 10), .int 0, .ref (a 21), .ref (a 22), .ref (a 23), .ref (a 24), .ref (a 25), .int 0])), ((a 21), .inl (cy 0, 8, .inl (fun _ => 0))), ((a 22), .inl (cy 0, 8, .inl (fun _ => 0))), ((a 23), .inl (cy 0, 8, .inl (fun _ => 0))), ((a 24), .inl (cy 0, 8, .inl (fun _ => 0))), ((a 25), .inl (cy 0, 4, .inl (fun _ => 0))), ((a 10), .inr (0, [.int 0, .int 1, .int 1, .int 0, .int 0, .ref (a 11), .ref (a 12), .ref (a 13), .null, .null])), ((a 4), .inr (2, [.ref (a 70), .int 0, .int 0])), ((a 70), .inl (cy 4, 10, .inr (.inr (.inr (.inr (va_up (va_up (va_up (va_up (va_up (va_up (va_up (va_up (va_up (va_up (fun _ => none) (0 : Int32).toNatClampNeg (some (a 100))) (1 : Int32).toNatClampNeg (some (a 110))) (2 : Int32).toNatClampNeg (some (a 120))) (3 : Int32).toNatClampNeg (some (a 130))) (4 : Int32).toNatClampNeg (some (a 140))) (5 : Int32).toNatClampNeg (some (a 150))) (6 : Int32).toNatClampNeg (some (a 160))) (7 : Int32).toNatClampNeg (some (a 170))) (8 : Int32).toNatClampNeg (some (a 180))) (9 : Int32).toNatClampNeg (some (a 190)))))))), ((a 100), .inr (6, [.ref (a 10), .int 0, .ref (a 101), .ref (a 102), .ref (a 103), .ref (a 104), .ref (a 105), .int 0])), ((a 101), .inl (cy 0, 8, .inl (fun _ => 0))), ((a 102), .inl (cy 0, 8, .inl (fun _ => 0))), ((a 103), .inl (cy 0, 8, .inl (fun _ => 0))), ((a 104), .inl (cy 0, 8, .inl (fun _ => 0))), ((a 105), .inl (cy 0, 4, .inl (fun _ => 0))), ((a 110), .inr (6, [.ref (a 10), .int 0, .ref (a 111), .ref (a 112), .ref (a 113), .ref (a 114), .ref (a 115), .int 0])), ((a 111), .inl (cy 0, 8, .inl (fun _ => 0))), ((a 112), .inl (cy 0, 8, .inl (fun _ => 0))), ((a 113), .inl (cy 0, 8, .inl (fun _ => 0))), ((a 114), .inl (cy 0, 8, .inl (fun _ => 0))), ((a 115), .inl (cy 0, 4, .inl (fun _ => 0))), ((a 120), .inr (6, [.ref (a 10), .int 0, .ref (a 121), .ref (a 122), .ref (a 123), .ref (a 124), .ref (a 125), .int 0])), ((a 121), .inl (cy 0, 8, .inl (fun _ => 0))), ((a 122), .inl (cy 0, 8, .inl (fun _ => 0))), ((a 123), .inl (cy 0, 8, .inl (fun _ => 0))), ((a 124), .inl (cy 0, 8, .inl (fun _ => 0))), ((a 125), .inl (cy 0, 4, .inl (fun _ => 0))), ((a 130), .inr (6, [.ref (a 10), .int 0, .ref (a 131), .ref (a 132), .ref (a 133), .ref (a 134), .ref (a 135), .int 0])), ((a 131), .inl (cy 0, 8, .inl (fun _ => 0))), ((a 132), .inl (cy 0, 8, .inl (fun _ => 0))), ((a 133), .inl (cy 0, 8, .inl (fun _ => 0))), ((a 134), .inl (cy 0, 8, .inl (fun _ => 0))), ((a 135), .inl (cy 0, 4, .inl (fun _ => 0))), ((a 140), .inr (6, [.ref (a 10), .int 0, .ref (a 141), .ref (a 142), .ref (a 143), .ref (a 144), .ref (a 145), .int 0])), ((a 141), .inl (cy 0, 8, .inl (fun _ => 0))), ((a 142), .inl (cy 0, 8, .inl (fun _ => 0))), ((a 143), .inl (cy 0, 8, .inl (fun _ => 0))), ((a 144), .inl (cy 0, 8, .inl (fun _ => 0))), ((a 145), .inl (cy 0, 4, .inl (fun _ => 0))), ((a 150), .inr (6, [.ref (a 10), .int 0, .ref (a 151), .ref (a 152), .ref (a 153), .ref (a 154), .ref (a 155), .int 0])), ((a 151), .inl (cy 0, 8, .inl (fun _ => 0))), ((a 152), .inl (cy 0, 8, .inl (fun _ => 0))), ((a 153), .inl (cy 0, 8, .inl (fun _ => 0))), ((a 154), .inl (cy 0, 8, .inl (fun _ => 0))), ((a 155), .inl (cy 0, 4, .inl (fun _ => 0))), ((a 160), .inr (6, [.ref (a 10), .int 0, .ref (a 161), .ref (a 162), .ref (a 163), .ref (a 164), .ref (a 165), .int 0])), ((a 161), .inl (cy 0, 8, .inl (fun _ => 0))), ((a 162), .inl (cy 0, 8, .inl (fun _ => 0))), ((a 163), .inl (cy 0, 8, .inl (fun _ => 0))), ((a 164), .inl (cy 0, 8, .inl (fun _ => 0))), ((a 165), .inl (cy 0, 4, .inl (fun _ => 0))), ((a 170), .inr (6, [.ref (a 10), .int 0, .ref (a 171), .ref (a 172), .ref (a 173), .ref (a 174), .ref (a 175), .int 0])), ((a 171), .inl (cy 0, 8, .inl (fun _ => 0))), ((a 172), .inl (cy 0, 8, .inl (fun _ => 0))), ((a 173), .inl (cy 0, 8, .inl (fun _ => 0))), ((a 174), .inl (cy 0, 8, .inl (fun _ => 0))), ((a 175), .inl (cy 0, 4, .inl (fun _ => 0))), ((a 180), .inr (6, [.ref (a 10), .int 0, .ref (a 181), .ref (a 182), .ref (a 183), .ref (a 184), .ref (a 185), .int 0])), ((a 181), .inl (cy 0, 8, .inl (fun _ => 0))), ((a 182), .inl (cy 0, 8, .inl (fun _ => 0))), ((a 183), .inl (cy 0, 8, .inl (fun _ => 0))), ((a 184), .inl (cy 0, 8, .inl (fun _ => 0))), ((a 185), .inl (cy 0, 4, .inl (fun _ => 0))), ((a 190), .inr (6, [.ref (a 10), .int 0, .ref (a 191), .ref (a 192), .ref (a 193), .ref (a 194), .ref (a 195), .int 0])), ((a 191), .inl (cy 0, 8, .inl (fun _ => 0))), ((a 192), .inl (cy 0, 8, .inl (fun _ => 0))), ((a 193), .inl (cy 0, 8, .inl (fun _ => 0))), ((a 194), .inl (cy 0, 8, .inl (fun _ => 0))), ((a 195), .inl (cy 0, 4, .inl (fun _ => 0)))] (fun r W1 => r = kf_image p1 ∧ W1 = []) := by
  refine Hi.of (by decide) (Nat.le_of_ble_eq_true rfl) ?_
  intro p e s m below meth c A ls hX hE hP hD hl hxt
  obtain ⟨hx, hb, hr, hml, hown, htA, hlk⟩ := id hX
  have hK := hE.1
  have hS : va_S A s.heap s.heap [] := va_S.rf
  have hl : lv_has ls 3 [(0, .ref (a 0)), (1, .int p1)] := hl
  refine lv_aload_n hx hb dL_image_0 rfl (lv_at hl 0 rfl) ?_
  refine lv_iload_n hx hb dL_image_1 rfl (lv_at hl 1 rfl) ?_
  refine xVv (As := [.int p1]) (rest := []) (wr := []) hX hE (m_image l hlt D cy a p1) (cwVA 1 htA wd_1313 wd_1310 wd_1 wd_1311 wd_1312 (by decide +kernel) ⟨by decide, by decide⟩) hP hD hS [0, 1, 2, 3, 4, 5, 6, 7, 8, 9, 10, 11, 12, 13, 14, 15, 16, 17, 18, 19, 20, 21, 22, 23, 24, 25, 26, 27, 28, 29, 30, 31, 32, 33, 34, 35, 36, 37, 38, 39, 40, 41, 42, 43, 44, 45, 46, 47, 48, 49, 50, 51, 52, 53, 54, 55, 56, 57, 58, 59, 60, 61, 62, 63, 64, 65, 66, 67, 68, 69, 70] [] rfl rfl (by decide) 0 rfl rfl rfl rfl hl.1 rfl (Nat.le_of_ble_eq_true rfl) dL_image_2 (by decide) (fun E ce q9 W1 H locs hw hP hD hS hce hcv hcl => ?_) (fun W1 H locs hw hP hD hS => ?_)
  · rcases hw with ⟨rfl, g1⟩
    refine kCatch (name := "java/util/NoSuchElementException") hX hE hxt [] ⟨0, 5, 8, 19⟩ [] rfl (fun z hz => absurd hz List.not_mem_nil) (by decide) (by decide) wd_860 (by decide +kernel) hce hcv hcl ?_
    refine W.widen (k := 70) (n := 505) (by decide) (by decide) ?_
    have hP : va_P D vwCl [] H := hP.sub [] rfl
    have hD : va_D A [] := hD.sub [] (by rfl) rfl
    refine lv_astore_n (lv' := [(2, .ref q9), (0, .ref (a 0)), (1, .int p1)]) hx hb dL_image_8 rfl hl (by decide) rfl (fun ls hl => ?_)
    refine lv_iconst (v := 1) hx hb dL_image_9 (by decide) ?_
    exact rI hX hE (hP.sub [] rfl) (hD.sub [] (by decide) rfl) hS dL_image_10 (by decide) (by decide) (⟨g1.symm, rfl⟩)
  · refine W.widen (k := 70) (n := 505) (by decide) (by decide) ?_
    have hP : va_P D vwCl [] H := hP.sub [] rfl
    have hD : va_D A [] := hD.sub [] (by rfl) rfl
    have hk0 := hw
    have hP : va_P D vwCl [] H := hP
    have hD : va_D A [] := hD
    refine lv_goto (tgt := 11) hx hb dL_image_5 (by decide) ?_
    refine lv_iconst (v := 0) hx hb dL_image_11 (by decide) ?_
    exact rI hX hE (hP.sub [] rfl) (hD.sub [] (by decide) rfl) hS dL_image_12 (by decide) (by decide) (⟨hk0.symm, rfl⟩)
