set_option maxHeartbeats 4000000 in
set_option maxRecDepth 100000 in
theorem h_thing (l : Launch) (hlt : l.stackTraces = false) (D : va_G) (cy : Nat → ClassId) (a : Nat → Nat) (p1 : Int32) (p2 : Int32) : Hi l yL_thing cL_thing 5 (some .int) [(0, 10, 13, 19), (0, 10, 17, 13)] { frames := 8, cells := 1, slots := 6, locals := 134 } D cy [.ref (a 0), .int p1, .int p2, .ref (a 300)] [((a 0), .inr (10, [.ref (a 1), .int 0, .int 0, .int (-1), .ref (a 2), .ref (a 3), .ref (a 4), .ref (a 5), .ref (a 6), .ref (a 7), .ref (a 8), .ref (a 9), .int 0])), ((a 3), .inr (6, [.ref (a 10), .int 0, .ref (a 21), .ref (a 22), .ref (a 23), .ref (a 24), .ref (a 25), .int 0])), ((a 10), .inr (0, [.int 0, .int 1, .int 1, .int 0, .int 0, .ref (a 11), .ref (a 12), .ref (a 13), .null, .null])), ((a 300), .inl (cy 2, 1, .inr (.inl (fun _ => 0))))] (fun r W1 => r = kf_thing p1 p2 ∧ ∃ g : Nat → Int64, W1 = [((a 300), .inl (cy 2, 1, .inr (.inl g)))] ∧ (kf_thing p1 p2 = 0 → g 0 = vf_thing p1 p2)) := by
  refine Hi.of (by decide) (Nat.le_of_ble_eq_true rfl) ?_
  intro p e s m below meth c A ls hX hE hP hD hl hxt
  obtain ⟨hx, hb, hr, hml, hown, htA, hlk⟩ := id hX
  have hK := hE.1
  have hS : va_S A s.heap s.heap [] := va_S.rf
  have hl : lv_has ls 5 [(0, .ref (a 0)), (1, .int p1), (2, .int p2), (3, .ref (a 300))] := hl
  refine lv_aload_n hx hb dL_thing_0 rfl (lv_at hl 3 rfl) ?_
  refine lv_iconst (v := 0) hx hb dL_thing_1 (by decide) ?_
  refine lv_aload_n hx hb dL_thing_2 rfl (lv_at hl 0 rfl) ?_
  refine lv_iload_n hx hb dL_thing_3 rfl (lv_at hl 1 rfl) ?_
  refine lv_iload_n hx hb dL_thing_4 rfl (lv_at hl 2 rfl) ?_
  refine xVi (As := [.int p1, .int p2]) (rest := [.int 0, .ref (a 300)]) (wr := [((a 300), .inl (cy 2, 1, .inr (.inl (fun _ => 0))))]) hX hE (m_thing l hlt D cy a p1 p2) (cwVA 2 htA wd_864 wd_861 wd_1 wd_862 wd_863 (by decide +kernel) ⟨by decide, by decide⟩) hP hD hS [0, 1, 2] [3] rfl rfl (by decide) 0 rfl rfl rfl rfl hl.1 rfl (Nat.le_of_ble_eq_true rfl) dL_thing_5 (by decide) (fun E ce q9 W1 H locs hw hP hD hS hce hcv hcl => ?_) (fun r_ W1 H locs hw hP hD hS => ?_)
  · rcases hw with ⟨rfl, g1⟩
    refine kCatch (name := "java/util/NoSuchElementException") hX hE hxt [] ⟨0, 10, 13, 19⟩ [⟨0, 10, 17, 13⟩] rfl (fun z hz => absurd hz List.not_mem_nil) (by decide) (by decide) wd_860 (by decide +kernel) hce hcv hcl ?_
    refine W.widen (k := 1) (n := 6) (by decide) (by decide) ?_
    have hP : va_P D vwCl [((a 300), .inl (cy 2, 1, .inr (.inl (fun _ => 0))))] H := hP.sub [0] rfl
    have hD : va_D A [((a 300), .inl (cy 2, 1, .inr (.inl (fun _ => 0))))] := hD.sub [0] (by rfl) rfl
    refine lv_astore (lv' := [(4, .ref q9), (0, .ref (a 0)), (1, .int p1), (2, .int p2), (3, .ref (a 300))]) hx hb dL_thing_13 hl (by decide) rfl (fun ls hl => ?_)
    refine lv_iconst (v := 1) hx hb dL_thing_15 (by decide) ?_
    exact rI hX hE (hP.sub [0] rfl) (hD.sub [0] (by decide) rfl) hS dL_thing_16 (by decide) (by decide) (⟨g1.symm, _, rfl, (fun q => absurd q (by rw [g1]; decide))⟩)
  · refine W.widen (k := 1) (n := 6) (by decide) (by decide) ?_
    have hP : va_P D vwCl [((a 300), .inl (cy 2, 1, .inr (.inl (fun _ => 0))))] H := hP.sub [0] rfl
    have hD : va_D A [((a 300), .inl (cy 2, 1, .inr (.inl (fun _ => 0))))] := hD.sub [0] (by rfl) rfl
    obtain ⟨hk0, hv0⟩ := hw
    have hP : va_P D vwCl [((a 300), .inl (cy 2, 1, .inr (.inl (fun _ => 0))))] H := hP
    have hD : va_D A [((a 300), .inl (cy 2, 1, .inr (.inl (fun _ => 0))))] := hD
    refine lv_i2l hx hb dL_thing_8 rfl ?_
    refine va_last hx hb hK hP hD hS 0 2 rfl rfl (in_lit (by decide)) dL_thing_9 (fun H locs hP hD hS => ?_)
    have hP : va_P D vwCl [((a 300), .inl (cy 2, 1, .inr (.inl (vp_updL (fun _ => 0) (0 : Int32).toNatClampNeg r_.toInt64))))] H := hP
    have hD : va_D A [((a 300), .inl (cy 2, 1, .inr (.inl (vp_updL (fun _ => 0) (0 : Int32).toNatClampNeg r_.toInt64))))] := hD
    refine lv_goto (tgt := 21) hx hb dL_thing_10 (by decide) ?_
    refine lv_iconst (v := 0) hx hb dL_thing_21 (by decide) ?_
    exact rI hX hE (hP.sub [0] rfl) (hD.sub [0] (by decide) rfl) hS dL_thing_22 (by decide) (by decide) (⟨hk0.symm, _, rfl, (fun _ => by first | exact hv0 | (show vp_updL _ _ _ 0 = _; first | exact hv0 | (rw [← hv0]; rfl)))⟩)
set_option maxHeartbeats 4000000 in
set_option maxRecDepth 100000 in
theorem h_walker (l : Launch) (hlt : l.stackTraces = false) (D : va_G) (cy : Nat → ClassId) (a : Nat → Nat) (p1 : Int32) (p2 : Int32) : Hi l yL_walker cL_walker 5 (some .int) [(0, 10, 13, 19), (0, 10, 17, 13)] { frames := 8, cells := 1, slots := 6, locals := 133 } D cy [.ref (a 0), .int p1, .int p2, .ref (a 300)] [((a 0), .inr (10, [.ref (a 1), .int 0, .int 0, .int (-1), .ref (a 2), .ref (a 3), .ref (a 4), .ref (a 5), .ref (a 6), .ref (a 7), .ref (a 8), .ref (a 9), .int 0])), ((a 3), .inr (6, [.ref (a 10), .int 0, .ref (a 21), .ref (a 22), .ref (a 23), .ref (a 24), .ref (a 25), .int 0])), ((a 10), .inr (0, [.int 0, .int 1, .int 1, .int 0, .int 0, .ref (a 11), .ref (a 12), .ref (a 13), .null, .null])), ((a 300), .inl (cy 2, 1, .inr (.inl (fun _ => 0))))] (fun r W1 => r = kf_walker p1 p2 ∧ ∃ g : Nat → Int64, W1 = [((a 300), .inl (cy 2, 1, .inr (.inl g)))] ∧ (kf_walker p1 p2 = 0 → g 0 = vf_walker p1 p2)) := by
  refine Hi.of (by decide) (Nat.le_of_ble_eq_true rfl) ?_
  intro p e s m below meth c A ls hX hE hP hD hl hxt
  obtain ⟨hx, hb, hr, hml, hown, htA, hlk⟩ := id hX
  have hK := hE.1
  have hS : va_S A s.heap s.heap [] := va_S.rf
  have hl : lv_has ls 5 [(0, .ref (a 0)), (1, .int p1), (2, .int p2), (3, .ref (a 300))] := hl
  refine lv_aload_n hx hb dL_walker_0 rfl (lv_at hl 3 rfl) ?_
  refine lv_iconst (v := 0) hx hb dL_walker_1 (by decide) ?_
  refine lv_aload_n hx hb dL_walker_2 rfl (lv_at hl 0 rfl) ?_
  refine lv_iload_n hx hb dL_walker_3 rfl (lv_at hl 1 rfl) ?_
  refine lv_iload_n hx hb dL_walker_4 rfl (lv_at hl 2 rfl) ?_
  refine xVi (As := [.int p1, .int p2]) (rest := [.int 0, .ref (a 300)]) (wr := [((a 300), .inl (cy 2, 1, .inr (.inl (fun _ => 0))))]) hX hE (m_walker l hlt D cy a p1 p2) (cwVA 2 htA wd_892 wd_889 wd_1 wd_890 wd_891 (by decide +kernel) ⟨by decide, by decide⟩) hP hD hS [0, 1, 2] [3] rfl rfl (by decide) 0 rfl rfl rfl rfl hl.1 rfl (Nat.le_of_ble_eq_true rfl) dL_walker_5 (by decide) (fun E ce q9 W1 H locs hw hP hD hS hce hcv hcl => ?_) (fun r_ W1 H locs hw hP hD hS => ?_)
  · rcases hw with ⟨rfl, g1⟩
    refine kCatch (name := "java/util/NoSuchElementException") hX hE hxt [] ⟨0, 10, 13, 19⟩ [⟨0, 10, 17, 13⟩] rfl (fun z hz => absurd hz List.not_mem_nil) (by decide) (by decide) wd_860 (by decide +kernel) hce hcv hcl ?_
    refine W.widen (k := 1) (n := 6) (by decide) (by decide) ?_
    have hP : va_P D vwCl [((a 300), .inl (cy 2, 1, .inr (.inl (fun _ => 0))))] H := hP.sub [0] rfl
    have hD : va_D A [((a 300), .inl (cy 2, 1, .inr (.inl (fun _ => 0))))] := hD.sub [0] (by rfl) rfl
    refine lv_astore (lv' := [(4, .ref q9), (0, .ref (a 0)), (1, .int p1), (2, .int p2), (3, .ref (a 300))]) hx hb dL_walker_13 hl (by decide) rfl (fun ls hl => ?_)
    refine lv_iconst (v := 1) hx hb dL_walker_15 (by decide) ?_
    exact rI hX hE (hP.sub [0] rfl) (hD.sub [0] (by decide) rfl) hS dL_walker_16 (by decide) (by decide) (⟨g1.symm, _, rfl, (fun q => absurd q (by rw [g1]; decide))⟩)
  · refine W.widen (k := 1) (n := 6) (by decide) (by decide) ?_
    have hP : va_P D vwCl [((a 300), .inl (cy 2, 1, .inr (.inl (fun _ => 0))))] H := hP.sub [0] rfl
    have hD : va_D A [((a 300), .inl (cy 2, 1, .inr (.inl (fun _ => 0))))] := hD.sub [0] (by rfl) rfl
    obtain ⟨hk0, hv0⟩ := hw
    have hP : va_P D vwCl [((a 300), .inl (cy 2, 1, .inr (.inl (fun _ => 0))))] H := hP
    have hD : va_D A [((a 300), .inl (cy 2, 1, .inr (.inl (fun _ => 0))))] := hD
    refine lv_i2l hx hb dL_walker_8 rfl ?_
    refine va_last hx hb hK hP hD hS 0 2 rfl rfl (in_lit (by decide)) dL_walker_9 (fun H locs hP hD hS => ?_)
    have hP : va_P D vwCl [((a 300), .inl (cy 2, 1, .inr (.inl (vp_updL (fun _ => 0) (0 : Int32).toNatClampNeg r_.toInt64))))] H := hP
    have hD : va_D A [((a 300), .inl (cy 2, 1, .inr (.inl (vp_updL (fun _ => 0) (0 : Int32).toNatClampNeg r_.toInt64))))] := hD
    refine lv_goto (tgt := 21) hx hb dL_walker_10 (by decide) ?_
    refine lv_iconst (v := 0) hx hb dL_walker_21 (by decide) ?_
    exact rI hX hE (hP.sub [0] rfl) (hD.sub [0] (by decide) rfl) hS dL_walker_22 (by decide) (by decide) (⟨hk0.symm, _, rfl, (fun _ => by first | exact hv0 | (show vp_updL _ _ _ 0 = _; first | exact hv0 | (rw [← hv0]; rfl)))⟩)
set_option maxHeartbeats 4000000 in
set_option maxRecDepth 100000 in
theorem h_height (l : Launch) (hlt : l.stackTraces = false) (D : va_G) (cy : Nat → ClassId) (a : Nat → Nat) (p1 : Int32) : Hi l yL_height cL_height 4 (some .int) [(0, 9, 12, 19)] { frames := 8, cells := 1, slots := 6, locals := 132 } D cy [.ref (a 0), .int p1, .ref (a 300)] [((a 0), .inr (10, [.ref (a 1), .int 0, .int 0, .int (-1), .ref (a 2), .ref (a 3), .ref (a 4), .ref (a 5), .ref (a 6), .ref (a 7), .ref (a 8), .ref (a 9), .int 0])), ((a 3), .inr (6, [.ref (a 10), .int 0, .ref (a 21), .ref (a 22), .ref (a 23), .ref (a 24), .ref (a 25), .int 0])), ((a 10), .inr (0, [.int 0, .int 1, .int 1, .int 0, .int 0, .ref (a 11), .ref (a 12), .ref (a 13), .null, .null])), ((a 300), .inl (cy 2, 1, .inr (.inl (fun _ => 0))))] (fun r W1 => r = kf_height p1 ∧ ∃ g : Nat → Int64, W1 = [((a 300), .inl (cy 2, 1, .inr (.inl g)))] ∧ (kf_height p1 = 0 → g 0 = vf_height p1)) := by
  refine Hi.of (by decide) (Nat.le_of_ble_eq_true rfl) ?_
  intro p e s m below meth c A ls hX hE hP hD hl hxt
  obtain ⟨hx, hb, hr, hml, hown, htA, hlk⟩ := id hX
  have hK := hE.1
  have hS : va_S A s.heap s.heap [] := va_S.rf
  have hl : lv_has ls 4 [(0, .ref (a 0)), (1, .int p1), (2, .ref (a 300))] := hl
  refine lv_aload_n hx hb dL_height_0 rfl (lv_at hl 2 rfl) ?_
  refine lv_iconst (v := 0) hx hb dL_height_1 (by decide) ?_
  refine lv_aload_n hx hb dL_height_2 rfl (lv_at hl 0 rfl) ?_
  refine lv_iload_n hx hb dL_height_3 rfl (lv_at hl 1 rfl) ?_
  refine xVi (As := [.int p1]) (rest := [.int 0, .ref (a 300)]) (wr := [((a 300), .inl (cy 2, 1, .inr (.inl (fun _ => 0))))]) hX hE (m_height l hlt D cy a p1) (cwVA 1 htA wd_905 wd_902 wd_1 wd_903 wd_904 (by decide +kernel) ⟨by decide, by decide⟩) hP hD hS [0, 1, 2] [3] rfl rfl (by decide) 0 rfl rfl rfl rfl hl.1 rfl (Nat.le_of_ble_eq_true rfl) dL_height_4 (by decide) (fun E ce q9 W1 H locs hw hP hD hS hce hcv hcl => ?_) (fun r_ W1 H locs hw hP hD hS => ?_)
  · rcases hw with ⟨rfl, g1⟩
    refine kCatch (name := "java/util/NoSuchElementException") hX hE hxt [] ⟨0, 9, 12, 19⟩ [] rfl (fun z hz => absurd hz List.not_mem_nil) (by decide) (by decide) wd_860 (by decide +kernel) hce hcv hcl ?_
    refine W.widen (k := 1) (n := 6) (by decide) (by decide) ?_
    have hP : va_P D vwCl [((a 300), .inl (cy 2, 1, .inr (.inl (fun _ => 0))))] H := hP.sub [0] rfl
    have hD : va_D A [((a 300), .inl (cy 2, 1, .inr (.inl (fun _ => 0))))] := hD.sub [0] (by rfl) rfl
    refine lv_astore_n (lv' := [(3, .ref q9), (0, .ref (a 0)), (1, .int p1), (2, .ref (a 300))]) hx hb dL_height_12 rfl hl (by decide) rfl (fun ls hl => ?_)
    refine lv_iconst (v := 1) hx hb dL_height_13 (by decide) ?_
    exact rI hX hE (hP.sub [0] rfl) (hD.sub [0] (by decide) rfl) hS dL_height_14 (by decide) (by decide) (⟨g1.symm, _, rfl, (fun q => absurd q (by rw [g1]; decide))⟩)
  · refine W.widen (k := 1) (n := 6) (by decide) (by decide) ?_
    have hP : va_P D vwCl [((a 300), .inl (cy 2, 1, .inr (.inl (fun _ => 0))))] H := hP.sub [0] rfl
    have hD : va_D A [((a 300), .inl (cy 2, 1, .inr (.inl (fun _ => 0))))] := hD.sub [0] (by rfl) rfl
    obtain ⟨hk0, hv0⟩ := hw
    have hP : va_P D vwCl [((a 300), .inl (cy 2, 1, .inr (.inl (fun _ => 0))))] H := hP
    have hD : va_D A [((a 300), .inl (cy 2, 1, .inr (.inl (fun _ => 0))))] := hD
    refine lv_i2l hx hb dL_height_7 rfl ?_
    refine va_last hx hb hK hP hD hS 0 2 rfl rfl (in_lit (by decide)) dL_height_8 (fun H locs hP hD hS => ?_)
    have hP : va_P D vwCl [((a 300), .inl (cy 2, 1, .inr (.inl (vp_updL (fun _ => 0) (0 : Int32).toNatClampNeg r_.toInt64))))] H := hP
    have hD : va_D A [((a 300), .inl (cy 2, 1, .inr (.inl (vp_updL (fun _ => 0) (0 : Int32).toNatClampNeg r_.toInt64))))] := hD
    refine lv_goto (tgt := 15) hx hb dL_height_9 (by decide) ?_
    refine lv_iconst (v := 0) hx hb dL_height_15 (by decide) ?_
    exact rI hX hE (hP.sub [0] rfl) (hD.sub [0] (by decide) rfl) hS dL_height_16 (by decide) (by decide) (⟨hk0.symm, _, rfl, (fun _ => by first | exact hv0 | (show vp_updL _ _ _ 0 = _; first | exact hv0 | (rw [← hv0]; rfl)))⟩)
set_option maxHeartbeats 4000000 in
set_option maxRecDepth 100000 in
theorem h_at (l : Launch) (hlt : l.stackTraces = false) (D : va_G) (cy : Nat → ClassId) (a : Nat → Nat) (p1 : Int32) (p2 : Int32) : Hi l yL_at cL_at 5 (some .int) [(0, 10, 13, 19)] { frames := 8, cells := 1, slots := 6, locals := 134 } D cy [.ref (a 0), .int p1, .int p2, .ref (a 300)] [((a 0), .inr (10, [.ref (a 1), .int 0, .int 0, .int (-1), .ref (a 2), .ref (a 3), .ref (a 4), .ref (a 5), .ref (a 6), .ref (a 7), .ref (a 8), .ref (a 9), .int 0])), ((a 3), .inr (6, [.ref (a 10), .int 0, .ref (a 21), .ref (a 22), .ref (a 23), .ref (a 24), .ref (a 25), .int 0])), ((a 10), .inr (0, [.int 0, .int 1, .int 1, .int 0, .int 0, .ref (a 11), .ref (a 12), .ref (a 13), .null, .null])), ((a 300), .inl (cy 2, 1, .inr (.inl (fun _ => 0))))] (fun r W1 => r = kf_at p1 p2 ∧ ∃ g : Nat → Int64, W1 = [((a 300), .inl (cy 2, 1, .inr (.inl g)))] ∧ (kf_at p1 p2 = 0 → g 0 = vf_at p1 p2)) := by
  refine Hi.of (by decide) (Nat.le_of_ble_eq_true rfl) ?_
  intro p e s m below meth c A ls hX hE hP hD hl hxt
  obtain ⟨hx, hb, hr, hml, hown, htA, hlk⟩ := id hX
  have hK := hE.1
  have hS : va_S A s.heap s.heap [] := va_S.rf
  have hl : lv_has ls 5 [(0, .ref (a 0)), (1, .int p1), (2, .int p2), (3, .ref (a 300))] := hl
  refine lv_aload_n hx hb dL_at_0 rfl (lv_at hl 3 rfl) ?_
  refine lv_iconst (v := 0) hx hb dL_at_1 (by decide) ?_
  refine lv_aload_n hx hb dL_at_2 rfl (lv_at hl 0 rfl) ?_
  refine lv_iload_n hx hb dL_at_3 rfl (lv_at hl 1 rfl) ?_
  refine lv_iload_n hx hb dL_at_4 rfl (lv_at hl 2 rfl) ?_
  refine xVi (As := [.int p1, .int p2]) (rest := [.int 0, .ref (a 300)]) (wr := [((a 300), .inl (cy 2, 1, .inr (.inl (fun _ => 0))))]) hX hE (m_at l hlt D cy a p1 p2) (cwVA 2 htA wd_918 wd_915 wd_1 wd_916 wd_917 (by decide +kernel) ⟨by decide, by decide⟩) hP hD hS [0, 1, 2] [3] rfl rfl (by decide) 0 rfl rfl rfl rfl hl.1 rfl (Nat.le_of_ble_eq_true rfl) dL_at_5 (by decide) (fun E ce q9 W1 H locs hw hP hD hS hce hcv hcl => ?_) (fun r_ W1 H locs hw hP hD hS => ?_)
  · rcases hw with ⟨rfl, g1⟩
    refine kCatch (name := "java/util/NoSuchElementException") hX hE hxt [] ⟨0, 10, 13, 19⟩ [] rfl (fun z hz => absurd hz List.not_mem_nil) (by decide) (by decide) wd_860 (by decide +kernel) hce hcv hcl ?_
    refine W.widen (k := 1) (n := 6) (by decide) (by decide) ?_
    have hP : va_P D vwCl [((a 300), .inl (cy 2, 1, .inr (.inl (fun _ => 0))))] H := hP.sub [0] rfl
    have hD : va_D A [((a 300), .inl (cy 2, 1, .inr (.inl (fun _ => 0))))] := hD.sub [0] (by rfl) rfl
    refine lv_astore (lv' := [(4, .ref q9), (0, .ref (a 0)), (1, .int p1), (2, .int p2), (3, .ref (a 300))]) hx hb dL_at_13 hl (by decide) rfl (fun ls hl => ?_)
    refine lv_iconst (v := 1) hx hb dL_at_15 (by decide) ?_
    exact rI hX hE (hP.sub [0] rfl) (hD.sub [0] (by decide) rfl) hS dL_at_16 (by decide) (by decide) (⟨g1.symm, _, rfl, (fun q => absurd q (by rw [g1]; decide))⟩)
  · refine W.widen (k := 1) (n := 6) (by decide) (by decide) ?_
    have hP : va_P D vwCl [((a 300), .inl (cy 2, 1, .inr (.inl (fun _ => 0))))] H := hP.sub [0] rfl
    have hD : va_D A [((a 300), .inl (cy 2, 1, .inr (.inl (fun _ => 0))))] := hD.sub [0] (by rfl) rfl
    obtain ⟨hk0, hv0⟩ := hw
    have hP : va_P D vwCl [((a 300), .inl (cy 2, 1, .inr (.inl (fun _ => 0))))] H := hP
    have hD : va_D A [((a 300), .inl (cy 2, 1, .inr (.inl (fun _ => 0))))] := hD
    refine lv_i2l hx hb dL_at_8 rfl ?_
    refine va_last hx hb hK hP hD hS 0 2 rfl rfl (in_lit (by decide)) dL_at_9 (fun H locs hP hD hS => ?_)
    have hP : va_P D vwCl [((a 300), .inl (cy 2, 1, .inr (.inl (vp_updL (fun _ => 0) (0 : Int32).toNatClampNeg r_.toInt64))))] H := hP
    have hD : va_D A [((a 300), .inl (cy 2, 1, .inr (.inl (vp_updL (fun _ => 0) (0 : Int32).toNatClampNeg r_.toInt64))))] := hD
    refine lv_goto (tgt := 17) hx hb dL_at_10 (by decide) ?_
    refine lv_iconst (v := 0) hx hb dL_at_17 (by decide) ?_
    exact rI hX hE (hP.sub [0] rfl) (hD.sub [0] (by decide) rfl) hS dL_at_18 (by decide) (by decide) (⟨hk0.symm, _, rfl, (fun _ => by first | exact hv0 | (show vp_updL _ _ _ 0 = _; first | exact hv0 | (rw [← hv0]; rfl)))⟩)
set_option maxHeartbeats 4000000 in
set_option maxRecDepth 100000 in
theorem h_hanging (l : Launch) (hlt : l.stackTraces = false) (D : va_G) (cy : Nat → ClassId) (a : Nat → Nat) (p1 : Int32) (p2 : Int32) (p3 : Int32) (p4 : Int32) : Hi l yL_hanging cL_hanging 7 (some .int) [(0, 14, 17, 19), (0, 14, 21, 13)] { frames := 8, cells := 1, slots := 6, locals := 136 } D cy [.ref (a 0), .int p1, .int p2, .int p3, .int p4, .ref (a 300)] [((a 0), .inr (10, [.ref (a 1), .int 0, .int 0, .int (-1), .ref (a 2), .ref (a 3), .ref (a 4), .ref (a 5), .ref (a 6), .ref (a 7), .ref (a 8), .ref (a 9), .int 0])), ((a 3), .inr (6, [.ref (a 10), .int 0, .ref (a 21), .ref (a 22), .ref (a 23), .ref (a 24), .ref (a 25), .int 0])), ((a 10), .inr (0, [.int 0, .int 1, .int 1, .int 0, .int 0, .ref (a 11), .ref (a 12), .ref (a 13), .null, .null])), ((a 300), .inl (cy 2, 1, .inr (.inl (fun _ => 0))))] (fun r W1 => r = kf_hanging p1 p2 p3 p4 ∧ ∃ g : Nat → Int64, W1 = [((a 300), .inl (cy 2, 1, .inr (.inl g)))] ∧ (kf_hanging p1 p2 p3 p4 = 0 → g 0 = vf_hanging p1 p2 p3 p4)) := by
  refine Hi.of (by decide) (Nat.le_of_ble_eq_true rfl) ?_
  intro p e s m below meth c A ls hX hE hP hD hl hxt
  obtain ⟨hx, hb, hr, hml, hown, htA, hlk⟩ := id hX
  have hK := hE.1
  have hS : va_S A s.heap s.heap [] := va_S.rf
  have hl : lv_has ls 7 [(0, .ref (a 0)), (1, .int p1), (2, .int p2), (3, .int p3), (4, .int p4), (5, .ref (a 300))] := hl
  refine lv_aload hx hb dL_hanging_0 (lv_at hl 5 rfl) ?_
  refine lv_iconst (v := 0) hx hb dL_hanging_2 (by decide) ?_
  refine lv_aload_n hx hb dL_hanging_3 rfl (lv_at hl 0 rfl) ?_
  refine lv_iload_n hx hb dL_hanging_4 rfl (lv_at hl 1 rfl) ?_
  refine lv_iload_n hx hb dL_hanging_5 rfl (lv_at hl 2 rfl) ?_
  refine lv_iload_n hx hb dL_hanging_6 rfl (lv_at hl 3 rfl) ?_
  refine lv_iload hx hb dL_hanging_7 (lv_at hl 4 rfl) ?_
  refine xVi (As := [.int p1, .int p2, .int p3, .int p4]) (rest := [.int 0, .ref (a 300)]) (wr := [((a 300), .inl (cy 2, 1, .inr (.inl (fun _ => 0))))]) hX hE (m_hanging l hlt D cy a p1 p2 p3 p4) (cwVA 4 htA wd_932 wd_929 wd_1 wd_930 wd_931 (by decide +kernel) ⟨by decide, by decide⟩) hP hD hS [0, 1, 2] [3] rfl rfl (by decide) 0 rfl rfl rfl rfl hl.1 rfl (Nat.le_of_ble_eq_true rfl) dL_hanging_9 (by decide) (fun E ce q9 W1 H locs hw hP hD hS hce hcv hcl => ?_) (fun r_ W1 H locs hw hP hD hS => ?_)
  · rcases hw with ⟨rfl, g1⟩
    refine kCatch (name := "java/util/NoSuchElementException") hX hE hxt [] ⟨0, 14, 17, 19⟩ [⟨0, 14, 21, 13⟩] rfl (fun z hz => absurd hz List.not_mem_nil) (by decide) (by decide) wd_860 (by decide +kernel) hce hcv hcl ?_
    refine W.widen (k := 1) (n := 6) (by decide) (by decide) ?_
    have hP : va_P D vwCl [((a 300), .inl (cy 2, 1, .inr (.inl (fun _ => 0))))] H := hP.sub [0] rfl
    have hD : va_D A [((a 300), .inl (cy 2, 1, .inr (.inl (fun _ => 0))))] := hD.sub [0] (by rfl) rfl
    refine lv_astore (lv' := [(6, .ref q9), (0, .ref (a 0)), (1, .int p1), (2, .int p2), (3, .int p3), (4, .int p4), (5, .ref (a 300))]) hx hb dL_hanging_17 hl (by decide) rfl (fun ls hl => ?_)
    refine lv_iconst (v := 1) hx hb dL_hanging_19 (by decide) ?_
    exact rI hX hE (hP.sub [0] rfl) (hD.sub [0] (by decide) rfl) hS dL_hanging_20 (by decide) (by decide) (⟨g1.symm, _, rfl, (fun q => absurd q (by rw [g1]; decide))⟩)
  · refine W.widen (k := 1) (n := 6) (by decide) (by decide) ?_
    have hP : va_P D vwCl [((a 300), .inl (cy 2, 1, .inr (.inl (fun _ => 0))))] H := hP.sub [0] rfl
    have hD : va_D A [((a 300), .inl (cy 2, 1, .inr (.inl (fun _ => 0))))] := hD.sub [0] (by rfl) rfl
    obtain ⟨hk0, hv0⟩ := hw
    have hP : va_P D vwCl [((a 300), .inl (cy 2, 1, .inr (.inl (fun _ => 0))))] H := hP
    have hD : va_D A [((a 300), .inl (cy 2, 1, .inr (.inl (fun _ => 0))))] := hD
    refine lv_i2l hx hb dL_hanging_12 rfl ?_
    refine va_last hx hb hK hP hD hS 0 2 rfl rfl (in_lit (by decide)) dL_hanging_13 (fun H locs hP hD hS => ?_)
    have hP : va_P D vwCl [((a 300), .inl (cy 2, 1, .inr (.inl (vp_updL (fun _ => 0) (0 : Int32).toNatClampNeg r_.toInt64))))] H := hP
    have hD : va_D A [((a 300), .inl (cy 2, 1, .inr (.inl (vp_updL (fun _ => 0) (0 : Int32).toNatClampNeg r_.toInt64))))] := hD
    refine lv_goto (tgt := 25) hx hb dL_hanging_14 (by decide) ?_
    refine lv_iconst (v := 0) hx hb dL_hanging_25 (by decide) ?_
    exact rI hX hE (hP.sub [0] rfl) (hD.sub [0] (by decide) rfl) hS dL_hanging_26 (by decide) (by decide) (⟨hk0.symm, _, rfl, (fun _ => by first | exact hv0 | (show vp_updL _ _ _ 0 = _; first | exact hv0 | (rw [← hv0]; rfl)))⟩)
set_option maxHeartbeats 4000000 in
set_option maxRecDepth 100000 in
theorem h_hours (l : Launch) (hlt : l.stackTraces = false) (D : va_G) (cy : Nat → ClassId) (a : Nat → Nat) (p1 : Int32) : Hi l yL_hours cL_hours 4 (some .int) [(0, 9, 12, 13)] { frames := 8, cells := 1, slots := 6, locals := 133 } D cy [.ref (a 0), .int p1, .ref (a 300)] [((a 0), .inr (10, [.ref (a 1), .int 0, .int 0, .int (-1), .ref (a 2), .ref (a 3), .ref (a 4), .ref (a 5), .ref (a 6), .ref (a 7), .ref (a 8), .ref (a 9), .int 0])), ((a 4), .inr (2, [.ref (a 70), .int 0, .int 0])), ((a 70), .inl (cy 4, 10, .inr (.inr (.inr (.inr (va_up (va_up (va_up (va_up (va_up (va_up (va_up (va_up (va_up (va_up (fun _ => none) (0 : Int32).toNatClampNeg (some (a 100))) (1 : Int32).toNatClampNeg (some (a 110))) (2 : Int32).toNatClampNeg (some (a 120))) (3 : Int32).toNatClampNeg (some (a 130))) (4 : Int32).toNatClampNeg (some (a 140))) (5 : Int32).toNatClampNeg (some (a 150))) (6 : Int32).toNatClampNeg (some (a 160))) (7 : Int32).toNatClampNeg (some (a 170))) (8 : Int32).toNatClampNeg (some (a 180))) (9 : Int32).toNatClampNeg (some (a 190)))))))), ((a 100), .inr (6, [.ref (a 10), .int 0, .ref (a 101), .ref (a 102), .ref (a 103), .ref (a 104), .ref (a 105), .int 0])), ((a 101), .inl (cy 0, 8, .inl (fun _ => 0))), ((a 102), .inl (cy 0, 8, .inl (fun _ => 0))), ((a 103), .inl (cy 0, 8, .inl (fun _ => 0))), ((a 104), .inl (cy 0, 8, .inl (fun _ => 0))), ((a 105), .inl (cy 0, 4, .inl (fun _ => 0))), ((a 3), .inr (6, [.ref (a 10), .int 0, .ref (a 21), .ref (a 22), .ref (a 23), .ref (a 24), .ref (a 25), .int 0])), ((a 21), .inl (cy 0, 8, .inl (fun _ => 0))), ((a 22), .inl (cy 0, 8, .inl (fun _ => 0))), ((a 23), .inl (cy 0, 8, .inl (fun _ => 0))), ((a 24), .inl (cy 0, 8, .inl (fun _ => 0))), ((a 25), .inl (cy 0, 4, .inl (fun _ => 0))), ((a 10), .inr (0, [.int 0, .int 1, .int 1, .int 0, .int 0, .ref (a 11), .ref (a 12), .ref (a 13), .null, .null])), ((a 300), .inl (cy 2, 1, .inr (.inl (fun _ => 0))))] (fun r W1 => r = kf_hours p1 ∧ ∃ g : Nat → Int64, W1 = [((a 300), .inl (cy 2, 1, .inr (.inl g)))] ∧ (kf_hours p1 = 0 → g 0 = vf_hours p1)) := by
  refine Hi.of (by decide) (Nat.le_of_ble_eq_true rfl) ?_
  intro p e s m below meth c A ls hX hE hP hD hl hxt
  obtain ⟨hx, hb, hr, hml, hown, htA, hlk⟩ := id hX
  have hK := hE.1
  have hS : va_S A s.heap s.heap [] := va_S.rf
  have hl : lv_has ls 4 [(0, .ref (a 0)), (1, .int p1), (2, .ref (a 300))] := hl
  refine lv_aload_n hx hb dL_hours_0 rfl (lv_at hl 2 rfl) ?_
  refine lv_iconst (v := 0) hx hb dL_hours_1 (by decide) ?_
  refine lv_aload_n hx hb dL_hours_2 rfl (lv_at hl 0 rfl) ?_
  refine lv_iload_n hx hb dL_hours_3 rfl (lv_at hl 1 rfl) ?_
  refine xVi (As := [.int p1]) (rest := [.int 0, .ref (a 300)]) (wr := [((a 300), .inl (cy 2, 1, .inr (.inl (fun _ => 0))))]) hX hE (m_hours l hlt D cy a p1) (cwVA 1 htA wd_944 wd_941 wd_1 wd_942 wd_943 (by decide +kernel) ⟨by decide, by decide⟩) hP hD hS [0, 1, 2, 3, 4, 5, 6, 7, 8, 9, 10, 11, 12, 13, 14, 15] [16] rfl rfl (by decide) 0 rfl rfl rfl rfl hl.1 rfl (Nat.le_of_ble_eq_true rfl) dL_hours_4 (by decide) (fun E ce q9 W1 H locs hw hP hD hS hce hcv hcl => ?_) (fun r_ W1 H locs hw hP hD hS => ?_)
  · rcases hw with ⟨rfl, g1⟩
    refine kCatch (name := "java/lang/IllegalArgumentException") hX hE hxt [] ⟨0, 9, 12, 13⟩ [] rfl (fun z hz => absurd hz List.not_mem_nil) (by decide) (by decide) wd_526 (by decide +kernel) hce hcv hcl ?_
    refine W.widen (k := 1) (n := 6) (by decide) (by decide) ?_
    have hP : va_P D vwCl [((a 300), .inl (cy 2, 1, .inr (.inl (fun _ => 0))))] H := hP.sub [0] rfl
    have hD : va_D A [((a 300), .inl (cy 2, 1, .inr (.inl (fun _ => 0))))] := hD.sub [0] (by rfl) rfl
    refine lv_astore_n (lv' := [(3, .ref q9), (0, .ref (a 0)), (1, .int p1), (2, .ref (a 300))]) hx hb dL_hours_12 rfl hl (by decide) rfl (fun ls hl => ?_)
    refine lv_iconst (v := 1) hx hb dL_hours_13 (by decide) ?_
    exact rI hX hE (hP.sub [0] rfl) (hD.sub [0] (by decide) rfl) hS dL_hours_14 (by decide) (by decide) (⟨g1.symm, _, rfl, (fun q => absurd q (by rw [g1]; decide))⟩)
  · refine W.widen (k := 1) (n := 6) (by decide) (by decide) ?_
    have hP : va_P D vwCl [((a 300), .inl (cy 2, 1, .inr (.inl (fun _ => 0))))] H := hP.sub [0] rfl
    have hD : va_D A [((a 300), .inl (cy 2, 1, .inr (.inl (fun _ => 0))))] := hD.sub [0] (by rfl) rfl
    obtain ⟨hk0, hv0⟩ := hw
    have hP : va_P D vwCl [((a 300), .inl (cy 2, 1, .inr (.inl (fun _ => 0))))] H := hP
    have hD : va_D A [((a 300), .inl (cy 2, 1, .inr (.inl (fun _ => 0))))] := hD
    refine lv_i2l hx hb dL_hours_7 rfl ?_
    refine va_last hx hb hK hP hD hS 0 2 rfl rfl (in_lit (by decide)) dL_hours_8 (fun H locs hP hD hS => ?_)
    have hP : va_P D vwCl [((a 300), .inl (cy 2, 1, .inr (.inl (vp_updL (fun _ => 0) (0 : Int32).toNatClampNeg r_.toInt64))))] H := hP
    have hD : va_D A [((a 300), .inl (cy 2, 1, .inr (.inl (vp_updL (fun _ => 0) (0 : Int32).toNatClampNeg r_.toInt64))))] := hD
    refine lv_goto (tgt := 15) hx hb dL_hours_9 (by decide) ?_
    refine lv_iconst (v := 0) hx hb dL_hours_15 (by decide) ?_
    exact rI hX hE (hP.sub [0] rfl) (hD.sub [0] (by decide) rfl) hS dL_hours_16 (by decide) (by decide) (⟨hk0.symm, _, rfl, (fun _ => by first | exact hv0 | (show vp_updL _ _ _ 0 = _; first | exact hv0 | (rw [← hv0]; rfl)))⟩)
set_option maxHeartbeats 4000000 in
set_option maxRecDepth 100000 in
theorem h_undo (l : Launch) (hlt : l.stackTraces = false) (D : va_G) (cy : Nat → ClassId) (a : Nat → Nat) (p1 : Int32) : Hi l yL_undo cL_undo 4 (some .int) [(0, 9, 12, 13)] { frames := 7, cells := 1, slots := 6, locals := 111 } D cy [.ref (a 0), .int p1, .ref (a 300)] [((a 0), .inr (10, [.ref (a 1), .int 0, .int 0, .int (-1), .ref (a 2), .ref (a 3), .ref (a 4), .ref (a 5), .ref (a 6), .ref (a 7), .ref (a 8), .ref (a 9), .int 0])), ((a 4), .inr (2, [.ref (a 70), .int 0, .int 0])), ((a 300), .inl (cy 2, 1, .inr (.inl (fun _ => 0))))] (fun r W1 => r = kf_undo p1 ∧ ∃ g : Nat → Int64, W1 = [((a 300), .inl (cy 2, 1, .inr (.inl g)))] ∧ (kf_undo p1 = 0 → g 0 = vf_undo p1)) := by
  refine Hi.of (by decide) (Nat.le_of_ble_eq_true rfl) ?_
  intro p e s m below meth c A ls hX hE hP hD hl hxt
  obtain ⟨hx, hb, hr, hml, hown, htA, hlk⟩ := id hX
  have hK := hE.1
  have hS : va_S A s.heap s.heap [] := va_S.rf
  have hl : lv_has ls 4 [(0, .ref (a 0)), (1, .int p1), (2, .ref (a 300))] := hl
  refine lv_aload_n hx hb dL_undo_0 rfl (lv_at hl 2 rfl) ?_
  refine lv_iconst (v := 0) hx hb dL_undo_1 (by decide) ?_
  refine lv_aload_n hx hb dL_undo_2 rfl (lv_at hl 0 rfl) ?_
  refine lv_iload_n hx hb dL_undo_3 rfl (lv_at hl 1 rfl) ?_
  refine xVi (As := [.int p1]) (rest := [.int 0, .ref (a 300)]) (wr := [((a 300), .inl (cy 2, 1, .inr (.inl (fun _ => 0))))]) hX hE (m_undo l hlt D cy a p1) (cwVA 1 htA wd_956 wd_953 wd_1 wd_954 wd_955 (by decide +kernel) ⟨by decide, by decide⟩) hP hD hS [0, 1] [2] rfl rfl (by decide) 0 rfl rfl rfl rfl hl.1 rfl (Nat.le_of_ble_eq_true rfl) dL_undo_4 (by decide) (fun E ce q9 W1 H locs hw hP hD hS hce hcv hcl => ?_) (fun r_ W1 H locs hw hP hD hS => ?_)
  · rcases hw with ⟨rfl, g1⟩
    refine kCatch (name := "java/lang/IllegalArgumentException") hX hE hxt [] ⟨0, 9, 12, 13⟩ [] rfl (fun z hz => absurd hz List.not_mem_nil) (by decide) (by decide) wd_526 (by decide +kernel) hce hcv hcl ?_
    refine W.widen (k := 1) (n := 6) (by decide) (by decide) ?_
    have hP : va_P D vwCl [((a 300), .inl (cy 2, 1, .inr (.inl (fun _ => 0))))] H := hP.sub [0] rfl
    have hD : va_D A [((a 300), .inl (cy 2, 1, .inr (.inl (fun _ => 0))))] := hD.sub [0] (by rfl) rfl
    refine lv_astore_n (lv' := [(3, .ref q9), (0, .ref (a 0)), (1, .int p1), (2, .ref (a 300))]) hx hb dL_undo_12 rfl hl (by decide) rfl (fun ls hl => ?_)
    refine lv_iconst (v := 1) hx hb dL_undo_13 (by decide) ?_
    exact rI hX hE (hP.sub [0] rfl) (hD.sub [0] (by decide) rfl) hS dL_undo_14 (by decide) (by decide) (⟨g1.symm, _, rfl, (fun q => absurd q (by rw [g1]; decide))⟩)
  · refine W.widen (k := 1) (n := 6) (by decide) (by decide) ?_
    have hP : va_P D vwCl [((a 300), .inl (cy 2, 1, .inr (.inl (fun _ => 0))))] H := hP.sub [0] rfl
    have hD : va_D A [((a 300), .inl (cy 2, 1, .inr (.inl (fun _ => 0))))] := hD.sub [0] (by rfl) rfl
    obtain ⟨hk0, hv0⟩ := hw
    have hP : va_P D vwCl [((a 300), .inl (cy 2, 1, .inr (.inl (fun _ => 0))))] H := hP
    have hD : va_D A [((a 300), .inl (cy 2, 1, .inr (.inl (fun _ => 0))))] := hD
    refine lv_i2l hx hb dL_undo_7 rfl ?_
    refine va_last hx hb hK hP hD hS 0 2 rfl rfl (in_lit (by decide)) dL_undo_8 (fun H locs hP hD hS => ?_)
    have hP : va_P D vwCl [((a 300), .inl (cy 2, 1, .inr (.inl (vp_updL (fun _ => 0) (0 : Int32).toNatClampNeg r_.toInt64))))] H := hP
    have hD : va_D A [((a 300), .inl (cy 2, 1, .inr (.inl (vp_updL (fun _ => 0) (0 : Int32).toNatClampNeg r_.toInt64))))] := hD
    refine lv_goto (tgt := 15) hx hb dL_undo_9 (by decide) ?_
    refine lv_iconst (v := 0) hx hb dL_undo_15 (by decide) ?_
    exact rI hX hE (hP.sub [0] rfl) (hD.sub [0] (by decide) rfl) hS dL_undo_16 (by decide) (by decide) (⟨hk0.symm, _, rfl, (fun _ => by first | exact hv0 | (show vp_updL _ _ _ 0 = _; first | exact hv0 | (rw [← hv0]; rfl)))⟩)
set_option maxHeartbeats 4000000 in
set_option maxRecDepth 100000 in
theorem h_judge (l : Launch) (hlt : l.stackTraces = false) (D : va_G) (cy : Nat → ClassId) (a : Nat → Nat) (p1 : Int32) (p2 : Int32) : Hi l yL_judge cL_judge 5 (some .int) [(0, 10, 13, 19), (0, 10, 17, 43), (0, 10, 21, 13)] { frames := 9, cells := 2, slots := 12, locals := 160 } D cy [.ref (a 0), .int p1, .int p2, .ref (a 300)] [((a 0), .inr (10, [.ref (a 1), .int 0, .int 0, .int (-1), .ref (a 2), .ref (a 3), .ref (a 4), .ref (a 5), .ref (a 6), .ref (a 7), .ref (a 8), .ref (a 9), .int 0])), ((a 8), .inl (cy 5, 4, .inr (.inr (.inr (.inr (va_up (va_up (va_up (va_up (fun _ => none) (0 : Int32).toNatClampNeg (some (a 60))) (1 : Int32).toNatClampNeg (some (a 61))) (2 : Int32).toNatClampNeg (some (a 62))) (3 : Int32).toNatClampNeg (some (a 63)))))))), ((a 60), .inr (8, [.int (-1), .int 0, .ref (a 64)])), ((a 61), .inr (8, [.int (-1), .int 0, .ref (a 65)])), ((a 62), .inr (8, [.int (-1), .int 0, .ref (a 66)])), ((a 63), .inr (8, [.int (-1), .int 0, .ref (a 67)])), ((a 300), .inl (cy 2, 1, .inr (.inl (fun _ => 0))))] (fun r W1 => r = kf_judge p1 p2 ∧ ∃ g : Nat → Int64, W1 = [((a 300), .inl (cy 2, 1, .inr (.inl g)))] ∧ (kf_judge p1 p2 = 0 → g 0 = vf_judge p1 p2)) := by
  refine Hi.of (by decide) (Nat.le_of_ble_eq_true rfl) ?_
  intro p e s m below meth c A ls hX hE hP hD hl hxt
  obtain ⟨hx, hb, hr, hml, hown, htA, hlk⟩ := id hX
  have hK := hE.1
  have hS : va_S A s.heap s.heap [] := va_S.rf
  have hl : lv_has ls 5 [(0, .ref (a 0)), (1, .int p1), (2, .int p2), (3, .ref (a 300))] := hl
  refine lv_aload_n hx hb dL_judge_0 rfl (lv_at hl 3 rfl) ?_
  refine lv_iconst (v := 0) hx hb dL_judge_1 (by decide) ?_
  refine lv_aload_n hx hb dL_judge_2 rfl (lv_at hl 0 rfl) ?_
  refine lv_iload_n hx hb dL_judge_3 rfl (lv_at hl 1 rfl) ?_
  refine lv_iload_n hx hb dL_judge_4 rfl (lv_at hl 2 rfl) ?_
  refine xVi (As := [.int p1, .int p2]) (rest := [.int 0, .ref (a 300)]) (wr := [((a 300), .inl (cy 2, 1, .inr (.inl (fun _ => 0))))]) hX hE (m_judge l hlt D cy a p1 p2) (cwVA 2 htA wd_969 wd_966 wd_1 wd_967 wd_968 (by decide +kernel) ⟨by decide, by decide⟩) hP hD hS [0, 1, 2, 3, 4, 5] [6] rfl rfl (by decide) 0 rfl rfl rfl rfl hl.1 rfl (Nat.le_of_ble_eq_true rfl) dL_judge_5 (by decide) (fun E ce q9 W1 H locs hw hP hD hS hce hcv hcl => ?_) (fun r_ W1 H locs hw hP hD hS => ?_)
  · rcases hw with ⟨rfl, g1⟩ | ⟨rfl, g2⟩
    · refine kCatch (name := "java/util/NoSuchElementException") hX hE hxt [] ⟨0, 10, 13, 19⟩ [⟨0, 10, 17, 43⟩, ⟨0, 10, 21, 13⟩] rfl (fun z hz => absurd hz List.not_mem_nil) (by decide) (by decide) wd_860 (by decide +kernel) hce hcv hcl ?_
      refine W.widen (k := 2) (n := 12) (by decide) (by decide) ?_
      have hP : va_P D vwCl [((a 300), .inl (cy 2, 1, .inr (.inl (fun _ => 0))))] H := hP.sub [0] rfl
      have hD : va_D A [((a 300), .inl (cy 2, 1, .inr (.inl (fun _ => 0))))] := hD.sub [0] (by rfl) rfl
      refine lv_astore (lv' := [(4, .ref q9), (0, .ref (a 0)), (1, .int p1), (2, .int p2), (3, .ref (a 300))]) hx hb dL_judge_13 hl (by decide) rfl (fun ls hl => ?_)
      refine lv_iconst (v := 1) hx hb dL_judge_15 (by decide) ?_
      exact rI hX hE (hP.sub [0] rfl) (hD.sub [0] (by decide) rfl) hS dL_judge_16 (by decide) (by decide) (⟨g1.symm, _, rfl, (fun q => absurd q (by rw [g1]; decide))⟩)
    · refine kCatch (name := "java/lang/IllegalStateException") hX hE hxt [⟨0, 10, 13, 19⟩] ⟨0, 10, 17, 43⟩ [⟨0, 10, 21, 13⟩] rfl (List.forall_mem_cons.mpr ⟨Or.inr ⟨by decide, "java/util/NoSuchElementException", htA _ wd_860, hE.2.2.2.2.2.1 ("java/lang/IllegalStateException", "java/util/NoSuchElementException") (by decide)⟩, (fun z hz => absurd hz List.not_mem_nil)⟩) (by decide) (by decide) wd_965 (by decide +kernel) hce hcv hcl ?_
      refine W.widen (k := 2) (n := 12) (by decide) (by decide) ?_
      have hP : va_P D vwCl [((a 300), .inl (cy 2, 1, .inr (.inl (fun _ => 0))))] H := hP.sub [0] rfl
      have hD : va_D A [((a 300), .inl (cy 2, 1, .inr (.inl (fun _ => 0))))] := hD.sub [0] (by rfl) rfl
      refine lv_astore (lv' := [(4, .ref q9), (0, .ref (a 0)), (1, .int p1), (2, .int p2), (3, .ref (a 300))]) hx hb dL_judge_17 hl (by decide) rfl (fun ls hl => ?_)
      refine lv_iconst (v := 2) hx hb dL_judge_19 (by decide) ?_
      exact rI hX hE (hP.sub [0] rfl) (hD.sub [0] (by decide) rfl) hS dL_judge_20 (by decide) (by decide) (⟨g2.symm, _, rfl, (fun q => absurd q (by rw [g2]; decide))⟩)
  · refine W.widen (k := 2) (n := 12) (by decide) (by decide) ?_
    have hP : va_P D vwCl [((a 300), .inl (cy 2, 1, .inr (.inl (fun _ => 0))))] H := hP.sub [0] rfl
    have hD : va_D A [((a 300), .inl (cy 2, 1, .inr (.inl (fun _ => 0))))] := hD.sub [0] (by rfl) rfl
    obtain ⟨hk0, hv0⟩ := hw
    have hP : va_P D vwCl [((a 300), .inl (cy 2, 1, .inr (.inl (fun _ => 0))))] H := hP
    have hD : va_D A [((a 300), .inl (cy 2, 1, .inr (.inl (fun _ => 0))))] := hD
    refine lv_i2l hx hb dL_judge_8 rfl ?_
    refine va_last hx hb hK hP hD hS 0 2 rfl rfl (in_lit (by decide)) dL_judge_9 (fun H locs hP hD hS => ?_)
    have hP : va_P D vwCl [((a 300), .inl (cy 2, 1, .inr (.inl (vp_updL (fun _ => 0) (0 : Int32).toNatClampNeg r_.toInt64))))] H := hP
    have hD : va_D A [((a 300), .inl (cy 2, 1, .inr (.inl (vp_updL (fun _ => 0) (0 : Int32).toNatClampNeg r_.toInt64))))] := hD
    refine lv_goto (tgt := 25) hx hb dL_judge_10 (by decide) ?_
    refine lv_iconst (v := 0) hx hb dL_judge_25 (by decide) ?_
    exact rI hX hE (hP.sub [0] rfl) (hD.sub [0] (by decide) rfl) hS dL_judge_26 (by decide) (by decide) (⟨hk0.symm, _, rfl, (fun _ => by first | exact hv0 | (show vp_updL _ _ _ 0 = _; first | exact hv0 | (rw [← hv0]; rfl)))⟩)
set_option maxHeartbeats 4000000 in
set_option maxRecDepth 100000 in
theorem h_perform (l : Launch) (hlt : l.stackTraces = false) (D : va_G) (cy : Nat → ClassId) (a : Nat → Nat) (p1 : Int32) : Hi l yL_perform cL_perform 4 (some .int) [(0, 9, 12, 19), (0, 9, 15, 43)] { frames := 9, cells := 2, slots := 12, locals := 157 } D cy [.ref (a 0), .int p1, .ref (a 300)] [((a 0), .inr (10, [.ref (a 1), .int 0, .int 0, .int (-1), .ref (a 2), .ref (a 3), .ref (a 4), .ref (a 5), .ref (a 6), .ref (a 7), .ref (a 8), .ref (a 9), .int 0])), ((a 8), .inl (cy 5, 4, .inr (.inr (.inr (.inr (va_up (va_up (va_up (va_up (fun _ => none) (0 : Int32).toNatClampNeg (some (a 60))) (1 : Int32).toNatClampNeg (some (a 61))) (2 : Int32).toNatClampNeg (some (a 62))) (3 : Int32).toNatClampNeg (some (a 63)))))))), ((a 60), .inr (8, [.int (-1), .int 0, .ref (a 64)])), ((a 61), .inr (8, [.int (-1), .int 0, .ref (a 65)])), ((a 62), .inr (8, [.int (-1), .int 0, .ref (a 66)])), ((a 63), .inr (8, [.int (-1), .int 0, .ref (a 67)])), ((a 300), .inl (cy 2, 1, .inr (.inl (fun _ => 0))))] (fun r W1 => r = kf_perform p1 ∧ ∃ g : Nat → Int64, W1 = [((a 300), .inl (cy 2, 1, .inr (.inl g)))] ∧ (kf_perform p1 = 0 → g 0 = vf_perform p1)) := by
  refine Hi.of (by decide) (Nat.le_of_ble_eq_true rfl) ?_
  intro p e s m below meth c A ls hX hE hP hD hl hxt
  obtain ⟨hx, hb, hr, hml, hown, htA, hlk⟩ := id hX
  have hK := hE.1
  have hS : va_S A s.heap s.heap [] := va_S.rf
  have hl : lv_has ls 4 [(0, .ref (a 0)), (1, .int p1), (2, .ref (a 300))] := hl
  refine lv_aload_n hx hb dL_perform_0 rfl (lv_at hl 2 rfl) ?_
  refine lv_iconst (v := 0) hx hb dL_perform_1 (by decide) ?_
  refine lv_aload_n hx hb dL_perform_2 rfl (lv_at hl 0 rfl) ?_
  refine lv_iload_n hx hb dL_perform_3 rfl (lv_at hl 1 rfl) ?_
  refine xVi (As := [.int p1]) (rest := [.int 0, .ref (a 300)]) (wr := [((a 300), .inl (cy 2, 1, .inr (.inl (fun _ => 0))))]) hX hE (m_perform l hlt D cy a p1) (cwVA 1 htA wd_1013 wd_1010 wd_1 wd_1011 wd_1012 (by decide +kernel) ⟨by decide, by decide⟩) hP hD hS [0, 1, 2, 3, 4, 5] [6] rfl rfl (by decide) 0 rfl rfl rfl rfl hl.1 rfl (Nat.le_of_ble_eq_true rfl) dL_perform_4 (by decide) (fun E ce q9 W1 H locs hw hP hD hS hce hcv hcl => ?_) (fun r_ W1 H locs hw hP hD hS => ?_)
  · rcases hw with ⟨rfl, g1⟩ | ⟨rfl, g2⟩
    · refine kCatch (name := "java/util/NoSuchElementException") hX hE hxt [] ⟨0, 9, 12, 19⟩ [⟨0, 9, 15, 43⟩] rfl (fun z hz => absurd hz List.not_mem_nil) (by decide) (by decide) wd_860 (by decide +kernel) hce hcv hcl ?_
      refine W.widen (k := 2) (n := 12) (by decide) (by decide) ?_
      have hP : va_P D vwCl [((a 300), .inl (cy 2, 1, .inr (.inl (fun _ => 0))))] H := hP.sub [0] rfl
      have hD : va_D A [((a 300), .inl (cy 2, 1, .inr (.inl (fun _ => 0))))] := hD.sub [0] (by rfl) rfl
      refine lv_astore_n (lv' := [(3, .ref q9), (0, .ref (a 0)), (1, .int p1), (2, .ref (a 300))]) hx hb dL_perform_12 rfl hl (by decide) rfl (fun ls hl => ?_)
      refine lv_iconst (v := 1) hx hb dL_perform_13 (by decide) ?_
      exact rI hX hE (hP.sub [0] rfl) (hD.sub [0] (by decide) rfl) hS dL_perform_14 (by decide) (by decide) (⟨g1.symm, _, rfl, (fun q => absurd q (by rw [g1]; decide))⟩)
    · refine kCatch (name := "java/lang/IllegalStateException") hX hE hxt [⟨0, 9, 12, 19⟩] ⟨0, 9, 15, 43⟩ [] rfl (List.forall_mem_cons.mpr ⟨Or.inr ⟨by decide, "java/util/NoSuchElementException", htA _ wd_860, hE.2.2.2.2.2.1 ("java/lang/IllegalStateException", "java/util/NoSuchElementException") (by decide)⟩, (fun z hz => absurd hz List.not_mem_nil)⟩) (by decide) (by decide) wd_965 (by decide +kernel) hce hcv hcl ?_
      refine W.widen (k := 2) (n := 12) (by decide) (by decide) ?_
      have hP : va_P D vwCl [((a 300), .inl (cy 2, 1, .inr (.inl (fun _ => 0))))] H := hP.sub [0] rfl
      have hD : va_D A [((a 300), .inl (cy 2, 1, .inr (.inl (fun _ => 0))))] := hD.sub [0] (by rfl) rfl
      refine lv_astore_n (lv' := [(3, .ref q9), (0, .ref (a 0)), (1, .int p1), (2, .ref (a 300))]) hx hb dL_perform_15 rfl hl (by decide) rfl (fun ls hl => ?_)
      refine lv_iconst (v := 2) hx hb dL_perform_16 (by decide) ?_
      exact rI hX hE (hP.sub [0] rfl) (hD.sub [0] (by decide) rfl) hS dL_perform_17 (by decide) (by decide) (⟨g2.symm, _, rfl, (fun q => absurd q (by rw [g2]; decide))⟩)
  · refine W.widen (k := 2) (n := 12) (by decide) (by decide) ?_
    have hP : va_P D vwCl [((a 300), .inl (cy 2, 1, .inr (.inl (fun _ => 0))))] H := hP.sub [0] rfl
    have hD : va_D A [((a 300), .inl (cy 2, 1, .inr (.inl (fun _ => 0))))] := hD.sub [0] (by rfl) rfl
    obtain ⟨hk0, hv0⟩ := hw
    have hP : va_P D vwCl [((a 300), .inl (cy 2, 1, .inr (.inl (fun _ => 0))))] H := hP
    have hD : va_D A [((a 300), .inl (cy 2, 1, .inr (.inl (fun _ => 0))))] := hD
    refine lv_i2l hx hb dL_perform_7 rfl ?_
    refine va_last hx hb hK hP hD hS 0 2 rfl rfl (in_lit (by decide)) dL_perform_8 (fun H locs hP hD hS => ?_)
    have hP : va_P D vwCl [((a 300), .inl (cy 2, 1, .inr (.inl (vp_updL (fun _ => 0) (0 : Int32).toNatClampNeg r_.toInt64))))] H := hP
    have hD : va_D A [((a 300), .inl (cy 2, 1, .inr (.inl (vp_updL (fun _ => 0) (0 : Int32).toNatClampNeg r_.toInt64))))] := hD
    refine lv_goto (tgt := 18) hx hb dL_perform_9 (by decide) ?_
    refine lv_iconst (v := 0) hx hb dL_perform_18 (by decide) ?_
    exact rI hX hE (hP.sub [0] rfl) (hD.sub [0] (by decide) rfl) hS dL_perform_19 (by decide) (by decide) (⟨hk0.symm, _, rfl, (fun _ => by first | exact hv0 | (show vp_updL _ _ _ 0 = _; first | exact hv0 | (rw [← hv0]; rfl)))⟩)
set_option maxHeartbeats 4000000 in
set_option maxRecDepth 100000 in
theorem h_falls (l : Launch) (hlt : l.stackTraces = false) (D : va_G) (cy : Nat → ClassId) (a : Nat → Nat) (p1 : Int32) : Hi l yL_falls cL_falls 4 (some .int) [(0, 9, 12, 19)] { frames := 8, cells := 1, slots := 6, locals := 132 } D cy [.ref (a 0), .int p1, .ref (a 300)] [((a 0), .inr (10, [.ref (a 1), .int 0, .int 0, .int (-1), .ref (a 2), .ref (a 3), .ref (a 4), .ref (a 5), .ref (a 6), .ref (a 7), .ref (a 8), .ref (a 9), .int 0])), ((a 3), .inr (6, [.ref (a 10), .int 0, .ref (a 21), .ref (a 22), .ref (a 23), .ref (a 24), .ref (a 25), .int 0])), ((a 10), .inr (0, [.int 0, .int 1, .int 1, .int 0, .int 0, .ref (a 11), .ref (a 12), .ref (a 13), .null, .null])), ((a 300), .inl (cy 2, 1, .inr (.inl (fun _ => 0))))] (fun r W1 => r = kf_falls p1 ∧ ∃ g : Nat → Int64, W1 = [((a 300), .inl (cy 2, 1, .inr (.inl g)))] ∧ (kf_falls p1 = 0 → g 0 = vf_falls p1)) := by
  refine Hi.of (by decide) (Nat.le_of_ble_eq_true rfl) ?_
  intro p e s m below meth c A ls hX hE hP hD hl hxt
  obtain ⟨hx, hb, hr, hml, hown, htA, hlk⟩ := id hX
  have hK := hE.1
  have hS : va_S A s.heap s.heap [] := va_S.rf
  have hl : lv_has ls 4 [(0, .ref (a 0)), (1, .int p1), (2, .ref (a 300))] := hl
  refine lv_aload_n hx hb dL_falls_0 rfl (lv_at hl 2 rfl) ?_
  refine lv_iconst (v := 0) hx hb dL_falls_1 (by decide) ?_
  refine lv_aload_n hx hb dL_falls_2 rfl (lv_at hl 0 rfl) ?_
  refine lv_iload_n hx hb dL_falls_3 rfl (lv_at hl 1 rfl) ?_
  refine xVi (As := [.int p1]) (rest := [.int 0, .ref (a 300)]) (wr := [((a 300), .inl (cy 2, 1, .inr (.inl (fun _ => 0))))]) hX hE (m_falls l hlt D cy a p1) (cwVA 1 htA wd_1036 wd_1033 wd_1 wd_1034 wd_1035 (by decide +kernel) ⟨by decide, by decide⟩) hP hD hS [0, 1, 2] [3] rfl rfl (by decide) 0 rfl rfl rfl rfl hl.1 rfl (Nat.le_of_ble_eq_true rfl) dL_falls_4 (by decide) (fun E ce q9 W1 H locs hw hP hD hS hce hcv hcl => ?_) (fun r_ W1 H locs hw hP hD hS => ?_)
  · rcases hw with ⟨rfl, g1⟩
    refine kCatch (name := "java/util/NoSuchElementException") hX hE hxt [] ⟨0, 9, 12, 19⟩ [] rfl (fun z hz => absurd hz List.not_mem_nil) (by decide) (by decide) wd_860 (by decide +kernel) hce hcv hcl ?_
    refine W.widen (k := 1) (n := 6) (by decide) (by decide) ?_
    have hP : va_P D vwCl [((a 300), .inl (cy 2, 1, .inr (.inl (fun _ => 0))))] H := hP.sub [0] rfl
    have hD : va_D A [((a 300), .inl (cy 2, 1, .inr (.inl (fun _ => 0))))] := hD.sub [0] (by rfl) rfl
    refine lv_astore_n (lv' := [(3, .ref q9), (0, .ref (a 0)), (1, .int p1), (2, .ref (a 300))]) hx hb dL_falls_12 rfl hl (by decide) rfl (fun ls hl => ?_)
    refine lv_iconst (v := 1) hx hb dL_falls_13 (by decide) ?_
    exact rI hX hE (hP.sub [0] rfl) (hD.sub [0] (by decide) rfl) hS dL_falls_14 (by decide) (by decide) (⟨g1.symm, _, rfl, (fun q => absurd q (by rw [g1]; decide))⟩)
  · refine W.widen (k := 1) (n := 6) (by decide) (by decide) ?_
    have hP : va_P D vwCl [((a 300), .inl (cy 2, 1, .inr (.inl (fun _ => 0))))] H := hP.sub [0] rfl
    have hD : va_D A [((a 300), .inl (cy 2, 1, .inr (.inl (fun _ => 0))))] := hD.sub [0] (by rfl) rfl
    obtain ⟨hk0, hv0⟩ := hw
    have hP : va_P D vwCl [((a 300), .inl (cy 2, 1, .inr (.inl (fun _ => 0))))] H := hP
    have hD : va_D A [((a 300), .inl (cy 2, 1, .inr (.inl (fun _ => 0))))] := hD
    refine lv_i2l hx hb dL_falls_7 rfl ?_
    refine va_last hx hb hK hP hD hS 0 2 rfl rfl (in_lit (by decide)) dL_falls_8 (fun H locs hP hD hS => ?_)
    have hP : va_P D vwCl [((a 300), .inl (cy 2, 1, .inr (.inl (vp_updL (fun _ => 0) (0 : Int32).toNatClampNeg r_.toInt64))))] H := hP
    have hD : va_D A [((a 300), .inl (cy 2, 1, .inr (.inl (vp_updL (fun _ => 0) (0 : Int32).toNatClampNeg r_.toInt64))))] := hD
    refine lv_goto (tgt := 15) hx hb dL_falls_9 (by decide) ?_
    refine lv_iconst (v := 0) hx hb dL_falls_15 (by decide) ?_
    exact rI hX hE (hP.sub [0] rfl) (hD.sub [0] (by decide) rfl) hS dL_falls_16 (by decide) (by decide) (⟨hk0.symm, _, rfl, (fun _ => by first | exact hv0 | (show vp_updL _ _ _ 0 = _; first | exact hv0 | (rw [← hv0]; rfl)))⟩)
set_option maxHeartbeats 4000000 in
set_option maxRecDepth 100000 in
theorem h_lands (l : Launch) (hlt : l.stackTraces = false) (D : va_G) (cy : Nat → ClassId) (a : Nat → Nat) (p1 : Int32) : Hi l yL_lands cL_lands 4 (some .int) [(0, 9, 12, 19)] { frames := 8, cells := 1, slots := 6, locals := 132 } D cy [.ref (a 0), .int p1, .ref (a 300)] [((a 0), .inr (10, [.ref (a 1), .int 0, .int 0, .int (-1), .ref (a 2), .ref (a 3), .ref (a 4), .ref (a 5), .ref (a 6), .ref (a 7), .ref (a 8), .ref (a 9), .int 0])), ((a 3), .inr (6, [.ref (a 10), .int 0, .ref (a 21), .ref (a 22), .ref (a 23), .ref (a 24), .ref (a 25), .int 0])), ((a 10), .inr (0, [.int 0, .int 1, .int 1, .int 0, .int 0, .ref (a 11), .ref (a 12), .ref (a 13), .null, .null])), ((a 300), .inl (cy 2, 1, .inr (.inl (fun _ => 0))))] (fun r W1 => r = kf_lands p1 ∧ ∃ g : Nat → Int64, W1 = [((a 300), .inl (cy 2, 1, .inr (.inl g)))] ∧ (kf_lands p1 = 0 → g 0 = vf_lands p1)) := by
  refine Hi.of (by decide) (Nat.le_of_ble_eq_true rfl) ?_
  intro p e s m below meth c A ls hX hE hP hD hl hxt
  obtain ⟨hx, hb, hr, hml, hown, htA, hlk⟩ := id hX
  have hK := hE.1
  have hS : va_S A s.heap s.heap [] := va_S.rf
  have hl : lv_has ls 4 [(0, .ref (a 0)), (1, .int p1), (2, .ref (a 300))] := hl
  refine lv_aload_n hx hb dL_lands_0 rfl (lv_at hl 2 rfl) ?_
  refine lv_iconst (v := 0) hx hb dL_lands_1 (by decide) ?_
  refine lv_aload_n hx hb dL_lands_2 rfl (lv_at hl 0 rfl) ?_
  refine lv_iload_n hx hb dL_lands_3 rfl (lv_at hl 1 rfl) ?_
  refine xVi (As := [.int p1]) (rest := [.int 0, .ref (a 300)]) (wr := [((a 300), .inl (cy 2, 1, .inr (.inl (fun _ => 0))))]) hX hE (m_lands l hlt D cy a p1) (cwVA 1 htA wd_1047 wd_1044 wd_1 wd_1045 wd_1046 (by decide +kernel) ⟨by decide, by decide⟩) hP hD hS [0, 1, 2] [3] rfl rfl (by decide) 0 rfl rfl rfl rfl hl.1 rfl (Nat.le_of_ble_eq_true rfl) dL_lands_4 (by decide) (fun E ce q9 W1 H locs hw hP hD hS hce hcv hcl => ?_) (fun r_ W1 H locs hw hP hD hS => ?_)
  · rcases hw with ⟨rfl, g1⟩
    refine kCatch (name := "java/util/NoSuchElementException") hX hE hxt [] ⟨0, 9, 12, 19⟩ [] rfl (fun z hz => absurd hz List.not_mem_nil) (by decide) (by decide) wd_860 (by decide +kernel) hce hcv hcl ?_
    refine W.widen (k := 1) (n := 6) (by decide) (by decide) ?_
    have hP : va_P D vwCl [((a 300), .inl (cy 2, 1, .inr (.inl (fun _ => 0))))] H := hP.sub [0] rfl
    have hD : va_D A [((a 300), .inl (cy 2, 1, .inr (.inl (fun _ => 0))))] := hD.sub [0] (by rfl) rfl
    refine lv_astore_n (lv' := [(3, .ref q9), (0, .ref (a 0)), (1, .int p1), (2, .ref (a 300))]) hx hb dL_lands_12 rfl hl (by decide) rfl (fun ls hl => ?_)
    refine lv_iconst (v := 1) hx hb dL_lands_13 (by decide) ?_
    exact rI hX hE (hP.sub [0] rfl) (hD.sub [0] (by decide) rfl) hS dL_lands_14 (by decide) (by decide) (⟨g1.symm, _, rfl, (fun q => absurd q (by rw [g1]; decide))⟩)
  · refine W.widen (k := 1) (n := 6) (by decide) (by decide) ?_
    have hP : va_P D vwCl [((a 300), .inl (cy 2, 1, .inr (.inl (fun _ => 0))))] H := hP.sub [0] rfl
    have hD : va_D A [((a 300), .inl (cy 2, 1, .inr (.inl (fun _ => 0))))] := hD.sub [0] (by rfl) rfl
    obtain ⟨hk0, hv0⟩ := hw
    have hP : va_P D vwCl [((a 300), .inl (cy 2, 1, .inr (.inl (fun _ => 0))))] H := hP
    have hD : va_D A [((a 300), .inl (cy 2, 1, .inr (.inl (fun _ => 0))))] := hD
    refine lv_i2l hx hb dL_lands_7 rfl ?_
    refine va_last hx hb hK hP hD hS 0 2 rfl rfl (in_lit (by decide)) dL_lands_8 (fun H locs hP hD hS => ?_)
    have hP : va_P D vwCl [((a 300), .inl (cy 2, 1, .inr (.inl (vp_updL (fun _ => 0) (0 : Int32).toNatClampNeg r_.toInt64))))] H := hP
    have hD : va_D A [((a 300), .inl (cy 2, 1, .inr (.inl (vp_updL (fun _ => 0) (0 : Int32).toNatClampNeg r_.toInt64))))] := hD
    refine lv_goto (tgt := 15) hx hb dL_lands_9 (by decide) ?_
    refine lv_iconst (v := 0) hx hb dL_lands_15 (by decide) ?_
    exact rI hX hE (hP.sub [0] rfl) (hD.sub [0] (by decide) rfl) hS dL_lands_16 (by decide) (by decide) (⟨hk0.symm, _, rfl, (fun _ => by first | exact hv0 | (show vp_updL _ _ _ 0 = _; first | exact hv0 | (rw [← hv0]; rfl)))⟩)
set_option maxHeartbeats 4000000 in
set_option maxRecDepth 100000 in
theorem h_fallIn (l : Launch) (hlt : l.stackTraces = false) (D : va_G) (cy : Nat → ClassId) (a : Nat → Nat) (p1 : Int32) : Hi l yL_fallIn cL_fallIn 4 (some .int) [(0, 9, 12, 13)] { frames := 8, cells := 1, slots := 6, locals := 135 } D cy [.ref (a 0), .int p1, .ref (a 300)] [((a 0), .inr (10, [.ref (a 1), .int 0, .int 0, .int (-1), .ref (a 2), .ref (a 3), .ref (a 4), .ref (a 5), .ref (a 6), .ref (a 7), .ref (a 8), .ref (a 9), .int 0])), ((a 3), .inr (6, [.ref (a 10), .int 0, .ref (a 21), .ref (a 22), .ref (a 23), .ref (a 24), .ref (a 25), .int 0])), ((a 21), .inl (cy 0, 8, .inl (fun _ => 0))), ((a 22), .inl (cy 0, 8, .inl (fun _ => 0))), ((a 23), .inl (cy 0, 8, .inl (fun _ => 0))), ((a 24), .inl (cy 0, 8, .inl (fun _ => 0))), ((a 25), .inl (cy 0, 4, .inl (fun _ => 0))), ((a 10), .inr (0, [.int 0, .int 1, .int 1, .int 0, .int 0, .ref (a 11), .ref (a 12), .ref (a 13), .null, .null])), ((a 5), .inr (1, [.ref (a 40), .int 0, .int 0, .ref (a 46), .ref (a 47)])), ((a 40), .inr (6, [.ref (a 10), .int 0, .ref (a 41), .ref (a 42), .ref (a 43), .ref (a 44), .ref (a 45), .int 0])), ((a 41), .inl (cy 0, 8, .inl (fun _ => 0))), ((a 42), .inl (cy 0, 8, .inl (fun _ => 0))), ((a 43), .inl (cy 0, 8, .inl (fun _ => 0))), ((a 44), .inl (cy 0, 8, .inl (fun _ => 0))), ((a 45), .inl (cy 0, 4, .inl (fun _ => 0))), ((a 300), .inl (cy 2, 1, .inr (.inl (fun _ => 0))))] (fun r W1 => r = kf_fallIn p1 ∧ ∃ g : Nat → Int64, W1 = [((a 300), .inl (cy 2, 1, .inr (.inl g)))] ∧ (kf_fallIn p1 = 0 → g 0 = vf_fallIn p1)) := by
  refine Hi.of (by decide) (Nat.le_of_ble_eq_true rfl) ?_
  intro p e s m below meth c A ls hX hE hP hD hl hxt
  obtain ⟨hx, hb, hr, hml, hown, htA, hlk⟩ := id hX
  have hK := hE.1
  have hS : va_S A s.heap s.heap [] := va_S.rf
  have hl : lv_has ls 4 [(0, .ref (a 0)), (1, .int p1), (2, .ref (a 300))] := hl
  refine lv_aload_n hx hb dL_fallIn_0 rfl (lv_at hl 2 rfl) ?_
  refine lv_iconst (v := 0) hx hb dL_fallIn_1 (by decide) ?_
  refine lv_aload_n hx hb dL_fallIn_2 rfl (lv_at hl 0 rfl) ?_
  refine lv_iload_n hx hb dL_fallIn_3 rfl (lv_at hl 1 rfl) ?_
  refine xVi (As := [.int p1]) (rest := [.int 0, .ref (a 300)]) (wr := [((a 300), .inl (cy 2, 1, .inr (.inl (fun _ => 0))))]) hX hE (m_fallIn l hlt D cy a p1) (cwVA 1 htA wd_1054 wd_1051 wd_1 wd_1052 wd_1053 (by decide +kernel) ⟨by decide, by decide⟩) hP hD hS [0, 1, 2, 3, 4, 5, 6, 7, 8, 9, 10, 11, 12, 13, 14] [15] rfl rfl (by decide) 0 rfl rfl rfl rfl hl.1 rfl (Nat.le_of_ble_eq_true rfl) dL_fallIn_4 (by decide) (fun E ce q9 W1 H locs hw hP hD hS hce hcv hcl => ?_) (fun r_ W1 H locs hw hP hD hS => ?_)
  · rcases hw with ⟨rfl, g1⟩
    refine kCatch (name := "java/lang/IllegalArgumentException") hX hE hxt [] ⟨0, 9, 12, 13⟩ [] rfl (fun z hz => absurd hz List.not_mem_nil) (by decide) (by decide) wd_526 (by decide +kernel) hce hcv hcl ?_
    refine W.widen (k := 1) (n := 6) (by decide) (by decide) ?_
    have hP : va_P D vwCl [((a 300), .inl (cy 2, 1, .inr (.inl (fun _ => 0))))] H := hP.sub [0] rfl
    have hD : va_D A [((a 300), .inl (cy 2, 1, .inr (.inl (fun _ => 0))))] := hD.sub [0] (by rfl) rfl
    refine lv_astore_n (lv' := [(3, .ref q9), (0, .ref (a 0)), (1, .int p1), (2, .ref (a 300))]) hx hb dL_fallIn_12 rfl hl (by decide) rfl (fun ls hl => ?_)
    refine lv_iconst (v := 1) hx hb dL_fallIn_13 (by decide) ?_
    exact rI hX hE (hP.sub [0] rfl) (hD.sub [0] (by decide) rfl) hS dL_fallIn_14 (by decide) (by decide) (⟨g1.symm, _, rfl, (fun q => absurd q (by rw [g1]; decide))⟩)
  · refine W.widen (k := 1) (n := 6) (by decide) (by decide) ?_
    have hP : va_P D vwCl [((a 300), .inl (cy 2, 1, .inr (.inl (fun _ => 0))))] H := hP.sub [0] rfl
    have hD : va_D A [((a 300), .inl (cy 2, 1, .inr (.inl (fun _ => 0))))] := hD.sub [0] (by rfl) rfl
    obtain ⟨hk0, hv0⟩ := hw
    have hP : va_P D vwCl [((a 300), .inl (cy 2, 1, .inr (.inl (fun _ => 0))))] H := hP
    have hD : va_D A [((a 300), .inl (cy 2, 1, .inr (.inl (fun _ => 0))))] := hD
    refine lv_i2l hx hb dL_fallIn_7 rfl ?_
    refine va_last hx hb hK hP hD hS 0 2 rfl rfl (in_lit (by decide)) dL_fallIn_8 (fun H locs hP hD hS => ?_)
    have hP : va_P D vwCl [((a 300), .inl (cy 2, 1, .inr (.inl (vp_updL (fun _ => 0) (0 : Int32).toNatClampNeg r_.toInt64))))] H := hP
    have hD : va_D A [((a 300), .inl (cy 2, 1, .inr (.inl (vp_updL (fun _ => 0) (0 : Int32).toNatClampNeg r_.toInt64))))] := hD
    refine lv_goto (tgt := 15) hx hb dL_fallIn_9 (by decide) ?_
    refine lv_iconst (v := 0) hx hb dL_fallIn_15 (by decide) ?_
    exact rI hX hE (hP.sub [0] rfl) (hD.sub [0] (by decide) rfl) hS dL_fallIn_16 (by decide) (by decide) (⟨hk0.symm, _, rfl, (fun _ => by first | exact hv0 | (show vp_updL _ _ _ 0 = _; first | exact hv0 | (rw [← hv0]; rfl)))⟩)
set_option maxHeartbeats 4000000 in
set_option maxRecDepth 100000 in
theorem h_frees (l : Launch) (hlt : l.stackTraces = false) (D : va_G) (cy : Nat → ClassId) (a : Nat → Nat) (p1 : Int32) : Hi l yL_frees cL_frees 4 (some .int) [(0, 9, 12, 19), (0, 9, 15, 43)] { frames := 8, cells := 1, slots := 6, locals := 132 } D cy [.ref (a 0), .int p1, .ref (a 300)] [((a 0), .inr (10, [.ref (a 1), .int 0, .int 0, .int (-1), .ref (a 2), .ref (a 3), .ref (a 4), .ref (a 5), .ref (a 6), .ref (a 7), .ref (a 8), .ref (a 9), .int 0])), ((a 3), .inr (6, [.ref (a 10), .int 0, .ref (a 21), .ref (a 22), .ref (a 23), .ref (a 24), .ref (a 25), .int 0])), ((a 10), .inr (0, [.int 0, .int 1, .int 1, .int 0, .int 0, .ref (a 11), .ref (a 12), .ref (a 13), .null, .null])), ((a 300), .inl (cy 2, 1, .inr (.inl (fun _ => 0))))] (fun r W1 => r = kf_frees p1 ∧ ∃ g : Nat → Int64, W1 = [((a 300), .inl (cy 2, 1, .inr (.inl g)))] ∧ (kf_frees p1 = 0 → g 0 = vf_frees p1)) := by
  refine Hi.of (by decide) (Nat.le_of_ble_eq_true rfl) ?_
  intro p e s m below meth c A ls hX hE hP hD hl hxt
  obtain ⟨hx, hb, hr, hml, hown, htA, hlk⟩ := id hX
  have hK := hE.1
  have hS : va_S A s.heap s.heap [] := va_S.rf
  have hl : lv_has ls 4 [(0, .ref (a 0)), (1, .int p1), (2, .ref (a 300))] := hl
  refine lv_aload_n hx hb dL_frees_0 rfl (lv_at hl 2 rfl) ?_
  refine lv_iconst (v := 0) hx hb dL_frees_1 (by decide) ?_
  refine lv_aload_n hx hb dL_frees_2 rfl (lv_at hl 0 rfl) ?_
  refine lv_iload_n hx hb dL_frees_3 rfl (lv_at hl 1 rfl) ?_
  refine xVi (As := [.int p1]) (rest := [.int 0, .ref (a 300)]) (wr := [((a 300), .inl (cy 2, 1, .inr (.inl (fun _ => 0))))]) hX hE (m_frees l hlt D cy a p1) (cwVA 1 htA wd_1061 wd_1058 wd_1 wd_1059 wd_1060 (by decide +kernel) ⟨by decide, by decide⟩) hP hD hS [0, 1, 2] [3] rfl rfl (by decide) 0 rfl rfl rfl rfl hl.1 rfl (Nat.le_of_ble_eq_true rfl) dL_frees_4 (by decide) (fun E ce q9 W1 H locs hw hP hD hS hce hcv hcl => ?_) (fun r_ W1 H locs hw hP hD hS => ?_)
  · rcases hw with ⟨rfl, g1⟩
    refine kCatch (name := "java/util/NoSuchElementException") hX hE hxt [] ⟨0, 9, 12, 19⟩ [⟨0, 9, 15, 43⟩] rfl (fun z hz => absurd hz List.not_mem_nil) (by decide) (by decide) wd_860 (by decide +kernel) hce hcv hcl ?_
    refine W.widen (k := 1) (n := 6) (by decide) (by decide) ?_
    have hP : va_P D vwCl [((a 300), .inl (cy 2, 1, .inr (.inl (fun _ => 0))))] H := hP.sub [0] rfl
    have hD : va_D A [((a 300), .inl (cy 2, 1, .inr (.inl (fun _ => 0))))] := hD.sub [0] (by rfl) rfl
    refine lv_astore_n (lv' := [(3, .ref q9), (0, .ref (a 0)), (1, .int p1), (2, .ref (a 300))]) hx hb dL_frees_12 rfl hl (by decide) rfl (fun ls hl => ?_)
    refine lv_iconst (v := 1) hx hb dL_frees_13 (by decide) ?_
    exact rI hX hE (hP.sub [0] rfl) (hD.sub [0] (by decide) rfl) hS dL_frees_14 (by decide) (by decide) (⟨g1.symm, _, rfl, (fun q => absurd q (by rw [g1]; decide))⟩)
  · refine W.widen (k := 1) (n := 6) (by decide) (by decide) ?_
    have hP : va_P D vwCl [((a 300), .inl (cy 2, 1, .inr (.inl (fun _ => 0))))] H := hP.sub [0] rfl
    have hD : va_D A [((a 300), .inl (cy 2, 1, .inr (.inl (fun _ => 0))))] := hD.sub [0] (by rfl) rfl
    obtain ⟨hk0, hv0⟩ := hw
    have hP : va_P D vwCl [((a 300), .inl (cy 2, 1, .inr (.inl (fun _ => 0))))] H := hP
    have hD : va_D A [((a 300), .inl (cy 2, 1, .inr (.inl (fun _ => 0))))] := hD
    refine lv_i2l hx hb dL_frees_7 rfl ?_
    refine va_last hx hb hK hP hD hS 0 2 rfl rfl (in_lit (by decide)) dL_frees_8 (fun H locs hP hD hS => ?_)
    have hP : va_P D vwCl [((a 300), .inl (cy 2, 1, .inr (.inl (vp_updL (fun _ => 0) (0 : Int32).toNatClampNeg r_.toInt64))))] H := hP
    have hD : va_D A [((a 300), .inl (cy 2, 1, .inr (.inl (vp_updL (fun _ => 0) (0 : Int32).toNatClampNeg r_.toInt64))))] := hD
    refine lv_goto (tgt := 18) hx hb dL_frees_9 (by decide) ?_
    refine lv_iconst (v := 0) hx hb dL_frees_18 (by decide) ?_
    exact rI hX hE (hP.sub [0] rfl) (hD.sub [0] (by decide) rfl) hS dL_frees_19 (by decide) (by decide) (⟨hk0.symm, _, rfl, (fun _ => by first | exact hv0 | (show vp_updL _ _ _ 0 = _; first | exact hv0 | (rw [← hv0]; rfl)))⟩)
set_option maxHeartbeats 4000000 in
set_option maxRecDepth 100000 in
theorem h_heightIn (l : Launch) (hlt : l.stackTraces = false) (D : va_G) (cy : Nat → ClassId) (a : Nat → Nat) (p1 : Int32) (p2 : Int32) : Hi l yL_heightIn cL_heightIn 5 (some .int) [(0, 10, 13, 19), (0, 10, 17, 13)] { frames := 8, cells := 2, slots := 12, locals := 135 } D cy [.ref (a 0), .int p1, .int p2, .ref (a 300)] [((a 0), .inr (10, [.ref (a 1), .int 0, .int 0, .int (-1), .ref (a 2), .ref (a 3), .ref (a 4), .ref (a 5), .ref (a 6), .ref (a 7), .ref (a 8), .ref (a 9), .int 0])), ((a 3), .inr (6, [.ref (a 10), .int 0, .ref (a 21), .ref (a 22), .ref (a 23), .ref (a 24), .ref (a 25), .int 0])), ((a 21), .inl (cy 0, 8, .inl (fun _ => 0))), ((a 22), .inl (cy 0, 8, .inl (fun _ => 0))), ((a 23), .inl (cy 0, 8, .inl (fun _ => 0))), ((a 24), .inl (cy 0, 8, .inl (fun _ => 0))), ((a 25), .inl (cy 0, 4, .inl (fun _ => 0))), ((a 10), .inr (0, [.int 0, .int 1, .int 1, .int 0, .int 0, .ref (a 11), .ref (a 12), .ref (a 13), .null, .null])), ((a 5), .inr (1, [.ref (a 40), .int 0, .int 0, .ref (a 46), .ref (a 47)])), ((a 40), .inr (6, [.ref (a 10), .int 0, .ref (a 41), .ref (a 42), .ref (a 43), .ref (a 44), .ref (a 45), .int 0])), ((a 41), .inl (cy 0, 8, .inl (fun _ => 0))), ((a 42), .inl (cy 0, 8, .inl (fun _ => 0))), ((a 43), .inl (cy 0, 8, .inl (fun _ => 0))), ((a 44), .inl (cy 0, 8, .inl (fun _ => 0))), ((a 45), .inl (cy 0, 4, .inl (fun _ => 0))), ((a 300), .inl (cy 2, 1, .inr (.inl (fun _ => 0))))] (fun r W1 => r = kf_heightIn p1 p2 ∧ ∃ g : Nat → Int64, W1 = [((a 300), .inl (cy 2, 1, .inr (.inl g)))] ∧ (kf_heightIn p1 p2 = 0 → g 0 = vf_heightIn p1 p2)) := by
  refine Hi.of (by decide) (Nat.le_of_ble_eq_true rfl) ?_
  intro p e s m below meth c A ls hX hE hP hD hl hxt
  obtain ⟨hx, hb, hr, hml, hown, htA, hlk⟩ := id hX
  have hK := hE.1
  have hS : va_S A s.heap s.heap [] := va_S.rf
  have hl : lv_has ls 5 [(0, .ref (a 0)), (1, .int p1), (2, .int p2), (3, .ref (a 300))] := hl
  refine lv_aload_n hx hb dL_heightIn_0 rfl (lv_at hl 3 rfl) ?_
  refine lv_iconst (v := 0) hx hb dL_heightIn_1 (by decide) ?_
  refine lv_aload_n hx hb dL_heightIn_2 rfl (lv_at hl 0 rfl) ?_
  refine lv_iload_n hx hb dL_heightIn_3 rfl (lv_at hl 1 rfl) ?_
  refine lv_iload_n hx hb dL_heightIn_4 rfl (lv_at hl 2 rfl) ?_
  refine xVi (As := [.int p1, .int p2]) (rest := [.int 0, .ref (a 300)]) (wr := [((a 300), .inl (cy 2, 1, .inr (.inl (fun _ => 0))))]) hX hE (m_heightIn l hlt D cy a p1 p2) (cwVA 2 htA wd_1070 wd_1067 wd_1 wd_1068 wd_1069 (by decide +kernel) ⟨by decide, by decide⟩) hP hD hS [0, 1, 2, 3, 4, 5, 6, 7, 8, 9, 10, 11, 12, 13, 14] [15] rfl rfl (by decide) 0 rfl rfl rfl rfl hl.1 rfl (Nat.le_of_ble_eq_true rfl) dL_heightIn_5 (by decide) (fun E ce q9 W1 H locs hw hP hD hS hce hcv hcl => ?_) (fun r_ W1 H locs hw hP hD hS => ?_)
  · rcases hw with ⟨rfl, g1⟩ | ⟨rfl, g2⟩
    · refine kCatch (name := "java/util/NoSuchElementException") hX hE hxt [] ⟨0, 10, 13, 19⟩ [⟨0, 10, 17, 13⟩] rfl (fun z hz => absurd hz List.not_mem_nil) (by decide) (by decide) wd_860 (by decide +kernel) hce hcv hcl ?_
      refine W.widen (k := 2) (n := 12) (by decide) (by decide) ?_
      have hP : va_P D vwCl [((a 300), .inl (cy 2, 1, .inr (.inl (fun _ => 0))))] H := hP.sub [0] rfl
      have hD : va_D A [((a 300), .inl (cy 2, 1, .inr (.inl (fun _ => 0))))] := hD.sub [0] (by rfl) rfl
      refine lv_astore (lv' := [(4, .ref q9), (0, .ref (a 0)), (1, .int p1), (2, .int p2), (3, .ref (a 300))]) hx hb dL_heightIn_13 hl (by decide) rfl (fun ls hl => ?_)
      refine lv_iconst (v := 1) hx hb dL_heightIn_15 (by decide) ?_
      exact rI hX hE (hP.sub [0] rfl) (hD.sub [0] (by decide) rfl) hS dL_heightIn_16 (by decide) (by decide) (⟨g1.symm, _, rfl, (fun q => absurd q (by rw [g1]; decide))⟩)
    · refine kCatch (name := "java/lang/IllegalArgumentException") hX hE hxt [⟨0, 10, 13, 19⟩] ⟨0, 10, 17, 13⟩ [] rfl (List.forall_mem_cons.mpr ⟨Or.inr ⟨by decide, "java/util/NoSuchElementException", htA _ wd_860, hE.2.2.2.2.2.1 ("java/lang/IllegalArgumentException", "java/util/NoSuchElementException") (by decide)⟩, (fun z hz => absurd hz List.not_mem_nil)⟩) (by decide) (by decide) wd_526 (by decide +kernel) hce hcv hcl ?_
      refine W.widen (k := 2) (n := 12) (by decide) (by decide) ?_
      have hP : va_P D vwCl [((a 300), .inl (cy 2, 1, .inr (.inl (fun _ => 0))))] H := hP.sub [0] rfl
      have hD : va_D A [((a 300), .inl (cy 2, 1, .inr (.inl (fun _ => 0))))] := hD.sub [0] (by rfl) rfl
      refine lv_astore (lv' := [(4, .ref q9), (0, .ref (a 0)), (1, .int p1), (2, .int p2), (3, .ref (a 300))]) hx hb dL_heightIn_17 hl (by decide) rfl (fun ls hl => ?_)
      refine lv_iconst (v := 2) hx hb dL_heightIn_19 (by decide) ?_
      exact rI hX hE (hP.sub [0] rfl) (hD.sub [0] (by decide) rfl) hS dL_heightIn_20 (by decide) (by decide) (⟨g2.symm, _, rfl, (fun q => absurd q (by rw [g2]; decide))⟩)
  · refine W.widen (k := 2) (n := 12) (by decide) (by decide) ?_
    have hP : va_P D vwCl [((a 300), .inl (cy 2, 1, .inr (.inl (fun _ => 0))))] H := hP.sub [0] rfl
    have hD : va_D A [((a 300), .inl (cy 2, 1, .inr (.inl (fun _ => 0))))] := hD.sub [0] (by rfl) rfl
    obtain ⟨hk0, hv0⟩ := hw
    have hP : va_P D vwCl [((a 300), .inl (cy 2, 1, .inr (.inl (fun _ => 0))))] H := hP
    have hD : va_D A [((a 300), .inl (cy 2, 1, .inr (.inl (fun _ => 0))))] := hD
    refine lv_i2l hx hb dL_heightIn_8 rfl ?_
    refine va_last hx hb hK hP hD hS 0 2 rfl rfl (in_lit (by decide)) dL_heightIn_9 (fun H locs hP hD hS => ?_)
    have hP : va_P D vwCl [((a 300), .inl (cy 2, 1, .inr (.inl (vp_updL (fun _ => 0) (0 : Int32).toNatClampNeg r_.toInt64))))] H := hP
    have hD : va_D A [((a 300), .inl (cy 2, 1, .inr (.inl (vp_updL (fun _ => 0) (0 : Int32).toNatClampNeg r_.toInt64))))] := hD
    refine lv_goto (tgt := 21) hx hb dL_heightIn_10 (by decide) ?_
    refine lv_iconst (v := 0) hx hb dL_heightIn_21 (by decide) ?_
    exact rI hX hE (hP.sub [0] rfl) (hD.sub [0] (by decide) rfl) hS dL_heightIn_22 (by decide) (by decide) (⟨hk0.symm, _, rfl, (fun _ => by first | exact hv0 | (show vp_updL _ _ _ 0 = _; first | exact hv0 | (rw [← hv0]; rfl)))⟩)
set_option maxHeartbeats 4000000 in
set_option maxRecDepth 100000 in
theorem h_hurtIn (l : Launch) (hlt : l.stackTraces = false) (D : va_G) (cy : Nat → ClassId) (a : Nat → Nat) (p1 : Int32) : Hi l yL_hurtIn cL_hurtIn 4 (some .int) [(0, 9, 12, 19)] { frames := 8, cells := 1, slots := 6, locals := 134 } D cy [.ref (a 0), .int p1, .ref (a 300)] [((a 0), .inr (10, [.ref (a 1), .int 0, .int 0, .int (-1), .ref (a 2), .ref (a 3), .ref (a 4), .ref (a 5), .ref (a 6), .ref (a 7), .ref (a 8), .ref (a 9), .int 0])), ((a 3), .inr (6, [.ref (a 10), .int 0, .ref (a 21), .ref (a 22), .ref (a 23), .ref (a 24), .ref (a 25), .int 0])), ((a 10), .inr (0, [.int 0, .int 1, .int 1, .int 0, .int 0, .ref (a 11), .ref (a 12), .ref (a 13), .null, .null])), ((a 300), .inl (cy 2, 1, .inr (.inl (fun _ => 0))))] (fun r W1 => r = kf_hurtIn p1 ∧ ∃ g : Nat → Int64, W1 = [((a 300), .inl (cy 2, 1, .inr (.inl g)))] ∧ (kf_hurtIn p1 = 0 → g 0 = vf_hurtIn p1)) := by
  refine Hi.of (by decide) (Nat.le_of_ble_eq_true rfl) ?_
  intro p e s m below meth c A ls hX hE hP hD hl hxt
  obtain ⟨hx, hb, hr, hml, hown, htA, hlk⟩ := id hX
  have hK := hE.1
  have hS : va_S A s.heap s.heap [] := va_S.rf
  have hl : lv_has ls 4 [(0, .ref (a 0)), (1, .int p1), (2, .ref (a 300))] := hl
  refine lv_aload_n hx hb dL_hurtIn_0 rfl (lv_at hl 2 rfl) ?_
  refine lv_iconst (v := 0) hx hb dL_hurtIn_1 (by decide) ?_
  refine lv_aload_n hx hb dL_hurtIn_2 rfl (lv_at hl 0 rfl) ?_
  refine lv_iload_n hx hb dL_hurtIn_3 rfl (lv_at hl 1 rfl) ?_
  refine xVi (As := [.int p1]) (rest := [.int 0, .ref (a 300)]) (wr := [((a 300), .inl (cy 2, 1, .inr (.inl (fun _ => 0))))]) hX hE (m_hurtIn l hlt D cy a p1) (cwVA 1 htA wd_1077 wd_1074 wd_1 wd_1075 wd_1076 (by decide +kernel) ⟨by decide, by decide⟩) hP hD hS [0, 1, 2] [3] rfl rfl (by decide) 0 rfl rfl rfl rfl hl.1 rfl (Nat.le_of_ble_eq_true rfl) dL_hurtIn_4 (by decide) (fun E ce q9 W1 H locs hw hP hD hS hce hcv hcl => ?_) (fun r_ W1 H locs hw hP hD hS => ?_)
  · rcases hw with ⟨rfl, g1⟩
    refine kCatch (name := "java/util/NoSuchElementException") hX hE hxt [] ⟨0, 9, 12, 19⟩ [] rfl (fun z hz => absurd hz List.not_mem_nil) (by decide) (by decide) wd_860 (by decide +kernel) hce hcv hcl ?_
    refine W.widen (k := 1) (n := 6) (by decide) (by decide) ?_
    have hP : va_P D vwCl [((a 300), .inl (cy 2, 1, .inr (.inl (fun _ => 0))))] H := hP.sub [0] rfl
    have hD : va_D A [((a 300), .inl (cy 2, 1, .inr (.inl (fun _ => 0))))] := hD.sub [0] (by rfl) rfl
    refine lv_astore_n (lv' := [(3, .ref q9), (0, .ref (a 0)), (1, .int p1), (2, .ref (a 300))]) hx hb dL_hurtIn_12 rfl hl (by decide) rfl (fun ls hl => ?_)
    refine lv_iconst (v := 1) hx hb dL_hurtIn_13 (by decide) ?_
    exact rI hX hE (hP.sub [0] rfl) (hD.sub [0] (by decide) rfl) hS dL_hurtIn_14 (by decide) (by decide) (⟨g1.symm, _, rfl, (fun q => absurd q (by rw [g1]; decide))⟩)
  · refine W.widen (k := 1) (n := 6) (by decide) (by decide) ?_
    have hP : va_P D vwCl [((a 300), .inl (cy 2, 1, .inr (.inl (fun _ => 0))))] H := hP.sub [0] rfl
    have hD : va_D A [((a 300), .inl (cy 2, 1, .inr (.inl (fun _ => 0))))] := hD.sub [0] (by rfl) rfl
    obtain ⟨hk0, hv0⟩ := hw
    have hP : va_P D vwCl [((a 300), .inl (cy 2, 1, .inr (.inl (fun _ => 0))))] H := hP
    have hD : va_D A [((a 300), .inl (cy 2, 1, .inr (.inl (fun _ => 0))))] := hD
    refine lv_i2l hx hb dL_hurtIn_7 rfl ?_
    refine va_last hx hb hK hP hD hS 0 2 rfl rfl (in_lit (by decide)) dL_hurtIn_8 (fun H locs hP hD hS => ?_)
    have hP : va_P D vwCl [((a 300), .inl (cy 2, 1, .inr (.inl (vp_updL (fun _ => 0) (0 : Int32).toNatClampNeg r_.toInt64))))] H := hP
    have hD : va_D A [((a 300), .inl (cy 2, 1, .inr (.inl (vp_updL (fun _ => 0) (0 : Int32).toNatClampNeg r_.toInt64))))] := hD
    refine lv_goto (tgt := 15) hx hb dL_hurtIn_9 (by decide) ?_
    refine lv_iconst (v := 0) hx hb dL_hurtIn_15 (by decide) ?_
    exact rI hX hE (hP.sub [0] rfl) (hD.sub [0] (by decide) rfl) hS dL_hurtIn_16 (by decide) (by decide) (⟨hk0.symm, _, rfl, (fun _ => by first | exact hv0 | (show vp_updL _ _ _ 0 = _; first | exact hv0 | (rw [← hv0]; rfl)))⟩)
set_option maxHeartbeats 4000000 in
set_option maxRecDepth 100000 in
theorem h_hurts (l : Launch) (hlt : l.stackTraces = false) (D : va_G) (cy : Nat → ClassId) (a : Nat → Nat) (p1 : Int32) : Hi l yL_hurts cL_hurts 4 (some .int) [(0, 9, 12, 19)] { frames := 8, cells := 1, slots := 6, locals := 132 } D cy [.ref (a 0), .int p1, .ref (a 300)] [((a 0), .inr (10, [.ref (a 1), .int 0, .int 0, .int (-1), .ref (a 2), .ref (a 3), .ref (a 4), .ref (a 5), .ref (a 6), .ref (a 7), .ref (a 8), .ref (a 9), .int 0])), ((a 3), .inr (6, [.ref (a 10), .int 0, .ref (a 21), .ref (a 22), .ref (a 23), .ref (a 24), .ref (a 25), .int 0])), ((a 10), .inr (0, [.int 0, .int 1, .int 1, .int 0, .int 0, .ref (a 11), .ref (a 12), .ref (a 13), .null, .null])), ((a 300), .inl (cy 2, 1, .inr (.inl (fun _ => 0))))] (fun r W1 => r = kf_hurts p1 ∧ ∃ g : Nat → Int64, W1 = [((a 300), .inl (cy 2, 1, .inr (.inl g)))] ∧ (kf_hurts p1 = 0 → g 0 = vf_hurts p1)) := by
  refine Hi.of (by decide) (Nat.le_of_ble_eq_true rfl) ?_
  intro p e s m below meth c A ls hX hE hP hD hl hxt
  obtain ⟨hx, hb, hr, hml, hown, htA, hlk⟩ := id hX
  have hK := hE.1
  have hS : va_S A s.heap s.heap [] := va_S.rf
  have hl : lv_has ls 4 [(0, .ref (a 0)), (1, .int p1), (2, .ref (a 300))] := hl
  refine lv_aload_n hx hb dL_hurts_0 rfl (lv_at hl 2 rfl) ?_
  refine lv_iconst (v := 0) hx hb dL_hurts_1 (by decide) ?_
  refine lv_aload_n hx hb dL_hurts_2 rfl (lv_at hl 0 rfl) ?_
  refine lv_iload_n hx hb dL_hurts_3 rfl (lv_at hl 1 rfl) ?_
  refine xVi (As := [.int p1]) (rest := [.int 0, .ref (a 300)]) (wr := [((a 300), .inl (cy 2, 1, .inr (.inl (fun _ => 0))))]) hX hE (m_hurts l hlt D cy a p1) (cwVA 1 htA wd_1084 wd_1081 wd_1 wd_1082 wd_1083 (by decide +kernel) ⟨by decide, by decide⟩) hP hD hS [0, 1, 2] [3] rfl rfl (by decide) 0 rfl rfl rfl rfl hl.1 rfl (Nat.le_of_ble_eq_true rfl) dL_hurts_4 (by decide) (fun E ce q9 W1 H locs hw hP hD hS hce hcv hcl => ?_) (fun r_ W1 H locs hw hP hD hS => ?_)
  · rcases hw with ⟨rfl, g1⟩
    refine kCatch (name := "java/util/NoSuchElementException") hX hE hxt [] ⟨0, 9, 12, 19⟩ [] rfl (fun z hz => absurd hz List.not_mem_nil) (by decide) (by decide) wd_860 (by decide +kernel) hce hcv hcl ?_
    refine W.widen (k := 1) (n := 6) (by decide) (by decide) ?_
    have hP : va_P D vwCl [((a 300), .inl (cy 2, 1, .inr (.inl (fun _ => 0))))] H := hP.sub [0] rfl
    have hD : va_D A [((a 300), .inl (cy 2, 1, .inr (.inl (fun _ => 0))))] := hD.sub [0] (by rfl) rfl
    refine lv_astore_n (lv' := [(3, .ref q9), (0, .ref (a 0)), (1, .int p1), (2, .ref (a 300))]) hx hb dL_hurts_12 rfl hl (by decide) rfl (fun ls hl => ?_)
    refine lv_iconst (v := 1) hx hb dL_hurts_13 (by decide) ?_
    exact rI hX hE (hP.sub [0] rfl) (hD.sub [0] (by decide) rfl) hS dL_hurts_14 (by decide) (by decide) (⟨g1.symm, _, rfl, (fun q => absurd q (by rw [g1]; decide))⟩)
  · refine W.widen (k := 1) (n := 6) (by decide) (by decide) ?_
    have hP : va_P D vwCl [((a 300), .inl (cy 2, 1, .inr (.inl (fun _ => 0))))] H := hP.sub [0] rfl
    have hD : va_D A [((a 300), .inl (cy 2, 1, .inr (.inl (fun _ => 0))))] := hD.sub [0] (by rfl) rfl
    obtain ⟨hk0, hv0⟩ := hw
    have hP : va_P D vwCl [((a 300), .inl (cy 2, 1, .inr (.inl (fun _ => 0))))] H := hP
    have hD : va_D A [((a 300), .inl (cy 2, 1, .inr (.inl (fun _ => 0))))] := hD
    refine lv_i2l hx hb dL_hurts_7 rfl ?_
    refine va_last hx hb hK hP hD hS 0 2 rfl rfl (in_lit (by decide)) dL_hurts_8 (fun H locs hP hD hS => ?_)
    have hP : va_P D vwCl [((a 300), .inl (cy 2, 1, .inr (.inl (vp_updL (fun _ => 0) (0 : Int32).toNatClampNeg r_.toInt64))))] H := hP
    have hD : va_D A [((a 300), .inl (cy 2, 1, .inr (.inl (vp_updL (fun _ => 0) (0 : Int32).toNatClampNeg r_.toInt64))))] := hD
    refine lv_goto (tgt := 15) hx hb dL_hurts_9 (by decide) ?_
    refine lv_iconst (v := 0) hx hb dL_hurts_15 (by decide) ?_
    exact rI hX hE (hP.sub [0] rfl) (hD.sub [0] (by decide) rfl) hS dL_hurts_16 (by decide) (by decide) (⟨hk0.symm, _, rfl, (fun _ => by first | exact hv0 | (show vp_updL _ _ _ 0 = _; first | exact hv0 | (rw [← hv0]; rfl)))⟩)
set_option maxHeartbeats 4000000 in
set_option maxRecDepth 100000 in
theorem h_spares (l : Launch) (hlt : l.stackTraces = false) (D : va_G) (cy : Nat → ClassId) (a : Nat → Nat) (p1 : Int32) (p2 : Int32) : Hi l yL_spares cL_spares 5 (some .int) [(0, 10, 13, 19)] { frames := 8, cells := 1, slots := 6, locals := 133 } D cy [.ref (a 0), .int p1, .int p2, .ref (a 300)] [((a 0), .inr (10, [.ref (a 1), .int 0, .int 0, .int (-1), .ref (a 2), .ref (a 3), .ref (a 4), .ref (a 5), .ref (a 6), .ref (a 7), .ref (a 8), .ref (a 9), .int 0])), ((a 3), .inr (6, [.ref (a 10), .int 0, .ref (a 21), .ref (a 22), .ref (a 23), .ref (a 24), .ref (a 25), .int 0])), ((a 10), .inr (0, [.int 0, .int 1, .int 1, .int 0, .int 0, .ref (a 11), .ref (a 12), .ref (a 13), .null, .null])), ((a 300), .inl (cy 2, 1, .inr (.inl (fun _ => 0))))] (fun r W1 => r = kf_spares p1 p2 ∧ ∃ g : Nat → Int64, W1 = [((a 300), .inl (cy 2, 1, .inr (.inl g)))] ∧ (kf_spares p1 p2 = 0 → g 0 = vf_spares p1 p2)) := by
  refine Hi.of (by decide) (Nat.le_of_ble_eq_true rfl) ?_
  intro p e s m below meth c A ls hX hE hP hD hl hxt
  obtain ⟨hx, hb, hr, hml, hown, htA, hlk⟩ := id hX
  have hK := hE.1
  have hS : va_S A s.heap s.heap [] := va_S.rf
  have hl : lv_has ls 5 [(0, .ref (a 0)), (1, .int p1), (2, .int p2), (3, .ref (a 300))] := hl
  refine lv_aload_n hx hb dL_spares_0 rfl (lv_at hl 3 rfl) ?_
  refine lv_iconst (v := 0) hx hb dL_spares_1 (by decide) ?_
  refine lv_aload_n hx hb dL_spares_2 rfl (lv_at hl 0 rfl) ?_
  refine lv_iload_n hx hb dL_spares_3 rfl (lv_at hl 1 rfl) ?_
  refine lv_iload_n hx hb dL_spares_4 rfl (lv_at hl 2 rfl) ?_
  refine xVi (As := [.int p1, .int p2]) (rest := [.int 0, .ref (a 300)]) (wr := [((a 300), .inl (cy 2, 1, .inr (.inl (fun _ => 0))))]) hX hE (m_spares l hlt D cy a p1 p2) (cwVA 2 htA wd_1097 wd_1094 wd_1 wd_1095 wd_1096 (by decide +kernel) ⟨by decide, by decide⟩) hP hD hS [0, 1, 2] [3] rfl rfl (by decide) 0 rfl rfl rfl rfl hl.1 rfl (Nat.le_of_ble_eq_true rfl) dL_spares_5 (by decide) (fun E ce q9 W1 H locs hw hP hD hS hce hcv hcl => ?_) (fun r_ W1 H locs hw hP hD hS => ?_)
  · rcases hw with ⟨rfl, g1⟩
    refine kCatch (name := "java/util/NoSuchElementException") hX hE hxt [] ⟨0, 10, 13, 19⟩ [] rfl (fun z hz => absurd hz List.not_mem_nil) (by decide) (by decide) wd_860 (by decide +kernel) hce hcv hcl ?_
    refine W.widen (k := 1) (n := 6) (by decide) (by decide) ?_
    have hP : va_P D vwCl [((a 300), .inl (cy 2, 1, .inr (.inl (fun _ => 0))))] H := hP.sub [0] rfl
    have hD : va_D A [((a 300), .inl (cy 2, 1, .inr (.inl (fun _ => 0))))] := hD.sub [0] (by rfl) rfl
    refine lv_astore (lv' := [(4, .ref q9), (0, .ref (a 0)), (1, .int p1), (2, .int p2), (3, .ref (a 300))]) hx hb dL_spares_13 hl (by decide) rfl (fun ls hl => ?_)
    refine lv_iconst (v := 1) hx hb dL_spares_15 (by decide) ?_
    exact rI hX hE (hP.sub [0] rfl) (hD.sub [0] (by decide) rfl) hS dL_spares_16 (by decide) (by decide) (⟨g1.symm, _, rfl, (fun q => absurd q (by rw [g1]; decide))⟩)
  · refine W.widen (k := 1) (n := 6) (by decide) (by decide) ?_
    have hP : va_P D vwCl [((a 300), .inl (cy 2, 1, .inr (.inl (fun _ => 0))))] H := hP.sub [0] rfl
    have hD : va_D A [((a 300), .inl (cy 2, 1, .inr (.inl (fun _ => 0))))] := hD.sub [0] (by rfl) rfl
    obtain ⟨hk0, hv0⟩ := hw
    have hP : va_P D vwCl [((a 300), .inl (cy 2, 1, .inr (.inl (fun _ => 0))))] H := hP
    have hD : va_D A [((a 300), .inl (cy 2, 1, .inr (.inl (fun _ => 0))))] := hD
    refine lv_i2l hx hb dL_spares_8 rfl ?_
    refine va_last hx hb hK hP hD hS 0 2 rfl rfl (in_lit (by decide)) dL_spares_9 (fun H locs hP hD hS => ?_)
    have hP : va_P D vwCl [((a 300), .inl (cy 2, 1, .inr (.inl (vp_updL (fun _ => 0) (0 : Int32).toNatClampNeg r_.toInt64))))] H := hP
    have hD : va_D A [((a 300), .inl (cy 2, 1, .inr (.inl (vp_updL (fun _ => 0) (0 : Int32).toNatClampNeg r_.toInt64))))] := hD
    refine lv_goto (tgt := 17) hx hb dL_spares_10 (by decide) ?_
    refine lv_iconst (v := 0) hx hb dL_spares_17 (by decide) ?_
    exact rI hX hE (hP.sub [0] rfl) (hD.sub [0] (by decide) rfl) hS dL_spares_18 (by decide) (by decide) (⟨hk0.symm, _, rfl, (fun _ => by first | exact hv0 | (show vp_updL _ _ _ 0 = _; first | exact hv0 | (rw [← hv0]; rfl)))⟩)
set_option maxHeartbeats 4000000 in
set_option maxRecDepth 100000 in
theorem h_fallsBy (l : Launch) (hlt : l.stackTraces = false) (D : va_G) (cy : Nat → ClassId) (a : Nat → Nat) (p1 : Int32) (p2 : Int32) (p3 : Int32) (p4 : Int32) : Hi l yL_fallsBy cL_fallsBy 7 (some .int) [(0, 14, 17, 19), (0, 14, 21, 43), (0, 14, 25, 13)] { frames := 9, cells := 1, slots := 6, locals := 158 } D cy [.ref (a 0), .int p1, .int p2, .int p3, .int p4, .ref (a 300)] [((a 0), .inr (10, [.ref (a 1), .int 0, .int 0, .int (-1), .ref (a 2), .ref (a 3), .ref (a 4), .ref (a 5), .ref (a 6), .ref (a 7), .ref (a 8), .ref (a 9), .int 0])), ((a 3), .inr (6, [.ref (a 10), .int 0, .ref (a 21), .ref (a 22), .ref (a 23), .ref (a 24), .ref (a 25), .int 0])), ((a 10), .inr (0, [.int 0, .int 1, .int 1, .int 0, .int 0, .ref (a 11), .ref (a 12), .ref (a 13), .null, .null])), ((a 300), .inl (cy 2, 1, .inr (.inl (fun _ => 0))))] (fun r W1 => r = kf_fallsBy p1 p2 p3 p4 ∧ ∃ g : Nat → Int64, W1 = [((a 300), .inl (cy 2, 1, .inr (.inl g)))] ∧ (kf_fallsBy p1 p2 p3 p4 = 0 → g 0 = vf_fallsBy p1 p2 p3 p4)) := by
  refine Hi.of (by decide) (Nat.le_of_ble_eq_true rfl) ?_
  intro p e s m below meth c A ls hX hE hP hD hl hxt
  obtain ⟨hx, hb, hr, hml, hown, htA, hlk⟩ := id hX
  have hK := hE.1
  have hS : va_S A s.heap s.heap [] := va_S.rf
  have hl : lv_has ls 7 [(0, .ref (a 0)), (1, .int p1), (2, .int p2), (3, .int p3), (4, .int p4), (5, .ref (a 300))] := hl
  refine lv_aload hx hb dL_fallsBy_0 (lv_at hl 5 rfl) ?_
  refine lv_iconst (v := 0) hx hb dL_fallsBy_2 (by decide) ?_
  refine lv_aload_n hx hb dL_fallsBy_3 rfl (lv_at hl 0 rfl) ?_
  refine lv_iload_n hx hb dL_fallsBy_4 rfl (lv_at hl 1 rfl) ?_
  refine lv_iload_n hx hb dL_fallsBy_5 rfl (lv_at hl 2 rfl) ?_
  refine lv_iload_n hx hb dL_fallsBy_6 rfl (lv_at hl 3 rfl) ?_
  refine lv_iload hx hb dL_fallsBy_7 (lv_at hl 4 rfl) ?_
  refine xVi (As := [.int p1, .int p2, .int p3, .int p4]) (rest := [.int 0, .ref (a 300)]) (wr := [((a 300), .inl (cy 2, 1, .inr (.inl (fun _ => 0))))]) hX hE (m_fallsBy l hlt D cy a p1 p2 p3 p4) (cwVA 4 htA wd_1104 wd_1101 wd_1 wd_1102 wd_1103 (by decide +kernel) ⟨by decide, by decide⟩) hP hD hS [0, 1, 2] [3] rfl rfl (by decide) 0 rfl rfl rfl rfl hl.1 rfl (Nat.le_of_ble_eq_true rfl) dL_fallsBy_9 (by decide) (fun E ce q9 W1 H locs hw hP hD hS hce hcv hcl => ?_) (fun r_ W1 H locs hw hP hD hS => ?_)
  · rcases hw with ⟨rfl, g1⟩
    refine kCatch (name := "java/util/NoSuchElementException") hX hE hxt [] ⟨0, 14, 17, 19⟩ [⟨0, 14, 21, 43⟩, ⟨0, 14, 25, 13⟩] rfl (fun z hz => absurd hz List.not_mem_nil) (by decide) (by decide) wd_860 (by decide +kernel) hce hcv hcl ?_
    refine W.widen (k := 1) (n := 6) (by decide) (by decide) ?_
    have hP : va_P D vwCl [((a 300), .inl (cy 2, 1, .inr (.inl (fun _ => 0))))] H := hP.sub [0] rfl
    have hD : va_D A [((a 300), .inl (cy 2, 1, .inr (.inl (fun _ => 0))))] := hD.sub [0] (by rfl) rfl
    refine lv_astore (lv' := [(6, .ref q9), (0, .ref (a 0)), (1, .int p1), (2, .int p2), (3, .int p3), (4, .int p4), (5, .ref (a 300))]) hx hb dL_fallsBy_17 hl (by decide) rfl (fun ls hl => ?_)
    refine lv_iconst (v := 1) hx hb dL_fallsBy_19 (by decide) ?_
    exact rI hX hE (hP.sub [0] rfl) (hD.sub [0] (by decide) rfl) hS dL_fallsBy_20 (by decide) (by decide) (⟨g1.symm, _, rfl, (fun q => absurd q (by rw [g1]; decide))⟩)
  · refine W.widen (k := 1) (n := 6) (by decide) (by decide) ?_
    have hP : va_P D vwCl [((a 300), .inl (cy 2, 1, .inr (.inl (fun _ => 0))))] H := hP.sub [0] rfl
    have hD : va_D A [((a 300), .inl (cy 2, 1, .inr (.inl (fun _ => 0))))] := hD.sub [0] (by rfl) rfl
    obtain ⟨hk0, hv0⟩ := hw
    have hP : va_P D vwCl [((a 300), .inl (cy 2, 1, .inr (.inl (fun _ => 0))))] H := hP
    have hD : va_D A [((a 300), .inl (cy 2, 1, .inr (.inl (fun _ => 0))))] := hD
    refine lv_i2l hx hb dL_fallsBy_12 rfl ?_
    refine va_last hx hb hK hP hD hS 0 2 rfl rfl (in_lit (by decide)) dL_fallsBy_13 (fun H locs hP hD hS => ?_)
    have hP : va_P D vwCl [((a 300), .inl (cy 2, 1, .inr (.inl (vp_updL (fun _ => 0) (0 : Int32).toNatClampNeg r_.toInt64))))] H := hP
    have hD : va_D A [((a 300), .inl (cy 2, 1, .inr (.inl (vp_updL (fun _ => 0) (0 : Int32).toNatClampNeg r_.toInt64))))] := hD
    refine lv_goto (tgt := 29) hx hb dL_fallsBy_14 (by decide) ?_
    refine lv_iconst (v := 0) hx hb dL_fallsBy_29 (by decide) ?_
    exact rI hX hE (hP.sub [0] rfl) (hD.sub [0] (by decide) rfl) hS dL_fallsBy_30 (by decide) (by decide) (⟨hk0.symm, _, rfl, (fun _ => by first | exact hv0 | (show vp_updL _ _ _ 0 = _; first | exact hv0 | (rw [← hv0]; rfl)))⟩)
set_option maxHeartbeats 4000000 in
set_option maxRecDepth 100000 in
theorem h_waitFor (l : Launch) (hlt : l.stackTraces = false) (D : va_G) (cy : Nat → ClassId) (a : Nat → Nat) (p1 : Int32) (p2 : Int32) (p3 : Int32) (p4 : Int32) : Hi l yL_waitFor cL_waitFor 7 (some .int) [(0, 14, 17, 19), (0, 14, 21, 43), (0, 14, 25, 13)] { frames := 9, cells := 1, slots := 6, locals := 159 } D cy [.ref (a 0), .int p1, .int p2, .int p3, .int p4, .ref (a 300)] [((a 0), .inr (10, [.ref (a 1), .int 0, .int 0, .int (-1), .ref (a 2), .ref (a 3), .ref (a 4), .ref (a 5), .ref (a 6), .ref (a 7), .ref (a 8), .ref (a 9), .int 0])), ((a 3), .inr (6, [.ref (a 10), .int 0, .ref (a 21), .ref (a 22), .ref (a 23), .ref (a 24), .ref (a 25), .int 0])), ((a 10), .inr (0, [.int 0, .int 1, .int 1, .int 0, .int 0, .ref (a 11), .ref (a 12), .ref (a 13), .null, .null])), ((a 300), .inl (cy 2, 1, .inr (.inl (fun _ => 0))))] (fun r W1 => r = kf_waitFor p1 p2 p3 p4 ∧ ∃ g : Nat → Int64, W1 = [((a 300), .inl (cy 2, 1, .inr (.inl g)))] ∧ (kf_waitFor p1 p2 p3 p4 = 0 → g 0 = vf_waitFor p1 p2 p3 p4)) := by
  refine Hi.of (by decide) (Nat.le_of_ble_eq_true rfl) ?_
  intro p e s m below meth c A ls hX hE hP hD hl hxt
  obtain ⟨hx, hb, hr, hml, hown, htA, hlk⟩ := id hX
  have hK := hE.1
  have hS : va_S A s.heap s.heap [] := va_S.rf
  have hl : lv_has ls 7 [(0, .ref (a 0)), (1, .int p1), (2, .int p2), (3, .int p3), (4, .int p4), (5, .ref (a 300))] := hl
  refine lv_aload hx hb dL_waitFor_0 (lv_at hl 5 rfl) ?_
  refine lv_iconst (v := 0) hx hb dL_waitFor_2 (by decide) ?_
  refine lv_aload_n hx hb dL_waitFor_3 rfl (lv_at hl 0 rfl) ?_
  refine lv_iload_n hx hb dL_waitFor_4 rfl (lv_at hl 1 rfl) ?_
  refine lv_iload_n hx hb dL_waitFor_5 rfl (lv_at hl 2 rfl) ?_
  refine lv_iload_n hx hb dL_waitFor_6 rfl (lv_at hl 3 rfl) ?_
  refine lv_iload hx hb dL_waitFor_7 (lv_at hl 4 rfl) ?_
  refine xVi (As := [.int p1, .int p2, .int p3, .int p4]) (rest := [.int 0, .ref (a 300)]) (wr := [((a 300), .inl (cy 2, 1, .inr (.inl (fun _ => 0))))]) hX hE (m_waitFor l hlt D cy a p1 p2 p3 p4) (cwVA 4 htA wd_1126 wd_1123 wd_1 wd_1124 wd_1125 (by decide +kernel) ⟨by decide, by decide⟩) hP hD hS [0, 1, 2] [3] rfl rfl (by decide) 0 rfl rfl rfl rfl hl.1 rfl (Nat.le_of_ble_eq_true rfl) dL_waitFor_9 (by decide) (fun E ce q9 W1 H locs hw hP hD hS hce hcv hcl => ?_) (fun r_ W1 H locs hw hP hD hS => ?_)
  · rcases hw with ⟨rfl, g1⟩
    refine kCatch (name := "java/util/NoSuchElementException") hX hE hxt [] ⟨0, 14, 17, 19⟩ [⟨0, 14, 21, 43⟩, ⟨0, 14, 25, 13⟩] rfl (fun z hz => absurd hz List.not_mem_nil) (by decide) (by decide) wd_860 (by decide +kernel) hce hcv hcl ?_
    refine W.widen (k := 1) (n := 6) (by decide) (by decide) ?_
    have hP : va_P D vwCl [((a 300), .inl (cy 2, 1, .inr (.inl (fun _ => 0))))] H := hP.sub [0] rfl
    have hD : va_D A [((a 300), .inl (cy 2, 1, .inr (.inl (fun _ => 0))))] := hD.sub [0] (by rfl) rfl
    refine lv_astore (lv' := [(6, .ref q9), (0, .ref (a 0)), (1, .int p1), (2, .int p2), (3, .int p3), (4, .int p4), (5, .ref (a 300))]) hx hb dL_waitFor_17 hl (by decide) rfl (fun ls hl => ?_)
    refine lv_iconst (v := 1) hx hb dL_waitFor_19 (by decide) ?_
    exact rI hX hE (hP.sub [0] rfl) (hD.sub [0] (by decide) rfl) hS dL_waitFor_20 (by decide) (by decide) (⟨g1.symm, _, rfl, (fun q => absurd q (by rw [g1]; decide))⟩)
  · refine W.widen (k := 1) (n := 6) (by decide) (by decide) ?_
    have hP : va_P D vwCl [((a 300), .inl (cy 2, 1, .inr (.inl (fun _ => 0))))] H := hP.sub [0] rfl
    have hD : va_D A [((a 300), .inl (cy 2, 1, .inr (.inl (fun _ => 0))))] := hD.sub [0] (by rfl) rfl
    obtain ⟨hk0, hv0⟩ := hw
    have hP : va_P D vwCl [((a 300), .inl (cy 2, 1, .inr (.inl (fun _ => 0))))] H := hP
    have hD : va_D A [((a 300), .inl (cy 2, 1, .inr (.inl (fun _ => 0))))] := hD
    refine lv_i2l hx hb dL_waitFor_12 rfl ?_
    refine va_last hx hb hK hP hD hS 0 2 rfl rfl (in_lit (by decide)) dL_waitFor_13 (fun H locs hP hD hS => ?_)
    have hP : va_P D vwCl [((a 300), .inl (cy 2, 1, .inr (.inl (vp_updL (fun _ => 0) (0 : Int32).toNatClampNeg r_.toInt64))))] H := hP
    have hD : va_D A [((a 300), .inl (cy 2, 1, .inr (.inl (vp_updL (fun _ => 0) (0 : Int32).toNatClampNeg r_.toInt64))))] := hD
    refine lv_goto (tgt := 29) hx hb dL_waitFor_14 (by decide) ?_
    refine lv_iconst (v := 0) hx hb dL_waitFor_29 (by decide) ?_
    exact rI hX hE (hP.sub [0] rfl) (hD.sub [0] (by decide) rfl) hS dL_waitFor_30 (by decide) (by decide) (⟨hk0.symm, _, rfl, (fun _ => by first | exact hv0 | (show vp_updL _ _ _ 0 = _; first | exact hv0 | (rw [← hv0]; rfl)))⟩)
set_option maxHeartbeats 4000000 in
set_option maxRecDepth 100000 in
theorem h_waitSafe (l : Launch) (hlt : l.stackTraces = false) (D : va_G) (cy : Nat → ClassId) (a : Nat → Nat) (p1 : Int32) (p2 : Int32) (p3 : Int32) : Hi l yL_waitSafe cL_waitSafe 6 (some .int) [(0, 12, 15, 19), (0, 12, 19, 43)] { frames := 9, cells := 1, slots := 6, locals := 159 } D cy [.ref (a 0), .int p1, .int p2, .int p3, .ref (a 300)] [((a 0), .inr (10, [.ref (a 1), .int 0, .int 0, .int (-1), .ref (a 2), .ref (a 3), .ref (a 4), .ref (a 5), .ref (a 6), .ref (a 7), .ref (a 8), .ref (a 9), .int 0])), ((a 3), .inr (6, [.ref (a 10), .int 0, .ref (a 21), .ref (a 22), .ref (a 23), .ref (a 24), .ref (a 25), .int 0])), ((a 10), .inr (0, [.int 0, .int 1, .int 1, .int 0, .int 0, .ref (a 11), .ref (a 12), .ref (a 13), .null, .null])), ((a 300), .inl (cy 2, 1, .inr (.inl (fun _ => 0))))] (fun r W1 => r = kf_waitSafe p1 p2 p3 ∧ ∃ g : Nat → Int64, W1 = [((a 300), .inl (cy 2, 1, .inr (.inl g)))] ∧ (kf_waitSafe p1 p2 p3 = 0 → g 0 = vf_waitSafe p1 p2 p3)) := by
  refine Hi.of (by decide) (Nat.le_of_ble_eq_true rfl) ?_
  intro p e s m below meth c A ls hX hE hP hD hl hxt
  obtain ⟨hx, hb, hr, hml, hown, htA, hlk⟩ := id hX
  have hK := hE.1
  have hS : va_S A s.heap s.heap [] := va_S.rf
  have hl : lv_has ls 6 [(0, .ref (a 0)), (1, .int p1), (2, .int p2), (3, .int p3), (4, .ref (a 300))] := hl
  refine lv_aload hx hb dL_waitSafe_0 (lv_at hl 4 rfl) ?_
  refine lv_iconst (v := 0) hx hb dL_waitSafe_2 (by decide) ?_
  refine lv_aload_n hx hb dL_waitSafe_3 rfl (lv_at hl 0 rfl) ?_
  refine lv_iload_n hx hb dL_waitSafe_4 rfl (lv_at hl 1 rfl) ?_
  refine lv_iload_n hx hb dL_waitSafe_5 rfl (lv_at hl 2 rfl) ?_
  refine lv_iload_n hx hb dL_waitSafe_6 rfl (lv_at hl 3 rfl) ?_
  refine xVi (As := [.int p1, .int p2, .int p3]) (rest := [.int 0, .ref (a 300)]) (wr := [((a 300), .inl (cy 2, 1, .inr (.inl (fun _ => 0))))]) hX hE (m_waitSafe l hlt D cy a p1 p2 p3) (cwVA 3 htA wd_1133 wd_1130 wd_1 wd_1131 wd_1132 (by decide +kernel) ⟨by decide, by decide⟩) hP hD hS [0, 1, 2] [3] rfl rfl (by decide) 0 rfl rfl rfl rfl hl.1 rfl (Nat.le_of_ble_eq_true rfl) dL_waitSafe_7 (by decide) (fun E ce q9 W1 H locs hw hP hD hS hce hcv hcl => ?_) (fun r_ W1 H locs hw hP hD hS => ?_)
  · rcases hw with ⟨rfl, g1⟩
    refine kCatch (name := "java/util/NoSuchElementException") hX hE hxt [] ⟨0, 12, 15, 19⟩ [⟨0, 12, 19, 43⟩] rfl (fun z hz => absurd hz List.not_mem_nil) (by decide) (by decide) wd_860 (by decide +kernel) hce hcv hcl ?_
    refine W.widen (k := 1) (n := 6) (by decide) (by decide) ?_
    have hP : va_P D vwCl [((a 300), .inl (cy 2, 1, .inr (.inl (fun _ => 0))))] H := hP.sub [0] rfl
    have hD : va_D A [((a 300), .inl (cy 2, 1, .inr (.inl (fun _ => 0))))] := hD.sub [0] (by rfl) rfl
    refine lv_astore (lv' := [(5, .ref q9), (0, .ref (a 0)), (1, .int p1), (2, .int p2), (3, .int p3), (4, .ref (a 300))]) hx hb dL_waitSafe_15 hl (by decide) rfl (fun ls hl => ?_)
    refine lv_iconst (v := 1) hx hb dL_waitSafe_17 (by decide) ?_
    exact rI hX hE (hP.sub [0] rfl) (hD.sub [0] (by decide) rfl) hS dL_waitSafe_18 (by decide) (by decide) (⟨g1.symm, _, rfl, (fun q => absurd q (by rw [g1]; decide))⟩)
  · refine W.widen (k := 1) (n := 6) (by decide) (by decide) ?_
    have hP : va_P D vwCl [((a 300), .inl (cy 2, 1, .inr (.inl (fun _ => 0))))] H := hP.sub [0] rfl
    have hD : va_D A [((a 300), .inl (cy 2, 1, .inr (.inl (fun _ => 0))))] := hD.sub [0] (by rfl) rfl
    obtain ⟨hk0, hv0⟩ := hw
    have hP : va_P D vwCl [((a 300), .inl (cy 2, 1, .inr (.inl (fun _ => 0))))] H := hP
    have hD : va_D A [((a 300), .inl (cy 2, 1, .inr (.inl (fun _ => 0))))] := hD
    refine lv_i2l hx hb dL_waitSafe_10 rfl ?_
    refine va_last hx hb hK hP hD hS 0 2 rfl rfl (in_lit (by decide)) dL_waitSafe_11 (fun H locs hP hD hS => ?_)
    have hP : va_P D vwCl [((a 300), .inl (cy 2, 1, .inr (.inl (vp_updL (fun _ => 0) (0 : Int32).toNatClampNeg r_.toInt64))))] H := hP
    have hD : va_D A [((a 300), .inl (cy 2, 1, .inr (.inl (vp_updL (fun _ => 0) (0 : Int32).toNatClampNeg r_.toInt64))))] := hD
    refine lv_goto (tgt := 23) hx hb dL_waitSafe_12 (by decide) ?_
    refine lv_iconst (v := 0) hx hb dL_waitSafe_23 (by decide) ?_
    exact rI hX hE (hP.sub [0] rfl) (hD.sub [0] (by decide) rfl) hS dL_waitSafe_24 (by decide) (by decide) (⟨hk0.symm, _, rfl, (fun _ => by first | exact hv0 | (show vp_updL _ _ _ 0 = _; first | exact hv0 | (rw [← hv0]; rfl)))⟩)
set_option maxHeartbeats 4000000 in
set_option maxRecDepth 100000 in
theorem h_waitHurt (l : Launch) (hlt : l.stackTraces = false) (D : va_G) (cy : Nat → ClassId) (a : Nat → Nat) (p1 : Int32) (p2 : Int32) (p3 : Int32) (p4 : Int32) : Hi l yL_waitHurt cL_waitHurt 7 (some .int) [(0, 14, 17, 19), (0, 14, 21, 43)] { frames := 8, cells := 1, slots := 6, locals := 137 } D cy [.ref (a 0), .int p1, .int p2, .int p3, .int p4, .ref (a 300)] [((a 0), .inr (10, [.ref (a 1), .int 0, .int 0, .int (-1), .ref (a 2), .ref (a 3), .ref (a 4), .ref (a 5), .ref (a 6), .ref (a 7), .ref (a 8), .ref (a 9), .int 0])), ((a 3), .inr (6, [.ref (a 10), .int 0, .ref (a 21), .ref (a 22), .ref (a 23), .ref (a 24), .ref (a 25), .int 0])), ((a 10), .inr (0, [.int 0, .int 1, .int 1, .int 0, .int 0, .ref (a 11), .ref (a 12), .ref (a 13), .null, .null])), ((a 300), .inl (cy 2, 1, .inr (.inl (fun _ => 0))))] (fun r W1 => r = kf_waitHurt p1 p2 p3 p4 ∧ ∃ g : Nat → Int64, W1 = [((a 300), .inl (cy 2, 1, .inr (.inl g)))] ∧ (kf_waitHurt p1 p2 p3 p4 = 0 → g 0 = vf_waitHurt p1 p2 p3 p4)) := by
  refine Hi.of (by decide) (Nat.le_of_ble_eq_true rfl) ?_
  intro p e s m below meth c A ls hX hE hP hD hl hxt
  obtain ⟨hx, hb, hr, hml, hown, htA, hlk⟩ := id hX
  have hK := hE.1
  have hS : va_S A s.heap s.heap [] := va_S.rf
  have hl : lv_has ls 7 [(0, .ref (a 0)), (1, .int p1), (2, .int p2), (3, .int p3), (4, .int p4), (5, .ref (a 300))] := hl
  refine lv_aload hx hb dL_waitHurt_0 (lv_at hl 5 rfl) ?_
  refine lv_iconst (v := 0) hx hb dL_waitHurt_2 (by decide) ?_
  refine lv_aload_n hx hb dL_waitHurt_3 rfl (lv_at hl 0 rfl) ?_
  refine lv_iload_n hx hb dL_waitHurt_4 rfl (lv_at hl 1 rfl) ?_
  refine lv_iload_n hx hb dL_waitHurt_5 rfl (lv_at hl 2 rfl) ?_
  refine lv_iload_n hx hb dL_waitHurt_6 rfl (lv_at hl 3 rfl) ?_
  refine lv_iload hx hb dL_waitHurt_7 (lv_at hl 4 rfl) ?_
  refine xVi (As := [.int p1, .int p2, .int p3, .int p4]) (rest := [.int 0, .ref (a 300)]) (wr := [((a 300), .inl (cy 2, 1, .inr (.inl (fun _ => 0))))]) hX hE (m_waitHurt l hlt D cy a p1 p2 p3 p4) (cwVA 4 htA wd_1145 wd_1142 wd_1 wd_1143 wd_1144 (by decide +kernel) ⟨by decide, by decide⟩) hP hD hS [0, 1, 2] [3] rfl rfl (by decide) 0 rfl rfl rfl rfl hl.1 rfl (Nat.le_of_ble_eq_true rfl) dL_waitHurt_9 (by decide) (fun E ce q9 W1 H locs hw hP hD hS hce hcv hcl => ?_) (fun r_ W1 H locs hw hP hD hS => ?_)
  · rcases hw with ⟨rfl, g1⟩
    refine kCatch (name := "java/util/NoSuchElementException") hX hE hxt [] ⟨0, 14, 17, 19⟩ [⟨0, 14, 21, 43⟩] rfl (fun z hz => absurd hz List.not_mem_nil) (by decide) (by decide) wd_860 (by decide +kernel) hce hcv hcl ?_
    refine W.widen (k := 1) (n := 6) (by decide) (by decide) ?_
    have hP : va_P D vwCl [((a 300), .inl (cy 2, 1, .inr (.inl (fun _ => 0))))] H := hP.sub [0] rfl
    have hD : va_D A [((a 300), .inl (cy 2, 1, .inr (.inl (fun _ => 0))))] := hD.sub [0] (by rfl) rfl
    refine lv_astore (lv' := [(6, .ref q9), (0, .ref (a 0)), (1, .int p1), (2, .int p2), (3, .int p3), (4, .int p4), (5, .ref (a 300))]) hx hb dL_waitHurt_17 hl (by decide) rfl (fun ls hl => ?_)
    refine lv_iconst (v := 1) hx hb dL_waitHurt_19 (by decide) ?_
    exact rI hX hE (hP.sub [0] rfl) (hD.sub [0] (by decide) rfl) hS dL_waitHurt_20 (by decide) (by decide) (⟨g1.symm, _, rfl, (fun q => absurd q (by rw [g1]; decide))⟩)
  · refine W.widen (k := 1) (n := 6) (by decide) (by decide) ?_
    have hP : va_P D vwCl [((a 300), .inl (cy 2, 1, .inr (.inl (fun _ => 0))))] H := hP.sub [0] rfl
    have hD : va_D A [((a 300), .inl (cy 2, 1, .inr (.inl (fun _ => 0))))] := hD.sub [0] (by rfl) rfl
    obtain ⟨hk0, hv0⟩ := hw
    have hP : va_P D vwCl [((a 300), .inl (cy 2, 1, .inr (.inl (fun _ => 0))))] H := hP
    have hD : va_D A [((a 300), .inl (cy 2, 1, .inr (.inl (fun _ => 0))))] := hD
    refine lv_i2l hx hb dL_waitHurt_12 rfl ?_
    refine va_last hx hb hK hP hD hS 0 2 rfl rfl (in_lit (by decide)) dL_waitHurt_13 (fun H locs hP hD hS => ?_)
    have hP : va_P D vwCl [((a 300), .inl (cy 2, 1, .inr (.inl (vp_updL (fun _ => 0) (0 : Int32).toNatClampNeg r_.toInt64))))] H := hP
    have hD : va_D A [((a 300), .inl (cy 2, 1, .inr (.inl (vp_updL (fun _ => 0) (0 : Int32).toNatClampNeg r_.toInt64))))] := hD
    refine lv_goto (tgt := 25) hx hb dL_waitHurt_14 (by decide) ?_
    refine lv_iconst (v := 0) hx hb dL_waitHurt_25 (by decide) ?_
    exact rI hX hE (hP.sub [0] rfl) (hD.sub [0] (by decide) rfl) hS dL_waitHurt_26 (by decide) (by decide) (⟨hk0.symm, _, rfl, (fun _ => by first | exact hv0 | (show vp_updL _ _ _ 0 = _; first | exact hv0 | (rw [← hv0]; rfl)))⟩)
set_option maxHeartbeats 4000000 in
set_option maxRecDepth 100000 in
theorem h_place (l : Launch) (hlt : l.stackTraces = false) (D : va_G) (cy : Nat → ClassId) (a : Nat → Nat) (p1 : Int32) (p2 : Int32) : Hi l yL_place cL_place 5 (some .int) [(0, 10, 13, 19), (0, 10, 17, 43)] { frames := 8, cells := 1, slots := 6, locals := 139 } D cy [.ref (a 0), .int p1, .int p2, .ref (a 300)] [((a 0), .inr (10, [.ref (a 1), .int 0, .int 0, .int (-1), .ref (a 2), .ref (a 3), .ref (a 4), .ref (a 5), .ref (a 6), .ref (a 7), .ref (a 8), .ref (a 9), .int 0])), ((a 3), .inr (6, [.ref (a 10), .int 0, .ref (a 21), .ref (a 22), .ref (a 23), .ref (a 24), .ref (a 25), .int 0])), ((a 10), .inr (0, [.int 0, .int 1, .int 1, .int 0, .int 0, .ref (a 11), .ref (a 12), .ref (a 13), .null, .null])), ((a 300), .inl (cy 2, 1, .inr (.inl (fun _ => 0))))] (fun r W1 => r = kf_place p1 p2 ∧ ∃ g : Nat → Int64, W1 = [((a 300), .inl (cy 2, 1, .inr (.inl g)))] ∧ (kf_place p1 p2 = 0 → g 0 = vf_place p1 p2)) := by
  refine Hi.of (by decide) (Nat.le_of_ble_eq_true rfl) ?_
  intro p e s m below meth c A ls hX hE hP hD hl hxt
  obtain ⟨hx, hb, hr, hml, hown, htA, hlk⟩ := id hX
  have hK := hE.1
  have hS : va_S A s.heap s.heap [] := va_S.rf
  have hl : lv_has ls 5 [(0, .ref (a 0)), (1, .int p1), (2, .int p2), (3, .ref (a 300))] := hl
  refine lv_aload_n hx hb dL_place_0 rfl (lv_at hl 3 rfl) ?_
  refine lv_iconst (v := 0) hx hb dL_place_1 (by decide) ?_
  refine lv_aload_n hx hb dL_place_2 rfl (lv_at hl 0 rfl) ?_
  refine lv_iload_n hx hb dL_place_3 rfl (lv_at hl 1 rfl) ?_
  refine lv_iload_n hx hb dL_place_4 rfl (lv_at hl 2 rfl) ?_
  refine xVi (As := [.int p1, .int p2]) (rest := [.int 0, .ref (a 300)]) (wr := [((a 300), .inl (cy 2, 1, .inr (.inl (fun _ => 0))))]) hX hE (m_place l hlt D cy a p1 p2) (cwVA 2 htA wd_1152 wd_1149 wd_1 wd_1150 wd_1151 (by decide +kernel) ⟨by decide, by decide⟩) hP hD hS [0, 1, 2] [3] rfl rfl (by decide) 0 rfl rfl rfl rfl hl.1 rfl (Nat.le_of_ble_eq_true rfl) dL_place_5 (by decide) (fun E ce q9 W1 H locs hw hP hD hS hce hcv hcl => ?_) (fun r_ W1 H locs hw hP hD hS => ?_)
  · rcases hw with ⟨rfl, g1⟩
    refine kCatch (name := "java/util/NoSuchElementException") hX hE hxt [] ⟨0, 10, 13, 19⟩ [⟨0, 10, 17, 43⟩] rfl (fun z hz => absurd hz List.not_mem_nil) (by decide) (by decide) wd_860 (by decide +kernel) hce hcv hcl ?_
    refine W.widen (k := 1) (n := 6) (by decide) (by decide) ?_
    have hP : va_P D vwCl [((a 300), .inl (cy 2, 1, .inr (.inl (fun _ => 0))))] H := hP.sub [0] rfl
    have hD : va_D A [((a 300), .inl (cy 2, 1, .inr (.inl (fun _ => 0))))] := hD.sub [0] (by rfl) rfl
    refine lv_astore (lv' := [(4, .ref q9), (0, .ref (a 0)), (1, .int p1), (2, .int p2), (3, .ref (a 300))]) hx hb dL_place_13 hl (by decide) rfl (fun ls hl => ?_)
    refine lv_iconst (v := 1) hx hb dL_place_15 (by decide) ?_
    exact rI hX hE (hP.sub [0] rfl) (hD.sub [0] (by decide) rfl) hS dL_place_16 (by decide) (by decide) (⟨g1.symm, _, rfl, (fun q => absurd q (by rw [g1]; decide))⟩)
  · refine W.widen (k := 1) (n := 6) (by decide) (by decide) ?_
    have hP : va_P D vwCl [((a 300), .inl (cy 2, 1, .inr (.inl (fun _ => 0))))] H := hP.sub [0] rfl
    have hD : va_D A [((a 300), .inl (cy 2, 1, .inr (.inl (fun _ => 0))))] := hD.sub [0] (by rfl) rfl
    obtain ⟨hk0, hv0⟩ := hw
    have hP : va_P D vwCl [((a 300), .inl (cy 2, 1, .inr (.inl (fun _ => 0))))] H := hP
    have hD : va_D A [((a 300), .inl (cy 2, 1, .inr (.inl (fun _ => 0))))] := hD
    refine lv_i2l hx hb dL_place_8 rfl ?_
    refine va_last hx hb hK hP hD hS 0 2 rfl rfl (in_lit (by decide)) dL_place_9 (fun H locs hP hD hS => ?_)
    have hP : va_P D vwCl [((a 300), .inl (cy 2, 1, .inr (.inl (vp_updL (fun _ => 0) (0 : Int32).toNatClampNeg r_.toInt64))))] H := hP
    have hD : va_D A [((a 300), .inl (cy 2, 1, .inr (.inl (vp_updL (fun _ => 0) (0 : Int32).toNatClampNeg r_.toInt64))))] := hD
    refine lv_goto (tgt := 21) hx hb dL_place_10 (by decide) ?_
    refine lv_iconst (v := 0) hx hb dL_place_21 (by decide) ?_
    exact rI hX hE (hP.sub [0] rfl) (hD.sub [0] (by decide) rfl) hS dL_place_22 (by decide) (by decide) (⟨hk0.symm, _, rfl, (fun _ => by first | exact hv0 | (show vp_updL _ _ _ 0 = _; first | exact hv0 | (rw [← hv0]; rfl)))⟩)
set_option maxHeartbeats 4000000 in
set_option maxRecDepth 100000 in
theorem h_worst (l : Launch) (hlt : l.stackTraces = false) (D : va_G) (cy : Nat → ClassId) (a : Nat → Nat) (p1 : Int32) (p2 : Int32) : Hi l yL_worst cL_worst 5 (some .int) [(0, 10, 13, 19), (0, 10, 17, 43), (0, 10, 21, 13)] { frames := 8, cells := 1, slots := 6, locals := 140 } D cy [.ref (a 0), .int p1, .int p2, .ref (a 300)] [((a 0), .inr (10, [.ref (a 1), .int 0, .int 0, .int (-1), .ref (a 2), .ref (a 3), .ref (a 4), .ref (a 5), .ref (a 6), .ref (a 7), .ref (a 8), .ref (a 9), .int 0])), ((a 3), .inr (6, [.ref (a 10), .int 0, .ref (a 21), .ref (a 22), .ref (a 23), .ref (a 24), .ref (a 25), .int 0])), ((a 10), .inr (0, [.int 0, .int 1, .int 1, .int 0, .int 0, .ref (a 11), .ref (a 12), .ref (a 13), .null, .null])), ((a 300), .inl (cy 2, 1, .inr (.inl (fun _ => 0))))] (fun r W1 => r = kf_worst p1 p2 ∧ ∃ g : Nat → Int64, W1 = [((a 300), .inl (cy 2, 1, .inr (.inl g)))] ∧ (kf_worst p1 p2 = 0 → g 0 = vf_worst p1 p2)) := by
  refine Hi.of (by decide) (Nat.le_of_ble_eq_true rfl) ?_
  intro p e s m below meth c A ls hX hE hP hD hl hxt
  obtain ⟨hx, hb, hr, hml, hown, htA, hlk⟩ := id hX
  have hK := hE.1
  have hS : va_S A s.heap s.heap [] := va_S.rf
  have hl : lv_has ls 5 [(0, .ref (a 0)), (1, .int p1), (2, .int p2), (3, .ref (a 300))] := hl
  refine lv_aload_n hx hb dL_worst_0 rfl (lv_at hl 3 rfl) ?_
  refine lv_iconst (v := 0) hx hb dL_worst_1 (by decide) ?_
  refine lv_aload_n hx hb dL_worst_2 rfl (lv_at hl 0 rfl) ?_
  refine lv_iload_n hx hb dL_worst_3 rfl (lv_at hl 1 rfl) ?_
  refine lv_iload_n hx hb dL_worst_4 rfl (lv_at hl 2 rfl) ?_
  refine xVi (As := [.int p1, .int p2]) (rest := [.int 0, .ref (a 300)]) (wr := [((a 300), .inl (cy 2, 1, .inr (.inl (fun _ => 0))))]) hX hE (m_worst l hlt D cy a p1 p2) (cwVA 2 htA wd_1159 wd_1156 wd_1 wd_1157 wd_1158 (by decide +kernel) ⟨by decide, by decide⟩) hP hD hS [0, 1, 2] [3] rfl rfl (by decide) 0 rfl rfl rfl rfl hl.1 rfl (Nat.le_of_ble_eq_true rfl) dL_worst_5 (by decide) (fun E ce q9 W1 H locs hw hP hD hS hce hcv hcl => ?_) (fun r_ W1 H locs hw hP hD hS => ?_)
  · rcases hw with ⟨rfl, g1⟩
    refine kCatch (name := "java/util/NoSuchElementException") hX hE hxt [] ⟨0, 10, 13, 19⟩ [⟨0, 10, 17, 43⟩, ⟨0, 10, 21, 13⟩] rfl (fun z hz => absurd hz List.not_mem_nil) (by decide) (by decide) wd_860 (by decide +kernel) hce hcv hcl ?_
    refine W.widen (k := 1) (n := 6) (by decide) (by decide) ?_
    have hP : va_P D vwCl [((a 300), .inl (cy 2, 1, .inr (.inl (fun _ => 0))))] H := hP.sub [0] rfl
    have hD : va_D A [((a 300), .inl (cy 2, 1, .inr (.inl (fun _ => 0))))] := hD.sub [0] (by rfl) rfl
    refine lv_astore (lv' := [(4, .ref q9), (0, .ref (a 0)), (1, .int p1), (2, .int p2), (3, .ref (a 300))]) hx hb dL_worst_13 hl (by decide) rfl (fun ls hl => ?_)
    refine lv_iconst (v := 1) hx hb dL_worst_15 (by decide) ?_
    exact rI hX hE (hP.sub [0] rfl) (hD.sub [0] (by decide) rfl) hS dL_worst_16 (by decide) (by decide) (⟨g1.symm, _, rfl, (fun q => absurd q (by rw [g1]; decide))⟩)
  · refine W.widen (k := 1) (n := 6) (by decide) (by decide) ?_
    have hP : va_P D vwCl [((a 300), .inl (cy 2, 1, .inr (.inl (fun _ => 0))))] H := hP.sub [0] rfl
    have hD : va_D A [((a 300), .inl (cy 2, 1, .inr (.inl (fun _ => 0))))] := hD.sub [0] (by rfl) rfl
    obtain ⟨hk0, hv0⟩ := hw
    have hP : va_P D vwCl [((a 300), .inl (cy 2, 1, .inr (.inl (fun _ => 0))))] H := hP
    have hD : va_D A [((a 300), .inl (cy 2, 1, .inr (.inl (fun _ => 0))))] := hD
    refine lv_i2l hx hb dL_worst_8 rfl ?_
    refine va_last hx hb hK hP hD hS 0 2 rfl rfl (in_lit (by decide)) dL_worst_9 (fun H locs hP hD hS => ?_)
    have hP : va_P D vwCl [((a 300), .inl (cy 2, 1, .inr (.inl (vp_updL (fun _ => 0) (0 : Int32).toNatClampNeg r_.toInt64))))] H := hP
    have hD : va_D A [((a 300), .inl (cy 2, 1, .inr (.inl (vp_updL (fun _ => 0) (0 : Int32).toNatClampNeg r_.toInt64))))] := hD
    refine lv_goto (tgt := 25) hx hb dL_worst_10 (by decide) ?_
    refine lv_iconst (v := 0) hx hb dL_worst_25 (by decide) ?_
    exact rI hX hE (hP.sub [0] rfl) (hD.sub [0] (by decide) rfl) hS dL_worst_26 (by decide) (by decide) (⟨hk0.symm, _, rfl, (fun _ => by first | exact hv0 | (show vp_updL _ _ _ 0 = _; first | exact hv0 | (rw [← hv0]; rfl)))⟩)
set_option maxHeartbeats 4000000 in
set_option maxRecDepth 100000 in
theorem h_both (l : Launch) (hlt : l.stackTraces = false) (D : va_G) (cy : Nat → ClassId) (a : Nat → Nat) (p1 : Int32) (p2 : Int32) (p3 : Int32) (p4 : Int32) (p5 : Int32) (p6 : Int32) : Hi l yL_both cL_both 9 (some .int) [(0, 18, 21, 19), (0, 18, 25, 43), (0, 18, 29, 13)] { frames := 8, cells := 1, slots := 6, locals := 143 } D cy [.ref (a 0), .int p1, .int p2, .int p3, .int p4, .int p5, .int p6, .ref (a 300)] [((a 0), .inr (10, [.ref (a 1), .int 0, .int 0, .int (-1), .ref (a 2), .ref (a 3), .ref (a 4), .ref (a 5), .ref (a 6), .ref (a 7), .ref (a 8), .ref (a 9), .int 0])), ((a 3), .inr (6, [.ref (a 10), .int 0, .ref (a 21), .ref (a 22), .ref (a 23), .ref (a 24), .ref (a 25), .int 0])), ((a 10), .inr (0, [.int 0, .int 1, .int 1, .int 0, .int 0, .ref (a 11), .ref (a 12), .ref (a 13), .null, .null])), ((a 300), .inl (cy 2, 1, .inr (.inl (fun _ => 0))))] (fun r W1 => r = kf_both p1 p2 p3 p4 p5 p6 ∧ ∃ g : Nat → Int64, W1 = [((a 300), .inl (cy 2, 1, .inr (.inl g)))] ∧ (kf_both p1 p2 p3 p4 p5 p6 = 0 → g 0 = vf_both p1 p2 p3 p4 p5 p6)) := by
  refine Hi.of (by decide) (Nat.le_of_ble_eq_true rfl) ?_
  intro p e s m below meth c A ls hX hE hP hD hl hxt
  obtain ⟨hx, hb, hr, hml, hown, htA, hlk⟩ := id hX
  have hK := hE.1
  have hS : va_S A s.heap s.heap [] := va_S.rf
  have hl : lv_has ls 9 [(0, .ref (a 0)), (1, .int p1), (2, .int p2), (3, .int p3), (4, .int p4), (5, .int p5), (6, .int p6), (7, .ref (a 300))] := hl
  refine lv_aload hx hb dL_both_0 (lv_at hl 7 rfl) ?_
  refine lv_iconst (v := 0) hx hb dL_both_2 (by decide) ?_
  refine lv_aload_n hx hb dL_both_3 rfl (lv_at hl 0 rfl) ?_
  refine lv_iload_n hx hb dL_both_4 rfl (lv_at hl 1 rfl) ?_
  refine lv_iload_n hx hb dL_both_5 rfl (lv_at hl 2 rfl) ?_
  refine lv_iload_n hx hb dL_both_6 rfl (lv_at hl 3 rfl) ?_
  refine lv_iload hx hb dL_both_7 (lv_at hl 4 rfl) ?_
  refine lv_iload hx hb dL_both_9 (lv_at hl 5 rfl) ?_
  refine lv_iload hx hb dL_both_11 (lv_at hl 6 rfl) ?_
  refine xVi (As := [.int p1, .int p2, .int p3, .int p4, .int p5, .int p6]) (rest := [.int 0, .ref (a 300)]) (wr := [((a 300), .inl (cy 2, 1, .inr (.inl (fun _ => 0))))]) hX hE (m_both l hlt D cy a p1 p2 p3 p4 p5 p6) (cwVA 6 htA wd_1167 wd_1164 wd_1 wd_1165 wd_1166 (by decide +kernel) ⟨by decide, by decide⟩) hP hD hS [0, 1, 2] [3] rfl rfl (by decide) 0 rfl rfl rfl rfl hl.1 rfl (Nat.le_of_ble_eq_true rfl) dL_both_13 (by decide) (fun E ce q9 W1 H locs hw hP hD hS hce hcv hcl => ?_) (fun r_ W1 H locs hw hP hD hS => ?_)
  · rcases hw with ⟨rfl, g1⟩
    refine kCatch (name := "java/util/NoSuchElementException") hX hE hxt [] ⟨0, 18, 21, 19⟩ [⟨0, 18, 25, 43⟩, ⟨0, 18, 29, 13⟩] rfl (fun z hz => absurd hz List.not_mem_nil) (by decide) (by decide) wd_860 (by decide +kernel) hce hcv hcl ?_
    refine W.widen (k := 1) (n := 6) (by decide) (by decide) ?_
    have hP : va_P D vwCl [((a 300), .inl (cy 2, 1, .inr (.inl (fun _ => 0))))] H := hP.sub [0] rfl
    have hD : va_D A [((a 300), .inl (cy 2, 1, .inr (.inl (fun _ => 0))))] := hD.sub [0] (by rfl) rfl
    refine lv_astore (lv' := [(8, .ref q9), (0, .ref (a 0)), (1, .int p1), (2, .int p2), (3, .int p3), (4, .int p4), (5, .int p5), (6, .int p6), (7, .ref (a 300))]) hx hb dL_both_21 hl (by decide) rfl (fun ls hl => ?_)
    refine lv_iconst (v := 1) hx hb dL_both_23 (by decide) ?_
    exact rI hX hE (hP.sub [0] rfl) (hD.sub [0] (by decide) rfl) hS dL_both_24 (by decide) (by decide) (⟨g1.symm, _, rfl, (fun q => absurd q (by rw [g1]; decide))⟩)
  · refine W.widen (k := 1) (n := 6) (by decide) (by decide) ?_
    have hP : va_P D vwCl [((a 300), .inl (cy 2, 1, .inr (.inl (fun _ => 0))))] H := hP.sub [0] rfl
    have hD : va_D A [((a 300), .inl (cy 2, 1, .inr (.inl (fun _ => 0))))] := hD.sub [0] (by rfl) rfl
    obtain ⟨hk0, hv0⟩ := hw
    have hP : va_P D vwCl [((a 300), .inl (cy 2, 1, .inr (.inl (fun _ => 0))))] H := hP
    have hD : va_D A [((a 300), .inl (cy 2, 1, .inr (.inl (fun _ => 0))))] := hD
    refine lv_i2l hx hb dL_both_16 rfl ?_
    refine va_last hx hb hK hP hD hS 0 2 rfl rfl (in_lit (by decide)) dL_both_17 (fun H locs hP hD hS => ?_)
    have hP : va_P D vwCl [((a 300), .inl (cy 2, 1, .inr (.inl (vp_updL (fun _ => 0) (0 : Int32).toNatClampNeg r_.toInt64))))] H := hP
    have hD : va_D A [((a 300), .inl (cy 2, 1, .inr (.inl (vp_updL (fun _ => 0) (0 : Int32).toNatClampNeg r_.toInt64))))] := hD
    refine lv_goto (tgt := 33) hx hb dL_both_18 (by decide) ?_
    refine lv_iconst (v := 0) hx hb dL_both_33 (by decide) ?_
    exact rI hX hE (hP.sub [0] rfl) (hD.sub [0] (by decide) rfl) hS dL_both_34 (by decide) (by decide) (⟨hk0.symm, _, rfl, (fun _ => by first | exact hv0 | (show vp_updL _ _ _ 0 = _; first | exact hv0 | (rw [← hv0]; rfl)))⟩)
set_option maxHeartbeats 4000000 in
set_option maxRecDepth 100000 in
theorem h_safeWay (l : Launch) (hlt : l.stackTraces = false) (D : va_G) (cy : Nat → ClassId) (a : Nat → Nat) (p1 : Int32) (p2 : Int32) (p3 : Int32) : Hi l yL_safeWay cL_safeWay 6 (some .int) [(0, 12, 15, 19), (0, 12, 19, 13)] { frames := 8, cells := 3, slots := 18, locals := 135 } D cy [.ref (a 0), .int p1, .int p2, .int p3, .ref (a 300)] [((a 0), .inr (10, [.ref (a 1), .int 0, .int 0, .int (-1), .ref (a 2), .ref (a 3), .ref (a 4), .ref (a 5), .ref (a 6), .ref (a 7), .ref (a 8), .ref (a 9), .int 0])), ((a 3), .inr (6, [.ref (a 10), .int 0, .ref (a 21), .ref (a 22), .ref (a 23), .ref (a 24), .ref (a 25), .int 0])), ((a 21), .inl (cy 0, 8, .inl (fun _ => 0))), ((a 22), .inl (cy 0, 8, .inl (fun _ => 0))), ((a 23), .inl (cy 0, 8, .inl (fun _ => 0))), ((a 24), .inl (cy 0, 8, .inl (fun _ => 0))), ((a 25), .inl (cy 0, 4, .inl (fun _ => 0))), ((a 10), .inr (0, [.int 0, .int 1, .int 1, .int 0, .int 0, .ref (a 11), .ref (a 12), .ref (a 13), .null, .null])), ((a 5), .inr (1, [.ref (a 40), .int 0, .int 0, .ref (a 46), .ref (a 47)])), ((a 40), .inr (6, [.ref (a 10), .int 0, .ref (a 41), .ref (a 42), .ref (a 43), .ref (a 44), .ref (a 45), .int 0])), ((a 41), .inl (cy 0, 8, .inl (fun _ => 0))), ((a 42), .inl (cy 0, 8, .inl (fun _ => 0))), ((a 43), .inl (cy 0, 8, .inl (fun _ => 0))), ((a 44), .inl (cy 0, 8, .inl (fun _ => 0))), ((a 45), .inl (cy 0, 4, .inl (fun _ => 0))), ((a 6), .inr (9, [.int 0, .ref (a 51), .ref (a 52), .ref (a 53), .ref (a 54), .ref (a 55)])), ((a 51), .inl (cy 0, 61, .inl (fun _ => 0))), ((a 52), .inl (cy 0, 61, .inl (fun _ => 0))), ((a 53), .inl (cy 0, 61, .inl (fun _ => 0))), ((a 54), .inl (cy 2, 6, .inr (.inl (fun _ => 0)))), ((a 55), .inl (cy 2, 6, .inr (.inl (fun _ => 0)))), ((a 300), .inl (cy 2, 1, .inr (.inl (fun _ => 0))))] (fun r W1 => r = kf_safeWay p1 p2 p3 ∧ ∃ g : Nat → Int64, W1 = [((a 300), .inl (cy 2, 1, .inr (.inl g)))] ∧ (kf_safeWay p1 p2 p3 = 0 → g 0 = vf_safeWay p1 p2 p3)) := by
  refine Hi.of (by decide) (Nat.le_of_ble_eq_true rfl) ?_
  intro p e s m below meth c A ls hX hE hP hD hl hxt
  obtain ⟨hx, hb, hr, hml, hown, htA, hlk⟩ := id hX
  have hK := hE.1
  have hS : va_S A s.heap s.heap [] := va_S.rf
  have hl : lv_has ls 6 [(0, .ref (a 0)), (1, .int p1), (2, .int p2), (3, .int p3), (4, .ref (a 300))] := hl
  refine lv_aload hx hb dL_safeWay_0 (lv_at hl 4 rfl) ?_
  refine lv_iconst (v := 0) hx hb dL_safeWay_2 (by decide) ?_
  refine lv_aload_n hx hb dL_safeWay_3 rfl (lv_at hl 0 rfl) ?_
  refine lv_iload_n hx hb dL_safeWay_4 rfl (lv_at hl 1 rfl) ?_
  refine lv_iload_n hx hb dL_safeWay_5 rfl (lv_at hl 2 rfl) ?_
  refine lv_iload_n hx hb dL_safeWay_6 rfl (lv_at hl 3 rfl) ?_
  refine xVi (As := [.int p1, .int p2, .int p3]) (rest := [.int 0, .ref (a 300)]) (wr := [((a 300), .inl (cy 2, 1, .inr (.inl (fun _ => 0))))]) hX hE (m_safeWay l hlt D cy a p1 p2 p3) (cwVA 3 htA wd_1179 wd_1176 wd_1 wd_1177 wd_1178 (by decide +kernel) ⟨by decide, by decide⟩) hP hD hS [0, 1, 2, 3, 4, 5, 6, 7, 8, 9, 10, 11, 12, 13, 14, 15, 16, 17, 18, 19, 20] [21] rfl rfl (by decide) 0 rfl rfl rfl rfl hl.1 rfl (Nat.le_of_ble_eq_true rfl) dL_safeWay_7 (by decide) (fun E ce q9 W1 H locs hw hP hD hS hce hcv hcl => ?_) (fun r_ W1 H locs hw hP hD hS => ?_)
  · rcases hw with ⟨rfl, g1⟩ | ⟨rfl, g2⟩
    · refine kCatch (name := "java/util/NoSuchElementException") hX hE hxt [] ⟨0, 12, 15, 19⟩ [⟨0, 12, 19, 13⟩] rfl (fun z hz => absurd hz List.not_mem_nil) (by decide) (by decide) wd_860 (by decide +kernel) hce hcv hcl ?_
      refine W.widen (k := 3) (n := 18) (by decide) (by decide) ?_
      have hP : va_P D vwCl [((a 300), .inl (cy 2, 1, .inr (.inl (fun _ => 0))))] H := hP.sub [0] rfl
      have hD : va_D A [((a 300), .inl (cy 2, 1, .inr (.inl (fun _ => 0))))] := hD.sub [0] (by rfl) rfl
      refine lv_astore (lv' := [(5, .ref q9), (0, .ref (a 0)), (1, .int p1), (2, .int p2), (3, .int p3), (4, .ref (a 300))]) hx hb dL_safeWay_15 hl (by decide) rfl (fun ls hl => ?_)
      refine lv_iconst (v := 1) hx hb dL_safeWay_17 (by decide) ?_
      exact rI hX hE (hP.sub [0] rfl) (hD.sub [0] (by decide) rfl) hS dL_safeWay_18 (by decide) (by decide) (⟨g1.symm, _, rfl, (fun q => absurd q (by rw [g1]; decide))⟩)
    · refine kCatch (name := "java/lang/IllegalArgumentException") hX hE hxt [⟨0, 12, 15, 19⟩] ⟨0, 12, 19, 13⟩ [] rfl (List.forall_mem_cons.mpr ⟨Or.inr ⟨by decide, "java/util/NoSuchElementException", htA _ wd_860, hE.2.2.2.2.2.1 ("java/lang/IllegalArgumentException", "java/util/NoSuchElementException") (by decide)⟩, (fun z hz => absurd hz List.not_mem_nil)⟩) (by decide) (by decide) wd_526 (by decide +kernel) hce hcv hcl ?_
      refine W.widen (k := 3) (n := 18) (by decide) (by decide) ?_
      have hP : va_P D vwCl [((a 300), .inl (cy 2, 1, .inr (.inl (fun _ => 0))))] H := hP.sub [0] rfl
      have hD : va_D A [((a 300), .inl (cy 2, 1, .inr (.inl (fun _ => 0))))] := hD.sub [0] (by rfl) rfl
      refine lv_astore (lv' := [(5, .ref q9), (0, .ref (a 0)), (1, .int p1), (2, .int p2), (3, .int p3), (4, .ref (a 300))]) hx hb dL_safeWay_19 hl (by decide) rfl (fun ls hl => ?_)
      refine lv_iconst (v := 2) hx hb dL_safeWay_21 (by decide) ?_
      exact rI hX hE (hP.sub [0] rfl) (hD.sub [0] (by decide) rfl) hS dL_safeWay_22 (by decide) (by decide) (⟨g2.symm, _, rfl, (fun q => absurd q (by rw [g2]; decide))⟩)
  · refine W.widen (k := 3) (n := 18) (by decide) (by decide) ?_
    have hP : va_P D vwCl [((a 300), .inl (cy 2, 1, .inr (.inl (fun _ => 0))))] H := hP.sub [0] rfl
    have hD : va_D A [((a 300), .inl (cy 2, 1, .inr (.inl (fun _ => 0))))] := hD.sub [0] (by rfl) rfl
    obtain ⟨hk0, hv0⟩ := hw
    have hP : va_P D vwCl [((a 300), .inl (cy 2, 1, .inr (.inl (fun _ => 0))))] H := hP
    have hD : va_D A [((a 300), .inl (cy 2, 1, .inr (.inl (fun _ => 0))))] := hD
    refine lv_i2l hx hb dL_safeWay_10 rfl ?_
    refine va_last hx hb hK hP hD hS 0 2 rfl rfl (in_lit (by decide)) dL_safeWay_11 (fun H locs hP hD hS => ?_)
    have hP : va_P D vwCl [((a 300), .inl (cy 2, 1, .inr (.inl (vp_updL (fun _ => 0) (0 : Int32).toNatClampNeg r_.toInt64))))] H := hP
    have hD : va_D A [((a 300), .inl (cy 2, 1, .inr (.inl (vp_updL (fun _ => 0) (0 : Int32).toNatClampNeg r_.toInt64))))] := hD
    refine lv_goto (tgt := 23) hx hb dL_safeWay_12 (by decide) ?_
    refine lv_iconst (v := 0) hx hb dL_safeWay_23 (by decide) ?_
    exact rI hX hE (hP.sub [0] rfl) (hD.sub [0] (by decide) rfl) hS dL_safeWay_24 (by decide) (by decide) (⟨hk0.symm, _, rfl, (fun _ => by first | exact hv0 | (show vp_updL _ _ _ 0 = _; first | exact hv0 | (rw [← hv0]; rfl)))⟩)
set_option maxHeartbeats 4000000 in
set_option maxRecDepth 100000 in
theorem h_safeIn (l : Launch) (hlt : l.stackTraces = false) (D : va_G) (cy : Nat → ClassId) (a : Nat → Nat) (p1 : Int32) (p2 : Int32) : Hi l yL_safeIn cL_safeIn 5 (some .int) [(0, 10, 13, 19), (0, 10, 17, 13)] { frames := 8, cells := 2, slots := 12, locals := 134 } D cy [.ref (a 0), .int p1, .int p2, .ref (a 300)] [((a 0), .inr (10, [.ref (a 1), .int 0, .int 0, .int (-1), .ref (a 2), .ref (a 3), .ref (a 4), .ref (a 5), .ref (a 6), .ref (a 7), .ref (a 8), .ref (a 9), .int 0])), ((a 3), .inr (6, [.ref (a 10), .int 0, .ref (a 21), .ref (a 22), .ref (a 23), .ref (a 24), .ref (a 25), .int 0])), ((a 21), .inl (cy 0, 8, .inl (fun _ => 0))), ((a 22), .inl (cy 0, 8, .inl (fun _ => 0))), ((a 23), .inl (cy 0, 8, .inl (fun _ => 0))), ((a 24), .inl (cy 0, 8, .inl (fun _ => 0))), ((a 25), .inl (cy 0, 4, .inl (fun _ => 0))), ((a 10), .inr (0, [.int 0, .int 1, .int 1, .int 0, .int 0, .ref (a 11), .ref (a 12), .ref (a 13), .null, .null])), ((a 5), .inr (1, [.ref (a 40), .int 0, .int 0, .ref (a 46), .ref (a 47)])), ((a 40), .inr (6, [.ref (a 10), .int 0, .ref (a 41), .ref (a 42), .ref (a 43), .ref (a 44), .ref (a 45), .int 0])), ((a 41), .inl (cy 0, 8, .inl (fun _ => 0))), ((a 42), .inl (cy 0, 8, .inl (fun _ => 0))), ((a 43), .inl (cy 0, 8, .inl (fun _ => 0))), ((a 44), .inl (cy 0, 8, .inl (fun _ => 0))), ((a 45), .inl (cy 0, 4, .inl (fun _ => 0))), ((a 6), .inr (9, [.int 0, .ref (a 51), .ref (a 52), .ref (a 53), .ref (a 54), .ref (a 55)])), ((a 51), .inl (cy 0, 61, .inl (fun _ => 0))), ((a 52), .inl (cy 0, 61, .inl (fun _ => 0))), ((a 53), .inl (cy 0, 61, .inl (fun _ => 0))), ((a 54), .inl (cy 2, 6, .inr (.inl (fun _ => 0)))), ((a 55), .inl (cy 2, 6, .inr (.inl (fun _ => 0)))), ((a 300), .inl (cy 2, 1, .inr (.inl (fun _ => 0))))] (fun r W1 => r = kf_safeIn p1 p2 ∧ ∃ g : Nat → Int64, W1 = [((a 300), .inl (cy 2, 1, .inr (.inl g)))] ∧ (kf_safeIn p1 p2 = 0 → g 0 = vf_safeIn p1 p2)) := by
  refine Hi.of (by decide) (Nat.le_of_ble_eq_true rfl) ?_
  intro p e s m below meth c A ls hX hE hP hD hl hxt
  obtain ⟨hx, hb, hr, hml, hown, htA, hlk⟩ := id hX
  have hK := hE.1
  have hS : va_S A s.heap s.heap [] := va_S.rf
  have hl : lv_has ls 5 [(0, .ref (a 0)), (1, .int p1), (2, .int p2), (3, .ref (a 300))] := hl
  refine lv_aload_n hx hb dL_safeIn_0 rfl (lv_at hl 3 rfl) ?_
  refine lv_iconst (v := 0) hx hb dL_safeIn_1 (by decide) ?_
  refine lv_aload_n hx hb dL_safeIn_2 rfl (lv_at hl 0 rfl) ?_
  refine lv_iload_n hx hb dL_safeIn_3 rfl (lv_at hl 1 rfl) ?_
  refine lv_iload_n hx hb dL_safeIn_4 rfl (lv_at hl 2 rfl) ?_
  refine xVi (As := [.int p1, .int p2]) (rest := [.int 0, .ref (a 300)]) (wr := [((a 300), .inl (cy 2, 1, .inr (.inl (fun _ => 0))))]) hX hE (m_safeIn l hlt D cy a p1 p2) (cwVA 2 htA wd_1223 wd_1220 wd_1 wd_1221 wd_1222 (by decide +kernel) ⟨by decide, by decide⟩) hP hD hS [0, 1, 2, 3, 4, 5, 6, 7, 8, 9, 10, 11, 12, 13, 14, 15, 16, 17, 18, 19, 20] [21] rfl rfl (by decide) 0 rfl rfl rfl rfl hl.1 rfl (Nat.le_of_ble_eq_true rfl) dL_safeIn_5 (by decide) (fun E ce q9 W1 H locs hw hP hD hS hce hcv hcl => ?_) (fun r_ W1 H locs hw hP hD hS => ?_)
  · rcases hw with ⟨rfl, g1⟩ | ⟨rfl, g2⟩
    · refine kCatch (name := "java/util/NoSuchElementException") hX hE hxt [] ⟨0, 10, 13, 19⟩ [⟨0, 10, 17, 13⟩] rfl (fun z hz => absurd hz List.not_mem_nil) (by decide) (by decide) wd_860 (by decide +kernel) hce hcv hcl ?_
      refine W.widen (k := 2) (n := 12) (by decide) (by decide) ?_
      have hP : va_P D vwCl [((a 300), .inl (cy 2, 1, .inr (.inl (fun _ => 0))))] H := hP.sub [0] rfl
      have hD : va_D A [((a 300), .inl (cy 2, 1, .inr (.inl (fun _ => 0))))] := hD.sub [0] (by rfl) rfl
      refine lv_astore (lv' := [(4, .ref q9), (0, .ref (a 0)), (1, .int p1), (2, .int p2), (3, .ref (a 300))]) hx hb dL_safeIn_13 hl (by decide) rfl (fun ls hl => ?_)
      refine lv_iconst (v := 1) hx hb dL_safeIn_15 (by decide) ?_
      exact rI hX hE (hP.sub [0] rfl) (hD.sub [0] (by decide) rfl) hS dL_safeIn_16 (by decide) (by decide) (⟨g1.symm, _, rfl, (fun q => absurd q (by rw [g1]; decide))⟩)
    · refine kCatch (name := "java/lang/IllegalArgumentException") hX hE hxt [⟨0, 10, 13, 19⟩] ⟨0, 10, 17, 13⟩ [] rfl (List.forall_mem_cons.mpr ⟨Or.inr ⟨by decide, "java/util/NoSuchElementException", htA _ wd_860, hE.2.2.2.2.2.1 ("java/lang/IllegalArgumentException", "java/util/NoSuchElementException") (by decide)⟩, (fun z hz => absurd hz List.not_mem_nil)⟩) (by decide) (by decide) wd_526 (by decide +kernel) hce hcv hcl ?_
      refine W.widen (k := 2) (n := 12) (by decide) (by decide) ?_
      have hP : va_P D vwCl [((a 300), .inl (cy 2, 1, .inr (.inl (fun _ => 0))))] H := hP.sub [0] rfl
      have hD : va_D A [((a 300), .inl (cy 2, 1, .inr (.inl (fun _ => 0))))] := hD.sub [0] (by rfl) rfl
      refine lv_astore (lv' := [(4, .ref q9), (0, .ref (a 0)), (1, .int p1), (2, .int p2), (3, .ref (a 300))]) hx hb dL_safeIn_17 hl (by decide) rfl (fun ls hl => ?_)
      refine lv_iconst (v := 2) hx hb dL_safeIn_19 (by decide) ?_
      exact rI hX hE (hP.sub [0] rfl) (hD.sub [0] (by decide) rfl) hS dL_safeIn_20 (by decide) (by decide) (⟨g2.symm, _, rfl, (fun q => absurd q (by rw [g2]; decide))⟩)
  · refine W.widen (k := 2) (n := 12) (by decide) (by decide) ?_
    have hP : va_P D vwCl [((a 300), .inl (cy 2, 1, .inr (.inl (fun _ => 0))))] H := hP.sub [0] rfl
    have hD : va_D A [((a 300), .inl (cy 2, 1, .inr (.inl (fun _ => 0))))] := hD.sub [0] (by rfl) rfl
    obtain ⟨hk0, hv0⟩ := hw
    have hP : va_P D vwCl [((a 300), .inl (cy 2, 1, .inr (.inl (fun _ => 0))))] H := hP
    have hD : va_D A [((a 300), .inl (cy 2, 1, .inr (.inl (fun _ => 0))))] := hD
    refine lv_i2l hx hb dL_safeIn_8 rfl ?_
    refine va_last hx hb hK hP hD hS 0 2 rfl rfl (in_lit (by decide)) dL_safeIn_9 (fun H locs hP hD hS => ?_)
    have hP : va_P D vwCl [((a 300), .inl (cy 2, 1, .inr (.inl (vp_updL (fun _ => 0) (0 : Int32).toNatClampNeg r_.toInt64))))] H := hP
    have hD : va_D A [((a 300), .inl (cy 2, 1, .inr (.inl (vp_updL (fun _ => 0) (0 : Int32).toNatClampNeg r_.toInt64))))] := hD
    refine lv_goto (tgt := 21) hx hb dL_safeIn_10 (by decide) ?_
    refine lv_iconst (v := 0) hx hb dL_safeIn_21 (by decide) ?_
    exact rI hX hE (hP.sub [0] rfl) (hD.sub [0] (by decide) rfl) hS dL_safeIn_22 (by decide) (by decide) (⟨hk0.symm, _, rfl, (fun _ => by first | exact hv0 | (show vp_updL _ _ _ 0 = _; first | exact hv0 | (rw [← hv0]; rfl)))⟩)
set_option maxHeartbeats 4000000 in
set_option maxRecDepth 100000 in
theorem h_later (l : Launch) (hlt : l.stackTraces = false) (D : va_G) (cy : Nat → ClassId) (a : Nat → Nat) (p1 : Int32) (p2 : Int32) : Hi l yL_later cL_later 5 (some .int) [(0, 10, 13, 19), (0, 10, 17, 13)] { frames := 8, cells := 1, slots := 6, locals := 133 } D cy [.ref (a 0), .int p1, .int p2, .ref (a 300)] [((a 0), .inr (10, [.ref (a 1), .int 0, .int 0, .int (-1), .ref (a 2), .ref (a 3), .ref (a 4), .ref (a 5), .ref (a 6), .ref (a 7), .ref (a 8), .ref (a 9), .int 0])), ((a 3), .inr (6, [.ref (a 10), .int 0, .ref (a 21), .ref (a 22), .ref (a 23), .ref (a 24), .ref (a 25), .int 0])), ((a 10), .inr (0, [.int 0, .int 1, .int 1, .int 0, .int 0, .ref (a 11), .ref (a 12), .ref (a 13), .null, .null])), ((a 300), .inl (cy 2, 1, .inr (.inl (fun _ => 0))))] (fun r W1 => r = kf_later p1 p2 ∧ ∃ g : Nat → Int64, W1 = [((a 300), .inl (cy 2, 1, .inr (.inl g)))] ∧ (kf_later p1 p2 = 0 → g 0 = vf_later p1 p2)) := by
  refine Hi.of (by decide) (Nat.le_of_ble_eq_true rfl) ?_
  intro p e s m below meth c A ls hX hE hP hD hl hxt
  obtain ⟨hx, hb, hr, hml, hown, htA, hlk⟩ := id hX
  have hK := hE.1
  have hS : va_S A s.heap s.heap [] := va_S.rf
  have hl : lv_has ls 5 [(0, .ref (a 0)), (1, .int p1), (2, .int p2), (3, .ref (a 300))] := hl
  refine lv_aload_n hx hb dL_later_0 rfl (lv_at hl 3 rfl) ?_
  refine lv_iconst (v := 0) hx hb dL_later_1 (by decide) ?_
  refine lv_aload_n hx hb dL_later_2 rfl (lv_at hl 0 rfl) ?_
  refine lv_iload_n hx hb dL_later_3 rfl (lv_at hl 1 rfl) ?_
  refine lv_iload_n hx hb dL_later_4 rfl (lv_at hl 2 rfl) ?_
  refine xVi (As := [.int p1, .int p2]) (rest := [.int 0, .ref (a 300)]) (wr := [((a 300), .inl (cy 2, 1, .inr (.inl (fun _ => 0))))]) hX hE (m_later l hlt D cy a p1 p2) (cwVA 2 htA wd_1230 wd_1227 wd_1 wd_1228 wd_1229 (by decide +kernel) ⟨by decide, by decide⟩) hP hD hS [0, 1, 2] [3] rfl rfl (by decide) 0 rfl rfl rfl rfl hl.1 rfl (Nat.le_of_ble_eq_true rfl) dL_later_5 (by decide) (fun E ce q9 W1 H locs hw hP hD hS hce hcv hcl => ?_) (fun r_ W1 H locs hw hP hD hS => ?_)
  · rcases hw with ⟨rfl, g1⟩
    refine kCatch (name := "java/util/NoSuchElementException") hX hE hxt [] ⟨0, 10, 13, 19⟩ [⟨0, 10, 17, 13⟩] rfl (fun z hz => absurd hz List.not_mem_nil) (by decide) (by decide) wd_860 (by decide +kernel) hce hcv hcl ?_
    refine W.widen (k := 1) (n := 6) (by decide) (by decide) ?_
    have hP : va_P D vwCl [((a 300), .inl (cy 2, 1, .inr (.inl (fun _ => 0))))] H := hP.sub [0] rfl
    have hD : va_D A [((a 300), .inl (cy 2, 1, .inr (.inl (fun _ => 0))))] := hD.sub [0] (by rfl) rfl
    refine lv_astore (lv' := [(4, .ref q9), (0, .ref (a 0)), (1, .int p1), (2, .int p2), (3, .ref (a 300))]) hx hb dL_later_13 hl (by decide) rfl (fun ls hl => ?_)
    refine lv_iconst (v := 1) hx hb dL_later_15 (by decide) ?_
    exact rI hX hE (hP.sub [0] rfl) (hD.sub [0] (by decide) rfl) hS dL_later_16 (by decide) (by decide) (⟨g1.symm, _, rfl, (fun q => absurd q (by rw [g1]; decide))⟩)
  · refine W.widen (k := 1) (n := 6) (by decide) (by decide) ?_
    have hP : va_P D vwCl [((a 300), .inl (cy 2, 1, .inr (.inl (fun _ => 0))))] H := hP.sub [0] rfl
    have hD : va_D A [((a 300), .inl (cy 2, 1, .inr (.inl (fun _ => 0))))] := hD.sub [0] (by rfl) rfl
    obtain ⟨hk0, hv0⟩ := hw
    have hP : va_P D vwCl [((a 300), .inl (cy 2, 1, .inr (.inl (fun _ => 0))))] H := hP
    have hD : va_D A [((a 300), .inl (cy 2, 1, .inr (.inl (fun _ => 0))))] := hD
    refine lv_i2l hx hb dL_later_8 rfl ?_
    refine va_last hx hb hK hP hD hS 0 2 rfl rfl (in_lit (by decide)) dL_later_9 (fun H locs hP hD hS => ?_)
    have hP : va_P D vwCl [((a 300), .inl (cy 2, 1, .inr (.inl (vp_updL (fun _ => 0) (0 : Int32).toNatClampNeg r_.toInt64))))] H := hP
    have hD : va_D A [((a 300), .inl (cy 2, 1, .inr (.inl (vp_updL (fun _ => 0) (0 : Int32).toNatClampNeg r_.toInt64))))] := hD
    refine lv_goto (tgt := 21) hx hb dL_later_10 (by decide) ?_
    refine lv_iconst (v := 0) hx hb dL_later_21 (by decide) ?_
    exact rI hX hE (hP.sub [0] rfl) (hD.sub [0] (by decide) rfl) hS dL_later_22 (by decide) (by decide) (⟨hk0.symm, _, rfl, (fun _ => by first | exact hv0 | (show vp_updL _ _ _ 0 = _; first | exact hv0 | (rw [← hv0]; rfl)))⟩)
set_option maxHeartbeats 4000000 in
set_option maxRecDepth 100000 in
theorem h_letGoBy (l : Launch) (hlt : l.stackTraces = false) (D : va_G) (cy : Nat → ClassId) (a : Nat → Nat) (p1 : Int32) (p2 : Int32) (p3 : Int32) : Hi l yL_letGoBy cL_letGoBy 6 (some .int) [(0, 12, 15, 19), (0, 12, 19, 13)] { frames := 8, cells := 2, slots := 12, locals := 138 } D cy [.ref (a 0), .int p1, .int p2, .int p3, .ref (a 300)] [((a 0), .inr (10, [.ref (a 1), .int 0, .int 0, .int (-1), .ref (a 2), .ref (a 3), .ref (a 4), .ref (a 5), .ref (a 6), .ref (a 7), .ref (a 8), .ref (a 9), .int 0])), ((a 3), .inr (6, [.ref (a 10), .int 0, .ref (a 21), .ref (a 22), .ref (a 23), .ref (a 24), .ref (a 25), .int 0])), ((a 10), .inr (0, [.int 0, .int 1, .int 1, .int 0, .int 0, .ref (a 11), .ref (a 12), .ref (a 13), .null, .null])), ((a 300), .inl (cy 2, 1, .inr (.inl (fun _ => 0))))] (fun r W1 => r = kf_letGoBy p1 p2 p3 ∧ ∃ g : Nat → Int64, W1 = [((a 300), .inl (cy 2, 1, .inr (.inl g)))] ∧ (kf_letGoBy p1 p2 p3 = 0 → g 0 = vf_letGoBy p1 p2 p3)) := by
  refine Hi.of (by decide) (Nat.le_of_ble_eq_true rfl) ?_
  intro p e s m below meth c A ls hX hE hP hD hl hxt
  obtain ⟨hx, hb, hr, hml, hown, htA, hlk⟩ := id hX
  have hK := hE.1
  have hS : va_S A s.heap s.heap [] := va_S.rf
  have hl : lv_has ls 6 [(0, .ref (a 0)), (1, .int p1), (2, .int p2), (3, .int p3), (4, .ref (a 300))] := hl
  refine lv_aload hx hb dL_letGoBy_0 (lv_at hl 4 rfl) ?_
  refine lv_iconst (v := 0) hx hb dL_letGoBy_2 (by decide) ?_
  refine lv_aload_n hx hb dL_letGoBy_3 rfl (lv_at hl 0 rfl) ?_
  refine lv_iload_n hx hb dL_letGoBy_4 rfl (lv_at hl 1 rfl) ?_
  refine lv_iload_n hx hb dL_letGoBy_5 rfl (lv_at hl 2 rfl) ?_
  refine lv_iload_n hx hb dL_letGoBy_6 rfl (lv_at hl 3 rfl) ?_
  refine xVi (As := [.int p1, .int p2, .int p3]) (rest := [.int 0, .ref (a 300)]) (wr := [((a 300), .inl (cy 2, 1, .inr (.inl (fun _ => 0))))]) hX hE (m_letGoBy l hlt D cy a p1 p2 p3) (cwVA 3 htA wd_1237 wd_1234 wd_1 wd_1235 wd_1236 (by decide +kernel) ⟨by decide, by decide⟩) hP hD hS [0, 1, 2] [3] rfl rfl (by decide) 0 rfl rfl rfl rfl hl.1 rfl (Nat.le_of_ble_eq_true rfl) dL_letGoBy_7 (by decide) (fun E ce q9 W1 H locs hw hP hD hS hce hcv hcl => ?_) (fun r_ W1 H locs hw hP hD hS => ?_)
  · rcases hw with ⟨rfl, g1⟩ | ⟨rfl, g2⟩
    · refine kCatch (name := "java/util/NoSuchElementException") hX hE hxt [] ⟨0, 12, 15, 19⟩ [⟨0, 12, 19, 13⟩] rfl (fun z hz => absurd hz List.not_mem_nil) (by decide) (by decide) wd_860 (by decide +kernel) hce hcv hcl ?_
      refine W.widen (k := 2) (n := 12) (by decide) (by decide) ?_
      have hP : va_P D vwCl [((a 300), .inl (cy 2, 1, .inr (.inl (fun _ => 0))))] H := hP.sub [0] rfl
      have hD : va_D A [((a 300), .inl (cy 2, 1, .inr (.inl (fun _ => 0))))] := hD.sub [0] (by rfl) rfl
      refine lv_astore (lv' := [(5, .ref q9), (0, .ref (a 0)), (1, .int p1), (2, .int p2), (3, .int p3), (4, .ref (a 300))]) hx hb dL_letGoBy_15 hl (by decide) rfl (fun ls hl => ?_)
      refine lv_iconst (v := 1) hx hb dL_letGoBy_17 (by decide) ?_
      exact rI hX hE (hP.sub [0] rfl) (hD.sub [0] (by decide) rfl) hS dL_letGoBy_18 (by decide) (by decide) (⟨g1.symm, _, rfl, (fun q => absurd q (by rw [g1]; decide))⟩)
    · refine kCatch (name := "java/lang/IllegalArgumentException") hX hE hxt [⟨0, 12, 15, 19⟩] ⟨0, 12, 19, 13⟩ [] rfl (List.forall_mem_cons.mpr ⟨Or.inr ⟨by decide, "java/util/NoSuchElementException", htA _ wd_860, hE.2.2.2.2.2.1 ("java/lang/IllegalArgumentException", "java/util/NoSuchElementException") (by decide)⟩, (fun z hz => absurd hz List.not_mem_nil)⟩) (by decide) (by decide) wd_526 (by decide +kernel) hce hcv hcl ?_
      refine W.widen (k := 2) (n := 12) (by decide) (by decide) ?_
      have hP : va_P D vwCl [((a 300), .inl (cy 2, 1, .inr (.inl (fun _ => 0))))] H := hP.sub [0] rfl
      have hD : va_D A [((a 300), .inl (cy 2, 1, .inr (.inl (fun _ => 0))))] := hD.sub [0] (by rfl) rfl
      refine lv_astore (lv' := [(5, .ref q9), (0, .ref (a 0)), (1, .int p1), (2, .int p2), (3, .int p3), (4, .ref (a 300))]) hx hb dL_letGoBy_19 hl (by decide) rfl (fun ls hl => ?_)
      refine lv_iconst (v := 2) hx hb dL_letGoBy_21 (by decide) ?_
      exact rI hX hE (hP.sub [0] rfl) (hD.sub [0] (by decide) rfl) hS dL_letGoBy_22 (by decide) (by decide) (⟨g2.symm, _, rfl, (fun q => absurd q (by rw [g2]; decide))⟩)
  · refine W.widen (k := 2) (n := 12) (by decide) (by decide) ?_
    have hP : va_P D vwCl [((a 300), .inl (cy 2, 1, .inr (.inl (fun _ => 0))))] H := hP.sub [0] rfl
    have hD : va_D A [((a 300), .inl (cy 2, 1, .inr (.inl (fun _ => 0))))] := hD.sub [0] (by rfl) rfl
    obtain ⟨hk0, hv0⟩ := hw
    have hP : va_P D vwCl [((a 300), .inl (cy 2, 1, .inr (.inl (fun _ => 0))))] H := hP
    have hD : va_D A [((a 300), .inl (cy 2, 1, .inr (.inl (fun _ => 0))))] := hD
    refine lv_i2l hx hb dL_letGoBy_10 rfl ?_
    refine va_last hx hb hK hP hD hS 0 2 rfl rfl (in_lit (by decide)) dL_letGoBy_11 (fun H locs hP hD hS => ?_)
    have hP : va_P D vwCl [((a 300), .inl (cy 2, 1, .inr (.inl (vp_updL (fun _ => 0) (0 : Int32).toNatClampNeg r_.toInt64))))] H := hP
    have hD : va_D A [((a 300), .inl (cy 2, 1, .inr (.inl (vp_updL (fun _ => 0) (0 : Int32).toNatClampNeg r_.toInt64))))] := hD
    refine lv_goto (tgt := 23) hx hb dL_letGoBy_12 (by decide) ?_
    refine lv_iconst (v := 0) hx hb dL_letGoBy_23 (by decide) ?_
    exact rI hX hE (hP.sub [0] rfl) (hD.sub [0] (by decide) rfl) hS dL_letGoBy_24 (by decide) (by decide) (⟨hk0.symm, _, rfl, (fun _ => by first | exact hv0 | (show vp_updL _ _ _ 0 = _; first | exact hv0 | (rw [← hv0]; rfl)))⟩)
set_option maxHeartbeats 4000000 in
set_option maxRecDepth 100000 in
theorem h_letGoAt (l : Launch) (hlt : l.stackTraces = false) (D : va_G) (cy : Nat → ClassId) (a : Nat → Nat) (p1 : Int32) (p2 : Int32) (p3 : Int32) (p4 : Int32) : Hi l yL_letGoAt cL_letGoAt 7 (some .int) [(0, 14, 17, 19), (0, 14, 21, 13)] { frames := 8, cells := 3, slots := 18, locals := 139 } D cy [.ref (a 0), .int p1, .int p2, .int p3, .int p4, .ref (a 300)] [((a 0), .inr (10, [.ref (a 1), .int 0, .int 0, .int (-1), .ref (a 2), .ref (a 3), .ref (a 4), .ref (a 5), .ref (a 6), .ref (a 7), .ref (a 8), .ref (a 9), .int 0])), ((a 3), .inr (6, [.ref (a 10), .int 0, .ref (a 21), .ref (a 22), .ref (a 23), .ref (a 24), .ref (a 25), .int 0])), ((a 10), .inr (0, [.int 0, .int 1, .int 1, .int 0, .int 0, .ref (a 11), .ref (a 12), .ref (a 13), .null, .null])), ((a 300), .inl (cy 2, 1, .inr (.inl (fun _ => 0))))] (fun r W1 => r = kf_letGoAt p1 p2 p3 p4 ∧ ∃ g : Nat → Int64, W1 = [((a 300), .inl (cy 2, 1, .inr (.inl g)))] ∧ (kf_letGoAt p1 p2 p3 p4 = 0 → g 0 = vf_letGoAt p1 p2 p3 p4)) := by
  refine Hi.of (by decide) (Nat.le_of_ble_eq_true rfl) ?_
  intro p e s m below meth c A ls hX hE hP hD hl hxt
  obtain ⟨hx, hb, hr, hml, hown, htA, hlk⟩ := id hX
  have hK := hE.1
  have hS : va_S A s.heap s.heap [] := va_S.rf
  have hl : lv_has ls 7 [(0, .ref (a 0)), (1, .int p1), (2, .int p2), (3, .int p3), (4, .int p4), (5, .ref (a 300))] := hl
  refine lv_aload hx hb dL_letGoAt_0 (lv_at hl 5 rfl) ?_
  refine lv_iconst (v := 0) hx hb dL_letGoAt_2 (by decide) ?_
  refine lv_aload_n hx hb dL_letGoAt_3 rfl (lv_at hl 0 rfl) ?_
  refine lv_iload_n hx hb dL_letGoAt_4 rfl (lv_at hl 1 rfl) ?_
  refine lv_iload_n hx hb dL_letGoAt_5 rfl (lv_at hl 2 rfl) ?_
  refine lv_iload_n hx hb dL_letGoAt_6 rfl (lv_at hl 3 rfl) ?_
  refine lv_iload hx hb dL_letGoAt_7 (lv_at hl 4 rfl) ?_
  refine xVi (As := [.int p1, .int p2, .int p3, .int p4]) (rest := [.int 0, .ref (a 300)]) (wr := [((a 300), .inl (cy 2, 1, .inr (.inl (fun _ => 0))))]) hX hE (m_letGoAt l hlt D cy a p1 p2 p3 p4) (cwVA 4 htA wd_1248 wd_1245 wd_1 wd_1246 wd_1247 (by decide +kernel) ⟨by decide, by decide⟩) hP hD hS [0, 1, 2] [3] rfl rfl (by decide) 0 rfl rfl rfl rfl hl.1 rfl (Nat.le_of_ble_eq_true rfl) dL_letGoAt_9 (by decide) (fun E ce q9 W1 H locs hw hP hD hS hce hcv hcl => ?_) (fun r_ W1 H locs hw hP hD hS => ?_)
  · rcases hw with ⟨rfl, g1⟩ | ⟨rfl, g2⟩
    · refine kCatch (name := "java/util/NoSuchElementException") hX hE hxt [] ⟨0, 14, 17, 19⟩ [⟨0, 14, 21, 13⟩] rfl (fun z hz => absurd hz List.not_mem_nil) (by decide) (by decide) wd_860 (by decide +kernel) hce hcv hcl ?_
      refine W.widen (k := 3) (n := 18) (by decide) (by decide) ?_
      have hP : va_P D vwCl [((a 300), .inl (cy 2, 1, .inr (.inl (fun _ => 0))))] H := hP.sub [0] rfl
      have hD : va_D A [((a 300), .inl (cy 2, 1, .inr (.inl (fun _ => 0))))] := hD.sub [0] (by rfl) rfl
      refine lv_astore (lv' := [(6, .ref q9), (0, .ref (a 0)), (1, .int p1), (2, .int p2), (3, .int p3), (4, .int p4), (5, .ref (a 300))]) hx hb dL_letGoAt_17 hl (by decide) rfl (fun ls hl => ?_)
      refine lv_iconst (v := 1) hx hb dL_letGoAt_19 (by decide) ?_
      exact rI hX hE (hP.sub [0] rfl) (hD.sub [0] (by decide) rfl) hS dL_letGoAt_20 (by decide) (by decide) (⟨g1.symm, _, rfl, (fun q => absurd q (by rw [g1]; decide))⟩)
    · refine kCatch (name := "java/lang/IllegalArgumentException") hX hE hxt [⟨0, 14, 17, 19⟩] ⟨0, 14, 21, 13⟩ [] rfl (List.forall_mem_cons.mpr ⟨Or.inr ⟨by decide, "java/util/NoSuchElementException", htA _ wd_860, hE.2.2.2.2.2.1 ("java/lang/IllegalArgumentException", "java/util/NoSuchElementException") (by decide)⟩, (fun z hz => absurd hz List.not_mem_nil)⟩) (by decide) (by decide) wd_526 (by decide +kernel) hce hcv hcl ?_
      refine W.widen (k := 3) (n := 18) (by decide) (by decide) ?_
      have hP : va_P D vwCl [((a 300), .inl (cy 2, 1, .inr (.inl (fun _ => 0))))] H := hP.sub [0] rfl
      have hD : va_D A [((a 300), .inl (cy 2, 1, .inr (.inl (fun _ => 0))))] := hD.sub [0] (by rfl) rfl
      refine lv_astore (lv' := [(6, .ref q9), (0, .ref (a 0)), (1, .int p1), (2, .int p2), (3, .int p3), (4, .int p4), (5, .ref (a 300))]) hx hb dL_letGoAt_21 hl (by decide) rfl (fun ls hl => ?_)
      refine lv_iconst (v := 2) hx hb dL_letGoAt_23 (by decide) ?_
      exact rI hX hE (hP.sub [0] rfl) (hD.sub [0] (by decide) rfl) hS dL_letGoAt_24 (by decide) (by decide) (⟨g2.symm, _, rfl, (fun q => absurd q (by rw [g2]; decide))⟩)
  · refine W.widen (k := 3) (n := 18) (by decide) (by decide) ?_
    have hP : va_P D vwCl [((a 300), .inl (cy 2, 1, .inr (.inl (fun _ => 0))))] H := hP.sub [0] rfl
    have hD : va_D A [((a 300), .inl (cy 2, 1, .inr (.inl (fun _ => 0))))] := hD.sub [0] (by rfl) rfl
    obtain ⟨hk0, hv0⟩ := hw
    have hP : va_P D vwCl [((a 300), .inl (cy 2, 1, .inr (.inl (fun _ => 0))))] H := hP
    have hD : va_D A [((a 300), .inl (cy 2, 1, .inr (.inl (fun _ => 0))))] := hD
    refine lv_i2l hx hb dL_letGoAt_12 rfl ?_
    refine va_last hx hb hK hP hD hS 0 2 rfl rfl (in_lit (by decide)) dL_letGoAt_13 (fun H locs hP hD hS => ?_)
    have hP : va_P D vwCl [((a 300), .inl (cy 2, 1, .inr (.inl (vp_updL (fun _ => 0) (0 : Int32).toNatClampNeg r_.toInt64))))] H := hP
    have hD : va_D A [((a 300), .inl (cy 2, 1, .inr (.inl (vp_updL (fun _ => 0) (0 : Int32).toNatClampNeg r_.toInt64))))] := hD
    refine lv_goto (tgt := 25) hx hb dL_letGoAt_14 (by decide) ?_
    refine lv_iconst (v := 0) hx hb dL_letGoAt_25 (by decide) ?_
    exact rI hX hE (hP.sub [0] rfl) (hD.sub [0] (by decide) rfl) hS dL_letGoAt_26 (by decide) (by decide) (⟨hk0.symm, _, rfl, (fun _ => by first | exact hv0 | (show vp_updL _ _ _ 0 = _; first | exact hv0 | (rw [← hv0]; rfl)))⟩)
set_option maxHeartbeats 4000000 in
set_option maxRecDepth 100000 in
theorem h_levels (l : Launch) (hlt : l.stackTraces = false) (D : va_G) (cy : Nat → ClassId) (a : Nat → Nat) (p1 : Int32) (p2 : Int32) (p3 : Int32) (p4 : Int32) : Hi l yL_levels cL_levels 7 (some .int) [(0, 14, 17, 19), (0, 14, 21, 13)] { frames := 8, cells := 4, slots := 24, locals := 138 } D cy [.ref (a 0), .int p1, .int p2, .int p3, .int p4, .ref (a 300)] [((a 0), .inr (10, [.ref (a 1), .int 0, .int 0, .int (-1), .ref (a 2), .ref (a 3), .ref (a 4), .ref (a 5), .ref (a 6), .ref (a 7), .ref (a 8), .ref (a 9), .int 0])), ((a 3), .inr (6, [.ref (a 10), .int 0, .ref (a 21), .ref (a 22), .ref (a 23), .ref (a 24), .ref (a 25), .int 0])), ((a 10), .inr (0, [.int 0, .int 1, .int 1, .int 0, .int 0, .ref (a 11), .ref (a 12), .ref (a 13), .null, .null])), ((a 300), .inl (cy 2, 1, .inr (.inl (fun _ => 0))))] (fun r W1 => r = kf_levels p1 p2 p3 p4 ∧ ∃ g : Nat → Int64, W1 = [((a 300), .inl (cy 2, 1, .inr (.inl g)))] ∧ (kf_levels p1 p2 p3 p4 = 0 → g 0 = vf_levels p1 p2 p3 p4)) := by
  refine Hi.of (by decide) (Nat.le_of_ble_eq_true rfl) ?_
  intro p e s m below meth c A ls hX hE hP hD hl hxt
  obtain ⟨hx, hb, hr, hml, hown, htA, hlk⟩ := id hX
  have hK := hE.1
  have hS : va_S A s.heap s.heap [] := va_S.rf
  have hl : lv_has ls 7 [(0, .ref (a 0)), (1, .int p1), (2, .int p2), (3, .int p3), (4, .int p4), (5, .ref (a 300))] := hl
  refine lv_aload hx hb dL_levels_0 (lv_at hl 5 rfl) ?_
  refine lv_iconst (v := 0) hx hb dL_levels_2 (by decide) ?_
  refine lv_aload_n hx hb dL_levels_3 rfl (lv_at hl 0 rfl) ?_
  refine lv_iload_n hx hb dL_levels_4 rfl (lv_at hl 1 rfl) ?_
  refine lv_iload_n hx hb dL_levels_5 rfl (lv_at hl 2 rfl) ?_
  refine lv_iload_n hx hb dL_levels_6 rfl (lv_at hl 3 rfl) ?_
  refine lv_iload hx hb dL_levels_7 (lv_at hl 4 rfl) ?_
  refine xVi (As := [.int p1, .int p2, .int p3, .int p4]) (rest := [.int 0, .ref (a 300)]) (wr := [((a 300), .inl (cy 2, 1, .inr (.inl (fun _ => 0))))]) hX hE (m_levels l hlt D cy a p1 p2 p3 p4) (cwVA 4 htA wd_1256 wd_1253 wd_1 wd_1254 wd_1255 (by decide +kernel) ⟨by decide, by decide⟩) hP hD hS [0, 1, 2] [3] rfl rfl (by decide) 0 rfl rfl rfl rfl hl.1 rfl (Nat.le_of_ble_eq_true rfl) dL_levels_9 (by decide) (fun E ce q9 W1 H locs hw hP hD hS hce hcv hcl => ?_) (fun r_ W1 H locs hw hP hD hS => ?_)
  · rcases hw with ⟨rfl, g1⟩ | ⟨rfl, g2⟩
    · refine kCatch (name := "java/util/NoSuchElementException") hX hE hxt [] ⟨0, 14, 17, 19⟩ [⟨0, 14, 21, 13⟩] rfl (fun z hz => absurd hz List.not_mem_nil) (by decide) (by decide) wd_860 (by decide +kernel) hce hcv hcl ?_
      refine W.widen (k := 4) (n := 24) (by decide) (by decide) ?_
      have hP : va_P D vwCl [((a 300), .inl (cy 2, 1, .inr (.inl (fun _ => 0))))] H := hP.sub [0] rfl
      have hD : va_D A [((a 300), .inl (cy 2, 1, .inr (.inl (fun _ => 0))))] := hD.sub [0] (by rfl) rfl
      refine lv_astore (lv' := [(6, .ref q9), (0, .ref (a 0)), (1, .int p1), (2, .int p2), (3, .int p3), (4, .int p4), (5, .ref (a 300))]) hx hb dL_levels_17 hl (by decide) rfl (fun ls hl => ?_)
      refine lv_iconst (v := 1) hx hb dL_levels_19 (by decide) ?_
      exact rI hX hE (hP.sub [0] rfl) (hD.sub [0] (by decide) rfl) hS dL_levels_20 (by decide) (by decide) (⟨g1.symm, _, rfl, (fun q => absurd q (by rw [g1]; decide))⟩)
    · refine kCatch (name := "java/lang/IllegalArgumentException") hX hE hxt [⟨0, 14, 17, 19⟩] ⟨0, 14, 21, 13⟩ [] rfl (List.forall_mem_cons.mpr ⟨Or.inr ⟨by decide, "java/util/NoSuchElementException", htA _ wd_860, hE.2.2.2.2.2.1 ("java/lang/IllegalArgumentException", "java/util/NoSuchElementException") (by decide)⟩, (fun z hz => absurd hz List.not_mem_nil)⟩) (by decide) (by decide) wd_526 (by decide +kernel) hce hcv hcl ?_
      refine W.widen (k := 4) (n := 24) (by decide) (by decide) ?_
      have hP : va_P D vwCl [((a 300), .inl (cy 2, 1, .inr (.inl (fun _ => 0))))] H := hP.sub [0] rfl
      have hD : va_D A [((a 300), .inl (cy 2, 1, .inr (.inl (fun _ => 0))))] := hD.sub [0] (by rfl) rfl
      refine lv_astore (lv' := [(6, .ref q9), (0, .ref (a 0)), (1, .int p1), (2, .int p2), (3, .int p3), (4, .int p4), (5, .ref (a 300))]) hx hb dL_levels_21 hl (by decide) rfl (fun ls hl => ?_)
      refine lv_iconst (v := 2) hx hb dL_levels_23 (by decide) ?_
      exact rI hX hE (hP.sub [0] rfl) (hD.sub [0] (by decide) rfl) hS dL_levels_24 (by decide) (by decide) (⟨g2.symm, _, rfl, (fun q => absurd q (by rw [g2]; decide))⟩)
  · refine W.widen (k := 4) (n := 24) (by decide) (by decide) ?_
    have hP : va_P D vwCl [((a 300), .inl (cy 2, 1, .inr (.inl (fun _ => 0))))] H := hP.sub [0] rfl
    have hD : va_D A [((a 300), .inl (cy 2, 1, .inr (.inl (fun _ => 0))))] := hD.sub [0] (by rfl) rfl
    obtain ⟨hk0, hv0⟩ := hw
    have hP : va_P D vwCl [((a 300), .inl (cy 2, 1, .inr (.inl (fun _ => 0))))] H := hP
    have hD : va_D A [((a 300), .inl (cy 2, 1, .inr (.inl (fun _ => 0))))] := hD
    refine lv_i2l hx hb dL_levels_12 rfl ?_
    refine va_last hx hb hK hP hD hS 0 2 rfl rfl (in_lit (by decide)) dL_levels_13 (fun H locs hP hD hS => ?_)
    have hP : va_P D vwCl [((a 300), .inl (cy 2, 1, .inr (.inl (vp_updL (fun _ => 0) (0 : Int32).toNatClampNeg r_.toInt64))))] H := hP
    have hD : va_D A [((a 300), .inl (cy 2, 1, .inr (.inl (vp_updL (fun _ => 0) (0 : Int32).toNatClampNeg r_.toInt64))))] := hD
    refine lv_goto (tgt := 25) hx hb dL_levels_14 (by decide) ?_
    refine lv_iconst (v := 0) hx hb dL_levels_25 (by decide) ?_
    exact rI hX hE (hP.sub [0] rfl) (hD.sub [0] (by decide) rfl) hS dL_levels_26 (by decide) (by decide) (⟨hk0.symm, _, rfl, (fun _ => by first | exact hv0 | (show vp_updL _ _ _ 0 = _; first | exact hv0 | (rw [← hv0]; rfl)))⟩)
set_option maxHeartbeats 4000000 in
set_option maxRecDepth 100000 in
theorem h_tray (l : Launch) (hlt : l.stackTraces = false) (D : va_G) (cy : Nat → ClassId) (a : Nat → Nat) (p1 : Int32) (p2 : Int32) (p3 : Int32) : Hi l yL_tray cL_tray 5 (some .int) [(0, 7, 10, 19), (0, 7, 14, 13)] { frames := 8, cells := 2, slots := 12, locals := 135 } D cy [.ref (a 0), .int p1, .int p2, .int p3] [((a 0), .inr (10, [.ref (a 1), .int 0, .int 0, .int (-1), .ref (a 2), .ref (a 3), .ref (a 4), .ref (a 5), .ref (a 6), .ref (a 7), .ref (a 8), .ref (a 9), .int 0])), ((a 8), .inl (cy 5, 4, .inr (.inr (.inr (.inr (va_up (va_up (va_up (va_up (fun _ => none) (0 : Int32).toNatClampNeg (some (a 60))) (1 : Int32).toNatClampNeg (some (a 61))) (2 : Int32).toNatClampNeg (some (a 62))) (3 : Int32).toNatClampNeg (some (a 63)))))))), ((a 60), .inr (8, [.int (-1), .int 0, .ref (a 64)])), ((a 61), .inr (8, [.int (-1), .int 0, .ref (a 65)])), ((a 62), .inr (8, [.int (-1), .int 0, .ref (a 66)])), ((a 63), .inr (8, [.int (-1), .int 0, .ref (a 67)])), ((a 64), .inl (cy 2, 30, .inr (.inl (fun _ => 0)))), ((a 65), .inl (cy 2, 30, .inr (.inl (fun _ => 0)))), ((a 66), .inl (cy 2, 30, .inr (.inl (fun _ => 0)))), ((a 67), .inl (cy 2, 30, .inr (.inl (fun _ => 0))))] (fun r W1 => r = kf_tray p1 p2 p3 ∧ W1 = []) := by
  refine Hi.of (by decide) (Nat.le_of_ble_eq_true rfl) ?_
  intro p e s m below meth c A ls hX hE hP hD hl hxt
  obtain ⟨hx, hb, hr, hml, hown, htA, hlk⟩ := id hX
  have hK := hE.1
  have hS : va_S A s.heap s.heap [] := va_S.rf
  have hl : lv_has ls 5 [(0, .ref (a 0)), (1, .int p1), (2, .int p2), (3, .int p3)] := hl
  refine lv_aload_n hx hb dL_tray_0 rfl (lv_at hl 0 rfl) ?_
  refine lv_iload_n hx hb dL_tray_1 rfl (lv_at hl 1 rfl) ?_
  refine lv_iload_n hx hb dL_tray_2 rfl (lv_at hl 2 rfl) ?_
  refine lv_iload_n hx hb dL_tray_3 rfl (lv_at hl 3 rfl) ?_
  refine xVv (As := [.int p1, .int p2, .int p3]) (rest := []) (wr := []) hX hE (m_tray l hlt D cy a p1 p2 p3) (cwVA 3 htA wd_1263 wd_1260 wd_1 wd_1261 wd_1262 (by decide +kernel) ⟨by decide, by decide⟩) hP hD hS [0, 1, 2, 3, 4, 5, 6, 7, 8, 9] [] rfl rfl (by decide) 0 rfl rfl rfl rfl hl.1 rfl (Nat.le_of_ble_eq_true rfl) dL_tray_4 (by decide) (fun E ce q9 W1 H locs hw hP hD hS hce hcv hcl => ?_) (fun W1 H locs hw hP hD hS => ?_)
  · rcases hw with ⟨rfl, g1⟩ | ⟨rfl, g2⟩
    · refine kCatch (name := "java/util/NoSuchElementException") hX hE hxt [] ⟨0, 7, 10, 19⟩ [⟨0, 7, 14, 13⟩] rfl (fun z hz => absurd hz List.not_mem_nil) (by decide) (by decide) wd_860 (by decide +kernel) hce hcv hcl ?_
      refine W.widen (k := 2) (n := 12) (by decide) (by decide) ?_
      have hP : va_P D vwCl [] H := hP.sub [] rfl
      have hD : va_D A [] := hD.sub [] (by rfl) rfl
      refine lv_astore (lv' := [(4, .ref q9), (0, .ref (a 0)), (1, .int p1), (2, .int p2), (3, .int p3)]) hx hb dL_tray_10 hl (by decide) rfl (fun ls hl => ?_)
      refine lv_iconst (v := 1) hx hb dL_tray_12 (by decide) ?_
      exact rI hX hE (hP.sub [] rfl) (hD.sub [] (by decide) rfl) hS dL_tray_13 (by decide) (by decide) (⟨g1.symm, rfl⟩)
    · refine kCatch (name := "java/lang/IllegalArgumentException") hX hE hxt [⟨0, 7, 10, 19⟩] ⟨0, 7, 14, 13⟩ [] rfl (List.forall_mem_cons.mpr ⟨Or.inr ⟨by decide, "java/util/NoSuchElementException", htA _ wd_860, hE.2.2.2.2.2.1 ("java/lang/IllegalArgumentException", "java/util/NoSuchElementException") (by decide)⟩, (fun z hz => absurd hz List.not_mem_nil)⟩) (by decide) (by decide) wd_526 (by decide +kernel) hce hcv hcl ?_
      refine W.widen (k := 2) (n := 12) (by decide) (by decide) ?_
      have hP : va_P D vwCl [] H := hP.sub [] rfl
      have hD : va_D A [] := hD.sub [] (by rfl) rfl
      refine lv_astore (lv' := [(4, .ref q9), (0, .ref (a 0)), (1, .int p1), (2, .int p2), (3, .int p3)]) hx hb dL_tray_14 hl (by decide) rfl (fun ls hl => ?_)
      refine lv_iconst (v := 2) hx hb dL_tray_16 (by decide) ?_
      exact rI hX hE (hP.sub [] rfl) (hD.sub [] (by decide) rfl) hS dL_tray_17 (by decide) (by decide) (⟨g2.symm, rfl⟩)
  · refine W.widen (k := 2) (n := 12) (by decide) (by decide) ?_
    have hP : va_P D vwCl [] H := hP.sub [] rfl
    have hD : va_D A [] := hD.sub [] (by rfl) rfl
    have hk0 := hw
    have hP : va_P D vwCl [] H := hP
    have hD : va_D A [] := hD
    refine lv_goto (tgt := 18) hx hb dL_tray_7 (by decide) ?_
    refine lv_iconst (v := 0) hx hb dL_tray_18 (by decide) ?_
    exact rI hX hE (hP.sub [] rfl) (hD.sub [] (by decide) rfl) hS dL_tray_19 (by decide) (by decide) (⟨hk0.symm, rfl⟩)
set_option maxHeartbeats 4000000 in
set_option maxRecDepth 100000 in
theorem h_write (l : Launch) (hlt : l.stackTraces = false) (D : va_G) (cy : Nat → ClassId) (a : Nat → Nat) (p1 : Int32) (p2 : Int32) (p3 : Int64) : Hi l yL_write cL_write 7 (some .int) [(0, 11, 14, 19), (0, 11, 18, 43), (0, 11, 22, 129)] { frames := 9, cells := 2, slots := 12, locals := 158 } D cy [.ref (a 0), .int p1, .int p2, .long p3, .ref (a 300)] [((a 0), .inr (10, [.ref (a 1), .int 0, .int 0, .int (-1), .ref (a 2), .ref (a 3), .ref (a 4), .ref (a 5), .ref (a 6), .ref (a 7), .ref (a 8), .ref (a 9), .int 0])), ((a 8), .inl (cy 5, 4, .inr (.inr (.inr (.inr (va_up (va_up (va_up (va_up (fun _ => none) (0 : Int32).toNatClampNeg (some (a 60))) (1 : Int32).toNatClampNeg (some (a 61))) (2 : Int32).toNatClampNeg (some (a 62))) (3 : Int32).toNatClampNeg (some (a 63)))))))), ((a 60), .inr (8, [.int (-1), .int 0, .ref (a 64)])), ((a 61), .inr (8, [.int (-1), .int 0, .ref (a 65)])), ((a 62), .inr (8, [.int (-1), .int 0, .ref (a 66)])), ((a 63), .inr (8, [.int (-1), .int 0, .ref (a 67)])), ((a 300), .inl (cy 2, 1, .inr (.inl (fun _ => 0))))] (fun r W1 => r = kf_write p1 p2 p3 ∧ ∃ g : Nat → Int64, W1 = [((a 300), .inl (cy 2, 1, .inr (.inl g)))] ∧ (kf_write p1 p2 p3 = 0 → g 0 = vf_write p1 p2 p3)) := by
  refine Hi.of (by decide) (Nat.le_of_ble_eq_true rfl) ?_
  intro p e s m below meth c A ls hX hE hP hD hl hxt
  obtain ⟨hx, hb, hr, hml, hown, htA, hlk⟩ := id hX
  have hK := hE.1
  have hS : va_S A s.heap s.heap [] := va_S.rf
  have hl : lv_has ls 7 [(0, .ref (a 0)), (1, .int p1), (2, .int p2), (3, .long p3), (5, .ref (a 300))] := hl
  refine lv_aload hx hb dL_write_0 (lv_at hl 4 rfl) ?_
  refine lv_iconst (v := 0) hx hb dL_write_2 (by decide) ?_
  refine lv_aload_n hx hb dL_write_3 rfl (lv_at hl 0 rfl) ?_
  refine lv_iload_n hx hb dL_write_4 rfl (lv_at hl 1 rfl) ?_
  refine lv_iload_n hx hb dL_write_5 rfl (lv_at hl 2 rfl) ?_
  refine lv_lload_n hx hb dL_write_6 rfl (lv_at hl 3 rfl) ?_
  refine xVl (As := [.int p1, .int p2, .long p3]) (rest := [.int 0, .ref (a 300)]) (wr := [((a 300), .inl (cy 2, 1, .inr (.inl (fun _ => 0))))]) hX hE (m_write l hlt D cy a p1 p2 p3) (cwVA 3 htA wd_1276 wd_1273 wd_1 wd_1274 wd_1275 (by decide +kernel) ⟨by decide, by decide⟩) hP hD hS [0, 1, 2, 3, 4, 5] [6] rfl rfl (by decide) 0 rfl rfl rfl rfl hl.1 rfl (Nat.le_of_ble_eq_true rfl) dL_write_7 (by decide) (fun E ce q9 W1 H locs hw hP hD hS hce hcv hcl => ?_) (fun r_ W1 H locs hw hP hD hS => ?_)
  · rcases hw with ⟨rfl, g1⟩ | ⟨rfl, g2⟩
    · refine kCatch (name := "java/util/NoSuchElementException") hX hE hxt [] ⟨0, 11, 14, 19⟩ [⟨0, 11, 18, 43⟩, ⟨0, 11, 22, 129⟩] rfl (fun z hz => absurd hz List.not_mem_nil) (by decide) (by decide) wd_860 (by decide +kernel) hce hcv hcl ?_
      refine W.widen (k := 2) (n := 12) (by decide) (by decide) ?_
      have hP : va_P D vwCl [((a 300), .inl (cy 2, 1, .inr (.inl (fun _ => 0))))] H := hP.sub [0] rfl
      have hD : va_D A [((a 300), .inl (cy 2, 1, .inr (.inl (fun _ => 0))))] := hD.sub [0] (by rfl) rfl
      refine lv_astore (lv' := [(6, .ref q9), (0, .ref (a 0)), (1, .int p1), (2, .int p2), (3, .long p3), (5, .ref (a 300))]) hx hb dL_write_14 hl (by decide) rfl (fun ls hl => ?_)
      refine lv_iconst (v := 1) hx hb dL_write_16 (by decide) ?_
      exact rI hX hE (hP.sub [0] rfl) (hD.sub [0] (by decide) rfl) hS dL_write_17 (by decide) (by decide) (⟨g1.symm, _, rfl, (fun q => absurd q (by rw [g1]; decide))⟩)
    · refine kCatch (name := "java/lang/IllegalStateException") hX hE hxt [⟨0, 11, 14, 19⟩] ⟨0, 11, 18, 43⟩ [⟨0, 11, 22, 129⟩] rfl (List.forall_mem_cons.mpr ⟨Or.inr ⟨by decide, "java/util/NoSuchElementException", htA _ wd_860, hE.2.2.2.2.2.1 ("java/lang/IllegalStateException", "java/util/NoSuchElementException") (by decide)⟩, (fun z hz => absurd hz List.not_mem_nil)⟩) (by decide) (by decide) wd_965 (by decide +kernel) hce hcv hcl ?_
      refine W.widen (k := 2) (n := 12) (by decide) (by decide) ?_
      have hP : va_P D vwCl [((a 300), .inl (cy 2, 1, .inr (.inl (fun _ => 0))))] H := hP.sub [0] rfl
      have hD : va_D A [((a 300), .inl (cy 2, 1, .inr (.inl (fun _ => 0))))] := hD.sub [0] (by rfl) rfl
      refine lv_astore (lv' := [(6, .ref q9), (0, .ref (a 0)), (1, .int p1), (2, .int p2), (3, .long p3), (5, .ref (a 300))]) hx hb dL_write_18 hl (by decide) rfl (fun ls hl => ?_)
      refine lv_iconst (v := 2) hx hb dL_write_20 (by decide) ?_
      exact rI hX hE (hP.sub [0] rfl) (hD.sub [0] (by decide) rfl) hS dL_write_21 (by decide) (by decide) (⟨g2.symm, _, rfl, (fun q => absurd q (by rw [g2]; decide))⟩)
  · refine W.widen (k := 2) (n := 12) (by decide) (by decide) ?_
    have hP : va_P D vwCl [((a 300), .inl (cy 2, 1, .inr (.inl (fun _ => 0))))] H := hP.sub [0] rfl
    have hD : va_D A [((a 300), .inl (cy 2, 1, .inr (.inl (fun _ => 0))))] := hD.sub [0] (by rfl) rfl
    obtain ⟨hk0, hv0⟩ := hw
    have hP : va_P D vwCl [((a 300), .inl (cy 2, 1, .inr (.inl (fun _ => 0))))] H := hP
    have hD : va_D A [((a 300), .inl (cy 2, 1, .inr (.inl (fun _ => 0))))] := hD
    refine va_last hx hb hK hP hD hS 0 2 rfl rfl (in_lit (by decide)) dL_write_10 (fun H locs hP hD hS => ?_)
    have hP : va_P D vwCl [((a 300), .inl (cy 2, 1, .inr (.inl (vp_updL (fun _ => 0) (0 : Int32).toNatClampNeg r_))))] H := hP
    have hD : va_D A [((a 300), .inl (cy 2, 1, .inr (.inl (vp_updL (fun _ => 0) (0 : Int32).toNatClampNeg r_))))] := hD
    refine lv_goto (tgt := 26) hx hb dL_write_11 (by decide) ?_
    refine lv_iconst (v := 0) hx hb dL_write_26 (by decide) ?_
    exact rI hX hE (hP.sub [0] rfl) (hD.sub [0] (by decide) rfl) hS dL_write_27 (by decide) (by decide) (⟨hk0.symm, _, rfl, (fun _ => by first | exact hv0 | (show vp_updL _ _ _ 0 = _; first | exact hv0 | (rw [← hv0]; rfl)))⟩)
set_option maxHeartbeats 4000000 in
set_option maxRecDepth 100000 in
theorem h_copy (l : Launch) (hlt : l.stackTraces = false) (D : va_G) (cy : Nat → ClassId) (a : Nat → Nat) (p1 : Int32) : Hi l yL_copy cL_copy 4 (some .int) [(0, 9, 12, 19), (0, 9, 15, 43)] { frames := 9, cells := 2, slots := 12, locals := 157 } D cy [.ref (a 0), .int p1, .ref (a 300)] [((a 0), .inr (10, [.ref (a 1), .int 0, .int 0, .int (-1), .ref (a 2), .ref (a 3), .ref (a 4), .ref (a 5), .ref (a 6), .ref (a 7), .ref (a 8), .ref (a 9), .int 0])), ((a 8), .inl (cy 5, 4, .inr (.inr (.inr (.inr (va_up (va_up (va_up (va_up (fun _ => none) (0 : Int32).toNatClampNeg (some (a 60))) (1 : Int32).toNatClampNeg (some (a 61))) (2 : Int32).toNatClampNeg (some (a 62))) (3 : Int32).toNatClampNeg (some (a 63)))))))), ((a 60), .inr (8, [.int (-1), .int 0, .ref (a 64)])), ((a 61), .inr (8, [.int (-1), .int 0, .ref (a 65)])), ((a 62), .inr (8, [.int (-1), .int 0, .ref (a 66)])), ((a 63), .inr (8, [.int (-1), .int 0, .ref (a 67)])), ((a 300), .inl (cy 2, 1, .inr (.inl (fun _ => 0))))] (fun r W1 => r = kf_copy p1 ∧ ∃ g : Nat → Int64, W1 = [((a 300), .inl (cy 2, 1, .inr (.inl g)))] ∧ (kf_copy p1 = 0 → g 0 = vf_copy p1)) := by
  refine Hi.of (by decide) (Nat.le_of_ble_eq_true rfl) ?_
  intro p e s m below meth c A ls hX hE hP hD hl hxt
  obtain ⟨hx, hb, hr, hml, hown, htA, hlk⟩ := id hX
  have hK := hE.1
  have hS : va_S A s.heap s.heap [] := va_S.rf
  have hl : lv_has ls 4 [(0, .ref (a 0)), (1, .int p1), (2, .ref (a 300))] := hl
  refine lv_aload_n hx hb dL_copy_0 rfl (lv_at hl 2 rfl) ?_
  refine lv_iconst (v := 0) hx hb dL_copy_1 (by decide) ?_
  refine lv_aload_n hx hb dL_copy_2 rfl (lv_at hl 0 rfl) ?_
  refine lv_iload_n hx hb dL_copy_3 rfl (lv_at hl 1 rfl) ?_
  refine xVi (As := [.int p1]) (rest := [.int 0, .ref (a 300)]) (wr := [((a 300), .inl (cy 2, 1, .inr (.inl (fun _ => 0))))]) hX hE (m_copy l hlt D cy a p1) (cwVA 1 htA wd_1306 wd_1303 wd_1 wd_1304 wd_1305 (by decide +kernel) ⟨by decide, by decide⟩) hP hD hS [0, 1, 2, 3, 4, 5] [6] rfl rfl (by decide) 0 rfl rfl rfl rfl hl.1 rfl (Nat.le_of_ble_eq_true rfl) dL_copy_4 (by decide) (fun E ce q9 W1 H locs hw hP hD hS hce hcv hcl => ?_) (fun r_ W1 H locs hw hP hD hS => ?_)
  · rcases hw with ⟨rfl, g1⟩ | ⟨rfl, g2⟩
    · refine kCatch (name := "java/util/NoSuchElementException") hX hE hxt [] ⟨0, 9, 12, 19⟩ [⟨0, 9, 15, 43⟩] rfl (fun z hz => absurd hz List.not_mem_nil) (by decide) (by decide) wd_860 (by decide +kernel) hce hcv hcl ?_
      refine W.widen (k := 2) (n := 12) (by decide) (by decide) ?_
      have hP : va_P D vwCl [((a 300), .inl (cy 2, 1, .inr (.inl (fun _ => 0))))] H := hP.sub [0] rfl
      have hD : va_D A [((a 300), .inl (cy 2, 1, .inr (.inl (fun _ => 0))))] := hD.sub [0] (by rfl) rfl
      refine lv_astore_n (lv' := [(3, .ref q9), (0, .ref (a 0)), (1, .int p1), (2, .ref (a 300))]) hx hb dL_copy_12 rfl hl (by decide) rfl (fun ls hl => ?_)
      refine lv_iconst (v := 1) hx hb dL_copy_13 (by decide) ?_
      exact rI hX hE (hP.sub [0] rfl) (hD.sub [0] (by decide) rfl) hS dL_copy_14 (by decide) (by decide) (⟨g1.symm, _, rfl, (fun q => absurd q (by rw [g1]; decide))⟩)
    · refine kCatch (name := "java/lang/IllegalStateException") hX hE hxt [⟨0, 9, 12, 19⟩] ⟨0, 9, 15, 43⟩ [] rfl (List.forall_mem_cons.mpr ⟨Or.inr ⟨by decide, "java/util/NoSuchElementException", htA _ wd_860, hE.2.2.2.2.2.1 ("java/lang/IllegalStateException", "java/util/NoSuchElementException") (by decide)⟩, (fun z hz => absurd hz List.not_mem_nil)⟩) (by decide) (by decide) wd_965 (by decide +kernel) hce hcv hcl ?_
      refine W.widen (k := 2) (n := 12) (by decide) (by decide) ?_
      have hP : va_P D vwCl [((a 300), .inl (cy 2, 1, .inr (.inl (fun _ => 0))))] H := hP.sub [0] rfl
      have hD : va_D A [((a 300), .inl (cy 2, 1, .inr (.inl (fun _ => 0))))] := hD.sub [0] (by rfl) rfl
      refine lv_astore_n (lv' := [(3, .ref q9), (0, .ref (a 0)), (1, .int p1), (2, .ref (a 300))]) hx hb dL_copy_15 rfl hl (by decide) rfl (fun ls hl => ?_)
      refine lv_iconst (v := 2) hx hb dL_copy_16 (by decide) ?_
      exact rI hX hE (hP.sub [0] rfl) (hD.sub [0] (by decide) rfl) hS dL_copy_17 (by decide) (by decide) (⟨g2.symm, _, rfl, (fun q => absurd q (by rw [g2]; decide))⟩)
  · refine W.widen (k := 2) (n := 12) (by decide) (by decide) ?_
    have hP : va_P D vwCl [((a 300), .inl (cy 2, 1, .inr (.inl (fun _ => 0))))] H := hP.sub [0] rfl
    have hD : va_D A [((a 300), .inl (cy 2, 1, .inr (.inl (fun _ => 0))))] := hD.sub [0] (by rfl) rfl
    obtain ⟨hk0, hv0⟩ := hw
    have hP : va_P D vwCl [((a 300), .inl (cy 2, 1, .inr (.inl (fun _ => 0))))] H := hP
    have hD : va_D A [((a 300), .inl (cy 2, 1, .inr (.inl (fun _ => 0))))] := hD
    refine lv_i2l hx hb dL_copy_7 rfl ?_
    refine va_last hx hb hK hP hD hS 0 2 rfl rfl (in_lit (by decide)) dL_copy_8 (fun H locs hP hD hS => ?_)
    have hP : va_P D vwCl [((a 300), .inl (cy 2, 1, .inr (.inl (vp_updL (fun _ => 0) (0 : Int32).toNatClampNeg r_.toInt64))))] H := hP
    have hD : va_D A [((a 300), .inl (cy 2, 1, .inr (.inl (vp_updL (fun _ => 0) (0 : Int32).toNatClampNeg r_.toInt64))))] := hD
    refine lv_goto (tgt := 18) hx hb dL_copy_9 (by decide) ?_
    refine lv_iconst (v := 0) hx hb dL_copy_18 (by decide) ?_
    exact rI hX hE (hP.sub [0] rfl) (hD.sub [0] (by decide) rfl) hS dL_copy_19 (by decide) (by decide) (⟨hk0.symm, _, rfl, (fun _ => by first | exact hv0 | (show vp_updL _ _ _ 0 = _; first | exact hv0 | (rw [← hv0]; rfl)))⟩)
set_option maxHeartbeats 4000000 in
set_option maxRecDepth 100000 in
theorem h_restore (l : Launch) (hlt : l.stackTraces = false) (D : va_G) (cy : Nat → ClassId) (a : Nat → Nat) (p1 : Int32) : Hi l yL_restore cL_restore 3 (some .int) [(0, 5, 8, 19), (0, 5, 11, 43)] { frames := 8, cells := 2, slots := 12, locals := 132 } D cy [.ref (a 0), .int p1] [((a 0), .inr (10, [.ref (a 1), .int 0, .int 0, .int (-1), .ref (a 2), .ref (a 3), .ref (a 4), .ref (a 5), .ref (a 6), .ref (a 7), .ref (a 8), .ref (a 9), .int 0])), ((a 9), .inl (cy 6, 3, .inr (.inr (.inr (.inr (fun _ => none))))))] (fun r W1 => r = kf_restore p1 ∧ W1 = []) := by
  refine Hi.of (by decide) (Nat.le_of_ble_eq_true rfl) ?_
  intro p e s m below meth c A ls hX hE hP hD hl hxt
  obtain ⟨hx, hb, hr, hml, hown, htA, hlk⟩ := id hX
  have hK := hE.1
  have hS : va_S A s.heap s.heap [] := va_S.rf
  have hl : lv_has ls 3 [(0, .ref (a 0)), (1, .int p1)] := hl
  refine lv_aload_n hx hb dL_restore_0 rfl (lv_at hl 0 rfl) ?_
  refine lv_iload_n hx hb dL_restore_1 rfl (lv_at hl 1 rfl) ?_
  refine xVv (As := [.int p1]) (rest := []) (wr := []) hX hE (m_restore l hlt D cy a p1) (cwVA 1 htA wd_1346 wd_1343 wd_1 wd_1344 wd_1345 (by decide +kernel) ⟨by decide, by decide⟩) hP hD hS [0, 1] [] rfl rfl (by decide) 0 rfl rfl rfl rfl hl.1 rfl (Nat.le_of_ble_eq_true rfl) dL_restore_2 (by decide) (fun E ce q9 W1 H locs hw hP hD hS hce hcv hcl => ?_) (fun W1 H locs hw hP hD hS => ?_)
  · rcases hw with ⟨rfl, g1⟩ | ⟨rfl, g2⟩
    · refine kCatch (name := "java/util/NoSuchElementException") hX hE hxt [] ⟨0, 5, 8, 19⟩ [⟨0, 5, 11, 43⟩] rfl (fun z hz => absurd hz List.not_mem_nil) (by decide) (by decide) wd_860 (by decide +kernel) hce hcv hcl ?_
      refine W.widen (k := 2) (n := 12) (by decide) (by decide) ?_
      have hP : va_P D vwCl [] H := hP.sub [] rfl
      have hD : va_D A [] := hD.sub [] (by rfl) rfl
      refine lv_astore_n (lv' := [(2, .ref q9), (0, .ref (a 0)), (1, .int p1)]) hx hb dL_restore_8 rfl hl (by decide) rfl (fun ls hl => ?_)
      refine lv_iconst (v := 1) hx hb dL_restore_9 (by decide) ?_
      exact rI hX hE (hP.sub [] rfl) (hD.sub [] (by decide) rfl) hS dL_restore_10 (by decide) (by decide) (⟨g1.symm, rfl⟩)
    · refine kCatch (name := "java/lang/IllegalStateException") hX hE hxt [⟨0, 5, 8, 19⟩] ⟨0, 5, 11, 43⟩ [] rfl (List.forall_mem_cons.mpr ⟨Or.inr ⟨by decide, "java/util/NoSuchElementException", htA _ wd_860, hE.2.2.2.2.2.1 ("java/lang/IllegalStateException", "java/util/NoSuchElementException") (by decide)⟩, (fun z hz => absurd hz List.not_mem_nil)⟩) (by decide) (by decide) wd_965 (by decide +kernel) hce hcv hcl ?_
      refine W.widen (k := 2) (n := 12) (by decide) (by decide) ?_
      have hP : va_P D vwCl [] H := hP.sub [] rfl
      have hD : va_D A [] := hD.sub [] (by rfl) rfl
      refine lv_astore_n (lv' := [(2, .ref q9), (0, .ref (a 0)), (1, .int p1)]) hx hb dL_restore_11 rfl hl (by decide) rfl (fun ls hl => ?_)
      refine lv_iconst (v := 2) hx hb dL_restore_12 (by decide) ?_
      exact rI hX hE (hP.sub [] rfl) (hD.sub [] (by decide) rfl) hS dL_restore_13 (by decide) (by decide) (⟨g2.symm, rfl⟩)
  · refine W.widen (k := 2) (n := 12) (by decide) (by decide) ?_
    have hP : va_P D vwCl [] H := hP.sub [] rfl
    have hD : va_D A [] := hD.sub [] (by rfl) rfl
    have hk0 := hw
    have hP : va_P D vwCl [] H := hP
    have hD : va_D A [] := hD
    refine lv_goto (tgt := 14) hx hb dL_restore_5 (by decide) ?_
    refine lv_iconst (v := 0) hx hb dL_restore_14 (by decide) ?_
    exact rI hX hE (hP.sub [] rfl) (hD.sub [] (by decide) rfl) hS dL_restore_15 (by decide) (by decide) (⟨hk0.symm, rfl⟩)
