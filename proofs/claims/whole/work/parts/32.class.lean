theorem li_0 : (0 : Int32).toInt = 0 := by decide
theorem li_1 : (1 : Int32).toInt = 1 := by decide
set_option maxHeartbeats 4000000 in
set_option maxRecDepth 100000 in
theorem c_needThing (l : Launch) (hlt : l.stackTraces = false) (D : va_G) (cy : Nat → ClassId) (a : Nat → Nat) (p1 : Int32) : Xv l yX10_needThing cX10_needThing 2 none { frames := 6, cells := 1, slots := 6, locals := 90 } D cy [.ref (a 0), .int p1] [((a 0), .inr (10, [.ref (a 1), .int 0, .int 0, .int (-1), .ref (a 2), .ref (a 3), .ref (a 4), .ref (a 5), .ref (a 6), .ref (a 7), .ref (a 8), .ref (a 9), .int 0])), ((a 3), .inr (6, [.ref (a 10), .int 0, .ref (a 21), .ref (a 22), .ref (a 23), .ref (a 24), .ref (a 25), .int 0])), ((a 10), .inr (0, [.int 0, .int 1, .int 1, .int 0, .int 0, .ref (a 11), .ref (a 12), .ref (a 13), .null, .null]))] (fun _ => False) (fun E _ => (E = "java/util/NoSuchElementException" ∧ True)) := by
  refine Xv.of (by decide) (Nat.le_of_ble_eq_true rfl) ?_
  intro p e s m below meth c A ls hX hE hP hD hl hxt
  obtain ⟨hx, hb, hr, hml, hown, htA, hlk⟩ := id hX
  have hK := hE.1
  have hS : va_S A s.heap s.heap [] := va_S.rf
  have hl : lv_has ls 2 [(0, .ref (a 0)), (1, .int p1)] := hl
  refine lv_iload_n hx hb dX10_needThing_0 rfl (lv_at hl 1 rfl) ?_
  refine lv_if_lt (tgt := 18) hx hb dX10_needThing_1 (by decide) (fun c1 => ?_) (fun c1 => ?_)
  · exact k_throwN rx_0 rx_1 rx_2 rx_5 hlt hX hE hxt hP hD hS hl.1 (by decide) (htA _ wd_869) (htA _ wd_23) (xSW_in hE.2.2.2 "LateFalls" 183 "no such thing" (by decide)) (at_X10_185 htA hE.2.2.2) ot_X10_181_185 (htA _ wd_881) (htA _ wd_880) dX10_needThing_18 dX10_needThing_21 dX10_needThing_22 dX10_needThing_24 dX10_needThing_27 (by decide) (by decide) (by decide) (by decide) (by decide) (by decide) (⟨rfl, (by have kc1 := c1; (try simp only [fa_lt, fa_le, fa_eq, li_0] at kc1); trivial)⟩)
  · refine lv_iload_n hx hb dX10_needThing_4 rfl (lv_at hl 1 rfl) ?_
    refine lv_aload_n hx hb dX10_needThing_5 rfl (lv_at hl 0 rfl) ?_
    refine va_get (ci := 10) (v := .ref (a 3)) (C := RX10) (T := TX10) (N := 13) hx hb htA in_X10 hown hK hP 0 rfl rfl 5 (by decide) (htA _ wd_313) (fun _ h => h) rfl dX10_needThing_6 ?_
    refine va_get (ci := 6) (v := .ref (a 10)) (C := RX6) (T := TX6) (N := 8) hx hb htA in_X6 hown hK hP 1 rfl rfl 0 (by decide) (htA _ wd_168) (fun _ h => h) rfl dX10_needThing_9 ?_
    refine va_get (ci := 0) (v := .int 0) (C := RX0) (T := TX0) (N := 10) hx hb htA in_X0 hown hK hP 2 rfl rfl 3 (by decide) (htA _ wd_88) (fun _ h => h) rfl dX10_needThing_12 ?_
    refine lv_icmp_lt (tgt := 28) hx hb dX10_needThing_15 (by decide) (fun c2 => absurd c2 c1) (fun c2 => ?_)
    exact k_throwN rx_0 rx_1 rx_2 rx_5 hlt hX hE hxt hP hD hS hl.1 (by decide) (htA _ wd_869) (htA _ wd_23) (xSW_in hE.2.2.2 "LateFalls" 183 "no such thing" (by decide)) (at_X10_185 htA hE.2.2.2) ot_X10_181_185 (htA _ wd_881) (htA _ wd_880) dX10_needThing_18 dX10_needThing_21 dX10_needThing_22 dX10_needThing_24 dX10_needThing_27 (by decide) (by decide) (by decide) (by decide) (by decide) (by decide) (⟨rfl, (by have kc1 := c1; have kc2 := c2; (try simp only [fa_lt, fa_le, fa_eq, li_0] at kc1); (try simp only [fa_lt, fa_le, fa_eq, li_0] at kc2); trivial)⟩)
set_option maxHeartbeats 4000000 in
set_option maxRecDepth 100000 in
theorem c_needWalker (l : Launch) (hlt : l.stackTraces = false) (D : va_G) (cy : Nat → ClassId) (a : Nat → Nat) (p1 : Int32) : Xv l yX10_needWalker cX10_needWalker 2 none { frames := 6, cells := 1, slots := 6, locals := 90 } D cy [.ref (a 0), .int p1] [((a 0), .inr (10, [.ref (a 1), .int 0, .int 0, .int (-1), .ref (a 2), .ref (a 3), .ref (a 4), .ref (a 5), .ref (a 6), .ref (a 7), .ref (a 8), .ref (a 9), .int 0])), ((a 3), .inr (6, [.ref (a 10), .int 0, .ref (a 21), .ref (a 22), .ref (a 23), .ref (a 24), .ref (a 25), .int 0])), ((a 10), .inr (0, [.int 0, .int 1, .int 1, .int 0, .int 0, .ref (a 11), .ref (a 12), .ref (a 13), .null, .null]))] (fun _ => False) (fun E _ => (E = "java/util/NoSuchElementException" ∧ True)) := by
  refine Xv.of (by decide) (Nat.le_of_ble_eq_true rfl) ?_
  intro p e s m below meth c A ls hX hE hP hD hl hxt
  obtain ⟨hx, hb, hr, hml, hown, htA, hlk⟩ := id hX
  have hK := hE.1
  have hS : va_S A s.heap s.heap [] := va_S.rf
  have hl : lv_has ls 2 [(0, .ref (a 0)), (1, .int p1)] := hl
  refine lv_iload_n hx hb dX10_needWalker_0 rfl (lv_at hl 1 rfl) ?_
  refine lv_if_lt (tgt := 18) hx hb dX10_needWalker_1 (by decide) (fun c1 => ?_) (fun c1 => ?_)
  · exact k_throwN rx_0 rx_1 rx_2 rx_5 hlt hX hE hxt hP hD hS hl.1 (by decide) (htA _ wd_869) (htA _ wd_23) (xSW_in hE.2.2.2 "LateFalls" 189 "no such walker" (by decide)) (at_X10_185 htA hE.2.2.2) ot_X10_181_185 (htA _ wd_881) (htA _ wd_880) dX10_needWalker_18 dX10_needWalker_21 dX10_needWalker_22 dX10_needWalker_24 dX10_needWalker_27 (by decide) (by decide) (by decide) (by decide) (by decide) (by decide) (⟨rfl, (by have kc1 := c1; (try simp only [fa_lt, fa_le, fa_eq, li_0] at kc1); trivial)⟩)
  · refine lv_iload_n hx hb dX10_needWalker_4 rfl (lv_at hl 1 rfl) ?_
    refine lv_aload_n hx hb dX10_needWalker_5 rfl (lv_at hl 0 rfl) ?_
    refine va_get (ci := 10) (v := .ref (a 3)) (C := RX10) (T := TX10) (N := 13) hx hb htA in_X10 hown hK hP 0 rfl rfl 5 (by decide) (htA _ wd_313) (fun _ h => h) rfl dX10_needWalker_6 ?_
    refine va_get (ci := 6) (v := .ref (a 10)) (C := RX6) (T := TX6) (N := 8) hx hb htA in_X6 hown hK hP 1 rfl rfl 0 (by decide) (htA _ wd_168) (fun _ h => h) rfl dX10_needWalker_9 ?_
    refine va_get (ci := 0) (v := .int 0) (C := RX0) (T := TX0) (N := 10) hx hb htA in_X0 hown hK hP 2 rfl rfl 4 (by decide) (htA _ wd_92) (fun _ h => h) rfl dX10_needWalker_12 ?_
    refine lv_icmp_lt (tgt := 28) hx hb dX10_needWalker_15 (by decide) (fun c2 => absurd c2 c1) (fun c2 => ?_)
    exact k_throwN rx_0 rx_1 rx_2 rx_5 hlt hX hE hxt hP hD hS hl.1 (by decide) (htA _ wd_869) (htA _ wd_23) (xSW_in hE.2.2.2 "LateFalls" 189 "no such walker" (by decide)) (at_X10_185 htA hE.2.2.2) ot_X10_181_185 (htA _ wd_881) (htA _ wd_880) dX10_needWalker_18 dX10_needWalker_21 dX10_needWalker_22 dX10_needWalker_24 dX10_needWalker_27 (by decide) (by decide) (by decide) (by decide) (by decide) (by decide) (⟨rfl, (by have kc1 := c1; have kc2 := c2; (try simp only [fa_lt, fa_le, fa_eq, li_0] at kc1); (try simp only [fa_lt, fa_le, fa_eq, li_0] at kc2); trivial)⟩)
set_option maxHeartbeats 4000000 in
set_option maxRecDepth 100000 in
theorem c_needColumn (l : Launch) (hlt : l.stackTraces = false) (D : va_G) (cy : Nat → ClassId) (a : Nat → Nat) (p1 : Int32) : Xv l yX10_needColumn cX10_needColumn 2 none { frames := 6, cells := 1, slots := 6, locals := 90 } D cy [.ref (a 0), .int p1] [((a 0), .inr (10, [.ref (a 1), .int 0, .int 0, .int (-1), .ref (a 2), .ref (a 3), .ref (a 4), .ref (a 5), .ref (a 6), .ref (a 7), .ref (a 8), .ref (a 9), .int 0])), ((a 3), .inr (6, [.ref (a 10), .int 0, .ref (a 21), .ref (a 22), .ref (a 23), .ref (a 24), .ref (a 25), .int 0])), ((a 10), .inr (0, [.int 0, .int 1, .int 1, .int 0, .int 0, .ref (a 11), .ref (a 12), .ref (a 13), .null, .null]))] (fun W1 => W1 = [((a 0), .inr (10, [.ref (a 1), .int 0, .int 0, .int (-1), .ref (a 2), .ref (a 3), .ref (a 4), .ref (a 5), .ref (a 6), .ref (a 7), .ref (a 8), .ref (a 9), .int 0])), ((a 3), .inr (6, [.ref (a 10), .int 0, .ref (a 21), .ref (a 22), .ref (a 23), .ref (a 24), .ref (a 25), .int 0])), ((a 10), .inr (0, [.int 0, .int 1, .int 1, .int 0, .int 0, .ref (a 11), .ref (a 12), .ref (a 13), .null, .null]))] ∧ p1.toInt = 0) (fun E _ => (E = "java/util/NoSuchElementException" ∧ ¬ p1.toInt = 0)) := by
  refine Xv.of (by decide) (Nat.le_of_ble_eq_true rfl) ?_
  intro p e s m below meth c A ls hX hE hP hD hl hxt
  obtain ⟨hx, hb, hr, hml, hown, htA, hlk⟩ := id hX
  have hK := hE.1
  have hS : va_S A s.heap s.heap [] := va_S.rf
  have hl : lv_has ls 2 [(0, .ref (a 0)), (1, .int p1)] := hl
  refine lv_iload_n hx hb dX10_needColumn_0 rfl (lv_at hl 1 rfl) ?_
  refine lv_if_lt (tgt := 18) hx hb dX10_needColumn_1 (by decide) (fun c1 => ?_) (fun c1 => ?_)
  · exact k_throwN rx_0 rx_1 rx_2 rx_5 hlt hX hE hxt hP hD hS hl.1 (by decide) (htA _ wd_869) (htA _ wd_23) (xSW_in hE.2.2.2 "LateFalls" 194 "no such column" (by decide)) (at_X10_185 htA hE.2.2.2) ot_X10_181_185 (htA _ wd_881) (htA _ wd_880) dX10_needColumn_18 dX10_needColumn_21 dX10_needColumn_22 dX10_needColumn_24 dX10_needColumn_27 (by decide) (by decide) (by decide) (by decide) (by decide) (by decide) (⟨rfl, (by have kc1 := c1; (try simp only [fa_lt, fa_le, fa_eq, li_0] at kc1); omega)⟩)
  · refine lv_iload_n hx hb dX10_needColumn_4 rfl (lv_at hl 1 rfl) ?_
    refine lv_aload_n hx hb dX10_needColumn_5 rfl (lv_at hl 0 rfl) ?_
    refine va_get (ci := 10) (v := .ref (a 3)) (C := RX10) (T := TX10) (N := 13) hx hb htA in_X10 hown hK hP 0 rfl rfl 5 (by decide) (htA _ wd_313) (fun _ h => h) rfl dX10_needColumn_6 ?_
    refine va_get (ci := 6) (v := .ref (a 10)) (C := RX6) (T := TX6) (N := 8) hx hb htA in_X6 hown hK hP 1 rfl rfl 0 (by decide) (htA _ wd_168) (fun _ h => h) rfl dX10_needColumn_9 ?_
    refine va_get (ci := 0) (v := .int 1) (C := RX0) (T := TX0) (N := 10) hx hb htA in_X0 hown hK hP 2 rfl rfl 1 (by decide) (htA _ wd_80) (fun _ h => h) rfl dX10_needColumn_12 ?_
    refine lv_icmp_lt (tgt := 28) hx hb dX10_needColumn_15 (by decide) (fun c2 => ?_) (fun c2 => ?_)
    · exact vx_ret (rV hX hE hP hD hS dX10_needColumn_28 (by decide) (by decide) (⟨rfl, (by have kc1 := c1; have kc2 := c2; (try simp only [fa_lt, fa_le, fa_eq, li_0, li_1] at kc1); (try simp only [fa_lt, fa_le, fa_eq, li_0, li_1] at kc2); omega)⟩))
    · exact k_throwN rx_0 rx_1 rx_2 rx_5 hlt hX hE hxt hP hD hS hl.1 (by decide) (htA _ wd_869) (htA _ wd_23) (xSW_in hE.2.2.2 "LateFalls" 194 "no such column" (by decide)) (at_X10_185 htA hE.2.2.2) ot_X10_181_185 (htA _ wd_881) (htA _ wd_880) dX10_needColumn_18 dX10_needColumn_21 dX10_needColumn_22 dX10_needColumn_24 dX10_needColumn_27 (by decide) (by decide) (by decide) (by decide) (by decide) (by decide) (⟨rfl, (by have kc1 := c1; have kc2 := c2; (try simp only [fa_lt, fa_le, fa_eq, li_0, li_1] at kc1); (try simp only [fa_lt, fa_le, fa_eq, li_0, li_1] at kc2); omega)⟩)
set_option maxHeartbeats 4000000 in
set_option maxRecDepth 100000 in
theorem c_needWithin (l : Launch) (hlt : l.stackTraces = false) (D : va_G) (cy : Nat → ClassId) (a : Nat → Nat) (p1 : Int32) (p2 : Int32) (p3 : Int32) : Xv l yX10_needWithin cX10_needWithin 3 none { frames := 6, cells := 1, slots := 6, locals := 90 } D cy [.int p1, .int p2, .int p3] [] (fun W1 => W1 = [] ∧ (p2.toInt ≤ p1.toInt ∧ p1.toInt ≤ p3.toInt)) (fun E _ => (E = "java/lang/IllegalArgumentException" ∧ (p1.toInt < p2.toInt ∨ p3.toInt < p1.toInt))) := by
  refine Xv.of (by decide) (Nat.le_of_ble_eq_true rfl) ?_
  intro p e s m below meth c A ls hX hE hP hD hl hxt
  obtain ⟨hx, hb, hr, hml, hown, htA, hlk⟩ := id hX
  have hK := hE.1
  have hS : va_S A s.heap s.heap [] := va_S.rf
  have hl : lv_has ls 3 [(0, .int p1), (1, .int p2), (2, .int p3)] := hl
  refine lv_iload_n hx hb dX10_needWithin_0 rfl (lv_at hl 0 rfl) ?_
  refine lv_iload_n hx hb dX10_needWithin_1 rfl (lv_at hl 1 rfl) ?_
  refine lv_icmp_lt (tgt := 10) hx hb dX10_needWithin_2 (by decide) (fun c1 => ?_) (fun c1 => ?_)
  · exact k_throwS hlt hX hE hxt hP hD hS hl.1 (by decide) (htA _ wd_531) (htA _ wd_14) (xSW_in hE.2.2.2 "LateFalls" 202 "out of its bounds" (by decide)) (at_X10_87 htA hE.2.2.2) ot_X10_83_87 dX10_needWithin_10 dX10_needWithin_13 dX10_needWithin_14 dX10_needWithin_16 dX10_needWithin_19 (by decide) (by decide) (by decide) (by decide) (by decide) (by decide) (⟨rfl, (by have kc1 := c1; (try simp only [fa_lt, fa_le, fa_eq] at kc1); omega)⟩)
  · refine lv_iload_n hx hb dX10_needWithin_5 rfl (lv_at hl 0 rfl) ?_
    refine lv_iload_n hx hb dX10_needWithin_6 rfl (lv_at hl 2 rfl) ?_
    refine lv_icmp_le (tgt := 20) hx hb dX10_needWithin_7 (by decide) (fun c2 => ?_) (fun c2 => ?_)
    · exact vx_ret (rV hX hE hP hD hS dX10_needWithin_20 (by decide) (by decide) (⟨rfl, (by have kc1 := c1; have kc2 := c2; (try simp only [fa_lt, fa_le, fa_eq] at kc1); (try simp only [fa_lt, fa_le, fa_eq] at kc2); omega)⟩))
    · exact k_throwS hlt hX hE hxt hP hD hS hl.1 (by decide) (htA _ wd_531) (htA _ wd_14) (xSW_in hE.2.2.2 "LateFalls" 202 "out of its bounds" (by decide)) (at_X10_87 htA hE.2.2.2) ot_X10_83_87 dX10_needWithin_10 dX10_needWithin_13 dX10_needWithin_14 dX10_needWithin_16 dX10_needWithin_19 (by decide) (by decide) (by decide) (by decide) (by decide) (by decide) (⟨rfl, (by have kc1 := c1; have kc2 := c2; (try simp only [fa_lt, fa_le, fa_eq] at kc1); (try simp only [fa_lt, fa_le, fa_eq] at kc2); omega)⟩)
set_option maxHeartbeats 4000000 in
set_option maxRecDepth 100000 in
theorem c_lying (l : Launch) (D : va_G) (cy : Nat → ClassId) (a : Nat → Nat) (p1 : Int32) : Ci l yX6_lying cX6_lying 4 (some .int) { frames := 0, cells := 0, slots := 0, locals := 0 } D cy [.ref (a 3), .int p1] [((a 3), .inr (6, [.ref (a 10), .int 0, .ref (a 21), .ref (a 22), .ref (a 23), .ref (a 24), .ref (a 25), .int 0])), ((a 10), .inr (0, [.int 0, .int 1, .int 1, .int 0, .int 0, .ref (a 11), .ref (a 12), .ref (a 13), .null, .null]))] (fun r W1 => W1 = [((a 3), .inr (6, [.ref (a 10), .int 0, .ref (a 21), .ref (a 22), .ref (a 23), .ref (a 24), .ref (a 25), .int 0])), ((a 10), .inr (0, [.int 0, .int 1, .int 1, .int 0, .int 0, .ref (a 11), .ref (a 12), .ref (a 13), .null, .null]))] ∧ r = 0) := by
  refine Ci.of (by decide) (Nat.le_of_ble_eq_true rfl) ?_
  intro p e s m below meth c A ls hX hE hP hD hl
  obtain ⟨hx, hb, hr, hml, hown, htA, hlk⟩ := id hX
  have hK := hE.1
  have hS : va_S A s.heap s.heap [] := va_S.rf
  have hl : lv_has ls 4 [(0, .ref (a 3)), (1, .int p1)] := hl
  refine lv_iconst (v := 0) hx hb dX6_lying_0 (by decide) ?_
  refine lv_istore_n (lv' := [(2, .int 0), (0, .ref (a 3)), (1, .int p1)]) hx hb dX6_lying_1 rfl hl (by decide) rfl (fun ls hl => ?_)
  refine lv_iconst (v := 0) hx hb dX6_lying_2 (by decide) ?_
  refine lv_istore_n (lv' := [(3, .int 0), (2, .int 0), (0, .ref (a 3)), (1, .int p1)]) hx hb dX6_lying_3 rfl hl (by decide) rfl (fun ls hl => ?_)
  refine lv_iload_n hx hb dX6_lying_4 rfl (lv_at hl 0 rfl) ?_
  refine lv_aload_n hx hb dX6_lying_5 rfl (lv_at hl 2 rfl) ?_
  refine va_get (ci := 6) (v := .ref (a 10)) (C := RX6) (T := TX6) (N := 8) hx hb htA in_X6 hown hK hP 0 rfl rfl 0 (by decide) (htA _ wd_166) (fun _ h => h) rfl dX6_lying_6 ?_
  refine va_get (ci := 0) (v := .int 0) (C := RX0) (T := TX0) (N := 10) hx hb htA in_X0 hown hK hP 1 rfl rfl 3 (by decide) (htA _ wd_86) (fun _ h => h) rfl dX6_lying_9 ?_
  refine lv_icmp_ge (tgt := 44) hx hb dX6_lying_12 (by decide) (fun _ => ?_) (fun q => absurd (by decide) q)
  refine lv_iload_n hx hb dX6_lying_44 rfl (lv_at hl 1 rfl) ?_
  exact rI hX hE hP hD hS dX6_lying_45 (by decide) (by decide) (⟨rfl, rfl⟩)
def kf_thing (p1 : Int32) (p2 : Int32) : Int32 := 1
def vf_thing (p1 : Int32) (p2 : Int32) : Int64 := 0
set_option maxHeartbeats 4000000 in
set_option maxRecDepth 100000 in
theorem m_thing (l : Launch) (hlt : l.stackTraces = false) (D : va_G) (cy : Nat → ClassId) (a : Nat → Nat) (p1 : Int32) (p2 : Int32) : Xi l yX10_thing cX10_thing 4 (some .int) { frames := 7, cells := 1, slots := 6, locals := 111 } D cy [.ref (a 0), .int p1, .int p2] [((a 0), .inr (10, [.ref (a 1), .int 0, .int 0, .int (-1), .ref (a 2), .ref (a 3), .ref (a 4), .ref (a 5), .ref (a 6), .ref (a 7), .ref (a 8), .ref (a 9), .int 0])), ((a 3), .inr (6, [.ref (a 10), .int 0, .ref (a 21), .ref (a 22), .ref (a 23), .ref (a 24), .ref (a 25), .int 0])), ((a 10), .inr (0, [.int 0, .int 1, .int 1, .int 0, .int 0, .ref (a 11), .ref (a 12), .ref (a 13), .null, .null]))] (fun r _ => kf_thing p1 p2 = 0 ∧ r.toInt64 = vf_thing p1 p2) (fun E _ => (E = "java/util/NoSuchElementException" ∧ kf_thing p1 p2 = 1)) := by
  refine Xi.of (by decide) (Nat.le_of_ble_eq_true rfl) ?_
  intro p e s m below meth c A ls hX hE hP hD hl hxt
  obtain ⟨hx, hb, hr, hml, hown, htA, hlk⟩ := id hX
  have hK := hE.1
  have hS : va_S A s.heap s.heap [] := va_S.rf
  have hl : lv_has ls 4 [(0, .ref (a 0)), (1, .int p1), (2, .int p2)] := hl
  refine lv_aload_n hx hb dX10_thing_0 rfl (lv_at hl 0 rfl) ?_
  refine lv_iload_n hx hb dX10_thing_1 rfl (lv_at hl 1 rfl) ?_
  refine xVv (As := [.int p1]) (rest := []) (wr := []) hX hE (c_needThing l hlt D cy a p1) (cwVA 1 htA wd_868 wd_865 wd_1 wd_867 wp_26 (by decide +kernel) ⟨by decide, by decide⟩) hP hD hS [0, 1, 2] [] rfl rfl (by decide) 0 rfl rfl rfl rfl hl.1 rfl (Nat.le_of_ble_eq_true rfl) dX10_thing_2 (by decide) (fun E ce q9 W1 H locs hw hP hD hS hce hcv hcl => ?_) (fun W1 H locs hw hP hD hS => ?_)
  · rcases hw with ⟨rfl, g1⟩
    exact xO hX hE hxt hP hD hS hce hcv hcl (by decide) (by decide) (⟨rfl, (by first | rfl | (unfold kf_thing; (repeat' split) <;> first | rfl | (exfalso; omega)))⟩)
  · exact hw.elim
def kf_walker (p1 : Int32) (p2 : Int32) : Int32 := 1
def vf_walker (p1 : Int32) (p2 : Int32) : Int64 := 0
set_option maxHeartbeats 4000000 in
set_option maxRecDepth 100000 in
theorem m_walker (l : Launch) (hlt : l.stackTraces = false) (D : va_G) (cy : Nat → ClassId) (a : Nat → Nat) (p1 : Int32) (p2 : Int32) : Xi l yX10_walker cX10_walker 3 (some .int) { frames := 7, cells := 1, slots := 6, locals := 111 } D cy [.ref (a 0), .int p1, .int p2] [((a 0), .inr (10, [.ref (a 1), .int 0, .int 0, .int (-1), .ref (a 2), .ref (a 3), .ref (a 4), .ref (a 5), .ref (a 6), .ref (a 7), .ref (a 8), .ref (a 9), .int 0])), ((a 3), .inr (6, [.ref (a 10), .int 0, .ref (a 21), .ref (a 22), .ref (a 23), .ref (a 24), .ref (a 25), .int 0])), ((a 10), .inr (0, [.int 0, .int 1, .int 1, .int 0, .int 0, .ref (a 11), .ref (a 12), .ref (a 13), .null, .null]))] (fun r _ => kf_walker p1 p2 = 0 ∧ r.toInt64 = vf_walker p1 p2) (fun E _ => (E = "java/util/NoSuchElementException" ∧ kf_walker p1 p2 = 1)) := by
  refine Xi.of (by decide) (Nat.le_of_ble_eq_true rfl) ?_
  intro p e s m below meth c A ls hX hE hP hD hl hxt
  obtain ⟨hx, hb, hr, hml, hown, htA, hlk⟩ := id hX
  have hK := hE.1
  have hS : va_S A s.heap s.heap [] := va_S.rf
  have hl : lv_has ls 3 [(0, .ref (a 0)), (1, .int p1), (2, .int p2)] := hl
  refine lv_aload_n hx hb dX10_walker_0 rfl (lv_at hl 0 rfl) ?_
  refine lv_iload_n hx hb dX10_walker_1 rfl (lv_at hl 1 rfl) ?_
  refine xVv (As := [.int p1]) (rest := []) (wr := []) hX hE (c_needWalker l hlt D cy a p1) (cwVA 1 htA wd_896 wd_893 wd_1 wd_895 wp_27 (by decide +kernel) ⟨by decide, by decide⟩) hP hD hS [0, 1, 2] [] rfl rfl (by decide) 0 rfl rfl rfl rfl hl.1 rfl (Nat.le_of_ble_eq_true rfl) dX10_walker_2 (by decide) (fun E ce q9 W1 H locs hw hP hD hS hce hcv hcl => ?_) (fun W1 H locs hw hP hD hS => ?_)
  · rcases hw with ⟨rfl, g1⟩
    exact xO hX hE hxt hP hD hS hce hcv hcl (by decide) (by decide) (⟨rfl, (by first | rfl | (unfold kf_walker; (repeat' split) <;> first | rfl | (exfalso; omega)))⟩)
  · exact hw.elim
def kf_hanging (p1 : Int32) (p2 : Int32) (p3 : Int32) (p4 : Int32) : Int32 := 1
def vf_hanging (p1 : Int32) (p2 : Int32) (p3 : Int32) (p4 : Int32) : Int64 := 0
set_option maxHeartbeats 4000000 in
set_option maxRecDepth 100000 in
theorem m_hanging (l : Launch) (hlt : l.stackTraces = false) (D : va_G) (cy : Nat → ClassId) (a : Nat → Nat) (p1 : Int32) (p2 : Int32) (p3 : Int32) (p4 : Int32) : Xi l yX10_hanging cX10_hanging 6 (some .int) { frames := 7, cells := 1, slots := 6, locals := 111 } D cy [.ref (a 0), .int p1, .int p2, .int p3, .int p4] [((a 0), .inr (10, [.ref (a 1), .int 0, .int 0, .int (-1), .ref (a 2), .ref (a 3), .ref (a 4), .ref (a 5), .ref (a 6), .ref (a 7), .ref (a 8), .ref (a 9), .int 0])), ((a 3), .inr (6, [.ref (a 10), .int 0, .ref (a 21), .ref (a 22), .ref (a 23), .ref (a 24), .ref (a 25), .int 0])), ((a 10), .inr (0, [.int 0, .int 1, .int 1, .int 0, .int 0, .ref (a 11), .ref (a 12), .ref (a 13), .null, .null]))] (fun r _ => kf_hanging p1 p2 p3 p4 = 0 ∧ r.toInt64 = vf_hanging p1 p2 p3 p4) (fun E _ => (E = "java/util/NoSuchElementException" ∧ kf_hanging p1 p2 p3 p4 = 1)) := by
  refine Xi.of (by decide) (Nat.le_of_ble_eq_true rfl) ?_
  intro p e s m below meth c A ls hX hE hP hD hl hxt
  obtain ⟨hx, hb, hr, hml, hown, htA, hlk⟩ := id hX
  have hK := hE.1
  have hS : va_S A s.heap s.heap [] := va_S.rf
  have hl : lv_has ls 6 [(0, .ref (a 0)), (1, .int p1), (2, .int p2), (3, .int p3), (4, .int p4)] := hl
  refine lv_aload_n hx hb dX10_hanging_0 rfl (lv_at hl 0 rfl) ?_
  refine lv_iload_n hx hb dX10_hanging_1 rfl (lv_at hl 1 rfl) ?_
  refine xVv (As := [.int p1]) (rest := []) (wr := []) hX hE (c_needThing l hlt D cy a p1) (cwVA 1 htA wd_868 wd_865 wd_1 wd_867 wp_26 (by decide +kernel) ⟨by decide, by decide⟩) hP hD hS [0, 1, 2] [] rfl rfl (by decide) 0 rfl rfl rfl rfl hl.1 rfl (Nat.le_of_ble_eq_true rfl) dX10_hanging_2 (by decide) (fun E ce q9 W1 H locs hw hP hD hS hce hcv hcl => ?_) (fun W1 H locs hw hP hD hS => ?_)
  · rcases hw with ⟨rfl, g1⟩
    exact xO hX hE hxt hP hD hS hce hcv hcl (by decide) (by decide) (⟨rfl, (by first | rfl | (unfold kf_hanging; (repeat' split) <;> first | rfl | (exfalso; omega)))⟩)
  · exact hw.elim
def kf_falls (p1 : Int32) : Int32 := 1
def vf_falls (p1 : Int32) : Int64 := 0
set_option maxHeartbeats 4000000 in
set_option maxRecDepth 100000 in
theorem m_falls (l : Launch) (hlt : l.stackTraces = false) (D : va_G) (cy : Nat → ClassId) (a : Nat → Nat) (p1 : Int32) : Xi l yX10_falls cX10_falls 2 (some .int) { frames := 7, cells := 1, slots := 6, locals := 111 } D cy [.ref (a 0), .int p1] [((a 0), .inr (10, [.ref (a 1), .int 0, .int 0, .int (-1), .ref (a 2), .ref (a 3), .ref (a 4), .ref (a 5), .ref (a 6), .ref (a 7), .ref (a 8), .ref (a 9), .int 0])), ((a 3), .inr (6, [.ref (a 10), .int 0, .ref (a 21), .ref (a 22), .ref (a 23), .ref (a 24), .ref (a 25), .int 0])), ((a 10), .inr (0, [.int 0, .int 1, .int 1, .int 0, .int 0, .ref (a 11), .ref (a 12), .ref (a 13), .null, .null]))] (fun r _ => kf_falls p1 = 0 ∧ r.toInt64 = vf_falls p1) (fun E _ => (E = "java/util/NoSuchElementException" ∧ kf_falls p1 = 1)) := by
  refine Xi.of (by decide) (Nat.le_of_ble_eq_true rfl) ?_
  intro p e s m below meth c A ls hX hE hP hD hl hxt
  obtain ⟨hx, hb, hr, hml, hown, htA, hlk⟩ := id hX
  have hK := hE.1
  have hS : va_S A s.heap s.heap [] := va_S.rf
  have hl : lv_has ls 2 [(0, .ref (a 0)), (1, .int p1)] := hl
  refine lv_aload_n hx hb dX10_falls_0 rfl (lv_at hl 0 rfl) ?_
  refine lv_iload_n hx hb dX10_falls_1 rfl (lv_at hl 1 rfl) ?_
  refine xVv (As := [.int p1]) (rest := []) (wr := []) hX hE (c_needThing l hlt D cy a p1) (cwVA 1 htA wd_868 wd_865 wd_1 wd_867 wp_26 (by decide +kernel) ⟨by decide, by decide⟩) hP hD hS [0, 1, 2] [] rfl rfl (by decide) 0 rfl rfl rfl rfl hl.1 rfl (Nat.le_of_ble_eq_true rfl) dX10_falls_2 (by decide) (fun E ce q9 W1 H locs hw hP hD hS hce hcv hcl => ?_) (fun W1 H locs hw hP hD hS => ?_)
  · rcases hw with ⟨rfl, g1⟩
    exact xO hX hE hxt hP hD hS hce hcv hcl (by decide) (by decide) (⟨rfl, (by first | rfl | (unfold kf_falls; (repeat' split) <;> first | rfl | (exfalso; omega)))⟩)
  · exact hw.elim
def kf_lands (p1 : Int32) : Int32 := 1
def vf_lands (p1 : Int32) : Int64 := 0
set_option maxHeartbeats 4000000 in
set_option maxRecDepth 100000 in
theorem m_lands (l : Launch) (hlt : l.stackTraces = false) (D : va_G) (cy : Nat → ClassId) (a : Nat → Nat) (p1 : Int32) : Xi l yX10_lands cX10_lands 2 (some .int) { frames := 7, cells := 1, slots := 6, locals := 111 } D cy [.ref (a 0), .int p1] [((a 0), .inr (10, [.ref (a 1), .int 0, .int 0, .int (-1), .ref (a 2), .ref (a 3), .ref (a 4), .ref (a 5), .ref (a 6), .ref (a 7), .ref (a 8), .ref (a 9), .int 0])), ((a 3), .inr (6, [.ref (a 10), .int 0, .ref (a 21), .ref (a 22), .ref (a 23), .ref (a 24), .ref (a 25), .int 0])), ((a 10), .inr (0, [.int 0, .int 1, .int 1, .int 0, .int 0, .ref (a 11), .ref (a 12), .ref (a 13), .null, .null]))] (fun r _ => kf_lands p1 = 0 ∧ r.toInt64 = vf_lands p1) (fun E _ => (E = "java/util/NoSuchElementException" ∧ kf_lands p1 = 1)) := by
  refine Xi.of (by decide) (Nat.le_of_ble_eq_true rfl) ?_
  intro p e s m below meth c A ls hX hE hP hD hl hxt
  obtain ⟨hx, hb, hr, hml, hown, htA, hlk⟩ := id hX
  have hK := hE.1
  have hS : va_S A s.heap s.heap [] := va_S.rf
  have hl : lv_has ls 2 [(0, .ref (a 0)), (1, .int p1)] := hl
  refine lv_aload_n hx hb dX10_lands_0 rfl (lv_at hl 0 rfl) ?_
  refine lv_iload_n hx hb dX10_lands_1 rfl (lv_at hl 1 rfl) ?_
  refine xVv (As := [.int p1]) (rest := []) (wr := []) hX hE (c_needThing l hlt D cy a p1) (cwVA 1 htA wd_868 wd_865 wd_1 wd_867 wp_26 (by decide +kernel) ⟨by decide, by decide⟩) hP hD hS [0, 1, 2] [] rfl rfl (by decide) 0 rfl rfl rfl rfl hl.1 rfl (Nat.le_of_ble_eq_true rfl) dX10_lands_2 (by decide) (fun E ce q9 W1 H locs hw hP hD hS hce hcv hcl => ?_) (fun W1 H locs hw hP hD hS => ?_)
  · rcases hw with ⟨rfl, g1⟩
    exact xO hX hE hxt hP hD hS hce hcv hcl (by decide) (by decide) (⟨rfl, (by first | rfl | (unfold kf_lands; (repeat' split) <;> first | rfl | (exfalso; omega)))⟩)
  · exact hw.elim
def kf_hurtIn (p1 : Int32) : Int32 := 1
def vf_hurtIn (p1 : Int32) : Int64 := 0
set_option maxHeartbeats 4000000 in
set_option maxRecDepth 100000 in
theorem m_hurtIn (l : Launch) (hlt : l.stackTraces = false) (D : va_G) (cy : Nat → ClassId) (a : Nat → Nat) (p1 : Int32) : Xi l yX10_hurtIn cX10_hurtIn 4 (some .int) { frames := 7, cells := 1, slots := 6, locals := 111 } D cy [.ref (a 0), .int p1] [((a 0), .inr (10, [.ref (a 1), .int 0, .int 0, .int (-1), .ref (a 2), .ref (a 3), .ref (a 4), .ref (a 5), .ref (a 6), .ref (a 7), .ref (a 8), .ref (a 9), .int 0])), ((a 3), .inr (6, [.ref (a 10), .int 0, .ref (a 21), .ref (a 22), .ref (a 23), .ref (a 24), .ref (a 25), .int 0])), ((a 10), .inr (0, [.int 0, .int 1, .int 1, .int 0, .int 0, .ref (a 11), .ref (a 12), .ref (a 13), .null, .null]))] (fun r _ => kf_hurtIn p1 = 0 ∧ r.toInt64 = vf_hurtIn p1) (fun E _ => (E = "java/util/NoSuchElementException" ∧ kf_hurtIn p1 = 1)) := by
  refine Xi.of (by decide) (Nat.le_of_ble_eq_true rfl) ?_
  intro p e s m below meth c A ls hX hE hP hD hl hxt
  obtain ⟨hx, hb, hr, hml, hown, htA, hlk⟩ := id hX
  have hK := hE.1
  have hS : va_S A s.heap s.heap [] := va_S.rf
  have hl : lv_has ls 4 [(0, .ref (a 0)), (1, .int p1)] := hl
  refine lv_aload_n hx hb dX10_hurtIn_0 rfl (lv_at hl 0 rfl) ?_
  refine lv_iload_n hx hb dX10_hurtIn_1 rfl (lv_at hl 1 rfl) ?_
  refine xVv (As := [.int p1]) (rest := []) (wr := []) hX hE (c_needWalker l hlt D cy a p1) (cwVA 1 htA wd_896 wd_893 wd_1 wd_895 wp_27 (by decide +kernel) ⟨by decide, by decide⟩) hP hD hS [0, 1, 2] [] rfl rfl (by decide) 0 rfl rfl rfl rfl hl.1 rfl (Nat.le_of_ble_eq_true rfl) dX10_hurtIn_2 (by decide) (fun E ce q9 W1 H locs hw hP hD hS hce hcv hcl => ?_) (fun W1 H locs hw hP hD hS => ?_)
  · rcases hw with ⟨rfl, g1⟩
    exact xO hX hE hxt hP hD hS hce hcv hcl (by decide) (by decide) (⟨rfl, (by first | rfl | (unfold kf_hurtIn; (repeat' split) <;> first | rfl | (exfalso; omega)))⟩)
  · exact hw.elim
def kf_hurts (p1 : Int32) : Int32 := 1
def vf_hurts (p1 : Int32) : Int64 := 0
set_option maxHeartbeats 4000000 in
set_option maxRecDepth 100000 in
theorem m_hurts (l : Launch) (hlt : l.stackTraces = false) (D : va_G) (cy : Nat → ClassId) (a : Nat → Nat) (p1 : Int32) : Xi l yX10_hurts cX10_hurts 2 (some .int) { frames := 7, cells := 1, slots := 6, locals := 111 } D cy [.ref (a 0), .int p1] [((a 0), .inr (10, [.ref (a 1), .int 0, .int 0, .int (-1), .ref (a 2), .ref (a 3), .ref (a 4), .ref (a 5), .ref (a 6), .ref (a 7), .ref (a 8), .ref (a 9), .int 0])), ((a 3), .inr (6, [.ref (a 10), .int 0, .ref (a 21), .ref (a 22), .ref (a 23), .ref (a 24), .ref (a 25), .int 0])), ((a 10), .inr (0, [.int 0, .int 1, .int 1, .int 0, .int 0, .ref (a 11), .ref (a 12), .ref (a 13), .null, .null]))] (fun r _ => kf_hurts p1 = 0 ∧ r.toInt64 = vf_hurts p1) (fun E _ => (E = "java/util/NoSuchElementException" ∧ kf_hurts p1 = 1)) := by
  refine Xi.of (by decide) (Nat.le_of_ble_eq_true rfl) ?_
  intro p e s m below meth c A ls hX hE hP hD hl hxt
  obtain ⟨hx, hb, hr, hml, hown, htA, hlk⟩ := id hX
  have hK := hE.1
  have hS : va_S A s.heap s.heap [] := va_S.rf
  have hl : lv_has ls 2 [(0, .ref (a 0)), (1, .int p1)] := hl
  refine lv_aload_n hx hb dX10_hurts_0 rfl (lv_at hl 0 rfl) ?_
  refine lv_iload_n hx hb dX10_hurts_1 rfl (lv_at hl 1 rfl) ?_
  refine xVv (As := [.int p1]) (rest := []) (wr := []) hX hE (c_needWalker l hlt D cy a p1) (cwVA 1 htA wd_896 wd_893 wd_1 wd_895 wp_27 (by decide +kernel) ⟨by decide, by decide⟩) hP hD hS [0, 1, 2] [] rfl rfl (by decide) 0 rfl rfl rfl rfl hl.1 rfl (Nat.le_of_ble_eq_true rfl) dX10_hurts_2 (by decide) (fun E ce q9 W1 H locs hw hP hD hS hce hcv hcl => ?_) (fun W1 H locs hw hP hD hS => ?_)
  · rcases hw with ⟨rfl, g1⟩
    exact xO hX hE hxt hP hD hS hce hcv hcl (by decide) (by decide) (⟨rfl, (by first | rfl | (unfold kf_hurts; (repeat' split) <;> first | rfl | (exfalso; omega)))⟩)
  · exact hw.elim
def kf_spares (p1 : Int32) (p2 : Int32) : Int32 := 1
def vf_spares (p1 : Int32) (p2 : Int32) : Int64 := 0
set_option maxHeartbeats 4000000 in
set_option maxRecDepth 100000 in
theorem m_spares (l : Launch) (hlt : l.stackTraces = false) (D : va_G) (cy : Nat → ClassId) (a : Nat → Nat) (p1 : Int32) (p2 : Int32) : Xi l yX10_spares cX10_spares 3 (some .int) { frames := 7, cells := 1, slots := 6, locals := 111 } D cy [.ref (a 0), .int p1, .int p2] [((a 0), .inr (10, [.ref (a 1), .int 0, .int 0, .int (-1), .ref (a 2), .ref (a 3), .ref (a 4), .ref (a 5), .ref (a 6), .ref (a 7), .ref (a 8), .ref (a 9), .int 0])), ((a 3), .inr (6, [.ref (a 10), .int 0, .ref (a 21), .ref (a 22), .ref (a 23), .ref (a 24), .ref (a 25), .int 0])), ((a 10), .inr (0, [.int 0, .int 1, .int 1, .int 0, .int 0, .ref (a 11), .ref (a 12), .ref (a 13), .null, .null]))] (fun r _ => kf_spares p1 p2 = 0 ∧ r.toInt64 = vf_spares p1 p2) (fun E _ => (E = "java/util/NoSuchElementException" ∧ kf_spares p1 p2 = 1)) := by
  refine Xi.of (by decide) (Nat.le_of_ble_eq_true rfl) ?_
  intro p e s m below meth c A ls hX hE hP hD hl hxt
  obtain ⟨hx, hb, hr, hml, hown, htA, hlk⟩ := id hX
  have hK := hE.1
  have hS : va_S A s.heap s.heap [] := va_S.rf
  have hl : lv_has ls 3 [(0, .ref (a 0)), (1, .int p1), (2, .int p2)] := hl
  refine lv_aload_n hx hb dX10_spares_0 rfl (lv_at hl 0 rfl) ?_
  refine lv_iload_n hx hb dX10_spares_1 rfl (lv_at hl 1 rfl) ?_
  refine xVv (As := [.int p1]) (rest := []) (wr := []) hX hE (c_needWalker l hlt D cy a p1) (cwVA 1 htA wd_896 wd_893 wd_1 wd_895 wp_27 (by decide +kernel) ⟨by decide, by decide⟩) hP hD hS [0, 1, 2] [] rfl rfl (by decide) 0 rfl rfl rfl rfl hl.1 rfl (Nat.le_of_ble_eq_true rfl) dX10_spares_2 (by decide) (fun E ce q9 W1 H locs hw hP hD hS hce hcv hcl => ?_) (fun W1 H locs hw hP hD hS => ?_)
  · rcases hw with ⟨rfl, g1⟩
    exact xO hX hE hxt hP hD hS hce hcv hcl (by decide) (by decide) (⟨rfl, (by first | rfl | (unfold kf_spares; (repeat' split) <;> first | rfl | (exfalso; omega)))⟩)
  · exact hw.elim
def kf_height (p1 : Int32) : Int32 := if p1.toInt = 0 then 0 else 1
def vf_height (p1 : Int32) : Int64 := 0
set_option maxHeartbeats 4000000 in
set_option maxRecDepth 100000 in
theorem m_height (l : Launch) (hlt : l.stackTraces = false) (D : va_G) (cy : Nat → ClassId) (a : Nat → Nat) (p1 : Int32) : Xi l yX10_height cX10_height 2 (some .int) { frames := 7, cells := 1, slots := 6, locals := 111 } D cy [.ref (a 0), .int p1] [((a 0), .inr (10, [.ref (a 1), .int 0, .int 0, .int (-1), .ref (a 2), .ref (a 3), .ref (a 4), .ref (a 5), .ref (a 6), .ref (a 7), .ref (a 8), .ref (a 9), .int 0])), ((a 3), .inr (6, [.ref (a 10), .int 0, .ref (a 21), .ref (a 22), .ref (a 23), .ref (a 24), .ref (a 25), .int 0])), ((a 10), .inr (0, [.int 0, .int 1, .int 1, .int 0, .int 0, .ref (a 11), .ref (a 12), .ref (a 13), .null, .null]))] (fun r _ => kf_height p1 = 0 ∧ r.toInt64 = vf_height p1) (fun E _ => (E = "java/util/NoSuchElementException" ∧ kf_height p1 = 1)) := by
  refine Xi.of (by decide) (Nat.le_of_ble_eq_true rfl) ?_
  intro p e s m below meth c A ls hX hE hP hD hl hxt
  obtain ⟨hx, hb, hr, hml, hown, htA, hlk⟩ := id hX
  have hK := hE.1
  have hS : va_S A s.heap s.heap [] := va_S.rf
  have hl : lv_has ls 2 [(0, .ref (a 0)), (1, .int p1)] := hl
  refine lv_aload_n hx hb dX10_height_0 rfl (lv_at hl 0 rfl) ?_
  refine lv_iload_n hx hb dX10_height_1 rfl (lv_at hl 1 rfl) ?_
  refine xVv (As := [.int p1]) (rest := []) (wr := []) hX hE (c_needColumn l hlt D cy a p1) (cwVA 1 htA wd_909 wd_906 wd_1 wd_908 wp_28 (by decide +kernel) ⟨by decide, by decide⟩) hP hD hS [0, 1, 2] [] rfl rfl (by decide) 0 rfl rfl rfl rfl hl.1 rfl (Nat.le_of_ble_eq_true rfl) dX10_height_2 (by decide) (fun E ce q9 W1 H locs hw hP hD hS hce hcv hcl => ?_) (fun W1 H locs hw hP hD hS => ?_)
  · rcases hw with ⟨rfl, g1⟩
    exact xO hX hE hxt hP hD hS hce hcv hcl (by decide) (by decide) (⟨rfl, (by have kg1 := g1; (try simp only [fa_lt, fa_le, fa_eq, li_0] at kg1); first | rfl | (unfold kf_height; (repeat' split) <;> first | rfl | (exfalso; omega)))⟩)
  · refine W.widen (k := 1) (n := 6) (by decide) (by decide) ?_
    obtain ⟨rfl, g2⟩ := hw
    have hP : va_P D vwCl [((a 0), .inr (10, [.ref (a 1), .int 0, .int 0, .int (-1), .ref (a 2), .ref (a 3), .ref (a 4), .ref (a 5), .ref (a 6), .ref (a 7), .ref (a 8), .ref (a 9), .int 0])), ((a 3), .inr (6, [.ref (a 10), .int 0, .ref (a 21), .ref (a 22), .ref (a 23), .ref (a 24), .ref (a 25), .int 0])), ((a 10), .inr (0, [.int 0, .int 1, .int 1, .int 0, .int 0, .ref (a 11), .ref (a 12), .ref (a 13), .null, .null]))] H := hP
    have hD : va_D A [((a 0), .inr (10, [.ref (a 1), .int 0, .int 0, .int (-1), .ref (a 2), .ref (a 3), .ref (a 4), .ref (a 5), .ref (a 6), .ref (a 7), .ref (a 8), .ref (a 9), .int 0])), ((a 3), .inr (6, [.ref (a 10), .int 0, .ref (a 21), .ref (a 22), .ref (a 23), .ref (a 24), .ref (a 25), .int 0])), ((a 10), .inr (0, [.int 0, .int 1, .int 1, .int 0, .int 0, .ref (a 11), .ref (a 12), .ref (a 13), .null, .null]))] := hD
    refine lv_aload_n hx hb dX10_height_5 rfl (lv_at hl 0 rfl) ?_
    refine va_get (ci := 10) (v := .ref (a 3)) (C := RX10) (T := TX10) (N := 13) hx hb htA in_X10 hown hK hP 0 rfl rfl 5 (by decide) (htA _ wd_313) (fun _ h => h) rfl dX10_height_6 ?_
    refine lv_iload_n hx hb dX10_height_9 rfl (lv_at hl 1 rfl) ?_
    refine kVi (As := [.int p1]) (rest := []) (wr := [((a 0), .inr (10, [.ref (a 1), .int 0, .int 0, .int (-1), .ref (a 2), .ref (a 3), .ref (a 4), .ref (a 5), .ref (a 6), .ref (a 7), .ref (a 8), .ref (a 9), .int 0]))]) hX hE (c_lying l D cy a p1) (cwVA 1 htA wd_379 wd_911 wd_6 wd_377 wd_378 (by decide +kernel) ⟨by decide, by decide⟩) hP hD hS [1, 2] [0] rfl rfl (by decide) 0 rfl rfl rfl rfl hl.1 rfl (Nat.le_of_ble_eq_true rfl) dX10_height_10 (by decide) (fun r_ W1 H locs hw hP hD hS => ?_)
    refine W.widen (k := 1) (n := 6) (by decide) (by decide) ?_
    obtain ⟨rfl, rfl⟩ := hw
    have hP : va_P D vwCl [((a 0), .inr (10, [.ref (a 1), .int 0, .int 0, .int (-1), .ref (a 2), .ref (a 3), .ref (a 4), .ref (a 5), .ref (a 6), .ref (a 7), .ref (a 8), .ref (a 9), .int 0])), ((a 3), .inr (6, [.ref (a 10), .int 0, .ref (a 21), .ref (a 22), .ref (a 23), .ref (a 24), .ref (a 25), .int 0])), ((a 10), .inr (0, [.int 0, .int 1, .int 1, .int 0, .int 0, .ref (a 11), .ref (a 12), .ref (a 13), .null, .null]))] H := hP
    have hD : va_D A [((a 0), .inr (10, [.ref (a 1), .int 0, .int 0, .int (-1), .ref (a 2), .ref (a 3), .ref (a 4), .ref (a 5), .ref (a 6), .ref (a 7), .ref (a 8), .ref (a 9), .int 0])), ((a 3), .inr (6, [.ref (a 10), .int 0, .ref (a 21), .ref (a 22), .ref (a 23), .ref (a 24), .ref (a 25), .int 0])), ((a 10), .inr (0, [.int 0, .int 1, .int 1, .int 0, .int 0, .ref (a 11), .ref (a 12), .ref (a 13), .null, .null]))] := hD
    exact vx_ret (rI hX hE hP hD hS dX10_height_13 (by decide) (by decide) (⟨(by have kg2 := g2; (try simp only [fa_lt, fa_le, fa_eq, li_0] at kg2); first | rfl | (unfold kf_height; (repeat' split) <;> first | rfl | (exfalso; omega))), (by have kg2 := g2; (try simp only [fa_lt, fa_le, fa_eq, li_0] at kg2); first | rfl | decide | (unfold vf_height; (repeat' split) <;> first | rfl | decide | (exfalso; omega)))⟩))
